theorem kX5_begin_79 : Cond.fieldLink RX5 79 "PricedUndoModel" "clipped" "I" ∈ wsX5_begin := by decide +kernel
theorem nX5_begin_X5 : ∀ w ∈ u_ws RX5 TX5 17, w ∈ wsX5_begin := by decide +kernel
theorem kX5_begin_7 : Cond.fieldLink RX5 7 "PricedUndoModel" "s" "[I" ∈ wsX5_begin := by decide +kernel
theorem kX5_begin_27 : Cond.fieldLink RX5 27 "PricedUndoModel" "clip" "[B" ∈ wsX5_begin := by decide +kernel
set_option maxHeartbeats 4000000 in
set_option maxRecDepth 100000 in
theorem m_begin (l : Launch) (D : va_G) (cI cB cZ cO : ClassId) (sz : Nat) (hm : Nat) (m1 : Nat) (m2 : Nat) (m3 : Nat) (m4 : Nat) (m5 : Nat) (m6 : Nat) (m7 : Nat) (m8 : Nat) (pa : Nat) (pb : Nat) (cp : Nat) (ty : Nat) (nx : Nat) (fi : Int) (se : Int) (le : Nat) (bp : Int) (cn : Nat) (en : Nat) (ac : Nat) (cu : Nat) (co : Nat → Nat) (au : Nat → Int) (er : Nat → Nat) (ki : Nat → Nat) (bs : Nat → Int) (cl : Nat → Nat) (hcp : cp ≤ 60) : Met l yX5_begin wsX5_begin ({ frames := 0, cells := 0, slots := 0, locals := 0 }) (va_Pc [.ref hm] (RW D cI cB cZ cO sz [(hm, .inr (5, [.ref m1, .ref m2, .ref m3, .int (iI ((pa : Nat) : Int)), .int (iI ((pb : Nat) : Int)), .ref m4, .int (iI ((cp : Nat) : Int)), .ref m5, .int (iI ((ty : Nat) : Int)), .ref m6, .int (iI ((nx : Nat) : Int)), .int (iI (fi)), .int (iI (se)), .int (iI ((le : Nat) : Int)), .ref m7, .int (iI (bp)), .ref m8])), (m1, .inl (cI, 516, .inl (rI (sF cn en ac cu co au er ki bs)))), (m4, .inl (cB, 60, .inl (rN (cl))))])) (QX D (S := Unit) (fun u => some (.int (iI ((cp : Nat) : Int)))) (fun u => True) (fun u => [(hm, .inr (5, [.ref m1, .ref m2, .ref m3, .int (iI ((pa : Nat) : Int)), .int (iI ((pb : Nat) : Int)), .ref m4, .int (iI 0), .ref m5, .int (iI ((ty : Nat) : Int)), .ref m6, .int (iI ((nx : Nat) : Int)), .int (iI (fi)), .int (iI (se)), .int (iI ((le : Nat) : Int)), .ref m7, .int (iI (bp)), .ref m8])), (m1, .inl (cI, 516, .inl (rI (sF cp 0 0 0 (preF (fun _ => 0) cl cp) (pmI cp) ((fun _ => 0)) ((fun _ => 0)) ((fun _ => 0)))))), (m4, .inl (cB, 60, .inl (rN (cl))))]) (va_A [(hm, .inr (5, [.ref m1, .ref m2, .ref m3, .int (iI ((pa : Nat) : Int)), .int (iI ((pb : Nat) : Int)), .ref m4, .int (iI ((cp : Nat) : Int)), .ref m5, .int (iI ((ty : Nat) : Int)), .ref m6, .int (iI ((nx : Nat) : Int)), .int (iI (fi)), .int (iI (se)), .int (iI ((le : Nat) : Int)), .ref m7, .int (iI (bp)), .ref m8])), (m1, .inl (cI, 516, .inl (rI (sF cn en ac cu co au er ki bs)))), (m4, .inl (cB, 60, .inl (rN (cl))))] sz)) 0 0 (va_A [(hm, .inr (5, [.ref m1, .ref m2, .ref m3, .int (iI ((pa : Nat) : Int)), .int (iI ((pb : Nat) : Int)), .ref m4, .int (iI ((cp : Nat) : Int)), .ref m5, .int (iI ((ty : Nat) : Int)), .ref m6, .int (iI ((nx : Nat) : Int)), .int (iI (fi)), .int (iI (se)), .int (iI ((le : Nat) : Int)), .ref m7, .int (iI (bp)), .ref m8])), (m1, .inl (cI, 516, .inl (rI (sF cn en ac cu co au er ki bs)))), (m4, .inl (cB, 60, .inl (rN (cl))))] sz) := by
  refine startW (cc := cX5_begin) (maxL := 2) (ret := (some .int)) (by decide) rfl (Nat.le_of_ble_eq_true rfl) ?_
  intro p e s m below meth c S hr hlocks hE hP A hD hA hS ls hl
  have hx := S.1
  have hb := S.2.1
  have hown := S.2.2.2.1
  have hts := S.2.2.2.2
  have hK := hE.1
  have hl : lv_has ls 2 [(0, .ref hm)] := hl
  refine r_iconst hx hb dX5_begin_0 ?_
  refine lv_istore_n (lv' := [(1, .int (iI 0)), (0, .ref hm)]) hx hb dX5_begin_1 rfl hl (by decide) rfl (fun ls hl => ?_)
  have loop_2 : ∀ (n_2 : Nat) (k : Nat), (516 - k) < n_2 → (k ≤ 516) → ∀ (H : Heap) (locs : List Loc), va_P D vwCl [(hm, .inr (5, [.ref m1, .ref m2, .ref m3, .int (iI ((pa : Nat) : Int)), .int (iI ((pb : Nat) : Int)), .ref m4, .int (iI ((cp : Nat) : Int)), .ref m5, .int (iI ((ty : Nat) : Int)), .ref m6, .int (iI ((nx : Nat) : Int)), .int (iI (fi)), .int (iI (se)), .int (iI ((le : Nat) : Int)), .ref m7, .int (iI (bp)), .ref m8])), (m1, .inl (cI, 516, .inl (rI (zI (sF cn en ac cu co au er ki bs) k)))), (m4, .inl (cB, 60, .inl (rN (cl))))] H → va_D A [(hm, .inr (5, [.ref m1, .ref m2, .ref m3, .int (iI ((pa : Nat) : Int)), .int (iI ((pb : Nat) : Int)), .ref m4, .int (iI ((cp : Nat) : Int)), .ref m5, .int (iI ((ty : Nat) : Int)), .ref m6, .int (iI ((nx : Nat) : Int)), .int (iI (fi)), .int (iI (se)), .int (iI ((le : Nat) : Int)), .ref m7, .int (iI (bp)), .ref m8])), (m1, .inl (cI, 516, .inl (rI (zI (sF cn en ac cu co au er ki bs) k)))), (m4, .inl (cB, 60, .inl (rN (cl))))] → va_S A s.heap H locs → ∀ (ls : Array Slot), lv_has ls 2 [(0, .ref hm), (1, .int (iI ((k : Nat) : Int)))] → W p l e ({ frames := 0, cells := 0, slots := 0, locals := 0 }) s m ([.ref hm] : List Value).toArray below meth c H locs 0 0 (MQ below (QX D (S := Unit) (fun u => some (.int (iI ((cp : Nat) : Int)))) (fun u => True) (fun u => [(hm, .inr (5, [.ref m1, .ref m2, .ref m3, .int (iI ((pa : Nat) : Int)), .int (iI ((pb : Nat) : Int)), .ref m4, .int (iI 0), .ref m5, .int (iI ((ty : Nat) : Int)), .ref m6, .int (iI ((nx : Nat) : Int)), .int (iI (fi)), .int (iI (se)), .int (iI ((le : Nat) : Int)), .ref m7, .int (iI (bp)), .ref m8])), (m1, .inl (cI, 516, .inl (rI (sF cp 0 0 0 (preF (fun _ => 0) cl cp) (pmI cp) ((fun _ => 0)) ((fun _ => 0)) ((fun _ => 0)))))), (m4, .inl (cB, 60, .inl (rN (cl))))]) A) ([.ref hm] : List Value).toArray s 0 0 A) (F0 m 2 ls []) := by
    intro n_2
    induction n_2 with
    | zero => intro k h_meas; exact absurd h_meas (Nat.not_lt_zero _)
    | succ n_2 ih_2 =>
      intro k h_m2 ik H locs hP hD hS ls hl
      refine lv_iload_n hx hb dX5_begin_2 rfl (lv_at hl 1 rfl) ?_
      refine r_sipush hx hb dX5_begin_3 (by decide) ?_
      refine r_icmp_ge (tgt := 22) hx hb (by omega) (⟨by decide, by decide⟩) dX5_begin_6 (by decide) (fun c_1 => ?_) (fun c_1 => ?_)
      · skip
        obtain rfl : 516 = k := by omega
        have hP : va_P D vwCl [(hm, .inr (5, [.ref m1, .ref m2, .ref m3, .int (iI ((pa : Nat) : Int)), .int (iI ((pb : Nat) : Int)), .ref m4, .int (iI ((cp : Nat) : Int)), .ref m5, .int (iI ((ty : Nat) : Int)), .ref m6, .int (iI ((nx : Nat) : Int)), .int (iI (fi)), .int (iI (se)), .int (iI ((le : Nat) : Int)), .ref m7, .int (iI (bp)), .ref m8])), (m1, .inl (cI, 516, .inl (rI (sF 0 0 0 0 ((fun _ => 0)) ((fun _ => 0)) ((fun _ => 0)) ((fun _ => 0)) ((fun _ => 0)))))), (m4, .inl (cB, 60, .inl (rN (cl))))] H := hP.congr 1 rfl (cv_z) rfl
        have hD : va_D A [(hm, .inr (5, [.ref m1, .ref m2, .ref m3, .int (iI ((pa : Nat) : Int)), .int (iI ((pb : Nat) : Int)), .ref m4, .int (iI ((cp : Nat) : Int)), .ref m5, .int (iI ((ty : Nat) : Int)), .ref m6, .int (iI ((nx : Nat) : Int)), .int (iI (fi)), .int (iI (se)), .int (iI ((le : Nat) : Int)), .ref m7, .int (iI (bp)), .ref m8])), (m1, .inl (cI, 516, .inl (rI (sF 0 0 0 0 ((fun _ => 0)) ((fun _ => 0)) ((fun _ => 0)) ((fun _ => 0)) ((fun _ => 0)))))), (m4, .inl (cB, 60, .inl (rN (cl))))] := hD.congr 1 rfl rfl
        refine r_iconst hx hb dX5_begin_22 ?_
        refine lv_istore_n (lv' := [(1, .int (iI 0)), (0, .ref hm)]) hx hb dX5_begin_23 rfl hl (by decide) rfl (fun ls hl => ?_)
        have loop_24 : ∀ (n_24 : Nat) (k : Nat), (cp - k) < n_24 → (k ≤ cp) → ∀ (H : Heap) (locs : List Loc), va_P D vwCl [(hm, .inr (5, [.ref m1, .ref m2, .ref m3, .int (iI ((pa : Nat) : Int)), .int (iI ((pb : Nat) : Int)), .ref m4, .int (iI ((cp : Nat) : Int)), .ref m5, .int (iI ((ty : Nat) : Int)), .ref m6, .int (iI ((nx : Nat) : Int)), .int (iI (fi)), .int (iI (se)), .int (iI ((le : Nat) : Int)), .ref m7, .int (iI (bp)), .ref m8])), (m1, .inl (cI, 516, .inl (rI (sF 0 0 0 0 (preF (fun _ => 0) cl k) (pmI k) ((fun _ => 0)) ((fun _ => 0)) ((fun _ => 0)))))), (m4, .inl (cB, 60, .inl (rN (cl))))] H → va_D A [(hm, .inr (5, [.ref m1, .ref m2, .ref m3, .int (iI ((pa : Nat) : Int)), .int (iI ((pb : Nat) : Int)), .ref m4, .int (iI ((cp : Nat) : Int)), .ref m5, .int (iI ((ty : Nat) : Int)), .ref m6, .int (iI ((nx : Nat) : Int)), .int (iI (fi)), .int (iI (se)), .int (iI ((le : Nat) : Int)), .ref m7, .int (iI (bp)), .ref m8])), (m1, .inl (cI, 516, .inl (rI (sF 0 0 0 0 (preF (fun _ => 0) cl k) (pmI k) ((fun _ => 0)) ((fun _ => 0)) ((fun _ => 0)))))), (m4, .inl (cB, 60, .inl (rN (cl))))] → va_S A s.heap H locs → ∀ (ls : Array Slot), lv_has ls 2 [(0, .ref hm), (1, .int (iI ((k : Nat) : Int)))] → W p l e ({ frames := 0, cells := 0, slots := 0, locals := 0 }) s m ([.ref hm] : List Value).toArray below meth c H locs 0 0 (MQ below (QX D (S := Unit) (fun u => some (.int (iI ((cp : Nat) : Int)))) (fun u => True) (fun u => [(hm, .inr (5, [.ref m1, .ref m2, .ref m3, .int (iI ((pa : Nat) : Int)), .int (iI ((pb : Nat) : Int)), .ref m4, .int (iI 0), .ref m5, .int (iI ((ty : Nat) : Int)), .ref m6, .int (iI ((nx : Nat) : Int)), .int (iI (fi)), .int (iI (se)), .int (iI ((le : Nat) : Int)), .ref m7, .int (iI (bp)), .ref m8])), (m1, .inl (cI, 516, .inl (rI (sF cp 0 0 0 (preF (fun _ => 0) cl cp) (pmI cp) ((fun _ => 0)) ((fun _ => 0)) ((fun _ => 0)))))), (m4, .inl (cB, 60, .inl (rN (cl))))]) A) ([.ref hm] : List Value).toArray s 0 0 A) (F0 m 24 ls []) := by
          intro n_24
          induction n_24 with
          | zero => intro k h_meas; exact absurd h_meas (Nat.not_lt_zero _)
          | succ n_24 ih_24 =>
            intro k h_m24 ik H locs hP hD hS ls hl
            refine lv_iload_n hx hb dX5_begin_24 rfl (lv_at hl 1 rfl) ?_
            refine lv_aload_n hx hb dX5_begin_25 rfl (lv_at hl 0 rfl) ?_
            refine va_get (D := D) (ci := 5) (v := .int (iI ((cp : Nat) : Int))) (C := RX5) (T := TX5) (N := 17) hx hb hts nX5_begin_X5 hown hK hP 0 rfl rfl 6 (by decide) (hts _ kX5_begin_79) (fun _ h9 => h9) rfl dX5_begin_26 ?_
            refine r_icmp_ge (tgt := 63) hx hb (by omega) (by omega) dX5_begin_29 (by decide) (fun c_2 => ?_) (fun c_2 => ?_)
            · skip
              obtain rfl : cp = k := by omega
              refine lv_aload_n hx hb dX5_begin_63 rfl (lv_at hl 0 rfl) ?_
              refine va_get (D := D) (ci := 5) (v := .ref m1) (C := RX5) (T := TX5) (N := 17) hx hb hts nX5_begin_X5 hown hK hP 0 rfl rfl 0 (by decide) (hts _ kX5_begin_7) (fun _ h9 => h9) rfl dX5_begin_64 ?_
              refine r_iconst hx hb dX5_begin_67 ?_
              refine lv_aload_n hx hb dX5_begin_68 rfl (lv_at hl 0 rfl) ?_
              refine va_get (D := D) (ci := 5) (v := .int (iI ((cp : Nat) : Int))) (C := RX5) (T := TX5) (N := 17) hx hb hts nX5_begin_X5 hown hK hP 0 rfl rfl 6 (by decide) (hts _ kX5_begin_79) (fun _ h9 => h9) rfl dX5_begin_69 ?_
              refine r_iastV (g := sF cp 0 0 0 (preF (fun _ => 0) cl cp) (pmI cp) ((fun _ => 0)) ((fun _ => 0)) ((fun _ => 0))) (v := ((cp : Nat) : Int)) hx hb hK hP hD hS 1 0 rfl rfl (0) (rfl) (by decide) (by decide) (sF_ucn) dX5_begin_72 (fun H locs hP hD hS => ?_)
              have hP : va_P D vwCl [(hm, .inr (5, [.ref m1, .ref m2, .ref m3, .int (iI ((pa : Nat) : Int)), .int (iI ((pb : Nat) : Int)), .ref m4, .int (iI ((cp : Nat) : Int)), .ref m5, .int (iI ((ty : Nat) : Int)), .ref m6, .int (iI ((nx : Nat) : Int)), .int (iI (fi)), .int (iI (se)), .int (iI ((le : Nat) : Int)), .ref m7, .int (iI (bp)), .ref m8])), (m1, .inl (cI, 516, .inl (rI (sF cp 0 0 0 (preF (fun _ => 0) cl cp) (pmI cp) ((fun _ => 0)) ((fun _ => 0)) ((fun _ => 0)))))), (m4, .inl (cB, 60, .inl (rN (cl))))] H := hP
              have hD : va_D A [(hm, .inr (5, [.ref m1, .ref m2, .ref m3, .int (iI ((pa : Nat) : Int)), .int (iI ((pb : Nat) : Int)), .ref m4, .int (iI ((cp : Nat) : Int)), .ref m5, .int (iI ((ty : Nat) : Int)), .ref m6, .int (iI ((nx : Nat) : Int)), .int (iI (fi)), .int (iI (se)), .int (iI ((le : Nat) : Int)), .ref m7, .int (iI (bp)), .ref m8])), (m1, .inl (cI, 516, .inl (rI (sF cp 0 0 0 (preF (fun _ => 0) cl cp) (pmI cp) ((fun _ => 0)) ((fun _ => 0)) ((fun _ => 0)))))), (m4, .inl (cB, 60, .inl (rN (cl))))] := hD
              refine lv_aload_n hx hb dX5_begin_73 rfl (lv_at hl 0 rfl) ?_
              refine r_iconst hx hb dX5_begin_74 ?_
              refine va_put (D := D) (ci := 5) (v := .int (iI 0)) (ty := .int) (C := RX5) (T := TX5) (N := 17) hx hb hts nX5_begin_X5 tyX5 tyX5_ok nmX5 hown hK hP hD hS 0 rfl rfl 6 (by decide) (hts _ kX5_begin_79) (fun _ h9 => h9) rfl (by decide +kernel) rfl rfl (Nat.le_of_ble_eq_true rfl) dX5_begin_75 (fun H locs hP hD hS => ?_)
              have hP : va_P D vwCl [(hm, .inr (5, [.ref m1, .ref m2, .ref m3, .int (iI ((pa : Nat) : Int)), .int (iI ((pb : Nat) : Int)), .ref m4, .int (iI 0), .ref m5, .int (iI ((ty : Nat) : Int)), .ref m6, .int (iI ((nx : Nat) : Int)), .int (iI (fi)), .int (iI (se)), .int (iI ((le : Nat) : Int)), .ref m7, .int (iI (bp)), .ref m8])), (m1, .inl (cI, 516, .inl (rI (sF cp 0 0 0 (preF (fun _ => 0) cl cp) (pmI cp) ((fun _ => 0)) ((fun _ => 0)) ((fun _ => 0)))))), (m4, .inl (cB, 60, .inl (rN (cl))))] H := hP
              have hD : va_D A [(hm, .inr (5, [.ref m1, .ref m2, .ref m3, .int (iI ((pa : Nat) : Int)), .int (iI ((pb : Nat) : Int)), .ref m4, .int (iI 0), .ref m5, .int (iI ((ty : Nat) : Int)), .ref m6, .int (iI ((nx : Nat) : Int)), .int (iI (fi)), .int (iI (se)), .int (iI ((le : Nat) : Int)), .ref m7, .int (iI (bp)), .ref m8])), (m1, .inl (cI, 516, .inl (rI (sF cp 0 0 0 (preF (fun _ => 0) cl cp) (pmI cp) ((fun _ => 0)) ((fun _ => 0)) ((fun _ => 0)))))), (m4, .inl (cB, 60, .inl (rN (cl))))] := hD
              refine lv_aload_n hx hb dX5_begin_78 rfl (lv_at hl 0 rfl) ?_
              refine va_get (D := D) (ci := 5) (v := .ref m1) (C := RX5) (T := TX5) (N := 17) hx hb hts nX5_begin_X5 hown hK hP 0 rfl rfl 0 (by decide) (hts _ kX5_begin_7) (fun _ h9 => h9) rfl dX5_begin_79 ?_
              refine r_iconst hx hb dX5_begin_82 ?_
              refine r_ialdV (v := ((cp : Nat) : Int)) hx hb hK hP 1 0 rfl rfl (0) (rfl) (by decide) (by decide) (rfl) dX5_begin_83 ?_
              exact r_iretX hx hb hr hlocks hP hD hS () (rfl) (trivial) rfl dX5_begin_84
            · skip
              refine lv_aload_n hx hb dX5_begin_32 rfl (lv_at hl 0 rfl) ?_
              refine va_get (D := D) (ci := 5) (v := .ref m1) (C := RX5) (T := TX5) (N := 17) hx hb hts nX5_begin_X5 hown hK hP 0 rfl rfl 0 (by decide) (hts _ kX5_begin_7) (fun _ h9 => h9) rfl dX5_begin_33 ?_
              refine r_iconst hx hb dX5_begin_36 ?_
              refine lv_iload_n hx hb dX5_begin_37 rfl (lv_at hl 1 rfl) ?_
              refine r_iadd (v := ((4 + k : Nat) : Int)) hx hb (rfl) dX5_begin_38 ?_
              refine lv_aload_n hx hb dX5_begin_39 rfl (lv_at hl 0 rfl) ?_
              refine va_get (D := D) (ci := 5) (v := .ref m4) (C := RX5) (T := TX5) (N := 17) hx hb hts nX5_begin_X5 hown hK hP 0 rfl rfl 5 (by decide) (hts _ kX5_begin_27) (fun _ h9 => h9) rfl dX5_begin_40 ?_
              refine lv_iload_n hx hb dX5_begin_43 rfl (lv_at hl 1 rfl) ?_
              refine r_baldN hx hb hK hP 2 1 rfl rfl (k) (rfl) (by omega) (by decide) dX5_begin_44 ?_
              refine r_iastV (g := sF 0 0 0 0 (up (preF (fun _ => 0) cl k) k (cl k)) (pmI k) ((fun _ => 0)) ((fun _ => 0)) ((fun _ => 0))) (v := ((cl k : Nat) : Int)) hx hb hK hP hD hS 1 0 rfl rfl (4 + k) (rfl) (by omega) (by decide) (sF_uco (by omega)) dX5_begin_45 (fun H locs hP hD hS => ?_)
              have hP : va_P D vwCl [(hm, .inr (5, [.ref m1, .ref m2, .ref m3, .int (iI ((pa : Nat) : Int)), .int (iI ((pb : Nat) : Int)), .ref m4, .int (iI ((cp : Nat) : Int)), .ref m5, .int (iI ((ty : Nat) : Int)), .ref m6, .int (iI ((nx : Nat) : Int)), .int (iI (fi)), .int (iI (se)), .int (iI ((le : Nat) : Int)), .ref m7, .int (iI (bp)), .ref m8])), (m1, .inl (cI, 516, .inl (rI (sF 0 0 0 0 (up (preF (fun _ => 0) cl k) k (cl k)) (pmI k) ((fun _ => 0)) ((fun _ => 0)) ((fun _ => 0)))))), (m4, .inl (cB, 60, .inl (rN (cl))))] H := hP
              have hD : va_D A [(hm, .inr (5, [.ref m1, .ref m2, .ref m3, .int (iI ((pa : Nat) : Int)), .int (iI ((pb : Nat) : Int)), .ref m4, .int (iI ((cp : Nat) : Int)), .ref m5, .int (iI ((ty : Nat) : Int)), .ref m6, .int (iI ((nx : Nat) : Int)), .int (iI (fi)), .int (iI (se)), .int (iI ((le : Nat) : Int)), .ref m7, .int (iI (bp)), .ref m8])), (m1, .inl (cI, 516, .inl (rI (sF 0 0 0 0 (up (preF (fun _ => 0) cl k) k (cl k)) (pmI k) ((fun _ => 0)) ((fun _ => 0)) ((fun _ => 0)))))), (m4, .inl (cB, 60, .inl (rN (cl))))] := hD
              refine lv_aload_n hx hb dX5_begin_46 rfl (lv_at hl 0 rfl) ?_
              refine va_get (D := D) (ci := 5) (v := .ref m1) (C := RX5) (T := TX5) (N := 17) hx hb hts nX5_begin_X5 hown hK hP 0 rfl rfl 0 (by decide) (hts _ kX5_begin_7) (fun _ h9 => h9) rfl dX5_begin_47 ?_
              refine r_sipush hx hb dX5_begin_50 (by decide) ?_
              refine lv_iload_n hx hb dX5_begin_53 rfl (lv_at hl 1 rfl) ?_
              refine r_iadd (v := ((164 + k : Nat) : Int)) hx hb (rfl) dX5_begin_54 ?_
              refine r_iconst hx hb dX5_begin_55 ?_
              refine r_iastV (g := sF 0 0 0 0 (up (preF (fun _ => 0) cl k) k (cl k)) (up (pmI k) k (-1)) ((fun _ => 0)) ((fun _ => 0)) ((fun _ => 0))) (v := (-1)) hx hb hK hP hD hS 1 0 rfl rfl (164 + k) (rfl) (by omega) (by decide) (sF_uau (by omega)) dX5_begin_56 (fun H locs hP hD hS => ?_)
              have hP : va_P D vwCl [(hm, .inr (5, [.ref m1, .ref m2, .ref m3, .int (iI ((pa : Nat) : Int)), .int (iI ((pb : Nat) : Int)), .ref m4, .int (iI ((cp : Nat) : Int)), .ref m5, .int (iI ((ty : Nat) : Int)), .ref m6, .int (iI ((nx : Nat) : Int)), .int (iI (fi)), .int (iI (se)), .int (iI ((le : Nat) : Int)), .ref m7, .int (iI (bp)), .ref m8])), (m1, .inl (cI, 516, .inl (rI (sF 0 0 0 0 (up (preF (fun _ => 0) cl k) k (cl k)) (up (pmI k) k (-1)) ((fun _ => 0)) ((fun _ => 0)) ((fun _ => 0)))))), (m4, .inl (cB, 60, .inl (rN (cl))))] H := hP
              have hD : va_D A [(hm, .inr (5, [.ref m1, .ref m2, .ref m3, .int (iI ((pa : Nat) : Int)), .int (iI ((pb : Nat) : Int)), .ref m4, .int (iI ((cp : Nat) : Int)), .ref m5, .int (iI ((ty : Nat) : Int)), .ref m6, .int (iI ((nx : Nat) : Int)), .int (iI (fi)), .int (iI (se)), .int (iI ((le : Nat) : Int)), .ref m7, .int (iI (bp)), .ref m8])), (m1, .inl (cI, 516, .inl (rI (sF 0 0 0 0 (up (preF (fun _ => 0) cl k) k (cl k)) (up (pmI k) k (-1)) ((fun _ => 0)) ((fun _ => 0)) ((fun _ => 0)))))), (m4, .inl (cB, 60, .inl (rN (cl))))] := hD
              refine lv_iinc (v := iI ((k + 1 : Nat) : Int)) (lv' := [(1, .int (iI ((k + 1 : Nat) : Int))), (0, .ref hm)]) hx hb dX5_begin_57 hl (k := 1) rfl ((iI_add _ _).trans (ii (rfl))) (by decide) rfl (fun ls hl => ?_)
              refine lv_goto (tgt := 24) hx hb dX5_begin_60 (by decide) ?_
              have hww : ([(hm, .inr (5, [.ref m1, .ref m2, .ref m3, .int (iI ((pa : Nat) : Int)), .int (iI ((pb : Nat) : Int)), .ref m4, .int (iI ((cp : Nat) : Int)), .ref m5, .int (iI ((ty : Nat) : Int)), .ref m6, .int (iI ((nx : Nat) : Int)), .int (iI (fi)), .int (iI (se)), .int (iI ((le : Nat) : Int)), .ref m7, .int (iI (bp)), .ref m8])), (m1, .inl (cI, 516, .inl (rI (sF 0 0 0 0 (up (preF (fun _ => 0) cl k) k (cl k)) (up (pmI k) k (-1)) ((fun _ => 0)) ((fun _ => 0)) ((fun _ => 0)))))), (m4, .inl (cB, 60, .inl (rN (cl))))] : va_W) = [(hm, .inr (5, [.ref m1, .ref m2, .ref m3, .int (iI ((pa : Nat) : Int)), .int (iI ((pb : Nat) : Int)), .ref m4, .int (iI ((cp : Nat) : Int)), .ref m5, .int (iI ((ty : Nat) : Int)), .ref m6, .int (iI ((nx : Nat) : Int)), .int (iI (fi)), .int (iI (se)), .int (iI ((le : Nat) : Int)), .ref m7, .int (iI (bp)), .ref m8])), (m1, .inl (cI, 516, .inl (rI (sF 0 0 0 0 (preF (fun _ => 0) cl (k + 1)) (pmI (k + 1)) ((fun _ => 0)) ((fun _ => 0)) ((fun _ => 0)))))), (m4, .inl (cB, 60, .inl (rN (cl))))] := by rw [preF_s, pmI_s]
              rw [hww] at hP hD
              exact ih_24 (k + 1) (by omega) (by first | assumption | (omega)) H locs hP hD hS ls (lv_sub hl [1, 0] rfl)
        have hww : ([(hm, .inr (5, [.ref m1, .ref m2, .ref m3, .int (iI ((pa : Nat) : Int)), .int (iI ((pb : Nat) : Int)), .ref m4, .int (iI ((cp : Nat) : Int)), .ref m5, .int (iI ((ty : Nat) : Int)), .ref m6, .int (iI ((nx : Nat) : Int)), .int (iI (fi)), .int (iI (se)), .int (iI ((le : Nat) : Int)), .ref m7, .int (iI (bp)), .ref m8])), (m1, .inl (cI, 516, .inl (rI (sF 0 0 0 0 ((fun _ => 0)) ((fun _ => 0)) ((fun _ => 0)) ((fun _ => 0)) ((fun _ => 0)))))), (m4, .inl (cB, 60, .inl (rN (cl))))] : va_W) = [(hm, .inr (5, [.ref m1, .ref m2, .ref m3, .int (iI ((pa : Nat) : Int)), .int (iI ((pb : Nat) : Int)), .ref m4, .int (iI ((cp : Nat) : Int)), .ref m5, .int (iI ((ty : Nat) : Int)), .ref m6, .int (iI ((nx : Nat) : Int)), .int (iI (fi)), .int (iI (se)), .int (iI ((le : Nat) : Int)), .ref m7, .int (iI (bp)), .ref m8])), (m1, .inl (cI, 516, .inl (rI (sF 0 0 0 0 (preF (fun _ => 0) cl 0) (pmI 0) ((fun _ => 0)) ((fun _ => 0)) ((fun _ => 0)))))), (m4, .inl (cB, 60, .inl (rN (cl))))] := by rw [preF_0, pmI_0]
        rw [hww] at hP hD
        exact loop_24 ((cp - 0) + 1) 0 (by omega) (by first | assumption | (omega)) H locs hP hD hS ls (lv_sub hl [1, 0] rfl)
      · skip
        refine lv_aload_n hx hb dX5_begin_9 rfl (lv_at hl 0 rfl) ?_
        refine va_get (D := D) (ci := 5) (v := .ref m1) (C := RX5) (T := TX5) (N := 17) hx hb hts nX5_begin_X5 hown hK hP 0 rfl rfl 0 (by decide) (hts _ kX5_begin_7) (fun _ h9 => h9) rfl dX5_begin_10 ?_
        refine lv_iload_n hx hb dX5_begin_13 rfl (lv_at hl 1 rfl) ?_
        refine r_iconst hx hb dX5_begin_14 ?_
        refine r_iast (v := 0) hx hb hK hP hD hS 1 0 rfl rfl (k) (rfl) (by omega) (by decide) dX5_begin_15 (fun H locs hP hD hS => ?_)
        have hP : va_P D vwCl [(hm, .inr (5, [.ref m1, .ref m2, .ref m3, .int (iI ((pa : Nat) : Int)), .int (iI ((pb : Nat) : Int)), .ref m4, .int (iI ((cp : Nat) : Int)), .ref m5, .int (iI ((ty : Nat) : Int)), .ref m6, .int (iI ((nx : Nat) : Int)), .int (iI (fi)), .int (iI (se)), .int (iI ((le : Nat) : Int)), .ref m7, .int (iI (bp)), .ref m8])), (m1, .inl (cI, 516, .inl (rI (up (zI (sF cn en ac cu co au er ki bs) k) k 0)))), (m4, .inl (cB, 60, .inl (rN (cl))))] H := hP
        have hD : va_D A [(hm, .inr (5, [.ref m1, .ref m2, .ref m3, .int (iI ((pa : Nat) : Int)), .int (iI ((pb : Nat) : Int)), .ref m4, .int (iI ((cp : Nat) : Int)), .ref m5, .int (iI ((ty : Nat) : Int)), .ref m6, .int (iI ((nx : Nat) : Int)), .int (iI (fi)), .int (iI (se)), .int (iI ((le : Nat) : Int)), .ref m7, .int (iI (bp)), .ref m8])), (m1, .inl (cI, 516, .inl (rI (up (zI (sF cn en ac cu co au er ki bs) k) k 0)))), (m4, .inl (cB, 60, .inl (rN (cl))))] := hD
        refine lv_iinc (v := iI ((k + 1 : Nat) : Int)) (lv' := [(1, .int (iI ((k + 1 : Nat) : Int))), (0, .ref hm)]) hx hb dX5_begin_16 hl (k := 1) rfl ((iI_add _ _).trans (ii (rfl))) (by decide) rfl (fun ls hl => ?_)
        refine lv_goto (tgt := 2) hx hb dX5_begin_19 (by decide) ?_
        have hww : ([(hm, .inr (5, [.ref m1, .ref m2, .ref m3, .int (iI ((pa : Nat) : Int)), .int (iI ((pb : Nat) : Int)), .ref m4, .int (iI ((cp : Nat) : Int)), .ref m5, .int (iI ((ty : Nat) : Int)), .ref m6, .int (iI ((nx : Nat) : Int)), .int (iI (fi)), .int (iI (se)), .int (iI ((le : Nat) : Int)), .ref m7, .int (iI (bp)), .ref m8])), (m1, .inl (cI, 516, .inl (rI (up (zI (sF cn en ac cu co au er ki bs) k) k 0)))), (m4, .inl (cB, 60, .inl (rN (cl))))] : va_W) = [(hm, .inr (5, [.ref m1, .ref m2, .ref m3, .int (iI ((pa : Nat) : Int)), .int (iI ((pb : Nat) : Int)), .ref m4, .int (iI ((cp : Nat) : Int)), .ref m5, .int (iI ((ty : Nat) : Int)), .ref m6, .int (iI ((nx : Nat) : Int)), .int (iI (fi)), .int (iI (se)), .int (iI ((le : Nat) : Int)), .ref m7, .int (iI (bp)), .ref m8])), (m1, .inl (cI, 516, .inl (rI (zI (sF cn en ac cu co au er ki bs) (k + 1))))), (m4, .inl (cB, 60, .inl (rN (cl))))] := by rw [zI_s]
        rw [hww] at hP hD
        exact ih_2 (k + 1) (by omega) (by first | assumption | (omega)) H locs hP hD hS ls (lv_sub hl [1, 0] rfl)
  have hww : ([(hm, .inr (5, [.ref m1, .ref m2, .ref m3, .int (iI ((pa : Nat) : Int)), .int (iI ((pb : Nat) : Int)), .ref m4, .int (iI ((cp : Nat) : Int)), .ref m5, .int (iI ((ty : Nat) : Int)), .ref m6, .int (iI ((nx : Nat) : Int)), .int (iI (fi)), .int (iI (se)), .int (iI ((le : Nat) : Int)), .ref m7, .int (iI (bp)), .ref m8])), (m1, .inl (cI, 516, .inl (rI (sF cn en ac cu co au er ki bs)))), (m4, .inl (cB, 60, .inl (rN (cl))))] : va_W) = [(hm, .inr (5, [.ref m1, .ref m2, .ref m3, .int (iI ((pa : Nat) : Int)), .int (iI ((pb : Nat) : Int)), .ref m4, .int (iI ((cp : Nat) : Int)), .ref m5, .int (iI ((ty : Nat) : Int)), .ref m6, .int (iI ((nx : Nat) : Int)), .int (iI (fi)), .int (iI (se)), .int (iI ((le : Nat) : Int)), .ref m7, .int (iI (bp)), .ref m8])), (m1, .inl (cI, 516, .inl (rI (zI (sF cn en ac cu co au er ki bs) 0)))), (m4, .inl (cB, 60, .inl (rN (cl))))] := by rw [zI_0]
  rw [hww] at hP hD
  exact loop_2 ((516 - 0) + 1) 0 (by omega) (by first | assumption | (omega)) s.heap [] hP hD hS ls (lv_sub hl [1, 0] rfl)

set_option maxHeartbeats 4000000 in
set_option maxRecDepth 100000 in
theorem m_save_bad (l : Launch) (D : va_G) (cI cB cZ cO : ClassId) (hm : Nat) (m1 : Nat) (m2 : Nat) (m3 : Nat) (m4 : Nat) (m5 : Nat) (m6 : Nat) (m7 : Nat) (m8 : Nat) (pa : Nat) (pb : Nat) (cp : Nat) (ty : Nat) (nx : Nat) (fi : Int) (se : Int) (le : Nat) (bp : Int) (cn : Nat) (en : Nat) (ac : Nat) (cu : Nat) (co : Nat → Nat) (au : Nat → Int) (er : Nat → Nat) (ki : Nat → Nat) (bs : Nat → Int) (x : Int) (rx : rg x) (hbad : ¬ (0 ≤ x ∧ x ≤ 1)) : Met l yX5_save wsX5_save ({ frames := 1, cells := 0, slots := 0, locals := 22 }) (va_Pc [.ref hm, .int (iI (x))] (RO D cI cB cZ cO [(hm, .inr (5, [.ref m1, .ref m2, .ref m3, .int (iI ((pa : Nat) : Int)), .int (iI ((pb : Nat) : Int)), .ref m4, .int (iI ((cp : Nat) : Int)), .ref m5, .int (iI ((ty : Nat) : Int)), .ref m6, .int (iI ((nx : Nat) : Int)), .int (iI (fi)), .int (iI (se)), .int (iI ((le : Nat) : Int)), .ref m7, .int (iI (bp)), .ref m8])), (m1, .inl (cI, 516, .inl (rI (sF cn en ac cu co au er ki bs))))])) (QO (-1)) 0 0 (fun _ => False) := by
  refine startO (cc := cX5_save) (maxL := 3) (ret := (some .int)) (by decide) rfl (Nat.le_of_ble_eq_true rfl) ?_
  intro p e s m below meth c S hr hlocks hE hP ls hl
  have hx := S.1
  have hb := S.2.1
  have hown := S.2.2.2.1
  have hts := S.2.2.2.2
  have hK := hE.1
  have hl : lv_has ls 3 [(0, .ref hm), (1, .int (iI (x)))] := hl
  refine lv_iload_n hx hb dX5_save_0 rfl (lv_at hl 1 rfl) ?_
  refine r_iconst hx hb dX5_save_1 ?_
  refine r_iconst hx hb dX5_save_2 ?_
  rw [show (0 : Int) = (0) from by omega]
  rw [show (1 : Int) = (1) from by omega]
  refine callSO (n := 3) (As := [.int (iI (x)), .int (iI (0)), .int (iI (1))]) (rest := []) (wc := []) S (m_in l D cI cB cZ cO x 0 1 (by first | assumption | (omega)) (by first | assumption | (omega)) (by first | assumption | (omega))) gX5_save_X5_in rfl ⟨rfl, rfl⟩ (by decide +kernel) ⟨Nat.le_of_ble_eq_true rfl, Nat.le_of_ble_eq_true rfl⟩ hE hP [] rfl rfl hl.1 rfl (Nat.le_of_ble_eq_true rfl) dX5_save_3 ⟨Nat.le_of_ble_eq_true rfl, Nat.le_of_ble_eq_true rfl⟩ ?_
  refine r_ifb_ne (tgt := 11) hx hb dX5_save_6 (by decide) (fun c_1 => ?_) (fun c_1 => ?_)
  · skip
    exfalso; exact hbad (by assumption)
  · skip
    refine r_iconst hx hb dX5_save_9 ?_
    exact r_iretO hx hb hr hlocks (rfl) dX5_save_10

set_option maxHeartbeats 4000000 in
set_option maxRecDepth 100000 in
theorem m_unkept_bad (l : Launch) (D : va_G) (cI cB cZ cO : ClassId) (hm : Nat) (m1 : Nat) (m2 : Nat) (m3 : Nat) (m4 : Nat) (m5 : Nat) (m6 : Nat) (m7 : Nat) (m8 : Nat) (pa : Nat) (pb : Nat) (cp : Nat) (ty : Nat) (nx : Nat) (fi : Int) (se : Int) (le : Nat) (bp : Int) (cn : Nat) (en : Nat) (ac : Nat) (cu : Nat) (co : Nat → Nat) (au : Nat → Int) (er : Nat → Nat) (ki : Nat → Nat) (bs : Nat → Int) (x : Int) (rx : rg x) (hbad : ¬ (0 ≤ x ∧ x ≤ 1)) : Met l yX5_unkept wsX5_unkept ({ frames := 1, cells := 0, slots := 0, locals := 22 }) (va_Pc [.ref hm, .int (iI (x))] (RO D cI cB cZ cO [(hm, .inr (5, [.ref m1, .ref m2, .ref m3, .int (iI ((pa : Nat) : Int)), .int (iI ((pb : Nat) : Int)), .ref m4, .int (iI ((cp : Nat) : Int)), .ref m5, .int (iI ((ty : Nat) : Int)), .ref m6, .int (iI ((nx : Nat) : Int)), .int (iI (fi)), .int (iI (se)), .int (iI ((le : Nat) : Int)), .ref m7, .int (iI (bp)), .ref m8])), (m1, .inl (cI, 516, .inl (rI (sF cn en ac cu co au er ki bs))))])) (QO (-1)) 0 0 (fun _ => False) := by
  refine startO (cc := cX5_unkept) (maxL := 2) (ret := (some .int)) (by decide) rfl (Nat.le_of_ble_eq_true rfl) ?_
  intro p e s m below meth c S hr hlocks hE hP ls hl
  have hx := S.1
  have hb := S.2.1
  have hown := S.2.2.2.1
  have hts := S.2.2.2.2
  have hK := hE.1
  have hl : lv_has ls 2 [(0, .ref hm), (1, .int (iI (x)))] := hl
  refine lv_iload_n hx hb dX5_unkept_0 rfl (lv_at hl 1 rfl) ?_
  refine r_iconst hx hb dX5_unkept_1 ?_
  refine r_iconst hx hb dX5_unkept_2 ?_
  rw [show (0 : Int) = (0) from by omega]
  rw [show (1 : Int) = (1) from by omega]
  refine callSO (n := 3) (As := [.int (iI (x)), .int (iI (0)), .int (iI (1))]) (rest := []) (wc := []) S (m_in l D cI cB cZ cO x 0 1 (by first | assumption | (omega)) (by first | assumption | (omega)) (by first | assumption | (omega))) gX5_unkept_X5_in rfl ⟨rfl, rfl⟩ (by decide +kernel) ⟨Nat.le_of_ble_eq_true rfl, Nat.le_of_ble_eq_true rfl⟩ hE hP [] rfl rfl hl.1 rfl (Nat.le_of_ble_eq_true rfl) dX5_unkept_3 ⟨Nat.le_of_ble_eq_true rfl, Nat.le_of_ble_eq_true rfl⟩ ?_
  refine r_ifb_ne (tgt := 13) hx hb dX5_unkept_6 (by decide) (fun c_1 => ?_) (fun c_1 => ?_)
  · skip
    exfalso; exact hbad (by assumption)
  · skip
    refine r_iconst hx hb dX5_unkept_9 ?_
    refine lv_goto (tgt := 28) hx hb dX5_unkept_10 (by decide) ?_
    exact r_iretO hx hb hr hlocks (rfl) dX5_unkept_28

theorem kX5_save_16 : Cond.fieldLink RX5 16 "PricedUndoModel" "isKept" "[Z" ∈ wsX5_save := by decide +kernel
theorem nX5_save_X5 : ∀ w ∈ u_ws RX5 TX5 17, w ∈ wsX5_save := by decide +kernel
theorem kX5_save_13 : Cond.fieldLink RX5 13 "PricedUndoModel" "slots" "[I" ∈ wsX5_save := by decide +kernel
theorem kX5_save_7 : Cond.fieldLink RX5 7 "PricedUndoModel" "s" "[I" ∈ wsX5_save := by decide +kernel
set_option maxHeartbeats 4000000 in
set_option maxRecDepth 100000 in
theorem m_save_0 (l : Launch) (D : va_G) (cI cB cZ cO : ClassId) (sz : Nat) (hm : Nat) (m1 : Nat) (m2 : Nat) (m3 : Nat) (m4 : Nat) (m5 : Nat) (m6 : Nat) (m7 : Nat) (m8 : Nat) (pa : Nat) (pb : Nat) (cp : Nat) (ty : Nat) (nx : Nat) (fi : Int) (se : Int) (le : Nat) (bp : Int) (cn : Nat) (en : Nat) (ac : Nat) (cu : Nat) (co : Nat → Nat) (au : Nat → Int) (er : Nat → Nat) (ki : Nat → Nat) (bs : Nat → Int) (sl : Nat → Int) (kp : Nat → Nat) (hcn : cn ≤ 160) (hac : ac < 65536) (hau : ∀ k, -1 ≤ au k ∧ au k < 16) (her : ∀ k, er k < 65536) : Met l yX5_save wsX5_save ({ frames := 3, cells := 0, slots := 0, locals := 66 }) (va_Pc [.ref hm, .int (iI 0)] (RW D cI cB cZ cO sz [(hm, .inr (5, [.ref m1, .ref m2, .ref m3, .int (iI ((pa : Nat) : Int)), .int (iI ((pb : Nat) : Int)), .ref m4, .int (iI ((cp : Nat) : Int)), .ref m5, .int (iI ((ty : Nat) : Int)), .ref m6, .int (iI ((nx : Nat) : Int)), .int (iI (fi)), .int (iI (se)), .int (iI ((le : Nat) : Int)), .ref m7, .int (iI (bp)), .ref m8])), (m1, .inl (cI, 516, .inl (rI (sF cn en ac cu co au er ki bs)))), (m2, .inl (cI, 1032, .inl (rI (sl)))), (m3, .inl (cZ, 2, .inl (rN (kp))))])) (QX D (S := Unit) (fun u => some (.int (iI ((cnt (visb (omF au) er ac) cn : Nat) : Int)))) (fun u => True) (fun u => [(hm, .inr (5, [.ref m1, .ref m2, .ref m3, .int (iI ((pa : Nat) : Int)), .int (iI ((pb : Nat) : Int)), .ref m4, .int (iI ((cp : Nat) : Int)), .ref m5, .int (iI ((ty : Nat) : Int)), .ref m6, .int (iI ((nx : Nat) : Int)), .int (iI (fi)), .int (iI (se)), .int (iI ((le : Nat) : Int)), .ref m7, .int (iI (bp)), .ref m8])), (m1, .inl (cI, 516, .inl (rI (sF cn en ac cu co au er ki bs)))), (m2, .inl (cI, 1032, .inl (rI (inI sl (516 * 0) (sF cn en ac cu co au er ki bs) 516)))), (m3, .inl (cZ, 2, .inl (rN (up kp 0 (1)))))]) (va_A [(hm, .inr (5, [.ref m1, .ref m2, .ref m3, .int (iI ((pa : Nat) : Int)), .int (iI ((pb : Nat) : Int)), .ref m4, .int (iI ((cp : Nat) : Int)), .ref m5, .int (iI ((ty : Nat) : Int)), .ref m6, .int (iI ((nx : Nat) : Int)), .int (iI (fi)), .int (iI (se)), .int (iI ((le : Nat) : Int)), .ref m7, .int (iI (bp)), .ref m8])), (m1, .inl (cI, 516, .inl (rI (sF cn en ac cu co au er ki bs)))), (m2, .inl (cI, 1032, .inl (rI (sl)))), (m3, .inl (cZ, 2, .inl (rN (kp))))] sz)) 0 0 (va_A [(hm, .inr (5, [.ref m1, .ref m2, .ref m3, .int (iI ((pa : Nat) : Int)), .int (iI ((pb : Nat) : Int)), .ref m4, .int (iI ((cp : Nat) : Int)), .ref m5, .int (iI ((ty : Nat) : Int)), .ref m6, .int (iI ((nx : Nat) : Int)), .int (iI (fi)), .int (iI (se)), .int (iI ((le : Nat) : Int)), .ref m7, .int (iI (bp)), .ref m8])), (m1, .inl (cI, 516, .inl (rI (sF cn en ac cu co au er ki bs)))), (m2, .inl (cI, 1032, .inl (rI (sl)))), (m3, .inl (cZ, 2, .inl (rN (kp))))] sz) := by
  refine startW (cc := cX5_save) (maxL := 3) (ret := (some .int)) (by decide) rfl (Nat.le_of_ble_eq_true rfl) ?_
  intro p e s m below meth c S hr hlocks hE hP A hD hA hS ls hl
  have hx := S.1
  have hb := S.2.1
  have hown := S.2.2.2.1
  have hts := S.2.2.2.2
  have hK := hE.1
  have hl : lv_has ls 3 [(0, .ref hm), (1, .int (iI 0))] := hl
  refine lv_iload_n hx hb dX5_save_0 rfl (lv_at hl 1 rfl) ?_
  refine r_iconst hx hb dX5_save_1 ?_
  refine r_iconst hx hb dX5_save_2 ?_
  rw [show (0 : Int) = (0) from by omega]
  rw [show (0 : Int) = (0) from by omega]
  rw [show (1 : Int) = (1) from by omega]
  refine callSO (n := 3) (As := [.int (iI (0)), .int (iI (0)), .int (iI (1))]) (rest := []) (wc := []) S (m_in l D cI cB cZ cO 0 0 1 (by first | assumption | (omega)) (by first | assumption | (omega)) (by first | assumption | (omega))) gX5_save_X5_in rfl ⟨rfl, rfl⟩ (by decide +kernel) ⟨Nat.le_of_ble_eq_true rfl, Nat.le_of_ble_eq_true rfl⟩ hE hP [] rfl rfl hl.1 rfl (Nat.le_of_ble_eq_true rfl) dX5_save_3 ⟨Nat.le_of_ble_eq_true rfl, Nat.le_of_ble_eq_true rfl⟩ ?_
  refine r_ifb_ne (tgt := 11) hx hb dX5_save_6 (by decide) (fun c_1 => ?_) (fun c_1 => ?_)
  · skip
    refine r_iconst hx hb dX5_save_11 ?_
    refine lv_istore_n (lv' := [(2, .int (iI 0)), (0, .ref hm), (1, .int (iI 0))]) hx hb dX5_save_12 rfl hl (by decide) rfl (fun ls hl => ?_)
    have loop_13 : ∀ (n_13 : Nat) (d : Nat), (516 - d) < n_13 → (d ≤ 516) → ∀ (H : Heap) (locs : List Loc), va_P D vwCl [(hm, .inr (5, [.ref m1, .ref m2, .ref m3, .int (iI ((pa : Nat) : Int)), .int (iI ((pb : Nat) : Int)), .ref m4, .int (iI ((cp : Nat) : Int)), .ref m5, .int (iI ((ty : Nat) : Int)), .ref m6, .int (iI ((nx : Nat) : Int)), .int (iI (fi)), .int (iI (se)), .int (iI ((le : Nat) : Int)), .ref m7, .int (iI (bp)), .ref m8])), (m1, .inl (cI, 516, .inl (rI (sF cn en ac cu co au er ki bs)))), (m2, .inl (cI, 1032, .inl (rI (inI sl (516 * 0) (sF cn en ac cu co au er ki bs) d)))), (m3, .inl (cZ, 2, .inl (rN (kp))))] H → va_D A [(hm, .inr (5, [.ref m1, .ref m2, .ref m3, .int (iI ((pa : Nat) : Int)), .int (iI ((pb : Nat) : Int)), .ref m4, .int (iI ((cp : Nat) : Int)), .ref m5, .int (iI ((ty : Nat) : Int)), .ref m6, .int (iI ((nx : Nat) : Int)), .int (iI (fi)), .int (iI (se)), .int (iI ((le : Nat) : Int)), .ref m7, .int (iI (bp)), .ref m8])), (m1, .inl (cI, 516, .inl (rI (sF cn en ac cu co au er ki bs)))), (m2, .inl (cI, 1032, .inl (rI (inI sl (516 * 0) (sF cn en ac cu co au er ki bs) d)))), (m3, .inl (cZ, 2, .inl (rN (kp))))] → va_S A s.heap H locs → ∀ (ls : Array Slot), lv_has ls 3 [(0, .ref hm), (1, .int (iI 0)), (2, .int (iI ((d : Nat) : Int)))] → W p l e ({ frames := 3, cells := 0, slots := 0, locals := 66 }) s m ([.ref hm, .int (iI 0)] : List Value).toArray below meth c H locs 0 0 (MQ below (QX D (S := Unit) (fun u => some (.int (iI ((cnt (visb (omF au) er ac) cn : Nat) : Int)))) (fun u => True) (fun u => [(hm, .inr (5, [.ref m1, .ref m2, .ref m3, .int (iI ((pa : Nat) : Int)), .int (iI ((pb : Nat) : Int)), .ref m4, .int (iI ((cp : Nat) : Int)), .ref m5, .int (iI ((ty : Nat) : Int)), .ref m6, .int (iI ((nx : Nat) : Int)), .int (iI (fi)), .int (iI (se)), .int (iI ((le : Nat) : Int)), .ref m7, .int (iI (bp)), .ref m8])), (m1, .inl (cI, 516, .inl (rI (sF cn en ac cu co au er ki bs)))), (m2, .inl (cI, 1032, .inl (rI (inI sl (516 * 0) (sF cn en ac cu co au er ki bs) 516)))), (m3, .inl (cZ, 2, .inl (rN (up kp 0 (1)))))]) A) ([.ref hm, .int (iI 0)] : List Value).toArray s 0 0 A) (F0 m 13 ls []) := by
      intro n_13
      induction n_13 with
      | zero => intro d h_meas; exact absurd h_meas (Nat.not_lt_zero _)
      | succ n_13 ih_13 =>
        intro d h_m13 id H locs hP hD hS ls hl
        refine lv_iload_n hx hb dX5_save_13 rfl (lv_at hl 2 rfl) ?_
        refine r_sipush hx hb dX5_save_14 (by decide) ?_
        refine r_icmp_ge (tgt := 44) hx hb (by omega) (⟨by decide, by decide⟩) dX5_save_17 (by decide) (fun c_2 => ?_) (fun c_2 => ?_)
        · skip
          obtain rfl : 516 = d := by omega
          refine lv_aload_n hx hb dX5_save_44 rfl (lv_at hl 0 rfl) ?_
          refine va_get (D := D) (ci := 5) (v := .ref m3) (C := RX5) (T := TX5) (N := 17) hx hb hts nX5_save_X5 hown hK hP 0 rfl rfl 2 (by decide) (hts _ kX5_save_16) (fun _ h9 => h9) rfl dX5_save_45 ?_
          refine lv_iload_n hx hb dX5_save_48 rfl (lv_at hl 1 rfl) ?_
          refine r_iconst hx hb dX5_save_49 ?_
          refine r_zastN (v := (1)) hx hb hK hP hD hS 3 2 rfl rfl (0) (rfl) (by omega) (by decide) (rfl) dX5_save_50 (fun H locs hP hD hS => ?_)
          have hP : va_P D vwCl [(hm, .inr (5, [.ref m1, .ref m2, .ref m3, .int (iI ((pa : Nat) : Int)), .int (iI ((pb : Nat) : Int)), .ref m4, .int (iI ((cp : Nat) : Int)), .ref m5, .int (iI ((ty : Nat) : Int)), .ref m6, .int (iI ((nx : Nat) : Int)), .int (iI (fi)), .int (iI (se)), .int (iI ((le : Nat) : Int)), .ref m7, .int (iI (bp)), .ref m8])), (m1, .inl (cI, 516, .inl (rI (sF cn en ac cu co au er ki bs)))), (m2, .inl (cI, 1032, .inl (rI (inI sl (516 * 0) (sF cn en ac cu co au er ki bs) 516)))), (m3, .inl (cZ, 2, .inl (rN (up kp 0 (1)))))] H := hP
          have hD : va_D A [(hm, .inr (5, [.ref m1, .ref m2, .ref m3, .int (iI ((pa : Nat) : Int)), .int (iI ((pb : Nat) : Int)), .ref m4, .int (iI ((cp : Nat) : Int)), .ref m5, .int (iI ((ty : Nat) : Int)), .ref m6, .int (iI ((nx : Nat) : Int)), .int (iI (fi)), .int (iI (se)), .int (iI ((le : Nat) : Int)), .ref m7, .int (iI (bp)), .ref m8])), (m1, .inl (cI, 516, .inl (rI (sF cn en ac cu co au er ki bs)))), (m2, .inl (cI, 1032, .inl (rI (inI sl (516 * 0) (sF cn en ac cu co au er ki bs) 516)))), (m3, .inl (cZ, 2, .inl (rN (up kp 0 (1)))))] := hD
          refine lv_aload_n hx hb dX5_save_51 rfl (lv_at hl 0 rfl) ?_
          refine callVO (n := 0) (As := []) (rest := []) (wc := [(hm, .inr (5, [.ref m1, .ref m2, .ref m3, .int (iI ((pa : Nat) : Int)), .int (iI ((pb : Nat) : Int)), .ref m4, .int (iI ((cp : Nat) : Int)), .ref m5, .int (iI ((ty : Nat) : Int)), .ref m6, .int (iI ((nx : Nat) : Int)), .int (iI (fi)), .int (iI (se)), .int (iI ((le : Nat) : Int)), .ref m7, .int (iI (bp)), .ref m8])), (m1, .inl (cI, 516, .inl (rI (sF cn en ac cu co au er ki bs))))]) S (m_length l D cI cB cZ cO hm m1 m2 m3 m4 m5 m6 m7 m8 pa pb cp ty nx fi se le bp cn en ac cu co au er ki bs (by first | assumption | (omega)) (by first | assumption | (omega)) (by first | assumption | (omega)) (by first | assumption | (omega))) gX5_save_X5_length rfl ⟨rfl, rfl⟩ (by decide +kernel) ⟨Nat.le_of_ble_eq_true rfl, Nat.le_of_ble_eq_true rfl⟩ hE hP [0, 1] rfl 5 0 rfl rfl rfl hl.1 rfl (Nat.le_of_ble_eq_true rfl) dX5_save_52 ⟨Nat.le_of_ble_eq_true rfl, Nat.le_of_ble_eq_true rfl⟩ ?_
          exact r_iretX hx hb hr hlocks hP hD hS () (rfl) (trivial) rfl dX5_save_55
        · skip
          refine lv_aload_n hx hb dX5_save_20 rfl (lv_at hl 0 rfl) ?_
          refine va_get (D := D) (ci := 5) (v := .ref m2) (C := RX5) (T := TX5) (N := 17) hx hb hts nX5_save_X5 hown hK hP 0 rfl rfl 1 (by decide) (hts _ kX5_save_13) (fun _ h9 => h9) rfl dX5_save_21 ?_
          refine r_sipush hx hb dX5_save_24 (by decide) ?_
          refine lv_iload_n hx hb dX5_save_27 rfl (lv_at hl 1 rfl) ?_
          refine r_imul (v := ((516 * 0 : Nat) : Int)) hx hb (rfl) dX5_save_28 ?_
          refine lv_iload_n hx hb dX5_save_29 rfl (lv_at hl 2 rfl) ?_
          refine r_iadd (v := (((516 * 0) + d : Nat) : Int)) hx hb (rfl) dX5_save_30 ?_
          refine lv_aload_n hx hb dX5_save_31 rfl (lv_at hl 0 rfl) ?_
          refine va_get (D := D) (ci := 5) (v := .ref m1) (C := RX5) (T := TX5) (N := 17) hx hb hts nX5_save_X5 hown hK hP 0 rfl rfl 0 (by decide) (hts _ kX5_save_7) (fun _ h9 => h9) rfl dX5_save_32 ?_
          refine lv_iload_n hx hb dX5_save_35 rfl (lv_at hl 2 rfl) ?_
          refine r_iald hx hb hK hP 1 0 rfl rfl (d) (rfl) (by omega) (by decide) dX5_save_36 ?_
          refine r_iast (v := ((sF cn en ac cu co au er ki bs) d)) hx hb hK hP hD hS 2 0 rfl rfl ((516 * 0) + d) (rfl) (by omega) (by decide) dX5_save_37 (fun H locs hP hD hS => ?_)
          have hP : va_P D vwCl [(hm, .inr (5, [.ref m1, .ref m2, .ref m3, .int (iI ((pa : Nat) : Int)), .int (iI ((pb : Nat) : Int)), .ref m4, .int (iI ((cp : Nat) : Int)), .ref m5, .int (iI ((ty : Nat) : Int)), .ref m6, .int (iI ((nx : Nat) : Int)), .int (iI (fi)), .int (iI (se)), .int (iI ((le : Nat) : Int)), .ref m7, .int (iI (bp)), .ref m8])), (m1, .inl (cI, 516, .inl (rI (sF cn en ac cu co au er ki bs)))), (m2, .inl (cI, 1032, .inl (rI (up (inI sl (516 * 0) (sF cn en ac cu co au er ki bs) d) ((516 * 0) + d) ((sF cn en ac cu co au er ki bs) d))))), (m3, .inl (cZ, 2, .inl (rN (kp))))] H := hP
          have hD : va_D A [(hm, .inr (5, [.ref m1, .ref m2, .ref m3, .int (iI ((pa : Nat) : Int)), .int (iI ((pb : Nat) : Int)), .ref m4, .int (iI ((cp : Nat) : Int)), .ref m5, .int (iI ((ty : Nat) : Int)), .ref m6, .int (iI ((nx : Nat) : Int)), .int (iI (fi)), .int (iI (se)), .int (iI ((le : Nat) : Int)), .ref m7, .int (iI (bp)), .ref m8])), (m1, .inl (cI, 516, .inl (rI (sF cn en ac cu co au er ki bs)))), (m2, .inl (cI, 1032, .inl (rI (up (inI sl (516 * 0) (sF cn en ac cu co au er ki bs) d) ((516 * 0) + d) ((sF cn en ac cu co au er ki bs) d))))), (m3, .inl (cZ, 2, .inl (rN (kp))))] := hD
          refine lv_iinc (v := iI ((d + 1 : Nat) : Int)) (lv' := [(2, .int (iI ((d + 1 : Nat) : Int))), (0, .ref hm), (1, .int (iI 0))]) hx hb dX5_save_38 hl (k := 2) rfl ((iI_add _ _).trans (ii (rfl))) (by decide) rfl (fun ls hl => ?_)
          refine lv_goto (tgt := 13) hx hb dX5_save_41 (by decide) ?_
          have hww : ([(hm, .inr (5, [.ref m1, .ref m2, .ref m3, .int (iI ((pa : Nat) : Int)), .int (iI ((pb : Nat) : Int)), .ref m4, .int (iI ((cp : Nat) : Int)), .ref m5, .int (iI ((ty : Nat) : Int)), .ref m6, .int (iI ((nx : Nat) : Int)), .int (iI (fi)), .int (iI (se)), .int (iI ((le : Nat) : Int)), .ref m7, .int (iI (bp)), .ref m8])), (m1, .inl (cI, 516, .inl (rI (sF cn en ac cu co au er ki bs)))), (m2, .inl (cI, 1032, .inl (rI (up (inI sl (516 * 0) (sF cn en ac cu co au er ki bs) d) ((516 * 0) + d) ((sF cn en ac cu co au er ki bs) d))))), (m3, .inl (cZ, 2, .inl (rN (kp))))] : va_W) = [(hm, .inr (5, [.ref m1, .ref m2, .ref m3, .int (iI ((pa : Nat) : Int)), .int (iI ((pb : Nat) : Int)), .ref m4, .int (iI ((cp : Nat) : Int)), .ref m5, .int (iI ((ty : Nat) : Int)), .ref m6, .int (iI ((nx : Nat) : Int)), .int (iI (fi)), .int (iI (se)), .int (iI ((le : Nat) : Int)), .ref m7, .int (iI (bp)), .ref m8])), (m1, .inl (cI, 516, .inl (rI (sF cn en ac cu co au er ki bs)))), (m2, .inl (cI, 1032, .inl (rI (inI sl (516 * 0) (sF cn en ac cu co au er ki bs) (d + 1))))), (m3, .inl (cZ, 2, .inl (rN (kp))))] := by rw [inI_s rfl]
          rw [hww] at hP hD
          exact ih_13 (d + 1) (by omega) (by first | assumption | (omega)) H locs hP hD hS ls (lv_sub hl [1, 2, 0] rfl)
    have hww : ([(hm, .inr (5, [.ref m1, .ref m2, .ref m3, .int (iI ((pa : Nat) : Int)), .int (iI ((pb : Nat) : Int)), .ref m4, .int (iI ((cp : Nat) : Int)), .ref m5, .int (iI ((ty : Nat) : Int)), .ref m6, .int (iI ((nx : Nat) : Int)), .int (iI (fi)), .int (iI (se)), .int (iI ((le : Nat) : Int)), .ref m7, .int (iI (bp)), .ref m8])), (m1, .inl (cI, 516, .inl (rI (sF cn en ac cu co au er ki bs)))), (m2, .inl (cI, 1032, .inl (rI (sl)))), (m3, .inl (cZ, 2, .inl (rN (kp))))] : va_W) = [(hm, .inr (5, [.ref m1, .ref m2, .ref m3, .int (iI ((pa : Nat) : Int)), .int (iI ((pb : Nat) : Int)), .ref m4, .int (iI ((cp : Nat) : Int)), .ref m5, .int (iI ((ty : Nat) : Int)), .ref m6, .int (iI ((nx : Nat) : Int)), .int (iI (fi)), .int (iI (se)), .int (iI ((le : Nat) : Int)), .ref m7, .int (iI (bp)), .ref m8])), (m1, .inl (cI, 516, .inl (rI (sF cn en ac cu co au er ki bs)))), (m2, .inl (cI, 1032, .inl (rI (inI sl (516 * 0) (sF cn en ac cu co au er ki bs) 0)))), (m3, .inl (cZ, 2, .inl (rN (kp))))] := by rw [inI_0]
    rw [hww] at hP hD
    exact loop_13 ((516 - 0) + 1) 0 (by omega) (by first | assumption | (omega)) s.heap [] hP hD hS ls (lv_sub hl [1, 2, 0] rfl)
  · skip
    exfalso; omega

theorem kX5_unkept_16 : Cond.fieldLink RX5 16 "PricedUndoModel" "isKept" "[Z" ∈ wsX5_unkept := by decide +kernel
theorem nX5_unkept_X5 : ∀ w ∈ u_ws RX5 TX5 17, w ∈ wsX5_unkept := by decide +kernel
set_option maxHeartbeats 4000000 in
set_option maxRecDepth 100000 in
theorem m_unkept_no_0 (l : Launch) (D : va_G) (cI cB cZ cO : ClassId) (hm : Nat) (m1 : Nat) (m2 : Nat) (m3 : Nat) (m4 : Nat) (m5 : Nat) (m6 : Nat) (m7 : Nat) (m8 : Nat) (pa : Nat) (pb : Nat) (cp : Nat) (ty : Nat) (nx : Nat) (fi : Int) (se : Int) (le : Nat) (bp : Int) (cn : Nat) (en : Nat) (ac : Nat) (cu : Nat) (co : Nat → Nat) (au : Nat → Int) (er : Nat → Nat) (ki : Nat → Nat) (bs : Nat → Int) (kp : Nat → Nat) (hkp : ∀ k, kp k ≤ 1) (hk : kp 0 = 0) : Met l yX5_unkept wsX5_unkept ({ frames := 1, cells := 0, slots := 0, locals := 22 }) (va_Pc [.ref hm, .int (iI 0)] (RO D cI cB cZ cO [(hm, .inr (5, [.ref m1, .ref m2, .ref m3, .int (iI ((pa : Nat) : Int)), .int (iI ((pb : Nat) : Int)), .ref m4, .int (iI ((cp : Nat) : Int)), .ref m5, .int (iI ((ty : Nat) : Int)), .ref m6, .int (iI ((nx : Nat) : Int)), .int (iI (fi)), .int (iI (se)), .int (iI ((le : Nat) : Int)), .ref m7, .int (iI (bp)), .ref m8])), (m1, .inl (cI, 516, .inl (rI (sF cn en ac cu co au er ki bs)))), (m3, .inl (cZ, 2, .inl (rN (kp))))])) (QO (-2)) 0 0 (fun _ => False) := by
  refine startO (cc := cX5_unkept) (maxL := 2) (ret := (some .int)) (by decide) rfl (Nat.le_of_ble_eq_true rfl) ?_
  intro p e s m below meth c S hr hlocks hE hP ls hl
  have hx := S.1
  have hb := S.2.1
  have hown := S.2.2.2.1
  have hts := S.2.2.2.2
  have hK := hE.1
  have hl : lv_has ls 2 [(0, .ref hm), (1, .int (iI 0))] := hl
  have hkpi := hkp 0
  refine lv_iload_n hx hb dX5_unkept_0 rfl (lv_at hl 1 rfl) ?_
  refine r_iconst hx hb dX5_unkept_1 ?_
  refine r_iconst hx hb dX5_unkept_2 ?_
  rw [show (0 : Int) = (0) from by omega]
  rw [show (0 : Int) = (0) from by omega]
  rw [show (1 : Int) = (1) from by omega]
  refine callSO (n := 3) (As := [.int (iI (0)), .int (iI (0)), .int (iI (1))]) (rest := []) (wc := []) S (m_in l D cI cB cZ cO 0 0 1 (by first | assumption | (omega)) (by first | assumption | (omega)) (by first | assumption | (omega))) gX5_unkept_X5_in rfl ⟨rfl, rfl⟩ (by decide +kernel) ⟨Nat.le_of_ble_eq_true rfl, Nat.le_of_ble_eq_true rfl⟩ hE hP [] rfl rfl hl.1 rfl (Nat.le_of_ble_eq_true rfl) dX5_unkept_3 ⟨Nat.le_of_ble_eq_true rfl, Nat.le_of_ble_eq_true rfl⟩ ?_
  refine r_ifb_ne (tgt := 13) hx hb dX5_unkept_6 (by decide) (fun c_1 => ?_) (fun c_1 => ?_)
  · skip
    refine lv_aload_n hx hb dX5_unkept_13 rfl (lv_at hl 0 rfl) ?_
    refine va_get (D := D) (ci := 5) (v := .ref m3) (C := RX5) (T := TX5) (N := 17) hx hb hts nX5_unkept_X5 hown hK hP 0 rfl rfl 2 (by decide) (hts _ kX5_unkept_16) (fun _ h9 => h9) rfl dX5_unkept_14 ?_
    refine lv_iload_n hx hb dX5_unkept_17 rfl (lv_at hl 1 rfl) ?_
    refine r_zaldN hx hb hK hP 2 2 rfl rfl (0) (rfl) (by omega) (by decide) dX5_unkept_18 ?_
    refine r_if_eq (tgt := 26) hx hb (by omega) dX5_unkept_19 (by decide) (fun c_2 => ?_) (fun c_2 => ?_)
    · skip
      refine r_bipush hx hb dX5_unkept_26 (by decide) ?_
      exact r_iretO hx hb hr hlocks (rfl) dX5_unkept_28
    · skip
      exfalso; omega
  · skip
    exfalso; omega

set_option maxHeartbeats 4000000 in
set_option maxRecDepth 100000 in
theorem m_unkept_0 (l : Launch) (D : va_G) (cI cB cZ cO : ClassId) (hm : Nat) (m1 : Nat) (m2 : Nat) (m3 : Nat) (m4 : Nat) (m5 : Nat) (m6 : Nat) (m7 : Nat) (m8 : Nat) (pa : Nat) (pb : Nat) (cp : Nat) (ty : Nat) (nx : Nat) (fi : Int) (se : Int) (le : Nat) (bp : Int) (cn : Nat) (en : Nat) (ac : Nat) (cu : Nat) (co : Nat → Nat) (au : Nat → Int) (er : Nat → Nat) (ki : Nat → Nat) (bs : Nat → Int) (kp : Nat → Nat) (hkp : ∀ k, kp k ≤ 1) (hk : kp 0 = 1) : Met l yX5_unkept wsX5_unkept ({ frames := 1, cells := 0, slots := 0, locals := 22 }) (va_Pc [.ref hm, .int (iI 0)] (RO D cI cB cZ cO [(hm, .inr (5, [.ref m1, .ref m2, .ref m3, .int (iI ((pa : Nat) : Int)), .int (iI ((pb : Nat) : Int)), .ref m4, .int (iI ((cp : Nat) : Int)), .ref m5, .int (iI ((ty : Nat) : Int)), .ref m6, .int (iI ((nx : Nat) : Int)), .int (iI (fi)), .int (iI (se)), .int (iI ((le : Nat) : Int)), .ref m7, .int (iI (bp)), .ref m8])), (m1, .inl (cI, 516, .inl (rI (sF cn en ac cu co au er ki bs)))), (m3, .inl (cZ, 2, .inl (rN (kp))))])) (QO 0) 0 0 (fun _ => False) := by
  refine startO (cc := cX5_unkept) (maxL := 2) (ret := (some .int)) (by decide) rfl (Nat.le_of_ble_eq_true rfl) ?_
  intro p e s m below meth c S hr hlocks hE hP ls hl
  have hx := S.1
  have hb := S.2.1
  have hown := S.2.2.2.1
  have hts := S.2.2.2.2
  have hK := hE.1
  have hl : lv_has ls 2 [(0, .ref hm), (1, .int (iI 0))] := hl
  have hkpi := hkp 0
  refine lv_iload_n hx hb dX5_unkept_0 rfl (lv_at hl 1 rfl) ?_
  refine r_iconst hx hb dX5_unkept_1 ?_
  refine r_iconst hx hb dX5_unkept_2 ?_
  rw [show (0 : Int) = (0) from by omega]
  rw [show (0 : Int) = (0) from by omega]
  rw [show (1 : Int) = (1) from by omega]
  refine callSO (n := 3) (As := [.int (iI (0)), .int (iI (0)), .int (iI (1))]) (rest := []) (wc := []) S (m_in l D cI cB cZ cO 0 0 1 (by first | assumption | (omega)) (by first | assumption | (omega)) (by first | assumption | (omega))) gX5_unkept_X5_in rfl ⟨rfl, rfl⟩ (by decide +kernel) ⟨Nat.le_of_ble_eq_true rfl, Nat.le_of_ble_eq_true rfl⟩ hE hP [] rfl rfl hl.1 rfl (Nat.le_of_ble_eq_true rfl) dX5_unkept_3 ⟨Nat.le_of_ble_eq_true rfl, Nat.le_of_ble_eq_true rfl⟩ ?_
  refine r_ifb_ne (tgt := 13) hx hb dX5_unkept_6 (by decide) (fun c_1 => ?_) (fun c_1 => ?_)
  · skip
    refine lv_aload_n hx hb dX5_unkept_13 rfl (lv_at hl 0 rfl) ?_
    refine va_get (D := D) (ci := 5) (v := .ref m3) (C := RX5) (T := TX5) (N := 17) hx hb hts nX5_unkept_X5 hown hK hP 0 rfl rfl 2 (by decide) (hts _ kX5_unkept_16) (fun _ h9 => h9) rfl dX5_unkept_14 ?_
    refine lv_iload_n hx hb dX5_unkept_17 rfl (lv_at hl 1 rfl) ?_
    refine r_zaldN hx hb hK hP 2 2 rfl rfl (0) (rfl) (by omega) (by decide) dX5_unkept_18 ?_
    refine r_if_eq (tgt := 26) hx hb (by omega) dX5_unkept_19 (by decide) (fun c_2 => ?_) (fun c_2 => ?_)
    · skip
      exfalso; omega
    · skip
      refine r_iconst hx hb dX5_unkept_22 ?_
      refine lv_goto (tgt := 28) hx hb dX5_unkept_23 (by decide) ?_
      exact r_iretO hx hb hr hlocks (rfl) dX5_unkept_28
  · skip
    exfalso; omega

set_option maxHeartbeats 4000000 in
set_option maxRecDepth 100000 in
theorem m_restore_no_0 (l : Launch) (D : va_G) (cI cB cZ cO : ClassId) (hm : Nat) (m1 : Nat) (m2 : Nat) (m3 : Nat) (m4 : Nat) (m5 : Nat) (m6 : Nat) (m7 : Nat) (m8 : Nat) (pa : Nat) (pb : Nat) (cp : Nat) (ty : Nat) (nx : Nat) (fi : Int) (se : Int) (le : Nat) (bp : Int) (cn : Nat) (en : Nat) (ac : Nat) (cu : Nat) (co : Nat → Nat) (au : Nat → Int) (er : Nat → Nat) (ki : Nat → Nat) (bs : Nat → Int) (kp : Nat → Nat) (hkp : ∀ k, kp k ≤ 1) (hk : kp 0 = 0) : Met l yX5_restore wsX5_restore ({ frames := 2, cells := 0, slots := 0, locals := 43 }) (va_Pc [.ref hm, .int (iI 0)] (RO D cI cB cZ cO [(hm, .inr (5, [.ref m1, .ref m2, .ref m3, .int (iI ((pa : Nat) : Int)), .int (iI ((pb : Nat) : Int)), .ref m4, .int (iI ((cp : Nat) : Int)), .ref m5, .int (iI ((ty : Nat) : Int)), .ref m6, .int (iI ((nx : Nat) : Int)), .int (iI (fi)), .int (iI (se)), .int (iI ((le : Nat) : Int)), .ref m7, .int (iI (bp)), .ref m8])), (m1, .inl (cI, 516, .inl (rI (sF cn en ac cu co au er ki bs)))), (m3, .inl (cZ, 2, .inl (rN (kp))))])) (QO (-2)) 0 0 (fun _ => False) := by
  refine startO (cc := cX5_restore) (maxL := 4) (ret := (some .int)) (by decide) rfl (Nat.le_of_ble_eq_true rfl) ?_
  intro p e s m below meth c S hr hlocks hE hP ls hl
  have hx := S.1
  have hb := S.2.1
  have hown := S.2.2.2.1
  have hts := S.2.2.2.2
  have hK := hE.1
  have hl : lv_has ls 4 [(0, .ref hm), (1, .int (iI 0))] := hl
  refine lv_aload_n hx hb dX5_restore_0 rfl (lv_at hl 0 rfl) ?_
  refine lv_iload_n hx hb dX5_restore_1 rfl (lv_at hl 1 rfl) ?_
  refine callVO (n := 1) (As := [.int (iI 0)]) (rest := []) (wc := [(hm, .inr (5, [.ref m1, .ref m2, .ref m3, .int (iI ((pa : Nat) : Int)), .int (iI ((pb : Nat) : Int)), .ref m4, .int (iI ((cp : Nat) : Int)), .ref m5, .int (iI ((ty : Nat) : Int)), .ref m6, .int (iI ((nx : Nat) : Int)), .int (iI (fi)), .int (iI (se)), .int (iI ((le : Nat) : Int)), .ref m7, .int (iI (bp)), .ref m8])), (m1, .inl (cI, 516, .inl (rI (sF cn en ac cu co au er ki bs)))), (m3, .inl (cZ, 2, .inl (rN (kp))))]) S (m_unkept_no_0 l D cI cB cZ cO hm m1 m2 m3 m4 m5 m6 m7 m8 pa pb cp ty nx fi se le bp cn en ac cu co au er ki bs kp (by first | assumption | (omega)) (by first | assumption | (omega))) gX5_restore_X5_unkept rfl ⟨rfl, rfl⟩ (by decide +kernel) ⟨Nat.le_of_ble_eq_true rfl, Nat.le_of_ble_eq_true rfl⟩ hE hP [0, 1, 2] rfl 5 0 rfl rfl rfl hl.1 rfl (Nat.le_of_ble_eq_true rfl) dX5_restore_2 ⟨Nat.le_of_ble_eq_true rfl, Nat.le_of_ble_eq_true rfl⟩ ?_
  refine lv_istore_n (lv' := [(2, .int (iI (-2))), (0, .ref hm), (1, .int (iI 0))]) hx hb dX5_restore_5 rfl hl (by decide) rfl (fun ls hl => ?_)
  refine r_iconst hx hb dX5_restore_6 ?_
  refine lv_istore_n (lv' := [(3, .int (iI 0)), (2, .int (iI (-2))), (0, .ref hm), (1, .int (iI 0))]) hx hb dX5_restore_7 rfl hl (by decide) rfl (fun ls hl => ?_)
  refine lv_iload_n hx hb dX5_restore_8 rfl (lv_at hl 0 rfl) ?_
  refine r_sipush hx hb dX5_restore_9 (by decide) ?_
  refine r_icmp_ge (tgt := 43) hx hb (⟨by decide, by decide⟩) (⟨by decide, by decide⟩) dX5_restore_12 (by decide) (fun c_1 => ?_) (fun c_1 => ?_)
  · skip
    exact absurd c_1 (by decide)
  · skip
    refine lv_iload_n hx hb dX5_restore_15 rfl (lv_at hl 1 rfl) ?_
    refine r_if_ne (tgt := 43) hx hb (⟨by decide, by decide⟩) dX5_restore_16 (by decide) (fun c_2 => ?_) (fun c_2 => ?_)
    · skip
      refine lv_iload_n hx hb dX5_restore_43 rfl (lv_at hl 1 rfl) ?_
      refine r_if_ge (tgt := 51) hx hb (⟨by decide, by decide⟩) dX5_restore_44 (by decide) (fun c_3 => ?_) (fun c_3 => ?_)
      · skip
        exact absurd c_3 (by decide)
      · skip
        refine lv_iload_n hx hb dX5_restore_47 rfl (lv_at hl 1 rfl) ?_
        refine lv_goto (tgt := 55) hx hb dX5_restore_48 (by decide) ?_
        exact r_iretO hx hb hr hlocks (rfl) dX5_restore_55
    · skip
      exact absurd c_2 (by decide)

theorem kX5_restore_7 : Cond.fieldLink RX5 7 "PricedUndoModel" "s" "[I" ∈ wsX5_restore := by decide +kernel
theorem nX5_restore_X5 : ∀ w ∈ u_ws RX5 TX5 17, w ∈ wsX5_restore := by decide +kernel
theorem kX5_restore_13 : Cond.fieldLink RX5 13 "PricedUndoModel" "slots" "[I" ∈ wsX5_restore := by decide +kernel
set_option maxHeartbeats 4000000 in
set_option maxRecDepth 100000 in
theorem m_restore_0 (l : Launch) (D : va_G) (cI cB cZ cO : ClassId) (sz : Nat) (hm : Nat) (m1 : Nat) (m2 : Nat) (m3 : Nat) (m4 : Nat) (m5 : Nat) (m6 : Nat) (m7 : Nat) (m8 : Nat) (pa : Nat) (pb : Nat) (cp : Nat) (ty : Nat) (nx : Nat) (fi : Int) (se : Int) (le : Nat) (bp : Int) (cn : Nat) (en : Nat) (ac : Nat) (cu : Nat) (co : Nat → Nat) (au : Nat → Int) (er : Nat → Nat) (ki : Nat → Nat) (bs : Nat → Int) (sl : Nat → Int) (kp : Nat → Nat) (cnz : Nat) (enz : Nat) (acz : Nat) (cuz : Nat) (coz : Nat → Nat) (auz : Nat → Int) (erz : Nat → Nat) (kiz : Nat → Nat) (bsz : Nat → Int) (hkp : ∀ k, kp k ≤ 1) (hk : kp 0 = 1) (hsl : ∀ j, j < 516 → sl (516 * 0 + j) = sF cnz enz acz cuz coz auz erz kiz bsz j) (hcn : cnz ≤ 160) (hac : acz < 65536) (hau : ∀ k, -1 ≤ auz k ∧ auz k < 16) (her : ∀ k, erz k < 65536) : Met l yX5_restore wsX5_restore ({ frames := 3, cells := 0, slots := 0, locals := 66 }) (va_Pc [.ref hm, .int (iI 0)] (RW D cI cB cZ cO sz [(hm, .inr (5, [.ref m1, .ref m2, .ref m3, .int (iI ((pa : Nat) : Int)), .int (iI ((pb : Nat) : Int)), .ref m4, .int (iI ((cp : Nat) : Int)), .ref m5, .int (iI ((ty : Nat) : Int)), .ref m6, .int (iI ((nx : Nat) : Int)), .int (iI (fi)), .int (iI (se)), .int (iI ((le : Nat) : Int)), .ref m7, .int (iI (bp)), .ref m8])), (m1, .inl (cI, 516, .inl (rI (sF cn en ac cu co au er ki bs)))), (m2, .inl (cI, 1032, .inl (rI (sl)))), (m3, .inl (cZ, 2, .inl (rN (kp))))])) (QX D (S := Unit) (fun u => some (.int (iI ((cnt (visb (omF auz) erz acz) cnz : Nat) : Int)))) (fun u => True) (fun u => [(hm, .inr (5, [.ref m1, .ref m2, .ref m3, .int (iI ((pa : Nat) : Int)), .int (iI ((pb : Nat) : Int)), .ref m4, .int (iI ((cp : Nat) : Int)), .ref m5, .int (iI ((ty : Nat) : Int)), .ref m6, .int (iI ((nx : Nat) : Int)), .int (iI (fi)), .int (iI (se)), .int (iI ((le : Nat) : Int)), .ref m7, .int (iI (bp)), .ref m8])), (m1, .inl (cI, 516, .inl (rI (sF cnz enz acz cuz coz auz erz kiz bsz)))), (m2, .inl (cI, 1032, .inl (rI (sl)))), (m3, .inl (cZ, 2, .inl (rN (kp))))]) (va_A [(hm, .inr (5, [.ref m1, .ref m2, .ref m3, .int (iI ((pa : Nat) : Int)), .int (iI ((pb : Nat) : Int)), .ref m4, .int (iI ((cp : Nat) : Int)), .ref m5, .int (iI ((ty : Nat) : Int)), .ref m6, .int (iI ((nx : Nat) : Int)), .int (iI (fi)), .int (iI (se)), .int (iI ((le : Nat) : Int)), .ref m7, .int (iI (bp)), .ref m8])), (m1, .inl (cI, 516, .inl (rI (sF cn en ac cu co au er ki bs)))), (m2, .inl (cI, 1032, .inl (rI (sl)))), (m3, .inl (cZ, 2, .inl (rN (kp))))] sz)) 0 0 (va_A [(hm, .inr (5, [.ref m1, .ref m2, .ref m3, .int (iI ((pa : Nat) : Int)), .int (iI ((pb : Nat) : Int)), .ref m4, .int (iI ((cp : Nat) : Int)), .ref m5, .int (iI ((ty : Nat) : Int)), .ref m6, .int (iI ((nx : Nat) : Int)), .int (iI (fi)), .int (iI (se)), .int (iI ((le : Nat) : Int)), .ref m7, .int (iI (bp)), .ref m8])), (m1, .inl (cI, 516, .inl (rI (sF cn en ac cu co au er ki bs)))), (m2, .inl (cI, 1032, .inl (rI (sl)))), (m3, .inl (cZ, 2, .inl (rN (kp))))] sz) := by
  refine startW (cc := cX5_restore) (maxL := 4) (ret := (some .int)) (by decide) rfl (Nat.le_of_ble_eq_true rfl) ?_
  intro p e s m below meth c S hr hlocks hE hP A hD hA hS ls hl
  have hx := S.1
  have hb := S.2.1
  have hown := S.2.2.2.1
  have hts := S.2.2.2.2
  have hK := hE.1
  have hl : lv_has ls 4 [(0, .ref hm), (1, .int (iI 0))] := hl
  refine lv_aload_n hx hb dX5_restore_0 rfl (lv_at hl 0 rfl) ?_
  refine lv_iload_n hx hb dX5_restore_1 rfl (lv_at hl 1 rfl) ?_
  refine callVO (n := 1) (As := [.int (iI 0)]) (rest := []) (wc := [(hm, .inr (5, [.ref m1, .ref m2, .ref m3, .int (iI ((pa : Nat) : Int)), .int (iI ((pb : Nat) : Int)), .ref m4, .int (iI ((cp : Nat) : Int)), .ref m5, .int (iI ((ty : Nat) : Int)), .ref m6, .int (iI ((nx : Nat) : Int)), .int (iI (fi)), .int (iI (se)), .int (iI ((le : Nat) : Int)), .ref m7, .int (iI (bp)), .ref m8])), (m1, .inl (cI, 516, .inl (rI (sF cn en ac cu co au er ki bs)))), (m3, .inl (cZ, 2, .inl (rN (kp))))]) S (m_unkept_0 l D cI cB cZ cO hm m1 m2 m3 m4 m5 m6 m7 m8 pa pb cp ty nx fi se le bp cn en ac cu co au er ki bs kp (by first | assumption | (omega)) (by first | assumption | (omega))) gX5_restore_X5_unkept rfl ⟨rfl, rfl⟩ (by decide +kernel) ⟨Nat.le_of_ble_eq_true rfl, Nat.le_of_ble_eq_true rfl⟩ hE hP [0, 1, 3] rfl 5 0 rfl rfl rfl hl.1 rfl (Nat.le_of_ble_eq_true rfl) dX5_restore_2 ⟨Nat.le_of_ble_eq_true rfl, Nat.le_of_ble_eq_true rfl⟩ ?_
  refine lv_istore_n (lv' := [(2, .int (iI 0)), (0, .ref hm), (1, .int (iI 0))]) hx hb dX5_restore_5 rfl hl (by decide) rfl (fun ls hl => ?_)
  refine r_iconst hx hb dX5_restore_6 ?_
  refine lv_istore_n (lv' := [(3, .int (iI 0)), (2, .int (iI 0)), (0, .ref hm), (1, .int (iI 0))]) hx hb dX5_restore_7 rfl hl (by decide) rfl (fun ls hl => ?_)
  have loop_8 : ∀ (n_8 : Nat) (d : Nat), (516 - d) < n_8 → (d ≤ 516) → ∀ (H : Heap) (locs : List Loc), va_P D vwCl [(hm, .inr (5, [.ref m1, .ref m2, .ref m3, .int (iI ((pa : Nat) : Int)), .int (iI ((pb : Nat) : Int)), .ref m4, .int (iI ((cp : Nat) : Int)), .ref m5, .int (iI ((ty : Nat) : Int)), .ref m6, .int (iI ((nx : Nat) : Int)), .int (iI (fi)), .int (iI (se)), .int (iI ((le : Nat) : Int)), .ref m7, .int (iI (bp)), .ref m8])), (m1, .inl (cI, 516, .inl (rI (inI (sF cn en ac cu co au er ki bs) 0 (fun j => sl (516 * 0 + j)) d)))), (m2, .inl (cI, 1032, .inl (rI (sl)))), (m3, .inl (cZ, 2, .inl (rN (kp))))] H → va_D A [(hm, .inr (5, [.ref m1, .ref m2, .ref m3, .int (iI ((pa : Nat) : Int)), .int (iI ((pb : Nat) : Int)), .ref m4, .int (iI ((cp : Nat) : Int)), .ref m5, .int (iI ((ty : Nat) : Int)), .ref m6, .int (iI ((nx : Nat) : Int)), .int (iI (fi)), .int (iI (se)), .int (iI ((le : Nat) : Int)), .ref m7, .int (iI (bp)), .ref m8])), (m1, .inl (cI, 516, .inl (rI (inI (sF cn en ac cu co au er ki bs) 0 (fun j => sl (516 * 0 + j)) d)))), (m2, .inl (cI, 1032, .inl (rI (sl)))), (m3, .inl (cZ, 2, .inl (rN (kp))))] → va_S A s.heap H locs → ∀ (ls : Array Slot), lv_has ls 4 [(0, .ref hm), (1, .int (iI 0)), (2, .int (iI 0)), (3, .int (iI ((d : Nat) : Int)))] → W p l e ({ frames := 3, cells := 0, slots := 0, locals := 66 }) s m ([.ref hm, .int (iI 0)] : List Value).toArray below meth c H locs 0 0 (MQ below (QX D (S := Unit) (fun u => some (.int (iI ((cnt (visb (omF auz) erz acz) cnz : Nat) : Int)))) (fun u => True) (fun u => [(hm, .inr (5, [.ref m1, .ref m2, .ref m3, .int (iI ((pa : Nat) : Int)), .int (iI ((pb : Nat) : Int)), .ref m4, .int (iI ((cp : Nat) : Int)), .ref m5, .int (iI ((ty : Nat) : Int)), .ref m6, .int (iI ((nx : Nat) : Int)), .int (iI (fi)), .int (iI (se)), .int (iI ((le : Nat) : Int)), .ref m7, .int (iI (bp)), .ref m8])), (m1, .inl (cI, 516, .inl (rI (sF cnz enz acz cuz coz auz erz kiz bsz)))), (m2, .inl (cI, 1032, .inl (rI (sl)))), (m3, .inl (cZ, 2, .inl (rN (kp))))]) A) ([.ref hm, .int (iI 0)] : List Value).toArray s 0 0 A) (F0 m 8 ls []) := by
    intro n_8
    induction n_8 with
    | zero => intro d h_meas; exact absurd h_meas (Nat.not_lt_zero _)
    | succ n_8 ih_8 =>
      intro d h_m8 id H locs hP hD hS ls hl
      refine lv_iload_n hx hb dX5_restore_8 rfl (lv_at hl 3 rfl) ?_
      refine r_sipush hx hb dX5_restore_9 (by decide) ?_
      refine r_icmp_ge (tgt := 43) hx hb (by omega) (⟨by decide, by decide⟩) dX5_restore_12 (by decide) (fun c_1 => ?_) (fun c_1 => ?_)
      · skip
        obtain rfl : 516 = d := by omega
        have hP : va_P D vwCl [(hm, .inr (5, [.ref m1, .ref m2, .ref m3, .int (iI ((pa : Nat) : Int)), .int (iI ((pb : Nat) : Int)), .ref m4, .int (iI ((cp : Nat) : Int)), .ref m5, .int (iI ((ty : Nat) : Int)), .ref m6, .int (iI ((nx : Nat) : Int)), .int (iI (fi)), .int (iI (se)), .int (iI ((le : Nat) : Int)), .ref m7, .int (iI (bp)), .ref m8])), (m1, .inl (cI, 516, .inl (rI (sF cnz enz acz cuz coz auz erz kiz bsz)))), (m2, .inl (cI, 1032, .inl (rI (sl)))), (m3, .inl (cZ, 2, .inl (rN (kp))))] H := hP.congr 1 rfl (cv_in hsl) rfl
        have hD : va_D A [(hm, .inr (5, [.ref m1, .ref m2, .ref m3, .int (iI ((pa : Nat) : Int)), .int (iI ((pb : Nat) : Int)), .ref m4, .int (iI ((cp : Nat) : Int)), .ref m5, .int (iI ((ty : Nat) : Int)), .ref m6, .int (iI ((nx : Nat) : Int)), .int (iI (fi)), .int (iI (se)), .int (iI ((le : Nat) : Int)), .ref m7, .int (iI (bp)), .ref m8])), (m1, .inl (cI, 516, .inl (rI (sF cnz enz acz cuz coz auz erz kiz bsz)))), (m2, .inl (cI, 1032, .inl (rI (sl)))), (m3, .inl (cZ, 2, .inl (rN (kp))))] := hD.congr 1 rfl rfl
        refine lv_iload_n hx hb dX5_restore_43 rfl (lv_at hl 2 rfl) ?_
        refine r_if_ge (tgt := 51) hx hb (⟨by decide, by decide⟩) dX5_restore_44 (by decide) (fun c_2 => ?_) (fun c_2 => ?_)
        · skip
          refine lv_aload_n hx hb dX5_restore_51 rfl (lv_at hl 0 rfl) ?_
          refine callVO (n := 0) (As := []) (rest := []) (wc := [(hm, .inr (5, [.ref m1, .ref m2, .ref m3, .int (iI ((pa : Nat) : Int)), .int (iI ((pb : Nat) : Int)), .ref m4, .int (iI ((cp : Nat) : Int)), .ref m5, .int (iI ((ty : Nat) : Int)), .ref m6, .int (iI ((nx : Nat) : Int)), .int (iI (fi)), .int (iI (se)), .int (iI ((le : Nat) : Int)), .ref m7, .int (iI (bp)), .ref m8])), (m1, .inl (cI, 516, .inl (rI (sF cnz enz acz cuz coz auz erz kiz bsz))))]) S (m_length l D cI cB cZ cO hm m1 m2 m3 m4 m5 m6 m7 m8 pa pb cp ty nx fi se le bp cnz enz acz cuz coz auz erz kiz bsz (by first | assumption | (omega)) (by first | assumption | (omega)) (by first | assumption | (omega)) (by first | assumption | (omega))) gX5_restore_X5_length rfl ⟨rfl, rfl⟩ (by decide +kernel) ⟨Nat.le_of_ble_eq_true rfl, Nat.le_of_ble_eq_true rfl⟩ hE hP [0, 1] rfl 5 0 rfl rfl rfl hl.1 rfl (Nat.le_of_ble_eq_true rfl) dX5_restore_52 ⟨Nat.le_of_ble_eq_true rfl, Nat.le_of_ble_eq_true rfl⟩ ?_
          exact r_iretX hx hb hr hlocks hP hD hS () (rfl) (trivial) rfl dX5_restore_55
        · skip
          exact absurd c_2 (by decide)
      · skip
        refine lv_iload_n hx hb dX5_restore_15 rfl (lv_at hl 2 rfl) ?_
        refine r_if_ne (tgt := 43) hx hb (⟨by decide, by decide⟩) dX5_restore_16 (by decide) (fun c_3 => ?_) (fun c_3 => ?_)
        · skip
          exact absurd c_3 (by decide)
        · skip
          refine lv_aload_n hx hb dX5_restore_19 rfl (lv_at hl 0 rfl) ?_
          refine va_get (D := D) (ci := 5) (v := .ref m1) (C := RX5) (T := TX5) (N := 17) hx hb hts nX5_restore_X5 hown hK hP 0 rfl rfl 0 (by decide) (hts _ kX5_restore_7) (fun _ h9 => h9) rfl dX5_restore_20 ?_
          refine lv_iload_n hx hb dX5_restore_23 rfl (lv_at hl 3 rfl) ?_
          refine lv_aload_n hx hb dX5_restore_24 rfl (lv_at hl 0 rfl) ?_
          refine va_get (D := D) (ci := 5) (v := .ref m2) (C := RX5) (T := TX5) (N := 17) hx hb hts nX5_restore_X5 hown hK hP 0 rfl rfl 1 (by decide) (hts _ kX5_restore_13) (fun _ h9 => h9) rfl dX5_restore_25 ?_
          refine r_sipush hx hb dX5_restore_28 (by decide) ?_
          refine lv_iload_n hx hb dX5_restore_31 rfl (lv_at hl 1 rfl) ?_
          refine r_imul (v := ((516 * 0 : Nat) : Int)) hx hb (rfl) dX5_restore_32 ?_
          refine lv_iload_n hx hb dX5_restore_33 rfl (lv_at hl 3 rfl) ?_
          refine r_iadd (v := (((516 * 0) + d : Nat) : Int)) hx hb (rfl) dX5_restore_34 ?_
          refine r_iald hx hb hK hP 2 0 rfl rfl ((516 * 0) + d) (rfl) (by omega) (by decide) dX5_restore_35 ?_
          refine r_iast (v := (sl ((516 * 0) + d))) hx hb hK hP hD hS 1 0 rfl rfl (d) (rfl) (by omega) (by decide) dX5_restore_36 (fun H locs hP hD hS => ?_)
          have hP : va_P D vwCl [(hm, .inr (5, [.ref m1, .ref m2, .ref m3, .int (iI ((pa : Nat) : Int)), .int (iI ((pb : Nat) : Int)), .ref m4, .int (iI ((cp : Nat) : Int)), .ref m5, .int (iI ((ty : Nat) : Int)), .ref m6, .int (iI ((nx : Nat) : Int)), .int (iI (fi)), .int (iI (se)), .int (iI ((le : Nat) : Int)), .ref m7, .int (iI (bp)), .ref m8])), (m1, .inl (cI, 516, .inl (rI (up (inI (sF cn en ac cu co au er ki bs) 0 (fun j => sl (516 * 0 + j)) d) d (sl ((516 * 0) + d)))))), (m2, .inl (cI, 1032, .inl (rI (sl)))), (m3, .inl (cZ, 2, .inl (rN (kp))))] H := hP
          have hD : va_D A [(hm, .inr (5, [.ref m1, .ref m2, .ref m3, .int (iI ((pa : Nat) : Int)), .int (iI ((pb : Nat) : Int)), .ref m4, .int (iI ((cp : Nat) : Int)), .ref m5, .int (iI ((ty : Nat) : Int)), .ref m6, .int (iI ((nx : Nat) : Int)), .int (iI (fi)), .int (iI (se)), .int (iI ((le : Nat) : Int)), .ref m7, .int (iI (bp)), .ref m8])), (m1, .inl (cI, 516, .inl (rI (up (inI (sF cn en ac cu co au er ki bs) 0 (fun j => sl (516 * 0 + j)) d) d (sl ((516 * 0) + d)))))), (m2, .inl (cI, 1032, .inl (rI (sl)))), (m3, .inl (cZ, 2, .inl (rN (kp))))] := hD
          refine lv_iinc (v := iI ((d + 1 : Nat) : Int)) (lv' := [(3, .int (iI ((d + 1 : Nat) : Int))), (0, .ref hm), (1, .int (iI 0)), (2, .int (iI 0))]) hx hb dX5_restore_37 hl (k := 3) rfl ((iI_add _ _).trans (ii (rfl))) (by decide) rfl (fun ls hl => ?_)
          refine lv_goto (tgt := 8) hx hb dX5_restore_40 (by decide) ?_
          have hww : ([(hm, .inr (5, [.ref m1, .ref m2, .ref m3, .int (iI ((pa : Nat) : Int)), .int (iI ((pb : Nat) : Int)), .ref m4, .int (iI ((cp : Nat) : Int)), .ref m5, .int (iI ((ty : Nat) : Int)), .ref m6, .int (iI ((nx : Nat) : Int)), .int (iI (fi)), .int (iI (se)), .int (iI ((le : Nat) : Int)), .ref m7, .int (iI (bp)), .ref m8])), (m1, .inl (cI, 516, .inl (rI (up (inI (sF cn en ac cu co au er ki bs) 0 (fun j => sl (516 * 0 + j)) d) d (sl ((516 * 0) + d)))))), (m2, .inl (cI, 1032, .inl (rI (sl)))), (m3, .inl (cZ, 2, .inl (rN (kp))))] : va_W) = [(hm, .inr (5, [.ref m1, .ref m2, .ref m3, .int (iI ((pa : Nat) : Int)), .int (iI ((pb : Nat) : Int)), .ref m4, .int (iI ((cp : Nat) : Int)), .ref m5, .int (iI ((ty : Nat) : Int)), .ref m6, .int (iI ((nx : Nat) : Int)), .int (iI (fi)), .int (iI (se)), .int (iI ((le : Nat) : Int)), .ref m7, .int (iI (bp)), .ref m8])), (m1, .inl (cI, 516, .inl (rI (inI (sF cn en ac cu co au er ki bs) 0 (fun j => sl (516 * 0 + j)) (d + 1))))), (m2, .inl (cI, 1032, .inl (rI (sl)))), (m3, .inl (cZ, 2, .inl (rN (kp))))] := by rw [inI_s0 rfl]
          rw [hww] at hP hD
          exact ih_8 (d + 1) (by omega) (by first | assumption | (omega)) H locs hP hD hS ls (lv_sub hl [1, 2, 3, 0] rfl)
  have hww : ([(hm, .inr (5, [.ref m1, .ref m2, .ref m3, .int (iI ((pa : Nat) : Int)), .int (iI ((pb : Nat) : Int)), .ref m4, .int (iI ((cp : Nat) : Int)), .ref m5, .int (iI ((ty : Nat) : Int)), .ref m6, .int (iI ((nx : Nat) : Int)), .int (iI (fi)), .int (iI (se)), .int (iI ((le : Nat) : Int)), .ref m7, .int (iI (bp)), .ref m8])), (m1, .inl (cI, 516, .inl (rI (sF cn en ac cu co au er ki bs)))), (m2, .inl (cI, 1032, .inl (rI (sl)))), (m3, .inl (cZ, 2, .inl (rN (kp))))] : va_W) = [(hm, .inr (5, [.ref m1, .ref m2, .ref m3, .int (iI ((pa : Nat) : Int)), .int (iI ((pb : Nat) : Int)), .ref m4, .int (iI ((cp : Nat) : Int)), .ref m5, .int (iI ((ty : Nat) : Int)), .ref m6, .int (iI ((nx : Nat) : Int)), .int (iI (fi)), .int (iI (se)), .int (iI ((le : Nat) : Int)), .ref m7, .int (iI (bp)), .ref m8])), (m1, .inl (cI, 516, .inl (rI (inI (sF cn en ac cu co au er ki bs) 0 (fun j => sl (516 * 0 + j)) 0)))), (m2, .inl (cI, 1032, .inl (rI (sl)))), (m3, .inl (cZ, 2, .inl (rN (kp))))] := by rw [inI_0]
  rw [hww] at hP hD
  exact loop_8 ((516 - 0) + 1) 0 (by omega) (by first | assumption | (omega)) s.heap [] hP hD hS ls (lv_sub hl [2, 3, 1, 0] rfl)

theorem kX5_exchanges_7 : Cond.fieldLink RX5 7 "PricedUndoModel" "s" "[I" ∈ wsX5_exchanges := by decide +kernel
theorem nX5_exchanges_X5 : ∀ w ∈ u_ws RX5 TX5 17, w ∈ wsX5_exchanges := by decide +kernel
theorem kX5_exchanges_13 : Cond.fieldLink RX5 13 "PricedUndoModel" "slots" "[I" ∈ wsX5_exchanges := by decide +kernel
set_option maxHeartbeats 4000000 in
set_option maxRecDepth 100000 in
theorem m_exchanges_0 (l : Launch) (D : va_G) (cI cB cZ cO : ClassId) (sz : Nat) (hm : Nat) (m1 : Nat) (m2 : Nat) (m3 : Nat) (m4 : Nat) (m5 : Nat) (m6 : Nat) (m7 : Nat) (m8 : Nat) (pa : Nat) (pb : Nat) (cp : Nat) (ty : Nat) (nx : Nat) (fi : Int) (se : Int) (le : Nat) (bp : Int) (F : Nat → Int) (sl : Nat → Int)  : Met l yX5_exchanges wsX5_exchanges ({ frames := 0, cells := 0, slots := 0, locals := 0 }) (va_Pc [.ref hm, .int (iI 0)] (RW D cI cB cZ cO sz [(hm, .inr (5, [.ref m1, .ref m2, .ref m3, .int (iI ((pa : Nat) : Int)), .int (iI ((pb : Nat) : Int)), .ref m4, .int (iI ((cp : Nat) : Int)), .ref m5, .int (iI ((ty : Nat) : Int)), .ref m6, .int (iI ((nx : Nat) : Int)), .int (iI (fi)), .int (iI (se)), .int (iI ((le : Nat) : Int)), .ref m7, .int (iI (bp)), .ref m8])), (m1, .inl (cI, 516, .inl (rI (F)))), (m2, .inl (cI, 1032, .inl (rI (sl))))])) (QX D (S := Unit) (fun u => none) (fun u => True) (fun u => [(hm, .inr (5, [.ref m1, .ref m2, .ref m3, .int (iI ((pa : Nat) : Int)), .int (iI ((pb : Nat) : Int)), .ref m4, .int (iI ((cp : Nat) : Int)), .ref m5, .int (iI ((ty : Nat) : Int)), .ref m6, .int (iI ((nx : Nat) : Int)), .int (iI (fi)), .int (iI (se)), .int (iI ((le : Nat) : Int)), .ref m7, .int (iI (bp)), .ref m8])), (m1, .inl (cI, 516, .inl (rI (inI F 0 (fun j => sl (516 * 0 + j)) 516)))), (m2, .inl (cI, 1032, .inl (rI (inI sl (516 * 0) F 516))))]) (va_A [(hm, .inr (5, [.ref m1, .ref m2, .ref m3, .int (iI ((pa : Nat) : Int)), .int (iI ((pb : Nat) : Int)), .ref m4, .int (iI ((cp : Nat) : Int)), .ref m5, .int (iI ((ty : Nat) : Int)), .ref m6, .int (iI ((nx : Nat) : Int)), .int (iI (fi)), .int (iI (se)), .int (iI ((le : Nat) : Int)), .ref m7, .int (iI (bp)), .ref m8])), (m1, .inl (cI, 516, .inl (rI (F)))), (m2, .inl (cI, 1032, .inl (rI (sl))))] sz)) 0 0 (va_A [(hm, .inr (5, [.ref m1, .ref m2, .ref m3, .int (iI ((pa : Nat) : Int)), .int (iI ((pb : Nat) : Int)), .ref m4, .int (iI ((cp : Nat) : Int)), .ref m5, .int (iI ((ty : Nat) : Int)), .ref m6, .int (iI ((nx : Nat) : Int)), .int (iI (fi)), .int (iI (se)), .int (iI ((le : Nat) : Int)), .ref m7, .int (iI (bp)), .ref m8])), (m1, .inl (cI, 516, .inl (rI (F)))), (m2, .inl (cI, 1032, .inl (rI (sl))))] sz) := by
  refine startW (cc := cX5_exchanges) (maxL := 4) (ret := none) (by decide) rfl (Nat.le_of_ble_eq_true rfl) ?_
  intro p e s m below meth c S hr hlocks hE hP A hD hA hS ls hl
  have hx := S.1
  have hb := S.2.1
  have hown := S.2.2.2.1
  have hts := S.2.2.2.2
  have hK := hE.1
  have hl : lv_has ls 4 [(0, .ref hm), (1, .int (iI 0))] := hl
  refine r_iconst hx hb dX5_exchanges_0 ?_
  refine lv_istore_n (lv' := [(2, .int (iI 0)), (0, .ref hm), (1, .int (iI 0))]) hx hb dX5_exchanges_1 rfl hl (by decide) rfl (fun ls hl => ?_)
  have loop_2 : ∀ (n_2 : Nat) (d : Nat), (516 - d) < n_2 → (d ≤ 516) → ∀ (H : Heap) (locs : List Loc), va_P D vwCl [(hm, .inr (5, [.ref m1, .ref m2, .ref m3, .int (iI ((pa : Nat) : Int)), .int (iI ((pb : Nat) : Int)), .ref m4, .int (iI ((cp : Nat) : Int)), .ref m5, .int (iI ((ty : Nat) : Int)), .ref m6, .int (iI ((nx : Nat) : Int)), .int (iI (fi)), .int (iI (se)), .int (iI ((le : Nat) : Int)), .ref m7, .int (iI (bp)), .ref m8])), (m1, .inl (cI, 516, .inl (rI (inI F 0 (fun j => sl (516 * 0 + j)) d)))), (m2, .inl (cI, 1032, .inl (rI (inI sl (516 * 0) F d))))] H → va_D A [(hm, .inr (5, [.ref m1, .ref m2, .ref m3, .int (iI ((pa : Nat) : Int)), .int (iI ((pb : Nat) : Int)), .ref m4, .int (iI ((cp : Nat) : Int)), .ref m5, .int (iI ((ty : Nat) : Int)), .ref m6, .int (iI ((nx : Nat) : Int)), .int (iI (fi)), .int (iI (se)), .int (iI ((le : Nat) : Int)), .ref m7, .int (iI (bp)), .ref m8])), (m1, .inl (cI, 516, .inl (rI (inI F 0 (fun j => sl (516 * 0 + j)) d)))), (m2, .inl (cI, 1032, .inl (rI (inI sl (516 * 0) F d))))] → va_S A s.heap H locs → ∀ (ls : Array Slot), lv_has ls 4 [(0, .ref hm), (1, .int (iI 0)), (2, .int (iI ((d : Nat) : Int)))] → W p l e ({ frames := 0, cells := 0, slots := 0, locals := 0 }) s m ([.ref hm, .int (iI 0)] : List Value).toArray below meth c H locs 0 0 (MQ below (QX D (S := Unit) (fun u => none) (fun u => True) (fun u => [(hm, .inr (5, [.ref m1, .ref m2, .ref m3, .int (iI ((pa : Nat) : Int)), .int (iI ((pb : Nat) : Int)), .ref m4, .int (iI ((cp : Nat) : Int)), .ref m5, .int (iI ((ty : Nat) : Int)), .ref m6, .int (iI ((nx : Nat) : Int)), .int (iI (fi)), .int (iI (se)), .int (iI ((le : Nat) : Int)), .ref m7, .int (iI (bp)), .ref m8])), (m1, .inl (cI, 516, .inl (rI (inI F 0 (fun j => sl (516 * 0 + j)) 516)))), (m2, .inl (cI, 1032, .inl (rI (inI sl (516 * 0) F 516))))]) A) ([.ref hm, .int (iI 0)] : List Value).toArray s 0 0 A) (F0 m 2 ls []) := by
    intro n_2
    induction n_2 with
    | zero => intro d h_meas; exact absurd h_meas (Nat.not_lt_zero _)
    | succ n_2 ih_2 =>
      intro d h_m2 id H locs hP hD hS ls hl
      refine lv_iload_n hx hb dX5_exchanges_2 rfl (lv_at hl 2 rfl) ?_
      refine r_sipush hx hb dX5_exchanges_3 (by decide) ?_
      refine r_icmp_ge (tgt := 53) hx hb (by omega) (⟨by decide, by decide⟩) dX5_exchanges_6 (by decide) (fun c_1 => ?_) (fun c_1 => ?_)
      · skip
        obtain rfl : 516 = d := by omega
        exact r_vretX hx hb hr hlocks hP hD hS () rfl (trivial) rfl dX5_exchanges_53
      · skip
        refine lv_aload_n hx hb dX5_exchanges_9 rfl (lv_at hl 0 rfl) ?_
        refine va_get (D := D) (ci := 5) (v := .ref m1) (C := RX5) (T := TX5) (N := 17) hx hb hts nX5_exchanges_X5 hown hK hP 0 rfl rfl 0 (by decide) (hts _ kX5_exchanges_7) (fun _ h9 => h9) rfl dX5_exchanges_10 ?_
        refine lv_iload_n hx hb dX5_exchanges_13 rfl (lv_at hl 2 rfl) ?_
        refine r_iald hx hb hK hP 1 0 rfl rfl (d) (rfl) (by omega) (by decide) dX5_exchanges_14 ?_
        refine lv_istore_n (lv' := [(3, .int (iI ((inI F 0 (fun j => sl (516 * 0 + j)) d) d))), (0, .ref hm), (1, .int (iI 0)), (2, .int (iI ((d : Nat) : Int)))]) hx hb dX5_exchanges_15 rfl hl (by decide) rfl (fun ls hl => ?_)
        refine lv_aload_n hx hb dX5_exchanges_16 rfl (lv_at hl 1 rfl) ?_
        refine va_get (D := D) (ci := 5) (v := .ref m1) (C := RX5) (T := TX5) (N := 17) hx hb hts nX5_exchanges_X5 hown hK hP 0 rfl rfl 0 (by decide) (hts _ kX5_exchanges_7) (fun _ h9 => h9) rfl dX5_exchanges_17 ?_
        refine lv_iload_n hx hb dX5_exchanges_20 rfl (lv_at hl 3 rfl) ?_
        refine lv_aload_n hx hb dX5_exchanges_21 rfl (lv_at hl 1 rfl) ?_
        refine va_get (D := D) (ci := 5) (v := .ref m2) (C := RX5) (T := TX5) (N := 17) hx hb hts nX5_exchanges_X5 hown hK hP 0 rfl rfl 1 (by decide) (hts _ kX5_exchanges_13) (fun _ h9 => h9) rfl dX5_exchanges_22 ?_
        refine r_sipush hx hb dX5_exchanges_25 (by decide) ?_
        refine lv_iload_n hx hb dX5_exchanges_28 rfl (lv_at hl 2 rfl) ?_
        refine r_imul (v := ((516 * 0 : Nat) : Int)) hx hb (rfl) dX5_exchanges_29 ?_
        refine lv_iload_n hx hb dX5_exchanges_30 rfl (lv_at hl 3 rfl) ?_
        refine r_iadd (v := (((516 * 0) + d : Nat) : Int)) hx hb (rfl) dX5_exchanges_31 ?_
        refine r_iald hx hb hK hP 2 0 rfl rfl ((516 * 0) + d) (rfl) (by omega) (by decide) dX5_exchanges_32 ?_
        refine r_iast (v := ((inI sl (516 * 0) F d) ((516 * 0) + d))) hx hb hK hP hD hS 1 0 rfl rfl (d) (rfl) (by omega) (by decide) dX5_exchanges_33 (fun H locs hP hD hS => ?_)
        have hP : va_P D vwCl [(hm, .inr (5, [.ref m1, .ref m2, .ref m3, .int (iI ((pa : Nat) : Int)), .int (iI ((pb : Nat) : Int)), .ref m4, .int (iI ((cp : Nat) : Int)), .ref m5, .int (iI ((ty : Nat) : Int)), .ref m6, .int (iI ((nx : Nat) : Int)), .int (iI (fi)), .int (iI (se)), .int (iI ((le : Nat) : Int)), .ref m7, .int (iI (bp)), .ref m8])), (m1, .inl (cI, 516, .inl (rI (up (inI F 0 (fun j => sl (516 * 0 + j)) d) d ((inI sl (516 * 0) F d) ((516 * 0) + d)))))), (m2, .inl (cI, 1032, .inl (rI (inI sl (516 * 0) F d))))] H := hP
        have hD : va_D A [(hm, .inr (5, [.ref m1, .ref m2, .ref m3, .int (iI ((pa : Nat) : Int)), .int (iI ((pb : Nat) : Int)), .ref m4, .int (iI ((cp : Nat) : Int)), .ref m5, .int (iI ((ty : Nat) : Int)), .ref m6, .int (iI ((nx : Nat) : Int)), .int (iI (fi)), .int (iI (se)), .int (iI ((le : Nat) : Int)), .ref m7, .int (iI (bp)), .ref m8])), (m1, .inl (cI, 516, .inl (rI (up (inI F 0 (fun j => sl (516 * 0 + j)) d) d ((inI sl (516 * 0) F d) ((516 * 0) + d)))))), (m2, .inl (cI, 1032, .inl (rI (inI sl (516 * 0) F d))))] := hD
        refine lv_aload_n hx hb dX5_exchanges_34 rfl (lv_at hl 1 rfl) ?_
        refine va_get (D := D) (ci := 5) (v := .ref m2) (C := RX5) (T := TX5) (N := 17) hx hb hts nX5_exchanges_X5 hown hK hP 0 rfl rfl 1 (by decide) (hts _ kX5_exchanges_13) (fun _ h9 => h9) rfl dX5_exchanges_35 ?_
        refine r_sipush hx hb dX5_exchanges_38 (by decide) ?_
        refine lv_iload_n hx hb dX5_exchanges_41 rfl (lv_at hl 2 rfl) ?_
        refine r_imul (v := ((516 * 0 : Nat) : Int)) hx hb (rfl) dX5_exchanges_42 ?_
        refine lv_iload_n hx hb dX5_exchanges_43 rfl (lv_at hl 3 rfl) ?_
        refine r_iadd (v := (((516 * 0) + d : Nat) : Int)) hx hb (rfl) dX5_exchanges_44 ?_
        refine lv_iload_n hx hb dX5_exchanges_45 rfl (lv_at hl 0 rfl) ?_
        refine r_iast (v := ((inI F 0 (fun j => sl (516 * 0 + j)) d) d)) hx hb hK hP hD hS 2 0 rfl rfl ((516 * 0) + d) (rfl) (by omega) (by decide) dX5_exchanges_46 (fun H locs hP hD hS => ?_)
        have hP : va_P D vwCl [(hm, .inr (5, [.ref m1, .ref m2, .ref m3, .int (iI ((pa : Nat) : Int)), .int (iI ((pb : Nat) : Int)), .ref m4, .int (iI ((cp : Nat) : Int)), .ref m5, .int (iI ((ty : Nat) : Int)), .ref m6, .int (iI ((nx : Nat) : Int)), .int (iI (fi)), .int (iI (se)), .int (iI ((le : Nat) : Int)), .ref m7, .int (iI (bp)), .ref m8])), (m1, .inl (cI, 516, .inl (rI (up (inI F 0 (fun j => sl (516 * 0 + j)) d) d ((inI sl (516 * 0) F d) ((516 * 0) + d)))))), (m2, .inl (cI, 1032, .inl (rI (up (inI sl (516 * 0) F d) ((516 * 0) + d) ((inI F 0 (fun j => sl (516 * 0 + j)) d) d)))))] H := hP
        have hD : va_D A [(hm, .inr (5, [.ref m1, .ref m2, .ref m3, .int (iI ((pa : Nat) : Int)), .int (iI ((pb : Nat) : Int)), .ref m4, .int (iI ((cp : Nat) : Int)), .ref m5, .int (iI ((ty : Nat) : Int)), .ref m6, .int (iI ((nx : Nat) : Int)), .int (iI (fi)), .int (iI (se)), .int (iI ((le : Nat) : Int)), .ref m7, .int (iI (bp)), .ref m8])), (m1, .inl (cI, 516, .inl (rI (up (inI F 0 (fun j => sl (516 * 0 + j)) d) d ((inI sl (516 * 0) F d) ((516 * 0) + d)))))), (m2, .inl (cI, 1032, .inl (rI (up (inI sl (516 * 0) F d) ((516 * 0) + d) ((inI F 0 (fun j => sl (516 * 0 + j)) d) d)))))] := hD
        refine lv_iinc (v := iI ((d + 1 : Nat) : Int)) (lv' := [(2, .int (iI ((d + 1 : Nat) : Int))), (3, .int (iI ((inI F 0 (fun j => sl (516 * 0 + j)) d) d))), (0, .ref hm), (1, .int (iI 0))]) hx hb dX5_exchanges_47 hl (k := 3) rfl ((iI_add _ _).trans (ii (rfl))) (by decide) rfl (fun ls hl => ?_)
        refine lv_goto (tgt := 2) hx hb dX5_exchanges_50 (by decide) ?_
        have hww : ([(hm, .inr (5, [.ref m1, .ref m2, .ref m3, .int (iI ((pa : Nat) : Int)), .int (iI ((pb : Nat) : Int)), .ref m4, .int (iI ((cp : Nat) : Int)), .ref m5, .int (iI ((ty : Nat) : Int)), .ref m6, .int (iI ((nx : Nat) : Int)), .int (iI (fi)), .int (iI (se)), .int (iI ((le : Nat) : Int)), .ref m7, .int (iI (bp)), .ref m8])), (m1, .inl (cI, 516, .inl (rI (up (inI F 0 (fun j => sl (516 * 0 + j)) d) d ((inI sl (516 * 0) F d) ((516 * 0) + d)))))), (m2, .inl (cI, 1032, .inl (rI (up (inI sl (516 * 0) F d) ((516 * 0) + d) ((inI F 0 (fun j => sl (516 * 0 + j)) d) d)))))] : va_W) = [(hm, .inr (5, [.ref m1, .ref m2, .ref m3, .int (iI ((pa : Nat) : Int)), .int (iI ((pb : Nat) : Int)), .ref m4, .int (iI ((cp : Nat) : Int)), .ref m5, .int (iI ((ty : Nat) : Int)), .ref m6, .int (iI ((nx : Nat) : Int)), .int (iI (fi)), .int (iI (se)), .int (iI ((le : Nat) : Int)), .ref m7, .int (iI (bp)), .ref m8])), (m1, .inl (cI, 516, .inl (rI (inI F 0 (fun j => sl (516 * 0 + j)) (d + 1))))), (m2, .inl (cI, 1032, .inl (rI (inI sl (516 * 0) F (d + 1)))))] := by rw [show inI F 0 (fun j => sl (516 * 0 + j)) d d = F d from if_neg (by omega), show inI sl (516 * 0) F d (516 * 0 + d) = sl (516 * 0 + d) from if_neg (by omega), inI_s0 rfl, inI_s rfl]
        rw [hww] at hP hD
        exact ih_2 (d + 1) (by omega) (by first | assumption | (omega)) H locs hP hD hS ls (lv_sub hl [2, 3, 0] rfl)
  have hww : ([(hm, .inr (5, [.ref m1, .ref m2, .ref m3, .int (iI ((pa : Nat) : Int)), .int (iI ((pb : Nat) : Int)), .ref m4, .int (iI ((cp : Nat) : Int)), .ref m5, .int (iI ((ty : Nat) : Int)), .ref m6, .int (iI ((nx : Nat) : Int)), .int (iI (fi)), .int (iI (se)), .int (iI ((le : Nat) : Int)), .ref m7, .int (iI (bp)), .ref m8])), (m1, .inl (cI, 516, .inl (rI (F)))), (m2, .inl (cI, 1032, .inl (rI (sl))))] : va_W) = [(hm, .inr (5, [.ref m1, .ref m2, .ref m3, .int (iI ((pa : Nat) : Int)), .int (iI ((pb : Nat) : Int)), .ref m4, .int (iI ((cp : Nat) : Int)), .ref m5, .int (iI ((ty : Nat) : Int)), .ref m6, .int (iI ((nx : Nat) : Int)), .int (iI (fi)), .int (iI (se)), .int (iI ((le : Nat) : Int)), .ref m7, .int (iI (bp)), .ref m8])), (m1, .inl (cI, 516, .inl (rI (inI F 0 (fun j => sl (516 * 0 + j)) 0)))), (m2, .inl (cI, 1032, .inl (rI (inI sl (516 * 0) F 0))))] := by rw [inI_0, inI_0]
  rw [hww] at hP hD
  exact loop_2 ((516 - 0) + 1) 0 (by omega) (by first | assumption | (omega)) s.heap [] hP hD hS ls (lv_sub hl [1, 2, 0] rfl)

set_option maxHeartbeats 4000000 in
set_option maxRecDepth 100000 in
theorem m_diff_no_0 (l : Launch) (D : va_G) (cI cB cZ cO : ClassId) (hm : Nat) (m1 : Nat) (m2 : Nat) (m3 : Nat) (m4 : Nat) (m5 : Nat) (m6 : Nat) (m7 : Nat) (m8 : Nat) (pa : Nat) (pb : Nat) (cp : Nat) (ty : Nat) (nx : Nat) (fi : Int) (se : Int) (le : Nat) (bp : Int) (cn : Nat) (en : Nat) (ac : Nat) (cu : Nat) (co : Nat → Nat) (au : Nat → Int) (er : Nat → Nat) (ki : Nat → Nat) (bs : Nat → Int) (kp : Nat → Nat) (hkp : ∀ k, kp k ≤ 1) (hk : kp 0 = 0) : Met l yX5_difference wsX5_difference ({ frames := 2, cells := 0, slots := 0, locals := 43 }) (va_Pc [.ref hm, .int (iI 0)] (RO D cI cB cZ cO [(hm, .inr (5, [.ref m1, .ref m2, .ref m3, .int (iI ((pa : Nat) : Int)), .int (iI ((pb : Nat) : Int)), .ref m4, .int (iI ((cp : Nat) : Int)), .ref m5, .int (iI ((ty : Nat) : Int)), .ref m6, .int (iI ((nx : Nat) : Int)), .int (iI (fi)), .int (iI (se)), .int (iI ((le : Nat) : Int)), .ref m7, .int (iI (bp)), .ref m8])), (m1, .inl (cI, 516, .inl (rI (sF cn en ac cu co au er ki bs)))), (m3, .inl (cZ, 2, .inl (rN (kp))))])) (QO (-2)) 0 0 (fun _ => False) := by
  refine startO (cc := cX5_difference) (maxL := 7) (ret := (some .int)) (by decide) rfl (Nat.le_of_ble_eq_true rfl) ?_
  intro p e s m below meth c S hr hlocks hE hP ls hl
  have hx := S.1
  have hb := S.2.1
  have hown := S.2.2.2.1
  have hts := S.2.2.2.2
  have hK := hE.1
  have hl : lv_has ls 7 [(0, .ref hm), (1, .int (iI 0))] := hl
  refine lv_aload_n hx hb dX5_difference_0 rfl (lv_at hl 0 rfl) ?_
  refine lv_iload_n hx hb dX5_difference_1 rfl (lv_at hl 1 rfl) ?_
  refine callVO (n := 1) (As := [.int (iI 0)]) (rest := []) (wc := [(hm, .inr (5, [.ref m1, .ref m2, .ref m3, .int (iI ((pa : Nat) : Int)), .int (iI ((pb : Nat) : Int)), .ref m4, .int (iI ((cp : Nat) : Int)), .ref m5, .int (iI ((ty : Nat) : Int)), .ref m6, .int (iI ((nx : Nat) : Int)), .int (iI (fi)), .int (iI (se)), .int (iI ((le : Nat) : Int)), .ref m7, .int (iI (bp)), .ref m8])), (m1, .inl (cI, 516, .inl (rI (sF cn en ac cu co au er ki bs)))), (m3, .inl (cZ, 2, .inl (rN (kp))))]) S (m_unkept_no_0 l D cI cB cZ cO hm m1 m2 m3 m4 m5 m6 m7 m8 pa pb cp ty nx fi se le bp cn en ac cu co au er ki bs kp (by first | assumption | (omega)) (by first | assumption | (omega))) gX5_difference_X5_unkept rfl ⟨rfl, rfl⟩ (by decide +kernel) ⟨Nat.le_of_ble_eq_true rfl, Nat.le_of_ble_eq_true rfl⟩ hE hP [0, 1, 2] rfl 5 0 rfl rfl rfl hl.1 rfl (Nat.le_of_ble_eq_true rfl) dX5_difference_2 ⟨Nat.le_of_ble_eq_true rfl, Nat.le_of_ble_eq_true rfl⟩ ?_
  refine lv_istore_n (lv' := [(2, .int (iI (-2))), (0, .ref hm), (1, .int (iI 0))]) hx hb dX5_difference_5 rfl hl (by decide) rfl (fun ls hl => ?_)
  refine lv_iload_n hx hb dX5_difference_6 rfl (lv_at hl 0 rfl) ?_
  refine r_if_ge (tgt := 12) hx hb (⟨by decide, by decide⟩) dX5_difference_7 (by decide) (fun c_1 => ?_) (fun c_1 => ?_)
  · skip
    exact absurd c_1 (by decide)
  · skip
    refine lv_iload_n hx hb dX5_difference_10 rfl (lv_at hl 0 rfl) ?_
    exact r_iretO hx hb hr hlocks (rfl) dX5_difference_11

set_option maxHeartbeats 4000000 in
set_option maxRecDepth 100000 in
theorem m_save_1 (l : Launch) (D : va_G) (cI cB cZ cO : ClassId) (sz : Nat) (hm : Nat) (m1 : Nat) (m2 : Nat) (m3 : Nat) (m4 : Nat) (m5 : Nat) (m6 : Nat) (m7 : Nat) (m8 : Nat) (pa : Nat) (pb : Nat) (cp : Nat) (ty : Nat) (nx : Nat) (fi : Int) (se : Int) (le : Nat) (bp : Int) (cn : Nat) (en : Nat) (ac : Nat) (cu : Nat) (co : Nat → Nat) (au : Nat → Int) (er : Nat → Nat) (ki : Nat → Nat) (bs : Nat → Int) (sl : Nat → Int) (kp : Nat → Nat) (hcn : cn ≤ 160) (hac : ac < 65536) (hau : ∀ k, -1 ≤ au k ∧ au k < 16) (her : ∀ k, er k < 65536) : Met l yX5_save wsX5_save ({ frames := 3, cells := 0, slots := 0, locals := 66 }) (va_Pc [.ref hm, .int (iI 1)] (RW D cI cB cZ cO sz [(hm, .inr (5, [.ref m1, .ref m2, .ref m3, .int (iI ((pa : Nat) : Int)), .int (iI ((pb : Nat) : Int)), .ref m4, .int (iI ((cp : Nat) : Int)), .ref m5, .int (iI ((ty : Nat) : Int)), .ref m6, .int (iI ((nx : Nat) : Int)), .int (iI (fi)), .int (iI (se)), .int (iI ((le : Nat) : Int)), .ref m7, .int (iI (bp)), .ref m8])), (m1, .inl (cI, 516, .inl (rI (sF cn en ac cu co au er ki bs)))), (m2, .inl (cI, 1032, .inl (rI (sl)))), (m3, .inl (cZ, 2, .inl (rN (kp))))])) (QX D (S := Unit) (fun u => some (.int (iI ((cnt (visb (omF au) er ac) cn : Nat) : Int)))) (fun u => True) (fun u => [(hm, .inr (5, [.ref m1, .ref m2, .ref m3, .int (iI ((pa : Nat) : Int)), .int (iI ((pb : Nat) : Int)), .ref m4, .int (iI ((cp : Nat) : Int)), .ref m5, .int (iI ((ty : Nat) : Int)), .ref m6, .int (iI ((nx : Nat) : Int)), .int (iI (fi)), .int (iI (se)), .int (iI ((le : Nat) : Int)), .ref m7, .int (iI (bp)), .ref m8])), (m1, .inl (cI, 516, .inl (rI (sF cn en ac cu co au er ki bs)))), (m2, .inl (cI, 1032, .inl (rI (inI sl (516 * 1) (sF cn en ac cu co au er ki bs) 516)))), (m3, .inl (cZ, 2, .inl (rN (up kp 1 (1)))))]) (va_A [(hm, .inr (5, [.ref m1, .ref m2, .ref m3, .int (iI ((pa : Nat) : Int)), .int (iI ((pb : Nat) : Int)), .ref m4, .int (iI ((cp : Nat) : Int)), .ref m5, .int (iI ((ty : Nat) : Int)), .ref m6, .int (iI ((nx : Nat) : Int)), .int (iI (fi)), .int (iI (se)), .int (iI ((le : Nat) : Int)), .ref m7, .int (iI (bp)), .ref m8])), (m1, .inl (cI, 516, .inl (rI (sF cn en ac cu co au er ki bs)))), (m2, .inl (cI, 1032, .inl (rI (sl)))), (m3, .inl (cZ, 2, .inl (rN (kp))))] sz)) 0 0 (va_A [(hm, .inr (5, [.ref m1, .ref m2, .ref m3, .int (iI ((pa : Nat) : Int)), .int (iI ((pb : Nat) : Int)), .ref m4, .int (iI ((cp : Nat) : Int)), .ref m5, .int (iI ((ty : Nat) : Int)), .ref m6, .int (iI ((nx : Nat) : Int)), .int (iI (fi)), .int (iI (se)), .int (iI ((le : Nat) : Int)), .ref m7, .int (iI (bp)), .ref m8])), (m1, .inl (cI, 516, .inl (rI (sF cn en ac cu co au er ki bs)))), (m2, .inl (cI, 1032, .inl (rI (sl)))), (m3, .inl (cZ, 2, .inl (rN (kp))))] sz) := by
  refine startW (cc := cX5_save) (maxL := 3) (ret := (some .int)) (by decide) rfl (Nat.le_of_ble_eq_true rfl) ?_
  intro p e s m below meth c S hr hlocks hE hP A hD hA hS ls hl
  have hx := S.1
  have hb := S.2.1
  have hown := S.2.2.2.1
  have hts := S.2.2.2.2
  have hK := hE.1
  have hl : lv_has ls 3 [(0, .ref hm), (1, .int (iI 1))] := hl
  refine lv_iload_n hx hb dX5_save_0 rfl (lv_at hl 1 rfl) ?_
  refine r_iconst hx hb dX5_save_1 ?_
  refine r_iconst hx hb dX5_save_2 ?_
  rw [show (1 : Int) = (1) from by omega]
  rw [show (0 : Int) = (0) from by omega]
  rw [show (1 : Int) = (1) from by omega]
  refine callSO (n := 3) (As := [.int (iI (1)), .int (iI (0)), .int (iI (1))]) (rest := []) (wc := []) S (m_in l D cI cB cZ cO 1 0 1 (by first | assumption | (omega)) (by first | assumption | (omega)) (by first | assumption | (omega))) gX5_save_X5_in rfl ⟨rfl, rfl⟩ (by decide +kernel) ⟨Nat.le_of_ble_eq_true rfl, Nat.le_of_ble_eq_true rfl⟩ hE hP [] rfl rfl hl.1 rfl (Nat.le_of_ble_eq_true rfl) dX5_save_3 ⟨Nat.le_of_ble_eq_true rfl, Nat.le_of_ble_eq_true rfl⟩ ?_
  refine r_ifb_ne (tgt := 11) hx hb dX5_save_6 (by decide) (fun c_1 => ?_) (fun c_1 => ?_)
  · skip
    refine r_iconst hx hb dX5_save_11 ?_
    refine lv_istore_n (lv' := [(2, .int (iI 0)), (0, .ref hm), (1, .int (iI 1))]) hx hb dX5_save_12 rfl hl (by decide) rfl (fun ls hl => ?_)
    have loop_13 : ∀ (n_13 : Nat) (d : Nat), (516 - d) < n_13 → (d ≤ 516) → ∀ (H : Heap) (locs : List Loc), va_P D vwCl [(hm, .inr (5, [.ref m1, .ref m2, .ref m3, .int (iI ((pa : Nat) : Int)), .int (iI ((pb : Nat) : Int)), .ref m4, .int (iI ((cp : Nat) : Int)), .ref m5, .int (iI ((ty : Nat) : Int)), .ref m6, .int (iI ((nx : Nat) : Int)), .int (iI (fi)), .int (iI (se)), .int (iI ((le : Nat) : Int)), .ref m7, .int (iI (bp)), .ref m8])), (m1, .inl (cI, 516, .inl (rI (sF cn en ac cu co au er ki bs)))), (m2, .inl (cI, 1032, .inl (rI (inI sl (516 * 1) (sF cn en ac cu co au er ki bs) d)))), (m3, .inl (cZ, 2, .inl (rN (kp))))] H → va_D A [(hm, .inr (5, [.ref m1, .ref m2, .ref m3, .int (iI ((pa : Nat) : Int)), .int (iI ((pb : Nat) : Int)), .ref m4, .int (iI ((cp : Nat) : Int)), .ref m5, .int (iI ((ty : Nat) : Int)), .ref m6, .int (iI ((nx : Nat) : Int)), .int (iI (fi)), .int (iI (se)), .int (iI ((le : Nat) : Int)), .ref m7, .int (iI (bp)), .ref m8])), (m1, .inl (cI, 516, .inl (rI (sF cn en ac cu co au er ki bs)))), (m2, .inl (cI, 1032, .inl (rI (inI sl (516 * 1) (sF cn en ac cu co au er ki bs) d)))), (m3, .inl (cZ, 2, .inl (rN (kp))))] → va_S A s.heap H locs → ∀ (ls : Array Slot), lv_has ls 3 [(0, .ref hm), (1, .int (iI 1)), (2, .int (iI ((d : Nat) : Int)))] → W p l e ({ frames := 3, cells := 0, slots := 0, locals := 66 }) s m ([.ref hm, .int (iI 1)] : List Value).toArray below meth c H locs 0 0 (MQ below (QX D (S := Unit) (fun u => some (.int (iI ((cnt (visb (omF au) er ac) cn : Nat) : Int)))) (fun u => True) (fun u => [(hm, .inr (5, [.ref m1, .ref m2, .ref m3, .int (iI ((pa : Nat) : Int)), .int (iI ((pb : Nat) : Int)), .ref m4, .int (iI ((cp : Nat) : Int)), .ref m5, .int (iI ((ty : Nat) : Int)), .ref m6, .int (iI ((nx : Nat) : Int)), .int (iI (fi)), .int (iI (se)), .int (iI ((le : Nat) : Int)), .ref m7, .int (iI (bp)), .ref m8])), (m1, .inl (cI, 516, .inl (rI (sF cn en ac cu co au er ki bs)))), (m2, .inl (cI, 1032, .inl (rI (inI sl (516 * 1) (sF cn en ac cu co au er ki bs) 516)))), (m3, .inl (cZ, 2, .inl (rN (up kp 1 (1)))))]) A) ([.ref hm, .int (iI 1)] : List Value).toArray s 0 0 A) (F0 m 13 ls []) := by
      intro n_13
      induction n_13 with
      | zero => intro d h_meas; exact absurd h_meas (Nat.not_lt_zero _)
      | succ n_13 ih_13 =>
        intro d h_m13 id H locs hP hD hS ls hl
        refine lv_iload_n hx hb dX5_save_13 rfl (lv_at hl 2 rfl) ?_
        refine r_sipush hx hb dX5_save_14 (by decide) ?_
        refine r_icmp_ge (tgt := 44) hx hb (by omega) (⟨by decide, by decide⟩) dX5_save_17 (by decide) (fun c_2 => ?_) (fun c_2 => ?_)
        · skip
          obtain rfl : 516 = d := by omega
          refine lv_aload_n hx hb dX5_save_44 rfl (lv_at hl 0 rfl) ?_
          refine va_get (D := D) (ci := 5) (v := .ref m3) (C := RX5) (T := TX5) (N := 17) hx hb hts nX5_save_X5 hown hK hP 0 rfl rfl 2 (by decide) (hts _ kX5_save_16) (fun _ h9 => h9) rfl dX5_save_45 ?_
          refine lv_iload_n hx hb dX5_save_48 rfl (lv_at hl 1 rfl) ?_
          refine r_iconst hx hb dX5_save_49 ?_
          refine r_zastN (v := (1)) hx hb hK hP hD hS 3 2 rfl rfl (1) (rfl) (by omega) (by decide) (rfl) dX5_save_50 (fun H locs hP hD hS => ?_)
          have hP : va_P D vwCl [(hm, .inr (5, [.ref m1, .ref m2, .ref m3, .int (iI ((pa : Nat) : Int)), .int (iI ((pb : Nat) : Int)), .ref m4, .int (iI ((cp : Nat) : Int)), .ref m5, .int (iI ((ty : Nat) : Int)), .ref m6, .int (iI ((nx : Nat) : Int)), .int (iI (fi)), .int (iI (se)), .int (iI ((le : Nat) : Int)), .ref m7, .int (iI (bp)), .ref m8])), (m1, .inl (cI, 516, .inl (rI (sF cn en ac cu co au er ki bs)))), (m2, .inl (cI, 1032, .inl (rI (inI sl (516 * 1) (sF cn en ac cu co au er ki bs) 516)))), (m3, .inl (cZ, 2, .inl (rN (up kp 1 (1)))))] H := hP
          have hD : va_D A [(hm, .inr (5, [.ref m1, .ref m2, .ref m3, .int (iI ((pa : Nat) : Int)), .int (iI ((pb : Nat) : Int)), .ref m4, .int (iI ((cp : Nat) : Int)), .ref m5, .int (iI ((ty : Nat) : Int)), .ref m6, .int (iI ((nx : Nat) : Int)), .int (iI (fi)), .int (iI (se)), .int (iI ((le : Nat) : Int)), .ref m7, .int (iI (bp)), .ref m8])), (m1, .inl (cI, 516, .inl (rI (sF cn en ac cu co au er ki bs)))), (m2, .inl (cI, 1032, .inl (rI (inI sl (516 * 1) (sF cn en ac cu co au er ki bs) 516)))), (m3, .inl (cZ, 2, .inl (rN (up kp 1 (1)))))] := hD
          refine lv_aload_n hx hb dX5_save_51 rfl (lv_at hl 0 rfl) ?_
          refine callVO (n := 0) (As := []) (rest := []) (wc := [(hm, .inr (5, [.ref m1, .ref m2, .ref m3, .int (iI ((pa : Nat) : Int)), .int (iI ((pb : Nat) : Int)), .ref m4, .int (iI ((cp : Nat) : Int)), .ref m5, .int (iI ((ty : Nat) : Int)), .ref m6, .int (iI ((nx : Nat) : Int)), .int (iI (fi)), .int (iI (se)), .int (iI ((le : Nat) : Int)), .ref m7, .int (iI (bp)), .ref m8])), (m1, .inl (cI, 516, .inl (rI (sF cn en ac cu co au er ki bs))))]) S (m_length l D cI cB cZ cO hm m1 m2 m3 m4 m5 m6 m7 m8 pa pb cp ty nx fi se le bp cn en ac cu co au er ki bs (by first | assumption | (omega)) (by first | assumption | (omega)) (by first | assumption | (omega)) (by first | assumption | (omega))) gX5_save_X5_length rfl ⟨rfl, rfl⟩ (by decide +kernel) ⟨Nat.le_of_ble_eq_true rfl, Nat.le_of_ble_eq_true rfl⟩ hE hP [0, 1] rfl 5 0 rfl rfl rfl hl.1 rfl (Nat.le_of_ble_eq_true rfl) dX5_save_52 ⟨Nat.le_of_ble_eq_true rfl, Nat.le_of_ble_eq_true rfl⟩ ?_
          exact r_iretX hx hb hr hlocks hP hD hS () (rfl) (trivial) rfl dX5_save_55
        · skip
          refine lv_aload_n hx hb dX5_save_20 rfl (lv_at hl 0 rfl) ?_
          refine va_get (D := D) (ci := 5) (v := .ref m2) (C := RX5) (T := TX5) (N := 17) hx hb hts nX5_save_X5 hown hK hP 0 rfl rfl 1 (by decide) (hts _ kX5_save_13) (fun _ h9 => h9) rfl dX5_save_21 ?_
          refine r_sipush hx hb dX5_save_24 (by decide) ?_
          refine lv_iload_n hx hb dX5_save_27 rfl (lv_at hl 1 rfl) ?_
          refine r_imul (v := ((516 * 1 : Nat) : Int)) hx hb (rfl) dX5_save_28 ?_
          refine lv_iload_n hx hb dX5_save_29 rfl (lv_at hl 2 rfl) ?_
          refine r_iadd (v := (((516 * 1) + d : Nat) : Int)) hx hb (rfl) dX5_save_30 ?_
          refine lv_aload_n hx hb dX5_save_31 rfl (lv_at hl 0 rfl) ?_
          refine va_get (D := D) (ci := 5) (v := .ref m1) (C := RX5) (T := TX5) (N := 17) hx hb hts nX5_save_X5 hown hK hP 0 rfl rfl 0 (by decide) (hts _ kX5_save_7) (fun _ h9 => h9) rfl dX5_save_32 ?_
          refine lv_iload_n hx hb dX5_save_35 rfl (lv_at hl 2 rfl) ?_
          refine r_iald hx hb hK hP 1 0 rfl rfl (d) (rfl) (by omega) (by decide) dX5_save_36 ?_
          refine r_iast (v := ((sF cn en ac cu co au er ki bs) d)) hx hb hK hP hD hS 2 0 rfl rfl ((516 * 1) + d) (rfl) (by omega) (by decide) dX5_save_37 (fun H locs hP hD hS => ?_)
          have hP : va_P D vwCl [(hm, .inr (5, [.ref m1, .ref m2, .ref m3, .int (iI ((pa : Nat) : Int)), .int (iI ((pb : Nat) : Int)), .ref m4, .int (iI ((cp : Nat) : Int)), .ref m5, .int (iI ((ty : Nat) : Int)), .ref m6, .int (iI ((nx : Nat) : Int)), .int (iI (fi)), .int (iI (se)), .int (iI ((le : Nat) : Int)), .ref m7, .int (iI (bp)), .ref m8])), (m1, .inl (cI, 516, .inl (rI (sF cn en ac cu co au er ki bs)))), (m2, .inl (cI, 1032, .inl (rI (up (inI sl (516 * 1) (sF cn en ac cu co au er ki bs) d) ((516 * 1) + d) ((sF cn en ac cu co au er ki bs) d))))), (m3, .inl (cZ, 2, .inl (rN (kp))))] H := hP
          have hD : va_D A [(hm, .inr (5, [.ref m1, .ref m2, .ref m3, .int (iI ((pa : Nat) : Int)), .int (iI ((pb : Nat) : Int)), .ref m4, .int (iI ((cp : Nat) : Int)), .ref m5, .int (iI ((ty : Nat) : Int)), .ref m6, .int (iI ((nx : Nat) : Int)), .int (iI (fi)), .int (iI (se)), .int (iI ((le : Nat) : Int)), .ref m7, .int (iI (bp)), .ref m8])), (m1, .inl (cI, 516, .inl (rI (sF cn en ac cu co au er ki bs)))), (m2, .inl (cI, 1032, .inl (rI (up (inI sl (516 * 1) (sF cn en ac cu co au er ki bs) d) ((516 * 1) + d) ((sF cn en ac cu co au er ki bs) d))))), (m3, .inl (cZ, 2, .inl (rN (kp))))] := hD
          refine lv_iinc (v := iI ((d + 1 : Nat) : Int)) (lv' := [(2, .int (iI ((d + 1 : Nat) : Int))), (0, .ref hm), (1, .int (iI 1))]) hx hb dX5_save_38 hl (k := 2) rfl ((iI_add _ _).trans (ii (rfl))) (by decide) rfl (fun ls hl => ?_)
          refine lv_goto (tgt := 13) hx hb dX5_save_41 (by decide) ?_
          have hww : ([(hm, .inr (5, [.ref m1, .ref m2, .ref m3, .int (iI ((pa : Nat) : Int)), .int (iI ((pb : Nat) : Int)), .ref m4, .int (iI ((cp : Nat) : Int)), .ref m5, .int (iI ((ty : Nat) : Int)), .ref m6, .int (iI ((nx : Nat) : Int)), .int (iI (fi)), .int (iI (se)), .int (iI ((le : Nat) : Int)), .ref m7, .int (iI (bp)), .ref m8])), (m1, .inl (cI, 516, .inl (rI (sF cn en ac cu co au er ki bs)))), (m2, .inl (cI, 1032, .inl (rI (up (inI sl (516 * 1) (sF cn en ac cu co au er ki bs) d) ((516 * 1) + d) ((sF cn en ac cu co au er ki bs) d))))), (m3, .inl (cZ, 2, .inl (rN (kp))))] : va_W) = [(hm, .inr (5, [.ref m1, .ref m2, .ref m3, .int (iI ((pa : Nat) : Int)), .int (iI ((pb : Nat) : Int)), .ref m4, .int (iI ((cp : Nat) : Int)), .ref m5, .int (iI ((ty : Nat) : Int)), .ref m6, .int (iI ((nx : Nat) : Int)), .int (iI (fi)), .int (iI (se)), .int (iI ((le : Nat) : Int)), .ref m7, .int (iI (bp)), .ref m8])), (m1, .inl (cI, 516, .inl (rI (sF cn en ac cu co au er ki bs)))), (m2, .inl (cI, 1032, .inl (rI (inI sl (516 * 1) (sF cn en ac cu co au er ki bs) (d + 1))))), (m3, .inl (cZ, 2, .inl (rN (kp))))] := by rw [inI_s rfl]
          rw [hww] at hP hD
          exact ih_13 (d + 1) (by omega) (by first | assumption | (omega)) H locs hP hD hS ls (lv_sub hl [1, 2, 0] rfl)
    have hww : ([(hm, .inr (5, [.ref m1, .ref m2, .ref m3, .int (iI ((pa : Nat) : Int)), .int (iI ((pb : Nat) : Int)), .ref m4, .int (iI ((cp : Nat) : Int)), .ref m5, .int (iI ((ty : Nat) : Int)), .ref m6, .int (iI ((nx : Nat) : Int)), .int (iI (fi)), .int (iI (se)), .int (iI ((le : Nat) : Int)), .ref m7, .int (iI (bp)), .ref m8])), (m1, .inl (cI, 516, .inl (rI (sF cn en ac cu co au er ki bs)))), (m2, .inl (cI, 1032, .inl (rI (sl)))), (m3, .inl (cZ, 2, .inl (rN (kp))))] : va_W) = [(hm, .inr (5, [.ref m1, .ref m2, .ref m3, .int (iI ((pa : Nat) : Int)), .int (iI ((pb : Nat) : Int)), .ref m4, .int (iI ((cp : Nat) : Int)), .ref m5, .int (iI ((ty : Nat) : Int)), .ref m6, .int (iI ((nx : Nat) : Int)), .int (iI (fi)), .int (iI (se)), .int (iI ((le : Nat) : Int)), .ref m7, .int (iI (bp)), .ref m8])), (m1, .inl (cI, 516, .inl (rI (sF cn en ac cu co au er ki bs)))), (m2, .inl (cI, 1032, .inl (rI (inI sl (516 * 1) (sF cn en ac cu co au er ki bs) 0)))), (m3, .inl (cZ, 2, .inl (rN (kp))))] := by rw [inI_0]
    rw [hww] at hP hD
    exact loop_13 ((516 - 0) + 1) 0 (by omega) (by first | assumption | (omega)) s.heap [] hP hD hS ls (lv_sub hl [1, 2, 0] rfl)
  · skip
    exfalso; omega

set_option maxHeartbeats 4000000 in
set_option maxRecDepth 100000 in
theorem m_unkept_no_1 (l : Launch) (D : va_G) (cI cB cZ cO : ClassId) (hm : Nat) (m1 : Nat) (m2 : Nat) (m3 : Nat) (m4 : Nat) (m5 : Nat) (m6 : Nat) (m7 : Nat) (m8 : Nat) (pa : Nat) (pb : Nat) (cp : Nat) (ty : Nat) (nx : Nat) (fi : Int) (se : Int) (le : Nat) (bp : Int) (cn : Nat) (en : Nat) (ac : Nat) (cu : Nat) (co : Nat → Nat) (au : Nat → Int) (er : Nat → Nat) (ki : Nat → Nat) (bs : Nat → Int) (kp : Nat → Nat) (hkp : ∀ k, kp k ≤ 1) (hk : kp 1 = 0) : Met l yX5_unkept wsX5_unkept ({ frames := 1, cells := 0, slots := 0, locals := 22 }) (va_Pc [.ref hm, .int (iI 1)] (RO D cI cB cZ cO [(hm, .inr (5, [.ref m1, .ref m2, .ref m3, .int (iI ((pa : Nat) : Int)), .int (iI ((pb : Nat) : Int)), .ref m4, .int (iI ((cp : Nat) : Int)), .ref m5, .int (iI ((ty : Nat) : Int)), .ref m6, .int (iI ((nx : Nat) : Int)), .int (iI (fi)), .int (iI (se)), .int (iI ((le : Nat) : Int)), .ref m7, .int (iI (bp)), .ref m8])), (m1, .inl (cI, 516, .inl (rI (sF cn en ac cu co au er ki bs)))), (m3, .inl (cZ, 2, .inl (rN (kp))))])) (QO (-2)) 0 0 (fun _ => False) := by
  refine startO (cc := cX5_unkept) (maxL := 2) (ret := (some .int)) (by decide) rfl (Nat.le_of_ble_eq_true rfl) ?_
  intro p e s m below meth c S hr hlocks hE hP ls hl
  have hx := S.1
  have hb := S.2.1
  have hown := S.2.2.2.1
  have hts := S.2.2.2.2
  have hK := hE.1
  have hl : lv_has ls 2 [(0, .ref hm), (1, .int (iI 1))] := hl
  have hkpi := hkp 1
  refine lv_iload_n hx hb dX5_unkept_0 rfl (lv_at hl 1 rfl) ?_
  refine r_iconst hx hb dX5_unkept_1 ?_
  refine r_iconst hx hb dX5_unkept_2 ?_
  rw [show (1 : Int) = (1) from by omega]
  rw [show (0 : Int) = (0) from by omega]
  rw [show (1 : Int) = (1) from by omega]
  refine callSO (n := 3) (As := [.int (iI (1)), .int (iI (0)), .int (iI (1))]) (rest := []) (wc := []) S (m_in l D cI cB cZ cO 1 0 1 (by first | assumption | (omega)) (by first | assumption | (omega)) (by first | assumption | (omega))) gX5_unkept_X5_in rfl ⟨rfl, rfl⟩ (by decide +kernel) ⟨Nat.le_of_ble_eq_true rfl, Nat.le_of_ble_eq_true rfl⟩ hE hP [] rfl rfl hl.1 rfl (Nat.le_of_ble_eq_true rfl) dX5_unkept_3 ⟨Nat.le_of_ble_eq_true rfl, Nat.le_of_ble_eq_true rfl⟩ ?_
  refine r_ifb_ne (tgt := 13) hx hb dX5_unkept_6 (by decide) (fun c_1 => ?_) (fun c_1 => ?_)
  · skip
    refine lv_aload_n hx hb dX5_unkept_13 rfl (lv_at hl 0 rfl) ?_
    refine va_get (D := D) (ci := 5) (v := .ref m3) (C := RX5) (T := TX5) (N := 17) hx hb hts nX5_unkept_X5 hown hK hP 0 rfl rfl 2 (by decide) (hts _ kX5_unkept_16) (fun _ h9 => h9) rfl dX5_unkept_14 ?_
    refine lv_iload_n hx hb dX5_unkept_17 rfl (lv_at hl 1 rfl) ?_
    refine r_zaldN hx hb hK hP 2 2 rfl rfl (1) (rfl) (by omega) (by decide) dX5_unkept_18 ?_
    refine r_if_eq (tgt := 26) hx hb (by omega) dX5_unkept_19 (by decide) (fun c_2 => ?_) (fun c_2 => ?_)
    · skip
      refine r_bipush hx hb dX5_unkept_26 (by decide) ?_
      exact r_iretO hx hb hr hlocks (rfl) dX5_unkept_28
    · skip
      exfalso; omega
  · skip
    exfalso; omega

set_option maxHeartbeats 4000000 in
set_option maxRecDepth 100000 in
theorem m_unkept_1 (l : Launch) (D : va_G) (cI cB cZ cO : ClassId) (hm : Nat) (m1 : Nat) (m2 : Nat) (m3 : Nat) (m4 : Nat) (m5 : Nat) (m6 : Nat) (m7 : Nat) (m8 : Nat) (pa : Nat) (pb : Nat) (cp : Nat) (ty : Nat) (nx : Nat) (fi : Int) (se : Int) (le : Nat) (bp : Int) (cn : Nat) (en : Nat) (ac : Nat) (cu : Nat) (co : Nat → Nat) (au : Nat → Int) (er : Nat → Nat) (ki : Nat → Nat) (bs : Nat → Int) (kp : Nat → Nat) (hkp : ∀ k, kp k ≤ 1) (hk : kp 1 = 1) : Met l yX5_unkept wsX5_unkept ({ frames := 1, cells := 0, slots := 0, locals := 22 }) (va_Pc [.ref hm, .int (iI 1)] (RO D cI cB cZ cO [(hm, .inr (5, [.ref m1, .ref m2, .ref m3, .int (iI ((pa : Nat) : Int)), .int (iI ((pb : Nat) : Int)), .ref m4, .int (iI ((cp : Nat) : Int)), .ref m5, .int (iI ((ty : Nat) : Int)), .ref m6, .int (iI ((nx : Nat) : Int)), .int (iI (fi)), .int (iI (se)), .int (iI ((le : Nat) : Int)), .ref m7, .int (iI (bp)), .ref m8])), (m1, .inl (cI, 516, .inl (rI (sF cn en ac cu co au er ki bs)))), (m3, .inl (cZ, 2, .inl (rN (kp))))])) (QO 0) 0 0 (fun _ => False) := by
  refine startO (cc := cX5_unkept) (maxL := 2) (ret := (some .int)) (by decide) rfl (Nat.le_of_ble_eq_true rfl) ?_
  intro p e s m below meth c S hr hlocks hE hP ls hl
  have hx := S.1
  have hb := S.2.1
  have hown := S.2.2.2.1
  have hts := S.2.2.2.2
  have hK := hE.1
  have hl : lv_has ls 2 [(0, .ref hm), (1, .int (iI 1))] := hl
  have hkpi := hkp 1
  refine lv_iload_n hx hb dX5_unkept_0 rfl (lv_at hl 1 rfl) ?_
  refine r_iconst hx hb dX5_unkept_1 ?_
  refine r_iconst hx hb dX5_unkept_2 ?_
  rw [show (1 : Int) = (1) from by omega]
  rw [show (0 : Int) = (0) from by omega]
  rw [show (1 : Int) = (1) from by omega]
  refine callSO (n := 3) (As := [.int (iI (1)), .int (iI (0)), .int (iI (1))]) (rest := []) (wc := []) S (m_in l D cI cB cZ cO 1 0 1 (by first | assumption | (omega)) (by first | assumption | (omega)) (by first | assumption | (omega))) gX5_unkept_X5_in rfl ⟨rfl, rfl⟩ (by decide +kernel) ⟨Nat.le_of_ble_eq_true rfl, Nat.le_of_ble_eq_true rfl⟩ hE hP [] rfl rfl hl.1 rfl (Nat.le_of_ble_eq_true rfl) dX5_unkept_3 ⟨Nat.le_of_ble_eq_true rfl, Nat.le_of_ble_eq_true rfl⟩ ?_
  refine r_ifb_ne (tgt := 13) hx hb dX5_unkept_6 (by decide) (fun c_1 => ?_) (fun c_1 => ?_)
  · skip
    refine lv_aload_n hx hb dX5_unkept_13 rfl (lv_at hl 0 rfl) ?_
    refine va_get (D := D) (ci := 5) (v := .ref m3) (C := RX5) (T := TX5) (N := 17) hx hb hts nX5_unkept_X5 hown hK hP 0 rfl rfl 2 (by decide) (hts _ kX5_unkept_16) (fun _ h9 => h9) rfl dX5_unkept_14 ?_
    refine lv_iload_n hx hb dX5_unkept_17 rfl (lv_at hl 1 rfl) ?_
    refine r_zaldN hx hb hK hP 2 2 rfl rfl (1) (rfl) (by omega) (by decide) dX5_unkept_18 ?_
    refine r_if_eq (tgt := 26) hx hb (by omega) dX5_unkept_19 (by decide) (fun c_2 => ?_) (fun c_2 => ?_)
    · skip
      exfalso; omega
    · skip
      refine r_iconst hx hb dX5_unkept_22 ?_
      refine lv_goto (tgt := 28) hx hb dX5_unkept_23 (by decide) ?_
      exact r_iretO hx hb hr hlocks (rfl) dX5_unkept_28
  · skip
    exfalso; omega

set_option maxHeartbeats 4000000 in
set_option maxRecDepth 100000 in
theorem m_restore_no_1 (l : Launch) (D : va_G) (cI cB cZ cO : ClassId) (hm : Nat) (m1 : Nat) (m2 : Nat) (m3 : Nat) (m4 : Nat) (m5 : Nat) (m6 : Nat) (m7 : Nat) (m8 : Nat) (pa : Nat) (pb : Nat) (cp : Nat) (ty : Nat) (nx : Nat) (fi : Int) (se : Int) (le : Nat) (bp : Int) (cn : Nat) (en : Nat) (ac : Nat) (cu : Nat) (co : Nat → Nat) (au : Nat → Int) (er : Nat → Nat) (ki : Nat → Nat) (bs : Nat → Int) (kp : Nat → Nat) (hkp : ∀ k, kp k ≤ 1) (hk : kp 1 = 0) : Met l yX5_restore wsX5_restore ({ frames := 2, cells := 0, slots := 0, locals := 43 }) (va_Pc [.ref hm, .int (iI 1)] (RO D cI cB cZ cO [(hm, .inr (5, [.ref m1, .ref m2, .ref m3, .int (iI ((pa : Nat) : Int)), .int (iI ((pb : Nat) : Int)), .ref m4, .int (iI ((cp : Nat) : Int)), .ref m5, .int (iI ((ty : Nat) : Int)), .ref m6, .int (iI ((nx : Nat) : Int)), .int (iI (fi)), .int (iI (se)), .int (iI ((le : Nat) : Int)), .ref m7, .int (iI (bp)), .ref m8])), (m1, .inl (cI, 516, .inl (rI (sF cn en ac cu co au er ki bs)))), (m3, .inl (cZ, 2, .inl (rN (kp))))])) (QO (-2)) 0 0 (fun _ => False) := by
  refine startO (cc := cX5_restore) (maxL := 4) (ret := (some .int)) (by decide) rfl (Nat.le_of_ble_eq_true rfl) ?_
  intro p e s m below meth c S hr hlocks hE hP ls hl
  have hx := S.1
  have hb := S.2.1
  have hown := S.2.2.2.1
  have hts := S.2.2.2.2
  have hK := hE.1
  have hl : lv_has ls 4 [(0, .ref hm), (1, .int (iI 1))] := hl
  refine lv_aload_n hx hb dX5_restore_0 rfl (lv_at hl 0 rfl) ?_
  refine lv_iload_n hx hb dX5_restore_1 rfl (lv_at hl 1 rfl) ?_
  refine callVO (n := 1) (As := [.int (iI 1)]) (rest := []) (wc := [(hm, .inr (5, [.ref m1, .ref m2, .ref m3, .int (iI ((pa : Nat) : Int)), .int (iI ((pb : Nat) : Int)), .ref m4, .int (iI ((cp : Nat) : Int)), .ref m5, .int (iI ((ty : Nat) : Int)), .ref m6, .int (iI ((nx : Nat) : Int)), .int (iI (fi)), .int (iI (se)), .int (iI ((le : Nat) : Int)), .ref m7, .int (iI (bp)), .ref m8])), (m1, .inl (cI, 516, .inl (rI (sF cn en ac cu co au er ki bs)))), (m3, .inl (cZ, 2, .inl (rN (kp))))]) S (m_unkept_no_1 l D cI cB cZ cO hm m1 m2 m3 m4 m5 m6 m7 m8 pa pb cp ty nx fi se le bp cn en ac cu co au er ki bs kp (by first | assumption | (omega)) (by first | assumption | (omega))) gX5_restore_X5_unkept rfl ⟨rfl, rfl⟩ (by decide +kernel) ⟨Nat.le_of_ble_eq_true rfl, Nat.le_of_ble_eq_true rfl⟩ hE hP [0, 1, 2] rfl 5 0 rfl rfl rfl hl.1 rfl (Nat.le_of_ble_eq_true rfl) dX5_restore_2 ⟨Nat.le_of_ble_eq_true rfl, Nat.le_of_ble_eq_true rfl⟩ ?_
  refine lv_istore_n (lv' := [(2, .int (iI (-2))), (0, .ref hm), (1, .int (iI 1))]) hx hb dX5_restore_5 rfl hl (by decide) rfl (fun ls hl => ?_)
  refine r_iconst hx hb dX5_restore_6 ?_
  refine lv_istore_n (lv' := [(3, .int (iI 0)), (2, .int (iI (-2))), (0, .ref hm), (1, .int (iI 1))]) hx hb dX5_restore_7 rfl hl (by decide) rfl (fun ls hl => ?_)
  refine lv_iload_n hx hb dX5_restore_8 rfl (lv_at hl 0 rfl) ?_
  refine r_sipush hx hb dX5_restore_9 (by decide) ?_
  refine r_icmp_ge (tgt := 43) hx hb (⟨by decide, by decide⟩) (⟨by decide, by decide⟩) dX5_restore_12 (by decide) (fun c_1 => ?_) (fun c_1 => ?_)
  · skip
    exact absurd c_1 (by decide)
  · skip
    refine lv_iload_n hx hb dX5_restore_15 rfl (lv_at hl 1 rfl) ?_
    refine r_if_ne (tgt := 43) hx hb (⟨by decide, by decide⟩) dX5_restore_16 (by decide) (fun c_2 => ?_) (fun c_2 => ?_)
    · skip
      refine lv_iload_n hx hb dX5_restore_43 rfl (lv_at hl 1 rfl) ?_
      refine r_if_ge (tgt := 51) hx hb (⟨by decide, by decide⟩) dX5_restore_44 (by decide) (fun c_3 => ?_) (fun c_3 => ?_)
      · skip
        exact absurd c_3 (by decide)
      · skip
        refine lv_iload_n hx hb dX5_restore_47 rfl (lv_at hl 1 rfl) ?_
        refine lv_goto (tgt := 55) hx hb dX5_restore_48 (by decide) ?_
        exact r_iretO hx hb hr hlocks (rfl) dX5_restore_55
    · skip
      exact absurd c_2 (by decide)

set_option maxHeartbeats 4000000 in
set_option maxRecDepth 100000 in
theorem m_restore_1 (l : Launch) (D : va_G) (cI cB cZ cO : ClassId) (sz : Nat) (hm : Nat) (m1 : Nat) (m2 : Nat) (m3 : Nat) (m4 : Nat) (m5 : Nat) (m6 : Nat) (m7 : Nat) (m8 : Nat) (pa : Nat) (pb : Nat) (cp : Nat) (ty : Nat) (nx : Nat) (fi : Int) (se : Int) (le : Nat) (bp : Int) (cn : Nat) (en : Nat) (ac : Nat) (cu : Nat) (co : Nat → Nat) (au : Nat → Int) (er : Nat → Nat) (ki : Nat → Nat) (bs : Nat → Int) (sl : Nat → Int) (kp : Nat → Nat) (cnz : Nat) (enz : Nat) (acz : Nat) (cuz : Nat) (coz : Nat → Nat) (auz : Nat → Int) (erz : Nat → Nat) (kiz : Nat → Nat) (bsz : Nat → Int) (hkp : ∀ k, kp k ≤ 1) (hk : kp 1 = 1) (hsl : ∀ j, j < 516 → sl (516 * 1 + j) = sF cnz enz acz cuz coz auz erz kiz bsz j) (hcn : cnz ≤ 160) (hac : acz < 65536) (hau : ∀ k, -1 ≤ auz k ∧ auz k < 16) (her : ∀ k, erz k < 65536) : Met l yX5_restore wsX5_restore ({ frames := 3, cells := 0, slots := 0, locals := 66 }) (va_Pc [.ref hm, .int (iI 1)] (RW D cI cB cZ cO sz [(hm, .inr (5, [.ref m1, .ref m2, .ref m3, .int (iI ((pa : Nat) : Int)), .int (iI ((pb : Nat) : Int)), .ref m4, .int (iI ((cp : Nat) : Int)), .ref m5, .int (iI ((ty : Nat) : Int)), .ref m6, .int (iI ((nx : Nat) : Int)), .int (iI (fi)), .int (iI (se)), .int (iI ((le : Nat) : Int)), .ref m7, .int (iI (bp)), .ref m8])), (m1, .inl (cI, 516, .inl (rI (sF cn en ac cu co au er ki bs)))), (m2, .inl (cI, 1032, .inl (rI (sl)))), (m3, .inl (cZ, 2, .inl (rN (kp))))])) (QX D (S := Unit) (fun u => some (.int (iI ((cnt (visb (omF auz) erz acz) cnz : Nat) : Int)))) (fun u => True) (fun u => [(hm, .inr (5, [.ref m1, .ref m2, .ref m3, .int (iI ((pa : Nat) : Int)), .int (iI ((pb : Nat) : Int)), .ref m4, .int (iI ((cp : Nat) : Int)), .ref m5, .int (iI ((ty : Nat) : Int)), .ref m6, .int (iI ((nx : Nat) : Int)), .int (iI (fi)), .int (iI (se)), .int (iI ((le : Nat) : Int)), .ref m7, .int (iI (bp)), .ref m8])), (m1, .inl (cI, 516, .inl (rI (sF cnz enz acz cuz coz auz erz kiz bsz)))), (m2, .inl (cI, 1032, .inl (rI (sl)))), (m3, .inl (cZ, 2, .inl (rN (kp))))]) (va_A [(hm, .inr (5, [.ref m1, .ref m2, .ref m3, .int (iI ((pa : Nat) : Int)), .int (iI ((pb : Nat) : Int)), .ref m4, .int (iI ((cp : Nat) : Int)), .ref m5, .int (iI ((ty : Nat) : Int)), .ref m6, .int (iI ((nx : Nat) : Int)), .int (iI (fi)), .int (iI (se)), .int (iI ((le : Nat) : Int)), .ref m7, .int (iI (bp)), .ref m8])), (m1, .inl (cI, 516, .inl (rI (sF cn en ac cu co au er ki bs)))), (m2, .inl (cI, 1032, .inl (rI (sl)))), (m3, .inl (cZ, 2, .inl (rN (kp))))] sz)) 0 0 (va_A [(hm, .inr (5, [.ref m1, .ref m2, .ref m3, .int (iI ((pa : Nat) : Int)), .int (iI ((pb : Nat) : Int)), .ref m4, .int (iI ((cp : Nat) : Int)), .ref m5, .int (iI ((ty : Nat) : Int)), .ref m6, .int (iI ((nx : Nat) : Int)), .int (iI (fi)), .int (iI (se)), .int (iI ((le : Nat) : Int)), .ref m7, .int (iI (bp)), .ref m8])), (m1, .inl (cI, 516, .inl (rI (sF cn en ac cu co au er ki bs)))), (m2, .inl (cI, 1032, .inl (rI (sl)))), (m3, .inl (cZ, 2, .inl (rN (kp))))] sz) := by
  refine startW (cc := cX5_restore) (maxL := 4) (ret := (some .int)) (by decide) rfl (Nat.le_of_ble_eq_true rfl) ?_
  intro p e s m below meth c S hr hlocks hE hP A hD hA hS ls hl
  have hx := S.1
  have hb := S.2.1
  have hown := S.2.2.2.1
  have hts := S.2.2.2.2
  have hK := hE.1
  have hl : lv_has ls 4 [(0, .ref hm), (1, .int (iI 1))] := hl
  refine lv_aload_n hx hb dX5_restore_0 rfl (lv_at hl 0 rfl) ?_
  refine lv_iload_n hx hb dX5_restore_1 rfl (lv_at hl 1 rfl) ?_
  refine callVO (n := 1) (As := [.int (iI 1)]) (rest := []) (wc := [(hm, .inr (5, [.ref m1, .ref m2, .ref m3, .int (iI ((pa : Nat) : Int)), .int (iI ((pb : Nat) : Int)), .ref m4, .int (iI ((cp : Nat) : Int)), .ref m5, .int (iI ((ty : Nat) : Int)), .ref m6, .int (iI ((nx : Nat) : Int)), .int (iI (fi)), .int (iI (se)), .int (iI ((le : Nat) : Int)), .ref m7, .int (iI (bp)), .ref m8])), (m1, .inl (cI, 516, .inl (rI (sF cn en ac cu co au er ki bs)))), (m3, .inl (cZ, 2, .inl (rN (kp))))]) S (m_unkept_1 l D cI cB cZ cO hm m1 m2 m3 m4 m5 m6 m7 m8 pa pb cp ty nx fi se le bp cn en ac cu co au er ki bs kp (by first | assumption | (omega)) (by first | assumption | (omega))) gX5_restore_X5_unkept rfl ⟨rfl, rfl⟩ (by decide +kernel) ⟨Nat.le_of_ble_eq_true rfl, Nat.le_of_ble_eq_true rfl⟩ hE hP [0, 1, 3] rfl 5 0 rfl rfl rfl hl.1 rfl (Nat.le_of_ble_eq_true rfl) dX5_restore_2 ⟨Nat.le_of_ble_eq_true rfl, Nat.le_of_ble_eq_true rfl⟩ ?_
  refine lv_istore_n (lv' := [(2, .int (iI 0)), (0, .ref hm), (1, .int (iI 1))]) hx hb dX5_restore_5 rfl hl (by decide) rfl (fun ls hl => ?_)
  refine r_iconst hx hb dX5_restore_6 ?_
  refine lv_istore_n (lv' := [(3, .int (iI 0)), (2, .int (iI 0)), (0, .ref hm), (1, .int (iI 1))]) hx hb dX5_restore_7 rfl hl (by decide) rfl (fun ls hl => ?_)
  have loop_8 : ∀ (n_8 : Nat) (d : Nat), (516 - d) < n_8 → (d ≤ 516) → ∀ (H : Heap) (locs : List Loc), va_P D vwCl [(hm, .inr (5, [.ref m1, .ref m2, .ref m3, .int (iI ((pa : Nat) : Int)), .int (iI ((pb : Nat) : Int)), .ref m4, .int (iI ((cp : Nat) : Int)), .ref m5, .int (iI ((ty : Nat) : Int)), .ref m6, .int (iI ((nx : Nat) : Int)), .int (iI (fi)), .int (iI (se)), .int (iI ((le : Nat) : Int)), .ref m7, .int (iI (bp)), .ref m8])), (m1, .inl (cI, 516, .inl (rI (inI (sF cn en ac cu co au er ki bs) 0 (fun j => sl (516 * 1 + j)) d)))), (m2, .inl (cI, 1032, .inl (rI (sl)))), (m3, .inl (cZ, 2, .inl (rN (kp))))] H → va_D A [(hm, .inr (5, [.ref m1, .ref m2, .ref m3, .int (iI ((pa : Nat) : Int)), .int (iI ((pb : Nat) : Int)), .ref m4, .int (iI ((cp : Nat) : Int)), .ref m5, .int (iI ((ty : Nat) : Int)), .ref m6, .int (iI ((nx : Nat) : Int)), .int (iI (fi)), .int (iI (se)), .int (iI ((le : Nat) : Int)), .ref m7, .int (iI (bp)), .ref m8])), (m1, .inl (cI, 516, .inl (rI (inI (sF cn en ac cu co au er ki bs) 0 (fun j => sl (516 * 1 + j)) d)))), (m2, .inl (cI, 1032, .inl (rI (sl)))), (m3, .inl (cZ, 2, .inl (rN (kp))))] → va_S A s.heap H locs → ∀ (ls : Array Slot), lv_has ls 4 [(0, .ref hm), (1, .int (iI 1)), (2, .int (iI 0)), (3, .int (iI ((d : Nat) : Int)))] → W p l e ({ frames := 3, cells := 0, slots := 0, locals := 66 }) s m ([.ref hm, .int (iI 1)] : List Value).toArray below meth c H locs 0 0 (MQ below (QX D (S := Unit) (fun u => some (.int (iI ((cnt (visb (omF auz) erz acz) cnz : Nat) : Int)))) (fun u => True) (fun u => [(hm, .inr (5, [.ref m1, .ref m2, .ref m3, .int (iI ((pa : Nat) : Int)), .int (iI ((pb : Nat) : Int)), .ref m4, .int (iI ((cp : Nat) : Int)), .ref m5, .int (iI ((ty : Nat) : Int)), .ref m6, .int (iI ((nx : Nat) : Int)), .int (iI (fi)), .int (iI (se)), .int (iI ((le : Nat) : Int)), .ref m7, .int (iI (bp)), .ref m8])), (m1, .inl (cI, 516, .inl (rI (sF cnz enz acz cuz coz auz erz kiz bsz)))), (m2, .inl (cI, 1032, .inl (rI (sl)))), (m3, .inl (cZ, 2, .inl (rN (kp))))]) A) ([.ref hm, .int (iI 1)] : List Value).toArray s 0 0 A) (F0 m 8 ls []) := by
    intro n_8
    induction n_8 with
    | zero => intro d h_meas; exact absurd h_meas (Nat.not_lt_zero _)
    | succ n_8 ih_8 =>
      intro d h_m8 id H locs hP hD hS ls hl
      refine lv_iload_n hx hb dX5_restore_8 rfl (lv_at hl 3 rfl) ?_
      refine r_sipush hx hb dX5_restore_9 (by decide) ?_
      refine r_icmp_ge (tgt := 43) hx hb (by omega) (⟨by decide, by decide⟩) dX5_restore_12 (by decide) (fun c_1 => ?_) (fun c_1 => ?_)
      · skip
        obtain rfl : 516 = d := by omega
        have hP : va_P D vwCl [(hm, .inr (5, [.ref m1, .ref m2, .ref m3, .int (iI ((pa : Nat) : Int)), .int (iI ((pb : Nat) : Int)), .ref m4, .int (iI ((cp : Nat) : Int)), .ref m5, .int (iI ((ty : Nat) : Int)), .ref m6, .int (iI ((nx : Nat) : Int)), .int (iI (fi)), .int (iI (se)), .int (iI ((le : Nat) : Int)), .ref m7, .int (iI (bp)), .ref m8])), (m1, .inl (cI, 516, .inl (rI (sF cnz enz acz cuz coz auz erz kiz bsz)))), (m2, .inl (cI, 1032, .inl (rI (sl)))), (m3, .inl (cZ, 2, .inl (rN (kp))))] H := hP.congr 1 rfl (cv_in hsl) rfl
        have hD : va_D A [(hm, .inr (5, [.ref m1, .ref m2, .ref m3, .int (iI ((pa : Nat) : Int)), .int (iI ((pb : Nat) : Int)), .ref m4, .int (iI ((cp : Nat) : Int)), .ref m5, .int (iI ((ty : Nat) : Int)), .ref m6, .int (iI ((nx : Nat) : Int)), .int (iI (fi)), .int (iI (se)), .int (iI ((le : Nat) : Int)), .ref m7, .int (iI (bp)), .ref m8])), (m1, .inl (cI, 516, .inl (rI (sF cnz enz acz cuz coz auz erz kiz bsz)))), (m2, .inl (cI, 1032, .inl (rI (sl)))), (m3, .inl (cZ, 2, .inl (rN (kp))))] := hD.congr 1 rfl rfl
        refine lv_iload_n hx hb dX5_restore_43 rfl (lv_at hl 2 rfl) ?_
        refine r_if_ge (tgt := 51) hx hb (⟨by decide, by decide⟩) dX5_restore_44 (by decide) (fun c_2 => ?_) (fun c_2 => ?_)
        · skip
          refine lv_aload_n hx hb dX5_restore_51 rfl (lv_at hl 0 rfl) ?_
          refine callVO (n := 0) (As := []) (rest := []) (wc := [(hm, .inr (5, [.ref m1, .ref m2, .ref m3, .int (iI ((pa : Nat) : Int)), .int (iI ((pb : Nat) : Int)), .ref m4, .int (iI ((cp : Nat) : Int)), .ref m5, .int (iI ((ty : Nat) : Int)), .ref m6, .int (iI ((nx : Nat) : Int)), .int (iI (fi)), .int (iI (se)), .int (iI ((le : Nat) : Int)), .ref m7, .int (iI (bp)), .ref m8])), (m1, .inl (cI, 516, .inl (rI (sF cnz enz acz cuz coz auz erz kiz bsz))))]) S (m_length l D cI cB cZ cO hm m1 m2 m3 m4 m5 m6 m7 m8 pa pb cp ty nx fi se le bp cnz enz acz cuz coz auz erz kiz bsz (by first | assumption | (omega)) (by first | assumption | (omega)) (by first | assumption | (omega)) (by first | assumption | (omega))) gX5_restore_X5_length rfl ⟨rfl, rfl⟩ (by decide +kernel) ⟨Nat.le_of_ble_eq_true rfl, Nat.le_of_ble_eq_true rfl⟩ hE hP [0, 1] rfl 5 0 rfl rfl rfl hl.1 rfl (Nat.le_of_ble_eq_true rfl) dX5_restore_52 ⟨Nat.le_of_ble_eq_true rfl, Nat.le_of_ble_eq_true rfl⟩ ?_
          exact r_iretX hx hb hr hlocks hP hD hS () (rfl) (trivial) rfl dX5_restore_55
        · skip
          exact absurd c_2 (by decide)
      · skip
        refine lv_iload_n hx hb dX5_restore_15 rfl (lv_at hl 2 rfl) ?_
        refine r_if_ne (tgt := 43) hx hb (⟨by decide, by decide⟩) dX5_restore_16 (by decide) (fun c_3 => ?_) (fun c_3 => ?_)
        · skip
          exact absurd c_3 (by decide)
        · skip
          refine lv_aload_n hx hb dX5_restore_19 rfl (lv_at hl 0 rfl) ?_
          refine va_get (D := D) (ci := 5) (v := .ref m1) (C := RX5) (T := TX5) (N := 17) hx hb hts nX5_restore_X5 hown hK hP 0 rfl rfl 0 (by decide) (hts _ kX5_restore_7) (fun _ h9 => h9) rfl dX5_restore_20 ?_
          refine lv_iload_n hx hb dX5_restore_23 rfl (lv_at hl 3 rfl) ?_
          refine lv_aload_n hx hb dX5_restore_24 rfl (lv_at hl 0 rfl) ?_
          refine va_get (D := D) (ci := 5) (v := .ref m2) (C := RX5) (T := TX5) (N := 17) hx hb hts nX5_restore_X5 hown hK hP 0 rfl rfl 1 (by decide) (hts _ kX5_restore_13) (fun _ h9 => h9) rfl dX5_restore_25 ?_
          refine r_sipush hx hb dX5_restore_28 (by decide) ?_
          refine lv_iload_n hx hb dX5_restore_31 rfl (lv_at hl 1 rfl) ?_
          refine r_imul (v := ((516 * 1 : Nat) : Int)) hx hb (rfl) dX5_restore_32 ?_
          refine lv_iload_n hx hb dX5_restore_33 rfl (lv_at hl 3 rfl) ?_
          refine r_iadd (v := (((516 * 1) + d : Nat) : Int)) hx hb (rfl) dX5_restore_34 ?_
          refine r_iald hx hb hK hP 2 0 rfl rfl ((516 * 1) + d) (rfl) (by omega) (by decide) dX5_restore_35 ?_
          refine r_iast (v := (sl ((516 * 1) + d))) hx hb hK hP hD hS 1 0 rfl rfl (d) (rfl) (by omega) (by decide) dX5_restore_36 (fun H locs hP hD hS => ?_)
          have hP : va_P D vwCl [(hm, .inr (5, [.ref m1, .ref m2, .ref m3, .int (iI ((pa : Nat) : Int)), .int (iI ((pb : Nat) : Int)), .ref m4, .int (iI ((cp : Nat) : Int)), .ref m5, .int (iI ((ty : Nat) : Int)), .ref m6, .int (iI ((nx : Nat) : Int)), .int (iI (fi)), .int (iI (se)), .int (iI ((le : Nat) : Int)), .ref m7, .int (iI (bp)), .ref m8])), (m1, .inl (cI, 516, .inl (rI (up (inI (sF cn en ac cu co au er ki bs) 0 (fun j => sl (516 * 1 + j)) d) d (sl ((516 * 1) + d)))))), (m2, .inl (cI, 1032, .inl (rI (sl)))), (m3, .inl (cZ, 2, .inl (rN (kp))))] H := hP
          have hD : va_D A [(hm, .inr (5, [.ref m1, .ref m2, .ref m3, .int (iI ((pa : Nat) : Int)), .int (iI ((pb : Nat) : Int)), .ref m4, .int (iI ((cp : Nat) : Int)), .ref m5, .int (iI ((ty : Nat) : Int)), .ref m6, .int (iI ((nx : Nat) : Int)), .int (iI (fi)), .int (iI (se)), .int (iI ((le : Nat) : Int)), .ref m7, .int (iI (bp)), .ref m8])), (m1, .inl (cI, 516, .inl (rI (up (inI (sF cn en ac cu co au er ki bs) 0 (fun j => sl (516 * 1 + j)) d) d (sl ((516 * 1) + d)))))), (m2, .inl (cI, 1032, .inl (rI (sl)))), (m3, .inl (cZ, 2, .inl (rN (kp))))] := hD
          refine lv_iinc (v := iI ((d + 1 : Nat) : Int)) (lv' := [(3, .int (iI ((d + 1 : Nat) : Int))), (0, .ref hm), (1, .int (iI 1)), (2, .int (iI 0))]) hx hb dX5_restore_37 hl (k := 3) rfl ((iI_add _ _).trans (ii (rfl))) (by decide) rfl (fun ls hl => ?_)
          refine lv_goto (tgt := 8) hx hb dX5_restore_40 (by decide) ?_
          have hww : ([(hm, .inr (5, [.ref m1, .ref m2, .ref m3, .int (iI ((pa : Nat) : Int)), .int (iI ((pb : Nat) : Int)), .ref m4, .int (iI ((cp : Nat) : Int)), .ref m5, .int (iI ((ty : Nat) : Int)), .ref m6, .int (iI ((nx : Nat) : Int)), .int (iI (fi)), .int (iI (se)), .int (iI ((le : Nat) : Int)), .ref m7, .int (iI (bp)), .ref m8])), (m1, .inl (cI, 516, .inl (rI (up (inI (sF cn en ac cu co au er ki bs) 0 (fun j => sl (516 * 1 + j)) d) d (sl ((516 * 1) + d)))))), (m2, .inl (cI, 1032, .inl (rI (sl)))), (m3, .inl (cZ, 2, .inl (rN (kp))))] : va_W) = [(hm, .inr (5, [.ref m1, .ref m2, .ref m3, .int (iI ((pa : Nat) : Int)), .int (iI ((pb : Nat) : Int)), .ref m4, .int (iI ((cp : Nat) : Int)), .ref m5, .int (iI ((ty : Nat) : Int)), .ref m6, .int (iI ((nx : Nat) : Int)), .int (iI (fi)), .int (iI (se)), .int (iI ((le : Nat) : Int)), .ref m7, .int (iI (bp)), .ref m8])), (m1, .inl (cI, 516, .inl (rI (inI (sF cn en ac cu co au er ki bs) 0 (fun j => sl (516 * 1 + j)) (d + 1))))), (m2, .inl (cI, 1032, .inl (rI (sl)))), (m3, .inl (cZ, 2, .inl (rN (kp))))] := by rw [inI_s0 rfl]
          rw [hww] at hP hD
          exact ih_8 (d + 1) (by omega) (by first | assumption | (omega)) H locs hP hD hS ls (lv_sub hl [1, 2, 3, 0] rfl)
  have hww : ([(hm, .inr (5, [.ref m1, .ref m2, .ref m3, .int (iI ((pa : Nat) : Int)), .int (iI ((pb : Nat) : Int)), .ref m4, .int (iI ((cp : Nat) : Int)), .ref m5, .int (iI ((ty : Nat) : Int)), .ref m6, .int (iI ((nx : Nat) : Int)), .int (iI (fi)), .int (iI (se)), .int (iI ((le : Nat) : Int)), .ref m7, .int (iI (bp)), .ref m8])), (m1, .inl (cI, 516, .inl (rI (sF cn en ac cu co au er ki bs)))), (m2, .inl (cI, 1032, .inl (rI (sl)))), (m3, .inl (cZ, 2, .inl (rN (kp))))] : va_W) = [(hm, .inr (5, [.ref m1, .ref m2, .ref m3, .int (iI ((pa : Nat) : Int)), .int (iI ((pb : Nat) : Int)), .ref m4, .int (iI ((cp : Nat) : Int)), .ref m5, .int (iI ((ty : Nat) : Int)), .ref m6, .int (iI ((nx : Nat) : Int)), .int (iI (fi)), .int (iI (se)), .int (iI ((le : Nat) : Int)), .ref m7, .int (iI (bp)), .ref m8])), (m1, .inl (cI, 516, .inl (rI (inI (sF cn en ac cu co au er ki bs) 0 (fun j => sl (516 * 1 + j)) 0)))), (m2, .inl (cI, 1032, .inl (rI (sl)))), (m3, .inl (cZ, 2, .inl (rN (kp))))] := by rw [inI_0]
  rw [hww] at hP hD
  exact loop_8 ((516 - 0) + 1) 0 (by omega) (by first | assumption | (omega)) s.heap [] hP hD hS ls (lv_sub hl [2, 3, 1, 0] rfl)

set_option maxHeartbeats 4000000 in
set_option maxRecDepth 100000 in
theorem m_exchanges_1 (l : Launch) (D : va_G) (cI cB cZ cO : ClassId) (sz : Nat) (hm : Nat) (m1 : Nat) (m2 : Nat) (m3 : Nat) (m4 : Nat) (m5 : Nat) (m6 : Nat) (m7 : Nat) (m8 : Nat) (pa : Nat) (pb : Nat) (cp : Nat) (ty : Nat) (nx : Nat) (fi : Int) (se : Int) (le : Nat) (bp : Int) (F : Nat → Int) (sl : Nat → Int)  : Met l yX5_exchanges wsX5_exchanges ({ frames := 0, cells := 0, slots := 0, locals := 0 }) (va_Pc [.ref hm, .int (iI 1)] (RW D cI cB cZ cO sz [(hm, .inr (5, [.ref m1, .ref m2, .ref m3, .int (iI ((pa : Nat) : Int)), .int (iI ((pb : Nat) : Int)), .ref m4, .int (iI ((cp : Nat) : Int)), .ref m5, .int (iI ((ty : Nat) : Int)), .ref m6, .int (iI ((nx : Nat) : Int)), .int (iI (fi)), .int (iI (se)), .int (iI ((le : Nat) : Int)), .ref m7, .int (iI (bp)), .ref m8])), (m1, .inl (cI, 516, .inl (rI (F)))), (m2, .inl (cI, 1032, .inl (rI (sl))))])) (QX D (S := Unit) (fun u => none) (fun u => True) (fun u => [(hm, .inr (5, [.ref m1, .ref m2, .ref m3, .int (iI ((pa : Nat) : Int)), .int (iI ((pb : Nat) : Int)), .ref m4, .int (iI ((cp : Nat) : Int)), .ref m5, .int (iI ((ty : Nat) : Int)), .ref m6, .int (iI ((nx : Nat) : Int)), .int (iI (fi)), .int (iI (se)), .int (iI ((le : Nat) : Int)), .ref m7, .int (iI (bp)), .ref m8])), (m1, .inl (cI, 516, .inl (rI (inI F 0 (fun j => sl (516 * 1 + j)) 516)))), (m2, .inl (cI, 1032, .inl (rI (inI sl (516 * 1) F 516))))]) (va_A [(hm, .inr (5, [.ref m1, .ref m2, .ref m3, .int (iI ((pa : Nat) : Int)), .int (iI ((pb : Nat) : Int)), .ref m4, .int (iI ((cp : Nat) : Int)), .ref m5, .int (iI ((ty : Nat) : Int)), .ref m6, .int (iI ((nx : Nat) : Int)), .int (iI (fi)), .int (iI (se)), .int (iI ((le : Nat) : Int)), .ref m7, .int (iI (bp)), .ref m8])), (m1, .inl (cI, 516, .inl (rI (F)))), (m2, .inl (cI, 1032, .inl (rI (sl))))] sz)) 0 0 (va_A [(hm, .inr (5, [.ref m1, .ref m2, .ref m3, .int (iI ((pa : Nat) : Int)), .int (iI ((pb : Nat) : Int)), .ref m4, .int (iI ((cp : Nat) : Int)), .ref m5, .int (iI ((ty : Nat) : Int)), .ref m6, .int (iI ((nx : Nat) : Int)), .int (iI (fi)), .int (iI (se)), .int (iI ((le : Nat) : Int)), .ref m7, .int (iI (bp)), .ref m8])), (m1, .inl (cI, 516, .inl (rI (F)))), (m2, .inl (cI, 1032, .inl (rI (sl))))] sz) := by
  refine startW (cc := cX5_exchanges) (maxL := 4) (ret := none) (by decide) rfl (Nat.le_of_ble_eq_true rfl) ?_
  intro p e s m below meth c S hr hlocks hE hP A hD hA hS ls hl
  have hx := S.1
  have hb := S.2.1
  have hown := S.2.2.2.1
  have hts := S.2.2.2.2
  have hK := hE.1
  have hl : lv_has ls 4 [(0, .ref hm), (1, .int (iI 1))] := hl
  refine r_iconst hx hb dX5_exchanges_0 ?_
  refine lv_istore_n (lv' := [(2, .int (iI 0)), (0, .ref hm), (1, .int (iI 1))]) hx hb dX5_exchanges_1 rfl hl (by decide) rfl (fun ls hl => ?_)
  have loop_2 : ∀ (n_2 : Nat) (d : Nat), (516 - d) < n_2 → (d ≤ 516) → ∀ (H : Heap) (locs : List Loc), va_P D vwCl [(hm, .inr (5, [.ref m1, .ref m2, .ref m3, .int (iI ((pa : Nat) : Int)), .int (iI ((pb : Nat) : Int)), .ref m4, .int (iI ((cp : Nat) : Int)), .ref m5, .int (iI ((ty : Nat) : Int)), .ref m6, .int (iI ((nx : Nat) : Int)), .int (iI (fi)), .int (iI (se)), .int (iI ((le : Nat) : Int)), .ref m7, .int (iI (bp)), .ref m8])), (m1, .inl (cI, 516, .inl (rI (inI F 0 (fun j => sl (516 * 1 + j)) d)))), (m2, .inl (cI, 1032, .inl (rI (inI sl (516 * 1) F d))))] H → va_D A [(hm, .inr (5, [.ref m1, .ref m2, .ref m3, .int (iI ((pa : Nat) : Int)), .int (iI ((pb : Nat) : Int)), .ref m4, .int (iI ((cp : Nat) : Int)), .ref m5, .int (iI ((ty : Nat) : Int)), .ref m6, .int (iI ((nx : Nat) : Int)), .int (iI (fi)), .int (iI (se)), .int (iI ((le : Nat) : Int)), .ref m7, .int (iI (bp)), .ref m8])), (m1, .inl (cI, 516, .inl (rI (inI F 0 (fun j => sl (516 * 1 + j)) d)))), (m2, .inl (cI, 1032, .inl (rI (inI sl (516 * 1) F d))))] → va_S A s.heap H locs → ∀ (ls : Array Slot), lv_has ls 4 [(0, .ref hm), (1, .int (iI 1)), (2, .int (iI ((d : Nat) : Int)))] → W p l e ({ frames := 0, cells := 0, slots := 0, locals := 0 }) s m ([.ref hm, .int (iI 1)] : List Value).toArray below meth c H locs 0 0 (MQ below (QX D (S := Unit) (fun u => none) (fun u => True) (fun u => [(hm, .inr (5, [.ref m1, .ref m2, .ref m3, .int (iI ((pa : Nat) : Int)), .int (iI ((pb : Nat) : Int)), .ref m4, .int (iI ((cp : Nat) : Int)), .ref m5, .int (iI ((ty : Nat) : Int)), .ref m6, .int (iI ((nx : Nat) : Int)), .int (iI (fi)), .int (iI (se)), .int (iI ((le : Nat) : Int)), .ref m7, .int (iI (bp)), .ref m8])), (m1, .inl (cI, 516, .inl (rI (inI F 0 (fun j => sl (516 * 1 + j)) 516)))), (m2, .inl (cI, 1032, .inl (rI (inI sl (516 * 1) F 516))))]) A) ([.ref hm, .int (iI 1)] : List Value).toArray s 0 0 A) (F0 m 2 ls []) := by
    intro n_2
    induction n_2 with
    | zero => intro d h_meas; exact absurd h_meas (Nat.not_lt_zero _)
    | succ n_2 ih_2 =>
      intro d h_m2 id H locs hP hD hS ls hl
      refine lv_iload_n hx hb dX5_exchanges_2 rfl (lv_at hl 2 rfl) ?_
      refine r_sipush hx hb dX5_exchanges_3 (by decide) ?_
      refine r_icmp_ge (tgt := 53) hx hb (by omega) (⟨by decide, by decide⟩) dX5_exchanges_6 (by decide) (fun c_1 => ?_) (fun c_1 => ?_)
      · skip
        obtain rfl : 516 = d := by omega
        exact r_vretX hx hb hr hlocks hP hD hS () rfl (trivial) rfl dX5_exchanges_53
      · skip
        refine lv_aload_n hx hb dX5_exchanges_9 rfl (lv_at hl 0 rfl) ?_
        refine va_get (D := D) (ci := 5) (v := .ref m1) (C := RX5) (T := TX5) (N := 17) hx hb hts nX5_exchanges_X5 hown hK hP 0 rfl rfl 0 (by decide) (hts _ kX5_exchanges_7) (fun _ h9 => h9) rfl dX5_exchanges_10 ?_
        refine lv_iload_n hx hb dX5_exchanges_13 rfl (lv_at hl 2 rfl) ?_
        refine r_iald hx hb hK hP 1 0 rfl rfl (d) (rfl) (by omega) (by decide) dX5_exchanges_14 ?_
        refine lv_istore_n (lv' := [(3, .int (iI ((inI F 0 (fun j => sl (516 * 1 + j)) d) d))), (0, .ref hm), (1, .int (iI 1)), (2, .int (iI ((d : Nat) : Int)))]) hx hb dX5_exchanges_15 rfl hl (by decide) rfl (fun ls hl => ?_)
        refine lv_aload_n hx hb dX5_exchanges_16 rfl (lv_at hl 1 rfl) ?_
        refine va_get (D := D) (ci := 5) (v := .ref m1) (C := RX5) (T := TX5) (N := 17) hx hb hts nX5_exchanges_X5 hown hK hP 0 rfl rfl 0 (by decide) (hts _ kX5_exchanges_7) (fun _ h9 => h9) rfl dX5_exchanges_17 ?_
        refine lv_iload_n hx hb dX5_exchanges_20 rfl (lv_at hl 3 rfl) ?_
        refine lv_aload_n hx hb dX5_exchanges_21 rfl (lv_at hl 1 rfl) ?_
        refine va_get (D := D) (ci := 5) (v := .ref m2) (C := RX5) (T := TX5) (N := 17) hx hb hts nX5_exchanges_X5 hown hK hP 0 rfl rfl 1 (by decide) (hts _ kX5_exchanges_13) (fun _ h9 => h9) rfl dX5_exchanges_22 ?_
        refine r_sipush hx hb dX5_exchanges_25 (by decide) ?_
        refine lv_iload_n hx hb dX5_exchanges_28 rfl (lv_at hl 2 rfl) ?_
        refine r_imul (v := ((516 * 1 : Nat) : Int)) hx hb (rfl) dX5_exchanges_29 ?_
        refine lv_iload_n hx hb dX5_exchanges_30 rfl (lv_at hl 3 rfl) ?_
        refine r_iadd (v := (((516 * 1) + d : Nat) : Int)) hx hb (rfl) dX5_exchanges_31 ?_
        refine r_iald hx hb hK hP 2 0 rfl rfl ((516 * 1) + d) (rfl) (by omega) (by decide) dX5_exchanges_32 ?_
        refine r_iast (v := ((inI sl (516 * 1) F d) ((516 * 1) + d))) hx hb hK hP hD hS 1 0 rfl rfl (d) (rfl) (by omega) (by decide) dX5_exchanges_33 (fun H locs hP hD hS => ?_)
        have hP : va_P D vwCl [(hm, .inr (5, [.ref m1, .ref m2, .ref m3, .int (iI ((pa : Nat) : Int)), .int (iI ((pb : Nat) : Int)), .ref m4, .int (iI ((cp : Nat) : Int)), .ref m5, .int (iI ((ty : Nat) : Int)), .ref m6, .int (iI ((nx : Nat) : Int)), .int (iI (fi)), .int (iI (se)), .int (iI ((le : Nat) : Int)), .ref m7, .int (iI (bp)), .ref m8])), (m1, .inl (cI, 516, .inl (rI (up (inI F 0 (fun j => sl (516 * 1 + j)) d) d ((inI sl (516 * 1) F d) ((516 * 1) + d)))))), (m2, .inl (cI, 1032, .inl (rI (inI sl (516 * 1) F d))))] H := hP
        have hD : va_D A [(hm, .inr (5, [.ref m1, .ref m2, .ref m3, .int (iI ((pa : Nat) : Int)), .int (iI ((pb : Nat) : Int)), .ref m4, .int (iI ((cp : Nat) : Int)), .ref m5, .int (iI ((ty : Nat) : Int)), .ref m6, .int (iI ((nx : Nat) : Int)), .int (iI (fi)), .int (iI (se)), .int (iI ((le : Nat) : Int)), .ref m7, .int (iI (bp)), .ref m8])), (m1, .inl (cI, 516, .inl (rI (up (inI F 0 (fun j => sl (516 * 1 + j)) d) d ((inI sl (516 * 1) F d) ((516 * 1) + d)))))), (m2, .inl (cI, 1032, .inl (rI (inI sl (516 * 1) F d))))] := hD
        refine lv_aload_n hx hb dX5_exchanges_34 rfl (lv_at hl 1 rfl) ?_
        refine va_get (D := D) (ci := 5) (v := .ref m2) (C := RX5) (T := TX5) (N := 17) hx hb hts nX5_exchanges_X5 hown hK hP 0 rfl rfl 1 (by decide) (hts _ kX5_exchanges_13) (fun _ h9 => h9) rfl dX5_exchanges_35 ?_
        refine r_sipush hx hb dX5_exchanges_38 (by decide) ?_
        refine lv_iload_n hx hb dX5_exchanges_41 rfl (lv_at hl 2 rfl) ?_
        refine r_imul (v := ((516 * 1 : Nat) : Int)) hx hb (rfl) dX5_exchanges_42 ?_
        refine lv_iload_n hx hb dX5_exchanges_43 rfl (lv_at hl 3 rfl) ?_
        refine r_iadd (v := (((516 * 1) + d : Nat) : Int)) hx hb (rfl) dX5_exchanges_44 ?_
        refine lv_iload_n hx hb dX5_exchanges_45 rfl (lv_at hl 0 rfl) ?_
        refine r_iast (v := ((inI F 0 (fun j => sl (516 * 1 + j)) d) d)) hx hb hK hP hD hS 2 0 rfl rfl ((516 * 1) + d) (rfl) (by omega) (by decide) dX5_exchanges_46 (fun H locs hP hD hS => ?_)
        have hP : va_P D vwCl [(hm, .inr (5, [.ref m1, .ref m2, .ref m3, .int (iI ((pa : Nat) : Int)), .int (iI ((pb : Nat) : Int)), .ref m4, .int (iI ((cp : Nat) : Int)), .ref m5, .int (iI ((ty : Nat) : Int)), .ref m6, .int (iI ((nx : Nat) : Int)), .int (iI (fi)), .int (iI (se)), .int (iI ((le : Nat) : Int)), .ref m7, .int (iI (bp)), .ref m8])), (m1, .inl (cI, 516, .inl (rI (up (inI F 0 (fun j => sl (516 * 1 + j)) d) d ((inI sl (516 * 1) F d) ((516 * 1) + d)))))), (m2, .inl (cI, 1032, .inl (rI (up (inI sl (516 * 1) F d) ((516 * 1) + d) ((inI F 0 (fun j => sl (516 * 1 + j)) d) d)))))] H := hP
        have hD : va_D A [(hm, .inr (5, [.ref m1, .ref m2, .ref m3, .int (iI ((pa : Nat) : Int)), .int (iI ((pb : Nat) : Int)), .ref m4, .int (iI ((cp : Nat) : Int)), .ref m5, .int (iI ((ty : Nat) : Int)), .ref m6, .int (iI ((nx : Nat) : Int)), .int (iI (fi)), .int (iI (se)), .int (iI ((le : Nat) : Int)), .ref m7, .int (iI (bp)), .ref m8])), (m1, .inl (cI, 516, .inl (rI (up (inI F 0 (fun j => sl (516 * 1 + j)) d) d ((inI sl (516 * 1) F d) ((516 * 1) + d)))))), (m2, .inl (cI, 1032, .inl (rI (up (inI sl (516 * 1) F d) ((516 * 1) + d) ((inI F 0 (fun j => sl (516 * 1 + j)) d) d)))))] := hD
        refine lv_iinc (v := iI ((d + 1 : Nat) : Int)) (lv' := [(2, .int (iI ((d + 1 : Nat) : Int))), (3, .int (iI ((inI F 0 (fun j => sl (516 * 1 + j)) d) d))), (0, .ref hm), (1, .int (iI 1))]) hx hb dX5_exchanges_47 hl (k := 3) rfl ((iI_add _ _).trans (ii (rfl))) (by decide) rfl (fun ls hl => ?_)
        refine lv_goto (tgt := 2) hx hb dX5_exchanges_50 (by decide) ?_
        have hww : ([(hm, .inr (5, [.ref m1, .ref m2, .ref m3, .int (iI ((pa : Nat) : Int)), .int (iI ((pb : Nat) : Int)), .ref m4, .int (iI ((cp : Nat) : Int)), .ref m5, .int (iI ((ty : Nat) : Int)), .ref m6, .int (iI ((nx : Nat) : Int)), .int (iI (fi)), .int (iI (se)), .int (iI ((le : Nat) : Int)), .ref m7, .int (iI (bp)), .ref m8])), (m1, .inl (cI, 516, .inl (rI (up (inI F 0 (fun j => sl (516 * 1 + j)) d) d ((inI sl (516 * 1) F d) ((516 * 1) + d)))))), (m2, .inl (cI, 1032, .inl (rI (up (inI sl (516 * 1) F d) ((516 * 1) + d) ((inI F 0 (fun j => sl (516 * 1 + j)) d) d)))))] : va_W) = [(hm, .inr (5, [.ref m1, .ref m2, .ref m3, .int (iI ((pa : Nat) : Int)), .int (iI ((pb : Nat) : Int)), .ref m4, .int (iI ((cp : Nat) : Int)), .ref m5, .int (iI ((ty : Nat) : Int)), .ref m6, .int (iI ((nx : Nat) : Int)), .int (iI (fi)), .int (iI (se)), .int (iI ((le : Nat) : Int)), .ref m7, .int (iI (bp)), .ref m8])), (m1, .inl (cI, 516, .inl (rI (inI F 0 (fun j => sl (516 * 1 + j)) (d + 1))))), (m2, .inl (cI, 1032, .inl (rI (inI sl (516 * 1) F (d + 1)))))] := by rw [show inI F 0 (fun j => sl (516 * 1 + j)) d d = F d from if_neg (by omega), show inI sl (516 * 1) F d (516 * 1 + d) = sl (516 * 1 + d) from if_neg (by omega), inI_s0 rfl, inI_s rfl]
        rw [hww] at hP hD
        exact ih_2 (d + 1) (by omega) (by first | assumption | (omega)) H locs hP hD hS ls (lv_sub hl [2, 3, 0] rfl)
  have hww : ([(hm, .inr (5, [.ref m1, .ref m2, .ref m3, .int (iI ((pa : Nat) : Int)), .int (iI ((pb : Nat) : Int)), .ref m4, .int (iI ((cp : Nat) : Int)), .ref m5, .int (iI ((ty : Nat) : Int)), .ref m6, .int (iI ((nx : Nat) : Int)), .int (iI (fi)), .int (iI (se)), .int (iI ((le : Nat) : Int)), .ref m7, .int (iI (bp)), .ref m8])), (m1, .inl (cI, 516, .inl (rI (F)))), (m2, .inl (cI, 1032, .inl (rI (sl))))] : va_W) = [(hm, .inr (5, [.ref m1, .ref m2, .ref m3, .int (iI ((pa : Nat) : Int)), .int (iI ((pb : Nat) : Int)), .ref m4, .int (iI ((cp : Nat) : Int)), .ref m5, .int (iI ((ty : Nat) : Int)), .ref m6, .int (iI ((nx : Nat) : Int)), .int (iI (fi)), .int (iI (se)), .int (iI ((le : Nat) : Int)), .ref m7, .int (iI (bp)), .ref m8])), (m1, .inl (cI, 516, .inl (rI (inI F 0 (fun j => sl (516 * 1 + j)) 0)))), (m2, .inl (cI, 1032, .inl (rI (inI sl (516 * 1) F 0))))] := by rw [inI_0, inI_0]
  rw [hww] at hP hD
  exact loop_2 ((516 - 0) + 1) 0 (by omega) (by first | assumption | (omega)) s.heap [] hP hD hS ls (lv_sub hl [1, 2, 0] rfl)

set_option maxHeartbeats 4000000 in
set_option maxRecDepth 100000 in
theorem m_diff_no_1 (l : Launch) (D : va_G) (cI cB cZ cO : ClassId) (hm : Nat) (m1 : Nat) (m2 : Nat) (m3 : Nat) (m4 : Nat) (m5 : Nat) (m6 : Nat) (m7 : Nat) (m8 : Nat) (pa : Nat) (pb : Nat) (cp : Nat) (ty : Nat) (nx : Nat) (fi : Int) (se : Int) (le : Nat) (bp : Int) (cn : Nat) (en : Nat) (ac : Nat) (cu : Nat) (co : Nat → Nat) (au : Nat → Int) (er : Nat → Nat) (ki : Nat → Nat) (bs : Nat → Int) (kp : Nat → Nat) (hkp : ∀ k, kp k ≤ 1) (hk : kp 1 = 0) : Met l yX5_difference wsX5_difference ({ frames := 2, cells := 0, slots := 0, locals := 43 }) (va_Pc [.ref hm, .int (iI 1)] (RO D cI cB cZ cO [(hm, .inr (5, [.ref m1, .ref m2, .ref m3, .int (iI ((pa : Nat) : Int)), .int (iI ((pb : Nat) : Int)), .ref m4, .int (iI ((cp : Nat) : Int)), .ref m5, .int (iI ((ty : Nat) : Int)), .ref m6, .int (iI ((nx : Nat) : Int)), .int (iI (fi)), .int (iI (se)), .int (iI ((le : Nat) : Int)), .ref m7, .int (iI (bp)), .ref m8])), (m1, .inl (cI, 516, .inl (rI (sF cn en ac cu co au er ki bs)))), (m3, .inl (cZ, 2, .inl (rN (kp))))])) (QO (-2)) 0 0 (fun _ => False) := by
  refine startO (cc := cX5_difference) (maxL := 7) (ret := (some .int)) (by decide) rfl (Nat.le_of_ble_eq_true rfl) ?_
  intro p e s m below meth c S hr hlocks hE hP ls hl
  have hx := S.1
  have hb := S.2.1
  have hown := S.2.2.2.1
  have hts := S.2.2.2.2
  have hK := hE.1
  have hl : lv_has ls 7 [(0, .ref hm), (1, .int (iI 1))] := hl
  refine lv_aload_n hx hb dX5_difference_0 rfl (lv_at hl 0 rfl) ?_
  refine lv_iload_n hx hb dX5_difference_1 rfl (lv_at hl 1 rfl) ?_
  refine callVO (n := 1) (As := [.int (iI 1)]) (rest := []) (wc := [(hm, .inr (5, [.ref m1, .ref m2, .ref m3, .int (iI ((pa : Nat) : Int)), .int (iI ((pb : Nat) : Int)), .ref m4, .int (iI ((cp : Nat) : Int)), .ref m5, .int (iI ((ty : Nat) : Int)), .ref m6, .int (iI ((nx : Nat) : Int)), .int (iI (fi)), .int (iI (se)), .int (iI ((le : Nat) : Int)), .ref m7, .int (iI (bp)), .ref m8])), (m1, .inl (cI, 516, .inl (rI (sF cn en ac cu co au er ki bs)))), (m3, .inl (cZ, 2, .inl (rN (kp))))]) S (m_unkept_no_1 l D cI cB cZ cO hm m1 m2 m3 m4 m5 m6 m7 m8 pa pb cp ty nx fi se le bp cn en ac cu co au er ki bs kp (by first | assumption | (omega)) (by first | assumption | (omega))) gX5_difference_X5_unkept rfl ⟨rfl, rfl⟩ (by decide +kernel) ⟨Nat.le_of_ble_eq_true rfl, Nat.le_of_ble_eq_true rfl⟩ hE hP [0, 1, 2] rfl 5 0 rfl rfl rfl hl.1 rfl (Nat.le_of_ble_eq_true rfl) dX5_difference_2 ⟨Nat.le_of_ble_eq_true rfl, Nat.le_of_ble_eq_true rfl⟩ ?_
  refine lv_istore_n (lv' := [(2, .int (iI (-2))), (0, .ref hm), (1, .int (iI 1))]) hx hb dX5_difference_5 rfl hl (by decide) rfl (fun ls hl => ?_)
  refine lv_iload_n hx hb dX5_difference_6 rfl (lv_at hl 0 rfl) ?_
  refine r_if_ge (tgt := 12) hx hb (⟨by decide, by decide⟩) dX5_difference_7 (by decide) (fun c_1 => ?_) (fun c_1 => ?_)
  · skip
    exact absurd c_1 (by decide)
  · skip
    refine lv_iload_n hx hb dX5_difference_10 rfl (lv_at hl 0 rfl) ?_
    exact r_iretO hx hb hr hlocks (rfl) dX5_difference_11

set_option maxHeartbeats 4000000 in
set_option maxRecDepth 100000 in
theorem m_restore_bad (l : Launch) (D : va_G) (cI cB cZ cO : ClassId) (hm : Nat) (m1 : Nat) (m2 : Nat) (m3 : Nat) (m4 : Nat) (m5 : Nat) (m6 : Nat) (m7 : Nat) (m8 : Nat) (pa : Nat) (pb : Nat) (cp : Nat) (ty : Nat) (nx : Nat) (fi : Int) (se : Int) (le : Nat) (bp : Int) (cn : Nat) (en : Nat) (ac : Nat) (cu : Nat) (co : Nat → Nat) (au : Nat → Int) (er : Nat → Nat) (ki : Nat → Nat) (bs : Nat → Int) (x : Int) (rx : rg x) (hbad : ¬ (0 ≤ x ∧ x ≤ 1)) : Met l yX5_restore wsX5_restore ({ frames := 2, cells := 0, slots := 0, locals := 43 }) (va_Pc [.ref hm, .int (iI (x))] (RO D cI cB cZ cO [(hm, .inr (5, [.ref m1, .ref m2, .ref m3, .int (iI ((pa : Nat) : Int)), .int (iI ((pb : Nat) : Int)), .ref m4, .int (iI ((cp : Nat) : Int)), .ref m5, .int (iI ((ty : Nat) : Int)), .ref m6, .int (iI ((nx : Nat) : Int)), .int (iI (fi)), .int (iI (se)), .int (iI ((le : Nat) : Int)), .ref m7, .int (iI (bp)), .ref m8])), (m1, .inl (cI, 516, .inl (rI (sF cn en ac cu co au er ki bs))))])) (QO (-1)) 0 0 (fun _ => False) := by
  refine startO (cc := cX5_restore) (maxL := 4) (ret := (some .int)) (by decide) rfl (Nat.le_of_ble_eq_true rfl) ?_
  intro p e s m below meth c S hr hlocks hE hP ls hl
  have hx := S.1
  have hb := S.2.1
  have hown := S.2.2.2.1
  have hts := S.2.2.2.2
  have hK := hE.1
  have hl : lv_has ls 4 [(0, .ref hm), (1, .int (iI (x)))] := hl
  refine lv_aload_n hx hb dX5_restore_0 rfl (lv_at hl 0 rfl) ?_
  refine lv_iload_n hx hb dX5_restore_1 rfl (lv_at hl 1 rfl) ?_
  refine callVO (n := 1) (As := [.int (iI (x))]) (rest := []) (wc := [(hm, .inr (5, [.ref m1, .ref m2, .ref m3, .int (iI ((pa : Nat) : Int)), .int (iI ((pb : Nat) : Int)), .ref m4, .int (iI ((cp : Nat) : Int)), .ref m5, .int (iI ((ty : Nat) : Int)), .ref m6, .int (iI ((nx : Nat) : Int)), .int (iI (fi)), .int (iI (se)), .int (iI ((le : Nat) : Int)), .ref m7, .int (iI (bp)), .ref m8])), (m1, .inl (cI, 516, .inl (rI (sF cn en ac cu co au er ki bs))))]) S (m_unkept_bad l D cI cB cZ cO hm m1 m2 m3 m4 m5 m6 m7 m8 pa pb cp ty nx fi se le bp cn en ac cu co au er ki bs x (by first | assumption | (omega)) (by first | assumption | (omega))) gX5_restore_X5_unkept rfl ⟨rfl, rfl⟩ (by decide +kernel) ⟨Nat.le_of_ble_eq_true rfl, Nat.le_of_ble_eq_true rfl⟩ hE hP [0, 1] rfl 5 0 rfl rfl rfl hl.1 rfl (Nat.le_of_ble_eq_true rfl) dX5_restore_2 ⟨Nat.le_of_ble_eq_true rfl, Nat.le_of_ble_eq_true rfl⟩ ?_
  refine lv_istore_n (lv' := [(2, .int (iI (-1))), (0, .ref hm), (1, .int (iI (x)))]) hx hb dX5_restore_5 rfl hl (by decide) rfl (fun ls hl => ?_)
  refine r_iconst hx hb dX5_restore_6 ?_
  refine lv_istore_n (lv' := [(3, .int (iI 0)), (2, .int (iI (-1))), (0, .ref hm), (1, .int (iI (x)))]) hx hb dX5_restore_7 rfl hl (by decide) rfl (fun ls hl => ?_)
  refine lv_iload_n hx hb dX5_restore_8 rfl (lv_at hl 0 rfl) ?_
  refine r_sipush hx hb dX5_restore_9 (by decide) ?_
  refine r_icmp_ge (tgt := 43) hx hb (⟨by decide, by decide⟩) (⟨by decide, by decide⟩) dX5_restore_12 (by decide) (fun c_1 => ?_) (fun c_1 => ?_)
  · skip
    exact absurd c_1 (by decide)
  · skip
    refine lv_iload_n hx hb dX5_restore_15 rfl (lv_at hl 1 rfl) ?_
    refine r_if_ne (tgt := 43) hx hb (⟨by decide, by decide⟩) dX5_restore_16 (by decide) (fun c_2 => ?_) (fun c_2 => ?_)
    · skip
      refine lv_iload_n hx hb dX5_restore_43 rfl (lv_at hl 1 rfl) ?_
      refine r_if_ge (tgt := 51) hx hb (⟨by decide, by decide⟩) dX5_restore_44 (by decide) (fun c_3 => ?_) (fun c_3 => ?_)
      · skip
        exact absurd c_3 (by decide)
      · skip
        refine lv_iload_n hx hb dX5_restore_47 rfl (lv_at hl 1 rfl) ?_
        refine lv_goto (tgt := 55) hx hb dX5_restore_48 (by decide) ?_
        exact r_iretO hx hb hr hlocks (rfl) dX5_restore_55
    · skip
      exact absurd c_2 (by decide)

set_option maxHeartbeats 4000000 in
set_option maxRecDepth 100000 in
theorem m_diff_bad (l : Launch) (D : va_G) (cI cB cZ cO : ClassId) (hm : Nat) (m1 : Nat) (m2 : Nat) (m3 : Nat) (m4 : Nat) (m5 : Nat) (m6 : Nat) (m7 : Nat) (m8 : Nat) (pa : Nat) (pb : Nat) (cp : Nat) (ty : Nat) (nx : Nat) (fi : Int) (se : Int) (le : Nat) (bp : Int) (cn : Nat) (en : Nat) (ac : Nat) (cu : Nat) (co : Nat → Nat) (au : Nat → Int) (er : Nat → Nat) (ki : Nat → Nat) (bs : Nat → Int) (x : Int) (rx : rg x) (hbad : ¬ (0 ≤ x ∧ x ≤ 1)) : Met l yX5_difference wsX5_difference ({ frames := 2, cells := 0, slots := 0, locals := 43 }) (va_Pc [.ref hm, .int (iI (x))] (RO D cI cB cZ cO [(hm, .inr (5, [.ref m1, .ref m2, .ref m3, .int (iI ((pa : Nat) : Int)), .int (iI ((pb : Nat) : Int)), .ref m4, .int (iI ((cp : Nat) : Int)), .ref m5, .int (iI ((ty : Nat) : Int)), .ref m6, .int (iI ((nx : Nat) : Int)), .int (iI (fi)), .int (iI (se)), .int (iI ((le : Nat) : Int)), .ref m7, .int (iI (bp)), .ref m8])), (m1, .inl (cI, 516, .inl (rI (sF cn en ac cu co au er ki bs))))])) (QO (-1)) 0 0 (fun _ => False) := by
  refine startO (cc := cX5_difference) (maxL := 7) (ret := (some .int)) (by decide) rfl (Nat.le_of_ble_eq_true rfl) ?_
  intro p e s m below meth c S hr hlocks hE hP ls hl
  have hx := S.1
  have hb := S.2.1
  have hown := S.2.2.2.1
  have hts := S.2.2.2.2
  have hK := hE.1
  have hl : lv_has ls 7 [(0, .ref hm), (1, .int (iI (x)))] := hl
  refine lv_aload_n hx hb dX5_difference_0 rfl (lv_at hl 0 rfl) ?_
  refine lv_iload_n hx hb dX5_difference_1 rfl (lv_at hl 1 rfl) ?_
  refine callVO (n := 1) (As := [.int (iI (x))]) (rest := []) (wc := [(hm, .inr (5, [.ref m1, .ref m2, .ref m3, .int (iI ((pa : Nat) : Int)), .int (iI ((pb : Nat) : Int)), .ref m4, .int (iI ((cp : Nat) : Int)), .ref m5, .int (iI ((ty : Nat) : Int)), .ref m6, .int (iI ((nx : Nat) : Int)), .int (iI (fi)), .int (iI (se)), .int (iI ((le : Nat) : Int)), .ref m7, .int (iI (bp)), .ref m8])), (m1, .inl (cI, 516, .inl (rI (sF cn en ac cu co au er ki bs))))]) S (m_unkept_bad l D cI cB cZ cO hm m1 m2 m3 m4 m5 m6 m7 m8 pa pb cp ty nx fi se le bp cn en ac cu co au er ki bs x (by first | assumption | (omega)) (by first | assumption | (omega))) gX5_difference_X5_unkept rfl ⟨rfl, rfl⟩ (by decide +kernel) ⟨Nat.le_of_ble_eq_true rfl, Nat.le_of_ble_eq_true rfl⟩ hE hP [0, 1] rfl 5 0 rfl rfl rfl hl.1 rfl (Nat.le_of_ble_eq_true rfl) dX5_difference_2 ⟨Nat.le_of_ble_eq_true rfl, Nat.le_of_ble_eq_true rfl⟩ ?_
  refine lv_istore_n (lv' := [(2, .int (iI (-1))), (0, .ref hm), (1, .int (iI (x)))]) hx hb dX5_difference_5 rfl hl (by decide) rfl (fun ls hl => ?_)
  refine lv_iload_n hx hb dX5_difference_6 rfl (lv_at hl 0 rfl) ?_
  refine r_if_ge (tgt := 12) hx hb (⟨by decide, by decide⟩) dX5_difference_7 (by decide) (fun c_1 => ?_) (fun c_1 => ?_)
  · skip
    exact absurd c_1 (by decide)
  · skip
    refine lv_iload_n hx hb dX5_difference_10 rfl (lv_at hl 0 rfl) ?_
    exact r_iretO hx hb hr hlocks (rfl) dX5_difference_11
