theorem kX5_findsRests_7 : Cond.fieldLink RX5 7 "PricedUndoModel" "s" "[I" ∈ wsX5_findsRests := by decide +kernel
theorem nX5_findsRests_X5 : ∀ w ∈ u_ws RX5 TX5 17, w ∈ wsX5_findsRests := by decide +kernel
theorem kX5_findsRests_34 : Cond.fieldLink RX5 34 "PricedUndoModel" "rests" "[I" ∈ wsX5_findsRests := by decide +kernel
set_option maxHeartbeats 4000000 in
set_option maxRecDepth 100000 in
theorem m_findsRests (l : Launch) (D : va_G) (cI cB cZ cO : ClassId) (sz : Nat) (hm : Nat) (m1 : Nat) (m2 : Nat) (m3 : Nat) (m4 : Nat) (m5 : Nat) (m6 : Nat) (m7 : Nat) (m8 : Nat) (pa : Nat) (pb : Nat) (cp : Nat) (ty : Nat) (nx : Nat) (fi : Int) (se : Int) (le : Nat) (bp : Int) (cn : Nat) (en : Nat) (ac : Nat) (cu : Nat) (co : Nat → Nat) (au : Nat → Int) (er : Nat → Nat) (ki : Nat → Nat) (bs : Nat → Int) (re : Nat → Nat) (ba : Nat → Nat) (hcn : cn ≤ 160) (hen : en ≤ 16) (hau : ∀ k, -1 ≤ au k ∧ au k < 16) (her : ∀ k, er k < 65536) (hbs : ∀ k, -1 ≤ bs k ∧ bs k < 16) (hki : ∀ k, ki k ≤ 1) (hre : ∀ k, re k < 65536) (hrq : RQ au er ki bs cn en ba) : Met l yX5_findsRests wsX5_findsRests ({ frames := 0, cells := 0, slots := 0, locals := 0 }) (va_Pc [.ref hm] (RW D cI cB cZ cO sz [(hm, .inr (5, [.ref m1, .ref m2, .ref m3, .int (iI ((pa : Nat) : Int)), .int (iI ((pb : Nat) : Int)), .ref m4, .int (iI ((cp : Nat) : Int)), .ref m5, .int (iI ((ty : Nat) : Int)), .ref m6, .int (iI ((nx : Nat) : Int)), .int (iI (fi)), .int (iI (se)), .int (iI ((le : Nat) : Int)), .ref m7, .int (iI (bp)), .ref m8])), (m1, .inl (cI, 516, .inl (rI (sF cn en ac cu co au er ki bs)))), (m6, .inl (cI, 16, .inl (rN (re))))])) (QX D (S := (Nat → Nat)) (fun u => none) (fun u => (∀ k, u k < 65536) ∧ (∀ k, k < en → u k = ba k)) (fun u => [(hm, .inr (5, [.ref m1, .ref m2, .ref m3, .int (iI ((pa : Nat) : Int)), .int (iI ((pb : Nat) : Int)), .ref m4, .int (iI ((cp : Nat) : Int)), .ref m5, .int (iI ((ty : Nat) : Int)), .ref m6, .int (iI ((nx : Nat) : Int)), .int (iI (fi)), .int (iI (se)), .int (iI ((le : Nat) : Int)), .ref m7, .int (iI (bp)), .ref m8])), (m1, .inl (cI, 516, .inl (rI (sF cn en ac cu co au er ki bs)))), (m6, .inl (cI, 16, .inl (rN (u))))]) (va_A [(hm, .inr (5, [.ref m1, .ref m2, .ref m3, .int (iI ((pa : Nat) : Int)), .int (iI ((pb : Nat) : Int)), .ref m4, .int (iI ((cp : Nat) : Int)), .ref m5, .int (iI ((ty : Nat) : Int)), .ref m6, .int (iI ((nx : Nat) : Int)), .int (iI (fi)), .int (iI (se)), .int (iI ((le : Nat) : Int)), .ref m7, .int (iI (bp)), .ref m8])), (m1, .inl (cI, 516, .inl (rI (sF cn en ac cu co au er ki bs)))), (m6, .inl (cI, 16, .inl (rN (re))))] sz)) 0 0 (va_A [(hm, .inr (5, [.ref m1, .ref m2, .ref m3, .int (iI ((pa : Nat) : Int)), .int (iI ((pb : Nat) : Int)), .ref m4, .int (iI ((cp : Nat) : Int)), .ref m5, .int (iI ((ty : Nat) : Int)), .ref m6, .int (iI ((nx : Nat) : Int)), .int (iI (fi)), .int (iI (se)), .int (iI ((le : Nat) : Int)), .ref m7, .int (iI (bp)), .ref m8])), (m1, .inl (cI, 516, .inl (rI (sF cn en ac cu co au er ki bs)))), (m6, .inl (cI, 16, .inl (rN (re))))] sz) := by
  refine startW (cc := cX5_findsRests) (maxL := 5) (ret := none) (by decide) rfl (Nat.le_of_ble_eq_true rfl) ?_
  intro p e s m below meth c S hr hlocks hE hP A hD hA hS ls hl
  have hx := S.1
  have hb := S.2.1
  have hown := S.2.2.2.1
  have hts := S.2.2.2.2
  have hK := hE.1
  have hl : lv_has ls 5 [(0, .ref hm)] := hl
  refine r_iconst hx hb dX5_findsRests_0 ?_
  refine lv_istore_n (lv' := [(1, .int (iI 0)), (0, .ref hm)]) hx hb dX5_findsRests_1 rfl hl (by decide) rfl (fun ls hl => ?_)
  have loop_2 : ∀ (n_2 : Nat) (e1 : Nat) (rj : Nat → Nat), (en - e1) < n_2 → (e1 ≤ en) → (∀ k, rj k < 65536) → (∀ k, k < e1 → rj k = ba k) → ∀ (H : Heap) (locs : List Loc), va_P D vwCl [(hm, .inr (5, [.ref m1, .ref m2, .ref m3, .int (iI ((pa : Nat) : Int)), .int (iI ((pb : Nat) : Int)), .ref m4, .int (iI ((cp : Nat) : Int)), .ref m5, .int (iI ((ty : Nat) : Int)), .ref m6, .int (iI ((nx : Nat) : Int)), .int (iI (fi)), .int (iI (se)), .int (iI ((le : Nat) : Int)), .ref m7, .int (iI (bp)), .ref m8])), (m1, .inl (cI, 516, .inl (rI (sF cn en ac cu co au er ki bs)))), (m6, .inl (cI, 16, .inl (rN (rj))))] H → va_D A [(hm, .inr (5, [.ref m1, .ref m2, .ref m3, .int (iI ((pa : Nat) : Int)), .int (iI ((pb : Nat) : Int)), .ref m4, .int (iI ((cp : Nat) : Int)), .ref m5, .int (iI ((ty : Nat) : Int)), .ref m6, .int (iI ((nx : Nat) : Int)), .int (iI (fi)), .int (iI (se)), .int (iI ((le : Nat) : Int)), .ref m7, .int (iI (bp)), .ref m8])), (m1, .inl (cI, 516, .inl (rI (sF cn en ac cu co au er ki bs)))), (m6, .inl (cI, 16, .inl (rN (rj))))] → va_S A s.heap H locs → ∀ (ls : Array Slot), lv_has ls 5 [(0, .ref hm), (1, .int (iI ((e1 : Nat) : Int)))] → W p l e ({ frames := 0, cells := 0, slots := 0, locals := 0 }) s m ([.ref hm] : List Value).toArray below meth c H locs 0 0 (MQ below (QX D (S := (Nat → Nat)) (fun u => none) (fun u => (∀ k, u k < 65536) ∧ (∀ k, k < en → u k = ba k)) (fun u => [(hm, .inr (5, [.ref m1, .ref m2, .ref m3, .int (iI ((pa : Nat) : Int)), .int (iI ((pb : Nat) : Int)), .ref m4, .int (iI ((cp : Nat) : Int)), .ref m5, .int (iI ((ty : Nat) : Int)), .ref m6, .int (iI ((nx : Nat) : Int)), .int (iI (fi)), .int (iI (se)), .int (iI ((le : Nat) : Int)), .ref m7, .int (iI (bp)), .ref m8])), (m1, .inl (cI, 516, .inl (rI (sF cn en ac cu co au er ki bs)))), (m6, .inl (cI, 16, .inl (rN (u))))]) A) ([.ref hm] : List Value).toArray s 0 0 A) (F0 m 2 ls []) := by
    intro n_2
    induction n_2 with
    | zero => intro e1 rj h_meas; exact absurd h_meas (Nat.not_lt_zero _)
    | succ n_2 ih_2 =>
      intro e1 rj h_m2 ie irl irb H locs hP hD hS ls hl
      have hbse := hbs e1
      have hkie := hki e1
      refine lv_iload_n hx hb dX5_findsRests_2 rfl (lv_at hl 1 rfl) ?_
      refine lv_aload_n hx hb dX5_findsRests_3 rfl (lv_at hl 0 rfl) ?_
      refine va_get (D := D) (ci := 5) (v := .ref m1) (C := RX5) (T := TX5) (N := 17) hx hb hts nX5_findsRests_X5 hown hK hP 0 rfl rfl 0 (by decide) (hts _ kX5_findsRests_7) (fun _ h9 => h9) rfl dX5_findsRests_4 ?_
      refine r_iconst hx hb dX5_findsRests_7 ?_
      refine r_ialdV (v := ((en : Nat) : Int)) hx hb hK hP 1 0 rfl rfl (1) (rfl) (by decide) (by decide) (rfl) dX5_findsRests_8 ?_
      refine r_icmp_ge (tgt := 191) hx hb (by omega) (by omega) dX5_findsRests_9 (by decide) (fun c_1 => ?_) (fun c_1 => ?_)
      · skip
        exact r_vretX hx hb hr hlocks hP hD hS (rj) rfl (⟨by assumption, by intro q hq; exact irb q (by omega)⟩) rfl dX5_findsRests_191
      · skip
        refine lv_aload_n hx hb dX5_findsRests_12 rfl (lv_at hl 0 rfl) ?_
        refine va_get (D := D) (ci := 5) (v := .ref m1) (C := RX5) (T := TX5) (N := 17) hx hb hts nX5_findsRests_X5 hown hK hP 0 rfl rfl 0 (by decide) (hts _ kX5_findsRests_7) (fun _ h9 => h9) rfl dX5_findsRests_13 ?_
        refine r_sipush hx hb dX5_findsRests_16 (by decide) ?_
        refine lv_iload_n hx hb dX5_findsRests_19 rfl (lv_at hl 1 rfl) ?_
        refine r_iadd (v := ((484 + e1 : Nat) : Int)) hx hb (rfl) dX5_findsRests_20 ?_
        refine r_ialdV (v := ((ki e1 : Nat) : Int)) hx hb hK hP 1 0 rfl rfl (484 + e1) (rfl) (by omega) (by decide) (sF_ki (by omega)) dX5_findsRests_21 ?_
        refine r_if_ne (tgt := 54) hx hb (by omega) dX5_findsRests_22 (by decide) (fun c_2 => ?_) (fun c_2 => ?_)
        · skip
          refine r_iconst hx hb dX5_findsRests_54 ?_
          refine lv_istore_n (lv' := [(2, .int (iI 0)), (0, .ref hm), (1, .int (iI ((e1 : Nat) : Int)))]) hx hb dX5_findsRests_55 rfl hl (by decide) rfl (fun ls hl => ?_)
          refine r_iconst hx hb dX5_findsRests_56 ?_
          refine lv_istore_n (lv' := [(3, .int (iI 0)), (2, .int (iI 0)), (0, .ref hm), (1, .int (iI ((e1 : Nat) : Int)))]) hx hb dX5_findsRests_57 rfl hl (by decide) rfl (fun ls hl => ?_)
          have loop_58 : ∀ (n_58 : Nat) (k : Nat), (cn - k) < n_58 → (k ≤ cn) → ∀ (H : Heap) (locs : List Loc), va_P D vwCl [(hm, .inr (5, [.ref m1, .ref m2, .ref m3, .int (iI ((pa : Nat) : Int)), .int (iI ((pb : Nat) : Int)), .ref m4, .int (iI ((cp : Nat) : Int)), .ref m5, .int (iI ((ty : Nat) : Int)), .ref m6, .int (iI ((nx : Nat) : Int)), .int (iI (fi)), .int (iI (se)), .int (iI ((le : Nat) : Int)), .ref m7, .int (iI (bp)), .ref m8])), (m1, .inl (cI, 516, .inl (rI (sF cn en ac cu co au er ki bs)))), (m6, .inl (cI, 16, .inl (rN (rj))))] H → va_D A [(hm, .inr (5, [.ref m1, .ref m2, .ref m3, .int (iI ((pa : Nat) : Int)), .int (iI ((pb : Nat) : Int)), .ref m4, .int (iI ((cp : Nat) : Int)), .ref m5, .int (iI ((ty : Nat) : Int)), .ref m6, .int (iI ((nx : Nat) : Int)), .int (iI (fi)), .int (iI (se)), .int (iI ((le : Nat) : Int)), .ref m7, .int (iI (bp)), .ref m8])), (m1, .inl (cI, 516, .inl (rI (sF cn en ac cu co au er ki bs)))), (m6, .inl (cI, 16, .inl (rN (rj))))] → va_S A s.heap H locs → ∀ (ls : Array Slot), lv_has ls 5 [(0, .ref hm), (1, .int (iI ((e1 : Nat) : Int))), (2, .int (iI ((dir au er ki bs k e1 : Nat) : Int))), (3, .int (iI ((k : Nat) : Int)))] → W p l e ({ frames := 0, cells := 0, slots := 0, locals := 0 }) s m ([.ref hm] : List Value).toArray below meth c H locs 0 0 (MQ below (QX D (S := (Nat → Nat)) (fun u => none) (fun u => (∀ k, u k < 65536) ∧ (∀ k, k < en → u k = ba k)) (fun u => [(hm, .inr (5, [.ref m1, .ref m2, .ref m3, .int (iI ((pa : Nat) : Int)), .int (iI ((pb : Nat) : Int)), .ref m4, .int (iI ((cp : Nat) : Int)), .ref m5, .int (iI ((ty : Nat) : Int)), .ref m6, .int (iI ((nx : Nat) : Int)), .int (iI (fi)), .int (iI (se)), .int (iI ((le : Nat) : Int)), .ref m7, .int (iI (bp)), .ref m8])), (m1, .inl (cI, 516, .inl (rI (sF cn en ac cu co au er ki bs)))), (m6, .inl (cI, 16, .inl (rN (u))))]) A) ([.ref hm] : List Value).toArray s 0 0 A) (F0 m 58 ls []) := by
            intro n_58
            induction n_58 with
            | zero => intro k h_meas; exact absurd h_meas (Nat.not_lt_zero _)
            | succ n_58 ih_58 =>
              intro k h_m58 ik H locs hP hD hS ls hl
              have hauk := hau k
              have herk := her k
              have hsl := Nat.shiftRight_le (er k) e1
              have hsa := @Nat.and_le_left ((er k) >>> e1) 1
              have hb1 := tb1 (er k) e1
              have hb0 := tb0 (er k) e1
              refine lv_iload_n hx hb dX5_findsRests_58 rfl (lv_at hl 3 rfl) ?_
              refine lv_aload_n hx hb dX5_findsRests_59 rfl (lv_at hl 0 rfl) ?_
              refine va_get (D := D) (ci := 5) (v := .ref m1) (C := RX5) (T := TX5) (N := 17) hx hb hts nX5_findsRests_X5 hown hK hP 0 rfl rfl 0 (by decide) (hts _ kX5_findsRests_7) (fun _ h9 => h9) rfl dX5_findsRests_60 ?_
              refine r_iconst hx hb dX5_findsRests_63 ?_
              refine r_ialdV (v := ((cn : Nat) : Int)) hx hb hK hP 1 0 rfl rfl (0) (rfl) (by decide) (by decide) (rfl) dX5_findsRests_64 ?_
              refine r_icmp_ge (tgt := 137) hx hb (by omega) (by omega) dX5_findsRests_65 (by decide) (fun c_3 => ?_) (fun c_3 => ?_)
              · skip
                obtain rfl : cn = k := by omega
                refine lv_iload_n hx hb dX5_findsRests_137 rfl (lv_at hl 2 rfl) ?_
                refine lv_istore_n (lv' := [(3, .int (iI ((dir au er ki bs cn e1 : Nat) : Int))), (0, .ref hm), (1, .int (iI ((e1 : Nat) : Int))), (2, .int (iI ((dir au er ki bs cn e1 : Nat) : Int)))]) hx hb dX5_findsRests_138 rfl hl (by decide) rfl (fun ls hl => ?_)
                refine r_iconst hx hb dX5_findsRests_139 ?_
                refine lv_istore (lv' := [(4, .int (iI 0)), (3, .int (iI ((dir au er ki bs cn e1 : Nat) : Int))), (0, .ref hm), (1, .int (iI ((e1 : Nat) : Int))), (2, .int (iI ((dir au er ki bs cn e1 : Nat) : Int)))]) hx hb dX5_findsRests_140 hl (by decide) rfl (fun ls hl => ?_)
                have loop_142 : ∀ (n_142 : Nat) (b : Nat), (e1 - b) < n_142 → (b ≤ e1) → ∀ (H : Heap) (locs : List Loc), va_P D vwCl [(hm, .inr (5, [.ref m1, .ref m2, .ref m3, .int (iI ((pa : Nat) : Int)), .int (iI ((pb : Nat) : Int)), .ref m4, .int (iI ((cp : Nat) : Int)), .ref m5, .int (iI ((ty : Nat) : Int)), .ref m6, .int (iI ((nx : Nat) : Int)), .int (iI (fi)), .int (iI (se)), .int (iI ((le : Nat) : Int)), .ref m7, .int (iI (bp)), .ref m8])), (m1, .inl (cI, 516, .inl (rI (sF cn en ac cu co au er ki bs)))), (m6, .inl (cI, 16, .inl (rN (rj))))] H → va_D A [(hm, .inr (5, [.ref m1, .ref m2, .ref m3, .int (iI ((pa : Nat) : Int)), .int (iI ((pb : Nat) : Int)), .ref m4, .int (iI ((cp : Nat) : Int)), .ref m5, .int (iI ((ty : Nat) : Int)), .ref m6, .int (iI ((nx : Nat) : Int)), .int (iI (fi)), .int (iI (se)), .int (iI ((le : Nat) : Int)), .ref m7, .int (iI (bp)), .ref m8])), (m1, .inl (cI, 516, .inl (rI (sF cn en ac cu co au er ki bs)))), (m6, .inl (cI, 16, .inl (rN (rj))))] → va_S A s.heap H locs → ∀ (ls : Array Slot), lv_has ls 5 [(0, .ref hm), (1, .int (iI ((e1 : Nat) : Int))), (2, .int (iI ((dir au er ki bs cn e1 : Nat) : Int))), (3, .int (iI (((dir au er ki bs cn e1) ||| (thr rj (dir au er ki bs cn e1) b) : Nat) : Int))), (4, .int (iI ((b : Nat) : Int)))] → W p l e ({ frames := 0, cells := 0, slots := 0, locals := 0 }) s m ([.ref hm] : List Value).toArray below meth c H locs 0 0 (MQ below (QX D (S := (Nat → Nat)) (fun u => none) (fun u => (∀ k, u k < 65536) ∧ (∀ k, k < en → u k = ba k)) (fun u => [(hm, .inr (5, [.ref m1, .ref m2, .ref m3, .int (iI ((pa : Nat) : Int)), .int (iI ((pb : Nat) : Int)), .ref m4, .int (iI ((cp : Nat) : Int)), .ref m5, .int (iI ((ty : Nat) : Int)), .ref m6, .int (iI ((nx : Nat) : Int)), .int (iI (fi)), .int (iI (se)), .int (iI ((le : Nat) : Int)), .ref m7, .int (iI (bp)), .ref m8])), (m1, .inl (cI, 516, .inl (rI (sF cn en ac cu co au er ki bs)))), (m6, .inl (cI, 16, .inl (rN (u))))]) A) ([.ref hm] : List Value).toArray s 0 0 A) (F0 m 142 ls []) := by
                  intro n_142
                  induction n_142 with
                  | zero => intro b h_meas; exact absurd h_meas (Nat.not_lt_zero _)
                  | succ n_142 ih_142 =>
                    intro b h_m142 ib H locs hP hD hS ls hl
                    have hdl : dir au er ki bs cn e1 < 65536 := dir_lt hau hbs
                    have hsld := Nat.shiftRight_le (dir au er ki bs cn e1) b
                    have hsad := @Nat.and_le_left ((dir au er ki bs cn e1) >>> b) 1
                    have hb1d := tb1 (dir au er ki bs cn e1) b
                    have hb0d := tb0 (dir au er ki bs cn e1) b
                    refine lv_iload hx hb dX5_findsRests_142 (lv_at hl 4 rfl) ?_
                    refine lv_iload_n hx hb dX5_findsRests_144 rfl (lv_at hl 1 rfl) ?_
                    refine r_icmp_ge (tgt := 178) hx hb (by omega) (by omega) dX5_findsRests_145 (by decide) (fun c_4 => ?_) (fun c_4 => ?_)
                    · skip
                      refine lv_aload_n hx hb dX5_findsRests_178 rfl (lv_at hl 0 rfl) ?_
                      refine va_get (D := D) (ci := 5) (v := .ref m6) (C := RX5) (T := TX5) (N := 17) hx hb hts nX5_findsRests_X5 hown hK hP 0 rfl rfl 9 (by decide) (hts _ kX5_findsRests_34) (fun _ h9 => h9) rfl dX5_findsRests_179 ?_
                      refine lv_iload_n hx hb dX5_findsRests_182 rfl (lv_at hl 1 rfl) ?_
                      refine lv_iload_n hx hb dX5_findsRests_183 rfl (lv_at hl 3 rfl) ?_
                      refine r_iastN (v := ((dir au er ki bs cn e1) ||| (thr rj (dir au er ki bs cn e1) b))) hx hb hK hP hD hS 2 0 rfl rfl (e1) (rfl) (by omega) (by decide) dX5_findsRests_184 (fun H locs hP hD hS => ?_)
                      have hP : va_P D vwCl [(hm, .inr (5, [.ref m1, .ref m2, .ref m3, .int (iI ((pa : Nat) : Int)), .int (iI ((pb : Nat) : Int)), .ref m4, .int (iI ((cp : Nat) : Int)), .ref m5, .int (iI ((ty : Nat) : Int)), .ref m6, .int (iI ((nx : Nat) : Int)), .int (iI (fi)), .int (iI (se)), .int (iI ((le : Nat) : Int)), .ref m7, .int (iI (bp)), .ref m8])), (m1, .inl (cI, 516, .inl (rI (sF cn en ac cu co au er ki bs)))), (m6, .inl (cI, 16, .inl (rN (up rj e1 ((dir au er ki bs cn e1) ||| (thr rj (dir au er ki bs cn e1) b))))))] H := hP
                      have hD : va_D A [(hm, .inr (5, [.ref m1, .ref m2, .ref m3, .int (iI ((pa : Nat) : Int)), .int (iI ((pb : Nat) : Int)), .ref m4, .int (iI ((cp : Nat) : Int)), .ref m5, .int (iI ((ty : Nat) : Int)), .ref m6, .int (iI ((nx : Nat) : Int)), .int (iI (fi)), .int (iI (se)), .int (iI ((le : Nat) : Int)), .ref m7, .int (iI (bp)), .ref m8])), (m1, .inl (cI, 516, .inl (rI (sF cn en ac cu co au er ki bs)))), (m6, .inl (cI, 16, .inl (rN (up rj e1 ((dir au er ki bs cn e1) ||| (thr rj (dir au er ki bs cn e1) b))))))] := hD
                      refine lv_iinc (v := iI ((e1 + 1 : Nat) : Int)) (lv' := [(1, .int (iI ((e1 + 1 : Nat) : Int))), (0, .ref hm), (2, .int (iI ((dir au er ki bs cn e1 : Nat) : Int))), (3, .int (iI (((dir au er ki bs cn e1) ||| (thr rj (dir au er ki bs cn e1) b) : Nat) : Int))), (4, .int (iI ((b : Nat) : Int)))]) hx hb dX5_findsRests_185 hl (k := 1) rfl ((iI_add _ _).trans (ii (rfl))) (by decide) rfl (fun ls hl => ?_)
                      refine lv_goto (tgt := 2) hx hb dX5_findsRests_188 (by decide) ?_
                      have hww : ([(hm, .inr (5, [.ref m1, .ref m2, .ref m3, .int (iI ((pa : Nat) : Int)), .int (iI ((pb : Nat) : Int)), .ref m4, .int (iI ((cp : Nat) : Int)), .ref m5, .int (iI ((ty : Nat) : Int)), .ref m6, .int (iI ((nx : Nat) : Int)), .int (iI (fi)), .int (iI (se)), .int (iI ((le : Nat) : Int)), .ref m7, .int (iI (bp)), .ref m8])), (m1, .inl (cI, 516, .inl (rI (sF cn en ac cu co au er ki bs)))), (m6, .inl (cI, 16, .inl (rN (up rj e1 ((dir au er ki bs cn e1) ||| (thr rj (dir au er ki bs cn e1) b))))))] : va_W) = [(hm, .inr (5, [.ref m1, .ref m2, .ref m3, .int (iI ((pa : Nat) : Int)), .int (iI ((pb : Nat) : Int)), .ref m4, .int (iI ((cp : Nat) : Int)), .ref m5, .int (iI ((ty : Nat) : Int)), .ref m6, .int (iI ((nx : Nat) : Int)), .int (iI (fi)), .int (iI (se)), .int (iI ((le : Nat) : Int)), .ref m7, .int (iI (bp)), .ref m8])), (m1, .inl (cI, 516, .inl (rI (sF cn en ac cu co au er ki bs)))), (m6, .inl (cI, 16, .inl (rN ((up rj e1 ((dir au er ki bs cn e1) ||| (thr rj (dir au er ki bs cn e1) b)))))))] := by first | with_reducible rfl | simp
                      rw [hww] at hP hD
                      exact ih_2 (e1 + 1) (up rj e1 ((dir au er ki bs cn e1) ||| (thr rj (dir au er ki bs cn e1) b))) (by omega) (by first | assumption | (omega)) (by exact up_lt irl (or16 hdl (thr_lt irl))) (by intro q hq; by_cases hqe : q = e1; (rw [hqe, up_same, show b = e1 by omega, thr_congr irb]; exact (hrq e1 (by omega)).symm); (rw [up_ne _ _ hqe]; exact irb q (by omega))) H locs hP hD hS ls (lv_sub hl [1, 0] rfl)
                    · skip
                      refine lv_iload_n hx hb dX5_findsRests_148 rfl (lv_at hl 3 rfl) ?_
                      refine lv_iload_n hx hb dX5_findsRests_149 rfl (lv_at hl 2 rfl) ?_
                      refine lv_iload hx hb dX5_findsRests_150 (lv_at hl 4 rfl) ?_
                      refine r_ishr hx hb (dir au er ki bs cn e1) (b) (rfl) (rfl) (by omega) (by omega) dX5_findsRests_152 ?_
                      refine r_iconst hx hb dX5_findsRests_153 ?_
                      refine r_iand hx hb ((dir au er ki bs cn e1) >>> b) (1) (rfl) (rfl) dX5_findsRests_154 ?_
                      refine r_iconst hx hb dX5_findsRests_155 ?_
                      refine r_icmp_ne (tgt := 169) hx hb (rg_nat (Nat.le_trans hsad hsld) (by omega)) (⟨by decide, by decide⟩) dX5_findsRests_156 (by decide) (fun c_5 => ?_) (fun c_5 => ?_)
                      · skip
                        refine r_iconst hx hb dX5_findsRests_169 ?_
                        refine r_ior hx hb ((dir au er ki bs cn e1) ||| (thr rj (dir au er ki bs cn e1) b)) (0) (rfl) (rfl) dX5_findsRests_170 ?_
                        refine lv_istore_n (lv' := [(3, .int (iI ((((dir au er ki bs cn e1) ||| (thr rj (dir au er ki bs cn e1) b)) ||| 0 : Nat) : Int))), (0, .ref hm), (1, .int (iI ((e1 : Nat) : Int))), (2, .int (iI ((dir au er ki bs cn e1 : Nat) : Int))), (4, .int (iI ((b : Nat) : Int)))]) hx hb dX5_findsRests_171 rfl hl (by decide) rfl (fun ls hl => ?_)
                        refine lv_iinc (v := iI ((b + 1 : Nat) : Int)) (lv' := [(4, .int (iI ((b + 1 : Nat) : Int))), (3, .int (iI ((((dir au er ki bs cn e1) ||| (thr rj (dir au er ki bs cn e1) b)) ||| 0 : Nat) : Int))), (0, .ref hm), (1, .int (iI ((e1 : Nat) : Int))), (2, .int (iI ((dir au er ki bs cn e1 : Nat) : Int)))]) hx hb dX5_findsRests_172 hl (k := 4) rfl ((iI_add _ _).trans (ii (rfl))) (by decide) rfl (fun ls hl => ?_)
                        refine lv_goto (tgt := 142) hx hb dX5_findsRests_175 (by decide) ?_
                        have hl : lv_has ls 5 [(4, .int (iI ((b + 1 : Nat) : Int))), (3, .int (iI (((dir au er ki bs cn e1) ||| (thr rj (dir au er ki bs cn e1) (b + 1)) : Nat) : Int))), (0, .ref hm), (1, .int (iI ((e1 : Nat) : Int))), (2, .int (iI ((dir au er ki bs cn e1 : Nat) : Int)))] := lv_chg hl 1 3 rfl (show (((((dir au er ki bs cn e1) ||| (thr rj (dir au er ki bs cn e1) b)) ||| 0 : Nat) : Int) : Int) = (((dir au er ki bs cn e1) ||| (thr rj (dir au er ki bs cn e1) (b + 1)) : Nat) : Int) from by first | (rw [thr_t (hb1d.mp (by omega)), ← Nat.or_assoc]) | (rw [thr_f (fun q => by have q1 := hb1d.mpr q; omega), Nat.or_zero])) rfl
                        exact ih_142 (b + 1) (by omega) (by first | assumption | (omega)) H locs hP hD hS ls (lv_sub hl [2, 3, 4, 1, 0] rfl)
                      · skip
                        refine lv_aload_n hx hb dX5_findsRests_159 rfl (lv_at hl 0 rfl) ?_
                        refine va_get (D := D) (ci := 5) (v := .ref m6) (C := RX5) (T := TX5) (N := 17) hx hb hts nX5_findsRests_X5 hown hK hP 0 rfl rfl 9 (by decide) (hts _ kX5_findsRests_34) (fun _ h9 => h9) rfl dX5_findsRests_160 ?_
                        refine lv_iload hx hb dX5_findsRests_163 (lv_at hl 4 rfl) ?_
                        refine r_ialdN hx hb hK hP 2 0 rfl rfl (b) (rfl) (by omega) (by decide) dX5_findsRests_165 ?_
                        refine lv_goto (tgt := 170) hx hb dX5_findsRests_166 (by decide) ?_
                        refine r_ior hx hb ((dir au er ki bs cn e1) ||| (thr rj (dir au er ki bs cn e1) b)) (rj b) (rfl) (rfl) dX5_findsRests_170 ?_
                        refine lv_istore_n (lv' := [(3, .int (iI ((((dir au er ki bs cn e1) ||| (thr rj (dir au er ki bs cn e1) b)) ||| (rj b) : Nat) : Int))), (0, .ref hm), (1, .int (iI ((e1 : Nat) : Int))), (2, .int (iI ((dir au er ki bs cn e1 : Nat) : Int))), (4, .int (iI ((b : Nat) : Int)))]) hx hb dX5_findsRests_171 rfl hl (by decide) rfl (fun ls hl => ?_)
                        refine lv_iinc (v := iI ((b + 1 : Nat) : Int)) (lv' := [(4, .int (iI ((b + 1 : Nat) : Int))), (3, .int (iI ((((dir au er ki bs cn e1) ||| (thr rj (dir au er ki bs cn e1) b)) ||| (rj b) : Nat) : Int))), (0, .ref hm), (1, .int (iI ((e1 : Nat) : Int))), (2, .int (iI ((dir au er ki bs cn e1 : Nat) : Int)))]) hx hb dX5_findsRests_172 hl (k := 4) rfl ((iI_add _ _).trans (ii (rfl))) (by decide) rfl (fun ls hl => ?_)
                        refine lv_goto (tgt := 142) hx hb dX5_findsRests_175 (by decide) ?_
                        have hl : lv_has ls 5 [(4, .int (iI ((b + 1 : Nat) : Int))), (3, .int (iI (((dir au er ki bs cn e1) ||| (thr rj (dir au er ki bs cn e1) (b + 1)) : Nat) : Int))), (0, .ref hm), (1, .int (iI ((e1 : Nat) : Int))), (2, .int (iI ((dir au er ki bs cn e1 : Nat) : Int)))] := lv_chg hl 1 3 rfl (show (((((dir au er ki bs cn e1) ||| (thr rj (dir au er ki bs cn e1) b)) ||| (rj b) : Nat) : Int) : Int) = (((dir au er ki bs cn e1) ||| (thr rj (dir au er ki bs cn e1) (b + 1)) : Nat) : Int) from by first | (rw [thr_t (hb1d.mp (by omega)), ← Nat.or_assoc]) | (rw [thr_f (fun q => by have q1 := hb1d.mpr q; omega), Nat.or_zero])) rfl
                        exact ih_142 (b + 1) (by omega) (by first | assumption | (omega)) H locs hP hD hS ls (lv_sub hl [2, 3, 4, 1, 0] rfl)
                have hl : lv_has ls 5 [(4, .int (iI 0)), (3, .int (iI (((dir au er ki bs cn e1) ||| (thr rj (dir au er ki bs cn e1) 0) : Nat) : Int))), (0, .ref hm), (1, .int (iI ((e1 : Nat) : Int))), (2, .int (iI ((dir au er ki bs cn e1 : Nat) : Int)))] := lv_chg hl 1 3 rfl (show (((dir au er ki bs cn e1 : Nat) : Int) : Int) = (((dir au er ki bs cn e1) ||| (thr rj (dir au er ki bs cn e1) 0) : Nat) : Int) from by exact congrArg _ (Nat.or_zero _).symm) rfl
                exact loop_142 ((e1 - 0) + 1) 0 (by omega) (by first | assumption | (omega)) H locs hP hD hS ls (lv_sub hl [2, 3, 4, 1, 0] rfl)
              · skip
                refine lv_aload_n hx hb dX5_findsRests_68 rfl (lv_at hl 0 rfl) ?_
                refine va_get (D := D) (ci := 5) (v := .ref m1) (C := RX5) (T := TX5) (N := 17) hx hb hts nX5_findsRests_X5 hown hK hP 0 rfl rfl 0 (by decide) (hts _ kX5_findsRests_7) (fun _ h9 => h9) rfl dX5_findsRests_69 ?_
                refine r_sipush hx hb dX5_findsRests_72 (by decide) ?_
                refine lv_iload_n hx hb dX5_findsRests_75 rfl (lv_at hl 3 rfl) ?_
                refine r_iadd (v := ((324 + k : Nat) : Int)) hx hb (rfl) dX5_findsRests_76 ?_
                refine r_ialdV (v := ((er k : Nat) : Int)) hx hb hK hP 1 0 rfl rfl (324 + k) (rfl) (by omega) (by decide) (sF_er (by omega)) dX5_findsRests_77 ?_
                refine lv_iload_n hx hb dX5_findsRests_78 rfl (lv_at hl 1 rfl) ?_
                refine r_ishr hx hb (er k) (e1) (rfl) (rfl) (by omega) (by omega) dX5_findsRests_79 ?_
                refine r_iconst hx hb dX5_findsRests_80 ?_
                refine r_iand hx hb ((er k) >>> e1) (1) (rfl) (rfl) dX5_findsRests_81 ?_
                refine r_iconst hx hb dX5_findsRests_82 ?_
                refine r_icmp_ne (tgt := 104) hx hb (by omega) (⟨by decide, by decide⟩) dX5_findsRests_83 (by decide) (fun c_6 => ?_) (fun c_6 => ?_)
                · skip
                  refine r_iconst hx hb dX5_findsRests_104 ?_
                  refine lv_istore (lv' := [(4, .int (iI 0)), (0, .ref hm), (1, .int (iI ((e1 : Nat) : Int))), (2, .int (iI ((dir au er ki bs k e1 : Nat) : Int))), (3, .int (iI ((k : Nat) : Int)))]) hx hb dX5_findsRests_105 hl (by decide) rfl (fun ls hl => ?_)
                  refine lv_iload_n hx hb dX5_findsRests_107 rfl (lv_at hl 3 rfl) ?_
                  refine lv_iload hx hb dX5_findsRests_108 (lv_at hl 0 rfl) ?_
                  refine r_if_eq (tgt := 128) hx hb (⟨by decide, by decide⟩) dX5_findsRests_110 (by decide) (fun c_7 => ?_) (fun c_7 => ?_)
                  · skip
                    refine r_iconst hx hb dX5_findsRests_128 ?_
                    refine r_ior hx hb (dir au er ki bs k e1) (0) (rfl) (rfl) dX5_findsRests_129 ?_
                    refine lv_istore_n (lv' := [(2, .int (iI (((dir au er ki bs k e1) ||| 0 : Nat) : Int))), (4, .int (iI 0)), (0, .ref hm), (1, .int (iI ((e1 : Nat) : Int))), (3, .int (iI ((k : Nat) : Int)))]) hx hb dX5_findsRests_130 rfl hl (by decide) rfl (fun ls hl => ?_)
                    refine lv_iinc (v := iI ((k + 1 : Nat) : Int)) (lv' := [(3, .int (iI ((k + 1 : Nat) : Int))), (2, .int (iI (((dir au er ki bs k e1) ||| 0 : Nat) : Int))), (4, .int (iI 0)), (0, .ref hm), (1, .int (iI ((e1 : Nat) : Int)))]) hx hb dX5_findsRests_131 hl (k := 4) rfl ((iI_add _ _).trans (ii (rfl))) (by decide) rfl (fun ls hl => ?_)
                    refine lv_goto (tgt := 58) hx hb dX5_findsRests_134 (by decide) ?_
                    have hl : lv_has ls 5 [(3, .int (iI ((k + 1 : Nat) : Int))), (2, .int (iI ((dir au er ki bs (k + 1) e1 : Nat) : Int))), (4, .int (iI 0)), (0, .ref hm), (1, .int (iI ((e1 : Nat) : Int)))] := lv_chg hl 1 2 rfl (show ((((dir au er ki bs k e1) ||| 0 : Nat) : Int) : Int) = ((dir au er ki bs (k + 1) e1 : Nat) : Int) from by first | (rw [dir_s1 (hb1.mp (by omega)) (by omega)]) | (rw [dir_s0 (fun q => by have q1 := hb1.mpr q.1; have q2 := q.2; omega), Nat.or_zero])) rfl
                    exact ih_58 (k + 1) (by omega) (by first | assumption | (omega)) H locs hP hD hS ls (lv_sub hl [3, 4, 1, 0] rfl)
                  · skip
                    exact absurd c_7 (by decide)
                · skip
                  refine lv_aload_n hx hb dX5_findsRests_86 rfl (lv_at hl 0 rfl) ?_
                  refine va_get (D := D) (ci := 5) (v := .ref m1) (C := RX5) (T := TX5) (N := 17) hx hb hts nX5_findsRests_X5 hown hK hP 0 rfl rfl 0 (by decide) (hts _ kX5_findsRests_7) (fun _ h9 => h9) rfl dX5_findsRests_87 ?_
                  refine r_sipush hx hb dX5_findsRests_90 (by decide) ?_
                  refine lv_iload_n hx hb dX5_findsRests_93 rfl (lv_at hl 3 rfl) ?_
                  refine r_iadd (v := ((164 + k : Nat) : Int)) hx hb (rfl) dX5_findsRests_94 ?_
                  refine r_ialdV (v := (au k)) hx hb hK hP 1 0 rfl rfl (164 + k) (rfl) (by omega) (by decide) (sF_au (by omega)) dX5_findsRests_95 ?_
                  refine r_iconst hx hb dX5_findsRests_96 ?_
                  refine r_icmp_eq (tgt := 104) hx hb (by omega) (⟨by decide, by decide⟩) dX5_findsRests_97 (by decide) (fun c_8 => ?_) (fun c_8 => ?_)
                  · skip
                    refine r_iconst hx hb dX5_findsRests_104 ?_
                    refine lv_istore (lv' := [(4, .int (iI 0)), (0, .ref hm), (1, .int (iI ((e1 : Nat) : Int))), (2, .int (iI ((dir au er ki bs k e1 : Nat) : Int))), (3, .int (iI ((k : Nat) : Int)))]) hx hb dX5_findsRests_105 hl (by decide) rfl (fun ls hl => ?_)
                    refine lv_iload_n hx hb dX5_findsRests_107 rfl (lv_at hl 3 rfl) ?_
                    refine lv_iload hx hb dX5_findsRests_108 (lv_at hl 0 rfl) ?_
                    refine r_if_eq (tgt := 128) hx hb (⟨by decide, by decide⟩) dX5_findsRests_110 (by decide) (fun c_9 => ?_) (fun c_9 => ?_)
                    · skip
                      refine r_iconst hx hb dX5_findsRests_128 ?_
                      refine r_ior hx hb (dir au er ki bs k e1) (0) (rfl) (rfl) dX5_findsRests_129 ?_
                      refine lv_istore_n (lv' := [(2, .int (iI (((dir au er ki bs k e1) ||| 0 : Nat) : Int))), (4, .int (iI 0)), (0, .ref hm), (1, .int (iI ((e1 : Nat) : Int))), (3, .int (iI ((k : Nat) : Int)))]) hx hb dX5_findsRests_130 rfl hl (by decide) rfl (fun ls hl => ?_)
                      refine lv_iinc (v := iI ((k + 1 : Nat) : Int)) (lv' := [(3, .int (iI ((k + 1 : Nat) : Int))), (2, .int (iI (((dir au er ki bs k e1) ||| 0 : Nat) : Int))), (4, .int (iI 0)), (0, .ref hm), (1, .int (iI ((e1 : Nat) : Int)))]) hx hb dX5_findsRests_131 hl (k := 4) rfl ((iI_add _ _).trans (ii (rfl))) (by decide) rfl (fun ls hl => ?_)
                      refine lv_goto (tgt := 58) hx hb dX5_findsRests_134 (by decide) ?_
                      have hl : lv_has ls 5 [(3, .int (iI ((k + 1 : Nat) : Int))), (2, .int (iI ((dir au er ki bs (k + 1) e1 : Nat) : Int))), (4, .int (iI 0)), (0, .ref hm), (1, .int (iI ((e1 : Nat) : Int)))] := lv_chg hl 1 2 rfl (show ((((dir au er ki bs k e1) ||| 0 : Nat) : Int) : Int) = ((dir au er ki bs (k + 1) e1 : Nat) : Int) from by first | (rw [dir_s1 (hb1.mp (by omega)) (by omega)]) | (rw [dir_s0 (fun q => by have q1 := hb1.mpr q.1; have q2 := q.2; omega), Nat.or_zero])) rfl
                      exact ih_58 (k + 1) (by omega) (by first | assumption | (omega)) H locs hP hD hS ls (lv_sub hl [3, 4, 1, 0] rfl)
                    · skip
                      exact absurd c_9 (by decide)
                  · skip
                    refine r_iconst hx hb dX5_findsRests_100 ?_
                    refine lv_goto (tgt := 105) hx hb dX5_findsRests_101 (by decide) ?_
                    refine lv_istore (lv' := [(4, .int (iI 1)), (0, .ref hm), (1, .int (iI ((e1 : Nat) : Int))), (2, .int (iI ((dir au er ki bs k e1 : Nat) : Int))), (3, .int (iI ((k : Nat) : Int)))]) hx hb dX5_findsRests_105 hl (by decide) rfl (fun ls hl => ?_)
                    refine lv_iload_n hx hb dX5_findsRests_107 rfl (lv_at hl 3 rfl) ?_
                    refine lv_iload hx hb dX5_findsRests_108 (lv_at hl 0 rfl) ?_
                    refine r_if_eq (tgt := 128) hx hb (⟨by decide, by decide⟩) dX5_findsRests_110 (by decide) (fun c_10 => ?_) (fun c_10 => ?_)
                    · skip
                      exact absurd c_10 (by decide)
                    · skip
                      refine r_iconst hx hb dX5_findsRests_113 ?_
                      refine lv_aload_n hx hb dX5_findsRests_114 rfl (lv_at hl 1 rfl) ?_
                      refine va_get (D := D) (ci := 5) (v := .ref m1) (C := RX5) (T := TX5) (N := 17) hx hb hts nX5_findsRests_X5 hown hK hP 0 rfl rfl 0 (by decide) (hts _ kX5_findsRests_7) (fun _ h9 => h9) rfl dX5_findsRests_115 ?_
                      refine r_sipush hx hb dX5_findsRests_118 (by decide) ?_
                      refine lv_iload_n hx hb dX5_findsRests_121 rfl (lv_at hl 4 rfl) ?_
                      refine r_iadd (v := ((164 + k : Nat) : Int)) hx hb (rfl) dX5_findsRests_122 ?_
                      refine r_ialdV (v := (au k)) hx hb hK hP 1 0 rfl rfl (164 + k) (rfl) (by omega) (by decide) (sF_au (by omega)) dX5_findsRests_123 ?_
                      refine r_shl1 hx hb ((au k).toNat) (by omega) (by omega) dX5_findsRests_124 ?_
                      refine lv_goto (tgt := 129) hx hb dX5_findsRests_125 (by decide) ?_
                      refine r_ior hx hb (dir au er ki bs k e1) (2 ^ ((au k).toNat)) (rfl) (rfl) dX5_findsRests_129 ?_
                      refine lv_istore_n (lv' := [(2, .int (iI (((dir au er ki bs k e1) ||| (2 ^ ((au k).toNat)) : Nat) : Int))), (4, .int (iI 1)), (0, .ref hm), (1, .int (iI ((e1 : Nat) : Int))), (3, .int (iI ((k : Nat) : Int)))]) hx hb dX5_findsRests_130 rfl hl (by decide) rfl (fun ls hl => ?_)
                      refine lv_iinc (v := iI ((k + 1 : Nat) : Int)) (lv' := [(3, .int (iI ((k + 1 : Nat) : Int))), (2, .int (iI (((dir au er ki bs k e1) ||| (2 ^ ((au k).toNat)) : Nat) : Int))), (4, .int (iI 1)), (0, .ref hm), (1, .int (iI ((e1 : Nat) : Int)))]) hx hb dX5_findsRests_131 hl (k := 4) rfl ((iI_add _ _).trans (ii (rfl))) (by decide) rfl (fun ls hl => ?_)
                      refine lv_goto (tgt := 58) hx hb dX5_findsRests_134 (by decide) ?_
                      have hl : lv_has ls 5 [(3, .int (iI ((k + 1 : Nat) : Int))), (2, .int (iI ((dir au er ki bs (k + 1) e1 : Nat) : Int))), (4, .int (iI 1)), (0, .ref hm), (1, .int (iI ((e1 : Nat) : Int)))] := lv_chg hl 1 2 rfl (show ((((dir au er ki bs k e1) ||| (2 ^ ((au k).toNat)) : Nat) : Int) : Int) = ((dir au er ki bs (k + 1) e1 : Nat) : Int) from by first | (rw [dir_s1 (hb1.mp (by omega)) (by omega)]) | (rw [dir_s0 (fun q => by have q1 := hb1.mpr q.1; have q2 := q.2; omega), Nat.or_zero])) rfl
                      exact ih_58 (k + 1) (by omega) (by first | assumption | (omega)) H locs hP hD hS ls (lv_sub hl [3, 4, 1, 0] rfl)
          have hl : lv_has ls 5 [(3, .int (iI 0)), (2, .int (iI ((dir au er ki bs 0 e1 : Nat) : Int))), (0, .ref hm), (1, .int (iI ((e1 : Nat) : Int)))] := lv_chg hl 1 2 rfl (show (0 : Int) = ((dir au er ki bs 0 e1 : Nat) : Int) from by first | (rw [dir_a (by omega) (by omega)]) | (rw [dir_b (by omega)]; rfl)) rfl
          exact loop_58 ((cn - 0) + 1) 0 (by omega) (by first | assumption | (omega)) H locs hP hD hS ls (lv_sub hl [2, 3, 1, 0] rfl)
        · skip
          refine lv_aload_n hx hb dX5_findsRests_25 rfl (lv_at hl 0 rfl) ?_
          refine va_get (D := D) (ci := 5) (v := .ref m1) (C := RX5) (T := TX5) (N := 17) hx hb hts nX5_findsRests_X5 hown hK hP 0 rfl rfl 0 (by decide) (hts _ kX5_findsRests_7) (fun _ h9 => h9) rfl dX5_findsRests_26 ?_
          refine r_sipush hx hb dX5_findsRests_29 (by decide) ?_
          refine lv_iload_n hx hb dX5_findsRests_32 rfl (lv_at hl 1 rfl) ?_
          refine r_iadd (v := ((500 + e1 : Nat) : Int)) hx hb (rfl) dX5_findsRests_33 ?_
          refine r_ialdV (v := (bs e1)) hx hb hK hP 1 0 rfl rfl (500 + e1) (rfl) (by omega) (by decide) (sF_bs (by omega)) dX5_findsRests_34 ?_
          refine r_iconst hx hb dX5_findsRests_35 ?_
          refine r_icmp_eq (tgt := 54) hx hb (by omega) (⟨by decide, by decide⟩) dX5_findsRests_36 (by decide) (fun c_11 => ?_) (fun c_11 => ?_)
          · skip
            refine r_iconst hx hb dX5_findsRests_54 ?_
            refine lv_istore_n (lv' := [(2, .int (iI 0)), (0, .ref hm), (1, .int (iI ((e1 : Nat) : Int)))]) hx hb dX5_findsRests_55 rfl hl (by decide) rfl (fun ls hl => ?_)
            refine r_iconst hx hb dX5_findsRests_56 ?_
            refine lv_istore_n (lv' := [(3, .int (iI 0)), (2, .int (iI 0)), (0, .ref hm), (1, .int (iI ((e1 : Nat) : Int)))]) hx hb dX5_findsRests_57 rfl hl (by decide) rfl (fun ls hl => ?_)
            have loop_58 : ∀ (n_58 : Nat) (k : Nat), (cn - k) < n_58 → (k ≤ cn) → ∀ (H : Heap) (locs : List Loc), va_P D vwCl [(hm, .inr (5, [.ref m1, .ref m2, .ref m3, .int (iI ((pa : Nat) : Int)), .int (iI ((pb : Nat) : Int)), .ref m4, .int (iI ((cp : Nat) : Int)), .ref m5, .int (iI ((ty : Nat) : Int)), .ref m6, .int (iI ((nx : Nat) : Int)), .int (iI (fi)), .int (iI (se)), .int (iI ((le : Nat) : Int)), .ref m7, .int (iI (bp)), .ref m8])), (m1, .inl (cI, 516, .inl (rI (sF cn en ac cu co au er ki bs)))), (m6, .inl (cI, 16, .inl (rN (rj))))] H → va_D A [(hm, .inr (5, [.ref m1, .ref m2, .ref m3, .int (iI ((pa : Nat) : Int)), .int (iI ((pb : Nat) : Int)), .ref m4, .int (iI ((cp : Nat) : Int)), .ref m5, .int (iI ((ty : Nat) : Int)), .ref m6, .int (iI ((nx : Nat) : Int)), .int (iI (fi)), .int (iI (se)), .int (iI ((le : Nat) : Int)), .ref m7, .int (iI (bp)), .ref m8])), (m1, .inl (cI, 516, .inl (rI (sF cn en ac cu co au er ki bs)))), (m6, .inl (cI, 16, .inl (rN (rj))))] → va_S A s.heap H locs → ∀ (ls : Array Slot), lv_has ls 5 [(0, .ref hm), (1, .int (iI ((e1 : Nat) : Int))), (2, .int (iI ((dir au er ki bs k e1 : Nat) : Int))), (3, .int (iI ((k : Nat) : Int)))] → W p l e ({ frames := 0, cells := 0, slots := 0, locals := 0 }) s m ([.ref hm] : List Value).toArray below meth c H locs 0 0 (MQ below (QX D (S := (Nat → Nat)) (fun u => none) (fun u => (∀ k, u k < 65536) ∧ (∀ k, k < en → u k = ba k)) (fun u => [(hm, .inr (5, [.ref m1, .ref m2, .ref m3, .int (iI ((pa : Nat) : Int)), .int (iI ((pb : Nat) : Int)), .ref m4, .int (iI ((cp : Nat) : Int)), .ref m5, .int (iI ((ty : Nat) : Int)), .ref m6, .int (iI ((nx : Nat) : Int)), .int (iI (fi)), .int (iI (se)), .int (iI ((le : Nat) : Int)), .ref m7, .int (iI (bp)), .ref m8])), (m1, .inl (cI, 516, .inl (rI (sF cn en ac cu co au er ki bs)))), (m6, .inl (cI, 16, .inl (rN (u))))]) A) ([.ref hm] : List Value).toArray s 0 0 A) (F0 m 58 ls []) := by
              intro n_58
              induction n_58 with
              | zero => intro k h_meas; exact absurd h_meas (Nat.not_lt_zero _)
              | succ n_58 ih_58 =>
                intro k h_m58 ik H locs hP hD hS ls hl
                have hauk := hau k
                have herk := her k
                have hsl := Nat.shiftRight_le (er k) e1
                have hsa := @Nat.and_le_left ((er k) >>> e1) 1
                have hb1 := tb1 (er k) e1
                have hb0 := tb0 (er k) e1
                refine lv_iload_n hx hb dX5_findsRests_58 rfl (lv_at hl 3 rfl) ?_
                refine lv_aload_n hx hb dX5_findsRests_59 rfl (lv_at hl 0 rfl) ?_
                refine va_get (D := D) (ci := 5) (v := .ref m1) (C := RX5) (T := TX5) (N := 17) hx hb hts nX5_findsRests_X5 hown hK hP 0 rfl rfl 0 (by decide) (hts _ kX5_findsRests_7) (fun _ h9 => h9) rfl dX5_findsRests_60 ?_
                refine r_iconst hx hb dX5_findsRests_63 ?_
                refine r_ialdV (v := ((cn : Nat) : Int)) hx hb hK hP 1 0 rfl rfl (0) (rfl) (by decide) (by decide) (rfl) dX5_findsRests_64 ?_
                refine r_icmp_ge (tgt := 137) hx hb (by omega) (by omega) dX5_findsRests_65 (by decide) (fun c_12 => ?_) (fun c_12 => ?_)
                · skip
                  obtain rfl : cn = k := by omega
                  refine lv_iload_n hx hb dX5_findsRests_137 rfl (lv_at hl 2 rfl) ?_
                  refine lv_istore_n (lv' := [(3, .int (iI ((dir au er ki bs cn e1 : Nat) : Int))), (0, .ref hm), (1, .int (iI ((e1 : Nat) : Int))), (2, .int (iI ((dir au er ki bs cn e1 : Nat) : Int)))]) hx hb dX5_findsRests_138 rfl hl (by decide) rfl (fun ls hl => ?_)
                  refine r_iconst hx hb dX5_findsRests_139 ?_
                  refine lv_istore (lv' := [(4, .int (iI 0)), (3, .int (iI ((dir au er ki bs cn e1 : Nat) : Int))), (0, .ref hm), (1, .int (iI ((e1 : Nat) : Int))), (2, .int (iI ((dir au er ki bs cn e1 : Nat) : Int)))]) hx hb dX5_findsRests_140 hl (by decide) rfl (fun ls hl => ?_)
                  have loop_142 : ∀ (n_142 : Nat) (b : Nat), (e1 - b) < n_142 → (b ≤ e1) → ∀ (H : Heap) (locs : List Loc), va_P D vwCl [(hm, .inr (5, [.ref m1, .ref m2, .ref m3, .int (iI ((pa : Nat) : Int)), .int (iI ((pb : Nat) : Int)), .ref m4, .int (iI ((cp : Nat) : Int)), .ref m5, .int (iI ((ty : Nat) : Int)), .ref m6, .int (iI ((nx : Nat) : Int)), .int (iI (fi)), .int (iI (se)), .int (iI ((le : Nat) : Int)), .ref m7, .int (iI (bp)), .ref m8])), (m1, .inl (cI, 516, .inl (rI (sF cn en ac cu co au er ki bs)))), (m6, .inl (cI, 16, .inl (rN (rj))))] H → va_D A [(hm, .inr (5, [.ref m1, .ref m2, .ref m3, .int (iI ((pa : Nat) : Int)), .int (iI ((pb : Nat) : Int)), .ref m4, .int (iI ((cp : Nat) : Int)), .ref m5, .int (iI ((ty : Nat) : Int)), .ref m6, .int (iI ((nx : Nat) : Int)), .int (iI (fi)), .int (iI (se)), .int (iI ((le : Nat) : Int)), .ref m7, .int (iI (bp)), .ref m8])), (m1, .inl (cI, 516, .inl (rI (sF cn en ac cu co au er ki bs)))), (m6, .inl (cI, 16, .inl (rN (rj))))] → va_S A s.heap H locs → ∀ (ls : Array Slot), lv_has ls 5 [(0, .ref hm), (1, .int (iI ((e1 : Nat) : Int))), (2, .int (iI ((dir au er ki bs cn e1 : Nat) : Int))), (3, .int (iI (((dir au er ki bs cn e1) ||| (thr rj (dir au er ki bs cn e1) b) : Nat) : Int))), (4, .int (iI ((b : Nat) : Int)))] → W p l e ({ frames := 0, cells := 0, slots := 0, locals := 0 }) s m ([.ref hm] : List Value).toArray below meth c H locs 0 0 (MQ below (QX D (S := (Nat → Nat)) (fun u => none) (fun u => (∀ k, u k < 65536) ∧ (∀ k, k < en → u k = ba k)) (fun u => [(hm, .inr (5, [.ref m1, .ref m2, .ref m3, .int (iI ((pa : Nat) : Int)), .int (iI ((pb : Nat) : Int)), .ref m4, .int (iI ((cp : Nat) : Int)), .ref m5, .int (iI ((ty : Nat) : Int)), .ref m6, .int (iI ((nx : Nat) : Int)), .int (iI (fi)), .int (iI (se)), .int (iI ((le : Nat) : Int)), .ref m7, .int (iI (bp)), .ref m8])), (m1, .inl (cI, 516, .inl (rI (sF cn en ac cu co au er ki bs)))), (m6, .inl (cI, 16, .inl (rN (u))))]) A) ([.ref hm] : List Value).toArray s 0 0 A) (F0 m 142 ls []) := by
                    intro n_142
                    induction n_142 with
                    | zero => intro b h_meas; exact absurd h_meas (Nat.not_lt_zero _)
                    | succ n_142 ih_142 =>
                      intro b h_m142 ib H locs hP hD hS ls hl
                      have hdl : dir au er ki bs cn e1 < 65536 := dir_lt hau hbs
                      have hsld := Nat.shiftRight_le (dir au er ki bs cn e1) b
                      have hsad := @Nat.and_le_left ((dir au er ki bs cn e1) >>> b) 1
                      have hb1d := tb1 (dir au er ki bs cn e1) b
                      have hb0d := tb0 (dir au er ki bs cn e1) b
                      refine lv_iload hx hb dX5_findsRests_142 (lv_at hl 4 rfl) ?_
                      refine lv_iload_n hx hb dX5_findsRests_144 rfl (lv_at hl 1 rfl) ?_
                      refine r_icmp_ge (tgt := 178) hx hb (by omega) (by omega) dX5_findsRests_145 (by decide) (fun c_13 => ?_) (fun c_13 => ?_)
                      · skip
                        refine lv_aload_n hx hb dX5_findsRests_178 rfl (lv_at hl 0 rfl) ?_
                        refine va_get (D := D) (ci := 5) (v := .ref m6) (C := RX5) (T := TX5) (N := 17) hx hb hts nX5_findsRests_X5 hown hK hP 0 rfl rfl 9 (by decide) (hts _ kX5_findsRests_34) (fun _ h9 => h9) rfl dX5_findsRests_179 ?_
                        refine lv_iload_n hx hb dX5_findsRests_182 rfl (lv_at hl 1 rfl) ?_
                        refine lv_iload_n hx hb dX5_findsRests_183 rfl (lv_at hl 3 rfl) ?_
                        refine r_iastN (v := ((dir au er ki bs cn e1) ||| (thr rj (dir au er ki bs cn e1) b))) hx hb hK hP hD hS 2 0 rfl rfl (e1) (rfl) (by omega) (by decide) dX5_findsRests_184 (fun H locs hP hD hS => ?_)
                        have hP : va_P D vwCl [(hm, .inr (5, [.ref m1, .ref m2, .ref m3, .int (iI ((pa : Nat) : Int)), .int (iI ((pb : Nat) : Int)), .ref m4, .int (iI ((cp : Nat) : Int)), .ref m5, .int (iI ((ty : Nat) : Int)), .ref m6, .int (iI ((nx : Nat) : Int)), .int (iI (fi)), .int (iI (se)), .int (iI ((le : Nat) : Int)), .ref m7, .int (iI (bp)), .ref m8])), (m1, .inl (cI, 516, .inl (rI (sF cn en ac cu co au er ki bs)))), (m6, .inl (cI, 16, .inl (rN (up rj e1 ((dir au er ki bs cn e1) ||| (thr rj (dir au er ki bs cn e1) b))))))] H := hP
                        have hD : va_D A [(hm, .inr (5, [.ref m1, .ref m2, .ref m3, .int (iI ((pa : Nat) : Int)), .int (iI ((pb : Nat) : Int)), .ref m4, .int (iI ((cp : Nat) : Int)), .ref m5, .int (iI ((ty : Nat) : Int)), .ref m6, .int (iI ((nx : Nat) : Int)), .int (iI (fi)), .int (iI (se)), .int (iI ((le : Nat) : Int)), .ref m7, .int (iI (bp)), .ref m8])), (m1, .inl (cI, 516, .inl (rI (sF cn en ac cu co au er ki bs)))), (m6, .inl (cI, 16, .inl (rN (up rj e1 ((dir au er ki bs cn e1) ||| (thr rj (dir au er ki bs cn e1) b))))))] := hD
                        refine lv_iinc (v := iI ((e1 + 1 : Nat) : Int)) (lv' := [(1, .int (iI ((e1 + 1 : Nat) : Int))), (0, .ref hm), (2, .int (iI ((dir au er ki bs cn e1 : Nat) : Int))), (3, .int (iI (((dir au er ki bs cn e1) ||| (thr rj (dir au er ki bs cn e1) b) : Nat) : Int))), (4, .int (iI ((b : Nat) : Int)))]) hx hb dX5_findsRests_185 hl (k := 1) rfl ((iI_add _ _).trans (ii (rfl))) (by decide) rfl (fun ls hl => ?_)
                        refine lv_goto (tgt := 2) hx hb dX5_findsRests_188 (by decide) ?_
                        have hww : ([(hm, .inr (5, [.ref m1, .ref m2, .ref m3, .int (iI ((pa : Nat) : Int)), .int (iI ((pb : Nat) : Int)), .ref m4, .int (iI ((cp : Nat) : Int)), .ref m5, .int (iI ((ty : Nat) : Int)), .ref m6, .int (iI ((nx : Nat) : Int)), .int (iI (fi)), .int (iI (se)), .int (iI ((le : Nat) : Int)), .ref m7, .int (iI (bp)), .ref m8])), (m1, .inl (cI, 516, .inl (rI (sF cn en ac cu co au er ki bs)))), (m6, .inl (cI, 16, .inl (rN (up rj e1 ((dir au er ki bs cn e1) ||| (thr rj (dir au er ki bs cn e1) b))))))] : va_W) = [(hm, .inr (5, [.ref m1, .ref m2, .ref m3, .int (iI ((pa : Nat) : Int)), .int (iI ((pb : Nat) : Int)), .ref m4, .int (iI ((cp : Nat) : Int)), .ref m5, .int (iI ((ty : Nat) : Int)), .ref m6, .int (iI ((nx : Nat) : Int)), .int (iI (fi)), .int (iI (se)), .int (iI ((le : Nat) : Int)), .ref m7, .int (iI (bp)), .ref m8])), (m1, .inl (cI, 516, .inl (rI (sF cn en ac cu co au er ki bs)))), (m6, .inl (cI, 16, .inl (rN ((up rj e1 ((dir au er ki bs cn e1) ||| (thr rj (dir au er ki bs cn e1) b)))))))] := by first | with_reducible rfl | simp
                        rw [hww] at hP hD
                        exact ih_2 (e1 + 1) (up rj e1 ((dir au er ki bs cn e1) ||| (thr rj (dir au er ki bs cn e1) b))) (by omega) (by first | assumption | (omega)) (by exact up_lt irl (or16 hdl (thr_lt irl))) (by intro q hq; by_cases hqe : q = e1; (rw [hqe, up_same, show b = e1 by omega, thr_congr irb]; exact (hrq e1 (by omega)).symm); (rw [up_ne _ _ hqe]; exact irb q (by omega))) H locs hP hD hS ls (lv_sub hl [1, 0] rfl)
                      · skip
                        refine lv_iload_n hx hb dX5_findsRests_148 rfl (lv_at hl 3 rfl) ?_
                        refine lv_iload_n hx hb dX5_findsRests_149 rfl (lv_at hl 2 rfl) ?_
                        refine lv_iload hx hb dX5_findsRests_150 (lv_at hl 4 rfl) ?_
                        refine r_ishr hx hb (dir au er ki bs cn e1) (b) (rfl) (rfl) (by omega) (by omega) dX5_findsRests_152 ?_
                        refine r_iconst hx hb dX5_findsRests_153 ?_
                        refine r_iand hx hb ((dir au er ki bs cn e1) >>> b) (1) (rfl) (rfl) dX5_findsRests_154 ?_
                        refine r_iconst hx hb dX5_findsRests_155 ?_
                        refine r_icmp_ne (tgt := 169) hx hb (rg_nat (Nat.le_trans hsad hsld) (by omega)) (⟨by decide, by decide⟩) dX5_findsRests_156 (by decide) (fun c_14 => ?_) (fun c_14 => ?_)
                        · skip
                          refine r_iconst hx hb dX5_findsRests_169 ?_
                          refine r_ior hx hb ((dir au er ki bs cn e1) ||| (thr rj (dir au er ki bs cn e1) b)) (0) (rfl) (rfl) dX5_findsRests_170 ?_
                          refine lv_istore_n (lv' := [(3, .int (iI ((((dir au er ki bs cn e1) ||| (thr rj (dir au er ki bs cn e1) b)) ||| 0 : Nat) : Int))), (0, .ref hm), (1, .int (iI ((e1 : Nat) : Int))), (2, .int (iI ((dir au er ki bs cn e1 : Nat) : Int))), (4, .int (iI ((b : Nat) : Int)))]) hx hb dX5_findsRests_171 rfl hl (by decide) rfl (fun ls hl => ?_)
                          refine lv_iinc (v := iI ((b + 1 : Nat) : Int)) (lv' := [(4, .int (iI ((b + 1 : Nat) : Int))), (3, .int (iI ((((dir au er ki bs cn e1) ||| (thr rj (dir au er ki bs cn e1) b)) ||| 0 : Nat) : Int))), (0, .ref hm), (1, .int (iI ((e1 : Nat) : Int))), (2, .int (iI ((dir au er ki bs cn e1 : Nat) : Int)))]) hx hb dX5_findsRests_172 hl (k := 4) rfl ((iI_add _ _).trans (ii (rfl))) (by decide) rfl (fun ls hl => ?_)
                          refine lv_goto (tgt := 142) hx hb dX5_findsRests_175 (by decide) ?_
                          have hl : lv_has ls 5 [(4, .int (iI ((b + 1 : Nat) : Int))), (3, .int (iI (((dir au er ki bs cn e1) ||| (thr rj (dir au er ki bs cn e1) (b + 1)) : Nat) : Int))), (0, .ref hm), (1, .int (iI ((e1 : Nat) : Int))), (2, .int (iI ((dir au er ki bs cn e1 : Nat) : Int)))] := lv_chg hl 1 3 rfl (show (((((dir au er ki bs cn e1) ||| (thr rj (dir au er ki bs cn e1) b)) ||| 0 : Nat) : Int) : Int) = (((dir au er ki bs cn e1) ||| (thr rj (dir au er ki bs cn e1) (b + 1)) : Nat) : Int) from by first | (rw [thr_t (hb1d.mp (by omega)), ← Nat.or_assoc]) | (rw [thr_f (fun q => by have q1 := hb1d.mpr q; omega), Nat.or_zero])) rfl
                          exact ih_142 (b + 1) (by omega) (by first | assumption | (omega)) H locs hP hD hS ls (lv_sub hl [2, 3, 4, 1, 0] rfl)
                        · skip
                          refine lv_aload_n hx hb dX5_findsRests_159 rfl (lv_at hl 0 rfl) ?_
                          refine va_get (D := D) (ci := 5) (v := .ref m6) (C := RX5) (T := TX5) (N := 17) hx hb hts nX5_findsRests_X5 hown hK hP 0 rfl rfl 9 (by decide) (hts _ kX5_findsRests_34) (fun _ h9 => h9) rfl dX5_findsRests_160 ?_
                          refine lv_iload hx hb dX5_findsRests_163 (lv_at hl 4 rfl) ?_
                          refine r_ialdN hx hb hK hP 2 0 rfl rfl (b) (rfl) (by omega) (by decide) dX5_findsRests_165 ?_
                          refine lv_goto (tgt := 170) hx hb dX5_findsRests_166 (by decide) ?_
                          refine r_ior hx hb ((dir au er ki bs cn e1) ||| (thr rj (dir au er ki bs cn e1) b)) (rj b) (rfl) (rfl) dX5_findsRests_170 ?_
                          refine lv_istore_n (lv' := [(3, .int (iI ((((dir au er ki bs cn e1) ||| (thr rj (dir au er ki bs cn e1) b)) ||| (rj b) : Nat) : Int))), (0, .ref hm), (1, .int (iI ((e1 : Nat) : Int))), (2, .int (iI ((dir au er ki bs cn e1 : Nat) : Int))), (4, .int (iI ((b : Nat) : Int)))]) hx hb dX5_findsRests_171 rfl hl (by decide) rfl (fun ls hl => ?_)
                          refine lv_iinc (v := iI ((b + 1 : Nat) : Int)) (lv' := [(4, .int (iI ((b + 1 : Nat) : Int))), (3, .int (iI ((((dir au er ki bs cn e1) ||| (thr rj (dir au er ki bs cn e1) b)) ||| (rj b) : Nat) : Int))), (0, .ref hm), (1, .int (iI ((e1 : Nat) : Int))), (2, .int (iI ((dir au er ki bs cn e1 : Nat) : Int)))]) hx hb dX5_findsRests_172 hl (k := 4) rfl ((iI_add _ _).trans (ii (rfl))) (by decide) rfl (fun ls hl => ?_)
                          refine lv_goto (tgt := 142) hx hb dX5_findsRests_175 (by decide) ?_
                          have hl : lv_has ls 5 [(4, .int (iI ((b + 1 : Nat) : Int))), (3, .int (iI (((dir au er ki bs cn e1) ||| (thr rj (dir au er ki bs cn e1) (b + 1)) : Nat) : Int))), (0, .ref hm), (1, .int (iI ((e1 : Nat) : Int))), (2, .int (iI ((dir au er ki bs cn e1 : Nat) : Int)))] := lv_chg hl 1 3 rfl (show (((((dir au er ki bs cn e1) ||| (thr rj (dir au er ki bs cn e1) b)) ||| (rj b) : Nat) : Int) : Int) = (((dir au er ki bs cn e1) ||| (thr rj (dir au er ki bs cn e1) (b + 1)) : Nat) : Int) from by first | (rw [thr_t (hb1d.mp (by omega)), ← Nat.or_assoc]) | (rw [thr_f (fun q => by have q1 := hb1d.mpr q; omega), Nat.or_zero])) rfl
                          exact ih_142 (b + 1) (by omega) (by first | assumption | (omega)) H locs hP hD hS ls (lv_sub hl [2, 3, 4, 1, 0] rfl)
                  have hl : lv_has ls 5 [(4, .int (iI 0)), (3, .int (iI (((dir au er ki bs cn e1) ||| (thr rj (dir au er ki bs cn e1) 0) : Nat) : Int))), (0, .ref hm), (1, .int (iI ((e1 : Nat) : Int))), (2, .int (iI ((dir au er ki bs cn e1 : Nat) : Int)))] := lv_chg hl 1 3 rfl (show (((dir au er ki bs cn e1 : Nat) : Int) : Int) = (((dir au er ki bs cn e1) ||| (thr rj (dir au er ki bs cn e1) 0) : Nat) : Int) from by exact congrArg _ (Nat.or_zero _).symm) rfl
                  exact loop_142 ((e1 - 0) + 1) 0 (by omega) (by first | assumption | (omega)) H locs hP hD hS ls (lv_sub hl [2, 3, 4, 1, 0] rfl)
                · skip
                  refine lv_aload_n hx hb dX5_findsRests_68 rfl (lv_at hl 0 rfl) ?_
                  refine va_get (D := D) (ci := 5) (v := .ref m1) (C := RX5) (T := TX5) (N := 17) hx hb hts nX5_findsRests_X5 hown hK hP 0 rfl rfl 0 (by decide) (hts _ kX5_findsRests_7) (fun _ h9 => h9) rfl dX5_findsRests_69 ?_
                  refine r_sipush hx hb dX5_findsRests_72 (by decide) ?_
                  refine lv_iload_n hx hb dX5_findsRests_75 rfl (lv_at hl 3 rfl) ?_
                  refine r_iadd (v := ((324 + k : Nat) : Int)) hx hb (rfl) dX5_findsRests_76 ?_
                  refine r_ialdV (v := ((er k : Nat) : Int)) hx hb hK hP 1 0 rfl rfl (324 + k) (rfl) (by omega) (by decide) (sF_er (by omega)) dX5_findsRests_77 ?_
                  refine lv_iload_n hx hb dX5_findsRests_78 rfl (lv_at hl 1 rfl) ?_
                  refine r_ishr hx hb (er k) (e1) (rfl) (rfl) (by omega) (by omega) dX5_findsRests_79 ?_
                  refine r_iconst hx hb dX5_findsRests_80 ?_
                  refine r_iand hx hb ((er k) >>> e1) (1) (rfl) (rfl) dX5_findsRests_81 ?_
                  refine r_iconst hx hb dX5_findsRests_82 ?_
                  refine r_icmp_ne (tgt := 104) hx hb (by omega) (⟨by decide, by decide⟩) dX5_findsRests_83 (by decide) (fun c_15 => ?_) (fun c_15 => ?_)
                  · skip
                    refine r_iconst hx hb dX5_findsRests_104 ?_
                    refine lv_istore (lv' := [(4, .int (iI 0)), (0, .ref hm), (1, .int (iI ((e1 : Nat) : Int))), (2, .int (iI ((dir au er ki bs k e1 : Nat) : Int))), (3, .int (iI ((k : Nat) : Int)))]) hx hb dX5_findsRests_105 hl (by decide) rfl (fun ls hl => ?_)
                    refine lv_iload_n hx hb dX5_findsRests_107 rfl (lv_at hl 3 rfl) ?_
                    refine lv_iload hx hb dX5_findsRests_108 (lv_at hl 0 rfl) ?_
                    refine r_if_eq (tgt := 128) hx hb (⟨by decide, by decide⟩) dX5_findsRests_110 (by decide) (fun c_16 => ?_) (fun c_16 => ?_)
                    · skip
                      refine r_iconst hx hb dX5_findsRests_128 ?_
                      refine r_ior hx hb (dir au er ki bs k e1) (0) (rfl) (rfl) dX5_findsRests_129 ?_
                      refine lv_istore_n (lv' := [(2, .int (iI (((dir au er ki bs k e1) ||| 0 : Nat) : Int))), (4, .int (iI 0)), (0, .ref hm), (1, .int (iI ((e1 : Nat) : Int))), (3, .int (iI ((k : Nat) : Int)))]) hx hb dX5_findsRests_130 rfl hl (by decide) rfl (fun ls hl => ?_)
                      refine lv_iinc (v := iI ((k + 1 : Nat) : Int)) (lv' := [(3, .int (iI ((k + 1 : Nat) : Int))), (2, .int (iI (((dir au er ki bs k e1) ||| 0 : Nat) : Int))), (4, .int (iI 0)), (0, .ref hm), (1, .int (iI ((e1 : Nat) : Int)))]) hx hb dX5_findsRests_131 hl (k := 4) rfl ((iI_add _ _).trans (ii (rfl))) (by decide) rfl (fun ls hl => ?_)
                      refine lv_goto (tgt := 58) hx hb dX5_findsRests_134 (by decide) ?_
                      have hl : lv_has ls 5 [(3, .int (iI ((k + 1 : Nat) : Int))), (2, .int (iI ((dir au er ki bs (k + 1) e1 : Nat) : Int))), (4, .int (iI 0)), (0, .ref hm), (1, .int (iI ((e1 : Nat) : Int)))] := lv_chg hl 1 2 rfl (show ((((dir au er ki bs k e1) ||| 0 : Nat) : Int) : Int) = ((dir au er ki bs (k + 1) e1 : Nat) : Int) from by first | (rw [dir_s1 (hb1.mp (by omega)) (by omega)]) | (rw [dir_s0 (fun q => by have q1 := hb1.mpr q.1; have q2 := q.2; omega), Nat.or_zero])) rfl
                      exact ih_58 (k + 1) (by omega) (by first | assumption | (omega)) H locs hP hD hS ls (lv_sub hl [3, 4, 1, 0] rfl)
                    · skip
                      exact absurd c_16 (by decide)
                  · skip
                    refine lv_aload_n hx hb dX5_findsRests_86 rfl (lv_at hl 0 rfl) ?_
                    refine va_get (D := D) (ci := 5) (v := .ref m1) (C := RX5) (T := TX5) (N := 17) hx hb hts nX5_findsRests_X5 hown hK hP 0 rfl rfl 0 (by decide) (hts _ kX5_findsRests_7) (fun _ h9 => h9) rfl dX5_findsRests_87 ?_
                    refine r_sipush hx hb dX5_findsRests_90 (by decide) ?_
                    refine lv_iload_n hx hb dX5_findsRests_93 rfl (lv_at hl 3 rfl) ?_
                    refine r_iadd (v := ((164 + k : Nat) : Int)) hx hb (rfl) dX5_findsRests_94 ?_
                    refine r_ialdV (v := (au k)) hx hb hK hP 1 0 rfl rfl (164 + k) (rfl) (by omega) (by decide) (sF_au (by omega)) dX5_findsRests_95 ?_
                    refine r_iconst hx hb dX5_findsRests_96 ?_
                    refine r_icmp_eq (tgt := 104) hx hb (by omega) (⟨by decide, by decide⟩) dX5_findsRests_97 (by decide) (fun c_17 => ?_) (fun c_17 => ?_)
                    · skip
                      refine r_iconst hx hb dX5_findsRests_104 ?_
                      refine lv_istore (lv' := [(4, .int (iI 0)), (0, .ref hm), (1, .int (iI ((e1 : Nat) : Int))), (2, .int (iI ((dir au er ki bs k e1 : Nat) : Int))), (3, .int (iI ((k : Nat) : Int)))]) hx hb dX5_findsRests_105 hl (by decide) rfl (fun ls hl => ?_)
                      refine lv_iload_n hx hb dX5_findsRests_107 rfl (lv_at hl 3 rfl) ?_
                      refine lv_iload hx hb dX5_findsRests_108 (lv_at hl 0 rfl) ?_
                      refine r_if_eq (tgt := 128) hx hb (⟨by decide, by decide⟩) dX5_findsRests_110 (by decide) (fun c_18 => ?_) (fun c_18 => ?_)
                      · skip
                        refine r_iconst hx hb dX5_findsRests_128 ?_
                        refine r_ior hx hb (dir au er ki bs k e1) (0) (rfl) (rfl) dX5_findsRests_129 ?_
                        refine lv_istore_n (lv' := [(2, .int (iI (((dir au er ki bs k e1) ||| 0 : Nat) : Int))), (4, .int (iI 0)), (0, .ref hm), (1, .int (iI ((e1 : Nat) : Int))), (3, .int (iI ((k : Nat) : Int)))]) hx hb dX5_findsRests_130 rfl hl (by decide) rfl (fun ls hl => ?_)
                        refine lv_iinc (v := iI ((k + 1 : Nat) : Int)) (lv' := [(3, .int (iI ((k + 1 : Nat) : Int))), (2, .int (iI (((dir au er ki bs k e1) ||| 0 : Nat) : Int))), (4, .int (iI 0)), (0, .ref hm), (1, .int (iI ((e1 : Nat) : Int)))]) hx hb dX5_findsRests_131 hl (k := 4) rfl ((iI_add _ _).trans (ii (rfl))) (by decide) rfl (fun ls hl => ?_)
                        refine lv_goto (tgt := 58) hx hb dX5_findsRests_134 (by decide) ?_
                        have hl : lv_has ls 5 [(3, .int (iI ((k + 1 : Nat) : Int))), (2, .int (iI ((dir au er ki bs (k + 1) e1 : Nat) : Int))), (4, .int (iI 0)), (0, .ref hm), (1, .int (iI ((e1 : Nat) : Int)))] := lv_chg hl 1 2 rfl (show ((((dir au er ki bs k e1) ||| 0 : Nat) : Int) : Int) = ((dir au er ki bs (k + 1) e1 : Nat) : Int) from by first | (rw [dir_s1 (hb1.mp (by omega)) (by omega)]) | (rw [dir_s0 (fun q => by have q1 := hb1.mpr q.1; have q2 := q.2; omega), Nat.or_zero])) rfl
                        exact ih_58 (k + 1) (by omega) (by first | assumption | (omega)) H locs hP hD hS ls (lv_sub hl [3, 4, 1, 0] rfl)
                      · skip
                        exact absurd c_18 (by decide)
                    · skip
                      refine r_iconst hx hb dX5_findsRests_100 ?_
                      refine lv_goto (tgt := 105) hx hb dX5_findsRests_101 (by decide) ?_
                      refine lv_istore (lv' := [(4, .int (iI 1)), (0, .ref hm), (1, .int (iI ((e1 : Nat) : Int))), (2, .int (iI ((dir au er ki bs k e1 : Nat) : Int))), (3, .int (iI ((k : Nat) : Int)))]) hx hb dX5_findsRests_105 hl (by decide) rfl (fun ls hl => ?_)
                      refine lv_iload_n hx hb dX5_findsRests_107 rfl (lv_at hl 3 rfl) ?_
                      refine lv_iload hx hb dX5_findsRests_108 (lv_at hl 0 rfl) ?_
                      refine r_if_eq (tgt := 128) hx hb (⟨by decide, by decide⟩) dX5_findsRests_110 (by decide) (fun c_19 => ?_) (fun c_19 => ?_)
                      · skip
                        exact absurd c_19 (by decide)
                      · skip
                        refine r_iconst hx hb dX5_findsRests_113 ?_
                        refine lv_aload_n hx hb dX5_findsRests_114 rfl (lv_at hl 1 rfl) ?_
                        refine va_get (D := D) (ci := 5) (v := .ref m1) (C := RX5) (T := TX5) (N := 17) hx hb hts nX5_findsRests_X5 hown hK hP 0 rfl rfl 0 (by decide) (hts _ kX5_findsRests_7) (fun _ h9 => h9) rfl dX5_findsRests_115 ?_
                        refine r_sipush hx hb dX5_findsRests_118 (by decide) ?_
                        refine lv_iload_n hx hb dX5_findsRests_121 rfl (lv_at hl 4 rfl) ?_
                        refine r_iadd (v := ((164 + k : Nat) : Int)) hx hb (rfl) dX5_findsRests_122 ?_
                        refine r_ialdV (v := (au k)) hx hb hK hP 1 0 rfl rfl (164 + k) (rfl) (by omega) (by decide) (sF_au (by omega)) dX5_findsRests_123 ?_
                        refine r_shl1 hx hb ((au k).toNat) (by omega) (by omega) dX5_findsRests_124 ?_
                        refine lv_goto (tgt := 129) hx hb dX5_findsRests_125 (by decide) ?_
                        refine r_ior hx hb (dir au er ki bs k e1) (2 ^ ((au k).toNat)) (rfl) (rfl) dX5_findsRests_129 ?_
                        refine lv_istore_n (lv' := [(2, .int (iI (((dir au er ki bs k e1) ||| (2 ^ ((au k).toNat)) : Nat) : Int))), (4, .int (iI 1)), (0, .ref hm), (1, .int (iI ((e1 : Nat) : Int))), (3, .int (iI ((k : Nat) : Int)))]) hx hb dX5_findsRests_130 rfl hl (by decide) rfl (fun ls hl => ?_)
                        refine lv_iinc (v := iI ((k + 1 : Nat) : Int)) (lv' := [(3, .int (iI ((k + 1 : Nat) : Int))), (2, .int (iI (((dir au er ki bs k e1) ||| (2 ^ ((au k).toNat)) : Nat) : Int))), (4, .int (iI 1)), (0, .ref hm), (1, .int (iI ((e1 : Nat) : Int)))]) hx hb dX5_findsRests_131 hl (k := 4) rfl ((iI_add _ _).trans (ii (rfl))) (by decide) rfl (fun ls hl => ?_)
                        refine lv_goto (tgt := 58) hx hb dX5_findsRests_134 (by decide) ?_
                        have hl : lv_has ls 5 [(3, .int (iI ((k + 1 : Nat) : Int))), (2, .int (iI ((dir au er ki bs (k + 1) e1 : Nat) : Int))), (4, .int (iI 1)), (0, .ref hm), (1, .int (iI ((e1 : Nat) : Int)))] := lv_chg hl 1 2 rfl (show ((((dir au er ki bs k e1) ||| (2 ^ ((au k).toNat)) : Nat) : Int) : Int) = ((dir au er ki bs (k + 1) e1 : Nat) : Int) from by first | (rw [dir_s1 (hb1.mp (by omega)) (by omega)]) | (rw [dir_s0 (fun q => by have q1 := hb1.mpr q.1; have q2 := q.2; omega), Nat.or_zero])) rfl
                        exact ih_58 (k + 1) (by omega) (by first | assumption | (omega)) H locs hP hD hS ls (lv_sub hl [3, 4, 1, 0] rfl)
            have hl : lv_has ls 5 [(3, .int (iI 0)), (2, .int (iI ((dir au er ki bs 0 e1 : Nat) : Int))), (0, .ref hm), (1, .int (iI ((e1 : Nat) : Int)))] := lv_chg hl 1 2 rfl (show (0 : Int) = ((dir au er ki bs 0 e1 : Nat) : Int) from by first | (rw [dir_a (by omega) (by omega)]) | (rw [dir_b (by omega)]; rfl)) rfl
            exact loop_58 ((cn - 0) + 1) 0 (by omega) (by first | assumption | (omega)) H locs hP hD hS ls (lv_sub hl [2, 3, 1, 0] rfl)
          · skip
            refine r_iconst hx hb dX5_findsRests_39 ?_
            refine lv_aload_n hx hb dX5_findsRests_40 rfl (lv_at hl 0 rfl) ?_
            refine va_get (D := D) (ci := 5) (v := .ref m1) (C := RX5) (T := TX5) (N := 17) hx hb hts nX5_findsRests_X5 hown hK hP 0 rfl rfl 0 (by decide) (hts _ kX5_findsRests_7) (fun _ h9 => h9) rfl dX5_findsRests_41 ?_
            refine r_sipush hx hb dX5_findsRests_44 (by decide) ?_
            refine lv_iload_n hx hb dX5_findsRests_47 rfl (lv_at hl 1 rfl) ?_
            refine r_iadd (v := ((500 + e1 : Nat) : Int)) hx hb (rfl) dX5_findsRests_48 ?_
            refine r_ialdV (v := (bs e1)) hx hb hK hP 1 0 rfl rfl (500 + e1) (rfl) (by omega) (by decide) (sF_bs (by omega)) dX5_findsRests_49 ?_
            refine r_shl1 hx hb ((bs e1).toNat) (by omega) (by omega) dX5_findsRests_50 ?_
            refine lv_goto (tgt := 55) hx hb dX5_findsRests_51 (by decide) ?_
            refine lv_istore_n (lv' := [(2, .int (iI ((2 ^ ((bs e1).toNat) : Nat) : Int))), (0, .ref hm), (1, .int (iI ((e1 : Nat) : Int)))]) hx hb dX5_findsRests_55 rfl hl (by decide) rfl (fun ls hl => ?_)
            refine r_iconst hx hb dX5_findsRests_56 ?_
            refine lv_istore_n (lv' := [(3, .int (iI 0)), (2, .int (iI ((2 ^ ((bs e1).toNat) : Nat) : Int))), (0, .ref hm), (1, .int (iI ((e1 : Nat) : Int)))]) hx hb dX5_findsRests_57 rfl hl (by decide) rfl (fun ls hl => ?_)
            have loop_58 : ∀ (n_58 : Nat) (k : Nat), (cn - k) < n_58 → (k ≤ cn) → ∀ (H : Heap) (locs : List Loc), va_P D vwCl [(hm, .inr (5, [.ref m1, .ref m2, .ref m3, .int (iI ((pa : Nat) : Int)), .int (iI ((pb : Nat) : Int)), .ref m4, .int (iI ((cp : Nat) : Int)), .ref m5, .int (iI ((ty : Nat) : Int)), .ref m6, .int (iI ((nx : Nat) : Int)), .int (iI (fi)), .int (iI (se)), .int (iI ((le : Nat) : Int)), .ref m7, .int (iI (bp)), .ref m8])), (m1, .inl (cI, 516, .inl (rI (sF cn en ac cu co au er ki bs)))), (m6, .inl (cI, 16, .inl (rN (rj))))] H → va_D A [(hm, .inr (5, [.ref m1, .ref m2, .ref m3, .int (iI ((pa : Nat) : Int)), .int (iI ((pb : Nat) : Int)), .ref m4, .int (iI ((cp : Nat) : Int)), .ref m5, .int (iI ((ty : Nat) : Int)), .ref m6, .int (iI ((nx : Nat) : Int)), .int (iI (fi)), .int (iI (se)), .int (iI ((le : Nat) : Int)), .ref m7, .int (iI (bp)), .ref m8])), (m1, .inl (cI, 516, .inl (rI (sF cn en ac cu co au er ki bs)))), (m6, .inl (cI, 16, .inl (rN (rj))))] → va_S A s.heap H locs → ∀ (ls : Array Slot), lv_has ls 5 [(0, .ref hm), (1, .int (iI ((e1 : Nat) : Int))), (2, .int (iI ((dir au er ki bs k e1 : Nat) : Int))), (3, .int (iI ((k : Nat) : Int)))] → W p l e ({ frames := 0, cells := 0, slots := 0, locals := 0 }) s m ([.ref hm] : List Value).toArray below meth c H locs 0 0 (MQ below (QX D (S := (Nat → Nat)) (fun u => none) (fun u => (∀ k, u k < 65536) ∧ (∀ k, k < en → u k = ba k)) (fun u => [(hm, .inr (5, [.ref m1, .ref m2, .ref m3, .int (iI ((pa : Nat) : Int)), .int (iI ((pb : Nat) : Int)), .ref m4, .int (iI ((cp : Nat) : Int)), .ref m5, .int (iI ((ty : Nat) : Int)), .ref m6, .int (iI ((nx : Nat) : Int)), .int (iI (fi)), .int (iI (se)), .int (iI ((le : Nat) : Int)), .ref m7, .int (iI (bp)), .ref m8])), (m1, .inl (cI, 516, .inl (rI (sF cn en ac cu co au er ki bs)))), (m6, .inl (cI, 16, .inl (rN (u))))]) A) ([.ref hm] : List Value).toArray s 0 0 A) (F0 m 58 ls []) := by
              intro n_58
              induction n_58 with
              | zero => intro k h_meas; exact absurd h_meas (Nat.not_lt_zero _)
              | succ n_58 ih_58 =>
                intro k h_m58 ik H locs hP hD hS ls hl
                have hauk := hau k
                have herk := her k
                have hsl := Nat.shiftRight_le (er k) e1
                have hsa := @Nat.and_le_left ((er k) >>> e1) 1
                have hb1 := tb1 (er k) e1
                have hb0 := tb0 (er k) e1
                refine lv_iload_n hx hb dX5_findsRests_58 rfl (lv_at hl 3 rfl) ?_
                refine lv_aload_n hx hb dX5_findsRests_59 rfl (lv_at hl 0 rfl) ?_
                refine va_get (D := D) (ci := 5) (v := .ref m1) (C := RX5) (T := TX5) (N := 17) hx hb hts nX5_findsRests_X5 hown hK hP 0 rfl rfl 0 (by decide) (hts _ kX5_findsRests_7) (fun _ h9 => h9) rfl dX5_findsRests_60 ?_
                refine r_iconst hx hb dX5_findsRests_63 ?_
                refine r_ialdV (v := ((cn : Nat) : Int)) hx hb hK hP 1 0 rfl rfl (0) (rfl) (by decide) (by decide) (rfl) dX5_findsRests_64 ?_
                refine r_icmp_ge (tgt := 137) hx hb (by omega) (by omega) dX5_findsRests_65 (by decide) (fun c_20 => ?_) (fun c_20 => ?_)
                · skip
                  obtain rfl : cn = k := by omega
                  refine lv_iload_n hx hb dX5_findsRests_137 rfl (lv_at hl 2 rfl) ?_
                  refine lv_istore_n (lv' := [(3, .int (iI ((dir au er ki bs cn e1 : Nat) : Int))), (0, .ref hm), (1, .int (iI ((e1 : Nat) : Int))), (2, .int (iI ((dir au er ki bs cn e1 : Nat) : Int)))]) hx hb dX5_findsRests_138 rfl hl (by decide) rfl (fun ls hl => ?_)
                  refine r_iconst hx hb dX5_findsRests_139 ?_
                  refine lv_istore (lv' := [(4, .int (iI 0)), (3, .int (iI ((dir au er ki bs cn e1 : Nat) : Int))), (0, .ref hm), (1, .int (iI ((e1 : Nat) : Int))), (2, .int (iI ((dir au er ki bs cn e1 : Nat) : Int)))]) hx hb dX5_findsRests_140 hl (by decide) rfl (fun ls hl => ?_)
                  have loop_142 : ∀ (n_142 : Nat) (b : Nat), (e1 - b) < n_142 → (b ≤ e1) → ∀ (H : Heap) (locs : List Loc), va_P D vwCl [(hm, .inr (5, [.ref m1, .ref m2, .ref m3, .int (iI ((pa : Nat) : Int)), .int (iI ((pb : Nat) : Int)), .ref m4, .int (iI ((cp : Nat) : Int)), .ref m5, .int (iI ((ty : Nat) : Int)), .ref m6, .int (iI ((nx : Nat) : Int)), .int (iI (fi)), .int (iI (se)), .int (iI ((le : Nat) : Int)), .ref m7, .int (iI (bp)), .ref m8])), (m1, .inl (cI, 516, .inl (rI (sF cn en ac cu co au er ki bs)))), (m6, .inl (cI, 16, .inl (rN (rj))))] H → va_D A [(hm, .inr (5, [.ref m1, .ref m2, .ref m3, .int (iI ((pa : Nat) : Int)), .int (iI ((pb : Nat) : Int)), .ref m4, .int (iI ((cp : Nat) : Int)), .ref m5, .int (iI ((ty : Nat) : Int)), .ref m6, .int (iI ((nx : Nat) : Int)), .int (iI (fi)), .int (iI (se)), .int (iI ((le : Nat) : Int)), .ref m7, .int (iI (bp)), .ref m8])), (m1, .inl (cI, 516, .inl (rI (sF cn en ac cu co au er ki bs)))), (m6, .inl (cI, 16, .inl (rN (rj))))] → va_S A s.heap H locs → ∀ (ls : Array Slot), lv_has ls 5 [(0, .ref hm), (1, .int (iI ((e1 : Nat) : Int))), (2, .int (iI ((dir au er ki bs cn e1 : Nat) : Int))), (3, .int (iI (((dir au er ki bs cn e1) ||| (thr rj (dir au er ki bs cn e1) b) : Nat) : Int))), (4, .int (iI ((b : Nat) : Int)))] → W p l e ({ frames := 0, cells := 0, slots := 0, locals := 0 }) s m ([.ref hm] : List Value).toArray below meth c H locs 0 0 (MQ below (QX D (S := (Nat → Nat)) (fun u => none) (fun u => (∀ k, u k < 65536) ∧ (∀ k, k < en → u k = ba k)) (fun u => [(hm, .inr (5, [.ref m1, .ref m2, .ref m3, .int (iI ((pa : Nat) : Int)), .int (iI ((pb : Nat) : Int)), .ref m4, .int (iI ((cp : Nat) : Int)), .ref m5, .int (iI ((ty : Nat) : Int)), .ref m6, .int (iI ((nx : Nat) : Int)), .int (iI (fi)), .int (iI (se)), .int (iI ((le : Nat) : Int)), .ref m7, .int (iI (bp)), .ref m8])), (m1, .inl (cI, 516, .inl (rI (sF cn en ac cu co au er ki bs)))), (m6, .inl (cI, 16, .inl (rN (u))))]) A) ([.ref hm] : List Value).toArray s 0 0 A) (F0 m 142 ls []) := by
                    intro n_142
                    induction n_142 with
                    | zero => intro b h_meas; exact absurd h_meas (Nat.not_lt_zero _)
                    | succ n_142 ih_142 =>
                      intro b h_m142 ib H locs hP hD hS ls hl
                      have hdl : dir au er ki bs cn e1 < 65536 := dir_lt hau hbs
                      have hsld := Nat.shiftRight_le (dir au er ki bs cn e1) b
                      have hsad := @Nat.and_le_left ((dir au er ki bs cn e1) >>> b) 1
                      have hb1d := tb1 (dir au er ki bs cn e1) b
                      have hb0d := tb0 (dir au er ki bs cn e1) b
                      refine lv_iload hx hb dX5_findsRests_142 (lv_at hl 4 rfl) ?_
                      refine lv_iload_n hx hb dX5_findsRests_144 rfl (lv_at hl 1 rfl) ?_
                      refine r_icmp_ge (tgt := 178) hx hb (by omega) (by omega) dX5_findsRests_145 (by decide) (fun c_21 => ?_) (fun c_21 => ?_)
                      · skip
                        refine lv_aload_n hx hb dX5_findsRests_178 rfl (lv_at hl 0 rfl) ?_
                        refine va_get (D := D) (ci := 5) (v := .ref m6) (C := RX5) (T := TX5) (N := 17) hx hb hts nX5_findsRests_X5 hown hK hP 0 rfl rfl 9 (by decide) (hts _ kX5_findsRests_34) (fun _ h9 => h9) rfl dX5_findsRests_179 ?_
                        refine lv_iload_n hx hb dX5_findsRests_182 rfl (lv_at hl 1 rfl) ?_
                        refine lv_iload_n hx hb dX5_findsRests_183 rfl (lv_at hl 3 rfl) ?_
                        refine r_iastN (v := ((dir au er ki bs cn e1) ||| (thr rj (dir au er ki bs cn e1) b))) hx hb hK hP hD hS 2 0 rfl rfl (e1) (rfl) (by omega) (by decide) dX5_findsRests_184 (fun H locs hP hD hS => ?_)
                        have hP : va_P D vwCl [(hm, .inr (5, [.ref m1, .ref m2, .ref m3, .int (iI ((pa : Nat) : Int)), .int (iI ((pb : Nat) : Int)), .ref m4, .int (iI ((cp : Nat) : Int)), .ref m5, .int (iI ((ty : Nat) : Int)), .ref m6, .int (iI ((nx : Nat) : Int)), .int (iI (fi)), .int (iI (se)), .int (iI ((le : Nat) : Int)), .ref m7, .int (iI (bp)), .ref m8])), (m1, .inl (cI, 516, .inl (rI (sF cn en ac cu co au er ki bs)))), (m6, .inl (cI, 16, .inl (rN (up rj e1 ((dir au er ki bs cn e1) ||| (thr rj (dir au er ki bs cn e1) b))))))] H := hP
                        have hD : va_D A [(hm, .inr (5, [.ref m1, .ref m2, .ref m3, .int (iI ((pa : Nat) : Int)), .int (iI ((pb : Nat) : Int)), .ref m4, .int (iI ((cp : Nat) : Int)), .ref m5, .int (iI ((ty : Nat) : Int)), .ref m6, .int (iI ((nx : Nat) : Int)), .int (iI (fi)), .int (iI (se)), .int (iI ((le : Nat) : Int)), .ref m7, .int (iI (bp)), .ref m8])), (m1, .inl (cI, 516, .inl (rI (sF cn en ac cu co au er ki bs)))), (m6, .inl (cI, 16, .inl (rN (up rj e1 ((dir au er ki bs cn e1) ||| (thr rj (dir au er ki bs cn e1) b))))))] := hD
                        refine lv_iinc (v := iI ((e1 + 1 : Nat) : Int)) (lv' := [(1, .int (iI ((e1 + 1 : Nat) : Int))), (0, .ref hm), (2, .int (iI ((dir au er ki bs cn e1 : Nat) : Int))), (3, .int (iI (((dir au er ki bs cn e1) ||| (thr rj (dir au er ki bs cn e1) b) : Nat) : Int))), (4, .int (iI ((b : Nat) : Int)))]) hx hb dX5_findsRests_185 hl (k := 1) rfl ((iI_add _ _).trans (ii (rfl))) (by decide) rfl (fun ls hl => ?_)
                        refine lv_goto (tgt := 2) hx hb dX5_findsRests_188 (by decide) ?_
                        have hww : ([(hm, .inr (5, [.ref m1, .ref m2, .ref m3, .int (iI ((pa : Nat) : Int)), .int (iI ((pb : Nat) : Int)), .ref m4, .int (iI ((cp : Nat) : Int)), .ref m5, .int (iI ((ty : Nat) : Int)), .ref m6, .int (iI ((nx : Nat) : Int)), .int (iI (fi)), .int (iI (se)), .int (iI ((le : Nat) : Int)), .ref m7, .int (iI (bp)), .ref m8])), (m1, .inl (cI, 516, .inl (rI (sF cn en ac cu co au er ki bs)))), (m6, .inl (cI, 16, .inl (rN (up rj e1 ((dir au er ki bs cn e1) ||| (thr rj (dir au er ki bs cn e1) b))))))] : va_W) = [(hm, .inr (5, [.ref m1, .ref m2, .ref m3, .int (iI ((pa : Nat) : Int)), .int (iI ((pb : Nat) : Int)), .ref m4, .int (iI ((cp : Nat) : Int)), .ref m5, .int (iI ((ty : Nat) : Int)), .ref m6, .int (iI ((nx : Nat) : Int)), .int (iI (fi)), .int (iI (se)), .int (iI ((le : Nat) : Int)), .ref m7, .int (iI (bp)), .ref m8])), (m1, .inl (cI, 516, .inl (rI (sF cn en ac cu co au er ki bs)))), (m6, .inl (cI, 16, .inl (rN ((up rj e1 ((dir au er ki bs cn e1) ||| (thr rj (dir au er ki bs cn e1) b)))))))] := by first | with_reducible rfl | simp
                        rw [hww] at hP hD
                        exact ih_2 (e1 + 1) (up rj e1 ((dir au er ki bs cn e1) ||| (thr rj (dir au er ki bs cn e1) b))) (by omega) (by first | assumption | (omega)) (by exact up_lt irl (or16 hdl (thr_lt irl))) (by intro q hq; by_cases hqe : q = e1; (rw [hqe, up_same, show b = e1 by omega, thr_congr irb]; exact (hrq e1 (by omega)).symm); (rw [up_ne _ _ hqe]; exact irb q (by omega))) H locs hP hD hS ls (lv_sub hl [1, 0] rfl)
                      · skip
                        refine lv_iload_n hx hb dX5_findsRests_148 rfl (lv_at hl 3 rfl) ?_
                        refine lv_iload_n hx hb dX5_findsRests_149 rfl (lv_at hl 2 rfl) ?_
                        refine lv_iload hx hb dX5_findsRests_150 (lv_at hl 4 rfl) ?_
                        refine r_ishr hx hb (dir au er ki bs cn e1) (b) (rfl) (rfl) (by omega) (by omega) dX5_findsRests_152 ?_
                        refine r_iconst hx hb dX5_findsRests_153 ?_
                        refine r_iand hx hb ((dir au er ki bs cn e1) >>> b) (1) (rfl) (rfl) dX5_findsRests_154 ?_
                        refine r_iconst hx hb dX5_findsRests_155 ?_
                        refine r_icmp_ne (tgt := 169) hx hb (rg_nat (Nat.le_trans hsad hsld) (by omega)) (⟨by decide, by decide⟩) dX5_findsRests_156 (by decide) (fun c_22 => ?_) (fun c_22 => ?_)
                        · skip
                          refine r_iconst hx hb dX5_findsRests_169 ?_
                          refine r_ior hx hb ((dir au er ki bs cn e1) ||| (thr rj (dir au er ki bs cn e1) b)) (0) (rfl) (rfl) dX5_findsRests_170 ?_
                          refine lv_istore_n (lv' := [(3, .int (iI ((((dir au er ki bs cn e1) ||| (thr rj (dir au er ki bs cn e1) b)) ||| 0 : Nat) : Int))), (0, .ref hm), (1, .int (iI ((e1 : Nat) : Int))), (2, .int (iI ((dir au er ki bs cn e1 : Nat) : Int))), (4, .int (iI ((b : Nat) : Int)))]) hx hb dX5_findsRests_171 rfl hl (by decide) rfl (fun ls hl => ?_)
                          refine lv_iinc (v := iI ((b + 1 : Nat) : Int)) (lv' := [(4, .int (iI ((b + 1 : Nat) : Int))), (3, .int (iI ((((dir au er ki bs cn e1) ||| (thr rj (dir au er ki bs cn e1) b)) ||| 0 : Nat) : Int))), (0, .ref hm), (1, .int (iI ((e1 : Nat) : Int))), (2, .int (iI ((dir au er ki bs cn e1 : Nat) : Int)))]) hx hb dX5_findsRests_172 hl (k := 4) rfl ((iI_add _ _).trans (ii (rfl))) (by decide) rfl (fun ls hl => ?_)
                          refine lv_goto (tgt := 142) hx hb dX5_findsRests_175 (by decide) ?_
                          have hl : lv_has ls 5 [(4, .int (iI ((b + 1 : Nat) : Int))), (3, .int (iI (((dir au er ki bs cn e1) ||| (thr rj (dir au er ki bs cn e1) (b + 1)) : Nat) : Int))), (0, .ref hm), (1, .int (iI ((e1 : Nat) : Int))), (2, .int (iI ((dir au er ki bs cn e1 : Nat) : Int)))] := lv_chg hl 1 3 rfl (show (((((dir au er ki bs cn e1) ||| (thr rj (dir au er ki bs cn e1) b)) ||| 0 : Nat) : Int) : Int) = (((dir au er ki bs cn e1) ||| (thr rj (dir au er ki bs cn e1) (b + 1)) : Nat) : Int) from by first | (rw [thr_t (hb1d.mp (by omega)), ← Nat.or_assoc]) | (rw [thr_f (fun q => by have q1 := hb1d.mpr q; omega), Nat.or_zero])) rfl
                          exact ih_142 (b + 1) (by omega) (by first | assumption | (omega)) H locs hP hD hS ls (lv_sub hl [2, 3, 4, 1, 0] rfl)
                        · skip
                          refine lv_aload_n hx hb dX5_findsRests_159 rfl (lv_at hl 0 rfl) ?_
                          refine va_get (D := D) (ci := 5) (v := .ref m6) (C := RX5) (T := TX5) (N := 17) hx hb hts nX5_findsRests_X5 hown hK hP 0 rfl rfl 9 (by decide) (hts _ kX5_findsRests_34) (fun _ h9 => h9) rfl dX5_findsRests_160 ?_
                          refine lv_iload hx hb dX5_findsRests_163 (lv_at hl 4 rfl) ?_
                          refine r_ialdN hx hb hK hP 2 0 rfl rfl (b) (rfl) (by omega) (by decide) dX5_findsRests_165 ?_
                          refine lv_goto (tgt := 170) hx hb dX5_findsRests_166 (by decide) ?_
                          refine r_ior hx hb ((dir au er ki bs cn e1) ||| (thr rj (dir au er ki bs cn e1) b)) (rj b) (rfl) (rfl) dX5_findsRests_170 ?_
                          refine lv_istore_n (lv' := [(3, .int (iI ((((dir au er ki bs cn e1) ||| (thr rj (dir au er ki bs cn e1) b)) ||| (rj b) : Nat) : Int))), (0, .ref hm), (1, .int (iI ((e1 : Nat) : Int))), (2, .int (iI ((dir au er ki bs cn e1 : Nat) : Int))), (4, .int (iI ((b : Nat) : Int)))]) hx hb dX5_findsRests_171 rfl hl (by decide) rfl (fun ls hl => ?_)
                          refine lv_iinc (v := iI ((b + 1 : Nat) : Int)) (lv' := [(4, .int (iI ((b + 1 : Nat) : Int))), (3, .int (iI ((((dir au er ki bs cn e1) ||| (thr rj (dir au er ki bs cn e1) b)) ||| (rj b) : Nat) : Int))), (0, .ref hm), (1, .int (iI ((e1 : Nat) : Int))), (2, .int (iI ((dir au er ki bs cn e1 : Nat) : Int)))]) hx hb dX5_findsRests_172 hl (k := 4) rfl ((iI_add _ _).trans (ii (rfl))) (by decide) rfl (fun ls hl => ?_)
                          refine lv_goto (tgt := 142) hx hb dX5_findsRests_175 (by decide) ?_
                          have hl : lv_has ls 5 [(4, .int (iI ((b + 1 : Nat) : Int))), (3, .int (iI (((dir au er ki bs cn e1) ||| (thr rj (dir au er ki bs cn e1) (b + 1)) : Nat) : Int))), (0, .ref hm), (1, .int (iI ((e1 : Nat) : Int))), (2, .int (iI ((dir au er ki bs cn e1 : Nat) : Int)))] := lv_chg hl 1 3 rfl (show (((((dir au er ki bs cn e1) ||| (thr rj (dir au er ki bs cn e1) b)) ||| (rj b) : Nat) : Int) : Int) = (((dir au er ki bs cn e1) ||| (thr rj (dir au er ki bs cn e1) (b + 1)) : Nat) : Int) from by first | (rw [thr_t (hb1d.mp (by omega)), ← Nat.or_assoc]) | (rw [thr_f (fun q => by have q1 := hb1d.mpr q; omega), Nat.or_zero])) rfl
                          exact ih_142 (b + 1) (by omega) (by first | assumption | (omega)) H locs hP hD hS ls (lv_sub hl [2, 3, 4, 1, 0] rfl)
                  have hl : lv_has ls 5 [(4, .int (iI 0)), (3, .int (iI (((dir au er ki bs cn e1) ||| (thr rj (dir au er ki bs cn e1) 0) : Nat) : Int))), (0, .ref hm), (1, .int (iI ((e1 : Nat) : Int))), (2, .int (iI ((dir au er ki bs cn e1 : Nat) : Int)))] := lv_chg hl 1 3 rfl (show (((dir au er ki bs cn e1 : Nat) : Int) : Int) = (((dir au er ki bs cn e1) ||| (thr rj (dir au er ki bs cn e1) 0) : Nat) : Int) from by exact congrArg _ (Nat.or_zero _).symm) rfl
                  exact loop_142 ((e1 - 0) + 1) 0 (by omega) (by first | assumption | (omega)) H locs hP hD hS ls (lv_sub hl [2, 3, 4, 1, 0] rfl)
                · skip
                  refine lv_aload_n hx hb dX5_findsRests_68 rfl (lv_at hl 0 rfl) ?_
                  refine va_get (D := D) (ci := 5) (v := .ref m1) (C := RX5) (T := TX5) (N := 17) hx hb hts nX5_findsRests_X5 hown hK hP 0 rfl rfl 0 (by decide) (hts _ kX5_findsRests_7) (fun _ h9 => h9) rfl dX5_findsRests_69 ?_
                  refine r_sipush hx hb dX5_findsRests_72 (by decide) ?_
                  refine lv_iload_n hx hb dX5_findsRests_75 rfl (lv_at hl 3 rfl) ?_
                  refine r_iadd (v := ((324 + k : Nat) : Int)) hx hb (rfl) dX5_findsRests_76 ?_
                  refine r_ialdV (v := ((er k : Nat) : Int)) hx hb hK hP 1 0 rfl rfl (324 + k) (rfl) (by omega) (by decide) (sF_er (by omega)) dX5_findsRests_77 ?_
                  refine lv_iload_n hx hb dX5_findsRests_78 rfl (lv_at hl 1 rfl) ?_
                  refine r_ishr hx hb (er k) (e1) (rfl) (rfl) (by omega) (by omega) dX5_findsRests_79 ?_
                  refine r_iconst hx hb dX5_findsRests_80 ?_
                  refine r_iand hx hb ((er k) >>> e1) (1) (rfl) (rfl) dX5_findsRests_81 ?_
                  refine r_iconst hx hb dX5_findsRests_82 ?_
                  refine r_icmp_ne (tgt := 104) hx hb (by omega) (⟨by decide, by decide⟩) dX5_findsRests_83 (by decide) (fun c_23 => ?_) (fun c_23 => ?_)
                  · skip
                    refine r_iconst hx hb dX5_findsRests_104 ?_
                    refine lv_istore (lv' := [(4, .int (iI 0)), (0, .ref hm), (1, .int (iI ((e1 : Nat) : Int))), (2, .int (iI ((dir au er ki bs k e1 : Nat) : Int))), (3, .int (iI ((k : Nat) : Int)))]) hx hb dX5_findsRests_105 hl (by decide) rfl (fun ls hl => ?_)
                    refine lv_iload_n hx hb dX5_findsRests_107 rfl (lv_at hl 3 rfl) ?_
                    refine lv_iload hx hb dX5_findsRests_108 (lv_at hl 0 rfl) ?_
                    refine r_if_eq (tgt := 128) hx hb (⟨by decide, by decide⟩) dX5_findsRests_110 (by decide) (fun c_24 => ?_) (fun c_24 => ?_)
                    · skip
                      refine r_iconst hx hb dX5_findsRests_128 ?_
                      refine r_ior hx hb (dir au er ki bs k e1) (0) (rfl) (rfl) dX5_findsRests_129 ?_
                      refine lv_istore_n (lv' := [(2, .int (iI (((dir au er ki bs k e1) ||| 0 : Nat) : Int))), (4, .int (iI 0)), (0, .ref hm), (1, .int (iI ((e1 : Nat) : Int))), (3, .int (iI ((k : Nat) : Int)))]) hx hb dX5_findsRests_130 rfl hl (by decide) rfl (fun ls hl => ?_)
                      refine lv_iinc (v := iI ((k + 1 : Nat) : Int)) (lv' := [(3, .int (iI ((k + 1 : Nat) : Int))), (2, .int (iI (((dir au er ki bs k e1) ||| 0 : Nat) : Int))), (4, .int (iI 0)), (0, .ref hm), (1, .int (iI ((e1 : Nat) : Int)))]) hx hb dX5_findsRests_131 hl (k := 4) rfl ((iI_add _ _).trans (ii (rfl))) (by decide) rfl (fun ls hl => ?_)
                      refine lv_goto (tgt := 58) hx hb dX5_findsRests_134 (by decide) ?_
                      have hl : lv_has ls 5 [(3, .int (iI ((k + 1 : Nat) : Int))), (2, .int (iI ((dir au er ki bs (k + 1) e1 : Nat) : Int))), (4, .int (iI 0)), (0, .ref hm), (1, .int (iI ((e1 : Nat) : Int)))] := lv_chg hl 1 2 rfl (show ((((dir au er ki bs k e1) ||| 0 : Nat) : Int) : Int) = ((dir au er ki bs (k + 1) e1 : Nat) : Int) from by first | (rw [dir_s1 (hb1.mp (by omega)) (by omega)]) | (rw [dir_s0 (fun q => by have q1 := hb1.mpr q.1; have q2 := q.2; omega), Nat.or_zero])) rfl
                      exact ih_58 (k + 1) (by omega) (by first | assumption | (omega)) H locs hP hD hS ls (lv_sub hl [3, 4, 1, 0] rfl)
                    · skip
                      exact absurd c_24 (by decide)
                  · skip
                    refine lv_aload_n hx hb dX5_findsRests_86 rfl (lv_at hl 0 rfl) ?_
                    refine va_get (D := D) (ci := 5) (v := .ref m1) (C := RX5) (T := TX5) (N := 17) hx hb hts nX5_findsRests_X5 hown hK hP 0 rfl rfl 0 (by decide) (hts _ kX5_findsRests_7) (fun _ h9 => h9) rfl dX5_findsRests_87 ?_
                    refine r_sipush hx hb dX5_findsRests_90 (by decide) ?_
                    refine lv_iload_n hx hb dX5_findsRests_93 rfl (lv_at hl 3 rfl) ?_
                    refine r_iadd (v := ((164 + k : Nat) : Int)) hx hb (rfl) dX5_findsRests_94 ?_
                    refine r_ialdV (v := (au k)) hx hb hK hP 1 0 rfl rfl (164 + k) (rfl) (by omega) (by decide) (sF_au (by omega)) dX5_findsRests_95 ?_
                    refine r_iconst hx hb dX5_findsRests_96 ?_
                    refine r_icmp_eq (tgt := 104) hx hb (by omega) (⟨by decide, by decide⟩) dX5_findsRests_97 (by decide) (fun c_25 => ?_) (fun c_25 => ?_)
                    · skip
                      refine r_iconst hx hb dX5_findsRests_104 ?_
                      refine lv_istore (lv' := [(4, .int (iI 0)), (0, .ref hm), (1, .int (iI ((e1 : Nat) : Int))), (2, .int (iI ((dir au er ki bs k e1 : Nat) : Int))), (3, .int (iI ((k : Nat) : Int)))]) hx hb dX5_findsRests_105 hl (by decide) rfl (fun ls hl => ?_)
                      refine lv_iload_n hx hb dX5_findsRests_107 rfl (lv_at hl 3 rfl) ?_
                      refine lv_iload hx hb dX5_findsRests_108 (lv_at hl 0 rfl) ?_
                      refine r_if_eq (tgt := 128) hx hb (⟨by decide, by decide⟩) dX5_findsRests_110 (by decide) (fun c_26 => ?_) (fun c_26 => ?_)
                      · skip
                        refine r_iconst hx hb dX5_findsRests_128 ?_
                        refine r_ior hx hb (dir au er ki bs k e1) (0) (rfl) (rfl) dX5_findsRests_129 ?_
                        refine lv_istore_n (lv' := [(2, .int (iI (((dir au er ki bs k e1) ||| 0 : Nat) : Int))), (4, .int (iI 0)), (0, .ref hm), (1, .int (iI ((e1 : Nat) : Int))), (3, .int (iI ((k : Nat) : Int)))]) hx hb dX5_findsRests_130 rfl hl (by decide) rfl (fun ls hl => ?_)
                        refine lv_iinc (v := iI ((k + 1 : Nat) : Int)) (lv' := [(3, .int (iI ((k + 1 : Nat) : Int))), (2, .int (iI (((dir au er ki bs k e1) ||| 0 : Nat) : Int))), (4, .int (iI 0)), (0, .ref hm), (1, .int (iI ((e1 : Nat) : Int)))]) hx hb dX5_findsRests_131 hl (k := 4) rfl ((iI_add _ _).trans (ii (rfl))) (by decide) rfl (fun ls hl => ?_)
                        refine lv_goto (tgt := 58) hx hb dX5_findsRests_134 (by decide) ?_
                        have hl : lv_has ls 5 [(3, .int (iI ((k + 1 : Nat) : Int))), (2, .int (iI ((dir au er ki bs (k + 1) e1 : Nat) : Int))), (4, .int (iI 0)), (0, .ref hm), (1, .int (iI ((e1 : Nat) : Int)))] := lv_chg hl 1 2 rfl (show ((((dir au er ki bs k e1) ||| 0 : Nat) : Int) : Int) = ((dir au er ki bs (k + 1) e1 : Nat) : Int) from by first | (rw [dir_s1 (hb1.mp (by omega)) (by omega)]) | (rw [dir_s0 (fun q => by have q1 := hb1.mpr q.1; have q2 := q.2; omega), Nat.or_zero])) rfl
                        exact ih_58 (k + 1) (by omega) (by first | assumption | (omega)) H locs hP hD hS ls (lv_sub hl [3, 4, 1, 0] rfl)
                      · skip
                        exact absurd c_26 (by decide)
                    · skip
                      refine r_iconst hx hb dX5_findsRests_100 ?_
                      refine lv_goto (tgt := 105) hx hb dX5_findsRests_101 (by decide) ?_
                      refine lv_istore (lv' := [(4, .int (iI 1)), (0, .ref hm), (1, .int (iI ((e1 : Nat) : Int))), (2, .int (iI ((dir au er ki bs k e1 : Nat) : Int))), (3, .int (iI ((k : Nat) : Int)))]) hx hb dX5_findsRests_105 hl (by decide) rfl (fun ls hl => ?_)
                      refine lv_iload_n hx hb dX5_findsRests_107 rfl (lv_at hl 3 rfl) ?_
                      refine lv_iload hx hb dX5_findsRests_108 (lv_at hl 0 rfl) ?_
                      refine r_if_eq (tgt := 128) hx hb (⟨by decide, by decide⟩) dX5_findsRests_110 (by decide) (fun c_27 => ?_) (fun c_27 => ?_)
                      · skip
                        exact absurd c_27 (by decide)
                      · skip
                        refine r_iconst hx hb dX5_findsRests_113 ?_
                        refine lv_aload_n hx hb dX5_findsRests_114 rfl (lv_at hl 1 rfl) ?_
                        refine va_get (D := D) (ci := 5) (v := .ref m1) (C := RX5) (T := TX5) (N := 17) hx hb hts nX5_findsRests_X5 hown hK hP 0 rfl rfl 0 (by decide) (hts _ kX5_findsRests_7) (fun _ h9 => h9) rfl dX5_findsRests_115 ?_
                        refine r_sipush hx hb dX5_findsRests_118 (by decide) ?_
                        refine lv_iload_n hx hb dX5_findsRests_121 rfl (lv_at hl 4 rfl) ?_
                        refine r_iadd (v := ((164 + k : Nat) : Int)) hx hb (rfl) dX5_findsRests_122 ?_
                        refine r_ialdV (v := (au k)) hx hb hK hP 1 0 rfl rfl (164 + k) (rfl) (by omega) (by decide) (sF_au (by omega)) dX5_findsRests_123 ?_
                        refine r_shl1 hx hb ((au k).toNat) (by omega) (by omega) dX5_findsRests_124 ?_
                        refine lv_goto (tgt := 129) hx hb dX5_findsRests_125 (by decide) ?_
                        refine r_ior hx hb (dir au er ki bs k e1) (2 ^ ((au k).toNat)) (rfl) (rfl) dX5_findsRests_129 ?_
                        refine lv_istore_n (lv' := [(2, .int (iI (((dir au er ki bs k e1) ||| (2 ^ ((au k).toNat)) : Nat) : Int))), (4, .int (iI 1)), (0, .ref hm), (1, .int (iI ((e1 : Nat) : Int))), (3, .int (iI ((k : Nat) : Int)))]) hx hb dX5_findsRests_130 rfl hl (by decide) rfl (fun ls hl => ?_)
                        refine lv_iinc (v := iI ((k + 1 : Nat) : Int)) (lv' := [(3, .int (iI ((k + 1 : Nat) : Int))), (2, .int (iI (((dir au er ki bs k e1) ||| (2 ^ ((au k).toNat)) : Nat) : Int))), (4, .int (iI 1)), (0, .ref hm), (1, .int (iI ((e1 : Nat) : Int)))]) hx hb dX5_findsRests_131 hl (k := 4) rfl ((iI_add _ _).trans (ii (rfl))) (by decide) rfl (fun ls hl => ?_)
                        refine lv_goto (tgt := 58) hx hb dX5_findsRests_134 (by decide) ?_
                        have hl : lv_has ls 5 [(3, .int (iI ((k + 1 : Nat) : Int))), (2, .int (iI ((dir au er ki bs (k + 1) e1 : Nat) : Int))), (4, .int (iI 1)), (0, .ref hm), (1, .int (iI ((e1 : Nat) : Int)))] := lv_chg hl 1 2 rfl (show ((((dir au er ki bs k e1) ||| (2 ^ ((au k).toNat)) : Nat) : Int) : Int) = ((dir au er ki bs (k + 1) e1 : Nat) : Int) from by first | (rw [dir_s1 (hb1.mp (by omega)) (by omega)]) | (rw [dir_s0 (fun q => by have q1 := hb1.mpr q.1; have q2 := q.2; omega), Nat.or_zero])) rfl
                        exact ih_58 (k + 1) (by omega) (by first | assumption | (omega)) H locs hP hD hS ls (lv_sub hl [3, 4, 1, 0] rfl)
            have hl : lv_has ls 5 [(3, .int (iI 0)), (2, .int (iI ((dir au er ki bs 0 e1 : Nat) : Int))), (0, .ref hm), (1, .int (iI ((e1 : Nat) : Int)))] := lv_chg hl 1 2 rfl (show (((2 ^ ((bs e1).toNat) : Nat) : Int) : Int) = ((dir au er ki bs 0 e1 : Nat) : Int) from by first | (rw [dir_a (by omega) (by omega)]) | (rw [dir_b (by omega)]; rfl)) rfl
            exact loop_58 ((cn - 0) + 1) 0 (by omega) (by first | assumption | (omega)) H locs hP hD hS ls (lv_sub hl [2, 3, 1, 0] rfl)
  exact loop_2 ((en - 0) + 1) 0 re (by omega) (by first | assumption | (omega)) (by first | assumption | (omega)) (by intro k hk; omega) s.heap [] hP hD hS ls (lv_sub hl [1, 0] rfl)
