theorem kX0_commutingPairs_50 : Cond.fieldLink RX0 50 "PricedUndo$Buffer" "edits" "I" ∈ wsX0_commutingPairs := by decide +kernel
theorem nX0_commutingPairs_X0 : ∀ w ∈ u_ws RX0 TX0 11, w ∈ wsX0_commutingPairs := by decide +kernel
set_option maxHeartbeats 4000000 in
set_option maxRecDepth 100000 in
theorem c_commutingPairs (l : Launch) (D : va_G) (cI cB cZ cO : ClassId) (h : Nat) (a1 : Nat) (a2 : Nat) (a3 : Nat) (a4 : Nat) (a5 : Nat) (tt : Nat) (ln : Nat) (ed : Nat) (es : Nat) (ac : Nat) (cu : Nat) (ba : Nat → Nat) (hed : ed ≤ 16) (hba : ∀ k, ba k < 65536) : Met l yX0_commutingPairs wsX0_commutingPairs ({ frames := 3, cells := 0, slots := 0, locals := 64 }) (va_Pc [.ref h] (RO D cI cB cZ cO [(h, .inr (0, [.ref a1, .ref a2, .ref a3, .int (iI ((tt : Nat) : Int)), .ref a4, .int (iI ((ln : Nat) : Int)), .ref a5, .int (iI ((ed : Nat) : Int)), .int (iI ((es : Nat) : Int)), .int (iI ((ac : Nat) : Int)), .int (iI ((cu : Nat) : Int))])), (a5, .inl (cI, 16, .inl (rN (ba))))])) (QO ((cpF ba ed : Nat) : Int)) 0 0 (fun _ => False) := by
  refine startO (cc := cX0_commutingPairs) (maxL := 4) (ret := (some .int)) (by decide) rfl (Nat.le_of_ble_eq_true rfl) ?_
  intro p e s m below meth c S hr hlocks hE hP ls hl
  have hx := S.1
  have hb := S.2.1
  have hown := S.2.2.2.1
  have hts := S.2.2.2.2
  have hK := hE.1
  have hl : lv_has ls 4 [(0, .ref h)] := hl
  refine r_iconst hx hb dX0_commutingPairs_0 ?_
  refine lv_istore_n (lv' := [(1, .int (iI 0)), (0, .ref h)]) hx hb dX0_commutingPairs_1 rfl hl (by decide) rfl (fun ls hl => ?_)
  refine r_iconst hx hb dX0_commutingPairs_2 ?_
  refine lv_istore_n (lv' := [(2, .int (iI 0)), (1, .int (iI 0)), (0, .ref h)]) hx hb dX0_commutingPairs_3 rfl hl (by decide) rfl (fun ls hl => ?_)
  have loop_4 : ∀ (n_4 : Nat) (k : Nat), (ed - k) < n_4 → (k ≤ ed) → ∀ (ls : Array Slot), lv_has ls 4 [(0, .ref h), (1, .int (iI ((cpF ba k : Nat) : Int))), (2, .int (iI ((k : Nat) : Int)))] → W p l e ({ frames := 3, cells := 0, slots := 0, locals := 64 }) s m ([.ref h] : List Value).toArray below meth c s.heap [] 0 0 (MQ below (QO ((cpF ba ed : Nat) : Int)) ([.ref h] : List Value).toArray s 0 0 (fun _ => False)) (F0 m 4 ls []) := by
    intro n_4
    induction n_4 with
    | zero => intro k h_meas; exact absurd h_meas (Nat.not_lt_zero _)
    | succ n_4 ih_4 =>
      intro k h_m4 ik ls hl
      refine lv_iload_n hx hb dX0_commutingPairs_4 rfl (lv_at hl 2 rfl) ?_
      refine lv_aload_n hx hb dX0_commutingPairs_5 rfl (lv_at hl 0 rfl) ?_
      refine va_get (D := D) (ci := 0) (v := .int (iI ((ed : Nat) : Int))) (C := RX0) (T := TX0) (N := 11) hx hb hts nX0_commutingPairs_X0 hown hK hP 0 rfl rfl 7 (by decide) (hts _ kX0_commutingPairs_50) (fun _ h9 => h9) rfl dX0_commutingPairs_6 ?_
      refine r_icmp_ge (tgt := 43) hx hb (by first | omega | (rw [show k = ed by omega])) (by first | omega | (rw [show k = ed by omega])) dX0_commutingPairs_9 (by decide) (fun c_1 => ?_) (fun c_1 => ?_)
      · skip
        refine lv_iload_n hx hb dX0_commutingPairs_43 rfl (lv_at hl 1 rfl) ?_
        exact r_iretO hx hb hr hlocks (by first | omega | (rw [show k = ed by omega])) dX0_commutingPairs_44
      · skip
        refine r_iconst hx hb dX0_commutingPairs_12 ?_
        refine lv_istore_n (lv' := [(3, .int (iI 0)), (0, .ref h), (1, .int (iI ((cpF ba k : Nat) : Int))), (2, .int (iI ((k : Nat) : Int)))]) hx hb dX0_commutingPairs_13 rfl hl (by decide) rfl (fun ls hl => ?_)
        have loop_14 : ∀ (n_14 : Nat) (j : Nat), (k - j) < n_14 → (j ≤ k) → ∀ (ls : Array Slot), lv_has ls 4 [(0, .ref h), (1, .int (iI ((cpF ba k + cnt (freb ba k) j : Nat) : Int))), (2, .int (iI ((k : Nat) : Int))), (3, .int (iI ((j : Nat) : Int)))] → W p l e ({ frames := 3, cells := 0, slots := 0, locals := 64 }) s m ([.ref h] : List Value).toArray below meth c s.heap [] 0 0 (MQ below (QO ((cpF ba ed : Nat) : Int)) ([.ref h] : List Value).toArray s 0 0 (fun _ => False)) (F0 m 14 ls []) := by
          intro n_14
          induction n_14 with
          | zero => intro j h_meas; exact absurd h_meas (Nat.not_lt_zero _)
          | succ n_14 ih_14 =>
            intro j h_m14 ij ls hl
            refine lv_iload_n hx hb dX0_commutingPairs_14 rfl (lv_at hl 3 rfl) ?_
            refine lv_iload_n hx hb dX0_commutingPairs_15 rfl (lv_at hl 2 rfl) ?_
            refine r_icmp_ge (tgt := 37) hx hb (by first | omega | (rw [show k = ed by omega])) (by first | omega | (rw [show k = ed by omega])) dX0_commutingPairs_16 (by decide) (fun c_2 => ?_) (fun c_2 => ?_)
            · skip
              refine lv_iinc (v := iI ((k + 1 : Nat) : Int)) (lv' := [(2, .int (iI ((k + 1 : Nat) : Int))), (0, .ref h), (1, .int (iI ((cpF ba k + cnt (freb ba k) j : Nat) : Int))), (3, .int (iI ((j : Nat) : Int)))]) hx hb dX0_commutingPairs_37 hl (k := 2) rfl ((iI_add _ _).trans (ii (rfl))) (by decide) rfl (fun ls hl => ?_)
              refine lv_goto (tgt := 4) hx hb dX0_commutingPairs_40 (by decide) ?_
              have hl : lv_has ls 4 [(2, .int (iI ((k + 1 : Nat) : Int))), (0, .ref h), (1, .int (iI ((cpF ba (k + 1) : Nat) : Int))), (3, .int (iI ((j : Nat) : Int)))] := lv_chg hl 2 1 rfl (show (((cpF ba k + cnt (freb ba k) j : Nat) : Int) : Int) = ((cpF ba (k + 1) : Nat) : Int) from by rw [show j = k by omega]; rfl) rfl
              exact ih_4 (k + 1) (by first | omega | (rw [show k = ed by omega])) (by first | assumption | (first | omega | (rw [show k = ed by omega]))) ls (lv_sub hl [1, 2, 0] rfl)
            · skip
              refine lv_aload_n hx hb dX0_commutingPairs_19 rfl (lv_at hl 0 rfl) ?_
              refine lv_iload_n hx hb dX0_commutingPairs_20 rfl (lv_at hl 3 rfl) ?_
              refine lv_iload_n hx hb dX0_commutingPairs_21 rfl (lv_at hl 2 rfl) ?_
              refine callVO (n := 2) (As := [.int (iI ((j : Nat) : Int)), .int (iI ((k : Nat) : Int))]) (rest := []) (wc := [(h, .inr (0, [.ref a1, .ref a2, .ref a3, .int (iI ((tt : Nat) : Int)), .ref a4, .int (iI ((ln : Nat) : Int)), .ref a5, .int (iI ((ed : Nat) : Int)), .int (iI ((es : Nat) : Int)), .int (iI ((ac : Nat) : Int)), .int (iI ((cu : Nat) : Int))])), (a5, .inl (cI, 16, .inl (rN (ba))))]) S (c_areFree l D cI cB cZ cO h a1 a2 a3 a4 a5 tt ln ed es ac cu ba j k (by first | assumption | (first | omega | (rw [show k = ed by omega]))) (by first | assumption | (first | omega | (rw [show k = ed by omega]))) (by first | assumption | (first | omega | (rw [show k = ed by omega]))) (by first | assumption | (first | omega | (rw [show k = ed by omega])))) gX0_commutingPairs_X0_areFree rfl ⟨rfl, rfl⟩ (by decide +kernel) ⟨Nat.le_of_ble_eq_true rfl, Nat.le_of_ble_eq_true rfl⟩ hE hP [0, 1] rfl 0 0 rfl rfl rfl hl.1 rfl (Nat.le_of_ble_eq_true rfl) dX0_commutingPairs_22 ⟨Nat.le_of_ble_eq_true rfl, Nat.le_of_ble_eq_true rfl⟩ ?_
              refine r_ifb_eq (tgt := 31) hx hb dX0_commutingPairs_25 (by decide) (fun c_3 => ?_) (fun c_3 => ?_)
              · skip
                refine lv_iinc (v := iI ((j + 1 : Nat) : Int)) (lv' := [(3, .int (iI ((j + 1 : Nat) : Int))), (0, .ref h), (1, .int (iI ((cpF ba k + cnt (freb ba k) j : Nat) : Int))), (2, .int (iI ((k : Nat) : Int)))]) hx hb dX0_commutingPairs_31 hl (k := 3) rfl ((iI_add _ _).trans (ii (rfl))) (by decide) rfl (fun ls hl => ?_)
                refine lv_goto (tgt := 14) hx hb dX0_commutingPairs_34 (by decide) ?_
                have hl : lv_has ls 4 [(3, .int (iI ((j + 1 : Nat) : Int))), (0, .ref h), (1, .int (iI ((cpF ba k + cnt (freb ba k) (j + 1) : Nat) : Int))), (2, .int (iI ((k : Nat) : Int)))] := lv_chg hl 2 1 rfl (show (((cpF ba k + cnt (freb ba k) j : Nat) : Int) : Int) = ((cpF ba k + cnt (freb ba k) (j + 1) : Nat) : Int) from by first | (rw [cnt_t (show freb ba k j = true from decide_eq_true (by assumption))]; rfl) | (rw [cnt_f (show ¬ freb ba k j = true from fun q => (by assumption : ¬ fre ba j k) (of_decide_eq_true q))])) rfl
                exact ih_14 (j + 1) (by first | omega | (rw [show k = ed by omega])) (by first | assumption | (first | omega | (rw [show k = ed by omega]))) ls (lv_sub hl [1, 2, 3, 0] rfl)
              · skip
                refine lv_iinc (v := iI (((cpF ba k + cnt (freb ba k) j) + 1 : Nat) : Int)) (lv' := [(1, .int (iI (((cpF ba k + cnt (freb ba k) j) + 1 : Nat) : Int))), (0, .ref h), (2, .int (iI ((k : Nat) : Int))), (3, .int (iI ((j : Nat) : Int)))]) hx hb dX0_commutingPairs_28 hl (k := 1) rfl ((iI_add _ _).trans (ii (rfl))) (by decide) rfl (fun ls hl => ?_)
                refine lv_iinc (v := iI ((j + 1 : Nat) : Int)) (lv' := [(3, .int (iI ((j + 1 : Nat) : Int))), (1, .int (iI (((cpF ba k + cnt (freb ba k) j) + 1 : Nat) : Int))), (0, .ref h), (2, .int (iI ((k : Nat) : Int)))]) hx hb dX0_commutingPairs_31 hl (k := 3) rfl ((iI_add _ _).trans (ii (rfl))) (by decide) rfl (fun ls hl => ?_)
                refine lv_goto (tgt := 14) hx hb dX0_commutingPairs_34 (by decide) ?_
                have hl : lv_has ls 4 [(3, .int (iI ((j + 1 : Nat) : Int))), (1, .int (iI ((cpF ba k + cnt (freb ba k) (j + 1) : Nat) : Int))), (0, .ref h), (2, .int (iI ((k : Nat) : Int)))] := lv_chg hl 1 1 rfl (show ((((cpF ba k + cnt (freb ba k) j) + 1 : Nat) : Int) : Int) = ((cpF ba k + cnt (freb ba k) (j + 1) : Nat) : Int) from by first | (rw [cnt_t (show freb ba k j = true from decide_eq_true (by assumption))]; rfl) | (rw [cnt_f (show ¬ freb ba k j = true from fun q => (by assumption : ¬ fre ba j k) (of_decide_eq_true q))])) rfl
                exact ih_14 (j + 1) (by first | omega | (rw [show k = ed by omega])) (by first | assumption | (first | omega | (rw [show k = ed by omega]))) ls (lv_sub hl [2, 1, 3, 0] rfl)
        have hl : lv_has ls 4 [(3, .int (iI 0)), (0, .ref h), (1, .int (iI ((cpF ba k + cnt (freb ba k) 0 : Nat) : Int))), (2, .int (iI ((k : Nat) : Int)))] := lv_chg hl 2 1 rfl (show (((cpF ba k : Nat) : Int) : Int) = ((cpF ba k + cnt (freb ba k) 0 : Nat) : Int) from by rfl) rfl
        exact loop_14 ((k - 0) + 1) 0 (by first | omega | (rw [show k = ed by omega])) (by first | assumption | (first | omega | (rw [show k = ed by omega]))) ls (lv_sub hl [1, 2, 3, 0] rfl)
  have hl : lv_has ls 4 [(2, .int (iI 0)), (1, .int (iI ((cpF ba 0 : Nat) : Int))), (0, .ref h)] := lv_chg hl 1 1 rfl (show (0 : Int) = ((cpF ba 0 : Nat) : Int) from by rfl) rfl
  exact loop_4 ((ed - 0) + 1) 0 (by first | omega | (rw [show k = ed by omega])) (by first | assumption | (first | omega | (rw [show k = ed by omega]))) ls (lv_sub hl [2, 1, 0] rfl)

theorem kX0_touched_15 : Cond.fieldLink RX0 15 "PricedUndo$Buffer" "owners" "[I" ∈ wsX0_touched := by decide +kernel
theorem nX0_touched_X0 : ∀ w ∈ u_ws RX0 TX0 11, w ∈ wsX0_touched := by decide +kernel
theorem kX0_touched_18 : Cond.fieldLink RX0 18 "PricedUndo$Buffer" "erasers" "[I" ∈ wsX0_touched := by decide +kernel
theorem iX0_touched_X4 : Cond.initialized RX4 ∈ wsX0_touched := by decide +kernel
theorem sX0_touched_X4_has : Cond.static yX4_has ∈ wsX0_touched := by decide +kernel
set_option maxHeartbeats 4000000 in
set_option maxRecDepth 100000 in
theorem c_touched (l : Launch) (D : va_G) (cI cB cZ cO : ClassId) (h : Nat) (a1 : Nat) (a2 : Nat) (a3 : Nat) (a4 : Nat) (a5 : Nat) (tt : Nat) (ln : Nat) (ed : Nat) (es : Nat) (ac : Nat) (cu : Nat) (ow : Nat → Nat) (er : Nat → Nat) (k : Nat) (e1 : Nat) (hk : k < 160) (he1 : e1 < 31) (how : ∀ k, ow k < 65536) (her : ∀ k, er k < 65536) : Met l yX0_touched wsX0_touched ({ frames := 1, cells := 0, slots := 0, locals := 21 }) (va_Pc [.ref h, .int (iI ((k : Nat) : Int)), .int (iI ((e1 : Nat) : Int))] (RO D cI cB cZ cO [(h, .inr (0, [.ref a1, .ref a2, .ref a3, .int (iI ((tt : Nat) : Int)), .ref a4, .int (iI ((ln : Nat) : Int)), .ref a5, .int (iI ((ed : Nat) : Int)), .int (iI ((es : Nat) : Int)), .int (iI ((ac : Nat) : Int)), .int (iI ((cu : Nat) : Int))])), (a2, .inl (cI, 160, .inl (rN (ow)))), (a3, .inl (cI, 160, .inl (rN (er))))])) (QO (bI (tch ow er e1 k = true))) 0 0 (fun _ => False) := by
  refine startO (cc := cX0_touched) (maxL := 3) (ret := (some .boolean)) (by decide) rfl (Nat.le_of_ble_eq_true rfl) ?_
  intro p e s m below meth c S hr hlocks hE hP ls hl
  have hx := S.1
  have hb := S.2.1
  have hown := S.2.2.2.1
  have hts := S.2.2.2.2
  have hK := hE.1
  have hl : lv_has ls 3 [(0, .ref h), (1, .int (iI ((k : Nat) : Int))), (2, .int (iI ((e1 : Nat) : Int)))] := hl
  refine lv_aload_n hx hb dX0_touched_0 rfl (lv_at hl 0 rfl) ?_
  refine va_get (D := D) (ci := 0) (v := .ref a2) (C := RX0) (T := TX0) (N := 11) hx hb hts nX0_touched_X0 hown hK hP 0 rfl rfl 1 (by decide) (hts _ kX0_touched_15) (fun _ h9 => h9) rfl dX0_touched_1 ?_
  refine lv_iload_n hx hb dX0_touched_4 rfl (lv_at hl 1 rfl) ?_
  refine r_ialdN hx hb hK hP 1 0 rfl rfl (k) (rfl) (by first | omega | exact or16 (how _) (her _) | exact Iff.rfl) (by decide) dX0_touched_5 ?_
  refine lv_aload_n hx hb dX0_touched_6 rfl (lv_at hl 0 rfl) ?_
  refine va_get (D := D) (ci := 0) (v := .ref a3) (C := RX0) (T := TX0) (N := 11) hx hb hts nX0_touched_X0 hown hK hP 0 rfl rfl 2 (by decide) (hts _ kX0_touched_18) (fun _ h9 => h9) rfl dX0_touched_7 ?_
  refine lv_iload_n hx hb dX0_touched_10 rfl (lv_at hl 1 rfl) ?_
  refine r_ialdN hx hb hK hP 2 0 rfl rfl (k) (rfl) (by first | omega | exact or16 (how _) (her _) | exact Iff.rfl) (by decide) dX0_touched_11 ?_
  refine r_ior hx hb (ow k) (er k) (rfl) (rfl) dX0_touched_12 ?_
  refine lv_iload_n hx hb dX0_touched_13 rfl (lv_at hl 2 rfl) ?_
  refine callNO (n := 2) (As := [.int (iI (((ow k) ||| (er k) : Nat) : Int)), .int (iI ((e1 : Nat) : Int))]) (rest := []) (wc := []) S (c_has l D cI cB cZ cO ((ow k) ||| (er k)) e1 (by first | assumption | (first | omega | exact or16 (how _) (her _) | exact Iff.rfl)) (by first | assumption | (first | omega | exact or16 (how _) (her _) | exact Iff.rfl))) gX0_touched_X4_has_n115 rfl ⟨rfl, rfl⟩ (hE.2.m 5 rfl) (hts _ iX0_touched_X4) (hts _ sX0_touched_X4_has) (by decide +kernel) ⟨Nat.le_of_ble_eq_true rfl, Nat.le_of_ble_eq_true rfl⟩ hE hP [] rfl rfl hl.1 rfl (Nat.le_of_ble_eq_true rfl) dX0_touched_14 ⟨Nat.le_of_ble_eq_true rfl, Nat.le_of_ble_eq_true rfl⟩ ?_
  exact r_zretO hx hb hr hlocks (bI_c (by first | omega | exact or16 (how _) (her _) | exact Iff.rfl)) (bI_01 _) dX0_touched_17

theorem kX0_sizeOf_39 : Cond.fieldLink RX0 39 "PricedUndo$Buffer" "total" "I" ∈ wsX0_sizeOf := by decide +kernel
theorem nX0_sizeOf_X0 : ∀ w ∈ u_ws RX0 TX0 11, w ∈ wsX0_sizeOf := by decide +kernel
set_option maxHeartbeats 4000000 in
set_option maxRecDepth 100000 in
theorem c_sizeOf (l : Launch) (D : va_G) (cI cB cZ cO : ClassId) (h : Nat) (a1 : Nat) (a2 : Nat) (a3 : Nat) (a4 : Nat) (a5 : Nat) (tt : Nat) (ln : Nat) (ed : Nat) (es : Nat) (ac : Nat) (cu : Nat) (ow : Nat → Nat) (er : Nat → Nat) (e1 : Nat) (htt : tt ≤ 160) (he1 : e1 < 31) (how : ∀ k, ow k < 65536) (her : ∀ k, er k < 65536) : Met l yX0_sizeOf wsX0_sizeOf ({ frames := 2, cells := 0, slots := 0, locals := 43 }) (va_Pc [.ref h, .int (iI ((e1 : Nat) : Int))] (RO D cI cB cZ cO [(h, .inr (0, [.ref a1, .ref a2, .ref a3, .int (iI ((tt : Nat) : Int)), .ref a4, .int (iI ((ln : Nat) : Int)), .ref a5, .int (iI ((ed : Nat) : Int)), .int (iI ((es : Nat) : Int)), .int (iI ((ac : Nat) : Int)), .int (iI ((cu : Nat) : Int))])), (a2, .inl (cI, 160, .inl (rN (ow)))), (a3, .inl (cI, 160, .inl (rN (er))))])) (QO ((cnt (tch ow er e1) tt : Nat) : Int)) 0 0 (fun _ => False) := by
  refine startO (cc := cX0_sizeOf) (maxL := 4) (ret := (some .int)) (by decide) rfl (Nat.le_of_ble_eq_true rfl) ?_
  intro p e s m below meth c S hr hlocks hE hP ls hl
  have hx := S.1
  have hb := S.2.1
  have hown := S.2.2.2.1
  have hts := S.2.2.2.2
  have hK := hE.1
  have hl : lv_has ls 4 [(0, .ref h), (1, .int (iI ((e1 : Nat) : Int)))] := hl
  refine r_iconst hx hb dX0_sizeOf_0 ?_
  refine lv_istore_n (lv' := [(2, .int (iI 0)), (0, .ref h), (1, .int (iI ((e1 : Nat) : Int)))]) hx hb dX0_sizeOf_1 rfl hl (by decide) rfl (fun ls hl => ?_)
  refine r_iconst hx hb dX0_sizeOf_2 ?_
  refine lv_istore_n (lv' := [(3, .int (iI 0)), (2, .int (iI 0)), (0, .ref h), (1, .int (iI ((e1 : Nat) : Int)))]) hx hb dX0_sizeOf_3 rfl hl (by decide) rfl (fun ls hl => ?_)
  have loop_4 : ∀ (n_4 : Nat) (k : Nat), (tt - k) < n_4 → (k ≤ tt) → ∀ (ls : Array Slot), lv_has ls 4 [(0, .ref h), (1, .int (iI ((e1 : Nat) : Int))), (2, .int (iI ((cnt (tch ow er e1) k : Nat) : Int))), (3, .int (iI ((k : Nat) : Int)))] → W p l e ({ frames := 2, cells := 0, slots := 0, locals := 43 }) s m ([.ref h, .int (iI ((e1 : Nat) : Int))] : List Value).toArray below meth c s.heap [] 0 0 (MQ below (QO ((cnt (tch ow er e1) tt : Nat) : Int)) ([.ref h, .int (iI ((e1 : Nat) : Int))] : List Value).toArray s 0 0 (fun _ => False)) (F0 m 4 ls []) := by
    intro n_4
    induction n_4 with
    | zero => intro k h_meas; exact absurd h_meas (Nat.not_lt_zero _)
    | succ n_4 ih_4 =>
      intro k h_m4 ik ls hl
      refine lv_iload_n hx hb dX0_sizeOf_4 rfl (lv_at hl 3 rfl) ?_
      refine lv_aload_n hx hb dX0_sizeOf_5 rfl (lv_at hl 0 rfl) ?_
      refine va_get (D := D) (ci := 0) (v := .int (iI ((tt : Nat) : Int))) (C := RX0) (T := TX0) (N := 11) hx hb hts nX0_sizeOf_X0 hown hK hP 0 rfl rfl 3 (by decide) (hts _ kX0_sizeOf_39) (fun _ h9 => h9) rfl dX0_sizeOf_6 ?_
      refine r_icmp_ge (tgt := 30) hx hb (by first | omega | (rw [show k = tt by omega])) (by first | omega | (rw [show k = tt by omega])) dX0_sizeOf_9 (by decide) (fun c_1 => ?_) (fun c_1 => ?_)
      · skip
        refine lv_iload_n hx hb dX0_sizeOf_30 rfl (lv_at hl 2 rfl) ?_
        exact r_iretO hx hb hr hlocks (by first | omega | (rw [show k = tt by omega])) dX0_sizeOf_31
      · skip
        refine lv_aload_n hx hb dX0_sizeOf_12 rfl (lv_at hl 0 rfl) ?_
        refine lv_iload_n hx hb dX0_sizeOf_13 rfl (lv_at hl 3 rfl) ?_
        refine lv_iload_n hx hb dX0_sizeOf_14 rfl (lv_at hl 1 rfl) ?_
        refine callVO (n := 2) (As := [.int (iI ((k : Nat) : Int)), .int (iI ((e1 : Nat) : Int))]) (rest := []) (wc := [(h, .inr (0, [.ref a1, .ref a2, .ref a3, .int (iI ((tt : Nat) : Int)), .ref a4, .int (iI ((ln : Nat) : Int)), .ref a5, .int (iI ((ed : Nat) : Int)), .int (iI ((es : Nat) : Int)), .int (iI ((ac : Nat) : Int)), .int (iI ((cu : Nat) : Int))])), (a2, .inl (cI, 160, .inl (rN (ow)))), (a3, .inl (cI, 160, .inl (rN (er))))]) S (c_touched l D cI cB cZ cO h a1 a2 a3 a4 a5 tt ln ed es ac cu ow er k e1 (by first | assumption | (first | omega | (rw [show k = tt by omega]))) (by first | assumption | (first | omega | (rw [show k = tt by omega]))) (by first | assumption | (first | omega | (rw [show k = tt by omega]))) (by first | assumption | (first | omega | (rw [show k = tt by omega])))) gX0_sizeOf_X0_touched rfl ⟨rfl, rfl⟩ (by decide +kernel) ⟨Nat.le_of_ble_eq_true rfl, Nat.le_of_ble_eq_true rfl⟩ hE hP [0, 1, 2] rfl 0 0 rfl rfl rfl hl.1 rfl (Nat.le_of_ble_eq_true rfl) dX0_sizeOf_15 ⟨Nat.le_of_ble_eq_true rfl, Nat.le_of_ble_eq_true rfl⟩ ?_
        refine r_ifb_eq (tgt := 24) hx hb dX0_sizeOf_18 (by decide) (fun c_2 => ?_) (fun c_2 => ?_)
        · skip
          refine lv_iinc (v := iI ((k + 1 : Nat) : Int)) (lv' := [(3, .int (iI ((k + 1 : Nat) : Int))), (0, .ref h), (1, .int (iI ((e1 : Nat) : Int))), (2, .int (iI ((cnt (tch ow er e1) k : Nat) : Int)))]) hx hb dX0_sizeOf_24 hl (k := 3) rfl ((iI_add _ _).trans (ii (rfl))) (by decide) rfl (fun ls hl => ?_)
          refine lv_goto (tgt := 4) hx hb dX0_sizeOf_27 (by decide) ?_
          have hl : lv_has ls 4 [(3, .int (iI ((k + 1 : Nat) : Int))), (0, .ref h), (1, .int (iI ((e1 : Nat) : Int))), (2, .int (iI ((cnt (tch ow er e1) (k + 1) : Nat) : Int)))] := lv_chg hl 3 2 rfl (show (((cnt (tch ow er e1) k : Nat) : Int) : Int) = ((cnt (tch ow er e1) (k + 1) : Nat) : Int) from by first | (rw [cnt_t (by assumption)]) | (rw [cnt_f (by assumption)])) rfl
          exact ih_4 (k + 1) (by first | omega | (rw [show k = tt by omega])) (by first | assumption | (first | omega | (rw [show k = tt by omega]))) ls (lv_sub hl [1, 2, 3, 0] rfl)
        · skip
          refine lv_iinc (v := iI (((cnt (tch ow er e1) k) + 1 : Nat) : Int)) (lv' := [(2, .int (iI (((cnt (tch ow er e1) k) + 1 : Nat) : Int))), (0, .ref h), (1, .int (iI ((e1 : Nat) : Int))), (3, .int (iI ((k : Nat) : Int)))]) hx hb dX0_sizeOf_21 hl (k := 2) rfl ((iI_add _ _).trans (ii (rfl))) (by decide) rfl (fun ls hl => ?_)
          refine lv_iinc (v := iI ((k + 1 : Nat) : Int)) (lv' := [(3, .int (iI ((k + 1 : Nat) : Int))), (2, .int (iI (((cnt (tch ow er e1) k) + 1 : Nat) : Int))), (0, .ref h), (1, .int (iI ((e1 : Nat) : Int)))]) hx hb dX0_sizeOf_24 hl (k := 3) rfl ((iI_add _ _).trans (ii (rfl))) (by decide) rfl (fun ls hl => ?_)
          refine lv_goto (tgt := 4) hx hb dX0_sizeOf_27 (by decide) ?_
          have hl : lv_has ls 4 [(3, .int (iI ((k + 1 : Nat) : Int))), (2, .int (iI ((cnt (tch ow er e1) (k + 1) : Nat) : Int))), (0, .ref h), (1, .int (iI ((e1 : Nat) : Int)))] := lv_chg hl 1 2 rfl (show ((((cnt (tch ow er e1) k) + 1 : Nat) : Int) : Int) = ((cnt (tch ow er e1) (k + 1) : Nat) : Int) from by first | (rw [cnt_t (by assumption)]) | (rw [cnt_f (by assumption)])) rfl
          exact ih_4 (k + 1) (by first | omega | (rw [show k = tt by omega])) (by first | assumption | (first | omega | (rw [show k = tt by omega]))) ls (lv_sub hl [2, 3, 1, 0] rfl)
  have hl : lv_has ls 4 [(3, .int (iI 0)), (2, .int (iI ((cnt (tch ow er e1) 0 : Nat) : Int))), (0, .ref h), (1, .int (iI ((e1 : Nat) : Int)))] := lv_chg hl 1 2 rfl (show (0 : Int) = ((cnt (tch ow er e1) 0 : Nat) : Int) from by rfl) rfl
  exact loop_4 ((tt - 0) + 1) 0 (by first | omega | (rw [show k = tt by omega])) (by first | assumption | (first | omega | (rw [show k = tt by omega]))) ls (lv_sub hl [2, 3, 1, 0] rfl)

theorem kX0_placeOf_39 : Cond.fieldLink RX0 39 "PricedUndo$Buffer" "total" "I" ∈ wsX0_placeOf := by decide +kernel
theorem nX0_placeOf_X0 : ∀ w ∈ u_ws RX0 TX0 11, w ∈ wsX0_placeOf := by decide +kernel
theorem kX0_placeOf_56 : Cond.fieldLink RX0 56 "PricedUndo$Buffer" "active" "I" ∈ wsX0_placeOf := by decide +kernel
set_option maxHeartbeats 4000000 in
set_option maxRecDepth 100000 in
theorem c_placeOf (l : Launch) (D : va_G) (cI cB cZ cO : ClassId) (h : Nat) (a1 : Nat) (a2 : Nat) (a3 : Nat) (a4 : Nat) (a5 : Nat) (tt : Nat) (ln : Nat) (ed : Nat) (es : Nat) (ac : Nat) (cu : Nat) (ow : Nat → Nat) (er : Nat → Nat) (e1 : Nat) (htt : tt ≤ 160) (he1 : e1 < 31) (hac : ac < 65536) (how : ∀ k, ow k < 65536) (her : ∀ k, er k < 65536) : Met l yX0_placeOf wsX0_placeOf ({ frames := 2, cells := 0, slots := 0, locals := 46 }) (va_Pc [.ref h, .int (iI ((e1 : Nat) : Int))] (RO D cI cB cZ cO [(h, .inr (0, [.ref a1, .ref a2, .ref a3, .int (iI ((tt : Nat) : Int)), .ref a4, .int (iI ((ln : Nat) : Int)), .ref a5, .int (iI ((ed : Nat) : Int)), .int (iI ((es : Nat) : Int)), .int (iI ((ac : Nat) : Int)), .int (iI ((cu : Nat) : Int))])), (a2, .inl (cI, 160, .inl (rN (ow)))), (a3, .inl (cI, 160, .inl (rN (er))))])) (QO ((plc ow er tt ac e1 : Nat) : Int)) 0 0 (fun _ => False) := by
  refine startO (cc := cX0_placeOf) (maxL := 3) (ret := (some .int)) (by decide) rfl (Nat.le_of_ble_eq_true rfl) ?_
  intro p e s m below meth c S hr hlocks hE hP ls hl
  have hx := S.1
  have hb := S.2.1
  have hown := S.2.2.2.1
  have hts := S.2.2.2.2
  have hK := hE.1
  have hl : lv_has ls 3 [(0, .ref h), (1, .int (iI ((e1 : Nat) : Int)))] := hl
  refine r_iconst hx hb dX0_placeOf_0 ?_
  refine lv_istore_n (lv' := [(2, .int (iI 0)), (0, .ref h), (1, .int (iI ((e1 : Nat) : Int)))]) hx hb dX0_placeOf_1 rfl hl (by decide) rfl (fun ls hl => ?_)
  have loop_2 : ∀ (n_2 : Nat) (k : Nat), (tt - k) < n_2 → (k ≤ tt) → (∀ j, j < k → ¬ tch ow er e1 j = true) → ∀ (ls : Array Slot), lv_has ls 3 [(0, .ref h), (1, .int (iI ((e1 : Nat) : Int))), (2, .int (iI ((k : Nat) : Int)))] → W p l e ({ frames := 2, cells := 0, slots := 0, locals := 46 }) s m ([.ref h, .int (iI ((e1 : Nat) : Int))] : List Value).toArray below meth c s.heap [] 0 0 (MQ below (QO ((plc ow er tt ac e1 : Nat) : Int)) ([.ref h, .int (iI ((e1 : Nat) : Int))] : List Value).toArray s 0 0 (fun _ => False)) (F0 m 2 ls []) := by
    intro n_2
    induction n_2 with
    | zero => intro k h_meas; exact absurd h_meas (Nat.not_lt_zero _)
    | succ n_2 ih_2 =>
      intro k h_m2 ik ip ls hl
      refine lv_iload_n hx hb dX0_placeOf_2 rfl (lv_at hl 2 rfl) ?_
      refine lv_aload_n hx hb dX0_placeOf_3 rfl (lv_at hl 0 rfl) ?_
      refine va_get (D := D) (ci := 0) (v := .int (iI ((tt : Nat) : Int))) (C := RX0) (T := TX0) (N := 11) hx hb hts nX0_placeOf_X0 hown hK hP 0 rfl rfl 3 (by decide) (hts _ kX0_placeOf_39) (fun _ h9 => h9) rfl dX0_placeOf_4 ?_
      refine r_icmp_ge (tgt := 25) hx hb (by first | omega | (unfold plc; rw [show min k tt = k by omega, fsF_eq ip ik (fun q => by first | assumption | omega)])) (by first | omega | (unfold plc; rw [show min k tt = k by omega, fsF_eq ip ik (fun q => by first | assumption | omega)])) dX0_placeOf_7 (by decide) (fun c_1 => ?_) (fun c_1 => ?_)
      · skip
        refine lv_aload_n hx hb dX0_placeOf_25 rfl (lv_at hl 0 rfl) ?_
        refine lv_iload_n hx hb dX0_placeOf_26 rfl (lv_at hl 2 rfl) ?_
        refine lv_aload_n hx hb dX0_placeOf_27 rfl (lv_at hl 0 rfl) ?_
        refine va_get (D := D) (ci := 0) (v := .int (iI ((ac : Nat) : Int))) (C := RX0) (T := TX0) (N := 11) hx hb hts nX0_placeOf_X0 hown hK hP 0 rfl rfl 9 (by decide) (hts _ kX0_placeOf_56) (fun _ h9 => h9) rfl dX0_placeOf_28 ?_
        refine callVO (n := 2) (As := [.int (iI ((k : Nat) : Int)), .int (iI ((ac : Nat) : Int))]) (rest := []) (wc := [(h, .inr (0, [.ref a1, .ref a2, .ref a3, .int (iI ((tt : Nat) : Int)), .ref a4, .int (iI ((ln : Nat) : Int)), .ref a5, .int (iI ((ed : Nat) : Int)), .int (iI ((es : Nat) : Int)), .int (iI ((ac : Nat) : Int)), .int (iI ((cu : Nat) : Int))])), (a2, .inl (cI, 160, .inl (rN (ow)))), (a3, .inl (cI, 160, .inl (rN (er))))]) S (c_visibleAhead l D cI cB cZ cO h a1 a2 a3 a4 a5 tt ln ed es ac cu ow er k ac (by first | assumption | (first | omega | (unfold plc; rw [show min k tt = k by omega, fsF_eq ip ik (fun q => by first | assumption | omega)]))) (by first | assumption | (first | omega | (unfold plc; rw [show min k tt = k by omega, fsF_eq ip ik (fun q => by first | assumption | omega)]))) (by first | assumption | (first | omega | (unfold plc; rw [show min k tt = k by omega, fsF_eq ip ik (fun q => by first | assumption | omega)]))) (by first | assumption | (first | omega | (unfold plc; rw [show min k tt = k by omega, fsF_eq ip ik (fun q => by first | assumption | omega)]))) (by first | assumption | (first | omega | (unfold plc; rw [show min k tt = k by omega, fsF_eq ip ik (fun q => by first | assumption | omega)])))) gX0_placeOf_X0_visibleAhead rfl ⟨rfl, rfl⟩ (by decide +kernel) ⟨Nat.le_of_ble_eq_true rfl, Nat.le_of_ble_eq_true rfl⟩ hE hP [0, 1, 2] rfl 0 0 rfl rfl rfl hl.1 rfl (Nat.le_of_ble_eq_true rfl) dX0_placeOf_31 ⟨Nat.le_of_ble_eq_true rfl, Nat.le_of_ble_eq_true rfl⟩ ?_
        exact r_iretO hx hb hr hlocks (by first | omega | (unfold plc; rw [show min k tt = k by omega, fsF_eq ip ik (fun q => by first | assumption | omega)])) dX0_placeOf_34
      · skip
        refine lv_aload_n hx hb dX0_placeOf_10 rfl (lv_at hl 0 rfl) ?_
        refine lv_iload_n hx hb dX0_placeOf_11 rfl (lv_at hl 2 rfl) ?_
        refine lv_iload_n hx hb dX0_placeOf_12 rfl (lv_at hl 1 rfl) ?_
        refine callVO (n := 2) (As := [.int (iI ((k : Nat) : Int)), .int (iI ((e1 : Nat) : Int))]) (rest := []) (wc := [(h, .inr (0, [.ref a1, .ref a2, .ref a3, .int (iI ((tt : Nat) : Int)), .ref a4, .int (iI ((ln : Nat) : Int)), .ref a5, .int (iI ((ed : Nat) : Int)), .int (iI ((es : Nat) : Int)), .int (iI ((ac : Nat) : Int)), .int (iI ((cu : Nat) : Int))])), (a2, .inl (cI, 160, .inl (rN (ow)))), (a3, .inl (cI, 160, .inl (rN (er))))]) S (c_touched l D cI cB cZ cO h a1 a2 a3 a4 a5 tt ln ed es ac cu ow er k e1 (by first | assumption | (first | omega | (unfold plc; rw [show min k tt = k by omega, fsF_eq ip ik (fun q => by first | assumption | omega)]))) (by first | assumption | (first | omega | (unfold plc; rw [show min k tt = k by omega, fsF_eq ip ik (fun q => by first | assumption | omega)]))) (by first | assumption | (first | omega | (unfold plc; rw [show min k tt = k by omega, fsF_eq ip ik (fun q => by first | assumption | omega)]))) (by first | assumption | (first | omega | (unfold plc; rw [show min k tt = k by omega, fsF_eq ip ik (fun q => by first | assumption | omega)])))) gX0_placeOf_X0_touched rfl ⟨rfl, rfl⟩ (by decide +kernel) ⟨Nat.le_of_ble_eq_true rfl, Nat.le_of_ble_eq_true rfl⟩ hE hP [0, 1, 2] rfl 0 0 rfl rfl rfl hl.1 rfl (Nat.le_of_ble_eq_true rfl) dX0_placeOf_13 ⟨Nat.le_of_ble_eq_true rfl, Nat.le_of_ble_eq_true rfl⟩ ?_
        refine r_ifb_ne (tgt := 25) hx hb dX0_placeOf_16 (by decide) (fun c_2 => ?_) (fun c_2 => ?_)
        · skip
          refine lv_aload_n hx hb dX0_placeOf_25 rfl (lv_at hl 0 rfl) ?_
          refine lv_iload_n hx hb dX0_placeOf_26 rfl (lv_at hl 2 rfl) ?_
          refine lv_aload_n hx hb dX0_placeOf_27 rfl (lv_at hl 0 rfl) ?_
          refine va_get (D := D) (ci := 0) (v := .int (iI ((ac : Nat) : Int))) (C := RX0) (T := TX0) (N := 11) hx hb hts nX0_placeOf_X0 hown hK hP 0 rfl rfl 9 (by decide) (hts _ kX0_placeOf_56) (fun _ h9 => h9) rfl dX0_placeOf_28 ?_
          refine callVO (n := 2) (As := [.int (iI ((k : Nat) : Int)), .int (iI ((ac : Nat) : Int))]) (rest := []) (wc := [(h, .inr (0, [.ref a1, .ref a2, .ref a3, .int (iI ((tt : Nat) : Int)), .ref a4, .int (iI ((ln : Nat) : Int)), .ref a5, .int (iI ((ed : Nat) : Int)), .int (iI ((es : Nat) : Int)), .int (iI ((ac : Nat) : Int)), .int (iI ((cu : Nat) : Int))])), (a2, .inl (cI, 160, .inl (rN (ow)))), (a3, .inl (cI, 160, .inl (rN (er))))]) S (c_visibleAhead l D cI cB cZ cO h a1 a2 a3 a4 a5 tt ln ed es ac cu ow er k ac (by first | assumption | (first | omega | (unfold plc; rw [show min k tt = k by omega, fsF_eq ip ik (fun q => by first | assumption | omega)]))) (by first | assumption | (first | omega | (unfold plc; rw [show min k tt = k by omega, fsF_eq ip ik (fun q => by first | assumption | omega)]))) (by first | assumption | (first | omega | (unfold plc; rw [show min k tt = k by omega, fsF_eq ip ik (fun q => by first | assumption | omega)]))) (by first | assumption | (first | omega | (unfold plc; rw [show min k tt = k by omega, fsF_eq ip ik (fun q => by first | assumption | omega)]))) (by first | assumption | (first | omega | (unfold plc; rw [show min k tt = k by omega, fsF_eq ip ik (fun q => by first | assumption | omega)])))) gX0_placeOf_X0_visibleAhead rfl ⟨rfl, rfl⟩ (by decide +kernel) ⟨Nat.le_of_ble_eq_true rfl, Nat.le_of_ble_eq_true rfl⟩ hE hP [0, 1, 2] rfl 0 0 rfl rfl rfl hl.1 rfl (Nat.le_of_ble_eq_true rfl) dX0_placeOf_31 ⟨Nat.le_of_ble_eq_true rfl, Nat.le_of_ble_eq_true rfl⟩ ?_
          exact r_iretO hx hb hr hlocks (by first | omega | (unfold plc; rw [show min k tt = k by omega, fsF_eq ip ik (fun q => by first | assumption | omega)])) dX0_placeOf_34
        · skip
          refine lv_iinc (v := iI ((k + 1 : Nat) : Int)) (lv' := [(2, .int (iI ((k + 1 : Nat) : Int))), (0, .ref h), (1, .int (iI ((e1 : Nat) : Int)))]) hx hb dX0_placeOf_19 hl (k := 2) rfl ((iI_add _ _).trans (ii (rfl))) (by decide) rfl (fun ls hl => ?_)
          refine lv_goto (tgt := 2) hx hb dX0_placeOf_22 (by decide) ?_
          exact ih_2 (k + 1) (by first | omega | (unfold plc; rw [show min k tt = k by omega, fsF_eq ip ik (fun q => by first | assumption | omega)])) (by first | assumption | (first | omega | (unfold plc; rw [show min k tt = k by omega, fsF_eq ip ik (fun q => by first | assumption | omega)]))) (by intro j hj; rcases Nat.lt_or_eq_of_le (Nat.le_of_lt_succ hj) with q | q; exact ip j q; rw [q]; assumption) ls (lv_sub hl [1, 2, 0] rfl)
  exact loop_2 ((tt - 0) + 1) 0 (by first | omega | (unfold plc; rw [show min k tt = k by omega, fsF_eq ip ik (fun q => by first | assumption | omega)])) (by first | assumption | (first | omega | (unfold plc; rw [show min k tt = k by omega, fsF_eq ip ik (fun q => by first | assumption | omega)]))) (by intro j hj; omega) ls (lv_sub hl [1, 2, 0] rfl)
