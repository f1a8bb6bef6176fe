section LAWC
variable {p : Program} {l : Launch} {e : Env} {s : State} {m : MethodId} {below : List Frame} {meth : Method} {c : Code} {D : va_G} {cI cB cZ cO : ClassId} {b L : Nat} {xs : Nat → Int32} {Q : State → Prop} {H : Heap} {locs : List Loc} {cells slots : Nat} {ls : Array Slot} {xp hm j : Nat} {w : va_W}
set_option maxHeartbeats 4000000 in
set_option maxRecDepth 100000 in
theorem lc_bringBack (S : CallFix p m c cL_law 4 s #[Value.ref b] wsL_law RL) (hE : EK D cI cB cZ cO s) (hX : va_X b L xs s s.heap) (hbl : b < s.heap.size) (hL : L ≤ 1536) (hj : 3 * j + 3 ≤ L) (hc : cells + 12 ≤ 600000 ∧ slots + 1200 ≤ 7302250) (hRl : REL cI cB cZ cO xp hm w) (hP : va_P D vwCl w H) (hD : va_D (lA s) w) (hS : va_S (lA s) s.heap H locs) (hl : lv_has ls 4 [(0, .ref b), (1, .ref xp), (2, .ref hm), (3, .int (iI ((3 * j : Nat) : Int)))]) (kk : ∀ (w1 : va_W) (H1 : Heap) (locs1 : List Loc), REL cI cB cZ cO xp hm w1 → va_P D vwCl w1 H1 → va_D (lA s) w1 → va_S (lA s) s.heap H1 locs1 → W p l e room_1 s m #[Value.ref b] below meth c H1 locs1 (cells + 12) (slots + 1200) Q (F0 m 871 ls [])) : W p l e room_1 s m #[Value.ref b] below meth c H locs cells slots Q (F0 m 529 ls []) := by
  have hx := S.1
  have hb := S.2.1
  have hA : ∀ q : Nat, s.heap.size ≤ q → lA s q := fun _ h => h
  have hbA : ¬ lA s b := Nat.not_le.mpr hbl
  refine lv_aload_n hx hb dL_law_529 rfl (lv_at hl 1 rfl) ?_
  refine lv_aload_n hx hb dL_law_530 rfl (lv_at hl 0 rfl) ?_
  refine lv_iload_n hx hb dL_law_531 rfl (lv_at hl 3 rfl) ?_
  refine r_iconst hx hb dL_law_532 ?_
  refine r_iadd (v := ((3 * j + 1 : Nat) : Int)) hx hb (by omega) dL_law_533 ?_
  refine r_sld hx hb hX hbl hbA hS (3 * j + 1) rfl (by omega) hL dL_law_534 ?_
  obtain ⟨r, P, h1, h2⟩ := pq_bringBack l D cI cB cZ cO ((xs (3 * j + 1)).toInt) (rg_self _) xp hm w hRl
  refine lawV (n := 1) (As := [.int (iI (xs (3 * j + 1)).toInt)]) (rest := []) S hE hP hD hS hA h1 gL_law_X4_bringBack rfl (by decide +kernel) ⟨Nat.le_of_ble_eq_true rfl, Nat.le_of_ble_eq_true rfl⟩ 4 rfl (REL_x hRl) rfl hl.1 rfl (Nat.le_of_ble_eq_true rfl) dL_law_535 ⟨by show cells + 6 ≤ 600000; omega, by show slots + 600 ≤ 7302250; omega⟩ (fun w1 hw1 H1 locs1 hP hD hS => ?_)
  obtain ⟨hrc, hM⟩ := h2 w1 hw1
  refine lv_aload_n hx hb dL_law_538 rfl (lv_at hl 2 rfl) ?_
  refine lv_aload_n hx hb dL_law_539 rfl (lv_at hl 0 rfl) ?_
  refine lv_iload_n hx hb dL_law_540 rfl (lv_at hl 3 rfl) ?_
  refine r_iconst hx hb dL_law_541 ?_
  refine r_iadd (v := ((3 * j + 1 : Nat) : Int)) hx hb (by omega) dL_law_542 ?_
  refine r_sld hx hb hX hbl hbA hS (3 * j + 1) rfl (by omega) hL dL_law_543 ?_
  refine lawV (n := 1) (As := [.int (iI (xs (3 * j + 1)).toInt)]) (rest := [.int (iI r)]) S hE hP hD hS hA hM gL_law_X5_bringBack rfl (by decide +kernel) ⟨Nat.le_of_ble_eq_true rfl, Nat.le_of_ble_eq_true rfl⟩ 5 rfl hrc rfl hl.1 rfl (Nat.le_of_ble_eq_true rfl) dL_law_544 ⟨by show cells + 6 + 6 ≤ 600000; omega, by show slots + 600 + 600 ≤ 7302250; omega⟩ (fun w2 hw2 H2 locs2 hP hD hS => ?_)
  refine lv_icmp_eq (tgt := 871) hx hb dL_law_547 (by decide) (fun _ => ?_) (fun h => absurd rfl h)
  exact kk w2 H2 locs2 hw2 hP hD hS
set_option maxHeartbeats 4000000 in
set_option maxRecDepth 100000 in
theorem lc_carried (S : CallFix p m c cL_law 4 s #[Value.ref b] wsL_law RL) (hE : EK D cI cB cZ cO s) (hX : va_X b L xs s s.heap) (hbl : b < s.heap.size) (hL : L ≤ 1536) (hj : 3 * j + 3 ≤ L) (hc : cells + 12 ≤ 600000 ∧ slots + 1200 ≤ 7302250) (hRl : REL cI cB cZ cO xp hm w) (hP : va_P D vwCl w H) (hD : va_D (lA s) w) (hS : va_S (lA s) s.heap H locs) (hl : lv_has ls 4 [(0, .ref b), (1, .ref xp), (2, .ref hm), (3, .int (iI ((3 * j : Nat) : Int)))]) (kk : ∀ (w1 : va_W) (H1 : Heap) (locs1 : List Loc), REL cI cB cZ cO xp hm w1 → va_P D vwCl w1 H1 → va_D (lA s) w1 → va_S (lA s) s.heap H1 locs1 → W p l e room_1 s m #[Value.ref b] below meth c H1 locs1 (cells + 12) (slots + 1200) Q (F0 m 871 ls [])) : W p l e room_1 s m #[Value.ref b] below meth c H locs cells slots Q (F0 m 552 ls []) := by
  have hx := S.1
  have hb := S.2.1
  have hA : ∀ q : Nat, s.heap.size ≤ q → lA s q := fun _ h => h
  have hbA : ¬ lA s b := Nat.not_le.mpr hbl
  refine lv_aload_n hx hb dL_law_552 rfl (lv_at hl 1 rfl) ?_
  refine lv_aload_n hx hb dL_law_553 rfl (lv_at hl 0 rfl) ?_
  refine lv_iload_n hx hb dL_law_554 rfl (lv_at hl 3 rfl) ?_
  refine r_iconst hx hb dL_law_555 ?_
  refine r_iadd (v := ((3 * j + 1 : Nat) : Int)) hx hb (by omega) dL_law_556 ?_
  refine r_sld hx hb hX hbl hbA hS (3 * j + 1) rfl (by omega) hL dL_law_557 ?_
  refine lv_aload_n hx hb dL_law_558 rfl (lv_at hl 0 rfl) ?_
  refine lv_iload_n hx hb dL_law_559 rfl (lv_at hl 3 rfl) ?_
  refine r_iconst hx hb dL_law_560 ?_
  refine r_iadd (v := ((3 * j + 2 : Nat) : Int)) hx hb (by omega) dL_law_561 ?_
  refine r_sld hx hb hX hbl hbA hS (3 * j + 2) rfl (by omega) hL dL_law_562 ?_
  obtain ⟨r, P, h1, h2⟩ := pq_carried l D cI cB cZ cO ((xs (3 * j + 1)).toInt) ((xs (3 * j + 2)).toInt) (rg_self _) (rg_self _) xp hm w hRl
  refine lawV (n := 2) (As := [.int (iI (xs (3 * j + 1)).toInt), .int (iI (xs (3 * j + 2)).toInt)]) (rest := []) S hE hP hD hS hA h1 gL_law_X4_carried rfl (by decide +kernel) ⟨Nat.le_of_ble_eq_true rfl, Nat.le_of_ble_eq_true rfl⟩ 4 rfl (REL_x hRl) rfl hl.1 rfl (Nat.le_of_ble_eq_true rfl) dL_law_563 ⟨by show cells + 6 ≤ 600000; omega, by show slots + 600 ≤ 7302250; omega⟩ (fun w1 hw1 H1 locs1 hP hD hS => ?_)
  obtain ⟨hrc, hM⟩ := h2 w1 hw1
  refine lv_aload_n hx hb dL_law_566 rfl (lv_at hl 2 rfl) ?_
  refine lv_aload_n hx hb dL_law_567 rfl (lv_at hl 0 rfl) ?_
  refine lv_iload_n hx hb dL_law_568 rfl (lv_at hl 3 rfl) ?_
  refine r_iconst hx hb dL_law_569 ?_
  refine r_iadd (v := ((3 * j + 1 : Nat) : Int)) hx hb (by omega) dL_law_570 ?_
  refine r_sld hx hb hX hbl hbA hS (3 * j + 1) rfl (by omega) hL dL_law_571 ?_
  refine lv_aload_n hx hb dL_law_572 rfl (lv_at hl 0 rfl) ?_
  refine lv_iload_n hx hb dL_law_573 rfl (lv_at hl 3 rfl) ?_
  refine r_iconst hx hb dL_law_574 ?_
  refine r_iadd (v := ((3 * j + 2 : Nat) : Int)) hx hb (by omega) dL_law_575 ?_
  refine r_sld hx hb hX hbl hbA hS (3 * j + 2) rfl (by omega) hL dL_law_576 ?_
  refine lawV (n := 2) (As := [.int (iI (xs (3 * j + 1)).toInt), .int (iI (xs (3 * j + 2)).toInt)]) (rest := [.int (iI r)]) S hE hP hD hS hA hM gL_law_X5_carried rfl (by decide +kernel) ⟨Nat.le_of_ble_eq_true rfl, Nat.le_of_ble_eq_true rfl⟩ 5 rfl hrc rfl hl.1 rfl (Nat.le_of_ble_eq_true rfl) dL_law_577 ⟨by show cells + 6 + 6 ≤ 600000; omega, by show slots + 600 + 600 ≤ 7302250; omega⟩ (fun w2 hw2 H2 locs2 hP hD hS => ?_)
  refine lv_icmp_eq (tgt := 871) hx hb dL_law_580 (by decide) (fun _ => ?_) (fun h => absurd rfl h)
  exact kk w2 H2 locs2 hw2 hP hD hS
set_option maxHeartbeats 4000000 in
set_option maxRecDepth 100000 in
theorem lc_loose (S : CallFix p m c cL_law 4 s #[Value.ref b] wsL_law RL) (hE : EK D cI cB cZ cO s) (hX : va_X b L xs s s.heap) (hbl : b < s.heap.size) (hL : L ≤ 1536) (hj : 3 * j + 3 ≤ L) (hc : cells + 12 ≤ 600000 ∧ slots + 1200 ≤ 7302250) (hRl : REL cI cB cZ cO xp hm w) (hP : va_P D vwCl w H) (hD : va_D (lA s) w) (hS : va_S (lA s) s.heap H locs) (hl : lv_has ls 4 [(0, .ref b), (1, .ref xp), (2, .ref hm), (3, .int (iI ((3 * j : Nat) : Int)))]) (kk : ∀ (w1 : va_W) (H1 : Heap) (locs1 : List Loc), REL cI cB cZ cO xp hm w1 → va_P D vwCl w1 H1 → va_D (lA s) w1 → va_S (lA s) s.heap H1 locs1 → W p l e room_1 s m #[Value.ref b] below meth c H1 locs1 (cells + 12) (slots + 1200) Q (F0 m 871 ls [])) : W p l e room_1 s m #[Value.ref b] below meth c H locs cells slots Q (F0 m 585 ls []) := by
  have hx := S.1
  have hb := S.2.1
  have hA : ∀ q : Nat, s.heap.size ≤ q → lA s q := fun _ h => h
  have hbA : ¬ lA s b := Nat.not_le.mpr hbl
  refine lv_aload_n hx hb dL_law_585 rfl (lv_at hl 1 rfl) ?_
  obtain ⟨r, P, h1, h2⟩ := pq_loose l D cI cB cZ cO   xp hm w hRl
  refine lawV (n := 0) (As := []) (rest := []) S hE hP hD hS hA h1 gL_law_X4_loose rfl (by decide +kernel) ⟨Nat.le_of_ble_eq_true rfl, Nat.le_of_ble_eq_true rfl⟩ 4 rfl (REL_x hRl) rfl hl.1 rfl (Nat.le_of_ble_eq_true rfl) dL_law_586 ⟨by show cells + 6 ≤ 600000; omega, by show slots + 600 ≤ 7302250; omega⟩ (fun w1 hw1 H1 locs1 hP hD hS => ?_)
  obtain ⟨hrc, hM⟩ := h2 w1 hw1
  refine lv_aload_n hx hb dL_law_589 rfl (lv_at hl 2 rfl) ?_
  refine lawV (n := 0) (As := []) (rest := [.int (iI r)]) S hE hP hD hS hA hM gL_law_X5_loose rfl (by decide +kernel) ⟨Nat.le_of_ble_eq_true rfl, Nat.le_of_ble_eq_true rfl⟩ 5 rfl hrc rfl hl.1 rfl (Nat.le_of_ble_eq_true rfl) dL_law_590 ⟨by show cells + 6 + 6 ≤ 600000; omega, by show slots + 600 + 600 ≤ 7302250; omega⟩ (fun w2 hw2 H2 locs2 hP hD hS => ?_)
  refine lv_icmp_eq (tgt := 871) hx hb dL_law_593 (by decide) (fun _ => ?_) (fun h => absurd rfl h)
  exact kk w2 H2 locs2 hw2 hP hD hS
set_option maxHeartbeats 4000000 in
set_option maxRecDepth 100000 in
theorem lc_opening (S : CallFix p m c cL_law 4 s #[Value.ref b] wsL_law RL) (hE : EK D cI cB cZ cO s) (hX : va_X b L xs s s.heap) (hbl : b < s.heap.size) (hL : L ≤ 1536) (hj : 3 * j + 3 ≤ L) (hc : cells + 12 ≤ 600000 ∧ slots + 1200 ≤ 7302250) (hRl : REL cI cB cZ cO xp hm w) (hP : va_P D vwCl w H) (hD : va_D (lA s) w) (hS : va_S (lA s) s.heap H locs) (hl : lv_has ls 4 [(0, .ref b), (1, .ref xp), (2, .ref hm), (3, .int (iI ((3 * j : Nat) : Int)))]) (kk : ∀ (w1 : va_W) (H1 : Heap) (locs1 : List Loc), REL cI cB cZ cO xp hm w1 → va_P D vwCl w1 H1 → va_D (lA s) w1 → va_S (lA s) s.heap H1 locs1 → W p l e room_1 s m #[Value.ref b] below meth c H1 locs1 (cells + 12) (slots + 1200) Q (F0 m 871 ls [])) : W p l e room_1 s m #[Value.ref b] below meth c H locs cells slots Q (F0 m 598 ls []) := by
  have hx := S.1
  have hb := S.2.1
  have hA : ∀ q : Nat, s.heap.size ≤ q → lA s q := fun _ h => h
  have hbA : ¬ lA s b := Nat.not_le.mpr hbl
  refine lv_aload_n hx hb dL_law_598 rfl (lv_at hl 1 rfl) ?_
  refine lv_aload_n hx hb dL_law_599 rfl (lv_at hl 0 rfl) ?_
  refine lv_iload_n hx hb dL_law_600 rfl (lv_at hl 3 rfl) ?_
  refine r_iconst hx hb dL_law_601 ?_
  refine r_iadd (v := ((3 * j + 1 : Nat) : Int)) hx hb (by omega) dL_law_602 ?_
  refine r_sld hx hb hX hbl hbA hS (3 * j + 1) rfl (by omega) hL dL_law_603 ?_
  obtain ⟨r, P, h1, h2⟩ := pq_opening l D cI cB cZ cO ((xs (3 * j + 1)).toInt) (rg_self _) xp hm w hRl
  refine lawV (n := 1) (As := [.int (iI (xs (3 * j + 1)).toInt)]) (rest := []) S hE hP hD hS hA h1 gL_law_X4_opening rfl (by decide +kernel) ⟨Nat.le_of_ble_eq_true rfl, Nat.le_of_ble_eq_true rfl⟩ 4 rfl (REL_x hRl) rfl hl.1 rfl (Nat.le_of_ble_eq_true rfl) dL_law_604 ⟨by show cells + 6 ≤ 600000; omega, by show slots + 600 ≤ 7302250; omega⟩ (fun w1 hw1 H1 locs1 hP hD hS => ?_)
  obtain ⟨hrc, hM⟩ := h2 w1 hw1
  refine lv_aload_n hx hb dL_law_607 rfl (lv_at hl 2 rfl) ?_
  refine lv_aload_n hx hb dL_law_608 rfl (lv_at hl 0 rfl) ?_
  refine lv_iload_n hx hb dL_law_609 rfl (lv_at hl 3 rfl) ?_
  refine r_iconst hx hb dL_law_610 ?_
  refine r_iadd (v := ((3 * j + 1 : Nat) : Int)) hx hb (by omega) dL_law_611 ?_
  refine r_sld hx hb hX hbl hbA hS (3 * j + 1) rfl (by omega) hL dL_law_612 ?_
  refine lawV (n := 1) (As := [.int (iI (xs (3 * j + 1)).toInt)]) (rest := [.int (iI r)]) S hE hP hD hS hA hM gL_law_X5_opening rfl (by decide +kernel) ⟨Nat.le_of_ble_eq_true rfl, Nat.le_of_ble_eq_true rfl⟩ 5 rfl hrc rfl hl.1 rfl (Nat.le_of_ble_eq_true rfl) dL_law_613 ⟨by show cells + 6 + 6 ≤ 600000; omega, by show slots + 600 + 600 ≤ 7302250; omega⟩ (fun w2 hw2 H2 locs2 hP hD hS => ?_)
  refine lv_icmp_eq (tgt := 871) hx hb dL_law_616 (by decide) (fun _ => ?_) (fun h => absurd rfl h)
  exact kk w2 H2 locs2 hw2 hP hD hS
set_option maxHeartbeats 4000000 in
set_option maxRecDepth 100000 in
theorem lc_run (S : CallFix p m c cL_law 4 s #[Value.ref b] wsL_law RL) (hE : EK D cI cB cZ cO s) (hX : va_X b L xs s s.heap) (hbl : b < s.heap.size) (hL : L ≤ 1536) (hj : 3 * j + 3 ≤ L) (hc : cells + 12 ≤ 600000 ∧ slots + 1200 ≤ 7302250) (hRl : REL cI cB cZ cO xp hm w) (hP : va_P D vwCl w H) (hD : va_D (lA s) w) (hS : va_S (lA s) s.heap H locs) (hl : lv_has ls 4 [(0, .ref b), (1, .ref xp), (2, .ref hm), (3, .int (iI ((3 * j : Nat) : Int)))]) (kk : ∀ (w1 : va_W) (H1 : Heap) (locs1 : List Loc), REL cI cB cZ cO xp hm w1 → va_P D vwCl w1 H1 → va_D (lA s) w1 → va_S (lA s) s.heap H1 locs1 → W p l e room_1 s m #[Value.ref b] below meth c H1 locs1 (cells + 12) (slots + 1200) Q (F0 m 871 ls [])) : W p l e room_1 s m #[Value.ref b] below meth c H locs cells slots Q (F0 m 621 ls []) := by
  have hx := S.1
  have hb := S.2.1
  have hA : ∀ q : Nat, s.heap.size ≤ q → lA s q := fun _ h => h
  have hbA : ¬ lA s b := Nat.not_le.mpr hbl
  refine lv_aload_n hx hb dL_law_621 rfl (lv_at hl 1 rfl) ?_
  refine lv_aload_n hx hb dL_law_622 rfl (lv_at hl 0 rfl) ?_
  refine lv_iload_n hx hb dL_law_623 rfl (lv_at hl 3 rfl) ?_
  refine r_iconst hx hb dL_law_624 ?_
  refine r_iadd (v := ((3 * j + 1 : Nat) : Int)) hx hb (by omega) dL_law_625 ?_
  refine r_sld hx hb hX hbl hbA hS (3 * j + 1) rfl (by omega) hL dL_law_626 ?_
  refine lv_aload_n hx hb dL_law_627 rfl (lv_at hl 0 rfl) ?_
  refine lv_iload_n hx hb dL_law_628 rfl (lv_at hl 3 rfl) ?_
  refine r_iconst hx hb dL_law_629 ?_
  refine r_iadd (v := ((3 * j + 2 : Nat) : Int)) hx hb (by omega) dL_law_630 ?_
  refine r_sld hx hb hX hbl hbA hS (3 * j + 2) rfl (by omega) hL dL_law_631 ?_
  obtain ⟨r, P, h1, h2⟩ := pq_run l D cI cB cZ cO ((xs (3 * j + 1)).toInt) ((xs (3 * j + 2)).toInt) (rg_self _) (rg_self _) xp hm w hRl
  refine lawV (n := 2) (As := [.int (iI (xs (3 * j + 1)).toInt), .int (iI (xs (3 * j + 2)).toInt)]) (rest := []) S hE hP hD hS hA h1 gL_law_X4_run rfl (by decide +kernel) ⟨Nat.le_of_ble_eq_true rfl, Nat.le_of_ble_eq_true rfl⟩ 4 rfl (REL_x hRl) rfl hl.1 rfl (Nat.le_of_ble_eq_true rfl) dL_law_632 ⟨by show cells + 6 ≤ 600000; omega, by show slots + 600 ≤ 7302250; omega⟩ (fun w1 hw1 H1 locs1 hP hD hS => ?_)
  obtain ⟨hrc, hM⟩ := h2 w1 hw1
  refine lv_aload_n hx hb dL_law_635 rfl (lv_at hl 2 rfl) ?_
  refine lv_aload_n hx hb dL_law_636 rfl (lv_at hl 0 rfl) ?_
  refine lv_iload_n hx hb dL_law_637 rfl (lv_at hl 3 rfl) ?_
  refine r_iconst hx hb dL_law_638 ?_
  refine r_iadd (v := ((3 * j + 1 : Nat) : Int)) hx hb (by omega) dL_law_639 ?_
  refine r_sld hx hb hX hbl hbA hS (3 * j + 1) rfl (by omega) hL dL_law_640 ?_
  refine lv_aload_n hx hb dL_law_641 rfl (lv_at hl 0 rfl) ?_
  refine lv_iload_n hx hb dL_law_642 rfl (lv_at hl 3 rfl) ?_
  refine r_iconst hx hb dL_law_643 ?_
  refine r_iadd (v := ((3 * j + 2 : Nat) : Int)) hx hb (by omega) dL_law_644 ?_
  refine r_sld hx hb hX hbl hbA hS (3 * j + 2) rfl (by omega) hL dL_law_645 ?_
  refine lawV (n := 2) (As := [.int (iI (xs (3 * j + 1)).toInt), .int (iI (xs (3 * j + 2)).toInt)]) (rest := [.int (iI r)]) S hE hP hD hS hA hM gL_law_X5_run rfl (by decide +kernel) ⟨Nat.le_of_ble_eq_true rfl, Nat.le_of_ble_eq_true rfl⟩ 5 rfl hrc rfl hl.1 rfl (Nat.le_of_ble_eq_true rfl) dL_law_646 ⟨by show cells + 6 + 6 ≤ 600000; omega, by show slots + 600 + 600 ≤ 7302250; omega⟩ (fun w2 hw2 H2 locs2 hP hD hS => ?_)
  refine lv_icmp_eq (tgt := 871) hx hb dL_law_649 (by decide) (fun _ => ?_) (fun h => absurd rfl h)
  exact kk w2 H2 locs2 hw2 hP hD hS
set_option maxHeartbeats 4000000 in
set_option maxRecDepth 100000 in
theorem lc_appendScript (S : CallFix p m c cL_law 4 s #[Value.ref b] wsL_law RL) (hE : EK D cI cB cZ cO s) (hX : va_X b L xs s s.heap) (hbl : b < s.heap.size) (hL : L ≤ 1536) (hj : 3 * j + 3 ≤ L) (hc : cells + 12 ≤ 600000 ∧ slots + 1200 ≤ 7302250) (hRl : REL cI cB cZ cO xp hm w) (hP : va_P D vwCl w H) (hD : va_D (lA s) w) (hS : va_S (lA s) s.heap H locs) (hl : lv_has ls 4 [(0, .ref b), (1, .ref xp), (2, .ref hm), (3, .int (iI ((3 * j : Nat) : Int)))]) (kk : ∀ (w1 : va_W) (H1 : Heap) (locs1 : List Loc), REL cI cB cZ cO xp hm w1 → va_P D vwCl w1 H1 → va_D (lA s) w1 → va_S (lA s) s.heap H1 locs1 → W p l e room_1 s m #[Value.ref b] below meth c H1 locs1 (cells + 12) (slots + 1200) Q (F0 m 871 ls [])) : W p l e room_1 s m #[Value.ref b] below meth c H locs cells slots Q (F0 m 654 ls []) := by
  have hx := S.1
  have hb := S.2.1
  have hA : ∀ q : Nat, s.heap.size ≤ q → lA s q := fun _ h => h
  have hbA : ¬ lA s b := Nat.not_le.mpr hbl
  refine lv_aload_n hx hb dL_law_654 rfl (lv_at hl 1 rfl) ?_
  refine lv_aload_n hx hb dL_law_655 rfl (lv_at hl 0 rfl) ?_
  refine lv_iload_n hx hb dL_law_656 rfl (lv_at hl 3 rfl) ?_
  refine r_iconst hx hb dL_law_657 ?_
  refine r_iadd (v := ((3 * j + 1 : Nat) : Int)) hx hb (by omega) dL_law_658 ?_
  refine r_sld hx hb hX hbl hbA hS (3 * j + 1) rfl (by omega) hL dL_law_659 ?_
  obtain ⟨r, P, h1, h2⟩ := pq_appendScript l D cI cB cZ cO ((xs (3 * j + 1)).toInt) (rg_self _) xp hm w hRl
  refine lawV (n := 1) (As := [.int (iI (xs (3 * j + 1)).toInt)]) (rest := []) S hE hP hD hS hA h1 gL_law_X4_appendScript rfl (by decide +kernel) ⟨Nat.le_of_ble_eq_true rfl, Nat.le_of_ble_eq_true rfl⟩ 4 rfl (REL_x hRl) rfl hl.1 rfl (Nat.le_of_ble_eq_true rfl) dL_law_660 ⟨by show cells + 6 ≤ 600000; omega, by show slots + 600 ≤ 7302250; omega⟩ (fun w1 hw1 H1 locs1 hP hD hS => ?_)
  obtain ⟨hrc, hM⟩ := h2 w1 hw1
  refine lv_aload_n hx hb dL_law_663 rfl (lv_at hl 2 rfl) ?_
  refine lv_aload_n hx hb dL_law_664 rfl (lv_at hl 0 rfl) ?_
  refine lv_iload_n hx hb dL_law_665 rfl (lv_at hl 3 rfl) ?_
  refine r_iconst hx hb dL_law_666 ?_
  refine r_iadd (v := ((3 * j + 1 : Nat) : Int)) hx hb (by omega) dL_law_667 ?_
  refine r_sld hx hb hX hbl hbA hS (3 * j + 1) rfl (by omega) hL dL_law_668 ?_
  refine lawV (n := 1) (As := [.int (iI (xs (3 * j + 1)).toInt)]) (rest := [.int (iI r)]) S hE hP hD hS hA hM gL_law_X5_appendScript rfl (by decide +kernel) ⟨Nat.le_of_ble_eq_true rfl, Nat.le_of_ble_eq_true rfl⟩ 5 rfl hrc rfl hl.1 rfl (Nat.le_of_ble_eq_true rfl) dL_law_669 ⟨by show cells + 6 + 6 ≤ 600000; omega, by show slots + 600 + 600 ≤ 7302250; omega⟩ (fun w2 hw2 H2 locs2 hP hD hS => ?_)
  refine lv_icmp_eq (tgt := 871) hx hb dL_law_672 (by decide) (fun _ => ?_) (fun h => absurd rfl h)
  exact kk w2 H2 locs2 hw2 hP hD hS
set_option maxHeartbeats 4000000 in
set_option maxRecDepth 100000 in
theorem lc_clearScript (S : CallFix p m c cL_law 4 s #[Value.ref b] wsL_law RL) (hE : EK D cI cB cZ cO s) (hX : va_X b L xs s s.heap) (hbl : b < s.heap.size) (hL : L ≤ 1536) (hj : 3 * j + 3 ≤ L) (hc : cells + 12 ≤ 600000 ∧ slots + 1200 ≤ 7302250) (hRl : REL cI cB cZ cO xp hm w) (hP : va_P D vwCl w H) (hD : va_D (lA s) w) (hS : va_S (lA s) s.heap H locs) (hl : lv_has ls 4 [(0, .ref b), (1, .ref xp), (2, .ref hm), (3, .int (iI ((3 * j : Nat) : Int)))]) (kk : ∀ (w1 : va_W) (H1 : Heap) (locs1 : List Loc), REL cI cB cZ cO xp hm w1 → va_P D vwCl w1 H1 → va_D (lA s) w1 → va_S (lA s) s.heap H1 locs1 → W p l e room_1 s m #[Value.ref b] below meth c H1 locs1 (cells + 12) (slots + 1200) Q (F0 m 871 ls [])) : W p l e room_1 s m #[Value.ref b] below meth c H locs cells slots Q (F0 m 677 ls []) := by
  have hx := S.1
  have hb := S.2.1
  have hA : ∀ q : Nat, s.heap.size ≤ q → lA s q := fun _ h => h
  have hbA : ¬ lA s b := Nat.not_le.mpr hbl
  refine lv_aload_n hx hb dL_law_677 rfl (lv_at hl 1 rfl) ?_
  obtain ⟨r, P, h1, h2⟩ := pq_clearScript l D cI cB cZ cO   xp hm w hRl
  refine lawV (n := 0) (As := []) (rest := []) S hE hP hD hS hA h1 gL_law_X4_clearScript rfl (by decide +kernel) ⟨Nat.le_of_ble_eq_true rfl, Nat.le_of_ble_eq_true rfl⟩ 4 rfl (REL_x hRl) rfl hl.1 rfl (Nat.le_of_ble_eq_true rfl) dL_law_678 ⟨by show cells + 6 ≤ 600000; omega, by show slots + 600 ≤ 7302250; omega⟩ (fun w1 hw1 H1 locs1 hP hD hS => ?_)
  obtain ⟨hrc, hM⟩ := h2 w1 hw1
  refine lv_aload_n hx hb dL_law_681 rfl (lv_at hl 2 rfl) ?_
  refine lawV (n := 0) (As := []) (rest := [.int (iI r)]) S hE hP hD hS hA hM gL_law_X5_clearScript rfl (by decide +kernel) ⟨Nat.le_of_ble_eq_true rfl, Nat.le_of_ble_eq_true rfl⟩ 5 rfl hrc rfl hl.1 rfl (Nat.le_of_ble_eq_true rfl) dL_law_682 ⟨by show cells + 6 + 6 ≤ 600000; omega, by show slots + 600 + 600 ≤ 7302250; omega⟩ (fun w2 hw2 H2 locs2 hP hD hS => ?_)
  refine lv_icmp_eq (tgt := 871) hx hb dL_law_685 (by decide) (fun _ => ?_) (fun h => absurd rfl h)
  exact kk w2 H2 locs2 hw2 hP hD hS
set_option maxHeartbeats 4000000 in
set_option maxRecDepth 100000 in
theorem lc_runScript (S : CallFix p m c cL_law 4 s #[Value.ref b] wsL_law RL) (hE : EK D cI cB cZ cO s) (hX : va_X b L xs s s.heap) (hbl : b < s.heap.size) (hL : L ≤ 1536) (hj : 3 * j + 3 ≤ L) (hc : cells + 12 ≤ 600000 ∧ slots + 1200 ≤ 7302250) (hRl : REL cI cB cZ cO xp hm w) (hP : va_P D vwCl w H) (hD : va_D (lA s) w) (hS : va_S (lA s) s.heap H locs) (hl : lv_has ls 4 [(0, .ref b), (1, .ref xp), (2, .ref hm), (3, .int (iI ((3 * j : Nat) : Int)))]) (kk : ∀ (w1 : va_W) (H1 : Heap) (locs1 : List Loc), REL cI cB cZ cO xp hm w1 → va_P D vwCl w1 H1 → va_D (lA s) w1 → va_S (lA s) s.heap H1 locs1 → W p l e room_1 s m #[Value.ref b] below meth c H1 locs1 (cells + 12) (slots + 1200) Q (F0 m 871 ls [])) : W p l e room_1 s m #[Value.ref b] below meth c H locs cells slots Q (F0 m 690 ls []) := by
  have hx := S.1
  have hb := S.2.1
  have hA : ∀ q : Nat, s.heap.size ≤ q → lA s q := fun _ h => h
  have hbA : ¬ lA s b := Nat.not_le.mpr hbl
  refine lv_aload_n hx hb dL_law_690 rfl (lv_at hl 1 rfl) ?_
  obtain ⟨r, P, h1, h2⟩ := pq_runScript l D cI cB cZ cO   xp hm w hRl
  refine lawV (n := 0) (As := []) (rest := []) S hE hP hD hS hA h1 gL_law_X4_runScript rfl (by decide +kernel) ⟨Nat.le_of_ble_eq_true rfl, Nat.le_of_ble_eq_true rfl⟩ 4 rfl (REL_x hRl) rfl hl.1 rfl (Nat.le_of_ble_eq_true rfl) dL_law_691 ⟨by show cells + 6 ≤ 600000; omega, by show slots + 600 ≤ 7302250; omega⟩ (fun w1 hw1 H1 locs1 hP hD hS => ?_)
  obtain ⟨hrc, hM⟩ := h2 w1 hw1
  refine lv_aload_n hx hb dL_law_694 rfl (lv_at hl 2 rfl) ?_
  refine lawV (n := 0) (As := []) (rest := [.int (iI r)]) S hE hP hD hS hA hM gL_law_X5_runScript rfl (by decide +kernel) ⟨Nat.le_of_ble_eq_true rfl, Nat.le_of_ble_eq_true rfl⟩ 5 rfl hrc rfl hl.1 rfl (Nat.le_of_ble_eq_true rfl) dL_law_695 ⟨by show cells + 6 + 6 ≤ 600000; omega, by show slots + 600 + 600 ≤ 7302250; omega⟩ (fun w2 hw2 H2 locs2 hP hD hS => ?_)
  refine lv_icmp_eq (tgt := 871) hx hb dL_law_698 (by decide) (fun _ => ?_) (fun h => absurd rfl h)
  exact kk w2 H2 locs2 hw2 hP hD hS
set_option maxHeartbeats 4000000 in
set_option maxRecDepth 100000 in
theorem lc_cheapest (S : CallFix p m c cL_law 4 s #[Value.ref b] wsL_law RL) (hE : EK D cI cB cZ cO s) (hX : va_X b L xs s s.heap) (hbl : b < s.heap.size) (hL : L ≤ 1536) (hj : 3 * j + 3 ≤ L) (hc : cells + 12 ≤ 600000 ∧ slots + 1200 ≤ 7302250) (hRl : REL cI cB cZ cO xp hm w) (hP : va_P D vwCl w H) (hD : va_D (lA s) w) (hS : va_S (lA s) s.heap H locs) (hl : lv_has ls 4 [(0, .ref b), (1, .ref xp), (2, .ref hm), (3, .int (iI ((3 * j : Nat) : Int)))]) (kk : ∀ (w1 : va_W) (H1 : Heap) (locs1 : List Loc), REL cI cB cZ cO xp hm w1 → va_P D vwCl w1 H1 → va_D (lA s) w1 → va_S (lA s) s.heap H1 locs1 → W p l e room_1 s m #[Value.ref b] below meth c H1 locs1 (cells + 12) (slots + 1200) Q (F0 m 871 ls [])) : W p l e room_1 s m #[Value.ref b] below meth c H locs cells slots Q (F0 m 703 ls []) := by
  have hx := S.1
  have hb := S.2.1
  have hA : ∀ q : Nat, s.heap.size ≤ q → lA s q := fun _ h => h
  have hbA : ¬ lA s b := Nat.not_le.mpr hbl
  refine lv_aload_n hx hb dL_law_703 rfl (lv_at hl 1 rfl) ?_
  refine lv_aload_n hx hb dL_law_704 rfl (lv_at hl 0 rfl) ?_
  refine lv_iload_n hx hb dL_law_705 rfl (lv_at hl 3 rfl) ?_
  refine r_iconst hx hb dL_law_706 ?_
  refine r_iadd (v := ((3 * j + 1 : Nat) : Int)) hx hb (by omega) dL_law_707 ?_
  refine r_sld hx hb hX hbl hbA hS (3 * j + 1) rfl (by omega) hL dL_law_708 ?_
  refine lv_aload_n hx hb dL_law_709 rfl (lv_at hl 0 rfl) ?_
  refine lv_iload_n hx hb dL_law_710 rfl (lv_at hl 3 rfl) ?_
  refine r_iconst hx hb dL_law_711 ?_
  refine r_iadd (v := ((3 * j + 2 : Nat) : Int)) hx hb (by omega) dL_law_712 ?_
  refine r_sld hx hb hX hbl hbA hS (3 * j + 2) rfl (by omega) hL dL_law_713 ?_
  obtain ⟨r, P, h1, h2⟩ := pq_cheapest l D cI cB cZ cO ((xs (3 * j + 1)).toInt) ((xs (3 * j + 2)).toInt) (rg_self _) (rg_self _) xp hm w hRl
  refine lawV (n := 2) (As := [.int (iI (xs (3 * j + 1)).toInt), .int (iI (xs (3 * j + 2)).toInt)]) (rest := []) S hE hP hD hS hA h1 gL_law_X4_cheapest rfl (by decide +kernel) ⟨Nat.le_of_ble_eq_true rfl, Nat.le_of_ble_eq_true rfl⟩ 4 rfl (REL_x hRl) rfl hl.1 rfl (Nat.le_of_ble_eq_true rfl) dL_law_714 ⟨by show cells + 6 ≤ 600000; omega, by show slots + 600 ≤ 7302250; omega⟩ (fun w1 hw1 H1 locs1 hP hD hS => ?_)
  obtain ⟨hrc, hM⟩ := h2 w1 hw1
  refine lv_aload_n hx hb dL_law_717 rfl (lv_at hl 2 rfl) ?_
  refine lv_aload_n hx hb dL_law_718 rfl (lv_at hl 0 rfl) ?_
  refine lv_iload_n hx hb dL_law_719 rfl (lv_at hl 3 rfl) ?_
  refine r_iconst hx hb dL_law_720 ?_
  refine r_iadd (v := ((3 * j + 1 : Nat) : Int)) hx hb (by omega) dL_law_721 ?_
  refine r_sld hx hb hX hbl hbA hS (3 * j + 1) rfl (by omega) hL dL_law_722 ?_
  refine lv_aload_n hx hb dL_law_723 rfl (lv_at hl 0 rfl) ?_
  refine lv_iload_n hx hb dL_law_724 rfl (lv_at hl 3 rfl) ?_
  refine r_iconst hx hb dL_law_725 ?_
  refine r_iadd (v := ((3 * j + 2 : Nat) : Int)) hx hb (by omega) dL_law_726 ?_
  refine r_sld hx hb hX hbl hbA hS (3 * j + 2) rfl (by omega) hL dL_law_727 ?_
  refine lawV (n := 2) (As := [.int (iI (xs (3 * j + 1)).toInt), .int (iI (xs (3 * j + 2)).toInt)]) (rest := [.int (iI r)]) S hE hP hD hS hA hM gL_law_X5_cheapest rfl (by decide +kernel) ⟨Nat.le_of_ble_eq_true rfl, Nat.le_of_ble_eq_true rfl⟩ 5 rfl hrc rfl hl.1 rfl (Nat.le_of_ble_eq_true rfl) dL_law_728 ⟨by show cells + 6 + 6 ≤ 600000; omega, by show slots + 600 + 600 ≤ 7302250; omega⟩ (fun w2 hw2 H2 locs2 hP hD hS => ?_)
  refine lv_icmp_eq (tgt := 871) hx hb dL_law_731 (by decide) (fun _ => ?_) (fun h => absurd rfl h)
  exact kk w2 H2 locs2 hw2 hP hD hS
set_option maxHeartbeats 4000000 in
set_option maxRecDepth 100000 in
theorem lc_cheapestPrice (S : CallFix p m c cL_law 4 s #[Value.ref b] wsL_law RL) (hE : EK D cI cB cZ cO s) (hX : va_X b L xs s s.heap) (hbl : b < s.heap.size) (hL : L ≤ 1536) (hj : 3 * j + 3 ≤ L) (hc : cells + 12 ≤ 600000 ∧ slots + 1200 ≤ 7302250) (hRl : REL cI cB cZ cO xp hm w) (hP : va_P D vwCl w H) (hD : va_D (lA s) w) (hS : va_S (lA s) s.heap H locs) (hl : lv_has ls 4 [(0, .ref b), (1, .ref xp), (2, .ref hm), (3, .int (iI ((3 * j : Nat) : Int)))]) (kk : ∀ (w1 : va_W) (H1 : Heap) (locs1 : List Loc), REL cI cB cZ cO xp hm w1 → va_P D vwCl w1 H1 → va_D (lA s) w1 → va_S (lA s) s.heap H1 locs1 → W p l e room_1 s m #[Value.ref b] below meth c H1 locs1 (cells + 12) (slots + 1200) Q (F0 m 871 ls [])) : W p l e room_1 s m #[Value.ref b] below meth c H locs cells slots Q (F0 m 736 ls []) := by
  have hx := S.1
  have hb := S.2.1
  have hA : ∀ q : Nat, s.heap.size ≤ q → lA s q := fun _ h => h
  have hbA : ¬ lA s b := Nat.not_le.mpr hbl
  refine lv_aload_n hx hb dL_law_736 rfl (lv_at hl 1 rfl) ?_
  refine lv_aload_n hx hb dL_law_737 rfl (lv_at hl 0 rfl) ?_
  refine lv_iload_n hx hb dL_law_738 rfl (lv_at hl 3 rfl) ?_
  refine r_iconst hx hb dL_law_739 ?_
  refine r_iadd (v := ((3 * j + 1 : Nat) : Int)) hx hb (by omega) dL_law_740 ?_
  refine r_sld hx hb hX hbl hbA hS (3 * j + 1) rfl (by omega) hL dL_law_741 ?_
  refine lv_aload_n hx hb dL_law_742 rfl (lv_at hl 0 rfl) ?_
  refine lv_iload_n hx hb dL_law_743 rfl (lv_at hl 3 rfl) ?_
  refine r_iconst hx hb dL_law_744 ?_
  refine r_iadd (v := ((3 * j + 2 : Nat) : Int)) hx hb (by omega) dL_law_745 ?_
  refine r_sld hx hb hX hbl hbA hS (3 * j + 2) rfl (by omega) hL dL_law_746 ?_
  obtain ⟨r, P, h1, h2⟩ := pq_cheapestPrice l D cI cB cZ cO ((xs (3 * j + 1)).toInt) ((xs (3 * j + 2)).toInt) (rg_self _) (rg_self _) xp hm w hRl
  refine lawV (n := 2) (As := [.int (iI (xs (3 * j + 1)).toInt), .int (iI (xs (3 * j + 2)).toInt)]) (rest := []) S hE hP hD hS hA h1 gL_law_X4_cheapestPrice rfl (by decide +kernel) ⟨Nat.le_of_ble_eq_true rfl, Nat.le_of_ble_eq_true rfl⟩ 4 rfl (REL_x hRl) rfl hl.1 rfl (Nat.le_of_ble_eq_true rfl) dL_law_747 ⟨by show cells + 6 ≤ 600000; omega, by show slots + 600 ≤ 7302250; omega⟩ (fun w1 hw1 H1 locs1 hP hD hS => ?_)
  obtain ⟨hrc, hM⟩ := h2 w1 hw1
  refine lv_aload_n hx hb dL_law_750 rfl (lv_at hl 2 rfl) ?_
  refine lv_aload_n hx hb dL_law_751 rfl (lv_at hl 0 rfl) ?_
  refine lv_iload_n hx hb dL_law_752 rfl (lv_at hl 3 rfl) ?_
  refine r_iconst hx hb dL_law_753 ?_
  refine r_iadd (v := ((3 * j + 1 : Nat) : Int)) hx hb (by omega) dL_law_754 ?_
  refine r_sld hx hb hX hbl hbA hS (3 * j + 1) rfl (by omega) hL dL_law_755 ?_
  refine lv_aload_n hx hb dL_law_756 rfl (lv_at hl 0 rfl) ?_
  refine lv_iload_n hx hb dL_law_757 rfl (lv_at hl 3 rfl) ?_
  refine r_iconst hx hb dL_law_758 ?_
  refine r_iadd (v := ((3 * j + 2 : Nat) : Int)) hx hb (by omega) dL_law_759 ?_
  refine r_sld hx hb hX hbl hbA hS (3 * j + 2) rfl (by omega) hL dL_law_760 ?_
  refine lawV (n := 2) (As := [.int (iI (xs (3 * j + 1)).toInt), .int (iI (xs (3 * j + 2)).toInt)]) (rest := [.int (iI r)]) S hE hP hD hS hA hM gL_law_X5_cheapestPrice rfl (by decide +kernel) ⟨Nat.le_of_ble_eq_true rfl, Nat.le_of_ble_eq_true rfl⟩ 5 rfl hrc rfl hl.1 rfl (Nat.le_of_ble_eq_true rfl) dL_law_761 ⟨by show cells + 6 + 6 ≤ 600000; omega, by show slots + 600 + 600 ≤ 7302250; omega⟩ (fun w2 hw2 H2 locs2 hP hD hS => ?_)
  refine lv_icmp_eq (tgt := 871) hx hb dL_law_764 (by decide) (fun _ => ?_) (fun h => absurd rfl h)
  exact kk w2 H2 locs2 hw2 hP hD hS
set_option maxHeartbeats 4000000 in
set_option maxRecDepth 100000 in
theorem lc_clearing (S : CallFix p m c cL_law 4 s #[Value.ref b] wsL_law RL) (hE : EK D cI cB cZ cO s) (hX : va_X b L xs s s.heap) (hbl : b < s.heap.size) (hL : L ≤ 1536) (hj : 3 * j + 3 ≤ L) (hc : cells + 12 ≤ 600000 ∧ slots + 1200 ≤ 7302250) (hRl : REL cI cB cZ cO xp hm w) (hP : va_P D vwCl w H) (hD : va_D (lA s) w) (hS : va_S (lA s) s.heap H locs) (hl : lv_has ls 4 [(0, .ref b), (1, .ref xp), (2, .ref hm), (3, .int (iI ((3 * j : Nat) : Int)))]) (kk : ∀ (w1 : va_W) (H1 : Heap) (locs1 : List Loc), REL cI cB cZ cO xp hm w1 → va_P D vwCl w1 H1 → va_D (lA s) w1 → va_S (lA s) s.heap H1 locs1 → W p l e room_1 s m #[Value.ref b] below meth c H1 locs1 (cells + 12) (slots + 1200) Q (F0 m 871 ls [])) : W p l e room_1 s m #[Value.ref b] below meth c H locs cells slots Q (F0 m 769 ls []) := by
  have hx := S.1
  have hb := S.2.1
  have hA : ∀ q : Nat, s.heap.size ≤ q → lA s q := fun _ h => h
  have hbA : ¬ lA s b := Nat.not_le.mpr hbl
  refine lv_aload_n hx hb dL_law_769 rfl (lv_at hl 1 rfl) ?_
  refine lv_aload_n hx hb dL_law_770 rfl (lv_at hl 0 rfl) ?_
  refine lv_iload_n hx hb dL_law_771 rfl (lv_at hl 3 rfl) ?_
  refine r_iconst hx hb dL_law_772 ?_
  refine r_iadd (v := ((3 * j + 1 : Nat) : Int)) hx hb (by omega) dL_law_773 ?_
  refine r_sld hx hb hX hbl hbA hS (3 * j + 1) rfl (by omega) hL dL_law_774 ?_
  refine lv_aload_n hx hb dL_law_775 rfl (lv_at hl 0 rfl) ?_
  refine lv_iload_n hx hb dL_law_776 rfl (lv_at hl 3 rfl) ?_
  refine r_iconst hx hb dL_law_777 ?_
  refine r_iadd (v := ((3 * j + 2 : Nat) : Int)) hx hb (by omega) dL_law_778 ?_
  refine r_sld hx hb hX hbl hbA hS (3 * j + 2) rfl (by omega) hL dL_law_779 ?_
  obtain ⟨r, P, h1, h2⟩ := pq_clearing l D cI cB cZ cO ((xs (3 * j + 1)).toInt) ((xs (3 * j + 2)).toInt) (rg_self _) (rg_self _) xp hm w hRl
  refine lawV (n := 2) (As := [.int (iI (xs (3 * j + 1)).toInt), .int (iI (xs (3 * j + 2)).toInt)]) (rest := []) S hE hP hD hS hA h1 gL_law_X4_clearing rfl (by decide +kernel) ⟨Nat.le_of_ble_eq_true rfl, Nat.le_of_ble_eq_true rfl⟩ 4 rfl (REL_x hRl) rfl hl.1 rfl (Nat.le_of_ble_eq_true rfl) dL_law_780 ⟨by show cells + 6 ≤ 600000; omega, by show slots + 600 ≤ 7302250; omega⟩ (fun w1 hw1 H1 locs1 hP hD hS => ?_)
  obtain ⟨hrc, hM⟩ := h2 w1 hw1
  refine lv_aload_n hx hb dL_law_783 rfl (lv_at hl 2 rfl) ?_
  refine lv_aload_n hx hb dL_law_784 rfl (lv_at hl 0 rfl) ?_
  refine lv_iload_n hx hb dL_law_785 rfl (lv_at hl 3 rfl) ?_
  refine r_iconst hx hb dL_law_786 ?_
  refine r_iadd (v := ((3 * j + 1 : Nat) : Int)) hx hb (by omega) dL_law_787 ?_
  refine r_sld hx hb hX hbl hbA hS (3 * j + 1) rfl (by omega) hL dL_law_788 ?_
  refine lv_aload_n hx hb dL_law_789 rfl (lv_at hl 0 rfl) ?_
  refine lv_iload_n hx hb dL_law_790 rfl (lv_at hl 3 rfl) ?_
  refine r_iconst hx hb dL_law_791 ?_
  refine r_iadd (v := ((3 * j + 2 : Nat) : Int)) hx hb (by omega) dL_law_792 ?_
  refine r_sld hx hb hX hbl hbA hS (3 * j + 2) rfl (by omega) hL dL_law_793 ?_
  refine lawV (n := 2) (As := [.int (iI (xs (3 * j + 1)).toInt), .int (iI (xs (3 * j + 2)).toInt)]) (rest := [.int (iI r)]) S hE hP hD hS hA hM gL_law_X5_clearing rfl (by decide +kernel) ⟨Nat.le_of_ble_eq_true rfl, Nat.le_of_ble_eq_true rfl⟩ 5 rfl hrc rfl hl.1 rfl (Nat.le_of_ble_eq_true rfl) dL_law_794 ⟨by show cells + 6 + 6 ≤ 600000; omega, by show slots + 600 + 600 ≤ 7302250; omega⟩ (fun w2 hw2 H2 locs2 hP hD hS => ?_)
  refine lv_icmp_eq (tgt := 871) hx hb dL_law_797 (by decide) (fun _ => ?_) (fun h => absurd rfl h)
  exact kk w2 H2 locs2 hw2 hP hD hS
set_option maxHeartbeats 4000000 in
set_option maxRecDepth 100000 in
theorem lc_save (S : CallFix p m c cL_law 4 s #[Value.ref b] wsL_law RL) (hE : EK D cI cB cZ cO s) (hX : va_X b L xs s s.heap) (hbl : b < s.heap.size) (hL : L ≤ 1536) (hj : 3 * j + 3 ≤ L) (hc : cells + 12 ≤ 600000 ∧ slots + 1200 ≤ 7302250) (hRl : REL cI cB cZ cO xp hm w) (hP : va_P D vwCl w H) (hD : va_D (lA s) w) (hS : va_S (lA s) s.heap H locs) (hl : lv_has ls 4 [(0, .ref b), (1, .ref xp), (2, .ref hm), (3, .int (iI ((3 * j : Nat) : Int)))]) (kk : ∀ (w1 : va_W) (H1 : Heap) (locs1 : List Loc), REL cI cB cZ cO xp hm w1 → va_P D vwCl w1 H1 → va_D (lA s) w1 → va_S (lA s) s.heap H1 locs1 → W p l e room_1 s m #[Value.ref b] below meth c H1 locs1 (cells + 12) (slots + 1200) Q (F0 m 871 ls [])) : W p l e room_1 s m #[Value.ref b] below meth c H locs cells slots Q (F0 m 802 ls []) := by
  have hx := S.1
  have hb := S.2.1
  have hA : ∀ q : Nat, s.heap.size ≤ q → lA s q := fun _ h => h
  have hbA : ¬ lA s b := Nat.not_le.mpr hbl
  refine lv_aload_n hx hb dL_law_802 rfl (lv_at hl 1 rfl) ?_
  refine lv_aload_n hx hb dL_law_803 rfl (lv_at hl 0 rfl) ?_
  refine lv_iload_n hx hb dL_law_804 rfl (lv_at hl 3 rfl) ?_
  refine r_iconst hx hb dL_law_805 ?_
  refine r_iadd (v := ((3 * j + 1 : Nat) : Int)) hx hb (by omega) dL_law_806 ?_
  refine r_sld hx hb hX hbl hbA hS (3 * j + 1) rfl (by omega) hL dL_law_807 ?_
  obtain ⟨r, P, h1, h2⟩ := pq_save l D cI cB cZ cO ((xs (3 * j + 1)).toInt) (rg_self _) xp hm w hRl
  refine lawV (n := 1) (As := [.int (iI (xs (3 * j + 1)).toInt)]) (rest := []) S hE hP hD hS hA h1 gL_law_X4_save rfl (by decide +kernel) ⟨Nat.le_of_ble_eq_true rfl, Nat.le_of_ble_eq_true rfl⟩ 4 rfl (REL_x hRl) rfl hl.1 rfl (Nat.le_of_ble_eq_true rfl) dL_law_808 ⟨by show cells + 6 ≤ 600000; omega, by show slots + 600 ≤ 7302250; omega⟩ (fun w1 hw1 H1 locs1 hP hD hS => ?_)
  obtain ⟨hrc, hM⟩ := h2 w1 hw1
  refine lv_aload_n hx hb dL_law_811 rfl (lv_at hl 2 rfl) ?_
  refine lv_aload_n hx hb dL_law_812 rfl (lv_at hl 0 rfl) ?_
  refine lv_iload_n hx hb dL_law_813 rfl (lv_at hl 3 rfl) ?_
  refine r_iconst hx hb dL_law_814 ?_
  refine r_iadd (v := ((3 * j + 1 : Nat) : Int)) hx hb (by omega) dL_law_815 ?_
  refine r_sld hx hb hX hbl hbA hS (3 * j + 1) rfl (by omega) hL dL_law_816 ?_
  refine lawV (n := 1) (As := [.int (iI (xs (3 * j + 1)).toInt)]) (rest := [.int (iI r)]) S hE hP hD hS hA hM gL_law_X5_save rfl (by decide +kernel) ⟨Nat.le_of_ble_eq_true rfl, Nat.le_of_ble_eq_true rfl⟩ 5 rfl hrc rfl hl.1 rfl (Nat.le_of_ble_eq_true rfl) dL_law_817 ⟨by show cells + 6 + 6 ≤ 600000; omega, by show slots + 600 + 600 ≤ 7302250; omega⟩ (fun w2 hw2 H2 locs2 hP hD hS => ?_)
  refine lv_icmp_eq (tgt := 871) hx hb dL_law_820 (by decide) (fun _ => ?_) (fun h => absurd rfl h)
  exact kk w2 H2 locs2 hw2 hP hD hS
set_option maxHeartbeats 4000000 in
set_option maxRecDepth 100000 in
theorem lc_restore (S : CallFix p m c cL_law 4 s #[Value.ref b] wsL_law RL) (hE : EK D cI cB cZ cO s) (hX : va_X b L xs s s.heap) (hbl : b < s.heap.size) (hL : L ≤ 1536) (hj : 3 * j + 3 ≤ L) (hc : cells + 12 ≤ 600000 ∧ slots + 1200 ≤ 7302250) (hRl : REL cI cB cZ cO xp hm w) (hP : va_P D vwCl w H) (hD : va_D (lA s) w) (hS : va_S (lA s) s.heap H locs) (hl : lv_has ls 4 [(0, .ref b), (1, .ref xp), (2, .ref hm), (3, .int (iI ((3 * j : Nat) : Int)))]) (kk : ∀ (w1 : va_W) (H1 : Heap) (locs1 : List Loc), REL cI cB cZ cO xp hm w1 → va_P D vwCl w1 H1 → va_D (lA s) w1 → va_S (lA s) s.heap H1 locs1 → W p l e room_1 s m #[Value.ref b] below meth c H1 locs1 (cells + 12) (slots + 1200) Q (F0 m 871 ls [])) : W p l e room_1 s m #[Value.ref b] below meth c H locs cells slots Q (F0 m 825 ls []) := by
  have hx := S.1
  have hb := S.2.1
  have hA : ∀ q : Nat, s.heap.size ≤ q → lA s q := fun _ h => h
  have hbA : ¬ lA s b := Nat.not_le.mpr hbl
  refine lv_aload_n hx hb dL_law_825 rfl (lv_at hl 1 rfl) ?_
  refine lv_aload_n hx hb dL_law_826 rfl (lv_at hl 0 rfl) ?_
  refine lv_iload_n hx hb dL_law_827 rfl (lv_at hl 3 rfl) ?_
  refine r_iconst hx hb dL_law_828 ?_
  refine r_iadd (v := ((3 * j + 1 : Nat) : Int)) hx hb (by omega) dL_law_829 ?_
  refine r_sld hx hb hX hbl hbA hS (3 * j + 1) rfl (by omega) hL dL_law_830 ?_
  obtain ⟨r, P, h1, h2⟩ := pq_restore l D cI cB cZ cO ((xs (3 * j + 1)).toInt) (rg_self _) xp hm w hRl
  refine lawV (n := 1) (As := [.int (iI (xs (3 * j + 1)).toInt)]) (rest := []) S hE hP hD hS hA h1 gL_law_X4_restore rfl (by decide +kernel) ⟨Nat.le_of_ble_eq_true rfl, Nat.le_of_ble_eq_true rfl⟩ 4 rfl (REL_x hRl) rfl hl.1 rfl (Nat.le_of_ble_eq_true rfl) dL_law_831 ⟨by show cells + 6 ≤ 600000; omega, by show slots + 600 ≤ 7302250; omega⟩ (fun w1 hw1 H1 locs1 hP hD hS => ?_)
  obtain ⟨hrc, hM⟩ := h2 w1 hw1
  refine lv_aload_n hx hb dL_law_834 rfl (lv_at hl 2 rfl) ?_
  refine lv_aload_n hx hb dL_law_835 rfl (lv_at hl 0 rfl) ?_
  refine lv_iload_n hx hb dL_law_836 rfl (lv_at hl 3 rfl) ?_
  refine r_iconst hx hb dL_law_837 ?_
  refine r_iadd (v := ((3 * j + 1 : Nat) : Int)) hx hb (by omega) dL_law_838 ?_
  refine r_sld hx hb hX hbl hbA hS (3 * j + 1) rfl (by omega) hL dL_law_839 ?_
  refine lawV (n := 1) (As := [.int (iI (xs (3 * j + 1)).toInt)]) (rest := [.int (iI r)]) S hE hP hD hS hA hM gL_law_X5_restore rfl (by decide +kernel) ⟨Nat.le_of_ble_eq_true rfl, Nat.le_of_ble_eq_true rfl⟩ 5 rfl hrc rfl hl.1 rfl (Nat.le_of_ble_eq_true rfl) dL_law_840 ⟨by show cells + 6 + 6 ≤ 600000; omega, by show slots + 600 + 600 ≤ 7302250; omega⟩ (fun w2 hw2 H2 locs2 hP hD hS => ?_)
  refine lv_icmp_eq (tgt := 871) hx hb dL_law_843 (by decide) (fun _ => ?_) (fun h => absurd rfl h)
  exact kk w2 H2 locs2 hw2 hP hD hS
set_option maxHeartbeats 4000000 in
set_option maxRecDepth 100000 in
theorem lc_difference (S : CallFix p m c cL_law 4 s #[Value.ref b] wsL_law RL) (hE : EK D cI cB cZ cO s) (hX : va_X b L xs s s.heap) (hbl : b < s.heap.size) (hL : L ≤ 1536) (hj : 3 * j + 3 ≤ L) (hc : cells + 12 ≤ 600000 ∧ slots + 1200 ≤ 7302250) (hRl : REL cI cB cZ cO xp hm w) (hP : va_P D vwCl w H) (hD : va_D (lA s) w) (hS : va_S (lA s) s.heap H locs) (hl : lv_has ls 4 [(0, .ref b), (1, .ref xp), (2, .ref hm), (3, .int (iI ((3 * j : Nat) : Int)))]) (kk : ∀ (w1 : va_W) (H1 : Heap) (locs1 : List Loc), REL cI cB cZ cO xp hm w1 → va_P D vwCl w1 H1 → va_D (lA s) w1 → va_S (lA s) s.heap H1 locs1 → W p l e room_1 s m #[Value.ref b] below meth c H1 locs1 (cells + 12) (slots + 1200) Q (F0 m 871 ls [])) : W p l e room_1 s m #[Value.ref b] below meth c H locs cells slots Q (F0 m 848 ls []) := by
  have hx := S.1
  have hb := S.2.1
  have hA : ∀ q : Nat, s.heap.size ≤ q → lA s q := fun _ h => h
  have hbA : ¬ lA s b := Nat.not_le.mpr hbl
  refine lv_aload_n hx hb dL_law_848 rfl (lv_at hl 1 rfl) ?_
  refine lv_aload_n hx hb dL_law_849 rfl (lv_at hl 0 rfl) ?_
  refine lv_iload_n hx hb dL_law_850 rfl (lv_at hl 3 rfl) ?_
  refine r_iconst hx hb dL_law_851 ?_
  refine r_iadd (v := ((3 * j + 1 : Nat) : Int)) hx hb (by omega) dL_law_852 ?_
  refine r_sld hx hb hX hbl hbA hS (3 * j + 1) rfl (by omega) hL dL_law_853 ?_
  obtain ⟨r, P, h1, h2⟩ := pq_difference l D cI cB cZ cO ((xs (3 * j + 1)).toInt) (rg_self _) xp hm w hRl
  refine lawV (n := 1) (As := [.int (iI (xs (3 * j + 1)).toInt)]) (rest := []) S hE hP hD hS hA h1 gL_law_X4_difference rfl (by decide +kernel) ⟨Nat.le_of_ble_eq_true rfl, Nat.le_of_ble_eq_true rfl⟩ 4 rfl (REL_x hRl) rfl hl.1 rfl (Nat.le_of_ble_eq_true rfl) dL_law_854 ⟨by show cells + 6 ≤ 600000; omega, by show slots + 600 ≤ 7302250; omega⟩ (fun w1 hw1 H1 locs1 hP hD hS => ?_)
  obtain ⟨hrc, hM⟩ := h2 w1 hw1
  refine lv_aload_n hx hb dL_law_857 rfl (lv_at hl 2 rfl) ?_
  refine lv_aload_n hx hb dL_law_858 rfl (lv_at hl 0 rfl) ?_
  refine lv_iload_n hx hb dL_law_859 rfl (lv_at hl 3 rfl) ?_
  refine r_iconst hx hb dL_law_860 ?_
  refine r_iadd (v := ((3 * j + 1 : Nat) : Int)) hx hb (by omega) dL_law_861 ?_
  refine r_sld hx hb hX hbl hbA hS (3 * j + 1) rfl (by omega) hL dL_law_862 ?_
  refine lawV (n := 1) (As := [.int (iI (xs (3 * j + 1)).toInt)]) (rest := [.int (iI r)]) S hE hP hD hS hA hM gL_law_X5_difference rfl (by decide +kernel) ⟨Nat.le_of_ble_eq_true rfl, Nat.le_of_ble_eq_true rfl⟩ 5 rfl hrc rfl hl.1 rfl (Nat.le_of_ble_eq_true rfl) dL_law_863 ⟨by show cells + 6 + 6 ≤ 600000; omega, by show slots + 600 + 600 ≤ 7302250; omega⟩ (fun w2 hw2 H2 locs2 hP hD hS => ?_)
  refine lv_icmp_eq (tgt := 871) hx hb dL_law_866 (by decide) (fun _ => ?_) (fun h => absurd rfl h)
  exact kk w2 H2 locs2 hw2 hP hD hS

end LAWC
