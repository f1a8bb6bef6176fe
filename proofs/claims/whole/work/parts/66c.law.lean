section LAWC
variable {p : Program} {l : Launch} {e : Env} {s : State} {m : MethodId} {below : List Frame} {meth : Method} {c : Code} {D : va_G} {cI cB cZ cO : ClassId} {b L : Nat} {xs : Nat → Int32} {Q : State → Prop} {H : Heap} {locs : List Loc} {cells slots : Nat} {ls : Array Slot} {xp hm j : Nat} {w : va_W}
set_option maxHeartbeats 4000000 in
set_option maxRecDepth 100000 in
theorem lc_appendCharacter (S : CallFix p m c cL_law 4 s #[Value.ref b] wsL_law RL) (hE : EK D cI cB cZ cO s) (hX : va_X b L xs s s.heap) (hbl : b < s.heap.size) (hL : L ≤ 1536) (hj : 3 * j + 3 ≤ L) (hc : cells + 12 ≤ 600000 ∧ slots + 1200 ≤ 7302250) (hRl : REL cI cB cZ cO xp hm w) (hP : va_P D vwCl w H) (hD : va_D (lA s) w) (hS : va_S (lA s) s.heap H locs) (hl : lv_has ls 4 [(0, .ref b), (1, .ref xp), (2, .ref hm), (3, .int (iI ((3 * j : Nat) : Int)))]) (kk : ∀ (w1 : va_W) (H1 : Heap) (locs1 : List Loc), REL cI cB cZ cO xp hm w1 → va_P D vwCl w1 H1 → va_D (lA s) w1 → va_S (lA s) s.heap H1 locs1 → W p l e room_1 s m #[Value.ref b] below meth c H1 locs1 (cells + 12) (slots + 1200) Q (F0 m 871 ls [])) : W p l e room_1 s m #[Value.ref b] below meth c H locs cells slots Q (F0 m 164 ls []) := by
  have hx := S.1
  have hb := S.2.1
  have hA : ∀ q : Nat, s.heap.size ≤ q → lA s q := fun _ h => h
  have hbA : ¬ lA s b := Nat.not_le.mpr hbl
  refine lv_aload_n hx hb dL_law_164 rfl (lv_at hl 1 rfl) ?_
  refine lv_aload_n hx hb dL_law_165 rfl (lv_at hl 0 rfl) ?_
  refine lv_iload_n hx hb dL_law_166 rfl (lv_at hl 3 rfl) ?_
  refine r_iconst hx hb dL_law_167 ?_
  refine r_iadd (v := ((3 * j + 1 : Nat) : Int)) hx hb (by omega) dL_law_168 ?_
  refine r_sld hx hb hX hbl hbA hS (3 * j + 1) rfl (by omega) hL dL_law_169 ?_
  obtain ⟨r, P, h1, h2⟩ := pq_appendCharacter l D cI cB cZ cO ((xs (3 * j + 1)).toInt) (rg_self _) xp hm w hRl
  refine lawV (n := 1) (As := [.int (iI (xs (3 * j + 1)).toInt)]) (rest := []) S hE hP hD hS hA h1 gL_law_X4_appendCharacter rfl (by decide +kernel) ⟨Nat.le_of_ble_eq_true rfl, Nat.le_of_ble_eq_true rfl⟩ 4 rfl (REL_x hRl) rfl hl.1 rfl (Nat.le_of_ble_eq_true rfl) dL_law_170 ⟨by show cells + 6 ≤ 600000; omega, by show slots + 600 ≤ 7302250; omega⟩ (fun w1 hw1 H1 locs1 hP hD hS => ?_)
  obtain ⟨hrc, hM⟩ := h2 w1 hw1
  refine lv_aload_n hx hb dL_law_173 rfl (lv_at hl 2 rfl) ?_
  refine lv_aload_n hx hb dL_law_174 rfl (lv_at hl 0 rfl) ?_
  refine lv_iload_n hx hb dL_law_175 rfl (lv_at hl 3 rfl) ?_
  refine r_iconst hx hb dL_law_176 ?_
  refine r_iadd (v := ((3 * j + 1 : Nat) : Int)) hx hb (by omega) dL_law_177 ?_
  refine r_sld hx hb hX hbl hbA hS (3 * j + 1) rfl (by omega) hL dL_law_178 ?_
  refine lawV (n := 1) (As := [.int (iI (xs (3 * j + 1)).toInt)]) (rest := [.int (iI r)]) S hE hP hD hS hA hM gL_law_X5_appendCharacter rfl (by decide +kernel) ⟨Nat.le_of_ble_eq_true rfl, Nat.le_of_ble_eq_true rfl⟩ 5 rfl hrc rfl hl.1 rfl (Nat.le_of_ble_eq_true rfl) dL_law_179 ⟨by show cells + 6 + 6 ≤ 600000; omega, by show slots + 600 + 600 ≤ 7302250; omega⟩ (fun w2 hw2 H2 locs2 hP hD hS => ?_)
  refine lv_icmp_eq (tgt := 871) hx hb dL_law_182 (by decide) (fun _ => ?_) (fun h => absurd rfl h)
  exact kk w2 H2 locs2 hw2 hP hD hS
set_option maxHeartbeats 4000000 in
set_option maxRecDepth 100000 in
theorem lc_clearClip (S : CallFix p m c cL_law 4 s #[Value.ref b] wsL_law RL) (hE : EK D cI cB cZ cO s) (hX : va_X b L xs s s.heap) (hbl : b < s.heap.size) (hL : L ≤ 1536) (hj : 3 * j + 3 ≤ L) (hc : cells + 12 ≤ 600000 ∧ slots + 1200 ≤ 7302250) (hRl : REL cI cB cZ cO xp hm w) (hP : va_P D vwCl w H) (hD : va_D (lA s) w) (hS : va_S (lA s) s.heap H locs) (hl : lv_has ls 4 [(0, .ref b), (1, .ref xp), (2, .ref hm), (3, .int (iI ((3 * j : Nat) : Int)))]) (kk : ∀ (w1 : va_W) (H1 : Heap) (locs1 : List Loc), REL cI cB cZ cO xp hm w1 → va_P D vwCl w1 H1 → va_D (lA s) w1 → va_S (lA s) s.heap H1 locs1 → W p l e room_1 s m #[Value.ref b] below meth c H1 locs1 (cells + 12) (slots + 1200) Q (F0 m 871 ls [])) : W p l e room_1 s m #[Value.ref b] below meth c H locs cells slots Q (F0 m 187 ls []) := by
  have hx := S.1
  have hb := S.2.1
  have hA : ∀ q : Nat, s.heap.size ≤ q → lA s q := fun _ h => h
  have hbA : ¬ lA s b := Nat.not_le.mpr hbl
  refine lv_aload_n hx hb dL_law_187 rfl (lv_at hl 1 rfl) ?_
  obtain ⟨r, P, h1, h2⟩ := pq_clearClip l D cI cB cZ cO   xp hm w hRl
  refine lawV (n := 0) (As := []) (rest := []) S hE hP hD hS hA h1 gL_law_X4_clearClip rfl (by decide +kernel) ⟨Nat.le_of_ble_eq_true rfl, Nat.le_of_ble_eq_true rfl⟩ 4 rfl (REL_x hRl) rfl hl.1 rfl (Nat.le_of_ble_eq_true rfl) dL_law_188 ⟨by show cells + 6 ≤ 600000; omega, by show slots + 600 ≤ 7302250; omega⟩ (fun w1 hw1 H1 locs1 hP hD hS => ?_)
  obtain ⟨hrc, hM⟩ := h2 w1 hw1
  refine lv_aload_n hx hb dL_law_191 rfl (lv_at hl 2 rfl) ?_
  refine lawV (n := 0) (As := []) (rest := [.int (iI r)]) S hE hP hD hS hA hM gL_law_X5_clearClip rfl (by decide +kernel) ⟨Nat.le_of_ble_eq_true rfl, Nat.le_of_ble_eq_true rfl⟩ 5 rfl hrc rfl hl.1 rfl (Nat.le_of_ble_eq_true rfl) dL_law_192 ⟨by show cells + 6 + 6 ≤ 600000; omega, by show slots + 600 + 600 ≤ 7302250; omega⟩ (fun w2 hw2 H2 locs2 hP hD hS => ?_)
  refine lv_icmp_eq (tgt := 871) hx hb dL_law_195 (by decide) (fun _ => ?_) (fun h => absurd rfl h)
  exact kk w2 H2 locs2 hw2 hP hD hS
set_option maxHeartbeats 4000000 in
set_option maxRecDepth 100000 in
theorem lc_begin (S : CallFix p m c cL_law 4 s #[Value.ref b] wsL_law RL) (hE : EK D cI cB cZ cO s) (hX : va_X b L xs s s.heap) (hbl : b < s.heap.size) (hL : L ≤ 1536) (hj : 3 * j + 3 ≤ L) (hc : cells + 12 ≤ 600000 ∧ slots + 1200 ≤ 7302250) (hRl : REL cI cB cZ cO xp hm w) (hP : va_P D vwCl w H) (hD : va_D (lA s) w) (hS : va_S (lA s) s.heap H locs) (hl : lv_has ls 4 [(0, .ref b), (1, .ref xp), (2, .ref hm), (3, .int (iI ((3 * j : Nat) : Int)))]) (kk : ∀ (w1 : va_W) (H1 : Heap) (locs1 : List Loc), REL cI cB cZ cO xp hm w1 → va_P D vwCl w1 H1 → va_D (lA s) w1 → va_S (lA s) s.heap H1 locs1 → W p l e room_1 s m #[Value.ref b] below meth c H1 locs1 (cells + 12) (slots + 1200) Q (F0 m 871 ls [])) : W p l e room_1 s m #[Value.ref b] below meth c H locs cells slots Q (F0 m 200 ls []) := by
  have hx := S.1
  have hb := S.2.1
  have hA : ∀ q : Nat, s.heap.size ≤ q → lA s q := fun _ h => h
  have hbA : ¬ lA s b := Nat.not_le.mpr hbl
  refine lv_aload_n hx hb dL_law_200 rfl (lv_at hl 1 rfl) ?_
  obtain ⟨r, P, h1, h2⟩ := pq_begin l D cI cB cZ cO   xp hm w hRl
  refine lawV (n := 0) (As := []) (rest := []) S hE hP hD hS hA h1 gL_law_X4_begin rfl (by decide +kernel) ⟨Nat.le_of_ble_eq_true rfl, Nat.le_of_ble_eq_true rfl⟩ 4 rfl (REL_x hRl) rfl hl.1 rfl (Nat.le_of_ble_eq_true rfl) dL_law_201 ⟨by show cells + 6 ≤ 600000; omega, by show slots + 600 ≤ 7302250; omega⟩ (fun w1 hw1 H1 locs1 hP hD hS => ?_)
  obtain ⟨hrc, hM⟩ := h2 w1 hw1
  refine lv_aload_n hx hb dL_law_204 rfl (lv_at hl 2 rfl) ?_
  refine lawV (n := 0) (As := []) (rest := [.int (iI r)]) S hE hP hD hS hA hM gL_law_X5_begin rfl (by decide +kernel) ⟨Nat.le_of_ble_eq_true rfl, Nat.le_of_ble_eq_true rfl⟩ 5 rfl hrc rfl hl.1 rfl (Nat.le_of_ble_eq_true rfl) dL_law_205 ⟨by show cells + 6 + 6 ≤ 600000; omega, by show slots + 600 + 600 ≤ 7302250; omega⟩ (fun w2 hw2 H2 locs2 hP hD hS => ?_)
  refine lv_icmp_eq (tgt := 871) hx hb dL_law_208 (by decide) (fun _ => ?_) (fun h => absurd rfl h)
  exact kk w2 H2 locs2 hw2 hP hD hS
set_option maxHeartbeats 4000000 in
set_option maxRecDepth 100000 in
theorem lc_insert (S : CallFix p m c cL_law 4 s #[Value.ref b] wsL_law RL) (hE : EK D cI cB cZ cO s) (hX : va_X b L xs s s.heap) (hbl : b < s.heap.size) (hL : L ≤ 1536) (hj : 3 * j + 3 ≤ L) (hc : cells + 12 ≤ 600000 ∧ slots + 1200 ≤ 7302250) (hRl : REL cI cB cZ cO xp hm w) (hP : va_P D vwCl w H) (hD : va_D (lA s) w) (hS : va_S (lA s) s.heap H locs) (hl : lv_has ls 4 [(0, .ref b), (1, .ref xp), (2, .ref hm), (3, .int (iI ((3 * j : Nat) : Int)))]) (kk : ∀ (w1 : va_W) (H1 : Heap) (locs1 : List Loc), REL cI cB cZ cO xp hm w1 → va_P D vwCl w1 H1 → va_D (lA s) w1 → va_S (lA s) s.heap H1 locs1 → W p l e room_1 s m #[Value.ref b] below meth c H1 locs1 (cells + 12) (slots + 1200) Q (F0 m 871 ls [])) : W p l e room_1 s m #[Value.ref b] below meth c H locs cells slots Q (F0 m 213 ls []) := by
  have hx := S.1
  have hb := S.2.1
  have hA : ∀ q : Nat, s.heap.size ≤ q → lA s q := fun _ h => h
  have hbA : ¬ lA s b := Nat.not_le.mpr hbl
  refine lv_aload_n hx hb dL_law_213 rfl (lv_at hl 1 rfl) ?_
  refine lv_aload_n hx hb dL_law_214 rfl (lv_at hl 0 rfl) ?_
  refine lv_iload_n hx hb dL_law_215 rfl (lv_at hl 3 rfl) ?_
  refine r_iconst hx hb dL_law_216 ?_
  refine r_iadd (v := ((3 * j + 1 : Nat) : Int)) hx hb (by omega) dL_law_217 ?_
  refine r_sld hx hb hX hbl hbA hS (3 * j + 1) rfl (by omega) hL dL_law_218 ?_
  obtain ⟨r, P, h1, h2⟩ := pq_insert l D cI cB cZ cO ((xs (3 * j + 1)).toInt) (rg_self _) xp hm w hRl
  refine lawV (n := 1) (As := [.int (iI (xs (3 * j + 1)).toInt)]) (rest := []) S hE hP hD hS hA h1 gL_law_X4_insert rfl (by decide +kernel) ⟨Nat.le_of_ble_eq_true rfl, Nat.le_of_ble_eq_true rfl⟩ 4 rfl (REL_x hRl) rfl hl.1 rfl (Nat.le_of_ble_eq_true rfl) dL_law_219 ⟨by show cells + 6 ≤ 600000; omega, by show slots + 600 ≤ 7302250; omega⟩ (fun w1 hw1 H1 locs1 hP hD hS => ?_)
  obtain ⟨hrc, hM⟩ := h2 w1 hw1
  refine lv_aload_n hx hb dL_law_222 rfl (lv_at hl 2 rfl) ?_
  refine lv_aload_n hx hb dL_law_223 rfl (lv_at hl 0 rfl) ?_
  refine lv_iload_n hx hb dL_law_224 rfl (lv_at hl 3 rfl) ?_
  refine r_iconst hx hb dL_law_225 ?_
  refine r_iadd (v := ((3 * j + 1 : Nat) : Int)) hx hb (by omega) dL_law_226 ?_
  refine r_sld hx hb hX hbl hbA hS (3 * j + 1) rfl (by omega) hL dL_law_227 ?_
  refine lawV (n := 1) (As := [.int (iI (xs (3 * j + 1)).toInt)]) (rest := [.int (iI r)]) S hE hP hD hS hA hM gL_law_X5_insert rfl (by decide +kernel) ⟨Nat.le_of_ble_eq_true rfl, Nat.le_of_ble_eq_true rfl⟩ 5 rfl hrc rfl hl.1 rfl (Nat.le_of_ble_eq_true rfl) dL_law_228 ⟨by show cells + 6 + 6 ≤ 600000; omega, by show slots + 600 + 600 ≤ 7302250; omega⟩ (fun w2 hw2 H2 locs2 hP hD hS => ?_)
  refine lv_icmp_eq (tgt := 871) hx hb dL_law_231 (by decide) (fun _ => ?_) (fun h => absurd rfl h)
  exact kk w2 H2 locs2 hw2 hP hD hS
set_option maxHeartbeats 4000000 in
set_option maxRecDepth 100000 in
theorem lc_erase (S : CallFix p m c cL_law 4 s #[Value.ref b] wsL_law RL) (hE : EK D cI cB cZ cO s) (hX : va_X b L xs s s.heap) (hbl : b < s.heap.size) (hL : L ≤ 1536) (hj : 3 * j + 3 ≤ L) (hc : cells + 12 ≤ 600000 ∧ slots + 1200 ≤ 7302250) (hRl : REL cI cB cZ cO xp hm w) (hP : va_P D vwCl w H) (hD : va_D (lA s) w) (hS : va_S (lA s) s.heap H locs) (hl : lv_has ls 4 [(0, .ref b), (1, .ref xp), (2, .ref hm), (3, .int (iI ((3 * j : Nat) : Int)))]) (kk : ∀ (w1 : va_W) (H1 : Heap) (locs1 : List Loc), REL cI cB cZ cO xp hm w1 → va_P D vwCl w1 H1 → va_D (lA s) w1 → va_S (lA s) s.heap H1 locs1 → W p l e room_1 s m #[Value.ref b] below meth c H1 locs1 (cells + 12) (slots + 1200) Q (F0 m 871 ls [])) : W p l e room_1 s m #[Value.ref b] below meth c H locs cells slots Q (F0 m 236 ls []) := by
  have hx := S.1
  have hb := S.2.1
  have hA : ∀ q : Nat, s.heap.size ≤ q → lA s q := fun _ h => h
  have hbA : ¬ lA s b := Nat.not_le.mpr hbl
  refine lv_aload_n hx hb dL_law_236 rfl (lv_at hl 1 rfl) ?_
  refine lv_aload_n hx hb dL_law_237 rfl (lv_at hl 0 rfl) ?_
  refine lv_iload_n hx hb dL_law_238 rfl (lv_at hl 3 rfl) ?_
  refine r_iconst hx hb dL_law_239 ?_
  refine r_iadd (v := ((3 * j + 1 : Nat) : Int)) hx hb (by omega) dL_law_240 ?_
  refine r_sld hx hb hX hbl hbA hS (3 * j + 1) rfl (by omega) hL dL_law_241 ?_
  refine lv_aload_n hx hb dL_law_242 rfl (lv_at hl 0 rfl) ?_
  refine lv_iload_n hx hb dL_law_243 rfl (lv_at hl 3 rfl) ?_
  refine r_iconst hx hb dL_law_244 ?_
  refine r_iadd (v := ((3 * j + 2 : Nat) : Int)) hx hb (by omega) dL_law_245 ?_
  refine r_sld hx hb hX hbl hbA hS (3 * j + 2) rfl (by omega) hL dL_law_246 ?_
  obtain ⟨r, P, h1, h2⟩ := pq_erase l D cI cB cZ cO ((xs (3 * j + 1)).toInt) ((xs (3 * j + 2)).toInt) (rg_self _) (rg_self _) xp hm w hRl
  refine lawV (n := 2) (As := [.int (iI (xs (3 * j + 1)).toInt), .int (iI (xs (3 * j + 2)).toInt)]) (rest := []) S hE hP hD hS hA h1 gL_law_X4_erase rfl (by decide +kernel) ⟨Nat.le_of_ble_eq_true rfl, Nat.le_of_ble_eq_true rfl⟩ 4 rfl (REL_x hRl) rfl hl.1 rfl (Nat.le_of_ble_eq_true rfl) dL_law_247 ⟨by show cells + 6 ≤ 600000; omega, by show slots + 600 ≤ 7302250; omega⟩ (fun w1 hw1 H1 locs1 hP hD hS => ?_)
  obtain ⟨hrc, hM⟩ := h2 w1 hw1
  refine lv_aload_n hx hb dL_law_250 rfl (lv_at hl 2 rfl) ?_
  refine lv_aload_n hx hb dL_law_251 rfl (lv_at hl 0 rfl) ?_
  refine lv_iload_n hx hb dL_law_252 rfl (lv_at hl 3 rfl) ?_
  refine r_iconst hx hb dL_law_253 ?_
  refine r_iadd (v := ((3 * j + 1 : Nat) : Int)) hx hb (by omega) dL_law_254 ?_
  refine r_sld hx hb hX hbl hbA hS (3 * j + 1) rfl (by omega) hL dL_law_255 ?_
  refine lv_aload_n hx hb dL_law_256 rfl (lv_at hl 0 rfl) ?_
  refine lv_iload_n hx hb dL_law_257 rfl (lv_at hl 3 rfl) ?_
  refine r_iconst hx hb dL_law_258 ?_
  refine r_iadd (v := ((3 * j + 2 : Nat) : Int)) hx hb (by omega) dL_law_259 ?_
  refine r_sld hx hb hX hbl hbA hS (3 * j + 2) rfl (by omega) hL dL_law_260 ?_
  refine lawV (n := 2) (As := [.int (iI (xs (3 * j + 1)).toInt), .int (iI (xs (3 * j + 2)).toInt)]) (rest := [.int (iI r)]) S hE hP hD hS hA hM gL_law_X5_erase rfl (by decide +kernel) ⟨Nat.le_of_ble_eq_true rfl, Nat.le_of_ble_eq_true rfl⟩ 5 rfl hrc rfl hl.1 rfl (Nat.le_of_ble_eq_true rfl) dL_law_261 ⟨by show cells + 6 + 6 ≤ 600000; omega, by show slots + 600 + 600 ≤ 7302250; omega⟩ (fun w2 hw2 H2 locs2 hP hD hS => ?_)
  refine lv_icmp_eq (tgt := 871) hx hb dL_law_264 (by decide) (fun _ => ?_) (fun h => absurd rfl h)
  exact kk w2 H2 locs2 hw2 hP hD hS
set_option maxHeartbeats 4000000 in
set_option maxRecDepth 100000 in
theorem lc_setCursor (S : CallFix p m c cL_law 4 s #[Value.ref b] wsL_law RL) (hE : EK D cI cB cZ cO s) (hX : va_X b L xs s s.heap) (hbl : b < s.heap.size) (hL : L ≤ 1536) (hj : 3 * j + 3 ≤ L) (hc : cells + 12 ≤ 600000 ∧ slots + 1200 ≤ 7302250) (hRl : REL cI cB cZ cO xp hm w) (hP : va_P D vwCl w H) (hD : va_D (lA s) w) (hS : va_S (lA s) s.heap H locs) (hl : lv_has ls 4 [(0, .ref b), (1, .ref xp), (2, .ref hm), (3, .int (iI ((3 * j : Nat) : Int)))]) (kk : ∀ (w1 : va_W) (H1 : Heap) (locs1 : List Loc), REL cI cB cZ cO xp hm w1 → va_P D vwCl w1 H1 → va_D (lA s) w1 → va_S (lA s) s.heap H1 locs1 → W p l e room_1 s m #[Value.ref b] below meth c H1 locs1 (cells + 12) (slots + 1200) Q (F0 m 871 ls [])) : W p l e room_1 s m #[Value.ref b] below meth c H locs cells slots Q (F0 m 269 ls []) := by
  have hx := S.1
  have hb := S.2.1
  have hA : ∀ q : Nat, s.heap.size ≤ q → lA s q := fun _ h => h
  have hbA : ¬ lA s b := Nat.not_le.mpr hbl
  refine lv_aload_n hx hb dL_law_269 rfl (lv_at hl 1 rfl) ?_
  refine lv_aload_n hx hb dL_law_270 rfl (lv_at hl 0 rfl) ?_
  refine lv_iload_n hx hb dL_law_271 rfl (lv_at hl 3 rfl) ?_
  refine r_iconst hx hb dL_law_272 ?_
  refine r_iadd (v := ((3 * j + 1 : Nat) : Int)) hx hb (by omega) dL_law_273 ?_
  refine r_sld hx hb hX hbl hbA hS (3 * j + 1) rfl (by omega) hL dL_law_274 ?_
  obtain ⟨r, P, h1, h2⟩ := pq_setCursor l D cI cB cZ cO ((xs (3 * j + 1)).toInt) (rg_self _) xp hm w hRl
  refine lawV (n := 1) (As := [.int (iI (xs (3 * j + 1)).toInt)]) (rest := []) S hE hP hD hS hA h1 gL_law_X4_setCursor rfl (by decide +kernel) ⟨Nat.le_of_ble_eq_true rfl, Nat.le_of_ble_eq_true rfl⟩ 4 rfl (REL_x hRl) rfl hl.1 rfl (Nat.le_of_ble_eq_true rfl) dL_law_275 ⟨by show cells + 6 ≤ 600000; omega, by show slots + 600 ≤ 7302250; omega⟩ (fun w1 hw1 H1 locs1 hP hD hS => ?_)
  obtain ⟨hrc, hM⟩ := h2 w1 hw1
  refine lv_aload_n hx hb dL_law_278 rfl (lv_at hl 2 rfl) ?_
  refine lv_aload_n hx hb dL_law_279 rfl (lv_at hl 0 rfl) ?_
  refine lv_iload_n hx hb dL_law_280 rfl (lv_at hl 3 rfl) ?_
  refine r_iconst hx hb dL_law_281 ?_
  refine r_iadd (v := ((3 * j + 1 : Nat) : Int)) hx hb (by omega) dL_law_282 ?_
  refine r_sld hx hb hX hbl hbA hS (3 * j + 1) rfl (by omega) hL dL_law_283 ?_
  refine lawV (n := 1) (As := [.int (iI (xs (3 * j + 1)).toInt)]) (rest := [.int (iI r)]) S hE hP hD hS hA hM gL_law_X5_setCursor rfl (by decide +kernel) ⟨Nat.le_of_ble_eq_true rfl, Nat.le_of_ble_eq_true rfl⟩ 5 rfl hrc rfl hl.1 rfl (Nat.le_of_ble_eq_true rfl) dL_law_284 ⟨by show cells + 6 + 6 ≤ 600000; omega, by show slots + 600 + 600 ≤ 7302250; omega⟩ (fun w2 hw2 H2 locs2 hP hD hS => ?_)
  refine lv_icmp_eq (tgt := 871) hx hb dL_law_287 (by decide) (fun _ => ?_) (fun h => absurd rfl h)
  exact kk w2 H2 locs2 hw2 hP hD hS
set_option maxHeartbeats 4000000 in
set_option maxRecDepth 100000 in
theorem lc_setPrices (S : CallFix p m c cL_law 4 s #[Value.ref b] wsL_law RL) (hE : EK D cI cB cZ cO s) (hX : va_X b L xs s s.heap) (hbl : b < s.heap.size) (hL : L ≤ 1536) (hj : 3 * j + 3 ≤ L) (hc : cells + 12 ≤ 600000 ∧ slots + 1200 ≤ 7302250) (hRl : REL cI cB cZ cO xp hm w) (hP : va_P D vwCl w H) (hD : va_D (lA s) w) (hS : va_S (lA s) s.heap H locs) (hl : lv_has ls 4 [(0, .ref b), (1, .ref xp), (2, .ref hm), (3, .int (iI ((3 * j : Nat) : Int)))]) (kk : ∀ (w1 : va_W) (H1 : Heap) (locs1 : List Loc), REL cI cB cZ cO xp hm w1 → va_P D vwCl w1 H1 → va_D (lA s) w1 → va_S (lA s) s.heap H1 locs1 → W p l e room_1 s m #[Value.ref b] below meth c H1 locs1 (cells + 12) (slots + 1200) Q (F0 m 871 ls [])) : W p l e room_1 s m #[Value.ref b] below meth c H locs cells slots Q (F0 m 292 ls []) := by
  have hx := S.1
  have hb := S.2.1
  have hA : ∀ q : Nat, s.heap.size ≤ q → lA s q := fun _ h => h
  have hbA : ¬ lA s b := Nat.not_le.mpr hbl
  refine lv_aload_n hx hb dL_law_292 rfl (lv_at hl 1 rfl) ?_
  refine lv_aload_n hx hb dL_law_293 rfl (lv_at hl 0 rfl) ?_
  refine lv_iload_n hx hb dL_law_294 rfl (lv_at hl 3 rfl) ?_
  refine r_iconst hx hb dL_law_295 ?_
  refine r_iadd (v := ((3 * j + 1 : Nat) : Int)) hx hb (by omega) dL_law_296 ?_
  refine r_sld hx hb hX hbl hbA hS (3 * j + 1) rfl (by omega) hL dL_law_297 ?_
  refine lv_aload_n hx hb dL_law_298 rfl (lv_at hl 0 rfl) ?_
  refine lv_iload_n hx hb dL_law_299 rfl (lv_at hl 3 rfl) ?_
  refine r_iconst hx hb dL_law_300 ?_
  refine r_iadd (v := ((3 * j + 2 : Nat) : Int)) hx hb (by omega) dL_law_301 ?_
  refine r_sld hx hb hX hbl hbA hS (3 * j + 2) rfl (by omega) hL dL_law_302 ?_
  obtain ⟨r, P, h1, h2⟩ := pq_setPrices l D cI cB cZ cO ((xs (3 * j + 1)).toInt) ((xs (3 * j + 2)).toInt) (rg_self _) (rg_self _) xp hm w hRl
  refine lawV (n := 2) (As := [.int (iI (xs (3 * j + 1)).toInt), .int (iI (xs (3 * j + 2)).toInt)]) (rest := []) S hE hP hD hS hA h1 gL_law_X4_setPrices rfl (by decide +kernel) ⟨Nat.le_of_ble_eq_true rfl, Nat.le_of_ble_eq_true rfl⟩ 4 rfl (REL_x hRl) rfl hl.1 rfl (Nat.le_of_ble_eq_true rfl) dL_law_303 ⟨by show cells + 6 ≤ 600000; omega, by show slots + 600 ≤ 7302250; omega⟩ (fun w1 hw1 H1 locs1 hP hD hS => ?_)
  obtain ⟨hrc, hM⟩ := h2 w1 hw1
  refine lv_aload_n hx hb dL_law_306 rfl (lv_at hl 2 rfl) ?_
  refine lv_aload_n hx hb dL_law_307 rfl (lv_at hl 0 rfl) ?_
  refine lv_iload_n hx hb dL_law_308 rfl (lv_at hl 3 rfl) ?_
  refine r_iconst hx hb dL_law_309 ?_
  refine r_iadd (v := ((3 * j + 1 : Nat) : Int)) hx hb (by omega) dL_law_310 ?_
  refine r_sld hx hb hX hbl hbA hS (3 * j + 1) rfl (by omega) hL dL_law_311 ?_
  refine lv_aload_n hx hb dL_law_312 rfl (lv_at hl 0 rfl) ?_
  refine lv_iload_n hx hb dL_law_313 rfl (lv_at hl 3 rfl) ?_
  refine r_iconst hx hb dL_law_314 ?_
  refine r_iadd (v := ((3 * j + 2 : Nat) : Int)) hx hb (by omega) dL_law_315 ?_
  refine r_sld hx hb hX hbl hbA hS (3 * j + 2) rfl (by omega) hL dL_law_316 ?_
  refine lawV (n := 2) (As := [.int (iI (xs (3 * j + 1)).toInt), .int (iI (xs (3 * j + 2)).toInt)]) (rest := [.int (iI r)]) S hE hP hD hS hA hM gL_law_X5_setPrices rfl (by decide +kernel) ⟨Nat.le_of_ble_eq_true rfl, Nat.le_of_ble_eq_true rfl⟩ 5 rfl hrc rfl hl.1 rfl (Nat.le_of_ble_eq_true rfl) dL_law_317 ⟨by show cells + 6 + 6 ≤ 600000; omega, by show slots + 600 + 600 ≤ 7302250; omega⟩ (fun w2 hw2 H2 locs2 hP hD hS => ?_)
  refine lv_icmp_eq (tgt := 871) hx hb dL_law_320 (by decide) (fun _ => ?_) (fun h => absurd rfl h)
  exact kk w2 H2 locs2 hw2 hP hD hS
set_option maxHeartbeats 4000000 in
set_option maxRecDepth 100000 in
theorem lc_character (S : CallFix p m c cL_law 4 s #[Value.ref b] wsL_law RL) (hE : EK D cI cB cZ cO s) (hX : va_X b L xs s s.heap) (hbl : b < s.heap.size) (hL : L ≤ 1536) (hj : 3 * j + 3 ≤ L) (hc : cells + 12 ≤ 600000 ∧ slots + 1200 ≤ 7302250) (hRl : REL cI cB cZ cO xp hm w) (hP : va_P D vwCl w H) (hD : va_D (lA s) w) (hS : va_S (lA s) s.heap H locs) (hl : lv_has ls 4 [(0, .ref b), (1, .ref xp), (2, .ref hm), (3, .int (iI ((3 * j : Nat) : Int)))]) (kk : ∀ (w1 : va_W) (H1 : Heap) (locs1 : List Loc), REL cI cB cZ cO xp hm w1 → va_P D vwCl w1 H1 → va_D (lA s) w1 → va_S (lA s) s.heap H1 locs1 → W p l e room_1 s m #[Value.ref b] below meth c H1 locs1 (cells + 12) (slots + 1200) Q (F0 m 871 ls [])) : W p l e room_1 s m #[Value.ref b] below meth c H locs cells slots Q (F0 m 325 ls []) := by
  have hx := S.1
  have hb := S.2.1
  have hA : ∀ q : Nat, s.heap.size ≤ q → lA s q := fun _ h => h
  have hbA : ¬ lA s b := Nat.not_le.mpr hbl
  refine lv_aload_n hx hb dL_law_325 rfl (lv_at hl 1 rfl) ?_
  refine lv_aload_n hx hb dL_law_326 rfl (lv_at hl 0 rfl) ?_
  refine lv_iload_n hx hb dL_law_327 rfl (lv_at hl 3 rfl) ?_
  refine r_iconst hx hb dL_law_328 ?_
  refine r_iadd (v := ((3 * j + 1 : Nat) : Int)) hx hb (by omega) dL_law_329 ?_
  refine r_sld hx hb hX hbl hbA hS (3 * j + 1) rfl (by omega) hL dL_law_330 ?_
  obtain ⟨r, P, h1, h2⟩ := pq_character l D cI cB cZ cO ((xs (3 * j + 1)).toInt) (rg_self _) xp hm w hRl
  refine lawV (n := 1) (As := [.int (iI (xs (3 * j + 1)).toInt)]) (rest := []) S hE hP hD hS hA h1 gL_law_X4_character rfl (by decide +kernel) ⟨Nat.le_of_ble_eq_true rfl, Nat.le_of_ble_eq_true rfl⟩ 4 rfl (REL_x hRl) rfl hl.1 rfl (Nat.le_of_ble_eq_true rfl) dL_law_331 ⟨by show cells + 6 ≤ 600000; omega, by show slots + 600 ≤ 7302250; omega⟩ (fun w1 hw1 H1 locs1 hP hD hS => ?_)
  obtain ⟨hrc, hM⟩ := h2 w1 hw1
  refine lv_aload_n hx hb dL_law_334 rfl (lv_at hl 2 rfl) ?_
  refine lv_aload_n hx hb dL_law_335 rfl (lv_at hl 0 rfl) ?_
  refine lv_iload_n hx hb dL_law_336 rfl (lv_at hl 3 rfl) ?_
  refine r_iconst hx hb dL_law_337 ?_
  refine r_iadd (v := ((3 * j + 1 : Nat) : Int)) hx hb (by omega) dL_law_338 ?_
  refine r_sld hx hb hX hbl hbA hS (3 * j + 1) rfl (by omega) hL dL_law_339 ?_
  refine lawV (n := 1) (As := [.int (iI (xs (3 * j + 1)).toInt)]) (rest := [.int (iI r)]) S hE hP hD hS hA hM gL_law_X5_character rfl (by decide +kernel) ⟨Nat.le_of_ble_eq_true rfl, Nat.le_of_ble_eq_true rfl⟩ 5 rfl hrc rfl hl.1 rfl (Nat.le_of_ble_eq_true rfl) dL_law_340 ⟨by show cells + 6 + 6 ≤ 600000; omega, by show slots + 600 + 600 ≤ 7302250; omega⟩ (fun w2 hw2 H2 locs2 hP hD hS => ?_)
  refine lv_icmp_eq (tgt := 871) hx hb dL_law_343 (by decide) (fun _ => ?_) (fun h => absurd rfl h)
  exact kk w2 H2 locs2 hw2 hP hD hS
set_option maxHeartbeats 4000000 in
set_option maxRecDepth 100000 in
theorem lc_author (S : CallFix p m c cL_law 4 s #[Value.ref b] wsL_law RL) (hE : EK D cI cB cZ cO s) (hX : va_X b L xs s s.heap) (hbl : b < s.heap.size) (hL : L ≤ 1536) (hj : 3 * j + 3 ≤ L) (hc : cells + 12 ≤ 600000 ∧ slots + 1200 ≤ 7302250) (hRl : REL cI cB cZ cO xp hm w) (hP : va_P D vwCl w H) (hD : va_D (lA s) w) (hS : va_S (lA s) s.heap H locs) (hl : lv_has ls 4 [(0, .ref b), (1, .ref xp), (2, .ref hm), (3, .int (iI ((3 * j : Nat) : Int)))]) (kk : ∀ (w1 : va_W) (H1 : Heap) (locs1 : List Loc), REL cI cB cZ cO xp hm w1 → va_P D vwCl w1 H1 → va_D (lA s) w1 → va_S (lA s) s.heap H1 locs1 → W p l e room_1 s m #[Value.ref b] below meth c H1 locs1 (cells + 12) (slots + 1200) Q (F0 m 871 ls [])) : W p l e room_1 s m #[Value.ref b] below meth c H locs cells slots Q (F0 m 348 ls []) := by
  have hx := S.1
  have hb := S.2.1
  have hA : ∀ q : Nat, s.heap.size ≤ q → lA s q := fun _ h => h
  have hbA : ¬ lA s b := Nat.not_le.mpr hbl
  refine lv_aload_n hx hb dL_law_348 rfl (lv_at hl 1 rfl) ?_
  refine lv_aload_n hx hb dL_law_349 rfl (lv_at hl 0 rfl) ?_
  refine lv_iload_n hx hb dL_law_350 rfl (lv_at hl 3 rfl) ?_
  refine r_iconst hx hb dL_law_351 ?_
  refine r_iadd (v := ((3 * j + 1 : Nat) : Int)) hx hb (by omega) dL_law_352 ?_
  refine r_sld hx hb hX hbl hbA hS (3 * j + 1) rfl (by omega) hL dL_law_353 ?_
  obtain ⟨r, P, h1, h2⟩ := pq_author l D cI cB cZ cO ((xs (3 * j + 1)).toInt) (rg_self _) xp hm w hRl
  refine lawV (n := 1) (As := [.int (iI (xs (3 * j + 1)).toInt)]) (rest := []) S hE hP hD hS hA h1 gL_law_X4_author rfl (by decide +kernel) ⟨Nat.le_of_ble_eq_true rfl, Nat.le_of_ble_eq_true rfl⟩ 4 rfl (REL_x hRl) rfl hl.1 rfl (Nat.le_of_ble_eq_true rfl) dL_law_354 ⟨by show cells + 6 ≤ 600000; omega, by show slots + 600 ≤ 7302250; omega⟩ (fun w1 hw1 H1 locs1 hP hD hS => ?_)
  obtain ⟨hrc, hM⟩ := h2 w1 hw1
  refine lv_aload_n hx hb dL_law_357 rfl (lv_at hl 2 rfl) ?_
  refine lv_aload_n hx hb dL_law_358 rfl (lv_at hl 0 rfl) ?_
  refine lv_iload_n hx hb dL_law_359 rfl (lv_at hl 3 rfl) ?_
  refine r_iconst hx hb dL_law_360 ?_
  refine r_iadd (v := ((3 * j + 1 : Nat) : Int)) hx hb (by omega) dL_law_361 ?_
  refine r_sld hx hb hX hbl hbA hS (3 * j + 1) rfl (by omega) hL dL_law_362 ?_
  refine lawV (n := 1) (As := [.int (iI (xs (3 * j + 1)).toInt)]) (rest := [.int (iI r)]) S hE hP hD hS hA hM gL_law_X5_author rfl (by decide +kernel) ⟨Nat.le_of_ble_eq_true rfl, Nat.le_of_ble_eq_true rfl⟩ 5 rfl hrc rfl hl.1 rfl (Nat.le_of_ble_eq_true rfl) dL_law_363 ⟨by show cells + 6 + 6 ≤ 600000; omega, by show slots + 600 + 600 ≤ 7302250; omega⟩ (fun w2 hw2 H2 locs2 hP hD hS => ?_)
  refine lv_icmp_eq (tgt := 871) hx hb dL_law_366 (by decide) (fun _ => ?_) (fun h => absurd rfl h)
  exact kk w2 H2 locs2 hw2 hP hD hS
set_option maxHeartbeats 4000000 in
set_option maxRecDepth 100000 in
theorem lc_count (S : CallFix p m c cL_law 4 s #[Value.ref b] wsL_law RL) (hE : EK D cI cB cZ cO s) (hX : va_X b L xs s s.heap) (hbl : b < s.heap.size) (hL : L ≤ 1536) (hj : 3 * j + 3 ≤ L) (hc : cells + 12 ≤ 600000 ∧ slots + 1200 ≤ 7302250) (hRl : REL cI cB cZ cO xp hm w) (hP : va_P D vwCl w H) (hD : va_D (lA s) w) (hS : va_S (lA s) s.heap H locs) (hl : lv_has ls 4 [(0, .ref b), (1, .ref xp), (2, .ref hm), (3, .int (iI ((3 * j : Nat) : Int)))]) (kk : ∀ (w1 : va_W) (H1 : Heap) (locs1 : List Loc), REL cI cB cZ cO xp hm w1 → va_P D vwCl w1 H1 → va_D (lA s) w1 → va_S (lA s) s.heap H1 locs1 → W p l e room_1 s m #[Value.ref b] below meth c H1 locs1 (cells + 12) (slots + 1200) Q (F0 m 871 ls [])) : W p l e room_1 s m #[Value.ref b] below meth c H locs cells slots Q (F0 m 371 ls []) := by
  have hx := S.1
  have hb := S.2.1
  have hA : ∀ q : Nat, s.heap.size ≤ q → lA s q := fun _ h => h
  have hbA : ¬ lA s b := Nat.not_le.mpr hbl
  refine lv_aload_n hx hb dL_law_371 rfl (lv_at hl 1 rfl) ?_
  refine lv_aload_n hx hb dL_law_372 rfl (lv_at hl 0 rfl) ?_
  refine lv_iload_n hx hb dL_law_373 rfl (lv_at hl 3 rfl) ?_
  refine r_iconst hx hb dL_law_374 ?_
  refine r_iadd (v := ((3 * j + 1 : Nat) : Int)) hx hb (by omega) dL_law_375 ?_
  refine r_sld hx hb hX hbl hbA hS (3 * j + 1) rfl (by omega) hL dL_law_376 ?_
  obtain ⟨r, P, h1, h2⟩ := pq_count l D cI cB cZ cO ((xs (3 * j + 1)).toInt) (rg_self _) xp hm w hRl
  refine lawV (n := 1) (As := [.int (iI (xs (3 * j + 1)).toInt)]) (rest := []) S hE hP hD hS hA h1 gL_law_X4_count rfl (by decide +kernel) ⟨Nat.le_of_ble_eq_true rfl, Nat.le_of_ble_eq_true rfl⟩ 4 rfl (REL_x hRl) rfl hl.1 rfl (Nat.le_of_ble_eq_true rfl) dL_law_377 ⟨by show cells + 6 ≤ 600000; omega, by show slots + 600 ≤ 7302250; omega⟩ (fun w1 hw1 H1 locs1 hP hD hS => ?_)
  obtain ⟨hrc, hM⟩ := h2 w1 hw1
  refine lv_aload_n hx hb dL_law_380 rfl (lv_at hl 2 rfl) ?_
  refine lv_aload_n hx hb dL_law_381 rfl (lv_at hl 0 rfl) ?_
  refine lv_iload_n hx hb dL_law_382 rfl (lv_at hl 3 rfl) ?_
  refine r_iconst hx hb dL_law_383 ?_
  refine r_iadd (v := ((3 * j + 1 : Nat) : Int)) hx hb (by omega) dL_law_384 ?_
  refine r_sld hx hb hX hbl hbA hS (3 * j + 1) rfl (by omega) hL dL_law_385 ?_
  refine lawV (n := 1) (As := [.int (iI (xs (3 * j + 1)).toInt)]) (rest := [.int (iI r)]) S hE hP hD hS hA hM gL_law_X5_count rfl (by decide +kernel) ⟨Nat.le_of_ble_eq_true rfl, Nat.le_of_ble_eq_true rfl⟩ 5 rfl hrc rfl hl.1 rfl (Nat.le_of_ble_eq_true rfl) dL_law_386 ⟨by show cells + 6 + 6 ≤ 600000; omega, by show slots + 600 + 600 ≤ 7302250; omega⟩ (fun w2 hw2 H2 locs2 hP hD hS => ?_)
  refine lv_icmp_eq (tgt := 871) hx hb dL_law_389 (by decide) (fun _ => ?_) (fun h => absurd rfl h)
  exact kk w2 H2 locs2 hw2 hP hD hS
set_option maxHeartbeats 4000000 in
set_option maxRecDepth 100000 in
theorem lc_edit (S : CallFix p m c cL_law 4 s #[Value.ref b] wsL_law RL) (hE : EK D cI cB cZ cO s) (hX : va_X b L xs s s.heap) (hbl : b < s.heap.size) (hL : L ≤ 1536) (hj : 3 * j + 3 ≤ L) (hc : cells + 12 ≤ 600000 ∧ slots + 1200 ≤ 7302250) (hRl : REL cI cB cZ cO xp hm w) (hP : va_P D vwCl w H) (hD : va_D (lA s) w) (hS : va_S (lA s) s.heap H locs) (hl : lv_has ls 4 [(0, .ref b), (1, .ref xp), (2, .ref hm), (3, .int (iI ((3 * j : Nat) : Int)))]) (kk : ∀ (w1 : va_W) (H1 : Heap) (locs1 : List Loc), REL cI cB cZ cO xp hm w1 → va_P D vwCl w1 H1 → va_D (lA s) w1 → va_S (lA s) s.heap H1 locs1 → W p l e room_1 s m #[Value.ref b] below meth c H1 locs1 (cells + 12) (slots + 1200) Q (F0 m 871 ls [])) : W p l e room_1 s m #[Value.ref b] below meth c H locs cells slots Q (F0 m 394 ls []) := by
  have hx := S.1
  have hb := S.2.1
  have hA : ∀ q : Nat, s.heap.size ≤ q → lA s q := fun _ h => h
  have hbA : ¬ lA s b := Nat.not_le.mpr hbl
  refine lv_aload_n hx hb dL_law_394 rfl (lv_at hl 1 rfl) ?_
  refine lv_aload_n hx hb dL_law_395 rfl (lv_at hl 0 rfl) ?_
  refine lv_iload_n hx hb dL_law_396 rfl (lv_at hl 3 rfl) ?_
  refine r_iconst hx hb dL_law_397 ?_
  refine r_iadd (v := ((3 * j + 1 : Nat) : Int)) hx hb (by omega) dL_law_398 ?_
  refine r_sld hx hb hX hbl hbA hS (3 * j + 1) rfl (by omega) hL dL_law_399 ?_
  refine lv_aload_n hx hb dL_law_400 rfl (lv_at hl 0 rfl) ?_
  refine lv_iload_n hx hb dL_law_401 rfl (lv_at hl 3 rfl) ?_
  refine r_iconst hx hb dL_law_402 ?_
  refine r_iadd (v := ((3 * j + 2 : Nat) : Int)) hx hb (by omega) dL_law_403 ?_
  refine r_sld hx hb hX hbl hbA hS (3 * j + 2) rfl (by omega) hL dL_law_404 ?_
  obtain ⟨r, P, h1, h2⟩ := pq_edit l D cI cB cZ cO ((xs (3 * j + 1)).toInt) ((xs (3 * j + 2)).toInt) (rg_self _) (rg_self _) xp hm w hRl
  refine lawV (n := 2) (As := [.int (iI (xs (3 * j + 1)).toInt), .int (iI (xs (3 * j + 2)).toInt)]) (rest := []) S hE hP hD hS hA h1 gL_law_X4_edit rfl (by decide +kernel) ⟨Nat.le_of_ble_eq_true rfl, Nat.le_of_ble_eq_true rfl⟩ 4 rfl (REL_x hRl) rfl hl.1 rfl (Nat.le_of_ble_eq_true rfl) dL_law_405 ⟨by show cells + 6 ≤ 600000; omega, by show slots + 600 ≤ 7302250; omega⟩ (fun w1 hw1 H1 locs1 hP hD hS => ?_)
  obtain ⟨hrc, hM⟩ := h2 w1 hw1
  refine lv_aload_n hx hb dL_law_408 rfl (lv_at hl 2 rfl) ?_
  refine lv_aload_n hx hb dL_law_409 rfl (lv_at hl 0 rfl) ?_
  refine lv_iload_n hx hb dL_law_410 rfl (lv_at hl 3 rfl) ?_
  refine r_iconst hx hb dL_law_411 ?_
  refine r_iadd (v := ((3 * j + 1 : Nat) : Int)) hx hb (by omega) dL_law_412 ?_
  refine r_sld hx hb hX hbl hbA hS (3 * j + 1) rfl (by omega) hL dL_law_413 ?_
  refine lv_aload_n hx hb dL_law_414 rfl (lv_at hl 0 rfl) ?_
  refine lv_iload_n hx hb dL_law_415 rfl (lv_at hl 3 rfl) ?_
  refine r_iconst hx hb dL_law_416 ?_
  refine r_iadd (v := ((3 * j + 2 : Nat) : Int)) hx hb (by omega) dL_law_417 ?_
  refine r_sld hx hb hX hbl hbA hS (3 * j + 2) rfl (by omega) hL dL_law_418 ?_
  refine lawV (n := 2) (As := [.int (iI (xs (3 * j + 1)).toInt), .int (iI (xs (3 * j + 2)).toInt)]) (rest := [.int (iI r)]) S hE hP hD hS hA hM gL_law_X5_edit rfl (by decide +kernel) ⟨Nat.le_of_ble_eq_true rfl, Nat.le_of_ble_eq_true rfl⟩ 5 rfl hrc rfl hl.1 rfl (Nat.le_of_ble_eq_true rfl) dL_law_419 ⟨by show cells + 6 + 6 ≤ 600000; omega, by show slots + 600 + 600 ≤ 7302250; omega⟩ (fun w2 hw2 H2 locs2 hP hD hS => ?_)
  refine lv_icmp_eq (tgt := 871) hx hb dL_law_422 (by decide) (fun _ => ?_) (fun h => absurd rfl h)
  exact kk w2 H2 locs2 hw2 hP hD hS
set_option maxHeartbeats 4000000 in
set_option maxRecDepth 100000 in
theorem lc_commute (S : CallFix p m c cL_law 4 s #[Value.ref b] wsL_law RL) (hE : EK D cI cB cZ cO s) (hX : va_X b L xs s s.heap) (hbl : b < s.heap.size) (hL : L ≤ 1536) (hj : 3 * j + 3 ≤ L) (hc : cells + 12 ≤ 600000 ∧ slots + 1200 ≤ 7302250) (hRl : REL cI cB cZ cO xp hm w) (hP : va_P D vwCl w H) (hD : va_D (lA s) w) (hS : va_S (lA s) s.heap H locs) (hl : lv_has ls 4 [(0, .ref b), (1, .ref xp), (2, .ref hm), (3, .int (iI ((3 * j : Nat) : Int)))]) (kk : ∀ (w1 : va_W) (H1 : Heap) (locs1 : List Loc), REL cI cB cZ cO xp hm w1 → va_P D vwCl w1 H1 → va_D (lA s) w1 → va_S (lA s) s.heap H1 locs1 → W p l e room_1 s m #[Value.ref b] below meth c H1 locs1 (cells + 12) (slots + 1200) Q (F0 m 871 ls [])) : W p l e room_1 s m #[Value.ref b] below meth c H locs cells slots Q (F0 m 427 ls []) := by
  have hx := S.1
  have hb := S.2.1
  have hA : ∀ q : Nat, s.heap.size ≤ q → lA s q := fun _ h => h
  have hbA : ¬ lA s b := Nat.not_le.mpr hbl
  refine lv_aload_n hx hb dL_law_427 rfl (lv_at hl 1 rfl) ?_
  refine lv_aload_n hx hb dL_law_428 rfl (lv_at hl 0 rfl) ?_
  refine lv_iload_n hx hb dL_law_429 rfl (lv_at hl 3 rfl) ?_
  refine r_iconst hx hb dL_law_430 ?_
  refine r_iadd (v := ((3 * j + 1 : Nat) : Int)) hx hb (by omega) dL_law_431 ?_
  refine r_sld hx hb hX hbl hbA hS (3 * j + 1) rfl (by omega) hL dL_law_432 ?_
  refine lv_aload_n hx hb dL_law_433 rfl (lv_at hl 0 rfl) ?_
  refine lv_iload_n hx hb dL_law_434 rfl (lv_at hl 3 rfl) ?_
  refine r_iconst hx hb dL_law_435 ?_
  refine r_iadd (v := ((3 * j + 2 : Nat) : Int)) hx hb (by omega) dL_law_436 ?_
  refine r_sld hx hb hX hbl hbA hS (3 * j + 2) rfl (by omega) hL dL_law_437 ?_
  obtain ⟨r, P, h1, h2⟩ := pq_commute l D cI cB cZ cO ((xs (3 * j + 1)).toInt) ((xs (3 * j + 2)).toInt) (rg_self _) (rg_self _) xp hm w hRl
  refine lawV (n := 2) (As := [.int (iI (xs (3 * j + 1)).toInt), .int (iI (xs (3 * j + 2)).toInt)]) (rest := []) S hE hP hD hS hA h1 gL_law_X4_commute rfl (by decide +kernel) ⟨Nat.le_of_ble_eq_true rfl, Nat.le_of_ble_eq_true rfl⟩ 4 rfl (REL_x hRl) rfl hl.1 rfl (Nat.le_of_ble_eq_true rfl) dL_law_438 ⟨by show cells + 6 ≤ 600000; omega, by show slots + 600 ≤ 7302250; omega⟩ (fun w1 hw1 H1 locs1 hP hD hS => ?_)
  obtain ⟨hrc, hM⟩ := h2 w1 hw1
  refine lv_aload_n hx hb dL_law_441 rfl (lv_at hl 2 rfl) ?_
  refine lv_aload_n hx hb dL_law_442 rfl (lv_at hl 0 rfl) ?_
  refine lv_iload_n hx hb dL_law_443 rfl (lv_at hl 3 rfl) ?_
  refine r_iconst hx hb dL_law_444 ?_
  refine r_iadd (v := ((3 * j + 1 : Nat) : Int)) hx hb (by omega) dL_law_445 ?_
  refine r_sld hx hb hX hbl hbA hS (3 * j + 1) rfl (by omega) hL dL_law_446 ?_
  refine lv_aload_n hx hb dL_law_447 rfl (lv_at hl 0 rfl) ?_
  refine lv_iload_n hx hb dL_law_448 rfl (lv_at hl 3 rfl) ?_
  refine r_iconst hx hb dL_law_449 ?_
  refine r_iadd (v := ((3 * j + 2 : Nat) : Int)) hx hb (by omega) dL_law_450 ?_
  refine r_sld hx hb hX hbl hbA hS (3 * j + 2) rfl (by omega) hL dL_law_451 ?_
  refine lawV (n := 2) (As := [.int (iI (xs (3 * j + 1)).toInt), .int (iI (xs (3 * j + 2)).toInt)]) (rest := [.int (iI r)]) S hE hP hD hS hA hM gL_law_X5_commute rfl (by decide +kernel) ⟨Nat.le_of_ble_eq_true rfl, Nat.le_of_ble_eq_true rfl⟩ 5 rfl hrc rfl hl.1 rfl (Nat.le_of_ble_eq_true rfl) dL_law_452 ⟨by show cells + 6 + 6 ≤ 600000; omega, by show slots + 600 + 600 ≤ 7302250; omega⟩ (fun w2 hw2 H2 locs2 hP hD hS => ?_)
  refine lv_icmp_eq (tgt := 871) hx hb dL_law_455 (by decide) (fun _ => ?_) (fun h => absurd rfl h)
  exact kk w2 H2 locs2 hw2 hP hD hS
set_option maxHeartbeats 4000000 in
set_option maxRecDepth 100000 in
theorem lc_closure (S : CallFix p m c cL_law 4 s #[Value.ref b] wsL_law RL) (hE : EK D cI cB cZ cO s) (hX : va_X b L xs s s.heap) (hbl : b < s.heap.size) (hL : L ≤ 1536) (hj : 3 * j + 3 ≤ L) (hc : cells + 12 ≤ 600000 ∧ slots + 1200 ≤ 7302250) (hRl : REL cI cB cZ cO xp hm w) (hP : va_P D vwCl w H) (hD : va_D (lA s) w) (hS : va_S (lA s) s.heap H locs) (hl : lv_has ls 4 [(0, .ref b), (1, .ref xp), (2, .ref hm), (3, .int (iI ((3 * j : Nat) : Int)))]) (kk : ∀ (w1 : va_W) (H1 : Heap) (locs1 : List Loc), REL cI cB cZ cO xp hm w1 → va_P D vwCl w1 H1 → va_D (lA s) w1 → va_S (lA s) s.heap H1 locs1 → W p l e room_1 s m #[Value.ref b] below meth c H1 locs1 (cells + 12) (slots + 1200) Q (F0 m 871 ls [])) : W p l e room_1 s m #[Value.ref b] below meth c H locs cells slots Q (F0 m 460 ls []) := by
  have hx := S.1
  have hb := S.2.1
  have hA : ∀ q : Nat, s.heap.size ≤ q → lA s q := fun _ h => h
  have hbA : ¬ lA s b := Nat.not_le.mpr hbl
  refine lv_aload_n hx hb dL_law_460 rfl (lv_at hl 1 rfl) ?_
  refine lv_aload_n hx hb dL_law_461 rfl (lv_at hl 0 rfl) ?_
  refine lv_iload_n hx hb dL_law_462 rfl (lv_at hl 3 rfl) ?_
  refine r_iconst hx hb dL_law_463 ?_
  refine r_iadd (v := ((3 * j + 1 : Nat) : Int)) hx hb (by omega) dL_law_464 ?_
  refine r_sld hx hb hX hbl hbA hS (3 * j + 1) rfl (by omega) hL dL_law_465 ?_
  obtain ⟨r, P, h1, h2⟩ := pq_closure l D cI cB cZ cO ((xs (3 * j + 1)).toInt) (rg_self _) xp hm w hRl
  refine lawV (n := 1) (As := [.int (iI (xs (3 * j + 1)).toInt)]) (rest := []) S hE hP hD hS hA h1 gL_law_X4_closure rfl (by decide +kernel) ⟨Nat.le_of_ble_eq_true rfl, Nat.le_of_ble_eq_true rfl⟩ 4 rfl (REL_x hRl) rfl hl.1 rfl (Nat.le_of_ble_eq_true rfl) dL_law_466 ⟨by show cells + 6 ≤ 600000; omega, by show slots + 600 ≤ 7302250; omega⟩ (fun w1 hw1 H1 locs1 hP hD hS => ?_)
  obtain ⟨hrc, hM⟩ := h2 w1 hw1
  refine lv_aload_n hx hb dL_law_469 rfl (lv_at hl 2 rfl) ?_
  refine lv_aload_n hx hb dL_law_470 rfl (lv_at hl 0 rfl) ?_
  refine lv_iload_n hx hb dL_law_471 rfl (lv_at hl 3 rfl) ?_
  refine r_iconst hx hb dL_law_472 ?_
  refine r_iadd (v := ((3 * j + 1 : Nat) : Int)) hx hb (by omega) dL_law_473 ?_
  refine r_sld hx hb hX hbl hbA hS (3 * j + 1) rfl (by omega) hL dL_law_474 ?_
  refine lawV (n := 1) (As := [.int (iI (xs (3 * j + 1)).toInt)]) (rest := [.int (iI r)]) S hE hP hD hS hA hM gL_law_X5_closure rfl (by decide +kernel) ⟨Nat.le_of_ble_eq_true rfl, Nat.le_of_ble_eq_true rfl⟩ 5 rfl hrc rfl hl.1 rfl (Nat.le_of_ble_eq_true rfl) dL_law_475 ⟨by show cells + 6 + 6 ≤ 600000; omega, by show slots + 600 + 600 ≤ 7302250; omega⟩ (fun w2 hw2 H2 locs2 hP hD hS => ?_)
  refine lv_icmp_eq (tgt := 871) hx hb dL_law_478 (by decide) (fun _ => ?_) (fun h => absurd rfl h)
  exact kk w2 H2 locs2 hw2 hP hD hS
set_option maxHeartbeats 4000000 in
set_option maxRecDepth 100000 in
theorem lc_price (S : CallFix p m c cL_law 4 s #[Value.ref b] wsL_law RL) (hE : EK D cI cB cZ cO s) (hX : va_X b L xs s s.heap) (hbl : b < s.heap.size) (hL : L ≤ 1536) (hj : 3 * j + 3 ≤ L) (hc : cells + 12 ≤ 600000 ∧ slots + 1200 ≤ 7302250) (hRl : REL cI cB cZ cO xp hm w) (hP : va_P D vwCl w H) (hD : va_D (lA s) w) (hS : va_S (lA s) s.heap H locs) (hl : lv_has ls 4 [(0, .ref b), (1, .ref xp), (2, .ref hm), (3, .int (iI ((3 * j : Nat) : Int)))]) (kk : ∀ (w1 : va_W) (H1 : Heap) (locs1 : List Loc), REL cI cB cZ cO xp hm w1 → va_P D vwCl w1 H1 → va_D (lA s) w1 → va_S (lA s) s.heap H1 locs1 → W p l e room_1 s m #[Value.ref b] below meth c H1 locs1 (cells + 12) (slots + 1200) Q (F0 m 871 ls [])) : W p l e room_1 s m #[Value.ref b] below meth c H locs cells slots Q (F0 m 483 ls []) := by
  have hx := S.1
  have hb := S.2.1
  have hA : ∀ q : Nat, s.heap.size ≤ q → lA s q := fun _ h => h
  have hbA : ¬ lA s b := Nat.not_le.mpr hbl
  refine lv_aload_n hx hb dL_law_483 rfl (lv_at hl 1 rfl) ?_
  refine lv_aload_n hx hb dL_law_484 rfl (lv_at hl 0 rfl) ?_
  refine lv_iload_n hx hb dL_law_485 rfl (lv_at hl 3 rfl) ?_
  refine r_iconst hx hb dL_law_486 ?_
  refine r_iadd (v := ((3 * j + 1 : Nat) : Int)) hx hb (by omega) dL_law_487 ?_
  refine r_sld hx hb hX hbl hbA hS (3 * j + 1) rfl (by omega) hL dL_law_488 ?_
  obtain ⟨r, P, h1, h2⟩ := pq_price l D cI cB cZ cO ((xs (3 * j + 1)).toInt) (rg_self _) xp hm w hRl
  refine lawV (n := 1) (As := [.int (iI (xs (3 * j + 1)).toInt)]) (rest := []) S hE hP hD hS hA h1 gL_law_X4_price rfl (by decide +kernel) ⟨Nat.le_of_ble_eq_true rfl, Nat.le_of_ble_eq_true rfl⟩ 4 rfl (REL_x hRl) rfl hl.1 rfl (Nat.le_of_ble_eq_true rfl) dL_law_489 ⟨by show cells + 6 ≤ 600000; omega, by show slots + 600 ≤ 7302250; omega⟩ (fun w1 hw1 H1 locs1 hP hD hS => ?_)
  obtain ⟨hrc, hM⟩ := h2 w1 hw1
  refine lv_aload_n hx hb dL_law_492 rfl (lv_at hl 2 rfl) ?_
  refine lv_aload_n hx hb dL_law_493 rfl (lv_at hl 0 rfl) ?_
  refine lv_iload_n hx hb dL_law_494 rfl (lv_at hl 3 rfl) ?_
  refine r_iconst hx hb dL_law_495 ?_
  refine r_iadd (v := ((3 * j + 1 : Nat) : Int)) hx hb (by omega) dL_law_496 ?_
  refine r_sld hx hb hX hbl hbA hS (3 * j + 1) rfl (by omega) hL dL_law_497 ?_
  refine lawV (n := 1) (As := [.int (iI (xs (3 * j + 1)).toInt)]) (rest := [.int (iI r)]) S hE hP hD hS hA hM gL_law_X5_price rfl (by decide +kernel) ⟨Nat.le_of_ble_eq_true rfl, Nat.le_of_ble_eq_true rfl⟩ 5 rfl hrc rfl hl.1 rfl (Nat.le_of_ble_eq_true rfl) dL_law_498 ⟨by show cells + 6 + 6 ≤ 600000; omega, by show slots + 600 + 600 ≤ 7302250; omega⟩ (fun w2 hw2 H2 locs2 hP hD hS => ?_)
  refine lv_icmp_eq (tgt := 871) hx hb dL_law_501 (by decide) (fun _ => ?_) (fun h => absurd rfl h)
  exact kk w2 H2 locs2 hw2 hP hD hS
set_option maxHeartbeats 4000000 in
set_option maxRecDepth 100000 in
theorem lc_takeBack (S : CallFix p m c cL_law 4 s #[Value.ref b] wsL_law RL) (hE : EK D cI cB cZ cO s) (hX : va_X b L xs s s.heap) (hbl : b < s.heap.size) (hL : L ≤ 1536) (hj : 3 * j + 3 ≤ L) (hc : cells + 12 ≤ 600000 ∧ slots + 1200 ≤ 7302250) (hRl : REL cI cB cZ cO xp hm w) (hP : va_P D vwCl w H) (hD : va_D (lA s) w) (hS : va_S (lA s) s.heap H locs) (hl : lv_has ls 4 [(0, .ref b), (1, .ref xp), (2, .ref hm), (3, .int (iI ((3 * j : Nat) : Int)))]) (kk : ∀ (w1 : va_W) (H1 : Heap) (locs1 : List Loc), REL cI cB cZ cO xp hm w1 → va_P D vwCl w1 H1 → va_D (lA s) w1 → va_S (lA s) s.heap H1 locs1 → W p l e room_1 s m #[Value.ref b] below meth c H1 locs1 (cells + 12) (slots + 1200) Q (F0 m 871 ls [])) : W p l e room_1 s m #[Value.ref b] below meth c H locs cells slots Q (F0 m 506 ls []) := by
  have hx := S.1
  have hb := S.2.1
  have hA : ∀ q : Nat, s.heap.size ≤ q → lA s q := fun _ h => h
  have hbA : ¬ lA s b := Nat.not_le.mpr hbl
  refine lv_aload_n hx hb dL_law_506 rfl (lv_at hl 1 rfl) ?_
  refine lv_aload_n hx hb dL_law_507 rfl (lv_at hl 0 rfl) ?_
  refine lv_iload_n hx hb dL_law_508 rfl (lv_at hl 3 rfl) ?_
  refine r_iconst hx hb dL_law_509 ?_
  refine r_iadd (v := ((3 * j + 1 : Nat) : Int)) hx hb (by omega) dL_law_510 ?_
  refine r_sld hx hb hX hbl hbA hS (3 * j + 1) rfl (by omega) hL dL_law_511 ?_
  obtain ⟨r, P, h1, h2⟩ := pq_takeBack l D cI cB cZ cO ((xs (3 * j + 1)).toInt) (rg_self _) xp hm w hRl
  refine lawV (n := 1) (As := [.int (iI (xs (3 * j + 1)).toInt)]) (rest := []) S hE hP hD hS hA h1 gL_law_X4_takeBack rfl (by decide +kernel) ⟨Nat.le_of_ble_eq_true rfl, Nat.le_of_ble_eq_true rfl⟩ 4 rfl (REL_x hRl) rfl hl.1 rfl (Nat.le_of_ble_eq_true rfl) dL_law_512 ⟨by show cells + 6 ≤ 600000; omega, by show slots + 600 ≤ 7302250; omega⟩ (fun w1 hw1 H1 locs1 hP hD hS => ?_)
  obtain ⟨hrc, hM⟩ := h2 w1 hw1
  refine lv_aload_n hx hb dL_law_515 rfl (lv_at hl 2 rfl) ?_
  refine lv_aload_n hx hb dL_law_516 rfl (lv_at hl 0 rfl) ?_
  refine lv_iload_n hx hb dL_law_517 rfl (lv_at hl 3 rfl) ?_
  refine r_iconst hx hb dL_law_518 ?_
  refine r_iadd (v := ((3 * j + 1 : Nat) : Int)) hx hb (by omega) dL_law_519 ?_
  refine r_sld hx hb hX hbl hbA hS (3 * j + 1) rfl (by omega) hL dL_law_520 ?_
  refine lawV (n := 1) (As := [.int (iI (xs (3 * j + 1)).toInt)]) (rest := [.int (iI r)]) S hE hP hD hS hA hM gL_law_X5_takeBack rfl (by decide +kernel) ⟨Nat.le_of_ble_eq_true rfl, Nat.le_of_ble_eq_true rfl⟩ 5 rfl hrc rfl hl.1 rfl (Nat.le_of_ble_eq_true rfl) dL_law_521 ⟨by show cells + 6 + 6 ≤ 600000; omega, by show slots + 600 + 600 ≤ 7302250; omega⟩ (fun w2 hw2 H2 locs2 hP hD hS => ?_)
  refine lv_icmp_eq (tgt := 871) hx hb dL_law_524 (by decide) (fun _ => ?_) (fun h => absurd rfl h)
  exact kk w2 H2 locs2 hw2 hP hD hS
end LAWC
