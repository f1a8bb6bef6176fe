
/-! the law: its calls, its reading of the script -/
theorem and31 (x : Int32) : ∃ n : Nat, n < 32 ∧ x &&& iI 31 = iI (n : Int) := by
  refine ⟨(x.toBitVec &&& 31#32).toNat, ?_, ?_⟩
  · rw [BitVec.toNat_and]
    exact Nat.lt_of_le_of_lt Nat.and_le_right (by decide)
  · rw [iI_n]
    apply Int32.toBitVec_inj.mp
    rw [nI_bv, Int32.toBitVec_and, show (iI 31).toBitVec = 31#32 from rfl, BitVec.ofNat_toNat, BitVec.setWidth_eq]
abbrev lA (s : State) : Nat → Prop := fun q => s.heap.size ≤ q
theorem REL_elim {cI cB cZ cO : ClassId} {xp hm : Nat} {w : va_W} {P : Prop} (h : REL cI cB cZ cO xp hm w) (k : ∀ (xc : Nat) (xs : Nat) (h : Nat) (xq : Nat) (xl : Nat) (xca : Nat) (xr : Nat) (xra : Nat) (a1 : Nat) (a2 : Nat) (a3 : Nat) (a4 : Nat) (a5 : Nat) (b1 : Nat) (b2 : Nat) (b3 : Nat) (b4 : Nat) (b5 : Nat) (m1 : Nat) (m2 : Nat) (m3 : Nat) (m4 : Nat) (m5 : Nat) (m6 : Nat) (m7 : Nat) (m8 : Nat) (pa : Nat) (pb : Nat) (cp : Nat) (ty : Nat) (cn : Nat) (en : Nat) (ac : Nat) (cu : Nat) (co : Nat → Nat) (au : Nat → Int) (er : Nat → Nat) (ki : Nat → Nat) (bs : Nat → Int) (ba : Nat → Nat) (ln : Nat) (es : Nat) (cc : Nat → Nat) (ow : Nat → Nat) (ec : Nat → Nat) (ix : Nat → Nat) (clc : Nat → Nat) (cl : Nat → Nat) (src : Nat → Nat) (sc : Nat → Nat) (p1 : Nat) (la : Nat) (lt : Nat) (sg : Int) (fi : Int) (se : Int) (np : Nat) (sed : Nat) (sac : Nat) (kd : Nat) (va : Nat) (bs9 : Nat) (bp9 : Nat) (po : Nat → Nat) (ph : Nat → Nat) (ps : Nat → Nat) (pf : Nat → Nat) (spr : Nat → Nat) (nx : Nat) (le : Nat) (fm : Int) (sm : Int) (bp : Int) (sl : Nat → Int) (kp : Nat → Nat) (re : Nat → Nat) (pr : Nat → Nat) (tw : Nat → Nat) (o0 : Option Nat) (o1 : Option Nat) (ea : va_W) (eb : va_W) (ex : va_W), w = [(xp, .inr (4, [.ref xc, .ref xs, .ref h, .ref xq, .ref xl, .int (iI ((pa : Nat) : Int)), .int (iI ((pb : Nat) : Int))])), (h, .inr (0, [.ref a1, .ref a2, .ref a3, .int (iI ((cn : Nat) : Int)), .ref a4, .int (iI ((ln : Nat) : Int)), .ref a5, .int (iI ((en : Nat) : Int)), .int (iI ((es : Nat) : Int)), .int (iI ((ac : Nat) : Int)), .int (iI ((cu : Nat) : Int))])), (a1, .inl (cI, 160, .inl (rN (cc)))), (a2, .inl (cI, 160, .inl (rN (ow)))), (a3, .inl (cI, 160, .inl (rN (ec)))), (a4, .inl (cI, 60, .inl (rN (ix)))), (a5, .inl (cI, 16, .inl (rN (ba)))), (xc, .inr (1, [.ref xca, .int (iI ((cp : Nat) : Int))])), (xca, .inl (cI, 60, .inl (rN (clc)))), (xs, .inr (2, [.ref xr, .int (iI ((p1 : Nat) : Int)), .int (iI (sg)), .int (iI (fi)), .int (iI (se)), .int (iI ((la : Nat) : Int)), .int (iI ((lt : Nat) : Int))])), (xr, .inr (1, [.ref xra, .int (iI ((ty : Nat) : Int))])), (xra, .inl (cI, 80, .inl (rN (src)))), (xq, .inr (3, [.ref b1, .ref b2, .ref b3, .ref b4, .int (iI ((np : Nat) : Int)), .ref b5, .int (iI ((sed : Nat) : Int)), .int (iI ((sac : Nat) : Int)), .int (iI ((kd : Nat) : Int)), .int (iI ((va : Nat) : Int)), .int (iI ((bs9 : Nat) : Int)), .int (iI ((bp9 : Nat) : Int))])), (b1, .inl (cI, 160, .inl (rN (po)))), (b2, .inl (cI, 160, .inl (rN (ph)))), (b3, .inl (cI, 160, .inl (rN (ps)))), (b4, .inl (cI, 160, .inl (rN (pf)))), (b5, .inl (cI, 16, .inl (rN (spr)))), (xl, .inl (cO, 2, .inr (.inr (.inr (.inr (sl2 o0 o1)))))), (hm, .inr (5, [.ref m1, .ref m2, .ref m3, .int (iI ((pa : Nat) : Int)), .int (iI ((pb : Nat) : Int)), .ref m4, .int (iI ((cp : Nat) : Int)), .ref m5, .int (iI ((ty : Nat) : Int)), .ref m6, .int (iI ((nx : Nat) : Int)), .int (iI (fm)), .int (iI (sm)), .int (iI ((le : Nat) : Int)), .ref m7, .int (iI (bp)), .ref m8])), (m1, .inl (cI, 516, .inl (rI (sF cn en ac cu co au er ki bs)))), (m2, .inl (cI, 1032, .inl (rI (sl)))), (m3, .inl (cZ, 2, .inl (rN (kp)))), (m4, .inl (cB, 60, .inl (rN (cl)))), (m5, .inl (cB, 80, .inl (rI (fun j => sby (sc j))))), (m6, .inl (cI, 16, .inl (rN (re)))), (m7, .inl (cI, 16, .inl (rN (pr)))), (m8, .inl (cI, 60, .inl (rN (tw))))] ++ ex → (GD cn en ac cu co au er ki bs ba) → (LK cn en ac co au er ki ln es cc ow ec ix) → (CLP cp clc cl) → (SCR ty src sc) → (pa ≤ 9 ∧ pb ≤ 9) → ((∀ k, po k < 65536) ∧ (∀ k, ph k < 65536) ∧ ∀ k, pf k < 65536) → (∀ k, re k < 65536) → (∀ k, kp k ≤ 1) → (SLT cI 0 kp sl o0 ea) → (SLT cI 1 kp sl o1 eb) → (ex = ea ++ eb ∨ ex = eb ++ ea) → P) : P :=
  Exists.elim h (fun xc h => Exists.elim h (fun xs h => Exists.elim h (fun h h => Exists.elim h (fun xq h => Exists.elim h (fun xl h => Exists.elim h (fun xca h => Exists.elim h (fun xr h => Exists.elim h (fun xra h => Exists.elim h (fun a1 h => Exists.elim h (fun a2 h => Exists.elim h (fun a3 h => Exists.elim h (fun a4 h => Exists.elim h (fun a5 h => Exists.elim h (fun b1 h => Exists.elim h (fun b2 h => Exists.elim h (fun b3 h => Exists.elim h (fun b4 h => Exists.elim h (fun b5 h => Exists.elim h (fun m1 h => Exists.elim h (fun m2 h => Exists.elim h (fun m3 h => Exists.elim h (fun m4 h => Exists.elim h (fun m5 h => Exists.elim h (fun m6 h => Exists.elim h (fun m7 h => Exists.elim h (fun m8 h => Exists.elim h (fun pa h => Exists.elim h (fun pb h => Exists.elim h (fun cp h => Exists.elim h (fun ty h => Exists.elim h (fun cn h => Exists.elim h (fun en h => Exists.elim h (fun ac h => Exists.elim h (fun cu h => Exists.elim h (fun co h => Exists.elim h (fun au h => Exists.elim h (fun er h => Exists.elim h (fun ki h => Exists.elim h (fun bs h => Exists.elim h (fun ba h => Exists.elim h (fun ln h => Exists.elim h (fun es h => Exists.elim h (fun cc h => Exists.elim h (fun ow h => Exists.elim h (fun ec h => Exists.elim h (fun ix h => Exists.elim h (fun clc h => Exists.elim h (fun cl h => Exists.elim h (fun src h => Exists.elim h (fun sc h => Exists.elim h (fun p1 h => Exists.elim h (fun la h => Exists.elim h (fun lt h => Exists.elim h (fun sg h => Exists.elim h (fun fi h => Exists.elim h (fun se h => Exists.elim h (fun np h => Exists.elim h (fun sed h => Exists.elim h (fun sac h => Exists.elim h (fun kd h => Exists.elim h (fun va h => Exists.elim h (fun bs9 h => Exists.elim h (fun bp9 h => Exists.elim h (fun po h => Exists.elim h (fun ph h => Exists.elim h (fun ps h => Exists.elim h (fun pf h => Exists.elim h (fun spr h => Exists.elim h (fun nx h => Exists.elim h (fun le h => Exists.elim h (fun fm h => Exists.elim h (fun sm h => Exists.elim h (fun bp h => Exists.elim h (fun sl h => Exists.elim h (fun kp h => Exists.elim h (fun re h => Exists.elim h (fun pr h => Exists.elim h (fun tw h => Exists.elim h (fun o0 h => Exists.elim h (fun o1 h => Exists.elim h (fun ea h => Exists.elim h (fun eb h => Exists.elim h (fun ex h => k xc xs h xq xl xca xr xra a1 a2 a3 a4 a5 b1 b2 b3 b4 b5 m1 m2 m3 m4 m5 m6 m7 m8 pa pb cp ty cn en ac cu co au er ki bs ba ln es cc ow ec ix clc cl src sc p1 la lt sg fi se np sed sac kd va bs9 bp9 po ph ps pf spr nx le fm sm bp sl kp re pr tw o0 o1 ea eb ex h.1 h.2.1 h.2.2.1 h.2.2.2.1 h.2.2.2.2.1 h.2.2.2.2.2.1 h.2.2.2.2.2.2.1 h.2.2.2.2.2.2.2.1 h.2.2.2.2.2.2.2.2.1 h.2.2.2.2.2.2.2.2.2.1 h.2.2.2.2.2.2.2.2.2.2.1 h.2.2.2.2.2.2.2.2.2.2.2)))))))))))))))))))))))))))))))))))))))))))))))))))))))))))))))))))))))))))))))))))
theorem REL_x {cI cB cZ cO : ClassId} {xp hm : Nat} {w : va_W} (h : REL cI cB cZ cO xp hm w) : ∃ (k : Nat) (fs : List Value), w[k]? = some (xp, .inr (4, fs)) := by
  refine REL_elim h (fun xc xs h xq xl xca xr xra a1 a2 a3 a4 a5 b1 b2 b3 b4 b5 m1 m2 m3 m4 m5 m6 m7 m8 pa pb cp ty cn en ac cu co au er ki bs ba ln es cc ow ec ix clc cl src sc p1 la lt sg fi se np sed sac kd va bs9 bp9 po ph ps pf spr nx le fm sm bp sl kp re pr tw o0 o1 ea eb ex hw hgd hlk hcl hsr hpp hsq hre hkp hs0 hs1 hex => ?_)
  rw [hw]; exact ⟨0, _, rfl⟩
section LAWS
variable {p : Program} {l : Launch} {e : Env} {R : Room} {s : State} {m : MethodId} {args : Array Value} {below : List Frame} {meth : Method} {c : Code} {H : Heap} {locs : List Loc} {cells slots : Nat} {Q : State → Prop} {pc : Nat} {ls : Array Slot} {rest st0 : List Value} {cc : ByteArray} {D : va_G} {cI cB cZ cO : ClassId} {w : va_W} {A : Nat → Prop} {H0 : Heap} {own C : String} {index maxL nL n b : Nat} {y : MethodName} {bytes : ByteArray} {ret : Option FieldType} {wd wd' Ts : List Cond} {As : List Value} {r : Int} {P : va_W → Prop}
theorem lawV (S : CallFix p m c cc nL s args Ts own) (hE : EK D cI cB cZ cO s) (hP : va_P D vwCl w H) (hD : va_D A w) (hS : va_S A H0 H locs) (hA : ∀ q, H0.size ≤ q → A q) (hM : KM l D cI cB cZ cO y wd (.ref b :: As) w r P) (hG : GoodIn Ts (wsV own index C y wd)) (hw : wd = Cond.code y bytes maxL ret :: wd')
    (hd : y.cls = C ∧ y.cls ≠ "java/lang/invoke/MethodHandle" ∧ y.cls ≠ "java/lang/invoke/VarHandle" ∧ (parseMethodDescriptor y.desc).map (fun d => d.parameters.length) = some n) (hR : 9 ≤ R.frames ∧ 8 + (maxL + 11) + 250 ≤ R.locals)
    (ci : Nat) {T : u_T} {N : Nat} (hc : vwCl[ci]? = some (C, T, N)) (he : ∃ (k : Nat) (fs : List Value), w[k]? = some (b, .inr (ci, fs))) (hn : As.length = n) (hsize : ls.size = nL) (hst : st0 = As.reverse ++ .ref b :: rest) (hW : (rest.map fun v => v.category).sum ≤ 8) (hdg : decode cc pc = .ok (.invokevirtual index, 3)) (hf : cells + 6 ≤ R.cells ∧ slots + 600 ≤ R.slots)
    (kk : ∀ (w1 : va_W), P w1 → ∀ (H1 : Heap) (locs1 : List Loc), va_P D vwCl w1 H1 → va_D A w1 → va_S A H0 H1 locs1 → W p l e R s m args below meth c H1 locs1 (cells + 6) (slots + 600) Q (F0 m (pc + 3) ls (.int (iI r) :: rest))) : W p l e R s m args below meth c H locs cells slots Q (F0 m pc ls st0) := by
  obtain ⟨fr, lo, mc, ms, ⟨hb1, hb2, hb3, hb4⟩, hMt⟩ := hM H.size
  obtain ⟨k, fs, hk0⟩ := he
  have hF : ∀ q, va_A w H.size q → A q := fun q hq => by
    rcases hq with ⟨i, e9, hi⟩ | hq
    · exact hD.2 i _ hi
    · exact hA q (Nat.le_trans hS.1 hq)
  have hrun := va_runV (e := e) (below := below) (meth := meth) (locs := locs) (cells := cells) (slots := slots) (As := As) (rest := rest) (g := F0 m pc ls st0) S hMt (cwV n S.2.2.2.2 hG hw rfl rfl hd ⟨by show fr + 1 ≤ R.frames; omega, by show 8 + (maxL + 11) + lo ≤ R.locals; omega⟩) ⟨RW.blind, va_recv hE.1 hP hc hk0, fun U hU hW => ⟨rfl, by rw [hU], hE.warm hW, by rw [hU]; exact hP, hD.weaken (fun _ _ _ _ => trivial)⟩⟩ rfl hn hsize hst (lv_room hW) hdg ⟨by omega, by omega⟩
  intro T9 hT X
  obtain ⟨v, st₀, t, T', L, h0, X', hL, e1, e2, ⟨u, hv, hpost, hP1, hD1, hz, hk⟩, st⟩ := hrun T9 hT X
  cases hv
  rw [h0] at hz hk
  rw [← e1] at hP1 hz hk
  have K := W.widen (k := cells + 6) (n := slots + 600) (show cells + mc ≤ cells + 6 by omega) (show slots + ms ≤ slots + 600 by omega) (kk u hpost T'.heap (locs ++ L) hP1 (hD1.weaken (fun i q _ z => hF q.1 z)) ⟨Nat.le_trans hS.1 hz, fun q h1 h2 => by rw [hk q (Nat.lt_of_lt_of_le h1 hS.1) (fun z => h2 (hF q z))]; exact hS.2.1 q h1 h2, fun q hq => by
      rcases List.mem_append.mp hq with h | h
      · exact hS.2.2 q h
      · exact hF _ (hL q h)⟩)
  obtain ⟨t2, a1, b1⟩ := K T' rfl X'
  exact ⟨t2, st t2 a1, b1⟩
theorem r_sld (hx : p.tables.exec = Jvm.exec) (hb : c.code = cc) {L : Nat} {xs : Nat → Int32} (hX : va_X b L xs s H0) (hbl : b < H0.size) (hbA : ¬ A b) (hS : va_S A H0 H locs) {t : Int} (k : Nat) (hk : t = (k : Int)) (hkl : k < L) (hL : L ≤ 1536) (hdg : decode cc pc = .ok (.iaload, 1)) (kk : W p l e R s m args below meth c H locs cells slots Q (F0 m (pc + 1) ls (.int (iI (xs k).toInt) :: rest))) : W p l e R s m args below meth c H locs cells slots Q (F0 m pc ls (.int (iI t) :: .ref b :: rest)) := by
  subst hk
  refine va_sld hx hb hX hbl hbA hS (iI_in hkl (by omega)) hdg ?_
  rw [iI_clamp (show k < 2 ^ 31 by omega), ← iI_self (xs k)]; rw [iI_self]; exact kk
end LAWS
section LAWC
variable {p : Program} {l : Launch} {e : Env} {s : State} {m : MethodId} {below : List Frame} {meth : Method} {c : Code} {D : va_G} {cI cB cZ cO : ClassId} {b L : Nat} {xs : Nat → Int32} {Q : State → Prop} {H : Heap} {locs : List Loc} {cells slots : Nat} {ls : Array Slot} {xp hm j : Nat} {w : va_W}
theorem pq_appendCharacter (l : Launch) (D : va_G) (cI cB cZ cO : ClassId) (x : Int) (rx : rg x) (xp hm : Nat) (w : va_W) (hR : REL cI cB cZ cO xp hm w) : PAIR l D cI cB cZ cO yX4_appendCharacter wsX4_appendCharacter yX5_appendCharacter wsX5_appendCharacter [.int (iI x)] xp hm w := REL_elim hR (fun xc xs h xq xl xca xr xra a1 a2 a3 a4 a5 b1 b2 b3 b4 b5 m1 m2 m3 m4 m5 m6 m7 m8 pa pb cp ty cn en ac cu co au er ki bs ba ln es cc ow ec ix clc cl src sc p1 la lt sg fi se np sed sac kd va bs9 bp9 po ph ps pf spr nx le fm sm bp sl kp re pr tw o0 o1 ea eb ex hw hgd hlk hcl hsr hpp hsq hre hkp hs0 hs1 hex => by rw [hw]; exact pr_appendCharacter l D cI cB cZ cO x rx xp hm xc xs h xq xl xca xr xra a1 a2 a3 a4 a5 b1 b2 b3 b4 b5 m1 m2 m3 m4 m5 m6 m7 m8 pa pb cp ty cn en ac cu co au er ki bs ba ln es cc ow ec ix clc cl src sc p1 la lt sg fi se np sed sac kd va bs9 bp9 po ph ps pf spr nx le fm sm bp sl kp re pr tw o0 o1 ea eb ex hgd hlk hcl hsr hpp hsq hre hkp hs0 hs1 hex)
set_option maxHeartbeats 4000000 in
set_option maxRecDepth 100000 in
theorem lc_appendCharacter (S : CallFix p m c cL_law 4 s #[Value.ref b] wsL_law RL) (hE : EK D cI cB cZ cO s) (hX : va_X b L xs s s.heap) (hbl : b < s.heap.size) (hL : L ≤ 1536) (hj : 3 * j + 3 ≤ L) (hc : cells + 12 ≤ 600000 ∧ slots + 1200 ≤ 7302250) (hRl : REL cI cB cZ cO xp hm w) (hP : va_P D vwCl w H) (hD : va_D (lA s) w) (hS : va_S (lA s) s.heap H locs) (hl : lv_has ls 4 [(0, .ref b), (1, .ref xp), (2, .ref hm), (3, .int (iI ((3 * j : Nat) : Int)))]) (kk : ∀ (w1 : va_W) (H1 : Heap) (locs1 : List Loc), REL cI cB cZ cO xp hm w1 → va_P D vwCl w1 H1 → va_D (lA s) w1 → va_S (lA s) s.heap H1 locs1 → W p l e room_1 s m #[Value.ref b] below meth c H1 locs1 (cells + 12) (slots + 1200) Q (F0 m 871 ls [])) : W p l e room_1 s m #[Value.ref b] below meth c H locs cells slots Q (F0 m 164 ls []) := by
  have hx := S.1
  have hb := S.2.1
  have hA : ∀ q : Nat, s.heap.size ≤ q → lA s q := fun _ h => h
  have hbA : ¬ lA s b := Nat.not_le.mpr hbl
  refine lv_aload_n hx hb dL_law_164 rfl (lv_at hl 1 rfl) ?_
  refine lv_aload_n hx hb dL_law_165 rfl (lv_at hl 0 rfl) ?_
  refine lv_iload_n hx hb dL_law_166 rfl (lv_at hl 3 rfl) ?_
  refine r_iconst hx hb dL_law_167 ?_
  refine r_iadd (v := ((3 * j + 1 : Nat) : Int)) hx hb (by omega) dL_law_168 ?_
  refine r_sld hx hb hX hbl hbA hS (3 * j + 1) rfl (by omega) hL dL_law_169 ?_
  obtain ⟨r, P, h1, h2⟩ := pq_appendCharacter l D cI cB cZ cO ((xs (3 * j + 1)).toInt) (rg_self _) xp hm w hRl
  refine lawV (n := 1) (As := [.int (iI (xs (3 * j + 1)).toInt)]) (rest := []) S hE hP hD hS hA h1 gL_law_X4_appendCharacter rfl (by decide +kernel) ⟨Nat.le_of_ble_eq_true rfl, Nat.le_of_ble_eq_true rfl⟩ 4 rfl (REL_x hRl) rfl hl.1 rfl (Nat.le_of_ble_eq_true rfl) dL_law_170 ⟨by show cells + 6 ≤ 600000; omega, by show slots + 600 ≤ 7302250; omega⟩ (fun w1 hw1 H1 locs1 hP hD hS => ?_)
  obtain ⟨hrc, hM⟩ := h2 w1 hw1
  refine lv_aload_n hx hb dL_law_173 rfl (lv_at hl 2 rfl) ?_
  refine lv_aload_n hx hb dL_law_174 rfl (lv_at hl 0 rfl) ?_
  refine lv_iload_n hx hb dL_law_175 rfl (lv_at hl 3 rfl) ?_
  refine r_iconst hx hb dL_law_176 ?_
  refine r_iadd (v := ((3 * j + 1 : Nat) : Int)) hx hb (by omega) dL_law_177 ?_
  refine r_sld hx hb hX hbl hbA hS (3 * j + 1) rfl (by omega) hL dL_law_178 ?_
  refine lawV (n := 1) (As := [.int (iI (xs (3 * j + 1)).toInt)]) (rest := [.int (iI r)]) S hE hP hD hS hA hM gL_law_X5_appendCharacter rfl (by decide +kernel) ⟨Nat.le_of_ble_eq_true rfl, Nat.le_of_ble_eq_true rfl⟩ 5 rfl hrc rfl hl.1 rfl (Nat.le_of_ble_eq_true rfl) dL_law_179 ⟨by show cells + 6 + 6 ≤ 600000; omega, by show slots + 600 + 600 ≤ 7302250; omega⟩ (fun w2 hw2 H2 locs2 hP hD hS => ?_)
  refine lv_icmp_eq (tgt := 871) hx hb dL_law_182 (by decide) (fun _ => ?_) (fun h => absurd rfl h)
  exact kk w2 H2 locs2 hw2 hP hD hS
theorem pq_clearClip (l : Launch) (D : va_G) (cI cB cZ cO : ClassId)  (xp hm : Nat) (w : va_W) (hR : REL cI cB cZ cO xp hm w) : PAIR l D cI cB cZ cO yX4_clearClip wsX4_clearClip yX5_clearClip wsX5_clearClip [] xp hm w := REL_elim hR (fun xc xs h xq xl xca xr xra a1 a2 a3 a4 a5 b1 b2 b3 b4 b5 m1 m2 m3 m4 m5 m6 m7 m8 pa pb cp ty cn en ac cu co au er ki bs ba ln es cc ow ec ix clc cl src sc p1 la lt sg fi se np sed sac kd va bs9 bp9 po ph ps pf spr nx le fm sm bp sl kp re pr tw o0 o1 ea eb ex hw hgd hlk hcl hsr hpp hsq hre hkp hs0 hs1 hex => by rw [hw]; exact pr_clearClip l D cI cB cZ cO   xp hm xc xs h xq xl xca xr xra a1 a2 a3 a4 a5 b1 b2 b3 b4 b5 m1 m2 m3 m4 m5 m6 m7 m8 pa pb cp ty cn en ac cu co au er ki bs ba ln es cc ow ec ix clc cl src sc p1 la lt sg fi se np sed sac kd va bs9 bp9 po ph ps pf spr nx le fm sm bp sl kp re pr tw o0 o1 ea eb ex hgd hlk hcl hsr hpp hsq hre hkp hs0 hs1 hex)
set_option maxHeartbeats 4000000 in
set_option maxRecDepth 100000 in
theorem lc_clearClip (S : CallFix p m c cL_law 4 s #[Value.ref b] wsL_law RL) (hE : EK D cI cB cZ cO s) (hX : va_X b L xs s s.heap) (hbl : b < s.heap.size) (hL : L ≤ 1536) (hj : 3 * j + 3 ≤ L) (hc : cells + 12 ≤ 600000 ∧ slots + 1200 ≤ 7302250) (hRl : REL cI cB cZ cO xp hm w) (hP : va_P D vwCl w H) (hD : va_D (lA s) w) (hS : va_S (lA s) s.heap H locs) (hl : lv_has ls 4 [(0, .ref b), (1, .ref xp), (2, .ref hm), (3, .int (iI ((3 * j : Nat) : Int)))]) (kk : ∀ (w1 : va_W) (H1 : Heap) (locs1 : List Loc), REL cI cB cZ cO xp hm w1 → va_P D vwCl w1 H1 → va_D (lA s) w1 → va_S (lA s) s.heap H1 locs1 → W p l e room_1 s m #[Value.ref b] below meth c H1 locs1 (cells + 12) (slots + 1200) Q (F0 m 871 ls [])) : W p l e room_1 s m #[Value.ref b] below meth c H locs cells slots Q (F0 m 187 ls []) := by
  have hx := S.1
  have hb := S.2.1
  have hA : ∀ q : Nat, s.heap.size ≤ q → lA s q := fun _ h => h
  have hbA : ¬ lA s b := Nat.not_le.mpr hbl
  refine lv_aload_n hx hb dL_law_187 rfl (lv_at hl 1 rfl) ?_
  obtain ⟨r, P, h1, h2⟩ := pq_clearClip l D cI cB cZ cO   xp hm w hRl
  refine lawV (n := 0) (As := []) (rest := []) S hE hP hD hS hA h1 gL_law_X4_clearClip rfl (by decide +kernel) ⟨Nat.le_of_ble_eq_true rfl, Nat.le_of_ble_eq_true rfl⟩ 4 rfl (REL_x hRl) rfl hl.1 rfl (Nat.le_of_ble_eq_true rfl) dL_law_188 ⟨by show cells + 6 ≤ 600000; omega, by show slots + 600 ≤ 7302250; omega⟩ (fun w1 hw1 H1 locs1 hP hD hS => ?_)
  obtain ⟨hrc, hM⟩ := h2 w1 hw1
  refine lv_aload_n hx hb dL_law_191 rfl (lv_at hl 2 rfl) ?_
  refine lawV (n := 0) (As := []) (rest := [.int (iI r)]) S hE hP hD hS hA hM gL_law_X5_clearClip rfl (by decide +kernel) ⟨Nat.le_of_ble_eq_true rfl, Nat.le_of_ble_eq_true rfl⟩ 5 rfl hrc rfl hl.1 rfl (Nat.le_of_ble_eq_true rfl) dL_law_192 ⟨by show cells + 6 + 6 ≤ 600000; omega, by show slots + 600 + 600 ≤ 7302250; omega⟩ (fun w2 hw2 H2 locs2 hP hD hS => ?_)
  refine lv_icmp_eq (tgt := 871) hx hb dL_law_195 (by decide) (fun _ => ?_) (fun h => absurd rfl h)
  exact kk w2 H2 locs2 hw2 hP hD hS
theorem pq_begin (l : Launch) (D : va_G) (cI cB cZ cO : ClassId)  (xp hm : Nat) (w : va_W) (hR : REL cI cB cZ cO xp hm w) : PAIR l D cI cB cZ cO yX4_begin wsX4_begin yX5_begin wsX5_begin [] xp hm w := REL_elim hR (fun xc xs h xq xl xca xr xra a1 a2 a3 a4 a5 b1 b2 b3 b4 b5 m1 m2 m3 m4 m5 m6 m7 m8 pa pb cp ty cn en ac cu co au er ki bs ba ln es cc ow ec ix clc cl src sc p1 la lt sg fi se np sed sac kd va bs9 bp9 po ph ps pf spr nx le fm sm bp sl kp re pr tw o0 o1 ea eb ex hw hgd hlk hcl hsr hpp hsq hre hkp hs0 hs1 hex => by rw [hw]; exact pr_begin l D cI cB cZ cO   xp hm xc xs h xq xl xca xr xra a1 a2 a3 a4 a5 b1 b2 b3 b4 b5 m1 m2 m3 m4 m5 m6 m7 m8 pa pb cp ty cn en ac cu co au er ki bs ba ln es cc ow ec ix clc cl src sc p1 la lt sg fi se np sed sac kd va bs9 bp9 po ph ps pf spr nx le fm sm bp sl kp re pr tw o0 o1 ea eb ex hgd hlk hcl hsr hpp hsq hre hkp hs0 hs1 hex)
set_option maxHeartbeats 4000000 in
set_option maxRecDepth 100000 in
theorem lc_begin (S : CallFix p m c cL_law 4 s #[Value.ref b] wsL_law RL) (hE : EK D cI cB cZ cO s) (hX : va_X b L xs s s.heap) (hbl : b < s.heap.size) (hL : L ≤ 1536) (hj : 3 * j + 3 ≤ L) (hc : cells + 12 ≤ 600000 ∧ slots + 1200 ≤ 7302250) (hRl : REL cI cB cZ cO xp hm w) (hP : va_P D vwCl w H) (hD : va_D (lA s) w) (hS : va_S (lA s) s.heap H locs) (hl : lv_has ls 4 [(0, .ref b), (1, .ref xp), (2, .ref hm), (3, .int (iI ((3 * j : Nat) : Int)))]) (kk : ∀ (w1 : va_W) (H1 : Heap) (locs1 : List Loc), REL cI cB cZ cO xp hm w1 → va_P D vwCl w1 H1 → va_D (lA s) w1 → va_S (lA s) s.heap H1 locs1 → W p l e room_1 s m #[Value.ref b] below meth c H1 locs1 (cells + 12) (slots + 1200) Q (F0 m 871 ls [])) : W p l e room_1 s m #[Value.ref b] below meth c H locs cells slots Q (F0 m 200 ls []) := by
  have hx := S.1
  have hb := S.2.1
  have hA : ∀ q : Nat, s.heap.size ≤ q → lA s q := fun _ h => h
  have hbA : ¬ lA s b := Nat.not_le.mpr hbl
  refine lv_aload_n hx hb dL_law_200 rfl (lv_at hl 1 rfl) ?_
  obtain ⟨r, P, h1, h2⟩ := pq_begin l D cI cB cZ cO   xp hm w hRl
  refine lawV (n := 0) (As := []) (rest := []) S hE hP hD hS hA h1 gL_law_X4_begin rfl (by decide +kernel) ⟨Nat.le_of_ble_eq_true rfl, Nat.le_of_ble_eq_true rfl⟩ 4 rfl (REL_x hRl) rfl hl.1 rfl (Nat.le_of_ble_eq_true rfl) dL_law_201 ⟨by show cells + 6 ≤ 600000; omega, by show slots + 600 ≤ 7302250; omega⟩ (fun w1 hw1 H1 locs1 hP hD hS => ?_)
  obtain ⟨hrc, hM⟩ := h2 w1 hw1
  refine lv_aload_n hx hb dL_law_204 rfl (lv_at hl 2 rfl) ?_
  refine lawV (n := 0) (As := []) (rest := [.int (iI r)]) S hE hP hD hS hA hM gL_law_X5_begin rfl (by decide +kernel) ⟨Nat.le_of_ble_eq_true rfl, Nat.le_of_ble_eq_true rfl⟩ 5 rfl hrc rfl hl.1 rfl (Nat.le_of_ble_eq_true rfl) dL_law_205 ⟨by show cells + 6 + 6 ≤ 600000; omega, by show slots + 600 + 600 ≤ 7302250; omega⟩ (fun w2 hw2 H2 locs2 hP hD hS => ?_)
  refine lv_icmp_eq (tgt := 871) hx hb dL_law_208 (by decide) (fun _ => ?_) (fun h => absurd rfl h)
  exact kk w2 H2 locs2 hw2 hP hD hS
theorem pq_insert (l : Launch) (D : va_G) (cI cB cZ cO : ClassId) (x : Int) (rx : rg x) (xp hm : Nat) (w : va_W) (hR : REL cI cB cZ cO xp hm w) : PAIR l D cI cB cZ cO yX4_insert wsX4_insert yX5_insert wsX5_insert [.int (iI x)] xp hm w := REL_elim hR (fun xc xs h xq xl xca xr xra a1 a2 a3 a4 a5 b1 b2 b3 b4 b5 m1 m2 m3 m4 m5 m6 m7 m8 pa pb cp ty cn en ac cu co au er ki bs ba ln es cc ow ec ix clc cl src sc p1 la lt sg fi se np sed sac kd va bs9 bp9 po ph ps pf spr nx le fm sm bp sl kp re pr tw o0 o1 ea eb ex hw hgd hlk hcl hsr hpp hsq hre hkp hs0 hs1 hex => by rw [hw]; exact pr_insert l D cI cB cZ cO x rx xp hm xc xs h xq xl xca xr xra a1 a2 a3 a4 a5 b1 b2 b3 b4 b5 m1 m2 m3 m4 m5 m6 m7 m8 pa pb cp ty cn en ac cu co au er ki bs ba ln es cc ow ec ix clc cl src sc p1 la lt sg fi se np sed sac kd va bs9 bp9 po ph ps pf spr nx le fm sm bp sl kp re pr tw o0 o1 ea eb ex hgd hlk hcl hsr hpp hsq hre hkp hs0 hs1 hex)
set_option maxHeartbeats 4000000 in
set_option maxRecDepth 100000 in
theorem lc_insert (S : CallFix p m c cL_law 4 s #[Value.ref b] wsL_law RL) (hE : EK D cI cB cZ cO s) (hX : va_X b L xs s s.heap) (hbl : b < s.heap.size) (hL : L ≤ 1536) (hj : 3 * j + 3 ≤ L) (hc : cells + 12 ≤ 600000 ∧ slots + 1200 ≤ 7302250) (hRl : REL cI cB cZ cO xp hm w) (hP : va_P D vwCl w H) (hD : va_D (lA s) w) (hS : va_S (lA s) s.heap H locs) (hl : lv_has ls 4 [(0, .ref b), (1, .ref xp), (2, .ref hm), (3, .int (iI ((3 * j : Nat) : Int)))]) (kk : ∀ (w1 : va_W) (H1 : Heap) (locs1 : List Loc), REL cI cB cZ cO xp hm w1 → va_P D vwCl w1 H1 → va_D (lA s) w1 → va_S (lA s) s.heap H1 locs1 → W p l e room_1 s m #[Value.ref b] below meth c H1 locs1 (cells + 12) (slots + 1200) Q (F0 m 871 ls [])) : W p l e room_1 s m #[Value.ref b] below meth c H locs cells slots Q (F0 m 213 ls []) := by
  have hx := S.1
  have hb := S.2.1
  have hA : ∀ q : Nat, s.heap.size ≤ q → lA s q := fun _ h => h
  have hbA : ¬ lA s b := Nat.not_le.mpr hbl
  refine lv_aload_n hx hb dL_law_213 rfl (lv_at hl 1 rfl) ?_
  refine lv_aload_n hx hb dL_law_214 rfl (lv_at hl 0 rfl) ?_
  refine lv_iload_n hx hb dL_law_215 rfl (lv_at hl 3 rfl) ?_
  refine r_iconst hx hb dL_law_216 ?_
  refine r_iadd (v := ((3 * j + 1 : Nat) : Int)) hx hb (by omega) dL_law_217 ?_
  refine r_sld hx hb hX hbl hbA hS (3 * j + 1) rfl (by omega) hL dL_law_218 ?_
  obtain ⟨r, P, h1, h2⟩ := pq_insert l D cI cB cZ cO ((xs (3 * j + 1)).toInt) (rg_self _) xp hm w hRl
  refine lawV (n := 1) (As := [.int (iI (xs (3 * j + 1)).toInt)]) (rest := []) S hE hP hD hS hA h1 gL_law_X4_insert rfl (by decide +kernel) ⟨Nat.le_of_ble_eq_true rfl, Nat.le_of_ble_eq_true rfl⟩ 4 rfl (REL_x hRl) rfl hl.1 rfl (Nat.le_of_ble_eq_true rfl) dL_law_219 ⟨by show cells + 6 ≤ 600000; omega, by show slots + 600 ≤ 7302250; omega⟩ (fun w1 hw1 H1 locs1 hP hD hS => ?_)
  obtain ⟨hrc, hM⟩ := h2 w1 hw1
  refine lv_aload_n hx hb dL_law_222 rfl (lv_at hl 2 rfl) ?_
  refine lv_aload_n hx hb dL_law_223 rfl (lv_at hl 0 rfl) ?_
  refine lv_iload_n hx hb dL_law_224 rfl (lv_at hl 3 rfl) ?_
  refine r_iconst hx hb dL_law_225 ?_
  refine r_iadd (v := ((3 * j + 1 : Nat) : Int)) hx hb (by omega) dL_law_226 ?_
  refine r_sld hx hb hX hbl hbA hS (3 * j + 1) rfl (by omega) hL dL_law_227 ?_
  refine lawV (n := 1) (As := [.int (iI (xs (3 * j + 1)).toInt)]) (rest := [.int (iI r)]) S hE hP hD hS hA hM gL_law_X5_insert rfl (by decide +kernel) ⟨Nat.le_of_ble_eq_true rfl, Nat.le_of_ble_eq_true rfl⟩ 5 rfl hrc rfl hl.1 rfl (Nat.le_of_ble_eq_true rfl) dL_law_228 ⟨by show cells + 6 + 6 ≤ 600000; omega, by show slots + 600 + 600 ≤ 7302250; omega⟩ (fun w2 hw2 H2 locs2 hP hD hS => ?_)
  refine lv_icmp_eq (tgt := 871) hx hb dL_law_231 (by decide) (fun _ => ?_) (fun h => absurd rfl h)
  exact kk w2 H2 locs2 hw2 hP hD hS
theorem pq_erase (l : Launch) (D : va_G) (cI cB cZ cO : ClassId) (x : Int) (y : Int) (rx : rg x) (ry : rg y) (xp hm : Nat) (w : va_W) (hR : REL cI cB cZ cO xp hm w) : PAIR l D cI cB cZ cO yX4_erase wsX4_erase yX5_erase wsX5_erase [.int (iI x), .int (iI y)] xp hm w := REL_elim hR (fun xc xs h xq xl xca xr xra a1 a2 a3 a4 a5 b1 b2 b3 b4 b5 m1 m2 m3 m4 m5 m6 m7 m8 pa pb cp ty cn en ac cu co au er ki bs ba ln es cc ow ec ix clc cl src sc p1 la lt sg fi se np sed sac kd va bs9 bp9 po ph ps pf spr nx le fm sm bp sl kp re pr tw o0 o1 ea eb ex hw hgd hlk hcl hsr hpp hsq hre hkp hs0 hs1 hex => by rw [hw]; exact pr_erase l D cI cB cZ cO x y rx ry xp hm xc xs h xq xl xca xr xra a1 a2 a3 a4 a5 b1 b2 b3 b4 b5 m1 m2 m3 m4 m5 m6 m7 m8 pa pb cp ty cn en ac cu co au er ki bs ba ln es cc ow ec ix clc cl src sc p1 la lt sg fi se np sed sac kd va bs9 bp9 po ph ps pf spr nx le fm sm bp sl kp re pr tw o0 o1 ea eb ex hgd hlk hcl hsr hpp hsq hre hkp hs0 hs1 hex)
set_option maxHeartbeats 4000000 in
set_option maxRecDepth 100000 in
theorem lc_erase (S : CallFix p m c cL_law 4 s #[Value.ref b] wsL_law RL) (hE : EK D cI cB cZ cO s) (hX : va_X b L xs s s.heap) (hbl : b < s.heap.size) (hL : L ≤ 1536) (hj : 3 * j + 3 ≤ L) (hc : cells + 12 ≤ 600000 ∧ slots + 1200 ≤ 7302250) (hRl : REL cI cB cZ cO xp hm w) (hP : va_P D vwCl w H) (hD : va_D (lA s) w) (hS : va_S (lA s) s.heap H locs) (hl : lv_has ls 4 [(0, .ref b), (1, .ref xp), (2, .ref hm), (3, .int (iI ((3 * j : Nat) : Int)))]) (kk : ∀ (w1 : va_W) (H1 : Heap) (locs1 : List Loc), REL cI cB cZ cO xp hm w1 → va_P D vwCl w1 H1 → va_D (lA s) w1 → va_S (lA s) s.heap H1 locs1 → W p l e room_1 s m #[Value.ref b] below meth c H1 locs1 (cells + 12) (slots + 1200) Q (F0 m 871 ls [])) : W p l e room_1 s m #[Value.ref b] below meth c H locs cells slots Q (F0 m 236 ls []) := by
  have hx := S.1
  have hb := S.2.1
  have hA : ∀ q : Nat, s.heap.size ≤ q → lA s q := fun _ h => h
  have hbA : ¬ lA s b := Nat.not_le.mpr hbl
  refine lv_aload_n hx hb dL_law_236 rfl (lv_at hl 1 rfl) ?_
  refine lv_aload_n hx hb dL_law_237 rfl (lv_at hl 0 rfl) ?_
  refine lv_iload_n hx hb dL_law_238 rfl (lv_at hl 3 rfl) ?_
  refine r_iconst hx hb dL_law_239 ?_
  refine r_iadd (v := ((3 * j + 1 : Nat) : Int)) hx hb (by omega) dL_law_240 ?_
  refine r_sld hx hb hX hbl hbA hS (3 * j + 1) rfl (by omega) hL dL_law_241 ?_
  refine lv_aload_n hx hb dL_law_242 rfl (lv_at hl 0 rfl) ?_
  refine lv_iload_n hx hb dL_law_243 rfl (lv_at hl 3 rfl) ?_
  refine r_iconst hx hb dL_law_244 ?_
  refine r_iadd (v := ((3 * j + 2 : Nat) : Int)) hx hb (by omega) dL_law_245 ?_
  refine r_sld hx hb hX hbl hbA hS (3 * j + 2) rfl (by omega) hL dL_law_246 ?_
  obtain ⟨r, P, h1, h2⟩ := pq_erase l D cI cB cZ cO ((xs (3 * j + 1)).toInt) ((xs (3 * j + 2)).toInt) (rg_self _) (rg_self _) xp hm w hRl
  refine lawV (n := 2) (As := [.int (iI (xs (3 * j + 1)).toInt), .int (iI (xs (3 * j + 2)).toInt)]) (rest := []) S hE hP hD hS hA h1 gL_law_X4_erase rfl (by decide +kernel) ⟨Nat.le_of_ble_eq_true rfl, Nat.le_of_ble_eq_true rfl⟩ 4 rfl (REL_x hRl) rfl hl.1 rfl (Nat.le_of_ble_eq_true rfl) dL_law_247 ⟨by show cells + 6 ≤ 600000; omega, by show slots + 600 ≤ 7302250; omega⟩ (fun w1 hw1 H1 locs1 hP hD hS => ?_)
  obtain ⟨hrc, hM⟩ := h2 w1 hw1
  refine lv_aload_n hx hb dL_law_250 rfl (lv_at hl 2 rfl) ?_
  refine lv_aload_n hx hb dL_law_251 rfl (lv_at hl 0 rfl) ?_
  refine lv_iload_n hx hb dL_law_252 rfl (lv_at hl 3 rfl) ?_
  refine r_iconst hx hb dL_law_253 ?_
  refine r_iadd (v := ((3 * j + 1 : Nat) : Int)) hx hb (by omega) dL_law_254 ?_
  refine r_sld hx hb hX hbl hbA hS (3 * j + 1) rfl (by omega) hL dL_law_255 ?_
  refine lv_aload_n hx hb dL_law_256 rfl (lv_at hl 0 rfl) ?_
  refine lv_iload_n hx hb dL_law_257 rfl (lv_at hl 3 rfl) ?_
  refine r_iconst hx hb dL_law_258 ?_
  refine r_iadd (v := ((3 * j + 2 : Nat) : Int)) hx hb (by omega) dL_law_259 ?_
  refine r_sld hx hb hX hbl hbA hS (3 * j + 2) rfl (by omega) hL dL_law_260 ?_
  refine lawV (n := 2) (As := [.int (iI (xs (3 * j + 1)).toInt), .int (iI (xs (3 * j + 2)).toInt)]) (rest := [.int (iI r)]) S hE hP hD hS hA hM gL_law_X5_erase rfl (by decide +kernel) ⟨Nat.le_of_ble_eq_true rfl, Nat.le_of_ble_eq_true rfl⟩ 5 rfl hrc rfl hl.1 rfl (Nat.le_of_ble_eq_true rfl) dL_law_261 ⟨by show cells + 6 + 6 ≤ 600000; omega, by show slots + 600 + 600 ≤ 7302250; omega⟩ (fun w2 hw2 H2 locs2 hP hD hS => ?_)
  refine lv_icmp_eq (tgt := 871) hx hb dL_law_264 (by decide) (fun _ => ?_) (fun h => absurd rfl h)
  exact kk w2 H2 locs2 hw2 hP hD hS
theorem pq_setCursor (l : Launch) (D : va_G) (cI cB cZ cO : ClassId) (x : Int) (rx : rg x) (xp hm : Nat) (w : va_W) (hR : REL cI cB cZ cO xp hm w) : PAIR l D cI cB cZ cO yX4_setCursor wsX4_setCursor yX5_setCursor wsX5_setCursor [.int (iI x)] xp hm w := REL_elim hR (fun xc xs h xq xl xca xr xra a1 a2 a3 a4 a5 b1 b2 b3 b4 b5 m1 m2 m3 m4 m5 m6 m7 m8 pa pb cp ty cn en ac cu co au er ki bs ba ln es cc ow ec ix clc cl src sc p1 la lt sg fi se np sed sac kd va bs9 bp9 po ph ps pf spr nx le fm sm bp sl kp re pr tw o0 o1 ea eb ex hw hgd hlk hcl hsr hpp hsq hre hkp hs0 hs1 hex => by rw [hw]; exact pr_setCursor l D cI cB cZ cO x rx xp hm xc xs h xq xl xca xr xra a1 a2 a3 a4 a5 b1 b2 b3 b4 b5 m1 m2 m3 m4 m5 m6 m7 m8 pa pb cp ty cn en ac cu co au er ki bs ba ln es cc ow ec ix clc cl src sc p1 la lt sg fi se np sed sac kd va bs9 bp9 po ph ps pf spr nx le fm sm bp sl kp re pr tw o0 o1 ea eb ex hgd hlk hcl hsr hpp hsq hre hkp hs0 hs1 hex)
set_option maxHeartbeats 4000000 in
set_option maxRecDepth 100000 in
theorem lc_setCursor (S : CallFix p m c cL_law 4 s #[Value.ref b] wsL_law RL) (hE : EK D cI cB cZ cO s) (hX : va_X b L xs s s.heap) (hbl : b < s.heap.size) (hL : L ≤ 1536) (hj : 3 * j + 3 ≤ L) (hc : cells + 12 ≤ 600000 ∧ slots + 1200 ≤ 7302250) (hRl : REL cI cB cZ cO xp hm w) (hP : va_P D vwCl w H) (hD : va_D (lA s) w) (hS : va_S (lA s) s.heap H locs) (hl : lv_has ls 4 [(0, .ref b), (1, .ref xp), (2, .ref hm), (3, .int (iI ((3 * j : Nat) : Int)))]) (kk : ∀ (w1 : va_W) (H1 : Heap) (locs1 : List Loc), REL cI cB cZ cO xp hm w1 → va_P D vwCl w1 H1 → va_D (lA s) w1 → va_S (lA s) s.heap H1 locs1 → W p l e room_1 s m #[Value.ref b] below meth c H1 locs1 (cells + 12) (slots + 1200) Q (F0 m 871 ls [])) : W p l e room_1 s m #[Value.ref b] below meth c H locs cells slots Q (F0 m 269 ls []) := by
  have hx := S.1
  have hb := S.2.1
  have hA : ∀ q : Nat, s.heap.size ≤ q → lA s q := fun _ h => h
  have hbA : ¬ lA s b := Nat.not_le.mpr hbl
  refine lv_aload_n hx hb dL_law_269 rfl (lv_at hl 1 rfl) ?_
  refine lv_aload_n hx hb dL_law_270 rfl (lv_at hl 0 rfl) ?_
  refine lv_iload_n hx hb dL_law_271 rfl (lv_at hl 3 rfl) ?_
  refine r_iconst hx hb dL_law_272 ?_
  refine r_iadd (v := ((3 * j + 1 : Nat) : Int)) hx hb (by omega) dL_law_273 ?_
  refine r_sld hx hb hX hbl hbA hS (3 * j + 1) rfl (by omega) hL dL_law_274 ?_
  obtain ⟨r, P, h1, h2⟩ := pq_setCursor l D cI cB cZ cO ((xs (3 * j + 1)).toInt) (rg_self _) xp hm w hRl
  refine lawV (n := 1) (As := [.int (iI (xs (3 * j + 1)).toInt)]) (rest := []) S hE hP hD hS hA h1 gL_law_X4_setCursor rfl (by decide +kernel) ⟨Nat.le_of_ble_eq_true rfl, Nat.le_of_ble_eq_true rfl⟩ 4 rfl (REL_x hRl) rfl hl.1 rfl (Nat.le_of_ble_eq_true rfl) dL_law_275 ⟨by show cells + 6 ≤ 600000; omega, by show slots + 600 ≤ 7302250; omega⟩ (fun w1 hw1 H1 locs1 hP hD hS => ?_)
  obtain ⟨hrc, hM⟩ := h2 w1 hw1
  refine lv_aload_n hx hb dL_law_278 rfl (lv_at hl 2 rfl) ?_
  refine lv_aload_n hx hb dL_law_279 rfl (lv_at hl 0 rfl) ?_
  refine lv_iload_n hx hb dL_law_280 rfl (lv_at hl 3 rfl) ?_
  refine r_iconst hx hb dL_law_281 ?_
  refine r_iadd (v := ((3 * j + 1 : Nat) : Int)) hx hb (by omega) dL_law_282 ?_
  refine r_sld hx hb hX hbl hbA hS (3 * j + 1) rfl (by omega) hL dL_law_283 ?_
  refine lawV (n := 1) (As := [.int (iI (xs (3 * j + 1)).toInt)]) (rest := [.int (iI r)]) S hE hP hD hS hA hM gL_law_X5_setCursor rfl (by decide +kernel) ⟨Nat.le_of_ble_eq_true rfl, Nat.le_of_ble_eq_true rfl⟩ 5 rfl hrc rfl hl.1 rfl (Nat.le_of_ble_eq_true rfl) dL_law_284 ⟨by show cells + 6 + 6 ≤ 600000; omega, by show slots + 600 + 600 ≤ 7302250; omega⟩ (fun w2 hw2 H2 locs2 hP hD hS => ?_)
  refine lv_icmp_eq (tgt := 871) hx hb dL_law_287 (by decide) (fun _ => ?_) (fun h => absurd rfl h)
  exact kk w2 H2 locs2 hw2 hP hD hS
theorem pq_setPrices (l : Launch) (D : va_G) (cI cB cZ cO : ClassId) (x : Int) (y : Int) (rx : rg x) (ry : rg y) (xp hm : Nat) (w : va_W) (hR : REL cI cB cZ cO xp hm w) : PAIR l D cI cB cZ cO yX4_setPrices wsX4_setPrices yX5_setPrices wsX5_setPrices [.int (iI x), .int (iI y)] xp hm w := REL_elim hR (fun xc xs h xq xl xca xr xra a1 a2 a3 a4 a5 b1 b2 b3 b4 b5 m1 m2 m3 m4 m5 m6 m7 m8 pa pb cp ty cn en ac cu co au er ki bs ba ln es cc ow ec ix clc cl src sc p1 la lt sg fi se np sed sac kd va bs9 bp9 po ph ps pf spr nx le fm sm bp sl kp re pr tw o0 o1 ea eb ex hw hgd hlk hcl hsr hpp hsq hre hkp hs0 hs1 hex => by rw [hw]; exact pr_setPrices l D cI cB cZ cO x y rx ry xp hm xc xs h xq xl xca xr xra a1 a2 a3 a4 a5 b1 b2 b3 b4 b5 m1 m2 m3 m4 m5 m6 m7 m8 pa pb cp ty cn en ac cu co au er ki bs ba ln es cc ow ec ix clc cl src sc p1 la lt sg fi se np sed sac kd va bs9 bp9 po ph ps pf spr nx le fm sm bp sl kp re pr tw o0 o1 ea eb ex hgd hlk hcl hsr hpp hsq hre hkp hs0 hs1 hex)
set_option maxHeartbeats 4000000 in
set_option maxRecDepth 100000 in
theorem lc_setPrices (S : CallFix p m c cL_law 4 s #[Value.ref b] wsL_law RL) (hE : EK D cI cB cZ cO s) (hX : va_X b L xs s s.heap) (hbl : b < s.heap.size) (hL : L ≤ 1536) (hj : 3 * j + 3 ≤ L) (hc : cells + 12 ≤ 600000 ∧ slots + 1200 ≤ 7302250) (hRl : REL cI cB cZ cO xp hm w) (hP : va_P D vwCl w H) (hD : va_D (lA s) w) (hS : va_S (lA s) s.heap H locs) (hl : lv_has ls 4 [(0, .ref b), (1, .ref xp), (2, .ref hm), (3, .int (iI ((3 * j : Nat) : Int)))]) (kk : ∀ (w1 : va_W) (H1 : Heap) (locs1 : List Loc), REL cI cB cZ cO xp hm w1 → va_P D vwCl w1 H1 → va_D (lA s) w1 → va_S (lA s) s.heap H1 locs1 → W p l e room_1 s m #[Value.ref b] below meth c H1 locs1 (cells + 12) (slots + 1200) Q (F0 m 871 ls [])) : W p l e room_1 s m #[Value.ref b] below meth c H locs cells slots Q (F0 m 292 ls []) := by
  have hx := S.1
  have hb := S.2.1
  have hA : ∀ q : Nat, s.heap.size ≤ q → lA s q := fun _ h => h
  have hbA : ¬ lA s b := Nat.not_le.mpr hbl
  refine lv_aload_n hx hb dL_law_292 rfl (lv_at hl 1 rfl) ?_
  refine lv_aload_n hx hb dL_law_293 rfl (lv_at hl 0 rfl) ?_
  refine lv_iload_n hx hb dL_law_294 rfl (lv_at hl 3 rfl) ?_
  refine r_iconst hx hb dL_law_295 ?_
  refine r_iadd (v := ((3 * j + 1 : Nat) : Int)) hx hb (by omega) dL_law_296 ?_
  refine r_sld hx hb hX hbl hbA hS (3 * j + 1) rfl (by omega) hL dL_law_297 ?_
  refine lv_aload_n hx hb dL_law_298 rfl (lv_at hl 0 rfl) ?_
  refine lv_iload_n hx hb dL_law_299 rfl (lv_at hl 3 rfl) ?_
  refine r_iconst hx hb dL_law_300 ?_
  refine r_iadd (v := ((3 * j + 2 : Nat) : Int)) hx hb (by omega) dL_law_301 ?_
  refine r_sld hx hb hX hbl hbA hS (3 * j + 2) rfl (by omega) hL dL_law_302 ?_
  obtain ⟨r, P, h1, h2⟩ := pq_setPrices l D cI cB cZ cO ((xs (3 * j + 1)).toInt) ((xs (3 * j + 2)).toInt) (rg_self _) (rg_self _) xp hm w hRl
  refine lawV (n := 2) (As := [.int (iI (xs (3 * j + 1)).toInt), .int (iI (xs (3 * j + 2)).toInt)]) (rest := []) S hE hP hD hS hA h1 gL_law_X4_setPrices rfl (by decide +kernel) ⟨Nat.le_of_ble_eq_true rfl, Nat.le_of_ble_eq_true rfl⟩ 4 rfl (REL_x hRl) rfl hl.1 rfl (Nat.le_of_ble_eq_true rfl) dL_law_303 ⟨by show cells + 6 ≤ 600000; omega, by show slots + 600 ≤ 7302250; omega⟩ (fun w1 hw1 H1 locs1 hP hD hS => ?_)
  obtain ⟨hrc, hM⟩ := h2 w1 hw1
  refine lv_aload_n hx hb dL_law_306 rfl (lv_at hl 2 rfl) ?_
  refine lv_aload_n hx hb dL_law_307 rfl (lv_at hl 0 rfl) ?_
  refine lv_iload_n hx hb dL_law_308 rfl (lv_at hl 3 rfl) ?_
  refine r_iconst hx hb dL_law_309 ?_
  refine r_iadd (v := ((3 * j + 1 : Nat) : Int)) hx hb (by omega) dL_law_310 ?_
  refine r_sld hx hb hX hbl hbA hS (3 * j + 1) rfl (by omega) hL dL_law_311 ?_
  refine lv_aload_n hx hb dL_law_312 rfl (lv_at hl 0 rfl) ?_
  refine lv_iload_n hx hb dL_law_313 rfl (lv_at hl 3 rfl) ?_
  refine r_iconst hx hb dL_law_314 ?_
  refine r_iadd (v := ((3 * j + 2 : Nat) : Int)) hx hb (by omega) dL_law_315 ?_
  refine r_sld hx hb hX hbl hbA hS (3 * j + 2) rfl (by omega) hL dL_law_316 ?_
  refine lawV (n := 2) (As := [.int (iI (xs (3 * j + 1)).toInt), .int (iI (xs (3 * j + 2)).toInt)]) (rest := [.int (iI r)]) S hE hP hD hS hA hM gL_law_X5_setPrices rfl (by decide +kernel) ⟨Nat.le_of_ble_eq_true rfl, Nat.le_of_ble_eq_true rfl⟩ 5 rfl hrc rfl hl.1 rfl (Nat.le_of_ble_eq_true rfl) dL_law_317 ⟨by show cells + 6 + 6 ≤ 600000; omega, by show slots + 600 + 600 ≤ 7302250; omega⟩ (fun w2 hw2 H2 locs2 hP hD hS => ?_)
  refine lv_icmp_eq (tgt := 871) hx hb dL_law_320 (by decide) (fun _ => ?_) (fun h => absurd rfl h)
  exact kk w2 H2 locs2 hw2 hP hD hS
theorem pq_character (l : Launch) (D : va_G) (cI cB cZ cO : ClassId) (x : Int) (rx : rg x) (xp hm : Nat) (w : va_W) (hR : REL cI cB cZ cO xp hm w) : PAIR l D cI cB cZ cO yX4_character wsX4_character yX5_character wsX5_character [.int (iI x)] xp hm w := REL_elim hR (fun xc xs h xq xl xca xr xra a1 a2 a3 a4 a5 b1 b2 b3 b4 b5 m1 m2 m3 m4 m5 m6 m7 m8 pa pb cp ty cn en ac cu co au er ki bs ba ln es cc ow ec ix clc cl src sc p1 la lt sg fi se np sed sac kd va bs9 bp9 po ph ps pf spr nx le fm sm bp sl kp re pr tw o0 o1 ea eb ex hw hgd hlk hcl hsr hpp hsq hre hkp hs0 hs1 hex => by rw [hw]; exact pr_character l D cI cB cZ cO x rx xp hm xc xs h xq xl xca xr xra a1 a2 a3 a4 a5 b1 b2 b3 b4 b5 m1 m2 m3 m4 m5 m6 m7 m8 pa pb cp ty cn en ac cu co au er ki bs ba ln es cc ow ec ix clc cl src sc p1 la lt sg fi se np sed sac kd va bs9 bp9 po ph ps pf spr nx le fm sm bp sl kp re pr tw o0 o1 ea eb ex hgd hlk hcl hsr hpp hsq hre hkp hs0 hs1 hex)
set_option maxHeartbeats 4000000 in
set_option maxRecDepth 100000 in
theorem lc_character (S : CallFix p m c cL_law 4 s #[Value.ref b] wsL_law RL) (hE : EK D cI cB cZ cO s) (hX : va_X b L xs s s.heap) (hbl : b < s.heap.size) (hL : L ≤ 1536) (hj : 3 * j + 3 ≤ L) (hc : cells + 12 ≤ 600000 ∧ slots + 1200 ≤ 7302250) (hRl : REL cI cB cZ cO xp hm w) (hP : va_P D vwCl w H) (hD : va_D (lA s) w) (hS : va_S (lA s) s.heap H locs) (hl : lv_has ls 4 [(0, .ref b), (1, .ref xp), (2, .ref hm), (3, .int (iI ((3 * j : Nat) : Int)))]) (kk : ∀ (w1 : va_W) (H1 : Heap) (locs1 : List Loc), REL cI cB cZ cO xp hm w1 → va_P D vwCl w1 H1 → va_D (lA s) w1 → va_S (lA s) s.heap H1 locs1 → W p l e room_1 s m #[Value.ref b] below meth c H1 locs1 (cells + 12) (slots + 1200) Q (F0 m 871 ls [])) : W p l e room_1 s m #[Value.ref b] below meth c H locs cells slots Q (F0 m 325 ls []) := by
  have hx := S.1
  have hb := S.2.1
  have hA : ∀ q : Nat, s.heap.size ≤ q → lA s q := fun _ h => h
  have hbA : ¬ lA s b := Nat.not_le.mpr hbl
  refine lv_aload_n hx hb dL_law_325 rfl (lv_at hl 1 rfl) ?_
  refine lv_aload_n hx hb dL_law_326 rfl (lv_at hl 0 rfl) ?_
  refine lv_iload_n hx hb dL_law_327 rfl (lv_at hl 3 rfl) ?_
  refine r_iconst hx hb dL_law_328 ?_
  refine r_iadd (v := ((3 * j + 1 : Nat) : Int)) hx hb (by omega) dL_law_329 ?_
  refine r_sld hx hb hX hbl hbA hS (3 * j + 1) rfl (by omega) hL dL_law_330 ?_
  obtain ⟨r, P, h1, h2⟩ := pq_character l D cI cB cZ cO ((xs (3 * j + 1)).toInt) (rg_self _) xp hm w hRl
  refine lawV (n := 1) (As := [.int (iI (xs (3 * j + 1)).toInt)]) (rest := []) S hE hP hD hS hA h1 gL_law_X4_character rfl (by decide +kernel) ⟨Nat.le_of_ble_eq_true rfl, Nat.le_of_ble_eq_true rfl⟩ 4 rfl (REL_x hRl) rfl hl.1 rfl (Nat.le_of_ble_eq_true rfl) dL_law_331 ⟨by show cells + 6 ≤ 600000; omega, by show slots + 600 ≤ 7302250; omega⟩ (fun w1 hw1 H1 locs1 hP hD hS => ?_)
  obtain ⟨hrc, hM⟩ := h2 w1 hw1
  refine lv_aload_n hx hb dL_law_334 rfl (lv_at hl 2 rfl) ?_
  refine lv_aload_n hx hb dL_law_335 rfl (lv_at hl 0 rfl) ?_
  refine lv_iload_n hx hb dL_law_336 rfl (lv_at hl 3 rfl) ?_
  refine r_iconst hx hb dL_law_337 ?_
  refine r_iadd (v := ((3 * j + 1 : Nat) : Int)) hx hb (by omega) dL_law_338 ?_
  refine r_sld hx hb hX hbl hbA hS (3 * j + 1) rfl (by omega) hL dL_law_339 ?_
  refine lawV (n := 1) (As := [.int (iI (xs (3 * j + 1)).toInt)]) (rest := [.int (iI r)]) S hE hP hD hS hA hM gL_law_X5_character rfl (by decide +kernel) ⟨Nat.le_of_ble_eq_true rfl, Nat.le_of_ble_eq_true rfl⟩ 5 rfl hrc rfl hl.1 rfl (Nat.le_of_ble_eq_true rfl) dL_law_340 ⟨by show cells + 6 + 6 ≤ 600000; omega, by show slots + 600 + 600 ≤ 7302250; omega⟩ (fun w2 hw2 H2 locs2 hP hD hS => ?_)
  refine lv_icmp_eq (tgt := 871) hx hb dL_law_343 (by decide) (fun _ => ?_) (fun h => absurd rfl h)
  exact kk w2 H2 locs2 hw2 hP hD hS
theorem pq_author (l : Launch) (D : va_G) (cI cB cZ cO : ClassId) (x : Int) (rx : rg x) (xp hm : Nat) (w : va_W) (hR : REL cI cB cZ cO xp hm w) : PAIR l D cI cB cZ cO yX4_author wsX4_author yX5_author wsX5_author [.int (iI x)] xp hm w := REL_elim hR (fun xc xs h xq xl xca xr xra a1 a2 a3 a4 a5 b1 b2 b3 b4 b5 m1 m2 m3 m4 m5 m6 m7 m8 pa pb cp ty cn en ac cu co au er ki bs ba ln es cc ow ec ix clc cl src sc p1 la lt sg fi se np sed sac kd va bs9 bp9 po ph ps pf spr nx le fm sm bp sl kp re pr tw o0 o1 ea eb ex hw hgd hlk hcl hsr hpp hsq hre hkp hs0 hs1 hex => by rw [hw]; exact pr_author l D cI cB cZ cO x rx xp hm xc xs h xq xl xca xr xra a1 a2 a3 a4 a5 b1 b2 b3 b4 b5 m1 m2 m3 m4 m5 m6 m7 m8 pa pb cp ty cn en ac cu co au er ki bs ba ln es cc ow ec ix clc cl src sc p1 la lt sg fi se np sed sac kd va bs9 bp9 po ph ps pf spr nx le fm sm bp sl kp re pr tw o0 o1 ea eb ex hgd hlk hcl hsr hpp hsq hre hkp hs0 hs1 hex)
set_option maxHeartbeats 4000000 in
set_option maxRecDepth 100000 in
theorem lc_author (S : CallFix p m c cL_law 4 s #[Value.ref b] wsL_law RL) (hE : EK D cI cB cZ cO s) (hX : va_X b L xs s s.heap) (hbl : b < s.heap.size) (hL : L ≤ 1536) (hj : 3 * j + 3 ≤ L) (hc : cells + 12 ≤ 600000 ∧ slots + 1200 ≤ 7302250) (hRl : REL cI cB cZ cO xp hm w) (hP : va_P D vwCl w H) (hD : va_D (lA s) w) (hS : va_S (lA s) s.heap H locs) (hl : lv_has ls 4 [(0, .ref b), (1, .ref xp), (2, .ref hm), (3, .int (iI ((3 * j : Nat) : Int)))]) (kk : ∀ (w1 : va_W) (H1 : Heap) (locs1 : List Loc), REL cI cB cZ cO xp hm w1 → va_P D vwCl w1 H1 → va_D (lA s) w1 → va_S (lA s) s.heap H1 locs1 → W p l e room_1 s m #[Value.ref b] below meth c H1 locs1 (cells + 12) (slots + 1200) Q (F0 m 871 ls [])) : W p l e room_1 s m #[Value.ref b] below meth c H locs cells slots Q (F0 m 348 ls []) := by
  have hx := S.1
  have hb := S.2.1
  have hA : ∀ q : Nat, s.heap.size ≤ q → lA s q := fun _ h => h
  have hbA : ¬ lA s b := Nat.not_le.mpr hbl
  refine lv_aload_n hx hb dL_law_348 rfl (lv_at hl 1 rfl) ?_
  refine lv_aload_n hx hb dL_law_349 rfl (lv_at hl 0 rfl) ?_
  refine lv_iload_n hx hb dL_law_350 rfl (lv_at hl 3 rfl) ?_
  refine r_iconst hx hb dL_law_351 ?_
  refine r_iadd (v := ((3 * j + 1 : Nat) : Int)) hx hb (by omega) dL_law_352 ?_
  refine r_sld hx hb hX hbl hbA hS (3 * j + 1) rfl (by omega) hL dL_law_353 ?_
  obtain ⟨r, P, h1, h2⟩ := pq_author l D cI cB cZ cO ((xs (3 * j + 1)).toInt) (rg_self _) xp hm w hRl
  refine lawV (n := 1) (As := [.int (iI (xs (3 * j + 1)).toInt)]) (rest := []) S hE hP hD hS hA h1 gL_law_X4_author rfl (by decide +kernel) ⟨Nat.le_of_ble_eq_true rfl, Nat.le_of_ble_eq_true rfl⟩ 4 rfl (REL_x hRl) rfl hl.1 rfl (Nat.le_of_ble_eq_true rfl) dL_law_354 ⟨by show cells + 6 ≤ 600000; omega, by show slots + 600 ≤ 7302250; omega⟩ (fun w1 hw1 H1 locs1 hP hD hS => ?_)
  obtain ⟨hrc, hM⟩ := h2 w1 hw1
  refine lv_aload_n hx hb dL_law_357 rfl (lv_at hl 2 rfl) ?_
  refine lv_aload_n hx hb dL_law_358 rfl (lv_at hl 0 rfl) ?_
  refine lv_iload_n hx hb dL_law_359 rfl (lv_at hl 3 rfl) ?_
  refine r_iconst hx hb dL_law_360 ?_
  refine r_iadd (v := ((3 * j + 1 : Nat) : Int)) hx hb (by omega) dL_law_361 ?_
  refine r_sld hx hb hX hbl hbA hS (3 * j + 1) rfl (by omega) hL dL_law_362 ?_
  refine lawV (n := 1) (As := [.int (iI (xs (3 * j + 1)).toInt)]) (rest := [.int (iI r)]) S hE hP hD hS hA hM gL_law_X5_author rfl (by decide +kernel) ⟨Nat.le_of_ble_eq_true rfl, Nat.le_of_ble_eq_true rfl⟩ 5 rfl hrc rfl hl.1 rfl (Nat.le_of_ble_eq_true rfl) dL_law_363 ⟨by show cells + 6 + 6 ≤ 600000; omega, by show slots + 600 + 600 ≤ 7302250; omega⟩ (fun w2 hw2 H2 locs2 hP hD hS => ?_)
  refine lv_icmp_eq (tgt := 871) hx hb dL_law_366 (by decide) (fun _ => ?_) (fun h => absurd rfl h)
  exact kk w2 H2 locs2 hw2 hP hD hS
theorem pq_count (l : Launch) (D : va_G) (cI cB cZ cO : ClassId) (x : Int) (rx : rg x) (xp hm : Nat) (w : va_W) (hR : REL cI cB cZ cO xp hm w) : PAIR l D cI cB cZ cO yX4_count wsX4_count yX5_count wsX5_count [.int (iI x)] xp hm w := REL_elim hR (fun xc xs h xq xl xca xr xra a1 a2 a3 a4 a5 b1 b2 b3 b4 b5 m1 m2 m3 m4 m5 m6 m7 m8 pa pb cp ty cn en ac cu co au er ki bs ba ln es cc ow ec ix clc cl src sc p1 la lt sg fi se np sed sac kd va bs9 bp9 po ph ps pf spr nx le fm sm bp sl kp re pr tw o0 o1 ea eb ex hw hgd hlk hcl hsr hpp hsq hre hkp hs0 hs1 hex => by rw [hw]; exact pr_count l D cI cB cZ cO x rx xp hm xc xs h xq xl xca xr xra a1 a2 a3 a4 a5 b1 b2 b3 b4 b5 m1 m2 m3 m4 m5 m6 m7 m8 pa pb cp ty cn en ac cu co au er ki bs ba ln es cc ow ec ix clc cl src sc p1 la lt sg fi se np sed sac kd va bs9 bp9 po ph ps pf spr nx le fm sm bp sl kp re pr tw o0 o1 ea eb ex hgd hlk hcl hsr hpp hsq hre hkp hs0 hs1 hex)
set_option maxHeartbeats 4000000 in
set_option maxRecDepth 100000 in
theorem lc_count (S : CallFix p m c cL_law 4 s #[Value.ref b] wsL_law RL) (hE : EK D cI cB cZ cO s) (hX : va_X b L xs s s.heap) (hbl : b < s.heap.size) (hL : L ≤ 1536) (hj : 3 * j + 3 ≤ L) (hc : cells + 12 ≤ 600000 ∧ slots + 1200 ≤ 7302250) (hRl : REL cI cB cZ cO xp hm w) (hP : va_P D vwCl w H) (hD : va_D (lA s) w) (hS : va_S (lA s) s.heap H locs) (hl : lv_has ls 4 [(0, .ref b), (1, .ref xp), (2, .ref hm), (3, .int (iI ((3 * j : Nat) : Int)))]) (kk : ∀ (w1 : va_W) (H1 : Heap) (locs1 : List Loc), REL cI cB cZ cO xp hm w1 → va_P D vwCl w1 H1 → va_D (lA s) w1 → va_S (lA s) s.heap H1 locs1 → W p l e room_1 s m #[Value.ref b] below meth c H1 locs1 (cells + 12) (slots + 1200) Q (F0 m 871 ls [])) : W p l e room_1 s m #[Value.ref b] below meth c H locs cells slots Q (F0 m 371 ls []) := by
  have hx := S.1
  have hb := S.2.1
  have hA : ∀ q : Nat, s.heap.size ≤ q → lA s q := fun _ h => h
  have hbA : ¬ lA s b := Nat.not_le.mpr hbl
  refine lv_aload_n hx hb dL_law_371 rfl (lv_at hl 1 rfl) ?_
  refine lv_aload_n hx hb dL_law_372 rfl (lv_at hl 0 rfl) ?_
  refine lv_iload_n hx hb dL_law_373 rfl (lv_at hl 3 rfl) ?_
  refine r_iconst hx hb dL_law_374 ?_
  refine r_iadd (v := ((3 * j + 1 : Nat) : Int)) hx hb (by omega) dL_law_375 ?_
  refine r_sld hx hb hX hbl hbA hS (3 * j + 1) rfl (by omega) hL dL_law_376 ?_
  obtain ⟨r, P, h1, h2⟩ := pq_count l D cI cB cZ cO ((xs (3 * j + 1)).toInt) (rg_self _) xp hm w hRl
  refine lawV (n := 1) (As := [.int (iI (xs (3 * j + 1)).toInt)]) (rest := []) S hE hP hD hS hA h1 gL_law_X4_count rfl (by decide +kernel) ⟨Nat.le_of_ble_eq_true rfl, Nat.le_of_ble_eq_true rfl⟩ 4 rfl (REL_x hRl) rfl hl.1 rfl (Nat.le_of_ble_eq_true rfl) dL_law_377 ⟨by show cells + 6 ≤ 600000; omega, by show slots + 600 ≤ 7302250; omega⟩ (fun w1 hw1 H1 locs1 hP hD hS => ?_)
  obtain ⟨hrc, hM⟩ := h2 w1 hw1
  refine lv_aload_n hx hb dL_law_380 rfl (lv_at hl 2 rfl) ?_
  refine lv_aload_n hx hb dL_law_381 rfl (lv_at hl 0 rfl) ?_
  refine lv_iload_n hx hb dL_law_382 rfl (lv_at hl 3 rfl) ?_
  refine r_iconst hx hb dL_law_383 ?_
  refine r_iadd (v := ((3 * j + 1 : Nat) : Int)) hx hb (by omega) dL_law_384 ?_
  refine r_sld hx hb hX hbl hbA hS (3 * j + 1) rfl (by omega) hL dL_law_385 ?_
  refine lawV (n := 1) (As := [.int (iI (xs (3 * j + 1)).toInt)]) (rest := [.int (iI r)]) S hE hP hD hS hA hM gL_law_X5_count rfl (by decide +kernel) ⟨Nat.le_of_ble_eq_true rfl, Nat.le_of_ble_eq_true rfl⟩ 5 rfl hrc rfl hl.1 rfl (Nat.le_of_ble_eq_true rfl) dL_law_386 ⟨by show cells + 6 + 6 ≤ 600000; omega, by show slots + 600 + 600 ≤ 7302250; omega⟩ (fun w2 hw2 H2 locs2 hP hD hS => ?_)
  refine lv_icmp_eq (tgt := 871) hx hb dL_law_389 (by decide) (fun _ => ?_) (fun h => absurd rfl h)
  exact kk w2 H2 locs2 hw2 hP hD hS
theorem pq_edit (l : Launch) (D : va_G) (cI cB cZ cO : ClassId) (x : Int) (y : Int) (rx : rg x) (ry : rg y) (xp hm : Nat) (w : va_W) (hR : REL cI cB cZ cO xp hm w) : PAIR l D cI cB cZ cO yX4_edit wsX4_edit yX5_edit wsX5_edit [.int (iI x), .int (iI y)] xp hm w := REL_elim hR (fun xc xs h xq xl xca xr xra a1 a2 a3 a4 a5 b1 b2 b3 b4 b5 m1 m2 m3 m4 m5 m6 m7 m8 pa pb cp ty cn en ac cu co au er ki bs ba ln es cc ow ec ix clc cl src sc p1 la lt sg fi se np sed sac kd va bs9 bp9 po ph ps pf spr nx le fm sm bp sl kp re pr tw o0 o1 ea eb ex hw hgd hlk hcl hsr hpp hsq hre hkp hs0 hs1 hex => by rw [hw]; exact pr_edit l D cI cB cZ cO x y rx ry xp hm xc xs h xq xl xca xr xra a1 a2 a3 a4 a5 b1 b2 b3 b4 b5 m1 m2 m3 m4 m5 m6 m7 m8 pa pb cp ty cn en ac cu co au er ki bs ba ln es cc ow ec ix clc cl src sc p1 la lt sg fi se np sed sac kd va bs9 bp9 po ph ps pf spr nx le fm sm bp sl kp re pr tw o0 o1 ea eb ex hgd hlk hcl hsr hpp hsq hre hkp hs0 hs1 hex)
set_option maxHeartbeats 4000000 in
set_option maxRecDepth 100000 in
theorem lc_edit (S : CallFix p m c cL_law 4 s #[Value.ref b] wsL_law RL) (hE : EK D cI cB cZ cO s) (hX : va_X b L xs s s.heap) (hbl : b < s.heap.size) (hL : L ≤ 1536) (hj : 3 * j + 3 ≤ L) (hc : cells + 12 ≤ 600000 ∧ slots + 1200 ≤ 7302250) (hRl : REL cI cB cZ cO xp hm w) (hP : va_P D vwCl w H) (hD : va_D (lA s) w) (hS : va_S (lA s) s.heap H locs) (hl : lv_has ls 4 [(0, .ref b), (1, .ref xp), (2, .ref hm), (3, .int (iI ((3 * j : Nat) : Int)))]) (kk : ∀ (w1 : va_W) (H1 : Heap) (locs1 : List Loc), REL cI cB cZ cO xp hm w1 → va_P D vwCl w1 H1 → va_D (lA s) w1 → va_S (lA s) s.heap H1 locs1 → W p l e room_1 s m #[Value.ref b] below meth c H1 locs1 (cells + 12) (slots + 1200) Q (F0 m 871 ls [])) : W p l e room_1 s m #[Value.ref b] below meth c H locs cells slots Q (F0 m 394 ls []) := by
  have hx := S.1
  have hb := S.2.1
  have hA : ∀ q : Nat, s.heap.size ≤ q → lA s q := fun _ h => h
  have hbA : ¬ lA s b := Nat.not_le.mpr hbl
  refine lv_aload_n hx hb dL_law_394 rfl (lv_at hl 1 rfl) ?_
  refine lv_aload_n hx hb dL_law_395 rfl (lv_at hl 0 rfl) ?_
  refine lv_iload_n hx hb dL_law_396 rfl (lv_at hl 3 rfl) ?_
  refine r_iconst hx hb dL_law_397 ?_
  refine r_iadd (v := ((3 * j + 1 : Nat) : Int)) hx hb (by omega) dL_law_398 ?_
  refine r_sld hx hb hX hbl hbA hS (3 * j + 1) rfl (by omega) hL dL_law_399 ?_
  refine lv_aload_n hx hb dL_law_400 rfl (lv_at hl 0 rfl) ?_
  refine lv_iload_n hx hb dL_law_401 rfl (lv_at hl 3 rfl) ?_
  refine r_iconst hx hb dL_law_402 ?_
  refine r_iadd (v := ((3 * j + 2 : Nat) : Int)) hx hb (by omega) dL_law_403 ?_
  refine r_sld hx hb hX hbl hbA hS (3 * j + 2) rfl (by omega) hL dL_law_404 ?_
  obtain ⟨r, P, h1, h2⟩ := pq_edit l D cI cB cZ cO ((xs (3 * j + 1)).toInt) ((xs (3 * j + 2)).toInt) (rg_self _) (rg_self _) xp hm w hRl
  refine lawV (n := 2) (As := [.int (iI (xs (3 * j + 1)).toInt), .int (iI (xs (3 * j + 2)).toInt)]) (rest := []) S hE hP hD hS hA h1 gL_law_X4_edit rfl (by decide +kernel) ⟨Nat.le_of_ble_eq_true rfl, Nat.le_of_ble_eq_true rfl⟩ 4 rfl (REL_x hRl) rfl hl.1 rfl (Nat.le_of_ble_eq_true rfl) dL_law_405 ⟨by show cells + 6 ≤ 600000; omega, by show slots + 600 ≤ 7302250; omega⟩ (fun w1 hw1 H1 locs1 hP hD hS => ?_)
  obtain ⟨hrc, hM⟩ := h2 w1 hw1
  refine lv_aload_n hx hb dL_law_408 rfl (lv_at hl 2 rfl) ?_
  refine lv_aload_n hx hb dL_law_409 rfl (lv_at hl 0 rfl) ?_
  refine lv_iload_n hx hb dL_law_410 rfl (lv_at hl 3 rfl) ?_
  refine r_iconst hx hb dL_law_411 ?_
  refine r_iadd (v := ((3 * j + 1 : Nat) : Int)) hx hb (by omega) dL_law_412 ?_
  refine r_sld hx hb hX hbl hbA hS (3 * j + 1) rfl (by omega) hL dL_law_413 ?_
  refine lv_aload_n hx hb dL_law_414 rfl (lv_at hl 0 rfl) ?_
  refine lv_iload_n hx hb dL_law_415 rfl (lv_at hl 3 rfl) ?_
  refine r_iconst hx hb dL_law_416 ?_
  refine r_iadd (v := ((3 * j + 2 : Nat) : Int)) hx hb (by omega) dL_law_417 ?_
  refine r_sld hx hb hX hbl hbA hS (3 * j + 2) rfl (by omega) hL dL_law_418 ?_
  refine lawV (n := 2) (As := [.int (iI (xs (3 * j + 1)).toInt), .int (iI (xs (3 * j + 2)).toInt)]) (rest := [.int (iI r)]) S hE hP hD hS hA hM gL_law_X5_edit rfl (by decide +kernel) ⟨Nat.le_of_ble_eq_true rfl, Nat.le_of_ble_eq_true rfl⟩ 5 rfl hrc rfl hl.1 rfl (Nat.le_of_ble_eq_true rfl) dL_law_419 ⟨by show cells + 6 + 6 ≤ 600000; omega, by show slots + 600 + 600 ≤ 7302250; omega⟩ (fun w2 hw2 H2 locs2 hP hD hS => ?_)
  refine lv_icmp_eq (tgt := 871) hx hb dL_law_422 (by decide) (fun _ => ?_) (fun h => absurd rfl h)
  exact kk w2 H2 locs2 hw2 hP hD hS
theorem pq_commute (l : Launch) (D : va_G) (cI cB cZ cO : ClassId) (x : Int) (y : Int) (rx : rg x) (ry : rg y) (xp hm : Nat) (w : va_W) (hR : REL cI cB cZ cO xp hm w) : PAIR l D cI cB cZ cO yX4_commute wsX4_commute yX5_commute wsX5_commute [.int (iI x), .int (iI y)] xp hm w := REL_elim hR (fun xc xs h xq xl xca xr xra a1 a2 a3 a4 a5 b1 b2 b3 b4 b5 m1 m2 m3 m4 m5 m6 m7 m8 pa pb cp ty cn en ac cu co au er ki bs ba ln es cc ow ec ix clc cl src sc p1 la lt sg fi se np sed sac kd va bs9 bp9 po ph ps pf spr nx le fm sm bp sl kp re pr tw o0 o1 ea eb ex hw hgd hlk hcl hsr hpp hsq hre hkp hs0 hs1 hex => by rw [hw]; exact pr_commute l D cI cB cZ cO x y rx ry xp hm xc xs h xq xl xca xr xra a1 a2 a3 a4 a5 b1 b2 b3 b4 b5 m1 m2 m3 m4 m5 m6 m7 m8 pa pb cp ty cn en ac cu co au er ki bs ba ln es cc ow ec ix clc cl src sc p1 la lt sg fi se np sed sac kd va bs9 bp9 po ph ps pf spr nx le fm sm bp sl kp re pr tw o0 o1 ea eb ex hgd hlk hcl hsr hpp hsq hre hkp hs0 hs1 hex)
set_option maxHeartbeats 4000000 in
set_option maxRecDepth 100000 in
theorem lc_commute (S : CallFix p m c cL_law 4 s #[Value.ref b] wsL_law RL) (hE : EK D cI cB cZ cO s) (hX : va_X b L xs s s.heap) (hbl : b < s.heap.size) (hL : L ≤ 1536) (hj : 3 * j + 3 ≤ L) (hc : cells + 12 ≤ 600000 ∧ slots + 1200 ≤ 7302250) (hRl : REL cI cB cZ cO xp hm w) (hP : va_P D vwCl w H) (hD : va_D (lA s) w) (hS : va_S (lA s) s.heap H locs) (hl : lv_has ls 4 [(0, .ref b), (1, .ref xp), (2, .ref hm), (3, .int (iI ((3 * j : Nat) : Int)))]) (kk : ∀ (w1 : va_W) (H1 : Heap) (locs1 : List Loc), REL cI cB cZ cO xp hm w1 → va_P D vwCl w1 H1 → va_D (lA s) w1 → va_S (lA s) s.heap H1 locs1 → W p l e room_1 s m #[Value.ref b] below meth c H1 locs1 (cells + 12) (slots + 1200) Q (F0 m 871 ls [])) : W p l e room_1 s m #[Value.ref b] below meth c H locs cells slots Q (F0 m 427 ls []) := by
  have hx := S.1
  have hb := S.2.1
  have hA : ∀ q : Nat, s.heap.size ≤ q → lA s q := fun _ h => h
  have hbA : ¬ lA s b := Nat.not_le.mpr hbl
  refine lv_aload_n hx hb dL_law_427 rfl (lv_at hl 1 rfl) ?_
  refine lv_aload_n hx hb dL_law_428 rfl (lv_at hl 0 rfl) ?_
  refine lv_iload_n hx hb dL_law_429 rfl (lv_at hl 3 rfl) ?_
  refine r_iconst hx hb dL_law_430 ?_
  refine r_iadd (v := ((3 * j + 1 : Nat) : Int)) hx hb (by omega) dL_law_431 ?_
  refine r_sld hx hb hX hbl hbA hS (3 * j + 1) rfl (by omega) hL dL_law_432 ?_
  refine lv_aload_n hx hb dL_law_433 rfl (lv_at hl 0 rfl) ?_
  refine lv_iload_n hx hb dL_law_434 rfl (lv_at hl 3 rfl) ?_
  refine r_iconst hx hb dL_law_435 ?_
  refine r_iadd (v := ((3 * j + 2 : Nat) : Int)) hx hb (by omega) dL_law_436 ?_
  refine r_sld hx hb hX hbl hbA hS (3 * j + 2) rfl (by omega) hL dL_law_437 ?_
  obtain ⟨r, P, h1, h2⟩ := pq_commute l D cI cB cZ cO ((xs (3 * j + 1)).toInt) ((xs (3 * j + 2)).toInt) (rg_self _) (rg_self _) xp hm w hRl
  refine lawV (n := 2) (As := [.int (iI (xs (3 * j + 1)).toInt), .int (iI (xs (3 * j + 2)).toInt)]) (rest := []) S hE hP hD hS hA h1 gL_law_X4_commute rfl (by decide +kernel) ⟨Nat.le_of_ble_eq_true rfl, Nat.le_of_ble_eq_true rfl⟩ 4 rfl (REL_x hRl) rfl hl.1 rfl (Nat.le_of_ble_eq_true rfl) dL_law_438 ⟨by show cells + 6 ≤ 600000; omega, by show slots + 600 ≤ 7302250; omega⟩ (fun w1 hw1 H1 locs1 hP hD hS => ?_)
  obtain ⟨hrc, hM⟩ := h2 w1 hw1
  refine lv_aload_n hx hb dL_law_441 rfl (lv_at hl 2 rfl) ?_
  refine lv_aload_n hx hb dL_law_442 rfl (lv_at hl 0 rfl) ?_
  refine lv_iload_n hx hb dL_law_443 rfl (lv_at hl 3 rfl) ?_
  refine r_iconst hx hb dL_law_444 ?_
  refine r_iadd (v := ((3 * j + 1 : Nat) : Int)) hx hb (by omega) dL_law_445 ?_
  refine r_sld hx hb hX hbl hbA hS (3 * j + 1) rfl (by omega) hL dL_law_446 ?_
  refine lv_aload_n hx hb dL_law_447 rfl (lv_at hl 0 rfl) ?_
  refine lv_iload_n hx hb dL_law_448 rfl (lv_at hl 3 rfl) ?_
  refine r_iconst hx hb dL_law_449 ?_
  refine r_iadd (v := ((3 * j + 2 : Nat) : Int)) hx hb (by omega) dL_law_450 ?_
  refine r_sld hx hb hX hbl hbA hS (3 * j + 2) rfl (by omega) hL dL_law_451 ?_
  refine lawV (n := 2) (As := [.int (iI (xs (3 * j + 1)).toInt), .int (iI (xs (3 * j + 2)).toInt)]) (rest := [.int (iI r)]) S hE hP hD hS hA hM gL_law_X5_commute rfl (by decide +kernel) ⟨Nat.le_of_ble_eq_true rfl, Nat.le_of_ble_eq_true rfl⟩ 5 rfl hrc rfl hl.1 rfl (Nat.le_of_ble_eq_true rfl) dL_law_452 ⟨by show cells + 6 + 6 ≤ 600000; omega, by show slots + 600 + 600 ≤ 7302250; omega⟩ (fun w2 hw2 H2 locs2 hP hD hS => ?_)
  refine lv_icmp_eq (tgt := 871) hx hb dL_law_455 (by decide) (fun _ => ?_) (fun h => absurd rfl h)
  exact kk w2 H2 locs2 hw2 hP hD hS
theorem pq_closure (l : Launch) (D : va_G) (cI cB cZ cO : ClassId) (x : Int) (rx : rg x) (xp hm : Nat) (w : va_W) (hR : REL cI cB cZ cO xp hm w) : PAIR l D cI cB cZ cO yX4_closure wsX4_closure yX5_closure wsX5_closure [.int (iI x)] xp hm w := REL_elim hR (fun xc xs h xq xl xca xr xra a1 a2 a3 a4 a5 b1 b2 b3 b4 b5 m1 m2 m3 m4 m5 m6 m7 m8 pa pb cp ty cn en ac cu co au er ki bs ba ln es cc ow ec ix clc cl src sc p1 la lt sg fi se np sed sac kd va bs9 bp9 po ph ps pf spr nx le fm sm bp sl kp re pr tw o0 o1 ea eb ex hw hgd hlk hcl hsr hpp hsq hre hkp hs0 hs1 hex => by rw [hw]; exact pr_closure l D cI cB cZ cO x rx xp hm xc xs h xq xl xca xr xra a1 a2 a3 a4 a5 b1 b2 b3 b4 b5 m1 m2 m3 m4 m5 m6 m7 m8 pa pb cp ty cn en ac cu co au er ki bs ba ln es cc ow ec ix clc cl src sc p1 la lt sg fi se np sed sac kd va bs9 bp9 po ph ps pf spr nx le fm sm bp sl kp re pr tw o0 o1 ea eb ex hgd hlk hcl hsr hpp hsq hre hkp hs0 hs1 hex)
set_option maxHeartbeats 4000000 in
set_option maxRecDepth 100000 in
theorem lc_closure (S : CallFix p m c cL_law 4 s #[Value.ref b] wsL_law RL) (hE : EK D cI cB cZ cO s) (hX : va_X b L xs s s.heap) (hbl : b < s.heap.size) (hL : L ≤ 1536) (hj : 3 * j + 3 ≤ L) (hc : cells + 12 ≤ 600000 ∧ slots + 1200 ≤ 7302250) (hRl : REL cI cB cZ cO xp hm w) (hP : va_P D vwCl w H) (hD : va_D (lA s) w) (hS : va_S (lA s) s.heap H locs) (hl : lv_has ls 4 [(0, .ref b), (1, .ref xp), (2, .ref hm), (3, .int (iI ((3 * j : Nat) : Int)))]) (kk : ∀ (w1 : va_W) (H1 : Heap) (locs1 : List Loc), REL cI cB cZ cO xp hm w1 → va_P D vwCl w1 H1 → va_D (lA s) w1 → va_S (lA s) s.heap H1 locs1 → W p l e room_1 s m #[Value.ref b] below meth c H1 locs1 (cells + 12) (slots + 1200) Q (F0 m 871 ls [])) : W p l e room_1 s m #[Value.ref b] below meth c H locs cells slots Q (F0 m 460 ls []) := by
  have hx := S.1
  have hb := S.2.1
  have hA : ∀ q : Nat, s.heap.size ≤ q → lA s q := fun _ h => h
  have hbA : ¬ lA s b := Nat.not_le.mpr hbl
  refine lv_aload_n hx hb dL_law_460 rfl (lv_at hl 1 rfl) ?_
  refine lv_aload_n hx hb dL_law_461 rfl (lv_at hl 0 rfl) ?_
  refine lv_iload_n hx hb dL_law_462 rfl (lv_at hl 3 rfl) ?_
  refine r_iconst hx hb dL_law_463 ?_
  refine r_iadd (v := ((3 * j + 1 : Nat) : Int)) hx hb (by omega) dL_law_464 ?_
  refine r_sld hx hb hX hbl hbA hS (3 * j + 1) rfl (by omega) hL dL_law_465 ?_
  obtain ⟨r, P, h1, h2⟩ := pq_closure l D cI cB cZ cO ((xs (3 * j + 1)).toInt) (rg_self _) xp hm w hRl
  refine lawV (n := 1) (As := [.int (iI (xs (3 * j + 1)).toInt)]) (rest := []) S hE hP hD hS hA h1 gL_law_X4_closure rfl (by decide +kernel) ⟨Nat.le_of_ble_eq_true rfl, Nat.le_of_ble_eq_true rfl⟩ 4 rfl (REL_x hRl) rfl hl.1 rfl (Nat.le_of_ble_eq_true rfl) dL_law_466 ⟨by show cells + 6 ≤ 600000; omega, by show slots + 600 ≤ 7302250; omega⟩ (fun w1 hw1 H1 locs1 hP hD hS => ?_)
  obtain ⟨hrc, hM⟩ := h2 w1 hw1
  refine lv_aload_n hx hb dL_law_469 rfl (lv_at hl 2 rfl) ?_
  refine lv_aload_n hx hb dL_law_470 rfl (lv_at hl 0 rfl) ?_
  refine lv_iload_n hx hb dL_law_471 rfl (lv_at hl 3 rfl) ?_
  refine r_iconst hx hb dL_law_472 ?_
  refine r_iadd (v := ((3 * j + 1 : Nat) : Int)) hx hb (by omega) dL_law_473 ?_
  refine r_sld hx hb hX hbl hbA hS (3 * j + 1) rfl (by omega) hL dL_law_474 ?_
  refine lawV (n := 1) (As := [.int (iI (xs (3 * j + 1)).toInt)]) (rest := [.int (iI r)]) S hE hP hD hS hA hM gL_law_X5_closure rfl (by decide +kernel) ⟨Nat.le_of_ble_eq_true rfl, Nat.le_of_ble_eq_true rfl⟩ 5 rfl hrc rfl hl.1 rfl (Nat.le_of_ble_eq_true rfl) dL_law_475 ⟨by show cells + 6 + 6 ≤ 600000; omega, by show slots + 600 + 600 ≤ 7302250; omega⟩ (fun w2 hw2 H2 locs2 hP hD hS => ?_)
  refine lv_icmp_eq (tgt := 871) hx hb dL_law_478 (by decide) (fun _ => ?_) (fun h => absurd rfl h)
  exact kk w2 H2 locs2 hw2 hP hD hS
theorem pq_price (l : Launch) (D : va_G) (cI cB cZ cO : ClassId) (x : Int) (rx : rg x) (xp hm : Nat) (w : va_W) (hR : REL cI cB cZ cO xp hm w) : PAIR l D cI cB cZ cO yX4_price wsX4_price yX5_price wsX5_price [.int (iI x)] xp hm w := REL_elim hR (fun xc xs h xq xl xca xr xra a1 a2 a3 a4 a5 b1 b2 b3 b4 b5 m1 m2 m3 m4 m5 m6 m7 m8 pa pb cp ty cn en ac cu co au er ki bs ba ln es cc ow ec ix clc cl src sc p1 la lt sg fi se np sed sac kd va bs9 bp9 po ph ps pf spr nx le fm sm bp sl kp re pr tw o0 o1 ea eb ex hw hgd hlk hcl hsr hpp hsq hre hkp hs0 hs1 hex => by rw [hw]; exact pr_price l D cI cB cZ cO x rx xp hm xc xs h xq xl xca xr xra a1 a2 a3 a4 a5 b1 b2 b3 b4 b5 m1 m2 m3 m4 m5 m6 m7 m8 pa pb cp ty cn en ac cu co au er ki bs ba ln es cc ow ec ix clc cl src sc p1 la lt sg fi se np sed sac kd va bs9 bp9 po ph ps pf spr nx le fm sm bp sl kp re pr tw o0 o1 ea eb ex hgd hlk hcl hsr hpp hsq hre hkp hs0 hs1 hex)
set_option maxHeartbeats 4000000 in
set_option maxRecDepth 100000 in
theorem lc_price (S : CallFix p m c cL_law 4 s #[Value.ref b] wsL_law RL) (hE : EK D cI cB cZ cO s) (hX : va_X b L xs s s.heap) (hbl : b < s.heap.size) (hL : L ≤ 1536) (hj : 3 * j + 3 ≤ L) (hc : cells + 12 ≤ 600000 ∧ slots + 1200 ≤ 7302250) (hRl : REL cI cB cZ cO xp hm w) (hP : va_P D vwCl w H) (hD : va_D (lA s) w) (hS : va_S (lA s) s.heap H locs) (hl : lv_has ls 4 [(0, .ref b), (1, .ref xp), (2, .ref hm), (3, .int (iI ((3 * j : Nat) : Int)))]) (kk : ∀ (w1 : va_W) (H1 : Heap) (locs1 : List Loc), REL cI cB cZ cO xp hm w1 → va_P D vwCl w1 H1 → va_D (lA s) w1 → va_S (lA s) s.heap H1 locs1 → W p l e room_1 s m #[Value.ref b] below meth c H1 locs1 (cells + 12) (slots + 1200) Q (F0 m 871 ls [])) : W p l e room_1 s m #[Value.ref b] below meth c H locs cells slots Q (F0 m 483 ls []) := by
  have hx := S.1
  have hb := S.2.1
  have hA : ∀ q : Nat, s.heap.size ≤ q → lA s q := fun _ h => h
  have hbA : ¬ lA s b := Nat.not_le.mpr hbl
  refine lv_aload_n hx hb dL_law_483 rfl (lv_at hl 1 rfl) ?_
  refine lv_aload_n hx hb dL_law_484 rfl (lv_at hl 0 rfl) ?_
  refine lv_iload_n hx hb dL_law_485 rfl (lv_at hl 3 rfl) ?_
  refine r_iconst hx hb dL_law_486 ?_
  refine r_iadd (v := ((3 * j + 1 : Nat) : Int)) hx hb (by omega) dL_law_487 ?_
  refine r_sld hx hb hX hbl hbA hS (3 * j + 1) rfl (by omega) hL dL_law_488 ?_
  obtain ⟨r, P, h1, h2⟩ := pq_price l D cI cB cZ cO ((xs (3 * j + 1)).toInt) (rg_self _) xp hm w hRl
  refine lawV (n := 1) (As := [.int (iI (xs (3 * j + 1)).toInt)]) (rest := []) S hE hP hD hS hA h1 gL_law_X4_price rfl (by decide +kernel) ⟨Nat.le_of_ble_eq_true rfl, Nat.le_of_ble_eq_true rfl⟩ 4 rfl (REL_x hRl) rfl hl.1 rfl (Nat.le_of_ble_eq_true rfl) dL_law_489 ⟨by show cells + 6 ≤ 600000; omega, by show slots + 600 ≤ 7302250; omega⟩ (fun w1 hw1 H1 locs1 hP hD hS => ?_)
  obtain ⟨hrc, hM⟩ := h2 w1 hw1
  refine lv_aload_n hx hb dL_law_492 rfl (lv_at hl 2 rfl) ?_
  refine lv_aload_n hx hb dL_law_493 rfl (lv_at hl 0 rfl) ?_
  refine lv_iload_n hx hb dL_law_494 rfl (lv_at hl 3 rfl) ?_
  refine r_iconst hx hb dL_law_495 ?_
  refine r_iadd (v := ((3 * j + 1 : Nat) : Int)) hx hb (by omega) dL_law_496 ?_
  refine r_sld hx hb hX hbl hbA hS (3 * j + 1) rfl (by omega) hL dL_law_497 ?_
  refine lawV (n := 1) (As := [.int (iI (xs (3 * j + 1)).toInt)]) (rest := [.int (iI r)]) S hE hP hD hS hA hM gL_law_X5_price rfl (by decide +kernel) ⟨Nat.le_of_ble_eq_true rfl, Nat.le_of_ble_eq_true rfl⟩ 5 rfl hrc rfl hl.1 rfl (Nat.le_of_ble_eq_true rfl) dL_law_498 ⟨by show cells + 6 + 6 ≤ 600000; omega, by show slots + 600 + 600 ≤ 7302250; omega⟩ (fun w2 hw2 H2 locs2 hP hD hS => ?_)
  refine lv_icmp_eq (tgt := 871) hx hb dL_law_501 (by decide) (fun _ => ?_) (fun h => absurd rfl h)
  exact kk w2 H2 locs2 hw2 hP hD hS
theorem pq_takeBack (l : Launch) (D : va_G) (cI cB cZ cO : ClassId) (x : Int) (rx : rg x) (xp hm : Nat) (w : va_W) (hR : REL cI cB cZ cO xp hm w) : PAIR l D cI cB cZ cO yX4_takeBack wsX4_takeBack yX5_takeBack wsX5_takeBack [.int (iI x)] xp hm w := REL_elim hR (fun xc xs h xq xl xca xr xra a1 a2 a3 a4 a5 b1 b2 b3 b4 b5 m1 m2 m3 m4 m5 m6 m7 m8 pa pb cp ty cn en ac cu co au er ki bs ba ln es cc ow ec ix clc cl src sc p1 la lt sg fi se np sed sac kd va bs9 bp9 po ph ps pf spr nx le fm sm bp sl kp re pr tw o0 o1 ea eb ex hw hgd hlk hcl hsr hpp hsq hre hkp hs0 hs1 hex => by rw [hw]; exact pr_takeBack l D cI cB cZ cO x rx xp hm xc xs h xq xl xca xr xra a1 a2 a3 a4 a5 b1 b2 b3 b4 b5 m1 m2 m3 m4 m5 m6 m7 m8 pa pb cp ty cn en ac cu co au er ki bs ba ln es cc ow ec ix clc cl src sc p1 la lt sg fi se np sed sac kd va bs9 bp9 po ph ps pf spr nx le fm sm bp sl kp re pr tw o0 o1 ea eb ex hgd hlk hcl hsr hpp hsq hre hkp hs0 hs1 hex)
set_option maxHeartbeats 4000000 in
set_option maxRecDepth 100000 in
theorem lc_takeBack (S : CallFix p m c cL_law 4 s #[Value.ref b] wsL_law RL) (hE : EK D cI cB cZ cO s) (hX : va_X b L xs s s.heap) (hbl : b < s.heap.size) (hL : L ≤ 1536) (hj : 3 * j + 3 ≤ L) (hc : cells + 12 ≤ 600000 ∧ slots + 1200 ≤ 7302250) (hRl : REL cI cB cZ cO xp hm w) (hP : va_P D vwCl w H) (hD : va_D (lA s) w) (hS : va_S (lA s) s.heap H locs) (hl : lv_has ls 4 [(0, .ref b), (1, .ref xp), (2, .ref hm), (3, .int (iI ((3 * j : Nat) : Int)))]) (kk : ∀ (w1 : va_W) (H1 : Heap) (locs1 : List Loc), REL cI cB cZ cO xp hm w1 → va_P D vwCl w1 H1 → va_D (lA s) w1 → va_S (lA s) s.heap H1 locs1 → W p l e room_1 s m #[Value.ref b] below meth c H1 locs1 (cells + 12) (slots + 1200) Q (F0 m 871 ls [])) : W p l e room_1 s m #[Value.ref b] below meth c H locs cells slots Q (F0 m 506 ls []) := by
  have hx := S.1
  have hb := S.2.1
  have hA : ∀ q : Nat, s.heap.size ≤ q → lA s q := fun _ h => h
  have hbA : ¬ lA s b := Nat.not_le.mpr hbl
  refine lv_aload_n hx hb dL_law_506 rfl (lv_at hl 1 rfl) ?_
  refine lv_aload_n hx hb dL_law_507 rfl (lv_at hl 0 rfl) ?_
  refine lv_iload_n hx hb dL_law_508 rfl (lv_at hl 3 rfl) ?_
  refine r_iconst hx hb dL_law_509 ?_
  refine r_iadd (v := ((3 * j + 1 : Nat) : Int)) hx hb (by omega) dL_law_510 ?_
  refine r_sld hx hb hX hbl hbA hS (3 * j + 1) rfl (by omega) hL dL_law_511 ?_
  obtain ⟨r, P, h1, h2⟩ := pq_takeBack l D cI cB cZ cO ((xs (3 * j + 1)).toInt) (rg_self _) xp hm w hRl
  refine lawV (n := 1) (As := [.int (iI (xs (3 * j + 1)).toInt)]) (rest := []) S hE hP hD hS hA h1 gL_law_X4_takeBack rfl (by decide +kernel) ⟨Nat.le_of_ble_eq_true rfl, Nat.le_of_ble_eq_true rfl⟩ 4 rfl (REL_x hRl) rfl hl.1 rfl (Nat.le_of_ble_eq_true rfl) dL_law_512 ⟨by show cells + 6 ≤ 600000; omega, by show slots + 600 ≤ 7302250; omega⟩ (fun w1 hw1 H1 locs1 hP hD hS => ?_)
  obtain ⟨hrc, hM⟩ := h2 w1 hw1
  refine lv_aload_n hx hb dL_law_515 rfl (lv_at hl 2 rfl) ?_
  refine lv_aload_n hx hb dL_law_516 rfl (lv_at hl 0 rfl) ?_
  refine lv_iload_n hx hb dL_law_517 rfl (lv_at hl 3 rfl) ?_
  refine r_iconst hx hb dL_law_518 ?_
  refine r_iadd (v := ((3 * j + 1 : Nat) : Int)) hx hb (by omega) dL_law_519 ?_
  refine r_sld hx hb hX hbl hbA hS (3 * j + 1) rfl (by omega) hL dL_law_520 ?_
  refine lawV (n := 1) (As := [.int (iI (xs (3 * j + 1)).toInt)]) (rest := [.int (iI r)]) S hE hP hD hS hA hM gL_law_X5_takeBack rfl (by decide +kernel) ⟨Nat.le_of_ble_eq_true rfl, Nat.le_of_ble_eq_true rfl⟩ 5 rfl hrc rfl hl.1 rfl (Nat.le_of_ble_eq_true rfl) dL_law_521 ⟨by show cells + 6 + 6 ≤ 600000; omega, by show slots + 600 + 600 ≤ 7302250; omega⟩ (fun w2 hw2 H2 locs2 hP hD hS => ?_)
  refine lv_icmp_eq (tgt := 871) hx hb dL_law_524 (by decide) (fun _ => ?_) (fun h => absurd rfl h)
  exact kk w2 H2 locs2 hw2 hP hD hS
theorem pq_bringBack (l : Launch) (D : va_G) (cI cB cZ cO : ClassId) (x : Int) (rx : rg x) (xp hm : Nat) (w : va_W) (hR : REL cI cB cZ cO xp hm w) : PAIR l D cI cB cZ cO yX4_bringBack wsX4_bringBack yX5_bringBack wsX5_bringBack [.int (iI x)] xp hm w := REL_elim hR (fun xc xs h xq xl xca xr xra a1 a2 a3 a4 a5 b1 b2 b3 b4 b5 m1 m2 m3 m4 m5 m6 m7 m8 pa pb cp ty cn en ac cu co au er ki bs ba ln es cc ow ec ix clc cl src sc p1 la lt sg fi se np sed sac kd va bs9 bp9 po ph ps pf spr nx le fm sm bp sl kp re pr tw o0 o1 ea eb ex hw hgd hlk hcl hsr hpp hsq hre hkp hs0 hs1 hex => by rw [hw]; exact pr_bringBack l D cI cB cZ cO x rx xp hm xc xs h xq xl xca xr xra a1 a2 a3 a4 a5 b1 b2 b3 b4 b5 m1 m2 m3 m4 m5 m6 m7 m8 pa pb cp ty cn en ac cu co au er ki bs ba ln es cc ow ec ix clc cl src sc p1 la lt sg fi se np sed sac kd va bs9 bp9 po ph ps pf spr nx le fm sm bp sl kp re pr tw o0 o1 ea eb ex hgd hlk hcl hsr hpp hsq hre hkp hs0 hs1 hex)
set_option maxHeartbeats 4000000 in
set_option maxRecDepth 100000 in
theorem lc_bringBack (S : CallFix p m c cL_law 4 s #[Value.ref b] wsL_law RL) (hE : EK D cI cB cZ cO s) (hX : va_X b L xs s s.heap) (hbl : b < s.heap.size) (hL : L ≤ 1536) (hj : 3 * j + 3 ≤ L) (hc : cells + 12 ≤ 600000 ∧ slots + 1200 ≤ 7302250) (hRl : REL cI cB cZ cO xp hm w) (hP : va_P D vwCl w H) (hD : va_D (lA s) w) (hS : va_S (lA s) s.heap H locs) (hl : lv_has ls 4 [(0, .ref b), (1, .ref xp), (2, .ref hm), (3, .int (iI ((3 * j : Nat) : Int)))]) (kk : ∀ (w1 : va_W) (H1 : Heap) (locs1 : List Loc), REL cI cB cZ cO xp hm w1 → va_P D vwCl w1 H1 → va_D (lA s) w1 → va_S (lA s) s.heap H1 locs1 → W p l e room_1 s m #[Value.ref b] below meth c H1 locs1 (cells + 12) (slots + 1200) Q (F0 m 871 ls [])) : W p l e room_1 s m #[Value.ref b] below meth c H locs cells slots Q (F0 m 529 ls []) := by
  have hx := S.1
  have hb := S.2.1
  have hA : ∀ q : Nat, s.heap.size ≤ q → lA s q := fun _ h => h
  have hbA : ¬ lA s b := Nat.not_le.mpr hbl
  refine lv_aload_n hx hb dL_law_529 rfl (lv_at hl 1 rfl) ?_
  refine lv_aload_n hx hb dL_law_530 rfl (lv_at hl 0 rfl) ?_
  refine lv_iload_n hx hb dL_law_531 rfl (lv_at hl 3 rfl) ?_
  refine r_iconst hx hb dL_law_532 ?_
  refine r_iadd (v := ((3 * j + 1 : Nat) : Int)) hx hb (by omega) dL_law_533 ?_
  refine r_sld hx hb hX hbl hbA hS (3 * j + 1) rfl (by omega) hL dL_law_534 ?_
  obtain ⟨r, P, h1, h2⟩ := pq_bringBack l D cI cB cZ cO ((xs (3 * j + 1)).toInt) (rg_self _) xp hm w hRl
  refine lawV (n := 1) (As := [.int (iI (xs (3 * j + 1)).toInt)]) (rest := []) S hE hP hD hS hA h1 gL_law_X4_bringBack rfl (by decide +kernel) ⟨Nat.le_of_ble_eq_true rfl, Nat.le_of_ble_eq_true rfl⟩ 4 rfl (REL_x hRl) rfl hl.1 rfl (Nat.le_of_ble_eq_true rfl) dL_law_535 ⟨by show cells + 6 ≤ 600000; omega, by show slots + 600 ≤ 7302250; omega⟩ (fun w1 hw1 H1 locs1 hP hD hS => ?_)
  obtain ⟨hrc, hM⟩ := h2 w1 hw1
  refine lv_aload_n hx hb dL_law_538 rfl (lv_at hl 2 rfl) ?_
  refine lv_aload_n hx hb dL_law_539 rfl (lv_at hl 0 rfl) ?_
  refine lv_iload_n hx hb dL_law_540 rfl (lv_at hl 3 rfl) ?_
  refine r_iconst hx hb dL_law_541 ?_
  refine r_iadd (v := ((3 * j + 1 : Nat) : Int)) hx hb (by omega) dL_law_542 ?_
  refine r_sld hx hb hX hbl hbA hS (3 * j + 1) rfl (by omega) hL dL_law_543 ?_
  refine lawV (n := 1) (As := [.int (iI (xs (3 * j + 1)).toInt)]) (rest := [.int (iI r)]) S hE hP hD hS hA hM gL_law_X5_bringBack rfl (by decide +kernel) ⟨Nat.le_of_ble_eq_true rfl, Nat.le_of_ble_eq_true rfl⟩ 5 rfl hrc rfl hl.1 rfl (Nat.le_of_ble_eq_true rfl) dL_law_544 ⟨by show cells + 6 + 6 ≤ 600000; omega, by show slots + 600 + 600 ≤ 7302250; omega⟩ (fun w2 hw2 H2 locs2 hP hD hS => ?_)
  refine lv_icmp_eq (tgt := 871) hx hb dL_law_547 (by decide) (fun _ => ?_) (fun h => absurd rfl h)
  exact kk w2 H2 locs2 hw2 hP hD hS
theorem pq_carried (l : Launch) (D : va_G) (cI cB cZ cO : ClassId) (x : Int) (y : Int) (rx : rg x) (ry : rg y) (xp hm : Nat) (w : va_W) (hR : REL cI cB cZ cO xp hm w) : PAIR l D cI cB cZ cO yX4_carried wsX4_carried yX5_carried wsX5_carried [.int (iI x), .int (iI y)] xp hm w := REL_elim hR (fun xc xs h xq xl xca xr xra a1 a2 a3 a4 a5 b1 b2 b3 b4 b5 m1 m2 m3 m4 m5 m6 m7 m8 pa pb cp ty cn en ac cu co au er ki bs ba ln es cc ow ec ix clc cl src sc p1 la lt sg fi se np sed sac kd va bs9 bp9 po ph ps pf spr nx le fm sm bp sl kp re pr tw o0 o1 ea eb ex hw hgd hlk hcl hsr hpp hsq hre hkp hs0 hs1 hex => by rw [hw]; exact pr_carried l D cI cB cZ cO x y rx ry xp hm xc xs h xq xl xca xr xra a1 a2 a3 a4 a5 b1 b2 b3 b4 b5 m1 m2 m3 m4 m5 m6 m7 m8 pa pb cp ty cn en ac cu co au er ki bs ba ln es cc ow ec ix clc cl src sc p1 la lt sg fi se np sed sac kd va bs9 bp9 po ph ps pf spr nx le fm sm bp sl kp re pr tw o0 o1 ea eb ex hgd hlk hcl hsr hpp hsq hre hkp hs0 hs1 hex)
set_option maxHeartbeats 4000000 in
set_option maxRecDepth 100000 in
theorem lc_carried (S : CallFix p m c cL_law 4 s #[Value.ref b] wsL_law RL) (hE : EK D cI cB cZ cO s) (hX : va_X b L xs s s.heap) (hbl : b < s.heap.size) (hL : L ≤ 1536) (hj : 3 * j + 3 ≤ L) (hc : cells + 12 ≤ 600000 ∧ slots + 1200 ≤ 7302250) (hRl : REL cI cB cZ cO xp hm w) (hP : va_P D vwCl w H) (hD : va_D (lA s) w) (hS : va_S (lA s) s.heap H locs) (hl : lv_has ls 4 [(0, .ref b), (1, .ref xp), (2, .ref hm), (3, .int (iI ((3 * j : Nat) : Int)))]) (kk : ∀ (w1 : va_W) (H1 : Heap) (locs1 : List Loc), REL cI cB cZ cO xp hm w1 → va_P D vwCl w1 H1 → va_D (lA s) w1 → va_S (lA s) s.heap H1 locs1 → W p l e room_1 s m #[Value.ref b] below meth c H1 locs1 (cells + 12) (slots + 1200) Q (F0 m 871 ls [])) : W p l e room_1 s m #[Value.ref b] below meth c H locs cells slots Q (F0 m 552 ls []) := by
  have hx := S.1
  have hb := S.2.1
  have hA : ∀ q : Nat, s.heap.size ≤ q → lA s q := fun _ h => h
  have hbA : ¬ lA s b := Nat.not_le.mpr hbl
  refine lv_aload_n hx hb dL_law_552 rfl (lv_at hl 1 rfl) ?_
  refine lv_aload_n hx hb dL_law_553 rfl (lv_at hl 0 rfl) ?_
  refine lv_iload_n hx hb dL_law_554 rfl (lv_at hl 3 rfl) ?_
  refine r_iconst hx hb dL_law_555 ?_
  refine r_iadd (v := ((3 * j + 1 : Nat) : Int)) hx hb (by omega) dL_law_556 ?_
  refine r_sld hx hb hX hbl hbA hS (3 * j + 1) rfl (by omega) hL dL_law_557 ?_
  refine lv_aload_n hx hb dL_law_558 rfl (lv_at hl 0 rfl) ?_
  refine lv_iload_n hx hb dL_law_559 rfl (lv_at hl 3 rfl) ?_
  refine r_iconst hx hb dL_law_560 ?_
  refine r_iadd (v := ((3 * j + 2 : Nat) : Int)) hx hb (by omega) dL_law_561 ?_
  refine r_sld hx hb hX hbl hbA hS (3 * j + 2) rfl (by omega) hL dL_law_562 ?_
  obtain ⟨r, P, h1, h2⟩ := pq_carried l D cI cB cZ cO ((xs (3 * j + 1)).toInt) ((xs (3 * j + 2)).toInt) (rg_self _) (rg_self _) xp hm w hRl
  refine lawV (n := 2) (As := [.int (iI (xs (3 * j + 1)).toInt), .int (iI (xs (3 * j + 2)).toInt)]) (rest := []) S hE hP hD hS hA h1 gL_law_X4_carried rfl (by decide +kernel) ⟨Nat.le_of_ble_eq_true rfl, Nat.le_of_ble_eq_true rfl⟩ 4 rfl (REL_x hRl) rfl hl.1 rfl (Nat.le_of_ble_eq_true rfl) dL_law_563 ⟨by show cells + 6 ≤ 600000; omega, by show slots + 600 ≤ 7302250; omega⟩ (fun w1 hw1 H1 locs1 hP hD hS => ?_)
  obtain ⟨hrc, hM⟩ := h2 w1 hw1
  refine lv_aload_n hx hb dL_law_566 rfl (lv_at hl 2 rfl) ?_
  refine lv_aload_n hx hb dL_law_567 rfl (lv_at hl 0 rfl) ?_
  refine lv_iload_n hx hb dL_law_568 rfl (lv_at hl 3 rfl) ?_
  refine r_iconst hx hb dL_law_569 ?_
  refine r_iadd (v := ((3 * j + 1 : Nat) : Int)) hx hb (by omega) dL_law_570 ?_
  refine r_sld hx hb hX hbl hbA hS (3 * j + 1) rfl (by omega) hL dL_law_571 ?_
  refine lv_aload_n hx hb dL_law_572 rfl (lv_at hl 0 rfl) ?_
  refine lv_iload_n hx hb dL_law_573 rfl (lv_at hl 3 rfl) ?_
  refine r_iconst hx hb dL_law_574 ?_
  refine r_iadd (v := ((3 * j + 2 : Nat) : Int)) hx hb (by omega) dL_law_575 ?_
  refine r_sld hx hb hX hbl hbA hS (3 * j + 2) rfl (by omega) hL dL_law_576 ?_
  refine lawV (n := 2) (As := [.int (iI (xs (3 * j + 1)).toInt), .int (iI (xs (3 * j + 2)).toInt)]) (rest := [.int (iI r)]) S hE hP hD hS hA hM gL_law_X5_carried rfl (by decide +kernel) ⟨Nat.le_of_ble_eq_true rfl, Nat.le_of_ble_eq_true rfl⟩ 5 rfl hrc rfl hl.1 rfl (Nat.le_of_ble_eq_true rfl) dL_law_577 ⟨by show cells + 6 + 6 ≤ 600000; omega, by show slots + 600 + 600 ≤ 7302250; omega⟩ (fun w2 hw2 H2 locs2 hP hD hS => ?_)
  refine lv_icmp_eq (tgt := 871) hx hb dL_law_580 (by decide) (fun _ => ?_) (fun h => absurd rfl h)
  exact kk w2 H2 locs2 hw2 hP hD hS
theorem pq_loose (l : Launch) (D : va_G) (cI cB cZ cO : ClassId)  (xp hm : Nat) (w : va_W) (hR : REL cI cB cZ cO xp hm w) : PAIR l D cI cB cZ cO yX4_loose wsX4_loose yX5_loose wsX5_loose [] xp hm w := REL_elim hR (fun xc xs h xq xl xca xr xra a1 a2 a3 a4 a5 b1 b2 b3 b4 b5 m1 m2 m3 m4 m5 m6 m7 m8 pa pb cp ty cn en ac cu co au er ki bs ba ln es cc ow ec ix clc cl src sc p1 la lt sg fi se np sed sac kd va bs9 bp9 po ph ps pf spr nx le fm sm bp sl kp re pr tw o0 o1 ea eb ex hw hgd hlk hcl hsr hpp hsq hre hkp hs0 hs1 hex => by rw [hw]; exact pr_loose l D cI cB cZ cO   xp hm xc xs h xq xl xca xr xra a1 a2 a3 a4 a5 b1 b2 b3 b4 b5 m1 m2 m3 m4 m5 m6 m7 m8 pa pb cp ty cn en ac cu co au er ki bs ba ln es cc ow ec ix clc cl src sc p1 la lt sg fi se np sed sac kd va bs9 bp9 po ph ps pf spr nx le fm sm bp sl kp re pr tw o0 o1 ea eb ex hgd hlk hcl hsr hpp hsq hre hkp hs0 hs1 hex)
set_option maxHeartbeats 4000000 in
set_option maxRecDepth 100000 in
theorem lc_loose (S : CallFix p m c cL_law 4 s #[Value.ref b] wsL_law RL) (hE : EK D cI cB cZ cO s) (hX : va_X b L xs s s.heap) (hbl : b < s.heap.size) (hL : L ≤ 1536) (hj : 3 * j + 3 ≤ L) (hc : cells + 12 ≤ 600000 ∧ slots + 1200 ≤ 7302250) (hRl : REL cI cB cZ cO xp hm w) (hP : va_P D vwCl w H) (hD : va_D (lA s) w) (hS : va_S (lA s) s.heap H locs) (hl : lv_has ls 4 [(0, .ref b), (1, .ref xp), (2, .ref hm), (3, .int (iI ((3 * j : Nat) : Int)))]) (kk : ∀ (w1 : va_W) (H1 : Heap) (locs1 : List Loc), REL cI cB cZ cO xp hm w1 → va_P D vwCl w1 H1 → va_D (lA s) w1 → va_S (lA s) s.heap H1 locs1 → W p l e room_1 s m #[Value.ref b] below meth c H1 locs1 (cells + 12) (slots + 1200) Q (F0 m 871 ls [])) : W p l e room_1 s m #[Value.ref b] below meth c H locs cells slots Q (F0 m 585 ls []) := by
  have hx := S.1
  have hb := S.2.1
  have hA : ∀ q : Nat, s.heap.size ≤ q → lA s q := fun _ h => h
  have hbA : ¬ lA s b := Nat.not_le.mpr hbl
  refine lv_aload_n hx hb dL_law_585 rfl (lv_at hl 1 rfl) ?_
  obtain ⟨r, P, h1, h2⟩ := pq_loose l D cI cB cZ cO   xp hm w hRl
  refine lawV (n := 0) (As := []) (rest := []) S hE hP hD hS hA h1 gL_law_X4_loose rfl (by decide +kernel) ⟨Nat.le_of_ble_eq_true rfl, Nat.le_of_ble_eq_true rfl⟩ 4 rfl (REL_x hRl) rfl hl.1 rfl (Nat.le_of_ble_eq_true rfl) dL_law_586 ⟨by show cells + 6 ≤ 600000; omega, by show slots + 600 ≤ 7302250; omega⟩ (fun w1 hw1 H1 locs1 hP hD hS => ?_)
  obtain ⟨hrc, hM⟩ := h2 w1 hw1
  refine lv_aload_n hx hb dL_law_589 rfl (lv_at hl 2 rfl) ?_
  refine lawV (n := 0) (As := []) (rest := [.int (iI r)]) S hE hP hD hS hA hM gL_law_X5_loose rfl (by decide +kernel) ⟨Nat.le_of_ble_eq_true rfl, Nat.le_of_ble_eq_true rfl⟩ 5 rfl hrc rfl hl.1 rfl (Nat.le_of_ble_eq_true rfl) dL_law_590 ⟨by show cells + 6 + 6 ≤ 600000; omega, by show slots + 600 + 600 ≤ 7302250; omega⟩ (fun w2 hw2 H2 locs2 hP hD hS => ?_)
  refine lv_icmp_eq (tgt := 871) hx hb dL_law_593 (by decide) (fun _ => ?_) (fun h => absurd rfl h)
  exact kk w2 H2 locs2 hw2 hP hD hS
theorem pq_opening (l : Launch) (D : va_G) (cI cB cZ cO : ClassId) (x : Int) (rx : rg x) (xp hm : Nat) (w : va_W) (hR : REL cI cB cZ cO xp hm w) : PAIR l D cI cB cZ cO yX4_opening wsX4_opening yX5_opening wsX5_opening [.int (iI x)] xp hm w := REL_elim hR (fun xc xs h xq xl xca xr xra a1 a2 a3 a4 a5 b1 b2 b3 b4 b5 m1 m2 m3 m4 m5 m6 m7 m8 pa pb cp ty cn en ac cu co au er ki bs ba ln es cc ow ec ix clc cl src sc p1 la lt sg fi se np sed sac kd va bs9 bp9 po ph ps pf spr nx le fm sm bp sl kp re pr tw o0 o1 ea eb ex hw hgd hlk hcl hsr hpp hsq hre hkp hs0 hs1 hex => by rw [hw]; exact pr_opening l D cI cB cZ cO x rx xp hm xc xs h xq xl xca xr xra a1 a2 a3 a4 a5 b1 b2 b3 b4 b5 m1 m2 m3 m4 m5 m6 m7 m8 pa pb cp ty cn en ac cu co au er ki bs ba ln es cc ow ec ix clc cl src sc p1 la lt sg fi se np sed sac kd va bs9 bp9 po ph ps pf spr nx le fm sm bp sl kp re pr tw o0 o1 ea eb ex hgd hlk hcl hsr hpp hsq hre hkp hs0 hs1 hex)
set_option maxHeartbeats 4000000 in
set_option maxRecDepth 100000 in
theorem lc_opening (S : CallFix p m c cL_law 4 s #[Value.ref b] wsL_law RL) (hE : EK D cI cB cZ cO s) (hX : va_X b L xs s s.heap) (hbl : b < s.heap.size) (hL : L ≤ 1536) (hj : 3 * j + 3 ≤ L) (hc : cells + 12 ≤ 600000 ∧ slots + 1200 ≤ 7302250) (hRl : REL cI cB cZ cO xp hm w) (hP : va_P D vwCl w H) (hD : va_D (lA s) w) (hS : va_S (lA s) s.heap H locs) (hl : lv_has ls 4 [(0, .ref b), (1, .ref xp), (2, .ref hm), (3, .int (iI ((3 * j : Nat) : Int)))]) (kk : ∀ (w1 : va_W) (H1 : Heap) (locs1 : List Loc), REL cI cB cZ cO xp hm w1 → va_P D vwCl w1 H1 → va_D (lA s) w1 → va_S (lA s) s.heap H1 locs1 → W p l e room_1 s m #[Value.ref b] below meth c H1 locs1 (cells + 12) (slots + 1200) Q (F0 m 871 ls [])) : W p l e room_1 s m #[Value.ref b] below meth c H locs cells slots Q (F0 m 598 ls []) := by
  have hx := S.1
  have hb := S.2.1
  have hA : ∀ q : Nat, s.heap.size ≤ q → lA s q := fun _ h => h
  have hbA : ¬ lA s b := Nat.not_le.mpr hbl
  refine lv_aload_n hx hb dL_law_598 rfl (lv_at hl 1 rfl) ?_
  refine lv_aload_n hx hb dL_law_599 rfl (lv_at hl 0 rfl) ?_
  refine lv_iload_n hx hb dL_law_600 rfl (lv_at hl 3 rfl) ?_
  refine r_iconst hx hb dL_law_601 ?_
  refine r_iadd (v := ((3 * j + 1 : Nat) : Int)) hx hb (by omega) dL_law_602 ?_
  refine r_sld hx hb hX hbl hbA hS (3 * j + 1) rfl (by omega) hL dL_law_603 ?_
  obtain ⟨r, P, h1, h2⟩ := pq_opening l D cI cB cZ cO ((xs (3 * j + 1)).toInt) (rg_self _) xp hm w hRl
  refine lawV (n := 1) (As := [.int (iI (xs (3 * j + 1)).toInt)]) (rest := []) S hE hP hD hS hA h1 gL_law_X4_opening rfl (by decide +kernel) ⟨Nat.le_of_ble_eq_true rfl, Nat.le_of_ble_eq_true rfl⟩ 4 rfl (REL_x hRl) rfl hl.1 rfl (Nat.le_of_ble_eq_true rfl) dL_law_604 ⟨by show cells + 6 ≤ 600000; omega, by show slots + 600 ≤ 7302250; omega⟩ (fun w1 hw1 H1 locs1 hP hD hS => ?_)
  obtain ⟨hrc, hM⟩ := h2 w1 hw1
  refine lv_aload_n hx hb dL_law_607 rfl (lv_at hl 2 rfl) ?_
  refine lv_aload_n hx hb dL_law_608 rfl (lv_at hl 0 rfl) ?_
  refine lv_iload_n hx hb dL_law_609 rfl (lv_at hl 3 rfl) ?_
  refine r_iconst hx hb dL_law_610 ?_
  refine r_iadd (v := ((3 * j + 1 : Nat) : Int)) hx hb (by omega) dL_law_611 ?_
  refine r_sld hx hb hX hbl hbA hS (3 * j + 1) rfl (by omega) hL dL_law_612 ?_
  refine lawV (n := 1) (As := [.int (iI (xs (3 * j + 1)).toInt)]) (rest := [.int (iI r)]) S hE hP hD hS hA hM gL_law_X5_opening rfl (by decide +kernel) ⟨Nat.le_of_ble_eq_true rfl, Nat.le_of_ble_eq_true rfl⟩ 5 rfl hrc rfl hl.1 rfl (Nat.le_of_ble_eq_true rfl) dL_law_613 ⟨by show cells + 6 + 6 ≤ 600000; omega, by show slots + 600 + 600 ≤ 7302250; omega⟩ (fun w2 hw2 H2 locs2 hP hD hS => ?_)
  refine lv_icmp_eq (tgt := 871) hx hb dL_law_616 (by decide) (fun _ => ?_) (fun h => absurd rfl h)
  exact kk w2 H2 locs2 hw2 hP hD hS
theorem pq_run (l : Launch) (D : va_G) (cI cB cZ cO : ClassId) (x : Int) (y : Int) (rx : rg x) (ry : rg y) (xp hm : Nat) (w : va_W) (hR : REL cI cB cZ cO xp hm w) : PAIR l D cI cB cZ cO yX4_run wsX4_run yX5_run wsX5_run [.int (iI x), .int (iI y)] xp hm w := REL_elim hR (fun xc xs h xq xl xca xr xra a1 a2 a3 a4 a5 b1 b2 b3 b4 b5 m1 m2 m3 m4 m5 m6 m7 m8 pa pb cp ty cn en ac cu co au er ki bs ba ln es cc ow ec ix clc cl src sc p1 la lt sg fi se np sed sac kd va bs9 bp9 po ph ps pf spr nx le fm sm bp sl kp re pr tw o0 o1 ea eb ex hw hgd hlk hcl hsr hpp hsq hre hkp hs0 hs1 hex => by rw [hw]; exact pr_run l D cI cB cZ cO x y rx ry xp hm xc xs h xq xl xca xr xra a1 a2 a3 a4 a5 b1 b2 b3 b4 b5 m1 m2 m3 m4 m5 m6 m7 m8 pa pb cp ty cn en ac cu co au er ki bs ba ln es cc ow ec ix clc cl src sc p1 la lt sg fi se np sed sac kd va bs9 bp9 po ph ps pf spr nx le fm sm bp sl kp re pr tw o0 o1 ea eb ex hgd hlk hcl hsr hpp hsq hre hkp hs0 hs1 hex)
set_option maxHeartbeats 4000000 in
set_option maxRecDepth 100000 in
theorem lc_run (S : CallFix p m c cL_law 4 s #[Value.ref b] wsL_law RL) (hE : EK D cI cB cZ cO s) (hX : va_X b L xs s s.heap) (hbl : b < s.heap.size) (hL : L ≤ 1536) (hj : 3 * j + 3 ≤ L) (hc : cells + 12 ≤ 600000 ∧ slots + 1200 ≤ 7302250) (hRl : REL cI cB cZ cO xp hm w) (hP : va_P D vwCl w H) (hD : va_D (lA s) w) (hS : va_S (lA s) s.heap H locs) (hl : lv_has ls 4 [(0, .ref b), (1, .ref xp), (2, .ref hm), (3, .int (iI ((3 * j : Nat) : Int)))]) (kk : ∀ (w1 : va_W) (H1 : Heap) (locs1 : List Loc), REL cI cB cZ cO xp hm w1 → va_P D vwCl w1 H1 → va_D (lA s) w1 → va_S (lA s) s.heap H1 locs1 → W p l e room_1 s m #[Value.ref b] below meth c H1 locs1 (cells + 12) (slots + 1200) Q (F0 m 871 ls [])) : W p l e room_1 s m #[Value.ref b] below meth c H locs cells slots Q (F0 m 621 ls []) := by
  have hx := S.1
  have hb := S.2.1
  have hA : ∀ q : Nat, s.heap.size ≤ q → lA s q := fun _ h => h
  have hbA : ¬ lA s b := Nat.not_le.mpr hbl
  refine lv_aload_n hx hb dL_law_621 rfl (lv_at hl 1 rfl) ?_
  refine lv_aload_n hx hb dL_law_622 rfl (lv_at hl 0 rfl) ?_
  refine lv_iload_n hx hb dL_law_623 rfl (lv_at hl 3 rfl) ?_
  refine r_iconst hx hb dL_law_624 ?_
  refine r_iadd (v := ((3 * j + 1 : Nat) : Int)) hx hb (by omega) dL_law_625 ?_
  refine r_sld hx hb hX hbl hbA hS (3 * j + 1) rfl (by omega) hL dL_law_626 ?_
  refine lv_aload_n hx hb dL_law_627 rfl (lv_at hl 0 rfl) ?_
  refine lv_iload_n hx hb dL_law_628 rfl (lv_at hl 3 rfl) ?_
  refine r_iconst hx hb dL_law_629 ?_
  refine r_iadd (v := ((3 * j + 2 : Nat) : Int)) hx hb (by omega) dL_law_630 ?_
  refine r_sld hx hb hX hbl hbA hS (3 * j + 2) rfl (by omega) hL dL_law_631 ?_
  obtain ⟨r, P, h1, h2⟩ := pq_run l D cI cB cZ cO ((xs (3 * j + 1)).toInt) ((xs (3 * j + 2)).toInt) (rg_self _) (rg_self _) xp hm w hRl
  refine lawV (n := 2) (As := [.int (iI (xs (3 * j + 1)).toInt), .int (iI (xs (3 * j + 2)).toInt)]) (rest := []) S hE hP hD hS hA h1 gL_law_X4_run rfl (by decide +kernel) ⟨Nat.le_of_ble_eq_true rfl, Nat.le_of_ble_eq_true rfl⟩ 4 rfl (REL_x hRl) rfl hl.1 rfl (Nat.le_of_ble_eq_true rfl) dL_law_632 ⟨by show cells + 6 ≤ 600000; omega, by show slots + 600 ≤ 7302250; omega⟩ (fun w1 hw1 H1 locs1 hP hD hS => ?_)
  obtain ⟨hrc, hM⟩ := h2 w1 hw1
  refine lv_aload_n hx hb dL_law_635 rfl (lv_at hl 2 rfl) ?_
  refine lv_aload_n hx hb dL_law_636 rfl (lv_at hl 0 rfl) ?_
  refine lv_iload_n hx hb dL_law_637 rfl (lv_at hl 3 rfl) ?_
  refine r_iconst hx hb dL_law_638 ?_
  refine r_iadd (v := ((3 * j + 1 : Nat) : Int)) hx hb (by omega) dL_law_639 ?_
  refine r_sld hx hb hX hbl hbA hS (3 * j + 1) rfl (by omega) hL dL_law_640 ?_
  refine lv_aload_n hx hb dL_law_641 rfl (lv_at hl 0 rfl) ?_
  refine lv_iload_n hx hb dL_law_642 rfl (lv_at hl 3 rfl) ?_
  refine r_iconst hx hb dL_law_643 ?_
  refine r_iadd (v := ((3 * j + 2 : Nat) : Int)) hx hb (by omega) dL_law_644 ?_
  refine r_sld hx hb hX hbl hbA hS (3 * j + 2) rfl (by omega) hL dL_law_645 ?_
  refine lawV (n := 2) (As := [.int (iI (xs (3 * j + 1)).toInt), .int (iI (xs (3 * j + 2)).toInt)]) (rest := [.int (iI r)]) S hE hP hD hS hA hM gL_law_X5_run rfl (by decide +kernel) ⟨Nat.le_of_ble_eq_true rfl, Nat.le_of_ble_eq_true rfl⟩ 5 rfl hrc rfl hl.1 rfl (Nat.le_of_ble_eq_true rfl) dL_law_646 ⟨by show cells + 6 + 6 ≤ 600000; omega, by show slots + 600 + 600 ≤ 7302250; omega⟩ (fun w2 hw2 H2 locs2 hP hD hS => ?_)
  refine lv_icmp_eq (tgt := 871) hx hb dL_law_649 (by decide) (fun _ => ?_) (fun h => absurd rfl h)
  exact kk w2 H2 locs2 hw2 hP hD hS
theorem pq_appendScript (l : Launch) (D : va_G) (cI cB cZ cO : ClassId) (x : Int) (rx : rg x) (xp hm : Nat) (w : va_W) (hR : REL cI cB cZ cO xp hm w) : PAIR l D cI cB cZ cO yX4_appendScript wsX4_appendScript yX5_appendScript wsX5_appendScript [.int (iI x)] xp hm w := REL_elim hR (fun xc xs h xq xl xca xr xra a1 a2 a3 a4 a5 b1 b2 b3 b4 b5 m1 m2 m3 m4 m5 m6 m7 m8 pa pb cp ty cn en ac cu co au er ki bs ba ln es cc ow ec ix clc cl src sc p1 la lt sg fi se np sed sac kd va bs9 bp9 po ph ps pf spr nx le fm sm bp sl kp re pr tw o0 o1 ea eb ex hw hgd hlk hcl hsr hpp hsq hre hkp hs0 hs1 hex => by rw [hw]; exact pr_appendScript l D cI cB cZ cO x rx xp hm xc xs h xq xl xca xr xra a1 a2 a3 a4 a5 b1 b2 b3 b4 b5 m1 m2 m3 m4 m5 m6 m7 m8 pa pb cp ty cn en ac cu co au er ki bs ba ln es cc ow ec ix clc cl src sc p1 la lt sg fi se np sed sac kd va bs9 bp9 po ph ps pf spr nx le fm sm bp sl kp re pr tw o0 o1 ea eb ex hgd hlk hcl hsr hpp hsq hre hkp hs0 hs1 hex)
set_option maxHeartbeats 4000000 in
set_option maxRecDepth 100000 in
theorem lc_appendScript (S : CallFix p m c cL_law 4 s #[Value.ref b] wsL_law RL) (hE : EK D cI cB cZ cO s) (hX : va_X b L xs s s.heap) (hbl : b < s.heap.size) (hL : L ≤ 1536) (hj : 3 * j + 3 ≤ L) (hc : cells + 12 ≤ 600000 ∧ slots + 1200 ≤ 7302250) (hRl : REL cI cB cZ cO xp hm w) (hP : va_P D vwCl w H) (hD : va_D (lA s) w) (hS : va_S (lA s) s.heap H locs) (hl : lv_has ls 4 [(0, .ref b), (1, .ref xp), (2, .ref hm), (3, .int (iI ((3 * j : Nat) : Int)))]) (kk : ∀ (w1 : va_W) (H1 : Heap) (locs1 : List Loc), REL cI cB cZ cO xp hm w1 → va_P D vwCl w1 H1 → va_D (lA s) w1 → va_S (lA s) s.heap H1 locs1 → W p l e room_1 s m #[Value.ref b] below meth c H1 locs1 (cells + 12) (slots + 1200) Q (F0 m 871 ls [])) : W p l e room_1 s m #[Value.ref b] below meth c H locs cells slots Q (F0 m 654 ls []) := by
  have hx := S.1
  have hb := S.2.1
  have hA : ∀ q : Nat, s.heap.size ≤ q → lA s q := fun _ h => h
  have hbA : ¬ lA s b := Nat.not_le.mpr hbl
  refine lv_aload_n hx hb dL_law_654 rfl (lv_at hl 1 rfl) ?_
  refine lv_aload_n hx hb dL_law_655 rfl (lv_at hl 0 rfl) ?_
  refine lv_iload_n hx hb dL_law_656 rfl (lv_at hl 3 rfl) ?_
  refine r_iconst hx hb dL_law_657 ?_
  refine r_iadd (v := ((3 * j + 1 : Nat) : Int)) hx hb (by omega) dL_law_658 ?_
  refine r_sld hx hb hX hbl hbA hS (3 * j + 1) rfl (by omega) hL dL_law_659 ?_
  obtain ⟨r, P, h1, h2⟩ := pq_appendScript l D cI cB cZ cO ((xs (3 * j + 1)).toInt) (rg_self _) xp hm w hRl
  refine lawV (n := 1) (As := [.int (iI (xs (3 * j + 1)).toInt)]) (rest := []) S hE hP hD hS hA h1 gL_law_X4_appendScript rfl (by decide +kernel) ⟨Nat.le_of_ble_eq_true rfl, Nat.le_of_ble_eq_true rfl⟩ 4 rfl (REL_x hRl) rfl hl.1 rfl (Nat.le_of_ble_eq_true rfl) dL_law_660 ⟨by show cells + 6 ≤ 600000; omega, by show slots + 600 ≤ 7302250; omega⟩ (fun w1 hw1 H1 locs1 hP hD hS => ?_)
  obtain ⟨hrc, hM⟩ := h2 w1 hw1
  refine lv_aload_n hx hb dL_law_663 rfl (lv_at hl 2 rfl) ?_
  refine lv_aload_n hx hb dL_law_664 rfl (lv_at hl 0 rfl) ?_
  refine lv_iload_n hx hb dL_law_665 rfl (lv_at hl 3 rfl) ?_
  refine r_iconst hx hb dL_law_666 ?_
  refine r_iadd (v := ((3 * j + 1 : Nat) : Int)) hx hb (by omega) dL_law_667 ?_
  refine r_sld hx hb hX hbl hbA hS (3 * j + 1) rfl (by omega) hL dL_law_668 ?_
  refine lawV (n := 1) (As := [.int (iI (xs (3 * j + 1)).toInt)]) (rest := [.int (iI r)]) S hE hP hD hS hA hM gL_law_X5_appendScript rfl (by decide +kernel) ⟨Nat.le_of_ble_eq_true rfl, Nat.le_of_ble_eq_true rfl⟩ 5 rfl hrc rfl hl.1 rfl (Nat.le_of_ble_eq_true rfl) dL_law_669 ⟨by show cells + 6 + 6 ≤ 600000; omega, by show slots + 600 + 600 ≤ 7302250; omega⟩ (fun w2 hw2 H2 locs2 hP hD hS => ?_)
  refine lv_icmp_eq (tgt := 871) hx hb dL_law_672 (by decide) (fun _ => ?_) (fun h => absurd rfl h)
  exact kk w2 H2 locs2 hw2 hP hD hS
theorem pq_clearScript (l : Launch) (D : va_G) (cI cB cZ cO : ClassId)  (xp hm : Nat) (w : va_W) (hR : REL cI cB cZ cO xp hm w) : PAIR l D cI cB cZ cO yX4_clearScript wsX4_clearScript yX5_clearScript wsX5_clearScript [] xp hm w := REL_elim hR (fun xc xs h xq xl xca xr xra a1 a2 a3 a4 a5 b1 b2 b3 b4 b5 m1 m2 m3 m4 m5 m6 m7 m8 pa pb cp ty cn en ac cu co au er ki bs ba ln es cc ow ec ix clc cl src sc p1 la lt sg fi se np sed sac kd va bs9 bp9 po ph ps pf spr nx le fm sm bp sl kp re pr tw o0 o1 ea eb ex hw hgd hlk hcl hsr hpp hsq hre hkp hs0 hs1 hex => by rw [hw]; exact pr_clearScript l D cI cB cZ cO   xp hm xc xs h xq xl xca xr xra a1 a2 a3 a4 a5 b1 b2 b3 b4 b5 m1 m2 m3 m4 m5 m6 m7 m8 pa pb cp ty cn en ac cu co au er ki bs ba ln es cc ow ec ix clc cl src sc p1 la lt sg fi se np sed sac kd va bs9 bp9 po ph ps pf spr nx le fm sm bp sl kp re pr tw o0 o1 ea eb ex hgd hlk hcl hsr hpp hsq hre hkp hs0 hs1 hex)
set_option maxHeartbeats 4000000 in
set_option maxRecDepth 100000 in
theorem lc_clearScript (S : CallFix p m c cL_law 4 s #[Value.ref b] wsL_law RL) (hE : EK D cI cB cZ cO s) (hX : va_X b L xs s s.heap) (hbl : b < s.heap.size) (hL : L ≤ 1536) (hj : 3 * j + 3 ≤ L) (hc : cells + 12 ≤ 600000 ∧ slots + 1200 ≤ 7302250) (hRl : REL cI cB cZ cO xp hm w) (hP : va_P D vwCl w H) (hD : va_D (lA s) w) (hS : va_S (lA s) s.heap H locs) (hl : lv_has ls 4 [(0, .ref b), (1, .ref xp), (2, .ref hm), (3, .int (iI ((3 * j : Nat) : Int)))]) (kk : ∀ (w1 : va_W) (H1 : Heap) (locs1 : List Loc), REL cI cB cZ cO xp hm w1 → va_P D vwCl w1 H1 → va_D (lA s) w1 → va_S (lA s) s.heap H1 locs1 → W p l e room_1 s m #[Value.ref b] below meth c H1 locs1 (cells + 12) (slots + 1200) Q (F0 m 871 ls [])) : W p l e room_1 s m #[Value.ref b] below meth c H locs cells slots Q (F0 m 677 ls []) := by
  have hx := S.1
  have hb := S.2.1
  have hA : ∀ q : Nat, s.heap.size ≤ q → lA s q := fun _ h => h
  have hbA : ¬ lA s b := Nat.not_le.mpr hbl
  refine lv_aload_n hx hb dL_law_677 rfl (lv_at hl 1 rfl) ?_
  obtain ⟨r, P, h1, h2⟩ := pq_clearScript l D cI cB cZ cO   xp hm w hRl
  refine lawV (n := 0) (As := []) (rest := []) S hE hP hD hS hA h1 gL_law_X4_clearScript rfl (by decide +kernel) ⟨Nat.le_of_ble_eq_true rfl, Nat.le_of_ble_eq_true rfl⟩ 4 rfl (REL_x hRl) rfl hl.1 rfl (Nat.le_of_ble_eq_true rfl) dL_law_678 ⟨by show cells + 6 ≤ 600000; omega, by show slots + 600 ≤ 7302250; omega⟩ (fun w1 hw1 H1 locs1 hP hD hS => ?_)
  obtain ⟨hrc, hM⟩ := h2 w1 hw1
  refine lv_aload_n hx hb dL_law_681 rfl (lv_at hl 2 rfl) ?_
  refine lawV (n := 0) (As := []) (rest := [.int (iI r)]) S hE hP hD hS hA hM gL_law_X5_clearScript rfl (by decide +kernel) ⟨Nat.le_of_ble_eq_true rfl, Nat.le_of_ble_eq_true rfl⟩ 5 rfl hrc rfl hl.1 rfl (Nat.le_of_ble_eq_true rfl) dL_law_682 ⟨by show cells + 6 + 6 ≤ 600000; omega, by show slots + 600 + 600 ≤ 7302250; omega⟩ (fun w2 hw2 H2 locs2 hP hD hS => ?_)
  refine lv_icmp_eq (tgt := 871) hx hb dL_law_685 (by decide) (fun _ => ?_) (fun h => absurd rfl h)
  exact kk w2 H2 locs2 hw2 hP hD hS
theorem pq_runScript (l : Launch) (D : va_G) (cI cB cZ cO : ClassId)  (xp hm : Nat) (w : va_W) (hR : REL cI cB cZ cO xp hm w) : PAIR l D cI cB cZ cO yX4_runScript wsX4_runScript yX5_runScript wsX5_runScript [] xp hm w := REL_elim hR (fun xc xs h xq xl xca xr xra a1 a2 a3 a4 a5 b1 b2 b3 b4 b5 m1 m2 m3 m4 m5 m6 m7 m8 pa pb cp ty cn en ac cu co au er ki bs ba ln es cc ow ec ix clc cl src sc p1 la lt sg fi se np sed sac kd va bs9 bp9 po ph ps pf spr nx le fm sm bp sl kp re pr tw o0 o1 ea eb ex hw hgd hlk hcl hsr hpp hsq hre hkp hs0 hs1 hex => by rw [hw]; exact pr_runScript l D cI cB cZ cO   xp hm xc xs h xq xl xca xr xra a1 a2 a3 a4 a5 b1 b2 b3 b4 b5 m1 m2 m3 m4 m5 m6 m7 m8 pa pb cp ty cn en ac cu co au er ki bs ba ln es cc ow ec ix clc cl src sc p1 la lt sg fi se np sed sac kd va bs9 bp9 po ph ps pf spr nx le fm sm bp sl kp re pr tw o0 o1 ea eb ex hgd hlk hcl hsr hpp hsq hre hkp hs0 hs1 hex)
set_option maxHeartbeats 4000000 in
set_option maxRecDepth 100000 in
theorem lc_runScript (S : CallFix p m c cL_law 4 s #[Value.ref b] wsL_law RL) (hE : EK D cI cB cZ cO s) (hX : va_X b L xs s s.heap) (hbl : b < s.heap.size) (hL : L ≤ 1536) (hj : 3 * j + 3 ≤ L) (hc : cells + 12 ≤ 600000 ∧ slots + 1200 ≤ 7302250) (hRl : REL cI cB cZ cO xp hm w) (hP : va_P D vwCl w H) (hD : va_D (lA s) w) (hS : va_S (lA s) s.heap H locs) (hl : lv_has ls 4 [(0, .ref b), (1, .ref xp), (2, .ref hm), (3, .int (iI ((3 * j : Nat) : Int)))]) (kk : ∀ (w1 : va_W) (H1 : Heap) (locs1 : List Loc), REL cI cB cZ cO xp hm w1 → va_P D vwCl w1 H1 → va_D (lA s) w1 → va_S (lA s) s.heap H1 locs1 → W p l e room_1 s m #[Value.ref b] below meth c H1 locs1 (cells + 12) (slots + 1200) Q (F0 m 871 ls [])) : W p l e room_1 s m #[Value.ref b] below meth c H locs cells slots Q (F0 m 690 ls []) := by
  have hx := S.1
  have hb := S.2.1
  have hA : ∀ q : Nat, s.heap.size ≤ q → lA s q := fun _ h => h
  have hbA : ¬ lA s b := Nat.not_le.mpr hbl
  refine lv_aload_n hx hb dL_law_690 rfl (lv_at hl 1 rfl) ?_
  obtain ⟨r, P, h1, h2⟩ := pq_runScript l D cI cB cZ cO   xp hm w hRl
  refine lawV (n := 0) (As := []) (rest := []) S hE hP hD hS hA h1 gL_law_X4_runScript rfl (by decide +kernel) ⟨Nat.le_of_ble_eq_true rfl, Nat.le_of_ble_eq_true rfl⟩ 4 rfl (REL_x hRl) rfl hl.1 rfl (Nat.le_of_ble_eq_true rfl) dL_law_691 ⟨by show cells + 6 ≤ 600000; omega, by show slots + 600 ≤ 7302250; omega⟩ (fun w1 hw1 H1 locs1 hP hD hS => ?_)
  obtain ⟨hrc, hM⟩ := h2 w1 hw1
  refine lv_aload_n hx hb dL_law_694 rfl (lv_at hl 2 rfl) ?_
  refine lawV (n := 0) (As := []) (rest := [.int (iI r)]) S hE hP hD hS hA hM gL_law_X5_runScript rfl (by decide +kernel) ⟨Nat.le_of_ble_eq_true rfl, Nat.le_of_ble_eq_true rfl⟩ 5 rfl hrc rfl hl.1 rfl (Nat.le_of_ble_eq_true rfl) dL_law_695 ⟨by show cells + 6 + 6 ≤ 600000; omega, by show slots + 600 + 600 ≤ 7302250; omega⟩ (fun w2 hw2 H2 locs2 hP hD hS => ?_)
  refine lv_icmp_eq (tgt := 871) hx hb dL_law_698 (by decide) (fun _ => ?_) (fun h => absurd rfl h)
  exact kk w2 H2 locs2 hw2 hP hD hS
theorem pq_cheapest (l : Launch) (D : va_G) (cI cB cZ cO : ClassId) (x : Int) (y : Int) (rx : rg x) (ry : rg y) (xp hm : Nat) (w : va_W) (hR : REL cI cB cZ cO xp hm w) : PAIR l D cI cB cZ cO yX4_cheapest wsX4_cheapest yX5_cheapest wsX5_cheapest [.int (iI x), .int (iI y)] xp hm w := REL_elim hR (fun xc xs h xq xl xca xr xra a1 a2 a3 a4 a5 b1 b2 b3 b4 b5 m1 m2 m3 m4 m5 m6 m7 m8 pa pb cp ty cn en ac cu co au er ki bs ba ln es cc ow ec ix clc cl src sc p1 la lt sg fi se np sed sac kd va bs9 bp9 po ph ps pf spr nx le fm sm bp sl kp re pr tw o0 o1 ea eb ex hw hgd hlk hcl hsr hpp hsq hre hkp hs0 hs1 hex => by rw [hw]; exact pr_cheapest l D cI cB cZ cO x y rx ry xp hm xc xs h xq xl xca xr xra a1 a2 a3 a4 a5 b1 b2 b3 b4 b5 m1 m2 m3 m4 m5 m6 m7 m8 pa pb cp ty cn en ac cu co au er ki bs ba ln es cc ow ec ix clc cl src sc p1 la lt sg fi se np sed sac kd va bs9 bp9 po ph ps pf spr nx le fm sm bp sl kp re pr tw o0 o1 ea eb ex hgd hlk hcl hsr hpp hsq hre hkp hs0 hs1 hex)
set_option maxHeartbeats 4000000 in
set_option maxRecDepth 100000 in
theorem lc_cheapest (S : CallFix p m c cL_law 4 s #[Value.ref b] wsL_law RL) (hE : EK D cI cB cZ cO s) (hX : va_X b L xs s s.heap) (hbl : b < s.heap.size) (hL : L ≤ 1536) (hj : 3 * j + 3 ≤ L) (hc : cells + 12 ≤ 600000 ∧ slots + 1200 ≤ 7302250) (hRl : REL cI cB cZ cO xp hm w) (hP : va_P D vwCl w H) (hD : va_D (lA s) w) (hS : va_S (lA s) s.heap H locs) (hl : lv_has ls 4 [(0, .ref b), (1, .ref xp), (2, .ref hm), (3, .int (iI ((3 * j : Nat) : Int)))]) (kk : ∀ (w1 : va_W) (H1 : Heap) (locs1 : List Loc), REL cI cB cZ cO xp hm w1 → va_P D vwCl w1 H1 → va_D (lA s) w1 → va_S (lA s) s.heap H1 locs1 → W p l e room_1 s m #[Value.ref b] below meth c H1 locs1 (cells + 12) (slots + 1200) Q (F0 m 871 ls [])) : W p l e room_1 s m #[Value.ref b] below meth c H locs cells slots Q (F0 m 703 ls []) := by
  have hx := S.1
  have hb := S.2.1
  have hA : ∀ q : Nat, s.heap.size ≤ q → lA s q := fun _ h => h
  have hbA : ¬ lA s b := Nat.not_le.mpr hbl
  refine lv_aload_n hx hb dL_law_703 rfl (lv_at hl 1 rfl) ?_
  refine lv_aload_n hx hb dL_law_704 rfl (lv_at hl 0 rfl) ?_
  refine lv_iload_n hx hb dL_law_705 rfl (lv_at hl 3 rfl) ?_
  refine r_iconst hx hb dL_law_706 ?_
  refine r_iadd (v := ((3 * j + 1 : Nat) : Int)) hx hb (by omega) dL_law_707 ?_
  refine r_sld hx hb hX hbl hbA hS (3 * j + 1) rfl (by omega) hL dL_law_708 ?_
  refine lv_aload_n hx hb dL_law_709 rfl (lv_at hl 0 rfl) ?_
  refine lv_iload_n hx hb dL_law_710 rfl (lv_at hl 3 rfl) ?_
  refine r_iconst hx hb dL_law_711 ?_
  refine r_iadd (v := ((3 * j + 2 : Nat) : Int)) hx hb (by omega) dL_law_712 ?_
  refine r_sld hx hb hX hbl hbA hS (3 * j + 2) rfl (by omega) hL dL_law_713 ?_
  obtain ⟨r, P, h1, h2⟩ := pq_cheapest l D cI cB cZ cO ((xs (3 * j + 1)).toInt) ((xs (3 * j + 2)).toInt) (rg_self _) (rg_self _) xp hm w hRl
  refine lawV (n := 2) (As := [.int (iI (xs (3 * j + 1)).toInt), .int (iI (xs (3 * j + 2)).toInt)]) (rest := []) S hE hP hD hS hA h1 gL_law_X4_cheapest rfl (by decide +kernel) ⟨Nat.le_of_ble_eq_true rfl, Nat.le_of_ble_eq_true rfl⟩ 4 rfl (REL_x hRl) rfl hl.1 rfl (Nat.le_of_ble_eq_true rfl) dL_law_714 ⟨by show cells + 6 ≤ 600000; omega, by show slots + 600 ≤ 7302250; omega⟩ (fun w1 hw1 H1 locs1 hP hD hS => ?_)
  obtain ⟨hrc, hM⟩ := h2 w1 hw1
  refine lv_aload_n hx hb dL_law_717 rfl (lv_at hl 2 rfl) ?_
  refine lv_aload_n hx hb dL_law_718 rfl (lv_at hl 0 rfl) ?_
  refine lv_iload_n hx hb dL_law_719 rfl (lv_at hl 3 rfl) ?_
  refine r_iconst hx hb dL_law_720 ?_
  refine r_iadd (v := ((3 * j + 1 : Nat) : Int)) hx hb (by omega) dL_law_721 ?_
  refine r_sld hx hb hX hbl hbA hS (3 * j + 1) rfl (by omega) hL dL_law_722 ?_
  refine lv_aload_n hx hb dL_law_723 rfl (lv_at hl 0 rfl) ?_
  refine lv_iload_n hx hb dL_law_724 rfl (lv_at hl 3 rfl) ?_
  refine r_iconst hx hb dL_law_725 ?_
  refine r_iadd (v := ((3 * j + 2 : Nat) : Int)) hx hb (by omega) dL_law_726 ?_
  refine r_sld hx hb hX hbl hbA hS (3 * j + 2) rfl (by omega) hL dL_law_727 ?_
  refine lawV (n := 2) (As := [.int (iI (xs (3 * j + 1)).toInt), .int (iI (xs (3 * j + 2)).toInt)]) (rest := [.int (iI r)]) S hE hP hD hS hA hM gL_law_X5_cheapest rfl (by decide +kernel) ⟨Nat.le_of_ble_eq_true rfl, Nat.le_of_ble_eq_true rfl⟩ 5 rfl hrc rfl hl.1 rfl (Nat.le_of_ble_eq_true rfl) dL_law_728 ⟨by show cells + 6 + 6 ≤ 600000; omega, by show slots + 600 + 600 ≤ 7302250; omega⟩ (fun w2 hw2 H2 locs2 hP hD hS => ?_)
  refine lv_icmp_eq (tgt := 871) hx hb dL_law_731 (by decide) (fun _ => ?_) (fun h => absurd rfl h)
  exact kk w2 H2 locs2 hw2 hP hD hS
theorem pq_cheapestPrice (l : Launch) (D : va_G) (cI cB cZ cO : ClassId) (x : Int) (y : Int) (rx : rg x) (ry : rg y) (xp hm : Nat) (w : va_W) (hR : REL cI cB cZ cO xp hm w) : PAIR l D cI cB cZ cO yX4_cheapestPrice wsX4_cheapestPrice yX5_cheapestPrice wsX5_cheapestPrice [.int (iI x), .int (iI y)] xp hm w := REL_elim hR (fun xc xs h xq xl xca xr xra a1 a2 a3 a4 a5 b1 b2 b3 b4 b5 m1 m2 m3 m4 m5 m6 m7 m8 pa pb cp ty cn en ac cu co au er ki bs ba ln es cc ow ec ix clc cl src sc p1 la lt sg fi se np sed sac kd va bs9 bp9 po ph ps pf spr nx le fm sm bp sl kp re pr tw o0 o1 ea eb ex hw hgd hlk hcl hsr hpp hsq hre hkp hs0 hs1 hex => by rw [hw]; exact pr_cheapestPrice l D cI cB cZ cO x y rx ry xp hm xc xs h xq xl xca xr xra a1 a2 a3 a4 a5 b1 b2 b3 b4 b5 m1 m2 m3 m4 m5 m6 m7 m8 pa pb cp ty cn en ac cu co au er ki bs ba ln es cc ow ec ix clc cl src sc p1 la lt sg fi se np sed sac kd va bs9 bp9 po ph ps pf spr nx le fm sm bp sl kp re pr tw o0 o1 ea eb ex hgd hlk hcl hsr hpp hsq hre hkp hs0 hs1 hex)
set_option maxHeartbeats 4000000 in
set_option maxRecDepth 100000 in
theorem lc_cheapestPrice (S : CallFix p m c cL_law 4 s #[Value.ref b] wsL_law RL) (hE : EK D cI cB cZ cO s) (hX : va_X b L xs s s.heap) (hbl : b < s.heap.size) (hL : L ≤ 1536) (hj : 3 * j + 3 ≤ L) (hc : cells + 12 ≤ 600000 ∧ slots + 1200 ≤ 7302250) (hRl : REL cI cB cZ cO xp hm w) (hP : va_P D vwCl w H) (hD : va_D (lA s) w) (hS : va_S (lA s) s.heap H locs) (hl : lv_has ls 4 [(0, .ref b), (1, .ref xp), (2, .ref hm), (3, .int (iI ((3 * j : Nat) : Int)))]) (kk : ∀ (w1 : va_W) (H1 : Heap) (locs1 : List Loc), REL cI cB cZ cO xp hm w1 → va_P D vwCl w1 H1 → va_D (lA s) w1 → va_S (lA s) s.heap H1 locs1 → W p l e room_1 s m #[Value.ref b] below meth c H1 locs1 (cells + 12) (slots + 1200) Q (F0 m 871 ls [])) : W p l e room_1 s m #[Value.ref b] below meth c H locs cells slots Q (F0 m 736 ls []) := by
  have hx := S.1
  have hb := S.2.1
  have hA : ∀ q : Nat, s.heap.size ≤ q → lA s q := fun _ h => h
  have hbA : ¬ lA s b := Nat.not_le.mpr hbl
  refine lv_aload_n hx hb dL_law_736 rfl (lv_at hl 1 rfl) ?_
  refine lv_aload_n hx hb dL_law_737 rfl (lv_at hl 0 rfl) ?_
  refine lv_iload_n hx hb dL_law_738 rfl (lv_at hl 3 rfl) ?_
  refine r_iconst hx hb dL_law_739 ?_
  refine r_iadd (v := ((3 * j + 1 : Nat) : Int)) hx hb (by omega) dL_law_740 ?_
  refine r_sld hx hb hX hbl hbA hS (3 * j + 1) rfl (by omega) hL dL_law_741 ?_
  refine lv_aload_n hx hb dL_law_742 rfl (lv_at hl 0 rfl) ?_
  refine lv_iload_n hx hb dL_law_743 rfl (lv_at hl 3 rfl) ?_
  refine r_iconst hx hb dL_law_744 ?_
  refine r_iadd (v := ((3 * j + 2 : Nat) : Int)) hx hb (by omega) dL_law_745 ?_
  refine r_sld hx hb hX hbl hbA hS (3 * j + 2) rfl (by omega) hL dL_law_746 ?_
  obtain ⟨r, P, h1, h2⟩ := pq_cheapestPrice l D cI cB cZ cO ((xs (3 * j + 1)).toInt) ((xs (3 * j + 2)).toInt) (rg_self _) (rg_self _) xp hm w hRl
  refine lawV (n := 2) (As := [.int (iI (xs (3 * j + 1)).toInt), .int (iI (xs (3 * j + 2)).toInt)]) (rest := []) S hE hP hD hS hA h1 gL_law_X4_cheapestPrice rfl (by decide +kernel) ⟨Nat.le_of_ble_eq_true rfl, Nat.le_of_ble_eq_true rfl⟩ 4 rfl (REL_x hRl) rfl hl.1 rfl (Nat.le_of_ble_eq_true rfl) dL_law_747 ⟨by show cells + 6 ≤ 600000; omega, by show slots + 600 ≤ 7302250; omega⟩ (fun w1 hw1 H1 locs1 hP hD hS => ?_)
  obtain ⟨hrc, hM⟩ := h2 w1 hw1
  refine lv_aload_n hx hb dL_law_750 rfl (lv_at hl 2 rfl) ?_
  refine lv_aload_n hx hb dL_law_751 rfl (lv_at hl 0 rfl) ?_
  refine lv_iload_n hx hb dL_law_752 rfl (lv_at hl 3 rfl) ?_
  refine r_iconst hx hb dL_law_753 ?_
  refine r_iadd (v := ((3 * j + 1 : Nat) : Int)) hx hb (by omega) dL_law_754 ?_
  refine r_sld hx hb hX hbl hbA hS (3 * j + 1) rfl (by omega) hL dL_law_755 ?_
  refine lv_aload_n hx hb dL_law_756 rfl (lv_at hl 0 rfl) ?_
  refine lv_iload_n hx hb dL_law_757 rfl (lv_at hl 3 rfl) ?_
  refine r_iconst hx hb dL_law_758 ?_
  refine r_iadd (v := ((3 * j + 2 : Nat) : Int)) hx hb (by omega) dL_law_759 ?_
  refine r_sld hx hb hX hbl hbA hS (3 * j + 2) rfl (by omega) hL dL_law_760 ?_
  refine lawV (n := 2) (As := [.int (iI (xs (3 * j + 1)).toInt), .int (iI (xs (3 * j + 2)).toInt)]) (rest := [.int (iI r)]) S hE hP hD hS hA hM gL_law_X5_cheapestPrice rfl (by decide +kernel) ⟨Nat.le_of_ble_eq_true rfl, Nat.le_of_ble_eq_true rfl⟩ 5 rfl hrc rfl hl.1 rfl (Nat.le_of_ble_eq_true rfl) dL_law_761 ⟨by show cells + 6 + 6 ≤ 600000; omega, by show slots + 600 + 600 ≤ 7302250; omega⟩ (fun w2 hw2 H2 locs2 hP hD hS => ?_)
  refine lv_icmp_eq (tgt := 871) hx hb dL_law_764 (by decide) (fun _ => ?_) (fun h => absurd rfl h)
  exact kk w2 H2 locs2 hw2 hP hD hS
theorem pq_clearing (l : Launch) (D : va_G) (cI cB cZ cO : ClassId) (x : Int) (y : Int) (rx : rg x) (ry : rg y) (xp hm : Nat) (w : va_W) (hR : REL cI cB cZ cO xp hm w) : PAIR l D cI cB cZ cO yX4_clearing wsX4_clearing yX5_clearing wsX5_clearing [.int (iI x), .int (iI y)] xp hm w := REL_elim hR (fun xc xs h xq xl xca xr xra a1 a2 a3 a4 a5 b1 b2 b3 b4 b5 m1 m2 m3 m4 m5 m6 m7 m8 pa pb cp ty cn en ac cu co au er ki bs ba ln es cc ow ec ix clc cl src sc p1 la lt sg fi se np sed sac kd va bs9 bp9 po ph ps pf spr nx le fm sm bp sl kp re pr tw o0 o1 ea eb ex hw hgd hlk hcl hsr hpp hsq hre hkp hs0 hs1 hex => by rw [hw]; exact pr_clearing l D cI cB cZ cO x y rx ry xp hm xc xs h xq xl xca xr xra a1 a2 a3 a4 a5 b1 b2 b3 b4 b5 m1 m2 m3 m4 m5 m6 m7 m8 pa pb cp ty cn en ac cu co au er ki bs ba ln es cc ow ec ix clc cl src sc p1 la lt sg fi se np sed sac kd va bs9 bp9 po ph ps pf spr nx le fm sm bp sl kp re pr tw o0 o1 ea eb ex hgd hlk hcl hsr hpp hsq hre hkp hs0 hs1 hex)
set_option maxHeartbeats 4000000 in
set_option maxRecDepth 100000 in
theorem lc_clearing (S : CallFix p m c cL_law 4 s #[Value.ref b] wsL_law RL) (hE : EK D cI cB cZ cO s) (hX : va_X b L xs s s.heap) (hbl : b < s.heap.size) (hL : L ≤ 1536) (hj : 3 * j + 3 ≤ L) (hc : cells + 12 ≤ 600000 ∧ slots + 1200 ≤ 7302250) (hRl : REL cI cB cZ cO xp hm w) (hP : va_P D vwCl w H) (hD : va_D (lA s) w) (hS : va_S (lA s) s.heap H locs) (hl : lv_has ls 4 [(0, .ref b), (1, .ref xp), (2, .ref hm), (3, .int (iI ((3 * j : Nat) : Int)))]) (kk : ∀ (w1 : va_W) (H1 : Heap) (locs1 : List Loc), REL cI cB cZ cO xp hm w1 → va_P D vwCl w1 H1 → va_D (lA s) w1 → va_S (lA s) s.heap H1 locs1 → W p l e room_1 s m #[Value.ref b] below meth c H1 locs1 (cells + 12) (slots + 1200) Q (F0 m 871 ls [])) : W p l e room_1 s m #[Value.ref b] below meth c H locs cells slots Q (F0 m 769 ls []) := by
  have hx := S.1
  have hb := S.2.1
  have hA : ∀ q : Nat, s.heap.size ≤ q → lA s q := fun _ h => h
  have hbA : ¬ lA s b := Nat.not_le.mpr hbl
  refine lv_aload_n hx hb dL_law_769 rfl (lv_at hl 1 rfl) ?_
  refine lv_aload_n hx hb dL_law_770 rfl (lv_at hl 0 rfl) ?_
  refine lv_iload_n hx hb dL_law_771 rfl (lv_at hl 3 rfl) ?_
  refine r_iconst hx hb dL_law_772 ?_
  refine r_iadd (v := ((3 * j + 1 : Nat) : Int)) hx hb (by omega) dL_law_773 ?_
  refine r_sld hx hb hX hbl hbA hS (3 * j + 1) rfl (by omega) hL dL_law_774 ?_
  refine lv_aload_n hx hb dL_law_775 rfl (lv_at hl 0 rfl) ?_
  refine lv_iload_n hx hb dL_law_776 rfl (lv_at hl 3 rfl) ?_
  refine r_iconst hx hb dL_law_777 ?_
  refine r_iadd (v := ((3 * j + 2 : Nat) : Int)) hx hb (by omega) dL_law_778 ?_
  refine r_sld hx hb hX hbl hbA hS (3 * j + 2) rfl (by omega) hL dL_law_779 ?_
  obtain ⟨r, P, h1, h2⟩ := pq_clearing l D cI cB cZ cO ((xs (3 * j + 1)).toInt) ((xs (3 * j + 2)).toInt) (rg_self _) (rg_self _) xp hm w hRl
  refine lawV (n := 2) (As := [.int (iI (xs (3 * j + 1)).toInt), .int (iI (xs (3 * j + 2)).toInt)]) (rest := []) S hE hP hD hS hA h1 gL_law_X4_clearing rfl (by decide +kernel) ⟨Nat.le_of_ble_eq_true rfl, Nat.le_of_ble_eq_true rfl⟩ 4 rfl (REL_x hRl) rfl hl.1 rfl (Nat.le_of_ble_eq_true rfl) dL_law_780 ⟨by show cells + 6 ≤ 600000; omega, by show slots + 600 ≤ 7302250; omega⟩ (fun w1 hw1 H1 locs1 hP hD hS => ?_)
  obtain ⟨hrc, hM⟩ := h2 w1 hw1
  refine lv_aload_n hx hb dL_law_783 rfl (lv_at hl 2 rfl) ?_
  refine lv_aload_n hx hb dL_law_784 rfl (lv_at hl 0 rfl) ?_
  refine lv_iload_n hx hb dL_law_785 rfl (lv_at hl 3 rfl) ?_
  refine r_iconst hx hb dL_law_786 ?_
  refine r_iadd (v := ((3 * j + 1 : Nat) : Int)) hx hb (by omega) dL_law_787 ?_
  refine r_sld hx hb hX hbl hbA hS (3 * j + 1) rfl (by omega) hL dL_law_788 ?_
  refine lv_aload_n hx hb dL_law_789 rfl (lv_at hl 0 rfl) ?_
  refine lv_iload_n hx hb dL_law_790 rfl (lv_at hl 3 rfl) ?_
  refine r_iconst hx hb dL_law_791 ?_
  refine r_iadd (v := ((3 * j + 2 : Nat) : Int)) hx hb (by omega) dL_law_792 ?_
  refine r_sld hx hb hX hbl hbA hS (3 * j + 2) rfl (by omega) hL dL_law_793 ?_
  refine lawV (n := 2) (As := [.int (iI (xs (3 * j + 1)).toInt), .int (iI (xs (3 * j + 2)).toInt)]) (rest := [.int (iI r)]) S hE hP hD hS hA hM gL_law_X5_clearing rfl (by decide +kernel) ⟨Nat.le_of_ble_eq_true rfl, Nat.le_of_ble_eq_true rfl⟩ 5 rfl hrc rfl hl.1 rfl (Nat.le_of_ble_eq_true rfl) dL_law_794 ⟨by show cells + 6 + 6 ≤ 600000; omega, by show slots + 600 + 600 ≤ 7302250; omega⟩ (fun w2 hw2 H2 locs2 hP hD hS => ?_)
  refine lv_icmp_eq (tgt := 871) hx hb dL_law_797 (by decide) (fun _ => ?_) (fun h => absurd rfl h)
  exact kk w2 H2 locs2 hw2 hP hD hS
theorem pq_save (l : Launch) (D : va_G) (cI cB cZ cO : ClassId) (x : Int) (rx : rg x) (xp hm : Nat) (w : va_W) (hR : REL cI cB cZ cO xp hm w) : PAIR l D cI cB cZ cO yX4_save wsX4_save yX5_save wsX5_save [.int (iI x)] xp hm w := REL_elim hR (fun xc xs h xq xl xca xr xra a1 a2 a3 a4 a5 b1 b2 b3 b4 b5 m1 m2 m3 m4 m5 m6 m7 m8 pa pb cp ty cn en ac cu co au er ki bs ba ln es cc ow ec ix clc cl src sc p1 la lt sg fi se np sed sac kd va bs9 bp9 po ph ps pf spr nx le fm sm bp sl kp re pr tw o0 o1 ea eb ex hw hgd hlk hcl hsr hpp hsq hre hkp hs0 hs1 hex => by rw [hw]; exact pr_save l D cI cB cZ cO x rx xp hm xc xs h xq xl xca xr xra a1 a2 a3 a4 a5 b1 b2 b3 b4 b5 m1 m2 m3 m4 m5 m6 m7 m8 pa pb cp ty cn en ac cu co au er ki bs ba ln es cc ow ec ix clc cl src sc p1 la lt sg fi se np sed sac kd va bs9 bp9 po ph ps pf spr nx le fm sm bp sl kp re pr tw o0 o1 ea eb ex hgd hlk hcl hsr hpp hsq hre hkp hs0 hs1 hex)
set_option maxHeartbeats 4000000 in
set_option maxRecDepth 100000 in
theorem lc_save (S : CallFix p m c cL_law 4 s #[Value.ref b] wsL_law RL) (hE : EK D cI cB cZ cO s) (hX : va_X b L xs s s.heap) (hbl : b < s.heap.size) (hL : L ≤ 1536) (hj : 3 * j + 3 ≤ L) (hc : cells + 12 ≤ 600000 ∧ slots + 1200 ≤ 7302250) (hRl : REL cI cB cZ cO xp hm w) (hP : va_P D vwCl w H) (hD : va_D (lA s) w) (hS : va_S (lA s) s.heap H locs) (hl : lv_has ls 4 [(0, .ref b), (1, .ref xp), (2, .ref hm), (3, .int (iI ((3 * j : Nat) : Int)))]) (kk : ∀ (w1 : va_W) (H1 : Heap) (locs1 : List Loc), REL cI cB cZ cO xp hm w1 → va_P D vwCl w1 H1 → va_D (lA s) w1 → va_S (lA s) s.heap H1 locs1 → W p l e room_1 s m #[Value.ref b] below meth c H1 locs1 (cells + 12) (slots + 1200) Q (F0 m 871 ls [])) : W p l e room_1 s m #[Value.ref b] below meth c H locs cells slots Q (F0 m 802 ls []) := by
  have hx := S.1
  have hb := S.2.1
  have hA : ∀ q : Nat, s.heap.size ≤ q → lA s q := fun _ h => h
  have hbA : ¬ lA s b := Nat.not_le.mpr hbl
  refine lv_aload_n hx hb dL_law_802 rfl (lv_at hl 1 rfl) ?_
  refine lv_aload_n hx hb dL_law_803 rfl (lv_at hl 0 rfl) ?_
  refine lv_iload_n hx hb dL_law_804 rfl (lv_at hl 3 rfl) ?_
  refine r_iconst hx hb dL_law_805 ?_
  refine r_iadd (v := ((3 * j + 1 : Nat) : Int)) hx hb (by omega) dL_law_806 ?_
  refine r_sld hx hb hX hbl hbA hS (3 * j + 1) rfl (by omega) hL dL_law_807 ?_
  obtain ⟨r, P, h1, h2⟩ := pq_save l D cI cB cZ cO ((xs (3 * j + 1)).toInt) (rg_self _) xp hm w hRl
  refine lawV (n := 1) (As := [.int (iI (xs (3 * j + 1)).toInt)]) (rest := []) S hE hP hD hS hA h1 gL_law_X4_save rfl (by decide +kernel) ⟨Nat.le_of_ble_eq_true rfl, Nat.le_of_ble_eq_true rfl⟩ 4 rfl (REL_x hRl) rfl hl.1 rfl (Nat.le_of_ble_eq_true rfl) dL_law_808 ⟨by show cells + 6 ≤ 600000; omega, by show slots + 600 ≤ 7302250; omega⟩ (fun w1 hw1 H1 locs1 hP hD hS => ?_)
  obtain ⟨hrc, hM⟩ := h2 w1 hw1
  refine lv_aload_n hx hb dL_law_811 rfl (lv_at hl 2 rfl) ?_
  refine lv_aload_n hx hb dL_law_812 rfl (lv_at hl 0 rfl) ?_
  refine lv_iload_n hx hb dL_law_813 rfl (lv_at hl 3 rfl) ?_
  refine r_iconst hx hb dL_law_814 ?_
  refine r_iadd (v := ((3 * j + 1 : Nat) : Int)) hx hb (by omega) dL_law_815 ?_
  refine r_sld hx hb hX hbl hbA hS (3 * j + 1) rfl (by omega) hL dL_law_816 ?_
  refine lawV (n := 1) (As := [.int (iI (xs (3 * j + 1)).toInt)]) (rest := [.int (iI r)]) S hE hP hD hS hA hM gL_law_X5_save rfl (by decide +kernel) ⟨Nat.le_of_ble_eq_true rfl, Nat.le_of_ble_eq_true rfl⟩ 5 rfl hrc rfl hl.1 rfl (Nat.le_of_ble_eq_true rfl) dL_law_817 ⟨by show cells + 6 + 6 ≤ 600000; omega, by show slots + 600 + 600 ≤ 7302250; omega⟩ (fun w2 hw2 H2 locs2 hP hD hS => ?_)
  refine lv_icmp_eq (tgt := 871) hx hb dL_law_820 (by decide) (fun _ => ?_) (fun h => absurd rfl h)
  exact kk w2 H2 locs2 hw2 hP hD hS
theorem pq_restore (l : Launch) (D : va_G) (cI cB cZ cO : ClassId) (x : Int) (rx : rg x) (xp hm : Nat) (w : va_W) (hR : REL cI cB cZ cO xp hm w) : PAIR l D cI cB cZ cO yX4_restore wsX4_restore yX5_restore wsX5_restore [.int (iI x)] xp hm w := REL_elim hR (fun xc xs h xq xl xca xr xra a1 a2 a3 a4 a5 b1 b2 b3 b4 b5 m1 m2 m3 m4 m5 m6 m7 m8 pa pb cp ty cn en ac cu co au er ki bs ba ln es cc ow ec ix clc cl src sc p1 la lt sg fi se np sed sac kd va bs9 bp9 po ph ps pf spr nx le fm sm bp sl kp re pr tw o0 o1 ea eb ex hw hgd hlk hcl hsr hpp hsq hre hkp hs0 hs1 hex => by rw [hw]; exact pr_restore l D cI cB cZ cO x rx xp hm xc xs h xq xl xca xr xra a1 a2 a3 a4 a5 b1 b2 b3 b4 b5 m1 m2 m3 m4 m5 m6 m7 m8 pa pb cp ty cn en ac cu co au er ki bs ba ln es cc ow ec ix clc cl src sc p1 la lt sg fi se np sed sac kd va bs9 bp9 po ph ps pf spr nx le fm sm bp sl kp re pr tw o0 o1 ea eb ex hgd hlk hcl hsr hpp hsq hre hkp hs0 hs1 hex)
set_option maxHeartbeats 4000000 in
set_option maxRecDepth 100000 in
theorem lc_restore (S : CallFix p m c cL_law 4 s #[Value.ref b] wsL_law RL) (hE : EK D cI cB cZ cO s) (hX : va_X b L xs s s.heap) (hbl : b < s.heap.size) (hL : L ≤ 1536) (hj : 3 * j + 3 ≤ L) (hc : cells + 12 ≤ 600000 ∧ slots + 1200 ≤ 7302250) (hRl : REL cI cB cZ cO xp hm w) (hP : va_P D vwCl w H) (hD : va_D (lA s) w) (hS : va_S (lA s) s.heap H locs) (hl : lv_has ls 4 [(0, .ref b), (1, .ref xp), (2, .ref hm), (3, .int (iI ((3 * j : Nat) : Int)))]) (kk : ∀ (w1 : va_W) (H1 : Heap) (locs1 : List Loc), REL cI cB cZ cO xp hm w1 → va_P D vwCl w1 H1 → va_D (lA s) w1 → va_S (lA s) s.heap H1 locs1 → W p l e room_1 s m #[Value.ref b] below meth c H1 locs1 (cells + 12) (slots + 1200) Q (F0 m 871 ls [])) : W p l e room_1 s m #[Value.ref b] below meth c H locs cells slots Q (F0 m 825 ls []) := by
  have hx := S.1
  have hb := S.2.1
  have hA : ∀ q : Nat, s.heap.size ≤ q → lA s q := fun _ h => h
  have hbA : ¬ lA s b := Nat.not_le.mpr hbl
  refine lv_aload_n hx hb dL_law_825 rfl (lv_at hl 1 rfl) ?_
  refine lv_aload_n hx hb dL_law_826 rfl (lv_at hl 0 rfl) ?_
  refine lv_iload_n hx hb dL_law_827 rfl (lv_at hl 3 rfl) ?_
  refine r_iconst hx hb dL_law_828 ?_
  refine r_iadd (v := ((3 * j + 1 : Nat) : Int)) hx hb (by omega) dL_law_829 ?_
  refine r_sld hx hb hX hbl hbA hS (3 * j + 1) rfl (by omega) hL dL_law_830 ?_
  obtain ⟨r, P, h1, h2⟩ := pq_restore l D cI cB cZ cO ((xs (3 * j + 1)).toInt) (rg_self _) xp hm w hRl
  refine lawV (n := 1) (As := [.int (iI (xs (3 * j + 1)).toInt)]) (rest := []) S hE hP hD hS hA h1 gL_law_X4_restore rfl (by decide +kernel) ⟨Nat.le_of_ble_eq_true rfl, Nat.le_of_ble_eq_true rfl⟩ 4 rfl (REL_x hRl) rfl hl.1 rfl (Nat.le_of_ble_eq_true rfl) dL_law_831 ⟨by show cells + 6 ≤ 600000; omega, by show slots + 600 ≤ 7302250; omega⟩ (fun w1 hw1 H1 locs1 hP hD hS => ?_)
  obtain ⟨hrc, hM⟩ := h2 w1 hw1
  refine lv_aload_n hx hb dL_law_834 rfl (lv_at hl 2 rfl) ?_
  refine lv_aload_n hx hb dL_law_835 rfl (lv_at hl 0 rfl) ?_
  refine lv_iload_n hx hb dL_law_836 rfl (lv_at hl 3 rfl) ?_
  refine r_iconst hx hb dL_law_837 ?_
  refine r_iadd (v := ((3 * j + 1 : Nat) : Int)) hx hb (by omega) dL_law_838 ?_
  refine r_sld hx hb hX hbl hbA hS (3 * j + 1) rfl (by omega) hL dL_law_839 ?_
  refine lawV (n := 1) (As := [.int (iI (xs (3 * j + 1)).toInt)]) (rest := [.int (iI r)]) S hE hP hD hS hA hM gL_law_X5_restore rfl (by decide +kernel) ⟨Nat.le_of_ble_eq_true rfl, Nat.le_of_ble_eq_true rfl⟩ 5 rfl hrc rfl hl.1 rfl (Nat.le_of_ble_eq_true rfl) dL_law_840 ⟨by show cells + 6 + 6 ≤ 600000; omega, by show slots + 600 + 600 ≤ 7302250; omega⟩ (fun w2 hw2 H2 locs2 hP hD hS => ?_)
  refine lv_icmp_eq (tgt := 871) hx hb dL_law_843 (by decide) (fun _ => ?_) (fun h => absurd rfl h)
  exact kk w2 H2 locs2 hw2 hP hD hS
theorem pq_difference (l : Launch) (D : va_G) (cI cB cZ cO : ClassId) (x : Int) (rx : rg x) (xp hm : Nat) (w : va_W) (hR : REL cI cB cZ cO xp hm w) : PAIR l D cI cB cZ cO yX4_difference wsX4_difference yX5_difference wsX5_difference [.int (iI x)] xp hm w := REL_elim hR (fun xc xs h xq xl xca xr xra a1 a2 a3 a4 a5 b1 b2 b3 b4 b5 m1 m2 m3 m4 m5 m6 m7 m8 pa pb cp ty cn en ac cu co au er ki bs ba ln es cc ow ec ix clc cl src sc p1 la lt sg fi se np sed sac kd va bs9 bp9 po ph ps pf spr nx le fm sm bp sl kp re pr tw o0 o1 ea eb ex hw hgd hlk hcl hsr hpp hsq hre hkp hs0 hs1 hex => by rw [hw]; exact pr_difference l D cI cB cZ cO x rx xp hm xc xs h xq xl xca xr xra a1 a2 a3 a4 a5 b1 b2 b3 b4 b5 m1 m2 m3 m4 m5 m6 m7 m8 pa pb cp ty cn en ac cu co au er ki bs ba ln es cc ow ec ix clc cl src sc p1 la lt sg fi se np sed sac kd va bs9 bp9 po ph ps pf spr nx le fm sm bp sl kp re pr tw o0 o1 ea eb ex hgd hlk hcl hsr hpp hsq hre hkp hs0 hs1 hex)
set_option maxHeartbeats 4000000 in
set_option maxRecDepth 100000 in
theorem lc_difference (S : CallFix p m c cL_law 4 s #[Value.ref b] wsL_law RL) (hE : EK D cI cB cZ cO s) (hX : va_X b L xs s s.heap) (hbl : b < s.heap.size) (hL : L ≤ 1536) (hj : 3 * j + 3 ≤ L) (hc : cells + 12 ≤ 600000 ∧ slots + 1200 ≤ 7302250) (hRl : REL cI cB cZ cO xp hm w) (hP : va_P D vwCl w H) (hD : va_D (lA s) w) (hS : va_S (lA s) s.heap H locs) (hl : lv_has ls 4 [(0, .ref b), (1, .ref xp), (2, .ref hm), (3, .int (iI ((3 * j : Nat) : Int)))]) (kk : ∀ (w1 : va_W) (H1 : Heap) (locs1 : List Loc), REL cI cB cZ cO xp hm w1 → va_P D vwCl w1 H1 → va_D (lA s) w1 → va_S (lA s) s.heap H1 locs1 → W p l e room_1 s m #[Value.ref b] below meth c H1 locs1 (cells + 12) (slots + 1200) Q (F0 m 871 ls [])) : W p l e room_1 s m #[Value.ref b] below meth c H locs cells slots Q (F0 m 848 ls []) := by
  have hx := S.1
  have hb := S.2.1
  have hA : ∀ q : Nat, s.heap.size ≤ q → lA s q := fun _ h => h
  have hbA : ¬ lA s b := Nat.not_le.mpr hbl
  refine lv_aload_n hx hb dL_law_848 rfl (lv_at hl 1 rfl) ?_
  refine lv_aload_n hx hb dL_law_849 rfl (lv_at hl 0 rfl) ?_
  refine lv_iload_n hx hb dL_law_850 rfl (lv_at hl 3 rfl) ?_
  refine r_iconst hx hb dL_law_851 ?_
  refine r_iadd (v := ((3 * j + 1 : Nat) : Int)) hx hb (by omega) dL_law_852 ?_
  refine r_sld hx hb hX hbl hbA hS (3 * j + 1) rfl (by omega) hL dL_law_853 ?_
  obtain ⟨r, P, h1, h2⟩ := pq_difference l D cI cB cZ cO ((xs (3 * j + 1)).toInt) (rg_self _) xp hm w hRl
  refine lawV (n := 1) (As := [.int (iI (xs (3 * j + 1)).toInt)]) (rest := []) S hE hP hD hS hA h1 gL_law_X4_difference rfl (by decide +kernel) ⟨Nat.le_of_ble_eq_true rfl, Nat.le_of_ble_eq_true rfl⟩ 4 rfl (REL_x hRl) rfl hl.1 rfl (Nat.le_of_ble_eq_true rfl) dL_law_854 ⟨by show cells + 6 ≤ 600000; omega, by show slots + 600 ≤ 7302250; omega⟩ (fun w1 hw1 H1 locs1 hP hD hS => ?_)
  obtain ⟨hrc, hM⟩ := h2 w1 hw1
  refine lv_aload_n hx hb dL_law_857 rfl (lv_at hl 2 rfl) ?_
  refine lv_aload_n hx hb dL_law_858 rfl (lv_at hl 0 rfl) ?_
  refine lv_iload_n hx hb dL_law_859 rfl (lv_at hl 3 rfl) ?_
  refine r_iconst hx hb dL_law_860 ?_
  refine r_iadd (v := ((3 * j + 1 : Nat) : Int)) hx hb (by omega) dL_law_861 ?_
  refine r_sld hx hb hX hbl hbA hS (3 * j + 1) rfl (by omega) hL dL_law_862 ?_
  refine lawV (n := 1) (As := [.int (iI (xs (3 * j + 1)).toInt)]) (rest := [.int (iI r)]) S hE hP hD hS hA hM gL_law_X5_difference rfl (by decide +kernel) ⟨Nat.le_of_ble_eq_true rfl, Nat.le_of_ble_eq_true rfl⟩ 5 rfl hrc rfl hl.1 rfl (Nat.le_of_ble_eq_true rfl) dL_law_863 ⟨by show cells + 6 + 6 ≤ 600000; omega, by show slots + 600 + 600 ≤ 7302250; omega⟩ (fun w2 hw2 H2 locs2 hP hD hS => ?_)
  refine lv_icmp_eq (tgt := 871) hx hb dL_law_866 (by decide) (fun _ => ?_) (fun h => absurd rfl h)
  exact kk w2 H2 locs2 hw2 hP hD hS

end LAWC
