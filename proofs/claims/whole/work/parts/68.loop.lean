/-! THE CLAIM OUT OF ONE WALK OF THE LAW'S BODY. Your part is whole_start (and what it stands on); all else here is the same for every law, but numbers. -/
def R_law : String := "PricedUndoLaw"
def lw_P (b : Addr) (xs : List Int32) (args : Array Value) (s : State) : Prop := args = #[.ref b] ∧ s.IntsAt b xs ∧ xs.length ≤ 1536 ∧ (Jvm.Cond.and given_1 narrow_1).before args s = true
def lw_Q (_ : Array Value) (s : State) (o : Outcome) (t : State) : Prop := o = .returned (some (.int 1)) ∧ Framed s o t [] 600000 7302250
def lw_Z (below : List Frame) (a : Array Value) (s : State) : State → Prop := fun t => ∃ o, t.status = .running ∧ Ended t below o ∧ lw_Q a s o t
/-- the law's own end, with 1 on the stack, nothing written that was there before, its room as the claim has it -/
theorem lw_ret {p : Program} {l : Launch} {e : Env} {s : State} {m : MethodId} {below : List Frame} {meth : Method} {c : Code} {b : Nat} (hx : p.tables.exec = Jvm.exec) (hb : c.code = code) (hr : meth.sig.returnType = ret) (hlocks : meth.locks = false) {pc : Nat} {H : Heap} {ls : Array Slot} (hdg : decode code pc = .ok (.ireturn, 1)) : W p l e room_1 s m #[Value.ref b] below meth c H [] 600000 7302250 (lw_Z below #[Value.ref b] s) (F0 m pc ls [.int 1]) := by
  intro T hT X
  obtain ⟨fs, hret, hrun, hended, hW, hframe⟩ := X.leave (v := some (.int 1)) (hlocks := hlocks) (fun h => by rw [hr] at h; cases h)
  have hmeth' : T.vm.method? m = some meth := X.method'
  refine ⟨T.setFrames fs, ?_, .returned (some (.int 1)), hrun, hended, rfl, ⟨_, rfl⟩, hW, hframe⟩
  jvm_step X.here [X.here.top, hx, hb, hdg, hmeth', hr, ret, narrow_b1]
  (try refine ⟨rfl, ?_⟩); (try refine ⟨rfl, ?_⟩)
  first | (intro acts; rw [hret _ acts rfl rfl rfl]) | rw [hret _ _ rfl rfl rfl]
  exact Steps.refl _
/-- what holds at the law's entry: the machine, the code, the tables' words (any of lw_tbl by 'hts w (by decide +kernel)'), the script of L ints xs at the cell b, what the Statement gives of the start (any of its parts by flat_of_before) -/
def lw_At (p : Program) (s : State) (m : MethodId) (meth : Method) (c : Code) (b L : Nat) (xs : Nat → Int32) : Prop :=
  p.tables.exec = Jvm.exec ∧ c.code = code ∧ meth.sig.returnType = ret ∧ c.maxLocals = 4 ∧ s.vm.findClass R_law = some m.cls ∧ (∀ w ∈ lw_tbl, w.before #[Value.ref b] s = true) ∧ va_X b L xs s s.heap ∧ b < s.heap.size ∧ meth.locks = false ∧ (Jvm.Cond.and given_1 narrow_1).before #[Value.ref b] s = true

set_option maxHeartbeats 4000000 in
set_option maxRecDepth 100000 in
theorem law_loop {p : Program} {l : Launch} {e : Env} {s : State} {m : MethodId} {below : List Frame} {meth : Method} {c : Code} {D : va_G} {cI cB cZ cO : ClassId} {b L xp hm : Nat} {xs : Nat → Int32} (S : CallFix p m c cL_law 4 s #[Value.ref b] wsL_law RL) (hr : meth.sig.returnType = ret) (hlocks : meth.locks = false) (hE : EK D cI cB cZ cO s) (hX : va_X b L xs s s.heap) (hbl : b < s.heap.size) (hL : L ≤ 1536) :
    ∀ (n j : Nat) (w : va_W) (H : Heap) (locs : List Loc) (ls : Array Slot), L < n + 3 * j → 3 * j ≤ L → REL cI cB cZ cO xp hm w → va_P D vwCl w H → va_D (lA s) w → va_S (lA s) s.heap H locs → lv_has ls 4 [(0, .ref b), (1, .ref xp), (2, .ref hm), (3, .int (iI ((3 * j : Nat) : Int)))] → W p l e room_1 s m #[Value.ref b] below meth c H locs (28 + 12 * j) (3194 + 1200 * j) (lw_Z below #[Value.ref b] s) (F0 m 18 ls []) := by
  have hx := S.1
  have hb := S.2.1
  have hbA : ¬ lA s b := Nat.not_le.mpr hbl
  intro n
  induction n with
  | zero => intro j w H locs ls h1 h2; exact absurd h1 (by omega)
  | succ n ih =>
    intro j w H locs ls h1 h2 hRl hP hD hS hl
    refine lv_iload_n hx hb dL_law_18 rfl (lv_at hl 3 rfl) ?_
    refine lv_aload_n hx hb dL_law_19 rfl (lv_at hl 0 rfl) ?_
    refine va_slen hx hb hX hbl hbA hS dL_law_20 ?_
    rw [show Int32.ofNat L = iI ((L : Nat) : Int) from (iI_n L).symm]
    refine r_iconst hx hb dL_law_21 ?_
    refine r_isub (v := ((L : Nat) : Int) - 3) hx hb rfl dL_law_22 ?_
    refine r_icmp_gt (tgt := 877) hx hb ⟨by omega, by omega⟩ ⟨by omega, by omega⟩ dL_law_23 (by decide) (fun h => ?_) (fun h => ?_)
    · refine r_iconst hx hb dL_law_877 ?_
      refine va_forget (fun q hq => hS.2.2 q hq) ?_
      refine W.widen (k := 600000) (n := 7302250) (by omega) (by omega) ?_
      rw [show iI 1 = (1 : Int32) from by decide]
      exact lw_ret hx hb hr hlocks dL_law_878
    · have hj : 3 * j + 3 ≤ L := by omega
      have hnext : ∀ (w1 : va_W) (H1 : Heap) (locs1 : List Loc), REL cI cB cZ cO xp hm w1 → va_P D vwCl w1 H1 → va_D (lA s) w1 → va_S (lA s) s.heap H1 locs1 → W p l e room_1 s m #[Value.ref b] below meth c H1 locs1 (28 + 12 * j + 12) (3194 + 1200 * j + 1200) (lw_Z below #[Value.ref b] s) (F0 m 871 ls []) := by
        intro w1 H1 locs1 g1 g2 g3 g4
        refine lv_iinc (v := iI ((3 * (j + 1) : Nat) : Int)) (lv' := [(3, .int (iI ((3 * (j + 1) : Nat) : Int))), (0, .ref b), (1, .ref xp), (2, .ref hm)]) hx hb dL_law_871 hl (k := 3) rfl ((iI_add _ _).trans (ii (by omega))) (by decide) rfl (fun ls hl => ?_)
        refine lv_goto (tgt := 18) hx hb dL_law_874 (by decide) ?_
        have K := ih (j + 1) w1 H1 locs1 ls (by omega) (by omega) g1 g2 g3 g4 (lv_sub hl [1, 2, 3, 0] rfl)
        rw [show 28 + 12 * (j + 1) = 28 + 12 * j + 12 by omega, show 3194 + 1200 * (j + 1) = 3194 + 1200 * j + 1200 by omega] at K
        exact K
      have hc : 28 + 12 * j + 12 ≤ 600000 ∧ 3194 + 1200 * j + 1200 ≤ 7302250 := by omega
      refine lv_aload_n hx hb dL_law_26 rfl (lv_at hl 0 rfl) ?_
      refine lv_iload_n hx hb dL_law_27 rfl (lv_at hl 3 rfl) ?_
      refine r_sld hx hb hX hbl hbA hS (3 * j) rfl (by omega) hL dL_law_28 ?_
      refine r_bipush hx hb dL_law_29 (by decide) ?_
      refine lv_iand hx hb dL_law_31 ?_
      obtain ⟨n9, hn9, e9⟩ := and31 (iI (xs (3 * j)).toInt)
      rw [e9]
      rcases n29 n9 hn9 with e8 | e8 | e8 | e8 | e8 | e8 | e8 | e8 | e8 | e8 | e8 | e8 | e8 | e8 | e8 | e8 | e8 | e8 | e8 | e8 | e8 | e8 | e8 | e8 | e8 | e8 | e8 | e8 | e8 | e8
      · subst e8
        refine lv_tableIn (off := 132) (tgt := 164) hx hb dL_law_32 (by rw [tI 0 (by decide)]; decide) (by rw [tI 0 (by decide)]; decide) (by rw [tI 0 (by decide)]; first | rfl | decide) (by decide) ?_
        exact lc_appendCharacter S hE hX hbl hL hj hc hRl hP hD hS hl hnext
      · subst e8
        refine lv_tableIn (off := 155) (tgt := 187) hx hb dL_law_32 (by rw [tI 1 (by decide)]; decide) (by rw [tI 1 (by decide)]; decide) (by rw [tI 1 (by decide)]; first | rfl | decide) (by decide) ?_
        exact lc_clearClip S hE hX hbl hL hj hc hRl hP hD hS hl hnext
      · subst e8
        refine lv_tableIn (off := 168) (tgt := 200) hx hb dL_law_32 (by rw [tI 2 (by decide)]; decide) (by rw [tI 2 (by decide)]; decide) (by rw [tI 2 (by decide)]; first | rfl | decide) (by decide) ?_
        exact lc_begin S hE hX hbl hL hj hc hRl hP hD hS hl hnext
      · subst e8
        refine lv_tableIn (off := 181) (tgt := 213) hx hb dL_law_32 (by rw [tI 3 (by decide)]; decide) (by rw [tI 3 (by decide)]; decide) (by rw [tI 3 (by decide)]; first | rfl | decide) (by decide) ?_
        exact lc_insert S hE hX hbl hL hj hc hRl hP hD hS hl hnext
      · subst e8
        refine lv_tableIn (off := 204) (tgt := 236) hx hb dL_law_32 (by rw [tI 4 (by decide)]; decide) (by rw [tI 4 (by decide)]; decide) (by rw [tI 4 (by decide)]; first | rfl | decide) (by decide) ?_
        exact lc_erase S hE hX hbl hL hj hc hRl hP hD hS hl hnext
      · subst e8
        refine lv_tableIn (off := 237) (tgt := 269) hx hb dL_law_32 (by rw [tI 5 (by decide)]; decide) (by rw [tI 5 (by decide)]; decide) (by rw [tI 5 (by decide)]; first | rfl | decide) (by decide) ?_
        exact lc_setCursor S hE hX hbl hL hj hc hRl hP hD hS hl hnext
      · subst e8
        refine lv_tableIn (off := 260) (tgt := 292) hx hb dL_law_32 (by rw [tI 6 (by decide)]; decide) (by rw [tI 6 (by decide)]; decide) (by rw [tI 6 (by decide)]; first | rfl | decide) (by decide) ?_
        exact lc_setPrices S hE hX hbl hL hj hc hRl hP hD hS hl hnext
      · subst e8
        refine lv_tableIn (off := 293) (tgt := 325) hx hb dL_law_32 (by rw [tI 7 (by decide)]; decide) (by rw [tI 7 (by decide)]; decide) (by rw [tI 7 (by decide)]; first | rfl | decide) (by decide) ?_
        exact lc_character S hE hX hbl hL hj hc hRl hP hD hS hl hnext
      · subst e8
        refine lv_tableIn (off := 316) (tgt := 348) hx hb dL_law_32 (by rw [tI 8 (by decide)]; decide) (by rw [tI 8 (by decide)]; decide) (by rw [tI 8 (by decide)]; first | rfl | decide) (by decide) ?_
        exact lc_author S hE hX hbl hL hj hc hRl hP hD hS hl hnext
      · subst e8
        refine lv_tableIn (off := 339) (tgt := 371) hx hb dL_law_32 (by rw [tI 9 (by decide)]; decide) (by rw [tI 9 (by decide)]; decide) (by rw [tI 9 (by decide)]; first | rfl | decide) (by decide) ?_
        exact lc_count S hE hX hbl hL hj hc hRl hP hD hS hl hnext
      · subst e8
        refine lv_tableIn (off := 362) (tgt := 394) hx hb dL_law_32 (by rw [tI 10 (by decide)]; decide) (by rw [tI 10 (by decide)]; decide) (by rw [tI 10 (by decide)]; first | rfl | decide) (by decide) ?_
        exact lc_edit S hE hX hbl hL hj hc hRl hP hD hS hl hnext
      · subst e8
        refine lv_tableIn (off := 395) (tgt := 427) hx hb dL_law_32 (by rw [tI 11 (by decide)]; decide) (by rw [tI 11 (by decide)]; decide) (by rw [tI 11 (by decide)]; first | rfl | decide) (by decide) ?_
        exact lc_commute S hE hX hbl hL hj hc hRl hP hD hS hl hnext
      · subst e8
        refine lv_tableIn (off := 428) (tgt := 460) hx hb dL_law_32 (by rw [tI 12 (by decide)]; decide) (by rw [tI 12 (by decide)]; decide) (by rw [tI 12 (by decide)]; first | rfl | decide) (by decide) ?_
        exact lc_closure S hE hX hbl hL hj hc hRl hP hD hS hl hnext
      · subst e8
        refine lv_tableIn (off := 451) (tgt := 483) hx hb dL_law_32 (by rw [tI 13 (by decide)]; decide) (by rw [tI 13 (by decide)]; decide) (by rw [tI 13 (by decide)]; first | rfl | decide) (by decide) ?_
        exact lc_price S hE hX hbl hL hj hc hRl hP hD hS hl hnext
      · subst e8
        refine lv_tableIn (off := 474) (tgt := 506) hx hb dL_law_32 (by rw [tI 14 (by decide)]; decide) (by rw [tI 14 (by decide)]; decide) (by rw [tI 14 (by decide)]; first | rfl | decide) (by decide) ?_
        exact lc_takeBack S hE hX hbl hL hj hc hRl hP hD hS hl hnext
      · subst e8
        refine lv_tableIn (off := 497) (tgt := 529) hx hb dL_law_32 (by rw [tI 15 (by decide)]; decide) (by rw [tI 15 (by decide)]; decide) (by rw [tI 15 (by decide)]; first | rfl | decide) (by decide) ?_
        exact lc_bringBack S hE hX hbl hL hj hc hRl hP hD hS hl hnext
      · subst e8
        refine lv_tableIn (off := 520) (tgt := 552) hx hb dL_law_32 (by rw [tI 16 (by decide)]; decide) (by rw [tI 16 (by decide)]; decide) (by rw [tI 16 (by decide)]; first | rfl | decide) (by decide) ?_
        exact lc_carried S hE hX hbl hL hj hc hRl hP hD hS hl hnext
      · subst e8
        refine lv_tableIn (off := 553) (tgt := 585) hx hb dL_law_32 (by rw [tI 17 (by decide)]; decide) (by rw [tI 17 (by decide)]; decide) (by rw [tI 17 (by decide)]; first | rfl | decide) (by decide) ?_
        exact lc_loose S hE hX hbl hL hj hc hRl hP hD hS hl hnext
      · subst e8
        refine lv_tableIn (off := 566) (tgt := 598) hx hb dL_law_32 (by rw [tI 18 (by decide)]; decide) (by rw [tI 18 (by decide)]; decide) (by rw [tI 18 (by decide)]; first | rfl | decide) (by decide) ?_
        exact lc_opening S hE hX hbl hL hj hc hRl hP hD hS hl hnext
      · subst e8
        refine lv_tableIn (off := 589) (tgt := 621) hx hb dL_law_32 (by rw [tI 19 (by decide)]; decide) (by rw [tI 19 (by decide)]; decide) (by rw [tI 19 (by decide)]; first | rfl | decide) (by decide) ?_
        exact lc_run S hE hX hbl hL hj hc hRl hP hD hS hl hnext
      · subst e8
        refine lv_tableIn (off := 622) (tgt := 654) hx hb dL_law_32 (by rw [tI 20 (by decide)]; decide) (by rw [tI 20 (by decide)]; decide) (by rw [tI 20 (by decide)]; first | rfl | decide) (by decide) ?_
        exact lc_appendScript S hE hX hbl hL hj hc hRl hP hD hS hl hnext
      · subst e8
        refine lv_tableIn (off := 645) (tgt := 677) hx hb dL_law_32 (by rw [tI 21 (by decide)]; decide) (by rw [tI 21 (by decide)]; decide) (by rw [tI 21 (by decide)]; first | rfl | decide) (by decide) ?_
        exact lc_clearScript S hE hX hbl hL hj hc hRl hP hD hS hl hnext
      · subst e8
        refine lv_tableIn (off := 658) (tgt := 690) hx hb dL_law_32 (by rw [tI 22 (by decide)]; decide) (by rw [tI 22 (by decide)]; decide) (by rw [tI 22 (by decide)]; first | rfl | decide) (by decide) ?_
        exact lc_runScript S hE hX hbl hL hj hc hRl hP hD hS hl hnext
      · subst e8
        refine lv_tableIn (off := 671) (tgt := 703) hx hb dL_law_32 (by rw [tI 23 (by decide)]; decide) (by rw [tI 23 (by decide)]; decide) (by rw [tI 23 (by decide)]; first | rfl | decide) (by decide) ?_
        exact lc_cheapest S hE hX hbl hL hj hc hRl hP hD hS hl hnext
      · subst e8
        refine lv_tableIn (off := 704) (tgt := 736) hx hb dL_law_32 (by rw [tI 24 (by decide)]; decide) (by rw [tI 24 (by decide)]; decide) (by rw [tI 24 (by decide)]; first | rfl | decide) (by decide) ?_
        exact lc_cheapestPrice S hE hX hbl hL hj hc hRl hP hD hS hl hnext
      · subst e8
        refine lv_tableIn (off := 737) (tgt := 769) hx hb dL_law_32 (by rw [tI 25 (by decide)]; decide) (by rw [tI 25 (by decide)]; decide) (by rw [tI 25 (by decide)]; first | rfl | decide) (by decide) ?_
        exact lc_clearing S hE hX hbl hL hj hc hRl hP hD hS hl hnext
      · subst e8
        refine lv_tableIn (off := 770) (tgt := 802) hx hb dL_law_32 (by rw [tI 26 (by decide)]; decide) (by rw [tI 26 (by decide)]; decide) (by rw [tI 26 (by decide)]; first | rfl | decide) (by decide) ?_
        exact lc_save S hE hX hbl hL hj hc hRl hP hD hS hl hnext
      · subst e8
        refine lv_tableIn (off := 793) (tgt := 825) hx hb dL_law_32 (by rw [tI 27 (by decide)]; decide) (by rw [tI 27 (by decide)]; decide) (by rw [tI 27 (by decide)]; first | rfl | decide) (by decide) ?_
        exact lc_restore S hE hX hbl hL hj hc hRl hP hD hS hl hnext
      · subst e8
        refine lv_tableIn (off := 816) (tgt := 848) hx hb dL_law_32 (by rw [tI 28 (by decide)]; decide) (by rw [tI 28 (by decide)]; decide) (by rw [tI 28 (by decide)]; first | rfl | decide) (by decide) ?_
        exact lc_difference S hE hX hbl hL hj hc hRl hP hD hS hl hnext
      · refine lv_tableOut (tgt := 871) hx hb dL_law_32 (by rw [tI n9 hn9]; right; omega) (by decide) ?_
        exact W.widen (by omega) (by omega) (hnext w H locs hRl hP hD hS)
