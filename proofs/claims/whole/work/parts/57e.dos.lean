
/-! a command's effect upon the reference's state -/
abbrev MS : Type := Nat × Nat × Nat × Nat × (Nat → Nat) × (Nat → Int) × (Nat → Nat) × (Nat → Nat) × (Nat → Int) × (Nat → Nat)
def sI (p : Nat → Bool) (n gap : Nat) : Nat := if gap = 0 then 0 else nv p n (gap - 1) + 1
def bA (p : Nat → Bool) (n : Nat) (au : Nat → Int) (gap : Nat) : Int := if gap = 0 then -1 else au (nv p n (gap - 1))
theorem sI_0 {p : Nat → Bool} {n : Nat} : sI p n 0 = 0 := if_pos rfl
theorem sI_S {p : Nat → Bool} {n g : Nat} : sI p n (g + 1) = nv p n g + 1 := if_neg (Nat.succ_ne_zero g)
theorem bA_0 {p : Nat → Bool} {n : Nat} {au : Nat → Int} : bA p n au 0 = -1 := if_pos rfl
theorem bA_S {p : Nat → Bool} {n g : Nat} {au : Nat → Int} : bA p n au (g + 1) = au (nv p n g) := if_neg (Nat.succ_ne_zero g)
abbrev stI (cn en ac cu : Nat) (co : Nat → Nat) (au : Nat → Int) (er ki : Nat → Nat) (bs : Nat → Int) (ba : Nat → Nat) (st : Nat) (bse : Int) (c : Nat) (cl : Nat → Nat) : MS :=
  (cn + c, en + 1, ac ||| 2 ^ en, cu, inR (shF co st c cn) st cl c, inI (shI au st c cn) st (fun _ => (en : Int)) c, inR (shF er st c cn) st (fun _ => 0) c, up ki en 0, up bs en bse, up ba en (bth ba (om bse)))
abbrev stE (cn en ac cu : Nat) (co : Nat → Nat) (au : Nat → Int) (er ki : Nat → Nat) (bs : Nat → Int) (ba : Nat → Nat) (f t : Nat) : MS :=
  (cn, en + 1, ac ||| 2 ^ en, min cu (cnt (visb (omF au) (erM (visb (omF au) er ac) er f t en cn) (ac ||| 2 ^ en)) cn), co, au, erM (visb (omF au) er ac) er f t en cn, up ki en 1, up bs en (-1), up ba en (bthR ba (omF au) (nv (visb (omF au) er ac) cn) f (t - f)))
abbrev stA (cn en cu : Nat) (co : Nat → Nat) (au : Nat → Int) (er ki : Nat → Nat) (bs : Nat → Int) (ba : Nat → Nat) (act : Nat) : MS :=
  (cn, en, act, min cu (cnt (visb (omF au) er act) cn), co, au, er, ki, bs, ba)
def dos (cn en ac cu : Nat) (co : Nat → Nat) (au : Nat → Int) (er ki : Nat → Nat) (bs : Nat → Int) (ba : Nat → Nat) (sg fi se : Nat) (cl : Nat → Nat) : MS × Bool :=
  if sg = 43 then (if fi ≤ cnt (visb (omF au) er ac) cn ∧ en < 16 ∧ cnt (visb (omF au) er ac) cn + se ≤ 60 ∧ cn + se ≤ 160 then (stI cn en ac cu co au er ki bs ba (sI (visb (omF au) er ac) cn fi) (bA (visb (omF au) er ac) cn au fi) se cl, true) else ((cn, en, ac, cu, co, au, er, ki, bs, ba), false))
  else if sg = 45 then (if (fi < se ∧ se ≤ cnt (visb (omF au) er ac) cn) ∧ en < 16 then (stE cn en ac cu co au er ki bs ba fi se, true) else ((cn, en, ac, cu, co, au, er, ki, bs, ba), false))
  else if sg = 60 then (if (fi < en ∧ ac.testBit fi = true) ∧ cnt (visb (omF au) er (nd ac (2 ^ fi ||| (dep ba en (2 ^ fi) &&& ac)))) cn ≤ 60 then (stA cn en cu co au er ki bs ba (nd ac (2 ^ fi ||| (dep ba en (2 ^ fi) &&& ac))), true) else ((cn, en, ac, cu, co, au, er, ki, bs, ba), false))
  else if sg = 62 then (if (fi < en ∧ ¬ ac.testBit fi = true) ∧ cnt (visb (omF au) er (ac ||| (2 ^ fi ||| nd (ba fi) ac))) cn ≤ 60 then (stA cn en cu co au er ki bs ba (ac ||| (2 ^ fi ||| nd (ba fi) ac)), true) else ((cn, en, ac, cu, co, au, er, ki, bs, ba), false))
  else (if fi ≤ cnt (visb (omF au) er ac) cn then ((cn, en, ac, fi, co, au, er, ki, bs, ba), true) else ((cn, en, ac, cu, co, au, er, ki, bs, ba), false))
def GDt (g : MS) : Prop := GD g.1 g.2.1 g.2.2.1 g.2.2.2.1 g.2.2.2.2.1 g.2.2.2.2.2.1 g.2.2.2.2.2.2.1 g.2.2.2.2.2.2.2.1 g.2.2.2.2.2.2.2.2.1 g.2.2.2.2.2.2.2.2.2
def LKt (g : MS) (ln es : Nat) (cc ow ec ix : Nat → Nat) : Prop := LK g.1 g.2.1 g.2.2.1 g.2.2.2.2.1 g.2.2.2.2.2.1 g.2.2.2.2.2.2.1 g.2.2.2.2.2.2.2.1 ln es cc ow ec ix
section DOS
variable {cn en ac cu : Nat} {co : Nat → Nat} {au : Nat → Int} {er ki : Nat → Nat} {bs : Nat → Int} {ba : Nat → Nat} {fi se : Nat} {cl : Nat → Nat}
theorem dos_p1 (h : fi ≤ cnt (visb (omF au) er ac) cn ∧ en < 16 ∧ cnt (visb (omF au) er ac) cn + se ≤ 60 ∧ cn + se ≤ 160) : dos cn en ac cu co au er ki bs ba 43 fi se cl = (stI cn en ac cu co au er ki bs ba (sI (visb (omF au) er ac) cn fi) (bA (visb (omF au) er ac) cn au fi) se cl, true) := by
  unfold dos; rw [if_pos rfl, if_pos h]
theorem dos_p0 (h : ¬ (fi ≤ cnt (visb (omF au) er ac) cn ∧ en < 16 ∧ cnt (visb (omF au) er ac) cn + se ≤ 60 ∧ cn + se ≤ 160)) : dos cn en ac cu co au er ki bs ba 43 fi se cl = ((cn, en, ac, cu, co, au, er, ki, bs, ba), false) := by
  unfold dos; rw [if_pos rfl, if_neg h]
theorem dos_m1 (h : (fi < se ∧ se ≤ cnt (visb (omF au) er ac) cn) ∧ en < 16) : dos cn en ac cu co au er ki bs ba 45 fi se cl = (stE cn en ac cu co au er ki bs ba fi se, true) := by
  unfold dos; rw [if_neg (by decide), if_pos rfl, if_pos h]
theorem dos_m0 (h : ¬ ((fi < se ∧ se ≤ cnt (visb (omF au) er ac) cn) ∧ en < 16)) : dos cn en ac cu co au er ki bs ba 45 fi se cl = ((cn, en, ac, cu, co, au, er, ki, bs, ba), false) := by
  unfold dos; rw [if_neg (by decide), if_pos rfl, if_neg h]
theorem dos_l1 (h : (fi < en ∧ ac.testBit fi = true) ∧ cnt (visb (omF au) er (nd ac (2 ^ fi ||| (dep ba en (2 ^ fi) &&& ac)))) cn ≤ 60) : dos cn en ac cu co au er ki bs ba 60 fi se cl = (stA cn en cu co au er ki bs ba (nd ac (2 ^ fi ||| (dep ba en (2 ^ fi) &&& ac))), true) := by
  unfold dos; rw [if_neg (by decide), if_neg (by decide), if_pos rfl, if_pos h]
theorem dos_l0 (h : ¬ ((fi < en ∧ ac.testBit fi = true) ∧ cnt (visb (omF au) er (nd ac (2 ^ fi ||| (dep ba en (2 ^ fi) &&& ac)))) cn ≤ 60)) : dos cn en ac cu co au er ki bs ba 60 fi se cl = ((cn, en, ac, cu, co, au, er, ki, bs, ba), false) := by
  unfold dos; rw [if_neg (by decide), if_neg (by decide), if_pos rfl, if_neg h]
theorem dos_g1 (h : (fi < en ∧ ¬ ac.testBit fi = true) ∧ cnt (visb (omF au) er (ac ||| (2 ^ fi ||| nd (ba fi) ac))) cn ≤ 60) : dos cn en ac cu co au er ki bs ba 62 fi se cl = (stA cn en cu co au er ki bs ba (ac ||| (2 ^ fi ||| nd (ba fi) ac)), true) := by
  unfold dos; rw [if_neg (by decide), if_neg (by decide), if_neg (by decide), if_pos rfl, if_pos h]
theorem dos_g0 (h : ¬ ((fi < en ∧ ¬ ac.testBit fi = true) ∧ cnt (visb (omF au) er (ac ||| (2 ^ fi ||| nd (ba fi) ac))) cn ≤ 60)) : dos cn en ac cu co au er ki bs ba 62 fi se cl = ((cn, en, ac, cu, co, au, er, ki, bs, ba), false) := by
  unfold dos; rw [if_neg (by decide), if_neg (by decide), if_neg (by decide), if_pos rfl, if_neg h]
theorem dos_c1 (h : fi ≤ cnt (visb (omF au) er ac) cn) : dos cn en ac cu co au er ki bs ba 64 fi se cl = ((cn, en, ac, fi, co, au, er, ki, bs, ba), true) := by
  unfold dos; rw [if_neg (by decide), if_neg (by decide), if_neg (by decide), if_neg (by decide), if_pos h]
theorem dos_c0 (h : ¬ fi ≤ cnt (visb (omF au) er ac) cn) : dos cn en ac cu co au er ki bs ba 64 fi se cl = ((cn, en, ac, cu, co, au, er, ki, bs, ba), false) := by
  unfold dos; rw [if_neg (by decide), if_neg (by decide), if_neg (by decide), if_neg (by decide), if_neg h]
theorem sI_le {p : Nat → Bool} {n gap : Nat} (h : gap ≤ cnt p n) : sI p n gap ≤ n := by
  unfold sI; split
  · exact Nat.zero_le _
  · have := (nv_ok p n (gap - 1) (by omega)).1; omega
theorem bA_r {p : Nat → Bool} {gap : Nat} (h : gap ≤ cnt p cn) (hau : ∀ k, -1 ≤ au k ∧ au k < 16) (ha : ∀ k, k < cn → au k < (en : Int)) : -1 ≤ bA p cn au gap ∧ bA p cn au gap < (en : Int) := by
  unfold bA; split
  · omega
  · exact ⟨(hau _).1, ha _ (nv_ok p cn (gap - 1) (by omega)).1⟩
theorem GD_dos (h : GD cn en ac cu co au er ki bs ba) {sg : Nat} (hsg : sg = 43 ∨ sg = 45 ∨ sg = 60 ∨ sg = 62 ∨ sg = 64) (hse : sg = 43 → 1 ≤ se) (hcl : ∀ k, cl k < 65536) : GDt (dos cn en ac cu co au er ki bs ba sg fi se cl).1 := by
  have h0 := h
  obtain ⟨⟨a1, a2, a3, a4, a5⟩, ⟨b1, b2, b3, b4, b5, b6⟩, ⟨c1, c2, c3, c4, c5⟩, d1, d2, d3, d4⟩ := h
  rcases hsg with e | e | e | e | e <;> subst e
  · by_cases q : fi ≤ cnt (visb (omF au) er ac) cn ∧ en < 16 ∧ cnt (visb (omF au) er ac) cn + se ≤ 60 ∧ cn + se ≤ 160
    · rw [dos_p1 q]; exact GD_ins h0 q.2.1 (sI_le q.1) (hse rfl) q.2.2.2 q.2.2.1 (bA_r q.1 b2 c1) hcl
    · rw [dos_p0 q]; exact h0
  · by_cases q : (fi < se ∧ se ≤ cnt (visb (omF au) er ac) cn) ∧ en < 16
    · rw [dos_m1 q]; exact GD_era h0 q.2 q.1.1 q.1.2
    · rw [dos_m0 q]; exact h0
  · by_cases q : (fi < en ∧ ac.testBit fi = true) ∧ cnt (visb (omF au) er (nd ac (2 ^ fi ||| (dep ba en (2 ^ fi) &&& ac)))) cn ≤ 60
    · rw [dos_l1 q]; exact GD_act h0 (Nat.lt_of_le_of_lt (nd_le _ _) a3) q.2
    · rw [dos_l0 q]; exact h0
  · by_cases q : (fi < en ∧ ¬ ac.testBit fi = true) ∧ cnt (visb (omF au) er (ac ||| (2 ^ fi ||| nd (ba fi) ac))) cn ≤ 60
    · rw [dos_g1 q]; exact GD_act h0 (or_lt a3 (ope_lt c5 q.1.1)) q.2
    · rw [dos_g0 q]; exact h0
  · by_cases q : fi ≤ cnt (visb (omF au) er ac) cn
    · rw [dos_c1 q]; exact GD_cur h0 q
    · rw [dos_c0 q]; exact h0
end DOS
theorem inR_gc {f g g' : Nat → Nat} {st d : Nat} (h : ∀ i, i < d → g i = g' i) : inR f st g d = inR f st g' d := by
  funext j; unfold inR
  by_cases q : st ≤ j ∧ j < st + d
  · rw [if_pos q, if_pos q, h _ (by omega)]
  · rw [if_neg q, if_neg q]
