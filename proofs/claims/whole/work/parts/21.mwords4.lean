
/-! goals: what is reached, the cheapest -/
section LIFT3
variable {p : Program} {l : Launch} {e : Env} {R : Room} {s : State} {m : MethodId} {args : Array Value} {below : List Frame} {meth : Method} {c : Code} {H : Heap} {locs : List Loc} {cells slots : Nat} {Q : State → Prop} {pc : Nat} {ls : Array Slot} {rest : List Value} {cc : ByteArray}
theorem nd_z (a : Nat) : nd a 0 = a := by unfold nd; simp
theorem r_iandm1 (hx : p.tables.exec = Jvm.exec) (hb : c.code = cc) {x : Int} (a : Nat) (ha : x = a) (hdg : decode cc pc = .ok (.iand, 1)) (k : W p l e R s m args below meth c H locs cells slots Q (F0 m (pc + 1) ls (.int (iI (a : Int)) :: rest))) : W p l e R s m args below meth c H locs cells slots Q (F0 m pc ls (.int (iI (-1)) :: .int (iI x) :: rest)) := r_iandnot hx hb a 0 ha rfl hdg (by rw [nd_z]; exact k)
end LIFT3
def qv (p : Nat → Bool) (co : Nat → Nat) (va k : Nat) : Bool := p k && decide (co k = va)
/-- the goal of a kind, over the characters that p says are visible and the active edits -/
def rch (p : Nat → Bool) (co : Nat → Nat) (cn kd va act : Nat) : Bool :=
  if kd = 0 then decide (cnt p cn = va) else if kd = 1 then decide (cnt (qv p co va) cn = 0) else if kd = 2 then decide (fsF p cn < cn ∧ co (fsF p cn) = va) else decide (act &&& (2 ^ (min va 16) - 1) = 0)
theorem cnt_none {p : Nat → Bool} {n : Nat} (h : cnt p n = 0) : ∀ j, j < n → ¬ p j = true := by
  intro j hj hp
  have h1 : cnt p (j + 1) ≤ cnt p n := cnt_mono p hj
  rw [cnt_t hp] at h1; omega
theorem fs_first {p : Nat → Bool} {k : Nat} (h : cnt p k = 0) (hp : p k = true) : fsF p (k + 1) = k := fsF_eq (cnt_none h) (by omega) (fun _ => hp)
theorem fs_keep {p : Nat → Bool} {k : Nat} (h : fsF p k < k) : fsF p (k + 1) = fsF p k := by
  show (if fsF p k < k then fsF p k else _) = _; rw [if_pos h]
theorem fs_none {p : Nat → Bool} {k : Nat} (h : ¬ p k = true) (h2 : ¬ fsF p k < k) : fsF p (k + 1) = k + 1 := by
  show (if fsF p k < k then fsF p k else if p k = true then k else k + 1) = _; rw [if_neg h2, if_neg h]
theorem fs_some {p : Nat → Bool} {k : Nat} (h : ¬ cnt p k = 0) : fsF p k < k := by
  rcases Nat.lt_or_eq_of_le (fsF_le p k) with q | q
  · exact q
  · exfalso; apply h
    have hm : ∀ j, j < k → ¬ p j = true := fun j hj => @fsF_min p k j (by omega)
    have key : ∀ n, n ≤ k → cnt p n = 0 := by
      intro n
      induction n with
      | zero => intro _; rfl
      | succ n ih => intro hn; rw [cnt_f (hm n (by omega))]; exact ih (by omega)
    exact key k (Nat.le_refl k)
theorem bI_t1 {P : Prop} [Decidable P] (h : P) : 1 = bI P := (bI_t h).symm
theorem bI_f1 {P : Prop} [Decidable P] (h : ¬ P) : 0 = bI P := (bI_f h).symm
abbrev hs2 (p : Nat → Bool) (co : Nat → Nat) (va k : Nat) : Prop := fsF p k < k ∧ co (fsF p k) = va
theorem hs2_f {p : Nat → Bool} {co : Nat → Nat} {va k : Nat} (h : ¬ p k = true) : hs2 p co va k ↔ hs2 p co va (k + 1) := by
  unfold hs2
  by_cases q : fsF p k < k
  · rw [fs_keep q]; constructor <;> intro z <;> exact ⟨by omega, z.2⟩
  · rw [fs_none h q]; constructor <;> intro z <;> exfalso <;> omega
theorem hs2_n {p : Nat → Bool} {co : Nat → Nat} {va k : Nat} (hc : ¬ cnt p k = 0) : hs2 p co va k ↔ hs2 p co va (k + 1) := by
  unfold hs2; have q := fs_some hc
  rw [fs_keep q]; constructor <;> intro z <;> exact ⟨by omega, z.2⟩
theorem hs2_0 {p : Nat → Bool} {co : Nat → Nat} {va k : Nat} (hc : cnt p k = 0) (hp : p k = true) : hs2 p co va (k + 1) ↔ co k = va := by
  unfold hs2; rw [fs_first hc hp]; constructor <;> intro z
  · exact z.2
  · exact ⟨by omega, z⟩
theorem hs2_c {p : Nat → Bool} {co : Nat → Nat} {va k : Nat} (h : hs2 p co va k) : ¬ cnt p k = 0 := fun z => by
  have h1 := fsF_hit h.1
  exact cnt_none z _ h.1 h1
def lex (cost : Nat → Nat) (b s : Nat) : Prop := cost b < cost s ∨ (cost b = cost s ∧ (popc b < popc s ∨ (popc b = popc s ∧ b ≤ s)))
/-- what stands as the best among the sets below n -/
def BR (V : Nat → Bool) (cost : Nat → Nat) (n : Nat) (bv bq : Int) : Prop := (bv = -9 ∧ bq = -9 ∧ ∀ s, s < n → ¬ V s = true) ∨ ∃ b : Nat, b < n ∧ bv = (b : Int) ∧ bq = (cost b : Int) ∧ V b = true ∧ ∀ s, s < n → V s = true → lex cost b s
theorem BR_0 {V : Nat → Bool} {cost : Nat → Nat} : BR V cost 0 (-9) (-9) := Or.inl ⟨rfl, rfl, fun s h => absurd h (Nat.not_lt_zero s)⟩
theorem BR_skip {V : Nat → Bool} {cost : Nat → Nat} {n : Nat} {bv bq : Int} (h : BR V cost n bv bq) (hv : ¬ V n = true) : BR V cost (n + 1) bv bq := by
  rcases h with ⟨h1, h2, h3⟩ | ⟨b, h1, h2, h3, h4, h5⟩
  · refine Or.inl ⟨h1, h2, fun s hs => ?_⟩
    rcases Nat.lt_or_eq_of_le (Nat.le_of_lt_succ hs) with q | q
    · exact h3 s q
    · rw [q]; exact hv
  · refine Or.inr ⟨b, by omega, h2, h3, h4, fun s hs hV => ?_⟩
    rcases Nat.lt_or_eq_of_le (Nat.le_of_lt_succ hs) with q | q
    · exact h5 s q hV
    · rw [q] at hV; exact absurd hV hv
theorem BR_keep {V : Nat → Bool} {cost : Nat → Nat} {n : Nat} {bv bq : Int} (h : BR V cost n bv bq) (h0 : ¬ bv = -9) (h1 : ¬ (cost n : Int) < bq) (h2 : ¬ ((cost n : Int) = bq ∧ popc n < popc bv.toNat)) : BR V cost (n + 1) bv bq := by
  rcases h with ⟨g1, _, _⟩ | ⟨b, g1, g2, g3, g4, g5⟩
  · exact absurd g1 h0
  · refine Or.inr ⟨b, by omega, g2, g3, g4, fun s hs hV => ?_⟩
    rcases Nat.lt_or_eq_of_le (Nat.le_of_lt_succ hs) with q | q
    · exact g5 s q hV
    · subst q
      have hb : bv.toNat = b := by omega
      rw [hb] at h2
      unfold lex
      by_cases e : cost b = cost s
      · right; refine ⟨e, ?_⟩
        have : ¬ popc s < popc b := fun z => h2 ⟨by omega, z⟩
        omega
      · left; omega
theorem BR_new {V : Nat → Bool} {cost : Nat → Nat} {n : Nat} {bv bq : Int} (h : BR V cost n bv bq) (hv : V n = true) (hb : bv = -9 ∨ (cost n : Int) < bq ∨ ((cost n : Int) = bq ∧ popc n < popc bv.toNat)) : BR V cost (n + 1) (n : Int) (cost n : Int) := by
  refine Or.inr ⟨n, by omega, rfl, rfl, hv, fun s hs hV => ?_⟩
  rcases Nat.lt_or_eq_of_le (Nat.le_of_lt_succ hs) with q | q
  · rcases h with ⟨g1, g2, g3⟩ | ⟨b, g1, g2, g3, g4, g5⟩
    · exact absurd hV (g3 s q)
    · have hx := g5 s q hV
      have hbn : bv.toNat = b := by omega
      rw [hbn] at hb
      unfold lex at hx ⊢
      omega
  · subst q; right; exact ⟨rfl, Or.inr ⟨rfl, Nat.le_refl _⟩⟩
theorem BR_r {V : Nat → Bool} {cost : Nat → Nat} {n : Nat} {bv bq : Int} (h : BR V cost n bv bq) (hn : n ≤ 65536) (hc : ∀ s, cost s < 65536) : (bv = -9 ∧ bq = -9) ∨ (0 ≤ bv ∧ bv < 65536 ∧ 0 ≤ bq ∧ bq < 65536) := by
  rcases h with ⟨g1, g2, g3⟩ | ⟨b, g1, g2, g3, g4, g5⟩
  · exact Or.inl ⟨g1, g2⟩
  · have := hc b; exact Or.inr ⟨by omega, by omega, by omega, by omega⟩
def apr (ac : Nat) (g : Nat → Nat) (e : Nat) : Nat := if ac.testBit e = true then g e else 0
theorem preF_sv {f g : Nat → Nat} {d v : Nat} (h : v = g d) : up (preF f g d) d v = preF f g (d + 1) := by rw [h]; exact preF_s
theorem preF_at {f g : Nat → Nat} {d k : Nat} (h : k < d) : preF f g d k = g k := if_pos h
theorem psm_le {g : Nat → Nat} {st n M : Nat} (h : ∀ e, g e ≤ M) : psm g st n ≤ n * M := by
  induction n with
  | zero => exact Nat.zero_le _
  | succ n ih =>
    show psm g st n + (if st.testBit n = true then g n else 0) ≤ _
    have := h n
    rw [Nat.succ_mul]
    split <;> omega
theorem prc_le {ow er : Nat → Nat} {tt ac cu ag di e : Nat} (htt : tt ≤ 160) (hcu : cu ≤ 60) (ha : ag ≤ 9) (hd : di ≤ 9) : prc ow er tt ac cu ag di e ≤ 505 := by
  unfold prc
  have h1 : popc (ac >>> (e + 1)) ≤ 16 := cnt_le _ _
  have h2 : plc ow er tt ac e ≤ 160 := Nat.le_trans (cnt_le _ _) (Nat.le_trans (fsF_le _ _) htt)
  have h3 : ((plc ow er tt ac e : Int) - (cu : Int)).natAbs / 4 ≤ 40 := by omega
  have h4 : ag * popc (ac >>> (e + 1)) ≤ 9 * 16 := Nat.mul_le_mul ha h1
  have h5 : di * (((plc ow er tt ac e : Int) - (cu : Int)).natAbs / 4) ≤ 9 * 40 := Nat.mul_le_mul hd h3
  omega
theorem apr_le {ac M : Nat} {g : Nat → Nat} (h : ∀ e, g e ≤ M) : ∀ e, apr ac g e ≤ M := by
  intro e; unfold apr; split; exact h e; exact Nat.zero_le _
/-- the sets that can be taken back and by which a goal is reached -/
def vld (ow er co ba : Nat → Nat) (cn en ac kd va s : Nat) : Bool := decide (nd s ac = 0) && (alF (goP ba ac s) en && rch (visb ow er (nd ac s)) co cn kd va (nd ac s))
theorem vld_t {ow er co ba : Nat → Nat} {cn en ac kd va s : Nat} (h1 : nd s ac = 0) (h2 : alF (goP ba ac s) en = true) (h3 : rch (visb ow er (nd ac s)) co cn kd va (nd ac s) = true) : vld ow er co ba cn en ac kd va s = true := by unfold vld; rw [h2, h3]; simp [h1]
theorem vld_1 {ow er co ba : Nat → Nat} {cn en ac kd va s : Nat} (h1 : ¬ nd s ac = 0) : ¬ vld ow er co ba cn en ac kd va s = true := by unfold vld; simp [h1]
theorem vld_2 {ow er co ba : Nat → Nat} {cn en ac kd va s : Nat} (h1 : ¬ alF (goP ba ac s) en = true) : ¬ vld ow er co ba cn en ac kd va s = true := by unfold vld; simp [h1]
theorem vld_3 {ow er co ba : Nat → Nat} {cn en ac kd va s : Nat} (h1 : ¬ rch (visb ow er (nd ac s)) co cn kd va (nd ac s) = true) : ¬ vld ow er co ba cn en ac kd va s = true := by unfold vld; simp [h1]
theorem and_m1 {a v : Nat} (ha : a < 65536) (hv : 16 ≤ v) : a &&& (2 ^ (min v 16) - 1) = a := by
  rw [show min v 16 = 16 by omega]
  exact Nat.and_two_pow_sub_one_of_lt_two_pow (show a < 2 ^ 16 from ha)
theorem fre_comm {ba re : Nat → Nat} {a b n : Nat} (h : ∀ k, k < n → re k = ba k) (ha : a < n) (hb : b < n) : fre re a b ↔ fre ba b a := by
  unfold fre; rw [h a ha, h b hb]; exact And.comm
