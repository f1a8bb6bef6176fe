
/-! the reference's state row: its pieces -/
def sF (cn en ac cu : Nat) (co : Nat → Nat) (au : Nat → Int) (er ki : Nat → Nat) (bs : Nat → Int) : Nat → Int := fun k =>
  if k < 4 then (if k = 0 then (cn : Int) else if k = 1 then (en : Int) else if k = 2 then (ac : Int) else (cu : Int)) else if k < 164 then (co (k - 4) : Int) else if k < 324 then au (k - 164) else if k < 484 then (er (k - 324) : Int) else if k < 500 then (ki (k - 484) : Int) else bs (k - 500)
section SF
variable {cn en ac cu : Nat} {co : Nat → Nat} {au : Nat → Int} {er ki : Nat → Nat} {bs : Nat → Int}
theorem sF_co {k : Nat} (h : k < 160) : sF cn en ac cu co au er ki bs (4 + k) = (co k : Int) := by
  unfold sF; rw [if_neg (by omega), if_pos (by omega), show 4 + k - 4 = k by omega]
theorem sF_au {k : Nat} (h : k < 160) : sF cn en ac cu co au er ki bs (164 + k) = au k := by
  unfold sF; rw [if_neg (by omega), if_neg (by omega), if_pos (by omega), show 164 + k - 164 = k by omega]
theorem sF_er {k : Nat} (h : k < 160) : sF cn en ac cu co au er ki bs (324 + k) = (er k : Int) := by
  unfold sF; rw [if_neg (by omega), if_neg (by omega), if_neg (by omega), if_pos (by omega), show 324 + k - 324 = k by omega]
theorem sF_ki {k : Nat} (h : k < 16) : sF cn en ac cu co au er ki bs (484 + k) = (ki k : Int) := by
  unfold sF; rw [if_neg (by omega), if_neg (by omega), if_neg (by omega), if_neg (by omega), if_pos (by omega), show 484 + k - 484 = k by omega]
theorem sF_bs {k : Nat} (h : k < 16) : sF cn en ac cu co au er ki bs (500 + k) = bs k := by
  unfold sF; rw [if_neg (by omega), if_neg (by omega), if_neg (by omega), if_neg (by omega), if_neg (by omega), show 500 + k - 500 = k by omega]
theorem sF_ucn {v : Nat} : up (sF cn en ac cu co au er ki bs) 0 (v : Int) = sF v en ac cu co au er ki bs := by
  funext j; unfold up sF; by_cases h : j = 0
  · subst h; rfl
  · rw [if_neg h]; simp [h]
theorem sF_uen {v : Nat} : up (sF cn en ac cu co au er ki bs) 1 (v : Int) = sF cn v ac cu co au er ki bs := by
  funext j; unfold up sF; by_cases h : j = 1
  · subst h; rfl
  · rw [if_neg h]; simp [h]
theorem sF_uac {v : Nat} : up (sF cn en ac cu co au er ki bs) 2 (v : Int) = sF cn en v cu co au er ki bs := by
  funext j; unfold up sF; by_cases h : j = 2
  · subst h; rfl
  · rw [if_neg h]; simp [h]
theorem sF_ucu {v : Nat} : up (sF cn en ac cu co au er ki bs) 3 (v : Int) = sF cn en ac v co au er ki bs := by
  funext j; unfold up sF; by_cases h : j = 3
  · subst h; rfl
  · rw [if_neg h]
    by_cases h4 : j < 4
    · rw [if_pos h4, if_pos h4]
      by_cases h0 : j = 0
      · rw [if_pos h0, if_pos h0]
      · rw [if_neg h0, if_neg h0]
        by_cases h1 : j = 1
        · rw [if_pos h1, if_pos h1]
        · rw [if_neg h1, if_neg h1, if_pos (by omega), if_pos (by omega)]
    · rw [if_neg h4, if_neg h4]
theorem sF_uco {k v : Nat} (hk : k < 160) : up (sF cn en ac cu co au er ki bs) (4 + k) (v : Int) = sF cn en ac cu (up co k v) au er ki bs := by
  funext j; by_cases h : j = 4 + k
  · subst h; rw [up_same, sF_co hk, up_same]
  · rw [up_ne _ _ h]; unfold sF; by_cases h1 : j < 4
    · rw [if_pos h1, if_pos h1]
    · rw [if_neg h1, if_neg h1]; by_cases h2 : j < 164
      · rw [if_pos h2, if_pos h2, up_ne _ _ (by omega)]
      · rw [if_neg h2, if_neg h2]
theorem sF_uau {k : Nat} {v : Int} (hk : k < 160) : up (sF cn en ac cu co au er ki bs) (164 + k) v = sF cn en ac cu co (up au k v) er ki bs := by
  funext j; by_cases h : j = 164 + k
  · subst h; rw [up_same, sF_au hk, up_same]
  · rw [up_ne _ _ h]; unfold sF; by_cases h1 : j < 4
    · rw [if_pos h1, if_pos h1]
    · rw [if_neg h1, if_neg h1]; by_cases h2 : j < 164
      · rw [if_pos h2, if_pos h2]
      · rw [if_neg h2, if_neg h2]; by_cases h3 : j < 324
        · rw [if_pos h3, if_pos h3, up_ne _ _ (by omega)]
        · rw [if_neg h3, if_neg h3]
theorem sF_uer {k v : Nat} (hk : k < 160) : up (sF cn en ac cu co au er ki bs) (324 + k) (v : Int) = sF cn en ac cu co au (up er k v) ki bs := by
  funext j; by_cases h : j = 324 + k
  · subst h; rw [up_same, sF_er hk, up_same]
  · rw [up_ne _ _ h]; unfold sF; by_cases h1 : j < 4
    · rw [if_pos h1, if_pos h1]
    · rw [if_neg h1, if_neg h1]; by_cases h2 : j < 164
      · rw [if_pos h2, if_pos h2]
      · rw [if_neg h2, if_neg h2]; by_cases h3 : j < 324
        · rw [if_pos h3, if_pos h3]
        · rw [if_neg h3, if_neg h3]; by_cases h4 : j < 484
          · rw [if_pos h4, if_pos h4, up_ne _ _ (by omega)]
          · rw [if_neg h4, if_neg h4]
theorem sF_uki {k v : Nat} (hk : k < 16) : up (sF cn en ac cu co au er ki bs) (484 + k) (v : Int) = sF cn en ac cu co au er (up ki k v) bs := by
  funext j; by_cases h : j = 484 + k
  · subst h; rw [up_same, sF_ki hk, up_same]
  · rw [up_ne _ _ h]; unfold sF; by_cases h1 : j < 4
    · rw [if_pos h1, if_pos h1]
    · rw [if_neg h1, if_neg h1]; by_cases h2 : j < 164
      · rw [if_pos h2, if_pos h2]
      · rw [if_neg h2, if_neg h2]; by_cases h3 : j < 324
        · rw [if_pos h3, if_pos h3]
        · rw [if_neg h3, if_neg h3]; by_cases h4 : j < 484
          · rw [if_pos h4, if_pos h4]
          · rw [if_neg h4, if_neg h4]; by_cases h5 : j < 500
            · rw [if_pos h5, if_pos h5, up_ne _ _ (by omega)]
            · rw [if_neg h5, if_neg h5]
theorem sF_ubs {k : Nat} {v : Int} (hk : k < 16) : up (sF cn en ac cu co au er ki bs) (500 + k) v = sF cn en ac cu co au er ki (up bs k v) := by
  funext j; by_cases h : j = 500 + k
  · subst h; rw [up_same, sF_bs hk, up_same]
  · rw [up_ne _ _ h]; unfold sF; by_cases h1 : j < 4
    · rw [if_pos h1, if_pos h1]
    · rw [if_neg h1, if_neg h1]; by_cases h2 : j < 164
      · rw [if_pos h2, if_pos h2]
      · rw [if_neg h2, if_neg h2]; by_cases h3 : j < 324
        · rw [if_pos h3, if_pos h3]
        · rw [if_neg h3, if_neg h3]; by_cases h4 : j < 484
          · rw [if_pos h4, if_pos h4]
          · rw [if_neg h4, if_neg h4]; by_cases h5 : j < 500
            · rw [if_pos h5, if_pos h5]
            · rw [if_neg h5, if_neg h5, up_ne _ _ (by omega)]
end SF
section LIFT2
variable {p : Program} {l : Launch} {e : Env} {R : Room} {s : State} {m : MethodId} {args : Array Value} {below : List Frame} {meth : Method} {c : Code} {H : Heap} {locs : List Loc} {cells slots : Nat} {Q : State → Prop} {pc : Nat} {ls : Array Slot} {rest : List Value} {cc : ByteArray} {D : va_G} {cl : List vw_C} {tys : List (ClassId × FieldType)} {ws : va_W} {a : Nat} {A : Nat → Prop} {H0 : Heap}
theorem r_ialdV (hx : p.tables.exec = Jvm.exec) (hb : c.code = cc) (hK : va_K D cl tys s) (hP : va_P D cl ws H) (q0 t0 : Nat) {cA : ClassId} {n : Nat} {f : Nat → Int} (ha : ws[q0]? = some (a, .inl (cA, n, .inl (rI f)))) (ht : tys[t0]? = some (cA, .int)) {t v : Int} (k : Nat) (hk : t = (k : Int)) (hn : k < n) (hN : n < 2 ^ 31) (hv : f k = v) (hdg : decode cc pc = .ok (.iaload, 1)) (kk : W p l e R s m args below meth c H locs cells slots Q (F0 m (pc + 1) ls (.int (iI v) :: rest))) : W p l e R s m args below meth c H locs cells slots Q (F0 m pc ls (.int (iI t) :: .ref a :: rest)) := r_iald hx hb hK hP q0 t0 ha ht k hk hn hN hdg (by rw [hv]; exact kk)
theorem r_iastV (hx : p.tables.exec = Jvm.exec) (hb : c.code = cc) (hK : va_K D cl tys s) (hP : va_P D cl ws H) (hD : va_D A ws) (hS : va_S A H0 H locs) (q0 t0 : Nat) {cA : ClassId} {n : Nat} {f g : Nat → Int} (ha : ws[q0]? = some (a, .inl (cA, n, .inl (rI f)))) (ht : tys[t0]? = some (cA, .int)) {t v : Int} (k : Nat) (hk : t = (k : Int)) (hn : k < n) (hN : n < 2 ^ 31) (hg : up f k v = g) (hdg : decode cc pc = .ok (.iastore, 1)) (kk : ∀ (H1 : Heap) (locs1 : List Loc), va_P D cl (ws.set q0 (a, .inl (cA, n, .inl (rI g)))) H1 → va_D A (ws.set q0 (a, .inl (cA, n, .inl (rI g)))) → va_S A H0 H1 locs1 → W p l e R s m args below meth c H1 locs1 cells slots Q (F0 m (pc + 1) ls rest)) : W p l e R s m args below meth c H locs cells slots Q (F0 m pc ls (.int (iI v) :: .int (iI t) :: .ref a :: rest)) := by
  subst hg
  exact r_iast hx hb hK hP hD hS q0 t0 ha ht k hk hn hN hdg kk
end LIFT2
/-! words for the reference: authors as owners, the place among the visible, what rests on what -/
def om (a : Int) : Nat := if a < 0 then 0 else 2 ^ a.toNat
def omF (au : Nat → Int) : Nat → Nat := fun k => om (au k)
theorem om_n {a : Int} (h : a < 0) : om a = 0 := if_pos h
theorem om_p {a : Int} (h : ¬ a < 0) : om a = 2 ^ a.toNat := if_neg h
theorem om_lt {a : Int} (h : a < 16) : om a < 65536 := by
  unfold om; split; omega; exact pow16 (by omega)
theorem nd0 (b : Nat) : nd 0 b = 0 := by unfold nd; simp
theorem nd_pow (e b : Nat) : nd (2 ^ e) b = 0 ↔ b.testBit e = true := by
  constructor
  · intro h
    have h1 : (nd (2 ^ e) b).testBit e = false := by rw [h, Nat.zero_testBit]
    rw [nd_bit, Nat.testBit_two_pow_self] at h1
    cases hb : b.testBit e
    · rw [hb] at h1; cases h1
    · rfl
  · intro h
    apply Nat.eq_of_testBit_eq
    intro i
    rw [nd_bit, Nat.testBit_two_pow, Nat.zero_testBit]
    by_cases hi : e = i
    · subst hi; rw [h]; simp
    · simp [hi]
theorem vis_om {au : Nat → Int} {er : Nat → Nat} {act k : Nat} : vis (omF au) er act k ↔ (au k < 0 ∨ act.testBit (au k).toNat = true) ∧ er k &&& act = 0 := by
  unfold vis omF
  by_cases h : au k < 0
  · rw [om_n h, nd0]; simp [h]
  · rw [om_p h, nd_pow]; simp [h]
def nv (p : Nat → Bool) (n j : Nat) : Nat := fsF (fun k => p k && decide (cnt p k = j)) n
theorem nv_eq {p : Nat → Bool} {n j k : Nat} (hk : k < n) (hp : p k = true) (hc : cnt p k = j) : nv p n j = k := by
  unfold nv
  refine fsF_eq (fun i hi h => ?_) (by omega) (fun _ => by simp [hp, hc])
  simp only [Bool.and_eq_true, decide_eq_true_eq] at h
  have h1 : cnt p (i + 1) ≤ cnt p k := cnt_mono p hi
  rw [cnt_t h.1] at h1
  omega
def atv (p : Nat → Bool) (n j : Nat) : Int := if j < cnt p n then ((nv p n j : Nat) : Int) else -9
theorem atv_n {p : Nat → Bool} {n j : Nat} (h : ¬ j < cnt p n) : atv p n j = -9 := if_neg h
theorem atv_k {p : Nat → Bool} {n j k : Nat} (hk : k < n) (hp : p k = true) (hc : cnt p k = j) : atv p n j = (k : Int) := by
  have h1 : cnt p (k + 1) ≤ cnt p n := cnt_mono p hk
  rw [cnt_t hp] at h1
  unfold atv
  rw [if_pos (by omega), nv_eq hk hp hc]
/-- what an edit rests on directly -/
def dir (au : Nat → Int) (er ki : Nat → Nat) (bs : Nat → Int) (cn e : Nat) : Nat := (if ki e = 0 ∧ ¬ bs e = -1 then 2 ^ (bs e).toNat else 0) ||| orF (fun k => if (er k).testBit e = true ∧ ¬ au k = -1 then 2 ^ (au k).toNat else 0) cn
def thr (ba : Nat → Nat) (d n : Nat) : Nat := orF (fun b => if d.testBit b = true then ba b else 0) n
/-- ba holds what each edit rests on -/
def RQ (au : Nat → Int) (er ki : Nat → Nat) (bs : Nat → Int) (cn en : Nat) (ba : Nat → Nat) : Prop := ∀ e, e < en → ba e = dir au er ki bs cn e ||| thr ba (dir au er ki bs cn e) e
