
/-! rows of which only the part below their length counts; shifts of authors; erasures as the reference lays them -/
theorem cell_congr {cA : ClassId} {n : Nat} {f g : Nat → Int32} (h : ∀ j, j < n → f j = g j) : vp_cell cA (n, .inl f) = vp_cell cA (n, .inl g) := by
  rw [vp_cell_i, vp_cell_i]
  unfold arrV
  have : (fun j : Fin n => Value.int (f j.val)) = (fun j : Fin n => Value.int (g j.val)) := by funext j; rw [h j.val j.isLt]
  rw [this]
theorem va_P.congr {D : va_G} {cl : List vw_C} {ws ws' : va_W} {H : Heap} (hP : va_P D cl ws H) (k : Nat) {a : Nat} {cA : ClassId} {n : Nat} {f g : Nat → Int32} (hk : ws[k]? = some (a, .inl (cA, n, .inl f))) (h : ∀ j, j < n → f j = g j) (hw : ws.set k (a, .inl (cA, n, .inl g)) = ws') : va_P D cl ws' H := by
  subst hw
  intro i q hi
  rw [List.getElem?_set] at hi
  split at hi
  · next e =>
    subst e
    have hlt : k < ws.length := (List.getElem?_eq_some_iff.mp hk).1
    rw [if_pos hlt] at hi
    cases hi
    have h0 := hP k _ hk
    show H[a]? = some (vp_cell cA (n, .inl g))
    rw [← cell_congr h]
    exact h0
  · exact hP i q hi
theorem va_D.congr {A : Nat → Prop} {ws ws' : va_W} (hD : va_D A ws) (k : Nat) {a : Nat} {e0 e : va_E} (hk : ws[k]? = some (a, e0)) (hw : ws.set k (a, e) = ws') : va_D A ws' := by
  subst hw
  exact hD.set hk
def shI (f : Nat → Int) (b c t : Nat) : Nat → Int := fun j => if b + c ≤ j ∧ j < t + c then f (j - c) else f j
theorem shI_at {f : Nat → Int} {b c t : Nat} : shI f (b + 1) c t b = f b := if_neg (by omega)
theorem shI_up {f : Nat → Int} {b c t : Nat} (h : b < t) : up (shI f (b + 1) c t) (b + c) (shI f (b + 1) c t b) = shI f b c t := by
  funext j
  rw [shI_at]
  unfold up shI
  by_cases h1 : j = b + c
  · rw [if_pos h1, if_pos (by omega), show j - c = b by omega]
  · rw [if_neg h1]
    by_cases h2 : b + 1 + c ≤ j ∧ j < t + c
    · rw [if_pos h2, if_pos (by omega)]
    · rw [if_neg h2, if_neg (by omega)]
theorem shI_0 {f : Nat → Int} {c t : Nat} : shI f t c t = f := by
  funext j; exact if_neg (by omega)
theorem shI_om {f : Nat → Int} {b c t : Nat} : omF (shI f b c t) = shF (omF f) b c t := by
  funext j; unfold omF shI shF; split <;> rfl
def inI (f : Nat → Int) (st : Nat) (g : Nat → Int) (d : Nat) : Nat → Int := fun j => if st ≤ j ∧ j < st + d then g (j - st) else f j
theorem inI_0 {f g : Nat → Int} {st : Nat} : inI f st g 0 = f := by funext j; exact if_neg (by omega)
theorem inI_s {f g : Nat → Int} {st d : Nat} {v : Int} (hv : g d = v) : up (inI f st g d) (st + d) v = inI f st g (d + 1) := by
  funext j; unfold up inI
  by_cases h1 : j = st + d
  · rw [if_pos h1, if_pos (by omega), show j - st = d by omega, hv]
  · rw [if_neg h1]
    by_cases h2 : st ≤ j ∧ j < st + d
    · rw [if_pos h2, if_pos (by omega)]
    · rw [if_neg h2, if_neg (by omega)]
theorem inI_om {f g : Nat → Int} {st d : Nat} : omF (inI f st g d) = inR (omF f) st (omF g) d := by
  funext j; unfold omF inI inR; split <;> rfl
def erM (p : Nat → Bool) (er : Nat → Nat) (f t e n : Nat) : Nat → Nat := fun j => if j < n ∧ p j = true ∧ f ≤ cnt p j ∧ cnt p j < t then er j ||| 2 ^ e else er j
theorem erM_0 {p : Nat → Bool} {er : Nat → Nat} {f t e : Nat} : erM p er f t e 0 = er := by funext j; exact if_neg (fun h => absurd h.1 (Nat.not_lt_zero j))
theorem erM_k {p : Nat → Bool} {er : Nat → Nat} {f t e k : Nat} : erM p er f t e k k = er k := if_neg (fun h => absurd h.1 (Nat.lt_irrefl k))
theorem erM_t {p : Nat → Bool} {er : Nat → Nat} {f t e k : Nat} (h : p k = true ∧ f ≤ cnt p k ∧ cnt p k < t) : up (erM p er f t e k) k (erM p er f t e k k ||| 2 ^ e) = erM p er f t e (k + 1) := by
  rw [erM_k]
  funext j; unfold up erM
  by_cases h1 : j = k
  · subst h1; rw [if_pos rfl, if_pos ⟨by omega, h⟩]
  · rw [if_neg h1]
    by_cases h2 : j < k ∧ p j = true ∧ f ≤ cnt p j ∧ cnt p j < t
    · rw [if_pos h2, if_pos ⟨by omega, h2.2⟩]
    · rw [if_neg h2, if_neg (fun q => h2 ⟨by omega, q.2⟩)]
theorem erM_f {p : Nat → Bool} {er : Nat → Nat} {f t e k : Nat} (h : ¬ (p k = true ∧ f ≤ cnt p k ∧ cnt p k < t)) : up (erM p er f t e k) k (erM p er f t e k k ||| 0) = erM p er f t e (k + 1) := by
  rw [Nat.or_zero]
  funext j; unfold up erM
  by_cases h1 : j = k
  · subst h1; rw [if_pos rfl, if_neg (fun q => absurd q.1 (Nat.lt_irrefl j)), if_neg (fun q => h q.2)]
  · rw [if_neg h1]
    by_cases h2 : j < k ∧ p j = true ∧ f ≤ cnt p j ∧ cnt p j < t
    · rw [if_pos h2, if_pos ⟨by omega, h2.2⟩]
    · rw [if_neg h2, if_neg (fun q => h2 ⟨by omega, q.2⟩)]
theorem erM_lt {p : Nat → Bool} {er : Nat → Nat} {f t e n : Nat} (h : ∀ k, er k < 65536) (he : e < 16) : ∀ k, erM p er f t e n k < 65536 := by
  intro k; unfold erM; split; exact or16 (h k) (pow16 he); exact h k
theorem vis_er {ow er er2 : Nat → Nat} {act k : Nat} (h : er2 k = er k) : vis ow er2 act k ↔ vis ow er act k := by unfold vis; rw [h]
theorem shI_r {f : Nat → Int} {b c t : Nat} (hf : ∀ k, -1 ≤ f k ∧ f k < 16) : ∀ k, -1 ≤ shI f b c t k ∧ shI f b c t k < 16 := by
  intro k; unfold shI; split <;> exact hf _
theorem up_r {f : Nat → Int} {k : Nat} {v : Int} (hf : ∀ k, -1 ≤ f k ∧ f k < 16) (hv : -1 ≤ v ∧ v < 16) : ∀ j, -1 ≤ up f k v j ∧ up f k v j < 16 := by
  intro j; unfold up; split; exact hv; exact hf j
theorem atv_lt {p : Nat → Bool} {n j : Nat} (h : j < cnt p n) : atv p n j = ((nv p n j : Nat) : Int) := if_pos h
