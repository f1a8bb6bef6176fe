
/-! contracts over the whole world of a run -/
def KM (l : Launch) (D : va_G) (cI cB cZ cO : ClassId) (y : MethodName) (wd : List Cond) (av : List Value) (ws : va_W) (r : Int) (P : va_W → Prop) : Prop :=
  ∀ sz : Nat, ∃ fr lo mc ms : Nat, (fr ≤ 8 ∧ lo ≤ 250 ∧ mc ≤ 6 ∧ ms ≤ 600) ∧ Met l y wd ({ frames := fr, cells := mc, slots := ms, locals := lo }) (va_Pc av (RW D cI cB cZ cO sz ws)) (QX D (S := va_W) (fun _ => some (.int (iI r))) P (fun w => w) (va_A ws sz)) mc ms (va_A ws sz)
section KMS
variable {l : Launch} {D : va_G} {cI cB cZ cO : ClassId} {y : MethodName} {wd : List Cond} {av : List Value} {ws wc wr : va_W} {r : Int} {P : va_W → Prop} {fr lo mc ms : Nat}
theorem KM.ofO (h : Met l y wd ({ frames := fr, cells := 0, slots := 0, locals := lo }) (va_Pc av (RO D cI cB cZ cO wc)) (QO r) 0 0 (fun _ => False)) (hb : fr ≤ 8 ∧ lo ≤ 250) (is : List Nat) (hs : is.filterMap (fun i => ws[i]?) = wc) (hP : P ws) : KM l D cI cB cZ cO y wd av ws r P := fun sz =>
  ⟨fr, lo, 0, 0, ⟨hb.1, hb.2, by omega, by omega⟩, MetFree.mono h (fun a s hp => ⟨hp.1, hp.2.2.1, hp.2.2.2.1.sub is hs⟩) (fun _ _ _ _ _ z => z) (fun a s o t hp hq => by
    obtain ⟨⟨q1, q2⟩, L, q3, q4⟩ := hq
    exact ⟨⟨ws, q1, hP, by rw [q2]; exact hp.2.2.2.1, hp.2.2.2.2.self, by rw [q2]; exact Nat.le_refl _, fun q _ _ => by rw [q2]⟩, L, q3, fun q hq => absurd (q4 q hq) (fun z => z)⟩)⟩
theorem wperm {wa wb : va_W} {H : Heap} (hP : va_P D vwCl wa H) (ip : List Nat) (hp : ip.map (fun i => wa[i]?) = wb.map some) : va_P D vwCl wb H := wsub hP ip hp
theorem KM.ofX {S : Type} {val : S → Option Value} {post : S → Prop} {wo ws2 : S → va_W} (h : ∀ sz : Nat, Met l y wd ({ frames := fr, cells := mc, slots := ms, locals := lo }) (va_Pc av (RW D cI cB cZ cO sz wc)) (QX D val post wo (va_A wc sz)) mc ms (va_A wc sz)) (hb : fr ≤ 8 ∧ lo ≤ 250 ∧ mc ≤ 6 ∧ ms ≤ 600) (is iR ip : List Nat) (hs : is.map (fun i => ws[i]?) = wc.map some) (hsn : va_nd is = true) (hRr : iR.map (fun i => ws[i]?) = wr.map some) (hnn : va_nd iR = true) (hdis : ∀ i ∈ iR, i ∉ is) (hnp : va_nd ip = true) (hp : ∀ u, ip.map (fun i => (wr ++ wo u)[i]?) = (ws2 u).map some)
    (hv : ∀ u, post u → val u = some (.int (iI r))) (hP : ∀ u, post u → P (ws2 u)) : KM l D cI cB cZ cO y wd av ws r P := fun sz =>
  ⟨fr, lo, mc, ms, hb, MetFree.mono (h sz) (fun a s hp => ⟨hp.1, hp.2.1, hp.2.2.1, wsub hp.2.2.2.1 is hs, hp.2.2.2.2.sub is hsn hs⟩) (fun _ _ _ _ _ z => z) (fun a s o t hq0 hq => by
    obtain ⟨⟨u, q1, q2, q3, q4, q5⟩, L, q6, q7⟩ := hq
    have hz : s.heap.size = sz := hq0.2.1
    have hPw : va_P D vwCl ws s.heap := hq0.2.2.2.1
    have hDw : va_D (va_A ws s.heap.size) ws := hq0.2.2.2.2.self
    rw [← hz] at q4 q5 q7 ⊢
    have hF : ∀ q, va_A wc s.heap.size q → va_A ws s.heap.size q := va_free hDw va_S.rf (fun q hq => Or.inr hq) is hs
    obtain ⟨hP2, hD2⟩ := va_join hPw hDw is iR hs hRr hnn hdis (fun q a1 a2 => q5.2 q a1 a2) hF q3 q4
    exact ⟨⟨ws2 u, by rw [q1, hv u q2], hP u q2, wsub hP2 ip (hp u), hD2.sub ip hnp (hp u), q5.1, fun q a1 a2 => q5.2 q a1 (fun z => a2 (hF q z))⟩, L, q6, fun q hq => hF _ (q7 q hq)⟩)⟩
theorem get_l {α : Type} {a b : List α} {k : Nat} {q : α} (h : a[k]? = some q) : (a ++ b)[k]? = some q := by
  rw [List.getElem?_append_left (List.getElem?_eq_some_iff.mp h).1]; exact h
theorem get_r {α : Type} {a b : List α} {k : Nat} {q : α} (h : b[k]? = some q) : (a ++ b)[a.length + k]? = some q := by
  rw [List.getElem?_append_right (Nat.le_add_right _ _), Nat.add_sub_cancel_left]; exact h
theorem va_D_l {A : Nat → Prop} {a b : va_W} (h : va_D A (a ++ b)) : va_D A a := ⟨fun i j p q h1 h2 h3 => h.1 i j p q (get_l h1) (get_l h2) h3, fun k q hk => h.2 k q (get_l hk)⟩
theorem va_D_r {A : Nat → Prop} {a b : va_W} (h : va_D A (a ++ b)) : va_D A b := ⟨fun i j p q h1 h2 h3 => by have := h.1 _ _ p q (get_r h1) (get_r h2) h3; omega, fun k q hk => h.2 _ q (get_r hk)⟩
theorem va_D_x {A : Nat → Prop} {a b : va_W} (h : va_D A (a ++ b)) {i j : Nat} {p q : Nat × va_E} (h1 : a[i]? = some p) (h2 : b[j]? = some q) : p.1 ≠ q.1 := fun e => by
  have h3 := h.1 _ _ p q (get_l h1) (get_r h2) e
  have := (List.getElem?_eq_some_iff.mp h1).1
  omega
/-- more cells behind, that stay as they are -/
theorem KM.frame (h : KM l D cI cB cZ cO y wd av ws r P) (ex : va_W) {Q : va_W → Prop} (hQ : ∀ w, P w → Q (w ++ ex)) : KM l D cI cB cZ cO y wd av (ws ++ ex) r Q := fun sz => by
  obtain ⟨fr, lo, mc, ms, hb, hM⟩ := h sz
  refine ⟨fr, lo, mc, ms, hb, MetFree.mono hM (fun a s hp => ⟨hp.1, hp.2.1, hp.2.2.1, fun k q hk => hp.2.2.2.1 k q (get_l hk), va_D_l hp.2.2.2.2⟩) (fun _ _ _ _ _ z => z) (fun a s o t hq0 hq => ?_)⟩
  obtain ⟨⟨u, q1, q2, q3, q4, q5⟩, L, q6, q7⟩ := hq
  have hz : s.heap.size = sz := hq0.2.1
  have hPw : va_P D vwCl (ws ++ ex) s.heap := hq0.2.2.2.1
  have hDw : va_D (fun _ => True) (ws ++ ex) := hq0.2.2.2.2
  rw [← hz] at q4 q5 q7 ⊢
  have hF : ∀ q, va_A ws s.heap.size q → va_A (ws ++ ex) s.heap.size q := fun q hq => by
    rcases hq with ⟨k, e, hk⟩ | hq
    · exact Or.inl ⟨k, e, get_l hk⟩
    · exact Or.inr hq
  have apart : ∀ (k : Nat) (q : Nat × va_E), ex[k]? = some q → q.1 < s.heap.size ∧ ¬ va_A ws s.heap.size q.1 := fun k q hk => by
    have hl := (hPw _ q (get_r hk)).lt
    refine ⟨hl, fun z => ?_⟩
    rcases z with ⟨i, e, hi⟩ | z
    · exact va_D_x hDw hi hk rfl
    · omega
  refine ⟨⟨u ++ ex, q1, hQ u q2, va_P.app q3 (fun k q hk => (hPw _ q (get_r hk)).kept (q5.2 q.1 (apart k q hk).1 (apart k q hk).2)), va_D.app (q4.weaken (fun k q _ z => hF q.1 z)) (va_D_r (hDw.self (sz := s.heap.size))) (fun i j p q hi hj e => ?_), q5.1, fun q a1 a2 => q5.2 q a1 (fun z => a2 (hF q z))⟩, L, q6, fun q hq => hF _ (q7 q hq)⟩
  exact (apart j q hj).2 (by rw [← e]; exact q4.2 i p hi)
theorem KM.imp (h : KM l D cI cB cZ cO y wd av ws r P) {Q : va_W → Prop} (hQ : ∀ w, P w → Q w) : KM l D cI cB cZ cO y wd av ws r Q := fun sz => by
  obtain ⟨fr, lo, mc, ms, hb, hM⟩ := h sz
  refine ⟨fr, lo, mc, ms, hb, MetFree.mono hM (fun a s hp => hp) (fun _ _ _ _ _ z => z) (fun a s o t _ hq => ?_)⟩
  obtain ⟨⟨u, q1, q2, q3⟩, q4⟩ := hq
  exact ⟨⟨u, q1, hQ u q2, q3⟩, q4⟩
end KMS
theorem room_mono {s : State} {pl : Platform} {r r' : Room} (hf : r.frames ≤ r'.frames) (hl : r.locals ≤ r'.locals) (hc : r.cells ≤ r'.cells) (hs : r.slots ≤ r'.slots) (h : s.hasRoom pl r' = true) : s.hasRoom pl r = true := by
  simp only [State.hasRoom, Bool.and_eq_true, decide_eq_true_eq] at h ⊢
  obtain ⟨⟨⟨⟨y, a, b, c, d, e⟩, f⟩, g⟩, i⟩ := h
  exact ⟨⟨⟨⟨by omega, by omega, by omega, by omega, by omega, e⟩, by omega⟩, by omega⟩, i⟩
section MXS
variable {l : Launch} {D : va_G} {cI cB cZ cO : ClassId} {y : MethodName} {wd : List Cond} {av : List Value} {ws wc wr : va_W} {r : Int} {fr lo fr' lo' mc ms sz : Nat} {S S1 : Type} {val : S → Option Value} {post : S → Prop} {wo : S → va_W} {val1 : S1 → Option Value} {post1 : S1 → Prop} {wo1 : S1 → va_W}
theorem Met_room {Pc : Array Value → State → Prop} {Qc : Array Value → State → Outcome → State → Prop} {free : Addr → Prop} (h : Met l y wd ({ frames := fr, cells := mc, slots := ms, locals := lo }) Pc Qc mc ms free) (hf : fr ≤ fr') (hl : lo ≤ lo') : Met l y wd ({ frames := fr', cells := mc, slots := ms, locals := lo' }) Pc Qc mc ms free := by
  intro p e ha hcs hk s m args below hfr happ hP hK
  obtain ⟨a1, a2, a3, a4, a5, a6, a7, a8⟩ := (Spec.appliesLoose_iff hfr).mp happ
  exact h p e ha hcs hk s m args below hfr ((Spec.appliesLoose_iff hfr).mpr ⟨a1, a2, a3, a4, a5, a6, room_mono (r' := { frames := fr', cells := mc, slots := ms, locals := lo' }) hf hl (Nat.le_refl _) (Nat.le_refl _) a7, a8⟩) hP hK
theorem MX_ofO (h : Met l y wd ({ frames := fr, cells := 0, slots := 0, locals := lo }) (va_Pc av (RO D cI cB cZ cO wc)) (QO r) 0 0 (fun _ => False)) (hb : fr ≤ fr' ∧ lo ≤ lo') (is : List Nat) (hs : is.filterMap (fun i => ws[i]?) = wc) (u : S) (hv : val u = some (.int (iI r))) (hp : post u) (hw : wo u = ws) : Met l y wd ({ frames := fr', cells := 0, slots := 0, locals := lo' }) (va_Pc av (RW D cI cB cZ cO sz ws)) (QX D val post wo (va_A ws sz)) 0 0 (va_A ws sz) :=
  Met_room (MetFree.mono h (fun a s hp => ⟨hp.1, hp.2.2.1, hp.2.2.2.1.sub is hs⟩) (fun _ _ _ _ _ z => z) (fun a s o t hq0 hq => by
    obtain ⟨⟨q1, q2⟩, L, q3, q4⟩ := hq
    exact ⟨⟨u, by rw [q1, hv], hp, by rw [q2, hw]; exact hq0.2.2.2.1, by rw [hw]; exact hq0.2.2.2.2.self, by rw [q2]; exact Nat.le_refl _, fun q _ _ => by rw [q2]⟩, L, q3, fun q hq => absurd (q4 q hq) (fun z => z)⟩)) hb.1 hb.2
theorem MX_ofX (h : Met l y wd ({ frames := fr, cells := mc, slots := ms, locals := lo }) (va_Pc av (RW D cI cB cZ cO sz wc)) (QX D val1 post1 wo1 (va_A wc sz)) mc ms (va_A wc sz)) (hb : fr ≤ fr' ∧ lo ≤ lo') (is iR ip : List Nat) (hs : is.map (fun i => ws[i]?) = wc.map some) (hsn : va_nd is = true) (hRr : iR.map (fun i => ws[i]?) = wr.map some) (hnn : va_nd iR = true) (hdis : ∀ i ∈ iR, i ∉ is) (hnp : va_nd ip = true)
    (hu : ∀ u1, post1 u1 → ∃ u, val u = val1 u1 ∧ post u ∧ ip.map (fun i => (wr ++ wo1 u1)[i]?) = (wo u).map some) : Met l y wd ({ frames := fr', cells := mc, slots := ms, locals := lo' }) (va_Pc av (RW D cI cB cZ cO sz ws)) (QX D val post wo (va_A ws sz)) mc ms (va_A ws sz) :=
  Met_room (MetFree.mono h (fun a s hp => ⟨hp.1, hp.2.1, hp.2.2.1, wsub hp.2.2.2.1 is hs, hp.2.2.2.2.sub is hsn hs⟩) (fun _ _ _ _ _ z => z) (fun a s o t hq0 hq => by
    obtain ⟨⟨u1, q1, q2, q3, q4, q5⟩, L, q6, q7⟩ := hq
    obtain ⟨u, v1, v2, v3⟩ := hu u1 q2
    have hz : s.heap.size = sz := hq0.2.1
    have hPw : va_P D vwCl ws s.heap := hq0.2.2.2.1
    have hDw : va_D (va_A ws s.heap.size) ws := hq0.2.2.2.2.self
    rw [← hz] at q4 q5 q7 ⊢
    have hF : ∀ q, va_A wc s.heap.size q → va_A ws s.heap.size q := va_free hDw va_S.rf (fun q hq => Or.inr hq) is hs
    obtain ⟨hP2, hD2⟩ := va_join hPw hDw is iR hs hRr hnn hdis (fun q a1 a2 => q5.2 q a1 a2) hF q3 q4
    exact ⟨⟨u, by rw [q1, v1], v2, wsub hP2 ip v3, hD2.sub ip hnp v3, q5.1, fun q a1 a2 => q5.2 q a1 (fun z => a2 (hF q z))⟩, L, q6, fun q hq => hF _ (q7 q hq)⟩)) hb.1 hb.2
end MXS
