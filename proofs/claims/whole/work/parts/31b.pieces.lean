
theorem in_lay {big : List Cond} {C : String} {T : u_T} {N : Nat} (i : Nat) (h : (big.drop i).take N = u_ws C T N) : ∀ w ∈ u_ws C T N, w ∈ big := fun w hw => by
  rw [← h] at hw
  exact List.mem_of_mem_drop (List.mem_of_mem_take hw)
/-! pieces: neighbours that are visible under the same conditions -/
def pvb (po ph : Nat → Nat) (st i : Nat) : Bool := decide (po i &&& st = 0 ∧ nd (ph i) st = 0)
abbrev mat (ow co : Nat → Nat) (ac kd va k : Nat) : Prop := nd (ow k) ac = 0 ∧ (kd = 1 → co k = va)
def mvb (ow er co : Nat → Nat) (ac kd va st k : Nat) : Bool := decide (mat ow co ac kd va k ∧ ow k &&& st = 0 ∧ nd (er k &&& ac) st = 0)
def sumV (p : Nat → Bool) (g : Nat → Nat) : Nat → Nat
  | 0 => 0
  | n + 1 => sumV p g n + (if p n = true then g n else 0)
theorem sumV_t {p : Nat → Bool} {g : Nat → Nat} {n : Nat} (h : p n = true) : sumV p g (n + 1) = sumV p g n + g n := by
  show sumV p g n + (if p n = true then g n else 0) = _; rw [if_pos h]
theorem sumV_f {p : Nat → Bool} {g : Nat → Nat} {n : Nat} (h : ¬ p n = true) : sumV p g (n + 1) = sumV p g n := by
  show sumV p g n + (if p n = true then g n else 0) = _; rw [if_neg h, Nat.add_zero]
theorem sumV_congr {p q : Nat → Bool} {g f : Nat → Nat} {n : Nat} (h : ∀ k, k < n → p k = q k ∧ g k = f k) : sumV p g n = sumV q f n := by
  induction n with
  | zero => rfl
  | succ n ih => show sumV p g n + _ = sumV q f n + _; rw [ih (fun k hk => h k (by omega)), (h n (by omega)).1, (h n (by omega)).2]
theorem fsF_congr {p q : Nat → Bool} {n : Nat} (h : ∀ k, k < n → p k = q k) : fsF p n = fsF q n := by
  induction n with
  | zero => rfl
  | succ n ih => show (if fsF p n < n then fsF p n else _) = (if fsF q n < n then fsF q n else _); rw [ih (fun k hk => h k (by omega)), h n (by omega)]
abbrev sam (po ph : Nat → Nat) (np w h : Nat) : Prop := 0 < np ∧ po (np - 1) = w ∧ ph (np - 1) = h
def ADD (po ph ps pf : Nat → Nat) (np w h x : Nat) (po2 ph2 ps2 pf2 : Nat → Nat) (np2 : Nat) : Prop := (sam po ph np w h ∧ po2 = po ∧ ph2 = ph ∧ ps2 = up ps (np - 1) (ps (np - 1) + 1) ∧ pf2 = pf ∧ np2 = np) ∨ (¬ sam po ph np w h ∧ po2 = up po np w ∧ ph2 = up ph np h ∧ ps2 = up ps np 1 ∧ pf2 = up pf np x ∧ np2 = np + 1)
def PCI (ow er co : Nat → Nat) (ac kd va n : Nat) (po ph ps pf : Nat → Nat) (np : Nat) : Prop := np ≤ n ∧ (∀ st, sumV (pvb po ph st) ps np = cnt (mvb ow er co ac kd va st) n) ∧ ∀ st, (fsF (pvb po ph st) np < np ↔ fsF (mvb ow er co ac kd va st) n < n) ∧ (fsF (pvb po ph st) np < np → pf (fsF (pvb po ph st) np) = co (fsF (mvb ow er co ac kd va st) n))
theorem PCI_0 {ow er co : Nat → Nat} {ac kd va : Nat} {po ph ps pf : Nat → Nat} : PCI ow er co ac kd va 0 po ph ps pf 0 := ⟨Nat.le_refl 0, fun _ => rfl, fun _ => ⟨Iff.rfl, fun h => absurd h (Nat.not_lt_zero _)⟩⟩
theorem PCI_skip {ow er co : Nat → Nat} {ac kd va n : Nat} {po ph ps pf : Nat → Nat} {np : Nat} (h : PCI ow er co ac kd va n po ph ps pf np) (hm : ∀ st, ¬ mvb ow er co ac kd va st n = true) : PCI ow er co ac kd va (n + 1) po ph ps pf np := by
  refine ⟨by have := h.1; omega, fun st => by rw [cnt_f (hm st)]; exact h.2.1 st, fun st => ?_⟩
  obtain ⟨h1, h2⟩ := h.2.2 st
  by_cases q : fsF (mvb ow er co ac kd va st) n < n
  · rw [fs_keep q]; exact ⟨⟨fun _ => by omega, fun _ => h1.mpr q⟩, h2⟩
  · rw [fs_none (hm st) q]; exact ⟨⟨fun z => absurd (h1.mp z) q, fun z => by omega⟩, fun z => absurd (h1.mp z) q⟩
theorem PCI_add {ow er co : Nat → Nat} {ac kd va n : Nat} {po ph ps pf po2 ph2 ps2 pf2 : Nat → Nat} {np np2 : Nat} (h : PCI ow er co ac kd va n po ph ps pf np) (hm : mat ow co ac kd va n) (ha : ADD po ph ps pf np (ow n) (er n &&& ac) (co n) po2 ph2 ps2 pf2 np2) : PCI ow er co ac kd va (n + 1) po2 ph2 ps2 pf2 np2 := by
  have key : ∀ st, (mvb ow er co ac kd va st n = true ↔ (ow n &&& st = 0 ∧ nd (er n &&& ac) st = 0)) := fun st => by
    unfold mvb; rw [decide_eq_true_iff]; exact ⟨fun z => z.2, fun z => ⟨hm, z⟩⟩
  obtain ⟨g1, g2, g3⟩ := h
  rcases ha with ⟨⟨s1, s2, s3⟩, rfl, rfl, rfl, rfl, rfl⟩ | ⟨hn, rfl, rfl, rfl, rfl, rfl⟩
  · have pl : ∀ st, (pvb po2 ph2 st (np2 - 1) = true ↔ mvb ow er co ac kd va st n = true) := fun st => by
      rw [key st]; unfold pvb; rw [decide_eq_true_iff, s2, s3]
    obtain ⟨m, rfl⟩ : ∃ m, np2 = m + 1 := ⟨np2 - 1, by omega⟩
    refine ⟨by omega, fun st => ?_, fun st => ?_⟩
    · have e0 : sumV (pvb po2 ph2 st) (up ps (m + 1 - 1) (ps (m + 1 - 1) + 1)) m = sumV (pvb po2 ph2 st) ps m := sumV_congr (fun k hk => ⟨rfl, up_ne _ _ (by omega)⟩)
      have hg := g2 st
      by_cases q : mvb ow er co ac kd va st n = true
      · have q1 : pvb po2 ph2 st m = true := (pl st).mpr q
        rw [sumV_t q1] at hg ⊢
        rw [cnt_t q, ← hg, e0, show m + 1 - 1 = m by omega, up_same]; omega
      · have q1 : ¬ pvb po2 ph2 st m = true := fun z => q ((pl st).mp z)
        rw [sumV_f q1] at hg ⊢
        rw [cnt_f q, ← hg, e0]
    · obtain ⟨h1, h2⟩ := g3 st
      by_cases q : fsF (mvb ow er co ac kd va st) n < n
      · rw [fs_keep q]; exact ⟨⟨fun _ => by omega, fun _ => h1.mpr q⟩, h2⟩
      · have nq : ¬ mvb ow er co ac kd va st n = true := fun z => by
          have z1 : pvb po2 ph2 st m = true := (pl st).mpr z
          have z2 : fsF (pvb po2 ph2 st) (m + 1) < m + 1 := by
            rcases Nat.lt_or_ge (fsF (pvb po2 ph2 st) (m + 1)) (m + 1) with y | y
            · exact y
            · exact absurd z1 (@fsF_min (pvb po2 ph2 st) (m + 1) m (by omega))
          exact q (h1.mp z2)
        rw [fs_none nq q]; exact ⟨⟨fun z => absurd (h1.mp z) q, fun z => by omega⟩, fun z => absurd (h1.mp z) q⟩
  · have pn : ∀ st, (pvb (up po np (ow n)) (up ph np (er n &&& ac)) st np = true ↔ mvb ow er co ac kd va st n = true) := fun st => by
      rw [key st]; unfold pvb; rw [decide_eq_true_iff, up_same, up_same]
    have pk : ∀ st k, k < np → pvb (up po np (ow n)) (up ph np (er n &&& ac)) st k = pvb po ph st k := fun st k hk => by
      unfold pvb; rw [up_ne _ _ (by omega), up_ne _ _ (by omega)]
    refine ⟨by omega, fun st => ?_, fun st => ?_⟩
    · have e0 : sumV (pvb (up po np (ow n)) (up ph np (er n &&& ac)) st) (up ps np 1) np = sumV (pvb po ph st) ps np := sumV_congr (fun k hk => ⟨pk st k hk, up_ne _ _ (by omega)⟩)
      have hg := g2 st
      by_cases q : mvb ow er co ac kd va st n = true
      · rw [sumV_t ((pn st).mpr q), cnt_t q, e0, hg, up_same]
      · rw [sumV_f (fun z => q ((pn st).mp z)), cnt_f q, e0, hg]
    · obtain ⟨h1, h2⟩ := g3 st
      have ef : fsF (pvb (up po np (ow n)) (up ph np (er n &&& ac)) st) np = fsF (pvb po ph st) np := fsF_congr (pk st)
      by_cases q : fsF (mvb ow er co ac kd va st) n < n
      · have q2 := h1.mpr q
        rw [fs_keep q, fs_keep (by rw [ef]; exact q2), ef]
        exact ⟨⟨fun _ => by omega, fun _ => by omega⟩, fun _ => by rw [up_ne _ _ (by omega)]; exact h2 q2⟩
      · have q2 : ¬ fsF (pvb po ph st) np < np := fun z => q (h1.mp z)
        by_cases z : mvb ow er co ac kd va st n = true
        · have e1 : fsF (mvb ow er co ac kd va st) (n + 1) = n := by
            show (if fsF _ n < n then _ else if mvb ow er co ac kd va st n = true then n else n + 1) = n; rw [if_neg q, if_pos z]
          have e2 : fsF (pvb (up po np (ow n)) (up ph np (er n &&& ac)) st) (np + 1) = np := by
            show (if fsF _ np < np then _ else if pvb (up po np (ow n)) (up ph np (er n &&& ac)) st np = true then np else np + 1) = np; rw [ef, if_neg q2, if_pos ((pn st).mpr z)]
          rw [e1, e2]
          exact ⟨⟨fun _ => by omega, fun _ => by omega⟩, fun _ => by rw [up_same]⟩
        · rw [fs_none z q, fs_none (fun y => z ((pn st).mp y)) (by rw [ef]; exact q2)]
          exact ⟨⟨fun y => by omega, fun y => by omega⟩, fun y => by omega⟩
