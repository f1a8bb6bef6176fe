
/-! more words: folds, first places, insertions into rows -/
def orF (g : Nat → Nat) : Nat → Nat
  | 0 => 0
  | n + 1 => orF g n ||| g n
theorem or16 {a b : Nat} (ha : a < 65536) (hb : b < 65536) : a ||| b < 65536 := @Nat.or_lt_two_pow a b 16 ha hb
theorem orF_lt {g : Nat → Nat} {n : Nat} (h : ∀ k, k < n → g k < 65536) : orF g n < 65536 := by
  induction n with
  | zero => exact Nat.lt_of_lt_of_le (Nat.zero_lt_one) (by omega)
  | succ n ih => exact or16 (ih (fun k hk => h k (by omega))) (h n (by omega))
theorem orF_congr {g q : Nat → Nat} {n : Nat} (h : ∀ k, k < n → g k = q k) : orF g n = orF q n := by
  induction n with
  | zero => rfl
  | succ n ih => show orF g n ||| g n = orF q n ||| q n; rw [ih (fun k hk => h k (by omega)), h n (by omega)]
theorem pow16 {e : Nat} (h : e < 16) : 2 ^ e < 65536 := Nat.pow_lt_pow_right (by omega) (show e < 16 from h)
theorem rg_nat {a b : Nat} (h : a ≤ b) (hb : b < 2147483648) : rg (a : Int) := ⟨by omega, by omega⟩
def dep (ba : Nat → Nat) (n st : Nat) : Nat := orF (fun e => if ba e &&& st = 0 then 0 else 2 ^ e) n
theorem dep_t {ba : Nat → Nat} {n st : Nat} (h : ¬ ba n &&& st = 0) : dep ba (n + 1) st = dep ba n st ||| 2 ^ n := by
  show dep ba n st ||| (if ba n &&& st = 0 then 0 else 2 ^ n) = _; rw [if_neg h]
theorem dep_f {ba : Nat → Nat} {n st : Nat} (h : ba n &&& st = 0) : dep ba (n + 1) st = dep ba n st := by
  show dep ba n st ||| (if ba n &&& st = 0 then 0 else 2 ^ n) = _; rw [if_pos h, Nat.or_zero]
theorem dep_lt {ba : Nat → Nat} {n st : Nat} (h : n ≤ 16) : dep ba n st < 65536 := orF_lt (fun k hk => by split; omega; exact pow16 (by omega))
abbrev ct (ba : Nat → Nat) (ed ac st : Nat) : Prop := nd st ac = 0 ∧ nd (dep ba ed st &&& ac) st = 0
def nee (ba : Nat → Nat) (st n : Nat) : Nat := orF (fun e => if st.testBit e = true then ba e else 0) n
theorem nee_t {ba : Nat → Nat} {n st : Nat} (h : st.testBit n = true) : nee ba st (n + 1) = nee ba st n ||| ba n := by
  show nee ba st n ||| (if st.testBit n = true then ba n else 0) = _; rw [if_pos h]
theorem nee_f {ba : Nat → Nat} {n st : Nat} (h : ¬ st.testBit n = true) : nee ba st (n + 1) = nee ba st n := by
  show nee ba st n ||| (if st.testBit n = true then ba n else 0) = _; rw [if_neg h, Nat.or_zero]
theorem nee_lt {ba : Nat → Nat} {n st : Nat} (h : ∀ k, ba k < 65536) : nee ba st n < 65536 := orF_lt (fun k hk => by split; exact h k; omega)
def lse (ba : Nat → Nat) (ed ac n : Nat) : Nat := orF (fun e => if ct ba ed ac (2 ^ e) then 2 ^ e else 0) n
theorem lse_t {ba : Nat → Nat} {ed ac n : Nat} (h : ct ba ed ac (2 ^ n)) : lse ba ed ac (n + 1) = lse ba ed ac n ||| 2 ^ n := by
  show lse ba ed ac n ||| (if ct ba ed ac (2 ^ n) then 2 ^ n else 0) = _; rw [if_pos h]
theorem lse_f {ba : Nat → Nat} {ed ac n : Nat} (h : ¬ ct ba ed ac (2 ^ n)) : lse ba ed ac (n + 1) = lse ba ed ac n := by
  show lse ba ed ac n ||| (if ct ba ed ac (2 ^ n) then 2 ^ n else 0) = _; rw [if_neg h, Nat.or_zero]
abbrev fre (ba : Nat → Nat) (a b : Nat) : Prop := ¬ (ba a).testBit b = true ∧ ¬ (ba b).testBit a = true
def freb (ba : Nat → Nat) (b a : Nat) : Bool := decide (fre ba a b)
def cpF (ba : Nat → Nat) : Nat → Nat
  | 0 => 0
  | n + 1 => cpF ba n + cnt (freb ba n) n
theorem cnt_t {p : Nat → Bool} {k : Nat} (h : p k = true) : cnt p (k + 1) = cnt p k + 1 := by
  show cnt p k + (if p k = true then 1 else 0) = _; rw [if_pos h]
theorem cnt_f {p : Nat → Bool} {k : Nat} (h : ¬ p k = true) : cnt p (k + 1) = cnt p k := by
  show cnt p k + (if p k = true then 1 else 0) = _; rw [if_neg h, Nat.add_zero]
def tch (ow er : Nat → Nat) (e k : Nat) : Bool := (ow k ||| er k).testBit e
/-- the first place below n with p, or n -/
def fsF (p : Nat → Bool) : Nat → Nat
  | 0 => 0
  | n + 1 => if fsF p n < n then fsF p n else if p n = true then n else n + 1
theorem fsF_le (p : Nat → Bool) (n : Nat) : fsF p n ≤ n := by
  induction n with
  | zero => exact Nat.le_refl 0
  | succ n ih => unfold fsF; split; omega; split <;> omega
theorem fsF_eq {p : Nat → Bool} {n k : Nat} (h : ∀ j, j < k → ¬ p j = true) (hk : k ≤ n) (hp : k < n → p k = true) : fsF p n = k := by
  induction n with
  | zero => show 0 = k; omega
  | succ n ih =>
    unfold fsF
    by_cases hkn : k ≤ n
    · rcases Nat.lt_or_eq_of_le hkn with q | q
      · have e := ih hkn (fun _ => hp (by omega)); rw [e, if_pos q]
      · have e := ih hkn (fun z => by omega); rw [e, q, if_neg (Nat.lt_irrefl n), if_pos (by have := hp (by omega); rw [q] at this; exact this)]
    · have e : k = n + 1 := by omega
      have hn : fsF p n = n := by
        have key : ∀ m, m ≤ n → fsF p m = m := by
          intro m
          induction m with
          | zero => intro _; rfl
          | succ m im => intro hm; unfold fsF; rw [im (by omega), if_neg (Nat.lt_irrefl m), if_neg (h m (by omega))]
        exact key n (Nat.le_refl n)
      rw [hn, if_neg (Nat.lt_irrefl n), if_neg (h n (by omega)), e]
def plc (ow er : Nat → Nat) (tt ac e : Nat) : Nat := cnt (visb ow er ac) (fsF (tch ow er e) tt)
def prc (ow er : Nat → Nat) (tt ac cu ag di e : Nat) : Nat := 1 + ag * popc (ac >>> (e + 1)) + di * (((plc ow er tt ac e : Int) - (cu : Int)).natAbs / 4)
def sumF (g : Nat → Nat) : Nat → Nat
  | 0 => 0
  | n + 1 => sumF g n + g n
def psm (g : Nat → Nat) (st n : Nat) : Nat := sumF (fun e => if st.testBit e = true then g e else 0) n
theorem psm_t {g : Nat → Nat} {st n : Nat} (h : st.testBit n = true) : psm g st (n + 1) = psm g st n + g n := by
  show psm g st n + (if st.testBit n = true then g n else 0) = _; rw [if_pos h]
theorem psm_f {g : Nat → Nat} {st n : Nat} (h : ¬ st.testBit n = true) : psm g st (n + 1) = psm g st n := by
  show psm g st n + (if st.testBit n = true then g n else 0) = _; rw [if_neg h, Nat.add_zero]
def bth (ba : Nat → Nat) (w : Nat) : Nat := if w = 0 then 0 else w ||| ba (popc (w - 1))
theorem bth_0 {ba : Nat → Nat} {w : Nat} (h : w = 0) : bth ba w = 0 := if_pos h
theorem bth_1 {ba : Nat → Nat} {w : Nat} (h : ¬ w = 0) : bth ba w = w ||| ba (popc (w - 1)) := if_neg h
/-- how many follow one another from a on, below n -/
def stp (q : Nat → Bool) (a n : Nat) : Nat := fsF (fun j => !q (a + j)) (n - a)
abbrev isO (ow ix : Nat → Nat) (w j : Nat) : Bool := decide (ow (ix j) = w)
/-- the rows' shift by c from b on -/
def shF (f : Nat → Nat) (b c t : Nat) : Nat → Nat := fun j => if b + c ≤ j ∧ j < t + c then f (j - c) else f j
theorem shF_at {f : Nat → Nat} {b c t : Nat} : shF f (b + 1) c t b = f b := if_neg (by omega)
theorem shF_up {f : Nat → Nat} {b c t : Nat} (h : b < t) : up (shF f (b + 1) c t) (b + c) (shF f (b + 1) c t b) = shF f b c t := by
  funext j
  rw [shF_at]
  unfold up shF
  by_cases h1 : j = b + c
  · rw [if_pos h1, if_pos (by omega), show j - c = b by omega]
  · rw [if_neg h1]
    by_cases h2 : b + 1 + c ≤ j ∧ j < t + c
    · rw [if_pos h2, if_pos (by omega)]
    · rw [if_neg h2, if_neg (by omega)]
theorem shF_0 {f : Nat → Nat} {c t : Nat} : shF f t c t = f := by
  funext j; exact if_neg (by omega)
def ixOK (p : Nat → Bool) (n : Nat) (ix : Nat → Nat) : Prop := ∀ j, j < cnt p n → ix j < n ∧ p (ix j) = true ∧ cnt p (ix j) = j
theorem ixOK_0 {p : Nat → Bool} {ix : Nat → Nat} : ixOK p 0 ix := fun j h => absurd h (Nat.not_lt_zero j)
theorem ixOK_t {p : Nat → Bool} {n : Nat} {ix : Nat → Nat} (h : ixOK p n ix) (hp : p n = true) : ixOK p (n + 1) (up ix (cnt p n) n) := by
  intro j hj
  rw [cnt_t hp] at hj
  unfold up
  by_cases e : j = cnt p n
  · rw [if_pos e]; exact ⟨by omega, hp, e.symm⟩
  · rw [if_neg e]; obtain ⟨h1, h2, h3⟩ := h j (by omega); exact ⟨by omega, h2, h3⟩
theorem ixOK_f {p : Nat → Bool} {n : Nat} {ix : Nat → Nat} (h : ixOK p n ix) (hp : ¬ p n = true) : ixOK p (n + 1) ix := by
  intro j hj
  rw [cnt_f hp] at hj
  obtain ⟨h1, h2, h3⟩ := h j hj; exact ⟨by omega, h2, h3⟩
theorem ixOK_e {p : Nat → Bool} {k n : Nat} {ix : Nat → Nat} (h : ixOK p k ix) (hk : k ≤ n) (he : cnt p k = cnt p n) : ixOK p n ix := by
  intro j hj
  rw [← he] at hj
  obtain ⟨h1, h2, h3⟩ := h j hj; exact ⟨by omega, h2, h3⟩
theorem vis_t {ow er : Nat → Nat} {act k : Nat} (h : vis ow er act k) : visb ow er act k = true := decide_eq_true h
theorem vis_f {ow er : Nat → Nat} {act k : Nat} (h : ¬ vis ow er act k) : ¬ visb ow er act k = true := fun q => h (of_decide_eq_true q)
theorem up_lt {f : Nat → Nat} {k v N : Nat} (h : ∀ j, f j < N) (hv : v < N) : ∀ j, up f k v j < N := by
  intro j; unfold up; split; exact hv; exact h j
/-- bits of an erasure, laid one place after the other -/
def erR (er ix : Nat → Nat) (e f : Nat) : Nat → Nat → Nat
  | 0 => er
  | d + 1 => up (erR er ix e f d) (ix (f + d)) (erR er ix e f d (ix (f + d)) ||| 2 ^ e)
theorem erR_lt {er ix : Nat → Nat} {e f : Nat} (h : ∀ k, er k < 65536) (he : e < 16) : ∀ d k, erR er ix e f d k < 65536 := by
  intro d
  induction d with
  | zero => exact h
  | succ d ih => exact up_lt ih (or16 (ih _) (pow16 he))
def bthR (ba ow ix : Nat → Nat) (f d : Nat) : Nat := orF (fun j => bth ba (ow (ix (f + j)))) d
/-- c characters put at st, the rest moved behind them -/
def insF (f : Nat → Nat) (st c t : Nat) (g : Nat → Nat) : Nat → Nat := fun j => if st ≤ j ∧ j < st + c then g (j - st) else if st + c ≤ j ∧ j < t + c then f (j - c) else f j
/-- while they are put: d of them stand -/
def inR (f : Nat → Nat) (st : Nat) (g : Nat → Nat) (d : Nat) : Nat → Nat := fun j => if st ≤ j ∧ j < st + d then g (j - st) else f j
theorem inR_0 {f g : Nat → Nat} {st : Nat} : inR f st g 0 = f := by funext j; exact if_neg (by omega)
theorem inR_s {f g : Nat → Nat} {st d v : Nat} (hv : g d = v) : up (inR f st g d) (st + d) v = inR f st g (d + 1) := by
  funext j; unfold up inR
  by_cases h1 : j = st + d
  · rw [if_pos h1, if_pos (by omega), show j - st = d by omega, hv]
  · rw [if_neg h1]
    by_cases h2 : st ≤ j ∧ j < st + d
    · rw [if_pos h2, if_pos (by omega)]
    · rw [if_neg h2, if_neg (by omega)]
theorem inR_sh {f g : Nat → Nat} {st c t : Nat} : inR (shF f st c t) st g c = insF f st c t g := rfl
