/-! machine ints as images of Int: iI t; in the range rg the comparisons are Int's own -/
def iI (t : Int) : Int32 := Int32.ofInt t
abbrev rg (t : Int) : Prop := -2147483648 ≤ t ∧ t < 2147483648
theorem iI_toInt {t : Int} (h : rg t) : (iI t).toInt = t := Int32.toInt_ofInt_of_le (by have := h.1; omega) (by have := h.2; omega)
theorem iI_self (x : Int32) : iI x.toInt = x := Int32.ofInt_toInt x
theorem rg_self (x : Int32) : rg x.toInt := ⟨by have := x.le_toInt; omega, by have := x.toInt_lt; omega⟩
theorem iI_ex (x : Int32) : ∃ t : Int, rg t ∧ x = iI t := ⟨x.toInt, rg_self x, (iI_self x).symm⟩
theorem ii {a b : Int} (h : a = b) : iI a = iI b := by rw [h]
theorem iI_add (a b : Int) : iI a + iI b = iI (a + b) := (Int32.ofInt_add a b).symm
theorem iI_sub (a b : Int) : iI a - iI b = iI (a - b) := (Int32.ofInt_sub a b).symm
theorem iI_mul (a b : Int) : iI a * iI b = iI (a * b) := (Int32.ofInt_mul a b).symm
theorem iI_neg (a : Int) : - iI a = iI (-a) := (Int32.ofInt_neg a).symm
theorem iI_lt {a b : Int} (ha : rg a) (hb : rg b) : iI a < iI b ↔ a < b := by rw [Int32.lt_iff_toInt_lt, iI_toInt ha, iI_toInt hb]
theorem iI_le {a b : Int} (ha : rg a) (hb : rg b) : iI a ≤ iI b ↔ a ≤ b := by rw [Int32.le_iff_toInt_le, iI_toInt ha, iI_toInt hb]
theorem iI_eq {a b : Int} (ha : rg a) (hb : rg b) : iI a = iI b ↔ a = b := by rw [← Int32.toInt_inj, iI_toInt ha, iI_toInt hb]
theorem iI_0 : iI 0 = 0 := rfl
theorem iI_n (k : Nat) : iI (k : Int) = nI k := Int32.ofInt_eq_ofNat
theorem iI_clamp {k : Nat} (h : k < 2 ^ 31) : (iI (k : Int)).toNatClampNeg = k := by rw [iI_n]; exact nI_clamp h
theorem iI_in {k n : Nat} (h : k < n) (hn : n < 2 ^ 31) : vp_in (iI (k : Int)) n := by rw [iI_n]; exact vp_in_nI h hn
theorem nI_bv (a : Nat) : (nI a).toBitVec = BitVec.ofNat 32 a := rfl
theorem iI_and (a b : Nat) : iI (a : Int) &&& iI (b : Int) = iI ((a &&& b : Nat) : Int) := by
  rw [iI_n, iI_n, iI_n]
  exact Int32.toBitVec.inj (by rw [Int32.toBitVec_and, nI_bv, nI_bv, nI_bv, BitVec.ofNat_and])
theorem iI_or (a b : Nat) : iI (a : Int) ||| iI (b : Int) = iI ((a ||| b : Nat) : Int) := by
  rw [iI_n, iI_n, iI_n]
  exact Int32.toBitVec.inj (by rw [Int32.toBitVec_or, nI_bv, nI_bv, nI_bv, BitVec.ofNat_or])
/-- a without b -/
def nd (a b : Nat) : Nat := a ^^^ (a &&& b)
theorem nd_bit (a b i : Nat) : (nd a b).testBit i = (a.testBit i && !b.testBit i) := by
  unfold nd
  rw [Nat.testBit_xor, Nat.testBit_and]
  cases a.testBit i <;> cases b.testBit i <;> rfl
theorem i32_not (x : Int32) : x ^^^ (-1) = -1 - x := by
  apply Int32.toBitVec.inj
  rw [Int32.toBitVec_xor, Int32.toBitVec_sub]
  show x.toBitVec ^^^ (BitVec.allOnes 32) = BitVec.allOnes 32 - x.toBitVec
  rw [BitVec.xor_allOnes, BitVec.allOnes_sub_eq_not]
theorem iI_not (b : Int) : iI b ^^^ iI (-1) = iI (-1 - b) := by
  rw [← iI_sub]
  exact i32_not (iI b)
theorem iI_nd (a b : Nat) : iI (a : Int) &&& iI (-1 - (b : Int)) = iI ((nd a b : Nat) : Int) := by
  rw [← iI_not, iI_n, iI_n, iI_n]
  apply Int32.toBitVec.inj
  rw [Int32.toBitVec_and, Int32.toBitVec_xor, nI_bv, nI_bv, nI_bv]
  show BitVec.ofNat 32 a &&& (BitVec.ofNat 32 b ^^^ BitVec.allOnes 32) = BitVec.ofNat 32 (nd a b)
  apply BitVec.eq_of_getLsbD_eq
  intro i hi
  rw [BitVec.getLsbD_and, BitVec.getLsbD_xor, BitVec.getLsbD_ofNat, BitVec.getLsbD_ofNat, BitVec.getLsbD_ofNat, BitVec.getLsbD_allOnes, nd_bit]
  simp [hi]
theorem i32_shl1 : ∀ k : Fin 32, (1 : Int32) <<< (nI k.val &&& 31) = nI (2 ^ k.val) := by decide +kernel
theorem iI_shl1 {k : Nat} (h : k < 32) : iI 1 <<< (iI (k : Int) &&& 31) = iI ((2 ^ k : Nat) : Int) := by
  rw [iI_n, iI_n]
  exact i32_shl1 ⟨k, h⟩
theorem i32_sl : ∀ n, n < 32 → ((nI n &&& 31).toBitVec.smod 32).toNat = n := by decide +kernel
theorem iI_shr {a k : Nat} (ha : a < 2 ^ 31) (h : k < 32) : iI (a : Int) >>> (iI (k : Int) &&& 31) = iI ((a >>> k : Nat) : Int) := by
  rw [iI_n, iI_n, iI_n]
  apply Int32.toBitVec.inj
  show (nI a).toBitVec.sshiftRight' ((nI k &&& 31).toBitVec.smod 32) = (nI (a >>> k)).toBitVec
  rw [BitVec.sshiftRight', i32_sl k h, nI_bv, nI_bv]
  have hm : (BitVec.ofNat 32 a).msb = false := by
    rw [BitVec.msb_eq_false_iff_two_mul_lt, BitVec.toNat_ofNat]
    omega
  rw [BitVec.sshiftRight_eq_of_msb_false hm]
  apply BitVec.eq_of_toNat_eq
  rw [BitVec.toNat_ushiftRight, BitVec.toNat_ofNat, BitVec.toNat_ofNat, Nat.mod_eq_of_lt (by omega), Nat.mod_eq_of_lt]
  exact Nat.lt_of_le_of_lt (Nat.shiftRight_le a k) (by omega)
theorem iI_div {a d : Nat} (ha : a < 2 ^ 31) (h0 : 0 < d) (hd : d < 2 ^ 31) : iI (a : Int) / iI (d : Int) = iI ((a / d : Nat) : Int) := by
  rw [iI_n, iI_n, iI_n]
  apply Int32.toInt_inj.mp
  have hq : a / d < 2 ^ 31 := Nat.lt_of_le_of_lt (Nat.div_le_self a d) ha
  rw [Int32.toInt_div_of_ne_right _ _ (fun h => by have := congrArg Int32.toInt h; rw [nI_toInt hd] at this; have h2 : ((-1 : Int32)).toInt = -1 := rfl; rw [h2] at this; omega), nI_toInt ha, nI_toInt hd, nI_toInt hq]
  exact (Int.ofNat_tdiv a d).symm
theorem tb1 (a e : Nat) : (a >>> e) &&& 1 = 1 ↔ a.testBit e = true := by
  rw [Nat.and_one_is_mod, Nat.testBit_eq_decide_div_mod_eq, Nat.shiftRight_eq_div_pow, decide_eq_true_iff]
theorem tb0 (a e : Nat) : (a >>> e) &&& 1 = 0 ↔ a.testBit e = false := by
  rw [Nat.and_one_is_mod, Nat.testBit_eq_decide_div_mod_eq, Nat.shiftRight_eq_div_pow, decide_eq_false_iff_not]
  omega
/-- a condition as the machine's 0 or 1 -/
def bI (P : Prop) [Decidable P] : Int := if P then 1 else 0
theorem bI_t {P : Prop} [Decidable P] (h : P) : bI P = 1 := if_pos h
theorem bI_f {P : Prop} [Decidable P] (h : ¬ P) : bI P = 0 := if_neg h
theorem bI_01 (P : Prop) [Decidable P] : bI P = 0 ∨ bI P = 1 := by unfold bI; split <;> simp
theorem bI_c {P Q : Prop} [Decidable P] [Decidable Q] (h : P ↔ Q) : bI P = bI Q := by
  by_cases hp : P
  · rw [bI_t hp, bI_t (h.mp hp)]
  · rw [bI_f hp, bI_f (fun q => hp (h.mpr q))]
/-- rows of ints and of naturals -/
def rI (f : Nat → Int) : Nat → Int32 := fun k => iI (f k)
def rN (f : Nat → Nat) : Nat → Int32 := fun k => iI (f k : Int)
def up {α : Type} (f : Nat → α) (k : Nat) (v : α) : Nat → α := fun j => if j = k then v else f j
theorem up_same {α : Type} (f : Nat → α) (k : Nat) (v : α) : up f k v k = v := if_pos rfl
theorem up_ne {α : Type} (f : Nat → α) {k j : Nat} (v : α) (h : j ≠ k) : up f k v j = f j := if_neg h
theorem upd_rI (f : Nat → Int) (k : Nat) (v : Int) : upd (rI f) k (iI v) = rI (up f k v) := by
  funext j; unfold upd rI up; split <;> rfl
theorem upd_rN (f : Nat → Nat) (k v : Nat) : upd (rN f) k (iI (v : Int)) = rN (up f k v) := by
  funext j; unfold upd rN up; split <;> rfl
/-- the first d of g, then f -/
def preF (f g : Nat → Nat) (d : Nat) : Nat → Nat := fun j => if j < d then g j else f j
