
/-! scripts: the sign at a place, 999 behind the end; bytes -/
def tx (rc : Nat → Nat) (rl p : Nat) : Nat := if p < rl then rc p else 999
theorem tx_row {rc : Nat → Nat} {rl p : Nat} : (rowAt rc rl ((p : Nat) : Int) = ((tx rc rl p : Nat) : Int) ∧ p < rl ∧ tx rc rl p = rc p) ∨ (rowAt rc rl ((p : Nat) : Int) = -9 ∧ tx rc rl p = 999 ∧ ¬ p < rl) := by
  unfold rowAt tx
  by_cases h : p < rl
  · left; rw [if_pos (by omega), if_pos h]; exact ⟨rfl, h, rfl⟩
  · right; rw [if_neg (by omega), if_neg h]; exact ⟨rfl, rfl, h⟩
/-- a code as the byte that holds it -/
def sby (c : Nat) : Int := if c < 128 then (c : Int) else (c : Int) - 256
theorem sby_r {c : Nat} (h : c < 256) : -128 ≤ sby c ∧ sby c < 128 := by unfold sby; split <;> omega
theorem i2b_sby {c : Nat} (h : c < 256) : (iI (c : Int)).toInt8.toInt32 = iI (sby c) := by
  apply Int32.toInt_inj.mp
  have hr := sby_r h
  rw [Int8.toInt_toInt32, Int32.toInt_toInt8, iI_toInt ⟨by omega, by omega⟩, iI_toInt ⟨by omega, by omega⟩]
  unfold sby
  split
  · exact Int.bmod_eq_of_le (by omega) (by omega)
  · show (c : Int).bmod 256 = (c : Int) - 256
    have h2 := Int.add_bmod_right ((c : Int) - 256) 256
    rw [show (c : Int) - 256 + ((256 : Nat) : Int) = c by omega] at h2
    rw [h2]
    exact Int.bmod_eq_of_le (by omega) (by omega)
theorem sby_255 : ∀ c : Fin 256, iI (sby c.val) &&& iI 255 = iI (c.val : Int) := by decide +kernel
section LIFT5
variable {p : Program} {l : Launch} {e : Env} {R : Room} {s : State} {m : MethodId} {args : Array Value} {below : List Frame} {meth : Method} {c : Code} {H : Heap} {locs : List Loc} {cells slots : Nat} {Q : State → Prop} {pc : Nat} {ls : Array Slot} {rest : List Value} {cc : ByteArray}
theorem r_by255 (hx : p.tables.exec = Jvm.exec) (hb : c.code = cc) {x : Int} (c1 : Nat) (h1 : x = sby c1) (hc : c1 < 256) (hdg : decode cc pc = .ok (.iand, 1)) (k : W p l e R s m args below meth c H locs cells slots Q (F0 m (pc + 1) ls (.int (iI (c1 : Int)) :: rest))) : W p l e R s m args below meth c H locs cells slots Q (F0 m pc ls (.int (iI 255) :: .int (iI x) :: rest)) := lv_iand hx hb hdg (by rw [h1, show iI (sby c1) &&& iI 255 = iI (c1 : Int) from sby_255 ⟨c1, hc⟩]; exact k)
end LIFT5
theorem up_sby {f : Nat → Nat} {k v : Nat} : up (fun j => sby (f j)) k (sby v) = fun j => sby (up f k v j) := by
  funext j; unfold up; split <;> rfl
def hre (sc : Nat → Nat) (ty nx : Nat) : Int := if nx < ty then (sc nx : Int) else -1
theorem hre_tx {sc : Nat → Nat} {ty nx : Nat} : (hre sc ty nx = ((tx sc ty nx : Nat) : Int) ∧ nx < ty ∧ tx sc ty nx = sc nx) ∨ (hre sc ty nx = -1 ∧ tx sc ty nx = 999 ∧ ¬ nx < ty) := by
  unfold hre tx
  by_cases h : nx < ty
  · left; rw [if_pos h, if_pos h]; exact ⟨rfl, h, rfl⟩
  · right; rw [if_neg h, if_neg h]; exact ⟨rfl, rfl, h⟩
