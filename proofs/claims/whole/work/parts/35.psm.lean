
theorem psm_congr {g f : Nat → Nat} {st n : Nat} (h : ∀ k, k < n → g k = f k) : psm g st n = psm f st n := by
  induction n with
  | zero => rfl
  | succ n ih => show psm g st n + (if st.testBit n = true then g n else 0) = psm f st n + (if st.testBit n = true then f n else 0); rw [ih (fun k hk => h k (by omega)), h n (by omega)]
