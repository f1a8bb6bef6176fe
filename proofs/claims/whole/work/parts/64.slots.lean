
/-! slots: what is kept, brought back, compared -/
section SLS
variable {cn en ac cu : Nat} {co : Nat → Nat} {au : Nat → Int} {er ki : Nat → Nat} {bs : Nat → Int} {ba : Nat → Nat} {ln es : Nat} {cc ow ec ix : Nat → Nat}
theorem GD_bc (h : GD cn en ac cu co au er ki bs ba) {b2 : Nat → Nat} (h1 : ∀ e, e < 16 → b2 e = ba e) (h2 : ∀ k, b2 k < 65536) : GD cn en ac cu co au er ki bs b2 := by
  obtain ⟨⟨a1, a2, a3, a4, a5⟩, ⟨b1, b2', b3, b4, b5, b6⟩, ⟨c1, c2, c3, c4, c5⟩, d1, d2, d3, d4⟩ := h
  refine ⟨⟨a1, a2, a3, a4, a5⟩, ⟨b1, b2', b3, b4, b5, h2⟩, ⟨c1, c2, c3, c4, fun e he => by rw [h1 e (by omega)]; exact c5 e he⟩, fun e he => ?_, d2, d3, d4⟩
  rw [h1 e (by omega), thr_congr (re := b2) (ba := ba) (fun k hk => h1 k (by omega))]; exact d1 e he
theorem LK_pre (h : LK cn en ac co au er ki ln es cc ow ec ix) (hcn : cn ≤ 160) (hln : ln ≤ 60) {f1 f2 f3 f4 : Nat → Nat} (b1 : ∀ k, f1 k < 65536) (b2 : ∀ k, f2 k < 65536) (b3 : ∀ k, f3 k < 65536) (b4 : ∀ k, f4 k < 160) : LK cn en ac co au er ki ln es (preF f1 cc 160) (preF f2 ow 160) (preF f3 ec 160) (preF f4 ix 60) := by
  obtain ⟨h1, b, c, d, ⟨e1, e2, e3, e4⟩, h6⟩ := h
  refine ⟨h1, b, c, fun k hk => ?_, ⟨preF_lt b1 e1, preF_lt b2 e2, preF_lt b3 e3, preF_lt b4 e4⟩, fun j hj => ?_⟩
  · rw [preF_at (by omega), preF_at (by omega), preF_at (by omega)]; exact d k hk
  · rw [preF_at (by omega)]; exact h6 j hj
end SLS
theorem SLT_keep {cI : ClassId} {i i' : Nat} {kp : Nat → Nat} {sl F : Nat → Int} {o : Option Nat} {e : va_W} (hne : i' ≠ i) (h : SLT cI i' kp sl o e) : SLT cI i' (up kp i 1) (inI sl (516 * i) F 516) o e := by
  rcases h with ⟨h1, h2⟩ | ⟨h1, hz, a1z, a2z, a3z, a4z, a5z, cnz, enz, acz, cuz, coz, auz, erz, kiz, bsz, baz, lnz, esz, ccz, owz, ecz, ixz, h2, h3, h4, h5, h6⟩
  · exact Or.inl ⟨by rw [up_ne _ _ hne]; exact h1, h2⟩
  · refine Or.inr ⟨by rw [up_ne _ _ hne]; exact h1, hz, a1z, a2z, a3z, a4z, a5z, cnz, enz, acz, cuz, coz, auz, erz, kiz, bsz, baz, lnz, esz, ccz, owz, ecz, ixz, h2, h3, h4, h5, fun j hj => ?_⟩
    rw [← h6 j hj]
    exact if_neg (by omega)
theorem kp_up {kp : Nat → Nat} {i : Nat} (h : ∀ k, kp k ≤ 1) : ∀ k, up kp i 1 k ≤ 1 := by
  intro k; unfold up; split
  · omega
  · exact h k
theorem neb_cg {a b c d : Nat → Nat} {n : Nat} (h1 : ∀ k, k < n → a k = c k) (h2 : ∀ k, k < n → b k = d k) : cnt (neb a b) n = cnt (neb c d) n := cnt_congr (fun k hk => by unfold neb; rw [h1 k hk, h2 k hk])
