
theorem GD_0 : GD 0 0 0 0 (fun _ => 0) (fun _ => 0) (fun _ => 0) (fun _ => 0) (fun _ => 0) (fun _ => 0) := by
  have h := @GD_beg (fun _ => 0) 0 (fun _ => 0) (by omega) (fun _ => by show (0 : Nat) < 65536; omega) (fun _ => by show (0 : Nat) < 65536; omega)
  rw [preF_0, pmI_0] at h
  exact h
theorem LK_0 : LK 0 0 0 (fun _ => 0) (fun _ => 0) (fun _ => 0) (fun _ => 0) 0 0 (fun _ => 0) (fun _ => 0) (fun _ => 0) (fun _ => 0) :=
  ⟨rfl, by decide, fun e he => absurd he (Nat.not_lt_zero e), fun k hk => absurd hk (Nat.not_lt_zero k), ⟨fun _ => by show (0 : Nat) < 65536; omega, fun _ => by show (0 : Nat) < 65536; omega, fun _ => by show (0 : Nat) < 65536; omega, fun _ => by show (0 : Nat) < 160; omega⟩, ixOK_0⟩

theorem nF_in : ∀ w ∈ nF.map (fun q => Cond.fieldLinkNest q.1 q.2.1 q.2.2.1 q.2.2.2.1 q.2.2.2.2.1 q.2.2.2.2.2), w ∈ lw_tbl := in_pl _ [93, 94, 95, 111, 114, 116, 118, 120, 122, 145, 147, 149, 151, 152, 155, 158, 159, 161, 163, 164, 166, 207, 209] (by decide +kernel)
theorem nM_in : ∀ w ∈ nM.map (fun q => Cond.methodLinkNest q.1 q.2.1 q.2.2.1 q.2.2.2), w ∈ lw_tbl := in_pl _ [104, 140, 192, 313, 334, 396, 605, 649] (by decide +kernel)
theorem law_nl {s : State} {a : Array Value} (h : ∀ w ∈ lw_tbl, w.before a s = true) : NL s := ⟨fun q hq => va_Nw.of rfl (h _ (nF_in _ (List.mem_map.mpr ⟨q, hq, rfl⟩))), fun q hq => va_Nw.of rfl (h _ (nM_in _ (List.mem_map.mpr ⟨q, hq, rfl⟩)))⟩
theorem ao_in : Cond.arrayOver (.object RX0) ∈ lw_tbl := List.mem_of_getElem? (i := 235) (by decide +kernel)
theorem li_lay0 : ∀ w ∈ u_ws RX0 TX0 11, w ∈ wsL_law := in_lay 846 (by decide +kernel)
theorem li_ins0 : Cond.instantiable RX0 11 ∈ wsL_law := List.mem_of_getElem? (i := 21) (by decide +kernel)
theorem li_lay1 : ∀ w ∈ u_ws RX1 TX1 2, w ∈ wsL_law := in_lay 837 (by decide +kernel)
theorem li_ins1 : Cond.instantiable RX1 2 ∈ wsL_law := List.mem_of_getElem? (i := 13) (by decide +kernel)
theorem li_lay2 : ∀ w ∈ u_ws RX2 TX2 7, w ∈ wsL_law := in_lay 839 (by decide +kernel)
theorem li_ins2 : Cond.instantiable RX2 7 ∈ wsL_law := List.mem_of_getElem? (i := 17) (by decide +kernel)
theorem li_lay3 : ∀ w ∈ u_ws RX3 TX3 12, w ∈ wsL_law := in_lay 857 (by decide +kernel)
theorem li_ins3 : Cond.instantiable RX3 12 ∈ wsL_law := List.mem_of_getElem? (i := 25) (by decide +kernel)
theorem li_lay4 : ∀ w ∈ u_ws RX4 TX4 7, w ∈ wsL_law := in_lay 813 (by decide +kernel)
theorem li_ins4 : Cond.instantiable RX4 7 ∈ wsL_law := List.mem_of_getElem? (i := 1) (by decide +kernel)
theorem li_lay5 : ∀ w ∈ u_ws RX5 TX5 17, w ∈ wsL_law := in_lay 820 (by decide +kernel)
theorem li_ins5 : Cond.instantiable RX5 17 ∈ wsL_law := List.mem_of_getElem? (i := 4) (by decide +kernel)
theorem li_int : Cond.arrayClass .int ∈ wsL_law := List.mem_of_getElem? (i := 39) (by decide +kernel)
theorem li_byte : Cond.arrayClass .byte ∈ wsL_law := List.mem_of_getElem? (i := 73) (by decide +kernel)
theorem li_boolean : Cond.arrayClass .boolean ∈ wsL_law := List.mem_of_getElem? (i := 69) (by decide +kernel)
theorem clL_law_7 : Cond.classLink RL 7 RX4 ∈ wsL_law := List.mem_of_getElem? (i := 0) (by decide +kernel)
theorem itL_law_X4 : Cond.instantiable RX4 7 ∈ wsL_law := List.mem_of_getElem? (i := 1) (by decide +kernel)
theorem inL_law_X4 : Cond.initialized RX4 ∈ wsL_law := List.mem_of_getElem? (i := 2) (by decide +kernel)
theorem nL_law_X4 : ∀ w ∈ u_ws RX4 TX4 7, w ∈ wsL_law := in_lay 813 (by decide +kernel)
theorem imL_law_X4_init : Cond.instanceMethod yX4_init ∈ wsL_law := List.mem_of_getElem? (i := 7) (by decide +kernel)
theorem liL_law_9 : Cond.methodLink RL 9 yX4_init ∈ wsL_law := List.mem_of_getElem? (i := 6) (by decide +kernel)
theorem clL_law_10 : Cond.classLink RL 10 RX5 ∈ wsL_law := List.mem_of_getElem? (i := 3) (by decide +kernel)
theorem itL_law_X5 : Cond.instantiable RX5 17 ∈ wsL_law := List.mem_of_getElem? (i := 4) (by decide +kernel)
theorem inL_law_X5 : Cond.initialized RX5 ∈ wsL_law := List.mem_of_getElem? (i := 5) (by decide +kernel)
theorem nL_law_X5 : ∀ w ∈ u_ws RX5 TX5 17, w ∈ wsL_law := in_lay 820 (by decide +kernel)
theorem imL_law_X5_init : Cond.instanceMethod yX5_init ∈ wsL_law := List.mem_of_getElem? (i := 64) (by decide +kernel)
theorem liL_law_12 : Cond.methodLink RL 12 yX5_init ∈ wsL_law := List.mem_of_getElem? (i := 63) (by decide +kernel)
