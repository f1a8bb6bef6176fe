
/-! rows for constructors and the row of slots -/
def sl2 (a b : Option Nat) : Nat → Option Nat := fun k => if k = 0 then a else b
theorem sl2_u0 (a b : Option Nat) (v : Nat) : ∀ j, j < 2 → va_up (sl2 a b) 0 (some v) j = sl2 (some v) b j := by
  intro j hj; unfold va_up sl2; split <;> rfl
theorem sl2_u1 (a b : Option Nat) (v : Nat) : ∀ j, j < 2 → va_up (sl2 a b) 1 (some v) j = sl2 a (some v) j := by
  intro j hj; unfold va_up sl2
  by_cases h : j = 0
  · subst h; rfl
  · rw [if_pos (by omega), if_neg h]
section LIFT6
variable {p : Program} {l : Launch} {e : Env} {R : Room} {s : State} {m : MethodId} {args : Array Value} {below : List Frame} {meth : Method} {c : Code} {H : Heap} {locs : List Loc} {cells slots : Nat} {Q : State → Prop} {pc : Nat} {ls : Array Slot} {rest : List Value} {cc : ByteArray} {D : va_G} {cl : List vw_C} {tys : List (ClassId × FieldType)} {ws : va_W} {a : Nat} {A : Nat → Prop} {H0 : Heap}
theorem r_aaldN (hx : p.tables.exec = Jvm.exec) (hb : c.code = cc) (hK : va_K D cl tys s) (hP : va_P D cl ws H) (q0 t0 : Nat) {cA : ClassId} {C : String} {n : Nat} {f : Nat → Option Nat} (ha : ws[q0]? = some (a, .inl (cA, n, .inr (.inr (.inr (.inr f)))))) (ht : tys[t0]? = some (cA, .object C)) {t : Int} (k : Nat) (hk : t = (k : Int)) (hn : k < n) (hN : n < 2 ^ 31) (hf : f k = none) (hdg : decode cc pc = .ok (.aaload, 1)) (kk : W p l e R s m args below meth c H locs cells slots Q (F0 m (pc + 1) ls (.null :: rest))) : W p l e R s m args below meth c H locs cells slots Q (F0 m pc ls (.int (iI t) :: .ref a :: rest)) := by
  subst hk
  refine va_aldq hx hb hK hP q0 t0 ha ht (iI_in hn hN) hdg ?_
  rw [iI_clamp (Nat.lt_trans hn hN), hf]; exact kk
theorem r_aaldS (hx : p.tables.exec = Jvm.exec) (hb : c.code = cc) (hK : va_K D cl tys s) (hP : va_P D cl ws H) (q0 t0 : Nat) {cA : ClassId} {C : String} {n : Nat} {f : Nat → Option Nat} (ha : ws[q0]? = some (a, .inl (cA, n, .inr (.inr (.inr (.inr f)))))) (ht : tys[t0]? = some (cA, .object C)) {t : Int} (k : Nat) (hk : t = (k : Int)) (hn : k < n) (hN : n < 2 ^ 31) {x : Nat} (hf : f k = some x) (hdg : decode cc pc = .ok (.aaload, 1)) (kk : W p l e R s m args below meth c H locs cells slots Q (F0 m (pc + 1) ls (.ref x :: rest))) : W p l e R s m args below meth c H locs cells slots Q (F0 m pc ls (.int (iI t) :: .ref a :: rest)) := by
  subst hk
  refine va_aldq hx hb hK hP q0 t0 ha ht (iI_in hn hN) hdg ?_
  rw [iI_clamp (Nat.lt_trans hn hN), hf]; exact kk
theorem cellO_congr {cA : ClassId} {n : Nat} {f g : Nat → Option Nat} (h : ∀ j, j < n → f j = g j) : vp_cell cA (n, .inr (.inr (.inr (.inr f)))) = vp_cell cA (n, .inr (.inr (.inr (.inr g)))) := by
  show arrV cA n (fun j => va_rf (f j)) = arrV cA n (fun j => va_rf (g j))
  unfold arrV
  have : (fun j : Fin n => va_rf (f j.val)) = (fun j : Fin n => va_rf (g j.val)) := by funext j; rw [h j.val j.isLt]
  rw [this]
theorem va_P_congrO {ws' : va_W} (hP : va_P D cl ws H) (k : Nat) {cA : ClassId} {n : Nat} {f g : Nat → Option Nat} (hk : ws[k]? = some (a, .inl (cA, n, .inr (.inr (.inr (.inr f)))))) (h : ∀ j, j < n → f j = g j) (hw : ws.set k (a, .inl (cA, n, .inr (.inr (.inr (.inr g))))) = ws') : va_P D cl ws' H := by
  subst hw
  intro i q hi
  rw [List.getElem?_set] at hi
  split at hi
  · next e =>
    subst e
    have hlt : k < ws.length := (List.getElem?_eq_some_iff.mp hk).1
    rw [if_pos hlt] at hi
    cases hi
    have h0 := hP k _ hk
    show H[a]? = some (vp_cell cA (n, .inr (.inr (.inr (.inr g)))))
    rw [← cellO_congr h]
    exact h0
  · exact hP i q hi
theorem r_aast (hx : p.tables.exec = Jvm.exec) (hb : c.code = cc) (hK : va_K D cl tys s) (hP : va_P D cl ws H) (hD : va_D A ws) (hS : va_S A H0 H locs) (q0 t0 qk ci : Nat) {cA : ClassId} {r : vw_C} {n v : Nat} {vs : List Value} {f g : Nat → Option Nat} (ha : ws[q0]? = some (a, .inl (cA, n, .inr (.inr (.inr (.inr f)))))) (ht : tys[t0]? = some (cA, .object r.1)) (hv : ws[qk]? = some (v, .inr (ci, vs))) (hc : cl[ci]? = some r) {t : Int} (k : Nat) (hk : t = (k : Int)) (hn : k < n) (hN : n < 2 ^ 31) (hg : ∀ j, j < n → va_up f k (some v) j = g j) (hdg : decode cc pc = .ok (.aastore, 1))
    (kk : ∀ (H1 : Heap) (locs1 : List Loc), va_P D cl (ws.set q0 (a, .inl (cA, n, .inr (.inr (.inr (.inr g)))))) H1 → va_D A (ws.set q0 (a, .inl (cA, n, .inr (.inr (.inr (.inr g)))))) → va_S A H0 H1 locs1 → W p l e R s m args below meth c H1 locs1 cells slots Q (F0 m (pc + 1) ls rest)) : W p l e R s m args below meth c H locs cells slots Q (F0 m pc ls (.ref v :: .int (iI t) :: .ref a :: rest)) := by
  subst hk
  refine va_astq hx hb hK hP hD hS q0 t0 qk ci ha ht hv hc (iI_in hn hN) hdg ?_
  rw [iI_clamp (Nat.lt_trans hn hN)]
  intro H1 locs1 h1 h2 h3
  have hlt : q0 < ws.length := (List.getElem?_eq_some_iff.mp ha).1
  refine kk H1 locs1 (va_P_congrO h1 q0 (a := a) (cA := cA) (f := va_up f k (some v)) (g := g) (by rw [List.getElem?_set_self hlt]) hg (by rw [List.set_set])) (hD.congr q0 ha rfl) h3
theorem r_newq (hx : p.tables.exec = Jvm.exec) (hb : c.code = cc) {own : String} {index : Nat} {cI cB cZ cO : ClassId} (hown : s.vm.findClass own = some m.cls) (hclink : (Cond.classLink own index RX0).before args s = true) (hover : va_AO RX0 s) (hK : va_K D vwCl (yT cI cB cZ cO) s) (hP : va_P D vwCl ws H) (hD : va_D A ws) (hS : va_S A H0 H locs) (hA : ∀ q, H0.size ≤ q → A q) (hn : ¬ iI 2 < 0) (hN : (iI 2).toNatClampNeg = 2) (hcells : cells + 1 ≤ R.cells) (hslots : slots + 2 ≤ R.slots) (hdg : decode cc pc = .ok (.anewarray index, 3))
    (kk : ∀ (q : Nat) (H1 : Heap), va_P D vwCl (ws ++ [(q, .inl (cO, 2, .inr (.inr (.inr (.inr (sl2 none none))))))]) H1 → va_D A (ws ++ [(q, .inl (cO, 2, .inr (.inr (.inr (.inr (sl2 none none))))))]) → va_S A H0 H1 locs → W p l e R s m args below meth c H1 locs (cells + 1) (slots + 2) Q (F0 m (pc + 3) ls (.ref q :: rest))) : W p l e R s m args below meth c H locs cells slots Q (F0 m pc ls (.int (iI 2) :: rest)) := by
  refine va_newq hx hb hown hclink hover hK hP hD hS hA hn hN (by decide) hcells hslots hdg (fun q cA H1 hK1 h1 h2 h3 => ?_)
  have e : cA = cO := by
    obtain ⟨_, _, _, _, _, g1⟩ := (hK1.2 4 _ rfl).2
    obtain ⟨_, _, _, _, _, g2⟩ := (hK.2 3 _ rfl).2
    exact Option.some.inj (g1.symm.trans g2)
  subst e
  have ef : (fun _ : Nat => (none : Option Nat)) = sl2 none none := by funext j; unfold sl2; split <;> rfl
  rw [ef] at h1 h2
  exact kk q H1 h1 h2 h3
end LIFT6
theorem startI {D : va_G} {cI cB cZ cO : ClassId} {l : Launch} {y : MethodName} {wd wd' : List Cond} {rm : Room} {cc : ByteArray} {maxL mc ms sz : Nat} {ret : Option FieldType} {av : List Value} {ws : va_W} {S : Type} {val : S → Option Value} {post : S → Prop} {wo : S → va_W} (hy : plainName y.cls = true) (hi : y.name = "<init>") (hw : wd = Cond.code y cc maxL ret :: wd') (hlen : (lg_sl av).length ≤ maxL)
    (body : ∀ (p : Program) (e : Env) (s : State) (m : MethodId) (below : List Frame) (meth : Method) (c : Code), CallFix p m c cc maxL s av.toArray wd y.cls → meth.sig.returnType = ret → meth.locks = false → meth.name = "<init>" → EK D cI cB cZ cO s → va_P D vwCl ws s.heap → ∀ A : Nat → Prop, va_D A ws → (∀ q : Nat, s.heap.size ≤ q → A q) → va_S A s.heap s.heap [] → ∀ ls : Array Slot, lv_has ls maxL (lv_args 0 av) → W p l e rm s m av.toArray below meth c s.heap [] 0 0 (MQ below (QX D val post wo A) av.toArray s mc ms A) (F0 m 0 ls [])) :
    Met l y wd rm (va_Pc av (RW D cI cB cZ cO sz ws)) (QX D val post wo (va_A ws sz)) mc ms (va_A ws sz) := by
  refine Met.ofW (cc := cc) (maxL := maxL) (ret := ret) hy hw ?_
  intro p e s m args below meth c s₁ B hml hv
  obtain ⟨rfl, hsz, hE, hP, hD⟩ := hv
  have hown : s.vm.findClass y.cls = some m.cls := findClass_of_methodNamed B.named
  have hin : meth.name = "<init>" := (name_of_methodNamed B.named B.method).1.trans hi
  subst hsz
  rw [lg_entry_eq]
  exact body p e s m below meth c ⟨B.exec, B.bytes, hml, hown, atoms_spec (ws := wd) B.pre⟩ B.returns B.notSynchronized hin hE hP _ hD.self (fun q h => Or.inr h) va_S.rf _ (lv_entry av hlen)
/-- a start that also knows that there are arrays of buffers -/
def RWo (D : va_G) (cI cB cZ cO : ClassId) (sz : Nat) (ws : va_W) (U : State) : Prop := RW D cI cB cZ cO sz ws U ∧ va_AO RX0 U
theorem RWo_blind {D : va_G} {cI cB cZ cO : ClassId} {av : List Value} {sz : Nat} {ws : va_W} : FrameBlind (va_Pc av (RWo D cI cB cZ cO sz ws)) := fun a U g mk q => by
  obtain ⟨q0, ⟨q1, qE, qP, qD⟩, qo⟩ := q
  exact ⟨q0, ⟨q1, qE.calling, qP, qD⟩, va_AO.moved (u := U) (U := U.calling g mk a) (Vm.Alike.refl U.vm) qo⟩
theorem startJ {D : va_G} {cI cB cZ cO : ClassId} {l : Launch} {y : MethodName} {wd wd' : List Cond} {rm : Room} {cc : ByteArray} {maxL mc ms sz : Nat} {ret : Option FieldType} {av : List Value} {ws : va_W} {S : Type} {val : S → Option Value} {post : S → Prop} {wo : S → va_W} (hy : plainName y.cls = true) (hi : y.name = "<init>") (hw : wd = Cond.code y cc maxL ret :: wd') (hlen : (lg_sl av).length ≤ maxL)
    (body : ∀ (p : Program) (e : Env) (s : State) (m : MethodId) (below : List Frame) (meth : Method) (c : Code), CallFix p m c cc maxL s av.toArray wd y.cls → meth.sig.returnType = ret → meth.locks = false → meth.name = "<init>" → va_AO RX0 s → EK D cI cB cZ cO s → va_P D vwCl ws s.heap → ∀ A : Nat → Prop, va_D A ws → (∀ q : Nat, s.heap.size ≤ q → A q) → va_S A s.heap s.heap [] → ∀ ls : Array Slot, lv_has ls maxL (lv_args 0 av) → W p l e rm s m av.toArray below meth c s.heap [] 0 0 (MQ below (QX D val post wo A) av.toArray s mc ms A) (F0 m 0 ls [])) :
    Met l y wd rm (va_Pc av (RWo D cI cB cZ cO sz ws)) (QX D val post wo (va_A ws sz)) mc ms (va_A ws sz) := by
  refine Met.ofW (cc := cc) (maxL := maxL) (ret := ret) hy hw ?_
  intro p e s m args below meth c s₁ B hml hv
  obtain ⟨rfl, ⟨hsz, hE, hP, hD⟩, hao⟩ := hv
  have hown : s.vm.findClass y.cls = some m.cls := findClass_of_methodNamed B.named
  have hin : meth.name = "<init>" := (name_of_methodNamed B.named B.method).1.trans hi
  subst hsz
  rw [lg_entry_eq]
  exact body p e s m below meth c ⟨B.exec, B.bytes, hml, hown, atoms_spec (ws := wd) B.pre⟩ B.returns B.notSynchronized hin hao hE hP _ hD.self (fun q h => Or.inr h) va_S.rf _ (lv_entry av hlen)
section IJ
variable {D : va_G} {cI cB cZ cO : ClassId} {l : Launch}
variable {p : Program} {e : Env} {R : Room} {s : State} {m : MethodId} {args : Array Value} {below : List Frame} {meth : Method} {c : Code} {H : Heap} {locs : List Loc} {cells slots : Nat} {Q : State → Prop} {pc : Nat} {ls : Array Slot} {rest st0 : List Value} {cc : ByteArray} {ws wc wr : va_W} {a b : Nat} {A : Nat → Prop} {H0 : Heap} {own C : String} {index maxL nL n mc ms : Nat} {y : MethodName} {bytes : ByteArray} {ret : Option FieldType} {wd wd' Ts : List Cond} {rm : Room} {As : List Value} {r v : Int} {o : Option Value} {host : String}
theorem callIJ {S9 : Type} {val : S9 → Option Value} {post : S9 → Prop} {wo ws2 : S9 → va_W} (S : CallFix p m c cc nL s args Ts own) (hE : EK D cI cB cZ cO s) (hP : va_P D vwCl ws H) (hD : va_D A ws) (hS : va_S A H0 H locs) (hA : ∀ q, H0.size ≤ q → A q) (hM : Met l y wd rm (va_Pc (.ref b :: As) (RWo D cI cB cZ cO H.size wc)) (QX D val post wo (va_A wc H.size)) mc ms (va_A wc H.size)) (hG : GoodIn Ts wd) (hw : wd = Cond.code y bytes maxL none :: wd') (hm : rm.cells = mc ∧ rm.slots = ms)
    (hao : va_AO RX0 s) (hi : (Cond.initialized y.cls).before args s = true) (hl : (Cond.methodLink own index y).before args s = true) (hin : (Cond.instanceMethod y).before args s = true) (hy : y.name = "<init>") (hd : y.cls ≠ "java/lang/invoke/MethodHandle" ∧ y.cls ≠ "java/lang/invoke/VarHandle" ∧ (parseMethodDescriptor y.desc).map (fun d => d.parameters.length) = some n) (hR : rm.frames + 1 ≤ R.frames ∧ 8 + (maxL + 11) + rm.locals ≤ R.locals)
    (is iR ip : List Nat) (hs : is.map (fun i => ws[i]?) = wc.map some) (hsn : va_nd is = true) (hRr : iR.map (fun i => ws[i]?) = wr.map some) (hnn : va_nd iR = true) (hdis : ∀ i ∈ iR, i ∉ is) (hnp : va_nd ip = true) (hp : ∀ u, ip.map (fun i => (wr ++ wo u)[i]?) = (ws2 u).map some)
    (hn : As.length = n) (hsize : ls.size = nL) (hst : st0 = As.reverse ++ .ref b :: rest) (hW : (rest.map fun v => v.category).sum ≤ 8) (hdg : decode cc pc = .ok (.invokespecial index, 3)) (hf : cells + mc ≤ R.cells ∧ slots + ms ≤ R.slots)
    (kk : ∀ (u : S9), post u → ∀ (H1 : Heap) (locs1 : List Loc), va_P D vwCl (ws2 u) H1 → va_D A (ws2 u) → va_S A H0 H1 locs1 → W p l e R s m args below meth c H1 locs1 (cells + mc) (slots + ms) Q (F0 m (pc + 3) ls ((val u).toList ++ rest))) : W p l e R s m args below meth c H locs cells slots Q (F0 m pc ls st0) := by
  have hPc : va_P D vwCl wc H := wsub hP is hs
  have hDc : va_D (fun _ => True) wc := (hD.sub is hsn hs).weaken (fun _ _ _ _ => trivial)
  exact r_callX hP hD hS hA is iR ip hs hRr hnn hdis hnp hp (va_runI (As := As) (rest := rest) S hM (cwI n S.2.2.2.2 hG hw hm.1 hm.2 hi hl hin hy hd hR) ⟨RWo_blind, fun U hU hW => ⟨rfl, ⟨by rw [hU], hE.warm hW, by rw [hU]; exact hPc, hDc⟩, va_AO.moved hW.alike hao⟩⟩ rfl hn hsize hst (lv_room hW) hdg hf) kk
end IJ
