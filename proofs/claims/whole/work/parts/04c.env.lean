/-! what every state of a run knows: classes, array classes, nest links; starts and calls of contracts -/
def nF : List (String × Nat × String × String × String × String) := [("PricedUndo$Buffer", 27, "PricedUndo$Row", "length", "I", "PricedUndo"), ("PricedUndo", 54, "PricedUndo$Row", "length", "I", "PricedUndo"), ("PricedUndo$Script", 31, "PricedUndo$Row", "length", "I", "PricedUndo"), ("PricedUndo", 169, "PricedUndo$Script", "signs", "LPricedUndo$Row;", "PricedUndo"), ("PricedUndo", 213, "PricedUndo$Script", "sign", "I", "PricedUndo"), ("PricedUndo", 216, "PricedUndo$Script", "first", "I", "PricedUndo"), ("PricedUndo", 225, "PricedUndo$Script", "second", "I", "PricedUndo"), ("PricedUndo", 219, "PricedUndo$Script", "lettersAt", "I", "PricedUndo"), ("PricedUndo", 222, "PricedUndo$Script", "letters", "I", "PricedUndo"), ("PricedUndo$Search", 58, "PricedUndo$Buffer", "codes", "[I", "PricedUndo"), ("PricedUndo$Search", 61, "PricedUndo$Buffer", "owners", "[I", "PricedUndo"), ("PricedUndo$Search", 65, "PricedUndo$Buffer", "erasers", "[I", "PricedUndo"), ("PricedUndo$Search", 55, "PricedUndo$Buffer", "total", "I", "PricedUndo"), ("PricedUndo", 90, "PricedUndo$Buffer", "total", "I", "PricedUndo"), ("PricedUndo", 65, "PricedUndo$Buffer", "length", "I", "PricedUndo"), ("PricedUndo$Search", 34, "PricedUndo$Buffer", "edits", "I", "PricedUndo"), ("PricedUndo", 93, "PricedUndo$Buffer", "edits", "I", "PricedUndo"), ("PricedUndo", 110, "PricedUndo$Buffer", "erasures", "I", "PricedUndo"), ("PricedUndo$Search", 40, "PricedUndo$Buffer", "active", "I", "PricedUndo"), ("PricedUndo", 96, "PricedUndo$Buffer", "active", "I", "PricedUndo"), ("PricedUndo", 74, "PricedUndo$Buffer", "cursor", "I", "PricedUndo"), ("PricedUndo", 187, "PricedUndo$Search", "bestSet", "I", "PricedUndo"), ("PricedUndo", 190, "PricedUndo$Search", "bestPrice", "I", "PricedUndo")]
def nM : List (String × Nat × MethodName × String) := [("PricedUndo", 20, ⟨"PricedUndo$Script", "<init>", "()V"⟩, "PricedUndo"), ("PricedUndo", 27, ⟨"PricedUndo$Buffer", "<init>", "()V"⟩, "PricedUndo"), ("PricedUndo", 34, ⟨"PricedUndo$Search", "<init>", "()V"⟩, "PricedUndo"), ("PricedUndo$Buffer", 106, ⟨"PricedUndo", "numberOf", "(I)I"⟩, "PricedUndo"), ("PricedUndo$Buffer", 79, ⟨"PricedUndo", "single", "(I)I"⟩, "PricedUndo"), ("PricedUndo$Buffer", 115, ⟨"PricedUndo", "has", "(II)Z"⟩, "PricedUndo"), ("PricedUndo$Search", 44, ⟨"PricedUndo", "has", "(II)Z"⟩, "PricedUndo"), ("PricedUndo$Search", 115, ⟨"PricedUndo", "single", "(I)I"⟩, "PricedUndo")]
def NL (U : State) : Prop := (∀ q ∈ nF, va_Nw (.fieldLinkNest q.1 q.2.1 q.2.2.1 q.2.2.2.1 q.2.2.2.2.1 q.2.2.2.2.2) U) ∧ ∀ q ∈ nM, va_Nw (.methodLinkNest q.1 q.2.1 q.2.2.1 q.2.2.2) U
theorem NL.warm {s U : State} (hW : s.WarmedH U.vm) (h : NL s) : NL U := ⟨fun q hq => va_Nw.warmF hW (h.1 q hq), fun q hq => va_Nw.warmM hW (h.2 q hq)⟩
theorem NL.same {s U : State} (hv : s.vm = U.vm) (h : NL s) : NL U := ⟨fun q hq => va_Nw.same rfl hv (h.1 q hq), fun q hq => va_Nw.same rfl hv (h.2 q hq)⟩
theorem NL.f {U : State} (h : NL U) (i : Nat) {q : String × Nat × String × String × String × String} (hi : nF[i]? = some q) : va_Nw (.fieldLinkNest q.1 q.2.1 q.2.2.1 q.2.2.2.1 q.2.2.2.2.1 q.2.2.2.2.2) U := h.1 q (List.mem_of_getElem? hi)
theorem NL.m {U : State} (h : NL U) (i : Nat) {q : String × Nat × MethodName × String} (hi : nM[i]? = some q) : va_Nw (.methodLinkNest q.1 q.2.1 q.2.2.1 q.2.2.2) U := h.2 q (List.mem_of_getElem? hi)
/-- the array classes: int, byte, boolean, Buffer -/
abbrev yT (cI cB cZ cO : ClassId) : List (ClassId × FieldType) := [(cI, .int), (cB, .byte), (cZ, .boolean), (cO, .object RX0)]
def EK (D : va_G) (cI cB cZ cO : ClassId) (U : State) : Prop := va_K D vwCl (yT cI cB cZ cO) U ∧ NL U
section ENV
variable {D : va_G} {cI cB cZ cO : ClassId} {l : Launch}
theorem EK.warm {s U : State} (hW : s.WarmedH U.vm) (h : EK D cI cB cZ cO s) : EK D cI cB cZ cO U := ⟨va_K.moved hW.alike h.1, NL.warm hW h.2⟩
theorem EK.calling {U : State} {g : JFrame} {mk : MethodId} {a : Array Value} (h : EK D cI cB cZ cO U) : EK D cI cB cZ cO (U.calling g mk a) := ⟨va_K.moved (u := U) (U := U.calling g mk a) (Vm.Alike.refl U.vm) h.1, NL.same (s := U) (U := U.calling g mk a) rfl h.2⟩
/-- the start of a method that only reads these cells -/
def RO (D : va_G) (cI cB cZ cO : ClassId) (ws : va_W) (U : State) : Prop := EK D cI cB cZ cO U ∧ va_P D vwCl ws U.heap
/-- the start of a method that may write these cells -/
def RW (D : va_G) (cI cB cZ cO : ClassId) (sz : Nat) (ws : va_W) (U : State) : Prop := U.heap.size = sz ∧ EK D cI cB cZ cO U ∧ va_P D vwCl ws U.heap ∧ va_D (fun _ => True) ws
/-- its end: some u with post, the answer and the cells by u, nothing else changed -/
def QX (D : va_G) {S : Type} (val : S → Option Value) (post : S → Prop) (wo : S → va_W) (A : Nat → Prop) : Array Value → State → Outcome → State → Prop := fun _ st oc t => ∃ u : S, oc = .returned (val u) ∧ post u ∧ va_P D vwCl (wo u) t.heap ∧ va_D A (wo u) ∧ va_F A st t
theorem RO.blind {av : List Value} {ws : va_W} : FrameBlind (va_Pc av (RO D cI cB cZ cO ws)) := fun a U g mk q => by
  obtain ⟨q0, qE, qP⟩ := q
  exact ⟨q0, qE.calling, qP⟩
theorem RW.blind {av : List Value} {sz : Nat} {ws : va_W} : FrameBlind (va_Pc av (RW D cI cB cZ cO sz ws)) := fun a U g mk q => by
  obtain ⟨q0, q1, qE, qP, qD⟩ := q
  exact ⟨q0, q1, qE.calling, qP, qD⟩
theorem startO {y : MethodName} {wd wd' : List Cond} {rm : Room} {cc : ByteArray} {maxL : Nat} {ret : Option FieldType} {av : List Value} {ws : va_W} {r : Int} (hy : plainName y.cls = true) (hw : wd = Cond.code y cc maxL ret :: wd') (hlen : (lg_sl av).length ≤ maxL)
    (body : ∀ (p : Program) (e : Env) (s : State) (m : MethodId) (below : List Frame) (meth : Method) (c : Code), CallFix p m c cc maxL s av.toArray wd y.cls → meth.sig.returnType = ret → meth.locks = false → EK D cI cB cZ cO s → va_P D vwCl ws s.heap → ∀ ls : Array Slot, lv_has ls maxL (lv_args 0 av) → W p l e rm s m av.toArray below meth c s.heap [] 0 0 (MQ below (QO r) av.toArray s 0 0 (fun _ => False)) (F0 m 0 ls [])) :
    Met l y wd rm (va_Pc av (RO D cI cB cZ cO ws)) (QO r) 0 0 (fun _ => False) := by
  refine Met.ofW (cc := cc) (maxL := maxL) (ret := ret) hy hw ?_
  intro p e s m args below meth c s₁ B hml hv
  obtain ⟨rfl, hE, hP⟩ := hv
  have hown : s.vm.findClass y.cls = some m.cls := findClass_of_methodNamed B.named
  rw [lg_entry_eq]
  exact body p e s m below meth c ⟨B.exec, B.bytes, hml, hown, atoms_spec (ws := wd) B.pre⟩ B.returns B.notSynchronized hE hP _ (lv_entry av hlen)
theorem startW {y : MethodName} {wd wd' : List Cond} {rm : Room} {cc : ByteArray} {maxL mc ms sz : Nat} {ret : Option FieldType} {av : List Value} {ws : va_W} {S : Type} {val : S → Option Value} {post : S → Prop} {wo : S → va_W} (hy : plainName y.cls = true) (hw : wd = Cond.code y cc maxL ret :: wd') (hlen : (lg_sl av).length ≤ maxL)
    (body : ∀ (p : Program) (e : Env) (s : State) (m : MethodId) (below : List Frame) (meth : Method) (c : Code), CallFix p m c cc maxL s av.toArray wd y.cls → meth.sig.returnType = ret → meth.locks = false → EK D cI cB cZ cO s → va_P D vwCl ws s.heap → ∀ A : Nat → Prop, va_D A ws → (∀ q : Nat, s.heap.size ≤ q → A q) → va_S A s.heap s.heap [] → ∀ ls : Array Slot, lv_has ls maxL (lv_args 0 av) → W p l e rm s m av.toArray below meth c s.heap [] 0 0 (MQ below (QX D val post wo A) av.toArray s mc ms A) (F0 m 0 ls [])) :
    Met l y wd rm (va_Pc av (RW D cI cB cZ cO sz ws)) (QX D val post wo (va_A ws sz)) mc ms (va_A ws sz) := by
  refine Met.ofW (cc := cc) (maxL := maxL) (ret := ret) hy hw ?_
  intro p e s m args below meth c s₁ B hml hv
  obtain ⟨rfl, hsz, hE, hP, hD⟩ := hv
  have hown : s.vm.findClass y.cls = some m.cls := findClass_of_methodNamed B.named
  subst hsz
  rw [lg_entry_eq]
  exact body p e s m below meth c ⟨B.exec, B.bytes, hml, hown, atoms_spec (ws := wd) B.pre⟩ B.returns B.notSynchronized hE hP _ hD.self (fun q h => Or.inr h) va_S.rf _ (lv_entry av hlen)
variable {p : Program} {e : Env} {R : Room} {s : State} {m : MethodId} {args : Array Value} {below : List Frame} {meth : Method} {c : Code} {H : Heap} {locs : List Loc} {cells slots : Nat} {Q : State → Prop} {pc : Nat} {ls : Array Slot} {rest st0 : List Value} {cc : ByteArray} {ws wc wr : va_W} {a b : Nat} {A : Nat → Prop} {H0 : Heap} {own C : String} {index maxL nL n mc ms : Nat} {y : MethodName} {bytes : ByteArray} {ret : Option FieldType} {wd wd' Ts : List Cond} {rm : Room} {As : List Value} {r v : Int} {o : Option Value} {host : String}
theorem r_iretO (hx : p.tables.exec = Jvm.exec) (hb : c.code = cc) (hr : meth.sig.returnType = some .int) (hlocks : meth.locks = false) (hv : v = r) (hdg : decode cc pc = .ok (.ireturn, 1)) : W p l e R s m args below meth c s.heap [] 0 0 (MQ below (QO r) args s 0 0 (fun _ => False)) (F0 m pc ls [.int (iI v)]) := by
  subst hv
  exact W.iret hx hb hr (fun t ht hW => ⟨rfl, ht⟩) (fun _ h => by cases h) hdg hlocks
theorem r_zretO (hx : p.tables.exec = Jvm.exec) (hb : c.code = cc) (hr : meth.sig.returnType = some .boolean) (hlocks : meth.locks = false) (hv : v = r) (h01 : v = 0 ∨ v = 1) (hdg : decode cc pc = .ok (.ireturn, 1)) : W p l e R s m args below meth c s.heap [] 0 0 (MQ below (QO r) args s 0 0 (fun _ => False)) (F0 m pc ls [.int (iI v)]) := by
  subst hv
  exact W.zret hx hb hr (by rcases h01 with h | h <;> rw [h] <;> rfl) (fun t ht hW => ⟨rfl, ht⟩) (fun _ h => by cases h) hdg hlocks
theorem r_iretX {S : Type} {val : S → Option Value} {post : S → Prop} {wo : S → va_W} (hx : p.tables.exec = Jvm.exec) (hb : c.code = cc) (hr : meth.sig.returnType = some .int) (hlocks : meth.locks = false) (hP : va_P D vwCl ws H) (hD : va_D A ws) (hS : va_S A s.heap H locs) (u : S) (hv : val u = some (.int (iI v))) (hp : post u) (hw : wo u = ws) (hdg : decode cc pc = .ok (.ireturn, 1)) : W p l e R s m args below meth c H locs cells slots (MQ below (QX D val post wo A) args s cells slots A) (F0 m pc ls [.int (iI v)]) := W.iret hx hb hr (fun t ht hW => ⟨u, by rw [hv], hp, by rw [ht, hw]; exact hP, by rw [hw]; exact hD, hS.F ht⟩) hS.2.2 hdg hlocks
theorem r_zretX {S : Type} {val : S → Option Value} {post : S → Prop} {wo : S → va_W} (hx : p.tables.exec = Jvm.exec) (hb : c.code = cc) (hr : meth.sig.returnType = some .boolean) (hlocks : meth.locks = false) (hP : va_P D vwCl ws H) (hD : va_D A ws) (hS : va_S A s.heap H locs) (u : S) (hv : val u = some (.int (iI v))) (hp : post u) (hw : wo u = ws) (h01 : v = 0 ∨ v = 1) (hdg : decode cc pc = .ok (.ireturn, 1)) : W p l e R s m args below meth c H locs cells slots (MQ below (QX D val post wo A) args s cells slots A) (F0 m pc ls [.int (iI v)]) := W.zret hx hb hr (by rcases h01 with h | h <;> rw [h] <;> rfl) (fun t ht hW => ⟨u, by rw [hv], hp, by rw [ht, hw]; exact hP, by rw [hw]; exact hD, hS.F ht⟩) hS.2.2 hdg hlocks
theorem r_vretX {S : Type} {val : S → Option Value} {post : S → Prop} {wo : S → va_W} (hx : p.tables.exec = Jvm.exec) (hb : c.code = cc) (hr : meth.sig.returnType = none) (hlocks : meth.locks = false) (hP : va_P D vwCl ws H) (hD : va_D A ws) (hS : va_S A s.heap H locs) (u : S) (hv : val u = none) (hp : post u) (hw : wo u = ws) (hdg : decode cc pc = .ok (.return_, 1)) : W p l e R s m args below meth c H locs cells slots (MQ below (QX D val post wo A) args s cells slots A) (F0 m pc ls []) := W.vret hx hb hr (fun t ht hW => ⟨u, by rw [hv], hp, by rw [ht, hw]; exact hP, by rw [hw]; exact hD, hS.F ht⟩) hS.2.2 hdg hlocks
/-- a call of a method that only reads: virtual -/
theorem callVO (S : CallFix p m c cc nL s args Ts own) (hM : Met l y wd rm (va_Pc (.ref b :: As) (RO D cI cB cZ cO wc)) (QO r) 0 0 (fun _ => False)) (hG : GoodIn Ts (wsV own index C y wd)) (hw : wd = Cond.code y bytes maxL ret :: wd') (hm : rm.cells = 0 ∧ rm.slots = 0)
    (hd : y.cls = C ∧ y.cls ≠ "java/lang/invoke/MethodHandle" ∧ y.cls ≠ "java/lang/invoke/VarHandle" ∧ (parseMethodDescriptor y.desc).map (fun d => d.parameters.length) = some n) (hR : rm.frames + 1 ≤ R.frames ∧ 8 + (maxL + 11) + rm.locals ≤ R.locals)
    (hE : EK D cI cB cZ cO s) (hP : va_P D vwCl ws H) (is : List Nat) (hs : is.filterMap (fun i => ws[i]?) = wc) (ci q0 : Nat) {T : u_T} {N : Nat} {fs : List Value} (hc : vwCl[ci]? = some (C, T, N)) (he : wc[q0]? = some (b, .inr (ci, fs))) (hn : As.length = n) (hsize : ls.size = nL) (hst : st0 = As.reverse ++ .ref b :: rest) (hW : (rest.map fun v => v.category).sum ≤ 8) (hdg : decode cc pc = .ok (.invokevirtual index, 3)) (hf : cells ≤ R.cells ∧ slots ≤ R.slots)
    (kk : W p l e R s m args below meth c H locs cells slots Q (F0 m (pc + 3) ls (.int (iI r) :: rest))) : W p l e R s m args below meth c H locs cells slots Q (F0 m pc ls st0) := by
  have hPc : va_P D vwCl wc H := hP.sub is hs
  exact r_callO (va_runV (As := As) (rest := rest) S hM (cwV n S.2.2.2.2 hG hw hm.1 hm.2 hd hR) ⟨RO.blind, va_recv hE.1 hPc hc he, fun U hU hW => ⟨rfl, hE.warm hW, by rw [hU]; exact hPc⟩⟩ rfl hn hsize hst (lv_room hW) hdg hf) kk
/-- static, of the own class -/
theorem callSO (S : CallFix p m c cc nL s args Ts own) (hM : Met l y wd rm (va_Pc As (RO D cI cB cZ cO wc)) (QO r) 0 0 (fun _ => False)) (hG : GoodIn Ts (wsS own index y wd)) (hw : wd = Cond.code y bytes maxL ret :: wd') (hm : rm.cells = 0 ∧ rm.slots = 0)
    (hd : y.cls = own ∧ y.cls ≠ "java/lang/invoke/MethodHandle" ∧ y.cls ≠ "java/lang/invoke/VarHandle" ∧ (parseMethodDescriptor y.desc).map (fun d => d.parameters.length) = some n) (hR : rm.frames + 1 ≤ R.frames ∧ 8 + (maxL + 11) + rm.locals ≤ R.locals)
    (hE : EK D cI cB cZ cO s) (hP : va_P D vwCl ws H) (is : List Nat) (hs : is.filterMap (fun i => ws[i]?) = wc) (hn : As.length = n) (hsize : ls.size = nL) (hst : st0 = As.reverse ++ rest) (hW : (rest.map fun v => v.category).sum ≤ 8) (hdg : decode cc pc = .ok (.invokestatic index, 3)) (hf : cells ≤ R.cells ∧ slots ≤ R.slots)
    (kk : W p l e R s m args below meth c H locs cells slots Q (F0 m (pc + 3) ls (.int (iI r) :: rest))) : W p l e R s m args below meth c H locs cells slots Q (F0 m pc ls st0) := by
  have hPc : va_P D vwCl wc H := hP.sub is hs
  exact r_callO (va_runS (As := As) (rest := rest) S hM (cwS n S.2.2.2.2 hG hw hm.1 hm.2 hd hR) ⟨RO.blind, fun U hU hW => ⟨rfl, hE.warm hW, by rw [hU]; exact hPc⟩⟩ rfl hn hsize hst (lv_room hW) hdg hf) kk
/-- static, of a nest mate -/
theorem callNO (S : CallFix p m c cc nL s args Ts own) (hM : Met l y wd rm (va_Pc As (RO D cI cB cZ cO wc)) (QO r) 0 0 (fun _ => False)) (hG : GoodIn Ts wd) (hw : wd = Cond.code y bytes maxL ret :: wd') (hm : rm.cells = 0 ∧ rm.slots = 0)
    (hl : va_Nw (.methodLinkNest own index y host) s) (hini : (Cond.initialized y.cls).before args s = true) (hstat : (Cond.static y).before args s = true)
    (hd : y.cls ≠ "java/lang/invoke/MethodHandle" ∧ y.cls ≠ "java/lang/invoke/VarHandle" ∧ (parseMethodDescriptor y.desc).map (fun d => d.parameters.length) = some n) (hR : rm.frames + 1 ≤ R.frames ∧ 8 + (maxL + 11) + rm.locals ≤ R.locals)
    (hE : EK D cI cB cZ cO s) (hP : va_P D vwCl ws H) (is : List Nat) (hs : is.filterMap (fun i => ws[i]?) = wc) (hn : As.length = n) (hsize : ls.size = nL) (hst : st0 = As.reverse ++ rest) (hW : (rest.map fun v => v.category).sum ≤ 8) (hdg : decode cc pc = .ok (.invokestatic index, 3)) (hf : cells ≤ R.cells ∧ slots ≤ R.slots)
    (kk : W p l e R s m args below meth c H locs cells slots Q (F0 m (pc + 3) ls (.int (iI r) :: rest))) : W p l e R s m args below meth c H locs cells slots Q (F0 m pc ls st0) := by
  have hPc : va_P D vwCl wc H := hP.sub is hs
  exact r_callO (va_runSN (As := As) (rest := rest) S hM ⟨va_cnB n S.2.2.2.2 hG hw hm.1 hm.2 hl hini hd hR, hstat, trivial⟩ ⟨RO.blind, fun U hU hW => ⟨rfl, hE.warm hW, by rw [hU]; exact hPc⟩⟩ rfl hn hsize hst (lv_room hW) hdg hf) kk
/-- static, of another class -/
theorem callFO (S : CallFix p m c cc nL s args Ts own) (hM : Met l y wd rm (va_Pc As (RO D cI cB cZ cO wc)) (QO r) 0 0 (fun _ => False)) (hG : GoodIn Ts (va_wsS own index y wd)) (hw : wd = Cond.code y bytes maxL ret :: wd') (hm : rm.cells = 0 ∧ rm.slots = 0)
    (hd : y.cls ≠ "java/lang/invoke/MethodHandle" ∧ y.cls ≠ "java/lang/invoke/VarHandle" ∧ (parseMethodDescriptor y.desc).map (fun d => d.parameters.length) = some n) (hR : rm.frames + 1 ≤ R.frames ∧ 8 + (maxL + 11) + rm.locals ≤ R.locals)
    (hE : EK D cI cB cZ cO s) (hP : va_P D vwCl ws H) (is : List Nat) (hs : is.filterMap (fun i => ws[i]?) = wc) (hn : As.length = n) (hsize : ls.size = nL) (hst : st0 = As.reverse ++ rest) (hW : (rest.map fun v => v.category).sum ≤ 8) (hdg : decode cc pc = .ok (.invokestatic index, 3)) (hf : cells ≤ R.cells ∧ slots ≤ R.slots)
    (kk : W p l e R s m args below meth c H locs cells slots Q (F0 m (pc + 3) ls (.int (iI r) :: rest))) : W p l e R s m args below meth c H locs cells slots Q (F0 m pc ls st0) := by
  have hPc : va_P D vwCl wc H := hP.sub is hs
  exact r_callO (va_runS (As := As) (rest := rest) S hM (va_cwS n S.2.2.2.2 hG hw hm.1 hm.2 hd hR) ⟨RO.blind, fun U hU hW => ⟨rfl, hE.warm hW, by rw [hU]; exact hPc⟩⟩ rfl hn hsize hst (lv_room hW) hdg hf) kk
/-- behind a call that writes: the cells, in the caller's order again -/
theorem r_callX {S : Type} {val : S → Option Value} {post : S → Prop} {wo ws2 : S → va_W} {x : Array Value} (hP : va_P D vwCl ws H) (hD : va_D A ws) (hS : va_S A H0 H locs) (hA : ∀ q, H0.size ≤ q → A q) (is iR ip : List Nat) (hs : is.map (fun i => ws[i]?) = wc.map some) (hR : iR.map (fun i => ws[i]?) = wr.map some) (hn : va_nd iR = true) (hdis : ∀ i ∈ iR, i ∉ is) (hnp : va_nd ip = true) (hp : ∀ u, ip.map (fun i => (wr ++ wo u)[i]?) = (ws2 u).map some)
    (hr : va_Run p l e R s m args below meth c H locs cells slots mc ms (F0 m pc ls st0) rest (QX D val post wo (va_A wc H.size) x) (va_A wc H.size))
    (kk : ∀ (u : S), post u → ∀ (H1 : Heap) (locs1 : List Loc), va_P D vwCl (ws2 u) H1 → va_D A (ws2 u) → va_S A H0 H1 locs1 → W p l e R s m args below meth c H1 locs1 (cells + mc) (slots + ms) Q (F0 m (pc + 3) ls ((val u).toList ++ rest))) : W p l e R s m args below meth c H locs cells slots Q (F0 m pc ls st0) := by
  have hF := va_free hD hS hA is hs
  intro T hT X
  obtain ⟨v, st₀, t, T', L, h0, X', hL, e1, e2, ⟨u, hv, hpost, hP1, hD1, hz, hk⟩, st⟩ := hr T hT X
  cases hv
  rw [h0] at hz hk
  rw [← e1] at hP1 hz hk
  obtain ⟨hP2, hD2⟩ := va_join hP hD is iR hs hR hn hdis (fun q h1 h2 => hk q h1 h2) hF hP1 hD1
  have hP3 : va_P D vwCl (ws2 u) T'.heap := by
    intro k q hkq
    have h1 : (ip.map (fun i => (wr ++ wo u)[i]?))[k]? = some (some q) := by rw [hp u, List.getElem?_map, hkq]; rfl
    rw [List.getElem?_map] at h1
    cases hi : ip[k]? with
    | none => rw [hi] at h1; cases h1
    | some i =>
      rw [hi] at h1
      exact hP2 i q (Option.some.inj h1)
  obtain ⟨t2, a1, b1⟩ := kk u hpost T'.heap (locs ++ L) hP3 (hD2.sub ip hnp (hp u)) ⟨Nat.le_trans hS.1 hz, fun q h1 h2 => by rw [hk q (Nat.lt_of_lt_of_le h1 hS.1) (fun z => h2 (hF q z))]; exact hS.2.1 q h1 h2, fun q hq => by
      rcases List.mem_append.mp hq with h | h
      · exact hS.2.2 q h
      · exact hF _ (hL q h)⟩ T' rfl X'
  exact ⟨t2, st t2 a1, b1⟩
theorem wsub {D : va_G} {ws wc : va_W} {H : Heap} (hP : va_P D vwCl ws H) (is : List Nat) (hs : is.map (fun i => ws[i]?) = wc.map some) : va_P D vwCl wc H := by
  intro k q hkq
  have h1 : (is.map (fun i => ws[i]?))[k]? = some (some q) := by rw [hs, List.getElem?_map, hkq]; rfl
  rw [List.getElem?_map] at h1
  cases hi : is[k]? with
  | none => rw [hi] at h1; cases h1
  | some i =>
    rw [hi] at h1
    exact hP i q (Option.some.inj h1)
theorem callVX {S9 : Type} {val : S9 → Option Value} {post : S9 → Prop} {wo ws2 : S9 → va_W} (S : CallFix p m c cc nL s args Ts own) (hE : EK D cI cB cZ cO s) (hP : va_P D vwCl ws H) (hD : va_D A ws) (hS : va_S A H0 H locs) (hA : ∀ q, H0.size ≤ q → A q) (hM : Met l y wd rm (va_Pc (.ref b :: As) (RW D cI cB cZ cO H.size wc)) (QX D val post wo (va_A wc H.size)) mc ms (va_A wc H.size)) (hG : GoodIn Ts (wsV own index C y wd)) (hw : wd = Cond.code y bytes maxL ret :: wd') (hm : rm.cells = mc ∧ rm.slots = ms)
    (hd : y.cls = C ∧ y.cls ≠ "java/lang/invoke/MethodHandle" ∧ y.cls ≠ "java/lang/invoke/VarHandle" ∧ (parseMethodDescriptor y.desc).map (fun d => d.parameters.length) = some n) (hR : rm.frames + 1 ≤ R.frames ∧ 8 + (maxL + 11) + rm.locals ≤ R.locals)
    (is iR ip : List Nat) (hs : is.map (fun i => ws[i]?) = wc.map some) (hsn : va_nd is = true) (hRr : iR.map (fun i => ws[i]?) = wr.map some) (hnn : va_nd iR = true) (hdis : ∀ i ∈ iR, i ∉ is) (hnp : va_nd ip = true) (hp : ∀ u, ip.map (fun i => (wr ++ wo u)[i]?) = (ws2 u).map some)
    (ci q0 : Nat) {T : u_T} {N : Nat} {fs : List Value} (hc : vwCl[ci]? = some (C, T, N)) (he : wc[q0]? = some (b, .inr (ci, fs))) (hn : As.length = n) (hsize : ls.size = nL) (hst : st0 = As.reverse ++ .ref b :: rest) (hW : (rest.map fun v => v.category).sum ≤ 8) (hdg : decode cc pc = .ok (.invokevirtual index, 3)) (hf : cells + mc ≤ R.cells ∧ slots + ms ≤ R.slots)
    (kk : ∀ (u : S9), post u → ∀ (H1 : Heap) (locs1 : List Loc), va_P D vwCl (ws2 u) H1 → va_D A (ws2 u) → va_S A H0 H1 locs1 → W p l e R s m args below meth c H1 locs1 (cells + mc) (slots + ms) Q (F0 m (pc + 3) ls ((val u).toList ++ rest))) : W p l e R s m args below meth c H locs cells slots Q (F0 m pc ls st0) := by
  have hPc : va_P D vwCl wc H := wsub hP is hs
  have hDc : va_D (fun _ => True) wc := (hD.sub is hsn hs).weaken (fun _ _ _ _ => trivial)
  exact r_callX hP hD hS hA is iR ip hs hRr hnn hdis hnp hp (va_runV (As := As) (rest := rest) S hM (cwV n S.2.2.2.2 hG hw hm.1 hm.2 hd hR) ⟨RW.blind, va_recv hE.1 hPc hc he, fun U hU hW => ⟨rfl, by rw [hU], hE.warm hW, by rw [hU]; exact hPc, hDc⟩⟩ rfl hn hsize hst (lv_room hW) hdg hf) kk
theorem callIX {S9 : Type} {val : S9 → Option Value} {post : S9 → Prop} {wo ws2 : S9 → va_W} (S : CallFix p m c cc nL s args Ts own) (hE : EK D cI cB cZ cO s) (hP : va_P D vwCl ws H) (hD : va_D A ws) (hS : va_S A H0 H locs) (hA : ∀ q, H0.size ≤ q → A q) (hM : Met l y wd rm (va_Pc (.ref b :: As) (RW D cI cB cZ cO H.size wc)) (QX D val post wo (va_A wc H.size)) mc ms (va_A wc H.size)) (hG : GoodIn Ts wd) (hw : wd = Cond.code y bytes maxL none :: wd') (hm : rm.cells = mc ∧ rm.slots = ms)
    (hi : (Cond.initialized y.cls).before args s = true) (hl : (Cond.methodLink own index y).before args s = true) (hin : (Cond.instanceMethod y).before args s = true) (hy : y.name = "<init>") (hd : y.cls ≠ "java/lang/invoke/MethodHandle" ∧ y.cls ≠ "java/lang/invoke/VarHandle" ∧ (parseMethodDescriptor y.desc).map (fun d => d.parameters.length) = some n) (hR : rm.frames + 1 ≤ R.frames ∧ 8 + (maxL + 11) + rm.locals ≤ R.locals)
    (is iR ip : List Nat) (hs : is.map (fun i => ws[i]?) = wc.map some) (hsn : va_nd is = true) (hRr : iR.map (fun i => ws[i]?) = wr.map some) (hnn : va_nd iR = true) (hdis : ∀ i ∈ iR, i ∉ is) (hnp : va_nd ip = true) (hp : ∀ u, ip.map (fun i => (wr ++ wo u)[i]?) = (ws2 u).map some)
    (hn : As.length = n) (hsize : ls.size = nL) (hst : st0 = As.reverse ++ .ref b :: rest) (hW : (rest.map fun v => v.category).sum ≤ 8) (hdg : decode cc pc = .ok (.invokespecial index, 3)) (hf : cells + mc ≤ R.cells ∧ slots + ms ≤ R.slots)
    (kk : ∀ (u : S9), post u → ∀ (H1 : Heap) (locs1 : List Loc), va_P D vwCl (ws2 u) H1 → va_D A (ws2 u) → va_S A H0 H1 locs1 → W p l e R s m args below meth c H1 locs1 (cells + mc) (slots + ms) Q (F0 m (pc + 3) ls ((val u).toList ++ rest))) : W p l e R s m args below meth c H locs cells slots Q (F0 m pc ls st0) := by
  have hPc : va_P D vwCl wc H := wsub hP is hs
  have hDc : va_D (fun _ => True) wc := (hD.sub is hsn hs).weaken (fun _ _ _ _ => trivial)
  exact r_callX hP hD hS hA is iR ip hs hRr hnn hdis hnp hp (va_runI (As := As) (rest := rest) S hM (cwI n S.2.2.2.2 hG hw hm.1 hm.2 hi hl hin hy hd hR) ⟨RW.blind, fun U hU hW => ⟨rfl, by rw [hU], hE.warm hW, by rw [hU]; exact hPc, hDc⟩⟩ rfl hn hsize hst (lv_room hW) hdg hf) kk
theorem callNX {S9 : Type} {val : S9 → Option Value} {post : S9 → Prop} {wo ws2 : S9 → va_W} (S : CallFix p m c cc nL s args Ts own) (hE : EK D cI cB cZ cO s) (hP : va_P D vwCl ws H) (hD : va_D A ws) (hS : va_S A H0 H locs) (hA : ∀ q, H0.size ≤ q → A q) (hM : Met l y wd rm (va_Pc (.ref b :: As) (RW D cI cB cZ cO H.size wc)) (QX D val post wo (va_A wc H.size)) mc ms (va_A wc H.size)) (hG : GoodIn Ts wd) (hw : wd = Cond.code y bytes maxL none :: wd') (hm : rm.cells = mc ∧ rm.slots = ms)
    (hi : (Cond.initialized y.cls).before args s = true) (hl : va_Nw (.methodLinkNest own index y host) s) (hin : (Cond.instanceMethod y).before args s = true) (hy : y.name = "<init>") (hd : y.cls ≠ "java/lang/invoke/MethodHandle" ∧ y.cls ≠ "java/lang/invoke/VarHandle" ∧ (parseMethodDescriptor y.desc).map (fun d => d.parameters.length) = some n) (hR : rm.frames + 1 ≤ R.frames ∧ 8 + (maxL + 11) + rm.locals ≤ R.locals)
    (is iR ip : List Nat) (hs : is.map (fun i => ws[i]?) = wc.map some) (hsn : va_nd is = true) (hRr : iR.map (fun i => ws[i]?) = wr.map some) (hnn : va_nd iR = true) (hdis : ∀ i ∈ iR, i ∉ is) (hnp : va_nd ip = true) (hp : ∀ u, ip.map (fun i => (wr ++ wo u)[i]?) = (ws2 u).map some)
    (hn : As.length = n) (hsize : ls.size = nL) (hst : st0 = As.reverse ++ .ref b :: rest) (hW : (rest.map fun v => v.category).sum ≤ 8) (hdg : decode cc pc = .ok (.invokespecial index, 3)) (hf : cells + mc ≤ R.cells ∧ slots + ms ≤ R.slots)
    (kk : ∀ (u : S9), post u → ∀ (H1 : Heap) (locs1 : List Loc), va_P D vwCl (ws2 u) H1 → va_D A (ws2 u) → va_S A H0 H1 locs1 → W p l e R s m args below meth c H1 locs1 (cells + mc) (slots + ms) Q (F0 m (pc + 3) ls ((val u).toList ++ rest))) : W p l e R s m args below meth c H locs cells slots Q (F0 m pc ls st0) := by
  have hPc : va_P D vwCl wc H := wsub hP is hs
  have hDc : va_D (fun _ => True) wc := (hD.sub is hsn hs).weaken (fun _ _ _ _ => trivial)
  exact r_callX hP hD hS hA is iR ip hs hRr hnn hdis hnp hp (va_runIN (As := As) (rest := rest) S hM ⟨va_cnB n S.2.2.2.2 hG hw hm.1 hm.2 hl hi hd hR, hy, hin⟩ ⟨RW.blind, fun U hU hW => ⟨rfl, by rw [hU], hE.warm hW, by rw [hU]; exact hPc, hDc⟩⟩ rfl hn hsize hst (lv_room hW) hdg hf) kk
theorem lv_chg {nL : Nat} {L L' : List (Nat × Value)} (h : lv_has ls nL L) (k i : Nat) {x z : Int} (hk : L[k]? = some (i, .int (iI x))) (hxz : x = z) (hL : L.set k (i, .int (iI z)) = L') : lv_has ls nL L' := by
  subst hxz
  have : L.set k (i, .int (iI x)) = L := by
    apply List.ext_getElem?
    intro j
    rw [List.getElem?_set]
    split
    · next hj => subst hj; rw [hk]; simp; exact (List.getElem?_eq_some_iff.mp hk).1
    · rfl
  rw [← hL, this]
  exact h
end ENV
