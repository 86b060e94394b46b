/-! CATCHING, where the handler's class has not been resolved yet -/
/-- the search ends at h, with the tables as resolution leaves them -/
def FindsV (e : Env) (s : State) (f : JFrame) (a : Addr) (h : Handler) (vm' : Vm) : Prop :=
  ∀ (Q : Handler → Pre) (E : CtlPost) (d : Bool) (acts : List Action), Sem.wp (findHandler f a) Q E e d acts s ↔ Q h d acts (s.setVm vm')
theorem findsCold {e : Env} {s : State} {f : JFrame} {a : Addr} {mt : Method} {code : Code} {x : ClassFile.ExceptionTableEntry} (hm : s.vm.method? f.method = some mt) (hc : mt.code = some code) (hsplit : code.exceptionTable.toList = [x]) (hx : covers x f.pc = true) (h0 : x.catchType ≠ 0) {c : ClassId} {cell : Cell} {vm' : Vm}
    (hg : (Jvm.resolveClass f.method.cls x.catchType).Gives e.toSetting s.vm (.ok c) vm') (hsz : vm'.classes.size ≤ s.vm.classes.size)
    (hcell : s.heap[a]? = some cell) (hobj : ∀ k, cell.vm ≠ .statics k) (hk : ∃ k, vm'.classes[cell.cls]? = some k) (hcl : ∃ k, vm'.classes[c]? = some k) (hfit : vm'.assignable cell.cls c = true) : FindsV e s f a (.found x.handlerPc) vm' := by
  intro Q E d acts
  rw [W.findHandler_eq hm hc, hsplit]
  simp only [covers] at hx
  obtain ⟨ha, ht⟩ := hg.op (op := VmOp.resolveClass f.method.cls x.catchType) rfl
  simp [findHandler.go, hx, h0, ha, ht, hsz, hcell, hobj, hk, hcl, hfit, VmOp.dirties, VmOp.acts]
theorem stepThrowing_catchV {e : Env} {s : State} {a : Addr} {f : JFrame} {r : List Frame} {pc : Nat} {vm' : Vm} (hfind : FindsV e s f a (.found pc) vm') :
    (stepThrowing e s a (.java f :: r)).Is ((s.setVm vm').setFrames (.java { f with pc := pc, stack := [.ref a] } :: r)) [] := by
  simp only [stepThrowing, searchFrame, vmDo]
  generalize hr : Sem.go _ e false [] s = res
  obtain ⟨as, rfl, ha⟩ := Sem.eq_ok_of hr (a := Handler.found pc) (s' := s.setVm vm') (acts' := []) (by simp [hfind _ _ _ _])
  exact ⟨rfl, ha⟩
theorem stepsCaughtV {tb : Tables} {e : Env} {s target : State} {g : JFrame} {c : Code} {below : List Frame} {a : Addr} (h : Jvm.At s g.method c below) {pc : Nat} {vm' : Vm} (hfind : FindsV e ((s.setTop g).pushFrame (.throwing a)) g a (.found pc) vm')
    (hrest : Steps tb e below ((s.setVm vm').setTop { g with pc := pc, stack := [.ref a] }) target) :
    Steps tb e below ((s.setTop g).pushFrame (.throwing a)) target := by
  obtain ⟨hgo, hw⟩ := h.throwing a
  refine Steps.head hgo hw ?_
  rw [stepThread_throwing (frames_entered h.top _), (stepThrowing_catchV (s := (s.setTop g).pushFrame (.throwing a)) hfind).1]
  obtain ⟨g₀, hg⟩ := Option.isSome_iff_exists.mp h.top
  obtain ⟨r, hr⟩ := State.topJava?_eq_some.mp hg
  have hr' : (s.setVm vm').frames = .java g₀ :: r := hr
  rw [State.setTop_of_frames _ hr'] at hrest
  have e1 : (((s.setTop g).pushFrame (.throwing a)).setVm vm').setFrames (.java { g with pc := pc, stack := [.ref a] } :: s.frames.tail) = (s.setVm vm').setFrames (.java { g with pc := pc, stack := [.ref a] } :: r) := by
    rw [State.pushFrame, State.setTop_of_frames _ hr, State.setFrames_setFrames, hr]
    show ((s.setVm vm').setFrames _).setFrames _ = _
    rw [State.setFrames_setFrames]
    rfl
  rw [e1]
  exact hrest
/-! CALLS THAT THROW -/
/-- an object of class X, just made, is thrown; nothing else has changed -/
def QT (X : String) : Array Value → State → Outcome → State → Prop := fun _ st o t => ∃ (x : Addr) (ce : Cell), o = .threw x ∧ st.heap.size ≤ x ∧ t.heap[x]? = some ce ∧ ce.vm = .none ∧ st.vm.findClass X = some ce.cls ∧ st.vm.assignable ce.cls ce.cls = true ∧ st.WarmedH t.vm ∧ st.sameButNew ({ t with vm := st.vm } : State) [] 1 6
def MetT (l : Launch) (y : MethodName) (ws : List Cond) (rm : Room) (Pc : Array Value → State → Prop) (X : String) : Prop := MetFree l y (headSpec ws rm) Pc (fun _ _ _ _ _ => True) (QT X)
theorem same_nil {s t : State} {k n : Nat} (h : s.sameButNew t [] k n) : s.heap.size ≤ t.heap.size ∧ ∀ q : Nat, q < s.heap.size → t.heap[q]? = s.heap[q]? := by
  refine ⟨h.2.1, fun q hq => ?_⟩
  have h1 : s.heap[q]? = some s.heap[q] := Array.getElem?_eq_getElem hq
  obtain ⟨c', h2, h3, -, h5⟩ := h.2.2.2.2.2 q _ h1
  have h6 : c'.slots = (s.heap[q]).slots := Array.ext_getElem? (fun i => h5 i (by intro z; cases z))
  rw [h2, h1, h3, h6]
section CT
variable {p : Program} {l : Launch} {e : Env} {R : Room} {s : State} {m : MethodId} {args : Array Value} {below : List Frame} {meth : Method} {c : Code} {H : Heap} {locs : List Loc} {cells slots : Nat} {Q : State → Prop}
variable {own C : String} {index n maxL nL : Nat} {y : MethodName} {bytes cc : ByteArray} {ret : Option FieldType} {ws Ts : List Cond} {rm : Room} {Pc : Array Value → State → Prop} {Xn : String} {b : Addr} {As rest st0 : List Value} {ls : Array Slot} {pc : Nat}
theorem callVT {T : State} (X : Stand p l e R s m args below meth c T locs cells slots) (hexec : p.tables.exec = Jvm.exec) (hown : s.vm.findClass own = some m.cls) (cw : CallW R s args own C index y bytes maxL ret ws rm 1 6 n) (hM : MetT l y ws rm Pc Xn) (hblind : FrameBlind Pc)
    {cellB : Cell} (hcell : T.heap[b]? = some cellB) (hobj : cellB.vm.isStatics = false) (hcls : s.vm.findClass C = some cellB.cls)
    {g : JFrame} (hg : g.method = m) (hsize : g.locals.size = c.maxLocals) {argsL : List Value} (hn : argsL.length = n) (hstack : g.stack = argsL.reverse ++ .ref b :: rest) (hW : 2 * g.monitorRoom + (rest.map fun v => v.category).sum ≤ 8) (hdg : decode c.code g.pc = .ok (.invokevirtual index, 3)) (hf : cells + 1 ≤ R.cells ∧ slots + 6 ≤ R.slots)
    (hpre : ∀ vm₁, s.WarmedH vm₁ → Pc (Value.ref b :: argsL).toArray (T.setVm vm₁)) :
    ∃ (x : Addr) (ce : Cell) (T' : State), T'.heap[x]? = some ce ∧ ce.vm = .none ∧ s.vm.findClass Xn = some ce.cls ∧ s.vm.assignable ce.cls ce.cls = true ∧ T.heap.size ≤ T'.heap.size ∧ (∀ q, q < T.heap.size → T'.heap[q]? = T.heap[q]?) ∧ Stand p l e R s m args below meth c T' locs (cells + 1) (slots + 6) ∧
      ∀ target, Steps p.tables e below ((T'.setTop { g with stack := rest }).pushFrame (.throwing x)) target → Steps p.tables e below (T.setTop g) target := by
  obtain ⟨⟨hrc, hrs, hfr, hlo, hws, hin0, hcode, hini, hy, hl1, hlink⟩, hinst, hsel⟩ := cw
  obtain ⟨mk, methM, hnamed, hmethM, hstM, habM⟩ := Cond.instanceMethod_spec hinst
  obtain ⟨methM', cM, hmethM', -, -, -, -, -, -, hsigM⟩ := Cond.code_spec hnamed hcode
  cases hmethM.symm.trans hmethM'
  obtain ⟨c2, r2, m2, q1, q2, q3, q4, kP, hkP, hkPi⟩ := Cond.selects_spec hsel
  cases hcls.symm.trans q1
  cases (State.methodFound?_of_named hnamed hy).symm.trans q2
  cases hnamed.symm.trans q3
  have hselP : selectMethod e.platform s.vm cellB.cls mk = .method mk := by rw [Launch.admits_selectMethod X.admits]; exact q4
  obtain ⟨vm₁, X₁, hstep₁⟩ := X.invokevirtual hexec hown hlink hnamed hmethM hstM hkP hkPi hy (a := b) (cell := cellB) hcell
    (fun z h => by rw [h] at hobj; cases hobj) hselP hmethM habM hkP hkPi (g := g) hg (argsL := argsL) (rest := rest) (hn.trans (hl1 _ hsigM)) hstack hdg
  have hnU : (T.setVm vm₁).methodNamed? y = some mk := X₁.named hnamed
  have hW₁ : s.WarmedH (T.setVm vm₁).vm := X₁.warmed
  obtain ⟨methY, cY, hmY, hcY, -, hlY, -⟩ := Cond.code_spec hnU (hws _ hin0 #[] (T.setVm vm₁) hW₁)
  obtain ⟨kY, hkY, -⟩ := className_of_methodNamed hnU
  have hiU : (Cond.initialized y.cls).before #[] (T.setVm vm₁) = true := word_at hW₁ (Or.inl (by first | rfl | simp [Cond.onTables, Cond.keeps, Cond.steady])) hini
  have hinitY : kY.init = .initialized := Cond.initialized_spec (findClass_of_methodNamed hnU) hkY hiU
  generalize hUe : T.setVm vm₁ = U at *
  have hUh : U.heap = T.heap := by rw [← hUe]; rfl
  have h : Jvm.At U g.method c below := by rw [hg]; exact X₁.here
  have happ : (headSpec ws rm).appliesLoose y e.platform (U.calling { g with stack := rest } mk (Value.ref b :: argsL).toArray) = true :=
    Spec.appliesLoose_calling (g := { g with stack := rest }) h hdg hnU hkY hinitY
      (X₁.room_calling (g := { g with stack := rest }) (R' := rm) hsize hmY hcY hfr (by rw [hlY]; show 2 * g.monitorRoom + (rest.map fun v => v.category).sum + (maxL + 11) + rm.locals ≤ R.locals; omega) (by rw [hrc]; exact hf.1) (by rw [hrs]; exact hf.2)) (atoms_intro fun w hw => hws w hw _ _ hW₁)
  obtain ⟨mid, hmid⟩ := h.above
  have hfrm : (U.setTop { g with stack := rest }).frames = (.java { g with stack := rest } :: mid) ++ below := by rw [State.frames_setTop' _ h.top, hmid]; rfl
  obtain ⟨o, s₂, hsteps, -, hend, hq⟩ := Steps.callFree hM p X₁.admits X₁.cas X₁.clock (acts := []) hfrm happ (hblind _ _ _ _ (by have := hpre vm₁ (by rw [← hUe] at hW₁; exact hW₁); rw [hUe] at this; exact this)) trivial
  rw [State.frames_setTop' _ h.top, X₁.tail] at hend
  obtain ⟨x, ce, rfl, hx0, hce, hv, hfc, has, hW2, hsame⟩ := hq
  obtain ⟨T', X', hWT, hsT, ht⟩ := X₁.outOfThrown (g := { g with stack := rest }) hg hend hW2 hsame
  rw [List.append_nil] at X'
  have hT'h : T'.heap = s₂.heap := by rw [ht]; exact (Stand.throwing_heap T' _ x).symm
  obtain ⟨z1, z2⟩ := same_nil hsT
  have hvm : s.vm.Alike U.vm := hW₁.alike
  refine ⟨x, ce, T', by rw [hT'h]; exact hce, hv, ?_, ?_, by rw [← hUh]; exact z1, fun q h => by rw [← hUh] at h ⊢; exact z2 q h, X', fun target ht2 => hstep₁ _ fun acts => ?_⟩
  · have : U.vm.findClass Xn = some ce.cls := hfc
    rw [← hvm.findClass]; exact this
  · have : U.vm.assignable ce.cls ce.cls = true := has
    rw [← hvm.assignable]; exact this
  · rw [doInvoke_state]
    rw [← ht] at ht2
    exact hsteps.trans ht2
theorem caughtV (S : CallFix p m c cc nL s args Ts own) (hM : MetT l y ws rm Pc Xn) (cw : CallW R s args own C index y bytes maxL ret ws rm 1 6 n) (hp : PreV s H C b Pc As) {hpc a0 b0 ct : Nat} (hn : As.length = n) (hsize : ls.size = nL) (hst : st0 = As.reverse ++ .ref b :: rest) (hW : (rest.map fun v => v.category).sum ≤ 8) (hdg : decode cc pc = .ok (.invokevirtual index, 3)) (hf : cells + 1 ≤ R.cells ∧ slots + 6 ≤ R.slots)
    {x' : MethodName} {ret' : Option FieldType} (hnm : s.methodNamed? x' = some m) (hcw : (Cond.codeWith x' cc nL ret' [(a0, b0, hpc, ct)]).before args s = true) (hcov : (decide (a0 ≤ pc) && decide (pc < b0)) = true) (hct : ct ≠ 0) (hcl : (Cond.classLink own ct Xn).before args s = true)
    (kk : ∀ (H1 : Heap) (x : Addr), H.size ≤ H1.size → (∀ q, q < H.size → H1[q]? = H[q]?) → W p l e R s m args below meth c H1 locs (cells + 1) (slots + 6) Q (F0 m hpc ls [.ref x])) : W p l e R s m args below meth c H locs cells slots Q (F0 m pc ls st0) := by
  obtain ⟨hx, hb, hml, ho, -⟩ := S
  obtain ⟨hbl, ⟨cellB, hcB, hoB, hclB⟩, hPc⟩ := hp
  intro T hT X
  obtain ⟨x, ce, T', hce, hcv, hfc, has, hz, hk, X', st⟩ := callVT X hx ho cw hM hbl (by rw [hT]; exact hcB) hoB hclB (g := F0 m pc ls st0) rfl (hsize.trans hml.symm) hn hst (lv_room hW) (by rw [hb]; exact hdg) hf (fun vm₁ hW₁ => hPc (T.setVm vm₁) hT hW₁)
  have hpl : e.platform.magicAccessors = ({} : Platform).magicAccessors := by rw [X.admits.platform]
  obtain ⟨cc0, hfcc, hcl'⟩ := Cond.classLink_spec ho hcl e.platform hpl
  cases hfc.symm.trans hfcc
  obtain ⟨hg₁, hwarm₁, -⟩ := State.classEntry (e := e) X'.warmed hcl'
  obtain ⟨m9, meth9, c9, hn9, hm9, hc9, -, -, htab, -⟩ := Cond.codeWith_spec hcw
  cases hnm.symm.trans hn9
  generalize hvme : T'.vm.noted m.cls ct (.cls ce.cls) = vm' at hg₁ hwarm₁
  have X'' := X'.noted hwarm₁
  have hsz : vm'.classes.size ≤ T'.vm.classes.size := by rw [← hvme]; exact Nat.le_of_eq (Vm.size_noted _ _ _ _)
  obtain ⟨k0, hk0⟩ := Vm.classAt_of_findClass hfc
  obtain ⟨k1, hk1, -⟩ := hwarm₁.alike.2.2 _ _ hk0
  have htab2 : ∃ z : ClassFile.ExceptionTableEntry, c9.exceptionTable.toList = [z] ∧ z.startPc = a0 ∧ z.endPc = b0 ∧ z.handlerPc = hpc ∧ z.catchType = ct := by
    match hl9 : c9.exceptionTable.toList, htab with
    | [z], h9 =>
      rw [List.map_cons, List.map_nil] at h9
      obtain ⟨h9, -⟩ := List.cons.inj h9
      obtain ⟨e1, h9⟩ := Prod.mk.inj h9
      obtain ⟨e2, h9⟩ := Prod.mk.inj h9
      obtain ⟨e3, e4⟩ := Prod.mk.inj h9
      exact ⟨z, rfl, e1, e2, e3, e4⟩
    | [], h9 => cases h9
    | _ :: _ :: _, h9 => cases h9
  obtain ⟨z, hzl, ez1, ez2, ez3, ez4⟩ := htab2
  have hfind : FindsV e ((T'.setTop (F0 m pc ls rest)).pushFrame (.throwing x)) (F0 m pc ls rest) x (.found z.handlerPc) vm' :=
    findsCold (s := (T'.setTop (F0 m pc ls rest)).pushFrame (.throwing x)) (f := F0 m pc ls rest) (mt := meth9) (code := c9) (x := z) (c := ce.cls) (cell := ce) (by rw [Stand.throwing_vm, X'.warmed.alike.method?]; exact hm9) hc9 hzl (by show (decide (z.startPc ≤ pc) && decide (pc < z.endPc)) = true; rw [ez1, ez2]; exact hcov) (by rw [ez4]; exact hct)
      (by rw [Stand.throwing_vm, ez4]; exact hg₁) (by rw [Stand.throwing_vm]; exact hsz) (by rw [Stand.throwing_heap]; exact hce) (fun k h9 => by rw [hcv] at h9; cases h9) ⟨k1, hk1⟩ ⟨k1, hk1⟩ (by rw [hwarm₁.alike.assignable]; exact has)
  rw [ez3] at hfind
  obtain ⟨t, a1, b1⟩ := kk T'.heap x (by rw [← hT]; exact hz) (fun q hq => by rw [← hT] at hq ⊢; exact hk q hq) (T'.setVm vm') rfl X''
  exact ⟨t, st t (stepsCaughtV (g := F0 m pc ls rest) X'.here hfind a1), b1⟩
theorem wide {k n : Nat} {g : JFrame} (h : W p l e R s m args below meth c H locs (cells + k) (slots + n) Q g) : W p l e R s m args below meth c H locs cells slots Q g :=
  fun T hT X => h T hT (stand_widen X (Nat.le_add_right _ _) (Nat.le_add_right _ _))
end CT
