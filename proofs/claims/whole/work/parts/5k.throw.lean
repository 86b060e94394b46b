/-! THE CLASS THROWS -/
/-- a static field of references, as the tables and its cell hold it -/
def StA (C f d : String) (U : State) : Prop := (Cond.laysStatic C f d).before #[] U = true ∧ (Cond.isRef (.static C f d)).before #[] U = true
/-- the cells of static fields are kept -/
def KpS (H H1 : Heap) : Prop := ∀ (a : Nat) (cell : Cell), H[a]? = some cell → cell.vm.isStatics = true → H1[a]? = some cell
theorem KpS.rf {H : Heap} : KpS H H := fun _ _ h _ => h
theorem StA.moved {C f d : String} {s U : State} (hW : s.vm.Alike U.vm) (hH : KpS s.heap U.heap) (h : StA C f d s) : StA C f d U := by
  obtain ⟨h1, h2⟩ := h
  obtain ⟨c, k, i, fd, a, cell, hc, hi, hst, ha, hcell, hs, hcls, hlt, hty⟩ := Cond.laysStatic_spec h1
  obtain ⟨k', hi', hek⟩ := State.fieldFound?_setVm hW hi
  have hiU : U.fieldFound? C f d = some (c, k', i, fd) := by simpa only [State.fieldFound?, State.vm_setVm] using hi'
  have hcU := hH a cell hcell hs
  have hv : cell.slots[fd.slot]? = some cell.slots[fd.slot] := Array.getElem?_eq_getElem hlt
  have es : (Term.static C f d).eval #[] s none [] s = some cell.slots[fd.slot] := Term.static_eval hi hst ha hcell hs hv
  have eU : (Term.static C f d).eval #[] U none [] U = some cell.slots[fd.slot] := Term.static_eval hiU hst (by rw [hek]; exact ha) hcU hs hv
  refine ⟨Cond.laysStatic_of (s := U) (by rw [hW.findClass]; exact hc) hiU hst (by rw [hek]; exact ha) hcU hs hcls hlt (by rw [hek]; exact hty), ?_⟩
  simp only [Cond.before, Cond.holds, Cond.value, es] at h2
  simp only [Cond.before, Cond.holds, Cond.value, eU]
  exact h2
def thW : List (Nat × String) := [(105, "there are 32 marks"), (116, "no such mark"), (141, "n is not 1 .. 16")]
def stL : List Cond := [.laysStatic Bundle.tN "UNASSIGNED_STACK" Bundle.steD, .laysStatic Bundle.tN "SUPPRESSED_SENTINEL" Bundle.listD, .isRef (.static Bundle.tN "UNASSIGNED_STACK" Bundle.steD), .isRef (.static Bundle.tN "SUPPRESSED_SENTINEL" Bundle.listD)]
def thD : List Cond := [.declares ⟨"java/lang/RuntimeException", "<init>", "(Ljava/lang/String;)V"⟩, .declares ⟨"java/lang/Exception", "<init>", "(Ljava/lang/String;)V"⟩, .declares ⟨"java/lang/Throwable", "<init>", "(Ljava/lang/String;)V"⟩, .castable "java/lang/UnsupportedOperationException" "java/lang/UnsupportedOperationException", .castable "java/lang/IndexOutOfBoundsException" "java/lang/IndexOutOfBoundsException", .castable "java/lang/IllegalArgumentException" "java/lang/IllegalArgumentException"]
def isTh (w : Cond) : Bool := match w with
  | .declares .. => true
  | .castable .. => true
  | _ => false
theorem thD_ok : thD.all isTh = true := by decide +kernel
theorem thD_tab : ∀ w ∈ thD, w.onTables = true := fun w h => by
  have := List.all_eq_true.mp thD_ok w h
  cases w <;> first | rfl | cases this
theorem isTh_warm {w : Cond} (hw : isTh w = true) {s U : State} (hW : s.WarmedH U.vm) (hZ : va_Nw w s) : va_Nw w U := by
  cases w <;> first | exact va_Nw.warmD hW hZ | exact va_Nw.warmC hW hZ | cases hw
/-- what a method that throws goes by, beside the tables -/
def Th (U : State) : Prop := StA Bundle.tN "UNASSIGNED_STACK" Bundle.steD U ∧ StA Bundle.tN "SUPPRESSED_SENTINEL" Bundle.listD U ∧ (∀ q ∈ thW, ∃ a, vk_R R_PK q.1 q.2 a U) ∧ ∀ w ∈ thD, va_Nw w U
theorem Th.moved {s U : State} (hW : s.WarmedH U.vm) (hH : KpS s.heap U.heap) (h : Th s) : Th U :=
  ⟨h.1.moved hW.alike hH, h.2.1.moved hW.alike hH, fun q hq => (h.2.2.1 q hq).elim fun a ha => ⟨a, ha.warm hW⟩, fun w hw => isTh_warm (List.all_eq_true.mp thD_ok w hw) hW (h.2.2.2 w hw)⟩
theorem Th.calling {U : State} {g : JFrame} {mk : MethodId} {a : Array Value} (h : Th U) : Th (U.calling g mk a) := Th.moved (s := U) (State.WarmedH.refl U) KpS.rf h
def MQT (below : List Frame) (X : String) (a : Array Value) (s : State) : State → Prop := fun t => ∃ o, t.status = .running ∧ Ended t below o ∧ QT X a s o t
theorem MetT.ofW {l : Launch} {y : MethodName} {ws ws' : List Cond} {rm : Room} {Pc : Array Value → State → Prop} {X : String} {cc : ByteArray} {maxL : Nat} {ret : Option FieldType}
    (hy : plainName y.cls = true) (hw : ws = Cond.code y cc maxL ret :: ws')
    (body : ∀ p e s m args below meth c s₁, BodyLoose p l y (headSpec ws rm) cc maxL ret e s m args below meth c s₁ → c.maxLocals = maxL → Pc args s →
      W p l e (headSpec ws rm).room s m args below meth c s.heap [] 0 0 (MQT below X args s) (entryFrame m args maxL)) : MetT l y ws rm Pc X := by
  refine MetFree.of_bodyS (code := cc) (maxLocals := maxL) (ret := ret) hy ?_ ?_
  · intro args s m h hn
    obtain ⟨meth, c, h1, h2, h3, h4, h5, h6, -, -⟩ := Cond.code_spec hn (atoms_spec (ws := ws) h _ (by rw [hw]; exact List.mem_cons_self))
    exact ⟨meth, c, h1, h2, h3, h4, h5, h6⟩
  · intro p e s m args below meth c s₁ B hml hP _
    have hh0 : s₁.heap = s.heap := by rw [B.state]; rfl
    obtain ⟨t, a1, o, b1, b2, b3⟩ := body p e s m args below meth c s₁ B hml hP s₁ hh0 (Stand.of_body B)
    exact ⟨t, o, a1, b1, b2, b3⟩
theorem throwS {p : Program} {l : Launch} {e : Env} {R : Room} {s : State} {m : MethodId} {args : Array Value} {below : List Frame} {meth : Method} {c : Code} {cc : ByteArray} (hexec : p.tables.exec = Jvm.exec) (hb : c.code = cc) (hlocks : meth.locks = false) (htab : c.exceptionTable.isEmpty = true) (htr : l.stackTraces = false) {own X tx : String} {names : List String} {i1 i2 ic : Nat} (hown : s.vm.findClass own = some m.cls) (hcls : Bundle.fit X = true) (hnames : ∀ n ∈ names, Bundle.fit n = true)
   (hat : ∀ a ∈ Bundle.ownAtoms own ic X names, a.before args s = true) (hcl : (Cond.classLink own i1 X).before args s = true) (hini : (Cond.initialized X).before args s = true) (hstr : (Cond.stringRef own i2 tx).before args s = true)
   {pc : Nat} {ls : Array Slot} (hsz : ls.size = c.maxLocals) (d0 : decode cc pc = .ok (.new i1, 3)) (d1 : decode cc (pc + 3) = .ok (.dup, 1)) (d2 : decode cc (pc + 4) = .ok (.ldc i2, 2)) (d3 : decode cc (pc + 6) = .ok (.invokespecial ic, 3)) (d4 : decode cc (pc + 9) = .ok (.athrow, 1)) (hR : names.length + 3 < R.frames ∧ 9 + (13 * (names.length + 1) + 42) ≤ R.locals ∧ 1 ≤ R.cells ∧ 6 ≤ R.slots) :
   W p l e R s m args below meth c s.heap [] 0 0 (MQT below X args s) (F0 m pc ls []) := by
  intro T hT X₀
  subst hb
  have htr' : e.platform.stackTraces = false := by rw [X₀.admits.platform]; exact htr
  obtain ⟨vm₁, cX, kX, hfX, hkX, -, -, X₁, st1⟩ := X₀.newCold hexec (own := own) (C := X) (index := i1) (n := 6) hown hcl (hat (.instantiable X 6) (by simp [Bundle.ownAtoms])) hini (g := F0 m pc ls []) rfl d0 (by omega) (by omega)
  generalize hU : (T.setVm vm₁).pushCell { cls := cX, slots := kX.instanceTypes.map defaultValue, vm := .none } = U at X₁ st1
  have hcellA : U.heap[T.heap.size]? = some (freshCell cX kX) := by rw [← hU]; exact State.heap_pushCell_size _ _
  obtain ⟨-, -, -, sa, -, -, -, -, -, hev⟩ := Cond.stringRef_spec hown hstr
  have hmr : 2 * (F0 m (pc + 6) ls [.ref sa, .ref T.heap.size, .ref T.heap.size]).monitorRoom + (([Value.ref T.heap.size] : List Value).map fun v => v.category).sum ≤ 8 := lv_room (Nat.le_of_ble_eq_true rfl)
  obtain ⟨V, hsteps, hrun, hend, hW, hsame, ce, hce, K⟩ := X₁.ctorThrowS hexec htr' (own := own) (cls := X) (names := names) (ic := ic) hown hcls hnames hat (fun y hy => by cases hy) hfX hkX hcellA (by rw [hT]; exact Nat.le_refl _) (msg := .ref sa) rfl
     (g := F0 m (pc + 6) ls [.ref sa, .ref T.heap.size, .ref T.heap.size]) rfl hsz rfl rfl (rest := []) rfl d3 d4 (covers_of_empty htab _) hR.1 (by have := hR.2.1; omega) hlocks
  refine ⟨V, st1 _ ?_, .threw T.heap.size, hrun, hend, T.heap.size, ce, rfl, by rw [hT]; exact Nat.le_refl _, hce, K.vm, K.cls, K.self, hW, hsame⟩
  show Steps p.tables e below (U.setTop (F0 m (pc + 3) ls [.ref T.heap.size])) _
  jvm_step X₁.here [X₁.here.top, hexec, d1, Value.category]
  exact X₁.ldcString hexec (own := own) (text := tx) (index := i2) (a := sa) hown hstr hev (g := F0 m (pc + 4) ls [.ref T.heap.size, .ref T.heap.size]) rfl d2 _ hsteps
