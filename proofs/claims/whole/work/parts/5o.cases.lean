/-! THE LAW'S LOOP, over any pair of worlds that answer alike -/
def Kd (l : Launch) (D : va_G) (cA : ClassId × ClassId × ClassId) (h0 o0 : Nat) (I : va_W → va_W → Prop) : Prop := (∀ uc um, I uc um → (∃ fs, uc[0]? = some (h0, .inr (10, fs))) ∧ ∃ fs, um[0]? = some (o0, .inr (11, fs))) ∧ (∀ uc um, I uc um → ∀ pl : Int32, ∃ (r : Int32) (uc' um' : va_W), I uc' um' ∧ Do l D cA yPK_told wPK_told 3 [.ref h0, .int pl] uc r uc' ∧ Do l D cA yMd_told wMd_told 3 [.ref o0, .int pl] um r um') ∧ (∀ uc um, I uc um → ∀ pl : Int32, ∀ b : Bool, ∃ (r : Int32) (uc' um' : va_W), I uc' um' ∧ Do l D cA yPK_update wPK_update 6 [.ref h0, .int pl, .int (bI b)] uc r uc' ∧ Do l D cA yMd_update wMd_update 7 [.ref o0, .int pl, .int (bI b)] um r um') ∧ (∀ uc um, I uc um → ∀ b : Bool, ∃ (r : Int32) (uc' um' : va_W), I uc' um' ∧ Do l D cA yPK_early wPK_early 3 [.ref h0, .int (bI b)] uc r uc' ∧ Do l D cA yMd_early wMd_early 3 [.ref o0, .int (bI b)] um r um') ∧ (∀ uc um, I uc um → ∃ (r : Int32) (um' : va_W), I uc um' ∧ Rds l D cA yPK_history wPK_history 1 [.ref h0] uc r ∧ Do l D cA yMd_history wMd_history 1 [.ref o0] um r um') ∧ (∀ uc um, I uc um → (∃ (r : Int32) (uc' um' : va_W), I uc' um' ∧ Do l D cA yPK_mark wPK_mark 1 [.ref h0] uc r uc' ∧ Do l D cA yMd_mark wMd_mark 1 [.ref o0] um r um' ∧ Rds l D cA yMd_thrown wMd_thrown 1 [.ref o0] um' 0) ∨ (∃ (r : Int32) (um' : va_W), I uc um' ∧ Thr l D cA yPK_mark wPK_mark 1 [.ref h0] uc "java/lang/UnsupportedOperationException" ∧ Do l D cA yMd_mark wMd_mark 1 [.ref o0] um r um' ∧ Rds l D cA yMd_thrown wMd_thrown 1 [.ref o0] um' 1)) ∧ (∀ uc um, I uc um → ∀ pl : Int32, (∃ (r : Int32) (uc' um' : va_W), I uc' um' ∧ Do l D cA yPK_repair wPK_repair 3 [.ref h0, .int pl] uc r uc' ∧ Do l D cA yMd_repair wMd_repair 3 [.ref o0, .int pl] um r um' ∧ Rds l D cA yMd_thrown wMd_thrown 1 [.ref o0] um' 0) ∨ (∃ (r : Int32) (um' : va_W), I uc um' ∧ Thr l D cA yPK_repair wPK_repair 3 [.ref h0, .int pl] uc "java/lang/IndexOutOfBoundsException" ∧ Do l D cA yMd_repair wMd_repair 3 [.ref o0, .int pl] um r um' ∧ Rds l D cA yMd_thrown wMd_thrown 1 [.ref o0] um' 1)) ∧ (∀ uc um, I uc um → ∀ pl : Int32, ∃ (r : Int32) (um' : va_W), I uc um' ∧ Rds l D cA yPK_row wPK_row 2 [.ref h0, .int pl] uc r ∧ Do l D cA yMd_row wMd_row 4 [.ref o0, .int pl] um r um') ∧ (∀ uc um, I uc um → ∀ pl : Int32, ∃ (r : Int32) (um' : va_W), I uc um' ∧ Rds l D cA yPK_part wPK_part 2 [.ref h0, .int pl] uc r ∧ Do l D cA yMd_part wMd_part 2 [.ref o0, .int pl] um r um') ∧ (∀ uc um, I uc um → ∃ (r : Int32) (um' : va_W), I uc um' ∧ Rds l D cA yPK_storage wPK_storage 1 [.ref h0] uc r ∧ Do l D cA yMd_storage wMd_storage 1 [.ref o0] um r um') ∧ (∀ uc um, I uc um → ∀ pl : Int32, ∃ (r : Int32) (um' : va_W), I uc um' ∧ Rds l D cA yPK_count wPK_count 2 [.ref h0, .int pl] uc r ∧ Do l D cA yMd_count wMd_count 2 [.ref o0, .int pl] um r um') ∧ (∀ uc um, I uc um → ∀ pl : Int32, ∀ ct : Int32, (∃ (r : Int32) (um' : va_W), I uc um' ∧ Rds l D cA yPK_several wPK_several 7 [.ref h0, .int pl, .int ct] uc r ∧ Do l D cA yMd_several wMd_several 7 [.ref o0, .int pl, .int ct] um r um' ∧ Rds l D cA yMd_thrown wMd_thrown 1 [.ref o0] um' 0) ∨ (∃ (r : Int32) (um' : va_W), I uc um' ∧ Thr l D cA yPK_several wPK_several 7 [.ref h0, .int pl, .int ct] uc "java/lang/IllegalArgumentException" ∧ Do l D cA yMd_several wMd_several 7 [.ref o0, .int pl, .int ct] um r um' ∧ Rds l D cA yMd_thrown wMd_thrown 1 [.ref o0] um' 1))
theorem Kd.hd {l : Launch} {D : va_G} {cA : ClassId × ClassId × ClassId} {h0 o0 : Nat} {I : va_W → va_W → Prop} (K : Kd l D cA h0 o0 I) : ∀ uc um, I uc um → (∃ fs, uc[0]? = some (h0, .inr (10, fs))) ∧ ∃ fs, um[0]? = some (o0, .inr (11, fs)) := K.1
theorem Kd.told {l : Launch} {D : va_G} {cA : ClassId × ClassId × ClassId} {h0 o0 : Nat} {I : va_W → va_W → Prop} (K : Kd l D cA h0 o0 I) : ∀ uc um, I uc um → ∀ pl : Int32, ∃ (r : Int32) (uc' um' : va_W), I uc' um' ∧ Do l D cA yPK_told wPK_told 3 [.ref h0, .int pl] uc r uc' ∧ Do l D cA yMd_told wMd_told 3 [.ref o0, .int pl] um r um' := K.2.1
theorem Kd.update {l : Launch} {D : va_G} {cA : ClassId × ClassId × ClassId} {h0 o0 : Nat} {I : va_W → va_W → Prop} (K : Kd l D cA h0 o0 I) : ∀ uc um, I uc um → ∀ pl : Int32, ∀ b : Bool, ∃ (r : Int32) (uc' um' : va_W), I uc' um' ∧ Do l D cA yPK_update wPK_update 6 [.ref h0, .int pl, .int (bI b)] uc r uc' ∧ Do l D cA yMd_update wMd_update 7 [.ref o0, .int pl, .int (bI b)] um r um' := K.2.2.1
theorem Kd.early {l : Launch} {D : va_G} {cA : ClassId × ClassId × ClassId} {h0 o0 : Nat} {I : va_W → va_W → Prop} (K : Kd l D cA h0 o0 I) : ∀ uc um, I uc um → ∀ b : Bool, ∃ (r : Int32) (uc' um' : va_W), I uc' um' ∧ Do l D cA yPK_early wPK_early 3 [.ref h0, .int (bI b)] uc r uc' ∧ Do l D cA yMd_early wMd_early 3 [.ref o0, .int (bI b)] um r um' := K.2.2.2.1
theorem Kd.history {l : Launch} {D : va_G} {cA : ClassId × ClassId × ClassId} {h0 o0 : Nat} {I : va_W → va_W → Prop} (K : Kd l D cA h0 o0 I) : ∀ uc um, I uc um → ∃ (r : Int32) (um' : va_W), I uc um' ∧ Rds l D cA yPK_history wPK_history 1 [.ref h0] uc r ∧ Do l D cA yMd_history wMd_history 1 [.ref o0] um r um' := K.2.2.2.2.1
theorem Kd.mark {l : Launch} {D : va_G} {cA : ClassId × ClassId × ClassId} {h0 o0 : Nat} {I : va_W → va_W → Prop} (K : Kd l D cA h0 o0 I) : ∀ uc um, I uc um → (∃ (r : Int32) (uc' um' : va_W), I uc' um' ∧ Do l D cA yPK_mark wPK_mark 1 [.ref h0] uc r uc' ∧ Do l D cA yMd_mark wMd_mark 1 [.ref o0] um r um' ∧ Rds l D cA yMd_thrown wMd_thrown 1 [.ref o0] um' 0) ∨ (∃ (r : Int32) (um' : va_W), I uc um' ∧ Thr l D cA yPK_mark wPK_mark 1 [.ref h0] uc "java/lang/UnsupportedOperationException" ∧ Do l D cA yMd_mark wMd_mark 1 [.ref o0] um r um' ∧ Rds l D cA yMd_thrown wMd_thrown 1 [.ref o0] um' 1) := K.2.2.2.2.2.1
theorem Kd.repair {l : Launch} {D : va_G} {cA : ClassId × ClassId × ClassId} {h0 o0 : Nat} {I : va_W → va_W → Prop} (K : Kd l D cA h0 o0 I) : ∀ uc um, I uc um → ∀ pl : Int32, (∃ (r : Int32) (uc' um' : va_W), I uc' um' ∧ Do l D cA yPK_repair wPK_repair 3 [.ref h0, .int pl] uc r uc' ∧ Do l D cA yMd_repair wMd_repair 3 [.ref o0, .int pl] um r um' ∧ Rds l D cA yMd_thrown wMd_thrown 1 [.ref o0] um' 0) ∨ (∃ (r : Int32) (um' : va_W), I uc um' ∧ Thr l D cA yPK_repair wPK_repair 3 [.ref h0, .int pl] uc "java/lang/IndexOutOfBoundsException" ∧ Do l D cA yMd_repair wMd_repair 3 [.ref o0, .int pl] um r um' ∧ Rds l D cA yMd_thrown wMd_thrown 1 [.ref o0] um' 1) := K.2.2.2.2.2.2.1
theorem Kd.row {l : Launch} {D : va_G} {cA : ClassId × ClassId × ClassId} {h0 o0 : Nat} {I : va_W → va_W → Prop} (K : Kd l D cA h0 o0 I) : ∀ uc um, I uc um → ∀ pl : Int32, ∃ (r : Int32) (um' : va_W), I uc um' ∧ Rds l D cA yPK_row wPK_row 2 [.ref h0, .int pl] uc r ∧ Do l D cA yMd_row wMd_row 4 [.ref o0, .int pl] um r um' := K.2.2.2.2.2.2.2.1
theorem Kd.part {l : Launch} {D : va_G} {cA : ClassId × ClassId × ClassId} {h0 o0 : Nat} {I : va_W → va_W → Prop} (K : Kd l D cA h0 o0 I) : ∀ uc um, I uc um → ∀ pl : Int32, ∃ (r : Int32) (um' : va_W), I uc um' ∧ Rds l D cA yPK_part wPK_part 2 [.ref h0, .int pl] uc r ∧ Do l D cA yMd_part wMd_part 2 [.ref o0, .int pl] um r um' := K.2.2.2.2.2.2.2.2.1
theorem Kd.storage {l : Launch} {D : va_G} {cA : ClassId × ClassId × ClassId} {h0 o0 : Nat} {I : va_W → va_W → Prop} (K : Kd l D cA h0 o0 I) : ∀ uc um, I uc um → ∃ (r : Int32) (um' : va_W), I uc um' ∧ Rds l D cA yPK_storage wPK_storage 1 [.ref h0] uc r ∧ Do l D cA yMd_storage wMd_storage 1 [.ref o0] um r um' := K.2.2.2.2.2.2.2.2.2.1
theorem Kd.count {l : Launch} {D : va_G} {cA : ClassId × ClassId × ClassId} {h0 o0 : Nat} {I : va_W → va_W → Prop} (K : Kd l D cA h0 o0 I) : ∀ uc um, I uc um → ∀ pl : Int32, ∃ (r : Int32) (um' : va_W), I uc um' ∧ Rds l D cA yPK_count wPK_count 2 [.ref h0, .int pl] uc r ∧ Do l D cA yMd_count wMd_count 2 [.ref o0, .int pl] um r um' := K.2.2.2.2.2.2.2.2.2.2.1
theorem Kd.several {l : Launch} {D : va_G} {cA : ClassId × ClassId × ClassId} {h0 o0 : Nat} {I : va_W → va_W → Prop} (K : Kd l D cA h0 o0 I) : ∀ uc um, I uc um → ∀ pl : Int32, ∀ ct : Int32, (∃ (r : Int32) (um' : va_W), I uc um' ∧ Rds l D cA yPK_several wPK_several 7 [.ref h0, .int pl, .int ct] uc r ∧ Do l D cA yMd_several wMd_several 7 [.ref o0, .int pl, .int ct] um r um' ∧ Rds l D cA yMd_thrown wMd_thrown 1 [.ref o0] um' 0) ∨ (∃ (r : Int32) (um' : va_W), I uc um' ∧ Thr l D cA yPK_several wPK_several 7 [.ref h0, .int pl, .int ct] uc "java/lang/IllegalArgumentException" ∧ Do l D cA yMd_several wMd_several 7 [.ref o0, .int pl, .int ct] um r um' ∧ Rds l D cA yMd_thrown wMd_thrown 1 [.ref o0] um' 1) := K.2.2.2.2.2.2.2.2.2.2.2
def Cx (p : Program) (l : Launch) (e : Env) (R : Room) (s : State) (m : MethodId) (args : Array Value) (c : Code) (D : va_G) (cA : ClassId × ClassId × ClassId) (A : Nat → Prop) (s0 n : Nat) (sf : Nat → Int32) : Prop := (p.tables.exec = Jvm.exec) ∧ (c.code = cLw_law) ∧ (c.maxLocals = 7) ∧ (s.vm.findClass R_Lw = some m.cls) ∧ (∀ w ∈ GW, w.before args s = true) ∧ (NW s) ∧ (Th s) ∧ (∀ (a : Nat) (cell : Cell), s.heap[a]? = some cell → cell.vm.isStatics = true → ¬ A a) ∧ (∀ q, s.heap.size ≤ q → A q) ∧ (va_K D vwCl (tyl cA) s) ∧ (va_X s0 n sf s s.heap) ∧ (s0 < s.heap.size) ∧ (¬ A s0) ∧ (10 ≤ R.frames ∧ 352 ≤ R.locals)
theorem Cx.hx {p : Program} {l : Launch} {e : Env} {R : Room} {s : State} {m : MethodId} {args : Array Value} {c : Code} {D : va_G} {cA : ClassId × ClassId × ClassId} {A : Nat → Prop} {s0 n : Nat} {sf : Nat → Int32} (X : Cx p l e R s m args c D cA A s0 n sf) : p.tables.exec = Jvm.exec := X.1
theorem Cx.hb {p : Program} {l : Launch} {e : Env} {R : Room} {s : State} {m : MethodId} {args : Array Value} {c : Code} {D : va_G} {cA : ClassId × ClassId × ClassId} {A : Nat → Prop} {s0 n : Nat} {sf : Nat → Int32} (X : Cx p l e R s m args c D cA A s0 n sf) : c.code = cLw_law := X.2.1
theorem Cx.hml {p : Program} {l : Launch} {e : Env} {R : Room} {s : State} {m : MethodId} {args : Array Value} {c : Code} {D : va_G} {cA : ClassId × ClassId × ClassId} {A : Nat → Prop} {s0 n : Nat} {sf : Nat → Int32} (X : Cx p l e R s m args c D cA A s0 n sf) : c.maxLocals = 7 := X.2.2.1
theorem Cx.hown {p : Program} {l : Launch} {e : Env} {R : Room} {s : State} {m : MethodId} {args : Array Value} {c : Code} {D : va_G} {cA : ClassId × ClassId × ClassId} {A : Nat → Prop} {s0 n : Nat} {sf : Nat → Int32} (X : Cx p l e R s m args c D cA A s0 n sf) : s.vm.findClass R_Lw = some m.cls := X.2.2.2.1
theorem Cx.htg {p : Program} {l : Launch} {e : Env} {R : Room} {s : State} {m : MethodId} {args : Array Value} {c : Code} {D : va_G} {cA : ClassId × ClassId × ClassId} {A : Nat → Prop} {s0 n : Nat} {sf : Nat → Int32} (X : Cx p l e R s m args c D cA A s0 n sf) : ∀ w ∈ GW, w.before args s = true := X.2.2.2.2.1
theorem Cx.hN {p : Program} {l : Launch} {e : Env} {R : Room} {s : State} {m : MethodId} {args : Array Value} {c : Code} {D : va_G} {cA : ClassId × ClassId × ClassId} {A : Nat → Prop} {s0 n : Nat} {sf : Nat → Int32} (X : Cx p l e R s m args c D cA A s0 n sf) : NW s := X.2.2.2.2.2.1
theorem Cx.hT {p : Program} {l : Launch} {e : Env} {R : Room} {s : State} {m : MethodId} {args : Array Value} {c : Code} {D : va_G} {cA : ClassId × ClassId × ClassId} {A : Nat → Prop} {s0 n : Nat} {sf : Nat → Int32} (X : Cx p l e R s m args c D cA A s0 n sf) : Th s := X.2.2.2.2.2.2.1
theorem Cx.hst {p : Program} {l : Launch} {e : Env} {R : Room} {s : State} {m : MethodId} {args : Array Value} {c : Code} {D : va_G} {cA : ClassId × ClassId × ClassId} {A : Nat → Prop} {s0 n : Nat} {sf : Nat → Int32} (X : Cx p l e R s m args c D cA A s0 n sf) : ∀ (a : Nat) (cell : Cell), s.heap[a]? = some cell → cell.vm.isStatics = true → ¬ A a := X.2.2.2.2.2.2.2.1
theorem Cx.hA {p : Program} {l : Launch} {e : Env} {R : Room} {s : State} {m : MethodId} {args : Array Value} {c : Code} {D : va_G} {cA : ClassId × ClassId × ClassId} {A : Nat → Prop} {s0 n : Nat} {sf : Nat → Int32} (X : Cx p l e R s m args c D cA A s0 n sf) : ∀ q, s.heap.size ≤ q → A q := X.2.2.2.2.2.2.2.2.1
theorem Cx.hK {p : Program} {l : Launch} {e : Env} {R : Room} {s : State} {m : MethodId} {args : Array Value} {c : Code} {D : va_G} {cA : ClassId × ClassId × ClassId} {A : Nat → Prop} {s0 n : Nat} {sf : Nat → Int32} (X : Cx p l e R s m args c D cA A s0 n sf) : va_K D vwCl (tyl cA) s := X.2.2.2.2.2.2.2.2.2.1
theorem Cx.hX {p : Program} {l : Launch} {e : Env} {R : Room} {s : State} {m : MethodId} {args : Array Value} {c : Code} {D : va_G} {cA : ClassId × ClassId × ClassId} {A : Nat → Prop} {s0 n : Nat} {sf : Nat → Int32} (X : Cx p l e R s m args c D cA A s0 n sf) : va_X s0 n sf s s.heap := X.2.2.2.2.2.2.2.2.2.2.1
theorem Cx.hbl {p : Program} {l : Launch} {e : Env} {R : Room} {s : State} {m : MethodId} {args : Array Value} {c : Code} {D : va_G} {cA : ClassId × ClassId × ClassId} {A : Nat → Prop} {s0 n : Nat} {sf : Nat → Int32} (X : Cx p l e R s m args c D cA A s0 n sf) : s0 < s.heap.size := X.2.2.2.2.2.2.2.2.2.2.2.1
theorem Cx.hbA {p : Program} {l : Launch} {e : Env} {R : Room} {s : State} {m : MethodId} {args : Array Value} {c : Code} {D : va_G} {cA : ClassId × ClassId × ClassId} {A : Nat → Prop} {s0 n : Nat} {sf : Nat → Int32} (X : Cx p l e R s m args c D cA A s0 n sf) : ¬ A s0 := X.2.2.2.2.2.2.2.2.2.2.2.2.1
theorem Cx.hR0 {p : Program} {l : Launch} {e : Env} {R : Room} {s : State} {m : MethodId} {args : Array Value} {c : Code} {D : va_G} {cA : ClassId × ClassId × ClassId} {A : Nat → Prop} {s0 n : Nat} {sf : Nat → Int32} (X : Cx p l e R s m args c D cA A s0 n sf) : 10 ≤ R.frames ∧ 352 ≤ R.locals := X.2.2.2.2.2.2.2.2.2.2.2.2.2
def Jn (D : va_G) (A : Nat → Prop) (s : State) (cA : ClassId × ClassId × ClassId) (q0 : Nat) (uc um : va_W) (of : Nat → Int64) (H : Heap) (locs : List Loc) : Prop := va_P D vwCl ((uc ++ [(q0, eO cA of)]) ++ um) H ∧ va_D A ((uc ++ [(q0, eO cA of)]) ++ um) ∧ va_S A s.heap H locs
theorem P_mem {D : va_G} {ws : va_W} {x : Nat × va_E} {H : Heap} (hx : x ∈ ws) (h : va_P D vwCl ws H) : va_P D vwCl [x] H := by
  obtain ⟨i, hi⟩ := List.getElem?_of_mem hx
  intro k q hk
  cases k with
  | zero =>
    obtain rfl : x = q := Option.some.inj hk
    exact h i _ hi
  | succ k => simp at hk
section JN
variable {D : va_G} {A : Nat → Prop} {s : State} {cA : ClassId × ClassId × ClassId} {q0 : Nat} {uc um : va_W} {of : Nat → Int64} {H : Heap} {locs : List Loc}
theorem Jn.cl (h : Jn D A s cA q0 uc um of H locs) : va_P D vwCl (uc ++ ([(q0, eO cA of)] ++ um)) H := by
  have := h.1
  rwa [List.append_assoc] at this
theorem Jn.clD (h : Jn D A s cA q0 uc um of H locs) : va_D A (uc ++ ([(q0, eO cA of)] ++ um)) := by
  have := h.2.1
  rwa [List.append_assoc] at this
theorem Jn.of_cl (hP : va_P D vwCl (uc ++ ([(q0, eO cA of)] ++ um)) H) (hD : va_D A (uc ++ ([(q0, eO cA of)] ++ um))) (hS : va_S A s.heap H locs) : Jn D A s cA q0 uc um of H locs := by
  refine ⟨?_, ?_, hS⟩
  · rw [List.append_assoc]; exact hP
  · rw [List.append_assoc]; exact hD
theorem Jn.md (h : Jn D A s cA q0 uc um of H locs) : va_P D vwCl (um ++ (uc ++ [(q0, eO cA of)])) H := P_rot h.1
theorem Jn.mdD (h : Jn D A s cA q0 uc um of H locs) : va_D A (um ++ (uc ++ [(q0, eO cA of)])) := D_rot h.2.1
theorem Jn.of_md (hP : va_P D vwCl (um ++ (uc ++ [(q0, eO cA of)])) H) (hD : va_D A (um ++ (uc ++ [(q0, eO cA of)]))) (hS : va_S A s.heap H locs) : Jn D A s cA q0 uc um of H locs := ⟨P_rot hP, D_rot hD, hS⟩
theorem Jn.ou (h : Jn D A s cA q0 uc um of H locs) : va_P D vwCl [(q0, eO cA of)] H := P_mem (by simp) h.1
end JN
theorem lc_upd (of : Nat → Int64) (r : Int32) : lg_cmp (vp_updL of (0 : Int32).toNatClampNeg r.toInt64 (0 : Int32).toNatClampNeg) r.toInt64 = 0 := by
  rw [vp_updL, if_pos rfl]
  unfold lg_cmp
  rw [if_neg (fun h => Int64.lt_irrefl h), if_pos rfl]
section LAW
variable {p : Program} {l : Launch} {e : Env} {R : Room} {s : State} {m : MethodId} {args : Array Value} {below : List Frame} {meth : Method} {c : Code} {H : Heap} {locs : List Loc} {cells slots : Nat} {Q : State → Prop} {D : va_G} {cA : ClassId × ClassId × ClassId} {A : Nat → Prop} {h0 o0 q0 s0 n : Nat} {sf : Nat → Int32} {uc um : va_W} {of : Nat → Int64} {ls : Array Slot} {i : Int32} {I : va_W → va_W → Prop}
theorem lw_nz {cc : ByteArray} {pc tgt : Nat} {off off2 : Int} {x : Int32} {rest : List Value} (hx : p.tables.exec = Jvm.exec) (hb : c.code = cc) (d0 : decode cc pc = .ok (.ifCond .eq off, 3)) (h0 : (pc : Int) + off = (tgt : Int)) (d1 : decode cc (pc + 3) = .ok (.iconst 1, 1)) (d2 : decode cc (pc + 3 + 1) = .ok (.goto off2, 3)) (d3 : decode cc tgt = .ok (.iconst 0, 1)) (h2 : ((pc + 3 + 1 : Nat) : Int) + off2 = ((tgt + 1 : Nat) : Int))
    (k : W p l e R s m args below meth c H locs cells slots Q (F0 m (tgt + 1) ls (.int (bI (!decide (x = 0))) :: rest))) : W p l e R s m args below meth c H locs cells slots Q (F0 m pc ls (.int x :: rest)) := by
  refine lv_if_eq (tgt := tgt) hx hb d0 h0 (fun h => ?_) (fun h => ?_)
  · refine lv_iconst (v := 0) hx hb d3 (by decide) ?_
    rw [decide_eq_true h] at k
    exact k
  · refine lv_iconst (v := 1) hx hb d1 (by decide) ?_
    refine lv_goto (tgt := tgt + 1) hx hb d2 h2 ?_
    rw [decide_eq_false h] at k
    exact k
set_option maxHeartbeats 4000000 in
theorem lw_told (X : Cx p l e R s m args c D cA A s0 n sf) (K : Kd l D cA h0 o0 I) (hI : I uc um) (hJ : Jn D A s cA q0 uc um of H locs) (hl : lv_has ls 7 [(0, .ref s0), (1, .ref h0), (2, .ref o0), (3, .ref q0), (4, .int i)]) (h1 : vp_in (i + 1) n) (h2 : vp_in (i + 2) n) (hf : cells + 1 ≤ R.cells ∧ slots + 6 ≤ R.slots) (kk : ∀ (uc um : va_W) (of : Nat → Int64) (H : Heap) (locs : List Loc) (ls : Array Slot), I uc um → Jn D A s cA q0 uc um of H locs → lv_has ls 7 [(0, .ref s0), (1, .ref h0), (2, .ref o0), (3, .ref q0), (4, .int i)] → W p l e R s m args below meth c H locs (cells + 1) (slots + 6) Q (F0 m 516 ls [])) : W p l e R s m args below meth c H locs cells slots Q (F0 m 128 ls []) := by
  obtain ⟨hx, hb, hml, hown, htg, hN, hT, hst, hA, hK, hX, hbl, hbA, hR0⟩ := X
  have hRf : 8 ≤ R.frames ∧ 290 ≤ R.locals := ⟨by omega, by omega⟩
  obtain ⟨⟨fs, hc0⟩, gs, hm0⟩ := K.hd uc um hI
  have hcs : cells ≤ R.cells ∧ slots ≤ R.slots := ⟨by omega, by omega⟩
  obtain ⟨r, uc1, um1, hI1, d1, d2⟩ := K.told uc um hI (sf (i + 1).toNatClampNeg)
  refine lv_aload_n hx hb dLw_law_128 rfl (lv_at hl 1 rfl) ?_
  refine lv_aload_n hx hb dLw_law_129 rfl (lv_at hl 0 rfl) ?_
  refine lv_iload hx hb dLw_law_130 (lv_at hl 4 rfl) ?_
  refine lv_iconst (v := 1) hx hb dLw_law_132 (by decide) ?_
  refine lv_iadd hx hb dLw_law_133 ?_
  refine va_sld hx hb hX hbl hbA hJ.2.2 h1 dLw_law_134 ?_
  refine do_V (As := [.int (sf (i + 1).toNatClampNeg)]) (rest := []) ⟨hx, hb, hml, hown, htg⟩ d1 (fun rm h => cw_V htg wd_299 wd_301 qPK_told iPK_told kPK_told pPK_told h.1 h.2.1 (rmw h hRf)) (ci := 10) rfl rfl hc0 hN hJ.cl hJ.clD hJ.2.2 hA hK rfl hl.1 rfl (Nat.le_of_ble_eq_true rfl) dLw_law_135 hcs (fun H locs hP hD hS => ?_)
  have hJ := Jn.of_cl hP hD hS
  refine lv_aload_n hx hb dLw_law_138 rfl (lv_at hl 2 rfl) ?_
  refine lv_aload_n hx hb dLw_law_139 rfl (lv_at hl 0 rfl) ?_
  refine lv_iload hx hb dLw_law_140 (lv_at hl 4 rfl) ?_
  refine lv_iconst (v := 1) hx hb dLw_law_142 (by decide) ?_
  refine lv_iadd hx hb dLw_law_143 ?_
  refine va_sld hx hb hX hbl hbA hJ.2.2 h1 dLw_law_144 ?_
  refine do_V (As := [.int (sf (i + 1).toNatClampNeg)]) (rest := [.int r]) ⟨hx, hb, hml, hown, htg⟩ d2 (fun rm h => cw_V htg wd_894 wd_896 qMd_told iMd_told kMd_told pMd_told h.1 h.2.1 (rmw h hRf)) (ci := 11) rfl rfl hm0 hN hJ.md hJ.mdD hJ.2.2 hA hK rfl hl.1 rfl (Nat.le_of_ble_eq_true rfl) dLw_law_145 hcs (fun H locs hP hD hS => ?_)
  have hJ := Jn.of_md hP hD hS
  refine lv_icmp_eq (tgt := 516) hx hb dLw_law_148 (by decide) (fun _ => ?_) (fun h9 => absurd rfl h9)
  exact W.widen (k := cells + 1) (n := slots + 6) (by omega) (by omega) (kk _ _ _ _ _ _ hI1 hJ hl)
set_option maxHeartbeats 4000000 in
theorem lw_update (X : Cx p l e R s m args c D cA A s0 n sf) (K : Kd l D cA h0 o0 I) (hI : I uc um) (hJ : Jn D A s cA q0 uc um of H locs) (hl : lv_has ls 7 [(0, .ref s0), (1, .ref h0), (2, .ref o0), (3, .ref q0), (4, .int i)]) (h1 : vp_in (i + 1) n) (h2 : vp_in (i + 2) n) (hf : cells + 1 ≤ R.cells ∧ slots + 6 ≤ R.slots) (kk : ∀ (uc um : va_W) (of : Nat → Int64) (H : Heap) (locs : List Loc) (ls : Array Slot), I uc um → Jn D A s cA q0 uc um of H locs → lv_has ls 7 [(0, .ref s0), (1, .ref h0), (2, .ref o0), (3, .ref q0), (4, .int i)] → W p l e R s m args below meth c H locs (cells + 1) (slots + 6) Q (F0 m 516 ls [])) : W p l e R s m args below meth c H locs cells slots Q (F0 m 153 ls []) := by
  obtain ⟨hx, hb, hml, hown, htg, hN, hT, hst, hA, hK, hX, hbl, hbA, hR0⟩ := X
  have hRf : 8 ≤ R.frames ∧ 290 ≤ R.locals := ⟨by omega, by omega⟩
  obtain ⟨⟨fs, hc0⟩, gs, hm0⟩ := K.hd uc um hI
  have hcs : cells ≤ R.cells ∧ slots ≤ R.slots := ⟨by omega, by omega⟩
  obtain ⟨r, uc1, um1, hI1, d1, d2⟩ := K.update uc um hI (sf (i + 1).toNatClampNeg) (!decide ((sf (i + 2).toNatClampNeg) = 0))
  refine lv_aload_n hx hb dLw_law_153 rfl (lv_at hl 1 rfl) ?_
  refine lv_aload_n hx hb dLw_law_154 rfl (lv_at hl 0 rfl) ?_
  refine lv_iload hx hb dLw_law_155 (lv_at hl 4 rfl) ?_
  refine lv_iconst (v := 1) hx hb dLw_law_157 (by decide) ?_
  refine lv_iadd hx hb dLw_law_158 ?_
  refine va_sld hx hb hX hbl hbA hJ.2.2 h1 dLw_law_159 ?_
  refine lv_aload_n hx hb dLw_law_160 rfl (lv_at hl 0 rfl) ?_
  refine lv_iload hx hb dLw_law_161 (lv_at hl 4 rfl) ?_
  refine lv_iconst (v := 2) hx hb dLw_law_163 (by decide) ?_
  refine lv_iadd hx hb dLw_law_164 ?_
  refine va_sld hx hb hX hbl hbA hJ.2.2 h2 dLw_law_165 ?_
  refine lw_nz (tgt := 173) (off2 := 4) hx hb dLw_law_166 (by decide) dLw_law_169 dLw_law_170 dLw_law_173 (by decide) ?_
  refine do_V (As := [.int (sf (i + 1).toNatClampNeg), .int (bI (!decide ((sf (i + 2).toNatClampNeg) = 0)))]) (rest := []) ⟨hx, hb, hml, hown, htg⟩ d1 (fun rm h => cw_V htg wd_448 wd_450 qPK_update iPK_update kPK_update pPK_update h.1 h.2.1 (rmw h hRf)) (ci := 10) rfl rfl hc0 hN hJ.cl hJ.clD hJ.2.2 hA hK rfl hl.1 rfl (Nat.le_of_ble_eq_true rfl) dLw_law_174 hcs (fun H locs hP hD hS => ?_)
  have hJ := Jn.of_cl hP hD hS
  refine lv_aload_n hx hb dLw_law_177 rfl (lv_at hl 2 rfl) ?_
  refine lv_aload_n hx hb dLw_law_178 rfl (lv_at hl 0 rfl) ?_
  refine lv_iload hx hb dLw_law_179 (lv_at hl 4 rfl) ?_
  refine lv_iconst (v := 1) hx hb dLw_law_181 (by decide) ?_
  refine lv_iadd hx hb dLw_law_182 ?_
  refine va_sld hx hb hX hbl hbA hJ.2.2 h1 dLw_law_183 ?_
  refine lv_aload_n hx hb dLw_law_184 rfl (lv_at hl 0 rfl) ?_
  refine lv_iload hx hb dLw_law_185 (lv_at hl 4 rfl) ?_
  refine lv_iconst (v := 2) hx hb dLw_law_187 (by decide) ?_
  refine lv_iadd hx hb dLw_law_188 ?_
  refine va_sld hx hb hX hbl hbA hJ.2.2 h2 dLw_law_189 ?_
  refine lw_nz (tgt := 197) (off2 := 4) hx hb dLw_law_190 (by decide) dLw_law_193 dLw_law_194 dLw_law_197 (by decide) ?_
  refine do_V (As := [.int (sf (i + 1).toNatClampNeg), .int (bI (!decide ((sf (i + 2).toNatClampNeg) = 0)))]) (rest := [.int r]) ⟨hx, hb, hml, hown, htg⟩ d2 (fun rm h => cw_V htg wd_954 wd_956 qMd_update iMd_update kMd_update pMd_update h.1 h.2.1 (rmw h hRf)) (ci := 11) rfl rfl hm0 hN hJ.md hJ.mdD hJ.2.2 hA hK rfl hl.1 rfl (Nat.le_of_ble_eq_true rfl) dLw_law_198 hcs (fun H locs hP hD hS => ?_)
  have hJ := Jn.of_md hP hD hS
  refine lv_icmp_eq (tgt := 516) hx hb dLw_law_201 (by decide) (fun _ => ?_) (fun h9 => absurd rfl h9)
  exact W.widen (k := cells + 1) (n := slots + 6) (by omega) (by omega) (kk _ _ _ _ _ _ hI1 hJ hl)
set_option maxHeartbeats 4000000 in
theorem lw_early (X : Cx p l e R s m args c D cA A s0 n sf) (K : Kd l D cA h0 o0 I) (hI : I uc um) (hJ : Jn D A s cA q0 uc um of H locs) (hl : lv_has ls 7 [(0, .ref s0), (1, .ref h0), (2, .ref o0), (3, .ref q0), (4, .int i)]) (h1 : vp_in (i + 1) n) (h2 : vp_in (i + 2) n) (hf : cells + 1 ≤ R.cells ∧ slots + 6 ≤ R.slots) (kk : ∀ (uc um : va_W) (of : Nat → Int64) (H : Heap) (locs : List Loc) (ls : Array Slot), I uc um → Jn D A s cA q0 uc um of H locs → lv_has ls 7 [(0, .ref s0), (1, .ref h0), (2, .ref o0), (3, .ref q0), (4, .int i)] → W p l e R s m args below meth c H locs (cells + 1) (slots + 6) Q (F0 m 516 ls [])) : W p l e R s m args below meth c H locs cells slots Q (F0 m 206 ls []) := by
  obtain ⟨hx, hb, hml, hown, htg, hN, hT, hst, hA, hK, hX, hbl, hbA, hR0⟩ := X
  have hRf : 8 ≤ R.frames ∧ 290 ≤ R.locals := ⟨by omega, by omega⟩
  obtain ⟨⟨fs, hc0⟩, gs, hm0⟩ := K.hd uc um hI
  have hcs : cells ≤ R.cells ∧ slots ≤ R.slots := ⟨by omega, by omega⟩
  obtain ⟨r, uc1, um1, hI1, d1, d2⟩ := K.early uc um hI (!decide ((sf (i + 1).toNatClampNeg) = 0))
  refine lv_aload_n hx hb dLw_law_206 rfl (lv_at hl 1 rfl) ?_
  refine lv_aload_n hx hb dLw_law_207 rfl (lv_at hl 0 rfl) ?_
  refine lv_iload hx hb dLw_law_208 (lv_at hl 4 rfl) ?_
  refine lv_iconst (v := 1) hx hb dLw_law_210 (by decide) ?_
  refine lv_iadd hx hb dLw_law_211 ?_
  refine va_sld hx hb hX hbl hbA hJ.2.2 h1 dLw_law_212 ?_
  refine lw_nz (tgt := 220) (off2 := 4) hx hb dLw_law_213 (by decide) dLw_law_216 dLw_law_217 dLw_law_220 (by decide) ?_
  refine do_V (As := [.int (bI (!decide ((sf (i + 1).toNatClampNeg) = 0)))]) (rest := []) ⟨hx, hb, hml, hown, htg⟩ d1 (fun rm h => cw_V htg wd_553 wd_555 qPK_early iPK_early kPK_early pPK_early h.1 h.2.1 (rmw h hRf)) (ci := 10) rfl rfl hc0 hN hJ.cl hJ.clD hJ.2.2 hA hK rfl hl.1 rfl (Nat.le_of_ble_eq_true rfl) dLw_law_221 hcs (fun H locs hP hD hS => ?_)
  have hJ := Jn.of_cl hP hD hS
  refine lv_aload_n hx hb dLw_law_224 rfl (lv_at hl 2 rfl) ?_
  refine lv_aload_n hx hb dLw_law_225 rfl (lv_at hl 0 rfl) ?_
  refine lv_iload hx hb dLw_law_226 (lv_at hl 4 rfl) ?_
  refine lv_iconst (v := 1) hx hb dLw_law_228 (by decide) ?_
  refine lv_iadd hx hb dLw_law_229 ?_
  refine va_sld hx hb hX hbl hbA hJ.2.2 h1 dLw_law_230 ?_
  refine lw_nz (tgt := 238) (off2 := 4) hx hb dLw_law_231 (by decide) dLw_law_234 dLw_law_235 dLw_law_238 (by decide) ?_
  refine do_V (As := [.int (bI (!decide ((sf (i + 1).toNatClampNeg) = 0)))]) (rest := [.int r]) ⟨hx, hb, hml, hown, htg⟩ d2 (fun rm h => cw_V htg wd_990 wd_992 qMd_early iMd_early kMd_early pMd_early h.1 h.2.1 (rmw h hRf)) (ci := 11) rfl rfl hm0 hN hJ.md hJ.mdD hJ.2.2 hA hK rfl hl.1 rfl (Nat.le_of_ble_eq_true rfl) dLw_law_239 hcs (fun H locs hP hD hS => ?_)
  have hJ := Jn.of_md hP hD hS
  refine lv_icmp_eq (tgt := 516) hx hb dLw_law_242 (by decide) (fun _ => ?_) (fun h9 => absurd rfl h9)
  exact W.widen (k := cells + 1) (n := slots + 6) (by omega) (by omega) (kk _ _ _ _ _ _ hI1 hJ hl)
set_option maxHeartbeats 4000000 in
theorem lw_history (X : Cx p l e R s m args c D cA A s0 n sf) (K : Kd l D cA h0 o0 I) (hI : I uc um) (hJ : Jn D A s cA q0 uc um of H locs) (hl : lv_has ls 7 [(0, .ref s0), (1, .ref h0), (2, .ref o0), (3, .ref q0), (4, .int i)]) (h1 : vp_in (i + 1) n) (h2 : vp_in (i + 2) n) (hf : cells + 1 ≤ R.cells ∧ slots + 6 ≤ R.slots) (kk : ∀ (uc um : va_W) (of : Nat → Int64) (H : Heap) (locs : List Loc) (ls : Array Slot), I uc um → Jn D A s cA q0 uc um of H locs → lv_has ls 7 [(0, .ref s0), (1, .ref h0), (2, .ref o0), (3, .ref q0), (4, .int i)] → W p l e R s m args below meth c H locs (cells + 1) (slots + 6) Q (F0 m 516 ls [])) : W p l e R s m args below meth c H locs cells slots Q (F0 m 247 ls []) := by
  obtain ⟨hx, hb, hml, hown, htg, hN, hT, hst, hA, hK, hX, hbl, hbA, hR0⟩ := X
  have hRf : 8 ≤ R.frames ∧ 290 ≤ R.locals := ⟨by omega, by omega⟩
  obtain ⟨⟨fs, hc0⟩, gs, hm0⟩ := K.hd uc um hI
  have hcs : cells ≤ R.cells ∧ slots ≤ R.slots := ⟨by omega, by omega⟩
  obtain ⟨r, um1, hI1, d1, d2⟩ := K.history uc um hI
  refine lv_aload_n hx hb dLw_law_247 rfl (lv_at hl 1 rfl) ?_
  refine rds_V (As := []) (rest := []) ⟨hx, hb, hml, hown, htg⟩ d1 (fun rm h => cw_V htg wd_557 wd_559 qPK_history iPK_history kPK_history pPK_history h.1 h.2.1 (rmw h hRf)) (ci := 10) rfl rfl hc0 hN hJ.cl hK rfl hl.1 rfl (Nat.le_of_ble_eq_true rfl) dLw_law_248 hcs ?_
  refine lv_aload_n hx hb dLw_law_251 rfl (lv_at hl 2 rfl) ?_
  refine do_V (As := []) (rest := [.int r]) ⟨hx, hb, hml, hown, htg⟩ d2 (fun rm h => cw_V htg wd_994 wd_996 qMd_history iMd_history kMd_history pMd_history h.1 h.2.1 (rmw h hRf)) (ci := 11) rfl rfl hm0 hN hJ.md hJ.mdD hJ.2.2 hA hK rfl hl.1 rfl (Nat.le_of_ble_eq_true rfl) dLw_law_252 hcs (fun H locs hP hD hS => ?_)
  have hJ := Jn.of_md hP hD hS
  refine lv_icmp_eq (tgt := 516) hx hb dLw_law_255 (by decide) (fun _ => ?_) (fun h9 => absurd rfl h9)
  exact W.widen (k := cells + 1) (n := slots + 6) (by omega) (by omega) (kk _ _ _ _ _ _ hI1 hJ hl)
set_option maxHeartbeats 4000000 in
theorem lw_mark (X : Cx p l e R s m args c D cA A s0 n sf) (K : Kd l D cA h0 o0 I) (hI : I uc um) (hJ : Jn D A s cA q0 uc um of H locs) (hl : lv_has ls 7 [(0, .ref s0), (1, .ref h0), (2, .ref o0), (3, .ref q0), (4, .int i)]) (h1 : vp_in (i + 1) n) (h2 : vp_in (i + 2) n) (hf : cells + 1 ≤ R.cells ∧ slots + 6 ≤ R.slots) (kk : ∀ (uc um : va_W) (of : Nat → Int64) (H : Heap) (locs : List Loc) (ls : Array Slot), I uc um → Jn D A s cA q0 uc um of H locs → lv_has ls 7 [(0, .ref s0), (1, .ref h0), (2, .ref o0), (3, .ref q0), (4, .int i)] → W p l e R s m args below meth c H locs (cells + 1) (slots + 6) Q (F0 m 516 ls [])) : W p l e R s m args below meth c H locs cells slots Q (F0 m 260 ls []) := by
  obtain ⟨hx, hb, hml, hown, htg, hN, hT, hst, hA, hK, hX, hbl, hbA, hR0⟩ := X
  have hRf : 8 ≤ R.frames ∧ 290 ≤ R.locals := ⟨by omega, by omega⟩
  obtain ⟨⟨fs, hc0⟩, gs, hm0⟩ := K.hd uc um hI
  have hcs : cells ≤ R.cells ∧ slots ≤ R.slots := ⟨by omega, by omega⟩
  rcases K.mark uc um hI with h9 | h9
  · obtain ⟨r, uc1, um1, hI1, d1, d2, d3⟩ := h9
    refine lv_aload_n hx hb dLw_law_260 rfl (lv_at hl 1 rfl) ?_
    refine lv_aload_n hx hb dLw_law_261 rfl (lv_at hl 3 rfl) ?_
    refine run_X (As := [.ref h0, .ref q0]) (rest := []) ⟨hx, hb, hml, hown, htg⟩ (c_Lw_mark_ok l D cA _ h0 q0 uc uc1 of fs r d1 hc0) (cw_X htg wd_662 qLw_mark iLw_mark kLw_mark pLw_mark rfl rfl ⟨by show 8 + 1 ≤ R.frames; omega, by show 8 + (3 + 11) + 320 ≤ R.locals; omega⟩) hN hT (kp_S hJ.2.2 hst) hJ.1 hJ.2.1 hJ.2.2 hA hK rfl hl.1 rfl (Nat.le_of_ble_eq_true rfl) dLw_law_262 hf (fun H locs hP hD hS => ?_)
    have hJ : Jn D A s cA q0 uc1 um (vp_updL of (0 : Int32).toNatClampNeg r.toInt64) H locs := ⟨hP, hD, hS⟩
    refine lv_istore (lv' := [(5, .int 0), (0, .ref s0), (1, .ref h0), (2, .ref o0), (3, .ref q0), (4, .int i)]) hx hb dLw_law_265 hl (by decide) rfl (fun ls hl => ?_)
    refine lv_aload_n hx hb dLw_law_267 rfl (lv_at hl 3 rfl) ?_
    refine do_V (As := []) (rest := []) ⟨hx, hb, hml, hown, htg⟩ d2 (fun rm h => cw_V htg wd_998 wd_1000 qMd_mark iMd_mark kMd_mark pMd_mark h.1 h.2.1 (rmw h hRf)) (ci := 11) rfl rfl hm0 hN hJ.md hJ.mdD hJ.2.2 hA hK rfl hl.1 rfl (Nat.le_of_ble_eq_true rfl) dLw_law_268 hf (fun H locs hP hD hS => ?_)
    have hJ := Jn.of_md hP hD hS
    refine lv_istore (lv' := [(6, .int r), (5, .int 0), (0, .ref s0), (1, .ref h0), (2, .ref o0), (3, .ref q0), (4, .int i)]) hx hb dLw_law_271 hl (by decide) rfl (fun ls hl => ?_)
    obtain ⟨gs1, hm1⟩ := (K.hd _ _ hI1).2
    refine lv_aload_n hx hb dLw_law_273 rfl (lv_at hl 4 rfl) ?_
    refine rds_V (As := []) (rest := []) ⟨hx, hb, hml, hown, htg⟩ d3 (fun rm h => cw_V htg wd_890 wd_892 qMd_thrown iMd_thrown kMd_thrown pMd_thrown h.1 h.2.1 (rmw h hRf)) (ci := 11) rfl rfl hm1 hN hJ.md hK rfl hl.1 rfl (Nat.le_of_ble_eq_true rfl) dLw_law_274 hf ?_
    refine lv_iload hx hb dLw_law_277 (lv_at hl 1 rfl) ?_
    refine lv_icmp_eq (tgt := 284) hx hb dLw_law_279 (by decide) (fun _ => ?_) (fun h9 => absurd rfl h9)
    refine lv_iload hx hb dLw_law_284 (lv_at hl 1 rfl) ?_
    refine lv_if_ne (tgt := 301) hx hb dLw_law_286 (by decide) (fun h9 => absurd rfl h9) (fun _ => ?_)
    refine lv_aload_n hx hb dLw_law_289 rfl (lv_at hl 5 rfl) ?_
    refine lv_iconst (v := 0) hx hb dLw_law_290 (by decide) ?_
    refine va_lald hx hb hK hJ.ou 0 2 rfl rfl in01 dLw_law_291 ?_
    refine lv_iload hx hb dLw_law_292 (lv_at hl 0 rfl) ?_
    refine lv_i2l hx hb dLw_law_294 rfl ?_
    refine W.lcmp hx hb dLw_law_295 ?_
    refine lv_if_eq (tgt := 301) hx hb dLw_law_296 (by decide) (fun _ => ?_) (fun h9 => absurd (lc_upd of r) h9)
    refine lv_goto (tgt := 516) hx hb dLw_law_301 (by decide) ?_
    exact kk _ _ _ _ _ _ hI1 hJ (lv_sub hl [2, 3, 4, 5, 6] rfl)
  · obtain ⟨r, um1, hI1, d1, d2, d3⟩ := h9
    refine lv_aload_n hx hb dLw_law_260 rfl (lv_at hl 1 rfl) ?_
    refine lv_aload_n hx hb dLw_law_261 rfl (lv_at hl 3 rfl) ?_
    refine run_X (As := [.ref h0, .ref q0]) (rest := []) ⟨hx, hb, hml, hown, htg⟩ (c_Lw_mark_thr l D cA _ h0 q0 uc of fs d1 hc0) (cw_X htg wd_662 qLw_mark iLw_mark kLw_mark pLw_mark rfl rfl ⟨by show 8 + 1 ≤ R.frames; omega, by show 8 + (3 + 11) + 320 ≤ R.locals; omega⟩) hN hT (kp_S hJ.2.2 hst) hJ.1 hJ.2.1 hJ.2.2 hA hK rfl hl.1 rfl (Nat.le_of_ble_eq_true rfl) dLw_law_262 hf (fun H locs hP hD hS => ?_)
    have hJ : Jn D A s cA q0 uc um of H locs := ⟨hP, hD, hS⟩
    refine lv_istore (lv' := [(5, .int 1), (0, .ref s0), (1, .ref h0), (2, .ref o0), (3, .ref q0), (4, .int i)]) hx hb dLw_law_265 hl (by decide) rfl (fun ls hl => ?_)
    refine lv_aload_n hx hb dLw_law_267 rfl (lv_at hl 3 rfl) ?_
    refine do_V (As := []) (rest := []) ⟨hx, hb, hml, hown, htg⟩ d2 (fun rm h => cw_V htg wd_998 wd_1000 qMd_mark iMd_mark kMd_mark pMd_mark h.1 h.2.1 (rmw h hRf)) (ci := 11) rfl rfl hm0 hN hJ.md hJ.mdD hJ.2.2 hA hK rfl hl.1 rfl (Nat.le_of_ble_eq_true rfl) dLw_law_268 hf (fun H locs hP hD hS => ?_)
    have hJ := Jn.of_md hP hD hS
    refine lv_istore (lv' := [(6, .int r), (5, .int 1), (0, .ref s0), (1, .ref h0), (2, .ref o0), (3, .ref q0), (4, .int i)]) hx hb dLw_law_271 hl (by decide) rfl (fun ls hl => ?_)
    obtain ⟨gs1, hm1⟩ := (K.hd _ _ hI1).2
    refine lv_aload_n hx hb dLw_law_273 rfl (lv_at hl 4 rfl) ?_
    refine rds_V (As := []) (rest := []) ⟨hx, hb, hml, hown, htg⟩ d3 (fun rm h => cw_V htg wd_890 wd_892 qMd_thrown iMd_thrown kMd_thrown pMd_thrown h.1 h.2.1 (rmw h hRf)) (ci := 11) rfl rfl hm1 hN hJ.md hK rfl hl.1 rfl (Nat.le_of_ble_eq_true rfl) dLw_law_274 hf ?_
    refine lv_iload hx hb dLw_law_277 (lv_at hl 1 rfl) ?_
    refine lv_icmp_eq (tgt := 284) hx hb dLw_law_279 (by decide) (fun _ => ?_) (fun h9 => absurd rfl h9)
    refine lv_iload hx hb dLw_law_284 (lv_at hl 1 rfl) ?_
    refine lv_if_ne (tgt := 301) hx hb dLw_law_286 (by decide) (fun _ => ?_) (fun h9 => absurd h9 (by decide))
    refine lv_goto (tgt := 516) hx hb dLw_law_301 (by decide) ?_
    exact kk _ _ _ _ _ _ hI1 hJ (lv_sub hl [2, 3, 4, 5, 6] rfl)
set_option maxHeartbeats 4000000 in
theorem lw_repair (X : Cx p l e R s m args c D cA A s0 n sf) (K : Kd l D cA h0 o0 I) (hI : I uc um) (hJ : Jn D A s cA q0 uc um of H locs) (hl : lv_has ls 7 [(0, .ref s0), (1, .ref h0), (2, .ref o0), (3, .ref q0), (4, .int i)]) (h1 : vp_in (i + 1) n) (h2 : vp_in (i + 2) n) (hf : cells + 1 ≤ R.cells ∧ slots + 6 ≤ R.slots) (kk : ∀ (uc um : va_W) (of : Nat → Int64) (H : Heap) (locs : List Loc) (ls : Array Slot), I uc um → Jn D A s cA q0 uc um of H locs → lv_has ls 7 [(0, .ref s0), (1, .ref h0), (2, .ref o0), (3, .ref q0), (4, .int i)] → W p l e R s m args below meth c H locs (cells + 1) (slots + 6) Q (F0 m 516 ls [])) : W p l e R s m args below meth c H locs cells slots Q (F0 m 304 ls []) := by
  obtain ⟨hx, hb, hml, hown, htg, hN, hT, hst, hA, hK, hX, hbl, hbA, hR0⟩ := X
  have hRf : 8 ≤ R.frames ∧ 290 ≤ R.locals := ⟨by omega, by omega⟩
  obtain ⟨⟨fs, hc0⟩, gs, hm0⟩ := K.hd uc um hI
  have hcs : cells ≤ R.cells ∧ slots ≤ R.slots := ⟨by omega, by omega⟩
  rcases K.repair uc um hI (sf (i + 1).toNatClampNeg) with h9 | h9
  · obtain ⟨r, uc1, um1, hI1, d1, d2, d3⟩ := h9
    refine lv_aload_n hx hb dLw_law_304 rfl (lv_at hl 1 rfl) ?_
    refine lv_aload_n hx hb dLw_law_305 rfl (lv_at hl 0 rfl) ?_
    refine lv_iload hx hb dLw_law_306 (lv_at hl 4 rfl) ?_
    refine lv_iconst (v := 1) hx hb dLw_law_308 (by decide) ?_
    refine lv_iadd hx hb dLw_law_309 ?_
    refine va_sld hx hb hX hbl hbA hJ.2.2 h1 dLw_law_310 ?_
    refine lv_aload_n hx hb dLw_law_311 rfl (lv_at hl 3 rfl) ?_
    refine run_X (As := [.ref h0, .int (sf (i + 1).toNatClampNeg), .ref q0]) (rest := []) ⟨hx, hb, hml, hown, htg⟩ (c_Lw_repair_ok l D cA _ h0 q0 (sf (i + 1).toNatClampNeg) uc uc1 of fs r d1 hc0) (cw_X htg wd_738 qLw_repair iLw_repair kLw_repair pLw_repair rfl rfl ⟨by show 8 + 1 ≤ R.frames; omega, by show 8 + (4 + 11) + 320 ≤ R.locals; omega⟩) hN hT (kp_S hJ.2.2 hst) hJ.1 hJ.2.1 hJ.2.2 hA hK rfl hl.1 rfl (Nat.le_of_ble_eq_true rfl) dLw_law_312 hf (fun H locs hP hD hS => ?_)
    have hJ : Jn D A s cA q0 uc1 um (vp_updL of (0 : Int32).toNatClampNeg r.toInt64) H locs := ⟨hP, hD, hS⟩
    refine lv_istore (lv' := [(5, .int 0), (0, .ref s0), (1, .ref h0), (2, .ref o0), (3, .ref q0), (4, .int i)]) hx hb dLw_law_315 hl (by decide) rfl (fun ls hl => ?_)
    refine lv_aload_n hx hb dLw_law_317 rfl (lv_at hl 3 rfl) ?_
    refine lv_aload_n hx hb dLw_law_318 rfl (lv_at hl 1 rfl) ?_
    refine lv_iload hx hb dLw_law_319 (lv_at hl 5 rfl) ?_
    refine lv_iconst (v := 1) hx hb dLw_law_321 (by decide) ?_
    refine lv_iadd hx hb dLw_law_322 ?_
    refine va_sld hx hb hX hbl hbA hJ.2.2 h1 dLw_law_323 ?_
    refine do_V (As := [.int (sf (i + 1).toNatClampNeg)]) (rest := []) ⟨hx, hb, hml, hown, htg⟩ d2 (fun rm h => cw_V htg wd_1006 wd_1008 qMd_repair iMd_repair kMd_repair pMd_repair h.1 h.2.1 (rmw h hRf)) (ci := 11) rfl rfl hm0 hN hJ.md hJ.mdD hJ.2.2 hA hK rfl hl.1 rfl (Nat.le_of_ble_eq_true rfl) dLw_law_324 hf (fun H locs hP hD hS => ?_)
    have hJ := Jn.of_md hP hD hS
    refine lv_istore (lv' := [(6, .int r), (5, .int 0), (0, .ref s0), (1, .ref h0), (2, .ref o0), (3, .ref q0), (4, .int i)]) hx hb dLw_law_327 hl (by decide) rfl (fun ls hl => ?_)
    obtain ⟨gs1, hm1⟩ := (K.hd _ _ hI1).2
    refine lv_aload_n hx hb dLw_law_329 rfl (lv_at hl 4 rfl) ?_
    refine rds_V (As := []) (rest := []) ⟨hx, hb, hml, hown, htg⟩ d3 (fun rm h => cw_V htg wd_890 wd_892 qMd_thrown iMd_thrown kMd_thrown pMd_thrown h.1 h.2.1 (rmw h hRf)) (ci := 11) rfl rfl hm1 hN hJ.md hK rfl hl.1 rfl (Nat.le_of_ble_eq_true rfl) dLw_law_330 hf ?_
    refine lv_iload hx hb dLw_law_333 (lv_at hl 1 rfl) ?_
    refine lv_icmp_eq (tgt := 340) hx hb dLw_law_335 (by decide) (fun _ => ?_) (fun h9 => absurd rfl h9)
    refine lv_iload hx hb dLw_law_340 (lv_at hl 1 rfl) ?_
    refine lv_if_ne (tgt := 357) hx hb dLw_law_342 (by decide) (fun h9 => absurd rfl h9) (fun _ => ?_)
    refine lv_aload_n hx hb dLw_law_345 rfl (lv_at hl 5 rfl) ?_
    refine lv_iconst (v := 0) hx hb dLw_law_346 (by decide) ?_
    refine va_lald hx hb hK hJ.ou 0 2 rfl rfl in01 dLw_law_347 ?_
    refine lv_iload hx hb dLw_law_348 (lv_at hl 0 rfl) ?_
    refine lv_i2l hx hb dLw_law_350 rfl ?_
    refine W.lcmp hx hb dLw_law_351 ?_
    refine lv_if_eq (tgt := 357) hx hb dLw_law_352 (by decide) (fun _ => ?_) (fun h9 => absurd (lc_upd of r) h9)
    refine lv_goto (tgt := 516) hx hb dLw_law_357 (by decide) ?_
    exact kk _ _ _ _ _ _ hI1 hJ (lv_sub hl [2, 3, 4, 5, 6] rfl)
  · obtain ⟨r, um1, hI1, d1, d2, d3⟩ := h9
    refine lv_aload_n hx hb dLw_law_304 rfl (lv_at hl 1 rfl) ?_
    refine lv_aload_n hx hb dLw_law_305 rfl (lv_at hl 0 rfl) ?_
    refine lv_iload hx hb dLw_law_306 (lv_at hl 4 rfl) ?_
    refine lv_iconst (v := 1) hx hb dLw_law_308 (by decide) ?_
    refine lv_iadd hx hb dLw_law_309 ?_
    refine va_sld hx hb hX hbl hbA hJ.2.2 h1 dLw_law_310 ?_
    refine lv_aload_n hx hb dLw_law_311 rfl (lv_at hl 3 rfl) ?_
    refine run_X (As := [.ref h0, .int (sf (i + 1).toNatClampNeg), .ref q0]) (rest := []) ⟨hx, hb, hml, hown, htg⟩ (c_Lw_repair_thr l D cA _ h0 q0 (sf (i + 1).toNatClampNeg) uc of fs d1 hc0) (cw_X htg wd_738 qLw_repair iLw_repair kLw_repair pLw_repair rfl rfl ⟨by show 8 + 1 ≤ R.frames; omega, by show 8 + (4 + 11) + 320 ≤ R.locals; omega⟩) hN hT (kp_S hJ.2.2 hst) hJ.1 hJ.2.1 hJ.2.2 hA hK rfl hl.1 rfl (Nat.le_of_ble_eq_true rfl) dLw_law_312 hf (fun H locs hP hD hS => ?_)
    have hJ : Jn D A s cA q0 uc um of H locs := ⟨hP, hD, hS⟩
    refine lv_istore (lv' := [(5, .int 1), (0, .ref s0), (1, .ref h0), (2, .ref o0), (3, .ref q0), (4, .int i)]) hx hb dLw_law_315 hl (by decide) rfl (fun ls hl => ?_)
    refine lv_aload_n hx hb dLw_law_317 rfl (lv_at hl 3 rfl) ?_
    refine lv_aload_n hx hb dLw_law_318 rfl (lv_at hl 1 rfl) ?_
    refine lv_iload hx hb dLw_law_319 (lv_at hl 5 rfl) ?_
    refine lv_iconst (v := 1) hx hb dLw_law_321 (by decide) ?_
    refine lv_iadd hx hb dLw_law_322 ?_
    refine va_sld hx hb hX hbl hbA hJ.2.2 h1 dLw_law_323 ?_
    refine do_V (As := [.int (sf (i + 1).toNatClampNeg)]) (rest := []) ⟨hx, hb, hml, hown, htg⟩ d2 (fun rm h => cw_V htg wd_1006 wd_1008 qMd_repair iMd_repair kMd_repair pMd_repair h.1 h.2.1 (rmw h hRf)) (ci := 11) rfl rfl hm0 hN hJ.md hJ.mdD hJ.2.2 hA hK rfl hl.1 rfl (Nat.le_of_ble_eq_true rfl) dLw_law_324 hf (fun H locs hP hD hS => ?_)
    have hJ := Jn.of_md hP hD hS
    refine lv_istore (lv' := [(6, .int r), (5, .int 1), (0, .ref s0), (1, .ref h0), (2, .ref o0), (3, .ref q0), (4, .int i)]) hx hb dLw_law_327 hl (by decide) rfl (fun ls hl => ?_)
    obtain ⟨gs1, hm1⟩ := (K.hd _ _ hI1).2
    refine lv_aload_n hx hb dLw_law_329 rfl (lv_at hl 4 rfl) ?_
    refine rds_V (As := []) (rest := []) ⟨hx, hb, hml, hown, htg⟩ d3 (fun rm h => cw_V htg wd_890 wd_892 qMd_thrown iMd_thrown kMd_thrown pMd_thrown h.1 h.2.1 (rmw h hRf)) (ci := 11) rfl rfl hm1 hN hJ.md hK rfl hl.1 rfl (Nat.le_of_ble_eq_true rfl) dLw_law_330 hf ?_
    refine lv_iload hx hb dLw_law_333 (lv_at hl 1 rfl) ?_
    refine lv_icmp_eq (tgt := 340) hx hb dLw_law_335 (by decide) (fun _ => ?_) (fun h9 => absurd rfl h9)
    refine lv_iload hx hb dLw_law_340 (lv_at hl 1 rfl) ?_
    refine lv_if_ne (tgt := 357) hx hb dLw_law_342 (by decide) (fun _ => ?_) (fun h9 => absurd h9 (by decide))
    refine lv_goto (tgt := 516) hx hb dLw_law_357 (by decide) ?_
    exact kk _ _ _ _ _ _ hI1 hJ (lv_sub hl [2, 3, 4, 5, 6] rfl)
set_option maxHeartbeats 4000000 in
theorem lw_row (X : Cx p l e R s m args c D cA A s0 n sf) (K : Kd l D cA h0 o0 I) (hI : I uc um) (hJ : Jn D A s cA q0 uc um of H locs) (hl : lv_has ls 7 [(0, .ref s0), (1, .ref h0), (2, .ref o0), (3, .ref q0), (4, .int i)]) (h1 : vp_in (i + 1) n) (h2 : vp_in (i + 2) n) (hf : cells + 1 ≤ R.cells ∧ slots + 6 ≤ R.slots) (kk : ∀ (uc um : va_W) (of : Nat → Int64) (H : Heap) (locs : List Loc) (ls : Array Slot), I uc um → Jn D A s cA q0 uc um of H locs → lv_has ls 7 [(0, .ref s0), (1, .ref h0), (2, .ref o0), (3, .ref q0), (4, .int i)] → W p l e R s m args below meth c H locs (cells + 1) (slots + 6) Q (F0 m 516 ls [])) : W p l e R s m args below meth c H locs cells slots Q (F0 m 360 ls []) := by
  obtain ⟨hx, hb, hml, hown, htg, hN, hT, hst, hA, hK, hX, hbl, hbA, hR0⟩ := X
  have hRf : 8 ≤ R.frames ∧ 290 ≤ R.locals := ⟨by omega, by omega⟩
  obtain ⟨⟨fs, hc0⟩, gs, hm0⟩ := K.hd uc um hI
  have hcs : cells ≤ R.cells ∧ slots ≤ R.slots := ⟨by omega, by omega⟩
  obtain ⟨r, um1, hI1, d1, d2⟩ := K.row uc um hI (sf (i + 1).toNatClampNeg)
  refine lv_aload_n hx hb dLw_law_360 rfl (lv_at hl 1 rfl) ?_
  refine lv_aload_n hx hb dLw_law_361 rfl (lv_at hl 0 rfl) ?_
  refine lv_iload hx hb dLw_law_362 (lv_at hl 4 rfl) ?_
  refine lv_iconst (v := 1) hx hb dLw_law_364 (by decide) ?_
  refine lv_iadd hx hb dLw_law_365 ?_
  refine va_sld hx hb hX hbl hbA hJ.2.2 h1 dLw_law_366 ?_
  refine rds_V (As := [.int (sf (i + 1).toNatClampNeg)]) (rest := []) ⟨hx, hb, hml, hown, htg⟩ d1 (fun rm h => cw_V htg wd_561 wd_563 qPK_row iPK_row kPK_row pPK_row h.1 h.2.1 (rmw h hRf)) (ci := 10) rfl rfl hc0 hN hJ.cl hK rfl hl.1 rfl (Nat.le_of_ble_eq_true rfl) dLw_law_367 hcs ?_
  refine lv_aload_n hx hb dLw_law_370 rfl (lv_at hl 2 rfl) ?_
  refine lv_aload_n hx hb dLw_law_371 rfl (lv_at hl 0 rfl) ?_
  refine lv_iload hx hb dLw_law_372 (lv_at hl 4 rfl) ?_
  refine lv_iconst (v := 1) hx hb dLw_law_374 (by decide) ?_
  refine lv_iadd hx hb dLw_law_375 ?_
  refine va_sld hx hb hX hbl hbA hJ.2.2 h1 dLw_law_376 ?_
  refine do_V (As := [.int (sf (i + 1).toNatClampNeg)]) (rest := [.int r]) ⟨hx, hb, hml, hown, htg⟩ d2 (fun rm h => cw_V htg wd_1010 wd_1012 qMd_row iMd_row kMd_row pMd_row h.1 h.2.1 (rmw h hRf)) (ci := 11) rfl rfl hm0 hN hJ.md hJ.mdD hJ.2.2 hA hK rfl hl.1 rfl (Nat.le_of_ble_eq_true rfl) dLw_law_377 hcs (fun H locs hP hD hS => ?_)
  have hJ := Jn.of_md hP hD hS
  refine lv_icmp_eq (tgt := 516) hx hb dLw_law_380 (by decide) (fun _ => ?_) (fun h9 => absurd rfl h9)
  exact W.widen (k := cells + 1) (n := slots + 6) (by omega) (by omega) (kk _ _ _ _ _ _ hI1 hJ hl)
set_option maxHeartbeats 4000000 in
theorem lw_part (X : Cx p l e R s m args c D cA A s0 n sf) (K : Kd l D cA h0 o0 I) (hI : I uc um) (hJ : Jn D A s cA q0 uc um of H locs) (hl : lv_has ls 7 [(0, .ref s0), (1, .ref h0), (2, .ref o0), (3, .ref q0), (4, .int i)]) (h1 : vp_in (i + 1) n) (h2 : vp_in (i + 2) n) (hf : cells + 1 ≤ R.cells ∧ slots + 6 ≤ R.slots) (kk : ∀ (uc um : va_W) (of : Nat → Int64) (H : Heap) (locs : List Loc) (ls : Array Slot), I uc um → Jn D A s cA q0 uc um of H locs → lv_has ls 7 [(0, .ref s0), (1, .ref h0), (2, .ref o0), (3, .ref q0), (4, .int i)] → W p l e R s m args below meth c H locs (cells + 1) (slots + 6) Q (F0 m 516 ls [])) : W p l e R s m args below meth c H locs cells slots Q (F0 m 385 ls []) := by
  obtain ⟨hx, hb, hml, hown, htg, hN, hT, hst, hA, hK, hX, hbl, hbA, hR0⟩ := X
  have hRf : 8 ≤ R.frames ∧ 290 ≤ R.locals := ⟨by omega, by omega⟩
  obtain ⟨⟨fs, hc0⟩, gs, hm0⟩ := K.hd uc um hI
  have hcs : cells ≤ R.cells ∧ slots ≤ R.slots := ⟨by omega, by omega⟩
  obtain ⟨r, um1, hI1, d1, d2⟩ := K.part uc um hI (sf (i + 1).toNatClampNeg)
  refine lv_aload_n hx hb dLw_law_385 rfl (lv_at hl 1 rfl) ?_
  refine lv_aload_n hx hb dLw_law_386 rfl (lv_at hl 0 rfl) ?_
  refine lv_iload hx hb dLw_law_387 (lv_at hl 4 rfl) ?_
  refine lv_iconst (v := 1) hx hb dLw_law_389 (by decide) ?_
  refine lv_iadd hx hb dLw_law_390 ?_
  refine va_sld hx hb hX hbl hbA hJ.2.2 h1 dLw_law_391 ?_
  refine rds_V (As := [.int (sf (i + 1).toNatClampNeg)]) (rest := []) ⟨hx, hb, hml, hown, htg⟩ d1 (fun rm h => cw_V htg wd_590 wd_592 qPK_part iPK_part kPK_part pPK_part h.1 h.2.1 (rmw h hRf)) (ci := 10) rfl rfl hc0 hN hJ.cl hK rfl hl.1 rfl (Nat.le_of_ble_eq_true rfl) dLw_law_392 hcs ?_
  refine lv_aload_n hx hb dLw_law_395 rfl (lv_at hl 2 rfl) ?_
  refine lv_aload_n hx hb dLw_law_396 rfl (lv_at hl 0 rfl) ?_
  refine lv_iload hx hb dLw_law_397 (lv_at hl 4 rfl) ?_
  refine lv_iconst (v := 1) hx hb dLw_law_399 (by decide) ?_
  refine lv_iadd hx hb dLw_law_400 ?_
  refine va_sld hx hb hX hbl hbA hJ.2.2 h1 dLw_law_401 ?_
  refine do_V (As := [.int (sf (i + 1).toNatClampNeg)]) (rest := [.int r]) ⟨hx, hb, hml, hown, htg⟩ d2 (fun rm h => cw_V htg wd_1014 wd_1016 qMd_part iMd_part kMd_part pMd_part h.1 h.2.1 (rmw h hRf)) (ci := 11) rfl rfl hm0 hN hJ.md hJ.mdD hJ.2.2 hA hK rfl hl.1 rfl (Nat.le_of_ble_eq_true rfl) dLw_law_402 hcs (fun H locs hP hD hS => ?_)
  have hJ := Jn.of_md hP hD hS
  refine lv_icmp_eq (tgt := 516) hx hb dLw_law_405 (by decide) (fun _ => ?_) (fun h9 => absurd rfl h9)
  exact W.widen (k := cells + 1) (n := slots + 6) (by omega) (by omega) (kk _ _ _ _ _ _ hI1 hJ hl)
set_option maxHeartbeats 4000000 in
theorem lw_storage (X : Cx p l e R s m args c D cA A s0 n sf) (K : Kd l D cA h0 o0 I) (hI : I uc um) (hJ : Jn D A s cA q0 uc um of H locs) (hl : lv_has ls 7 [(0, .ref s0), (1, .ref h0), (2, .ref o0), (3, .ref q0), (4, .int i)]) (h1 : vp_in (i + 1) n) (h2 : vp_in (i + 2) n) (hf : cells + 1 ≤ R.cells ∧ slots + 6 ≤ R.slots) (kk : ∀ (uc um : va_W) (of : Nat → Int64) (H : Heap) (locs : List Loc) (ls : Array Slot), I uc um → Jn D A s cA q0 uc um of H locs → lv_has ls 7 [(0, .ref s0), (1, .ref h0), (2, .ref o0), (3, .ref q0), (4, .int i)] → W p l e R s m args below meth c H locs (cells + 1) (slots + 6) Q (F0 m 516 ls [])) : W p l e R s m args below meth c H locs cells slots Q (F0 m 410 ls []) := by
  obtain ⟨hx, hb, hml, hown, htg, hN, hT, hst, hA, hK, hX, hbl, hbA, hR0⟩ := X
  have hRf : 8 ≤ R.frames ∧ 290 ≤ R.locals := ⟨by omega, by omega⟩
  obtain ⟨⟨fs, hc0⟩, gs, hm0⟩ := K.hd uc um hI
  have hcs : cells ≤ R.cells ∧ slots ≤ R.slots := ⟨by omega, by omega⟩
  obtain ⟨r, um1, hI1, d1, d2⟩ := K.storage uc um hI
  refine lv_aload_n hx hb dLw_law_410 rfl (lv_at hl 1 rfl) ?_
  refine rds_V (As := []) (rest := []) ⟨hx, hb, hml, hown, htg⟩ d1 (fun rm h => cw_V htg wd_613 wd_615 qPK_storage iPK_storage kPK_storage pPK_storage h.1 h.2.1 (rmw h hRf)) (ci := 10) rfl rfl hc0 hN hJ.cl hK rfl hl.1 rfl (Nat.le_of_ble_eq_true rfl) dLw_law_411 hcs ?_
  refine lv_aload_n hx hb dLw_law_414 rfl (lv_at hl 2 rfl) ?_
  refine do_V (As := []) (rest := [.int r]) ⟨hx, hb, hml, hown, htg⟩ d2 (fun rm h => cw_V htg wd_1018 wd_1020 qMd_storage iMd_storage kMd_storage pMd_storage h.1 h.2.1 (rmw h hRf)) (ci := 11) rfl rfl hm0 hN hJ.md hJ.mdD hJ.2.2 hA hK rfl hl.1 rfl (Nat.le_of_ble_eq_true rfl) dLw_law_415 hcs (fun H locs hP hD hS => ?_)
  have hJ := Jn.of_md hP hD hS
  refine lv_icmp_eq (tgt := 516) hx hb dLw_law_418 (by decide) (fun _ => ?_) (fun h9 => absurd rfl h9)
  exact W.widen (k := cells + 1) (n := slots + 6) (by omega) (by omega) (kk _ _ _ _ _ _ hI1 hJ hl)
set_option maxHeartbeats 4000000 in
theorem lw_count (X : Cx p l e R s m args c D cA A s0 n sf) (K : Kd l D cA h0 o0 I) (hI : I uc um) (hJ : Jn D A s cA q0 uc um of H locs) (hl : lv_has ls 7 [(0, .ref s0), (1, .ref h0), (2, .ref o0), (3, .ref q0), (4, .int i)]) (h1 : vp_in (i + 1) n) (h2 : vp_in (i + 2) n) (hf : cells + 1 ≤ R.cells ∧ slots + 6 ≤ R.slots) (kk : ∀ (uc um : va_W) (of : Nat → Int64) (H : Heap) (locs : List Loc) (ls : Array Slot), I uc um → Jn D A s cA q0 uc um of H locs → lv_has ls 7 [(0, .ref s0), (1, .ref h0), (2, .ref o0), (3, .ref q0), (4, .int i)] → W p l e R s m args below meth c H locs (cells + 1) (slots + 6) Q (F0 m 516 ls [])) : W p l e R s m args below meth c H locs cells slots Q (F0 m 423 ls []) := by
  obtain ⟨hx, hb, hml, hown, htg, hN, hT, hst, hA, hK, hX, hbl, hbA, hR0⟩ := X
  have hRf : 8 ≤ R.frames ∧ 290 ≤ R.locals := ⟨by omega, by omega⟩
  obtain ⟨⟨fs, hc0⟩, gs, hm0⟩ := K.hd uc um hI
  have hcs : cells ≤ R.cells ∧ slots ≤ R.slots := ⟨by omega, by omega⟩
  obtain ⟨r, um1, hI1, d1, d2⟩ := K.count uc um hI (sf (i + 1).toNatClampNeg)
  refine lv_aload_n hx hb dLw_law_423 rfl (lv_at hl 1 rfl) ?_
  refine lv_aload_n hx hb dLw_law_424 rfl (lv_at hl 0 rfl) ?_
  refine lv_iload hx hb dLw_law_425 (lv_at hl 4 rfl) ?_
  refine lv_iconst (v := 1) hx hb dLw_law_427 (by decide) ?_
  refine lv_iadd hx hb dLw_law_428 ?_
  refine va_sld hx hb hX hbl hbA hJ.2.2 h1 dLw_law_429 ?_
  refine rds_V (As := [.int (sf (i + 1).toNatClampNeg)]) (rest := []) ⟨hx, hb, hml, hown, htg⟩ d1 (fun rm h => cw_V htg wd_651 wd_653 qPK_count iPK_count kPK_count pPK_count h.1 h.2.1 (rmw h hRf)) (ci := 10) rfl rfl hc0 hN hJ.cl hK rfl hl.1 rfl (Nat.le_of_ble_eq_true rfl) dLw_law_430 hcs ?_
  refine lv_aload_n hx hb dLw_law_433 rfl (lv_at hl 2 rfl) ?_
  refine lv_aload_n hx hb dLw_law_434 rfl (lv_at hl 0 rfl) ?_
  refine lv_iload hx hb dLw_law_435 (lv_at hl 4 rfl) ?_
  refine lv_iconst (v := 1) hx hb dLw_law_437 (by decide) ?_
  refine lv_iadd hx hb dLw_law_438 ?_
  refine va_sld hx hb hX hbl hbA hJ.2.2 h1 dLw_law_439 ?_
  refine do_V (As := [.int (sf (i + 1).toNatClampNeg)]) (rest := [.int r]) ⟨hx, hb, hml, hown, htg⟩ d2 (fun rm h => cw_V htg wd_1022 wd_1024 qMd_count iMd_count kMd_count pMd_count h.1 h.2.1 (rmw h hRf)) (ci := 11) rfl rfl hm0 hN hJ.md hJ.mdD hJ.2.2 hA hK rfl hl.1 rfl (Nat.le_of_ble_eq_true rfl) dLw_law_440 hcs (fun H locs hP hD hS => ?_)
  have hJ := Jn.of_md hP hD hS
  refine lv_icmp_eq (tgt := 516) hx hb dLw_law_443 (by decide) (fun _ => ?_) (fun h9 => absurd rfl h9)
  exact W.widen (k := cells + 1) (n := slots + 6) (by omega) (by omega) (kk _ _ _ _ _ _ hI1 hJ hl)
set_option maxHeartbeats 4000000 in
theorem lw_several (X : Cx p l e R s m args c D cA A s0 n sf) (K : Kd l D cA h0 o0 I) (hI : I uc um) (hJ : Jn D A s cA q0 uc um of H locs) (hl : lv_has ls 7 [(0, .ref s0), (1, .ref h0), (2, .ref o0), (3, .ref q0), (4, .int i)]) (h1 : vp_in (i + 1) n) (h2 : vp_in (i + 2) n) (hf : cells + 1 ≤ R.cells ∧ slots + 6 ≤ R.slots) (kk : ∀ (uc um : va_W) (of : Nat → Int64) (H : Heap) (locs : List Loc) (ls : Array Slot), I uc um → Jn D A s cA q0 uc um of H locs → lv_has ls 7 [(0, .ref s0), (1, .ref h0), (2, .ref o0), (3, .ref q0), (4, .int i)] → W p l e R s m args below meth c H locs (cells + 1) (slots + 6) Q (F0 m 516 ls [])) : W p l e R s m args below meth c H locs cells slots Q (F0 m 448 ls []) := by
  obtain ⟨hx, hb, hml, hown, htg, hN, hT, hst, hA, hK, hX, hbl, hbA, hR0⟩ := X
  have hRf : 8 ≤ R.frames ∧ 290 ≤ R.locals := ⟨by omega, by omega⟩
  obtain ⟨⟨fs, hc0⟩, gs, hm0⟩ := K.hd uc um hI
  have hcs : cells ≤ R.cells ∧ slots ≤ R.slots := ⟨by omega, by omega⟩
  rcases K.several uc um hI (sf (i + 1).toNatClampNeg) (sf (i + 2).toNatClampNeg) with h9 | h9
  · obtain ⟨r, um1, hI1, d1, d2, d3⟩ := h9
    refine lv_aload_n hx hb dLw_law_448 rfl (lv_at hl 1 rfl) ?_
    refine lv_aload_n hx hb dLw_law_449 rfl (lv_at hl 0 rfl) ?_
    refine lv_iload hx hb dLw_law_450 (lv_at hl 4 rfl) ?_
    refine lv_iconst (v := 1) hx hb dLw_law_452 (by decide) ?_
    refine lv_iadd hx hb dLw_law_453 ?_
    refine va_sld hx hb hX hbl hbA hJ.2.2 h1 dLw_law_454 ?_
    refine lv_aload_n hx hb dLw_law_455 rfl (lv_at hl 0 rfl) ?_
    refine lv_iload hx hb dLw_law_456 (lv_at hl 4 rfl) ?_
    refine lv_iconst (v := 2) hx hb dLw_law_458 (by decide) ?_
    refine lv_iadd hx hb dLw_law_459 ?_
    refine va_sld hx hb hX hbl hbA hJ.2.2 h2 dLw_law_460 ?_
    refine lv_aload_n hx hb dLw_law_461 rfl (lv_at hl 3 rfl) ?_
    refine run_X (As := [.ref h0, .int (sf (i + 1).toNatClampNeg), .int (sf (i + 2).toNatClampNeg), .ref q0]) (rest := []) ⟨hx, hb, hml, hown, htg⟩ (c_Lw_several_ok l D cA _ h0 q0 (sf (i + 1).toNatClampNeg) (sf (i + 2).toNatClampNeg) uc of fs r d1 hc0) (cw_X htg wd_762 qLw_several iLw_several kLw_several pLw_several rfl rfl ⟨by show 8 + 1 ≤ R.frames; omega, by show 8 + (5 + 11) + 320 ≤ R.locals; omega⟩) hN hT (kp_S hJ.2.2 hst) hJ.1 hJ.2.1 hJ.2.2 hA hK rfl hl.1 rfl (Nat.le_of_ble_eq_true rfl) dLw_law_462 hf (fun H locs hP hD hS => ?_)
    have hJ : Jn D A s cA q0 uc um (vp_updL of (0 : Int32).toNatClampNeg r.toInt64) H locs := ⟨hP, hD, hS⟩
    refine lv_istore (lv' := [(5, .int 0), (0, .ref s0), (1, .ref h0), (2, .ref o0), (3, .ref q0), (4, .int i)]) hx hb dLw_law_465 hl (by decide) rfl (fun ls hl => ?_)
    refine lv_aload_n hx hb dLw_law_467 rfl (lv_at hl 3 rfl) ?_
    refine lv_aload_n hx hb dLw_law_468 rfl (lv_at hl 1 rfl) ?_
    refine lv_iload hx hb dLw_law_469 (lv_at hl 5 rfl) ?_
    refine lv_iconst (v := 1) hx hb dLw_law_471 (by decide) ?_
    refine lv_iadd hx hb dLw_law_472 ?_
    refine va_sld hx hb hX hbl hbA hJ.2.2 h1 dLw_law_473 ?_
    refine lv_aload_n hx hb dLw_law_474 rfl (lv_at hl 1 rfl) ?_
    refine lv_iload hx hb dLw_law_475 (lv_at hl 5 rfl) ?_
    refine lv_iconst (v := 2) hx hb dLw_law_477 (by decide) ?_
    refine lv_iadd hx hb dLw_law_478 ?_
    refine va_sld hx hb hX hbl hbA hJ.2.2 h2 dLw_law_479 ?_
    refine do_V (As := [.int (sf (i + 1).toNatClampNeg), .int (sf (i + 2).toNatClampNeg)]) (rest := []) ⟨hx, hb, hml, hown, htg⟩ d2 (fun rm h => cw_V htg wd_1026 wd_1028 qMd_several iMd_several kMd_several pMd_several h.1 h.2.1 (rmw h hRf)) (ci := 11) rfl rfl hm0 hN hJ.md hJ.mdD hJ.2.2 hA hK rfl hl.1 rfl (Nat.le_of_ble_eq_true rfl) dLw_law_480 hf (fun H locs hP hD hS => ?_)
    have hJ := Jn.of_md hP hD hS
    refine lv_istore (lv' := [(6, .int r), (5, .int 0), (0, .ref s0), (1, .ref h0), (2, .ref o0), (3, .ref q0), (4, .int i)]) hx hb dLw_law_483 hl (by decide) rfl (fun ls hl => ?_)
    obtain ⟨gs1, hm1⟩ := (K.hd _ _ hI1).2
    refine lv_aload_n hx hb dLw_law_485 rfl (lv_at hl 4 rfl) ?_
    refine rds_V (As := []) (rest := []) ⟨hx, hb, hml, hown, htg⟩ d3 (fun rm h => cw_V htg wd_890 wd_892 qMd_thrown iMd_thrown kMd_thrown pMd_thrown h.1 h.2.1 (rmw h hRf)) (ci := 11) rfl rfl hm1 hN hJ.md hK rfl hl.1 rfl (Nat.le_of_ble_eq_true rfl) dLw_law_486 hf ?_
    refine lv_iload hx hb dLw_law_489 (lv_at hl 1 rfl) ?_
    refine lv_icmp_eq (tgt := 496) hx hb dLw_law_491 (by decide) (fun _ => ?_) (fun h9 => absurd rfl h9)
    refine lv_iload hx hb dLw_law_496 (lv_at hl 1 rfl) ?_
    refine lv_if_ne (tgt := 513) hx hb dLw_law_498 (by decide) (fun h9 => absurd rfl h9) (fun _ => ?_)
    refine lv_aload_n hx hb dLw_law_501 rfl (lv_at hl 5 rfl) ?_
    refine lv_iconst (v := 0) hx hb dLw_law_502 (by decide) ?_
    refine va_lald hx hb hK hJ.ou 0 2 rfl rfl in01 dLw_law_503 ?_
    refine lv_iload hx hb dLw_law_504 (lv_at hl 0 rfl) ?_
    refine lv_i2l hx hb dLw_law_506 rfl ?_
    refine W.lcmp hx hb dLw_law_507 ?_
    refine lv_if_eq (tgt := 513) hx hb dLw_law_508 (by decide) (fun _ => ?_) (fun h9 => absurd (lc_upd of r) h9)
    refine lv_goto (tgt := 516) hx hb dLw_law_513 (by decide) ?_
    exact kk _ _ _ _ _ _ hI1 hJ (lv_sub hl [2, 3, 4, 5, 6] rfl)
  · obtain ⟨r, um1, hI1, d1, d2, d3⟩ := h9
    refine lv_aload_n hx hb dLw_law_448 rfl (lv_at hl 1 rfl) ?_
    refine lv_aload_n hx hb dLw_law_449 rfl (lv_at hl 0 rfl) ?_
    refine lv_iload hx hb dLw_law_450 (lv_at hl 4 rfl) ?_
    refine lv_iconst (v := 1) hx hb dLw_law_452 (by decide) ?_
    refine lv_iadd hx hb dLw_law_453 ?_
    refine va_sld hx hb hX hbl hbA hJ.2.2 h1 dLw_law_454 ?_
    refine lv_aload_n hx hb dLw_law_455 rfl (lv_at hl 0 rfl) ?_
    refine lv_iload hx hb dLw_law_456 (lv_at hl 4 rfl) ?_
    refine lv_iconst (v := 2) hx hb dLw_law_458 (by decide) ?_
    refine lv_iadd hx hb dLw_law_459 ?_
    refine va_sld hx hb hX hbl hbA hJ.2.2 h2 dLw_law_460 ?_
    refine lv_aload_n hx hb dLw_law_461 rfl (lv_at hl 3 rfl) ?_
    refine run_X (As := [.ref h0, .int (sf (i + 1).toNatClampNeg), .int (sf (i + 2).toNatClampNeg), .ref q0]) (rest := []) ⟨hx, hb, hml, hown, htg⟩ (c_Lw_several_thr l D cA _ h0 q0 (sf (i + 1).toNatClampNeg) (sf (i + 2).toNatClampNeg) uc of fs d1 hc0) (cw_X htg wd_762 qLw_several iLw_several kLw_several pLw_several rfl rfl ⟨by show 8 + 1 ≤ R.frames; omega, by show 8 + (5 + 11) + 320 ≤ R.locals; omega⟩) hN hT (kp_S hJ.2.2 hst) hJ.1 hJ.2.1 hJ.2.2 hA hK rfl hl.1 rfl (Nat.le_of_ble_eq_true rfl) dLw_law_462 hf (fun H locs hP hD hS => ?_)
    have hJ : Jn D A s cA q0 uc um of H locs := ⟨hP, hD, hS⟩
    refine lv_istore (lv' := [(5, .int 1), (0, .ref s0), (1, .ref h0), (2, .ref o0), (3, .ref q0), (4, .int i)]) hx hb dLw_law_465 hl (by decide) rfl (fun ls hl => ?_)
    refine lv_aload_n hx hb dLw_law_467 rfl (lv_at hl 3 rfl) ?_
    refine lv_aload_n hx hb dLw_law_468 rfl (lv_at hl 1 rfl) ?_
    refine lv_iload hx hb dLw_law_469 (lv_at hl 5 rfl) ?_
    refine lv_iconst (v := 1) hx hb dLw_law_471 (by decide) ?_
    refine lv_iadd hx hb dLw_law_472 ?_
    refine va_sld hx hb hX hbl hbA hJ.2.2 h1 dLw_law_473 ?_
    refine lv_aload_n hx hb dLw_law_474 rfl (lv_at hl 1 rfl) ?_
    refine lv_iload hx hb dLw_law_475 (lv_at hl 5 rfl) ?_
    refine lv_iconst (v := 2) hx hb dLw_law_477 (by decide) ?_
    refine lv_iadd hx hb dLw_law_478 ?_
    refine va_sld hx hb hX hbl hbA hJ.2.2 h2 dLw_law_479 ?_
    refine do_V (As := [.int (sf (i + 1).toNatClampNeg), .int (sf (i + 2).toNatClampNeg)]) (rest := []) ⟨hx, hb, hml, hown, htg⟩ d2 (fun rm h => cw_V htg wd_1026 wd_1028 qMd_several iMd_several kMd_several pMd_several h.1 h.2.1 (rmw h hRf)) (ci := 11) rfl rfl hm0 hN hJ.md hJ.mdD hJ.2.2 hA hK rfl hl.1 rfl (Nat.le_of_ble_eq_true rfl) dLw_law_480 hf (fun H locs hP hD hS => ?_)
    have hJ := Jn.of_md hP hD hS
    refine lv_istore (lv' := [(6, .int r), (5, .int 1), (0, .ref s0), (1, .ref h0), (2, .ref o0), (3, .ref q0), (4, .int i)]) hx hb dLw_law_483 hl (by decide) rfl (fun ls hl => ?_)
    obtain ⟨gs1, hm1⟩ := (K.hd _ _ hI1).2
    refine lv_aload_n hx hb dLw_law_485 rfl (lv_at hl 4 rfl) ?_
    refine rds_V (As := []) (rest := []) ⟨hx, hb, hml, hown, htg⟩ d3 (fun rm h => cw_V htg wd_890 wd_892 qMd_thrown iMd_thrown kMd_thrown pMd_thrown h.1 h.2.1 (rmw h hRf)) (ci := 11) rfl rfl hm1 hN hJ.md hK rfl hl.1 rfl (Nat.le_of_ble_eq_true rfl) dLw_law_486 hf ?_
    refine lv_iload hx hb dLw_law_489 (lv_at hl 1 rfl) ?_
    refine lv_icmp_eq (tgt := 496) hx hb dLw_law_491 (by decide) (fun _ => ?_) (fun h9 => absurd rfl h9)
    refine lv_iload hx hb dLw_law_496 (lv_at hl 1 rfl) ?_
    refine lv_if_ne (tgt := 513) hx hb dLw_law_498 (by decide) (fun _ => ?_) (fun h9 => absurd h9 (by decide))
    refine lv_goto (tgt := 516) hx hb dLw_law_513 (by decide) ?_
    exact kk _ _ _ _ _ _ hI1 hJ (lv_sub hl [2, 3, 4, 5, 6] rfl)
theorem lw_inc (j : Nat) : nI (3 + 3 * j) + Int32.ofInt 3 = nI (3 + 3 * (j + 1)) := by
  rw [show Int32.ofInt 3 = nI 3 from rfl, nI_add]
  rfl
theorem lw_head {j : Nat} (X : Cx p l e R s m args c D cA A s0 n sf) (hN : n ≤ 1539) (hJ : Jn D A s cA q0 uc um of H locs) (hl : lv_has ls 7 [(0, .ref s0), (1, .ref h0), (2, .ref o0), (3, .ref q0), (4, .int (nI (3 + 3 * j)))]) (kt : W p l e R s m args below meth c H locs cells slots Q (F0 m 522 ls [])) (kf : 3 + 3 * j + 3 ≤ n → W p l e R s m args below meth c H locs cells slots Q (F0 m 62 ls [])) (hj : j ≤ 600 := by omega) : W p l e R s m args below meth c H locs cells slots Q (F0 m 53 ls []) := by
  refine lv_iload X.hx X.hb dLw_law_53 (lv_at hl 4 rfl) ?_
  refine lv_aload_n X.hx X.hb dLw_law_55 rfl (lv_at hl 0 rfl) ?_
  refine va_slen X.hx X.hb X.hX X.hbl X.hbA hJ.2.2 dLw_law_56 ?_
  show W p l e R s m args below meth c H locs cells slots Q (F0 m 57 ls [.int (nI n), .int (nI (3 + 3 * j))])
  refine lv_iconst (v := 3) X.hx X.hb dLw_law_57 (by decide) ?_
  refine lv_isub X.hx X.hb dLw_law_58 ?_
  refine lv_icmp_gt (tgt := 522) X.hx X.hb dLw_law_59 (by decide) (fun _ => kt) (fun h => kf ?_)
  have e1 : (nI n - 3).toInt = (n : Int) - 3 := by
    rw [Int32.toInt_sub, nI_toInt (by omega), show (3 : Int32).toInt = 3 from rfl]
    exact i_bm (by omega) (by omega)
  rw [Int32.lt_iff_toInt_lt, e1, nI_toInt (by omega)] at h
  omega
set_option maxHeartbeats 4000000 in
theorem lw_loop {c0 k0 : Nat} (X : Cx p l e R s m args c D cA A s0 n sf) (K : Kd l D cA h0 o0 I) (hN : n ≤ 1539) (hrm : c0 + 520 ≤ R.cells ∧ k0 + 3120 ≤ R.slots) (hexit : ∀ {uc um : va_W} {of : Nat → Int64} {j : Nat} (H : Heap) (locs : List Loc) (ls : Array Slot) (kc ks : Nat), Jn D A s cA q0 uc um of H locs → lv_has ls 7 [(0, .ref s0), (1, .ref h0), (2, .ref o0), (3, .ref q0), (4, .int (nI (3 + 3 * j)))] → kc ≤ c0 + 520 → ks ≤ k0 + 3120 → W p l e R s m args below meth c H locs kc ks Q (F0 m 522 ls [])) : ∀ d j (uc um : va_W) (of : Nat → Int64) (H : Heap) (locs : List Loc) (ls : Array Slot), j + d = 513 → I uc um → Jn D A s cA q0 uc um of H locs → lv_has ls 7 [(0, .ref s0), (1, .ref h0), (2, .ref o0), (3, .ref q0), (4, .int (nI (3 + 3 * j)))] → W p l e R s m args below meth c H locs (c0 + j) (k0 + 6 * j) Q (F0 m 53 ls []) := by
  intro d
  induction d with
  | zero =>
    intro j uc um of H locs ls hj hI hJ hl
    refine lw_head X hN hJ hl ?_ (fun h9 => absurd h9 (by omega))
    exact hexit H locs ls (c0 + j) (k0 + 6 * j) hJ hl (by omega) (by omega)
  | succ d ih =>
    intro j uc um of H locs ls hj hI hJ hl
    refine lw_head X hN hJ hl ?_ (fun h9 => ?_)
    · exact hexit H locs ls (c0 + j) (k0 + 6 * j) hJ hl (by omega) (by omega)
    · have h1 : vp_in (nI (3 + 3 * j) + 1) n := by rw [nI_1]; exact nI_in (by omega) (by omega)
      have h2 : vp_in (nI (3 + 3 * j) + 2) n := by rw [show (2 : Int32) = nI 2 from rfl, nI_add]; exact nI_in (by omega) (by omega)
      have hf : c0 + j + 1 ≤ R.cells ∧ k0 + 6 * j + 6 ≤ R.slots := ⟨by omega, by omega⟩
      have kk : ∀ (uc um : va_W) (of : Nat → Int64) (H : Heap) (locs : List Loc) (ls : Array Slot), I uc um → Jn D A s cA q0 uc um of H locs → lv_has ls 7 [(0, .ref s0), (1, .ref h0), (2, .ref o0), (3, .ref q0), (4, .int (nI (3 + 3 * j)))] → W p l e R s m args below meth c H locs (c0 + j + 1) (k0 + 6 * j + 6) Q (F0 m 516 ls []) := by
        intro uc um of H locs ls hI hJ hl
        refine lv_iinc (v := nI (3 + 3 * (j + 1))) (lv' := [(4, .int (nI (3 + 3 * (j + 1)))), (0, .ref s0), (1, .ref h0), (2, .ref o0), (3, .ref q0)]) X.hx X.hb dLw_law_516 hl (k := 4) rfl (lw_inc j) (by decide) rfl (fun ls hl => ?_)
        refine lv_goto (tgt := 53) X.hx X.hb dLw_law_519 (by decide) ?_
        exact ih (j + 1) uc um of H locs ls (by omega) hI hJ (lv_sub hl [1, 2, 3, 4, 0] rfl)
      refine lv_aload_n X.hx X.hb dLw_law_62 rfl (lv_at hl 0 rfl) ?_
      refine lv_iload X.hx X.hb dLw_law_63 (lv_at hl 4 rfl) ?_
      refine va_sld X.hx X.hb X.hX X.hbl X.hbA hJ.2.2 (nI_in (by omega) (by omega)) dLw_law_65 ?_
      refine lv_bipush (v := 15) X.hx X.hb dLw_law_66 (by decide) ?_
      refine lv_iand X.hx X.hb dLw_law_68 ?_
      generalize sf (nI (3 + 3 * j)).toNatClampNeg &&& 15 = x
      by_cases c_0 : x = 0
      · exact lv_tableIn (tgt := 128) X.hx X.hb dLw_law_69 (by rw [c_0]; decide) (by rw [c_0]; decide) (by rw [c_0]; rfl) (by decide) (lw_told X K hI hJ hl h1 h2 hf kk)
      by_cases c_1 : x = 1
      · exact lv_tableIn (tgt := 153) X.hx X.hb dLw_law_69 (by rw [c_1]; decide) (by rw [c_1]; decide) (by rw [c_1]; rfl) (by decide) (lw_update X K hI hJ hl h1 h2 hf kk)
      by_cases c_2 : x = 2
      · exact lv_tableIn (tgt := 206) X.hx X.hb dLw_law_69 (by rw [c_2]; decide) (by rw [c_2]; decide) (by rw [c_2]; rfl) (by decide) (lw_early X K hI hJ hl h1 h2 hf kk)
      by_cases c_3 : x = 3
      · exact lv_tableIn (tgt := 247) X.hx X.hb dLw_law_69 (by rw [c_3]; decide) (by rw [c_3]; decide) (by rw [c_3]; rfl) (by decide) (lw_history X K hI hJ hl h1 h2 hf kk)
      by_cases c_4 : x = 4
      · exact lv_tableIn (tgt := 260) X.hx X.hb dLw_law_69 (by rw [c_4]; decide) (by rw [c_4]; decide) (by rw [c_4]; rfl) (by decide) (lw_mark X K hI hJ hl h1 h2 hf kk)
      by_cases c_5 : x = 5
      · exact lv_tableIn (tgt := 304) X.hx X.hb dLw_law_69 (by rw [c_5]; decide) (by rw [c_5]; decide) (by rw [c_5]; rfl) (by decide) (lw_repair X K hI hJ hl h1 h2 hf kk)
      by_cases c_6 : x = 6
      · exact lv_tableIn (tgt := 360) X.hx X.hb dLw_law_69 (by rw [c_6]; decide) (by rw [c_6]; decide) (by rw [c_6]; rfl) (by decide) (lw_row X K hI hJ hl h1 h2 hf kk)
      by_cases c_7 : x = 7
      · exact lv_tableIn (tgt := 385) X.hx X.hb dLw_law_69 (by rw [c_7]; decide) (by rw [c_7]; decide) (by rw [c_7]; rfl) (by decide) (lw_part X K hI hJ hl h1 h2 hf kk)
      by_cases c_8 : x = 8
      · exact lv_tableIn (tgt := 410) X.hx X.hb dLw_law_69 (by rw [c_8]; decide) (by rw [c_8]; decide) (by rw [c_8]; rfl) (by decide) (lw_storage X K hI hJ hl h1 h2 hf kk)
      by_cases c_9 : x = 9
      · exact lv_tableIn (tgt := 423) X.hx X.hb dLw_law_69 (by rw [c_9]; decide) (by rw [c_9]; decide) (by rw [c_9]; rfl) (by decide) (lw_count X K hI hJ hl h1 h2 hf kk)
      by_cases c_10 : x = 10
      · exact lv_tableIn (tgt := 448) X.hx X.hb dLw_law_69 (by rw [c_10]; decide) (by rw [c_10]; decide) (by rw [c_10]; rfl) (by decide) (lw_several X K hI hJ hl h1 h2 hf kk)
      refine lv_tableOut (tgt := 516) X.hx X.hb dLw_law_69 (by have := ne_toInt (z := 0) c_0 (by decide); have := ne_toInt (z := 1) c_1 (by decide); have := ne_toInt (z := 2) c_2 (by decide); have := ne_toInt (z := 3) c_3 (by decide); have := ne_toInt (z := 4) c_4 (by decide); have := ne_toInt (z := 5) c_5 (by decide); have := ne_toInt (z := 6) c_6 (by decide); have := ne_toInt (z := 7) c_7 (by decide); have := ne_toInt (z := 8) c_8 (by decide); have := ne_toInt (z := 9) c_9 (by decide); have := ne_toInt (z := 10) c_10 (by decide); omega) (by decide) ?_
      exact W.widen (k := c0 + j + 1) (n := k0 + 6 * j + 6) (by omega) (by omega) (kk _ _ _ _ _ _ hI hJ hl)
end LAW
