/-! THE LAW'S READS OF ITS SCRIPT -/
def cv (L : Nat) (xs : Nat → Int32) (k : Int32) : Int32 := if nI L ≤ k then 0 else xs k.toNatClampNeg
theorem mk_none {f g : Nat → Int32} : Mk 0 0 0 f g := ⟨by omega, rfl, rfl, fun j h => absurd h (by omega)⟩
set_option maxHeartbeats 4000000 in
theorem c_Lw_cell (l : Launch) (b L : Nat) (xs : Nat → Int32) (hL : L < 2147483648) (k : Int32) (hk : ¬ k < 0) : Met l yLw_cell wLw_cell { frames := 0, cells := 0, slots := 0, locals := 0 } (va_Pc [.ref b, .int k] (fun U => va_X b L xs U U.heap)) (QcRead (cv L xs k)) 0 0 (fun _ => False) := by
  refine Met.ofW (cc := cLw_cell) (maxL := 2) (ret := (some .int)) (by decide) rfl ?_
  intro p e s m args below meth c s₁ B hml hv
  obtain ⟨rfl, hX⟩ := hv
  have hx := B.exec
  have hb := B.bytes
  have hr := B.returns
  have hlocks := B.notSynchronized
  have hbl : b < s.heap.size := by
    obtain ⟨scr, h1, -⟩ := hX
    exact (Array.getElem?_eq_some_iff.mp h1).1
  have hS : va_S (fun _ => False) s.heap s.heap [] := va_S.rf
  have hl := lv_entry ([.ref b, .int k]) (n := 2) (Nat.le_of_ble_eq_true rfl)
  rw [lg_entry_eq]
  generalize (lg_sl ([.ref b, .int k]) ++ List.replicate (2 - (lg_sl ([.ref b, .int k])).length) Slot.unset).toArray = ls at hl ⊢
  have hl : lv_has ls 2 [(0, .ref b), (1, .int k)] := hl
  refine lv_iload_n hx hb dLw_cell_0 rfl (lv_at hl 1 rfl) ?_
  refine lv_aload_n hx hb dLw_cell_1 rfl (lv_at hl 0 rfl) ?_
  refine va_slen hx hb hX hbl (fun h => h) hS dLw_cell_2 ?_
  refine lv_icmp_ge (tgt := 12) hx hb dLw_cell_3 (by decide) (fun h => ?_) (fun h => ?_)
  · have e1 : cv L xs k = 0 := if_pos h
    refine lv_iconst (v := 0) hx hb dLw_cell_12 (by decide) ?_
    exact W.iret hx hb hr (fun t ht hW => ⟨by rw [e1], ht⟩) (fun _ h => by cases h) dLw_cell_13
  · have e1 : cv L xs k = xs k.toNatClampNeg := if_neg h
    refine lv_aload_n hx hb dLw_cell_6 rfl (lv_at hl 0 rfl) ?_
    refine lv_iload_n hx hb dLw_cell_7 rfl (lv_at hl 1 rfl) ?_
    refine va_sld hx hb hX hbl (fun h => h) hS (in_of hk h hL) dLw_cell_8 ?_
    refine lv_goto (tgt := 13) hx hb dLw_cell_9 (by decide) ?_
    exact W.iret hx hb hr (fun t ht hW => ⟨by rw [e1], ht⟩) (fun _ h => by cases h) dLw_cell_13
theorem rd_cell {p : Program} {l : Launch} {e : Env} {R : Room} {s : State} {m : MethodId} {args : Array Value} {below : List Frame} {meth : Method} {c : Code} {H : Heap} {locs : List Loc} {cells slots : Nat} {Q : State → Prop} {y : MethodName} {bytes cc : ByteArray} {maxL nL n index pc : Nat} {ret : Option FieldType} {ws Ts : List Cond} {rm : Room} {own : String} {As rest st0 : List Value} {ls : Array Slot} {r : Int32} {A : Nat → Prop} {b L : Nat} {xs : Nat → Int32}
    (S : CallFix p m c cc nL s args Ts own) (hM : Met l y ws rm (va_Pc As (fun U => va_X b L xs U U.heap)) (QcRead r) 0 0 (fun _ => False)) (cw : CallB R s args own index y bytes maxL ret ws rm 0 0 n ∧ (Cond.static y).before args s = true) (hX : va_X b L xs s s.heap) (hbl : b < s.heap.size) (hbA : ¬ A b) (hS : va_S A s.heap H locs) (hn : As.length = n) (hsize : ls.size = nL) (hst : st0 = As.reverse ++ rest) (hW : (rest.map fun v => v.category).sum ≤ 8) (hdg : decode cc pc = .ok (.invokestatic index, 3)) (hf : cells ≤ R.cells ∧ slots ≤ R.slots) (kk : W p l e R s m args below meth c H locs cells slots Q (F0 m (pc + 3) ls (.int r :: rest))) : W p l e R s m args below meth c H locs cells slots Q (F0 m pc ls st0) :=
  W.callR (va_Run.run (va_runS S hM cw ⟨fun a U g mk q => ⟨q.1, va_X.moved (u := U) (U := U.calling g mk a) (Vm.Alike.refl U.vm) q.2⟩, fun U hU hW => ⟨rfl, by show va_X b L xs U U.heap; rw [hU]; exact (hX.kept (hS.2.1 b hbl hbA)).moved hW.alike⟩⟩ rfl hn hsize hst (lv_room hW) hdg hf)) kk
theorem wd_1 : (Jvm.Cond.initialized "PredictorKinds") ∈ GW := gwm 1 (by decide +kernel) (by decide +kernel)
theorem wd_15 : (Jvm.Cond.initialized "PredictorKindsModel") ∈ GW := gwm 15 (by decide +kernel) (by decide +kernel)
theorem wd_22 : (Jvm.Cond.classLink "PredictorKindsLaw" (8 : Nat) "PredictorKinds") ∈ GW := gwm 22 (by decide +kernel) (by decide +kernel)
theorem wd_23 : (Jvm.Cond.instantiable "PredictorKinds" (12 : Nat)) ∈ GW := gwm 23 (by decide +kernel) (by decide +kernel)
theorem wd_24 : (Jvm.Cond.methodLink "PredictorKindsLaw" (33 : Nat) ({ cls := "PredictorKinds", name := "<init>", desc := "(III)V" } : Jvm.MethodName)) ∈ GW := gwm 24 (by decide +kernel) (by decide +kernel)
theorem wd_659 : (Jvm.Cond.methodLink "PredictorKindsLaw" (27 : Nat) ({ cls := "PredictorKindsLaw", name := "cell", desc := "([II)I" } : Jvm.MethodName)) ∈ GW := gwm 659 (by decide +kernel) (by decide +kernel)
theorem wd_786 : (Jvm.Cond.classLink "PredictorKindsLaw" (36 : Nat) "PredictorKindsModel") ∈ GW := gwm 786 (by decide +kernel) (by decide +kernel)
theorem wd_787 : (Jvm.Cond.instantiable "PredictorKindsModel" (31 : Nat)) ∈ GW := gwm 787 (by decide +kernel) (by decide +kernel)
theorem wd_788 : (Jvm.Cond.methodLink "PredictorKindsLaw" (38 : Nat) ({ cls := "PredictorKindsModel", name := "<init>", desc := "(III)V" } : Jvm.MethodName)) ∈ GW := gwm 788 (by decide +kernel) (by decide +kernel)
theorem wd_1030 : (Jvm.Cond.arrayClass Jvm.ClassFile.FieldType.long) ∈ GW := gwm 1030 (by decide +kernel) (by decide +kernel)
