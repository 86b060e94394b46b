/-! THE CLASS'S THROWING ROADS, AND THE LAW'S HELPERS -/
theorem in01 : vp_in 0 1 := by
  unfold vp_in
  decide
def rmH : Room := { frames := 8, cells := 1, slots := 6, locals := 320 }
theorem rmw {R rm : Room} {maxL mc ms : Nat} (h : RmOk rm maxL mc ms) (hf : 8 ≤ R.frames ∧ 290 ≤ R.locals) : rm.frames + 1 ≤ R.frames ∧ 8 + (maxL + 11) + rm.locals ≤ R.locals := ⟨Nat.le_trans h.2.2.1 hf.1, Nat.le_trans h.2.2.2 hf.2⟩
abbrev eO (cA : ClassId × ClassId × ClassId) (f : Nat → Int64) : va_E := .inl (cA.2.2, 1, .inr (.inl f))
abbrev eA (cA : ClassId × ClassId × ClassId) (n : Nat) (f : Nat → Int32) : va_E := .inl (cA.1, n, .inl f)
theorem lays_any {C f d : String} {A : Array Value} {U : State} (h : (Cond.laysStatic C f d).before #[] U = true) : (Cond.laysStatic C f d).before A U = true := h
theorem isref_any {C f d : String} {A : Array Value} {U : State} (h : (Cond.isRef (.static C f d)).before #[] U = true) : (Cond.isRef (.static C f d)).before A U = true := h
theorem sref_any {C t : String} {i : Nat} {A : Array Value} {U : State} (h : (Cond.stringRef C i t).before #[] U = true) : (Cond.stringRef C i t).before A U = true := h
theorem own_ok {args : Array Value} {s : State} {a : Cond} (htg : ∀ w ∈ GW, w.before args s = true) (hT : Th s) (h : a ∈ GW ∨ a ∈ stL ∨ a ∈ thD) : a.before args s = true := by
  rcases h with h | h | h
  · exact htg a h
  · simp only [stL, List.mem_cons, List.not_mem_nil, or_false] at h
    rcases h with rfl | rfl | rfl | rfl
    · exact lays_any hT.1.1
    · exact lays_any hT.2.1.1
    · exact isref_any hT.1.2
    · exact isref_any hT.2.1.2
  · exact va_Nw.use (thD_tab a h) (hT.2.2.2 a h)
theorem cw_X {R : Room} {s : State} {args : Array Value} {own : String} {index maxL mc ms n : Nat} {y : MethodName} {bytes : ByteArray} {ret : Option FieldType} {hh : List (Nat × Nat × Nat × Nat)} {rm : Room} (htg : ∀ w ∈ GW, w.before args s = true) (hl : Cond.methodLink own index y ∈ GW) (hq : Cond.static y ∈ GW) (hi : Cond.initialized y.cls ∈ GW) (hk : Cond.codeWith y bytes maxL ret hh ∈ GW) (hd : y.cls ≠ "java/lang/invoke/MethodHandle" ∧ y.cls ≠ "java/lang/invoke/VarHandle" ∧ (parseMethodDescriptor y.desc).map (fun d => d.parameters.length) = some n) (hrc : rm.cells = mc) (hrs : rm.slots = ms) (hR : rm.frames + 1 ≤ R.frames ∧ 8 + (maxL + 11) + rm.locals ≤ R.locals) : CallX R s args own index y bytes maxL ret hh (.codeWith y bytes maxL ret hh :: GW) rm mc ms n := by
  refine ⟨hrc, hrs, hR.1, hR.2, pay_in htg (GC hk), List.mem_cons_self, htg _ hk, htg _ hi, ⟨hd.1, hd.2.1⟩, fun sig h => ?_, htg _ hl, htg _ hq⟩
  have h2 := hd.2.2
  rw [h] at h2
  exact (Option.some.inj h2).symm
theorem own_mark : ∀ a ∈ Bundle.ownAtoms R_PK 107 "java/lang/UnsupportedOperationException" ["java/lang/RuntimeException", "java/lang/Exception"], a ∈ GW ∨ a ∈ stL ∨ a ∈ thD := by decide +kernel
set_option maxHeartbeats 4000000 in
theorem t_PK_mark (l : Launch) (htr : l.stackTraces = false) (dC : Nat → ClassId) (dI : Nat → Nat → Nat) (cA : ClassId × ClassId × ClassId) (h0 k0 w0 m0 : Nat) (kn sz0 mc0 ps : Int32) (ey : Bool) (u1 u2 u3 u4 : Int32) (hfull : ¬ mc0 < 32) : MetT l yPK_mark wPK_mark { frames := 6, cells := 1, slots := 6, locals := 120 } (va_Pc [.ref h0] (fun U => Rd (dC, dI) cA [(h0, .inr (10, [.int kn, .int sz0, .ref k0, .ref w0, .ref m0, .int mc0, .int ps, .int (bI ey), .int u1, .int u2, .int u3, .int u4]))] U ∧ Th U)) "java/lang/UnsupportedOperationException" := by
  refine MetT.ofW (cc := cPK_mark) (maxL := 1) (ret := some .int) (by decide) rfl ?_
  intro p e s m args below meth c s₁ B hml hv
  obtain ⟨rfl, ⟨hN, hP, hK⟩, hT⟩ := hv
  have hx := B.exec
  have hb := B.bytes
  have hts := atoms_spec (ws := wPK_mark) B.pre
  have htg : ∀ w ∈ GW, w.before _ s = true := fun w h => hts w (List.mem_cons_of_mem _ h)
  have hown : s.vm.findClass R_PK = some m.cls := findClass_of_methodNamed B.named
  have hlocks := B.notSynchronized
  have hl := lv_entry ([.ref h0]) (n := 1) (Nat.le_of_ble_eq_true rfl)
  rw [lg_entry_eq]
  generalize (lg_sl ([.ref h0]) ++ List.replicate (1 - (lg_sl ([.ref h0])).length) Slot.unset).toArray = ls at hl ⊢
  have hl : lv_has ls 1 [(0, .ref h0)] := hl
  have fin : W p l e (headSpec wPK_mark { frames := 6, cells := 1, slots := 6, locals := 120 }).room s m (([.ref h0] : List Value).toArray) below meth c s.heap [] 0 0 (MQT below "java/lang/UnsupportedOperationException" (([.ref h0] : List Value).toArray) s) (F0 m 9 ls []) := by
    obtain ⟨a9, h9⟩ := hT.2.2.1 (105, "there are 32 marks") (by decide)
    exact throwS (tx := "there are 32 marks") (names := ["java/lang/RuntimeException", "java/lang/Exception"]) hx hb hlocks (B.noHandlers (hts _ List.mem_cons_self)) htr hown (by decide +kernel) (by decide +kernel) (fun a ha => own_ok htg hT (own_mark a ha)) (htg _ wd_670) (htg _ wd_19) h9.1 (hl.1.trans hml.symm) dPK_mark_9 dPK_mark_12 dPK_mark_13 dPK_mark_15 dPK_mark_18 ⟨Nat.le_of_ble_eq_true rfl, Nat.le_of_ble_eq_true rfl, Nat.le_of_ble_eq_true rfl, Nat.le_of_ble_eq_true rfl⟩
  refine lv_aload_n hx hb dPK_mark_0 rfl (lv_at hl 0 rfl) ?_
  refine va_get (D := (dC, dI)) (ci := 10) (v := .int mc0) (C := R_PK) (T := T_PK) (N := 12) hx hb htg in_PK hown hK hP 0 rfl rfl 5 (by decide) (htg _ wd_267) (fun _ h9 => h9) rfl dPK_mark_1 ?_
  refine lv_bipush (v := 32) hx hb dPK_mark_4 (by decide) ?_
  exact lv_icmp_lt (tgt := 19) hx hb dPK_mark_6 (by decide) (fun h => absurd h hfull) (fun _ => fin)
theorem own_repair : ∀ a ∈ Bundle.ownAtoms R_PK 118 "java/lang/IndexOutOfBoundsException" ["java/lang/RuntimeException", "java/lang/Exception"], a ∈ GW ∨ a ∈ stL ∨ a ∈ thD := by decide +kernel
set_option maxHeartbeats 4000000 in
theorem t_PK_repair (l : Launch) (htr : l.stackTraces = false) (dC : Nat → ClassId) (dI : Nat → Nat → Nat) (cA : ClassId × ClassId × ClassId) (h0 k0 w0 m0 : Nat) (kn sz0 mc0 ps : Int32) (ey : Bool) (u1 u2 u3 u4 : Int32) (i0 : Int32) (hbad : i0 < 0 ∨ ¬ i0 < mc0) : MetT l yPK_repair wPK_repair { frames := 6, cells := 1, slots := 6, locals := 120 } (va_Pc [.ref h0, .int i0] (fun U => Rd (dC, dI) cA [(h0, .inr (10, [.int kn, .int sz0, .ref k0, .ref w0, .ref m0, .int mc0, .int ps, .int (bI ey), .int u1, .int u2, .int u3, .int u4]))] U ∧ Th U)) "java/lang/IndexOutOfBoundsException" := by
  refine MetT.ofW (cc := cPK_repair) (maxL := 3) (ret := some .int) (by decide) rfl ?_
  intro p e s m args below meth c s₁ B hml hv
  obtain ⟨rfl, ⟨hN, hP, hK⟩, hT⟩ := hv
  have hx := B.exec
  have hb := B.bytes
  have hts := atoms_spec (ws := wPK_repair) B.pre
  have htg : ∀ w ∈ GW, w.before _ s = true := fun w h => hts w (List.mem_cons_of_mem _ h)
  have hown : s.vm.findClass R_PK = some m.cls := findClass_of_methodNamed B.named
  have hlocks := B.notSynchronized
  have hl := lv_entry ([.ref h0, .int i0]) (n := 3) (Nat.le_of_ble_eq_true rfl)
  rw [lg_entry_eq]
  generalize (lg_sl ([.ref h0, .int i0]) ++ List.replicate (3 - (lg_sl ([.ref h0, .int i0])).length) Slot.unset).toArray = ls at hl ⊢
  have hl : lv_has ls 3 [(0, .ref h0), (1, .int i0)] := hl
  have fin : W p l e (headSpec wPK_repair { frames := 6, cells := 1, slots := 6, locals := 120 }).room s m (([.ref h0, .int i0] : List Value).toArray) below meth c s.heap [] 0 0 (MQT below "java/lang/IndexOutOfBoundsException" (([.ref h0, .int i0] : List Value).toArray) s) (F0 m 12 ls []) := by
    obtain ⟨a9, h9⟩ := hT.2.2.1 (116, "no such mark") (by decide)
    exact throwS (tx := "no such mark") (names := ["java/lang/RuntimeException", "java/lang/Exception"]) hx hb hlocks (B.noHandlers (hts _ List.mem_cons_self)) htr hown (by decide +kernel) (by decide +kernel) (fun a ha => own_ok htg hT (own_repair a ha)) (htg _ wd_746) (htg _ wd_20) h9.1 (hl.1.trans hml.symm) dPK_repair_12 dPK_repair_15 dPK_repair_16 dPK_repair_18 dPK_repair_21 ⟨Nat.le_of_ble_eq_true rfl, Nat.le_of_ble_eq_true rfl, Nat.le_of_ble_eq_true rfl, Nat.le_of_ble_eq_true rfl⟩
  refine lv_iload_n hx hb dPK_repair_0 rfl (lv_at hl 1 rfl) ?_
  refine lv_if_lt (tgt := 12) hx hb dPK_repair_1 (by decide) (fun _ => fin) (fun h1 => ?_)
  refine lv_iload_n hx hb dPK_repair_4 rfl (lv_at hl 1 rfl) ?_
  refine lv_aload_n hx hb dPK_repair_5 rfl (lv_at hl 0 rfl) ?_
  refine va_get (D := (dC, dI)) (ci := 10) (v := .int mc0) (C := R_PK) (T := T_PK) (N := 12) hx hb htg in_PK hown hK hP 0 rfl rfl 5 (by decide) (htg _ wd_267) (fun _ h9 => h9) rfl dPK_repair_6 ?_
  exact lv_icmp_lt (tgt := 22) hx hb dPK_repair_9 (by decide) (fun h2 => absurd h2 (hbad.resolve_left h1)) (fun _ => fin)
theorem own_several : ∀ a ∈ Bundle.ownAtoms R_PK 143 "java/lang/IllegalArgumentException" ["java/lang/RuntimeException", "java/lang/Exception"], a ∈ GW ∨ a ∈ stL ∨ a ∈ thD := by decide +kernel
set_option maxHeartbeats 4000000 in
theorem t_PK_several (l : Launch) (htr : l.stackTraces = false) (dC : Nat → ClassId) (dI : Nat → Nat → Nat) (cA : ClassId × ClassId × ClassId) (h0 k0 w0 m0 : Nat) (kn sz0 mc0 ps : Int32) (ey : Bool) (u1 u2 u3 u4 : Int32) (pl ct0 : Int32) (hbad : ct0 < 1 ∨ ¬ ct0 ≤ 16) : MetT l yPK_several wPK_several { frames := 6, cells := 1, slots := 6, locals := 120 } (va_Pc [.ref h0, .int pl, .int ct0] (fun U => Rd (dC, dI) cA [(h0, .inr (10, [.int kn, .int sz0, .ref k0, .ref w0, .ref m0, .int mc0, .int ps, .int (bI ey), .int u1, .int u2, .int u3, .int u4]))] U ∧ Th U)) "java/lang/IllegalArgumentException" := by
  refine MetT.ofW (cc := cPK_several) (maxL := 7) (ret := some .int) (by decide) rfl ?_
  intro p e s m args below meth c s₁ B hml hv
  obtain ⟨rfl, ⟨hN, hP, hK⟩, hT⟩ := hv
  have hx := B.exec
  have hb := B.bytes
  have hts := atoms_spec (ws := wPK_several) B.pre
  have htg : ∀ w ∈ GW, w.before _ s = true := fun w h => hts w (List.mem_cons_of_mem _ h)
  have hown : s.vm.findClass R_PK = some m.cls := findClass_of_methodNamed B.named
  have hlocks := B.notSynchronized
  have hl := lv_entry ([.ref h0, .int pl, .int ct0]) (n := 7) (Nat.le_of_ble_eq_true rfl)
  rw [lg_entry_eq]
  generalize (lg_sl ([.ref h0, .int pl, .int ct0]) ++ List.replicate (7 - (lg_sl ([.ref h0, .int pl, .int ct0])).length) Slot.unset).toArray = ls at hl ⊢
  have hl : lv_has ls 7 [(0, .ref h0), (1, .int pl), (2, .int ct0)] := hl
  have fin : W p l e (headSpec wPK_several { frames := 6, cells := 1, slots := 6, locals := 120 }).room s m (([.ref h0, .int pl, .int ct0] : List Value).toArray) below meth c s.heap [] 0 0 (MQT below "java/lang/IllegalArgumentException" (([.ref h0, .int pl, .int ct0] : List Value).toArray) s) (F0 m 11 ls []) := by
    obtain ⟨a9, h9⟩ := hT.2.2.1 (141, "n is not 1 .. 16") (by decide)
    exact throwS (tx := "n is not 1 .. 16") (names := ["java/lang/RuntimeException", "java/lang/Exception"]) hx hb hlocks (B.noHandlers (hts _ List.mem_cons_self)) htr hown (by decide +kernel) (by decide +kernel) (fun a ha => own_ok htg hT (own_several a ha)) (htg _ wd_770) (htg _ wd_21) h9.1 (hl.1.trans hml.symm) dPK_several_11 dPK_several_14 dPK_several_15 dPK_several_17 dPK_several_20 ⟨Nat.le_of_ble_eq_true rfl, Nat.le_of_ble_eq_true rfl, Nat.le_of_ble_eq_true rfl, Nat.le_of_ble_eq_true rfl⟩
  refine lv_iload_n hx hb dPK_several_0 rfl (lv_at hl 2 rfl) ?_
  refine lv_iconst (v := 1) hx hb dPK_several_1 (by decide) ?_
  refine lv_icmp_lt (tgt := 11) hx hb dPK_several_2 (by decide) (fun _ => fin) (fun h1 => ?_)
  refine lv_iload_n hx hb dPK_several_5 rfl (lv_at hl 2 rfl) ?_
  refine lv_bipush (v := 16) hx hb dPK_several_6 (by decide) ?_
  exact lv_icmp_le (tgt := 21) hx hb dPK_several_8 (by decide) (fun h2 => absurd h2 (hbad.resolve_left h1)) (fun _ => fin)
set_option maxHeartbeats 4000000 in
theorem c_Lw_mark_ok (l : Launch) (D : va_G) (cA : ClassId × ClassId × ClassId) (zz h0 q0 : Nat) (uc uc' : va_W) (f : Nat → Int64) (fs : List Value) (r : Int32) (hd : Do l D cA yPK_mark wPK_mark 1 [.ref h0] uc r uc') (hu : uc[0]? = some (h0, .inr (10, fs))) : Met l yLw_mark wLw_mark rmH (va_Pc [.ref h0, .ref q0] (fun U => Wr D cA zz (uc ++ [(q0, eO cA f)]) U ∧ Th U)) (va_Qi (fun r9 w9 => r9 = 0 ∧ w9 = uc' ++ [(q0, eO cA (vp_updL f (0 : Int32).toNatClampNeg r.toInt64))]) (At D cA (va_A (uc ++ [(q0, eO cA f)]) zz)) (va_A (uc ++ [(q0, eO cA f)]) zz)) 1 6 (va_A (uc ++ [(q0, eO cA f)]) zz) := by
  refine va_MetW (cc := cLw_mark) (maxL := 3) (ret := some .int) (hh := [(0, 8, 11, 13)]) (by decide) rfl ?_
  intro p e s m args below meth c s₁ B hml hv
  obtain ⟨rfl, ⟨hsz, hN, hP, hK, hD0⟩, hT⟩ := hv
  have hx := B.exec
  have hb := B.bytes
  have hr := B.returns
  have hts := atoms_spec (ws := wLw_mark) B.pre
  have htg : ∀ w ∈ GW, w.before _ s = true := fun w h => hts w (List.mem_cons_of_mem _ h)
  have hown : s.vm.findClass R_Lw = some m.cls := findClass_of_methodNamed B.named
  have hlocks := B.notSynchronized
  have hRf : 8 ≤ (headSpec wLw_mark rmH).room.frames ∧ 290 ≤ (headSpec wLw_mark rmH).room.locals := ⟨Nat.le_of_ble_eq_true rfl, Nat.le_of_ble_eq_true rfl⟩
  subst hsz
  have hD := hD0.self (sz := s.heap.size)
  generalize hAe : va_A (uc ++ [(q0, eO cA f)]) s.heap.size = A at hD ⊢
  have hA : ∀ q : Nat, s.heap.size ≤ q → A q := fun q h => by rw [← hAe]; exact Or.inr h
  have hS : va_S A s.heap s.heap [] := va_S.rf
  have hl := lv_entry ([.ref h0, .ref q0]) (n := 3) (Nat.le_of_ble_eq_true rfl)
  rw [lg_entry_eq]
  generalize (lg_sl ([.ref h0, .ref q0]) ++ List.replicate (3 - (lg_sl ([.ref h0, .ref q0])).length) Slot.unset).toArray = ls at hl ⊢
  have hl : lv_has ls 3 [(0, .ref h0), (1, .ref q0)] := hl
  refine lv_aload_n hx hb dLw_mark_0 rfl (lv_at hl 1 rfl) ?_
  refine lv_iconst (v := 0) hx hb dLw_mark_1 (by decide) ?_
  refine lv_aload_n hx hb dLw_mark_2 rfl (lv_at hl 0 rfl) ?_
  refine do_V (As := []) (rest := [.int 0, .ref q0]) ⟨hx, hb, hml, hown, htg⟩ hd (fun rm h => cw_V htg wd_666 wd_668 qPK_mark iPK_mark kPK_mark pPK_mark h.1 h.2.1 (rmw h hRf)) (ci := 10) rfl rfl hu hN hP hD hS hA hK rfl hl.1 rfl (Nat.le_of_ble_eq_true rfl) dLw_mark_3 ⟨Nat.le_of_ble_eq_true rfl, Nat.le_of_ble_eq_true rfl⟩ (fun H locs hP hD hS => ?_)
  refine lv_i2l hx hb dLw_mark_6 rfl ?_
  refine va_last hx hb hK (P_rot hP) (D_rot hD) hS 0 2 rfl rfl in01 dLw_mark_7 (fun H locs hP hD hS => ?_)
  have hP : va_P D vwCl ([(q0, eO cA (vp_updL f (0 : Int32).toNatClampNeg r.toInt64))] ++ uc') H := hP
  have hD : va_D A ([(q0, eO cA (vp_updL f (0 : Int32).toNatClampNeg r.toInt64))] ++ uc') := hD
  refine lv_goto (tgt := 14) hx hb dLw_mark_8 (by decide) ?_
  refine lv_iconst (v := 0) hx hb dLw_mark_14 (by decide) ?_
  refine W.widen (k := 1) (n := 6) (by omega) (by omega) ?_
  exact W.iret hx hb hr (fun t ht hW => ⟨⟨_, _, rfl, ⟨rfl, rfl⟩, ⟨by rw [ht]; exact P_rot hP, va_K.moved hW.alike hK, D_rot hD⟩⟩, hS.F ht⟩) hS.2.2 dLw_mark_15
set_option maxHeartbeats 4000000 in
theorem c_Lw_mark_thr (l : Launch) (D : va_G) (cA : ClassId × ClassId × ClassId) (zz h0 q0 : Nat) (uc : va_W) (f : Nat → Int64) (fs : List Value) (hd : Thr l D cA yPK_mark wPK_mark 1 [.ref h0] uc "java/lang/UnsupportedOperationException") (hu : uc[0]? = some (h0, .inr (10, fs))) : Met l yLw_mark wLw_mark rmH (va_Pc [.ref h0, .ref q0] (fun U => Wr D cA zz (uc ++ [(q0, eO cA f)]) U ∧ Th U)) (va_Qi (fun r9 w9 => r9 = 1 ∧ w9 = (uc ++ [(q0, eO cA f)])) (At D cA (va_A (uc ++ [(q0, eO cA f)]) zz)) (va_A (uc ++ [(q0, eO cA f)]) zz)) 1 6 (va_A (uc ++ [(q0, eO cA f)]) zz) := by
  refine va_MetW (cc := cLw_mark) (maxL := 3) (ret := some .int) (hh := [(0, 8, 11, 13)]) (by decide) rfl ?_
  intro p e s m args below meth c s₁ B hml hv
  obtain ⟨rfl, ⟨hsz, hN, hP, hK, hD0⟩, hT⟩ := hv
  have hx := B.exec
  have hb := B.bytes
  have hr := B.returns
  have hts := atoms_spec (ws := wLw_mark) B.pre
  have htg : ∀ w ∈ GW, w.before _ s = true := fun w h => hts w (List.mem_cons_of_mem _ h)
  have hown : s.vm.findClass R_Lw = some m.cls := findClass_of_methodNamed B.named
  have hlocks := B.notSynchronized
  have hRf : 8 ≤ (headSpec wLw_mark rmH).room.frames ∧ 290 ≤ (headSpec wLw_mark rmH).room.locals := ⟨Nat.le_of_ble_eq_true rfl, Nat.le_of_ble_eq_true rfl⟩
  subst hsz
  have hD := hD0.self (sz := s.heap.size)
  generalize hAe : va_A (uc ++ [(q0, eO cA f)]) s.heap.size = A at hD ⊢
  have hA : ∀ q : Nat, s.heap.size ≤ q → A q := fun q h => by rw [← hAe]; exact Or.inr h
  have hS : va_S A s.heap s.heap [] := va_S.rf
  have hl := lv_entry ([.ref h0, .ref q0]) (n := 3) (Nat.le_of_ble_eq_true rfl)
  rw [lg_entry_eq]
  generalize (lg_sl ([.ref h0, .ref q0]) ++ List.replicate (3 - (lg_sl ([.ref h0, .ref q0])).length) Slot.unset).toArray = ls at hl ⊢
  have hl : lv_has ls 3 [(0, .ref h0), (1, .ref q0)] := hl
  refine lv_aload_n hx hb dLw_mark_0 rfl (lv_at hl 1 rfl) ?_
  refine lv_iconst (v := 0) hx hb dLw_mark_1 (by decide) ?_
  refine lv_aload_n hx hb dLw_mark_2 rfl (lv_at hl 0 rfl) ?_
  refine thr_V (As := []) (rest := [.int 0, .ref q0]) ⟨hx, hb, hml, hown, htg⟩ hd (fun rm h => cw_V htg wd_666 wd_668 qPK_mark iPK_mark kPK_mark pPK_mark h.1 h.2.1 (rmw h hRf)) (ci := 10) rfl rfl hu hN hT KpS.rf hP hD hS hK rfl hl.1 rfl (Nat.le_of_ble_eq_true rfl) dLw_mark_3 ⟨Nat.le_of_ble_eq_true rfl, Nat.le_of_ble_eq_true rfl⟩ B.named (hts _ List.mem_cons_self) (by decide) (by decide) (htg _ wd_665) (fun H x hP hD hS => ?_)
  refine lv_astore_n (lv' := [(2, .ref x), (0, .ref h0), (1, .ref q0)]) hx hb dLw_mark_11 rfl hl (by decide) rfl (fun ls hl => ?_)
  refine lv_iconst (v := 1) hx hb dLw_mark_12 (by decide) ?_
  exact W.iret hx hb hr (fun t ht hW => ⟨⟨_, _, rfl, ⟨rfl, rfl⟩, ⟨by rw [ht]; exact hP, va_K.moved hW.alike hK, hD⟩⟩, hS.F ht⟩) hS.2.2 dLw_mark_13
set_option maxHeartbeats 4000000 in
theorem c_Lw_repair_ok (l : Launch) (D : va_G) (cA : ClassId × ClassId × ClassId) (zz h0 q0 : Nat) (a0 : Int32) (uc uc' : va_W) (f : Nat → Int64) (fs : List Value) (r : Int32) (hd : Do l D cA yPK_repair wPK_repair 3 [.ref h0, .int a0] uc r uc') (hu : uc[0]? = some (h0, .inr (10, fs))) : Met l yLw_repair wLw_repair rmH (va_Pc [.ref h0, .int a0, .ref q0] (fun U => Wr D cA zz (uc ++ [(q0, eO cA f)]) U ∧ Th U)) (va_Qi (fun r9 w9 => r9 = 0 ∧ w9 = uc' ++ [(q0, eO cA (vp_updL f (0 : Int32).toNatClampNeg r.toInt64))]) (At D cA (va_A (uc ++ [(q0, eO cA f)]) zz)) (va_A (uc ++ [(q0, eO cA f)]) zz)) 1 6 (va_A (uc ++ [(q0, eO cA f)]) zz) := by
  refine va_MetW (cc := cLw_repair) (maxL := 4) (ret := some .int) (hh := [(0, 9, 12, 19)]) (by decide) rfl ?_
  intro p e s m args below meth c s₁ B hml hv
  obtain ⟨rfl, ⟨hsz, hN, hP, hK, hD0⟩, hT⟩ := hv
  have hx := B.exec
  have hb := B.bytes
  have hr := B.returns
  have hts := atoms_spec (ws := wLw_repair) B.pre
  have htg : ∀ w ∈ GW, w.before _ s = true := fun w h => hts w (List.mem_cons_of_mem _ h)
  have hown : s.vm.findClass R_Lw = some m.cls := findClass_of_methodNamed B.named
  have hlocks := B.notSynchronized
  have hRf : 8 ≤ (headSpec wLw_repair rmH).room.frames ∧ 290 ≤ (headSpec wLw_repair rmH).room.locals := ⟨Nat.le_of_ble_eq_true rfl, Nat.le_of_ble_eq_true rfl⟩
  subst hsz
  have hD := hD0.self (sz := s.heap.size)
  generalize hAe : va_A (uc ++ [(q0, eO cA f)]) s.heap.size = A at hD ⊢
  have hA : ∀ q : Nat, s.heap.size ≤ q → A q := fun q h => by rw [← hAe]; exact Or.inr h
  have hS : va_S A s.heap s.heap [] := va_S.rf
  have hl := lv_entry ([.ref h0, .int a0, .ref q0]) (n := 4) (Nat.le_of_ble_eq_true rfl)
  rw [lg_entry_eq]
  generalize (lg_sl ([.ref h0, .int a0, .ref q0]) ++ List.replicate (4 - (lg_sl ([.ref h0, .int a0, .ref q0])).length) Slot.unset).toArray = ls at hl ⊢
  have hl : lv_has ls 4 [(0, .ref h0), (1, .int a0), (2, .ref q0)] := hl
  refine lv_aload_n hx hb dLw_repair_0 rfl (lv_at hl 2 rfl) ?_
  refine lv_iconst (v := 0) hx hb dLw_repair_1 (by decide) ?_
  refine lv_aload_n hx hb dLw_repair_2 rfl (lv_at hl 0 rfl) ?_
  refine lv_iload_n hx hb dLw_repair_3 rfl (lv_at hl 1 rfl) ?_
  refine do_V (As := [.int a0]) (rest := [.int 0, .ref q0]) ⟨hx, hb, hml, hown, htg⟩ hd (fun rm h => cw_V htg wd_742 wd_744 qPK_repair iPK_repair kPK_repair pPK_repair h.1 h.2.1 (rmw h hRf)) (ci := 10) rfl rfl hu hN hP hD hS hA hK rfl hl.1 rfl (Nat.le_of_ble_eq_true rfl) dLw_repair_4 ⟨Nat.le_of_ble_eq_true rfl, Nat.le_of_ble_eq_true rfl⟩ (fun H locs hP hD hS => ?_)
  refine lv_i2l hx hb dLw_repair_7 rfl ?_
  refine va_last hx hb hK (P_rot hP) (D_rot hD) hS 0 2 rfl rfl in01 dLw_repair_8 (fun H locs hP hD hS => ?_)
  have hP : va_P D vwCl ([(q0, eO cA (vp_updL f (0 : Int32).toNatClampNeg r.toInt64))] ++ uc') H := hP
  have hD : va_D A ([(q0, eO cA (vp_updL f (0 : Int32).toNatClampNeg r.toInt64))] ++ uc') := hD
  refine lv_goto (tgt := 15) hx hb dLw_repair_9 (by decide) ?_
  refine lv_iconst (v := 0) hx hb dLw_repair_15 (by decide) ?_
  refine W.widen (k := 1) (n := 6) (by omega) (by omega) ?_
  exact W.iret hx hb hr (fun t ht hW => ⟨⟨_, _, rfl, ⟨rfl, rfl⟩, ⟨by rw [ht]; exact P_rot hP, va_K.moved hW.alike hK, D_rot hD⟩⟩, hS.F ht⟩) hS.2.2 dLw_repair_16
set_option maxHeartbeats 4000000 in
theorem c_Lw_repair_thr (l : Launch) (D : va_G) (cA : ClassId × ClassId × ClassId) (zz h0 q0 : Nat) (a0 : Int32) (uc : va_W) (f : Nat → Int64) (fs : List Value) (hd : Thr l D cA yPK_repair wPK_repair 3 [.ref h0, .int a0] uc "java/lang/IndexOutOfBoundsException") (hu : uc[0]? = some (h0, .inr (10, fs))) : Met l yLw_repair wLw_repair rmH (va_Pc [.ref h0, .int a0, .ref q0] (fun U => Wr D cA zz (uc ++ [(q0, eO cA f)]) U ∧ Th U)) (va_Qi (fun r9 w9 => r9 = 1 ∧ w9 = (uc ++ [(q0, eO cA f)])) (At D cA (va_A (uc ++ [(q0, eO cA f)]) zz)) (va_A (uc ++ [(q0, eO cA f)]) zz)) 1 6 (va_A (uc ++ [(q0, eO cA f)]) zz) := by
  refine va_MetW (cc := cLw_repair) (maxL := 4) (ret := some .int) (hh := [(0, 9, 12, 19)]) (by decide) rfl ?_
  intro p e s m args below meth c s₁ B hml hv
  obtain ⟨rfl, ⟨hsz, hN, hP, hK, hD0⟩, hT⟩ := hv
  have hx := B.exec
  have hb := B.bytes
  have hr := B.returns
  have hts := atoms_spec (ws := wLw_repair) B.pre
  have htg : ∀ w ∈ GW, w.before _ s = true := fun w h => hts w (List.mem_cons_of_mem _ h)
  have hown : s.vm.findClass R_Lw = some m.cls := findClass_of_methodNamed B.named
  have hlocks := B.notSynchronized
  have hRf : 8 ≤ (headSpec wLw_repair rmH).room.frames ∧ 290 ≤ (headSpec wLw_repair rmH).room.locals := ⟨Nat.le_of_ble_eq_true rfl, Nat.le_of_ble_eq_true rfl⟩
  subst hsz
  have hD := hD0.self (sz := s.heap.size)
  generalize hAe : va_A (uc ++ [(q0, eO cA f)]) s.heap.size = A at hD ⊢
  have hA : ∀ q : Nat, s.heap.size ≤ q → A q := fun q h => by rw [← hAe]; exact Or.inr h
  have hS : va_S A s.heap s.heap [] := va_S.rf
  have hl := lv_entry ([.ref h0, .int a0, .ref q0]) (n := 4) (Nat.le_of_ble_eq_true rfl)
  rw [lg_entry_eq]
  generalize (lg_sl ([.ref h0, .int a0, .ref q0]) ++ List.replicate (4 - (lg_sl ([.ref h0, .int a0, .ref q0])).length) Slot.unset).toArray = ls at hl ⊢
  have hl : lv_has ls 4 [(0, .ref h0), (1, .int a0), (2, .ref q0)] := hl
  refine lv_aload_n hx hb dLw_repair_0 rfl (lv_at hl 2 rfl) ?_
  refine lv_iconst (v := 0) hx hb dLw_repair_1 (by decide) ?_
  refine lv_aload_n hx hb dLw_repair_2 rfl (lv_at hl 0 rfl) ?_
  refine lv_iload_n hx hb dLw_repair_3 rfl (lv_at hl 1 rfl) ?_
  refine thr_V (As := [.int a0]) (rest := [.int 0, .ref q0]) ⟨hx, hb, hml, hown, htg⟩ hd (fun rm h => cw_V htg wd_742 wd_744 qPK_repair iPK_repair kPK_repair pPK_repair h.1 h.2.1 (rmw h hRf)) (ci := 10) rfl rfl hu hN hT KpS.rf hP hD hS hK rfl hl.1 rfl (Nat.le_of_ble_eq_true rfl) dLw_repair_4 ⟨Nat.le_of_ble_eq_true rfl, Nat.le_of_ble_eq_true rfl⟩ B.named (hts _ List.mem_cons_self) (by decide) (by decide) (htg _ wd_741) (fun H x hP hD hS => ?_)
  refine lv_astore_n (lv' := [(3, .ref x), (0, .ref h0), (1, .int a0), (2, .ref q0)]) hx hb dLw_repair_12 rfl hl (by decide) rfl (fun ls hl => ?_)
  refine lv_iconst (v := 1) hx hb dLw_repair_13 (by decide) ?_
  exact W.iret hx hb hr (fun t ht hW => ⟨⟨_, _, rfl, ⟨rfl, rfl⟩, ⟨by rw [ht]; exact hP, va_K.moved hW.alike hK, hD⟩⟩, hS.F ht⟩) hS.2.2 dLw_repair_14
set_option maxHeartbeats 4000000 in
theorem c_Lw_several_ok (l : Launch) (D : va_G) (cA : ClassId × ClassId × ClassId) (zz h0 q0 : Nat) (a0 a1 : Int32) (uc : va_W) (f : Nat → Int64) (fs : List Value) (r : Int32) (hd : Rds l D cA yPK_several wPK_several 7 [.ref h0, .int a0, .int a1] uc r) (hu : uc[0]? = some (h0, .inr (10, fs))) : Met l yLw_several wLw_several rmH (va_Pc [.ref h0, .int a0, .int a1, .ref q0] (fun U => Wr D cA zz (uc ++ [(q0, eO cA f)]) U ∧ Th U)) (va_Qi (fun r9 w9 => r9 = 0 ∧ w9 = uc ++ [(q0, eO cA (vp_updL f (0 : Int32).toNatClampNeg r.toInt64))]) (At D cA (va_A (uc ++ [(q0, eO cA f)]) zz)) (va_A (uc ++ [(q0, eO cA f)]) zz)) 1 6 (va_A (uc ++ [(q0, eO cA f)]) zz) := by
  refine va_MetW (cc := cLw_several) (maxL := 5) (ret := some .int) (hh := [(0, 10, 13, 25)]) (by decide) rfl ?_
  intro p e s m args below meth c s₁ B hml hv
  obtain ⟨rfl, ⟨hsz, hN, hP, hK, hD0⟩, hT⟩ := hv
  have hx := B.exec
  have hb := B.bytes
  have hr := B.returns
  have hts := atoms_spec (ws := wLw_several) B.pre
  have htg : ∀ w ∈ GW, w.before _ s = true := fun w h => hts w (List.mem_cons_of_mem _ h)
  have hown : s.vm.findClass R_Lw = some m.cls := findClass_of_methodNamed B.named
  have hlocks := B.notSynchronized
  have hRf : 8 ≤ (headSpec wLw_several rmH).room.frames ∧ 290 ≤ (headSpec wLw_several rmH).room.locals := ⟨Nat.le_of_ble_eq_true rfl, Nat.le_of_ble_eq_true rfl⟩
  subst hsz
  have hD := hD0.self (sz := s.heap.size)
  generalize hAe : va_A (uc ++ [(q0, eO cA f)]) s.heap.size = A at hD ⊢
  have hA : ∀ q : Nat, s.heap.size ≤ q → A q := fun q h => by rw [← hAe]; exact Or.inr h
  have hS : va_S A s.heap s.heap [] := va_S.rf
  have hl := lv_entry ([.ref h0, .int a0, .int a1, .ref q0]) (n := 5) (Nat.le_of_ble_eq_true rfl)
  rw [lg_entry_eq]
  generalize (lg_sl ([.ref h0, .int a0, .int a1, .ref q0]) ++ List.replicate (5 - (lg_sl ([.ref h0, .int a0, .int a1, .ref q0])).length) Slot.unset).toArray = ls at hl ⊢
  have hl : lv_has ls 5 [(0, .ref h0), (1, .int a0), (2, .int a1), (3, .ref q0)] := hl
  refine lv_aload_n hx hb dLw_several_0 rfl (lv_at hl 3 rfl) ?_
  refine lv_iconst (v := 0) hx hb dLw_several_1 (by decide) ?_
  refine lv_aload_n hx hb dLw_several_2 rfl (lv_at hl 0 rfl) ?_
  refine lv_iload_n hx hb dLw_several_3 rfl (lv_at hl 1 rfl) ?_
  refine lv_iload_n hx hb dLw_several_4 rfl (lv_at hl 2 rfl) ?_
  refine rds_V (As := [.int a0, .int a1]) (rest := [.int 0, .ref q0]) ⟨hx, hb, hml, hown, htg⟩ hd (fun rm h => cw_V htg wd_766 wd_768 qPK_several iPK_several kPK_several pPK_several h.1 h.2.1 (rmw h hRf)) (ci := 10) rfl rfl hu hN hP hK rfl hl.1 rfl (Nat.le_of_ble_eq_true rfl) dLw_several_5 ⟨Nat.le_of_ble_eq_true rfl, Nat.le_of_ble_eq_true rfl⟩ ?_
  refine lv_i2l hx hb dLw_several_8 rfl ?_
  refine va_last hx hb hK (P_rot hP) (D_rot hD) hS 0 2 rfl rfl in01 dLw_several_9 (fun H locs hP hD hS => ?_)
  have hP : va_P D vwCl ([(q0, eO cA (vp_updL f (0 : Int32).toNatClampNeg r.toInt64))] ++ uc) H := hP
  have hD : va_D A ([(q0, eO cA (vp_updL f (0 : Int32).toNatClampNeg r.toInt64))] ++ uc) := hD
  refine lv_goto (tgt := 17) hx hb dLw_several_10 (by decide) ?_
  refine lv_iconst (v := 0) hx hb dLw_several_17 (by decide) ?_
  refine W.widen (k := 1) (n := 6) (by omega) (by omega) ?_
  exact W.iret hx hb hr (fun t ht hW => ⟨⟨_, _, rfl, ⟨rfl, rfl⟩, ⟨by rw [ht]; exact P_rot hP, va_K.moved hW.alike hK, D_rot hD⟩⟩, hS.F ht⟩) hS.2.2 dLw_several_18
set_option maxHeartbeats 4000000 in
theorem c_Lw_several_thr (l : Launch) (D : va_G) (cA : ClassId × ClassId × ClassId) (zz h0 q0 : Nat) (a0 a1 : Int32) (uc : va_W) (f : Nat → Int64) (fs : List Value) (hd : Thr l D cA yPK_several wPK_several 7 [.ref h0, .int a0, .int a1] uc "java/lang/IllegalArgumentException") (hu : uc[0]? = some (h0, .inr (10, fs))) : Met l yLw_several wLw_several rmH (va_Pc [.ref h0, .int a0, .int a1, .ref q0] (fun U => Wr D cA zz (uc ++ [(q0, eO cA f)]) U ∧ Th U)) (va_Qi (fun r9 w9 => r9 = 1 ∧ w9 = (uc ++ [(q0, eO cA f)])) (At D cA (va_A (uc ++ [(q0, eO cA f)]) zz)) (va_A (uc ++ [(q0, eO cA f)]) zz)) 1 6 (va_A (uc ++ [(q0, eO cA f)]) zz) := by
  refine va_MetW (cc := cLw_several) (maxL := 5) (ret := some .int) (hh := [(0, 10, 13, 25)]) (by decide) rfl ?_
  intro p e s m args below meth c s₁ B hml hv
  obtain ⟨rfl, ⟨hsz, hN, hP, hK, hD0⟩, hT⟩ := hv
  have hx := B.exec
  have hb := B.bytes
  have hr := B.returns
  have hts := atoms_spec (ws := wLw_several) B.pre
  have htg : ∀ w ∈ GW, w.before _ s = true := fun w h => hts w (List.mem_cons_of_mem _ h)
  have hown : s.vm.findClass R_Lw = some m.cls := findClass_of_methodNamed B.named
  have hlocks := B.notSynchronized
  have hRf : 8 ≤ (headSpec wLw_several rmH).room.frames ∧ 290 ≤ (headSpec wLw_several rmH).room.locals := ⟨Nat.le_of_ble_eq_true rfl, Nat.le_of_ble_eq_true rfl⟩
  subst hsz
  have hD := hD0.self (sz := s.heap.size)
  generalize hAe : va_A (uc ++ [(q0, eO cA f)]) s.heap.size = A at hD ⊢
  have hA : ∀ q : Nat, s.heap.size ≤ q → A q := fun q h => by rw [← hAe]; exact Or.inr h
  have hS : va_S A s.heap s.heap [] := va_S.rf
  have hl := lv_entry ([.ref h0, .int a0, .int a1, .ref q0]) (n := 5) (Nat.le_of_ble_eq_true rfl)
  rw [lg_entry_eq]
  generalize (lg_sl ([.ref h0, .int a0, .int a1, .ref q0]) ++ List.replicate (5 - (lg_sl ([.ref h0, .int a0, .int a1, .ref q0])).length) Slot.unset).toArray = ls at hl ⊢
  have hl : lv_has ls 5 [(0, .ref h0), (1, .int a0), (2, .int a1), (3, .ref q0)] := hl
  refine lv_aload_n hx hb dLw_several_0 rfl (lv_at hl 3 rfl) ?_
  refine lv_iconst (v := 0) hx hb dLw_several_1 (by decide) ?_
  refine lv_aload_n hx hb dLw_several_2 rfl (lv_at hl 0 rfl) ?_
  refine lv_iload_n hx hb dLw_several_3 rfl (lv_at hl 1 rfl) ?_
  refine lv_iload_n hx hb dLw_several_4 rfl (lv_at hl 2 rfl) ?_
  refine thr_V (As := [.int a0, .int a1]) (rest := [.int 0, .ref q0]) ⟨hx, hb, hml, hown, htg⟩ hd (fun rm h => cw_V htg wd_766 wd_768 qPK_several iPK_several kPK_several pPK_several h.1 h.2.1 (rmw h hRf)) (ci := 10) rfl rfl hu hN hT KpS.rf hP hD hS hK rfl hl.1 rfl (Nat.le_of_ble_eq_true rfl) dLw_several_5 ⟨Nat.le_of_ble_eq_true rfl, Nat.le_of_ble_eq_true rfl⟩ B.named (hts _ List.mem_cons_self) (by decide) (by decide) (htg _ wd_765) (fun H x hP hD hS => ?_)
  refine lv_astore (lv' := [(4, .ref x), (0, .ref h0), (1, .int a0), (2, .int a1), (3, .ref q0)]) hx hb dLw_several_13 hl (by decide) rfl (fun ls hl => ?_)
  refine lv_iconst (v := 1) hx hb dLw_several_15 (by decide) ?_
  exact W.iret hx hb hr (fun t ht hW => ⟨⟨_, _, rfl, ⟨rfl, rfl⟩, ⟨by rw [ht]; exact hP, va_K.moved hW.alike hK, hD⟩⟩, hS.F ht⟩) hS.2.2 dLw_several_16
