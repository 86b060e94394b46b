def tf_Md_modulo (x0 : Int32) : Int32 := ((((x0 - x0 / 10 * 10) + 10) - ((x0 - x0 / 10 * 10) + 10) / 10 * 10))
set_option maxHeartbeats 4000000 in
set_option maxRecDepth 100000 in
theorem c_Md_modulo (l : Launch) (dC : Nat → ClassId) (dI : Nat → Nat → Nat) (cA : ClassId × ClassId × ClassId) (x0 : Int32) : Met l yMd_modulo wMd_modulo ({ frames := 0, cells := 0, slots := 0, locals := 0 }) (va_Pc [.int x0] (Rd (dC, dI) cA [])) (QcRead (tf_Md_modulo x0)) 0 0 (fun _ => False) := by
  refine Met.ofW (cc := cMd_modulo) (maxL := 1) (ret := (some .int)) (by decide) rfl ?_
  intro p e s m args below meth c s₁ B hml hv
  obtain ⟨rfl, hN, hP, hK⟩ := hv
  have hx := B.exec
  have hb := B.bytes
  have hr := B.returns
  have hts := atoms_spec (ws := wMd_modulo) B.pre
  have htg : ∀ w ∈ GW, w.before _ s = true := fun w h => hts w (List.mem_cons_of_mem _ h)
  have hown : s.vm.findClass R_Md = some m.cls := findClass_of_methodNamed B.named
  have hlocks := B.notSynchronized
  obtain ⟨rs, hfn⟩ : ∃ rs, (tf_Md_modulo x0) = rs := ⟨_, rfl⟩
  try rw [hfn]
  have hl := lv_entry ([.int x0]) (n := 1) (Nat.le_of_ble_eq_true rfl)
  rw [lg_entry_eq]
  generalize (lg_sl ([.int x0]) ++ List.replicate (1 - (lg_sl ([.int x0])).length) Slot.unset).toArray = ls at hl ⊢
  have hl : lv_has ls 1 [(0, .int x0)] := hl
  unfold tf_Md_modulo at hfn
  refine lv_iload_n hx hb dMd_modulo_0 rfl (lv_at hl 0 rfl) ?_
  refine lv_bipush (v := 10) hx hb dMd_modulo_1 (by decide) ?_
  refine lv_irem hx hb dMd_modulo_3 (by decide) ?_
  refine lv_bipush (v := 10) hx hb dMd_modulo_4 (by decide) ?_
  refine lv_iadd hx hb dMd_modulo_6 ?_
  refine lv_bipush (v := 10) hx hb dMd_modulo_7 (by decide) ?_
  refine lv_irem hx hb dMd_modulo_9 (by decide) ?_
  subst hfn
  exact W.iret hx hb hr (fun t ht hW => ⟨rfl, ht⟩) (fun _ h => by cases h) dMd_modulo_10
def tf_Md_thrown (mt : Int32) : Int32 := (mt)
set_option maxHeartbeats 4000000 in
set_option maxRecDepth 100000 in
theorem c_Md_thrown (l : Launch) (dC : Nat → ClassId) (dI : Nat → Nat → Nat) (cA : ClassId × ClassId × ClassId) (o0 : Nat) (r_lastBit : Nat) (r_plain : Nat) (r_mixed : Nat) (r_chooser : Nat) (r_own : Nat) (r_ownCounter : Nat) (r_tag : Nat) (r_sum : Nat) (r_use : Nat) (r_weight : Nat) (r_loopTag : Nat) (r_length : Nat) (r_count : Nat) (r_trust : Nat) (r_waitPlace : Nat) (r_waitHistory : Nat) (r_waitSaid : Nat) (r_mark : Nat) (mt : Int32) (mkd : Int32) (mbt : Int32) (mrw : Int32) (mhs : Int32) (mco : Int32) (mey : Bool) (mu1 : Int32) (mu2 : Int32) (mu3 : Int32) (mu4 : Int32) (mwt : Int32) (mmk : Int32) : Met l yMd_thrown wMd_thrown ({ frames := 0, cells := 0, slots := 0, locals := 0 }) (va_Pc [.ref o0] (Rd (dC, dI) cA [(o0, .inr (11, [.int mt, .int mkd, .int mbt, .int mrw, .int mhs, .int mco, .int (bI mey), .int mu1, .int mu2, .int mu3, .int mu4, .ref r_lastBit, .ref r_plain, .ref r_mixed, .ref r_chooser, .ref r_own, .ref r_ownCounter, .ref r_tag, .ref r_sum, .ref r_use, .ref r_weight, .ref r_loopTag, .ref r_length, .ref r_count, .ref r_trust, .int mwt, .ref r_waitPlace, .ref r_waitHistory, .ref r_waitSaid, .int mmk, .ref r_mark]))])) (QcRead (tf_Md_thrown mt)) 0 0 (fun _ => False) := by
  refine Met.ofW (cc := cMd_thrown) (maxL := 1) (ret := (some .int)) (by decide) rfl ?_
  intro p e s m args below meth c s₁ B hml hv
  obtain ⟨rfl, hN, hP, hK⟩ := hv
  have hx := B.exec
  have hb := B.bytes
  have hr := B.returns
  have hts := atoms_spec (ws := wMd_thrown) B.pre
  have htg : ∀ w ∈ GW, w.before _ s = true := fun w h => hts w (List.mem_cons_of_mem _ h)
  have hown : s.vm.findClass R_Md = some m.cls := findClass_of_methodNamed B.named
  have hlocks := B.notSynchronized
  obtain ⟨rs, hfn⟩ : ∃ rs, (tf_Md_thrown mt) = rs := ⟨_, rfl⟩
  try rw [hfn]
  have hl := lv_entry ([.ref o0]) (n := 1) (Nat.le_of_ble_eq_true rfl)
  rw [lg_entry_eq]
  generalize (lg_sl ([.ref o0]) ++ List.replicate (1 - (lg_sl ([.ref o0])).length) Slot.unset).toArray = ls at hl ⊢
  have hl : lv_has ls 1 [(0, .ref o0)] := hl
  unfold tf_Md_thrown at hfn
  refine lv_aload_n hx hb dMd_thrown_0 rfl (lv_at hl 0 rfl) ?_
  refine va_get (D := (dC, dI)) (ci := 11) (v := .int mt) (C := R_Md) (T := T_Md) (N := 31) hx hb htg in_Md hown hK hP 0 rfl rfl 0 (by decide) (htg _ wd_795) (fun _ h9 => h9) rfl dMd_thrown_1 ?_
  subst hfn
  exact W.iret hx hb hr (fun t ht hW => ⟨rfl, ht⟩) (fun _ h => by cases h) dMd_thrown_4
def tf_Md_fail (x0 : Int32) : Int32 × Int32 := (0, x0)
set_option maxHeartbeats 4000000 in
set_option maxRecDepth 100000 in
theorem c_Md_fail (l : Launch) (dC : Nat → ClassId) (dI : Nat → Nat → Nat) (cA : ClassId × ClassId × ClassId) (zz : Nat) (o0 : Nat) (r_lastBit : Nat) (r_plain : Nat) (r_mixed : Nat) (r_chooser : Nat) (r_own : Nat) (r_ownCounter : Nat) (r_tag : Nat) (r_sum : Nat) (r_use : Nat) (r_weight : Nat) (r_loopTag : Nat) (r_length : Nat) (r_count : Nat) (r_trust : Nat) (r_waitPlace : Nat) (r_waitHistory : Nat) (r_waitSaid : Nat) (r_mark : Nat) (mt : Int32) (mkd : Int32) (mbt : Int32) (mrw : Int32) (mhs : Int32) (mco : Int32) (mey : Bool) (mu1 : Int32) (mu2 : Int32) (mu3 : Int32) (mu4 : Int32) (mwt : Int32) (mmk : Int32) (x0 : Int32) : Met l yMd_fail wMd_fail ({ frames := 0, cells := 0, slots := 0, locals := 0 }) (va_Pc [.ref o0, .int x0] (Wr (dC, dI) cA zz [(o0, .inr (11, [.int mt, .int mkd, .int mbt, .int mrw, .int mhs, .int mco, .int (bI mey), .int mu1, .int mu2, .int mu3, .int mu4, .ref r_lastBit, .ref r_plain, .ref r_mixed, .ref r_chooser, .ref r_own, .ref r_ownCounter, .ref r_tag, .ref r_sum, .ref r_use, .ref r_weight, .ref r_loopTag, .ref r_length, .ref r_count, .ref r_trust, .int mwt, .ref r_waitPlace, .ref r_waitHistory, .ref r_waitSaid, .int mmk, .ref r_mark]))])) (va_Qi (fun r9 w9 => r9 = (tf_Md_fail x0).1 ∧ w9 = [(o0, .inr (11, [.int ((tf_Md_fail x0).2), .int mkd, .int mbt, .int mrw, .int mhs, .int mco, .int (bI mey), .int mu1, .int mu2, .int mu3, .int mu4, .ref r_lastBit, .ref r_plain, .ref r_mixed, .ref r_chooser, .ref r_own, .ref r_ownCounter, .ref r_tag, .ref r_sum, .ref r_use, .ref r_weight, .ref r_loopTag, .ref r_length, .ref r_count, .ref r_trust, .int mwt, .ref r_waitPlace, .ref r_waitHistory, .ref r_waitSaid, .int mmk, .ref r_mark]))]) (At (dC, dI) cA (va_A [(o0, .inr (11, [.int mt, .int mkd, .int mbt, .int mrw, .int mhs, .int mco, .int (bI mey), .int mu1, .int mu2, .int mu3, .int mu4, .ref r_lastBit, .ref r_plain, .ref r_mixed, .ref r_chooser, .ref r_own, .ref r_ownCounter, .ref r_tag, .ref r_sum, .ref r_use, .ref r_weight, .ref r_loopTag, .ref r_length, .ref r_count, .ref r_trust, .int mwt, .ref r_waitPlace, .ref r_waitHistory, .ref r_waitSaid, .int mmk, .ref r_mark]))] zz)) (va_A [(o0, .inr (11, [.int mt, .int mkd, .int mbt, .int mrw, .int mhs, .int mco, .int (bI mey), .int mu1, .int mu2, .int mu3, .int mu4, .ref r_lastBit, .ref r_plain, .ref r_mixed, .ref r_chooser, .ref r_own, .ref r_ownCounter, .ref r_tag, .ref r_sum, .ref r_use, .ref r_weight, .ref r_loopTag, .ref r_length, .ref r_count, .ref r_trust, .int mwt, .ref r_waitPlace, .ref r_waitHistory, .ref r_waitSaid, .int mmk, .ref r_mark]))] zz)) 0 0 (va_A [(o0, .inr (11, [.int mt, .int mkd, .int mbt, .int mrw, .int mhs, .int mco, .int (bI mey), .int mu1, .int mu2, .int mu3, .int mu4, .ref r_lastBit, .ref r_plain, .ref r_mixed, .ref r_chooser, .ref r_own, .ref r_ownCounter, .ref r_tag, .ref r_sum, .ref r_use, .ref r_weight, .ref r_loopTag, .ref r_length, .ref r_count, .ref r_trust, .int mwt, .ref r_waitPlace, .ref r_waitHistory, .ref r_waitSaid, .int mmk, .ref r_mark]))] zz) := by
  refine Met.ofW (cc := cMd_fail) (maxL := 2) (ret := (some .int)) (by decide) rfl ?_
  intro p e s m args below meth c s₁ B hml hv
  obtain ⟨rfl, hsz, hN, hP, hK, hD0⟩ := hv
  have hx := B.exec
  have hb := B.bytes
  have hr := B.returns
  have hts := atoms_spec (ws := wMd_fail) B.pre
  have htg : ∀ w ∈ GW, w.before _ s = true := fun w h => hts w (List.mem_cons_of_mem _ h)
  have hown : s.vm.findClass R_Md = some m.cls := findClass_of_methodNamed B.named
  have hlocks := B.notSynchronized
  subst hsz
  have hD := hD0.self (sz := s.heap.size)
  generalize hAe : va_A [(o0, .inr (11, [.int mt, .int mkd, .int mbt, .int mrw, .int mhs, .int mco, .int (bI mey), .int mu1, .int mu2, .int mu3, .int mu4, .ref r_lastBit, .ref r_plain, .ref r_mixed, .ref r_chooser, .ref r_own, .ref r_ownCounter, .ref r_tag, .ref r_sum, .ref r_use, .ref r_weight, .ref r_loopTag, .ref r_length, .ref r_count, .ref r_trust, .int mwt, .ref r_waitPlace, .ref r_waitHistory, .ref r_waitSaid, .int mmk, .ref r_mark]))] s.heap.size = A at hD ⊢
  have hA : ∀ q : Nat, s.heap.size ≤ q → A q := fun q h => by rw [← hAe]; exact Or.inr h
  have hS : va_S A s.heap s.heap [] := va_S.rf
  have hP : va_P (dC, dI) vwCl [(o0, .inr (11, [.int mt, .int mkd, .int mbt, .int mrw, .int mhs, .int mco, .int (bI mey), .int mu1, .int mu2, .int mu3, .int mu4, .ref r_lastBit, .ref r_plain, .ref r_mixed, .ref r_chooser, .ref r_own, .ref r_ownCounter, .ref r_tag, .ref r_sum, .ref r_use, .ref r_weight, .ref r_loopTag, .ref r_length, .ref r_count, .ref r_trust, .int mwt, .ref r_waitPlace, .ref r_waitHistory, .ref r_waitSaid, .int mmk, .ref r_mark]))] s.heap := hP
  obtain ⟨rs, hfn⟩ : ∃ rs, (tf_Md_fail x0) = rs := ⟨_, rfl⟩
  try rw [hfn]
  have hl := lv_entry ([.ref o0, .int x0]) (n := 2) (Nat.le_of_ble_eq_true rfl)
  rw [lg_entry_eq]
  generalize (lg_sl ([.ref o0, .int x0]) ++ List.replicate (2 - (lg_sl ([.ref o0, .int x0])).length) Slot.unset).toArray = ls at hl ⊢
  have hl : lv_has ls 2 [(0, .ref o0), (1, .int x0)] := hl
  unfold tf_Md_fail at hfn
  refine lv_aload_n hx hb dMd_fail_0 rfl (lv_at hl 0 rfl) ?_
  refine lv_iload_n hx hb dMd_fail_1 rfl (lv_at hl 1 rfl) ?_
  refine va_put (D := (dC, dI)) (ci := 11) (v := .int x0) (ty := .int) (C := R_Md) (T := T_Md) (N := 31) hx hb htg in_Md ty_Md tk_Md nm_Md hown hK hP hD hS 0 rfl rfl 0 (by decide) (htg _ wd_795) (fun _ h9 => h9) rfl (by decide +kernel) rfl rfl (Nat.le_of_ble_eq_true rfl) dMd_fail_2 (fun H locs hP hD hS => ?_)
  have hP : va_P (dC, dI) vwCl [(o0, .inr (11, [.int x0, .int mkd, .int mbt, .int mrw, .int mhs, .int mco, .int (bI mey), .int mu1, .int mu2, .int mu3, .int mu4, .ref r_lastBit, .ref r_plain, .ref r_mixed, .ref r_chooser, .ref r_own, .ref r_ownCounter, .ref r_tag, .ref r_sum, .ref r_use, .ref r_weight, .ref r_loopTag, .ref r_length, .ref r_count, .ref r_trust, .int mwt, .ref r_waitPlace, .ref r_waitHistory, .ref r_waitSaid, .int mmk, .ref r_mark]))] H := hP
  have hD : va_D A [(o0, .inr (11, [.int x0, .int mkd, .int mbt, .int mrw, .int mhs, .int mco, .int (bI mey), .int mu1, .int mu2, .int mu3, .int mu4, .ref r_lastBit, .ref r_plain, .ref r_mixed, .ref r_chooser, .ref r_own, .ref r_ownCounter, .ref r_tag, .ref r_sum, .ref r_use, .ref r_weight, .ref r_loopTag, .ref r_length, .ref r_count, .ref r_trust, .int mwt, .ref r_waitPlace, .ref r_waitHistory, .ref r_waitSaid, .int mmk, .ref r_mark]))] := hD
  refine lv_iconst (v := 0) hx hb dMd_fail_5 (by decide) ?_
  subst hfn
  exact W.iret hx hb hr (fun t ht hW => ⟨⟨_, _, rfl, ⟨rfl, rfl⟩, ⟨by rw [ht]; exact hP.sub [0] rfl, va_K.moved hW.alike hK, hD.sub [0] (by decide) rfl⟩⟩, hS.F ht⟩) hS.2.2 dMd_fail_6
def tf_Md_low (mrw : Int32) (x0 : Int32) : Int32 := ((x0 &&& (mrw - 1)))
set_option maxHeartbeats 4000000 in
set_option maxRecDepth 100000 in
theorem c_Md_low (l : Launch) (dC : Nat → ClassId) (dI : Nat → Nat → Nat) (cA : ClassId × ClassId × ClassId) (o0 : Nat) (r_lastBit : Nat) (r_plain : Nat) (r_mixed : Nat) (r_chooser : Nat) (r_own : Nat) (r_ownCounter : Nat) (r_tag : Nat) (r_sum : Nat) (r_use : Nat) (r_weight : Nat) (r_loopTag : Nat) (r_length : Nat) (r_count : Nat) (r_trust : Nat) (r_waitPlace : Nat) (r_waitHistory : Nat) (r_waitSaid : Nat) (r_mark : Nat) (mt : Int32) (mkd : Int32) (mbt : Int32) (mrw : Int32) (mhs : Int32) (mco : Int32) (mey : Bool) (mu1 : Int32) (mu2 : Int32) (mu3 : Int32) (mu4 : Int32) (mwt : Int32) (mmk : Int32) (x0 : Int32) : Met l yMd_low wMd_low ({ frames := 0, cells := 0, slots := 0, locals := 0 }) (va_Pc [.ref o0, .int x0] (Rd (dC, dI) cA [(o0, .inr (11, [.int mt, .int mkd, .int mbt, .int mrw, .int mhs, .int mco, .int (bI mey), .int mu1, .int mu2, .int mu3, .int mu4, .ref r_lastBit, .ref r_plain, .ref r_mixed, .ref r_chooser, .ref r_own, .ref r_ownCounter, .ref r_tag, .ref r_sum, .ref r_use, .ref r_weight, .ref r_loopTag, .ref r_length, .ref r_count, .ref r_trust, .int mwt, .ref r_waitPlace, .ref r_waitHistory, .ref r_waitSaid, .int mmk, .ref r_mark]))])) (QcRead (tf_Md_low mrw x0)) 0 0 (fun _ => False) := by
  refine Met.ofW (cc := cMd_low) (maxL := 2) (ret := (some .int)) (by decide) rfl ?_
  intro p e s m args below meth c s₁ B hml hv
  obtain ⟨rfl, hN, hP, hK⟩ := hv
  have hx := B.exec
  have hb := B.bytes
  have hr := B.returns
  have hts := atoms_spec (ws := wMd_low) B.pre
  have htg : ∀ w ∈ GW, w.before _ s = true := fun w h => hts w (List.mem_cons_of_mem _ h)
  have hown : s.vm.findClass R_Md = some m.cls := findClass_of_methodNamed B.named
  have hlocks := B.notSynchronized
  obtain ⟨rs, hfn⟩ : ∃ rs, (tf_Md_low mrw x0) = rs := ⟨_, rfl⟩
  try rw [hfn]
  have hl := lv_entry ([.ref o0, .int x0]) (n := 2) (Nat.le_of_ble_eq_true rfl)
  rw [lg_entry_eq]
  generalize (lg_sl ([.ref o0, .int x0]) ++ List.replicate (2 - (lg_sl ([.ref o0, .int x0])).length) Slot.unset).toArray = ls at hl ⊢
  have hl : lv_has ls 2 [(0, .ref o0), (1, .int x0)] := hl
  unfold tf_Md_low at hfn
  refine lv_iload_n hx hb dMd_low_0 rfl (lv_at hl 1 rfl) ?_
  refine lv_aload_n hx hb dMd_low_1 rfl (lv_at hl 0 rfl) ?_
  refine va_get (D := (dC, dI)) (ci := 11) (v := .int mrw) (C := R_Md) (T := T_Md) (N := 31) hx hb htg in_Md hown hK hP 0 rfl rfl 3 (by decide) (htg _ wd_798) (fun _ h9 => h9) rfl dMd_low_2 ?_
  refine lv_iconst (v := 1) hx hb dMd_low_5 (by decide) ?_
  refine lv_isub hx hb dMd_low_6 ?_
  refine lv_iand hx hb dMd_low_7 ?_
  subst hfn
  exact W.iret hx hb hr (fun t ht hW => ⟨rfl, ht⟩) (fun _ h => by cases h) dMd_low_8
def tf_Md_plainRow (mbt : Int32) (mrw : Int32) (pl : Int32) : Int32 := ((tf_Md_low mrw (pl ^^^ (us pl mbt))))
set_option maxHeartbeats 4000000 in
set_option maxRecDepth 100000 in
theorem c_Md_plainRow (l : Launch) (dC : Nat → ClassId) (dI : Nat → Nat → Nat) (cA : ClassId × ClassId × ClassId) (o0 : Nat) (r_lastBit : Nat) (r_plain : Nat) (r_mixed : Nat) (r_chooser : Nat) (r_own : Nat) (r_ownCounter : Nat) (r_tag : Nat) (r_sum : Nat) (r_use : Nat) (r_weight : Nat) (r_loopTag : Nat) (r_length : Nat) (r_count : Nat) (r_trust : Nat) (r_waitPlace : Nat) (r_waitHistory : Nat) (r_waitSaid : Nat) (r_mark : Nat) (mt : Int32) (mkd : Int32) (mbt : Int32) (mrw : Int32) (mhs : Int32) (mco : Int32) (mey : Bool) (mu1 : Int32) (mu2 : Int32) (mu3 : Int32) (mu4 : Int32) (mwt : Int32) (mmk : Int32) (pl : Int32) : Met l yMd_plainRow wMd_plainRow ({ frames := 1, cells := 0, slots := 0, locals := 21 }) (va_Pc [.ref o0, .int pl] (Rd (dC, dI) cA [(o0, .inr (11, [.int mt, .int mkd, .int mbt, .int mrw, .int mhs, .int mco, .int (bI mey), .int mu1, .int mu2, .int mu3, .int mu4, .ref r_lastBit, .ref r_plain, .ref r_mixed, .ref r_chooser, .ref r_own, .ref r_ownCounter, .ref r_tag, .ref r_sum, .ref r_use, .ref r_weight, .ref r_loopTag, .ref r_length, .ref r_count, .ref r_trust, .int mwt, .ref r_waitPlace, .ref r_waitHistory, .ref r_waitSaid, .int mmk, .ref r_mark]))])) (QcRead (tf_Md_plainRow mbt mrw pl)) 0 0 (fun _ => False) := by
  refine Met.ofW (cc := cMd_plainRow) (maxL := 2) (ret := (some .int)) (by decide) rfl ?_
  intro p e s m args below meth c s₁ B hml hv
  obtain ⟨rfl, hN, hP, hK⟩ := hv
  have hx := B.exec
  have hb := B.bytes
  have hr := B.returns
  have hts := atoms_spec (ws := wMd_plainRow) B.pre
  have htg : ∀ w ∈ GW, w.before _ s = true := fun w h => hts w (List.mem_cons_of_mem _ h)
  have hown : s.vm.findClass R_Md = some m.cls := findClass_of_methodNamed B.named
  have hlocks := B.notSynchronized
  obtain ⟨rs, hfn⟩ : ∃ rs, (tf_Md_plainRow mbt mrw pl) = rs := ⟨_, rfl⟩
  try rw [hfn]
  have hl := lv_entry ([.ref o0, .int pl]) (n := 2) (Nat.le_of_ble_eq_true rfl)
  rw [lg_entry_eq]
  generalize (lg_sl ([.ref o0, .int pl]) ++ List.replicate (2 - (lg_sl ([.ref o0, .int pl])).length) Slot.unset).toArray = ls at hl ⊢
  have hl : lv_has ls 2 [(0, .ref o0), (1, .int pl)] := hl
  unfold tf_Md_plainRow at hfn
  refine lv_aload_n hx hb dMd_plainRow_0 rfl (lv_at hl 0 rfl) ?_
  refine lv_iload_n hx hb dMd_plainRow_1 rfl (lv_at hl 1 rfl) ?_
  refine lv_iload_n hx hb dMd_plainRow_2 rfl (lv_at hl 1 rfl) ?_
  refine lv_aload_n hx hb dMd_plainRow_3 rfl (lv_at hl 0 rfl) ?_
  refine va_get (D := (dC, dI)) (ci := 11) (v := .int mbt) (C := R_Md) (T := T_Md) (N := 31) hx hb htg in_Md hown hK hP 0 rfl rfl 2 (by decide) (htg _ wd_797) (fun _ h9 => h9) rfl dMd_plainRow_4 ?_
  refine lv_iushr (v := (us pl mbt)) hx hb dMd_plainRow_7 rfl ?_
  refine lv_ixor hx hb dMd_plainRow_8 ?_
  refine rd_V (As := [.int (pl ^^^ (us pl mbt))]) (rest := []) ⟨hx, hb, hml, hown, htg⟩ (c_Md_low l dC dI cA o0 r_lastBit r_plain r_mixed r_chooser r_own r_ownCounter r_tag r_sum r_use r_weight r_loopTag r_length r_count r_trust r_waitPlace r_waitHistory r_waitSaid r_mark mt mkd mbt mrw mhs mco mey mu1 mu2 mu3 mu4 mwt mmk (pl ^^^ (us pl mbt))) (cw_V htg wd_906 ws_20 qMd_low iMd_low kMd_low pMd_low rfl rfl ⟨Nat.le_of_ble_eq_true rfl, Nat.le_of_ble_eq_true rfl⟩) (va_recv hK hP (ci := 11) (q0 := 0) rfl rfl) hN (hP.sub [0] rfl) hK rfl hl.1 rfl (Nat.le_of_ble_eq_true rfl) dMd_plainRow_9 ⟨Nat.le_of_ble_eq_true rfl, Nat.le_of_ble_eq_true rfl⟩ ?_
  subst hfn
  exact W.iret hx hb hr (fun t ht hW => ⟨rfl, ht⟩) (fun _ h => by cases h) dMd_plainRow_12
def of_Md_folded_b5 : Nat → Int32 → Int32 → Int32 → Int32 → Int32 → Option (Int32)
  | 0, _, _, _, _, _ => none
  | n + 1, hs, k0, k1, v3_b5, v4_b5 => (if k0 ≤ v4_b5 then some (v3_b5) else (if k1 = 0 then none else of_Md_folded_b5 n hs k0 k1 (v3_b5 ^^^ (((us hs v4_b5) &&& 1) <<< ((v4_b5 - v4_b5 / k1 * k1) &&& 31))) (v4_b5 + 1)))
def of_Md_folded (hs : Int32) (k0 : Int32) (k1 : Int32) : Option (Int32) := of_Md_folded_b5 4096 hs k0 k1 0 0
set_option maxHeartbeats 4000000 in
set_option maxRecDepth 100000 in
theorem c_Md_folded (l : Launch) (dC : Nat → ClassId) (dI : Nat → Nat → Nat) (cA : ClassId × ClassId × ClassId) (hs : Int32) (k0 : Int32) (k1 : Int32) (rs0 : Int32) (hfn : (of_Md_folded hs k0 k1) = some (rs0)) : Met l yMd_folded wMd_folded ({ frames := 0, cells := 0, slots := 0, locals := 0 }) (va_Pc [.int hs, .int k0, .int k1] (Rd (dC, dI) cA [])) (QcRead rs0) 0 0 (fun _ => False) := by
  refine Met.ofW (cc := cMd_folded) (maxL := 5) (ret := (some .int)) (by decide) rfl ?_
  intro p e s m args below meth c s₁ B hml hv
  obtain ⟨rfl, hN, hP, hK⟩ := hv
  have hx := B.exec
  have hb := B.bytes
  have hr := B.returns
  have hts := atoms_spec (ws := wMd_folded) B.pre
  have htg : ∀ w ∈ GW, w.before _ s = true := fun w h => hts w (List.mem_cons_of_mem _ h)
  have hown : s.vm.findClass R_Md = some m.cls := findClass_of_methodNamed B.named
  have hlocks := B.notSynchronized
  have blk5 : ∀ n : Nat, ∀ (rs0 : Int32) (v3_b5 : Int32) (v4_b5 : Int32) (ls : Array Slot), of_Md_folded_b5 n hs k0 k1 v3_b5 v4_b5 = some (rs0) → lv_has ls 5 [(0, .int hs), (1, .int k0), (2, .int k1), (3, .int v3_b5), (4, .int v4_b5)] → W p l e (headSpec wMd_folded ({ frames := 0, cells := 0, slots := 0, locals := 0 })).room s m ([.int hs, .int k0, .int k1] : List Value).toArray below meth c s.heap [] 0 0 (MQ below (QcRead rs0) ([.int hs, .int k0, .int k1] : List Value).toArray s 0 0 (fun _ => False)) (F0 m 5 ls []) := by
    intro n
    induction n with
    | zero =>
      intro rs0 v3_b5 v4_b5 ls hfn hl
      exact absurd hfn (by intro h; cases h)
    | succ n ih =>
      intro rs0 v3_b5 v4_b5 ls hfn hl
      unfold of_Md_folded_b5 at hfn
      refine lv_iload hx hb dMd_folded_5 (lv_at hl 4 rfl) ?_
      refine lv_iload_n hx hb dMd_folded_7 rfl (lv_at hl 1 rfl) ?_
      refine lv_icmp_ge (tgt := 31) hx hb dMd_folded_8 (by decide) (fun c_1 => ?_) (fun c_1 => ?_)
      · rw [if_pos c_1] at hfn
        refine lv_iload_n hx hb dMd_folded_31 rfl (lv_at hl 3 rfl) ?_
        replace hfn := Option.some.inj hfn
        subst hfn
        exact W.iret hx hb hr (fun t ht hW => ⟨rfl, ht⟩) (fun _ h => by cases h) dMd_folded_32
      · rw [if_neg c_1] at hfn
        refine lv_iload_n hx hb dMd_folded_11 rfl (lv_at hl 3 rfl) ?_
        refine lv_iload_n hx hb dMd_folded_12 rfl (lv_at hl 0 rfl) ?_
        refine lv_iload hx hb dMd_folded_13 (lv_at hl 4 rfl) ?_
        refine lv_iushr (v := (us hs v4_b5)) hx hb dMd_folded_15 rfl ?_
        refine lv_iconst (v := 1) hx hb dMd_folded_16 (by decide) ?_
        refine lv_iand hx hb dMd_folded_17 ?_
        refine lv_iload hx hb dMd_folded_18 (lv_at hl 4 rfl) ?_
        refine lv_iload_n hx hb dMd_folded_20 rfl (lv_at hl 2 rfl) ?_
        obtain ⟨g_2, hfn⟩ := og hfn
        refine lv_irem hx hb dMd_folded_21 g_2 ?_
        refine lv_ishl hx hb dMd_folded_22 ?_
        refine lv_ixor hx hb dMd_folded_23 ?_
        refine lv_istore_n (lv' := [(3, .int (v3_b5 ^^^ (((us hs v4_b5) &&& 1) <<< ((v4_b5 - v4_b5 / k1 * k1) &&& 31)))), (0, .int hs), (1, .int k0), (2, .int k1), (4, .int v4_b5)]) hx hb dMd_folded_24 rfl hl (by decide) rfl (fun ls hl => ?_)
        refine lv_iinc (v := (v4_b5 + 1)) (lv' := [(4, .int (v4_b5 + 1)), (3, .int (v3_b5 ^^^ (((us hs v4_b5) &&& 1) <<< ((v4_b5 - v4_b5 / k1 * k1) &&& 31)))), (0, .int hs), (1, .int k0), (2, .int k1)]) hx hb dMd_folded_25 hl (k := 4) rfl rfl (by decide) rfl (fun ls hl => ?_)
        refine lv_goto (tgt := 5) hx hb dMd_folded_28 (by decide) ?_
        exact ih _ (v3_b5 ^^^ (((us hs v4_b5) &&& 1) <<< ((v4_b5 - v4_b5 / k1 * k1) &&& 31))) (v4_b5 + 1) ls hfn (lv_sub hl [2, 3, 4, 1, 0] rfl)
  have hl := lv_entry ([.int hs, .int k0, .int k1]) (n := 5) (Nat.le_of_ble_eq_true rfl)
  rw [lg_entry_eq]
  generalize (lg_sl ([.int hs, .int k0, .int k1]) ++ List.replicate (5 - (lg_sl ([.int hs, .int k0, .int k1])).length) Slot.unset).toArray = ls at hl ⊢
  have hl : lv_has ls 5 [(0, .int hs), (1, .int k0), (2, .int k1)] := hl
  unfold of_Md_folded at hfn
  refine lv_iconst (v := 0) hx hb dMd_folded_0 (by decide) ?_
  refine lv_istore_n (lv' := [(3, .int 0), (0, .int hs), (1, .int k0), (2, .int k1)]) hx hb dMd_folded_1 rfl hl (by decide) rfl (fun ls hl => ?_)
  refine lv_iconst (v := 0) hx hb dMd_folded_2 (by decide) ?_
  refine lv_istore (lv' := [(4, .int 0), (3, .int 0), (0, .int hs), (1, .int k0), (2, .int k1)]) hx hb dMd_folded_3 hl (by decide) rfl (fun ls hl => ?_)
  exact blk5 4096 _ 0 0 ls hfn (lv_sub hl [2, 3, 4, 1, 0] rfl)
def tf_Md_step (x0 : Int32) (u0 : Bool) : Int32 := (if (bI u0) = 0 then (if x0 ≤ 0 then (0) else ((x0 - 1))) else (if 3 ≤ x0 then (3) else ((x0 + 1))))
set_option maxHeartbeats 4000000 in
set_option maxRecDepth 100000 in
theorem c_Md_step (l : Launch) (dC : Nat → ClassId) (dI : Nat → Nat → Nat) (cA : ClassId × ClassId × ClassId) (x0 : Int32) (u0 : Bool) : Met l yMd_step wMd_step ({ frames := 0, cells := 0, slots := 0, locals := 0 }) (va_Pc [.int x0, .int (bI u0)] (Rd (dC, dI) cA [])) (QcRead (tf_Md_step x0 u0)) 0 0 (fun _ => False) := by
  refine Met.ofW (cc := cMd_step) (maxL := 2) (ret := (some .int)) (by decide) rfl ?_
  intro p e s m args below meth c s₁ B hml hv
  obtain ⟨rfl, hN, hP, hK⟩ := hv
  have hx := B.exec
  have hb := B.bytes
  have hr := B.returns
  have hts := atoms_spec (ws := wMd_step) B.pre
  have htg : ∀ w ∈ GW, w.before _ s = true := fun w h => hts w (List.mem_cons_of_mem _ h)
  have hown : s.vm.findClass R_Md = some m.cls := findClass_of_methodNamed B.named
  have hlocks := B.notSynchronized
  obtain ⟨rs, hfn⟩ : ∃ rs, (tf_Md_step x0 u0) = rs := ⟨_, rfl⟩
  try rw [hfn]
  have hl := lv_entry ([.int x0, .int (bI u0)]) (n := 2) (Nat.le_of_ble_eq_true rfl)
  rw [lg_entry_eq]
  generalize (lg_sl ([.int x0, .int (bI u0)]) ++ List.replicate (2 - (lg_sl ([.int x0, .int (bI u0)])).length) Slot.unset).toArray = ls at hl ⊢
  have hl : lv_has ls 2 [(0, .int x0), (1, .int (bI u0))] := hl
  unfold tf_Md_step at hfn
  refine lv_iload_n hx hb dMd_step_0 rfl (lv_at hl 1 rfl) ?_
  refine lv_if_eq (tgt := 19) hx hb dMd_step_1 (by decide) (fun c_1 => ?_) (fun c_1 => ?_)
  · rw [if_pos c_1] at hfn
    refine lv_iload_n hx hb dMd_step_19 rfl (lv_at hl 0 rfl) ?_
    refine lv_if_le (tgt := 29) hx hb dMd_step_20 (by decide) (fun c_2 => ?_) (fun c_2 => ?_)
    · rw [if_pos c_2] at hfn
      refine lv_iconst (v := 0) hx hb dMd_step_29 (by decide) ?_
      subst hfn
      exact W.iret hx hb hr (fun t ht hW => ⟨rfl, ht⟩) (fun _ h => by cases h) dMd_step_30
    · rw [if_neg c_2] at hfn
      refine lv_iload_n hx hb dMd_step_23 rfl (lv_at hl 0 rfl) ?_
      refine lv_iconst (v := 1) hx hb dMd_step_24 (by decide) ?_
      refine lv_isub hx hb dMd_step_25 ?_
      refine lv_goto (tgt := 30) hx hb dMd_step_26 (by decide) ?_
      subst hfn
      exact W.iret hx hb hr (fun t ht hW => ⟨rfl, ht⟩) (fun _ h => by cases h) dMd_step_30
  · rw [if_neg c_1] at hfn
    refine lv_iload_n hx hb dMd_step_4 rfl (lv_at hl 0 rfl) ?_
    refine lv_iconst (v := 3) hx hb dMd_step_5 (by decide) ?_
    refine lv_icmp_ge (tgt := 15) hx hb dMd_step_6 (by decide) (fun c_3 => ?_) (fun c_3 => ?_)
    · rw [if_pos c_3] at hfn
      refine lv_iconst (v := 3) hx hb dMd_step_15 (by decide) ?_
      refine lv_goto (tgt := 30) hx hb dMd_step_16 (by decide) ?_
      subst hfn
      exact W.iret hx hb hr (fun t ht hW => ⟨rfl, ht⟩) (fun _ h => by cases h) dMd_step_30
    · rw [if_neg c_3] at hfn
      refine lv_iload_n hx hb dMd_step_9 rfl (lv_at hl 0 rfl) ?_
      refine lv_iconst (v := 1) hx hb dMd_step_10 (by decide) ?_
      refine lv_iadd hx hb dMd_step_11 ?_
      refine lv_goto (tgt := 30) hx hb dMd_step_12 (by decide) ?_
      subst hfn
      exact W.iret hx hb hr (fun t ht hW => ⟨rfl, ht⟩) (fun _ h => by cases h) dMd_step_30
def tf_Md_span (t0 : Int32) : Int32 := (if t0 = 0 then (4) else (if t0 = 1 then (8) else (16)))
set_option maxHeartbeats 4000000 in
set_option maxRecDepth 100000 in
theorem c_Md_span (l : Launch) (dC : Nat → ClassId) (dI : Nat → Nat → Nat) (cA : ClassId × ClassId × ClassId) (t0 : Int32) : Met l yMd_span wMd_span ({ frames := 0, cells := 0, slots := 0, locals := 0 }) (va_Pc [.int t0] (Rd (dC, dI) cA [])) (QcRead (tf_Md_span t0)) 0 0 (fun _ => False) := by
  refine Met.ofW (cc := cMd_span) (maxL := 1) (ret := (some .int)) (by decide) rfl ?_
  intro p e s m args below meth c s₁ B hml hv
  obtain ⟨rfl, hN, hP, hK⟩ := hv
  have hx := B.exec
  have hb := B.bytes
  have hr := B.returns
  have hts := atoms_spec (ws := wMd_span) B.pre
  have htg : ∀ w ∈ GW, w.before _ s = true := fun w h => hts w (List.mem_cons_of_mem _ h)
  have hown : s.vm.findClass R_Md = some m.cls := findClass_of_methodNamed B.named
  have hlocks := B.notSynchronized
  obtain ⟨rs, hfn⟩ : ∃ rs, (tf_Md_span t0) = rs := ⟨_, rfl⟩
  try rw [hfn]
  have hl := lv_entry ([.int t0]) (n := 1) (Nat.le_of_ble_eq_true rfl)
  rw [lg_entry_eq]
  generalize (lg_sl ([.int t0]) ++ List.replicate (1 - (lg_sl ([.int t0])).length) Slot.unset).toArray = ls at hl ⊢
  have hl : lv_has ls 1 [(0, .int t0)] := hl
  unfold tf_Md_span at hfn
  refine lv_iload_n hx hb dMd_span_0 rfl (lv_at hl 0 rfl) ?_
  refine lv_if_ne (tgt := 8) hx hb dMd_span_1 (by decide) (fun c_1 => ?_) (fun c_1 => ?_)
  · rw [if_neg c_1] at hfn
    refine lv_iload_n hx hb dMd_span_8 rfl (lv_at hl 0 rfl) ?_
    refine lv_iconst (v := 1) hx hb dMd_span_9 (by decide) ?_
    refine lv_icmp_ne (tgt := 18) hx hb dMd_span_10 (by decide) (fun c_2 => ?_) (fun c_2 => ?_)
    · rw [if_neg c_2] at hfn
      refine lv_bipush (v := 16) hx hb dMd_span_18 (by decide) ?_
      subst hfn
      exact W.iret hx hb hr (fun t ht hW => ⟨rfl, ht⟩) (fun _ h => by cases h) dMd_span_20
    · rw [if_pos c_2] at hfn
      refine lv_bipush (v := 8) hx hb dMd_span_13 (by decide) ?_
      refine lv_goto (tgt := 20) hx hb dMd_span_15 (by decide) ?_
      subst hfn
      exact W.iret hx hb hr (fun t ht hW => ⟨rfl, ht⟩) (fun _ h => by cases h) dMd_span_20
  · rw [if_pos c_1] at hfn
    refine lv_iconst (v := 4) hx hb dMd_span_4 (by decide) ?_
    refine lv_goto (tgt := 20) hx hb dMd_span_5 (by decide) ?_
    subst hfn
    exact W.iret hx hb hr (fun t ht hW => ⟨rfl, ht⟩) (fun _ h => by cases h) dMd_span_20
