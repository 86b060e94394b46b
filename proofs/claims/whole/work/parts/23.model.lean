def tf_Md_early (mey : Bool) (on : Bool) : Bool × Int32 × Int32 × Bool := (mey, 0, 0, on)
set_option maxHeartbeats 4000000 in
set_option maxRecDepth 100000 in
theorem c_Md_early (l : Launch) (dC : Nat → ClassId) (dI : Nat → Nat → Nat) (cA : ClassId × ClassId × ClassId) (zz : Nat) (o0 : Nat) (r_lastBit : Nat) (r_plain : Nat) (r_mixed : Nat) (r_chooser : Nat) (r_own : Nat) (r_ownCounter : Nat) (r_tag : Nat) (r_sum : Nat) (r_use : Nat) (r_weight : Nat) (r_loopTag : Nat) (r_length : Nat) (r_count : Nat) (r_trust : Nat) (r_waitPlace : Nat) (r_waitHistory : Nat) (r_waitSaid : Nat) (r_mark : Nat) (mt : Int32) (mkd : Int32) (mbt : Int32) (mrw : Int32) (mhs : Int32) (mco : Int32) (mey : Bool) (mu1 : Int32) (mu2 : Int32) (mu3 : Int32) (mu4 : Int32) (mwt : Int32) (mmk : Int32) (on : Bool) : Met l yMd_early wMd_early ({ frames := 0, cells := 0, slots := 0, locals := 0 }) (va_Pc [.ref o0, .int (bI on)] (Wr (dC, dI) cA zz [(o0, .inr (11, [.int mt, .int mkd, .int mbt, .int mrw, .int mhs, .int mco, .int (bI mey), .int mu1, .int mu2, .int mu3, .int mu4, .ref r_lastBit, .ref r_plain, .ref r_mixed, .ref r_chooser, .ref r_own, .ref r_ownCounter, .ref r_tag, .ref r_sum, .ref r_use, .ref r_weight, .ref r_loopTag, .ref r_length, .ref r_count, .ref r_trust, .int mwt, .ref r_waitPlace, .ref r_waitHistory, .ref r_waitSaid, .int mmk, .ref r_mark]))])) (va_Qi (fun r9 w9 => r9 = (bI ((tf_Md_early mey on).1)) ∧ w9 = [(o0, .inr (11, [.int ((tf_Md_early mey on).2.1), .int mkd, .int mbt, .int mrw, .int mhs, .int mco, .int (bI ((tf_Md_early mey on).2.2.2)), .int mu1, .int mu2, .int mu3, .int mu4, .ref r_lastBit, .ref r_plain, .ref r_mixed, .ref r_chooser, .ref r_own, .ref r_ownCounter, .ref r_tag, .ref r_sum, .ref r_use, .ref r_weight, .ref r_loopTag, .ref r_length, .ref r_count, .ref r_trust, .int ((tf_Md_early mey on).2.2.1), .ref r_waitPlace, .ref r_waitHistory, .ref r_waitSaid, .int mmk, .ref r_mark]))]) (At (dC, dI) cA (va_A [(o0, .inr (11, [.int mt, .int mkd, .int mbt, .int mrw, .int mhs, .int mco, .int (bI mey), .int mu1, .int mu2, .int mu3, .int mu4, .ref r_lastBit, .ref r_plain, .ref r_mixed, .ref r_chooser, .ref r_own, .ref r_ownCounter, .ref r_tag, .ref r_sum, .ref r_use, .ref r_weight, .ref r_loopTag, .ref r_length, .ref r_count, .ref r_trust, .int mwt, .ref r_waitPlace, .ref r_waitHistory, .ref r_waitSaid, .int mmk, .ref r_mark]))] zz)) (va_A [(o0, .inr (11, [.int mt, .int mkd, .int mbt, .int mrw, .int mhs, .int mco, .int (bI mey), .int mu1, .int mu2, .int mu3, .int mu4, .ref r_lastBit, .ref r_plain, .ref r_mixed, .ref r_chooser, .ref r_own, .ref r_ownCounter, .ref r_tag, .ref r_sum, .ref r_use, .ref r_weight, .ref r_loopTag, .ref r_length, .ref r_count, .ref r_trust, .int mwt, .ref r_waitPlace, .ref r_waitHistory, .ref r_waitSaid, .int mmk, .ref r_mark]))] zz)) 0 0 (va_A [(o0, .inr (11, [.int mt, .int mkd, .int mbt, .int mrw, .int mhs, .int mco, .int (bI mey), .int mu1, .int mu2, .int mu3, .int mu4, .ref r_lastBit, .ref r_plain, .ref r_mixed, .ref r_chooser, .ref r_own, .ref r_ownCounter, .ref r_tag, .ref r_sum, .ref r_use, .ref r_weight, .ref r_loopTag, .ref r_length, .ref r_count, .ref r_trust, .int mwt, .ref r_waitPlace, .ref r_waitHistory, .ref r_waitSaid, .int mmk, .ref r_mark]))] zz) := by
  refine Met.ofW (cc := cMd_early) (maxL := 3) (ret := (some .boolean)) (by decide) rfl ?_
  intro p e s m args below meth c s₁ B hml hv
  obtain ⟨rfl, hsz, hN, hP, hK, hD0⟩ := hv
  have hx := B.exec
  have hb := B.bytes
  have hr := B.returns
  have hts := atoms_spec (ws := wMd_early) B.pre
  have htg : ∀ w ∈ GW, w.before _ s = true := fun w h => hts w (List.mem_cons_of_mem _ h)
  have hown : s.vm.findClass R_Md = some m.cls := findClass_of_methodNamed B.named
  have hlocks := B.notSynchronized
  subst hsz
  have hD := hD0.self (sz := s.heap.size)
  generalize hAe : va_A [(o0, .inr (11, [.int mt, .int mkd, .int mbt, .int mrw, .int mhs, .int mco, .int (bI mey), .int mu1, .int mu2, .int mu3, .int mu4, .ref r_lastBit, .ref r_plain, .ref r_mixed, .ref r_chooser, .ref r_own, .ref r_ownCounter, .ref r_tag, .ref r_sum, .ref r_use, .ref r_weight, .ref r_loopTag, .ref r_length, .ref r_count, .ref r_trust, .int mwt, .ref r_waitPlace, .ref r_waitHistory, .ref r_waitSaid, .int mmk, .ref r_mark]))] s.heap.size = A at hD ⊢
  have hA : ∀ q : Nat, s.heap.size ≤ q → A q := fun q h => by rw [← hAe]; exact Or.inr h
  have hS : va_S A s.heap s.heap [] := va_S.rf
  have hP : va_P (dC, dI) vwCl [(o0, .inr (11, [.int mt, .int mkd, .int mbt, .int mrw, .int mhs, .int mco, .int (bI mey), .int mu1, .int mu2, .int mu3, .int mu4, .ref r_lastBit, .ref r_plain, .ref r_mixed, .ref r_chooser, .ref r_own, .ref r_ownCounter, .ref r_tag, .ref r_sum, .ref r_use, .ref r_weight, .ref r_loopTag, .ref r_length, .ref r_count, .ref r_trust, .int mwt, .ref r_waitPlace, .ref r_waitHistory, .ref r_waitSaid, .int mmk, .ref r_mark]))] s.heap := hP
  obtain ⟨rs, hfn⟩ : ∃ rs, (tf_Md_early mey on) = rs := ⟨_, rfl⟩
  try rw [hfn]
  have hl := lv_entry ([.ref o0, .int (bI on)]) (n := 3) (Nat.le_of_ble_eq_true rfl)
  rw [lg_entry_eq]
  generalize (lg_sl ([.ref o0, .int (bI on)]) ++ List.replicate (3 - (lg_sl ([.ref o0, .int (bI on)])).length) Slot.unset).toArray = ls at hl ⊢
  have hl : lv_has ls 3 [(0, .ref o0), (1, .int (bI on))] := hl
  unfold tf_Md_early at hfn
  refine lv_aload_n hx hb dMd_early_0 rfl (lv_at hl 0 rfl) ?_
  refine lv_iconst (v := 0) hx hb dMd_early_1 (by decide) ?_
  refine va_put (D := (dC, dI)) (ci := 11) (v := .int 0) (ty := .int) (C := R_Md) (T := T_Md) (N := 31) hx hb htg in_Md ty_Md tk_Md nm_Md hown hK hP hD hS 0 rfl rfl 0 (by decide) (htg _ wd_795) (fun _ h9 => h9) rfl (by decide +kernel) rfl rfl (Nat.le_of_ble_eq_true rfl) dMd_early_2 (fun H locs hP hD hS => ?_)
  have hP : va_P (dC, dI) vwCl [(o0, .inr (11, [.int 0, .int mkd, .int mbt, .int mrw, .int mhs, .int mco, .int (bI mey), .int mu1, .int mu2, .int mu3, .int mu4, .ref r_lastBit, .ref r_plain, .ref r_mixed, .ref r_chooser, .ref r_own, .ref r_ownCounter, .ref r_tag, .ref r_sum, .ref r_use, .ref r_weight, .ref r_loopTag, .ref r_length, .ref r_count, .ref r_trust, .int mwt, .ref r_waitPlace, .ref r_waitHistory, .ref r_waitSaid, .int mmk, .ref r_mark]))] H := hP
  have hD : va_D A [(o0, .inr (11, [.int 0, .int mkd, .int mbt, .int mrw, .int mhs, .int mco, .int (bI mey), .int mu1, .int mu2, .int mu3, .int mu4, .ref r_lastBit, .ref r_plain, .ref r_mixed, .ref r_chooser, .ref r_own, .ref r_ownCounter, .ref r_tag, .ref r_sum, .ref r_use, .ref r_weight, .ref r_loopTag, .ref r_length, .ref r_count, .ref r_trust, .int mwt, .ref r_waitPlace, .ref r_waitHistory, .ref r_waitSaid, .int mmk, .ref r_mark]))] := hD
  refine lv_aload_n hx hb dMd_early_5 rfl (lv_at hl 0 rfl) ?_
  refine va_get (D := (dC, dI)) (ci := 11) (v := .int (bI mey)) (C := R_Md) (T := T_Md) (N := 31) hx hb htg in_Md hown hK hP 0 rfl rfl 6 (by decide) (htg _ wd_801) (fun _ h9 => h9) rfl dMd_early_6 ?_
  refine lv_istore_n (lv' := [(2, .int (bI mey)), (0, .ref o0), (1, .int (bI on))]) hx hb dMd_early_9 rfl hl (by decide) rfl (fun ls hl => ?_)
  refine lv_aload_n hx hb dMd_early_10 rfl (lv_at hl 1 rfl) ?_
  refine lv_iload_n hx hb dMd_early_11 rfl (lv_at hl 2 rfl) ?_
  refine va_put (D := (dC, dI)) (ci := 11) (v := .int (bI on)) (ty := .boolean) (C := R_Md) (T := T_Md) (N := 31) hx hb htg in_Md ty_Md tk_Md nm_Md hown hK hP hD hS 0 rfl rfl 6 (by decide) (htg _ wd_801) (fun _ h9 => h9) rfl (by decide +kernel) (nar_bI _) (fit_bI _) (Nat.le_of_ble_eq_true rfl) dMd_early_12 (fun H locs hP hD hS => ?_)
  have hP : va_P (dC, dI) vwCl [(o0, .inr (11, [.int 0, .int mkd, .int mbt, .int mrw, .int mhs, .int mco, .int (bI on), .int mu1, .int mu2, .int mu3, .int mu4, .ref r_lastBit, .ref r_plain, .ref r_mixed, .ref r_chooser, .ref r_own, .ref r_ownCounter, .ref r_tag, .ref r_sum, .ref r_use, .ref r_weight, .ref r_loopTag, .ref r_length, .ref r_count, .ref r_trust, .int mwt, .ref r_waitPlace, .ref r_waitHistory, .ref r_waitSaid, .int mmk, .ref r_mark]))] H := hP
  have hD : va_D A [(o0, .inr (11, [.int 0, .int mkd, .int mbt, .int mrw, .int mhs, .int mco, .int (bI on), .int mu1, .int mu2, .int mu3, .int mu4, .ref r_lastBit, .ref r_plain, .ref r_mixed, .ref r_chooser, .ref r_own, .ref r_ownCounter, .ref r_tag, .ref r_sum, .ref r_use, .ref r_weight, .ref r_loopTag, .ref r_length, .ref r_count, .ref r_trust, .int mwt, .ref r_waitPlace, .ref r_waitHistory, .ref r_waitSaid, .int mmk, .ref r_mark]))] := hD
  refine lv_aload_n hx hb dMd_early_15 rfl (lv_at hl 1 rfl) ?_
  refine lv_iconst (v := 0) hx hb dMd_early_16 (by decide) ?_
  refine va_put (D := (dC, dI)) (ci := 11) (v := .int 0) (ty := .int) (C := R_Md) (T := T_Md) (N := 31) hx hb htg in_Md ty_Md tk_Md nm_Md hown hK hP hD hS 0 rfl rfl 25 (by decide) (htg _ wd_820) (fun _ h9 => h9) rfl (by decide +kernel) rfl rfl (Nat.le_of_ble_eq_true rfl) dMd_early_17 (fun H locs hP hD hS => ?_)
  have hP : va_P (dC, dI) vwCl [(o0, .inr (11, [.int 0, .int mkd, .int mbt, .int mrw, .int mhs, .int mco, .int (bI on), .int mu1, .int mu2, .int mu3, .int mu4, .ref r_lastBit, .ref r_plain, .ref r_mixed, .ref r_chooser, .ref r_own, .ref r_ownCounter, .ref r_tag, .ref r_sum, .ref r_use, .ref r_weight, .ref r_loopTag, .ref r_length, .ref r_count, .ref r_trust, .int 0, .ref r_waitPlace, .ref r_waitHistory, .ref r_waitSaid, .int mmk, .ref r_mark]))] H := hP
  have hD : va_D A [(o0, .inr (11, [.int 0, .int mkd, .int mbt, .int mrw, .int mhs, .int mco, .int (bI on), .int mu1, .int mu2, .int mu3, .int mu4, .ref r_lastBit, .ref r_plain, .ref r_mixed, .ref r_chooser, .ref r_own, .ref r_ownCounter, .ref r_tag, .ref r_sum, .ref r_use, .ref r_weight, .ref r_loopTag, .ref r_length, .ref r_count, .ref r_trust, .int 0, .ref r_waitPlace, .ref r_waitHistory, .ref r_waitSaid, .int mmk, .ref r_mark]))] := hD
  refine lv_iload_n hx hb dMd_early_20 rfl (lv_at hl 0 rfl) ?_
  subst hfn
  exact W.zret hx hb hr (nar_bI _) (fun t ht hW => ⟨⟨_, _, rfl, ⟨rfl, rfl⟩, ⟨by rw [ht]; exact hP.sub [0] rfl, va_K.moved hW.alike hK, hD.sub [0] (by decide) rfl⟩⟩, hS.F ht⟩) hS.2.2 dMd_early_21
def tf_Md_history (mhs : Int32) : Int32 × Int32 := (mhs, 0)
set_option maxHeartbeats 4000000 in
set_option maxRecDepth 100000 in
theorem c_Md_history (l : Launch) (dC : Nat → ClassId) (dI : Nat → Nat → Nat) (cA : ClassId × ClassId × ClassId) (zz : Nat) (o0 : Nat) (r_lastBit : Nat) (r_plain : Nat) (r_mixed : Nat) (r_chooser : Nat) (r_own : Nat) (r_ownCounter : Nat) (r_tag : Nat) (r_sum : Nat) (r_use : Nat) (r_weight : Nat) (r_loopTag : Nat) (r_length : Nat) (r_count : Nat) (r_trust : Nat) (r_waitPlace : Nat) (r_waitHistory : Nat) (r_waitSaid : Nat) (r_mark : Nat) (mt : Int32) (mkd : Int32) (mbt : Int32) (mrw : Int32) (mhs : Int32) (mco : Int32) (mey : Bool) (mu1 : Int32) (mu2 : Int32) (mu3 : Int32) (mu4 : Int32) (mwt : Int32) (mmk : Int32) : Met l yMd_history wMd_history ({ frames := 0, cells := 0, slots := 0, locals := 0 }) (va_Pc [.ref o0] (Wr (dC, dI) cA zz [(o0, .inr (11, [.int mt, .int mkd, .int mbt, .int mrw, .int mhs, .int mco, .int (bI mey), .int mu1, .int mu2, .int mu3, .int mu4, .ref r_lastBit, .ref r_plain, .ref r_mixed, .ref r_chooser, .ref r_own, .ref r_ownCounter, .ref r_tag, .ref r_sum, .ref r_use, .ref r_weight, .ref r_loopTag, .ref r_length, .ref r_count, .ref r_trust, .int mwt, .ref r_waitPlace, .ref r_waitHistory, .ref r_waitSaid, .int mmk, .ref r_mark]))])) (va_Qi (fun r9 w9 => r9 = (tf_Md_history mhs).1 ∧ w9 = [(o0, .inr (11, [.int ((tf_Md_history mhs).2), .int mkd, .int mbt, .int mrw, .int mhs, .int mco, .int (bI mey), .int mu1, .int mu2, .int mu3, .int mu4, .ref r_lastBit, .ref r_plain, .ref r_mixed, .ref r_chooser, .ref r_own, .ref r_ownCounter, .ref r_tag, .ref r_sum, .ref r_use, .ref r_weight, .ref r_loopTag, .ref r_length, .ref r_count, .ref r_trust, .int mwt, .ref r_waitPlace, .ref r_waitHistory, .ref r_waitSaid, .int mmk, .ref r_mark]))]) (At (dC, dI) cA (va_A [(o0, .inr (11, [.int mt, .int mkd, .int mbt, .int mrw, .int mhs, .int mco, .int (bI mey), .int mu1, .int mu2, .int mu3, .int mu4, .ref r_lastBit, .ref r_plain, .ref r_mixed, .ref r_chooser, .ref r_own, .ref r_ownCounter, .ref r_tag, .ref r_sum, .ref r_use, .ref r_weight, .ref r_loopTag, .ref r_length, .ref r_count, .ref r_trust, .int mwt, .ref r_waitPlace, .ref r_waitHistory, .ref r_waitSaid, .int mmk, .ref r_mark]))] zz)) (va_A [(o0, .inr (11, [.int mt, .int mkd, .int mbt, .int mrw, .int mhs, .int mco, .int (bI mey), .int mu1, .int mu2, .int mu3, .int mu4, .ref r_lastBit, .ref r_plain, .ref r_mixed, .ref r_chooser, .ref r_own, .ref r_ownCounter, .ref r_tag, .ref r_sum, .ref r_use, .ref r_weight, .ref r_loopTag, .ref r_length, .ref r_count, .ref r_trust, .int mwt, .ref r_waitPlace, .ref r_waitHistory, .ref r_waitSaid, .int mmk, .ref r_mark]))] zz)) 0 0 (va_A [(o0, .inr (11, [.int mt, .int mkd, .int mbt, .int mrw, .int mhs, .int mco, .int (bI mey), .int mu1, .int mu2, .int mu3, .int mu4, .ref r_lastBit, .ref r_plain, .ref r_mixed, .ref r_chooser, .ref r_own, .ref r_ownCounter, .ref r_tag, .ref r_sum, .ref r_use, .ref r_weight, .ref r_loopTag, .ref r_length, .ref r_count, .ref r_trust, .int mwt, .ref r_waitPlace, .ref r_waitHistory, .ref r_waitSaid, .int mmk, .ref r_mark]))] zz) := by
  refine Met.ofW (cc := cMd_history) (maxL := 1) (ret := (some .int)) (by decide) rfl ?_
  intro p e s m args below meth c s₁ B hml hv
  obtain ⟨rfl, hsz, hN, hP, hK, hD0⟩ := hv
  have hx := B.exec
  have hb := B.bytes
  have hr := B.returns
  have hts := atoms_spec (ws := wMd_history) B.pre
  have htg : ∀ w ∈ GW, w.before _ s = true := fun w h => hts w (List.mem_cons_of_mem _ h)
  have hown : s.vm.findClass R_Md = some m.cls := findClass_of_methodNamed B.named
  have hlocks := B.notSynchronized
  subst hsz
  have hD := hD0.self (sz := s.heap.size)
  generalize hAe : va_A [(o0, .inr (11, [.int mt, .int mkd, .int mbt, .int mrw, .int mhs, .int mco, .int (bI mey), .int mu1, .int mu2, .int mu3, .int mu4, .ref r_lastBit, .ref r_plain, .ref r_mixed, .ref r_chooser, .ref r_own, .ref r_ownCounter, .ref r_tag, .ref r_sum, .ref r_use, .ref r_weight, .ref r_loopTag, .ref r_length, .ref r_count, .ref r_trust, .int mwt, .ref r_waitPlace, .ref r_waitHistory, .ref r_waitSaid, .int mmk, .ref r_mark]))] s.heap.size = A at hD ⊢
  have hA : ∀ q : Nat, s.heap.size ≤ q → A q := fun q h => by rw [← hAe]; exact Or.inr h
  have hS : va_S A s.heap s.heap [] := va_S.rf
  have hP : va_P (dC, dI) vwCl [(o0, .inr (11, [.int mt, .int mkd, .int mbt, .int mrw, .int mhs, .int mco, .int (bI mey), .int mu1, .int mu2, .int mu3, .int mu4, .ref r_lastBit, .ref r_plain, .ref r_mixed, .ref r_chooser, .ref r_own, .ref r_ownCounter, .ref r_tag, .ref r_sum, .ref r_use, .ref r_weight, .ref r_loopTag, .ref r_length, .ref r_count, .ref r_trust, .int mwt, .ref r_waitPlace, .ref r_waitHistory, .ref r_waitSaid, .int mmk, .ref r_mark]))] s.heap := hP
  obtain ⟨rs, hfn⟩ : ∃ rs, (tf_Md_history mhs) = rs := ⟨_, rfl⟩
  try rw [hfn]
  have hl := lv_entry ([.ref o0]) (n := 1) (Nat.le_of_ble_eq_true rfl)
  rw [lg_entry_eq]
  generalize (lg_sl ([.ref o0]) ++ List.replicate (1 - (lg_sl ([.ref o0])).length) Slot.unset).toArray = ls at hl ⊢
  have hl : lv_has ls 1 [(0, .ref o0)] := hl
  unfold tf_Md_history at hfn
  refine lv_aload_n hx hb dMd_history_0 rfl (lv_at hl 0 rfl) ?_
  refine lv_iconst (v := 0) hx hb dMd_history_1 (by decide) ?_
  refine va_put (D := (dC, dI)) (ci := 11) (v := .int 0) (ty := .int) (C := R_Md) (T := T_Md) (N := 31) hx hb htg in_Md ty_Md tk_Md nm_Md hown hK hP hD hS 0 rfl rfl 0 (by decide) (htg _ wd_795) (fun _ h9 => h9) rfl (by decide +kernel) rfl rfl (Nat.le_of_ble_eq_true rfl) dMd_history_2 (fun H locs hP hD hS => ?_)
  have hP : va_P (dC, dI) vwCl [(o0, .inr (11, [.int 0, .int mkd, .int mbt, .int mrw, .int mhs, .int mco, .int (bI mey), .int mu1, .int mu2, .int mu3, .int mu4, .ref r_lastBit, .ref r_plain, .ref r_mixed, .ref r_chooser, .ref r_own, .ref r_ownCounter, .ref r_tag, .ref r_sum, .ref r_use, .ref r_weight, .ref r_loopTag, .ref r_length, .ref r_count, .ref r_trust, .int mwt, .ref r_waitPlace, .ref r_waitHistory, .ref r_waitSaid, .int mmk, .ref r_mark]))] H := hP
  have hD : va_D A [(o0, .inr (11, [.int 0, .int mkd, .int mbt, .int mrw, .int mhs, .int mco, .int (bI mey), .int mu1, .int mu2, .int mu3, .int mu4, .ref r_lastBit, .ref r_plain, .ref r_mixed, .ref r_chooser, .ref r_own, .ref r_ownCounter, .ref r_tag, .ref r_sum, .ref r_use, .ref r_weight, .ref r_loopTag, .ref r_length, .ref r_count, .ref r_trust, .int mwt, .ref r_waitPlace, .ref r_waitHistory, .ref r_waitSaid, .int mmk, .ref r_mark]))] := hD
  refine lv_aload_n hx hb dMd_history_5 rfl (lv_at hl 0 rfl) ?_
  refine va_get (D := (dC, dI)) (ci := 11) (v := .int mhs) (C := R_Md) (T := T_Md) (N := 31) hx hb htg in_Md hown hK hP 0 rfl rfl 4 (by decide) (htg _ wd_799) (fun _ h9 => h9) rfl dMd_history_6 ?_
  subst hfn
  exact W.iret hx hb hr (fun t ht hW => ⟨⟨_, _, rfl, ⟨rfl, rfl⟩, ⟨by rw [ht]; exact hP.sub [0] rfl, va_K.moved hW.alike hK, hD.sub [0] (by decide) rfl⟩⟩, hS.F ht⟩) hS.2.2 dMd_history_9
def of_Md_mark (mhs : Int32) (mmk : Int32) (g_mark : Nat → Int32) : Option (Int32 × Int32 × Int32 × (Nat → Int32)) := (if mmk = 32 then some (((tf_Md_fail 1).1), ((tf_Md_fail 1).2), mmk, g_mark) else (if mmk < 0 ∨ 32 ≤ mmk.toNatClampNeg then none else some (((mmk + 1) - 1), 0, (mmk + 1), (upd g_mark mmk.toNatClampNeg mhs))))
set_option maxHeartbeats 4000000 in
set_option maxRecDepth 100000 in
theorem c_Md_mark (l : Launch) (dC : Nat → ClassId) (dI : Nat → Nat → Nat) (cA : ClassId × ClassId × ClassId) (zz : Nat) (o0 : Nat) (r_mark : Nat) (r_lastBit : Nat) (r_plain : Nat) (r_mixed : Nat) (r_chooser : Nat) (r_own : Nat) (r_ownCounter : Nat) (r_tag : Nat) (r_sum : Nat) (r_use : Nat) (r_weight : Nat) (r_loopTag : Nat) (r_length : Nat) (r_count : Nat) (r_trust : Nat) (r_waitPlace : Nat) (r_waitHistory : Nat) (r_waitSaid : Nat) (mt : Int32) (mkd : Int32) (mbt : Int32) (mrw : Int32) (mhs : Int32) (mco : Int32) (mey : Bool) (mu1 : Int32) (mu2 : Int32) (mu3 : Int32) (mu4 : Int32) (mwt : Int32) (mmk : Int32) (g_mark : Nat → Int32) (rs0 : Int32) (rs1 : Int32) (rs2 : Int32) (rs3 : (Nat → Int32)) (hfn : (of_Md_mark mhs mmk g_mark) = some (rs0, rs1, rs2, rs3)) : Met l yMd_mark wMd_mark ({ frames := 1, cells := 0, slots := 0, locals := 21 }) (va_Pc [.ref o0] (Wr (dC, dI) cA zz [(o0, .inr (11, [.int mt, .int mkd, .int mbt, .int mrw, .int mhs, .int mco, .int (bI mey), .int mu1, .int mu2, .int mu3, .int mu4, .ref r_lastBit, .ref r_plain, .ref r_mixed, .ref r_chooser, .ref r_own, .ref r_ownCounter, .ref r_tag, .ref r_sum, .ref r_use, .ref r_weight, .ref r_loopTag, .ref r_length, .ref r_count, .ref r_trust, .int mwt, .ref r_waitPlace, .ref r_waitHistory, .ref r_waitSaid, .int mmk, .ref r_mark])), (r_mark, .inl (cA.1, 32, .inl g_mark))])) (va_Qi (fun r9 w9 => r9 = rs0 ∧ w9 = [(o0, .inr (11, [.int rs1, .int mkd, .int mbt, .int mrw, .int mhs, .int mco, .int (bI mey), .int mu1, .int mu2, .int mu3, .int mu4, .ref r_lastBit, .ref r_plain, .ref r_mixed, .ref r_chooser, .ref r_own, .ref r_ownCounter, .ref r_tag, .ref r_sum, .ref r_use, .ref r_weight, .ref r_loopTag, .ref r_length, .ref r_count, .ref r_trust, .int mwt, .ref r_waitPlace, .ref r_waitHistory, .ref r_waitSaid, .int rs2, .ref r_mark])), (r_mark, .inl (cA.1, 32, .inl rs3))]) (At (dC, dI) cA (va_A [(o0, .inr (11, [.int mt, .int mkd, .int mbt, .int mrw, .int mhs, .int mco, .int (bI mey), .int mu1, .int mu2, .int mu3, .int mu4, .ref r_lastBit, .ref r_plain, .ref r_mixed, .ref r_chooser, .ref r_own, .ref r_ownCounter, .ref r_tag, .ref r_sum, .ref r_use, .ref r_weight, .ref r_loopTag, .ref r_length, .ref r_count, .ref r_trust, .int mwt, .ref r_waitPlace, .ref r_waitHistory, .ref r_waitSaid, .int mmk, .ref r_mark])), (r_mark, .inl (cA.1, 32, .inl g_mark))] zz)) (va_A [(o0, .inr (11, [.int mt, .int mkd, .int mbt, .int mrw, .int mhs, .int mco, .int (bI mey), .int mu1, .int mu2, .int mu3, .int mu4, .ref r_lastBit, .ref r_plain, .ref r_mixed, .ref r_chooser, .ref r_own, .ref r_ownCounter, .ref r_tag, .ref r_sum, .ref r_use, .ref r_weight, .ref r_loopTag, .ref r_length, .ref r_count, .ref r_trust, .int mwt, .ref r_waitPlace, .ref r_waitHistory, .ref r_waitSaid, .int mmk, .ref r_mark])), (r_mark, .inl (cA.1, 32, .inl g_mark))] zz)) 0 0 (va_A [(o0, .inr (11, [.int mt, .int mkd, .int mbt, .int mrw, .int mhs, .int mco, .int (bI mey), .int mu1, .int mu2, .int mu3, .int mu4, .ref r_lastBit, .ref r_plain, .ref r_mixed, .ref r_chooser, .ref r_own, .ref r_ownCounter, .ref r_tag, .ref r_sum, .ref r_use, .ref r_weight, .ref r_loopTag, .ref r_length, .ref r_count, .ref r_trust, .int mwt, .ref r_waitPlace, .ref r_waitHistory, .ref r_waitSaid, .int mmk, .ref r_mark])), (r_mark, .inl (cA.1, 32, .inl g_mark))] zz) := by
  refine Met.ofW (cc := cMd_mark) (maxL := 1) (ret := (some .int)) (by decide) rfl ?_
  intro p e s m args below meth c s₁ B hml hv
  obtain ⟨rfl, hsz, hN, hP, hK, hD0⟩ := hv
  have hx := B.exec
  have hb := B.bytes
  have hr := B.returns
  have hts := atoms_spec (ws := wMd_mark) B.pre
  have htg : ∀ w ∈ GW, w.before _ s = true := fun w h => hts w (List.mem_cons_of_mem _ h)
  have hown : s.vm.findClass R_Md = some m.cls := findClass_of_methodNamed B.named
  have hlocks := B.notSynchronized
  subst hsz
  have hD := hD0.self (sz := s.heap.size)
  generalize hAe : va_A [(o0, .inr (11, [.int mt, .int mkd, .int mbt, .int mrw, .int mhs, .int mco, .int (bI mey), .int mu1, .int mu2, .int mu3, .int mu4, .ref r_lastBit, .ref r_plain, .ref r_mixed, .ref r_chooser, .ref r_own, .ref r_ownCounter, .ref r_tag, .ref r_sum, .ref r_use, .ref r_weight, .ref r_loopTag, .ref r_length, .ref r_count, .ref r_trust, .int mwt, .ref r_waitPlace, .ref r_waitHistory, .ref r_waitSaid, .int mmk, .ref r_mark])), (r_mark, .inl (cA.1, 32, .inl g_mark))] s.heap.size = A at hD ⊢
  have hA : ∀ q : Nat, s.heap.size ≤ q → A q := fun q h => by rw [← hAe]; exact Or.inr h
  have hS : va_S A s.heap s.heap [] := va_S.rf
  have hP : va_P (dC, dI) vwCl [(o0, .inr (11, [.int mt, .int mkd, .int mbt, .int mrw, .int mhs, .int mco, .int (bI mey), .int mu1, .int mu2, .int mu3, .int mu4, .ref r_lastBit, .ref r_plain, .ref r_mixed, .ref r_chooser, .ref r_own, .ref r_ownCounter, .ref r_tag, .ref r_sum, .ref r_use, .ref r_weight, .ref r_loopTag, .ref r_length, .ref r_count, .ref r_trust, .int mwt, .ref r_waitPlace, .ref r_waitHistory, .ref r_waitSaid, .int mmk, .ref r_mark])), (r_mark, .inl (cA.1, 32, .inl g_mark))] s.heap := hP
  have hl := lv_entry ([.ref o0]) (n := 1) (Nat.le_of_ble_eq_true rfl)
  rw [lg_entry_eq]
  generalize (lg_sl ([.ref o0]) ++ List.replicate (1 - (lg_sl ([.ref o0])).length) Slot.unset).toArray = ls at hl ⊢
  have hl : lv_has ls 1 [(0, .ref o0)] := hl
  unfold of_Md_mark at hfn
  refine lv_aload_n hx hb dMd_mark_0 rfl (lv_at hl 0 rfl) ?_
  refine lv_iconst (v := 0) hx hb dMd_mark_1 (by decide) ?_
  refine va_put (D := (dC, dI)) (ci := 11) (v := .int 0) (ty := .int) (C := R_Md) (T := T_Md) (N := 31) hx hb htg in_Md ty_Md tk_Md nm_Md hown hK hP hD hS 0 rfl rfl 0 (by decide) (htg _ wd_795) (fun _ h9 => h9) rfl (by decide +kernel) rfl rfl (Nat.le_of_ble_eq_true rfl) dMd_mark_2 (fun H locs hP hD hS => ?_)
  have hP : va_P (dC, dI) vwCl [(o0, .inr (11, [.int 0, .int mkd, .int mbt, .int mrw, .int mhs, .int mco, .int (bI mey), .int mu1, .int mu2, .int mu3, .int mu4, .ref r_lastBit, .ref r_plain, .ref r_mixed, .ref r_chooser, .ref r_own, .ref r_ownCounter, .ref r_tag, .ref r_sum, .ref r_use, .ref r_weight, .ref r_loopTag, .ref r_length, .ref r_count, .ref r_trust, .int mwt, .ref r_waitPlace, .ref r_waitHistory, .ref r_waitSaid, .int mmk, .ref r_mark])), (r_mark, .inl (cA.1, 32, .inl g_mark))] H := hP
  have hD : va_D A [(o0, .inr (11, [.int 0, .int mkd, .int mbt, .int mrw, .int mhs, .int mco, .int (bI mey), .int mu1, .int mu2, .int mu3, .int mu4, .ref r_lastBit, .ref r_plain, .ref r_mixed, .ref r_chooser, .ref r_own, .ref r_ownCounter, .ref r_tag, .ref r_sum, .ref r_use, .ref r_weight, .ref r_loopTag, .ref r_length, .ref r_count, .ref r_trust, .int mwt, .ref r_waitPlace, .ref r_waitHistory, .ref r_waitSaid, .int mmk, .ref r_mark])), (r_mark, .inl (cA.1, 32, .inl g_mark))] := hD
  refine lv_aload_n hx hb dMd_mark_5 rfl (lv_at hl 0 rfl) ?_
  refine va_get (D := (dC, dI)) (ci := 11) (v := .int mmk) (C := R_Md) (T := T_Md) (N := 31) hx hb htg in_Md hown hK hP 0 rfl rfl 29 (by decide) (htg _ wd_824) (fun _ h9 => h9) rfl dMd_mark_6 ?_
  refine lv_bipush (v := 32) hx hb dMd_mark_9 (by decide) ?_
  refine lv_icmp_ne (tgt := 20) hx hb dMd_mark_11 (by decide) (fun c_1 => ?_) (fun c_1 => ?_)
  · rw [if_neg c_1] at hfn
    refine lv_aload_n hx hb dMd_mark_20 rfl (lv_at hl 0 rfl) ?_
    refine va_get (D := (dC, dI)) (ci := 11) (v := .ref r_mark) (C := R_Md) (T := T_Md) (N := 31) hx hb htg in_Md hown hK hP 0 rfl rfl 30 (by decide) (htg _ wd_825) (fun _ h9 => h9) rfl dMd_mark_21 ?_
    refine lv_aload_n hx hb dMd_mark_24 rfl (lv_at hl 0 rfl) ?_
    refine va_get (D := (dC, dI)) (ci := 11) (v := .int mmk) (C := R_Md) (T := T_Md) (N := 31) hx hb htg in_Md hown hK hP 0 rfl rfl 29 (by decide) (htg _ wd_824) (fun _ h9 => h9) rfl dMd_mark_25 ?_
    refine lv_aload_n hx hb dMd_mark_28 rfl (lv_at hl 0 rfl) ?_
    refine va_get (D := (dC, dI)) (ci := 11) (v := .int mhs) (C := R_Md) (T := T_Md) (N := 31) hx hb htg in_Md hown hK hP 0 rfl rfl 4 (by decide) (htg _ wd_799) (fun _ h9 => h9) rfl dMd_mark_29 ?_
    obtain ⟨g_2, hfn⟩ := og hfn
    refine va_iast hx hb hK hP hD hS 1 0 rfl rfl g_2 dMd_mark_32 (fun H locs hP hD hS => ?_)
    have hP : va_P (dC, dI) vwCl [(o0, .inr (11, [.int 0, .int mkd, .int mbt, .int mrw, .int mhs, .int mco, .int (bI mey), .int mu1, .int mu2, .int mu3, .int mu4, .ref r_lastBit, .ref r_plain, .ref r_mixed, .ref r_chooser, .ref r_own, .ref r_ownCounter, .ref r_tag, .ref r_sum, .ref r_use, .ref r_weight, .ref r_loopTag, .ref r_length, .ref r_count, .ref r_trust, .int mwt, .ref r_waitPlace, .ref r_waitHistory, .ref r_waitSaid, .int mmk, .ref r_mark])), (r_mark, .inl (cA.1, 32, .inl (upd g_mark mmk.toNatClampNeg mhs)))] H := hP
    have hD : va_D A [(o0, .inr (11, [.int 0, .int mkd, .int mbt, .int mrw, .int mhs, .int mco, .int (bI mey), .int mu1, .int mu2, .int mu3, .int mu4, .ref r_lastBit, .ref r_plain, .ref r_mixed, .ref r_chooser, .ref r_own, .ref r_ownCounter, .ref r_tag, .ref r_sum, .ref r_use, .ref r_weight, .ref r_loopTag, .ref r_length, .ref r_count, .ref r_trust, .int mwt, .ref r_waitPlace, .ref r_waitHistory, .ref r_waitSaid, .int mmk, .ref r_mark])), (r_mark, .inl (cA.1, 32, .inl (upd g_mark mmk.toNatClampNeg mhs)))] := hD
    refine lv_aload_n hx hb dMd_mark_33 rfl (lv_at hl 0 rfl) ?_
    refine lv_dup hx hb dMd_mark_34 rfl ?_
    refine va_get (D := (dC, dI)) (ci := 11) (v := .int mmk) (C := R_Md) (T := T_Md) (N := 31) hx hb htg in_Md hown hK hP 0 rfl rfl 29 (by decide) (htg _ wd_824) (fun _ h9 => h9) rfl dMd_mark_35 ?_
    refine lv_iconst (v := 1) hx hb dMd_mark_38 (by decide) ?_
    refine lv_iadd hx hb dMd_mark_39 ?_
    refine va_put (D := (dC, dI)) (ci := 11) (v := .int (mmk + 1)) (ty := .int) (C := R_Md) (T := T_Md) (N := 31) hx hb htg in_Md ty_Md tk_Md nm_Md hown hK hP hD hS 0 rfl rfl 29 (by decide) (htg _ wd_824) (fun _ h9 => h9) rfl (by decide +kernel) rfl rfl (Nat.le_of_ble_eq_true rfl) dMd_mark_40 (fun H locs hP hD hS => ?_)
    have hP : va_P (dC, dI) vwCl [(o0, .inr (11, [.int 0, .int mkd, .int mbt, .int mrw, .int mhs, .int mco, .int (bI mey), .int mu1, .int mu2, .int mu3, .int mu4, .ref r_lastBit, .ref r_plain, .ref r_mixed, .ref r_chooser, .ref r_own, .ref r_ownCounter, .ref r_tag, .ref r_sum, .ref r_use, .ref r_weight, .ref r_loopTag, .ref r_length, .ref r_count, .ref r_trust, .int mwt, .ref r_waitPlace, .ref r_waitHistory, .ref r_waitSaid, .int (mmk + 1), .ref r_mark])), (r_mark, .inl (cA.1, 32, .inl (upd g_mark mmk.toNatClampNeg mhs)))] H := hP
    have hD : va_D A [(o0, .inr (11, [.int 0, .int mkd, .int mbt, .int mrw, .int mhs, .int mco, .int (bI mey), .int mu1, .int mu2, .int mu3, .int mu4, .ref r_lastBit, .ref r_plain, .ref r_mixed, .ref r_chooser, .ref r_own, .ref r_ownCounter, .ref r_tag, .ref r_sum, .ref r_use, .ref r_weight, .ref r_loopTag, .ref r_length, .ref r_count, .ref r_trust, .int mwt, .ref r_waitPlace, .ref r_waitHistory, .ref r_waitSaid, .int (mmk + 1), .ref r_mark])), (r_mark, .inl (cA.1, 32, .inl (upd g_mark mmk.toNatClampNeg mhs)))] := hD
    refine lv_aload_n hx hb dMd_mark_43 rfl (lv_at hl 0 rfl) ?_
    refine va_get (D := (dC, dI)) (ci := 11) (v := .int (mmk + 1)) (C := R_Md) (T := T_Md) (N := 31) hx hb htg in_Md hown hK hP 0 rfl rfl 29 (by decide) (htg _ wd_824) (fun _ h9 => h9) rfl dMd_mark_44 ?_
    refine lv_iconst (v := 1) hx hb dMd_mark_47 (by decide) ?_
    refine lv_isub hx hb dMd_mark_48 ?_
    replace hfn := Option.some.inj hfn
    obtain ⟨e9, hf_0⟩ := Prod.mk.inj hfn; clear hfn; subst e9
    obtain ⟨e9, hf_1⟩ := Prod.mk.inj hf_0; clear hf_0; subst e9
    obtain ⟨e9, hf_2⟩ := Prod.mk.inj hf_1; clear hf_1; subst e9
    subst hf_2
    exact W.iret hx hb hr (fun t ht hW => ⟨⟨_, _, rfl, ⟨rfl, rfl⟩, ⟨by rw [ht]; exact hP.sub [0, 1] rfl, va_K.moved hW.alike hK, hD.sub [0, 1] (by decide) rfl⟩⟩, hS.F ht⟩) hS.2.2 dMd_mark_49
  · rw [if_pos c_1] at hfn
    refine lv_aload_n hx hb dMd_mark_14 rfl (lv_at hl 0 rfl) ?_
    refine lv_iconst (v := 1) hx hb dMd_mark_15 (by decide) ?_
    refine wr_Vi (wr := [(r_mark, .inl (cA.1, 32, .inl g_mark))]) (As := [.int 1]) (rest := []) ⟨hx, hb, hml, hown, htg⟩ (c_Md_fail l dC dI cA _ o0 r_lastBit r_plain r_mixed r_chooser r_own r_ownCounter r_tag r_sum r_use r_weight r_loopTag r_length r_count r_trust r_waitPlace r_waitHistory r_waitSaid r_mark 0 mkd mbt mrw mhs mco mey mu1 mu2 mu3 mu4 mwt mmk 1) (cw_V htg wd_1002 ws_36 qMd_fail iMd_fail kMd_fail pMd_fail rfl rfl ⟨Nat.le_of_ble_eq_true rfl, Nat.le_of_ble_eq_true rfl⟩) (va_recv hK hP (ci := 11) (q0 := 0) rfl rfl) hN hP hD hS hA hK [0] [1] rfl rfl (by decide) (by decide) (by decide) rfl hl.1 rfl (Nat.le_of_ble_eq_true rfl) dMd_mark_16 ⟨Nat.le_of_ble_eq_true rfl, Nat.le_of_ble_eq_true rfl⟩ (fun H locs hP hD hS => ?_)
    have hP : va_P (dC, dI) vwCl [(r_mark, .inl (cA.1, 32, .inl g_mark)), (o0, .inr (11, [.int ((tf_Md_fail 1).2), .int mkd, .int mbt, .int mrw, .int mhs, .int mco, .int (bI mey), .int mu1, .int mu2, .int mu3, .int mu4, .ref r_lastBit, .ref r_plain, .ref r_mixed, .ref r_chooser, .ref r_own, .ref r_ownCounter, .ref r_tag, .ref r_sum, .ref r_use, .ref r_weight, .ref r_loopTag, .ref r_length, .ref r_count, .ref r_trust, .int mwt, .ref r_waitPlace, .ref r_waitHistory, .ref r_waitSaid, .int mmk, .ref r_mark]))] H := hP
    have hD : va_D A [(r_mark, .inl (cA.1, 32, .inl g_mark)), (o0, .inr (11, [.int ((tf_Md_fail 1).2), .int mkd, .int mbt, .int mrw, .int mhs, .int mco, .int (bI mey), .int mu1, .int mu2, .int mu3, .int mu4, .ref r_lastBit, .ref r_plain, .ref r_mixed, .ref r_chooser, .ref r_own, .ref r_ownCounter, .ref r_tag, .ref r_sum, .ref r_use, .ref r_weight, .ref r_loopTag, .ref r_length, .ref r_count, .ref r_trust, .int mwt, .ref r_waitPlace, .ref r_waitHistory, .ref r_waitSaid, .int mmk, .ref r_mark]))] := hD
    replace hfn := Option.some.inj hfn
    obtain ⟨e9, hf_0⟩ := Prod.mk.inj hfn; clear hfn; subst e9
    obtain ⟨e9, hf_1⟩ := Prod.mk.inj hf_0; clear hf_0; subst e9
    obtain ⟨e9, hf_2⟩ := Prod.mk.inj hf_1; clear hf_1; subst e9
    subst hf_2
    exact W.iret hx hb hr (fun t ht hW => ⟨⟨_, _, rfl, ⟨rfl, rfl⟩, ⟨by rw [ht]; exact hP.sub [1, 0] rfl, va_K.moved hW.alike hK, hD.sub [1, 0] (by decide) rfl⟩⟩, hS.F ht⟩) hS.2.2 dMd_mark_19
def of_Md_repair_b17 (mhs : Int32) (mwt : Int32) (mmk : Int32) : Option (Int32 × Int32 × Int32 × Int32 × Int32) := some (((tf_Md_fail 1).1), ((tf_Md_fail 1).2), mwt, mmk, mhs)
def of_Md_repair (mhs : Int32) (mwt : Int32) (mmk : Int32) (g_mark : Nat → Int32) (i0 : Int32) : Option (Int32 × Int32 × Int32 × Int32 × Int32) := (if i0 < 0 then of_Md_repair_b17 mhs mwt mmk else (if i0 < mmk then (if i0 < 0 ∨ 32 ≤ i0.toNatClampNeg then none else some (mhs, 0, 0, (i0 + 1), (g_mark i0.toNatClampNeg))) else of_Md_repair_b17 mhs mwt mmk))
set_option maxHeartbeats 4000000 in
set_option maxRecDepth 100000 in
theorem c_Md_repair (l : Launch) (dC : Nat → ClassId) (dI : Nat → Nat → Nat) (cA : ClassId × ClassId × ClassId) (zz : Nat) (o0 : Nat) (r_mark : Nat) (r_lastBit : Nat) (r_plain : Nat) (r_mixed : Nat) (r_chooser : Nat) (r_own : Nat) (r_ownCounter : Nat) (r_tag : Nat) (r_sum : Nat) (r_use : Nat) (r_weight : Nat) (r_loopTag : Nat) (r_length : Nat) (r_count : Nat) (r_trust : Nat) (r_waitPlace : Nat) (r_waitHistory : Nat) (r_waitSaid : Nat) (mt : Int32) (mkd : Int32) (mbt : Int32) (mrw : Int32) (mhs : Int32) (mco : Int32) (mey : Bool) (mu1 : Int32) (mu2 : Int32) (mu3 : Int32) (mu4 : Int32) (mwt : Int32) (mmk : Int32) (g_mark : Nat → Int32) (i0 : Int32) (rs0 : Int32) (rs1 : Int32) (rs2 : Int32) (rs3 : Int32) (rs4 : Int32) (hfn : (of_Md_repair mhs mwt mmk g_mark i0) = some (rs0, rs1, rs2, rs3, rs4)) : Met l yMd_repair wMd_repair ({ frames := 1, cells := 0, slots := 0, locals := 21 }) (va_Pc [.ref o0, .int i0] (Wr (dC, dI) cA zz [(o0, .inr (11, [.int mt, .int mkd, .int mbt, .int mrw, .int mhs, .int mco, .int (bI mey), .int mu1, .int mu2, .int mu3, .int mu4, .ref r_lastBit, .ref r_plain, .ref r_mixed, .ref r_chooser, .ref r_own, .ref r_ownCounter, .ref r_tag, .ref r_sum, .ref r_use, .ref r_weight, .ref r_loopTag, .ref r_length, .ref r_count, .ref r_trust, .int mwt, .ref r_waitPlace, .ref r_waitHistory, .ref r_waitSaid, .int mmk, .ref r_mark])), (r_mark, .inl (cA.1, 32, .inl g_mark))])) (va_Qi (fun r9 w9 => r9 = rs0 ∧ w9 = [(o0, .inr (11, [.int rs1, .int mkd, .int mbt, .int mrw, .int rs4, .int mco, .int (bI mey), .int mu1, .int mu2, .int mu3, .int mu4, .ref r_lastBit, .ref r_plain, .ref r_mixed, .ref r_chooser, .ref r_own, .ref r_ownCounter, .ref r_tag, .ref r_sum, .ref r_use, .ref r_weight, .ref r_loopTag, .ref r_length, .ref r_count, .ref r_trust, .int rs2, .ref r_waitPlace, .ref r_waitHistory, .ref r_waitSaid, .int rs3, .ref r_mark])), (r_mark, .inl (cA.1, 32, .inl g_mark))]) (At (dC, dI) cA (va_A [(o0, .inr (11, [.int mt, .int mkd, .int mbt, .int mrw, .int mhs, .int mco, .int (bI mey), .int mu1, .int mu2, .int mu3, .int mu4, .ref r_lastBit, .ref r_plain, .ref r_mixed, .ref r_chooser, .ref r_own, .ref r_ownCounter, .ref r_tag, .ref r_sum, .ref r_use, .ref r_weight, .ref r_loopTag, .ref r_length, .ref r_count, .ref r_trust, .int mwt, .ref r_waitPlace, .ref r_waitHistory, .ref r_waitSaid, .int mmk, .ref r_mark])), (r_mark, .inl (cA.1, 32, .inl g_mark))] zz)) (va_A [(o0, .inr (11, [.int mt, .int mkd, .int mbt, .int mrw, .int mhs, .int mco, .int (bI mey), .int mu1, .int mu2, .int mu3, .int mu4, .ref r_lastBit, .ref r_plain, .ref r_mixed, .ref r_chooser, .ref r_own, .ref r_ownCounter, .ref r_tag, .ref r_sum, .ref r_use, .ref r_weight, .ref r_loopTag, .ref r_length, .ref r_count, .ref r_trust, .int mwt, .ref r_waitPlace, .ref r_waitHistory, .ref r_waitSaid, .int mmk, .ref r_mark])), (r_mark, .inl (cA.1, 32, .inl g_mark))] zz)) 0 0 (va_A [(o0, .inr (11, [.int mt, .int mkd, .int mbt, .int mrw, .int mhs, .int mco, .int (bI mey), .int mu1, .int mu2, .int mu3, .int mu4, .ref r_lastBit, .ref r_plain, .ref r_mixed, .ref r_chooser, .ref r_own, .ref r_ownCounter, .ref r_tag, .ref r_sum, .ref r_use, .ref r_weight, .ref r_loopTag, .ref r_length, .ref r_count, .ref r_trust, .int mwt, .ref r_waitPlace, .ref r_waitHistory, .ref r_waitSaid, .int mmk, .ref r_mark])), (r_mark, .inl (cA.1, 32, .inl g_mark))] zz) := by
  refine Met.ofW (cc := cMd_repair) (maxL := 3) (ret := (some .int)) (by decide) rfl ?_
  intro p e s m args below meth c s₁ B hml hv
  obtain ⟨rfl, hsz, hN, hP, hK, hD0⟩ := hv
  have hx := B.exec
  have hb := B.bytes
  have hr := B.returns
  have hts := atoms_spec (ws := wMd_repair) B.pre
  have htg : ∀ w ∈ GW, w.before _ s = true := fun w h => hts w (List.mem_cons_of_mem _ h)
  have hown : s.vm.findClass R_Md = some m.cls := findClass_of_methodNamed B.named
  have hlocks := B.notSynchronized
  subst hsz
  have hD := hD0.self (sz := s.heap.size)
  generalize hAe : va_A [(o0, .inr (11, [.int mt, .int mkd, .int mbt, .int mrw, .int mhs, .int mco, .int (bI mey), .int mu1, .int mu2, .int mu3, .int mu4, .ref r_lastBit, .ref r_plain, .ref r_mixed, .ref r_chooser, .ref r_own, .ref r_ownCounter, .ref r_tag, .ref r_sum, .ref r_use, .ref r_weight, .ref r_loopTag, .ref r_length, .ref r_count, .ref r_trust, .int mwt, .ref r_waitPlace, .ref r_waitHistory, .ref r_waitSaid, .int mmk, .ref r_mark])), (r_mark, .inl (cA.1, 32, .inl g_mark))] s.heap.size = A at hD ⊢
  have hA : ∀ q : Nat, s.heap.size ≤ q → A q := fun q h => by rw [← hAe]; exact Or.inr h
  have hS : va_S A s.heap s.heap [] := va_S.rf
  have hP : va_P (dC, dI) vwCl [(o0, .inr (11, [.int mt, .int mkd, .int mbt, .int mrw, .int mhs, .int mco, .int (bI mey), .int mu1, .int mu2, .int mu3, .int mu4, .ref r_lastBit, .ref r_plain, .ref r_mixed, .ref r_chooser, .ref r_own, .ref r_ownCounter, .ref r_tag, .ref r_sum, .ref r_use, .ref r_weight, .ref r_loopTag, .ref r_length, .ref r_count, .ref r_trust, .int mwt, .ref r_waitPlace, .ref r_waitHistory, .ref r_waitSaid, .int mmk, .ref r_mark])), (r_mark, .inl (cA.1, 32, .inl g_mark))] s.heap := hP
  have blk17 : ∀ (rs0 : Int32) (rs1 : Int32) (rs2 : Int32) (rs3 : Int32) (rs4 : Int32) (H : Heap) (locs : List Loc) (ls : Array Slot), of_Md_repair_b17 mhs mwt mmk = some (rs0, rs1, rs2, rs3, rs4) → va_P (dC, dI) vwCl [(o0, .inr (11, [.int 0, .int mkd, .int mbt, .int mrw, .int mhs, .int mco, .int (bI mey), .int mu1, .int mu2, .int mu3, .int mu4, .ref r_lastBit, .ref r_plain, .ref r_mixed, .ref r_chooser, .ref r_own, .ref r_ownCounter, .ref r_tag, .ref r_sum, .ref r_use, .ref r_weight, .ref r_loopTag, .ref r_length, .ref r_count, .ref r_trust, .int mwt, .ref r_waitPlace, .ref r_waitHistory, .ref r_waitSaid, .int mmk, .ref r_mark])), (r_mark, .inl (cA.1, 32, .inl g_mark))] H → va_D A [(o0, .inr (11, [.int 0, .int mkd, .int mbt, .int mrw, .int mhs, .int mco, .int (bI mey), .int mu1, .int mu2, .int mu3, .int mu4, .ref r_lastBit, .ref r_plain, .ref r_mixed, .ref r_chooser, .ref r_own, .ref r_ownCounter, .ref r_tag, .ref r_sum, .ref r_use, .ref r_weight, .ref r_loopTag, .ref r_length, .ref r_count, .ref r_trust, .int mwt, .ref r_waitPlace, .ref r_waitHistory, .ref r_waitSaid, .int mmk, .ref r_mark])), (r_mark, .inl (cA.1, 32, .inl g_mark))] → va_S A s.heap H locs → lv_has ls 3 [(0, .ref o0)] → W p l e (headSpec wMd_repair ({ frames := 1, cells := 0, slots := 0, locals := 21 })).room s m ([.ref o0, .int i0] : List Value).toArray below meth c H locs 0 0 (MQ below (va_Qi (fun r9 w9 => r9 = rs0 ∧ w9 = [(o0, .inr (11, [.int rs1, .int mkd, .int mbt, .int mrw, .int rs4, .int mco, .int (bI mey), .int mu1, .int mu2, .int mu3, .int mu4, .ref r_lastBit, .ref r_plain, .ref r_mixed, .ref r_chooser, .ref r_own, .ref r_ownCounter, .ref r_tag, .ref r_sum, .ref r_use, .ref r_weight, .ref r_loopTag, .ref r_length, .ref r_count, .ref r_trust, .int rs2, .ref r_waitPlace, .ref r_waitHistory, .ref r_waitSaid, .int rs3, .ref r_mark])), (r_mark, .inl (cA.1, 32, .inl g_mark))]) (At (dC, dI) cA A) A) ([.ref o0, .int i0] : List Value).toArray s 0 0 A) (F0 m 17 ls []) := by
    intro rs0 rs1 rs2 rs3 rs4 H locs ls hfn hP hD hS hl
    unfold of_Md_repair_b17 at hfn
    refine lv_aload_n hx hb dMd_repair_17 rfl (lv_at hl 0 rfl) ?_
    refine lv_iconst (v := 1) hx hb dMd_repair_18 (by decide) ?_
    refine wr_Vi (wr := [(r_mark, .inl (cA.1, 32, .inl g_mark))]) (As := [.int 1]) (rest := []) ⟨hx, hb, hml, hown, htg⟩ (c_Md_fail l dC dI cA _ o0 r_lastBit r_plain r_mixed r_chooser r_own r_ownCounter r_tag r_sum r_use r_weight r_loopTag r_length r_count r_trust r_waitPlace r_waitHistory r_waitSaid r_mark 0 mkd mbt mrw mhs mco mey mu1 mu2 mu3 mu4 mwt mmk 1) (cw_V htg wd_1002 ws_36 qMd_fail iMd_fail kMd_fail pMd_fail rfl rfl ⟨Nat.le_of_ble_eq_true rfl, Nat.le_of_ble_eq_true rfl⟩) (va_recv hK hP (ci := 11) (q0 := 0) rfl rfl) hN hP hD hS hA hK [0] [1] rfl rfl (by decide) (by decide) (by decide) rfl hl.1 rfl (Nat.le_of_ble_eq_true rfl) dMd_repair_19 ⟨Nat.le_of_ble_eq_true rfl, Nat.le_of_ble_eq_true rfl⟩ (fun H locs hP hD hS => ?_)
    have hP : va_P (dC, dI) vwCl [(r_mark, .inl (cA.1, 32, .inl g_mark)), (o0, .inr (11, [.int ((tf_Md_fail 1).2), .int mkd, .int mbt, .int mrw, .int mhs, .int mco, .int (bI mey), .int mu1, .int mu2, .int mu3, .int mu4, .ref r_lastBit, .ref r_plain, .ref r_mixed, .ref r_chooser, .ref r_own, .ref r_ownCounter, .ref r_tag, .ref r_sum, .ref r_use, .ref r_weight, .ref r_loopTag, .ref r_length, .ref r_count, .ref r_trust, .int mwt, .ref r_waitPlace, .ref r_waitHistory, .ref r_waitSaid, .int mmk, .ref r_mark]))] H := hP
    have hD : va_D A [(r_mark, .inl (cA.1, 32, .inl g_mark)), (o0, .inr (11, [.int ((tf_Md_fail 1).2), .int mkd, .int mbt, .int mrw, .int mhs, .int mco, .int (bI mey), .int mu1, .int mu2, .int mu3, .int mu4, .ref r_lastBit, .ref r_plain, .ref r_mixed, .ref r_chooser, .ref r_own, .ref r_ownCounter, .ref r_tag, .ref r_sum, .ref r_use, .ref r_weight, .ref r_loopTag, .ref r_length, .ref r_count, .ref r_trust, .int mwt, .ref r_waitPlace, .ref r_waitHistory, .ref r_waitSaid, .int mmk, .ref r_mark]))] := hD
    replace hfn := Option.some.inj hfn
    obtain ⟨e9, hf_0⟩ := Prod.mk.inj hfn; clear hfn; subst e9
    obtain ⟨e9, hf_1⟩ := Prod.mk.inj hf_0; clear hf_0; subst e9
    obtain ⟨e9, hf_2⟩ := Prod.mk.inj hf_1; clear hf_1; subst e9
    obtain ⟨e9, hf_3⟩ := Prod.mk.inj hf_2; clear hf_2; subst e9
    subst hf_3
    exact W.iret hx hb hr (fun t ht hW => ⟨⟨_, _, rfl, ⟨rfl, rfl⟩, ⟨by rw [ht]; exact hP.sub [1, 0] rfl, va_K.moved hW.alike hK, hD.sub [1, 0] (by decide) rfl⟩⟩, hS.F ht⟩) hS.2.2 dMd_repair_22
  have hl := lv_entry ([.ref o0, .int i0]) (n := 3) (Nat.le_of_ble_eq_true rfl)
  rw [lg_entry_eq]
  generalize (lg_sl ([.ref o0, .int i0]) ++ List.replicate (3 - (lg_sl ([.ref o0, .int i0])).length) Slot.unset).toArray = ls at hl ⊢
  have hl : lv_has ls 3 [(0, .ref o0), (1, .int i0)] := hl
  unfold of_Md_repair at hfn
  refine lv_aload_n hx hb dMd_repair_0 rfl (lv_at hl 0 rfl) ?_
  refine lv_iconst (v := 0) hx hb dMd_repair_1 (by decide) ?_
  refine va_put (D := (dC, dI)) (ci := 11) (v := .int 0) (ty := .int) (C := R_Md) (T := T_Md) (N := 31) hx hb htg in_Md ty_Md tk_Md nm_Md hown hK hP hD hS 0 rfl rfl 0 (by decide) (htg _ wd_795) (fun _ h9 => h9) rfl (by decide +kernel) rfl rfl (Nat.le_of_ble_eq_true rfl) dMd_repair_2 (fun H locs hP hD hS => ?_)
  have hP : va_P (dC, dI) vwCl [(o0, .inr (11, [.int 0, .int mkd, .int mbt, .int mrw, .int mhs, .int mco, .int (bI mey), .int mu1, .int mu2, .int mu3, .int mu4, .ref r_lastBit, .ref r_plain, .ref r_mixed, .ref r_chooser, .ref r_own, .ref r_ownCounter, .ref r_tag, .ref r_sum, .ref r_use, .ref r_weight, .ref r_loopTag, .ref r_length, .ref r_count, .ref r_trust, .int mwt, .ref r_waitPlace, .ref r_waitHistory, .ref r_waitSaid, .int mmk, .ref r_mark])), (r_mark, .inl (cA.1, 32, .inl g_mark))] H := hP
  have hD : va_D A [(o0, .inr (11, [.int 0, .int mkd, .int mbt, .int mrw, .int mhs, .int mco, .int (bI mey), .int mu1, .int mu2, .int mu3, .int mu4, .ref r_lastBit, .ref r_plain, .ref r_mixed, .ref r_chooser, .ref r_own, .ref r_ownCounter, .ref r_tag, .ref r_sum, .ref r_use, .ref r_weight, .ref r_loopTag, .ref r_length, .ref r_count, .ref r_trust, .int mwt, .ref r_waitPlace, .ref r_waitHistory, .ref r_waitSaid, .int mmk, .ref r_mark])), (r_mark, .inl (cA.1, 32, .inl g_mark))] := hD
  refine lv_iload_n hx hb dMd_repair_5 rfl (lv_at hl 1 rfl) ?_
  refine lv_if_lt (tgt := 17) hx hb dMd_repair_6 (by decide) (fun c_1 => ?_) (fun c_1 => ?_)
  · rw [if_pos c_1] at hfn
    exact blk17 _ _ _ _ _ _ _ ls hfn (hP.sub [0, 1] rfl) (hD.sub [0, 1] (by decide) rfl) hS (lv_sub hl [0] rfl)
  · rw [if_neg c_1] at hfn
    refine lv_iload_n hx hb dMd_repair_9 rfl (lv_at hl 1 rfl) ?_
    refine lv_aload_n hx hb dMd_repair_10 rfl (lv_at hl 0 rfl) ?_
    refine va_get (D := (dC, dI)) (ci := 11) (v := .int mmk) (C := R_Md) (T := T_Md) (N := 31) hx hb htg in_Md hown hK hP 0 rfl rfl 29 (by decide) (htg _ wd_824) (fun _ h9 => h9) rfl dMd_repair_11 ?_
    refine lv_icmp_lt (tgt := 23) hx hb dMd_repair_14 (by decide) (fun c_2 => ?_) (fun c_2 => ?_)
    · rw [if_pos c_2] at hfn
      refine lv_aload_n hx hb dMd_repair_23 rfl (lv_at hl 0 rfl) ?_
      refine va_get (D := (dC, dI)) (ci := 11) (v := .int mhs) (C := R_Md) (T := T_Md) (N := 31) hx hb htg in_Md hown hK hP 0 rfl rfl 4 (by decide) (htg _ wd_799) (fun _ h9 => h9) rfl dMd_repair_24 ?_
      refine lv_istore_n (lv' := [(2, .int mhs), (0, .ref o0), (1, .int i0)]) hx hb dMd_repair_27 rfl hl (by decide) rfl (fun ls hl => ?_)
      refine lv_aload_n hx hb dMd_repair_28 rfl (lv_at hl 1 rfl) ?_
      refine lv_aload_n hx hb dMd_repair_29 rfl (lv_at hl 1 rfl) ?_
      refine va_get (D := (dC, dI)) (ci := 11) (v := .ref r_mark) (C := R_Md) (T := T_Md) (N := 31) hx hb htg in_Md hown hK hP 0 rfl rfl 30 (by decide) (htg _ wd_825) (fun _ h9 => h9) rfl dMd_repair_30 ?_
      refine lv_iload_n hx hb dMd_repair_33 rfl (lv_at hl 2 rfl) ?_
      obtain ⟨g_3, hfn⟩ := og hfn
      refine va_iald hx hb hK hP 1 0 rfl rfl g_3 dMd_repair_34 ?_
      refine va_put (D := (dC, dI)) (ci := 11) (v := .int (g_mark i0.toNatClampNeg)) (ty := .int) (C := R_Md) (T := T_Md) (N := 31) hx hb htg in_Md ty_Md tk_Md nm_Md hown hK hP hD hS 0 rfl rfl 4 (by decide) (htg _ wd_799) (fun _ h9 => h9) rfl (by decide +kernel) rfl rfl (Nat.le_of_ble_eq_true rfl) dMd_repair_35 (fun H locs hP hD hS => ?_)
      have hP : va_P (dC, dI) vwCl [(o0, .inr (11, [.int 0, .int mkd, .int mbt, .int mrw, .int (g_mark i0.toNatClampNeg), .int mco, .int (bI mey), .int mu1, .int mu2, .int mu3, .int mu4, .ref r_lastBit, .ref r_plain, .ref r_mixed, .ref r_chooser, .ref r_own, .ref r_ownCounter, .ref r_tag, .ref r_sum, .ref r_use, .ref r_weight, .ref r_loopTag, .ref r_length, .ref r_count, .ref r_trust, .int mwt, .ref r_waitPlace, .ref r_waitHistory, .ref r_waitSaid, .int mmk, .ref r_mark])), (r_mark, .inl (cA.1, 32, .inl g_mark))] H := hP
      have hD : va_D A [(o0, .inr (11, [.int 0, .int mkd, .int mbt, .int mrw, .int (g_mark i0.toNatClampNeg), .int mco, .int (bI mey), .int mu1, .int mu2, .int mu3, .int mu4, .ref r_lastBit, .ref r_plain, .ref r_mixed, .ref r_chooser, .ref r_own, .ref r_ownCounter, .ref r_tag, .ref r_sum, .ref r_use, .ref r_weight, .ref r_loopTag, .ref r_length, .ref r_count, .ref r_trust, .int mwt, .ref r_waitPlace, .ref r_waitHistory, .ref r_waitSaid, .int mmk, .ref r_mark])), (r_mark, .inl (cA.1, 32, .inl g_mark))] := hD
      refine lv_aload_n hx hb dMd_repair_38 rfl (lv_at hl 1 rfl) ?_
      refine lv_iload_n hx hb dMd_repair_39 rfl (lv_at hl 2 rfl) ?_
      refine lv_iconst (v := 1) hx hb dMd_repair_40 (by decide) ?_
      refine lv_iadd hx hb dMd_repair_41 ?_
      refine va_put (D := (dC, dI)) (ci := 11) (v := .int (i0 + 1)) (ty := .int) (C := R_Md) (T := T_Md) (N := 31) hx hb htg in_Md ty_Md tk_Md nm_Md hown hK hP hD hS 0 rfl rfl 29 (by decide) (htg _ wd_824) (fun _ h9 => h9) rfl (by decide +kernel) rfl rfl (Nat.le_of_ble_eq_true rfl) dMd_repair_42 (fun H locs hP hD hS => ?_)
      have hP : va_P (dC, dI) vwCl [(o0, .inr (11, [.int 0, .int mkd, .int mbt, .int mrw, .int (g_mark i0.toNatClampNeg), .int mco, .int (bI mey), .int mu1, .int mu2, .int mu3, .int mu4, .ref r_lastBit, .ref r_plain, .ref r_mixed, .ref r_chooser, .ref r_own, .ref r_ownCounter, .ref r_tag, .ref r_sum, .ref r_use, .ref r_weight, .ref r_loopTag, .ref r_length, .ref r_count, .ref r_trust, .int mwt, .ref r_waitPlace, .ref r_waitHistory, .ref r_waitSaid, .int (i0 + 1), .ref r_mark])), (r_mark, .inl (cA.1, 32, .inl g_mark))] H := hP
      have hD : va_D A [(o0, .inr (11, [.int 0, .int mkd, .int mbt, .int mrw, .int (g_mark i0.toNatClampNeg), .int mco, .int (bI mey), .int mu1, .int mu2, .int mu3, .int mu4, .ref r_lastBit, .ref r_plain, .ref r_mixed, .ref r_chooser, .ref r_own, .ref r_ownCounter, .ref r_tag, .ref r_sum, .ref r_use, .ref r_weight, .ref r_loopTag, .ref r_length, .ref r_count, .ref r_trust, .int mwt, .ref r_waitPlace, .ref r_waitHistory, .ref r_waitSaid, .int (i0 + 1), .ref r_mark])), (r_mark, .inl (cA.1, 32, .inl g_mark))] := hD
      refine lv_aload_n hx hb dMd_repair_45 rfl (lv_at hl 1 rfl) ?_
      refine lv_iconst (v := 0) hx hb dMd_repair_46 (by decide) ?_
      refine va_put (D := (dC, dI)) (ci := 11) (v := .int 0) (ty := .int) (C := R_Md) (T := T_Md) (N := 31) hx hb htg in_Md ty_Md tk_Md nm_Md hown hK hP hD hS 0 rfl rfl 25 (by decide) (htg _ wd_820) (fun _ h9 => h9) rfl (by decide +kernel) rfl rfl (Nat.le_of_ble_eq_true rfl) dMd_repair_47 (fun H locs hP hD hS => ?_)
      have hP : va_P (dC, dI) vwCl [(o0, .inr (11, [.int 0, .int mkd, .int mbt, .int mrw, .int (g_mark i0.toNatClampNeg), .int mco, .int (bI mey), .int mu1, .int mu2, .int mu3, .int mu4, .ref r_lastBit, .ref r_plain, .ref r_mixed, .ref r_chooser, .ref r_own, .ref r_ownCounter, .ref r_tag, .ref r_sum, .ref r_use, .ref r_weight, .ref r_loopTag, .ref r_length, .ref r_count, .ref r_trust, .int 0, .ref r_waitPlace, .ref r_waitHistory, .ref r_waitSaid, .int (i0 + 1), .ref r_mark])), (r_mark, .inl (cA.1, 32, .inl g_mark))] H := hP
      have hD : va_D A [(o0, .inr (11, [.int 0, .int mkd, .int mbt, .int mrw, .int (g_mark i0.toNatClampNeg), .int mco, .int (bI mey), .int mu1, .int mu2, .int mu3, .int mu4, .ref r_lastBit, .ref r_plain, .ref r_mixed, .ref r_chooser, .ref r_own, .ref r_ownCounter, .ref r_tag, .ref r_sum, .ref r_use, .ref r_weight, .ref r_loopTag, .ref r_length, .ref r_count, .ref r_trust, .int 0, .ref r_waitPlace, .ref r_waitHistory, .ref r_waitSaid, .int (i0 + 1), .ref r_mark])), (r_mark, .inl (cA.1, 32, .inl g_mark))] := hD
      refine lv_iload_n hx hb dMd_repair_50 rfl (lv_at hl 0 rfl) ?_
      replace hfn := Option.some.inj hfn
      obtain ⟨e9, hf_0⟩ := Prod.mk.inj hfn; clear hfn; subst e9
      obtain ⟨e9, hf_1⟩ := Prod.mk.inj hf_0; clear hf_0; subst e9
      obtain ⟨e9, hf_2⟩ := Prod.mk.inj hf_1; clear hf_1; subst e9
      obtain ⟨e9, hf_3⟩ := Prod.mk.inj hf_2; clear hf_2; subst e9
      subst hf_3
      exact W.iret hx hb hr (fun t ht hW => ⟨⟨_, _, rfl, ⟨rfl, rfl⟩, ⟨by rw [ht]; exact hP.sub [0, 1] rfl, va_K.moved hW.alike hK, hD.sub [0, 1] (by decide) rfl⟩⟩, hS.F ht⟩) hS.2.2 dMd_repair_51
    · rw [if_neg c_2] at hfn
      exact blk17 _ _ _ _ _ _ _ ls hfn (hP.sub [0, 1] rfl) (hD.sub [0, 1] (by decide) rfl) hS (lv_sub hl [0] rfl)
def tf_Md_count (mkd : Int32) (mbt : Int32) (mu1 : Int32) (mu2 : Int32) (mu3 : Int32) (mu4 : Int32) (mwt : Int32) (mmk : Int32) (wh : Int32) : Int32 × Int32 := (if wh = 0 then (mu1, 0) else (if wh = 1 then (mu2, 0) else (if wh = 2 then (mu3, 0) else (if wh = 3 then (mwt, 0) else (if wh = 4 then (mmk, 0) else (if wh = 5 then (mu4, 0) else (if wh = 6 then (mkd, 0) else (if wh = 7 then (mbt, 0) else ((-1), 0)))))))))
set_option maxHeartbeats 4000000 in
set_option maxRecDepth 100000 in
theorem c_Md_count (l : Launch) (dC : Nat → ClassId) (dI : Nat → Nat → Nat) (cA : ClassId × ClassId × ClassId) (zz : Nat) (o0 : Nat) (r_lastBit : Nat) (r_plain : Nat) (r_mixed : Nat) (r_chooser : Nat) (r_own : Nat) (r_ownCounter : Nat) (r_tag : Nat) (r_sum : Nat) (r_use : Nat) (r_weight : Nat) (r_loopTag : Nat) (r_length : Nat) (r_count : Nat) (r_trust : Nat) (r_waitPlace : Nat) (r_waitHistory : Nat) (r_waitSaid : Nat) (r_mark : Nat) (mt : Int32) (mkd : Int32) (mbt : Int32) (mrw : Int32) (mhs : Int32) (mco : Int32) (mey : Bool) (mu1 : Int32) (mu2 : Int32) (mu3 : Int32) (mu4 : Int32) (mwt : Int32) (mmk : Int32) (wh : Int32) : Met l yMd_count wMd_count ({ frames := 0, cells := 0, slots := 0, locals := 0 }) (va_Pc [.ref o0, .int wh] (Wr (dC, dI) cA zz [(o0, .inr (11, [.int mt, .int mkd, .int mbt, .int mrw, .int mhs, .int mco, .int (bI mey), .int mu1, .int mu2, .int mu3, .int mu4, .ref r_lastBit, .ref r_plain, .ref r_mixed, .ref r_chooser, .ref r_own, .ref r_ownCounter, .ref r_tag, .ref r_sum, .ref r_use, .ref r_weight, .ref r_loopTag, .ref r_length, .ref r_count, .ref r_trust, .int mwt, .ref r_waitPlace, .ref r_waitHistory, .ref r_waitSaid, .int mmk, .ref r_mark]))])) (va_Qi (fun r9 w9 => r9 = (tf_Md_count mkd mbt mu1 mu2 mu3 mu4 mwt mmk wh).1 ∧ w9 = [(o0, .inr (11, [.int ((tf_Md_count mkd mbt mu1 mu2 mu3 mu4 mwt mmk wh).2), .int mkd, .int mbt, .int mrw, .int mhs, .int mco, .int (bI mey), .int mu1, .int mu2, .int mu3, .int mu4, .ref r_lastBit, .ref r_plain, .ref r_mixed, .ref r_chooser, .ref r_own, .ref r_ownCounter, .ref r_tag, .ref r_sum, .ref r_use, .ref r_weight, .ref r_loopTag, .ref r_length, .ref r_count, .ref r_trust, .int mwt, .ref r_waitPlace, .ref r_waitHistory, .ref r_waitSaid, .int mmk, .ref r_mark]))]) (At (dC, dI) cA (va_A [(o0, .inr (11, [.int mt, .int mkd, .int mbt, .int mrw, .int mhs, .int mco, .int (bI mey), .int mu1, .int mu2, .int mu3, .int mu4, .ref r_lastBit, .ref r_plain, .ref r_mixed, .ref r_chooser, .ref r_own, .ref r_ownCounter, .ref r_tag, .ref r_sum, .ref r_use, .ref r_weight, .ref r_loopTag, .ref r_length, .ref r_count, .ref r_trust, .int mwt, .ref r_waitPlace, .ref r_waitHistory, .ref r_waitSaid, .int mmk, .ref r_mark]))] zz)) (va_A [(o0, .inr (11, [.int mt, .int mkd, .int mbt, .int mrw, .int mhs, .int mco, .int (bI mey), .int mu1, .int mu2, .int mu3, .int mu4, .ref r_lastBit, .ref r_plain, .ref r_mixed, .ref r_chooser, .ref r_own, .ref r_ownCounter, .ref r_tag, .ref r_sum, .ref r_use, .ref r_weight, .ref r_loopTag, .ref r_length, .ref r_count, .ref r_trust, .int mwt, .ref r_waitPlace, .ref r_waitHistory, .ref r_waitSaid, .int mmk, .ref r_mark]))] zz)) 0 0 (va_A [(o0, .inr (11, [.int mt, .int mkd, .int mbt, .int mrw, .int mhs, .int mco, .int (bI mey), .int mu1, .int mu2, .int mu3, .int mu4, .ref r_lastBit, .ref r_plain, .ref r_mixed, .ref r_chooser, .ref r_own, .ref r_ownCounter, .ref r_tag, .ref r_sum, .ref r_use, .ref r_weight, .ref r_loopTag, .ref r_length, .ref r_count, .ref r_trust, .int mwt, .ref r_waitPlace, .ref r_waitHistory, .ref r_waitSaid, .int mmk, .ref r_mark]))] zz) := by
  refine Met.ofW (cc := cMd_count) (maxL := 2) (ret := (some .int)) (by decide) rfl ?_
  intro p e s m args below meth c s₁ B hml hv
  obtain ⟨rfl, hsz, hN, hP, hK, hD0⟩ := hv
  have hx := B.exec
  have hb := B.bytes
  have hr := B.returns
  have hts := atoms_spec (ws := wMd_count) B.pre
  have htg : ∀ w ∈ GW, w.before _ s = true := fun w h => hts w (List.mem_cons_of_mem _ h)
  have hown : s.vm.findClass R_Md = some m.cls := findClass_of_methodNamed B.named
  have hlocks := B.notSynchronized
  subst hsz
  have hD := hD0.self (sz := s.heap.size)
  generalize hAe : va_A [(o0, .inr (11, [.int mt, .int mkd, .int mbt, .int mrw, .int mhs, .int mco, .int (bI mey), .int mu1, .int mu2, .int mu3, .int mu4, .ref r_lastBit, .ref r_plain, .ref r_mixed, .ref r_chooser, .ref r_own, .ref r_ownCounter, .ref r_tag, .ref r_sum, .ref r_use, .ref r_weight, .ref r_loopTag, .ref r_length, .ref r_count, .ref r_trust, .int mwt, .ref r_waitPlace, .ref r_waitHistory, .ref r_waitSaid, .int mmk, .ref r_mark]))] s.heap.size = A at hD ⊢
  have hA : ∀ q : Nat, s.heap.size ≤ q → A q := fun q h => by rw [← hAe]; exact Or.inr h
  have hS : va_S A s.heap s.heap [] := va_S.rf
  have hP : va_P (dC, dI) vwCl [(o0, .inr (11, [.int mt, .int mkd, .int mbt, .int mrw, .int mhs, .int mco, .int (bI mey), .int mu1, .int mu2, .int mu3, .int mu4, .ref r_lastBit, .ref r_plain, .ref r_mixed, .ref r_chooser, .ref r_own, .ref r_ownCounter, .ref r_tag, .ref r_sum, .ref r_use, .ref r_weight, .ref r_loopTag, .ref r_length, .ref r_count, .ref r_trust, .int mwt, .ref r_waitPlace, .ref r_waitHistory, .ref r_waitSaid, .int mmk, .ref r_mark]))] s.heap := hP
  obtain ⟨rs, hfn⟩ : ∃ rs, (tf_Md_count mkd mbt mu1 mu2 mu3 mu4 mwt mmk wh) = rs := ⟨_, rfl⟩
  try rw [hfn]
  have hl := lv_entry ([.ref o0, .int wh]) (n := 2) (Nat.le_of_ble_eq_true rfl)
  rw [lg_entry_eq]
  generalize (lg_sl ([.ref o0, .int wh]) ++ List.replicate (2 - (lg_sl ([.ref o0, .int wh])).length) Slot.unset).toArray = ls at hl ⊢
  have hl : lv_has ls 2 [(0, .ref o0), (1, .int wh)] := hl
  unfold tf_Md_count at hfn
  refine lv_aload_n hx hb dMd_count_0 rfl (lv_at hl 0 rfl) ?_
  refine lv_iconst (v := 0) hx hb dMd_count_1 (by decide) ?_
  refine va_put (D := (dC, dI)) (ci := 11) (v := .int 0) (ty := .int) (C := R_Md) (T := T_Md) (N := 31) hx hb htg in_Md ty_Md tk_Md nm_Md hown hK hP hD hS 0 rfl rfl 0 (by decide) (htg _ wd_795) (fun _ h9 => h9) rfl (by decide +kernel) rfl rfl (Nat.le_of_ble_eq_true rfl) dMd_count_2 (fun H locs hP hD hS => ?_)
  have hP : va_P (dC, dI) vwCl [(o0, .inr (11, [.int 0, .int mkd, .int mbt, .int mrw, .int mhs, .int mco, .int (bI mey), .int mu1, .int mu2, .int mu3, .int mu4, .ref r_lastBit, .ref r_plain, .ref r_mixed, .ref r_chooser, .ref r_own, .ref r_ownCounter, .ref r_tag, .ref r_sum, .ref r_use, .ref r_weight, .ref r_loopTag, .ref r_length, .ref r_count, .ref r_trust, .int mwt, .ref r_waitPlace, .ref r_waitHistory, .ref r_waitSaid, .int mmk, .ref r_mark]))] H := hP
  have hD : va_D A [(o0, .inr (11, [.int 0, .int mkd, .int mbt, .int mrw, .int mhs, .int mco, .int (bI mey), .int mu1, .int mu2, .int mu3, .int mu4, .ref r_lastBit, .ref r_plain, .ref r_mixed, .ref r_chooser, .ref r_own, .ref r_ownCounter, .ref r_tag, .ref r_sum, .ref r_use, .ref r_weight, .ref r_loopTag, .ref r_length, .ref r_count, .ref r_trust, .int mwt, .ref r_waitPlace, .ref r_waitHistory, .ref r_waitSaid, .int mmk, .ref r_mark]))] := hD
  refine lv_iload_n hx hb dMd_count_5 rfl (lv_at hl 1 rfl) ?_
  by_cases c_1 : wh = 0
  · rw [if_pos c_1] at hfn
    refine lv_tableIn (tgt := 52) hx hb dMd_count_6 (by rw [c_1]; decide) (by rw [c_1]; decide) (by rw [c_1]; rfl) (by decide) ?_
    refine lv_aload_n hx hb dMd_count_52 rfl (lv_at hl 0 rfl) ?_
    refine va_get (D := (dC, dI)) (ci := 11) (v := .int mu1) (C := R_Md) (T := T_Md) (N := 31) hx hb htg in_Md hown hK hP 0 rfl rfl 7 (by decide) (htg _ wd_802) (fun _ h9 => h9) rfl dMd_count_53 ?_
    subst hfn
    exact W.iret hx hb hr (fun t ht hW => ⟨⟨_, _, rfl, ⟨rfl, rfl⟩, ⟨by rw [ht]; exact hP.sub [0] rfl, va_K.moved hW.alike hK, hD.sub [0] (by decide) rfl⟩⟩, hS.F ht⟩) hS.2.2 dMd_count_56
  · rw [if_neg c_1] at hfn
    by_cases c_2 : wh = 1
    · rw [if_pos c_2] at hfn
      refine lv_tableIn (tgt := 57) hx hb dMd_count_6 (by rw [c_2]; decide) (by rw [c_2]; decide) (by rw [c_2]; rfl) (by decide) ?_
      refine lv_aload_n hx hb dMd_count_57 rfl (lv_at hl 0 rfl) ?_
      refine va_get (D := (dC, dI)) (ci := 11) (v := .int mu2) (C := R_Md) (T := T_Md) (N := 31) hx hb htg in_Md hown hK hP 0 rfl rfl 8 (by decide) (htg _ wd_803) (fun _ h9 => h9) rfl dMd_count_58 ?_
      subst hfn
      exact W.iret hx hb hr (fun t ht hW => ⟨⟨_, _, rfl, ⟨rfl, rfl⟩, ⟨by rw [ht]; exact hP.sub [0] rfl, va_K.moved hW.alike hK, hD.sub [0] (by decide) rfl⟩⟩, hS.F ht⟩) hS.2.2 dMd_count_61
    · rw [if_neg c_2] at hfn
      by_cases c_3 : wh = 2
      · rw [if_pos c_3] at hfn
        refine lv_tableIn (tgt := 62) hx hb dMd_count_6 (by rw [c_3]; decide) (by rw [c_3]; decide) (by rw [c_3]; rfl) (by decide) ?_
        refine lv_aload_n hx hb dMd_count_62 rfl (lv_at hl 0 rfl) ?_
        refine va_get (D := (dC, dI)) (ci := 11) (v := .int mu3) (C := R_Md) (T := T_Md) (N := 31) hx hb htg in_Md hown hK hP 0 rfl rfl 9 (by decide) (htg _ wd_804) (fun _ h9 => h9) rfl dMd_count_63 ?_
        subst hfn
        exact W.iret hx hb hr (fun t ht hW => ⟨⟨_, _, rfl, ⟨rfl, rfl⟩, ⟨by rw [ht]; exact hP.sub [0] rfl, va_K.moved hW.alike hK, hD.sub [0] (by decide) rfl⟩⟩, hS.F ht⟩) hS.2.2 dMd_count_66
      · rw [if_neg c_3] at hfn
        by_cases c_4 : wh = 3
        · rw [if_pos c_4] at hfn
          refine lv_tableIn (tgt := 67) hx hb dMd_count_6 (by rw [c_4]; decide) (by rw [c_4]; decide) (by rw [c_4]; rfl) (by decide) ?_
          refine lv_aload_n hx hb dMd_count_67 rfl (lv_at hl 0 rfl) ?_
          refine va_get (D := (dC, dI)) (ci := 11) (v := .int mwt) (C := R_Md) (T := T_Md) (N := 31) hx hb htg in_Md hown hK hP 0 rfl rfl 25 (by decide) (htg _ wd_820) (fun _ h9 => h9) rfl dMd_count_68 ?_
          subst hfn
          exact W.iret hx hb hr (fun t ht hW => ⟨⟨_, _, rfl, ⟨rfl, rfl⟩, ⟨by rw [ht]; exact hP.sub [0] rfl, va_K.moved hW.alike hK, hD.sub [0] (by decide) rfl⟩⟩, hS.F ht⟩) hS.2.2 dMd_count_71
        · rw [if_neg c_4] at hfn
          by_cases c_5 : wh = 4
          · rw [if_pos c_5] at hfn
            refine lv_tableIn (tgt := 72) hx hb dMd_count_6 (by rw [c_5]; decide) (by rw [c_5]; decide) (by rw [c_5]; rfl) (by decide) ?_
            refine lv_aload_n hx hb dMd_count_72 rfl (lv_at hl 0 rfl) ?_
            refine va_get (D := (dC, dI)) (ci := 11) (v := .int mmk) (C := R_Md) (T := T_Md) (N := 31) hx hb htg in_Md hown hK hP 0 rfl rfl 29 (by decide) (htg _ wd_824) (fun _ h9 => h9) rfl dMd_count_73 ?_
            subst hfn
            exact W.iret hx hb hr (fun t ht hW => ⟨⟨_, _, rfl, ⟨rfl, rfl⟩, ⟨by rw [ht]; exact hP.sub [0] rfl, va_K.moved hW.alike hK, hD.sub [0] (by decide) rfl⟩⟩, hS.F ht⟩) hS.2.2 dMd_count_76
          · rw [if_neg c_5] at hfn
            by_cases c_6 : wh = 5
            · rw [if_pos c_6] at hfn
              refine lv_tableIn (tgt := 77) hx hb dMd_count_6 (by rw [c_6]; decide) (by rw [c_6]; decide) (by rw [c_6]; rfl) (by decide) ?_
              refine lv_aload_n hx hb dMd_count_77 rfl (lv_at hl 0 rfl) ?_
              refine va_get (D := (dC, dI)) (ci := 11) (v := .int mu4) (C := R_Md) (T := T_Md) (N := 31) hx hb htg in_Md hown hK hP 0 rfl rfl 10 (by decide) (htg _ wd_805) (fun _ h9 => h9) rfl dMd_count_78 ?_
              subst hfn
              exact W.iret hx hb hr (fun t ht hW => ⟨⟨_, _, rfl, ⟨rfl, rfl⟩, ⟨by rw [ht]; exact hP.sub [0] rfl, va_K.moved hW.alike hK, hD.sub [0] (by decide) rfl⟩⟩, hS.F ht⟩) hS.2.2 dMd_count_81
            · rw [if_neg c_6] at hfn
              by_cases c_7 : wh = 6
              · rw [if_pos c_7] at hfn
                refine lv_tableIn (tgt := 82) hx hb dMd_count_6 (by rw [c_7]; decide) (by rw [c_7]; decide) (by rw [c_7]; rfl) (by decide) ?_
                refine lv_aload_n hx hb dMd_count_82 rfl (lv_at hl 0 rfl) ?_
                refine va_get (D := (dC, dI)) (ci := 11) (v := .int mkd) (C := R_Md) (T := T_Md) (N := 31) hx hb htg in_Md hown hK hP 0 rfl rfl 1 (by decide) (htg _ wd_796) (fun _ h9 => h9) rfl dMd_count_83 ?_
                subst hfn
                exact W.iret hx hb hr (fun t ht hW => ⟨⟨_, _, rfl, ⟨rfl, rfl⟩, ⟨by rw [ht]; exact hP.sub [0] rfl, va_K.moved hW.alike hK, hD.sub [0] (by decide) rfl⟩⟩, hS.F ht⟩) hS.2.2 dMd_count_86
              · rw [if_neg c_7] at hfn
                by_cases c_8 : wh = 7
                · rw [if_pos c_8] at hfn
                  refine lv_tableIn (tgt := 87) hx hb dMd_count_6 (by rw [c_8]; decide) (by rw [c_8]; decide) (by rw [c_8]; rfl) (by decide) ?_
                  refine lv_aload_n hx hb dMd_count_87 rfl (lv_at hl 0 rfl) ?_
                  refine va_get (D := (dC, dI)) (ci := 11) (v := .int mbt) (C := R_Md) (T := T_Md) (N := 31) hx hb htg in_Md hown hK hP 0 rfl rfl 2 (by decide) (htg _ wd_797) (fun _ h9 => h9) rfl dMd_count_88 ?_
                  subst hfn
                  exact W.iret hx hb hr (fun t ht hW => ⟨⟨_, _, rfl, ⟨rfl, rfl⟩, ⟨by rw [ht]; exact hP.sub [0] rfl, va_K.moved hW.alike hK, hD.sub [0] (by decide) rfl⟩⟩, hS.F ht⟩) hS.2.2 dMd_count_91
                · rw [if_neg c_8] at hfn
                  refine lv_tableOut (tgt := 92) hx hb dMd_count_6 (by have := ne_toInt (z := 0) c_1 (by decide); have := ne_toInt (z := 1) c_2 (by decide); have := ne_toInt (z := 2) c_3 (by decide); have := ne_toInt (z := 3) c_4 (by decide); have := ne_toInt (z := 4) c_5 (by decide); have := ne_toInt (z := 5) c_6 (by decide); have := ne_toInt (z := 6) c_7 (by decide); have := ne_toInt (z := 7) c_8 (by decide); omega) (by decide) ?_
                  refine lv_iconst (v := (-1)) hx hb dMd_count_92 (by decide) ?_
                  subst hfn
                  exact W.iret hx hb hr (fun t ht hW => ⟨⟨_, _, rfl, ⟨rfl, rfl⟩, ⟨by rw [ht]; exact hP.sub [0] rfl, va_K.moved hW.alike hK, hD.sub [0] (by decide) rfl⟩⟩, hS.F ht⟩) hS.2.2 dMd_count_93
