def of_Md_isLoop (mbt : Int32) (mrw : Int32) (g_loopTag : Nat → Int32) (g_trust : Nat → Int32) (pl : Int32) : Option (Bool) := ((of_Md_hasLoop mbt mrw g_loopTag pl).bind fun z_1 => (if (bI z_1) = 0 then some (false) else (if (tf_Md_plainRow mbt mrw pl) < 0 ∨ 1024 ≤ (tf_Md_plainRow mbt mrw pl).toNatClampNeg then none else (if (g_trust (tf_Md_plainRow mbt mrw pl).toNatClampNeg) = 3 then some (true) else some (false)))))
set_option maxHeartbeats 4000000 in
set_option maxRecDepth 100000 in
theorem c_Md_isLoop (l : Launch) (dC : Nat → ClassId) (dI : Nat → Nat → Nat) (cA : ClassId × ClassId × ClassId) (o0 : Nat) (r_loopTag : Nat) (r_trust : Nat) (r_lastBit : Nat) (r_plain : Nat) (r_mixed : Nat) (r_chooser : Nat) (r_own : Nat) (r_ownCounter : Nat) (r_tag : Nat) (r_sum : Nat) (r_use : Nat) (r_weight : Nat) (r_length : Nat) (r_count : Nat) (r_waitPlace : Nat) (r_waitHistory : Nat) (r_waitSaid : Nat) (r_mark : Nat) (mt : Int32) (mkd : Int32) (mbt : Int32) (mrw : Int32) (mhs : Int32) (mco : Int32) (mey : Bool) (mu1 : Int32) (mu2 : Int32) (mu3 : Int32) (mu4 : Int32) (mwt : Int32) (mmk : Int32) (g_loopTag : Nat → Int32) (g_trust : Nat → Int32) (pl : Int32) (rs0 : Bool) (hfn : (of_Md_isLoop mbt mrw g_loopTag g_trust pl) = some (rs0)) : Met l yMd_isLoop wMd_isLoop ({ frames := 3, cells := 0, slots := 0, locals := 63 }) (va_Pc [.ref o0, .int pl] (Rd (dC, dI) cA [(o0, .inr (11, [.int mt, .int mkd, .int mbt, .int mrw, .int mhs, .int mco, .int (bI mey), .int mu1, .int mu2, .int mu3, .int mu4, .ref r_lastBit, .ref r_plain, .ref r_mixed, .ref r_chooser, .ref r_own, .ref r_ownCounter, .ref r_tag, .ref r_sum, .ref r_use, .ref r_weight, .ref r_loopTag, .ref r_length, .ref r_count, .ref r_trust, .int mwt, .ref r_waitPlace, .ref r_waitHistory, .ref r_waitSaid, .int mmk, .ref r_mark])), (r_loopTag, .inl (cA.1, 1024, .inl g_loopTag)), (r_trust, .inl (cA.1, 1024, .inl g_trust))])) (QcRead (bI rs0)) 0 0 (fun _ => False) := by
  refine Met.ofW (cc := cMd_isLoop) (maxL := 2) (ret := (some .boolean)) (by decide) rfl ?_
  intro p e s m args below meth c s₁ B hml hv
  obtain ⟨rfl, hN, hP, hK⟩ := hv
  have hx := B.exec
  have hb := B.bytes
  have hr := B.returns
  have hts := atoms_spec (ws := wMd_isLoop) B.pre
  have htg : ∀ w ∈ GW, w.before _ s = true := fun w h => hts w (List.mem_cons_of_mem _ h)
  have hown : s.vm.findClass R_Md = some m.cls := findClass_of_methodNamed B.named
  have hlocks := B.notSynchronized
  have hl := lv_entry ([.ref o0, .int pl]) (n := 2) (Nat.le_of_ble_eq_true rfl)
  rw [lg_entry_eq]
  generalize (lg_sl ([.ref o0, .int pl]) ++ List.replicate (2 - (lg_sl ([.ref o0, .int pl])).length) Slot.unset).toArray = ls at hl ⊢
  have hl : lv_has ls 2 [(0, .ref o0), (1, .int pl)] := hl
  unfold of_Md_isLoop at hfn
  refine lv_aload_n hx hb dMd_isLoop_0 rfl (lv_at hl 0 rfl) ?_
  refine lv_iload_n hx hb dMd_isLoop_1 rfl (lv_at hl 1 rfl) ?_
  obtain ⟨z_1, hz_1, hfn⟩ := ob hfn
  refine rd_V (As := [.int pl]) (rest := []) ⟨hx, hb, hml, hown, htg⟩ (c_Md_hasLoop l dC dI cA o0 r_loopTag r_lastBit r_plain r_mixed r_chooser r_own r_ownCounter r_tag r_sum r_use r_weight r_length r_count r_trust r_waitPlace r_waitHistory r_waitSaid r_mark mt mkd mbt mrw mhs mco mey mu1 mu2 mu3 mu4 mwt mmk g_loopTag pl z_1 hz_1) (cw_V htg wd_947 ws_28 qMd_hasLoop iMd_hasLoop kMd_hasLoop pMd_hasLoop rfl rfl ⟨Nat.le_of_ble_eq_true rfl, Nat.le_of_ble_eq_true rfl⟩) (va_recv hK hP (ci := 11) (q0 := 0) rfl rfl) hN (hP.sub [0, 1] rfl) hK rfl hl.1 rfl (Nat.le_of_ble_eq_true rfl) dMd_isLoop_2 ⟨Nat.le_of_ble_eq_true rfl, Nat.le_of_ble_eq_true rfl⟩ ?_
  refine lv_if_eq (tgt := 26) hx hb dMd_isLoop_5 (by decide) (fun c_2 => ?_) (fun c_2 => ?_)
  · rw [if_pos c_2] at hfn
    refine lv_iconst (v := 0) hx hb dMd_isLoop_26 (by decide) ?_
    replace hfn := Option.some.inj hfn
    subst hfn
    exact W.zret hx hb hr rfl (fun t ht hW => ⟨rfl, ht⟩) (fun _ h => by cases h) dMd_isLoop_27
  · rw [if_neg c_2] at hfn
    refine lv_aload_n hx hb dMd_isLoop_8 rfl (lv_at hl 0 rfl) ?_
    refine va_get (D := (dC, dI)) (ci := 11) (v := .ref r_trust) (C := R_Md) (T := T_Md) (N := 31) hx hb htg in_Md hown hK hP 0 rfl rfl 24 (by decide) (htg _ wd_819) (fun _ h9 => h9) rfl dMd_isLoop_9 ?_
    refine lv_aload_n hx hb dMd_isLoop_12 rfl (lv_at hl 0 rfl) ?_
    refine lv_iload_n hx hb dMd_isLoop_13 rfl (lv_at hl 1 rfl) ?_
    refine rd_V (As := [.int pl]) (rest := [.ref r_trust]) ⟨hx, hb, hml, hown, htg⟩ (c_Md_plainRow l dC dI cA o0 r_lastBit r_plain r_mixed r_chooser r_own r_ownCounter r_tag r_sum r_use r_weight r_loopTag r_length r_count r_trust r_waitPlace r_waitHistory r_waitSaid r_mark mt mkd mbt mrw mhs mco mey mu1 mu2 mu3 mu4 mwt mmk pl) (cw_V htg wd_902 ws_19 qMd_plainRow iMd_plainRow kMd_plainRow pMd_plainRow rfl rfl ⟨Nat.le_of_ble_eq_true rfl, Nat.le_of_ble_eq_true rfl⟩) (va_recv hK hP (ci := 11) (q0 := 0) rfl rfl) hN (hP.sub [0] rfl) hK rfl hl.1 rfl (Nat.le_of_ble_eq_true rfl) dMd_isLoop_14 ⟨Nat.le_of_ble_eq_true rfl, Nat.le_of_ble_eq_true rfl⟩ ?_
    obtain ⟨g_3, hfn⟩ := og hfn
    refine va_iald hx hb hK hP 2 0 rfl rfl g_3 dMd_isLoop_17 ?_
    refine lv_iconst (v := 3) hx hb dMd_isLoop_18 (by decide) ?_
    refine lv_icmp_ne (tgt := 26) hx hb dMd_isLoop_19 (by decide) (fun c_4 => ?_) (fun c_4 => ?_)
    · rw [if_neg c_4] at hfn
      refine lv_iconst (v := 0) hx hb dMd_isLoop_26 (by decide) ?_
      replace hfn := Option.some.inj hfn
      subst hfn
      exact W.zret hx hb hr rfl (fun t ht hW => ⟨rfl, ht⟩) (fun _ h => by cases h) dMd_isLoop_27
    · rw [if_pos c_4] at hfn
      refine lv_iconst (v := 1) hx hb dMd_isLoop_22 (by decide) ?_
      refine lv_goto (tgt := 27) hx hb dMd_isLoop_23 (by decide) ?_
      replace hfn := Option.some.inj hfn
      subst hfn
      exact W.zret hx hb hr rfl (fun t ht hW => ⟨rfl, ht⟩) (fun _ h => by cases h) dMd_isLoop_27
def tf_Md_mixedRow (mrw : Int32) (pl : Int32) (hs : Int32) : Int32 := ((tf_Md_low mrw (pl ^^^ hs)))
set_option maxHeartbeats 4000000 in
set_option maxRecDepth 100000 in
theorem c_Md_mixedRow (l : Launch) (dC : Nat → ClassId) (dI : Nat → Nat → Nat) (cA : ClassId × ClassId × ClassId) (o0 : Nat) (r_lastBit : Nat) (r_plain : Nat) (r_mixed : Nat) (r_chooser : Nat) (r_own : Nat) (r_ownCounter : Nat) (r_tag : Nat) (r_sum : Nat) (r_use : Nat) (r_weight : Nat) (r_loopTag : Nat) (r_length : Nat) (r_count : Nat) (r_trust : Nat) (r_waitPlace : Nat) (r_waitHistory : Nat) (r_waitSaid : Nat) (r_mark : Nat) (mt : Int32) (mkd : Int32) (mbt : Int32) (mrw : Int32) (mhs : Int32) (mco : Int32) (mey : Bool) (mu1 : Int32) (mu2 : Int32) (mu3 : Int32) (mu4 : Int32) (mwt : Int32) (mmk : Int32) (pl : Int32) (hs : Int32) : Met l yMd_mixedRow wMd_mixedRow ({ frames := 1, cells := 0, slots := 0, locals := 21 }) (va_Pc [.ref o0, .int pl, .int hs] (Rd (dC, dI) cA [(o0, .inr (11, [.int mt, .int mkd, .int mbt, .int mrw, .int mhs, .int mco, .int (bI mey), .int mu1, .int mu2, .int mu3, .int mu4, .ref r_lastBit, .ref r_plain, .ref r_mixed, .ref r_chooser, .ref r_own, .ref r_ownCounter, .ref r_tag, .ref r_sum, .ref r_use, .ref r_weight, .ref r_loopTag, .ref r_length, .ref r_count, .ref r_trust, .int mwt, .ref r_waitPlace, .ref r_waitHistory, .ref r_waitSaid, .int mmk, .ref r_mark]))])) (QcRead (tf_Md_mixedRow mrw pl hs)) 0 0 (fun _ => False) := by
  refine Met.ofW (cc := cMd_mixedRow) (maxL := 3) (ret := (some .int)) (by decide) rfl ?_
  intro p e s m args below meth c s₁ B hml hv
  obtain ⟨rfl, hN, hP, hK⟩ := hv
  have hx := B.exec
  have hb := B.bytes
  have hr := B.returns
  have hts := atoms_spec (ws := wMd_mixedRow) B.pre
  have htg : ∀ w ∈ GW, w.before _ s = true := fun w h => hts w (List.mem_cons_of_mem _ h)
  have hown : s.vm.findClass R_Md = some m.cls := findClass_of_methodNamed B.named
  have hlocks := B.notSynchronized
  obtain ⟨rs, hfn⟩ : ∃ rs, (tf_Md_mixedRow mrw pl hs) = rs := ⟨_, rfl⟩
  try rw [hfn]
  have hl := lv_entry ([.ref o0, .int pl, .int hs]) (n := 3) (Nat.le_of_ble_eq_true rfl)
  rw [lg_entry_eq]
  generalize (lg_sl ([.ref o0, .int pl, .int hs]) ++ List.replicate (3 - (lg_sl ([.ref o0, .int pl, .int hs])).length) Slot.unset).toArray = ls at hl ⊢
  have hl : lv_has ls 3 [(0, .ref o0), (1, .int pl), (2, .int hs)] := hl
  unfold tf_Md_mixedRow at hfn
  refine lv_aload_n hx hb dMd_mixedRow_0 rfl (lv_at hl 0 rfl) ?_
  refine lv_iload_n hx hb dMd_mixedRow_1 rfl (lv_at hl 1 rfl) ?_
  refine lv_iload_n hx hb dMd_mixedRow_2 rfl (lv_at hl 2 rfl) ?_
  refine lv_ixor hx hb dMd_mixedRow_3 ?_
  refine rd_V (As := [.int (pl ^^^ hs)]) (rest := []) ⟨hx, hb, hml, hown, htg⟩ (c_Md_low l dC dI cA o0 r_lastBit r_plain r_mixed r_chooser r_own r_ownCounter r_tag r_sum r_use r_weight r_loopTag r_length r_count r_trust r_waitPlace r_waitHistory r_waitSaid r_mark mt mkd mbt mrw mhs mco mey mu1 mu2 mu3 mu4 mwt mmk (pl ^^^ hs)) (cw_V htg wd_906 ws_20 qMd_low iMd_low kMd_low pMd_low rfl rfl ⟨Nat.le_of_ble_eq_true rfl, Nat.le_of_ble_eq_true rfl⟩) (va_recv hK hP (ci := 11) (q0 := 0) rfl rfl) hN (hP.sub [0] rfl) hK rfl hl.1 rfl (Nat.le_of_ble_eq_true rfl) dMd_mixedRow_4 ⟨Nat.le_of_ble_eq_true rfl, Nat.le_of_ble_eq_true rfl⟩ ?_
  subst hfn
  exact W.iret hx hb hr (fun t ht hW => ⟨rfl, ht⟩) (fun _ h => by cases h) dMd_mixedRow_7
def of_Md_says_b260 (s0_b260 : Bool) : Option (Bool) := some (s0_b260)
def of_Md_says_b213 (s0_b213 : Bool) : Option (Bool) := some (s0_b213)
def of_Md_says_b184 (s0_b184 : Bool) : Option (Bool) := some (s0_b184)
def of_Md_says_b135 (s0_b135 : Bool) : Option (Bool) := some (s0_b135)
def of_Md_says_b114 (s0_b114 : Bool) : Option (Bool) := some (s0_b114)
def of_Md_says_b93 (s0_b93 : Bool) : Option (Bool) := some (s0_b93)
def of_Md_says_b77 (s0_b77 : Bool) : Option (Bool) := some (s0_b77)
def of_Md_says (mkd : Int32) (mbt : Int32) (mrw : Int32) (mco : Int32) (g_lastBit : Nat → Int32) (g_plain : Nat → Int32) (g_mixed : Nat → Int32) (g_chooser : Nat → Int32) (g_own : Nat → Int32) (g_ownCounter : Nat → Int32) (g_tag : Nat → Int32) (g_sum : Nat → Int32) (g_weight : Nat → Int32) (g_loopTag : Nat → Int32) (g_length : Nat → Int32) (g_count : Nat → Int32) (g_trust : Nat → Int32) (pl : Int32) (hs : Int32) : Option (Bool) := (if mkd = 0 then some (true) else (if mkd = 1 then (if (tf_Md_plainRow mbt mrw pl) < 0 ∨ 1024 ≤ (tf_Md_plainRow mbt mrw pl).toNatClampNeg then none else (if (g_lastBit (tf_Md_plainRow mbt mrw pl).toNatClampNeg) = 1 then of_Md_says_b77 true else of_Md_says_b77 false)) else (if mkd = 2 then (if (tf_Md_plainRow mbt mrw pl) < 0 ∨ 1024 ≤ (tf_Md_plainRow mbt mrw pl).toNatClampNeg then none else (if (g_plain (tf_Md_plainRow mbt mrw pl).toNatClampNeg) ≤ 1 then of_Md_says_b93 false else of_Md_says_b93 true)) else (if mkd = 3 then (if (tf_Md_mixedRow mrw pl hs) < 0 ∨ 1024 ≤ (tf_Md_mixedRow mrw pl hs).toNatClampNeg then none else (if (g_mixed (tf_Md_mixedRow mrw pl hs).toNatClampNeg) ≤ 1 then of_Md_says_b114 false else of_Md_says_b114 true)) else (if mkd = 4 then (if (tf_Md_plainRow mbt mrw pl) < 0 ∨ 1024 ≤ (tf_Md_plainRow mbt mrw pl).toNatClampNeg then none else (if (g_own (tf_Md_plainRow mbt mrw pl).toNatClampNeg) < 0 ∨ 1024 ≤ (g_own (tf_Md_plainRow mbt mrw pl).toNatClampNeg).toNatClampNeg then none else (if (g_ownCounter (g_own (tf_Md_plainRow mbt mrw pl).toNatClampNeg).toNatClampNeg) ≤ 1 then of_Md_says_b135 false else of_Md_says_b135 true))) else (if mkd = 5 then (if (tf_Md_plainRow mbt mrw pl) < 0 ∨ 1024 ≤ (tf_Md_plainRow mbt mrw pl).toNatClampNeg then none else (if (g_chooser (tf_Md_plainRow mbt mrw pl).toNatClampNeg) ≤ 1 then (if (tf_Md_plainRow mbt mrw pl) < 0 ∨ 1024 ≤ (tf_Md_plainRow mbt mrw pl).toNatClampNeg then none else (if (g_plain (tf_Md_plainRow mbt mrw pl).toNatClampNeg) ≤ 1 then of_Md_says_b184 false else of_Md_says_b184 true)) else (if (tf_Md_mixedRow mrw pl hs) < 0 ∨ 1024 ≤ (tf_Md_mixedRow mrw pl hs).toNatClampNeg then none else (if (g_mixed (tf_Md_mixedRow mrw pl hs).toNatClampNeg) ≤ 1 then of_Md_says_b184 false else of_Md_says_b184 true)))) else (if mkd = 6 then ((of_Md_hitBefore mbt mrw g_tag 3 pl hs).bind fun z_23 => ((of_Md_saidBy mbt mrw g_plain g_sum z_23 pl hs).bind fun z_24 => some (z_24))) else (if mkd = 7 then ((of_Md_total mbt mrw g_weight pl hs).bind fun z_26 => (if z_26 < 0 then of_Md_says_b213 false else of_Md_says_b213 true)) else (if mkd = 8 then ((of_Md_isLoop mbt mrw g_loopTag g_trust pl).bind fun z_29 => (if (bI z_29) = 0 then (if (tf_Md_plainRow mbt mrw pl) < 0 ∨ 1024 ≤ (tf_Md_plainRow mbt mrw pl).toNatClampNeg then none else (if (g_plain (tf_Md_plainRow mbt mrw pl).toNatClampNeg) ≤ 1 then of_Md_says_b260 false else of_Md_says_b260 true)) else (if (tf_Md_plainRow mbt mrw pl) < 0 ∨ 1024 ≤ (tf_Md_plainRow mbt mrw pl).toNatClampNeg then none else (if (tf_Md_plainRow mbt mrw pl) < 0 ∨ 1024 ≤ (tf_Md_plainRow mbt mrw pl).toNatClampNeg then none else (if (g_length (tf_Md_plainRow mbt mrw pl).toNatClampNeg) ≤ (g_count (tf_Md_plainRow mbt mrw pl).toNatClampNeg) then of_Md_says_b260 false else of_Md_says_b260 true))))) else (if ((us mco 16) &&& 1) = 1 then some (true) else some (false)))))))))))
set_option maxHeartbeats 4000000 in
set_option maxRecDepth 100000 in
theorem c_Md_says (l : Launch) (dC : Nat → ClassId) (dI : Nat → Nat → Nat) (cA : ClassId × ClassId × ClassId) (o0 : Nat) (r_lastBit : Nat) (r_plain : Nat) (r_mixed : Nat) (r_chooser : Nat) (r_own : Nat) (r_ownCounter : Nat) (r_tag : Nat) (r_sum : Nat) (r_weight : Nat) (r_loopTag : Nat) (r_length : Nat) (r_count : Nat) (r_trust : Nat) (r_use : Nat) (r_waitPlace : Nat) (r_waitHistory : Nat) (r_waitSaid : Nat) (r_mark : Nat) (mt : Int32) (mkd : Int32) (mbt : Int32) (mrw : Int32) (mhs : Int32) (mco : Int32) (mey : Bool) (mu1 : Int32) (mu2 : Int32) (mu3 : Int32) (mu4 : Int32) (mwt : Int32) (mmk : Int32) (g_lastBit : Nat → Int32) (g_plain : Nat → Int32) (g_mixed : Nat → Int32) (g_chooser : Nat → Int32) (g_own : Nat → Int32) (g_ownCounter : Nat → Int32) (g_tag : Nat → Int32) (g_sum : Nat → Int32) (g_weight : Nat → Int32) (g_loopTag : Nat → Int32) (g_length : Nat → Int32) (g_count : Nat → Int32) (g_trust : Nat → Int32) (pl : Int32) (hs : Int32) (rs0 : Bool) (hfn : (of_Md_says mkd mbt mrw mco g_lastBit g_plain g_mixed g_chooser g_own g_ownCounter g_tag g_sum g_weight g_loopTag g_length g_count g_trust pl hs) = some (rs0)) : Met l yMd_says wMd_says ({ frames := 4, cells := 0, slots := 0, locals := 95 }) (va_Pc [.ref o0, .int pl, .int hs] (Rd (dC, dI) cA [(o0, .inr (11, [.int mt, .int mkd, .int mbt, .int mrw, .int mhs, .int mco, .int (bI mey), .int mu1, .int mu2, .int mu3, .int mu4, .ref r_lastBit, .ref r_plain, .ref r_mixed, .ref r_chooser, .ref r_own, .ref r_ownCounter, .ref r_tag, .ref r_sum, .ref r_use, .ref r_weight, .ref r_loopTag, .ref r_length, .ref r_count, .ref r_trust, .int mwt, .ref r_waitPlace, .ref r_waitHistory, .ref r_waitSaid, .int mmk, .ref r_mark])), (r_lastBit, .inl (cA.1, 1024, .inl g_lastBit)), (r_plain, .inl (cA.1, 1024, .inl g_plain)), (r_mixed, .inl (cA.1, 1024, .inl g_mixed)), (r_chooser, .inl (cA.1, 1024, .inl g_chooser)), (r_own, .inl (cA.1, 1024, .inl g_own)), (r_ownCounter, .inl (cA.1, 1024, .inl g_ownCounter)), (r_tag, .inl (cA.1, 3072, .inl g_tag)), (r_sum, .inl (cA.1, 3072, .inl g_sum)), (r_weight, .inl (cA.1, 9216, .inl g_weight)), (r_loopTag, .inl (cA.1, 1024, .inl g_loopTag)), (r_length, .inl (cA.1, 1024, .inl g_length)), (r_count, .inl (cA.1, 1024, .inl g_count)), (r_trust, .inl (cA.1, 1024, .inl g_trust))])) (QcRead (bI rs0)) 0 0 (fun _ => False) := by
  refine Met.ofW (cc := cMd_says) (maxL := 4) (ret := (some .boolean)) (by decide) rfl ?_
  intro p e s m args below meth c s₁ B hml hv
  obtain ⟨rfl, hN, hP, hK⟩ := hv
  have hx := B.exec
  have hb := B.bytes
  have hr := B.returns
  have hts := atoms_spec (ws := wMd_says) B.pre
  have htg : ∀ w ∈ GW, w.before _ s = true := fun w h => hts w (List.mem_cons_of_mem _ h)
  have hown : s.vm.findClass R_Md = some m.cls := findClass_of_methodNamed B.named
  have hlocks := B.notSynchronized
  have blk260 : ∀ (rs0 : Bool) (s0_b260 : Bool) (ls : Array Slot), of_Md_says_b260 s0_b260 = some (rs0) → lv_has ls 4 [] → W p l e (headSpec wMd_says ({ frames := 4, cells := 0, slots := 0, locals := 95 })).room s m ([.ref o0, .int pl, .int hs] : List Value).toArray below meth c s.heap [] 0 0 (MQ below (QcRead (bI rs0)) ([.ref o0, .int pl, .int hs] : List Value).toArray s 0 0 (fun _ => False)) (F0 m 260 ls [.int (bI s0_b260)]) := by
    intro rs0 s0_b260 ls hfn hl
    unfold of_Md_says_b260 at hfn
    replace hfn := Option.some.inj hfn
    subst hfn
    exact W.zret hx hb hr (nar_bI _) (fun t ht hW => ⟨rfl, ht⟩) (fun _ h => by cases h) dMd_says_260
  have blk213 : ∀ (rs0 : Bool) (s0_b213 : Bool) (ls : Array Slot), of_Md_says_b213 s0_b213 = some (rs0) → lv_has ls 4 [] → W p l e (headSpec wMd_says ({ frames := 4, cells := 0, slots := 0, locals := 95 })).room s m ([.ref o0, .int pl, .int hs] : List Value).toArray below meth c s.heap [] 0 0 (MQ below (QcRead (bI rs0)) ([.ref o0, .int pl, .int hs] : List Value).toArray s 0 0 (fun _ => False)) (F0 m 213 ls [.int (bI s0_b213)]) := by
    intro rs0 s0_b213 ls hfn hl
    unfold of_Md_says_b213 at hfn
    replace hfn := Option.some.inj hfn
    subst hfn
    exact W.zret hx hb hr (nar_bI _) (fun t ht hW => ⟨rfl, ht⟩) (fun _ h => by cases h) dMd_says_213
  have blk184 : ∀ (rs0 : Bool) (s0_b184 : Bool) (ls : Array Slot), of_Md_says_b184 s0_b184 = some (rs0) → lv_has ls 4 [] → W p l e (headSpec wMd_says ({ frames := 4, cells := 0, slots := 0, locals := 95 })).room s m ([.ref o0, .int pl, .int hs] : List Value).toArray below meth c s.heap [] 0 0 (MQ below (QcRead (bI rs0)) ([.ref o0, .int pl, .int hs] : List Value).toArray s 0 0 (fun _ => False)) (F0 m 184 ls [.int (bI s0_b184)]) := by
    intro rs0 s0_b184 ls hfn hl
    unfold of_Md_says_b184 at hfn
    replace hfn := Option.some.inj hfn
    subst hfn
    exact W.zret hx hb hr (nar_bI _) (fun t ht hW => ⟨rfl, ht⟩) (fun _ h => by cases h) dMd_says_184
  have blk135 : ∀ (rs0 : Bool) (s0_b135 : Bool) (ls : Array Slot), of_Md_says_b135 s0_b135 = some (rs0) → lv_has ls 4 [] → W p l e (headSpec wMd_says ({ frames := 4, cells := 0, slots := 0, locals := 95 })).room s m ([.ref o0, .int pl, .int hs] : List Value).toArray below meth c s.heap [] 0 0 (MQ below (QcRead (bI rs0)) ([.ref o0, .int pl, .int hs] : List Value).toArray s 0 0 (fun _ => False)) (F0 m 135 ls [.int (bI s0_b135)]) := by
    intro rs0 s0_b135 ls hfn hl
    unfold of_Md_says_b135 at hfn
    replace hfn := Option.some.inj hfn
    subst hfn
    exact W.zret hx hb hr (nar_bI _) (fun t ht hW => ⟨rfl, ht⟩) (fun _ h => by cases h) dMd_says_135
  have blk114 : ∀ (rs0 : Bool) (s0_b114 : Bool) (ls : Array Slot), of_Md_says_b114 s0_b114 = some (rs0) → lv_has ls 4 [] → W p l e (headSpec wMd_says ({ frames := 4, cells := 0, slots := 0, locals := 95 })).room s m ([.ref o0, .int pl, .int hs] : List Value).toArray below meth c s.heap [] 0 0 (MQ below (QcRead (bI rs0)) ([.ref o0, .int pl, .int hs] : List Value).toArray s 0 0 (fun _ => False)) (F0 m 114 ls [.int (bI s0_b114)]) := by
    intro rs0 s0_b114 ls hfn hl
    unfold of_Md_says_b114 at hfn
    replace hfn := Option.some.inj hfn
    subst hfn
    exact W.zret hx hb hr (nar_bI _) (fun t ht hW => ⟨rfl, ht⟩) (fun _ h => by cases h) dMd_says_114
  have blk93 : ∀ (rs0 : Bool) (s0_b93 : Bool) (ls : Array Slot), of_Md_says_b93 s0_b93 = some (rs0) → lv_has ls 4 [] → W p l e (headSpec wMd_says ({ frames := 4, cells := 0, slots := 0, locals := 95 })).room s m ([.ref o0, .int pl, .int hs] : List Value).toArray below meth c s.heap [] 0 0 (MQ below (QcRead (bI rs0)) ([.ref o0, .int pl, .int hs] : List Value).toArray s 0 0 (fun _ => False)) (F0 m 93 ls [.int (bI s0_b93)]) := by
    intro rs0 s0_b93 ls hfn hl
    unfold of_Md_says_b93 at hfn
    replace hfn := Option.some.inj hfn
    subst hfn
    exact W.zret hx hb hr (nar_bI _) (fun t ht hW => ⟨rfl, ht⟩) (fun _ h => by cases h) dMd_says_93
  have blk77 : ∀ (rs0 : Bool) (s0_b77 : Bool) (ls : Array Slot), of_Md_says_b77 s0_b77 = some (rs0) → lv_has ls 4 [] → W p l e (headSpec wMd_says ({ frames := 4, cells := 0, slots := 0, locals := 95 })).room s m ([.ref o0, .int pl, .int hs] : List Value).toArray below meth c s.heap [] 0 0 (MQ below (QcRead (bI rs0)) ([.ref o0, .int pl, .int hs] : List Value).toArray s 0 0 (fun _ => False)) (F0 m 77 ls [.int (bI s0_b77)]) := by
    intro rs0 s0_b77 ls hfn hl
    unfold of_Md_says_b77 at hfn
    replace hfn := Option.some.inj hfn
    subst hfn
    exact W.zret hx hb hr (nar_bI _) (fun t ht hW => ⟨rfl, ht⟩) (fun _ h => by cases h) dMd_says_77
  have hl := lv_entry ([.ref o0, .int pl, .int hs]) (n := 4) (Nat.le_of_ble_eq_true rfl)
  rw [lg_entry_eq]
  generalize (lg_sl ([.ref o0, .int pl, .int hs]) ++ List.replicate (4 - (lg_sl ([.ref o0, .int pl, .int hs])).length) Slot.unset).toArray = ls at hl ⊢
  have hl : lv_has ls 4 [(0, .ref o0), (1, .int pl), (2, .int hs)] := hl
  unfold of_Md_says at hfn
  refine lv_aload_n hx hb dMd_says_0 rfl (lv_at hl 0 rfl) ?_
  refine lv_iload_n hx hb dMd_says_1 rfl (lv_at hl 1 rfl) ?_
  refine rd_V (As := [.int pl]) (rest := []) ⟨hx, hb, hml, hown, htg⟩ (c_Md_plainRow l dC dI cA o0 r_lastBit r_plain r_mixed r_chooser r_own r_ownCounter r_tag r_sum r_use r_weight r_loopTag r_length r_count r_trust r_waitPlace r_waitHistory r_waitSaid r_mark mt mkd mbt mrw mhs mco mey mu1 mu2 mu3 mu4 mwt mmk pl) (cw_V htg wd_902 ws_19 qMd_plainRow iMd_plainRow kMd_plainRow pMd_plainRow rfl rfl ⟨Nat.le_of_ble_eq_true rfl, Nat.le_of_ble_eq_true rfl⟩) (va_recv hK hP (ci := 11) (q0 := 0) rfl rfl) hN (hP.sub [0] rfl) hK rfl hl.1 rfl (Nat.le_of_ble_eq_true rfl) dMd_says_2 ⟨Nat.le_of_ble_eq_true rfl, Nat.le_of_ble_eq_true rfl⟩ ?_
  refine lv_istore_n (lv' := [(3, .int (tf_Md_plainRow mbt mrw pl)), (0, .ref o0), (1, .int pl), (2, .int hs)]) hx hb dMd_says_5 rfl hl (by decide) rfl (fun ls hl => ?_)
  refine lv_aload_n hx hb dMd_says_6 rfl (lv_at hl 1 rfl) ?_
  refine va_get (D := (dC, dI)) (ci := 11) (v := .int mkd) (C := R_Md) (T := T_Md) (N := 31) hx hb htg in_Md hown hK hP 0 rfl rfl 1 (by decide) (htg _ wd_796) (fun _ h9 => h9) rfl dMd_says_7 ?_
  by_cases c_1 : mkd = 0
  · rw [if_pos c_1] at hfn
    refine lv_tableIn (tgt := 60) hx hb dMd_says_10 (by rw [c_1]; decide) (by rw [c_1]; decide) (by rw [c_1]; rfl) (by decide) ?_
    refine lv_iconst (v := 1) hx hb dMd_says_60 (by decide) ?_
    replace hfn := Option.some.inj hfn
    subst hfn
    exact W.zret hx hb hr rfl (fun t ht hW => ⟨rfl, ht⟩) (fun _ h => by cases h) dMd_says_61
  · rw [if_neg c_1] at hfn
    by_cases c_2 : mkd = 1
    · rw [if_pos c_2] at hfn
      refine lv_tableIn (tgt := 62) hx hb dMd_says_10 (by rw [c_2]; decide) (by rw [c_2]; decide) (by rw [c_2]; rfl) (by decide) ?_
      refine lv_aload_n hx hb dMd_says_62 rfl (lv_at hl 1 rfl) ?_
      refine va_get (D := (dC, dI)) (ci := 11) (v := .ref r_lastBit) (C := R_Md) (T := T_Md) (N := 31) hx hb htg in_Md hown hK hP 0 rfl rfl 11 (by decide) (htg _ wd_806) (fun _ h9 => h9) rfl dMd_says_63 ?_
      refine lv_iload_n hx hb dMd_says_66 rfl (lv_at hl 0 rfl) ?_
      obtain ⟨g_3, hfn⟩ := og hfn
      refine va_iald hx hb hK hP 1 0 rfl rfl g_3 dMd_says_67 ?_
      refine lv_iconst (v := 1) hx hb dMd_says_68 (by decide) ?_
      refine lv_icmp_ne (tgt := 76) hx hb dMd_says_69 (by decide) (fun c_4 => ?_) (fun c_4 => ?_)
      · rw [if_neg c_4] at hfn
        refine lv_iconst (v := 0) hx hb dMd_says_76 (by decide) ?_
        exact blk77 _ false ls hfn (lv_sub hl [] rfl)
      · rw [if_pos c_4] at hfn
        refine lv_iconst (v := 1) hx hb dMd_says_72 (by decide) ?_
        refine lv_goto (tgt := 77) hx hb dMd_says_73 (by decide) ?_
        exact blk77 _ true ls hfn (lv_sub hl [] rfl)
    · rw [if_neg c_2] at hfn
      by_cases c_5 : mkd = 2
      · rw [if_pos c_5] at hfn
        refine lv_tableIn (tgt := 78) hx hb dMd_says_10 (by rw [c_5]; decide) (by rw [c_5]; decide) (by rw [c_5]; rfl) (by decide) ?_
        refine lv_aload_n hx hb dMd_says_78 rfl (lv_at hl 1 rfl) ?_
        refine va_get (D := (dC, dI)) (ci := 11) (v := .ref r_plain) (C := R_Md) (T := T_Md) (N := 31) hx hb htg in_Md hown hK hP 0 rfl rfl 12 (by decide) (htg _ wd_807) (fun _ h9 => h9) rfl dMd_says_79 ?_
        refine lv_iload_n hx hb dMd_says_82 rfl (lv_at hl 0 rfl) ?_
        obtain ⟨g_6, hfn⟩ := og hfn
        refine va_iald hx hb hK hP 2 0 rfl rfl g_6 dMd_says_83 ?_
        refine lv_iconst (v := 1) hx hb dMd_says_84 (by decide) ?_
        refine lv_icmp_le (tgt := 92) hx hb dMd_says_85 (by decide) (fun c_7 => ?_) (fun c_7 => ?_)
        · rw [if_pos c_7] at hfn
          refine lv_iconst (v := 0) hx hb dMd_says_92 (by decide) ?_
          exact blk93 _ false ls hfn (lv_sub hl [] rfl)
        · rw [if_neg c_7] at hfn
          refine lv_iconst (v := 1) hx hb dMd_says_88 (by decide) ?_
          refine lv_goto (tgt := 93) hx hb dMd_says_89 (by decide) ?_
          exact blk93 _ true ls hfn (lv_sub hl [] rfl)
      · rw [if_neg c_5] at hfn
        by_cases c_8 : mkd = 3
        · rw [if_pos c_8] at hfn
          refine lv_tableIn (tgt := 94) hx hb dMd_says_10 (by rw [c_8]; decide) (by rw [c_8]; decide) (by rw [c_8]; rfl) (by decide) ?_
          refine lv_aload_n hx hb dMd_says_94 rfl (lv_at hl 1 rfl) ?_
          refine va_get (D := (dC, dI)) (ci := 11) (v := .ref r_mixed) (C := R_Md) (T := T_Md) (N := 31) hx hb htg in_Md hown hK hP 0 rfl rfl 13 (by decide) (htg _ wd_808) (fun _ h9 => h9) rfl dMd_says_95 ?_
          refine lv_aload_n hx hb dMd_says_98 rfl (lv_at hl 1 rfl) ?_
          refine lv_iload_n hx hb dMd_says_99 rfl (lv_at hl 2 rfl) ?_
          refine lv_iload_n hx hb dMd_says_100 rfl (lv_at hl 3 rfl) ?_
          refine rd_V (As := [.int pl, .int hs]) (rest := [.ref r_mixed]) ⟨hx, hb, hml, hown, htg⟩ (c_Md_mixedRow l dC dI cA o0 r_lastBit r_plain r_mixed r_chooser r_own r_ownCounter r_tag r_sum r_use r_weight r_loopTag r_length r_count r_trust r_waitPlace r_waitHistory r_waitSaid r_mark mt mkd mbt mrw mhs mco mey mu1 mu2 mu3 mu4 mwt mmk pl hs) (cw_V htg wd_910 ws_21 qMd_mixedRow iMd_mixedRow kMd_mixedRow pMd_mixedRow rfl rfl ⟨Nat.le_of_ble_eq_true rfl, Nat.le_of_ble_eq_true rfl⟩) (va_recv hK hP (ci := 11) (q0 := 0) rfl rfl) hN (hP.sub [0] rfl) hK rfl hl.1 rfl (Nat.le_of_ble_eq_true rfl) dMd_says_101 ⟨Nat.le_of_ble_eq_true rfl, Nat.le_of_ble_eq_true rfl⟩ ?_
          obtain ⟨g_9, hfn⟩ := og hfn
          refine va_iald hx hb hK hP 3 0 rfl rfl g_9 dMd_says_104 ?_
          refine lv_iconst (v := 1) hx hb dMd_says_105 (by decide) ?_
          refine lv_icmp_le (tgt := 113) hx hb dMd_says_106 (by decide) (fun c_10 => ?_) (fun c_10 => ?_)
          · rw [if_pos c_10] at hfn
            refine lv_iconst (v := 0) hx hb dMd_says_113 (by decide) ?_
            exact blk114 _ false ls hfn (lv_sub hl [] rfl)
          · rw [if_neg c_10] at hfn
            refine lv_iconst (v := 1) hx hb dMd_says_109 (by decide) ?_
            refine lv_goto (tgt := 114) hx hb dMd_says_110 (by decide) ?_
            exact blk114 _ true ls hfn (lv_sub hl [] rfl)
        · rw [if_neg c_8] at hfn
          by_cases c_11 : mkd = 4
          · rw [if_pos c_11] at hfn
            refine lv_tableIn (tgt := 115) hx hb dMd_says_10 (by rw [c_11]; decide) (by rw [c_11]; decide) (by rw [c_11]; rfl) (by decide) ?_
            refine lv_aload_n hx hb dMd_says_115 rfl (lv_at hl 1 rfl) ?_
            refine va_get (D := (dC, dI)) (ci := 11) (v := .ref r_ownCounter) (C := R_Md) (T := T_Md) (N := 31) hx hb htg in_Md hown hK hP 0 rfl rfl 16 (by decide) (htg _ wd_811) (fun _ h9 => h9) rfl dMd_says_116 ?_
            refine lv_aload_n hx hb dMd_says_119 rfl (lv_at hl 1 rfl) ?_
            refine va_get (D := (dC, dI)) (ci := 11) (v := .ref r_own) (C := R_Md) (T := T_Md) (N := 31) hx hb htg in_Md hown hK hP 0 rfl rfl 15 (by decide) (htg _ wd_810) (fun _ h9 => h9) rfl dMd_says_120 ?_
            refine lv_iload_n hx hb dMd_says_123 rfl (lv_at hl 0 rfl) ?_
            obtain ⟨g_12, hfn⟩ := og hfn
            refine va_iald hx hb hK hP 5 0 rfl rfl g_12 dMd_says_124 ?_
            obtain ⟨g_13, hfn⟩ := og hfn
            refine va_iald hx hb hK hP 6 0 rfl rfl g_13 dMd_says_125 ?_
            refine lv_iconst (v := 1) hx hb dMd_says_126 (by decide) ?_
            refine lv_icmp_le (tgt := 134) hx hb dMd_says_127 (by decide) (fun c_14 => ?_) (fun c_14 => ?_)
            · rw [if_pos c_14] at hfn
              refine lv_iconst (v := 0) hx hb dMd_says_134 (by decide) ?_
              exact blk135 _ false ls hfn (lv_sub hl [] rfl)
            · rw [if_neg c_14] at hfn
              refine lv_iconst (v := 1) hx hb dMd_says_130 (by decide) ?_
              refine lv_goto (tgt := 135) hx hb dMd_says_131 (by decide) ?_
              exact blk135 _ true ls hfn (lv_sub hl [] rfl)
          · rw [if_neg c_11] at hfn
            by_cases c_15 : mkd = 5
            · rw [if_pos c_15] at hfn
              refine lv_tableIn (tgt := 136) hx hb dMd_says_10 (by rw [c_15]; decide) (by rw [c_15]; decide) (by rw [c_15]; rfl) (by decide) ?_
              refine lv_aload_n hx hb dMd_says_136 rfl (lv_at hl 1 rfl) ?_
              refine va_get (D := (dC, dI)) (ci := 11) (v := .ref r_chooser) (C := R_Md) (T := T_Md) (N := 31) hx hb htg in_Md hown hK hP 0 rfl rfl 14 (by decide) (htg _ wd_809) (fun _ h9 => h9) rfl dMd_says_137 ?_
              refine lv_iload_n hx hb dMd_says_140 rfl (lv_at hl 0 rfl) ?_
              obtain ⟨g_16, hfn⟩ := og hfn
              refine va_iald hx hb hK hP 4 0 rfl rfl g_16 dMd_says_141 ?_
              refine lv_iconst (v := 1) hx hb dMd_says_142 (by decide) ?_
              refine lv_icmp_le (tgt := 169) hx hb dMd_says_143 (by decide) (fun c_17 => ?_) (fun c_17 => ?_)
              · rw [if_pos c_17] at hfn
                refine lv_aload_n hx hb dMd_says_169 rfl (lv_at hl 1 rfl) ?_
                refine va_get (D := (dC, dI)) (ci := 11) (v := .ref r_plain) (C := R_Md) (T := T_Md) (N := 31) hx hb htg in_Md hown hK hP 0 rfl rfl 12 (by decide) (htg _ wd_807) (fun _ h9 => h9) rfl dMd_says_170 ?_
                refine lv_iload_n hx hb dMd_says_173 rfl (lv_at hl 0 rfl) ?_
                obtain ⟨g_18, hfn⟩ := og hfn
                refine va_iald hx hb hK hP 2 0 rfl rfl g_18 dMd_says_174 ?_
                refine lv_iconst (v := 1) hx hb dMd_says_175 (by decide) ?_
                refine lv_icmp_le (tgt := 183) hx hb dMd_says_176 (by decide) (fun c_19 => ?_) (fun c_19 => ?_)
                · rw [if_pos c_19] at hfn
                  refine lv_iconst (v := 0) hx hb dMd_says_183 (by decide) ?_
                  exact blk184 _ false ls hfn (lv_sub hl [] rfl)
                · rw [if_neg c_19] at hfn
                  refine lv_iconst (v := 1) hx hb dMd_says_179 (by decide) ?_
                  refine lv_goto (tgt := 184) hx hb dMd_says_180 (by decide) ?_
                  exact blk184 _ true ls hfn (lv_sub hl [] rfl)
              · rw [if_neg c_17] at hfn
                refine lv_aload_n hx hb dMd_says_146 rfl (lv_at hl 1 rfl) ?_
                refine va_get (D := (dC, dI)) (ci := 11) (v := .ref r_mixed) (C := R_Md) (T := T_Md) (N := 31) hx hb htg in_Md hown hK hP 0 rfl rfl 13 (by decide) (htg _ wd_808) (fun _ h9 => h9) rfl dMd_says_147 ?_
                refine lv_aload_n hx hb dMd_says_150 rfl (lv_at hl 1 rfl) ?_
                refine lv_iload_n hx hb dMd_says_151 rfl (lv_at hl 2 rfl) ?_
                refine lv_iload_n hx hb dMd_says_152 rfl (lv_at hl 3 rfl) ?_
                refine rd_V (As := [.int pl, .int hs]) (rest := [.ref r_mixed]) ⟨hx, hb, hml, hown, htg⟩ (c_Md_mixedRow l dC dI cA o0 r_lastBit r_plain r_mixed r_chooser r_own r_ownCounter r_tag r_sum r_use r_weight r_loopTag r_length r_count r_trust r_waitPlace r_waitHistory r_waitSaid r_mark mt mkd mbt mrw mhs mco mey mu1 mu2 mu3 mu4 mwt mmk pl hs) (cw_V htg wd_910 ws_21 qMd_mixedRow iMd_mixedRow kMd_mixedRow pMd_mixedRow rfl rfl ⟨Nat.le_of_ble_eq_true rfl, Nat.le_of_ble_eq_true rfl⟩) (va_recv hK hP (ci := 11) (q0 := 0) rfl rfl) hN (hP.sub [0] rfl) hK rfl hl.1 rfl (Nat.le_of_ble_eq_true rfl) dMd_says_153 ⟨Nat.le_of_ble_eq_true rfl, Nat.le_of_ble_eq_true rfl⟩ ?_
                obtain ⟨g_20, hfn⟩ := og hfn
                refine va_iald hx hb hK hP 3 0 rfl rfl g_20 dMd_says_156 ?_
                refine lv_iconst (v := 1) hx hb dMd_says_157 (by decide) ?_
                refine lv_icmp_le (tgt := 165) hx hb dMd_says_158 (by decide) (fun c_21 => ?_) (fun c_21 => ?_)
                · rw [if_pos c_21] at hfn
                  refine lv_iconst (v := 0) hx hb dMd_says_165 (by decide) ?_
                  refine lv_goto (tgt := 184) hx hb dMd_says_166 (by decide) ?_
                  exact blk184 _ false ls hfn (lv_sub hl [] rfl)
                · rw [if_neg c_21] at hfn
                  refine lv_iconst (v := 1) hx hb dMd_says_161 (by decide) ?_
                  refine lv_goto (tgt := 184) hx hb dMd_says_162 (by decide) ?_
                  exact blk184 _ true ls hfn (lv_sub hl [] rfl)
            · rw [if_neg c_15] at hfn
              by_cases c_22 : mkd = 6
              · rw [if_pos c_22] at hfn
                refine lv_tableIn (tgt := 185) hx hb dMd_says_10 (by rw [c_22]; decide) (by rw [c_22]; decide) (by rw [c_22]; rfl) (by decide) ?_
                refine lv_aload_n hx hb dMd_says_185 rfl (lv_at hl 1 rfl) ?_
                refine lv_aload_n hx hb dMd_says_186 rfl (lv_at hl 1 rfl) ?_
                refine lv_iconst (v := 3) hx hb dMd_says_187 (by decide) ?_
                refine lv_iload_n hx hb dMd_says_188 rfl (lv_at hl 2 rfl) ?_
                refine lv_iload_n hx hb dMd_says_189 rfl (lv_at hl 3 rfl) ?_
                obtain ⟨z_23, hz_23, hfn⟩ := ob hfn
                refine rd_V (As := [.int 3, .int pl, .int hs]) (rest := [.ref o0]) ⟨hx, hb, hml, hown, htg⟩ (c_Md_hitBefore l dC dI cA o0 r_tag r_lastBit r_plain r_mixed r_chooser r_own r_ownCounter r_sum r_use r_weight r_loopTag r_length r_count r_trust r_waitPlace r_waitHistory r_waitSaid r_mark mt mkd mbt mrw mhs mco mey mu1 mu2 mu3 mu4 mwt mmk g_tag 3 pl hs z_23 hz_23) (cw_V htg wd_914 ws_22 qMd_hitBefore iMd_hitBefore kMd_hitBefore pMd_hitBefore rfl rfl ⟨Nat.le_of_ble_eq_true rfl, Nat.le_of_ble_eq_true rfl⟩) (va_recv hK hP (ci := 11) (q0 := 0) rfl rfl) hN (hP.sub [0, 7] rfl) hK rfl hl.1 rfl (Nat.le_of_ble_eq_true rfl) dMd_says_190 ⟨Nat.le_of_ble_eq_true rfl, Nat.le_of_ble_eq_true rfl⟩ ?_
                refine lv_iload_n hx hb dMd_says_193 rfl (lv_at hl 2 rfl) ?_
                refine lv_iload_n hx hb dMd_says_194 rfl (lv_at hl 3 rfl) ?_
                obtain ⟨z_24, hz_24, hfn⟩ := ob hfn
                refine rd_V (As := [.int z_23, .int pl, .int hs]) (rest := []) ⟨hx, hb, hml, hown, htg⟩ (c_Md_saidBy l dC dI cA o0 r_plain r_sum r_lastBit r_mixed r_chooser r_own r_ownCounter r_tag r_use r_weight r_loopTag r_length r_count r_trust r_waitPlace r_waitHistory r_waitSaid r_mark mt mkd mbt mrw mhs mco mey mu1 mu2 mu3 mu4 mwt mmk g_plain g_sum z_23 pl hs z_24 hz_24) (cw_V htg wd_935 ws_25 qMd_saidBy iMd_saidBy kMd_saidBy pMd_saidBy rfl rfl ⟨Nat.le_of_ble_eq_true rfl, Nat.le_of_ble_eq_true rfl⟩) (va_recv hK hP (ci := 11) (q0 := 0) rfl rfl) hN (hP.sub [0, 2, 8] rfl) hK rfl hl.1 rfl (Nat.le_of_ble_eq_true rfl) dMd_says_195 ⟨Nat.le_of_ble_eq_true rfl, Nat.le_of_ble_eq_true rfl⟩ ?_
                replace hfn := Option.some.inj hfn
                subst hfn
                exact W.zret hx hb hr (nar_bI _) (fun t ht hW => ⟨rfl, ht⟩) (fun _ h => by cases h) dMd_says_198
              · rw [if_neg c_22] at hfn
                by_cases c_25 : mkd = 7
                · rw [if_pos c_25] at hfn
                  refine lv_tableIn (tgt := 199) hx hb dMd_says_10 (by rw [c_25]; decide) (by rw [c_25]; decide) (by rw [c_25]; rfl) (by decide) ?_
                  refine lv_aload_n hx hb dMd_says_199 rfl (lv_at hl 1 rfl) ?_
                  refine lv_iload_n hx hb dMd_says_200 rfl (lv_at hl 2 rfl) ?_
                  refine lv_iload_n hx hb dMd_says_201 rfl (lv_at hl 3 rfl) ?_
                  obtain ⟨z_26, hz_26, hfn⟩ := ob hfn
                  refine rd_V (As := [.int pl, .int hs]) (rest := []) ⟨hx, hb, hml, hown, htg⟩ (c_Md_total l dC dI cA o0 r_weight r_lastBit r_plain r_mixed r_chooser r_own r_ownCounter r_tag r_sum r_use r_loopTag r_length r_count r_trust r_waitPlace r_waitHistory r_waitSaid r_mark mt mkd mbt mrw mhs mco mey mu1 mu2 mu3 mu4 mwt mmk g_weight pl hs z_26 hz_26) (cw_V htg wd_939 ws_26 qMd_total iMd_total kMd_total pMd_total rfl rfl ⟨Nat.le_of_ble_eq_true rfl, Nat.le_of_ble_eq_true rfl⟩) (va_recv hK hP (ci := 11) (q0 := 0) rfl rfl) hN (hP.sub [0, 9] rfl) hK rfl hl.1 rfl (Nat.le_of_ble_eq_true rfl) dMd_says_202 ⟨Nat.le_of_ble_eq_true rfl, Nat.le_of_ble_eq_true rfl⟩ ?_
                  refine lv_if_lt (tgt := 212) hx hb dMd_says_205 (by decide) (fun c_27 => ?_) (fun c_27 => ?_)
                  · rw [if_pos c_27] at hfn
                    refine lv_iconst (v := 0) hx hb dMd_says_212 (by decide) ?_
                    exact blk213 _ false ls hfn (lv_sub hl [] rfl)
                  · rw [if_neg c_27] at hfn
                    refine lv_iconst (v := 1) hx hb dMd_says_208 (by decide) ?_
                    refine lv_goto (tgt := 213) hx hb dMd_says_209 (by decide) ?_
                    exact blk213 _ true ls hfn (lv_sub hl [] rfl)
                · rw [if_neg c_25] at hfn
                  by_cases c_28 : mkd = 8
                  · rw [if_pos c_28] at hfn
                    refine lv_tableIn (tgt := 214) hx hb dMd_says_10 (by rw [c_28]; decide) (by rw [c_28]; decide) (by rw [c_28]; rfl) (by decide) ?_
                    refine lv_aload_n hx hb dMd_says_214 rfl (lv_at hl 1 rfl) ?_
                    refine lv_iload_n hx hb dMd_says_215 rfl (lv_at hl 2 rfl) ?_
                    obtain ⟨z_29, hz_29, hfn⟩ := ob hfn
                    refine rd_V (As := [.int pl]) (rest := []) ⟨hx, hb, hml, hown, htg⟩ (c_Md_isLoop l dC dI cA o0 r_loopTag r_trust r_lastBit r_plain r_mixed r_chooser r_own r_ownCounter r_tag r_sum r_use r_weight r_length r_count r_waitPlace r_waitHistory r_waitSaid r_mark mt mkd mbt mrw mhs mco mey mu1 mu2 mu3 mu4 mwt mmk g_loopTag g_trust pl z_29 hz_29) (cw_V htg wd_943 ws_27 qMd_isLoop iMd_isLoop kMd_isLoop pMd_isLoop rfl rfl ⟨Nat.le_of_ble_eq_true rfl, Nat.le_of_ble_eq_true rfl⟩) (va_recv hK hP (ci := 11) (q0 := 0) rfl rfl) hN (hP.sub [0, 10, 13] rfl) hK rfl hl.1 rfl (Nat.le_of_ble_eq_true rfl) dMd_says_216 ⟨Nat.le_of_ble_eq_true rfl, Nat.le_of_ble_eq_true rfl⟩ ?_
                    refine lv_if_eq (tgt := 245) hx hb dMd_says_219 (by decide) (fun c_30 => ?_) (fun c_30 => ?_)
                    · rw [if_pos c_30] at hfn
                      refine lv_aload_n hx hb dMd_says_245 rfl (lv_at hl 1 rfl) ?_
                      refine va_get (D := (dC, dI)) (ci := 11) (v := .ref r_plain) (C := R_Md) (T := T_Md) (N := 31) hx hb htg in_Md hown hK hP 0 rfl rfl 12 (by decide) (htg _ wd_807) (fun _ h9 => h9) rfl dMd_says_246 ?_
                      refine lv_iload_n hx hb dMd_says_249 rfl (lv_at hl 0 rfl) ?_
                      obtain ⟨g_31, hfn⟩ := og hfn
                      refine va_iald hx hb hK hP 2 0 rfl rfl g_31 dMd_says_250 ?_
                      refine lv_iconst (v := 1) hx hb dMd_says_251 (by decide) ?_
                      refine lv_icmp_le (tgt := 259) hx hb dMd_says_252 (by decide) (fun c_32 => ?_) (fun c_32 => ?_)
                      · rw [if_pos c_32] at hfn
                        refine lv_iconst (v := 0) hx hb dMd_says_259 (by decide) ?_
                        exact blk260 _ false ls hfn (lv_sub hl [] rfl)
                      · rw [if_neg c_32] at hfn
                        refine lv_iconst (v := 1) hx hb dMd_says_255 (by decide) ?_
                        refine lv_goto (tgt := 260) hx hb dMd_says_256 (by decide) ?_
                        exact blk260 _ true ls hfn (lv_sub hl [] rfl)
                    · rw [if_neg c_30] at hfn
                      refine lv_aload_n hx hb dMd_says_222 rfl (lv_at hl 1 rfl) ?_
                      refine va_get (D := (dC, dI)) (ci := 11) (v := .ref r_count) (C := R_Md) (T := T_Md) (N := 31) hx hb htg in_Md hown hK hP 0 rfl rfl 23 (by decide) (htg _ wd_818) (fun _ h9 => h9) rfl dMd_says_223 ?_
                      refine lv_iload_n hx hb dMd_says_226 rfl (lv_at hl 0 rfl) ?_
                      obtain ⟨g_33, hfn⟩ := og hfn
                      refine va_iald hx hb hK hP 12 0 rfl rfl g_33 dMd_says_227 ?_
                      refine lv_aload_n hx hb dMd_says_228 rfl (lv_at hl 1 rfl) ?_
                      refine va_get (D := (dC, dI)) (ci := 11) (v := .ref r_length) (C := R_Md) (T := T_Md) (N := 31) hx hb htg in_Md hown hK hP 0 rfl rfl 22 (by decide) (htg _ wd_817) (fun _ h9 => h9) rfl dMd_says_229 ?_
                      refine lv_iload_n hx hb dMd_says_232 rfl (lv_at hl 0 rfl) ?_
                      obtain ⟨g_34, hfn⟩ := og hfn
                      refine va_iald hx hb hK hP 11 0 rfl rfl g_34 dMd_says_233 ?_
                      refine lv_icmp_ge (tgt := 241) hx hb dMd_says_234 (by decide) (fun c_35 => ?_) (fun c_35 => ?_)
                      · rw [if_pos c_35] at hfn
                        refine lv_iconst (v := 0) hx hb dMd_says_241 (by decide) ?_
                        refine lv_goto (tgt := 260) hx hb dMd_says_242 (by decide) ?_
                        exact blk260 _ false ls hfn (lv_sub hl [] rfl)
                      · rw [if_neg c_35] at hfn
                        refine lv_iconst (v := 1) hx hb dMd_says_237 (by decide) ?_
                        refine lv_goto (tgt := 260) hx hb dMd_says_238 (by decide) ?_
                        exact blk260 _ true ls hfn (lv_sub hl [] rfl)
                  · rw [if_neg c_28] at hfn
                    refine lv_tableOut (tgt := 261) hx hb dMd_says_10 (by have := ne_toInt (z := 0) c_1 (by decide); have := ne_toInt (z := 1) c_2 (by decide); have := ne_toInt (z := 2) c_5 (by decide); have := ne_toInt (z := 3) c_8 (by decide); have := ne_toInt (z := 4) c_11 (by decide); have := ne_toInt (z := 5) c_15 (by decide); have := ne_toInt (z := 6) c_22 (by decide); have := ne_toInt (z := 7) c_25 (by decide); have := ne_toInt (z := 8) c_28 (by decide); omega) (by decide) ?_
                    refine lv_aload_n hx hb dMd_says_261 rfl (lv_at hl 1 rfl) ?_
                    refine va_get (D := (dC, dI)) (ci := 11) (v := .int mco) (C := R_Md) (T := T_Md) (N := 31) hx hb htg in_Md hown hK hP 0 rfl rfl 5 (by decide) (htg _ wd_800) (fun _ h9 => h9) rfl dMd_says_262 ?_
                    refine lv_bipush (v := 16) hx hb dMd_says_265 (by decide) ?_
                    refine lv_iushr (v := (us mco 16)) hx hb dMd_says_267 rfl ?_
                    refine lv_iconst (v := 1) hx hb dMd_says_268 (by decide) ?_
                    refine lv_iand hx hb dMd_says_269 ?_
                    refine lv_iconst (v := 1) hx hb dMd_says_270 (by decide) ?_
                    refine lv_icmp_ne (tgt := 278) hx hb dMd_says_271 (by decide) (fun c_36 => ?_) (fun c_36 => ?_)
                    · rw [if_neg c_36] at hfn
                      refine lv_iconst (v := 0) hx hb dMd_says_278 (by decide) ?_
                      replace hfn := Option.some.inj hfn
                      subst hfn
                      exact W.zret hx hb hr rfl (fun t ht hW => ⟨rfl, ht⟩) (fun _ h => by cases h) dMd_says_279
                    · rw [if_pos c_36] at hfn
                      refine lv_iconst (v := 1) hx hb dMd_says_274 (by decide) ?_
                      refine lv_goto (tgt := 279) hx hb dMd_says_275 (by decide) ?_
                      replace hfn := Option.some.inj hfn
                      subst hfn
                      exact W.zret hx hb hr rfl (fun t ht hW => ⟨rfl, ht⟩) (fun _ h => by cases h) dMd_says_279
def of_Md_allot_b86 : Nat → Int32 → Int32 → (Nat → Int32) → (Nat → Int32) → Int32 → Int32 → Int32 → (Nat → Int32) → Option ((Nat → Int32) × (Nat → Int32) × (Nat → Int32))
  | 0, _, _, _, _, _, _, _, _ => none
  | n + 1, mbt, mrw, g_tag, g_sum, pl, hs, v6_b86, w_r_use_a_b86 => (if 3 ≤ v6_b86 then some (g_tag, g_sum, w_r_use_a_b86) else ((of_Md_taggedRow mbt mrw v6_b86 pl hs).bind fun z_13 => (if z_13 < 0 ∨ 3072 ≤ z_13.toNatClampNeg then none else (if z_13 < 0 ∨ 3072 ≤ z_13.toNatClampNeg then none else of_Md_allot_b86 n mbt mrw g_tag g_sum pl hs (v6_b86 + 1) (upd w_r_use_a_b86 z_13.toNatClampNeg ((w_r_use_a_b86 z_13.toNatClampNeg) - 1))))))
def of_Md_allot_b79 (g_sum : Nat → Int32) (g_use : Nat → Int32) (s0_b79 : Int32) (s1_b79 : Int32) (w_r_tag_a_b79 : Nat → Int32) : Option ((Nat → Int32) × (Nat → Int32) × (Nat → Int32)) := (if s1_b79 < 0 ∨ 3072 ≤ s1_b79.toNatClampNeg then none else some (w_r_tag_a_b79, (upd g_sum s1_b79.toNatClampNeg s0_b79), g_use))
def of_Md_allot_b31 (mbt : Int32) (mrw : Int32) (g_tag : Nat → Int32) (g_sum : Nat → Int32) (g_use : Nat → Int32) (t0 : Int32) (pl : Int32) (hs : Int32) (tk : Bool) (v5_b31 : Int32) : Option ((Nat → Int32) × (Nat → Int32) × (Nat → Int32)) := (if 3 ≤ v5_b31 then of_Md_allot_b86 4096 mbt mrw g_tag g_sum pl hs t0 g_use else ((of_Md_taggedRow mbt mrw v5_b31 pl hs).bind fun z_6 => ((of_Md_tagOf v5_b31 pl hs).bind fun z_7 => (if z_6 < 0 ∨ 3072 ≤ z_6.toNatClampNeg then none else ((of_Md_taggedRow mbt mrw v5_b31 pl hs).bind fun z_9 => (if (bI tk) = 0 then of_Md_allot_b79 g_sum g_use (-1) z_9 (upd g_tag z_6.toNatClampNeg z_7) else of_Md_allot_b79 g_sum g_use 0 z_9 (upd g_tag z_6.toNatClampNeg z_7)))))))
def of_Md_allot_b3 : Nat → Int32 → Int32 → (Nat → Int32) → (Nat → Int32) → (Nat → Int32) → Int32 → Int32 → Int32 → Bool → Int32 → Option ((Nat → Int32) × (Nat → Int32) × (Nat → Int32))
  | 0, _, _, _, _, _, _, _, _, _, _ => none
  | n + 1, mbt, mrw, g_tag, g_sum, g_use, t0, pl, hs, tk, v5_b3 => (if 3 ≤ v5_b3 then of_Md_allot_b31 mbt mrw g_tag g_sum g_use t0 pl hs tk v5_b3 else ((of_Md_taggedRow mbt mrw v5_b3 pl hs).bind fun z_2 => (if z_2 < 0 ∨ 3072 ≤ z_2.toNatClampNeg then none else (if (g_use z_2.toNatClampNeg) ≤ 0 then of_Md_allot_b31 mbt mrw g_tag g_sum g_use t0 pl hs tk v5_b3 else of_Md_allot_b3 n mbt mrw g_tag g_sum g_use t0 pl hs tk (v5_b3 + 1)))))
def of_Md_allot (mbt : Int32) (mrw : Int32) (g_tag : Nat → Int32) (g_sum : Nat → Int32) (g_use : Nat → Int32) (t0 : Int32) (pl : Int32) (hs : Int32) (tk : Bool) : Option ((Nat → Int32) × (Nat → Int32) × (Nat → Int32)) := of_Md_allot_b3 4096 mbt mrw g_tag g_sum g_use t0 pl hs tk t0
set_option maxHeartbeats 4000000 in
set_option maxRecDepth 100000 in
theorem c_Md_allot (l : Launch) (dC : Nat → ClassId) (dI : Nat → Nat → Nat) (cA : ClassId × ClassId × ClassId) (zz : Nat) (o0 : Nat) (r_tag : Nat) (r_sum : Nat) (r_use : Nat) (r_lastBit : Nat) (r_plain : Nat) (r_mixed : Nat) (r_chooser : Nat) (r_own : Nat) (r_ownCounter : Nat) (r_weight : Nat) (r_loopTag : Nat) (r_length : Nat) (r_count : Nat) (r_trust : Nat) (r_waitPlace : Nat) (r_waitHistory : Nat) (r_waitSaid : Nat) (r_mark : Nat) (mt : Int32) (mkd : Int32) (mbt : Int32) (mrw : Int32) (mhs : Int32) (mco : Int32) (mey : Bool) (mu1 : Int32) (mu2 : Int32) (mu3 : Int32) (mu4 : Int32) (mwt : Int32) (mmk : Int32) (g_tag : Nat → Int32) (g_sum : Nat → Int32) (g_use : Nat → Int32) (t0 : Int32) (pl : Int32) (hs : Int32) (tk : Bool) (rs0 : (Nat → Int32)) (rs1 : (Nat → Int32)) (rs2 : (Nat → Int32)) (hfn : (of_Md_allot mbt mrw g_tag g_sum g_use t0 pl hs tk) = some (rs0, rs1, rs2)) : Met l yMd_allot wMd_allot ({ frames := 2, cells := 0, slots := 0, locals := 47 }) (va_Pc [.ref o0, .int t0, .int pl, .int hs, .int (bI tk)] (Wr (dC, dI) cA zz [(o0, .inr (11, [.int mt, .int mkd, .int mbt, .int mrw, .int mhs, .int mco, .int (bI mey), .int mu1, .int mu2, .int mu3, .int mu4, .ref r_lastBit, .ref r_plain, .ref r_mixed, .ref r_chooser, .ref r_own, .ref r_ownCounter, .ref r_tag, .ref r_sum, .ref r_use, .ref r_weight, .ref r_loopTag, .ref r_length, .ref r_count, .ref r_trust, .int mwt, .ref r_waitPlace, .ref r_waitHistory, .ref r_waitSaid, .int mmk, .ref r_mark])), (r_tag, .inl (cA.1, 3072, .inl g_tag)), (r_sum, .inl (cA.1, 3072, .inl g_sum)), (r_use, .inl (cA.1, 3072, .inl g_use))])) (va_Qv (fun w9 => w9 = [(o0, .inr (11, [.int mt, .int mkd, .int mbt, .int mrw, .int mhs, .int mco, .int (bI mey), .int mu1, .int mu2, .int mu3, .int mu4, .ref r_lastBit, .ref r_plain, .ref r_mixed, .ref r_chooser, .ref r_own, .ref r_ownCounter, .ref r_tag, .ref r_sum, .ref r_use, .ref r_weight, .ref r_loopTag, .ref r_length, .ref r_count, .ref r_trust, .int mwt, .ref r_waitPlace, .ref r_waitHistory, .ref r_waitSaid, .int mmk, .ref r_mark])), (r_tag, .inl (cA.1, 3072, .inl rs0)), (r_sum, .inl (cA.1, 3072, .inl rs1)), (r_use, .inl (cA.1, 3072, .inl rs2))]) (At (dC, dI) cA (va_A [(o0, .inr (11, [.int mt, .int mkd, .int mbt, .int mrw, .int mhs, .int mco, .int (bI mey), .int mu1, .int mu2, .int mu3, .int mu4, .ref r_lastBit, .ref r_plain, .ref r_mixed, .ref r_chooser, .ref r_own, .ref r_ownCounter, .ref r_tag, .ref r_sum, .ref r_use, .ref r_weight, .ref r_loopTag, .ref r_length, .ref r_count, .ref r_trust, .int mwt, .ref r_waitPlace, .ref r_waitHistory, .ref r_waitSaid, .int mmk, .ref r_mark])), (r_tag, .inl (cA.1, 3072, .inl g_tag)), (r_sum, .inl (cA.1, 3072, .inl g_sum)), (r_use, .inl (cA.1, 3072, .inl g_use))] zz)) (va_A [(o0, .inr (11, [.int mt, .int mkd, .int mbt, .int mrw, .int mhs, .int mco, .int (bI mey), .int mu1, .int mu2, .int mu3, .int mu4, .ref r_lastBit, .ref r_plain, .ref r_mixed, .ref r_chooser, .ref r_own, .ref r_ownCounter, .ref r_tag, .ref r_sum, .ref r_use, .ref r_weight, .ref r_loopTag, .ref r_length, .ref r_count, .ref r_trust, .int mwt, .ref r_waitPlace, .ref r_waitHistory, .ref r_waitSaid, .int mmk, .ref r_mark])), (r_tag, .inl (cA.1, 3072, .inl g_tag)), (r_sum, .inl (cA.1, 3072, .inl g_sum)), (r_use, .inl (cA.1, 3072, .inl g_use))] zz)) 0 0 (va_A [(o0, .inr (11, [.int mt, .int mkd, .int mbt, .int mrw, .int mhs, .int mco, .int (bI mey), .int mu1, .int mu2, .int mu3, .int mu4, .ref r_lastBit, .ref r_plain, .ref r_mixed, .ref r_chooser, .ref r_own, .ref r_ownCounter, .ref r_tag, .ref r_sum, .ref r_use, .ref r_weight, .ref r_loopTag, .ref r_length, .ref r_count, .ref r_trust, .int mwt, .ref r_waitPlace, .ref r_waitHistory, .ref r_waitSaid, .int mmk, .ref r_mark])), (r_tag, .inl (cA.1, 3072, .inl g_tag)), (r_sum, .inl (cA.1, 3072, .inl g_sum)), (r_use, .inl (cA.1, 3072, .inl g_use))] zz) := by
  refine Met.ofW (cc := cMd_allot) (maxL := 7) (ret := none) (by decide) rfl ?_
  intro p e s m args below meth c s₁ B hml hv
  obtain ⟨rfl, hsz, hN, hP, hK, hD0⟩ := hv
  have hx := B.exec
  have hb := B.bytes
  have hr := B.returns
  have hts := atoms_spec (ws := wMd_allot) B.pre
  have htg : ∀ w ∈ GW, w.before _ s = true := fun w h => hts w (List.mem_cons_of_mem _ h)
  have hown : s.vm.findClass R_Md = some m.cls := findClass_of_methodNamed B.named
  have hlocks := B.notSynchronized
  subst hsz
  have hD := hD0.self (sz := s.heap.size)
  generalize hAe : va_A [(o0, .inr (11, [.int mt, .int mkd, .int mbt, .int mrw, .int mhs, .int mco, .int (bI mey), .int mu1, .int mu2, .int mu3, .int mu4, .ref r_lastBit, .ref r_plain, .ref r_mixed, .ref r_chooser, .ref r_own, .ref r_ownCounter, .ref r_tag, .ref r_sum, .ref r_use, .ref r_weight, .ref r_loopTag, .ref r_length, .ref r_count, .ref r_trust, .int mwt, .ref r_waitPlace, .ref r_waitHistory, .ref r_waitSaid, .int mmk, .ref r_mark])), (r_tag, .inl (cA.1, 3072, .inl g_tag)), (r_sum, .inl (cA.1, 3072, .inl g_sum)), (r_use, .inl (cA.1, 3072, .inl g_use))] s.heap.size = A at hD ⊢
  have hA : ∀ q : Nat, s.heap.size ≤ q → A q := fun q h => by rw [← hAe]; exact Or.inr h
  have hS : va_S A s.heap s.heap [] := va_S.rf
  have hP : va_P (dC, dI) vwCl [(o0, .inr (11, [.int mt, .int mkd, .int mbt, .int mrw, .int mhs, .int mco, .int (bI mey), .int mu1, .int mu2, .int mu3, .int mu4, .ref r_lastBit, .ref r_plain, .ref r_mixed, .ref r_chooser, .ref r_own, .ref r_ownCounter, .ref r_tag, .ref r_sum, .ref r_use, .ref r_weight, .ref r_loopTag, .ref r_length, .ref r_count, .ref r_trust, .int mwt, .ref r_waitPlace, .ref r_waitHistory, .ref r_waitSaid, .int mmk, .ref r_mark])), (r_tag, .inl (cA.1, 3072, .inl g_tag)), (r_sum, .inl (cA.1, 3072, .inl g_sum)), (r_use, .inl (cA.1, 3072, .inl g_use))] s.heap := hP
  have blk86 : ∀ n : Nat, ∀ (rs0 : (Nat → Int32)) (rs1 : (Nat → Int32)) (rs2 : (Nat → Int32)) (v6_b86 : Int32) (w_r_use_a_b86 : Nat → Int32) (H : Heap) (locs : List Loc) (ls : Array Slot), of_Md_allot_b86 n mbt mrw g_tag g_sum pl hs v6_b86 w_r_use_a_b86 = some (rs0, rs1, rs2) → va_P (dC, dI) vwCl [(o0, .inr (11, [.int mt, .int mkd, .int mbt, .int mrw, .int mhs, .int mco, .int (bI mey), .int mu1, .int mu2, .int mu3, .int mu4, .ref r_lastBit, .ref r_plain, .ref r_mixed, .ref r_chooser, .ref r_own, .ref r_ownCounter, .ref r_tag, .ref r_sum, .ref r_use, .ref r_weight, .ref r_loopTag, .ref r_length, .ref r_count, .ref r_trust, .int mwt, .ref r_waitPlace, .ref r_waitHistory, .ref r_waitSaid, .int mmk, .ref r_mark])), (r_tag, .inl (cA.1, 3072, .inl g_tag)), (r_sum, .inl (cA.1, 3072, .inl g_sum)), (r_use, .inl (cA.1, 3072, .inl w_r_use_a_b86))] H → va_D A [(o0, .inr (11, [.int mt, .int mkd, .int mbt, .int mrw, .int mhs, .int mco, .int (bI mey), .int mu1, .int mu2, .int mu3, .int mu4, .ref r_lastBit, .ref r_plain, .ref r_mixed, .ref r_chooser, .ref r_own, .ref r_ownCounter, .ref r_tag, .ref r_sum, .ref r_use, .ref r_weight, .ref r_loopTag, .ref r_length, .ref r_count, .ref r_trust, .int mwt, .ref r_waitPlace, .ref r_waitHistory, .ref r_waitSaid, .int mmk, .ref r_mark])), (r_tag, .inl (cA.1, 3072, .inl g_tag)), (r_sum, .inl (cA.1, 3072, .inl g_sum)), (r_use, .inl (cA.1, 3072, .inl w_r_use_a_b86))] → va_S A s.heap H locs → lv_has ls 7 [(0, .ref o0), (2, .int pl), (3, .int hs), (6, .int v6_b86)] → W p l e (headSpec wMd_allot ({ frames := 2, cells := 0, slots := 0, locals := 47 })).room s m ([.ref o0, .int t0, .int pl, .int hs, .int (bI tk)] : List Value).toArray below meth c H locs 0 0 (MQ below (va_Qv (fun w9 => w9 = [(o0, .inr (11, [.int mt, .int mkd, .int mbt, .int mrw, .int mhs, .int mco, .int (bI mey), .int mu1, .int mu2, .int mu3, .int mu4, .ref r_lastBit, .ref r_plain, .ref r_mixed, .ref r_chooser, .ref r_own, .ref r_ownCounter, .ref r_tag, .ref r_sum, .ref r_use, .ref r_weight, .ref r_loopTag, .ref r_length, .ref r_count, .ref r_trust, .int mwt, .ref r_waitPlace, .ref r_waitHistory, .ref r_waitSaid, .int mmk, .ref r_mark])), (r_tag, .inl (cA.1, 3072, .inl rs0)), (r_sum, .inl (cA.1, 3072, .inl rs1)), (r_use, .inl (cA.1, 3072, .inl rs2))]) (At (dC, dI) cA A) A) ([.ref o0, .int t0, .int pl, .int hs, .int (bI tk)] : List Value).toArray s 0 0 A) (F0 m 86 ls []) := by
    intro n
    induction n with
    | zero =>
      intro rs0 rs1 rs2 v6_b86 w_r_use_a_b86 H locs ls hfn hP hD hS hl
      exact absurd hfn (by intro h; cases h)
    | succ n ih =>
      intro rs0 rs1 rs2 v6_b86 w_r_use_a_b86 H locs ls hfn hP hD hS hl
      unfold of_Md_allot_b86 at hfn
      refine lv_iload hx hb dMd_allot_86 (lv_at hl 3 rfl) ?_
      refine lv_iconst (v := 3) hx hb dMd_allot_88 (by decide) ?_
      refine lv_icmp_ge (tgt := 115) hx hb dMd_allot_89 (by decide) (fun c_12 => ?_) (fun c_12 => ?_)
      · rw [if_pos c_12] at hfn
        replace hfn := Option.some.inj hfn
        obtain ⟨e9, hf_0⟩ := Prod.mk.inj hfn; clear hfn; subst e9
        obtain ⟨e9, hf_1⟩ := Prod.mk.inj hf_0; clear hf_0; subst e9
        subst hf_1
        exact W.vret hx hb hr (fun t ht hW => ⟨⟨_, rfl, rfl, ⟨by rw [ht]; exact hP.sub [0, 1, 2, 3] rfl, va_K.moved hW.alike hK, hD.sub [0, 1, 2, 3] (by decide) rfl⟩⟩, hS.F ht⟩) hS.2.2 dMd_allot_115
      · rw [if_neg c_12] at hfn
        refine lv_aload_n hx hb dMd_allot_92 rfl (lv_at hl 0 rfl) ?_
        refine va_get (D := (dC, dI)) (ci := 11) (v := .ref r_use) (C := R_Md) (T := T_Md) (N := 31) hx hb htg in_Md hown hK hP 0 rfl rfl 19 (by decide) (htg _ wd_814) (fun _ h9 => h9) rfl dMd_allot_93 ?_
        refine lv_aload_n hx hb dMd_allot_96 rfl (lv_at hl 0 rfl) ?_
        refine lv_iload hx hb dMd_allot_97 (lv_at hl 3 rfl) ?_
        refine lv_iload_n hx hb dMd_allot_99 rfl (lv_at hl 1 rfl) ?_
        refine lv_iload_n hx hb dMd_allot_100 rfl (lv_at hl 2 rfl) ?_
        obtain ⟨z_13, hz_13, hfn⟩ := ob hfn
        refine rd_V (As := [.int v6_b86, .int pl, .int hs]) (rest := [.ref r_use]) ⟨hx, hb, hml, hown, htg⟩ (c_Md_taggedRow l dC dI cA o0 r_lastBit r_plain r_mixed r_chooser r_own r_ownCounter r_tag r_sum r_use r_weight r_loopTag r_length r_count r_trust r_waitPlace r_waitHistory r_waitSaid r_mark mt mkd mbt mrw mhs mco mey mu1 mu2 mu3 mu4 mwt mmk v6_b86 pl hs z_13 hz_13) (cw_V htg wd_922 ws_24 qMd_taggedRow iMd_taggedRow kMd_taggedRow pMd_taggedRow rfl rfl ⟨Nat.le_of_ble_eq_true rfl, Nat.le_of_ble_eq_true rfl⟩) (va_recv hK hP (ci := 11) (q0 := 0) rfl rfl) hN (hP.sub [0] rfl) hK rfl hl.1 rfl (Nat.le_of_ble_eq_true rfl) dMd_allot_101 ⟨Nat.le_of_ble_eq_true rfl, Nat.le_of_ble_eq_true rfl⟩ ?_
        refine lv_dup2_11 hx hb dMd_allot_104 rfl rfl ?_
        obtain ⟨g_14, hfn⟩ := og hfn
        refine va_iald hx hb hK hP 3 0 rfl rfl g_14 dMd_allot_105 ?_
        refine lv_iconst (v := 1) hx hb dMd_allot_106 (by decide) ?_
        refine lv_isub hx hb dMd_allot_107 ?_
        obtain ⟨g_15, hfn⟩ := og hfn
        refine va_iast hx hb hK hP hD hS 3 0 rfl rfl g_15 dMd_allot_108 (fun H locs hP hD hS => ?_)
        have hP : va_P (dC, dI) vwCl [(o0, .inr (11, [.int mt, .int mkd, .int mbt, .int mrw, .int mhs, .int mco, .int (bI mey), .int mu1, .int mu2, .int mu3, .int mu4, .ref r_lastBit, .ref r_plain, .ref r_mixed, .ref r_chooser, .ref r_own, .ref r_ownCounter, .ref r_tag, .ref r_sum, .ref r_use, .ref r_weight, .ref r_loopTag, .ref r_length, .ref r_count, .ref r_trust, .int mwt, .ref r_waitPlace, .ref r_waitHistory, .ref r_waitSaid, .int mmk, .ref r_mark])), (r_tag, .inl (cA.1, 3072, .inl g_tag)), (r_sum, .inl (cA.1, 3072, .inl g_sum)), (r_use, .inl (cA.1, 3072, .inl (upd w_r_use_a_b86 z_13.toNatClampNeg ((w_r_use_a_b86 z_13.toNatClampNeg) - 1))))] H := hP
        have hD : va_D A [(o0, .inr (11, [.int mt, .int mkd, .int mbt, .int mrw, .int mhs, .int mco, .int (bI mey), .int mu1, .int mu2, .int mu3, .int mu4, .ref r_lastBit, .ref r_plain, .ref r_mixed, .ref r_chooser, .ref r_own, .ref r_ownCounter, .ref r_tag, .ref r_sum, .ref r_use, .ref r_weight, .ref r_loopTag, .ref r_length, .ref r_count, .ref r_trust, .int mwt, .ref r_waitPlace, .ref r_waitHistory, .ref r_waitSaid, .int mmk, .ref r_mark])), (r_tag, .inl (cA.1, 3072, .inl g_tag)), (r_sum, .inl (cA.1, 3072, .inl g_sum)), (r_use, .inl (cA.1, 3072, .inl (upd w_r_use_a_b86 z_13.toNatClampNeg ((w_r_use_a_b86 z_13.toNatClampNeg) - 1))))] := hD
        refine lv_iinc (v := (v6_b86 + 1)) (lv' := [(6, .int (v6_b86 + 1)), (0, .ref o0), (2, .int pl), (3, .int hs)]) hx hb dMd_allot_109 hl (k := 3) rfl rfl (by decide) rfl (fun ls hl => ?_)
        refine lv_goto (tgt := 86) hx hb dMd_allot_112 (by decide) ?_
        exact ih _ _ _ (v6_b86 + 1) (upd w_r_use_a_b86 z_13.toNatClampNeg ((w_r_use_a_b86 z_13.toNatClampNeg) - 1)) _ _ ls hfn (hP.sub [0, 1, 2, 3] rfl) (hD.sub [0, 1, 2, 3] (by decide) rfl) hS (lv_sub hl [1, 2, 3, 0] rfl)
  have blk79 : ∀ (rs0 : (Nat → Int32)) (rs1 : (Nat → Int32)) (rs2 : (Nat → Int32)) (s0_b79 : Int32) (s1_b79 : Int32) (w_r_tag_a_b79 : Nat → Int32) (H : Heap) (locs : List Loc) (ls : Array Slot), of_Md_allot_b79 g_sum g_use s0_b79 s1_b79 w_r_tag_a_b79 = some (rs0, rs1, rs2) → va_P (dC, dI) vwCl [(o0, .inr (11, [.int mt, .int mkd, .int mbt, .int mrw, .int mhs, .int mco, .int (bI mey), .int mu1, .int mu2, .int mu3, .int mu4, .ref r_lastBit, .ref r_plain, .ref r_mixed, .ref r_chooser, .ref r_own, .ref r_ownCounter, .ref r_tag, .ref r_sum, .ref r_use, .ref r_weight, .ref r_loopTag, .ref r_length, .ref r_count, .ref r_trust, .int mwt, .ref r_waitPlace, .ref r_waitHistory, .ref r_waitSaid, .int mmk, .ref r_mark])), (r_tag, .inl (cA.1, 3072, .inl w_r_tag_a_b79)), (r_sum, .inl (cA.1, 3072, .inl g_sum)), (r_use, .inl (cA.1, 3072, .inl g_use))] H → va_D A [(o0, .inr (11, [.int mt, .int mkd, .int mbt, .int mrw, .int mhs, .int mco, .int (bI mey), .int mu1, .int mu2, .int mu3, .int mu4, .ref r_lastBit, .ref r_plain, .ref r_mixed, .ref r_chooser, .ref r_own, .ref r_ownCounter, .ref r_tag, .ref r_sum, .ref r_use, .ref r_weight, .ref r_loopTag, .ref r_length, .ref r_count, .ref r_trust, .int mwt, .ref r_waitPlace, .ref r_waitHistory, .ref r_waitSaid, .int mmk, .ref r_mark])), (r_tag, .inl (cA.1, 3072, .inl w_r_tag_a_b79)), (r_sum, .inl (cA.1, 3072, .inl g_sum)), (r_use, .inl (cA.1, 3072, .inl g_use))] → va_S A s.heap H locs → lv_has ls 7 [] → W p l e (headSpec wMd_allot ({ frames := 2, cells := 0, slots := 0, locals := 47 })).room s m ([.ref o0, .int t0, .int pl, .int hs, .int (bI tk)] : List Value).toArray below meth c H locs 0 0 (MQ below (va_Qv (fun w9 => w9 = [(o0, .inr (11, [.int mt, .int mkd, .int mbt, .int mrw, .int mhs, .int mco, .int (bI mey), .int mu1, .int mu2, .int mu3, .int mu4, .ref r_lastBit, .ref r_plain, .ref r_mixed, .ref r_chooser, .ref r_own, .ref r_ownCounter, .ref r_tag, .ref r_sum, .ref r_use, .ref r_weight, .ref r_loopTag, .ref r_length, .ref r_count, .ref r_trust, .int mwt, .ref r_waitPlace, .ref r_waitHistory, .ref r_waitSaid, .int mmk, .ref r_mark])), (r_tag, .inl (cA.1, 3072, .inl rs0)), (r_sum, .inl (cA.1, 3072, .inl rs1)), (r_use, .inl (cA.1, 3072, .inl rs2))]) (At (dC, dI) cA A) A) ([.ref o0, .int t0, .int pl, .int hs, .int (bI tk)] : List Value).toArray s 0 0 A) (F0 m 79 ls [.int s0_b79, .int s1_b79, .ref r_sum]) := by
    intro rs0 rs1 rs2 s0_b79 s1_b79 w_r_tag_a_b79 H locs ls hfn hP hD hS hl
    unfold of_Md_allot_b79 at hfn
    obtain ⟨g_11, hfn⟩ := og hfn
    refine va_iast hx hb hK hP hD hS 2 0 rfl rfl g_11 dMd_allot_79 (fun H locs hP hD hS => ?_)
    have hP : va_P (dC, dI) vwCl [(o0, .inr (11, [.int mt, .int mkd, .int mbt, .int mrw, .int mhs, .int mco, .int (bI mey), .int mu1, .int mu2, .int mu3, .int mu4, .ref r_lastBit, .ref r_plain, .ref r_mixed, .ref r_chooser, .ref r_own, .ref r_ownCounter, .ref r_tag, .ref r_sum, .ref r_use, .ref r_weight, .ref r_loopTag, .ref r_length, .ref r_count, .ref r_trust, .int mwt, .ref r_waitPlace, .ref r_waitHistory, .ref r_waitSaid, .int mmk, .ref r_mark])), (r_tag, .inl (cA.1, 3072, .inl w_r_tag_a_b79)), (r_sum, .inl (cA.1, 3072, .inl (upd g_sum s1_b79.toNatClampNeg s0_b79))), (r_use, .inl (cA.1, 3072, .inl g_use))] H := hP
    have hD : va_D A [(o0, .inr (11, [.int mt, .int mkd, .int mbt, .int mrw, .int mhs, .int mco, .int (bI mey), .int mu1, .int mu2, .int mu3, .int mu4, .ref r_lastBit, .ref r_plain, .ref r_mixed, .ref r_chooser, .ref r_own, .ref r_ownCounter, .ref r_tag, .ref r_sum, .ref r_use, .ref r_weight, .ref r_loopTag, .ref r_length, .ref r_count, .ref r_trust, .int mwt, .ref r_waitPlace, .ref r_waitHistory, .ref r_waitSaid, .int mmk, .ref r_mark])), (r_tag, .inl (cA.1, 3072, .inl w_r_tag_a_b79)), (r_sum, .inl (cA.1, 3072, .inl (upd g_sum s1_b79.toNatClampNeg s0_b79))), (r_use, .inl (cA.1, 3072, .inl g_use))] := hD
    refine lv_goto (tgt := 115) hx hb dMd_allot_80 (by decide) ?_
    replace hfn := Option.some.inj hfn
    obtain ⟨e9, hf_0⟩ := Prod.mk.inj hfn; clear hfn; subst e9
    obtain ⟨e9, hf_1⟩ := Prod.mk.inj hf_0; clear hf_0; subst e9
    subst hf_1
    exact W.vret hx hb hr (fun t ht hW => ⟨⟨_, rfl, rfl, ⟨by rw [ht]; exact hP.sub [0, 1, 2, 3] rfl, va_K.moved hW.alike hK, hD.sub [0, 1, 2, 3] (by decide) rfl⟩⟩, hS.F ht⟩) hS.2.2 dMd_allot_115
  have blk31 : ∀ (rs0 : (Nat → Int32)) (rs1 : (Nat → Int32)) (rs2 : (Nat → Int32)) (v5_b31 : Int32) (H : Heap) (locs : List Loc) (ls : Array Slot), of_Md_allot_b31 mbt mrw g_tag g_sum g_use t0 pl hs tk v5_b31 = some (rs0, rs1, rs2) → va_P (dC, dI) vwCl [(o0, .inr (11, [.int mt, .int mkd, .int mbt, .int mrw, .int mhs, .int mco, .int (bI mey), .int mu1, .int mu2, .int mu3, .int mu4, .ref r_lastBit, .ref r_plain, .ref r_mixed, .ref r_chooser, .ref r_own, .ref r_ownCounter, .ref r_tag, .ref r_sum, .ref r_use, .ref r_weight, .ref r_loopTag, .ref r_length, .ref r_count, .ref r_trust, .int mwt, .ref r_waitPlace, .ref r_waitHistory, .ref r_waitSaid, .int mmk, .ref r_mark])), (r_tag, .inl (cA.1, 3072, .inl g_tag)), (r_sum, .inl (cA.1, 3072, .inl g_sum)), (r_use, .inl (cA.1, 3072, .inl g_use))] H → va_D A [(o0, .inr (11, [.int mt, .int mkd, .int mbt, .int mrw, .int mhs, .int mco, .int (bI mey), .int mu1, .int mu2, .int mu3, .int mu4, .ref r_lastBit, .ref r_plain, .ref r_mixed, .ref r_chooser, .ref r_own, .ref r_ownCounter, .ref r_tag, .ref r_sum, .ref r_use, .ref r_weight, .ref r_loopTag, .ref r_length, .ref r_count, .ref r_trust, .int mwt, .ref r_waitPlace, .ref r_waitHistory, .ref r_waitSaid, .int mmk, .ref r_mark])), (r_tag, .inl (cA.1, 3072, .inl g_tag)), (r_sum, .inl (cA.1, 3072, .inl g_sum)), (r_use, .inl (cA.1, 3072, .inl g_use))] → va_S A s.heap H locs → lv_has ls 7 [(0, .ref o0), (1, .int t0), (2, .int pl), (3, .int hs), (4, .int (bI tk)), (5, .int v5_b31)] → W p l e (headSpec wMd_allot ({ frames := 2, cells := 0, slots := 0, locals := 47 })).room s m ([.ref o0, .int t0, .int pl, .int hs, .int (bI tk)] : List Value).toArray below meth c H locs 0 0 (MQ below (va_Qv (fun w9 => w9 = [(o0, .inr (11, [.int mt, .int mkd, .int mbt, .int mrw, .int mhs, .int mco, .int (bI mey), .int mu1, .int mu2, .int mu3, .int mu4, .ref r_lastBit, .ref r_plain, .ref r_mixed, .ref r_chooser, .ref r_own, .ref r_ownCounter, .ref r_tag, .ref r_sum, .ref r_use, .ref r_weight, .ref r_loopTag, .ref r_length, .ref r_count, .ref r_trust, .int mwt, .ref r_waitPlace, .ref r_waitHistory, .ref r_waitSaid, .int mmk, .ref r_mark])), (r_tag, .inl (cA.1, 3072, .inl rs0)), (r_sum, .inl (cA.1, 3072, .inl rs1)), (r_use, .inl (cA.1, 3072, .inl rs2))]) (At (dC, dI) cA A) A) ([.ref o0, .int t0, .int pl, .int hs, .int (bI tk)] : List Value).toArray s 0 0 A) (F0 m 31 ls []) := by
    intro rs0 rs1 rs2 v5_b31 H locs ls hfn hP hD hS hl
    unfold of_Md_allot_b31 at hfn
    refine lv_iload hx hb dMd_allot_31 (lv_at hl 5 rfl) ?_
    refine lv_iconst (v := 3) hx hb dMd_allot_33 (by decide) ?_
    refine lv_icmp_ge (tgt := 83) hx hb dMd_allot_34 (by decide) (fun c_5 => ?_) (fun c_5 => ?_)
    · rw [if_pos c_5] at hfn
      refine lv_iload_n hx hb dMd_allot_83 rfl (lv_at hl 1 rfl) ?_
      refine lv_istore (lv' := [(6, .int t0), (0, .ref o0), (1, .int t0), (2, .int pl), (3, .int hs), (4, .int (bI tk)), (5, .int v5_b31)]) hx hb dMd_allot_84 hl (by decide) rfl (fun ls hl => ?_)
      exact blk86 4096 _ _ _ t0 g_use _ _ ls hfn (hP.sub [0, 1, 2, 3] rfl) (hD.sub [0, 1, 2, 3] (by decide) rfl) hS (lv_sub hl [1, 3, 4, 0] rfl)
    · rw [if_neg c_5] at hfn
      refine lv_aload_n hx hb dMd_allot_37 rfl (lv_at hl 0 rfl) ?_
      refine va_get (D := (dC, dI)) (ci := 11) (v := .ref r_tag) (C := R_Md) (T := T_Md) (N := 31) hx hb htg in_Md hown hK hP 0 rfl rfl 17 (by decide) (htg _ wd_812) (fun _ h9 => h9) rfl dMd_allot_38 ?_
      refine lv_aload_n hx hb dMd_allot_41 rfl (lv_at hl 0 rfl) ?_
      refine lv_iload hx hb dMd_allot_42 (lv_at hl 5 rfl) ?_
      refine lv_iload_n hx hb dMd_allot_44 rfl (lv_at hl 2 rfl) ?_
      refine lv_iload_n hx hb dMd_allot_45 rfl (lv_at hl 3 rfl) ?_
      obtain ⟨z_6, hz_6, hfn⟩ := ob hfn
      refine rd_V (As := [.int v5_b31, .int pl, .int hs]) (rest := [.ref r_tag]) ⟨hx, hb, hml, hown, htg⟩ (c_Md_taggedRow l dC dI cA o0 r_lastBit r_plain r_mixed r_chooser r_own r_ownCounter r_tag r_sum r_use r_weight r_loopTag r_length r_count r_trust r_waitPlace r_waitHistory r_waitSaid r_mark mt mkd mbt mrw mhs mco mey mu1 mu2 mu3 mu4 mwt mmk v5_b31 pl hs z_6 hz_6) (cw_V htg wd_922 ws_24 qMd_taggedRow iMd_taggedRow kMd_taggedRow pMd_taggedRow rfl rfl ⟨Nat.le_of_ble_eq_true rfl, Nat.le_of_ble_eq_true rfl⟩) (va_recv hK hP (ci := 11) (q0 := 0) rfl rfl) hN (hP.sub [0] rfl) hK rfl hl.1 rfl (Nat.le_of_ble_eq_true rfl) dMd_allot_46 ⟨Nat.le_of_ble_eq_true rfl, Nat.le_of_ble_eq_true rfl⟩ ?_
      refine lv_iload hx hb dMd_allot_49 (lv_at hl 5 rfl) ?_
      refine lv_iload_n hx hb dMd_allot_51 rfl (lv_at hl 2 rfl) ?_
      refine lv_iload_n hx hb dMd_allot_52 rfl (lv_at hl 3 rfl) ?_
      obtain ⟨z_7, hz_7, hfn⟩ := ob hfn
      refine rd_S (As := [.int v5_b31, .int pl, .int hs]) (rest := [.int z_6, .ref r_tag]) ⟨hx, hb, hml, hown, htg⟩ (c_Md_tagOf l dC dI cA v5_b31 pl hs z_7 hz_7) (cw_S htg wd_932 qMd_tagOf iMd_tagOf kMd_tagOf pMd_tagOf rfl rfl ⟨Nat.le_of_ble_eq_true rfl, Nat.le_of_ble_eq_true rfl⟩) hN (hP.sub [] rfl) hK rfl hl.1 rfl (Nat.le_of_ble_eq_true rfl) dMd_allot_53 ⟨Nat.le_of_ble_eq_true rfl, Nat.le_of_ble_eq_true rfl⟩ ?_
      obtain ⟨g_8, hfn⟩ := og hfn
      refine va_iast hx hb hK hP hD hS 1 0 rfl rfl g_8 dMd_allot_56 (fun H locs hP hD hS => ?_)
      have hP : va_P (dC, dI) vwCl [(o0, .inr (11, [.int mt, .int mkd, .int mbt, .int mrw, .int mhs, .int mco, .int (bI mey), .int mu1, .int mu2, .int mu3, .int mu4, .ref r_lastBit, .ref r_plain, .ref r_mixed, .ref r_chooser, .ref r_own, .ref r_ownCounter, .ref r_tag, .ref r_sum, .ref r_use, .ref r_weight, .ref r_loopTag, .ref r_length, .ref r_count, .ref r_trust, .int mwt, .ref r_waitPlace, .ref r_waitHistory, .ref r_waitSaid, .int mmk, .ref r_mark])), (r_tag, .inl (cA.1, 3072, .inl (upd g_tag z_6.toNatClampNeg z_7))), (r_sum, .inl (cA.1, 3072, .inl g_sum)), (r_use, .inl (cA.1, 3072, .inl g_use))] H := hP
      have hD : va_D A [(o0, .inr (11, [.int mt, .int mkd, .int mbt, .int mrw, .int mhs, .int mco, .int (bI mey), .int mu1, .int mu2, .int mu3, .int mu4, .ref r_lastBit, .ref r_plain, .ref r_mixed, .ref r_chooser, .ref r_own, .ref r_ownCounter, .ref r_tag, .ref r_sum, .ref r_use, .ref r_weight, .ref r_loopTag, .ref r_length, .ref r_count, .ref r_trust, .int mwt, .ref r_waitPlace, .ref r_waitHistory, .ref r_waitSaid, .int mmk, .ref r_mark])), (r_tag, .inl (cA.1, 3072, .inl (upd g_tag z_6.toNatClampNeg z_7))), (r_sum, .inl (cA.1, 3072, .inl g_sum)), (r_use, .inl (cA.1, 3072, .inl g_use))] := hD
      refine lv_aload_n hx hb dMd_allot_57 rfl (lv_at hl 0 rfl) ?_
      refine va_get (D := (dC, dI)) (ci := 11) (v := .ref r_sum) (C := R_Md) (T := T_Md) (N := 31) hx hb htg in_Md hown hK hP 0 rfl rfl 18 (by decide) (htg _ wd_813) (fun _ h9 => h9) rfl dMd_allot_58 ?_
      refine lv_aload_n hx hb dMd_allot_61 rfl (lv_at hl 0 rfl) ?_
      refine lv_iload hx hb dMd_allot_62 (lv_at hl 5 rfl) ?_
      refine lv_iload_n hx hb dMd_allot_64 rfl (lv_at hl 2 rfl) ?_
      refine lv_iload_n hx hb dMd_allot_65 rfl (lv_at hl 3 rfl) ?_
      obtain ⟨z_9, hz_9, hfn⟩ := ob hfn
      refine rd_V (As := [.int v5_b31, .int pl, .int hs]) (rest := [.ref r_sum]) ⟨hx, hb, hml, hown, htg⟩ (c_Md_taggedRow l dC dI cA o0 r_lastBit r_plain r_mixed r_chooser r_own r_ownCounter r_tag r_sum r_use r_weight r_loopTag r_length r_count r_trust r_waitPlace r_waitHistory r_waitSaid r_mark mt mkd mbt mrw mhs mco mey mu1 mu2 mu3 mu4 mwt mmk v5_b31 pl hs z_9 hz_9) (cw_V htg wd_922 ws_24 qMd_taggedRow iMd_taggedRow kMd_taggedRow pMd_taggedRow rfl rfl ⟨Nat.le_of_ble_eq_true rfl, Nat.le_of_ble_eq_true rfl⟩) (va_recv hK hP (ci := 11) (q0 := 0) rfl rfl) hN (hP.sub [0] rfl) hK rfl hl.1 rfl (Nat.le_of_ble_eq_true rfl) dMd_allot_66 ⟨Nat.le_of_ble_eq_true rfl, Nat.le_of_ble_eq_true rfl⟩ ?_
      refine lv_iload hx hb dMd_allot_69 (lv_at hl 4 rfl) ?_
      refine lv_if_eq (tgt := 78) hx hb dMd_allot_71 (by decide) (fun c_10 => ?_) (fun c_10 => ?_)
      · rw [if_pos c_10] at hfn
        refine lv_iconst (v := (-1)) hx hb dMd_allot_78 (by decide) ?_
        exact blk79 _ _ _ (-1) z_9 (upd g_tag z_6.toNatClampNeg z_7) _ _ ls hfn (hP.sub [0, 1, 2, 3] rfl) (hD.sub [0, 1, 2, 3] (by decide) rfl) hS (lv_sub hl [] rfl)
      · rw [if_neg c_10] at hfn
        refine lv_iconst (v := 0) hx hb dMd_allot_74 (by decide) ?_
        refine lv_goto (tgt := 79) hx hb dMd_allot_75 (by decide) ?_
        exact blk79 _ _ _ 0 z_9 (upd g_tag z_6.toNatClampNeg z_7) _ _ ls hfn (hP.sub [0, 1, 2, 3] rfl) (hD.sub [0, 1, 2, 3] (by decide) rfl) hS (lv_sub hl [] rfl)
  have blk3 : ∀ n : Nat, ∀ (rs0 : (Nat → Int32)) (rs1 : (Nat → Int32)) (rs2 : (Nat → Int32)) (v5_b3 : Int32) (H : Heap) (locs : List Loc) (ls : Array Slot), of_Md_allot_b3 n mbt mrw g_tag g_sum g_use t0 pl hs tk v5_b3 = some (rs0, rs1, rs2) → va_P (dC, dI) vwCl [(o0, .inr (11, [.int mt, .int mkd, .int mbt, .int mrw, .int mhs, .int mco, .int (bI mey), .int mu1, .int mu2, .int mu3, .int mu4, .ref r_lastBit, .ref r_plain, .ref r_mixed, .ref r_chooser, .ref r_own, .ref r_ownCounter, .ref r_tag, .ref r_sum, .ref r_use, .ref r_weight, .ref r_loopTag, .ref r_length, .ref r_count, .ref r_trust, .int mwt, .ref r_waitPlace, .ref r_waitHistory, .ref r_waitSaid, .int mmk, .ref r_mark])), (r_tag, .inl (cA.1, 3072, .inl g_tag)), (r_sum, .inl (cA.1, 3072, .inl g_sum)), (r_use, .inl (cA.1, 3072, .inl g_use))] H → va_D A [(o0, .inr (11, [.int mt, .int mkd, .int mbt, .int mrw, .int mhs, .int mco, .int (bI mey), .int mu1, .int mu2, .int mu3, .int mu4, .ref r_lastBit, .ref r_plain, .ref r_mixed, .ref r_chooser, .ref r_own, .ref r_ownCounter, .ref r_tag, .ref r_sum, .ref r_use, .ref r_weight, .ref r_loopTag, .ref r_length, .ref r_count, .ref r_trust, .int mwt, .ref r_waitPlace, .ref r_waitHistory, .ref r_waitSaid, .int mmk, .ref r_mark])), (r_tag, .inl (cA.1, 3072, .inl g_tag)), (r_sum, .inl (cA.1, 3072, .inl g_sum)), (r_use, .inl (cA.1, 3072, .inl g_use))] → va_S A s.heap H locs → lv_has ls 7 [(0, .ref o0), (1, .int t0), (2, .int pl), (3, .int hs), (4, .int (bI tk)), (5, .int v5_b3)] → W p l e (headSpec wMd_allot ({ frames := 2, cells := 0, slots := 0, locals := 47 })).room s m ([.ref o0, .int t0, .int pl, .int hs, .int (bI tk)] : List Value).toArray below meth c H locs 0 0 (MQ below (va_Qv (fun w9 => w9 = [(o0, .inr (11, [.int mt, .int mkd, .int mbt, .int mrw, .int mhs, .int mco, .int (bI mey), .int mu1, .int mu2, .int mu3, .int mu4, .ref r_lastBit, .ref r_plain, .ref r_mixed, .ref r_chooser, .ref r_own, .ref r_ownCounter, .ref r_tag, .ref r_sum, .ref r_use, .ref r_weight, .ref r_loopTag, .ref r_length, .ref r_count, .ref r_trust, .int mwt, .ref r_waitPlace, .ref r_waitHistory, .ref r_waitSaid, .int mmk, .ref r_mark])), (r_tag, .inl (cA.1, 3072, .inl rs0)), (r_sum, .inl (cA.1, 3072, .inl rs1)), (r_use, .inl (cA.1, 3072, .inl rs2))]) (At (dC, dI) cA A) A) ([.ref o0, .int t0, .int pl, .int hs, .int (bI tk)] : List Value).toArray s 0 0 A) (F0 m 3 ls []) := by
    intro n
    induction n with
    | zero =>
      intro rs0 rs1 rs2 v5_b3 H locs ls hfn hP hD hS hl
      exact absurd hfn (by intro h; cases h)
    | succ n ih =>
      intro rs0 rs1 rs2 v5_b3 H locs ls hfn hP hD hS hl
      unfold of_Md_allot_b3 at hfn
      refine lv_iload hx hb dMd_allot_3 (lv_at hl 5 rfl) ?_
      refine lv_iconst (v := 3) hx hb dMd_allot_5 (by decide) ?_
      refine lv_icmp_ge (tgt := 31) hx hb dMd_allot_6 (by decide) (fun c_1 => ?_) (fun c_1 => ?_)
      · rw [if_pos c_1] at hfn
        exact blk31 _ _ _ v5_b3 _ _ ls hfn (hP.sub [0, 1, 2, 3] rfl) (hD.sub [0, 1, 2, 3] (by decide) rfl) hS (lv_sub hl [0, 1, 2, 3, 4, 5] rfl)
      · rw [if_neg c_1] at hfn
        refine lv_aload_n hx hb dMd_allot_9 rfl (lv_at hl 0 rfl) ?_
        refine va_get (D := (dC, dI)) (ci := 11) (v := .ref r_use) (C := R_Md) (T := T_Md) (N := 31) hx hb htg in_Md hown hK hP 0 rfl rfl 19 (by decide) (htg _ wd_814) (fun _ h9 => h9) rfl dMd_allot_10 ?_
        refine lv_aload_n hx hb dMd_allot_13 rfl (lv_at hl 0 rfl) ?_
        refine lv_iload hx hb dMd_allot_14 (lv_at hl 5 rfl) ?_
        refine lv_iload_n hx hb dMd_allot_16 rfl (lv_at hl 2 rfl) ?_
        refine lv_iload_n hx hb dMd_allot_17 rfl (lv_at hl 3 rfl) ?_
        obtain ⟨z_2, hz_2, hfn⟩ := ob hfn
        refine rd_V (As := [.int v5_b3, .int pl, .int hs]) (rest := [.ref r_use]) ⟨hx, hb, hml, hown, htg⟩ (c_Md_taggedRow l dC dI cA o0 r_lastBit r_plain r_mixed r_chooser r_own r_ownCounter r_tag r_sum r_use r_weight r_loopTag r_length r_count r_trust r_waitPlace r_waitHistory r_waitSaid r_mark mt mkd mbt mrw mhs mco mey mu1 mu2 mu3 mu4 mwt mmk v5_b3 pl hs z_2 hz_2) (cw_V htg wd_922 ws_24 qMd_taggedRow iMd_taggedRow kMd_taggedRow pMd_taggedRow rfl rfl ⟨Nat.le_of_ble_eq_true rfl, Nat.le_of_ble_eq_true rfl⟩) (va_recv hK hP (ci := 11) (q0 := 0) rfl rfl) hN (hP.sub [0] rfl) hK rfl hl.1 rfl (Nat.le_of_ble_eq_true rfl) dMd_allot_18 ⟨Nat.le_of_ble_eq_true rfl, Nat.le_of_ble_eq_true rfl⟩ ?_
        obtain ⟨g_3, hfn⟩ := og hfn
        refine va_iald hx hb hK hP 3 0 rfl rfl g_3 dMd_allot_21 ?_
        refine lv_if_le (tgt := 31) hx hb dMd_allot_22 (by decide) (fun c_4 => ?_) (fun c_4 => ?_)
        · rw [if_pos c_4] at hfn
          exact blk31 _ _ _ v5_b3 _ _ ls hfn (hP.sub [0, 1, 2, 3] rfl) (hD.sub [0, 1, 2, 3] (by decide) rfl) hS (lv_sub hl [0, 1, 2, 3, 4, 5] rfl)
        · rw [if_neg c_4] at hfn
          refine lv_iinc (v := (v5_b3 + 1)) (lv' := [(5, .int (v5_b3 + 1)), (0, .ref o0), (1, .int t0), (2, .int pl), (3, .int hs), (4, .int (bI tk))]) hx hb dMd_allot_25 hl (k := 5) rfl rfl (by decide) rfl (fun ls hl => ?_)
          refine lv_goto (tgt := 3) hx hb dMd_allot_28 (by decide) ?_
          exact ih _ _ _ (v5_b3 + 1) _ _ ls hfn (hP.sub [0, 1, 2, 3] rfl) (hD.sub [0, 1, 2, 3] (by decide) rfl) hS (lv_sub hl [1, 2, 3, 4, 5, 0] rfl)
  have hl := lv_entry ([.ref o0, .int t0, .int pl, .int hs, .int (bI tk)]) (n := 7) (Nat.le_of_ble_eq_true rfl)
  rw [lg_entry_eq]
  generalize (lg_sl ([.ref o0, .int t0, .int pl, .int hs, .int (bI tk)]) ++ List.replicate (7 - (lg_sl ([.ref o0, .int t0, .int pl, .int hs, .int (bI tk)])).length) Slot.unset).toArray = ls at hl ⊢
  have hl : lv_has ls 7 [(0, .ref o0), (1, .int t0), (2, .int pl), (3, .int hs), (4, .int (bI tk))] := hl
  unfold of_Md_allot at hfn
  refine lv_iload_n hx hb dMd_allot_0 rfl (lv_at hl 1 rfl) ?_
  refine lv_istore (lv' := [(5, .int t0), (0, .ref o0), (1, .int t0), (2, .int pl), (3, .int hs), (4, .int (bI tk))]) hx hb dMd_allot_1 hl (by decide) rfl (fun ls hl => ?_)
  exact blk3 4096 _ _ _ t0 _ _ ls hfn (hP.sub [0, 1, 2, 3] rfl) (hD.sub [0, 1, 2, 3] (by decide) rfl) hS (lv_sub hl [1, 2, 3, 4, 5, 0] rfl)
def of_Md_learnTagged_b162 (mbt : Int32) (mrw : Int32) (g_tag : Nat → Int32) (pl : Int32) (hs : Int32) (tk : Bool) (v4_b162 : Int32) (v5_b162 : Bool) (w_r_plain_a_b162 : Nat → Int32) (w_r_sum_a_b162 : Nat → Int32) (w_r_use_a_b162 : Nat → Int32) : Option ((Nat → Int32) × (Nat → Int32) × (Nat → Int32) × (Nat → Int32)) := (if (bI v5_b162) = (bI tk) then some (w_r_plain_a_b162, g_tag, w_r_sum_a_b162, w_r_use_a_b162) else ((of_Md_allot mbt mrw g_tag w_r_sum_a_b162 w_r_use_a_b162 (v4_b162 + 1) pl hs tk).bind fun (z_19_0, z_19_1, z_19_2) => some (w_r_plain_a_b162, z_19_0, z_19_1, z_19_2)))
def of_Md_learnTagged_b158 (mbt : Int32) (mrw : Int32) (g_plain : Nat → Int32) (g_tag : Nat → Int32) (g_use : Nat → Int32) (pl : Int32) (hs : Int32) (tk : Bool) (v4_b158 : Int32) (v5_b158 : Bool) (s0_b158 : Bool) (s1_b158 : Int32) (s2_b158 : Int32) (w_r_sum_a_b158 : Nat → Int32) : Option ((Nat → Int32) × (Nat → Int32) × (Nat → Int32) × (Nat → Int32)) := (if s2_b158 < 0 ∨ 3072 ≤ s2_b158.toNatClampNeg then none else of_Md_learnTagged_b162 mbt mrw g_tag pl hs tk v4_b158 v5_b158 g_plain w_r_sum_a_b158 (upd g_use s2_b158.toNatClampNeg (tf_Md_step s1_b158 s0_b158)))
def of_Md_learnTagged_b126 (mbt : Int32) (mrw : Int32) (g_plain : Nat → Int32) (g_tag : Nat → Int32) (g_sum : Nat → Int32) (g_use : Nat → Int32) (pl : Int32) (hs : Int32) (tk : Bool) (v4_b126 : Int32) (v5_b126 : Bool) (v6_b126 : Bool) (v7_b126 : Int32) (s0_b126 : Int32) (s1_b126 : Int32) : Option ((Nat → Int32) × (Nat → Int32) × (Nat → Int32) × (Nat → Int32)) := (if s1_b126 < 0 ∨ 3072 ≤ s1_b126.toNatClampNeg then none else (if (bI v5_b126) = (bI v6_b126) then of_Md_learnTagged_b162 mbt mrw g_tag pl hs tk v4_b126 v5_b126 g_plain (upd g_sum s1_b126.toNatClampNeg s0_b126) g_use else (if v7_b126 < 0 ∨ 3072 ≤ v7_b126.toNatClampNeg then none else (if (bI v5_b126) = (bI tk) then of_Md_learnTagged_b158 mbt mrw g_plain g_tag g_use pl hs tk v4_b126 v5_b126 true (g_use v7_b126.toNatClampNeg) v7_b126 (upd g_sum s1_b126.toNatClampNeg s0_b126) else of_Md_learnTagged_b158 mbt mrw g_plain g_tag g_use pl hs tk v4_b126 v5_b126 false (g_use v7_b126.toNatClampNeg) v7_b126 (upd g_sum s1_b126.toNatClampNeg s0_b126)))))
def of_Md_learnTagged_b93 (mbt : Int32) (mrw : Int32) (g_plain : Nat → Int32) (g_tag : Nat → Int32) (g_sum : Nat → Int32) (g_use : Nat → Int32) (pl : Int32) (hs : Int32) (tk : Bool) (v4_b93 : Int32) (v5_b93 : Bool) (v6_b93 : Bool) (v7_b93 : Int32) (s0_b93 : Int32) (s1_b93 : Int32) : Option ((Nat → Int32) × (Nat → Int32) × (Nat → Int32) × (Nat → Int32)) := (if (s1_b93 + s0_b93) ≤ 3 then (if (-4) ≤ (s1_b93 + s0_b93) then of_Md_learnTagged_b126 mbt mrw g_plain g_tag g_sum g_use pl hs tk v4_b93 v5_b93 v6_b93 v7_b93 (s1_b93 + s0_b93) v7_b93 else of_Md_learnTagged_b126 mbt mrw g_plain g_tag g_sum g_use pl hs tk v4_b93 v5_b93 v6_b93 v7_b93 (-4) v7_b93) else of_Md_learnTagged_b126 mbt mrw g_plain g_tag g_sum g_use pl hs tk v4_b93 v5_b93 v6_b93 v7_b93 3 v7_b93)
def of_Md_learnTagged (mbt : Int32) (mrw : Int32) (g_plain : Nat → Int32) (g_tag : Nat → Int32) (g_sum : Nat → Int32) (g_use : Nat → Int32) (pl : Int32) (hs : Int32) (tk : Bool) : Option ((Nat → Int32) × (Nat → Int32) × (Nat → Int32) × (Nat → Int32)) := ((of_Md_hitBefore mbt mrw g_tag 3 pl hs).bind fun z_1 => ((of_Md_saidBy mbt mrw g_plain g_sum z_1 pl hs).bind fun z_2 => (if 0 ≤ z_1 then ((of_Md_hitBefore mbt mrw g_tag z_1 pl hs).bind fun z_4 => ((of_Md_saidBy mbt mrw g_plain g_sum z_4 pl hs).bind fun z_5 => ((of_Md_taggedRow mbt mrw z_1 pl hs).bind fun z_6 => (if z_6 < 0 ∨ 3072 ≤ z_6.toNatClampNeg then none else (if (bI tk) = 0 then of_Md_learnTagged_b93 mbt mrw g_plain g_tag g_sum g_use pl hs tk z_1 z_2 z_5 z_6 (-1) (g_sum z_6.toNatClampNeg) else of_Md_learnTagged_b93 mbt mrw g_plain g_tag g_sum g_use pl hs tk z_1 z_2 z_5 z_6 1 (g_sum z_6.toNatClampNeg)))))) else (if (tf_Md_plainRow mbt mrw pl) < 0 ∨ 1024 ≤ (tf_Md_plainRow mbt mrw pl).toNatClampNeg then none else (if (tf_Md_plainRow mbt mrw pl) < 0 ∨ 1024 ≤ (tf_Md_plainRow mbt mrw pl).toNatClampNeg then none else of_Md_learnTagged_b162 mbt mrw g_tag pl hs tk z_1 z_2 (upd g_plain (tf_Md_plainRow mbt mrw pl).toNatClampNeg (tf_Md_step (g_plain (tf_Md_plainRow mbt mrw pl).toNatClampNeg) tk)) g_sum g_use)))))
set_option maxHeartbeats 4000000 in
set_option maxRecDepth 100000 in
theorem c_Md_learnTagged (l : Launch) (dC : Nat → ClassId) (dI : Nat → Nat → Nat) (cA : ClassId × ClassId × ClassId) (zz : Nat) (o0 : Nat) (r_plain : Nat) (r_tag : Nat) (r_sum : Nat) (r_use : Nat) (r_lastBit : Nat) (r_mixed : Nat) (r_chooser : Nat) (r_own : Nat) (r_ownCounter : Nat) (r_weight : Nat) (r_loopTag : Nat) (r_length : Nat) (r_count : Nat) (r_trust : Nat) (r_waitPlace : Nat) (r_waitHistory : Nat) (r_waitSaid : Nat) (r_mark : Nat) (mt : Int32) (mkd : Int32) (mbt : Int32) (mrw : Int32) (mhs : Int32) (mco : Int32) (mey : Bool) (mu1 : Int32) (mu2 : Int32) (mu3 : Int32) (mu4 : Int32) (mwt : Int32) (mmk : Int32) (g_plain : Nat → Int32) (g_tag : Nat → Int32) (g_sum : Nat → Int32) (g_use : Nat → Int32) (pl : Int32) (hs : Int32) (tk : Bool) (rs0 : (Nat → Int32)) (rs1 : (Nat → Int32)) (rs2 : (Nat → Int32)) (rs3 : (Nat → Int32)) (hfn : (of_Md_learnTagged mbt mrw g_plain g_tag g_sum g_use pl hs tk) = some (rs0, rs1, rs2, rs3)) : Met l yMd_learnTagged wMd_learnTagged ({ frames := 4, cells := 0, slots := 0, locals := 95 }) (va_Pc [.ref o0, .int pl, .int hs, .int (bI tk)] (Wr (dC, dI) cA zz [(o0, .inr (11, [.int mt, .int mkd, .int mbt, .int mrw, .int mhs, .int mco, .int (bI mey), .int mu1, .int mu2, .int mu3, .int mu4, .ref r_lastBit, .ref r_plain, .ref r_mixed, .ref r_chooser, .ref r_own, .ref r_ownCounter, .ref r_tag, .ref r_sum, .ref r_use, .ref r_weight, .ref r_loopTag, .ref r_length, .ref r_count, .ref r_trust, .int mwt, .ref r_waitPlace, .ref r_waitHistory, .ref r_waitSaid, .int mmk, .ref r_mark])), (r_plain, .inl (cA.1, 1024, .inl g_plain)), (r_tag, .inl (cA.1, 3072, .inl g_tag)), (r_sum, .inl (cA.1, 3072, .inl g_sum)), (r_use, .inl (cA.1, 3072, .inl g_use))])) (va_Qv (fun w9 => w9 = [(o0, .inr (11, [.int mt, .int mkd, .int mbt, .int mrw, .int mhs, .int mco, .int (bI mey), .int mu1, .int mu2, .int mu3, .int mu4, .ref r_lastBit, .ref r_plain, .ref r_mixed, .ref r_chooser, .ref r_own, .ref r_ownCounter, .ref r_tag, .ref r_sum, .ref r_use, .ref r_weight, .ref r_loopTag, .ref r_length, .ref r_count, .ref r_trust, .int mwt, .ref r_waitPlace, .ref r_waitHistory, .ref r_waitSaid, .int mmk, .ref r_mark])), (r_plain, .inl (cA.1, 1024, .inl rs0)), (r_tag, .inl (cA.1, 3072, .inl rs1)), (r_sum, .inl (cA.1, 3072, .inl rs2)), (r_use, .inl (cA.1, 3072, .inl rs3))]) (At (dC, dI) cA (va_A [(o0, .inr (11, [.int mt, .int mkd, .int mbt, .int mrw, .int mhs, .int mco, .int (bI mey), .int mu1, .int mu2, .int mu3, .int mu4, .ref r_lastBit, .ref r_plain, .ref r_mixed, .ref r_chooser, .ref r_own, .ref r_ownCounter, .ref r_tag, .ref r_sum, .ref r_use, .ref r_weight, .ref r_loopTag, .ref r_length, .ref r_count, .ref r_trust, .int mwt, .ref r_waitPlace, .ref r_waitHistory, .ref r_waitSaid, .int mmk, .ref r_mark])), (r_plain, .inl (cA.1, 1024, .inl g_plain)), (r_tag, .inl (cA.1, 3072, .inl g_tag)), (r_sum, .inl (cA.1, 3072, .inl g_sum)), (r_use, .inl (cA.1, 3072, .inl g_use))] zz)) (va_A [(o0, .inr (11, [.int mt, .int mkd, .int mbt, .int mrw, .int mhs, .int mco, .int (bI mey), .int mu1, .int mu2, .int mu3, .int mu4, .ref r_lastBit, .ref r_plain, .ref r_mixed, .ref r_chooser, .ref r_own, .ref r_ownCounter, .ref r_tag, .ref r_sum, .ref r_use, .ref r_weight, .ref r_loopTag, .ref r_length, .ref r_count, .ref r_trust, .int mwt, .ref r_waitPlace, .ref r_waitHistory, .ref r_waitSaid, .int mmk, .ref r_mark])), (r_plain, .inl (cA.1, 1024, .inl g_plain)), (r_tag, .inl (cA.1, 3072, .inl g_tag)), (r_sum, .inl (cA.1, 3072, .inl g_sum)), (r_use, .inl (cA.1, 3072, .inl g_use))] zz)) 0 0 (va_A [(o0, .inr (11, [.int mt, .int mkd, .int mbt, .int mrw, .int mhs, .int mco, .int (bI mey), .int mu1, .int mu2, .int mu3, .int mu4, .ref r_lastBit, .ref r_plain, .ref r_mixed, .ref r_chooser, .ref r_own, .ref r_ownCounter, .ref r_tag, .ref r_sum, .ref r_use, .ref r_weight, .ref r_loopTag, .ref r_length, .ref r_count, .ref r_trust, .int mwt, .ref r_waitPlace, .ref r_waitHistory, .ref r_waitSaid, .int mmk, .ref r_mark])), (r_plain, .inl (cA.1, 1024, .inl g_plain)), (r_tag, .inl (cA.1, 3072, .inl g_tag)), (r_sum, .inl (cA.1, 3072, .inl g_sum)), (r_use, .inl (cA.1, 3072, .inl g_use))] zz) := by
  refine Met.ofW (cc := cMd_learnTagged) (maxL := 9) (ret := none) (by decide) rfl ?_
  intro p e s m args below meth c s₁ B hml hv
  obtain ⟨rfl, hsz, hN, hP, hK, hD0⟩ := hv
  have hx := B.exec
  have hb := B.bytes
  have hr := B.returns
  have hts := atoms_spec (ws := wMd_learnTagged) B.pre
  have htg : ∀ w ∈ GW, w.before _ s = true := fun w h => hts w (List.mem_cons_of_mem _ h)
  have hown : s.vm.findClass R_Md = some m.cls := findClass_of_methodNamed B.named
  have hlocks := B.notSynchronized
  subst hsz
  have hD := hD0.self (sz := s.heap.size)
  generalize hAe : va_A [(o0, .inr (11, [.int mt, .int mkd, .int mbt, .int mrw, .int mhs, .int mco, .int (bI mey), .int mu1, .int mu2, .int mu3, .int mu4, .ref r_lastBit, .ref r_plain, .ref r_mixed, .ref r_chooser, .ref r_own, .ref r_ownCounter, .ref r_tag, .ref r_sum, .ref r_use, .ref r_weight, .ref r_loopTag, .ref r_length, .ref r_count, .ref r_trust, .int mwt, .ref r_waitPlace, .ref r_waitHistory, .ref r_waitSaid, .int mmk, .ref r_mark])), (r_plain, .inl (cA.1, 1024, .inl g_plain)), (r_tag, .inl (cA.1, 3072, .inl g_tag)), (r_sum, .inl (cA.1, 3072, .inl g_sum)), (r_use, .inl (cA.1, 3072, .inl g_use))] s.heap.size = A at hD ⊢
  have hA : ∀ q : Nat, s.heap.size ≤ q → A q := fun q h => by rw [← hAe]; exact Or.inr h
  have hS : va_S A s.heap s.heap [] := va_S.rf
  have hP : va_P (dC, dI) vwCl [(o0, .inr (11, [.int mt, .int mkd, .int mbt, .int mrw, .int mhs, .int mco, .int (bI mey), .int mu1, .int mu2, .int mu3, .int mu4, .ref r_lastBit, .ref r_plain, .ref r_mixed, .ref r_chooser, .ref r_own, .ref r_ownCounter, .ref r_tag, .ref r_sum, .ref r_use, .ref r_weight, .ref r_loopTag, .ref r_length, .ref r_count, .ref r_trust, .int mwt, .ref r_waitPlace, .ref r_waitHistory, .ref r_waitSaid, .int mmk, .ref r_mark])), (r_plain, .inl (cA.1, 1024, .inl g_plain)), (r_tag, .inl (cA.1, 3072, .inl g_tag)), (r_sum, .inl (cA.1, 3072, .inl g_sum)), (r_use, .inl (cA.1, 3072, .inl g_use))] s.heap := hP
  have blk162 : ∀ (rs0 : (Nat → Int32)) (rs1 : (Nat → Int32)) (rs2 : (Nat → Int32)) (rs3 : (Nat → Int32)) (v4_b162 : Int32) (v5_b162 : Bool) (w_r_plain_a_b162 : Nat → Int32) (w_r_sum_a_b162 : Nat → Int32) (w_r_use_a_b162 : Nat → Int32) (H : Heap) (locs : List Loc) (ls : Array Slot), of_Md_learnTagged_b162 mbt mrw g_tag pl hs tk v4_b162 v5_b162 w_r_plain_a_b162 w_r_sum_a_b162 w_r_use_a_b162 = some (rs0, rs1, rs2, rs3) → va_P (dC, dI) vwCl [(o0, .inr (11, [.int mt, .int mkd, .int mbt, .int mrw, .int mhs, .int mco, .int (bI mey), .int mu1, .int mu2, .int mu3, .int mu4, .ref r_lastBit, .ref r_plain, .ref r_mixed, .ref r_chooser, .ref r_own, .ref r_ownCounter, .ref r_tag, .ref r_sum, .ref r_use, .ref r_weight, .ref r_loopTag, .ref r_length, .ref r_count, .ref r_trust, .int mwt, .ref r_waitPlace, .ref r_waitHistory, .ref r_waitSaid, .int mmk, .ref r_mark])), (r_plain, .inl (cA.1, 1024, .inl w_r_plain_a_b162)), (r_tag, .inl (cA.1, 3072, .inl g_tag)), (r_sum, .inl (cA.1, 3072, .inl w_r_sum_a_b162)), (r_use, .inl (cA.1, 3072, .inl w_r_use_a_b162))] H → va_D A [(o0, .inr (11, [.int mt, .int mkd, .int mbt, .int mrw, .int mhs, .int mco, .int (bI mey), .int mu1, .int mu2, .int mu3, .int mu4, .ref r_lastBit, .ref r_plain, .ref r_mixed, .ref r_chooser, .ref r_own, .ref r_ownCounter, .ref r_tag, .ref r_sum, .ref r_use, .ref r_weight, .ref r_loopTag, .ref r_length, .ref r_count, .ref r_trust, .int mwt, .ref r_waitPlace, .ref r_waitHistory, .ref r_waitSaid, .int mmk, .ref r_mark])), (r_plain, .inl (cA.1, 1024, .inl w_r_plain_a_b162)), (r_tag, .inl (cA.1, 3072, .inl g_tag)), (r_sum, .inl (cA.1, 3072, .inl w_r_sum_a_b162)), (r_use, .inl (cA.1, 3072, .inl w_r_use_a_b162))] → va_S A s.heap H locs → lv_has ls 9 [(0, .ref o0), (1, .int pl), (2, .int hs), (3, .int (bI tk)), (4, .int v4_b162), (5, .int (bI v5_b162))] → W p l e (headSpec wMd_learnTagged ({ frames := 4, cells := 0, slots := 0, locals := 95 })).room s m ([.ref o0, .int pl, .int hs, .int (bI tk)] : List Value).toArray below meth c H locs 0 0 (MQ below (va_Qv (fun w9 => w9 = [(o0, .inr (11, [.int mt, .int mkd, .int mbt, .int mrw, .int mhs, .int mco, .int (bI mey), .int mu1, .int mu2, .int mu3, .int mu4, .ref r_lastBit, .ref r_plain, .ref r_mixed, .ref r_chooser, .ref r_own, .ref r_ownCounter, .ref r_tag, .ref r_sum, .ref r_use, .ref r_weight, .ref r_loopTag, .ref r_length, .ref r_count, .ref r_trust, .int mwt, .ref r_waitPlace, .ref r_waitHistory, .ref r_waitSaid, .int mmk, .ref r_mark])), (r_plain, .inl (cA.1, 1024, .inl rs0)), (r_tag, .inl (cA.1, 3072, .inl rs1)), (r_sum, .inl (cA.1, 3072, .inl rs2)), (r_use, .inl (cA.1, 3072, .inl rs3))]) (At (dC, dI) cA A) A) ([.ref o0, .int pl, .int hs, .int (bI tk)] : List Value).toArray s 0 0 A) (F0 m 162 ls []) := by
    intro rs0 rs1 rs2 rs3 v4_b162 v5_b162 w_r_plain_a_b162 w_r_sum_a_b162 w_r_use_a_b162 H locs ls hfn hP hD hS hl
    unfold of_Md_learnTagged_b162 at hfn
    refine lv_iload hx hb dMd_learnTagged_162 (lv_at hl 5 rfl) ?_
    refine lv_iload_n hx hb dMd_learnTagged_164 rfl (lv_at hl 3 rfl) ?_
    refine lv_icmp_eq (tgt := 179) hx hb dMd_learnTagged_165 (by decide) (fun c_18 => ?_) (fun c_18 => ?_)
    · rw [if_pos c_18] at hfn
      replace hfn := Option.some.inj hfn
      obtain ⟨e9, hf_0⟩ := Prod.mk.inj hfn; clear hfn; subst e9
      obtain ⟨e9, hf_1⟩ := Prod.mk.inj hf_0; clear hf_0; subst e9
      obtain ⟨e9, hf_2⟩ := Prod.mk.inj hf_1; clear hf_1; subst e9
      subst hf_2
      exact W.vret hx hb hr (fun t ht hW => ⟨⟨_, rfl, rfl, ⟨by rw [ht]; exact hP.sub [0, 1, 2, 3, 4] rfl, va_K.moved hW.alike hK, hD.sub [0, 1, 2, 3, 4] (by decide) rfl⟩⟩, hS.F ht⟩) hS.2.2 dMd_learnTagged_179
    · rw [if_neg c_18] at hfn
      refine lv_aload_n hx hb dMd_learnTagged_168 rfl (lv_at hl 0 rfl) ?_
      refine lv_iload hx hb dMd_learnTagged_169 (lv_at hl 4 rfl) ?_
      refine lv_iconst (v := 1) hx hb dMd_learnTagged_171 (by decide) ?_
      refine lv_iadd hx hb dMd_learnTagged_172 ?_
      refine lv_iload_n hx hb dMd_learnTagged_173 rfl (lv_at hl 1 rfl) ?_
      refine lv_iload_n hx hb dMd_learnTagged_174 rfl (lv_at hl 2 rfl) ?_
      refine lv_iload_n hx hb dMd_learnTagged_175 rfl (lv_at hl 3 rfl) ?_
      obtain ⟨⟨z_19_0, z_19_1, z_19_2⟩, hz_19, hfn⟩ := ob hfn
      dsimp only at hfn
      refine wr_Vv (wr := [(r_plain, .inl (cA.1, 1024, .inl w_r_plain_a_b162))]) (As := [.int (v4_b162 + 1), .int pl, .int hs, .int (bI tk)]) (rest := []) ⟨hx, hb, hml, hown, htg⟩ (c_Md_allot l dC dI cA _ o0 r_tag r_sum r_use r_lastBit r_plain r_mixed r_chooser r_own r_ownCounter r_weight r_loopTag r_length r_count r_trust r_waitPlace r_waitHistory r_waitSaid r_mark mt mkd mbt mrw mhs mco mey mu1 mu2 mu3 mu4 mwt mmk g_tag w_r_sum_a_b162 w_r_use_a_b162 (v4_b162 + 1) pl hs tk z_19_0 z_19_1 z_19_2 hz_19) (cw_V htg wd_969 ws_31 qMd_allot iMd_allot kMd_allot pMd_allot rfl rfl ⟨Nat.le_of_ble_eq_true rfl, Nat.le_of_ble_eq_true rfl⟩) (va_recv hK hP (ci := 11) (q0 := 0) rfl rfl) hN hP hD hS hA hK [0, 2, 3, 4] [1] rfl rfl (by decide) (by decide) (by decide) rfl hl.1 rfl (Nat.le_of_ble_eq_true rfl) dMd_learnTagged_176 ⟨Nat.le_of_ble_eq_true rfl, Nat.le_of_ble_eq_true rfl⟩ (fun H locs hP hD hS => ?_)
      have hP : va_P (dC, dI) vwCl [(r_plain, .inl (cA.1, 1024, .inl w_r_plain_a_b162)), (o0, .inr (11, [.int mt, .int mkd, .int mbt, .int mrw, .int mhs, .int mco, .int (bI mey), .int mu1, .int mu2, .int mu3, .int mu4, .ref r_lastBit, .ref r_plain, .ref r_mixed, .ref r_chooser, .ref r_own, .ref r_ownCounter, .ref r_tag, .ref r_sum, .ref r_use, .ref r_weight, .ref r_loopTag, .ref r_length, .ref r_count, .ref r_trust, .int mwt, .ref r_waitPlace, .ref r_waitHistory, .ref r_waitSaid, .int mmk, .ref r_mark])), (r_tag, .inl (cA.1, 3072, .inl z_19_0)), (r_sum, .inl (cA.1, 3072, .inl z_19_1)), (r_use, .inl (cA.1, 3072, .inl z_19_2))] H := hP
      have hD : va_D A [(r_plain, .inl (cA.1, 1024, .inl w_r_plain_a_b162)), (o0, .inr (11, [.int mt, .int mkd, .int mbt, .int mrw, .int mhs, .int mco, .int (bI mey), .int mu1, .int mu2, .int mu3, .int mu4, .ref r_lastBit, .ref r_plain, .ref r_mixed, .ref r_chooser, .ref r_own, .ref r_ownCounter, .ref r_tag, .ref r_sum, .ref r_use, .ref r_weight, .ref r_loopTag, .ref r_length, .ref r_count, .ref r_trust, .int mwt, .ref r_waitPlace, .ref r_waitHistory, .ref r_waitSaid, .int mmk, .ref r_mark])), (r_tag, .inl (cA.1, 3072, .inl z_19_0)), (r_sum, .inl (cA.1, 3072, .inl z_19_1)), (r_use, .inl (cA.1, 3072, .inl z_19_2))] := hD
      replace hfn := Option.some.inj hfn
      obtain ⟨e9, hf_0⟩ := Prod.mk.inj hfn; clear hfn; subst e9
      obtain ⟨e9, hf_1⟩ := Prod.mk.inj hf_0; clear hf_0; subst e9
      obtain ⟨e9, hf_2⟩ := Prod.mk.inj hf_1; clear hf_1; subst e9
      subst hf_2
      exact W.vret hx hb hr (fun t ht hW => ⟨⟨_, rfl, rfl, ⟨by rw [ht]; exact hP.sub [1, 0, 2, 3, 4] rfl, va_K.moved hW.alike hK, hD.sub [1, 0, 2, 3, 4] (by decide) rfl⟩⟩, hS.F ht⟩) hS.2.2 dMd_learnTagged_179
  have blk158 : ∀ (rs0 : (Nat → Int32)) (rs1 : (Nat → Int32)) (rs2 : (Nat → Int32)) (rs3 : (Nat → Int32)) (v4_b158 : Int32) (v5_b158 : Bool) (s0_b158 : Bool) (s1_b158 : Int32) (s2_b158 : Int32) (w_r_sum_a_b158 : Nat → Int32) (H : Heap) (locs : List Loc) (ls : Array Slot), of_Md_learnTagged_b158 mbt mrw g_plain g_tag g_use pl hs tk v4_b158 v5_b158 s0_b158 s1_b158 s2_b158 w_r_sum_a_b158 = some (rs0, rs1, rs2, rs3) → va_P (dC, dI) vwCl [(o0, .inr (11, [.int mt, .int mkd, .int mbt, .int mrw, .int mhs, .int mco, .int (bI mey), .int mu1, .int mu2, .int mu3, .int mu4, .ref r_lastBit, .ref r_plain, .ref r_mixed, .ref r_chooser, .ref r_own, .ref r_ownCounter, .ref r_tag, .ref r_sum, .ref r_use, .ref r_weight, .ref r_loopTag, .ref r_length, .ref r_count, .ref r_trust, .int mwt, .ref r_waitPlace, .ref r_waitHistory, .ref r_waitSaid, .int mmk, .ref r_mark])), (r_plain, .inl (cA.1, 1024, .inl g_plain)), (r_tag, .inl (cA.1, 3072, .inl g_tag)), (r_sum, .inl (cA.1, 3072, .inl w_r_sum_a_b158)), (r_use, .inl (cA.1, 3072, .inl g_use))] H → va_D A [(o0, .inr (11, [.int mt, .int mkd, .int mbt, .int mrw, .int mhs, .int mco, .int (bI mey), .int mu1, .int mu2, .int mu3, .int mu4, .ref r_lastBit, .ref r_plain, .ref r_mixed, .ref r_chooser, .ref r_own, .ref r_ownCounter, .ref r_tag, .ref r_sum, .ref r_use, .ref r_weight, .ref r_loopTag, .ref r_length, .ref r_count, .ref r_trust, .int mwt, .ref r_waitPlace, .ref r_waitHistory, .ref r_waitSaid, .int mmk, .ref r_mark])), (r_plain, .inl (cA.1, 1024, .inl g_plain)), (r_tag, .inl (cA.1, 3072, .inl g_tag)), (r_sum, .inl (cA.1, 3072, .inl w_r_sum_a_b158)), (r_use, .inl (cA.1, 3072, .inl g_use))] → va_S A s.heap H locs → lv_has ls 9 [(0, .ref o0), (1, .int pl), (2, .int hs), (3, .int (bI tk)), (4, .int v4_b158), (5, .int (bI v5_b158))] → W p l e (headSpec wMd_learnTagged ({ frames := 4, cells := 0, slots := 0, locals := 95 })).room s m ([.ref o0, .int pl, .int hs, .int (bI tk)] : List Value).toArray below meth c H locs 0 0 (MQ below (va_Qv (fun w9 => w9 = [(o0, .inr (11, [.int mt, .int mkd, .int mbt, .int mrw, .int mhs, .int mco, .int (bI mey), .int mu1, .int mu2, .int mu3, .int mu4, .ref r_lastBit, .ref r_plain, .ref r_mixed, .ref r_chooser, .ref r_own, .ref r_ownCounter, .ref r_tag, .ref r_sum, .ref r_use, .ref r_weight, .ref r_loopTag, .ref r_length, .ref r_count, .ref r_trust, .int mwt, .ref r_waitPlace, .ref r_waitHistory, .ref r_waitSaid, .int mmk, .ref r_mark])), (r_plain, .inl (cA.1, 1024, .inl rs0)), (r_tag, .inl (cA.1, 3072, .inl rs1)), (r_sum, .inl (cA.1, 3072, .inl rs2)), (r_use, .inl (cA.1, 3072, .inl rs3))]) (At (dC, dI) cA A) A) ([.ref o0, .int pl, .int hs, .int (bI tk)] : List Value).toArray s 0 0 A) (F0 m 158 ls [.int (bI s0_b158), .int s1_b158, .int s2_b158, .ref r_use]) := by
    intro rs0 rs1 rs2 rs3 v4_b158 v5_b158 s0_b158 s1_b158 s2_b158 w_r_sum_a_b158 H locs ls hfn hP hD hS hl
    unfold of_Md_learnTagged_b158 at hfn
    refine rd_S (As := [.int s1_b158, .int (bI s0_b158)]) (rest := [.int s2_b158, .ref r_use]) ⟨hx, hb, hml, hown, htg⟩ (c_Md_step l dC dI cA s1_b158 s0_b158) (cw_S htg wd_962 qMd_step iMd_step kMd_step pMd_step rfl rfl ⟨Nat.le_of_ble_eq_true rfl, Nat.le_of_ble_eq_true rfl⟩) hN (hP.sub [] rfl) hK rfl hl.1 rfl (Nat.le_of_ble_eq_true rfl) dMd_learnTagged_158 ⟨Nat.le_of_ble_eq_true rfl, Nat.le_of_ble_eq_true rfl⟩ ?_
    obtain ⟨g_17, hfn⟩ := og hfn
    refine va_iast hx hb hK hP hD hS 4 0 rfl rfl g_17 dMd_learnTagged_161 (fun H locs hP hD hS => ?_)
    have hP : va_P (dC, dI) vwCl [(o0, .inr (11, [.int mt, .int mkd, .int mbt, .int mrw, .int mhs, .int mco, .int (bI mey), .int mu1, .int mu2, .int mu3, .int mu4, .ref r_lastBit, .ref r_plain, .ref r_mixed, .ref r_chooser, .ref r_own, .ref r_ownCounter, .ref r_tag, .ref r_sum, .ref r_use, .ref r_weight, .ref r_loopTag, .ref r_length, .ref r_count, .ref r_trust, .int mwt, .ref r_waitPlace, .ref r_waitHistory, .ref r_waitSaid, .int mmk, .ref r_mark])), (r_plain, .inl (cA.1, 1024, .inl g_plain)), (r_tag, .inl (cA.1, 3072, .inl g_tag)), (r_sum, .inl (cA.1, 3072, .inl w_r_sum_a_b158)), (r_use, .inl (cA.1, 3072, .inl (upd g_use s2_b158.toNatClampNeg (tf_Md_step s1_b158 s0_b158))))] H := hP
    have hD : va_D A [(o0, .inr (11, [.int mt, .int mkd, .int mbt, .int mrw, .int mhs, .int mco, .int (bI mey), .int mu1, .int mu2, .int mu3, .int mu4, .ref r_lastBit, .ref r_plain, .ref r_mixed, .ref r_chooser, .ref r_own, .ref r_ownCounter, .ref r_tag, .ref r_sum, .ref r_use, .ref r_weight, .ref r_loopTag, .ref r_length, .ref r_count, .ref r_trust, .int mwt, .ref r_waitPlace, .ref r_waitHistory, .ref r_waitSaid, .int mmk, .ref r_mark])), (r_plain, .inl (cA.1, 1024, .inl g_plain)), (r_tag, .inl (cA.1, 3072, .inl g_tag)), (r_sum, .inl (cA.1, 3072, .inl w_r_sum_a_b158)), (r_use, .inl (cA.1, 3072, .inl (upd g_use s2_b158.toNatClampNeg (tf_Md_step s1_b158 s0_b158))))] := hD
    exact blk162 _ _ _ _ v4_b158 v5_b158 g_plain w_r_sum_a_b158 (upd g_use s2_b158.toNatClampNeg (tf_Md_step s1_b158 s0_b158)) _ _ ls hfn (hP.sub [0, 1, 2, 3, 4] rfl) (hD.sub [0, 1, 2, 3, 4] (by decide) rfl) hS (lv_sub hl [0, 1, 2, 3, 4, 5] rfl)
  have blk126 : ∀ (rs0 : (Nat → Int32)) (rs1 : (Nat → Int32)) (rs2 : (Nat → Int32)) (rs3 : (Nat → Int32)) (v4_b126 : Int32) (v5_b126 : Bool) (v6_b126 : Bool) (v7_b126 : Int32) (s0_b126 : Int32) (s1_b126 : Int32) (H : Heap) (locs : List Loc) (ls : Array Slot), of_Md_learnTagged_b126 mbt mrw g_plain g_tag g_sum g_use pl hs tk v4_b126 v5_b126 v6_b126 v7_b126 s0_b126 s1_b126 = some (rs0, rs1, rs2, rs3) → va_P (dC, dI) vwCl [(o0, .inr (11, [.int mt, .int mkd, .int mbt, .int mrw, .int mhs, .int mco, .int (bI mey), .int mu1, .int mu2, .int mu3, .int mu4, .ref r_lastBit, .ref r_plain, .ref r_mixed, .ref r_chooser, .ref r_own, .ref r_ownCounter, .ref r_tag, .ref r_sum, .ref r_use, .ref r_weight, .ref r_loopTag, .ref r_length, .ref r_count, .ref r_trust, .int mwt, .ref r_waitPlace, .ref r_waitHistory, .ref r_waitSaid, .int mmk, .ref r_mark])), (r_plain, .inl (cA.1, 1024, .inl g_plain)), (r_tag, .inl (cA.1, 3072, .inl g_tag)), (r_sum, .inl (cA.1, 3072, .inl g_sum)), (r_use, .inl (cA.1, 3072, .inl g_use))] H → va_D A [(o0, .inr (11, [.int mt, .int mkd, .int mbt, .int mrw, .int mhs, .int mco, .int (bI mey), .int mu1, .int mu2, .int mu3, .int mu4, .ref r_lastBit, .ref r_plain, .ref r_mixed, .ref r_chooser, .ref r_own, .ref r_ownCounter, .ref r_tag, .ref r_sum, .ref r_use, .ref r_weight, .ref r_loopTag, .ref r_length, .ref r_count, .ref r_trust, .int mwt, .ref r_waitPlace, .ref r_waitHistory, .ref r_waitSaid, .int mmk, .ref r_mark])), (r_plain, .inl (cA.1, 1024, .inl g_plain)), (r_tag, .inl (cA.1, 3072, .inl g_tag)), (r_sum, .inl (cA.1, 3072, .inl g_sum)), (r_use, .inl (cA.1, 3072, .inl g_use))] → va_S A s.heap H locs → lv_has ls 9 [(0, .ref o0), (1, .int pl), (2, .int hs), (3, .int (bI tk)), (4, .int v4_b126), (5, .int (bI v5_b126)), (6, .int (bI v6_b126)), (7, .int v7_b126)] → W p l e (headSpec wMd_learnTagged ({ frames := 4, cells := 0, slots := 0, locals := 95 })).room s m ([.ref o0, .int pl, .int hs, .int (bI tk)] : List Value).toArray below meth c H locs 0 0 (MQ below (va_Qv (fun w9 => w9 = [(o0, .inr (11, [.int mt, .int mkd, .int mbt, .int mrw, .int mhs, .int mco, .int (bI mey), .int mu1, .int mu2, .int mu3, .int mu4, .ref r_lastBit, .ref r_plain, .ref r_mixed, .ref r_chooser, .ref r_own, .ref r_ownCounter, .ref r_tag, .ref r_sum, .ref r_use, .ref r_weight, .ref r_loopTag, .ref r_length, .ref r_count, .ref r_trust, .int mwt, .ref r_waitPlace, .ref r_waitHistory, .ref r_waitSaid, .int mmk, .ref r_mark])), (r_plain, .inl (cA.1, 1024, .inl rs0)), (r_tag, .inl (cA.1, 3072, .inl rs1)), (r_sum, .inl (cA.1, 3072, .inl rs2)), (r_use, .inl (cA.1, 3072, .inl rs3))]) (At (dC, dI) cA A) A) ([.ref o0, .int pl, .int hs, .int (bI tk)] : List Value).toArray s 0 0 A) (F0 m 126 ls [.int s0_b126, .int s1_b126, .ref r_sum]) := by
    intro rs0 rs1 rs2 rs3 v4_b126 v5_b126 v6_b126 v7_b126 s0_b126 s1_b126 H locs ls hfn hP hD hS hl
    unfold of_Md_learnTagged_b126 at hfn
    obtain ⟨g_13, hfn⟩ := og hfn
    refine va_iast hx hb hK hP hD hS 3 0 rfl rfl g_13 dMd_learnTagged_126 (fun H locs hP hD hS => ?_)
    have hP : va_P (dC, dI) vwCl [(o0, .inr (11, [.int mt, .int mkd, .int mbt, .int mrw, .int mhs, .int mco, .int (bI mey), .int mu1, .int mu2, .int mu3, .int mu4, .ref r_lastBit, .ref r_plain, .ref r_mixed, .ref r_chooser, .ref r_own, .ref r_ownCounter, .ref r_tag, .ref r_sum, .ref r_use, .ref r_weight, .ref r_loopTag, .ref r_length, .ref r_count, .ref r_trust, .int mwt, .ref r_waitPlace, .ref r_waitHistory, .ref r_waitSaid, .int mmk, .ref r_mark])), (r_plain, .inl (cA.1, 1024, .inl g_plain)), (r_tag, .inl (cA.1, 3072, .inl g_tag)), (r_sum, .inl (cA.1, 3072, .inl (upd g_sum s1_b126.toNatClampNeg s0_b126))), (r_use, .inl (cA.1, 3072, .inl g_use))] H := hP
    have hD : va_D A [(o0, .inr (11, [.int mt, .int mkd, .int mbt, .int mrw, .int mhs, .int mco, .int (bI mey), .int mu1, .int mu2, .int mu3, .int mu4, .ref r_lastBit, .ref r_plain, .ref r_mixed, .ref r_chooser, .ref r_own, .ref r_ownCounter, .ref r_tag, .ref r_sum, .ref r_use, .ref r_weight, .ref r_loopTag, .ref r_length, .ref r_count, .ref r_trust, .int mwt, .ref r_waitPlace, .ref r_waitHistory, .ref r_waitSaid, .int mmk, .ref r_mark])), (r_plain, .inl (cA.1, 1024, .inl g_plain)), (r_tag, .inl (cA.1, 3072, .inl g_tag)), (r_sum, .inl (cA.1, 3072, .inl (upd g_sum s1_b126.toNatClampNeg s0_b126))), (r_use, .inl (cA.1, 3072, .inl g_use))] := hD
    refine lv_iload hx hb dMd_learnTagged_127 (lv_at hl 5 rfl) ?_
    refine lv_iload hx hb dMd_learnTagged_129 (lv_at hl 6 rfl) ?_
    refine lv_icmp_eq (tgt := 162) hx hb dMd_learnTagged_131 (by decide) (fun c_14 => ?_) (fun c_14 => ?_)
    · rw [if_pos c_14] at hfn
      exact blk162 _ _ _ _ v4_b126 v5_b126 g_plain (upd g_sum s1_b126.toNatClampNeg s0_b126) g_use _ _ ls hfn (hP.sub [0, 1, 2, 3, 4] rfl) (hD.sub [0, 1, 2, 3, 4] (by decide) rfl) hS (lv_sub hl [0, 1, 2, 3, 4, 5] rfl)
    · rw [if_neg c_14] at hfn
      refine lv_aload_n hx hb dMd_learnTagged_134 rfl (lv_at hl 0 rfl) ?_
      refine va_get (D := (dC, dI)) (ci := 11) (v := .ref r_use) (C := R_Md) (T := T_Md) (N := 31) hx hb htg in_Md hown hK hP 0 rfl rfl 19 (by decide) (htg _ wd_814) (fun _ h9 => h9) rfl dMd_learnTagged_135 ?_
      refine lv_iload hx hb dMd_learnTagged_138 (lv_at hl 7 rfl) ?_
      refine lv_aload_n hx hb dMd_learnTagged_140 rfl (lv_at hl 0 rfl) ?_
      refine va_get (D := (dC, dI)) (ci := 11) (v := .ref r_use) (C := R_Md) (T := T_Md) (N := 31) hx hb htg in_Md hown hK hP 0 rfl rfl 19 (by decide) (htg _ wd_814) (fun _ h9 => h9) rfl dMd_learnTagged_141 ?_
      refine lv_iload hx hb dMd_learnTagged_144 (lv_at hl 7 rfl) ?_
      obtain ⟨g_15, hfn⟩ := og hfn
      refine va_iald hx hb hK hP 4 0 rfl rfl g_15 dMd_learnTagged_146 ?_
      refine lv_iload hx hb dMd_learnTagged_147 (lv_at hl 5 rfl) ?_
      refine lv_iload_n hx hb dMd_learnTagged_149 rfl (lv_at hl 3 rfl) ?_
      refine lv_icmp_ne (tgt := 157) hx hb dMd_learnTagged_150 (by decide) (fun c_16 => ?_) (fun c_16 => ?_)
      · rw [if_neg c_16] at hfn
        refine lv_iconst (v := 0) hx hb dMd_learnTagged_157 (by decide) ?_
        exact blk158 _ _ _ _ v4_b126 v5_b126 false (g_use v7_b126.toNatClampNeg) v7_b126 (upd g_sum s1_b126.toNatClampNeg s0_b126) _ _ ls hfn (hP.sub [0, 1, 2, 3, 4] rfl) (hD.sub [0, 1, 2, 3, 4] (by decide) rfl) hS (lv_sub hl [0, 1, 2, 3, 4, 5] rfl)
      · rw [if_pos c_16] at hfn
        refine lv_iconst (v := 1) hx hb dMd_learnTagged_153 (by decide) ?_
        refine lv_goto (tgt := 158) hx hb dMd_learnTagged_154 (by decide) ?_
        exact blk158 _ _ _ _ v4_b126 v5_b126 true (g_use v7_b126.toNatClampNeg) v7_b126 (upd g_sum s1_b126.toNatClampNeg s0_b126) _ _ ls hfn (hP.sub [0, 1, 2, 3, 4] rfl) (hD.sub [0, 1, 2, 3, 4] (by decide) rfl) hS (lv_sub hl [0, 1, 2, 3, 4, 5] rfl)
  have blk93 : ∀ (rs0 : (Nat → Int32)) (rs1 : (Nat → Int32)) (rs2 : (Nat → Int32)) (rs3 : (Nat → Int32)) (v4_b93 : Int32) (v5_b93 : Bool) (v6_b93 : Bool) (v7_b93 : Int32) (s0_b93 : Int32) (s1_b93 : Int32) (H : Heap) (locs : List Loc) (ls : Array Slot), of_Md_learnTagged_b93 mbt mrw g_plain g_tag g_sum g_use pl hs tk v4_b93 v5_b93 v6_b93 v7_b93 s0_b93 s1_b93 = some (rs0, rs1, rs2, rs3) → va_P (dC, dI) vwCl [(o0, .inr (11, [.int mt, .int mkd, .int mbt, .int mrw, .int mhs, .int mco, .int (bI mey), .int mu1, .int mu2, .int mu3, .int mu4, .ref r_lastBit, .ref r_plain, .ref r_mixed, .ref r_chooser, .ref r_own, .ref r_ownCounter, .ref r_tag, .ref r_sum, .ref r_use, .ref r_weight, .ref r_loopTag, .ref r_length, .ref r_count, .ref r_trust, .int mwt, .ref r_waitPlace, .ref r_waitHistory, .ref r_waitSaid, .int mmk, .ref r_mark])), (r_plain, .inl (cA.1, 1024, .inl g_plain)), (r_tag, .inl (cA.1, 3072, .inl g_tag)), (r_sum, .inl (cA.1, 3072, .inl g_sum)), (r_use, .inl (cA.1, 3072, .inl g_use))] H → va_D A [(o0, .inr (11, [.int mt, .int mkd, .int mbt, .int mrw, .int mhs, .int mco, .int (bI mey), .int mu1, .int mu2, .int mu3, .int mu4, .ref r_lastBit, .ref r_plain, .ref r_mixed, .ref r_chooser, .ref r_own, .ref r_ownCounter, .ref r_tag, .ref r_sum, .ref r_use, .ref r_weight, .ref r_loopTag, .ref r_length, .ref r_count, .ref r_trust, .int mwt, .ref r_waitPlace, .ref r_waitHistory, .ref r_waitSaid, .int mmk, .ref r_mark])), (r_plain, .inl (cA.1, 1024, .inl g_plain)), (r_tag, .inl (cA.1, 3072, .inl g_tag)), (r_sum, .inl (cA.1, 3072, .inl g_sum)), (r_use, .inl (cA.1, 3072, .inl g_use))] → va_S A s.heap H locs → lv_has ls 9 [(0, .ref o0), (1, .int pl), (2, .int hs), (3, .int (bI tk)), (4, .int v4_b93), (5, .int (bI v5_b93)), (6, .int (bI v6_b93)), (7, .int v7_b93)] → W p l e (headSpec wMd_learnTagged ({ frames := 4, cells := 0, slots := 0, locals := 95 })).room s m ([.ref o0, .int pl, .int hs, .int (bI tk)] : List Value).toArray below meth c H locs 0 0 (MQ below (va_Qv (fun w9 => w9 = [(o0, .inr (11, [.int mt, .int mkd, .int mbt, .int mrw, .int mhs, .int mco, .int (bI mey), .int mu1, .int mu2, .int mu3, .int mu4, .ref r_lastBit, .ref r_plain, .ref r_mixed, .ref r_chooser, .ref r_own, .ref r_ownCounter, .ref r_tag, .ref r_sum, .ref r_use, .ref r_weight, .ref r_loopTag, .ref r_length, .ref r_count, .ref r_trust, .int mwt, .ref r_waitPlace, .ref r_waitHistory, .ref r_waitSaid, .int mmk, .ref r_mark])), (r_plain, .inl (cA.1, 1024, .inl rs0)), (r_tag, .inl (cA.1, 3072, .inl rs1)), (r_sum, .inl (cA.1, 3072, .inl rs2)), (r_use, .inl (cA.1, 3072, .inl rs3))]) (At (dC, dI) cA A) A) ([.ref o0, .int pl, .int hs, .int (bI tk)] : List Value).toArray s 0 0 A) (F0 m 93 ls [.int s0_b93, .int s1_b93]) := by
    intro rs0 rs1 rs2 rs3 v4_b93 v5_b93 v6_b93 v7_b93 s0_b93 s1_b93 H locs ls hfn hP hD hS hl
    unfold of_Md_learnTagged_b93 at hfn
    refine lv_iadd hx hb dMd_learnTagged_93 ?_
    refine lv_istore (lv' := [(8, .int (s1_b93 + s0_b93)), (0, .ref o0), (1, .int pl), (2, .int hs), (3, .int (bI tk)), (4, .int v4_b93), (5, .int (bI v5_b93)), (6, .int (bI v6_b93)), (7, .int v7_b93)]) hx hb dMd_learnTagged_94 hl (by decide) rfl (fun ls hl => ?_)
    refine lv_aload_n hx hb dMd_learnTagged_96 rfl (lv_at hl 1 rfl) ?_
    refine va_get (D := (dC, dI)) (ci := 11) (v := .ref r_sum) (C := R_Md) (T := T_Md) (N := 31) hx hb htg in_Md hown hK hP 0 rfl rfl 18 (by decide) (htg _ wd_813) (fun _ h9 => h9) rfl dMd_learnTagged_97 ?_
    refine lv_iload hx hb dMd_learnTagged_100 (lv_at hl 8 rfl) ?_
    refine lv_iload hx hb dMd_learnTagged_102 (lv_at hl 0 rfl) ?_
    refine lv_iconst (v := 3) hx hb dMd_learnTagged_104 (by decide) ?_
    refine lv_icmp_le (tgt := 112) hx hb dMd_learnTagged_105 (by decide) (fun c_11 => ?_) (fun c_11 => ?_)
    · rw [if_pos c_11] at hfn
      refine lv_iload hx hb dMd_learnTagged_112 (lv_at hl 0 rfl) ?_
      refine lv_bipush (v := (-4)) hx hb dMd_learnTagged_114 (by decide) ?_
      refine lv_icmp_ge (tgt := 124) hx hb dMd_learnTagged_116 (by decide) (fun c_12 => ?_) (fun c_12 => ?_)
      · rw [if_pos c_12] at hfn
        refine lv_iload hx hb dMd_learnTagged_124 (lv_at hl 0 rfl) ?_
        exact blk126 _ _ _ _ v4_b93 v5_b93 v6_b93 v7_b93 (s1_b93 + s0_b93) v7_b93 _ _ ls hfn (hP.sub [0, 1, 2, 3, 4] rfl) (hD.sub [0, 1, 2, 3, 4] (by decide) rfl) hS (lv_sub hl [1, 2, 3, 4, 5, 6, 7, 8] rfl)
      · rw [if_neg c_12] at hfn
        refine lv_bipush (v := (-4)) hx hb dMd_learnTagged_119 (by decide) ?_
        refine lv_goto (tgt := 126) hx hb dMd_learnTagged_121 (by decide) ?_
        exact blk126 _ _ _ _ v4_b93 v5_b93 v6_b93 v7_b93 (-4) v7_b93 _ _ ls hfn (hP.sub [0, 1, 2, 3, 4] rfl) (hD.sub [0, 1, 2, 3, 4] (by decide) rfl) hS (lv_sub hl [1, 2, 3, 4, 5, 6, 7, 8] rfl)
    · rw [if_neg c_11] at hfn
      refine lv_iconst (v := 3) hx hb dMd_learnTagged_108 (by decide) ?_
      refine lv_goto (tgt := 126) hx hb dMd_learnTagged_109 (by decide) ?_
      exact blk126 _ _ _ _ v4_b93 v5_b93 v6_b93 v7_b93 3 v7_b93 _ _ ls hfn (hP.sub [0, 1, 2, 3, 4] rfl) (hD.sub [0, 1, 2, 3, 4] (by decide) rfl) hS (lv_sub hl [1, 2, 3, 4, 5, 6, 7, 8] rfl)
  have hl := lv_entry ([.ref o0, .int pl, .int hs, .int (bI tk)]) (n := 9) (Nat.le_of_ble_eq_true rfl)
  rw [lg_entry_eq]
  generalize (lg_sl ([.ref o0, .int pl, .int hs, .int (bI tk)]) ++ List.replicate (9 - (lg_sl ([.ref o0, .int pl, .int hs, .int (bI tk)])).length) Slot.unset).toArray = ls at hl ⊢
  have hl : lv_has ls 9 [(0, .ref o0), (1, .int pl), (2, .int hs), (3, .int (bI tk))] := hl
  unfold of_Md_learnTagged at hfn
  refine lv_aload_n hx hb dMd_learnTagged_0 rfl (lv_at hl 0 rfl) ?_
  refine lv_iconst (v := 3) hx hb dMd_learnTagged_1 (by decide) ?_
  refine lv_iload_n hx hb dMd_learnTagged_2 rfl (lv_at hl 1 rfl) ?_
  refine lv_iload_n hx hb dMd_learnTagged_3 rfl (lv_at hl 2 rfl) ?_
  obtain ⟨z_1, hz_1, hfn⟩ := ob hfn
  refine rd_V (As := [.int 3, .int pl, .int hs]) (rest := []) ⟨hx, hb, hml, hown, htg⟩ (c_Md_hitBefore l dC dI cA o0 r_tag r_lastBit r_plain r_mixed r_chooser r_own r_ownCounter r_sum r_use r_weight r_loopTag r_length r_count r_trust r_waitPlace r_waitHistory r_waitSaid r_mark mt mkd mbt mrw mhs mco mey mu1 mu2 mu3 mu4 mwt mmk g_tag 3 pl hs z_1 hz_1) (cw_V htg wd_914 ws_22 qMd_hitBefore iMd_hitBefore kMd_hitBefore pMd_hitBefore rfl rfl ⟨Nat.le_of_ble_eq_true rfl, Nat.le_of_ble_eq_true rfl⟩) (va_recv hK hP (ci := 11) (q0 := 0) rfl rfl) hN (hP.sub [0, 2] rfl) hK rfl hl.1 rfl (Nat.le_of_ble_eq_true rfl) dMd_learnTagged_4 ⟨Nat.le_of_ble_eq_true rfl, Nat.le_of_ble_eq_true rfl⟩ ?_
  refine lv_istore (lv' := [(4, .int z_1), (0, .ref o0), (1, .int pl), (2, .int hs), (3, .int (bI tk))]) hx hb dMd_learnTagged_7 hl (by decide) rfl (fun ls hl => ?_)
  refine lv_aload_n hx hb dMd_learnTagged_9 rfl (lv_at hl 1 rfl) ?_
  refine lv_iload hx hb dMd_learnTagged_10 (lv_at hl 0 rfl) ?_
  refine lv_iload_n hx hb dMd_learnTagged_12 rfl (lv_at hl 2 rfl) ?_
  refine lv_iload_n hx hb dMd_learnTagged_13 rfl (lv_at hl 3 rfl) ?_
  obtain ⟨z_2, hz_2, hfn⟩ := ob hfn
  refine rd_V (As := [.int z_1, .int pl, .int hs]) (rest := []) ⟨hx, hb, hml, hown, htg⟩ (c_Md_saidBy l dC dI cA o0 r_plain r_sum r_lastBit r_mixed r_chooser r_own r_ownCounter r_tag r_use r_weight r_loopTag r_length r_count r_trust r_waitPlace r_waitHistory r_waitSaid r_mark mt mkd mbt mrw mhs mco mey mu1 mu2 mu3 mu4 mwt mmk g_plain g_sum z_1 pl hs z_2 hz_2) (cw_V htg wd_935 ws_25 qMd_saidBy iMd_saidBy kMd_saidBy pMd_saidBy rfl rfl ⟨Nat.le_of_ble_eq_true rfl, Nat.le_of_ble_eq_true rfl⟩) (va_recv hK hP (ci := 11) (q0 := 0) rfl rfl) hN (hP.sub [0, 1, 3] rfl) hK rfl hl.1 rfl (Nat.le_of_ble_eq_true rfl) dMd_learnTagged_14 ⟨Nat.le_of_ble_eq_true rfl, Nat.le_of_ble_eq_true rfl⟩ ?_
  refine lv_istore (lv' := [(5, .int (bI z_2)), (4, .int z_1), (0, .ref o0), (1, .int pl), (2, .int hs), (3, .int (bI tk))]) hx hb dMd_learnTagged_17 hl (by decide) rfl (fun ls hl => ?_)
  refine lv_iload hx hb dMd_learnTagged_19 (lv_at hl 1 rfl) ?_
  refine lv_if_ge (tgt := 51) hx hb dMd_learnTagged_21 (by decide) (fun c_3 => ?_) (fun c_3 => ?_)
  · rw [if_pos c_3] at hfn
    refine lv_aload_n hx hb dMd_learnTagged_51 rfl (lv_at hl 2 rfl) ?_
    refine lv_aload_n hx hb dMd_learnTagged_52 rfl (lv_at hl 2 rfl) ?_
    refine lv_iload hx hb dMd_learnTagged_53 (lv_at hl 1 rfl) ?_
    refine lv_iload_n hx hb dMd_learnTagged_55 rfl (lv_at hl 3 rfl) ?_
    refine lv_iload_n hx hb dMd_learnTagged_56 rfl (lv_at hl 4 rfl) ?_
    obtain ⟨z_4, hz_4, hfn⟩ := ob hfn
    refine rd_V (As := [.int z_1, .int pl, .int hs]) (rest := [.ref o0]) ⟨hx, hb, hml, hown, htg⟩ (c_Md_hitBefore l dC dI cA o0 r_tag r_lastBit r_plain r_mixed r_chooser r_own r_ownCounter r_sum r_use r_weight r_loopTag r_length r_count r_trust r_waitPlace r_waitHistory r_waitSaid r_mark mt mkd mbt mrw mhs mco mey mu1 mu2 mu3 mu4 mwt mmk g_tag z_1 pl hs z_4 hz_4) (cw_V htg wd_914 ws_22 qMd_hitBefore iMd_hitBefore kMd_hitBefore pMd_hitBefore rfl rfl ⟨Nat.le_of_ble_eq_true rfl, Nat.le_of_ble_eq_true rfl⟩) (va_recv hK hP (ci := 11) (q0 := 0) rfl rfl) hN (hP.sub [0, 2] rfl) hK rfl hl.1 rfl (Nat.le_of_ble_eq_true rfl) dMd_learnTagged_57 ⟨Nat.le_of_ble_eq_true rfl, Nat.le_of_ble_eq_true rfl⟩ ?_
    refine lv_iload_n hx hb dMd_learnTagged_60 rfl (lv_at hl 3 rfl) ?_
    refine lv_iload_n hx hb dMd_learnTagged_61 rfl (lv_at hl 4 rfl) ?_
    obtain ⟨z_5, hz_5, hfn⟩ := ob hfn
    refine rd_V (As := [.int z_4, .int pl, .int hs]) (rest := []) ⟨hx, hb, hml, hown, htg⟩ (c_Md_saidBy l dC dI cA o0 r_plain r_sum r_lastBit r_mixed r_chooser r_own r_ownCounter r_tag r_use r_weight r_loopTag r_length r_count r_trust r_waitPlace r_waitHistory r_waitSaid r_mark mt mkd mbt mrw mhs mco mey mu1 mu2 mu3 mu4 mwt mmk g_plain g_sum z_4 pl hs z_5 hz_5) (cw_V htg wd_935 ws_25 qMd_saidBy iMd_saidBy kMd_saidBy pMd_saidBy rfl rfl ⟨Nat.le_of_ble_eq_true rfl, Nat.le_of_ble_eq_true rfl⟩) (va_recv hK hP (ci := 11) (q0 := 0) rfl rfl) hN (hP.sub [0, 1, 3] rfl) hK rfl hl.1 rfl (Nat.le_of_ble_eq_true rfl) dMd_learnTagged_62 ⟨Nat.le_of_ble_eq_true rfl, Nat.le_of_ble_eq_true rfl⟩ ?_
    refine lv_istore (lv' := [(6, .int (bI z_5)), (5, .int (bI z_2)), (4, .int z_1), (0, .ref o0), (1, .int pl), (2, .int hs), (3, .int (bI tk))]) hx hb dMd_learnTagged_65 hl (by decide) rfl (fun ls hl => ?_)
    refine lv_aload_n hx hb dMd_learnTagged_67 rfl (lv_at hl 3 rfl) ?_
    refine lv_iload hx hb dMd_learnTagged_68 (lv_at hl 2 rfl) ?_
    refine lv_iload_n hx hb dMd_learnTagged_70 rfl (lv_at hl 4 rfl) ?_
    refine lv_iload_n hx hb dMd_learnTagged_71 rfl (lv_at hl 5 rfl) ?_
    obtain ⟨z_6, hz_6, hfn⟩ := ob hfn
    refine rd_V (As := [.int z_1, .int pl, .int hs]) (rest := []) ⟨hx, hb, hml, hown, htg⟩ (c_Md_taggedRow l dC dI cA o0 r_lastBit r_plain r_mixed r_chooser r_own r_ownCounter r_tag r_sum r_use r_weight r_loopTag r_length r_count r_trust r_waitPlace r_waitHistory r_waitSaid r_mark mt mkd mbt mrw mhs mco mey mu1 mu2 mu3 mu4 mwt mmk z_1 pl hs z_6 hz_6) (cw_V htg wd_922 ws_24 qMd_taggedRow iMd_taggedRow kMd_taggedRow pMd_taggedRow rfl rfl ⟨Nat.le_of_ble_eq_true rfl, Nat.le_of_ble_eq_true rfl⟩) (va_recv hK hP (ci := 11) (q0 := 0) rfl rfl) hN (hP.sub [0] rfl) hK rfl hl.1 rfl (Nat.le_of_ble_eq_true rfl) dMd_learnTagged_72 ⟨Nat.le_of_ble_eq_true rfl, Nat.le_of_ble_eq_true rfl⟩ ?_
    refine lv_istore (lv' := [(7, .int z_6), (6, .int (bI z_5)), (5, .int (bI z_2)), (4, .int z_1), (0, .ref o0), (1, .int pl), (2, .int hs), (3, .int (bI tk))]) hx hb dMd_learnTagged_75 hl (by decide) rfl (fun ls hl => ?_)
    refine lv_aload_n hx hb dMd_learnTagged_77 rfl (lv_at hl 4 rfl) ?_
    refine va_get (D := (dC, dI)) (ci := 11) (v := .ref r_sum) (C := R_Md) (T := T_Md) (N := 31) hx hb htg in_Md hown hK hP 0 rfl rfl 18 (by decide) (htg _ wd_813) (fun _ h9 => h9) rfl dMd_learnTagged_78 ?_
    refine lv_iload hx hb dMd_learnTagged_81 (lv_at hl 0 rfl) ?_
    obtain ⟨g_7, hfn⟩ := og hfn
    refine va_iald hx hb hK hP 3 0 rfl rfl g_7 dMd_learnTagged_83 ?_
    refine lv_iload_n hx hb dMd_learnTagged_84 rfl (lv_at hl 7 rfl) ?_
    refine lv_if_eq (tgt := 92) hx hb dMd_learnTagged_85 (by decide) (fun c_8 => ?_) (fun c_8 => ?_)
    · rw [if_pos c_8] at hfn
      refine lv_iconst (v := (-1)) hx hb dMd_learnTagged_92 (by decide) ?_
      exact blk93 _ _ _ _ z_1 z_2 z_5 z_6 (-1) (g_sum z_6.toNatClampNeg) _ _ ls hfn (hP.sub [0, 1, 2, 3, 4] rfl) (hD.sub [0, 1, 2, 3, 4] (by decide) rfl) hS (lv_sub hl [4, 5, 6, 7, 3, 2, 1, 0] rfl)
    · rw [if_neg c_8] at hfn
      refine lv_iconst (v := 1) hx hb dMd_learnTagged_88 (by decide) ?_
      refine lv_goto (tgt := 93) hx hb dMd_learnTagged_89 (by decide) ?_
      exact blk93 _ _ _ _ z_1 z_2 z_5 z_6 1 (g_sum z_6.toNatClampNeg) _ _ ls hfn (hP.sub [0, 1, 2, 3, 4] rfl) (hD.sub [0, 1, 2, 3, 4] (by decide) rfl) hS (lv_sub hl [4, 5, 6, 7, 3, 2, 1, 0] rfl)
  · rw [if_neg c_3] at hfn
    refine lv_aload_n hx hb dMd_learnTagged_24 rfl (lv_at hl 2 rfl) ?_
    refine va_get (D := (dC, dI)) (ci := 11) (v := .ref r_plain) (C := R_Md) (T := T_Md) (N := 31) hx hb htg in_Md hown hK hP 0 rfl rfl 12 (by decide) (htg _ wd_807) (fun _ h9 => h9) rfl dMd_learnTagged_25 ?_
    refine lv_aload_n hx hb dMd_learnTagged_28 rfl (lv_at hl 2 rfl) ?_
    refine lv_iload_n hx hb dMd_learnTagged_29 rfl (lv_at hl 3 rfl) ?_
    refine rd_V (As := [.int pl]) (rest := [.ref r_plain]) ⟨hx, hb, hml, hown, htg⟩ (c_Md_plainRow l dC dI cA o0 r_lastBit r_plain r_mixed r_chooser r_own r_ownCounter r_tag r_sum r_use r_weight r_loopTag r_length r_count r_trust r_waitPlace r_waitHistory r_waitSaid r_mark mt mkd mbt mrw mhs mco mey mu1 mu2 mu3 mu4 mwt mmk pl) (cw_V htg wd_902 ws_19 qMd_plainRow iMd_plainRow kMd_plainRow pMd_plainRow rfl rfl ⟨Nat.le_of_ble_eq_true rfl, Nat.le_of_ble_eq_true rfl⟩) (va_recv hK hP (ci := 11) (q0 := 0) rfl rfl) hN (hP.sub [0] rfl) hK rfl hl.1 rfl (Nat.le_of_ble_eq_true rfl) dMd_learnTagged_30 ⟨Nat.le_of_ble_eq_true rfl, Nat.le_of_ble_eq_true rfl⟩ ?_
    refine lv_aload_n hx hb dMd_learnTagged_33 rfl (lv_at hl 2 rfl) ?_
    refine va_get (D := (dC, dI)) (ci := 11) (v := .ref r_plain) (C := R_Md) (T := T_Md) (N := 31) hx hb htg in_Md hown hK hP 0 rfl rfl 12 (by decide) (htg _ wd_807) (fun _ h9 => h9) rfl dMd_learnTagged_34 ?_
    refine lv_aload_n hx hb dMd_learnTagged_37 rfl (lv_at hl 2 rfl) ?_
    refine lv_iload_n hx hb dMd_learnTagged_38 rfl (lv_at hl 3 rfl) ?_
    refine rd_V (As := [.int pl]) (rest := [.ref r_plain, .int (tf_Md_plainRow mbt mrw pl), .ref r_plain]) ⟨hx, hb, hml, hown, htg⟩ (c_Md_plainRow l dC dI cA o0 r_lastBit r_plain r_mixed r_chooser r_own r_ownCounter r_tag r_sum r_use r_weight r_loopTag r_length r_count r_trust r_waitPlace r_waitHistory r_waitSaid r_mark mt mkd mbt mrw mhs mco mey mu1 mu2 mu3 mu4 mwt mmk pl) (cw_V htg wd_902 ws_19 qMd_plainRow iMd_plainRow kMd_plainRow pMd_plainRow rfl rfl ⟨Nat.le_of_ble_eq_true rfl, Nat.le_of_ble_eq_true rfl⟩) (va_recv hK hP (ci := 11) (q0 := 0) rfl rfl) hN (hP.sub [0] rfl) hK rfl hl.1 rfl (Nat.le_of_ble_eq_true rfl) dMd_learnTagged_39 ⟨Nat.le_of_ble_eq_true rfl, Nat.le_of_ble_eq_true rfl⟩ ?_
    obtain ⟨g_9, hfn⟩ := og hfn
    refine va_iald hx hb hK hP 1 0 rfl rfl g_9 dMd_learnTagged_42 ?_
    refine lv_iload_n hx hb dMd_learnTagged_43 rfl (lv_at hl 5 rfl) ?_
    refine rd_S (As := [.int (g_plain (tf_Md_plainRow mbt mrw pl).toNatClampNeg), .int (bI tk)]) (rest := [.int (tf_Md_plainRow mbt mrw pl), .ref r_plain]) ⟨hx, hb, hml, hown, htg⟩ (c_Md_step l dC dI cA (g_plain (tf_Md_plainRow mbt mrw pl).toNatClampNeg) tk) (cw_S htg wd_962 qMd_step iMd_step kMd_step pMd_step rfl rfl ⟨Nat.le_of_ble_eq_true rfl, Nat.le_of_ble_eq_true rfl⟩) hN (hP.sub [] rfl) hK rfl hl.1 rfl (Nat.le_of_ble_eq_true rfl) dMd_learnTagged_44 ⟨Nat.le_of_ble_eq_true rfl, Nat.le_of_ble_eq_true rfl⟩ ?_
    obtain ⟨g_10, hfn⟩ := og hfn
    refine va_iast hx hb hK hP hD hS 1 0 rfl rfl g_10 dMd_learnTagged_47 (fun H locs hP hD hS => ?_)
    have hP : va_P (dC, dI) vwCl [(o0, .inr (11, [.int mt, .int mkd, .int mbt, .int mrw, .int mhs, .int mco, .int (bI mey), .int mu1, .int mu2, .int mu3, .int mu4, .ref r_lastBit, .ref r_plain, .ref r_mixed, .ref r_chooser, .ref r_own, .ref r_ownCounter, .ref r_tag, .ref r_sum, .ref r_use, .ref r_weight, .ref r_loopTag, .ref r_length, .ref r_count, .ref r_trust, .int mwt, .ref r_waitPlace, .ref r_waitHistory, .ref r_waitSaid, .int mmk, .ref r_mark])), (r_plain, .inl (cA.1, 1024, .inl (upd g_plain (tf_Md_plainRow mbt mrw pl).toNatClampNeg (tf_Md_step (g_plain (tf_Md_plainRow mbt mrw pl).toNatClampNeg) tk)))), (r_tag, .inl (cA.1, 3072, .inl g_tag)), (r_sum, .inl (cA.1, 3072, .inl g_sum)), (r_use, .inl (cA.1, 3072, .inl g_use))] H := hP
    have hD : va_D A [(o0, .inr (11, [.int mt, .int mkd, .int mbt, .int mrw, .int mhs, .int mco, .int (bI mey), .int mu1, .int mu2, .int mu3, .int mu4, .ref r_lastBit, .ref r_plain, .ref r_mixed, .ref r_chooser, .ref r_own, .ref r_ownCounter, .ref r_tag, .ref r_sum, .ref r_use, .ref r_weight, .ref r_loopTag, .ref r_length, .ref r_count, .ref r_trust, .int mwt, .ref r_waitPlace, .ref r_waitHistory, .ref r_waitSaid, .int mmk, .ref r_mark])), (r_plain, .inl (cA.1, 1024, .inl (upd g_plain (tf_Md_plainRow mbt mrw pl).toNatClampNeg (tf_Md_step (g_plain (tf_Md_plainRow mbt mrw pl).toNatClampNeg) tk)))), (r_tag, .inl (cA.1, 3072, .inl g_tag)), (r_sum, .inl (cA.1, 3072, .inl g_sum)), (r_use, .inl (cA.1, 3072, .inl g_use))] := hD
    refine lv_goto (tgt := 162) hx hb dMd_learnTagged_48 (by decide) ?_
    exact blk162 _ _ _ _ z_1 z_2 (upd g_plain (tf_Md_plainRow mbt mrw pl).toNatClampNeg (tf_Md_step (g_plain (tf_Md_plainRow mbt mrw pl).toNatClampNeg) tk)) g_sum g_use _ _ ls hfn (hP.sub [0, 1, 2, 3, 4] rfl) (hD.sub [0, 1, 2, 3, 4] (by decide) rfl) hS (lv_sub hl [2, 3, 4, 5, 1, 0] rfl)
def of_Md_learnSums_b57 : Nat → Int32 → Int32 → Int32 → Int32 → Bool → Int32 → (Nat → Int32) → Option ((Nat → Int32))
  | 0, _, _, _, _, _, _, _ => none
  | n + 1, mbt, mrw, pl, hs, tk, v6_b57, w_r_weight_a_b57 => (if 8 ≤ v6_b57 then some (w_r_weight_a_b57) else (if ((us hs v6_b57) &&& 1) = 1 then (if (1 : Int32) = (bI tk) then ((of_Md_turn w_r_weight_a_b57 (((9 * (tf_Md_plainRow mbt mrw pl)) + v6_b57) + 1) true).bind fun z_14 => of_Md_learnSums_b57 n mbt mrw pl hs tk (v6_b57 + 1) z_14) else ((of_Md_turn w_r_weight_a_b57 (((9 * (tf_Md_plainRow mbt mrw pl)) + v6_b57) + 1) false).bind fun z_13 => of_Md_learnSums_b57 n mbt mrw pl hs tk (v6_b57 + 1) z_13)) else (if (0 : Int32) = (bI tk) then ((of_Md_turn w_r_weight_a_b57 (((9 * (tf_Md_plainRow mbt mrw pl)) + v6_b57) + 1) true).bind fun z_11 => of_Md_learnSums_b57 n mbt mrw pl hs tk (v6_b57 + 1) z_11) else ((of_Md_turn w_r_weight_a_b57 (((9 * (tf_Md_plainRow mbt mrw pl)) + v6_b57) + 1) false).bind fun z_10 => of_Md_learnSums_b57 n mbt mrw pl hs tk (v6_b57 + 1) z_10))))
def of_Md_learnSums_b37 (mbt : Int32) (mrw : Int32) (g_weight : Nat → Int32) (pl : Int32) (hs : Int32) (tk : Bool) : Option ((Nat → Int32)) := ((of_Md_turn g_weight (9 * (tf_Md_plainRow mbt mrw pl)) tk).bind fun z_6 => of_Md_learnSums_b57 4096 mbt mrw pl hs tk 0 z_6)
def of_Md_learnSums_b36 (g_weight : Nat → Int32) : Option ((Nat → Int32)) := some (g_weight)
def of_Md_learnSums_b18 (mbt : Int32) (mrw : Int32) (g_weight : Nat → Int32) (pl : Int32) (hs : Int32) (tk : Bool) (v4_b18 : Int32) (s0_b18 : Bool) : Option ((Nat → Int32)) := (if (bI s0_b18) = (bI tk) then (if 29 < v4_b18 then of_Md_learnSums_b36 g_weight else (if (-29) ≤ v4_b18 then of_Md_learnSums_b37 mbt mrw g_weight pl hs tk else of_Md_learnSums_b36 g_weight)) else of_Md_learnSums_b37 mbt mrw g_weight pl hs tk)
def of_Md_learnSums (mbt : Int32) (mrw : Int32) (g_weight : Nat → Int32) (pl : Int32) (hs : Int32) (tk : Bool) : Option ((Nat → Int32)) := ((of_Md_total mbt mrw g_weight pl hs).bind fun z_1 => (if z_1 < 0 then of_Md_learnSums_b18 mbt mrw g_weight pl hs tk z_1 false else of_Md_learnSums_b18 mbt mrw g_weight pl hs tk z_1 true))
set_option maxHeartbeats 4000000 in
set_option maxRecDepth 100000 in
theorem c_Md_learnSums (l : Launch) (dC : Nat → ClassId) (dI : Nat → Nat → Nat) (cA : ClassId × ClassId × ClassId) (zz : Nat) (o0 : Nat) (r_weight : Nat) (r_lastBit : Nat) (r_plain : Nat) (r_mixed : Nat) (r_chooser : Nat) (r_own : Nat) (r_ownCounter : Nat) (r_tag : Nat) (r_sum : Nat) (r_use : Nat) (r_loopTag : Nat) (r_length : Nat) (r_count : Nat) (r_trust : Nat) (r_waitPlace : Nat) (r_waitHistory : Nat) (r_waitSaid : Nat) (r_mark : Nat) (mt : Int32) (mkd : Int32) (mbt : Int32) (mrw : Int32) (mhs : Int32) (mco : Int32) (mey : Bool) (mu1 : Int32) (mu2 : Int32) (mu3 : Int32) (mu4 : Int32) (mwt : Int32) (mmk : Int32) (g_weight : Nat → Int32) (pl : Int32) (hs : Int32) (tk : Bool) (rs0 : (Nat → Int32)) (hfn : (of_Md_learnSums mbt mrw g_weight pl hs tk) = some (rs0)) : Met l yMd_learnSums wMd_learnSums ({ frames := 3, cells := 0, slots := 0, locals := 67 }) (va_Pc [.ref o0, .int pl, .int hs, .int (bI tk)] (Wr (dC, dI) cA zz [(o0, .inr (11, [.int mt, .int mkd, .int mbt, .int mrw, .int mhs, .int mco, .int (bI mey), .int mu1, .int mu2, .int mu3, .int mu4, .ref r_lastBit, .ref r_plain, .ref r_mixed, .ref r_chooser, .ref r_own, .ref r_ownCounter, .ref r_tag, .ref r_sum, .ref r_use, .ref r_weight, .ref r_loopTag, .ref r_length, .ref r_count, .ref r_trust, .int mwt, .ref r_waitPlace, .ref r_waitHistory, .ref r_waitSaid, .int mmk, .ref r_mark])), (r_weight, .inl (cA.1, 9216, .inl g_weight))])) (va_Qv (fun w9 => w9 = [(o0, .inr (11, [.int mt, .int mkd, .int mbt, .int mrw, .int mhs, .int mco, .int (bI mey), .int mu1, .int mu2, .int mu3, .int mu4, .ref r_lastBit, .ref r_plain, .ref r_mixed, .ref r_chooser, .ref r_own, .ref r_ownCounter, .ref r_tag, .ref r_sum, .ref r_use, .ref r_weight, .ref r_loopTag, .ref r_length, .ref r_count, .ref r_trust, .int mwt, .ref r_waitPlace, .ref r_waitHistory, .ref r_waitSaid, .int mmk, .ref r_mark])), (r_weight, .inl (cA.1, 9216, .inl rs0))]) (At (dC, dI) cA (va_A [(o0, .inr (11, [.int mt, .int mkd, .int mbt, .int mrw, .int mhs, .int mco, .int (bI mey), .int mu1, .int mu2, .int mu3, .int mu4, .ref r_lastBit, .ref r_plain, .ref r_mixed, .ref r_chooser, .ref r_own, .ref r_ownCounter, .ref r_tag, .ref r_sum, .ref r_use, .ref r_weight, .ref r_loopTag, .ref r_length, .ref r_count, .ref r_trust, .int mwt, .ref r_waitPlace, .ref r_waitHistory, .ref r_waitSaid, .int mmk, .ref r_mark])), (r_weight, .inl (cA.1, 9216, .inl g_weight))] zz)) (va_A [(o0, .inr (11, [.int mt, .int mkd, .int mbt, .int mrw, .int mhs, .int mco, .int (bI mey), .int mu1, .int mu2, .int mu3, .int mu4, .ref r_lastBit, .ref r_plain, .ref r_mixed, .ref r_chooser, .ref r_own, .ref r_ownCounter, .ref r_tag, .ref r_sum, .ref r_use, .ref r_weight, .ref r_loopTag, .ref r_length, .ref r_count, .ref r_trust, .int mwt, .ref r_waitPlace, .ref r_waitHistory, .ref r_waitSaid, .int mmk, .ref r_mark])), (r_weight, .inl (cA.1, 9216, .inl g_weight))] zz)) 0 0 (va_A [(o0, .inr (11, [.int mt, .int mkd, .int mbt, .int mrw, .int mhs, .int mco, .int (bI mey), .int mu1, .int mu2, .int mu3, .int mu4, .ref r_lastBit, .ref r_plain, .ref r_mixed, .ref r_chooser, .ref r_own, .ref r_ownCounter, .ref r_tag, .ref r_sum, .ref r_use, .ref r_weight, .ref r_loopTag, .ref r_length, .ref r_count, .ref r_trust, .int mwt, .ref r_waitPlace, .ref r_waitHistory, .ref r_waitSaid, .int mmk, .ref r_mark])), (r_weight, .inl (cA.1, 9216, .inl g_weight))] zz) := by
  refine Met.ofW (cc := cMd_learnSums) (maxL := 7) (ret := none) (by decide) rfl ?_
  intro p e s m args below meth c s₁ B hml hv
  obtain ⟨rfl, hsz, hN, hP, hK, hD0⟩ := hv
  have hx := B.exec
  have hb := B.bytes
  have hr := B.returns
  have hts := atoms_spec (ws := wMd_learnSums) B.pre
  have htg : ∀ w ∈ GW, w.before _ s = true := fun w h => hts w (List.mem_cons_of_mem _ h)
  have hown : s.vm.findClass R_Md = some m.cls := findClass_of_methodNamed B.named
  have hlocks := B.notSynchronized
  subst hsz
  have hD := hD0.self (sz := s.heap.size)
  generalize hAe : va_A [(o0, .inr (11, [.int mt, .int mkd, .int mbt, .int mrw, .int mhs, .int mco, .int (bI mey), .int mu1, .int mu2, .int mu3, .int mu4, .ref r_lastBit, .ref r_plain, .ref r_mixed, .ref r_chooser, .ref r_own, .ref r_ownCounter, .ref r_tag, .ref r_sum, .ref r_use, .ref r_weight, .ref r_loopTag, .ref r_length, .ref r_count, .ref r_trust, .int mwt, .ref r_waitPlace, .ref r_waitHistory, .ref r_waitSaid, .int mmk, .ref r_mark])), (r_weight, .inl (cA.1, 9216, .inl g_weight))] s.heap.size = A at hD ⊢
  have hA : ∀ q : Nat, s.heap.size ≤ q → A q := fun q h => by rw [← hAe]; exact Or.inr h
  have hS : va_S A s.heap s.heap [] := va_S.rf
  have hP : va_P (dC, dI) vwCl [(o0, .inr (11, [.int mt, .int mkd, .int mbt, .int mrw, .int mhs, .int mco, .int (bI mey), .int mu1, .int mu2, .int mu3, .int mu4, .ref r_lastBit, .ref r_plain, .ref r_mixed, .ref r_chooser, .ref r_own, .ref r_ownCounter, .ref r_tag, .ref r_sum, .ref r_use, .ref r_weight, .ref r_loopTag, .ref r_length, .ref r_count, .ref r_trust, .int mwt, .ref r_waitPlace, .ref r_waitHistory, .ref r_waitSaid, .int mmk, .ref r_mark])), (r_weight, .inl (cA.1, 9216, .inl g_weight))] s.heap := hP
  have blk57 : ∀ n : Nat, ∀ (rs0 : (Nat → Int32)) (v6_b57 : Int32) (w_r_weight_a_b57 : Nat → Int32) (H : Heap) (locs : List Loc) (ls : Array Slot), of_Md_learnSums_b57 n mbt mrw pl hs tk v6_b57 w_r_weight_a_b57 = some (rs0) → va_P (dC, dI) vwCl [(o0, .inr (11, [.int mt, .int mkd, .int mbt, .int mrw, .int mhs, .int mco, .int (bI mey), .int mu1, .int mu2, .int mu3, .int mu4, .ref r_lastBit, .ref r_plain, .ref r_mixed, .ref r_chooser, .ref r_own, .ref r_ownCounter, .ref r_tag, .ref r_sum, .ref r_use, .ref r_weight, .ref r_loopTag, .ref r_length, .ref r_count, .ref r_trust, .int mwt, .ref r_waitPlace, .ref r_waitHistory, .ref r_waitSaid, .int mmk, .ref r_mark])), (r_weight, .inl (cA.1, 9216, .inl w_r_weight_a_b57))] H → va_D A [(o0, .inr (11, [.int mt, .int mkd, .int mbt, .int mrw, .int mhs, .int mco, .int (bI mey), .int mu1, .int mu2, .int mu3, .int mu4, .ref r_lastBit, .ref r_plain, .ref r_mixed, .ref r_chooser, .ref r_own, .ref r_ownCounter, .ref r_tag, .ref r_sum, .ref r_use, .ref r_weight, .ref r_loopTag, .ref r_length, .ref r_count, .ref r_trust, .int mwt, .ref r_waitPlace, .ref r_waitHistory, .ref r_waitSaid, .int mmk, .ref r_mark])), (r_weight, .inl (cA.1, 9216, .inl w_r_weight_a_b57))] → va_S A s.heap H locs → lv_has ls 7 [(0, .ref o0), (2, .int hs), (3, .int (bI tk)), (5, .int (9 * (tf_Md_plainRow mbt mrw pl))), (6, .int v6_b57)] → W p l e (headSpec wMd_learnSums ({ frames := 3, cells := 0, slots := 0, locals := 67 })).room s m ([.ref o0, .int pl, .int hs, .int (bI tk)] : List Value).toArray below meth c H locs 0 0 (MQ below (va_Qv (fun w9 => w9 = [(o0, .inr (11, [.int mt, .int mkd, .int mbt, .int mrw, .int mhs, .int mco, .int (bI mey), .int mu1, .int mu2, .int mu3, .int mu4, .ref r_lastBit, .ref r_plain, .ref r_mixed, .ref r_chooser, .ref r_own, .ref r_ownCounter, .ref r_tag, .ref r_sum, .ref r_use, .ref r_weight, .ref r_loopTag, .ref r_length, .ref r_count, .ref r_trust, .int mwt, .ref r_waitPlace, .ref r_waitHistory, .ref r_waitSaid, .int mmk, .ref r_mark])), (r_weight, .inl (cA.1, 9216, .inl rs0))]) (At (dC, dI) cA A) A) ([.ref o0, .int pl, .int hs, .int (bI tk)] : List Value).toArray s 0 0 A) (F0 m 57 ls []) := by
    intro n
    induction n with
    | zero =>
      intro rs0 v6_b57 w_r_weight_a_b57 H locs ls hfn hP hD hS hl
      exact absurd hfn (by intro h; cases h)
    | succ n ih =>
      intro rs0 v6_b57 w_r_weight_a_b57 H locs ls hfn hP hD hS hl
      unfold of_Md_learnSums_b57 at hfn
      refine lv_iload hx hb dMd_learnSums_57 (lv_at hl 4 rfl) ?_
      refine lv_bipush (v := 8) hx hb dMd_learnSums_59 (by decide) ?_
      refine lv_icmp_ge (tgt := 105) hx hb dMd_learnSums_61 (by decide) (fun c_7 => ?_) (fun c_7 => ?_)
      · rw [if_pos c_7] at hfn
        replace hfn := Option.some.inj hfn
        subst hfn
        exact W.vret hx hb hr (fun t ht hW => ⟨⟨_, rfl, rfl, ⟨by rw [ht]; exact hP.sub [0, 1] rfl, va_K.moved hW.alike hK, hD.sub [0, 1] (by decide) rfl⟩⟩, hS.F ht⟩) hS.2.2 dMd_learnSums_105
      · rw [if_neg c_7] at hfn
        refine lv_aload_n hx hb dMd_learnSums_64 rfl (lv_at hl 0 rfl) ?_
        refine lv_iload hx hb dMd_learnSums_65 (lv_at hl 3 rfl) ?_
        refine lv_iload hx hb dMd_learnSums_67 (lv_at hl 4 rfl) ?_
        refine lv_iadd hx hb dMd_learnSums_69 ?_
        refine lv_iconst (v := 1) hx hb dMd_learnSums_70 (by decide) ?_
        refine lv_iadd hx hb dMd_learnSums_71 ?_
        refine lv_iload_n hx hb dMd_learnSums_72 rfl (lv_at hl 1 rfl) ?_
        refine lv_iload hx hb dMd_learnSums_73 (lv_at hl 4 rfl) ?_
        refine lv_iushr (v := (us hs v6_b57)) hx hb dMd_learnSums_75 rfl ?_
        refine lv_iconst (v := 1) hx hb dMd_learnSums_76 (by decide) ?_
        refine lv_iand hx hb dMd_learnSums_77 ?_
        refine lv_iconst (v := 1) hx hb dMd_learnSums_78 (by decide) ?_
        refine lv_icmp_ne (tgt := 86) hx hb dMd_learnSums_79 (by decide) (fun c_8 => ?_) (fun c_8 => ?_)
        · rw [if_neg c_8] at hfn
          refine lv_iconst (v := 0) hx hb dMd_learnSums_86 (by decide) ?_
          refine lv_iload_n hx hb dMd_learnSums_87 rfl (lv_at hl 2 rfl) ?_
          refine lv_icmp_ne (tgt := 95) hx hb dMd_learnSums_88 (by decide) (fun c_9 => ?_) (fun c_9 => ?_)
          · rw [if_neg c_9] at hfn
            refine lv_iconst (v := 0) hx hb dMd_learnSums_95 (by decide) ?_
            obtain ⟨z_10, hz_10, hfn⟩ := ob hfn
            refine wr_Vv (wr := []) (As := [.int (((9 * (tf_Md_plainRow mbt mrw pl)) + v6_b57) + 1), .int 0]) (rest := []) ⟨hx, hb, hml, hown, htg⟩ (c_Md_turn l dC dI cA _ o0 r_weight r_lastBit r_plain r_mixed r_chooser r_own r_ownCounter r_tag r_sum r_use r_loopTag r_length r_count r_trust r_waitPlace r_waitHistory r_waitSaid r_mark mt mkd mbt mrw mhs mco mey mu1 mu2 mu3 mu4 mwt mmk w_r_weight_a_b57 (((9 * (tf_Md_plainRow mbt mrw pl)) + v6_b57) + 1) false z_10 hz_10) (cw_V htg wd_977 ws_33 qMd_turn iMd_turn kMd_turn pMd_turn rfl rfl ⟨Nat.le_of_ble_eq_true rfl, Nat.le_of_ble_eq_true rfl⟩) (va_recv hK hP (ci := 11) (q0 := 0) rfl rfl) hN hP hD hS hA hK [0, 1] [] rfl rfl (by decide) (by decide) (by decide) rfl hl.1 rfl (Nat.le_of_ble_eq_true rfl) dMd_learnSums_96 ⟨Nat.le_of_ble_eq_true rfl, Nat.le_of_ble_eq_true rfl⟩ (fun H locs hP hD hS => ?_)
            have hP : va_P (dC, dI) vwCl [(o0, .inr (11, [.int mt, .int mkd, .int mbt, .int mrw, .int mhs, .int mco, .int (bI mey), .int mu1, .int mu2, .int mu3, .int mu4, .ref r_lastBit, .ref r_plain, .ref r_mixed, .ref r_chooser, .ref r_own, .ref r_ownCounter, .ref r_tag, .ref r_sum, .ref r_use, .ref r_weight, .ref r_loopTag, .ref r_length, .ref r_count, .ref r_trust, .int mwt, .ref r_waitPlace, .ref r_waitHistory, .ref r_waitSaid, .int mmk, .ref r_mark])), (r_weight, .inl (cA.1, 9216, .inl z_10))] H := hP
            have hD : va_D A [(o0, .inr (11, [.int mt, .int mkd, .int mbt, .int mrw, .int mhs, .int mco, .int (bI mey), .int mu1, .int mu2, .int mu3, .int mu4, .ref r_lastBit, .ref r_plain, .ref r_mixed, .ref r_chooser, .ref r_own, .ref r_ownCounter, .ref r_tag, .ref r_sum, .ref r_use, .ref r_weight, .ref r_loopTag, .ref r_length, .ref r_count, .ref r_trust, .int mwt, .ref r_waitPlace, .ref r_waitHistory, .ref r_waitSaid, .int mmk, .ref r_mark])), (r_weight, .inl (cA.1, 9216, .inl z_10))] := hD
            refine lv_iinc (v := (v6_b57 + 1)) (lv' := [(6, .int (v6_b57 + 1)), (0, .ref o0), (2, .int hs), (3, .int (bI tk)), (5, .int (9 * (tf_Md_plainRow mbt mrw pl)))]) hx hb dMd_learnSums_99 hl (k := 4) rfl rfl (by decide) rfl (fun ls hl => ?_)
            refine lv_goto (tgt := 57) hx hb dMd_learnSums_102 (by decide) ?_
            exact ih _ (v6_b57 + 1) z_10 _ _ ls hfn (hP.sub [0, 1] rfl) (hD.sub [0, 1] (by decide) rfl) hS (lv_sub hl [1, 2, 3, 4, 0] rfl)
          · rw [if_pos c_9] at hfn
            refine lv_iconst (v := 1) hx hb dMd_learnSums_91 (by decide) ?_
            refine lv_goto (tgt := 96) hx hb dMd_learnSums_92 (by decide) ?_
            obtain ⟨z_11, hz_11, hfn⟩ := ob hfn
            refine wr_Vv (wr := []) (As := [.int (((9 * (tf_Md_plainRow mbt mrw pl)) + v6_b57) + 1), .int 1]) (rest := []) ⟨hx, hb, hml, hown, htg⟩ (c_Md_turn l dC dI cA _ o0 r_weight r_lastBit r_plain r_mixed r_chooser r_own r_ownCounter r_tag r_sum r_use r_loopTag r_length r_count r_trust r_waitPlace r_waitHistory r_waitSaid r_mark mt mkd mbt mrw mhs mco mey mu1 mu2 mu3 mu4 mwt mmk w_r_weight_a_b57 (((9 * (tf_Md_plainRow mbt mrw pl)) + v6_b57) + 1) true z_11 hz_11) (cw_V htg wd_977 ws_33 qMd_turn iMd_turn kMd_turn pMd_turn rfl rfl ⟨Nat.le_of_ble_eq_true rfl, Nat.le_of_ble_eq_true rfl⟩) (va_recv hK hP (ci := 11) (q0 := 0) rfl rfl) hN hP hD hS hA hK [0, 1] [] rfl rfl (by decide) (by decide) (by decide) rfl hl.1 rfl (Nat.le_of_ble_eq_true rfl) dMd_learnSums_96 ⟨Nat.le_of_ble_eq_true rfl, Nat.le_of_ble_eq_true rfl⟩ (fun H locs hP hD hS => ?_)
            have hP : va_P (dC, dI) vwCl [(o0, .inr (11, [.int mt, .int mkd, .int mbt, .int mrw, .int mhs, .int mco, .int (bI mey), .int mu1, .int mu2, .int mu3, .int mu4, .ref r_lastBit, .ref r_plain, .ref r_mixed, .ref r_chooser, .ref r_own, .ref r_ownCounter, .ref r_tag, .ref r_sum, .ref r_use, .ref r_weight, .ref r_loopTag, .ref r_length, .ref r_count, .ref r_trust, .int mwt, .ref r_waitPlace, .ref r_waitHistory, .ref r_waitSaid, .int mmk, .ref r_mark])), (r_weight, .inl (cA.1, 9216, .inl z_11))] H := hP
            have hD : va_D A [(o0, .inr (11, [.int mt, .int mkd, .int mbt, .int mrw, .int mhs, .int mco, .int (bI mey), .int mu1, .int mu2, .int mu3, .int mu4, .ref r_lastBit, .ref r_plain, .ref r_mixed, .ref r_chooser, .ref r_own, .ref r_ownCounter, .ref r_tag, .ref r_sum, .ref r_use, .ref r_weight, .ref r_loopTag, .ref r_length, .ref r_count, .ref r_trust, .int mwt, .ref r_waitPlace, .ref r_waitHistory, .ref r_waitSaid, .int mmk, .ref r_mark])), (r_weight, .inl (cA.1, 9216, .inl z_11))] := hD
            refine lv_iinc (v := (v6_b57 + 1)) (lv' := [(6, .int (v6_b57 + 1)), (0, .ref o0), (2, .int hs), (3, .int (bI tk)), (5, .int (9 * (tf_Md_plainRow mbt mrw pl)))]) hx hb dMd_learnSums_99 hl (k := 4) rfl rfl (by decide) rfl (fun ls hl => ?_)
            refine lv_goto (tgt := 57) hx hb dMd_learnSums_102 (by decide) ?_
            exact ih _ (v6_b57 + 1) z_11 _ _ ls hfn (hP.sub [0, 1] rfl) (hD.sub [0, 1] (by decide) rfl) hS (lv_sub hl [1, 2, 3, 4, 0] rfl)
        · rw [if_pos c_8] at hfn
          refine lv_iconst (v := 1) hx hb dMd_learnSums_82 (by decide) ?_
          refine lv_goto (tgt := 87) hx hb dMd_learnSums_83 (by decide) ?_
          refine lv_iload_n hx hb dMd_learnSums_87 rfl (lv_at hl 2 rfl) ?_
          refine lv_icmp_ne (tgt := 95) hx hb dMd_learnSums_88 (by decide) (fun c_12 => ?_) (fun c_12 => ?_)
          · rw [if_neg c_12] at hfn
            refine lv_iconst (v := 0) hx hb dMd_learnSums_95 (by decide) ?_
            obtain ⟨z_13, hz_13, hfn⟩ := ob hfn
            refine wr_Vv (wr := []) (As := [.int (((9 * (tf_Md_plainRow mbt mrw pl)) + v6_b57) + 1), .int 0]) (rest := []) ⟨hx, hb, hml, hown, htg⟩ (c_Md_turn l dC dI cA _ o0 r_weight r_lastBit r_plain r_mixed r_chooser r_own r_ownCounter r_tag r_sum r_use r_loopTag r_length r_count r_trust r_waitPlace r_waitHistory r_waitSaid r_mark mt mkd mbt mrw mhs mco mey mu1 mu2 mu3 mu4 mwt mmk w_r_weight_a_b57 (((9 * (tf_Md_plainRow mbt mrw pl)) + v6_b57) + 1) false z_13 hz_13) (cw_V htg wd_977 ws_33 qMd_turn iMd_turn kMd_turn pMd_turn rfl rfl ⟨Nat.le_of_ble_eq_true rfl, Nat.le_of_ble_eq_true rfl⟩) (va_recv hK hP (ci := 11) (q0 := 0) rfl rfl) hN hP hD hS hA hK [0, 1] [] rfl rfl (by decide) (by decide) (by decide) rfl hl.1 rfl (Nat.le_of_ble_eq_true rfl) dMd_learnSums_96 ⟨Nat.le_of_ble_eq_true rfl, Nat.le_of_ble_eq_true rfl⟩ (fun H locs hP hD hS => ?_)
            have hP : va_P (dC, dI) vwCl [(o0, .inr (11, [.int mt, .int mkd, .int mbt, .int mrw, .int mhs, .int mco, .int (bI mey), .int mu1, .int mu2, .int mu3, .int mu4, .ref r_lastBit, .ref r_plain, .ref r_mixed, .ref r_chooser, .ref r_own, .ref r_ownCounter, .ref r_tag, .ref r_sum, .ref r_use, .ref r_weight, .ref r_loopTag, .ref r_length, .ref r_count, .ref r_trust, .int mwt, .ref r_waitPlace, .ref r_waitHistory, .ref r_waitSaid, .int mmk, .ref r_mark])), (r_weight, .inl (cA.1, 9216, .inl z_13))] H := hP
            have hD : va_D A [(o0, .inr (11, [.int mt, .int mkd, .int mbt, .int mrw, .int mhs, .int mco, .int (bI mey), .int mu1, .int mu2, .int mu3, .int mu4, .ref r_lastBit, .ref r_plain, .ref r_mixed, .ref r_chooser, .ref r_own, .ref r_ownCounter, .ref r_tag, .ref r_sum, .ref r_use, .ref r_weight, .ref r_loopTag, .ref r_length, .ref r_count, .ref r_trust, .int mwt, .ref r_waitPlace, .ref r_waitHistory, .ref r_waitSaid, .int mmk, .ref r_mark])), (r_weight, .inl (cA.1, 9216, .inl z_13))] := hD
            refine lv_iinc (v := (v6_b57 + 1)) (lv' := [(6, .int (v6_b57 + 1)), (0, .ref o0), (2, .int hs), (3, .int (bI tk)), (5, .int (9 * (tf_Md_plainRow mbt mrw pl)))]) hx hb dMd_learnSums_99 hl (k := 4) rfl rfl (by decide) rfl (fun ls hl => ?_)
            refine lv_goto (tgt := 57) hx hb dMd_learnSums_102 (by decide) ?_
            exact ih _ (v6_b57 + 1) z_13 _ _ ls hfn (hP.sub [0, 1] rfl) (hD.sub [0, 1] (by decide) rfl) hS (lv_sub hl [1, 2, 3, 4, 0] rfl)
          · rw [if_pos c_12] at hfn
            refine lv_iconst (v := 1) hx hb dMd_learnSums_91 (by decide) ?_
            refine lv_goto (tgt := 96) hx hb dMd_learnSums_92 (by decide) ?_
            obtain ⟨z_14, hz_14, hfn⟩ := ob hfn
            refine wr_Vv (wr := []) (As := [.int (((9 * (tf_Md_plainRow mbt mrw pl)) + v6_b57) + 1), .int 1]) (rest := []) ⟨hx, hb, hml, hown, htg⟩ (c_Md_turn l dC dI cA _ o0 r_weight r_lastBit r_plain r_mixed r_chooser r_own r_ownCounter r_tag r_sum r_use r_loopTag r_length r_count r_trust r_waitPlace r_waitHistory r_waitSaid r_mark mt mkd mbt mrw mhs mco mey mu1 mu2 mu3 mu4 mwt mmk w_r_weight_a_b57 (((9 * (tf_Md_plainRow mbt mrw pl)) + v6_b57) + 1) true z_14 hz_14) (cw_V htg wd_977 ws_33 qMd_turn iMd_turn kMd_turn pMd_turn rfl rfl ⟨Nat.le_of_ble_eq_true rfl, Nat.le_of_ble_eq_true rfl⟩) (va_recv hK hP (ci := 11) (q0 := 0) rfl rfl) hN hP hD hS hA hK [0, 1] [] rfl rfl (by decide) (by decide) (by decide) rfl hl.1 rfl (Nat.le_of_ble_eq_true rfl) dMd_learnSums_96 ⟨Nat.le_of_ble_eq_true rfl, Nat.le_of_ble_eq_true rfl⟩ (fun H locs hP hD hS => ?_)
            have hP : va_P (dC, dI) vwCl [(o0, .inr (11, [.int mt, .int mkd, .int mbt, .int mrw, .int mhs, .int mco, .int (bI mey), .int mu1, .int mu2, .int mu3, .int mu4, .ref r_lastBit, .ref r_plain, .ref r_mixed, .ref r_chooser, .ref r_own, .ref r_ownCounter, .ref r_tag, .ref r_sum, .ref r_use, .ref r_weight, .ref r_loopTag, .ref r_length, .ref r_count, .ref r_trust, .int mwt, .ref r_waitPlace, .ref r_waitHistory, .ref r_waitSaid, .int mmk, .ref r_mark])), (r_weight, .inl (cA.1, 9216, .inl z_14))] H := hP
            have hD : va_D A [(o0, .inr (11, [.int mt, .int mkd, .int mbt, .int mrw, .int mhs, .int mco, .int (bI mey), .int mu1, .int mu2, .int mu3, .int mu4, .ref r_lastBit, .ref r_plain, .ref r_mixed, .ref r_chooser, .ref r_own, .ref r_ownCounter, .ref r_tag, .ref r_sum, .ref r_use, .ref r_weight, .ref r_loopTag, .ref r_length, .ref r_count, .ref r_trust, .int mwt, .ref r_waitPlace, .ref r_waitHistory, .ref r_waitSaid, .int mmk, .ref r_mark])), (r_weight, .inl (cA.1, 9216, .inl z_14))] := hD
            refine lv_iinc (v := (v6_b57 + 1)) (lv' := [(6, .int (v6_b57 + 1)), (0, .ref o0), (2, .int hs), (3, .int (bI tk)), (5, .int (9 * (tf_Md_plainRow mbt mrw pl)))]) hx hb dMd_learnSums_99 hl (k := 4) rfl rfl (by decide) rfl (fun ls hl => ?_)
            refine lv_goto (tgt := 57) hx hb dMd_learnSums_102 (by decide) ?_
            exact ih _ (v6_b57 + 1) z_14 _ _ ls hfn (hP.sub [0, 1] rfl) (hD.sub [0, 1] (by decide) rfl) hS (lv_sub hl [1, 2, 3, 4, 0] rfl)
  have blk37 : ∀ (rs0 : (Nat → Int32)) (H : Heap) (locs : List Loc) (ls : Array Slot), of_Md_learnSums_b37 mbt mrw g_weight pl hs tk = some (rs0) → va_P (dC, dI) vwCl [(o0, .inr (11, [.int mt, .int mkd, .int mbt, .int mrw, .int mhs, .int mco, .int (bI mey), .int mu1, .int mu2, .int mu3, .int mu4, .ref r_lastBit, .ref r_plain, .ref r_mixed, .ref r_chooser, .ref r_own, .ref r_ownCounter, .ref r_tag, .ref r_sum, .ref r_use, .ref r_weight, .ref r_loopTag, .ref r_length, .ref r_count, .ref r_trust, .int mwt, .ref r_waitPlace, .ref r_waitHistory, .ref r_waitSaid, .int mmk, .ref r_mark])), (r_weight, .inl (cA.1, 9216, .inl g_weight))] H → va_D A [(o0, .inr (11, [.int mt, .int mkd, .int mbt, .int mrw, .int mhs, .int mco, .int (bI mey), .int mu1, .int mu2, .int mu3, .int mu4, .ref r_lastBit, .ref r_plain, .ref r_mixed, .ref r_chooser, .ref r_own, .ref r_ownCounter, .ref r_tag, .ref r_sum, .ref r_use, .ref r_weight, .ref r_loopTag, .ref r_length, .ref r_count, .ref r_trust, .int mwt, .ref r_waitPlace, .ref r_waitHistory, .ref r_waitSaid, .int mmk, .ref r_mark])), (r_weight, .inl (cA.1, 9216, .inl g_weight))] → va_S A s.heap H locs → lv_has ls 7 [(0, .ref o0), (1, .int pl), (2, .int hs), (3, .int (bI tk))] → W p l e (headSpec wMd_learnSums ({ frames := 3, cells := 0, slots := 0, locals := 67 })).room s m ([.ref o0, .int pl, .int hs, .int (bI tk)] : List Value).toArray below meth c H locs 0 0 (MQ below (va_Qv (fun w9 => w9 = [(o0, .inr (11, [.int mt, .int mkd, .int mbt, .int mrw, .int mhs, .int mco, .int (bI mey), .int mu1, .int mu2, .int mu3, .int mu4, .ref r_lastBit, .ref r_plain, .ref r_mixed, .ref r_chooser, .ref r_own, .ref r_ownCounter, .ref r_tag, .ref r_sum, .ref r_use, .ref r_weight, .ref r_loopTag, .ref r_length, .ref r_count, .ref r_trust, .int mwt, .ref r_waitPlace, .ref r_waitHistory, .ref r_waitSaid, .int mmk, .ref r_mark])), (r_weight, .inl (cA.1, 9216, .inl rs0))]) (At (dC, dI) cA A) A) ([.ref o0, .int pl, .int hs, .int (bI tk)] : List Value).toArray s 0 0 A) (F0 m 37 ls []) := by
    intro rs0 H locs ls hfn hP hD hS hl
    unfold of_Md_learnSums_b37 at hfn
    refine lv_bipush (v := 9) hx hb dMd_learnSums_37 (by decide) ?_
    refine lv_aload_n hx hb dMd_learnSums_39 rfl (lv_at hl 0 rfl) ?_
    refine lv_iload_n hx hb dMd_learnSums_40 rfl (lv_at hl 1 rfl) ?_
    refine rd_V (As := [.int pl]) (rest := [.int 9]) ⟨hx, hb, hml, hown, htg⟩ (c_Md_plainRow l dC dI cA o0 r_lastBit r_plain r_mixed r_chooser r_own r_ownCounter r_tag r_sum r_use r_weight r_loopTag r_length r_count r_trust r_waitPlace r_waitHistory r_waitSaid r_mark mt mkd mbt mrw mhs mco mey mu1 mu2 mu3 mu4 mwt mmk pl) (cw_V htg wd_902 ws_19 qMd_plainRow iMd_plainRow kMd_plainRow pMd_plainRow rfl rfl ⟨Nat.le_of_ble_eq_true rfl, Nat.le_of_ble_eq_true rfl⟩) (va_recv hK hP (ci := 11) (q0 := 0) rfl rfl) hN (hP.sub [0] rfl) hK rfl hl.1 rfl (Nat.le_of_ble_eq_true rfl) dMd_learnSums_41 ⟨Nat.le_of_ble_eq_true rfl, Nat.le_of_ble_eq_true rfl⟩ ?_
    refine lv_imul hx hb dMd_learnSums_44 ?_
    refine lv_istore (lv' := [(5, .int (9 * (tf_Md_plainRow mbt mrw pl))), (0, .ref o0), (1, .int pl), (2, .int hs), (3, .int (bI tk))]) hx hb dMd_learnSums_45 hl (by decide) rfl (fun ls hl => ?_)
    refine lv_aload_n hx hb dMd_learnSums_47 rfl (lv_at hl 1 rfl) ?_
    refine lv_iload hx hb dMd_learnSums_48 (lv_at hl 0 rfl) ?_
    refine lv_iload_n hx hb dMd_learnSums_50 rfl (lv_at hl 4 rfl) ?_
    obtain ⟨z_6, hz_6, hfn⟩ := ob hfn
    refine wr_Vv (wr := []) (As := [.int (9 * (tf_Md_plainRow mbt mrw pl)), .int (bI tk)]) (rest := []) ⟨hx, hb, hml, hown, htg⟩ (c_Md_turn l dC dI cA _ o0 r_weight r_lastBit r_plain r_mixed r_chooser r_own r_ownCounter r_tag r_sum r_use r_loopTag r_length r_count r_trust r_waitPlace r_waitHistory r_waitSaid r_mark mt mkd mbt mrw mhs mco mey mu1 mu2 mu3 mu4 mwt mmk g_weight (9 * (tf_Md_plainRow mbt mrw pl)) tk z_6 hz_6) (cw_V htg wd_977 ws_33 qMd_turn iMd_turn kMd_turn pMd_turn rfl rfl ⟨Nat.le_of_ble_eq_true rfl, Nat.le_of_ble_eq_true rfl⟩) (va_recv hK hP (ci := 11) (q0 := 0) rfl rfl) hN hP hD hS hA hK [0, 1] [] rfl rfl (by decide) (by decide) (by decide) rfl hl.1 rfl (Nat.le_of_ble_eq_true rfl) dMd_learnSums_51 ⟨Nat.le_of_ble_eq_true rfl, Nat.le_of_ble_eq_true rfl⟩ (fun H locs hP hD hS => ?_)
    have hP : va_P (dC, dI) vwCl [(o0, .inr (11, [.int mt, .int mkd, .int mbt, .int mrw, .int mhs, .int mco, .int (bI mey), .int mu1, .int mu2, .int mu3, .int mu4, .ref r_lastBit, .ref r_plain, .ref r_mixed, .ref r_chooser, .ref r_own, .ref r_ownCounter, .ref r_tag, .ref r_sum, .ref r_use, .ref r_weight, .ref r_loopTag, .ref r_length, .ref r_count, .ref r_trust, .int mwt, .ref r_waitPlace, .ref r_waitHistory, .ref r_waitSaid, .int mmk, .ref r_mark])), (r_weight, .inl (cA.1, 9216, .inl z_6))] H := hP
    have hD : va_D A [(o0, .inr (11, [.int mt, .int mkd, .int mbt, .int mrw, .int mhs, .int mco, .int (bI mey), .int mu1, .int mu2, .int mu3, .int mu4, .ref r_lastBit, .ref r_plain, .ref r_mixed, .ref r_chooser, .ref r_own, .ref r_ownCounter, .ref r_tag, .ref r_sum, .ref r_use, .ref r_weight, .ref r_loopTag, .ref r_length, .ref r_count, .ref r_trust, .int mwt, .ref r_waitPlace, .ref r_waitHistory, .ref r_waitSaid, .int mmk, .ref r_mark])), (r_weight, .inl (cA.1, 9216, .inl z_6))] := hD
    refine lv_iconst (v := 0) hx hb dMd_learnSums_54 (by decide) ?_
    refine lv_istore (lv' := [(6, .int 0), (5, .int (9 * (tf_Md_plainRow mbt mrw pl))), (0, .ref o0), (1, .int pl), (2, .int hs), (3, .int (bI tk))]) hx hb dMd_learnSums_55 hl (by decide) rfl (fun ls hl => ?_)
    exact blk57 4096 _ 0 z_6 _ _ ls hfn (hP.sub [0, 1] rfl) (hD.sub [0, 1] (by decide) rfl) hS (lv_sub hl [2, 4, 5, 1, 0] rfl)
  have blk36 : ∀ (rs0 : (Nat → Int32)) (H : Heap) (locs : List Loc) (ls : Array Slot), of_Md_learnSums_b36 g_weight = some (rs0) → va_P (dC, dI) vwCl [(o0, .inr (11, [.int mt, .int mkd, .int mbt, .int mrw, .int mhs, .int mco, .int (bI mey), .int mu1, .int mu2, .int mu3, .int mu4, .ref r_lastBit, .ref r_plain, .ref r_mixed, .ref r_chooser, .ref r_own, .ref r_ownCounter, .ref r_tag, .ref r_sum, .ref r_use, .ref r_weight, .ref r_loopTag, .ref r_length, .ref r_count, .ref r_trust, .int mwt, .ref r_waitPlace, .ref r_waitHistory, .ref r_waitSaid, .int mmk, .ref r_mark])), (r_weight, .inl (cA.1, 9216, .inl g_weight))] H → va_D A [(o0, .inr (11, [.int mt, .int mkd, .int mbt, .int mrw, .int mhs, .int mco, .int (bI mey), .int mu1, .int mu2, .int mu3, .int mu4, .ref r_lastBit, .ref r_plain, .ref r_mixed, .ref r_chooser, .ref r_own, .ref r_ownCounter, .ref r_tag, .ref r_sum, .ref r_use, .ref r_weight, .ref r_loopTag, .ref r_length, .ref r_count, .ref r_trust, .int mwt, .ref r_waitPlace, .ref r_waitHistory, .ref r_waitSaid, .int mmk, .ref r_mark])), (r_weight, .inl (cA.1, 9216, .inl g_weight))] → va_S A s.heap H locs → lv_has ls 7 [] → W p l e (headSpec wMd_learnSums ({ frames := 3, cells := 0, slots := 0, locals := 67 })).room s m ([.ref o0, .int pl, .int hs, .int (bI tk)] : List Value).toArray below meth c H locs 0 0 (MQ below (va_Qv (fun w9 => w9 = [(o0, .inr (11, [.int mt, .int mkd, .int mbt, .int mrw, .int mhs, .int mco, .int (bI mey), .int mu1, .int mu2, .int mu3, .int mu4, .ref r_lastBit, .ref r_plain, .ref r_mixed, .ref r_chooser, .ref r_own, .ref r_ownCounter, .ref r_tag, .ref r_sum, .ref r_use, .ref r_weight, .ref r_loopTag, .ref r_length, .ref r_count, .ref r_trust, .int mwt, .ref r_waitPlace, .ref r_waitHistory, .ref r_waitSaid, .int mmk, .ref r_mark])), (r_weight, .inl (cA.1, 9216, .inl rs0))]) (At (dC, dI) cA A) A) ([.ref o0, .int pl, .int hs, .int (bI tk)] : List Value).toArray s 0 0 A) (F0 m 36 ls []) := by
    intro rs0 H locs ls hfn hP hD hS hl
    unfold of_Md_learnSums_b36 at hfn
    replace hfn := Option.some.inj hfn
    subst hfn
    exact W.vret hx hb hr (fun t ht hW => ⟨⟨_, rfl, rfl, ⟨by rw [ht]; exact hP.sub [0, 1] rfl, va_K.moved hW.alike hK, hD.sub [0, 1] (by decide) rfl⟩⟩, hS.F ht⟩) hS.2.2 dMd_learnSums_36
  have blk18 : ∀ (rs0 : (Nat → Int32)) (v4_b18 : Int32) (s0_b18 : Bool) (H : Heap) (locs : List Loc) (ls : Array Slot), of_Md_learnSums_b18 mbt mrw g_weight pl hs tk v4_b18 s0_b18 = some (rs0) → va_P (dC, dI) vwCl [(o0, .inr (11, [.int mt, .int mkd, .int mbt, .int mrw, .int mhs, .int mco, .int (bI mey), .int mu1, .int mu2, .int mu3, .int mu4, .ref r_lastBit, .ref r_plain, .ref r_mixed, .ref r_chooser, .ref r_own, .ref r_ownCounter, .ref r_tag, .ref r_sum, .ref r_use, .ref r_weight, .ref r_loopTag, .ref r_length, .ref r_count, .ref r_trust, .int mwt, .ref r_waitPlace, .ref r_waitHistory, .ref r_waitSaid, .int mmk, .ref r_mark])), (r_weight, .inl (cA.1, 9216, .inl g_weight))] H → va_D A [(o0, .inr (11, [.int mt, .int mkd, .int mbt, .int mrw, .int mhs, .int mco, .int (bI mey), .int mu1, .int mu2, .int mu3, .int mu4, .ref r_lastBit, .ref r_plain, .ref r_mixed, .ref r_chooser, .ref r_own, .ref r_ownCounter, .ref r_tag, .ref r_sum, .ref r_use, .ref r_weight, .ref r_loopTag, .ref r_length, .ref r_count, .ref r_trust, .int mwt, .ref r_waitPlace, .ref r_waitHistory, .ref r_waitSaid, .int mmk, .ref r_mark])), (r_weight, .inl (cA.1, 9216, .inl g_weight))] → va_S A s.heap H locs → lv_has ls 7 [(0, .ref o0), (1, .int pl), (2, .int hs), (3, .int (bI tk)), (4, .int v4_b18)] → W p l e (headSpec wMd_learnSums ({ frames := 3, cells := 0, slots := 0, locals := 67 })).room s m ([.ref o0, .int pl, .int hs, .int (bI tk)] : List Value).toArray below meth c H locs 0 0 (MQ below (va_Qv (fun w9 => w9 = [(o0, .inr (11, [.int mt, .int mkd, .int mbt, .int mrw, .int mhs, .int mco, .int (bI mey), .int mu1, .int mu2, .int mu3, .int mu4, .ref r_lastBit, .ref r_plain, .ref r_mixed, .ref r_chooser, .ref r_own, .ref r_ownCounter, .ref r_tag, .ref r_sum, .ref r_use, .ref r_weight, .ref r_loopTag, .ref r_length, .ref r_count, .ref r_trust, .int mwt, .ref r_waitPlace, .ref r_waitHistory, .ref r_waitSaid, .int mmk, .ref r_mark])), (r_weight, .inl (cA.1, 9216, .inl rs0))]) (At (dC, dI) cA A) A) ([.ref o0, .int pl, .int hs, .int (bI tk)] : List Value).toArray s 0 0 A) (F0 m 18 ls [.int (bI s0_b18)]) := by
    intro rs0 v4_b18 s0_b18 H locs ls hfn hP hD hS hl
    unfold of_Md_learnSums_b18 at hfn
    refine lv_iload_n hx hb dMd_learnSums_18 rfl (lv_at hl 3 rfl) ?_
    refine lv_icmp_ne (tgt := 37) hx hb dMd_learnSums_19 (by decide) (fun c_3 => ?_) (fun c_3 => ?_)
    · rw [if_neg c_3] at hfn
      exact blk37 _ _ _ ls hfn (hP.sub [0, 1] rfl) (hD.sub [0, 1] (by decide) rfl) hS (lv_sub hl [0, 1, 2, 3] rfl)
    · rw [if_pos c_3] at hfn
      refine lv_iload hx hb dMd_learnSums_22 (lv_at hl 4 rfl) ?_
      refine lv_bipush (v := 29) hx hb dMd_learnSums_24 (by decide) ?_
      refine lv_icmp_gt (tgt := 36) hx hb dMd_learnSums_26 (by decide) (fun c_4 => ?_) (fun c_4 => ?_)
      · rw [if_pos c_4] at hfn
        exact blk36 _ _ _ ls hfn (hP.sub [0, 1] rfl) (hD.sub [0, 1] (by decide) rfl) hS (lv_sub hl [] rfl)
      · rw [if_neg c_4] at hfn
        refine lv_iload hx hb dMd_learnSums_29 (lv_at hl 4 rfl) ?_
        refine lv_bipush (v := (-29)) hx hb dMd_learnSums_31 (by decide) ?_
        refine lv_icmp_ge (tgt := 37) hx hb dMd_learnSums_33 (by decide) (fun c_5 => ?_) (fun c_5 => ?_)
        · rw [if_pos c_5] at hfn
          exact blk37 _ _ _ ls hfn (hP.sub [0, 1] rfl) (hD.sub [0, 1] (by decide) rfl) hS (lv_sub hl [0, 1, 2, 3] rfl)
        · rw [if_neg c_5] at hfn
          exact blk36 _ _ _ ls hfn (hP.sub [0, 1] rfl) (hD.sub [0, 1] (by decide) rfl) hS (lv_sub hl [] rfl)
  have hl := lv_entry ([.ref o0, .int pl, .int hs, .int (bI tk)]) (n := 7) (Nat.le_of_ble_eq_true rfl)
  rw [lg_entry_eq]
  generalize (lg_sl ([.ref o0, .int pl, .int hs, .int (bI tk)]) ++ List.replicate (7 - (lg_sl ([.ref o0, .int pl, .int hs, .int (bI tk)])).length) Slot.unset).toArray = ls at hl ⊢
  have hl : lv_has ls 7 [(0, .ref o0), (1, .int pl), (2, .int hs), (3, .int (bI tk))] := hl
  unfold of_Md_learnSums at hfn
  refine lv_aload_n hx hb dMd_learnSums_0 rfl (lv_at hl 0 rfl) ?_
  refine lv_iload_n hx hb dMd_learnSums_1 rfl (lv_at hl 1 rfl) ?_
  refine lv_iload_n hx hb dMd_learnSums_2 rfl (lv_at hl 2 rfl) ?_
  obtain ⟨z_1, hz_1, hfn⟩ := ob hfn
  refine rd_V (As := [.int pl, .int hs]) (rest := []) ⟨hx, hb, hml, hown, htg⟩ (c_Md_total l dC dI cA o0 r_weight r_lastBit r_plain r_mixed r_chooser r_own r_ownCounter r_tag r_sum r_use r_loopTag r_length r_count r_trust r_waitPlace r_waitHistory r_waitSaid r_mark mt mkd mbt mrw mhs mco mey mu1 mu2 mu3 mu4 mwt mmk g_weight pl hs z_1 hz_1) (cw_V htg wd_939 ws_26 qMd_total iMd_total kMd_total pMd_total rfl rfl ⟨Nat.le_of_ble_eq_true rfl, Nat.le_of_ble_eq_true rfl⟩) (va_recv hK hP (ci := 11) (q0 := 0) rfl rfl) hN (hP.sub [0, 1] rfl) hK rfl hl.1 rfl (Nat.le_of_ble_eq_true rfl) dMd_learnSums_3 ⟨Nat.le_of_ble_eq_true rfl, Nat.le_of_ble_eq_true rfl⟩ ?_
  refine lv_istore (lv' := [(4, .int z_1), (0, .ref o0), (1, .int pl), (2, .int hs), (3, .int (bI tk))]) hx hb dMd_learnSums_6 hl (by decide) rfl (fun ls hl => ?_)
  refine lv_iload hx hb dMd_learnSums_8 (lv_at hl 0 rfl) ?_
  refine lv_if_lt (tgt := 17) hx hb dMd_learnSums_10 (by decide) (fun c_2 => ?_) (fun c_2 => ?_)
  · rw [if_pos c_2] at hfn
    refine lv_iconst (v := 0) hx hb dMd_learnSums_17 (by decide) ?_
    exact blk18 _ z_1 false _ _ ls hfn (hP.sub [0, 1] rfl) (hD.sub [0, 1] (by decide) rfl) hS (lv_sub hl [1, 2, 3, 4, 0] rfl)
  · rw [if_neg c_2] at hfn
    refine lv_iconst (v := 1) hx hb dMd_learnSums_13 (by decide) ?_
    refine lv_goto (tgt := 18) hx hb dMd_learnSums_14 (by decide) ?_
    exact blk18 _ z_1 true _ _ ls hfn (hP.sub [0, 1] rfl) (hD.sub [0, 1] (by decide) rfl) hS (lv_sub hl [1, 2, 3, 4, 0] rfl)
def of_Md_clearLoop (g_length : Nat → Int32) (g_count : Nat → Int32) (g_trust : Nat → Int32) (x0 : Int32) : Option ((Nat → Int32) × (Nat → Int32) × (Nat → Int32)) := (if x0 < 0 ∨ 1024 ≤ x0.toNatClampNeg then none else (if x0 < 0 ∨ 1024 ≤ x0.toNatClampNeg then none else (if x0 < 0 ∨ 1024 ≤ x0.toNatClampNeg then none else some ((upd g_length x0.toNatClampNeg 0), (upd g_count x0.toNatClampNeg 0), (upd g_trust x0.toNatClampNeg 0)))))
set_option maxHeartbeats 4000000 in
set_option maxRecDepth 100000 in
theorem c_Md_clearLoop (l : Launch) (dC : Nat → ClassId) (dI : Nat → Nat → Nat) (cA : ClassId × ClassId × ClassId) (zz : Nat) (o0 : Nat) (r_length : Nat) (r_count : Nat) (r_trust : Nat) (r_lastBit : Nat) (r_plain : Nat) (r_mixed : Nat) (r_chooser : Nat) (r_own : Nat) (r_ownCounter : Nat) (r_tag : Nat) (r_sum : Nat) (r_use : Nat) (r_weight : Nat) (r_loopTag : Nat) (r_waitPlace : Nat) (r_waitHistory : Nat) (r_waitSaid : Nat) (r_mark : Nat) (mt : Int32) (mkd : Int32) (mbt : Int32) (mrw : Int32) (mhs : Int32) (mco : Int32) (mey : Bool) (mu1 : Int32) (mu2 : Int32) (mu3 : Int32) (mu4 : Int32) (mwt : Int32) (mmk : Int32) (g_length : Nat → Int32) (g_count : Nat → Int32) (g_trust : Nat → Int32) (x0 : Int32) (rs0 : (Nat → Int32)) (rs1 : (Nat → Int32)) (rs2 : (Nat → Int32)) (hfn : (of_Md_clearLoop g_length g_count g_trust x0) = some (rs0, rs1, rs2)) : Met l yMd_clearLoop wMd_clearLoop ({ frames := 0, cells := 0, slots := 0, locals := 0 }) (va_Pc [.ref o0, .int x0] (Wr (dC, dI) cA zz [(o0, .inr (11, [.int mt, .int mkd, .int mbt, .int mrw, .int mhs, .int mco, .int (bI mey), .int mu1, .int mu2, .int mu3, .int mu4, .ref r_lastBit, .ref r_plain, .ref r_mixed, .ref r_chooser, .ref r_own, .ref r_ownCounter, .ref r_tag, .ref r_sum, .ref r_use, .ref r_weight, .ref r_loopTag, .ref r_length, .ref r_count, .ref r_trust, .int mwt, .ref r_waitPlace, .ref r_waitHistory, .ref r_waitSaid, .int mmk, .ref r_mark])), (r_length, .inl (cA.1, 1024, .inl g_length)), (r_count, .inl (cA.1, 1024, .inl g_count)), (r_trust, .inl (cA.1, 1024, .inl g_trust))])) (va_Qv (fun w9 => w9 = [(o0, .inr (11, [.int mt, .int mkd, .int mbt, .int mrw, .int mhs, .int mco, .int (bI mey), .int mu1, .int mu2, .int mu3, .int mu4, .ref r_lastBit, .ref r_plain, .ref r_mixed, .ref r_chooser, .ref r_own, .ref r_ownCounter, .ref r_tag, .ref r_sum, .ref r_use, .ref r_weight, .ref r_loopTag, .ref r_length, .ref r_count, .ref r_trust, .int mwt, .ref r_waitPlace, .ref r_waitHistory, .ref r_waitSaid, .int mmk, .ref r_mark])), (r_length, .inl (cA.1, 1024, .inl rs0)), (r_count, .inl (cA.1, 1024, .inl rs1)), (r_trust, .inl (cA.1, 1024, .inl rs2))]) (At (dC, dI) cA (va_A [(o0, .inr (11, [.int mt, .int mkd, .int mbt, .int mrw, .int mhs, .int mco, .int (bI mey), .int mu1, .int mu2, .int mu3, .int mu4, .ref r_lastBit, .ref r_plain, .ref r_mixed, .ref r_chooser, .ref r_own, .ref r_ownCounter, .ref r_tag, .ref r_sum, .ref r_use, .ref r_weight, .ref r_loopTag, .ref r_length, .ref r_count, .ref r_trust, .int mwt, .ref r_waitPlace, .ref r_waitHistory, .ref r_waitSaid, .int mmk, .ref r_mark])), (r_length, .inl (cA.1, 1024, .inl g_length)), (r_count, .inl (cA.1, 1024, .inl g_count)), (r_trust, .inl (cA.1, 1024, .inl g_trust))] zz)) (va_A [(o0, .inr (11, [.int mt, .int mkd, .int mbt, .int mrw, .int mhs, .int mco, .int (bI mey), .int mu1, .int mu2, .int mu3, .int mu4, .ref r_lastBit, .ref r_plain, .ref r_mixed, .ref r_chooser, .ref r_own, .ref r_ownCounter, .ref r_tag, .ref r_sum, .ref r_use, .ref r_weight, .ref r_loopTag, .ref r_length, .ref r_count, .ref r_trust, .int mwt, .ref r_waitPlace, .ref r_waitHistory, .ref r_waitSaid, .int mmk, .ref r_mark])), (r_length, .inl (cA.1, 1024, .inl g_length)), (r_count, .inl (cA.1, 1024, .inl g_count)), (r_trust, .inl (cA.1, 1024, .inl g_trust))] zz)) 0 0 (va_A [(o0, .inr (11, [.int mt, .int mkd, .int mbt, .int mrw, .int mhs, .int mco, .int (bI mey), .int mu1, .int mu2, .int mu3, .int mu4, .ref r_lastBit, .ref r_plain, .ref r_mixed, .ref r_chooser, .ref r_own, .ref r_ownCounter, .ref r_tag, .ref r_sum, .ref r_use, .ref r_weight, .ref r_loopTag, .ref r_length, .ref r_count, .ref r_trust, .int mwt, .ref r_waitPlace, .ref r_waitHistory, .ref r_waitSaid, .int mmk, .ref r_mark])), (r_length, .inl (cA.1, 1024, .inl g_length)), (r_count, .inl (cA.1, 1024, .inl g_count)), (r_trust, .inl (cA.1, 1024, .inl g_trust))] zz) := by
  refine Met.ofW (cc := cMd_clearLoop) (maxL := 2) (ret := none) (by decide) rfl ?_
  intro p e s m args below meth c s₁ B hml hv
  obtain ⟨rfl, hsz, hN, hP, hK, hD0⟩ := hv
  have hx := B.exec
  have hb := B.bytes
  have hr := B.returns
  have hts := atoms_spec (ws := wMd_clearLoop) B.pre
  have htg : ∀ w ∈ GW, w.before _ s = true := fun w h => hts w (List.mem_cons_of_mem _ h)
  have hown : s.vm.findClass R_Md = some m.cls := findClass_of_methodNamed B.named
  have hlocks := B.notSynchronized
  subst hsz
  have hD := hD0.self (sz := s.heap.size)
  generalize hAe : va_A [(o0, .inr (11, [.int mt, .int mkd, .int mbt, .int mrw, .int mhs, .int mco, .int (bI mey), .int mu1, .int mu2, .int mu3, .int mu4, .ref r_lastBit, .ref r_plain, .ref r_mixed, .ref r_chooser, .ref r_own, .ref r_ownCounter, .ref r_tag, .ref r_sum, .ref r_use, .ref r_weight, .ref r_loopTag, .ref r_length, .ref r_count, .ref r_trust, .int mwt, .ref r_waitPlace, .ref r_waitHistory, .ref r_waitSaid, .int mmk, .ref r_mark])), (r_length, .inl (cA.1, 1024, .inl g_length)), (r_count, .inl (cA.1, 1024, .inl g_count)), (r_trust, .inl (cA.1, 1024, .inl g_trust))] s.heap.size = A at hD ⊢
  have hA : ∀ q : Nat, s.heap.size ≤ q → A q := fun q h => by rw [← hAe]; exact Or.inr h
  have hS : va_S A s.heap s.heap [] := va_S.rf
  have hP : va_P (dC, dI) vwCl [(o0, .inr (11, [.int mt, .int mkd, .int mbt, .int mrw, .int mhs, .int mco, .int (bI mey), .int mu1, .int mu2, .int mu3, .int mu4, .ref r_lastBit, .ref r_plain, .ref r_mixed, .ref r_chooser, .ref r_own, .ref r_ownCounter, .ref r_tag, .ref r_sum, .ref r_use, .ref r_weight, .ref r_loopTag, .ref r_length, .ref r_count, .ref r_trust, .int mwt, .ref r_waitPlace, .ref r_waitHistory, .ref r_waitSaid, .int mmk, .ref r_mark])), (r_length, .inl (cA.1, 1024, .inl g_length)), (r_count, .inl (cA.1, 1024, .inl g_count)), (r_trust, .inl (cA.1, 1024, .inl g_trust))] s.heap := hP
  have hl := lv_entry ([.ref o0, .int x0]) (n := 2) (Nat.le_of_ble_eq_true rfl)
  rw [lg_entry_eq]
  generalize (lg_sl ([.ref o0, .int x0]) ++ List.replicate (2 - (lg_sl ([.ref o0, .int x0])).length) Slot.unset).toArray = ls at hl ⊢
  have hl : lv_has ls 2 [(0, .ref o0), (1, .int x0)] := hl
  unfold of_Md_clearLoop at hfn
  refine lv_aload_n hx hb dMd_clearLoop_0 rfl (lv_at hl 0 rfl) ?_
  refine va_get (D := (dC, dI)) (ci := 11) (v := .ref r_trust) (C := R_Md) (T := T_Md) (N := 31) hx hb htg in_Md hown hK hP 0 rfl rfl 24 (by decide) (htg _ wd_819) (fun _ h9 => h9) rfl dMd_clearLoop_1 ?_
  refine lv_iload_n hx hb dMd_clearLoop_4 rfl (lv_at hl 1 rfl) ?_
  refine lv_iconst (v := 0) hx hb dMd_clearLoop_5 (by decide) ?_
  obtain ⟨g_1, hfn⟩ := og hfn
  refine va_iast hx hb hK hP hD hS 3 0 rfl rfl g_1 dMd_clearLoop_6 (fun H locs hP hD hS => ?_)
  have hP : va_P (dC, dI) vwCl [(o0, .inr (11, [.int mt, .int mkd, .int mbt, .int mrw, .int mhs, .int mco, .int (bI mey), .int mu1, .int mu2, .int mu3, .int mu4, .ref r_lastBit, .ref r_plain, .ref r_mixed, .ref r_chooser, .ref r_own, .ref r_ownCounter, .ref r_tag, .ref r_sum, .ref r_use, .ref r_weight, .ref r_loopTag, .ref r_length, .ref r_count, .ref r_trust, .int mwt, .ref r_waitPlace, .ref r_waitHistory, .ref r_waitSaid, .int mmk, .ref r_mark])), (r_length, .inl (cA.1, 1024, .inl g_length)), (r_count, .inl (cA.1, 1024, .inl g_count)), (r_trust, .inl (cA.1, 1024, .inl (upd g_trust x0.toNatClampNeg 0)))] H := hP
  have hD : va_D A [(o0, .inr (11, [.int mt, .int mkd, .int mbt, .int mrw, .int mhs, .int mco, .int (bI mey), .int mu1, .int mu2, .int mu3, .int mu4, .ref r_lastBit, .ref r_plain, .ref r_mixed, .ref r_chooser, .ref r_own, .ref r_ownCounter, .ref r_tag, .ref r_sum, .ref r_use, .ref r_weight, .ref r_loopTag, .ref r_length, .ref r_count, .ref r_trust, .int mwt, .ref r_waitPlace, .ref r_waitHistory, .ref r_waitSaid, .int mmk, .ref r_mark])), (r_length, .inl (cA.1, 1024, .inl g_length)), (r_count, .inl (cA.1, 1024, .inl g_count)), (r_trust, .inl (cA.1, 1024, .inl (upd g_trust x0.toNatClampNeg 0)))] := hD
  refine lv_aload_n hx hb dMd_clearLoop_7 rfl (lv_at hl 0 rfl) ?_
  refine va_get (D := (dC, dI)) (ci := 11) (v := .ref r_length) (C := R_Md) (T := T_Md) (N := 31) hx hb htg in_Md hown hK hP 0 rfl rfl 22 (by decide) (htg _ wd_817) (fun _ h9 => h9) rfl dMd_clearLoop_8 ?_
  refine lv_iload_n hx hb dMd_clearLoop_11 rfl (lv_at hl 1 rfl) ?_
  refine lv_iconst (v := 0) hx hb dMd_clearLoop_12 (by decide) ?_
  obtain ⟨g_2, hfn⟩ := og hfn
  refine va_iast hx hb hK hP hD hS 1 0 rfl rfl g_2 dMd_clearLoop_13 (fun H locs hP hD hS => ?_)
  have hP : va_P (dC, dI) vwCl [(o0, .inr (11, [.int mt, .int mkd, .int mbt, .int mrw, .int mhs, .int mco, .int (bI mey), .int mu1, .int mu2, .int mu3, .int mu4, .ref r_lastBit, .ref r_plain, .ref r_mixed, .ref r_chooser, .ref r_own, .ref r_ownCounter, .ref r_tag, .ref r_sum, .ref r_use, .ref r_weight, .ref r_loopTag, .ref r_length, .ref r_count, .ref r_trust, .int mwt, .ref r_waitPlace, .ref r_waitHistory, .ref r_waitSaid, .int mmk, .ref r_mark])), (r_length, .inl (cA.1, 1024, .inl (upd g_length x0.toNatClampNeg 0))), (r_count, .inl (cA.1, 1024, .inl g_count)), (r_trust, .inl (cA.1, 1024, .inl (upd g_trust x0.toNatClampNeg 0)))] H := hP
  have hD : va_D A [(o0, .inr (11, [.int mt, .int mkd, .int mbt, .int mrw, .int mhs, .int mco, .int (bI mey), .int mu1, .int mu2, .int mu3, .int mu4, .ref r_lastBit, .ref r_plain, .ref r_mixed, .ref r_chooser, .ref r_own, .ref r_ownCounter, .ref r_tag, .ref r_sum, .ref r_use, .ref r_weight, .ref r_loopTag, .ref r_length, .ref r_count, .ref r_trust, .int mwt, .ref r_waitPlace, .ref r_waitHistory, .ref r_waitSaid, .int mmk, .ref r_mark])), (r_length, .inl (cA.1, 1024, .inl (upd g_length x0.toNatClampNeg 0))), (r_count, .inl (cA.1, 1024, .inl g_count)), (r_trust, .inl (cA.1, 1024, .inl (upd g_trust x0.toNatClampNeg 0)))] := hD
  refine lv_aload_n hx hb dMd_clearLoop_14 rfl (lv_at hl 0 rfl) ?_
  refine va_get (D := (dC, dI)) (ci := 11) (v := .ref r_count) (C := R_Md) (T := T_Md) (N := 31) hx hb htg in_Md hown hK hP 0 rfl rfl 23 (by decide) (htg _ wd_818) (fun _ h9 => h9) rfl dMd_clearLoop_15 ?_
  refine lv_iload_n hx hb dMd_clearLoop_18 rfl (lv_at hl 1 rfl) ?_
  refine lv_iconst (v := 0) hx hb dMd_clearLoop_19 (by decide) ?_
  obtain ⟨g_3, hfn⟩ := og hfn
  refine va_iast hx hb hK hP hD hS 2 0 rfl rfl g_3 dMd_clearLoop_20 (fun H locs hP hD hS => ?_)
  have hP : va_P (dC, dI) vwCl [(o0, .inr (11, [.int mt, .int mkd, .int mbt, .int mrw, .int mhs, .int mco, .int (bI mey), .int mu1, .int mu2, .int mu3, .int mu4, .ref r_lastBit, .ref r_plain, .ref r_mixed, .ref r_chooser, .ref r_own, .ref r_ownCounter, .ref r_tag, .ref r_sum, .ref r_use, .ref r_weight, .ref r_loopTag, .ref r_length, .ref r_count, .ref r_trust, .int mwt, .ref r_waitPlace, .ref r_waitHistory, .ref r_waitSaid, .int mmk, .ref r_mark])), (r_length, .inl (cA.1, 1024, .inl (upd g_length x0.toNatClampNeg 0))), (r_count, .inl (cA.1, 1024, .inl (upd g_count x0.toNatClampNeg 0))), (r_trust, .inl (cA.1, 1024, .inl (upd g_trust x0.toNatClampNeg 0)))] H := hP
  have hD : va_D A [(o0, .inr (11, [.int mt, .int mkd, .int mbt, .int mrw, .int mhs, .int mco, .int (bI mey), .int mu1, .int mu2, .int mu3, .int mu4, .ref r_lastBit, .ref r_plain, .ref r_mixed, .ref r_chooser, .ref r_own, .ref r_ownCounter, .ref r_tag, .ref r_sum, .ref r_use, .ref r_weight, .ref r_loopTag, .ref r_length, .ref r_count, .ref r_trust, .int mwt, .ref r_waitPlace, .ref r_waitHistory, .ref r_waitSaid, .int mmk, .ref r_mark])), (r_length, .inl (cA.1, 1024, .inl (upd g_length x0.toNatClampNeg 0))), (r_count, .inl (cA.1, 1024, .inl (upd g_count x0.toNatClampNeg 0))), (r_trust, .inl (cA.1, 1024, .inl (upd g_trust x0.toNatClampNeg 0)))] := hD
  replace hfn := Option.some.inj hfn
  obtain ⟨e9, hf_0⟩ := Prod.mk.inj hfn; clear hfn; subst e9
  obtain ⟨e9, hf_1⟩ := Prod.mk.inj hf_0; clear hf_0; subst e9
  subst hf_1
  exact W.vret hx hb hr (fun t ht hW => ⟨⟨_, rfl, rfl, ⟨by rw [ht]; exact hP.sub [0, 1, 2, 3] rfl, va_K.moved hW.alike hK, hD.sub [0, 1, 2, 3] (by decide) rfl⟩⟩, hS.F ht⟩) hS.2.2 dMd_clearLoop_21
def of_Md_learnLoop_b172 (mbt : Int32) (mrw : Int32) (g_plain : Nat → Int32) (g_loopTag : Nat → Int32) (g_length : Nat → Int32) (g_count : Nat → Int32) (g_trust : Nat → Int32) (pl : Int32) (tk : Bool) (s0_b172 : Int32) : Option ((Nat → Int32) × (Nat → Int32) × (Nat → Int32) × (Nat → Int32) × (Nat → Int32)) := (if (tf_Md_plainRow mbt mrw pl) < 0 ∨ 1024 ≤ (tf_Md_plainRow mbt mrw pl).toNatClampNeg then none else (if (tf_Md_plainRow mbt mrw pl) < 0 ∨ 1024 ≤ (tf_Md_plainRow mbt mrw pl).toNatClampNeg then none else (if (tf_Md_plainRow mbt mrw pl) < 0 ∨ 1024 ≤ (tf_Md_plainRow mbt mrw pl).toNatClampNeg then none else (if (tf_Md_plainRow mbt mrw pl) < 0 ∨ 1024 ≤ (tf_Md_plainRow mbt mrw pl).toNatClampNeg then none else some ((upd g_plain (tf_Md_plainRow mbt mrw pl).toNatClampNeg (tf_Md_step (g_plain (tf_Md_plainRow mbt mrw pl).toNatClampNeg) tk)), g_loopTag, (upd g_length (tf_Md_plainRow mbt mrw pl).toNatClampNeg (g_count (tf_Md_plainRow mbt mrw pl).toNatClampNeg)), (upd g_count (tf_Md_plainRow mbt mrw pl).toNatClampNeg 0), (upd g_trust (tf_Md_plainRow mbt mrw pl).toNatClampNeg s0_b172))))))
def of_Md_learnLoop_b146 (mbt : Int32) (mrw : Int32) (g_plain : Nat → Int32) (g_loopTag : Nat → Int32) (g_length : Nat → Int32) (g_count : Nat → Int32) (g_trust : Nat → Int32) (pl : Int32) (tk : Bool) (s0_b146 : Bool) : Option ((Nat → Int32) × (Nat → Int32) × (Nat → Int32) × (Nat → Int32) × (Nat → Int32)) := (if (bI s0_b146) = 0 then of_Md_learnLoop_b172 mbt mrw g_plain g_loopTag g_length g_count g_trust pl tk 0 else (if (tf_Md_plainRow mbt mrw pl) < 0 ∨ 1024 ≤ (tf_Md_plainRow mbt mrw pl).toNatClampNeg then none else of_Md_learnLoop_b172 mbt mrw g_plain g_loopTag g_length g_count g_trust pl tk (tf_Md_step (g_trust (tf_Md_plainRow mbt mrw pl).toNatClampNeg) true)))
def of_Md_learnLoop_b118 (mbt : Int32) (mrw : Int32) (g_plain : Nat → Int32) (g_loopTag : Nat → Int32) (g_length : Nat → Int32) (g_count : Nat → Int32) (g_trust : Nat → Int32) (pl : Int32) (tk : Bool) : Option ((Nat → Int32) × (Nat → Int32) × (Nat → Int32) × (Nat → Int32) × (Nat → Int32)) := ((of_Md_clearLoop g_length (upd g_count (tf_Md_plainRow mbt mrw pl).toNatClampNeg ((g_count (tf_Md_plainRow mbt mrw pl).toNatClampNeg) + 1)) g_trust (tf_Md_plainRow mbt mrw pl)).bind fun (z_22_0, z_22_1, z_22_2) => some ((upd g_plain (tf_Md_plainRow mbt mrw pl).toNatClampNeg (tf_Md_step (g_plain (tf_Md_plainRow mbt mrw pl).toNatClampNeg) tk)), g_loopTag, z_22_0, z_22_1, z_22_2))
def of_Md_learnLoop_b39 (mbt : Int32) (mrw : Int32) (g_plain : Nat → Int32) (g_loopTag : Nat → Int32) (g_length : Nat → Int32) (g_count : Nat → Int32) (g_trust : Nat → Int32) (pl : Int32) (tk : Bool) (v4_b39 : Bool) : Option ((Nat → Int32) × (Nat → Int32) × (Nat → Int32) × (Nat → Int32) × (Nat → Int32)) := (if (bI v4_b39) = 0 then (if (tf_Md_plainRow mbt mrw pl) < 0 ∨ 1024 ≤ (tf_Md_plainRow mbt mrw pl).toNatClampNeg then none else ((of_Md_clearLoop g_length g_count g_trust (tf_Md_plainRow mbt mrw pl)).bind fun (z_21_0, z_21_1, z_21_2) => some ((upd g_plain (tf_Md_plainRow mbt mrw pl).toNatClampNeg (tf_Md_step (g_plain (tf_Md_plainRow mbt mrw pl).toNatClampNeg) tk)), (upd g_loopTag (tf_Md_plainRow mbt mrw pl).toNatClampNeg ((us pl mbt) &&& 255)), z_21_0, z_21_1, z_21_2))) else (if (bI tk) = 0 then (if (tf_Md_plainRow mbt mrw pl) < 0 ∨ 1024 ≤ (tf_Md_plainRow mbt mrw pl).toNatClampNeg then none else (if (tf_Md_plainRow mbt mrw pl) < 0 ∨ 1024 ≤ (tf_Md_plainRow mbt mrw pl).toNatClampNeg then none else (if (g_count (tf_Md_plainRow mbt mrw pl).toNatClampNeg) = (g_length (tf_Md_plainRow mbt mrw pl).toNatClampNeg) then of_Md_learnLoop_b146 mbt mrw g_plain g_loopTag g_length g_count g_trust pl tk true else of_Md_learnLoop_b146 mbt mrw g_plain g_loopTag g_length g_count g_trust pl tk false))) else (if (tf_Md_plainRow mbt mrw pl) < 0 ∨ 1024 ≤ (tf_Md_plainRow mbt mrw pl).toNatClampNeg then none else (if (tf_Md_plainRow mbt mrw pl) < 0 ∨ 1024 ≤ (tf_Md_plainRow mbt mrw pl).toNatClampNeg then none else (if (tf_Md_plainRow mbt mrw pl) < 0 ∨ 1024 ≤ (tf_Md_plainRow mbt mrw pl).toNatClampNeg then none else (if 1000 < ((upd g_count (tf_Md_plainRow mbt mrw pl).toNatClampNeg ((g_count (tf_Md_plainRow mbt mrw pl).toNatClampNeg) + 1)) (tf_Md_plainRow mbt mrw pl).toNatClampNeg) then of_Md_learnLoop_b118 mbt mrw g_plain g_loopTag g_length g_count g_trust pl tk else (if (tf_Md_plainRow mbt mrw pl) < 0 ∨ 1024 ≤ (tf_Md_plainRow mbt mrw pl).toNatClampNeg then none else (if (g_trust (tf_Md_plainRow mbt mrw pl).toNatClampNeg) ≤ 0 then some ((upd g_plain (tf_Md_plainRow mbt mrw pl).toNatClampNeg (tf_Md_step (g_plain (tf_Md_plainRow mbt mrw pl).toNatClampNeg) tk)), g_loopTag, g_length, (upd g_count (tf_Md_plainRow mbt mrw pl).toNatClampNeg ((g_count (tf_Md_plainRow mbt mrw pl).toNatClampNeg) + 1)), g_trust) else (if (tf_Md_plainRow mbt mrw pl) < 0 ∨ 1024 ≤ (tf_Md_plainRow mbt mrw pl).toNatClampNeg then none else (if (tf_Md_plainRow mbt mrw pl) < 0 ∨ 1024 ≤ (tf_Md_plainRow mbt mrw pl).toNatClampNeg then none else (if ((upd g_count (tf_Md_plainRow mbt mrw pl).toNatClampNeg ((g_count (tf_Md_plainRow mbt mrw pl).toNatClampNeg) + 1)) (tf_Md_plainRow mbt mrw pl).toNatClampNeg) ≤ (g_length (tf_Md_plainRow mbt mrw pl).toNatClampNeg) then some ((upd g_plain (tf_Md_plainRow mbt mrw pl).toNatClampNeg (tf_Md_step (g_plain (tf_Md_plainRow mbt mrw pl).toNatClampNeg) tk)), g_loopTag, g_length, (upd g_count (tf_Md_plainRow mbt mrw pl).toNatClampNeg ((g_count (tf_Md_plainRow mbt mrw pl).toNatClampNeg) + 1)), g_trust) else of_Md_learnLoop_b118 mbt mrw g_plain g_loopTag g_length g_count g_trust pl tk)))))))))))
def of_Md_learnLoop (mbt : Int32) (mrw : Int32) (g_plain : Nat → Int32) (g_loopTag : Nat → Int32) (g_length : Nat → Int32) (g_count : Nat → Int32) (g_trust : Nat → Int32) (pl : Int32) (tk : Bool) : Option ((Nat → Int32) × (Nat → Int32) × (Nat → Int32) × (Nat → Int32) × (Nat → Int32)) := (if (tf_Md_plainRow mbt mrw pl) < 0 ∨ 1024 ≤ (tf_Md_plainRow mbt mrw pl).toNatClampNeg then none else (if (tf_Md_plainRow mbt mrw pl) < 0 ∨ 1024 ≤ (tf_Md_plainRow mbt mrw pl).toNatClampNeg then none else ((of_Md_hasLoop mbt mrw g_loopTag pl).bind fun z_3 => (if (bI z_3) = 0 then (if (bI tk) = 0 then of_Md_learnLoop_b39 mbt mrw g_plain g_loopTag g_length g_count g_trust pl tk z_3 else some ((upd g_plain (tf_Md_plainRow mbt mrw pl).toNatClampNeg (tf_Md_step (g_plain (tf_Md_plainRow mbt mrw pl).toNatClampNeg) tk)), g_loopTag, g_length, g_count, g_trust)) else of_Md_learnLoop_b39 mbt mrw g_plain g_loopTag g_length g_count g_trust pl tk z_3))))
set_option maxHeartbeats 4000000 in
set_option maxRecDepth 100000 in
theorem c_Md_learnLoop (l : Launch) (dC : Nat → ClassId) (dI : Nat → Nat → Nat) (cA : ClassId × ClassId × ClassId) (zz : Nat) (o0 : Nat) (r_plain : Nat) (r_loopTag : Nat) (r_length : Nat) (r_count : Nat) (r_trust : Nat) (r_lastBit : Nat) (r_mixed : Nat) (r_chooser : Nat) (r_own : Nat) (r_ownCounter : Nat) (r_tag : Nat) (r_sum : Nat) (r_use : Nat) (r_weight : Nat) (r_waitPlace : Nat) (r_waitHistory : Nat) (r_waitSaid : Nat) (r_mark : Nat) (mt : Int32) (mkd : Int32) (mbt : Int32) (mrw : Int32) (mhs : Int32) (mco : Int32) (mey : Bool) (mu1 : Int32) (mu2 : Int32) (mu3 : Int32) (mu4 : Int32) (mwt : Int32) (mmk : Int32) (g_plain : Nat → Int32) (g_loopTag : Nat → Int32) (g_length : Nat → Int32) (g_count : Nat → Int32) (g_trust : Nat → Int32) (pl : Int32) (tk : Bool) (rs0 : (Nat → Int32)) (rs1 : (Nat → Int32)) (rs2 : (Nat → Int32)) (rs3 : (Nat → Int32)) (rs4 : (Nat → Int32)) (hfn : (of_Md_learnLoop mbt mrw g_plain g_loopTag g_length g_count g_trust pl tk) = some (rs0, rs1, rs2, rs3, rs4)) : Met l yMd_learnLoop wMd_learnLoop ({ frames := 3, cells := 0, slots := 0, locals := 63 }) (va_Pc [.ref o0, .int pl, .int (bI tk)] (Wr (dC, dI) cA zz [(o0, .inr (11, [.int mt, .int mkd, .int mbt, .int mrw, .int mhs, .int mco, .int (bI mey), .int mu1, .int mu2, .int mu3, .int mu4, .ref r_lastBit, .ref r_plain, .ref r_mixed, .ref r_chooser, .ref r_own, .ref r_ownCounter, .ref r_tag, .ref r_sum, .ref r_use, .ref r_weight, .ref r_loopTag, .ref r_length, .ref r_count, .ref r_trust, .int mwt, .ref r_waitPlace, .ref r_waitHistory, .ref r_waitSaid, .int mmk, .ref r_mark])), (r_plain, .inl (cA.1, 1024, .inl g_plain)), (r_loopTag, .inl (cA.1, 1024, .inl g_loopTag)), (r_length, .inl (cA.1, 1024, .inl g_length)), (r_count, .inl (cA.1, 1024, .inl g_count)), (r_trust, .inl (cA.1, 1024, .inl g_trust))])) (va_Qv (fun w9 => w9 = [(o0, .inr (11, [.int mt, .int mkd, .int mbt, .int mrw, .int mhs, .int mco, .int (bI mey), .int mu1, .int mu2, .int mu3, .int mu4, .ref r_lastBit, .ref r_plain, .ref r_mixed, .ref r_chooser, .ref r_own, .ref r_ownCounter, .ref r_tag, .ref r_sum, .ref r_use, .ref r_weight, .ref r_loopTag, .ref r_length, .ref r_count, .ref r_trust, .int mwt, .ref r_waitPlace, .ref r_waitHistory, .ref r_waitSaid, .int mmk, .ref r_mark])), (r_plain, .inl (cA.1, 1024, .inl rs0)), (r_loopTag, .inl (cA.1, 1024, .inl rs1)), (r_length, .inl (cA.1, 1024, .inl rs2)), (r_count, .inl (cA.1, 1024, .inl rs3)), (r_trust, .inl (cA.1, 1024, .inl rs4))]) (At (dC, dI) cA (va_A [(o0, .inr (11, [.int mt, .int mkd, .int mbt, .int mrw, .int mhs, .int mco, .int (bI mey), .int mu1, .int mu2, .int mu3, .int mu4, .ref r_lastBit, .ref r_plain, .ref r_mixed, .ref r_chooser, .ref r_own, .ref r_ownCounter, .ref r_tag, .ref r_sum, .ref r_use, .ref r_weight, .ref r_loopTag, .ref r_length, .ref r_count, .ref r_trust, .int mwt, .ref r_waitPlace, .ref r_waitHistory, .ref r_waitSaid, .int mmk, .ref r_mark])), (r_plain, .inl (cA.1, 1024, .inl g_plain)), (r_loopTag, .inl (cA.1, 1024, .inl g_loopTag)), (r_length, .inl (cA.1, 1024, .inl g_length)), (r_count, .inl (cA.1, 1024, .inl g_count)), (r_trust, .inl (cA.1, 1024, .inl g_trust))] zz)) (va_A [(o0, .inr (11, [.int mt, .int mkd, .int mbt, .int mrw, .int mhs, .int mco, .int (bI mey), .int mu1, .int mu2, .int mu3, .int mu4, .ref r_lastBit, .ref r_plain, .ref r_mixed, .ref r_chooser, .ref r_own, .ref r_ownCounter, .ref r_tag, .ref r_sum, .ref r_use, .ref r_weight, .ref r_loopTag, .ref r_length, .ref r_count, .ref r_trust, .int mwt, .ref r_waitPlace, .ref r_waitHistory, .ref r_waitSaid, .int mmk, .ref r_mark])), (r_plain, .inl (cA.1, 1024, .inl g_plain)), (r_loopTag, .inl (cA.1, 1024, .inl g_loopTag)), (r_length, .inl (cA.1, 1024, .inl g_length)), (r_count, .inl (cA.1, 1024, .inl g_count)), (r_trust, .inl (cA.1, 1024, .inl g_trust))] zz)) 0 0 (va_A [(o0, .inr (11, [.int mt, .int mkd, .int mbt, .int mrw, .int mhs, .int mco, .int (bI mey), .int mu1, .int mu2, .int mu3, .int mu4, .ref r_lastBit, .ref r_plain, .ref r_mixed, .ref r_chooser, .ref r_own, .ref r_ownCounter, .ref r_tag, .ref r_sum, .ref r_use, .ref r_weight, .ref r_loopTag, .ref r_length, .ref r_count, .ref r_trust, .int mwt, .ref r_waitPlace, .ref r_waitHistory, .ref r_waitSaid, .int mmk, .ref r_mark])), (r_plain, .inl (cA.1, 1024, .inl g_plain)), (r_loopTag, .inl (cA.1, 1024, .inl g_loopTag)), (r_length, .inl (cA.1, 1024, .inl g_length)), (r_count, .inl (cA.1, 1024, .inl g_count)), (r_trust, .inl (cA.1, 1024, .inl g_trust))] zz) := by
  refine Met.ofW (cc := cMd_learnLoop) (maxL := 6) (ret := none) (by decide) rfl ?_
  intro p e s m args below meth c s₁ B hml hv
  obtain ⟨rfl, hsz, hN, hP, hK, hD0⟩ := hv
  have hx := B.exec
  have hb := B.bytes
  have hr := B.returns
  have hts := atoms_spec (ws := wMd_learnLoop) B.pre
  have htg : ∀ w ∈ GW, w.before _ s = true := fun w h => hts w (List.mem_cons_of_mem _ h)
  have hown : s.vm.findClass R_Md = some m.cls := findClass_of_methodNamed B.named
  have hlocks := B.notSynchronized
  subst hsz
  have hD := hD0.self (sz := s.heap.size)
  generalize hAe : va_A [(o0, .inr (11, [.int mt, .int mkd, .int mbt, .int mrw, .int mhs, .int mco, .int (bI mey), .int mu1, .int mu2, .int mu3, .int mu4, .ref r_lastBit, .ref r_plain, .ref r_mixed, .ref r_chooser, .ref r_own, .ref r_ownCounter, .ref r_tag, .ref r_sum, .ref r_use, .ref r_weight, .ref r_loopTag, .ref r_length, .ref r_count, .ref r_trust, .int mwt, .ref r_waitPlace, .ref r_waitHistory, .ref r_waitSaid, .int mmk, .ref r_mark])), (r_plain, .inl (cA.1, 1024, .inl g_plain)), (r_loopTag, .inl (cA.1, 1024, .inl g_loopTag)), (r_length, .inl (cA.1, 1024, .inl g_length)), (r_count, .inl (cA.1, 1024, .inl g_count)), (r_trust, .inl (cA.1, 1024, .inl g_trust))] s.heap.size = A at hD ⊢
  have hA : ∀ q : Nat, s.heap.size ≤ q → A q := fun q h => by rw [← hAe]; exact Or.inr h
  have hS : va_S A s.heap s.heap [] := va_S.rf
  have hP : va_P (dC, dI) vwCl [(o0, .inr (11, [.int mt, .int mkd, .int mbt, .int mrw, .int mhs, .int mco, .int (bI mey), .int mu1, .int mu2, .int mu3, .int mu4, .ref r_lastBit, .ref r_plain, .ref r_mixed, .ref r_chooser, .ref r_own, .ref r_ownCounter, .ref r_tag, .ref r_sum, .ref r_use, .ref r_weight, .ref r_loopTag, .ref r_length, .ref r_count, .ref r_trust, .int mwt, .ref r_waitPlace, .ref r_waitHistory, .ref r_waitSaid, .int mmk, .ref r_mark])), (r_plain, .inl (cA.1, 1024, .inl g_plain)), (r_loopTag, .inl (cA.1, 1024, .inl g_loopTag)), (r_length, .inl (cA.1, 1024, .inl g_length)), (r_count, .inl (cA.1, 1024, .inl g_count)), (r_trust, .inl (cA.1, 1024, .inl g_trust))] s.heap := hP
  have blk172 : ∀ (rs0 : (Nat → Int32)) (rs1 : (Nat → Int32)) (rs2 : (Nat → Int32)) (rs3 : (Nat → Int32)) (rs4 : (Nat → Int32)) (s0_b172 : Int32) (H : Heap) (locs : List Loc) (ls : Array Slot), of_Md_learnLoop_b172 mbt mrw g_plain g_loopTag g_length g_count g_trust pl tk s0_b172 = some (rs0, rs1, rs2, rs3, rs4) → va_P (dC, dI) vwCl [(o0, .inr (11, [.int mt, .int mkd, .int mbt, .int mrw, .int mhs, .int mco, .int (bI mey), .int mu1, .int mu2, .int mu3, .int mu4, .ref r_lastBit, .ref r_plain, .ref r_mixed, .ref r_chooser, .ref r_own, .ref r_ownCounter, .ref r_tag, .ref r_sum, .ref r_use, .ref r_weight, .ref r_loopTag, .ref r_length, .ref r_count, .ref r_trust, .int mwt, .ref r_waitPlace, .ref r_waitHistory, .ref r_waitSaid, .int mmk, .ref r_mark])), (r_plain, .inl (cA.1, 1024, .inl (upd g_plain (tf_Md_plainRow mbt mrw pl).toNatClampNeg (tf_Md_step (g_plain (tf_Md_plainRow mbt mrw pl).toNatClampNeg) tk)))), (r_loopTag, .inl (cA.1, 1024, .inl g_loopTag)), (r_length, .inl (cA.1, 1024, .inl g_length)), (r_count, .inl (cA.1, 1024, .inl g_count)), (r_trust, .inl (cA.1, 1024, .inl g_trust))] H → va_D A [(o0, .inr (11, [.int mt, .int mkd, .int mbt, .int mrw, .int mhs, .int mco, .int (bI mey), .int mu1, .int mu2, .int mu3, .int mu4, .ref r_lastBit, .ref r_plain, .ref r_mixed, .ref r_chooser, .ref r_own, .ref r_ownCounter, .ref r_tag, .ref r_sum, .ref r_use, .ref r_weight, .ref r_loopTag, .ref r_length, .ref r_count, .ref r_trust, .int mwt, .ref r_waitPlace, .ref r_waitHistory, .ref r_waitSaid, .int mmk, .ref r_mark])), (r_plain, .inl (cA.1, 1024, .inl (upd g_plain (tf_Md_plainRow mbt mrw pl).toNatClampNeg (tf_Md_step (g_plain (tf_Md_plainRow mbt mrw pl).toNatClampNeg) tk)))), (r_loopTag, .inl (cA.1, 1024, .inl g_loopTag)), (r_length, .inl (cA.1, 1024, .inl g_length)), (r_count, .inl (cA.1, 1024, .inl g_count)), (r_trust, .inl (cA.1, 1024, .inl g_trust))] → va_S A s.heap H locs → lv_has ls 6 [(0, .ref o0), (3, .int (tf_Md_plainRow mbt mrw pl))] → W p l e (headSpec wMd_learnLoop ({ frames := 3, cells := 0, slots := 0, locals := 63 })).room s m ([.ref o0, .int pl, .int (bI tk)] : List Value).toArray below meth c H locs 0 0 (MQ below (va_Qv (fun w9 => w9 = [(o0, .inr (11, [.int mt, .int mkd, .int mbt, .int mrw, .int mhs, .int mco, .int (bI mey), .int mu1, .int mu2, .int mu3, .int mu4, .ref r_lastBit, .ref r_plain, .ref r_mixed, .ref r_chooser, .ref r_own, .ref r_ownCounter, .ref r_tag, .ref r_sum, .ref r_use, .ref r_weight, .ref r_loopTag, .ref r_length, .ref r_count, .ref r_trust, .int mwt, .ref r_waitPlace, .ref r_waitHistory, .ref r_waitSaid, .int mmk, .ref r_mark])), (r_plain, .inl (cA.1, 1024, .inl rs0)), (r_loopTag, .inl (cA.1, 1024, .inl rs1)), (r_length, .inl (cA.1, 1024, .inl rs2)), (r_count, .inl (cA.1, 1024, .inl rs3)), (r_trust, .inl (cA.1, 1024, .inl rs4))]) (At (dC, dI) cA A) A) ([.ref o0, .int pl, .int (bI tk)] : List Value).toArray s 0 0 A) (F0 m 172 ls [.int s0_b172, .int (tf_Md_plainRow mbt mrw pl), .ref r_trust]) := by
    intro rs0 rs1 rs2 rs3 rs4 s0_b172 H locs ls hfn hP hD hS hl
    unfold of_Md_learnLoop_b172 at hfn
    obtain ⟨g_25, hfn⟩ := og hfn
    refine va_iast hx hb hK hP hD hS 5 0 rfl rfl g_25 dMd_learnLoop_172 (fun H locs hP hD hS => ?_)
    have hP : va_P (dC, dI) vwCl [(o0, .inr (11, [.int mt, .int mkd, .int mbt, .int mrw, .int mhs, .int mco, .int (bI mey), .int mu1, .int mu2, .int mu3, .int mu4, .ref r_lastBit, .ref r_plain, .ref r_mixed, .ref r_chooser, .ref r_own, .ref r_ownCounter, .ref r_tag, .ref r_sum, .ref r_use, .ref r_weight, .ref r_loopTag, .ref r_length, .ref r_count, .ref r_trust, .int mwt, .ref r_waitPlace, .ref r_waitHistory, .ref r_waitSaid, .int mmk, .ref r_mark])), (r_plain, .inl (cA.1, 1024, .inl (upd g_plain (tf_Md_plainRow mbt mrw pl).toNatClampNeg (tf_Md_step (g_plain (tf_Md_plainRow mbt mrw pl).toNatClampNeg) tk)))), (r_loopTag, .inl (cA.1, 1024, .inl g_loopTag)), (r_length, .inl (cA.1, 1024, .inl g_length)), (r_count, .inl (cA.1, 1024, .inl g_count)), (r_trust, .inl (cA.1, 1024, .inl (upd g_trust (tf_Md_plainRow mbt mrw pl).toNatClampNeg s0_b172)))] H := hP
    have hD : va_D A [(o0, .inr (11, [.int mt, .int mkd, .int mbt, .int mrw, .int mhs, .int mco, .int (bI mey), .int mu1, .int mu2, .int mu3, .int mu4, .ref r_lastBit, .ref r_plain, .ref r_mixed, .ref r_chooser, .ref r_own, .ref r_ownCounter, .ref r_tag, .ref r_sum, .ref r_use, .ref r_weight, .ref r_loopTag, .ref r_length, .ref r_count, .ref r_trust, .int mwt, .ref r_waitPlace, .ref r_waitHistory, .ref r_waitSaid, .int mmk, .ref r_mark])), (r_plain, .inl (cA.1, 1024, .inl (upd g_plain (tf_Md_plainRow mbt mrw pl).toNatClampNeg (tf_Md_step (g_plain (tf_Md_plainRow mbt mrw pl).toNatClampNeg) tk)))), (r_loopTag, .inl (cA.1, 1024, .inl g_loopTag)), (r_length, .inl (cA.1, 1024, .inl g_length)), (r_count, .inl (cA.1, 1024, .inl g_count)), (r_trust, .inl (cA.1, 1024, .inl (upd g_trust (tf_Md_plainRow mbt mrw pl).toNatClampNeg s0_b172)))] := hD
    refine lv_aload_n hx hb dMd_learnLoop_173 rfl (lv_at hl 0 rfl) ?_
    refine va_get (D := (dC, dI)) (ci := 11) (v := .ref r_length) (C := R_Md) (T := T_Md) (N := 31) hx hb htg in_Md hown hK hP 0 rfl rfl 22 (by decide) (htg _ wd_817) (fun _ h9 => h9) rfl dMd_learnLoop_174 ?_
    refine lv_iload_n hx hb dMd_learnLoop_177 rfl (lv_at hl 1 rfl) ?_
    refine lv_aload_n hx hb dMd_learnLoop_178 rfl (lv_at hl 0 rfl) ?_
    refine va_get (D := (dC, dI)) (ci := 11) (v := .ref r_count) (C := R_Md) (T := T_Md) (N := 31) hx hb htg in_Md hown hK hP 0 rfl rfl 23 (by decide) (htg _ wd_818) (fun _ h9 => h9) rfl dMd_learnLoop_179 ?_
    refine lv_iload_n hx hb dMd_learnLoop_182 rfl (lv_at hl 1 rfl) ?_
    obtain ⟨g_26, hfn⟩ := og hfn
    refine va_iald hx hb hK hP 4 0 rfl rfl g_26 dMd_learnLoop_183 ?_
    obtain ⟨g_27, hfn⟩ := og hfn
    refine va_iast hx hb hK hP hD hS 3 0 rfl rfl g_27 dMd_learnLoop_184 (fun H locs hP hD hS => ?_)
    have hP : va_P (dC, dI) vwCl [(o0, .inr (11, [.int mt, .int mkd, .int mbt, .int mrw, .int mhs, .int mco, .int (bI mey), .int mu1, .int mu2, .int mu3, .int mu4, .ref r_lastBit, .ref r_plain, .ref r_mixed, .ref r_chooser, .ref r_own, .ref r_ownCounter, .ref r_tag, .ref r_sum, .ref r_use, .ref r_weight, .ref r_loopTag, .ref r_length, .ref r_count, .ref r_trust, .int mwt, .ref r_waitPlace, .ref r_waitHistory, .ref r_waitSaid, .int mmk, .ref r_mark])), (r_plain, .inl (cA.1, 1024, .inl (upd g_plain (tf_Md_plainRow mbt mrw pl).toNatClampNeg (tf_Md_step (g_plain (tf_Md_plainRow mbt mrw pl).toNatClampNeg) tk)))), (r_loopTag, .inl (cA.1, 1024, .inl g_loopTag)), (r_length, .inl (cA.1, 1024, .inl (upd g_length (tf_Md_plainRow mbt mrw pl).toNatClampNeg (g_count (tf_Md_plainRow mbt mrw pl).toNatClampNeg)))), (r_count, .inl (cA.1, 1024, .inl g_count)), (r_trust, .inl (cA.1, 1024, .inl (upd g_trust (tf_Md_plainRow mbt mrw pl).toNatClampNeg s0_b172)))] H := hP
    have hD : va_D A [(o0, .inr (11, [.int mt, .int mkd, .int mbt, .int mrw, .int mhs, .int mco, .int (bI mey), .int mu1, .int mu2, .int mu3, .int mu4, .ref r_lastBit, .ref r_plain, .ref r_mixed, .ref r_chooser, .ref r_own, .ref r_ownCounter, .ref r_tag, .ref r_sum, .ref r_use, .ref r_weight, .ref r_loopTag, .ref r_length, .ref r_count, .ref r_trust, .int mwt, .ref r_waitPlace, .ref r_waitHistory, .ref r_waitSaid, .int mmk, .ref r_mark])), (r_plain, .inl (cA.1, 1024, .inl (upd g_plain (tf_Md_plainRow mbt mrw pl).toNatClampNeg (tf_Md_step (g_plain (tf_Md_plainRow mbt mrw pl).toNatClampNeg) tk)))), (r_loopTag, .inl (cA.1, 1024, .inl g_loopTag)), (r_length, .inl (cA.1, 1024, .inl (upd g_length (tf_Md_plainRow mbt mrw pl).toNatClampNeg (g_count (tf_Md_plainRow mbt mrw pl).toNatClampNeg)))), (r_count, .inl (cA.1, 1024, .inl g_count)), (r_trust, .inl (cA.1, 1024, .inl (upd g_trust (tf_Md_plainRow mbt mrw pl).toNatClampNeg s0_b172)))] := hD
    refine lv_aload_n hx hb dMd_learnLoop_185 rfl (lv_at hl 0 rfl) ?_
    refine va_get (D := (dC, dI)) (ci := 11) (v := .ref r_count) (C := R_Md) (T := T_Md) (N := 31) hx hb htg in_Md hown hK hP 0 rfl rfl 23 (by decide) (htg _ wd_818) (fun _ h9 => h9) rfl dMd_learnLoop_186 ?_
    refine lv_iload_n hx hb dMd_learnLoop_189 rfl (lv_at hl 1 rfl) ?_
    refine lv_iconst (v := 0) hx hb dMd_learnLoop_190 (by decide) ?_
    obtain ⟨g_28, hfn⟩ := og hfn
    refine va_iast hx hb hK hP hD hS 4 0 rfl rfl g_28 dMd_learnLoop_191 (fun H locs hP hD hS => ?_)
    have hP : va_P (dC, dI) vwCl [(o0, .inr (11, [.int mt, .int mkd, .int mbt, .int mrw, .int mhs, .int mco, .int (bI mey), .int mu1, .int mu2, .int mu3, .int mu4, .ref r_lastBit, .ref r_plain, .ref r_mixed, .ref r_chooser, .ref r_own, .ref r_ownCounter, .ref r_tag, .ref r_sum, .ref r_use, .ref r_weight, .ref r_loopTag, .ref r_length, .ref r_count, .ref r_trust, .int mwt, .ref r_waitPlace, .ref r_waitHistory, .ref r_waitSaid, .int mmk, .ref r_mark])), (r_plain, .inl (cA.1, 1024, .inl (upd g_plain (tf_Md_plainRow mbt mrw pl).toNatClampNeg (tf_Md_step (g_plain (tf_Md_plainRow mbt mrw pl).toNatClampNeg) tk)))), (r_loopTag, .inl (cA.1, 1024, .inl g_loopTag)), (r_length, .inl (cA.1, 1024, .inl (upd g_length (tf_Md_plainRow mbt mrw pl).toNatClampNeg (g_count (tf_Md_plainRow mbt mrw pl).toNatClampNeg)))), (r_count, .inl (cA.1, 1024, .inl (upd g_count (tf_Md_plainRow mbt mrw pl).toNatClampNeg 0))), (r_trust, .inl (cA.1, 1024, .inl (upd g_trust (tf_Md_plainRow mbt mrw pl).toNatClampNeg s0_b172)))] H := hP
    have hD : va_D A [(o0, .inr (11, [.int mt, .int mkd, .int mbt, .int mrw, .int mhs, .int mco, .int (bI mey), .int mu1, .int mu2, .int mu3, .int mu4, .ref r_lastBit, .ref r_plain, .ref r_mixed, .ref r_chooser, .ref r_own, .ref r_ownCounter, .ref r_tag, .ref r_sum, .ref r_use, .ref r_weight, .ref r_loopTag, .ref r_length, .ref r_count, .ref r_trust, .int mwt, .ref r_waitPlace, .ref r_waitHistory, .ref r_waitSaid, .int mmk, .ref r_mark])), (r_plain, .inl (cA.1, 1024, .inl (upd g_plain (tf_Md_plainRow mbt mrw pl).toNatClampNeg (tf_Md_step (g_plain (tf_Md_plainRow mbt mrw pl).toNatClampNeg) tk)))), (r_loopTag, .inl (cA.1, 1024, .inl g_loopTag)), (r_length, .inl (cA.1, 1024, .inl (upd g_length (tf_Md_plainRow mbt mrw pl).toNatClampNeg (g_count (tf_Md_plainRow mbt mrw pl).toNatClampNeg)))), (r_count, .inl (cA.1, 1024, .inl (upd g_count (tf_Md_plainRow mbt mrw pl).toNatClampNeg 0))), (r_trust, .inl (cA.1, 1024, .inl (upd g_trust (tf_Md_plainRow mbt mrw pl).toNatClampNeg s0_b172)))] := hD
    replace hfn := Option.some.inj hfn
    obtain ⟨e9, hf_0⟩ := Prod.mk.inj hfn; clear hfn; subst e9
    obtain ⟨e9, hf_1⟩ := Prod.mk.inj hf_0; clear hf_0; subst e9
    obtain ⟨e9, hf_2⟩ := Prod.mk.inj hf_1; clear hf_1; subst e9
    obtain ⟨e9, hf_3⟩ := Prod.mk.inj hf_2; clear hf_2; subst e9
    subst hf_3
    exact W.vret hx hb hr (fun t ht hW => ⟨⟨_, rfl, rfl, ⟨by rw [ht]; exact hP.sub [0, 1, 2, 3, 4, 5] rfl, va_K.moved hW.alike hK, hD.sub [0, 1, 2, 3, 4, 5] (by decide) rfl⟩⟩, hS.F ht⟩) hS.2.2 dMd_learnLoop_192
  have blk146 : ∀ (rs0 : (Nat → Int32)) (rs1 : (Nat → Int32)) (rs2 : (Nat → Int32)) (rs3 : (Nat → Int32)) (rs4 : (Nat → Int32)) (s0_b146 : Bool) (H : Heap) (locs : List Loc) (ls : Array Slot), of_Md_learnLoop_b146 mbt mrw g_plain g_loopTag g_length g_count g_trust pl tk s0_b146 = some (rs0, rs1, rs2, rs3, rs4) → va_P (dC, dI) vwCl [(o0, .inr (11, [.int mt, .int mkd, .int mbt, .int mrw, .int mhs, .int mco, .int (bI mey), .int mu1, .int mu2, .int mu3, .int mu4, .ref r_lastBit, .ref r_plain, .ref r_mixed, .ref r_chooser, .ref r_own, .ref r_ownCounter, .ref r_tag, .ref r_sum, .ref r_use, .ref r_weight, .ref r_loopTag, .ref r_length, .ref r_count, .ref r_trust, .int mwt, .ref r_waitPlace, .ref r_waitHistory, .ref r_waitSaid, .int mmk, .ref r_mark])), (r_plain, .inl (cA.1, 1024, .inl (upd g_plain (tf_Md_plainRow mbt mrw pl).toNatClampNeg (tf_Md_step (g_plain (tf_Md_plainRow mbt mrw pl).toNatClampNeg) tk)))), (r_loopTag, .inl (cA.1, 1024, .inl g_loopTag)), (r_length, .inl (cA.1, 1024, .inl g_length)), (r_count, .inl (cA.1, 1024, .inl g_count)), (r_trust, .inl (cA.1, 1024, .inl g_trust))] H → va_D A [(o0, .inr (11, [.int mt, .int mkd, .int mbt, .int mrw, .int mhs, .int mco, .int (bI mey), .int mu1, .int mu2, .int mu3, .int mu4, .ref r_lastBit, .ref r_plain, .ref r_mixed, .ref r_chooser, .ref r_own, .ref r_ownCounter, .ref r_tag, .ref r_sum, .ref r_use, .ref r_weight, .ref r_loopTag, .ref r_length, .ref r_count, .ref r_trust, .int mwt, .ref r_waitPlace, .ref r_waitHistory, .ref r_waitSaid, .int mmk, .ref r_mark])), (r_plain, .inl (cA.1, 1024, .inl (upd g_plain (tf_Md_plainRow mbt mrw pl).toNatClampNeg (tf_Md_step (g_plain (tf_Md_plainRow mbt mrw pl).toNatClampNeg) tk)))), (r_loopTag, .inl (cA.1, 1024, .inl g_loopTag)), (r_length, .inl (cA.1, 1024, .inl g_length)), (r_count, .inl (cA.1, 1024, .inl g_count)), (r_trust, .inl (cA.1, 1024, .inl g_trust))] → va_S A s.heap H locs → lv_has ls 6 [(0, .ref o0), (3, .int (tf_Md_plainRow mbt mrw pl))] → W p l e (headSpec wMd_learnLoop ({ frames := 3, cells := 0, slots := 0, locals := 63 })).room s m ([.ref o0, .int pl, .int (bI tk)] : List Value).toArray below meth c H locs 0 0 (MQ below (va_Qv (fun w9 => w9 = [(o0, .inr (11, [.int mt, .int mkd, .int mbt, .int mrw, .int mhs, .int mco, .int (bI mey), .int mu1, .int mu2, .int mu3, .int mu4, .ref r_lastBit, .ref r_plain, .ref r_mixed, .ref r_chooser, .ref r_own, .ref r_ownCounter, .ref r_tag, .ref r_sum, .ref r_use, .ref r_weight, .ref r_loopTag, .ref r_length, .ref r_count, .ref r_trust, .int mwt, .ref r_waitPlace, .ref r_waitHistory, .ref r_waitSaid, .int mmk, .ref r_mark])), (r_plain, .inl (cA.1, 1024, .inl rs0)), (r_loopTag, .inl (cA.1, 1024, .inl rs1)), (r_length, .inl (cA.1, 1024, .inl rs2)), (r_count, .inl (cA.1, 1024, .inl rs3)), (r_trust, .inl (cA.1, 1024, .inl rs4))]) (At (dC, dI) cA A) A) ([.ref o0, .int pl, .int (bI tk)] : List Value).toArray s 0 0 A) (F0 m 146 ls [.int (bI s0_b146)]) := by
    intro rs0 rs1 rs2 rs3 rs4 s0_b146 H locs ls hfn hP hD hS hl
    unfold of_Md_learnLoop_b146 at hfn
    refine lv_istore (lv' := [(5, .int (bI s0_b146)), (0, .ref o0), (3, .int (tf_Md_plainRow mbt mrw pl))]) hx hb dMd_learnLoop_146 hl (by decide) rfl (fun ls hl => ?_)
    refine lv_aload_n hx hb dMd_learnLoop_148 rfl (lv_at hl 1 rfl) ?_
    refine va_get (D := (dC, dI)) (ci := 11) (v := .ref r_trust) (C := R_Md) (T := T_Md) (N := 31) hx hb htg in_Md hown hK hP 0 rfl rfl 24 (by decide) (htg _ wd_819) (fun _ h9 => h9) rfl dMd_learnLoop_149 ?_
    refine lv_iload_n hx hb dMd_learnLoop_152 rfl (lv_at hl 2 rfl) ?_
    refine lv_iload hx hb dMd_learnLoop_153 (lv_at hl 0 rfl) ?_
    refine lv_if_eq (tgt := 171) hx hb dMd_learnLoop_155 (by decide) (fun c_23 => ?_) (fun c_23 => ?_)
    · rw [if_pos c_23] at hfn
      refine lv_iconst (v := 0) hx hb dMd_learnLoop_171 (by decide) ?_
      exact blk172 _ _ _ _ _ 0 _ _ ls hfn (hP.sub [0, 1, 2, 3, 4, 5] rfl) (hD.sub [0, 1, 2, 3, 4, 5] (by decide) rfl) hS (lv_sub hl [1, 2] rfl)
    · rw [if_neg c_23] at hfn
      refine lv_aload_n hx hb dMd_learnLoop_158 rfl (lv_at hl 1 rfl) ?_
      refine va_get (D := (dC, dI)) (ci := 11) (v := .ref r_trust) (C := R_Md) (T := T_Md) (N := 31) hx hb htg in_Md hown hK hP 0 rfl rfl 24 (by decide) (htg _ wd_819) (fun _ h9 => h9) rfl dMd_learnLoop_159 ?_
      refine lv_iload_n hx hb dMd_learnLoop_162 rfl (lv_at hl 2 rfl) ?_
      obtain ⟨g_24, hfn⟩ := og hfn
      refine va_iald hx hb hK hP 5 0 rfl rfl g_24 dMd_learnLoop_163 ?_
      refine lv_iconst (v := 1) hx hb dMd_learnLoop_164 (by decide) ?_
      refine rd_S (As := [.int (g_trust (tf_Md_plainRow mbt mrw pl).toNatClampNeg), .int 1]) (rest := [.int (tf_Md_plainRow mbt mrw pl), .ref r_trust]) ⟨hx, hb, hml, hown, htg⟩ (c_Md_step l dC dI cA (g_trust (tf_Md_plainRow mbt mrw pl).toNatClampNeg) true) (cw_S htg wd_962 qMd_step iMd_step kMd_step pMd_step rfl rfl ⟨Nat.le_of_ble_eq_true rfl, Nat.le_of_ble_eq_true rfl⟩) hN (hP.sub [] rfl) hK rfl hl.1 rfl (Nat.le_of_ble_eq_true rfl) dMd_learnLoop_165 ⟨Nat.le_of_ble_eq_true rfl, Nat.le_of_ble_eq_true rfl⟩ ?_
      refine lv_goto (tgt := 172) hx hb dMd_learnLoop_168 (by decide) ?_
      exact blk172 _ _ _ _ _ (tf_Md_step (g_trust (tf_Md_plainRow mbt mrw pl).toNatClampNeg) true) _ _ ls hfn (hP.sub [0, 1, 2, 3, 4, 5] rfl) (hD.sub [0, 1, 2, 3, 4, 5] (by decide) rfl) hS (lv_sub hl [1, 2] rfl)
  have blk118 : ∀ (rs0 : (Nat → Int32)) (rs1 : (Nat → Int32)) (rs2 : (Nat → Int32)) (rs3 : (Nat → Int32)) (rs4 : (Nat → Int32)) (H : Heap) (locs : List Loc) (ls : Array Slot), of_Md_learnLoop_b118 mbt mrw g_plain g_loopTag g_length g_count g_trust pl tk = some (rs0, rs1, rs2, rs3, rs4) → va_P (dC, dI) vwCl [(o0, .inr (11, [.int mt, .int mkd, .int mbt, .int mrw, .int mhs, .int mco, .int (bI mey), .int mu1, .int mu2, .int mu3, .int mu4, .ref r_lastBit, .ref r_plain, .ref r_mixed, .ref r_chooser, .ref r_own, .ref r_ownCounter, .ref r_tag, .ref r_sum, .ref r_use, .ref r_weight, .ref r_loopTag, .ref r_length, .ref r_count, .ref r_trust, .int mwt, .ref r_waitPlace, .ref r_waitHistory, .ref r_waitSaid, .int mmk, .ref r_mark])), (r_plain, .inl (cA.1, 1024, .inl (upd g_plain (tf_Md_plainRow mbt mrw pl).toNatClampNeg (tf_Md_step (g_plain (tf_Md_plainRow mbt mrw pl).toNatClampNeg) tk)))), (r_loopTag, .inl (cA.1, 1024, .inl g_loopTag)), (r_length, .inl (cA.1, 1024, .inl g_length)), (r_count, .inl (cA.1, 1024, .inl (upd g_count (tf_Md_plainRow mbt mrw pl).toNatClampNeg ((g_count (tf_Md_plainRow mbt mrw pl).toNatClampNeg) + 1)))), (r_trust, .inl (cA.1, 1024, .inl g_trust))] H → va_D A [(o0, .inr (11, [.int mt, .int mkd, .int mbt, .int mrw, .int mhs, .int mco, .int (bI mey), .int mu1, .int mu2, .int mu3, .int mu4, .ref r_lastBit, .ref r_plain, .ref r_mixed, .ref r_chooser, .ref r_own, .ref r_ownCounter, .ref r_tag, .ref r_sum, .ref r_use, .ref r_weight, .ref r_loopTag, .ref r_length, .ref r_count, .ref r_trust, .int mwt, .ref r_waitPlace, .ref r_waitHistory, .ref r_waitSaid, .int mmk, .ref r_mark])), (r_plain, .inl (cA.1, 1024, .inl (upd g_plain (tf_Md_plainRow mbt mrw pl).toNatClampNeg (tf_Md_step (g_plain (tf_Md_plainRow mbt mrw pl).toNatClampNeg) tk)))), (r_loopTag, .inl (cA.1, 1024, .inl g_loopTag)), (r_length, .inl (cA.1, 1024, .inl g_length)), (r_count, .inl (cA.1, 1024, .inl (upd g_count (tf_Md_plainRow mbt mrw pl).toNatClampNeg ((g_count (tf_Md_plainRow mbt mrw pl).toNatClampNeg) + 1)))), (r_trust, .inl (cA.1, 1024, .inl g_trust))] → va_S A s.heap H locs → lv_has ls 6 [(0, .ref o0), (3, .int (tf_Md_plainRow mbt mrw pl))] → W p l e (headSpec wMd_learnLoop ({ frames := 3, cells := 0, slots := 0, locals := 63 })).room s m ([.ref o0, .int pl, .int (bI tk)] : List Value).toArray below meth c H locs 0 0 (MQ below (va_Qv (fun w9 => w9 = [(o0, .inr (11, [.int mt, .int mkd, .int mbt, .int mrw, .int mhs, .int mco, .int (bI mey), .int mu1, .int mu2, .int mu3, .int mu4, .ref r_lastBit, .ref r_plain, .ref r_mixed, .ref r_chooser, .ref r_own, .ref r_ownCounter, .ref r_tag, .ref r_sum, .ref r_use, .ref r_weight, .ref r_loopTag, .ref r_length, .ref r_count, .ref r_trust, .int mwt, .ref r_waitPlace, .ref r_waitHistory, .ref r_waitSaid, .int mmk, .ref r_mark])), (r_plain, .inl (cA.1, 1024, .inl rs0)), (r_loopTag, .inl (cA.1, 1024, .inl rs1)), (r_length, .inl (cA.1, 1024, .inl rs2)), (r_count, .inl (cA.1, 1024, .inl rs3)), (r_trust, .inl (cA.1, 1024, .inl rs4))]) (At (dC, dI) cA A) A) ([.ref o0, .int pl, .int (bI tk)] : List Value).toArray s 0 0 A) (F0 m 118 ls []) := by
    intro rs0 rs1 rs2 rs3 rs4 H locs ls hfn hP hD hS hl
    unfold of_Md_learnLoop_b118 at hfn
    refine lv_aload_n hx hb dMd_learnLoop_118 rfl (lv_at hl 0 rfl) ?_
    refine lv_iload_n hx hb dMd_learnLoop_119 rfl (lv_at hl 1 rfl) ?_
    obtain ⟨⟨z_22_0, z_22_1, z_22_2⟩, hz_22, hfn⟩ := ob hfn
    dsimp only at hfn
    refine wr_Vv (wr := [(r_plain, .inl (cA.1, 1024, .inl (upd g_plain (tf_Md_plainRow mbt mrw pl).toNatClampNeg (tf_Md_step (g_plain (tf_Md_plainRow mbt mrw pl).toNatClampNeg) tk)))), (r_loopTag, .inl (cA.1, 1024, .inl g_loopTag))]) (As := [.int (tf_Md_plainRow mbt mrw pl)]) (rest := []) ⟨hx, hb, hml, hown, htg⟩ (c_Md_clearLoop l dC dI cA _ o0 r_length r_count r_trust r_lastBit r_plain r_mixed r_chooser r_own r_ownCounter r_tag r_sum r_use r_weight r_loopTag r_waitPlace r_waitHistory r_waitSaid r_mark mt mkd mbt mrw mhs mco mey mu1 mu2 mu3 mu4 mwt mmk g_length (upd g_count (tf_Md_plainRow mbt mrw pl).toNatClampNeg ((g_count (tf_Md_plainRow mbt mrw pl).toNatClampNeg) + 1)) g_trust (tf_Md_plainRow mbt mrw pl) z_22_0 z_22_1 z_22_2 hz_22) (cw_V htg wd_985 ws_35 qMd_clearLoop iMd_clearLoop kMd_clearLoop pMd_clearLoop rfl rfl ⟨Nat.le_of_ble_eq_true rfl, Nat.le_of_ble_eq_true rfl⟩) (va_recv hK hP (ci := 11) (q0 := 0) rfl rfl) hN hP hD hS hA hK [0, 3, 4, 5] [1, 2] rfl rfl (by decide) (by decide) (by decide) rfl hl.1 rfl (Nat.le_of_ble_eq_true rfl) dMd_learnLoop_120 ⟨Nat.le_of_ble_eq_true rfl, Nat.le_of_ble_eq_true rfl⟩ (fun H locs hP hD hS => ?_)
    have hP : va_P (dC, dI) vwCl [(r_plain, .inl (cA.1, 1024, .inl (upd g_plain (tf_Md_plainRow mbt mrw pl).toNatClampNeg (tf_Md_step (g_plain (tf_Md_plainRow mbt mrw pl).toNatClampNeg) tk)))), (r_loopTag, .inl (cA.1, 1024, .inl g_loopTag)), (o0, .inr (11, [.int mt, .int mkd, .int mbt, .int mrw, .int mhs, .int mco, .int (bI mey), .int mu1, .int mu2, .int mu3, .int mu4, .ref r_lastBit, .ref r_plain, .ref r_mixed, .ref r_chooser, .ref r_own, .ref r_ownCounter, .ref r_tag, .ref r_sum, .ref r_use, .ref r_weight, .ref r_loopTag, .ref r_length, .ref r_count, .ref r_trust, .int mwt, .ref r_waitPlace, .ref r_waitHistory, .ref r_waitSaid, .int mmk, .ref r_mark])), (r_length, .inl (cA.1, 1024, .inl z_22_0)), (r_count, .inl (cA.1, 1024, .inl z_22_1)), (r_trust, .inl (cA.1, 1024, .inl z_22_2))] H := hP
    have hD : va_D A [(r_plain, .inl (cA.1, 1024, .inl (upd g_plain (tf_Md_plainRow mbt mrw pl).toNatClampNeg (tf_Md_step (g_plain (tf_Md_plainRow mbt mrw pl).toNatClampNeg) tk)))), (r_loopTag, .inl (cA.1, 1024, .inl g_loopTag)), (o0, .inr (11, [.int mt, .int mkd, .int mbt, .int mrw, .int mhs, .int mco, .int (bI mey), .int mu1, .int mu2, .int mu3, .int mu4, .ref r_lastBit, .ref r_plain, .ref r_mixed, .ref r_chooser, .ref r_own, .ref r_ownCounter, .ref r_tag, .ref r_sum, .ref r_use, .ref r_weight, .ref r_loopTag, .ref r_length, .ref r_count, .ref r_trust, .int mwt, .ref r_waitPlace, .ref r_waitHistory, .ref r_waitSaid, .int mmk, .ref r_mark])), (r_length, .inl (cA.1, 1024, .inl z_22_0)), (r_count, .inl (cA.1, 1024, .inl z_22_1)), (r_trust, .inl (cA.1, 1024, .inl z_22_2))] := hD
    refine lv_goto (tgt := 192) hx hb dMd_learnLoop_123 (by decide) ?_
    replace hfn := Option.some.inj hfn
    obtain ⟨e9, hf_0⟩ := Prod.mk.inj hfn; clear hfn; subst e9
    obtain ⟨e9, hf_1⟩ := Prod.mk.inj hf_0; clear hf_0; subst e9
    obtain ⟨e9, hf_2⟩ := Prod.mk.inj hf_1; clear hf_1; subst e9
    obtain ⟨e9, hf_3⟩ := Prod.mk.inj hf_2; clear hf_2; subst e9
    subst hf_3
    exact W.vret hx hb hr (fun t ht hW => ⟨⟨_, rfl, rfl, ⟨by rw [ht]; exact hP.sub [2, 0, 1, 3, 4, 5] rfl, va_K.moved hW.alike hK, hD.sub [2, 0, 1, 3, 4, 5] (by decide) rfl⟩⟩, hS.F ht⟩) hS.2.2 dMd_learnLoop_192
  have blk39 : ∀ (rs0 : (Nat → Int32)) (rs1 : (Nat → Int32)) (rs2 : (Nat → Int32)) (rs3 : (Nat → Int32)) (rs4 : (Nat → Int32)) (v4_b39 : Bool) (H : Heap) (locs : List Loc) (ls : Array Slot), of_Md_learnLoop_b39 mbt mrw g_plain g_loopTag g_length g_count g_trust pl tk v4_b39 = some (rs0, rs1, rs2, rs3, rs4) → va_P (dC, dI) vwCl [(o0, .inr (11, [.int mt, .int mkd, .int mbt, .int mrw, .int mhs, .int mco, .int (bI mey), .int mu1, .int mu2, .int mu3, .int mu4, .ref r_lastBit, .ref r_plain, .ref r_mixed, .ref r_chooser, .ref r_own, .ref r_ownCounter, .ref r_tag, .ref r_sum, .ref r_use, .ref r_weight, .ref r_loopTag, .ref r_length, .ref r_count, .ref r_trust, .int mwt, .ref r_waitPlace, .ref r_waitHistory, .ref r_waitSaid, .int mmk, .ref r_mark])), (r_plain, .inl (cA.1, 1024, .inl (upd g_plain (tf_Md_plainRow mbt mrw pl).toNatClampNeg (tf_Md_step (g_plain (tf_Md_plainRow mbt mrw pl).toNatClampNeg) tk)))), (r_loopTag, .inl (cA.1, 1024, .inl g_loopTag)), (r_length, .inl (cA.1, 1024, .inl g_length)), (r_count, .inl (cA.1, 1024, .inl g_count)), (r_trust, .inl (cA.1, 1024, .inl g_trust))] H → va_D A [(o0, .inr (11, [.int mt, .int mkd, .int mbt, .int mrw, .int mhs, .int mco, .int (bI mey), .int mu1, .int mu2, .int mu3, .int mu4, .ref r_lastBit, .ref r_plain, .ref r_mixed, .ref r_chooser, .ref r_own, .ref r_ownCounter, .ref r_tag, .ref r_sum, .ref r_use, .ref r_weight, .ref r_loopTag, .ref r_length, .ref r_count, .ref r_trust, .int mwt, .ref r_waitPlace, .ref r_waitHistory, .ref r_waitSaid, .int mmk, .ref r_mark])), (r_plain, .inl (cA.1, 1024, .inl (upd g_plain (tf_Md_plainRow mbt mrw pl).toNatClampNeg (tf_Md_step (g_plain (tf_Md_plainRow mbt mrw pl).toNatClampNeg) tk)))), (r_loopTag, .inl (cA.1, 1024, .inl g_loopTag)), (r_length, .inl (cA.1, 1024, .inl g_length)), (r_count, .inl (cA.1, 1024, .inl g_count)), (r_trust, .inl (cA.1, 1024, .inl g_trust))] → va_S A s.heap H locs → lv_has ls 6 [(0, .ref o0), (1, .int pl), (2, .int (bI tk)), (3, .int (tf_Md_plainRow mbt mrw pl)), (4, .int (bI v4_b39))] → W p l e (headSpec wMd_learnLoop ({ frames := 3, cells := 0, slots := 0, locals := 63 })).room s m ([.ref o0, .int pl, .int (bI tk)] : List Value).toArray below meth c H locs 0 0 (MQ below (va_Qv (fun w9 => w9 = [(o0, .inr (11, [.int mt, .int mkd, .int mbt, .int mrw, .int mhs, .int mco, .int (bI mey), .int mu1, .int mu2, .int mu3, .int mu4, .ref r_lastBit, .ref r_plain, .ref r_mixed, .ref r_chooser, .ref r_own, .ref r_ownCounter, .ref r_tag, .ref r_sum, .ref r_use, .ref r_weight, .ref r_loopTag, .ref r_length, .ref r_count, .ref r_trust, .int mwt, .ref r_waitPlace, .ref r_waitHistory, .ref r_waitSaid, .int mmk, .ref r_mark])), (r_plain, .inl (cA.1, 1024, .inl rs0)), (r_loopTag, .inl (cA.1, 1024, .inl rs1)), (r_length, .inl (cA.1, 1024, .inl rs2)), (r_count, .inl (cA.1, 1024, .inl rs3)), (r_trust, .inl (cA.1, 1024, .inl rs4))]) (At (dC, dI) cA A) A) ([.ref o0, .int pl, .int (bI tk)] : List Value).toArray s 0 0 A) (F0 m 39 ls []) := by
    intro rs0 rs1 rs2 rs3 rs4 v4_b39 H locs ls hfn hP hD hS hl
    unfold of_Md_learnLoop_b39 at hfn
    refine lv_iload hx hb dMd_learnLoop_39 (lv_at hl 4 rfl) ?_
    refine lv_if_ne (tgt := 68) hx hb dMd_learnLoop_41 (by decide) (fun c_6 => ?_) (fun c_6 => ?_)
    · rw [if_neg c_6] at hfn
      refine lv_iload_n hx hb dMd_learnLoop_68 rfl (lv_at hl 2 rfl) ?_
      refine lv_if_eq (tgt := 126) hx hb dMd_learnLoop_69 (by decide) (fun c_7 => ?_) (fun c_7 => ?_)
      · rw [if_pos c_7] at hfn
        refine lv_aload_n hx hb dMd_learnLoop_126 rfl (lv_at hl 0 rfl) ?_
        refine va_get (D := (dC, dI)) (ci := 11) (v := .ref r_count) (C := R_Md) (T := T_Md) (N := 31) hx hb htg in_Md hown hK hP 0 rfl rfl 23 (by decide) (htg _ wd_818) (fun _ h9 => h9) rfl dMd_learnLoop_127 ?_
        refine lv_iload_n hx hb dMd_learnLoop_130 rfl (lv_at hl 3 rfl) ?_
        obtain ⟨g_8, hfn⟩ := og hfn
        refine va_iald hx hb hK hP 4 0 rfl rfl g_8 dMd_learnLoop_131 ?_
        refine lv_aload_n hx hb dMd_learnLoop_132 rfl (lv_at hl 0 rfl) ?_
        refine va_get (D := (dC, dI)) (ci := 11) (v := .ref r_length) (C := R_Md) (T := T_Md) (N := 31) hx hb htg in_Md hown hK hP 0 rfl rfl 22 (by decide) (htg _ wd_817) (fun _ h9 => h9) rfl dMd_learnLoop_133 ?_
        refine lv_iload_n hx hb dMd_learnLoop_136 rfl (lv_at hl 3 rfl) ?_
        obtain ⟨g_9, hfn⟩ := og hfn
        refine va_iald hx hb hK hP 3 0 rfl rfl g_9 dMd_learnLoop_137 ?_
        refine lv_icmp_ne (tgt := 145) hx hb dMd_learnLoop_138 (by decide) (fun c_10 => ?_) (fun c_10 => ?_)
        · rw [if_neg c_10] at hfn
          refine lv_iconst (v := 0) hx hb dMd_learnLoop_145 (by decide) ?_
          exact blk146 _ _ _ _ _ false _ _ ls hfn (hP.sub [0, 1, 2, 3, 4, 5] rfl) (hD.sub [0, 1, 2, 3, 4, 5] (by decide) rfl) hS (lv_sub hl [0, 3] rfl)
        · rw [if_pos c_10] at hfn
          refine lv_iconst (v := 1) hx hb dMd_learnLoop_141 (by decide) ?_
          refine lv_goto (tgt := 146) hx hb dMd_learnLoop_142 (by decide) ?_
          exact blk146 _ _ _ _ _ true _ _ ls hfn (hP.sub [0, 1, 2, 3, 4, 5] rfl) (hD.sub [0, 1, 2, 3, 4, 5] (by decide) rfl) hS (lv_sub hl [0, 3] rfl)
      · rw [if_neg c_7] at hfn
        refine lv_aload_n hx hb dMd_learnLoop_72 rfl (lv_at hl 0 rfl) ?_
        refine va_get (D := (dC, dI)) (ci := 11) (v := .ref r_count) (C := R_Md) (T := T_Md) (N := 31) hx hb htg in_Md hown hK hP 0 rfl rfl 23 (by decide) (htg _ wd_818) (fun _ h9 => h9) rfl dMd_learnLoop_73 ?_
        refine lv_iload_n hx hb dMd_learnLoop_76 rfl (lv_at hl 3 rfl) ?_
        refine lv_dup2_11 hx hb dMd_learnLoop_77 rfl rfl ?_
        obtain ⟨g_11, hfn⟩ := og hfn
        refine va_iald hx hb hK hP 4 0 rfl rfl g_11 dMd_learnLoop_78 ?_
        refine lv_iconst (v := 1) hx hb dMd_learnLoop_79 (by decide) ?_
        refine lv_iadd hx hb dMd_learnLoop_80 ?_
        obtain ⟨g_12, hfn⟩ := og hfn
        refine va_iast hx hb hK hP hD hS 4 0 rfl rfl g_12 dMd_learnLoop_81 (fun H locs hP hD hS => ?_)
        have hP : va_P (dC, dI) vwCl [(o0, .inr (11, [.int mt, .int mkd, .int mbt, .int mrw, .int mhs, .int mco, .int (bI mey), .int mu1, .int mu2, .int mu3, .int mu4, .ref r_lastBit, .ref r_plain, .ref r_mixed, .ref r_chooser, .ref r_own, .ref r_ownCounter, .ref r_tag, .ref r_sum, .ref r_use, .ref r_weight, .ref r_loopTag, .ref r_length, .ref r_count, .ref r_trust, .int mwt, .ref r_waitPlace, .ref r_waitHistory, .ref r_waitSaid, .int mmk, .ref r_mark])), (r_plain, .inl (cA.1, 1024, .inl (upd g_plain (tf_Md_plainRow mbt mrw pl).toNatClampNeg (tf_Md_step (g_plain (tf_Md_plainRow mbt mrw pl).toNatClampNeg) tk)))), (r_loopTag, .inl (cA.1, 1024, .inl g_loopTag)), (r_length, .inl (cA.1, 1024, .inl g_length)), (r_count, .inl (cA.1, 1024, .inl (upd g_count (tf_Md_plainRow mbt mrw pl).toNatClampNeg ((g_count (tf_Md_plainRow mbt mrw pl).toNatClampNeg) + 1)))), (r_trust, .inl (cA.1, 1024, .inl g_trust))] H := hP
        have hD : va_D A [(o0, .inr (11, [.int mt, .int mkd, .int mbt, .int mrw, .int mhs, .int mco, .int (bI mey), .int mu1, .int mu2, .int mu3, .int mu4, .ref r_lastBit, .ref r_plain, .ref r_mixed, .ref r_chooser, .ref r_own, .ref r_ownCounter, .ref r_tag, .ref r_sum, .ref r_use, .ref r_weight, .ref r_loopTag, .ref r_length, .ref r_count, .ref r_trust, .int mwt, .ref r_waitPlace, .ref r_waitHistory, .ref r_waitSaid, .int mmk, .ref r_mark])), (r_plain, .inl (cA.1, 1024, .inl (upd g_plain (tf_Md_plainRow mbt mrw pl).toNatClampNeg (tf_Md_step (g_plain (tf_Md_plainRow mbt mrw pl).toNatClampNeg) tk)))), (r_loopTag, .inl (cA.1, 1024, .inl g_loopTag)), (r_length, .inl (cA.1, 1024, .inl g_length)), (r_count, .inl (cA.1, 1024, .inl (upd g_count (tf_Md_plainRow mbt mrw pl).toNatClampNeg ((g_count (tf_Md_plainRow mbt mrw pl).toNatClampNeg) + 1)))), (r_trust, .inl (cA.1, 1024, .inl g_trust))] := hD
        refine lv_aload_n hx hb dMd_learnLoop_82 rfl (lv_at hl 0 rfl) ?_
        refine va_get (D := (dC, dI)) (ci := 11) (v := .ref r_count) (C := R_Md) (T := T_Md) (N := 31) hx hb htg in_Md hown hK hP 0 rfl rfl 23 (by decide) (htg _ wd_818) (fun _ h9 => h9) rfl dMd_learnLoop_83 ?_
        refine lv_iload_n hx hb dMd_learnLoop_86 rfl (lv_at hl 3 rfl) ?_
        obtain ⟨g_13, hfn⟩ := og hfn
        refine va_iald hx hb hK hP 4 0 rfl rfl g_13 dMd_learnLoop_87 ?_
        refine lv_sipush (v := 1000) hx hb dMd_learnLoop_88 (by decide) ?_
        refine lv_icmp_gt (tgt := 118) hx hb dMd_learnLoop_91 (by decide) (fun c_14 => ?_) (fun c_14 => ?_)
        · rw [if_pos c_14] at hfn
          exact blk118 _ _ _ _ _ _ _ ls hfn (hP.sub [0, 1, 2, 3, 4, 5] rfl) (hD.sub [0, 1, 2, 3, 4, 5] (by decide) rfl) hS (lv_sub hl [0, 3] rfl)
        · rw [if_neg c_14] at hfn
          refine lv_aload_n hx hb dMd_learnLoop_94 rfl (lv_at hl 0 rfl) ?_
          refine va_get (D := (dC, dI)) (ci := 11) (v := .ref r_trust) (C := R_Md) (T := T_Md) (N := 31) hx hb htg in_Md hown hK hP 0 rfl rfl 24 (by decide) (htg _ wd_819) (fun _ h9 => h9) rfl dMd_learnLoop_95 ?_
          refine lv_iload_n hx hb dMd_learnLoop_98 rfl (lv_at hl 3 rfl) ?_
          obtain ⟨g_15, hfn⟩ := og hfn
          refine va_iald hx hb hK hP 5 0 rfl rfl g_15 dMd_learnLoop_99 ?_
          refine lv_if_le (tgt := 192) hx hb dMd_learnLoop_100 (by decide) (fun c_16 => ?_) (fun c_16 => ?_)
          · rw [if_pos c_16] at hfn
            replace hfn := Option.some.inj hfn
            obtain ⟨e9, hf_0⟩ := Prod.mk.inj hfn; clear hfn; subst e9
            obtain ⟨e9, hf_1⟩ := Prod.mk.inj hf_0; clear hf_0; subst e9
            obtain ⟨e9, hf_2⟩ := Prod.mk.inj hf_1; clear hf_1; subst e9
            obtain ⟨e9, hf_3⟩ := Prod.mk.inj hf_2; clear hf_2; subst e9
            subst hf_3
            exact W.vret hx hb hr (fun t ht hW => ⟨⟨_, rfl, rfl, ⟨by rw [ht]; exact hP.sub [0, 1, 2, 3, 4, 5] rfl, va_K.moved hW.alike hK, hD.sub [0, 1, 2, 3, 4, 5] (by decide) rfl⟩⟩, hS.F ht⟩) hS.2.2 dMd_learnLoop_192
          · rw [if_neg c_16] at hfn
            refine lv_aload_n hx hb dMd_learnLoop_103 rfl (lv_at hl 0 rfl) ?_
            refine va_get (D := (dC, dI)) (ci := 11) (v := .ref r_count) (C := R_Md) (T := T_Md) (N := 31) hx hb htg in_Md hown hK hP 0 rfl rfl 23 (by decide) (htg _ wd_818) (fun _ h9 => h9) rfl dMd_learnLoop_104 ?_
            refine lv_iload_n hx hb dMd_learnLoop_107 rfl (lv_at hl 3 rfl) ?_
            obtain ⟨g_17, hfn⟩ := og hfn
            refine va_iald hx hb hK hP 4 0 rfl rfl g_17 dMd_learnLoop_108 ?_
            refine lv_aload_n hx hb dMd_learnLoop_109 rfl (lv_at hl 0 rfl) ?_
            refine va_get (D := (dC, dI)) (ci := 11) (v := .ref r_length) (C := R_Md) (T := T_Md) (N := 31) hx hb htg in_Md hown hK hP 0 rfl rfl 22 (by decide) (htg _ wd_817) (fun _ h9 => h9) rfl dMd_learnLoop_110 ?_
            refine lv_iload_n hx hb dMd_learnLoop_113 rfl (lv_at hl 3 rfl) ?_
            obtain ⟨g_18, hfn⟩ := og hfn
            refine va_iald hx hb hK hP 3 0 rfl rfl g_18 dMd_learnLoop_114 ?_
            refine lv_icmp_le (tgt := 192) hx hb dMd_learnLoop_115 (by decide) (fun c_19 => ?_) (fun c_19 => ?_)
            · rw [if_pos c_19] at hfn
              replace hfn := Option.some.inj hfn
              obtain ⟨e9, hf_0⟩ := Prod.mk.inj hfn; clear hfn; subst e9
              obtain ⟨e9, hf_1⟩ := Prod.mk.inj hf_0; clear hf_0; subst e9
              obtain ⟨e9, hf_2⟩ := Prod.mk.inj hf_1; clear hf_1; subst e9
              obtain ⟨e9, hf_3⟩ := Prod.mk.inj hf_2; clear hf_2; subst e9
              subst hf_3
              exact W.vret hx hb hr (fun t ht hW => ⟨⟨_, rfl, rfl, ⟨by rw [ht]; exact hP.sub [0, 1, 2, 3, 4, 5] rfl, va_K.moved hW.alike hK, hD.sub [0, 1, 2, 3, 4, 5] (by decide) rfl⟩⟩, hS.F ht⟩) hS.2.2 dMd_learnLoop_192
            · rw [if_neg c_19] at hfn
              exact blk118 _ _ _ _ _ _ _ ls hfn (hP.sub [0, 1, 2, 3, 4, 5] rfl) (hD.sub [0, 1, 2, 3, 4, 5] (by decide) rfl) hS (lv_sub hl [0, 3] rfl)
    · rw [if_pos c_6] at hfn
      refine lv_aload_n hx hb dMd_learnLoop_44 rfl (lv_at hl 0 rfl) ?_
      refine va_get (D := (dC, dI)) (ci := 11) (v := .ref r_loopTag) (C := R_Md) (T := T_Md) (N := 31) hx hb htg in_Md hown hK hP 0 rfl rfl 21 (by decide) (htg _ wd_816) (fun _ h9 => h9) rfl dMd_learnLoop_45 ?_
      refine lv_iload_n hx hb dMd_learnLoop_48 rfl (lv_at hl 3 rfl) ?_
      refine lv_iload_n hx hb dMd_learnLoop_49 rfl (lv_at hl 1 rfl) ?_
      refine lv_aload_n hx hb dMd_learnLoop_50 rfl (lv_at hl 0 rfl) ?_
      refine va_get (D := (dC, dI)) (ci := 11) (v := .int mbt) (C := R_Md) (T := T_Md) (N := 31) hx hb htg in_Md hown hK hP 0 rfl rfl 2 (by decide) (htg _ wd_797) (fun _ h9 => h9) rfl dMd_learnLoop_51 ?_
      refine lv_iushr (v := (us pl mbt)) hx hb dMd_learnLoop_54 rfl ?_
      refine lv_sipush (v := 255) hx hb dMd_learnLoop_55 (by decide) ?_
      refine lv_iand hx hb dMd_learnLoop_58 ?_
      obtain ⟨g_20, hfn⟩ := og hfn
      refine va_iast hx hb hK hP hD hS 2 0 rfl rfl g_20 dMd_learnLoop_59 (fun H locs hP hD hS => ?_)
      have hP : va_P (dC, dI) vwCl [(o0, .inr (11, [.int mt, .int mkd, .int mbt, .int mrw, .int mhs, .int mco, .int (bI mey), .int mu1, .int mu2, .int mu3, .int mu4, .ref r_lastBit, .ref r_plain, .ref r_mixed, .ref r_chooser, .ref r_own, .ref r_ownCounter, .ref r_tag, .ref r_sum, .ref r_use, .ref r_weight, .ref r_loopTag, .ref r_length, .ref r_count, .ref r_trust, .int mwt, .ref r_waitPlace, .ref r_waitHistory, .ref r_waitSaid, .int mmk, .ref r_mark])), (r_plain, .inl (cA.1, 1024, .inl (upd g_plain (tf_Md_plainRow mbt mrw pl).toNatClampNeg (tf_Md_step (g_plain (tf_Md_plainRow mbt mrw pl).toNatClampNeg) tk)))), (r_loopTag, .inl (cA.1, 1024, .inl (upd g_loopTag (tf_Md_plainRow mbt mrw pl).toNatClampNeg ((us pl mbt) &&& 255)))), (r_length, .inl (cA.1, 1024, .inl g_length)), (r_count, .inl (cA.1, 1024, .inl g_count)), (r_trust, .inl (cA.1, 1024, .inl g_trust))] H := hP
      have hD : va_D A [(o0, .inr (11, [.int mt, .int mkd, .int mbt, .int mrw, .int mhs, .int mco, .int (bI mey), .int mu1, .int mu2, .int mu3, .int mu4, .ref r_lastBit, .ref r_plain, .ref r_mixed, .ref r_chooser, .ref r_own, .ref r_ownCounter, .ref r_tag, .ref r_sum, .ref r_use, .ref r_weight, .ref r_loopTag, .ref r_length, .ref r_count, .ref r_trust, .int mwt, .ref r_waitPlace, .ref r_waitHistory, .ref r_waitSaid, .int mmk, .ref r_mark])), (r_plain, .inl (cA.1, 1024, .inl (upd g_plain (tf_Md_plainRow mbt mrw pl).toNatClampNeg (tf_Md_step (g_plain (tf_Md_plainRow mbt mrw pl).toNatClampNeg) tk)))), (r_loopTag, .inl (cA.1, 1024, .inl (upd g_loopTag (tf_Md_plainRow mbt mrw pl).toNatClampNeg ((us pl mbt) &&& 255)))), (r_length, .inl (cA.1, 1024, .inl g_length)), (r_count, .inl (cA.1, 1024, .inl g_count)), (r_trust, .inl (cA.1, 1024, .inl g_trust))] := hD
      refine lv_aload_n hx hb dMd_learnLoop_60 rfl (lv_at hl 0 rfl) ?_
      refine lv_iload_n hx hb dMd_learnLoop_61 rfl (lv_at hl 3 rfl) ?_
      obtain ⟨⟨z_21_0, z_21_1, z_21_2⟩, hz_21, hfn⟩ := ob hfn
      dsimp only at hfn
      refine wr_Vv (wr := [(r_plain, .inl (cA.1, 1024, .inl (upd g_plain (tf_Md_plainRow mbt mrw pl).toNatClampNeg (tf_Md_step (g_plain (tf_Md_plainRow mbt mrw pl).toNatClampNeg) tk)))), (r_loopTag, .inl (cA.1, 1024, .inl (upd g_loopTag (tf_Md_plainRow mbt mrw pl).toNatClampNeg ((us pl mbt) &&& 255))))]) (As := [.int (tf_Md_plainRow mbt mrw pl)]) (rest := []) ⟨hx, hb, hml, hown, htg⟩ (c_Md_clearLoop l dC dI cA _ o0 r_length r_count r_trust r_lastBit r_plain r_mixed r_chooser r_own r_ownCounter r_tag r_sum r_use r_weight r_loopTag r_waitPlace r_waitHistory r_waitSaid r_mark mt mkd mbt mrw mhs mco mey mu1 mu2 mu3 mu4 mwt mmk g_length g_count g_trust (tf_Md_plainRow mbt mrw pl) z_21_0 z_21_1 z_21_2 hz_21) (cw_V htg wd_985 ws_35 qMd_clearLoop iMd_clearLoop kMd_clearLoop pMd_clearLoop rfl rfl ⟨Nat.le_of_ble_eq_true rfl, Nat.le_of_ble_eq_true rfl⟩) (va_recv hK hP (ci := 11) (q0 := 0) rfl rfl) hN hP hD hS hA hK [0, 3, 4, 5] [1, 2] rfl rfl (by decide) (by decide) (by decide) rfl hl.1 rfl (Nat.le_of_ble_eq_true rfl) dMd_learnLoop_62 ⟨Nat.le_of_ble_eq_true rfl, Nat.le_of_ble_eq_true rfl⟩ (fun H locs hP hD hS => ?_)
      have hP : va_P (dC, dI) vwCl [(r_plain, .inl (cA.1, 1024, .inl (upd g_plain (tf_Md_plainRow mbt mrw pl).toNatClampNeg (tf_Md_step (g_plain (tf_Md_plainRow mbt mrw pl).toNatClampNeg) tk)))), (r_loopTag, .inl (cA.1, 1024, .inl (upd g_loopTag (tf_Md_plainRow mbt mrw pl).toNatClampNeg ((us pl mbt) &&& 255)))), (o0, .inr (11, [.int mt, .int mkd, .int mbt, .int mrw, .int mhs, .int mco, .int (bI mey), .int mu1, .int mu2, .int mu3, .int mu4, .ref r_lastBit, .ref r_plain, .ref r_mixed, .ref r_chooser, .ref r_own, .ref r_ownCounter, .ref r_tag, .ref r_sum, .ref r_use, .ref r_weight, .ref r_loopTag, .ref r_length, .ref r_count, .ref r_trust, .int mwt, .ref r_waitPlace, .ref r_waitHistory, .ref r_waitSaid, .int mmk, .ref r_mark])), (r_length, .inl (cA.1, 1024, .inl z_21_0)), (r_count, .inl (cA.1, 1024, .inl z_21_1)), (r_trust, .inl (cA.1, 1024, .inl z_21_2))] H := hP
      have hD : va_D A [(r_plain, .inl (cA.1, 1024, .inl (upd g_plain (tf_Md_plainRow mbt mrw pl).toNatClampNeg (tf_Md_step (g_plain (tf_Md_plainRow mbt mrw pl).toNatClampNeg) tk)))), (r_loopTag, .inl (cA.1, 1024, .inl (upd g_loopTag (tf_Md_plainRow mbt mrw pl).toNatClampNeg ((us pl mbt) &&& 255)))), (o0, .inr (11, [.int mt, .int mkd, .int mbt, .int mrw, .int mhs, .int mco, .int (bI mey), .int mu1, .int mu2, .int mu3, .int mu4, .ref r_lastBit, .ref r_plain, .ref r_mixed, .ref r_chooser, .ref r_own, .ref r_ownCounter, .ref r_tag, .ref r_sum, .ref r_use, .ref r_weight, .ref r_loopTag, .ref r_length, .ref r_count, .ref r_trust, .int mwt, .ref r_waitPlace, .ref r_waitHistory, .ref r_waitSaid, .int mmk, .ref r_mark])), (r_length, .inl (cA.1, 1024, .inl z_21_0)), (r_count, .inl (cA.1, 1024, .inl z_21_1)), (r_trust, .inl (cA.1, 1024, .inl z_21_2))] := hD
      refine lv_goto (tgt := 192) hx hb dMd_learnLoop_65 (by decide) ?_
      replace hfn := Option.some.inj hfn
      obtain ⟨e9, hf_0⟩ := Prod.mk.inj hfn; clear hfn; subst e9
      obtain ⟨e9, hf_1⟩ := Prod.mk.inj hf_0; clear hf_0; subst e9
      obtain ⟨e9, hf_2⟩ := Prod.mk.inj hf_1; clear hf_1; subst e9
      obtain ⟨e9, hf_3⟩ := Prod.mk.inj hf_2; clear hf_2; subst e9
      subst hf_3
      exact W.vret hx hb hr (fun t ht hW => ⟨⟨_, rfl, rfl, ⟨by rw [ht]; exact hP.sub [2, 0, 1, 3, 4, 5] rfl, va_K.moved hW.alike hK, hD.sub [2, 0, 1, 3, 4, 5] (by decide) rfl⟩⟩, hS.F ht⟩) hS.2.2 dMd_learnLoop_192
  have hl := lv_entry ([.ref o0, .int pl, .int (bI tk)]) (n := 6) (Nat.le_of_ble_eq_true rfl)
  rw [lg_entry_eq]
  generalize (lg_sl ([.ref o0, .int pl, .int (bI tk)]) ++ List.replicate (6 - (lg_sl ([.ref o0, .int pl, .int (bI tk)])).length) Slot.unset).toArray = ls at hl ⊢
  have hl : lv_has ls 6 [(0, .ref o0), (1, .int pl), (2, .int (bI tk))] := hl
  unfold of_Md_learnLoop at hfn
  refine lv_aload_n hx hb dMd_learnLoop_0 rfl (lv_at hl 0 rfl) ?_
  refine lv_iload_n hx hb dMd_learnLoop_1 rfl (lv_at hl 1 rfl) ?_
  refine rd_V (As := [.int pl]) (rest := []) ⟨hx, hb, hml, hown, htg⟩ (c_Md_plainRow l dC dI cA o0 r_lastBit r_plain r_mixed r_chooser r_own r_ownCounter r_tag r_sum r_use r_weight r_loopTag r_length r_count r_trust r_waitPlace r_waitHistory r_waitSaid r_mark mt mkd mbt mrw mhs mco mey mu1 mu2 mu3 mu4 mwt mmk pl) (cw_V htg wd_902 ws_19 qMd_plainRow iMd_plainRow kMd_plainRow pMd_plainRow rfl rfl ⟨Nat.le_of_ble_eq_true rfl, Nat.le_of_ble_eq_true rfl⟩) (va_recv hK hP (ci := 11) (q0 := 0) rfl rfl) hN (hP.sub [0] rfl) hK rfl hl.1 rfl (Nat.le_of_ble_eq_true rfl) dMd_learnLoop_2 ⟨Nat.le_of_ble_eq_true rfl, Nat.le_of_ble_eq_true rfl⟩ ?_
  refine lv_istore_n (lv' := [(3, .int (tf_Md_plainRow mbt mrw pl)), (0, .ref o0), (1, .int pl), (2, .int (bI tk))]) hx hb dMd_learnLoop_5 rfl hl (by decide) rfl (fun ls hl => ?_)
  refine lv_aload_n hx hb dMd_learnLoop_6 rfl (lv_at hl 1 rfl) ?_
  refine va_get (D := (dC, dI)) (ci := 11) (v := .ref r_plain) (C := R_Md) (T := T_Md) (N := 31) hx hb htg in_Md hown hK hP 0 rfl rfl 12 (by decide) (htg _ wd_807) (fun _ h9 => h9) rfl dMd_learnLoop_7 ?_
  refine lv_iload_n hx hb dMd_learnLoop_10 rfl (lv_at hl 0 rfl) ?_
  refine lv_aload_n hx hb dMd_learnLoop_11 rfl (lv_at hl 1 rfl) ?_
  refine va_get (D := (dC, dI)) (ci := 11) (v := .ref r_plain) (C := R_Md) (T := T_Md) (N := 31) hx hb htg in_Md hown hK hP 0 rfl rfl 12 (by decide) (htg _ wd_807) (fun _ h9 => h9) rfl dMd_learnLoop_12 ?_
  refine lv_iload_n hx hb dMd_learnLoop_15 rfl (lv_at hl 0 rfl) ?_
  obtain ⟨g_1, hfn⟩ := og hfn
  refine va_iald hx hb hK hP 1 0 rfl rfl g_1 dMd_learnLoop_16 ?_
  refine lv_iload_n hx hb dMd_learnLoop_17 rfl (lv_at hl 3 rfl) ?_
  refine rd_S (As := [.int (g_plain (tf_Md_plainRow mbt mrw pl).toNatClampNeg), .int (bI tk)]) (rest := [.int (tf_Md_plainRow mbt mrw pl), .ref r_plain]) ⟨hx, hb, hml, hown, htg⟩ (c_Md_step l dC dI cA (g_plain (tf_Md_plainRow mbt mrw pl).toNatClampNeg) tk) (cw_S htg wd_962 qMd_step iMd_step kMd_step pMd_step rfl rfl ⟨Nat.le_of_ble_eq_true rfl, Nat.le_of_ble_eq_true rfl⟩) hN (hP.sub [] rfl) hK rfl hl.1 rfl (Nat.le_of_ble_eq_true rfl) dMd_learnLoop_18 ⟨Nat.le_of_ble_eq_true rfl, Nat.le_of_ble_eq_true rfl⟩ ?_
  obtain ⟨g_2, hfn⟩ := og hfn
  refine va_iast hx hb hK hP hD hS 1 0 rfl rfl g_2 dMd_learnLoop_21 (fun H locs hP hD hS => ?_)
  have hP : va_P (dC, dI) vwCl [(o0, .inr (11, [.int mt, .int mkd, .int mbt, .int mrw, .int mhs, .int mco, .int (bI mey), .int mu1, .int mu2, .int mu3, .int mu4, .ref r_lastBit, .ref r_plain, .ref r_mixed, .ref r_chooser, .ref r_own, .ref r_ownCounter, .ref r_tag, .ref r_sum, .ref r_use, .ref r_weight, .ref r_loopTag, .ref r_length, .ref r_count, .ref r_trust, .int mwt, .ref r_waitPlace, .ref r_waitHistory, .ref r_waitSaid, .int mmk, .ref r_mark])), (r_plain, .inl (cA.1, 1024, .inl (upd g_plain (tf_Md_plainRow mbt mrw pl).toNatClampNeg (tf_Md_step (g_plain (tf_Md_plainRow mbt mrw pl).toNatClampNeg) tk)))), (r_loopTag, .inl (cA.1, 1024, .inl g_loopTag)), (r_length, .inl (cA.1, 1024, .inl g_length)), (r_count, .inl (cA.1, 1024, .inl g_count)), (r_trust, .inl (cA.1, 1024, .inl g_trust))] H := hP
  have hD : va_D A [(o0, .inr (11, [.int mt, .int mkd, .int mbt, .int mrw, .int mhs, .int mco, .int (bI mey), .int mu1, .int mu2, .int mu3, .int mu4, .ref r_lastBit, .ref r_plain, .ref r_mixed, .ref r_chooser, .ref r_own, .ref r_ownCounter, .ref r_tag, .ref r_sum, .ref r_use, .ref r_weight, .ref r_loopTag, .ref r_length, .ref r_count, .ref r_trust, .int mwt, .ref r_waitPlace, .ref r_waitHistory, .ref r_waitSaid, .int mmk, .ref r_mark])), (r_plain, .inl (cA.1, 1024, .inl (upd g_plain (tf_Md_plainRow mbt mrw pl).toNatClampNeg (tf_Md_step (g_plain (tf_Md_plainRow mbt mrw pl).toNatClampNeg) tk)))), (r_loopTag, .inl (cA.1, 1024, .inl g_loopTag)), (r_length, .inl (cA.1, 1024, .inl g_length)), (r_count, .inl (cA.1, 1024, .inl g_count)), (r_trust, .inl (cA.1, 1024, .inl g_trust))] := hD
  refine lv_aload_n hx hb dMd_learnLoop_22 rfl (lv_at hl 1 rfl) ?_
  refine lv_iload_n hx hb dMd_learnLoop_23 rfl (lv_at hl 2 rfl) ?_
  obtain ⟨z_3, hz_3, hfn⟩ := ob hfn
  refine rd_V (As := [.int pl]) (rest := []) ⟨hx, hb, hml, hown, htg⟩ (c_Md_hasLoop l dC dI cA o0 r_loopTag r_lastBit r_plain r_mixed r_chooser r_own r_ownCounter r_tag r_sum r_use r_weight r_length r_count r_trust r_waitPlace r_waitHistory r_waitSaid r_mark mt mkd mbt mrw mhs mco mey mu1 mu2 mu3 mu4 mwt mmk g_loopTag pl z_3 hz_3) (cw_V htg wd_947 ws_28 qMd_hasLoop iMd_hasLoop kMd_hasLoop pMd_hasLoop rfl rfl ⟨Nat.le_of_ble_eq_true rfl, Nat.le_of_ble_eq_true rfl⟩) (va_recv hK hP (ci := 11) (q0 := 0) rfl rfl) hN (hP.sub [0, 2] rfl) hK rfl hl.1 rfl (Nat.le_of_ble_eq_true rfl) dMd_learnLoop_24 ⟨Nat.le_of_ble_eq_true rfl, Nat.le_of_ble_eq_true rfl⟩ ?_
  refine lv_istore (lv' := [(4, .int (bI z_3)), (3, .int (tf_Md_plainRow mbt mrw pl)), (0, .ref o0), (1, .int pl), (2, .int (bI tk))]) hx hb dMd_learnLoop_27 hl (by decide) rfl (fun ls hl => ?_)
  refine lv_iload hx hb dMd_learnLoop_29 (lv_at hl 0 rfl) ?_
  refine lv_if_ne (tgt := 39) hx hb dMd_learnLoop_31 (by decide) (fun c_4 => ?_) (fun c_4 => ?_)
  · rw [if_neg c_4] at hfn
    exact blk39 _ _ _ _ _ z_3 _ _ ls hfn (hP.sub [0, 1, 2, 3, 4, 5] rfl) (hD.sub [0, 1, 2, 3, 4, 5] (by decide) rfl) hS (lv_sub hl [2, 3, 4, 1, 0] rfl)
  · rw [if_pos c_4] at hfn
    refine lv_iload_n hx hb dMd_learnLoop_34 rfl (lv_at hl 4 rfl) ?_
    refine lv_if_eq (tgt := 39) hx hb dMd_learnLoop_35 (by decide) (fun c_5 => ?_) (fun c_5 => ?_)
    · rw [if_pos c_5] at hfn
      exact blk39 _ _ _ _ _ z_3 _ _ ls hfn (hP.sub [0, 1, 2, 3, 4, 5] rfl) (hD.sub [0, 1, 2, 3, 4, 5] (by decide) rfl) hS (lv_sub hl [2, 3, 4, 1, 0] rfl)
    · rw [if_neg c_5] at hfn
      replace hfn := Option.some.inj hfn
      obtain ⟨e9, hf_0⟩ := Prod.mk.inj hfn; clear hfn; subst e9
      obtain ⟨e9, hf_1⟩ := Prod.mk.inj hf_0; clear hf_0; subst e9
      obtain ⟨e9, hf_2⟩ := Prod.mk.inj hf_1; clear hf_1; subst e9
      obtain ⟨e9, hf_3⟩ := Prod.mk.inj hf_2; clear hf_2; subst e9
      subst hf_3
      exact W.vret hx hb hr (fun t ht hW => ⟨⟨_, rfl, rfl, ⟨by rw [ht]; exact hP.sub [0, 1, 2, 3, 4, 5] rfl, va_K.moved hW.alike hK, hD.sub [0, 1, 2, 3, 4, 5] (by decide) rfl⟩⟩, hS.F ht⟩) hS.2.2 dMd_learnLoop_38
