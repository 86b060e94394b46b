def of_Md_taggedRow (mbt : Int32) (mrw : Int32) (t0 : Int32) (pl : Int32) (hs : Int32) : Option (Int32) := ((of_Md_folded hs (tf_Md_span t0) mbt).bind fun z_1 => some (((1024 * t0) + (tf_Md_low mrw ((pl ^^^ z_1) ^^^ (t0 + 1))))))
set_option maxHeartbeats 4000000 in
set_option maxRecDepth 100000 in
theorem c_Md_taggedRow (l : Launch) (dC : Nat → ClassId) (dI : Nat → Nat → Nat) (cA : ClassId × ClassId × ClassId) (o0 : Nat) (r_lastBit : Nat) (r_plain : Nat) (r_mixed : Nat) (r_chooser : Nat) (r_own : Nat) (r_ownCounter : Nat) (r_tag : Nat) (r_sum : Nat) (r_use : Nat) (r_weight : Nat) (r_loopTag : Nat) (r_length : Nat) (r_count : Nat) (r_trust : Nat) (r_waitPlace : Nat) (r_waitHistory : Nat) (r_waitSaid : Nat) (r_mark : Nat) (mt : Int32) (mkd : Int32) (mbt : Int32) (mrw : Int32) (mhs : Int32) (mco : Int32) (mey : Bool) (mu1 : Int32) (mu2 : Int32) (mu3 : Int32) (mu4 : Int32) (mwt : Int32) (mmk : Int32) (t0 : Int32) (pl : Int32) (hs : Int32) (rs0 : Int32) (hfn : (of_Md_taggedRow mbt mrw t0 pl hs) = some (rs0)) : Met l yMd_taggedRow wMd_taggedRow ({ frames := 1, cells := 0, slots := 0, locals := 24 }) (va_Pc [.ref o0, .int t0, .int pl, .int hs] (Rd (dC, dI) cA [(o0, .inr (11, [.int mt, .int mkd, .int mbt, .int mrw, .int mhs, .int mco, .int (bI mey), .int mu1, .int mu2, .int mu3, .int mu4, .ref r_lastBit, .ref r_plain, .ref r_mixed, .ref r_chooser, .ref r_own, .ref r_ownCounter, .ref r_tag, .ref r_sum, .ref r_use, .ref r_weight, .ref r_loopTag, .ref r_length, .ref r_count, .ref r_trust, .int mwt, .ref r_waitPlace, .ref r_waitHistory, .ref r_waitSaid, .int mmk, .ref r_mark]))])) (QcRead rs0) 0 0 (fun _ => False) := by
  refine Met.ofW (cc := cMd_taggedRow) (maxL := 4) (ret := (some .int)) (by decide) rfl ?_
  intro p e s m args below meth c s₁ B hml hv
  obtain ⟨rfl, hN, hP, hK⟩ := hv
  have hx := B.exec
  have hb := B.bytes
  have hr := B.returns
  have hts := atoms_spec (ws := wMd_taggedRow) B.pre
  have htg : ∀ w ∈ GW, w.before _ s = true := fun w h => hts w (List.mem_cons_of_mem _ h)
  have hown : s.vm.findClass R_Md = some m.cls := findClass_of_methodNamed B.named
  have hlocks := B.notSynchronized
  have hl := lv_entry ([.ref o0, .int t0, .int pl, .int hs]) (n := 4) (Nat.le_of_ble_eq_true rfl)
  rw [lg_entry_eq]
  generalize (lg_sl ([.ref o0, .int t0, .int pl, .int hs]) ++ List.replicate (4 - (lg_sl ([.ref o0, .int t0, .int pl, .int hs])).length) Slot.unset).toArray = ls at hl ⊢
  have hl : lv_has ls 4 [(0, .ref o0), (1, .int t0), (2, .int pl), (3, .int hs)] := hl
  unfold of_Md_taggedRow at hfn
  refine lv_sipush (v := 1024) hx hb dMd_taggedRow_0 (by decide) ?_
  refine lv_iload_n hx hb dMd_taggedRow_3 rfl (lv_at hl 1 rfl) ?_
  refine lv_imul hx hb dMd_taggedRow_4 ?_
  refine lv_aload_n hx hb dMd_taggedRow_5 rfl (lv_at hl 0 rfl) ?_
  refine lv_iload_n hx hb dMd_taggedRow_6 rfl (lv_at hl 2 rfl) ?_
  refine lv_iload_n hx hb dMd_taggedRow_7 rfl (lv_at hl 3 rfl) ?_
  refine lv_iload_n hx hb dMd_taggedRow_8 rfl (lv_at hl 1 rfl) ?_
  refine rd_S (As := [.int t0]) (rest := [.int hs, .int pl, .ref o0, .int (1024 * t0)]) ⟨hx, hb, hml, hown, htg⟩ (c_Md_span l dC dI cA t0) (cw_S htg wd_926 qMd_span iMd_span kMd_span pMd_span rfl rfl ⟨Nat.le_of_ble_eq_true rfl, Nat.le_of_ble_eq_true rfl⟩) hN (hP.sub [] rfl) hK rfl hl.1 rfl (Nat.le_of_ble_eq_true rfl) dMd_taggedRow_9 ⟨Nat.le_of_ble_eq_true rfl, Nat.le_of_ble_eq_true rfl⟩ ?_
  refine lv_aload_n hx hb dMd_taggedRow_12 rfl (lv_at hl 0 rfl) ?_
  refine va_get (D := (dC, dI)) (ci := 11) (v := .int mbt) (C := R_Md) (T := T_Md) (N := 31) hx hb htg in_Md hown hK hP 0 rfl rfl 2 (by decide) (htg _ wd_797) (fun _ h9 => h9) rfl dMd_taggedRow_13 ?_
  obtain ⟨z_1, hz_1, hfn⟩ := ob hfn
  refine rd_S (As := [.int hs, .int (tf_Md_span t0), .int mbt]) (rest := [.int pl, .ref o0, .int (1024 * t0)]) ⟨hx, hb, hml, hown, htg⟩ (c_Md_folded l dC dI cA hs (tf_Md_span t0) mbt z_1 hz_1) (cw_S htg wd_929 qMd_folded iMd_folded kMd_folded pMd_folded rfl rfl ⟨Nat.le_of_ble_eq_true rfl, Nat.le_of_ble_eq_true rfl⟩) hN (hP.sub [] rfl) hK rfl hl.1 rfl (Nat.le_of_ble_eq_true rfl) dMd_taggedRow_16 ⟨Nat.le_of_ble_eq_true rfl, Nat.le_of_ble_eq_true rfl⟩ ?_
  refine lv_ixor hx hb dMd_taggedRow_19 ?_
  refine lv_iload_n hx hb dMd_taggedRow_20 rfl (lv_at hl 1 rfl) ?_
  refine lv_iconst (v := 1) hx hb dMd_taggedRow_21 (by decide) ?_
  refine lv_iadd hx hb dMd_taggedRow_22 ?_
  refine lv_ixor hx hb dMd_taggedRow_23 ?_
  refine rd_V (As := [.int ((pl ^^^ z_1) ^^^ (t0 + 1))]) (rest := [.int (1024 * t0)]) ⟨hx, hb, hml, hown, htg⟩ (c_Md_low l dC dI cA o0 r_lastBit r_plain r_mixed r_chooser r_own r_ownCounter r_tag r_sum r_use r_weight r_loopTag r_length r_count r_trust r_waitPlace r_waitHistory r_waitSaid r_mark mt mkd mbt mrw mhs mco mey mu1 mu2 mu3 mu4 mwt mmk ((pl ^^^ z_1) ^^^ (t0 + 1))) (cw_V htg wd_906 ws_20 qMd_low iMd_low kMd_low pMd_low rfl rfl ⟨Nat.le_of_ble_eq_true rfl, Nat.le_of_ble_eq_true rfl⟩) (va_recv hK hP (ci := 11) (q0 := 0) rfl rfl) hN (hP.sub [0] rfl) hK rfl hl.1 rfl (Nat.le_of_ble_eq_true rfl) dMd_taggedRow_24 ⟨Nat.le_of_ble_eq_true rfl, Nat.le_of_ble_eq_true rfl⟩ ?_
  refine lv_iadd hx hb dMd_taggedRow_27 ?_
  replace hfn := Option.some.inj hfn
  subst hfn
  exact W.iret hx hb hr (fun t ht hW => ⟨rfl, ht⟩) (fun _ h => by cases h) dMd_taggedRow_28
def of_Md_tagOf (t0 : Int32) (pl : Int32) (hs : Int32) : Option (Int32) := ((of_Md_folded hs (tf_Md_span t0) 8).bind fun z_1 => some (((((us pl 2) ^^^ z_1) ^^^ (7 * t0)) &&& 255)))
set_option maxHeartbeats 4000000 in
set_option maxRecDepth 100000 in
theorem c_Md_tagOf (l : Launch) (dC : Nat → ClassId) (dI : Nat → Nat → Nat) (cA : ClassId × ClassId × ClassId) (t0 : Int32) (pl : Int32) (hs : Int32) (rs0 : Int32) (hfn : (of_Md_tagOf t0 pl hs) = some (rs0)) : Met l yMd_tagOf wMd_tagOf ({ frames := 1, cells := 0, slots := 0, locals := 24 }) (va_Pc [.int t0, .int pl, .int hs] (Rd (dC, dI) cA [])) (QcRead rs0) 0 0 (fun _ => False) := by
  refine Met.ofW (cc := cMd_tagOf) (maxL := 3) (ret := (some .int)) (by decide) rfl ?_
  intro p e s m args below meth c s₁ B hml hv
  obtain ⟨rfl, hN, hP, hK⟩ := hv
  have hx := B.exec
  have hb := B.bytes
  have hr := B.returns
  have hts := atoms_spec (ws := wMd_tagOf) B.pre
  have htg : ∀ w ∈ GW, w.before _ s = true := fun w h => hts w (List.mem_cons_of_mem _ h)
  have hown : s.vm.findClass R_Md = some m.cls := findClass_of_methodNamed B.named
  have hlocks := B.notSynchronized
  have hl := lv_entry ([.int t0, .int pl, .int hs]) (n := 3) (Nat.le_of_ble_eq_true rfl)
  rw [lg_entry_eq]
  generalize (lg_sl ([.int t0, .int pl, .int hs]) ++ List.replicate (3 - (lg_sl ([.int t0, .int pl, .int hs])).length) Slot.unset).toArray = ls at hl ⊢
  have hl : lv_has ls 3 [(0, .int t0), (1, .int pl), (2, .int hs)] := hl
  unfold of_Md_tagOf at hfn
  refine lv_iload_n hx hb dMd_tagOf_0 rfl (lv_at hl 1 rfl) ?_
  refine lv_iconst (v := 2) hx hb dMd_tagOf_1 (by decide) ?_
  refine lv_iushr (v := (us pl 2)) hx hb dMd_tagOf_2 rfl ?_
  refine lv_iload_n hx hb dMd_tagOf_3 rfl (lv_at hl 2 rfl) ?_
  refine lv_iload_n hx hb dMd_tagOf_4 rfl (lv_at hl 0 rfl) ?_
  refine rd_S (As := [.int t0]) (rest := [.int hs, .int (us pl 2)]) ⟨hx, hb, hml, hown, htg⟩ (c_Md_span l dC dI cA t0) (cw_S htg wd_926 qMd_span iMd_span kMd_span pMd_span rfl rfl ⟨Nat.le_of_ble_eq_true rfl, Nat.le_of_ble_eq_true rfl⟩) hN (hP.sub [] rfl) hK rfl hl.1 rfl (Nat.le_of_ble_eq_true rfl) dMd_tagOf_5 ⟨Nat.le_of_ble_eq_true rfl, Nat.le_of_ble_eq_true rfl⟩ ?_
  refine lv_bipush (v := 8) hx hb dMd_tagOf_8 (by decide) ?_
  obtain ⟨z_1, hz_1, hfn⟩ := ob hfn
  refine rd_S (As := [.int hs, .int (tf_Md_span t0), .int 8]) (rest := [.int (us pl 2)]) ⟨hx, hb, hml, hown, htg⟩ (c_Md_folded l dC dI cA hs (tf_Md_span t0) 8 z_1 hz_1) (cw_S htg wd_929 qMd_folded iMd_folded kMd_folded pMd_folded rfl rfl ⟨Nat.le_of_ble_eq_true rfl, Nat.le_of_ble_eq_true rfl⟩) hN (hP.sub [] rfl) hK rfl hl.1 rfl (Nat.le_of_ble_eq_true rfl) dMd_tagOf_10 ⟨Nat.le_of_ble_eq_true rfl, Nat.le_of_ble_eq_true rfl⟩ ?_
  refine lv_ixor hx hb dMd_tagOf_13 ?_
  refine lv_bipush (v := 7) hx hb dMd_tagOf_14 (by decide) ?_
  refine lv_iload_n hx hb dMd_tagOf_16 rfl (lv_at hl 0 rfl) ?_
  refine lv_imul hx hb dMd_tagOf_17 ?_
  refine lv_ixor hx hb dMd_tagOf_18 ?_
  refine lv_sipush (v := 255) hx hb dMd_tagOf_19 (by decide) ?_
  refine lv_iand hx hb dMd_tagOf_22 ?_
  replace hfn := Option.some.inj hfn
  subst hfn
  exact W.iret hx hb hr (fun t ht hW => ⟨rfl, ht⟩) (fun _ h => by cases h) dMd_tagOf_23
def of_Md_hits (mbt : Int32) (mrw : Int32) (g_tag : Nat → Int32) (t0 : Int32) (pl : Int32) (hs : Int32) : Option (Bool) := ((of_Md_taggedRow mbt mrw t0 pl hs).bind fun z_1 => (if z_1 < 0 ∨ 3072 ≤ z_1.toNatClampNeg then none else ((of_Md_tagOf t0 pl hs).bind fun z_3 => (if (g_tag z_1.toNatClampNeg) = z_3 then some (true) else some (false)))))
set_option maxHeartbeats 4000000 in
set_option maxRecDepth 100000 in
theorem c_Md_hits (l : Launch) (dC : Nat → ClassId) (dI : Nat → Nat → Nat) (cA : ClassId × ClassId × ClassId) (o0 : Nat) (r_tag : Nat) (r_lastBit : Nat) (r_plain : Nat) (r_mixed : Nat) (r_chooser : Nat) (r_own : Nat) (r_ownCounter : Nat) (r_sum : Nat) (r_use : Nat) (r_weight : Nat) (r_loopTag : Nat) (r_length : Nat) (r_count : Nat) (r_trust : Nat) (r_waitPlace : Nat) (r_waitHistory : Nat) (r_waitSaid : Nat) (r_mark : Nat) (mt : Int32) (mkd : Int32) (mbt : Int32) (mrw : Int32) (mhs : Int32) (mco : Int32) (mey : Bool) (mu1 : Int32) (mu2 : Int32) (mu3 : Int32) (mu4 : Int32) (mwt : Int32) (mmk : Int32) (g_tag : Nat → Int32) (t0 : Int32) (pl : Int32) (hs : Int32) (rs0 : Bool) (hfn : (of_Md_hits mbt mrw g_tag t0 pl hs) = some (rs0)) : Met l yMd_hits wMd_hits ({ frames := 2, cells := 0, slots := 0, locals := 47 }) (va_Pc [.ref o0, .int t0, .int pl, .int hs] (Rd (dC, dI) cA [(o0, .inr (11, [.int mt, .int mkd, .int mbt, .int mrw, .int mhs, .int mco, .int (bI mey), .int mu1, .int mu2, .int mu3, .int mu4, .ref r_lastBit, .ref r_plain, .ref r_mixed, .ref r_chooser, .ref r_own, .ref r_ownCounter, .ref r_tag, .ref r_sum, .ref r_use, .ref r_weight, .ref r_loopTag, .ref r_length, .ref r_count, .ref r_trust, .int mwt, .ref r_waitPlace, .ref r_waitHistory, .ref r_waitSaid, .int mmk, .ref r_mark])), (r_tag, .inl (cA.1, 3072, .inl g_tag))])) (QcRead (bI rs0)) 0 0 (fun _ => False) := by
  refine Met.ofW (cc := cMd_hits) (maxL := 4) (ret := (some .boolean)) (by decide) rfl ?_
  intro p e s m args below meth c s₁ B hml hv
  obtain ⟨rfl, hN, hP, hK⟩ := hv
  have hx := B.exec
  have hb := B.bytes
  have hr := B.returns
  have hts := atoms_spec (ws := wMd_hits) B.pre
  have htg : ∀ w ∈ GW, w.before _ s = true := fun w h => hts w (List.mem_cons_of_mem _ h)
  have hown : s.vm.findClass R_Md = some m.cls := findClass_of_methodNamed B.named
  have hlocks := B.notSynchronized
  have hl := lv_entry ([.ref o0, .int t0, .int pl, .int hs]) (n := 4) (Nat.le_of_ble_eq_true rfl)
  rw [lg_entry_eq]
  generalize (lg_sl ([.ref o0, .int t0, .int pl, .int hs]) ++ List.replicate (4 - (lg_sl ([.ref o0, .int t0, .int pl, .int hs])).length) Slot.unset).toArray = ls at hl ⊢
  have hl : lv_has ls 4 [(0, .ref o0), (1, .int t0), (2, .int pl), (3, .int hs)] := hl
  unfold of_Md_hits at hfn
  refine lv_aload_n hx hb dMd_hits_0 rfl (lv_at hl 0 rfl) ?_
  refine va_get (D := (dC, dI)) (ci := 11) (v := .ref r_tag) (C := R_Md) (T := T_Md) (N := 31) hx hb htg in_Md hown hK hP 0 rfl rfl 17 (by decide) (htg _ wd_812) (fun _ h9 => h9) rfl dMd_hits_1 ?_
  refine lv_aload_n hx hb dMd_hits_4 rfl (lv_at hl 0 rfl) ?_
  refine lv_iload_n hx hb dMd_hits_5 rfl (lv_at hl 1 rfl) ?_
  refine lv_iload_n hx hb dMd_hits_6 rfl (lv_at hl 2 rfl) ?_
  refine lv_iload_n hx hb dMd_hits_7 rfl (lv_at hl 3 rfl) ?_
  obtain ⟨z_1, hz_1, hfn⟩ := ob hfn
  refine rd_V (As := [.int t0, .int pl, .int hs]) (rest := [.ref r_tag]) ⟨hx, hb, hml, hown, htg⟩ (c_Md_taggedRow l dC dI cA o0 r_lastBit r_plain r_mixed r_chooser r_own r_ownCounter r_tag r_sum r_use r_weight r_loopTag r_length r_count r_trust r_waitPlace r_waitHistory r_waitSaid r_mark mt mkd mbt mrw mhs mco mey mu1 mu2 mu3 mu4 mwt mmk t0 pl hs z_1 hz_1) (cw_V htg wd_922 ws_24 qMd_taggedRow iMd_taggedRow kMd_taggedRow pMd_taggedRow rfl rfl ⟨Nat.le_of_ble_eq_true rfl, Nat.le_of_ble_eq_true rfl⟩) (va_recv hK hP (ci := 11) (q0 := 0) rfl rfl) hN (hP.sub [0] rfl) hK rfl hl.1 rfl (Nat.le_of_ble_eq_true rfl) dMd_hits_8 ⟨Nat.le_of_ble_eq_true rfl, Nat.le_of_ble_eq_true rfl⟩ ?_
  obtain ⟨g_2, hfn⟩ := og hfn
  refine va_iald hx hb hK hP 1 0 rfl rfl g_2 dMd_hits_11 ?_
  refine lv_iload_n hx hb dMd_hits_12 rfl (lv_at hl 1 rfl) ?_
  refine lv_iload_n hx hb dMd_hits_13 rfl (lv_at hl 2 rfl) ?_
  refine lv_iload_n hx hb dMd_hits_14 rfl (lv_at hl 3 rfl) ?_
  obtain ⟨z_3, hz_3, hfn⟩ := ob hfn
  refine rd_S (As := [.int t0, .int pl, .int hs]) (rest := [.int (g_tag z_1.toNatClampNeg)]) ⟨hx, hb, hml, hown, htg⟩ (c_Md_tagOf l dC dI cA t0 pl hs z_3 hz_3) (cw_S htg wd_932 qMd_tagOf iMd_tagOf kMd_tagOf pMd_tagOf rfl rfl ⟨Nat.le_of_ble_eq_true rfl, Nat.le_of_ble_eq_true rfl⟩) hN (hP.sub [] rfl) hK rfl hl.1 rfl (Nat.le_of_ble_eq_true rfl) dMd_hits_15 ⟨Nat.le_of_ble_eq_true rfl, Nat.le_of_ble_eq_true rfl⟩ ?_
  refine lv_icmp_ne (tgt := 25) hx hb dMd_hits_18 (by decide) (fun c_4 => ?_) (fun c_4 => ?_)
  · rw [if_neg c_4] at hfn
    refine lv_iconst (v := 0) hx hb dMd_hits_25 (by decide) ?_
    replace hfn := Option.some.inj hfn
    subst hfn
    exact W.zret hx hb hr rfl (fun t ht hW => ⟨rfl, ht⟩) (fun _ h => by cases h) dMd_hits_26
  · rw [if_pos c_4] at hfn
    refine lv_iconst (v := 1) hx hb dMd_hits_21 (by decide) ?_
    refine lv_goto (tgt := 26) hx hb dMd_hits_22 (by decide) ?_
    replace hfn := Option.some.inj hfn
    subst hfn
    exact W.zret hx hb hr rfl (fun t ht hW => ⟨rfl, ht⟩) (fun _ h => by cases h) dMd_hits_26
def of_Md_hitBefore_b6 : Nat → Int32 → Int32 → (Nat → Int32) → Int32 → Int32 → Int32 → Int32 → Int32 → Option (Int32)
  | 0, _, _, _, _, _, _, _, _ => none
  | n + 1, mbt, mrw, g_tag, e0, pl, hs, v4_b6, v5_b6 => (if e0 ≤ v5_b6 then some (v4_b6) else ((of_Md_hits mbt mrw g_tag v5_b6 pl hs).bind fun z_2 => (if (bI z_2) = 0 then of_Md_hitBefore_b6 n mbt mrw g_tag e0 pl hs v4_b6 (v5_b6 + 1) else of_Md_hitBefore_b6 n mbt mrw g_tag e0 pl hs v5_b6 (v5_b6 + 1))))
def of_Md_hitBefore (mbt : Int32) (mrw : Int32) (g_tag : Nat → Int32) (e0 : Int32) (pl : Int32) (hs : Int32) : Option (Int32) := of_Md_hitBefore_b6 4096 mbt mrw g_tag e0 pl hs (-1) 0
set_option maxHeartbeats 4000000 in
set_option maxRecDepth 100000 in
theorem c_Md_hitBefore (l : Launch) (dC : Nat → ClassId) (dI : Nat → Nat → Nat) (cA : ClassId × ClassId × ClassId) (o0 : Nat) (r_tag : Nat) (r_lastBit : Nat) (r_plain : Nat) (r_mixed : Nat) (r_chooser : Nat) (r_own : Nat) (r_ownCounter : Nat) (r_sum : Nat) (r_use : Nat) (r_weight : Nat) (r_loopTag : Nat) (r_length : Nat) (r_count : Nat) (r_trust : Nat) (r_waitPlace : Nat) (r_waitHistory : Nat) (r_waitSaid : Nat) (r_mark : Nat) (mt : Int32) (mkd : Int32) (mbt : Int32) (mrw : Int32) (mhs : Int32) (mco : Int32) (mey : Bool) (mu1 : Int32) (mu2 : Int32) (mu3 : Int32) (mu4 : Int32) (mwt : Int32) (mmk : Int32) (g_tag : Nat → Int32) (e0 : Int32) (pl : Int32) (hs : Int32) (rs0 : Int32) (hfn : (of_Md_hitBefore mbt mrw g_tag e0 pl hs) = some (rs0)) : Met l yMd_hitBefore wMd_hitBefore ({ frames := 3, cells := 0, slots := 0, locals := 70 }) (va_Pc [.ref o0, .int e0, .int pl, .int hs] (Rd (dC, dI) cA [(o0, .inr (11, [.int mt, .int mkd, .int mbt, .int mrw, .int mhs, .int mco, .int (bI mey), .int mu1, .int mu2, .int mu3, .int mu4, .ref r_lastBit, .ref r_plain, .ref r_mixed, .ref r_chooser, .ref r_own, .ref r_ownCounter, .ref r_tag, .ref r_sum, .ref r_use, .ref r_weight, .ref r_loopTag, .ref r_length, .ref r_count, .ref r_trust, .int mwt, .ref r_waitPlace, .ref r_waitHistory, .ref r_waitSaid, .int mmk, .ref r_mark])), (r_tag, .inl (cA.1, 3072, .inl g_tag))])) (QcRead rs0) 0 0 (fun _ => False) := by
  refine Met.ofW (cc := cMd_hitBefore) (maxL := 6) (ret := (some .int)) (by decide) rfl ?_
  intro p e s m args below meth c s₁ B hml hv
  obtain ⟨rfl, hN, hP, hK⟩ := hv
  have hx := B.exec
  have hb := B.bytes
  have hr := B.returns
  have hts := atoms_spec (ws := wMd_hitBefore) B.pre
  have htg : ∀ w ∈ GW, w.before _ s = true := fun w h => hts w (List.mem_cons_of_mem _ h)
  have hown : s.vm.findClass R_Md = some m.cls := findClass_of_methodNamed B.named
  have hlocks := B.notSynchronized
  have blk6 : ∀ n : Nat, ∀ (rs0 : Int32) (v4_b6 : Int32) (v5_b6 : Int32) (ls : Array Slot), of_Md_hitBefore_b6 n mbt mrw g_tag e0 pl hs v4_b6 v5_b6 = some (rs0) → lv_has ls 6 [(0, .ref o0), (1, .int e0), (2, .int pl), (3, .int hs), (4, .int v4_b6), (5, .int v5_b6)] → W p l e (headSpec wMd_hitBefore ({ frames := 3, cells := 0, slots := 0, locals := 70 })).room s m ([.ref o0, .int e0, .int pl, .int hs] : List Value).toArray below meth c s.heap [] 0 0 (MQ below (QcRead rs0) ([.ref o0, .int e0, .int pl, .int hs] : List Value).toArray s 0 0 (fun _ => False)) (F0 m 6 ls []) := by
    intro n
    induction n with
    | zero =>
      intro rs0 v4_b6 v5_b6 ls hfn hl
      exact absurd hfn (by intro h; cases h)
    | succ n ih =>
      intro rs0 v4_b6 v5_b6 ls hfn hl
      unfold of_Md_hitBefore_b6 at hfn
      refine lv_iload hx hb dMd_hitBefore_6 (lv_at hl 5 rfl) ?_
      refine lv_iload_n hx hb dMd_hitBefore_8 rfl (lv_at hl 1 rfl) ?_
      refine lv_icmp_ge (tgt := 38) hx hb dMd_hitBefore_9 (by decide) (fun c_1 => ?_) (fun c_1 => ?_)
      · rw [if_pos c_1] at hfn
        refine lv_iload hx hb dMd_hitBefore_38 (lv_at hl 4 rfl) ?_
        replace hfn := Option.some.inj hfn
        subst hfn
        exact W.iret hx hb hr (fun t ht hW => ⟨rfl, ht⟩) (fun _ h => by cases h) dMd_hitBefore_40
      · rw [if_neg c_1] at hfn
        refine lv_aload_n hx hb dMd_hitBefore_12 rfl (lv_at hl 0 rfl) ?_
        refine lv_iload hx hb dMd_hitBefore_13 (lv_at hl 5 rfl) ?_
        refine lv_iload_n hx hb dMd_hitBefore_15 rfl (lv_at hl 2 rfl) ?_
        refine lv_iload_n hx hb dMd_hitBefore_16 rfl (lv_at hl 3 rfl) ?_
        obtain ⟨z_2, hz_2, hfn⟩ := ob hfn
        refine rd_V (As := [.int v5_b6, .int pl, .int hs]) (rest := []) ⟨hx, hb, hml, hown, htg⟩ (c_Md_hits l dC dI cA o0 r_tag r_lastBit r_plain r_mixed r_chooser r_own r_ownCounter r_sum r_use r_weight r_loopTag r_length r_count r_trust r_waitPlace r_waitHistory r_waitSaid r_mark mt mkd mbt mrw mhs mco mey mu1 mu2 mu3 mu4 mwt mmk g_tag v5_b6 pl hs z_2 hz_2) (cw_V htg wd_918 ws_23 qMd_hits iMd_hits kMd_hits pMd_hits rfl rfl ⟨Nat.le_of_ble_eq_true rfl, Nat.le_of_ble_eq_true rfl⟩) (va_recv hK hP (ci := 11) (q0 := 0) rfl rfl) hN (hP.sub [0, 1] rfl) hK rfl hl.1 rfl (Nat.le_of_ble_eq_true rfl) dMd_hitBefore_17 ⟨Nat.le_of_ble_eq_true rfl, Nat.le_of_ble_eq_true rfl⟩ ?_
        refine lv_if_eq (tgt := 28) hx hb dMd_hitBefore_20 (by decide) (fun c_3 => ?_) (fun c_3 => ?_)
        · rw [if_pos c_3] at hfn
          refine lv_iload hx hb dMd_hitBefore_28 (lv_at hl 4 rfl) ?_
          refine lv_istore (lv' := [(4, .int v4_b6), (0, .ref o0), (1, .int e0), (2, .int pl), (3, .int hs), (5, .int v5_b6)]) hx hb dMd_hitBefore_30 hl (by decide) rfl (fun ls hl => ?_)
          refine lv_iinc (v := (v5_b6 + 1)) (lv' := [(5, .int (v5_b6 + 1)), (4, .int v4_b6), (0, .ref o0), (1, .int e0), (2, .int pl), (3, .int hs)]) hx hb dMd_hitBefore_32 hl (k := 5) rfl rfl (by decide) rfl (fun ls hl => ?_)
          refine lv_goto (tgt := 6) hx hb dMd_hitBefore_35 (by decide) ?_
          exact ih _ v4_b6 (v5_b6 + 1) ls hfn (lv_sub hl [2, 3, 4, 5, 1, 0] rfl)
        · rw [if_neg c_3] at hfn
          refine lv_iload hx hb dMd_hitBefore_23 (lv_at hl 5 rfl) ?_
          refine lv_goto (tgt := 30) hx hb dMd_hitBefore_25 (by decide) ?_
          refine lv_istore (lv' := [(4, .int v5_b6), (0, .ref o0), (1, .int e0), (2, .int pl), (3, .int hs), (5, .int v5_b6)]) hx hb dMd_hitBefore_30 hl (by decide) rfl (fun ls hl => ?_)
          refine lv_iinc (v := (v5_b6 + 1)) (lv' := [(5, .int (v5_b6 + 1)), (4, .int v5_b6), (0, .ref o0), (1, .int e0), (2, .int pl), (3, .int hs)]) hx hb dMd_hitBefore_32 hl (k := 5) rfl rfl (by decide) rfl (fun ls hl => ?_)
          refine lv_goto (tgt := 6) hx hb dMd_hitBefore_35 (by decide) ?_
          exact ih _ v5_b6 (v5_b6 + 1) ls hfn (lv_sub hl [2, 3, 4, 5, 1, 0] rfl)
  have hl := lv_entry ([.ref o0, .int e0, .int pl, .int hs]) (n := 6) (Nat.le_of_ble_eq_true rfl)
  rw [lg_entry_eq]
  generalize (lg_sl ([.ref o0, .int e0, .int pl, .int hs]) ++ List.replicate (6 - (lg_sl ([.ref o0, .int e0, .int pl, .int hs])).length) Slot.unset).toArray = ls at hl ⊢
  have hl : lv_has ls 6 [(0, .ref o0), (1, .int e0), (2, .int pl), (3, .int hs)] := hl
  unfold of_Md_hitBefore at hfn
  refine lv_iconst (v := (-1)) hx hb dMd_hitBefore_0 (by decide) ?_
  refine lv_istore (lv' := [(4, .int (-1)), (0, .ref o0), (1, .int e0), (2, .int pl), (3, .int hs)]) hx hb dMd_hitBefore_1 hl (by decide) rfl (fun ls hl => ?_)
  refine lv_iconst (v := 0) hx hb dMd_hitBefore_3 (by decide) ?_
  refine lv_istore (lv' := [(5, .int 0), (4, .int (-1)), (0, .ref o0), (1, .int e0), (2, .int pl), (3, .int hs)]) hx hb dMd_hitBefore_4 hl (by decide) rfl (fun ls hl => ?_)
  exact blk6 4096 _ (-1) 0 ls hfn (lv_sub hl [2, 3, 4, 5, 1, 0] rfl)
def of_Md_saidBy (mbt : Int32) (mrw : Int32) (g_plain : Nat → Int32) (g_sum : Nat → Int32) (t0 : Int32) (pl : Int32) (hs : Int32) : Option (Bool) := (if 0 ≤ t0 then ((of_Md_taggedRow mbt mrw t0 pl hs).bind fun z_2 => (if z_2 < 0 ∨ 3072 ≤ z_2.toNatClampNeg then none else (if (g_sum z_2.toNatClampNeg) < 0 then some (false) else some (true)))) else (if (tf_Md_plainRow mbt mrw pl) < 0 ∨ 1024 ≤ (tf_Md_plainRow mbt mrw pl).toNatClampNeg then none else (if (g_plain (tf_Md_plainRow mbt mrw pl).toNatClampNeg) ≤ 1 then some (false) else some (true))))
set_option maxHeartbeats 4000000 in
set_option maxRecDepth 100000 in
theorem c_Md_saidBy (l : Launch) (dC : Nat → ClassId) (dI : Nat → Nat → Nat) (cA : ClassId × ClassId × ClassId) (o0 : Nat) (r_plain : Nat) (r_sum : Nat) (r_lastBit : Nat) (r_mixed : Nat) (r_chooser : Nat) (r_own : Nat) (r_ownCounter : Nat) (r_tag : Nat) (r_use : Nat) (r_weight : Nat) (r_loopTag : Nat) (r_length : Nat) (r_count : Nat) (r_trust : Nat) (r_waitPlace : Nat) (r_waitHistory : Nat) (r_waitSaid : Nat) (r_mark : Nat) (mt : Int32) (mkd : Int32) (mbt : Int32) (mrw : Int32) (mhs : Int32) (mco : Int32) (mey : Bool) (mu1 : Int32) (mu2 : Int32) (mu3 : Int32) (mu4 : Int32) (mwt : Int32) (mmk : Int32) (g_plain : Nat → Int32) (g_sum : Nat → Int32) (t0 : Int32) (pl : Int32) (hs : Int32) (rs0 : Bool) (hfn : (of_Md_saidBy mbt mrw g_plain g_sum t0 pl hs) = some (rs0)) : Met l yMd_saidBy wMd_saidBy ({ frames := 2, cells := 0, slots := 0, locals := 47 }) (va_Pc [.ref o0, .int t0, .int pl, .int hs] (Rd (dC, dI) cA [(o0, .inr (11, [.int mt, .int mkd, .int mbt, .int mrw, .int mhs, .int mco, .int (bI mey), .int mu1, .int mu2, .int mu3, .int mu4, .ref r_lastBit, .ref r_plain, .ref r_mixed, .ref r_chooser, .ref r_own, .ref r_ownCounter, .ref r_tag, .ref r_sum, .ref r_use, .ref r_weight, .ref r_loopTag, .ref r_length, .ref r_count, .ref r_trust, .int mwt, .ref r_waitPlace, .ref r_waitHistory, .ref r_waitSaid, .int mmk, .ref r_mark])), (r_plain, .inl (cA.1, 1024, .inl g_plain)), (r_sum, .inl (cA.1, 3072, .inl g_sum))])) (QcRead (bI rs0)) 0 0 (fun _ => False) := by
  refine Met.ofW (cc := cMd_saidBy) (maxL := 4) (ret := (some .boolean)) (by decide) rfl ?_
  intro p e s m args below meth c s₁ B hml hv
  obtain ⟨rfl, hN, hP, hK⟩ := hv
  have hx := B.exec
  have hb := B.bytes
  have hr := B.returns
  have hts := atoms_spec (ws := wMd_saidBy) B.pre
  have htg : ∀ w ∈ GW, w.before _ s = true := fun w h => hts w (List.mem_cons_of_mem _ h)
  have hown : s.vm.findClass R_Md = some m.cls := findClass_of_methodNamed B.named
  have hlocks := B.notSynchronized
  have hl := lv_entry ([.ref o0, .int t0, .int pl, .int hs]) (n := 4) (Nat.le_of_ble_eq_true rfl)
  rw [lg_entry_eq]
  generalize (lg_sl ([.ref o0, .int t0, .int pl, .int hs]) ++ List.replicate (4 - (lg_sl ([.ref o0, .int t0, .int pl, .int hs])).length) Slot.unset).toArray = ls at hl ⊢
  have hl : lv_has ls 4 [(0, .ref o0), (1, .int t0), (2, .int pl), (3, .int hs)] := hl
  unfold of_Md_saidBy at hfn
  refine lv_iload_n hx hb dMd_saidBy_0 rfl (lv_at hl 1 rfl) ?_
  refine lv_if_ge (tgt := 26) hx hb dMd_saidBy_1 (by decide) (fun c_1 => ?_) (fun c_1 => ?_)
  · rw [if_pos c_1] at hfn
    refine lv_aload_n hx hb dMd_saidBy_26 rfl (lv_at hl 0 rfl) ?_
    refine va_get (D := (dC, dI)) (ci := 11) (v := .ref r_sum) (C := R_Md) (T := T_Md) (N := 31) hx hb htg in_Md hown hK hP 0 rfl rfl 18 (by decide) (htg _ wd_813) (fun _ h9 => h9) rfl dMd_saidBy_27 ?_
    refine lv_aload_n hx hb dMd_saidBy_30 rfl (lv_at hl 0 rfl) ?_
    refine lv_iload_n hx hb dMd_saidBy_31 rfl (lv_at hl 1 rfl) ?_
    refine lv_iload_n hx hb dMd_saidBy_32 rfl (lv_at hl 2 rfl) ?_
    refine lv_iload_n hx hb dMd_saidBy_33 rfl (lv_at hl 3 rfl) ?_
    obtain ⟨z_2, hz_2, hfn⟩ := ob hfn
    refine rd_V (As := [.int t0, .int pl, .int hs]) (rest := [.ref r_sum]) ⟨hx, hb, hml, hown, htg⟩ (c_Md_taggedRow l dC dI cA o0 r_lastBit r_plain r_mixed r_chooser r_own r_ownCounter r_tag r_sum r_use r_weight r_loopTag r_length r_count r_trust r_waitPlace r_waitHistory r_waitSaid r_mark mt mkd mbt mrw mhs mco mey mu1 mu2 mu3 mu4 mwt mmk t0 pl hs z_2 hz_2) (cw_V htg wd_922 ws_24 qMd_taggedRow iMd_taggedRow kMd_taggedRow pMd_taggedRow rfl rfl ⟨Nat.le_of_ble_eq_true rfl, Nat.le_of_ble_eq_true rfl⟩) (va_recv hK hP (ci := 11) (q0 := 0) rfl rfl) hN (hP.sub [0] rfl) hK rfl hl.1 rfl (Nat.le_of_ble_eq_true rfl) dMd_saidBy_34 ⟨Nat.le_of_ble_eq_true rfl, Nat.le_of_ble_eq_true rfl⟩ ?_
    obtain ⟨g_3, hfn⟩ := og hfn
    refine va_iald hx hb hK hP 2 0 rfl rfl g_3 dMd_saidBy_37 ?_
    refine lv_if_lt (tgt := 45) hx hb dMd_saidBy_38 (by decide) (fun c_4 => ?_) (fun c_4 => ?_)
    · rw [if_pos c_4] at hfn
      refine lv_iconst (v := 0) hx hb dMd_saidBy_45 (by decide) ?_
      replace hfn := Option.some.inj hfn
      subst hfn
      exact W.zret hx hb hr rfl (fun t ht hW => ⟨rfl, ht⟩) (fun _ h => by cases h) dMd_saidBy_46
    · rw [if_neg c_4] at hfn
      refine lv_iconst (v := 1) hx hb dMd_saidBy_41 (by decide) ?_
      refine lv_goto (tgt := 46) hx hb dMd_saidBy_42 (by decide) ?_
      replace hfn := Option.some.inj hfn
      subst hfn
      exact W.zret hx hb hr rfl (fun t ht hW => ⟨rfl, ht⟩) (fun _ h => by cases h) dMd_saidBy_46
  · rw [if_neg c_1] at hfn
    refine lv_aload_n hx hb dMd_saidBy_4 rfl (lv_at hl 0 rfl) ?_
    refine va_get (D := (dC, dI)) (ci := 11) (v := .ref r_plain) (C := R_Md) (T := T_Md) (N := 31) hx hb htg in_Md hown hK hP 0 rfl rfl 12 (by decide) (htg _ wd_807) (fun _ h9 => h9) rfl dMd_saidBy_5 ?_
    refine lv_aload_n hx hb dMd_saidBy_8 rfl (lv_at hl 0 rfl) ?_
    refine lv_iload_n hx hb dMd_saidBy_9 rfl (lv_at hl 2 rfl) ?_
    refine rd_V (As := [.int pl]) (rest := [.ref r_plain]) ⟨hx, hb, hml, hown, htg⟩ (c_Md_plainRow l dC dI cA o0 r_lastBit r_plain r_mixed r_chooser r_own r_ownCounter r_tag r_sum r_use r_weight r_loopTag r_length r_count r_trust r_waitPlace r_waitHistory r_waitSaid r_mark mt mkd mbt mrw mhs mco mey mu1 mu2 mu3 mu4 mwt mmk pl) (cw_V htg wd_902 ws_19 qMd_plainRow iMd_plainRow kMd_plainRow pMd_plainRow rfl rfl ⟨Nat.le_of_ble_eq_true rfl, Nat.le_of_ble_eq_true rfl⟩) (va_recv hK hP (ci := 11) (q0 := 0) rfl rfl) hN (hP.sub [0] rfl) hK rfl hl.1 rfl (Nat.le_of_ble_eq_true rfl) dMd_saidBy_10 ⟨Nat.le_of_ble_eq_true rfl, Nat.le_of_ble_eq_true rfl⟩ ?_
    obtain ⟨g_5, hfn⟩ := og hfn
    refine va_iald hx hb hK hP 1 0 rfl rfl g_5 dMd_saidBy_13 ?_
    refine lv_iconst (v := 1) hx hb dMd_saidBy_14 (by decide) ?_
    refine lv_icmp_le (tgt := 22) hx hb dMd_saidBy_15 (by decide) (fun c_6 => ?_) (fun c_6 => ?_)
    · rw [if_pos c_6] at hfn
      refine lv_iconst (v := 0) hx hb dMd_saidBy_22 (by decide) ?_
      refine lv_goto (tgt := 46) hx hb dMd_saidBy_23 (by decide) ?_
      replace hfn := Option.some.inj hfn
      subst hfn
      exact W.zret hx hb hr rfl (fun t ht hW => ⟨rfl, ht⟩) (fun _ h => by cases h) dMd_saidBy_46
    · rw [if_neg c_6] at hfn
      refine lv_iconst (v := 1) hx hb dMd_saidBy_18 (by decide) ?_
      refine lv_goto (tgt := 46) hx hb dMd_saidBy_19 (by decide) ?_
      replace hfn := Option.some.inj hfn
      subst hfn
      exact W.zret hx hb hr rfl (fun t ht hW => ⟨rfl, ht⟩) (fun _ h => by cases h) dMd_saidBy_46
def of_Md_total_b20 : Nat → Int32 → Int32 → (Nat → Int32) → Int32 → Int32 → Int32 → Int32 → Option (Int32)
  | 0, _, _, _, _, _, _, _ => none
  | n + 1, mbt, mrw, g_weight, pl, hs, v4_b20, v5_b20 => (if 8 ≤ v5_b20 then some (v4_b20) else (if ((us hs v5_b20) &&& 1) = 1 then (if (((9 * (tf_Md_plainRow mbt mrw pl)) + v5_b20) + 1) < 0 ∨ 9216 ≤ (((9 * (tf_Md_plainRow mbt mrw pl)) + v5_b20) + 1).toNatClampNeg then none else of_Md_total_b20 n mbt mrw g_weight pl hs (v4_b20 + (g_weight (((9 * (tf_Md_plainRow mbt mrw pl)) + v5_b20) + 1).toNatClampNeg)) (v5_b20 + 1)) else (if (((9 * (tf_Md_plainRow mbt mrw pl)) + v5_b20) + 1) < 0 ∨ 9216 ≤ (((9 * (tf_Md_plainRow mbt mrw pl)) + v5_b20) + 1).toNatClampNeg then none else of_Md_total_b20 n mbt mrw g_weight pl hs (v4_b20 + (-(g_weight (((9 * (tf_Md_plainRow mbt mrw pl)) + v5_b20) + 1).toNatClampNeg))) (v5_b20 + 1))))
def of_Md_total (mbt : Int32) (mrw : Int32) (g_weight : Nat → Int32) (pl : Int32) (hs : Int32) : Option (Int32) := (if (9 * (tf_Md_plainRow mbt mrw pl)) < 0 ∨ 9216 ≤ (9 * (tf_Md_plainRow mbt mrw pl)).toNatClampNeg then none else of_Md_total_b20 4096 mbt mrw g_weight pl hs (g_weight (9 * (tf_Md_plainRow mbt mrw pl)).toNatClampNeg) 0)
set_option maxHeartbeats 4000000 in
set_option maxRecDepth 100000 in
theorem c_Md_total (l : Launch) (dC : Nat → ClassId) (dI : Nat → Nat → Nat) (cA : ClassId × ClassId × ClassId) (o0 : Nat) (r_weight : Nat) (r_lastBit : Nat) (r_plain : Nat) (r_mixed : Nat) (r_chooser : Nat) (r_own : Nat) (r_ownCounter : Nat) (r_tag : Nat) (r_sum : Nat) (r_use : Nat) (r_loopTag : Nat) (r_length : Nat) (r_count : Nat) (r_trust : Nat) (r_waitPlace : Nat) (r_waitHistory : Nat) (r_waitSaid : Nat) (r_mark : Nat) (mt : Int32) (mkd : Int32) (mbt : Int32) (mrw : Int32) (mhs : Int32) (mco : Int32) (mey : Bool) (mu1 : Int32) (mu2 : Int32) (mu3 : Int32) (mu4 : Int32) (mwt : Int32) (mmk : Int32) (g_weight : Nat → Int32) (pl : Int32) (hs : Int32) (rs0 : Int32) (hfn : (of_Md_total mbt mrw g_weight pl hs) = some (rs0)) : Met l yMd_total wMd_total ({ frames := 2, cells := 0, slots := 0, locals := 42 }) (va_Pc [.ref o0, .int pl, .int hs] (Rd (dC, dI) cA [(o0, .inr (11, [.int mt, .int mkd, .int mbt, .int mrw, .int mhs, .int mco, .int (bI mey), .int mu1, .int mu2, .int mu3, .int mu4, .ref r_lastBit, .ref r_plain, .ref r_mixed, .ref r_chooser, .ref r_own, .ref r_ownCounter, .ref r_tag, .ref r_sum, .ref r_use, .ref r_weight, .ref r_loopTag, .ref r_length, .ref r_count, .ref r_trust, .int mwt, .ref r_waitPlace, .ref r_waitHistory, .ref r_waitSaid, .int mmk, .ref r_mark])), (r_weight, .inl (cA.1, 9216, .inl g_weight))])) (QcRead rs0) 0 0 (fun _ => False) := by
  refine Met.ofW (cc := cMd_total) (maxL := 6) (ret := (some .int)) (by decide) rfl ?_
  intro p e s m args below meth c s₁ B hml hv
  obtain ⟨rfl, hN, hP, hK⟩ := hv
  have hx := B.exec
  have hb := B.bytes
  have hr := B.returns
  have hts := atoms_spec (ws := wMd_total) B.pre
  have htg : ∀ w ∈ GW, w.before _ s = true := fun w h => hts w (List.mem_cons_of_mem _ h)
  have hown : s.vm.findClass R_Md = some m.cls := findClass_of_methodNamed B.named
  have hlocks := B.notSynchronized
  have blk20 : ∀ n : Nat, ∀ (rs0 : Int32) (v4_b20 : Int32) (v5_b20 : Int32) (ls : Array Slot), of_Md_total_b20 n mbt mrw g_weight pl hs v4_b20 v5_b20 = some (rs0) → lv_has ls 6 [(0, .ref o0), (2, .int hs), (3, .int (9 * (tf_Md_plainRow mbt mrw pl))), (4, .int v4_b20), (5, .int v5_b20)] → W p l e (headSpec wMd_total ({ frames := 2, cells := 0, slots := 0, locals := 42 })).room s m ([.ref o0, .int pl, .int hs] : List Value).toArray below meth c s.heap [] 0 0 (MQ below (QcRead rs0) ([.ref o0, .int pl, .int hs] : List Value).toArray s 0 0 (fun _ => False)) (F0 m 20 ls []) := by
    intro n
    induction n with
    | zero =>
      intro rs0 v4_b20 v5_b20 ls hfn hl
      exact absurd hfn (by intro h; cases h)
    | succ n ih =>
      intro rs0 v4_b20 v5_b20 ls hfn hl
      unfold of_Md_total_b20 at hfn
      refine lv_iload hx hb dMd_total_20 (lv_at hl 4 rfl) ?_
      refine lv_bipush (v := 8) hx hb dMd_total_22 (by decide) ?_
      refine lv_icmp_ge (tgt := 74) hx hb dMd_total_24 (by decide) (fun c_2 => ?_) (fun c_2 => ?_)
      · rw [if_pos c_2] at hfn
        refine lv_iload hx hb dMd_total_74 (lv_at hl 3 rfl) ?_
        replace hfn := Option.some.inj hfn
        subst hfn
        exact W.iret hx hb hr (fun t ht hW => ⟨rfl, ht⟩) (fun _ h => by cases h) dMd_total_76
      · rw [if_neg c_2] at hfn
        refine lv_iload hx hb dMd_total_27 (lv_at hl 3 rfl) ?_
        refine lv_iload_n hx hb dMd_total_29 rfl (lv_at hl 1 rfl) ?_
        refine lv_iload hx hb dMd_total_30 (lv_at hl 4 rfl) ?_
        refine lv_iushr (v := (us hs v5_b20)) hx hb dMd_total_32 rfl ?_
        refine lv_iconst (v := 1) hx hb dMd_total_33 (by decide) ?_
        refine lv_iand hx hb dMd_total_34 ?_
        refine lv_iconst (v := 1) hx hb dMd_total_35 (by decide) ?_
        refine lv_icmp_ne (tgt := 53) hx hb dMd_total_36 (by decide) (fun c_3 => ?_) (fun c_3 => ?_)
        · rw [if_neg c_3] at hfn
          refine lv_aload_n hx hb dMd_total_53 rfl (lv_at hl 0 rfl) ?_
          refine va_get (D := (dC, dI)) (ci := 11) (v := .ref r_weight) (C := R_Md) (T := T_Md) (N := 31) hx hb htg in_Md hown hK hP 0 rfl rfl 20 (by decide) (htg _ wd_815) (fun _ h9 => h9) rfl dMd_total_54 ?_
          refine lv_iload_n hx hb dMd_total_57 rfl (lv_at hl 2 rfl) ?_
          refine lv_iload hx hb dMd_total_58 (lv_at hl 4 rfl) ?_
          refine lv_iadd hx hb dMd_total_60 ?_
          refine lv_iconst (v := 1) hx hb dMd_total_61 (by decide) ?_
          refine lv_iadd hx hb dMd_total_62 ?_
          obtain ⟨g_4, hfn⟩ := og hfn
          refine va_iald hx hb hK hP 1 0 rfl rfl g_4 dMd_total_63 ?_
          refine lv_ineg hx hb dMd_total_64 ?_
          refine lv_iadd hx hb dMd_total_65 ?_
          refine lv_istore (lv' := [(4, .int (v4_b20 + (-(g_weight (((9 * (tf_Md_plainRow mbt mrw pl)) + v5_b20) + 1).toNatClampNeg)))), (0, .ref o0), (2, .int hs), (3, .int (9 * (tf_Md_plainRow mbt mrw pl))), (5, .int v5_b20)]) hx hb dMd_total_66 hl (by decide) rfl (fun ls hl => ?_)
          refine lv_iinc (v := (v5_b20 + 1)) (lv' := [(5, .int (v5_b20 + 1)), (4, .int (v4_b20 + (-(g_weight (((9 * (tf_Md_plainRow mbt mrw pl)) + v5_b20) + 1).toNatClampNeg)))), (0, .ref o0), (2, .int hs), (3, .int (9 * (tf_Md_plainRow mbt mrw pl)))]) hx hb dMd_total_68 hl (k := 4) rfl rfl (by decide) rfl (fun ls hl => ?_)
          refine lv_goto (tgt := 20) hx hb dMd_total_71 (by decide) ?_
          exact ih _ (v4_b20 + (-(g_weight (((9 * (tf_Md_plainRow mbt mrw pl)) + v5_b20) + 1).toNatClampNeg))) (v5_b20 + 1) ls hfn (lv_sub hl [2, 3, 4, 1, 0] rfl)
        · rw [if_pos c_3] at hfn
          refine lv_aload_n hx hb dMd_total_39 rfl (lv_at hl 0 rfl) ?_
          refine va_get (D := (dC, dI)) (ci := 11) (v := .ref r_weight) (C := R_Md) (T := T_Md) (N := 31) hx hb htg in_Md hown hK hP 0 rfl rfl 20 (by decide) (htg _ wd_815) (fun _ h9 => h9) rfl dMd_total_40 ?_
          refine lv_iload_n hx hb dMd_total_43 rfl (lv_at hl 2 rfl) ?_
          refine lv_iload hx hb dMd_total_44 (lv_at hl 4 rfl) ?_
          refine lv_iadd hx hb dMd_total_46 ?_
          refine lv_iconst (v := 1) hx hb dMd_total_47 (by decide) ?_
          refine lv_iadd hx hb dMd_total_48 ?_
          obtain ⟨g_5, hfn⟩ := og hfn
          refine va_iald hx hb hK hP 1 0 rfl rfl g_5 dMd_total_49 ?_
          refine lv_goto (tgt := 65) hx hb dMd_total_50 (by decide) ?_
          refine lv_iadd hx hb dMd_total_65 ?_
          refine lv_istore (lv' := [(4, .int (v4_b20 + (g_weight (((9 * (tf_Md_plainRow mbt mrw pl)) + v5_b20) + 1).toNatClampNeg))), (0, .ref o0), (2, .int hs), (3, .int (9 * (tf_Md_plainRow mbt mrw pl))), (5, .int v5_b20)]) hx hb dMd_total_66 hl (by decide) rfl (fun ls hl => ?_)
          refine lv_iinc (v := (v5_b20 + 1)) (lv' := [(5, .int (v5_b20 + 1)), (4, .int (v4_b20 + (g_weight (((9 * (tf_Md_plainRow mbt mrw pl)) + v5_b20) + 1).toNatClampNeg))), (0, .ref o0), (2, .int hs), (3, .int (9 * (tf_Md_plainRow mbt mrw pl)))]) hx hb dMd_total_68 hl (k := 4) rfl rfl (by decide) rfl (fun ls hl => ?_)
          refine lv_goto (tgt := 20) hx hb dMd_total_71 (by decide) ?_
          exact ih _ (v4_b20 + (g_weight (((9 * (tf_Md_plainRow mbt mrw pl)) + v5_b20) + 1).toNatClampNeg)) (v5_b20 + 1) ls hfn (lv_sub hl [2, 3, 4, 1, 0] rfl)
  have hl := lv_entry ([.ref o0, .int pl, .int hs]) (n := 6) (Nat.le_of_ble_eq_true rfl)
  rw [lg_entry_eq]
  generalize (lg_sl ([.ref o0, .int pl, .int hs]) ++ List.replicate (6 - (lg_sl ([.ref o0, .int pl, .int hs])).length) Slot.unset).toArray = ls at hl ⊢
  have hl : lv_has ls 6 [(0, .ref o0), (1, .int pl), (2, .int hs)] := hl
  unfold of_Md_total at hfn
  refine lv_bipush (v := 9) hx hb dMd_total_0 (by decide) ?_
  refine lv_aload_n hx hb dMd_total_2 rfl (lv_at hl 0 rfl) ?_
  refine lv_iload_n hx hb dMd_total_3 rfl (lv_at hl 1 rfl) ?_
  refine rd_V (As := [.int pl]) (rest := [.int 9]) ⟨hx, hb, hml, hown, htg⟩ (c_Md_plainRow l dC dI cA o0 r_lastBit r_plain r_mixed r_chooser r_own r_ownCounter r_tag r_sum r_use r_weight r_loopTag r_length r_count r_trust r_waitPlace r_waitHistory r_waitSaid r_mark mt mkd mbt mrw mhs mco mey mu1 mu2 mu3 mu4 mwt mmk pl) (cw_V htg wd_902 ws_19 qMd_plainRow iMd_plainRow kMd_plainRow pMd_plainRow rfl rfl ⟨Nat.le_of_ble_eq_true rfl, Nat.le_of_ble_eq_true rfl⟩) (va_recv hK hP (ci := 11) (q0 := 0) rfl rfl) hN (hP.sub [0] rfl) hK rfl hl.1 rfl (Nat.le_of_ble_eq_true rfl) dMd_total_4 ⟨Nat.le_of_ble_eq_true rfl, Nat.le_of_ble_eq_true rfl⟩ ?_
  refine lv_imul hx hb dMd_total_7 ?_
  refine lv_istore_n (lv' := [(3, .int (9 * (tf_Md_plainRow mbt mrw pl))), (0, .ref o0), (1, .int pl), (2, .int hs)]) hx hb dMd_total_8 rfl hl (by decide) rfl (fun ls hl => ?_)
  refine lv_aload_n hx hb dMd_total_9 rfl (lv_at hl 1 rfl) ?_
  refine va_get (D := (dC, dI)) (ci := 11) (v := .ref r_weight) (C := R_Md) (T := T_Md) (N := 31) hx hb htg in_Md hown hK hP 0 rfl rfl 20 (by decide) (htg _ wd_815) (fun _ h9 => h9) rfl dMd_total_10 ?_
  refine lv_iload_n hx hb dMd_total_13 rfl (lv_at hl 0 rfl) ?_
  obtain ⟨g_1, hfn⟩ := og hfn
  refine va_iald hx hb hK hP 1 0 rfl rfl g_1 dMd_total_14 ?_
  refine lv_istore (lv' := [(4, .int (g_weight (9 * (tf_Md_plainRow mbt mrw pl)).toNatClampNeg)), (3, .int (9 * (tf_Md_plainRow mbt mrw pl))), (0, .ref o0), (1, .int pl), (2, .int hs)]) hx hb dMd_total_15 hl (by decide) rfl (fun ls hl => ?_)
  refine lv_iconst (v := 0) hx hb dMd_total_17 (by decide) ?_
  refine lv_istore (lv' := [(5, .int 0), (4, .int (g_weight (9 * (tf_Md_plainRow mbt mrw pl)).toNatClampNeg)), (3, .int (9 * (tf_Md_plainRow mbt mrw pl))), (0, .ref o0), (1, .int pl), (2, .int hs)]) hx hb dMd_total_18 hl (by decide) rfl (fun ls hl => ?_)
  exact blk20 4096 _ (g_weight (9 * (tf_Md_plainRow mbt mrw pl)).toNatClampNeg) 0 ls hfn (lv_sub hl [3, 5, 2, 1, 0] rfl)
def of_Md_turn_b25 (x0 : Int32) (u0 : Bool) (w_r_weight_a_b25 : Nat → Int32) : Option ((Nat → Int32)) := (if (bI u0) = 0 then (if x0 < 0 ∨ 9216 ≤ x0.toNatClampNeg then none else (if (w_r_weight_a_b25 x0.toNatClampNeg) ≤ (-64) then some (w_r_weight_a_b25) else (if x0 < 0 ∨ 9216 ≤ x0.toNatClampNeg then none else (if x0 < 0 ∨ 9216 ≤ x0.toNatClampNeg then none else some ((upd w_r_weight_a_b25 x0.toNatClampNeg ((w_r_weight_a_b25 x0.toNatClampNeg) - 1))))))) else some (w_r_weight_a_b25))
def of_Md_turn (g_weight : Nat → Int32) (x0 : Int32) (u0 : Bool) : Option ((Nat → Int32)) := (if (bI u0) = 0 then of_Md_turn_b25 x0 u0 g_weight else (if x0 < 0 ∨ 9216 ≤ x0.toNatClampNeg then none else (if 63 ≤ (g_weight x0.toNatClampNeg) then of_Md_turn_b25 x0 u0 g_weight else (if x0 < 0 ∨ 9216 ≤ x0.toNatClampNeg then none else (if x0 < 0 ∨ 9216 ≤ x0.toNatClampNeg then none else of_Md_turn_b25 x0 u0 (upd g_weight x0.toNatClampNeg ((g_weight x0.toNatClampNeg) + 1)))))))
set_option maxHeartbeats 4000000 in
set_option maxRecDepth 100000 in
theorem c_Md_turn (l : Launch) (dC : Nat → ClassId) (dI : Nat → Nat → Nat) (cA : ClassId × ClassId × ClassId) (zz : Nat) (o0 : Nat) (r_weight : Nat) (r_lastBit : Nat) (r_plain : Nat) (r_mixed : Nat) (r_chooser : Nat) (r_own : Nat) (r_ownCounter : Nat) (r_tag : Nat) (r_sum : Nat) (r_use : Nat) (r_loopTag : Nat) (r_length : Nat) (r_count : Nat) (r_trust : Nat) (r_waitPlace : Nat) (r_waitHistory : Nat) (r_waitSaid : Nat) (r_mark : Nat) (mt : Int32) (mkd : Int32) (mbt : Int32) (mrw : Int32) (mhs : Int32) (mco : Int32) (mey : Bool) (mu1 : Int32) (mu2 : Int32) (mu3 : Int32) (mu4 : Int32) (mwt : Int32) (mmk : Int32) (g_weight : Nat → Int32) (x0 : Int32) (u0 : Bool) (rs0 : (Nat → Int32)) (hfn : (of_Md_turn g_weight x0 u0) = some (rs0)) : Met l yMd_turn wMd_turn ({ frames := 0, cells := 0, slots := 0, locals := 0 }) (va_Pc [.ref o0, .int x0, .int (bI u0)] (Wr (dC, dI) cA zz [(o0, .inr (11, [.int mt, .int mkd, .int mbt, .int mrw, .int mhs, .int mco, .int (bI mey), .int mu1, .int mu2, .int mu3, .int mu4, .ref r_lastBit, .ref r_plain, .ref r_mixed, .ref r_chooser, .ref r_own, .ref r_ownCounter, .ref r_tag, .ref r_sum, .ref r_use, .ref r_weight, .ref r_loopTag, .ref r_length, .ref r_count, .ref r_trust, .int mwt, .ref r_waitPlace, .ref r_waitHistory, .ref r_waitSaid, .int mmk, .ref r_mark])), (r_weight, .inl (cA.1, 9216, .inl g_weight))])) (va_Qv (fun w9 => w9 = [(o0, .inr (11, [.int mt, .int mkd, .int mbt, .int mrw, .int mhs, .int mco, .int (bI mey), .int mu1, .int mu2, .int mu3, .int mu4, .ref r_lastBit, .ref r_plain, .ref r_mixed, .ref r_chooser, .ref r_own, .ref r_ownCounter, .ref r_tag, .ref r_sum, .ref r_use, .ref r_weight, .ref r_loopTag, .ref r_length, .ref r_count, .ref r_trust, .int mwt, .ref r_waitPlace, .ref r_waitHistory, .ref r_waitSaid, .int mmk, .ref r_mark])), (r_weight, .inl (cA.1, 9216, .inl rs0))]) (At (dC, dI) cA (va_A [(o0, .inr (11, [.int mt, .int mkd, .int mbt, .int mrw, .int mhs, .int mco, .int (bI mey), .int mu1, .int mu2, .int mu3, .int mu4, .ref r_lastBit, .ref r_plain, .ref r_mixed, .ref r_chooser, .ref r_own, .ref r_ownCounter, .ref r_tag, .ref r_sum, .ref r_use, .ref r_weight, .ref r_loopTag, .ref r_length, .ref r_count, .ref r_trust, .int mwt, .ref r_waitPlace, .ref r_waitHistory, .ref r_waitSaid, .int mmk, .ref r_mark])), (r_weight, .inl (cA.1, 9216, .inl g_weight))] zz)) (va_A [(o0, .inr (11, [.int mt, .int mkd, .int mbt, .int mrw, .int mhs, .int mco, .int (bI mey), .int mu1, .int mu2, .int mu3, .int mu4, .ref r_lastBit, .ref r_plain, .ref r_mixed, .ref r_chooser, .ref r_own, .ref r_ownCounter, .ref r_tag, .ref r_sum, .ref r_use, .ref r_weight, .ref r_loopTag, .ref r_length, .ref r_count, .ref r_trust, .int mwt, .ref r_waitPlace, .ref r_waitHistory, .ref r_waitSaid, .int mmk, .ref r_mark])), (r_weight, .inl (cA.1, 9216, .inl g_weight))] zz)) 0 0 (va_A [(o0, .inr (11, [.int mt, .int mkd, .int mbt, .int mrw, .int mhs, .int mco, .int (bI mey), .int mu1, .int mu2, .int mu3, .int mu4, .ref r_lastBit, .ref r_plain, .ref r_mixed, .ref r_chooser, .ref r_own, .ref r_ownCounter, .ref r_tag, .ref r_sum, .ref r_use, .ref r_weight, .ref r_loopTag, .ref r_length, .ref r_count, .ref r_trust, .int mwt, .ref r_waitPlace, .ref r_waitHistory, .ref r_waitSaid, .int mmk, .ref r_mark])), (r_weight, .inl (cA.1, 9216, .inl g_weight))] zz) := by
  refine Met.ofW (cc := cMd_turn) (maxL := 3) (ret := none) (by decide) rfl ?_
  intro p e s m args below meth c s₁ B hml hv
  obtain ⟨rfl, hsz, hN, hP, hK, hD0⟩ := hv
  have hx := B.exec
  have hb := B.bytes
  have hr := B.returns
  have hts := atoms_spec (ws := wMd_turn) B.pre
  have htg : ∀ w ∈ GW, w.before _ s = true := fun w h => hts w (List.mem_cons_of_mem _ h)
  have hown : s.vm.findClass R_Md = some m.cls := findClass_of_methodNamed B.named
  have hlocks := B.notSynchronized
  subst hsz
  have hD := hD0.self (sz := s.heap.size)
  generalize hAe : va_A [(o0, .inr (11, [.int mt, .int mkd, .int mbt, .int mrw, .int mhs, .int mco, .int (bI mey), .int mu1, .int mu2, .int mu3, .int mu4, .ref r_lastBit, .ref r_plain, .ref r_mixed, .ref r_chooser, .ref r_own, .ref r_ownCounter, .ref r_tag, .ref r_sum, .ref r_use, .ref r_weight, .ref r_loopTag, .ref r_length, .ref r_count, .ref r_trust, .int mwt, .ref r_waitPlace, .ref r_waitHistory, .ref r_waitSaid, .int mmk, .ref r_mark])), (r_weight, .inl (cA.1, 9216, .inl g_weight))] s.heap.size = A at hD ⊢
  have hA : ∀ q : Nat, s.heap.size ≤ q → A q := fun q h => by rw [← hAe]; exact Or.inr h
  have hS : va_S A s.heap s.heap [] := va_S.rf
  have hP : va_P (dC, dI) vwCl [(o0, .inr (11, [.int mt, .int mkd, .int mbt, .int mrw, .int mhs, .int mco, .int (bI mey), .int mu1, .int mu2, .int mu3, .int mu4, .ref r_lastBit, .ref r_plain, .ref r_mixed, .ref r_chooser, .ref r_own, .ref r_ownCounter, .ref r_tag, .ref r_sum, .ref r_use, .ref r_weight, .ref r_loopTag, .ref r_length, .ref r_count, .ref r_trust, .int mwt, .ref r_waitPlace, .ref r_waitHistory, .ref r_waitSaid, .int mmk, .ref r_mark])), (r_weight, .inl (cA.1, 9216, .inl g_weight))] s.heap := hP
  have blk25 : ∀ (rs0 : (Nat → Int32)) (w_r_weight_a_b25 : Nat → Int32) (H : Heap) (locs : List Loc) (ls : Array Slot), of_Md_turn_b25 x0 u0 w_r_weight_a_b25 = some (rs0) → va_P (dC, dI) vwCl [(o0, .inr (11, [.int mt, .int mkd, .int mbt, .int mrw, .int mhs, .int mco, .int (bI mey), .int mu1, .int mu2, .int mu3, .int mu4, .ref r_lastBit, .ref r_plain, .ref r_mixed, .ref r_chooser, .ref r_own, .ref r_ownCounter, .ref r_tag, .ref r_sum, .ref r_use, .ref r_weight, .ref r_loopTag, .ref r_length, .ref r_count, .ref r_trust, .int mwt, .ref r_waitPlace, .ref r_waitHistory, .ref r_waitSaid, .int mmk, .ref r_mark])), (r_weight, .inl (cA.1, 9216, .inl w_r_weight_a_b25))] H → va_D A [(o0, .inr (11, [.int mt, .int mkd, .int mbt, .int mrw, .int mhs, .int mco, .int (bI mey), .int mu1, .int mu2, .int mu3, .int mu4, .ref r_lastBit, .ref r_plain, .ref r_mixed, .ref r_chooser, .ref r_own, .ref r_ownCounter, .ref r_tag, .ref r_sum, .ref r_use, .ref r_weight, .ref r_loopTag, .ref r_length, .ref r_count, .ref r_trust, .int mwt, .ref r_waitPlace, .ref r_waitHistory, .ref r_waitSaid, .int mmk, .ref r_mark])), (r_weight, .inl (cA.1, 9216, .inl w_r_weight_a_b25))] → va_S A s.heap H locs → lv_has ls 3 [(0, .ref o0), (1, .int x0), (2, .int (bI u0))] → W p l e (headSpec wMd_turn ({ frames := 0, cells := 0, slots := 0, locals := 0 })).room s m ([.ref o0, .int x0, .int (bI u0)] : List Value).toArray below meth c H locs 0 0 (MQ below (va_Qv (fun w9 => w9 = [(o0, .inr (11, [.int mt, .int mkd, .int mbt, .int mrw, .int mhs, .int mco, .int (bI mey), .int mu1, .int mu2, .int mu3, .int mu4, .ref r_lastBit, .ref r_plain, .ref r_mixed, .ref r_chooser, .ref r_own, .ref r_ownCounter, .ref r_tag, .ref r_sum, .ref r_use, .ref r_weight, .ref r_loopTag, .ref r_length, .ref r_count, .ref r_trust, .int mwt, .ref r_waitPlace, .ref r_waitHistory, .ref r_waitSaid, .int mmk, .ref r_mark])), (r_weight, .inl (cA.1, 9216, .inl rs0))]) (At (dC, dI) cA A) A) ([.ref o0, .int x0, .int (bI u0)] : List Value).toArray s 0 0 A) (F0 m 25 ls []) := by
    intro rs0 w_r_weight_a_b25 H locs ls hfn hP hD hS hl
    unfold of_Md_turn_b25 at hfn
    refine lv_iload_n hx hb dMd_turn_25 rfl (lv_at hl 2 rfl) ?_
    refine lv_if_ne (tgt := 50) hx hb dMd_turn_26 (by decide) (fun c_6 => ?_) (fun c_6 => ?_)
    · rw [if_neg c_6] at hfn
      replace hfn := Option.some.inj hfn
      subst hfn
      exact W.vret hx hb hr (fun t ht hW => ⟨⟨_, rfl, rfl, ⟨by rw [ht]; exact hP.sub [0, 1] rfl, va_K.moved hW.alike hK, hD.sub [0, 1] (by decide) rfl⟩⟩, hS.F ht⟩) hS.2.2 dMd_turn_50
    · rw [if_pos c_6] at hfn
      refine lv_aload_n hx hb dMd_turn_29 rfl (lv_at hl 0 rfl) ?_
      refine va_get (D := (dC, dI)) (ci := 11) (v := .ref r_weight) (C := R_Md) (T := T_Md) (N := 31) hx hb htg in_Md hown hK hP 0 rfl rfl 20 (by decide) (htg _ wd_815) (fun _ h9 => h9) rfl dMd_turn_30 ?_
      refine lv_iload_n hx hb dMd_turn_33 rfl (lv_at hl 1 rfl) ?_
      obtain ⟨g_7, hfn⟩ := og hfn
      refine va_iald hx hb hK hP 1 0 rfl rfl g_7 dMd_turn_34 ?_
      refine lv_bipush (v := (-64)) hx hb dMd_turn_35 (by decide) ?_
      refine lv_icmp_le (tgt := 50) hx hb dMd_turn_37 (by decide) (fun c_8 => ?_) (fun c_8 => ?_)
      · rw [if_pos c_8] at hfn
        replace hfn := Option.some.inj hfn
        subst hfn
        exact W.vret hx hb hr (fun t ht hW => ⟨⟨_, rfl, rfl, ⟨by rw [ht]; exact hP.sub [0, 1] rfl, va_K.moved hW.alike hK, hD.sub [0, 1] (by decide) rfl⟩⟩, hS.F ht⟩) hS.2.2 dMd_turn_50
      · rw [if_neg c_8] at hfn
        refine lv_aload_n hx hb dMd_turn_40 rfl (lv_at hl 0 rfl) ?_
        refine va_get (D := (dC, dI)) (ci := 11) (v := .ref r_weight) (C := R_Md) (T := T_Md) (N := 31) hx hb htg in_Md hown hK hP 0 rfl rfl 20 (by decide) (htg _ wd_815) (fun _ h9 => h9) rfl dMd_turn_41 ?_
        refine lv_iload_n hx hb dMd_turn_44 rfl (lv_at hl 1 rfl) ?_
        refine lv_dup2_11 hx hb dMd_turn_45 rfl rfl ?_
        obtain ⟨g_9, hfn⟩ := og hfn
        refine va_iald hx hb hK hP 1 0 rfl rfl g_9 dMd_turn_46 ?_
        refine lv_iconst (v := 1) hx hb dMd_turn_47 (by decide) ?_
        refine lv_isub hx hb dMd_turn_48 ?_
        obtain ⟨g_10, hfn⟩ := og hfn
        refine va_iast hx hb hK hP hD hS 1 0 rfl rfl g_10 dMd_turn_49 (fun H locs hP hD hS => ?_)
        have hP : va_P (dC, dI) vwCl [(o0, .inr (11, [.int mt, .int mkd, .int mbt, .int mrw, .int mhs, .int mco, .int (bI mey), .int mu1, .int mu2, .int mu3, .int mu4, .ref r_lastBit, .ref r_plain, .ref r_mixed, .ref r_chooser, .ref r_own, .ref r_ownCounter, .ref r_tag, .ref r_sum, .ref r_use, .ref r_weight, .ref r_loopTag, .ref r_length, .ref r_count, .ref r_trust, .int mwt, .ref r_waitPlace, .ref r_waitHistory, .ref r_waitSaid, .int mmk, .ref r_mark])), (r_weight, .inl (cA.1, 9216, .inl (upd w_r_weight_a_b25 x0.toNatClampNeg ((w_r_weight_a_b25 x0.toNatClampNeg) - 1))))] H := hP
        have hD : va_D A [(o0, .inr (11, [.int mt, .int mkd, .int mbt, .int mrw, .int mhs, .int mco, .int (bI mey), .int mu1, .int mu2, .int mu3, .int mu4, .ref r_lastBit, .ref r_plain, .ref r_mixed, .ref r_chooser, .ref r_own, .ref r_ownCounter, .ref r_tag, .ref r_sum, .ref r_use, .ref r_weight, .ref r_loopTag, .ref r_length, .ref r_count, .ref r_trust, .int mwt, .ref r_waitPlace, .ref r_waitHistory, .ref r_waitSaid, .int mmk, .ref r_mark])), (r_weight, .inl (cA.1, 9216, .inl (upd w_r_weight_a_b25 x0.toNatClampNeg ((w_r_weight_a_b25 x0.toNatClampNeg) - 1))))] := hD
        replace hfn := Option.some.inj hfn
        subst hfn
        exact W.vret hx hb hr (fun t ht hW => ⟨⟨_, rfl, rfl, ⟨by rw [ht]; exact hP.sub [0, 1] rfl, va_K.moved hW.alike hK, hD.sub [0, 1] (by decide) rfl⟩⟩, hS.F ht⟩) hS.2.2 dMd_turn_50
  have hl := lv_entry ([.ref o0, .int x0, .int (bI u0)]) (n := 3) (Nat.le_of_ble_eq_true rfl)
  rw [lg_entry_eq]
  generalize (lg_sl ([.ref o0, .int x0, .int (bI u0)]) ++ List.replicate (3 - (lg_sl ([.ref o0, .int x0, .int (bI u0)])).length) Slot.unset).toArray = ls at hl ⊢
  have hl : lv_has ls 3 [(0, .ref o0), (1, .int x0), (2, .int (bI u0))] := hl
  unfold of_Md_turn at hfn
  refine lv_iload_n hx hb dMd_turn_0 rfl (lv_at hl 2 rfl) ?_
  refine lv_if_eq (tgt := 25) hx hb dMd_turn_1 (by decide) (fun c_1 => ?_) (fun c_1 => ?_)
  · rw [if_pos c_1] at hfn
    exact blk25 _ g_weight _ _ ls hfn (hP.sub [0, 1] rfl) (hD.sub [0, 1] (by decide) rfl) hS (lv_sub hl [0, 1, 2] rfl)
  · rw [if_neg c_1] at hfn
    refine lv_aload_n hx hb dMd_turn_4 rfl (lv_at hl 0 rfl) ?_
    refine va_get (D := (dC, dI)) (ci := 11) (v := .ref r_weight) (C := R_Md) (T := T_Md) (N := 31) hx hb htg in_Md hown hK hP 0 rfl rfl 20 (by decide) (htg _ wd_815) (fun _ h9 => h9) rfl dMd_turn_5 ?_
    refine lv_iload_n hx hb dMd_turn_8 rfl (lv_at hl 1 rfl) ?_
    obtain ⟨g_2, hfn⟩ := og hfn
    refine va_iald hx hb hK hP 1 0 rfl rfl g_2 dMd_turn_9 ?_
    refine lv_bipush (v := 63) hx hb dMd_turn_10 (by decide) ?_
    refine lv_icmp_ge (tgt := 25) hx hb dMd_turn_12 (by decide) (fun c_3 => ?_) (fun c_3 => ?_)
    · rw [if_pos c_3] at hfn
      exact blk25 _ g_weight _ _ ls hfn (hP.sub [0, 1] rfl) (hD.sub [0, 1] (by decide) rfl) hS (lv_sub hl [0, 1, 2] rfl)
    · rw [if_neg c_3] at hfn
      refine lv_aload_n hx hb dMd_turn_15 rfl (lv_at hl 0 rfl) ?_
      refine va_get (D := (dC, dI)) (ci := 11) (v := .ref r_weight) (C := R_Md) (T := T_Md) (N := 31) hx hb htg in_Md hown hK hP 0 rfl rfl 20 (by decide) (htg _ wd_815) (fun _ h9 => h9) rfl dMd_turn_16 ?_
      refine lv_iload_n hx hb dMd_turn_19 rfl (lv_at hl 1 rfl) ?_
      refine lv_dup2_11 hx hb dMd_turn_20 rfl rfl ?_
      obtain ⟨g_4, hfn⟩ := og hfn
      refine va_iald hx hb hK hP 1 0 rfl rfl g_4 dMd_turn_21 ?_
      refine lv_iconst (v := 1) hx hb dMd_turn_22 (by decide) ?_
      refine lv_iadd hx hb dMd_turn_23 ?_
      obtain ⟨g_5, hfn⟩ := og hfn
      refine va_iast hx hb hK hP hD hS 1 0 rfl rfl g_5 dMd_turn_24 (fun H locs hP hD hS => ?_)
      have hP : va_P (dC, dI) vwCl [(o0, .inr (11, [.int mt, .int mkd, .int mbt, .int mrw, .int mhs, .int mco, .int (bI mey), .int mu1, .int mu2, .int mu3, .int mu4, .ref r_lastBit, .ref r_plain, .ref r_mixed, .ref r_chooser, .ref r_own, .ref r_ownCounter, .ref r_tag, .ref r_sum, .ref r_use, .ref r_weight, .ref r_loopTag, .ref r_length, .ref r_count, .ref r_trust, .int mwt, .ref r_waitPlace, .ref r_waitHistory, .ref r_waitSaid, .int mmk, .ref r_mark])), (r_weight, .inl (cA.1, 9216, .inl (upd g_weight x0.toNatClampNeg ((g_weight x0.toNatClampNeg) + 1))))] H := hP
      have hD : va_D A [(o0, .inr (11, [.int mt, .int mkd, .int mbt, .int mrw, .int mhs, .int mco, .int (bI mey), .int mu1, .int mu2, .int mu3, .int mu4, .ref r_lastBit, .ref r_plain, .ref r_mixed, .ref r_chooser, .ref r_own, .ref r_ownCounter, .ref r_tag, .ref r_sum, .ref r_use, .ref r_weight, .ref r_loopTag, .ref r_length, .ref r_count, .ref r_trust, .int mwt, .ref r_waitPlace, .ref r_waitHistory, .ref r_waitSaid, .int mmk, .ref r_mark])), (r_weight, .inl (cA.1, 9216, .inl (upd g_weight x0.toNatClampNeg ((g_weight x0.toNatClampNeg) + 1))))] := hD
      exact blk25 _ (upd g_weight x0.toNatClampNeg ((g_weight x0.toNatClampNeg) + 1)) _ _ ls hfn (hP.sub [0, 1] rfl) (hD.sub [0, 1] (by decide) rfl) hS (lv_sub hl [0, 1, 2] rfl)
def of_Md_hasLoop (mbt : Int32) (mrw : Int32) (g_loopTag : Nat → Int32) (pl : Int32) : Option (Bool) := (if (tf_Md_plainRow mbt mrw pl) < 0 ∨ 1024 ≤ (tf_Md_plainRow mbt mrw pl).toNatClampNeg then none else (if (g_loopTag (tf_Md_plainRow mbt mrw pl).toNatClampNeg) = ((us pl mbt) &&& 255) then some (true) else some (false)))
set_option maxHeartbeats 4000000 in
set_option maxRecDepth 100000 in
theorem c_Md_hasLoop (l : Launch) (dC : Nat → ClassId) (dI : Nat → Nat → Nat) (cA : ClassId × ClassId × ClassId) (o0 : Nat) (r_loopTag : Nat) (r_lastBit : Nat) (r_plain : Nat) (r_mixed : Nat) (r_chooser : Nat) (r_own : Nat) (r_ownCounter : Nat) (r_tag : Nat) (r_sum : Nat) (r_use : Nat) (r_weight : Nat) (r_length : Nat) (r_count : Nat) (r_trust : Nat) (r_waitPlace : Nat) (r_waitHistory : Nat) (r_waitSaid : Nat) (r_mark : Nat) (mt : Int32) (mkd : Int32) (mbt : Int32) (mrw : Int32) (mhs : Int32) (mco : Int32) (mey : Bool) (mu1 : Int32) (mu2 : Int32) (mu3 : Int32) (mu4 : Int32) (mwt : Int32) (mmk : Int32) (g_loopTag : Nat → Int32) (pl : Int32) (rs0 : Bool) (hfn : (of_Md_hasLoop mbt mrw g_loopTag pl) = some (rs0)) : Met l yMd_hasLoop wMd_hasLoop ({ frames := 2, cells := 0, slots := 0, locals := 42 }) (va_Pc [.ref o0, .int pl] (Rd (dC, dI) cA [(o0, .inr (11, [.int mt, .int mkd, .int mbt, .int mrw, .int mhs, .int mco, .int (bI mey), .int mu1, .int mu2, .int mu3, .int mu4, .ref r_lastBit, .ref r_plain, .ref r_mixed, .ref r_chooser, .ref r_own, .ref r_ownCounter, .ref r_tag, .ref r_sum, .ref r_use, .ref r_weight, .ref r_loopTag, .ref r_length, .ref r_count, .ref r_trust, .int mwt, .ref r_waitPlace, .ref r_waitHistory, .ref r_waitSaid, .int mmk, .ref r_mark])), (r_loopTag, .inl (cA.1, 1024, .inl g_loopTag))])) (QcRead (bI rs0)) 0 0 (fun _ => False) := by
  refine Met.ofW (cc := cMd_hasLoop) (maxL := 2) (ret := (some .boolean)) (by decide) rfl ?_
  intro p e s m args below meth c s₁ B hml hv
  obtain ⟨rfl, hN, hP, hK⟩ := hv
  have hx := B.exec
  have hb := B.bytes
  have hr := B.returns
  have hts := atoms_spec (ws := wMd_hasLoop) B.pre
  have htg : ∀ w ∈ GW, w.before _ s = true := fun w h => hts w (List.mem_cons_of_mem _ h)
  have hown : s.vm.findClass R_Md = some m.cls := findClass_of_methodNamed B.named
  have hlocks := B.notSynchronized
  have hl := lv_entry ([.ref o0, .int pl]) (n := 2) (Nat.le_of_ble_eq_true rfl)
  rw [lg_entry_eq]
  generalize (lg_sl ([.ref o0, .int pl]) ++ List.replicate (2 - (lg_sl ([.ref o0, .int pl])).length) Slot.unset).toArray = ls at hl ⊢
  have hl : lv_has ls 2 [(0, .ref o0), (1, .int pl)] := hl
  unfold of_Md_hasLoop at hfn
  refine lv_aload_n hx hb dMd_hasLoop_0 rfl (lv_at hl 0 rfl) ?_
  refine va_get (D := (dC, dI)) (ci := 11) (v := .ref r_loopTag) (C := R_Md) (T := T_Md) (N := 31) hx hb htg in_Md hown hK hP 0 rfl rfl 21 (by decide) (htg _ wd_816) (fun _ h9 => h9) rfl dMd_hasLoop_1 ?_
  refine lv_aload_n hx hb dMd_hasLoop_4 rfl (lv_at hl 0 rfl) ?_
  refine lv_iload_n hx hb dMd_hasLoop_5 rfl (lv_at hl 1 rfl) ?_
  refine rd_V (As := [.int pl]) (rest := [.ref r_loopTag]) ⟨hx, hb, hml, hown, htg⟩ (c_Md_plainRow l dC dI cA o0 r_lastBit r_plain r_mixed r_chooser r_own r_ownCounter r_tag r_sum r_use r_weight r_loopTag r_length r_count r_trust r_waitPlace r_waitHistory r_waitSaid r_mark mt mkd mbt mrw mhs mco mey mu1 mu2 mu3 mu4 mwt mmk pl) (cw_V htg wd_902 ws_19 qMd_plainRow iMd_plainRow kMd_plainRow pMd_plainRow rfl rfl ⟨Nat.le_of_ble_eq_true rfl, Nat.le_of_ble_eq_true rfl⟩) (va_recv hK hP (ci := 11) (q0 := 0) rfl rfl) hN (hP.sub [0] rfl) hK rfl hl.1 rfl (Nat.le_of_ble_eq_true rfl) dMd_hasLoop_6 ⟨Nat.le_of_ble_eq_true rfl, Nat.le_of_ble_eq_true rfl⟩ ?_
  obtain ⟨g_1, hfn⟩ := og hfn
  refine va_iald hx hb hK hP 1 0 rfl rfl g_1 dMd_hasLoop_9 ?_
  refine lv_iload_n hx hb dMd_hasLoop_10 rfl (lv_at hl 1 rfl) ?_
  refine lv_aload_n hx hb dMd_hasLoop_11 rfl (lv_at hl 0 rfl) ?_
  refine va_get (D := (dC, dI)) (ci := 11) (v := .int mbt) (C := R_Md) (T := T_Md) (N := 31) hx hb htg in_Md hown hK hP 0 rfl rfl 2 (by decide) (htg _ wd_797) (fun _ h9 => h9) rfl dMd_hasLoop_12 ?_
  refine lv_iushr (v := (us pl mbt)) hx hb dMd_hasLoop_15 rfl ?_
  refine lv_sipush (v := 255) hx hb dMd_hasLoop_16 (by decide) ?_
  refine lv_iand hx hb dMd_hasLoop_19 ?_
  refine lv_icmp_ne (tgt := 27) hx hb dMd_hasLoop_20 (by decide) (fun c_2 => ?_) (fun c_2 => ?_)
  · rw [if_neg c_2] at hfn
    refine lv_iconst (v := 0) hx hb dMd_hasLoop_27 (by decide) ?_
    replace hfn := Option.some.inj hfn
    subst hfn
    exact W.zret hx hb hr rfl (fun t ht hW => ⟨rfl, ht⟩) (fun _ h => by cases h) dMd_hasLoop_28
  · rw [if_pos c_2] at hfn
    refine lv_iconst (v := 1) hx hb dMd_hasLoop_23 (by decide) ?_
    refine lv_goto (tgt := 28) hx hb dMd_hasLoop_24 (by decide) ?_
    replace hfn := Option.some.inj hfn
    subst hfn
    exact W.zret hx hb hr rfl (fun t ht hW => ⟨rfl, ht⟩) (fun _ h => by cases h) dMd_hasLoop_28
