def of_Md_says_9 (mco : Int32) : Option (Bool) := (if ((us mco 16) &&& 1) = 1 then some (true) else some (false))
set_option maxHeartbeats 4000000 in
set_option maxRecDepth 100000 in
theorem c_Md_says_9 (l : Launch) (dC : Nat → ClassId) (dI : Nat → Nat → Nat) (cA : ClassId × ClassId × ClassId) (o0 : Nat) (r_lastBit : Nat) (r_plain : Nat) (r_mixed : Nat) (r_chooser : Nat) (r_own : Nat) (r_ownCounter : Nat) (r_tag : Nat) (r_sum : Nat) (r_use : Nat) (r_weight : Nat) (r_loopTag : Nat) (r_length : Nat) (r_count : Nat) (r_trust : Nat) (r_waitPlace : Nat) (r_waitHistory : Nat) (r_waitSaid : Nat) (r_mark : Nat) (mt : Int32) (mbt : Int32) (mrw : Int32) (mhs : Int32) (mco : Int32) (mey : Bool) (mu1 : Int32) (mu2 : Int32) (mu3 : Int32) (mu4 : Int32) (mwt : Int32) (mmk : Int32) (pl : Int32) (hs : Int32) (rs0 : Bool) (hfn : (of_Md_says_9 mco) = some (rs0)) : Met l yMd_says wMd_says ({ frames := 2, cells := 0, slots := 0, locals := 42 }) (va_Pc [.ref o0, .int pl, .int hs] (Rd (dC, dI) cA [(o0, .inr (11, [.int mt, .int 9, .int mbt, .int mrw, .int mhs, .int mco, .int (bI mey), .int mu1, .int mu2, .int mu3, .int mu4, .ref r_lastBit, .ref r_plain, .ref r_mixed, .ref r_chooser, .ref r_own, .ref r_ownCounter, .ref r_tag, .ref r_sum, .ref r_use, .ref r_weight, .ref r_loopTag, .ref r_length, .ref r_count, .ref r_trust, .int mwt, .ref r_waitPlace, .ref r_waitHistory, .ref r_waitSaid, .int mmk, .ref r_mark]))])) (QcRead (bI rs0)) 0 0 (fun _ => False) := by
  refine Met.ofW (cc := cMd_says) (maxL := 4) (ret := (some .boolean)) (by decide) rfl ?_
  intro p e s m args below meth c s₁ B hml hv
  obtain ⟨rfl, hN, hP, hK⟩ := hv
  have hx := B.exec
  have hb := B.bytes
  have hr := B.returns
  have hts := atoms_spec (ws := wMd_says) B.pre
  have htg : ∀ w ∈ GW, w.before _ s = true := fun w h => hts w (List.mem_cons_of_mem _ h)
  have hown : s.vm.findClass R_Md = some m.cls := findClass_of_methodNamed B.named
  have hlocks := B.notSynchronized
  have hl := lv_entry ([.ref o0, .int pl, .int hs]) (n := 4) (Nat.le_of_ble_eq_true rfl)
  rw [lg_entry_eq]
  generalize (lg_sl ([.ref o0, .int pl, .int hs]) ++ List.replicate (4 - (lg_sl ([.ref o0, .int pl, .int hs])).length) Slot.unset).toArray = ls at hl ⊢
  have hl : lv_has ls 4 [(0, .ref o0), (1, .int pl), (2, .int hs)] := hl
  unfold of_Md_says_9 at hfn
  refine lv_aload_n hx hb dMd_says_0 rfl (lv_at hl 0 rfl) ?_
  refine lv_iload_n hx hb dMd_says_1 rfl (lv_at hl 1 rfl) ?_
  refine rd_V (As := [.int pl]) (rest := []) ⟨hx, hb, hml, hown, htg⟩ (c_Md_plainRow l dC dI cA o0 r_lastBit r_plain r_mixed r_chooser r_own r_ownCounter r_tag r_sum r_use r_weight r_loopTag r_length r_count r_trust r_waitPlace r_waitHistory r_waitSaid r_mark mt 9 mbt mrw mhs mco mey mu1 mu2 mu3 mu4 mwt mmk pl) (cw_V htg wd_902 ws_19 qMd_plainRow iMd_plainRow kMd_plainRow pMd_plainRow rfl rfl ⟨Nat.le_of_ble_eq_true rfl, Nat.le_of_ble_eq_true rfl⟩) (va_recv hK hP (ci := 11) (q0 := 0) rfl rfl) hN (hP.sub [0] rfl) hK rfl hl.1 rfl (Nat.le_of_ble_eq_true rfl) dMd_says_2 ⟨Nat.le_of_ble_eq_true rfl, Nat.le_of_ble_eq_true rfl⟩ ?_
  refine lv_istore_n (lv' := [(3, .int (tf_Md_plainRow mbt mrw pl)), (0, .ref o0), (1, .int pl), (2, .int hs)]) hx hb dMd_says_5 rfl hl (by decide) rfl (fun ls hl => ?_)
  refine lv_aload_n hx hb dMd_says_6 rfl (lv_at hl 1 rfl) ?_
  refine va_get (D := (dC, dI)) (ci := 11) (v := .int 9) (C := R_Md) (T := T_Md) (N := 31) hx hb htg in_Md hown hK hP 0 rfl rfl 1 (by decide) (htg _ wd_796) (fun _ h9 => h9) rfl dMd_says_7 ?_
  refine lv_tableOut (tgt := 261) hx hb dMd_says_10 (by decide) (by decide) ?_
  refine lv_aload_n hx hb dMd_says_261 rfl (lv_at hl 1 rfl) ?_
  refine va_get (D := (dC, dI)) (ci := 11) (v := .int mco) (C := R_Md) (T := T_Md) (N := 31) hx hb htg in_Md hown hK hP 0 rfl rfl 5 (by decide) (htg _ wd_800) (fun _ h9 => h9) rfl dMd_says_262 ?_
  refine lv_bipush (v := 16) hx hb dMd_says_265 (by decide) ?_
  refine lv_iushr (v := (us mco 16)) hx hb dMd_says_267 rfl ?_
  refine lv_iconst (v := 1) hx hb dMd_says_268 (by decide) ?_
  refine lv_iand hx hb dMd_says_269 ?_
  refine lv_iconst (v := 1) hx hb dMd_says_270 (by decide) ?_
  refine lv_icmp_ne (tgt := 278) hx hb dMd_says_271 (by decide) (fun c_1 => ?_) (fun c_1 => ?_)
  · rw [if_neg c_1] at hfn
    refine lv_iconst (v := 0) hx hb dMd_says_278 (by decide) ?_
    replace hfn := Option.some.inj hfn
    subst hfn
    exact W.zret hx hb hr rfl (fun t ht hW => ⟨rfl, ht⟩) (fun _ h => by cases h) dMd_says_279
  · rw [if_pos c_1] at hfn
    refine lv_iconst (v := 1) hx hb dMd_says_274 (by decide) ?_
    refine lv_goto (tgt := 279) hx hb dMd_says_275 (by decide) ?_
    replace hfn := Option.some.inj hfn
    subst hfn
    exact W.zret hx hb hr rfl (fun t ht hW => ⟨rfl, ht⟩) (fun _ h => by cases h) dMd_says_279
def of_Md_learn_9 (mco : Int32) : Option (Int32) := some (((1103515245 * mco) + 12345))
set_option maxHeartbeats 4000000 in
set_option maxRecDepth 100000 in
theorem c_Md_learn_9 (l : Launch) (dC : Nat → ClassId) (dI : Nat → Nat → Nat) (cA : ClassId × ClassId × ClassId) (zz : Nat) (o0 : Nat) (r_lastBit : Nat) (r_plain : Nat) (r_mixed : Nat) (r_chooser : Nat) (r_own : Nat) (r_ownCounter : Nat) (r_tag : Nat) (r_sum : Nat) (r_use : Nat) (r_weight : Nat) (r_loopTag : Nat) (r_length : Nat) (r_count : Nat) (r_trust : Nat) (r_waitPlace : Nat) (r_waitHistory : Nat) (r_waitSaid : Nat) (r_mark : Nat) (mt : Int32) (mbt : Int32) (mrw : Int32) (mhs : Int32) (mco : Int32) (mey : Bool) (mu1 : Int32) (mu2 : Int32) (mu3 : Int32) (mu4 : Int32) (mwt : Int32) (mmk : Int32) (pl : Int32) (hs : Int32) (tk : Bool) (rs0 : Int32) (hfn : (of_Md_learn_9 mco) = some (rs0)) : Met l yMd_learn wMd_learn ({ frames := 2, cells := 0, slots := 0, locals := 43 }) (va_Pc [.ref o0, .int pl, .int hs, .int (bI tk)] (Wr (dC, dI) cA zz [(o0, .inr (11, [.int mt, .int 9, .int mbt, .int mrw, .int mhs, .int mco, .int (bI mey), .int mu1, .int mu2, .int mu3, .int mu4, .ref r_lastBit, .ref r_plain, .ref r_mixed, .ref r_chooser, .ref r_own, .ref r_ownCounter, .ref r_tag, .ref r_sum, .ref r_use, .ref r_weight, .ref r_loopTag, .ref r_length, .ref r_count, .ref r_trust, .int mwt, .ref r_waitPlace, .ref r_waitHistory, .ref r_waitSaid, .int mmk, .ref r_mark]))])) (va_Qv (fun w9 => w9 = [(o0, .inr (11, [.int mt, .int 9, .int mbt, .int mrw, .int mhs, .int rs0, .int (bI mey), .int mu1, .int mu2, .int mu3, .int mu4, .ref r_lastBit, .ref r_plain, .ref r_mixed, .ref r_chooser, .ref r_own, .ref r_ownCounter, .ref r_tag, .ref r_sum, .ref r_use, .ref r_weight, .ref r_loopTag, .ref r_length, .ref r_count, .ref r_trust, .int mwt, .ref r_waitPlace, .ref r_waitHistory, .ref r_waitSaid, .int mmk, .ref r_mark]))]) (At (dC, dI) cA (va_A [(o0, .inr (11, [.int mt, .int 9, .int mbt, .int mrw, .int mhs, .int mco, .int (bI mey), .int mu1, .int mu2, .int mu3, .int mu4, .ref r_lastBit, .ref r_plain, .ref r_mixed, .ref r_chooser, .ref r_own, .ref r_ownCounter, .ref r_tag, .ref r_sum, .ref r_use, .ref r_weight, .ref r_loopTag, .ref r_length, .ref r_count, .ref r_trust, .int mwt, .ref r_waitPlace, .ref r_waitHistory, .ref r_waitSaid, .int mmk, .ref r_mark]))] zz)) (va_A [(o0, .inr (11, [.int mt, .int 9, .int mbt, .int mrw, .int mhs, .int mco, .int (bI mey), .int mu1, .int mu2, .int mu3, .int mu4, .ref r_lastBit, .ref r_plain, .ref r_mixed, .ref r_chooser, .ref r_own, .ref r_ownCounter, .ref r_tag, .ref r_sum, .ref r_use, .ref r_weight, .ref r_loopTag, .ref r_length, .ref r_count, .ref r_trust, .int mwt, .ref r_waitPlace, .ref r_waitHistory, .ref r_waitSaid, .int mmk, .ref r_mark]))] zz)) 0 0 (va_A [(o0, .inr (11, [.int mt, .int 9, .int mbt, .int mrw, .int mhs, .int mco, .int (bI mey), .int mu1, .int mu2, .int mu3, .int mu4, .ref r_lastBit, .ref r_plain, .ref r_mixed, .ref r_chooser, .ref r_own, .ref r_ownCounter, .ref r_tag, .ref r_sum, .ref r_use, .ref r_weight, .ref r_loopTag, .ref r_length, .ref r_count, .ref r_trust, .int mwt, .ref r_waitPlace, .ref r_waitHistory, .ref r_waitSaid, .int mmk, .ref r_mark]))] zz) := by
  refine Met.ofW (cc := cMd_learn) (maxL := 8) (ret := none) (by decide) rfl ?_
  intro p e s m args below meth c s₁ B hml hv
  obtain ⟨rfl, hsz, hN, hP, hK, hD0⟩ := hv
  have hx := B.exec
  have hb := B.bytes
  have hr := B.returns
  have hts := atoms_spec (ws := wMd_learn) B.pre
  have htg : ∀ w ∈ GW, w.before _ s = true := fun w h => hts w (List.mem_cons_of_mem _ h)
  have hown : s.vm.findClass R_Md = some m.cls := findClass_of_methodNamed B.named
  have hlocks := B.notSynchronized
  subst hsz
  have hD := hD0.self (sz := s.heap.size)
  generalize hAe : va_A [(o0, .inr (11, [.int mt, .int 9, .int mbt, .int mrw, .int mhs, .int mco, .int (bI mey), .int mu1, .int mu2, .int mu3, .int mu4, .ref r_lastBit, .ref r_plain, .ref r_mixed, .ref r_chooser, .ref r_own, .ref r_ownCounter, .ref r_tag, .ref r_sum, .ref r_use, .ref r_weight, .ref r_loopTag, .ref r_length, .ref r_count, .ref r_trust, .int mwt, .ref r_waitPlace, .ref r_waitHistory, .ref r_waitSaid, .int mmk, .ref r_mark]))] s.heap.size = A at hD ⊢
  have hA : ∀ q : Nat, s.heap.size ≤ q → A q := fun q h => by rw [← hAe]; exact Or.inr h
  have hS : va_S A s.heap s.heap [] := va_S.rf
  have hP : va_P (dC, dI) vwCl [(o0, .inr (11, [.int mt, .int 9, .int mbt, .int mrw, .int mhs, .int mco, .int (bI mey), .int mu1, .int mu2, .int mu3, .int mu4, .ref r_lastBit, .ref r_plain, .ref r_mixed, .ref r_chooser, .ref r_own, .ref r_ownCounter, .ref r_tag, .ref r_sum, .ref r_use, .ref r_weight, .ref r_loopTag, .ref r_length, .ref r_count, .ref r_trust, .int mwt, .ref r_waitPlace, .ref r_waitHistory, .ref r_waitSaid, .int mmk, .ref r_mark]))] s.heap := hP
  have hl := lv_entry ([.ref o0, .int pl, .int hs, .int (bI tk)]) (n := 8) (Nat.le_of_ble_eq_true rfl)
  rw [lg_entry_eq]
  generalize (lg_sl ([.ref o0, .int pl, .int hs, .int (bI tk)]) ++ List.replicate (8 - (lg_sl ([.ref o0, .int pl, .int hs, .int (bI tk)])).length) Slot.unset).toArray = ls at hl ⊢
  have hl : lv_has ls 8 [(0, .ref o0), (1, .int pl), (2, .int hs), (3, .int (bI tk))] := hl
  unfold of_Md_learn_9 at hfn
  refine lv_aload_n hx hb dMd_learn_0 rfl (lv_at hl 0 rfl) ?_
  refine lv_iload_n hx hb dMd_learn_1 rfl (lv_at hl 1 rfl) ?_
  refine rd_V (As := [.int pl]) (rest := []) ⟨hx, hb, hml, hown, htg⟩ (c_Md_plainRow l dC dI cA o0 r_lastBit r_plain r_mixed r_chooser r_own r_ownCounter r_tag r_sum r_use r_weight r_loopTag r_length r_count r_trust r_waitPlace r_waitHistory r_waitSaid r_mark mt 9 mbt mrw mhs mco mey mu1 mu2 mu3 mu4 mwt mmk pl) (cw_V htg wd_902 ws_19 qMd_plainRow iMd_plainRow kMd_plainRow pMd_plainRow rfl rfl ⟨Nat.le_of_ble_eq_true rfl, Nat.le_of_ble_eq_true rfl⟩) (va_recv hK hP (ci := 11) (q0 := 0) rfl rfl) hN (hP.sub [0] rfl) hK rfl hl.1 rfl (Nat.le_of_ble_eq_true rfl) dMd_learn_2 ⟨Nat.le_of_ble_eq_true rfl, Nat.le_of_ble_eq_true rfl⟩ ?_
  refine lv_istore (lv' := [(4, .int (tf_Md_plainRow mbt mrw pl)), (0, .ref o0), (1, .int pl), (2, .int hs), (3, .int (bI tk))]) hx hb dMd_learn_5 hl (by decide) rfl (fun ls hl => ?_)
  refine lv_aload_n hx hb dMd_learn_7 rfl (lv_at hl 1 rfl) ?_
  refine lv_iload_n hx hb dMd_learn_8 rfl (lv_at hl 2 rfl) ?_
  refine lv_iload_n hx hb dMd_learn_9 rfl (lv_at hl 3 rfl) ?_
  refine rd_V (As := [.int pl, .int hs]) (rest := []) ⟨hx, hb, hml, hown, htg⟩ (c_Md_mixedRow l dC dI cA o0 r_lastBit r_plain r_mixed r_chooser r_own r_ownCounter r_tag r_sum r_use r_weight r_loopTag r_length r_count r_trust r_waitPlace r_waitHistory r_waitSaid r_mark mt 9 mbt mrw mhs mco mey mu1 mu2 mu3 mu4 mwt mmk pl hs) (cw_V htg wd_910 ws_21 qMd_mixedRow iMd_mixedRow kMd_mixedRow pMd_mixedRow rfl rfl ⟨Nat.le_of_ble_eq_true rfl, Nat.le_of_ble_eq_true rfl⟩) (va_recv hK hP (ci := 11) (q0 := 0) rfl rfl) hN (hP.sub [0] rfl) hK rfl hl.1 rfl (Nat.le_of_ble_eq_true rfl) dMd_learn_10 ⟨Nat.le_of_ble_eq_true rfl, Nat.le_of_ble_eq_true rfl⟩ ?_
  refine lv_istore (lv' := [(5, .int (tf_Md_mixedRow mrw pl hs)), (4, .int (tf_Md_plainRow mbt mrw pl)), (0, .ref o0), (1, .int pl), (2, .int hs), (3, .int (bI tk))]) hx hb dMd_learn_13 hl (by decide) rfl (fun ls hl => ?_)
  refine lv_aload_n hx hb dMd_learn_15 rfl (lv_at hl 2 rfl) ?_
  refine va_get (D := (dC, dI)) (ci := 11) (v := .int 9) (C := R_Md) (T := T_Md) (N := 31) hx hb htg in_Md hown hK hP 0 rfl rfl 1 (by decide) (htg _ wd_796) (fun _ h9 => h9) rfl dMd_learn_16 ?_
  refine lv_iconst (v := 1) hx hb dMd_learn_19 (by decide) ?_
  refine lv_icmp_ne (tgt := 42) hx hb dMd_learn_20 (by decide) (fun _ => ?_) (fun c => absurd c (by decide))
  refine lv_aload_n hx hb dMd_learn_42 rfl (lv_at hl 2 rfl) ?_
  refine va_get (D := (dC, dI)) (ci := 11) (v := .int 9) (C := R_Md) (T := T_Md) (N := 31) hx hb htg in_Md hown hK hP 0 rfl rfl 1 (by decide) (htg _ wd_796) (fun _ h9 => h9) rfl dMd_learn_43 ?_
  refine lv_iconst (v := 2) hx hb dMd_learn_46 (by decide) ?_
  refine lv_icmp_ne (tgt := 71) hx hb dMd_learn_47 (by decide) (fun _ => ?_) (fun c => absurd c (by decide))
  refine lv_aload_n hx hb dMd_learn_71 rfl (lv_at hl 2 rfl) ?_
  refine va_get (D := (dC, dI)) (ci := 11) (v := .int 9) (C := R_Md) (T := T_Md) (N := 31) hx hb htg in_Md hown hK hP 0 rfl rfl 1 (by decide) (htg _ wd_796) (fun _ h9 => h9) rfl dMd_learn_72 ?_
  refine lv_iconst (v := 3) hx hb dMd_learn_75 (by decide) ?_
  refine lv_icmp_ne (tgt := 100) hx hb dMd_learn_76 (by decide) (fun _ => ?_) (fun c => absurd c (by decide))
  refine lv_aload_n hx hb dMd_learn_100 rfl (lv_at hl 2 rfl) ?_
  refine va_get (D := (dC, dI)) (ci := 11) (v := .int 9) (C := R_Md) (T := T_Md) (N := 31) hx hb htg in_Md hown hK hP 0 rfl rfl 1 (by decide) (htg _ wd_796) (fun _ h9 => h9) rfl dMd_learn_101 ?_
  refine lv_iconst (v := 4) hx hb dMd_learn_104 (by decide) ?_
  refine lv_icmp_ne (tgt := 169) hx hb dMd_learn_105 (by decide) (fun _ => ?_) (fun c => absurd c (by decide))
  refine lv_aload_n hx hb dMd_learn_169 rfl (lv_at hl 2 rfl) ?_
  refine va_get (D := (dC, dI)) (ci := 11) (v := .int 9) (C := R_Md) (T := T_Md) (N := 31) hx hb htg in_Md hown hK hP 0 rfl rfl 1 (by decide) (htg _ wd_796) (fun _ h9 => h9) rfl dMd_learn_170 ?_
  refine lv_iconst (v := 5) hx hb dMd_learn_173 (by decide) ?_
  refine lv_icmp_ne (tgt := 296) hx hb dMd_learn_174 (by decide) (fun _ => ?_) (fun c => absurd c (by decide))
  refine lv_aload_n hx hb dMd_learn_296 rfl (lv_at hl 2 rfl) ?_
  refine va_get (D := (dC, dI)) (ci := 11) (v := .int 9) (C := R_Md) (T := T_Md) (N := 31) hx hb htg in_Md hown hK hP 0 rfl rfl 1 (by decide) (htg _ wd_796) (fun _ h9 => h9) rfl dMd_learn_297 ?_
  refine lv_bipush (v := 6) hx hb dMd_learn_300 (by decide) ?_
  refine lv_icmp_ne (tgt := 315) hx hb dMd_learn_302 (by decide) (fun _ => ?_) (fun c => absurd c (by decide))
  refine lv_aload_n hx hb dMd_learn_315 rfl (lv_at hl 2 rfl) ?_
  refine va_get (D := (dC, dI)) (ci := 11) (v := .int 9) (C := R_Md) (T := T_Md) (N := 31) hx hb htg in_Md hown hK hP 0 rfl rfl 1 (by decide) (htg _ wd_796) (fun _ h9 => h9) rfl dMd_learn_316 ?_
  refine lv_bipush (v := 7) hx hb dMd_learn_319 (by decide) ?_
  refine lv_icmp_ne (tgt := 334) hx hb dMd_learn_321 (by decide) (fun _ => ?_) (fun c => absurd c (by decide))
  refine lv_aload_n hx hb dMd_learn_334 rfl (lv_at hl 2 rfl) ?_
  refine va_get (D := (dC, dI)) (ci := 11) (v := .int 9) (C := R_Md) (T := T_Md) (N := 31) hx hb htg in_Md hown hK hP 0 rfl rfl 1 (by decide) (htg _ wd_796) (fun _ h9 => h9) rfl dMd_learn_335 ?_
  refine lv_bipush (v := 8) hx hb dMd_learn_338 (by decide) ?_
  refine lv_icmp_ne (tgt := 352) hx hb dMd_learn_340 (by decide) (fun _ => ?_) (fun c => absurd c (by decide))
  refine lv_aload_n hx hb dMd_learn_352 rfl (lv_at hl 2 rfl) ?_
  refine va_get (D := (dC, dI)) (ci := 11) (v := .int 9) (C := R_Md) (T := T_Md) (N := 31) hx hb htg in_Md hown hK hP 0 rfl rfl 1 (by decide) (htg _ wd_796) (fun _ h9 => h9) rfl dMd_learn_353 ?_
  refine lv_bipush (v := 9) hx hb dMd_learn_356 (by decide) ?_
  refine lv_icmp_ne (tgt := 376) hx hb dMd_learn_358 (by decide) (fun c => absurd c (by decide)) (fun _ => ?_)
  refine lv_aload_n hx hb dMd_learn_361 rfl (lv_at hl 2 rfl) ?_
  refine lv_ldc (v := 1103515245) hx hb hown (htg _ wd_989) dMd_learn_362 ?_
  refine lv_aload_n hx hb dMd_learn_364 rfl (lv_at hl 2 rfl) ?_
  refine va_get (D := (dC, dI)) (ci := 11) (v := .int mco) (C := R_Md) (T := T_Md) (N := 31) hx hb htg in_Md hown hK hP 0 rfl rfl 5 (by decide) (htg _ wd_800) (fun _ h9 => h9) rfl dMd_learn_365 ?_
  refine lv_imul hx hb dMd_learn_368 ?_
  refine lv_sipush (v := 12345) hx hb dMd_learn_369 (by decide) ?_
  refine lv_iadd hx hb dMd_learn_372 ?_
  refine va_put (D := (dC, dI)) (ci := 11) (v := .int ((1103515245 * mco) + 12345)) (ty := .int) (C := R_Md) (T := T_Md) (N := 31) hx hb htg in_Md ty_Md tk_Md nm_Md hown hK hP hD hS 0 rfl rfl 5 (by decide) (htg _ wd_800) (fun _ h9 => h9) rfl (by decide +kernel) rfl rfl (Nat.le_of_ble_eq_true rfl) dMd_learn_373 (fun H locs hP hD hS => ?_)
  have hP : va_P (dC, dI) vwCl [(o0, .inr (11, [.int mt, .int 9, .int mbt, .int mrw, .int mhs, .int ((1103515245 * mco) + 12345), .int (bI mey), .int mu1, .int mu2, .int mu3, .int mu4, .ref r_lastBit, .ref r_plain, .ref r_mixed, .ref r_chooser, .ref r_own, .ref r_ownCounter, .ref r_tag, .ref r_sum, .ref r_use, .ref r_weight, .ref r_loopTag, .ref r_length, .ref r_count, .ref r_trust, .int mwt, .ref r_waitPlace, .ref r_waitHistory, .ref r_waitSaid, .int mmk, .ref r_mark]))] H := hP
  have hD : va_D A [(o0, .inr (11, [.int mt, .int 9, .int mbt, .int mrw, .int mhs, .int ((1103515245 * mco) + 12345), .int (bI mey), .int mu1, .int mu2, .int mu3, .int mu4, .ref r_lastBit, .ref r_plain, .ref r_mixed, .ref r_chooser, .ref r_own, .ref r_ownCounter, .ref r_tag, .ref r_sum, .ref r_use, .ref r_weight, .ref r_loopTag, .ref r_length, .ref r_count, .ref r_trust, .int mwt, .ref r_waitPlace, .ref r_waitHistory, .ref r_waitSaid, .int mmk, .ref r_mark]))] := hD
  replace hfn := Option.some.inj hfn
  subst hfn
  exact W.vret hx hb hr (fun t ht hW => ⟨⟨_, rfl, rfl, ⟨by rw [ht]; exact hP.sub [0] rfl, va_K.moved hW.alike hK, hD.sub [0] (by decide) rfl⟩⟩, hS.F ht⟩) hS.2.2 dMd_learn_376
def of_Md_told_9 (mhs : Int32) (mco : Int32) (mey : Bool) (mwt : Int32) (g_waitPlace : Nat → Int32) (g_waitHistory : Nat → Int32) (g_waitSaid : Nat → Int32) (pl : Int32) : Option (Bool × Int32 × Int32 × Int32 × (Nat → Int32) × (Nat → Int32) × (Nat → Int32)) := ((of_Md_says_9 mco).bind fun z_1 => (if (bI mey) = 0 then some (z_1, 0, mwt, mhs, g_waitPlace, g_waitHistory, g_waitSaid) else (if 64 ≤ mwt then some (z_1, 0, mwt, mhs, g_waitPlace, g_waitHistory, g_waitSaid) else (if mwt < 0 ∨ 64 ≤ mwt.toNatClampNeg then none else (if mwt < 0 ∨ 64 ≤ mwt.toNatClampNeg then none else (if mwt < 0 ∨ 64 ≤ mwt.toNatClampNeg then none else some (z_1, 0, (mwt + 1), (tf_Md_behind mhs z_1), (upd g_waitPlace mwt.toNatClampNeg pl), (upd g_waitHistory mwt.toNatClampNeg mhs), (upd g_waitSaid mwt.toNatClampNeg (vp_nar .boolean (bI z_1))))))))))
set_option maxHeartbeats 4000000 in
set_option maxRecDepth 100000 in
theorem c_Md_told_9 (l : Launch) (dC : Nat → ClassId) (dI : Nat → Nat → Nat) (cA : ClassId × ClassId × ClassId) (zz : Nat) (o0 : Nat) (r_waitPlace : Nat) (r_waitHistory : Nat) (r_waitSaid : Nat) (r_lastBit : Nat) (r_plain : Nat) (r_mixed : Nat) (r_chooser : Nat) (r_own : Nat) (r_ownCounter : Nat) (r_tag : Nat) (r_sum : Nat) (r_use : Nat) (r_weight : Nat) (r_loopTag : Nat) (r_length : Nat) (r_count : Nat) (r_trust : Nat) (r_mark : Nat) (mt : Int32) (mbt : Int32) (mrw : Int32) (mhs : Int32) (mco : Int32) (mey : Bool) (mu1 : Int32) (mu2 : Int32) (mu3 : Int32) (mu4 : Int32) (mwt : Int32) (mmk : Int32) (g_waitPlace : Nat → Int32) (g_waitHistory : Nat → Int32) (g_waitSaid : Nat → Int32) (pl : Int32) (rs0 : Bool) (rs1 : Int32) (rs2 : Int32) (rs3 : Int32) (rs4 : (Nat → Int32)) (rs5 : (Nat → Int32)) (rs6 : (Nat → Int32)) (hfn : (of_Md_told_9 mhs mco mey mwt g_waitPlace g_waitHistory g_waitSaid pl) = some (rs0, rs1, rs2, rs3, rs4, rs5, rs6)) : Met l yMd_told wMd_told ({ frames := 3, cells := 0, slots := 0, locals := 65 }) (va_Pc [.ref o0, .int pl] (Wr (dC, dI) cA zz [(o0, .inr (11, [.int mt, .int 9, .int mbt, .int mrw, .int mhs, .int mco, .int (bI mey), .int mu1, .int mu2, .int mu3, .int mu4, .ref r_lastBit, .ref r_plain, .ref r_mixed, .ref r_chooser, .ref r_own, .ref r_ownCounter, .ref r_tag, .ref r_sum, .ref r_use, .ref r_weight, .ref r_loopTag, .ref r_length, .ref r_count, .ref r_trust, .int mwt, .ref r_waitPlace, .ref r_waitHistory, .ref r_waitSaid, .int mmk, .ref r_mark])), (r_waitPlace, .inl (cA.1, 64, .inl g_waitPlace)), (r_waitHistory, .inl (cA.1, 64, .inl g_waitHistory)), (r_waitSaid, .inl (cA.2.1, 64, .inl g_waitSaid))])) (va_Qi (fun r9 w9 => r9 = (bI (rs0)) ∧ w9 = [(o0, .inr (11, [.int rs1, .int 9, .int mbt, .int mrw, .int rs3, .int mco, .int (bI mey), .int mu1, .int mu2, .int mu3, .int mu4, .ref r_lastBit, .ref r_plain, .ref r_mixed, .ref r_chooser, .ref r_own, .ref r_ownCounter, .ref r_tag, .ref r_sum, .ref r_use, .ref r_weight, .ref r_loopTag, .ref r_length, .ref r_count, .ref r_trust, .int rs2, .ref r_waitPlace, .ref r_waitHistory, .ref r_waitSaid, .int mmk, .ref r_mark])), (r_waitPlace, .inl (cA.1, 64, .inl rs4)), (r_waitHistory, .inl (cA.1, 64, .inl rs5)), (r_waitSaid, .inl (cA.2.1, 64, .inl rs6))]) (At (dC, dI) cA (va_A [(o0, .inr (11, [.int mt, .int 9, .int mbt, .int mrw, .int mhs, .int mco, .int (bI mey), .int mu1, .int mu2, .int mu3, .int mu4, .ref r_lastBit, .ref r_plain, .ref r_mixed, .ref r_chooser, .ref r_own, .ref r_ownCounter, .ref r_tag, .ref r_sum, .ref r_use, .ref r_weight, .ref r_loopTag, .ref r_length, .ref r_count, .ref r_trust, .int mwt, .ref r_waitPlace, .ref r_waitHistory, .ref r_waitSaid, .int mmk, .ref r_mark])), (r_waitPlace, .inl (cA.1, 64, .inl g_waitPlace)), (r_waitHistory, .inl (cA.1, 64, .inl g_waitHistory)), (r_waitSaid, .inl (cA.2.1, 64, .inl g_waitSaid))] zz)) (va_A [(o0, .inr (11, [.int mt, .int 9, .int mbt, .int mrw, .int mhs, .int mco, .int (bI mey), .int mu1, .int mu2, .int mu3, .int mu4, .ref r_lastBit, .ref r_plain, .ref r_mixed, .ref r_chooser, .ref r_own, .ref r_ownCounter, .ref r_tag, .ref r_sum, .ref r_use, .ref r_weight, .ref r_loopTag, .ref r_length, .ref r_count, .ref r_trust, .int mwt, .ref r_waitPlace, .ref r_waitHistory, .ref r_waitSaid, .int mmk, .ref r_mark])), (r_waitPlace, .inl (cA.1, 64, .inl g_waitPlace)), (r_waitHistory, .inl (cA.1, 64, .inl g_waitHistory)), (r_waitSaid, .inl (cA.2.1, 64, .inl g_waitSaid))] zz)) 0 0 (va_A [(o0, .inr (11, [.int mt, .int 9, .int mbt, .int mrw, .int mhs, .int mco, .int (bI mey), .int mu1, .int mu2, .int mu3, .int mu4, .ref r_lastBit, .ref r_plain, .ref r_mixed, .ref r_chooser, .ref r_own, .ref r_ownCounter, .ref r_tag, .ref r_sum, .ref r_use, .ref r_weight, .ref r_loopTag, .ref r_length, .ref r_count, .ref r_trust, .int mwt, .ref r_waitPlace, .ref r_waitHistory, .ref r_waitSaid, .int mmk, .ref r_mark])), (r_waitPlace, .inl (cA.1, 64, .inl g_waitPlace)), (r_waitHistory, .inl (cA.1, 64, .inl g_waitHistory)), (r_waitSaid, .inl (cA.2.1, 64, .inl g_waitSaid))] zz) := by
  refine Met.ofW (cc := cMd_told) (maxL := 3) (ret := (some .boolean)) (by decide) rfl ?_
  intro p e s m args below meth c s₁ B hml hv
  obtain ⟨rfl, hsz, hN, hP, hK, hD0⟩ := hv
  have hx := B.exec
  have hb := B.bytes
  have hr := B.returns
  have hts := atoms_spec (ws := wMd_told) B.pre
  have htg : ∀ w ∈ GW, w.before _ s = true := fun w h => hts w (List.mem_cons_of_mem _ h)
  have hown : s.vm.findClass R_Md = some m.cls := findClass_of_methodNamed B.named
  have hlocks := B.notSynchronized
  subst hsz
  have hD := hD0.self (sz := s.heap.size)
  generalize hAe : va_A [(o0, .inr (11, [.int mt, .int 9, .int mbt, .int mrw, .int mhs, .int mco, .int (bI mey), .int mu1, .int mu2, .int mu3, .int mu4, .ref r_lastBit, .ref r_plain, .ref r_mixed, .ref r_chooser, .ref r_own, .ref r_ownCounter, .ref r_tag, .ref r_sum, .ref r_use, .ref r_weight, .ref r_loopTag, .ref r_length, .ref r_count, .ref r_trust, .int mwt, .ref r_waitPlace, .ref r_waitHistory, .ref r_waitSaid, .int mmk, .ref r_mark])), (r_waitPlace, .inl (cA.1, 64, .inl g_waitPlace)), (r_waitHistory, .inl (cA.1, 64, .inl g_waitHistory)), (r_waitSaid, .inl (cA.2.1, 64, .inl g_waitSaid))] s.heap.size = A at hD ⊢
  have hA : ∀ q : Nat, s.heap.size ≤ q → A q := fun q h => by rw [← hAe]; exact Or.inr h
  have hS : va_S A s.heap s.heap [] := va_S.rf
  have hP : va_P (dC, dI) vwCl [(o0, .inr (11, [.int mt, .int 9, .int mbt, .int mrw, .int mhs, .int mco, .int (bI mey), .int mu1, .int mu2, .int mu3, .int mu4, .ref r_lastBit, .ref r_plain, .ref r_mixed, .ref r_chooser, .ref r_own, .ref r_ownCounter, .ref r_tag, .ref r_sum, .ref r_use, .ref r_weight, .ref r_loopTag, .ref r_length, .ref r_count, .ref r_trust, .int mwt, .ref r_waitPlace, .ref r_waitHistory, .ref r_waitSaid, .int mmk, .ref r_mark])), (r_waitPlace, .inl (cA.1, 64, .inl g_waitPlace)), (r_waitHistory, .inl (cA.1, 64, .inl g_waitHistory)), (r_waitSaid, .inl (cA.2.1, 64, .inl g_waitSaid))] s.heap := hP
  have hl := lv_entry ([.ref o0, .int pl]) (n := 3) (Nat.le_of_ble_eq_true rfl)
  rw [lg_entry_eq]
  generalize (lg_sl ([.ref o0, .int pl]) ++ List.replicate (3 - (lg_sl ([.ref o0, .int pl])).length) Slot.unset).toArray = ls at hl ⊢
  have hl : lv_has ls 3 [(0, .ref o0), (1, .int pl)] := hl
  unfold of_Md_told_9 at hfn
  refine lv_aload_n hx hb dMd_told_0 rfl (lv_at hl 0 rfl) ?_
  refine lv_iconst (v := 0) hx hb dMd_told_1 (by decide) ?_
  refine va_put (D := (dC, dI)) (ci := 11) (v := .int 0) (ty := .int) (C := R_Md) (T := T_Md) (N := 31) hx hb htg in_Md ty_Md tk_Md nm_Md hown hK hP hD hS 0 rfl rfl 0 (by decide) (htg _ wd_795) (fun _ h9 => h9) rfl (by decide +kernel) rfl rfl (Nat.le_of_ble_eq_true rfl) dMd_told_2 (fun H locs hP hD hS => ?_)
  have hP : va_P (dC, dI) vwCl [(o0, .inr (11, [.int 0, .int 9, .int mbt, .int mrw, .int mhs, .int mco, .int (bI mey), .int mu1, .int mu2, .int mu3, .int mu4, .ref r_lastBit, .ref r_plain, .ref r_mixed, .ref r_chooser, .ref r_own, .ref r_ownCounter, .ref r_tag, .ref r_sum, .ref r_use, .ref r_weight, .ref r_loopTag, .ref r_length, .ref r_count, .ref r_trust, .int mwt, .ref r_waitPlace, .ref r_waitHistory, .ref r_waitSaid, .int mmk, .ref r_mark])), (r_waitPlace, .inl (cA.1, 64, .inl g_waitPlace)), (r_waitHistory, .inl (cA.1, 64, .inl g_waitHistory)), (r_waitSaid, .inl (cA.2.1, 64, .inl g_waitSaid))] H := hP
  have hD : va_D A [(o0, .inr (11, [.int 0, .int 9, .int mbt, .int mrw, .int mhs, .int mco, .int (bI mey), .int mu1, .int mu2, .int mu3, .int mu4, .ref r_lastBit, .ref r_plain, .ref r_mixed, .ref r_chooser, .ref r_own, .ref r_ownCounter, .ref r_tag, .ref r_sum, .ref r_use, .ref r_weight, .ref r_loopTag, .ref r_length, .ref r_count, .ref r_trust, .int mwt, .ref r_waitPlace, .ref r_waitHistory, .ref r_waitSaid, .int mmk, .ref r_mark])), (r_waitPlace, .inl (cA.1, 64, .inl g_waitPlace)), (r_waitHistory, .inl (cA.1, 64, .inl g_waitHistory)), (r_waitSaid, .inl (cA.2.1, 64, .inl g_waitSaid))] := hD
  refine lv_aload_n hx hb dMd_told_5 rfl (lv_at hl 0 rfl) ?_
  refine lv_iload_n hx hb dMd_told_6 rfl (lv_at hl 1 rfl) ?_
  refine lv_aload_n hx hb dMd_told_7 rfl (lv_at hl 0 rfl) ?_
  refine va_get (D := (dC, dI)) (ci := 11) (v := .int mhs) (C := R_Md) (T := T_Md) (N := 31) hx hb htg in_Md hown hK hP 0 rfl rfl 4 (by decide) (htg _ wd_799) (fun _ h9 => h9) rfl dMd_told_8 ?_
  obtain ⟨z_1, hz_1, hfn⟩ := ob hfn
  refine rd_V (As := [.int pl, .int mhs]) (rest := []) ⟨hx, hb, hml, hown, htg⟩ (c_Md_says_9 l dC dI cA o0 r_lastBit r_plain r_mixed r_chooser r_own r_ownCounter r_tag r_sum r_use r_weight r_loopTag r_length r_count r_trust r_waitPlace r_waitHistory r_waitSaid r_mark 0 mbt mrw mhs mco mey mu1 mu2 mu3 mu4 mwt mmk pl mhs z_1 hz_1) (cw_V htg wd_898 ws_18 qMd_says iMd_says kMd_says pMd_says rfl rfl ⟨Nat.le_of_ble_eq_true rfl, Nat.le_of_ble_eq_true rfl⟩) (va_recv hK hP (ci := 11) (q0 := 0) rfl rfl) hN (hP.sub [0] rfl) hK rfl hl.1 rfl (Nat.le_of_ble_eq_true rfl) dMd_told_11 ⟨Nat.le_of_ble_eq_true rfl, Nat.le_of_ble_eq_true rfl⟩ ?_
  refine lv_istore_n (lv' := [(2, .int (bI z_1)), (0, .ref o0), (1, .int pl)]) hx hb dMd_told_14 rfl hl (by decide) rfl (fun ls hl => ?_)
  refine lv_aload_n hx hb dMd_told_15 rfl (lv_at hl 1 rfl) ?_
  refine va_get (D := (dC, dI)) (ci := 11) (v := .int (bI mey)) (C := R_Md) (T := T_Md) (N := 31) hx hb htg in_Md hown hK hP 0 rfl rfl 6 (by decide) (htg _ wd_801) (fun _ h9 => h9) rfl dMd_told_16 ?_
  refine lv_if_eq (tgt := 86) hx hb dMd_told_19 (by decide) (fun c_2 => ?_) (fun c_2 => ?_)
  · rw [if_pos c_2] at hfn
    refine lv_iload_n hx hb dMd_told_86 rfl (lv_at hl 0 rfl) ?_
    replace hfn := Option.some.inj hfn
    obtain ⟨e9, hf_0⟩ := Prod.mk.inj hfn; clear hfn; subst e9
    obtain ⟨e9, hf_1⟩ := Prod.mk.inj hf_0; clear hf_0; subst e9
    obtain ⟨e9, hf_2⟩ := Prod.mk.inj hf_1; clear hf_1; subst e9
    obtain ⟨e9, hf_3⟩ := Prod.mk.inj hf_2; clear hf_2; subst e9
    obtain ⟨e9, hf_4⟩ := Prod.mk.inj hf_3; clear hf_3; subst e9
    obtain ⟨e9, hf_5⟩ := Prod.mk.inj hf_4; clear hf_4; subst e9
    subst hf_5
    exact W.zret hx hb hr (nar_bI _) (fun t ht hW => ⟨⟨_, _, rfl, ⟨rfl, rfl⟩, ⟨by rw [ht]; exact hP.sub [0, 1, 2, 3] rfl, va_K.moved hW.alike hK, hD.sub [0, 1, 2, 3] (by decide) rfl⟩⟩, hS.F ht⟩) hS.2.2 dMd_told_87
  · rw [if_neg c_2] at hfn
    refine lv_aload_n hx hb dMd_told_22 rfl (lv_at hl 1 rfl) ?_
    refine va_get (D := (dC, dI)) (ci := 11) (v := .int mwt) (C := R_Md) (T := T_Md) (N := 31) hx hb htg in_Md hown hK hP 0 rfl rfl 25 (by decide) (htg _ wd_820) (fun _ h9 => h9) rfl dMd_told_23 ?_
    refine lv_bipush (v := 64) hx hb dMd_told_26 (by decide) ?_
    refine lv_icmp_ge (tgt := 86) hx hb dMd_told_28 (by decide) (fun c_3 => ?_) (fun c_3 => ?_)
    · rw [if_pos c_3] at hfn
      refine lv_iload_n hx hb dMd_told_86 rfl (lv_at hl 0 rfl) ?_
      replace hfn := Option.some.inj hfn
      obtain ⟨e9, hf_0⟩ := Prod.mk.inj hfn; clear hfn; subst e9
      obtain ⟨e9, hf_1⟩ := Prod.mk.inj hf_0; clear hf_0; subst e9
      obtain ⟨e9, hf_2⟩ := Prod.mk.inj hf_1; clear hf_1; subst e9
      obtain ⟨e9, hf_3⟩ := Prod.mk.inj hf_2; clear hf_2; subst e9
      obtain ⟨e9, hf_4⟩ := Prod.mk.inj hf_3; clear hf_3; subst e9
      obtain ⟨e9, hf_5⟩ := Prod.mk.inj hf_4; clear hf_4; subst e9
      subst hf_5
      exact W.zret hx hb hr (nar_bI _) (fun t ht hW => ⟨⟨_, _, rfl, ⟨rfl, rfl⟩, ⟨by rw [ht]; exact hP.sub [0, 1, 2, 3] rfl, va_K.moved hW.alike hK, hD.sub [0, 1, 2, 3] (by decide) rfl⟩⟩, hS.F ht⟩) hS.2.2 dMd_told_87
    · rw [if_neg c_3] at hfn
      refine lv_aload_n hx hb dMd_told_31 rfl (lv_at hl 1 rfl) ?_
      refine va_get (D := (dC, dI)) (ci := 11) (v := .ref r_waitPlace) (C := R_Md) (T := T_Md) (N := 31) hx hb htg in_Md hown hK hP 0 rfl rfl 26 (by decide) (htg _ wd_821) (fun _ h9 => h9) rfl dMd_told_32 ?_
      refine lv_aload_n hx hb dMd_told_35 rfl (lv_at hl 1 rfl) ?_
      refine va_get (D := (dC, dI)) (ci := 11) (v := .int mwt) (C := R_Md) (T := T_Md) (N := 31) hx hb htg in_Md hown hK hP 0 rfl rfl 25 (by decide) (htg _ wd_820) (fun _ h9 => h9) rfl dMd_told_36 ?_
      refine lv_iload_n hx hb dMd_told_39 rfl (lv_at hl 2 rfl) ?_
      obtain ⟨g_4, hfn⟩ := og hfn
      refine va_iast hx hb hK hP hD hS 1 0 rfl rfl g_4 dMd_told_40 (fun H locs hP hD hS => ?_)
      have hP : va_P (dC, dI) vwCl [(o0, .inr (11, [.int 0, .int 9, .int mbt, .int mrw, .int mhs, .int mco, .int (bI mey), .int mu1, .int mu2, .int mu3, .int mu4, .ref r_lastBit, .ref r_plain, .ref r_mixed, .ref r_chooser, .ref r_own, .ref r_ownCounter, .ref r_tag, .ref r_sum, .ref r_use, .ref r_weight, .ref r_loopTag, .ref r_length, .ref r_count, .ref r_trust, .int mwt, .ref r_waitPlace, .ref r_waitHistory, .ref r_waitSaid, .int mmk, .ref r_mark])), (r_waitPlace, .inl (cA.1, 64, .inl (upd g_waitPlace mwt.toNatClampNeg pl))), (r_waitHistory, .inl (cA.1, 64, .inl g_waitHistory)), (r_waitSaid, .inl (cA.2.1, 64, .inl g_waitSaid))] H := hP
      have hD : va_D A [(o0, .inr (11, [.int 0, .int 9, .int mbt, .int mrw, .int mhs, .int mco, .int (bI mey), .int mu1, .int mu2, .int mu3, .int mu4, .ref r_lastBit, .ref r_plain, .ref r_mixed, .ref r_chooser, .ref r_own, .ref r_ownCounter, .ref r_tag, .ref r_sum, .ref r_use, .ref r_weight, .ref r_loopTag, .ref r_length, .ref r_count, .ref r_trust, .int mwt, .ref r_waitPlace, .ref r_waitHistory, .ref r_waitSaid, .int mmk, .ref r_mark])), (r_waitPlace, .inl (cA.1, 64, .inl (upd g_waitPlace mwt.toNatClampNeg pl))), (r_waitHistory, .inl (cA.1, 64, .inl g_waitHistory)), (r_waitSaid, .inl (cA.2.1, 64, .inl g_waitSaid))] := hD
      refine lv_aload_n hx hb dMd_told_41 rfl (lv_at hl 1 rfl) ?_
      refine va_get (D := (dC, dI)) (ci := 11) (v := .ref r_waitHistory) (C := R_Md) (T := T_Md) (N := 31) hx hb htg in_Md hown hK hP 0 rfl rfl 27 (by decide) (htg _ wd_822) (fun _ h9 => h9) rfl dMd_told_42 ?_
      refine lv_aload_n hx hb dMd_told_45 rfl (lv_at hl 1 rfl) ?_
      refine va_get (D := (dC, dI)) (ci := 11) (v := .int mwt) (C := R_Md) (T := T_Md) (N := 31) hx hb htg in_Md hown hK hP 0 rfl rfl 25 (by decide) (htg _ wd_820) (fun _ h9 => h9) rfl dMd_told_46 ?_
      refine lv_aload_n hx hb dMd_told_49 rfl (lv_at hl 1 rfl) ?_
      refine va_get (D := (dC, dI)) (ci := 11) (v := .int mhs) (C := R_Md) (T := T_Md) (N := 31) hx hb htg in_Md hown hK hP 0 rfl rfl 4 (by decide) (htg _ wd_799) (fun _ h9 => h9) rfl dMd_told_50 ?_
      obtain ⟨g_5, hfn⟩ := og hfn
      refine va_iast hx hb hK hP hD hS 2 0 rfl rfl g_5 dMd_told_53 (fun H locs hP hD hS => ?_)
      have hP : va_P (dC, dI) vwCl [(o0, .inr (11, [.int 0, .int 9, .int mbt, .int mrw, .int mhs, .int mco, .int (bI mey), .int mu1, .int mu2, .int mu3, .int mu4, .ref r_lastBit, .ref r_plain, .ref r_mixed, .ref r_chooser, .ref r_own, .ref r_ownCounter, .ref r_tag, .ref r_sum, .ref r_use, .ref r_weight, .ref r_loopTag, .ref r_length, .ref r_count, .ref r_trust, .int mwt, .ref r_waitPlace, .ref r_waitHistory, .ref r_waitSaid, .int mmk, .ref r_mark])), (r_waitPlace, .inl (cA.1, 64, .inl (upd g_waitPlace mwt.toNatClampNeg pl))), (r_waitHistory, .inl (cA.1, 64, .inl (upd g_waitHistory mwt.toNatClampNeg mhs))), (r_waitSaid, .inl (cA.2.1, 64, .inl g_waitSaid))] H := hP
      have hD : va_D A [(o0, .inr (11, [.int 0, .int 9, .int mbt, .int mrw, .int mhs, .int mco, .int (bI mey), .int mu1, .int mu2, .int mu3, .int mu4, .ref r_lastBit, .ref r_plain, .ref r_mixed, .ref r_chooser, .ref r_own, .ref r_ownCounter, .ref r_tag, .ref r_sum, .ref r_use, .ref r_weight, .ref r_loopTag, .ref r_length, .ref r_count, .ref r_trust, .int mwt, .ref r_waitPlace, .ref r_waitHistory, .ref r_waitSaid, .int mmk, .ref r_mark])), (r_waitPlace, .inl (cA.1, 64, .inl (upd g_waitPlace mwt.toNatClampNeg pl))), (r_waitHistory, .inl (cA.1, 64, .inl (upd g_waitHistory mwt.toNatClampNeg mhs))), (r_waitSaid, .inl (cA.2.1, 64, .inl g_waitSaid))] := hD
      refine lv_aload_n hx hb dMd_told_54 rfl (lv_at hl 1 rfl) ?_
      refine va_get (D := (dC, dI)) (ci := 11) (v := .ref r_waitSaid) (C := R_Md) (T := T_Md) (N := 31) hx hb htg in_Md hown hK hP 0 rfl rfl 28 (by decide) (htg _ wd_823) (fun _ h9 => h9) rfl dMd_told_55 ?_
      refine lv_aload_n hx hb dMd_told_58 rfl (lv_at hl 1 rfl) ?_
      refine va_get (D := (dC, dI)) (ci := 11) (v := .int mwt) (C := R_Md) (T := T_Md) (N := 31) hx hb htg in_Md hown hK hP 0 rfl rfl 25 (by decide) (htg _ wd_820) (fun _ h9 => h9) rfl dMd_told_59 ?_
      refine lv_iload_n hx hb dMd_told_62 rfl (lv_at hl 0 rfl) ?_
      obtain ⟨g_6, hfn⟩ := og hfn
      refine va_zast hx hb hK hP hD hS 3 1 rfl rfl g_6 dMd_told_63 (fun H locs hP hD hS => ?_)
      have hP : va_P (dC, dI) vwCl [(o0, .inr (11, [.int 0, .int 9, .int mbt, .int mrw, .int mhs, .int mco, .int (bI mey), .int mu1, .int mu2, .int mu3, .int mu4, .ref r_lastBit, .ref r_plain, .ref r_mixed, .ref r_chooser, .ref r_own, .ref r_ownCounter, .ref r_tag, .ref r_sum, .ref r_use, .ref r_weight, .ref r_loopTag, .ref r_length, .ref r_count, .ref r_trust, .int mwt, .ref r_waitPlace, .ref r_waitHistory, .ref r_waitSaid, .int mmk, .ref r_mark])), (r_waitPlace, .inl (cA.1, 64, .inl (upd g_waitPlace mwt.toNatClampNeg pl))), (r_waitHistory, .inl (cA.1, 64, .inl (upd g_waitHistory mwt.toNatClampNeg mhs))), (r_waitSaid, .inl (cA.2.1, 64, .inl (upd g_waitSaid mwt.toNatClampNeg (vp_nar .boolean (bI z_1)))))] H := hP
      have hD : va_D A [(o0, .inr (11, [.int 0, .int 9, .int mbt, .int mrw, .int mhs, .int mco, .int (bI mey), .int mu1, .int mu2, .int mu3, .int mu4, .ref r_lastBit, .ref r_plain, .ref r_mixed, .ref r_chooser, .ref r_own, .ref r_ownCounter, .ref r_tag, .ref r_sum, .ref r_use, .ref r_weight, .ref r_loopTag, .ref r_length, .ref r_count, .ref r_trust, .int mwt, .ref r_waitPlace, .ref r_waitHistory, .ref r_waitSaid, .int mmk, .ref r_mark])), (r_waitPlace, .inl (cA.1, 64, .inl (upd g_waitPlace mwt.toNatClampNeg pl))), (r_waitHistory, .inl (cA.1, 64, .inl (upd g_waitHistory mwt.toNatClampNeg mhs))), (r_waitSaid, .inl (cA.2.1, 64, .inl (upd g_waitSaid mwt.toNatClampNeg (vp_nar .boolean (bI z_1)))))] := hD
      refine lv_aload_n hx hb dMd_told_64 rfl (lv_at hl 1 rfl) ?_
      refine lv_dup hx hb dMd_told_65 rfl ?_
      refine va_get (D := (dC, dI)) (ci := 11) (v := .int mwt) (C := R_Md) (T := T_Md) (N := 31) hx hb htg in_Md hown hK hP 0 rfl rfl 25 (by decide) (htg _ wd_820) (fun _ h9 => h9) rfl dMd_told_66 ?_
      refine lv_iconst (v := 1) hx hb dMd_told_69 (by decide) ?_
      refine lv_iadd hx hb dMd_told_70 ?_
      refine va_put (D := (dC, dI)) (ci := 11) (v := .int (mwt + 1)) (ty := .int) (C := R_Md) (T := T_Md) (N := 31) hx hb htg in_Md ty_Md tk_Md nm_Md hown hK hP hD hS 0 rfl rfl 25 (by decide) (htg _ wd_820) (fun _ h9 => h9) rfl (by decide +kernel) rfl rfl (Nat.le_of_ble_eq_true rfl) dMd_told_71 (fun H locs hP hD hS => ?_)
      have hP : va_P (dC, dI) vwCl [(o0, .inr (11, [.int 0, .int 9, .int mbt, .int mrw, .int mhs, .int mco, .int (bI mey), .int mu1, .int mu2, .int mu3, .int mu4, .ref r_lastBit, .ref r_plain, .ref r_mixed, .ref r_chooser, .ref r_own, .ref r_ownCounter, .ref r_tag, .ref r_sum, .ref r_use, .ref r_weight, .ref r_loopTag, .ref r_length, .ref r_count, .ref r_trust, .int (mwt + 1), .ref r_waitPlace, .ref r_waitHistory, .ref r_waitSaid, .int mmk, .ref r_mark])), (r_waitPlace, .inl (cA.1, 64, .inl (upd g_waitPlace mwt.toNatClampNeg pl))), (r_waitHistory, .inl (cA.1, 64, .inl (upd g_waitHistory mwt.toNatClampNeg mhs))), (r_waitSaid, .inl (cA.2.1, 64, .inl (upd g_waitSaid mwt.toNatClampNeg (vp_nar .boolean (bI z_1)))))] H := hP
      have hD : va_D A [(o0, .inr (11, [.int 0, .int 9, .int mbt, .int mrw, .int mhs, .int mco, .int (bI mey), .int mu1, .int mu2, .int mu3, .int mu4, .ref r_lastBit, .ref r_plain, .ref r_mixed, .ref r_chooser, .ref r_own, .ref r_ownCounter, .ref r_tag, .ref r_sum, .ref r_use, .ref r_weight, .ref r_loopTag, .ref r_length, .ref r_count, .ref r_trust, .int (mwt + 1), .ref r_waitPlace, .ref r_waitHistory, .ref r_waitSaid, .int mmk, .ref r_mark])), (r_waitPlace, .inl (cA.1, 64, .inl (upd g_waitPlace mwt.toNatClampNeg pl))), (r_waitHistory, .inl (cA.1, 64, .inl (upd g_waitHistory mwt.toNatClampNeg mhs))), (r_waitSaid, .inl (cA.2.1, 64, .inl (upd g_waitSaid mwt.toNatClampNeg (vp_nar .boolean (bI z_1)))))] := hD
      refine lv_aload_n hx hb dMd_told_74 rfl (lv_at hl 1 rfl) ?_
      refine lv_aload_n hx hb dMd_told_75 rfl (lv_at hl 1 rfl) ?_
      refine va_get (D := (dC, dI)) (ci := 11) (v := .int mhs) (C := R_Md) (T := T_Md) (N := 31) hx hb htg in_Md hown hK hP 0 rfl rfl 4 (by decide) (htg _ wd_799) (fun _ h9 => h9) rfl dMd_told_76 ?_
      refine lv_iload_n hx hb dMd_told_79 rfl (lv_at hl 0 rfl) ?_
      refine rd_S (As := [.int mhs, .int (bI z_1)]) (rest := [.ref o0]) ⟨hx, hb, hml, hown, htg⟩ (c_Md_behind l dC dI cA mhs z_1) (cw_S htg wd_951 qMd_behind iMd_behind kMd_behind pMd_behind rfl rfl ⟨Nat.le_of_ble_eq_true rfl, Nat.le_of_ble_eq_true rfl⟩) hN (hP.sub [] rfl) hK rfl hl.1 rfl (Nat.le_of_ble_eq_true rfl) dMd_told_80 ⟨Nat.le_of_ble_eq_true rfl, Nat.le_of_ble_eq_true rfl⟩ ?_
      refine va_put (D := (dC, dI)) (ci := 11) (v := .int (tf_Md_behind mhs z_1)) (ty := .int) (C := R_Md) (T := T_Md) (N := 31) hx hb htg in_Md ty_Md tk_Md nm_Md hown hK hP hD hS 0 rfl rfl 4 (by decide) (htg _ wd_799) (fun _ h9 => h9) rfl (by decide +kernel) rfl rfl (Nat.le_of_ble_eq_true rfl) dMd_told_83 (fun H locs hP hD hS => ?_)
      have hP : va_P (dC, dI) vwCl [(o0, .inr (11, [.int 0, .int 9, .int mbt, .int mrw, .int (tf_Md_behind mhs z_1), .int mco, .int (bI mey), .int mu1, .int mu2, .int mu3, .int mu4, .ref r_lastBit, .ref r_plain, .ref r_mixed, .ref r_chooser, .ref r_own, .ref r_ownCounter, .ref r_tag, .ref r_sum, .ref r_use, .ref r_weight, .ref r_loopTag, .ref r_length, .ref r_count, .ref r_trust, .int (mwt + 1), .ref r_waitPlace, .ref r_waitHistory, .ref r_waitSaid, .int mmk, .ref r_mark])), (r_waitPlace, .inl (cA.1, 64, .inl (upd g_waitPlace mwt.toNatClampNeg pl))), (r_waitHistory, .inl (cA.1, 64, .inl (upd g_waitHistory mwt.toNatClampNeg mhs))), (r_waitSaid, .inl (cA.2.1, 64, .inl (upd g_waitSaid mwt.toNatClampNeg (vp_nar .boolean (bI z_1)))))] H := hP
      have hD : va_D A [(o0, .inr (11, [.int 0, .int 9, .int mbt, .int mrw, .int (tf_Md_behind mhs z_1), .int mco, .int (bI mey), .int mu1, .int mu2, .int mu3, .int mu4, .ref r_lastBit, .ref r_plain, .ref r_mixed, .ref r_chooser, .ref r_own, .ref r_ownCounter, .ref r_tag, .ref r_sum, .ref r_use, .ref r_weight, .ref r_loopTag, .ref r_length, .ref r_count, .ref r_trust, .int (mwt + 1), .ref r_waitPlace, .ref r_waitHistory, .ref r_waitSaid, .int mmk, .ref r_mark])), (r_waitPlace, .inl (cA.1, 64, .inl (upd g_waitPlace mwt.toNatClampNeg pl))), (r_waitHistory, .inl (cA.1, 64, .inl (upd g_waitHistory mwt.toNatClampNeg mhs))), (r_waitSaid, .inl (cA.2.1, 64, .inl (upd g_waitSaid mwt.toNatClampNeg (vp_nar .boolean (bI z_1)))))] := hD
      refine lv_iload_n hx hb dMd_told_86 rfl (lv_at hl 0 rfl) ?_
      replace hfn := Option.some.inj hfn
      obtain ⟨e9, hf_0⟩ := Prod.mk.inj hfn; clear hfn; subst e9
      obtain ⟨e9, hf_1⟩ := Prod.mk.inj hf_0; clear hf_0; subst e9
      obtain ⟨e9, hf_2⟩ := Prod.mk.inj hf_1; clear hf_1; subst e9
      obtain ⟨e9, hf_3⟩ := Prod.mk.inj hf_2; clear hf_2; subst e9
      obtain ⟨e9, hf_4⟩ := Prod.mk.inj hf_3; clear hf_3; subst e9
      obtain ⟨e9, hf_5⟩ := Prod.mk.inj hf_4; clear hf_4; subst e9
      subst hf_5
      exact W.zret hx hb hr (nar_bI _) (fun t ht hW => ⟨⟨_, _, rfl, ⟨rfl, rfl⟩, ⟨by rw [ht]; exact hP.sub [0, 1, 2, 3] rfl, va_K.moved hW.alike hK, hD.sub [0, 1, 2, 3] (by decide) rfl⟩⟩, hS.F ht⟩) hS.2.2 dMd_told_87
def of_Md_update_9_b201 : Nat → Int32 → Int32 → Int32 → Int32 → Bool → Int32 → Int32 → Int32 → Int32 → (Nat → Int32) → (Nat → Int32) → (Nat → Int32) → Option (Bool × Int32 × Int32 × Int32 × Int32 × Int32 × Int32 × Int32 × Int32 × (Nat → Int32) × (Nat → Int32) × (Nat → Int32))
  | 0, _, _, _, _, _, _, _, _, _, _, _, _ => none
  | n + 1, mhs, mu1, mu4, mwt, v5_b201, v6_b201, w_o0_5_b201, w_o0_8_b201, w_o0_9_b201, w_r_waitHistory_a_b201, w_r_waitPlace_a_b201, w_r_waitSaid_a_b201 => (if (mwt - 1) ≤ v6_b201 then some (v5_b201, 0, mu4, (mwt - 1), mhs, w_o0_5_b201, (mu1 + 1), w_o0_8_b201, w_o0_9_b201, w_r_waitPlace_a_b201, w_r_waitHistory_a_b201, w_r_waitSaid_a_b201) else (if (v6_b201 + 1) < 0 ∨ 64 ≤ (v6_b201 + 1).toNatClampNeg then none else (if v6_b201 < 0 ∨ 64 ≤ v6_b201.toNatClampNeg then none else (if (v6_b201 + 1) < 0 ∨ 64 ≤ (v6_b201 + 1).toNatClampNeg then none else (if v6_b201 < 0 ∨ 64 ≤ v6_b201.toNatClampNeg then none else (if (v6_b201 + 1) < 0 ∨ 64 ≤ (v6_b201 + 1).toNatClampNeg then none else (if v6_b201 < 0 ∨ 64 ≤ v6_b201.toNatClampNeg then none else of_Md_update_9_b201 n mhs mu1 mu4 mwt v5_b201 (v6_b201 + 1) w_o0_5_b201 w_o0_8_b201 w_o0_9_b201 (upd w_r_waitHistory_a_b201 v6_b201.toNatClampNeg (w_r_waitHistory_a_b201 (v6_b201 + 1).toNatClampNeg)) (upd w_r_waitPlace_a_b201 v6_b201.toNatClampNeg (w_r_waitPlace_a_b201 (v6_b201 + 1).toNatClampNeg)) (upd w_r_waitSaid_a_b201 v6_b201.toNatClampNeg (vp_nar .boolean (w_r_waitSaid_a_b201 (v6_b201 + 1).toNatClampNeg))))))))))
def of_Md_update_9_b123 (mhs : Int32) (mu1 : Int32) (mu3 : Int32) (mu4 : Int32) (mwt : Int32) (g_waitPlace : Nat → Int32) (g_waitHistory : Nat → Int32) (g_waitSaid : Nat → Int32) (tk : Bool) (v3_b123 : Int32) (v4_b123 : Int32) (v5_b123 : Bool) (s0_b123 : Bool) (w_o0_5_b123 : Int32) (w_o0_8_b123 : Int32) : Option (Bool × Int32 × Int32 × Int32 × Int32 × Int32 × Int32 × Int32 × Int32 × (Nat → Int32) × (Nat → Int32) × (Nat → Int32)) := (if v3_b123 = mwt then some (v5_b123, 0, mu4, mwt, (tf_Md_behind mhs tk), w_o0_5_b123, (mu1 + 1), w_o0_8_b123, (mu3 + (bI s0_b123)), g_waitPlace, g_waitHistory, g_waitSaid) else (if v3_b123 < 0 ∨ 64 ≤ v3_b123.toNatClampNeg then none else (if (g_waitSaid v3_b123.toNatClampNeg) = (bI tk) then of_Md_update_9_b201 4096 mhs mu1 mu4 mwt v5_b123 v3_b123 w_o0_5_b123 w_o0_8_b123 (mu3 + (bI s0_b123)) g_waitHistory g_waitPlace g_waitSaid else some (v5_b123, 0, (mu4 + 1), 0, (tf_Md_behind v4_b123 tk), w_o0_5_b123, (mu1 + 1), w_o0_8_b123, (mu3 + (bI s0_b123)), g_waitPlace, g_waitHistory, g_waitSaid))))
def of_Md_update_9_b105 (mhs : Int32) (mu1 : Int32) (mu2 : Int32) (mu3 : Int32) (mu4 : Int32) (mwt : Int32) (g_waitPlace : Nat → Int32) (g_waitHistory : Nat → Int32) (g_waitSaid : Nat → Int32) (tk : Bool) (v3_b105 : Int32) (v4_b105 : Int32) (v5_b105 : Bool) (s0_b105 : Bool) (w_o0_5_b105 : Int32) : Option (Bool × Int32 × Int32 × Int32 × Int32 × Int32 × Int32 × Int32 × Int32 × (Nat → Int32) × (Nat → Int32) × (Nat → Int32)) := (if (bI tk) = 0 then of_Md_update_9_b123 mhs mu1 mu3 mu4 mwt g_waitPlace g_waitHistory g_waitSaid tk v3_b105 v4_b105 v5_b105 false w_o0_5_b105 (mu2 + (bI s0_b105)) else of_Md_update_9_b123 mhs mu1 mu3 mu4 mwt g_waitPlace g_waitHistory g_waitSaid tk v3_b105 v4_b105 v5_b105 true w_o0_5_b105 (mu2 + (bI s0_b105)))
def of_Md_update_9_b70 (mhs : Int32) (mco : Int32) (mu1 : Int32) (mu2 : Int32) (mu3 : Int32) (mu4 : Int32) (mwt : Int32) (g_waitPlace : Nat → Int32) (g_waitHistory : Nat → Int32) (g_waitSaid : Nat → Int32) (tk : Bool) (v3_b70 : Int32) (v4_b70 : Int32) (s0_b70 : Bool) : Option (Bool × Int32 × Int32 × Int32 × Int32 × Int32 × Int32 × Int32 × Int32 × (Nat → Int32) × (Nat → Int32) × (Nat → Int32)) := ((of_Md_learn_9 mco).bind fun z_8 => (if (bI s0_b70) = 0 then of_Md_update_9_b105 mhs mu1 mu2 mu3 mu4 mwt g_waitPlace g_waitHistory g_waitSaid tk v3_b70 v4_b70 s0_b70 true z_8 else of_Md_update_9_b105 mhs mu1 mu2 mu3 mu4 mwt g_waitPlace g_waitHistory g_waitSaid tk v3_b70 v4_b70 s0_b70 false z_8))
def of_Md_update_9_b52 (mhs : Int32) (mco : Int32) (mu1 : Int32) (mu2 : Int32) (mu3 : Int32) (mu4 : Int32) (mwt : Int32) (g_waitPlace : Nat → Int32) (g_waitHistory : Nat → Int32) (g_waitSaid : Nat → Int32) (tk : Bool) (v3_b52 : Int32) (s0_b52 : Int32) : Option (Bool × Int32 × Int32 × Int32 × Int32 × Int32 × Int32 × Int32 × Int32 × (Nat → Int32) × (Nat → Int32) × (Nat → Int32)) := ((of_Md_says_9 mco).bind fun z_6 => (if (bI z_6) = (bI tk) then of_Md_update_9_b70 mhs mco mu1 mu2 mu3 mu4 mwt g_waitPlace g_waitHistory g_waitSaid tk v3_b52 s0_b52 true else of_Md_update_9_b70 mhs mco mu1 mu2 mu3 mu4 mwt g_waitPlace g_waitHistory g_waitSaid tk v3_b52 s0_b52 false))
def of_Md_update_9_b31 (mhs : Int32) (mco : Int32) (mu1 : Int32) (mu2 : Int32) (mu3 : Int32) (mu4 : Int32) (mwt : Int32) (g_waitPlace : Nat → Int32) (g_waitHistory : Nat → Int32) (g_waitSaid : Nat → Int32) (tk : Bool) (v3_b31 : Int32) : Option (Bool × Int32 × Int32 × Int32 × Int32 × Int32 × Int32 × Int32 × Int32 × (Nat → Int32) × (Nat → Int32) × (Nat → Int32)) := (if mwt ≤ v3_b31 then of_Md_update_9_b52 mhs mco mu1 mu2 mu3 mu4 mwt g_waitPlace g_waitHistory g_waitSaid tk v3_b31 mhs else (if v3_b31 < 0 ∨ 64 ≤ v3_b31.toNatClampNeg then none else of_Md_update_9_b52 mhs mco mu1 mu2 mu3 mu4 mwt g_waitPlace g_waitHistory g_waitSaid tk v3_b31 (g_waitHistory v3_b31.toNatClampNeg)))
def of_Md_update_9_b7 : Nat → Int32 → Int32 → Int32 → Int32 → Int32 → Int32 → Int32 → (Nat → Int32) → (Nat → Int32) → (Nat → Int32) → Int32 → Bool → Int32 → Option (Bool × Int32 × Int32 × Int32 × Int32 × Int32 × Int32 × Int32 × Int32 × (Nat → Int32) × (Nat → Int32) × (Nat → Int32))
  | 0, _, _, _, _, _, _, _, _, _, _, _, _, _ => none
  | n + 1, mhs, mco, mu1, mu2, mu3, mu4, mwt, g_waitPlace, g_waitHistory, g_waitSaid, pl, tk, v3_b7 => (if mwt ≤ v3_b7 then of_Md_update_9_b31 mhs mco mu1 mu2 mu3 mu4 mwt g_waitPlace g_waitHistory g_waitSaid tk v3_b7 else (if v3_b7 < 0 ∨ 64 ≤ v3_b7.toNatClampNeg then none else (if (g_waitPlace v3_b7.toNatClampNeg) = pl then of_Md_update_9_b31 mhs mco mu1 mu2 mu3 mu4 mwt g_waitPlace g_waitHistory g_waitSaid tk v3_b7 else of_Md_update_9_b7 n mhs mco mu1 mu2 mu3 mu4 mwt g_waitPlace g_waitHistory g_waitSaid pl tk (v3_b7 + 1))))
def of_Md_update_9 (mhs : Int32) (mco : Int32) (mu1 : Int32) (mu2 : Int32) (mu3 : Int32) (mu4 : Int32) (mwt : Int32) (g_waitPlace : Nat → Int32) (g_waitHistory : Nat → Int32) (g_waitSaid : Nat → Int32) (pl : Int32) (tk : Bool) : Option (Bool × Int32 × Int32 × Int32 × Int32 × Int32 × Int32 × Int32 × Int32 × (Nat → Int32) × (Nat → Int32) × (Nat → Int32)) := of_Md_update_9_b7 4096 mhs mco mu1 mu2 mu3 mu4 mwt g_waitPlace g_waitHistory g_waitSaid pl tk 0
set_option maxHeartbeats 4000000 in
set_option maxRecDepth 100000 in
theorem c_Md_update_9 (l : Launch) (dC : Nat → ClassId) (dI : Nat → Nat → Nat) (cA : ClassId × ClassId × ClassId) (zz : Nat) (o0 : Nat) (r_waitPlace : Nat) (r_waitHistory : Nat) (r_waitSaid : Nat) (r_lastBit : Nat) (r_plain : Nat) (r_mixed : Nat) (r_chooser : Nat) (r_own : Nat) (r_ownCounter : Nat) (r_tag : Nat) (r_sum : Nat) (r_use : Nat) (r_weight : Nat) (r_loopTag : Nat) (r_length : Nat) (r_count : Nat) (r_trust : Nat) (r_mark : Nat) (mt : Int32) (mbt : Int32) (mrw : Int32) (mhs : Int32) (mco : Int32) (mey : Bool) (mu1 : Int32) (mu2 : Int32) (mu3 : Int32) (mu4 : Int32) (mwt : Int32) (mmk : Int32) (g_waitPlace : Nat → Int32) (g_waitHistory : Nat → Int32) (g_waitSaid : Nat → Int32) (pl : Int32) (tk : Bool) (rs0 : Bool) (rs1 : Int32) (rs2 : Int32) (rs3 : Int32) (rs4 : Int32) (rs5 : Int32) (rs6 : Int32) (rs7 : Int32) (rs8 : Int32) (rs9 : (Nat → Int32)) (rs10 : (Nat → Int32)) (rs11 : (Nat → Int32)) (hfn : (of_Md_update_9 mhs mco mu1 mu2 mu3 mu4 mwt g_waitPlace g_waitHistory g_waitSaid pl tk) = some (rs0, rs1, rs2, rs3, rs4, rs5, rs6, rs7, rs8, rs9, rs10, rs11)) : Met l yMd_update wMd_update ({ frames := 3, cells := 0, slots := 0, locals := 70 }) (va_Pc [.ref o0, .int pl, .int (bI tk)] (Wr (dC, dI) cA zz [(o0, .inr (11, [.int mt, .int 9, .int mbt, .int mrw, .int mhs, .int mco, .int (bI mey), .int mu1, .int mu2, .int mu3, .int mu4, .ref r_lastBit, .ref r_plain, .ref r_mixed, .ref r_chooser, .ref r_own, .ref r_ownCounter, .ref r_tag, .ref r_sum, .ref r_use, .ref r_weight, .ref r_loopTag, .ref r_length, .ref r_count, .ref r_trust, .int mwt, .ref r_waitPlace, .ref r_waitHistory, .ref r_waitSaid, .int mmk, .ref r_mark])), (r_waitPlace, .inl (cA.1, 64, .inl g_waitPlace)), (r_waitHistory, .inl (cA.1, 64, .inl g_waitHistory)), (r_waitSaid, .inl (cA.2.1, 64, .inl g_waitSaid))])) (va_Qi (fun r9 w9 => r9 = (bI (rs0)) ∧ w9 = [(o0, .inr (11, [.int rs1, .int 9, .int mbt, .int mrw, .int rs4, .int rs5, .int (bI mey), .int rs6, .int rs7, .int rs8, .int rs2, .ref r_lastBit, .ref r_plain, .ref r_mixed, .ref r_chooser, .ref r_own, .ref r_ownCounter, .ref r_tag, .ref r_sum, .ref r_use, .ref r_weight, .ref r_loopTag, .ref r_length, .ref r_count, .ref r_trust, .int rs3, .ref r_waitPlace, .ref r_waitHistory, .ref r_waitSaid, .int mmk, .ref r_mark])), (r_waitPlace, .inl (cA.1, 64, .inl rs9)), (r_waitHistory, .inl (cA.1, 64, .inl rs10)), (r_waitSaid, .inl (cA.2.1, 64, .inl rs11))]) (At (dC, dI) cA (va_A [(o0, .inr (11, [.int mt, .int 9, .int mbt, .int mrw, .int mhs, .int mco, .int (bI mey), .int mu1, .int mu2, .int mu3, .int mu4, .ref r_lastBit, .ref r_plain, .ref r_mixed, .ref r_chooser, .ref r_own, .ref r_ownCounter, .ref r_tag, .ref r_sum, .ref r_use, .ref r_weight, .ref r_loopTag, .ref r_length, .ref r_count, .ref r_trust, .int mwt, .ref r_waitPlace, .ref r_waitHistory, .ref r_waitSaid, .int mmk, .ref r_mark])), (r_waitPlace, .inl (cA.1, 64, .inl g_waitPlace)), (r_waitHistory, .inl (cA.1, 64, .inl g_waitHistory)), (r_waitSaid, .inl (cA.2.1, 64, .inl g_waitSaid))] zz)) (va_A [(o0, .inr (11, [.int mt, .int 9, .int mbt, .int mrw, .int mhs, .int mco, .int (bI mey), .int mu1, .int mu2, .int mu3, .int mu4, .ref r_lastBit, .ref r_plain, .ref r_mixed, .ref r_chooser, .ref r_own, .ref r_ownCounter, .ref r_tag, .ref r_sum, .ref r_use, .ref r_weight, .ref r_loopTag, .ref r_length, .ref r_count, .ref r_trust, .int mwt, .ref r_waitPlace, .ref r_waitHistory, .ref r_waitSaid, .int mmk, .ref r_mark])), (r_waitPlace, .inl (cA.1, 64, .inl g_waitPlace)), (r_waitHistory, .inl (cA.1, 64, .inl g_waitHistory)), (r_waitSaid, .inl (cA.2.1, 64, .inl g_waitSaid))] zz)) 0 0 (va_A [(o0, .inr (11, [.int mt, .int 9, .int mbt, .int mrw, .int mhs, .int mco, .int (bI mey), .int mu1, .int mu2, .int mu3, .int mu4, .ref r_lastBit, .ref r_plain, .ref r_mixed, .ref r_chooser, .ref r_own, .ref r_ownCounter, .ref r_tag, .ref r_sum, .ref r_use, .ref r_weight, .ref r_loopTag, .ref r_length, .ref r_count, .ref r_trust, .int mwt, .ref r_waitPlace, .ref r_waitHistory, .ref r_waitSaid, .int mmk, .ref r_mark])), (r_waitPlace, .inl (cA.1, 64, .inl g_waitPlace)), (r_waitHistory, .inl (cA.1, 64, .inl g_waitHistory)), (r_waitSaid, .inl (cA.2.1, 64, .inl g_waitSaid))] zz) := by
  refine Met.ofW (cc := cMd_update) (maxL := 7) (ret := (some .boolean)) (by decide) rfl ?_
  intro p e s m args below meth c s₁ B hml hv
  obtain ⟨rfl, hsz, hN, hP, hK, hD0⟩ := hv
  have hx := B.exec
  have hb := B.bytes
  have hr := B.returns
  have hts := atoms_spec (ws := wMd_update) B.pre
  have htg : ∀ w ∈ GW, w.before _ s = true := fun w h => hts w (List.mem_cons_of_mem _ h)
  have hown : s.vm.findClass R_Md = some m.cls := findClass_of_methodNamed B.named
  have hlocks := B.notSynchronized
  subst hsz
  have hD := hD0.self (sz := s.heap.size)
  generalize hAe : va_A [(o0, .inr (11, [.int mt, .int 9, .int mbt, .int mrw, .int mhs, .int mco, .int (bI mey), .int mu1, .int mu2, .int mu3, .int mu4, .ref r_lastBit, .ref r_plain, .ref r_mixed, .ref r_chooser, .ref r_own, .ref r_ownCounter, .ref r_tag, .ref r_sum, .ref r_use, .ref r_weight, .ref r_loopTag, .ref r_length, .ref r_count, .ref r_trust, .int mwt, .ref r_waitPlace, .ref r_waitHistory, .ref r_waitSaid, .int mmk, .ref r_mark])), (r_waitPlace, .inl (cA.1, 64, .inl g_waitPlace)), (r_waitHistory, .inl (cA.1, 64, .inl g_waitHistory)), (r_waitSaid, .inl (cA.2.1, 64, .inl g_waitSaid))] s.heap.size = A at hD ⊢
  have hA : ∀ q : Nat, s.heap.size ≤ q → A q := fun q h => by rw [← hAe]; exact Or.inr h
  have hS : va_S A s.heap s.heap [] := va_S.rf
  have hP : va_P (dC, dI) vwCl [(o0, .inr (11, [.int mt, .int 9, .int mbt, .int mrw, .int mhs, .int mco, .int (bI mey), .int mu1, .int mu2, .int mu3, .int mu4, .ref r_lastBit, .ref r_plain, .ref r_mixed, .ref r_chooser, .ref r_own, .ref r_ownCounter, .ref r_tag, .ref r_sum, .ref r_use, .ref r_weight, .ref r_loopTag, .ref r_length, .ref r_count, .ref r_trust, .int mwt, .ref r_waitPlace, .ref r_waitHistory, .ref r_waitSaid, .int mmk, .ref r_mark])), (r_waitPlace, .inl (cA.1, 64, .inl g_waitPlace)), (r_waitHistory, .inl (cA.1, 64, .inl g_waitHistory)), (r_waitSaid, .inl (cA.2.1, 64, .inl g_waitSaid))] s.heap := hP
  have blk201 : ∀ n : Nat, ∀ (rs0 : Bool) (rs1 : Int32) (rs2 : Int32) (rs3 : Int32) (rs4 : Int32) (rs5 : Int32) (rs6 : Int32) (rs7 : Int32) (rs8 : Int32) (rs9 : (Nat → Int32)) (rs10 : (Nat → Int32)) (rs11 : (Nat → Int32)) (v5_b201 : Bool) (v6_b201 : Int32) (w_o0_5_b201 : Int32) (w_o0_8_b201 : Int32) (w_o0_9_b201 : Int32) (w_r_waitHistory_a_b201 : Nat → Int32) (w_r_waitPlace_a_b201 : Nat → Int32) (w_r_waitSaid_a_b201 : Nat → Int32) (H : Heap) (locs : List Loc) (ls : Array Slot), of_Md_update_9_b201 n mhs mu1 mu4 mwt v5_b201 v6_b201 w_o0_5_b201 w_o0_8_b201 w_o0_9_b201 w_r_waitHistory_a_b201 w_r_waitPlace_a_b201 w_r_waitSaid_a_b201 = some (rs0, rs1, rs2, rs3, rs4, rs5, rs6, rs7, rs8, rs9, rs10, rs11) → va_P (dC, dI) vwCl [(o0, .inr (11, [.int 0, .int 9, .int mbt, .int mrw, .int mhs, .int w_o0_5_b201, .int (bI mey), .int (mu1 + 1), .int w_o0_8_b201, .int w_o0_9_b201, .int mu4, .ref r_lastBit, .ref r_plain, .ref r_mixed, .ref r_chooser, .ref r_own, .ref r_ownCounter, .ref r_tag, .ref r_sum, .ref r_use, .ref r_weight, .ref r_loopTag, .ref r_length, .ref r_count, .ref r_trust, .int (mwt - 1), .ref r_waitPlace, .ref r_waitHistory, .ref r_waitSaid, .int mmk, .ref r_mark])), (r_waitPlace, .inl (cA.1, 64, .inl w_r_waitPlace_a_b201)), (r_waitHistory, .inl (cA.1, 64, .inl w_r_waitHistory_a_b201)), (r_waitSaid, .inl (cA.2.1, 64, .inl w_r_waitSaid_a_b201))] H → va_D A [(o0, .inr (11, [.int 0, .int 9, .int mbt, .int mrw, .int mhs, .int w_o0_5_b201, .int (bI mey), .int (mu1 + 1), .int w_o0_8_b201, .int w_o0_9_b201, .int mu4, .ref r_lastBit, .ref r_plain, .ref r_mixed, .ref r_chooser, .ref r_own, .ref r_ownCounter, .ref r_tag, .ref r_sum, .ref r_use, .ref r_weight, .ref r_loopTag, .ref r_length, .ref r_count, .ref r_trust, .int (mwt - 1), .ref r_waitPlace, .ref r_waitHistory, .ref r_waitSaid, .int mmk, .ref r_mark])), (r_waitPlace, .inl (cA.1, 64, .inl w_r_waitPlace_a_b201)), (r_waitHistory, .inl (cA.1, 64, .inl w_r_waitHistory_a_b201)), (r_waitSaid, .inl (cA.2.1, 64, .inl w_r_waitSaid_a_b201))] → va_S A s.heap H locs → lv_has ls 7 [(0, .ref o0), (5, .int (bI v5_b201)), (6, .int v6_b201)] → W p l e (headSpec wMd_update ({ frames := 3, cells := 0, slots := 0, locals := 70 })).room s m ([.ref o0, .int pl, .int (bI tk)] : List Value).toArray below meth c H locs 0 0 (MQ below (va_Qi (fun r9 w9 => r9 = (bI (rs0)) ∧ w9 = [(o0, .inr (11, [.int rs1, .int 9, .int mbt, .int mrw, .int rs4, .int rs5, .int (bI mey), .int rs6, .int rs7, .int rs8, .int rs2, .ref r_lastBit, .ref r_plain, .ref r_mixed, .ref r_chooser, .ref r_own, .ref r_ownCounter, .ref r_tag, .ref r_sum, .ref r_use, .ref r_weight, .ref r_loopTag, .ref r_length, .ref r_count, .ref r_trust, .int rs3, .ref r_waitPlace, .ref r_waitHistory, .ref r_waitSaid, .int mmk, .ref r_mark])), (r_waitPlace, .inl (cA.1, 64, .inl rs9)), (r_waitHistory, .inl (cA.1, 64, .inl rs10)), (r_waitSaid, .inl (cA.2.1, 64, .inl rs11))]) (At (dC, dI) cA A) A) ([.ref o0, .int pl, .int (bI tk)] : List Value).toArray s 0 0 A) (F0 m 201 ls []) := by
    intro n
    induction n with
    | zero =>
      intro rs0 rs1 rs2 rs3 rs4 rs5 rs6 rs7 rs8 rs9 rs10 rs11 v5_b201 v6_b201 w_o0_5_b201 w_o0_8_b201 w_o0_9_b201 w_r_waitHistory_a_b201 w_r_waitPlace_a_b201 w_r_waitSaid_a_b201 H locs ls hfn hP hD hS hl
      exact absurd hfn (by intro h; cases h)
    | succ n ih =>
      intro rs0 rs1 rs2 rs3 rs4 rs5 rs6 rs7 rs8 rs9 rs10 rs11 v5_b201 v6_b201 w_o0_5_b201 w_o0_8_b201 w_o0_9_b201 w_r_waitHistory_a_b201 w_r_waitPlace_a_b201 w_r_waitSaid_a_b201 H locs ls hfn hP hD hS hl
      unfold of_Md_update_9_b201 at hfn
      refine lv_iload hx hb dMd_update_201 (lv_at hl 2 rfl) ?_
      refine lv_aload_n hx hb dMd_update_203 rfl (lv_at hl 0 rfl) ?_
      refine va_get (D := (dC, dI)) (ci := 11) (v := .int (mwt - 1)) (C := R_Md) (T := T_Md) (N := 31) hx hb htg in_Md hown hK hP 0 rfl rfl 25 (by decide) (htg _ wd_820) (fun _ h9 => h9) rfl dMd_update_204 ?_
      refine lv_icmp_ge (tgt := 264) hx hb dMd_update_207 (by decide) (fun c_14 => ?_) (fun c_14 => ?_)
      · rw [if_pos c_14] at hfn
        refine lv_iload hx hb dMd_update_264 (lv_at hl 1 rfl) ?_
        replace hfn := Option.some.inj hfn
        obtain ⟨e9, hf_0⟩ := Prod.mk.inj hfn; clear hfn; subst e9
        obtain ⟨e9, hf_1⟩ := Prod.mk.inj hf_0; clear hf_0; subst e9
        obtain ⟨e9, hf_2⟩ := Prod.mk.inj hf_1; clear hf_1; subst e9
        obtain ⟨e9, hf_3⟩ := Prod.mk.inj hf_2; clear hf_2; subst e9
        obtain ⟨e9, hf_4⟩ := Prod.mk.inj hf_3; clear hf_3; subst e9
        obtain ⟨e9, hf_5⟩ := Prod.mk.inj hf_4; clear hf_4; subst e9
        obtain ⟨e9, hf_6⟩ := Prod.mk.inj hf_5; clear hf_5; subst e9
        obtain ⟨e9, hf_7⟩ := Prod.mk.inj hf_6; clear hf_6; subst e9
        obtain ⟨e9, hf_8⟩ := Prod.mk.inj hf_7; clear hf_7; subst e9
        obtain ⟨e9, hf_9⟩ := Prod.mk.inj hf_8; clear hf_8; subst e9
        obtain ⟨e9, hf_10⟩ := Prod.mk.inj hf_9; clear hf_9; subst e9
        subst hf_10
        exact W.zret hx hb hr (nar_bI _) (fun t ht hW => ⟨⟨_, _, rfl, ⟨rfl, rfl⟩, ⟨by rw [ht]; exact hP.sub [0, 1, 2, 3] rfl, va_K.moved hW.alike hK, hD.sub [0, 1, 2, 3] (by decide) rfl⟩⟩, hS.F ht⟩) hS.2.2 dMd_update_266
      · rw [if_neg c_14] at hfn
        refine lv_aload_n hx hb dMd_update_210 rfl (lv_at hl 0 rfl) ?_
        refine va_get (D := (dC, dI)) (ci := 11) (v := .ref r_waitPlace) (C := R_Md) (T := T_Md) (N := 31) hx hb htg in_Md hown hK hP 0 rfl rfl 26 (by decide) (htg _ wd_821) (fun _ h9 => h9) rfl dMd_update_211 ?_
        refine lv_iload hx hb dMd_update_214 (lv_at hl 2 rfl) ?_
        refine lv_aload_n hx hb dMd_update_216 rfl (lv_at hl 0 rfl) ?_
        refine va_get (D := (dC, dI)) (ci := 11) (v := .ref r_waitPlace) (C := R_Md) (T := T_Md) (N := 31) hx hb htg in_Md hown hK hP 0 rfl rfl 26 (by decide) (htg _ wd_821) (fun _ h9 => h9) rfl dMd_update_217 ?_
        refine lv_iload hx hb dMd_update_220 (lv_at hl 2 rfl) ?_
        refine lv_iconst (v := 1) hx hb dMd_update_222 (by decide) ?_
        refine lv_iadd hx hb dMd_update_223 ?_
        obtain ⟨g_15, hfn⟩ := og hfn
        refine va_iald hx hb hK hP 1 0 rfl rfl g_15 dMd_update_224 ?_
        obtain ⟨g_16, hfn⟩ := og hfn
        refine va_iast hx hb hK hP hD hS 1 0 rfl rfl g_16 dMd_update_225 (fun H locs hP hD hS => ?_)
        have hP : va_P (dC, dI) vwCl [(o0, .inr (11, [.int 0, .int 9, .int mbt, .int mrw, .int mhs, .int w_o0_5_b201, .int (bI mey), .int (mu1 + 1), .int w_o0_8_b201, .int w_o0_9_b201, .int mu4, .ref r_lastBit, .ref r_plain, .ref r_mixed, .ref r_chooser, .ref r_own, .ref r_ownCounter, .ref r_tag, .ref r_sum, .ref r_use, .ref r_weight, .ref r_loopTag, .ref r_length, .ref r_count, .ref r_trust, .int (mwt - 1), .ref r_waitPlace, .ref r_waitHistory, .ref r_waitSaid, .int mmk, .ref r_mark])), (r_waitPlace, .inl (cA.1, 64, .inl (upd w_r_waitPlace_a_b201 v6_b201.toNatClampNeg (w_r_waitPlace_a_b201 (v6_b201 + 1).toNatClampNeg)))), (r_waitHistory, .inl (cA.1, 64, .inl w_r_waitHistory_a_b201)), (r_waitSaid, .inl (cA.2.1, 64, .inl w_r_waitSaid_a_b201))] H := hP
        have hD : va_D A [(o0, .inr (11, [.int 0, .int 9, .int mbt, .int mrw, .int mhs, .int w_o0_5_b201, .int (bI mey), .int (mu1 + 1), .int w_o0_8_b201, .int w_o0_9_b201, .int mu4, .ref r_lastBit, .ref r_plain, .ref r_mixed, .ref r_chooser, .ref r_own, .ref r_ownCounter, .ref r_tag, .ref r_sum, .ref r_use, .ref r_weight, .ref r_loopTag, .ref r_length, .ref r_count, .ref r_trust, .int (mwt - 1), .ref r_waitPlace, .ref r_waitHistory, .ref r_waitSaid, .int mmk, .ref r_mark])), (r_waitPlace, .inl (cA.1, 64, .inl (upd w_r_waitPlace_a_b201 v6_b201.toNatClampNeg (w_r_waitPlace_a_b201 (v6_b201 + 1).toNatClampNeg)))), (r_waitHistory, .inl (cA.1, 64, .inl w_r_waitHistory_a_b201)), (r_waitSaid, .inl (cA.2.1, 64, .inl w_r_waitSaid_a_b201))] := hD
        refine lv_aload_n hx hb dMd_update_226 rfl (lv_at hl 0 rfl) ?_
        refine va_get (D := (dC, dI)) (ci := 11) (v := .ref r_waitHistory) (C := R_Md) (T := T_Md) (N := 31) hx hb htg in_Md hown hK hP 0 rfl rfl 27 (by decide) (htg _ wd_822) (fun _ h9 => h9) rfl dMd_update_227 ?_
        refine lv_iload hx hb dMd_update_230 (lv_at hl 2 rfl) ?_
        refine lv_aload_n hx hb dMd_update_232 rfl (lv_at hl 0 rfl) ?_
        refine va_get (D := (dC, dI)) (ci := 11) (v := .ref r_waitHistory) (C := R_Md) (T := T_Md) (N := 31) hx hb htg in_Md hown hK hP 0 rfl rfl 27 (by decide) (htg _ wd_822) (fun _ h9 => h9) rfl dMd_update_233 ?_
        refine lv_iload hx hb dMd_update_236 (lv_at hl 2 rfl) ?_
        refine lv_iconst (v := 1) hx hb dMd_update_238 (by decide) ?_
        refine lv_iadd hx hb dMd_update_239 ?_
        obtain ⟨g_17, hfn⟩ := og hfn
        refine va_iald hx hb hK hP 2 0 rfl rfl g_17 dMd_update_240 ?_
        obtain ⟨g_18, hfn⟩ := og hfn
        refine va_iast hx hb hK hP hD hS 2 0 rfl rfl g_18 dMd_update_241 (fun H locs hP hD hS => ?_)
        have hP : va_P (dC, dI) vwCl [(o0, .inr (11, [.int 0, .int 9, .int mbt, .int mrw, .int mhs, .int w_o0_5_b201, .int (bI mey), .int (mu1 + 1), .int w_o0_8_b201, .int w_o0_9_b201, .int mu4, .ref r_lastBit, .ref r_plain, .ref r_mixed, .ref r_chooser, .ref r_own, .ref r_ownCounter, .ref r_tag, .ref r_sum, .ref r_use, .ref r_weight, .ref r_loopTag, .ref r_length, .ref r_count, .ref r_trust, .int (mwt - 1), .ref r_waitPlace, .ref r_waitHistory, .ref r_waitSaid, .int mmk, .ref r_mark])), (r_waitPlace, .inl (cA.1, 64, .inl (upd w_r_waitPlace_a_b201 v6_b201.toNatClampNeg (w_r_waitPlace_a_b201 (v6_b201 + 1).toNatClampNeg)))), (r_waitHistory, .inl (cA.1, 64, .inl (upd w_r_waitHistory_a_b201 v6_b201.toNatClampNeg (w_r_waitHistory_a_b201 (v6_b201 + 1).toNatClampNeg)))), (r_waitSaid, .inl (cA.2.1, 64, .inl w_r_waitSaid_a_b201))] H := hP
        have hD : va_D A [(o0, .inr (11, [.int 0, .int 9, .int mbt, .int mrw, .int mhs, .int w_o0_5_b201, .int (bI mey), .int (mu1 + 1), .int w_o0_8_b201, .int w_o0_9_b201, .int mu4, .ref r_lastBit, .ref r_plain, .ref r_mixed, .ref r_chooser, .ref r_own, .ref r_ownCounter, .ref r_tag, .ref r_sum, .ref r_use, .ref r_weight, .ref r_loopTag, .ref r_length, .ref r_count, .ref r_trust, .int (mwt - 1), .ref r_waitPlace, .ref r_waitHistory, .ref r_waitSaid, .int mmk, .ref r_mark])), (r_waitPlace, .inl (cA.1, 64, .inl (upd w_r_waitPlace_a_b201 v6_b201.toNatClampNeg (w_r_waitPlace_a_b201 (v6_b201 + 1).toNatClampNeg)))), (r_waitHistory, .inl (cA.1, 64, .inl (upd w_r_waitHistory_a_b201 v6_b201.toNatClampNeg (w_r_waitHistory_a_b201 (v6_b201 + 1).toNatClampNeg)))), (r_waitSaid, .inl (cA.2.1, 64, .inl w_r_waitSaid_a_b201))] := hD
        refine lv_aload_n hx hb dMd_update_242 rfl (lv_at hl 0 rfl) ?_
        refine va_get (D := (dC, dI)) (ci := 11) (v := .ref r_waitSaid) (C := R_Md) (T := T_Md) (N := 31) hx hb htg in_Md hown hK hP 0 rfl rfl 28 (by decide) (htg _ wd_823) (fun _ h9 => h9) rfl dMd_update_243 ?_
        refine lv_iload hx hb dMd_update_246 (lv_at hl 2 rfl) ?_
        refine lv_aload_n hx hb dMd_update_248 rfl (lv_at hl 0 rfl) ?_
        refine va_get (D := (dC, dI)) (ci := 11) (v := .ref r_waitSaid) (C := R_Md) (T := T_Md) (N := 31) hx hb htg in_Md hown hK hP 0 rfl rfl 28 (by decide) (htg _ wd_823) (fun _ h9 => h9) rfl dMd_update_249 ?_
        refine lv_iload hx hb dMd_update_252 (lv_at hl 2 rfl) ?_
        refine lv_iconst (v := 1) hx hb dMd_update_254 (by decide) ?_
        refine lv_iadd hx hb dMd_update_255 ?_
        obtain ⟨g_19, hfn⟩ := og hfn
        refine va_zald hx hb hK hP 3 1 rfl rfl g_19 dMd_update_256 ?_
        obtain ⟨g_20, hfn⟩ := og hfn
        refine va_zast hx hb hK hP hD hS 3 1 rfl rfl g_20 dMd_update_257 (fun H locs hP hD hS => ?_)
        have hP : va_P (dC, dI) vwCl [(o0, .inr (11, [.int 0, .int 9, .int mbt, .int mrw, .int mhs, .int w_o0_5_b201, .int (bI mey), .int (mu1 + 1), .int w_o0_8_b201, .int w_o0_9_b201, .int mu4, .ref r_lastBit, .ref r_plain, .ref r_mixed, .ref r_chooser, .ref r_own, .ref r_ownCounter, .ref r_tag, .ref r_sum, .ref r_use, .ref r_weight, .ref r_loopTag, .ref r_length, .ref r_count, .ref r_trust, .int (mwt - 1), .ref r_waitPlace, .ref r_waitHistory, .ref r_waitSaid, .int mmk, .ref r_mark])), (r_waitPlace, .inl (cA.1, 64, .inl (upd w_r_waitPlace_a_b201 v6_b201.toNatClampNeg (w_r_waitPlace_a_b201 (v6_b201 + 1).toNatClampNeg)))), (r_waitHistory, .inl (cA.1, 64, .inl (upd w_r_waitHistory_a_b201 v6_b201.toNatClampNeg (w_r_waitHistory_a_b201 (v6_b201 + 1).toNatClampNeg)))), (r_waitSaid, .inl (cA.2.1, 64, .inl (upd w_r_waitSaid_a_b201 v6_b201.toNatClampNeg (vp_nar .boolean (w_r_waitSaid_a_b201 (v6_b201 + 1).toNatClampNeg)))))] H := hP
        have hD : va_D A [(o0, .inr (11, [.int 0, .int 9, .int mbt, .int mrw, .int mhs, .int w_o0_5_b201, .int (bI mey), .int (mu1 + 1), .int w_o0_8_b201, .int w_o0_9_b201, .int mu4, .ref r_lastBit, .ref r_plain, .ref r_mixed, .ref r_chooser, .ref r_own, .ref r_ownCounter, .ref r_tag, .ref r_sum, .ref r_use, .ref r_weight, .ref r_loopTag, .ref r_length, .ref r_count, .ref r_trust, .int (mwt - 1), .ref r_waitPlace, .ref r_waitHistory, .ref r_waitSaid, .int mmk, .ref r_mark])), (r_waitPlace, .inl (cA.1, 64, .inl (upd w_r_waitPlace_a_b201 v6_b201.toNatClampNeg (w_r_waitPlace_a_b201 (v6_b201 + 1).toNatClampNeg)))), (r_waitHistory, .inl (cA.1, 64, .inl (upd w_r_waitHistory_a_b201 v6_b201.toNatClampNeg (w_r_waitHistory_a_b201 (v6_b201 + 1).toNatClampNeg)))), (r_waitSaid, .inl (cA.2.1, 64, .inl (upd w_r_waitSaid_a_b201 v6_b201.toNatClampNeg (vp_nar .boolean (w_r_waitSaid_a_b201 (v6_b201 + 1).toNatClampNeg)))))] := hD
        refine lv_iinc (v := (v6_b201 + 1)) (lv' := [(6, .int (v6_b201 + 1)), (0, .ref o0), (5, .int (bI v5_b201))]) hx hb dMd_update_258 hl (k := 2) rfl rfl (by decide) rfl (fun ls hl => ?_)
        refine lv_goto (tgt := 201) hx hb dMd_update_261 (by decide) ?_
        exact ih _ _ _ _ _ _ _ _ _ _ _ _ v5_b201 (v6_b201 + 1) w_o0_5_b201 w_o0_8_b201 w_o0_9_b201 (upd w_r_waitHistory_a_b201 v6_b201.toNatClampNeg (w_r_waitHistory_a_b201 (v6_b201 + 1).toNatClampNeg)) (upd w_r_waitPlace_a_b201 v6_b201.toNatClampNeg (w_r_waitPlace_a_b201 (v6_b201 + 1).toNatClampNeg)) (upd w_r_waitSaid_a_b201 v6_b201.toNatClampNeg (vp_nar .boolean (w_r_waitSaid_a_b201 (v6_b201 + 1).toNatClampNeg))) _ _ ls hfn (hP.sub [0, 1, 2, 3] rfl) (hD.sub [0, 1, 2, 3] (by decide) rfl) hS (lv_sub hl [1, 2, 0] rfl)
  have blk123 : ∀ (rs0 : Bool) (rs1 : Int32) (rs2 : Int32) (rs3 : Int32) (rs4 : Int32) (rs5 : Int32) (rs6 : Int32) (rs7 : Int32) (rs8 : Int32) (rs9 : (Nat → Int32)) (rs10 : (Nat → Int32)) (rs11 : (Nat → Int32)) (v3_b123 : Int32) (v4_b123 : Int32) (v5_b123 : Bool) (s0_b123 : Bool) (w_o0_5_b123 : Int32) (w_o0_8_b123 : Int32) (H : Heap) (locs : List Loc) (ls : Array Slot), of_Md_update_9_b123 mhs mu1 mu3 mu4 mwt g_waitPlace g_waitHistory g_waitSaid tk v3_b123 v4_b123 v5_b123 s0_b123 w_o0_5_b123 w_o0_8_b123 = some (rs0, rs1, rs2, rs3, rs4, rs5, rs6, rs7, rs8, rs9, rs10, rs11) → va_P (dC, dI) vwCl [(o0, .inr (11, [.int 0, .int 9, .int mbt, .int mrw, .int mhs, .int w_o0_5_b123, .int (bI mey), .int (mu1 + 1), .int w_o0_8_b123, .int mu3, .int mu4, .ref r_lastBit, .ref r_plain, .ref r_mixed, .ref r_chooser, .ref r_own, .ref r_ownCounter, .ref r_tag, .ref r_sum, .ref r_use, .ref r_weight, .ref r_loopTag, .ref r_length, .ref r_count, .ref r_trust, .int mwt, .ref r_waitPlace, .ref r_waitHistory, .ref r_waitSaid, .int mmk, .ref r_mark])), (r_waitPlace, .inl (cA.1, 64, .inl g_waitPlace)), (r_waitHistory, .inl (cA.1, 64, .inl g_waitHistory)), (r_waitSaid, .inl (cA.2.1, 64, .inl g_waitSaid))] H → va_D A [(o0, .inr (11, [.int 0, .int 9, .int mbt, .int mrw, .int mhs, .int w_o0_5_b123, .int (bI mey), .int (mu1 + 1), .int w_o0_8_b123, .int mu3, .int mu4, .ref r_lastBit, .ref r_plain, .ref r_mixed, .ref r_chooser, .ref r_own, .ref r_ownCounter, .ref r_tag, .ref r_sum, .ref r_use, .ref r_weight, .ref r_loopTag, .ref r_length, .ref r_count, .ref r_trust, .int mwt, .ref r_waitPlace, .ref r_waitHistory, .ref r_waitSaid, .int mmk, .ref r_mark])), (r_waitPlace, .inl (cA.1, 64, .inl g_waitPlace)), (r_waitHistory, .inl (cA.1, 64, .inl g_waitHistory)), (r_waitSaid, .inl (cA.2.1, 64, .inl g_waitSaid))] → va_S A s.heap H locs → lv_has ls 7 [(0, .ref o0), (2, .int (bI tk)), (3, .int v3_b123), (4, .int v4_b123), (5, .int (bI v5_b123))] → W p l e (headSpec wMd_update ({ frames := 3, cells := 0, slots := 0, locals := 70 })).room s m ([.ref o0, .int pl, .int (bI tk)] : List Value).toArray below meth c H locs 0 0 (MQ below (va_Qi (fun r9 w9 => r9 = (bI (rs0)) ∧ w9 = [(o0, .inr (11, [.int rs1, .int 9, .int mbt, .int mrw, .int rs4, .int rs5, .int (bI mey), .int rs6, .int rs7, .int rs8, .int rs2, .ref r_lastBit, .ref r_plain, .ref r_mixed, .ref r_chooser, .ref r_own, .ref r_ownCounter, .ref r_tag, .ref r_sum, .ref r_use, .ref r_weight, .ref r_loopTag, .ref r_length, .ref r_count, .ref r_trust, .int rs3, .ref r_waitPlace, .ref r_waitHistory, .ref r_waitSaid, .int mmk, .ref r_mark])), (r_waitPlace, .inl (cA.1, 64, .inl rs9)), (r_waitHistory, .inl (cA.1, 64, .inl rs10)), (r_waitSaid, .inl (cA.2.1, 64, .inl rs11))]) (At (dC, dI) cA A) A) ([.ref o0, .int pl, .int (bI tk)] : List Value).toArray s 0 0 A) (F0 m 123 ls [.int (bI s0_b123), .int mu3, .ref o0]) := by
    intro rs0 rs1 rs2 rs3 rs4 rs5 rs6 rs7 rs8 rs9 rs10 rs11 v3_b123 v4_b123 v5_b123 s0_b123 w_o0_5_b123 w_o0_8_b123 H locs ls hfn hP hD hS hl
    unfold of_Md_update_9_b123 at hfn
    refine lv_iadd hx hb dMd_update_123 ?_
    refine va_put (D := (dC, dI)) (ci := 11) (v := .int (mu3 + (bI s0_b123))) (ty := .int) (C := R_Md) (T := T_Md) (N := 31) hx hb htg in_Md ty_Md tk_Md nm_Md hown hK hP hD hS 0 rfl rfl 9 (by decide) (htg _ wd_804) (fun _ h9 => h9) rfl (by decide +kernel) rfl rfl (Nat.le_of_ble_eq_true rfl) dMd_update_124 (fun H locs hP hD hS => ?_)
    have hP : va_P (dC, dI) vwCl [(o0, .inr (11, [.int 0, .int 9, .int mbt, .int mrw, .int mhs, .int w_o0_5_b123, .int (bI mey), .int (mu1 + 1), .int w_o0_8_b123, .int (mu3 + (bI s0_b123)), .int mu4, .ref r_lastBit, .ref r_plain, .ref r_mixed, .ref r_chooser, .ref r_own, .ref r_ownCounter, .ref r_tag, .ref r_sum, .ref r_use, .ref r_weight, .ref r_loopTag, .ref r_length, .ref r_count, .ref r_trust, .int mwt, .ref r_waitPlace, .ref r_waitHistory, .ref r_waitSaid, .int mmk, .ref r_mark])), (r_waitPlace, .inl (cA.1, 64, .inl g_waitPlace)), (r_waitHistory, .inl (cA.1, 64, .inl g_waitHistory)), (r_waitSaid, .inl (cA.2.1, 64, .inl g_waitSaid))] H := hP
    have hD : va_D A [(o0, .inr (11, [.int 0, .int 9, .int mbt, .int mrw, .int mhs, .int w_o0_5_b123, .int (bI mey), .int (mu1 + 1), .int w_o0_8_b123, .int (mu3 + (bI s0_b123)), .int mu4, .ref r_lastBit, .ref r_plain, .ref r_mixed, .ref r_chooser, .ref r_own, .ref r_ownCounter, .ref r_tag, .ref r_sum, .ref r_use, .ref r_weight, .ref r_loopTag, .ref r_length, .ref r_count, .ref r_trust, .int mwt, .ref r_waitPlace, .ref r_waitHistory, .ref r_waitSaid, .int mmk, .ref r_mark])), (r_waitPlace, .inl (cA.1, 64, .inl g_waitPlace)), (r_waitHistory, .inl (cA.1, 64, .inl g_waitHistory)), (r_waitSaid, .inl (cA.2.1, 64, .inl g_waitSaid))] := hD
    refine lv_iload_n hx hb dMd_update_127 rfl (lv_at hl 2 rfl) ?_
    refine lv_aload_n hx hb dMd_update_128 rfl (lv_at hl 0 rfl) ?_
    refine va_get (D := (dC, dI)) (ci := 11) (v := .int mwt) (C := R_Md) (T := T_Md) (N := 31) hx hb htg in_Md hown hK hP 0 rfl rfl 25 (by decide) (htg _ wd_820) (fun _ h9 => h9) rfl dMd_update_129 ?_
    refine lv_icmp_ne (tgt := 150) hx hb dMd_update_132 (by decide) (fun c_11 => ?_) (fun c_11 => ?_)
    · rw [if_neg c_11] at hfn
      refine lv_aload_n hx hb dMd_update_150 rfl (lv_at hl 0 rfl) ?_
      refine va_get (D := (dC, dI)) (ci := 11) (v := .ref r_waitSaid) (C := R_Md) (T := T_Md) (N := 31) hx hb htg in_Md hown hK hP 0 rfl rfl 28 (by decide) (htg _ wd_823) (fun _ h9 => h9) rfl dMd_update_151 ?_
      refine lv_iload_n hx hb dMd_update_154 rfl (lv_at hl 2 rfl) ?_
      obtain ⟨g_12, hfn⟩ := og hfn
      refine va_zald hx hb hK hP 3 1 rfl rfl g_12 dMd_update_155 ?_
      refine lv_iload_n hx hb dMd_update_156 rfl (lv_at hl 1 rfl) ?_
      refine lv_icmp_eq (tgt := 188) hx hb dMd_update_157 (by decide) (fun c_13 => ?_) (fun c_13 => ?_)
      · rw [if_pos c_13] at hfn
        refine lv_aload_n hx hb dMd_update_188 rfl (lv_at hl 0 rfl) ?_
        refine lv_dup hx hb dMd_update_189 rfl ?_
        refine va_get (D := (dC, dI)) (ci := 11) (v := .int mwt) (C := R_Md) (T := T_Md) (N := 31) hx hb htg in_Md hown hK hP 0 rfl rfl 25 (by decide) (htg _ wd_820) (fun _ h9 => h9) rfl dMd_update_190 ?_
        refine lv_iconst (v := 1) hx hb dMd_update_193 (by decide) ?_
        refine lv_isub hx hb dMd_update_194 ?_
        refine va_put (D := (dC, dI)) (ci := 11) (v := .int (mwt - 1)) (ty := .int) (C := R_Md) (T := T_Md) (N := 31) hx hb htg in_Md ty_Md tk_Md nm_Md hown hK hP hD hS 0 rfl rfl 25 (by decide) (htg _ wd_820) (fun _ h9 => h9) rfl (by decide +kernel) rfl rfl (Nat.le_of_ble_eq_true rfl) dMd_update_195 (fun H locs hP hD hS => ?_)
        have hP : va_P (dC, dI) vwCl [(o0, .inr (11, [.int 0, .int 9, .int mbt, .int mrw, .int mhs, .int w_o0_5_b123, .int (bI mey), .int (mu1 + 1), .int w_o0_8_b123, .int (mu3 + (bI s0_b123)), .int mu4, .ref r_lastBit, .ref r_plain, .ref r_mixed, .ref r_chooser, .ref r_own, .ref r_ownCounter, .ref r_tag, .ref r_sum, .ref r_use, .ref r_weight, .ref r_loopTag, .ref r_length, .ref r_count, .ref r_trust, .int (mwt - 1), .ref r_waitPlace, .ref r_waitHistory, .ref r_waitSaid, .int mmk, .ref r_mark])), (r_waitPlace, .inl (cA.1, 64, .inl g_waitPlace)), (r_waitHistory, .inl (cA.1, 64, .inl g_waitHistory)), (r_waitSaid, .inl (cA.2.1, 64, .inl g_waitSaid))] H := hP
        have hD : va_D A [(o0, .inr (11, [.int 0, .int 9, .int mbt, .int mrw, .int mhs, .int w_o0_5_b123, .int (bI mey), .int (mu1 + 1), .int w_o0_8_b123, .int (mu3 + (bI s0_b123)), .int mu4, .ref r_lastBit, .ref r_plain, .ref r_mixed, .ref r_chooser, .ref r_own, .ref r_ownCounter, .ref r_tag, .ref r_sum, .ref r_use, .ref r_weight, .ref r_loopTag, .ref r_length, .ref r_count, .ref r_trust, .int (mwt - 1), .ref r_waitPlace, .ref r_waitHistory, .ref r_waitSaid, .int mmk, .ref r_mark])), (r_waitPlace, .inl (cA.1, 64, .inl g_waitPlace)), (r_waitHistory, .inl (cA.1, 64, .inl g_waitHistory)), (r_waitSaid, .inl (cA.2.1, 64, .inl g_waitSaid))] := hD
        refine lv_iload_n hx hb dMd_update_198 rfl (lv_at hl 2 rfl) ?_
        refine lv_istore (lv' := [(6, .int v3_b123), (0, .ref o0), (2, .int (bI tk)), (3, .int v3_b123), (4, .int v4_b123), (5, .int (bI v5_b123))]) hx hb dMd_update_199 hl (by decide) rfl (fun ls hl => ?_)
        exact blk201 4096 _ _ _ _ _ _ _ _ _ _ _ _ v5_b123 v3_b123 w_o0_5_b123 w_o0_8_b123 (mu3 + (bI s0_b123)) g_waitHistory g_waitPlace g_waitSaid _ _ ls hfn (hP.sub [0, 1, 2, 3] rfl) (hD.sub [0, 1, 2, 3] (by decide) rfl) hS (lv_sub hl [1, 5, 0] rfl)
      · rw [if_neg c_13] at hfn
        refine lv_aload_n hx hb dMd_update_160 rfl (lv_at hl 0 rfl) ?_
        refine lv_iload hx hb dMd_update_161 (lv_at hl 3 rfl) ?_
        refine lv_iload_n hx hb dMd_update_163 rfl (lv_at hl 1 rfl) ?_
        refine rd_S (As := [.int v4_b123, .int (bI tk)]) (rest := [.ref o0]) ⟨hx, hb, hml, hown, htg⟩ (c_Md_behind l dC dI cA v4_b123 tk) (cw_S htg wd_951 qMd_behind iMd_behind kMd_behind pMd_behind rfl rfl ⟨Nat.le_of_ble_eq_true rfl, Nat.le_of_ble_eq_true rfl⟩) hN (hP.sub [] rfl) hK rfl hl.1 rfl (Nat.le_of_ble_eq_true rfl) dMd_update_164 ⟨Nat.le_of_ble_eq_true rfl, Nat.le_of_ble_eq_true rfl⟩ ?_
        refine va_put (D := (dC, dI)) (ci := 11) (v := .int (tf_Md_behind v4_b123 tk)) (ty := .int) (C := R_Md) (T := T_Md) (N := 31) hx hb htg in_Md ty_Md tk_Md nm_Md hown hK hP hD hS 0 rfl rfl 4 (by decide) (htg _ wd_799) (fun _ h9 => h9) rfl (by decide +kernel) rfl rfl (Nat.le_of_ble_eq_true rfl) dMd_update_167 (fun H locs hP hD hS => ?_)
        have hP : va_P (dC, dI) vwCl [(o0, .inr (11, [.int 0, .int 9, .int mbt, .int mrw, .int (tf_Md_behind v4_b123 tk), .int w_o0_5_b123, .int (bI mey), .int (mu1 + 1), .int w_o0_8_b123, .int (mu3 + (bI s0_b123)), .int mu4, .ref r_lastBit, .ref r_plain, .ref r_mixed, .ref r_chooser, .ref r_own, .ref r_ownCounter, .ref r_tag, .ref r_sum, .ref r_use, .ref r_weight, .ref r_loopTag, .ref r_length, .ref r_count, .ref r_trust, .int mwt, .ref r_waitPlace, .ref r_waitHistory, .ref r_waitSaid, .int mmk, .ref r_mark])), (r_waitPlace, .inl (cA.1, 64, .inl g_waitPlace)), (r_waitHistory, .inl (cA.1, 64, .inl g_waitHistory)), (r_waitSaid, .inl (cA.2.1, 64, .inl g_waitSaid))] H := hP
        have hD : va_D A [(o0, .inr (11, [.int 0, .int 9, .int mbt, .int mrw, .int (tf_Md_behind v4_b123 tk), .int w_o0_5_b123, .int (bI mey), .int (mu1 + 1), .int w_o0_8_b123, .int (mu3 + (bI s0_b123)), .int mu4, .ref r_lastBit, .ref r_plain, .ref r_mixed, .ref r_chooser, .ref r_own, .ref r_ownCounter, .ref r_tag, .ref r_sum, .ref r_use, .ref r_weight, .ref r_loopTag, .ref r_length, .ref r_count, .ref r_trust, .int mwt, .ref r_waitPlace, .ref r_waitHistory, .ref r_waitSaid, .int mmk, .ref r_mark])), (r_waitPlace, .inl (cA.1, 64, .inl g_waitPlace)), (r_waitHistory, .inl (cA.1, 64, .inl g_waitHistory)), (r_waitSaid, .inl (cA.2.1, 64, .inl g_waitSaid))] := hD
        refine lv_aload_n hx hb dMd_update_170 rfl (lv_at hl 0 rfl) ?_
        refine lv_iconst (v := 0) hx hb dMd_update_171 (by decide) ?_
        refine va_put (D := (dC, dI)) (ci := 11) (v := .int 0) (ty := .int) (C := R_Md) (T := T_Md) (N := 31) hx hb htg in_Md ty_Md tk_Md nm_Md hown hK hP hD hS 0 rfl rfl 25 (by decide) (htg _ wd_820) (fun _ h9 => h9) rfl (by decide +kernel) rfl rfl (Nat.le_of_ble_eq_true rfl) dMd_update_172 (fun H locs hP hD hS => ?_)
        have hP : va_P (dC, dI) vwCl [(o0, .inr (11, [.int 0, .int 9, .int mbt, .int mrw, .int (tf_Md_behind v4_b123 tk), .int w_o0_5_b123, .int (bI mey), .int (mu1 + 1), .int w_o0_8_b123, .int (mu3 + (bI s0_b123)), .int mu4, .ref r_lastBit, .ref r_plain, .ref r_mixed, .ref r_chooser, .ref r_own, .ref r_ownCounter, .ref r_tag, .ref r_sum, .ref r_use, .ref r_weight, .ref r_loopTag, .ref r_length, .ref r_count, .ref r_trust, .int 0, .ref r_waitPlace, .ref r_waitHistory, .ref r_waitSaid, .int mmk, .ref r_mark])), (r_waitPlace, .inl (cA.1, 64, .inl g_waitPlace)), (r_waitHistory, .inl (cA.1, 64, .inl g_waitHistory)), (r_waitSaid, .inl (cA.2.1, 64, .inl g_waitSaid))] H := hP
        have hD : va_D A [(o0, .inr (11, [.int 0, .int 9, .int mbt, .int mrw, .int (tf_Md_behind v4_b123 tk), .int w_o0_5_b123, .int (bI mey), .int (mu1 + 1), .int w_o0_8_b123, .int (mu3 + (bI s0_b123)), .int mu4, .ref r_lastBit, .ref r_plain, .ref r_mixed, .ref r_chooser, .ref r_own, .ref r_ownCounter, .ref r_tag, .ref r_sum, .ref r_use, .ref r_weight, .ref r_loopTag, .ref r_length, .ref r_count, .ref r_trust, .int 0, .ref r_waitPlace, .ref r_waitHistory, .ref r_waitSaid, .int mmk, .ref r_mark])), (r_waitPlace, .inl (cA.1, 64, .inl g_waitPlace)), (r_waitHistory, .inl (cA.1, 64, .inl g_waitHistory)), (r_waitSaid, .inl (cA.2.1, 64, .inl g_waitSaid))] := hD
        refine lv_aload_n hx hb dMd_update_175 rfl (lv_at hl 0 rfl) ?_
        refine lv_dup hx hb dMd_update_176 rfl ?_
        refine va_get (D := (dC, dI)) (ci := 11) (v := .int mu4) (C := R_Md) (T := T_Md) (N := 31) hx hb htg in_Md hown hK hP 0 rfl rfl 10 (by decide) (htg _ wd_805) (fun _ h9 => h9) rfl dMd_update_177 ?_
        refine lv_iconst (v := 1) hx hb dMd_update_180 (by decide) ?_
        refine lv_iadd hx hb dMd_update_181 ?_
        refine va_put (D := (dC, dI)) (ci := 11) (v := .int (mu4 + 1)) (ty := .int) (C := R_Md) (T := T_Md) (N := 31) hx hb htg in_Md ty_Md tk_Md nm_Md hown hK hP hD hS 0 rfl rfl 10 (by decide) (htg _ wd_805) (fun _ h9 => h9) rfl (by decide +kernel) rfl rfl (Nat.le_of_ble_eq_true rfl) dMd_update_182 (fun H locs hP hD hS => ?_)
        have hP : va_P (dC, dI) vwCl [(o0, .inr (11, [.int 0, .int 9, .int mbt, .int mrw, .int (tf_Md_behind v4_b123 tk), .int w_o0_5_b123, .int (bI mey), .int (mu1 + 1), .int w_o0_8_b123, .int (mu3 + (bI s0_b123)), .int (mu4 + 1), .ref r_lastBit, .ref r_plain, .ref r_mixed, .ref r_chooser, .ref r_own, .ref r_ownCounter, .ref r_tag, .ref r_sum, .ref r_use, .ref r_weight, .ref r_loopTag, .ref r_length, .ref r_count, .ref r_trust, .int 0, .ref r_waitPlace, .ref r_waitHistory, .ref r_waitSaid, .int mmk, .ref r_mark])), (r_waitPlace, .inl (cA.1, 64, .inl g_waitPlace)), (r_waitHistory, .inl (cA.1, 64, .inl g_waitHistory)), (r_waitSaid, .inl (cA.2.1, 64, .inl g_waitSaid))] H := hP
        have hD : va_D A [(o0, .inr (11, [.int 0, .int 9, .int mbt, .int mrw, .int (tf_Md_behind v4_b123 tk), .int w_o0_5_b123, .int (bI mey), .int (mu1 + 1), .int w_o0_8_b123, .int (mu3 + (bI s0_b123)), .int (mu4 + 1), .ref r_lastBit, .ref r_plain, .ref r_mixed, .ref r_chooser, .ref r_own, .ref r_ownCounter, .ref r_tag, .ref r_sum, .ref r_use, .ref r_weight, .ref r_loopTag, .ref r_length, .ref r_count, .ref r_trust, .int 0, .ref r_waitPlace, .ref r_waitHistory, .ref r_waitSaid, .int mmk, .ref r_mark])), (r_waitPlace, .inl (cA.1, 64, .inl g_waitPlace)), (r_waitHistory, .inl (cA.1, 64, .inl g_waitHistory)), (r_waitSaid, .inl (cA.2.1, 64, .inl g_waitSaid))] := hD
        refine lv_goto (tgt := 264) hx hb dMd_update_185 (by decide) ?_
        refine lv_iload hx hb dMd_update_264 (lv_at hl 4 rfl) ?_
        replace hfn := Option.some.inj hfn
        obtain ⟨e9, hf_0⟩ := Prod.mk.inj hfn; clear hfn; subst e9
        obtain ⟨e9, hf_1⟩ := Prod.mk.inj hf_0; clear hf_0; subst e9
        obtain ⟨e9, hf_2⟩ := Prod.mk.inj hf_1; clear hf_1; subst e9
        obtain ⟨e9, hf_3⟩ := Prod.mk.inj hf_2; clear hf_2; subst e9
        obtain ⟨e9, hf_4⟩ := Prod.mk.inj hf_3; clear hf_3; subst e9
        obtain ⟨e9, hf_5⟩ := Prod.mk.inj hf_4; clear hf_4; subst e9
        obtain ⟨e9, hf_6⟩ := Prod.mk.inj hf_5; clear hf_5; subst e9
        obtain ⟨e9, hf_7⟩ := Prod.mk.inj hf_6; clear hf_6; subst e9
        obtain ⟨e9, hf_8⟩ := Prod.mk.inj hf_7; clear hf_7; subst e9
        obtain ⟨e9, hf_9⟩ := Prod.mk.inj hf_8; clear hf_8; subst e9
        obtain ⟨e9, hf_10⟩ := Prod.mk.inj hf_9; clear hf_9; subst e9
        subst hf_10
        exact W.zret hx hb hr (nar_bI _) (fun t ht hW => ⟨⟨_, _, rfl, ⟨rfl, rfl⟩, ⟨by rw [ht]; exact hP.sub [0, 1, 2, 3] rfl, va_K.moved hW.alike hK, hD.sub [0, 1, 2, 3] (by decide) rfl⟩⟩, hS.F ht⟩) hS.2.2 dMd_update_266
    · rw [if_pos c_11] at hfn
      refine lv_aload_n hx hb dMd_update_135 rfl (lv_at hl 0 rfl) ?_
      refine lv_aload_n hx hb dMd_update_136 rfl (lv_at hl 0 rfl) ?_
      refine va_get (D := (dC, dI)) (ci := 11) (v := .int mhs) (C := R_Md) (T := T_Md) (N := 31) hx hb htg in_Md hown hK hP 0 rfl rfl 4 (by decide) (htg _ wd_799) (fun _ h9 => h9) rfl dMd_update_137 ?_
      refine lv_iload_n hx hb dMd_update_140 rfl (lv_at hl 1 rfl) ?_
      refine rd_S (As := [.int mhs, .int (bI tk)]) (rest := [.ref o0]) ⟨hx, hb, hml, hown, htg⟩ (c_Md_behind l dC dI cA mhs tk) (cw_S htg wd_951 qMd_behind iMd_behind kMd_behind pMd_behind rfl rfl ⟨Nat.le_of_ble_eq_true rfl, Nat.le_of_ble_eq_true rfl⟩) hN (hP.sub [] rfl) hK rfl hl.1 rfl (Nat.le_of_ble_eq_true rfl) dMd_update_141 ⟨Nat.le_of_ble_eq_true rfl, Nat.le_of_ble_eq_true rfl⟩ ?_
      refine va_put (D := (dC, dI)) (ci := 11) (v := .int (tf_Md_behind mhs tk)) (ty := .int) (C := R_Md) (T := T_Md) (N := 31) hx hb htg in_Md ty_Md tk_Md nm_Md hown hK hP hD hS 0 rfl rfl 4 (by decide) (htg _ wd_799) (fun _ h9 => h9) rfl (by decide +kernel) rfl rfl (Nat.le_of_ble_eq_true rfl) dMd_update_144 (fun H locs hP hD hS => ?_)
      have hP : va_P (dC, dI) vwCl [(o0, .inr (11, [.int 0, .int 9, .int mbt, .int mrw, .int (tf_Md_behind mhs tk), .int w_o0_5_b123, .int (bI mey), .int (mu1 + 1), .int w_o0_8_b123, .int (mu3 + (bI s0_b123)), .int mu4, .ref r_lastBit, .ref r_plain, .ref r_mixed, .ref r_chooser, .ref r_own, .ref r_ownCounter, .ref r_tag, .ref r_sum, .ref r_use, .ref r_weight, .ref r_loopTag, .ref r_length, .ref r_count, .ref r_trust, .int mwt, .ref r_waitPlace, .ref r_waitHistory, .ref r_waitSaid, .int mmk, .ref r_mark])), (r_waitPlace, .inl (cA.1, 64, .inl g_waitPlace)), (r_waitHistory, .inl (cA.1, 64, .inl g_waitHistory)), (r_waitSaid, .inl (cA.2.1, 64, .inl g_waitSaid))] H := hP
      have hD : va_D A [(o0, .inr (11, [.int 0, .int 9, .int mbt, .int mrw, .int (tf_Md_behind mhs tk), .int w_o0_5_b123, .int (bI mey), .int (mu1 + 1), .int w_o0_8_b123, .int (mu3 + (bI s0_b123)), .int mu4, .ref r_lastBit, .ref r_plain, .ref r_mixed, .ref r_chooser, .ref r_own, .ref r_ownCounter, .ref r_tag, .ref r_sum, .ref r_use, .ref r_weight, .ref r_loopTag, .ref r_length, .ref r_count, .ref r_trust, .int mwt, .ref r_waitPlace, .ref r_waitHistory, .ref r_waitSaid, .int mmk, .ref r_mark])), (r_waitPlace, .inl (cA.1, 64, .inl g_waitPlace)), (r_waitHistory, .inl (cA.1, 64, .inl g_waitHistory)), (r_waitSaid, .inl (cA.2.1, 64, .inl g_waitSaid))] := hD
      refine lv_goto (tgt := 264) hx hb dMd_update_147 (by decide) ?_
      refine lv_iload hx hb dMd_update_264 (lv_at hl 4 rfl) ?_
      replace hfn := Option.some.inj hfn
      obtain ⟨e9, hf_0⟩ := Prod.mk.inj hfn; clear hfn; subst e9
      obtain ⟨e9, hf_1⟩ := Prod.mk.inj hf_0; clear hf_0; subst e9
      obtain ⟨e9, hf_2⟩ := Prod.mk.inj hf_1; clear hf_1; subst e9
      obtain ⟨e9, hf_3⟩ := Prod.mk.inj hf_2; clear hf_2; subst e9
      obtain ⟨e9, hf_4⟩ := Prod.mk.inj hf_3; clear hf_3; subst e9
      obtain ⟨e9, hf_5⟩ := Prod.mk.inj hf_4; clear hf_4; subst e9
      obtain ⟨e9, hf_6⟩ := Prod.mk.inj hf_5; clear hf_5; subst e9
      obtain ⟨e9, hf_7⟩ := Prod.mk.inj hf_6; clear hf_6; subst e9
      obtain ⟨e9, hf_8⟩ := Prod.mk.inj hf_7; clear hf_7; subst e9
      obtain ⟨e9, hf_9⟩ := Prod.mk.inj hf_8; clear hf_8; subst e9
      obtain ⟨e9, hf_10⟩ := Prod.mk.inj hf_9; clear hf_9; subst e9
      subst hf_10
      exact W.zret hx hb hr (nar_bI _) (fun t ht hW => ⟨⟨_, _, rfl, ⟨rfl, rfl⟩, ⟨by rw [ht]; exact hP.sub [0, 1, 2, 3] rfl, va_K.moved hW.alike hK, hD.sub [0, 1, 2, 3] (by decide) rfl⟩⟩, hS.F ht⟩) hS.2.2 dMd_update_266
  have blk105 : ∀ (rs0 : Bool) (rs1 : Int32) (rs2 : Int32) (rs3 : Int32) (rs4 : Int32) (rs5 : Int32) (rs6 : Int32) (rs7 : Int32) (rs8 : Int32) (rs9 : (Nat → Int32)) (rs10 : (Nat → Int32)) (rs11 : (Nat → Int32)) (v3_b105 : Int32) (v4_b105 : Int32) (v5_b105 : Bool) (s0_b105 : Bool) (w_o0_5_b105 : Int32) (H : Heap) (locs : List Loc) (ls : Array Slot), of_Md_update_9_b105 mhs mu1 mu2 mu3 mu4 mwt g_waitPlace g_waitHistory g_waitSaid tk v3_b105 v4_b105 v5_b105 s0_b105 w_o0_5_b105 = some (rs0, rs1, rs2, rs3, rs4, rs5, rs6, rs7, rs8, rs9, rs10, rs11) → va_P (dC, dI) vwCl [(o0, .inr (11, [.int 0, .int 9, .int mbt, .int mrw, .int mhs, .int w_o0_5_b105, .int (bI mey), .int (mu1 + 1), .int mu2, .int mu3, .int mu4, .ref r_lastBit, .ref r_plain, .ref r_mixed, .ref r_chooser, .ref r_own, .ref r_ownCounter, .ref r_tag, .ref r_sum, .ref r_use, .ref r_weight, .ref r_loopTag, .ref r_length, .ref r_count, .ref r_trust, .int mwt, .ref r_waitPlace, .ref r_waitHistory, .ref r_waitSaid, .int mmk, .ref r_mark])), (r_waitPlace, .inl (cA.1, 64, .inl g_waitPlace)), (r_waitHistory, .inl (cA.1, 64, .inl g_waitHistory)), (r_waitSaid, .inl (cA.2.1, 64, .inl g_waitSaid))] H → va_D A [(o0, .inr (11, [.int 0, .int 9, .int mbt, .int mrw, .int mhs, .int w_o0_5_b105, .int (bI mey), .int (mu1 + 1), .int mu2, .int mu3, .int mu4, .ref r_lastBit, .ref r_plain, .ref r_mixed, .ref r_chooser, .ref r_own, .ref r_ownCounter, .ref r_tag, .ref r_sum, .ref r_use, .ref r_weight, .ref r_loopTag, .ref r_length, .ref r_count, .ref r_trust, .int mwt, .ref r_waitPlace, .ref r_waitHistory, .ref r_waitSaid, .int mmk, .ref r_mark])), (r_waitPlace, .inl (cA.1, 64, .inl g_waitPlace)), (r_waitHistory, .inl (cA.1, 64, .inl g_waitHistory)), (r_waitSaid, .inl (cA.2.1, 64, .inl g_waitSaid))] → va_S A s.heap H locs → lv_has ls 7 [(0, .ref o0), (2, .int (bI tk)), (3, .int v3_b105), (4, .int v4_b105), (5, .int (bI v5_b105))] → W p l e (headSpec wMd_update ({ frames := 3, cells := 0, slots := 0, locals := 70 })).room s m ([.ref o0, .int pl, .int (bI tk)] : List Value).toArray below meth c H locs 0 0 (MQ below (va_Qi (fun r9 w9 => r9 = (bI (rs0)) ∧ w9 = [(o0, .inr (11, [.int rs1, .int 9, .int mbt, .int mrw, .int rs4, .int rs5, .int (bI mey), .int rs6, .int rs7, .int rs8, .int rs2, .ref r_lastBit, .ref r_plain, .ref r_mixed, .ref r_chooser, .ref r_own, .ref r_ownCounter, .ref r_tag, .ref r_sum, .ref r_use, .ref r_weight, .ref r_loopTag, .ref r_length, .ref r_count, .ref r_trust, .int rs3, .ref r_waitPlace, .ref r_waitHistory, .ref r_waitSaid, .int mmk, .ref r_mark])), (r_waitPlace, .inl (cA.1, 64, .inl rs9)), (r_waitHistory, .inl (cA.1, 64, .inl rs10)), (r_waitSaid, .inl (cA.2.1, 64, .inl rs11))]) (At (dC, dI) cA A) A) ([.ref o0, .int pl, .int (bI tk)] : List Value).toArray s 0 0 A) (F0 m 105 ls [.int (bI s0_b105), .int mu2, .ref o0]) := by
    intro rs0 rs1 rs2 rs3 rs4 rs5 rs6 rs7 rs8 rs9 rs10 rs11 v3_b105 v4_b105 v5_b105 s0_b105 w_o0_5_b105 H locs ls hfn hP hD hS hl
    unfold of_Md_update_9_b105 at hfn
    refine lv_iadd hx hb dMd_update_105 ?_
    refine va_put (D := (dC, dI)) (ci := 11) (v := .int (mu2 + (bI s0_b105))) (ty := .int) (C := R_Md) (T := T_Md) (N := 31) hx hb htg in_Md ty_Md tk_Md nm_Md hown hK hP hD hS 0 rfl rfl 8 (by decide) (htg _ wd_803) (fun _ h9 => h9) rfl (by decide +kernel) rfl rfl (Nat.le_of_ble_eq_true rfl) dMd_update_106 (fun H locs hP hD hS => ?_)
    have hP : va_P (dC, dI) vwCl [(o0, .inr (11, [.int 0, .int 9, .int mbt, .int mrw, .int mhs, .int w_o0_5_b105, .int (bI mey), .int (mu1 + 1), .int (mu2 + (bI s0_b105)), .int mu3, .int mu4, .ref r_lastBit, .ref r_plain, .ref r_mixed, .ref r_chooser, .ref r_own, .ref r_ownCounter, .ref r_tag, .ref r_sum, .ref r_use, .ref r_weight, .ref r_loopTag, .ref r_length, .ref r_count, .ref r_trust, .int mwt, .ref r_waitPlace, .ref r_waitHistory, .ref r_waitSaid, .int mmk, .ref r_mark])), (r_waitPlace, .inl (cA.1, 64, .inl g_waitPlace)), (r_waitHistory, .inl (cA.1, 64, .inl g_waitHistory)), (r_waitSaid, .inl (cA.2.1, 64, .inl g_waitSaid))] H := hP
    have hD : va_D A [(o0, .inr (11, [.int 0, .int 9, .int mbt, .int mrw, .int mhs, .int w_o0_5_b105, .int (bI mey), .int (mu1 + 1), .int (mu2 + (bI s0_b105)), .int mu3, .int mu4, .ref r_lastBit, .ref r_plain, .ref r_mixed, .ref r_chooser, .ref r_own, .ref r_ownCounter, .ref r_tag, .ref r_sum, .ref r_use, .ref r_weight, .ref r_loopTag, .ref r_length, .ref r_count, .ref r_trust, .int mwt, .ref r_waitPlace, .ref r_waitHistory, .ref r_waitSaid, .int mmk, .ref r_mark])), (r_waitPlace, .inl (cA.1, 64, .inl g_waitPlace)), (r_waitHistory, .inl (cA.1, 64, .inl g_waitHistory)), (r_waitSaid, .inl (cA.2.1, 64, .inl g_waitSaid))] := hD
    refine lv_aload_n hx hb dMd_update_109 rfl (lv_at hl 0 rfl) ?_
    refine lv_dup hx hb dMd_update_110 rfl ?_
    refine va_get (D := (dC, dI)) (ci := 11) (v := .int mu3) (C := R_Md) (T := T_Md) (N := 31) hx hb htg in_Md hown hK hP 0 rfl rfl 9 (by decide) (htg _ wd_804) (fun _ h9 => h9) rfl dMd_update_111 ?_
    refine lv_iload_n hx hb dMd_update_114 rfl (lv_at hl 1 rfl) ?_
    refine lv_if_eq (tgt := 122) hx hb dMd_update_115 (by decide) (fun c_10 => ?_) (fun c_10 => ?_)
    · rw [if_pos c_10] at hfn
      refine lv_iconst (v := 0) hx hb dMd_update_122 (by decide) ?_
      exact blk123 _ _ _ _ _ _ _ _ _ _ _ _ v3_b105 v4_b105 v5_b105 false w_o0_5_b105 (mu2 + (bI s0_b105)) _ _ ls hfn (hP.sub [0, 1, 2, 3] rfl) (hD.sub [0, 1, 2, 3] (by decide) rfl) hS (lv_sub hl [0, 1, 2, 3, 4] rfl)
    · rw [if_neg c_10] at hfn
      refine lv_iconst (v := 1) hx hb dMd_update_118 (by decide) ?_
      refine lv_goto (tgt := 123) hx hb dMd_update_119 (by decide) ?_
      exact blk123 _ _ _ _ _ _ _ _ _ _ _ _ v3_b105 v4_b105 v5_b105 true w_o0_5_b105 (mu2 + (bI s0_b105)) _ _ ls hfn (hP.sub [0, 1, 2, 3] rfl) (hD.sub [0, 1, 2, 3] (by decide) rfl) hS (lv_sub hl [0, 1, 2, 3, 4] rfl)
  have blk70 : ∀ (rs0 : Bool) (rs1 : Int32) (rs2 : Int32) (rs3 : Int32) (rs4 : Int32) (rs5 : Int32) (rs6 : Int32) (rs7 : Int32) (rs8 : Int32) (rs9 : (Nat → Int32)) (rs10 : (Nat → Int32)) (rs11 : (Nat → Int32)) (v3_b70 : Int32) (v4_b70 : Int32) (s0_b70 : Bool) (H : Heap) (locs : List Loc) (ls : Array Slot), of_Md_update_9_b70 mhs mco mu1 mu2 mu3 mu4 mwt g_waitPlace g_waitHistory g_waitSaid tk v3_b70 v4_b70 s0_b70 = some (rs0, rs1, rs2, rs3, rs4, rs5, rs6, rs7, rs8, rs9, rs10, rs11) → va_P (dC, dI) vwCl [(o0, .inr (11, [.int 0, .int 9, .int mbt, .int mrw, .int mhs, .int mco, .int (bI mey), .int mu1, .int mu2, .int mu3, .int mu4, .ref r_lastBit, .ref r_plain, .ref r_mixed, .ref r_chooser, .ref r_own, .ref r_ownCounter, .ref r_tag, .ref r_sum, .ref r_use, .ref r_weight, .ref r_loopTag, .ref r_length, .ref r_count, .ref r_trust, .int mwt, .ref r_waitPlace, .ref r_waitHistory, .ref r_waitSaid, .int mmk, .ref r_mark])), (r_waitPlace, .inl (cA.1, 64, .inl g_waitPlace)), (r_waitHistory, .inl (cA.1, 64, .inl g_waitHistory)), (r_waitSaid, .inl (cA.2.1, 64, .inl g_waitSaid))] H → va_D A [(o0, .inr (11, [.int 0, .int 9, .int mbt, .int mrw, .int mhs, .int mco, .int (bI mey), .int mu1, .int mu2, .int mu3, .int mu4, .ref r_lastBit, .ref r_plain, .ref r_mixed, .ref r_chooser, .ref r_own, .ref r_ownCounter, .ref r_tag, .ref r_sum, .ref r_use, .ref r_weight, .ref r_loopTag, .ref r_length, .ref r_count, .ref r_trust, .int mwt, .ref r_waitPlace, .ref r_waitHistory, .ref r_waitSaid, .int mmk, .ref r_mark])), (r_waitPlace, .inl (cA.1, 64, .inl g_waitPlace)), (r_waitHistory, .inl (cA.1, 64, .inl g_waitHistory)), (r_waitSaid, .inl (cA.2.1, 64, .inl g_waitSaid))] → va_S A s.heap H locs → lv_has ls 7 [(0, .ref o0), (1, .int pl), (2, .int (bI tk)), (3, .int v3_b70), (4, .int v4_b70)] → W p l e (headSpec wMd_update ({ frames := 3, cells := 0, slots := 0, locals := 70 })).room s m ([.ref o0, .int pl, .int (bI tk)] : List Value).toArray below meth c H locs 0 0 (MQ below (va_Qi (fun r9 w9 => r9 = (bI (rs0)) ∧ w9 = [(o0, .inr (11, [.int rs1, .int 9, .int mbt, .int mrw, .int rs4, .int rs5, .int (bI mey), .int rs6, .int rs7, .int rs8, .int rs2, .ref r_lastBit, .ref r_plain, .ref r_mixed, .ref r_chooser, .ref r_own, .ref r_ownCounter, .ref r_tag, .ref r_sum, .ref r_use, .ref r_weight, .ref r_loopTag, .ref r_length, .ref r_count, .ref r_trust, .int rs3, .ref r_waitPlace, .ref r_waitHistory, .ref r_waitSaid, .int mmk, .ref r_mark])), (r_waitPlace, .inl (cA.1, 64, .inl rs9)), (r_waitHistory, .inl (cA.1, 64, .inl rs10)), (r_waitSaid, .inl (cA.2.1, 64, .inl rs11))]) (At (dC, dI) cA A) A) ([.ref o0, .int pl, .int (bI tk)] : List Value).toArray s 0 0 A) (F0 m 70 ls [.int (bI s0_b70)]) := by
    intro rs0 rs1 rs2 rs3 rs4 rs5 rs6 rs7 rs8 rs9 rs10 rs11 v3_b70 v4_b70 s0_b70 H locs ls hfn hP hD hS hl
    unfold of_Md_update_9_b70 at hfn
    refine lv_istore (lv' := [(5, .int (bI s0_b70)), (0, .ref o0), (1, .int pl), (2, .int (bI tk)), (3, .int v3_b70), (4, .int v4_b70)]) hx hb dMd_update_70 hl (by decide) rfl (fun ls hl => ?_)
    refine lv_aload_n hx hb dMd_update_72 rfl (lv_at hl 1 rfl) ?_
    refine lv_iload_n hx hb dMd_update_73 rfl (lv_at hl 2 rfl) ?_
    refine lv_iload hx hb dMd_update_74 (lv_at hl 5 rfl) ?_
    refine lv_iload_n hx hb dMd_update_76 rfl (lv_at hl 3 rfl) ?_
    obtain ⟨z_8, hz_8, hfn⟩ := ob hfn
    refine wr_Vv (wr := [(r_waitPlace, .inl (cA.1, 64, .inl g_waitPlace)), (r_waitHistory, .inl (cA.1, 64, .inl g_waitHistory)), (r_waitSaid, .inl (cA.2.1, 64, .inl g_waitSaid))]) (As := [.int pl, .int v4_b70, .int (bI tk)]) (rest := []) ⟨hx, hb, hml, hown, htg⟩ (c_Md_learn_9 l dC dI cA _ o0 r_lastBit r_plain r_mixed r_chooser r_own r_ownCounter r_tag r_sum r_use r_weight r_loopTag r_length r_count r_trust r_waitPlace r_waitHistory r_waitSaid r_mark 0 mbt mrw mhs mco mey mu1 mu2 mu3 mu4 mwt mmk pl v4_b70 tk z_8 hz_8) (cw_V htg wd_958 ws_29 qMd_learn iMd_learn kMd_learn pMd_learn rfl rfl ⟨Nat.le_of_ble_eq_true rfl, Nat.le_of_ble_eq_true rfl⟩) (va_recv hK hP (ci := 11) (q0 := 0) rfl rfl) hN hP hD hS hA hK [0] [1, 2, 3] rfl rfl (by decide) (by decide) (by decide) rfl hl.1 rfl (Nat.le_of_ble_eq_true rfl) dMd_update_77 ⟨Nat.le_of_ble_eq_true rfl, Nat.le_of_ble_eq_true rfl⟩ (fun H locs hP hD hS => ?_)
    have hP : va_P (dC, dI) vwCl [(r_waitPlace, .inl (cA.1, 64, .inl g_waitPlace)), (r_waitHistory, .inl (cA.1, 64, .inl g_waitHistory)), (r_waitSaid, .inl (cA.2.1, 64, .inl g_waitSaid)), (o0, .inr (11, [.int 0, .int 9, .int mbt, .int mrw, .int mhs, .int z_8, .int (bI mey), .int mu1, .int mu2, .int mu3, .int mu4, .ref r_lastBit, .ref r_plain, .ref r_mixed, .ref r_chooser, .ref r_own, .ref r_ownCounter, .ref r_tag, .ref r_sum, .ref r_use, .ref r_weight, .ref r_loopTag, .ref r_length, .ref r_count, .ref r_trust, .int mwt, .ref r_waitPlace, .ref r_waitHistory, .ref r_waitSaid, .int mmk, .ref r_mark]))] H := hP
    have hD : va_D A [(r_waitPlace, .inl (cA.1, 64, .inl g_waitPlace)), (r_waitHistory, .inl (cA.1, 64, .inl g_waitHistory)), (r_waitSaid, .inl (cA.2.1, 64, .inl g_waitSaid)), (o0, .inr (11, [.int 0, .int 9, .int mbt, .int mrw, .int mhs, .int z_8, .int (bI mey), .int mu1, .int mu2, .int mu3, .int mu4, .ref r_lastBit, .ref r_plain, .ref r_mixed, .ref r_chooser, .ref r_own, .ref r_ownCounter, .ref r_tag, .ref r_sum, .ref r_use, .ref r_weight, .ref r_loopTag, .ref r_length, .ref r_count, .ref r_trust, .int mwt, .ref r_waitPlace, .ref r_waitHistory, .ref r_waitSaid, .int mmk, .ref r_mark]))] := hD
    refine lv_aload_n hx hb dMd_update_80 rfl (lv_at hl 1 rfl) ?_
    refine lv_dup hx hb dMd_update_81 rfl ?_
    refine va_get (D := (dC, dI)) (ci := 11) (v := .int mu1) (C := R_Md) (T := T_Md) (N := 31) hx hb htg in_Md hown hK hP 3 rfl rfl 7 (by decide) (htg _ wd_802) (fun _ h9 => h9) rfl dMd_update_82 ?_
    refine lv_iconst (v := 1) hx hb dMd_update_85 (by decide) ?_
    refine lv_iadd hx hb dMd_update_86 ?_
    refine va_put (D := (dC, dI)) (ci := 11) (v := .int (mu1 + 1)) (ty := .int) (C := R_Md) (T := T_Md) (N := 31) hx hb htg in_Md ty_Md tk_Md nm_Md hown hK hP hD hS 3 rfl rfl 7 (by decide) (htg _ wd_802) (fun _ h9 => h9) rfl (by decide +kernel) rfl rfl (Nat.le_of_ble_eq_true rfl) dMd_update_87 (fun H locs hP hD hS => ?_)
    have hP : va_P (dC, dI) vwCl [(r_waitPlace, .inl (cA.1, 64, .inl g_waitPlace)), (r_waitHistory, .inl (cA.1, 64, .inl g_waitHistory)), (r_waitSaid, .inl (cA.2.1, 64, .inl g_waitSaid)), (o0, .inr (11, [.int 0, .int 9, .int mbt, .int mrw, .int mhs, .int z_8, .int (bI mey), .int (mu1 + 1), .int mu2, .int mu3, .int mu4, .ref r_lastBit, .ref r_plain, .ref r_mixed, .ref r_chooser, .ref r_own, .ref r_ownCounter, .ref r_tag, .ref r_sum, .ref r_use, .ref r_weight, .ref r_loopTag, .ref r_length, .ref r_count, .ref r_trust, .int mwt, .ref r_waitPlace, .ref r_waitHistory, .ref r_waitSaid, .int mmk, .ref r_mark]))] H := hP
    have hD : va_D A [(r_waitPlace, .inl (cA.1, 64, .inl g_waitPlace)), (r_waitHistory, .inl (cA.1, 64, .inl g_waitHistory)), (r_waitSaid, .inl (cA.2.1, 64, .inl g_waitSaid)), (o0, .inr (11, [.int 0, .int 9, .int mbt, .int mrw, .int mhs, .int z_8, .int (bI mey), .int (mu1 + 1), .int mu2, .int mu3, .int mu4, .ref r_lastBit, .ref r_plain, .ref r_mixed, .ref r_chooser, .ref r_own, .ref r_ownCounter, .ref r_tag, .ref r_sum, .ref r_use, .ref r_weight, .ref r_loopTag, .ref r_length, .ref r_count, .ref r_trust, .int mwt, .ref r_waitPlace, .ref r_waitHistory, .ref r_waitSaid, .int mmk, .ref r_mark]))] := hD
    refine lv_aload_n hx hb dMd_update_90 rfl (lv_at hl 1 rfl) ?_
    refine lv_dup hx hb dMd_update_91 rfl ?_
    refine va_get (D := (dC, dI)) (ci := 11) (v := .int mu2) (C := R_Md) (T := T_Md) (N := 31) hx hb htg in_Md hown hK hP 3 rfl rfl 8 (by decide) (htg _ wd_803) (fun _ h9 => h9) rfl dMd_update_92 ?_
    refine lv_iload hx hb dMd_update_95 (lv_at hl 0 rfl) ?_
    refine lv_if_eq (tgt := 104) hx hb dMd_update_97 (by decide) (fun c_9 => ?_) (fun c_9 => ?_)
    · rw [if_pos c_9] at hfn
      refine lv_iconst (v := 1) hx hb dMd_update_104 (by decide) ?_
      exact blk105 _ _ _ _ _ _ _ _ _ _ _ _ v3_b70 v4_b70 s0_b70 true z_8 _ _ ls hfn (hP.sub [3, 0, 1, 2] rfl) (hD.sub [3, 0, 1, 2] (by decide) rfl) hS (lv_sub hl [1, 3, 4, 5, 0] rfl)
    · rw [if_neg c_9] at hfn
      refine lv_iconst (v := 0) hx hb dMd_update_100 (by decide) ?_
      refine lv_goto (tgt := 105) hx hb dMd_update_101 (by decide) ?_
      exact blk105 _ _ _ _ _ _ _ _ _ _ _ _ v3_b70 v4_b70 s0_b70 false z_8 _ _ ls hfn (hP.sub [3, 0, 1, 2] rfl) (hD.sub [3, 0, 1, 2] (by decide) rfl) hS (lv_sub hl [1, 3, 4, 5, 0] rfl)
  have blk52 : ∀ (rs0 : Bool) (rs1 : Int32) (rs2 : Int32) (rs3 : Int32) (rs4 : Int32) (rs5 : Int32) (rs6 : Int32) (rs7 : Int32) (rs8 : Int32) (rs9 : (Nat → Int32)) (rs10 : (Nat → Int32)) (rs11 : (Nat → Int32)) (v3_b52 : Int32) (s0_b52 : Int32) (H : Heap) (locs : List Loc) (ls : Array Slot), of_Md_update_9_b52 mhs mco mu1 mu2 mu3 mu4 mwt g_waitPlace g_waitHistory g_waitSaid tk v3_b52 s0_b52 = some (rs0, rs1, rs2, rs3, rs4, rs5, rs6, rs7, rs8, rs9, rs10, rs11) → va_P (dC, dI) vwCl [(o0, .inr (11, [.int 0, .int 9, .int mbt, .int mrw, .int mhs, .int mco, .int (bI mey), .int mu1, .int mu2, .int mu3, .int mu4, .ref r_lastBit, .ref r_plain, .ref r_mixed, .ref r_chooser, .ref r_own, .ref r_ownCounter, .ref r_tag, .ref r_sum, .ref r_use, .ref r_weight, .ref r_loopTag, .ref r_length, .ref r_count, .ref r_trust, .int mwt, .ref r_waitPlace, .ref r_waitHistory, .ref r_waitSaid, .int mmk, .ref r_mark])), (r_waitPlace, .inl (cA.1, 64, .inl g_waitPlace)), (r_waitHistory, .inl (cA.1, 64, .inl g_waitHistory)), (r_waitSaid, .inl (cA.2.1, 64, .inl g_waitSaid))] H → va_D A [(o0, .inr (11, [.int 0, .int 9, .int mbt, .int mrw, .int mhs, .int mco, .int (bI mey), .int mu1, .int mu2, .int mu3, .int mu4, .ref r_lastBit, .ref r_plain, .ref r_mixed, .ref r_chooser, .ref r_own, .ref r_ownCounter, .ref r_tag, .ref r_sum, .ref r_use, .ref r_weight, .ref r_loopTag, .ref r_length, .ref r_count, .ref r_trust, .int mwt, .ref r_waitPlace, .ref r_waitHistory, .ref r_waitSaid, .int mmk, .ref r_mark])), (r_waitPlace, .inl (cA.1, 64, .inl g_waitPlace)), (r_waitHistory, .inl (cA.1, 64, .inl g_waitHistory)), (r_waitSaid, .inl (cA.2.1, 64, .inl g_waitSaid))] → va_S A s.heap H locs → lv_has ls 7 [(0, .ref o0), (1, .int pl), (2, .int (bI tk)), (3, .int v3_b52)] → W p l e (headSpec wMd_update ({ frames := 3, cells := 0, slots := 0, locals := 70 })).room s m ([.ref o0, .int pl, .int (bI tk)] : List Value).toArray below meth c H locs 0 0 (MQ below (va_Qi (fun r9 w9 => r9 = (bI (rs0)) ∧ w9 = [(o0, .inr (11, [.int rs1, .int 9, .int mbt, .int mrw, .int rs4, .int rs5, .int (bI mey), .int rs6, .int rs7, .int rs8, .int rs2, .ref r_lastBit, .ref r_plain, .ref r_mixed, .ref r_chooser, .ref r_own, .ref r_ownCounter, .ref r_tag, .ref r_sum, .ref r_use, .ref r_weight, .ref r_loopTag, .ref r_length, .ref r_count, .ref r_trust, .int rs3, .ref r_waitPlace, .ref r_waitHistory, .ref r_waitSaid, .int mmk, .ref r_mark])), (r_waitPlace, .inl (cA.1, 64, .inl rs9)), (r_waitHistory, .inl (cA.1, 64, .inl rs10)), (r_waitSaid, .inl (cA.2.1, 64, .inl rs11))]) (At (dC, dI) cA A) A) ([.ref o0, .int pl, .int (bI tk)] : List Value).toArray s 0 0 A) (F0 m 52 ls [.int s0_b52]) := by
    intro rs0 rs1 rs2 rs3 rs4 rs5 rs6 rs7 rs8 rs9 rs10 rs11 v3_b52 s0_b52 H locs ls hfn hP hD hS hl
    unfold of_Md_update_9_b52 at hfn
    refine lv_istore (lv' := [(4, .int s0_b52), (0, .ref o0), (1, .int pl), (2, .int (bI tk)), (3, .int v3_b52)]) hx hb dMd_update_52 hl (by decide) rfl (fun ls hl => ?_)
    refine lv_aload_n hx hb dMd_update_54 rfl (lv_at hl 1 rfl) ?_
    refine lv_iload_n hx hb dMd_update_55 rfl (lv_at hl 2 rfl) ?_
    refine lv_iload hx hb dMd_update_56 (lv_at hl 0 rfl) ?_
    obtain ⟨z_6, hz_6, hfn⟩ := ob hfn
    refine rd_V (As := [.int pl, .int s0_b52]) (rest := []) ⟨hx, hb, hml, hown, htg⟩ (c_Md_says_9 l dC dI cA o0 r_lastBit r_plain r_mixed r_chooser r_own r_ownCounter r_tag r_sum r_use r_weight r_loopTag r_length r_count r_trust r_waitPlace r_waitHistory r_waitSaid r_mark 0 mbt mrw mhs mco mey mu1 mu2 mu3 mu4 mwt mmk pl s0_b52 z_6 hz_6) (cw_V htg wd_898 ws_18 qMd_says iMd_says kMd_says pMd_says rfl rfl ⟨Nat.le_of_ble_eq_true rfl, Nat.le_of_ble_eq_true rfl⟩) (va_recv hK hP (ci := 11) (q0 := 0) rfl rfl) hN (hP.sub [0] rfl) hK rfl hl.1 rfl (Nat.le_of_ble_eq_true rfl) dMd_update_58 ⟨Nat.le_of_ble_eq_true rfl, Nat.le_of_ble_eq_true rfl⟩ ?_
    refine lv_iload_n hx hb dMd_update_61 rfl (lv_at hl 3 rfl) ?_
    refine lv_icmp_ne (tgt := 69) hx hb dMd_update_62 (by decide) (fun c_7 => ?_) (fun c_7 => ?_)
    · rw [if_neg c_7] at hfn
      refine lv_iconst (v := 0) hx hb dMd_update_69 (by decide) ?_
      exact blk70 _ _ _ _ _ _ _ _ _ _ _ _ v3_b52 s0_b52 false _ _ ls hfn (hP.sub [0, 1, 2, 3] rfl) (hD.sub [0, 1, 2, 3] (by decide) rfl) hS (lv_sub hl [1, 2, 3, 4, 0] rfl)
    · rw [if_pos c_7] at hfn
      refine lv_iconst (v := 1) hx hb dMd_update_65 (by decide) ?_
      refine lv_goto (tgt := 70) hx hb dMd_update_66 (by decide) ?_
      exact blk70 _ _ _ _ _ _ _ _ _ _ _ _ v3_b52 s0_b52 true _ _ ls hfn (hP.sub [0, 1, 2, 3] rfl) (hD.sub [0, 1, 2, 3] (by decide) rfl) hS (lv_sub hl [1, 2, 3, 4, 0] rfl)
  have blk31 : ∀ (rs0 : Bool) (rs1 : Int32) (rs2 : Int32) (rs3 : Int32) (rs4 : Int32) (rs5 : Int32) (rs6 : Int32) (rs7 : Int32) (rs8 : Int32) (rs9 : (Nat → Int32)) (rs10 : (Nat → Int32)) (rs11 : (Nat → Int32)) (v3_b31 : Int32) (H : Heap) (locs : List Loc) (ls : Array Slot), of_Md_update_9_b31 mhs mco mu1 mu2 mu3 mu4 mwt g_waitPlace g_waitHistory g_waitSaid tk v3_b31 = some (rs0, rs1, rs2, rs3, rs4, rs5, rs6, rs7, rs8, rs9, rs10, rs11) → va_P (dC, dI) vwCl [(o0, .inr (11, [.int 0, .int 9, .int mbt, .int mrw, .int mhs, .int mco, .int (bI mey), .int mu1, .int mu2, .int mu3, .int mu4, .ref r_lastBit, .ref r_plain, .ref r_mixed, .ref r_chooser, .ref r_own, .ref r_ownCounter, .ref r_tag, .ref r_sum, .ref r_use, .ref r_weight, .ref r_loopTag, .ref r_length, .ref r_count, .ref r_trust, .int mwt, .ref r_waitPlace, .ref r_waitHistory, .ref r_waitSaid, .int mmk, .ref r_mark])), (r_waitPlace, .inl (cA.1, 64, .inl g_waitPlace)), (r_waitHistory, .inl (cA.1, 64, .inl g_waitHistory)), (r_waitSaid, .inl (cA.2.1, 64, .inl g_waitSaid))] H → va_D A [(o0, .inr (11, [.int 0, .int 9, .int mbt, .int mrw, .int mhs, .int mco, .int (bI mey), .int mu1, .int mu2, .int mu3, .int mu4, .ref r_lastBit, .ref r_plain, .ref r_mixed, .ref r_chooser, .ref r_own, .ref r_ownCounter, .ref r_tag, .ref r_sum, .ref r_use, .ref r_weight, .ref r_loopTag, .ref r_length, .ref r_count, .ref r_trust, .int mwt, .ref r_waitPlace, .ref r_waitHistory, .ref r_waitSaid, .int mmk, .ref r_mark])), (r_waitPlace, .inl (cA.1, 64, .inl g_waitPlace)), (r_waitHistory, .inl (cA.1, 64, .inl g_waitHistory)), (r_waitSaid, .inl (cA.2.1, 64, .inl g_waitSaid))] → va_S A s.heap H locs → lv_has ls 7 [(0, .ref o0), (1, .int pl), (2, .int (bI tk)), (3, .int v3_b31)] → W p l e (headSpec wMd_update ({ frames := 3, cells := 0, slots := 0, locals := 70 })).room s m ([.ref o0, .int pl, .int (bI tk)] : List Value).toArray below meth c H locs 0 0 (MQ below (va_Qi (fun r9 w9 => r9 = (bI (rs0)) ∧ w9 = [(o0, .inr (11, [.int rs1, .int 9, .int mbt, .int mrw, .int rs4, .int rs5, .int (bI mey), .int rs6, .int rs7, .int rs8, .int rs2, .ref r_lastBit, .ref r_plain, .ref r_mixed, .ref r_chooser, .ref r_own, .ref r_ownCounter, .ref r_tag, .ref r_sum, .ref r_use, .ref r_weight, .ref r_loopTag, .ref r_length, .ref r_count, .ref r_trust, .int rs3, .ref r_waitPlace, .ref r_waitHistory, .ref r_waitSaid, .int mmk, .ref r_mark])), (r_waitPlace, .inl (cA.1, 64, .inl rs9)), (r_waitHistory, .inl (cA.1, 64, .inl rs10)), (r_waitSaid, .inl (cA.2.1, 64, .inl rs11))]) (At (dC, dI) cA A) A) ([.ref o0, .int pl, .int (bI tk)] : List Value).toArray s 0 0 A) (F0 m 31 ls []) := by
    intro rs0 rs1 rs2 rs3 rs4 rs5 rs6 rs7 rs8 rs9 rs10 rs11 v3_b31 H locs ls hfn hP hD hS hl
    unfold of_Md_update_9_b31 at hfn
    refine lv_iload_n hx hb dMd_update_31 rfl (lv_at hl 3 rfl) ?_
    refine lv_aload_n hx hb dMd_update_32 rfl (lv_at hl 0 rfl) ?_
    refine va_get (D := (dC, dI)) (ci := 11) (v := .int mwt) (C := R_Md) (T := T_Md) (N := 31) hx hb htg in_Md hown hK hP 0 rfl rfl 25 (by decide) (htg _ wd_820) (fun _ h9 => h9) rfl dMd_update_33 ?_
    refine lv_icmp_ge (tgt := 48) hx hb dMd_update_36 (by decide) (fun c_4 => ?_) (fun c_4 => ?_)
    · rw [if_pos c_4] at hfn
      refine lv_aload_n hx hb dMd_update_48 rfl (lv_at hl 0 rfl) ?_
      refine va_get (D := (dC, dI)) (ci := 11) (v := .int mhs) (C := R_Md) (T := T_Md) (N := 31) hx hb htg in_Md hown hK hP 0 rfl rfl 4 (by decide) (htg _ wd_799) (fun _ h9 => h9) rfl dMd_update_49 ?_
      exact blk52 _ _ _ _ _ _ _ _ _ _ _ _ v3_b31 mhs _ _ ls hfn (hP.sub [0, 1, 2, 3] rfl) (hD.sub [0, 1, 2, 3] (by decide) rfl) hS (lv_sub hl [0, 1, 2, 3] rfl)
    · rw [if_neg c_4] at hfn
      refine lv_aload_n hx hb dMd_update_39 rfl (lv_at hl 0 rfl) ?_
      refine va_get (D := (dC, dI)) (ci := 11) (v := .ref r_waitHistory) (C := R_Md) (T := T_Md) (N := 31) hx hb htg in_Md hown hK hP 0 rfl rfl 27 (by decide) (htg _ wd_822) (fun _ h9 => h9) rfl dMd_update_40 ?_
      refine lv_iload_n hx hb dMd_update_43 rfl (lv_at hl 3 rfl) ?_
      obtain ⟨g_5, hfn⟩ := og hfn
      refine va_iald hx hb hK hP 2 0 rfl rfl g_5 dMd_update_44 ?_
      refine lv_goto (tgt := 52) hx hb dMd_update_45 (by decide) ?_
      exact blk52 _ _ _ _ _ _ _ _ _ _ _ _ v3_b31 (g_waitHistory v3_b31.toNatClampNeg) _ _ ls hfn (hP.sub [0, 1, 2, 3] rfl) (hD.sub [0, 1, 2, 3] (by decide) rfl) hS (lv_sub hl [0, 1, 2, 3] rfl)
  have blk7 : ∀ n : Nat, ∀ (rs0 : Bool) (rs1 : Int32) (rs2 : Int32) (rs3 : Int32) (rs4 : Int32) (rs5 : Int32) (rs6 : Int32) (rs7 : Int32) (rs8 : Int32) (rs9 : (Nat → Int32)) (rs10 : (Nat → Int32)) (rs11 : (Nat → Int32)) (v3_b7 : Int32) (H : Heap) (locs : List Loc) (ls : Array Slot), of_Md_update_9_b7 n mhs mco mu1 mu2 mu3 mu4 mwt g_waitPlace g_waitHistory g_waitSaid pl tk v3_b7 = some (rs0, rs1, rs2, rs3, rs4, rs5, rs6, rs7, rs8, rs9, rs10, rs11) → va_P (dC, dI) vwCl [(o0, .inr (11, [.int 0, .int 9, .int mbt, .int mrw, .int mhs, .int mco, .int (bI mey), .int mu1, .int mu2, .int mu3, .int mu4, .ref r_lastBit, .ref r_plain, .ref r_mixed, .ref r_chooser, .ref r_own, .ref r_ownCounter, .ref r_tag, .ref r_sum, .ref r_use, .ref r_weight, .ref r_loopTag, .ref r_length, .ref r_count, .ref r_trust, .int mwt, .ref r_waitPlace, .ref r_waitHistory, .ref r_waitSaid, .int mmk, .ref r_mark])), (r_waitPlace, .inl (cA.1, 64, .inl g_waitPlace)), (r_waitHistory, .inl (cA.1, 64, .inl g_waitHistory)), (r_waitSaid, .inl (cA.2.1, 64, .inl g_waitSaid))] H → va_D A [(o0, .inr (11, [.int 0, .int 9, .int mbt, .int mrw, .int mhs, .int mco, .int (bI mey), .int mu1, .int mu2, .int mu3, .int mu4, .ref r_lastBit, .ref r_plain, .ref r_mixed, .ref r_chooser, .ref r_own, .ref r_ownCounter, .ref r_tag, .ref r_sum, .ref r_use, .ref r_weight, .ref r_loopTag, .ref r_length, .ref r_count, .ref r_trust, .int mwt, .ref r_waitPlace, .ref r_waitHistory, .ref r_waitSaid, .int mmk, .ref r_mark])), (r_waitPlace, .inl (cA.1, 64, .inl g_waitPlace)), (r_waitHistory, .inl (cA.1, 64, .inl g_waitHistory)), (r_waitSaid, .inl (cA.2.1, 64, .inl g_waitSaid))] → va_S A s.heap H locs → lv_has ls 7 [(0, .ref o0), (1, .int pl), (2, .int (bI tk)), (3, .int v3_b7)] → W p l e (headSpec wMd_update ({ frames := 3, cells := 0, slots := 0, locals := 70 })).room s m ([.ref o0, .int pl, .int (bI tk)] : List Value).toArray below meth c H locs 0 0 (MQ below (va_Qi (fun r9 w9 => r9 = (bI (rs0)) ∧ w9 = [(o0, .inr (11, [.int rs1, .int 9, .int mbt, .int mrw, .int rs4, .int rs5, .int (bI mey), .int rs6, .int rs7, .int rs8, .int rs2, .ref r_lastBit, .ref r_plain, .ref r_mixed, .ref r_chooser, .ref r_own, .ref r_ownCounter, .ref r_tag, .ref r_sum, .ref r_use, .ref r_weight, .ref r_loopTag, .ref r_length, .ref r_count, .ref r_trust, .int rs3, .ref r_waitPlace, .ref r_waitHistory, .ref r_waitSaid, .int mmk, .ref r_mark])), (r_waitPlace, .inl (cA.1, 64, .inl rs9)), (r_waitHistory, .inl (cA.1, 64, .inl rs10)), (r_waitSaid, .inl (cA.2.1, 64, .inl rs11))]) (At (dC, dI) cA A) A) ([.ref o0, .int pl, .int (bI tk)] : List Value).toArray s 0 0 A) (F0 m 7 ls []) := by
    intro n
    induction n with
    | zero =>
      intro rs0 rs1 rs2 rs3 rs4 rs5 rs6 rs7 rs8 rs9 rs10 rs11 v3_b7 H locs ls hfn hP hD hS hl
      exact absurd hfn (by intro h; cases h)
    | succ n ih =>
      intro rs0 rs1 rs2 rs3 rs4 rs5 rs6 rs7 rs8 rs9 rs10 rs11 v3_b7 H locs ls hfn hP hD hS hl
      unfold of_Md_update_9_b7 at hfn
      refine lv_iload_n hx hb dMd_update_7 rfl (lv_at hl 3 rfl) ?_
      refine lv_aload_n hx hb dMd_update_8 rfl (lv_at hl 0 rfl) ?_
      refine va_get (D := (dC, dI)) (ci := 11) (v := .int mwt) (C := R_Md) (T := T_Md) (N := 31) hx hb htg in_Md hown hK hP 0 rfl rfl 25 (by decide) (htg _ wd_820) (fun _ h9 => h9) rfl dMd_update_9 ?_
      refine lv_icmp_ge (tgt := 31) hx hb dMd_update_12 (by decide) (fun c_1 => ?_) (fun c_1 => ?_)
      · rw [if_pos c_1] at hfn
        exact blk31 _ _ _ _ _ _ _ _ _ _ _ _ v3_b7 _ _ ls hfn (hP.sub [0, 1, 2, 3] rfl) (hD.sub [0, 1, 2, 3] (by decide) rfl) hS (lv_sub hl [0, 1, 2, 3] rfl)
      · rw [if_neg c_1] at hfn
        refine lv_aload_n hx hb dMd_update_15 rfl (lv_at hl 0 rfl) ?_
        refine va_get (D := (dC, dI)) (ci := 11) (v := .ref r_waitPlace) (C := R_Md) (T := T_Md) (N := 31) hx hb htg in_Md hown hK hP 0 rfl rfl 26 (by decide) (htg _ wd_821) (fun _ h9 => h9) rfl dMd_update_16 ?_
        refine lv_iload_n hx hb dMd_update_19 rfl (lv_at hl 3 rfl) ?_
        obtain ⟨g_2, hfn⟩ := og hfn
        refine va_iald hx hb hK hP 1 0 rfl rfl g_2 dMd_update_20 ?_
        refine lv_iload_n hx hb dMd_update_21 rfl (lv_at hl 1 rfl) ?_
        refine lv_icmp_eq (tgt := 31) hx hb dMd_update_22 (by decide) (fun c_3 => ?_) (fun c_3 => ?_)
        · rw [if_pos c_3] at hfn
          exact blk31 _ _ _ _ _ _ _ _ _ _ _ _ v3_b7 _ _ ls hfn (hP.sub [0, 1, 2, 3] rfl) (hD.sub [0, 1, 2, 3] (by decide) rfl) hS (lv_sub hl [0, 1, 2, 3] rfl)
        · rw [if_neg c_3] at hfn
          refine lv_iinc (v := (v3_b7 + 1)) (lv' := [(3, .int (v3_b7 + 1)), (0, .ref o0), (1, .int pl), (2, .int (bI tk))]) hx hb dMd_update_25 hl (k := 3) rfl rfl (by decide) rfl (fun ls hl => ?_)
          refine lv_goto (tgt := 7) hx hb dMd_update_28 (by decide) ?_
          exact ih _ _ _ _ _ _ _ _ _ _ _ _ (v3_b7 + 1) _ _ ls hfn (hP.sub [0, 1, 2, 3] rfl) (hD.sub [0, 1, 2, 3] (by decide) rfl) hS (lv_sub hl [1, 2, 3, 0] rfl)
  have hl := lv_entry ([.ref o0, .int pl, .int (bI tk)]) (n := 7) (Nat.le_of_ble_eq_true rfl)
  rw [lg_entry_eq]
  generalize (lg_sl ([.ref o0, .int pl, .int (bI tk)]) ++ List.replicate (7 - (lg_sl ([.ref o0, .int pl, .int (bI tk)])).length) Slot.unset).toArray = ls at hl ⊢
  have hl : lv_has ls 7 [(0, .ref o0), (1, .int pl), (2, .int (bI tk))] := hl
  unfold of_Md_update_9 at hfn
  refine lv_aload_n hx hb dMd_update_0 rfl (lv_at hl 0 rfl) ?_
  refine lv_iconst (v := 0) hx hb dMd_update_1 (by decide) ?_
  refine va_put (D := (dC, dI)) (ci := 11) (v := .int 0) (ty := .int) (C := R_Md) (T := T_Md) (N := 31) hx hb htg in_Md ty_Md tk_Md nm_Md hown hK hP hD hS 0 rfl rfl 0 (by decide) (htg _ wd_795) (fun _ h9 => h9) rfl (by decide +kernel) rfl rfl (Nat.le_of_ble_eq_true rfl) dMd_update_2 (fun H locs hP hD hS => ?_)
  have hP : va_P (dC, dI) vwCl [(o0, .inr (11, [.int 0, .int 9, .int mbt, .int mrw, .int mhs, .int mco, .int (bI mey), .int mu1, .int mu2, .int mu3, .int mu4, .ref r_lastBit, .ref r_plain, .ref r_mixed, .ref r_chooser, .ref r_own, .ref r_ownCounter, .ref r_tag, .ref r_sum, .ref r_use, .ref r_weight, .ref r_loopTag, .ref r_length, .ref r_count, .ref r_trust, .int mwt, .ref r_waitPlace, .ref r_waitHistory, .ref r_waitSaid, .int mmk, .ref r_mark])), (r_waitPlace, .inl (cA.1, 64, .inl g_waitPlace)), (r_waitHistory, .inl (cA.1, 64, .inl g_waitHistory)), (r_waitSaid, .inl (cA.2.1, 64, .inl g_waitSaid))] H := hP
  have hD : va_D A [(o0, .inr (11, [.int 0, .int 9, .int mbt, .int mrw, .int mhs, .int mco, .int (bI mey), .int mu1, .int mu2, .int mu3, .int mu4, .ref r_lastBit, .ref r_plain, .ref r_mixed, .ref r_chooser, .ref r_own, .ref r_ownCounter, .ref r_tag, .ref r_sum, .ref r_use, .ref r_weight, .ref r_loopTag, .ref r_length, .ref r_count, .ref r_trust, .int mwt, .ref r_waitPlace, .ref r_waitHistory, .ref r_waitSaid, .int mmk, .ref r_mark])), (r_waitPlace, .inl (cA.1, 64, .inl g_waitPlace)), (r_waitHistory, .inl (cA.1, 64, .inl g_waitHistory)), (r_waitSaid, .inl (cA.2.1, 64, .inl g_waitSaid))] := hD
  refine lv_iconst (v := 0) hx hb dMd_update_5 (by decide) ?_
  refine lv_istore_n (lv' := [(3, .int 0), (0, .ref o0), (1, .int pl), (2, .int (bI tk))]) hx hb dMd_update_6 rfl hl (by decide) rfl (fun ls hl => ?_)
  exact blk7 4096 _ _ _ _ _ _ _ _ _ _ _ _ 0 _ _ ls hfn (hP.sub [0, 1, 2, 3] rfl) (hD.sub [0, 1, 2, 3] (by decide) rfl) hS (lv_sub hl [1, 2, 3, 0] rfl)
def of_Md_row_9_b34 (mco : Int32) : Option (Int32 × Int32) := some (((us mco 16) &&& 1), 0)
def of_Md_row_9 (mco : Int32) : Option (Int32 × Int32) := of_Md_row_9_b34 mco
set_option maxHeartbeats 4000000 in
set_option maxRecDepth 100000 in
theorem c_Md_row_9 (l : Launch) (dC : Nat → ClassId) (dI : Nat → Nat → Nat) (cA : ClassId × ClassId × ClassId) (zz : Nat) (o0 : Nat) (r_lastBit : Nat) (r_plain : Nat) (r_mixed : Nat) (r_chooser : Nat) (r_own : Nat) (r_ownCounter : Nat) (r_tag : Nat) (r_sum : Nat) (r_use : Nat) (r_weight : Nat) (r_loopTag : Nat) (r_length : Nat) (r_count : Nat) (r_trust : Nat) (r_waitPlace : Nat) (r_waitHistory : Nat) (r_waitSaid : Nat) (r_mark : Nat) (mt : Int32) (mbt : Int32) (mrw : Int32) (mhs : Int32) (mco : Int32) (mey : Bool) (mu1 : Int32) (mu2 : Int32) (mu3 : Int32) (mu4 : Int32) (mwt : Int32) (mmk : Int32) (pl : Int32) (rs0 : Int32) (rs1 : Int32) (hfn : (of_Md_row_9 mco) = some (rs0, rs1)) : Met l yMd_row wMd_row ({ frames := 2, cells := 0, slots := 0, locals := 42 }) (va_Pc [.ref o0, .int pl] (Wr (dC, dI) cA zz [(o0, .inr (11, [.int mt, .int 9, .int mbt, .int mrw, .int mhs, .int mco, .int (bI mey), .int mu1, .int mu2, .int mu3, .int mu4, .ref r_lastBit, .ref r_plain, .ref r_mixed, .ref r_chooser, .ref r_own, .ref r_ownCounter, .ref r_tag, .ref r_sum, .ref r_use, .ref r_weight, .ref r_loopTag, .ref r_length, .ref r_count, .ref r_trust, .int mwt, .ref r_waitPlace, .ref r_waitHistory, .ref r_waitSaid, .int mmk, .ref r_mark]))])) (va_Qi (fun r9 w9 => r9 = rs0 ∧ w9 = [(o0, .inr (11, [.int rs1, .int 9, .int mbt, .int mrw, .int mhs, .int mco, .int (bI mey), .int mu1, .int mu2, .int mu3, .int mu4, .ref r_lastBit, .ref r_plain, .ref r_mixed, .ref r_chooser, .ref r_own, .ref r_ownCounter, .ref r_tag, .ref r_sum, .ref r_use, .ref r_weight, .ref r_loopTag, .ref r_length, .ref r_count, .ref r_trust, .int mwt, .ref r_waitPlace, .ref r_waitHistory, .ref r_waitSaid, .int mmk, .ref r_mark]))]) (At (dC, dI) cA (va_A [(o0, .inr (11, [.int mt, .int 9, .int mbt, .int mrw, .int mhs, .int mco, .int (bI mey), .int mu1, .int mu2, .int mu3, .int mu4, .ref r_lastBit, .ref r_plain, .ref r_mixed, .ref r_chooser, .ref r_own, .ref r_ownCounter, .ref r_tag, .ref r_sum, .ref r_use, .ref r_weight, .ref r_loopTag, .ref r_length, .ref r_count, .ref r_trust, .int mwt, .ref r_waitPlace, .ref r_waitHistory, .ref r_waitSaid, .int mmk, .ref r_mark]))] zz)) (va_A [(o0, .inr (11, [.int mt, .int 9, .int mbt, .int mrw, .int mhs, .int mco, .int (bI mey), .int mu1, .int mu2, .int mu3, .int mu4, .ref r_lastBit, .ref r_plain, .ref r_mixed, .ref r_chooser, .ref r_own, .ref r_ownCounter, .ref r_tag, .ref r_sum, .ref r_use, .ref r_weight, .ref r_loopTag, .ref r_length, .ref r_count, .ref r_trust, .int mwt, .ref r_waitPlace, .ref r_waitHistory, .ref r_waitSaid, .int mmk, .ref r_mark]))] zz)) 0 0 (va_A [(o0, .inr (11, [.int mt, .int 9, .int mbt, .int mrw, .int mhs, .int mco, .int (bI mey), .int mu1, .int mu2, .int mu3, .int mu4, .ref r_lastBit, .ref r_plain, .ref r_mixed, .ref r_chooser, .ref r_own, .ref r_ownCounter, .ref r_tag, .ref r_sum, .ref r_use, .ref r_weight, .ref r_loopTag, .ref r_length, .ref r_count, .ref r_trust, .int mwt, .ref r_waitPlace, .ref r_waitHistory, .ref r_waitSaid, .int mmk, .ref r_mark]))] zz) := by
  refine Met.ofW (cc := cMd_row) (maxL := 4) (ret := (some .int)) (by decide) rfl ?_
  intro p e s m args below meth c s₁ B hml hv
  obtain ⟨rfl, hsz, hN, hP, hK, hD0⟩ := hv
  have hx := B.exec
  have hb := B.bytes
  have hr := B.returns
  have hts := atoms_spec (ws := wMd_row) B.pre
  have htg : ∀ w ∈ GW, w.before _ s = true := fun w h => hts w (List.mem_cons_of_mem _ h)
  have hown : s.vm.findClass R_Md = some m.cls := findClass_of_methodNamed B.named
  have hlocks := B.notSynchronized
  subst hsz
  have hD := hD0.self (sz := s.heap.size)
  generalize hAe : va_A [(o0, .inr (11, [.int mt, .int 9, .int mbt, .int mrw, .int mhs, .int mco, .int (bI mey), .int mu1, .int mu2, .int mu3, .int mu4, .ref r_lastBit, .ref r_plain, .ref r_mixed, .ref r_chooser, .ref r_own, .ref r_ownCounter, .ref r_tag, .ref r_sum, .ref r_use, .ref r_weight, .ref r_loopTag, .ref r_length, .ref r_count, .ref r_trust, .int mwt, .ref r_waitPlace, .ref r_waitHistory, .ref r_waitSaid, .int mmk, .ref r_mark]))] s.heap.size = A at hD ⊢
  have hA : ∀ q : Nat, s.heap.size ≤ q → A q := fun q h => by rw [← hAe]; exact Or.inr h
  have hS : va_S A s.heap s.heap [] := va_S.rf
  have hP : va_P (dC, dI) vwCl [(o0, .inr (11, [.int mt, .int 9, .int mbt, .int mrw, .int mhs, .int mco, .int (bI mey), .int mu1, .int mu2, .int mu3, .int mu4, .ref r_lastBit, .ref r_plain, .ref r_mixed, .ref r_chooser, .ref r_own, .ref r_ownCounter, .ref r_tag, .ref r_sum, .ref r_use, .ref r_weight, .ref r_loopTag, .ref r_length, .ref r_count, .ref r_trust, .int mwt, .ref r_waitPlace, .ref r_waitHistory, .ref r_waitSaid, .int mmk, .ref r_mark]))] s.heap := hP
  have blk34 : ∀ (rs0 : Int32) (rs1 : Int32) (H : Heap) (locs : List Loc) (ls : Array Slot), of_Md_row_9_b34 mco = some (rs0, rs1) → va_P (dC, dI) vwCl [(o0, .inr (11, [.int 0, .int 9, .int mbt, .int mrw, .int mhs, .int mco, .int (bI mey), .int mu1, .int mu2, .int mu3, .int mu4, .ref r_lastBit, .ref r_plain, .ref r_mixed, .ref r_chooser, .ref r_own, .ref r_ownCounter, .ref r_tag, .ref r_sum, .ref r_use, .ref r_weight, .ref r_loopTag, .ref r_length, .ref r_count, .ref r_trust, .int mwt, .ref r_waitPlace, .ref r_waitHistory, .ref r_waitSaid, .int mmk, .ref r_mark]))] H → va_D A [(o0, .inr (11, [.int 0, .int 9, .int mbt, .int mrw, .int mhs, .int mco, .int (bI mey), .int mu1, .int mu2, .int mu3, .int mu4, .ref r_lastBit, .ref r_plain, .ref r_mixed, .ref r_chooser, .ref r_own, .ref r_ownCounter, .ref r_tag, .ref r_sum, .ref r_use, .ref r_weight, .ref r_loopTag, .ref r_length, .ref r_count, .ref r_trust, .int mwt, .ref r_waitPlace, .ref r_waitHistory, .ref r_waitSaid, .int mmk, .ref r_mark]))] → va_S A s.heap H locs → lv_has ls 4 [(0, .ref o0), (1, .int pl), (2, .int (tf_Md_plainRow mbt mrw pl))] → W p l e (headSpec wMd_row ({ frames := 2, cells := 0, slots := 0, locals := 42 })).room s m ([.ref o0, .int pl] : List Value).toArray below meth c H locs 0 0 (MQ below (va_Qi (fun r9 w9 => r9 = rs0 ∧ w9 = [(o0, .inr (11, [.int rs1, .int 9, .int mbt, .int mrw, .int mhs, .int mco, .int (bI mey), .int mu1, .int mu2, .int mu3, .int mu4, .ref r_lastBit, .ref r_plain, .ref r_mixed, .ref r_chooser, .ref r_own, .ref r_ownCounter, .ref r_tag, .ref r_sum, .ref r_use, .ref r_weight, .ref r_loopTag, .ref r_length, .ref r_count, .ref r_trust, .int mwt, .ref r_waitPlace, .ref r_waitHistory, .ref r_waitSaid, .int mmk, .ref r_mark]))]) (At (dC, dI) cA A) A) ([.ref o0, .int pl] : List Value).toArray s 0 0 A) (F0 m 34 ls [.int (-1)]) := by
    intro rs0 rs1 H locs ls hfn hP hD hS hl
    unfold of_Md_row_9_b34 at hfn
    refine lv_istore_n (lv' := [(3, .int (-1)), (0, .ref o0), (1, .int pl), (2, .int (tf_Md_plainRow mbt mrw pl))]) hx hb dMd_row_34 rfl hl (by decide) rfl (fun ls hl => ?_)
    refine lv_aload_n hx hb dMd_row_35 rfl (lv_at hl 1 rfl) ?_
    refine va_get (D := (dC, dI)) (ci := 11) (v := .int 9) (C := R_Md) (T := T_Md) (N := 31) hx hb htg in_Md hown hK hP 0 rfl rfl 1 (by decide) (htg _ wd_796) (fun _ h9 => h9) rfl dMd_row_36 ?_
    refine lv_tableIn (tgt := 164) hx hb dMd_row_39 (by decide) (by decide) rfl (by decide) ?_
    refine lv_aload_n hx hb dMd_row_164 rfl (lv_at hl 1 rfl) ?_
    refine va_get (D := (dC, dI)) (ci := 11) (v := .int mco) (C := R_Md) (T := T_Md) (N := 31) hx hb htg in_Md hown hK hP 0 rfl rfl 5 (by decide) (htg _ wd_800) (fun _ h9 => h9) rfl dMd_row_165 ?_
    refine lv_bipush (v := 16) hx hb dMd_row_168 (by decide) ?_
    refine lv_iushr (v := (us mco 16)) hx hb dMd_row_170 rfl ?_
    refine lv_iconst (v := 1) hx hb dMd_row_171 (by decide) ?_
    refine lv_iand hx hb dMd_row_172 ?_
    replace hfn := Option.some.inj hfn
    obtain ⟨e9, hf_0⟩ := Prod.mk.inj hfn; clear hfn; subst e9
    subst hf_0
    exact W.iret hx hb hr (fun t ht hW => ⟨⟨_, _, rfl, ⟨rfl, rfl⟩, ⟨by rw [ht]; exact hP.sub [0] rfl, va_K.moved hW.alike hK, hD.sub [0] (by decide) rfl⟩⟩, hS.F ht⟩) hS.2.2 dMd_row_173
  have hl := lv_entry ([.ref o0, .int pl]) (n := 4) (Nat.le_of_ble_eq_true rfl)
  rw [lg_entry_eq]
  generalize (lg_sl ([.ref o0, .int pl]) ++ List.replicate (4 - (lg_sl ([.ref o0, .int pl])).length) Slot.unset).toArray = ls at hl ⊢
  have hl : lv_has ls 4 [(0, .ref o0), (1, .int pl)] := hl
  unfold of_Md_row_9 at hfn
  refine lv_aload_n hx hb dMd_row_0 rfl (lv_at hl 0 rfl) ?_
  refine lv_iconst (v := 0) hx hb dMd_row_1 (by decide) ?_
  refine va_put (D := (dC, dI)) (ci := 11) (v := .int 0) (ty := .int) (C := R_Md) (T := T_Md) (N := 31) hx hb htg in_Md ty_Md tk_Md nm_Md hown hK hP hD hS 0 rfl rfl 0 (by decide) (htg _ wd_795) (fun _ h9 => h9) rfl (by decide +kernel) rfl rfl (Nat.le_of_ble_eq_true rfl) dMd_row_2 (fun H locs hP hD hS => ?_)
  have hP : va_P (dC, dI) vwCl [(o0, .inr (11, [.int 0, .int 9, .int mbt, .int mrw, .int mhs, .int mco, .int (bI mey), .int mu1, .int mu2, .int mu3, .int mu4, .ref r_lastBit, .ref r_plain, .ref r_mixed, .ref r_chooser, .ref r_own, .ref r_ownCounter, .ref r_tag, .ref r_sum, .ref r_use, .ref r_weight, .ref r_loopTag, .ref r_length, .ref r_count, .ref r_trust, .int mwt, .ref r_waitPlace, .ref r_waitHistory, .ref r_waitSaid, .int mmk, .ref r_mark]))] H := hP
  have hD : va_D A [(o0, .inr (11, [.int 0, .int 9, .int mbt, .int mrw, .int mhs, .int mco, .int (bI mey), .int mu1, .int mu2, .int mu3, .int mu4, .ref r_lastBit, .ref r_plain, .ref r_mixed, .ref r_chooser, .ref r_own, .ref r_ownCounter, .ref r_tag, .ref r_sum, .ref r_use, .ref r_weight, .ref r_loopTag, .ref r_length, .ref r_count, .ref r_trust, .int mwt, .ref r_waitPlace, .ref r_waitHistory, .ref r_waitSaid, .int mmk, .ref r_mark]))] := hD
  refine lv_aload_n hx hb dMd_row_5 rfl (lv_at hl 0 rfl) ?_
  refine lv_iload_n hx hb dMd_row_6 rfl (lv_at hl 1 rfl) ?_
  refine rd_V (As := [.int pl]) (rest := []) ⟨hx, hb, hml, hown, htg⟩ (c_Md_plainRow l dC dI cA o0 r_lastBit r_plain r_mixed r_chooser r_own r_ownCounter r_tag r_sum r_use r_weight r_loopTag r_length r_count r_trust r_waitPlace r_waitHistory r_waitSaid r_mark 0 9 mbt mrw mhs mco mey mu1 mu2 mu3 mu4 mwt mmk pl) (cw_V htg wd_902 ws_19 qMd_plainRow iMd_plainRow kMd_plainRow pMd_plainRow rfl rfl ⟨Nat.le_of_ble_eq_true rfl, Nat.le_of_ble_eq_true rfl⟩) (va_recv hK hP (ci := 11) (q0 := 0) rfl rfl) hN (hP.sub [0] rfl) hK rfl hl.1 rfl (Nat.le_of_ble_eq_true rfl) dMd_row_7 ⟨Nat.le_of_ble_eq_true rfl, Nat.le_of_ble_eq_true rfl⟩ ?_
  refine lv_istore_n (lv' := [(2, .int (tf_Md_plainRow mbt mrw pl)), (0, .ref o0), (1, .int pl)]) hx hb dMd_row_10 rfl hl (by decide) rfl (fun ls hl => ?_)
  refine lv_aload_n hx hb dMd_row_11 rfl (lv_at hl 1 rfl) ?_
  refine va_get (D := (dC, dI)) (ci := 11) (v := .int 9) (C := R_Md) (T := T_Md) (N := 31) hx hb htg in_Md hown hK hP 0 rfl rfl 1 (by decide) (htg _ wd_796) (fun _ h9 => h9) rfl dMd_row_12 ?_
  refine lv_bipush (v := 6) hx hb dMd_row_15 (by decide) ?_
  refine lv_icmp_ne (tgt := 33) hx hb dMd_row_17 (by decide) (fun _ => ?_) (fun c => absurd c (by decide))
  refine lv_iconst (v := (-1)) hx hb dMd_row_33 (by decide) ?_
  exact blk34 _ _ _ _ ls hfn (hP.sub [0] rfl) (hD.sub [0] (by decide) rfl) hS (lv_sub hl [1, 2, 0] rfl)
def of_Md_part_9 : Option (Int32 × Int32) := some (0, 0)
set_option maxHeartbeats 4000000 in
set_option maxRecDepth 100000 in
theorem c_Md_part_9 (l : Launch) (dC : Nat → ClassId) (dI : Nat → Nat → Nat) (cA : ClassId × ClassId × ClassId) (zz : Nat) (o0 : Nat) (r_lastBit : Nat) (r_plain : Nat) (r_mixed : Nat) (r_chooser : Nat) (r_own : Nat) (r_ownCounter : Nat) (r_tag : Nat) (r_sum : Nat) (r_use : Nat) (r_weight : Nat) (r_loopTag : Nat) (r_length : Nat) (r_count : Nat) (r_trust : Nat) (r_waitPlace : Nat) (r_waitHistory : Nat) (r_waitSaid : Nat) (r_mark : Nat) (mt : Int32) (mbt : Int32) (mrw : Int32) (mhs : Int32) (mco : Int32) (mey : Bool) (mu1 : Int32) (mu2 : Int32) (mu3 : Int32) (mu4 : Int32) (mwt : Int32) (mmk : Int32) (pl : Int32) (rs0 : Int32) (rs1 : Int32) (hfn : of_Md_part_9 = some (rs0, rs1)) : Met l yMd_part wMd_part ({ frames := 0, cells := 0, slots := 0, locals := 0 }) (va_Pc [.ref o0, .int pl] (Wr (dC, dI) cA zz [(o0, .inr (11, [.int mt, .int 9, .int mbt, .int mrw, .int mhs, .int mco, .int (bI mey), .int mu1, .int mu2, .int mu3, .int mu4, .ref r_lastBit, .ref r_plain, .ref r_mixed, .ref r_chooser, .ref r_own, .ref r_ownCounter, .ref r_tag, .ref r_sum, .ref r_use, .ref r_weight, .ref r_loopTag, .ref r_length, .ref r_count, .ref r_trust, .int mwt, .ref r_waitPlace, .ref r_waitHistory, .ref r_waitSaid, .int mmk, .ref r_mark]))])) (va_Qi (fun r9 w9 => r9 = rs0 ∧ w9 = [(o0, .inr (11, [.int rs1, .int 9, .int mbt, .int mrw, .int mhs, .int mco, .int (bI mey), .int mu1, .int mu2, .int mu3, .int mu4, .ref r_lastBit, .ref r_plain, .ref r_mixed, .ref r_chooser, .ref r_own, .ref r_ownCounter, .ref r_tag, .ref r_sum, .ref r_use, .ref r_weight, .ref r_loopTag, .ref r_length, .ref r_count, .ref r_trust, .int mwt, .ref r_waitPlace, .ref r_waitHistory, .ref r_waitSaid, .int mmk, .ref r_mark]))]) (At (dC, dI) cA (va_A [(o0, .inr (11, [.int mt, .int 9, .int mbt, .int mrw, .int mhs, .int mco, .int (bI mey), .int mu1, .int mu2, .int mu3, .int mu4, .ref r_lastBit, .ref r_plain, .ref r_mixed, .ref r_chooser, .ref r_own, .ref r_ownCounter, .ref r_tag, .ref r_sum, .ref r_use, .ref r_weight, .ref r_loopTag, .ref r_length, .ref r_count, .ref r_trust, .int mwt, .ref r_waitPlace, .ref r_waitHistory, .ref r_waitSaid, .int mmk, .ref r_mark]))] zz)) (va_A [(o0, .inr (11, [.int mt, .int 9, .int mbt, .int mrw, .int mhs, .int mco, .int (bI mey), .int mu1, .int mu2, .int mu3, .int mu4, .ref r_lastBit, .ref r_plain, .ref r_mixed, .ref r_chooser, .ref r_own, .ref r_ownCounter, .ref r_tag, .ref r_sum, .ref r_use, .ref r_weight, .ref r_loopTag, .ref r_length, .ref r_count, .ref r_trust, .int mwt, .ref r_waitPlace, .ref r_waitHistory, .ref r_waitSaid, .int mmk, .ref r_mark]))] zz)) 0 0 (va_A [(o0, .inr (11, [.int mt, .int 9, .int mbt, .int mrw, .int mhs, .int mco, .int (bI mey), .int mu1, .int mu2, .int mu3, .int mu4, .ref r_lastBit, .ref r_plain, .ref r_mixed, .ref r_chooser, .ref r_own, .ref r_ownCounter, .ref r_tag, .ref r_sum, .ref r_use, .ref r_weight, .ref r_loopTag, .ref r_length, .ref r_count, .ref r_trust, .int mwt, .ref r_waitPlace, .ref r_waitHistory, .ref r_waitSaid, .int mmk, .ref r_mark]))] zz) := by
  refine Met.ofW (cc := cMd_part) (maxL := 2) (ret := (some .int)) (by decide) rfl ?_
  intro p e s m args below meth c s₁ B hml hv
  obtain ⟨rfl, hsz, hN, hP, hK, hD0⟩ := hv
  have hx := B.exec
  have hb := B.bytes
  have hr := B.returns
  have hts := atoms_spec (ws := wMd_part) B.pre
  have htg : ∀ w ∈ GW, w.before _ s = true := fun w h => hts w (List.mem_cons_of_mem _ h)
  have hown : s.vm.findClass R_Md = some m.cls := findClass_of_methodNamed B.named
  have hlocks := B.notSynchronized
  subst hsz
  have hD := hD0.self (sz := s.heap.size)
  generalize hAe : va_A [(o0, .inr (11, [.int mt, .int 9, .int mbt, .int mrw, .int mhs, .int mco, .int (bI mey), .int mu1, .int mu2, .int mu3, .int mu4, .ref r_lastBit, .ref r_plain, .ref r_mixed, .ref r_chooser, .ref r_own, .ref r_ownCounter, .ref r_tag, .ref r_sum, .ref r_use, .ref r_weight, .ref r_loopTag, .ref r_length, .ref r_count, .ref r_trust, .int mwt, .ref r_waitPlace, .ref r_waitHistory, .ref r_waitSaid, .int mmk, .ref r_mark]))] s.heap.size = A at hD ⊢
  have hA : ∀ q : Nat, s.heap.size ≤ q → A q := fun q h => by rw [← hAe]; exact Or.inr h
  have hS : va_S A s.heap s.heap [] := va_S.rf
  have hP : va_P (dC, dI) vwCl [(o0, .inr (11, [.int mt, .int 9, .int mbt, .int mrw, .int mhs, .int mco, .int (bI mey), .int mu1, .int mu2, .int mu3, .int mu4, .ref r_lastBit, .ref r_plain, .ref r_mixed, .ref r_chooser, .ref r_own, .ref r_ownCounter, .ref r_tag, .ref r_sum, .ref r_use, .ref r_weight, .ref r_loopTag, .ref r_length, .ref r_count, .ref r_trust, .int mwt, .ref r_waitPlace, .ref r_waitHistory, .ref r_waitSaid, .int mmk, .ref r_mark]))] s.heap := hP
  have hl := lv_entry ([.ref o0, .int pl]) (n := 2) (Nat.le_of_ble_eq_true rfl)
  rw [lg_entry_eq]
  generalize (lg_sl ([.ref o0, .int pl]) ++ List.replicate (2 - (lg_sl ([.ref o0, .int pl])).length) Slot.unset).toArray = ls at hl ⊢
  have hl : lv_has ls 2 [(0, .ref o0), (1, .int pl)] := hl
  unfold of_Md_part_9 at hfn
  refine lv_aload_n hx hb dMd_part_0 rfl (lv_at hl 0 rfl) ?_
  refine lv_iconst (v := 0) hx hb dMd_part_1 (by decide) ?_
  refine va_put (D := (dC, dI)) (ci := 11) (v := .int 0) (ty := .int) (C := R_Md) (T := T_Md) (N := 31) hx hb htg in_Md ty_Md tk_Md nm_Md hown hK hP hD hS 0 rfl rfl 0 (by decide) (htg _ wd_795) (fun _ h9 => h9) rfl (by decide +kernel) rfl rfl (Nat.le_of_ble_eq_true rfl) dMd_part_2 (fun H locs hP hD hS => ?_)
  have hP : va_P (dC, dI) vwCl [(o0, .inr (11, [.int 0, .int 9, .int mbt, .int mrw, .int mhs, .int mco, .int (bI mey), .int mu1, .int mu2, .int mu3, .int mu4, .ref r_lastBit, .ref r_plain, .ref r_mixed, .ref r_chooser, .ref r_own, .ref r_ownCounter, .ref r_tag, .ref r_sum, .ref r_use, .ref r_weight, .ref r_loopTag, .ref r_length, .ref r_count, .ref r_trust, .int mwt, .ref r_waitPlace, .ref r_waitHistory, .ref r_waitSaid, .int mmk, .ref r_mark]))] H := hP
  have hD : va_D A [(o0, .inr (11, [.int 0, .int 9, .int mbt, .int mrw, .int mhs, .int mco, .int (bI mey), .int mu1, .int mu2, .int mu3, .int mu4, .ref r_lastBit, .ref r_plain, .ref r_mixed, .ref r_chooser, .ref r_own, .ref r_ownCounter, .ref r_tag, .ref r_sum, .ref r_use, .ref r_weight, .ref r_loopTag, .ref r_length, .ref r_count, .ref r_trust, .int mwt, .ref r_waitPlace, .ref r_waitHistory, .ref r_waitSaid, .int mmk, .ref r_mark]))] := hD
  refine lv_aload_n hx hb dMd_part_5 rfl (lv_at hl 0 rfl) ?_
  refine va_get (D := (dC, dI)) (ci := 11) (v := .int 9) (C := R_Md) (T := T_Md) (N := 31) hx hb htg in_Md hown hK hP 0 rfl rfl 1 (by decide) (htg _ wd_796) (fun _ h9 => h9) rfl dMd_part_6 ?_
  refine lv_iconst (v := 5) hx hb dMd_part_9 (by decide) ?_
  refine lv_icmp_ne (tgt := 33) hx hb dMd_part_10 (by decide) (fun _ => ?_) (fun c => absurd c (by decide))
  refine lv_aload_n hx hb dMd_part_33 rfl (lv_at hl 0 rfl) ?_
  refine va_get (D := (dC, dI)) (ci := 11) (v := .int 9) (C := R_Md) (T := T_Md) (N := 31) hx hb htg in_Md hown hK hP 0 rfl rfl 1 (by decide) (htg _ wd_796) (fun _ h9 => h9) rfl dMd_part_34 ?_
  refine lv_bipush (v := 6) hx hb dMd_part_37 (by decide) ?_
  refine lv_icmp_ne (tgt := 53) hx hb dMd_part_39 (by decide) (fun _ => ?_) (fun c => absurd c (by decide))
  refine lv_aload_n hx hb dMd_part_53 rfl (lv_at hl 0 rfl) ?_
  refine va_get (D := (dC, dI)) (ci := 11) (v := .int 9) (C := R_Md) (T := T_Md) (N := 31) hx hb htg in_Md hown hK hP 0 rfl rfl 1 (by decide) (htg _ wd_796) (fun _ h9 => h9) rfl dMd_part_54 ?_
  refine lv_bipush (v := 8) hx hb dMd_part_57 (by decide) ?_
  refine lv_icmp_ne (tgt := 74) hx hb dMd_part_59 (by decide) (fun _ => ?_) (fun c => absurd c (by decide))
  refine lv_iconst (v := 0) hx hb dMd_part_74 (by decide) ?_
  replace hfn := Option.some.inj hfn
  obtain ⟨e9, hf_0⟩ := Prod.mk.inj hfn; clear hfn; subst e9
  subst hf_0
  exact W.iret hx hb hr (fun t ht hW => ⟨⟨_, _, rfl, ⟨rfl, rfl⟩, ⟨by rw [ht]; exact hP.sub [0] rfl, va_K.moved hW.alike hK, hD.sub [0] (by decide) rfl⟩⟩, hS.F ht⟩) hS.2.2 dMd_part_75
def tf_Md_storage_9 : Int32 × Int32 := (32, 0)
set_option maxHeartbeats 4000000 in
set_option maxRecDepth 100000 in
theorem c_Md_storage_9 (l : Launch) (dC : Nat → ClassId) (dI : Nat → Nat → Nat) (cA : ClassId × ClassId × ClassId) (zz : Nat) (o0 : Nat) (r_lastBit : Nat) (r_plain : Nat) (r_mixed : Nat) (r_chooser : Nat) (r_own : Nat) (r_ownCounter : Nat) (r_tag : Nat) (r_sum : Nat) (r_use : Nat) (r_weight : Nat) (r_loopTag : Nat) (r_length : Nat) (r_count : Nat) (r_trust : Nat) (r_waitPlace : Nat) (r_waitHistory : Nat) (r_waitSaid : Nat) (r_mark : Nat) (mt : Int32) (mbt : Int32) (mrw : Int32) (mhs : Int32) (mco : Int32) (mey : Bool) (mu1 : Int32) (mu2 : Int32) (mu3 : Int32) (mu4 : Int32) (mwt : Int32) (mmk : Int32) : Met l yMd_storage wMd_storage ({ frames := 0, cells := 0, slots := 0, locals := 0 }) (va_Pc [.ref o0] (Wr (dC, dI) cA zz [(o0, .inr (11, [.int mt, .int 9, .int mbt, .int mrw, .int mhs, .int mco, .int (bI mey), .int mu1, .int mu2, .int mu3, .int mu4, .ref r_lastBit, .ref r_plain, .ref r_mixed, .ref r_chooser, .ref r_own, .ref r_ownCounter, .ref r_tag, .ref r_sum, .ref r_use, .ref r_weight, .ref r_loopTag, .ref r_length, .ref r_count, .ref r_trust, .int mwt, .ref r_waitPlace, .ref r_waitHistory, .ref r_waitSaid, .int mmk, .ref r_mark]))])) (va_Qi (fun r9 w9 => r9 = tf_Md_storage_9.1 ∧ w9 = [(o0, .inr (11, [.int tf_Md_storage_9.2, .int 9, .int mbt, .int mrw, .int mhs, .int mco, .int (bI mey), .int mu1, .int mu2, .int mu3, .int mu4, .ref r_lastBit, .ref r_plain, .ref r_mixed, .ref r_chooser, .ref r_own, .ref r_ownCounter, .ref r_tag, .ref r_sum, .ref r_use, .ref r_weight, .ref r_loopTag, .ref r_length, .ref r_count, .ref r_trust, .int mwt, .ref r_waitPlace, .ref r_waitHistory, .ref r_waitSaid, .int mmk, .ref r_mark]))]) (At (dC, dI) cA (va_A [(o0, .inr (11, [.int mt, .int 9, .int mbt, .int mrw, .int mhs, .int mco, .int (bI mey), .int mu1, .int mu2, .int mu3, .int mu4, .ref r_lastBit, .ref r_plain, .ref r_mixed, .ref r_chooser, .ref r_own, .ref r_ownCounter, .ref r_tag, .ref r_sum, .ref r_use, .ref r_weight, .ref r_loopTag, .ref r_length, .ref r_count, .ref r_trust, .int mwt, .ref r_waitPlace, .ref r_waitHistory, .ref r_waitSaid, .int mmk, .ref r_mark]))] zz)) (va_A [(o0, .inr (11, [.int mt, .int 9, .int mbt, .int mrw, .int mhs, .int mco, .int (bI mey), .int mu1, .int mu2, .int mu3, .int mu4, .ref r_lastBit, .ref r_plain, .ref r_mixed, .ref r_chooser, .ref r_own, .ref r_ownCounter, .ref r_tag, .ref r_sum, .ref r_use, .ref r_weight, .ref r_loopTag, .ref r_length, .ref r_count, .ref r_trust, .int mwt, .ref r_waitPlace, .ref r_waitHistory, .ref r_waitSaid, .int mmk, .ref r_mark]))] zz)) 0 0 (va_A [(o0, .inr (11, [.int mt, .int 9, .int mbt, .int mrw, .int mhs, .int mco, .int (bI mey), .int mu1, .int mu2, .int mu3, .int mu4, .ref r_lastBit, .ref r_plain, .ref r_mixed, .ref r_chooser, .ref r_own, .ref r_ownCounter, .ref r_tag, .ref r_sum, .ref r_use, .ref r_weight, .ref r_loopTag, .ref r_length, .ref r_count, .ref r_trust, .int mwt, .ref r_waitPlace, .ref r_waitHistory, .ref r_waitSaid, .int mmk, .ref r_mark]))] zz) := by
  refine Met.ofW (cc := cMd_storage) (maxL := 1) (ret := (some .int)) (by decide) rfl ?_
  intro p e s m args below meth c s₁ B hml hv
  obtain ⟨rfl, hsz, hN, hP, hK, hD0⟩ := hv
  have hx := B.exec
  have hb := B.bytes
  have hr := B.returns
  have hts := atoms_spec (ws := wMd_storage) B.pre
  have htg : ∀ w ∈ GW, w.before _ s = true := fun w h => hts w (List.mem_cons_of_mem _ h)
  have hown : s.vm.findClass R_Md = some m.cls := findClass_of_methodNamed B.named
  have hlocks := B.notSynchronized
  subst hsz
  have hD := hD0.self (sz := s.heap.size)
  generalize hAe : va_A [(o0, .inr (11, [.int mt, .int 9, .int mbt, .int mrw, .int mhs, .int mco, .int (bI mey), .int mu1, .int mu2, .int mu3, .int mu4, .ref r_lastBit, .ref r_plain, .ref r_mixed, .ref r_chooser, .ref r_own, .ref r_ownCounter, .ref r_tag, .ref r_sum, .ref r_use, .ref r_weight, .ref r_loopTag, .ref r_length, .ref r_count, .ref r_trust, .int mwt, .ref r_waitPlace, .ref r_waitHistory, .ref r_waitSaid, .int mmk, .ref r_mark]))] s.heap.size = A at hD ⊢
  have hA : ∀ q : Nat, s.heap.size ≤ q → A q := fun q h => by rw [← hAe]; exact Or.inr h
  have hS : va_S A s.heap s.heap [] := va_S.rf
  have hP : va_P (dC, dI) vwCl [(o0, .inr (11, [.int mt, .int 9, .int mbt, .int mrw, .int mhs, .int mco, .int (bI mey), .int mu1, .int mu2, .int mu3, .int mu4, .ref r_lastBit, .ref r_plain, .ref r_mixed, .ref r_chooser, .ref r_own, .ref r_ownCounter, .ref r_tag, .ref r_sum, .ref r_use, .ref r_weight, .ref r_loopTag, .ref r_length, .ref r_count, .ref r_trust, .int mwt, .ref r_waitPlace, .ref r_waitHistory, .ref r_waitSaid, .int mmk, .ref r_mark]))] s.heap := hP
  obtain ⟨rs, hfn⟩ : ∃ rs, tf_Md_storage_9 = rs := ⟨_, rfl⟩
  try rw [hfn]
  have hl := lv_entry ([.ref o0]) (n := 1) (Nat.le_of_ble_eq_true rfl)
  rw [lg_entry_eq]
  generalize (lg_sl ([.ref o0]) ++ List.replicate (1 - (lg_sl ([.ref o0])).length) Slot.unset).toArray = ls at hl ⊢
  have hl : lv_has ls 1 [(0, .ref o0)] := hl
  unfold tf_Md_storage_9 at hfn
  refine lv_aload_n hx hb dMd_storage_0 rfl (lv_at hl 0 rfl) ?_
  refine lv_iconst (v := 0) hx hb dMd_storage_1 (by decide) ?_
  refine va_put (D := (dC, dI)) (ci := 11) (v := .int 0) (ty := .int) (C := R_Md) (T := T_Md) (N := 31) hx hb htg in_Md ty_Md tk_Md nm_Md hown hK hP hD hS 0 rfl rfl 0 (by decide) (htg _ wd_795) (fun _ h9 => h9) rfl (by decide +kernel) rfl rfl (Nat.le_of_ble_eq_true rfl) dMd_storage_2 (fun H locs hP hD hS => ?_)
  have hP : va_P (dC, dI) vwCl [(o0, .inr (11, [.int 0, .int 9, .int mbt, .int mrw, .int mhs, .int mco, .int (bI mey), .int mu1, .int mu2, .int mu3, .int mu4, .ref r_lastBit, .ref r_plain, .ref r_mixed, .ref r_chooser, .ref r_own, .ref r_ownCounter, .ref r_tag, .ref r_sum, .ref r_use, .ref r_weight, .ref r_loopTag, .ref r_length, .ref r_count, .ref r_trust, .int mwt, .ref r_waitPlace, .ref r_waitHistory, .ref r_waitSaid, .int mmk, .ref r_mark]))] H := hP
  have hD : va_D A [(o0, .inr (11, [.int 0, .int 9, .int mbt, .int mrw, .int mhs, .int mco, .int (bI mey), .int mu1, .int mu2, .int mu3, .int mu4, .ref r_lastBit, .ref r_plain, .ref r_mixed, .ref r_chooser, .ref r_own, .ref r_ownCounter, .ref r_tag, .ref r_sum, .ref r_use, .ref r_weight, .ref r_loopTag, .ref r_length, .ref r_count, .ref r_trust, .int mwt, .ref r_waitPlace, .ref r_waitHistory, .ref r_waitSaid, .int mmk, .ref r_mark]))] := hD
  refine lv_aload_n hx hb dMd_storage_5 rfl (lv_at hl 0 rfl) ?_
  refine va_get (D := (dC, dI)) (ci := 11) (v := .int 9) (C := R_Md) (T := T_Md) (N := 31) hx hb htg in_Md hown hK hP 0 rfl rfl 1 (by decide) (htg _ wd_796) (fun _ h9 => h9) rfl dMd_storage_6 ?_
  refine lv_tableOut (tgt := 137) hx hb dMd_storage_9 (by decide) (by decide) ?_
  refine lv_bipush (v := 32) hx hb dMd_storage_137 (by decide) ?_
  subst hfn
  exact W.iret hx hb hr (fun t ht hW => ⟨⟨_, _, rfl, ⟨rfl, rfl⟩, ⟨by rw [ht]; exact hP.sub [0] rfl, va_K.moved hW.alike hK, hD.sub [0] (by decide) rfl⟩⟩, hS.F ht⟩) hS.2.2 dMd_storage_139
def of_Md_several_9_b33 : Nat → Int32 → Int32 → Int32 → Int32 → Int32 → Option (Int32 × Int32)
  | 0, _, _, _, _, _ => none
  | n + 1, mco, ct0, v3_b33, v4_b33, v5_b33 => (if ct0 ≤ v5_b33 then some (v3_b33, 0) else ((of_Md_says_9 mco).bind fun z_4 => (if (bI z_4) = 0 then of_Md_several_9_b33 n mco ct0 v3_b33 (tf_Md_behind v4_b33 z_4) (v5_b33 + 1) else of_Md_several_9_b33 n mco ct0 (v3_b33 ||| ((1 : Int32) <<< (v5_b33 &&& 31))) (tf_Md_behind v4_b33 z_4) (v5_b33 + 1))))
def of_Md_several_9_b16 : Option (Int32 × Int32) := some (((tf_Md_fail 1).1), ((tf_Md_fail 1).2))
def of_Md_several_9 (mhs : Int32) (mco : Int32) (ct0 : Int32) : Option (Int32 × Int32) := (if ct0 < 1 then of_Md_several_9_b16 else (if ct0 ≤ 16 then of_Md_several_9_b33 4096 mco ct0 0 mhs 0 else of_Md_several_9_b16))
set_option maxHeartbeats 4000000 in
set_option maxRecDepth 100000 in
theorem c_Md_several_9 (l : Launch) (dC : Nat → ClassId) (dI : Nat → Nat → Nat) (cA : ClassId × ClassId × ClassId) (zz : Nat) (o0 : Nat) (r_lastBit : Nat) (r_plain : Nat) (r_mixed : Nat) (r_chooser : Nat) (r_own : Nat) (r_ownCounter : Nat) (r_tag : Nat) (r_sum : Nat) (r_use : Nat) (r_weight : Nat) (r_loopTag : Nat) (r_length : Nat) (r_count : Nat) (r_trust : Nat) (r_waitPlace : Nat) (r_waitHistory : Nat) (r_waitSaid : Nat) (r_mark : Nat) (mt : Int32) (mbt : Int32) (mrw : Int32) (mhs : Int32) (mco : Int32) (mey : Bool) (mu1 : Int32) (mu2 : Int32) (mu3 : Int32) (mu4 : Int32) (mwt : Int32) (mmk : Int32) (pl : Int32) (ct0 : Int32) (rs0 : Int32) (rs1 : Int32) (hfn : (of_Md_several_9 mhs mco ct0) = some (rs0, rs1)) : Met l yMd_several wMd_several ({ frames := 3, cells := 0, slots := 0, locals := 65 }) (va_Pc [.ref o0, .int pl, .int ct0] (Wr (dC, dI) cA zz [(o0, .inr (11, [.int mt, .int 9, .int mbt, .int mrw, .int mhs, .int mco, .int (bI mey), .int mu1, .int mu2, .int mu3, .int mu4, .ref r_lastBit, .ref r_plain, .ref r_mixed, .ref r_chooser, .ref r_own, .ref r_ownCounter, .ref r_tag, .ref r_sum, .ref r_use, .ref r_weight, .ref r_loopTag, .ref r_length, .ref r_count, .ref r_trust, .int mwt, .ref r_waitPlace, .ref r_waitHistory, .ref r_waitSaid, .int mmk, .ref r_mark]))])) (va_Qi (fun r9 w9 => r9 = rs0 ∧ w9 = [(o0, .inr (11, [.int rs1, .int 9, .int mbt, .int mrw, .int mhs, .int mco, .int (bI mey), .int mu1, .int mu2, .int mu3, .int mu4, .ref r_lastBit, .ref r_plain, .ref r_mixed, .ref r_chooser, .ref r_own, .ref r_ownCounter, .ref r_tag, .ref r_sum, .ref r_use, .ref r_weight, .ref r_loopTag, .ref r_length, .ref r_count, .ref r_trust, .int mwt, .ref r_waitPlace, .ref r_waitHistory, .ref r_waitSaid, .int mmk, .ref r_mark]))]) (At (dC, dI) cA (va_A [(o0, .inr (11, [.int mt, .int 9, .int mbt, .int mrw, .int mhs, .int mco, .int (bI mey), .int mu1, .int mu2, .int mu3, .int mu4, .ref r_lastBit, .ref r_plain, .ref r_mixed, .ref r_chooser, .ref r_own, .ref r_ownCounter, .ref r_tag, .ref r_sum, .ref r_use, .ref r_weight, .ref r_loopTag, .ref r_length, .ref r_count, .ref r_trust, .int mwt, .ref r_waitPlace, .ref r_waitHistory, .ref r_waitSaid, .int mmk, .ref r_mark]))] zz)) (va_A [(o0, .inr (11, [.int mt, .int 9, .int mbt, .int mrw, .int mhs, .int mco, .int (bI mey), .int mu1, .int mu2, .int mu3, .int mu4, .ref r_lastBit, .ref r_plain, .ref r_mixed, .ref r_chooser, .ref r_own, .ref r_ownCounter, .ref r_tag, .ref r_sum, .ref r_use, .ref r_weight, .ref r_loopTag, .ref r_length, .ref r_count, .ref r_trust, .int mwt, .ref r_waitPlace, .ref r_waitHistory, .ref r_waitSaid, .int mmk, .ref r_mark]))] zz)) 0 0 (va_A [(o0, .inr (11, [.int mt, .int 9, .int mbt, .int mrw, .int mhs, .int mco, .int (bI mey), .int mu1, .int mu2, .int mu3, .int mu4, .ref r_lastBit, .ref r_plain, .ref r_mixed, .ref r_chooser, .ref r_own, .ref r_ownCounter, .ref r_tag, .ref r_sum, .ref r_use, .ref r_weight, .ref r_loopTag, .ref r_length, .ref r_count, .ref r_trust, .int mwt, .ref r_waitPlace, .ref r_waitHistory, .ref r_waitSaid, .int mmk, .ref r_mark]))] zz) := by
  refine Met.ofW (cc := cMd_several) (maxL := 7) (ret := (some .int)) (by decide) rfl ?_
  intro p e s m args below meth c s₁ B hml hv
  obtain ⟨rfl, hsz, hN, hP, hK, hD0⟩ := hv
  have hx := B.exec
  have hb := B.bytes
  have hr := B.returns
  have hts := atoms_spec (ws := wMd_several) B.pre
  have htg : ∀ w ∈ GW, w.before _ s = true := fun w h => hts w (List.mem_cons_of_mem _ h)
  have hown : s.vm.findClass R_Md = some m.cls := findClass_of_methodNamed B.named
  have hlocks := B.notSynchronized
  subst hsz
  have hD := hD0.self (sz := s.heap.size)
  generalize hAe : va_A [(o0, .inr (11, [.int mt, .int 9, .int mbt, .int mrw, .int mhs, .int mco, .int (bI mey), .int mu1, .int mu2, .int mu3, .int mu4, .ref r_lastBit, .ref r_plain, .ref r_mixed, .ref r_chooser, .ref r_own, .ref r_ownCounter, .ref r_tag, .ref r_sum, .ref r_use, .ref r_weight, .ref r_loopTag, .ref r_length, .ref r_count, .ref r_trust, .int mwt, .ref r_waitPlace, .ref r_waitHistory, .ref r_waitSaid, .int mmk, .ref r_mark]))] s.heap.size = A at hD ⊢
  have hA : ∀ q : Nat, s.heap.size ≤ q → A q := fun q h => by rw [← hAe]; exact Or.inr h
  have hS : va_S A s.heap s.heap [] := va_S.rf
  have hP : va_P (dC, dI) vwCl [(o0, .inr (11, [.int mt, .int 9, .int mbt, .int mrw, .int mhs, .int mco, .int (bI mey), .int mu1, .int mu2, .int mu3, .int mu4, .ref r_lastBit, .ref r_plain, .ref r_mixed, .ref r_chooser, .ref r_own, .ref r_ownCounter, .ref r_tag, .ref r_sum, .ref r_use, .ref r_weight, .ref r_loopTag, .ref r_length, .ref r_count, .ref r_trust, .int mwt, .ref r_waitPlace, .ref r_waitHistory, .ref r_waitSaid, .int mmk, .ref r_mark]))] s.heap := hP
  have blk33 : ∀ n : Nat, ∀ (rs0 : Int32) (rs1 : Int32) (v3_b33 : Int32) (v4_b33 : Int32) (v5_b33 : Int32) (H : Heap) (locs : List Loc) (ls : Array Slot), of_Md_several_9_b33 n mco ct0 v3_b33 v4_b33 v5_b33 = some (rs0, rs1) → va_P (dC, dI) vwCl [(o0, .inr (11, [.int 0, .int 9, .int mbt, .int mrw, .int mhs, .int mco, .int (bI mey), .int mu1, .int mu2, .int mu3, .int mu4, .ref r_lastBit, .ref r_plain, .ref r_mixed, .ref r_chooser, .ref r_own, .ref r_ownCounter, .ref r_tag, .ref r_sum, .ref r_use, .ref r_weight, .ref r_loopTag, .ref r_length, .ref r_count, .ref r_trust, .int mwt, .ref r_waitPlace, .ref r_waitHistory, .ref r_waitSaid, .int mmk, .ref r_mark]))] H → va_D A [(o0, .inr (11, [.int 0, .int 9, .int mbt, .int mrw, .int mhs, .int mco, .int (bI mey), .int mu1, .int mu2, .int mu3, .int mu4, .ref r_lastBit, .ref r_plain, .ref r_mixed, .ref r_chooser, .ref r_own, .ref r_ownCounter, .ref r_tag, .ref r_sum, .ref r_use, .ref r_weight, .ref r_loopTag, .ref r_length, .ref r_count, .ref r_trust, .int mwt, .ref r_waitPlace, .ref r_waitHistory, .ref r_waitSaid, .int mmk, .ref r_mark]))] → va_S A s.heap H locs → lv_has ls 7 [(0, .ref o0), (1, .int pl), (2, .int ct0), (3, .int v3_b33), (4, .int v4_b33), (5, .int v5_b33)] → W p l e (headSpec wMd_several ({ frames := 3, cells := 0, slots := 0, locals := 65 })).room s m ([.ref o0, .int pl, .int ct0] : List Value).toArray below meth c H locs 0 0 (MQ below (va_Qi (fun r9 w9 => r9 = rs0 ∧ w9 = [(o0, .inr (11, [.int rs1, .int 9, .int mbt, .int mrw, .int mhs, .int mco, .int (bI mey), .int mu1, .int mu2, .int mu3, .int mu4, .ref r_lastBit, .ref r_plain, .ref r_mixed, .ref r_chooser, .ref r_own, .ref r_ownCounter, .ref r_tag, .ref r_sum, .ref r_use, .ref r_weight, .ref r_loopTag, .ref r_length, .ref r_count, .ref r_trust, .int mwt, .ref r_waitPlace, .ref r_waitHistory, .ref r_waitSaid, .int mmk, .ref r_mark]))]) (At (dC, dI) cA A) A) ([.ref o0, .int pl, .int ct0] : List Value).toArray s 0 0 A) (F0 m 33 ls []) := by
    intro n
    induction n with
    | zero =>
      intro rs0 rs1 v3_b33 v4_b33 v5_b33 H locs ls hfn hP hD hS hl
      exact absurd hfn (by intro h; cases h)
    | succ n ih =>
      intro rs0 rs1 v3_b33 v4_b33 v5_b33 H locs ls hfn hP hD hS hl
      unfold of_Md_several_9_b33 at hfn
      refine lv_iload hx hb dMd_several_33 (lv_at hl 5 rfl) ?_
      refine lv_iload_n hx hb dMd_several_35 rfl (lv_at hl 2 rfl) ?_
      refine lv_icmp_ge (tgt := 84) hx hb dMd_several_36 (by decide) (fun c_3 => ?_) (fun c_3 => ?_)
      · rw [if_pos c_3] at hfn
        refine lv_iload_n hx hb dMd_several_84 rfl (lv_at hl 3 rfl) ?_
        replace hfn := Option.some.inj hfn
        obtain ⟨e9, hf_0⟩ := Prod.mk.inj hfn; clear hfn; subst e9
        subst hf_0
        exact W.iret hx hb hr (fun t ht hW => ⟨⟨_, _, rfl, ⟨rfl, rfl⟩, ⟨by rw [ht]; exact hP.sub [0] rfl, va_K.moved hW.alike hK, hD.sub [0] (by decide) rfl⟩⟩, hS.F ht⟩) hS.2.2 dMd_several_85
      · rw [if_neg c_3] at hfn
        refine lv_aload_n hx hb dMd_several_39 rfl (lv_at hl 0 rfl) ?_
        refine lv_iload_n hx hb dMd_several_40 rfl (lv_at hl 1 rfl) ?_
        refine lv_iconst (v := 4) hx hb dMd_several_41 (by decide) ?_
        refine lv_iload hx hb dMd_several_42 (lv_at hl 5 rfl) ?_
        refine lv_imul hx hb dMd_several_44 ?_
        refine lv_iadd hx hb dMd_several_45 ?_
        refine lv_iload hx hb dMd_several_46 (lv_at hl 4 rfl) ?_
        obtain ⟨z_4, hz_4, hfn⟩ := ob hfn
        refine rd_V (As := [.int (pl + (4 * v5_b33)), .int v4_b33]) (rest := []) ⟨hx, hb, hml, hown, htg⟩ (c_Md_says_9 l dC dI cA o0 r_lastBit r_plain r_mixed r_chooser r_own r_ownCounter r_tag r_sum r_use r_weight r_loopTag r_length r_count r_trust r_waitPlace r_waitHistory r_waitSaid r_mark 0 mbt mrw mhs mco mey mu1 mu2 mu3 mu4 mwt mmk (pl + (4 * v5_b33)) v4_b33 z_4 hz_4) (cw_V htg wd_898 ws_18 qMd_says iMd_says kMd_says pMd_says rfl rfl ⟨Nat.le_of_ble_eq_true rfl, Nat.le_of_ble_eq_true rfl⟩) (va_recv hK hP (ci := 11) (q0 := 0) rfl rfl) hN (hP.sub [0] rfl) hK rfl hl.1 rfl (Nat.le_of_ble_eq_true rfl) dMd_several_48 ⟨Nat.le_of_ble_eq_true rfl, Nat.le_of_ble_eq_true rfl⟩ ?_
        refine lv_istore (lv' := [(6, .int (bI z_4)), (0, .ref o0), (1, .int pl), (2, .int ct0), (3, .int v3_b33), (4, .int v4_b33), (5, .int v5_b33)]) hx hb dMd_several_51 hl (by decide) rfl (fun ls hl => ?_)
        refine lv_iload hx hb dMd_several_53 (lv_at hl 0 rfl) ?_
        refine lv_if_eq (tgt := 67) hx hb dMd_several_55 (by decide) (fun c_5 => ?_) (fun c_5 => ?_)
        · rw [if_pos c_5] at hfn
          refine lv_iload_n hx hb dMd_several_67 rfl (lv_at hl 4 rfl) ?_
          refine lv_istore_n (lv' := [(3, .int v3_b33), (6, .int (bI z_4)), (0, .ref o0), (1, .int pl), (2, .int ct0), (4, .int v4_b33), (5, .int v5_b33)]) hx hb dMd_several_68 rfl hl (by decide) rfl (fun ls hl => ?_)
          refine lv_iload hx hb dMd_several_69 (lv_at hl 5 rfl) ?_
          refine lv_iload hx hb dMd_several_71 (lv_at hl 1 rfl) ?_
          refine rd_S (As := [.int v4_b33, .int (bI z_4)]) (rest := []) ⟨hx, hb, hml, hown, htg⟩ (c_Md_behind l dC dI cA v4_b33 z_4) (cw_S htg wd_951 qMd_behind iMd_behind kMd_behind pMd_behind rfl rfl ⟨Nat.le_of_ble_eq_true rfl, Nat.le_of_ble_eq_true rfl⟩) hN (hP.sub [] rfl) hK rfl hl.1 rfl (Nat.le_of_ble_eq_true rfl) dMd_several_73 ⟨Nat.le_of_ble_eq_true rfl, Nat.le_of_ble_eq_true rfl⟩ ?_
          refine lv_istore (lv' := [(4, .int (tf_Md_behind v4_b33 z_4)), (3, .int v3_b33), (6, .int (bI z_4)), (0, .ref o0), (1, .int pl), (2, .int ct0), (5, .int v5_b33)]) hx hb dMd_several_76 hl (by decide) rfl (fun ls hl => ?_)
          refine lv_iinc (v := (v5_b33 + 1)) (lv' := [(5, .int (v5_b33 + 1)), (4, .int (tf_Md_behind v4_b33 z_4)), (3, .int v3_b33), (6, .int (bI z_4)), (0, .ref o0), (1, .int pl), (2, .int ct0)]) hx hb dMd_several_78 hl (k := 6) rfl rfl (by decide) rfl (fun ls hl => ?_)
          refine lv_goto (tgt := 33) hx hb dMd_several_81 (by decide) ?_
          exact ih _ _ v3_b33 (tf_Md_behind v4_b33 z_4) (v5_b33 + 1) _ _ ls hfn (hP.sub [0] rfl) (hD.sub [0] (by decide) rfl) hS (lv_sub hl [4, 5, 6, 2, 1, 0] rfl)
        · rw [if_neg c_5] at hfn
          refine lv_iload_n hx hb dMd_several_58 rfl (lv_at hl 4 rfl) ?_
          refine lv_iconst (v := 1) hx hb dMd_several_59 (by decide) ?_
          refine lv_iload hx hb dMd_several_60 (lv_at hl 6 rfl) ?_
          refine lv_ishl hx hb dMd_several_62 ?_
          refine lv_ior hx hb dMd_several_63 ?_
          refine lv_goto (tgt := 68) hx hb dMd_several_64 (by decide) ?_
          refine lv_istore_n (lv' := [(3, .int (v3_b33 ||| ((1 : Int32) <<< (v5_b33 &&& 31)))), (6, .int (bI z_4)), (0, .ref o0), (1, .int pl), (2, .int ct0), (4, .int v4_b33), (5, .int v5_b33)]) hx hb dMd_several_68 rfl hl (by decide) rfl (fun ls hl => ?_)
          refine lv_iload hx hb dMd_several_69 (lv_at hl 5 rfl) ?_
          refine lv_iload hx hb dMd_several_71 (lv_at hl 1 rfl) ?_
          refine rd_S (As := [.int v4_b33, .int (bI z_4)]) (rest := []) ⟨hx, hb, hml, hown, htg⟩ (c_Md_behind l dC dI cA v4_b33 z_4) (cw_S htg wd_951 qMd_behind iMd_behind kMd_behind pMd_behind rfl rfl ⟨Nat.le_of_ble_eq_true rfl, Nat.le_of_ble_eq_true rfl⟩) hN (hP.sub [] rfl) hK rfl hl.1 rfl (Nat.le_of_ble_eq_true rfl) dMd_several_73 ⟨Nat.le_of_ble_eq_true rfl, Nat.le_of_ble_eq_true rfl⟩ ?_
          refine lv_istore (lv' := [(4, .int (tf_Md_behind v4_b33 z_4)), (3, .int (v3_b33 ||| ((1 : Int32) <<< (v5_b33 &&& 31)))), (6, .int (bI z_4)), (0, .ref o0), (1, .int pl), (2, .int ct0), (5, .int v5_b33)]) hx hb dMd_several_76 hl (by decide) rfl (fun ls hl => ?_)
          refine lv_iinc (v := (v5_b33 + 1)) (lv' := [(5, .int (v5_b33 + 1)), (4, .int (tf_Md_behind v4_b33 z_4)), (3, .int (v3_b33 ||| ((1 : Int32) <<< (v5_b33 &&& 31)))), (6, .int (bI z_4)), (0, .ref o0), (1, .int pl), (2, .int ct0)]) hx hb dMd_several_78 hl (k := 6) rfl rfl (by decide) rfl (fun ls hl => ?_)
          refine lv_goto (tgt := 33) hx hb dMd_several_81 (by decide) ?_
          exact ih _ _ (v3_b33 ||| ((1 : Int32) <<< (v5_b33 &&& 31))) (tf_Md_behind v4_b33 z_4) (v5_b33 + 1) _ _ ls hfn (hP.sub [0] rfl) (hD.sub [0] (by decide) rfl) hS (lv_sub hl [4, 5, 6, 2, 1, 0] rfl)
  have blk16 : ∀ (rs0 : Int32) (rs1 : Int32) (H : Heap) (locs : List Loc) (ls : Array Slot), of_Md_several_9_b16 = some (rs0, rs1) → va_P (dC, dI) vwCl [(o0, .inr (11, [.int 0, .int 9, .int mbt, .int mrw, .int mhs, .int mco, .int (bI mey), .int mu1, .int mu2, .int mu3, .int mu4, .ref r_lastBit, .ref r_plain, .ref r_mixed, .ref r_chooser, .ref r_own, .ref r_ownCounter, .ref r_tag, .ref r_sum, .ref r_use, .ref r_weight, .ref r_loopTag, .ref r_length, .ref r_count, .ref r_trust, .int mwt, .ref r_waitPlace, .ref r_waitHistory, .ref r_waitSaid, .int mmk, .ref r_mark]))] H → va_D A [(o0, .inr (11, [.int 0, .int 9, .int mbt, .int mrw, .int mhs, .int mco, .int (bI mey), .int mu1, .int mu2, .int mu3, .int mu4, .ref r_lastBit, .ref r_plain, .ref r_mixed, .ref r_chooser, .ref r_own, .ref r_ownCounter, .ref r_tag, .ref r_sum, .ref r_use, .ref r_weight, .ref r_loopTag, .ref r_length, .ref r_count, .ref r_trust, .int mwt, .ref r_waitPlace, .ref r_waitHistory, .ref r_waitSaid, .int mmk, .ref r_mark]))] → va_S A s.heap H locs → lv_has ls 7 [(0, .ref o0)] → W p l e (headSpec wMd_several ({ frames := 3, cells := 0, slots := 0, locals := 65 })).room s m ([.ref o0, .int pl, .int ct0] : List Value).toArray below meth c H locs 0 0 (MQ below (va_Qi (fun r9 w9 => r9 = rs0 ∧ w9 = [(o0, .inr (11, [.int rs1, .int 9, .int mbt, .int mrw, .int mhs, .int mco, .int (bI mey), .int mu1, .int mu2, .int mu3, .int mu4, .ref r_lastBit, .ref r_plain, .ref r_mixed, .ref r_chooser, .ref r_own, .ref r_ownCounter, .ref r_tag, .ref r_sum, .ref r_use, .ref r_weight, .ref r_loopTag, .ref r_length, .ref r_count, .ref r_trust, .int mwt, .ref r_waitPlace, .ref r_waitHistory, .ref r_waitSaid, .int mmk, .ref r_mark]))]) (At (dC, dI) cA A) A) ([.ref o0, .int pl, .int ct0] : List Value).toArray s 0 0 A) (F0 m 16 ls []) := by
    intro rs0 rs1 H locs ls hfn hP hD hS hl
    unfold of_Md_several_9_b16 at hfn
    refine lv_aload_n hx hb dMd_several_16 rfl (lv_at hl 0 rfl) ?_
    refine lv_iconst (v := 1) hx hb dMd_several_17 (by decide) ?_
    refine wr_Vi (wr := []) (As := [.int 1]) (rest := []) ⟨hx, hb, hml, hown, htg⟩ (c_Md_fail l dC dI cA _ o0 r_lastBit r_plain r_mixed r_chooser r_own r_ownCounter r_tag r_sum r_use r_weight r_loopTag r_length r_count r_trust r_waitPlace r_waitHistory r_waitSaid r_mark 0 9 mbt mrw mhs mco mey mu1 mu2 mu3 mu4 mwt mmk 1) (cw_V htg wd_1002 ws_36 qMd_fail iMd_fail kMd_fail pMd_fail rfl rfl ⟨Nat.le_of_ble_eq_true rfl, Nat.le_of_ble_eq_true rfl⟩) (va_recv hK hP (ci := 11) (q0 := 0) rfl rfl) hN hP hD hS hA hK [0] [] rfl rfl (by decide) (by decide) (by decide) rfl hl.1 rfl (Nat.le_of_ble_eq_true rfl) dMd_several_18 ⟨Nat.le_of_ble_eq_true rfl, Nat.le_of_ble_eq_true rfl⟩ (fun H locs hP hD hS => ?_)
    have hP : va_P (dC, dI) vwCl [(o0, .inr (11, [.int ((tf_Md_fail 1).2), .int 9, .int mbt, .int mrw, .int mhs, .int mco, .int (bI mey), .int mu1, .int mu2, .int mu3, .int mu4, .ref r_lastBit, .ref r_plain, .ref r_mixed, .ref r_chooser, .ref r_own, .ref r_ownCounter, .ref r_tag, .ref r_sum, .ref r_use, .ref r_weight, .ref r_loopTag, .ref r_length, .ref r_count, .ref r_trust, .int mwt, .ref r_waitPlace, .ref r_waitHistory, .ref r_waitSaid, .int mmk, .ref r_mark]))] H := hP
    have hD : va_D A [(o0, .inr (11, [.int ((tf_Md_fail 1).2), .int 9, .int mbt, .int mrw, .int mhs, .int mco, .int (bI mey), .int mu1, .int mu2, .int mu3, .int mu4, .ref r_lastBit, .ref r_plain, .ref r_mixed, .ref r_chooser, .ref r_own, .ref r_ownCounter, .ref r_tag, .ref r_sum, .ref r_use, .ref r_weight, .ref r_loopTag, .ref r_length, .ref r_count, .ref r_trust, .int mwt, .ref r_waitPlace, .ref r_waitHistory, .ref r_waitSaid, .int mmk, .ref r_mark]))] := hD
    replace hfn := Option.some.inj hfn
    obtain ⟨e9, hf_0⟩ := Prod.mk.inj hfn; clear hfn; subst e9
    subst hf_0
    exact W.iret hx hb hr (fun t ht hW => ⟨⟨_, _, rfl, ⟨rfl, rfl⟩, ⟨by rw [ht]; exact hP.sub [0] rfl, va_K.moved hW.alike hK, hD.sub [0] (by decide) rfl⟩⟩, hS.F ht⟩) hS.2.2 dMd_several_21
  have hl := lv_entry ([.ref o0, .int pl, .int ct0]) (n := 7) (Nat.le_of_ble_eq_true rfl)
  rw [lg_entry_eq]
  generalize (lg_sl ([.ref o0, .int pl, .int ct0]) ++ List.replicate (7 - (lg_sl ([.ref o0, .int pl, .int ct0])).length) Slot.unset).toArray = ls at hl ⊢
  have hl : lv_has ls 7 [(0, .ref o0), (1, .int pl), (2, .int ct0)] := hl
  unfold of_Md_several_9 at hfn
  refine lv_aload_n hx hb dMd_several_0 rfl (lv_at hl 0 rfl) ?_
  refine lv_iconst (v := 0) hx hb dMd_several_1 (by decide) ?_
  refine va_put (D := (dC, dI)) (ci := 11) (v := .int 0) (ty := .int) (C := R_Md) (T := T_Md) (N := 31) hx hb htg in_Md ty_Md tk_Md nm_Md hown hK hP hD hS 0 rfl rfl 0 (by decide) (htg _ wd_795) (fun _ h9 => h9) rfl (by decide +kernel) rfl rfl (Nat.le_of_ble_eq_true rfl) dMd_several_2 (fun H locs hP hD hS => ?_)
  have hP : va_P (dC, dI) vwCl [(o0, .inr (11, [.int 0, .int 9, .int mbt, .int mrw, .int mhs, .int mco, .int (bI mey), .int mu1, .int mu2, .int mu3, .int mu4, .ref r_lastBit, .ref r_plain, .ref r_mixed, .ref r_chooser, .ref r_own, .ref r_ownCounter, .ref r_tag, .ref r_sum, .ref r_use, .ref r_weight, .ref r_loopTag, .ref r_length, .ref r_count, .ref r_trust, .int mwt, .ref r_waitPlace, .ref r_waitHistory, .ref r_waitSaid, .int mmk, .ref r_mark]))] H := hP
  have hD : va_D A [(o0, .inr (11, [.int 0, .int 9, .int mbt, .int mrw, .int mhs, .int mco, .int (bI mey), .int mu1, .int mu2, .int mu3, .int mu4, .ref r_lastBit, .ref r_plain, .ref r_mixed, .ref r_chooser, .ref r_own, .ref r_ownCounter, .ref r_tag, .ref r_sum, .ref r_use, .ref r_weight, .ref r_loopTag, .ref r_length, .ref r_count, .ref r_trust, .int mwt, .ref r_waitPlace, .ref r_waitHistory, .ref r_waitSaid, .int mmk, .ref r_mark]))] := hD
  refine lv_iload_n hx hb dMd_several_5 rfl (lv_at hl 2 rfl) ?_
  refine lv_iconst (v := 1) hx hb dMd_several_6 (by decide) ?_
  refine lv_icmp_lt (tgt := 16) hx hb dMd_several_7 (by decide) (fun c_1 => ?_) (fun c_1 => ?_)
  · rw [if_pos c_1] at hfn
    exact blk16 _ _ _ _ ls hfn (hP.sub [0] rfl) (hD.sub [0] (by decide) rfl) hS (lv_sub hl [0] rfl)
  · rw [if_neg c_1] at hfn
    refine lv_iload_n hx hb dMd_several_10 rfl (lv_at hl 2 rfl) ?_
    refine lv_bipush (v := 16) hx hb dMd_several_11 (by decide) ?_
    refine lv_icmp_le (tgt := 22) hx hb dMd_several_13 (by decide) (fun c_2 => ?_) (fun c_2 => ?_)
    · rw [if_pos c_2] at hfn
      refine lv_iconst (v := 0) hx hb dMd_several_22 (by decide) ?_
      refine lv_istore_n (lv' := [(3, .int 0), (0, .ref o0), (1, .int pl), (2, .int ct0)]) hx hb dMd_several_23 rfl hl (by decide) rfl (fun ls hl => ?_)
      refine lv_aload_n hx hb dMd_several_24 rfl (lv_at hl 1 rfl) ?_
      refine va_get (D := (dC, dI)) (ci := 11) (v := .int mhs) (C := R_Md) (T := T_Md) (N := 31) hx hb htg in_Md hown hK hP 0 rfl rfl 4 (by decide) (htg _ wd_799) (fun _ h9 => h9) rfl dMd_several_25 ?_
      refine lv_istore (lv' := [(4, .int mhs), (3, .int 0), (0, .ref o0), (1, .int pl), (2, .int ct0)]) hx hb dMd_several_28 hl (by decide) rfl (fun ls hl => ?_)
      refine lv_iconst (v := 0) hx hb dMd_several_30 (by decide) ?_
      refine lv_istore (lv' := [(5, .int 0), (4, .int mhs), (3, .int 0), (0, .ref o0), (1, .int pl), (2, .int ct0)]) hx hb dMd_several_31 hl (by decide) rfl (fun ls hl => ?_)
      exact blk33 4096 _ _ 0 mhs 0 _ _ ls hfn (hP.sub [0] rfl) (hD.sub [0] (by decide) rfl) hS (lv_sub hl [3, 4, 5, 2, 1, 0] rfl)
    · rw [if_neg c_2] at hfn
      exact blk16 _ _ _ _ ls hfn (hP.sub [0] rfl) (hD.sub [0] (by decide) rfl) hS (lv_sub hl [0] rfl)
