def tf_Chooser_takesMixed (zs0 : Int32) (mk0 : Int32) (n3 : Nat) (f3 : Nat → Int32) (pl : Int32) : Bool := (if (tf_PK_at n3 f3 (tf_Chooser_plainRow zs0 mk0 pl)) < 2 then (false) else (true))
set_option maxHeartbeats 4000000 in
set_option maxRecDepth 100000 in
theorem c_Chooser_takesMixed (l : Launch) (dC : Nat → ClassId) (dI : Nat → Nat → Nat) (cA : ClassId × ClassId × ClassId) (h0 : Nat) (b1 : Nat) (a1 : Nat) (b2 : Nat) (a2 : Nat) (a3 : Nat) (zs0 : Int32) (rw0 : Int32) (mk0 : Int32) (n1 : Nat) (f1 : Nat → Int32) (n2 : Nat) (f2 : Nat → Int32) (n3 : Nat) (f3 : Nat → Int32) (pl : Int32) (hn1 : n1 < 2147483648) (hn2 : n2 < 2147483648) (hn3 : n3 < 2147483648) : Met l yChooser_takesMixed wChooser_takesMixed ({ frames := 1, cells := 0, slots := 0, locals := 21 }) (va_Pc [.ref h0, .int pl] (Rd (dC, dI) cA [(h0, .inr (1, [.int zs0, .int rw0, .int mk0, .ref b1, .ref b2, .ref a3])), (b1, .inr (3, [.int zs0, .int rw0, .int mk0, .int (bI false), .ref a1])), (a1, .inl (cA.1, n1, .inl f1)), (b2, .inr (3, [.int zs0, .int rw0, .int mk0, .int (bI true), .ref a2])), (a2, .inl (cA.1, n2, .inl f2)), (a3, .inl (cA.1, n3, .inl f3))])) (QcRead (bI (tf_Chooser_takesMixed zs0 mk0 n3 f3 pl))) 0 0 (fun _ => False) := by
  refine Met.ofW (cc := cChooser_takesMixed) (maxL := 2) (ret := (some .boolean)) (by decide) rfl ?_
  intro p e s m args below meth c s₁ B hml hv
  obtain ⟨rfl, hN, hP, hK⟩ := hv
  have hx := B.exec
  have hb := B.bytes
  have hr := B.returns
  have hts := atoms_spec (ws := wChooser_takesMixed) B.pre
  have htg : ∀ w ∈ GW, w.before _ s = true := fun w h => hts w (List.mem_cons_of_mem _ h)
  have hown : s.vm.findClass R_Chooser = some m.cls := findClass_of_methodNamed B.named
  have hlocks := B.notSynchronized
  obtain ⟨rs, hfn⟩ : ∃ rs, (tf_Chooser_takesMixed zs0 mk0 n3 f3 pl) = rs := ⟨_, rfl⟩
  try rw [hfn]
  have hl := lv_entry ([.ref h0, .int pl]) (n := 2) (Nat.le_of_ble_eq_true rfl)
  rw [lg_entry_eq]
  generalize (lg_sl ([.ref h0, .int pl]) ++ List.replicate (2 - (lg_sl ([.ref h0, .int pl])).length) Slot.unset).toArray = ls at hl ⊢
  have hl : lv_has ls 2 [(0, .ref h0), (1, .int pl)] := hl
  unfold tf_Chooser_takesMixed at hfn
  refine lv_aload_n hx hb dChooser_takesMixed_0 rfl (lv_at hl 0 rfl) ?_
  refine va_get (D := (dC, dI)) (ci := 1) (v := .ref a3) (C := R_Chooser) (T := T_Chooser) (N := 6) hx hb htg in_Chooser hown hK hP 0 rfl rfl 5 (by decide) (htg _ wd_140) (fun _ h9 => h9) rfl dChooser_takesMixed_1 ?_
  refine lv_aload_n hx hb dChooser_takesMixed_4 rfl (lv_at hl 0 rfl) ?_
  refine lv_iload_n hx hb dChooser_takesMixed_5 rfl (lv_at hl 1 rfl) ?_
  refine rd_U (As := [.int pl]) (rest := [.ref a3]) ⟨hx, hb, hml, hown, htg⟩ (c_Chooser_plainRow l dC dI cA h0 b1 a1 b2 a2 a3 zs0 rw0 mk0 n1 f1 n2 f2 n3 f3 pl hn1 hn2 hn3) (cw_U (n := 1) htg wd_316 wd_317 wd_319 qKind_plainRow iKind_plainRow kKind_plainRow (va_Decl.abs (hN _ wn_318)) (by decide +kernel) (by decide +kernel) rfl rfl ⟨Nat.le_of_ble_eq_true rfl, Nat.le_of_ble_eq_true rfl⟩) (va_recv hK hP (ci := 1) (q0 := 0) rfl rfl) hN (hP.sub [0, 1, 2, 3, 4, 5] rfl) hK rfl hl.1 rfl (Nat.le_of_ble_eq_true rfl) dChooser_takesMixed_6 ⟨Nat.le_of_ble_eq_true rfl, Nat.le_of_ble_eq_true rfl⟩ ?_
  refine rd_SN (As := [.ref a3, .int (tf_Chooser_plainRow zs0 mk0 pl)]) (rest := []) ⟨hx, hb, hml, hown, htg⟩ (c_PK_at l dC dI cA a3 n3 f3 (tf_Chooser_plainRow zs0 mk0 pl) hn3) (cw_SN htg hN wn_322 qPK_at iPK_at kPK_at pPK_at rfl rfl ⟨Nat.le_of_ble_eq_true rfl, Nat.le_of_ble_eq_true rfl⟩) hN (hP.sub [5] rfl) hK rfl hl.1 rfl (Nat.le_of_ble_eq_true rfl) dChooser_takesMixed_9 ⟨Nat.le_of_ble_eq_true rfl, Nat.le_of_ble_eq_true rfl⟩ ?_
  refine lv_iconst (v := 2) hx hb dChooser_takesMixed_12 (by decide) ?_
  refine lv_icmp_lt (tgt := 20) hx hb dChooser_takesMixed_13 (by decide) (fun c_1 => ?_) (fun c_1 => ?_)
  · rw [if_pos c_1] at hfn
    refine lv_iconst (v := 0) hx hb dChooser_takesMixed_20 (by decide) ?_
    subst hfn
    exact W.zret hx hb hr rfl (fun t ht hW => ⟨rfl, ht⟩) (fun _ h => by cases h) dChooser_takesMixed_21
  · rw [if_neg c_1] at hfn
    refine lv_iconst (v := 1) hx hb dChooser_takesMixed_16 (by decide) ?_
    refine lv_goto (tgt := 21) hx hb dChooser_takesMixed_17 (by decide) ?_
    subst hfn
    exact W.zret hx hb hr rfl (fun t ht hW => ⟨rfl, ht⟩) (fun _ h => by cases h) dChooser_takesMixed_21
def tf_Chooser_number (zs0 : Int32) (mk0 : Int32) (n3 : Nat) (f3 : Nat → Int32) (pl : Int32) : Int32 := ((tf_PK_at n3 f3 (tf_Chooser_plainRow zs0 mk0 pl)))
set_option maxHeartbeats 4000000 in
set_option maxRecDepth 100000 in
theorem c_Chooser_number (l : Launch) (dC : Nat → ClassId) (dI : Nat → Nat → Nat) (cA : ClassId × ClassId × ClassId) (h0 : Nat) (b1 : Nat) (a1 : Nat) (b2 : Nat) (a2 : Nat) (a3 : Nat) (zs0 : Int32) (rw0 : Int32) (mk0 : Int32) (n1 : Nat) (f1 : Nat → Int32) (n2 : Nat) (f2 : Nat → Int32) (n3 : Nat) (f3 : Nat → Int32) (pl : Int32) (hs : Int32) (hn1 : n1 < 2147483648) (hn2 : n2 < 2147483648) (hn3 : n3 < 2147483648) : Met l yChooser_number wChooser_number ({ frames := 1, cells := 0, slots := 0, locals := 21 }) (va_Pc [.ref h0, .int pl, .int hs] (Rd (dC, dI) cA [(h0, .inr (1, [.int zs0, .int rw0, .int mk0, .ref b1, .ref b2, .ref a3])), (b1, .inr (3, [.int zs0, .int rw0, .int mk0, .int (bI false), .ref a1])), (a1, .inl (cA.1, n1, .inl f1)), (b2, .inr (3, [.int zs0, .int rw0, .int mk0, .int (bI true), .ref a2])), (a2, .inl (cA.1, n2, .inl f2)), (a3, .inl (cA.1, n3, .inl f3))])) (QcRead (tf_Chooser_number zs0 mk0 n3 f3 pl)) 0 0 (fun _ => False) := by
  refine Met.ofW (cc := cChooser_number) (maxL := 3) (ret := (some .int)) (by decide) rfl ?_
  intro p e s m args below meth c s₁ B hml hv
  obtain ⟨rfl, hN, hP, hK⟩ := hv
  have hx := B.exec
  have hb := B.bytes
  have hr := B.returns
  have hts := atoms_spec (ws := wChooser_number) B.pre
  have htg : ∀ w ∈ GW, w.before _ s = true := fun w h => hts w (List.mem_cons_of_mem _ h)
  have hown : s.vm.findClass R_Chooser = some m.cls := findClass_of_methodNamed B.named
  have hlocks := B.notSynchronized
  obtain ⟨rs, hfn⟩ : ∃ rs, (tf_Chooser_number zs0 mk0 n3 f3 pl) = rs := ⟨_, rfl⟩
  try rw [hfn]
  have hl := lv_entry ([.ref h0, .int pl, .int hs]) (n := 3) (Nat.le_of_ble_eq_true rfl)
  rw [lg_entry_eq]
  generalize (lg_sl ([.ref h0, .int pl, .int hs]) ++ List.replicate (3 - (lg_sl ([.ref h0, .int pl, .int hs])).length) Slot.unset).toArray = ls at hl ⊢
  have hl : lv_has ls 3 [(0, .ref h0), (1, .int pl), (2, .int hs)] := hl
  unfold tf_Chooser_number at hfn
  refine lv_aload_n hx hb dChooser_number_0 rfl (lv_at hl 0 rfl) ?_
  refine va_get (D := (dC, dI)) (ci := 1) (v := .ref a3) (C := R_Chooser) (T := T_Chooser) (N := 6) hx hb htg in_Chooser hown hK hP 0 rfl rfl 5 (by decide) (htg _ wd_140) (fun _ h9 => h9) rfl dChooser_number_1 ?_
  refine lv_aload_n hx hb dChooser_number_4 rfl (lv_at hl 0 rfl) ?_
  refine lv_iload_n hx hb dChooser_number_5 rfl (lv_at hl 1 rfl) ?_
  refine rd_U (As := [.int pl]) (rest := [.ref a3]) ⟨hx, hb, hml, hown, htg⟩ (c_Chooser_plainRow l dC dI cA h0 b1 a1 b2 a2 a3 zs0 rw0 mk0 n1 f1 n2 f2 n3 f3 pl hn1 hn2 hn3) (cw_U (n := 1) htg wd_316 wd_317 wd_319 qKind_plainRow iKind_plainRow kKind_plainRow (va_Decl.abs (hN _ wn_318)) (by decide +kernel) (by decide +kernel) rfl rfl ⟨Nat.le_of_ble_eq_true rfl, Nat.le_of_ble_eq_true rfl⟩) (va_recv hK hP (ci := 1) (q0 := 0) rfl rfl) hN (hP.sub [0, 1, 2, 3, 4, 5] rfl) hK rfl hl.1 rfl (Nat.le_of_ble_eq_true rfl) dChooser_number_6 ⟨Nat.le_of_ble_eq_true rfl, Nat.le_of_ble_eq_true rfl⟩ ?_
  refine rd_SN (As := [.ref a3, .int (tf_Chooser_plainRow zs0 mk0 pl)]) (rest := []) ⟨hx, hb, hml, hown, htg⟩ (c_PK_at l dC dI cA a3 n3 f3 (tf_Chooser_plainRow zs0 mk0 pl) hn3) (cw_SN htg hN wn_322 qPK_at iPK_at kPK_at pPK_at rfl rfl ⟨Nat.le_of_ble_eq_true rfl, Nat.le_of_ble_eq_true rfl⟩) hN (hP.sub [5] rfl) hK rfl hl.1 rfl (Nat.le_of_ble_eq_true rfl) dChooser_number_9 ⟨Nat.le_of_ble_eq_true rfl, Nat.le_of_ble_eq_true rfl⟩ ?_
  subst hfn
  exact W.iret hx hb hr (fun t ht hW => ⟨rfl, ht⟩) (fun _ h => by cases h) dChooser_number_12
def tf_Chooser_says (zs0 : Int32) (mk0 : Int32) (n1 : Nat) (f1 : Nat → Int32) (n2 : Nat) (f2 : Nat → Int32) (n3 : Nat) (f3 : Nat → Int32) (pl : Int32) (hs : Int32) : Bool := (if (bI (tf_Chooser_takesMixed zs0 mk0 n3 f3 pl)) = 0 then ((tf_Counters_says zs0 mk0 false n1 f1 pl hs)) else ((tf_Counters_says zs0 mk0 true n2 f2 pl hs)))
set_option maxHeartbeats 4000000 in
set_option maxRecDepth 100000 in
theorem c_Chooser_says (l : Launch) (dC : Nat → ClassId) (dI : Nat → Nat → Nat) (cA : ClassId × ClassId × ClassId) (h0 : Nat) (b1 : Nat) (a1 : Nat) (b2 : Nat) (a2 : Nat) (a3 : Nat) (zs0 : Int32) (rw0 : Int32) (mk0 : Int32) (n1 : Nat) (f1 : Nat → Int32) (n2 : Nat) (f2 : Nat → Int32) (n3 : Nat) (f3 : Nat → Int32) (pl : Int32) (hs : Int32) (hn1 : n1 < 2147483648) (hn2 : n2 < 2147483648) (hn3 : n3 < 2147483648) : Met l yChooser_says wChooser_says ({ frames := 3, cells := 0, slots := 0, locals := 65 }) (va_Pc [.ref h0, .int pl, .int hs] (Rd (dC, dI) cA [(h0, .inr (1, [.int zs0, .int rw0, .int mk0, .ref b1, .ref b2, .ref a3])), (b1, .inr (3, [.int zs0, .int rw0, .int mk0, .int (bI false), .ref a1])), (a1, .inl (cA.1, n1, .inl f1)), (b2, .inr (3, [.int zs0, .int rw0, .int mk0, .int (bI true), .ref a2])), (a2, .inl (cA.1, n2, .inl f2)), (a3, .inl (cA.1, n3, .inl f3))])) (QcRead (bI (tf_Chooser_says zs0 mk0 n1 f1 n2 f2 n3 f3 pl hs))) 0 0 (fun _ => False) := by
  refine Met.ofW (cc := cChooser_says) (maxL := 3) (ret := (some .boolean)) (by decide) rfl ?_
  intro p e s m args below meth c s₁ B hml hv
  obtain ⟨rfl, hN, hP, hK⟩ := hv
  have hx := B.exec
  have hb := B.bytes
  have hr := B.returns
  have hts := atoms_spec (ws := wChooser_says) B.pre
  have htg : ∀ w ∈ GW, w.before _ s = true := fun w h => hts w (List.mem_cons_of_mem _ h)
  have hown : s.vm.findClass R_Chooser = some m.cls := findClass_of_methodNamed B.named
  have hlocks := B.notSynchronized
  obtain ⟨rs, hfn⟩ : ∃ rs, (tf_Chooser_says zs0 mk0 n1 f1 n2 f2 n3 f3 pl hs) = rs := ⟨_, rfl⟩
  try rw [hfn]
  have hl := lv_entry ([.ref h0, .int pl, .int hs]) (n := 3) (Nat.le_of_ble_eq_true rfl)
  rw [lg_entry_eq]
  generalize (lg_sl ([.ref h0, .int pl, .int hs]) ++ List.replicate (3 - (lg_sl ([.ref h0, .int pl, .int hs])).length) Slot.unset).toArray = ls at hl ⊢
  have hl : lv_has ls 3 [(0, .ref h0), (1, .int pl), (2, .int hs)] := hl
  unfold tf_Chooser_says at hfn
  refine lv_aload_n hx hb dChooser_says_0 rfl (lv_at hl 0 rfl) ?_
  refine lv_iload_n hx hb dChooser_says_1 rfl (lv_at hl 1 rfl) ?_
  refine rd_V (As := [.int pl]) (rest := []) ⟨hx, hb, hml, hown, htg⟩ (c_Chooser_takesMixed l dC dI cA h0 b1 a1 b2 a2 a3 zs0 rw0 mk0 n1 f1 n2 f2 n3 f3 pl hn1 hn2 hn3) (cw_V htg wd_312 ws_0 qChooser_takesMixed iChooser_takesMixed kChooser_takesMixed pChooser_takesMixed rfl rfl ⟨Nat.le_of_ble_eq_true rfl, Nat.le_of_ble_eq_true rfl⟩) (va_recv hK hP (ci := 1) (q0 := 0) rfl rfl) hN (hP.sub [0, 1, 2, 3, 4, 5] rfl) hK rfl hl.1 rfl (Nat.le_of_ble_eq_true rfl) dChooser_says_2 ⟨Nat.le_of_ble_eq_true rfl, Nat.le_of_ble_eq_true rfl⟩ ?_
  refine lv_if_eq (tgt := 20) hx hb dChooser_says_5 (by decide) (fun c_1 => ?_) (fun c_1 => ?_)
  · rw [if_pos c_1] at hfn
    refine lv_aload_n hx hb dChooser_says_20 rfl (lv_at hl 0 rfl) ?_
    refine va_get (D := (dC, dI)) (ci := 1) (v := .ref b1) (C := R_Chooser) (T := T_Chooser) (N := 6) hx hb htg in_Chooser hown hK hP 0 rfl rfl 3 (by decide) (htg _ wd_138) (fun _ h9 => h9) rfl dChooser_says_21 ?_
    refine lv_iload_n hx hb dChooser_says_24 rfl (lv_at hl 1 rfl) ?_
    refine lv_iload_n hx hb dChooser_says_25 rfl (lv_at hl 2 rfl) ?_
    refine rd_V (As := [.int pl, .int hs]) (rest := []) ⟨hx, hb, hml, hown, htg⟩ (c_Counters_says l dC dI cA b1 a1 zs0 rw0 mk0 false n1 f1 pl hs hn1) (cw_V htg wd_325 wd_327 qCounters_says iCounters_says kCounters_says pCounters_says rfl rfl ⟨Nat.le_of_ble_eq_true rfl, Nat.le_of_ble_eq_true rfl⟩) (va_recv hK hP (ci := 3) (q0 := 1) rfl rfl) hN (hP.sub [1, 2] rfl) hK rfl hl.1 rfl (Nat.le_of_ble_eq_true rfl) dChooser_says_26 ⟨Nat.le_of_ble_eq_true rfl, Nat.le_of_ble_eq_true rfl⟩ ?_
    subst hfn
    exact W.zret hx hb hr (nar_bI _) (fun t ht hW => ⟨rfl, ht⟩) (fun _ h => by cases h) dChooser_says_29
  · rw [if_neg c_1] at hfn
    refine lv_aload_n hx hb dChooser_says_8 rfl (lv_at hl 0 rfl) ?_
    refine va_get (D := (dC, dI)) (ci := 1) (v := .ref b2) (C := R_Chooser) (T := T_Chooser) (N := 6) hx hb htg in_Chooser hown hK hP 0 rfl rfl 4 (by decide) (htg _ wd_139) (fun _ h9 => h9) rfl dChooser_says_9 ?_
    refine lv_iload_n hx hb dChooser_says_12 rfl (lv_at hl 1 rfl) ?_
    refine lv_iload_n hx hb dChooser_says_13 rfl (lv_at hl 2 rfl) ?_
    refine rd_V (As := [.int pl, .int hs]) (rest := []) ⟨hx, hb, hml, hown, htg⟩ (c_Counters_says l dC dI cA b2 a2 zs0 rw0 mk0 true n2 f2 pl hs hn2) (cw_V htg wd_325 wd_327 qCounters_says iCounters_says kCounters_says pCounters_says rfl rfl ⟨Nat.le_of_ble_eq_true rfl, Nat.le_of_ble_eq_true rfl⟩) (va_recv hK hP (ci := 3) (q0 := 3) rfl rfl) hN (hP.sub [3, 4] rfl) hK rfl hl.1 rfl (Nat.le_of_ble_eq_true rfl) dChooser_says_14 ⟨Nat.le_of_ble_eq_true rfl, Nat.le_of_ble_eq_true rfl⟩ ?_
    refine lv_goto (tgt := 29) hx hb dChooser_says_17 (by decide) ?_
    subst hfn
    exact W.zret hx hb hr (nar_bI _) (fun t ht hW => ⟨rfl, ht⟩) (fun _ h => by cases h) dChooser_says_29
def tf_Chooser_learn_b61 (zs0 : Int32) (mk0 : Int32) (n1 : Nat) (f1 : Nat → Int32) (n2 : Nat) (f2 : Nat → Int32) (pl : Int32) (hs : Int32) (tk : Bool) (w_a3_a_b61 : Nat → Int32) : (Nat → Int32) × (Nat → Int32) × (Nat → Int32) := (((tf_Counters_learn zs0 mk0 false n1 f1 pl hs tk)), ((tf_Counters_learn zs0 mk0 true n2 f2 pl hs tk)), w_a3_a_b61)
def tf_Chooser_learn_b38 (zs0 : Int32) (mk0 : Int32) (n1 : Nat) (f1 : Nat → Int32) (n2 : Nat) (f2 : Nat → Int32) (n3 : Nat) (f3 : Nat → Int32) (pl : Int32) (hs : Int32) (tk : Bool) (v4_b38 : Bool) (s0_b38 : Bool) : (Nat → Int32) × (Nat → Int32) × (Nat → Int32) := (if (bI v4_b38) = (bI s0_b38) then tf_Chooser_learn_b61 zs0 mk0 n1 f1 n2 f2 pl hs tk f3 else tf_Chooser_learn_b61 zs0 mk0 n1 f1 n2 f2 pl hs tk ((tf_PK_stepCounter n3 f3 (tf_Chooser_plainRow zs0 mk0 pl) s0_b38)))
def tf_Chooser_learn_b18 (zs0 : Int32) (mk0 : Int32) (n1 : Nat) (f1 : Nat → Int32) (n2 : Nat) (f2 : Nat → Int32) (n3 : Nat) (f3 : Nat → Int32) (pl : Int32) (hs : Int32) (tk : Bool) (s0_b18 : Bool) : (Nat → Int32) × (Nat → Int32) × (Nat → Int32) := (if (bI (tf_Counters_says zs0 mk0 true n2 f2 pl hs)) = (bI tk) then tf_Chooser_learn_b38 zs0 mk0 n1 f1 n2 f2 n3 f3 pl hs tk s0_b18 true else tf_Chooser_learn_b38 zs0 mk0 n1 f1 n2 f2 n3 f3 pl hs tk s0_b18 false)
def tf_Chooser_learn (zs0 : Int32) (mk0 : Int32) (n1 : Nat) (f1 : Nat → Int32) (n2 : Nat) (f2 : Nat → Int32) (n3 : Nat) (f3 : Nat → Int32) (pl : Int32) (hs : Int32) (tk : Bool) : (Nat → Int32) × (Nat → Int32) × (Nat → Int32) := (if (bI (tf_Counters_says zs0 mk0 false n1 f1 pl hs)) = (bI tk) then tf_Chooser_learn_b18 zs0 mk0 n1 f1 n2 f2 n3 f3 pl hs tk true else tf_Chooser_learn_b18 zs0 mk0 n1 f1 n2 f2 n3 f3 pl hs tk false)
set_option maxHeartbeats 4000000 in
set_option maxRecDepth 100000 in
theorem c_Chooser_learn (l : Launch) (dC : Nat → ClassId) (dI : Nat → Nat → Nat) (cA : ClassId × ClassId × ClassId) (zz : Nat) (h0 : Nat) (b1 : Nat) (a1 : Nat) (b2 : Nat) (a2 : Nat) (a3 : Nat) (zs0 : Int32) (rw0 : Int32) (mk0 : Int32) (n1 : Nat) (f1 : Nat → Int32) (n2 : Nat) (f2 : Nat → Int32) (n3 : Nat) (f3 : Nat → Int32) (pl : Int32) (hs : Int32) (tk : Bool) (hn1 : n1 < 2147483648) (hn2 : n2 < 2147483648) (hn3 : n3 < 2147483648) : Met l yChooser_learn wChooser_learn ({ frames := 4, cells := 0, slots := 0, locals := 92 }) (va_Pc [.ref h0, .int pl, .int hs, .int (bI tk)] (Wr (dC, dI) cA zz [(h0, .inr (1, [.int zs0, .int rw0, .int mk0, .ref b1, .ref b2, .ref a3])), (b1, .inr (3, [.int zs0, .int rw0, .int mk0, .int (bI false), .ref a1])), (a1, .inl (cA.1, n1, .inl f1)), (b2, .inr (3, [.int zs0, .int rw0, .int mk0, .int (bI true), .ref a2])), (a2, .inl (cA.1, n2, .inl f2)), (a3, .inl (cA.1, n3, .inl f3))])) (va_Qv (fun w9 => w9 = [(h0, .inr (1, [.int zs0, .int rw0, .int mk0, .ref b1, .ref b2, .ref a3])), (b1, .inr (3, [.int zs0, .int rw0, .int mk0, .int (bI false), .ref a1])), (a1, .inl (cA.1, n1, .inl ((tf_Chooser_learn zs0 mk0 n1 f1 n2 f2 n3 f3 pl hs tk).1))), (b2, .inr (3, [.int zs0, .int rw0, .int mk0, .int (bI true), .ref a2])), (a2, .inl (cA.1, n2, .inl ((tf_Chooser_learn zs0 mk0 n1 f1 n2 f2 n3 f3 pl hs tk).2.1))), (a3, .inl (cA.1, n3, .inl ((tf_Chooser_learn zs0 mk0 n1 f1 n2 f2 n3 f3 pl hs tk).2.2)))]) (At (dC, dI) cA (va_A [(h0, .inr (1, [.int zs0, .int rw0, .int mk0, .ref b1, .ref b2, .ref a3])), (b1, .inr (3, [.int zs0, .int rw0, .int mk0, .int (bI false), .ref a1])), (a1, .inl (cA.1, n1, .inl f1)), (b2, .inr (3, [.int zs0, .int rw0, .int mk0, .int (bI true), .ref a2])), (a2, .inl (cA.1, n2, .inl f2)), (a3, .inl (cA.1, n3, .inl f3))] zz)) (va_A [(h0, .inr (1, [.int zs0, .int rw0, .int mk0, .ref b1, .ref b2, .ref a3])), (b1, .inr (3, [.int zs0, .int rw0, .int mk0, .int (bI false), .ref a1])), (a1, .inl (cA.1, n1, .inl f1)), (b2, .inr (3, [.int zs0, .int rw0, .int mk0, .int (bI true), .ref a2])), (a2, .inl (cA.1, n2, .inl f2)), (a3, .inl (cA.1, n3, .inl f3))] zz)) 0 0 (va_A [(h0, .inr (1, [.int zs0, .int rw0, .int mk0, .ref b1, .ref b2, .ref a3])), (b1, .inr (3, [.int zs0, .int rw0, .int mk0, .int (bI false), .ref a1])), (a1, .inl (cA.1, n1, .inl f1)), (b2, .inr (3, [.int zs0, .int rw0, .int mk0, .int (bI true), .ref a2])), (a2, .inl (cA.1, n2, .inl f2)), (a3, .inl (cA.1, n3, .inl f3))] zz) := by
  refine Met.ofW (cc := cChooser_learn) (maxL := 6) (ret := none) (by decide) rfl ?_
  intro p e s m args below meth c s₁ B hml hv
  obtain ⟨rfl, hsz, hN, hP, hK, hD0⟩ := hv
  have hx := B.exec
  have hb := B.bytes
  have hr := B.returns
  have hts := atoms_spec (ws := wChooser_learn) B.pre
  have htg : ∀ w ∈ GW, w.before _ s = true := fun w h => hts w (List.mem_cons_of_mem _ h)
  have hown : s.vm.findClass R_Chooser = some m.cls := findClass_of_methodNamed B.named
  have hlocks := B.notSynchronized
  subst hsz
  have hD := hD0.self (sz := s.heap.size)
  generalize hAe : va_A [(h0, .inr (1, [.int zs0, .int rw0, .int mk0, .ref b1, .ref b2, .ref a3])), (b1, .inr (3, [.int zs0, .int rw0, .int mk0, .int (bI false), .ref a1])), (a1, .inl (cA.1, n1, .inl f1)), (b2, .inr (3, [.int zs0, .int rw0, .int mk0, .int (bI true), .ref a2])), (a2, .inl (cA.1, n2, .inl f2)), (a3, .inl (cA.1, n3, .inl f3))] s.heap.size = A at hD ⊢
  have hA : ∀ q : Nat, s.heap.size ≤ q → A q := fun q h => by rw [← hAe]; exact Or.inr h
  have hS : va_S A s.heap s.heap [] := va_S.rf
  have hP : va_P (dC, dI) vwCl [(h0, .inr (1, [.int zs0, .int rw0, .int mk0, .ref b1, .ref b2, .ref a3])), (b1, .inr (3, [.int zs0, .int rw0, .int mk0, .int (bI false), .ref a1])), (a1, .inl (cA.1, n1, .inl f1)), (b2, .inr (3, [.int zs0, .int rw0, .int mk0, .int (bI true), .ref a2])), (a2, .inl (cA.1, n2, .inl f2)), (a3, .inl (cA.1, n3, .inl f3))] s.heap := hP
  have blk61 : ∀ (rs : (Nat → Int32) × (Nat → Int32) × (Nat → Int32)) (w_a3_a_b61 : Nat → Int32) (H : Heap) (locs : List Loc) (ls : Array Slot), tf_Chooser_learn_b61 zs0 mk0 n1 f1 n2 f2 pl hs tk w_a3_a_b61 = rs → va_P (dC, dI) vwCl [(h0, .inr (1, [.int zs0, .int rw0, .int mk0, .ref b1, .ref b2, .ref a3])), (b1, .inr (3, [.int zs0, .int rw0, .int mk0, .int (bI false), .ref a1])), (a1, .inl (cA.1, n1, .inl f1)), (b2, .inr (3, [.int zs0, .int rw0, .int mk0, .int (bI true), .ref a2])), (a2, .inl (cA.1, n2, .inl f2)), (a3, .inl (cA.1, n3, .inl w_a3_a_b61))] H → va_D A [(h0, .inr (1, [.int zs0, .int rw0, .int mk0, .ref b1, .ref b2, .ref a3])), (b1, .inr (3, [.int zs0, .int rw0, .int mk0, .int (bI false), .ref a1])), (a1, .inl (cA.1, n1, .inl f1)), (b2, .inr (3, [.int zs0, .int rw0, .int mk0, .int (bI true), .ref a2])), (a2, .inl (cA.1, n2, .inl f2)), (a3, .inl (cA.1, n3, .inl w_a3_a_b61))] → va_S A s.heap H locs → lv_has ls 6 [(0, .ref h0), (1, .int pl), (2, .int hs), (3, .int (bI tk))] → W p l e (headSpec wChooser_learn ({ frames := 4, cells := 0, slots := 0, locals := 92 })).room s m ([.ref h0, .int pl, .int hs, .int (bI tk)] : List Value).toArray below meth c H locs 0 0 (MQ below (va_Qv (fun w9 => w9 = [(h0, .inr (1, [.int zs0, .int rw0, .int mk0, .ref b1, .ref b2, .ref a3])), (b1, .inr (3, [.int zs0, .int rw0, .int mk0, .int (bI false), .ref a1])), (a1, .inl (cA.1, n1, .inl (rs.1))), (b2, .inr (3, [.int zs0, .int rw0, .int mk0, .int (bI true), .ref a2])), (a2, .inl (cA.1, n2, .inl (rs.2.1))), (a3, .inl (cA.1, n3, .inl (rs.2.2)))]) (At (dC, dI) cA A) A) ([.ref h0, .int pl, .int hs, .int (bI tk)] : List Value).toArray s 0 0 A) (F0 m 61 ls []) := by
    intro rs w_a3_a_b61 H locs ls hfn hP hD hS hl
    unfold tf_Chooser_learn_b61 at hfn
    refine lv_aload_n hx hb dChooser_learn_61 rfl (lv_at hl 0 rfl) ?_
    refine va_get (D := (dC, dI)) (ci := 1) (v := .ref b1) (C := R_Chooser) (T := T_Chooser) (N := 6) hx hb htg in_Chooser hown hK hP 0 rfl rfl 3 (by decide) (htg _ wd_138) (fun _ h9 => h9) rfl dChooser_learn_62 ?_
    refine lv_iload_n hx hb dChooser_learn_65 rfl (lv_at hl 1 rfl) ?_
    refine lv_iload_n hx hb dChooser_learn_66 rfl (lv_at hl 2 rfl) ?_
    refine lv_iload_n hx hb dChooser_learn_67 rfl (lv_at hl 3 rfl) ?_
    refine wr_Vv (wr := [(h0, .inr (1, [.int zs0, .int rw0, .int mk0, .ref b1, .ref b2, .ref a3])), (b2, .inr (3, [.int zs0, .int rw0, .int mk0, .int (bI true), .ref a2])), (a2, .inl (cA.1, n2, .inl f2)), (a3, .inl (cA.1, n3, .inl w_a3_a_b61))]) (As := [.int pl, .int hs, .int (bI tk)]) (rest := []) ⟨hx, hb, hml, hown, htg⟩ (c_Counters_learn l dC dI cA _ b1 a1 zs0 rw0 mk0 false n1 f1 pl hs tk hn1) (cw_V htg wd_478 wd_480 qCounters_learn iCounters_learn kCounters_learn pCounters_learn rfl rfl ⟨Nat.le_of_ble_eq_true rfl, Nat.le_of_ble_eq_true rfl⟩) (va_recv hK hP (ci := 3) (q0 := 1) rfl rfl) hN hP hD hS hA hK [1, 2] [0, 3, 4, 5] rfl rfl (by decide) (by decide) (by decide) rfl hl.1 rfl (Nat.le_of_ble_eq_true rfl) dChooser_learn_68 ⟨Nat.le_of_ble_eq_true rfl, Nat.le_of_ble_eq_true rfl⟩ (fun H locs hP hD hS => ?_)
    have hP : va_P (dC, dI) vwCl [(h0, .inr (1, [.int zs0, .int rw0, .int mk0, .ref b1, .ref b2, .ref a3])), (b2, .inr (3, [.int zs0, .int rw0, .int mk0, .int (bI true), .ref a2])), (a2, .inl (cA.1, n2, .inl f2)), (a3, .inl (cA.1, n3, .inl w_a3_a_b61)), (b1, .inr (3, [.int zs0, .int rw0, .int mk0, .int (bI false), .ref a1])), (a1, .inl (cA.1, n1, .inl ((tf_Counters_learn zs0 mk0 false n1 f1 pl hs tk))))] H := hP
    have hD : va_D A [(h0, .inr (1, [.int zs0, .int rw0, .int mk0, .ref b1, .ref b2, .ref a3])), (b2, .inr (3, [.int zs0, .int rw0, .int mk0, .int (bI true), .ref a2])), (a2, .inl (cA.1, n2, .inl f2)), (a3, .inl (cA.1, n3, .inl w_a3_a_b61)), (b1, .inr (3, [.int zs0, .int rw0, .int mk0, .int (bI false), .ref a1])), (a1, .inl (cA.1, n1, .inl ((tf_Counters_learn zs0 mk0 false n1 f1 pl hs tk))))] := hD
    refine lv_aload_n hx hb dChooser_learn_71 rfl (lv_at hl 0 rfl) ?_
    refine va_get (D := (dC, dI)) (ci := 1) (v := .ref b2) (C := R_Chooser) (T := T_Chooser) (N := 6) hx hb htg in_Chooser hown hK hP 0 rfl rfl 4 (by decide) (htg _ wd_139) (fun _ h9 => h9) rfl dChooser_learn_72 ?_
    refine lv_iload_n hx hb dChooser_learn_75 rfl (lv_at hl 1 rfl) ?_
    refine lv_iload_n hx hb dChooser_learn_76 rfl (lv_at hl 2 rfl) ?_
    refine lv_iload_n hx hb dChooser_learn_77 rfl (lv_at hl 3 rfl) ?_
    refine wr_Vv (wr := [(h0, .inr (1, [.int zs0, .int rw0, .int mk0, .ref b1, .ref b2, .ref a3])), (a3, .inl (cA.1, n3, .inl w_a3_a_b61)), (b1, .inr (3, [.int zs0, .int rw0, .int mk0, .int (bI false), .ref a1])), (a1, .inl (cA.1, n1, .inl ((tf_Counters_learn zs0 mk0 false n1 f1 pl hs tk))))]) (As := [.int pl, .int hs, .int (bI tk)]) (rest := []) ⟨hx, hb, hml, hown, htg⟩ (c_Counters_learn l dC dI cA _ b2 a2 zs0 rw0 mk0 true n2 f2 pl hs tk hn2) (cw_V htg wd_478 wd_480 qCounters_learn iCounters_learn kCounters_learn pCounters_learn rfl rfl ⟨Nat.le_of_ble_eq_true rfl, Nat.le_of_ble_eq_true rfl⟩) (va_recv hK hP (ci := 3) (q0 := 1) rfl rfl) hN hP hD hS hA hK [1, 2] [0, 3, 4, 5] rfl rfl (by decide) (by decide) (by decide) rfl hl.1 rfl (Nat.le_of_ble_eq_true rfl) dChooser_learn_78 ⟨Nat.le_of_ble_eq_true rfl, Nat.le_of_ble_eq_true rfl⟩ (fun H locs hP hD hS => ?_)
    have hP : va_P (dC, dI) vwCl [(h0, .inr (1, [.int zs0, .int rw0, .int mk0, .ref b1, .ref b2, .ref a3])), (a3, .inl (cA.1, n3, .inl w_a3_a_b61)), (b1, .inr (3, [.int zs0, .int rw0, .int mk0, .int (bI false), .ref a1])), (a1, .inl (cA.1, n1, .inl ((tf_Counters_learn zs0 mk0 false n1 f1 pl hs tk)))), (b2, .inr (3, [.int zs0, .int rw0, .int mk0, .int (bI true), .ref a2])), (a2, .inl (cA.1, n2, .inl ((tf_Counters_learn zs0 mk0 true n2 f2 pl hs tk))))] H := hP
    have hD : va_D A [(h0, .inr (1, [.int zs0, .int rw0, .int mk0, .ref b1, .ref b2, .ref a3])), (a3, .inl (cA.1, n3, .inl w_a3_a_b61)), (b1, .inr (3, [.int zs0, .int rw0, .int mk0, .int (bI false), .ref a1])), (a1, .inl (cA.1, n1, .inl ((tf_Counters_learn zs0 mk0 false n1 f1 pl hs tk)))), (b2, .inr (3, [.int zs0, .int rw0, .int mk0, .int (bI true), .ref a2])), (a2, .inl (cA.1, n2, .inl ((tf_Counters_learn zs0 mk0 true n2 f2 pl hs tk))))] := hD
    subst hfn
    exact W.vret hx hb hr (fun t ht hW => ⟨⟨_, rfl, rfl, ⟨by rw [ht]; exact hP.sub [0, 2, 3, 4, 5, 1] rfl, va_K.moved hW.alike hK, hD.sub [0, 2, 3, 4, 5, 1] (by decide) rfl⟩⟩, hS.F ht⟩) hS.2.2 dChooser_learn_81
  have blk38 : ∀ (rs : (Nat → Int32) × (Nat → Int32) × (Nat → Int32)) (v4_b38 : Bool) (s0_b38 : Bool) (H : Heap) (locs : List Loc) (ls : Array Slot), tf_Chooser_learn_b38 zs0 mk0 n1 f1 n2 f2 n3 f3 pl hs tk v4_b38 s0_b38 = rs → va_P (dC, dI) vwCl [(h0, .inr (1, [.int zs0, .int rw0, .int mk0, .ref b1, .ref b2, .ref a3])), (b1, .inr (3, [.int zs0, .int rw0, .int mk0, .int (bI false), .ref a1])), (a1, .inl (cA.1, n1, .inl f1)), (b2, .inr (3, [.int zs0, .int rw0, .int mk0, .int (bI true), .ref a2])), (a2, .inl (cA.1, n2, .inl f2)), (a3, .inl (cA.1, n3, .inl f3))] H → va_D A [(h0, .inr (1, [.int zs0, .int rw0, .int mk0, .ref b1, .ref b2, .ref a3])), (b1, .inr (3, [.int zs0, .int rw0, .int mk0, .int (bI false), .ref a1])), (a1, .inl (cA.1, n1, .inl f1)), (b2, .inr (3, [.int zs0, .int rw0, .int mk0, .int (bI true), .ref a2])), (a2, .inl (cA.1, n2, .inl f2)), (a3, .inl (cA.1, n3, .inl f3))] → va_S A s.heap H locs → lv_has ls 6 [(0, .ref h0), (1, .int pl), (2, .int hs), (3, .int (bI tk)), (4, .int (bI v4_b38))] → W p l e (headSpec wChooser_learn ({ frames := 4, cells := 0, slots := 0, locals := 92 })).room s m ([.ref h0, .int pl, .int hs, .int (bI tk)] : List Value).toArray below meth c H locs 0 0 (MQ below (va_Qv (fun w9 => w9 = [(h0, .inr (1, [.int zs0, .int rw0, .int mk0, .ref b1, .ref b2, .ref a3])), (b1, .inr (3, [.int zs0, .int rw0, .int mk0, .int (bI false), .ref a1])), (a1, .inl (cA.1, n1, .inl (rs.1))), (b2, .inr (3, [.int zs0, .int rw0, .int mk0, .int (bI true), .ref a2])), (a2, .inl (cA.1, n2, .inl (rs.2.1))), (a3, .inl (cA.1, n3, .inl (rs.2.2)))]) (At (dC, dI) cA A) A) ([.ref h0, .int pl, .int hs, .int (bI tk)] : List Value).toArray s 0 0 A) (F0 m 38 ls [.int (bI s0_b38)]) := by
    intro rs v4_b38 s0_b38 H locs ls hfn hP hD hS hl
    unfold tf_Chooser_learn_b38 at hfn
    refine lv_istore (lv' := [(5, .int (bI s0_b38)), (0, .ref h0), (1, .int pl), (2, .int hs), (3, .int (bI tk)), (4, .int (bI v4_b38))]) hx hb dChooser_learn_38 hl (by decide) rfl (fun ls hl => ?_)
    refine lv_iload hx hb dChooser_learn_40 (lv_at hl 5 rfl) ?_
    refine lv_iload hx hb dChooser_learn_42 (lv_at hl 0 rfl) ?_
    refine lv_icmp_eq (tgt := 61) hx hb dChooser_learn_44 (by decide) (fun c_3 => ?_) (fun c_3 => ?_)
    · rw [if_pos c_3] at hfn
      exact blk61 _ f3 _ _ ls hfn (hP.sub [0, 1, 2, 3, 4, 5] rfl) (hD.sub [0, 1, 2, 3, 4, 5] (by decide) rfl) hS (lv_sub hl [1, 2, 3, 4] rfl)
    · rw [if_neg c_3] at hfn
      refine lv_aload_n hx hb dChooser_learn_47 rfl (lv_at hl 1 rfl) ?_
      refine va_get (D := (dC, dI)) (ci := 1) (v := .ref a3) (C := R_Chooser) (T := T_Chooser) (N := 6) hx hb htg in_Chooser hown hK hP 0 rfl rfl 5 (by decide) (htg _ wd_140) (fun _ h9 => h9) rfl dChooser_learn_48 ?_
      refine lv_aload_n hx hb dChooser_learn_51 rfl (lv_at hl 1 rfl) ?_
      refine lv_iload_n hx hb dChooser_learn_52 rfl (lv_at hl 2 rfl) ?_
      refine rd_U (As := [.int pl]) (rest := [.ref a3]) ⟨hx, hb, hml, hown, htg⟩ (c_Chooser_plainRow l dC dI cA h0 b1 a1 b2 a2 a3 zs0 rw0 mk0 n1 f1 n2 f2 n3 f3 pl hn1 hn2 hn3) (cw_U (n := 1) htg wd_316 wd_317 wd_319 qKind_plainRow iKind_plainRow kKind_plainRow (va_Decl.abs (hN _ wn_318)) (by decide +kernel) (by decide +kernel) rfl rfl ⟨Nat.le_of_ble_eq_true rfl, Nat.le_of_ble_eq_true rfl⟩) (va_recv hK hP (ci := 1) (q0 := 0) rfl rfl) hN (hP.sub [0, 1, 2, 3, 4, 5] rfl) hK rfl hl.1 rfl (Nat.le_of_ble_eq_true rfl) dChooser_learn_53 ⟨Nat.le_of_ble_eq_true rfl, Nat.le_of_ble_eq_true rfl⟩ ?_
      refine lv_iload hx hb dChooser_learn_56 (lv_at hl 0 rfl) ?_
      refine wr_SNv (wr := [(h0, .inr (1, [.int zs0, .int rw0, .int mk0, .ref b1, .ref b2, .ref a3])), (b1, .inr (3, [.int zs0, .int rw0, .int mk0, .int (bI false), .ref a1])), (a1, .inl (cA.1, n1, .inl f1)), (b2, .inr (3, [.int zs0, .int rw0, .int mk0, .int (bI true), .ref a2])), (a2, .inl (cA.1, n2, .inl f2))]) (As := [.ref a3, .int (tf_Chooser_plainRow zs0 mk0 pl), .int (bI s0_b38)]) (rest := []) ⟨hx, hb, hml, hown, htg⟩ (c_PK_stepCounter l dC dI cA _ a3 n3 f3 (tf_Chooser_plainRow zs0 mk0 pl) s0_b38 hn3) (cw_SN htg hN wn_470 qPK_stepCounter iPK_stepCounter kPK_stepCounter pPK_stepCounter rfl rfl ⟨Nat.le_of_ble_eq_true rfl, Nat.le_of_ble_eq_true rfl⟩) hN hP hD hS hA hK [5] [0, 1, 2, 3, 4] rfl rfl (by decide) (by decide) (by decide) rfl hl.1 rfl (Nat.le_of_ble_eq_true rfl) dChooser_learn_58 ⟨Nat.le_of_ble_eq_true rfl, Nat.le_of_ble_eq_true rfl⟩ (fun H locs hP hD hS => ?_)
      have hP : va_P (dC, dI) vwCl [(h0, .inr (1, [.int zs0, .int rw0, .int mk0, .ref b1, .ref b2, .ref a3])), (b1, .inr (3, [.int zs0, .int rw0, .int mk0, .int (bI false), .ref a1])), (a1, .inl (cA.1, n1, .inl f1)), (b2, .inr (3, [.int zs0, .int rw0, .int mk0, .int (bI true), .ref a2])), (a2, .inl (cA.1, n2, .inl f2)), (a3, .inl (cA.1, n3, .inl ((tf_PK_stepCounter n3 f3 (tf_Chooser_plainRow zs0 mk0 pl) s0_b38))))] H := hP
      have hD : va_D A [(h0, .inr (1, [.int zs0, .int rw0, .int mk0, .ref b1, .ref b2, .ref a3])), (b1, .inr (3, [.int zs0, .int rw0, .int mk0, .int (bI false), .ref a1])), (a1, .inl (cA.1, n1, .inl f1)), (b2, .inr (3, [.int zs0, .int rw0, .int mk0, .int (bI true), .ref a2])), (a2, .inl (cA.1, n2, .inl f2)), (a3, .inl (cA.1, n3, .inl ((tf_PK_stepCounter n3 f3 (tf_Chooser_plainRow zs0 mk0 pl) s0_b38))))] := hD
      exact blk61 _ ((tf_PK_stepCounter n3 f3 (tf_Chooser_plainRow zs0 mk0 pl) s0_b38)) _ _ ls hfn (hP.sub [0, 1, 2, 3, 4, 5] rfl) (hD.sub [0, 1, 2, 3, 4, 5] (by decide) rfl) hS (lv_sub hl [1, 2, 3, 4] rfl)
  have blk18 : ∀ (rs : (Nat → Int32) × (Nat → Int32) × (Nat → Int32)) (s0_b18 : Bool) (H : Heap) (locs : List Loc) (ls : Array Slot), tf_Chooser_learn_b18 zs0 mk0 n1 f1 n2 f2 n3 f3 pl hs tk s0_b18 = rs → va_P (dC, dI) vwCl [(h0, .inr (1, [.int zs0, .int rw0, .int mk0, .ref b1, .ref b2, .ref a3])), (b1, .inr (3, [.int zs0, .int rw0, .int mk0, .int (bI false), .ref a1])), (a1, .inl (cA.1, n1, .inl f1)), (b2, .inr (3, [.int zs0, .int rw0, .int mk0, .int (bI true), .ref a2])), (a2, .inl (cA.1, n2, .inl f2)), (a3, .inl (cA.1, n3, .inl f3))] H → va_D A [(h0, .inr (1, [.int zs0, .int rw0, .int mk0, .ref b1, .ref b2, .ref a3])), (b1, .inr (3, [.int zs0, .int rw0, .int mk0, .int (bI false), .ref a1])), (a1, .inl (cA.1, n1, .inl f1)), (b2, .inr (3, [.int zs0, .int rw0, .int mk0, .int (bI true), .ref a2])), (a2, .inl (cA.1, n2, .inl f2)), (a3, .inl (cA.1, n3, .inl f3))] → va_S A s.heap H locs → lv_has ls 6 [(0, .ref h0), (1, .int pl), (2, .int hs), (3, .int (bI tk))] → W p l e (headSpec wChooser_learn ({ frames := 4, cells := 0, slots := 0, locals := 92 })).room s m ([.ref h0, .int pl, .int hs, .int (bI tk)] : List Value).toArray below meth c H locs 0 0 (MQ below (va_Qv (fun w9 => w9 = [(h0, .inr (1, [.int zs0, .int rw0, .int mk0, .ref b1, .ref b2, .ref a3])), (b1, .inr (3, [.int zs0, .int rw0, .int mk0, .int (bI false), .ref a1])), (a1, .inl (cA.1, n1, .inl (rs.1))), (b2, .inr (3, [.int zs0, .int rw0, .int mk0, .int (bI true), .ref a2])), (a2, .inl (cA.1, n2, .inl (rs.2.1))), (a3, .inl (cA.1, n3, .inl (rs.2.2)))]) (At (dC, dI) cA A) A) ([.ref h0, .int pl, .int hs, .int (bI tk)] : List Value).toArray s 0 0 A) (F0 m 18 ls [.int (bI s0_b18)]) := by
    intro rs s0_b18 H locs ls hfn hP hD hS hl
    unfold tf_Chooser_learn_b18 at hfn
    refine lv_istore (lv' := [(4, .int (bI s0_b18)), (0, .ref h0), (1, .int pl), (2, .int hs), (3, .int (bI tk))]) hx hb dChooser_learn_18 hl (by decide) rfl (fun ls hl => ?_)
    refine lv_aload_n hx hb dChooser_learn_20 rfl (lv_at hl 1 rfl) ?_
    refine va_get (D := (dC, dI)) (ci := 1) (v := .ref b2) (C := R_Chooser) (T := T_Chooser) (N := 6) hx hb htg in_Chooser hown hK hP 0 rfl rfl 4 (by decide) (htg _ wd_139) (fun _ h9 => h9) rfl dChooser_learn_21 ?_
    refine lv_iload_n hx hb dChooser_learn_24 rfl (lv_at hl 2 rfl) ?_
    refine lv_iload_n hx hb dChooser_learn_25 rfl (lv_at hl 3 rfl) ?_
    refine rd_V (As := [.int pl, .int hs]) (rest := []) ⟨hx, hb, hml, hown, htg⟩ (c_Counters_says l dC dI cA b2 a2 zs0 rw0 mk0 true n2 f2 pl hs hn2) (cw_V htg wd_325 wd_327 qCounters_says iCounters_says kCounters_says pCounters_says rfl rfl ⟨Nat.le_of_ble_eq_true rfl, Nat.le_of_ble_eq_true rfl⟩) (va_recv hK hP (ci := 3) (q0 := 3) rfl rfl) hN (hP.sub [3, 4] rfl) hK rfl hl.1 rfl (Nat.le_of_ble_eq_true rfl) dChooser_learn_26 ⟨Nat.le_of_ble_eq_true rfl, Nat.le_of_ble_eq_true rfl⟩ ?_
    refine lv_iload_n hx hb dChooser_learn_29 rfl (lv_at hl 4 rfl) ?_
    refine lv_icmp_ne (tgt := 37) hx hb dChooser_learn_30 (by decide) (fun c_2 => ?_) (fun c_2 => ?_)
    · rw [if_neg c_2] at hfn
      refine lv_iconst (v := 0) hx hb dChooser_learn_37 (by decide) ?_
      exact blk38 _ s0_b18 false _ _ ls hfn (hP.sub [0, 1, 2, 3, 4, 5] rfl) (hD.sub [0, 1, 2, 3, 4, 5] (by decide) rfl) hS (lv_sub hl [1, 2, 3, 4, 0] rfl)
    · rw [if_pos c_2] at hfn
      refine lv_iconst (v := 1) hx hb dChooser_learn_33 (by decide) ?_
      refine lv_goto (tgt := 38) hx hb dChooser_learn_34 (by decide) ?_
      exact blk38 _ s0_b18 true _ _ ls hfn (hP.sub [0, 1, 2, 3, 4, 5] rfl) (hD.sub [0, 1, 2, 3, 4, 5] (by decide) rfl) hS (lv_sub hl [1, 2, 3, 4, 0] rfl)
  obtain ⟨rs, hfn⟩ : ∃ rs, (tf_Chooser_learn zs0 mk0 n1 f1 n2 f2 n3 f3 pl hs tk) = rs := ⟨_, rfl⟩
  try rw [hfn]
  have hl := lv_entry ([.ref h0, .int pl, .int hs, .int (bI tk)]) (n := 6) (Nat.le_of_ble_eq_true rfl)
  rw [lg_entry_eq]
  generalize (lg_sl ([.ref h0, .int pl, .int hs, .int (bI tk)]) ++ List.replicate (6 - (lg_sl ([.ref h0, .int pl, .int hs, .int (bI tk)])).length) Slot.unset).toArray = ls at hl ⊢
  have hl : lv_has ls 6 [(0, .ref h0), (1, .int pl), (2, .int hs), (3, .int (bI tk))] := hl
  unfold tf_Chooser_learn at hfn
  refine lv_aload_n hx hb dChooser_learn_0 rfl (lv_at hl 0 rfl) ?_
  refine va_get (D := (dC, dI)) (ci := 1) (v := .ref b1) (C := R_Chooser) (T := T_Chooser) (N := 6) hx hb htg in_Chooser hown hK hP 0 rfl rfl 3 (by decide) (htg _ wd_138) (fun _ h9 => h9) rfl dChooser_learn_1 ?_
  refine lv_iload_n hx hb dChooser_learn_4 rfl (lv_at hl 1 rfl) ?_
  refine lv_iload_n hx hb dChooser_learn_5 rfl (lv_at hl 2 rfl) ?_
  refine rd_V (As := [.int pl, .int hs]) (rest := []) ⟨hx, hb, hml, hown, htg⟩ (c_Counters_says l dC dI cA b1 a1 zs0 rw0 mk0 false n1 f1 pl hs hn1) (cw_V htg wd_325 wd_327 qCounters_says iCounters_says kCounters_says pCounters_says rfl rfl ⟨Nat.le_of_ble_eq_true rfl, Nat.le_of_ble_eq_true rfl⟩) (va_recv hK hP (ci := 3) (q0 := 1) rfl rfl) hN (hP.sub [1, 2] rfl) hK rfl hl.1 rfl (Nat.le_of_ble_eq_true rfl) dChooser_learn_6 ⟨Nat.le_of_ble_eq_true rfl, Nat.le_of_ble_eq_true rfl⟩ ?_
  refine lv_iload_n hx hb dChooser_learn_9 rfl (lv_at hl 3 rfl) ?_
  refine lv_icmp_ne (tgt := 17) hx hb dChooser_learn_10 (by decide) (fun c_1 => ?_) (fun c_1 => ?_)
  · rw [if_neg c_1] at hfn
    refine lv_iconst (v := 0) hx hb dChooser_learn_17 (by decide) ?_
    exact blk18 _ false _ _ ls hfn (hP.sub [0, 1, 2, 3, 4, 5] rfl) (hD.sub [0, 1, 2, 3, 4, 5] (by decide) rfl) hS (lv_sub hl [0, 1, 2, 3] rfl)
  · rw [if_pos c_1] at hfn
    refine lv_iconst (v := 1) hx hb dChooser_learn_13 (by decide) ?_
    refine lv_goto (tgt := 18) hx hb dChooser_learn_14 (by decide) ?_
    exact blk18 _ true _ _ ls hfn (hP.sub [0, 1, 2, 3, 4, 5] rfl) (hD.sub [0, 1, 2, 3, 4, 5] (by decide) rfl) hS (lv_sub hl [0, 1, 2, 3] rfl)
def tf_Chooser_bits (rw0 : Int32) : Int32 := ((((tf_Counters_bits rw0 false) + (tf_Counters_bits rw0 true)) + (2 * rw0)))
set_option maxHeartbeats 4000000 in
set_option maxRecDepth 100000 in
theorem c_Chooser_bits (l : Launch) (dC : Nat → ClassId) (dI : Nat → Nat → Nat) (cA : ClassId × ClassId × ClassId) (h0 : Nat) (b1 : Nat) (a1 : Nat) (b2 : Nat) (a2 : Nat) (a3 : Nat) (zs0 : Int32) (rw0 : Int32) (mk0 : Int32) (n1 : Nat) (f1 : Nat → Int32) (n2 : Nat) (f2 : Nat → Int32) (n3 : Nat) (f3 : Nat → Int32) (hn1 : n1 < 2147483648) (hn2 : n2 < 2147483648) (hn3 : n3 < 2147483648) : Met l yChooser_bits wChooser_bits ({ frames := 1, cells := 0, slots := 0, locals := 20 }) (va_Pc [.ref h0] (Rd (dC, dI) cA [(h0, .inr (1, [.int zs0, .int rw0, .int mk0, .ref b1, .ref b2, .ref a3])), (b1, .inr (3, [.int zs0, .int rw0, .int mk0, .int (bI false), .ref a1])), (a1, .inl (cA.1, n1, .inl f1)), (b2, .inr (3, [.int zs0, .int rw0, .int mk0, .int (bI true), .ref a2])), (a2, .inl (cA.1, n2, .inl f2)), (a3, .inl (cA.1, n3, .inl f3))])) (QcRead (tf_Chooser_bits rw0)) 0 0 (fun _ => False) := by
  refine Met.ofW (cc := cChooser_bits) (maxL := 1) (ret := (some .int)) (by decide) rfl ?_
  intro p e s m args below meth c s₁ B hml hv
  obtain ⟨rfl, hN, hP, hK⟩ := hv
  have hx := B.exec
  have hb := B.bytes
  have hr := B.returns
  have hts := atoms_spec (ws := wChooser_bits) B.pre
  have htg : ∀ w ∈ GW, w.before _ s = true := fun w h => hts w (List.mem_cons_of_mem _ h)
  have hown : s.vm.findClass R_Chooser = some m.cls := findClass_of_methodNamed B.named
  have hlocks := B.notSynchronized
  obtain ⟨rs, hfn⟩ : ∃ rs, (tf_Chooser_bits rw0) = rs := ⟨_, rfl⟩
  try rw [hfn]
  have hl := lv_entry ([.ref h0]) (n := 1) (Nat.le_of_ble_eq_true rfl)
  rw [lg_entry_eq]
  generalize (lg_sl ([.ref h0]) ++ List.replicate (1 - (lg_sl ([.ref h0])).length) Slot.unset).toArray = ls at hl ⊢
  have hl : lv_has ls 1 [(0, .ref h0)] := hl
  unfold tf_Chooser_bits at hfn
  refine lv_aload_n hx hb dChooser_bits_0 rfl (lv_at hl 0 rfl) ?_
  refine va_get (D := (dC, dI)) (ci := 1) (v := .ref b1) (C := R_Chooser) (T := T_Chooser) (N := 6) hx hb htg in_Chooser hown hK hP 0 rfl rfl 3 (by decide) (htg _ wd_138) (fun _ h9 => h9) rfl dChooser_bits_1 ?_
  refine rd_V (As := []) (rest := []) ⟨hx, hb, hml, hown, htg⟩ (c_Counters_bits l dC dI cA b1 a1 zs0 rw0 mk0 false n1 f1 hn1) (cw_V htg wd_626 wd_628 qCounters_bits iCounters_bits kCounters_bits pCounters_bits rfl rfl ⟨Nat.le_of_ble_eq_true rfl, Nat.le_of_ble_eq_true rfl⟩) (va_recv hK hP (ci := 3) (q0 := 1) rfl rfl) hN (hP.sub [1, 2] rfl) hK rfl hl.1 rfl (Nat.le_of_ble_eq_true rfl) dChooser_bits_4 ⟨Nat.le_of_ble_eq_true rfl, Nat.le_of_ble_eq_true rfl⟩ ?_
  refine lv_aload_n hx hb dChooser_bits_7 rfl (lv_at hl 0 rfl) ?_
  refine va_get (D := (dC, dI)) (ci := 1) (v := .ref b2) (C := R_Chooser) (T := T_Chooser) (N := 6) hx hb htg in_Chooser hown hK hP 0 rfl rfl 4 (by decide) (htg _ wd_139) (fun _ h9 => h9) rfl dChooser_bits_8 ?_
  refine rd_V (As := []) (rest := [.int (tf_Counters_bits rw0 false)]) ⟨hx, hb, hml, hown, htg⟩ (c_Counters_bits l dC dI cA b2 a2 zs0 rw0 mk0 true n2 f2 hn2) (cw_V htg wd_626 wd_628 qCounters_bits iCounters_bits kCounters_bits pCounters_bits rfl rfl ⟨Nat.le_of_ble_eq_true rfl, Nat.le_of_ble_eq_true rfl⟩) (va_recv hK hP (ci := 3) (q0 := 3) rfl rfl) hN (hP.sub [3, 4] rfl) hK rfl hl.1 rfl (Nat.le_of_ble_eq_true rfl) dChooser_bits_11 ⟨Nat.le_of_ble_eq_true rfl, Nat.le_of_ble_eq_true rfl⟩ ?_
  refine lv_iadd hx hb dChooser_bits_14 ?_
  refine lv_iconst (v := 2) hx hb dChooser_bits_15 (by decide) ?_
  refine lv_aload_n hx hb dChooser_bits_16 rfl (lv_at hl 0 rfl) ?_
  refine va_get (D := (dC, dI)) (ci := 1) (v := .int rw0) (C := R_Chooser) (T := T_Chooser) (N := 6) hx hb htg in_Chooser hown hK hP 0 rfl rfl 1 (by decide) (htg _ wd_76) (fun x9 h9 => u_same (htg _ wd_77) x9 h9) rfl dChooser_bits_17 ?_
  refine lv_imul hx hb dChooser_bits_20 ?_
  refine lv_iadd hx hb dChooser_bits_21 ?_
  subst hfn
  exact W.iret hx hb hr (fun t ht hW => ⟨rfl, ht⟩) (fun _ h => by cases h) dChooser_bits_22
def tf_Chooser_answering (zs0 : Int32) (mk0 : Int32) (n3 : Nat) (f3 : Nat → Int32) (pl : Int32) : Int32 := (if (bI (tf_Chooser_takesMixed zs0 mk0 n3 f3 pl)) = 0 then (2) else (3))
set_option maxHeartbeats 4000000 in
set_option maxRecDepth 100000 in
theorem c_Chooser_answering (l : Launch) (dC : Nat → ClassId) (dI : Nat → Nat → Nat) (cA : ClassId × ClassId × ClassId) (h0 : Nat) (b1 : Nat) (a1 : Nat) (b2 : Nat) (a2 : Nat) (a3 : Nat) (zs0 : Int32) (rw0 : Int32) (mk0 : Int32) (n1 : Nat) (f1 : Nat → Int32) (n2 : Nat) (f2 : Nat → Int32) (n3 : Nat) (f3 : Nat → Int32) (pl : Int32) (hs : Int32) (hn1 : n1 < 2147483648) (hn2 : n2 < 2147483648) (hn3 : n3 < 2147483648) : Met l yChooser_answering wChooser_answering ({ frames := 2, cells := 0, slots := 0, locals := 42 }) (va_Pc [.ref h0, .int pl, .int hs] (Rd (dC, dI) cA [(h0, .inr (1, [.int zs0, .int rw0, .int mk0, .ref b1, .ref b2, .ref a3])), (b1, .inr (3, [.int zs0, .int rw0, .int mk0, .int (bI false), .ref a1])), (a1, .inl (cA.1, n1, .inl f1)), (b2, .inr (3, [.int zs0, .int rw0, .int mk0, .int (bI true), .ref a2])), (a2, .inl (cA.1, n2, .inl f2)), (a3, .inl (cA.1, n3, .inl f3))])) (QcRead (tf_Chooser_answering zs0 mk0 n3 f3 pl)) 0 0 (fun _ => False) := by
  refine Met.ofW (cc := cChooser_answering) (maxL := 3) (ret := (some .int)) (by decide) rfl ?_
  intro p e s m args below meth c s₁ B hml hv
  obtain ⟨rfl, hN, hP, hK⟩ := hv
  have hx := B.exec
  have hb := B.bytes
  have hr := B.returns
  have hts := atoms_spec (ws := wChooser_answering) B.pre
  have htg : ∀ w ∈ GW, w.before _ s = true := fun w h => hts w (List.mem_cons_of_mem _ h)
  have hown : s.vm.findClass R_Chooser = some m.cls := findClass_of_methodNamed B.named
  have hlocks := B.notSynchronized
  obtain ⟨rs, hfn⟩ : ∃ rs, (tf_Chooser_answering zs0 mk0 n3 f3 pl) = rs := ⟨_, rfl⟩
  try rw [hfn]
  have hl := lv_entry ([.ref h0, .int pl, .int hs]) (n := 3) (Nat.le_of_ble_eq_true rfl)
  rw [lg_entry_eq]
  generalize (lg_sl ([.ref h0, .int pl, .int hs]) ++ List.replicate (3 - (lg_sl ([.ref h0, .int pl, .int hs])).length) Slot.unset).toArray = ls at hl ⊢
  have hl : lv_has ls 3 [(0, .ref h0), (1, .int pl), (2, .int hs)] := hl
  unfold tf_Chooser_answering at hfn
  refine lv_aload_n hx hb dChooser_answering_0 rfl (lv_at hl 0 rfl) ?_
  refine lv_iload_n hx hb dChooser_answering_1 rfl (lv_at hl 1 rfl) ?_
  refine rd_V (As := [.int pl]) (rest := []) ⟨hx, hb, hml, hown, htg⟩ (c_Chooser_takesMixed l dC dI cA h0 b1 a1 b2 a2 a3 zs0 rw0 mk0 n1 f1 n2 f2 n3 f3 pl hn1 hn2 hn3) (cw_V htg wd_312 ws_0 qChooser_takesMixed iChooser_takesMixed kChooser_takesMixed pChooser_takesMixed rfl rfl ⟨Nat.le_of_ble_eq_true rfl, Nat.le_of_ble_eq_true rfl⟩) (va_recv hK hP (ci := 1) (q0 := 0) rfl rfl) hN (hP.sub [0, 1, 2, 3, 4, 5] rfl) hK rfl hl.1 rfl (Nat.le_of_ble_eq_true rfl) dChooser_answering_2 ⟨Nat.le_of_ble_eq_true rfl, Nat.le_of_ble_eq_true rfl⟩ ?_
  refine lv_if_eq (tgt := 12) hx hb dChooser_answering_5 (by decide) (fun c_1 => ?_) (fun c_1 => ?_)
  · rw [if_pos c_1] at hfn
    refine lv_iconst (v := 2) hx hb dChooser_answering_12 (by decide) ?_
    subst hfn
    exact W.iret hx hb hr (fun t ht hW => ⟨rfl, ht⟩) (fun _ h => by cases h) dChooser_answering_13
  · rw [if_neg c_1] at hfn
    refine lv_iconst (v := 3) hx hb dChooser_answering_8 (by decide) ?_
    refine lv_goto (tgt := 13) hx hb dChooser_answering_9 (by decide) ?_
    subst hfn
    exact W.iret hx hb hr (fun t ht hW => ⟨rfl, ht⟩) (fun _ h => by cases h) dChooser_answering_13
