def tf_Loops_tagOf (zs0 : Int32) (pl : Int32) : Int32 := (((us pl zs0) &&& 255))
set_option maxHeartbeats 4000000 in
set_option maxRecDepth 100000 in
theorem c_Loops_tagOf (l : Launch) (dC : Nat → ClassId) (dI : Nat → Nat → Nat) (cA : ClassId × ClassId × ClassId) (h0 : Nat) (b1 : Nat) (a0 : Nat) (a1 : Nat) (a2 : Nat) (a3 : Nat) (a4 : Nat) (zs0 : Int32) (rw0 : Int32) (mk0 : Int32) (n0 : Nat) (f0 : Nat → Int32) (n1 : Nat) (f1 : Nat → Int32) (n2 : Nat) (f2 : Nat → Int32) (n3 : Nat) (f3 : Nat → Int32) (n4 : Nat) (f4 : Nat → Int32) (pl : Int32) (hn0 : n0 < 2147483648) (hn1 : n1 < 2147483648) (hn2 : n2 < 2147483648) (hn3 : n3 < 2147483648) (hn4 : n4 < 2147483648) : Met l yLoops_tagOf wLoops_tagOf ({ frames := 0, cells := 0, slots := 0, locals := 0 }) (va_Pc [.ref h0, .int pl] (Rd (dC, dI) cA [(h0, .inr (5, [.int zs0, .int rw0, .int mk0, .ref b1, .ref a1, .ref a2, .ref a3, .ref a4])), (b1, .inr (3, [.int zs0, .int rw0, .int mk0, .int (bI false), .ref a0])), (a0, .inl (cA.1, n0, .inl f0)), (a1, .inl (cA.1, n1, .inl f1)), (a2, .inl (cA.1, n2, .inl f2)), (a3, .inl (cA.1, n3, .inl f3)), (a4, .inl (cA.1, n4, .inl f4))])) (QcRead (tf_Loops_tagOf zs0 pl)) 0 0 (fun _ => False) := by
  refine Met.ofW (cc := cLoops_tagOf) (maxL := 2) (ret := (some .int)) (by decide) rfl ?_
  intro p e s m args below meth c s₁ B hml hv
  obtain ⟨rfl, hN, hP, hK⟩ := hv
  have hx := B.exec
  have hb := B.bytes
  have hr := B.returns
  have hts := atoms_spec (ws := wLoops_tagOf) B.pre
  have htg : ∀ w ∈ GW, w.before _ s = true := fun w h => hts w (List.mem_cons_of_mem _ h)
  have hown : s.vm.findClass R_Loops = some m.cls := findClass_of_methodNamed B.named
  have hlocks := B.notSynchronized
  obtain ⟨rs, hfn⟩ : ∃ rs, (tf_Loops_tagOf zs0 pl) = rs := ⟨_, rfl⟩
  try rw [hfn]
  have hl := lv_entry ([.ref h0, .int pl]) (n := 2) (Nat.le_of_ble_eq_true rfl)
  rw [lg_entry_eq]
  generalize (lg_sl ([.ref h0, .int pl]) ++ List.replicate (2 - (lg_sl ([.ref h0, .int pl])).length) Slot.unset).toArray = ls at hl ⊢
  have hl : lv_has ls 2 [(0, .ref h0), (1, .int pl)] := hl
  unfold tf_Loops_tagOf at hfn
  refine lv_iload_n hx hb dLoops_tagOf_0 rfl (lv_at hl 1 rfl) ?_
  refine lv_aload_n hx hb dLoops_tagOf_1 rfl (lv_at hl 0 rfl) ?_
  refine va_get (D := (dC, dI)) (ci := 5) (v := .int zs0) (C := R_Loops) (T := T_Loops) (N := 8) hx hb htg in_Loops hown hK hP 0 rfl rfl 0 (by decide) (htg _ wd_59) (fun x9 h9 => u_same (htg _ wd_60) x9 h9) rfl dLoops_tagOf_2 ?_
  refine lv_iushr (v := (us pl zs0)) hx hb dLoops_tagOf_5 rfl ?_
  refine lv_sipush (v := 255) hx hb dLoops_tagOf_6 (by decide) ?_
  refine lv_iand hx hb dLoops_tagOf_9 ?_
  subst hfn
  exact W.iret hx hb hr (fun t ht hW => ⟨rfl, ht⟩) (fun _ h => by cases h) dLoops_tagOf_10
def tf_Loops_hasTag (zs0 : Int32) (mk0 : Int32) (n1 : Nat) (f1 : Nat → Int32) (pl : Int32) : Bool := (if (tf_PK_at n1 f1 (tf_Loops_plainRow zs0 mk0 pl)) = (tf_Loops_tagOf zs0 pl) then (true) else (false))
set_option maxHeartbeats 4000000 in
set_option maxRecDepth 100000 in
theorem c_Loops_hasTag (l : Launch) (dC : Nat → ClassId) (dI : Nat → Nat → Nat) (cA : ClassId × ClassId × ClassId) (h0 : Nat) (b1 : Nat) (a0 : Nat) (a1 : Nat) (a2 : Nat) (a3 : Nat) (a4 : Nat) (zs0 : Int32) (rw0 : Int32) (mk0 : Int32) (n0 : Nat) (f0 : Nat → Int32) (n1 : Nat) (f1 : Nat → Int32) (n2 : Nat) (f2 : Nat → Int32) (n3 : Nat) (f3 : Nat → Int32) (n4 : Nat) (f4 : Nat → Int32) (pl : Int32) (hn0 : n0 < 2147483648) (hn1 : n1 < 2147483648) (hn2 : n2 < 2147483648) (hn3 : n3 < 2147483648) (hn4 : n4 < 2147483648) : Met l yLoops_hasTag wLoops_hasTag ({ frames := 1, cells := 0, slots := 0, locals := 21 }) (va_Pc [.ref h0, .int pl] (Rd (dC, dI) cA [(h0, .inr (5, [.int zs0, .int rw0, .int mk0, .ref b1, .ref a1, .ref a2, .ref a3, .ref a4])), (b1, .inr (3, [.int zs0, .int rw0, .int mk0, .int (bI false), .ref a0])), (a0, .inl (cA.1, n0, .inl f0)), (a1, .inl (cA.1, n1, .inl f1)), (a2, .inl (cA.1, n2, .inl f2)), (a3, .inl (cA.1, n3, .inl f3)), (a4, .inl (cA.1, n4, .inl f4))])) (QcRead (bI (tf_Loops_hasTag zs0 mk0 n1 f1 pl))) 0 0 (fun _ => False) := by
  refine Met.ofW (cc := cLoops_hasTag) (maxL := 2) (ret := (some .boolean)) (by decide) rfl ?_
  intro p e s m args below meth c s₁ B hml hv
  obtain ⟨rfl, hN, hP, hK⟩ := hv
  have hx := B.exec
  have hb := B.bytes
  have hr := B.returns
  have hts := atoms_spec (ws := wLoops_hasTag) B.pre
  have htg : ∀ w ∈ GW, w.before _ s = true := fun w h => hts w (List.mem_cons_of_mem _ h)
  have hown : s.vm.findClass R_Loops = some m.cls := findClass_of_methodNamed B.named
  have hlocks := B.notSynchronized
  obtain ⟨rs, hfn⟩ : ∃ rs, (tf_Loops_hasTag zs0 mk0 n1 f1 pl) = rs := ⟨_, rfl⟩
  try rw [hfn]
  have hl := lv_entry ([.ref h0, .int pl]) (n := 2) (Nat.le_of_ble_eq_true rfl)
  rw [lg_entry_eq]
  generalize (lg_sl ([.ref h0, .int pl]) ++ List.replicate (2 - (lg_sl ([.ref h0, .int pl])).length) Slot.unset).toArray = ls at hl ⊢
  have hl : lv_has ls 2 [(0, .ref h0), (1, .int pl)] := hl
  unfold tf_Loops_hasTag at hfn
  refine lv_aload_n hx hb dLoops_hasTag_0 rfl (lv_at hl 0 rfl) ?_
  refine va_get (D := (dC, dI)) (ci := 5) (v := .ref a1) (C := R_Loops) (T := T_Loops) (N := 8) hx hb htg in_Loops hown hK hP 0 rfl rfl 4 (by decide) (htg _ wd_200) (fun _ h9 => h9) rfl dLoops_hasTag_1 ?_
  refine lv_aload_n hx hb dLoops_hasTag_4 rfl (lv_at hl 0 rfl) ?_
  refine lv_iload_n hx hb dLoops_hasTag_5 rfl (lv_at hl 1 rfl) ?_
  refine rd_U (As := [.int pl]) (rest := [.ref a1]) ⟨hx, hb, hml, hown, htg⟩ (c_Loops_plainRow l dC dI cA h0 b1 a0 a1 a2 a3 a4 zs0 rw0 mk0 n0 f0 n1 f1 n2 f2 n3 f3 n4 f4 pl hn0 hn1 hn2 hn3 hn4) (cw_U (n := 1) htg wd_366 wd_367 wd_368 qKind_plainRow iKind_plainRow kKind_plainRow (va_Decl.abs (hN _ wn_318)) (by decide +kernel) (by decide +kernel) rfl rfl ⟨Nat.le_of_ble_eq_true rfl, Nat.le_of_ble_eq_true rfl⟩) (va_recv hK hP (ci := 5) (q0 := 0) rfl rfl) hN (hP.sub [0, 1, 2, 3, 4, 5, 6] rfl) hK rfl hl.1 rfl (Nat.le_of_ble_eq_true rfl) dLoops_hasTag_6 ⟨Nat.le_of_ble_eq_true rfl, Nat.le_of_ble_eq_true rfl⟩ ?_
  refine rd_SN (As := [.ref a1, .int (tf_Loops_plainRow zs0 mk0 pl)]) (rest := []) ⟨hx, hb, hml, hown, htg⟩ (c_PK_at l dC dI cA a1 n1 f1 (tf_Loops_plainRow zs0 mk0 pl) hn1) (cw_SN htg hN wn_369 qPK_at iPK_at kPK_at pPK_at rfl rfl ⟨Nat.le_of_ble_eq_true rfl, Nat.le_of_ble_eq_true rfl⟩) hN (hP.sub [3] rfl) hK rfl hl.1 rfl (Nat.le_of_ble_eq_true rfl) dLoops_hasTag_9 ⟨Nat.le_of_ble_eq_true rfl, Nat.le_of_ble_eq_true rfl⟩ ?_
  refine lv_aload_n hx hb dLoops_hasTag_12 rfl (lv_at hl 0 rfl) ?_
  refine lv_iload_n hx hb dLoops_hasTag_13 rfl (lv_at hl 1 rfl) ?_
  refine rd_V (As := [.int pl]) (rest := [.int (tf_PK_at n1 f1 (tf_Loops_plainRow zs0 mk0 pl))]) ⟨hx, hb, hml, hown, htg⟩ (c_Loops_tagOf l dC dI cA h0 b1 a0 a1 a2 a3 a4 zs0 rw0 mk0 n0 f0 n1 f1 n2 f2 n3 f3 n4 f4 pl hn0 hn1 hn2 hn3 hn4) (cw_V htg wd_370 ws_4 qLoops_tagOf iLoops_tagOf kLoops_tagOf pLoops_tagOf rfl rfl ⟨Nat.le_of_ble_eq_true rfl, Nat.le_of_ble_eq_true rfl⟩) (va_recv hK hP (ci := 5) (q0 := 0) rfl rfl) hN (hP.sub [0, 1, 2, 3, 4, 5, 6] rfl) hK rfl hl.1 rfl (Nat.le_of_ble_eq_true rfl) dLoops_hasTag_14 ⟨Nat.le_of_ble_eq_true rfl, Nat.le_of_ble_eq_true rfl⟩ ?_
  refine lv_icmp_ne (tgt := 24) hx hb dLoops_hasTag_17 (by decide) (fun c_1 => ?_) (fun c_1 => ?_)
  · rw [if_neg c_1] at hfn
    refine lv_iconst (v := 0) hx hb dLoops_hasTag_24 (by decide) ?_
    subst hfn
    exact W.zret hx hb hr rfl (fun t ht hW => ⟨rfl, ht⟩) (fun _ h => by cases h) dLoops_hasTag_25
  · rw [if_pos c_1] at hfn
    refine lv_iconst (v := 1) hx hb dLoops_hasTag_20 (by decide) ?_
    refine lv_goto (tgt := 25) hx hb dLoops_hasTag_21 (by decide) ?_
    subst hfn
    exact W.zret hx hb hr rfl (fun t ht hW => ⟨rfl, ht⟩) (fun _ h => by cases h) dLoops_hasTag_25
def tf_Loops_isTrusted (zs0 : Int32) (mk0 : Int32) (n1 : Nat) (f1 : Nat → Int32) (n4 : Nat) (f4 : Nat → Int32) (pl : Int32) : Bool := (if (bI (tf_Loops_hasTag zs0 mk0 n1 f1 pl)) = 0 then (false) else (if (tf_PK_at n4 f4 (tf_Loops_plainRow zs0 mk0 pl)) = 3 then (true) else (false)))
set_option maxHeartbeats 4000000 in
set_option maxRecDepth 100000 in
theorem c_Loops_isTrusted (l : Launch) (dC : Nat → ClassId) (dI : Nat → Nat → Nat) (cA : ClassId × ClassId × ClassId) (h0 : Nat) (b1 : Nat) (a0 : Nat) (a1 : Nat) (a2 : Nat) (a3 : Nat) (a4 : Nat) (zs0 : Int32) (rw0 : Int32) (mk0 : Int32) (n0 : Nat) (f0 : Nat → Int32) (n1 : Nat) (f1 : Nat → Int32) (n2 : Nat) (f2 : Nat → Int32) (n3 : Nat) (f3 : Nat → Int32) (n4 : Nat) (f4 : Nat → Int32) (pl : Int32) (hn0 : n0 < 2147483648) (hn1 : n1 < 2147483648) (hn2 : n2 < 2147483648) (hn3 : n3 < 2147483648) (hn4 : n4 < 2147483648) : Met l yLoops_isTrusted wLoops_isTrusted ({ frames := 2, cells := 0, slots := 0, locals := 42 }) (va_Pc [.ref h0, .int pl] (Rd (dC, dI) cA [(h0, .inr (5, [.int zs0, .int rw0, .int mk0, .ref b1, .ref a1, .ref a2, .ref a3, .ref a4])), (b1, .inr (3, [.int zs0, .int rw0, .int mk0, .int (bI false), .ref a0])), (a0, .inl (cA.1, n0, .inl f0)), (a1, .inl (cA.1, n1, .inl f1)), (a2, .inl (cA.1, n2, .inl f2)), (a3, .inl (cA.1, n3, .inl f3)), (a4, .inl (cA.1, n4, .inl f4))])) (QcRead (bI (tf_Loops_isTrusted zs0 mk0 n1 f1 n4 f4 pl))) 0 0 (fun _ => False) := by
  refine Met.ofW (cc := cLoops_isTrusted) (maxL := 2) (ret := (some .boolean)) (by decide) rfl ?_
  intro p e s m args below meth c s₁ B hml hv
  obtain ⟨rfl, hN, hP, hK⟩ := hv
  have hx := B.exec
  have hb := B.bytes
  have hr := B.returns
  have hts := atoms_spec (ws := wLoops_isTrusted) B.pre
  have htg : ∀ w ∈ GW, w.before _ s = true := fun w h => hts w (List.mem_cons_of_mem _ h)
  have hown : s.vm.findClass R_Loops = some m.cls := findClass_of_methodNamed B.named
  have hlocks := B.notSynchronized
  obtain ⟨rs, hfn⟩ : ∃ rs, (tf_Loops_isTrusted zs0 mk0 n1 f1 n4 f4 pl) = rs := ⟨_, rfl⟩
  try rw [hfn]
  have hl := lv_entry ([.ref h0, .int pl]) (n := 2) (Nat.le_of_ble_eq_true rfl)
  rw [lg_entry_eq]
  generalize (lg_sl ([.ref h0, .int pl]) ++ List.replicate (2 - (lg_sl ([.ref h0, .int pl])).length) Slot.unset).toArray = ls at hl ⊢
  have hl : lv_has ls 2 [(0, .ref h0), (1, .int pl)] := hl
  unfold tf_Loops_isTrusted at hfn
  refine lv_aload_n hx hb dLoops_isTrusted_0 rfl (lv_at hl 0 rfl) ?_
  refine lv_iload_n hx hb dLoops_isTrusted_1 rfl (lv_at hl 1 rfl) ?_
  refine rd_V (As := [.int pl]) (rest := []) ⟨hx, hb, hml, hown, htg⟩ (c_Loops_hasTag l dC dI cA h0 b1 a0 a1 a2 a3 a4 zs0 rw0 mk0 n0 f0 n1 f1 n2 f2 n3 f3 n4 f4 pl hn0 hn1 hn2 hn3 hn4) (cw_V htg wd_362 ws_3 qLoops_hasTag iLoops_hasTag kLoops_hasTag pLoops_hasTag rfl rfl ⟨Nat.le_of_ble_eq_true rfl, Nat.le_of_ble_eq_true rfl⟩) (va_recv hK hP (ci := 5) (q0 := 0) rfl rfl) hN (hP.sub [0, 1, 2, 3, 4, 5, 6] rfl) hK rfl hl.1 rfl (Nat.le_of_ble_eq_true rfl) dLoops_isTrusted_2 ⟨Nat.le_of_ble_eq_true rfl, Nat.le_of_ble_eq_true rfl⟩ ?_
  refine lv_if_eq (tgt := 28) hx hb dLoops_isTrusted_5 (by decide) (fun c_1 => ?_) (fun c_1 => ?_)
  · rw [if_pos c_1] at hfn
    refine lv_iconst (v := 0) hx hb dLoops_isTrusted_28 (by decide) ?_
    subst hfn
    exact W.zret hx hb hr rfl (fun t ht hW => ⟨rfl, ht⟩) (fun _ h => by cases h) dLoops_isTrusted_29
  · rw [if_neg c_1] at hfn
    refine lv_aload_n hx hb dLoops_isTrusted_8 rfl (lv_at hl 0 rfl) ?_
    refine va_get (D := (dC, dI)) (ci := 5) (v := .ref a4) (C := R_Loops) (T := T_Loops) (N := 8) hx hb htg in_Loops hown hK hP 0 rfl rfl 7 (by decide) (htg _ wd_203) (fun _ h9 => h9) rfl dLoops_isTrusted_9 ?_
    refine lv_aload_n hx hb dLoops_isTrusted_12 rfl (lv_at hl 0 rfl) ?_
    refine lv_iload_n hx hb dLoops_isTrusted_13 rfl (lv_at hl 1 rfl) ?_
    refine rd_U (As := [.int pl]) (rest := [.ref a4]) ⟨hx, hb, hml, hown, htg⟩ (c_Loops_plainRow l dC dI cA h0 b1 a0 a1 a2 a3 a4 zs0 rw0 mk0 n0 f0 n1 f1 n2 f2 n3 f3 n4 f4 pl hn0 hn1 hn2 hn3 hn4) (cw_U (n := 1) htg wd_366 wd_367 wd_368 qKind_plainRow iKind_plainRow kKind_plainRow (va_Decl.abs (hN _ wn_318)) (by decide +kernel) (by decide +kernel) rfl rfl ⟨Nat.le_of_ble_eq_true rfl, Nat.le_of_ble_eq_true rfl⟩) (va_recv hK hP (ci := 5) (q0 := 0) rfl rfl) hN (hP.sub [0, 1, 2, 3, 4, 5, 6] rfl) hK rfl hl.1 rfl (Nat.le_of_ble_eq_true rfl) dLoops_isTrusted_14 ⟨Nat.le_of_ble_eq_true rfl, Nat.le_of_ble_eq_true rfl⟩ ?_
    refine rd_SN (As := [.ref a4, .int (tf_Loops_plainRow zs0 mk0 pl)]) (rest := []) ⟨hx, hb, hml, hown, htg⟩ (c_PK_at l dC dI cA a4 n4 f4 (tf_Loops_plainRow zs0 mk0 pl) hn4) (cw_SN htg hN wn_369 qPK_at iPK_at kPK_at pPK_at rfl rfl ⟨Nat.le_of_ble_eq_true rfl, Nat.le_of_ble_eq_true rfl⟩) hN (hP.sub [6] rfl) hK rfl hl.1 rfl (Nat.le_of_ble_eq_true rfl) dLoops_isTrusted_17 ⟨Nat.le_of_ble_eq_true rfl, Nat.le_of_ble_eq_true rfl⟩ ?_
    refine lv_iconst (v := 3) hx hb dLoops_isTrusted_20 (by decide) ?_
    refine lv_icmp_ne (tgt := 28) hx hb dLoops_isTrusted_21 (by decide) (fun c_2 => ?_) (fun c_2 => ?_)
    · rw [if_neg c_2] at hfn
      refine lv_iconst (v := 0) hx hb dLoops_isTrusted_28 (by decide) ?_
      subst hfn
      exact W.zret hx hb hr rfl (fun t ht hW => ⟨rfl, ht⟩) (fun _ h => by cases h) dLoops_isTrusted_29
    · rw [if_pos c_2] at hfn
      refine lv_iconst (v := 1) hx hb dLoops_isTrusted_24 (by decide) ?_
      refine lv_goto (tgt := 29) hx hb dLoops_isTrusted_25 (by decide) ?_
      subst hfn
      exact W.zret hx hb hr rfl (fun t ht hW => ⟨rfl, ht⟩) (fun _ h => by cases h) dLoops_isTrusted_29
def tf_Loops_forget (n2 : Nat) (f2 : Nat → Int32) (n3 : Nat) (f3 : Nat → Int32) (n4 : Nat) (f4 : Nat → Int32) (i0 : Int32) : (Nat → Int32) × (Nat → Int32) × (Nat → Int32) := (((tf_PK_put n2 f2 i0 0)), ((tf_PK_put n3 f3 i0 0)), ((tf_PK_put n4 f4 i0 0)))
set_option maxHeartbeats 4000000 in
set_option maxRecDepth 100000 in
theorem c_Loops_forget (l : Launch) (dC : Nat → ClassId) (dI : Nat → Nat → Nat) (cA : ClassId × ClassId × ClassId) (zz : Nat) (h0 : Nat) (b1 : Nat) (a0 : Nat) (a1 : Nat) (a2 : Nat) (a3 : Nat) (a4 : Nat) (zs0 : Int32) (rw0 : Int32) (mk0 : Int32) (n0 : Nat) (f0 : Nat → Int32) (n1 : Nat) (f1 : Nat → Int32) (n2 : Nat) (f2 : Nat → Int32) (n3 : Nat) (f3 : Nat → Int32) (n4 : Nat) (f4 : Nat → Int32) (i0 : Int32) (hn0 : n0 < 2147483648) (hn1 : n1 < 2147483648) (hn2 : n2 < 2147483648) (hn3 : n3 < 2147483648) (hn4 : n4 < 2147483648) : Met l yLoops_forget wLoops_forget ({ frames := 1, cells := 0, slots := 0, locals := 22 }) (va_Pc [.ref h0, .int i0] (Wr (dC, dI) cA zz [(h0, .inr (5, [.int zs0, .int rw0, .int mk0, .ref b1, .ref a1, .ref a2, .ref a3, .ref a4])), (b1, .inr (3, [.int zs0, .int rw0, .int mk0, .int (bI false), .ref a0])), (a0, .inl (cA.1, n0, .inl f0)), (a1, .inl (cA.1, n1, .inl f1)), (a2, .inl (cA.1, n2, .inl f2)), (a3, .inl (cA.1, n3, .inl f3)), (a4, .inl (cA.1, n4, .inl f4))])) (va_Qv (fun w9 => w9 = [(h0, .inr (5, [.int zs0, .int rw0, .int mk0, .ref b1, .ref a1, .ref a2, .ref a3, .ref a4])), (b1, .inr (3, [.int zs0, .int rw0, .int mk0, .int (bI false), .ref a0])), (a0, .inl (cA.1, n0, .inl f0)), (a1, .inl (cA.1, n1, .inl f1)), (a2, .inl (cA.1, n2, .inl ((tf_Loops_forget n2 f2 n3 f3 n4 f4 i0).1))), (a3, .inl (cA.1, n3, .inl ((tf_Loops_forget n2 f2 n3 f3 n4 f4 i0).2.1))), (a4, .inl (cA.1, n4, .inl ((tf_Loops_forget n2 f2 n3 f3 n4 f4 i0).2.2)))]) (At (dC, dI) cA (va_A [(h0, .inr (5, [.int zs0, .int rw0, .int mk0, .ref b1, .ref a1, .ref a2, .ref a3, .ref a4])), (b1, .inr (3, [.int zs0, .int rw0, .int mk0, .int (bI false), .ref a0])), (a0, .inl (cA.1, n0, .inl f0)), (a1, .inl (cA.1, n1, .inl f1)), (a2, .inl (cA.1, n2, .inl f2)), (a3, .inl (cA.1, n3, .inl f3)), (a4, .inl (cA.1, n4, .inl f4))] zz)) (va_A [(h0, .inr (5, [.int zs0, .int rw0, .int mk0, .ref b1, .ref a1, .ref a2, .ref a3, .ref a4])), (b1, .inr (3, [.int zs0, .int rw0, .int mk0, .int (bI false), .ref a0])), (a0, .inl (cA.1, n0, .inl f0)), (a1, .inl (cA.1, n1, .inl f1)), (a2, .inl (cA.1, n2, .inl f2)), (a3, .inl (cA.1, n3, .inl f3)), (a4, .inl (cA.1, n4, .inl f4))] zz)) 0 0 (va_A [(h0, .inr (5, [.int zs0, .int rw0, .int mk0, .ref b1, .ref a1, .ref a2, .ref a3, .ref a4])), (b1, .inr (3, [.int zs0, .int rw0, .int mk0, .int (bI false), .ref a0])), (a0, .inl (cA.1, n0, .inl f0)), (a1, .inl (cA.1, n1, .inl f1)), (a2, .inl (cA.1, n2, .inl f2)), (a3, .inl (cA.1, n3, .inl f3)), (a4, .inl (cA.1, n4, .inl f4))] zz) := by
  refine Met.ofW (cc := cLoops_forget) (maxL := 2) (ret := none) (by decide) rfl ?_
  intro p e s m args below meth c s₁ B hml hv
  obtain ⟨rfl, hsz, hN, hP, hK, hD0⟩ := hv
  have hx := B.exec
  have hb := B.bytes
  have hr := B.returns
  have hts := atoms_spec (ws := wLoops_forget) B.pre
  have htg : ∀ w ∈ GW, w.before _ s = true := fun w h => hts w (List.mem_cons_of_mem _ h)
  have hown : s.vm.findClass R_Loops = some m.cls := findClass_of_methodNamed B.named
  have hlocks := B.notSynchronized
  subst hsz
  have hD := hD0.self (sz := s.heap.size)
  generalize hAe : va_A [(h0, .inr (5, [.int zs0, .int rw0, .int mk0, .ref b1, .ref a1, .ref a2, .ref a3, .ref a4])), (b1, .inr (3, [.int zs0, .int rw0, .int mk0, .int (bI false), .ref a0])), (a0, .inl (cA.1, n0, .inl f0)), (a1, .inl (cA.1, n1, .inl f1)), (a2, .inl (cA.1, n2, .inl f2)), (a3, .inl (cA.1, n3, .inl f3)), (a4, .inl (cA.1, n4, .inl f4))] s.heap.size = A at hD ⊢
  have hA : ∀ q : Nat, s.heap.size ≤ q → A q := fun q h => by rw [← hAe]; exact Or.inr h
  have hS : va_S A s.heap s.heap [] := va_S.rf
  have hP : va_P (dC, dI) vwCl [(h0, .inr (5, [.int zs0, .int rw0, .int mk0, .ref b1, .ref a1, .ref a2, .ref a3, .ref a4])), (b1, .inr (3, [.int zs0, .int rw0, .int mk0, .int (bI false), .ref a0])), (a0, .inl (cA.1, n0, .inl f0)), (a1, .inl (cA.1, n1, .inl f1)), (a2, .inl (cA.1, n2, .inl f2)), (a3, .inl (cA.1, n3, .inl f3)), (a4, .inl (cA.1, n4, .inl f4))] s.heap := hP
  obtain ⟨rs, hfn⟩ : ∃ rs, (tf_Loops_forget n2 f2 n3 f3 n4 f4 i0) = rs := ⟨_, rfl⟩
  try rw [hfn]
  have hl := lv_entry ([.ref h0, .int i0]) (n := 2) (Nat.le_of_ble_eq_true rfl)
  rw [lg_entry_eq]
  generalize (lg_sl ([.ref h0, .int i0]) ++ List.replicate (2 - (lg_sl ([.ref h0, .int i0])).length) Slot.unset).toArray = ls at hl ⊢
  have hl : lv_has ls 2 [(0, .ref h0), (1, .int i0)] := hl
  unfold tf_Loops_forget at hfn
  refine lv_aload_n hx hb dLoops_forget_0 rfl (lv_at hl 0 rfl) ?_
  refine va_get (D := (dC, dI)) (ci := 5) (v := .ref a2) (C := R_Loops) (T := T_Loops) (N := 8) hx hb htg in_Loops hown hK hP 0 rfl rfl 5 (by decide) (htg _ wd_201) (fun _ h9 => h9) rfl dLoops_forget_1 ?_
  refine lv_iload_n hx hb dLoops_forget_4 rfl (lv_at hl 1 rfl) ?_
  refine lv_iconst (v := 0) hx hb dLoops_forget_5 (by decide) ?_
  refine wr_SNv (wr := [(h0, .inr (5, [.int zs0, .int rw0, .int mk0, .ref b1, .ref a1, .ref a2, .ref a3, .ref a4])), (b1, .inr (3, [.int zs0, .int rw0, .int mk0, .int (bI false), .ref a0])), (a0, .inl (cA.1, n0, .inl f0)), (a1, .inl (cA.1, n1, .inl f1)), (a3, .inl (cA.1, n3, .inl f3)), (a4, .inl (cA.1, n4, .inl f4))]) (As := [.ref a2, .int i0, .int 0]) (rest := []) ⟨hx, hb, hml, hown, htg⟩ (c_PK_put l dC dI cA _ a2 n2 f2 i0 0 hn2) (cw_SN htg hN wn_500 qPK_put iPK_put kPK_put pPK_put rfl rfl ⟨Nat.le_of_ble_eq_true rfl, Nat.le_of_ble_eq_true rfl⟩) hN hP hD hS hA hK [4] [0, 1, 2, 3, 5, 6] rfl rfl (by decide) (by decide) (by decide) rfl hl.1 rfl (Nat.le_of_ble_eq_true rfl) dLoops_forget_6 ⟨Nat.le_of_ble_eq_true rfl, Nat.le_of_ble_eq_true rfl⟩ (fun H locs hP hD hS => ?_)
  have hP : va_P (dC, dI) vwCl [(h0, .inr (5, [.int zs0, .int rw0, .int mk0, .ref b1, .ref a1, .ref a2, .ref a3, .ref a4])), (b1, .inr (3, [.int zs0, .int rw0, .int mk0, .int (bI false), .ref a0])), (a0, .inl (cA.1, n0, .inl f0)), (a1, .inl (cA.1, n1, .inl f1)), (a3, .inl (cA.1, n3, .inl f3)), (a4, .inl (cA.1, n4, .inl f4)), (a2, .inl (cA.1, n2, .inl ((tf_PK_put n2 f2 i0 0))))] H := hP
  have hD : va_D A [(h0, .inr (5, [.int zs0, .int rw0, .int mk0, .ref b1, .ref a1, .ref a2, .ref a3, .ref a4])), (b1, .inr (3, [.int zs0, .int rw0, .int mk0, .int (bI false), .ref a0])), (a0, .inl (cA.1, n0, .inl f0)), (a1, .inl (cA.1, n1, .inl f1)), (a3, .inl (cA.1, n3, .inl f3)), (a4, .inl (cA.1, n4, .inl f4)), (a2, .inl (cA.1, n2, .inl ((tf_PK_put n2 f2 i0 0))))] := hD
  refine lv_aload_n hx hb dLoops_forget_9 rfl (lv_at hl 0 rfl) ?_
  refine va_get (D := (dC, dI)) (ci := 5) (v := .ref a3) (C := R_Loops) (T := T_Loops) (N := 8) hx hb htg in_Loops hown hK hP 0 rfl rfl 6 (by decide) (htg _ wd_202) (fun _ h9 => h9) rfl dLoops_forget_10 ?_
  refine lv_iload_n hx hb dLoops_forget_13 rfl (lv_at hl 1 rfl) ?_
  refine lv_iconst (v := 0) hx hb dLoops_forget_14 (by decide) ?_
  refine wr_SNv (wr := [(h0, .inr (5, [.int zs0, .int rw0, .int mk0, .ref b1, .ref a1, .ref a2, .ref a3, .ref a4])), (b1, .inr (3, [.int zs0, .int rw0, .int mk0, .int (bI false), .ref a0])), (a0, .inl (cA.1, n0, .inl f0)), (a1, .inl (cA.1, n1, .inl f1)), (a4, .inl (cA.1, n4, .inl f4)), (a2, .inl (cA.1, n2, .inl ((tf_PK_put n2 f2 i0 0))))]) (As := [.ref a3, .int i0, .int 0]) (rest := []) ⟨hx, hb, hml, hown, htg⟩ (c_PK_put l dC dI cA _ a3 n3 f3 i0 0 hn3) (cw_SN htg hN wn_500 qPK_put iPK_put kPK_put pPK_put rfl rfl ⟨Nat.le_of_ble_eq_true rfl, Nat.le_of_ble_eq_true rfl⟩) hN hP hD hS hA hK [4] [0, 1, 2, 3, 5, 6] rfl rfl (by decide) (by decide) (by decide) rfl hl.1 rfl (Nat.le_of_ble_eq_true rfl) dLoops_forget_15 ⟨Nat.le_of_ble_eq_true rfl, Nat.le_of_ble_eq_true rfl⟩ (fun H locs hP hD hS => ?_)
  have hP : va_P (dC, dI) vwCl [(h0, .inr (5, [.int zs0, .int rw0, .int mk0, .ref b1, .ref a1, .ref a2, .ref a3, .ref a4])), (b1, .inr (3, [.int zs0, .int rw0, .int mk0, .int (bI false), .ref a0])), (a0, .inl (cA.1, n0, .inl f0)), (a1, .inl (cA.1, n1, .inl f1)), (a4, .inl (cA.1, n4, .inl f4)), (a2, .inl (cA.1, n2, .inl ((tf_PK_put n2 f2 i0 0)))), (a3, .inl (cA.1, n3, .inl ((tf_PK_put n3 f3 i0 0))))] H := hP
  have hD : va_D A [(h0, .inr (5, [.int zs0, .int rw0, .int mk0, .ref b1, .ref a1, .ref a2, .ref a3, .ref a4])), (b1, .inr (3, [.int zs0, .int rw0, .int mk0, .int (bI false), .ref a0])), (a0, .inl (cA.1, n0, .inl f0)), (a1, .inl (cA.1, n1, .inl f1)), (a4, .inl (cA.1, n4, .inl f4)), (a2, .inl (cA.1, n2, .inl ((tf_PK_put n2 f2 i0 0)))), (a3, .inl (cA.1, n3, .inl ((tf_PK_put n3 f3 i0 0))))] := hD
  refine lv_aload_n hx hb dLoops_forget_18 rfl (lv_at hl 0 rfl) ?_
  refine va_get (D := (dC, dI)) (ci := 5) (v := .ref a4) (C := R_Loops) (T := T_Loops) (N := 8) hx hb htg in_Loops hown hK hP 0 rfl rfl 7 (by decide) (htg _ wd_203) (fun _ h9 => h9) rfl dLoops_forget_19 ?_
  refine lv_iload_n hx hb dLoops_forget_22 rfl (lv_at hl 1 rfl) ?_
  refine lv_iconst (v := 0) hx hb dLoops_forget_23 (by decide) ?_
  refine wr_SNv (wr := [(h0, .inr (5, [.int zs0, .int rw0, .int mk0, .ref b1, .ref a1, .ref a2, .ref a3, .ref a4])), (b1, .inr (3, [.int zs0, .int rw0, .int mk0, .int (bI false), .ref a0])), (a0, .inl (cA.1, n0, .inl f0)), (a1, .inl (cA.1, n1, .inl f1)), (a2, .inl (cA.1, n2, .inl ((tf_PK_put n2 f2 i0 0)))), (a3, .inl (cA.1, n3, .inl ((tf_PK_put n3 f3 i0 0))))]) (As := [.ref a4, .int i0, .int 0]) (rest := []) ⟨hx, hb, hml, hown, htg⟩ (c_PK_put l dC dI cA _ a4 n4 f4 i0 0 hn4) (cw_SN htg hN wn_500 qPK_put iPK_put kPK_put pPK_put rfl rfl ⟨Nat.le_of_ble_eq_true rfl, Nat.le_of_ble_eq_true rfl⟩) hN hP hD hS hA hK [4] [0, 1, 2, 3, 5, 6] rfl rfl (by decide) (by decide) (by decide) rfl hl.1 rfl (Nat.le_of_ble_eq_true rfl) dLoops_forget_24 ⟨Nat.le_of_ble_eq_true rfl, Nat.le_of_ble_eq_true rfl⟩ (fun H locs hP hD hS => ?_)
  have hP : va_P (dC, dI) vwCl [(h0, .inr (5, [.int zs0, .int rw0, .int mk0, .ref b1, .ref a1, .ref a2, .ref a3, .ref a4])), (b1, .inr (3, [.int zs0, .int rw0, .int mk0, .int (bI false), .ref a0])), (a0, .inl (cA.1, n0, .inl f0)), (a1, .inl (cA.1, n1, .inl f1)), (a2, .inl (cA.1, n2, .inl ((tf_PK_put n2 f2 i0 0)))), (a3, .inl (cA.1, n3, .inl ((tf_PK_put n3 f3 i0 0)))), (a4, .inl (cA.1, n4, .inl ((tf_PK_put n4 f4 i0 0))))] H := hP
  have hD : va_D A [(h0, .inr (5, [.int zs0, .int rw0, .int mk0, .ref b1, .ref a1, .ref a2, .ref a3, .ref a4])), (b1, .inr (3, [.int zs0, .int rw0, .int mk0, .int (bI false), .ref a0])), (a0, .inl (cA.1, n0, .inl f0)), (a1, .inl (cA.1, n1, .inl f1)), (a2, .inl (cA.1, n2, .inl ((tf_PK_put n2 f2 i0 0)))), (a3, .inl (cA.1, n3, .inl ((tf_PK_put n3 f3 i0 0)))), (a4, .inl (cA.1, n4, .inl ((tf_PK_put n4 f4 i0 0))))] := hD
  subst hfn
  exact W.vret hx hb hr (fun t ht hW => ⟨⟨_, rfl, rfl, ⟨by rw [ht]; exact hP.sub [0, 1, 2, 3, 4, 5, 6] rfl, va_K.moved hW.alike hK, hD.sub [0, 1, 2, 3, 4, 5, 6] (by decide) rfl⟩⟩, hS.F ht⟩) hS.2.2 dLoops_forget_27
def tf_Loops_goRound (n2 : Nat) (f2 : Nat → Int32) (n3 : Nat) (f3 : Nat → Int32) (n4 : Nat) (f4 : Nat → Int32) (i0 : Int32) : (Nat → Int32) × (Nat → Int32) × (Nat → Int32) := (if 1000 < ((tf_PK_at n3 f3 i0) + 1) then (((tf_Loops_forget n2 f2 n3 ((tf_PK_put n3 f3 i0 ((tf_PK_at n3 f3 i0) + 1))) n4 f4 i0).1), ((tf_Loops_forget n2 f2 n3 ((tf_PK_put n3 f3 i0 ((tf_PK_at n3 f3 i0) + 1))) n4 f4 i0).2.1), ((tf_Loops_forget n2 f2 n3 ((tf_PK_put n3 f3 i0 ((tf_PK_at n3 f3 i0) + 1))) n4 f4 i0).2.2)) else (if (tf_PK_at n4 f4 i0) ≤ 0 then (f2, ((tf_PK_put n3 f3 i0 ((tf_PK_at n3 f3 i0) + 1))), f4) else (if ((tf_PK_at n3 f3 i0) + 1) ≤ (tf_PK_at n2 f2 i0) then (f2, ((tf_PK_put n3 f3 i0 ((tf_PK_at n3 f3 i0) + 1))), f4) else (((tf_Loops_forget n2 f2 n3 ((tf_PK_put n3 f3 i0 ((tf_PK_at n3 f3 i0) + 1))) n4 f4 i0).1), ((tf_Loops_forget n2 f2 n3 ((tf_PK_put n3 f3 i0 ((tf_PK_at n3 f3 i0) + 1))) n4 f4 i0).2.1), ((tf_Loops_forget n2 f2 n3 ((tf_PK_put n3 f3 i0 ((tf_PK_at n3 f3 i0) + 1))) n4 f4 i0).2.2)))))
set_option maxHeartbeats 4000000 in
set_option maxRecDepth 100000 in
theorem c_Loops_goRound (l : Launch) (dC : Nat → ClassId) (dI : Nat → Nat → Nat) (cA : ClassId × ClassId × ClassId) (zz : Nat) (h0 : Nat) (b1 : Nat) (a0 : Nat) (a1 : Nat) (a2 : Nat) (a3 : Nat) (a4 : Nat) (zs0 : Int32) (rw0 : Int32) (mk0 : Int32) (n0 : Nat) (f0 : Nat → Int32) (n1 : Nat) (f1 : Nat → Int32) (n2 : Nat) (f2 : Nat → Int32) (n3 : Nat) (f3 : Nat → Int32) (n4 : Nat) (f4 : Nat → Int32) (i0 : Int32) (hn0 : n0 < 2147483648) (hn1 : n1 < 2147483648) (hn2 : n2 < 2147483648) (hn3 : n3 < 2147483648) (hn4 : n4 < 2147483648) : Met l yLoops_goRound wLoops_goRound ({ frames := 2, cells := 0, slots := 0, locals := 43 }) (va_Pc [.ref h0, .int i0] (Wr (dC, dI) cA zz [(h0, .inr (5, [.int zs0, .int rw0, .int mk0, .ref b1, .ref a1, .ref a2, .ref a3, .ref a4])), (b1, .inr (3, [.int zs0, .int rw0, .int mk0, .int (bI false), .ref a0])), (a0, .inl (cA.1, n0, .inl f0)), (a1, .inl (cA.1, n1, .inl f1)), (a2, .inl (cA.1, n2, .inl f2)), (a3, .inl (cA.1, n3, .inl f3)), (a4, .inl (cA.1, n4, .inl f4))])) (va_Qv (fun w9 => w9 = [(h0, .inr (5, [.int zs0, .int rw0, .int mk0, .ref b1, .ref a1, .ref a2, .ref a3, .ref a4])), (b1, .inr (3, [.int zs0, .int rw0, .int mk0, .int (bI false), .ref a0])), (a0, .inl (cA.1, n0, .inl f0)), (a1, .inl (cA.1, n1, .inl f1)), (a2, .inl (cA.1, n2, .inl ((tf_Loops_goRound n2 f2 n3 f3 n4 f4 i0).1))), (a3, .inl (cA.1, n3, .inl ((tf_Loops_goRound n2 f2 n3 f3 n4 f4 i0).2.1))), (a4, .inl (cA.1, n4, .inl ((tf_Loops_goRound n2 f2 n3 f3 n4 f4 i0).2.2)))]) (At (dC, dI) cA (va_A [(h0, .inr (5, [.int zs0, .int rw0, .int mk0, .ref b1, .ref a1, .ref a2, .ref a3, .ref a4])), (b1, .inr (3, [.int zs0, .int rw0, .int mk0, .int (bI false), .ref a0])), (a0, .inl (cA.1, n0, .inl f0)), (a1, .inl (cA.1, n1, .inl f1)), (a2, .inl (cA.1, n2, .inl f2)), (a3, .inl (cA.1, n3, .inl f3)), (a4, .inl (cA.1, n4, .inl f4))] zz)) (va_A [(h0, .inr (5, [.int zs0, .int rw0, .int mk0, .ref b1, .ref a1, .ref a2, .ref a3, .ref a4])), (b1, .inr (3, [.int zs0, .int rw0, .int mk0, .int (bI false), .ref a0])), (a0, .inl (cA.1, n0, .inl f0)), (a1, .inl (cA.1, n1, .inl f1)), (a2, .inl (cA.1, n2, .inl f2)), (a3, .inl (cA.1, n3, .inl f3)), (a4, .inl (cA.1, n4, .inl f4))] zz)) 0 0 (va_A [(h0, .inr (5, [.int zs0, .int rw0, .int mk0, .ref b1, .ref a1, .ref a2, .ref a3, .ref a4])), (b1, .inr (3, [.int zs0, .int rw0, .int mk0, .int (bI false), .ref a0])), (a0, .inl (cA.1, n0, .inl f0)), (a1, .inl (cA.1, n1, .inl f1)), (a2, .inl (cA.1, n2, .inl f2)), (a3, .inl (cA.1, n3, .inl f3)), (a4, .inl (cA.1, n4, .inl f4))] zz) := by
  refine Met.ofW (cc := cLoops_goRound) (maxL := 3) (ret := none) (by decide) rfl ?_
  intro p e s m args below meth c s₁ B hml hv
  obtain ⟨rfl, hsz, hN, hP, hK, hD0⟩ := hv
  have hx := B.exec
  have hb := B.bytes
  have hr := B.returns
  have hts := atoms_spec (ws := wLoops_goRound) B.pre
  have htg : ∀ w ∈ GW, w.before _ s = true := fun w h => hts w (List.mem_cons_of_mem _ h)
  have hown : s.vm.findClass R_Loops = some m.cls := findClass_of_methodNamed B.named
  have hlocks := B.notSynchronized
  subst hsz
  have hD := hD0.self (sz := s.heap.size)
  generalize hAe : va_A [(h0, .inr (5, [.int zs0, .int rw0, .int mk0, .ref b1, .ref a1, .ref a2, .ref a3, .ref a4])), (b1, .inr (3, [.int zs0, .int rw0, .int mk0, .int (bI false), .ref a0])), (a0, .inl (cA.1, n0, .inl f0)), (a1, .inl (cA.1, n1, .inl f1)), (a2, .inl (cA.1, n2, .inl f2)), (a3, .inl (cA.1, n3, .inl f3)), (a4, .inl (cA.1, n4, .inl f4))] s.heap.size = A at hD ⊢
  have hA : ∀ q : Nat, s.heap.size ≤ q → A q := fun q h => by rw [← hAe]; exact Or.inr h
  have hS : va_S A s.heap s.heap [] := va_S.rf
  have hP : va_P (dC, dI) vwCl [(h0, .inr (5, [.int zs0, .int rw0, .int mk0, .ref b1, .ref a1, .ref a2, .ref a3, .ref a4])), (b1, .inr (3, [.int zs0, .int rw0, .int mk0, .int (bI false), .ref a0])), (a0, .inl (cA.1, n0, .inl f0)), (a1, .inl (cA.1, n1, .inl f1)), (a2, .inl (cA.1, n2, .inl f2)), (a3, .inl (cA.1, n3, .inl f3)), (a4, .inl (cA.1, n4, .inl f4))] s.heap := hP
  obtain ⟨rs, hfn⟩ : ∃ rs, (tf_Loops_goRound n2 f2 n3 f3 n4 f4 i0) = rs := ⟨_, rfl⟩
  try rw [hfn]
  have hl := lv_entry ([.ref h0, .int i0]) (n := 3) (Nat.le_of_ble_eq_true rfl)
  rw [lg_entry_eq]
  generalize (lg_sl ([.ref h0, .int i0]) ++ List.replicate (3 - (lg_sl ([.ref h0, .int i0])).length) Slot.unset).toArray = ls at hl ⊢
  have hl : lv_has ls 3 [(0, .ref h0), (1, .int i0)] := hl
  unfold tf_Loops_goRound at hfn
  refine lv_aload_n hx hb dLoops_goRound_0 rfl (lv_at hl 0 rfl) ?_
  refine va_get (D := (dC, dI)) (ci := 5) (v := .ref a3) (C := R_Loops) (T := T_Loops) (N := 8) hx hb htg in_Loops hown hK hP 0 rfl rfl 6 (by decide) (htg _ wd_202) (fun _ h9 => h9) rfl dLoops_goRound_1 ?_
  refine lv_iload_n hx hb dLoops_goRound_4 rfl (lv_at hl 1 rfl) ?_
  refine rd_SN (As := [.ref a3, .int i0]) (rest := []) ⟨hx, hb, hml, hown, htg⟩ (c_PK_at l dC dI cA a3 n3 f3 i0 hn3) (cw_SN htg hN wn_369 qPK_at iPK_at kPK_at pPK_at rfl rfl ⟨Nat.le_of_ble_eq_true rfl, Nat.le_of_ble_eq_true rfl⟩) hN (hP.sub [5] rfl) hK rfl hl.1 rfl (Nat.le_of_ble_eq_true rfl) dLoops_goRound_5 ⟨Nat.le_of_ble_eq_true rfl, Nat.le_of_ble_eq_true rfl⟩ ?_
  refine lv_iconst (v := 1) hx hb dLoops_goRound_8 (by decide) ?_
  refine lv_iadd hx hb dLoops_goRound_9 ?_
  refine lv_istore_n (lv' := [(2, .int ((tf_PK_at n3 f3 i0) + 1)), (0, .ref h0), (1, .int i0)]) hx hb dLoops_goRound_10 rfl hl (by decide) rfl (fun ls hl => ?_)
  refine lv_aload_n hx hb dLoops_goRound_11 rfl (lv_at hl 1 rfl) ?_
  refine va_get (D := (dC, dI)) (ci := 5) (v := .ref a3) (C := R_Loops) (T := T_Loops) (N := 8) hx hb htg in_Loops hown hK hP 0 rfl rfl 6 (by decide) (htg _ wd_202) (fun _ h9 => h9) rfl dLoops_goRound_12 ?_
  refine lv_iload_n hx hb dLoops_goRound_15 rfl (lv_at hl 2 rfl) ?_
  refine lv_iload_n hx hb dLoops_goRound_16 rfl (lv_at hl 0 rfl) ?_
  refine wr_SNv (wr := [(h0, .inr (5, [.int zs0, .int rw0, .int mk0, .ref b1, .ref a1, .ref a2, .ref a3, .ref a4])), (b1, .inr (3, [.int zs0, .int rw0, .int mk0, .int (bI false), .ref a0])), (a0, .inl (cA.1, n0, .inl f0)), (a1, .inl (cA.1, n1, .inl f1)), (a2, .inl (cA.1, n2, .inl f2)), (a4, .inl (cA.1, n4, .inl f4))]) (As := [.ref a3, .int i0, .int ((tf_PK_at n3 f3 i0) + 1)]) (rest := []) ⟨hx, hb, hml, hown, htg⟩ (c_PK_put l dC dI cA _ a3 n3 f3 i0 ((tf_PK_at n3 f3 i0) + 1) hn3) (cw_SN htg hN wn_500 qPK_put iPK_put kPK_put pPK_put rfl rfl ⟨Nat.le_of_ble_eq_true rfl, Nat.le_of_ble_eq_true rfl⟩) hN hP hD hS hA hK [5] [0, 1, 2, 3, 4, 6] rfl rfl (by decide) (by decide) (by decide) rfl hl.1 rfl (Nat.le_of_ble_eq_true rfl) dLoops_goRound_17 ⟨Nat.le_of_ble_eq_true rfl, Nat.le_of_ble_eq_true rfl⟩ (fun H locs hP hD hS => ?_)
  have hP : va_P (dC, dI) vwCl [(h0, .inr (5, [.int zs0, .int rw0, .int mk0, .ref b1, .ref a1, .ref a2, .ref a3, .ref a4])), (b1, .inr (3, [.int zs0, .int rw0, .int mk0, .int (bI false), .ref a0])), (a0, .inl (cA.1, n0, .inl f0)), (a1, .inl (cA.1, n1, .inl f1)), (a2, .inl (cA.1, n2, .inl f2)), (a4, .inl (cA.1, n4, .inl f4)), (a3, .inl (cA.1, n3, .inl ((tf_PK_put n3 f3 i0 ((tf_PK_at n3 f3 i0) + 1)))))] H := hP
  have hD : va_D A [(h0, .inr (5, [.int zs0, .int rw0, .int mk0, .ref b1, .ref a1, .ref a2, .ref a3, .ref a4])), (b1, .inr (3, [.int zs0, .int rw0, .int mk0, .int (bI false), .ref a0])), (a0, .inl (cA.1, n0, .inl f0)), (a1, .inl (cA.1, n1, .inl f1)), (a2, .inl (cA.1, n2, .inl f2)), (a4, .inl (cA.1, n4, .inl f4)), (a3, .inl (cA.1, n3, .inl ((tf_PK_put n3 f3 i0 ((tf_PK_at n3 f3 i0) + 1)))))] := hD
  refine lv_iload_n hx hb dLoops_goRound_20 rfl (lv_at hl 0 rfl) ?_
  refine lv_sipush (v := 1000) hx hb dLoops_goRound_21 (by decide) ?_
  refine lv_icmp_gt (tgt := 50) hx hb dLoops_goRound_24 (by decide) (fun c_1 => ?_) (fun c_1 => ?_)
  · rw [if_pos c_1] at hfn
    refine lv_aload_n hx hb dLoops_goRound_50 rfl (lv_at hl 1 rfl) ?_
    refine lv_iload_n hx hb dLoops_goRound_51 rfl (lv_at hl 2 rfl) ?_
    refine wr_Vv (wr := []) (As := [.int i0]) (rest := []) ⟨hx, hb, hml, hown, htg⟩ (c_Loops_forget l dC dI cA _ h0 b1 a0 a1 a2 a3 a4 zs0 rw0 mk0 n0 f0 n1 f1 n2 f2 n3 ((tf_PK_put n3 f3 i0 ((tf_PK_at n3 f3 i0) + 1))) n4 f4 i0 hn0 hn1 hn2 hn3 hn4) (cw_V htg wd_501 ws_12 qLoops_forget iLoops_forget kLoops_forget pLoops_forget rfl rfl ⟨Nat.le_of_ble_eq_true rfl, Nat.le_of_ble_eq_true rfl⟩) (va_recv hK hP (ci := 5) (q0 := 0) rfl rfl) hN hP hD hS hA hK [0, 1, 2, 3, 4, 6, 5] [] rfl rfl (by decide) (by decide) (by decide) rfl hl.1 rfl (Nat.le_of_ble_eq_true rfl) dLoops_goRound_52 ⟨Nat.le_of_ble_eq_true rfl, Nat.le_of_ble_eq_true rfl⟩ (fun H locs hP hD hS => ?_)
    have hP : va_P (dC, dI) vwCl [(h0, .inr (5, [.int zs0, .int rw0, .int mk0, .ref b1, .ref a1, .ref a2, .ref a3, .ref a4])), (b1, .inr (3, [.int zs0, .int rw0, .int mk0, .int (bI false), .ref a0])), (a0, .inl (cA.1, n0, .inl f0)), (a1, .inl (cA.1, n1, .inl f1)), (a2, .inl (cA.1, n2, .inl ((tf_Loops_forget n2 f2 n3 ((tf_PK_put n3 f3 i0 ((tf_PK_at n3 f3 i0) + 1))) n4 f4 i0).1))), (a3, .inl (cA.1, n3, .inl ((tf_Loops_forget n2 f2 n3 ((tf_PK_put n3 f3 i0 ((tf_PK_at n3 f3 i0) + 1))) n4 f4 i0).2.1))), (a4, .inl (cA.1, n4, .inl ((tf_Loops_forget n2 f2 n3 ((tf_PK_put n3 f3 i0 ((tf_PK_at n3 f3 i0) + 1))) n4 f4 i0).2.2)))] H := hP
    have hD : va_D A [(h0, .inr (5, [.int zs0, .int rw0, .int mk0, .ref b1, .ref a1, .ref a2, .ref a3, .ref a4])), (b1, .inr (3, [.int zs0, .int rw0, .int mk0, .int (bI false), .ref a0])), (a0, .inl (cA.1, n0, .inl f0)), (a1, .inl (cA.1, n1, .inl f1)), (a2, .inl (cA.1, n2, .inl ((tf_Loops_forget n2 f2 n3 ((tf_PK_put n3 f3 i0 ((tf_PK_at n3 f3 i0) + 1))) n4 f4 i0).1))), (a3, .inl (cA.1, n3, .inl ((tf_Loops_forget n2 f2 n3 ((tf_PK_put n3 f3 i0 ((tf_PK_at n3 f3 i0) + 1))) n4 f4 i0).2.1))), (a4, .inl (cA.1, n4, .inl ((tf_Loops_forget n2 f2 n3 ((tf_PK_put n3 f3 i0 ((tf_PK_at n3 f3 i0) + 1))) n4 f4 i0).2.2)))] := hD
    subst hfn
    exact W.vret hx hb hr (fun t ht hW => ⟨⟨_, rfl, rfl, ⟨by rw [ht]; exact hP.sub [0, 1, 2, 3, 4, 5, 6] rfl, va_K.moved hW.alike hK, hD.sub [0, 1, 2, 3, 4, 5, 6] (by decide) rfl⟩⟩, hS.F ht⟩) hS.2.2 dLoops_goRound_55
  · rw [if_neg c_1] at hfn
    refine lv_aload_n hx hb dLoops_goRound_27 rfl (lv_at hl 1 rfl) ?_
    refine va_get (D := (dC, dI)) (ci := 5) (v := .ref a4) (C := R_Loops) (T := T_Loops) (N := 8) hx hb htg in_Loops hown hK hP 0 rfl rfl 7 (by decide) (htg _ wd_203) (fun _ h9 => h9) rfl dLoops_goRound_28 ?_
    refine lv_iload_n hx hb dLoops_goRound_31 rfl (lv_at hl 2 rfl) ?_
    refine rd_SN (As := [.ref a4, .int i0]) (rest := []) ⟨hx, hb, hml, hown, htg⟩ (c_PK_at l dC dI cA a4 n4 f4 i0 hn4) (cw_SN htg hN wn_369 qPK_at iPK_at kPK_at pPK_at rfl rfl ⟨Nat.le_of_ble_eq_true rfl, Nat.le_of_ble_eq_true rfl⟩) hN (hP.sub [5] rfl) hK rfl hl.1 rfl (Nat.le_of_ble_eq_true rfl) dLoops_goRound_32 ⟨Nat.le_of_ble_eq_true rfl, Nat.le_of_ble_eq_true rfl⟩ ?_
    refine lv_if_le (tgt := 55) hx hb dLoops_goRound_35 (by decide) (fun c_2 => ?_) (fun c_2 => ?_)
    · rw [if_pos c_2] at hfn
      subst hfn
      exact W.vret hx hb hr (fun t ht hW => ⟨⟨_, rfl, rfl, ⟨by rw [ht]; exact hP.sub [0, 1, 2, 3, 4, 6, 5] rfl, va_K.moved hW.alike hK, hD.sub [0, 1, 2, 3, 4, 6, 5] (by decide) rfl⟩⟩, hS.F ht⟩) hS.2.2 dLoops_goRound_55
    · rw [if_neg c_2] at hfn
      refine lv_iload_n hx hb dLoops_goRound_38 rfl (lv_at hl 0 rfl) ?_
      refine lv_aload_n hx hb dLoops_goRound_39 rfl (lv_at hl 1 rfl) ?_
      refine va_get (D := (dC, dI)) (ci := 5) (v := .ref a2) (C := R_Loops) (T := T_Loops) (N := 8) hx hb htg in_Loops hown hK hP 0 rfl rfl 5 (by decide) (htg _ wd_201) (fun _ h9 => h9) rfl dLoops_goRound_40 ?_
      refine lv_iload_n hx hb dLoops_goRound_43 rfl (lv_at hl 2 rfl) ?_
      refine rd_SN (As := [.ref a2, .int i0]) (rest := [.int ((tf_PK_at n3 f3 i0) + 1)]) ⟨hx, hb, hml, hown, htg⟩ (c_PK_at l dC dI cA a2 n2 f2 i0 hn2) (cw_SN htg hN wn_369 qPK_at iPK_at kPK_at pPK_at rfl rfl ⟨Nat.le_of_ble_eq_true rfl, Nat.le_of_ble_eq_true rfl⟩) hN (hP.sub [4] rfl) hK rfl hl.1 rfl (Nat.le_of_ble_eq_true rfl) dLoops_goRound_44 ⟨Nat.le_of_ble_eq_true rfl, Nat.le_of_ble_eq_true rfl⟩ ?_
      refine lv_icmp_le (tgt := 55) hx hb dLoops_goRound_47 (by decide) (fun c_3 => ?_) (fun c_3 => ?_)
      · rw [if_pos c_3] at hfn
        subst hfn
        exact W.vret hx hb hr (fun t ht hW => ⟨⟨_, rfl, rfl, ⟨by rw [ht]; exact hP.sub [0, 1, 2, 3, 4, 6, 5] rfl, va_K.moved hW.alike hK, hD.sub [0, 1, 2, 3, 4, 6, 5] (by decide) rfl⟩⟩, hS.F ht⟩) hS.2.2 dLoops_goRound_55
      · rw [if_neg c_3] at hfn
        refine lv_aload_n hx hb dLoops_goRound_50 rfl (lv_at hl 1 rfl) ?_
        refine lv_iload_n hx hb dLoops_goRound_51 rfl (lv_at hl 2 rfl) ?_
        refine wr_Vv (wr := []) (As := [.int i0]) (rest := []) ⟨hx, hb, hml, hown, htg⟩ (c_Loops_forget l dC dI cA _ h0 b1 a0 a1 a2 a3 a4 zs0 rw0 mk0 n0 f0 n1 f1 n2 f2 n3 ((tf_PK_put n3 f3 i0 ((tf_PK_at n3 f3 i0) + 1))) n4 f4 i0 hn0 hn1 hn2 hn3 hn4) (cw_V htg wd_501 ws_12 qLoops_forget iLoops_forget kLoops_forget pLoops_forget rfl rfl ⟨Nat.le_of_ble_eq_true rfl, Nat.le_of_ble_eq_true rfl⟩) (va_recv hK hP (ci := 5) (q0 := 0) rfl rfl) hN hP hD hS hA hK [0, 1, 2, 3, 4, 6, 5] [] rfl rfl (by decide) (by decide) (by decide) rfl hl.1 rfl (Nat.le_of_ble_eq_true rfl) dLoops_goRound_52 ⟨Nat.le_of_ble_eq_true rfl, Nat.le_of_ble_eq_true rfl⟩ (fun H locs hP hD hS => ?_)
        have hP : va_P (dC, dI) vwCl [(h0, .inr (5, [.int zs0, .int rw0, .int mk0, .ref b1, .ref a1, .ref a2, .ref a3, .ref a4])), (b1, .inr (3, [.int zs0, .int rw0, .int mk0, .int (bI false), .ref a0])), (a0, .inl (cA.1, n0, .inl f0)), (a1, .inl (cA.1, n1, .inl f1)), (a2, .inl (cA.1, n2, .inl ((tf_Loops_forget n2 f2 n3 ((tf_PK_put n3 f3 i0 ((tf_PK_at n3 f3 i0) + 1))) n4 f4 i0).1))), (a3, .inl (cA.1, n3, .inl ((tf_Loops_forget n2 f2 n3 ((tf_PK_put n3 f3 i0 ((tf_PK_at n3 f3 i0) + 1))) n4 f4 i0).2.1))), (a4, .inl (cA.1, n4, .inl ((tf_Loops_forget n2 f2 n3 ((tf_PK_put n3 f3 i0 ((tf_PK_at n3 f3 i0) + 1))) n4 f4 i0).2.2)))] H := hP
        have hD : va_D A [(h0, .inr (5, [.int zs0, .int rw0, .int mk0, .ref b1, .ref a1, .ref a2, .ref a3, .ref a4])), (b1, .inr (3, [.int zs0, .int rw0, .int mk0, .int (bI false), .ref a0])), (a0, .inl (cA.1, n0, .inl f0)), (a1, .inl (cA.1, n1, .inl f1)), (a2, .inl (cA.1, n2, .inl ((tf_Loops_forget n2 f2 n3 ((tf_PK_put n3 f3 i0 ((tf_PK_at n3 f3 i0) + 1))) n4 f4 i0).1))), (a3, .inl (cA.1, n3, .inl ((tf_Loops_forget n2 f2 n3 ((tf_PK_put n3 f3 i0 ((tf_PK_at n3 f3 i0) + 1))) n4 f4 i0).2.1))), (a4, .inl (cA.1, n4, .inl ((tf_Loops_forget n2 f2 n3 ((tf_PK_put n3 f3 i0 ((tf_PK_at n3 f3 i0) + 1))) n4 f4 i0).2.2)))] := hD
        subst hfn
        exact W.vret hx hb hr (fun t ht hW => ⟨⟨_, rfl, rfl, ⟨by rw [ht]; exact hP.sub [0, 1, 2, 3, 4, 5, 6] rfl, va_K.moved hW.alike hK, hD.sub [0, 1, 2, 3, 4, 5, 6] (by decide) rfl⟩⟩, hS.F ht⟩) hS.2.2 dLoops_goRound_55
def tf_Loops_leave (n2 : Nat) (f2 : Nat → Int32) (n3 : Nat) (f3 : Nat → Int32) (n4 : Nat) (f4 : Nat → Int32) (i0 : Int32) : (Nat → Int32) × (Nat → Int32) × (Nat → Int32) := (if (tf_PK_at n3 f3 i0) = (tf_PK_at n2 f2 i0) then (f2, ((tf_PK_put n3 f3 i0 0)), ((tf_PK_step n4 f4 i0 true 0 3))) else (((tf_PK_put n2 f2 i0 (tf_PK_at n3 f3 i0))), ((tf_PK_put n3 f3 i0 0)), ((tf_PK_put n4 f4 i0 0))))
set_option maxHeartbeats 4000000 in
set_option maxRecDepth 100000 in
theorem c_Loops_leave (l : Launch) (dC : Nat → ClassId) (dI : Nat → Nat → Nat) (cA : ClassId × ClassId × ClassId) (zz : Nat) (h0 : Nat) (b1 : Nat) (a0 : Nat) (a1 : Nat) (a2 : Nat) (a3 : Nat) (a4 : Nat) (zs0 : Int32) (rw0 : Int32) (mk0 : Int32) (n0 : Nat) (f0 : Nat → Int32) (n1 : Nat) (f1 : Nat → Int32) (n2 : Nat) (f2 : Nat → Int32) (n3 : Nat) (f3 : Nat → Int32) (n4 : Nat) (f4 : Nat → Int32) (i0 : Int32) (hn0 : n0 < 2147483648) (hn1 : n1 < 2147483648) (hn2 : n2 < 2147483648) (hn3 : n3 < 2147483648) (hn4 : n4 < 2147483648) : Met l yLoops_leave wLoops_leave ({ frames := 2, cells := 0, slots := 0, locals := 47 }) (va_Pc [.ref h0, .int i0] (Wr (dC, dI) cA zz [(h0, .inr (5, [.int zs0, .int rw0, .int mk0, .ref b1, .ref a1, .ref a2, .ref a3, .ref a4])), (b1, .inr (3, [.int zs0, .int rw0, .int mk0, .int (bI false), .ref a0])), (a0, .inl (cA.1, n0, .inl f0)), (a1, .inl (cA.1, n1, .inl f1)), (a2, .inl (cA.1, n2, .inl f2)), (a3, .inl (cA.1, n3, .inl f3)), (a4, .inl (cA.1, n4, .inl f4))])) (va_Qv (fun w9 => w9 = [(h0, .inr (5, [.int zs0, .int rw0, .int mk0, .ref b1, .ref a1, .ref a2, .ref a3, .ref a4])), (b1, .inr (3, [.int zs0, .int rw0, .int mk0, .int (bI false), .ref a0])), (a0, .inl (cA.1, n0, .inl f0)), (a1, .inl (cA.1, n1, .inl f1)), (a2, .inl (cA.1, n2, .inl ((tf_Loops_leave n2 f2 n3 f3 n4 f4 i0).1))), (a3, .inl (cA.1, n3, .inl ((tf_Loops_leave n2 f2 n3 f3 n4 f4 i0).2.1))), (a4, .inl (cA.1, n4, .inl ((tf_Loops_leave n2 f2 n3 f3 n4 f4 i0).2.2)))]) (At (dC, dI) cA (va_A [(h0, .inr (5, [.int zs0, .int rw0, .int mk0, .ref b1, .ref a1, .ref a2, .ref a3, .ref a4])), (b1, .inr (3, [.int zs0, .int rw0, .int mk0, .int (bI false), .ref a0])), (a0, .inl (cA.1, n0, .inl f0)), (a1, .inl (cA.1, n1, .inl f1)), (a2, .inl (cA.1, n2, .inl f2)), (a3, .inl (cA.1, n3, .inl f3)), (a4, .inl (cA.1, n4, .inl f4))] zz)) (va_A [(h0, .inr (5, [.int zs0, .int rw0, .int mk0, .ref b1, .ref a1, .ref a2, .ref a3, .ref a4])), (b1, .inr (3, [.int zs0, .int rw0, .int mk0, .int (bI false), .ref a0])), (a0, .inl (cA.1, n0, .inl f0)), (a1, .inl (cA.1, n1, .inl f1)), (a2, .inl (cA.1, n2, .inl f2)), (a3, .inl (cA.1, n3, .inl f3)), (a4, .inl (cA.1, n4, .inl f4))] zz)) 0 0 (va_A [(h0, .inr (5, [.int zs0, .int rw0, .int mk0, .ref b1, .ref a1, .ref a2, .ref a3, .ref a4])), (b1, .inr (3, [.int zs0, .int rw0, .int mk0, .int (bI false), .ref a0])), (a0, .inl (cA.1, n0, .inl f0)), (a1, .inl (cA.1, n1, .inl f1)), (a2, .inl (cA.1, n2, .inl f2)), (a3, .inl (cA.1, n3, .inl f3)), (a4, .inl (cA.1, n4, .inl f4))] zz) := by
  refine Met.ofW (cc := cLoops_leave) (maxL := 3) (ret := none) (by decide) rfl ?_
  intro p e s m args below meth c s₁ B hml hv
  obtain ⟨rfl, hsz, hN, hP, hK, hD0⟩ := hv
  have hx := B.exec
  have hb := B.bytes
  have hr := B.returns
  have hts := atoms_spec (ws := wLoops_leave) B.pre
  have htg : ∀ w ∈ GW, w.before _ s = true := fun w h => hts w (List.mem_cons_of_mem _ h)
  have hown : s.vm.findClass R_Loops = some m.cls := findClass_of_methodNamed B.named
  have hlocks := B.notSynchronized
  subst hsz
  have hD := hD0.self (sz := s.heap.size)
  generalize hAe : va_A [(h0, .inr (5, [.int zs0, .int rw0, .int mk0, .ref b1, .ref a1, .ref a2, .ref a3, .ref a4])), (b1, .inr (3, [.int zs0, .int rw0, .int mk0, .int (bI false), .ref a0])), (a0, .inl (cA.1, n0, .inl f0)), (a1, .inl (cA.1, n1, .inl f1)), (a2, .inl (cA.1, n2, .inl f2)), (a3, .inl (cA.1, n3, .inl f3)), (a4, .inl (cA.1, n4, .inl f4))] s.heap.size = A at hD ⊢
  have hA : ∀ q : Nat, s.heap.size ≤ q → A q := fun q h => by rw [← hAe]; exact Or.inr h
  have hS : va_S A s.heap s.heap [] := va_S.rf
  have hP : va_P (dC, dI) vwCl [(h0, .inr (5, [.int zs0, .int rw0, .int mk0, .ref b1, .ref a1, .ref a2, .ref a3, .ref a4])), (b1, .inr (3, [.int zs0, .int rw0, .int mk0, .int (bI false), .ref a0])), (a0, .inl (cA.1, n0, .inl f0)), (a1, .inl (cA.1, n1, .inl f1)), (a2, .inl (cA.1, n2, .inl f2)), (a3, .inl (cA.1, n3, .inl f3)), (a4, .inl (cA.1, n4, .inl f4))] s.heap := hP
  obtain ⟨rs, hfn⟩ : ∃ rs, (tf_Loops_leave n2 f2 n3 f3 n4 f4 i0) = rs := ⟨_, rfl⟩
  try rw [hfn]
  have hl := lv_entry ([.ref h0, .int i0]) (n := 3) (Nat.le_of_ble_eq_true rfl)
  rw [lg_entry_eq]
  generalize (lg_sl ([.ref h0, .int i0]) ++ List.replicate (3 - (lg_sl ([.ref h0, .int i0])).length) Slot.unset).toArray = ls at hl ⊢
  have hl : lv_has ls 3 [(0, .ref h0), (1, .int i0)] := hl
  unfold tf_Loops_leave at hfn
  refine lv_aload_n hx hb dLoops_leave_0 rfl (lv_at hl 0 rfl) ?_
  refine va_get (D := (dC, dI)) (ci := 5) (v := .ref a3) (C := R_Loops) (T := T_Loops) (N := 8) hx hb htg in_Loops hown hK hP 0 rfl rfl 6 (by decide) (htg _ wd_202) (fun _ h9 => h9) rfl dLoops_leave_1 ?_
  refine lv_iload_n hx hb dLoops_leave_4 rfl (lv_at hl 1 rfl) ?_
  refine rd_SN (As := [.ref a3, .int i0]) (rest := []) ⟨hx, hb, hml, hown, htg⟩ (c_PK_at l dC dI cA a3 n3 f3 i0 hn3) (cw_SN htg hN wn_369 qPK_at iPK_at kPK_at pPK_at rfl rfl ⟨Nat.le_of_ble_eq_true rfl, Nat.le_of_ble_eq_true rfl⟩) hN (hP.sub [5] rfl) hK rfl hl.1 rfl (Nat.le_of_ble_eq_true rfl) dLoops_leave_5 ⟨Nat.le_of_ble_eq_true rfl, Nat.le_of_ble_eq_true rfl⟩ ?_
  refine lv_istore_n (lv' := [(2, .int (tf_PK_at n3 f3 i0)), (0, .ref h0), (1, .int i0)]) hx hb dLoops_leave_8 rfl hl (by decide) rfl (fun ls hl => ?_)
  refine lv_iload_n hx hb dLoops_leave_9 rfl (lv_at hl 0 rfl) ?_
  refine lv_aload_n hx hb dLoops_leave_10 rfl (lv_at hl 1 rfl) ?_
  refine va_get (D := (dC, dI)) (ci := 5) (v := .ref a2) (C := R_Loops) (T := T_Loops) (N := 8) hx hb htg in_Loops hown hK hP 0 rfl rfl 5 (by decide) (htg _ wd_201) (fun _ h9 => h9) rfl dLoops_leave_11 ?_
  refine lv_iload_n hx hb dLoops_leave_14 rfl (lv_at hl 2 rfl) ?_
  refine rd_SN (As := [.ref a2, .int i0]) (rest := [.int (tf_PK_at n3 f3 i0)]) ⟨hx, hb, hml, hown, htg⟩ (c_PK_at l dC dI cA a2 n2 f2 i0 hn2) (cw_SN htg hN wn_369 qPK_at iPK_at kPK_at pPK_at rfl rfl ⟨Nat.le_of_ble_eq_true rfl, Nat.le_of_ble_eq_true rfl⟩) hN (hP.sub [4] rfl) hK rfl hl.1 rfl (Nat.le_of_ble_eq_true rfl) dLoops_leave_15 ⟨Nat.le_of_ble_eq_true rfl, Nat.le_of_ble_eq_true rfl⟩ ?_
  refine lv_icmp_ne (tgt := 35) hx hb dLoops_leave_18 (by decide) (fun c_1 => ?_) (fun c_1 => ?_)
  · rw [if_neg c_1] at hfn
    refine lv_aload_n hx hb dLoops_leave_35 rfl (lv_at hl 1 rfl) ?_
    refine va_get (D := (dC, dI)) (ci := 5) (v := .ref a4) (C := R_Loops) (T := T_Loops) (N := 8) hx hb htg in_Loops hown hK hP 0 rfl rfl 7 (by decide) (htg _ wd_203) (fun _ h9 => h9) rfl dLoops_leave_36 ?_
    refine lv_iload_n hx hb dLoops_leave_39 rfl (lv_at hl 2 rfl) ?_
    refine lv_iconst (v := 0) hx hb dLoops_leave_40 (by decide) ?_
    refine wr_SNv (wr := [(h0, .inr (5, [.int zs0, .int rw0, .int mk0, .ref b1, .ref a1, .ref a2, .ref a3, .ref a4])), (b1, .inr (3, [.int zs0, .int rw0, .int mk0, .int (bI false), .ref a0])), (a0, .inl (cA.1, n0, .inl f0)), (a1, .inl (cA.1, n1, .inl f1)), (a2, .inl (cA.1, n2, .inl f2)), (a3, .inl (cA.1, n3, .inl f3))]) (As := [.ref a4, .int i0, .int 0]) (rest := []) ⟨hx, hb, hml, hown, htg⟩ (c_PK_put l dC dI cA _ a4 n4 f4 i0 0 hn4) (cw_SN htg hN wn_500 qPK_put iPK_put kPK_put pPK_put rfl rfl ⟨Nat.le_of_ble_eq_true rfl, Nat.le_of_ble_eq_true rfl⟩) hN hP hD hS hA hK [6] [0, 1, 2, 3, 4, 5] rfl rfl (by decide) (by decide) (by decide) rfl hl.1 rfl (Nat.le_of_ble_eq_true rfl) dLoops_leave_41 ⟨Nat.le_of_ble_eq_true rfl, Nat.le_of_ble_eq_true rfl⟩ (fun H locs hP hD hS => ?_)
    have hP : va_P (dC, dI) vwCl [(h0, .inr (5, [.int zs0, .int rw0, .int mk0, .ref b1, .ref a1, .ref a2, .ref a3, .ref a4])), (b1, .inr (3, [.int zs0, .int rw0, .int mk0, .int (bI false), .ref a0])), (a0, .inl (cA.1, n0, .inl f0)), (a1, .inl (cA.1, n1, .inl f1)), (a2, .inl (cA.1, n2, .inl f2)), (a3, .inl (cA.1, n3, .inl f3)), (a4, .inl (cA.1, n4, .inl ((tf_PK_put n4 f4 i0 0))))] H := hP
    have hD : va_D A [(h0, .inr (5, [.int zs0, .int rw0, .int mk0, .ref b1, .ref a1, .ref a2, .ref a3, .ref a4])), (b1, .inr (3, [.int zs0, .int rw0, .int mk0, .int (bI false), .ref a0])), (a0, .inl (cA.1, n0, .inl f0)), (a1, .inl (cA.1, n1, .inl f1)), (a2, .inl (cA.1, n2, .inl f2)), (a3, .inl (cA.1, n3, .inl f3)), (a4, .inl (cA.1, n4, .inl ((tf_PK_put n4 f4 i0 0))))] := hD
    refine lv_aload_n hx hb dLoops_leave_44 rfl (lv_at hl 1 rfl) ?_
    refine va_get (D := (dC, dI)) (ci := 5) (v := .ref a2) (C := R_Loops) (T := T_Loops) (N := 8) hx hb htg in_Loops hown hK hP 0 rfl rfl 5 (by decide) (htg _ wd_201) (fun _ h9 => h9) rfl dLoops_leave_45 ?_
    refine lv_iload_n hx hb dLoops_leave_48 rfl (lv_at hl 2 rfl) ?_
    refine lv_iload_n hx hb dLoops_leave_49 rfl (lv_at hl 0 rfl) ?_
    refine wr_SNv (wr := [(h0, .inr (5, [.int zs0, .int rw0, .int mk0, .ref b1, .ref a1, .ref a2, .ref a3, .ref a4])), (b1, .inr (3, [.int zs0, .int rw0, .int mk0, .int (bI false), .ref a0])), (a0, .inl (cA.1, n0, .inl f0)), (a1, .inl (cA.1, n1, .inl f1)), (a3, .inl (cA.1, n3, .inl f3)), (a4, .inl (cA.1, n4, .inl ((tf_PK_put n4 f4 i0 0))))]) (As := [.ref a2, .int i0, .int (tf_PK_at n3 f3 i0)]) (rest := []) ⟨hx, hb, hml, hown, htg⟩ (c_PK_put l dC dI cA _ a2 n2 f2 i0 (tf_PK_at n3 f3 i0) hn2) (cw_SN htg hN wn_500 qPK_put iPK_put kPK_put pPK_put rfl rfl ⟨Nat.le_of_ble_eq_true rfl, Nat.le_of_ble_eq_true rfl⟩) hN hP hD hS hA hK [4] [0, 1, 2, 3, 5, 6] rfl rfl (by decide) (by decide) (by decide) rfl hl.1 rfl (Nat.le_of_ble_eq_true rfl) dLoops_leave_50 ⟨Nat.le_of_ble_eq_true rfl, Nat.le_of_ble_eq_true rfl⟩ (fun H locs hP hD hS => ?_)
    have hP : va_P (dC, dI) vwCl [(h0, .inr (5, [.int zs0, .int rw0, .int mk0, .ref b1, .ref a1, .ref a2, .ref a3, .ref a4])), (b1, .inr (3, [.int zs0, .int rw0, .int mk0, .int (bI false), .ref a0])), (a0, .inl (cA.1, n0, .inl f0)), (a1, .inl (cA.1, n1, .inl f1)), (a3, .inl (cA.1, n3, .inl f3)), (a4, .inl (cA.1, n4, .inl ((tf_PK_put n4 f4 i0 0)))), (a2, .inl (cA.1, n2, .inl ((tf_PK_put n2 f2 i0 (tf_PK_at n3 f3 i0)))))] H := hP
    have hD : va_D A [(h0, .inr (5, [.int zs0, .int rw0, .int mk0, .ref b1, .ref a1, .ref a2, .ref a3, .ref a4])), (b1, .inr (3, [.int zs0, .int rw0, .int mk0, .int (bI false), .ref a0])), (a0, .inl (cA.1, n0, .inl f0)), (a1, .inl (cA.1, n1, .inl f1)), (a3, .inl (cA.1, n3, .inl f3)), (a4, .inl (cA.1, n4, .inl ((tf_PK_put n4 f4 i0 0)))), (a2, .inl (cA.1, n2, .inl ((tf_PK_put n2 f2 i0 (tf_PK_at n3 f3 i0)))))] := hD
    refine lv_aload_n hx hb dLoops_leave_53 rfl (lv_at hl 1 rfl) ?_
    refine va_get (D := (dC, dI)) (ci := 5) (v := .ref a3) (C := R_Loops) (T := T_Loops) (N := 8) hx hb htg in_Loops hown hK hP 0 rfl rfl 6 (by decide) (htg _ wd_202) (fun _ h9 => h9) rfl dLoops_leave_54 ?_
    refine lv_iload_n hx hb dLoops_leave_57 rfl (lv_at hl 2 rfl) ?_
    refine lv_iconst (v := 0) hx hb dLoops_leave_58 (by decide) ?_
    refine wr_SNv (wr := [(h0, .inr (5, [.int zs0, .int rw0, .int mk0, .ref b1, .ref a1, .ref a2, .ref a3, .ref a4])), (b1, .inr (3, [.int zs0, .int rw0, .int mk0, .int (bI false), .ref a0])), (a0, .inl (cA.1, n0, .inl f0)), (a1, .inl (cA.1, n1, .inl f1)), (a4, .inl (cA.1, n4, .inl ((tf_PK_put n4 f4 i0 0)))), (a2, .inl (cA.1, n2, .inl ((tf_PK_put n2 f2 i0 (tf_PK_at n3 f3 i0)))))]) (As := [.ref a3, .int i0, .int 0]) (rest := []) ⟨hx, hb, hml, hown, htg⟩ (c_PK_put l dC dI cA _ a3 n3 f3 i0 0 hn3) (cw_SN htg hN wn_500 qPK_put iPK_put kPK_put pPK_put rfl rfl ⟨Nat.le_of_ble_eq_true rfl, Nat.le_of_ble_eq_true rfl⟩) hN hP hD hS hA hK [4] [0, 1, 2, 3, 5, 6] rfl rfl (by decide) (by decide) (by decide) rfl hl.1 rfl (Nat.le_of_ble_eq_true rfl) dLoops_leave_59 ⟨Nat.le_of_ble_eq_true rfl, Nat.le_of_ble_eq_true rfl⟩ (fun H locs hP hD hS => ?_)
    have hP : va_P (dC, dI) vwCl [(h0, .inr (5, [.int zs0, .int rw0, .int mk0, .ref b1, .ref a1, .ref a2, .ref a3, .ref a4])), (b1, .inr (3, [.int zs0, .int rw0, .int mk0, .int (bI false), .ref a0])), (a0, .inl (cA.1, n0, .inl f0)), (a1, .inl (cA.1, n1, .inl f1)), (a4, .inl (cA.1, n4, .inl ((tf_PK_put n4 f4 i0 0)))), (a2, .inl (cA.1, n2, .inl ((tf_PK_put n2 f2 i0 (tf_PK_at n3 f3 i0))))), (a3, .inl (cA.1, n3, .inl ((tf_PK_put n3 f3 i0 0))))] H := hP
    have hD : va_D A [(h0, .inr (5, [.int zs0, .int rw0, .int mk0, .ref b1, .ref a1, .ref a2, .ref a3, .ref a4])), (b1, .inr (3, [.int zs0, .int rw0, .int mk0, .int (bI false), .ref a0])), (a0, .inl (cA.1, n0, .inl f0)), (a1, .inl (cA.1, n1, .inl f1)), (a4, .inl (cA.1, n4, .inl ((tf_PK_put n4 f4 i0 0)))), (a2, .inl (cA.1, n2, .inl ((tf_PK_put n2 f2 i0 (tf_PK_at n3 f3 i0))))), (a3, .inl (cA.1, n3, .inl ((tf_PK_put n3 f3 i0 0))))] := hD
    subst hfn
    exact W.vret hx hb hr (fun t ht hW => ⟨⟨_, rfl, rfl, ⟨by rw [ht]; exact hP.sub [0, 1, 2, 3, 5, 6, 4] rfl, va_K.moved hW.alike hK, hD.sub [0, 1, 2, 3, 5, 6, 4] (by decide) rfl⟩⟩, hS.F ht⟩) hS.2.2 dLoops_leave_62
  · rw [if_pos c_1] at hfn
    refine lv_aload_n hx hb dLoops_leave_21 rfl (lv_at hl 1 rfl) ?_
    refine va_get (D := (dC, dI)) (ci := 5) (v := .ref a4) (C := R_Loops) (T := T_Loops) (N := 8) hx hb htg in_Loops hown hK hP 0 rfl rfl 7 (by decide) (htg _ wd_203) (fun _ h9 => h9) rfl dLoops_leave_22 ?_
    refine lv_iload_n hx hb dLoops_leave_25 rfl (lv_at hl 2 rfl) ?_
    refine lv_iconst (v := 1) hx hb dLoops_leave_26 (by decide) ?_
    refine lv_iconst (v := 0) hx hb dLoops_leave_27 (by decide) ?_
    refine lv_iconst (v := 3) hx hb dLoops_leave_28 (by decide) ?_
    refine wr_SNv (wr := [(h0, .inr (5, [.int zs0, .int rw0, .int mk0, .ref b1, .ref a1, .ref a2, .ref a3, .ref a4])), (b1, .inr (3, [.int zs0, .int rw0, .int mk0, .int (bI false), .ref a0])), (a0, .inl (cA.1, n0, .inl f0)), (a1, .inl (cA.1, n1, .inl f1)), (a2, .inl (cA.1, n2, .inl f2)), (a3, .inl (cA.1, n3, .inl f3))]) (As := [.ref a4, .int i0, .int 1, .int 0, .int 3]) (rest := []) ⟨hx, hb, hml, hown, htg⟩ (c_PK_step l dC dI cA _ a4 n4 f4 i0 true 0 3 hn4) (cw_SN htg hN wn_509 qPK_step iPK_step kPK_step pPK_step rfl rfl ⟨Nat.le_of_ble_eq_true rfl, Nat.le_of_ble_eq_true rfl⟩) hN hP hD hS hA hK [6] [0, 1, 2, 3, 4, 5] rfl rfl (by decide) (by decide) (by decide) rfl hl.1 rfl (Nat.le_of_ble_eq_true rfl) dLoops_leave_29 ⟨Nat.le_of_ble_eq_true rfl, Nat.le_of_ble_eq_true rfl⟩ (fun H locs hP hD hS => ?_)
    have hP : va_P (dC, dI) vwCl [(h0, .inr (5, [.int zs0, .int rw0, .int mk0, .ref b1, .ref a1, .ref a2, .ref a3, .ref a4])), (b1, .inr (3, [.int zs0, .int rw0, .int mk0, .int (bI false), .ref a0])), (a0, .inl (cA.1, n0, .inl f0)), (a1, .inl (cA.1, n1, .inl f1)), (a2, .inl (cA.1, n2, .inl f2)), (a3, .inl (cA.1, n3, .inl f3)), (a4, .inl (cA.1, n4, .inl ((tf_PK_step n4 f4 i0 true 0 3))))] H := hP
    have hD : va_D A [(h0, .inr (5, [.int zs0, .int rw0, .int mk0, .ref b1, .ref a1, .ref a2, .ref a3, .ref a4])), (b1, .inr (3, [.int zs0, .int rw0, .int mk0, .int (bI false), .ref a0])), (a0, .inl (cA.1, n0, .inl f0)), (a1, .inl (cA.1, n1, .inl f1)), (a2, .inl (cA.1, n2, .inl f2)), (a3, .inl (cA.1, n3, .inl f3)), (a4, .inl (cA.1, n4, .inl ((tf_PK_step n4 f4 i0 true 0 3))))] := hD
    refine lv_goto (tgt := 53) hx hb dLoops_leave_32 (by decide) ?_
    refine lv_aload_n hx hb dLoops_leave_53 rfl (lv_at hl 1 rfl) ?_
    refine va_get (D := (dC, dI)) (ci := 5) (v := .ref a3) (C := R_Loops) (T := T_Loops) (N := 8) hx hb htg in_Loops hown hK hP 0 rfl rfl 6 (by decide) (htg _ wd_202) (fun _ h9 => h9) rfl dLoops_leave_54 ?_
    refine lv_iload_n hx hb dLoops_leave_57 rfl (lv_at hl 2 rfl) ?_
    refine lv_iconst (v := 0) hx hb dLoops_leave_58 (by decide) ?_
    refine wr_SNv (wr := [(h0, .inr (5, [.int zs0, .int rw0, .int mk0, .ref b1, .ref a1, .ref a2, .ref a3, .ref a4])), (b1, .inr (3, [.int zs0, .int rw0, .int mk0, .int (bI false), .ref a0])), (a0, .inl (cA.1, n0, .inl f0)), (a1, .inl (cA.1, n1, .inl f1)), (a2, .inl (cA.1, n2, .inl f2)), (a4, .inl (cA.1, n4, .inl ((tf_PK_step n4 f4 i0 true 0 3))))]) (As := [.ref a3, .int i0, .int 0]) (rest := []) ⟨hx, hb, hml, hown, htg⟩ (c_PK_put l dC dI cA _ a3 n3 f3 i0 0 hn3) (cw_SN htg hN wn_500 qPK_put iPK_put kPK_put pPK_put rfl rfl ⟨Nat.le_of_ble_eq_true rfl, Nat.le_of_ble_eq_true rfl⟩) hN hP hD hS hA hK [5] [0, 1, 2, 3, 4, 6] rfl rfl (by decide) (by decide) (by decide) rfl hl.1 rfl (Nat.le_of_ble_eq_true rfl) dLoops_leave_59 ⟨Nat.le_of_ble_eq_true rfl, Nat.le_of_ble_eq_true rfl⟩ (fun H locs hP hD hS => ?_)
    have hP : va_P (dC, dI) vwCl [(h0, .inr (5, [.int zs0, .int rw0, .int mk0, .ref b1, .ref a1, .ref a2, .ref a3, .ref a4])), (b1, .inr (3, [.int zs0, .int rw0, .int mk0, .int (bI false), .ref a0])), (a0, .inl (cA.1, n0, .inl f0)), (a1, .inl (cA.1, n1, .inl f1)), (a2, .inl (cA.1, n2, .inl f2)), (a4, .inl (cA.1, n4, .inl ((tf_PK_step n4 f4 i0 true 0 3)))), (a3, .inl (cA.1, n3, .inl ((tf_PK_put n3 f3 i0 0))))] H := hP
    have hD : va_D A [(h0, .inr (5, [.int zs0, .int rw0, .int mk0, .ref b1, .ref a1, .ref a2, .ref a3, .ref a4])), (b1, .inr (3, [.int zs0, .int rw0, .int mk0, .int (bI false), .ref a0])), (a0, .inl (cA.1, n0, .inl f0)), (a1, .inl (cA.1, n1, .inl f1)), (a2, .inl (cA.1, n2, .inl f2)), (a4, .inl (cA.1, n4, .inl ((tf_PK_step n4 f4 i0 true 0 3)))), (a3, .inl (cA.1, n3, .inl ((tf_PK_put n3 f3 i0 0))))] := hD
    subst hfn
    exact W.vret hx hb hr (fun t ht hW => ⟨⟨_, rfl, rfl, ⟨by rw [ht]; exact hP.sub [0, 1, 2, 3, 4, 6, 5] rfl, va_K.moved hW.alike hK, hD.sub [0, 1, 2, 3, 4, 6, 5] (by decide) rfl⟩⟩, hS.F ht⟩) hS.2.2 dLoops_leave_62
def tf_Loops_number (zs0 : Int32) (mk0 : Int32) (n1 : Nat) (f1 : Nat → Int32) (n4 : Nat) (f4 : Nat → Int32) (pl : Int32) : Int32 := (if (bI (tf_Loops_hasTag zs0 mk0 n1 f1 pl)) = 0 then ((-1)) else ((tf_PK_at n4 f4 (tf_Loops_plainRow zs0 mk0 pl))))
set_option maxHeartbeats 4000000 in
set_option maxRecDepth 100000 in
theorem c_Loops_number (l : Launch) (dC : Nat → ClassId) (dI : Nat → Nat → Nat) (cA : ClassId × ClassId × ClassId) (h0 : Nat) (b1 : Nat) (a0 : Nat) (a1 : Nat) (a2 : Nat) (a3 : Nat) (a4 : Nat) (zs0 : Int32) (rw0 : Int32) (mk0 : Int32) (n0 : Nat) (f0 : Nat → Int32) (n1 : Nat) (f1 : Nat → Int32) (n2 : Nat) (f2 : Nat → Int32) (n3 : Nat) (f3 : Nat → Int32) (n4 : Nat) (f4 : Nat → Int32) (pl : Int32) (hs : Int32) (hn0 : n0 < 2147483648) (hn1 : n1 < 2147483648) (hn2 : n2 < 2147483648) (hn3 : n3 < 2147483648) (hn4 : n4 < 2147483648) : Met l yLoops_number wLoops_number ({ frames := 2, cells := 0, slots := 0, locals := 42 }) (va_Pc [.ref h0, .int pl, .int hs] (Rd (dC, dI) cA [(h0, .inr (5, [.int zs0, .int rw0, .int mk0, .ref b1, .ref a1, .ref a2, .ref a3, .ref a4])), (b1, .inr (3, [.int zs0, .int rw0, .int mk0, .int (bI false), .ref a0])), (a0, .inl (cA.1, n0, .inl f0)), (a1, .inl (cA.1, n1, .inl f1)), (a2, .inl (cA.1, n2, .inl f2)), (a3, .inl (cA.1, n3, .inl f3)), (a4, .inl (cA.1, n4, .inl f4))])) (QcRead (tf_Loops_number zs0 mk0 n1 f1 n4 f4 pl)) 0 0 (fun _ => False) := by
  refine Met.ofW (cc := cLoops_number) (maxL := 3) (ret := (some .int)) (by decide) rfl ?_
  intro p e s m args below meth c s₁ B hml hv
  obtain ⟨rfl, hN, hP, hK⟩ := hv
  have hx := B.exec
  have hb := B.bytes
  have hr := B.returns
  have hts := atoms_spec (ws := wLoops_number) B.pre
  have htg : ∀ w ∈ GW, w.before _ s = true := fun w h => hts w (List.mem_cons_of_mem _ h)
  have hown : s.vm.findClass R_Loops = some m.cls := findClass_of_methodNamed B.named
  have hlocks := B.notSynchronized
  obtain ⟨rs, hfn⟩ : ∃ rs, (tf_Loops_number zs0 mk0 n1 f1 n4 f4 pl) = rs := ⟨_, rfl⟩
  try rw [hfn]
  have hl := lv_entry ([.ref h0, .int pl, .int hs]) (n := 3) (Nat.le_of_ble_eq_true rfl)
  rw [lg_entry_eq]
  generalize (lg_sl ([.ref h0, .int pl, .int hs]) ++ List.replicate (3 - (lg_sl ([.ref h0, .int pl, .int hs])).length) Slot.unset).toArray = ls at hl ⊢
  have hl : lv_has ls 3 [(0, .ref h0), (1, .int pl), (2, .int hs)] := hl
  unfold tf_Loops_number at hfn
  refine lv_aload_n hx hb dLoops_number_0 rfl (lv_at hl 0 rfl) ?_
  refine lv_iload_n hx hb dLoops_number_1 rfl (lv_at hl 1 rfl) ?_
  refine rd_V (As := [.int pl]) (rest := []) ⟨hx, hb, hml, hown, htg⟩ (c_Loops_hasTag l dC dI cA h0 b1 a0 a1 a2 a3 a4 zs0 rw0 mk0 n0 f0 n1 f1 n2 f2 n3 f3 n4 f4 pl hn0 hn1 hn2 hn3 hn4) (cw_V htg wd_362 ws_3 qLoops_hasTag iLoops_hasTag kLoops_hasTag pLoops_hasTag rfl rfl ⟨Nat.le_of_ble_eq_true rfl, Nat.le_of_ble_eq_true rfl⟩) (va_recv hK hP (ci := 5) (q0 := 0) rfl rfl) hN (hP.sub [0, 1, 2, 3, 4, 5, 6] rfl) hK rfl hl.1 rfl (Nat.le_of_ble_eq_true rfl) dLoops_number_2 ⟨Nat.le_of_ble_eq_true rfl, Nat.le_of_ble_eq_true rfl⟩ ?_
  refine lv_if_eq (tgt := 23) hx hb dLoops_number_5 (by decide) (fun c_1 => ?_) (fun c_1 => ?_)
  · rw [if_pos c_1] at hfn
    refine lv_iconst (v := (-1)) hx hb dLoops_number_23 (by decide) ?_
    subst hfn
    exact W.iret hx hb hr (fun t ht hW => ⟨rfl, ht⟩) (fun _ h => by cases h) dLoops_number_24
  · rw [if_neg c_1] at hfn
    refine lv_aload_n hx hb dLoops_number_8 rfl (lv_at hl 0 rfl) ?_
    refine va_get (D := (dC, dI)) (ci := 5) (v := .ref a4) (C := R_Loops) (T := T_Loops) (N := 8) hx hb htg in_Loops hown hK hP 0 rfl rfl 7 (by decide) (htg _ wd_203) (fun _ h9 => h9) rfl dLoops_number_9 ?_
    refine lv_aload_n hx hb dLoops_number_12 rfl (lv_at hl 0 rfl) ?_
    refine lv_iload_n hx hb dLoops_number_13 rfl (lv_at hl 1 rfl) ?_
    refine rd_U (As := [.int pl]) (rest := [.ref a4]) ⟨hx, hb, hml, hown, htg⟩ (c_Loops_plainRow l dC dI cA h0 b1 a0 a1 a2 a3 a4 zs0 rw0 mk0 n0 f0 n1 f1 n2 f2 n3 f3 n4 f4 pl hn0 hn1 hn2 hn3 hn4) (cw_U (n := 1) htg wd_366 wd_367 wd_368 qKind_plainRow iKind_plainRow kKind_plainRow (va_Decl.abs (hN _ wn_318)) (by decide +kernel) (by decide +kernel) rfl rfl ⟨Nat.le_of_ble_eq_true rfl, Nat.le_of_ble_eq_true rfl⟩) (va_recv hK hP (ci := 5) (q0 := 0) rfl rfl) hN (hP.sub [0, 1, 2, 3, 4, 5, 6] rfl) hK rfl hl.1 rfl (Nat.le_of_ble_eq_true rfl) dLoops_number_14 ⟨Nat.le_of_ble_eq_true rfl, Nat.le_of_ble_eq_true rfl⟩ ?_
    refine rd_SN (As := [.ref a4, .int (tf_Loops_plainRow zs0 mk0 pl)]) (rest := []) ⟨hx, hb, hml, hown, htg⟩ (c_PK_at l dC dI cA a4 n4 f4 (tf_Loops_plainRow zs0 mk0 pl) hn4) (cw_SN htg hN wn_369 qPK_at iPK_at kPK_at pPK_at rfl rfl ⟨Nat.le_of_ble_eq_true rfl, Nat.le_of_ble_eq_true rfl⟩) hN (hP.sub [6] rfl) hK rfl hl.1 rfl (Nat.le_of_ble_eq_true rfl) dLoops_number_17 ⟨Nat.le_of_ble_eq_true rfl, Nat.le_of_ble_eq_true rfl⟩ ?_
    refine lv_goto (tgt := 24) hx hb dLoops_number_20 (by decide) ?_
    subst hfn
    exact W.iret hx hb hr (fun t ht hW => ⟨rfl, ht⟩) (fun _ h => by cases h) dLoops_number_24
def tf_Loops_says (zs0 : Int32) (mk0 : Int32) (n0 : Nat) (f0 : Nat → Int32) (n1 : Nat) (f1 : Nat → Int32) (n2 : Nat) (f2 : Nat → Int32) (n3 : Nat) (f3 : Nat → Int32) (n4 : Nat) (f4 : Nat → Int32) (pl : Int32) (hs : Int32) : Bool := (if (bI (tf_Loops_isTrusted zs0 mk0 n1 f1 n4 f4 pl)) = 0 then ((tf_Counters_says zs0 mk0 false n0 f0 pl hs)) else (if (tf_PK_at n2 f2 (tf_Loops_plainRow zs0 mk0 pl)) ≤ (tf_PK_at n3 f3 (tf_Loops_plainRow zs0 mk0 pl)) then (false) else (true)))
set_option maxHeartbeats 4000000 in
set_option maxRecDepth 100000 in
theorem c_Loops_says (l : Launch) (dC : Nat → ClassId) (dI : Nat → Nat → Nat) (cA : ClassId × ClassId × ClassId) (h0 : Nat) (b1 : Nat) (a0 : Nat) (a1 : Nat) (a2 : Nat) (a3 : Nat) (a4 : Nat) (zs0 : Int32) (rw0 : Int32) (mk0 : Int32) (n0 : Nat) (f0 : Nat → Int32) (n1 : Nat) (f1 : Nat → Int32) (n2 : Nat) (f2 : Nat → Int32) (n3 : Nat) (f3 : Nat → Int32) (n4 : Nat) (f4 : Nat → Int32) (pl : Int32) (hs : Int32) (hn0 : n0 < 2147483648) (hn1 : n1 < 2147483648) (hn2 : n2 < 2147483648) (hn3 : n3 < 2147483648) (hn4 : n4 < 2147483648) : Met l yLoops_says wLoops_says ({ frames := 3, cells := 0, slots := 0, locals := 65 }) (va_Pc [.ref h0, .int pl, .int hs] (Rd (dC, dI) cA [(h0, .inr (5, [.int zs0, .int rw0, .int mk0, .ref b1, .ref a1, .ref a2, .ref a3, .ref a4])), (b1, .inr (3, [.int zs0, .int rw0, .int mk0, .int (bI false), .ref a0])), (a0, .inl (cA.1, n0, .inl f0)), (a1, .inl (cA.1, n1, .inl f1)), (a2, .inl (cA.1, n2, .inl f2)), (a3, .inl (cA.1, n3, .inl f3)), (a4, .inl (cA.1, n4, .inl f4))])) (QcRead (bI (tf_Loops_says zs0 mk0 n0 f0 n1 f1 n2 f2 n3 f3 n4 f4 pl hs))) 0 0 (fun _ => False) := by
  refine Met.ofW (cc := cLoops_says) (maxL := 4) (ret := (some .boolean)) (by decide) rfl ?_
  intro p e s m args below meth c s₁ B hml hv
  obtain ⟨rfl, hN, hP, hK⟩ := hv
  have hx := B.exec
  have hb := B.bytes
  have hr := B.returns
  have hts := atoms_spec (ws := wLoops_says) B.pre
  have htg : ∀ w ∈ GW, w.before _ s = true := fun w h => hts w (List.mem_cons_of_mem _ h)
  have hown : s.vm.findClass R_Loops = some m.cls := findClass_of_methodNamed B.named
  have hlocks := B.notSynchronized
  obtain ⟨rs, hfn⟩ : ∃ rs, (tf_Loops_says zs0 mk0 n0 f0 n1 f1 n2 f2 n3 f3 n4 f4 pl hs) = rs := ⟨_, rfl⟩
  try rw [hfn]
  have hl := lv_entry ([.ref h0, .int pl, .int hs]) (n := 4) (Nat.le_of_ble_eq_true rfl)
  rw [lg_entry_eq]
  generalize (lg_sl ([.ref h0, .int pl, .int hs]) ++ List.replicate (4 - (lg_sl ([.ref h0, .int pl, .int hs])).length) Slot.unset).toArray = ls at hl ⊢
  have hl : lv_has ls 4 [(0, .ref h0), (1, .int pl), (2, .int hs)] := hl
  unfold tf_Loops_says at hfn
  refine lv_aload_n hx hb dLoops_says_0 rfl (lv_at hl 0 rfl) ?_
  refine lv_iload_n hx hb dLoops_says_1 rfl (lv_at hl 1 rfl) ?_
  refine rd_V (As := [.int pl]) (rest := []) ⟨hx, hb, hml, hown, htg⟩ (c_Loops_isTrusted l dC dI cA h0 b1 a0 a1 a2 a3 a4 zs0 rw0 mk0 n0 f0 n1 f1 n2 f2 n3 f3 n4 f4 pl hn0 hn1 hn2 hn3 hn4) (cw_V htg wd_358 ws_2 qLoops_isTrusted iLoops_isTrusted kLoops_isTrusted pLoops_isTrusted rfl rfl ⟨Nat.le_of_ble_eq_true rfl, Nat.le_of_ble_eq_true rfl⟩) (va_recv hK hP (ci := 5) (q0 := 0) rfl rfl) hN (hP.sub [0, 1, 2, 3, 4, 5, 6] rfl) hK rfl hl.1 rfl (Nat.le_of_ble_eq_true rfl) dLoops_says_2 ⟨Nat.le_of_ble_eq_true rfl, Nat.le_of_ble_eq_true rfl⟩ ?_
  refine lv_if_ne (tgt := 18) hx hb dLoops_says_5 (by decide) (fun c_1 => ?_) (fun c_1 => ?_)
  · rw [if_neg c_1] at hfn
    refine lv_aload_n hx hb dLoops_says_18 rfl (lv_at hl 0 rfl) ?_
    refine lv_iload_n hx hb dLoops_says_19 rfl (lv_at hl 1 rfl) ?_
    refine rd_U (As := [.int pl]) (rest := []) ⟨hx, hb, hml, hown, htg⟩ (c_Loops_plainRow l dC dI cA h0 b1 a0 a1 a2 a3 a4 zs0 rw0 mk0 n0 f0 n1 f1 n2 f2 n3 f3 n4 f4 pl hn0 hn1 hn2 hn3 hn4) (cw_U (n := 1) htg wd_366 wd_367 wd_368 qKind_plainRow iKind_plainRow kKind_plainRow (va_Decl.abs (hN _ wn_318)) (by decide +kernel) (by decide +kernel) rfl rfl ⟨Nat.le_of_ble_eq_true rfl, Nat.le_of_ble_eq_true rfl⟩) (va_recv hK hP (ci := 5) (q0 := 0) rfl rfl) hN (hP.sub [0, 1, 2, 3, 4, 5, 6] rfl) hK rfl hl.1 rfl (Nat.le_of_ble_eq_true rfl) dLoops_says_20 ⟨Nat.le_of_ble_eq_true rfl, Nat.le_of_ble_eq_true rfl⟩ ?_
    refine lv_istore_n (lv' := [(3, .int (tf_Loops_plainRow zs0 mk0 pl)), (0, .ref h0), (1, .int pl), (2, .int hs)]) hx hb dLoops_says_23 rfl hl (by decide) rfl (fun ls hl => ?_)
    refine lv_aload_n hx hb dLoops_says_24 rfl (lv_at hl 1 rfl) ?_
    refine va_get (D := (dC, dI)) (ci := 5) (v := .ref a3) (C := R_Loops) (T := T_Loops) (N := 8) hx hb htg in_Loops hown hK hP 0 rfl rfl 6 (by decide) (htg _ wd_202) (fun _ h9 => h9) rfl dLoops_says_25 ?_
    refine lv_iload_n hx hb dLoops_says_28 rfl (lv_at hl 0 rfl) ?_
    refine rd_SN (As := [.ref a3, .int (tf_Loops_plainRow zs0 mk0 pl)]) (rest := []) ⟨hx, hb, hml, hown, htg⟩ (c_PK_at l dC dI cA a3 n3 f3 (tf_Loops_plainRow zs0 mk0 pl) hn3) (cw_SN htg hN wn_369 qPK_at iPK_at kPK_at pPK_at rfl rfl ⟨Nat.le_of_ble_eq_true rfl, Nat.le_of_ble_eq_true rfl⟩) hN (hP.sub [5] rfl) hK rfl hl.1 rfl (Nat.le_of_ble_eq_true rfl) dLoops_says_29 ⟨Nat.le_of_ble_eq_true rfl, Nat.le_of_ble_eq_true rfl⟩ ?_
    refine lv_aload_n hx hb dLoops_says_32 rfl (lv_at hl 1 rfl) ?_
    refine va_get (D := (dC, dI)) (ci := 5) (v := .ref a2) (C := R_Loops) (T := T_Loops) (N := 8) hx hb htg in_Loops hown hK hP 0 rfl rfl 5 (by decide) (htg _ wd_201) (fun _ h9 => h9) rfl dLoops_says_33 ?_
    refine lv_iload_n hx hb dLoops_says_36 rfl (lv_at hl 0 rfl) ?_
    refine rd_SN (As := [.ref a2, .int (tf_Loops_plainRow zs0 mk0 pl)]) (rest := [.int (tf_PK_at n3 f3 (tf_Loops_plainRow zs0 mk0 pl))]) ⟨hx, hb, hml, hown, htg⟩ (c_PK_at l dC dI cA a2 n2 f2 (tf_Loops_plainRow zs0 mk0 pl) hn2) (cw_SN htg hN wn_369 qPK_at iPK_at kPK_at pPK_at rfl rfl ⟨Nat.le_of_ble_eq_true rfl, Nat.le_of_ble_eq_true rfl⟩) hN (hP.sub [4] rfl) hK rfl hl.1 rfl (Nat.le_of_ble_eq_true rfl) dLoops_says_37 ⟨Nat.le_of_ble_eq_true rfl, Nat.le_of_ble_eq_true rfl⟩ ?_
    refine lv_icmp_ge (tgt := 47) hx hb dLoops_says_40 (by decide) (fun c_2 => ?_) (fun c_2 => ?_)
    · rw [if_pos c_2] at hfn
      refine lv_iconst (v := 0) hx hb dLoops_says_47 (by decide) ?_
      subst hfn
      exact W.zret hx hb hr rfl (fun t ht hW => ⟨rfl, ht⟩) (fun _ h => by cases h) dLoops_says_48
    · rw [if_neg c_2] at hfn
      refine lv_iconst (v := 1) hx hb dLoops_says_43 (by decide) ?_
      refine lv_goto (tgt := 48) hx hb dLoops_says_44 (by decide) ?_
      subst hfn
      exact W.zret hx hb hr rfl (fun t ht hW => ⟨rfl, ht⟩) (fun _ h => by cases h) dLoops_says_48
  · rw [if_pos c_1] at hfn
    refine lv_aload_n hx hb dLoops_says_8 rfl (lv_at hl 0 rfl) ?_
    refine va_get (D := (dC, dI)) (ci := 5) (v := .ref b1) (C := R_Loops) (T := T_Loops) (N := 8) hx hb htg in_Loops hown hK hP 0 rfl rfl 3 (by decide) (htg _ wd_199) (fun _ h9 => h9) rfl dLoops_says_9 ?_
    refine lv_iload_n hx hb dLoops_says_12 rfl (lv_at hl 1 rfl) ?_
    refine lv_iload_n hx hb dLoops_says_13 rfl (lv_at hl 2 rfl) ?_
    refine rd_V (As := [.int pl, .int hs]) (rest := []) ⟨hx, hb, hml, hown, htg⟩ (c_Counters_says l dC dI cA b1 a0 zs0 rw0 mk0 false n0 f0 pl hs hn0) (cw_V htg wd_374 wd_327 qCounters_says iCounters_says kCounters_says pCounters_says rfl rfl ⟨Nat.le_of_ble_eq_true rfl, Nat.le_of_ble_eq_true rfl⟩) (va_recv hK hP (ci := 3) (q0 := 1) rfl rfl) hN (hP.sub [1, 2] rfl) hK rfl hl.1 rfl (Nat.le_of_ble_eq_true rfl) dLoops_says_14 ⟨Nat.le_of_ble_eq_true rfl, Nat.le_of_ble_eq_true rfl⟩ ?_
    subst hfn
    exact W.zret hx hb hr (nar_bI _) (fun t ht hW => ⟨rfl, ht⟩) (fun _ h => by cases h) dLoops_says_17
def tf_Loops_learn (zs0 : Int32) (mk0 : Int32) (n0 : Nat) (f0 : Nat → Int32) (n1 : Nat) (f1 : Nat → Int32) (n2 : Nat) (f2 : Nat → Int32) (n3 : Nat) (f3 : Nat → Int32) (n4 : Nat) (f4 : Nat → Int32) (pl : Int32) (hs : Int32) (tk : Bool) : (Nat → Int32) × (Nat → Int32) × (Nat → Int32) × (Nat → Int32) × (Nat → Int32) := (if (bI (tf_Loops_hasTag zs0 mk0 n1 f1 pl)) = 0 then (if (bI tk) = 0 then (((tf_Counters_learn zs0 mk0 false n0 f0 pl hs tk)), ((tf_PK_put n1 f1 (tf_Loops_plainRow zs0 mk0 pl) (tf_Loops_tagOf zs0 pl))), ((tf_Loops_forget n2 f2 n3 f3 n4 f4 (tf_Loops_plainRow zs0 mk0 pl)).1), ((tf_Loops_forget n2 f2 n3 f3 n4 f4 (tf_Loops_plainRow zs0 mk0 pl)).2.1), ((tf_Loops_forget n2 f2 n3 f3 n4 f4 (tf_Loops_plainRow zs0 mk0 pl)).2.2)) else (((tf_Counters_learn zs0 mk0 false n0 f0 pl hs tk)), f1, f2, f3, f4)) else (if (bI tk) = 0 then (((tf_Counters_learn zs0 mk0 false n0 f0 pl hs tk)), f1, ((tf_Loops_leave n2 f2 n3 f3 n4 f4 (tf_Loops_plainRow zs0 mk0 pl)).1), ((tf_Loops_leave n2 f2 n3 f3 n4 f4 (tf_Loops_plainRow zs0 mk0 pl)).2.1), ((tf_Loops_leave n2 f2 n3 f3 n4 f4 (tf_Loops_plainRow zs0 mk0 pl)).2.2)) else (((tf_Counters_learn zs0 mk0 false n0 f0 pl hs tk)), f1, ((tf_Loops_goRound n2 f2 n3 f3 n4 f4 (tf_Loops_plainRow zs0 mk0 pl)).1), ((tf_Loops_goRound n2 f2 n3 f3 n4 f4 (tf_Loops_plainRow zs0 mk0 pl)).2.1), ((tf_Loops_goRound n2 f2 n3 f3 n4 f4 (tf_Loops_plainRow zs0 mk0 pl)).2.2))))
set_option maxHeartbeats 4000000 in
set_option maxRecDepth 100000 in
theorem c_Loops_learn (l : Launch) (dC : Nat → ClassId) (dI : Nat → Nat → Nat) (cA : ClassId × ClassId × ClassId) (zz : Nat) (h0 : Nat) (b1 : Nat) (a0 : Nat) (a1 : Nat) (a2 : Nat) (a3 : Nat) (a4 : Nat) (zs0 : Int32) (rw0 : Int32) (mk0 : Int32) (n0 : Nat) (f0 : Nat → Int32) (n1 : Nat) (f1 : Nat → Int32) (n2 : Nat) (f2 : Nat → Int32) (n3 : Nat) (f3 : Nat → Int32) (n4 : Nat) (f4 : Nat → Int32) (pl : Int32) (hs : Int32) (tk : Bool) (hn0 : n0 < 2147483648) (hn1 : n1 < 2147483648) (hn2 : n2 < 2147483648) (hn3 : n3 < 2147483648) (hn4 : n4 < 2147483648) : Met l yLoops_learn wLoops_learn ({ frames := 4, cells := 0, slots := 0, locals := 92 }) (va_Pc [.ref h0, .int pl, .int hs, .int (bI tk)] (Wr (dC, dI) cA zz [(h0, .inr (5, [.int zs0, .int rw0, .int mk0, .ref b1, .ref a1, .ref a2, .ref a3, .ref a4])), (b1, .inr (3, [.int zs0, .int rw0, .int mk0, .int (bI false), .ref a0])), (a0, .inl (cA.1, n0, .inl f0)), (a1, .inl (cA.1, n1, .inl f1)), (a2, .inl (cA.1, n2, .inl f2)), (a3, .inl (cA.1, n3, .inl f3)), (a4, .inl (cA.1, n4, .inl f4))])) (va_Qv (fun w9 => w9 = [(h0, .inr (5, [.int zs0, .int rw0, .int mk0, .ref b1, .ref a1, .ref a2, .ref a3, .ref a4])), (b1, .inr (3, [.int zs0, .int rw0, .int mk0, .int (bI false), .ref a0])), (a0, .inl (cA.1, n0, .inl ((tf_Loops_learn zs0 mk0 n0 f0 n1 f1 n2 f2 n3 f3 n4 f4 pl hs tk).1))), (a1, .inl (cA.1, n1, .inl ((tf_Loops_learn zs0 mk0 n0 f0 n1 f1 n2 f2 n3 f3 n4 f4 pl hs tk).2.1))), (a2, .inl (cA.1, n2, .inl ((tf_Loops_learn zs0 mk0 n0 f0 n1 f1 n2 f2 n3 f3 n4 f4 pl hs tk).2.2.1))), (a3, .inl (cA.1, n3, .inl ((tf_Loops_learn zs0 mk0 n0 f0 n1 f1 n2 f2 n3 f3 n4 f4 pl hs tk).2.2.2.1))), (a4, .inl (cA.1, n4, .inl ((tf_Loops_learn zs0 mk0 n0 f0 n1 f1 n2 f2 n3 f3 n4 f4 pl hs tk).2.2.2.2)))]) (At (dC, dI) cA (va_A [(h0, .inr (5, [.int zs0, .int rw0, .int mk0, .ref b1, .ref a1, .ref a2, .ref a3, .ref a4])), (b1, .inr (3, [.int zs0, .int rw0, .int mk0, .int (bI false), .ref a0])), (a0, .inl (cA.1, n0, .inl f0)), (a1, .inl (cA.1, n1, .inl f1)), (a2, .inl (cA.1, n2, .inl f2)), (a3, .inl (cA.1, n3, .inl f3)), (a4, .inl (cA.1, n4, .inl f4))] zz)) (va_A [(h0, .inr (5, [.int zs0, .int rw0, .int mk0, .ref b1, .ref a1, .ref a2, .ref a3, .ref a4])), (b1, .inr (3, [.int zs0, .int rw0, .int mk0, .int (bI false), .ref a0])), (a0, .inl (cA.1, n0, .inl f0)), (a1, .inl (cA.1, n1, .inl f1)), (a2, .inl (cA.1, n2, .inl f2)), (a3, .inl (cA.1, n3, .inl f3)), (a4, .inl (cA.1, n4, .inl f4))] zz)) 0 0 (va_A [(h0, .inr (5, [.int zs0, .int rw0, .int mk0, .ref b1, .ref a1, .ref a2, .ref a3, .ref a4])), (b1, .inr (3, [.int zs0, .int rw0, .int mk0, .int (bI false), .ref a0])), (a0, .inl (cA.1, n0, .inl f0)), (a1, .inl (cA.1, n1, .inl f1)), (a2, .inl (cA.1, n2, .inl f2)), (a3, .inl (cA.1, n3, .inl f3)), (a4, .inl (cA.1, n4, .inl f4))] zz) := by
  refine Met.ofW (cc := cLoops_learn) (maxL := 5) (ret := none) (by decide) rfl ?_
  intro p e s m args below meth c s₁ B hml hv
  obtain ⟨rfl, hsz, hN, hP, hK, hD0⟩ := hv
  have hx := B.exec
  have hb := B.bytes
  have hr := B.returns
  have hts := atoms_spec (ws := wLoops_learn) B.pre
  have htg : ∀ w ∈ GW, w.before _ s = true := fun w h => hts w (List.mem_cons_of_mem _ h)
  have hown : s.vm.findClass R_Loops = some m.cls := findClass_of_methodNamed B.named
  have hlocks := B.notSynchronized
  subst hsz
  have hD := hD0.self (sz := s.heap.size)
  generalize hAe : va_A [(h0, .inr (5, [.int zs0, .int rw0, .int mk0, .ref b1, .ref a1, .ref a2, .ref a3, .ref a4])), (b1, .inr (3, [.int zs0, .int rw0, .int mk0, .int (bI false), .ref a0])), (a0, .inl (cA.1, n0, .inl f0)), (a1, .inl (cA.1, n1, .inl f1)), (a2, .inl (cA.1, n2, .inl f2)), (a3, .inl (cA.1, n3, .inl f3)), (a4, .inl (cA.1, n4, .inl f4))] s.heap.size = A at hD ⊢
  have hA : ∀ q : Nat, s.heap.size ≤ q → A q := fun q h => by rw [← hAe]; exact Or.inr h
  have hS : va_S A s.heap s.heap [] := va_S.rf
  have hP : va_P (dC, dI) vwCl [(h0, .inr (5, [.int zs0, .int rw0, .int mk0, .ref b1, .ref a1, .ref a2, .ref a3, .ref a4])), (b1, .inr (3, [.int zs0, .int rw0, .int mk0, .int (bI false), .ref a0])), (a0, .inl (cA.1, n0, .inl f0)), (a1, .inl (cA.1, n1, .inl f1)), (a2, .inl (cA.1, n2, .inl f2)), (a3, .inl (cA.1, n3, .inl f3)), (a4, .inl (cA.1, n4, .inl f4))] s.heap := hP
  obtain ⟨rs, hfn⟩ : ∃ rs, (tf_Loops_learn zs0 mk0 n0 f0 n1 f1 n2 f2 n3 f3 n4 f4 pl hs tk) = rs := ⟨_, rfl⟩
  try rw [hfn]
  have hl := lv_entry ([.ref h0, .int pl, .int hs, .int (bI tk)]) (n := 5) (Nat.le_of_ble_eq_true rfl)
  rw [lg_entry_eq]
  generalize (lg_sl ([.ref h0, .int pl, .int hs, .int (bI tk)]) ++ List.replicate (5 - (lg_sl ([.ref h0, .int pl, .int hs, .int (bI tk)])).length) Slot.unset).toArray = ls at hl ⊢
  have hl : lv_has ls 5 [(0, .ref h0), (1, .int pl), (2, .int hs), (3, .int (bI tk))] := hl
  unfold tf_Loops_learn at hfn
  refine lv_aload_n hx hb dLoops_learn_0 rfl (lv_at hl 0 rfl) ?_
  refine va_get (D := (dC, dI)) (ci := 5) (v := .ref b1) (C := R_Loops) (T := T_Loops) (N := 8) hx hb htg in_Loops hown hK hP 0 rfl rfl 3 (by decide) (htg _ wd_199) (fun _ h9 => h9) rfl dLoops_learn_1 ?_
  refine lv_iload_n hx hb dLoops_learn_4 rfl (lv_at hl 1 rfl) ?_
  refine lv_iload_n hx hb dLoops_learn_5 rfl (lv_at hl 2 rfl) ?_
  refine lv_iload_n hx hb dLoops_learn_6 rfl (lv_at hl 3 rfl) ?_
  refine wr_Vv (wr := [(h0, .inr (5, [.int zs0, .int rw0, .int mk0, .ref b1, .ref a1, .ref a2, .ref a3, .ref a4])), (a1, .inl (cA.1, n1, .inl f1)), (a2, .inl (cA.1, n2, .inl f2)), (a3, .inl (cA.1, n3, .inl f3)), (a4, .inl (cA.1, n4, .inl f4))]) (As := [.int pl, .int hs, .int (bI tk)]) (rest := []) ⟨hx, hb, hml, hown, htg⟩ (c_Counters_learn l dC dI cA _ b1 a0 zs0 rw0 mk0 false n0 f0 pl hs tk hn0) (cw_V htg wd_495 wd_480 qCounters_learn iCounters_learn kCounters_learn pCounters_learn rfl rfl ⟨Nat.le_of_ble_eq_true rfl, Nat.le_of_ble_eq_true rfl⟩) (va_recv hK hP (ci := 3) (q0 := 1) rfl rfl) hN hP hD hS hA hK [1, 2] [0, 3, 4, 5, 6] rfl rfl (by decide) (by decide) (by decide) rfl hl.1 rfl (Nat.le_of_ble_eq_true rfl) dLoops_learn_7 ⟨Nat.le_of_ble_eq_true rfl, Nat.le_of_ble_eq_true rfl⟩ (fun H locs hP hD hS => ?_)
  have hP : va_P (dC, dI) vwCl [(h0, .inr (5, [.int zs0, .int rw0, .int mk0, .ref b1, .ref a1, .ref a2, .ref a3, .ref a4])), (a1, .inl (cA.1, n1, .inl f1)), (a2, .inl (cA.1, n2, .inl f2)), (a3, .inl (cA.1, n3, .inl f3)), (a4, .inl (cA.1, n4, .inl f4)), (b1, .inr (3, [.int zs0, .int rw0, .int mk0, .int (bI false), .ref a0])), (a0, .inl (cA.1, n0, .inl ((tf_Counters_learn zs0 mk0 false n0 f0 pl hs tk))))] H := hP
  have hD : va_D A [(h0, .inr (5, [.int zs0, .int rw0, .int mk0, .ref b1, .ref a1, .ref a2, .ref a3, .ref a4])), (a1, .inl (cA.1, n1, .inl f1)), (a2, .inl (cA.1, n2, .inl f2)), (a3, .inl (cA.1, n3, .inl f3)), (a4, .inl (cA.1, n4, .inl f4)), (b1, .inr (3, [.int zs0, .int rw0, .int mk0, .int (bI false), .ref a0])), (a0, .inl (cA.1, n0, .inl ((tf_Counters_learn zs0 mk0 false n0 f0 pl hs tk))))] := hD
  refine lv_aload_n hx hb dLoops_learn_10 rfl (lv_at hl 0 rfl) ?_
  refine lv_iload_n hx hb dLoops_learn_11 rfl (lv_at hl 1 rfl) ?_
  refine rd_U (As := [.int pl]) (rest := []) ⟨hx, hb, hml, hown, htg⟩ (c_Loops_plainRow l dC dI cA h0 b1 a0 a1 a2 a3 a4 zs0 rw0 mk0 n0 ((tf_Counters_learn zs0 mk0 false n0 f0 pl hs tk)) n1 f1 n2 f2 n3 f3 n4 f4 pl hn0 hn1 hn2 hn3 hn4) (cw_U (n := 1) htg wd_366 wd_367 wd_368 qKind_plainRow iKind_plainRow kKind_plainRow (va_Decl.abs (hN _ wn_318)) (by decide +kernel) (by decide +kernel) rfl rfl ⟨Nat.le_of_ble_eq_true rfl, Nat.le_of_ble_eq_true rfl⟩) (va_recv hK hP (ci := 5) (q0 := 0) rfl rfl) hN (hP.sub [0, 5, 6, 1, 2, 3, 4] rfl) hK rfl hl.1 rfl (Nat.le_of_ble_eq_true rfl) dLoops_learn_12 ⟨Nat.le_of_ble_eq_true rfl, Nat.le_of_ble_eq_true rfl⟩ ?_
  refine lv_istore (lv' := [(4, .int (tf_Loops_plainRow zs0 mk0 pl)), (0, .ref h0), (1, .int pl), (2, .int hs), (3, .int (bI tk))]) hx hb dLoops_learn_15 hl (by decide) rfl (fun ls hl => ?_)
  refine lv_aload_n hx hb dLoops_learn_17 rfl (lv_at hl 1 rfl) ?_
  refine lv_iload_n hx hb dLoops_learn_18 rfl (lv_at hl 2 rfl) ?_
  refine rd_V (As := [.int pl]) (rest := []) ⟨hx, hb, hml, hown, htg⟩ (c_Loops_hasTag l dC dI cA h0 b1 a0 a1 a2 a3 a4 zs0 rw0 mk0 n0 ((tf_Counters_learn zs0 mk0 false n0 f0 pl hs tk)) n1 f1 n2 f2 n3 f3 n4 f4 pl hn0 hn1 hn2 hn3 hn4) (cw_V htg wd_362 ws_3 qLoops_hasTag iLoops_hasTag kLoops_hasTag pLoops_hasTag rfl rfl ⟨Nat.le_of_ble_eq_true rfl, Nat.le_of_ble_eq_true rfl⟩) (va_recv hK hP (ci := 5) (q0 := 0) rfl rfl) hN (hP.sub [0, 5, 6, 1, 2, 3, 4] rfl) hK rfl hl.1 rfl (Nat.le_of_ble_eq_true rfl) dLoops_learn_19 ⟨Nat.le_of_ble_eq_true rfl, Nat.le_of_ble_eq_true rfl⟩ ?_
  refine lv_if_eq (tgt := 47) hx hb dLoops_learn_22 (by decide) (fun c_1 => ?_) (fun c_1 => ?_)
  · rw [if_pos c_1] at hfn
    refine lv_iload_n hx hb dLoops_learn_47 rfl (lv_at hl 4 rfl) ?_
    refine lv_if_ne (tgt := 71) hx hb dLoops_learn_48 (by decide) (fun c_2 => ?_) (fun c_2 => ?_)
    · rw [if_neg c_2] at hfn
      subst hfn
      exact W.vret hx hb hr (fun t ht hW => ⟨⟨_, rfl, rfl, ⟨by rw [ht]; exact hP.sub [0, 5, 6, 1, 2, 3, 4] rfl, va_K.moved hW.alike hK, hD.sub [0, 5, 6, 1, 2, 3, 4] (by decide) rfl⟩⟩, hS.F ht⟩) hS.2.2 dLoops_learn_71
    · rw [if_pos c_2] at hfn
      refine lv_aload_n hx hb dLoops_learn_51 rfl (lv_at hl 1 rfl) ?_
      refine va_get (D := (dC, dI)) (ci := 5) (v := .ref a1) (C := R_Loops) (T := T_Loops) (N := 8) hx hb htg in_Loops hown hK hP 0 rfl rfl 4 (by decide) (htg _ wd_200) (fun _ h9 => h9) rfl dLoops_learn_52 ?_
      refine lv_iload hx hb dLoops_learn_55 (lv_at hl 0 rfl) ?_
      refine lv_aload_n hx hb dLoops_learn_57 rfl (lv_at hl 1 rfl) ?_
      refine lv_iload_n hx hb dLoops_learn_58 rfl (lv_at hl 2 rfl) ?_
      refine rd_V (As := [.int pl]) (rest := [.int (tf_Loops_plainRow zs0 mk0 pl), .ref a1]) ⟨hx, hb, hml, hown, htg⟩ (c_Loops_tagOf l dC dI cA h0 b1 a0 a1 a2 a3 a4 zs0 rw0 mk0 n0 ((tf_Counters_learn zs0 mk0 false n0 f0 pl hs tk)) n1 f1 n2 f2 n3 f3 n4 f4 pl hn0 hn1 hn2 hn3 hn4) (cw_V htg wd_370 ws_4 qLoops_tagOf iLoops_tagOf kLoops_tagOf pLoops_tagOf rfl rfl ⟨Nat.le_of_ble_eq_true rfl, Nat.le_of_ble_eq_true rfl⟩) (va_recv hK hP (ci := 5) (q0 := 0) rfl rfl) hN (hP.sub [0, 5, 6, 1, 2, 3, 4] rfl) hK rfl hl.1 rfl (Nat.le_of_ble_eq_true rfl) dLoops_learn_59 ⟨Nat.le_of_ble_eq_true rfl, Nat.le_of_ble_eq_true rfl⟩ ?_
      refine wr_SNv (wr := [(h0, .inr (5, [.int zs0, .int rw0, .int mk0, .ref b1, .ref a1, .ref a2, .ref a3, .ref a4])), (a2, .inl (cA.1, n2, .inl f2)), (a3, .inl (cA.1, n3, .inl f3)), (a4, .inl (cA.1, n4, .inl f4)), (b1, .inr (3, [.int zs0, .int rw0, .int mk0, .int (bI false), .ref a0])), (a0, .inl (cA.1, n0, .inl ((tf_Counters_learn zs0 mk0 false n0 f0 pl hs tk))))]) (As := [.ref a1, .int (tf_Loops_plainRow zs0 mk0 pl), .int (tf_Loops_tagOf zs0 pl)]) (rest := []) ⟨hx, hb, hml, hown, htg⟩ (c_PK_put l dC dI cA _ a1 n1 f1 (tf_Loops_plainRow zs0 mk0 pl) (tf_Loops_tagOf zs0 pl) hn1) (cw_SN htg hN wn_500 qPK_put iPK_put kPK_put pPK_put rfl rfl ⟨Nat.le_of_ble_eq_true rfl, Nat.le_of_ble_eq_true rfl⟩) hN hP hD hS hA hK [1] [0, 2, 3, 4, 5, 6] rfl rfl (by decide) (by decide) (by decide) rfl hl.1 rfl (Nat.le_of_ble_eq_true rfl) dLoops_learn_62 ⟨Nat.le_of_ble_eq_true rfl, Nat.le_of_ble_eq_true rfl⟩ (fun H locs hP hD hS => ?_)
      have hP : va_P (dC, dI) vwCl [(h0, .inr (5, [.int zs0, .int rw0, .int mk0, .ref b1, .ref a1, .ref a2, .ref a3, .ref a4])), (a2, .inl (cA.1, n2, .inl f2)), (a3, .inl (cA.1, n3, .inl f3)), (a4, .inl (cA.1, n4, .inl f4)), (b1, .inr (3, [.int zs0, .int rw0, .int mk0, .int (bI false), .ref a0])), (a0, .inl (cA.1, n0, .inl ((tf_Counters_learn zs0 mk0 false n0 f0 pl hs tk)))), (a1, .inl (cA.1, n1, .inl ((tf_PK_put n1 f1 (tf_Loops_plainRow zs0 mk0 pl) (tf_Loops_tagOf zs0 pl)))))] H := hP
      have hD : va_D A [(h0, .inr (5, [.int zs0, .int rw0, .int mk0, .ref b1, .ref a1, .ref a2, .ref a3, .ref a4])), (a2, .inl (cA.1, n2, .inl f2)), (a3, .inl (cA.1, n3, .inl f3)), (a4, .inl (cA.1, n4, .inl f4)), (b1, .inr (3, [.int zs0, .int rw0, .int mk0, .int (bI false), .ref a0])), (a0, .inl (cA.1, n0, .inl ((tf_Counters_learn zs0 mk0 false n0 f0 pl hs tk)))), (a1, .inl (cA.1, n1, .inl ((tf_PK_put n1 f1 (tf_Loops_plainRow zs0 mk0 pl) (tf_Loops_tagOf zs0 pl)))))] := hD
      refine lv_aload_n hx hb dLoops_learn_65 rfl (lv_at hl 1 rfl) ?_
      refine lv_iload hx hb dLoops_learn_66 (lv_at hl 0 rfl) ?_
      refine wr_Vv (wr := []) (As := [.int (tf_Loops_plainRow zs0 mk0 pl)]) (rest := []) ⟨hx, hb, hml, hown, htg⟩ (c_Loops_forget l dC dI cA _ h0 b1 a0 a1 a2 a3 a4 zs0 rw0 mk0 n0 ((tf_Counters_learn zs0 mk0 false n0 f0 pl hs tk)) n1 ((tf_PK_put n1 f1 (tf_Loops_plainRow zs0 mk0 pl) (tf_Loops_tagOf zs0 pl))) n2 f2 n3 f3 n4 f4 (tf_Loops_plainRow zs0 mk0 pl) hn0 hn1 hn2 hn3 hn4) (cw_V htg wd_501 ws_12 qLoops_forget iLoops_forget kLoops_forget pLoops_forget rfl rfl ⟨Nat.le_of_ble_eq_true rfl, Nat.le_of_ble_eq_true rfl⟩) (va_recv hK hP (ci := 5) (q0 := 0) rfl rfl) hN hP hD hS hA hK [0, 4, 5, 6, 1, 2, 3] [] rfl rfl (by decide) (by decide) (by decide) rfl hl.1 rfl (Nat.le_of_ble_eq_true rfl) dLoops_learn_68 ⟨Nat.le_of_ble_eq_true rfl, Nat.le_of_ble_eq_true rfl⟩ (fun H locs hP hD hS => ?_)
      have hP : va_P (dC, dI) vwCl [(h0, .inr (5, [.int zs0, .int rw0, .int mk0, .ref b1, .ref a1, .ref a2, .ref a3, .ref a4])), (b1, .inr (3, [.int zs0, .int rw0, .int mk0, .int (bI false), .ref a0])), (a0, .inl (cA.1, n0, .inl ((tf_Counters_learn zs0 mk0 false n0 f0 pl hs tk)))), (a1, .inl (cA.1, n1, .inl ((tf_PK_put n1 f1 (tf_Loops_plainRow zs0 mk0 pl) (tf_Loops_tagOf zs0 pl))))), (a2, .inl (cA.1, n2, .inl ((tf_Loops_forget n2 f2 n3 f3 n4 f4 (tf_Loops_plainRow zs0 mk0 pl)).1))), (a3, .inl (cA.1, n3, .inl ((tf_Loops_forget n2 f2 n3 f3 n4 f4 (tf_Loops_plainRow zs0 mk0 pl)).2.1))), (a4, .inl (cA.1, n4, .inl ((tf_Loops_forget n2 f2 n3 f3 n4 f4 (tf_Loops_plainRow zs0 mk0 pl)).2.2)))] H := hP
      have hD : va_D A [(h0, .inr (5, [.int zs0, .int rw0, .int mk0, .ref b1, .ref a1, .ref a2, .ref a3, .ref a4])), (b1, .inr (3, [.int zs0, .int rw0, .int mk0, .int (bI false), .ref a0])), (a0, .inl (cA.1, n0, .inl ((tf_Counters_learn zs0 mk0 false n0 f0 pl hs tk)))), (a1, .inl (cA.1, n1, .inl ((tf_PK_put n1 f1 (tf_Loops_plainRow zs0 mk0 pl) (tf_Loops_tagOf zs0 pl))))), (a2, .inl (cA.1, n2, .inl ((tf_Loops_forget n2 f2 n3 f3 n4 f4 (tf_Loops_plainRow zs0 mk0 pl)).1))), (a3, .inl (cA.1, n3, .inl ((tf_Loops_forget n2 f2 n3 f3 n4 f4 (tf_Loops_plainRow zs0 mk0 pl)).2.1))), (a4, .inl (cA.1, n4, .inl ((tf_Loops_forget n2 f2 n3 f3 n4 f4 (tf_Loops_plainRow zs0 mk0 pl)).2.2)))] := hD
      subst hfn
      exact W.vret hx hb hr (fun t ht hW => ⟨⟨_, rfl, rfl, ⟨by rw [ht]; exact hP.sub [0, 1, 2, 3, 4, 5, 6] rfl, va_K.moved hW.alike hK, hD.sub [0, 1, 2, 3, 4, 5, 6] (by decide) rfl⟩⟩, hS.F ht⟩) hS.2.2 dLoops_learn_71
  · rw [if_neg c_1] at hfn
    refine lv_iload_n hx hb dLoops_learn_25 rfl (lv_at hl 4 rfl) ?_
    refine lv_if_eq (tgt := 38) hx hb dLoops_learn_26 (by decide) (fun c_3 => ?_) (fun c_3 => ?_)
    · rw [if_pos c_3] at hfn
      refine lv_aload_n hx hb dLoops_learn_38 rfl (lv_at hl 1 rfl) ?_
      refine lv_iload hx hb dLoops_learn_39 (lv_at hl 0 rfl) ?_
      refine wr_Vv (wr := []) (As := [.int (tf_Loops_plainRow zs0 mk0 pl)]) (rest := []) ⟨hx, hb, hml, hown, htg⟩ (c_Loops_leave l dC dI cA _ h0 b1 a0 a1 a2 a3 a4 zs0 rw0 mk0 n0 ((tf_Counters_learn zs0 mk0 false n0 f0 pl hs tk)) n1 f1 n2 f2 n3 f3 n4 f4 (tf_Loops_plainRow zs0 mk0 pl) hn0 hn1 hn2 hn3 hn4) (cw_V htg wd_505 ws_13 qLoops_leave iLoops_leave kLoops_leave pLoops_leave rfl rfl ⟨Nat.le_of_ble_eq_true rfl, Nat.le_of_ble_eq_true rfl⟩) (va_recv hK hP (ci := 5) (q0 := 0) rfl rfl) hN hP hD hS hA hK [0, 5, 6, 1, 2, 3, 4] [] rfl rfl (by decide) (by decide) (by decide) rfl hl.1 rfl (Nat.le_of_ble_eq_true rfl) dLoops_learn_41 ⟨Nat.le_of_ble_eq_true rfl, Nat.le_of_ble_eq_true rfl⟩ (fun H locs hP hD hS => ?_)
      have hP : va_P (dC, dI) vwCl [(h0, .inr (5, [.int zs0, .int rw0, .int mk0, .ref b1, .ref a1, .ref a2, .ref a3, .ref a4])), (b1, .inr (3, [.int zs0, .int rw0, .int mk0, .int (bI false), .ref a0])), (a0, .inl (cA.1, n0, .inl ((tf_Counters_learn zs0 mk0 false n0 f0 pl hs tk)))), (a1, .inl (cA.1, n1, .inl f1)), (a2, .inl (cA.1, n2, .inl ((tf_Loops_leave n2 f2 n3 f3 n4 f4 (tf_Loops_plainRow zs0 mk0 pl)).1))), (a3, .inl (cA.1, n3, .inl ((tf_Loops_leave n2 f2 n3 f3 n4 f4 (tf_Loops_plainRow zs0 mk0 pl)).2.1))), (a4, .inl (cA.1, n4, .inl ((tf_Loops_leave n2 f2 n3 f3 n4 f4 (tf_Loops_plainRow zs0 mk0 pl)).2.2)))] H := hP
      have hD : va_D A [(h0, .inr (5, [.int zs0, .int rw0, .int mk0, .ref b1, .ref a1, .ref a2, .ref a3, .ref a4])), (b1, .inr (3, [.int zs0, .int rw0, .int mk0, .int (bI false), .ref a0])), (a0, .inl (cA.1, n0, .inl ((tf_Counters_learn zs0 mk0 false n0 f0 pl hs tk)))), (a1, .inl (cA.1, n1, .inl f1)), (a2, .inl (cA.1, n2, .inl ((tf_Loops_leave n2 f2 n3 f3 n4 f4 (tf_Loops_plainRow zs0 mk0 pl)).1))), (a3, .inl (cA.1, n3, .inl ((tf_Loops_leave n2 f2 n3 f3 n4 f4 (tf_Loops_plainRow zs0 mk0 pl)).2.1))), (a4, .inl (cA.1, n4, .inl ((tf_Loops_leave n2 f2 n3 f3 n4 f4 (tf_Loops_plainRow zs0 mk0 pl)).2.2)))] := hD
      refine lv_goto (tgt := 71) hx hb dLoops_learn_44 (by decide) ?_
      subst hfn
      exact W.vret hx hb hr (fun t ht hW => ⟨⟨_, rfl, rfl, ⟨by rw [ht]; exact hP.sub [0, 1, 2, 3, 4, 5, 6] rfl, va_K.moved hW.alike hK, hD.sub [0, 1, 2, 3, 4, 5, 6] (by decide) rfl⟩⟩, hS.F ht⟩) hS.2.2 dLoops_learn_71
    · rw [if_neg c_3] at hfn
      refine lv_aload_n hx hb dLoops_learn_29 rfl (lv_at hl 1 rfl) ?_
      refine lv_iload hx hb dLoops_learn_30 (lv_at hl 0 rfl) ?_
      refine wr_Vv (wr := []) (As := [.int (tf_Loops_plainRow zs0 mk0 pl)]) (rest := []) ⟨hx, hb, hml, hown, htg⟩ (c_Loops_goRound l dC dI cA _ h0 b1 a0 a1 a2 a3 a4 zs0 rw0 mk0 n0 ((tf_Counters_learn zs0 mk0 false n0 f0 pl hs tk)) n1 f1 n2 f2 n3 f3 n4 f4 (tf_Loops_plainRow zs0 mk0 pl) hn0 hn1 hn2 hn3 hn4) (cw_V htg wd_496 ws_11 qLoops_goRound iLoops_goRound kLoops_goRound pLoops_goRound rfl rfl ⟨Nat.le_of_ble_eq_true rfl, Nat.le_of_ble_eq_true rfl⟩) (va_recv hK hP (ci := 5) (q0 := 0) rfl rfl) hN hP hD hS hA hK [0, 5, 6, 1, 2, 3, 4] [] rfl rfl (by decide) (by decide) (by decide) rfl hl.1 rfl (Nat.le_of_ble_eq_true rfl) dLoops_learn_32 ⟨Nat.le_of_ble_eq_true rfl, Nat.le_of_ble_eq_true rfl⟩ (fun H locs hP hD hS => ?_)
      have hP : va_P (dC, dI) vwCl [(h0, .inr (5, [.int zs0, .int rw0, .int mk0, .ref b1, .ref a1, .ref a2, .ref a3, .ref a4])), (b1, .inr (3, [.int zs0, .int rw0, .int mk0, .int (bI false), .ref a0])), (a0, .inl (cA.1, n0, .inl ((tf_Counters_learn zs0 mk0 false n0 f0 pl hs tk)))), (a1, .inl (cA.1, n1, .inl f1)), (a2, .inl (cA.1, n2, .inl ((tf_Loops_goRound n2 f2 n3 f3 n4 f4 (tf_Loops_plainRow zs0 mk0 pl)).1))), (a3, .inl (cA.1, n3, .inl ((tf_Loops_goRound n2 f2 n3 f3 n4 f4 (tf_Loops_plainRow zs0 mk0 pl)).2.1))), (a4, .inl (cA.1, n4, .inl ((tf_Loops_goRound n2 f2 n3 f3 n4 f4 (tf_Loops_plainRow zs0 mk0 pl)).2.2)))] H := hP
      have hD : va_D A [(h0, .inr (5, [.int zs0, .int rw0, .int mk0, .ref b1, .ref a1, .ref a2, .ref a3, .ref a4])), (b1, .inr (3, [.int zs0, .int rw0, .int mk0, .int (bI false), .ref a0])), (a0, .inl (cA.1, n0, .inl ((tf_Counters_learn zs0 mk0 false n0 f0 pl hs tk)))), (a1, .inl (cA.1, n1, .inl f1)), (a2, .inl (cA.1, n2, .inl ((tf_Loops_goRound n2 f2 n3 f3 n4 f4 (tf_Loops_plainRow zs0 mk0 pl)).1))), (a3, .inl (cA.1, n3, .inl ((tf_Loops_goRound n2 f2 n3 f3 n4 f4 (tf_Loops_plainRow zs0 mk0 pl)).2.1))), (a4, .inl (cA.1, n4, .inl ((tf_Loops_goRound n2 f2 n3 f3 n4 f4 (tf_Loops_plainRow zs0 mk0 pl)).2.2)))] := hD
      refine lv_goto (tgt := 71) hx hb dLoops_learn_35 (by decide) ?_
      subst hfn
      exact W.vret hx hb hr (fun t ht hW => ⟨⟨_, rfl, rfl, ⟨by rw [ht]; exact hP.sub [0, 1, 2, 3, 4, 5, 6] rfl, va_K.moved hW.alike hK, hD.sub [0, 1, 2, 3, 4, 5, 6] (by decide) rfl⟩⟩, hS.F ht⟩) hS.2.2 dLoops_learn_71
def tf_Loops_bits (rw0 : Int32) : Int32 := (((tf_Counters_bits rw0 false) + (30 * rw0)))
set_option maxHeartbeats 4000000 in
set_option maxRecDepth 100000 in
theorem c_Loops_bits (l : Launch) (dC : Nat → ClassId) (dI : Nat → Nat → Nat) (cA : ClassId × ClassId × ClassId) (h0 : Nat) (b1 : Nat) (a0 : Nat) (a1 : Nat) (a2 : Nat) (a3 : Nat) (a4 : Nat) (zs0 : Int32) (rw0 : Int32) (mk0 : Int32) (n0 : Nat) (f0 : Nat → Int32) (n1 : Nat) (f1 : Nat → Int32) (n2 : Nat) (f2 : Nat → Int32) (n3 : Nat) (f3 : Nat → Int32) (n4 : Nat) (f4 : Nat → Int32) (hn0 : n0 < 2147483648) (hn1 : n1 < 2147483648) (hn2 : n2 < 2147483648) (hn3 : n3 < 2147483648) (hn4 : n4 < 2147483648) : Met l yLoops_bits wLoops_bits ({ frames := 1, cells := 0, slots := 0, locals := 20 }) (va_Pc [.ref h0] (Rd (dC, dI) cA [(h0, .inr (5, [.int zs0, .int rw0, .int mk0, .ref b1, .ref a1, .ref a2, .ref a3, .ref a4])), (b1, .inr (3, [.int zs0, .int rw0, .int mk0, .int (bI false), .ref a0])), (a0, .inl (cA.1, n0, .inl f0)), (a1, .inl (cA.1, n1, .inl f1)), (a2, .inl (cA.1, n2, .inl f2)), (a3, .inl (cA.1, n3, .inl f3)), (a4, .inl (cA.1, n4, .inl f4))])) (QcRead (tf_Loops_bits rw0)) 0 0 (fun _ => False) := by
  refine Met.ofW (cc := cLoops_bits) (maxL := 1) (ret := (some .int)) (by decide) rfl ?_
  intro p e s m args below meth c s₁ B hml hv
  obtain ⟨rfl, hN, hP, hK⟩ := hv
  have hx := B.exec
  have hb := B.bytes
  have hr := B.returns
  have hts := atoms_spec (ws := wLoops_bits) B.pre
  have htg : ∀ w ∈ GW, w.before _ s = true := fun w h => hts w (List.mem_cons_of_mem _ h)
  have hown : s.vm.findClass R_Loops = some m.cls := findClass_of_methodNamed B.named
  have hlocks := B.notSynchronized
  obtain ⟨rs, hfn⟩ : ∃ rs, (tf_Loops_bits rw0) = rs := ⟨_, rfl⟩
  try rw [hfn]
  have hl := lv_entry ([.ref h0]) (n := 1) (Nat.le_of_ble_eq_true rfl)
  rw [lg_entry_eq]
  generalize (lg_sl ([.ref h0]) ++ List.replicate (1 - (lg_sl ([.ref h0])).length) Slot.unset).toArray = ls at hl ⊢
  have hl : lv_has ls 1 [(0, .ref h0)] := hl
  unfold tf_Loops_bits at hfn
  refine lv_aload_n hx hb dLoops_bits_0 rfl (lv_at hl 0 rfl) ?_
  refine va_get (D := (dC, dI)) (ci := 5) (v := .ref b1) (C := R_Loops) (T := T_Loops) (N := 8) hx hb htg in_Loops hown hK hP 0 rfl rfl 3 (by decide) (htg _ wd_199) (fun _ h9 => h9) rfl dLoops_bits_1 ?_
  refine rd_V (As := []) (rest := []) ⟨hx, hb, hml, hown, htg⟩ (c_Counters_bits l dC dI cA b1 a0 zs0 rw0 mk0 false n0 f0 hn0) (cw_V htg wd_640 wd_628 qCounters_bits iCounters_bits kCounters_bits pCounters_bits rfl rfl ⟨Nat.le_of_ble_eq_true rfl, Nat.le_of_ble_eq_true rfl⟩) (va_recv hK hP (ci := 3) (q0 := 1) rfl rfl) hN (hP.sub [1, 2] rfl) hK rfl hl.1 rfl (Nat.le_of_ble_eq_true rfl) dLoops_bits_4 ⟨Nat.le_of_ble_eq_true rfl, Nat.le_of_ble_eq_true rfl⟩ ?_
  refine lv_bipush (v := 30) hx hb dLoops_bits_7 (by decide) ?_
  refine lv_aload_n hx hb dLoops_bits_9 rfl (lv_at hl 0 rfl) ?_
  refine va_get (D := (dC, dI)) (ci := 5) (v := .int rw0) (C := R_Loops) (T := T_Loops) (N := 8) hx hb htg in_Loops hown hK hP 0 rfl rfl 1 (by decide) (htg _ wd_72) (fun x9 h9 => u_same (htg _ wd_73) x9 h9) rfl dLoops_bits_10 ?_
  refine lv_imul hx hb dLoops_bits_13 ?_
  refine lv_iadd hx hb dLoops_bits_14 ?_
  subst hfn
  exact W.iret hx hb hr (fun t ht hW => ⟨rfl, ht⟩) (fun _ h => by cases h) dLoops_bits_15
def tf_Loops_answering (zs0 : Int32) (mk0 : Int32) (n1 : Nat) (f1 : Nat → Int32) (n4 : Nat) (f4 : Nat → Int32) (pl : Int32) : Int32 := (if (bI (tf_Loops_isTrusted zs0 mk0 n1 f1 n4 f4 pl)) = 0 then (0) else (1))
set_option maxHeartbeats 4000000 in
set_option maxRecDepth 100000 in
theorem c_Loops_answering (l : Launch) (dC : Nat → ClassId) (dI : Nat → Nat → Nat) (cA : ClassId × ClassId × ClassId) (h0 : Nat) (b1 : Nat) (a0 : Nat) (a1 : Nat) (a2 : Nat) (a3 : Nat) (a4 : Nat) (zs0 : Int32) (rw0 : Int32) (mk0 : Int32) (n0 : Nat) (f0 : Nat → Int32) (n1 : Nat) (f1 : Nat → Int32) (n2 : Nat) (f2 : Nat → Int32) (n3 : Nat) (f3 : Nat → Int32) (n4 : Nat) (f4 : Nat → Int32) (pl : Int32) (hs : Int32) (hn0 : n0 < 2147483648) (hn1 : n1 < 2147483648) (hn2 : n2 < 2147483648) (hn3 : n3 < 2147483648) (hn4 : n4 < 2147483648) : Met l yLoops_answering wLoops_answering ({ frames := 3, cells := 0, slots := 0, locals := 63 }) (va_Pc [.ref h0, .int pl, .int hs] (Rd (dC, dI) cA [(h0, .inr (5, [.int zs0, .int rw0, .int mk0, .ref b1, .ref a1, .ref a2, .ref a3, .ref a4])), (b1, .inr (3, [.int zs0, .int rw0, .int mk0, .int (bI false), .ref a0])), (a0, .inl (cA.1, n0, .inl f0)), (a1, .inl (cA.1, n1, .inl f1)), (a2, .inl (cA.1, n2, .inl f2)), (a3, .inl (cA.1, n3, .inl f3)), (a4, .inl (cA.1, n4, .inl f4))])) (QcRead (tf_Loops_answering zs0 mk0 n1 f1 n4 f4 pl)) 0 0 (fun _ => False) := by
  refine Met.ofW (cc := cLoops_answering) (maxL := 3) (ret := (some .int)) (by decide) rfl ?_
  intro p e s m args below meth c s₁ B hml hv
  obtain ⟨rfl, hN, hP, hK⟩ := hv
  have hx := B.exec
  have hb := B.bytes
  have hr := B.returns
  have hts := atoms_spec (ws := wLoops_answering) B.pre
  have htg : ∀ w ∈ GW, w.before _ s = true := fun w h => hts w (List.mem_cons_of_mem _ h)
  have hown : s.vm.findClass R_Loops = some m.cls := findClass_of_methodNamed B.named
  have hlocks := B.notSynchronized
  obtain ⟨rs, hfn⟩ : ∃ rs, (tf_Loops_answering zs0 mk0 n1 f1 n4 f4 pl) = rs := ⟨_, rfl⟩
  try rw [hfn]
  have hl := lv_entry ([.ref h0, .int pl, .int hs]) (n := 3) (Nat.le_of_ble_eq_true rfl)
  rw [lg_entry_eq]
  generalize (lg_sl ([.ref h0, .int pl, .int hs]) ++ List.replicate (3 - (lg_sl ([.ref h0, .int pl, .int hs])).length) Slot.unset).toArray = ls at hl ⊢
  have hl : lv_has ls 3 [(0, .ref h0), (1, .int pl), (2, .int hs)] := hl
  unfold tf_Loops_answering at hfn
  refine lv_aload_n hx hb dLoops_answering_0 rfl (lv_at hl 0 rfl) ?_
  refine lv_iload_n hx hb dLoops_answering_1 rfl (lv_at hl 1 rfl) ?_
  refine rd_V (As := [.int pl]) (rest := []) ⟨hx, hb, hml, hown, htg⟩ (c_Loops_isTrusted l dC dI cA h0 b1 a0 a1 a2 a3 a4 zs0 rw0 mk0 n0 f0 n1 f1 n2 f2 n3 f3 n4 f4 pl hn0 hn1 hn2 hn3 hn4) (cw_V htg wd_358 ws_2 qLoops_isTrusted iLoops_isTrusted kLoops_isTrusted pLoops_isTrusted rfl rfl ⟨Nat.le_of_ble_eq_true rfl, Nat.le_of_ble_eq_true rfl⟩) (va_recv hK hP (ci := 5) (q0 := 0) rfl rfl) hN (hP.sub [0, 1, 2, 3, 4, 5, 6] rfl) hK rfl hl.1 rfl (Nat.le_of_ble_eq_true rfl) dLoops_answering_2 ⟨Nat.le_of_ble_eq_true rfl, Nat.le_of_ble_eq_true rfl⟩ ?_
  refine lv_if_eq (tgt := 12) hx hb dLoops_answering_5 (by decide) (fun c_1 => ?_) (fun c_1 => ?_)
  · rw [if_pos c_1] at hfn
    refine lv_iconst (v := 0) hx hb dLoops_answering_12 (by decide) ?_
    subst hfn
    exact W.iret hx hb hr (fun t ht hW => ⟨rfl, ht⟩) (fun _ h => by cases h) dLoops_answering_13
  · rw [if_neg c_1] at hfn
    refine lv_iconst (v := 1) hx hb dLoops_answering_8 (by decide) ?_
    refine lv_goto (tgt := 13) hx hb dLoops_answering_9 (by decide) ?_
    subst hfn
    exact W.iret hx hb hr (fun t ht hW => ⟨rfl, ht⟩) (fun _ h => by cases h) dLoops_answering_13
