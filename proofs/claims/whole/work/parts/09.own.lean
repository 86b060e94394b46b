def tf_Own_number (zs0 : Int32) (mk0 : Int32) (n1 : Nat) (f1 : Nat → Int32) (n2 : Nat) (f2 : Nat → Int32) (pl : Int32) : Int32 := ((tf_PK_at n2 f2 (tf_PK_at n1 f1 (tf_Own_plainRow zs0 mk0 pl))))
set_option maxHeartbeats 4000000 in
set_option maxRecDepth 100000 in
theorem c_Own_number (l : Launch) (dC : Nat → ClassId) (dI : Nat → Nat → Nat) (cA : ClassId × ClassId × ClassId) (h0 : Nat) (a1 : Nat) (a2 : Nat) (zs0 : Int32) (rw0 : Int32) (mk0 : Int32) (n1 : Nat) (f1 : Nat → Int32) (n2 : Nat) (f2 : Nat → Int32) (pl : Int32) (hs : Int32) (hn1 : n1 < 2147483648) (hn2 : n2 < 2147483648) : Met l yOwn_number wOwn_number ({ frames := 1, cells := 0, slots := 0, locals := 21 }) (va_Pc [.ref h0, .int pl, .int hs] (Rd (dC, dI) cA [(h0, .inr (6, [.int zs0, .int rw0, .int mk0, .ref a1, .ref a2])), (a1, .inl (cA.1, n1, .inl f1)), (a2, .inl (cA.1, n2, .inl f2))])) (QcRead (tf_Own_number zs0 mk0 n1 f1 n2 f2 pl)) 0 0 (fun _ => False) := by
  refine Met.ofW (cc := cOwn_number) (maxL := 3) (ret := (some .int)) (by decide) rfl ?_
  intro p e s m args below meth c s₁ B hml hv
  obtain ⟨rfl, hN, hP, hK⟩ := hv
  have hx := B.exec
  have hb := B.bytes
  have hr := B.returns
  have hts := atoms_spec (ws := wOwn_number) B.pre
  have htg : ∀ w ∈ GW, w.before _ s = true := fun w h => hts w (List.mem_cons_of_mem _ h)
  have hown : s.vm.findClass R_Own = some m.cls := findClass_of_methodNamed B.named
  have hlocks := B.notSynchronized
  obtain ⟨rs, hfn⟩ : ∃ rs, (tf_Own_number zs0 mk0 n1 f1 n2 f2 pl) = rs := ⟨_, rfl⟩
  try rw [hfn]
  have hl := lv_entry ([.ref h0, .int pl, .int hs]) (n := 3) (Nat.le_of_ble_eq_true rfl)
  rw [lg_entry_eq]
  generalize (lg_sl ([.ref h0, .int pl, .int hs]) ++ List.replicate (3 - (lg_sl ([.ref h0, .int pl, .int hs])).length) Slot.unset).toArray = ls at hl ⊢
  have hl : lv_has ls 3 [(0, .ref h0), (1, .int pl), (2, .int hs)] := hl
  unfold tf_Own_number at hfn
  refine lv_aload_n hx hb dOwn_number_0 rfl (lv_at hl 0 rfl) ?_
  refine va_get (D := (dC, dI)) (ci := 6) (v := .ref a2) (C := R_Own) (T := T_Own) (N := 5) hx hb htg in_Own hown hK hP 0 rfl rfl 4 (by decide) (htg _ wd_120) (fun _ h9 => h9) rfl dOwn_number_1 ?_
  refine lv_aload_n hx hb dOwn_number_4 rfl (lv_at hl 0 rfl) ?_
  refine va_get (D := (dC, dI)) (ci := 6) (v := .ref a1) (C := R_Own) (T := T_Own) (N := 5) hx hb htg in_Own hown hK hP 0 rfl rfl 3 (by decide) (htg _ wd_119) (fun _ h9 => h9) rfl dOwn_number_5 ?_
  refine lv_aload_n hx hb dOwn_number_8 rfl (lv_at hl 0 rfl) ?_
  refine lv_iload_n hx hb dOwn_number_9 rfl (lv_at hl 1 rfl) ?_
  refine rd_U (As := [.int pl]) (rest := [.ref a1, .ref a2]) ⟨hx, hb, hml, hown, htg⟩ (c_Own_plainRow l dC dI cA h0 a1 a2 zs0 rw0 mk0 n1 f1 n2 f2 pl hn1 hn2) (cw_U (n := 1) htg wd_382 wd_383 wd_384 qKind_plainRow iKind_plainRow kKind_plainRow (va_Decl.abs (hN _ wn_318)) (by decide +kernel) (by decide +kernel) rfl rfl ⟨Nat.le_of_ble_eq_true rfl, Nat.le_of_ble_eq_true rfl⟩) (va_recv hK hP (ci := 6) (q0 := 0) rfl rfl) hN (hP.sub [0, 1, 2] rfl) hK rfl hl.1 rfl (Nat.le_of_ble_eq_true rfl) dOwn_number_10 ⟨Nat.le_of_ble_eq_true rfl, Nat.le_of_ble_eq_true rfl⟩ ?_
  refine rd_SN (As := [.ref a1, .int (tf_Own_plainRow zs0 mk0 pl)]) (rest := [.ref a2]) ⟨hx, hb, hml, hown, htg⟩ (c_PK_at l dC dI cA a1 n1 f1 (tf_Own_plainRow zs0 mk0 pl) hn1) (cw_SN htg hN wn_385 qPK_at iPK_at kPK_at pPK_at rfl rfl ⟨Nat.le_of_ble_eq_true rfl, Nat.le_of_ble_eq_true rfl⟩) hN (hP.sub [1] rfl) hK rfl hl.1 rfl (Nat.le_of_ble_eq_true rfl) dOwn_number_13 ⟨Nat.le_of_ble_eq_true rfl, Nat.le_of_ble_eq_true rfl⟩ ?_
  refine rd_SN (As := [.ref a2, .int (tf_PK_at n1 f1 (tf_Own_plainRow zs0 mk0 pl))]) (rest := []) ⟨hx, hb, hml, hown, htg⟩ (c_PK_at l dC dI cA a2 n2 f2 (tf_PK_at n1 f1 (tf_Own_plainRow zs0 mk0 pl)) hn2) (cw_SN htg hN wn_385 qPK_at iPK_at kPK_at pPK_at rfl rfl ⟨Nat.le_of_ble_eq_true rfl, Nat.le_of_ble_eq_true rfl⟩) hN (hP.sub [2] rfl) hK rfl hl.1 rfl (Nat.le_of_ble_eq_true rfl) dOwn_number_16 ⟨Nat.le_of_ble_eq_true rfl, Nat.le_of_ble_eq_true rfl⟩ ?_
  subst hfn
  exact W.iret hx hb hr (fun t ht hW => ⟨rfl, ht⟩) (fun _ h => by cases h) dOwn_number_19
def tf_Own_says (zs0 : Int32) (mk0 : Int32) (n1 : Nat) (f1 : Nat → Int32) (n2 : Nat) (f2 : Nat → Int32) (pl : Int32) : Bool := (if (tf_Own_number zs0 mk0 n1 f1 n2 f2 pl) < 2 then (false) else (true))
set_option maxHeartbeats 4000000 in
set_option maxRecDepth 100000 in
theorem c_Own_says (l : Launch) (dC : Nat → ClassId) (dI : Nat → Nat → Nat) (cA : ClassId × ClassId × ClassId) (h0 : Nat) (a1 : Nat) (a2 : Nat) (zs0 : Int32) (rw0 : Int32) (mk0 : Int32) (n1 : Nat) (f1 : Nat → Int32) (n2 : Nat) (f2 : Nat → Int32) (pl : Int32) (hs : Int32) (hn1 : n1 < 2147483648) (hn2 : n2 < 2147483648) : Met l yOwn_says wOwn_says ({ frames := 2, cells := 0, slots := 0, locals := 43 }) (va_Pc [.ref h0, .int pl, .int hs] (Rd (dC, dI) cA [(h0, .inr (6, [.int zs0, .int rw0, .int mk0, .ref a1, .ref a2])), (a1, .inl (cA.1, n1, .inl f1)), (a2, .inl (cA.1, n2, .inl f2))])) (QcRead (bI (tf_Own_says zs0 mk0 n1 f1 n2 f2 pl))) 0 0 (fun _ => False) := by
  refine Met.ofW (cc := cOwn_says) (maxL := 3) (ret := (some .boolean)) (by decide) rfl ?_
  intro p e s m args below meth c s₁ B hml hv
  obtain ⟨rfl, hN, hP, hK⟩ := hv
  have hx := B.exec
  have hb := B.bytes
  have hr := B.returns
  have hts := atoms_spec (ws := wOwn_says) B.pre
  have htg : ∀ w ∈ GW, w.before _ s = true := fun w h => hts w (List.mem_cons_of_mem _ h)
  have hown : s.vm.findClass R_Own = some m.cls := findClass_of_methodNamed B.named
  have hlocks := B.notSynchronized
  obtain ⟨rs, hfn⟩ : ∃ rs, (tf_Own_says zs0 mk0 n1 f1 n2 f2 pl) = rs := ⟨_, rfl⟩
  try rw [hfn]
  have hl := lv_entry ([.ref h0, .int pl, .int hs]) (n := 3) (Nat.le_of_ble_eq_true rfl)
  rw [lg_entry_eq]
  generalize (lg_sl ([.ref h0, .int pl, .int hs]) ++ List.replicate (3 - (lg_sl ([.ref h0, .int pl, .int hs])).length) Slot.unset).toArray = ls at hl ⊢
  have hl : lv_has ls 3 [(0, .ref h0), (1, .int pl), (2, .int hs)] := hl
  unfold tf_Own_says at hfn
  refine lv_aload_n hx hb dOwn_says_0 rfl (lv_at hl 0 rfl) ?_
  refine lv_iload_n hx hb dOwn_says_1 rfl (lv_at hl 1 rfl) ?_
  refine lv_iload_n hx hb dOwn_says_2 rfl (lv_at hl 2 rfl) ?_
  refine rd_V (As := [.int pl, .int hs]) (rest := []) ⟨hx, hb, hml, hown, htg⟩ (c_Own_number l dC dI cA h0 a1 a2 zs0 rw0 mk0 n1 f1 n2 f2 pl hs hn1 hn2) (cw_V htg wd_378 wd_380 qOwn_number iOwn_number kOwn_number pOwn_number rfl rfl ⟨Nat.le_of_ble_eq_true rfl, Nat.le_of_ble_eq_true rfl⟩) (va_recv hK hP (ci := 6) (q0 := 0) rfl rfl) hN (hP.sub [0, 1, 2] rfl) hK rfl hl.1 rfl (Nat.le_of_ble_eq_true rfl) dOwn_says_3 ⟨Nat.le_of_ble_eq_true rfl, Nat.le_of_ble_eq_true rfl⟩ ?_
  refine lv_iconst (v := 2) hx hb dOwn_says_6 (by decide) ?_
  refine lv_icmp_lt (tgt := 14) hx hb dOwn_says_7 (by decide) (fun c_1 => ?_) (fun c_1 => ?_)
  · rw [if_pos c_1] at hfn
    refine lv_iconst (v := 0) hx hb dOwn_says_14 (by decide) ?_
    subst hfn
    exact W.zret hx hb hr rfl (fun t ht hW => ⟨rfl, ht⟩) (fun _ h => by cases h) dOwn_says_15
  · rw [if_neg c_1] at hfn
    refine lv_iconst (v := 1) hx hb dOwn_says_10 (by decide) ?_
    refine lv_goto (tgt := 15) hx hb dOwn_says_11 (by decide) ?_
    subst hfn
    exact W.zret hx hb hr rfl (fun t ht hW => ⟨rfl, ht⟩) (fun _ h => by cases h) dOwn_says_15
def tf_Own_learn (zs0 : Int32) (mk0 : Int32) (n1 : Nat) (f1 : Nat → Int32) (n2 : Nat) (f2 : Nat → Int32) (pl : Int32) (tk : Bool) : (Nat → Int32) × (Nat → Int32) := (((tf_PK_put n1 f1 (tf_Own_plainRow zs0 mk0 pl) ((tf_PK_behind (tf_PK_at n1 f1 (tf_Own_plainRow zs0 mk0 pl)) tk) &&& mk0))), ((tf_PK_stepCounter n2 f2 (tf_PK_at n1 f1 (tf_Own_plainRow zs0 mk0 pl)) tk)))
set_option maxHeartbeats 4000000 in
set_option maxRecDepth 100000 in
theorem c_Own_learn (l : Launch) (dC : Nat → ClassId) (dI : Nat → Nat → Nat) (cA : ClassId × ClassId × ClassId) (zz : Nat) (h0 : Nat) (a1 : Nat) (a2 : Nat) (zs0 : Int32) (rw0 : Int32) (mk0 : Int32) (n1 : Nat) (f1 : Nat → Int32) (n2 : Nat) (f2 : Nat → Int32) (pl : Int32) (hs : Int32) (tk : Bool) (hn1 : n1 < 2147483648) (hn2 : n2 < 2147483648) : Met l yOwn_learn wOwn_learn ({ frames := 3, cells := 0, slots := 0, locals := 69 }) (va_Pc [.ref h0, .int pl, .int hs, .int (bI tk)] (Wr (dC, dI) cA zz [(h0, .inr (6, [.int zs0, .int rw0, .int mk0, .ref a1, .ref a2])), (a1, .inl (cA.1, n1, .inl f1)), (a2, .inl (cA.1, n2, .inl f2))])) (va_Qv (fun w9 => w9 = [(h0, .inr (6, [.int zs0, .int rw0, .int mk0, .ref a1, .ref a2])), (a1, .inl (cA.1, n1, .inl ((tf_Own_learn zs0 mk0 n1 f1 n2 f2 pl tk).1))), (a2, .inl (cA.1, n2, .inl ((tf_Own_learn zs0 mk0 n1 f1 n2 f2 pl tk).2)))]) (At (dC, dI) cA (va_A [(h0, .inr (6, [.int zs0, .int rw0, .int mk0, .ref a1, .ref a2])), (a1, .inl (cA.1, n1, .inl f1)), (a2, .inl (cA.1, n2, .inl f2))] zz)) (va_A [(h0, .inr (6, [.int zs0, .int rw0, .int mk0, .ref a1, .ref a2])), (a1, .inl (cA.1, n1, .inl f1)), (a2, .inl (cA.1, n2, .inl f2))] zz)) 0 0 (va_A [(h0, .inr (6, [.int zs0, .int rw0, .int mk0, .ref a1, .ref a2])), (a1, .inl (cA.1, n1, .inl f1)), (a2, .inl (cA.1, n2, .inl f2))] zz) := by
  refine Met.ofW (cc := cOwn_learn) (maxL := 6) (ret := none) (by decide) rfl ?_
  intro p e s m args below meth c s₁ B hml hv
  obtain ⟨rfl, hsz, hN, hP, hK, hD0⟩ := hv
  have hx := B.exec
  have hb := B.bytes
  have hr := B.returns
  have hts := atoms_spec (ws := wOwn_learn) B.pre
  have htg : ∀ w ∈ GW, w.before _ s = true := fun w h => hts w (List.mem_cons_of_mem _ h)
  have hown : s.vm.findClass R_Own = some m.cls := findClass_of_methodNamed B.named
  have hlocks := B.notSynchronized
  subst hsz
  have hD := hD0.self (sz := s.heap.size)
  generalize hAe : va_A [(h0, .inr (6, [.int zs0, .int rw0, .int mk0, .ref a1, .ref a2])), (a1, .inl (cA.1, n1, .inl f1)), (a2, .inl (cA.1, n2, .inl f2))] s.heap.size = A at hD ⊢
  have hA : ∀ q : Nat, s.heap.size ≤ q → A q := fun q h => by rw [← hAe]; exact Or.inr h
  have hS : va_S A s.heap s.heap [] := va_S.rf
  have hP : va_P (dC, dI) vwCl [(h0, .inr (6, [.int zs0, .int rw0, .int mk0, .ref a1, .ref a2])), (a1, .inl (cA.1, n1, .inl f1)), (a2, .inl (cA.1, n2, .inl f2))] s.heap := hP
  obtain ⟨rs, hfn⟩ : ∃ rs, (tf_Own_learn zs0 mk0 n1 f1 n2 f2 pl tk) = rs := ⟨_, rfl⟩
  try rw [hfn]
  have hl := lv_entry ([.ref h0, .int pl, .int hs, .int (bI tk)]) (n := 6) (Nat.le_of_ble_eq_true rfl)
  rw [lg_entry_eq]
  generalize (lg_sl ([.ref h0, .int pl, .int hs, .int (bI tk)]) ++ List.replicate (6 - (lg_sl ([.ref h0, .int pl, .int hs, .int (bI tk)])).length) Slot.unset).toArray = ls at hl ⊢
  have hl : lv_has ls 6 [(0, .ref h0), (1, .int pl), (2, .int hs), (3, .int (bI tk))] := hl
  unfold tf_Own_learn at hfn
  refine lv_aload_n hx hb dOwn_learn_0 rfl (lv_at hl 0 rfl) ?_
  refine lv_iload_n hx hb dOwn_learn_1 rfl (lv_at hl 1 rfl) ?_
  refine rd_U (As := [.int pl]) (rest := []) ⟨hx, hb, hml, hown, htg⟩ (c_Own_plainRow l dC dI cA h0 a1 a2 zs0 rw0 mk0 n1 f1 n2 f2 pl hn1 hn2) (cw_U (n := 1) htg wd_382 wd_383 wd_384 qKind_plainRow iKind_plainRow kKind_plainRow (va_Decl.abs (hN _ wn_318)) (by decide +kernel) (by decide +kernel) rfl rfl ⟨Nat.le_of_ble_eq_true rfl, Nat.le_of_ble_eq_true rfl⟩) (va_recv hK hP (ci := 6) (q0 := 0) rfl rfl) hN (hP.sub [0, 1, 2] rfl) hK rfl hl.1 rfl (Nat.le_of_ble_eq_true rfl) dOwn_learn_2 ⟨Nat.le_of_ble_eq_true rfl, Nat.le_of_ble_eq_true rfl⟩ ?_
  refine lv_istore (lv' := [(4, .int (tf_Own_plainRow zs0 mk0 pl)), (0, .ref h0), (1, .int pl), (2, .int hs), (3, .int (bI tk))]) hx hb dOwn_learn_5 hl (by decide) rfl (fun ls hl => ?_)
  refine lv_aload_n hx hb dOwn_learn_7 rfl (lv_at hl 1 rfl) ?_
  refine va_get (D := (dC, dI)) (ci := 6) (v := .ref a1) (C := R_Own) (T := T_Own) (N := 5) hx hb htg in_Own hown hK hP 0 rfl rfl 3 (by decide) (htg _ wd_119) (fun _ h9 => h9) rfl dOwn_learn_8 ?_
  refine lv_iload hx hb dOwn_learn_11 (lv_at hl 0 rfl) ?_
  refine rd_SN (As := [.ref a1, .int (tf_Own_plainRow zs0 mk0 pl)]) (rest := []) ⟨hx, hb, hml, hown, htg⟩ (c_PK_at l dC dI cA a1 n1 f1 (tf_Own_plainRow zs0 mk0 pl) hn1) (cw_SN htg hN wn_385 qPK_at iPK_at kPK_at pPK_at rfl rfl ⟨Nat.le_of_ble_eq_true rfl, Nat.le_of_ble_eq_true rfl⟩) hN (hP.sub [1] rfl) hK rfl hl.1 rfl (Nat.le_of_ble_eq_true rfl) dOwn_learn_13 ⟨Nat.le_of_ble_eq_true rfl, Nat.le_of_ble_eq_true rfl⟩ ?_
  refine lv_istore (lv' := [(5, .int (tf_PK_at n1 f1 (tf_Own_plainRow zs0 mk0 pl))), (4, .int (tf_Own_plainRow zs0 mk0 pl)), (0, .ref h0), (1, .int pl), (2, .int hs), (3, .int (bI tk))]) hx hb dOwn_learn_16 hl (by decide) rfl (fun ls hl => ?_)
  refine lv_aload_n hx hb dOwn_learn_18 rfl (lv_at hl 2 rfl) ?_
  refine va_get (D := (dC, dI)) (ci := 6) (v := .ref a2) (C := R_Own) (T := T_Own) (N := 5) hx hb htg in_Own hown hK hP 0 rfl rfl 4 (by decide) (htg _ wd_120) (fun _ h9 => h9) rfl dOwn_learn_19 ?_
  refine lv_iload hx hb dOwn_learn_22 (lv_at hl 0 rfl) ?_
  refine lv_iload_n hx hb dOwn_learn_24 rfl (lv_at hl 5 rfl) ?_
  refine wr_SNv (wr := [(h0, .inr (6, [.int zs0, .int rw0, .int mk0, .ref a1, .ref a2])), (a1, .inl (cA.1, n1, .inl f1))]) (As := [.ref a2, .int (tf_PK_at n1 f1 (tf_Own_plainRow zs0 mk0 pl)), .int (bI tk)]) (rest := []) ⟨hx, hb, hml, hown, htg⟩ (c_PK_stepCounter l dC dI cA _ a2 n2 f2 (tf_PK_at n1 f1 (tf_Own_plainRow zs0 mk0 pl)) tk hn2) (cw_SN htg hN wn_513 qPK_stepCounter iPK_stepCounter kPK_stepCounter pPK_stepCounter rfl rfl ⟨Nat.le_of_ble_eq_true rfl, Nat.le_of_ble_eq_true rfl⟩) hN hP hD hS hA hK [2] [0, 1] rfl rfl (by decide) (by decide) (by decide) rfl hl.1 rfl (Nat.le_of_ble_eq_true rfl) dOwn_learn_25 ⟨Nat.le_of_ble_eq_true rfl, Nat.le_of_ble_eq_true rfl⟩ (fun H locs hP hD hS => ?_)
  have hP : va_P (dC, dI) vwCl [(h0, .inr (6, [.int zs0, .int rw0, .int mk0, .ref a1, .ref a2])), (a1, .inl (cA.1, n1, .inl f1)), (a2, .inl (cA.1, n2, .inl ((tf_PK_stepCounter n2 f2 (tf_PK_at n1 f1 (tf_Own_plainRow zs0 mk0 pl)) tk))))] H := hP
  have hD : va_D A [(h0, .inr (6, [.int zs0, .int rw0, .int mk0, .ref a1, .ref a2])), (a1, .inl (cA.1, n1, .inl f1)), (a2, .inl (cA.1, n2, .inl ((tf_PK_stepCounter n2 f2 (tf_PK_at n1 f1 (tf_Own_plainRow zs0 mk0 pl)) tk))))] := hD
  refine lv_aload_n hx hb dOwn_learn_28 rfl (lv_at hl 2 rfl) ?_
  refine va_get (D := (dC, dI)) (ci := 6) (v := .ref a1) (C := R_Own) (T := T_Own) (N := 5) hx hb htg in_Own hown hK hP 0 rfl rfl 3 (by decide) (htg _ wd_119) (fun _ h9 => h9) rfl dOwn_learn_29 ?_
  refine lv_iload hx hb dOwn_learn_32 (lv_at hl 1 rfl) ?_
  refine lv_iload hx hb dOwn_learn_34 (lv_at hl 0 rfl) ?_
  refine lv_iload_n hx hb dOwn_learn_36 rfl (lv_at hl 5 rfl) ?_
  refine rd_SN (As := [.int (tf_PK_at n1 f1 (tf_Own_plainRow zs0 mk0 pl)), .int (bI tk)]) (rest := [.int (tf_Own_plainRow zs0 mk0 pl), .ref a1]) ⟨hx, hb, hml, hown, htg⟩ (c_PK_behind l dC dI cA (tf_PK_at n1 f1 (tf_Own_plainRow zs0 mk0 pl)) tk) (cw_SN htg hN wn_514 qPK_behind iPK_behind kPK_behind pPK_behind rfl rfl ⟨Nat.le_of_ble_eq_true rfl, Nat.le_of_ble_eq_true rfl⟩) hN (hP.sub [] rfl) hK rfl hl.1 rfl (Nat.le_of_ble_eq_true rfl) dOwn_learn_37 ⟨Nat.le_of_ble_eq_true rfl, Nat.le_of_ble_eq_true rfl⟩ ?_
  refine lv_aload_n hx hb dOwn_learn_40 rfl (lv_at hl 2 rfl) ?_
  refine va_get (D := (dC, dI)) (ci := 6) (v := .int mk0) (C := R_Own) (T := T_Own) (N := 5) hx hb htg in_Own hown hK hP 0 rfl rfl 2 (by decide) (htg _ wd_79) (fun x9 h9 => u_same (htg _ wd_80) x9 h9) rfl dOwn_learn_41 ?_
  refine lv_iand hx hb dOwn_learn_44 ?_
  refine wr_SNv (wr := [(h0, .inr (6, [.int zs0, .int rw0, .int mk0, .ref a1, .ref a2])), (a2, .inl (cA.1, n2, .inl ((tf_PK_stepCounter n2 f2 (tf_PK_at n1 f1 (tf_Own_plainRow zs0 mk0 pl)) tk))))]) (As := [.ref a1, .int (tf_Own_plainRow zs0 mk0 pl), .int ((tf_PK_behind (tf_PK_at n1 f1 (tf_Own_plainRow zs0 mk0 pl)) tk) &&& mk0)]) (rest := []) ⟨hx, hb, hml, hown, htg⟩ (c_PK_put l dC dI cA _ a1 n1 f1 (tf_Own_plainRow zs0 mk0 pl) ((tf_PK_behind (tf_PK_at n1 f1 (tf_Own_plainRow zs0 mk0 pl)) tk) &&& mk0) hn1) (cw_SN htg hN wn_515 qPK_put iPK_put kPK_put pPK_put rfl rfl ⟨Nat.le_of_ble_eq_true rfl, Nat.le_of_ble_eq_true rfl⟩) hN hP hD hS hA hK [1] [0, 2] rfl rfl (by decide) (by decide) (by decide) rfl hl.1 rfl (Nat.le_of_ble_eq_true rfl) dOwn_learn_45 ⟨Nat.le_of_ble_eq_true rfl, Nat.le_of_ble_eq_true rfl⟩ (fun H locs hP hD hS => ?_)
  have hP : va_P (dC, dI) vwCl [(h0, .inr (6, [.int zs0, .int rw0, .int mk0, .ref a1, .ref a2])), (a2, .inl (cA.1, n2, .inl ((tf_PK_stepCounter n2 f2 (tf_PK_at n1 f1 (tf_Own_plainRow zs0 mk0 pl)) tk)))), (a1, .inl (cA.1, n1, .inl ((tf_PK_put n1 f1 (tf_Own_plainRow zs0 mk0 pl) ((tf_PK_behind (tf_PK_at n1 f1 (tf_Own_plainRow zs0 mk0 pl)) tk) &&& mk0)))))] H := hP
  have hD : va_D A [(h0, .inr (6, [.int zs0, .int rw0, .int mk0, .ref a1, .ref a2])), (a2, .inl (cA.1, n2, .inl ((tf_PK_stepCounter n2 f2 (tf_PK_at n1 f1 (tf_Own_plainRow zs0 mk0 pl)) tk)))), (a1, .inl (cA.1, n1, .inl ((tf_PK_put n1 f1 (tf_Own_plainRow zs0 mk0 pl) ((tf_PK_behind (tf_PK_at n1 f1 (tf_Own_plainRow zs0 mk0 pl)) tk) &&& mk0)))))] := hD
  subst hfn
  exact W.vret hx hb hr (fun t ht hW => ⟨⟨_, rfl, rfl, ⟨by rw [ht]; exact hP.sub [0, 2, 1] rfl, va_K.moved hW.alike hK, hD.sub [0, 2, 1] (by decide) rfl⟩⟩, hS.F ht⟩) hS.2.2 dOwn_learn_48
def tf_Own_bits (zs0 : Int32) (rw0 : Int32) : Int32 := (((zs0 * rw0) + (2 * rw0)))
set_option maxHeartbeats 4000000 in
set_option maxRecDepth 100000 in
theorem c_Own_bits (l : Launch) (dC : Nat → ClassId) (dI : Nat → Nat → Nat) (cA : ClassId × ClassId × ClassId) (h0 : Nat) (a1 : Nat) (a2 : Nat) (zs0 : Int32) (rw0 : Int32) (mk0 : Int32) (n1 : Nat) (f1 : Nat → Int32) (n2 : Nat) (f2 : Nat → Int32) (hn1 : n1 < 2147483648) (hn2 : n2 < 2147483648) : Met l yOwn_bits wOwn_bits ({ frames := 0, cells := 0, slots := 0, locals := 0 }) (va_Pc [.ref h0] (Rd (dC, dI) cA [(h0, .inr (6, [.int zs0, .int rw0, .int mk0, .ref a1, .ref a2])), (a1, .inl (cA.1, n1, .inl f1)), (a2, .inl (cA.1, n2, .inl f2))])) (QcRead (tf_Own_bits zs0 rw0)) 0 0 (fun _ => False) := by
  refine Met.ofW (cc := cOwn_bits) (maxL := 1) (ret := (some .int)) (by decide) rfl ?_
  intro p e s m args below meth c s₁ B hml hv
  obtain ⟨rfl, hN, hP, hK⟩ := hv
  have hx := B.exec
  have hb := B.bytes
  have hr := B.returns
  have hts := atoms_spec (ws := wOwn_bits) B.pre
  have htg : ∀ w ∈ GW, w.before _ s = true := fun w h => hts w (List.mem_cons_of_mem _ h)
  have hown : s.vm.findClass R_Own = some m.cls := findClass_of_methodNamed B.named
  have hlocks := B.notSynchronized
  obtain ⟨rs, hfn⟩ : ∃ rs, (tf_Own_bits zs0 rw0) = rs := ⟨_, rfl⟩
  try rw [hfn]
  have hl := lv_entry ([.ref h0]) (n := 1) (Nat.le_of_ble_eq_true rfl)
  rw [lg_entry_eq]
  generalize (lg_sl ([.ref h0]) ++ List.replicate (1 - (lg_sl ([.ref h0])).length) Slot.unset).toArray = ls at hl ⊢
  have hl : lv_has ls 1 [(0, .ref h0)] := hl
  unfold tf_Own_bits at hfn
  refine lv_aload_n hx hb dOwn_bits_0 rfl (lv_at hl 0 rfl) ?_
  refine va_get (D := (dC, dI)) (ci := 6) (v := .int zs0) (C := R_Own) (T := T_Own) (N := 5) hx hb htg in_Own hown hK hP 0 rfl rfl 0 (by decide) (htg _ wd_57) (fun x9 h9 => u_same (htg _ wd_58) x9 h9) rfl dOwn_bits_1 ?_
  refine lv_aload_n hx hb dOwn_bits_4 rfl (lv_at hl 0 rfl) ?_
  refine va_get (D := (dC, dI)) (ci := 6) (v := .int rw0) (C := R_Own) (T := T_Own) (N := 5) hx hb htg in_Own hown hK hP 0 rfl rfl 1 (by decide) (htg _ wd_65) (fun x9 h9 => u_same (htg _ wd_66) x9 h9) rfl dOwn_bits_5 ?_
  refine lv_imul hx hb dOwn_bits_8 ?_
  refine lv_iconst (v := 2) hx hb dOwn_bits_9 (by decide) ?_
  refine lv_aload_n hx hb dOwn_bits_10 rfl (lv_at hl 0 rfl) ?_
  refine va_get (D := (dC, dI)) (ci := 6) (v := .int rw0) (C := R_Own) (T := T_Own) (N := 5) hx hb htg in_Own hown hK hP 0 rfl rfl 1 (by decide) (htg _ wd_65) (fun x9 h9 => u_same (htg _ wd_66) x9 h9) rfl dOwn_bits_11 ?_
  refine lv_imul hx hb dOwn_bits_14 ?_
  refine lv_iadd hx hb dOwn_bits_15 ?_
  subst hfn
  exact W.iret hx hb hr (fun t ht hW => ⟨rfl, ht⟩) (fun _ h => by cases h) dOwn_bits_16
def tf_Coin_number (xs : Int32) : Int32 := (if (bI (tf_PK_bitOf xs 16)) = 0 then (0) else (1))
set_option maxHeartbeats 4000000 in
set_option maxRecDepth 100000 in
theorem c_Coin_number (l : Launch) (dC : Nat → ClassId) (dI : Nat → Nat → Nat) (cA : ClassId × ClassId × ClassId) (h0 : Nat) (zs0 : Int32) (rw0 : Int32) (mk0 : Int32) (xs : Int32) (pl : Int32) (hs : Int32) : Met l yCoin_number wCoin_number ({ frames := 1, cells := 0, slots := 0, locals := 21 }) (va_Pc [.ref h0, .int pl, .int hs] (Rd (dC, dI) cA [(h0, .inr (2, [.int zs0, .int rw0, .int mk0, .int xs]))])) (QcRead (tf_Coin_number xs)) 0 0 (fun _ => False) := by
  refine Met.ofW (cc := cCoin_number) (maxL := 3) (ret := (some .int)) (by decide) rfl ?_
  intro p e s m args below meth c s₁ B hml hv
  obtain ⟨rfl, hN, hP, hK⟩ := hv
  have hx := B.exec
  have hb := B.bytes
  have hr := B.returns
  have hts := atoms_spec (ws := wCoin_number) B.pre
  have htg : ∀ w ∈ GW, w.before _ s = true := fun w h => hts w (List.mem_cons_of_mem _ h)
  have hown : s.vm.findClass R_Coin = some m.cls := findClass_of_methodNamed B.named
  have hlocks := B.notSynchronized
  obtain ⟨rs, hfn⟩ : ∃ rs, (tf_Coin_number xs) = rs := ⟨_, rfl⟩
  try rw [hfn]
  have hl := lv_entry ([.ref h0, .int pl, .int hs]) (n := 3) (Nat.le_of_ble_eq_true rfl)
  rw [lg_entry_eq]
  generalize (lg_sl ([.ref h0, .int pl, .int hs]) ++ List.replicate (3 - (lg_sl ([.ref h0, .int pl, .int hs])).length) Slot.unset).toArray = ls at hl ⊢
  have hl : lv_has ls 3 [(0, .ref h0), (1, .int pl), (2, .int hs)] := hl
  unfold tf_Coin_number at hfn
  refine lv_aload_n hx hb dCoin_number_0 rfl (lv_at hl 0 rfl) ?_
  refine va_get (D := (dC, dI)) (ci := 2) (v := .int xs) (C := R_Coin) (T := T_Coin) (N := 4) hx hb htg in_Coin hown hK hP 0 rfl rfl 3 (by decide) (htg _ wd_224) (fun _ h9 => h9) rfl dCoin_number_1 ?_
  refine lv_bipush (v := 16) hx hb dCoin_number_4 (by decide) ?_
  refine rd_SN (As := [.int xs, .int 16]) (rest := []) ⟨hx, hb, hml, hown, htg⟩ (c_PK_bitOf l dC dI cA xs 16) (cw_SN htg hN wn_340 qPK_bitOf iPK_bitOf kPK_bitOf pPK_bitOf rfl rfl ⟨Nat.le_of_ble_eq_true rfl, Nat.le_of_ble_eq_true rfl⟩) hN (hP.sub [] rfl) hK rfl hl.1 rfl (Nat.le_of_ble_eq_true rfl) dCoin_number_6 ⟨Nat.le_of_ble_eq_true rfl, Nat.le_of_ble_eq_true rfl⟩ ?_
  refine lv_if_eq (tgt := 16) hx hb dCoin_number_9 (by decide) (fun c_1 => ?_) (fun c_1 => ?_)
  · rw [if_pos c_1] at hfn
    refine lv_iconst (v := 0) hx hb dCoin_number_16 (by decide) ?_
    subst hfn
    exact W.iret hx hb hr (fun t ht hW => ⟨rfl, ht⟩) (fun _ h => by cases h) dCoin_number_17
  · rw [if_neg c_1] at hfn
    refine lv_iconst (v := 1) hx hb dCoin_number_12 (by decide) ?_
    refine lv_goto (tgt := 17) hx hb dCoin_number_13 (by decide) ?_
    subst hfn
    exact W.iret hx hb hr (fun t ht hW => ⟨rfl, ht⟩) (fun _ h => by cases h) dCoin_number_17
def tf_Coin_says (xs : Int32) : Bool := ((tf_PK_bitOf xs 16))
set_option maxHeartbeats 4000000 in
set_option maxRecDepth 100000 in
theorem c_Coin_says (l : Launch) (dC : Nat → ClassId) (dI : Nat → Nat → Nat) (cA : ClassId × ClassId × ClassId) (h0 : Nat) (zs0 : Int32) (rw0 : Int32) (mk0 : Int32) (xs : Int32) (pl : Int32) (hs : Int32) : Met l yCoin_says wCoin_says ({ frames := 1, cells := 0, slots := 0, locals := 21 }) (va_Pc [.ref h0, .int pl, .int hs] (Rd (dC, dI) cA [(h0, .inr (2, [.int zs0, .int rw0, .int mk0, .int xs]))])) (QcRead (bI (tf_Coin_says xs))) 0 0 (fun _ => False) := by
  refine Met.ofW (cc := cCoin_says) (maxL := 3) (ret := (some .boolean)) (by decide) rfl ?_
  intro p e s m args below meth c s₁ B hml hv
  obtain ⟨rfl, hN, hP, hK⟩ := hv
  have hx := B.exec
  have hb := B.bytes
  have hr := B.returns
  have hts := atoms_spec (ws := wCoin_says) B.pre
  have htg : ∀ w ∈ GW, w.before _ s = true := fun w h => hts w (List.mem_cons_of_mem _ h)
  have hown : s.vm.findClass R_Coin = some m.cls := findClass_of_methodNamed B.named
  have hlocks := B.notSynchronized
  obtain ⟨rs, hfn⟩ : ∃ rs, (tf_Coin_says xs) = rs := ⟨_, rfl⟩
  try rw [hfn]
  have hl := lv_entry ([.ref h0, .int pl, .int hs]) (n := 3) (Nat.le_of_ble_eq_true rfl)
  rw [lg_entry_eq]
  generalize (lg_sl ([.ref h0, .int pl, .int hs]) ++ List.replicate (3 - (lg_sl ([.ref h0, .int pl, .int hs])).length) Slot.unset).toArray = ls at hl ⊢
  have hl : lv_has ls 3 [(0, .ref h0), (1, .int pl), (2, .int hs)] := hl
  unfold tf_Coin_says at hfn
  refine lv_aload_n hx hb dCoin_says_0 rfl (lv_at hl 0 rfl) ?_
  refine va_get (D := (dC, dI)) (ci := 2) (v := .int xs) (C := R_Coin) (T := T_Coin) (N := 4) hx hb htg in_Coin hown hK hP 0 rfl rfl 3 (by decide) (htg _ wd_224) (fun _ h9 => h9) rfl dCoin_says_1 ?_
  refine lv_bipush (v := 16) hx hb dCoin_says_4 (by decide) ?_
  refine rd_SN (As := [.int xs, .int 16]) (rest := []) ⟨hx, hb, hml, hown, htg⟩ (c_PK_bitOf l dC dI cA xs 16) (cw_SN htg hN wn_340 qPK_bitOf iPK_bitOf kPK_bitOf pPK_bitOf rfl rfl ⟨Nat.le_of_ble_eq_true rfl, Nat.le_of_ble_eq_true rfl⟩) hN (hP.sub [] rfl) hK rfl hl.1 rfl (Nat.le_of_ble_eq_true rfl) dCoin_says_6 ⟨Nat.le_of_ble_eq_true rfl, Nat.le_of_ble_eq_true rfl⟩ ?_
  subst hfn
  exact W.zret hx hb hr (nar_bI _) (fun t ht hW => ⟨rfl, ht⟩) (fun _ h => by cases h) dCoin_says_9
def tf_Coin_learn (xs : Int32) : Int32 := (((1103515245 * xs) + 12345))
set_option maxHeartbeats 4000000 in
set_option maxRecDepth 100000 in
theorem c_Coin_learn (l : Launch) (dC : Nat → ClassId) (dI : Nat → Nat → Nat) (cA : ClassId × ClassId × ClassId) (zz : Nat) (h0 : Nat) (zs0 : Int32) (rw0 : Int32) (mk0 : Int32) (xs : Int32) (pl : Int32) (hs : Int32) (tk : Bool) : Met l yCoin_learn wCoin_learn ({ frames := 0, cells := 0, slots := 0, locals := 0 }) (va_Pc [.ref h0, .int pl, .int hs, .int (bI tk)] (Wr (dC, dI) cA zz [(h0, .inr (2, [.int zs0, .int rw0, .int mk0, .int xs]))])) (va_Qv (fun w9 => w9 = [(h0, .inr (2, [.int zs0, .int rw0, .int mk0, .int ((tf_Coin_learn xs))]))]) (At (dC, dI) cA (va_A [(h0, .inr (2, [.int zs0, .int rw0, .int mk0, .int xs]))] zz)) (va_A [(h0, .inr (2, [.int zs0, .int rw0, .int mk0, .int xs]))] zz)) 0 0 (va_A [(h0, .inr (2, [.int zs0, .int rw0, .int mk0, .int xs]))] zz) := by
  refine Met.ofW (cc := cCoin_learn) (maxL := 4) (ret := none) (by decide) rfl ?_
  intro p e s m args below meth c s₁ B hml hv
  obtain ⟨rfl, hsz, hN, hP, hK, hD0⟩ := hv
  have hx := B.exec
  have hb := B.bytes
  have hr := B.returns
  have hts := atoms_spec (ws := wCoin_learn) B.pre
  have htg : ∀ w ∈ GW, w.before _ s = true := fun w h => hts w (List.mem_cons_of_mem _ h)
  have hown : s.vm.findClass R_Coin = some m.cls := findClass_of_methodNamed B.named
  have hlocks := B.notSynchronized
  subst hsz
  have hD := hD0.self (sz := s.heap.size)
  generalize hAe : va_A [(h0, .inr (2, [.int zs0, .int rw0, .int mk0, .int xs]))] s.heap.size = A at hD ⊢
  have hA : ∀ q : Nat, s.heap.size ≤ q → A q := fun q h => by rw [← hAe]; exact Or.inr h
  have hS : va_S A s.heap s.heap [] := va_S.rf
  have hP : va_P (dC, dI) vwCl [(h0, .inr (2, [.int zs0, .int rw0, .int mk0, .int xs]))] s.heap := hP
  obtain ⟨rs, hfn⟩ : ∃ rs, (tf_Coin_learn xs) = rs := ⟨_, rfl⟩
  try rw [hfn]
  have hl := lv_entry ([.ref h0, .int pl, .int hs, .int (bI tk)]) (n := 4) (Nat.le_of_ble_eq_true rfl)
  rw [lg_entry_eq]
  generalize (lg_sl ([.ref h0, .int pl, .int hs, .int (bI tk)]) ++ List.replicate (4 - (lg_sl ([.ref h0, .int pl, .int hs, .int (bI tk)])).length) Slot.unset).toArray = ls at hl ⊢
  have hl : lv_has ls 4 [(0, .ref h0), (1, .int pl), (2, .int hs), (3, .int (bI tk))] := hl
  unfold tf_Coin_learn at hfn
  refine lv_aload_n hx hb dCoin_learn_0 rfl (lv_at hl 0 rfl) ?_
  refine lv_ldc (v := 1103515245) hx hb hown (htg _ wd_486) dCoin_learn_1 ?_
  refine lv_aload_n hx hb dCoin_learn_3 rfl (lv_at hl 0 rfl) ?_
  refine va_get (D := (dC, dI)) (ci := 2) (v := .int xs) (C := R_Coin) (T := T_Coin) (N := 4) hx hb htg in_Coin hown hK hP 0 rfl rfl 3 (by decide) (htg _ wd_224) (fun _ h9 => h9) rfl dCoin_learn_4 ?_
  refine lv_imul hx hb dCoin_learn_7 ?_
  refine lv_sipush (v := 12345) hx hb dCoin_learn_8 (by decide) ?_
  refine lv_iadd hx hb dCoin_learn_11 ?_
  refine va_put (D := (dC, dI)) (ci := 2) (v := .int ((1103515245 * xs) + 12345)) (ty := .int) (C := R_Coin) (T := T_Coin) (N := 4) hx hb htg in_Coin ty_Coin tk_Coin nm_Coin hown hK hP hD hS 0 rfl rfl 3 (by decide) (htg _ wd_224) (fun _ h9 => h9) rfl (by decide +kernel) rfl rfl (Nat.le_of_ble_eq_true rfl) dCoin_learn_12 (fun H locs hP hD hS => ?_)
  have hP : va_P (dC, dI) vwCl [(h0, .inr (2, [.int zs0, .int rw0, .int mk0, .int ((1103515245 * xs) + 12345)]))] H := hP
  have hD : va_D A [(h0, .inr (2, [.int zs0, .int rw0, .int mk0, .int ((1103515245 * xs) + 12345)]))] := hD
  subst hfn
  exact W.vret hx hb hr (fun t ht hW => ⟨⟨_, rfl, rfl, ⟨by rw [ht]; exact hP.sub [0] rfl, va_K.moved hW.alike hK, hD.sub [0] (by decide) rfl⟩⟩, hS.F ht⟩) hS.2.2 dCoin_learn_15
def tf_Coin_bits : Int32 := (32)
set_option maxHeartbeats 4000000 in
set_option maxRecDepth 100000 in
theorem c_Coin_bits (l : Launch) (dC : Nat → ClassId) (dI : Nat → Nat → Nat) (cA : ClassId × ClassId × ClassId) (h0 : Nat) (zs0 : Int32) (rw0 : Int32) (mk0 : Int32) (xs : Int32) : Met l yCoin_bits wCoin_bits ({ frames := 0, cells := 0, slots := 0, locals := 0 }) (va_Pc [.ref h0] (Rd (dC, dI) cA [(h0, .inr (2, [.int zs0, .int rw0, .int mk0, .int xs]))])) (QcRead tf_Coin_bits) 0 0 (fun _ => False) := by
  refine Met.ofW (cc := cCoin_bits) (maxL := 1) (ret := (some .int)) (by decide) rfl ?_
  intro p e s m args below meth c s₁ B hml hv
  obtain ⟨rfl, hN, hP, hK⟩ := hv
  have hx := B.exec
  have hb := B.bytes
  have hr := B.returns
  have hts := atoms_spec (ws := wCoin_bits) B.pre
  have htg : ∀ w ∈ GW, w.before _ s = true := fun w h => hts w (List.mem_cons_of_mem _ h)
  have hown : s.vm.findClass R_Coin = some m.cls := findClass_of_methodNamed B.named
  have hlocks := B.notSynchronized
  obtain ⟨rs, hfn⟩ : ∃ rs, tf_Coin_bits = rs := ⟨_, rfl⟩
  try rw [hfn]
  have hl := lv_entry ([.ref h0]) (n := 1) (Nat.le_of_ble_eq_true rfl)
  rw [lg_entry_eq]
  generalize (lg_sl ([.ref h0]) ++ List.replicate (1 - (lg_sl ([.ref h0])).length) Slot.unset).toArray = ls at hl ⊢
  have hl : lv_has ls 1 [(0, .ref h0)] := hl
  unfold tf_Coin_bits at hfn
  refine lv_bipush (v := 32) hx hb dCoin_bits_0 (by decide) ?_
  subst hfn
  exact W.iret hx hb hr (fun t ht hW => ⟨rfl, ht⟩) (fun _ h => by cases h) dCoin_bits_2
