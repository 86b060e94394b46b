def tf_Always_number : Int32 := (1)
set_option maxHeartbeats 4000000 in
set_option maxRecDepth 100000 in
theorem c_Always_number (l : Launch) (dC : Nat → ClassId) (dI : Nat → Nat → Nat) (cA : ClassId × ClassId × ClassId) (h0 : Nat) (zs0 : Int32) (rw0 : Int32) (mk0 : Int32) (pl : Int32) (hs : Int32) : Met l yAlways_number wAlways_number ({ frames := 0, cells := 0, slots := 0, locals := 0 }) (va_Pc [.ref h0, .int pl, .int hs] (Rd (dC, dI) cA [(h0, .inr (0, [.int zs0, .int rw0, .int mk0]))])) (QcRead tf_Always_number) 0 0 (fun _ => False) := by
  refine Met.ofW (cc := cAlways_number) (maxL := 3) (ret := (some .int)) (by decide) rfl ?_
  intro p e s m args below meth c s₁ B hml hv
  obtain ⟨rfl, hN, hP, hK⟩ := hv
  have hx := B.exec
  have hb := B.bytes
  have hr := B.returns
  have hts := atoms_spec (ws := wAlways_number) B.pre
  have htg : ∀ w ∈ GW, w.before _ s = true := fun w h => hts w (List.mem_cons_of_mem _ h)
  have hown : s.vm.findClass R_Always = some m.cls := findClass_of_methodNamed B.named
  have hlocks := B.notSynchronized
  obtain ⟨rs, hfn⟩ : ∃ rs, tf_Always_number = rs := ⟨_, rfl⟩
  try rw [hfn]
  have hl := lv_entry ([.ref h0, .int pl, .int hs]) (n := 3) (Nat.le_of_ble_eq_true rfl)
  rw [lg_entry_eq]
  generalize (lg_sl ([.ref h0, .int pl, .int hs]) ++ List.replicate (3 - (lg_sl ([.ref h0, .int pl, .int hs])).length) Slot.unset).toArray = ls at hl ⊢
  have hl : lv_has ls 3 [(0, .ref h0), (1, .int pl), (2, .int hs)] := hl
  unfold tf_Always_number at hfn
  refine lv_iconst (v := 1) hx hb dAlways_number_0 (by decide) ?_
  subst hfn
  exact W.iret hx hb hr (fun t ht hW => ⟨rfl, ht⟩) (fun _ h => by cases h) dAlways_number_1
def tf_Always_says : Bool := (true)
set_option maxHeartbeats 4000000 in
set_option maxRecDepth 100000 in
theorem c_Always_says (l : Launch) (dC : Nat → ClassId) (dI : Nat → Nat → Nat) (cA : ClassId × ClassId × ClassId) (h0 : Nat) (zs0 : Int32) (rw0 : Int32) (mk0 : Int32) (pl : Int32) (hs : Int32) : Met l yAlways_says wAlways_says ({ frames := 0, cells := 0, slots := 0, locals := 0 }) (va_Pc [.ref h0, .int pl, .int hs] (Rd (dC, dI) cA [(h0, .inr (0, [.int zs0, .int rw0, .int mk0]))])) (QcRead (bI tf_Always_says)) 0 0 (fun _ => False) := by
  refine Met.ofW (cc := cAlways_says) (maxL := 3) (ret := (some .boolean)) (by decide) rfl ?_
  intro p e s m args below meth c s₁ B hml hv
  obtain ⟨rfl, hN, hP, hK⟩ := hv
  have hx := B.exec
  have hb := B.bytes
  have hr := B.returns
  have hts := atoms_spec (ws := wAlways_says) B.pre
  have htg : ∀ w ∈ GW, w.before _ s = true := fun w h => hts w (List.mem_cons_of_mem _ h)
  have hown : s.vm.findClass R_Always = some m.cls := findClass_of_methodNamed B.named
  have hlocks := B.notSynchronized
  obtain ⟨rs, hfn⟩ : ∃ rs, tf_Always_says = rs := ⟨_, rfl⟩
  try rw [hfn]
  have hl := lv_entry ([.ref h0, .int pl, .int hs]) (n := 3) (Nat.le_of_ble_eq_true rfl)
  rw [lg_entry_eq]
  generalize (lg_sl ([.ref h0, .int pl, .int hs]) ++ List.replicate (3 - (lg_sl ([.ref h0, .int pl, .int hs])).length) Slot.unset).toArray = ls at hl ⊢
  have hl : lv_has ls 3 [(0, .ref h0), (1, .int pl), (2, .int hs)] := hl
  unfold tf_Always_says at hfn
  refine lv_iconst (v := 1) hx hb dAlways_says_0 (by decide) ?_
  subst hfn
  exact W.zret hx hb hr rfl (fun t ht hW => ⟨rfl, ht⟩) (fun _ h => by cases h) dAlways_says_1
def tf_Always_learn : Unit := ()
set_option maxHeartbeats 4000000 in
set_option maxRecDepth 100000 in
theorem c_Always_learn (l : Launch) (dC : Nat → ClassId) (dI : Nat → Nat → Nat) (cA : ClassId × ClassId × ClassId) (zz : Nat) (h0 : Nat) (zs0 : Int32) (rw0 : Int32) (mk0 : Int32) (pl : Int32) (hs : Int32) (tk : Bool) : Met l yAlways_learn wAlways_learn ({ frames := 0, cells := 0, slots := 0, locals := 0 }) (va_Pc [.ref h0, .int pl, .int hs, .int (bI tk)] (Wr (dC, dI) cA zz [(h0, .inr (0, [.int zs0, .int rw0, .int mk0]))])) (va_Qv (fun w9 => w9 = [(h0, .inr (0, [.int zs0, .int rw0, .int mk0]))]) (At (dC, dI) cA (va_A [(h0, .inr (0, [.int zs0, .int rw0, .int mk0]))] zz)) (va_A [(h0, .inr (0, [.int zs0, .int rw0, .int mk0]))] zz)) 0 0 (va_A [(h0, .inr (0, [.int zs0, .int rw0, .int mk0]))] zz) := by
  refine Met.ofW (cc := cAlways_learn) (maxL := 4) (ret := none) (by decide) rfl ?_
  intro p e s m args below meth c s₁ B hml hv
  obtain ⟨rfl, hsz, hN, hP, hK, hD0⟩ := hv
  have hx := B.exec
  have hb := B.bytes
  have hr := B.returns
  have hts := atoms_spec (ws := wAlways_learn) B.pre
  have htg : ∀ w ∈ GW, w.before _ s = true := fun w h => hts w (List.mem_cons_of_mem _ h)
  have hown : s.vm.findClass R_Always = some m.cls := findClass_of_methodNamed B.named
  have hlocks := B.notSynchronized
  subst hsz
  have hD := hD0.self (sz := s.heap.size)
  generalize hAe : va_A [(h0, .inr (0, [.int zs0, .int rw0, .int mk0]))] s.heap.size = A at hD ⊢
  have hA : ∀ q : Nat, s.heap.size ≤ q → A q := fun q h => by rw [← hAe]; exact Or.inr h
  have hS : va_S A s.heap s.heap [] := va_S.rf
  have hP : va_P (dC, dI) vwCl [(h0, .inr (0, [.int zs0, .int rw0, .int mk0]))] s.heap := hP
  obtain ⟨rs, hfn⟩ : ∃ rs, tf_Always_learn = rs := ⟨_, rfl⟩
  try rw [hfn]
  have hl := lv_entry ([.ref h0, .int pl, .int hs, .int (bI tk)]) (n := 4) (Nat.le_of_ble_eq_true rfl)
  rw [lg_entry_eq]
  generalize (lg_sl ([.ref h0, .int pl, .int hs, .int (bI tk)]) ++ List.replicate (4 - (lg_sl ([.ref h0, .int pl, .int hs, .int (bI tk)])).length) Slot.unset).toArray = ls at hl ⊢
  have hl : lv_has ls 4 [(0, .ref h0), (1, .int pl), (2, .int hs), (3, .int (bI tk))] := hl
  unfold tf_Always_learn at hfn
  subst hfn
  exact W.vret hx hb hr (fun t ht hW => ⟨⟨_, rfl, rfl, ⟨by rw [ht]; exact hP.sub [0] rfl, va_K.moved hW.alike hK, hD.sub [0] (by decide) rfl⟩⟩, hS.F ht⟩) hS.2.2 dAlways_learn_0
def tf_Always_bits : Int32 := (0)
set_option maxHeartbeats 4000000 in
set_option maxRecDepth 100000 in
theorem c_Always_bits (l : Launch) (dC : Nat → ClassId) (dI : Nat → Nat → Nat) (cA : ClassId × ClassId × ClassId) (h0 : Nat) (zs0 : Int32) (rw0 : Int32) (mk0 : Int32) : Met l yAlways_bits wAlways_bits ({ frames := 0, cells := 0, slots := 0, locals := 0 }) (va_Pc [.ref h0] (Rd (dC, dI) cA [(h0, .inr (0, [.int zs0, .int rw0, .int mk0]))])) (QcRead tf_Always_bits) 0 0 (fun _ => False) := by
  refine Met.ofW (cc := cAlways_bits) (maxL := 1) (ret := (some .int)) (by decide) rfl ?_
  intro p e s m args below meth c s₁ B hml hv
  obtain ⟨rfl, hN, hP, hK⟩ := hv
  have hx := B.exec
  have hb := B.bytes
  have hr := B.returns
  have hts := atoms_spec (ws := wAlways_bits) B.pre
  have htg : ∀ w ∈ GW, w.before _ s = true := fun w h => hts w (List.mem_cons_of_mem _ h)
  have hown : s.vm.findClass R_Always = some m.cls := findClass_of_methodNamed B.named
  have hlocks := B.notSynchronized
  obtain ⟨rs, hfn⟩ : ∃ rs, tf_Always_bits = rs := ⟨_, rfl⟩
  try rw [hfn]
  have hl := lv_entry ([.ref h0]) (n := 1) (Nat.le_of_ble_eq_true rfl)
  rw [lg_entry_eq]
  generalize (lg_sl ([.ref h0]) ++ List.replicate (1 - (lg_sl ([.ref h0])).length) Slot.unset).toArray = ls at hl ⊢
  have hl : lv_has ls 1 [(0, .ref h0)] := hl
  unfold tf_Always_bits at hfn
  refine lv_iconst (v := 0) hx hb dAlways_bits_0 (by decide) ?_
  subst hfn
  exact W.iret hx hb hr (fun t ht hW => ⟨rfl, ht⟩) (fun _ h => by cases h) dAlways_bits_1
def tf_Last_number (zs0 : Int32) (mk0 : Int32) (n1 : Nat) (f1 : Nat → Int32) (pl : Int32) : Int32 := ((tf_PK_at n1 f1 (tf_Last_plainRow zs0 mk0 pl)))
set_option maxHeartbeats 4000000 in
set_option maxRecDepth 100000 in
theorem c_Last_number (l : Launch) (dC : Nat → ClassId) (dI : Nat → Nat → Nat) (cA : ClassId × ClassId × ClassId) (h0 : Nat) (a1 : Nat) (zs0 : Int32) (rw0 : Int32) (mk0 : Int32) (n1 : Nat) (f1 : Nat → Int32) (pl : Int32) (hs : Int32) (hn1 : n1 < 2147483648) : Met l yLast_number wLast_number ({ frames := 1, cells := 0, slots := 0, locals := 21 }) (va_Pc [.ref h0, .int pl, .int hs] (Rd (dC, dI) cA [(h0, .inr (4, [.int zs0, .int rw0, .int mk0, .ref a1])), (a1, .inl (cA.1, n1, .inl f1))])) (QcRead (tf_Last_number zs0 mk0 n1 f1 pl)) 0 0 (fun _ => False) := by
  refine Met.ofW (cc := cLast_number) (maxL := 3) (ret := (some .int)) (by decide) rfl ?_
  intro p e s m args below meth c s₁ B hml hv
  obtain ⟨rfl, hN, hP, hK⟩ := hv
  have hx := B.exec
  have hb := B.bytes
  have hr := B.returns
  have hts := atoms_spec (ws := wLast_number) B.pre
  have htg : ∀ w ∈ GW, w.before _ s = true := fun w h => hts w (List.mem_cons_of_mem _ h)
  have hown : s.vm.findClass R_Last = some m.cls := findClass_of_methodNamed B.named
  have hlocks := B.notSynchronized
  obtain ⟨rs, hfn⟩ : ∃ rs, (tf_Last_number zs0 mk0 n1 f1 pl) = rs := ⟨_, rfl⟩
  try rw [hfn]
  have hl := lv_entry ([.ref h0, .int pl, .int hs]) (n := 3) (Nat.le_of_ble_eq_true rfl)
  rw [lg_entry_eq]
  generalize (lg_sl ([.ref h0, .int pl, .int hs]) ++ List.replicate (3 - (lg_sl ([.ref h0, .int pl, .int hs])).length) Slot.unset).toArray = ls at hl ⊢
  have hl : lv_has ls 3 [(0, .ref h0), (1, .int pl), (2, .int hs)] := hl
  unfold tf_Last_number at hfn
  refine lv_aload_n hx hb dLast_number_0 rfl (lv_at hl 0 rfl) ?_
  refine va_get (D := (dC, dI)) (ci := 4) (v := .ref a1) (C := R_Last) (T := T_Last) (N := 4) hx hb htg in_Last hown hK hP 0 rfl rfl 3 (by decide) (htg _ wd_55) (fun _ h9 => h9) rfl dLast_number_1 ?_
  refine lv_aload_n hx hb dLast_number_4 rfl (lv_at hl 0 rfl) ?_
  refine lv_iload_n hx hb dLast_number_5 rfl (lv_at hl 1 rfl) ?_
  refine rd_U (As := [.int pl]) (rest := [.ref a1]) ⟨hx, hb, hml, hown, htg⟩ (c_Last_plainRow l dC dI cA h0 a1 zs0 rw0 mk0 n1 f1 pl hn1) (cw_U (n := 1) htg wd_351 wd_352 wd_353 qKind_plainRow iKind_plainRow kKind_plainRow (va_Decl.abs (hN _ wn_318)) (by decide +kernel) (by decide +kernel) rfl rfl ⟨Nat.le_of_ble_eq_true rfl, Nat.le_of_ble_eq_true rfl⟩) (va_recv hK hP (ci := 4) (q0 := 0) rfl rfl) hN (hP.sub [0, 1] rfl) hK rfl hl.1 rfl (Nat.le_of_ble_eq_true rfl) dLast_number_6 ⟨Nat.le_of_ble_eq_true rfl, Nat.le_of_ble_eq_true rfl⟩ ?_
  refine rd_SN (As := [.ref a1, .int (tf_Last_plainRow zs0 mk0 pl)]) (rest := []) ⟨hx, hb, hml, hown, htg⟩ (c_PK_at l dC dI cA a1 n1 f1 (tf_Last_plainRow zs0 mk0 pl) hn1) (cw_SN htg hN wn_354 qPK_at iPK_at kPK_at pPK_at rfl rfl ⟨Nat.le_of_ble_eq_true rfl, Nat.le_of_ble_eq_true rfl⟩) hN (hP.sub [1] rfl) hK rfl hl.1 rfl (Nat.le_of_ble_eq_true rfl) dLast_number_9 ⟨Nat.le_of_ble_eq_true rfl, Nat.le_of_ble_eq_true rfl⟩ ?_
  subst hfn
  exact W.iret hx hb hr (fun t ht hW => ⟨rfl, ht⟩) (fun _ h => by cases h) dLast_number_12
def tf_Last_says (zs0 : Int32) (mk0 : Int32) (n1 : Nat) (f1 : Nat → Int32) (pl : Int32) : Bool := (if (tf_Last_number zs0 mk0 n1 f1 pl) = 1 then (true) else (false))
set_option maxHeartbeats 4000000 in
set_option maxRecDepth 100000 in
theorem c_Last_says (l : Launch) (dC : Nat → ClassId) (dI : Nat → Nat → Nat) (cA : ClassId × ClassId × ClassId) (h0 : Nat) (a1 : Nat) (zs0 : Int32) (rw0 : Int32) (mk0 : Int32) (n1 : Nat) (f1 : Nat → Int32) (pl : Int32) (hs : Int32) (hn1 : n1 < 2147483648) : Met l yLast_says wLast_says ({ frames := 2, cells := 0, slots := 0, locals := 43 }) (va_Pc [.ref h0, .int pl, .int hs] (Rd (dC, dI) cA [(h0, .inr (4, [.int zs0, .int rw0, .int mk0, .ref a1])), (a1, .inl (cA.1, n1, .inl f1))])) (QcRead (bI (tf_Last_says zs0 mk0 n1 f1 pl))) 0 0 (fun _ => False) := by
  refine Met.ofW (cc := cLast_says) (maxL := 3) (ret := (some .boolean)) (by decide) rfl ?_
  intro p e s m args below meth c s₁ B hml hv
  obtain ⟨rfl, hN, hP, hK⟩ := hv
  have hx := B.exec
  have hb := B.bytes
  have hr := B.returns
  have hts := atoms_spec (ws := wLast_says) B.pre
  have htg : ∀ w ∈ GW, w.before _ s = true := fun w h => hts w (List.mem_cons_of_mem _ h)
  have hown : s.vm.findClass R_Last = some m.cls := findClass_of_methodNamed B.named
  have hlocks := B.notSynchronized
  obtain ⟨rs, hfn⟩ : ∃ rs, (tf_Last_says zs0 mk0 n1 f1 pl) = rs := ⟨_, rfl⟩
  try rw [hfn]
  have hl := lv_entry ([.ref h0, .int pl, .int hs]) (n := 3) (Nat.le_of_ble_eq_true rfl)
  rw [lg_entry_eq]
  generalize (lg_sl ([.ref h0, .int pl, .int hs]) ++ List.replicate (3 - (lg_sl ([.ref h0, .int pl, .int hs])).length) Slot.unset).toArray = ls at hl ⊢
  have hl : lv_has ls 3 [(0, .ref h0), (1, .int pl), (2, .int hs)] := hl
  unfold tf_Last_says at hfn
  refine lv_aload_n hx hb dLast_says_0 rfl (lv_at hl 0 rfl) ?_
  refine lv_iload_n hx hb dLast_says_1 rfl (lv_at hl 1 rfl) ?_
  refine lv_iload_n hx hb dLast_says_2 rfl (lv_at hl 2 rfl) ?_
  refine rd_V (As := [.int pl, .int hs]) (rest := []) ⟨hx, hb, hml, hown, htg⟩ (c_Last_number l dC dI cA h0 a1 zs0 rw0 mk0 n1 f1 pl hs hn1) (cw_V htg wd_347 wd_349 qLast_number iLast_number kLast_number pLast_number rfl rfl ⟨Nat.le_of_ble_eq_true rfl, Nat.le_of_ble_eq_true rfl⟩) (va_recv hK hP (ci := 4) (q0 := 0) rfl rfl) hN (hP.sub [0, 1] rfl) hK rfl hl.1 rfl (Nat.le_of_ble_eq_true rfl) dLast_says_3 ⟨Nat.le_of_ble_eq_true rfl, Nat.le_of_ble_eq_true rfl⟩ ?_
  refine lv_iconst (v := 1) hx hb dLast_says_6 (by decide) ?_
  refine lv_icmp_ne (tgt := 14) hx hb dLast_says_7 (by decide) (fun c_1 => ?_) (fun c_1 => ?_)
  · rw [if_neg c_1] at hfn
    refine lv_iconst (v := 0) hx hb dLast_says_14 (by decide) ?_
    subst hfn
    exact W.zret hx hb hr rfl (fun t ht hW => ⟨rfl, ht⟩) (fun _ h => by cases h) dLast_says_15
  · rw [if_pos c_1] at hfn
    refine lv_iconst (v := 1) hx hb dLast_says_10 (by decide) ?_
    refine lv_goto (tgt := 15) hx hb dLast_says_11 (by decide) ?_
    subst hfn
    exact W.zret hx hb hr rfl (fun t ht hW => ⟨rfl, ht⟩) (fun _ h => by cases h) dLast_says_15
def tf_Last_learn (zs0 : Int32) (mk0 : Int32) (n1 : Nat) (f1 : Nat → Int32) (pl : Int32) (tk : Bool) : (Nat → Int32) := (if (bI tk) = 0 then (((tf_PK_put n1 f1 (tf_Last_plainRow zs0 mk0 pl) 0))) else (((tf_PK_put n1 f1 (tf_Last_plainRow zs0 mk0 pl) 1))))
set_option maxHeartbeats 4000000 in
set_option maxRecDepth 100000 in
theorem c_Last_learn (l : Launch) (dC : Nat → ClassId) (dI : Nat → Nat → Nat) (cA : ClassId × ClassId × ClassId) (zz : Nat) (h0 : Nat) (a1 : Nat) (zs0 : Int32) (rw0 : Int32) (mk0 : Int32) (n1 : Nat) (f1 : Nat → Int32) (pl : Int32) (hs : Int32) (tk : Bool) (hn1 : n1 < 2147483648) : Met l yLast_learn wLast_learn ({ frames := 1, cells := 0, slots := 0, locals := 22 }) (va_Pc [.ref h0, .int pl, .int hs, .int (bI tk)] (Wr (dC, dI) cA zz [(h0, .inr (4, [.int zs0, .int rw0, .int mk0, .ref a1])), (a1, .inl (cA.1, n1, .inl f1))])) (va_Qv (fun w9 => w9 = [(h0, .inr (4, [.int zs0, .int rw0, .int mk0, .ref a1])), (a1, .inl (cA.1, n1, .inl ((tf_Last_learn zs0 mk0 n1 f1 pl tk))))]) (At (dC, dI) cA (va_A [(h0, .inr (4, [.int zs0, .int rw0, .int mk0, .ref a1])), (a1, .inl (cA.1, n1, .inl f1))] zz)) (va_A [(h0, .inr (4, [.int zs0, .int rw0, .int mk0, .ref a1])), (a1, .inl (cA.1, n1, .inl f1))] zz)) 0 0 (va_A [(h0, .inr (4, [.int zs0, .int rw0, .int mk0, .ref a1])), (a1, .inl (cA.1, n1, .inl f1))] zz) := by
  refine Met.ofW (cc := cLast_learn) (maxL := 4) (ret := none) (by decide) rfl ?_
  intro p e s m args below meth c s₁ B hml hv
  obtain ⟨rfl, hsz, hN, hP, hK, hD0⟩ := hv
  have hx := B.exec
  have hb := B.bytes
  have hr := B.returns
  have hts := atoms_spec (ws := wLast_learn) B.pre
  have htg : ∀ w ∈ GW, w.before _ s = true := fun w h => hts w (List.mem_cons_of_mem _ h)
  have hown : s.vm.findClass R_Last = some m.cls := findClass_of_methodNamed B.named
  have hlocks := B.notSynchronized
  subst hsz
  have hD := hD0.self (sz := s.heap.size)
  generalize hAe : va_A [(h0, .inr (4, [.int zs0, .int rw0, .int mk0, .ref a1])), (a1, .inl (cA.1, n1, .inl f1))] s.heap.size = A at hD ⊢
  have hA : ∀ q : Nat, s.heap.size ≤ q → A q := fun q h => by rw [← hAe]; exact Or.inr h
  have hS : va_S A s.heap s.heap [] := va_S.rf
  have hP : va_P (dC, dI) vwCl [(h0, .inr (4, [.int zs0, .int rw0, .int mk0, .ref a1])), (a1, .inl (cA.1, n1, .inl f1))] s.heap := hP
  obtain ⟨rs, hfn⟩ : ∃ rs, (tf_Last_learn zs0 mk0 n1 f1 pl tk) = rs := ⟨_, rfl⟩
  try rw [hfn]
  have hl := lv_entry ([.ref h0, .int pl, .int hs, .int (bI tk)]) (n := 4) (Nat.le_of_ble_eq_true rfl)
  rw [lg_entry_eq]
  generalize (lg_sl ([.ref h0, .int pl, .int hs, .int (bI tk)]) ++ List.replicate (4 - (lg_sl ([.ref h0, .int pl, .int hs, .int (bI tk)])).length) Slot.unset).toArray = ls at hl ⊢
  have hl : lv_has ls 4 [(0, .ref h0), (1, .int pl), (2, .int hs), (3, .int (bI tk))] := hl
  unfold tf_Last_learn at hfn
  refine lv_aload_n hx hb dLast_learn_0 rfl (lv_at hl 0 rfl) ?_
  refine va_get (D := (dC, dI)) (ci := 4) (v := .ref a1) (C := R_Last) (T := T_Last) (N := 4) hx hb htg in_Last hown hK hP 0 rfl rfl 3 (by decide) (htg _ wd_55) (fun _ h9 => h9) rfl dLast_learn_1 ?_
  refine lv_aload_n hx hb dLast_learn_4 rfl (lv_at hl 0 rfl) ?_
  refine lv_iload_n hx hb dLast_learn_5 rfl (lv_at hl 1 rfl) ?_
  refine rd_U (As := [.int pl]) (rest := [.ref a1]) ⟨hx, hb, hml, hown, htg⟩ (c_Last_plainRow l dC dI cA h0 a1 zs0 rw0 mk0 n1 f1 pl hn1) (cw_U (n := 1) htg wd_351 wd_352 wd_353 qKind_plainRow iKind_plainRow kKind_plainRow (va_Decl.abs (hN _ wn_318)) (by decide +kernel) (by decide +kernel) rfl rfl ⟨Nat.le_of_ble_eq_true rfl, Nat.le_of_ble_eq_true rfl⟩) (va_recv hK hP (ci := 4) (q0 := 0) rfl rfl) hN (hP.sub [0, 1] rfl) hK rfl hl.1 rfl (Nat.le_of_ble_eq_true rfl) dLast_learn_6 ⟨Nat.le_of_ble_eq_true rfl, Nat.le_of_ble_eq_true rfl⟩ ?_
  refine lv_iload_n hx hb dLast_learn_9 rfl (lv_at hl 3 rfl) ?_
  refine lv_if_eq (tgt := 17) hx hb dLast_learn_10 (by decide) (fun c_1 => ?_) (fun c_1 => ?_)
  · rw [if_pos c_1] at hfn
    refine lv_iconst (v := 0) hx hb dLast_learn_17 (by decide) ?_
    refine wr_SNv (wr := [(h0, .inr (4, [.int zs0, .int rw0, .int mk0, .ref a1]))]) (As := [.ref a1, .int (tf_Last_plainRow zs0 mk0 pl), .int 0]) (rest := []) ⟨hx, hb, hml, hown, htg⟩ (c_PK_put l dC dI cA _ a1 n1 f1 (tf_Last_plainRow zs0 mk0 pl) 0 hn1) (cw_SN htg hN wn_491 qPK_put iPK_put kPK_put pPK_put rfl rfl ⟨Nat.le_of_ble_eq_true rfl, Nat.le_of_ble_eq_true rfl⟩) hN hP hD hS hA hK [1] [0] rfl rfl (by decide) (by decide) (by decide) rfl hl.1 rfl (Nat.le_of_ble_eq_true rfl) dLast_learn_18 ⟨Nat.le_of_ble_eq_true rfl, Nat.le_of_ble_eq_true rfl⟩ (fun H locs hP hD hS => ?_)
    have hP : va_P (dC, dI) vwCl [(h0, .inr (4, [.int zs0, .int rw0, .int mk0, .ref a1])), (a1, .inl (cA.1, n1, .inl ((tf_PK_put n1 f1 (tf_Last_plainRow zs0 mk0 pl) 0))))] H := hP
    have hD : va_D A [(h0, .inr (4, [.int zs0, .int rw0, .int mk0, .ref a1])), (a1, .inl (cA.1, n1, .inl ((tf_PK_put n1 f1 (tf_Last_plainRow zs0 mk0 pl) 0))))] := hD
    subst hfn
    exact W.vret hx hb hr (fun t ht hW => ⟨⟨_, rfl, rfl, ⟨by rw [ht]; exact hP.sub [0, 1] rfl, va_K.moved hW.alike hK, hD.sub [0, 1] (by decide) rfl⟩⟩, hS.F ht⟩) hS.2.2 dLast_learn_21
  · rw [if_neg c_1] at hfn
    refine lv_iconst (v := 1) hx hb dLast_learn_13 (by decide) ?_
    refine lv_goto (tgt := 18) hx hb dLast_learn_14 (by decide) ?_
    refine wr_SNv (wr := [(h0, .inr (4, [.int zs0, .int rw0, .int mk0, .ref a1]))]) (As := [.ref a1, .int (tf_Last_plainRow zs0 mk0 pl), .int 1]) (rest := []) ⟨hx, hb, hml, hown, htg⟩ (c_PK_put l dC dI cA _ a1 n1 f1 (tf_Last_plainRow zs0 mk0 pl) 1 hn1) (cw_SN htg hN wn_491 qPK_put iPK_put kPK_put pPK_put rfl rfl ⟨Nat.le_of_ble_eq_true rfl, Nat.le_of_ble_eq_true rfl⟩) hN hP hD hS hA hK [1] [0] rfl rfl (by decide) (by decide) (by decide) rfl hl.1 rfl (Nat.le_of_ble_eq_true rfl) dLast_learn_18 ⟨Nat.le_of_ble_eq_true rfl, Nat.le_of_ble_eq_true rfl⟩ (fun H locs hP hD hS => ?_)
    have hP : va_P (dC, dI) vwCl [(h0, .inr (4, [.int zs0, .int rw0, .int mk0, .ref a1])), (a1, .inl (cA.1, n1, .inl ((tf_PK_put n1 f1 (tf_Last_plainRow zs0 mk0 pl) 1))))] H := hP
    have hD : va_D A [(h0, .inr (4, [.int zs0, .int rw0, .int mk0, .ref a1])), (a1, .inl (cA.1, n1, .inl ((tf_PK_put n1 f1 (tf_Last_plainRow zs0 mk0 pl) 1))))] := hD
    subst hfn
    exact W.vret hx hb hr (fun t ht hW => ⟨⟨_, rfl, rfl, ⟨by rw [ht]; exact hP.sub [0, 1] rfl, va_K.moved hW.alike hK, hD.sub [0, 1] (by decide) rfl⟩⟩, hS.F ht⟩) hS.2.2 dLast_learn_21
def tf_Last_bits (rw0 : Int32) : Int32 := (rw0)
set_option maxHeartbeats 4000000 in
set_option maxRecDepth 100000 in
theorem c_Last_bits (l : Launch) (dC : Nat → ClassId) (dI : Nat → Nat → Nat) (cA : ClassId × ClassId × ClassId) (h0 : Nat) (a1 : Nat) (zs0 : Int32) (rw0 : Int32) (mk0 : Int32) (n1 : Nat) (f1 : Nat → Int32) (hn1 : n1 < 2147483648) : Met l yLast_bits wLast_bits ({ frames := 0, cells := 0, slots := 0, locals := 0 }) (va_Pc [.ref h0] (Rd (dC, dI) cA [(h0, .inr (4, [.int zs0, .int rw0, .int mk0, .ref a1])), (a1, .inl (cA.1, n1, .inl f1))])) (QcRead (tf_Last_bits rw0)) 0 0 (fun _ => False) := by
  refine Met.ofW (cc := cLast_bits) (maxL := 1) (ret := (some .int)) (by decide) rfl ?_
  intro p e s m args below meth c s₁ B hml hv
  obtain ⟨rfl, hN, hP, hK⟩ := hv
  have hx := B.exec
  have hb := B.bytes
  have hr := B.returns
  have hts := atoms_spec (ws := wLast_bits) B.pre
  have htg : ∀ w ∈ GW, w.before _ s = true := fun w h => hts w (List.mem_cons_of_mem _ h)
  have hown : s.vm.findClass R_Last = some m.cls := findClass_of_methodNamed B.named
  have hlocks := B.notSynchronized
  obtain ⟨rs, hfn⟩ : ∃ rs, (tf_Last_bits rw0) = rs := ⟨_, rfl⟩
  try rw [hfn]
  have hl := lv_entry ([.ref h0]) (n := 1) (Nat.le_of_ble_eq_true rfl)
  rw [lg_entry_eq]
  generalize (lg_sl ([.ref h0]) ++ List.replicate (1 - (lg_sl ([.ref h0])).length) Slot.unset).toArray = ls at hl ⊢
  have hl : lv_has ls 1 [(0, .ref h0)] := hl
  unfold tf_Last_bits at hfn
  refine lv_aload_n hx hb dLast_bits_0 rfl (lv_at hl 0 rfl) ?_
  refine va_get (D := (dC, dI)) (ci := 4) (v := .int rw0) (C := R_Last) (T := T_Last) (N := 4) hx hb htg in_Last hown hK hP 0 rfl rfl 1 (by decide) (htg _ wd_63) (fun x9 h9 => u_same (htg _ wd_64) x9 h9) rfl dLast_bits_1 ?_
  subst hfn
  exact W.iret hx hb hr (fun t ht hW => ⟨rfl, ht⟩) (fun _ h => by cases h) dLast_bits_4
def tf_Counters_counterRow (zs0 : Int32) (mk0 : Int32) (mx : Bool) (pl : Int32) (hs : Int32) : Int32 := (if (bI mx) = 0 then ((tf_Counters_plainRow zs0 mk0 pl)) else (((pl ^^^ hs) &&& mk0)))
set_option maxHeartbeats 4000000 in
set_option maxRecDepth 100000 in
theorem c_Counters_counterRow (l : Launch) (dC : Nat → ClassId) (dI : Nat → Nat → Nat) (cA : ClassId × ClassId × ClassId) (h0 : Nat) (a1 : Nat) (zs0 : Int32) (rw0 : Int32) (mk0 : Int32) (mx : Bool) (n1 : Nat) (f1 : Nat → Int32) (pl : Int32) (hs : Int32) (hn1 : n1 < 2147483648) : Met l yCounters_counterRow wCounters_counterRow ({ frames := 1, cells := 0, slots := 0, locals := 21 }) (va_Pc [.ref h0, .int pl, .int hs] (Rd (dC, dI) cA [(h0, .inr (3, [.int zs0, .int rw0, .int mk0, .int (bI mx), .ref a1])), (a1, .inl (cA.1, n1, .inl f1))])) (QcRead (tf_Counters_counterRow zs0 mk0 mx pl hs)) 0 0 (fun _ => False) := by
  refine Met.ofW (cc := cCounters_counterRow) (maxL := 3) (ret := (some .int)) (by decide) rfl ?_
  intro p e s m args below meth c s₁ B hml hv
  obtain ⟨rfl, hN, hP, hK⟩ := hv
  have hx := B.exec
  have hb := B.bytes
  have hr := B.returns
  have hts := atoms_spec (ws := wCounters_counterRow) B.pre
  have htg : ∀ w ∈ GW, w.before _ s = true := fun w h => hts w (List.mem_cons_of_mem _ h)
  have hown : s.vm.findClass R_Counters = some m.cls := findClass_of_methodNamed B.named
  have hlocks := B.notSynchronized
  obtain ⟨rs, hfn⟩ : ∃ rs, (tf_Counters_counterRow zs0 mk0 mx pl hs) = rs := ⟨_, rfl⟩
  try rw [hfn]
  have hl := lv_entry ([.ref h0, .int pl, .int hs]) (n := 3) (Nat.le_of_ble_eq_true rfl)
  rw [lg_entry_eq]
  generalize (lg_sl ([.ref h0, .int pl, .int hs]) ++ List.replicate (3 - (lg_sl ([.ref h0, .int pl, .int hs])).length) Slot.unset).toArray = ls at hl ⊢
  have hl : lv_has ls 3 [(0, .ref h0), (1, .int pl), (2, .int hs)] := hl
  unfold tf_Counters_counterRow at hfn
  refine lv_aload_n hx hb dCounters_counterRow_0 rfl (lv_at hl 0 rfl) ?_
  refine va_get (D := (dC, dI)) (ci := 3) (v := .int (bI mx)) (C := R_Counters) (T := T_Counters) (N := 5) hx hb htg in_Counters hown hK hP 0 rfl rfl 3 (by decide) (htg _ wd_102) (fun _ h9 => h9) rfl dCounters_counterRow_1 ?_
  refine lv_if_eq (tgt := 18) hx hb dCounters_counterRow_4 (by decide) (fun c_1 => ?_) (fun c_1 => ?_)
  · rw [if_pos c_1] at hfn
    refine lv_aload_n hx hb dCounters_counterRow_18 rfl (lv_at hl 0 rfl) ?_
    refine lv_iload_n hx hb dCounters_counterRow_19 rfl (lv_at hl 1 rfl) ?_
    refine rd_U (As := [.int pl]) (rest := []) ⟨hx, hb, hml, hown, htg⟩ (c_Counters_plainRow l dC dI cA h0 a1 zs0 rw0 mk0 mx n1 f1 pl hn1) (cw_U (n := 1) htg wd_333 wd_334 wd_335 qKind_plainRow iKind_plainRow kKind_plainRow (va_Decl.abs (hN _ wn_318)) (by decide +kernel) (by decide +kernel) rfl rfl ⟨Nat.le_of_ble_eq_true rfl, Nat.le_of_ble_eq_true rfl⟩) (va_recv hK hP (ci := 3) (q0 := 0) rfl rfl) hN (hP.sub [0, 1] rfl) hK rfl hl.1 rfl (Nat.le_of_ble_eq_true rfl) dCounters_counterRow_20 ⟨Nat.le_of_ble_eq_true rfl, Nat.le_of_ble_eq_true rfl⟩ ?_
    subst hfn
    exact W.iret hx hb hr (fun t ht hW => ⟨rfl, ht⟩) (fun _ h => by cases h) dCounters_counterRow_23
  · rw [if_neg c_1] at hfn
    refine lv_iload_n hx hb dCounters_counterRow_7 rfl (lv_at hl 1 rfl) ?_
    refine lv_iload_n hx hb dCounters_counterRow_8 rfl (lv_at hl 2 rfl) ?_
    refine lv_ixor hx hb dCounters_counterRow_9 ?_
    refine lv_aload_n hx hb dCounters_counterRow_10 rfl (lv_at hl 0 rfl) ?_
    refine va_get (D := (dC, dI)) (ci := 3) (v := .int mk0) (C := R_Counters) (T := T_Counters) (N := 5) hx hb htg in_Counters hown hK hP 0 rfl rfl 2 (by decide) (htg _ wd_81) (fun x9 h9 => u_same (htg _ wd_82) x9 h9) rfl dCounters_counterRow_11 ?_
    refine lv_iand hx hb dCounters_counterRow_14 ?_
    refine lv_goto (tgt := 23) hx hb dCounters_counterRow_15 (by decide) ?_
    subst hfn
    exact W.iret hx hb hr (fun t ht hW => ⟨rfl, ht⟩) (fun _ h => by cases h) dCounters_counterRow_23
def tf_Counters_number (zs0 : Int32) (mk0 : Int32) (mx : Bool) (n1 : Nat) (f1 : Nat → Int32) (pl : Int32) (hs : Int32) : Int32 := ((tf_PK_at n1 f1 (tf_Counters_counterRow zs0 mk0 mx pl hs)))
set_option maxHeartbeats 4000000 in
set_option maxRecDepth 100000 in
theorem c_Counters_number (l : Launch) (dC : Nat → ClassId) (dI : Nat → Nat → Nat) (cA : ClassId × ClassId × ClassId) (h0 : Nat) (a1 : Nat) (zs0 : Int32) (rw0 : Int32) (mk0 : Int32) (mx : Bool) (n1 : Nat) (f1 : Nat → Int32) (pl : Int32) (hs : Int32) (hn1 : n1 < 2147483648) : Met l yCounters_number wCounters_number ({ frames := 2, cells := 0, slots := 0, locals := 43 }) (va_Pc [.ref h0, .int pl, .int hs] (Rd (dC, dI) cA [(h0, .inr (3, [.int zs0, .int rw0, .int mk0, .int (bI mx), .ref a1])), (a1, .inl (cA.1, n1, .inl f1))])) (QcRead (tf_Counters_number zs0 mk0 mx n1 f1 pl hs)) 0 0 (fun _ => False) := by
  refine Met.ofW (cc := cCounters_number) (maxL := 3) (ret := (some .int)) (by decide) rfl ?_
  intro p e s m args below meth c s₁ B hml hv
  obtain ⟨rfl, hN, hP, hK⟩ := hv
  have hx := B.exec
  have hb := B.bytes
  have hr := B.returns
  have hts := atoms_spec (ws := wCounters_number) B.pre
  have htg : ∀ w ∈ GW, w.before _ s = true := fun w h => hts w (List.mem_cons_of_mem _ h)
  have hown : s.vm.findClass R_Counters = some m.cls := findClass_of_methodNamed B.named
  have hlocks := B.notSynchronized
  obtain ⟨rs, hfn⟩ : ∃ rs, (tf_Counters_number zs0 mk0 mx n1 f1 pl hs) = rs := ⟨_, rfl⟩
  try rw [hfn]
  have hl := lv_entry ([.ref h0, .int pl, .int hs]) (n := 3) (Nat.le_of_ble_eq_true rfl)
  rw [lg_entry_eq]
  generalize (lg_sl ([.ref h0, .int pl, .int hs]) ++ List.replicate (3 - (lg_sl ([.ref h0, .int pl, .int hs])).length) Slot.unset).toArray = ls at hl ⊢
  have hl : lv_has ls 3 [(0, .ref h0), (1, .int pl), (2, .int hs)] := hl
  unfold tf_Counters_number at hfn
  refine lv_aload_n hx hb dCounters_number_0 rfl (lv_at hl 0 rfl) ?_
  refine va_get (D := (dC, dI)) (ci := 3) (v := .ref a1) (C := R_Counters) (T := T_Counters) (N := 5) hx hb htg in_Counters hown hK hP 0 rfl rfl 4 (by decide) (htg _ wd_103) (fun _ h9 => h9) rfl dCounters_number_1 ?_
  refine lv_aload_n hx hb dCounters_number_4 rfl (lv_at hl 0 rfl) ?_
  refine lv_iload_n hx hb dCounters_number_5 rfl (lv_at hl 1 rfl) ?_
  refine lv_iload_n hx hb dCounters_number_6 rfl (lv_at hl 2 rfl) ?_
  refine rd_V (As := [.int pl, .int hs]) (rest := [.ref a1]) ⟨hx, hb, hml, hown, htg⟩ (c_Counters_counterRow l dC dI cA h0 a1 zs0 rw0 mk0 mx n1 f1 pl hs hn1) (cw_V htg wd_329 ws_1 qCounters_counterRow iCounters_counterRow kCounters_counterRow pCounters_counterRow rfl rfl ⟨Nat.le_of_ble_eq_true rfl, Nat.le_of_ble_eq_true rfl⟩) (va_recv hK hP (ci := 3) (q0 := 0) rfl rfl) hN (hP.sub [0, 1] rfl) hK rfl hl.1 rfl (Nat.le_of_ble_eq_true rfl) dCounters_number_7 ⟨Nat.le_of_ble_eq_true rfl, Nat.le_of_ble_eq_true rfl⟩ ?_
  refine rd_SN (As := [.ref a1, .int (tf_Counters_counterRow zs0 mk0 mx pl hs)]) (rest := []) ⟨hx, hb, hml, hown, htg⟩ (c_PK_at l dC dI cA a1 n1 f1 (tf_Counters_counterRow zs0 mk0 mx pl hs) hn1) (cw_SN htg hN wn_336 qPK_at iPK_at kPK_at pPK_at rfl rfl ⟨Nat.le_of_ble_eq_true rfl, Nat.le_of_ble_eq_true rfl⟩) hN (hP.sub [1] rfl) hK rfl hl.1 rfl (Nat.le_of_ble_eq_true rfl) dCounters_number_10 ⟨Nat.le_of_ble_eq_true rfl, Nat.le_of_ble_eq_true rfl⟩ ?_
  subst hfn
  exact W.iret hx hb hr (fun t ht hW => ⟨rfl, ht⟩) (fun _ h => by cases h) dCounters_number_13
def tf_Counters_says (zs0 : Int32) (mk0 : Int32) (mx : Bool) (n1 : Nat) (f1 : Nat → Int32) (pl : Int32) (hs : Int32) : Bool := (if (tf_PK_at n1 f1 (tf_Counters_counterRow zs0 mk0 mx pl hs)) < 2 then (false) else (true))
set_option maxHeartbeats 4000000 in
set_option maxRecDepth 100000 in
theorem c_Counters_says (l : Launch) (dC : Nat → ClassId) (dI : Nat → Nat → Nat) (cA : ClassId × ClassId × ClassId) (h0 : Nat) (a1 : Nat) (zs0 : Int32) (rw0 : Int32) (mk0 : Int32) (mx : Bool) (n1 : Nat) (f1 : Nat → Int32) (pl : Int32) (hs : Int32) (hn1 : n1 < 2147483648) : Met l yCounters_says wCounters_says ({ frames := 2, cells := 0, slots := 0, locals := 43 }) (va_Pc [.ref h0, .int pl, .int hs] (Rd (dC, dI) cA [(h0, .inr (3, [.int zs0, .int rw0, .int mk0, .int (bI mx), .ref a1])), (a1, .inl (cA.1, n1, .inl f1))])) (QcRead (bI (tf_Counters_says zs0 mk0 mx n1 f1 pl hs))) 0 0 (fun _ => False) := by
  refine Met.ofW (cc := cCounters_says) (maxL := 3) (ret := (some .boolean)) (by decide) rfl ?_
  intro p e s m args below meth c s₁ B hml hv
  obtain ⟨rfl, hN, hP, hK⟩ := hv
  have hx := B.exec
  have hb := B.bytes
  have hr := B.returns
  have hts := atoms_spec (ws := wCounters_says) B.pre
  have htg : ∀ w ∈ GW, w.before _ s = true := fun w h => hts w (List.mem_cons_of_mem _ h)
  have hown : s.vm.findClass R_Counters = some m.cls := findClass_of_methodNamed B.named
  have hlocks := B.notSynchronized
  obtain ⟨rs, hfn⟩ : ∃ rs, (tf_Counters_says zs0 mk0 mx n1 f1 pl hs) = rs := ⟨_, rfl⟩
  try rw [hfn]
  have hl := lv_entry ([.ref h0, .int pl, .int hs]) (n := 3) (Nat.le_of_ble_eq_true rfl)
  rw [lg_entry_eq]
  generalize (lg_sl ([.ref h0, .int pl, .int hs]) ++ List.replicate (3 - (lg_sl ([.ref h0, .int pl, .int hs])).length) Slot.unset).toArray = ls at hl ⊢
  have hl : lv_has ls 3 [(0, .ref h0), (1, .int pl), (2, .int hs)] := hl
  unfold tf_Counters_says at hfn
  refine lv_aload_n hx hb dCounters_says_0 rfl (lv_at hl 0 rfl) ?_
  refine va_get (D := (dC, dI)) (ci := 3) (v := .ref a1) (C := R_Counters) (T := T_Counters) (N := 5) hx hb htg in_Counters hown hK hP 0 rfl rfl 4 (by decide) (htg _ wd_103) (fun _ h9 => h9) rfl dCounters_says_1 ?_
  refine lv_aload_n hx hb dCounters_says_4 rfl (lv_at hl 0 rfl) ?_
  refine lv_iload_n hx hb dCounters_says_5 rfl (lv_at hl 1 rfl) ?_
  refine lv_iload_n hx hb dCounters_says_6 rfl (lv_at hl 2 rfl) ?_
  refine rd_V (As := [.int pl, .int hs]) (rest := [.ref a1]) ⟨hx, hb, hml, hown, htg⟩ (c_Counters_counterRow l dC dI cA h0 a1 zs0 rw0 mk0 mx n1 f1 pl hs hn1) (cw_V htg wd_329 ws_1 qCounters_counterRow iCounters_counterRow kCounters_counterRow pCounters_counterRow rfl rfl ⟨Nat.le_of_ble_eq_true rfl, Nat.le_of_ble_eq_true rfl⟩) (va_recv hK hP (ci := 3) (q0 := 0) rfl rfl) hN (hP.sub [0, 1] rfl) hK rfl hl.1 rfl (Nat.le_of_ble_eq_true rfl) dCounters_says_7 ⟨Nat.le_of_ble_eq_true rfl, Nat.le_of_ble_eq_true rfl⟩ ?_
  refine rd_SN (As := [.ref a1, .int (tf_Counters_counterRow zs0 mk0 mx pl hs)]) (rest := []) ⟨hx, hb, hml, hown, htg⟩ (c_PK_at l dC dI cA a1 n1 f1 (tf_Counters_counterRow zs0 mk0 mx pl hs) hn1) (cw_SN htg hN wn_336 qPK_at iPK_at kPK_at pPK_at rfl rfl ⟨Nat.le_of_ble_eq_true rfl, Nat.le_of_ble_eq_true rfl⟩) hN (hP.sub [1] rfl) hK rfl hl.1 rfl (Nat.le_of_ble_eq_true rfl) dCounters_says_10 ⟨Nat.le_of_ble_eq_true rfl, Nat.le_of_ble_eq_true rfl⟩ ?_
  refine lv_iconst (v := 2) hx hb dCounters_says_13 (by decide) ?_
  refine lv_icmp_lt (tgt := 21) hx hb dCounters_says_14 (by decide) (fun c_1 => ?_) (fun c_1 => ?_)
  · rw [if_pos c_1] at hfn
    refine lv_iconst (v := 0) hx hb dCounters_says_21 (by decide) ?_
    subst hfn
    exact W.zret hx hb hr rfl (fun t ht hW => ⟨rfl, ht⟩) (fun _ h => by cases h) dCounters_says_22
  · rw [if_neg c_1] at hfn
    refine lv_iconst (v := 1) hx hb dCounters_says_17 (by decide) ?_
    refine lv_goto (tgt := 22) hx hb dCounters_says_18 (by decide) ?_
    subst hfn
    exact W.zret hx hb hr rfl (fun t ht hW => ⟨rfl, ht⟩) (fun _ h => by cases h) dCounters_says_22
def tf_Counters_learn (zs0 : Int32) (mk0 : Int32) (mx : Bool) (n1 : Nat) (f1 : Nat → Int32) (pl : Int32) (hs : Int32) (tk : Bool) : (Nat → Int32) := (((tf_PK_stepCounter n1 f1 (tf_Counters_counterRow zs0 mk0 mx pl hs) tk)))
set_option maxHeartbeats 4000000 in
set_option maxRecDepth 100000 in
theorem c_Counters_learn (l : Launch) (dC : Nat → ClassId) (dI : Nat → Nat → Nat) (cA : ClassId × ClassId × ClassId) (zz : Nat) (h0 : Nat) (a1 : Nat) (zs0 : Int32) (rw0 : Int32) (mk0 : Int32) (mx : Bool) (n1 : Nat) (f1 : Nat → Int32) (pl : Int32) (hs : Int32) (tk : Bool) (hn1 : n1 < 2147483648) : Met l yCounters_learn wCounters_learn ({ frames := 3, cells := 0, slots := 0, locals := 69 }) (va_Pc [.ref h0, .int pl, .int hs, .int (bI tk)] (Wr (dC, dI) cA zz [(h0, .inr (3, [.int zs0, .int rw0, .int mk0, .int (bI mx), .ref a1])), (a1, .inl (cA.1, n1, .inl f1))])) (va_Qv (fun w9 => w9 = [(h0, .inr (3, [.int zs0, .int rw0, .int mk0, .int (bI mx), .ref a1])), (a1, .inl (cA.1, n1, .inl ((tf_Counters_learn zs0 mk0 mx n1 f1 pl hs tk))))]) (At (dC, dI) cA (va_A [(h0, .inr (3, [.int zs0, .int rw0, .int mk0, .int (bI mx), .ref a1])), (a1, .inl (cA.1, n1, .inl f1))] zz)) (va_A [(h0, .inr (3, [.int zs0, .int rw0, .int mk0, .int (bI mx), .ref a1])), (a1, .inl (cA.1, n1, .inl f1))] zz)) 0 0 (va_A [(h0, .inr (3, [.int zs0, .int rw0, .int mk0, .int (bI mx), .ref a1])), (a1, .inl (cA.1, n1, .inl f1))] zz) := by
  refine Met.ofW (cc := cCounters_learn) (maxL := 4) (ret := none) (by decide) rfl ?_
  intro p e s m args below meth c s₁ B hml hv
  obtain ⟨rfl, hsz, hN, hP, hK, hD0⟩ := hv
  have hx := B.exec
  have hb := B.bytes
  have hr := B.returns
  have hts := atoms_spec (ws := wCounters_learn) B.pre
  have htg : ∀ w ∈ GW, w.before _ s = true := fun w h => hts w (List.mem_cons_of_mem _ h)
  have hown : s.vm.findClass R_Counters = some m.cls := findClass_of_methodNamed B.named
  have hlocks := B.notSynchronized
  subst hsz
  have hD := hD0.self (sz := s.heap.size)
  generalize hAe : va_A [(h0, .inr (3, [.int zs0, .int rw0, .int mk0, .int (bI mx), .ref a1])), (a1, .inl (cA.1, n1, .inl f1))] s.heap.size = A at hD ⊢
  have hA : ∀ q : Nat, s.heap.size ≤ q → A q := fun q h => by rw [← hAe]; exact Or.inr h
  have hS : va_S A s.heap s.heap [] := va_S.rf
  have hP : va_P (dC, dI) vwCl [(h0, .inr (3, [.int zs0, .int rw0, .int mk0, .int (bI mx), .ref a1])), (a1, .inl (cA.1, n1, .inl f1))] s.heap := hP
  obtain ⟨rs, hfn⟩ : ∃ rs, (tf_Counters_learn zs0 mk0 mx n1 f1 pl hs tk) = rs := ⟨_, rfl⟩
  try rw [hfn]
  have hl := lv_entry ([.ref h0, .int pl, .int hs, .int (bI tk)]) (n := 4) (Nat.le_of_ble_eq_true rfl)
  rw [lg_entry_eq]
  generalize (lg_sl ([.ref h0, .int pl, .int hs, .int (bI tk)]) ++ List.replicate (4 - (lg_sl ([.ref h0, .int pl, .int hs, .int (bI tk)])).length) Slot.unset).toArray = ls at hl ⊢
  have hl : lv_has ls 4 [(0, .ref h0), (1, .int pl), (2, .int hs), (3, .int (bI tk))] := hl
  unfold tf_Counters_learn at hfn
  refine lv_aload_n hx hb dCounters_learn_0 rfl (lv_at hl 0 rfl) ?_
  refine va_get (D := (dC, dI)) (ci := 3) (v := .ref a1) (C := R_Counters) (T := T_Counters) (N := 5) hx hb htg in_Counters hown hK hP 0 rfl rfl 4 (by decide) (htg _ wd_103) (fun _ h9 => h9) rfl dCounters_learn_1 ?_
  refine lv_aload_n hx hb dCounters_learn_4 rfl (lv_at hl 0 rfl) ?_
  refine lv_iload_n hx hb dCounters_learn_5 rfl (lv_at hl 1 rfl) ?_
  refine lv_iload_n hx hb dCounters_learn_6 rfl (lv_at hl 2 rfl) ?_
  refine rd_V (As := [.int pl, .int hs]) (rest := [.ref a1]) ⟨hx, hb, hml, hown, htg⟩ (c_Counters_counterRow l dC dI cA h0 a1 zs0 rw0 mk0 mx n1 f1 pl hs hn1) (cw_V htg wd_329 ws_1 qCounters_counterRow iCounters_counterRow kCounters_counterRow pCounters_counterRow rfl rfl ⟨Nat.le_of_ble_eq_true rfl, Nat.le_of_ble_eq_true rfl⟩) (va_recv hK hP (ci := 3) (q0 := 0) rfl rfl) hN (hP.sub [0, 1] rfl) hK rfl hl.1 rfl (Nat.le_of_ble_eq_true rfl) dCounters_learn_7 ⟨Nat.le_of_ble_eq_true rfl, Nat.le_of_ble_eq_true rfl⟩ ?_
  refine lv_iload_n hx hb dCounters_learn_10 rfl (lv_at hl 3 rfl) ?_
  refine wr_SNv (wr := [(h0, .inr (3, [.int zs0, .int rw0, .int mk0, .int (bI mx), .ref a1]))]) (As := [.ref a1, .int (tf_Counters_counterRow zs0 mk0 mx pl hs), .int (bI tk)]) (rest := []) ⟨hx, hb, hml, hown, htg⟩ (c_PK_stepCounter l dC dI cA _ a1 n1 f1 (tf_Counters_counterRow zs0 mk0 mx pl hs) tk hn1) (cw_SN htg hN wn_482 qPK_stepCounter iPK_stepCounter kPK_stepCounter pPK_stepCounter rfl rfl ⟨Nat.le_of_ble_eq_true rfl, Nat.le_of_ble_eq_true rfl⟩) hN hP hD hS hA hK [1] [0] rfl rfl (by decide) (by decide) (by decide) rfl hl.1 rfl (Nat.le_of_ble_eq_true rfl) dCounters_learn_11 ⟨Nat.le_of_ble_eq_true rfl, Nat.le_of_ble_eq_true rfl⟩ (fun H locs hP hD hS => ?_)
  have hP : va_P (dC, dI) vwCl [(h0, .inr (3, [.int zs0, .int rw0, .int mk0, .int (bI mx), .ref a1])), (a1, .inl (cA.1, n1, .inl ((tf_PK_stepCounter n1 f1 (tf_Counters_counterRow zs0 mk0 mx pl hs) tk))))] H := hP
  have hD : va_D A [(h0, .inr (3, [.int zs0, .int rw0, .int mk0, .int (bI mx), .ref a1])), (a1, .inl (cA.1, n1, .inl ((tf_PK_stepCounter n1 f1 (tf_Counters_counterRow zs0 mk0 mx pl hs) tk))))] := hD
  subst hfn
  exact W.vret hx hb hr (fun t ht hW => ⟨⟨_, rfl, rfl, ⟨by rw [ht]; exact hP.sub [0, 1] rfl, va_K.moved hW.alike hK, hD.sub [0, 1] (by decide) rfl⟩⟩, hS.F ht⟩) hS.2.2 dCounters_learn_14
def tf_Counters_bits (rw0 : Int32) (mx : Bool) : Int32 := (if (bI mx) = 0 then (((2 * rw0) + 0)) else (((2 * rw0) + 32)))
set_option maxHeartbeats 4000000 in
set_option maxRecDepth 100000 in
theorem c_Counters_bits (l : Launch) (dC : Nat → ClassId) (dI : Nat → Nat → Nat) (cA : ClassId × ClassId × ClassId) (h0 : Nat) (a1 : Nat) (zs0 : Int32) (rw0 : Int32) (mk0 : Int32) (mx : Bool) (n1 : Nat) (f1 : Nat → Int32) (hn1 : n1 < 2147483648) : Met l yCounters_bits wCounters_bits ({ frames := 0, cells := 0, slots := 0, locals := 0 }) (va_Pc [.ref h0] (Rd (dC, dI) cA [(h0, .inr (3, [.int zs0, .int rw0, .int mk0, .int (bI mx), .ref a1])), (a1, .inl (cA.1, n1, .inl f1))])) (QcRead (tf_Counters_bits rw0 mx)) 0 0 (fun _ => False) := by
  refine Met.ofW (cc := cCounters_bits) (maxL := 1) (ret := (some .int)) (by decide) rfl ?_
  intro p e s m args below meth c s₁ B hml hv
  obtain ⟨rfl, hN, hP, hK⟩ := hv
  have hx := B.exec
  have hb := B.bytes
  have hr := B.returns
  have hts := atoms_spec (ws := wCounters_bits) B.pre
  have htg : ∀ w ∈ GW, w.before _ s = true := fun w h => hts w (List.mem_cons_of_mem _ h)
  have hown : s.vm.findClass R_Counters = some m.cls := findClass_of_methodNamed B.named
  have hlocks := B.notSynchronized
  obtain ⟨rs, hfn⟩ : ∃ rs, (tf_Counters_bits rw0 mx) = rs := ⟨_, rfl⟩
  try rw [hfn]
  have hl := lv_entry ([.ref h0]) (n := 1) (Nat.le_of_ble_eq_true rfl)
  rw [lg_entry_eq]
  generalize (lg_sl ([.ref h0]) ++ List.replicate (1 - (lg_sl ([.ref h0])).length) Slot.unset).toArray = ls at hl ⊢
  have hl : lv_has ls 1 [(0, .ref h0)] := hl
  unfold tf_Counters_bits at hfn
  refine lv_iconst (v := 2) hx hb dCounters_bits_0 (by decide) ?_
  refine lv_aload_n hx hb dCounters_bits_1 rfl (lv_at hl 0 rfl) ?_
  refine va_get (D := (dC, dI)) (ci := 3) (v := .int rw0) (C := R_Counters) (T := T_Counters) (N := 5) hx hb htg in_Counters hown hK hP 0 rfl rfl 1 (by decide) (htg _ wd_69) (fun x9 h9 => u_same (htg _ wd_70) x9 h9) rfl dCounters_bits_2 ?_
  refine lv_imul hx hb dCounters_bits_5 ?_
  refine lv_aload_n hx hb dCounters_bits_6 rfl (lv_at hl 0 rfl) ?_
  refine va_get (D := (dC, dI)) (ci := 3) (v := .int (bI mx)) (C := R_Counters) (T := T_Counters) (N := 5) hx hb htg in_Counters hown hK hP 0 rfl rfl 3 (by decide) (htg _ wd_102) (fun _ h9 => h9) rfl dCounters_bits_7 ?_
  refine lv_if_eq (tgt := 18) hx hb dCounters_bits_10 (by decide) (fun c_1 => ?_) (fun c_1 => ?_)
  · rw [if_pos c_1] at hfn
    refine lv_iconst (v := 0) hx hb dCounters_bits_18 (by decide) ?_
    refine lv_iadd hx hb dCounters_bits_19 ?_
    subst hfn
    exact W.iret hx hb hr (fun t ht hW => ⟨rfl, ht⟩) (fun _ h => by cases h) dCounters_bits_20
  · rw [if_neg c_1] at hfn
    refine lv_bipush (v := 32) hx hb dCounters_bits_13 (by decide) ?_
    refine lv_goto (tgt := 19) hx hb dCounters_bits_15 (by decide) ?_
    refine lv_iadd hx hb dCounters_bits_19 ?_
    subst hfn
    exact W.iret hx hb hr (fun t ht hW => ⟨rfl, ht⟩) (fun _ h => by cases h) dCounters_bits_20
