def tf_Waiting_length (ud : Int32) : Int32 := (ud)
set_option maxHeartbeats 4000000 in
set_option maxRecDepth 100000 in
theorem c_Waiting_length (l : Launch) (dC : Nat → ClassId) (dI : Nat → Nat → Nat) (cA : ClassId × ClassId × ClassId) (h0 : Nat) (a1 : Nat) (a2 : Nat) (a3 : Nat) (ud : Int32) (f1 : Nat → Int32) (f2 : Nat → Int32) (f3 : Nat → Int32) : Met l yWaiting_length wWaiting_length ({ frames := 0, cells := 0, slots := 0, locals := 0 }) (va_Pc [.ref h0] (Rd (dC, dI) cA [(h0, .inr (9, [.ref a1, .ref a2, .ref a3, .int ud])), (a1, .inl (cA.1, 64, .inl f1)), (a2, .inl (cA.1, 64, .inl f2)), (a3, .inl (cA.1, 64, .inl f3))])) (QcRead (tf_Waiting_length ud)) 0 0 (fun _ => False) := by
  refine Met.ofW (cc := cWaiting_length) (maxL := 1) (ret := (some .int)) (by decide) rfl ?_
  intro p e s m args below meth c s₁ B hml hv
  obtain ⟨rfl, hN, hP, hK⟩ := hv
  have hx := B.exec
  have hb := B.bytes
  have hr := B.returns
  have hts := atoms_spec (ws := wWaiting_length) B.pre
  have htg : ∀ w ∈ GW, w.before _ s = true := fun w h => hts w (List.mem_cons_of_mem _ h)
  have hown : s.vm.findClass R_Waiting = some m.cls := findClass_of_methodNamed B.named
  have hlocks := B.notSynchronized
  obtain ⟨rs, hfn⟩ : ∃ rs, (tf_Waiting_length ud) = rs := ⟨_, rfl⟩
  try rw [hfn]
  have hl := lv_entry ([.ref h0]) (n := 1) (Nat.le_of_ble_eq_true rfl)
  rw [lg_entry_eq]
  generalize (lg_sl ([.ref h0]) ++ List.replicate (1 - (lg_sl ([.ref h0])).length) Slot.unset).toArray = ls at hl ⊢
  have hl : lv_has ls 1 [(0, .ref h0)] := hl
  unfold tf_Waiting_length at hfn
  refine lv_aload_n hx hb dWaiting_length_0 rfl (lv_at hl 0 rfl) ?_
  refine va_get (D := (dC, dI)) (ci := 9) (v := .int ud) (C := R_Waiting) (T := T_Waiting) (N := 4) hx hb htg in_Waiting hown hK hP 0 rfl rfl 3 (by decide) (htg _ wd_251) (fun _ h9 => h9) rfl dWaiting_length_1 ?_
  subst hfn
  exact W.iret hx hb hr (fun t ht hW => ⟨rfl, ht⟩) (fun _ h => by cases h) dWaiting_length_4
def tf_Waiting_hasRoom (ud : Int32) : Bool := (if 64 ≤ ud then (false) else (true))
set_option maxHeartbeats 4000000 in
set_option maxRecDepth 100000 in
theorem c_Waiting_hasRoom (l : Launch) (dC : Nat → ClassId) (dI : Nat → Nat → Nat) (cA : ClassId × ClassId × ClassId) (h0 : Nat) (a1 : Nat) (a2 : Nat) (a3 : Nat) (ud : Int32) (f1 : Nat → Int32) (f2 : Nat → Int32) (f3 : Nat → Int32) : Met l yWaiting_hasRoom wWaiting_hasRoom ({ frames := 0, cells := 0, slots := 0, locals := 0 }) (va_Pc [.ref h0] (Rd (dC, dI) cA [(h0, .inr (9, [.ref a1, .ref a2, .ref a3, .int ud])), (a1, .inl (cA.1, 64, .inl f1)), (a2, .inl (cA.1, 64, .inl f2)), (a3, .inl (cA.1, 64, .inl f3))])) (QcRead (bI (tf_Waiting_hasRoom ud))) 0 0 (fun _ => False) := by
  refine Met.ofW (cc := cWaiting_hasRoom) (maxL := 1) (ret := (some .boolean)) (by decide) rfl ?_
  intro p e s m args below meth c s₁ B hml hv
  obtain ⟨rfl, hN, hP, hK⟩ := hv
  have hx := B.exec
  have hb := B.bytes
  have hr := B.returns
  have hts := atoms_spec (ws := wWaiting_hasRoom) B.pre
  have htg : ∀ w ∈ GW, w.before _ s = true := fun w h => hts w (List.mem_cons_of_mem _ h)
  have hown : s.vm.findClass R_Waiting = some m.cls := findClass_of_methodNamed B.named
  have hlocks := B.notSynchronized
  obtain ⟨rs, hfn⟩ : ∃ rs, (tf_Waiting_hasRoom ud) = rs := ⟨_, rfl⟩
  try rw [hfn]
  have hl := lv_entry ([.ref h0]) (n := 1) (Nat.le_of_ble_eq_true rfl)
  rw [lg_entry_eq]
  generalize (lg_sl ([.ref h0]) ++ List.replicate (1 - (lg_sl ([.ref h0])).length) Slot.unset).toArray = ls at hl ⊢
  have hl : lv_has ls 1 [(0, .ref h0)] := hl
  unfold tf_Waiting_hasRoom at hfn
  refine lv_aload_n hx hb dWaiting_hasRoom_0 rfl (lv_at hl 0 rfl) ?_
  refine va_get (D := (dC, dI)) (ci := 9) (v := .int ud) (C := R_Waiting) (T := T_Waiting) (N := 4) hx hb htg in_Waiting hown hK hP 0 rfl rfl 3 (by decide) (htg _ wd_251) (fun _ h9 => h9) rfl dWaiting_hasRoom_1 ?_
  refine lv_bipush (v := 64) hx hb dWaiting_hasRoom_4 (by decide) ?_
  refine lv_icmp_ge (tgt := 13) hx hb dWaiting_hasRoom_6 (by decide) (fun c_1 => ?_) (fun c_1 => ?_)
  · rw [if_pos c_1] at hfn
    refine lv_iconst (v := 0) hx hb dWaiting_hasRoom_13 (by decide) ?_
    subst hfn
    exact W.zret hx hb hr rfl (fun t ht hW => ⟨rfl, ht⟩) (fun _ h => by cases h) dWaiting_hasRoom_14
  · rw [if_neg c_1] at hfn
    refine lv_iconst (v := 1) hx hb dWaiting_hasRoom_9 (by decide) ?_
    refine lv_goto (tgt := 14) hx hb dWaiting_hasRoom_10 (by decide) ?_
    subst hfn
    exact W.zret hx hb hr rfl (fun t ht hW => ⟨rfl, ht⟩) (fun _ h => by cases h) dWaiting_hasRoom_14
def tf_Waiting_fill (f1 : Nat → Int32) (f2 : Nat → Int32) (f3 : Nat → Int32) (i0 : Int32) (pl : Int32) (hs : Int32) (x0 : Int32) : (Nat → Int32) × (Nat → Int32) × (Nat → Int32) := (((tf_PK_put 64 f1 i0 pl)), ((tf_PK_put 64 f2 i0 hs)), ((tf_PK_put 64 f3 i0 x0)))
set_option maxHeartbeats 4000000 in
set_option maxRecDepth 100000 in
theorem c_Waiting_fill (l : Launch) (dC : Nat → ClassId) (dI : Nat → Nat → Nat) (cA : ClassId × ClassId × ClassId) (zz : Nat) (h0 : Nat) (a1 : Nat) (a2 : Nat) (a3 : Nat) (ud : Int32) (f1 : Nat → Int32) (f2 : Nat → Int32) (f3 : Nat → Int32) (i0 : Int32) (pl : Int32) (hs : Int32) (x0 : Int32) : Met l yWaiting_fill wWaiting_fill ({ frames := 1, cells := 0, slots := 0, locals := 22 }) (va_Pc [.ref h0, .int i0, .int pl, .int hs, .int x0] (Wr (dC, dI) cA zz [(h0, .inr (9, [.ref a1, .ref a2, .ref a3, .int ud])), (a1, .inl (cA.1, 64, .inl f1)), (a2, .inl (cA.1, 64, .inl f2)), (a3, .inl (cA.1, 64, .inl f3))])) (va_Qv (fun w9 => w9 = [(h0, .inr (9, [.ref a1, .ref a2, .ref a3, .int ud])), (a1, .inl (cA.1, 64, .inl ((tf_Waiting_fill f1 f2 f3 i0 pl hs x0).1))), (a2, .inl (cA.1, 64, .inl ((tf_Waiting_fill f1 f2 f3 i0 pl hs x0).2.1))), (a3, .inl (cA.1, 64, .inl ((tf_Waiting_fill f1 f2 f3 i0 pl hs x0).2.2)))]) (At (dC, dI) cA (va_A [(h0, .inr (9, [.ref a1, .ref a2, .ref a3, .int ud])), (a1, .inl (cA.1, 64, .inl f1)), (a2, .inl (cA.1, 64, .inl f2)), (a3, .inl (cA.1, 64, .inl f3))] zz)) (va_A [(h0, .inr (9, [.ref a1, .ref a2, .ref a3, .int ud])), (a1, .inl (cA.1, 64, .inl f1)), (a2, .inl (cA.1, 64, .inl f2)), (a3, .inl (cA.1, 64, .inl f3))] zz)) 0 0 (va_A [(h0, .inr (9, [.ref a1, .ref a2, .ref a3, .int ud])), (a1, .inl (cA.1, 64, .inl f1)), (a2, .inl (cA.1, 64, .inl f2)), (a3, .inl (cA.1, 64, .inl f3))] zz) := by
  refine Met.ofW (cc := cWaiting_fill) (maxL := 5) (ret := none) (by decide) rfl ?_
  intro p e s m args below meth c s₁ B hml hv
  obtain ⟨rfl, hsz, hN, hP, hK, hD0⟩ := hv
  have hx := B.exec
  have hb := B.bytes
  have hr := B.returns
  have hts := atoms_spec (ws := wWaiting_fill) B.pre
  have htg : ∀ w ∈ GW, w.before _ s = true := fun w h => hts w (List.mem_cons_of_mem _ h)
  have hown : s.vm.findClass R_Waiting = some m.cls := findClass_of_methodNamed B.named
  have hlocks := B.notSynchronized
  subst hsz
  have hD := hD0.self (sz := s.heap.size)
  generalize hAe : va_A [(h0, .inr (9, [.ref a1, .ref a2, .ref a3, .int ud])), (a1, .inl (cA.1, 64, .inl f1)), (a2, .inl (cA.1, 64, .inl f2)), (a3, .inl (cA.1, 64, .inl f3))] s.heap.size = A at hD ⊢
  have hA : ∀ q : Nat, s.heap.size ≤ q → A q := fun q h => by rw [← hAe]; exact Or.inr h
  have hS : va_S A s.heap s.heap [] := va_S.rf
  have hP : va_P (dC, dI) vwCl [(h0, .inr (9, [.ref a1, .ref a2, .ref a3, .int ud])), (a1, .inl (cA.1, 64, .inl f1)), (a2, .inl (cA.1, 64, .inl f2)), (a3, .inl (cA.1, 64, .inl f3))] s.heap := hP
  obtain ⟨rs, hfn⟩ : ∃ rs, (tf_Waiting_fill f1 f2 f3 i0 pl hs x0) = rs := ⟨_, rfl⟩
  try rw [hfn]
  have hl := lv_entry ([.ref h0, .int i0, .int pl, .int hs, .int x0]) (n := 5) (Nat.le_of_ble_eq_true rfl)
  rw [lg_entry_eq]
  generalize (lg_sl ([.ref h0, .int i0, .int pl, .int hs, .int x0]) ++ List.replicate (5 - (lg_sl ([.ref h0, .int i0, .int pl, .int hs, .int x0])).length) Slot.unset).toArray = ls at hl ⊢
  have hl : lv_has ls 5 [(0, .ref h0), (1, .int i0), (2, .int pl), (3, .int hs), (4, .int x0)] := hl
  unfold tf_Waiting_fill at hfn
  refine lv_aload_n hx hb dWaiting_fill_0 rfl (lv_at hl 0 rfl) ?_
  refine va_get (D := (dC, dI)) (ci := 9) (v := .ref a1) (C := R_Waiting) (T := T_Waiting) (N := 4) hx hb htg in_Waiting hown hK hP 0 rfl rfl 0 (by decide) (htg _ wd_248) (fun _ h9 => h9) rfl dWaiting_fill_1 ?_
  refine lv_iload_n hx hb dWaiting_fill_4 rfl (lv_at hl 1 rfl) ?_
  refine lv_iload_n hx hb dWaiting_fill_5 rfl (lv_at hl 2 rfl) ?_
  refine wr_SNv (wr := [(h0, .inr (9, [.ref a1, .ref a2, .ref a3, .int ud])), (a2, .inl (cA.1, 64, .inl f2)), (a3, .inl (cA.1, 64, .inl f3))]) (As := [.ref a1, .int i0, .int pl]) (rest := []) ⟨hx, hb, hml, hown, htg⟩ (c_PK_put l dC dI cA _ a1 64 f1 i0 pl (by decide)) (cw_SN htg hN wn_442 qPK_put iPK_put kPK_put pPK_put rfl rfl ⟨Nat.le_of_ble_eq_true rfl, Nat.le_of_ble_eq_true rfl⟩) hN hP hD hS hA hK [1] [0, 2, 3] rfl rfl (by decide) (by decide) (by decide) rfl hl.1 rfl (Nat.le_of_ble_eq_true rfl) dWaiting_fill_6 ⟨Nat.le_of_ble_eq_true rfl, Nat.le_of_ble_eq_true rfl⟩ (fun H locs hP hD hS => ?_)
  have hP : va_P (dC, dI) vwCl [(h0, .inr (9, [.ref a1, .ref a2, .ref a3, .int ud])), (a2, .inl (cA.1, 64, .inl f2)), (a3, .inl (cA.1, 64, .inl f3)), (a1, .inl (cA.1, 64, .inl ((tf_PK_put 64 f1 i0 pl))))] H := hP
  have hD : va_D A [(h0, .inr (9, [.ref a1, .ref a2, .ref a3, .int ud])), (a2, .inl (cA.1, 64, .inl f2)), (a3, .inl (cA.1, 64, .inl f3)), (a1, .inl (cA.1, 64, .inl ((tf_PK_put 64 f1 i0 pl))))] := hD
  refine lv_aload_n hx hb dWaiting_fill_9 rfl (lv_at hl 0 rfl) ?_
  refine va_get (D := (dC, dI)) (ci := 9) (v := .ref a2) (C := R_Waiting) (T := T_Waiting) (N := 4) hx hb htg in_Waiting hown hK hP 0 rfl rfl 1 (by decide) (htg _ wd_249) (fun _ h9 => h9) rfl dWaiting_fill_10 ?_
  refine lv_iload_n hx hb dWaiting_fill_13 rfl (lv_at hl 1 rfl) ?_
  refine lv_iload_n hx hb dWaiting_fill_14 rfl (lv_at hl 3 rfl) ?_
  refine wr_SNv (wr := [(h0, .inr (9, [.ref a1, .ref a2, .ref a3, .int ud])), (a3, .inl (cA.1, 64, .inl f3)), (a1, .inl (cA.1, 64, .inl ((tf_PK_put 64 f1 i0 pl))))]) (As := [.ref a2, .int i0, .int hs]) (rest := []) ⟨hx, hb, hml, hown, htg⟩ (c_PK_put l dC dI cA _ a2 64 f2 i0 hs (by decide)) (cw_SN htg hN wn_442 qPK_put iPK_put kPK_put pPK_put rfl rfl ⟨Nat.le_of_ble_eq_true rfl, Nat.le_of_ble_eq_true rfl⟩) hN hP hD hS hA hK [1] [0, 2, 3] rfl rfl (by decide) (by decide) (by decide) rfl hl.1 rfl (Nat.le_of_ble_eq_true rfl) dWaiting_fill_15 ⟨Nat.le_of_ble_eq_true rfl, Nat.le_of_ble_eq_true rfl⟩ (fun H locs hP hD hS => ?_)
  have hP : va_P (dC, dI) vwCl [(h0, .inr (9, [.ref a1, .ref a2, .ref a3, .int ud])), (a3, .inl (cA.1, 64, .inl f3)), (a1, .inl (cA.1, 64, .inl ((tf_PK_put 64 f1 i0 pl)))), (a2, .inl (cA.1, 64, .inl ((tf_PK_put 64 f2 i0 hs))))] H := hP
  have hD : va_D A [(h0, .inr (9, [.ref a1, .ref a2, .ref a3, .int ud])), (a3, .inl (cA.1, 64, .inl f3)), (a1, .inl (cA.1, 64, .inl ((tf_PK_put 64 f1 i0 pl)))), (a2, .inl (cA.1, 64, .inl ((tf_PK_put 64 f2 i0 hs))))] := hD
  refine lv_aload_n hx hb dWaiting_fill_18 rfl (lv_at hl 0 rfl) ?_
  refine va_get (D := (dC, dI)) (ci := 9) (v := .ref a3) (C := R_Waiting) (T := T_Waiting) (N := 4) hx hb htg in_Waiting hown hK hP 0 rfl rfl 2 (by decide) (htg _ wd_250) (fun _ h9 => h9) rfl dWaiting_fill_19 ?_
  refine lv_iload_n hx hb dWaiting_fill_22 rfl (lv_at hl 1 rfl) ?_
  refine lv_iload hx hb dWaiting_fill_23 (lv_at hl 4 rfl) ?_
  refine wr_SNv (wr := [(h0, .inr (9, [.ref a1, .ref a2, .ref a3, .int ud])), (a1, .inl (cA.1, 64, .inl ((tf_PK_put 64 f1 i0 pl)))), (a2, .inl (cA.1, 64, .inl ((tf_PK_put 64 f2 i0 hs))))]) (As := [.ref a3, .int i0, .int x0]) (rest := []) ⟨hx, hb, hml, hown, htg⟩ (c_PK_put l dC dI cA _ a3 64 f3 i0 x0 (by decide)) (cw_SN htg hN wn_442 qPK_put iPK_put kPK_put pPK_put rfl rfl ⟨Nat.le_of_ble_eq_true rfl, Nat.le_of_ble_eq_true rfl⟩) hN hP hD hS hA hK [1] [0, 2, 3] rfl rfl (by decide) (by decide) (by decide) rfl hl.1 rfl (Nat.le_of_ble_eq_true rfl) dWaiting_fill_25 ⟨Nat.le_of_ble_eq_true rfl, Nat.le_of_ble_eq_true rfl⟩ (fun H locs hP hD hS => ?_)
  have hP : va_P (dC, dI) vwCl [(h0, .inr (9, [.ref a1, .ref a2, .ref a3, .int ud])), (a1, .inl (cA.1, 64, .inl ((tf_PK_put 64 f1 i0 pl)))), (a2, .inl (cA.1, 64, .inl ((tf_PK_put 64 f2 i0 hs)))), (a3, .inl (cA.1, 64, .inl ((tf_PK_put 64 f3 i0 x0))))] H := hP
  have hD : va_D A [(h0, .inr (9, [.ref a1, .ref a2, .ref a3, .int ud])), (a1, .inl (cA.1, 64, .inl ((tf_PK_put 64 f1 i0 pl)))), (a2, .inl (cA.1, 64, .inl ((tf_PK_put 64 f2 i0 hs)))), (a3, .inl (cA.1, 64, .inl ((tf_PK_put 64 f3 i0 x0))))] := hD
  subst hfn
  exact W.vret hx hb hr (fun t ht hW => ⟨⟨_, rfl, rfl, ⟨by rw [ht]; exact hP.sub [0, 1, 2, 3] rfl, va_K.moved hW.alike hK, hD.sub [0, 1, 2, 3] (by decide) rfl⟩⟩, hS.F ht⟩) hS.2.2 dWaiting_fill_28
def tf_Waiting_add_b23 (ud : Int32) (f1 : Nat → Int32) (f2 : Nat → Int32) (f3 : Nat → Int32) (pl : Int32) (hs : Int32) (s0_b23 : Bool) : Int32 × (Nat → Int32) × (Nat → Int32) × (Nat → Int32) := ((ud + 1), ((tf_Waiting_fill f1 f2 f3 ud pl hs (bI s0_b23)).1), ((tf_Waiting_fill f1 f2 f3 ud pl hs (bI s0_b23)).2.1), ((tf_Waiting_fill f1 f2 f3 ud pl hs (bI s0_b23)).2.2))
def tf_Waiting_add (ud : Int32) (f1 : Nat → Int32) (f2 : Nat → Int32) (f3 : Nat → Int32) (pl : Int32) (hs : Int32) (tk : Bool) : Int32 × (Nat → Int32) × (Nat → Int32) × (Nat → Int32) := (if (bI (tf_Waiting_hasRoom ud)) = 0 then (ud, f1, f2, f3) else (if (bI tk) = 0 then tf_Waiting_add_b23 ud f1 f2 f3 pl hs false else tf_Waiting_add_b23 ud f1 f2 f3 pl hs true))
set_option maxHeartbeats 4000000 in
set_option maxRecDepth 100000 in
theorem c_Waiting_add (l : Launch) (dC : Nat → ClassId) (dI : Nat → Nat → Nat) (cA : ClassId × ClassId × ClassId) (zz : Nat) (h0 : Nat) (a1 : Nat) (a2 : Nat) (a3 : Nat) (ud : Int32) (f1 : Nat → Int32) (f2 : Nat → Int32) (f3 : Nat → Int32) (pl : Int32) (hs : Int32) (tk : Bool) : Met l yWaiting_add wWaiting_add ({ frames := 2, cells := 0, slots := 0, locals := 46 }) (va_Pc [.ref h0, .int pl, .int hs, .int (bI tk)] (Wr (dC, dI) cA zz [(h0, .inr (9, [.ref a1, .ref a2, .ref a3, .int ud])), (a1, .inl (cA.1, 64, .inl f1)), (a2, .inl (cA.1, 64, .inl f2)), (a3, .inl (cA.1, 64, .inl f3))])) (va_Qv (fun w9 => w9 = [(h0, .inr (9, [.ref a1, .ref a2, .ref a3, .int ((tf_Waiting_add ud f1 f2 f3 pl hs tk).1)])), (a1, .inl (cA.1, 64, .inl ((tf_Waiting_add ud f1 f2 f3 pl hs tk).2.1))), (a2, .inl (cA.1, 64, .inl ((tf_Waiting_add ud f1 f2 f3 pl hs tk).2.2.1))), (a3, .inl (cA.1, 64, .inl ((tf_Waiting_add ud f1 f2 f3 pl hs tk).2.2.2)))]) (At (dC, dI) cA (va_A [(h0, .inr (9, [.ref a1, .ref a2, .ref a3, .int ud])), (a1, .inl (cA.1, 64, .inl f1)), (a2, .inl (cA.1, 64, .inl f2)), (a3, .inl (cA.1, 64, .inl f3))] zz)) (va_A [(h0, .inr (9, [.ref a1, .ref a2, .ref a3, .int ud])), (a1, .inl (cA.1, 64, .inl f1)), (a2, .inl (cA.1, 64, .inl f2)), (a3, .inl (cA.1, 64, .inl f3))] zz)) 0 0 (va_A [(h0, .inr (9, [.ref a1, .ref a2, .ref a3, .int ud])), (a1, .inl (cA.1, 64, .inl f1)), (a2, .inl (cA.1, 64, .inl f2)), (a3, .inl (cA.1, 64, .inl f3))] zz) := by
  refine Met.ofW (cc := cWaiting_add) (maxL := 4) (ret := none) (by decide) rfl ?_
  intro p e s m args below meth c s₁ B hml hv
  obtain ⟨rfl, hsz, hN, hP, hK, hD0⟩ := hv
  have hx := B.exec
  have hb := B.bytes
  have hr := B.returns
  have hts := atoms_spec (ws := wWaiting_add) B.pre
  have htg : ∀ w ∈ GW, w.before _ s = true := fun w h => hts w (List.mem_cons_of_mem _ h)
  have hown : s.vm.findClass R_Waiting = some m.cls := findClass_of_methodNamed B.named
  have hlocks := B.notSynchronized
  subst hsz
  have hD := hD0.self (sz := s.heap.size)
  generalize hAe : va_A [(h0, .inr (9, [.ref a1, .ref a2, .ref a3, .int ud])), (a1, .inl (cA.1, 64, .inl f1)), (a2, .inl (cA.1, 64, .inl f2)), (a3, .inl (cA.1, 64, .inl f3))] s.heap.size = A at hD ⊢
  have hA : ∀ q : Nat, s.heap.size ≤ q → A q := fun q h => by rw [← hAe]; exact Or.inr h
  have hS : va_S A s.heap s.heap [] := va_S.rf
  have hP : va_P (dC, dI) vwCl [(h0, .inr (9, [.ref a1, .ref a2, .ref a3, .int ud])), (a1, .inl (cA.1, 64, .inl f1)), (a2, .inl (cA.1, 64, .inl f2)), (a3, .inl (cA.1, 64, .inl f3))] s.heap := hP
  have blk23 : ∀ (rs : Int32 × (Nat → Int32) × (Nat → Int32) × (Nat → Int32)) (s0_b23 : Bool) (H : Heap) (locs : List Loc) (ls : Array Slot), tf_Waiting_add_b23 ud f1 f2 f3 pl hs s0_b23 = rs → va_P (dC, dI) vwCl [(h0, .inr (9, [.ref a1, .ref a2, .ref a3, .int ud])), (a1, .inl (cA.1, 64, .inl f1)), (a2, .inl (cA.1, 64, .inl f2)), (a3, .inl (cA.1, 64, .inl f3))] H → va_D A [(h0, .inr (9, [.ref a1, .ref a2, .ref a3, .int ud])), (a1, .inl (cA.1, 64, .inl f1)), (a2, .inl (cA.1, 64, .inl f2)), (a3, .inl (cA.1, 64, .inl f3))] → va_S A s.heap H locs → lv_has ls 4 [(0, .ref h0)] → W p l e (headSpec wWaiting_add ({ frames := 2, cells := 0, slots := 0, locals := 46 })).room s m ([.ref h0, .int pl, .int hs, .int (bI tk)] : List Value).toArray below meth c H locs 0 0 (MQ below (va_Qv (fun w9 => w9 = [(h0, .inr (9, [.ref a1, .ref a2, .ref a3, .int (rs.1)])), (a1, .inl (cA.1, 64, .inl (rs.2.1))), (a2, .inl (cA.1, 64, .inl (rs.2.2.1))), (a3, .inl (cA.1, 64, .inl (rs.2.2.2)))]) (At (dC, dI) cA A) A) ([.ref h0, .int pl, .int hs, .int (bI tk)] : List Value).toArray s 0 0 A) (F0 m 23 ls [.int (bI s0_b23), .int hs, .int pl, .int ud, .ref h0]) := by
    intro rs s0_b23 H locs ls hfn hP hD hS hl
    unfold tf_Waiting_add_b23 at hfn
    refine wr_Vv (wr := []) (As := [.int ud, .int pl, .int hs, .int (bI s0_b23)]) (rest := []) ⟨hx, hb, hml, hown, htg⟩ (c_Waiting_fill l dC dI cA _ h0 a1 a2 a3 ud f1 f2 f3 ud pl hs (bI s0_b23)) (cw_V htg wd_438 ws_10 qWaiting_fill iWaiting_fill kWaiting_fill pWaiting_fill rfl rfl ⟨Nat.le_of_ble_eq_true rfl, Nat.le_of_ble_eq_true rfl⟩) (va_recv hK hP (ci := 9) (q0 := 0) rfl rfl) hN hP hD hS hA hK [0, 1, 2, 3] [] rfl rfl (by decide) (by decide) (by decide) rfl hl.1 rfl (Nat.le_of_ble_eq_true rfl) dWaiting_add_23 ⟨Nat.le_of_ble_eq_true rfl, Nat.le_of_ble_eq_true rfl⟩ (fun H locs hP hD hS => ?_)
    have hP : va_P (dC, dI) vwCl [(h0, .inr (9, [.ref a1, .ref a2, .ref a3, .int ud])), (a1, .inl (cA.1, 64, .inl ((tf_Waiting_fill f1 f2 f3 ud pl hs (bI s0_b23)).1))), (a2, .inl (cA.1, 64, .inl ((tf_Waiting_fill f1 f2 f3 ud pl hs (bI s0_b23)).2.1))), (a3, .inl (cA.1, 64, .inl ((tf_Waiting_fill f1 f2 f3 ud pl hs (bI s0_b23)).2.2)))] H := hP
    have hD : va_D A [(h0, .inr (9, [.ref a1, .ref a2, .ref a3, .int ud])), (a1, .inl (cA.1, 64, .inl ((tf_Waiting_fill f1 f2 f3 ud pl hs (bI s0_b23)).1))), (a2, .inl (cA.1, 64, .inl ((tf_Waiting_fill f1 f2 f3 ud pl hs (bI s0_b23)).2.1))), (a3, .inl (cA.1, 64, .inl ((tf_Waiting_fill f1 f2 f3 ud pl hs (bI s0_b23)).2.2)))] := hD
    refine lv_aload_n hx hb dWaiting_add_26 rfl (lv_at hl 0 rfl) ?_
    refine lv_dup hx hb dWaiting_add_27 rfl ?_
    refine va_get (D := (dC, dI)) (ci := 9) (v := .int ud) (C := R_Waiting) (T := T_Waiting) (N := 4) hx hb htg in_Waiting hown hK hP 0 rfl rfl 3 (by decide) (htg _ wd_251) (fun _ h9 => h9) rfl dWaiting_add_28 ?_
    refine lv_iconst (v := 1) hx hb dWaiting_add_31 (by decide) ?_
    refine lv_iadd hx hb dWaiting_add_32 ?_
    refine va_put (D := (dC, dI)) (ci := 9) (v := .int (ud + 1)) (ty := .int) (C := R_Waiting) (T := T_Waiting) (N := 4) hx hb htg in_Waiting ty_Waiting tk_Waiting nm_Waiting hown hK hP hD hS 0 rfl rfl 3 (by decide) (htg _ wd_251) (fun _ h9 => h9) rfl (by decide +kernel) rfl rfl (Nat.le_of_ble_eq_true rfl) dWaiting_add_33 (fun H locs hP hD hS => ?_)
    have hP : va_P (dC, dI) vwCl [(h0, .inr (9, [.ref a1, .ref a2, .ref a3, .int (ud + 1)])), (a1, .inl (cA.1, 64, .inl ((tf_Waiting_fill f1 f2 f3 ud pl hs (bI s0_b23)).1))), (a2, .inl (cA.1, 64, .inl ((tf_Waiting_fill f1 f2 f3 ud pl hs (bI s0_b23)).2.1))), (a3, .inl (cA.1, 64, .inl ((tf_Waiting_fill f1 f2 f3 ud pl hs (bI s0_b23)).2.2)))] H := hP
    have hD : va_D A [(h0, .inr (9, [.ref a1, .ref a2, .ref a3, .int (ud + 1)])), (a1, .inl (cA.1, 64, .inl ((tf_Waiting_fill f1 f2 f3 ud pl hs (bI s0_b23)).1))), (a2, .inl (cA.1, 64, .inl ((tf_Waiting_fill f1 f2 f3 ud pl hs (bI s0_b23)).2.1))), (a3, .inl (cA.1, 64, .inl ((tf_Waiting_fill f1 f2 f3 ud pl hs (bI s0_b23)).2.2)))] := hD
    subst hfn
    exact W.vret hx hb hr (fun t ht hW => ⟨⟨_, rfl, rfl, ⟨by rw [ht]; exact hP.sub [0, 1, 2, 3] rfl, va_K.moved hW.alike hK, hD.sub [0, 1, 2, 3] (by decide) rfl⟩⟩, hS.F ht⟩) hS.2.2 dWaiting_add_36
  obtain ⟨rs, hfn⟩ : ∃ rs, (tf_Waiting_add ud f1 f2 f3 pl hs tk) = rs := ⟨_, rfl⟩
  try rw [hfn]
  have hl := lv_entry ([.ref h0, .int pl, .int hs, .int (bI tk)]) (n := 4) (Nat.le_of_ble_eq_true rfl)
  rw [lg_entry_eq]
  generalize (lg_sl ([.ref h0, .int pl, .int hs, .int (bI tk)]) ++ List.replicate (4 - (lg_sl ([.ref h0, .int pl, .int hs, .int (bI tk)])).length) Slot.unset).toArray = ls at hl ⊢
  have hl : lv_has ls 4 [(0, .ref h0), (1, .int pl), (2, .int hs), (3, .int (bI tk))] := hl
  unfold tf_Waiting_add at hfn
  refine lv_aload_n hx hb dWaiting_add_0 rfl (lv_at hl 0 rfl) ?_
  refine rd_V (As := []) (rest := []) ⟨hx, hb, hml, hown, htg⟩ (c_Waiting_hasRoom l dC dI cA h0 a1 a2 a3 ud f1 f2 f3) (cw_V htg wd_437 wd_431 qWaiting_hasRoom iWaiting_hasRoom kWaiting_hasRoom pWaiting_hasRoom rfl rfl ⟨Nat.le_of_ble_eq_true rfl, Nat.le_of_ble_eq_true rfl⟩) (va_recv hK hP (ci := 9) (q0 := 0) rfl rfl) hN (hP.sub [0, 1, 2, 3] rfl) hK rfl hl.1 rfl (Nat.le_of_ble_eq_true rfl) dWaiting_add_1 ⟨Nat.le_of_ble_eq_true rfl, Nat.le_of_ble_eq_true rfl⟩ ?_
  refine lv_if_eq (tgt := 36) hx hb dWaiting_add_4 (by decide) (fun c_1 => ?_) (fun c_1 => ?_)
  · rw [if_pos c_1] at hfn
    subst hfn
    exact W.vret hx hb hr (fun t ht hW => ⟨⟨_, rfl, rfl, ⟨by rw [ht]; exact hP.sub [0, 1, 2, 3] rfl, va_K.moved hW.alike hK, hD.sub [0, 1, 2, 3] (by decide) rfl⟩⟩, hS.F ht⟩) hS.2.2 dWaiting_add_36
  · rw [if_neg c_1] at hfn
    refine lv_aload_n hx hb dWaiting_add_7 rfl (lv_at hl 0 rfl) ?_
    refine lv_aload_n hx hb dWaiting_add_8 rfl (lv_at hl 0 rfl) ?_
    refine va_get (D := (dC, dI)) (ci := 9) (v := .int ud) (C := R_Waiting) (T := T_Waiting) (N := 4) hx hb htg in_Waiting hown hK hP 0 rfl rfl 3 (by decide) (htg _ wd_251) (fun _ h9 => h9) rfl dWaiting_add_9 ?_
    refine lv_iload_n hx hb dWaiting_add_12 rfl (lv_at hl 1 rfl) ?_
    refine lv_iload_n hx hb dWaiting_add_13 rfl (lv_at hl 2 rfl) ?_
    refine lv_iload_n hx hb dWaiting_add_14 rfl (lv_at hl 3 rfl) ?_
    refine lv_if_eq (tgt := 22) hx hb dWaiting_add_15 (by decide) (fun c_2 => ?_) (fun c_2 => ?_)
    · rw [if_pos c_2] at hfn
      refine lv_iconst (v := 0) hx hb dWaiting_add_22 (by decide) ?_
      exact blk23 _ false _ _ ls hfn (hP.sub [0, 1, 2, 3] rfl) (hD.sub [0, 1, 2, 3] (by decide) rfl) hS (lv_sub hl [0] rfl)
    · rw [if_neg c_2] at hfn
      refine lv_iconst (v := 1) hx hb dWaiting_add_18 (by decide) ?_
      refine lv_goto (tgt := 23) hx hb dWaiting_add_19 (by decide) ?_
      exact blk23 _ true _ _ ls hfn (hP.sub [0, 1, 2, 3] rfl) (hD.sub [0, 1, 2, 3] (by decide) rfl) hS (lv_sub hl [0] rfl)
def of_Waiting_oldestOf_b2 : Nat → Int32 → (Nat → Int32) → Int32 → Int32 → Option (Int32)
  | 0, _, _, _, _ => none
  | n + 1, ud, f1, pl, v2_b2 => (if ud ≤ v2_b2 then some ((-1)) else (if (tf_PK_at 64 f1 v2_b2) = pl then some (v2_b2) else of_Waiting_oldestOf_b2 n ud f1 pl (v2_b2 + 1)))
def of_Waiting_oldestOf (ud : Int32) (f1 : Nat → Int32) (pl : Int32) : Option (Int32) := of_Waiting_oldestOf_b2 4096 ud f1 pl 0
set_option maxHeartbeats 4000000 in
set_option maxRecDepth 100000 in
theorem c_Waiting_oldestOf (l : Launch) (dC : Nat → ClassId) (dI : Nat → Nat → Nat) (cA : ClassId × ClassId × ClassId) (h0 : Nat) (a1 : Nat) (a2 : Nat) (a3 : Nat) (ud : Int32) (f1 : Nat → Int32) (f2 : Nat → Int32) (f3 : Nat → Int32) (pl : Int32) (rs0 : Int32) (hfn : (of_Waiting_oldestOf ud f1 pl) = some (rs0)) : Met l yWaiting_oldestOf wWaiting_oldestOf ({ frames := 1, cells := 0, slots := 0, locals := 21 }) (va_Pc [.ref h0, .int pl] (Rd (dC, dI) cA [(h0, .inr (9, [.ref a1, .ref a2, .ref a3, .int ud])), (a1, .inl (cA.1, 64, .inl f1)), (a2, .inl (cA.1, 64, .inl f2)), (a3, .inl (cA.1, 64, .inl f3))])) (QcRead rs0) 0 0 (fun _ => False) := by
  refine Met.ofW (cc := cWaiting_oldestOf) (maxL := 3) (ret := (some .int)) (by decide) rfl ?_
  intro p e s m args below meth c s₁ B hml hv
  obtain ⟨rfl, hN, hP, hK⟩ := hv
  have hx := B.exec
  have hb := B.bytes
  have hr := B.returns
  have hts := atoms_spec (ws := wWaiting_oldestOf) B.pre
  have htg : ∀ w ∈ GW, w.before _ s = true := fun w h => hts w (List.mem_cons_of_mem _ h)
  have hown : s.vm.findClass R_Waiting = some m.cls := findClass_of_methodNamed B.named
  have hlocks := B.notSynchronized
  have blk2 : ∀ n : Nat, ∀ (rs0 : Int32) (v2_b2 : Int32) (ls : Array Slot), of_Waiting_oldestOf_b2 n ud f1 pl v2_b2 = some (rs0) → lv_has ls 3 [(0, .ref h0), (1, .int pl), (2, .int v2_b2)] → W p l e (headSpec wWaiting_oldestOf ({ frames := 1, cells := 0, slots := 0, locals := 21 })).room s m ([.ref h0, .int pl] : List Value).toArray below meth c s.heap [] 0 0 (MQ below (QcRead rs0) ([.ref h0, .int pl] : List Value).toArray s 0 0 (fun _ => False)) (F0 m 2 ls []) := by
    intro n
    induction n with
    | zero =>
      intro rs0 v2_b2 ls hfn hl
      exact absurd hfn (by intro h; cases h)
    | succ n ih =>
      intro rs0 v2_b2 ls hfn hl
      unfold of_Waiting_oldestOf_b2 at hfn
      refine lv_iload_n hx hb dWaiting_oldestOf_2 rfl (lv_at hl 2 rfl) ?_
      refine lv_aload_n hx hb dWaiting_oldestOf_3 rfl (lv_at hl 0 rfl) ?_
      refine va_get (D := (dC, dI)) (ci := 9) (v := .int ud) (C := R_Waiting) (T := T_Waiting) (N := 4) hx hb htg in_Waiting hown hK hP 0 rfl rfl 3 (by decide) (htg _ wd_251) (fun _ h9 => h9) rfl dWaiting_oldestOf_4 ?_
      refine lv_icmp_ge (tgt := 30) hx hb dWaiting_oldestOf_7 (by decide) (fun c_1 => ?_) (fun c_1 => ?_)
      · rw [if_pos c_1] at hfn
        refine lv_iconst (v := (-1)) hx hb dWaiting_oldestOf_30 (by decide) ?_
        replace hfn := Option.some.inj hfn
        subst hfn
        exact W.iret hx hb hr (fun t ht hW => ⟨rfl, ht⟩) (fun _ h => by cases h) dWaiting_oldestOf_31
      · rw [if_neg c_1] at hfn
        refine lv_aload_n hx hb dWaiting_oldestOf_10 rfl (lv_at hl 0 rfl) ?_
        refine va_get (D := (dC, dI)) (ci := 9) (v := .ref a1) (C := R_Waiting) (T := T_Waiting) (N := 4) hx hb htg in_Waiting hown hK hP 0 rfl rfl 0 (by decide) (htg _ wd_248) (fun _ h9 => h9) rfl dWaiting_oldestOf_11 ?_
        refine lv_iload_n hx hb dWaiting_oldestOf_14 rfl (lv_at hl 2 rfl) ?_
        refine rd_SN (As := [.ref a1, .int v2_b2]) (rest := []) ⟨hx, hb, hml, hown, htg⟩ (c_PK_at l dC dI cA a1 64 f1 v2_b2 (by decide)) (cw_SN htg hN wn_456 qPK_at iPK_at kPK_at pPK_at rfl rfl ⟨Nat.le_of_ble_eq_true rfl, Nat.le_of_ble_eq_true rfl⟩) hN (hP.sub [1] rfl) hK rfl hl.1 rfl (Nat.le_of_ble_eq_true rfl) dWaiting_oldestOf_15 ⟨Nat.le_of_ble_eq_true rfl, Nat.le_of_ble_eq_true rfl⟩ ?_
        refine lv_iload_n hx hb dWaiting_oldestOf_18 rfl (lv_at hl 1 rfl) ?_
        refine lv_icmp_ne (tgt := 24) hx hb dWaiting_oldestOf_19 (by decide) (fun c_2 => ?_) (fun c_2 => ?_)
        · rw [if_neg c_2] at hfn
          refine lv_iinc (v := (v2_b2 + 1)) (lv' := [(2, .int (v2_b2 + 1)), (0, .ref h0), (1, .int pl)]) hx hb dWaiting_oldestOf_24 hl (k := 2) rfl rfl (by decide) rfl (fun ls hl => ?_)
          refine lv_goto (tgt := 2) hx hb dWaiting_oldestOf_27 (by decide) ?_
          exact ih _ (v2_b2 + 1) ls hfn (lv_sub hl [1, 2, 0] rfl)
        · rw [if_pos c_2] at hfn
          refine lv_iload_n hx hb dWaiting_oldestOf_22 rfl (lv_at hl 2 rfl) ?_
          replace hfn := Option.some.inj hfn
          subst hfn
          exact W.iret hx hb hr (fun t ht hW => ⟨rfl, ht⟩) (fun _ h => by cases h) dWaiting_oldestOf_23
  have hl := lv_entry ([.ref h0, .int pl]) (n := 3) (Nat.le_of_ble_eq_true rfl)
  rw [lg_entry_eq]
  generalize (lg_sl ([.ref h0, .int pl]) ++ List.replicate (3 - (lg_sl ([.ref h0, .int pl])).length) Slot.unset).toArray = ls at hl ⊢
  have hl : lv_has ls 3 [(0, .ref h0), (1, .int pl)] := hl
  unfold of_Waiting_oldestOf at hfn
  refine lv_iconst (v := 0) hx hb dWaiting_oldestOf_0 (by decide) ?_
  refine lv_istore_n (lv' := [(2, .int 0), (0, .ref h0), (1, .int pl)]) hx hb dWaiting_oldestOf_1 rfl hl (by decide) rfl (fun ls hl => ?_)
  exact blk2 4096 _ 0 ls hfn (lv_sub hl [1, 2, 0] rfl)
def tf_Waiting_historyBefore (f2 : Nat → Int32) (i0 : Int32) : Int32 := ((tf_PK_at 64 f2 i0))
set_option maxHeartbeats 4000000 in
set_option maxRecDepth 100000 in
theorem c_Waiting_historyBefore (l : Launch) (dC : Nat → ClassId) (dI : Nat → Nat → Nat) (cA : ClassId × ClassId × ClassId) (h0 : Nat) (a1 : Nat) (a2 : Nat) (a3 : Nat) (ud : Int32) (f1 : Nat → Int32) (f2 : Nat → Int32) (f3 : Nat → Int32) (i0 : Int32) : Met l yWaiting_historyBefore wWaiting_historyBefore ({ frames := 1, cells := 0, slots := 0, locals := 21 }) (va_Pc [.ref h0, .int i0] (Rd (dC, dI) cA [(h0, .inr (9, [.ref a1, .ref a2, .ref a3, .int ud])), (a1, .inl (cA.1, 64, .inl f1)), (a2, .inl (cA.1, 64, .inl f2)), (a3, .inl (cA.1, 64, .inl f3))])) (QcRead (tf_Waiting_historyBefore f2 i0)) 0 0 (fun _ => False) := by
  refine Met.ofW (cc := cWaiting_historyBefore) (maxL := 2) (ret := (some .int)) (by decide) rfl ?_
  intro p e s m args below meth c s₁ B hml hv
  obtain ⟨rfl, hN, hP, hK⟩ := hv
  have hx := B.exec
  have hb := B.bytes
  have hr := B.returns
  have hts := atoms_spec (ws := wWaiting_historyBefore) B.pre
  have htg : ∀ w ∈ GW, w.before _ s = true := fun w h => hts w (List.mem_cons_of_mem _ h)
  have hown : s.vm.findClass R_Waiting = some m.cls := findClass_of_methodNamed B.named
  have hlocks := B.notSynchronized
  obtain ⟨rs, hfn⟩ : ∃ rs, (tf_Waiting_historyBefore f2 i0) = rs := ⟨_, rfl⟩
  try rw [hfn]
  have hl := lv_entry ([.ref h0, .int i0]) (n := 2) (Nat.le_of_ble_eq_true rfl)
  rw [lg_entry_eq]
  generalize (lg_sl ([.ref h0, .int i0]) ++ List.replicate (2 - (lg_sl ([.ref h0, .int i0])).length) Slot.unset).toArray = ls at hl ⊢
  have hl : lv_has ls 2 [(0, .ref h0), (1, .int i0)] := hl
  unfold tf_Waiting_historyBefore at hfn
  refine lv_aload_n hx hb dWaiting_historyBefore_0 rfl (lv_at hl 0 rfl) ?_
  refine va_get (D := (dC, dI)) (ci := 9) (v := .ref a2) (C := R_Waiting) (T := T_Waiting) (N := 4) hx hb htg in_Waiting hown hK hP 0 rfl rfl 1 (by decide) (htg _ wd_249) (fun _ h9 => h9) rfl dWaiting_historyBefore_1 ?_
  refine lv_iload_n hx hb dWaiting_historyBefore_4 rfl (lv_at hl 1 rfl) ?_
  refine rd_SN (As := [.ref a2, .int i0]) (rest := []) ⟨hx, hb, hml, hown, htg⟩ (c_PK_at l dC dI cA a2 64 f2 i0 (by decide)) (cw_SN htg hN wn_456 qPK_at iPK_at kPK_at pPK_at rfl rfl ⟨Nat.le_of_ble_eq_true rfl, Nat.le_of_ble_eq_true rfl⟩) hN (hP.sub [2] rfl) hK rfl hl.1 rfl (Nat.le_of_ble_eq_true rfl) dWaiting_historyBefore_5 ⟨Nat.le_of_ble_eq_true rfl, Nat.le_of_ble_eq_true rfl⟩ ?_
  subst hfn
  exact W.iret hx hb hr (fun t ht hW => ⟨rfl, ht⟩) (fun _ h => by cases h) dWaiting_historyBefore_8
def tf_Waiting_wasSaid (f3 : Nat → Int32) (i0 : Int32) : Bool := (if (tf_PK_at 64 f3 i0) = 1 then (true) else (false))
set_option maxHeartbeats 4000000 in
set_option maxRecDepth 100000 in
theorem c_Waiting_wasSaid (l : Launch) (dC : Nat → ClassId) (dI : Nat → Nat → Nat) (cA : ClassId × ClassId × ClassId) (h0 : Nat) (a1 : Nat) (a2 : Nat) (a3 : Nat) (ud : Int32) (f1 : Nat → Int32) (f2 : Nat → Int32) (f3 : Nat → Int32) (i0 : Int32) : Met l yWaiting_wasSaid wWaiting_wasSaid ({ frames := 1, cells := 0, slots := 0, locals := 21 }) (va_Pc [.ref h0, .int i0] (Rd (dC, dI) cA [(h0, .inr (9, [.ref a1, .ref a2, .ref a3, .int ud])), (a1, .inl (cA.1, 64, .inl f1)), (a2, .inl (cA.1, 64, .inl f2)), (a3, .inl (cA.1, 64, .inl f3))])) (QcRead (bI (tf_Waiting_wasSaid f3 i0))) 0 0 (fun _ => False) := by
  refine Met.ofW (cc := cWaiting_wasSaid) (maxL := 2) (ret := (some .boolean)) (by decide) rfl ?_
  intro p e s m args below meth c s₁ B hml hv
  obtain ⟨rfl, hN, hP, hK⟩ := hv
  have hx := B.exec
  have hb := B.bytes
  have hr := B.returns
  have hts := atoms_spec (ws := wWaiting_wasSaid) B.pre
  have htg : ∀ w ∈ GW, w.before _ s = true := fun w h => hts w (List.mem_cons_of_mem _ h)
  have hown : s.vm.findClass R_Waiting = some m.cls := findClass_of_methodNamed B.named
  have hlocks := B.notSynchronized
  obtain ⟨rs, hfn⟩ : ∃ rs, (tf_Waiting_wasSaid f3 i0) = rs := ⟨_, rfl⟩
  try rw [hfn]
  have hl := lv_entry ([.ref h0, .int i0]) (n := 2) (Nat.le_of_ble_eq_true rfl)
  rw [lg_entry_eq]
  generalize (lg_sl ([.ref h0, .int i0]) ++ List.replicate (2 - (lg_sl ([.ref h0, .int i0])).length) Slot.unset).toArray = ls at hl ⊢
  have hl : lv_has ls 2 [(0, .ref h0), (1, .int i0)] := hl
  unfold tf_Waiting_wasSaid at hfn
  refine lv_aload_n hx hb dWaiting_wasSaid_0 rfl (lv_at hl 0 rfl) ?_
  refine va_get (D := (dC, dI)) (ci := 9) (v := .ref a3) (C := R_Waiting) (T := T_Waiting) (N := 4) hx hb htg in_Waiting hown hK hP 0 rfl rfl 2 (by decide) (htg _ wd_250) (fun _ h9 => h9) rfl dWaiting_wasSaid_1 ?_
  refine lv_iload_n hx hb dWaiting_wasSaid_4 rfl (lv_at hl 1 rfl) ?_
  refine rd_SN (As := [.ref a3, .int i0]) (rest := []) ⟨hx, hb, hml, hown, htg⟩ (c_PK_at l dC dI cA a3 64 f3 i0 (by decide)) (cw_SN htg hN wn_456 qPK_at iPK_at kPK_at pPK_at rfl rfl ⟨Nat.le_of_ble_eq_true rfl, Nat.le_of_ble_eq_true rfl⟩) hN (hP.sub [3] rfl) hK rfl hl.1 rfl (Nat.le_of_ble_eq_true rfl) dWaiting_wasSaid_5 ⟨Nat.le_of_ble_eq_true rfl, Nat.le_of_ble_eq_true rfl⟩ ?_
  refine lv_iconst (v := 1) hx hb dWaiting_wasSaid_8 (by decide) ?_
  refine lv_icmp_ne (tgt := 16) hx hb dWaiting_wasSaid_9 (by decide) (fun c_1 => ?_) (fun c_1 => ?_)
  · rw [if_neg c_1] at hfn
    refine lv_iconst (v := 0) hx hb dWaiting_wasSaid_16 (by decide) ?_
    subst hfn
    exact W.zret hx hb hr rfl (fun t ht hW => ⟨rfl, ht⟩) (fun _ h => by cases h) dWaiting_wasSaid_17
  · rw [if_pos c_1] at hfn
    refine lv_iconst (v := 1) hx hb dWaiting_wasSaid_12 (by decide) ?_
    refine lv_goto (tgt := 17) hx hb dWaiting_wasSaid_13 (by decide) ?_
    subst hfn
    exact W.zret hx hb hr rfl (fun t ht hW => ⟨rfl, ht⟩) (fun _ h => by cases h) dWaiting_wasSaid_17
def of_Waiting_remove_b15 : Nat → Int32 → Int32 → (Nat → Int32) → (Nat → Int32) → (Nat → Int32) → Option (Int32 × (Nat → Int32) × (Nat → Int32) × (Nat → Int32))
  | 0, _, _, _, _, _ => none
  | n + 1, ud, v2_b15, w_a1_a_b15, w_a2_a_b15, w_a3_a_b15 => (if (ud - 1) ≤ v2_b15 then some ((ud - 1), w_a1_a_b15, w_a2_a_b15, w_a3_a_b15) else of_Waiting_remove_b15 n ud (v2_b15 + 1) ((tf_Waiting_fill w_a1_a_b15 w_a2_a_b15 w_a3_a_b15 v2_b15 (tf_PK_at 64 w_a1_a_b15 (v2_b15 + 1)) (tf_PK_at 64 w_a2_a_b15 (v2_b15 + 1)) (tf_PK_at 64 w_a3_a_b15 (v2_b15 + 1))).1) ((tf_Waiting_fill w_a1_a_b15 w_a2_a_b15 w_a3_a_b15 v2_b15 (tf_PK_at 64 w_a1_a_b15 (v2_b15 + 1)) (tf_PK_at 64 w_a2_a_b15 (v2_b15 + 1)) (tf_PK_at 64 w_a3_a_b15 (v2_b15 + 1))).2.1) ((tf_Waiting_fill w_a1_a_b15 w_a2_a_b15 w_a3_a_b15 v2_b15 (tf_PK_at 64 w_a1_a_b15 (v2_b15 + 1)) (tf_PK_at 64 w_a2_a_b15 (v2_b15 + 1)) (tf_PK_at 64 w_a3_a_b15 (v2_b15 + 1))).2.2))
def of_Waiting_remove_b12 (ud : Int32) (f1 : Nat → Int32) (f2 : Nat → Int32) (f3 : Nat → Int32) : Option (Int32 × (Nat → Int32) × (Nat → Int32) × (Nat → Int32)) := some (ud, f1, f2, f3)
def of_Waiting_remove (ud : Int32) (f1 : Nat → Int32) (f2 : Nat → Int32) (f3 : Nat → Int32) (i0 : Int32) : Option (Int32 × (Nat → Int32) × (Nat → Int32) × (Nat → Int32)) := (if i0 < 0 then of_Waiting_remove_b12 ud f1 f2 f3 else (if i0 < ud then of_Waiting_remove_b15 4096 ud i0 f1 f2 f3 else of_Waiting_remove_b12 ud f1 f2 f3))
set_option maxHeartbeats 4000000 in
set_option maxRecDepth 100000 in
theorem c_Waiting_remove (l : Launch) (dC : Nat → ClassId) (dI : Nat → Nat → Nat) (cA : ClassId × ClassId × ClassId) (zz : Nat) (h0 : Nat) (a1 : Nat) (a2 : Nat) (a3 : Nat) (ud : Int32) (f1 : Nat → Int32) (f2 : Nat → Int32) (f3 : Nat → Int32) (i0 : Int32) (rs0 : Int32) (rs1 : (Nat → Int32)) (rs2 : (Nat → Int32)) (rs3 : (Nat → Int32)) (hfn : (of_Waiting_remove ud f1 f2 f3 i0) = some (rs0, rs1, rs2, rs3)) : Met l yWaiting_remove wWaiting_remove ({ frames := 2, cells := 0, slots := 0, locals := 46 }) (va_Pc [.ref h0, .int i0] (Wr (dC, dI) cA zz [(h0, .inr (9, [.ref a1, .ref a2, .ref a3, .int ud])), (a1, .inl (cA.1, 64, .inl f1)), (a2, .inl (cA.1, 64, .inl f2)), (a3, .inl (cA.1, 64, .inl f3))])) (va_Qv (fun w9 => w9 = [(h0, .inr (9, [.ref a1, .ref a2, .ref a3, .int rs0])), (a1, .inl (cA.1, 64, .inl rs1)), (a2, .inl (cA.1, 64, .inl rs2)), (a3, .inl (cA.1, 64, .inl rs3))]) (At (dC, dI) cA (va_A [(h0, .inr (9, [.ref a1, .ref a2, .ref a3, .int ud])), (a1, .inl (cA.1, 64, .inl f1)), (a2, .inl (cA.1, 64, .inl f2)), (a3, .inl (cA.1, 64, .inl f3))] zz)) (va_A [(h0, .inr (9, [.ref a1, .ref a2, .ref a3, .int ud])), (a1, .inl (cA.1, 64, .inl f1)), (a2, .inl (cA.1, 64, .inl f2)), (a3, .inl (cA.1, 64, .inl f3))] zz)) 0 0 (va_A [(h0, .inr (9, [.ref a1, .ref a2, .ref a3, .int ud])), (a1, .inl (cA.1, 64, .inl f1)), (a2, .inl (cA.1, 64, .inl f2)), (a3, .inl (cA.1, 64, .inl f3))] zz) := by
  refine Met.ofW (cc := cWaiting_remove) (maxL := 3) (ret := none) (by decide) rfl ?_
  intro p e s m args below meth c s₁ B hml hv
  obtain ⟨rfl, hsz, hN, hP, hK, hD0⟩ := hv
  have hx := B.exec
  have hb := B.bytes
  have hr := B.returns
  have hts := atoms_spec (ws := wWaiting_remove) B.pre
  have htg : ∀ w ∈ GW, w.before _ s = true := fun w h => hts w (List.mem_cons_of_mem _ h)
  have hown : s.vm.findClass R_Waiting = some m.cls := findClass_of_methodNamed B.named
  have hlocks := B.notSynchronized
  subst hsz
  have hD := hD0.self (sz := s.heap.size)
  generalize hAe : va_A [(h0, .inr (9, [.ref a1, .ref a2, .ref a3, .int ud])), (a1, .inl (cA.1, 64, .inl f1)), (a2, .inl (cA.1, 64, .inl f2)), (a3, .inl (cA.1, 64, .inl f3))] s.heap.size = A at hD ⊢
  have hA : ∀ q : Nat, s.heap.size ≤ q → A q := fun q h => by rw [← hAe]; exact Or.inr h
  have hS : va_S A s.heap s.heap [] := va_S.rf
  have hP : va_P (dC, dI) vwCl [(h0, .inr (9, [.ref a1, .ref a2, .ref a3, .int ud])), (a1, .inl (cA.1, 64, .inl f1)), (a2, .inl (cA.1, 64, .inl f2)), (a3, .inl (cA.1, 64, .inl f3))] s.heap := hP
  have blk15 : ∀ n : Nat, ∀ (rs0 : Int32) (rs1 : (Nat → Int32)) (rs2 : (Nat → Int32)) (rs3 : (Nat → Int32)) (v2_b15 : Int32) (w_a1_a_b15 : Nat → Int32) (w_a2_a_b15 : Nat → Int32) (w_a3_a_b15 : Nat → Int32) (H : Heap) (locs : List Loc) (ls : Array Slot), of_Waiting_remove_b15 n ud v2_b15 w_a1_a_b15 w_a2_a_b15 w_a3_a_b15 = some (rs0, rs1, rs2, rs3) → va_P (dC, dI) vwCl [(h0, .inr (9, [.ref a1, .ref a2, .ref a3, .int ud])), (a1, .inl (cA.1, 64, .inl w_a1_a_b15)), (a2, .inl (cA.1, 64, .inl w_a2_a_b15)), (a3, .inl (cA.1, 64, .inl w_a3_a_b15))] H → va_D A [(h0, .inr (9, [.ref a1, .ref a2, .ref a3, .int ud])), (a1, .inl (cA.1, 64, .inl w_a1_a_b15)), (a2, .inl (cA.1, 64, .inl w_a2_a_b15)), (a3, .inl (cA.1, 64, .inl w_a3_a_b15))] → va_S A s.heap H locs → lv_has ls 3 [(0, .ref h0), (2, .int v2_b15)] → W p l e (headSpec wWaiting_remove ({ frames := 2, cells := 0, slots := 0, locals := 46 })).room s m ([.ref h0, .int i0] : List Value).toArray below meth c H locs 0 0 (MQ below (va_Qv (fun w9 => w9 = [(h0, .inr (9, [.ref a1, .ref a2, .ref a3, .int rs0])), (a1, .inl (cA.1, 64, .inl rs1)), (a2, .inl (cA.1, 64, .inl rs2)), (a3, .inl (cA.1, 64, .inl rs3))]) (At (dC, dI) cA A) A) ([.ref h0, .int i0] : List Value).toArray s 0 0 A) (F0 m 15 ls []) := by
    intro n
    induction n with
    | zero =>
      intro rs0 rs1 rs2 rs3 v2_b15 w_a1_a_b15 w_a2_a_b15 w_a3_a_b15 H locs ls hfn hP hD hS hl
      exact absurd hfn (by intro h; cases h)
    | succ n ih =>
      intro rs0 rs1 rs2 rs3 v2_b15 w_a1_a_b15 w_a2_a_b15 w_a3_a_b15 H locs ls hfn hP hD hS hl
      unfold of_Waiting_remove_b15 at hfn
      refine lv_iload_n hx hb dWaiting_remove_15 rfl (lv_at hl 1 rfl) ?_
      refine lv_aload_n hx hb dWaiting_remove_16 rfl (lv_at hl 0 rfl) ?_
      refine va_get (D := (dC, dI)) (ci := 9) (v := .int ud) (C := R_Waiting) (T := T_Waiting) (N := 4) hx hb htg in_Waiting hown hK hP 0 rfl rfl 3 (by decide) (htg _ wd_251) (fun _ h9 => h9) rfl dWaiting_remove_17 ?_
      refine lv_iconst (v := 1) hx hb dWaiting_remove_20 (by decide) ?_
      refine lv_isub hx hb dWaiting_remove_21 ?_
      refine lv_icmp_ge (tgt := 66) hx hb dWaiting_remove_22 (by decide) (fun c_3 => ?_) (fun c_3 => ?_)
      · rw [if_pos c_3] at hfn
        refine lv_aload_n hx hb dWaiting_remove_66 rfl (lv_at hl 0 rfl) ?_
        refine lv_dup hx hb dWaiting_remove_67 rfl ?_
        refine va_get (D := (dC, dI)) (ci := 9) (v := .int ud) (C := R_Waiting) (T := T_Waiting) (N := 4) hx hb htg in_Waiting hown hK hP 0 rfl rfl 3 (by decide) (htg _ wd_251) (fun _ h9 => h9) rfl dWaiting_remove_68 ?_
        refine lv_iconst (v := 1) hx hb dWaiting_remove_71 (by decide) ?_
        refine lv_isub hx hb dWaiting_remove_72 ?_
        refine va_put (D := (dC, dI)) (ci := 9) (v := .int (ud - 1)) (ty := .int) (C := R_Waiting) (T := T_Waiting) (N := 4) hx hb htg in_Waiting ty_Waiting tk_Waiting nm_Waiting hown hK hP hD hS 0 rfl rfl 3 (by decide) (htg _ wd_251) (fun _ h9 => h9) rfl (by decide +kernel) rfl rfl (Nat.le_of_ble_eq_true rfl) dWaiting_remove_73 (fun H locs hP hD hS => ?_)
        have hP : va_P (dC, dI) vwCl [(h0, .inr (9, [.ref a1, .ref a2, .ref a3, .int (ud - 1)])), (a1, .inl (cA.1, 64, .inl w_a1_a_b15)), (a2, .inl (cA.1, 64, .inl w_a2_a_b15)), (a3, .inl (cA.1, 64, .inl w_a3_a_b15))] H := hP
        have hD : va_D A [(h0, .inr (9, [.ref a1, .ref a2, .ref a3, .int (ud - 1)])), (a1, .inl (cA.1, 64, .inl w_a1_a_b15)), (a2, .inl (cA.1, 64, .inl w_a2_a_b15)), (a3, .inl (cA.1, 64, .inl w_a3_a_b15))] := hD
        replace hfn := Option.some.inj hfn
        obtain ⟨e9, hf_0⟩ := Prod.mk.inj hfn; clear hfn; subst e9
        obtain ⟨e9, hf_1⟩ := Prod.mk.inj hf_0; clear hf_0; subst e9
        obtain ⟨e9, hf_2⟩ := Prod.mk.inj hf_1; clear hf_1; subst e9
        subst hf_2
        exact W.vret hx hb hr (fun t ht hW => ⟨⟨_, rfl, rfl, ⟨by rw [ht]; exact hP.sub [0, 1, 2, 3] rfl, va_K.moved hW.alike hK, hD.sub [0, 1, 2, 3] (by decide) rfl⟩⟩, hS.F ht⟩) hS.2.2 dWaiting_remove_76
      · rw [if_neg c_3] at hfn
        refine lv_aload_n hx hb dWaiting_remove_25 rfl (lv_at hl 0 rfl) ?_
        refine lv_iload_n hx hb dWaiting_remove_26 rfl (lv_at hl 1 rfl) ?_
        refine lv_aload_n hx hb dWaiting_remove_27 rfl (lv_at hl 0 rfl) ?_
        refine va_get (D := (dC, dI)) (ci := 9) (v := .ref a1) (C := R_Waiting) (T := T_Waiting) (N := 4) hx hb htg in_Waiting hown hK hP 0 rfl rfl 0 (by decide) (htg _ wd_248) (fun _ h9 => h9) rfl dWaiting_remove_28 ?_
        refine lv_iload_n hx hb dWaiting_remove_31 rfl (lv_at hl 1 rfl) ?_
        refine lv_iconst (v := 1) hx hb dWaiting_remove_32 (by decide) ?_
        refine lv_iadd hx hb dWaiting_remove_33 ?_
        refine rd_SN (As := [.ref a1, .int (v2_b15 + 1)]) (rest := [.int v2_b15, .ref h0]) ⟨hx, hb, hml, hown, htg⟩ (c_PK_at l dC dI cA a1 64 w_a1_a_b15 (v2_b15 + 1) (by decide)) (cw_SN htg hN wn_456 qPK_at iPK_at kPK_at pPK_at rfl rfl ⟨Nat.le_of_ble_eq_true rfl, Nat.le_of_ble_eq_true rfl⟩) hN (hP.sub [1] rfl) hK rfl hl.1 rfl (Nat.le_of_ble_eq_true rfl) dWaiting_remove_34 ⟨Nat.le_of_ble_eq_true rfl, Nat.le_of_ble_eq_true rfl⟩ ?_
        refine lv_aload_n hx hb dWaiting_remove_37 rfl (lv_at hl 0 rfl) ?_
        refine va_get (D := (dC, dI)) (ci := 9) (v := .ref a2) (C := R_Waiting) (T := T_Waiting) (N := 4) hx hb htg in_Waiting hown hK hP 0 rfl rfl 1 (by decide) (htg _ wd_249) (fun _ h9 => h9) rfl dWaiting_remove_38 ?_
        refine lv_iload_n hx hb dWaiting_remove_41 rfl (lv_at hl 1 rfl) ?_
        refine lv_iconst (v := 1) hx hb dWaiting_remove_42 (by decide) ?_
        refine lv_iadd hx hb dWaiting_remove_43 ?_
        refine rd_SN (As := [.ref a2, .int (v2_b15 + 1)]) (rest := [.int (tf_PK_at 64 w_a1_a_b15 (v2_b15 + 1)), .int v2_b15, .ref h0]) ⟨hx, hb, hml, hown, htg⟩ (c_PK_at l dC dI cA a2 64 w_a2_a_b15 (v2_b15 + 1) (by decide)) (cw_SN htg hN wn_456 qPK_at iPK_at kPK_at pPK_at rfl rfl ⟨Nat.le_of_ble_eq_true rfl, Nat.le_of_ble_eq_true rfl⟩) hN (hP.sub [2] rfl) hK rfl hl.1 rfl (Nat.le_of_ble_eq_true rfl) dWaiting_remove_44 ⟨Nat.le_of_ble_eq_true rfl, Nat.le_of_ble_eq_true rfl⟩ ?_
        refine lv_aload_n hx hb dWaiting_remove_47 rfl (lv_at hl 0 rfl) ?_
        refine va_get (D := (dC, dI)) (ci := 9) (v := .ref a3) (C := R_Waiting) (T := T_Waiting) (N := 4) hx hb htg in_Waiting hown hK hP 0 rfl rfl 2 (by decide) (htg _ wd_250) (fun _ h9 => h9) rfl dWaiting_remove_48 ?_
        refine lv_iload_n hx hb dWaiting_remove_51 rfl (lv_at hl 1 rfl) ?_
        refine lv_iconst (v := 1) hx hb dWaiting_remove_52 (by decide) ?_
        refine lv_iadd hx hb dWaiting_remove_53 ?_
        refine rd_SN (As := [.ref a3, .int (v2_b15 + 1)]) (rest := [.int (tf_PK_at 64 w_a2_a_b15 (v2_b15 + 1)), .int (tf_PK_at 64 w_a1_a_b15 (v2_b15 + 1)), .int v2_b15, .ref h0]) ⟨hx, hb, hml, hown, htg⟩ (c_PK_at l dC dI cA a3 64 w_a3_a_b15 (v2_b15 + 1) (by decide)) (cw_SN htg hN wn_456 qPK_at iPK_at kPK_at pPK_at rfl rfl ⟨Nat.le_of_ble_eq_true rfl, Nat.le_of_ble_eq_true rfl⟩) hN (hP.sub [3] rfl) hK rfl hl.1 rfl (Nat.le_of_ble_eq_true rfl) dWaiting_remove_54 ⟨Nat.le_of_ble_eq_true rfl, Nat.le_of_ble_eq_true rfl⟩ ?_
        refine wr_Vv (wr := []) (As := [.int v2_b15, .int (tf_PK_at 64 w_a1_a_b15 (v2_b15 + 1)), .int (tf_PK_at 64 w_a2_a_b15 (v2_b15 + 1)), .int (tf_PK_at 64 w_a3_a_b15 (v2_b15 + 1))]) (rest := []) ⟨hx, hb, hml, hown, htg⟩ (c_Waiting_fill l dC dI cA _ h0 a1 a2 a3 ud w_a1_a_b15 w_a2_a_b15 w_a3_a_b15 v2_b15 (tf_PK_at 64 w_a1_a_b15 (v2_b15 + 1)) (tf_PK_at 64 w_a2_a_b15 (v2_b15 + 1)) (tf_PK_at 64 w_a3_a_b15 (v2_b15 + 1))) (cw_V htg wd_438 ws_10 qWaiting_fill iWaiting_fill kWaiting_fill pWaiting_fill rfl rfl ⟨Nat.le_of_ble_eq_true rfl, Nat.le_of_ble_eq_true rfl⟩) (va_recv hK hP (ci := 9) (q0 := 0) rfl rfl) hN hP hD hS hA hK [0, 1, 2, 3] [] rfl rfl (by decide) (by decide) (by decide) rfl hl.1 rfl (Nat.le_of_ble_eq_true rfl) dWaiting_remove_57 ⟨Nat.le_of_ble_eq_true rfl, Nat.le_of_ble_eq_true rfl⟩ (fun H locs hP hD hS => ?_)
        have hP : va_P (dC, dI) vwCl [(h0, .inr (9, [.ref a1, .ref a2, .ref a3, .int ud])), (a1, .inl (cA.1, 64, .inl ((tf_Waiting_fill w_a1_a_b15 w_a2_a_b15 w_a3_a_b15 v2_b15 (tf_PK_at 64 w_a1_a_b15 (v2_b15 + 1)) (tf_PK_at 64 w_a2_a_b15 (v2_b15 + 1)) (tf_PK_at 64 w_a3_a_b15 (v2_b15 + 1))).1))), (a2, .inl (cA.1, 64, .inl ((tf_Waiting_fill w_a1_a_b15 w_a2_a_b15 w_a3_a_b15 v2_b15 (tf_PK_at 64 w_a1_a_b15 (v2_b15 + 1)) (tf_PK_at 64 w_a2_a_b15 (v2_b15 + 1)) (tf_PK_at 64 w_a3_a_b15 (v2_b15 + 1))).2.1))), (a3, .inl (cA.1, 64, .inl ((tf_Waiting_fill w_a1_a_b15 w_a2_a_b15 w_a3_a_b15 v2_b15 (tf_PK_at 64 w_a1_a_b15 (v2_b15 + 1)) (tf_PK_at 64 w_a2_a_b15 (v2_b15 + 1)) (tf_PK_at 64 w_a3_a_b15 (v2_b15 + 1))).2.2)))] H := hP
        have hD : va_D A [(h0, .inr (9, [.ref a1, .ref a2, .ref a3, .int ud])), (a1, .inl (cA.1, 64, .inl ((tf_Waiting_fill w_a1_a_b15 w_a2_a_b15 w_a3_a_b15 v2_b15 (tf_PK_at 64 w_a1_a_b15 (v2_b15 + 1)) (tf_PK_at 64 w_a2_a_b15 (v2_b15 + 1)) (tf_PK_at 64 w_a3_a_b15 (v2_b15 + 1))).1))), (a2, .inl (cA.1, 64, .inl ((tf_Waiting_fill w_a1_a_b15 w_a2_a_b15 w_a3_a_b15 v2_b15 (tf_PK_at 64 w_a1_a_b15 (v2_b15 + 1)) (tf_PK_at 64 w_a2_a_b15 (v2_b15 + 1)) (tf_PK_at 64 w_a3_a_b15 (v2_b15 + 1))).2.1))), (a3, .inl (cA.1, 64, .inl ((tf_Waiting_fill w_a1_a_b15 w_a2_a_b15 w_a3_a_b15 v2_b15 (tf_PK_at 64 w_a1_a_b15 (v2_b15 + 1)) (tf_PK_at 64 w_a2_a_b15 (v2_b15 + 1)) (tf_PK_at 64 w_a3_a_b15 (v2_b15 + 1))).2.2)))] := hD
        refine lv_iinc (v := (v2_b15 + 1)) (lv' := [(2, .int (v2_b15 + 1)), (0, .ref h0)]) hx hb dWaiting_remove_60 hl (k := 1) rfl rfl (by decide) rfl (fun ls hl => ?_)
        refine lv_goto (tgt := 15) hx hb dWaiting_remove_63 (by decide) ?_
        exact ih _ _ _ _ (v2_b15 + 1) ((tf_Waiting_fill w_a1_a_b15 w_a2_a_b15 w_a3_a_b15 v2_b15 (tf_PK_at 64 w_a1_a_b15 (v2_b15 + 1)) (tf_PK_at 64 w_a2_a_b15 (v2_b15 + 1)) (tf_PK_at 64 w_a3_a_b15 (v2_b15 + 1))).1) ((tf_Waiting_fill w_a1_a_b15 w_a2_a_b15 w_a3_a_b15 v2_b15 (tf_PK_at 64 w_a1_a_b15 (v2_b15 + 1)) (tf_PK_at 64 w_a2_a_b15 (v2_b15 + 1)) (tf_PK_at 64 w_a3_a_b15 (v2_b15 + 1))).2.1) ((tf_Waiting_fill w_a1_a_b15 w_a2_a_b15 w_a3_a_b15 v2_b15 (tf_PK_at 64 w_a1_a_b15 (v2_b15 + 1)) (tf_PK_at 64 w_a2_a_b15 (v2_b15 + 1)) (tf_PK_at 64 w_a3_a_b15 (v2_b15 + 1))).2.2) _ _ ls hfn (hP.sub [0, 1, 2, 3] rfl) (hD.sub [0, 1, 2, 3] (by decide) rfl) hS (lv_sub hl [1, 0] rfl)
  have blk12 : ∀ (rs0 : Int32) (rs1 : (Nat → Int32)) (rs2 : (Nat → Int32)) (rs3 : (Nat → Int32)) (H : Heap) (locs : List Loc) (ls : Array Slot), of_Waiting_remove_b12 ud f1 f2 f3 = some (rs0, rs1, rs2, rs3) → va_P (dC, dI) vwCl [(h0, .inr (9, [.ref a1, .ref a2, .ref a3, .int ud])), (a1, .inl (cA.1, 64, .inl f1)), (a2, .inl (cA.1, 64, .inl f2)), (a3, .inl (cA.1, 64, .inl f3))] H → va_D A [(h0, .inr (9, [.ref a1, .ref a2, .ref a3, .int ud])), (a1, .inl (cA.1, 64, .inl f1)), (a2, .inl (cA.1, 64, .inl f2)), (a3, .inl (cA.1, 64, .inl f3))] → va_S A s.heap H locs → lv_has ls 3 [] → W p l e (headSpec wWaiting_remove ({ frames := 2, cells := 0, slots := 0, locals := 46 })).room s m ([.ref h0, .int i0] : List Value).toArray below meth c H locs 0 0 (MQ below (va_Qv (fun w9 => w9 = [(h0, .inr (9, [.ref a1, .ref a2, .ref a3, .int rs0])), (a1, .inl (cA.1, 64, .inl rs1)), (a2, .inl (cA.1, 64, .inl rs2)), (a3, .inl (cA.1, 64, .inl rs3))]) (At (dC, dI) cA A) A) ([.ref h0, .int i0] : List Value).toArray s 0 0 A) (F0 m 12 ls []) := by
    intro rs0 rs1 rs2 rs3 H locs ls hfn hP hD hS hl
    unfold of_Waiting_remove_b12 at hfn
    replace hfn := Option.some.inj hfn
    obtain ⟨e9, hf_0⟩ := Prod.mk.inj hfn; clear hfn; subst e9
    obtain ⟨e9, hf_1⟩ := Prod.mk.inj hf_0; clear hf_0; subst e9
    obtain ⟨e9, hf_2⟩ := Prod.mk.inj hf_1; clear hf_1; subst e9
    subst hf_2
    exact W.vret hx hb hr (fun t ht hW => ⟨⟨_, rfl, rfl, ⟨by rw [ht]; exact hP.sub [0, 1, 2, 3] rfl, va_K.moved hW.alike hK, hD.sub [0, 1, 2, 3] (by decide) rfl⟩⟩, hS.F ht⟩) hS.2.2 dWaiting_remove_12
  have hl := lv_entry ([.ref h0, .int i0]) (n := 3) (Nat.le_of_ble_eq_true rfl)
  rw [lg_entry_eq]
  generalize (lg_sl ([.ref h0, .int i0]) ++ List.replicate (3 - (lg_sl ([.ref h0, .int i0])).length) Slot.unset).toArray = ls at hl ⊢
  have hl : lv_has ls 3 [(0, .ref h0), (1, .int i0)] := hl
  unfold of_Waiting_remove at hfn
  refine lv_iload_n hx hb dWaiting_remove_0 rfl (lv_at hl 1 rfl) ?_
  refine lv_if_lt (tgt := 12) hx hb dWaiting_remove_1 (by decide) (fun c_1 => ?_) (fun c_1 => ?_)
  · rw [if_pos c_1] at hfn
    exact blk12 _ _ _ _ _ _ ls hfn (hP.sub [0, 1, 2, 3] rfl) (hD.sub [0, 1, 2, 3] (by decide) rfl) hS (lv_sub hl [] rfl)
  · rw [if_neg c_1] at hfn
    refine lv_iload_n hx hb dWaiting_remove_4 rfl (lv_at hl 1 rfl) ?_
    refine lv_aload_n hx hb dWaiting_remove_5 rfl (lv_at hl 0 rfl) ?_
    refine va_get (D := (dC, dI)) (ci := 9) (v := .int ud) (C := R_Waiting) (T := T_Waiting) (N := 4) hx hb htg in_Waiting hown hK hP 0 rfl rfl 3 (by decide) (htg _ wd_251) (fun _ h9 => h9) rfl dWaiting_remove_6 ?_
    refine lv_icmp_lt (tgt := 13) hx hb dWaiting_remove_9 (by decide) (fun c_2 => ?_) (fun c_2 => ?_)
    · rw [if_pos c_2] at hfn
      refine lv_iload_n hx hb dWaiting_remove_13 rfl (lv_at hl 1 rfl) ?_
      refine lv_istore_n (lv' := [(2, .int i0), (0, .ref h0), (1, .int i0)]) hx hb dWaiting_remove_14 rfl hl (by decide) rfl (fun ls hl => ?_)
      exact blk15 4096 _ _ _ _ i0 f1 f2 f3 _ _ ls hfn (hP.sub [0, 1, 2, 3] rfl) (hD.sub [0, 1, 2, 3] (by decide) rfl) hS (lv_sub hl [1, 0] rfl)
    · rw [if_neg c_2] at hfn
      exact blk12 _ _ _ _ _ _ ls hfn (hP.sub [0, 1, 2, 3] rfl) (hD.sub [0, 1, 2, 3] (by decide) rfl) hS (lv_sub hl [] rfl)
def tf_Waiting_lose : Int32 := (0)
set_option maxHeartbeats 4000000 in
set_option maxRecDepth 100000 in
theorem c_Waiting_lose (l : Launch) (dC : Nat → ClassId) (dI : Nat → Nat → Nat) (cA : ClassId × ClassId × ClassId) (zz : Nat) (h0 : Nat) (a1 : Nat) (a2 : Nat) (a3 : Nat) (ud : Int32) (f1 : Nat → Int32) (f2 : Nat → Int32) (f3 : Nat → Int32) : Met l yWaiting_lose wWaiting_lose ({ frames := 0, cells := 0, slots := 0, locals := 0 }) (va_Pc [.ref h0] (Wr (dC, dI) cA zz [(h0, .inr (9, [.ref a1, .ref a2, .ref a3, .int ud])), (a1, .inl (cA.1, 64, .inl f1)), (a2, .inl (cA.1, 64, .inl f2)), (a3, .inl (cA.1, 64, .inl f3))])) (va_Qv (fun w9 => w9 = [(h0, .inr (9, [.ref a1, .ref a2, .ref a3, .int tf_Waiting_lose])), (a1, .inl (cA.1, 64, .inl f1)), (a2, .inl (cA.1, 64, .inl f2)), (a3, .inl (cA.1, 64, .inl f3))]) (At (dC, dI) cA (va_A [(h0, .inr (9, [.ref a1, .ref a2, .ref a3, .int ud])), (a1, .inl (cA.1, 64, .inl f1)), (a2, .inl (cA.1, 64, .inl f2)), (a3, .inl (cA.1, 64, .inl f3))] zz)) (va_A [(h0, .inr (9, [.ref a1, .ref a2, .ref a3, .int ud])), (a1, .inl (cA.1, 64, .inl f1)), (a2, .inl (cA.1, 64, .inl f2)), (a3, .inl (cA.1, 64, .inl f3))] zz)) 0 0 (va_A [(h0, .inr (9, [.ref a1, .ref a2, .ref a3, .int ud])), (a1, .inl (cA.1, 64, .inl f1)), (a2, .inl (cA.1, 64, .inl f2)), (a3, .inl (cA.1, 64, .inl f3))] zz) := by
  refine Met.ofW (cc := cWaiting_lose) (maxL := 1) (ret := none) (by decide) rfl ?_
  intro p e s m args below meth c s₁ B hml hv
  obtain ⟨rfl, hsz, hN, hP, hK, hD0⟩ := hv
  have hx := B.exec
  have hb := B.bytes
  have hr := B.returns
  have hts := atoms_spec (ws := wWaiting_lose) B.pre
  have htg : ∀ w ∈ GW, w.before _ s = true := fun w h => hts w (List.mem_cons_of_mem _ h)
  have hown : s.vm.findClass R_Waiting = some m.cls := findClass_of_methodNamed B.named
  have hlocks := B.notSynchronized
  subst hsz
  have hD := hD0.self (sz := s.heap.size)
  generalize hAe : va_A [(h0, .inr (9, [.ref a1, .ref a2, .ref a3, .int ud])), (a1, .inl (cA.1, 64, .inl f1)), (a2, .inl (cA.1, 64, .inl f2)), (a3, .inl (cA.1, 64, .inl f3))] s.heap.size = A at hD ⊢
  have hA : ∀ q : Nat, s.heap.size ≤ q → A q := fun q h => by rw [← hAe]; exact Or.inr h
  have hS : va_S A s.heap s.heap [] := va_S.rf
  have hP : va_P (dC, dI) vwCl [(h0, .inr (9, [.ref a1, .ref a2, .ref a3, .int ud])), (a1, .inl (cA.1, 64, .inl f1)), (a2, .inl (cA.1, 64, .inl f2)), (a3, .inl (cA.1, 64, .inl f3))] s.heap := hP
  obtain ⟨rs, hfn⟩ : ∃ rs, tf_Waiting_lose = rs := ⟨_, rfl⟩
  try rw [hfn]
  have hl := lv_entry ([.ref h0]) (n := 1) (Nat.le_of_ble_eq_true rfl)
  rw [lg_entry_eq]
  generalize (lg_sl ([.ref h0]) ++ List.replicate (1 - (lg_sl ([.ref h0])).length) Slot.unset).toArray = ls at hl ⊢
  have hl : lv_has ls 1 [(0, .ref h0)] := hl
  unfold tf_Waiting_lose at hfn
  refine lv_aload_n hx hb dWaiting_lose_0 rfl (lv_at hl 0 rfl) ?_
  refine lv_iconst (v := 0) hx hb dWaiting_lose_1 (by decide) ?_
  refine va_put (D := (dC, dI)) (ci := 9) (v := .int 0) (ty := .int) (C := R_Waiting) (T := T_Waiting) (N := 4) hx hb htg in_Waiting ty_Waiting tk_Waiting nm_Waiting hown hK hP hD hS 0 rfl rfl 3 (by decide) (htg _ wd_251) (fun _ h9 => h9) rfl (by decide +kernel) rfl rfl (Nat.le_of_ble_eq_true rfl) dWaiting_lose_2 (fun H locs hP hD hS => ?_)
  have hP : va_P (dC, dI) vwCl [(h0, .inr (9, [.ref a1, .ref a2, .ref a3, .int 0])), (a1, .inl (cA.1, 64, .inl f1)), (a2, .inl (cA.1, 64, .inl f2)), (a3, .inl (cA.1, 64, .inl f3))] H := hP
  have hD : va_D A [(h0, .inr (9, [.ref a1, .ref a2, .ref a3, .int 0])), (a1, .inl (cA.1, 64, .inl f1)), (a2, .inl (cA.1, 64, .inl f2)), (a3, .inl (cA.1, 64, .inl f3))] := hD
  subst hfn
  exact W.vret hx hb hr (fun t ht hW => ⟨⟨_, rfl, rfl, ⟨by rw [ht]; exact hP.sub [0, 1, 2, 3] rfl, va_K.moved hW.alike hK, hD.sub [0, 1, 2, 3] (by decide) rfl⟩⟩, hS.F ht⟩) hS.2.2 dWaiting_lose_5
