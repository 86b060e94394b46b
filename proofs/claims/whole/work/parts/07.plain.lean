def tf_Last_plainRow (zs0 : Int32) (mk0 : Int32) (pl : Int32) : Int32 := (((pl ^^^ (us pl zs0)) &&& mk0))
set_option maxHeartbeats 4000000 in
set_option maxRecDepth 100000 in
theorem c_Last_plainRow (l : Launch) (dC : Nat → ClassId) (dI : Nat → Nat → Nat) (cA : ClassId × ClassId × ClassId) (h0 : Nat) (a1 : Nat) (zs0 : Int32) (rw0 : Int32) (mk0 : Int32) (n1 : Nat) (f1 : Nat → Int32) (pl : Int32) (hn1 : n1 < 2147483648) : Met l yKind_plainRow wKind_plainRow ({ frames := 0, cells := 0, slots := 0, locals := 0 }) (va_Pc [.ref h0, .int pl] (Rd (dC, dI) cA [(h0, .inr (4, [.int zs0, .int rw0, .int mk0, .ref a1])), (a1, .inl (cA.1, n1, .inl f1))])) (QcRead (tf_Last_plainRow zs0 mk0 pl)) 0 0 (fun _ => False) := by
  refine Met.ofW (cc := cKind_plainRow) (maxL := 2) (ret := (some .int)) (by decide) rfl ?_
  intro p e s m args below meth c s₁ B hml hv
  obtain ⟨rfl, hN, hP, hK⟩ := hv
  have hx := B.exec
  have hb := B.bytes
  have hr := B.returns
  have hts := atoms_spec (ws := wKind_plainRow) B.pre
  have htg : ∀ w ∈ GW, w.before _ s = true := fun w h => hts w (List.mem_cons_of_mem _ h)
  have hown : s.vm.findClass R_Kind = some m.cls := findClass_of_methodNamed B.named
  have hlocks := B.notSynchronized
  obtain ⟨rs, hfn⟩ : ∃ rs, (tf_Last_plainRow zs0 mk0 pl) = rs := ⟨_, rfl⟩
  try rw [hfn]
  have hl := lv_entry ([.ref h0, .int pl]) (n := 2) (Nat.le_of_ble_eq_true rfl)
  rw [lg_entry_eq]
  generalize (lg_sl ([.ref h0, .int pl]) ++ List.replicate (2 - (lg_sl ([.ref h0, .int pl])).length) Slot.unset).toArray = ls at hl ⊢
  have hl : lv_has ls 2 [(0, .ref h0), (1, .int pl)] := hl
  unfold tf_Last_plainRow at hfn
  refine lv_iload_n hx hb dKind_plainRow_0 rfl (lv_at hl 1 rfl) ?_
  refine lv_iload_n hx hb dKind_plainRow_1 rfl (lv_at hl 1 rfl) ?_
  refine lv_aload_n hx hb dKind_plainRow_2 rfl (lv_at hl 0 rfl) ?_
  refine va_get (D := (dC, dI)) (ci := 4) (v := .int zs0) (C := R_Last) (T := T_Last) (N := 4) hx hb htg in_Last hown hK hP 0 rfl rfl 0 (by decide) (htg _ wd_56) (fun _ h9 => h9) rfl dKind_plainRow_3 ?_
  refine lv_iushr (v := (us pl zs0)) hx hb dKind_plainRow_6 rfl ?_
  refine lv_ixor hx hb dKind_plainRow_7 ?_
  refine lv_aload_n hx hb dKind_plainRow_8 rfl (lv_at hl 0 rfl) ?_
  refine va_get (D := (dC, dI)) (ci := 4) (v := .int mk0) (C := R_Last) (T := T_Last) (N := 4) hx hb htg in_Last hown hK hP 0 rfl rfl 2 (by decide) (htg _ wd_78) (fun _ h9 => h9) rfl dKind_plainRow_9 ?_
  refine lv_iand hx hb dKind_plainRow_12 ?_
  subst hfn
  exact W.iret hx hb hr (fun t ht hW => ⟨rfl, ht⟩) (fun _ h => by cases h) dKind_plainRow_13
def tf_Counters_plainRow (zs0 : Int32) (mk0 : Int32) (pl : Int32) : Int32 := (((pl ^^^ (us pl zs0)) &&& mk0))
set_option maxHeartbeats 4000000 in
set_option maxRecDepth 100000 in
theorem c_Counters_plainRow (l : Launch) (dC : Nat → ClassId) (dI : Nat → Nat → Nat) (cA : ClassId × ClassId × ClassId) (h0 : Nat) (a1 : Nat) (zs0 : Int32) (rw0 : Int32) (mk0 : Int32) (mx : Bool) (n1 : Nat) (f1 : Nat → Int32) (pl : Int32) (hn1 : n1 < 2147483648) : Met l yKind_plainRow wKind_plainRow ({ frames := 0, cells := 0, slots := 0, locals := 0 }) (va_Pc [.ref h0, .int pl] (Rd (dC, dI) cA [(h0, .inr (3, [.int zs0, .int rw0, .int mk0, .int (bI mx), .ref a1])), (a1, .inl (cA.1, n1, .inl f1))])) (QcRead (tf_Counters_plainRow zs0 mk0 pl)) 0 0 (fun _ => False) := by
  refine Met.ofW (cc := cKind_plainRow) (maxL := 2) (ret := (some .int)) (by decide) rfl ?_
  intro p e s m args below meth c s₁ B hml hv
  obtain ⟨rfl, hN, hP, hK⟩ := hv
  have hx := B.exec
  have hb := B.bytes
  have hr := B.returns
  have hts := atoms_spec (ws := wKind_plainRow) B.pre
  have htg : ∀ w ∈ GW, w.before _ s = true := fun w h => hts w (List.mem_cons_of_mem _ h)
  have hown : s.vm.findClass R_Kind = some m.cls := findClass_of_methodNamed B.named
  have hlocks := B.notSynchronized
  obtain ⟨rs, hfn⟩ : ∃ rs, (tf_Counters_plainRow zs0 mk0 pl) = rs := ⟨_, rfl⟩
  try rw [hfn]
  have hl := lv_entry ([.ref h0, .int pl]) (n := 2) (Nat.le_of_ble_eq_true rfl)
  rw [lg_entry_eq]
  generalize (lg_sl ([.ref h0, .int pl]) ++ List.replicate (2 - (lg_sl ([.ref h0, .int pl])).length) Slot.unset).toArray = ls at hl ⊢
  have hl : lv_has ls 2 [(0, .ref h0), (1, .int pl)] := hl
  unfold tf_Counters_plainRow at hfn
  refine lv_iload_n hx hb dKind_plainRow_0 rfl (lv_at hl 1 rfl) ?_
  refine lv_iload_n hx hb dKind_plainRow_1 rfl (lv_at hl 1 rfl) ?_
  refine lv_aload_n hx hb dKind_plainRow_2 rfl (lv_at hl 0 rfl) ?_
  refine va_get (D := (dC, dI)) (ci := 3) (v := .int zs0) (C := R_Counters) (T := T_Counters) (N := 5) hx hb htg in_Counters hown hK hP 0 rfl rfl 0 (by decide) (htg _ wd_56) (fun _ h9 => h9) rfl dKind_plainRow_3 ?_
  refine lv_iushr (v := (us pl zs0)) hx hb dKind_plainRow_6 rfl ?_
  refine lv_ixor hx hb dKind_plainRow_7 ?_
  refine lv_aload_n hx hb dKind_plainRow_8 rfl (lv_at hl 0 rfl) ?_
  refine va_get (D := (dC, dI)) (ci := 3) (v := .int mk0) (C := R_Counters) (T := T_Counters) (N := 5) hx hb htg in_Counters hown hK hP 0 rfl rfl 2 (by decide) (htg _ wd_78) (fun _ h9 => h9) rfl dKind_plainRow_9 ?_
  refine lv_iand hx hb dKind_plainRow_12 ?_
  subst hfn
  exact W.iret hx hb hr (fun t ht hW => ⟨rfl, ht⟩) (fun _ h => by cases h) dKind_plainRow_13
def tf_Own_plainRow (zs0 : Int32) (mk0 : Int32) (pl : Int32) : Int32 := (((pl ^^^ (us pl zs0)) &&& mk0))
set_option maxHeartbeats 4000000 in
set_option maxRecDepth 100000 in
theorem c_Own_plainRow (l : Launch) (dC : Nat → ClassId) (dI : Nat → Nat → Nat) (cA : ClassId × ClassId × ClassId) (h0 : Nat) (a1 : Nat) (a2 : Nat) (zs0 : Int32) (rw0 : Int32) (mk0 : Int32) (n1 : Nat) (f1 : Nat → Int32) (n2 : Nat) (f2 : Nat → Int32) (pl : Int32) (hn1 : n1 < 2147483648) (hn2 : n2 < 2147483648) : Met l yKind_plainRow wKind_plainRow ({ frames := 0, cells := 0, slots := 0, locals := 0 }) (va_Pc [.ref h0, .int pl] (Rd (dC, dI) cA [(h0, .inr (6, [.int zs0, .int rw0, .int mk0, .ref a1, .ref a2])), (a1, .inl (cA.1, n1, .inl f1)), (a2, .inl (cA.1, n2, .inl f2))])) (QcRead (tf_Own_plainRow zs0 mk0 pl)) 0 0 (fun _ => False) := by
  refine Met.ofW (cc := cKind_plainRow) (maxL := 2) (ret := (some .int)) (by decide) rfl ?_
  intro p e s m args below meth c s₁ B hml hv
  obtain ⟨rfl, hN, hP, hK⟩ := hv
  have hx := B.exec
  have hb := B.bytes
  have hr := B.returns
  have hts := atoms_spec (ws := wKind_plainRow) B.pre
  have htg : ∀ w ∈ GW, w.before _ s = true := fun w h => hts w (List.mem_cons_of_mem _ h)
  have hown : s.vm.findClass R_Kind = some m.cls := findClass_of_methodNamed B.named
  have hlocks := B.notSynchronized
  obtain ⟨rs, hfn⟩ : ∃ rs, (tf_Own_plainRow zs0 mk0 pl) = rs := ⟨_, rfl⟩
  try rw [hfn]
  have hl := lv_entry ([.ref h0, .int pl]) (n := 2) (Nat.le_of_ble_eq_true rfl)
  rw [lg_entry_eq]
  generalize (lg_sl ([.ref h0, .int pl]) ++ List.replicate (2 - (lg_sl ([.ref h0, .int pl])).length) Slot.unset).toArray = ls at hl ⊢
  have hl : lv_has ls 2 [(0, .ref h0), (1, .int pl)] := hl
  unfold tf_Own_plainRow at hfn
  refine lv_iload_n hx hb dKind_plainRow_0 rfl (lv_at hl 1 rfl) ?_
  refine lv_iload_n hx hb dKind_plainRow_1 rfl (lv_at hl 1 rfl) ?_
  refine lv_aload_n hx hb dKind_plainRow_2 rfl (lv_at hl 0 rfl) ?_
  refine va_get (D := (dC, dI)) (ci := 6) (v := .int zs0) (C := R_Own) (T := T_Own) (N := 5) hx hb htg in_Own hown hK hP 0 rfl rfl 0 (by decide) (htg _ wd_56) (fun _ h9 => h9) rfl dKind_plainRow_3 ?_
  refine lv_iushr (v := (us pl zs0)) hx hb dKind_plainRow_6 rfl ?_
  refine lv_ixor hx hb dKind_plainRow_7 ?_
  refine lv_aload_n hx hb dKind_plainRow_8 rfl (lv_at hl 0 rfl) ?_
  refine va_get (D := (dC, dI)) (ci := 6) (v := .int mk0) (C := R_Own) (T := T_Own) (N := 5) hx hb htg in_Own hown hK hP 0 rfl rfl 2 (by decide) (htg _ wd_78) (fun _ h9 => h9) rfl dKind_plainRow_9 ?_
  refine lv_iand hx hb dKind_plainRow_12 ?_
  subst hfn
  exact W.iret hx hb hr (fun t ht hW => ⟨rfl, ht⟩) (fun _ h => by cases h) dKind_plainRow_13
def tf_Chooser_plainRow (zs0 : Int32) (mk0 : Int32) (pl : Int32) : Int32 := (((pl ^^^ (us pl zs0)) &&& mk0))
set_option maxHeartbeats 4000000 in
set_option maxRecDepth 100000 in
theorem c_Chooser_plainRow (l : Launch) (dC : Nat → ClassId) (dI : Nat → Nat → Nat) (cA : ClassId × ClassId × ClassId) (h0 : Nat) (b1 : Nat) (a1 : Nat) (b2 : Nat) (a2 : Nat) (a3 : Nat) (zs0 : Int32) (rw0 : Int32) (mk0 : Int32) (n1 : Nat) (f1 : Nat → Int32) (n2 : Nat) (f2 : Nat → Int32) (n3 : Nat) (f3 : Nat → Int32) (pl : Int32) (hn1 : n1 < 2147483648) (hn2 : n2 < 2147483648) (hn3 : n3 < 2147483648) : Met l yKind_plainRow wKind_plainRow ({ frames := 0, cells := 0, slots := 0, locals := 0 }) (va_Pc [.ref h0, .int pl] (Rd (dC, dI) cA [(h0, .inr (1, [.int zs0, .int rw0, .int mk0, .ref b1, .ref b2, .ref a3])), (b1, .inr (3, [.int zs0, .int rw0, .int mk0, .int (bI false), .ref a1])), (a1, .inl (cA.1, n1, .inl f1)), (b2, .inr (3, [.int zs0, .int rw0, .int mk0, .int (bI true), .ref a2])), (a2, .inl (cA.1, n2, .inl f2)), (a3, .inl (cA.1, n3, .inl f3))])) (QcRead (tf_Chooser_plainRow zs0 mk0 pl)) 0 0 (fun _ => False) := by
  refine Met.ofW (cc := cKind_plainRow) (maxL := 2) (ret := (some .int)) (by decide) rfl ?_
  intro p e s m args below meth c s₁ B hml hv
  obtain ⟨rfl, hN, hP, hK⟩ := hv
  have hx := B.exec
  have hb := B.bytes
  have hr := B.returns
  have hts := atoms_spec (ws := wKind_plainRow) B.pre
  have htg : ∀ w ∈ GW, w.before _ s = true := fun w h => hts w (List.mem_cons_of_mem _ h)
  have hown : s.vm.findClass R_Kind = some m.cls := findClass_of_methodNamed B.named
  have hlocks := B.notSynchronized
  obtain ⟨rs, hfn⟩ : ∃ rs, (tf_Chooser_plainRow zs0 mk0 pl) = rs := ⟨_, rfl⟩
  try rw [hfn]
  have hl := lv_entry ([.ref h0, .int pl]) (n := 2) (Nat.le_of_ble_eq_true rfl)
  rw [lg_entry_eq]
  generalize (lg_sl ([.ref h0, .int pl]) ++ List.replicate (2 - (lg_sl ([.ref h0, .int pl])).length) Slot.unset).toArray = ls at hl ⊢
  have hl : lv_has ls 2 [(0, .ref h0), (1, .int pl)] := hl
  unfold tf_Chooser_plainRow at hfn
  refine lv_iload_n hx hb dKind_plainRow_0 rfl (lv_at hl 1 rfl) ?_
  refine lv_iload_n hx hb dKind_plainRow_1 rfl (lv_at hl 1 rfl) ?_
  refine lv_aload_n hx hb dKind_plainRow_2 rfl (lv_at hl 0 rfl) ?_
  refine va_get (D := (dC, dI)) (ci := 1) (v := .int zs0) (C := R_Chooser) (T := T_Chooser) (N := 6) hx hb htg in_Chooser hown hK hP 0 rfl rfl 0 (by decide) (htg _ wd_56) (fun _ h9 => h9) rfl dKind_plainRow_3 ?_
  refine lv_iushr (v := (us pl zs0)) hx hb dKind_plainRow_6 rfl ?_
  refine lv_ixor hx hb dKind_plainRow_7 ?_
  refine lv_aload_n hx hb dKind_plainRow_8 rfl (lv_at hl 0 rfl) ?_
  refine va_get (D := (dC, dI)) (ci := 1) (v := .int mk0) (C := R_Chooser) (T := T_Chooser) (N := 6) hx hb htg in_Chooser hown hK hP 0 rfl rfl 2 (by decide) (htg _ wd_78) (fun _ h9 => h9) rfl dKind_plainRow_9 ?_
  refine lv_iand hx hb dKind_plainRow_12 ?_
  subst hfn
  exact W.iret hx hb hr (fun t ht hW => ⟨rfl, ht⟩) (fun _ h => by cases h) dKind_plainRow_13
def tf_Sums_plainRow (zs0 : Int32) (mk0 : Int32) (pl : Int32) : Int32 := (((pl ^^^ (us pl zs0)) &&& mk0))
set_option maxHeartbeats 4000000 in
set_option maxRecDepth 100000 in
theorem c_Sums_plainRow (l : Launch) (dC : Nat → ClassId) (dI : Nat → Nat → Nat) (cA : ClassId × ClassId × ClassId) (h0 : Nat) (a1 : Nat) (zs0 : Int32) (rw0 : Int32) (mk0 : Int32) (n1 : Nat) (f1 : Nat → Int32) (pl : Int32) (hn1 : n1 < 2147483648) : Met l yKind_plainRow wKind_plainRow ({ frames := 0, cells := 0, slots := 0, locals := 0 }) (va_Pc [.ref h0, .int pl] (Rd (dC, dI) cA [(h0, .inr (7, [.int zs0, .int rw0, .int mk0, .ref a1])), (a1, .inl (cA.1, n1, .inl f1))])) (QcRead (tf_Sums_plainRow zs0 mk0 pl)) 0 0 (fun _ => False) := by
  refine Met.ofW (cc := cKind_plainRow) (maxL := 2) (ret := (some .int)) (by decide) rfl ?_
  intro p e s m args below meth c s₁ B hml hv
  obtain ⟨rfl, hN, hP, hK⟩ := hv
  have hx := B.exec
  have hb := B.bytes
  have hr := B.returns
  have hts := atoms_spec (ws := wKind_plainRow) B.pre
  have htg : ∀ w ∈ GW, w.before _ s = true := fun w h => hts w (List.mem_cons_of_mem _ h)
  have hown : s.vm.findClass R_Kind = some m.cls := findClass_of_methodNamed B.named
  have hlocks := B.notSynchronized
  obtain ⟨rs, hfn⟩ : ∃ rs, (tf_Sums_plainRow zs0 mk0 pl) = rs := ⟨_, rfl⟩
  try rw [hfn]
  have hl := lv_entry ([.ref h0, .int pl]) (n := 2) (Nat.le_of_ble_eq_true rfl)
  rw [lg_entry_eq]
  generalize (lg_sl ([.ref h0, .int pl]) ++ List.replicate (2 - (lg_sl ([.ref h0, .int pl])).length) Slot.unset).toArray = ls at hl ⊢
  have hl : lv_has ls 2 [(0, .ref h0), (1, .int pl)] := hl
  unfold tf_Sums_plainRow at hfn
  refine lv_iload_n hx hb dKind_plainRow_0 rfl (lv_at hl 1 rfl) ?_
  refine lv_iload_n hx hb dKind_plainRow_1 rfl (lv_at hl 1 rfl) ?_
  refine lv_aload_n hx hb dKind_plainRow_2 rfl (lv_at hl 0 rfl) ?_
  refine va_get (D := (dC, dI)) (ci := 7) (v := .int zs0) (C := R_Sums) (T := T_Sums) (N := 4) hx hb htg in_Sums hown hK hP 0 rfl rfl 0 (by decide) (htg _ wd_56) (fun _ h9 => h9) rfl dKind_plainRow_3 ?_
  refine lv_iushr (v := (us pl zs0)) hx hb dKind_plainRow_6 rfl ?_
  refine lv_ixor hx hb dKind_plainRow_7 ?_
  refine lv_aload_n hx hb dKind_plainRow_8 rfl (lv_at hl 0 rfl) ?_
  refine va_get (D := (dC, dI)) (ci := 7) (v := .int mk0) (C := R_Sums) (T := T_Sums) (N := 4) hx hb htg in_Sums hown hK hP 0 rfl rfl 2 (by decide) (htg _ wd_78) (fun _ h9 => h9) rfl dKind_plainRow_9 ?_
  refine lv_iand hx hb dKind_plainRow_12 ?_
  subst hfn
  exact W.iret hx hb hr (fun t ht hW => ⟨rfl, ht⟩) (fun _ h => by cases h) dKind_plainRow_13
def tf_Loops_plainRow (zs0 : Int32) (mk0 : Int32) (pl : Int32) : Int32 := (((pl ^^^ (us pl zs0)) &&& mk0))
set_option maxHeartbeats 4000000 in
set_option maxRecDepth 100000 in
theorem c_Loops_plainRow (l : Launch) (dC : Nat → ClassId) (dI : Nat → Nat → Nat) (cA : ClassId × ClassId × ClassId) (h0 : Nat) (b1 : Nat) (a0 : Nat) (a1 : Nat) (a2 : Nat) (a3 : Nat) (a4 : Nat) (zs0 : Int32) (rw0 : Int32) (mk0 : Int32) (n0 : Nat) (f0 : Nat → Int32) (n1 : Nat) (f1 : Nat → Int32) (n2 : Nat) (f2 : Nat → Int32) (n3 : Nat) (f3 : Nat → Int32) (n4 : Nat) (f4 : Nat → Int32) (pl : Int32) (hn0 : n0 < 2147483648) (hn1 : n1 < 2147483648) (hn2 : n2 < 2147483648) (hn3 : n3 < 2147483648) (hn4 : n4 < 2147483648) : Met l yKind_plainRow wKind_plainRow ({ frames := 0, cells := 0, slots := 0, locals := 0 }) (va_Pc [.ref h0, .int pl] (Rd (dC, dI) cA [(h0, .inr (5, [.int zs0, .int rw0, .int mk0, .ref b1, .ref a1, .ref a2, .ref a3, .ref a4])), (b1, .inr (3, [.int zs0, .int rw0, .int mk0, .int (bI false), .ref a0])), (a0, .inl (cA.1, n0, .inl f0)), (a1, .inl (cA.1, n1, .inl f1)), (a2, .inl (cA.1, n2, .inl f2)), (a3, .inl (cA.1, n3, .inl f3)), (a4, .inl (cA.1, n4, .inl f4))])) (QcRead (tf_Loops_plainRow zs0 mk0 pl)) 0 0 (fun _ => False) := by
  refine Met.ofW (cc := cKind_plainRow) (maxL := 2) (ret := (some .int)) (by decide) rfl ?_
  intro p e s m args below meth c s₁ B hml hv
  obtain ⟨rfl, hN, hP, hK⟩ := hv
  have hx := B.exec
  have hb := B.bytes
  have hr := B.returns
  have hts := atoms_spec (ws := wKind_plainRow) B.pre
  have htg : ∀ w ∈ GW, w.before _ s = true := fun w h => hts w (List.mem_cons_of_mem _ h)
  have hown : s.vm.findClass R_Kind = some m.cls := findClass_of_methodNamed B.named
  have hlocks := B.notSynchronized
  obtain ⟨rs, hfn⟩ : ∃ rs, (tf_Loops_plainRow zs0 mk0 pl) = rs := ⟨_, rfl⟩
  try rw [hfn]
  have hl := lv_entry ([.ref h0, .int pl]) (n := 2) (Nat.le_of_ble_eq_true rfl)
  rw [lg_entry_eq]
  generalize (lg_sl ([.ref h0, .int pl]) ++ List.replicate (2 - (lg_sl ([.ref h0, .int pl])).length) Slot.unset).toArray = ls at hl ⊢
  have hl : lv_has ls 2 [(0, .ref h0), (1, .int pl)] := hl
  unfold tf_Loops_plainRow at hfn
  refine lv_iload_n hx hb dKind_plainRow_0 rfl (lv_at hl 1 rfl) ?_
  refine lv_iload_n hx hb dKind_plainRow_1 rfl (lv_at hl 1 rfl) ?_
  refine lv_aload_n hx hb dKind_plainRow_2 rfl (lv_at hl 0 rfl) ?_
  refine va_get (D := (dC, dI)) (ci := 5) (v := .int zs0) (C := R_Loops) (T := T_Loops) (N := 8) hx hb htg in_Loops hown hK hP 0 rfl rfl 0 (by decide) (htg _ wd_56) (fun _ h9 => h9) rfl dKind_plainRow_3 ?_
  refine lv_iushr (v := (us pl zs0)) hx hb dKind_plainRow_6 rfl ?_
  refine lv_ixor hx hb dKind_plainRow_7 ?_
  refine lv_aload_n hx hb dKind_plainRow_8 rfl (lv_at hl 0 rfl) ?_
  refine va_get (D := (dC, dI)) (ci := 5) (v := .int mk0) (C := R_Loops) (T := T_Loops) (N := 8) hx hb htg in_Loops hown hK hP 0 rfl rfl 2 (by decide) (htg _ wd_78) (fun _ h9 => h9) rfl dKind_plainRow_9 ?_
  refine lv_iand hx hb dKind_plainRow_12 ?_
  subst hfn
  exact W.iret hx hb hr (fun t ht hW => ⟨rfl, ht⟩) (fun _ h => by cases h) dKind_plainRow_13
def tf_Always_answering : Int32 := (0)
set_option maxHeartbeats 4000000 in
set_option maxRecDepth 100000 in
theorem c_Always_answering (l : Launch) (dC : Nat → ClassId) (dI : Nat → Nat → Nat) (cA : ClassId × ClassId × ClassId) (h0 : Nat) (zs0 : Int32) (rw0 : Int32) (mk0 : Int32) (pl : Int32) (hs : Int32) : Met l yKind_answering wKind_answering ({ frames := 0, cells := 0, slots := 0, locals := 0 }) (va_Pc [.ref h0, .int pl, .int hs] (Rd (dC, dI) cA [(h0, .inr (0, [.int zs0, .int rw0, .int mk0]))])) (QcRead tf_Always_answering) 0 0 (fun _ => False) := by
  refine Met.ofW (cc := cKind_answering) (maxL := 3) (ret := (some .int)) (by decide) rfl ?_
  intro p e s m args below meth c s₁ B hml hv
  obtain ⟨rfl, hN, hP, hK⟩ := hv
  have hx := B.exec
  have hb := B.bytes
  have hr := B.returns
  have hts := atoms_spec (ws := wKind_answering) B.pre
  have htg : ∀ w ∈ GW, w.before _ s = true := fun w h => hts w (List.mem_cons_of_mem _ h)
  have hown : s.vm.findClass R_Kind = some m.cls := findClass_of_methodNamed B.named
  have hlocks := B.notSynchronized
  obtain ⟨rs, hfn⟩ : ∃ rs, tf_Always_answering = rs := ⟨_, rfl⟩
  try rw [hfn]
  have hl := lv_entry ([.ref h0, .int pl, .int hs]) (n := 3) (Nat.le_of_ble_eq_true rfl)
  rw [lg_entry_eq]
  generalize (lg_sl ([.ref h0, .int pl, .int hs]) ++ List.replicate (3 - (lg_sl ([.ref h0, .int pl, .int hs])).length) Slot.unset).toArray = ls at hl ⊢
  have hl : lv_has ls 3 [(0, .ref h0), (1, .int pl), (2, .int hs)] := hl
  unfold tf_Always_answering at hfn
  refine lv_iconst (v := 0) hx hb dKind_answering_0 (by decide) ?_
  subst hfn
  exact W.iret hx hb hr (fun t ht hW => ⟨rfl, ht⟩) (fun _ h => by cases h) dKind_answering_1
def tf_Last_answering : Int32 := (0)
set_option maxHeartbeats 4000000 in
set_option maxRecDepth 100000 in
theorem c_Last_answering (l : Launch) (dC : Nat → ClassId) (dI : Nat → Nat → Nat) (cA : ClassId × ClassId × ClassId) (h0 : Nat) (a1 : Nat) (zs0 : Int32) (rw0 : Int32) (mk0 : Int32) (n1 : Nat) (f1 : Nat → Int32) (pl : Int32) (hs : Int32) (hn1 : n1 < 2147483648) : Met l yKind_answering wKind_answering ({ frames := 0, cells := 0, slots := 0, locals := 0 }) (va_Pc [.ref h0, .int pl, .int hs] (Rd (dC, dI) cA [(h0, .inr (4, [.int zs0, .int rw0, .int mk0, .ref a1])), (a1, .inl (cA.1, n1, .inl f1))])) (QcRead tf_Last_answering) 0 0 (fun _ => False) := by
  refine Met.ofW (cc := cKind_answering) (maxL := 3) (ret := (some .int)) (by decide) rfl ?_
  intro p e s m args below meth c s₁ B hml hv
  obtain ⟨rfl, hN, hP, hK⟩ := hv
  have hx := B.exec
  have hb := B.bytes
  have hr := B.returns
  have hts := atoms_spec (ws := wKind_answering) B.pre
  have htg : ∀ w ∈ GW, w.before _ s = true := fun w h => hts w (List.mem_cons_of_mem _ h)
  have hown : s.vm.findClass R_Kind = some m.cls := findClass_of_methodNamed B.named
  have hlocks := B.notSynchronized
  obtain ⟨rs, hfn⟩ : ∃ rs, tf_Last_answering = rs := ⟨_, rfl⟩
  try rw [hfn]
  have hl := lv_entry ([.ref h0, .int pl, .int hs]) (n := 3) (Nat.le_of_ble_eq_true rfl)
  rw [lg_entry_eq]
  generalize (lg_sl ([.ref h0, .int pl, .int hs]) ++ List.replicate (3 - (lg_sl ([.ref h0, .int pl, .int hs])).length) Slot.unset).toArray = ls at hl ⊢
  have hl : lv_has ls 3 [(0, .ref h0), (1, .int pl), (2, .int hs)] := hl
  unfold tf_Last_answering at hfn
  refine lv_iconst (v := 0) hx hb dKind_answering_0 (by decide) ?_
  subst hfn
  exact W.iret hx hb hr (fun t ht hW => ⟨rfl, ht⟩) (fun _ h => by cases h) dKind_answering_1
def tf_Counters_answering : Int32 := (0)
set_option maxHeartbeats 4000000 in
set_option maxRecDepth 100000 in
theorem c_Counters_answering (l : Launch) (dC : Nat → ClassId) (dI : Nat → Nat → Nat) (cA : ClassId × ClassId × ClassId) (h0 : Nat) (a1 : Nat) (zs0 : Int32) (rw0 : Int32) (mk0 : Int32) (mx : Bool) (n1 : Nat) (f1 : Nat → Int32) (pl : Int32) (hs : Int32) (hn1 : n1 < 2147483648) : Met l yKind_answering wKind_answering ({ frames := 0, cells := 0, slots := 0, locals := 0 }) (va_Pc [.ref h0, .int pl, .int hs] (Rd (dC, dI) cA [(h0, .inr (3, [.int zs0, .int rw0, .int mk0, .int (bI mx), .ref a1])), (a1, .inl (cA.1, n1, .inl f1))])) (QcRead tf_Counters_answering) 0 0 (fun _ => False) := by
  refine Met.ofW (cc := cKind_answering) (maxL := 3) (ret := (some .int)) (by decide) rfl ?_
  intro p e s m args below meth c s₁ B hml hv
  obtain ⟨rfl, hN, hP, hK⟩ := hv
  have hx := B.exec
  have hb := B.bytes
  have hr := B.returns
  have hts := atoms_spec (ws := wKind_answering) B.pre
  have htg : ∀ w ∈ GW, w.before _ s = true := fun w h => hts w (List.mem_cons_of_mem _ h)
  have hown : s.vm.findClass R_Kind = some m.cls := findClass_of_methodNamed B.named
  have hlocks := B.notSynchronized
  obtain ⟨rs, hfn⟩ : ∃ rs, tf_Counters_answering = rs := ⟨_, rfl⟩
  try rw [hfn]
  have hl := lv_entry ([.ref h0, .int pl, .int hs]) (n := 3) (Nat.le_of_ble_eq_true rfl)
  rw [lg_entry_eq]
  generalize (lg_sl ([.ref h0, .int pl, .int hs]) ++ List.replicate (3 - (lg_sl ([.ref h0, .int pl, .int hs])).length) Slot.unset).toArray = ls at hl ⊢
  have hl : lv_has ls 3 [(0, .ref h0), (1, .int pl), (2, .int hs)] := hl
  unfold tf_Counters_answering at hfn
  refine lv_iconst (v := 0) hx hb dKind_answering_0 (by decide) ?_
  subst hfn
  exact W.iret hx hb hr (fun t ht hW => ⟨rfl, ht⟩) (fun _ h => by cases h) dKind_answering_1
def tf_Own_answering : Int32 := (0)
set_option maxHeartbeats 4000000 in
set_option maxRecDepth 100000 in
theorem c_Own_answering (l : Launch) (dC : Nat → ClassId) (dI : Nat → Nat → Nat) (cA : ClassId × ClassId × ClassId) (h0 : Nat) (a1 : Nat) (a2 : Nat) (zs0 : Int32) (rw0 : Int32) (mk0 : Int32) (n1 : Nat) (f1 : Nat → Int32) (n2 : Nat) (f2 : Nat → Int32) (pl : Int32) (hs : Int32) (hn1 : n1 < 2147483648) (hn2 : n2 < 2147483648) : Met l yKind_answering wKind_answering ({ frames := 0, cells := 0, slots := 0, locals := 0 }) (va_Pc [.ref h0, .int pl, .int hs] (Rd (dC, dI) cA [(h0, .inr (6, [.int zs0, .int rw0, .int mk0, .ref a1, .ref a2])), (a1, .inl (cA.1, n1, .inl f1)), (a2, .inl (cA.1, n2, .inl f2))])) (QcRead tf_Own_answering) 0 0 (fun _ => False) := by
  refine Met.ofW (cc := cKind_answering) (maxL := 3) (ret := (some .int)) (by decide) rfl ?_
  intro p e s m args below meth c s₁ B hml hv
  obtain ⟨rfl, hN, hP, hK⟩ := hv
  have hx := B.exec
  have hb := B.bytes
  have hr := B.returns
  have hts := atoms_spec (ws := wKind_answering) B.pre
  have htg : ∀ w ∈ GW, w.before _ s = true := fun w h => hts w (List.mem_cons_of_mem _ h)
  have hown : s.vm.findClass R_Kind = some m.cls := findClass_of_methodNamed B.named
  have hlocks := B.notSynchronized
  obtain ⟨rs, hfn⟩ : ∃ rs, tf_Own_answering = rs := ⟨_, rfl⟩
  try rw [hfn]
  have hl := lv_entry ([.ref h0, .int pl, .int hs]) (n := 3) (Nat.le_of_ble_eq_true rfl)
  rw [lg_entry_eq]
  generalize (lg_sl ([.ref h0, .int pl, .int hs]) ++ List.replicate (3 - (lg_sl ([.ref h0, .int pl, .int hs])).length) Slot.unset).toArray = ls at hl ⊢
  have hl : lv_has ls 3 [(0, .ref h0), (1, .int pl), (2, .int hs)] := hl
  unfold tf_Own_answering at hfn
  refine lv_iconst (v := 0) hx hb dKind_answering_0 (by decide) ?_
  subst hfn
  exact W.iret hx hb hr (fun t ht hW => ⟨rfl, ht⟩) (fun _ h => by cases h) dKind_answering_1
def tf_Sums_answering : Int32 := (0)
set_option maxHeartbeats 4000000 in
set_option maxRecDepth 100000 in
theorem c_Sums_answering (l : Launch) (dC : Nat → ClassId) (dI : Nat → Nat → Nat) (cA : ClassId × ClassId × ClassId) (h0 : Nat) (a1 : Nat) (zs0 : Int32) (rw0 : Int32) (mk0 : Int32) (n1 : Nat) (f1 : Nat → Int32) (pl : Int32) (hs : Int32) (hn1 : n1 < 2147483648) : Met l yKind_answering wKind_answering ({ frames := 0, cells := 0, slots := 0, locals := 0 }) (va_Pc [.ref h0, .int pl, .int hs] (Rd (dC, dI) cA [(h0, .inr (7, [.int zs0, .int rw0, .int mk0, .ref a1])), (a1, .inl (cA.1, n1, .inl f1))])) (QcRead tf_Sums_answering) 0 0 (fun _ => False) := by
  refine Met.ofW (cc := cKind_answering) (maxL := 3) (ret := (some .int)) (by decide) rfl ?_
  intro p e s m args below meth c s₁ B hml hv
  obtain ⟨rfl, hN, hP, hK⟩ := hv
  have hx := B.exec
  have hb := B.bytes
  have hr := B.returns
  have hts := atoms_spec (ws := wKind_answering) B.pre
  have htg : ∀ w ∈ GW, w.before _ s = true := fun w h => hts w (List.mem_cons_of_mem _ h)
  have hown : s.vm.findClass R_Kind = some m.cls := findClass_of_methodNamed B.named
  have hlocks := B.notSynchronized
  obtain ⟨rs, hfn⟩ : ∃ rs, tf_Sums_answering = rs := ⟨_, rfl⟩
  try rw [hfn]
  have hl := lv_entry ([.ref h0, .int pl, .int hs]) (n := 3) (Nat.le_of_ble_eq_true rfl)
  rw [lg_entry_eq]
  generalize (lg_sl ([.ref h0, .int pl, .int hs]) ++ List.replicate (3 - (lg_sl ([.ref h0, .int pl, .int hs])).length) Slot.unset).toArray = ls at hl ⊢
  have hl : lv_has ls 3 [(0, .ref h0), (1, .int pl), (2, .int hs)] := hl
  unfold tf_Sums_answering at hfn
  refine lv_iconst (v := 0) hx hb dKind_answering_0 (by decide) ?_
  subst hfn
  exact W.iret hx hb hr (fun t ht hW => ⟨rfl, ht⟩) (fun _ h => by cases h) dKind_answering_1
def tf_Coin_answering : Int32 := (0)
set_option maxHeartbeats 4000000 in
set_option maxRecDepth 100000 in
theorem c_Coin_answering (l : Launch) (dC : Nat → ClassId) (dI : Nat → Nat → Nat) (cA : ClassId × ClassId × ClassId) (h0 : Nat) (zs0 : Int32) (rw0 : Int32) (mk0 : Int32) (xs : Int32) (pl : Int32) (hs : Int32) : Met l yKind_answering wKind_answering ({ frames := 0, cells := 0, slots := 0, locals := 0 }) (va_Pc [.ref h0, .int pl, .int hs] (Rd (dC, dI) cA [(h0, .inr (2, [.int zs0, .int rw0, .int mk0, .int xs]))])) (QcRead tf_Coin_answering) 0 0 (fun _ => False) := by
  refine Met.ofW (cc := cKind_answering) (maxL := 3) (ret := (some .int)) (by decide) rfl ?_
  intro p e s m args below meth c s₁ B hml hv
  obtain ⟨rfl, hN, hP, hK⟩ := hv
  have hx := B.exec
  have hb := B.bytes
  have hr := B.returns
  have hts := atoms_spec (ws := wKind_answering) B.pre
  have htg : ∀ w ∈ GW, w.before _ s = true := fun w h => hts w (List.mem_cons_of_mem _ h)
  have hown : s.vm.findClass R_Kind = some m.cls := findClass_of_methodNamed B.named
  have hlocks := B.notSynchronized
  obtain ⟨rs, hfn⟩ : ∃ rs, tf_Coin_answering = rs := ⟨_, rfl⟩
  try rw [hfn]
  have hl := lv_entry ([.ref h0, .int pl, .int hs]) (n := 3) (Nat.le_of_ble_eq_true rfl)
  rw [lg_entry_eq]
  generalize (lg_sl ([.ref h0, .int pl, .int hs]) ++ List.replicate (3 - (lg_sl ([.ref h0, .int pl, .int hs])).length) Slot.unset).toArray = ls at hl ⊢
  have hl : lv_has ls 3 [(0, .ref h0), (1, .int pl), (2, .int hs)] := hl
  unfold tf_Coin_answering at hfn
  refine lv_iconst (v := 0) hx hb dKind_answering_0 (by decide) ?_
  subst hfn
  exact W.iret hx hb hr (fun t ht hW => ⟨rfl, ht⟩) (fun _ h => by cases h) dKind_answering_1
