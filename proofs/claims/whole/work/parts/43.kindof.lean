set_option maxHeartbeats 4000000 in
set_option maxRecDepth 100000 in
theorem c_PK_kindOf_0 (l : Launch) (dC : Nat → ClassId) (dI : Nat → Nat → Nat) (cA : ClassId × ClassId × ClassId) (zz : Nat) (zs0 : Int32) (xs : Int32) (nn : Nat) (hnn : ((1 : Int32) <<< (zs0 &&& 31)) = nI nn) (hle : nn ≤ 1024) (hpz : 0 < nn) : Met l yPK_kindOf wPK_kindOf ({ frames := 3, cells := 7, slots := 10400, locals := 62 }) (va_Pc [.int 0, .int zs0, .int xs] (Wr (dC, dI) cA zz [])) (va_Qr (fun _ : va_W => True) (fun w9 q_1 t => (w9 = [(q_1, .inr (0, [.int zs0, .int ((1 : Int32) <<< (zs0 &&& 31)), .int (((1 : Int32) <<< (zs0 &&& 31)) - 1)]))]) ∧ At (dC, dI) cA (va_A [] zz) w9 t) (va_A [] zz)) 7 10400 (va_A [] zz) := by
  refine Met.ofW (cc := cPK_kindOf) (maxL := 3) (ret := (some (.object "PredictorKinds$Kind"))) (by decide) rfl ?_
  intro p e s m args below meth c s₁ B hml hv
  obtain ⟨rfl, hsz, hN, hP, hK, hD0⟩ := hv
  have hx := B.exec
  have hb := B.bytes
  have hr := B.returns
  have hts := atoms_spec (ws := wPK_kindOf) B.pre
  have htg : ∀ w ∈ GW, w.before _ s = true := fun w h => hts w (List.mem_cons_of_mem _ h)
  have hown : s.vm.findClass R_PK = some m.cls := findClass_of_methodNamed B.named
  have hlocks := B.notSynchronized
  subst hsz
  have hD := hD0.self (sz := s.heap.size)
  generalize hAe : va_A [] s.heap.size = A at hD ⊢
  have hA : ∀ q : Nat, s.heap.size ≤ q → A q := fun q h => by rw [← hAe]; exact Or.inr h
  have hS : va_S A s.heap s.heap [] := va_S.rf
  have hP : va_P (dC, dI) vwCl [] s.heap := hP
  have hl := lv_entry ([.int 0, .int zs0, .int xs]) (n := 3) (Nat.le_of_ble_eq_true rfl)
  rw [lg_entry_eq]
  generalize (lg_sl ([.int 0, .int zs0, .int xs]) ++ List.replicate (3 - (lg_sl ([.int 0, .int zs0, .int xs])).length) Slot.unset).toArray = ls at hl ⊢
  have hl : lv_has ls 3 [(0, .int 0), (1, .int zs0), (2, .int xs)] := hl
  refine lv_iload_n hx hb dPK_kindOf_0 rfl (lv_at hl 0 rfl) ?_
  refine lv_tableOut (tgt := 136) hx hb dPK_kindOf_1 (by decide) (by decide) ?_
  refine va_new (ci := 0) (fs := [.int 0, .int 0, .int 0]) (C := R_Always) (T := T_Always) (N := 3) hx hb htg in_Always ty_Always tk_Always hown (htg _ wd_231) (htg _ wd_232) (htg _ wd_13) hK hP hD hS hA rfl (fun j hj => by rcases (show j = 0 ∨ j = 1 ∨ j = 2 by omega) with rfl | rfl | rfl <;> rfl) (Nat.le_of_ble_eq_true rfl) (Nat.le_of_ble_eq_true rfl) dPK_kindOf_136 (fun q_1 H hP hD hS => ?_)
  have hP : va_P (dC, dI) vwCl [(q_1, .inr (0, [.int 0, .int 0, .int 0]))] H := hP
  have hD : va_D A [(q_1, .inr (0, [.int 0, .int 0, .int 0]))] := hD
  refine W.widen (k := 1) (n := 3) (by omega) (by omega) ?_
  refine lv_dup hx hb dPK_kindOf_139 rfl ?_
  refine lv_iload_n hx hb dPK_kindOf_140 rfl (lv_at hl 1 rfl) ?_
  refine wg_Iv (wr := []) (As := [.int zs0]) (rest := [.ref q_1]) ⟨hx, hb, hml, hown, htg⟩ (c_Always_init l dC dI cA _ q_1 zs0) (cw_I htg wd_233 qAlways_init iAlways_init kAlways_init pAlways_init rfl rfl rfl ⟨Nat.le_of_ble_eq_true rfl, Nat.le_of_ble_eq_true rfl⟩) hN hP hD hS hA hK [0] [] rfl rfl (by decide) (by decide) (by decide) rfl hl.1 rfl (Nat.le_of_ble_eq_true rfl) dPK_kindOf_141 ⟨Nat.le_of_ble_eq_true rfl, Nat.le_of_ble_eq_true rfl⟩ (fun w1 hw H locs hP hD hS => ?_)
  obtain rfl := hw
  have hP : va_P (dC, dI) vwCl [(q_1, .inr (0, [.int zs0, .int ((1 : Int32) <<< (zs0 &&& 31)), .int (((1 : Int32) <<< (zs0 &&& 31)) - 1)]))] H := hP
  have hD : va_D A [(q_1, .inr (0, [.int zs0, .int ((1 : Int32) <<< (zs0 &&& 31)), .int (((1 : Int32) <<< (zs0 &&& 31)) - 1)]))] := hD
  refine W.widen (k := 1) (n := 3) (by omega) (by omega) ?_
  refine W.widen (k := 7) (n := 10400) (by omega) (by omega) ?_
  exact W.aret hx hb hr (Or.inl ⟨_, rfl⟩) (Or.inr ⟨_, rfl⟩) (fun t ht hW => ⟨⟨_, _, rfl, trivial, rfl, ⟨by rw [ht]; exact hP.sub [0] rfl, va_K.moved hW.alike hK, hD.sub [0] (by decide) rfl⟩⟩, hS.F ht⟩) hS.2.2 dPK_kindOf_144
set_option maxHeartbeats 4000000 in
set_option maxRecDepth 100000 in
theorem c_PK_kindOf_1 (l : Launch) (dC : Nat → ClassId) (dI : Nat → Nat → Nat) (cA : ClassId × ClassId × ClassId) (zz : Nat) (zs0 : Int32) (xs : Int32) (nn : Nat) (hnn : ((1 : Int32) <<< (zs0 &&& 31)) = nI nn) (hle : nn ≤ 1024) (hpz : 0 < nn) : Met l yPK_kindOf wPK_kindOf ({ frames := 3, cells := 7, slots := 10400, locals := 66 }) (va_Pc [.int 1, .int zs0, .int xs] (Wr (dC, dI) cA zz [])) (va_Qr (fun _ : va_W => True) (fun w9 q_1 t => (∃ q_2 : Nat, w9 = [(q_1, .inr (4, [.int zs0, .int ((1 : Int32) <<< (zs0 &&& 31)), .int (((1 : Int32) <<< (zs0 &&& 31)) - 1), .ref q_2])), (q_2, .inl (cA.1, nn, .inl (fun _ => 0)))]) ∧ At (dC, dI) cA (va_A [] zz) w9 t) (va_A [] zz)) 7 10400 (va_A [] zz) := by
  refine Met.ofW (cc := cPK_kindOf) (maxL := 3) (ret := (some (.object "PredictorKinds$Kind"))) (by decide) rfl ?_
  intro p e s m args below meth c s₁ B hml hv
  obtain ⟨rfl, hsz, hN, hP, hK, hD0⟩ := hv
  have hx := B.exec
  have hb := B.bytes
  have hr := B.returns
  have hts := atoms_spec (ws := wPK_kindOf) B.pre
  have htg : ∀ w ∈ GW, w.before _ s = true := fun w h => hts w (List.mem_cons_of_mem _ h)
  have hown : s.vm.findClass R_PK = some m.cls := findClass_of_methodNamed B.named
  have hlocks := B.notSynchronized
  subst hsz
  have hD := hD0.self (sz := s.heap.size)
  generalize hAe : va_A [] s.heap.size = A at hD ⊢
  have hA : ∀ q : Nat, s.heap.size ≤ q → A q := fun q h => by rw [← hAe]; exact Or.inr h
  have hS : va_S A s.heap s.heap [] := va_S.rf
  have hP : va_P (dC, dI) vwCl [] s.heap := hP
  have hl := lv_entry ([.int 1, .int zs0, .int xs]) (n := 3) (Nat.le_of_ble_eq_true rfl)
  rw [lg_entry_eq]
  generalize (lg_sl ([.int 1, .int zs0, .int xs]) ++ List.replicate (3 - (lg_sl ([.int 1, .int zs0, .int xs])).length) Slot.unset).toArray = ls at hl ⊢
  have hl : lv_has ls 3 [(0, .int 1), (1, .int zs0), (2, .int xs)] := hl
  refine lv_iload_n hx hb dPK_kindOf_0 rfl (lv_at hl 0 rfl) ?_
  refine lv_tableIn (tgt := 52) hx hb dPK_kindOf_1 (by decide) (by decide) rfl (by decide) ?_
  refine va_new (ci := 4) (fs := [.int 0, .int 0, .int 0, .null]) (C := R_Last) (T := T_Last) (N := 4) hx hb htg in_Last ty_Last tk_Last hown (htg _ wd_40) (htg _ wd_41) (htg _ wd_4) hK hP hD hS hA rfl (fun j hj => by rcases (show j = 0 ∨ j = 1 ∨ j = 2 ∨ j = 3 by omega) with rfl | rfl | rfl | rfl <;> rfl) (Nat.le_of_ble_eq_true rfl) (Nat.le_of_ble_eq_true rfl) dPK_kindOf_52 (fun q_1 H hP hD hS => ?_)
  have hP : va_P (dC, dI) vwCl [(q_1, .inr (4, [.int 0, .int 0, .int 0, .null]))] H := hP
  have hD : va_D A [(q_1, .inr (4, [.int 0, .int 0, .int 0, .null]))] := hD
  refine W.widen (k := 1) (n := 4) (by omega) (by omega) ?_
  refine lv_dup hx hb dPK_kindOf_55 rfl ?_
  refine lv_iload_n hx hb dPK_kindOf_56 rfl (lv_at hl 1 rfl) ?_
  refine wg_Iv (wr := []) (As := [.int zs0]) (rest := [.ref q_1]) ⟨hx, hb, hml, hown, htg⟩ (c_Last_init l dC dI cA _ q_1 zs0 nn hnn hle hpz) (cw_I htg wd_42 qLast_init iLast_init kLast_init pLast_init rfl rfl rfl ⟨Nat.le_of_ble_eq_true rfl, Nat.le_of_ble_eq_true rfl⟩) hN hP hD hS hA hK [0] [] rfl rfl (by decide) (by decide) (by decide) rfl hl.1 rfl (Nat.le_of_ble_eq_true rfl) dPK_kindOf_57 ⟨Nat.le_of_ble_eq_true rfl, Nat.le_of_ble_eq_true rfl⟩ (fun w1 hw H locs hP hD hS => ?_)
  obtain ⟨q_2, rfl⟩ := hw
  have hP : va_P (dC, dI) vwCl [(q_1, .inr (4, [.int zs0, .int ((1 : Int32) <<< (zs0 &&& 31)), .int (((1 : Int32) <<< (zs0 &&& 31)) - 1), .ref q_2])), (q_2, .inl (cA.1, nn, .inl (fun _ => 0)))] H := hP
  have hD : va_D A [(q_1, .inr (4, [.int zs0, .int ((1 : Int32) <<< (zs0 &&& 31)), .int (((1 : Int32) <<< (zs0 &&& 31)) - 1), .ref q_2])), (q_2, .inl (cA.1, nn, .inl (fun _ => 0)))] := hD
  refine W.widen (k := 2) (n := 1028) (by omega) (by omega) ?_
  refine W.widen (k := 7) (n := 10400) (by omega) (by omega) ?_
  exact W.aret hx hb hr (Or.inl ⟨_, rfl⟩) (Or.inr ⟨_, rfl⟩) (fun t ht hW => ⟨⟨_, _, rfl, trivial, ⟨q_2, rfl⟩, ⟨by rw [ht]; exact hP.sub [0, 1] rfl, va_K.moved hW.alike hK, hD.sub [0, 1] (by decide) rfl⟩⟩, hS.F ht⟩) hS.2.2 dPK_kindOf_60
set_option maxHeartbeats 4000000 in
set_option maxRecDepth 100000 in
theorem c_PK_kindOf_2 (l : Launch) (dC : Nat → ClassId) (dI : Nat → Nat → Nat) (cA : ClassId × ClassId × ClassId) (zz : Nat) (zs0 : Int32) (xs : Int32) (nn : Nat) (hnn : ((1 : Int32) <<< (zs0 &&& 31)) = nI nn) (hle : nn ≤ 1024) (hpz : 0 < nn) : Met l yPK_kindOf wPK_kindOf ({ frames := 3, cells := 7, slots := 10400, locals := 67 }) (va_Pc [.int 2, .int zs0, .int xs] (Wr (dC, dI) cA zz [])) (va_Qr (fun _ : va_W => True) (fun w9 q_1 t => (∃ q_2 : Nat, w9 = [(q_1, .inr (3, [.int zs0, .int ((1 : Int32) <<< (zs0 &&& 31)), .int (((1 : Int32) <<< (zs0 &&& 31)) - 1), .int (bI false), .ref q_2])), (q_2, .inl (cA.1, nn, .inl (fun _ => 1)))]) ∧ At (dC, dI) cA (va_A [] zz) w9 t) (va_A [] zz)) 7 10400 (va_A [] zz) := by
  refine Met.ofW (cc := cPK_kindOf) (maxL := 3) (ret := (some (.object "PredictorKinds$Kind"))) (by decide) rfl ?_
  intro p e s m args below meth c s₁ B hml hv
  obtain ⟨rfl, hsz, hN, hP, hK, hD0⟩ := hv
  have hx := B.exec
  have hb := B.bytes
  have hr := B.returns
  have hts := atoms_spec (ws := wPK_kindOf) B.pre
  have htg : ∀ w ∈ GW, w.before _ s = true := fun w h => hts w (List.mem_cons_of_mem _ h)
  have hown : s.vm.findClass R_PK = some m.cls := findClass_of_methodNamed B.named
  have hlocks := B.notSynchronized
  subst hsz
  have hD := hD0.self (sz := s.heap.size)
  generalize hAe : va_A [] s.heap.size = A at hD ⊢
  have hA : ∀ q : Nat, s.heap.size ≤ q → A q := fun q h => by rw [← hAe]; exact Or.inr h
  have hS : va_S A s.heap s.heap [] := va_S.rf
  have hP : va_P (dC, dI) vwCl [] s.heap := hP
  have hl := lv_entry ([.int 2, .int zs0, .int xs]) (n := 3) (Nat.le_of_ble_eq_true rfl)
  rw [lg_entry_eq]
  generalize (lg_sl ([.int 2, .int zs0, .int xs]) ++ List.replicate (3 - (lg_sl ([.int 2, .int zs0, .int xs])).length) Slot.unset).toArray = ls at hl ⊢
  have hl : lv_has ls 3 [(0, .int 2), (1, .int zs0), (2, .int xs)] := hl
  refine lv_iload_n hx hb dPK_kindOf_0 rfl (lv_at hl 0 rfl) ?_
  refine lv_tableIn (tgt := 61) hx hb dPK_kindOf_1 (by decide) (by decide) rfl (by decide) ?_
  refine va_new (ci := 3) (fs := [.int 0, .int 0, .int 0, .int (bI false), .null]) (C := R_Counters) (T := T_Counters) (N := 5) hx hb htg in_Counters ty_Counters tk_Counters hown (htg _ wd_95) (htg _ wd_96) (htg _ wd_6) hK hP hD hS hA rfl (fun j hj => by rcases (show j = 0 ∨ j = 1 ∨ j = 2 ∨ j = 3 ∨ j = 4 by omega) with rfl | rfl | rfl | rfl | rfl <;> rfl) (Nat.le_of_ble_eq_true rfl) (Nat.le_of_ble_eq_true rfl) dPK_kindOf_61 (fun q_1 H hP hD hS => ?_)
  have hP : va_P (dC, dI) vwCl [(q_1, .inr (3, [.int 0, .int 0, .int 0, .int (bI false), .null]))] H := hP
  have hD : va_D A [(q_1, .inr (3, [.int 0, .int 0, .int 0, .int (bI false), .null]))] := hD
  refine W.widen (k := 1) (n := 5) (by omega) (by omega) ?_
  refine lv_dup hx hb dPK_kindOf_64 rfl ?_
  refine lv_iload_n hx hb dPK_kindOf_65 rfl (lv_at hl 1 rfl) ?_
  refine lv_iconst (v := 0) hx hb dPK_kindOf_66 (by decide) ?_
  refine wg_Iv (wr := []) (As := [.int zs0, .int 0]) (rest := [.ref q_1]) ⟨hx, hb, hml, hown, htg⟩ (c_Counters_init l dC dI cA _ q_1 zs0 false nn hnn hle hpz) (cw_I htg wd_97 qCounters_init iCounters_init kCounters_init pCounters_init rfl rfl rfl ⟨Nat.le_of_ble_eq_true rfl, Nat.le_of_ble_eq_true rfl⟩) hN hP hD hS hA hK [0] [] rfl rfl (by decide) (by decide) (by decide) rfl hl.1 rfl (Nat.le_of_ble_eq_true rfl) dPK_kindOf_67 ⟨Nat.le_of_ble_eq_true rfl, Nat.le_of_ble_eq_true rfl⟩ (fun w1 hw H locs hP hD hS => ?_)
  obtain ⟨q_2, rfl⟩ := hw
  have hP : va_P (dC, dI) vwCl [(q_1, .inr (3, [.int zs0, .int ((1 : Int32) <<< (zs0 &&& 31)), .int (((1 : Int32) <<< (zs0 &&& 31)) - 1), .int (bI false), .ref q_2])), (q_2, .inl (cA.1, nn, .inl (fun _ => 1)))] H := hP
  have hD : va_D A [(q_1, .inr (3, [.int zs0, .int ((1 : Int32) <<< (zs0 &&& 31)), .int (((1 : Int32) <<< (zs0 &&& 31)) - 1), .int (bI false), .ref q_2])), (q_2, .inl (cA.1, nn, .inl (fun _ => 1)))] := hD
  refine W.widen (k := 2) (n := 1029) (by omega) (by omega) ?_
  refine W.widen (k := 7) (n := 10400) (by omega) (by omega) ?_
  exact W.aret hx hb hr (Or.inl ⟨_, rfl⟩) (Or.inr ⟨_, rfl⟩) (fun t ht hW => ⟨⟨_, _, rfl, trivial, ⟨q_2, rfl⟩, ⟨by rw [ht]; exact hP.sub [0, 1] rfl, va_K.moved hW.alike hK, hD.sub [0, 1] (by decide) rfl⟩⟩, hS.F ht⟩) hS.2.2 dPK_kindOf_70
set_option maxHeartbeats 4000000 in
set_option maxRecDepth 100000 in
theorem c_PK_kindOf_3 (l : Launch) (dC : Nat → ClassId) (dI : Nat → Nat → Nat) (cA : ClassId × ClassId × ClassId) (zz : Nat) (zs0 : Int32) (xs : Int32) (nn : Nat) (hnn : ((1 : Int32) <<< (zs0 &&& 31)) = nI nn) (hle : nn ≤ 1024) (hpz : 0 < nn) : Met l yPK_kindOf wPK_kindOf ({ frames := 3, cells := 7, slots := 10400, locals := 67 }) (va_Pc [.int 3, .int zs0, .int xs] (Wr (dC, dI) cA zz [])) (va_Qr (fun _ : va_W => True) (fun w9 q_1 t => (∃ q_2 : Nat, w9 = [(q_1, .inr (3, [.int zs0, .int ((1 : Int32) <<< (zs0 &&& 31)), .int (((1 : Int32) <<< (zs0 &&& 31)) - 1), .int (bI true), .ref q_2])), (q_2, .inl (cA.1, nn, .inl (fun _ => 1)))]) ∧ At (dC, dI) cA (va_A [] zz) w9 t) (va_A [] zz)) 7 10400 (va_A [] zz) := by
  refine Met.ofW (cc := cPK_kindOf) (maxL := 3) (ret := (some (.object "PredictorKinds$Kind"))) (by decide) rfl ?_
  intro p e s m args below meth c s₁ B hml hv
  obtain ⟨rfl, hsz, hN, hP, hK, hD0⟩ := hv
  have hx := B.exec
  have hb := B.bytes
  have hr := B.returns
  have hts := atoms_spec (ws := wPK_kindOf) B.pre
  have htg : ∀ w ∈ GW, w.before _ s = true := fun w h => hts w (List.mem_cons_of_mem _ h)
  have hown : s.vm.findClass R_PK = some m.cls := findClass_of_methodNamed B.named
  have hlocks := B.notSynchronized
  subst hsz
  have hD := hD0.self (sz := s.heap.size)
  generalize hAe : va_A [] s.heap.size = A at hD ⊢
  have hA : ∀ q : Nat, s.heap.size ≤ q → A q := fun q h => by rw [← hAe]; exact Or.inr h
  have hS : va_S A s.heap s.heap [] := va_S.rf
  have hP : va_P (dC, dI) vwCl [] s.heap := hP
  have hl := lv_entry ([.int 3, .int zs0, .int xs]) (n := 3) (Nat.le_of_ble_eq_true rfl)
  rw [lg_entry_eq]
  generalize (lg_sl ([.int 3, .int zs0, .int xs]) ++ List.replicate (3 - (lg_sl ([.int 3, .int zs0, .int xs])).length) Slot.unset).toArray = ls at hl ⊢
  have hl : lv_has ls 3 [(0, .int 3), (1, .int zs0), (2, .int xs)] := hl
  refine lv_iload_n hx hb dPK_kindOf_0 rfl (lv_at hl 0 rfl) ?_
  refine lv_tableIn (tgt := 71) hx hb dPK_kindOf_1 (by decide) (by decide) rfl (by decide) ?_
  refine va_new (ci := 3) (fs := [.int 0, .int 0, .int 0, .int (bI false), .null]) (C := R_Counters) (T := T_Counters) (N := 5) hx hb htg in_Counters ty_Counters tk_Counters hown (htg _ wd_95) (htg _ wd_96) (htg _ wd_6) hK hP hD hS hA rfl (fun j hj => by rcases (show j = 0 ∨ j = 1 ∨ j = 2 ∨ j = 3 ∨ j = 4 by omega) with rfl | rfl | rfl | rfl | rfl <;> rfl) (Nat.le_of_ble_eq_true rfl) (Nat.le_of_ble_eq_true rfl) dPK_kindOf_71 (fun q_1 H hP hD hS => ?_)
  have hP : va_P (dC, dI) vwCl [(q_1, .inr (3, [.int 0, .int 0, .int 0, .int (bI false), .null]))] H := hP
  have hD : va_D A [(q_1, .inr (3, [.int 0, .int 0, .int 0, .int (bI false), .null]))] := hD
  refine W.widen (k := 1) (n := 5) (by omega) (by omega) ?_
  refine lv_dup hx hb dPK_kindOf_74 rfl ?_
  refine lv_iload_n hx hb dPK_kindOf_75 rfl (lv_at hl 1 rfl) ?_
  refine lv_iconst (v := 1) hx hb dPK_kindOf_76 (by decide) ?_
  refine wg_Iv (wr := []) (As := [.int zs0, .int 1]) (rest := [.ref q_1]) ⟨hx, hb, hml, hown, htg⟩ (c_Counters_init l dC dI cA _ q_1 zs0 true nn hnn hle hpz) (cw_I htg wd_97 qCounters_init iCounters_init kCounters_init pCounters_init rfl rfl rfl ⟨Nat.le_of_ble_eq_true rfl, Nat.le_of_ble_eq_true rfl⟩) hN hP hD hS hA hK [0] [] rfl rfl (by decide) (by decide) (by decide) rfl hl.1 rfl (Nat.le_of_ble_eq_true rfl) dPK_kindOf_77 ⟨Nat.le_of_ble_eq_true rfl, Nat.le_of_ble_eq_true rfl⟩ (fun w1 hw H locs hP hD hS => ?_)
  obtain ⟨q_2, rfl⟩ := hw
  have hP : va_P (dC, dI) vwCl [(q_1, .inr (3, [.int zs0, .int ((1 : Int32) <<< (zs0 &&& 31)), .int (((1 : Int32) <<< (zs0 &&& 31)) - 1), .int (bI true), .ref q_2])), (q_2, .inl (cA.1, nn, .inl (fun _ => 1)))] H := hP
  have hD : va_D A [(q_1, .inr (3, [.int zs0, .int ((1 : Int32) <<< (zs0 &&& 31)), .int (((1 : Int32) <<< (zs0 &&& 31)) - 1), .int (bI true), .ref q_2])), (q_2, .inl (cA.1, nn, .inl (fun _ => 1)))] := hD
  refine W.widen (k := 2) (n := 1029) (by omega) (by omega) ?_
  refine W.widen (k := 7) (n := 10400) (by omega) (by omega) ?_
  exact W.aret hx hb hr (Or.inl ⟨_, rfl⟩) (Or.inr ⟨_, rfl⟩) (fun t ht hW => ⟨⟨_, _, rfl, trivial, ⟨q_2, rfl⟩, ⟨by rw [ht]; exact hP.sub [0, 1] rfl, va_K.moved hW.alike hK, hD.sub [0, 1] (by decide) rfl⟩⟩, hS.F ht⟩) hS.2.2 dPK_kindOf_80
set_option maxHeartbeats 4000000 in
set_option maxRecDepth 100000 in
theorem c_PK_kindOf_4 (l : Launch) (dC : Nat → ClassId) (dI : Nat → Nat → Nat) (cA : ClassId × ClassId × ClassId) (zz : Nat) (zs0 : Int32) (xs : Int32) (nn : Nat) (hnn : ((1 : Int32) <<< (zs0 &&& 31)) = nI nn) (hle : nn ≤ 1024) (hpz : 0 < nn) : Met l yPK_kindOf wPK_kindOf ({ frames := 3, cells := 7, slots := 10400, locals := 66 }) (va_Pc [.int 4, .int zs0, .int xs] (Wr (dC, dI) cA zz [])) (va_Qr (fun _ : va_W => True) (fun w9 q_1 t => (∃ q_2 q_3 : Nat, w9 = [(q_1, .inr (6, [.int zs0, .int ((1 : Int32) <<< (zs0 &&& 31)), .int (((1 : Int32) <<< (zs0 &&& 31)) - 1), .ref q_2, .ref q_3])), (q_2, .inl (cA.1, nn, .inl (fun _ => 0))), (q_3, .inl (cA.1, nn, .inl (fun _ => 1)))]) ∧ At (dC, dI) cA (va_A [] zz) w9 t) (va_A [] zz)) 7 10400 (va_A [] zz) := by
  refine Met.ofW (cc := cPK_kindOf) (maxL := 3) (ret := (some (.object "PredictorKinds$Kind"))) (by decide) rfl ?_
  intro p e s m args below meth c s₁ B hml hv
  obtain ⟨rfl, hsz, hN, hP, hK, hD0⟩ := hv
  have hx := B.exec
  have hb := B.bytes
  have hr := B.returns
  have hts := atoms_spec (ws := wPK_kindOf) B.pre
  have htg : ∀ w ∈ GW, w.before _ s = true := fun w h => hts w (List.mem_cons_of_mem _ h)
  have hown : s.vm.findClass R_PK = some m.cls := findClass_of_methodNamed B.named
  have hlocks := B.notSynchronized
  subst hsz
  have hD := hD0.self (sz := s.heap.size)
  generalize hAe : va_A [] s.heap.size = A at hD ⊢
  have hA : ∀ q : Nat, s.heap.size ≤ q → A q := fun q h => by rw [← hAe]; exact Or.inr h
  have hS : va_S A s.heap s.heap [] := va_S.rf
  have hP : va_P (dC, dI) vwCl [] s.heap := hP
  have hl := lv_entry ([.int 4, .int zs0, .int xs]) (n := 3) (Nat.le_of_ble_eq_true rfl)
  rw [lg_entry_eq]
  generalize (lg_sl ([.int 4, .int zs0, .int xs]) ++ List.replicate (3 - (lg_sl ([.int 4, .int zs0, .int xs])).length) Slot.unset).toArray = ls at hl ⊢
  have hl : lv_has ls 3 [(0, .int 4), (1, .int zs0), (2, .int xs)] := hl
  refine lv_iload_n hx hb dPK_kindOf_0 rfl (lv_at hl 0 rfl) ?_
  refine lv_tableIn (tgt := 81) hx hb dPK_kindOf_1 (by decide) (by decide) rfl (by decide) ?_
  refine va_new (ci := 6) (fs := [.int 0, .int 0, .int 0, .null, .null]) (C := R_Own) (T := T_Own) (N := 5) hx hb htg in_Own ty_Own tk_Own hown (htg _ wd_112) (htg _ wd_113) (htg _ wd_7) hK hP hD hS hA rfl (fun j hj => by rcases (show j = 0 ∨ j = 1 ∨ j = 2 ∨ j = 3 ∨ j = 4 by omega) with rfl | rfl | rfl | rfl | rfl <;> rfl) (Nat.le_of_ble_eq_true rfl) (Nat.le_of_ble_eq_true rfl) dPK_kindOf_81 (fun q_1 H hP hD hS => ?_)
  have hP : va_P (dC, dI) vwCl [(q_1, .inr (6, [.int 0, .int 0, .int 0, .null, .null]))] H := hP
  have hD : va_D A [(q_1, .inr (6, [.int 0, .int 0, .int 0, .null, .null]))] := hD
  refine W.widen (k := 1) (n := 5) (by omega) (by omega) ?_
  refine lv_dup hx hb dPK_kindOf_84 rfl ?_
  refine lv_iload_n hx hb dPK_kindOf_85 rfl (lv_at hl 1 rfl) ?_
  refine wg_Iv (wr := []) (As := [.int zs0]) (rest := [.ref q_1]) ⟨hx, hb, hml, hown, htg⟩ (c_Own_init l dC dI cA _ q_1 zs0 nn hnn hle hpz) (cw_I htg wd_114 qOwn_init iOwn_init kOwn_init pOwn_init rfl rfl rfl ⟨Nat.le_of_ble_eq_true rfl, Nat.le_of_ble_eq_true rfl⟩) hN hP hD hS hA hK [0] [] rfl rfl (by decide) (by decide) (by decide) rfl hl.1 rfl (Nat.le_of_ble_eq_true rfl) dPK_kindOf_86 ⟨Nat.le_of_ble_eq_true rfl, Nat.le_of_ble_eq_true rfl⟩ (fun w1 hw H locs hP hD hS => ?_)
  obtain ⟨q_2, q_3, rfl⟩ := hw
  have hP : va_P (dC, dI) vwCl [(q_1, .inr (6, [.int zs0, .int ((1 : Int32) <<< (zs0 &&& 31)), .int (((1 : Int32) <<< (zs0 &&& 31)) - 1), .ref q_2, .ref q_3])), (q_2, .inl (cA.1, nn, .inl (fun _ => 0))), (q_3, .inl (cA.1, nn, .inl (fun _ => 1)))] H := hP
  have hD : va_D A [(q_1, .inr (6, [.int zs0, .int ((1 : Int32) <<< (zs0 &&& 31)), .int (((1 : Int32) <<< (zs0 &&& 31)) - 1), .ref q_2, .ref q_3])), (q_2, .inl (cA.1, nn, .inl (fun _ => 0))), (q_3, .inl (cA.1, nn, .inl (fun _ => 1)))] := hD
  refine W.widen (k := 3) (n := 2053) (by omega) (by omega) ?_
  refine W.widen (k := 7) (n := 10400) (by omega) (by omega) ?_
  exact W.aret hx hb hr (Or.inl ⟨_, rfl⟩) (Or.inr ⟨_, rfl⟩) (fun t ht hW => ⟨⟨_, _, rfl, trivial, ⟨q_2, q_3, rfl⟩, ⟨by rw [ht]; exact hP.sub [0, 1, 2] rfl, va_K.moved hW.alike hK, hD.sub [0, 1, 2] (by decide) rfl⟩⟩, hS.F ht⟩) hS.2.2 dPK_kindOf_89
set_option maxHeartbeats 4000000 in
set_option maxRecDepth 100000 in
theorem c_PK_kindOf_5 (l : Launch) (dC : Nat → ClassId) (dI : Nat → Nat → Nat) (cA : ClassId × ClassId × ClassId) (zz : Nat) (zs0 : Int32) (xs : Int32) (nn : Nat) (hnn : ((1 : Int32) <<< (zs0 &&& 31)) = nI nn) (hle : nn ≤ 1024) (hpz : 0 < nn) : Met l yPK_kindOf wPK_kindOf ({ frames := 4, cells := 7, slots := 10400, locals := 88 }) (va_Pc [.int 5, .int zs0, .int xs] (Wr (dC, dI) cA zz [])) (va_Qr (fun _ : va_W => True) (fun w9 q_1 t => (∃ q_2 q_3 q_4 q_5 q_6 : Nat, w9 = [(q_1, .inr (1, [.int zs0, .int ((1 : Int32) <<< (zs0 &&& 31)), .int (((1 : Int32) <<< (zs0 &&& 31)) - 1), .ref q_2, .ref q_4, .ref q_6])), (q_2, .inr (3, [.int zs0, .int ((1 : Int32) <<< (zs0 &&& 31)), .int (((1 : Int32) <<< (zs0 &&& 31)) - 1), .int (bI false), .ref q_3])), (q_3, .inl (cA.1, nn, .inl (fun _ => 1))), (q_4, .inr (3, [.int zs0, .int ((1 : Int32) <<< (zs0 &&& 31)), .int (((1 : Int32) <<< (zs0 &&& 31)) - 1), .int (bI true), .ref q_5])), (q_5, .inl (cA.1, nn, .inl (fun _ => 1))), (q_6, .inl (cA.1, nn, .inl (fun _ => 1)))]) ∧ At (dC, dI) cA (va_A [] zz) w9 t) (va_A [] zz)) 7 10400 (va_A [] zz) := by
  refine Met.ofW (cc := cPK_kindOf) (maxL := 3) (ret := (some (.object "PredictorKinds$Kind"))) (by decide) rfl ?_
  intro p e s m args below meth c s₁ B hml hv
  obtain ⟨rfl, hsz, hN, hP, hK, hD0⟩ := hv
  have hx := B.exec
  have hb := B.bytes
  have hr := B.returns
  have hts := atoms_spec (ws := wPK_kindOf) B.pre
  have htg : ∀ w ∈ GW, w.before _ s = true := fun w h => hts w (List.mem_cons_of_mem _ h)
  have hown : s.vm.findClass R_PK = some m.cls := findClass_of_methodNamed B.named
  have hlocks := B.notSynchronized
  subst hsz
  have hD := hD0.self (sz := s.heap.size)
  generalize hAe : va_A [] s.heap.size = A at hD ⊢
  have hA : ∀ q : Nat, s.heap.size ≤ q → A q := fun q h => by rw [← hAe]; exact Or.inr h
  have hS : va_S A s.heap s.heap [] := va_S.rf
  have hP : va_P (dC, dI) vwCl [] s.heap := hP
  have hl := lv_entry ([.int 5, .int zs0, .int xs]) (n := 3) (Nat.le_of_ble_eq_true rfl)
  rw [lg_entry_eq]
  generalize (lg_sl ([.int 5, .int zs0, .int xs]) ++ List.replicate (3 - (lg_sl ([.int 5, .int zs0, .int xs])).length) Slot.unset).toArray = ls at hl ⊢
  have hl : lv_has ls 3 [(0, .int 5), (1, .int zs0), (2, .int xs)] := hl
  refine lv_iload_n hx hb dPK_kindOf_0 rfl (lv_at hl 0 rfl) ?_
  refine lv_tableIn (tgt := 90) hx hb dPK_kindOf_1 (by decide) (by decide) rfl (by decide) ?_
  refine va_new (ci := 1) (fs := [.int 0, .int 0, .int 0, .null, .null, .null]) (C := R_Chooser) (T := T_Chooser) (N := 6) hx hb htg in_Chooser ty_Chooser tk_Chooser hown (htg _ wd_129) (htg _ wd_130) (htg _ wd_8) hK hP hD hS hA rfl (fun j hj => by rcases (show j = 0 ∨ j = 1 ∨ j = 2 ∨ j = 3 ∨ j = 4 ∨ j = 5 by omega) with rfl | rfl | rfl | rfl | rfl | rfl <;> rfl) (Nat.le_of_ble_eq_true rfl) (Nat.le_of_ble_eq_true rfl) dPK_kindOf_90 (fun q_1 H hP hD hS => ?_)
  have hP : va_P (dC, dI) vwCl [(q_1, .inr (1, [.int 0, .int 0, .int 0, .null, .null, .null]))] H := hP
  have hD : va_D A [(q_1, .inr (1, [.int 0, .int 0, .int 0, .null, .null, .null]))] := hD
  refine W.widen (k := 1) (n := 6) (by omega) (by omega) ?_
  refine lv_dup hx hb dPK_kindOf_93 rfl ?_
  refine lv_iload_n hx hb dPK_kindOf_94 rfl (lv_at hl 1 rfl) ?_
  refine wg_Iv (wr := []) (As := [.int zs0]) (rest := [.ref q_1]) ⟨hx, hb, hml, hown, htg⟩ (c_Chooser_init l dC dI cA _ q_1 zs0 nn hnn hle hpz) (cw_I htg wd_131 qChooser_init iChooser_init kChooser_init pChooser_init rfl rfl rfl ⟨Nat.le_of_ble_eq_true rfl, Nat.le_of_ble_eq_true rfl⟩) hN hP hD hS hA hK [0] [] rfl rfl (by decide) (by decide) (by decide) rfl hl.1 rfl (Nat.le_of_ble_eq_true rfl) dPK_kindOf_95 ⟨Nat.le_of_ble_eq_true rfl, Nat.le_of_ble_eq_true rfl⟩ (fun w1 hw H locs hP hD hS => ?_)
  obtain ⟨q_2, q_3, q_4, q_5, q_6, rfl⟩ := hw
  have hP : va_P (dC, dI) vwCl [(q_1, .inr (1, [.int zs0, .int ((1 : Int32) <<< (zs0 &&& 31)), .int (((1 : Int32) <<< (zs0 &&& 31)) - 1), .ref q_2, .ref q_4, .ref q_6])), (q_2, .inr (3, [.int zs0, .int ((1 : Int32) <<< (zs0 &&& 31)), .int (((1 : Int32) <<< (zs0 &&& 31)) - 1), .int (bI false), .ref q_3])), (q_3, .inl (cA.1, nn, .inl (fun _ => 1))), (q_4, .inr (3, [.int zs0, .int ((1 : Int32) <<< (zs0 &&& 31)), .int (((1 : Int32) <<< (zs0 &&& 31)) - 1), .int (bI true), .ref q_5])), (q_5, .inl (cA.1, nn, .inl (fun _ => 1))), (q_6, .inl (cA.1, nn, .inl (fun _ => 1)))] H := hP
  have hD : va_D A [(q_1, .inr (1, [.int zs0, .int ((1 : Int32) <<< (zs0 &&& 31)), .int (((1 : Int32) <<< (zs0 &&& 31)) - 1), .ref q_2, .ref q_4, .ref q_6])), (q_2, .inr (3, [.int zs0, .int ((1 : Int32) <<< (zs0 &&& 31)), .int (((1 : Int32) <<< (zs0 &&& 31)) - 1), .int (bI false), .ref q_3])), (q_3, .inl (cA.1, nn, .inl (fun _ => 1))), (q_4, .inr (3, [.int zs0, .int ((1 : Int32) <<< (zs0 &&& 31)), .int (((1 : Int32) <<< (zs0 &&& 31)) - 1), .int (bI true), .ref q_5])), (q_5, .inl (cA.1, nn, .inl (fun _ => 1))), (q_6, .inl (cA.1, nn, .inl (fun _ => 1)))] := hD
  refine W.widen (k := 6) (n := 3088) (by omega) (by omega) ?_
  refine W.widen (k := 7) (n := 10400) (by omega) (by omega) ?_
  exact W.aret hx hb hr (Or.inl ⟨_, rfl⟩) (Or.inr ⟨_, rfl⟩) (fun t ht hW => ⟨⟨_, _, rfl, trivial, ⟨q_2, q_3, q_4, q_5, q_6, rfl⟩, ⟨by rw [ht]; exact hP.sub [0, 1, 2, 3, 4, 5] rfl, va_K.moved hW.alike hK, hD.sub [0, 1, 2, 3, 4, 5] (by decide) rfl⟩⟩, hS.F ht⟩) hS.2.2 dPK_kindOf_98
set_option maxHeartbeats 4000000 in
set_option maxRecDepth 100000 in
theorem c_PK_kindOf_6 (l : Launch) (dC : Nat → ClassId) (dI : Nat → Nat → Nat) (cA : ClassId × ClassId × ClassId) (zz : Nat) (zs0 : Int32) (xs : Int32) (nn : Nat) (hnn : ((1 : Int32) <<< (zs0 &&& 31)) = nI nn) (hle : nn ≤ 1024) (hpz : 0 < nn) : Met l yPK_kindOf wPK_kindOf ({ frames := 4, cells := 7, slots := 10400, locals := 88 }) (va_Pc [.int 6, .int zs0, .int xs] (Wr (dC, dI) cA zz [])) (va_Qr (fun _ : va_W => True) (fun w9 q_1 t => (∃ q_2 q_3 q_4 q_5 q_6 : Nat, w9 = [(q_1, .inr (8, [.int zs0, .int ((1 : Int32) <<< (zs0 &&& 31)), .int (((1 : Int32) <<< (zs0 &&& 31)) - 1), .ref q_2, .ref q_4, .ref q_5, .ref q_6])), (q_2, .inr (3, [.int zs0, .int ((1 : Int32) <<< (zs0 &&& 31)), .int (((1 : Int32) <<< (zs0 &&& 31)) - 1), .int (bI false), .ref q_3])), (q_3, .inl (cA.1, nn, .inl (fun _ => 1))), (q_4, .inl (cA.1, (3 * nn), .inl (fun _ => (-1)))), (q_5, .inl (cA.1, (3 * nn), .inl (fun _ => 0))), (q_6, .inl (cA.1, (3 * nn), .inl (fun _ => 0)))]) ∧ At (dC, dI) cA (va_A [] zz) w9 t) (va_A [] zz)) 7 10400 (va_A [] zz) := by
  refine Met.ofW (cc := cPK_kindOf) (maxL := 3) (ret := (some (.object "PredictorKinds$Kind"))) (by decide) rfl ?_
  intro p e s m args below meth c s₁ B hml hv
  obtain ⟨rfl, hsz, hN, hP, hK, hD0⟩ := hv
  have hx := B.exec
  have hb := B.bytes
  have hr := B.returns
  have hts := atoms_spec (ws := wPK_kindOf) B.pre
  have htg : ∀ w ∈ GW, w.before _ s = true := fun w h => hts w (List.mem_cons_of_mem _ h)
  have hown : s.vm.findClass R_PK = some m.cls := findClass_of_methodNamed B.named
  have hlocks := B.notSynchronized
  subst hsz
  have hD := hD0.self (sz := s.heap.size)
  generalize hAe : va_A [] s.heap.size = A at hD ⊢
  have hA : ∀ q : Nat, s.heap.size ≤ q → A q := fun q h => by rw [← hAe]; exact Or.inr h
  have hS : va_S A s.heap s.heap [] := va_S.rf
  have hP : va_P (dC, dI) vwCl [] s.heap := hP
  have hl := lv_entry ([.int 6, .int zs0, .int xs]) (n := 3) (Nat.le_of_ble_eq_true rfl)
  rw [lg_entry_eq]
  generalize (lg_sl ([.int 6, .int zs0, .int xs]) ++ List.replicate (3 - (lg_sl ([.int 6, .int zs0, .int xs])).length) Slot.unset).toArray = ls at hl ⊢
  have hl : lv_has ls 3 [(0, .int 6), (1, .int zs0), (2, .int xs)] := hl
  refine lv_iload_n hx hb dPK_kindOf_0 rfl (lv_at hl 0 rfl) ?_
  refine lv_tableIn (tgt := 99) hx hb dPK_kindOf_1 (by decide) (by decide) rfl (by decide) ?_
  refine va_new (ci := 8) (fs := [.int 0, .int 0, .int 0, .null, .null, .null, .null]) (C := R_Tagged) (T := T_Tagged) (N := 7) hx hb htg in_Tagged ty_Tagged tk_Tagged hown (htg _ wd_151) (htg _ wd_152) (htg _ wd_9) hK hP hD hS hA rfl (fun j hj => by rcases (show j = 0 ∨ j = 1 ∨ j = 2 ∨ j = 3 ∨ j = 4 ∨ j = 5 ∨ j = 6 by omega) with rfl | rfl | rfl | rfl | rfl | rfl | rfl <;> rfl) (Nat.le_of_ble_eq_true rfl) (Nat.le_of_ble_eq_true rfl) dPK_kindOf_99 (fun q_1 H hP hD hS => ?_)
  have hP : va_P (dC, dI) vwCl [(q_1, .inr (8, [.int 0, .int 0, .int 0, .null, .null, .null, .null]))] H := hP
  have hD : va_D A [(q_1, .inr (8, [.int 0, .int 0, .int 0, .null, .null, .null, .null]))] := hD
  refine W.widen (k := 1) (n := 7) (by omega) (by omega) ?_
  refine lv_dup hx hb dPK_kindOf_102 rfl ?_
  refine lv_iload_n hx hb dPK_kindOf_103 rfl (lv_at hl 1 rfl) ?_
  refine wg_Iv (wr := []) (As := [.int zs0]) (rest := [.ref q_1]) ⟨hx, hb, hml, hown, htg⟩ (c_Tagged_init l dC dI cA _ q_1 zs0 nn hnn hle hpz) (cw_I htg wd_153 qTagged_init iTagged_init kTagged_init pTagged_init rfl rfl rfl ⟨Nat.le_of_ble_eq_true rfl, Nat.le_of_ble_eq_true rfl⟩) hN hP hD hS hA hK [0] [] rfl rfl (by decide) (by decide) (by decide) rfl hl.1 rfl (Nat.le_of_ble_eq_true rfl) dPK_kindOf_104 ⟨Nat.le_of_ble_eq_true rfl, Nat.le_of_ble_eq_true rfl⟩ (fun w1 hw H locs hP hD hS => ?_)
  obtain ⟨q_2, q_3, q_4, q_5, q_6, rfl⟩ := hw
  have hP : va_P (dC, dI) vwCl [(q_1, .inr (8, [.int zs0, .int ((1 : Int32) <<< (zs0 &&& 31)), .int (((1 : Int32) <<< (zs0 &&& 31)) - 1), .ref q_2, .ref q_4, .ref q_5, .ref q_6])), (q_2, .inr (3, [.int zs0, .int ((1 : Int32) <<< (zs0 &&& 31)), .int (((1 : Int32) <<< (zs0 &&& 31)) - 1), .int (bI false), .ref q_3])), (q_3, .inl (cA.1, nn, .inl (fun _ => 1))), (q_4, .inl (cA.1, (3 * nn), .inl (fun _ => (-1)))), (q_5, .inl (cA.1, (3 * nn), .inl (fun _ => 0))), (q_6, .inl (cA.1, (3 * nn), .inl (fun _ => 0)))] H := hP
  have hD : va_D A [(q_1, .inr (8, [.int zs0, .int ((1 : Int32) <<< (zs0 &&& 31)), .int (((1 : Int32) <<< (zs0 &&& 31)) - 1), .ref q_2, .ref q_4, .ref q_5, .ref q_6])), (q_2, .inr (3, [.int zs0, .int ((1 : Int32) <<< (zs0 &&& 31)), .int (((1 : Int32) <<< (zs0 &&& 31)) - 1), .int (bI false), .ref q_3])), (q_3, .inl (cA.1, nn, .inl (fun _ => 1))), (q_4, .inl (cA.1, (3 * nn), .inl (fun _ => (-1)))), (q_5, .inl (cA.1, (3 * nn), .inl (fun _ => 0))), (q_6, .inl (cA.1, (3 * nn), .inl (fun _ => 0)))] := hD
  refine W.widen (k := 6) (n := 10252) (by omega) (by omega) ?_
  refine W.widen (k := 7) (n := 10400) (by omega) (by omega) ?_
  exact W.aret hx hb hr (Or.inl ⟨_, rfl⟩) (Or.inr ⟨_, rfl⟩) (fun t ht hW => ⟨⟨_, _, rfl, trivial, ⟨q_2, q_3, q_4, q_5, q_6, rfl⟩, ⟨by rw [ht]; exact hP.sub [0, 1, 2, 3, 4, 5] rfl, va_K.moved hW.alike hK, hD.sub [0, 1, 2, 3, 4, 5] (by decide) rfl⟩⟩, hS.F ht⟩) hS.2.2 dPK_kindOf_107
set_option maxHeartbeats 4000000 in
set_option maxRecDepth 100000 in
theorem c_PK_kindOf_7 (l : Launch) (dC : Nat → ClassId) (dI : Nat → Nat → Nat) (cA : ClassId × ClassId × ClassId) (zz : Nat) (zs0 : Int32) (xs : Int32) (nn : Nat) (hnn : ((1 : Int32) <<< (zs0 &&& 31)) = nI nn) (hle : nn ≤ 1024) (hpz : 0 < nn) : Met l yPK_kindOf wPK_kindOf ({ frames := 3, cells := 7, slots := 10400, locals := 66 }) (va_Pc [.int 7, .int zs0, .int xs] (Wr (dC, dI) cA zz [])) (va_Qr (fun _ : va_W => True) (fun w9 q_1 t => (∃ q_2 : Nat, w9 = [(q_1, .inr (7, [.int zs0, .int ((1 : Int32) <<< (zs0 &&& 31)), .int (((1 : Int32) <<< (zs0 &&& 31)) - 1), .ref q_2])), (q_2, .inl (cA.1, (9 * nn), .inl (fun _ => 0)))]) ∧ At (dC, dI) cA (va_A [] zz) w9 t) (va_A [] zz)) 7 10400 (va_A [] zz) := by
  refine Met.ofW (cc := cPK_kindOf) (maxL := 3) (ret := (some (.object "PredictorKinds$Kind"))) (by decide) rfl ?_
  intro p e s m args below meth c s₁ B hml hv
  obtain ⟨rfl, hsz, hN, hP, hK, hD0⟩ := hv
  have hx := B.exec
  have hb := B.bytes
  have hr := B.returns
  have hts := atoms_spec (ws := wPK_kindOf) B.pre
  have htg : ∀ w ∈ GW, w.before _ s = true := fun w h => hts w (List.mem_cons_of_mem _ h)
  have hown : s.vm.findClass R_PK = some m.cls := findClass_of_methodNamed B.named
  have hlocks := B.notSynchronized
  subst hsz
  have hD := hD0.self (sz := s.heap.size)
  generalize hAe : va_A [] s.heap.size = A at hD ⊢
  have hA : ∀ q : Nat, s.heap.size ≤ q → A q := fun q h => by rw [← hAe]; exact Or.inr h
  have hS : va_S A s.heap s.heap [] := va_S.rf
  have hP : va_P (dC, dI) vwCl [] s.heap := hP
  have hl := lv_entry ([.int 7, .int zs0, .int xs]) (n := 3) (Nat.le_of_ble_eq_true rfl)
  rw [lg_entry_eq]
  generalize (lg_sl ([.int 7, .int zs0, .int xs]) ++ List.replicate (3 - (lg_sl ([.int 7, .int zs0, .int xs])).length) Slot.unset).toArray = ls at hl ⊢
  have hl : lv_has ls 3 [(0, .int 7), (1, .int zs0), (2, .int xs)] := hl
  refine lv_iload_n hx hb dPK_kindOf_0 rfl (lv_at hl 0 rfl) ?_
  refine lv_tableIn (tgt := 108) hx hb dPK_kindOf_1 (by decide) (by decide) rfl (by decide) ?_
  refine va_new (ci := 7) (fs := [.int 0, .int 0, .int 0, .null]) (C := R_Sums) (T := T_Sums) (N := 4) hx hb htg in_Sums ty_Sums tk_Sums hown (htg _ wd_176) (htg _ wd_177) (htg _ wd_10) hK hP hD hS hA rfl (fun j hj => by rcases (show j = 0 ∨ j = 1 ∨ j = 2 ∨ j = 3 by omega) with rfl | rfl | rfl | rfl <;> rfl) (Nat.le_of_ble_eq_true rfl) (Nat.le_of_ble_eq_true rfl) dPK_kindOf_108 (fun q_1 H hP hD hS => ?_)
  have hP : va_P (dC, dI) vwCl [(q_1, .inr (7, [.int 0, .int 0, .int 0, .null]))] H := hP
  have hD : va_D A [(q_1, .inr (7, [.int 0, .int 0, .int 0, .null]))] := hD
  refine W.widen (k := 1) (n := 4) (by omega) (by omega) ?_
  refine lv_dup hx hb dPK_kindOf_111 rfl ?_
  refine lv_iload_n hx hb dPK_kindOf_112 rfl (lv_at hl 1 rfl) ?_
  refine wg_Iv (wr := []) (As := [.int zs0]) (rest := [.ref q_1]) ⟨hx, hb, hml, hown, htg⟩ (c_Sums_init l dC dI cA _ q_1 zs0 nn hnn hle hpz) (cw_I htg wd_178 qSums_init iSums_init kSums_init pSums_init rfl rfl rfl ⟨Nat.le_of_ble_eq_true rfl, Nat.le_of_ble_eq_true rfl⟩) hN hP hD hS hA hK [0] [] rfl rfl (by decide) (by decide) (by decide) rfl hl.1 rfl (Nat.le_of_ble_eq_true rfl) dPK_kindOf_113 ⟨Nat.le_of_ble_eq_true rfl, Nat.le_of_ble_eq_true rfl⟩ (fun w1 hw H locs hP hD hS => ?_)
  obtain ⟨q_2, rfl⟩ := hw
  have hP : va_P (dC, dI) vwCl [(q_1, .inr (7, [.int zs0, .int ((1 : Int32) <<< (zs0 &&& 31)), .int (((1 : Int32) <<< (zs0 &&& 31)) - 1), .ref q_2])), (q_2, .inl (cA.1, (9 * nn), .inl (fun _ => 0)))] H := hP
  have hD : va_D A [(q_1, .inr (7, [.int zs0, .int ((1 : Int32) <<< (zs0 &&& 31)), .int (((1 : Int32) <<< (zs0 &&& 31)) - 1), .ref q_2])), (q_2, .inl (cA.1, (9 * nn), .inl (fun _ => 0)))] := hD
  refine W.widen (k := 2) (n := 9220) (by omega) (by omega) ?_
  refine W.widen (k := 7) (n := 10400) (by omega) (by omega) ?_
  exact W.aret hx hb hr (Or.inl ⟨_, rfl⟩) (Or.inr ⟨_, rfl⟩) (fun t ht hW => ⟨⟨_, _, rfl, trivial, ⟨q_2, rfl⟩, ⟨by rw [ht]; exact hP.sub [0, 1] rfl, va_K.moved hW.alike hK, hD.sub [0, 1] (by decide) rfl⟩⟩, hS.F ht⟩) hS.2.2 dPK_kindOf_116
set_option maxHeartbeats 4000000 in
set_option maxRecDepth 100000 in
theorem c_PK_kindOf_8 (l : Launch) (dC : Nat → ClassId) (dI : Nat → Nat → Nat) (cA : ClassId × ClassId × ClassId) (zz : Nat) (zs0 : Int32) (xs : Int32) (nn : Nat) (hnn : ((1 : Int32) <<< (zs0 &&& 31)) = nI nn) (hle : nn ≤ 1024) (hpz : 0 < nn) : Met l yPK_kindOf wPK_kindOf ({ frames := 4, cells := 7, slots := 10400, locals := 88 }) (va_Pc [.int 8, .int zs0, .int xs] (Wr (dC, dI) cA zz [])) (va_Qr (fun _ : va_W => True) (fun w9 q_1 t => (∃ q_2 q_3 q_4 q_5 q_6 q_7 : Nat, w9 = [(q_1, .inr (5, [.int zs0, .int ((1 : Int32) <<< (zs0 &&& 31)), .int (((1 : Int32) <<< (zs0 &&& 31)) - 1), .ref q_2, .ref q_4, .ref q_5, .ref q_6, .ref q_7])), (q_2, .inr (3, [.int zs0, .int ((1 : Int32) <<< (zs0 &&& 31)), .int (((1 : Int32) <<< (zs0 &&& 31)) - 1), .int (bI false), .ref q_3])), (q_3, .inl (cA.1, nn, .inl (fun _ => 1))), (q_4, .inl (cA.1, nn, .inl (fun _ => (-1)))), (q_5, .inl (cA.1, nn, .inl (fun _ => 0))), (q_6, .inl (cA.1, nn, .inl (fun _ => 0))), (q_7, .inl (cA.1, nn, .inl (fun _ => 0)))]) ∧ At (dC, dI) cA (va_A [] zz) w9 t) (va_A [] zz)) 7 10400 (va_A [] zz) := by
  refine Met.ofW (cc := cPK_kindOf) (maxL := 3) (ret := (some (.object "PredictorKinds$Kind"))) (by decide) rfl ?_
  intro p e s m args below meth c s₁ B hml hv
  obtain ⟨rfl, hsz, hN, hP, hK, hD0⟩ := hv
  have hx := B.exec
  have hb := B.bytes
  have hr := B.returns
  have hts := atoms_spec (ws := wPK_kindOf) B.pre
  have htg : ∀ w ∈ GW, w.before _ s = true := fun w h => hts w (List.mem_cons_of_mem _ h)
  have hown : s.vm.findClass R_PK = some m.cls := findClass_of_methodNamed B.named
  have hlocks := B.notSynchronized
  subst hsz
  have hD := hD0.self (sz := s.heap.size)
  generalize hAe : va_A [] s.heap.size = A at hD ⊢
  have hA : ∀ q : Nat, s.heap.size ≤ q → A q := fun q h => by rw [← hAe]; exact Or.inr h
  have hS : va_S A s.heap s.heap [] := va_S.rf
  have hP : va_P (dC, dI) vwCl [] s.heap := hP
  have hl := lv_entry ([.int 8, .int zs0, .int xs]) (n := 3) (Nat.le_of_ble_eq_true rfl)
  rw [lg_entry_eq]
  generalize (lg_sl ([.int 8, .int zs0, .int xs]) ++ List.replicate (3 - (lg_sl ([.int 8, .int zs0, .int xs])).length) Slot.unset).toArray = ls at hl ⊢
  have hl : lv_has ls 3 [(0, .int 8), (1, .int zs0), (2, .int xs)] := hl
  refine lv_iload_n hx hb dPK_kindOf_0 rfl (lv_at hl 0 rfl) ?_
  refine lv_tableIn (tgt := 117) hx hb dPK_kindOf_1 (by decide) (by decide) rfl (by decide) ?_
  refine va_new (ci := 5) (fs := [.int 0, .int 0, .int 0, .null, .null, .null, .null, .null]) (C := R_Loops) (T := T_Loops) (N := 8) hx hb htg in_Loops ty_Loops tk_Loops hown (htg _ wd_190) (htg _ wd_191) (htg _ wd_11) hK hP hD hS hA rfl (fun j hj => by rcases (show j = 0 ∨ j = 1 ∨ j = 2 ∨ j = 3 ∨ j = 4 ∨ j = 5 ∨ j = 6 ∨ j = 7 by omega) with rfl | rfl | rfl | rfl | rfl | rfl | rfl | rfl <;> rfl) (Nat.le_of_ble_eq_true rfl) (Nat.le_of_ble_eq_true rfl) dPK_kindOf_117 (fun q_1 H hP hD hS => ?_)
  have hP : va_P (dC, dI) vwCl [(q_1, .inr (5, [.int 0, .int 0, .int 0, .null, .null, .null, .null, .null]))] H := hP
  have hD : va_D A [(q_1, .inr (5, [.int 0, .int 0, .int 0, .null, .null, .null, .null, .null]))] := hD
  refine W.widen (k := 1) (n := 8) (by omega) (by omega) ?_
  refine lv_dup hx hb dPK_kindOf_120 rfl ?_
  refine lv_iload_n hx hb dPK_kindOf_121 rfl (lv_at hl 1 rfl) ?_
  refine wg_Iv (wr := []) (As := [.int zs0]) (rest := [.ref q_1]) ⟨hx, hb, hml, hown, htg⟩ (c_Loops_init l dC dI cA _ q_1 zs0 nn hnn hle hpz) (cw_I htg wd_192 qLoops_init iLoops_init kLoops_init pLoops_init rfl rfl rfl ⟨Nat.le_of_ble_eq_true rfl, Nat.le_of_ble_eq_true rfl⟩) hN hP hD hS hA hK [0] [] rfl rfl (by decide) (by decide) (by decide) rfl hl.1 rfl (Nat.le_of_ble_eq_true rfl) dPK_kindOf_122 ⟨Nat.le_of_ble_eq_true rfl, Nat.le_of_ble_eq_true rfl⟩ (fun w1 hw H locs hP hD hS => ?_)
  obtain ⟨q_2, q_3, q_4, q_5, q_6, q_7, rfl⟩ := hw
  have hP : va_P (dC, dI) vwCl [(q_1, .inr (5, [.int zs0, .int ((1 : Int32) <<< (zs0 &&& 31)), .int (((1 : Int32) <<< (zs0 &&& 31)) - 1), .ref q_2, .ref q_4, .ref q_5, .ref q_6, .ref q_7])), (q_2, .inr (3, [.int zs0, .int ((1 : Int32) <<< (zs0 &&& 31)), .int (((1 : Int32) <<< (zs0 &&& 31)) - 1), .int (bI false), .ref q_3])), (q_3, .inl (cA.1, nn, .inl (fun _ => 1))), (q_4, .inl (cA.1, nn, .inl (fun _ => (-1)))), (q_5, .inl (cA.1, nn, .inl (fun _ => 0))), (q_6, .inl (cA.1, nn, .inl (fun _ => 0))), (q_7, .inl (cA.1, nn, .inl (fun _ => 0)))] H := hP
  have hD : va_D A [(q_1, .inr (5, [.int zs0, .int ((1 : Int32) <<< (zs0 &&& 31)), .int (((1 : Int32) <<< (zs0 &&& 31)) - 1), .ref q_2, .ref q_4, .ref q_5, .ref q_6, .ref q_7])), (q_2, .inr (3, [.int zs0, .int ((1 : Int32) <<< (zs0 &&& 31)), .int (((1 : Int32) <<< (zs0 &&& 31)) - 1), .int (bI false), .ref q_3])), (q_3, .inl (cA.1, nn, .inl (fun _ => 1))), (q_4, .inl (cA.1, nn, .inl (fun _ => (-1)))), (q_5, .inl (cA.1, nn, .inl (fun _ => 0))), (q_6, .inl (cA.1, nn, .inl (fun _ => 0))), (q_7, .inl (cA.1, nn, .inl (fun _ => 0)))] := hD
  refine W.widen (k := 7) (n := 5133) (by omega) (by omega) ?_
  refine W.widen (k := 7) (n := 10400) (by omega) (by omega) ?_
  exact W.aret hx hb hr (Or.inl ⟨_, rfl⟩) (Or.inr ⟨_, rfl⟩) (fun t ht hW => ⟨⟨_, _, rfl, trivial, ⟨q_2, q_3, q_4, q_5, q_6, q_7, rfl⟩, ⟨by rw [ht]; exact hP.sub [0, 1, 2, 3, 4, 5, 6] rfl, va_K.moved hW.alike hK, hD.sub [0, 1, 2, 3, 4, 5, 6] (by decide) rfl⟩⟩, hS.F ht⟩) hS.2.2 dPK_kindOf_125
set_option maxHeartbeats 4000000 in
set_option maxRecDepth 100000 in
theorem c_PK_kindOf_9 (l : Launch) (dC : Nat → ClassId) (dI : Nat → Nat → Nat) (cA : ClassId × ClassId × ClassId) (zz : Nat) (zs0 : Int32) (xs : Int32) (nn : Nat) (hnn : ((1 : Int32) <<< (zs0 &&& 31)) = nI nn) (hle : nn ≤ 1024) (hpz : 0 < nn) : Met l yPK_kindOf wPK_kindOf ({ frames := 3, cells := 7, slots := 10400, locals := 63 }) (va_Pc [.int 9, .int zs0, .int xs] (Wr (dC, dI) cA zz [])) (va_Qr (fun _ : va_W => True) (fun w9 q_1 t => (w9 = [(q_1, .inr (2, [.int zs0, .int ((1 : Int32) <<< (zs0 &&& 31)), .int (((1 : Int32) <<< (zs0 &&& 31)) - 1), .int xs]))]) ∧ At (dC, dI) cA (va_A [] zz) w9 t) (va_A [] zz)) 7 10400 (va_A [] zz) := by
  refine Met.ofW (cc := cPK_kindOf) (maxL := 3) (ret := (some (.object "PredictorKinds$Kind"))) (by decide) rfl ?_
  intro p e s m args below meth c s₁ B hml hv
  obtain ⟨rfl, hsz, hN, hP, hK, hD0⟩ := hv
  have hx := B.exec
  have hb := B.bytes
  have hr := B.returns
  have hts := atoms_spec (ws := wPK_kindOf) B.pre
  have htg : ∀ w ∈ GW, w.before _ s = true := fun w h => hts w (List.mem_cons_of_mem _ h)
  have hown : s.vm.findClass R_PK = some m.cls := findClass_of_methodNamed B.named
  have hlocks := B.notSynchronized
  subst hsz
  have hD := hD0.self (sz := s.heap.size)
  generalize hAe : va_A [] s.heap.size = A at hD ⊢
  have hA : ∀ q : Nat, s.heap.size ≤ q → A q := fun q h => by rw [← hAe]; exact Or.inr h
  have hS : va_S A s.heap s.heap [] := va_S.rf
  have hP : va_P (dC, dI) vwCl [] s.heap := hP
  have hl := lv_entry ([.int 9, .int zs0, .int xs]) (n := 3) (Nat.le_of_ble_eq_true rfl)
  rw [lg_entry_eq]
  generalize (lg_sl ([.int 9, .int zs0, .int xs]) ++ List.replicate (3 - (lg_sl ([.int 9, .int zs0, .int xs])).length) Slot.unset).toArray = ls at hl ⊢
  have hl : lv_has ls 3 [(0, .int 9), (1, .int zs0), (2, .int xs)] := hl
  refine lv_iload_n hx hb dPK_kindOf_0 rfl (lv_at hl 0 rfl) ?_
  refine lv_tableIn (tgt := 126) hx hb dPK_kindOf_1 (by decide) (by decide) rfl (by decide) ?_
  refine va_new (ci := 2) (fs := [.int 0, .int 0, .int 0, .int 0]) (C := R_Coin) (T := T_Coin) (N := 4) hx hb htg in_Coin ty_Coin tk_Coin hown (htg _ wd_218) (htg _ wd_219) (htg _ wd_12) hK hP hD hS hA rfl (fun j hj => by rcases (show j = 0 ∨ j = 1 ∨ j = 2 ∨ j = 3 by omega) with rfl | rfl | rfl | rfl <;> rfl) (Nat.le_of_ble_eq_true rfl) (Nat.le_of_ble_eq_true rfl) dPK_kindOf_126 (fun q_1 H hP hD hS => ?_)
  have hP : va_P (dC, dI) vwCl [(q_1, .inr (2, [.int 0, .int 0, .int 0, .int 0]))] H := hP
  have hD : va_D A [(q_1, .inr (2, [.int 0, .int 0, .int 0, .int 0]))] := hD
  refine W.widen (k := 1) (n := 4) (by omega) (by omega) ?_
  refine lv_dup hx hb dPK_kindOf_129 rfl ?_
  refine lv_iload_n hx hb dPK_kindOf_130 rfl (lv_at hl 1 rfl) ?_
  refine lv_iload_n hx hb dPK_kindOf_131 rfl (lv_at hl 2 rfl) ?_
  refine wg_Iv (wr := []) (As := [.int zs0, .int xs]) (rest := [.ref q_1]) ⟨hx, hb, hml, hown, htg⟩ (c_Coin_init l dC dI cA _ q_1 zs0 xs) (cw_I htg wd_220 qCoin_init iCoin_init kCoin_init pCoin_init rfl rfl rfl ⟨Nat.le_of_ble_eq_true rfl, Nat.le_of_ble_eq_true rfl⟩) hN hP hD hS hA hK [0] [] rfl rfl (by decide) (by decide) (by decide) rfl hl.1 rfl (Nat.le_of_ble_eq_true rfl) dPK_kindOf_132 ⟨Nat.le_of_ble_eq_true rfl, Nat.le_of_ble_eq_true rfl⟩ (fun w1 hw H locs hP hD hS => ?_)
  obtain rfl := hw
  have hP : va_P (dC, dI) vwCl [(q_1, .inr (2, [.int zs0, .int ((1 : Int32) <<< (zs0 &&& 31)), .int (((1 : Int32) <<< (zs0 &&& 31)) - 1), .int xs]))] H := hP
  have hD : va_D A [(q_1, .inr (2, [.int zs0, .int ((1 : Int32) <<< (zs0 &&& 31)), .int (((1 : Int32) <<< (zs0 &&& 31)) - 1), .int xs]))] := hD
  refine W.widen (k := 1) (n := 4) (by omega) (by omega) ?_
  refine W.widen (k := 7) (n := 10400) (by omega) (by omega) ?_
  exact W.aret hx hb hr (Or.inl ⟨_, rfl⟩) (Or.inr ⟨_, rfl⟩) (fun t ht hW => ⟨⟨_, _, rfl, trivial, rfl, ⟨by rw [ht]; exact hP.sub [0] rfl, va_K.moved hW.alike hK, hD.sub [0] (by decide) rfl⟩⟩, hS.F ht⟩) hS.2.2 dPK_kindOf_135
