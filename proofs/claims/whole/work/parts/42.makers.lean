set_option maxHeartbeats 4000000 in
set_option maxRecDepth 100000 in
theorem c_Kind_init_Always (l : Launch) (dC : Nat → ClassId) (dI : Nat → Nat → Nat) (cA : ClassId × ClassId × ClassId) (zz : Nat) (h0 : Nat) (zs0 : Int32) : Met l yKind_init wKind_init ({ frames := 1, cells := 0, slots := 0, locals := 20 }) (va_Pc [.ref h0, .int zs0] (Wr (dC, dI) cA zz [(h0, .inr (0, [.int 0, .int 0, .int 0]))])) (va_Qv (fun w9 => w9 = [(h0, .inr (0, [.int zs0, .int ((1 : Int32) <<< (zs0 &&& 31)), .int (((1 : Int32) <<< (zs0 &&& 31)) - 1)]))]) (At (dC, dI) cA (va_A [(h0, .inr (0, [.int 0, .int 0, .int 0]))] zz)) (va_A [(h0, .inr (0, [.int 0, .int 0, .int 0]))] zz)) 0 0 (va_A [(h0, .inr (0, [.int 0, .int 0, .int 0]))] zz) := by
  refine Met.ofW (cc := cKind_init) (maxL := 2) (ret := none) (by decide) rfl ?_
  intro p e s m args below meth c s₁ B hml hv
  obtain ⟨rfl, hsz, hN, hP, hK, hD0⟩ := hv
  have hx := B.exec
  have hb := B.bytes
  have hr := B.returns
  have hts := atoms_spec (ws := wKind_init) B.pre
  have htg : ∀ w ∈ GW, w.before _ s = true := fun w h => hts w (List.mem_cons_of_mem _ h)
  have hown : s.vm.findClass R_Kind = some m.cls := findClass_of_methodNamed B.named
  have hlocks := B.notSynchronized
  have hin : meth.name = "<init>" := (name_of_methodNamed B.named B.method).1
  subst hsz
  have hD := hD0.self (sz := s.heap.size)
  generalize hAe : va_A [(h0, .inr (0, [.int 0, .int 0, .int 0]))] s.heap.size = A at hD ⊢
  have hA : ∀ q : Nat, s.heap.size ≤ q → A q := fun q h => by rw [← hAe]; exact Or.inr h
  have hS : va_S A s.heap s.heap [] := va_S.rf
  have hP : va_P (dC, dI) vwCl [(h0, .inr (0, [.int 0, .int 0, .int 0]))] s.heap := hP
  have hl := lv_entry ([.ref h0, .int zs0]) (n := 2) (Nat.le_of_ble_eq_true rfl)
  rw [lg_entry_eq]
  generalize (lg_sl ([.ref h0, .int zs0]) ++ List.replicate (2 - (lg_sl ([.ref h0, .int zs0])).length) Slot.unset).toArray = ls at hl ⊢
  have hl : lv_has ls 2 [(0, .ref h0), (1, .int zs0)] := hl
  refine lv_aload_n hx hb dKind_init_0 rfl (lv_at hl 0 rfl) ?_
  refine W.objInit hx hb hown (htg _ wd_48) (htg _ wd_999001) (htg _ wd_999002) rfl (by rw [hml]; exact hl.1) rfl dKind_init_1 (Nat.le_of_ble_eq_true rfl) (Nat.le_of_ble_eq_true rfl) ?_
  refine W.eq (g2 := F0 m 4 ls []) rfl ?_
  refine lv_aload_n hx hb dKind_init_4 rfl (lv_at hl 0 rfl) ?_
  refine lv_iload_n hx hb dKind_init_5 rfl (lv_at hl 1 rfl) ?_
  refine va_putF (D := (dC, dI)) (ci := 0) (v := .int zs0) (ty := .int) (C := R_Always) (T := T_Always) (N := 3) hx hb htg in_Always ty_Always tk_Always nm_Always hown hK hP hD hS 0 rfl rfl 0 (by decide) (htg _ wd_56) (fun _ h9 => h9) rfl hin rfl (by decide +kernel) rfl rfl (Nat.le_of_ble_eq_true rfl) dKind_init_6 (fun H locs hP hD hS => ?_)
  have hP : va_P (dC, dI) vwCl [(h0, .inr (0, [.int zs0, .int 0, .int 0]))] H := hP
  have hD : va_D A [(h0, .inr (0, [.int zs0, .int 0, .int 0]))] := hD
  refine lv_aload_n hx hb dKind_init_9 rfl (lv_at hl 0 rfl) ?_
  refine lv_iconst (v := 1) hx hb dKind_init_10 (by decide) ?_
  refine lv_iload_n hx hb dKind_init_11 rfl (lv_at hl 1 rfl) ?_
  refine lv_ishl hx hb dKind_init_12 ?_
  refine va_putF (D := (dC, dI)) (ci := 0) (v := .int ((1 : Int32) <<< (zs0 &&& 31))) (ty := .int) (C := R_Always) (T := T_Always) (N := 3) hx hb htg in_Always ty_Always tk_Always nm_Always hown hK hP hD hS 0 rfl rfl 1 (by decide) (htg _ wd_71) (fun _ h9 => h9) rfl hin rfl (by decide +kernel) rfl rfl (Nat.le_of_ble_eq_true rfl) dKind_init_13 (fun H locs hP hD hS => ?_)
  have hP : va_P (dC, dI) vwCl [(h0, .inr (0, [.int zs0, .int ((1 : Int32) <<< (zs0 &&& 31)), .int 0]))] H := hP
  have hD : va_D A [(h0, .inr (0, [.int zs0, .int ((1 : Int32) <<< (zs0 &&& 31)), .int 0]))] := hD
  refine lv_aload_n hx hb dKind_init_16 rfl (lv_at hl 0 rfl) ?_
  refine lv_aload_n hx hb dKind_init_17 rfl (lv_at hl 0 rfl) ?_
  refine va_get (D := (dC, dI)) (ci := 0) (v := .int ((1 : Int32) <<< (zs0 &&& 31))) (C := R_Always) (T := T_Always) (N := 3) hx hb htg in_Always hown hK hP 0 rfl rfl 1 (by decide) (htg _ wd_71) (fun _ h9 => h9) rfl dKind_init_18 ?_
  refine lv_iconst (v := 1) hx hb dKind_init_21 (by decide) ?_
  refine lv_isub hx hb dKind_init_22 ?_
  refine va_putF (D := (dC, dI)) (ci := 0) (v := .int (((1 : Int32) <<< (zs0 &&& 31)) - 1)) (ty := .int) (C := R_Always) (T := T_Always) (N := 3) hx hb htg in_Always ty_Always tk_Always nm_Always hown hK hP hD hS 0 rfl rfl 2 (by decide) (htg _ wd_78) (fun _ h9 => h9) rfl hin rfl (by decide +kernel) rfl rfl (Nat.le_of_ble_eq_true rfl) dKind_init_23 (fun H locs hP hD hS => ?_)
  have hP : va_P (dC, dI) vwCl [(h0, .inr (0, [.int zs0, .int ((1 : Int32) <<< (zs0 &&& 31)), .int (((1 : Int32) <<< (zs0 &&& 31)) - 1)]))] H := hP
  have hD : va_D A [(h0, .inr (0, [.int zs0, .int ((1 : Int32) <<< (zs0 &&& 31)), .int (((1 : Int32) <<< (zs0 &&& 31)) - 1)]))] := hD
  refine W.widen (k := 0) (n := 0) (by omega) (by omega) ?_
  exact W.vret hx hb hr (fun t ht hW => ⟨⟨_, rfl, rfl, ⟨by rw [ht]; exact hP.sub [0] rfl, va_K.moved hW.alike hK, hD.sub [0] (by decide) rfl⟩⟩, hS.F ht⟩) hS.2.2 dKind_init_26
set_option maxHeartbeats 4000000 in
set_option maxRecDepth 100000 in
theorem c_Kind_init_Last (l : Launch) (dC : Nat → ClassId) (dI : Nat → Nat → Nat) (cA : ClassId × ClassId × ClassId) (zz : Nat) (h0 : Nat) (zs0 : Int32) : Met l yKind_init wKind_init ({ frames := 1, cells := 0, slots := 0, locals := 20 }) (va_Pc [.ref h0, .int zs0] (Wr (dC, dI) cA zz [(h0, .inr (4, [.int 0, .int 0, .int 0, .null]))])) (va_Qv (fun w9 => w9 = [(h0, .inr (4, [.int zs0, .int ((1 : Int32) <<< (zs0 &&& 31)), .int (((1 : Int32) <<< (zs0 &&& 31)) - 1), .null]))]) (At (dC, dI) cA (va_A [(h0, .inr (4, [.int 0, .int 0, .int 0, .null]))] zz)) (va_A [(h0, .inr (4, [.int 0, .int 0, .int 0, .null]))] zz)) 0 0 (va_A [(h0, .inr (4, [.int 0, .int 0, .int 0, .null]))] zz) := by
  refine Met.ofW (cc := cKind_init) (maxL := 2) (ret := none) (by decide) rfl ?_
  intro p e s m args below meth c s₁ B hml hv
  obtain ⟨rfl, hsz, hN, hP, hK, hD0⟩ := hv
  have hx := B.exec
  have hb := B.bytes
  have hr := B.returns
  have hts := atoms_spec (ws := wKind_init) B.pre
  have htg : ∀ w ∈ GW, w.before _ s = true := fun w h => hts w (List.mem_cons_of_mem _ h)
  have hown : s.vm.findClass R_Kind = some m.cls := findClass_of_methodNamed B.named
  have hlocks := B.notSynchronized
  have hin : meth.name = "<init>" := (name_of_methodNamed B.named B.method).1
  subst hsz
  have hD := hD0.self (sz := s.heap.size)
  generalize hAe : va_A [(h0, .inr (4, [.int 0, .int 0, .int 0, .null]))] s.heap.size = A at hD ⊢
  have hA : ∀ q : Nat, s.heap.size ≤ q → A q := fun q h => by rw [← hAe]; exact Or.inr h
  have hS : va_S A s.heap s.heap [] := va_S.rf
  have hP : va_P (dC, dI) vwCl [(h0, .inr (4, [.int 0, .int 0, .int 0, .null]))] s.heap := hP
  have hl := lv_entry ([.ref h0, .int zs0]) (n := 2) (Nat.le_of_ble_eq_true rfl)
  rw [lg_entry_eq]
  generalize (lg_sl ([.ref h0, .int zs0]) ++ List.replicate (2 - (lg_sl ([.ref h0, .int zs0])).length) Slot.unset).toArray = ls at hl ⊢
  have hl : lv_has ls 2 [(0, .ref h0), (1, .int zs0)] := hl
  refine lv_aload_n hx hb dKind_init_0 rfl (lv_at hl 0 rfl) ?_
  refine W.objInit hx hb hown (htg _ wd_48) (htg _ wd_999001) (htg _ wd_999002) rfl (by rw [hml]; exact hl.1) rfl dKind_init_1 (Nat.le_of_ble_eq_true rfl) (Nat.le_of_ble_eq_true rfl) ?_
  refine W.eq (g2 := F0 m 4 ls []) rfl ?_
  refine lv_aload_n hx hb dKind_init_4 rfl (lv_at hl 0 rfl) ?_
  refine lv_iload_n hx hb dKind_init_5 rfl (lv_at hl 1 rfl) ?_
  refine va_putF (D := (dC, dI)) (ci := 4) (v := .int zs0) (ty := .int) (C := R_Last) (T := T_Last) (N := 4) hx hb htg in_Last ty_Last tk_Last nm_Last hown hK hP hD hS 0 rfl rfl 0 (by decide) (htg _ wd_56) (fun _ h9 => h9) rfl hin rfl (by decide +kernel) rfl rfl (Nat.le_of_ble_eq_true rfl) dKind_init_6 (fun H locs hP hD hS => ?_)
  have hP : va_P (dC, dI) vwCl [(h0, .inr (4, [.int zs0, .int 0, .int 0, .null]))] H := hP
  have hD : va_D A [(h0, .inr (4, [.int zs0, .int 0, .int 0, .null]))] := hD
  refine lv_aload_n hx hb dKind_init_9 rfl (lv_at hl 0 rfl) ?_
  refine lv_iconst (v := 1) hx hb dKind_init_10 (by decide) ?_
  refine lv_iload_n hx hb dKind_init_11 rfl (lv_at hl 1 rfl) ?_
  refine lv_ishl hx hb dKind_init_12 ?_
  refine va_putF (D := (dC, dI)) (ci := 4) (v := .int ((1 : Int32) <<< (zs0 &&& 31))) (ty := .int) (C := R_Last) (T := T_Last) (N := 4) hx hb htg in_Last ty_Last tk_Last nm_Last hown hK hP hD hS 0 rfl rfl 1 (by decide) (htg _ wd_71) (fun _ h9 => h9) rfl hin rfl (by decide +kernel) rfl rfl (Nat.le_of_ble_eq_true rfl) dKind_init_13 (fun H locs hP hD hS => ?_)
  have hP : va_P (dC, dI) vwCl [(h0, .inr (4, [.int zs0, .int ((1 : Int32) <<< (zs0 &&& 31)), .int 0, .null]))] H := hP
  have hD : va_D A [(h0, .inr (4, [.int zs0, .int ((1 : Int32) <<< (zs0 &&& 31)), .int 0, .null]))] := hD
  refine lv_aload_n hx hb dKind_init_16 rfl (lv_at hl 0 rfl) ?_
  refine lv_aload_n hx hb dKind_init_17 rfl (lv_at hl 0 rfl) ?_
  refine va_get (D := (dC, dI)) (ci := 4) (v := .int ((1 : Int32) <<< (zs0 &&& 31))) (C := R_Last) (T := T_Last) (N := 4) hx hb htg in_Last hown hK hP 0 rfl rfl 1 (by decide) (htg _ wd_71) (fun _ h9 => h9) rfl dKind_init_18 ?_
  refine lv_iconst (v := 1) hx hb dKind_init_21 (by decide) ?_
  refine lv_isub hx hb dKind_init_22 ?_
  refine va_putF (D := (dC, dI)) (ci := 4) (v := .int (((1 : Int32) <<< (zs0 &&& 31)) - 1)) (ty := .int) (C := R_Last) (T := T_Last) (N := 4) hx hb htg in_Last ty_Last tk_Last nm_Last hown hK hP hD hS 0 rfl rfl 2 (by decide) (htg _ wd_78) (fun _ h9 => h9) rfl hin rfl (by decide +kernel) rfl rfl (Nat.le_of_ble_eq_true rfl) dKind_init_23 (fun H locs hP hD hS => ?_)
  have hP : va_P (dC, dI) vwCl [(h0, .inr (4, [.int zs0, .int ((1 : Int32) <<< (zs0 &&& 31)), .int (((1 : Int32) <<< (zs0 &&& 31)) - 1), .null]))] H := hP
  have hD : va_D A [(h0, .inr (4, [.int zs0, .int ((1 : Int32) <<< (zs0 &&& 31)), .int (((1 : Int32) <<< (zs0 &&& 31)) - 1), .null]))] := hD
  refine W.widen (k := 0) (n := 0) (by omega) (by omega) ?_
  exact W.vret hx hb hr (fun t ht hW => ⟨⟨_, rfl, rfl, ⟨by rw [ht]; exact hP.sub [0] rfl, va_K.moved hW.alike hK, hD.sub [0] (by decide) rfl⟩⟩, hS.F ht⟩) hS.2.2 dKind_init_26
set_option maxHeartbeats 4000000 in
set_option maxRecDepth 100000 in
theorem c_Kind_init_Counters (l : Launch) (dC : Nat → ClassId) (dI : Nat → Nat → Nat) (cA : ClassId × ClassId × ClassId) (zz : Nat) (h0 : Nat) (zs0 : Int32) : Met l yKind_init wKind_init ({ frames := 1, cells := 0, slots := 0, locals := 20 }) (va_Pc [.ref h0, .int zs0] (Wr (dC, dI) cA zz [(h0, .inr (3, [.int 0, .int 0, .int 0, .int (bI false), .null]))])) (va_Qv (fun w9 => w9 = [(h0, .inr (3, [.int zs0, .int ((1 : Int32) <<< (zs0 &&& 31)), .int (((1 : Int32) <<< (zs0 &&& 31)) - 1), .int (bI false), .null]))]) (At (dC, dI) cA (va_A [(h0, .inr (3, [.int 0, .int 0, .int 0, .int (bI false), .null]))] zz)) (va_A [(h0, .inr (3, [.int 0, .int 0, .int 0, .int (bI false), .null]))] zz)) 0 0 (va_A [(h0, .inr (3, [.int 0, .int 0, .int 0, .int (bI false), .null]))] zz) := by
  refine Met.ofW (cc := cKind_init) (maxL := 2) (ret := none) (by decide) rfl ?_
  intro p e s m args below meth c s₁ B hml hv
  obtain ⟨rfl, hsz, hN, hP, hK, hD0⟩ := hv
  have hx := B.exec
  have hb := B.bytes
  have hr := B.returns
  have hts := atoms_spec (ws := wKind_init) B.pre
  have htg : ∀ w ∈ GW, w.before _ s = true := fun w h => hts w (List.mem_cons_of_mem _ h)
  have hown : s.vm.findClass R_Kind = some m.cls := findClass_of_methodNamed B.named
  have hlocks := B.notSynchronized
  have hin : meth.name = "<init>" := (name_of_methodNamed B.named B.method).1
  subst hsz
  have hD := hD0.self (sz := s.heap.size)
  generalize hAe : va_A [(h0, .inr (3, [.int 0, .int 0, .int 0, .int (bI false), .null]))] s.heap.size = A at hD ⊢
  have hA : ∀ q : Nat, s.heap.size ≤ q → A q := fun q h => by rw [← hAe]; exact Or.inr h
  have hS : va_S A s.heap s.heap [] := va_S.rf
  have hP : va_P (dC, dI) vwCl [(h0, .inr (3, [.int 0, .int 0, .int 0, .int (bI false), .null]))] s.heap := hP
  have hl := lv_entry ([.ref h0, .int zs0]) (n := 2) (Nat.le_of_ble_eq_true rfl)
  rw [lg_entry_eq]
  generalize (lg_sl ([.ref h0, .int zs0]) ++ List.replicate (2 - (lg_sl ([.ref h0, .int zs0])).length) Slot.unset).toArray = ls at hl ⊢
  have hl : lv_has ls 2 [(0, .ref h0), (1, .int zs0)] := hl
  refine lv_aload_n hx hb dKind_init_0 rfl (lv_at hl 0 rfl) ?_
  refine W.objInit hx hb hown (htg _ wd_48) (htg _ wd_999001) (htg _ wd_999002) rfl (by rw [hml]; exact hl.1) rfl dKind_init_1 (Nat.le_of_ble_eq_true rfl) (Nat.le_of_ble_eq_true rfl) ?_
  refine W.eq (g2 := F0 m 4 ls []) rfl ?_
  refine lv_aload_n hx hb dKind_init_4 rfl (lv_at hl 0 rfl) ?_
  refine lv_iload_n hx hb dKind_init_5 rfl (lv_at hl 1 rfl) ?_
  refine va_putF (D := (dC, dI)) (ci := 3) (v := .int zs0) (ty := .int) (C := R_Counters) (T := T_Counters) (N := 5) hx hb htg in_Counters ty_Counters tk_Counters nm_Counters hown hK hP hD hS 0 rfl rfl 0 (by decide) (htg _ wd_56) (fun _ h9 => h9) rfl hin rfl (by decide +kernel) rfl rfl (Nat.le_of_ble_eq_true rfl) dKind_init_6 (fun H locs hP hD hS => ?_)
  have hP : va_P (dC, dI) vwCl [(h0, .inr (3, [.int zs0, .int 0, .int 0, .int (bI false), .null]))] H := hP
  have hD : va_D A [(h0, .inr (3, [.int zs0, .int 0, .int 0, .int (bI false), .null]))] := hD
  refine lv_aload_n hx hb dKind_init_9 rfl (lv_at hl 0 rfl) ?_
  refine lv_iconst (v := 1) hx hb dKind_init_10 (by decide) ?_
  refine lv_iload_n hx hb dKind_init_11 rfl (lv_at hl 1 rfl) ?_
  refine lv_ishl hx hb dKind_init_12 ?_
  refine va_putF (D := (dC, dI)) (ci := 3) (v := .int ((1 : Int32) <<< (zs0 &&& 31))) (ty := .int) (C := R_Counters) (T := T_Counters) (N := 5) hx hb htg in_Counters ty_Counters tk_Counters nm_Counters hown hK hP hD hS 0 rfl rfl 1 (by decide) (htg _ wd_71) (fun _ h9 => h9) rfl hin rfl (by decide +kernel) rfl rfl (Nat.le_of_ble_eq_true rfl) dKind_init_13 (fun H locs hP hD hS => ?_)
  have hP : va_P (dC, dI) vwCl [(h0, .inr (3, [.int zs0, .int ((1 : Int32) <<< (zs0 &&& 31)), .int 0, .int (bI false), .null]))] H := hP
  have hD : va_D A [(h0, .inr (3, [.int zs0, .int ((1 : Int32) <<< (zs0 &&& 31)), .int 0, .int (bI false), .null]))] := hD
  refine lv_aload_n hx hb dKind_init_16 rfl (lv_at hl 0 rfl) ?_
  refine lv_aload_n hx hb dKind_init_17 rfl (lv_at hl 0 rfl) ?_
  refine va_get (D := (dC, dI)) (ci := 3) (v := .int ((1 : Int32) <<< (zs0 &&& 31))) (C := R_Counters) (T := T_Counters) (N := 5) hx hb htg in_Counters hown hK hP 0 rfl rfl 1 (by decide) (htg _ wd_71) (fun _ h9 => h9) rfl dKind_init_18 ?_
  refine lv_iconst (v := 1) hx hb dKind_init_21 (by decide) ?_
  refine lv_isub hx hb dKind_init_22 ?_
  refine va_putF (D := (dC, dI)) (ci := 3) (v := .int (((1 : Int32) <<< (zs0 &&& 31)) - 1)) (ty := .int) (C := R_Counters) (T := T_Counters) (N := 5) hx hb htg in_Counters ty_Counters tk_Counters nm_Counters hown hK hP hD hS 0 rfl rfl 2 (by decide) (htg _ wd_78) (fun _ h9 => h9) rfl hin rfl (by decide +kernel) rfl rfl (Nat.le_of_ble_eq_true rfl) dKind_init_23 (fun H locs hP hD hS => ?_)
  have hP : va_P (dC, dI) vwCl [(h0, .inr (3, [.int zs0, .int ((1 : Int32) <<< (zs0 &&& 31)), .int (((1 : Int32) <<< (zs0 &&& 31)) - 1), .int (bI false), .null]))] H := hP
  have hD : va_D A [(h0, .inr (3, [.int zs0, .int ((1 : Int32) <<< (zs0 &&& 31)), .int (((1 : Int32) <<< (zs0 &&& 31)) - 1), .int (bI false), .null]))] := hD
  refine W.widen (k := 0) (n := 0) (by omega) (by omega) ?_
  exact W.vret hx hb hr (fun t ht hW => ⟨⟨_, rfl, rfl, ⟨by rw [ht]; exact hP.sub [0] rfl, va_K.moved hW.alike hK, hD.sub [0] (by decide) rfl⟩⟩, hS.F ht⟩) hS.2.2 dKind_init_26
set_option maxHeartbeats 4000000 in
set_option maxRecDepth 100000 in
theorem c_Kind_init_Own (l : Launch) (dC : Nat → ClassId) (dI : Nat → Nat → Nat) (cA : ClassId × ClassId × ClassId) (zz : Nat) (h0 : Nat) (zs0 : Int32) : Met l yKind_init wKind_init ({ frames := 1, cells := 0, slots := 0, locals := 20 }) (va_Pc [.ref h0, .int zs0] (Wr (dC, dI) cA zz [(h0, .inr (6, [.int 0, .int 0, .int 0, .null, .null]))])) (va_Qv (fun w9 => w9 = [(h0, .inr (6, [.int zs0, .int ((1 : Int32) <<< (zs0 &&& 31)), .int (((1 : Int32) <<< (zs0 &&& 31)) - 1), .null, .null]))]) (At (dC, dI) cA (va_A [(h0, .inr (6, [.int 0, .int 0, .int 0, .null, .null]))] zz)) (va_A [(h0, .inr (6, [.int 0, .int 0, .int 0, .null, .null]))] zz)) 0 0 (va_A [(h0, .inr (6, [.int 0, .int 0, .int 0, .null, .null]))] zz) := by
  refine Met.ofW (cc := cKind_init) (maxL := 2) (ret := none) (by decide) rfl ?_
  intro p e s m args below meth c s₁ B hml hv
  obtain ⟨rfl, hsz, hN, hP, hK, hD0⟩ := hv
  have hx := B.exec
  have hb := B.bytes
  have hr := B.returns
  have hts := atoms_spec (ws := wKind_init) B.pre
  have htg : ∀ w ∈ GW, w.before _ s = true := fun w h => hts w (List.mem_cons_of_mem _ h)
  have hown : s.vm.findClass R_Kind = some m.cls := findClass_of_methodNamed B.named
  have hlocks := B.notSynchronized
  have hin : meth.name = "<init>" := (name_of_methodNamed B.named B.method).1
  subst hsz
  have hD := hD0.self (sz := s.heap.size)
  generalize hAe : va_A [(h0, .inr (6, [.int 0, .int 0, .int 0, .null, .null]))] s.heap.size = A at hD ⊢
  have hA : ∀ q : Nat, s.heap.size ≤ q → A q := fun q h => by rw [← hAe]; exact Or.inr h
  have hS : va_S A s.heap s.heap [] := va_S.rf
  have hP : va_P (dC, dI) vwCl [(h0, .inr (6, [.int 0, .int 0, .int 0, .null, .null]))] s.heap := hP
  have hl := lv_entry ([.ref h0, .int zs0]) (n := 2) (Nat.le_of_ble_eq_true rfl)
  rw [lg_entry_eq]
  generalize (lg_sl ([.ref h0, .int zs0]) ++ List.replicate (2 - (lg_sl ([.ref h0, .int zs0])).length) Slot.unset).toArray = ls at hl ⊢
  have hl : lv_has ls 2 [(0, .ref h0), (1, .int zs0)] := hl
  refine lv_aload_n hx hb dKind_init_0 rfl (lv_at hl 0 rfl) ?_
  refine W.objInit hx hb hown (htg _ wd_48) (htg _ wd_999001) (htg _ wd_999002) rfl (by rw [hml]; exact hl.1) rfl dKind_init_1 (Nat.le_of_ble_eq_true rfl) (Nat.le_of_ble_eq_true rfl) ?_
  refine W.eq (g2 := F0 m 4 ls []) rfl ?_
  refine lv_aload_n hx hb dKind_init_4 rfl (lv_at hl 0 rfl) ?_
  refine lv_iload_n hx hb dKind_init_5 rfl (lv_at hl 1 rfl) ?_
  refine va_putF (D := (dC, dI)) (ci := 6) (v := .int zs0) (ty := .int) (C := R_Own) (T := T_Own) (N := 5) hx hb htg in_Own ty_Own tk_Own nm_Own hown hK hP hD hS 0 rfl rfl 0 (by decide) (htg _ wd_56) (fun _ h9 => h9) rfl hin rfl (by decide +kernel) rfl rfl (Nat.le_of_ble_eq_true rfl) dKind_init_6 (fun H locs hP hD hS => ?_)
  have hP : va_P (dC, dI) vwCl [(h0, .inr (6, [.int zs0, .int 0, .int 0, .null, .null]))] H := hP
  have hD : va_D A [(h0, .inr (6, [.int zs0, .int 0, .int 0, .null, .null]))] := hD
  refine lv_aload_n hx hb dKind_init_9 rfl (lv_at hl 0 rfl) ?_
  refine lv_iconst (v := 1) hx hb dKind_init_10 (by decide) ?_
  refine lv_iload_n hx hb dKind_init_11 rfl (lv_at hl 1 rfl) ?_
  refine lv_ishl hx hb dKind_init_12 ?_
  refine va_putF (D := (dC, dI)) (ci := 6) (v := .int ((1 : Int32) <<< (zs0 &&& 31))) (ty := .int) (C := R_Own) (T := T_Own) (N := 5) hx hb htg in_Own ty_Own tk_Own nm_Own hown hK hP hD hS 0 rfl rfl 1 (by decide) (htg _ wd_71) (fun _ h9 => h9) rfl hin rfl (by decide +kernel) rfl rfl (Nat.le_of_ble_eq_true rfl) dKind_init_13 (fun H locs hP hD hS => ?_)
  have hP : va_P (dC, dI) vwCl [(h0, .inr (6, [.int zs0, .int ((1 : Int32) <<< (zs0 &&& 31)), .int 0, .null, .null]))] H := hP
  have hD : va_D A [(h0, .inr (6, [.int zs0, .int ((1 : Int32) <<< (zs0 &&& 31)), .int 0, .null, .null]))] := hD
  refine lv_aload_n hx hb dKind_init_16 rfl (lv_at hl 0 rfl) ?_
  refine lv_aload_n hx hb dKind_init_17 rfl (lv_at hl 0 rfl) ?_
  refine va_get (D := (dC, dI)) (ci := 6) (v := .int ((1 : Int32) <<< (zs0 &&& 31))) (C := R_Own) (T := T_Own) (N := 5) hx hb htg in_Own hown hK hP 0 rfl rfl 1 (by decide) (htg _ wd_71) (fun _ h9 => h9) rfl dKind_init_18 ?_
  refine lv_iconst (v := 1) hx hb dKind_init_21 (by decide) ?_
  refine lv_isub hx hb dKind_init_22 ?_
  refine va_putF (D := (dC, dI)) (ci := 6) (v := .int (((1 : Int32) <<< (zs0 &&& 31)) - 1)) (ty := .int) (C := R_Own) (T := T_Own) (N := 5) hx hb htg in_Own ty_Own tk_Own nm_Own hown hK hP hD hS 0 rfl rfl 2 (by decide) (htg _ wd_78) (fun _ h9 => h9) rfl hin rfl (by decide +kernel) rfl rfl (Nat.le_of_ble_eq_true rfl) dKind_init_23 (fun H locs hP hD hS => ?_)
  have hP : va_P (dC, dI) vwCl [(h0, .inr (6, [.int zs0, .int ((1 : Int32) <<< (zs0 &&& 31)), .int (((1 : Int32) <<< (zs0 &&& 31)) - 1), .null, .null]))] H := hP
  have hD : va_D A [(h0, .inr (6, [.int zs0, .int ((1 : Int32) <<< (zs0 &&& 31)), .int (((1 : Int32) <<< (zs0 &&& 31)) - 1), .null, .null]))] := hD
  refine W.widen (k := 0) (n := 0) (by omega) (by omega) ?_
  exact W.vret hx hb hr (fun t ht hW => ⟨⟨_, rfl, rfl, ⟨by rw [ht]; exact hP.sub [0] rfl, va_K.moved hW.alike hK, hD.sub [0] (by decide) rfl⟩⟩, hS.F ht⟩) hS.2.2 dKind_init_26
set_option maxHeartbeats 4000000 in
set_option maxRecDepth 100000 in
theorem c_Kind_init_Chooser (l : Launch) (dC : Nat → ClassId) (dI : Nat → Nat → Nat) (cA : ClassId × ClassId × ClassId) (zz : Nat) (h0 : Nat) (zs0 : Int32) : Met l yKind_init wKind_init ({ frames := 1, cells := 0, slots := 0, locals := 20 }) (va_Pc [.ref h0, .int zs0] (Wr (dC, dI) cA zz [(h0, .inr (1, [.int 0, .int 0, .int 0, .null, .null, .null]))])) (va_Qv (fun w9 => w9 = [(h0, .inr (1, [.int zs0, .int ((1 : Int32) <<< (zs0 &&& 31)), .int (((1 : Int32) <<< (zs0 &&& 31)) - 1), .null, .null, .null]))]) (At (dC, dI) cA (va_A [(h0, .inr (1, [.int 0, .int 0, .int 0, .null, .null, .null]))] zz)) (va_A [(h0, .inr (1, [.int 0, .int 0, .int 0, .null, .null, .null]))] zz)) 0 0 (va_A [(h0, .inr (1, [.int 0, .int 0, .int 0, .null, .null, .null]))] zz) := by
  refine Met.ofW (cc := cKind_init) (maxL := 2) (ret := none) (by decide) rfl ?_
  intro p e s m args below meth c s₁ B hml hv
  obtain ⟨rfl, hsz, hN, hP, hK, hD0⟩ := hv
  have hx := B.exec
  have hb := B.bytes
  have hr := B.returns
  have hts := atoms_spec (ws := wKind_init) B.pre
  have htg : ∀ w ∈ GW, w.before _ s = true := fun w h => hts w (List.mem_cons_of_mem _ h)
  have hown : s.vm.findClass R_Kind = some m.cls := findClass_of_methodNamed B.named
  have hlocks := B.notSynchronized
  have hin : meth.name = "<init>" := (name_of_methodNamed B.named B.method).1
  subst hsz
  have hD := hD0.self (sz := s.heap.size)
  generalize hAe : va_A [(h0, .inr (1, [.int 0, .int 0, .int 0, .null, .null, .null]))] s.heap.size = A at hD ⊢
  have hA : ∀ q : Nat, s.heap.size ≤ q → A q := fun q h => by rw [← hAe]; exact Or.inr h
  have hS : va_S A s.heap s.heap [] := va_S.rf
  have hP : va_P (dC, dI) vwCl [(h0, .inr (1, [.int 0, .int 0, .int 0, .null, .null, .null]))] s.heap := hP
  have hl := lv_entry ([.ref h0, .int zs0]) (n := 2) (Nat.le_of_ble_eq_true rfl)
  rw [lg_entry_eq]
  generalize (lg_sl ([.ref h0, .int zs0]) ++ List.replicate (2 - (lg_sl ([.ref h0, .int zs0])).length) Slot.unset).toArray = ls at hl ⊢
  have hl : lv_has ls 2 [(0, .ref h0), (1, .int zs0)] := hl
  refine lv_aload_n hx hb dKind_init_0 rfl (lv_at hl 0 rfl) ?_
  refine W.objInit hx hb hown (htg _ wd_48) (htg _ wd_999001) (htg _ wd_999002) rfl (by rw [hml]; exact hl.1) rfl dKind_init_1 (Nat.le_of_ble_eq_true rfl) (Nat.le_of_ble_eq_true rfl) ?_
  refine W.eq (g2 := F0 m 4 ls []) rfl ?_
  refine lv_aload_n hx hb dKind_init_4 rfl (lv_at hl 0 rfl) ?_
  refine lv_iload_n hx hb dKind_init_5 rfl (lv_at hl 1 rfl) ?_
  refine va_putF (D := (dC, dI)) (ci := 1) (v := .int zs0) (ty := .int) (C := R_Chooser) (T := T_Chooser) (N := 6) hx hb htg in_Chooser ty_Chooser tk_Chooser nm_Chooser hown hK hP hD hS 0 rfl rfl 0 (by decide) (htg _ wd_56) (fun _ h9 => h9) rfl hin rfl (by decide +kernel) rfl rfl (Nat.le_of_ble_eq_true rfl) dKind_init_6 (fun H locs hP hD hS => ?_)
  have hP : va_P (dC, dI) vwCl [(h0, .inr (1, [.int zs0, .int 0, .int 0, .null, .null, .null]))] H := hP
  have hD : va_D A [(h0, .inr (1, [.int zs0, .int 0, .int 0, .null, .null, .null]))] := hD
  refine lv_aload_n hx hb dKind_init_9 rfl (lv_at hl 0 rfl) ?_
  refine lv_iconst (v := 1) hx hb dKind_init_10 (by decide) ?_
  refine lv_iload_n hx hb dKind_init_11 rfl (lv_at hl 1 rfl) ?_
  refine lv_ishl hx hb dKind_init_12 ?_
  refine va_putF (D := (dC, dI)) (ci := 1) (v := .int ((1 : Int32) <<< (zs0 &&& 31))) (ty := .int) (C := R_Chooser) (T := T_Chooser) (N := 6) hx hb htg in_Chooser ty_Chooser tk_Chooser nm_Chooser hown hK hP hD hS 0 rfl rfl 1 (by decide) (htg _ wd_71) (fun _ h9 => h9) rfl hin rfl (by decide +kernel) rfl rfl (Nat.le_of_ble_eq_true rfl) dKind_init_13 (fun H locs hP hD hS => ?_)
  have hP : va_P (dC, dI) vwCl [(h0, .inr (1, [.int zs0, .int ((1 : Int32) <<< (zs0 &&& 31)), .int 0, .null, .null, .null]))] H := hP
  have hD : va_D A [(h0, .inr (1, [.int zs0, .int ((1 : Int32) <<< (zs0 &&& 31)), .int 0, .null, .null, .null]))] := hD
  refine lv_aload_n hx hb dKind_init_16 rfl (lv_at hl 0 rfl) ?_
  refine lv_aload_n hx hb dKind_init_17 rfl (lv_at hl 0 rfl) ?_
  refine va_get (D := (dC, dI)) (ci := 1) (v := .int ((1 : Int32) <<< (zs0 &&& 31))) (C := R_Chooser) (T := T_Chooser) (N := 6) hx hb htg in_Chooser hown hK hP 0 rfl rfl 1 (by decide) (htg _ wd_71) (fun _ h9 => h9) rfl dKind_init_18 ?_
  refine lv_iconst (v := 1) hx hb dKind_init_21 (by decide) ?_
  refine lv_isub hx hb dKind_init_22 ?_
  refine va_putF (D := (dC, dI)) (ci := 1) (v := .int (((1 : Int32) <<< (zs0 &&& 31)) - 1)) (ty := .int) (C := R_Chooser) (T := T_Chooser) (N := 6) hx hb htg in_Chooser ty_Chooser tk_Chooser nm_Chooser hown hK hP hD hS 0 rfl rfl 2 (by decide) (htg _ wd_78) (fun _ h9 => h9) rfl hin rfl (by decide +kernel) rfl rfl (Nat.le_of_ble_eq_true rfl) dKind_init_23 (fun H locs hP hD hS => ?_)
  have hP : va_P (dC, dI) vwCl [(h0, .inr (1, [.int zs0, .int ((1 : Int32) <<< (zs0 &&& 31)), .int (((1 : Int32) <<< (zs0 &&& 31)) - 1), .null, .null, .null]))] H := hP
  have hD : va_D A [(h0, .inr (1, [.int zs0, .int ((1 : Int32) <<< (zs0 &&& 31)), .int (((1 : Int32) <<< (zs0 &&& 31)) - 1), .null, .null, .null]))] := hD
  refine W.widen (k := 0) (n := 0) (by omega) (by omega) ?_
  exact W.vret hx hb hr (fun t ht hW => ⟨⟨_, rfl, rfl, ⟨by rw [ht]; exact hP.sub [0] rfl, va_K.moved hW.alike hK, hD.sub [0] (by decide) rfl⟩⟩, hS.F ht⟩) hS.2.2 dKind_init_26
set_option maxHeartbeats 4000000 in
set_option maxRecDepth 100000 in
theorem c_Kind_init_Tagged (l : Launch) (dC : Nat → ClassId) (dI : Nat → Nat → Nat) (cA : ClassId × ClassId × ClassId) (zz : Nat) (h0 : Nat) (zs0 : Int32) : Met l yKind_init wKind_init ({ frames := 1, cells := 0, slots := 0, locals := 20 }) (va_Pc [.ref h0, .int zs0] (Wr (dC, dI) cA zz [(h0, .inr (8, [.int 0, .int 0, .int 0, .null, .null, .null, .null]))])) (va_Qv (fun w9 => w9 = [(h0, .inr (8, [.int zs0, .int ((1 : Int32) <<< (zs0 &&& 31)), .int (((1 : Int32) <<< (zs0 &&& 31)) - 1), .null, .null, .null, .null]))]) (At (dC, dI) cA (va_A [(h0, .inr (8, [.int 0, .int 0, .int 0, .null, .null, .null, .null]))] zz)) (va_A [(h0, .inr (8, [.int 0, .int 0, .int 0, .null, .null, .null, .null]))] zz)) 0 0 (va_A [(h0, .inr (8, [.int 0, .int 0, .int 0, .null, .null, .null, .null]))] zz) := by
  refine Met.ofW (cc := cKind_init) (maxL := 2) (ret := none) (by decide) rfl ?_
  intro p e s m args below meth c s₁ B hml hv
  obtain ⟨rfl, hsz, hN, hP, hK, hD0⟩ := hv
  have hx := B.exec
  have hb := B.bytes
  have hr := B.returns
  have hts := atoms_spec (ws := wKind_init) B.pre
  have htg : ∀ w ∈ GW, w.before _ s = true := fun w h => hts w (List.mem_cons_of_mem _ h)
  have hown : s.vm.findClass R_Kind = some m.cls := findClass_of_methodNamed B.named
  have hlocks := B.notSynchronized
  have hin : meth.name = "<init>" := (name_of_methodNamed B.named B.method).1
  subst hsz
  have hD := hD0.self (sz := s.heap.size)
  generalize hAe : va_A [(h0, .inr (8, [.int 0, .int 0, .int 0, .null, .null, .null, .null]))] s.heap.size = A at hD ⊢
  have hA : ∀ q : Nat, s.heap.size ≤ q → A q := fun q h => by rw [← hAe]; exact Or.inr h
  have hS : va_S A s.heap s.heap [] := va_S.rf
  have hP : va_P (dC, dI) vwCl [(h0, .inr (8, [.int 0, .int 0, .int 0, .null, .null, .null, .null]))] s.heap := hP
  have hl := lv_entry ([.ref h0, .int zs0]) (n := 2) (Nat.le_of_ble_eq_true rfl)
  rw [lg_entry_eq]
  generalize (lg_sl ([.ref h0, .int zs0]) ++ List.replicate (2 - (lg_sl ([.ref h0, .int zs0])).length) Slot.unset).toArray = ls at hl ⊢
  have hl : lv_has ls 2 [(0, .ref h0), (1, .int zs0)] := hl
  refine lv_aload_n hx hb dKind_init_0 rfl (lv_at hl 0 rfl) ?_
  refine W.objInit hx hb hown (htg _ wd_48) (htg _ wd_999001) (htg _ wd_999002) rfl (by rw [hml]; exact hl.1) rfl dKind_init_1 (Nat.le_of_ble_eq_true rfl) (Nat.le_of_ble_eq_true rfl) ?_
  refine W.eq (g2 := F0 m 4 ls []) rfl ?_
  refine lv_aload_n hx hb dKind_init_4 rfl (lv_at hl 0 rfl) ?_
  refine lv_iload_n hx hb dKind_init_5 rfl (lv_at hl 1 rfl) ?_
  refine va_putF (D := (dC, dI)) (ci := 8) (v := .int zs0) (ty := .int) (C := R_Tagged) (T := T_Tagged) (N := 7) hx hb htg in_Tagged ty_Tagged tk_Tagged nm_Tagged hown hK hP hD hS 0 rfl rfl 0 (by decide) (htg _ wd_56) (fun _ h9 => h9) rfl hin rfl (by decide +kernel) rfl rfl (Nat.le_of_ble_eq_true rfl) dKind_init_6 (fun H locs hP hD hS => ?_)
  have hP : va_P (dC, dI) vwCl [(h0, .inr (8, [.int zs0, .int 0, .int 0, .null, .null, .null, .null]))] H := hP
  have hD : va_D A [(h0, .inr (8, [.int zs0, .int 0, .int 0, .null, .null, .null, .null]))] := hD
  refine lv_aload_n hx hb dKind_init_9 rfl (lv_at hl 0 rfl) ?_
  refine lv_iconst (v := 1) hx hb dKind_init_10 (by decide) ?_
  refine lv_iload_n hx hb dKind_init_11 rfl (lv_at hl 1 rfl) ?_
  refine lv_ishl hx hb dKind_init_12 ?_
  refine va_putF (D := (dC, dI)) (ci := 8) (v := .int ((1 : Int32) <<< (zs0 &&& 31))) (ty := .int) (C := R_Tagged) (T := T_Tagged) (N := 7) hx hb htg in_Tagged ty_Tagged tk_Tagged nm_Tagged hown hK hP hD hS 0 rfl rfl 1 (by decide) (htg _ wd_71) (fun _ h9 => h9) rfl hin rfl (by decide +kernel) rfl rfl (Nat.le_of_ble_eq_true rfl) dKind_init_13 (fun H locs hP hD hS => ?_)
  have hP : va_P (dC, dI) vwCl [(h0, .inr (8, [.int zs0, .int ((1 : Int32) <<< (zs0 &&& 31)), .int 0, .null, .null, .null, .null]))] H := hP
  have hD : va_D A [(h0, .inr (8, [.int zs0, .int ((1 : Int32) <<< (zs0 &&& 31)), .int 0, .null, .null, .null, .null]))] := hD
  refine lv_aload_n hx hb dKind_init_16 rfl (lv_at hl 0 rfl) ?_
  refine lv_aload_n hx hb dKind_init_17 rfl (lv_at hl 0 rfl) ?_
  refine va_get (D := (dC, dI)) (ci := 8) (v := .int ((1 : Int32) <<< (zs0 &&& 31))) (C := R_Tagged) (T := T_Tagged) (N := 7) hx hb htg in_Tagged hown hK hP 0 rfl rfl 1 (by decide) (htg _ wd_71) (fun _ h9 => h9) rfl dKind_init_18 ?_
  refine lv_iconst (v := 1) hx hb dKind_init_21 (by decide) ?_
  refine lv_isub hx hb dKind_init_22 ?_
  refine va_putF (D := (dC, dI)) (ci := 8) (v := .int (((1 : Int32) <<< (zs0 &&& 31)) - 1)) (ty := .int) (C := R_Tagged) (T := T_Tagged) (N := 7) hx hb htg in_Tagged ty_Tagged tk_Tagged nm_Tagged hown hK hP hD hS 0 rfl rfl 2 (by decide) (htg _ wd_78) (fun _ h9 => h9) rfl hin rfl (by decide +kernel) rfl rfl (Nat.le_of_ble_eq_true rfl) dKind_init_23 (fun H locs hP hD hS => ?_)
  have hP : va_P (dC, dI) vwCl [(h0, .inr (8, [.int zs0, .int ((1 : Int32) <<< (zs0 &&& 31)), .int (((1 : Int32) <<< (zs0 &&& 31)) - 1), .null, .null, .null, .null]))] H := hP
  have hD : va_D A [(h0, .inr (8, [.int zs0, .int ((1 : Int32) <<< (zs0 &&& 31)), .int (((1 : Int32) <<< (zs0 &&& 31)) - 1), .null, .null, .null, .null]))] := hD
  refine W.widen (k := 0) (n := 0) (by omega) (by omega) ?_
  exact W.vret hx hb hr (fun t ht hW => ⟨⟨_, rfl, rfl, ⟨by rw [ht]; exact hP.sub [0] rfl, va_K.moved hW.alike hK, hD.sub [0] (by decide) rfl⟩⟩, hS.F ht⟩) hS.2.2 dKind_init_26
set_option maxHeartbeats 4000000 in
set_option maxRecDepth 100000 in
theorem c_Kind_init_Sums (l : Launch) (dC : Nat → ClassId) (dI : Nat → Nat → Nat) (cA : ClassId × ClassId × ClassId) (zz : Nat) (h0 : Nat) (zs0 : Int32) : Met l yKind_init wKind_init ({ frames := 1, cells := 0, slots := 0, locals := 20 }) (va_Pc [.ref h0, .int zs0] (Wr (dC, dI) cA zz [(h0, .inr (7, [.int 0, .int 0, .int 0, .null]))])) (va_Qv (fun w9 => w9 = [(h0, .inr (7, [.int zs0, .int ((1 : Int32) <<< (zs0 &&& 31)), .int (((1 : Int32) <<< (zs0 &&& 31)) - 1), .null]))]) (At (dC, dI) cA (va_A [(h0, .inr (7, [.int 0, .int 0, .int 0, .null]))] zz)) (va_A [(h0, .inr (7, [.int 0, .int 0, .int 0, .null]))] zz)) 0 0 (va_A [(h0, .inr (7, [.int 0, .int 0, .int 0, .null]))] zz) := by
  refine Met.ofW (cc := cKind_init) (maxL := 2) (ret := none) (by decide) rfl ?_
  intro p e s m args below meth c s₁ B hml hv
  obtain ⟨rfl, hsz, hN, hP, hK, hD0⟩ := hv
  have hx := B.exec
  have hb := B.bytes
  have hr := B.returns
  have hts := atoms_spec (ws := wKind_init) B.pre
  have htg : ∀ w ∈ GW, w.before _ s = true := fun w h => hts w (List.mem_cons_of_mem _ h)
  have hown : s.vm.findClass R_Kind = some m.cls := findClass_of_methodNamed B.named
  have hlocks := B.notSynchronized
  have hin : meth.name = "<init>" := (name_of_methodNamed B.named B.method).1
  subst hsz
  have hD := hD0.self (sz := s.heap.size)
  generalize hAe : va_A [(h0, .inr (7, [.int 0, .int 0, .int 0, .null]))] s.heap.size = A at hD ⊢
  have hA : ∀ q : Nat, s.heap.size ≤ q → A q := fun q h => by rw [← hAe]; exact Or.inr h
  have hS : va_S A s.heap s.heap [] := va_S.rf
  have hP : va_P (dC, dI) vwCl [(h0, .inr (7, [.int 0, .int 0, .int 0, .null]))] s.heap := hP
  have hl := lv_entry ([.ref h0, .int zs0]) (n := 2) (Nat.le_of_ble_eq_true rfl)
  rw [lg_entry_eq]
  generalize (lg_sl ([.ref h0, .int zs0]) ++ List.replicate (2 - (lg_sl ([.ref h0, .int zs0])).length) Slot.unset).toArray = ls at hl ⊢
  have hl : lv_has ls 2 [(0, .ref h0), (1, .int zs0)] := hl
  refine lv_aload_n hx hb dKind_init_0 rfl (lv_at hl 0 rfl) ?_
  refine W.objInit hx hb hown (htg _ wd_48) (htg _ wd_999001) (htg _ wd_999002) rfl (by rw [hml]; exact hl.1) rfl dKind_init_1 (Nat.le_of_ble_eq_true rfl) (Nat.le_of_ble_eq_true rfl) ?_
  refine W.eq (g2 := F0 m 4 ls []) rfl ?_
  refine lv_aload_n hx hb dKind_init_4 rfl (lv_at hl 0 rfl) ?_
  refine lv_iload_n hx hb dKind_init_5 rfl (lv_at hl 1 rfl) ?_
  refine va_putF (D := (dC, dI)) (ci := 7) (v := .int zs0) (ty := .int) (C := R_Sums) (T := T_Sums) (N := 4) hx hb htg in_Sums ty_Sums tk_Sums nm_Sums hown hK hP hD hS 0 rfl rfl 0 (by decide) (htg _ wd_56) (fun _ h9 => h9) rfl hin rfl (by decide +kernel) rfl rfl (Nat.le_of_ble_eq_true rfl) dKind_init_6 (fun H locs hP hD hS => ?_)
  have hP : va_P (dC, dI) vwCl [(h0, .inr (7, [.int zs0, .int 0, .int 0, .null]))] H := hP
  have hD : va_D A [(h0, .inr (7, [.int zs0, .int 0, .int 0, .null]))] := hD
  refine lv_aload_n hx hb dKind_init_9 rfl (lv_at hl 0 rfl) ?_
  refine lv_iconst (v := 1) hx hb dKind_init_10 (by decide) ?_
  refine lv_iload_n hx hb dKind_init_11 rfl (lv_at hl 1 rfl) ?_
  refine lv_ishl hx hb dKind_init_12 ?_
  refine va_putF (D := (dC, dI)) (ci := 7) (v := .int ((1 : Int32) <<< (zs0 &&& 31))) (ty := .int) (C := R_Sums) (T := T_Sums) (N := 4) hx hb htg in_Sums ty_Sums tk_Sums nm_Sums hown hK hP hD hS 0 rfl rfl 1 (by decide) (htg _ wd_71) (fun _ h9 => h9) rfl hin rfl (by decide +kernel) rfl rfl (Nat.le_of_ble_eq_true rfl) dKind_init_13 (fun H locs hP hD hS => ?_)
  have hP : va_P (dC, dI) vwCl [(h0, .inr (7, [.int zs0, .int ((1 : Int32) <<< (zs0 &&& 31)), .int 0, .null]))] H := hP
  have hD : va_D A [(h0, .inr (7, [.int zs0, .int ((1 : Int32) <<< (zs0 &&& 31)), .int 0, .null]))] := hD
  refine lv_aload_n hx hb dKind_init_16 rfl (lv_at hl 0 rfl) ?_
  refine lv_aload_n hx hb dKind_init_17 rfl (lv_at hl 0 rfl) ?_
  refine va_get (D := (dC, dI)) (ci := 7) (v := .int ((1 : Int32) <<< (zs0 &&& 31))) (C := R_Sums) (T := T_Sums) (N := 4) hx hb htg in_Sums hown hK hP 0 rfl rfl 1 (by decide) (htg _ wd_71) (fun _ h9 => h9) rfl dKind_init_18 ?_
  refine lv_iconst (v := 1) hx hb dKind_init_21 (by decide) ?_
  refine lv_isub hx hb dKind_init_22 ?_
  refine va_putF (D := (dC, dI)) (ci := 7) (v := .int (((1 : Int32) <<< (zs0 &&& 31)) - 1)) (ty := .int) (C := R_Sums) (T := T_Sums) (N := 4) hx hb htg in_Sums ty_Sums tk_Sums nm_Sums hown hK hP hD hS 0 rfl rfl 2 (by decide) (htg _ wd_78) (fun _ h9 => h9) rfl hin rfl (by decide +kernel) rfl rfl (Nat.le_of_ble_eq_true rfl) dKind_init_23 (fun H locs hP hD hS => ?_)
  have hP : va_P (dC, dI) vwCl [(h0, .inr (7, [.int zs0, .int ((1 : Int32) <<< (zs0 &&& 31)), .int (((1 : Int32) <<< (zs0 &&& 31)) - 1), .null]))] H := hP
  have hD : va_D A [(h0, .inr (7, [.int zs0, .int ((1 : Int32) <<< (zs0 &&& 31)), .int (((1 : Int32) <<< (zs0 &&& 31)) - 1), .null]))] := hD
  refine W.widen (k := 0) (n := 0) (by omega) (by omega) ?_
  exact W.vret hx hb hr (fun t ht hW => ⟨⟨_, rfl, rfl, ⟨by rw [ht]; exact hP.sub [0] rfl, va_K.moved hW.alike hK, hD.sub [0] (by decide) rfl⟩⟩, hS.F ht⟩) hS.2.2 dKind_init_26
set_option maxHeartbeats 4000000 in
set_option maxRecDepth 100000 in
theorem c_Kind_init_Loops (l : Launch) (dC : Nat → ClassId) (dI : Nat → Nat → Nat) (cA : ClassId × ClassId × ClassId) (zz : Nat) (h0 : Nat) (zs0 : Int32) : Met l yKind_init wKind_init ({ frames := 1, cells := 0, slots := 0, locals := 20 }) (va_Pc [.ref h0, .int zs0] (Wr (dC, dI) cA zz [(h0, .inr (5, [.int 0, .int 0, .int 0, .null, .null, .null, .null, .null]))])) (va_Qv (fun w9 => w9 = [(h0, .inr (5, [.int zs0, .int ((1 : Int32) <<< (zs0 &&& 31)), .int (((1 : Int32) <<< (zs0 &&& 31)) - 1), .null, .null, .null, .null, .null]))]) (At (dC, dI) cA (va_A [(h0, .inr (5, [.int 0, .int 0, .int 0, .null, .null, .null, .null, .null]))] zz)) (va_A [(h0, .inr (5, [.int 0, .int 0, .int 0, .null, .null, .null, .null, .null]))] zz)) 0 0 (va_A [(h0, .inr (5, [.int 0, .int 0, .int 0, .null, .null, .null, .null, .null]))] zz) := by
  refine Met.ofW (cc := cKind_init) (maxL := 2) (ret := none) (by decide) rfl ?_
  intro p e s m args below meth c s₁ B hml hv
  obtain ⟨rfl, hsz, hN, hP, hK, hD0⟩ := hv
  have hx := B.exec
  have hb := B.bytes
  have hr := B.returns
  have hts := atoms_spec (ws := wKind_init) B.pre
  have htg : ∀ w ∈ GW, w.before _ s = true := fun w h => hts w (List.mem_cons_of_mem _ h)
  have hown : s.vm.findClass R_Kind = some m.cls := findClass_of_methodNamed B.named
  have hlocks := B.notSynchronized
  have hin : meth.name = "<init>" := (name_of_methodNamed B.named B.method).1
  subst hsz
  have hD := hD0.self (sz := s.heap.size)
  generalize hAe : va_A [(h0, .inr (5, [.int 0, .int 0, .int 0, .null, .null, .null, .null, .null]))] s.heap.size = A at hD ⊢
  have hA : ∀ q : Nat, s.heap.size ≤ q → A q := fun q h => by rw [← hAe]; exact Or.inr h
  have hS : va_S A s.heap s.heap [] := va_S.rf
  have hP : va_P (dC, dI) vwCl [(h0, .inr (5, [.int 0, .int 0, .int 0, .null, .null, .null, .null, .null]))] s.heap := hP
  have hl := lv_entry ([.ref h0, .int zs0]) (n := 2) (Nat.le_of_ble_eq_true rfl)
  rw [lg_entry_eq]
  generalize (lg_sl ([.ref h0, .int zs0]) ++ List.replicate (2 - (lg_sl ([.ref h0, .int zs0])).length) Slot.unset).toArray = ls at hl ⊢
  have hl : lv_has ls 2 [(0, .ref h0), (1, .int zs0)] := hl
  refine lv_aload_n hx hb dKind_init_0 rfl (lv_at hl 0 rfl) ?_
  refine W.objInit hx hb hown (htg _ wd_48) (htg _ wd_999001) (htg _ wd_999002) rfl (by rw [hml]; exact hl.1) rfl dKind_init_1 (Nat.le_of_ble_eq_true rfl) (Nat.le_of_ble_eq_true rfl) ?_
  refine W.eq (g2 := F0 m 4 ls []) rfl ?_
  refine lv_aload_n hx hb dKind_init_4 rfl (lv_at hl 0 rfl) ?_
  refine lv_iload_n hx hb dKind_init_5 rfl (lv_at hl 1 rfl) ?_
  refine va_putF (D := (dC, dI)) (ci := 5) (v := .int zs0) (ty := .int) (C := R_Loops) (T := T_Loops) (N := 8) hx hb htg in_Loops ty_Loops tk_Loops nm_Loops hown hK hP hD hS 0 rfl rfl 0 (by decide) (htg _ wd_56) (fun _ h9 => h9) rfl hin rfl (by decide +kernel) rfl rfl (Nat.le_of_ble_eq_true rfl) dKind_init_6 (fun H locs hP hD hS => ?_)
  have hP : va_P (dC, dI) vwCl [(h0, .inr (5, [.int zs0, .int 0, .int 0, .null, .null, .null, .null, .null]))] H := hP
  have hD : va_D A [(h0, .inr (5, [.int zs0, .int 0, .int 0, .null, .null, .null, .null, .null]))] := hD
  refine lv_aload_n hx hb dKind_init_9 rfl (lv_at hl 0 rfl) ?_
  refine lv_iconst (v := 1) hx hb dKind_init_10 (by decide) ?_
  refine lv_iload_n hx hb dKind_init_11 rfl (lv_at hl 1 rfl) ?_
  refine lv_ishl hx hb dKind_init_12 ?_
  refine va_putF (D := (dC, dI)) (ci := 5) (v := .int ((1 : Int32) <<< (zs0 &&& 31))) (ty := .int) (C := R_Loops) (T := T_Loops) (N := 8) hx hb htg in_Loops ty_Loops tk_Loops nm_Loops hown hK hP hD hS 0 rfl rfl 1 (by decide) (htg _ wd_71) (fun _ h9 => h9) rfl hin rfl (by decide +kernel) rfl rfl (Nat.le_of_ble_eq_true rfl) dKind_init_13 (fun H locs hP hD hS => ?_)
  have hP : va_P (dC, dI) vwCl [(h0, .inr (5, [.int zs0, .int ((1 : Int32) <<< (zs0 &&& 31)), .int 0, .null, .null, .null, .null, .null]))] H := hP
  have hD : va_D A [(h0, .inr (5, [.int zs0, .int ((1 : Int32) <<< (zs0 &&& 31)), .int 0, .null, .null, .null, .null, .null]))] := hD
  refine lv_aload_n hx hb dKind_init_16 rfl (lv_at hl 0 rfl) ?_
  refine lv_aload_n hx hb dKind_init_17 rfl (lv_at hl 0 rfl) ?_
  refine va_get (D := (dC, dI)) (ci := 5) (v := .int ((1 : Int32) <<< (zs0 &&& 31))) (C := R_Loops) (T := T_Loops) (N := 8) hx hb htg in_Loops hown hK hP 0 rfl rfl 1 (by decide) (htg _ wd_71) (fun _ h9 => h9) rfl dKind_init_18 ?_
  refine lv_iconst (v := 1) hx hb dKind_init_21 (by decide) ?_
  refine lv_isub hx hb dKind_init_22 ?_
  refine va_putF (D := (dC, dI)) (ci := 5) (v := .int (((1 : Int32) <<< (zs0 &&& 31)) - 1)) (ty := .int) (C := R_Loops) (T := T_Loops) (N := 8) hx hb htg in_Loops ty_Loops tk_Loops nm_Loops hown hK hP hD hS 0 rfl rfl 2 (by decide) (htg _ wd_78) (fun _ h9 => h9) rfl hin rfl (by decide +kernel) rfl rfl (Nat.le_of_ble_eq_true rfl) dKind_init_23 (fun H locs hP hD hS => ?_)
  have hP : va_P (dC, dI) vwCl [(h0, .inr (5, [.int zs0, .int ((1 : Int32) <<< (zs0 &&& 31)), .int (((1 : Int32) <<< (zs0 &&& 31)) - 1), .null, .null, .null, .null, .null]))] H := hP
  have hD : va_D A [(h0, .inr (5, [.int zs0, .int ((1 : Int32) <<< (zs0 &&& 31)), .int (((1 : Int32) <<< (zs0 &&& 31)) - 1), .null, .null, .null, .null, .null]))] := hD
  refine W.widen (k := 0) (n := 0) (by omega) (by omega) ?_
  exact W.vret hx hb hr (fun t ht hW => ⟨⟨_, rfl, rfl, ⟨by rw [ht]; exact hP.sub [0] rfl, va_K.moved hW.alike hK, hD.sub [0] (by decide) rfl⟩⟩, hS.F ht⟩) hS.2.2 dKind_init_26
set_option maxHeartbeats 4000000 in
set_option maxRecDepth 100000 in
theorem c_Kind_init_Coin (l : Launch) (dC : Nat → ClassId) (dI : Nat → Nat → Nat) (cA : ClassId × ClassId × ClassId) (zz : Nat) (h0 : Nat) (zs0 : Int32) : Met l yKind_init wKind_init ({ frames := 1, cells := 0, slots := 0, locals := 20 }) (va_Pc [.ref h0, .int zs0] (Wr (dC, dI) cA zz [(h0, .inr (2, [.int 0, .int 0, .int 0, .int 0]))])) (va_Qv (fun w9 => w9 = [(h0, .inr (2, [.int zs0, .int ((1 : Int32) <<< (zs0 &&& 31)), .int (((1 : Int32) <<< (zs0 &&& 31)) - 1), .int 0]))]) (At (dC, dI) cA (va_A [(h0, .inr (2, [.int 0, .int 0, .int 0, .int 0]))] zz)) (va_A [(h0, .inr (2, [.int 0, .int 0, .int 0, .int 0]))] zz)) 0 0 (va_A [(h0, .inr (2, [.int 0, .int 0, .int 0, .int 0]))] zz) := by
  refine Met.ofW (cc := cKind_init) (maxL := 2) (ret := none) (by decide) rfl ?_
  intro p e s m args below meth c s₁ B hml hv
  obtain ⟨rfl, hsz, hN, hP, hK, hD0⟩ := hv
  have hx := B.exec
  have hb := B.bytes
  have hr := B.returns
  have hts := atoms_spec (ws := wKind_init) B.pre
  have htg : ∀ w ∈ GW, w.before _ s = true := fun w h => hts w (List.mem_cons_of_mem _ h)
  have hown : s.vm.findClass R_Kind = some m.cls := findClass_of_methodNamed B.named
  have hlocks := B.notSynchronized
  have hin : meth.name = "<init>" := (name_of_methodNamed B.named B.method).1
  subst hsz
  have hD := hD0.self (sz := s.heap.size)
  generalize hAe : va_A [(h0, .inr (2, [.int 0, .int 0, .int 0, .int 0]))] s.heap.size = A at hD ⊢
  have hA : ∀ q : Nat, s.heap.size ≤ q → A q := fun q h => by rw [← hAe]; exact Or.inr h
  have hS : va_S A s.heap s.heap [] := va_S.rf
  have hP : va_P (dC, dI) vwCl [(h0, .inr (2, [.int 0, .int 0, .int 0, .int 0]))] s.heap := hP
  have hl := lv_entry ([.ref h0, .int zs0]) (n := 2) (Nat.le_of_ble_eq_true rfl)
  rw [lg_entry_eq]
  generalize (lg_sl ([.ref h0, .int zs0]) ++ List.replicate (2 - (lg_sl ([.ref h0, .int zs0])).length) Slot.unset).toArray = ls at hl ⊢
  have hl : lv_has ls 2 [(0, .ref h0), (1, .int zs0)] := hl
  refine lv_aload_n hx hb dKind_init_0 rfl (lv_at hl 0 rfl) ?_
  refine W.objInit hx hb hown (htg _ wd_48) (htg _ wd_999001) (htg _ wd_999002) rfl (by rw [hml]; exact hl.1) rfl dKind_init_1 (Nat.le_of_ble_eq_true rfl) (Nat.le_of_ble_eq_true rfl) ?_
  refine W.eq (g2 := F0 m 4 ls []) rfl ?_
  refine lv_aload_n hx hb dKind_init_4 rfl (lv_at hl 0 rfl) ?_
  refine lv_iload_n hx hb dKind_init_5 rfl (lv_at hl 1 rfl) ?_
  refine va_putF (D := (dC, dI)) (ci := 2) (v := .int zs0) (ty := .int) (C := R_Coin) (T := T_Coin) (N := 4) hx hb htg in_Coin ty_Coin tk_Coin nm_Coin hown hK hP hD hS 0 rfl rfl 0 (by decide) (htg _ wd_56) (fun _ h9 => h9) rfl hin rfl (by decide +kernel) rfl rfl (Nat.le_of_ble_eq_true rfl) dKind_init_6 (fun H locs hP hD hS => ?_)
  have hP : va_P (dC, dI) vwCl [(h0, .inr (2, [.int zs0, .int 0, .int 0, .int 0]))] H := hP
  have hD : va_D A [(h0, .inr (2, [.int zs0, .int 0, .int 0, .int 0]))] := hD
  refine lv_aload_n hx hb dKind_init_9 rfl (lv_at hl 0 rfl) ?_
  refine lv_iconst (v := 1) hx hb dKind_init_10 (by decide) ?_
  refine lv_iload_n hx hb dKind_init_11 rfl (lv_at hl 1 rfl) ?_
  refine lv_ishl hx hb dKind_init_12 ?_
  refine va_putF (D := (dC, dI)) (ci := 2) (v := .int ((1 : Int32) <<< (zs0 &&& 31))) (ty := .int) (C := R_Coin) (T := T_Coin) (N := 4) hx hb htg in_Coin ty_Coin tk_Coin nm_Coin hown hK hP hD hS 0 rfl rfl 1 (by decide) (htg _ wd_71) (fun _ h9 => h9) rfl hin rfl (by decide +kernel) rfl rfl (Nat.le_of_ble_eq_true rfl) dKind_init_13 (fun H locs hP hD hS => ?_)
  have hP : va_P (dC, dI) vwCl [(h0, .inr (2, [.int zs0, .int ((1 : Int32) <<< (zs0 &&& 31)), .int 0, .int 0]))] H := hP
  have hD : va_D A [(h0, .inr (2, [.int zs0, .int ((1 : Int32) <<< (zs0 &&& 31)), .int 0, .int 0]))] := hD
  refine lv_aload_n hx hb dKind_init_16 rfl (lv_at hl 0 rfl) ?_
  refine lv_aload_n hx hb dKind_init_17 rfl (lv_at hl 0 rfl) ?_
  refine va_get (D := (dC, dI)) (ci := 2) (v := .int ((1 : Int32) <<< (zs0 &&& 31))) (C := R_Coin) (T := T_Coin) (N := 4) hx hb htg in_Coin hown hK hP 0 rfl rfl 1 (by decide) (htg _ wd_71) (fun _ h9 => h9) rfl dKind_init_18 ?_
  refine lv_iconst (v := 1) hx hb dKind_init_21 (by decide) ?_
  refine lv_isub hx hb dKind_init_22 ?_
  refine va_putF (D := (dC, dI)) (ci := 2) (v := .int (((1 : Int32) <<< (zs0 &&& 31)) - 1)) (ty := .int) (C := R_Coin) (T := T_Coin) (N := 4) hx hb htg in_Coin ty_Coin tk_Coin nm_Coin hown hK hP hD hS 0 rfl rfl 2 (by decide) (htg _ wd_78) (fun _ h9 => h9) rfl hin rfl (by decide +kernel) rfl rfl (Nat.le_of_ble_eq_true rfl) dKind_init_23 (fun H locs hP hD hS => ?_)
  have hP : va_P (dC, dI) vwCl [(h0, .inr (2, [.int zs0, .int ((1 : Int32) <<< (zs0 &&& 31)), .int (((1 : Int32) <<< (zs0 &&& 31)) - 1), .int 0]))] H := hP
  have hD : va_D A [(h0, .inr (2, [.int zs0, .int ((1 : Int32) <<< (zs0 &&& 31)), .int (((1 : Int32) <<< (zs0 &&& 31)) - 1), .int 0]))] := hD
  refine W.widen (k := 0) (n := 0) (by omega) (by omega) ?_
  exact W.vret hx hb hr (fun t ht hW => ⟨⟨_, rfl, rfl, ⟨by rw [ht]; exact hP.sub [0] rfl, va_K.moved hW.alike hK, hD.sub [0] (by decide) rfl⟩⟩, hS.F ht⟩) hS.2.2 dKind_init_26
set_option maxHeartbeats 4000000 in
set_option maxRecDepth 100000 in
theorem c_Always_init (l : Launch) (dC : Nat → ClassId) (dI : Nat → Nat → Nat) (cA : ClassId × ClassId × ClassId) (zz : Nat) (h0 : Nat) (zs0 : Int32) : Met l yAlways_init wAlways_init ({ frames := 2, cells := 0, slots := 0, locals := 41 }) (va_Pc [.ref h0, .int zs0] (Wr (dC, dI) cA zz [(h0, .inr (0, [.int 0, .int 0, .int 0]))])) (va_Qv (fun w9 => w9 = [(h0, .inr (0, [.int zs0, .int ((1 : Int32) <<< (zs0 &&& 31)), .int (((1 : Int32) <<< (zs0 &&& 31)) - 1)]))]) (At (dC, dI) cA (va_A [(h0, .inr (0, [.int 0, .int 0, .int 0]))] zz)) (va_A [(h0, .inr (0, [.int 0, .int 0, .int 0]))] zz)) 0 0 (va_A [(h0, .inr (0, [.int 0, .int 0, .int 0]))] zz) := by
  refine Met.ofW (cc := cAlways_init) (maxL := 2) (ret := none) (by decide) rfl ?_
  intro p e s m args below meth c s₁ B hml hv
  obtain ⟨rfl, hsz, hN, hP, hK, hD0⟩ := hv
  have hx := B.exec
  have hb := B.bytes
  have hr := B.returns
  have hts := atoms_spec (ws := wAlways_init) B.pre
  have htg : ∀ w ∈ GW, w.before _ s = true := fun w h => hts w (List.mem_cons_of_mem _ h)
  have hown : s.vm.findClass R_Always = some m.cls := findClass_of_methodNamed B.named
  have hlocks := B.notSynchronized
  have hin : meth.name = "<init>" := (name_of_methodNamed B.named B.method).1
  subst hsz
  have hD := hD0.self (sz := s.heap.size)
  generalize hAe : va_A [(h0, .inr (0, [.int 0, .int 0, .int 0]))] s.heap.size = A at hD ⊢
  have hA : ∀ q : Nat, s.heap.size ≤ q → A q := fun q h => by rw [← hAe]; exact Or.inr h
  have hS : va_S A s.heap s.heap [] := va_S.rf
  have hP : va_P (dC, dI) vwCl [(h0, .inr (0, [.int 0, .int 0, .int 0]))] s.heap := hP
  have hl := lv_entry ([.ref h0, .int zs0]) (n := 2) (Nat.le_of_ble_eq_true rfl)
  rw [lg_entry_eq]
  generalize (lg_sl ([.ref h0, .int zs0]) ++ List.replicate (2 - (lg_sl ([.ref h0, .int zs0])).length) Slot.unset).toArray = ls at hl ⊢
  have hl : lv_has ls 2 [(0, .ref h0), (1, .int zs0)] := hl
  refine lv_aload_n hx hb dAlways_init_0 rfl (lv_at hl 0 rfl) ?_
  refine lv_iload_n hx hb dAlways_init_1 rfl (lv_at hl 1 rfl) ?_
  refine wg_Iv (wr := []) (As := [.int zs0]) (rest := []) ⟨hx, hb, hml, hown, htg⟩ (c_Kind_init_Always l dC dI cA _ h0 zs0) (cw_I htg wd_236 qKind_init iKind_init kKind_init pKind_init rfl rfl rfl ⟨Nat.le_of_ble_eq_true rfl, Nat.le_of_ble_eq_true rfl⟩) hN hP hD hS hA hK [0] [] rfl rfl (by decide) (by decide) (by decide) rfl hl.1 rfl (Nat.le_of_ble_eq_true rfl) dAlways_init_2 ⟨Nat.le_of_ble_eq_true rfl, Nat.le_of_ble_eq_true rfl⟩ (fun w1 hw H locs hP hD hS => ?_)
  obtain rfl := hw
  have hP : va_P (dC, dI) vwCl [(h0, .inr (0, [.int zs0, .int ((1 : Int32) <<< (zs0 &&& 31)), .int (((1 : Int32) <<< (zs0 &&& 31)) - 1)]))] H := hP
  have hD : va_D A [(h0, .inr (0, [.int zs0, .int ((1 : Int32) <<< (zs0 &&& 31)), .int (((1 : Int32) <<< (zs0 &&& 31)) - 1)]))] := hD
  refine W.widen (k := 0) (n := 0) (by omega) (by omega) ?_
  refine W.widen (k := 0) (n := 0) (by omega) (by omega) ?_
  exact W.vret hx hb hr (fun t ht hW => ⟨⟨_, rfl, rfl, ⟨by rw [ht]; exact hP.sub [0] rfl, va_K.moved hW.alike hK, hD.sub [0] (by decide) rfl⟩⟩, hS.F ht⟩) hS.2.2 dAlways_init_5
set_option maxHeartbeats 4000000 in
set_option maxRecDepth 100000 in
theorem c_Last_init (l : Launch) (dC : Nat → ClassId) (dI : Nat → Nat → Nat) (cA : ClassId × ClassId × ClassId) (zz : Nat) (h0 : Nat) (zs0 : Int32) (nn : Nat) (hnn : ((1 : Int32) <<< (zs0 &&& 31)) = nI nn) (hle : nn ≤ 1024) (hpz : 0 < nn) : Met l yLast_init wLast_init ({ frames := 2, cells := 1, slots := 1024, locals := 45 }) (va_Pc [.ref h0, .int zs0] (Wr (dC, dI) cA zz [(h0, .inr (4, [.int 0, .int 0, .int 0, .null]))])) (va_Qv (fun w9 => ∃ q_1 : Nat, w9 = [(h0, .inr (4, [.int zs0, .int ((1 : Int32) <<< (zs0 &&& 31)), .int (((1 : Int32) <<< (zs0 &&& 31)) - 1), .ref q_1])), (q_1, .inl (cA.1, nn, .inl (fun _ => 0)))]) (At (dC, dI) cA (va_A [(h0, .inr (4, [.int 0, .int 0, .int 0, .null]))] zz)) (va_A [(h0, .inr (4, [.int 0, .int 0, .int 0, .null]))] zz)) 1 1024 (va_A [(h0, .inr (4, [.int 0, .int 0, .int 0, .null]))] zz) := by
  refine Met.ofW (cc := cLast_init) (maxL := 2) (ret := none) (by decide) rfl ?_
  intro p e s m args below meth c s₁ B hml hv
  obtain ⟨rfl, hsz, hN, hP, hK, hD0⟩ := hv
  have hx := B.exec
  have hb := B.bytes
  have hr := B.returns
  have hts := atoms_spec (ws := wLast_init) B.pre
  have htg : ∀ w ∈ GW, w.before _ s = true := fun w h => hts w (List.mem_cons_of_mem _ h)
  have hown : s.vm.findClass R_Last = some m.cls := findClass_of_methodNamed B.named
  have hlocks := B.notSynchronized
  have hin : meth.name = "<init>" := (name_of_methodNamed B.named B.method).1
  subst hsz
  have hD := hD0.self (sz := s.heap.size)
  generalize hAe : va_A [(h0, .inr (4, [.int 0, .int 0, .int 0, .null]))] s.heap.size = A at hD ⊢
  have hA : ∀ q : Nat, s.heap.size ≤ q → A q := fun q h => by rw [← hAe]; exact Or.inr h
  have hS : va_S A s.heap s.heap [] := va_S.rf
  have hP : va_P (dC, dI) vwCl [(h0, .inr (4, [.int 0, .int 0, .int 0, .null]))] s.heap := hP
  have hl := lv_entry ([.ref h0, .int zs0]) (n := 2) (Nat.le_of_ble_eq_true rfl)
  rw [lg_entry_eq]
  generalize (lg_sl ([.ref h0, .int zs0]) ++ List.replicate (2 - (lg_sl ([.ref h0, .int zs0])).length) Slot.unset).toArray = ls at hl ⊢
  have hl : lv_has ls 2 [(0, .ref h0), (1, .int zs0)] := hl
  refine lv_aload_n hx hb dLast_init_0 rfl (lv_at hl 0 rfl) ?_
  refine lv_iload_n hx hb dLast_init_1 rfl (lv_at hl 1 rfl) ?_
  refine wg_Iv (wr := []) (As := [.int zs0]) (rest := []) ⟨hx, hb, hml, hown, htg⟩ (c_Kind_init_Last l dC dI cA _ h0 zs0) (cw_I htg wd_45 qKind_init iKind_init kKind_init pKind_init rfl rfl rfl ⟨Nat.le_of_ble_eq_true rfl, Nat.le_of_ble_eq_true rfl⟩) hN hP hD hS hA hK [0] [] rfl rfl (by decide) (by decide) (by decide) rfl hl.1 rfl (Nat.le_of_ble_eq_true rfl) dLast_init_2 ⟨Nat.le_of_ble_eq_true rfl, Nat.le_of_ble_eq_true rfl⟩ (fun w1 hw H locs hP hD hS => ?_)
  obtain rfl := hw
  have hP : va_P (dC, dI) vwCl [(h0, .inr (4, [.int zs0, .int ((1 : Int32) <<< (zs0 &&& 31)), .int (((1 : Int32) <<< (zs0 &&& 31)) - 1), .null]))] H := hP
  have hD : va_D A [(h0, .inr (4, [.int zs0, .int ((1 : Int32) <<< (zs0 &&& 31)), .int (((1 : Int32) <<< (zs0 &&& 31)) - 1), .null]))] := hD
  refine W.widen (k := 0) (n := 0) (by omega) (by omega) ?_
  refine lv_aload_n hx hb dLast_init_5 rfl (lv_at hl 0 rfl) ?_
  refine lv_aload_n hx hb dLast_init_6 rfl (lv_at hl 0 rfl) ?_
  refine va_get (D := (dC, dI)) (ci := 4) (v := .int ((1 : Int32) <<< (zs0 &&& 31))) (C := R_Last) (T := T_Last) (N := 4) hx hb htg in_Last hown hK hP 0 rfl rfl 1 (by decide) (htg _ wd_63) (fun x9 h9 => u_same (htg _ wd_64) x9 h9) rfl dLast_init_7 ?_
  refine lv_iconst (v := 0) hx hb dLast_init_10 (by decide) ?_
  refine wg_SNr (wr := [(h0, .inr (4, [.int zs0, .int ((1 : Int32) <<< (zs0 &&& 31)), .int (((1 : Int32) <<< (zs0 &&& 31)) - 1), .null]))]) (As := [.int ((1 : Int32) <<< (zs0 &&& 31)), .int 0]) (rest := [.ref h0]) ⟨hx, hb, hml, hown, htg⟩ (c_PK_cells l dC dI cA _ ((1 : Int32) <<< (zs0 &&& 31)) 0 nn 1024 hnn hle (by decide) hpz) (cw_SN htg hN wn_49 qPK_cells iPK_cells kPK_cells pPK_cells rfl rfl ⟨Nat.le_of_ble_eq_true rfl, Nat.le_of_ble_eq_true rfl⟩) hN hP hD hS hA hK [] [0] rfl rfl (by decide) (by decide) (by decide) rfl hl.1 rfl (Nat.le_of_ble_eq_true rfl) dLast_init_11 ⟨Nat.le_of_ble_eq_true rfl, Nat.le_of_ble_eq_true rfl⟩ (fun q_1 w1 hw H locs hP hD hS => ?_)
  obtain rfl := hw
  have hP : va_P (dC, dI) vwCl [(h0, .inr (4, [.int zs0, .int ((1 : Int32) <<< (zs0 &&& 31)), .int (((1 : Int32) <<< (zs0 &&& 31)) - 1), .null])), (q_1, .inl (cA.1, nn, .inl (fun _ => 0)))] H := hP
  have hD : va_D A [(h0, .inr (4, [.int zs0, .int ((1 : Int32) <<< (zs0 &&& 31)), .int (((1 : Int32) <<< (zs0 &&& 31)) - 1), .null])), (q_1, .inl (cA.1, nn, .inl (fun _ => 0)))] := hD
  refine W.widen (k := 1) (n := 1024) (by omega) (by omega) ?_
  refine va_putF (D := (dC, dI)) (ci := 4) (v := .ref q_1) (ty := (.array .int)) (C := R_Last) (T := T_Last) (N := 4) hx hb htg in_Last ty_Last tk_Last nm_Last hown hK hP hD hS 0 rfl rfl 3 (by decide) (htg _ wd_55) (fun _ h9 => h9) rfl hin rfl (by decide +kernel) rfl rfl (Nat.le_of_ble_eq_true rfl) dLast_init_14 (fun H locs hP hD hS => ?_)
  have hP : va_P (dC, dI) vwCl [(h0, .inr (4, [.int zs0, .int ((1 : Int32) <<< (zs0 &&& 31)), .int (((1 : Int32) <<< (zs0 &&& 31)) - 1), .ref q_1])), (q_1, .inl (cA.1, nn, .inl (fun _ => 0)))] H := hP
  have hD : va_D A [(h0, .inr (4, [.int zs0, .int ((1 : Int32) <<< (zs0 &&& 31)), .int (((1 : Int32) <<< (zs0 &&& 31)) - 1), .ref q_1])), (q_1, .inl (cA.1, nn, .inl (fun _ => 0)))] := hD
  refine W.widen (k := 1) (n := 1024) (by omega) (by omega) ?_
  exact W.vret hx hb hr (fun t ht hW => ⟨⟨_, rfl, ⟨q_1, rfl⟩, ⟨by rw [ht]; exact hP.sub [0, 1] rfl, va_K.moved hW.alike hK, hD.sub [0, 1] (by decide) rfl⟩⟩, hS.F ht⟩) hS.2.2 dLast_init_17
set_option maxHeartbeats 4000000 in
set_option maxRecDepth 100000 in
theorem c_Counters_init (l : Launch) (dC : Nat → ClassId) (dI : Nat → Nat → Nat) (cA : ClassId × ClassId × ClassId) (zz : Nat) (h0 : Nat) (zs0 : Int32) (mx : Bool) (nn : Nat) (hnn : ((1 : Int32) <<< (zs0 &&& 31)) = nI nn) (hle : nn ≤ 1024) (hpz : 0 < nn) : Met l yCounters_init wCounters_init ({ frames := 2, cells := 1, slots := 1024, locals := 45 }) (va_Pc [.ref h0, .int zs0, .int (bI mx)] (Wr (dC, dI) cA zz [(h0, .inr (3, [.int 0, .int 0, .int 0, .int (bI false), .null]))])) (va_Qv (fun w9 => ∃ q_1 : Nat, w9 = [(h0, .inr (3, [.int zs0, .int ((1 : Int32) <<< (zs0 &&& 31)), .int (((1 : Int32) <<< (zs0 &&& 31)) - 1), .int (bI mx), .ref q_1])), (q_1, .inl (cA.1, nn, .inl (fun _ => 1)))]) (At (dC, dI) cA (va_A [(h0, .inr (3, [.int 0, .int 0, .int 0, .int (bI false), .null]))] zz)) (va_A [(h0, .inr (3, [.int 0, .int 0, .int 0, .int (bI false), .null]))] zz)) 1 1024 (va_A [(h0, .inr (3, [.int 0, .int 0, .int 0, .int (bI false), .null]))] zz) := by
  refine Met.ofW (cc := cCounters_init) (maxL := 3) (ret := none) (by decide) rfl ?_
  intro p e s m args below meth c s₁ B hml hv
  obtain ⟨rfl, hsz, hN, hP, hK, hD0⟩ := hv
  have hx := B.exec
  have hb := B.bytes
  have hr := B.returns
  have hts := atoms_spec (ws := wCounters_init) B.pre
  have htg : ∀ w ∈ GW, w.before _ s = true := fun w h => hts w (List.mem_cons_of_mem _ h)
  have hown : s.vm.findClass R_Counters = some m.cls := findClass_of_methodNamed B.named
  have hlocks := B.notSynchronized
  have hin : meth.name = "<init>" := (name_of_methodNamed B.named B.method).1
  subst hsz
  have hD := hD0.self (sz := s.heap.size)
  generalize hAe : va_A [(h0, .inr (3, [.int 0, .int 0, .int 0, .int (bI false), .null]))] s.heap.size = A at hD ⊢
  have hA : ∀ q : Nat, s.heap.size ≤ q → A q := fun q h => by rw [← hAe]; exact Or.inr h
  have hS : va_S A s.heap s.heap [] := va_S.rf
  have hP : va_P (dC, dI) vwCl [(h0, .inr (3, [.int 0, .int 0, .int 0, .int (bI false), .null]))] s.heap := hP
  have hl := lv_entry ([.ref h0, .int zs0, .int (bI mx)]) (n := 3) (Nat.le_of_ble_eq_true rfl)
  rw [lg_entry_eq]
  generalize (lg_sl ([.ref h0, .int zs0, .int (bI mx)]) ++ List.replicate (3 - (lg_sl ([.ref h0, .int zs0, .int (bI mx)])).length) Slot.unset).toArray = ls at hl ⊢
  have hl : lv_has ls 3 [(0, .ref h0), (1, .int zs0), (2, .int (bI mx))] := hl
  refine lv_aload_n hx hb dCounters_init_0 rfl (lv_at hl 0 rfl) ?_
  refine lv_iload_n hx hb dCounters_init_1 rfl (lv_at hl 1 rfl) ?_
  refine wg_Iv (wr := []) (As := [.int zs0]) (rest := []) ⟨hx, hb, hml, hown, htg⟩ (c_Kind_init_Counters l dC dI cA _ h0 zs0) (cw_I htg wd_100 qKind_init iKind_init kKind_init pKind_init rfl rfl rfl ⟨Nat.le_of_ble_eq_true rfl, Nat.le_of_ble_eq_true rfl⟩) hN hP hD hS hA hK [0] [] rfl rfl (by decide) (by decide) (by decide) rfl hl.1 rfl (Nat.le_of_ble_eq_true rfl) dCounters_init_2 ⟨Nat.le_of_ble_eq_true rfl, Nat.le_of_ble_eq_true rfl⟩ (fun w1 hw H locs hP hD hS => ?_)
  obtain rfl := hw
  have hP : va_P (dC, dI) vwCl [(h0, .inr (3, [.int zs0, .int ((1 : Int32) <<< (zs0 &&& 31)), .int (((1 : Int32) <<< (zs0 &&& 31)) - 1), .int (bI false), .null]))] H := hP
  have hD : va_D A [(h0, .inr (3, [.int zs0, .int ((1 : Int32) <<< (zs0 &&& 31)), .int (((1 : Int32) <<< (zs0 &&& 31)) - 1), .int (bI false), .null]))] := hD
  refine W.widen (k := 0) (n := 0) (by omega) (by omega) ?_
  refine lv_aload_n hx hb dCounters_init_5 rfl (lv_at hl 0 rfl) ?_
  refine lv_iload_n hx hb dCounters_init_6 rfl (lv_at hl 2 rfl) ?_
  refine va_putF (D := (dC, dI)) (ci := 3) (v := .int (bI mx)) (ty := .boolean) (C := R_Counters) (T := T_Counters) (N := 5) hx hb htg in_Counters ty_Counters tk_Counters nm_Counters hown hK hP hD hS 0 rfl rfl 3 (by decide) (htg _ wd_102) (fun _ h9 => h9) rfl hin rfl (by decide +kernel) (nar_bI _) (fit_bI _) (Nat.le_of_ble_eq_true rfl) dCounters_init_7 (fun H locs hP hD hS => ?_)
  have hP : va_P (dC, dI) vwCl [(h0, .inr (3, [.int zs0, .int ((1 : Int32) <<< (zs0 &&& 31)), .int (((1 : Int32) <<< (zs0 &&& 31)) - 1), .int (bI mx), .null]))] H := hP
  have hD : va_D A [(h0, .inr (3, [.int zs0, .int ((1 : Int32) <<< (zs0 &&& 31)), .int (((1 : Int32) <<< (zs0 &&& 31)) - 1), .int (bI mx), .null]))] := hD
  refine lv_aload_n hx hb dCounters_init_10 rfl (lv_at hl 0 rfl) ?_
  refine lv_aload_n hx hb dCounters_init_11 rfl (lv_at hl 0 rfl) ?_
  refine va_get (D := (dC, dI)) (ci := 3) (v := .int ((1 : Int32) <<< (zs0 &&& 31))) (C := R_Counters) (T := T_Counters) (N := 5) hx hb htg in_Counters hown hK hP 0 rfl rfl 1 (by decide) (htg _ wd_69) (fun x9 h9 => u_same (htg _ wd_70) x9 h9) rfl dCounters_init_12 ?_
  refine lv_iconst (v := 1) hx hb dCounters_init_15 (by decide) ?_
  refine wg_SNr (wr := [(h0, .inr (3, [.int zs0, .int ((1 : Int32) <<< (zs0 &&& 31)), .int (((1 : Int32) <<< (zs0 &&& 31)) - 1), .int (bI mx), .null]))]) (As := [.int ((1 : Int32) <<< (zs0 &&& 31)), .int 1]) (rest := [.ref h0]) ⟨hx, hb, hml, hown, htg⟩ (c_PK_cells l dC dI cA _ ((1 : Int32) <<< (zs0 &&& 31)) 1 nn 1024 hnn hle (by decide) hpz) (cw_SN htg hN wn_101 qPK_cells iPK_cells kPK_cells pPK_cells rfl rfl ⟨Nat.le_of_ble_eq_true rfl, Nat.le_of_ble_eq_true rfl⟩) hN hP hD hS hA hK [] [0] rfl rfl (by decide) (by decide) (by decide) rfl hl.1 rfl (Nat.le_of_ble_eq_true rfl) dCounters_init_16 ⟨Nat.le_of_ble_eq_true rfl, Nat.le_of_ble_eq_true rfl⟩ (fun q_1 w1 hw H locs hP hD hS => ?_)
  obtain rfl := hw
  have hP : va_P (dC, dI) vwCl [(h0, .inr (3, [.int zs0, .int ((1 : Int32) <<< (zs0 &&& 31)), .int (((1 : Int32) <<< (zs0 &&& 31)) - 1), .int (bI mx), .null])), (q_1, .inl (cA.1, nn, .inl (fun _ => 1)))] H := hP
  have hD : va_D A [(h0, .inr (3, [.int zs0, .int ((1 : Int32) <<< (zs0 &&& 31)), .int (((1 : Int32) <<< (zs0 &&& 31)) - 1), .int (bI mx), .null])), (q_1, .inl (cA.1, nn, .inl (fun _ => 1)))] := hD
  refine W.widen (k := 1) (n := 1024) (by omega) (by omega) ?_
  refine va_putF (D := (dC, dI)) (ci := 3) (v := .ref q_1) (ty := (.array .int)) (C := R_Counters) (T := T_Counters) (N := 5) hx hb htg in_Counters ty_Counters tk_Counters nm_Counters hown hK hP hD hS 0 rfl rfl 4 (by decide) (htg _ wd_103) (fun _ h9 => h9) rfl hin rfl (by decide +kernel) rfl rfl (Nat.le_of_ble_eq_true rfl) dCounters_init_19 (fun H locs hP hD hS => ?_)
  have hP : va_P (dC, dI) vwCl [(h0, .inr (3, [.int zs0, .int ((1 : Int32) <<< (zs0 &&& 31)), .int (((1 : Int32) <<< (zs0 &&& 31)) - 1), .int (bI mx), .ref q_1])), (q_1, .inl (cA.1, nn, .inl (fun _ => 1)))] H := hP
  have hD : va_D A [(h0, .inr (3, [.int zs0, .int ((1 : Int32) <<< (zs0 &&& 31)), .int (((1 : Int32) <<< (zs0 &&& 31)) - 1), .int (bI mx), .ref q_1])), (q_1, .inl (cA.1, nn, .inl (fun _ => 1)))] := hD
  refine W.widen (k := 1) (n := 1024) (by omega) (by omega) ?_
  exact W.vret hx hb hr (fun t ht hW => ⟨⟨_, rfl, ⟨q_1, rfl⟩, ⟨by rw [ht]; exact hP.sub [0, 1] rfl, va_K.moved hW.alike hK, hD.sub [0, 1] (by decide) rfl⟩⟩, hS.F ht⟩) hS.2.2 dCounters_init_22
set_option maxHeartbeats 4000000 in
set_option maxRecDepth 100000 in
theorem c_Own_init (l : Launch) (dC : Nat → ClassId) (dI : Nat → Nat → Nat) (cA : ClassId × ClassId × ClassId) (zz : Nat) (h0 : Nat) (zs0 : Int32) (nn : Nat) (hnn : ((1 : Int32) <<< (zs0 &&& 31)) = nI nn) (hle : nn ≤ 1024) (hpz : 0 < nn) : Met l yOwn_init wOwn_init ({ frames := 2, cells := 2, slots := 2048, locals := 45 }) (va_Pc [.ref h0, .int zs0] (Wr (dC, dI) cA zz [(h0, .inr (6, [.int 0, .int 0, .int 0, .null, .null]))])) (va_Qv (fun w9 => ∃ q_1 q_2 : Nat, w9 = [(h0, .inr (6, [.int zs0, .int ((1 : Int32) <<< (zs0 &&& 31)), .int (((1 : Int32) <<< (zs0 &&& 31)) - 1), .ref q_1, .ref q_2])), (q_1, .inl (cA.1, nn, .inl (fun _ => 0))), (q_2, .inl (cA.1, nn, .inl (fun _ => 1)))]) (At (dC, dI) cA (va_A [(h0, .inr (6, [.int 0, .int 0, .int 0, .null, .null]))] zz)) (va_A [(h0, .inr (6, [.int 0, .int 0, .int 0, .null, .null]))] zz)) 2 2048 (va_A [(h0, .inr (6, [.int 0, .int 0, .int 0, .null, .null]))] zz) := by
  refine Met.ofW (cc := cOwn_init) (maxL := 2) (ret := none) (by decide) rfl ?_
  intro p e s m args below meth c s₁ B hml hv
  obtain ⟨rfl, hsz, hN, hP, hK, hD0⟩ := hv
  have hx := B.exec
  have hb := B.bytes
  have hr := B.returns
  have hts := atoms_spec (ws := wOwn_init) B.pre
  have htg : ∀ w ∈ GW, w.before _ s = true := fun w h => hts w (List.mem_cons_of_mem _ h)
  have hown : s.vm.findClass R_Own = some m.cls := findClass_of_methodNamed B.named
  have hlocks := B.notSynchronized
  have hin : meth.name = "<init>" := (name_of_methodNamed B.named B.method).1
  subst hsz
  have hD := hD0.self (sz := s.heap.size)
  generalize hAe : va_A [(h0, .inr (6, [.int 0, .int 0, .int 0, .null, .null]))] s.heap.size = A at hD ⊢
  have hA : ∀ q : Nat, s.heap.size ≤ q → A q := fun q h => by rw [← hAe]; exact Or.inr h
  have hS : va_S A s.heap s.heap [] := va_S.rf
  have hP : va_P (dC, dI) vwCl [(h0, .inr (6, [.int 0, .int 0, .int 0, .null, .null]))] s.heap := hP
  have hl := lv_entry ([.ref h0, .int zs0]) (n := 2) (Nat.le_of_ble_eq_true rfl)
  rw [lg_entry_eq]
  generalize (lg_sl ([.ref h0, .int zs0]) ++ List.replicate (2 - (lg_sl ([.ref h0, .int zs0])).length) Slot.unset).toArray = ls at hl ⊢
  have hl : lv_has ls 2 [(0, .ref h0), (1, .int zs0)] := hl
  refine lv_aload_n hx hb dOwn_init_0 rfl (lv_at hl 0 rfl) ?_
  refine lv_iload_n hx hb dOwn_init_1 rfl (lv_at hl 1 rfl) ?_
  refine wg_Iv (wr := []) (As := [.int zs0]) (rest := []) ⟨hx, hb, hml, hown, htg⟩ (c_Kind_init_Own l dC dI cA _ h0 zs0) (cw_I htg wd_117 qKind_init iKind_init kKind_init pKind_init rfl rfl rfl ⟨Nat.le_of_ble_eq_true rfl, Nat.le_of_ble_eq_true rfl⟩) hN hP hD hS hA hK [0] [] rfl rfl (by decide) (by decide) (by decide) rfl hl.1 rfl (Nat.le_of_ble_eq_true rfl) dOwn_init_2 ⟨Nat.le_of_ble_eq_true rfl, Nat.le_of_ble_eq_true rfl⟩ (fun w1 hw H locs hP hD hS => ?_)
  obtain rfl := hw
  have hP : va_P (dC, dI) vwCl [(h0, .inr (6, [.int zs0, .int ((1 : Int32) <<< (zs0 &&& 31)), .int (((1 : Int32) <<< (zs0 &&& 31)) - 1), .null, .null]))] H := hP
  have hD : va_D A [(h0, .inr (6, [.int zs0, .int ((1 : Int32) <<< (zs0 &&& 31)), .int (((1 : Int32) <<< (zs0 &&& 31)) - 1), .null, .null]))] := hD
  refine W.widen (k := 0) (n := 0) (by omega) (by omega) ?_
  refine lv_aload_n hx hb dOwn_init_5 rfl (lv_at hl 0 rfl) ?_
  refine lv_aload_n hx hb dOwn_init_6 rfl (lv_at hl 0 rfl) ?_
  refine va_get (D := (dC, dI)) (ci := 6) (v := .int ((1 : Int32) <<< (zs0 &&& 31))) (C := R_Own) (T := T_Own) (N := 5) hx hb htg in_Own hown hK hP 0 rfl rfl 1 (by decide) (htg _ wd_65) (fun x9 h9 => u_same (htg _ wd_66) x9 h9) rfl dOwn_init_7 ?_
  refine lv_iconst (v := 0) hx hb dOwn_init_10 (by decide) ?_
  refine wg_SNr (wr := [(h0, .inr (6, [.int zs0, .int ((1 : Int32) <<< (zs0 &&& 31)), .int (((1 : Int32) <<< (zs0 &&& 31)) - 1), .null, .null]))]) (As := [.int ((1 : Int32) <<< (zs0 &&& 31)), .int 0]) (rest := [.ref h0]) ⟨hx, hb, hml, hown, htg⟩ (c_PK_cells l dC dI cA _ ((1 : Int32) <<< (zs0 &&& 31)) 0 nn 1024 hnn hle (by decide) hpz) (cw_SN htg hN wn_118 qPK_cells iPK_cells kPK_cells pPK_cells rfl rfl ⟨Nat.le_of_ble_eq_true rfl, Nat.le_of_ble_eq_true rfl⟩) hN hP hD hS hA hK [] [0] rfl rfl (by decide) (by decide) (by decide) rfl hl.1 rfl (Nat.le_of_ble_eq_true rfl) dOwn_init_11 ⟨Nat.le_of_ble_eq_true rfl, Nat.le_of_ble_eq_true rfl⟩ (fun q_1 w1 hw H locs hP hD hS => ?_)
  obtain rfl := hw
  have hP : va_P (dC, dI) vwCl [(h0, .inr (6, [.int zs0, .int ((1 : Int32) <<< (zs0 &&& 31)), .int (((1 : Int32) <<< (zs0 &&& 31)) - 1), .null, .null])), (q_1, .inl (cA.1, nn, .inl (fun _ => 0)))] H := hP
  have hD : va_D A [(h0, .inr (6, [.int zs0, .int ((1 : Int32) <<< (zs0 &&& 31)), .int (((1 : Int32) <<< (zs0 &&& 31)) - 1), .null, .null])), (q_1, .inl (cA.1, nn, .inl (fun _ => 0)))] := hD
  refine W.widen (k := 1) (n := 1024) (by omega) (by omega) ?_
  refine va_putF (D := (dC, dI)) (ci := 6) (v := .ref q_1) (ty := (.array .int)) (C := R_Own) (T := T_Own) (N := 5) hx hb htg in_Own ty_Own tk_Own nm_Own hown hK hP hD hS 0 rfl rfl 3 (by decide) (htg _ wd_119) (fun _ h9 => h9) rfl hin rfl (by decide +kernel) rfl rfl (Nat.le_of_ble_eq_true rfl) dOwn_init_14 (fun H locs hP hD hS => ?_)
  have hP : va_P (dC, dI) vwCl [(h0, .inr (6, [.int zs0, .int ((1 : Int32) <<< (zs0 &&& 31)), .int (((1 : Int32) <<< (zs0 &&& 31)) - 1), .ref q_1, .null])), (q_1, .inl (cA.1, nn, .inl (fun _ => 0)))] H := hP
  have hD : va_D A [(h0, .inr (6, [.int zs0, .int ((1 : Int32) <<< (zs0 &&& 31)), .int (((1 : Int32) <<< (zs0 &&& 31)) - 1), .ref q_1, .null])), (q_1, .inl (cA.1, nn, .inl (fun _ => 0)))] := hD
  refine lv_aload_n hx hb dOwn_init_17 rfl (lv_at hl 0 rfl) ?_
  refine lv_aload_n hx hb dOwn_init_18 rfl (lv_at hl 0 rfl) ?_
  refine va_get (D := (dC, dI)) (ci := 6) (v := .int ((1 : Int32) <<< (zs0 &&& 31))) (C := R_Own) (T := T_Own) (N := 5) hx hb htg in_Own hown hK hP 0 rfl rfl 1 (by decide) (htg _ wd_65) (fun x9 h9 => u_same (htg _ wd_66) x9 h9) rfl dOwn_init_19 ?_
  refine lv_iconst (v := 1) hx hb dOwn_init_22 (by decide) ?_
  refine wg_SNr (wr := [(h0, .inr (6, [.int zs0, .int ((1 : Int32) <<< (zs0 &&& 31)), .int (((1 : Int32) <<< (zs0 &&& 31)) - 1), .ref q_1, .null])), (q_1, .inl (cA.1, nn, .inl (fun _ => 0)))]) (As := [.int ((1 : Int32) <<< (zs0 &&& 31)), .int 1]) (rest := [.ref h0]) ⟨hx, hb, hml, hown, htg⟩ (c_PK_cells l dC dI cA _ ((1 : Int32) <<< (zs0 &&& 31)) 1 nn 1024 hnn hle (by decide) hpz) (cw_SN htg hN wn_118 qPK_cells iPK_cells kPK_cells pPK_cells rfl rfl ⟨Nat.le_of_ble_eq_true rfl, Nat.le_of_ble_eq_true rfl⟩) hN hP hD hS hA hK [] [0, 1] rfl rfl (by decide) (by decide) (by decide) rfl hl.1 rfl (Nat.le_of_ble_eq_true rfl) dOwn_init_23 ⟨Nat.le_of_ble_eq_true rfl, Nat.le_of_ble_eq_true rfl⟩ (fun q_2 w1 hw H locs hP hD hS => ?_)
  obtain rfl := hw
  have hP : va_P (dC, dI) vwCl [(h0, .inr (6, [.int zs0, .int ((1 : Int32) <<< (zs0 &&& 31)), .int (((1 : Int32) <<< (zs0 &&& 31)) - 1), .ref q_1, .null])), (q_1, .inl (cA.1, nn, .inl (fun _ => 0))), (q_2, .inl (cA.1, nn, .inl (fun _ => 1)))] H := hP
  have hD : va_D A [(h0, .inr (6, [.int zs0, .int ((1 : Int32) <<< (zs0 &&& 31)), .int (((1 : Int32) <<< (zs0 &&& 31)) - 1), .ref q_1, .null])), (q_1, .inl (cA.1, nn, .inl (fun _ => 0))), (q_2, .inl (cA.1, nn, .inl (fun _ => 1)))] := hD
  refine W.widen (k := 2) (n := 2048) (by omega) (by omega) ?_
  refine va_putF (D := (dC, dI)) (ci := 6) (v := .ref q_2) (ty := (.array .int)) (C := R_Own) (T := T_Own) (N := 5) hx hb htg in_Own ty_Own tk_Own nm_Own hown hK hP hD hS 0 rfl rfl 4 (by decide) (htg _ wd_120) (fun _ h9 => h9) rfl hin rfl (by decide +kernel) rfl rfl (Nat.le_of_ble_eq_true rfl) dOwn_init_26 (fun H locs hP hD hS => ?_)
  have hP : va_P (dC, dI) vwCl [(h0, .inr (6, [.int zs0, .int ((1 : Int32) <<< (zs0 &&& 31)), .int (((1 : Int32) <<< (zs0 &&& 31)) - 1), .ref q_1, .ref q_2])), (q_1, .inl (cA.1, nn, .inl (fun _ => 0))), (q_2, .inl (cA.1, nn, .inl (fun _ => 1)))] H := hP
  have hD : va_D A [(h0, .inr (6, [.int zs0, .int ((1 : Int32) <<< (zs0 &&& 31)), .int (((1 : Int32) <<< (zs0 &&& 31)) - 1), .ref q_1, .ref q_2])), (q_1, .inl (cA.1, nn, .inl (fun _ => 0))), (q_2, .inl (cA.1, nn, .inl (fun _ => 1)))] := hD
  refine W.widen (k := 2) (n := 2048) (by omega) (by omega) ?_
  exact W.vret hx hb hr (fun t ht hW => ⟨⟨_, rfl, ⟨q_1, q_2, rfl⟩, ⟨by rw [ht]; exact hP.sub [0, 1, 2] rfl, va_K.moved hW.alike hK, hD.sub [0, 1, 2] (by decide) rfl⟩⟩, hS.F ht⟩) hS.2.2 dOwn_init_29
set_option maxHeartbeats 4000000 in
set_option maxRecDepth 100000 in
theorem c_Chooser_init (l : Launch) (dC : Nat → ClassId) (dI : Nat → Nat → Nat) (cA : ClassId × ClassId × ClassId) (zz : Nat) (h0 : Nat) (zs0 : Int32) (nn : Nat) (hnn : ((1 : Int32) <<< (zs0 &&& 31)) = nI nn) (hle : nn ≤ 1024) (hpz : 0 < nn) : Met l yChooser_init wChooser_init ({ frames := 3, cells := 5, slots := 3082, locals := 67 }) (va_Pc [.ref h0, .int zs0] (Wr (dC, dI) cA zz [(h0, .inr (1, [.int 0, .int 0, .int 0, .null, .null, .null]))])) (va_Qv (fun w9 => ∃ q_1 q_2 q_3 q_4 q_5 : Nat, w9 = [(h0, .inr (1, [.int zs0, .int ((1 : Int32) <<< (zs0 &&& 31)), .int (((1 : Int32) <<< (zs0 &&& 31)) - 1), .ref q_1, .ref q_3, .ref q_5])), (q_1, .inr (3, [.int zs0, .int ((1 : Int32) <<< (zs0 &&& 31)), .int (((1 : Int32) <<< (zs0 &&& 31)) - 1), .int (bI false), .ref q_2])), (q_2, .inl (cA.1, nn, .inl (fun _ => 1))), (q_3, .inr (3, [.int zs0, .int ((1 : Int32) <<< (zs0 &&& 31)), .int (((1 : Int32) <<< (zs0 &&& 31)) - 1), .int (bI true), .ref q_4])), (q_4, .inl (cA.1, nn, .inl (fun _ => 1))), (q_5, .inl (cA.1, nn, .inl (fun _ => 1)))]) (At (dC, dI) cA (va_A [(h0, .inr (1, [.int 0, .int 0, .int 0, .null, .null, .null]))] zz)) (va_A [(h0, .inr (1, [.int 0, .int 0, .int 0, .null, .null, .null]))] zz)) 5 3082 (va_A [(h0, .inr (1, [.int 0, .int 0, .int 0, .null, .null, .null]))] zz) := by
  refine Met.ofW (cc := cChooser_init) (maxL := 2) (ret := none) (by decide) rfl ?_
  intro p e s m args below meth c s₁ B hml hv
  obtain ⟨rfl, hsz, hN, hP, hK, hD0⟩ := hv
  have hx := B.exec
  have hb := B.bytes
  have hr := B.returns
  have hts := atoms_spec (ws := wChooser_init) B.pre
  have htg : ∀ w ∈ GW, w.before _ s = true := fun w h => hts w (List.mem_cons_of_mem _ h)
  have hown : s.vm.findClass R_Chooser = some m.cls := findClass_of_methodNamed B.named
  have hlocks := B.notSynchronized
  have hin : meth.name = "<init>" := (name_of_methodNamed B.named B.method).1
  subst hsz
  have hD := hD0.self (sz := s.heap.size)
  generalize hAe : va_A [(h0, .inr (1, [.int 0, .int 0, .int 0, .null, .null, .null]))] s.heap.size = A at hD ⊢
  have hA : ∀ q : Nat, s.heap.size ≤ q → A q := fun q h => by rw [← hAe]; exact Or.inr h
  have hS : va_S A s.heap s.heap [] := va_S.rf
  have hP : va_P (dC, dI) vwCl [(h0, .inr (1, [.int 0, .int 0, .int 0, .null, .null, .null]))] s.heap := hP
  have hl := lv_entry ([.ref h0, .int zs0]) (n := 2) (Nat.le_of_ble_eq_true rfl)
  rw [lg_entry_eq]
  generalize (lg_sl ([.ref h0, .int zs0]) ++ List.replicate (2 - (lg_sl ([.ref h0, .int zs0])).length) Slot.unset).toArray = ls at hl ⊢
  have hl : lv_has ls 2 [(0, .ref h0), (1, .int zs0)] := hl
  refine lv_aload_n hx hb dChooser_init_0 rfl (lv_at hl 0 rfl) ?_
  refine lv_iload_n hx hb dChooser_init_1 rfl (lv_at hl 1 rfl) ?_
  refine wg_Iv (wr := []) (As := [.int zs0]) (rest := []) ⟨hx, hb, hml, hown, htg⟩ (c_Kind_init_Chooser l dC dI cA _ h0 zs0) (cw_I htg wd_134 qKind_init iKind_init kKind_init pKind_init rfl rfl rfl ⟨Nat.le_of_ble_eq_true rfl, Nat.le_of_ble_eq_true rfl⟩) hN hP hD hS hA hK [0] [] rfl rfl (by decide) (by decide) (by decide) rfl hl.1 rfl (Nat.le_of_ble_eq_true rfl) dChooser_init_2 ⟨Nat.le_of_ble_eq_true rfl, Nat.le_of_ble_eq_true rfl⟩ (fun w1 hw H locs hP hD hS => ?_)
  obtain rfl := hw
  have hP : va_P (dC, dI) vwCl [(h0, .inr (1, [.int zs0, .int ((1 : Int32) <<< (zs0 &&& 31)), .int (((1 : Int32) <<< (zs0 &&& 31)) - 1), .null, .null, .null]))] H := hP
  have hD : va_D A [(h0, .inr (1, [.int zs0, .int ((1 : Int32) <<< (zs0 &&& 31)), .int (((1 : Int32) <<< (zs0 &&& 31)) - 1), .null, .null, .null]))] := hD
  refine W.widen (k := 0) (n := 0) (by omega) (by omega) ?_
  refine lv_aload_n hx hb dChooser_init_5 rfl (lv_at hl 0 rfl) ?_
  refine va_new (ci := 3) (fs := [.int 0, .int 0, .int 0, .int (bI false), .null]) (C := R_Counters) (T := T_Counters) (N := 5) hx hb htg in_Counters ty_Counters tk_Counters hown (htg _ wd_135) (htg _ wd_96) (htg _ wd_6) hK hP hD hS hA rfl (fun j hj => by rcases (show j = 0 ∨ j = 1 ∨ j = 2 ∨ j = 3 ∨ j = 4 by omega) with rfl | rfl | rfl | rfl | rfl <;> rfl) (Nat.le_of_ble_eq_true rfl) (Nat.le_of_ble_eq_true rfl) dChooser_init_6 (fun q_1 H hP hD hS => ?_)
  have hP : va_P (dC, dI) vwCl [(h0, .inr (1, [.int zs0, .int ((1 : Int32) <<< (zs0 &&& 31)), .int (((1 : Int32) <<< (zs0 &&& 31)) - 1), .null, .null, .null])), (q_1, .inr (3, [.int 0, .int 0, .int 0, .int (bI false), .null]))] H := hP
  have hD : va_D A [(h0, .inr (1, [.int zs0, .int ((1 : Int32) <<< (zs0 &&& 31)), .int (((1 : Int32) <<< (zs0 &&& 31)) - 1), .null, .null, .null])), (q_1, .inr (3, [.int 0, .int 0, .int 0, .int (bI false), .null]))] := hD
  refine W.widen (k := 1) (n := 5) (by omega) (by omega) ?_
  refine lv_dup hx hb dChooser_init_9 rfl ?_
  refine lv_iload_n hx hb dChooser_init_10 rfl (lv_at hl 1 rfl) ?_
  refine lv_iconst (v := 0) hx hb dChooser_init_11 (by decide) ?_
  refine wg_Iv (wr := [(h0, .inr (1, [.int zs0, .int ((1 : Int32) <<< (zs0 &&& 31)), .int (((1 : Int32) <<< (zs0 &&& 31)) - 1), .null, .null, .null]))]) (As := [.int zs0, .int 0]) (rest := [.ref q_1, .ref h0]) ⟨hx, hb, hml, hown, htg⟩ (c_Counters_init l dC dI cA _ q_1 zs0 false nn hnn hle hpz) (cw_I htg wd_136 qCounters_init iCounters_init kCounters_init pCounters_init rfl rfl rfl ⟨Nat.le_of_ble_eq_true rfl, Nat.le_of_ble_eq_true rfl⟩) hN hP hD hS hA hK [1] [0] rfl rfl (by decide) (by decide) (by decide) rfl hl.1 rfl (Nat.le_of_ble_eq_true rfl) dChooser_init_12 ⟨Nat.le_of_ble_eq_true rfl, Nat.le_of_ble_eq_true rfl⟩ (fun w1 hw H locs hP hD hS => ?_)
  obtain ⟨q_2, rfl⟩ := hw
  have hP : va_P (dC, dI) vwCl [(h0, .inr (1, [.int zs0, .int ((1 : Int32) <<< (zs0 &&& 31)), .int (((1 : Int32) <<< (zs0 &&& 31)) - 1), .null, .null, .null])), (q_1, .inr (3, [.int zs0, .int ((1 : Int32) <<< (zs0 &&& 31)), .int (((1 : Int32) <<< (zs0 &&& 31)) - 1), .int (bI false), .ref q_2])), (q_2, .inl (cA.1, nn, .inl (fun _ => 1)))] H := hP
  have hD : va_D A [(h0, .inr (1, [.int zs0, .int ((1 : Int32) <<< (zs0 &&& 31)), .int (((1 : Int32) <<< (zs0 &&& 31)) - 1), .null, .null, .null])), (q_1, .inr (3, [.int zs0, .int ((1 : Int32) <<< (zs0 &&& 31)), .int (((1 : Int32) <<< (zs0 &&& 31)) - 1), .int (bI false), .ref q_2])), (q_2, .inl (cA.1, nn, .inl (fun _ => 1)))] := hD
  refine W.widen (k := 2) (n := 1029) (by omega) (by omega) ?_
  refine va_putF (D := (dC, dI)) (ci := 1) (v := .ref q_1) (ty := (.object "PredictorKinds$Counters")) (C := R_Chooser) (T := T_Chooser) (N := 6) hx hb htg in_Chooser ty_Chooser tk_Chooser nm_Chooser hown hK hP hD hS 0 rfl rfl 3 (by decide) (htg _ wd_138) (fun _ h9 => h9) rfl hin rfl (by decide +kernel) rfl rfl (Nat.le_of_ble_eq_true rfl) dChooser_init_15 (fun H locs hP hD hS => ?_)
  have hP : va_P (dC, dI) vwCl [(h0, .inr (1, [.int zs0, .int ((1 : Int32) <<< (zs0 &&& 31)), .int (((1 : Int32) <<< (zs0 &&& 31)) - 1), .ref q_1, .null, .null])), (q_1, .inr (3, [.int zs0, .int ((1 : Int32) <<< (zs0 &&& 31)), .int (((1 : Int32) <<< (zs0 &&& 31)) - 1), .int (bI false), .ref q_2])), (q_2, .inl (cA.1, nn, .inl (fun _ => 1)))] H := hP
  have hD : va_D A [(h0, .inr (1, [.int zs0, .int ((1 : Int32) <<< (zs0 &&& 31)), .int (((1 : Int32) <<< (zs0 &&& 31)) - 1), .ref q_1, .null, .null])), (q_1, .inr (3, [.int zs0, .int ((1 : Int32) <<< (zs0 &&& 31)), .int (((1 : Int32) <<< (zs0 &&& 31)) - 1), .int (bI false), .ref q_2])), (q_2, .inl (cA.1, nn, .inl (fun _ => 1)))] := hD
  refine lv_aload_n hx hb dChooser_init_18 rfl (lv_at hl 0 rfl) ?_
  refine va_new (ci := 3) (fs := [.int 0, .int 0, .int 0, .int (bI false), .null]) (C := R_Counters) (T := T_Counters) (N := 5) hx hb htg in_Counters ty_Counters tk_Counters hown (htg _ wd_135) (htg _ wd_96) (htg _ wd_6) hK hP hD hS hA rfl (fun j hj => by rcases (show j = 0 ∨ j = 1 ∨ j = 2 ∨ j = 3 ∨ j = 4 by omega) with rfl | rfl | rfl | rfl | rfl <;> rfl) (Nat.le_of_ble_eq_true rfl) (Nat.le_of_ble_eq_true rfl) dChooser_init_19 (fun q_3 H hP hD hS => ?_)
  have hP : va_P (dC, dI) vwCl [(h0, .inr (1, [.int zs0, .int ((1 : Int32) <<< (zs0 &&& 31)), .int (((1 : Int32) <<< (zs0 &&& 31)) - 1), .ref q_1, .null, .null])), (q_1, .inr (3, [.int zs0, .int ((1 : Int32) <<< (zs0 &&& 31)), .int (((1 : Int32) <<< (zs0 &&& 31)) - 1), .int (bI false), .ref q_2])), (q_2, .inl (cA.1, nn, .inl (fun _ => 1))), (q_3, .inr (3, [.int 0, .int 0, .int 0, .int (bI false), .null]))] H := hP
  have hD : va_D A [(h0, .inr (1, [.int zs0, .int ((1 : Int32) <<< (zs0 &&& 31)), .int (((1 : Int32) <<< (zs0 &&& 31)) - 1), .ref q_1, .null, .null])), (q_1, .inr (3, [.int zs0, .int ((1 : Int32) <<< (zs0 &&& 31)), .int (((1 : Int32) <<< (zs0 &&& 31)) - 1), .int (bI false), .ref q_2])), (q_2, .inl (cA.1, nn, .inl (fun _ => 1))), (q_3, .inr (3, [.int 0, .int 0, .int 0, .int (bI false), .null]))] := hD
  refine W.widen (k := 3) (n := 1034) (by omega) (by omega) ?_
  refine lv_dup hx hb dChooser_init_22 rfl ?_
  refine lv_iload_n hx hb dChooser_init_23 rfl (lv_at hl 1 rfl) ?_
  refine lv_iconst (v := 1) hx hb dChooser_init_24 (by decide) ?_
  refine wg_Iv (wr := [(h0, .inr (1, [.int zs0, .int ((1 : Int32) <<< (zs0 &&& 31)), .int (((1 : Int32) <<< (zs0 &&& 31)) - 1), .ref q_1, .null, .null])), (q_1, .inr (3, [.int zs0, .int ((1 : Int32) <<< (zs0 &&& 31)), .int (((1 : Int32) <<< (zs0 &&& 31)) - 1), .int (bI false), .ref q_2])), (q_2, .inl (cA.1, nn, .inl (fun _ => 1)))]) (As := [.int zs0, .int 1]) (rest := [.ref q_3, .ref h0]) ⟨hx, hb, hml, hown, htg⟩ (c_Counters_init l dC dI cA _ q_3 zs0 true nn hnn hle hpz) (cw_I htg wd_136 qCounters_init iCounters_init kCounters_init pCounters_init rfl rfl rfl ⟨Nat.le_of_ble_eq_true rfl, Nat.le_of_ble_eq_true rfl⟩) hN hP hD hS hA hK [3] [0, 1, 2] rfl rfl (by decide) (by decide) (by decide) rfl hl.1 rfl (Nat.le_of_ble_eq_true rfl) dChooser_init_25 ⟨Nat.le_of_ble_eq_true rfl, Nat.le_of_ble_eq_true rfl⟩ (fun w1 hw H locs hP hD hS => ?_)
  obtain ⟨q_4, rfl⟩ := hw
  have hP : va_P (dC, dI) vwCl [(h0, .inr (1, [.int zs0, .int ((1 : Int32) <<< (zs0 &&& 31)), .int (((1 : Int32) <<< (zs0 &&& 31)) - 1), .ref q_1, .null, .null])), (q_1, .inr (3, [.int zs0, .int ((1 : Int32) <<< (zs0 &&& 31)), .int (((1 : Int32) <<< (zs0 &&& 31)) - 1), .int (bI false), .ref q_2])), (q_2, .inl (cA.1, nn, .inl (fun _ => 1))), (q_3, .inr (3, [.int zs0, .int ((1 : Int32) <<< (zs0 &&& 31)), .int (((1 : Int32) <<< (zs0 &&& 31)) - 1), .int (bI true), .ref q_4])), (q_4, .inl (cA.1, nn, .inl (fun _ => 1)))] H := hP
  have hD : va_D A [(h0, .inr (1, [.int zs0, .int ((1 : Int32) <<< (zs0 &&& 31)), .int (((1 : Int32) <<< (zs0 &&& 31)) - 1), .ref q_1, .null, .null])), (q_1, .inr (3, [.int zs0, .int ((1 : Int32) <<< (zs0 &&& 31)), .int (((1 : Int32) <<< (zs0 &&& 31)) - 1), .int (bI false), .ref q_2])), (q_2, .inl (cA.1, nn, .inl (fun _ => 1))), (q_3, .inr (3, [.int zs0, .int ((1 : Int32) <<< (zs0 &&& 31)), .int (((1 : Int32) <<< (zs0 &&& 31)) - 1), .int (bI true), .ref q_4])), (q_4, .inl (cA.1, nn, .inl (fun _ => 1)))] := hD
  refine W.widen (k := 4) (n := 2058) (by omega) (by omega) ?_
  refine va_putF (D := (dC, dI)) (ci := 1) (v := .ref q_3) (ty := (.object "PredictorKinds$Counters")) (C := R_Chooser) (T := T_Chooser) (N := 6) hx hb htg in_Chooser ty_Chooser tk_Chooser nm_Chooser hown hK hP hD hS 0 rfl rfl 4 (by decide) (htg _ wd_139) (fun _ h9 => h9) rfl hin rfl (by decide +kernel) rfl rfl (Nat.le_of_ble_eq_true rfl) dChooser_init_28 (fun H locs hP hD hS => ?_)
  have hP : va_P (dC, dI) vwCl [(h0, .inr (1, [.int zs0, .int ((1 : Int32) <<< (zs0 &&& 31)), .int (((1 : Int32) <<< (zs0 &&& 31)) - 1), .ref q_1, .ref q_3, .null])), (q_1, .inr (3, [.int zs0, .int ((1 : Int32) <<< (zs0 &&& 31)), .int (((1 : Int32) <<< (zs0 &&& 31)) - 1), .int (bI false), .ref q_2])), (q_2, .inl (cA.1, nn, .inl (fun _ => 1))), (q_3, .inr (3, [.int zs0, .int ((1 : Int32) <<< (zs0 &&& 31)), .int (((1 : Int32) <<< (zs0 &&& 31)) - 1), .int (bI true), .ref q_4])), (q_4, .inl (cA.1, nn, .inl (fun _ => 1)))] H := hP
  have hD : va_D A [(h0, .inr (1, [.int zs0, .int ((1 : Int32) <<< (zs0 &&& 31)), .int (((1 : Int32) <<< (zs0 &&& 31)) - 1), .ref q_1, .ref q_3, .null])), (q_1, .inr (3, [.int zs0, .int ((1 : Int32) <<< (zs0 &&& 31)), .int (((1 : Int32) <<< (zs0 &&& 31)) - 1), .int (bI false), .ref q_2])), (q_2, .inl (cA.1, nn, .inl (fun _ => 1))), (q_3, .inr (3, [.int zs0, .int ((1 : Int32) <<< (zs0 &&& 31)), .int (((1 : Int32) <<< (zs0 &&& 31)) - 1), .int (bI true), .ref q_4])), (q_4, .inl (cA.1, nn, .inl (fun _ => 1)))] := hD
  refine lv_aload_n hx hb dChooser_init_31 rfl (lv_at hl 0 rfl) ?_
  refine lv_aload_n hx hb dChooser_init_32 rfl (lv_at hl 0 rfl) ?_
  refine va_get (D := (dC, dI)) (ci := 1) (v := .int ((1 : Int32) <<< (zs0 &&& 31))) (C := R_Chooser) (T := T_Chooser) (N := 6) hx hb htg in_Chooser hown hK hP 0 rfl rfl 1 (by decide) (htg _ wd_76) (fun x9 h9 => u_same (htg _ wd_77) x9 h9) rfl dChooser_init_33 ?_
  refine lv_iconst (v := 1) hx hb dChooser_init_36 (by decide) ?_
  refine wg_SNr (wr := [(h0, .inr (1, [.int zs0, .int ((1 : Int32) <<< (zs0 &&& 31)), .int (((1 : Int32) <<< (zs0 &&& 31)) - 1), .ref q_1, .ref q_3, .null])), (q_1, .inr (3, [.int zs0, .int ((1 : Int32) <<< (zs0 &&& 31)), .int (((1 : Int32) <<< (zs0 &&& 31)) - 1), .int (bI false), .ref q_2])), (q_2, .inl (cA.1, nn, .inl (fun _ => 1))), (q_3, .inr (3, [.int zs0, .int ((1 : Int32) <<< (zs0 &&& 31)), .int (((1 : Int32) <<< (zs0 &&& 31)) - 1), .int (bI true), .ref q_4])), (q_4, .inl (cA.1, nn, .inl (fun _ => 1)))]) (As := [.int ((1 : Int32) <<< (zs0 &&& 31)), .int 1]) (rest := [.ref h0]) ⟨hx, hb, hml, hown, htg⟩ (c_PK_cells l dC dI cA _ ((1 : Int32) <<< (zs0 &&& 31)) 1 nn 1024 hnn hle (by decide) hpz) (cw_SN htg hN wn_137 qPK_cells iPK_cells kPK_cells pPK_cells rfl rfl ⟨Nat.le_of_ble_eq_true rfl, Nat.le_of_ble_eq_true rfl⟩) hN hP hD hS hA hK [] [0, 1, 2, 3, 4] rfl rfl (by decide) (by decide) (by decide) rfl hl.1 rfl (Nat.le_of_ble_eq_true rfl) dChooser_init_37 ⟨Nat.le_of_ble_eq_true rfl, Nat.le_of_ble_eq_true rfl⟩ (fun q_5 w1 hw H locs hP hD hS => ?_)
  obtain rfl := hw
  have hP : va_P (dC, dI) vwCl [(h0, .inr (1, [.int zs0, .int ((1 : Int32) <<< (zs0 &&& 31)), .int (((1 : Int32) <<< (zs0 &&& 31)) - 1), .ref q_1, .ref q_3, .null])), (q_1, .inr (3, [.int zs0, .int ((1 : Int32) <<< (zs0 &&& 31)), .int (((1 : Int32) <<< (zs0 &&& 31)) - 1), .int (bI false), .ref q_2])), (q_2, .inl (cA.1, nn, .inl (fun _ => 1))), (q_3, .inr (3, [.int zs0, .int ((1 : Int32) <<< (zs0 &&& 31)), .int (((1 : Int32) <<< (zs0 &&& 31)) - 1), .int (bI true), .ref q_4])), (q_4, .inl (cA.1, nn, .inl (fun _ => 1))), (q_5, .inl (cA.1, nn, .inl (fun _ => 1)))] H := hP
  have hD : va_D A [(h0, .inr (1, [.int zs0, .int ((1 : Int32) <<< (zs0 &&& 31)), .int (((1 : Int32) <<< (zs0 &&& 31)) - 1), .ref q_1, .ref q_3, .null])), (q_1, .inr (3, [.int zs0, .int ((1 : Int32) <<< (zs0 &&& 31)), .int (((1 : Int32) <<< (zs0 &&& 31)) - 1), .int (bI false), .ref q_2])), (q_2, .inl (cA.1, nn, .inl (fun _ => 1))), (q_3, .inr (3, [.int zs0, .int ((1 : Int32) <<< (zs0 &&& 31)), .int (((1 : Int32) <<< (zs0 &&& 31)) - 1), .int (bI true), .ref q_4])), (q_4, .inl (cA.1, nn, .inl (fun _ => 1))), (q_5, .inl (cA.1, nn, .inl (fun _ => 1)))] := hD
  refine W.widen (k := 5) (n := 3082) (by omega) (by omega) ?_
  refine va_putF (D := (dC, dI)) (ci := 1) (v := .ref q_5) (ty := (.array .int)) (C := R_Chooser) (T := T_Chooser) (N := 6) hx hb htg in_Chooser ty_Chooser tk_Chooser nm_Chooser hown hK hP hD hS 0 rfl rfl 5 (by decide) (htg _ wd_140) (fun _ h9 => h9) rfl hin rfl (by decide +kernel) rfl rfl (Nat.le_of_ble_eq_true rfl) dChooser_init_40 (fun H locs hP hD hS => ?_)
  have hP : va_P (dC, dI) vwCl [(h0, .inr (1, [.int zs0, .int ((1 : Int32) <<< (zs0 &&& 31)), .int (((1 : Int32) <<< (zs0 &&& 31)) - 1), .ref q_1, .ref q_3, .ref q_5])), (q_1, .inr (3, [.int zs0, .int ((1 : Int32) <<< (zs0 &&& 31)), .int (((1 : Int32) <<< (zs0 &&& 31)) - 1), .int (bI false), .ref q_2])), (q_2, .inl (cA.1, nn, .inl (fun _ => 1))), (q_3, .inr (3, [.int zs0, .int ((1 : Int32) <<< (zs0 &&& 31)), .int (((1 : Int32) <<< (zs0 &&& 31)) - 1), .int (bI true), .ref q_4])), (q_4, .inl (cA.1, nn, .inl (fun _ => 1))), (q_5, .inl (cA.1, nn, .inl (fun _ => 1)))] H := hP
  have hD : va_D A [(h0, .inr (1, [.int zs0, .int ((1 : Int32) <<< (zs0 &&& 31)), .int (((1 : Int32) <<< (zs0 &&& 31)) - 1), .ref q_1, .ref q_3, .ref q_5])), (q_1, .inr (3, [.int zs0, .int ((1 : Int32) <<< (zs0 &&& 31)), .int (((1 : Int32) <<< (zs0 &&& 31)) - 1), .int (bI false), .ref q_2])), (q_2, .inl (cA.1, nn, .inl (fun _ => 1))), (q_3, .inr (3, [.int zs0, .int ((1 : Int32) <<< (zs0 &&& 31)), .int (((1 : Int32) <<< (zs0 &&& 31)) - 1), .int (bI true), .ref q_4])), (q_4, .inl (cA.1, nn, .inl (fun _ => 1))), (q_5, .inl (cA.1, nn, .inl (fun _ => 1)))] := hD
  refine W.widen (k := 5) (n := 3082) (by omega) (by omega) ?_
  exact W.vret hx hb hr (fun t ht hW => ⟨⟨_, rfl, ⟨q_1, q_2, q_3, q_4, q_5, rfl⟩, ⟨by rw [ht]; exact hP.sub [0, 1, 2, 3, 4, 5] rfl, va_K.moved hW.alike hK, hD.sub [0, 1, 2, 3, 4, 5] (by decide) rfl⟩⟩, hS.F ht⟩) hS.2.2 dChooser_init_43
set_option maxHeartbeats 4000000 in
set_option maxRecDepth 100000 in
theorem c_Tagged_init (l : Launch) (dC : Nat → ClassId) (dI : Nat → Nat → Nat) (cA : ClassId × ClassId × ClassId) (zz : Nat) (h0 : Nat) (zs0 : Int32) (nn : Nat) (hnn : ((1 : Int32) <<< (zs0 &&& 31)) = nI nn) (hle : nn ≤ 1024) (hpz : 0 < nn) : Met l yTagged_init wTagged_init ({ frames := 3, cells := 5, slots := 10245, locals := 67 }) (va_Pc [.ref h0, .int zs0] (Wr (dC, dI) cA zz [(h0, .inr (8, [.int 0, .int 0, .int 0, .null, .null, .null, .null]))])) (va_Qv (fun w9 => ∃ q_1 q_2 q_3 q_4 q_5 : Nat, w9 = [(h0, .inr (8, [.int zs0, .int ((1 : Int32) <<< (zs0 &&& 31)), .int (((1 : Int32) <<< (zs0 &&& 31)) - 1), .ref q_1, .ref q_3, .ref q_4, .ref q_5])), (q_1, .inr (3, [.int zs0, .int ((1 : Int32) <<< (zs0 &&& 31)), .int (((1 : Int32) <<< (zs0 &&& 31)) - 1), .int (bI false), .ref q_2])), (q_2, .inl (cA.1, nn, .inl (fun _ => 1))), (q_3, .inl (cA.1, (3 * nn), .inl (fun _ => (-1)))), (q_4, .inl (cA.1, (3 * nn), .inl (fun _ => 0))), (q_5, .inl (cA.1, (3 * nn), .inl (fun _ => 0)))]) (At (dC, dI) cA (va_A [(h0, .inr (8, [.int 0, .int 0, .int 0, .null, .null, .null, .null]))] zz)) (va_A [(h0, .inr (8, [.int 0, .int 0, .int 0, .null, .null, .null, .null]))] zz)) 5 10245 (va_A [(h0, .inr (8, [.int 0, .int 0, .int 0, .null, .null, .null, .null]))] zz) := by
  refine Met.ofW (cc := cTagged_init) (maxL := 2) (ret := none) (by decide) rfl ?_
  intro p e s m args below meth c s₁ B hml hv
  obtain ⟨rfl, hsz, hN, hP, hK, hD0⟩ := hv
  have hx := B.exec
  have hb := B.bytes
  have hr := B.returns
  have hts := atoms_spec (ws := wTagged_init) B.pre
  have htg : ∀ w ∈ GW, w.before _ s = true := fun w h => hts w (List.mem_cons_of_mem _ h)
  have hown : s.vm.findClass R_Tagged = some m.cls := findClass_of_methodNamed B.named
  have hlocks := B.notSynchronized
  have hin : meth.name = "<init>" := (name_of_methodNamed B.named B.method).1
  subst hsz
  have hD := hD0.self (sz := s.heap.size)
  generalize hAe : va_A [(h0, .inr (8, [.int 0, .int 0, .int 0, .null, .null, .null, .null]))] s.heap.size = A at hD ⊢
  have hA : ∀ q : Nat, s.heap.size ≤ q → A q := fun q h => by rw [← hAe]; exact Or.inr h
  have hS : va_S A s.heap s.heap [] := va_S.rf
  have hP : va_P (dC, dI) vwCl [(h0, .inr (8, [.int 0, .int 0, .int 0, .null, .null, .null, .null]))] s.heap := hP
  have hl := lv_entry ([.ref h0, .int zs0]) (n := 2) (Nat.le_of_ble_eq_true rfl)
  rw [lg_entry_eq]
  generalize (lg_sl ([.ref h0, .int zs0]) ++ List.replicate (2 - (lg_sl ([.ref h0, .int zs0])).length) Slot.unset).toArray = ls at hl ⊢
  have hl : lv_has ls 2 [(0, .ref h0), (1, .int zs0)] := hl
  refine lv_aload_n hx hb dTagged_init_0 rfl (lv_at hl 0 rfl) ?_
  refine lv_iload_n hx hb dTagged_init_1 rfl (lv_at hl 1 rfl) ?_
  refine wg_Iv (wr := []) (As := [.int zs0]) (rest := []) ⟨hx, hb, hml, hown, htg⟩ (c_Kind_init_Tagged l dC dI cA _ h0 zs0) (cw_I htg wd_156 qKind_init iKind_init kKind_init pKind_init rfl rfl rfl ⟨Nat.le_of_ble_eq_true rfl, Nat.le_of_ble_eq_true rfl⟩) hN hP hD hS hA hK [0] [] rfl rfl (by decide) (by decide) (by decide) rfl hl.1 rfl (Nat.le_of_ble_eq_true rfl) dTagged_init_2 ⟨Nat.le_of_ble_eq_true rfl, Nat.le_of_ble_eq_true rfl⟩ (fun w1 hw H locs hP hD hS => ?_)
  obtain rfl := hw
  have hP : va_P (dC, dI) vwCl [(h0, .inr (8, [.int zs0, .int ((1 : Int32) <<< (zs0 &&& 31)), .int (((1 : Int32) <<< (zs0 &&& 31)) - 1), .null, .null, .null, .null]))] H := hP
  have hD : va_D A [(h0, .inr (8, [.int zs0, .int ((1 : Int32) <<< (zs0 &&& 31)), .int (((1 : Int32) <<< (zs0 &&& 31)) - 1), .null, .null, .null, .null]))] := hD
  refine W.widen (k := 0) (n := 0) (by omega) (by omega) ?_
  refine lv_aload_n hx hb dTagged_init_5 rfl (lv_at hl 0 rfl) ?_
  refine va_new (ci := 3) (fs := [.int 0, .int 0, .int 0, .int (bI false), .null]) (C := R_Counters) (T := T_Counters) (N := 5) hx hb htg in_Counters ty_Counters tk_Counters hown (htg _ wd_157) (htg _ wd_96) (htg _ wd_6) hK hP hD hS hA rfl (fun j hj => by rcases (show j = 0 ∨ j = 1 ∨ j = 2 ∨ j = 3 ∨ j = 4 by omega) with rfl | rfl | rfl | rfl | rfl <;> rfl) (Nat.le_of_ble_eq_true rfl) (Nat.le_of_ble_eq_true rfl) dTagged_init_6 (fun q_1 H hP hD hS => ?_)
  have hP : va_P (dC, dI) vwCl [(h0, .inr (8, [.int zs0, .int ((1 : Int32) <<< (zs0 &&& 31)), .int (((1 : Int32) <<< (zs0 &&& 31)) - 1), .null, .null, .null, .null])), (q_1, .inr (3, [.int 0, .int 0, .int 0, .int (bI false), .null]))] H := hP
  have hD : va_D A [(h0, .inr (8, [.int zs0, .int ((1 : Int32) <<< (zs0 &&& 31)), .int (((1 : Int32) <<< (zs0 &&& 31)) - 1), .null, .null, .null, .null])), (q_1, .inr (3, [.int 0, .int 0, .int 0, .int (bI false), .null]))] := hD
  refine W.widen (k := 1) (n := 5) (by omega) (by omega) ?_
  refine lv_dup hx hb dTagged_init_9 rfl ?_
  refine lv_iload_n hx hb dTagged_init_10 rfl (lv_at hl 1 rfl) ?_
  refine lv_iconst (v := 0) hx hb dTagged_init_11 (by decide) ?_
  refine wg_Iv (wr := [(h0, .inr (8, [.int zs0, .int ((1 : Int32) <<< (zs0 &&& 31)), .int (((1 : Int32) <<< (zs0 &&& 31)) - 1), .null, .null, .null, .null]))]) (As := [.int zs0, .int 0]) (rest := [.ref q_1, .ref h0]) ⟨hx, hb, hml, hown, htg⟩ (c_Counters_init l dC dI cA _ q_1 zs0 false nn hnn hle hpz) (cw_I htg wd_158 qCounters_init iCounters_init kCounters_init pCounters_init rfl rfl rfl ⟨Nat.le_of_ble_eq_true rfl, Nat.le_of_ble_eq_true rfl⟩) hN hP hD hS hA hK [1] [0] rfl rfl (by decide) (by decide) (by decide) rfl hl.1 rfl (Nat.le_of_ble_eq_true rfl) dTagged_init_12 ⟨Nat.le_of_ble_eq_true rfl, Nat.le_of_ble_eq_true rfl⟩ (fun w1 hw H locs hP hD hS => ?_)
  obtain ⟨q_2, rfl⟩ := hw
  have hP : va_P (dC, dI) vwCl [(h0, .inr (8, [.int zs0, .int ((1 : Int32) <<< (zs0 &&& 31)), .int (((1 : Int32) <<< (zs0 &&& 31)) - 1), .null, .null, .null, .null])), (q_1, .inr (3, [.int zs0, .int ((1 : Int32) <<< (zs0 &&& 31)), .int (((1 : Int32) <<< (zs0 &&& 31)) - 1), .int (bI false), .ref q_2])), (q_2, .inl (cA.1, nn, .inl (fun _ => 1)))] H := hP
  have hD : va_D A [(h0, .inr (8, [.int zs0, .int ((1 : Int32) <<< (zs0 &&& 31)), .int (((1 : Int32) <<< (zs0 &&& 31)) - 1), .null, .null, .null, .null])), (q_1, .inr (3, [.int zs0, .int ((1 : Int32) <<< (zs0 &&& 31)), .int (((1 : Int32) <<< (zs0 &&& 31)) - 1), .int (bI false), .ref q_2])), (q_2, .inl (cA.1, nn, .inl (fun _ => 1)))] := hD
  refine W.widen (k := 2) (n := 1029) (by omega) (by omega) ?_
  refine va_putF (D := (dC, dI)) (ci := 8) (v := .ref q_1) (ty := (.object "PredictorKinds$Counters")) (C := R_Tagged) (T := T_Tagged) (N := 7) hx hb htg in_Tagged ty_Tagged tk_Tagged nm_Tagged hown hK hP hD hS 0 rfl rfl 3 (by decide) (htg _ wd_160) (fun _ h9 => h9) rfl hin rfl (by decide +kernel) rfl rfl (Nat.le_of_ble_eq_true rfl) dTagged_init_15 (fun H locs hP hD hS => ?_)
  have hP : va_P (dC, dI) vwCl [(h0, .inr (8, [.int zs0, .int ((1 : Int32) <<< (zs0 &&& 31)), .int (((1 : Int32) <<< (zs0 &&& 31)) - 1), .ref q_1, .null, .null, .null])), (q_1, .inr (3, [.int zs0, .int ((1 : Int32) <<< (zs0 &&& 31)), .int (((1 : Int32) <<< (zs0 &&& 31)) - 1), .int (bI false), .ref q_2])), (q_2, .inl (cA.1, nn, .inl (fun _ => 1)))] H := hP
  have hD : va_D A [(h0, .inr (8, [.int zs0, .int ((1 : Int32) <<< (zs0 &&& 31)), .int (((1 : Int32) <<< (zs0 &&& 31)) - 1), .ref q_1, .null, .null, .null])), (q_1, .inr (3, [.int zs0, .int ((1 : Int32) <<< (zs0 &&& 31)), .int (((1 : Int32) <<< (zs0 &&& 31)) - 1), .int (bI false), .ref q_2])), (q_2, .inl (cA.1, nn, .inl (fun _ => 1)))] := hD
  refine lv_aload_n hx hb dTagged_init_18 rfl (lv_at hl 0 rfl) ?_
  refine lv_iconst (v := 3) hx hb dTagged_init_19 (by decide) ?_
  refine lv_aload_n hx hb dTagged_init_20 rfl (lv_at hl 0 rfl) ?_
  refine va_get (D := (dC, dI)) (ci := 8) (v := .int ((1 : Int32) <<< (zs0 &&& 31))) (C := R_Tagged) (T := T_Tagged) (N := 7) hx hb htg in_Tagged hown hK hP 0 rfl rfl 1 (by decide) (htg _ wd_74) (fun x9 h9 => u_same (htg _ wd_75) x9 h9) rfl dTagged_init_21 ?_
  refine lv_imul hx hb dTagged_init_24 ?_
  refine lv_iconst (v := (-1)) hx hb dTagged_init_25 (by decide) ?_
  refine wg_SNr (wr := [(h0, .inr (8, [.int zs0, .int ((1 : Int32) <<< (zs0 &&& 31)), .int (((1 : Int32) <<< (zs0 &&& 31)) - 1), .ref q_1, .null, .null, .null])), (q_1, .inr (3, [.int zs0, .int ((1 : Int32) <<< (zs0 &&& 31)), .int (((1 : Int32) <<< (zs0 &&& 31)) - 1), .int (bI false), .ref q_2])), (q_2, .inl (cA.1, nn, .inl (fun _ => 1)))]) (As := [.int (3 * ((1 : Int32) <<< (zs0 &&& 31))), .int (-1)]) (rest := [.ref h0]) ⟨hx, hb, hml, hown, htg⟩ (c_PK_cells l dC dI cA _ (3 * ((1 : Int32) <<< (zs0 &&& 31))) (-1) (3 * nn) 3072 (by rw [hnn]; exact pk_mul 3 nn) (by omega) (by decide) (by omega)) (cw_SN htg hN wn_159 qPK_cells iPK_cells kPK_cells pPK_cells rfl rfl ⟨Nat.le_of_ble_eq_true rfl, Nat.le_of_ble_eq_true rfl⟩) hN hP hD hS hA hK [] [0, 1, 2] rfl rfl (by decide) (by decide) (by decide) rfl hl.1 rfl (Nat.le_of_ble_eq_true rfl) dTagged_init_26 ⟨Nat.le_of_ble_eq_true rfl, Nat.le_of_ble_eq_true rfl⟩ (fun q_3 w1 hw H locs hP hD hS => ?_)
  obtain rfl := hw
  have hP : va_P (dC, dI) vwCl [(h0, .inr (8, [.int zs0, .int ((1 : Int32) <<< (zs0 &&& 31)), .int (((1 : Int32) <<< (zs0 &&& 31)) - 1), .ref q_1, .null, .null, .null])), (q_1, .inr (3, [.int zs0, .int ((1 : Int32) <<< (zs0 &&& 31)), .int (((1 : Int32) <<< (zs0 &&& 31)) - 1), .int (bI false), .ref q_2])), (q_2, .inl (cA.1, nn, .inl (fun _ => 1))), (q_3, .inl (cA.1, (3 * nn), .inl (fun _ => (-1))))] H := hP
  have hD : va_D A [(h0, .inr (8, [.int zs0, .int ((1 : Int32) <<< (zs0 &&& 31)), .int (((1 : Int32) <<< (zs0 &&& 31)) - 1), .ref q_1, .null, .null, .null])), (q_1, .inr (3, [.int zs0, .int ((1 : Int32) <<< (zs0 &&& 31)), .int (((1 : Int32) <<< (zs0 &&& 31)) - 1), .int (bI false), .ref q_2])), (q_2, .inl (cA.1, nn, .inl (fun _ => 1))), (q_3, .inl (cA.1, (3 * nn), .inl (fun _ => (-1))))] := hD
  refine W.widen (k := 3) (n := 4101) (by omega) (by omega) ?_
  refine va_putF (D := (dC, dI)) (ci := 8) (v := .ref q_3) (ty := (.array .int)) (C := R_Tagged) (T := T_Tagged) (N := 7) hx hb htg in_Tagged ty_Tagged tk_Tagged nm_Tagged hown hK hP hD hS 0 rfl rfl 4 (by decide) (htg _ wd_161) (fun _ h9 => h9) rfl hin rfl (by decide +kernel) rfl rfl (Nat.le_of_ble_eq_true rfl) dTagged_init_29 (fun H locs hP hD hS => ?_)
  have hP : va_P (dC, dI) vwCl [(h0, .inr (8, [.int zs0, .int ((1 : Int32) <<< (zs0 &&& 31)), .int (((1 : Int32) <<< (zs0 &&& 31)) - 1), .ref q_1, .ref q_3, .null, .null])), (q_1, .inr (3, [.int zs0, .int ((1 : Int32) <<< (zs0 &&& 31)), .int (((1 : Int32) <<< (zs0 &&& 31)) - 1), .int (bI false), .ref q_2])), (q_2, .inl (cA.1, nn, .inl (fun _ => 1))), (q_3, .inl (cA.1, (3 * nn), .inl (fun _ => (-1))))] H := hP
  have hD : va_D A [(h0, .inr (8, [.int zs0, .int ((1 : Int32) <<< (zs0 &&& 31)), .int (((1 : Int32) <<< (zs0 &&& 31)) - 1), .ref q_1, .ref q_3, .null, .null])), (q_1, .inr (3, [.int zs0, .int ((1 : Int32) <<< (zs0 &&& 31)), .int (((1 : Int32) <<< (zs0 &&& 31)) - 1), .int (bI false), .ref q_2])), (q_2, .inl (cA.1, nn, .inl (fun _ => 1))), (q_3, .inl (cA.1, (3 * nn), .inl (fun _ => (-1))))] := hD
  refine lv_aload_n hx hb dTagged_init_32 rfl (lv_at hl 0 rfl) ?_
  refine lv_iconst (v := 3) hx hb dTagged_init_33 (by decide) ?_
  refine lv_aload_n hx hb dTagged_init_34 rfl (lv_at hl 0 rfl) ?_
  refine va_get (D := (dC, dI)) (ci := 8) (v := .int ((1 : Int32) <<< (zs0 &&& 31))) (C := R_Tagged) (T := T_Tagged) (N := 7) hx hb htg in_Tagged hown hK hP 0 rfl rfl 1 (by decide) (htg _ wd_74) (fun x9 h9 => u_same (htg _ wd_75) x9 h9) rfl dTagged_init_35 ?_
  refine lv_imul hx hb dTagged_init_38 ?_
  refine lv_iconst (v := 0) hx hb dTagged_init_39 (by decide) ?_
  refine wg_SNr (wr := [(h0, .inr (8, [.int zs0, .int ((1 : Int32) <<< (zs0 &&& 31)), .int (((1 : Int32) <<< (zs0 &&& 31)) - 1), .ref q_1, .ref q_3, .null, .null])), (q_1, .inr (3, [.int zs0, .int ((1 : Int32) <<< (zs0 &&& 31)), .int (((1 : Int32) <<< (zs0 &&& 31)) - 1), .int (bI false), .ref q_2])), (q_2, .inl (cA.1, nn, .inl (fun _ => 1))), (q_3, .inl (cA.1, (3 * nn), .inl (fun _ => (-1))))]) (As := [.int (3 * ((1 : Int32) <<< (zs0 &&& 31))), .int 0]) (rest := [.ref h0]) ⟨hx, hb, hml, hown, htg⟩ (c_PK_cells l dC dI cA _ (3 * ((1 : Int32) <<< (zs0 &&& 31))) 0 (3 * nn) 3072 (by rw [hnn]; exact pk_mul 3 nn) (by omega) (by decide) (by omega)) (cw_SN htg hN wn_159 qPK_cells iPK_cells kPK_cells pPK_cells rfl rfl ⟨Nat.le_of_ble_eq_true rfl, Nat.le_of_ble_eq_true rfl⟩) hN hP hD hS hA hK [] [0, 1, 2, 3] rfl rfl (by decide) (by decide) (by decide) rfl hl.1 rfl (Nat.le_of_ble_eq_true rfl) dTagged_init_40 ⟨Nat.le_of_ble_eq_true rfl, Nat.le_of_ble_eq_true rfl⟩ (fun q_4 w1 hw H locs hP hD hS => ?_)
  obtain rfl := hw
  have hP : va_P (dC, dI) vwCl [(h0, .inr (8, [.int zs0, .int ((1 : Int32) <<< (zs0 &&& 31)), .int (((1 : Int32) <<< (zs0 &&& 31)) - 1), .ref q_1, .ref q_3, .null, .null])), (q_1, .inr (3, [.int zs0, .int ((1 : Int32) <<< (zs0 &&& 31)), .int (((1 : Int32) <<< (zs0 &&& 31)) - 1), .int (bI false), .ref q_2])), (q_2, .inl (cA.1, nn, .inl (fun _ => 1))), (q_3, .inl (cA.1, (3 * nn), .inl (fun _ => (-1)))), (q_4, .inl (cA.1, (3 * nn), .inl (fun _ => 0)))] H := hP
  have hD : va_D A [(h0, .inr (8, [.int zs0, .int ((1 : Int32) <<< (zs0 &&& 31)), .int (((1 : Int32) <<< (zs0 &&& 31)) - 1), .ref q_1, .ref q_3, .null, .null])), (q_1, .inr (3, [.int zs0, .int ((1 : Int32) <<< (zs0 &&& 31)), .int (((1 : Int32) <<< (zs0 &&& 31)) - 1), .int (bI false), .ref q_2])), (q_2, .inl (cA.1, nn, .inl (fun _ => 1))), (q_3, .inl (cA.1, (3 * nn), .inl (fun _ => (-1)))), (q_4, .inl (cA.1, (3 * nn), .inl (fun _ => 0)))] := hD
  refine W.widen (k := 4) (n := 7173) (by omega) (by omega) ?_
  refine va_putF (D := (dC, dI)) (ci := 8) (v := .ref q_4) (ty := (.array .int)) (C := R_Tagged) (T := T_Tagged) (N := 7) hx hb htg in_Tagged ty_Tagged tk_Tagged nm_Tagged hown hK hP hD hS 0 rfl rfl 5 (by decide) (htg _ wd_162) (fun _ h9 => h9) rfl hin rfl (by decide +kernel) rfl rfl (Nat.le_of_ble_eq_true rfl) dTagged_init_43 (fun H locs hP hD hS => ?_)
  have hP : va_P (dC, dI) vwCl [(h0, .inr (8, [.int zs0, .int ((1 : Int32) <<< (zs0 &&& 31)), .int (((1 : Int32) <<< (zs0 &&& 31)) - 1), .ref q_1, .ref q_3, .ref q_4, .null])), (q_1, .inr (3, [.int zs0, .int ((1 : Int32) <<< (zs0 &&& 31)), .int (((1 : Int32) <<< (zs0 &&& 31)) - 1), .int (bI false), .ref q_2])), (q_2, .inl (cA.1, nn, .inl (fun _ => 1))), (q_3, .inl (cA.1, (3 * nn), .inl (fun _ => (-1)))), (q_4, .inl (cA.1, (3 * nn), .inl (fun _ => 0)))] H := hP
  have hD : va_D A [(h0, .inr (8, [.int zs0, .int ((1 : Int32) <<< (zs0 &&& 31)), .int (((1 : Int32) <<< (zs0 &&& 31)) - 1), .ref q_1, .ref q_3, .ref q_4, .null])), (q_1, .inr (3, [.int zs0, .int ((1 : Int32) <<< (zs0 &&& 31)), .int (((1 : Int32) <<< (zs0 &&& 31)) - 1), .int (bI false), .ref q_2])), (q_2, .inl (cA.1, nn, .inl (fun _ => 1))), (q_3, .inl (cA.1, (3 * nn), .inl (fun _ => (-1)))), (q_4, .inl (cA.1, (3 * nn), .inl (fun _ => 0)))] := hD
  refine lv_aload_n hx hb dTagged_init_46 rfl (lv_at hl 0 rfl) ?_
  refine lv_iconst (v := 3) hx hb dTagged_init_47 (by decide) ?_
  refine lv_aload_n hx hb dTagged_init_48 rfl (lv_at hl 0 rfl) ?_
  refine va_get (D := (dC, dI)) (ci := 8) (v := .int ((1 : Int32) <<< (zs0 &&& 31))) (C := R_Tagged) (T := T_Tagged) (N := 7) hx hb htg in_Tagged hown hK hP 0 rfl rfl 1 (by decide) (htg _ wd_74) (fun x9 h9 => u_same (htg _ wd_75) x9 h9) rfl dTagged_init_49 ?_
  refine lv_imul hx hb dTagged_init_52 ?_
  refine lv_iconst (v := 0) hx hb dTagged_init_53 (by decide) ?_
  refine wg_SNr (wr := [(h0, .inr (8, [.int zs0, .int ((1 : Int32) <<< (zs0 &&& 31)), .int (((1 : Int32) <<< (zs0 &&& 31)) - 1), .ref q_1, .ref q_3, .ref q_4, .null])), (q_1, .inr (3, [.int zs0, .int ((1 : Int32) <<< (zs0 &&& 31)), .int (((1 : Int32) <<< (zs0 &&& 31)) - 1), .int (bI false), .ref q_2])), (q_2, .inl (cA.1, nn, .inl (fun _ => 1))), (q_3, .inl (cA.1, (3 * nn), .inl (fun _ => (-1)))), (q_4, .inl (cA.1, (3 * nn), .inl (fun _ => 0)))]) (As := [.int (3 * ((1 : Int32) <<< (zs0 &&& 31))), .int 0]) (rest := [.ref h0]) ⟨hx, hb, hml, hown, htg⟩ (c_PK_cells l dC dI cA _ (3 * ((1 : Int32) <<< (zs0 &&& 31))) 0 (3 * nn) 3072 (by rw [hnn]; exact pk_mul 3 nn) (by omega) (by decide) (by omega)) (cw_SN htg hN wn_159 qPK_cells iPK_cells kPK_cells pPK_cells rfl rfl ⟨Nat.le_of_ble_eq_true rfl, Nat.le_of_ble_eq_true rfl⟩) hN hP hD hS hA hK [] [0, 1, 2, 3, 4] rfl rfl (by decide) (by decide) (by decide) rfl hl.1 rfl (Nat.le_of_ble_eq_true rfl) dTagged_init_54 ⟨Nat.le_of_ble_eq_true rfl, Nat.le_of_ble_eq_true rfl⟩ (fun q_5 w1 hw H locs hP hD hS => ?_)
  obtain rfl := hw
  have hP : va_P (dC, dI) vwCl [(h0, .inr (8, [.int zs0, .int ((1 : Int32) <<< (zs0 &&& 31)), .int (((1 : Int32) <<< (zs0 &&& 31)) - 1), .ref q_1, .ref q_3, .ref q_4, .null])), (q_1, .inr (3, [.int zs0, .int ((1 : Int32) <<< (zs0 &&& 31)), .int (((1 : Int32) <<< (zs0 &&& 31)) - 1), .int (bI false), .ref q_2])), (q_2, .inl (cA.1, nn, .inl (fun _ => 1))), (q_3, .inl (cA.1, (3 * nn), .inl (fun _ => (-1)))), (q_4, .inl (cA.1, (3 * nn), .inl (fun _ => 0))), (q_5, .inl (cA.1, (3 * nn), .inl (fun _ => 0)))] H := hP
  have hD : va_D A [(h0, .inr (8, [.int zs0, .int ((1 : Int32) <<< (zs0 &&& 31)), .int (((1 : Int32) <<< (zs0 &&& 31)) - 1), .ref q_1, .ref q_3, .ref q_4, .null])), (q_1, .inr (3, [.int zs0, .int ((1 : Int32) <<< (zs0 &&& 31)), .int (((1 : Int32) <<< (zs0 &&& 31)) - 1), .int (bI false), .ref q_2])), (q_2, .inl (cA.1, nn, .inl (fun _ => 1))), (q_3, .inl (cA.1, (3 * nn), .inl (fun _ => (-1)))), (q_4, .inl (cA.1, (3 * nn), .inl (fun _ => 0))), (q_5, .inl (cA.1, (3 * nn), .inl (fun _ => 0)))] := hD
  refine W.widen (k := 5) (n := 10245) (by omega) (by omega) ?_
  refine va_putF (D := (dC, dI)) (ci := 8) (v := .ref q_5) (ty := (.array .int)) (C := R_Tagged) (T := T_Tagged) (N := 7) hx hb htg in_Tagged ty_Tagged tk_Tagged nm_Tagged hown hK hP hD hS 0 rfl rfl 6 (by decide) (htg _ wd_163) (fun _ h9 => h9) rfl hin rfl (by decide +kernel) rfl rfl (Nat.le_of_ble_eq_true rfl) dTagged_init_57 (fun H locs hP hD hS => ?_)
  have hP : va_P (dC, dI) vwCl [(h0, .inr (8, [.int zs0, .int ((1 : Int32) <<< (zs0 &&& 31)), .int (((1 : Int32) <<< (zs0 &&& 31)) - 1), .ref q_1, .ref q_3, .ref q_4, .ref q_5])), (q_1, .inr (3, [.int zs0, .int ((1 : Int32) <<< (zs0 &&& 31)), .int (((1 : Int32) <<< (zs0 &&& 31)) - 1), .int (bI false), .ref q_2])), (q_2, .inl (cA.1, nn, .inl (fun _ => 1))), (q_3, .inl (cA.1, (3 * nn), .inl (fun _ => (-1)))), (q_4, .inl (cA.1, (3 * nn), .inl (fun _ => 0))), (q_5, .inl (cA.1, (3 * nn), .inl (fun _ => 0)))] H := hP
  have hD : va_D A [(h0, .inr (8, [.int zs0, .int ((1 : Int32) <<< (zs0 &&& 31)), .int (((1 : Int32) <<< (zs0 &&& 31)) - 1), .ref q_1, .ref q_3, .ref q_4, .ref q_5])), (q_1, .inr (3, [.int zs0, .int ((1 : Int32) <<< (zs0 &&& 31)), .int (((1 : Int32) <<< (zs0 &&& 31)) - 1), .int (bI false), .ref q_2])), (q_2, .inl (cA.1, nn, .inl (fun _ => 1))), (q_3, .inl (cA.1, (3 * nn), .inl (fun _ => (-1)))), (q_4, .inl (cA.1, (3 * nn), .inl (fun _ => 0))), (q_5, .inl (cA.1, (3 * nn), .inl (fun _ => 0)))] := hD
  refine W.widen (k := 5) (n := 10245) (by omega) (by omega) ?_
  exact W.vret hx hb hr (fun t ht hW => ⟨⟨_, rfl, ⟨q_1, q_2, q_3, q_4, q_5, rfl⟩, ⟨by rw [ht]; exact hP.sub [0, 1, 2, 3, 4, 5] rfl, va_K.moved hW.alike hK, hD.sub [0, 1, 2, 3, 4, 5] (by decide) rfl⟩⟩, hS.F ht⟩) hS.2.2 dTagged_init_60
set_option maxHeartbeats 4000000 in
set_option maxRecDepth 100000 in
theorem c_Sums_init (l : Launch) (dC : Nat → ClassId) (dI : Nat → Nat → Nat) (cA : ClassId × ClassId × ClassId) (zz : Nat) (h0 : Nat) (zs0 : Int32) (nn : Nat) (hnn : ((1 : Int32) <<< (zs0 &&& 31)) = nI nn) (hle : nn ≤ 1024) (hpz : 0 < nn) : Met l ySums_init wSums_init ({ frames := 2, cells := 1, slots := 9216, locals := 45 }) (va_Pc [.ref h0, .int zs0] (Wr (dC, dI) cA zz [(h0, .inr (7, [.int 0, .int 0, .int 0, .null]))])) (va_Qv (fun w9 => ∃ q_1 : Nat, w9 = [(h0, .inr (7, [.int zs0, .int ((1 : Int32) <<< (zs0 &&& 31)), .int (((1 : Int32) <<< (zs0 &&& 31)) - 1), .ref q_1])), (q_1, .inl (cA.1, (9 * nn), .inl (fun _ => 0)))]) (At (dC, dI) cA (va_A [(h0, .inr (7, [.int 0, .int 0, .int 0, .null]))] zz)) (va_A [(h0, .inr (7, [.int 0, .int 0, .int 0, .null]))] zz)) 1 9216 (va_A [(h0, .inr (7, [.int 0, .int 0, .int 0, .null]))] zz) := by
  refine Met.ofW (cc := cSums_init) (maxL := 2) (ret := none) (by decide) rfl ?_
  intro p e s m args below meth c s₁ B hml hv
  obtain ⟨rfl, hsz, hN, hP, hK, hD0⟩ := hv
  have hx := B.exec
  have hb := B.bytes
  have hr := B.returns
  have hts := atoms_spec (ws := wSums_init) B.pre
  have htg : ∀ w ∈ GW, w.before _ s = true := fun w h => hts w (List.mem_cons_of_mem _ h)
  have hown : s.vm.findClass R_Sums = some m.cls := findClass_of_methodNamed B.named
  have hlocks := B.notSynchronized
  have hin : meth.name = "<init>" := (name_of_methodNamed B.named B.method).1
  subst hsz
  have hD := hD0.self (sz := s.heap.size)
  generalize hAe : va_A [(h0, .inr (7, [.int 0, .int 0, .int 0, .null]))] s.heap.size = A at hD ⊢
  have hA : ∀ q : Nat, s.heap.size ≤ q → A q := fun q h => by rw [← hAe]; exact Or.inr h
  have hS : va_S A s.heap s.heap [] := va_S.rf
  have hP : va_P (dC, dI) vwCl [(h0, .inr (7, [.int 0, .int 0, .int 0, .null]))] s.heap := hP
  have hl := lv_entry ([.ref h0, .int zs0]) (n := 2) (Nat.le_of_ble_eq_true rfl)
  rw [lg_entry_eq]
  generalize (lg_sl ([.ref h0, .int zs0]) ++ List.replicate (2 - (lg_sl ([.ref h0, .int zs0])).length) Slot.unset).toArray = ls at hl ⊢
  have hl : lv_has ls 2 [(0, .ref h0), (1, .int zs0)] := hl
  refine lv_aload_n hx hb dSums_init_0 rfl (lv_at hl 0 rfl) ?_
  refine lv_iload_n hx hb dSums_init_1 rfl (lv_at hl 1 rfl) ?_
  refine wg_Iv (wr := []) (As := [.int zs0]) (rest := []) ⟨hx, hb, hml, hown, htg⟩ (c_Kind_init_Sums l dC dI cA _ h0 zs0) (cw_I htg wd_181 qKind_init iKind_init kKind_init pKind_init rfl rfl rfl ⟨Nat.le_of_ble_eq_true rfl, Nat.le_of_ble_eq_true rfl⟩) hN hP hD hS hA hK [0] [] rfl rfl (by decide) (by decide) (by decide) rfl hl.1 rfl (Nat.le_of_ble_eq_true rfl) dSums_init_2 ⟨Nat.le_of_ble_eq_true rfl, Nat.le_of_ble_eq_true rfl⟩ (fun w1 hw H locs hP hD hS => ?_)
  obtain rfl := hw
  have hP : va_P (dC, dI) vwCl [(h0, .inr (7, [.int zs0, .int ((1 : Int32) <<< (zs0 &&& 31)), .int (((1 : Int32) <<< (zs0 &&& 31)) - 1), .null]))] H := hP
  have hD : va_D A [(h0, .inr (7, [.int zs0, .int ((1 : Int32) <<< (zs0 &&& 31)), .int (((1 : Int32) <<< (zs0 &&& 31)) - 1), .null]))] := hD
  refine W.widen (k := 0) (n := 0) (by omega) (by omega) ?_
  refine lv_aload_n hx hb dSums_init_5 rfl (lv_at hl 0 rfl) ?_
  refine lv_bipush (v := 9) hx hb dSums_init_6 (by decide) ?_
  refine lv_aload_n hx hb dSums_init_8 rfl (lv_at hl 0 rfl) ?_
  refine va_get (D := (dC, dI)) (ci := 7) (v := .int ((1 : Int32) <<< (zs0 &&& 31))) (C := R_Sums) (T := T_Sums) (N := 4) hx hb htg in_Sums hown hK hP 0 rfl rfl 1 (by decide) (htg _ wd_67) (fun x9 h9 => u_same (htg _ wd_68) x9 h9) rfl dSums_init_9 ?_
  refine lv_imul hx hb dSums_init_12 ?_
  refine lv_iconst (v := 0) hx hb dSums_init_13 (by decide) ?_
  refine wg_SNr (wr := [(h0, .inr (7, [.int zs0, .int ((1 : Int32) <<< (zs0 &&& 31)), .int (((1 : Int32) <<< (zs0 &&& 31)) - 1), .null]))]) (As := [.int (9 * ((1 : Int32) <<< (zs0 &&& 31))), .int 0]) (rest := [.ref h0]) ⟨hx, hb, hml, hown, htg⟩ (c_PK_cells l dC dI cA _ (9 * ((1 : Int32) <<< (zs0 &&& 31))) 0 (9 * nn) 9216 (by rw [hnn]; exact pk_mul 9 nn) (by omega) (by decide) (by omega)) (cw_SN htg hN wn_182 qPK_cells iPK_cells kPK_cells pPK_cells rfl rfl ⟨Nat.le_of_ble_eq_true rfl, Nat.le_of_ble_eq_true rfl⟩) hN hP hD hS hA hK [] [0] rfl rfl (by decide) (by decide) (by decide) rfl hl.1 rfl (Nat.le_of_ble_eq_true rfl) dSums_init_14 ⟨Nat.le_of_ble_eq_true rfl, Nat.le_of_ble_eq_true rfl⟩ (fun q_1 w1 hw H locs hP hD hS => ?_)
  obtain rfl := hw
  have hP : va_P (dC, dI) vwCl [(h0, .inr (7, [.int zs0, .int ((1 : Int32) <<< (zs0 &&& 31)), .int (((1 : Int32) <<< (zs0 &&& 31)) - 1), .null])), (q_1, .inl (cA.1, (9 * nn), .inl (fun _ => 0)))] H := hP
  have hD : va_D A [(h0, .inr (7, [.int zs0, .int ((1 : Int32) <<< (zs0 &&& 31)), .int (((1 : Int32) <<< (zs0 &&& 31)) - 1), .null])), (q_1, .inl (cA.1, (9 * nn), .inl (fun _ => 0)))] := hD
  refine W.widen (k := 1) (n := 9216) (by omega) (by omega) ?_
  refine va_putF (D := (dC, dI)) (ci := 7) (v := .ref q_1) (ty := (.array .int)) (C := R_Sums) (T := T_Sums) (N := 4) hx hb htg in_Sums ty_Sums tk_Sums nm_Sums hown hK hP hD hS 0 rfl rfl 3 (by decide) (htg _ wd_183) (fun _ h9 => h9) rfl hin rfl (by decide +kernel) rfl rfl (Nat.le_of_ble_eq_true rfl) dSums_init_17 (fun H locs hP hD hS => ?_)
  have hP : va_P (dC, dI) vwCl [(h0, .inr (7, [.int zs0, .int ((1 : Int32) <<< (zs0 &&& 31)), .int (((1 : Int32) <<< (zs0 &&& 31)) - 1), .ref q_1])), (q_1, .inl (cA.1, (9 * nn), .inl (fun _ => 0)))] H := hP
  have hD : va_D A [(h0, .inr (7, [.int zs0, .int ((1 : Int32) <<< (zs0 &&& 31)), .int (((1 : Int32) <<< (zs0 &&& 31)) - 1), .ref q_1])), (q_1, .inl (cA.1, (9 * nn), .inl (fun _ => 0)))] := hD
  refine W.widen (k := 1) (n := 9216) (by omega) (by omega) ?_
  exact W.vret hx hb hr (fun t ht hW => ⟨⟨_, rfl, ⟨q_1, rfl⟩, ⟨by rw [ht]; exact hP.sub [0, 1] rfl, va_K.moved hW.alike hK, hD.sub [0, 1] (by decide) rfl⟩⟩, hS.F ht⟩) hS.2.2 dSums_init_20
set_option maxHeartbeats 4000000 in
set_option maxRecDepth 100000 in
theorem c_Loops_init (l : Launch) (dC : Nat → ClassId) (dI : Nat → Nat → Nat) (cA : ClassId × ClassId × ClassId) (zz : Nat) (h0 : Nat) (zs0 : Int32) (nn : Nat) (hnn : ((1 : Int32) <<< (zs0 &&& 31)) = nI nn) (hle : nn ≤ 1024) (hpz : 0 < nn) : Met l yLoops_init wLoops_init ({ frames := 3, cells := 6, slots := 5125, locals := 67 }) (va_Pc [.ref h0, .int zs0] (Wr (dC, dI) cA zz [(h0, .inr (5, [.int 0, .int 0, .int 0, .null, .null, .null, .null, .null]))])) (va_Qv (fun w9 => ∃ q_1 q_2 q_3 q_4 q_5 q_6 : Nat, w9 = [(h0, .inr (5, [.int zs0, .int ((1 : Int32) <<< (zs0 &&& 31)), .int (((1 : Int32) <<< (zs0 &&& 31)) - 1), .ref q_1, .ref q_3, .ref q_4, .ref q_5, .ref q_6])), (q_1, .inr (3, [.int zs0, .int ((1 : Int32) <<< (zs0 &&& 31)), .int (((1 : Int32) <<< (zs0 &&& 31)) - 1), .int (bI false), .ref q_2])), (q_2, .inl (cA.1, nn, .inl (fun _ => 1))), (q_3, .inl (cA.1, nn, .inl (fun _ => (-1)))), (q_4, .inl (cA.1, nn, .inl (fun _ => 0))), (q_5, .inl (cA.1, nn, .inl (fun _ => 0))), (q_6, .inl (cA.1, nn, .inl (fun _ => 0)))]) (At (dC, dI) cA (va_A [(h0, .inr (5, [.int 0, .int 0, .int 0, .null, .null, .null, .null, .null]))] zz)) (va_A [(h0, .inr (5, [.int 0, .int 0, .int 0, .null, .null, .null, .null, .null]))] zz)) 6 5125 (va_A [(h0, .inr (5, [.int 0, .int 0, .int 0, .null, .null, .null, .null, .null]))] zz) := by
  refine Met.ofW (cc := cLoops_init) (maxL := 2) (ret := none) (by decide) rfl ?_
  intro p e s m args below meth c s₁ B hml hv
  obtain ⟨rfl, hsz, hN, hP, hK, hD0⟩ := hv
  have hx := B.exec
  have hb := B.bytes
  have hr := B.returns
  have hts := atoms_spec (ws := wLoops_init) B.pre
  have htg : ∀ w ∈ GW, w.before _ s = true := fun w h => hts w (List.mem_cons_of_mem _ h)
  have hown : s.vm.findClass R_Loops = some m.cls := findClass_of_methodNamed B.named
  have hlocks := B.notSynchronized
  have hin : meth.name = "<init>" := (name_of_methodNamed B.named B.method).1
  subst hsz
  have hD := hD0.self (sz := s.heap.size)
  generalize hAe : va_A [(h0, .inr (5, [.int 0, .int 0, .int 0, .null, .null, .null, .null, .null]))] s.heap.size = A at hD ⊢
  have hA : ∀ q : Nat, s.heap.size ≤ q → A q := fun q h => by rw [← hAe]; exact Or.inr h
  have hS : va_S A s.heap s.heap [] := va_S.rf
  have hP : va_P (dC, dI) vwCl [(h0, .inr (5, [.int 0, .int 0, .int 0, .null, .null, .null, .null, .null]))] s.heap := hP
  have hl := lv_entry ([.ref h0, .int zs0]) (n := 2) (Nat.le_of_ble_eq_true rfl)
  rw [lg_entry_eq]
  generalize (lg_sl ([.ref h0, .int zs0]) ++ List.replicate (2 - (lg_sl ([.ref h0, .int zs0])).length) Slot.unset).toArray = ls at hl ⊢
  have hl : lv_has ls 2 [(0, .ref h0), (1, .int zs0)] := hl
  refine lv_aload_n hx hb dLoops_init_0 rfl (lv_at hl 0 rfl) ?_
  refine lv_iload_n hx hb dLoops_init_1 rfl (lv_at hl 1 rfl) ?_
  refine wg_Iv (wr := []) (As := [.int zs0]) (rest := []) ⟨hx, hb, hml, hown, htg⟩ (c_Kind_init_Loops l dC dI cA _ h0 zs0) (cw_I htg wd_195 qKind_init iKind_init kKind_init pKind_init rfl rfl rfl ⟨Nat.le_of_ble_eq_true rfl, Nat.le_of_ble_eq_true rfl⟩) hN hP hD hS hA hK [0] [] rfl rfl (by decide) (by decide) (by decide) rfl hl.1 rfl (Nat.le_of_ble_eq_true rfl) dLoops_init_2 ⟨Nat.le_of_ble_eq_true rfl, Nat.le_of_ble_eq_true rfl⟩ (fun w1 hw H locs hP hD hS => ?_)
  obtain rfl := hw
  have hP : va_P (dC, dI) vwCl [(h0, .inr (5, [.int zs0, .int ((1 : Int32) <<< (zs0 &&& 31)), .int (((1 : Int32) <<< (zs0 &&& 31)) - 1), .null, .null, .null, .null, .null]))] H := hP
  have hD : va_D A [(h0, .inr (5, [.int zs0, .int ((1 : Int32) <<< (zs0 &&& 31)), .int (((1 : Int32) <<< (zs0 &&& 31)) - 1), .null, .null, .null, .null, .null]))] := hD
  refine W.widen (k := 0) (n := 0) (by omega) (by omega) ?_
  refine lv_aload_n hx hb dLoops_init_5 rfl (lv_at hl 0 rfl) ?_
  refine va_new (ci := 3) (fs := [.int 0, .int 0, .int 0, .int (bI false), .null]) (C := R_Counters) (T := T_Counters) (N := 5) hx hb htg in_Counters ty_Counters tk_Counters hown (htg _ wd_196) (htg _ wd_96) (htg _ wd_6) hK hP hD hS hA rfl (fun j hj => by rcases (show j = 0 ∨ j = 1 ∨ j = 2 ∨ j = 3 ∨ j = 4 by omega) with rfl | rfl | rfl | rfl | rfl <;> rfl) (Nat.le_of_ble_eq_true rfl) (Nat.le_of_ble_eq_true rfl) dLoops_init_6 (fun q_1 H hP hD hS => ?_)
  have hP : va_P (dC, dI) vwCl [(h0, .inr (5, [.int zs0, .int ((1 : Int32) <<< (zs0 &&& 31)), .int (((1 : Int32) <<< (zs0 &&& 31)) - 1), .null, .null, .null, .null, .null])), (q_1, .inr (3, [.int 0, .int 0, .int 0, .int (bI false), .null]))] H := hP
  have hD : va_D A [(h0, .inr (5, [.int zs0, .int ((1 : Int32) <<< (zs0 &&& 31)), .int (((1 : Int32) <<< (zs0 &&& 31)) - 1), .null, .null, .null, .null, .null])), (q_1, .inr (3, [.int 0, .int 0, .int 0, .int (bI false), .null]))] := hD
  refine W.widen (k := 1) (n := 5) (by omega) (by omega) ?_
  refine lv_dup hx hb dLoops_init_9 rfl ?_
  refine lv_iload_n hx hb dLoops_init_10 rfl (lv_at hl 1 rfl) ?_
  refine lv_iconst (v := 0) hx hb dLoops_init_11 (by decide) ?_
  refine wg_Iv (wr := [(h0, .inr (5, [.int zs0, .int ((1 : Int32) <<< (zs0 &&& 31)), .int (((1 : Int32) <<< (zs0 &&& 31)) - 1), .null, .null, .null, .null, .null]))]) (As := [.int zs0, .int 0]) (rest := [.ref q_1, .ref h0]) ⟨hx, hb, hml, hown, htg⟩ (c_Counters_init l dC dI cA _ q_1 zs0 false nn hnn hle hpz) (cw_I htg wd_197 qCounters_init iCounters_init kCounters_init pCounters_init rfl rfl rfl ⟨Nat.le_of_ble_eq_true rfl, Nat.le_of_ble_eq_true rfl⟩) hN hP hD hS hA hK [1] [0] rfl rfl (by decide) (by decide) (by decide) rfl hl.1 rfl (Nat.le_of_ble_eq_true rfl) dLoops_init_12 ⟨Nat.le_of_ble_eq_true rfl, Nat.le_of_ble_eq_true rfl⟩ (fun w1 hw H locs hP hD hS => ?_)
  obtain ⟨q_2, rfl⟩ := hw
  have hP : va_P (dC, dI) vwCl [(h0, .inr (5, [.int zs0, .int ((1 : Int32) <<< (zs0 &&& 31)), .int (((1 : Int32) <<< (zs0 &&& 31)) - 1), .null, .null, .null, .null, .null])), (q_1, .inr (3, [.int zs0, .int ((1 : Int32) <<< (zs0 &&& 31)), .int (((1 : Int32) <<< (zs0 &&& 31)) - 1), .int (bI false), .ref q_2])), (q_2, .inl (cA.1, nn, .inl (fun _ => 1)))] H := hP
  have hD : va_D A [(h0, .inr (5, [.int zs0, .int ((1 : Int32) <<< (zs0 &&& 31)), .int (((1 : Int32) <<< (zs0 &&& 31)) - 1), .null, .null, .null, .null, .null])), (q_1, .inr (3, [.int zs0, .int ((1 : Int32) <<< (zs0 &&& 31)), .int (((1 : Int32) <<< (zs0 &&& 31)) - 1), .int (bI false), .ref q_2])), (q_2, .inl (cA.1, nn, .inl (fun _ => 1)))] := hD
  refine W.widen (k := 2) (n := 1029) (by omega) (by omega) ?_
  refine va_putF (D := (dC, dI)) (ci := 5) (v := .ref q_1) (ty := (.object "PredictorKinds$Counters")) (C := R_Loops) (T := T_Loops) (N := 8) hx hb htg in_Loops ty_Loops tk_Loops nm_Loops hown hK hP hD hS 0 rfl rfl 3 (by decide) (htg _ wd_199) (fun _ h9 => h9) rfl hin rfl (by decide +kernel) rfl rfl (Nat.le_of_ble_eq_true rfl) dLoops_init_15 (fun H locs hP hD hS => ?_)
  have hP : va_P (dC, dI) vwCl [(h0, .inr (5, [.int zs0, .int ((1 : Int32) <<< (zs0 &&& 31)), .int (((1 : Int32) <<< (zs0 &&& 31)) - 1), .ref q_1, .null, .null, .null, .null])), (q_1, .inr (3, [.int zs0, .int ((1 : Int32) <<< (zs0 &&& 31)), .int (((1 : Int32) <<< (zs0 &&& 31)) - 1), .int (bI false), .ref q_2])), (q_2, .inl (cA.1, nn, .inl (fun _ => 1)))] H := hP
  have hD : va_D A [(h0, .inr (5, [.int zs0, .int ((1 : Int32) <<< (zs0 &&& 31)), .int (((1 : Int32) <<< (zs0 &&& 31)) - 1), .ref q_1, .null, .null, .null, .null])), (q_1, .inr (3, [.int zs0, .int ((1 : Int32) <<< (zs0 &&& 31)), .int (((1 : Int32) <<< (zs0 &&& 31)) - 1), .int (bI false), .ref q_2])), (q_2, .inl (cA.1, nn, .inl (fun _ => 1)))] := hD
  refine lv_aload_n hx hb dLoops_init_18 rfl (lv_at hl 0 rfl) ?_
  refine lv_aload_n hx hb dLoops_init_19 rfl (lv_at hl 0 rfl) ?_
  refine va_get (D := (dC, dI)) (ci := 5) (v := .int ((1 : Int32) <<< (zs0 &&& 31))) (C := R_Loops) (T := T_Loops) (N := 8) hx hb htg in_Loops hown hK hP 0 rfl rfl 1 (by decide) (htg _ wd_72) (fun x9 h9 => u_same (htg _ wd_73) x9 h9) rfl dLoops_init_20 ?_
  refine lv_iconst (v := (-1)) hx hb dLoops_init_23 (by decide) ?_
  refine wg_SNr (wr := [(h0, .inr (5, [.int zs0, .int ((1 : Int32) <<< (zs0 &&& 31)), .int (((1 : Int32) <<< (zs0 &&& 31)) - 1), .ref q_1, .null, .null, .null, .null])), (q_1, .inr (3, [.int zs0, .int ((1 : Int32) <<< (zs0 &&& 31)), .int (((1 : Int32) <<< (zs0 &&& 31)) - 1), .int (bI false), .ref q_2])), (q_2, .inl (cA.1, nn, .inl (fun _ => 1)))]) (As := [.int ((1 : Int32) <<< (zs0 &&& 31)), .int (-1)]) (rest := [.ref h0]) ⟨hx, hb, hml, hown, htg⟩ (c_PK_cells l dC dI cA _ ((1 : Int32) <<< (zs0 &&& 31)) (-1) nn 1024 hnn hle (by decide) hpz) (cw_SN htg hN wn_198 qPK_cells iPK_cells kPK_cells pPK_cells rfl rfl ⟨Nat.le_of_ble_eq_true rfl, Nat.le_of_ble_eq_true rfl⟩) hN hP hD hS hA hK [] [0, 1, 2] rfl rfl (by decide) (by decide) (by decide) rfl hl.1 rfl (Nat.le_of_ble_eq_true rfl) dLoops_init_24 ⟨Nat.le_of_ble_eq_true rfl, Nat.le_of_ble_eq_true rfl⟩ (fun q_3 w1 hw H locs hP hD hS => ?_)
  obtain rfl := hw
  have hP : va_P (dC, dI) vwCl [(h0, .inr (5, [.int zs0, .int ((1 : Int32) <<< (zs0 &&& 31)), .int (((1 : Int32) <<< (zs0 &&& 31)) - 1), .ref q_1, .null, .null, .null, .null])), (q_1, .inr (3, [.int zs0, .int ((1 : Int32) <<< (zs0 &&& 31)), .int (((1 : Int32) <<< (zs0 &&& 31)) - 1), .int (bI false), .ref q_2])), (q_2, .inl (cA.1, nn, .inl (fun _ => 1))), (q_3, .inl (cA.1, nn, .inl (fun _ => (-1))))] H := hP
  have hD : va_D A [(h0, .inr (5, [.int zs0, .int ((1 : Int32) <<< (zs0 &&& 31)), .int (((1 : Int32) <<< (zs0 &&& 31)) - 1), .ref q_1, .null, .null, .null, .null])), (q_1, .inr (3, [.int zs0, .int ((1 : Int32) <<< (zs0 &&& 31)), .int (((1 : Int32) <<< (zs0 &&& 31)) - 1), .int (bI false), .ref q_2])), (q_2, .inl (cA.1, nn, .inl (fun _ => 1))), (q_3, .inl (cA.1, nn, .inl (fun _ => (-1))))] := hD
  refine W.widen (k := 3) (n := 2053) (by omega) (by omega) ?_
  refine va_putF (D := (dC, dI)) (ci := 5) (v := .ref q_3) (ty := (.array .int)) (C := R_Loops) (T := T_Loops) (N := 8) hx hb htg in_Loops ty_Loops tk_Loops nm_Loops hown hK hP hD hS 0 rfl rfl 4 (by decide) (htg _ wd_200) (fun _ h9 => h9) rfl hin rfl (by decide +kernel) rfl rfl (Nat.le_of_ble_eq_true rfl) dLoops_init_27 (fun H locs hP hD hS => ?_)
  have hP : va_P (dC, dI) vwCl [(h0, .inr (5, [.int zs0, .int ((1 : Int32) <<< (zs0 &&& 31)), .int (((1 : Int32) <<< (zs0 &&& 31)) - 1), .ref q_1, .ref q_3, .null, .null, .null])), (q_1, .inr (3, [.int zs0, .int ((1 : Int32) <<< (zs0 &&& 31)), .int (((1 : Int32) <<< (zs0 &&& 31)) - 1), .int (bI false), .ref q_2])), (q_2, .inl (cA.1, nn, .inl (fun _ => 1))), (q_3, .inl (cA.1, nn, .inl (fun _ => (-1))))] H := hP
  have hD : va_D A [(h0, .inr (5, [.int zs0, .int ((1 : Int32) <<< (zs0 &&& 31)), .int (((1 : Int32) <<< (zs0 &&& 31)) - 1), .ref q_1, .ref q_3, .null, .null, .null])), (q_1, .inr (3, [.int zs0, .int ((1 : Int32) <<< (zs0 &&& 31)), .int (((1 : Int32) <<< (zs0 &&& 31)) - 1), .int (bI false), .ref q_2])), (q_2, .inl (cA.1, nn, .inl (fun _ => 1))), (q_3, .inl (cA.1, nn, .inl (fun _ => (-1))))] := hD
  refine lv_aload_n hx hb dLoops_init_30 rfl (lv_at hl 0 rfl) ?_
  refine lv_aload_n hx hb dLoops_init_31 rfl (lv_at hl 0 rfl) ?_
  refine va_get (D := (dC, dI)) (ci := 5) (v := .int ((1 : Int32) <<< (zs0 &&& 31))) (C := R_Loops) (T := T_Loops) (N := 8) hx hb htg in_Loops hown hK hP 0 rfl rfl 1 (by decide) (htg _ wd_72) (fun x9 h9 => u_same (htg _ wd_73) x9 h9) rfl dLoops_init_32 ?_
  refine lv_iconst (v := 0) hx hb dLoops_init_35 (by decide) ?_
  refine wg_SNr (wr := [(h0, .inr (5, [.int zs0, .int ((1 : Int32) <<< (zs0 &&& 31)), .int (((1 : Int32) <<< (zs0 &&& 31)) - 1), .ref q_1, .ref q_3, .null, .null, .null])), (q_1, .inr (3, [.int zs0, .int ((1 : Int32) <<< (zs0 &&& 31)), .int (((1 : Int32) <<< (zs0 &&& 31)) - 1), .int (bI false), .ref q_2])), (q_2, .inl (cA.1, nn, .inl (fun _ => 1))), (q_3, .inl (cA.1, nn, .inl (fun _ => (-1))))]) (As := [.int ((1 : Int32) <<< (zs0 &&& 31)), .int 0]) (rest := [.ref h0]) ⟨hx, hb, hml, hown, htg⟩ (c_PK_cells l dC dI cA _ ((1 : Int32) <<< (zs0 &&& 31)) 0 nn 1024 hnn hle (by decide) hpz) (cw_SN htg hN wn_198 qPK_cells iPK_cells kPK_cells pPK_cells rfl rfl ⟨Nat.le_of_ble_eq_true rfl, Nat.le_of_ble_eq_true rfl⟩) hN hP hD hS hA hK [] [0, 1, 2, 3] rfl rfl (by decide) (by decide) (by decide) rfl hl.1 rfl (Nat.le_of_ble_eq_true rfl) dLoops_init_36 ⟨Nat.le_of_ble_eq_true rfl, Nat.le_of_ble_eq_true rfl⟩ (fun q_4 w1 hw H locs hP hD hS => ?_)
  obtain rfl := hw
  have hP : va_P (dC, dI) vwCl [(h0, .inr (5, [.int zs0, .int ((1 : Int32) <<< (zs0 &&& 31)), .int (((1 : Int32) <<< (zs0 &&& 31)) - 1), .ref q_1, .ref q_3, .null, .null, .null])), (q_1, .inr (3, [.int zs0, .int ((1 : Int32) <<< (zs0 &&& 31)), .int (((1 : Int32) <<< (zs0 &&& 31)) - 1), .int (bI false), .ref q_2])), (q_2, .inl (cA.1, nn, .inl (fun _ => 1))), (q_3, .inl (cA.1, nn, .inl (fun _ => (-1)))), (q_4, .inl (cA.1, nn, .inl (fun _ => 0)))] H := hP
  have hD : va_D A [(h0, .inr (5, [.int zs0, .int ((1 : Int32) <<< (zs0 &&& 31)), .int (((1 : Int32) <<< (zs0 &&& 31)) - 1), .ref q_1, .ref q_3, .null, .null, .null])), (q_1, .inr (3, [.int zs0, .int ((1 : Int32) <<< (zs0 &&& 31)), .int (((1 : Int32) <<< (zs0 &&& 31)) - 1), .int (bI false), .ref q_2])), (q_2, .inl (cA.1, nn, .inl (fun _ => 1))), (q_3, .inl (cA.1, nn, .inl (fun _ => (-1)))), (q_4, .inl (cA.1, nn, .inl (fun _ => 0)))] := hD
  refine W.widen (k := 4) (n := 3077) (by omega) (by omega) ?_
  refine va_putF (D := (dC, dI)) (ci := 5) (v := .ref q_4) (ty := (.array .int)) (C := R_Loops) (T := T_Loops) (N := 8) hx hb htg in_Loops ty_Loops tk_Loops nm_Loops hown hK hP hD hS 0 rfl rfl 5 (by decide) (htg _ wd_201) (fun _ h9 => h9) rfl hin rfl (by decide +kernel) rfl rfl (Nat.le_of_ble_eq_true rfl) dLoops_init_39 (fun H locs hP hD hS => ?_)
  have hP : va_P (dC, dI) vwCl [(h0, .inr (5, [.int zs0, .int ((1 : Int32) <<< (zs0 &&& 31)), .int (((1 : Int32) <<< (zs0 &&& 31)) - 1), .ref q_1, .ref q_3, .ref q_4, .null, .null])), (q_1, .inr (3, [.int zs0, .int ((1 : Int32) <<< (zs0 &&& 31)), .int (((1 : Int32) <<< (zs0 &&& 31)) - 1), .int (bI false), .ref q_2])), (q_2, .inl (cA.1, nn, .inl (fun _ => 1))), (q_3, .inl (cA.1, nn, .inl (fun _ => (-1)))), (q_4, .inl (cA.1, nn, .inl (fun _ => 0)))] H := hP
  have hD : va_D A [(h0, .inr (5, [.int zs0, .int ((1 : Int32) <<< (zs0 &&& 31)), .int (((1 : Int32) <<< (zs0 &&& 31)) - 1), .ref q_1, .ref q_3, .ref q_4, .null, .null])), (q_1, .inr (3, [.int zs0, .int ((1 : Int32) <<< (zs0 &&& 31)), .int (((1 : Int32) <<< (zs0 &&& 31)) - 1), .int (bI false), .ref q_2])), (q_2, .inl (cA.1, nn, .inl (fun _ => 1))), (q_3, .inl (cA.1, nn, .inl (fun _ => (-1)))), (q_4, .inl (cA.1, nn, .inl (fun _ => 0)))] := hD
  refine lv_aload_n hx hb dLoops_init_42 rfl (lv_at hl 0 rfl) ?_
  refine lv_aload_n hx hb dLoops_init_43 rfl (lv_at hl 0 rfl) ?_
  refine va_get (D := (dC, dI)) (ci := 5) (v := .int ((1 : Int32) <<< (zs0 &&& 31))) (C := R_Loops) (T := T_Loops) (N := 8) hx hb htg in_Loops hown hK hP 0 rfl rfl 1 (by decide) (htg _ wd_72) (fun x9 h9 => u_same (htg _ wd_73) x9 h9) rfl dLoops_init_44 ?_
  refine lv_iconst (v := 0) hx hb dLoops_init_47 (by decide) ?_
  refine wg_SNr (wr := [(h0, .inr (5, [.int zs0, .int ((1 : Int32) <<< (zs0 &&& 31)), .int (((1 : Int32) <<< (zs0 &&& 31)) - 1), .ref q_1, .ref q_3, .ref q_4, .null, .null])), (q_1, .inr (3, [.int zs0, .int ((1 : Int32) <<< (zs0 &&& 31)), .int (((1 : Int32) <<< (zs0 &&& 31)) - 1), .int (bI false), .ref q_2])), (q_2, .inl (cA.1, nn, .inl (fun _ => 1))), (q_3, .inl (cA.1, nn, .inl (fun _ => (-1)))), (q_4, .inl (cA.1, nn, .inl (fun _ => 0)))]) (As := [.int ((1 : Int32) <<< (zs0 &&& 31)), .int 0]) (rest := [.ref h0]) ⟨hx, hb, hml, hown, htg⟩ (c_PK_cells l dC dI cA _ ((1 : Int32) <<< (zs0 &&& 31)) 0 nn 1024 hnn hle (by decide) hpz) (cw_SN htg hN wn_198 qPK_cells iPK_cells kPK_cells pPK_cells rfl rfl ⟨Nat.le_of_ble_eq_true rfl, Nat.le_of_ble_eq_true rfl⟩) hN hP hD hS hA hK [] [0, 1, 2, 3, 4] rfl rfl (by decide) (by decide) (by decide) rfl hl.1 rfl (Nat.le_of_ble_eq_true rfl) dLoops_init_48 ⟨Nat.le_of_ble_eq_true rfl, Nat.le_of_ble_eq_true rfl⟩ (fun q_5 w1 hw H locs hP hD hS => ?_)
  obtain rfl := hw
  have hP : va_P (dC, dI) vwCl [(h0, .inr (5, [.int zs0, .int ((1 : Int32) <<< (zs0 &&& 31)), .int (((1 : Int32) <<< (zs0 &&& 31)) - 1), .ref q_1, .ref q_3, .ref q_4, .null, .null])), (q_1, .inr (3, [.int zs0, .int ((1 : Int32) <<< (zs0 &&& 31)), .int (((1 : Int32) <<< (zs0 &&& 31)) - 1), .int (bI false), .ref q_2])), (q_2, .inl (cA.1, nn, .inl (fun _ => 1))), (q_3, .inl (cA.1, nn, .inl (fun _ => (-1)))), (q_4, .inl (cA.1, nn, .inl (fun _ => 0))), (q_5, .inl (cA.1, nn, .inl (fun _ => 0)))] H := hP
  have hD : va_D A [(h0, .inr (5, [.int zs0, .int ((1 : Int32) <<< (zs0 &&& 31)), .int (((1 : Int32) <<< (zs0 &&& 31)) - 1), .ref q_1, .ref q_3, .ref q_4, .null, .null])), (q_1, .inr (3, [.int zs0, .int ((1 : Int32) <<< (zs0 &&& 31)), .int (((1 : Int32) <<< (zs0 &&& 31)) - 1), .int (bI false), .ref q_2])), (q_2, .inl (cA.1, nn, .inl (fun _ => 1))), (q_3, .inl (cA.1, nn, .inl (fun _ => (-1)))), (q_4, .inl (cA.1, nn, .inl (fun _ => 0))), (q_5, .inl (cA.1, nn, .inl (fun _ => 0)))] := hD
  refine W.widen (k := 5) (n := 4101) (by omega) (by omega) ?_
  refine va_putF (D := (dC, dI)) (ci := 5) (v := .ref q_5) (ty := (.array .int)) (C := R_Loops) (T := T_Loops) (N := 8) hx hb htg in_Loops ty_Loops tk_Loops nm_Loops hown hK hP hD hS 0 rfl rfl 6 (by decide) (htg _ wd_202) (fun _ h9 => h9) rfl hin rfl (by decide +kernel) rfl rfl (Nat.le_of_ble_eq_true rfl) dLoops_init_51 (fun H locs hP hD hS => ?_)
  have hP : va_P (dC, dI) vwCl [(h0, .inr (5, [.int zs0, .int ((1 : Int32) <<< (zs0 &&& 31)), .int (((1 : Int32) <<< (zs0 &&& 31)) - 1), .ref q_1, .ref q_3, .ref q_4, .ref q_5, .null])), (q_1, .inr (3, [.int zs0, .int ((1 : Int32) <<< (zs0 &&& 31)), .int (((1 : Int32) <<< (zs0 &&& 31)) - 1), .int (bI false), .ref q_2])), (q_2, .inl (cA.1, nn, .inl (fun _ => 1))), (q_3, .inl (cA.1, nn, .inl (fun _ => (-1)))), (q_4, .inl (cA.1, nn, .inl (fun _ => 0))), (q_5, .inl (cA.1, nn, .inl (fun _ => 0)))] H := hP
  have hD : va_D A [(h0, .inr (5, [.int zs0, .int ((1 : Int32) <<< (zs0 &&& 31)), .int (((1 : Int32) <<< (zs0 &&& 31)) - 1), .ref q_1, .ref q_3, .ref q_4, .ref q_5, .null])), (q_1, .inr (3, [.int zs0, .int ((1 : Int32) <<< (zs0 &&& 31)), .int (((1 : Int32) <<< (zs0 &&& 31)) - 1), .int (bI false), .ref q_2])), (q_2, .inl (cA.1, nn, .inl (fun _ => 1))), (q_3, .inl (cA.1, nn, .inl (fun _ => (-1)))), (q_4, .inl (cA.1, nn, .inl (fun _ => 0))), (q_5, .inl (cA.1, nn, .inl (fun _ => 0)))] := hD
  refine lv_aload_n hx hb dLoops_init_54 rfl (lv_at hl 0 rfl) ?_
  refine lv_aload_n hx hb dLoops_init_55 rfl (lv_at hl 0 rfl) ?_
  refine va_get (D := (dC, dI)) (ci := 5) (v := .int ((1 : Int32) <<< (zs0 &&& 31))) (C := R_Loops) (T := T_Loops) (N := 8) hx hb htg in_Loops hown hK hP 0 rfl rfl 1 (by decide) (htg _ wd_72) (fun x9 h9 => u_same (htg _ wd_73) x9 h9) rfl dLoops_init_56 ?_
  refine lv_iconst (v := 0) hx hb dLoops_init_59 (by decide) ?_
  refine wg_SNr (wr := [(h0, .inr (5, [.int zs0, .int ((1 : Int32) <<< (zs0 &&& 31)), .int (((1 : Int32) <<< (zs0 &&& 31)) - 1), .ref q_1, .ref q_3, .ref q_4, .ref q_5, .null])), (q_1, .inr (3, [.int zs0, .int ((1 : Int32) <<< (zs0 &&& 31)), .int (((1 : Int32) <<< (zs0 &&& 31)) - 1), .int (bI false), .ref q_2])), (q_2, .inl (cA.1, nn, .inl (fun _ => 1))), (q_3, .inl (cA.1, nn, .inl (fun _ => (-1)))), (q_4, .inl (cA.1, nn, .inl (fun _ => 0))), (q_5, .inl (cA.1, nn, .inl (fun _ => 0)))]) (As := [.int ((1 : Int32) <<< (zs0 &&& 31)), .int 0]) (rest := [.ref h0]) ⟨hx, hb, hml, hown, htg⟩ (c_PK_cells l dC dI cA _ ((1 : Int32) <<< (zs0 &&& 31)) 0 nn 1024 hnn hle (by decide) hpz) (cw_SN htg hN wn_198 qPK_cells iPK_cells kPK_cells pPK_cells rfl rfl ⟨Nat.le_of_ble_eq_true rfl, Nat.le_of_ble_eq_true rfl⟩) hN hP hD hS hA hK [] [0, 1, 2, 3, 4, 5] rfl rfl (by decide) (by decide) (by decide) rfl hl.1 rfl (Nat.le_of_ble_eq_true rfl) dLoops_init_60 ⟨Nat.le_of_ble_eq_true rfl, Nat.le_of_ble_eq_true rfl⟩ (fun q_6 w1 hw H locs hP hD hS => ?_)
  obtain rfl := hw
  have hP : va_P (dC, dI) vwCl [(h0, .inr (5, [.int zs0, .int ((1 : Int32) <<< (zs0 &&& 31)), .int (((1 : Int32) <<< (zs0 &&& 31)) - 1), .ref q_1, .ref q_3, .ref q_4, .ref q_5, .null])), (q_1, .inr (3, [.int zs0, .int ((1 : Int32) <<< (zs0 &&& 31)), .int (((1 : Int32) <<< (zs0 &&& 31)) - 1), .int (bI false), .ref q_2])), (q_2, .inl (cA.1, nn, .inl (fun _ => 1))), (q_3, .inl (cA.1, nn, .inl (fun _ => (-1)))), (q_4, .inl (cA.1, nn, .inl (fun _ => 0))), (q_5, .inl (cA.1, nn, .inl (fun _ => 0))), (q_6, .inl (cA.1, nn, .inl (fun _ => 0)))] H := hP
  have hD : va_D A [(h0, .inr (5, [.int zs0, .int ((1 : Int32) <<< (zs0 &&& 31)), .int (((1 : Int32) <<< (zs0 &&& 31)) - 1), .ref q_1, .ref q_3, .ref q_4, .ref q_5, .null])), (q_1, .inr (3, [.int zs0, .int ((1 : Int32) <<< (zs0 &&& 31)), .int (((1 : Int32) <<< (zs0 &&& 31)) - 1), .int (bI false), .ref q_2])), (q_2, .inl (cA.1, nn, .inl (fun _ => 1))), (q_3, .inl (cA.1, nn, .inl (fun _ => (-1)))), (q_4, .inl (cA.1, nn, .inl (fun _ => 0))), (q_5, .inl (cA.1, nn, .inl (fun _ => 0))), (q_6, .inl (cA.1, nn, .inl (fun _ => 0)))] := hD
  refine W.widen (k := 6) (n := 5125) (by omega) (by omega) ?_
  refine va_putF (D := (dC, dI)) (ci := 5) (v := .ref q_6) (ty := (.array .int)) (C := R_Loops) (T := T_Loops) (N := 8) hx hb htg in_Loops ty_Loops tk_Loops nm_Loops hown hK hP hD hS 0 rfl rfl 7 (by decide) (htg _ wd_203) (fun _ h9 => h9) rfl hin rfl (by decide +kernel) rfl rfl (Nat.le_of_ble_eq_true rfl) dLoops_init_63 (fun H locs hP hD hS => ?_)
  have hP : va_P (dC, dI) vwCl [(h0, .inr (5, [.int zs0, .int ((1 : Int32) <<< (zs0 &&& 31)), .int (((1 : Int32) <<< (zs0 &&& 31)) - 1), .ref q_1, .ref q_3, .ref q_4, .ref q_5, .ref q_6])), (q_1, .inr (3, [.int zs0, .int ((1 : Int32) <<< (zs0 &&& 31)), .int (((1 : Int32) <<< (zs0 &&& 31)) - 1), .int (bI false), .ref q_2])), (q_2, .inl (cA.1, nn, .inl (fun _ => 1))), (q_3, .inl (cA.1, nn, .inl (fun _ => (-1)))), (q_4, .inl (cA.1, nn, .inl (fun _ => 0))), (q_5, .inl (cA.1, nn, .inl (fun _ => 0))), (q_6, .inl (cA.1, nn, .inl (fun _ => 0)))] H := hP
  have hD : va_D A [(h0, .inr (5, [.int zs0, .int ((1 : Int32) <<< (zs0 &&& 31)), .int (((1 : Int32) <<< (zs0 &&& 31)) - 1), .ref q_1, .ref q_3, .ref q_4, .ref q_5, .ref q_6])), (q_1, .inr (3, [.int zs0, .int ((1 : Int32) <<< (zs0 &&& 31)), .int (((1 : Int32) <<< (zs0 &&& 31)) - 1), .int (bI false), .ref q_2])), (q_2, .inl (cA.1, nn, .inl (fun _ => 1))), (q_3, .inl (cA.1, nn, .inl (fun _ => (-1)))), (q_4, .inl (cA.1, nn, .inl (fun _ => 0))), (q_5, .inl (cA.1, nn, .inl (fun _ => 0))), (q_6, .inl (cA.1, nn, .inl (fun _ => 0)))] := hD
  refine W.widen (k := 6) (n := 5125) (by omega) (by omega) ?_
  exact W.vret hx hb hr (fun t ht hW => ⟨⟨_, rfl, ⟨q_1, q_2, q_3, q_4, q_5, q_6, rfl⟩, ⟨by rw [ht]; exact hP.sub [0, 1, 2, 3, 4, 5, 6] rfl, va_K.moved hW.alike hK, hD.sub [0, 1, 2, 3, 4, 5, 6] (by decide) rfl⟩⟩, hS.F ht⟩) hS.2.2 dLoops_init_66
set_option maxHeartbeats 4000000 in
set_option maxRecDepth 100000 in
theorem c_Coin_init (l : Launch) (dC : Nat → ClassId) (dI : Nat → Nat → Nat) (cA : ClassId × ClassId × ClassId) (zz : Nat) (h0 : Nat) (zs0 : Int32) (xs : Int32) : Met l yCoin_init wCoin_init ({ frames := 2, cells := 0, slots := 0, locals := 41 }) (va_Pc [.ref h0, .int zs0, .int xs] (Wr (dC, dI) cA zz [(h0, .inr (2, [.int 0, .int 0, .int 0, .int 0]))])) (va_Qv (fun w9 => w9 = [(h0, .inr (2, [.int zs0, .int ((1 : Int32) <<< (zs0 &&& 31)), .int (((1 : Int32) <<< (zs0 &&& 31)) - 1), .int xs]))]) (At (dC, dI) cA (va_A [(h0, .inr (2, [.int 0, .int 0, .int 0, .int 0]))] zz)) (va_A [(h0, .inr (2, [.int 0, .int 0, .int 0, .int 0]))] zz)) 0 0 (va_A [(h0, .inr (2, [.int 0, .int 0, .int 0, .int 0]))] zz) := by
  refine Met.ofW (cc := cCoin_init) (maxL := 3) (ret := none) (by decide) rfl ?_
  intro p e s m args below meth c s₁ B hml hv
  obtain ⟨rfl, hsz, hN, hP, hK, hD0⟩ := hv
  have hx := B.exec
  have hb := B.bytes
  have hr := B.returns
  have hts := atoms_spec (ws := wCoin_init) B.pre
  have htg : ∀ w ∈ GW, w.before _ s = true := fun w h => hts w (List.mem_cons_of_mem _ h)
  have hown : s.vm.findClass R_Coin = some m.cls := findClass_of_methodNamed B.named
  have hlocks := B.notSynchronized
  have hin : meth.name = "<init>" := (name_of_methodNamed B.named B.method).1
  subst hsz
  have hD := hD0.self (sz := s.heap.size)
  generalize hAe : va_A [(h0, .inr (2, [.int 0, .int 0, .int 0, .int 0]))] s.heap.size = A at hD ⊢
  have hA : ∀ q : Nat, s.heap.size ≤ q → A q := fun q h => by rw [← hAe]; exact Or.inr h
  have hS : va_S A s.heap s.heap [] := va_S.rf
  have hP : va_P (dC, dI) vwCl [(h0, .inr (2, [.int 0, .int 0, .int 0, .int 0]))] s.heap := hP
  have hl := lv_entry ([.ref h0, .int zs0, .int xs]) (n := 3) (Nat.le_of_ble_eq_true rfl)
  rw [lg_entry_eq]
  generalize (lg_sl ([.ref h0, .int zs0, .int xs]) ++ List.replicate (3 - (lg_sl ([.ref h0, .int zs0, .int xs])).length) Slot.unset).toArray = ls at hl ⊢
  have hl : lv_has ls 3 [(0, .ref h0), (1, .int zs0), (2, .int xs)] := hl
  refine lv_aload_n hx hb dCoin_init_0 rfl (lv_at hl 0 rfl) ?_
  refine lv_iload_n hx hb dCoin_init_1 rfl (lv_at hl 1 rfl) ?_
  refine wg_Iv (wr := []) (As := [.int zs0]) (rest := []) ⟨hx, hb, hml, hown, htg⟩ (c_Kind_init_Coin l dC dI cA _ h0 zs0) (cw_I htg wd_223 qKind_init iKind_init kKind_init pKind_init rfl rfl rfl ⟨Nat.le_of_ble_eq_true rfl, Nat.le_of_ble_eq_true rfl⟩) hN hP hD hS hA hK [0] [] rfl rfl (by decide) (by decide) (by decide) rfl hl.1 rfl (Nat.le_of_ble_eq_true rfl) dCoin_init_2 ⟨Nat.le_of_ble_eq_true rfl, Nat.le_of_ble_eq_true rfl⟩ (fun w1 hw H locs hP hD hS => ?_)
  obtain rfl := hw
  have hP : va_P (dC, dI) vwCl [(h0, .inr (2, [.int zs0, .int ((1 : Int32) <<< (zs0 &&& 31)), .int (((1 : Int32) <<< (zs0 &&& 31)) - 1), .int 0]))] H := hP
  have hD : va_D A [(h0, .inr (2, [.int zs0, .int ((1 : Int32) <<< (zs0 &&& 31)), .int (((1 : Int32) <<< (zs0 &&& 31)) - 1), .int 0]))] := hD
  refine W.widen (k := 0) (n := 0) (by omega) (by omega) ?_
  refine lv_aload_n hx hb dCoin_init_5 rfl (lv_at hl 0 rfl) ?_
  refine lv_iload_n hx hb dCoin_init_6 rfl (lv_at hl 2 rfl) ?_
  refine va_put (D := (dC, dI)) (ci := 2) (v := .int xs) (ty := .int) (C := R_Coin) (T := T_Coin) (N := 4) hx hb htg in_Coin ty_Coin tk_Coin nm_Coin hown hK hP hD hS 0 rfl rfl 3 (by decide) (htg _ wd_224) (fun _ h9 => h9) rfl (by decide +kernel) rfl rfl (Nat.le_of_ble_eq_true rfl) dCoin_init_7 (fun H locs hP hD hS => ?_)
  have hP : va_P (dC, dI) vwCl [(h0, .inr (2, [.int zs0, .int ((1 : Int32) <<< (zs0 &&& 31)), .int (((1 : Int32) <<< (zs0 &&& 31)) - 1), .int xs]))] H := hP
  have hD : va_D A [(h0, .inr (2, [.int zs0, .int ((1 : Int32) <<< (zs0 &&& 31)), .int (((1 : Int32) <<< (zs0 &&& 31)) - 1), .int xs]))] := hD
  refine W.widen (k := 0) (n := 0) (by omega) (by omega) ?_
  exact W.vret hx hb hr (fun t ht hW => ⟨⟨_, rfl, rfl, ⟨by rw [ht]; exact hP.sub [0] rfl, va_K.moved hW.alike hK, hD.sub [0] (by decide) rfl⟩⟩, hS.F ht⟩) hS.2.2 dCoin_init_10
set_option maxHeartbeats 4000000 in
set_option maxRecDepth 100000 in
theorem c_Waiting_init (l : Launch) (dC : Nat → ClassId) (dI : Nat → Nat → Nat) (cA : ClassId × ClassId × ClassId) (zz : Nat) (h0 : Nat) : Met l yWaiting_init wWaiting_init ({ frames := 2, cells := 3, slots := 192, locals := 45 }) (va_Pc [.ref h0] (Wr (dC, dI) cA zz [(h0, .inr (9, [.null, .null, .null, .int 0]))])) (va_Qv (fun w9 => ∃ q_1 q_2 q_3 : Nat, w9 = [(h0, .inr (9, [.ref q_1, .ref q_2, .ref q_3, .int 0])), (q_1, .inl (cA.1, 64, .inl (fun _ => 0))), (q_2, .inl (cA.1, 64, .inl (fun _ => 0))), (q_3, .inl (cA.1, 64, .inl (fun _ => 0)))]) (At (dC, dI) cA (va_A [(h0, .inr (9, [.null, .null, .null, .int 0]))] zz)) (va_A [(h0, .inr (9, [.null, .null, .null, .int 0]))] zz)) 3 192 (va_A [(h0, .inr (9, [.null, .null, .null, .int 0]))] zz) := by
  refine Met.ofW (cc := cWaiting_init) (maxL := 1) (ret := none) (by decide) rfl ?_
  intro p e s m args below meth c s₁ B hml hv
  obtain ⟨rfl, hsz, hN, hP, hK, hD0⟩ := hv
  have hx := B.exec
  have hb := B.bytes
  have hr := B.returns
  have hts := atoms_spec (ws := wWaiting_init) B.pre
  have htg : ∀ w ∈ GW, w.before _ s = true := fun w h => hts w (List.mem_cons_of_mem _ h)
  have hown : s.vm.findClass R_Waiting = some m.cls := findClass_of_methodNamed B.named
  have hlocks := B.notSynchronized
  have hin : meth.name = "<init>" := (name_of_methodNamed B.named B.method).1
  subst hsz
  have hD := hD0.self (sz := s.heap.size)
  generalize hAe : va_A [(h0, .inr (9, [.null, .null, .null, .int 0]))] s.heap.size = A at hD ⊢
  have hA : ∀ q : Nat, s.heap.size ≤ q → A q := fun q h => by rw [← hAe]; exact Or.inr h
  have hS : va_S A s.heap s.heap [] := va_S.rf
  have hP : va_P (dC, dI) vwCl [(h0, .inr (9, [.null, .null, .null, .int 0]))] s.heap := hP
  have hl := lv_entry ([.ref h0]) (n := 1) (Nat.le_of_ble_eq_true rfl)
  rw [lg_entry_eq]
  generalize (lg_sl ([.ref h0]) ++ List.replicate (1 - (lg_sl ([.ref h0])).length) Slot.unset).toArray = ls at hl ⊢
  have hl : lv_has ls 1 [(0, .ref h0)] := hl
  refine lv_aload_n hx hb dWaiting_init_0 rfl (lv_at hl 0 rfl) ?_
  refine W.objInit hx hb hown (htg _ wd_246) (htg _ wd_999001) (htg _ wd_999002) rfl (by rw [hml]; exact hl.1) rfl dWaiting_init_1 (Nat.le_of_ble_eq_true rfl) (Nat.le_of_ble_eq_true rfl) ?_
  refine W.eq (g2 := F0 m 4 ls []) rfl ?_
  refine lv_aload_n hx hb dWaiting_init_4 rfl (lv_at hl 0 rfl) ?_
  refine lv_bipush (v := 64) hx hb dWaiting_init_5 (by decide) ?_
  refine lv_iconst (v := 0) hx hb dWaiting_init_7 (by decide) ?_
  refine wg_SNr (wr := [(h0, .inr (9, [.null, .null, .null, .int 0]))]) (As := [.int 64, .int 0]) (rest := [.ref h0]) ⟨hx, hb, hml, hown, htg⟩ (c_PK_cells l dC dI cA _ 64 0 64 64 rfl (Nat.le_refl _) (by decide) (by decide)) (cw_SN htg hN wn_247 qPK_cells iPK_cells kPK_cells pPK_cells rfl rfl ⟨Nat.le_of_ble_eq_true rfl, Nat.le_of_ble_eq_true rfl⟩) hN hP hD hS hA hK [] [0] rfl rfl (by decide) (by decide) (by decide) rfl hl.1 rfl (Nat.le_of_ble_eq_true rfl) dWaiting_init_8 ⟨Nat.le_of_ble_eq_true rfl, Nat.le_of_ble_eq_true rfl⟩ (fun q_1 w1 hw H locs hP hD hS => ?_)
  obtain rfl := hw
  have hP : va_P (dC, dI) vwCl [(h0, .inr (9, [.null, .null, .null, .int 0])), (q_1, .inl (cA.1, 64, .inl (fun _ => 0)))] H := hP
  have hD : va_D A [(h0, .inr (9, [.null, .null, .null, .int 0])), (q_1, .inl (cA.1, 64, .inl (fun _ => 0)))] := hD
  refine W.widen (k := 1) (n := 64) (by omega) (by omega) ?_
  refine va_putF (D := (dC, dI)) (ci := 9) (v := .ref q_1) (ty := (.array .int)) (C := R_Waiting) (T := T_Waiting) (N := 4) hx hb htg in_Waiting ty_Waiting tk_Waiting nm_Waiting hown hK hP hD hS 0 rfl rfl 0 (by decide) (htg _ wd_248) (fun _ h9 => h9) rfl hin rfl (by decide +kernel) rfl rfl (Nat.le_of_ble_eq_true rfl) dWaiting_init_11 (fun H locs hP hD hS => ?_)
  have hP : va_P (dC, dI) vwCl [(h0, .inr (9, [.ref q_1, .null, .null, .int 0])), (q_1, .inl (cA.1, 64, .inl (fun _ => 0)))] H := hP
  have hD : va_D A [(h0, .inr (9, [.ref q_1, .null, .null, .int 0])), (q_1, .inl (cA.1, 64, .inl (fun _ => 0)))] := hD
  refine lv_aload_n hx hb dWaiting_init_14 rfl (lv_at hl 0 rfl) ?_
  refine lv_bipush (v := 64) hx hb dWaiting_init_15 (by decide) ?_
  refine lv_iconst (v := 0) hx hb dWaiting_init_17 (by decide) ?_
  refine wg_SNr (wr := [(h0, .inr (9, [.ref q_1, .null, .null, .int 0])), (q_1, .inl (cA.1, 64, .inl (fun _ => 0)))]) (As := [.int 64, .int 0]) (rest := [.ref h0]) ⟨hx, hb, hml, hown, htg⟩ (c_PK_cells l dC dI cA _ 64 0 64 64 rfl (Nat.le_refl _) (by decide) (by decide)) (cw_SN htg hN wn_247 qPK_cells iPK_cells kPK_cells pPK_cells rfl rfl ⟨Nat.le_of_ble_eq_true rfl, Nat.le_of_ble_eq_true rfl⟩) hN hP hD hS hA hK [] [0, 1] rfl rfl (by decide) (by decide) (by decide) rfl hl.1 rfl (Nat.le_of_ble_eq_true rfl) dWaiting_init_18 ⟨Nat.le_of_ble_eq_true rfl, Nat.le_of_ble_eq_true rfl⟩ (fun q_2 w1 hw H locs hP hD hS => ?_)
  obtain rfl := hw
  have hP : va_P (dC, dI) vwCl [(h0, .inr (9, [.ref q_1, .null, .null, .int 0])), (q_1, .inl (cA.1, 64, .inl (fun _ => 0))), (q_2, .inl (cA.1, 64, .inl (fun _ => 0)))] H := hP
  have hD : va_D A [(h0, .inr (9, [.ref q_1, .null, .null, .int 0])), (q_1, .inl (cA.1, 64, .inl (fun _ => 0))), (q_2, .inl (cA.1, 64, .inl (fun _ => 0)))] := hD
  refine W.widen (k := 2) (n := 128) (by omega) (by omega) ?_
  refine va_putF (D := (dC, dI)) (ci := 9) (v := .ref q_2) (ty := (.array .int)) (C := R_Waiting) (T := T_Waiting) (N := 4) hx hb htg in_Waiting ty_Waiting tk_Waiting nm_Waiting hown hK hP hD hS 0 rfl rfl 1 (by decide) (htg _ wd_249) (fun _ h9 => h9) rfl hin rfl (by decide +kernel) rfl rfl (Nat.le_of_ble_eq_true rfl) dWaiting_init_21 (fun H locs hP hD hS => ?_)
  have hP : va_P (dC, dI) vwCl [(h0, .inr (9, [.ref q_1, .ref q_2, .null, .int 0])), (q_1, .inl (cA.1, 64, .inl (fun _ => 0))), (q_2, .inl (cA.1, 64, .inl (fun _ => 0)))] H := hP
  have hD : va_D A [(h0, .inr (9, [.ref q_1, .ref q_2, .null, .int 0])), (q_1, .inl (cA.1, 64, .inl (fun _ => 0))), (q_2, .inl (cA.1, 64, .inl (fun _ => 0)))] := hD
  refine lv_aload_n hx hb dWaiting_init_24 rfl (lv_at hl 0 rfl) ?_
  refine lv_bipush (v := 64) hx hb dWaiting_init_25 (by decide) ?_
  refine lv_iconst (v := 0) hx hb dWaiting_init_27 (by decide) ?_
  refine wg_SNr (wr := [(h0, .inr (9, [.ref q_1, .ref q_2, .null, .int 0])), (q_1, .inl (cA.1, 64, .inl (fun _ => 0))), (q_2, .inl (cA.1, 64, .inl (fun _ => 0)))]) (As := [.int 64, .int 0]) (rest := [.ref h0]) ⟨hx, hb, hml, hown, htg⟩ (c_PK_cells l dC dI cA _ 64 0 64 64 rfl (Nat.le_refl _) (by decide) (by decide)) (cw_SN htg hN wn_247 qPK_cells iPK_cells kPK_cells pPK_cells rfl rfl ⟨Nat.le_of_ble_eq_true rfl, Nat.le_of_ble_eq_true rfl⟩) hN hP hD hS hA hK [] [0, 1, 2] rfl rfl (by decide) (by decide) (by decide) rfl hl.1 rfl (Nat.le_of_ble_eq_true rfl) dWaiting_init_28 ⟨Nat.le_of_ble_eq_true rfl, Nat.le_of_ble_eq_true rfl⟩ (fun q_3 w1 hw H locs hP hD hS => ?_)
  obtain rfl := hw
  have hP : va_P (dC, dI) vwCl [(h0, .inr (9, [.ref q_1, .ref q_2, .null, .int 0])), (q_1, .inl (cA.1, 64, .inl (fun _ => 0))), (q_2, .inl (cA.1, 64, .inl (fun _ => 0))), (q_3, .inl (cA.1, 64, .inl (fun _ => 0)))] H := hP
  have hD : va_D A [(h0, .inr (9, [.ref q_1, .ref q_2, .null, .int 0])), (q_1, .inl (cA.1, 64, .inl (fun _ => 0))), (q_2, .inl (cA.1, 64, .inl (fun _ => 0))), (q_3, .inl (cA.1, 64, .inl (fun _ => 0)))] := hD
  refine W.widen (k := 3) (n := 192) (by omega) (by omega) ?_
  refine va_putF (D := (dC, dI)) (ci := 9) (v := .ref q_3) (ty := (.array .int)) (C := R_Waiting) (T := T_Waiting) (N := 4) hx hb htg in_Waiting ty_Waiting tk_Waiting nm_Waiting hown hK hP hD hS 0 rfl rfl 2 (by decide) (htg _ wd_250) (fun _ h9 => h9) rfl hin rfl (by decide +kernel) rfl rfl (Nat.le_of_ble_eq_true rfl) dWaiting_init_31 (fun H locs hP hD hS => ?_)
  have hP : va_P (dC, dI) vwCl [(h0, .inr (9, [.ref q_1, .ref q_2, .ref q_3, .int 0])), (q_1, .inl (cA.1, 64, .inl (fun _ => 0))), (q_2, .inl (cA.1, 64, .inl (fun _ => 0))), (q_3, .inl (cA.1, 64, .inl (fun _ => 0)))] H := hP
  have hD : va_D A [(h0, .inr (9, [.ref q_1, .ref q_2, .ref q_3, .int 0])), (q_1, .inl (cA.1, 64, .inl (fun _ => 0))), (q_2, .inl (cA.1, 64, .inl (fun _ => 0))), (q_3, .inl (cA.1, 64, .inl (fun _ => 0)))] := hD
  refine W.widen (k := 3) (n := 192) (by omega) (by omega) ?_
  exact W.vret hx hb hr (fun t ht hW => ⟨⟨_, rfl, ⟨q_1, q_2, q_3, rfl⟩, ⟨by rw [ht]; exact hP.sub [0, 1, 2, 3] rfl, va_K.moved hW.alike hK, hD.sub [0, 1, 2, 3] (by decide) rfl⟩⟩, hS.F ht⟩) hS.2.2 dWaiting_init_34
