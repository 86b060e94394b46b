def of_Tagged_cellOf (zs0 : Int32) (rw0 : Int32) (mk0 : Int32) (t0 : Int32) (pl : Int32) (hs : Int32) : Option (Int32) := ((of_PK_folded hs ((4 : Int32) <<< (t0 &&& 31)) zs0).bind fun z_1 => some (((t0 * rw0) + (((pl ^^^ z_1) ^^^ (t0 + 1)) &&& mk0))))
set_option maxHeartbeats 4000000 in
set_option maxRecDepth 100000 in
theorem c_Tagged_cellOf (l : Launch) (dC : Nat → ClassId) (dI : Nat → Nat → Nat) (cA : ClassId × ClassId × ClassId) (h0 : Nat) (b1 : Nat) (a0 : Nat) (a1 : Nat) (a2 : Nat) (a3 : Nat) (zs0 : Int32) (rw0 : Int32) (mk0 : Int32) (n0 : Nat) (f0 : Nat → Int32) (n1 : Nat) (f1 : Nat → Int32) (n2 : Nat) (f2 : Nat → Int32) (n3 : Nat) (f3 : Nat → Int32) (t0 : Int32) (pl : Int32) (hs : Int32) (hn0 : n0 < 2147483648) (hn1 : n1 < 2147483648) (hn2 : n2 < 2147483648) (hn3 : n3 < 2147483648) (rs0 : Int32) (hfn : (of_Tagged_cellOf zs0 rw0 mk0 t0 pl hs) = some (rs0)) : Met l yTagged_cellOf wTagged_cellOf ({ frames := 2, cells := 0, slots := 0, locals := 46 }) (va_Pc [.ref h0, .int t0, .int pl, .int hs] (Rd (dC, dI) cA [(h0, .inr (8, [.int zs0, .int rw0, .int mk0, .ref b1, .ref a1, .ref a2, .ref a3])), (b1, .inr (3, [.int zs0, .int rw0, .int mk0, .int (bI false), .ref a0])), (a0, .inl (cA.1, n0, .inl f0)), (a1, .inl (cA.1, n1, .inl f1)), (a2, .inl (cA.1, n2, .inl f2)), (a3, .inl (cA.1, n3, .inl f3))])) (QcRead rs0) 0 0 (fun _ => False) := by
  refine Met.ofW (cc := cTagged_cellOf) (maxL := 5) (ret := (some .int)) (by decide) rfl ?_
  intro p e s m args below meth c s₁ B hml hv
  obtain ⟨rfl, hN, hP, hK⟩ := hv
  have hx := B.exec
  have hb := B.bytes
  have hr := B.returns
  have hts := atoms_spec (ws := wTagged_cellOf) B.pre
  have htg : ∀ w ∈ GW, w.before _ s = true := fun w h => hts w (List.mem_cons_of_mem _ h)
  have hown : s.vm.findClass R_Tagged = some m.cls := findClass_of_methodNamed B.named
  have hlocks := B.notSynchronized
  have hl := lv_entry ([.ref h0, .int t0, .int pl, .int hs]) (n := 5) (Nat.le_of_ble_eq_true rfl)
  rw [lg_entry_eq]
  generalize (lg_sl ([.ref h0, .int t0, .int pl, .int hs]) ++ List.replicate (5 - (lg_sl ([.ref h0, .int t0, .int pl, .int hs])).length) Slot.unset).toArray = ls at hl ⊢
  have hl : lv_has ls 5 [(0, .ref h0), (1, .int t0), (2, .int pl), (3, .int hs)] := hl
  unfold of_Tagged_cellOf at hfn
  refine lv_iload_n hx hb dTagged_cellOf_0 rfl (lv_at hl 3 rfl) ?_
  refine lv_iconst (v := 4) hx hb dTagged_cellOf_1 (by decide) ?_
  refine lv_iload_n hx hb dTagged_cellOf_2 rfl (lv_at hl 1 rfl) ?_
  refine lv_ishl hx hb dTagged_cellOf_3 ?_
  refine lv_aload_n hx hb dTagged_cellOf_4 rfl (lv_at hl 0 rfl) ?_
  refine va_get (D := (dC, dI)) (ci := 8) (v := .int zs0) (C := R_Tagged) (T := T_Tagged) (N := 7) hx hb htg in_Tagged hown hK hP 0 rfl rfl 0 (by decide) (htg _ wd_61) (fun x9 h9 => u_same (htg _ wd_62) x9 h9) rfl dTagged_cellOf_5 ?_
  obtain ⟨z_1, hz_1, hfn⟩ := ob hfn
  refine rd_SN (As := [.int hs, .int ((4 : Int32) <<< (t0 &&& 31)), .int zs0]) (rest := []) ⟨hx, hb, hml, hown, htg⟩ (c_PK_folded l dC dI cA hs ((4 : Int32) <<< (t0 &&& 31)) zs0 z_1 hz_1) (cw_SN htg hN wn_413 qPK_folded iPK_folded kPK_folded pPK_folded rfl rfl ⟨Nat.le_of_ble_eq_true rfl, Nat.le_of_ble_eq_true rfl⟩) hN (hP.sub [] rfl) hK rfl hl.1 rfl (Nat.le_of_ble_eq_true rfl) dTagged_cellOf_8 ⟨Nat.le_of_ble_eq_true rfl, Nat.le_of_ble_eq_true rfl⟩ ?_
  refine lv_istore (lv' := [(4, .int z_1), (0, .ref h0), (1, .int t0), (2, .int pl), (3, .int hs)]) hx hb dTagged_cellOf_11 hl (by decide) rfl (fun ls hl => ?_)
  refine lv_iload_n hx hb dTagged_cellOf_13 rfl (lv_at hl 2 rfl) ?_
  refine lv_aload_n hx hb dTagged_cellOf_14 rfl (lv_at hl 1 rfl) ?_
  refine va_get (D := (dC, dI)) (ci := 8) (v := .int rw0) (C := R_Tagged) (T := T_Tagged) (N := 7) hx hb htg in_Tagged hown hK hP 0 rfl rfl 1 (by decide) (htg _ wd_74) (fun x9 h9 => u_same (htg _ wd_75) x9 h9) rfl dTagged_cellOf_15 ?_
  refine lv_imul hx hb dTagged_cellOf_18 ?_
  refine lv_iload_n hx hb dTagged_cellOf_19 rfl (lv_at hl 3 rfl) ?_
  refine lv_iload hx hb dTagged_cellOf_20 (lv_at hl 0 rfl) ?_
  refine lv_ixor hx hb dTagged_cellOf_22 ?_
  refine lv_iload_n hx hb dTagged_cellOf_23 rfl (lv_at hl 2 rfl) ?_
  refine lv_iconst (v := 1) hx hb dTagged_cellOf_24 (by decide) ?_
  refine lv_iadd hx hb dTagged_cellOf_25 ?_
  refine lv_ixor hx hb dTagged_cellOf_26 ?_
  refine lv_aload_n hx hb dTagged_cellOf_27 rfl (lv_at hl 1 rfl) ?_
  refine va_get (D := (dC, dI)) (ci := 8) (v := .int mk0) (C := R_Tagged) (T := T_Tagged) (N := 7) hx hb htg in_Tagged hown hK hP 0 rfl rfl 2 (by decide) (htg _ wd_83) (fun x9 h9 => u_same (htg _ wd_84) x9 h9) rfl dTagged_cellOf_28 ?_
  refine lv_iand hx hb dTagged_cellOf_31 ?_
  refine lv_iadd hx hb dTagged_cellOf_32 ?_
  replace hfn := Option.some.inj hfn
  subst hfn
  exact W.iret hx hb hr (fun t ht hW => ⟨rfl, ht⟩) (fun _ h => by cases h) dTagged_cellOf_33
def of_Tagged_tagOf (t0 : Int32) (pl : Int32) (hs : Int32) : Option (Int32) := ((of_PK_folded hs ((4 : Int32) <<< (t0 &&& 31)) 8).bind fun z_1 => some (((((us pl 2) ^^^ z_1) ^^^ (7 * t0)) &&& 255)))
set_option maxHeartbeats 4000000 in
set_option maxRecDepth 100000 in
theorem c_Tagged_tagOf (l : Launch) (dC : Nat → ClassId) (dI : Nat → Nat → Nat) (cA : ClassId × ClassId × ClassId) (h0 : Nat) (b1 : Nat) (a0 : Nat) (a1 : Nat) (a2 : Nat) (a3 : Nat) (zs0 : Int32) (rw0 : Int32) (mk0 : Int32) (n0 : Nat) (f0 : Nat → Int32) (n1 : Nat) (f1 : Nat → Int32) (n2 : Nat) (f2 : Nat → Int32) (n3 : Nat) (f3 : Nat → Int32) (t0 : Int32) (pl : Int32) (hs : Int32) (hn0 : n0 < 2147483648) (hn1 : n1 < 2147483648) (hn2 : n2 < 2147483648) (hn3 : n3 < 2147483648) (rs0 : Int32) (hfn : (of_Tagged_tagOf t0 pl hs) = some (rs0)) : Met l yTagged_tagOf wTagged_tagOf ({ frames := 2, cells := 0, slots := 0, locals := 46 }) (va_Pc [.ref h0, .int t0, .int pl, .int hs] (Rd (dC, dI) cA [(h0, .inr (8, [.int zs0, .int rw0, .int mk0, .ref b1, .ref a1, .ref a2, .ref a3])), (b1, .inr (3, [.int zs0, .int rw0, .int mk0, .int (bI false), .ref a0])), (a0, .inl (cA.1, n0, .inl f0)), (a1, .inl (cA.1, n1, .inl f1)), (a2, .inl (cA.1, n2, .inl f2)), (a3, .inl (cA.1, n3, .inl f3))])) (QcRead rs0) 0 0 (fun _ => False) := by
  refine Met.ofW (cc := cTagged_tagOf) (maxL := 5) (ret := (some .int)) (by decide) rfl ?_
  intro p e s m args below meth c s₁ B hml hv
  obtain ⟨rfl, hN, hP, hK⟩ := hv
  have hx := B.exec
  have hb := B.bytes
  have hr := B.returns
  have hts := atoms_spec (ws := wTagged_tagOf) B.pre
  have htg : ∀ w ∈ GW, w.before _ s = true := fun w h => hts w (List.mem_cons_of_mem _ h)
  have hown : s.vm.findClass R_Tagged = some m.cls := findClass_of_methodNamed B.named
  have hlocks := B.notSynchronized
  have hl := lv_entry ([.ref h0, .int t0, .int pl, .int hs]) (n := 5) (Nat.le_of_ble_eq_true rfl)
  rw [lg_entry_eq]
  generalize (lg_sl ([.ref h0, .int t0, .int pl, .int hs]) ++ List.replicate (5 - (lg_sl ([.ref h0, .int t0, .int pl, .int hs])).length) Slot.unset).toArray = ls at hl ⊢
  have hl : lv_has ls 5 [(0, .ref h0), (1, .int t0), (2, .int pl), (3, .int hs)] := hl
  unfold of_Tagged_tagOf at hfn
  refine lv_iload_n hx hb dTagged_tagOf_0 rfl (lv_at hl 3 rfl) ?_
  refine lv_iconst (v := 4) hx hb dTagged_tagOf_1 (by decide) ?_
  refine lv_iload_n hx hb dTagged_tagOf_2 rfl (lv_at hl 1 rfl) ?_
  refine lv_ishl hx hb dTagged_tagOf_3 ?_
  refine lv_bipush (v := 8) hx hb dTagged_tagOf_4 (by decide) ?_
  obtain ⟨z_1, hz_1, hfn⟩ := ob hfn
  refine rd_SN (As := [.int hs, .int ((4 : Int32) <<< (t0 &&& 31)), .int 8]) (rest := []) ⟨hx, hb, hml, hown, htg⟩ (c_PK_folded l dC dI cA hs ((4 : Int32) <<< (t0 &&& 31)) 8 z_1 hz_1) (cw_SN htg hN wn_413 qPK_folded iPK_folded kPK_folded pPK_folded rfl rfl ⟨Nat.le_of_ble_eq_true rfl, Nat.le_of_ble_eq_true rfl⟩) hN (hP.sub [] rfl) hK rfl hl.1 rfl (Nat.le_of_ble_eq_true rfl) dTagged_tagOf_6 ⟨Nat.le_of_ble_eq_true rfl, Nat.le_of_ble_eq_true rfl⟩ ?_
  refine lv_istore (lv' := [(4, .int z_1), (0, .ref h0), (1, .int t0), (2, .int pl), (3, .int hs)]) hx hb dTagged_tagOf_9 hl (by decide) rfl (fun ls hl => ?_)
  refine lv_iload_n hx hb dTagged_tagOf_11 rfl (lv_at hl 3 rfl) ?_
  refine lv_iconst (v := 2) hx hb dTagged_tagOf_12 (by decide) ?_
  refine lv_iushr (v := (us pl 2)) hx hb dTagged_tagOf_13 rfl ?_
  refine lv_iload hx hb dTagged_tagOf_14 (lv_at hl 0 rfl) ?_
  refine lv_ixor hx hb dTagged_tagOf_16 ?_
  refine lv_bipush (v := 7) hx hb dTagged_tagOf_17 (by decide) ?_
  refine lv_iload_n hx hb dTagged_tagOf_19 rfl (lv_at hl 2 rfl) ?_
  refine lv_imul hx hb dTagged_tagOf_20 ?_
  refine lv_ixor hx hb dTagged_tagOf_21 ?_
  refine lv_sipush (v := 255) hx hb dTagged_tagOf_22 (by decide) ?_
  refine lv_iand hx hb dTagged_tagOf_25 ?_
  replace hfn := Option.some.inj hfn
  subst hfn
  exact W.iret hx hb hr (fun t ht hW => ⟨rfl, ht⟩) (fun _ h => by cases h) dTagged_tagOf_26
def of_Tagged_lastHit_b5 : Nat → Int32 → Int32 → Int32 → Nat → (Nat → Int32) → Int32 → Int32 → Int32 → Option (Int32)
  | 0, _, _, _, _, _, _, _, _ => none
  | n + 1, zs0, rw0, mk0, n1, f1, pl, hs, v4_b5 => (if v4_b5 < 0 then some ((-1)) else ((of_Tagged_cellOf zs0 rw0 mk0 v4_b5 pl hs).bind fun z_2 => ((of_Tagged_tagOf v4_b5 pl hs).bind fun z_3 => (if (tf_PK_at n1 f1 z_2) = z_3 then some (v4_b5) else of_Tagged_lastHit_b5 n zs0 rw0 mk0 n1 f1 pl hs (v4_b5 + (-1))))))
def of_Tagged_lastHit (zs0 : Int32) (rw0 : Int32) (mk0 : Int32) (n1 : Nat) (f1 : Nat → Int32) (pl : Int32) (hs : Int32) (t0 : Int32) : Option (Int32) := of_Tagged_lastHit_b5 4096 zs0 rw0 mk0 n1 f1 pl hs (t0 - 1)
set_option maxHeartbeats 4000000 in
set_option maxRecDepth 100000 in
theorem c_Tagged_lastHit (l : Launch) (dC : Nat → ClassId) (dI : Nat → Nat → Nat) (cA : ClassId × ClassId × ClassId) (h0 : Nat) (b1 : Nat) (a0 : Nat) (a1 : Nat) (a2 : Nat) (a3 : Nat) (zs0 : Int32) (rw0 : Int32) (mk0 : Int32) (n0 : Nat) (f0 : Nat → Int32) (n1 : Nat) (f1 : Nat → Int32) (n2 : Nat) (f2 : Nat → Int32) (n3 : Nat) (f3 : Nat → Int32) (pl : Int32) (hs : Int32) (t0 : Int32) (hn0 : n0 < 2147483648) (hn1 : n1 < 2147483648) (hn2 : n2 < 2147483648) (hn3 : n3 < 2147483648) (rs0 : Int32) (hfn : (of_Tagged_lastHit zs0 rw0 mk0 n1 f1 pl hs t0) = some (rs0)) : Met l yTagged_lastHit wTagged_lastHit ({ frames := 3, cells := 0, slots := 0, locals := 70 }) (va_Pc [.ref h0, .int pl, .int hs, .int t0] (Rd (dC, dI) cA [(h0, .inr (8, [.int zs0, .int rw0, .int mk0, .ref b1, .ref a1, .ref a2, .ref a3])), (b1, .inr (3, [.int zs0, .int rw0, .int mk0, .int (bI false), .ref a0])), (a0, .inl (cA.1, n0, .inl f0)), (a1, .inl (cA.1, n1, .inl f1)), (a2, .inl (cA.1, n2, .inl f2)), (a3, .inl (cA.1, n3, .inl f3))])) (QcRead rs0) 0 0 (fun _ => False) := by
  refine Met.ofW (cc := cTagged_lastHit) (maxL := 5) (ret := (some .int)) (by decide) rfl ?_
  intro p e s m args below meth c s₁ B hml hv
  obtain ⟨rfl, hN, hP, hK⟩ := hv
  have hx := B.exec
  have hb := B.bytes
  have hr := B.returns
  have hts := atoms_spec (ws := wTagged_lastHit) B.pre
  have htg : ∀ w ∈ GW, w.before _ s = true := fun w h => hts w (List.mem_cons_of_mem _ h)
  have hown : s.vm.findClass R_Tagged = some m.cls := findClass_of_methodNamed B.named
  have hlocks := B.notSynchronized
  have blk5 : ∀ n : Nat, ∀ (rs0 : Int32) (v4_b5 : Int32) (ls : Array Slot), of_Tagged_lastHit_b5 n zs0 rw0 mk0 n1 f1 pl hs v4_b5 = some (rs0) → lv_has ls 5 [(0, .ref h0), (1, .int pl), (2, .int hs), (4, .int v4_b5)] → W p l e (headSpec wTagged_lastHit ({ frames := 3, cells := 0, slots := 0, locals := 70 })).room s m ([.ref h0, .int pl, .int hs, .int t0] : List Value).toArray below meth c s.heap [] 0 0 (MQ below (QcRead rs0) ([.ref h0, .int pl, .int hs, .int t0] : List Value).toArray s 0 0 (fun _ => False)) (F0 m 5 ls []) := by
    intro n
    induction n with
    | zero =>
      intro rs0 v4_b5 ls hfn hl
      exact absurd hfn (by intro h; cases h)
    | succ n ih =>
      intro rs0 v4_b5 ls hfn hl
      unfold of_Tagged_lastHit_b5 at hfn
      refine lv_iload hx hb dTagged_lastHit_5 (lv_at hl 3 rfl) ?_
      refine lv_if_lt (tgt := 45) hx hb dTagged_lastHit_7 (by decide) (fun c_1 => ?_) (fun c_1 => ?_)
      · rw [if_pos c_1] at hfn
        refine lv_iconst (v := (-1)) hx hb dTagged_lastHit_45 (by decide) ?_
        replace hfn := Option.some.inj hfn
        subst hfn
        exact W.iret hx hb hr (fun t ht hW => ⟨rfl, ht⟩) (fun _ h => by cases h) dTagged_lastHit_46
      · rw [if_neg c_1] at hfn
        refine lv_aload_n hx hb dTagged_lastHit_10 rfl (lv_at hl 0 rfl) ?_
        refine va_get (D := (dC, dI)) (ci := 8) (v := .ref a1) (C := R_Tagged) (T := T_Tagged) (N := 7) hx hb htg in_Tagged hown hK hP 0 rfl rfl 4 (by decide) (htg _ wd_161) (fun _ h9 => h9) rfl dTagged_lastHit_11 ?_
        refine lv_aload_n hx hb dTagged_lastHit_14 rfl (lv_at hl 0 rfl) ?_
        refine lv_iload hx hb dTagged_lastHit_15 (lv_at hl 3 rfl) ?_
        refine lv_iload_n hx hb dTagged_lastHit_17 rfl (lv_at hl 1 rfl) ?_
        refine lv_iload_n hx hb dTagged_lastHit_18 rfl (lv_at hl 2 rfl) ?_
        obtain ⟨z_2, hz_2, hfn⟩ := ob hfn
        refine rd_V (As := [.int v4_b5, .int pl, .int hs]) (rest := [.ref a1]) ⟨hx, hb, hml, hown, htg⟩ (c_Tagged_cellOf l dC dI cA h0 b1 a0 a1 a2 a3 zs0 rw0 mk0 n0 f0 n1 f1 n2 f2 n3 f3 v4_b5 pl hs hn0 hn1 hn2 hn3 z_2 hz_2) (cw_V htg wd_409 ws_7 qTagged_cellOf iTagged_cellOf kTagged_cellOf pTagged_cellOf rfl rfl ⟨Nat.le_of_ble_eq_true rfl, Nat.le_of_ble_eq_true rfl⟩) (va_recv hK hP (ci := 8) (q0 := 0) rfl rfl) hN (hP.sub [0, 1, 2, 3, 4, 5] rfl) hK rfl hl.1 rfl (Nat.le_of_ble_eq_true rfl) dTagged_lastHit_19 ⟨Nat.le_of_ble_eq_true rfl, Nat.le_of_ble_eq_true rfl⟩ ?_
        refine rd_SN (As := [.ref a1, .int z_2]) (rest := []) ⟨hx, hb, hml, hown, htg⟩ (c_PK_at l dC dI cA a1 n1 f1 z_2 hn1) (cw_SN htg hN wn_419 qPK_at iPK_at kPK_at pPK_at rfl rfl ⟨Nat.le_of_ble_eq_true rfl, Nat.le_of_ble_eq_true rfl⟩) hN (hP.sub [3] rfl) hK rfl hl.1 rfl (Nat.le_of_ble_eq_true rfl) dTagged_lastHit_22 ⟨Nat.le_of_ble_eq_true rfl, Nat.le_of_ble_eq_true rfl⟩ ?_
        refine lv_aload_n hx hb dTagged_lastHit_25 rfl (lv_at hl 0 rfl) ?_
        refine lv_iload hx hb dTagged_lastHit_26 (lv_at hl 3 rfl) ?_
        refine lv_iload_n hx hb dTagged_lastHit_28 rfl (lv_at hl 1 rfl) ?_
        refine lv_iload_n hx hb dTagged_lastHit_29 rfl (lv_at hl 2 rfl) ?_
        obtain ⟨z_3, hz_3, hfn⟩ := ob hfn
        refine rd_V (As := [.int v4_b5, .int pl, .int hs]) (rest := [.int (tf_PK_at n1 f1 z_2)]) ⟨hx, hb, hml, hown, htg⟩ (c_Tagged_tagOf l dC dI cA h0 b1 a0 a1 a2 a3 zs0 rw0 mk0 n0 f0 n1 f1 n2 f2 n3 f3 v4_b5 pl hs hn0 hn1 hn2 hn3 z_3 hz_3) (cw_V htg wd_420 ws_8 qTagged_tagOf iTagged_tagOf kTagged_tagOf pTagged_tagOf rfl rfl ⟨Nat.le_of_ble_eq_true rfl, Nat.le_of_ble_eq_true rfl⟩) (va_recv hK hP (ci := 8) (q0 := 0) rfl rfl) hN (hP.sub [0, 1, 2, 3, 4, 5] rfl) hK rfl hl.1 rfl (Nat.le_of_ble_eq_true rfl) dTagged_lastHit_30 ⟨Nat.le_of_ble_eq_true rfl, Nat.le_of_ble_eq_true rfl⟩ ?_
        refine lv_icmp_ne (tgt := 39) hx hb dTagged_lastHit_33 (by decide) (fun c_4 => ?_) (fun c_4 => ?_)
        · rw [if_neg c_4] at hfn
          refine lv_iinc (v := (v4_b5 + (-1))) (lv' := [(4, .int (v4_b5 + (-1))), (0, .ref h0), (1, .int pl), (2, .int hs)]) hx hb dTagged_lastHit_39 hl (k := 3) rfl rfl (by decide) rfl (fun ls hl => ?_)
          refine lv_goto (tgt := 5) hx hb dTagged_lastHit_42 (by decide) ?_
          exact ih _ (v4_b5 + (-1)) ls hfn (lv_sub hl [1, 2, 3, 0] rfl)
        · rw [if_pos c_4] at hfn
          refine lv_iload hx hb dTagged_lastHit_36 (lv_at hl 3 rfl) ?_
          replace hfn := Option.some.inj hfn
          subst hfn
          exact W.iret hx hb hr (fun t ht hW => ⟨rfl, ht⟩) (fun _ h => by cases h) dTagged_lastHit_38
  have hl := lv_entry ([.ref h0, .int pl, .int hs, .int t0]) (n := 5) (Nat.le_of_ble_eq_true rfl)
  rw [lg_entry_eq]
  generalize (lg_sl ([.ref h0, .int pl, .int hs, .int t0]) ++ List.replicate (5 - (lg_sl ([.ref h0, .int pl, .int hs, .int t0])).length) Slot.unset).toArray = ls at hl ⊢
  have hl : lv_has ls 5 [(0, .ref h0), (1, .int pl), (2, .int hs), (3, .int t0)] := hl
  unfold of_Tagged_lastHit at hfn
  refine lv_iload_n hx hb dTagged_lastHit_0 rfl (lv_at hl 3 rfl) ?_
  refine lv_iconst (v := 1) hx hb dTagged_lastHit_1 (by decide) ?_
  refine lv_isub hx hb dTagged_lastHit_2 ?_
  refine lv_istore (lv' := [(4, .int (t0 - 1)), (0, .ref h0), (1, .int pl), (2, .int hs), (3, .int t0)]) hx hb dTagged_lastHit_3 hl (by decide) rfl (fun ls hl => ?_)
  exact blk5 4096 _ (t0 - 1) ls hfn (lv_sub hl [1, 2, 3, 0] rfl)
def of_Tagged_saidBy (zs0 : Int32) (rw0 : Int32) (mk0 : Int32) (n0 : Nat) (f0 : Nat → Int32) (n2 : Nat) (f2 : Nat → Int32) (t0 : Int32) (pl : Int32) (hs : Int32) : Option (Bool) := (if 0 ≤ t0 then ((of_Tagged_cellOf zs0 rw0 mk0 t0 pl hs).bind fun z_2 => (if (tf_PK_at n2 f2 z_2) < 0 then some (false) else some (true))) else some ((tf_Counters_says zs0 mk0 false n0 f0 pl hs)))
set_option maxHeartbeats 4000000 in
set_option maxRecDepth 100000 in
theorem c_Tagged_saidBy (l : Launch) (dC : Nat → ClassId) (dI : Nat → Nat → Nat) (cA : ClassId × ClassId × ClassId) (h0 : Nat) (b1 : Nat) (a0 : Nat) (a1 : Nat) (a2 : Nat) (a3 : Nat) (zs0 : Int32) (rw0 : Int32) (mk0 : Int32) (n0 : Nat) (f0 : Nat → Int32) (n1 : Nat) (f1 : Nat → Int32) (n2 : Nat) (f2 : Nat → Int32) (n3 : Nat) (f3 : Nat → Int32) (t0 : Int32) (pl : Int32) (hs : Int32) (hn0 : n0 < 2147483648) (hn1 : n1 < 2147483648) (hn2 : n2 < 2147483648) (hn3 : n3 < 2147483648) (rs0 : Bool) (hfn : (of_Tagged_saidBy zs0 rw0 mk0 n0 f0 n2 f2 t0 pl hs) = some (rs0)) : Met l yTagged_saidBy wTagged_saidBy ({ frames := 3, cells := 0, slots := 0, locals := 70 }) (va_Pc [.ref h0, .int t0, .int pl, .int hs] (Rd (dC, dI) cA [(h0, .inr (8, [.int zs0, .int rw0, .int mk0, .ref b1, .ref a1, .ref a2, .ref a3])), (b1, .inr (3, [.int zs0, .int rw0, .int mk0, .int (bI false), .ref a0])), (a0, .inl (cA.1, n0, .inl f0)), (a1, .inl (cA.1, n1, .inl f1)), (a2, .inl (cA.1, n2, .inl f2)), (a3, .inl (cA.1, n3, .inl f3))])) (QcRead (bI rs0)) 0 0 (fun _ => False) := by
  refine Met.ofW (cc := cTagged_saidBy) (maxL := 4) (ret := (some .boolean)) (by decide) rfl ?_
  intro p e s m args below meth c s₁ B hml hv
  obtain ⟨rfl, hN, hP, hK⟩ := hv
  have hx := B.exec
  have hb := B.bytes
  have hr := B.returns
  have hts := atoms_spec (ws := wTagged_saidBy) B.pre
  have htg : ∀ w ∈ GW, w.before _ s = true := fun w h => hts w (List.mem_cons_of_mem _ h)
  have hown : s.vm.findClass R_Tagged = some m.cls := findClass_of_methodNamed B.named
  have hlocks := B.notSynchronized
  have hl := lv_entry ([.ref h0, .int t0, .int pl, .int hs]) (n := 4) (Nat.le_of_ble_eq_true rfl)
  rw [lg_entry_eq]
  generalize (lg_sl ([.ref h0, .int t0, .int pl, .int hs]) ++ List.replicate (4 - (lg_sl ([.ref h0, .int t0, .int pl, .int hs])).length) Slot.unset).toArray = ls at hl ⊢
  have hl : lv_has ls 4 [(0, .ref h0), (1, .int t0), (2, .int pl), (3, .int hs)] := hl
  unfold of_Tagged_saidBy at hfn
  refine lv_iload_n hx hb dTagged_saidBy_0 rfl (lv_at hl 1 rfl) ?_
  refine lv_if_ge (tgt := 16) hx hb dTagged_saidBy_1 (by decide) (fun c_1 => ?_) (fun c_1 => ?_)
  · rw [if_pos c_1] at hfn
    refine lv_aload_n hx hb dTagged_saidBy_16 rfl (lv_at hl 0 rfl) ?_
    refine va_get (D := (dC, dI)) (ci := 8) (v := .ref a2) (C := R_Tagged) (T := T_Tagged) (N := 7) hx hb htg in_Tagged hown hK hP 0 rfl rfl 5 (by decide) (htg _ wd_162) (fun _ h9 => h9) rfl dTagged_saidBy_17 ?_
    refine lv_aload_n hx hb dTagged_saidBy_20 rfl (lv_at hl 0 rfl) ?_
    refine lv_iload_n hx hb dTagged_saidBy_21 rfl (lv_at hl 1 rfl) ?_
    refine lv_iload_n hx hb dTagged_saidBy_22 rfl (lv_at hl 2 rfl) ?_
    refine lv_iload_n hx hb dTagged_saidBy_23 rfl (lv_at hl 3 rfl) ?_
    obtain ⟨z_2, hz_2, hfn⟩ := ob hfn
    refine rd_V (As := [.int t0, .int pl, .int hs]) (rest := [.ref a2]) ⟨hx, hb, hml, hown, htg⟩ (c_Tagged_cellOf l dC dI cA h0 b1 a0 a1 a2 a3 zs0 rw0 mk0 n0 f0 n1 f1 n2 f2 n3 f3 t0 pl hs hn0 hn1 hn2 hn3 z_2 hz_2) (cw_V htg wd_409 ws_7 qTagged_cellOf iTagged_cellOf kTagged_cellOf pTagged_cellOf rfl rfl ⟨Nat.le_of_ble_eq_true rfl, Nat.le_of_ble_eq_true rfl⟩) (va_recv hK hP (ci := 8) (q0 := 0) rfl rfl) hN (hP.sub [0, 1, 2, 3, 4, 5] rfl) hK rfl hl.1 rfl (Nat.le_of_ble_eq_true rfl) dTagged_saidBy_24 ⟨Nat.le_of_ble_eq_true rfl, Nat.le_of_ble_eq_true rfl⟩ ?_
    refine rd_SN (As := [.ref a2, .int z_2]) (rest := []) ⟨hx, hb, hml, hown, htg⟩ (c_PK_at l dC dI cA a2 n2 f2 z_2 hn2) (cw_SN htg hN wn_419 qPK_at iPK_at kPK_at pPK_at rfl rfl ⟨Nat.le_of_ble_eq_true rfl, Nat.le_of_ble_eq_true rfl⟩) hN (hP.sub [4] rfl) hK rfl hl.1 rfl (Nat.le_of_ble_eq_true rfl) dTagged_saidBy_27 ⟨Nat.le_of_ble_eq_true rfl, Nat.le_of_ble_eq_true rfl⟩ ?_
    refine lv_if_lt (tgt := 37) hx hb dTagged_saidBy_30 (by decide) (fun c_3 => ?_) (fun c_3 => ?_)
    · rw [if_pos c_3] at hfn
      refine lv_iconst (v := 0) hx hb dTagged_saidBy_37 (by decide) ?_
      replace hfn := Option.some.inj hfn
      subst hfn
      exact W.zret hx hb hr rfl (fun t ht hW => ⟨rfl, ht⟩) (fun _ h => by cases h) dTagged_saidBy_38
    · rw [if_neg c_3] at hfn
      refine lv_iconst (v := 1) hx hb dTagged_saidBy_33 (by decide) ?_
      refine lv_goto (tgt := 38) hx hb dTagged_saidBy_34 (by decide) ?_
      replace hfn := Option.some.inj hfn
      subst hfn
      exact W.zret hx hb hr rfl (fun t ht hW => ⟨rfl, ht⟩) (fun _ h => by cases h) dTagged_saidBy_38
  · rw [if_neg c_1] at hfn
    refine lv_aload_n hx hb dTagged_saidBy_4 rfl (lv_at hl 0 rfl) ?_
    refine va_get (D := (dC, dI)) (ci := 8) (v := .ref b1) (C := R_Tagged) (T := T_Tagged) (N := 7) hx hb htg in_Tagged hown hK hP 0 rfl rfl 3 (by decide) (htg _ wd_160) (fun _ h9 => h9) rfl dTagged_saidBy_5 ?_
    refine lv_iload_n hx hb dTagged_saidBy_8 rfl (lv_at hl 2 rfl) ?_
    refine lv_iload_n hx hb dTagged_saidBy_9 rfl (lv_at hl 3 rfl) ?_
    refine rd_V (As := [.int pl, .int hs]) (rest := []) ⟨hx, hb, hml, hown, htg⟩ (c_Counters_says l dC dI cA b1 a0 zs0 rw0 mk0 false n0 f0 pl hs hn0) (cw_V htg wd_428 wd_327 qCounters_says iCounters_says kCounters_says pCounters_says rfl rfl ⟨Nat.le_of_ble_eq_true rfl, Nat.le_of_ble_eq_true rfl⟩) (va_recv hK hP (ci := 3) (q0 := 1) rfl rfl) hN (hP.sub [1, 2] rfl) hK rfl hl.1 rfl (Nat.le_of_ble_eq_true rfl) dTagged_saidBy_10 ⟨Nat.le_of_ble_eq_true rfl, Nat.le_of_ble_eq_true rfl⟩ ?_
    refine lv_goto (tgt := 38) hx hb dTagged_saidBy_13 (by decide) ?_
    replace hfn := Option.some.inj hfn
    subst hfn
    exact W.zret hx hb hr (nar_bI _) (fun t ht hW => ⟨rfl, ht⟩) (fun _ h => by cases h) dTagged_saidBy_38
def of_Tagged_learnHit (zs0 : Int32) (rw0 : Int32) (mk0 : Int32) (n0 : Nat) (f0 : Nat → Int32) (n1 : Nat) (f1 : Nat → Int32) (n2 : Nat) (f2 : Nat → Int32) (n3 : Nat) (f3 : Nat → Int32) (t0 : Int32) (pl : Int32) (hs : Int32) (tk : Bool) : Option ((Nat → Int32) × (Nat → Int32)) := ((of_Tagged_cellOf zs0 rw0 mk0 t0 pl hs).bind fun z_1 => ((of_Tagged_saidBy zs0 rw0 mk0 n0 f0 n2 f2 t0 pl hs).bind fun z_2 => ((of_Tagged_lastHit zs0 rw0 mk0 n1 f1 pl hs t0).bind fun z_3 => ((of_Tagged_saidBy zs0 rw0 mk0 n0 f0 n2 f2 z_3 pl hs).bind fun z_4 => (if (bI z_2) = (bI z_4) then some (((tf_PK_step n2 f2 z_1 tk (-4) 3)), f3) else (if (bI z_2) = (bI tk) then some (((tf_PK_step n2 f2 z_1 tk (-4) 3)), ((tf_PK_step n3 f3 z_1 true 0 3))) else some (((tf_PK_step n2 f2 z_1 tk (-4) 3)), ((tf_PK_step n3 f3 z_1 false 0 3)))))))))
set_option maxHeartbeats 4000000 in
set_option maxRecDepth 100000 in
theorem c_Tagged_learnHit (l : Launch) (dC : Nat → ClassId) (dI : Nat → Nat → Nat) (cA : ClassId × ClassId × ClassId) (zz : Nat) (h0 : Nat) (b1 : Nat) (a0 : Nat) (a1 : Nat) (a2 : Nat) (a3 : Nat) (zs0 : Int32) (rw0 : Int32) (mk0 : Int32) (n0 : Nat) (f0 : Nat → Int32) (n1 : Nat) (f1 : Nat → Int32) (n2 : Nat) (f2 : Nat → Int32) (n3 : Nat) (f3 : Nat → Int32) (t0 : Int32) (pl : Int32) (hs : Int32) (tk : Bool) (hn0 : n0 < 2147483648) (hn1 : n1 < 2147483648) (hn2 : n2 < 2147483648) (hn3 : n3 < 2147483648) (rs0 : (Nat → Int32)) (rs1 : (Nat → Int32)) (hfn : (of_Tagged_learnHit zs0 rw0 mk0 n0 f0 n1 f1 n2 f2 n3 f3 t0 pl hs tk) = some (rs0, rs1)) : Met l yTagged_learnHit wTagged_learnHit ({ frames := 4, cells := 0, slots := 0, locals := 94 }) (va_Pc [.ref h0, .int t0, .int pl, .int hs, .int (bI tk)] (Wr (dC, dI) cA zz [(h0, .inr (8, [.int zs0, .int rw0, .int mk0, .ref b1, .ref a1, .ref a2, .ref a3])), (b1, .inr (3, [.int zs0, .int rw0, .int mk0, .int (bI false), .ref a0])), (a0, .inl (cA.1, n0, .inl f0)), (a1, .inl (cA.1, n1, .inl f1)), (a2, .inl (cA.1, n2, .inl f2)), (a3, .inl (cA.1, n3, .inl f3))])) (va_Qv (fun w9 => w9 = [(h0, .inr (8, [.int zs0, .int rw0, .int mk0, .ref b1, .ref a1, .ref a2, .ref a3])), (b1, .inr (3, [.int zs0, .int rw0, .int mk0, .int (bI false), .ref a0])), (a0, .inl (cA.1, n0, .inl f0)), (a1, .inl (cA.1, n1, .inl f1)), (a2, .inl (cA.1, n2, .inl rs0)), (a3, .inl (cA.1, n3, .inl rs1))]) (At (dC, dI) cA (va_A [(h0, .inr (8, [.int zs0, .int rw0, .int mk0, .ref b1, .ref a1, .ref a2, .ref a3])), (b1, .inr (3, [.int zs0, .int rw0, .int mk0, .int (bI false), .ref a0])), (a0, .inl (cA.1, n0, .inl f0)), (a1, .inl (cA.1, n1, .inl f1)), (a2, .inl (cA.1, n2, .inl f2)), (a3, .inl (cA.1, n3, .inl f3))] zz)) (va_A [(h0, .inr (8, [.int zs0, .int rw0, .int mk0, .ref b1, .ref a1, .ref a2, .ref a3])), (b1, .inr (3, [.int zs0, .int rw0, .int mk0, .int (bI false), .ref a0])), (a0, .inl (cA.1, n0, .inl f0)), (a1, .inl (cA.1, n1, .inl f1)), (a2, .inl (cA.1, n2, .inl f2)), (a3, .inl (cA.1, n3, .inl f3))] zz)) 0 0 (va_A [(h0, .inr (8, [.int zs0, .int rw0, .int mk0, .ref b1, .ref a1, .ref a2, .ref a3])), (b1, .inr (3, [.int zs0, .int rw0, .int mk0, .int (bI false), .ref a0])), (a0, .inl (cA.1, n0, .inl f0)), (a1, .inl (cA.1, n1, .inl f1)), (a2, .inl (cA.1, n2, .inl f2)), (a3, .inl (cA.1, n3, .inl f3))] zz) := by
  refine Met.ofW (cc := cTagged_learnHit) (maxL := 8) (ret := none) (by decide) rfl ?_
  intro p e s m args below meth c s₁ B hml hv
  obtain ⟨rfl, hsz, hN, hP, hK, hD0⟩ := hv
  have hx := B.exec
  have hb := B.bytes
  have hr := B.returns
  have hts := atoms_spec (ws := wTagged_learnHit) B.pre
  have htg : ∀ w ∈ GW, w.before _ s = true := fun w h => hts w (List.mem_cons_of_mem _ h)
  have hown : s.vm.findClass R_Tagged = some m.cls := findClass_of_methodNamed B.named
  have hlocks := B.notSynchronized
  subst hsz
  have hD := hD0.self (sz := s.heap.size)
  generalize hAe : va_A [(h0, .inr (8, [.int zs0, .int rw0, .int mk0, .ref b1, .ref a1, .ref a2, .ref a3])), (b1, .inr (3, [.int zs0, .int rw0, .int mk0, .int (bI false), .ref a0])), (a0, .inl (cA.1, n0, .inl f0)), (a1, .inl (cA.1, n1, .inl f1)), (a2, .inl (cA.1, n2, .inl f2)), (a3, .inl (cA.1, n3, .inl f3))] s.heap.size = A at hD ⊢
  have hA : ∀ q : Nat, s.heap.size ≤ q → A q := fun q h => by rw [← hAe]; exact Or.inr h
  have hS : va_S A s.heap s.heap [] := va_S.rf
  have hP : va_P (dC, dI) vwCl [(h0, .inr (8, [.int zs0, .int rw0, .int mk0, .ref b1, .ref a1, .ref a2, .ref a3])), (b1, .inr (3, [.int zs0, .int rw0, .int mk0, .int (bI false), .ref a0])), (a0, .inl (cA.1, n0, .inl f0)), (a1, .inl (cA.1, n1, .inl f1)), (a2, .inl (cA.1, n2, .inl f2)), (a3, .inl (cA.1, n3, .inl f3))] s.heap := hP
  have hl := lv_entry ([.ref h0, .int t0, .int pl, .int hs, .int (bI tk)]) (n := 8) (Nat.le_of_ble_eq_true rfl)
  rw [lg_entry_eq]
  generalize (lg_sl ([.ref h0, .int t0, .int pl, .int hs, .int (bI tk)]) ++ List.replicate (8 - (lg_sl ([.ref h0, .int t0, .int pl, .int hs, .int (bI tk)])).length) Slot.unset).toArray = ls at hl ⊢
  have hl : lv_has ls 8 [(0, .ref h0), (1, .int t0), (2, .int pl), (3, .int hs), (4, .int (bI tk))] := hl
  unfold of_Tagged_learnHit at hfn
  refine lv_aload_n hx hb dTagged_learnHit_0 rfl (lv_at hl 0 rfl) ?_
  refine lv_iload_n hx hb dTagged_learnHit_1 rfl (lv_at hl 1 rfl) ?_
  refine lv_iload_n hx hb dTagged_learnHit_2 rfl (lv_at hl 2 rfl) ?_
  refine lv_iload_n hx hb dTagged_learnHit_3 rfl (lv_at hl 3 rfl) ?_
  obtain ⟨z_1, hz_1, hfn⟩ := ob hfn
  refine rd_V (As := [.int t0, .int pl, .int hs]) (rest := []) ⟨hx, hb, hml, hown, htg⟩ (c_Tagged_cellOf l dC dI cA h0 b1 a0 a1 a2 a3 zs0 rw0 mk0 n0 f0 n1 f1 n2 f2 n3 f3 t0 pl hs hn0 hn1 hn2 hn3 z_1 hz_1) (cw_V htg wd_409 ws_7 qTagged_cellOf iTagged_cellOf kTagged_cellOf pTagged_cellOf rfl rfl ⟨Nat.le_of_ble_eq_true rfl, Nat.le_of_ble_eq_true rfl⟩) (va_recv hK hP (ci := 8) (q0 := 0) rfl rfl) hN (hP.sub [0, 1, 2, 3, 4, 5] rfl) hK rfl hl.1 rfl (Nat.le_of_ble_eq_true rfl) dTagged_learnHit_4 ⟨Nat.le_of_ble_eq_true rfl, Nat.le_of_ble_eq_true rfl⟩ ?_
  refine lv_istore (lv' := [(5, .int z_1), (0, .ref h0), (1, .int t0), (2, .int pl), (3, .int hs), (4, .int (bI tk))]) hx hb dTagged_learnHit_7 hl (by decide) rfl (fun ls hl => ?_)
  refine lv_aload_n hx hb dTagged_learnHit_9 rfl (lv_at hl 1 rfl) ?_
  refine lv_iload_n hx hb dTagged_learnHit_10 rfl (lv_at hl 2 rfl) ?_
  refine lv_iload_n hx hb dTagged_learnHit_11 rfl (lv_at hl 3 rfl) ?_
  refine lv_iload_n hx hb dTagged_learnHit_12 rfl (lv_at hl 4 rfl) ?_
  obtain ⟨z_2, hz_2, hfn⟩ := ob hfn
  refine rd_V (As := [.int t0, .int pl, .int hs]) (rest := []) ⟨hx, hb, hml, hown, htg⟩ (c_Tagged_saidBy l dC dI cA h0 b1 a0 a1 a2 a3 zs0 rw0 mk0 n0 f0 n1 f1 n2 f2 n3 f3 t0 pl hs hn0 hn1 hn2 hn3 z_2 hz_2) (cw_V htg wd_424 ws_9 qTagged_saidBy iTagged_saidBy kTagged_saidBy pTagged_saidBy rfl rfl ⟨Nat.le_of_ble_eq_true rfl, Nat.le_of_ble_eq_true rfl⟩) (va_recv hK hP (ci := 8) (q0 := 0) rfl rfl) hN (hP.sub [0, 1, 2, 3, 4, 5] rfl) hK rfl hl.1 rfl (Nat.le_of_ble_eq_true rfl) dTagged_learnHit_13 ⟨Nat.le_of_ble_eq_true rfl, Nat.le_of_ble_eq_true rfl⟩ ?_
  refine lv_istore (lv' := [(6, .int (bI z_2)), (5, .int z_1), (0, .ref h0), (1, .int t0), (2, .int pl), (3, .int hs), (4, .int (bI tk))]) hx hb dTagged_learnHit_16 hl (by decide) rfl (fun ls hl => ?_)
  refine lv_aload_n hx hb dTagged_learnHit_18 rfl (lv_at hl 2 rfl) ?_
  refine lv_aload_n hx hb dTagged_learnHit_19 rfl (lv_at hl 2 rfl) ?_
  refine lv_iload_n hx hb dTagged_learnHit_20 rfl (lv_at hl 4 rfl) ?_
  refine lv_iload_n hx hb dTagged_learnHit_21 rfl (lv_at hl 5 rfl) ?_
  refine lv_iload_n hx hb dTagged_learnHit_22 rfl (lv_at hl 3 rfl) ?_
  obtain ⟨z_3, hz_3, hfn⟩ := ob hfn
  refine rd_V (As := [.int pl, .int hs, .int t0]) (rest := [.ref h0]) ⟨hx, hb, hml, hown, htg⟩ (c_Tagged_lastHit l dC dI cA h0 b1 a0 a1 a2 a3 zs0 rw0 mk0 n0 f0 n1 f1 n2 f2 n3 f3 pl hs t0 hn0 hn1 hn2 hn3 z_3 hz_3) (cw_V htg wd_405 ws_6 qTagged_lastHit iTagged_lastHit kTagged_lastHit pTagged_lastHit rfl rfl ⟨Nat.le_of_ble_eq_true rfl, Nat.le_of_ble_eq_true rfl⟩) (va_recv hK hP (ci := 8) (q0 := 0) rfl rfl) hN (hP.sub [0, 1, 2, 3, 4, 5] rfl) hK rfl hl.1 rfl (Nat.le_of_ble_eq_true rfl) dTagged_learnHit_23 ⟨Nat.le_of_ble_eq_true rfl, Nat.le_of_ble_eq_true rfl⟩ ?_
  refine lv_iload_n hx hb dTagged_learnHit_26 rfl (lv_at hl 4 rfl) ?_
  refine lv_iload_n hx hb dTagged_learnHit_27 rfl (lv_at hl 5 rfl) ?_
  obtain ⟨z_4, hz_4, hfn⟩ := ob hfn
  refine rd_V (As := [.int z_3, .int pl, .int hs]) (rest := []) ⟨hx, hb, hml, hown, htg⟩ (c_Tagged_saidBy l dC dI cA h0 b1 a0 a1 a2 a3 zs0 rw0 mk0 n0 f0 n1 f1 n2 f2 n3 f3 z_3 pl hs hn0 hn1 hn2 hn3 z_4 hz_4) (cw_V htg wd_424 ws_9 qTagged_saidBy iTagged_saidBy kTagged_saidBy pTagged_saidBy rfl rfl ⟨Nat.le_of_ble_eq_true rfl, Nat.le_of_ble_eq_true rfl⟩) (va_recv hK hP (ci := 8) (q0 := 0) rfl rfl) hN (hP.sub [0, 1, 2, 3, 4, 5] rfl) hK rfl hl.1 rfl (Nat.le_of_ble_eq_true rfl) dTagged_learnHit_28 ⟨Nat.le_of_ble_eq_true rfl, Nat.le_of_ble_eq_true rfl⟩ ?_
  refine lv_istore (lv' := [(7, .int (bI z_4)), (6, .int (bI z_2)), (5, .int z_1), (0, .ref h0), (1, .int t0), (2, .int pl), (3, .int hs), (4, .int (bI tk))]) hx hb dTagged_learnHit_31 hl (by decide) rfl (fun ls hl => ?_)
  refine lv_aload_n hx hb dTagged_learnHit_33 rfl (lv_at hl 3 rfl) ?_
  refine va_get (D := (dC, dI)) (ci := 8) (v := .ref a2) (C := R_Tagged) (T := T_Tagged) (N := 7) hx hb htg in_Tagged hown hK hP 0 rfl rfl 5 (by decide) (htg _ wd_162) (fun _ h9 => h9) rfl dTagged_learnHit_34 ?_
  refine lv_iload hx hb dTagged_learnHit_37 (lv_at hl 2 rfl) ?_
  refine lv_iload hx hb dTagged_learnHit_39 (lv_at hl 7 rfl) ?_
  refine lv_bipush (v := (-4)) hx hb dTagged_learnHit_41 (by decide) ?_
  refine lv_iconst (v := 3) hx hb dTagged_learnHit_43 (by decide) ?_
  refine wr_SNv (wr := [(h0, .inr (8, [.int zs0, .int rw0, .int mk0, .ref b1, .ref a1, .ref a2, .ref a3])), (b1, .inr (3, [.int zs0, .int rw0, .int mk0, .int (bI false), .ref a0])), (a0, .inl (cA.1, n0, .inl f0)), (a1, .inl (cA.1, n1, .inl f1)), (a3, .inl (cA.1, n3, .inl f3))]) (As := [.ref a2, .int z_1, .int (bI tk), .int (-4), .int 3]) (rest := []) ⟨hx, hb, hml, hown, htg⟩ (c_PK_step l dC dI cA _ a2 n2 f2 z_1 tk (-4) 3 hn2) (cw_SN htg hN wn_531 qPK_step iPK_step kPK_step pPK_step rfl rfl ⟨Nat.le_of_ble_eq_true rfl, Nat.le_of_ble_eq_true rfl⟩) hN hP hD hS hA hK [4] [0, 1, 2, 3, 5] rfl rfl (by decide) (by decide) (by decide) rfl hl.1 rfl (Nat.le_of_ble_eq_true rfl) dTagged_learnHit_44 ⟨Nat.le_of_ble_eq_true rfl, Nat.le_of_ble_eq_true rfl⟩ (fun H locs hP hD hS => ?_)
  have hP : va_P (dC, dI) vwCl [(h0, .inr (8, [.int zs0, .int rw0, .int mk0, .ref b1, .ref a1, .ref a2, .ref a3])), (b1, .inr (3, [.int zs0, .int rw0, .int mk0, .int (bI false), .ref a0])), (a0, .inl (cA.1, n0, .inl f0)), (a1, .inl (cA.1, n1, .inl f1)), (a3, .inl (cA.1, n3, .inl f3)), (a2, .inl (cA.1, n2, .inl ((tf_PK_step n2 f2 z_1 tk (-4) 3))))] H := hP
  have hD : va_D A [(h0, .inr (8, [.int zs0, .int rw0, .int mk0, .ref b1, .ref a1, .ref a2, .ref a3])), (b1, .inr (3, [.int zs0, .int rw0, .int mk0, .int (bI false), .ref a0])), (a0, .inl (cA.1, n0, .inl f0)), (a1, .inl (cA.1, n1, .inl f1)), (a3, .inl (cA.1, n3, .inl f3)), (a2, .inl (cA.1, n2, .inl ((tf_PK_step n2 f2 z_1 tk (-4) 3))))] := hD
  refine lv_iload hx hb dTagged_learnHit_47 (lv_at hl 1 rfl) ?_
  refine lv_iload hx hb dTagged_learnHit_49 (lv_at hl 0 rfl) ?_
  refine lv_icmp_eq (tgt := 77) hx hb dTagged_learnHit_51 (by decide) (fun c_5 => ?_) (fun c_5 => ?_)
  · rw [if_pos c_5] at hfn
    replace hfn := Option.some.inj hfn
    obtain ⟨e9, hf_0⟩ := Prod.mk.inj hfn; clear hfn; subst e9
    subst hf_0
    exact W.vret hx hb hr (fun t ht hW => ⟨⟨_, rfl, rfl, ⟨by rw [ht]; exact hP.sub [0, 1, 2, 3, 5, 4] rfl, va_K.moved hW.alike hK, hD.sub [0, 1, 2, 3, 5, 4] (by decide) rfl⟩⟩, hS.F ht⟩) hS.2.2 dTagged_learnHit_77
  · rw [if_neg c_5] at hfn
    refine lv_aload_n hx hb dTagged_learnHit_54 rfl (lv_at hl 3 rfl) ?_
    refine va_get (D := (dC, dI)) (ci := 8) (v := .ref a3) (C := R_Tagged) (T := T_Tagged) (N := 7) hx hb htg in_Tagged hown hK hP 0 rfl rfl 6 (by decide) (htg _ wd_163) (fun _ h9 => h9) rfl dTagged_learnHit_55 ?_
    refine lv_iload hx hb dTagged_learnHit_58 (lv_at hl 2 rfl) ?_
    refine lv_iload hx hb dTagged_learnHit_60 (lv_at hl 1 rfl) ?_
    refine lv_iload hx hb dTagged_learnHit_62 (lv_at hl 7 rfl) ?_
    refine lv_icmp_ne (tgt := 71) hx hb dTagged_learnHit_64 (by decide) (fun c_6 => ?_) (fun c_6 => ?_)
    · rw [if_neg c_6] at hfn
      refine lv_iconst (v := 0) hx hb dTagged_learnHit_71 (by decide) ?_
      refine lv_iconst (v := 0) hx hb dTagged_learnHit_72 (by decide) ?_
      refine lv_iconst (v := 3) hx hb dTagged_learnHit_73 (by decide) ?_
      refine wr_SNv (wr := [(h0, .inr (8, [.int zs0, .int rw0, .int mk0, .ref b1, .ref a1, .ref a2, .ref a3])), (b1, .inr (3, [.int zs0, .int rw0, .int mk0, .int (bI false), .ref a0])), (a0, .inl (cA.1, n0, .inl f0)), (a1, .inl (cA.1, n1, .inl f1)), (a2, .inl (cA.1, n2, .inl ((tf_PK_step n2 f2 z_1 tk (-4) 3))))]) (As := [.ref a3, .int z_1, .int 0, .int 0, .int 3]) (rest := []) ⟨hx, hb, hml, hown, htg⟩ (c_PK_step l dC dI cA _ a3 n3 f3 z_1 false 0 3 hn3) (cw_SN htg hN wn_531 qPK_step iPK_step kPK_step pPK_step rfl rfl ⟨Nat.le_of_ble_eq_true rfl, Nat.le_of_ble_eq_true rfl⟩) hN hP hD hS hA hK [4] [0, 1, 2, 3, 5] rfl rfl (by decide) (by decide) (by decide) rfl hl.1 rfl (Nat.le_of_ble_eq_true rfl) dTagged_learnHit_74 ⟨Nat.le_of_ble_eq_true rfl, Nat.le_of_ble_eq_true rfl⟩ (fun H locs hP hD hS => ?_)
      have hP : va_P (dC, dI) vwCl [(h0, .inr (8, [.int zs0, .int rw0, .int mk0, .ref b1, .ref a1, .ref a2, .ref a3])), (b1, .inr (3, [.int zs0, .int rw0, .int mk0, .int (bI false), .ref a0])), (a0, .inl (cA.1, n0, .inl f0)), (a1, .inl (cA.1, n1, .inl f1)), (a2, .inl (cA.1, n2, .inl ((tf_PK_step n2 f2 z_1 tk (-4) 3)))), (a3, .inl (cA.1, n3, .inl ((tf_PK_step n3 f3 z_1 false 0 3))))] H := hP
      have hD : va_D A [(h0, .inr (8, [.int zs0, .int rw0, .int mk0, .ref b1, .ref a1, .ref a2, .ref a3])), (b1, .inr (3, [.int zs0, .int rw0, .int mk0, .int (bI false), .ref a0])), (a0, .inl (cA.1, n0, .inl f0)), (a1, .inl (cA.1, n1, .inl f1)), (a2, .inl (cA.1, n2, .inl ((tf_PK_step n2 f2 z_1 tk (-4) 3)))), (a3, .inl (cA.1, n3, .inl ((tf_PK_step n3 f3 z_1 false 0 3))))] := hD
      replace hfn := Option.some.inj hfn
      obtain ⟨e9, hf_0⟩ := Prod.mk.inj hfn; clear hfn; subst e9
      subst hf_0
      exact W.vret hx hb hr (fun t ht hW => ⟨⟨_, rfl, rfl, ⟨by rw [ht]; exact hP.sub [0, 1, 2, 3, 4, 5] rfl, va_K.moved hW.alike hK, hD.sub [0, 1, 2, 3, 4, 5] (by decide) rfl⟩⟩, hS.F ht⟩) hS.2.2 dTagged_learnHit_77
    · rw [if_pos c_6] at hfn
      refine lv_iconst (v := 1) hx hb dTagged_learnHit_67 (by decide) ?_
      refine lv_goto (tgt := 72) hx hb dTagged_learnHit_68 (by decide) ?_
      refine lv_iconst (v := 0) hx hb dTagged_learnHit_72 (by decide) ?_
      refine lv_iconst (v := 3) hx hb dTagged_learnHit_73 (by decide) ?_
      refine wr_SNv (wr := [(h0, .inr (8, [.int zs0, .int rw0, .int mk0, .ref b1, .ref a1, .ref a2, .ref a3])), (b1, .inr (3, [.int zs0, .int rw0, .int mk0, .int (bI false), .ref a0])), (a0, .inl (cA.1, n0, .inl f0)), (a1, .inl (cA.1, n1, .inl f1)), (a2, .inl (cA.1, n2, .inl ((tf_PK_step n2 f2 z_1 tk (-4) 3))))]) (As := [.ref a3, .int z_1, .int 1, .int 0, .int 3]) (rest := []) ⟨hx, hb, hml, hown, htg⟩ (c_PK_step l dC dI cA _ a3 n3 f3 z_1 true 0 3 hn3) (cw_SN htg hN wn_531 qPK_step iPK_step kPK_step pPK_step rfl rfl ⟨Nat.le_of_ble_eq_true rfl, Nat.le_of_ble_eq_true rfl⟩) hN hP hD hS hA hK [4] [0, 1, 2, 3, 5] rfl rfl (by decide) (by decide) (by decide) rfl hl.1 rfl (Nat.le_of_ble_eq_true rfl) dTagged_learnHit_74 ⟨Nat.le_of_ble_eq_true rfl, Nat.le_of_ble_eq_true rfl⟩ (fun H locs hP hD hS => ?_)
      have hP : va_P (dC, dI) vwCl [(h0, .inr (8, [.int zs0, .int rw0, .int mk0, .ref b1, .ref a1, .ref a2, .ref a3])), (b1, .inr (3, [.int zs0, .int rw0, .int mk0, .int (bI false), .ref a0])), (a0, .inl (cA.1, n0, .inl f0)), (a1, .inl (cA.1, n1, .inl f1)), (a2, .inl (cA.1, n2, .inl ((tf_PK_step n2 f2 z_1 tk (-4) 3)))), (a3, .inl (cA.1, n3, .inl ((tf_PK_step n3 f3 z_1 true 0 3))))] H := hP
      have hD : va_D A [(h0, .inr (8, [.int zs0, .int rw0, .int mk0, .ref b1, .ref a1, .ref a2, .ref a3])), (b1, .inr (3, [.int zs0, .int rw0, .int mk0, .int (bI false), .ref a0])), (a0, .inl (cA.1, n0, .inl f0)), (a1, .inl (cA.1, n1, .inl f1)), (a2, .inl (cA.1, n2, .inl ((tf_PK_step n2 f2 z_1 tk (-4) 3)))), (a3, .inl (cA.1, n3, .inl ((tf_PK_step n3 f3 z_1 true 0 3))))] := hD
      replace hfn := Option.some.inj hfn
      obtain ⟨e9, hf_0⟩ := Prod.mk.inj hfn; clear hfn; subst e9
      subst hf_0
      exact W.vret hx hb hr (fun t ht hW => ⟨⟨_, rfl, rfl, ⟨by rw [ht]; exact hP.sub [0, 1, 2, 3, 4, 5] rfl, va_K.moved hW.alike hK, hD.sub [0, 1, 2, 3, 4, 5] (by decide) rfl⟩⟩, hS.F ht⟩) hS.2.2 dTagged_learnHit_77
def of_Tagged_claim_b77 : Nat → Int32 → Int32 → Int32 → (Nat → Int32) → (Nat → Int32) → Nat → Int32 → Int32 → Int32 → (Nat → Int32) → Option ((Nat → Int32) × (Nat → Int32) × (Nat → Int32))
  | 0, _, _, _, _, _, _, _, _, _, _ => none
  | n + 1, zs0, rw0, mk0, f1, f2, n3, pl, hs, v5_b77, w_a3_a_b77 => (if 3 ≤ v5_b77 then some (f1, f2, w_a3_a_b77) else ((of_Tagged_cellOf zs0 rw0 mk0 v5_b77 pl hs).bind fun z_7 => of_Tagged_claim_b77 n zs0 rw0 mk0 f1 f2 n3 pl hs (v5_b77 + 1) ((tf_PK_step n3 w_a3_a_b77 z_7 false 0 3))))
def of_Tagged_claim_b3 : Nat → Int32 → Int32 → Int32 → Nat → (Nat → Int32) → Nat → (Nat → Int32) → Nat → (Nat → Int32) → Int32 → Int32 → Int32 → Bool → Int32 → Option ((Nat → Int32) × (Nat → Int32) × (Nat → Int32))
  | 0, _, _, _, _, _, _, _, _, _, _, _, _, _, _ => none
  | n + 1, zs0, rw0, mk0, n1, f1, n2, f2, n3, f3, t0, pl, hs, tk, v5_b3 => (if 3 ≤ v5_b3 then of_Tagged_claim_b77 4096 zs0 rw0 mk0 f1 f2 n3 pl hs t0 f3 else ((of_Tagged_cellOf zs0 rw0 mk0 v5_b3 pl hs).bind fun z_2 => (if (tf_PK_at n3 f3 z_2) = 0 then ((of_Tagged_tagOf v5_b3 pl hs).bind fun z_4 => (if (bI tk) = 0 then some (((tf_PK_put n1 f1 z_2 z_4)), ((tf_PK_put n2 f2 z_2 (-1))), f3) else some (((tf_PK_put n1 f1 z_2 z_4)), ((tf_PK_put n2 f2 z_2 0)), f3))) else of_Tagged_claim_b3 n zs0 rw0 mk0 n1 f1 n2 f2 n3 f3 t0 pl hs tk (v5_b3 + 1))))
def of_Tagged_claim (zs0 : Int32) (rw0 : Int32) (mk0 : Int32) (n1 : Nat) (f1 : Nat → Int32) (n2 : Nat) (f2 : Nat → Int32) (n3 : Nat) (f3 : Nat → Int32) (t0 : Int32) (pl : Int32) (hs : Int32) (tk : Bool) : Option ((Nat → Int32) × (Nat → Int32) × (Nat → Int32)) := of_Tagged_claim_b3 4096 zs0 rw0 mk0 n1 f1 n2 f2 n3 f3 t0 pl hs tk t0
set_option maxHeartbeats 4000000 in
set_option maxRecDepth 100000 in
theorem c_Tagged_claim (l : Launch) (dC : Nat → ClassId) (dI : Nat → Nat → Nat) (cA : ClassId × ClassId × ClassId) (zz : Nat) (h0 : Nat) (b1 : Nat) (a0 : Nat) (a1 : Nat) (a2 : Nat) (a3 : Nat) (zs0 : Int32) (rw0 : Int32) (mk0 : Int32) (n0 : Nat) (f0 : Nat → Int32) (n1 : Nat) (f1 : Nat → Int32) (n2 : Nat) (f2 : Nat → Int32) (n3 : Nat) (f3 : Nat → Int32) (t0 : Int32) (pl : Int32) (hs : Int32) (tk : Bool) (hn0 : n0 < 2147483648) (hn1 : n1 < 2147483648) (hn2 : n2 < 2147483648) (hn3 : n3 < 2147483648) (rs0 : (Nat → Int32)) (rs1 : (Nat → Int32)) (rs2 : (Nat → Int32)) (hfn : (of_Tagged_claim zs0 rw0 mk0 n1 f1 n2 f2 n3 f3 t0 pl hs tk) = some (rs0, rs1, rs2)) : Met l yTagged_claim wTagged_claim ({ frames := 3, cells := 0, slots := 0, locals := 70 }) (va_Pc [.ref h0, .int t0, .int pl, .int hs, .int (bI tk)] (Wr (dC, dI) cA zz [(h0, .inr (8, [.int zs0, .int rw0, .int mk0, .ref b1, .ref a1, .ref a2, .ref a3])), (b1, .inr (3, [.int zs0, .int rw0, .int mk0, .int (bI false), .ref a0])), (a0, .inl (cA.1, n0, .inl f0)), (a1, .inl (cA.1, n1, .inl f1)), (a2, .inl (cA.1, n2, .inl f2)), (a3, .inl (cA.1, n3, .inl f3))])) (va_Qv (fun w9 => w9 = [(h0, .inr (8, [.int zs0, .int rw0, .int mk0, .ref b1, .ref a1, .ref a2, .ref a3])), (b1, .inr (3, [.int zs0, .int rw0, .int mk0, .int (bI false), .ref a0])), (a0, .inl (cA.1, n0, .inl f0)), (a1, .inl (cA.1, n1, .inl rs0)), (a2, .inl (cA.1, n2, .inl rs1)), (a3, .inl (cA.1, n3, .inl rs2))]) (At (dC, dI) cA (va_A [(h0, .inr (8, [.int zs0, .int rw0, .int mk0, .ref b1, .ref a1, .ref a2, .ref a3])), (b1, .inr (3, [.int zs0, .int rw0, .int mk0, .int (bI false), .ref a0])), (a0, .inl (cA.1, n0, .inl f0)), (a1, .inl (cA.1, n1, .inl f1)), (a2, .inl (cA.1, n2, .inl f2)), (a3, .inl (cA.1, n3, .inl f3))] zz)) (va_A [(h0, .inr (8, [.int zs0, .int rw0, .int mk0, .ref b1, .ref a1, .ref a2, .ref a3])), (b1, .inr (3, [.int zs0, .int rw0, .int mk0, .int (bI false), .ref a0])), (a0, .inl (cA.1, n0, .inl f0)), (a1, .inl (cA.1, n1, .inl f1)), (a2, .inl (cA.1, n2, .inl f2)), (a3, .inl (cA.1, n3, .inl f3))] zz)) 0 0 (va_A [(h0, .inr (8, [.int zs0, .int rw0, .int mk0, .ref b1, .ref a1, .ref a2, .ref a3])), (b1, .inr (3, [.int zs0, .int rw0, .int mk0, .int (bI false), .ref a0])), (a0, .inl (cA.1, n0, .inl f0)), (a1, .inl (cA.1, n1, .inl f1)), (a2, .inl (cA.1, n2, .inl f2)), (a3, .inl (cA.1, n3, .inl f3))] zz) := by
  refine Met.ofW (cc := cTagged_claim) (maxL := 7) (ret := none) (by decide) rfl ?_
  intro p e s m args below meth c s₁ B hml hv
  obtain ⟨rfl, hsz, hN, hP, hK, hD0⟩ := hv
  have hx := B.exec
  have hb := B.bytes
  have hr := B.returns
  have hts := atoms_spec (ws := wTagged_claim) B.pre
  have htg : ∀ w ∈ GW, w.before _ s = true := fun w h => hts w (List.mem_cons_of_mem _ h)
  have hown : s.vm.findClass R_Tagged = some m.cls := findClass_of_methodNamed B.named
  have hlocks := B.notSynchronized
  subst hsz
  have hD := hD0.self (sz := s.heap.size)
  generalize hAe : va_A [(h0, .inr (8, [.int zs0, .int rw0, .int mk0, .ref b1, .ref a1, .ref a2, .ref a3])), (b1, .inr (3, [.int zs0, .int rw0, .int mk0, .int (bI false), .ref a0])), (a0, .inl (cA.1, n0, .inl f0)), (a1, .inl (cA.1, n1, .inl f1)), (a2, .inl (cA.1, n2, .inl f2)), (a3, .inl (cA.1, n3, .inl f3))] s.heap.size = A at hD ⊢
  have hA : ∀ q : Nat, s.heap.size ≤ q → A q := fun q h => by rw [← hAe]; exact Or.inr h
  have hS : va_S A s.heap s.heap [] := va_S.rf
  have hP : va_P (dC, dI) vwCl [(h0, .inr (8, [.int zs0, .int rw0, .int mk0, .ref b1, .ref a1, .ref a2, .ref a3])), (b1, .inr (3, [.int zs0, .int rw0, .int mk0, .int (bI false), .ref a0])), (a0, .inl (cA.1, n0, .inl f0)), (a1, .inl (cA.1, n1, .inl f1)), (a2, .inl (cA.1, n2, .inl f2)), (a3, .inl (cA.1, n3, .inl f3))] s.heap := hP
  have blk77 : ∀ n : Nat, ∀ (rs0 : (Nat → Int32)) (rs1 : (Nat → Int32)) (rs2 : (Nat → Int32)) (v5_b77 : Int32) (w_a3_a_b77 : Nat → Int32) (H : Heap) (locs : List Loc) (ls : Array Slot), of_Tagged_claim_b77 n zs0 rw0 mk0 f1 f2 n3 pl hs v5_b77 w_a3_a_b77 = some (rs0, rs1, rs2) → va_P (dC, dI) vwCl [(h0, .inr (8, [.int zs0, .int rw0, .int mk0, .ref b1, .ref a1, .ref a2, .ref a3])), (b1, .inr (3, [.int zs0, .int rw0, .int mk0, .int (bI false), .ref a0])), (a0, .inl (cA.1, n0, .inl f0)), (a1, .inl (cA.1, n1, .inl f1)), (a2, .inl (cA.1, n2, .inl f2)), (a3, .inl (cA.1, n3, .inl w_a3_a_b77))] H → va_D A [(h0, .inr (8, [.int zs0, .int rw0, .int mk0, .ref b1, .ref a1, .ref a2, .ref a3])), (b1, .inr (3, [.int zs0, .int rw0, .int mk0, .int (bI false), .ref a0])), (a0, .inl (cA.1, n0, .inl f0)), (a1, .inl (cA.1, n1, .inl f1)), (a2, .inl (cA.1, n2, .inl f2)), (a3, .inl (cA.1, n3, .inl w_a3_a_b77))] → va_S A s.heap H locs → lv_has ls 7 [(0, .ref h0), (2, .int pl), (3, .int hs), (5, .int v5_b77)] → W p l e (headSpec wTagged_claim ({ frames := 3, cells := 0, slots := 0, locals := 70 })).room s m ([.ref h0, .int t0, .int pl, .int hs, .int (bI tk)] : List Value).toArray below meth c H locs 0 0 (MQ below (va_Qv (fun w9 => w9 = [(h0, .inr (8, [.int zs0, .int rw0, .int mk0, .ref b1, .ref a1, .ref a2, .ref a3])), (b1, .inr (3, [.int zs0, .int rw0, .int mk0, .int (bI false), .ref a0])), (a0, .inl (cA.1, n0, .inl f0)), (a1, .inl (cA.1, n1, .inl rs0)), (a2, .inl (cA.1, n2, .inl rs1)), (a3, .inl (cA.1, n3, .inl rs2))]) (At (dC, dI) cA A) A) ([.ref h0, .int t0, .int pl, .int hs, .int (bI tk)] : List Value).toArray s 0 0 A) (F0 m 77 ls []) := by
    intro n
    induction n with
    | zero =>
      intro rs0 rs1 rs2 v5_b77 w_a3_a_b77 H locs ls hfn hP hD hS hl
      exact absurd hfn (by intro h; cases h)
    | succ n ih =>
      intro rs0 rs1 rs2 v5_b77 w_a3_a_b77 H locs ls hfn hP hD hS hl
      unfold of_Tagged_claim_b77 at hfn
      refine lv_iload hx hb dTagged_claim_77 (lv_at hl 3 rfl) ?_
      refine lv_iconst (v := 3) hx hb dTagged_claim_79 (by decide) ?_
      refine lv_icmp_ge (tgt := 107) hx hb dTagged_claim_80 (by decide) (fun c_6 => ?_) (fun c_6 => ?_)
      · rw [if_pos c_6] at hfn
        replace hfn := Option.some.inj hfn
        obtain ⟨e9, hf_0⟩ := Prod.mk.inj hfn; clear hfn; subst e9
        obtain ⟨e9, hf_1⟩ := Prod.mk.inj hf_0; clear hf_0; subst e9
        subst hf_1
        exact W.vret hx hb hr (fun t ht hW => ⟨⟨_, rfl, rfl, ⟨by rw [ht]; exact hP.sub [0, 1, 2, 3, 4, 5] rfl, va_K.moved hW.alike hK, hD.sub [0, 1, 2, 3, 4, 5] (by decide) rfl⟩⟩, hS.F ht⟩) hS.2.2 dTagged_claim_107
      · rw [if_neg c_6] at hfn
        refine lv_aload_n hx hb dTagged_claim_83 rfl (lv_at hl 0 rfl) ?_
        refine va_get (D := (dC, dI)) (ci := 8) (v := .ref a3) (C := R_Tagged) (T := T_Tagged) (N := 7) hx hb htg in_Tagged hown hK hP 0 rfl rfl 6 (by decide) (htg _ wd_163) (fun _ h9 => h9) rfl dTagged_claim_84 ?_
        refine lv_aload_n hx hb dTagged_claim_87 rfl (lv_at hl 0 rfl) ?_
        refine lv_iload hx hb dTagged_claim_88 (lv_at hl 3 rfl) ?_
        refine lv_iload_n hx hb dTagged_claim_90 rfl (lv_at hl 1 rfl) ?_
        refine lv_iload_n hx hb dTagged_claim_91 rfl (lv_at hl 2 rfl) ?_
        obtain ⟨z_7, hz_7, hfn⟩ := ob hfn
        refine rd_V (As := [.int v5_b77, .int pl, .int hs]) (rest := [.ref a3]) ⟨hx, hb, hml, hown, htg⟩ (c_Tagged_cellOf l dC dI cA h0 b1 a0 a1 a2 a3 zs0 rw0 mk0 n0 f0 n1 f1 n2 f2 n3 w_a3_a_b77 v5_b77 pl hs hn0 hn1 hn2 hn3 z_7 hz_7) (cw_V htg wd_409 ws_7 qTagged_cellOf iTagged_cellOf kTagged_cellOf pTagged_cellOf rfl rfl ⟨Nat.le_of_ble_eq_true rfl, Nat.le_of_ble_eq_true rfl⟩) (va_recv hK hP (ci := 8) (q0 := 0) rfl rfl) hN (hP.sub [0, 1, 2, 3, 4, 5] rfl) hK rfl hl.1 rfl (Nat.le_of_ble_eq_true rfl) dTagged_claim_92 ⟨Nat.le_of_ble_eq_true rfl, Nat.le_of_ble_eq_true rfl⟩ ?_
        refine lv_iconst (v := 0) hx hb dTagged_claim_95 (by decide) ?_
        refine lv_iconst (v := 0) hx hb dTagged_claim_96 (by decide) ?_
        refine lv_iconst (v := 3) hx hb dTagged_claim_97 (by decide) ?_
        refine wr_SNv (wr := [(h0, .inr (8, [.int zs0, .int rw0, .int mk0, .ref b1, .ref a1, .ref a2, .ref a3])), (b1, .inr (3, [.int zs0, .int rw0, .int mk0, .int (bI false), .ref a0])), (a0, .inl (cA.1, n0, .inl f0)), (a1, .inl (cA.1, n1, .inl f1)), (a2, .inl (cA.1, n2, .inl f2))]) (As := [.ref a3, .int z_7, .int 0, .int 0, .int 3]) (rest := []) ⟨hx, hb, hml, hown, htg⟩ (c_PK_step l dC dI cA _ a3 n3 w_a3_a_b77 z_7 false 0 3 hn3) (cw_SN htg hN wn_531 qPK_step iPK_step kPK_step pPK_step rfl rfl ⟨Nat.le_of_ble_eq_true rfl, Nat.le_of_ble_eq_true rfl⟩) hN hP hD hS hA hK [5] [0, 1, 2, 3, 4] rfl rfl (by decide) (by decide) (by decide) rfl hl.1 rfl (Nat.le_of_ble_eq_true rfl) dTagged_claim_98 ⟨Nat.le_of_ble_eq_true rfl, Nat.le_of_ble_eq_true rfl⟩ (fun H locs hP hD hS => ?_)
        have hP : va_P (dC, dI) vwCl [(h0, .inr (8, [.int zs0, .int rw0, .int mk0, .ref b1, .ref a1, .ref a2, .ref a3])), (b1, .inr (3, [.int zs0, .int rw0, .int mk0, .int (bI false), .ref a0])), (a0, .inl (cA.1, n0, .inl f0)), (a1, .inl (cA.1, n1, .inl f1)), (a2, .inl (cA.1, n2, .inl f2)), (a3, .inl (cA.1, n3, .inl ((tf_PK_step n3 w_a3_a_b77 z_7 false 0 3))))] H := hP
        have hD : va_D A [(h0, .inr (8, [.int zs0, .int rw0, .int mk0, .ref b1, .ref a1, .ref a2, .ref a3])), (b1, .inr (3, [.int zs0, .int rw0, .int mk0, .int (bI false), .ref a0])), (a0, .inl (cA.1, n0, .inl f0)), (a1, .inl (cA.1, n1, .inl f1)), (a2, .inl (cA.1, n2, .inl f2)), (a3, .inl (cA.1, n3, .inl ((tf_PK_step n3 w_a3_a_b77 z_7 false 0 3))))] := hD
        refine lv_iinc (v := (v5_b77 + 1)) (lv' := [(5, .int (v5_b77 + 1)), (0, .ref h0), (2, .int pl), (3, .int hs)]) hx hb dTagged_claim_101 hl (k := 3) rfl rfl (by decide) rfl (fun ls hl => ?_)
        refine lv_goto (tgt := 77) hx hb dTagged_claim_104 (by decide) ?_
        exact ih _ _ _ (v5_b77 + 1) ((tf_PK_step n3 w_a3_a_b77 z_7 false 0 3)) _ _ ls hfn (hP.sub [0, 1, 2, 3, 4, 5] rfl) (hD.sub [0, 1, 2, 3, 4, 5] (by decide) rfl) hS (lv_sub hl [1, 2, 3, 0] rfl)
  have blk3 : ∀ n : Nat, ∀ (rs0 : (Nat → Int32)) (rs1 : (Nat → Int32)) (rs2 : (Nat → Int32)) (v5_b3 : Int32) (H : Heap) (locs : List Loc) (ls : Array Slot), of_Tagged_claim_b3 n zs0 rw0 mk0 n1 f1 n2 f2 n3 f3 t0 pl hs tk v5_b3 = some (rs0, rs1, rs2) → va_P (dC, dI) vwCl [(h0, .inr (8, [.int zs0, .int rw0, .int mk0, .ref b1, .ref a1, .ref a2, .ref a3])), (b1, .inr (3, [.int zs0, .int rw0, .int mk0, .int (bI false), .ref a0])), (a0, .inl (cA.1, n0, .inl f0)), (a1, .inl (cA.1, n1, .inl f1)), (a2, .inl (cA.1, n2, .inl f2)), (a3, .inl (cA.1, n3, .inl f3))] H → va_D A [(h0, .inr (8, [.int zs0, .int rw0, .int mk0, .ref b1, .ref a1, .ref a2, .ref a3])), (b1, .inr (3, [.int zs0, .int rw0, .int mk0, .int (bI false), .ref a0])), (a0, .inl (cA.1, n0, .inl f0)), (a1, .inl (cA.1, n1, .inl f1)), (a2, .inl (cA.1, n2, .inl f2)), (a3, .inl (cA.1, n3, .inl f3))] → va_S A s.heap H locs → lv_has ls 7 [(0, .ref h0), (1, .int t0), (2, .int pl), (3, .int hs), (4, .int (bI tk)), (5, .int v5_b3)] → W p l e (headSpec wTagged_claim ({ frames := 3, cells := 0, slots := 0, locals := 70 })).room s m ([.ref h0, .int t0, .int pl, .int hs, .int (bI tk)] : List Value).toArray below meth c H locs 0 0 (MQ below (va_Qv (fun w9 => w9 = [(h0, .inr (8, [.int zs0, .int rw0, .int mk0, .ref b1, .ref a1, .ref a2, .ref a3])), (b1, .inr (3, [.int zs0, .int rw0, .int mk0, .int (bI false), .ref a0])), (a0, .inl (cA.1, n0, .inl f0)), (a1, .inl (cA.1, n1, .inl rs0)), (a2, .inl (cA.1, n2, .inl rs1)), (a3, .inl (cA.1, n3, .inl rs2))]) (At (dC, dI) cA A) A) ([.ref h0, .int t0, .int pl, .int hs, .int (bI tk)] : List Value).toArray s 0 0 A) (F0 m 3 ls []) := by
    intro n
    induction n with
    | zero =>
      intro rs0 rs1 rs2 v5_b3 H locs ls hfn hP hD hS hl
      exact absurd hfn (by intro h; cases h)
    | succ n ih =>
      intro rs0 rs1 rs2 v5_b3 H locs ls hfn hP hD hS hl
      unfold of_Tagged_claim_b3 at hfn
      refine lv_iload hx hb dTagged_claim_3 (lv_at hl 5 rfl) ?_
      refine lv_iconst (v := 3) hx hb dTagged_claim_5 (by decide) ?_
      refine lv_icmp_ge (tgt := 74) hx hb dTagged_claim_6 (by decide) (fun c_1 => ?_) (fun c_1 => ?_)
      · rw [if_pos c_1] at hfn
        refine lv_iload_n hx hb dTagged_claim_74 rfl (lv_at hl 1 rfl) ?_
        refine lv_istore (lv' := [(5, .int t0), (0, .ref h0), (1, .int t0), (2, .int pl), (3, .int hs), (4, .int (bI tk))]) hx hb dTagged_claim_75 hl (by decide) rfl (fun ls hl => ?_)
        exact blk77 4096 _ _ _ t0 f3 _ _ ls hfn (hP.sub [0, 1, 2, 3, 4, 5] rfl) (hD.sub [0, 1, 2, 3, 4, 5] (by decide) rfl) hS (lv_sub hl [1, 3, 4, 0] rfl)
      · rw [if_neg c_1] at hfn
        refine lv_aload_n hx hb dTagged_claim_9 rfl (lv_at hl 0 rfl) ?_
        refine lv_iload hx hb dTagged_claim_10 (lv_at hl 5 rfl) ?_
        refine lv_iload_n hx hb dTagged_claim_12 rfl (lv_at hl 2 rfl) ?_
        refine lv_iload_n hx hb dTagged_claim_13 rfl (lv_at hl 3 rfl) ?_
        obtain ⟨z_2, hz_2, hfn⟩ := ob hfn
        refine rd_V (As := [.int v5_b3, .int pl, .int hs]) (rest := []) ⟨hx, hb, hml, hown, htg⟩ (c_Tagged_cellOf l dC dI cA h0 b1 a0 a1 a2 a3 zs0 rw0 mk0 n0 f0 n1 f1 n2 f2 n3 f3 v5_b3 pl hs hn0 hn1 hn2 hn3 z_2 hz_2) (cw_V htg wd_409 ws_7 qTagged_cellOf iTagged_cellOf kTagged_cellOf pTagged_cellOf rfl rfl ⟨Nat.le_of_ble_eq_true rfl, Nat.le_of_ble_eq_true rfl⟩) (va_recv hK hP (ci := 8) (q0 := 0) rfl rfl) hN (hP.sub [0, 1, 2, 3, 4, 5] rfl) hK rfl hl.1 rfl (Nat.le_of_ble_eq_true rfl) dTagged_claim_14 ⟨Nat.le_of_ble_eq_true rfl, Nat.le_of_ble_eq_true rfl⟩ ?_
        refine lv_istore (lv' := [(6, .int z_2), (0, .ref h0), (1, .int t0), (2, .int pl), (3, .int hs), (4, .int (bI tk)), (5, .int v5_b3)]) hx hb dTagged_claim_17 hl (by decide) rfl (fun ls hl => ?_)
        refine lv_aload_n hx hb dTagged_claim_19 rfl (lv_at hl 1 rfl) ?_
        refine va_get (D := (dC, dI)) (ci := 8) (v := .ref a3) (C := R_Tagged) (T := T_Tagged) (N := 7) hx hb htg in_Tagged hown hK hP 0 rfl rfl 6 (by decide) (htg _ wd_163) (fun _ h9 => h9) rfl dTagged_claim_20 ?_
        refine lv_iload hx hb dTagged_claim_23 (lv_at hl 0 rfl) ?_
        refine rd_SN (As := [.ref a3, .int z_2]) (rest := []) ⟨hx, hb, hml, hown, htg⟩ (c_PK_at l dC dI cA a3 n3 f3 z_2 hn3) (cw_SN htg hN wn_419 qPK_at iPK_at kPK_at pPK_at rfl rfl ⟨Nat.le_of_ble_eq_true rfl, Nat.le_of_ble_eq_true rfl⟩) hN (hP.sub [5] rfl) hK rfl hl.1 rfl (Nat.le_of_ble_eq_true rfl) dTagged_claim_25 ⟨Nat.le_of_ble_eq_true rfl, Nat.le_of_ble_eq_true rfl⟩ ?_
        refine lv_if_ne (tgt := 68) hx hb dTagged_claim_28 (by decide) (fun c_3 => ?_) (fun c_3 => ?_)
        · rw [if_neg c_3] at hfn
          refine lv_iinc (v := (v5_b3 + 1)) (lv' := [(5, .int (v5_b3 + 1)), (6, .int z_2), (0, .ref h0), (1, .int t0), (2, .int pl), (3, .int hs), (4, .int (bI tk))]) hx hb dTagged_claim_68 hl (k := 6) rfl rfl (by decide) rfl (fun ls hl => ?_)
          refine lv_goto (tgt := 3) hx hb dTagged_claim_71 (by decide) ?_
          exact ih _ _ _ (v5_b3 + 1) _ _ ls hfn (hP.sub [0, 1, 2, 3, 4, 5] rfl) (hD.sub [0, 1, 2, 3, 4, 5] (by decide) rfl) hS (lv_sub hl [2, 3, 4, 5, 6, 0] rfl)
        · rw [if_pos c_3] at hfn
          refine lv_aload_n hx hb dTagged_claim_31 rfl (lv_at hl 1 rfl) ?_
          refine va_get (D := (dC, dI)) (ci := 8) (v := .ref a1) (C := R_Tagged) (T := T_Tagged) (N := 7) hx hb htg in_Tagged hown hK hP 0 rfl rfl 4 (by decide) (htg _ wd_161) (fun _ h9 => h9) rfl dTagged_claim_32 ?_
          refine lv_iload hx hb dTagged_claim_35 (lv_at hl 0 rfl) ?_
          refine lv_aload_n hx hb dTagged_claim_37 rfl (lv_at hl 1 rfl) ?_
          refine lv_iload hx hb dTagged_claim_38 (lv_at hl 6 rfl) ?_
          refine lv_iload_n hx hb dTagged_claim_40 rfl (lv_at hl 3 rfl) ?_
          refine lv_iload_n hx hb dTagged_claim_41 rfl (lv_at hl 4 rfl) ?_
          obtain ⟨z_4, hz_4, hfn⟩ := ob hfn
          refine rd_V (As := [.int v5_b3, .int pl, .int hs]) (rest := [.int z_2, .ref a1]) ⟨hx, hb, hml, hown, htg⟩ (c_Tagged_tagOf l dC dI cA h0 b1 a0 a1 a2 a3 zs0 rw0 mk0 n0 f0 n1 f1 n2 f2 n3 f3 v5_b3 pl hs hn0 hn1 hn2 hn3 z_4 hz_4) (cw_V htg wd_420 ws_8 qTagged_tagOf iTagged_tagOf kTagged_tagOf pTagged_tagOf rfl rfl ⟨Nat.le_of_ble_eq_true rfl, Nat.le_of_ble_eq_true rfl⟩) (va_recv hK hP (ci := 8) (q0 := 0) rfl rfl) hN (hP.sub [0, 1, 2, 3, 4, 5] rfl) hK rfl hl.1 rfl (Nat.le_of_ble_eq_true rfl) dTagged_claim_42 ⟨Nat.le_of_ble_eq_true rfl, Nat.le_of_ble_eq_true rfl⟩ ?_
          refine wr_SNv (wr := [(h0, .inr (8, [.int zs0, .int rw0, .int mk0, .ref b1, .ref a1, .ref a2, .ref a3])), (b1, .inr (3, [.int zs0, .int rw0, .int mk0, .int (bI false), .ref a0])), (a0, .inl (cA.1, n0, .inl f0)), (a2, .inl (cA.1, n2, .inl f2)), (a3, .inl (cA.1, n3, .inl f3))]) (As := [.ref a1, .int z_2, .int z_4]) (rest := []) ⟨hx, hb, hml, hown, htg⟩ (c_PK_put l dC dI cA _ a1 n1 f1 z_2 z_4 hn1) (cw_SN htg hN wn_536 qPK_put iPK_put kPK_put pPK_put rfl rfl ⟨Nat.le_of_ble_eq_true rfl, Nat.le_of_ble_eq_true rfl⟩) hN hP hD hS hA hK [3] [0, 1, 2, 4, 5] rfl rfl (by decide) (by decide) (by decide) rfl hl.1 rfl (Nat.le_of_ble_eq_true rfl) dTagged_claim_45 ⟨Nat.le_of_ble_eq_true rfl, Nat.le_of_ble_eq_true rfl⟩ (fun H locs hP hD hS => ?_)
          have hP : va_P (dC, dI) vwCl [(h0, .inr (8, [.int zs0, .int rw0, .int mk0, .ref b1, .ref a1, .ref a2, .ref a3])), (b1, .inr (3, [.int zs0, .int rw0, .int mk0, .int (bI false), .ref a0])), (a0, .inl (cA.1, n0, .inl f0)), (a2, .inl (cA.1, n2, .inl f2)), (a3, .inl (cA.1, n3, .inl f3)), (a1, .inl (cA.1, n1, .inl ((tf_PK_put n1 f1 z_2 z_4))))] H := hP
          have hD : va_D A [(h0, .inr (8, [.int zs0, .int rw0, .int mk0, .ref b1, .ref a1, .ref a2, .ref a3])), (b1, .inr (3, [.int zs0, .int rw0, .int mk0, .int (bI false), .ref a0])), (a0, .inl (cA.1, n0, .inl f0)), (a2, .inl (cA.1, n2, .inl f2)), (a3, .inl (cA.1, n3, .inl f3)), (a1, .inl (cA.1, n1, .inl ((tf_PK_put n1 f1 z_2 z_4))))] := hD
          refine lv_aload_n hx hb dTagged_claim_48 rfl (lv_at hl 1 rfl) ?_
          refine va_get (D := (dC, dI)) (ci := 8) (v := .ref a2) (C := R_Tagged) (T := T_Tagged) (N := 7) hx hb htg in_Tagged hown hK hP 0 rfl rfl 5 (by decide) (htg _ wd_162) (fun _ h9 => h9) rfl dTagged_claim_49 ?_
          refine lv_iload hx hb dTagged_claim_52 (lv_at hl 0 rfl) ?_
          refine lv_iload hx hb dTagged_claim_54 (lv_at hl 5 rfl) ?_
          refine lv_if_eq (tgt := 63) hx hb dTagged_claim_56 (by decide) (fun c_5 => ?_) (fun c_5 => ?_)
          · rw [if_pos c_5] at hfn
            refine lv_iconst (v := (-1)) hx hb dTagged_claim_63 (by decide) ?_
            refine wr_SNv (wr := [(h0, .inr (8, [.int zs0, .int rw0, .int mk0, .ref b1, .ref a1, .ref a2, .ref a3])), (b1, .inr (3, [.int zs0, .int rw0, .int mk0, .int (bI false), .ref a0])), (a0, .inl (cA.1, n0, .inl f0)), (a3, .inl (cA.1, n3, .inl f3)), (a1, .inl (cA.1, n1, .inl ((tf_PK_put n1 f1 z_2 z_4))))]) (As := [.ref a2, .int z_2, .int (-1)]) (rest := []) ⟨hx, hb, hml, hown, htg⟩ (c_PK_put l dC dI cA _ a2 n2 f2 z_2 (-1) hn2) (cw_SN htg hN wn_536 qPK_put iPK_put kPK_put pPK_put rfl rfl ⟨Nat.le_of_ble_eq_true rfl, Nat.le_of_ble_eq_true rfl⟩) hN hP hD hS hA hK [3] [0, 1, 2, 4, 5] rfl rfl (by decide) (by decide) (by decide) rfl hl.1 rfl (Nat.le_of_ble_eq_true rfl) dTagged_claim_64 ⟨Nat.le_of_ble_eq_true rfl, Nat.le_of_ble_eq_true rfl⟩ (fun H locs hP hD hS => ?_)
            have hP : va_P (dC, dI) vwCl [(h0, .inr (8, [.int zs0, .int rw0, .int mk0, .ref b1, .ref a1, .ref a2, .ref a3])), (b1, .inr (3, [.int zs0, .int rw0, .int mk0, .int (bI false), .ref a0])), (a0, .inl (cA.1, n0, .inl f0)), (a3, .inl (cA.1, n3, .inl f3)), (a1, .inl (cA.1, n1, .inl ((tf_PK_put n1 f1 z_2 z_4)))), (a2, .inl (cA.1, n2, .inl ((tf_PK_put n2 f2 z_2 (-1)))))] H := hP
            have hD : va_D A [(h0, .inr (8, [.int zs0, .int rw0, .int mk0, .ref b1, .ref a1, .ref a2, .ref a3])), (b1, .inr (3, [.int zs0, .int rw0, .int mk0, .int (bI false), .ref a0])), (a0, .inl (cA.1, n0, .inl f0)), (a3, .inl (cA.1, n3, .inl f3)), (a1, .inl (cA.1, n1, .inl ((tf_PK_put n1 f1 z_2 z_4)))), (a2, .inl (cA.1, n2, .inl ((tf_PK_put n2 f2 z_2 (-1)))))] := hD
            replace hfn := Option.some.inj hfn
            obtain ⟨e9, hf_0⟩ := Prod.mk.inj hfn; clear hfn; subst e9
            obtain ⟨e9, hf_1⟩ := Prod.mk.inj hf_0; clear hf_0; subst e9
            subst hf_1
            exact W.vret hx hb hr (fun t ht hW => ⟨⟨_, rfl, rfl, ⟨by rw [ht]; exact hP.sub [0, 1, 2, 4, 5, 3] rfl, va_K.moved hW.alike hK, hD.sub [0, 1, 2, 4, 5, 3] (by decide) rfl⟩⟩, hS.F ht⟩) hS.2.2 dTagged_claim_67
          · rw [if_neg c_5] at hfn
            refine lv_iconst (v := 0) hx hb dTagged_claim_59 (by decide) ?_
            refine lv_goto (tgt := 64) hx hb dTagged_claim_60 (by decide) ?_
            refine wr_SNv (wr := [(h0, .inr (8, [.int zs0, .int rw0, .int mk0, .ref b1, .ref a1, .ref a2, .ref a3])), (b1, .inr (3, [.int zs0, .int rw0, .int mk0, .int (bI false), .ref a0])), (a0, .inl (cA.1, n0, .inl f0)), (a3, .inl (cA.1, n3, .inl f3)), (a1, .inl (cA.1, n1, .inl ((tf_PK_put n1 f1 z_2 z_4))))]) (As := [.ref a2, .int z_2, .int 0]) (rest := []) ⟨hx, hb, hml, hown, htg⟩ (c_PK_put l dC dI cA _ a2 n2 f2 z_2 0 hn2) (cw_SN htg hN wn_536 qPK_put iPK_put kPK_put pPK_put rfl rfl ⟨Nat.le_of_ble_eq_true rfl, Nat.le_of_ble_eq_true rfl⟩) hN hP hD hS hA hK [3] [0, 1, 2, 4, 5] rfl rfl (by decide) (by decide) (by decide) rfl hl.1 rfl (Nat.le_of_ble_eq_true rfl) dTagged_claim_64 ⟨Nat.le_of_ble_eq_true rfl, Nat.le_of_ble_eq_true rfl⟩ (fun H locs hP hD hS => ?_)
            have hP : va_P (dC, dI) vwCl [(h0, .inr (8, [.int zs0, .int rw0, .int mk0, .ref b1, .ref a1, .ref a2, .ref a3])), (b1, .inr (3, [.int zs0, .int rw0, .int mk0, .int (bI false), .ref a0])), (a0, .inl (cA.1, n0, .inl f0)), (a3, .inl (cA.1, n3, .inl f3)), (a1, .inl (cA.1, n1, .inl ((tf_PK_put n1 f1 z_2 z_4)))), (a2, .inl (cA.1, n2, .inl ((tf_PK_put n2 f2 z_2 0))))] H := hP
            have hD : va_D A [(h0, .inr (8, [.int zs0, .int rw0, .int mk0, .ref b1, .ref a1, .ref a2, .ref a3])), (b1, .inr (3, [.int zs0, .int rw0, .int mk0, .int (bI false), .ref a0])), (a0, .inl (cA.1, n0, .inl f0)), (a3, .inl (cA.1, n3, .inl f3)), (a1, .inl (cA.1, n1, .inl ((tf_PK_put n1 f1 z_2 z_4)))), (a2, .inl (cA.1, n2, .inl ((tf_PK_put n2 f2 z_2 0))))] := hD
            replace hfn := Option.some.inj hfn
            obtain ⟨e9, hf_0⟩ := Prod.mk.inj hfn; clear hfn; subst e9
            obtain ⟨e9, hf_1⟩ := Prod.mk.inj hf_0; clear hf_0; subst e9
            subst hf_1
            exact W.vret hx hb hr (fun t ht hW => ⟨⟨_, rfl, rfl, ⟨by rw [ht]; exact hP.sub [0, 1, 2, 4, 5, 3] rfl, va_K.moved hW.alike hK, hD.sub [0, 1, 2, 4, 5, 3] (by decide) rfl⟩⟩, hS.F ht⟩) hS.2.2 dTagged_claim_67
  have hl := lv_entry ([.ref h0, .int t0, .int pl, .int hs, .int (bI tk)]) (n := 7) (Nat.le_of_ble_eq_true rfl)
  rw [lg_entry_eq]
  generalize (lg_sl ([.ref h0, .int t0, .int pl, .int hs, .int (bI tk)]) ++ List.replicate (7 - (lg_sl ([.ref h0, .int t0, .int pl, .int hs, .int (bI tk)])).length) Slot.unset).toArray = ls at hl ⊢
  have hl : lv_has ls 7 [(0, .ref h0), (1, .int t0), (2, .int pl), (3, .int hs), (4, .int (bI tk))] := hl
  unfold of_Tagged_claim at hfn
  refine lv_iload_n hx hb dTagged_claim_0 rfl (lv_at hl 1 rfl) ?_
  refine lv_istore (lv' := [(5, .int t0), (0, .ref h0), (1, .int t0), (2, .int pl), (3, .int hs), (4, .int (bI tk))]) hx hb dTagged_claim_1 hl (by decide) rfl (fun ls hl => ?_)
  exact blk3 4096 _ _ _ t0 _ _ ls hfn (hP.sub [0, 1, 2, 3, 4, 5] rfl) (hD.sub [0, 1, 2, 3, 4, 5] (by decide) rfl) hS (lv_sub hl [1, 2, 3, 4, 5, 0] rfl)
def of_Tagged_says (zs0 : Int32) (rw0 : Int32) (mk0 : Int32) (n0 : Nat) (f0 : Nat → Int32) (n1 : Nat) (f1 : Nat → Int32) (n2 : Nat) (f2 : Nat → Int32) (pl : Int32) (hs : Int32) : Option (Bool) := ((of_Tagged_lastHit zs0 rw0 mk0 n1 f1 pl hs 3).bind fun z_1 => ((of_Tagged_saidBy zs0 rw0 mk0 n0 f0 n2 f2 z_1 pl hs).bind fun z_2 => some (z_2)))
set_option maxHeartbeats 4000000 in
set_option maxRecDepth 100000 in
theorem c_Tagged_says (l : Launch) (dC : Nat → ClassId) (dI : Nat → Nat → Nat) (cA : ClassId × ClassId × ClassId) (h0 : Nat) (b1 : Nat) (a0 : Nat) (a1 : Nat) (a2 : Nat) (a3 : Nat) (zs0 : Int32) (rw0 : Int32) (mk0 : Int32) (n0 : Nat) (f0 : Nat → Int32) (n1 : Nat) (f1 : Nat → Int32) (n2 : Nat) (f2 : Nat → Int32) (n3 : Nat) (f3 : Nat → Int32) (pl : Int32) (hs : Int32) (hn0 : n0 < 2147483648) (hn1 : n1 < 2147483648) (hn2 : n2 < 2147483648) (hn3 : n3 < 2147483648) (rs0 : Bool) (hfn : (of_Tagged_says zs0 rw0 mk0 n0 f0 n1 f1 n2 f2 pl hs) = some (rs0)) : Met l yTagged_says wTagged_says ({ frames := 4, cells := 0, slots := 0, locals := 94 }) (va_Pc [.ref h0, .int pl, .int hs] (Rd (dC, dI) cA [(h0, .inr (8, [.int zs0, .int rw0, .int mk0, .ref b1, .ref a1, .ref a2, .ref a3])), (b1, .inr (3, [.int zs0, .int rw0, .int mk0, .int (bI false), .ref a0])), (a0, .inl (cA.1, n0, .inl f0)), (a1, .inl (cA.1, n1, .inl f1)), (a2, .inl (cA.1, n2, .inl f2)), (a3, .inl (cA.1, n3, .inl f3))])) (QcRead (bI rs0)) 0 0 (fun _ => False) := by
  refine Met.ofW (cc := cTagged_says) (maxL := 3) (ret := (some .boolean)) (by decide) rfl ?_
  intro p e s m args below meth c s₁ B hml hv
  obtain ⟨rfl, hN, hP, hK⟩ := hv
  have hx := B.exec
  have hb := B.bytes
  have hr := B.returns
  have hts := atoms_spec (ws := wTagged_says) B.pre
  have htg : ∀ w ∈ GW, w.before _ s = true := fun w h => hts w (List.mem_cons_of_mem _ h)
  have hown : s.vm.findClass R_Tagged = some m.cls := findClass_of_methodNamed B.named
  have hlocks := B.notSynchronized
  have hl := lv_entry ([.ref h0, .int pl, .int hs]) (n := 3) (Nat.le_of_ble_eq_true rfl)
  rw [lg_entry_eq]
  generalize (lg_sl ([.ref h0, .int pl, .int hs]) ++ List.replicate (3 - (lg_sl ([.ref h0, .int pl, .int hs])).length) Slot.unset).toArray = ls at hl ⊢
  have hl : lv_has ls 3 [(0, .ref h0), (1, .int pl), (2, .int hs)] := hl
  unfold of_Tagged_says at hfn
  refine lv_aload_n hx hb dTagged_says_0 rfl (lv_at hl 0 rfl) ?_
  refine lv_aload_n hx hb dTagged_says_1 rfl (lv_at hl 0 rfl) ?_
  refine lv_iload_n hx hb dTagged_says_2 rfl (lv_at hl 1 rfl) ?_
  refine lv_iload_n hx hb dTagged_says_3 rfl (lv_at hl 2 rfl) ?_
  refine lv_iconst (v := 3) hx hb dTagged_says_4 (by decide) ?_
  obtain ⟨z_1, hz_1, hfn⟩ := ob hfn
  refine rd_V (As := [.int pl, .int hs, .int 3]) (rest := [.ref h0]) ⟨hx, hb, hml, hown, htg⟩ (c_Tagged_lastHit l dC dI cA h0 b1 a0 a1 a2 a3 zs0 rw0 mk0 n0 f0 n1 f1 n2 f2 n3 f3 pl hs 3 hn0 hn1 hn2 hn3 z_1 hz_1) (cw_V htg wd_405 ws_6 qTagged_lastHit iTagged_lastHit kTagged_lastHit pTagged_lastHit rfl rfl ⟨Nat.le_of_ble_eq_true rfl, Nat.le_of_ble_eq_true rfl⟩) (va_recv hK hP (ci := 8) (q0 := 0) rfl rfl) hN (hP.sub [0, 1, 2, 3, 4, 5] rfl) hK rfl hl.1 rfl (Nat.le_of_ble_eq_true rfl) dTagged_says_5 ⟨Nat.le_of_ble_eq_true rfl, Nat.le_of_ble_eq_true rfl⟩ ?_
  refine lv_iload_n hx hb dTagged_says_8 rfl (lv_at hl 1 rfl) ?_
  refine lv_iload_n hx hb dTagged_says_9 rfl (lv_at hl 2 rfl) ?_
  obtain ⟨z_2, hz_2, hfn⟩ := ob hfn
  refine rd_V (As := [.int z_1, .int pl, .int hs]) (rest := []) ⟨hx, hb, hml, hown, htg⟩ (c_Tagged_saidBy l dC dI cA h0 b1 a0 a1 a2 a3 zs0 rw0 mk0 n0 f0 n1 f1 n2 f2 n3 f3 z_1 pl hs hn0 hn1 hn2 hn3 z_2 hz_2) (cw_V htg wd_424 ws_9 qTagged_saidBy iTagged_saidBy kTagged_saidBy pTagged_saidBy rfl rfl ⟨Nat.le_of_ble_eq_true rfl, Nat.le_of_ble_eq_true rfl⟩) (va_recv hK hP (ci := 8) (q0 := 0) rfl rfl) hN (hP.sub [0, 1, 2, 3, 4, 5] rfl) hK rfl hl.1 rfl (Nat.le_of_ble_eq_true rfl) dTagged_says_10 ⟨Nat.le_of_ble_eq_true rfl, Nat.le_of_ble_eq_true rfl⟩ ?_
  replace hfn := Option.some.inj hfn
  subst hfn
  exact W.zret hx hb hr (nar_bI _) (fun t ht hW => ⟨rfl, ht⟩) (fun _ h => by cases h) dTagged_says_13
def of_Tagged_learn_b55 (zs0 : Int32) (rw0 : Int32) (mk0 : Int32) (n1 : Nat) (f1 : Nat → Int32) (n2 : Nat) (n3 : Nat) (pl : Int32) (hs : Int32) (tk : Bool) (v4_b55 : Int32) (v5_b55 : Bool) (w_a0_a_b55 : Nat → Int32) (w_a2_a_b55 : Nat → Int32) (w_a3_a_b55 : Nat → Int32) : Option ((Nat → Int32) × (Nat → Int32) × (Nat → Int32) × (Nat → Int32)) := (if (bI v5_b55) = 0 then ((of_Tagged_claim zs0 rw0 mk0 n1 f1 n2 w_a2_a_b55 n3 w_a3_a_b55 (v4_b55 + 1) pl hs tk).bind fun (z_7_0, z_7_1, z_7_2) => some (w_a0_a_b55, z_7_0, z_7_1, z_7_2)) else some (w_a0_a_b55, f1, w_a2_a_b55, w_a3_a_b55))
def of_Tagged_learn_b26 (zs0 : Int32) (rw0 : Int32) (mk0 : Int32) (n0 : Nat) (f0 : Nat → Int32) (n1 : Nat) (f1 : Nat → Int32) (n2 : Nat) (f2 : Nat → Int32) (n3 : Nat) (f3 : Nat → Int32) (pl : Int32) (hs : Int32) (tk : Bool) (v4_b26 : Int32) (s0_b26 : Bool) : Option ((Nat → Int32) × (Nat → Int32) × (Nat → Int32) × (Nat → Int32)) := (if 0 ≤ v4_b26 then ((of_Tagged_learnHit zs0 rw0 mk0 n0 f0 n1 f1 n2 f2 n3 f3 v4_b26 pl hs tk).bind fun (z_5_0, z_5_1) => of_Tagged_learn_b55 zs0 rw0 mk0 n1 f1 n2 n3 pl hs tk v4_b26 s0_b26 f0 z_5_0 z_5_1) else of_Tagged_learn_b55 zs0 rw0 mk0 n1 f1 n2 n3 pl hs tk v4_b26 s0_b26 ((tf_Counters_learn zs0 mk0 false n0 f0 pl hs tk)) f2 f3)
def of_Tagged_learn (zs0 : Int32) (rw0 : Int32) (mk0 : Int32) (n0 : Nat) (f0 : Nat → Int32) (n1 : Nat) (f1 : Nat → Int32) (n2 : Nat) (f2 : Nat → Int32) (n3 : Nat) (f3 : Nat → Int32) (pl : Int32) (hs : Int32) (tk : Bool) : Option ((Nat → Int32) × (Nat → Int32) × (Nat → Int32) × (Nat → Int32)) := ((of_Tagged_lastHit zs0 rw0 mk0 n1 f1 pl hs 3).bind fun z_1 => ((of_Tagged_saidBy zs0 rw0 mk0 n0 f0 n2 f2 z_1 pl hs).bind fun z_2 => (if (bI z_2) = (bI tk) then of_Tagged_learn_b26 zs0 rw0 mk0 n0 f0 n1 f1 n2 f2 n3 f3 pl hs tk z_1 true else of_Tagged_learn_b26 zs0 rw0 mk0 n0 f0 n1 f1 n2 f2 n3 f3 pl hs tk z_1 false)))
set_option maxHeartbeats 4000000 in
set_option maxRecDepth 100000 in
theorem c_Tagged_learn (l : Launch) (dC : Nat → ClassId) (dI : Nat → Nat → Nat) (cA : ClassId × ClassId × ClassId) (zz : Nat) (h0 : Nat) (b1 : Nat) (a0 : Nat) (a1 : Nat) (a2 : Nat) (a3 : Nat) (zs0 : Int32) (rw0 : Int32) (mk0 : Int32) (n0 : Nat) (f0 : Nat → Int32) (n1 : Nat) (f1 : Nat → Int32) (n2 : Nat) (f2 : Nat → Int32) (n3 : Nat) (f3 : Nat → Int32) (pl : Int32) (hs : Int32) (tk : Bool) (hn0 : n0 < 2147483648) (hn1 : n1 < 2147483648) (hn2 : n2 < 2147483648) (hn3 : n3 < 2147483648) (rs0 : (Nat → Int32)) (rs1 : (Nat → Int32)) (rs2 : (Nat → Int32)) (rs3 : (Nat → Int32)) (hfn : (of_Tagged_learn zs0 rw0 mk0 n0 f0 n1 f1 n2 f2 n3 f3 pl hs tk) = some (rs0, rs1, rs2, rs3)) : Met l yTagged_learn wTagged_learn ({ frames := 5, cells := 0, slots := 0, locals := 121 }) (va_Pc [.ref h0, .int pl, .int hs, .int (bI tk)] (Wr (dC, dI) cA zz [(h0, .inr (8, [.int zs0, .int rw0, .int mk0, .ref b1, .ref a1, .ref a2, .ref a3])), (b1, .inr (3, [.int zs0, .int rw0, .int mk0, .int (bI false), .ref a0])), (a0, .inl (cA.1, n0, .inl f0)), (a1, .inl (cA.1, n1, .inl f1)), (a2, .inl (cA.1, n2, .inl f2)), (a3, .inl (cA.1, n3, .inl f3))])) (va_Qv (fun w9 => w9 = [(h0, .inr (8, [.int zs0, .int rw0, .int mk0, .ref b1, .ref a1, .ref a2, .ref a3])), (b1, .inr (3, [.int zs0, .int rw0, .int mk0, .int (bI false), .ref a0])), (a0, .inl (cA.1, n0, .inl rs0)), (a1, .inl (cA.1, n1, .inl rs1)), (a2, .inl (cA.1, n2, .inl rs2)), (a3, .inl (cA.1, n3, .inl rs3))]) (At (dC, dI) cA (va_A [(h0, .inr (8, [.int zs0, .int rw0, .int mk0, .ref b1, .ref a1, .ref a2, .ref a3])), (b1, .inr (3, [.int zs0, .int rw0, .int mk0, .int (bI false), .ref a0])), (a0, .inl (cA.1, n0, .inl f0)), (a1, .inl (cA.1, n1, .inl f1)), (a2, .inl (cA.1, n2, .inl f2)), (a3, .inl (cA.1, n3, .inl f3))] zz)) (va_A [(h0, .inr (8, [.int zs0, .int rw0, .int mk0, .ref b1, .ref a1, .ref a2, .ref a3])), (b1, .inr (3, [.int zs0, .int rw0, .int mk0, .int (bI false), .ref a0])), (a0, .inl (cA.1, n0, .inl f0)), (a1, .inl (cA.1, n1, .inl f1)), (a2, .inl (cA.1, n2, .inl f2)), (a3, .inl (cA.1, n3, .inl f3))] zz)) 0 0 (va_A [(h0, .inr (8, [.int zs0, .int rw0, .int mk0, .ref b1, .ref a1, .ref a2, .ref a3])), (b1, .inr (3, [.int zs0, .int rw0, .int mk0, .int (bI false), .ref a0])), (a0, .inl (cA.1, n0, .inl f0)), (a1, .inl (cA.1, n1, .inl f1)), (a2, .inl (cA.1, n2, .inl f2)), (a3, .inl (cA.1, n3, .inl f3))] zz) := by
  refine Met.ofW (cc := cTagged_learn) (maxL := 6) (ret := none) (by decide) rfl ?_
  intro p e s m args below meth c s₁ B hml hv
  obtain ⟨rfl, hsz, hN, hP, hK, hD0⟩ := hv
  have hx := B.exec
  have hb := B.bytes
  have hr := B.returns
  have hts := atoms_spec (ws := wTagged_learn) B.pre
  have htg : ∀ w ∈ GW, w.before _ s = true := fun w h => hts w (List.mem_cons_of_mem _ h)
  have hown : s.vm.findClass R_Tagged = some m.cls := findClass_of_methodNamed B.named
  have hlocks := B.notSynchronized
  subst hsz
  have hD := hD0.self (sz := s.heap.size)
  generalize hAe : va_A [(h0, .inr (8, [.int zs0, .int rw0, .int mk0, .ref b1, .ref a1, .ref a2, .ref a3])), (b1, .inr (3, [.int zs0, .int rw0, .int mk0, .int (bI false), .ref a0])), (a0, .inl (cA.1, n0, .inl f0)), (a1, .inl (cA.1, n1, .inl f1)), (a2, .inl (cA.1, n2, .inl f2)), (a3, .inl (cA.1, n3, .inl f3))] s.heap.size = A at hD ⊢
  have hA : ∀ q : Nat, s.heap.size ≤ q → A q := fun q h => by rw [← hAe]; exact Or.inr h
  have hS : va_S A s.heap s.heap [] := va_S.rf
  have hP : va_P (dC, dI) vwCl [(h0, .inr (8, [.int zs0, .int rw0, .int mk0, .ref b1, .ref a1, .ref a2, .ref a3])), (b1, .inr (3, [.int zs0, .int rw0, .int mk0, .int (bI false), .ref a0])), (a0, .inl (cA.1, n0, .inl f0)), (a1, .inl (cA.1, n1, .inl f1)), (a2, .inl (cA.1, n2, .inl f2)), (a3, .inl (cA.1, n3, .inl f3))] s.heap := hP
  have blk55 : ∀ (rs0 : (Nat → Int32)) (rs1 : (Nat → Int32)) (rs2 : (Nat → Int32)) (rs3 : (Nat → Int32)) (v4_b55 : Int32) (v5_b55 : Bool) (w_a0_a_b55 : Nat → Int32) (w_a2_a_b55 : Nat → Int32) (w_a3_a_b55 : Nat → Int32) (H : Heap) (locs : List Loc) (ls : Array Slot), of_Tagged_learn_b55 zs0 rw0 mk0 n1 f1 n2 n3 pl hs tk v4_b55 v5_b55 w_a0_a_b55 w_a2_a_b55 w_a3_a_b55 = some (rs0, rs1, rs2, rs3) → va_P (dC, dI) vwCl [(h0, .inr (8, [.int zs0, .int rw0, .int mk0, .ref b1, .ref a1, .ref a2, .ref a3])), (b1, .inr (3, [.int zs0, .int rw0, .int mk0, .int (bI false), .ref a0])), (a0, .inl (cA.1, n0, .inl w_a0_a_b55)), (a1, .inl (cA.1, n1, .inl f1)), (a2, .inl (cA.1, n2, .inl w_a2_a_b55)), (a3, .inl (cA.1, n3, .inl w_a3_a_b55))] H → va_D A [(h0, .inr (8, [.int zs0, .int rw0, .int mk0, .ref b1, .ref a1, .ref a2, .ref a3])), (b1, .inr (3, [.int zs0, .int rw0, .int mk0, .int (bI false), .ref a0])), (a0, .inl (cA.1, n0, .inl w_a0_a_b55)), (a1, .inl (cA.1, n1, .inl f1)), (a2, .inl (cA.1, n2, .inl w_a2_a_b55)), (a3, .inl (cA.1, n3, .inl w_a3_a_b55))] → va_S A s.heap H locs → lv_has ls 6 [(0, .ref h0), (1, .int pl), (2, .int hs), (3, .int (bI tk)), (4, .int v4_b55), (5, .int (bI v5_b55))] → W p l e (headSpec wTagged_learn ({ frames := 5, cells := 0, slots := 0, locals := 121 })).room s m ([.ref h0, .int pl, .int hs, .int (bI tk)] : List Value).toArray below meth c H locs 0 0 (MQ below (va_Qv (fun w9 => w9 = [(h0, .inr (8, [.int zs0, .int rw0, .int mk0, .ref b1, .ref a1, .ref a2, .ref a3])), (b1, .inr (3, [.int zs0, .int rw0, .int mk0, .int (bI false), .ref a0])), (a0, .inl (cA.1, n0, .inl rs0)), (a1, .inl (cA.1, n1, .inl rs1)), (a2, .inl (cA.1, n2, .inl rs2)), (a3, .inl (cA.1, n3, .inl rs3))]) (At (dC, dI) cA A) A) ([.ref h0, .int pl, .int hs, .int (bI tk)] : List Value).toArray s 0 0 A) (F0 m 55 ls []) := by
    intro rs0 rs1 rs2 rs3 v4_b55 v5_b55 w_a0_a_b55 w_a2_a_b55 w_a3_a_b55 H locs ls hfn hP hD hS hl
    unfold of_Tagged_learn_b55 at hfn
    refine lv_iload hx hb dTagged_learn_55 (lv_at hl 5 rfl) ?_
    refine lv_if_ne (tgt := 71) hx hb dTagged_learn_57 (by decide) (fun c_6 => ?_) (fun c_6 => ?_)
    · rw [if_neg c_6] at hfn
      replace hfn := Option.some.inj hfn
      obtain ⟨e9, hf_0⟩ := Prod.mk.inj hfn; clear hfn; subst e9
      obtain ⟨e9, hf_1⟩ := Prod.mk.inj hf_0; clear hf_0; subst e9
      obtain ⟨e9, hf_2⟩ := Prod.mk.inj hf_1; clear hf_1; subst e9
      subst hf_2
      exact W.vret hx hb hr (fun t ht hW => ⟨⟨_, rfl, rfl, ⟨by rw [ht]; exact hP.sub [0, 1, 2, 3, 4, 5] rfl, va_K.moved hW.alike hK, hD.sub [0, 1, 2, 3, 4, 5] (by decide) rfl⟩⟩, hS.F ht⟩) hS.2.2 dTagged_learn_71
    · rw [if_pos c_6] at hfn
      refine lv_aload_n hx hb dTagged_learn_60 rfl (lv_at hl 0 rfl) ?_
      refine lv_iload hx hb dTagged_learn_61 (lv_at hl 4 rfl) ?_
      refine lv_iconst (v := 1) hx hb dTagged_learn_63 (by decide) ?_
      refine lv_iadd hx hb dTagged_learn_64 ?_
      refine lv_iload_n hx hb dTagged_learn_65 rfl (lv_at hl 1 rfl) ?_
      refine lv_iload_n hx hb dTagged_learn_66 rfl (lv_at hl 2 rfl) ?_
      refine lv_iload_n hx hb dTagged_learn_67 rfl (lv_at hl 3 rfl) ?_
      obtain ⟨⟨z_7_0, z_7_1, z_7_2⟩, hz_7, hfn⟩ := ob hfn
      dsimp only at hfn
      refine wr_Vv (wr := []) (As := [.int (v4_b55 + 1), .int pl, .int hs, .int (bI tk)]) (rest := []) ⟨hx, hb, hml, hown, htg⟩ (c_Tagged_claim l dC dI cA _ h0 b1 a0 a1 a2 a3 zs0 rw0 mk0 n0 w_a0_a_b55 n1 f1 n2 w_a2_a_b55 n3 w_a3_a_b55 (v4_b55 + 1) pl hs tk hn0 hn1 hn2 hn3 z_7_0 z_7_1 z_7_2 hz_7) (cw_V htg wd_532 ws_15 qTagged_claim iTagged_claim kTagged_claim pTagged_claim rfl rfl ⟨Nat.le_of_ble_eq_true rfl, Nat.le_of_ble_eq_true rfl⟩) (va_recv hK hP (ci := 8) (q0 := 0) rfl rfl) hN hP hD hS hA hK [0, 1, 2, 3, 4, 5] [] rfl rfl (by decide) (by decide) (by decide) rfl hl.1 rfl (Nat.le_of_ble_eq_true rfl) dTagged_learn_68 ⟨Nat.le_of_ble_eq_true rfl, Nat.le_of_ble_eq_true rfl⟩ (fun H locs hP hD hS => ?_)
      have hP : va_P (dC, dI) vwCl [(h0, .inr (8, [.int zs0, .int rw0, .int mk0, .ref b1, .ref a1, .ref a2, .ref a3])), (b1, .inr (3, [.int zs0, .int rw0, .int mk0, .int (bI false), .ref a0])), (a0, .inl (cA.1, n0, .inl w_a0_a_b55)), (a1, .inl (cA.1, n1, .inl z_7_0)), (a2, .inl (cA.1, n2, .inl z_7_1)), (a3, .inl (cA.1, n3, .inl z_7_2))] H := hP
      have hD : va_D A [(h0, .inr (8, [.int zs0, .int rw0, .int mk0, .ref b1, .ref a1, .ref a2, .ref a3])), (b1, .inr (3, [.int zs0, .int rw0, .int mk0, .int (bI false), .ref a0])), (a0, .inl (cA.1, n0, .inl w_a0_a_b55)), (a1, .inl (cA.1, n1, .inl z_7_0)), (a2, .inl (cA.1, n2, .inl z_7_1)), (a3, .inl (cA.1, n3, .inl z_7_2))] := hD
      replace hfn := Option.some.inj hfn
      obtain ⟨e9, hf_0⟩ := Prod.mk.inj hfn; clear hfn; subst e9
      obtain ⟨e9, hf_1⟩ := Prod.mk.inj hf_0; clear hf_0; subst e9
      obtain ⟨e9, hf_2⟩ := Prod.mk.inj hf_1; clear hf_1; subst e9
      subst hf_2
      exact W.vret hx hb hr (fun t ht hW => ⟨⟨_, rfl, rfl, ⟨by rw [ht]; exact hP.sub [0, 1, 2, 3, 4, 5] rfl, va_K.moved hW.alike hK, hD.sub [0, 1, 2, 3, 4, 5] (by decide) rfl⟩⟩, hS.F ht⟩) hS.2.2 dTagged_learn_71
  have blk26 : ∀ (rs0 : (Nat → Int32)) (rs1 : (Nat → Int32)) (rs2 : (Nat → Int32)) (rs3 : (Nat → Int32)) (v4_b26 : Int32) (s0_b26 : Bool) (H : Heap) (locs : List Loc) (ls : Array Slot), of_Tagged_learn_b26 zs0 rw0 mk0 n0 f0 n1 f1 n2 f2 n3 f3 pl hs tk v4_b26 s0_b26 = some (rs0, rs1, rs2, rs3) → va_P (dC, dI) vwCl [(h0, .inr (8, [.int zs0, .int rw0, .int mk0, .ref b1, .ref a1, .ref a2, .ref a3])), (b1, .inr (3, [.int zs0, .int rw0, .int mk0, .int (bI false), .ref a0])), (a0, .inl (cA.1, n0, .inl f0)), (a1, .inl (cA.1, n1, .inl f1)), (a2, .inl (cA.1, n2, .inl f2)), (a3, .inl (cA.1, n3, .inl f3))] H → va_D A [(h0, .inr (8, [.int zs0, .int rw0, .int mk0, .ref b1, .ref a1, .ref a2, .ref a3])), (b1, .inr (3, [.int zs0, .int rw0, .int mk0, .int (bI false), .ref a0])), (a0, .inl (cA.1, n0, .inl f0)), (a1, .inl (cA.1, n1, .inl f1)), (a2, .inl (cA.1, n2, .inl f2)), (a3, .inl (cA.1, n3, .inl f3))] → va_S A s.heap H locs → lv_has ls 6 [(0, .ref h0), (1, .int pl), (2, .int hs), (3, .int (bI tk)), (4, .int v4_b26)] → W p l e (headSpec wTagged_learn ({ frames := 5, cells := 0, slots := 0, locals := 121 })).room s m ([.ref h0, .int pl, .int hs, .int (bI tk)] : List Value).toArray below meth c H locs 0 0 (MQ below (va_Qv (fun w9 => w9 = [(h0, .inr (8, [.int zs0, .int rw0, .int mk0, .ref b1, .ref a1, .ref a2, .ref a3])), (b1, .inr (3, [.int zs0, .int rw0, .int mk0, .int (bI false), .ref a0])), (a0, .inl (cA.1, n0, .inl rs0)), (a1, .inl (cA.1, n1, .inl rs1)), (a2, .inl (cA.1, n2, .inl rs2)), (a3, .inl (cA.1, n3, .inl rs3))]) (At (dC, dI) cA A) A) ([.ref h0, .int pl, .int hs, .int (bI tk)] : List Value).toArray s 0 0 A) (F0 m 26 ls [.int (bI s0_b26)]) := by
    intro rs0 rs1 rs2 rs3 v4_b26 s0_b26 H locs ls hfn hP hD hS hl
    unfold of_Tagged_learn_b26 at hfn
    refine lv_istore (lv' := [(5, .int (bI s0_b26)), (0, .ref h0), (1, .int pl), (2, .int hs), (3, .int (bI tk)), (4, .int v4_b26)]) hx hb dTagged_learn_26 hl (by decide) rfl (fun ls hl => ?_)
    refine lv_iload hx hb dTagged_learn_28 (lv_at hl 5 rfl) ?_
    refine lv_if_ge (tgt := 46) hx hb dTagged_learn_30 (by decide) (fun c_4 => ?_) (fun c_4 => ?_)
    · rw [if_pos c_4] at hfn
      refine lv_aload_n hx hb dTagged_learn_46 rfl (lv_at hl 1 rfl) ?_
      refine lv_iload hx hb dTagged_learn_47 (lv_at hl 5 rfl) ?_
      refine lv_iload_n hx hb dTagged_learn_49 rfl (lv_at hl 2 rfl) ?_
      refine lv_iload_n hx hb dTagged_learn_50 rfl (lv_at hl 3 rfl) ?_
      refine lv_iload_n hx hb dTagged_learn_51 rfl (lv_at hl 4 rfl) ?_
      obtain ⟨⟨z_5_0, z_5_1⟩, hz_5, hfn⟩ := ob hfn
      dsimp only at hfn
      refine wr_Vv (wr := []) (As := [.int v4_b26, .int pl, .int hs, .int (bI tk)]) (rest := []) ⟨hx, hb, hml, hown, htg⟩ (c_Tagged_learnHit l dC dI cA _ h0 b1 a0 a1 a2 a3 zs0 rw0 mk0 n0 f0 n1 f1 n2 f2 n3 f3 v4_b26 pl hs tk hn0 hn1 hn2 hn3 z_5_0 z_5_1 hz_5) (cw_V htg wd_527 ws_14 qTagged_learnHit iTagged_learnHit kTagged_learnHit pTagged_learnHit rfl rfl ⟨Nat.le_of_ble_eq_true rfl, Nat.le_of_ble_eq_true rfl⟩) (va_recv hK hP (ci := 8) (q0 := 0) rfl rfl) hN hP hD hS hA hK [0, 1, 2, 3, 4, 5] [] rfl rfl (by decide) (by decide) (by decide) rfl hl.1 rfl (Nat.le_of_ble_eq_true rfl) dTagged_learn_52 ⟨Nat.le_of_ble_eq_true rfl, Nat.le_of_ble_eq_true rfl⟩ (fun H locs hP hD hS => ?_)
      have hP : va_P (dC, dI) vwCl [(h0, .inr (8, [.int zs0, .int rw0, .int mk0, .ref b1, .ref a1, .ref a2, .ref a3])), (b1, .inr (3, [.int zs0, .int rw0, .int mk0, .int (bI false), .ref a0])), (a0, .inl (cA.1, n0, .inl f0)), (a1, .inl (cA.1, n1, .inl f1)), (a2, .inl (cA.1, n2, .inl z_5_0)), (a3, .inl (cA.1, n3, .inl z_5_1))] H := hP
      have hD : va_D A [(h0, .inr (8, [.int zs0, .int rw0, .int mk0, .ref b1, .ref a1, .ref a2, .ref a3])), (b1, .inr (3, [.int zs0, .int rw0, .int mk0, .int (bI false), .ref a0])), (a0, .inl (cA.1, n0, .inl f0)), (a1, .inl (cA.1, n1, .inl f1)), (a2, .inl (cA.1, n2, .inl z_5_0)), (a3, .inl (cA.1, n3, .inl z_5_1))] := hD
      exact blk55 _ _ _ _ v4_b26 s0_b26 f0 z_5_0 z_5_1 _ _ ls hfn (hP.sub [0, 1, 2, 3, 4, 5] rfl) (hD.sub [0, 1, 2, 3, 4, 5] (by decide) rfl) hS (lv_sub hl [1, 2, 3, 4, 5, 0] rfl)
    · rw [if_neg c_4] at hfn
      refine lv_aload_n hx hb dTagged_learn_33 rfl (lv_at hl 1 rfl) ?_
      refine va_get (D := (dC, dI)) (ci := 8) (v := .ref b1) (C := R_Tagged) (T := T_Tagged) (N := 7) hx hb htg in_Tagged hown hK hP 0 rfl rfl 3 (by decide) (htg _ wd_160) (fun _ h9 => h9) rfl dTagged_learn_34 ?_
      refine lv_iload_n hx hb dTagged_learn_37 rfl (lv_at hl 2 rfl) ?_
      refine lv_iload_n hx hb dTagged_learn_38 rfl (lv_at hl 3 rfl) ?_
      refine lv_iload_n hx hb dTagged_learn_39 rfl (lv_at hl 4 rfl) ?_
      refine wr_Vv (wr := [(h0, .inr (8, [.int zs0, .int rw0, .int mk0, .ref b1, .ref a1, .ref a2, .ref a3])), (a1, .inl (cA.1, n1, .inl f1)), (a2, .inl (cA.1, n2, .inl f2)), (a3, .inl (cA.1, n3, .inl f3))]) (As := [.int pl, .int hs, .int (bI tk)]) (rest := []) ⟨hx, hb, hml, hown, htg⟩ (c_Counters_learn l dC dI cA _ b1 a0 zs0 rw0 mk0 false n0 f0 pl hs tk hn0) (cw_V htg wd_526 wd_480 qCounters_learn iCounters_learn kCounters_learn pCounters_learn rfl rfl ⟨Nat.le_of_ble_eq_true rfl, Nat.le_of_ble_eq_true rfl⟩) (va_recv hK hP (ci := 3) (q0 := 1) rfl rfl) hN hP hD hS hA hK [1, 2] [0, 3, 4, 5] rfl rfl (by decide) (by decide) (by decide) rfl hl.1 rfl (Nat.le_of_ble_eq_true rfl) dTagged_learn_40 ⟨Nat.le_of_ble_eq_true rfl, Nat.le_of_ble_eq_true rfl⟩ (fun H locs hP hD hS => ?_)
      have hP : va_P (dC, dI) vwCl [(h0, .inr (8, [.int zs0, .int rw0, .int mk0, .ref b1, .ref a1, .ref a2, .ref a3])), (a1, .inl (cA.1, n1, .inl f1)), (a2, .inl (cA.1, n2, .inl f2)), (a3, .inl (cA.1, n3, .inl f3)), (b1, .inr (3, [.int zs0, .int rw0, .int mk0, .int (bI false), .ref a0])), (a0, .inl (cA.1, n0, .inl ((tf_Counters_learn zs0 mk0 false n0 f0 pl hs tk))))] H := hP
      have hD : va_D A [(h0, .inr (8, [.int zs0, .int rw0, .int mk0, .ref b1, .ref a1, .ref a2, .ref a3])), (a1, .inl (cA.1, n1, .inl f1)), (a2, .inl (cA.1, n2, .inl f2)), (a3, .inl (cA.1, n3, .inl f3)), (b1, .inr (3, [.int zs0, .int rw0, .int mk0, .int (bI false), .ref a0])), (a0, .inl (cA.1, n0, .inl ((tf_Counters_learn zs0 mk0 false n0 f0 pl hs tk))))] := hD
      refine lv_goto (tgt := 55) hx hb dTagged_learn_43 (by decide) ?_
      exact blk55 _ _ _ _ v4_b26 s0_b26 ((tf_Counters_learn zs0 mk0 false n0 f0 pl hs tk)) f2 f3 _ _ ls hfn (hP.sub [0, 4, 5, 1, 2, 3] rfl) (hD.sub [0, 4, 5, 1, 2, 3] (by decide) rfl) hS (lv_sub hl [1, 2, 3, 4, 5, 0] rfl)
  have hl := lv_entry ([.ref h0, .int pl, .int hs, .int (bI tk)]) (n := 6) (Nat.le_of_ble_eq_true rfl)
  rw [lg_entry_eq]
  generalize (lg_sl ([.ref h0, .int pl, .int hs, .int (bI tk)]) ++ List.replicate (6 - (lg_sl ([.ref h0, .int pl, .int hs, .int (bI tk)])).length) Slot.unset).toArray = ls at hl ⊢
  have hl : lv_has ls 6 [(0, .ref h0), (1, .int pl), (2, .int hs), (3, .int (bI tk))] := hl
  unfold of_Tagged_learn at hfn
  refine lv_aload_n hx hb dTagged_learn_0 rfl (lv_at hl 0 rfl) ?_
  refine lv_iload_n hx hb dTagged_learn_1 rfl (lv_at hl 1 rfl) ?_
  refine lv_iload_n hx hb dTagged_learn_2 rfl (lv_at hl 2 rfl) ?_
  refine lv_iconst (v := 3) hx hb dTagged_learn_3 (by decide) ?_
  obtain ⟨z_1, hz_1, hfn⟩ := ob hfn
  refine rd_V (As := [.int pl, .int hs, .int 3]) (rest := []) ⟨hx, hb, hml, hown, htg⟩ (c_Tagged_lastHit l dC dI cA h0 b1 a0 a1 a2 a3 zs0 rw0 mk0 n0 f0 n1 f1 n2 f2 n3 f3 pl hs 3 hn0 hn1 hn2 hn3 z_1 hz_1) (cw_V htg wd_405 ws_6 qTagged_lastHit iTagged_lastHit kTagged_lastHit pTagged_lastHit rfl rfl ⟨Nat.le_of_ble_eq_true rfl, Nat.le_of_ble_eq_true rfl⟩) (va_recv hK hP (ci := 8) (q0 := 0) rfl rfl) hN (hP.sub [0, 1, 2, 3, 4, 5] rfl) hK rfl hl.1 rfl (Nat.le_of_ble_eq_true rfl) dTagged_learn_4 ⟨Nat.le_of_ble_eq_true rfl, Nat.le_of_ble_eq_true rfl⟩ ?_
  refine lv_istore (lv' := [(4, .int z_1), (0, .ref h0), (1, .int pl), (2, .int hs), (3, .int (bI tk))]) hx hb dTagged_learn_7 hl (by decide) rfl (fun ls hl => ?_)
  refine lv_aload_n hx hb dTagged_learn_9 rfl (lv_at hl 1 rfl) ?_
  refine lv_iload hx hb dTagged_learn_10 (lv_at hl 0 rfl) ?_
  refine lv_iload_n hx hb dTagged_learn_12 rfl (lv_at hl 2 rfl) ?_
  refine lv_iload_n hx hb dTagged_learn_13 rfl (lv_at hl 3 rfl) ?_
  obtain ⟨z_2, hz_2, hfn⟩ := ob hfn
  refine rd_V (As := [.int z_1, .int pl, .int hs]) (rest := []) ⟨hx, hb, hml, hown, htg⟩ (c_Tagged_saidBy l dC dI cA h0 b1 a0 a1 a2 a3 zs0 rw0 mk0 n0 f0 n1 f1 n2 f2 n3 f3 z_1 pl hs hn0 hn1 hn2 hn3 z_2 hz_2) (cw_V htg wd_424 ws_9 qTagged_saidBy iTagged_saidBy kTagged_saidBy pTagged_saidBy rfl rfl ⟨Nat.le_of_ble_eq_true rfl, Nat.le_of_ble_eq_true rfl⟩) (va_recv hK hP (ci := 8) (q0 := 0) rfl rfl) hN (hP.sub [0, 1, 2, 3, 4, 5] rfl) hK rfl hl.1 rfl (Nat.le_of_ble_eq_true rfl) dTagged_learn_14 ⟨Nat.le_of_ble_eq_true rfl, Nat.le_of_ble_eq_true rfl⟩ ?_
  refine lv_iload_n hx hb dTagged_learn_17 rfl (lv_at hl 4 rfl) ?_
  refine lv_icmp_ne (tgt := 25) hx hb dTagged_learn_18 (by decide) (fun c_3 => ?_) (fun c_3 => ?_)
  · rw [if_neg c_3] at hfn
    refine lv_iconst (v := 0) hx hb dTagged_learn_25 (by decide) ?_
    exact blk26 _ _ _ _ z_1 false _ _ ls hfn (hP.sub [0, 1, 2, 3, 4, 5] rfl) (hD.sub [0, 1, 2, 3, 4, 5] (by decide) rfl) hS (lv_sub hl [1, 2, 3, 4, 0] rfl)
  · rw [if_pos c_3] at hfn
    refine lv_iconst (v := 1) hx hb dTagged_learn_21 (by decide) ?_
    refine lv_goto (tgt := 26) hx hb dTagged_learn_22 (by decide) ?_
    exact blk26 _ _ _ _ z_1 true _ _ ls hfn (hP.sub [0, 1, 2, 3, 4, 5] rfl) (hD.sub [0, 1, 2, 3, 4, 5] (by decide) rfl) hS (lv_sub hl [1, 2, 3, 4, 0] rfl)
def of_Tagged_number (zs0 : Int32) (rw0 : Int32) (mk0 : Int32) (n0 : Nat) (f0 : Nat → Int32) (n1 : Nat) (f1 : Nat → Int32) (n2 : Nat) (f2 : Nat → Int32) (pl : Int32) (hs : Int32) : Option (Int32) := ((of_Tagged_lastHit zs0 rw0 mk0 n1 f1 pl hs 3).bind fun z_1 => (if 0 ≤ z_1 then ((of_Tagged_cellOf zs0 rw0 mk0 z_1 pl hs).bind fun z_3 => some ((tf_PK_at n2 f2 z_3))) else some ((tf_Counters_number zs0 mk0 false n0 f0 pl hs))))
set_option maxHeartbeats 4000000 in
set_option maxRecDepth 100000 in
theorem c_Tagged_number (l : Launch) (dC : Nat → ClassId) (dI : Nat → Nat → Nat) (cA : ClassId × ClassId × ClassId) (h0 : Nat) (b1 : Nat) (a0 : Nat) (a1 : Nat) (a2 : Nat) (a3 : Nat) (zs0 : Int32) (rw0 : Int32) (mk0 : Int32) (n0 : Nat) (f0 : Nat → Int32) (n1 : Nat) (f1 : Nat → Int32) (n2 : Nat) (f2 : Nat → Int32) (n3 : Nat) (f3 : Nat → Int32) (pl : Int32) (hs : Int32) (hn0 : n0 < 2147483648) (hn1 : n1 < 2147483648) (hn2 : n2 < 2147483648) (hn3 : n3 < 2147483648) (rs0 : Int32) (hfn : (of_Tagged_number zs0 rw0 mk0 n0 f0 n1 f1 n2 f2 pl hs) = some (rs0)) : Met l yTagged_number wTagged_number ({ frames := 4, cells := 0, slots := 0, locals := 94 }) (va_Pc [.ref h0, .int pl, .int hs] (Rd (dC, dI) cA [(h0, .inr (8, [.int zs0, .int rw0, .int mk0, .ref b1, .ref a1, .ref a2, .ref a3])), (b1, .inr (3, [.int zs0, .int rw0, .int mk0, .int (bI false), .ref a0])), (a0, .inl (cA.1, n0, .inl f0)), (a1, .inl (cA.1, n1, .inl f1)), (a2, .inl (cA.1, n2, .inl f2)), (a3, .inl (cA.1, n3, .inl f3))])) (QcRead rs0) 0 0 (fun _ => False) := by
  refine Met.ofW (cc := cTagged_number) (maxL := 4) (ret := (some .int)) (by decide) rfl ?_
  intro p e s m args below meth c s₁ B hml hv
  obtain ⟨rfl, hN, hP, hK⟩ := hv
  have hx := B.exec
  have hb := B.bytes
  have hr := B.returns
  have hts := atoms_spec (ws := wTagged_number) B.pre
  have htg : ∀ w ∈ GW, w.before _ s = true := fun w h => hts w (List.mem_cons_of_mem _ h)
  have hown : s.vm.findClass R_Tagged = some m.cls := findClass_of_methodNamed B.named
  have hlocks := B.notSynchronized
  have hl := lv_entry ([.ref h0, .int pl, .int hs]) (n := 4) (Nat.le_of_ble_eq_true rfl)
  rw [lg_entry_eq]
  generalize (lg_sl ([.ref h0, .int pl, .int hs]) ++ List.replicate (4 - (lg_sl ([.ref h0, .int pl, .int hs])).length) Slot.unset).toArray = ls at hl ⊢
  have hl : lv_has ls 4 [(0, .ref h0), (1, .int pl), (2, .int hs)] := hl
  unfold of_Tagged_number at hfn
  refine lv_aload_n hx hb dTagged_number_0 rfl (lv_at hl 0 rfl) ?_
  refine lv_iload_n hx hb dTagged_number_1 rfl (lv_at hl 1 rfl) ?_
  refine lv_iload_n hx hb dTagged_number_2 rfl (lv_at hl 2 rfl) ?_
  refine lv_iconst (v := 3) hx hb dTagged_number_3 (by decide) ?_
  obtain ⟨z_1, hz_1, hfn⟩ := ob hfn
  refine rd_V (As := [.int pl, .int hs, .int 3]) (rest := []) ⟨hx, hb, hml, hown, htg⟩ (c_Tagged_lastHit l dC dI cA h0 b1 a0 a1 a2 a3 zs0 rw0 mk0 n0 f0 n1 f1 n2 f2 n3 f3 pl hs 3 hn0 hn1 hn2 hn3 z_1 hz_1) (cw_V htg wd_405 ws_6 qTagged_lastHit iTagged_lastHit kTagged_lastHit pTagged_lastHit rfl rfl ⟨Nat.le_of_ble_eq_true rfl, Nat.le_of_ble_eq_true rfl⟩) (va_recv hK hP (ci := 8) (q0 := 0) rfl rfl) hN (hP.sub [0, 1, 2, 3, 4, 5] rfl) hK rfl hl.1 rfl (Nat.le_of_ble_eq_true rfl) dTagged_number_4 ⟨Nat.le_of_ble_eq_true rfl, Nat.le_of_ble_eq_true rfl⟩ ?_
  refine lv_istore_n (lv' := [(3, .int z_1), (0, .ref h0), (1, .int pl), (2, .int hs)]) hx hb dTagged_number_7 rfl hl (by decide) rfl (fun ls hl => ?_)
  refine lv_iload_n hx hb dTagged_number_8 rfl (lv_at hl 0 rfl) ?_
  refine lv_if_ge (tgt := 24) hx hb dTagged_number_9 (by decide) (fun c_2 => ?_) (fun c_2 => ?_)
  · rw [if_pos c_2] at hfn
    refine lv_aload_n hx hb dTagged_number_24 rfl (lv_at hl 1 rfl) ?_
    refine va_get (D := (dC, dI)) (ci := 8) (v := .ref a2) (C := R_Tagged) (T := T_Tagged) (N := 7) hx hb htg in_Tagged hown hK hP 0 rfl rfl 5 (by decide) (htg _ wd_162) (fun _ h9 => h9) rfl dTagged_number_25 ?_
    refine lv_aload_n hx hb dTagged_number_28 rfl (lv_at hl 1 rfl) ?_
    refine lv_iload_n hx hb dTagged_number_29 rfl (lv_at hl 0 rfl) ?_
    refine lv_iload_n hx hb dTagged_number_30 rfl (lv_at hl 2 rfl) ?_
    refine lv_iload_n hx hb dTagged_number_31 rfl (lv_at hl 3 rfl) ?_
    obtain ⟨z_3, hz_3, hfn⟩ := ob hfn
    refine rd_V (As := [.int z_1, .int pl, .int hs]) (rest := [.ref a2]) ⟨hx, hb, hml, hown, htg⟩ (c_Tagged_cellOf l dC dI cA h0 b1 a0 a1 a2 a3 zs0 rw0 mk0 n0 f0 n1 f1 n2 f2 n3 f3 z_1 pl hs hn0 hn1 hn2 hn3 z_3 hz_3) (cw_V htg wd_409 ws_7 qTagged_cellOf iTagged_cellOf kTagged_cellOf pTagged_cellOf rfl rfl ⟨Nat.le_of_ble_eq_true rfl, Nat.le_of_ble_eq_true rfl⟩) (va_recv hK hP (ci := 8) (q0 := 0) rfl rfl) hN (hP.sub [0, 1, 2, 3, 4, 5] rfl) hK rfl hl.1 rfl (Nat.le_of_ble_eq_true rfl) dTagged_number_32 ⟨Nat.le_of_ble_eq_true rfl, Nat.le_of_ble_eq_true rfl⟩ ?_
    refine rd_SN (As := [.ref a2, .int z_3]) (rest := []) ⟨hx, hb, hml, hown, htg⟩ (c_PK_at l dC dI cA a2 n2 f2 z_3 hn2) (cw_SN htg hN wn_419 qPK_at iPK_at kPK_at pPK_at rfl rfl ⟨Nat.le_of_ble_eq_true rfl, Nat.le_of_ble_eq_true rfl⟩) hN (hP.sub [4] rfl) hK rfl hl.1 rfl (Nat.le_of_ble_eq_true rfl) dTagged_number_35 ⟨Nat.le_of_ble_eq_true rfl, Nat.le_of_ble_eq_true rfl⟩ ?_
    replace hfn := Option.some.inj hfn
    subst hfn
    exact W.iret hx hb hr (fun t ht hW => ⟨rfl, ht⟩) (fun _ h => by cases h) dTagged_number_38
  · rw [if_neg c_2] at hfn
    refine lv_aload_n hx hb dTagged_number_12 rfl (lv_at hl 1 rfl) ?_
    refine va_get (D := (dC, dI)) (ci := 8) (v := .ref b1) (C := R_Tagged) (T := T_Tagged) (N := 7) hx hb htg in_Tagged hown hK hP 0 rfl rfl 3 (by decide) (htg _ wd_160) (fun _ h9 => h9) rfl dTagged_number_13 ?_
    refine lv_iload_n hx hb dTagged_number_16 rfl (lv_at hl 2 rfl) ?_
    refine lv_iload_n hx hb dTagged_number_17 rfl (lv_at hl 3 rfl) ?_
    refine rd_V (As := [.int pl, .int hs]) (rest := []) ⟨hx, hb, hml, hown, htg⟩ (c_Counters_number l dC dI cA b1 a0 zs0 rw0 mk0 false n0 f0 pl hs hn0) (cw_V htg wd_589 wd_1031 qCounters_number iCounters_number kCounters_number pCounters_number rfl rfl ⟨Nat.le_of_ble_eq_true rfl, Nat.le_of_ble_eq_true rfl⟩) (va_recv hK hP (ci := 3) (q0 := 1) rfl rfl) hN (hP.sub [1, 2] rfl) hK rfl hl.1 rfl (Nat.le_of_ble_eq_true rfl) dTagged_number_18 ⟨Nat.le_of_ble_eq_true rfl, Nat.le_of_ble_eq_true rfl⟩ ?_
    refine lv_goto (tgt := 38) hx hb dTagged_number_21 (by decide) ?_
    replace hfn := Option.some.inj hfn
    subst hfn
    exact W.iret hx hb hr (fun t ht hW => ⟨rfl, ht⟩) (fun _ h => by cases h) dTagged_number_38
def of_Tagged_answering (zs0 : Int32) (rw0 : Int32) (mk0 : Int32) (n1 : Nat) (f1 : Nat → Int32) (pl : Int32) (hs : Int32) : Option (Int32) := ((of_Tagged_lastHit zs0 rw0 mk0 n1 f1 pl hs 3).bind fun z_1 => some (z_1))
set_option maxHeartbeats 4000000 in
set_option maxRecDepth 100000 in
theorem c_Tagged_answering (l : Launch) (dC : Nat → ClassId) (dI : Nat → Nat → Nat) (cA : ClassId × ClassId × ClassId) (h0 : Nat) (b1 : Nat) (a0 : Nat) (a1 : Nat) (a2 : Nat) (a3 : Nat) (zs0 : Int32) (rw0 : Int32) (mk0 : Int32) (n0 : Nat) (f0 : Nat → Int32) (n1 : Nat) (f1 : Nat → Int32) (n2 : Nat) (f2 : Nat → Int32) (n3 : Nat) (f3 : Nat → Int32) (pl : Int32) (hs : Int32) (hn0 : n0 < 2147483648) (hn1 : n1 < 2147483648) (hn2 : n2 < 2147483648) (hn3 : n3 < 2147483648) (rs0 : Int32) (hfn : (of_Tagged_answering zs0 rw0 mk0 n1 f1 pl hs) = some (rs0)) : Met l yTagged_answering wTagged_answering ({ frames := 4, cells := 0, slots := 0, locals := 94 }) (va_Pc [.ref h0, .int pl, .int hs] (Rd (dC, dI) cA [(h0, .inr (8, [.int zs0, .int rw0, .int mk0, .ref b1, .ref a1, .ref a2, .ref a3])), (b1, .inr (3, [.int zs0, .int rw0, .int mk0, .int (bI false), .ref a0])), (a0, .inl (cA.1, n0, .inl f0)), (a1, .inl (cA.1, n1, .inl f1)), (a2, .inl (cA.1, n2, .inl f2)), (a3, .inl (cA.1, n3, .inl f3))])) (QcRead rs0) 0 0 (fun _ => False) := by
  refine Met.ofW (cc := cTagged_answering) (maxL := 3) (ret := (some .int)) (by decide) rfl ?_
  intro p e s m args below meth c s₁ B hml hv
  obtain ⟨rfl, hN, hP, hK⟩ := hv
  have hx := B.exec
  have hb := B.bytes
  have hr := B.returns
  have hts := atoms_spec (ws := wTagged_answering) B.pre
  have htg : ∀ w ∈ GW, w.before _ s = true := fun w h => hts w (List.mem_cons_of_mem _ h)
  have hown : s.vm.findClass R_Tagged = some m.cls := findClass_of_methodNamed B.named
  have hlocks := B.notSynchronized
  have hl := lv_entry ([.ref h0, .int pl, .int hs]) (n := 3) (Nat.le_of_ble_eq_true rfl)
  rw [lg_entry_eq]
  generalize (lg_sl ([.ref h0, .int pl, .int hs]) ++ List.replicate (3 - (lg_sl ([.ref h0, .int pl, .int hs])).length) Slot.unset).toArray = ls at hl ⊢
  have hl : lv_has ls 3 [(0, .ref h0), (1, .int pl), (2, .int hs)] := hl
  unfold of_Tagged_answering at hfn
  refine lv_aload_n hx hb dTagged_answering_0 rfl (lv_at hl 0 rfl) ?_
  refine lv_iload_n hx hb dTagged_answering_1 rfl (lv_at hl 1 rfl) ?_
  refine lv_iload_n hx hb dTagged_answering_2 rfl (lv_at hl 2 rfl) ?_
  refine lv_iconst (v := 3) hx hb dTagged_answering_3 (by decide) ?_
  obtain ⟨z_1, hz_1, hfn⟩ := ob hfn
  refine rd_V (As := [.int pl, .int hs, .int 3]) (rest := []) ⟨hx, hb, hml, hown, htg⟩ (c_Tagged_lastHit l dC dI cA h0 b1 a0 a1 a2 a3 zs0 rw0 mk0 n0 f0 n1 f1 n2 f2 n3 f3 pl hs 3 hn0 hn1 hn2 hn3 z_1 hz_1) (cw_V htg wd_405 ws_6 qTagged_lastHit iTagged_lastHit kTagged_lastHit pTagged_lastHit rfl rfl ⟨Nat.le_of_ble_eq_true rfl, Nat.le_of_ble_eq_true rfl⟩) (va_recv hK hP (ci := 8) (q0 := 0) rfl rfl) hN (hP.sub [0, 1, 2, 3, 4, 5] rfl) hK rfl hl.1 rfl (Nat.le_of_ble_eq_true rfl) dTagged_answering_4 ⟨Nat.le_of_ble_eq_true rfl, Nat.le_of_ble_eq_true rfl⟩ ?_
  replace hfn := Option.some.inj hfn
  subst hfn
  exact W.iret hx hb hr (fun t ht hW => ⟨rfl, ht⟩) (fun _ h => by cases h) dTagged_answering_7
def tf_Tagged_bits (rw0 : Int32) : Int32 := ((((tf_Counters_bits rw0 false) + (39 * rw0)) + 32))
set_option maxHeartbeats 4000000 in
set_option maxRecDepth 100000 in
theorem c_Tagged_bits (l : Launch) (dC : Nat → ClassId) (dI : Nat → Nat → Nat) (cA : ClassId × ClassId × ClassId) (h0 : Nat) (b1 : Nat) (a0 : Nat) (a1 : Nat) (a2 : Nat) (a3 : Nat) (zs0 : Int32) (rw0 : Int32) (mk0 : Int32) (n0 : Nat) (f0 : Nat → Int32) (n1 : Nat) (f1 : Nat → Int32) (n2 : Nat) (f2 : Nat → Int32) (n3 : Nat) (f3 : Nat → Int32) (hn0 : n0 < 2147483648) (hn1 : n1 < 2147483648) (hn2 : n2 < 2147483648) (hn3 : n3 < 2147483648) : Met l yTagged_bits wTagged_bits ({ frames := 1, cells := 0, slots := 0, locals := 20 }) (va_Pc [.ref h0] (Rd (dC, dI) cA [(h0, .inr (8, [.int zs0, .int rw0, .int mk0, .ref b1, .ref a1, .ref a2, .ref a3])), (b1, .inr (3, [.int zs0, .int rw0, .int mk0, .int (bI false), .ref a0])), (a0, .inl (cA.1, n0, .inl f0)), (a1, .inl (cA.1, n1, .inl f1)), (a2, .inl (cA.1, n2, .inl f2)), (a3, .inl (cA.1, n3, .inl f3))])) (QcRead (tf_Tagged_bits rw0)) 0 0 (fun _ => False) := by
  refine Met.ofW (cc := cTagged_bits) (maxL := 1) (ret := (some .int)) (by decide) rfl ?_
  intro p e s m args below meth c s₁ B hml hv
  obtain ⟨rfl, hN, hP, hK⟩ := hv
  have hx := B.exec
  have hb := B.bytes
  have hr := B.returns
  have hts := atoms_spec (ws := wTagged_bits) B.pre
  have htg : ∀ w ∈ GW, w.before _ s = true := fun w h => hts w (List.mem_cons_of_mem _ h)
  have hown : s.vm.findClass R_Tagged = some m.cls := findClass_of_methodNamed B.named
  have hlocks := B.notSynchronized
  obtain ⟨rs, hfn⟩ : ∃ rs, (tf_Tagged_bits rw0) = rs := ⟨_, rfl⟩
  try rw [hfn]
  have hl := lv_entry ([.ref h0]) (n := 1) (Nat.le_of_ble_eq_true rfl)
  rw [lg_entry_eq]
  generalize (lg_sl ([.ref h0]) ++ List.replicate (1 - (lg_sl ([.ref h0])).length) Slot.unset).toArray = ls at hl ⊢
  have hl : lv_has ls 1 [(0, .ref h0)] := hl
  unfold tf_Tagged_bits at hfn
  refine lv_aload_n hx hb dTagged_bits_0 rfl (lv_at hl 0 rfl) ?_
  refine va_get (D := (dC, dI)) (ci := 8) (v := .ref b1) (C := R_Tagged) (T := T_Tagged) (N := 7) hx hb htg in_Tagged hown hK hP 0 rfl rfl 3 (by decide) (htg _ wd_160) (fun _ h9 => h9) rfl dTagged_bits_1 ?_
  refine rd_V (As := []) (rest := []) ⟨hx, hb, hml, hown, htg⟩ (c_Counters_bits l dC dI cA b1 a0 zs0 rw0 mk0 false n0 f0 hn0) (cw_V htg wd_650 wd_628 qCounters_bits iCounters_bits kCounters_bits pCounters_bits rfl rfl ⟨Nat.le_of_ble_eq_true rfl, Nat.le_of_ble_eq_true rfl⟩) (va_recv hK hP (ci := 3) (q0 := 1) rfl rfl) hN (hP.sub [1, 2] rfl) hK rfl hl.1 rfl (Nat.le_of_ble_eq_true rfl) dTagged_bits_4 ⟨Nat.le_of_ble_eq_true rfl, Nat.le_of_ble_eq_true rfl⟩ ?_
  refine lv_bipush (v := 39) hx hb dTagged_bits_7 (by decide) ?_
  refine lv_aload_n hx hb dTagged_bits_9 rfl (lv_at hl 0 rfl) ?_
  refine va_get (D := (dC, dI)) (ci := 8) (v := .int rw0) (C := R_Tagged) (T := T_Tagged) (N := 7) hx hb htg in_Tagged hown hK hP 0 rfl rfl 1 (by decide) (htg _ wd_74) (fun x9 h9 => u_same (htg _ wd_75) x9 h9) rfl dTagged_bits_10 ?_
  refine lv_imul hx hb dTagged_bits_13 ?_
  refine lv_iadd hx hb dTagged_bits_14 ?_
  refine lv_bipush (v := 32) hx hb dTagged_bits_15 (by decide) ?_
  refine lv_iadd hx hb dTagged_bits_17 ?_
  subst hfn
  exact W.iret hx hb hr (fun t ht hW => ⟨rfl, ht⟩) (fun _ h => by cases h) dTagged_bits_18
