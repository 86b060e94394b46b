def tf_Sums_firstWeight (zs0 : Int32) (mk0 : Int32) (pl : Int32) : Int32 := ((9 * (tf_Sums_plainRow zs0 mk0 pl)))
set_option maxHeartbeats 4000000 in
set_option maxRecDepth 100000 in
theorem c_Sums_firstWeight (l : Launch) (dC : Nat → ClassId) (dI : Nat → Nat → Nat) (cA : ClassId × ClassId × ClassId) (h0 : Nat) (a1 : Nat) (zs0 : Int32) (rw0 : Int32) (mk0 : Int32) (n1 : Nat) (f1 : Nat → Int32) (pl : Int32) (hn1 : n1 < 2147483648) : Met l ySums_firstWeight wSums_firstWeight ({ frames := 1, cells := 0, slots := 0, locals := 21 }) (va_Pc [.ref h0, .int pl] (Rd (dC, dI) cA [(h0, .inr (7, [.int zs0, .int rw0, .int mk0, .ref a1])), (a1, .inl (cA.1, n1, .inl f1))])) (QcRead (tf_Sums_firstWeight zs0 mk0 pl)) 0 0 (fun _ => False) := by
  refine Met.ofW (cc := cSums_firstWeight) (maxL := 2) (ret := (some .int)) (by decide) rfl ?_
  intro p e s m args below meth c s₁ B hml hv
  obtain ⟨rfl, hN, hP, hK⟩ := hv
  have hx := B.exec
  have hb := B.bytes
  have hr := B.returns
  have hts := atoms_spec (ws := wSums_firstWeight) B.pre
  have htg : ∀ w ∈ GW, w.before _ s = true := fun w h => hts w (List.mem_cons_of_mem _ h)
  have hown : s.vm.findClass R_Sums = some m.cls := findClass_of_methodNamed B.named
  have hlocks := B.notSynchronized
  obtain ⟨rs, hfn⟩ : ∃ rs, (tf_Sums_firstWeight zs0 mk0 pl) = rs := ⟨_, rfl⟩
  try rw [hfn]
  have hl := lv_entry ([.ref h0, .int pl]) (n := 2) (Nat.le_of_ble_eq_true rfl)
  rw [lg_entry_eq]
  generalize (lg_sl ([.ref h0, .int pl]) ++ List.replicate (2 - (lg_sl ([.ref h0, .int pl])).length) Slot.unset).toArray = ls at hl ⊢
  have hl : lv_has ls 2 [(0, .ref h0), (1, .int pl)] := hl
  unfold tf_Sums_firstWeight at hfn
  refine lv_bipush (v := 9) hx hb dSums_firstWeight_0 (by decide) ?_
  refine lv_aload_n hx hb dSums_firstWeight_2 rfl (lv_at hl 0 rfl) ?_
  refine lv_iload_n hx hb dSums_firstWeight_3 rfl (lv_at hl 1 rfl) ?_
  refine rd_U (As := [.int pl]) (rest := [.int 9]) ⟨hx, hb, hml, hown, htg⟩ (c_Sums_plainRow l dC dI cA h0 a1 zs0 rw0 mk0 n1 f1 pl hn1) (cw_U (n := 1) htg wd_397 wd_398 wd_399 qKind_plainRow iKind_plainRow kKind_plainRow (va_Decl.abs (hN _ wn_318)) (by decide +kernel) (by decide +kernel) rfl rfl ⟨Nat.le_of_ble_eq_true rfl, Nat.le_of_ble_eq_true rfl⟩) (va_recv hK hP (ci := 7) (q0 := 0) rfl rfl) hN (hP.sub [0, 1] rfl) hK rfl hl.1 rfl (Nat.le_of_ble_eq_true rfl) dSums_firstWeight_4 ⟨Nat.le_of_ble_eq_true rfl, Nat.le_of_ble_eq_true rfl⟩ ?_
  refine lv_imul hx hb dSums_firstWeight_7 ?_
  subst hfn
  exact W.iret hx hb hr (fun t ht hW => ⟨rfl, ht⟩) (fun _ h => by cases h) dSums_firstWeight_8
def of_Sums_number_b19 : Nat → Int32 → Int32 → Nat → (Nat → Int32) → Int32 → Int32 → Int32 → Int32 → Option (Int32)
  | 0, _, _, _, _, _, _, _, _ => none
  | n + 1, zs0, mk0, n1, f1, pl, hs, v4_b19, v5_b19 => (if 8 ≤ v5_b19 then some (v4_b19) else (if (bI (tf_PK_bitOf hs v5_b19)) = 0 then of_Sums_number_b19 n zs0 mk0 n1 f1 pl hs (v4_b19 + (-(tf_PK_at n1 f1 (((tf_Sums_firstWeight zs0 mk0 pl) + v5_b19) + 1)))) (v5_b19 + 1) else of_Sums_number_b19 n zs0 mk0 n1 f1 pl hs (v4_b19 + (tf_PK_at n1 f1 (((tf_Sums_firstWeight zs0 mk0 pl) + v5_b19) + 1))) (v5_b19 + 1)))
def of_Sums_number (zs0 : Int32) (mk0 : Int32) (n1 : Nat) (f1 : Nat → Int32) (pl : Int32) (hs : Int32) : Option (Int32) := of_Sums_number_b19 4096 zs0 mk0 n1 f1 pl hs (tf_PK_at n1 f1 (tf_Sums_firstWeight zs0 mk0 pl)) 0
set_option maxHeartbeats 4000000 in
set_option maxRecDepth 100000 in
theorem c_Sums_number (l : Launch) (dC : Nat → ClassId) (dI : Nat → Nat → Nat) (cA : ClassId × ClassId × ClassId) (h0 : Nat) (a1 : Nat) (zs0 : Int32) (rw0 : Int32) (mk0 : Int32) (n1 : Nat) (f1 : Nat → Int32) (pl : Int32) (hs : Int32) (hn1 : n1 < 2147483648) (rs0 : Int32) (hfn : (of_Sums_number zs0 mk0 n1 f1 pl hs) = some (rs0)) : Met l ySums_number wSums_number ({ frames := 2, cells := 0, slots := 0, locals := 42 }) (va_Pc [.ref h0, .int pl, .int hs] (Rd (dC, dI) cA [(h0, .inr (7, [.int zs0, .int rw0, .int mk0, .ref a1])), (a1, .inl (cA.1, n1, .inl f1))])) (QcRead rs0) 0 0 (fun _ => False) := by
  refine Met.ofW (cc := cSums_number) (maxL := 7) (ret := (some .int)) (by decide) rfl ?_
  intro p e s m args below meth c s₁ B hml hv
  obtain ⟨rfl, hN, hP, hK⟩ := hv
  have hx := B.exec
  have hb := B.bytes
  have hr := B.returns
  have hts := atoms_spec (ws := wSums_number) B.pre
  have htg : ∀ w ∈ GW, w.before _ s = true := fun w h => hts w (List.mem_cons_of_mem _ h)
  have hown : s.vm.findClass R_Sums = some m.cls := findClass_of_methodNamed B.named
  have hlocks := B.notSynchronized
  have blk19 : ∀ n : Nat, ∀ (rs0 : Int32) (v4_b19 : Int32) (v5_b19 : Int32) (ls : Array Slot), of_Sums_number_b19 n zs0 mk0 n1 f1 pl hs v4_b19 v5_b19 = some (rs0) → lv_has ls 7 [(0, .ref h0), (2, .int hs), (3, .int (tf_Sums_firstWeight zs0 mk0 pl)), (4, .int v4_b19), (5, .int v5_b19)] → W p l e (headSpec wSums_number ({ frames := 2, cells := 0, slots := 0, locals := 42 })).room s m ([.ref h0, .int pl, .int hs] : List Value).toArray below meth c s.heap [] 0 0 (MQ below (QcRead rs0) ([.ref h0, .int pl, .int hs] : List Value).toArray s 0 0 (fun _ => False)) (F0 m 19 ls []) := by
    intro n
    induction n with
    | zero =>
      intro rs0 v4_b19 v5_b19 ls hfn hl
      exact absurd hfn (by intro h; cases h)
    | succ n ih =>
      intro rs0 v4_b19 v5_b19 ls hfn hl
      unfold of_Sums_number_b19 at hfn
      refine lv_iload hx hb dSums_number_19 (lv_at hl 4 rfl) ?_
      refine lv_bipush (v := 8) hx hb dSums_number_21 (by decide) ?_
      refine lv_icmp_ge (tgt := 69) hx hb dSums_number_23 (by decide) (fun c_1 => ?_) (fun c_1 => ?_)
      · rw [if_pos c_1] at hfn
        refine lv_iload hx hb dSums_number_69 (lv_at hl 3 rfl) ?_
        replace hfn := Option.some.inj hfn
        subst hfn
        exact W.iret hx hb hr (fun t ht hW => ⟨rfl, ht⟩) (fun _ h => by cases h) dSums_number_71
      · rw [if_neg c_1] at hfn
        refine lv_aload_n hx hb dSums_number_26 rfl (lv_at hl 0 rfl) ?_
        refine va_get (D := (dC, dI)) (ci := 7) (v := .ref a1) (C := R_Sums) (T := T_Sums) (N := 4) hx hb htg in_Sums hown hK hP 0 rfl rfl 3 (by decide) (htg _ wd_183) (fun _ h9 => h9) rfl dSums_number_27 ?_
        refine lv_iload_n hx hb dSums_number_30 rfl (lv_at hl 2 rfl) ?_
        refine lv_iload hx hb dSums_number_31 (lv_at hl 4 rfl) ?_
        refine lv_iadd hx hb dSums_number_33 ?_
        refine lv_iconst (v := 1) hx hb dSums_number_34 (by decide) ?_
        refine lv_iadd hx hb dSums_number_35 ?_
        refine rd_SN (As := [.ref a1, .int (((tf_Sums_firstWeight zs0 mk0 pl) + v5_b19) + 1)]) (rest := []) ⟨hx, hb, hml, hown, htg⟩ (c_PK_at l dC dI cA a1 n1 f1 (((tf_Sums_firstWeight zs0 mk0 pl) + v5_b19) + 1) hn1) (cw_SN htg hN wn_400 qPK_at iPK_at kPK_at pPK_at rfl rfl ⟨Nat.le_of_ble_eq_true rfl, Nat.le_of_ble_eq_true rfl⟩) hN (hP.sub [1] rfl) hK rfl hl.1 rfl (Nat.le_of_ble_eq_true rfl) dSums_number_36 ⟨Nat.le_of_ble_eq_true rfl, Nat.le_of_ble_eq_true rfl⟩ ?_
        refine lv_istore (lv' := [(6, .int (tf_PK_at n1 f1 (((tf_Sums_firstWeight zs0 mk0 pl) + v5_b19) + 1))), (0, .ref h0), (2, .int hs), (3, .int (tf_Sums_firstWeight zs0 mk0 pl)), (4, .int v4_b19), (5, .int v5_b19)]) hx hb dSums_number_39 hl (by decide) rfl (fun ls hl => ?_)
        refine lv_iload hx hb dSums_number_41 (lv_at hl 4 rfl) ?_
        refine lv_iload_n hx hb dSums_number_43 rfl (lv_at hl 2 rfl) ?_
        refine lv_iload hx hb dSums_number_44 (lv_at hl 5 rfl) ?_
        refine rd_SN (As := [.int hs, .int v5_b19]) (rest := [.int v4_b19]) ⟨hx, hb, hml, hown, htg⟩ (c_PK_bitOf l dC dI cA hs v5_b19) (cw_SN htg hN wn_401 qPK_bitOf iPK_bitOf kPK_bitOf pPK_bitOf rfl rfl ⟨Nat.le_of_ble_eq_true rfl, Nat.le_of_ble_eq_true rfl⟩) hN (hP.sub [] rfl) hK rfl hl.1 rfl (Nat.le_of_ble_eq_true rfl) dSums_number_46 ⟨Nat.le_of_ble_eq_true rfl, Nat.le_of_ble_eq_true rfl⟩ ?_
        refine lv_if_eq (tgt := 57) hx hb dSums_number_49 (by decide) (fun c_2 => ?_) (fun c_2 => ?_)
        · rw [if_pos c_2] at hfn
          refine lv_iload hx hb dSums_number_57 (lv_at hl 0 rfl) ?_
          refine lv_ineg hx hb dSums_number_59 ?_
          refine lv_iadd hx hb dSums_number_60 ?_
          refine lv_istore (lv' := [(4, .int (v4_b19 + (-(tf_PK_at n1 f1 (((tf_Sums_firstWeight zs0 mk0 pl) + v5_b19) + 1))))), (6, .int (tf_PK_at n1 f1 (((tf_Sums_firstWeight zs0 mk0 pl) + v5_b19) + 1))), (0, .ref h0), (2, .int hs), (3, .int (tf_Sums_firstWeight zs0 mk0 pl)), (5, .int v5_b19)]) hx hb dSums_number_61 hl (by decide) rfl (fun ls hl => ?_)
          refine lv_iinc (v := (v5_b19 + 1)) (lv' := [(5, .int (v5_b19 + 1)), (4, .int (v4_b19 + (-(tf_PK_at n1 f1 (((tf_Sums_firstWeight zs0 mk0 pl) + v5_b19) + 1))))), (6, .int (tf_PK_at n1 f1 (((tf_Sums_firstWeight zs0 mk0 pl) + v5_b19) + 1))), (0, .ref h0), (2, .int hs), (3, .int (tf_Sums_firstWeight zs0 mk0 pl))]) hx hb dSums_number_63 hl (k := 5) rfl rfl (by decide) rfl (fun ls hl => ?_)
          refine lv_goto (tgt := 19) hx hb dSums_number_66 (by decide) ?_
          exact ih _ (v4_b19 + (-(tf_PK_at n1 f1 (((tf_Sums_firstWeight zs0 mk0 pl) + v5_b19) + 1)))) (v5_b19 + 1) ls hfn (lv_sub hl [3, 4, 5, 1, 0] rfl)
        · rw [if_neg c_2] at hfn
          refine lv_iload hx hb dSums_number_52 (lv_at hl 0 rfl) ?_
          refine lv_goto (tgt := 60) hx hb dSums_number_54 (by decide) ?_
          refine lv_iadd hx hb dSums_number_60 ?_
          refine lv_istore (lv' := [(4, .int (v4_b19 + (tf_PK_at n1 f1 (((tf_Sums_firstWeight zs0 mk0 pl) + v5_b19) + 1)))), (6, .int (tf_PK_at n1 f1 (((tf_Sums_firstWeight zs0 mk0 pl) + v5_b19) + 1))), (0, .ref h0), (2, .int hs), (3, .int (tf_Sums_firstWeight zs0 mk0 pl)), (5, .int v5_b19)]) hx hb dSums_number_61 hl (by decide) rfl (fun ls hl => ?_)
          refine lv_iinc (v := (v5_b19 + 1)) (lv' := [(5, .int (v5_b19 + 1)), (4, .int (v4_b19 + (tf_PK_at n1 f1 (((tf_Sums_firstWeight zs0 mk0 pl) + v5_b19) + 1)))), (6, .int (tf_PK_at n1 f1 (((tf_Sums_firstWeight zs0 mk0 pl) + v5_b19) + 1))), (0, .ref h0), (2, .int hs), (3, .int (tf_Sums_firstWeight zs0 mk0 pl))]) hx hb dSums_number_63 hl (k := 5) rfl rfl (by decide) rfl (fun ls hl => ?_)
          refine lv_goto (tgt := 19) hx hb dSums_number_66 (by decide) ?_
          exact ih _ (v4_b19 + (tf_PK_at n1 f1 (((tf_Sums_firstWeight zs0 mk0 pl) + v5_b19) + 1))) (v5_b19 + 1) ls hfn (lv_sub hl [3, 4, 5, 1, 0] rfl)
  have hl := lv_entry ([.ref h0, .int pl, .int hs]) (n := 7) (Nat.le_of_ble_eq_true rfl)
  rw [lg_entry_eq]
  generalize (lg_sl ([.ref h0, .int pl, .int hs]) ++ List.replicate (7 - (lg_sl ([.ref h0, .int pl, .int hs])).length) Slot.unset).toArray = ls at hl ⊢
  have hl : lv_has ls 7 [(0, .ref h0), (1, .int pl), (2, .int hs)] := hl
  unfold of_Sums_number at hfn
  refine lv_aload_n hx hb dSums_number_0 rfl (lv_at hl 0 rfl) ?_
  refine lv_iload_n hx hb dSums_number_1 rfl (lv_at hl 1 rfl) ?_
  refine rd_V (As := [.int pl]) (rest := []) ⟨hx, hb, hml, hown, htg⟩ (c_Sums_firstWeight l dC dI cA h0 a1 zs0 rw0 mk0 n1 f1 pl hn1) (cw_V htg wd_393 ws_5 qSums_firstWeight iSums_firstWeight kSums_firstWeight pSums_firstWeight rfl rfl ⟨Nat.le_of_ble_eq_true rfl, Nat.le_of_ble_eq_true rfl⟩) (va_recv hK hP (ci := 7) (q0 := 0) rfl rfl) hN (hP.sub [0, 1] rfl) hK rfl hl.1 rfl (Nat.le_of_ble_eq_true rfl) dSums_number_2 ⟨Nat.le_of_ble_eq_true rfl, Nat.le_of_ble_eq_true rfl⟩ ?_
  refine lv_istore_n (lv' := [(3, .int (tf_Sums_firstWeight zs0 mk0 pl)), (0, .ref h0), (1, .int pl), (2, .int hs)]) hx hb dSums_number_5 rfl hl (by decide) rfl (fun ls hl => ?_)
  refine lv_aload_n hx hb dSums_number_6 rfl (lv_at hl 1 rfl) ?_
  refine va_get (D := (dC, dI)) (ci := 7) (v := .ref a1) (C := R_Sums) (T := T_Sums) (N := 4) hx hb htg in_Sums hown hK hP 0 rfl rfl 3 (by decide) (htg _ wd_183) (fun _ h9 => h9) rfl dSums_number_7 ?_
  refine lv_iload_n hx hb dSums_number_10 rfl (lv_at hl 0 rfl) ?_
  refine rd_SN (As := [.ref a1, .int (tf_Sums_firstWeight zs0 mk0 pl)]) (rest := []) ⟨hx, hb, hml, hown, htg⟩ (c_PK_at l dC dI cA a1 n1 f1 (tf_Sums_firstWeight zs0 mk0 pl) hn1) (cw_SN htg hN wn_400 qPK_at iPK_at kPK_at pPK_at rfl rfl ⟨Nat.le_of_ble_eq_true rfl, Nat.le_of_ble_eq_true rfl⟩) hN (hP.sub [1] rfl) hK rfl hl.1 rfl (Nat.le_of_ble_eq_true rfl) dSums_number_11 ⟨Nat.le_of_ble_eq_true rfl, Nat.le_of_ble_eq_true rfl⟩ ?_
  refine lv_istore (lv' := [(4, .int (tf_PK_at n1 f1 (tf_Sums_firstWeight zs0 mk0 pl))), (3, .int (tf_Sums_firstWeight zs0 mk0 pl)), (0, .ref h0), (1, .int pl), (2, .int hs)]) hx hb dSums_number_14 hl (by decide) rfl (fun ls hl => ?_)
  refine lv_iconst (v := 0) hx hb dSums_number_16 (by decide) ?_
  refine lv_istore (lv' := [(5, .int 0), (4, .int (tf_PK_at n1 f1 (tf_Sums_firstWeight zs0 mk0 pl))), (3, .int (tf_Sums_firstWeight zs0 mk0 pl)), (0, .ref h0), (1, .int pl), (2, .int hs)]) hx hb dSums_number_17 hl (by decide) rfl (fun ls hl => ?_)
  exact blk19 4096 _ (tf_PK_at n1 f1 (tf_Sums_firstWeight zs0 mk0 pl)) 0 ls hfn (lv_sub hl [3, 5, 2, 1, 0] rfl)
def of_Sums_says (zs0 : Int32) (mk0 : Int32) (n1 : Nat) (f1 : Nat → Int32) (pl : Int32) (hs : Int32) : Option (Bool) := ((of_Sums_number zs0 mk0 n1 f1 pl hs).bind fun z_1 => (if z_1 < 0 then some (false) else some (true)))
set_option maxHeartbeats 4000000 in
set_option maxRecDepth 100000 in
theorem c_Sums_says (l : Launch) (dC : Nat → ClassId) (dI : Nat → Nat → Nat) (cA : ClassId × ClassId × ClassId) (h0 : Nat) (a1 : Nat) (zs0 : Int32) (rw0 : Int32) (mk0 : Int32) (n1 : Nat) (f1 : Nat → Int32) (pl : Int32) (hs : Int32) (hn1 : n1 < 2147483648) (rs0 : Bool) (hfn : (of_Sums_says zs0 mk0 n1 f1 pl hs) = some (rs0)) : Met l ySums_says wSums_says ({ frames := 3, cells := 0, slots := 0, locals := 68 }) (va_Pc [.ref h0, .int pl, .int hs] (Rd (dC, dI) cA [(h0, .inr (7, [.int zs0, .int rw0, .int mk0, .ref a1])), (a1, .inl (cA.1, n1, .inl f1))])) (QcRead (bI rs0)) 0 0 (fun _ => False) := by
  refine Met.ofW (cc := cSums_says) (maxL := 3) (ret := (some .boolean)) (by decide) rfl ?_
  intro p e s m args below meth c s₁ B hml hv
  obtain ⟨rfl, hN, hP, hK⟩ := hv
  have hx := B.exec
  have hb := B.bytes
  have hr := B.returns
  have hts := atoms_spec (ws := wSums_says) B.pre
  have htg : ∀ w ∈ GW, w.before _ s = true := fun w h => hts w (List.mem_cons_of_mem _ h)
  have hown : s.vm.findClass R_Sums = some m.cls := findClass_of_methodNamed B.named
  have hlocks := B.notSynchronized
  have hl := lv_entry ([.ref h0, .int pl, .int hs]) (n := 3) (Nat.le_of_ble_eq_true rfl)
  rw [lg_entry_eq]
  generalize (lg_sl ([.ref h0, .int pl, .int hs]) ++ List.replicate (3 - (lg_sl ([.ref h0, .int pl, .int hs])).length) Slot.unset).toArray = ls at hl ⊢
  have hl : lv_has ls 3 [(0, .ref h0), (1, .int pl), (2, .int hs)] := hl
  unfold of_Sums_says at hfn
  refine lv_aload_n hx hb dSums_says_0 rfl (lv_at hl 0 rfl) ?_
  refine lv_iload_n hx hb dSums_says_1 rfl (lv_at hl 1 rfl) ?_
  refine lv_iload_n hx hb dSums_says_2 rfl (lv_at hl 2 rfl) ?_
  obtain ⟨z_1, hz_1, hfn⟩ := ob hfn
  refine rd_V (As := [.int pl, .int hs]) (rest := []) ⟨hx, hb, hml, hown, htg⟩ (c_Sums_number l dC dI cA h0 a1 zs0 rw0 mk0 n1 f1 pl hs hn1 z_1 hz_1) (cw_V htg wd_389 wd_391 qSums_number iSums_number kSums_number pSums_number rfl rfl ⟨Nat.le_of_ble_eq_true rfl, Nat.le_of_ble_eq_true rfl⟩) (va_recv hK hP (ci := 7) (q0 := 0) rfl rfl) hN (hP.sub [0, 1] rfl) hK rfl hl.1 rfl (Nat.le_of_ble_eq_true rfl) dSums_says_3 ⟨Nat.le_of_ble_eq_true rfl, Nat.le_of_ble_eq_true rfl⟩ ?_
  refine lv_if_lt (tgt := 13) hx hb dSums_says_6 (by decide) (fun c_2 => ?_) (fun c_2 => ?_)
  · rw [if_pos c_2] at hfn
    refine lv_iconst (v := 0) hx hb dSums_says_13 (by decide) ?_
    replace hfn := Option.some.inj hfn
    subst hfn
    exact W.zret hx hb hr rfl (fun t ht hW => ⟨rfl, ht⟩) (fun _ h => by cases h) dSums_says_14
  · rw [if_neg c_2] at hfn
    refine lv_iconst (v := 1) hx hb dSums_says_9 (by decide) ?_
    refine lv_goto (tgt := 14) hx hb dSums_says_10 (by decide) ?_
    replace hfn := Option.some.inj hfn
    subst hfn
    exact W.zret hx hb hr rfl (fun t ht hW => ⟨rfl, ht⟩) (fun _ h => by cases h) dSums_says_14
def of_Sums_learn_b68 : Nat → Int32 → Int32 → Nat → Int32 → Int32 → Bool → Int32 → (Nat → Int32) → Option ((Nat → Int32))
  | 0, _, _, _, _, _, _, _, _ => none
  | n + 1, zs0, mk0, n1, pl, hs, tk, v7_b68, w_a1_a_b68 => (if 8 ≤ v7_b68 then some (w_a1_a_b68) else (if (bI (tf_PK_bitOf hs v7_b68)) = (bI tk) then of_Sums_learn_b68 n zs0 mk0 n1 pl hs tk (v7_b68 + 1) ((tf_PK_step n1 w_a1_a_b68 (((tf_Sums_firstWeight zs0 mk0 pl) + v7_b68) + 1) true (-64) 63)) else of_Sums_learn_b68 n zs0 mk0 n1 pl hs tk (v7_b68 + 1) ((tf_PK_step n1 w_a1_a_b68 (((tf_Sums_firstWeight zs0 mk0 pl) + v7_b68) + 1) false (-64) 63))))
def of_Sums_learn_b44 (zs0 : Int32) (mk0 : Int32) (n1 : Nat) (f1 : Nat → Int32) (pl : Int32) (hs : Int32) (tk : Bool) : Option ((Nat → Int32)) := of_Sums_learn_b68 4096 zs0 mk0 n1 pl hs tk 0 ((tf_PK_step n1 f1 (tf_Sums_firstWeight zs0 mk0 pl) tk (-64) 63))
def of_Sums_learn_b27 (zs0 : Int32) (mk0 : Int32) (n1 : Nat) (f1 : Nat → Int32) (pl : Int32) (hs : Int32) (tk : Bool) (v4_b27 : Int32) (s0_b27 : Bool) : Option ((Nat → Int32)) := (if (bI s0_b27) = 0 then (if 29 < (if 0 ≤ v4_b27 then v4_b27 else 0 - v4_b27) then some (f1) else of_Sums_learn_b44 zs0 mk0 n1 f1 pl hs tk) else of_Sums_learn_b44 zs0 mk0 n1 f1 pl hs tk)
def of_Sums_learn_b18 (zs0 : Int32) (mk0 : Int32) (n1 : Nat) (f1 : Nat → Int32) (pl : Int32) (hs : Int32) (tk : Bool) (v4_b18 : Int32) (s0_b18 : Bool) : Option ((Nat → Int32)) := (if (bI s0_b18) = (bI tk) then of_Sums_learn_b27 zs0 mk0 n1 f1 pl hs tk v4_b18 false else of_Sums_learn_b27 zs0 mk0 n1 f1 pl hs tk v4_b18 true)
def of_Sums_learn (zs0 : Int32) (mk0 : Int32) (n1 : Nat) (f1 : Nat → Int32) (pl : Int32) (hs : Int32) (tk : Bool) : Option ((Nat → Int32)) := ((of_Sums_number zs0 mk0 n1 f1 pl hs).bind fun z_1 => (if z_1 < 0 then of_Sums_learn_b18 zs0 mk0 n1 f1 pl hs tk z_1 false else of_Sums_learn_b18 zs0 mk0 n1 f1 pl hs tk z_1 true))
set_option maxHeartbeats 4000000 in
set_option maxRecDepth 100000 in
theorem c_Sums_learn (l : Launch) (dC : Nat → ClassId) (dI : Nat → Nat → Nat) (cA : ClassId × ClassId × ClassId) (zz : Nat) (h0 : Nat) (a1 : Nat) (zs0 : Int32) (rw0 : Int32) (mk0 : Int32) (n1 : Nat) (f1 : Nat → Int32) (pl : Int32) (hs : Int32) (tk : Bool) (hn1 : n1 < 2147483648) (rs0 : (Nat → Int32)) (hfn : (of_Sums_learn zs0 mk0 n1 f1 pl hs tk) = some (rs0)) : Met l ySums_learn wSums_learn ({ frames := 3, cells := 0, slots := 0, locals := 68 }) (va_Pc [.ref h0, .int pl, .int hs, .int (bI tk)] (Wr (dC, dI) cA zz [(h0, .inr (7, [.int zs0, .int rw0, .int mk0, .ref a1])), (a1, .inl (cA.1, n1, .inl f1))])) (va_Qv (fun w9 => w9 = [(h0, .inr (7, [.int zs0, .int rw0, .int mk0, .ref a1])), (a1, .inl (cA.1, n1, .inl rs0))]) (At (dC, dI) cA (va_A [(h0, .inr (7, [.int zs0, .int rw0, .int mk0, .ref a1])), (a1, .inl (cA.1, n1, .inl f1))] zz)) (va_A [(h0, .inr (7, [.int zs0, .int rw0, .int mk0, .ref a1])), (a1, .inl (cA.1, n1, .inl f1))] zz)) 0 0 (va_A [(h0, .inr (7, [.int zs0, .int rw0, .int mk0, .ref a1])), (a1, .inl (cA.1, n1, .inl f1))] zz) := by
  refine Met.ofW (cc := cSums_learn) (maxL := 8) (ret := none) (by decide) rfl ?_
  intro p e s m args below meth c s₁ B hml hv
  obtain ⟨rfl, hsz, hN, hP, hK, hD0⟩ := hv
  have hx := B.exec
  have hb := B.bytes
  have hr := B.returns
  have hts := atoms_spec (ws := wSums_learn) B.pre
  have htg : ∀ w ∈ GW, w.before _ s = true := fun w h => hts w (List.mem_cons_of_mem _ h)
  have hown : s.vm.findClass R_Sums = some m.cls := findClass_of_methodNamed B.named
  have hlocks := B.notSynchronized
  subst hsz
  have hD := hD0.self (sz := s.heap.size)
  generalize hAe : va_A [(h0, .inr (7, [.int zs0, .int rw0, .int mk0, .ref a1])), (a1, .inl (cA.1, n1, .inl f1))] s.heap.size = A at hD ⊢
  have hA : ∀ q : Nat, s.heap.size ≤ q → A q := fun q h => by rw [← hAe]; exact Or.inr h
  have hS : va_S A s.heap s.heap [] := va_S.rf
  have hP : va_P (dC, dI) vwCl [(h0, .inr (7, [.int zs0, .int rw0, .int mk0, .ref a1])), (a1, .inl (cA.1, n1, .inl f1))] s.heap := hP
  have blk68 : ∀ n : Nat, ∀ (rs0 : (Nat → Int32)) (v7_b68 : Int32) (w_a1_a_b68 : Nat → Int32) (H : Heap) (locs : List Loc) (ls : Array Slot), of_Sums_learn_b68 n zs0 mk0 n1 pl hs tk v7_b68 w_a1_a_b68 = some (rs0) → va_P (dC, dI) vwCl [(h0, .inr (7, [.int zs0, .int rw0, .int mk0, .ref a1])), (a1, .inl (cA.1, n1, .inl w_a1_a_b68))] H → va_D A [(h0, .inr (7, [.int zs0, .int rw0, .int mk0, .ref a1])), (a1, .inl (cA.1, n1, .inl w_a1_a_b68))] → va_S A s.heap H locs → lv_has ls 8 [(0, .ref h0), (2, .int hs), (3, .int (bI tk)), (6, .int (tf_Sums_firstWeight zs0 mk0 pl)), (7, .int v7_b68)] → W p l e (headSpec wSums_learn ({ frames := 3, cells := 0, slots := 0, locals := 68 })).room s m ([.ref h0, .int pl, .int hs, .int (bI tk)] : List Value).toArray below meth c H locs 0 0 (MQ below (va_Qv (fun w9 => w9 = [(h0, .inr (7, [.int zs0, .int rw0, .int mk0, .ref a1])), (a1, .inl (cA.1, n1, .inl rs0))]) (At (dC, dI) cA A) A) ([.ref h0, .int pl, .int hs, .int (bI tk)] : List Value).toArray s 0 0 A) (F0 m 68 ls []) := by
    intro n
    induction n with
    | zero =>
      intro rs0 v7_b68 w_a1_a_b68 H locs ls hfn hP hD hS hl
      exact absurd hfn (by intro h; cases h)
    | succ n ih =>
      intro rs0 v7_b68 w_a1_a_b68 H locs ls hfn hP hD hS hl
      unfold of_Sums_learn_b68 at hfn
      refine lv_iload hx hb dSums_learn_68 (lv_at hl 4 rfl) ?_
      refine lv_bipush (v := 8) hx hb dSums_learn_70 (by decide) ?_
      refine lv_icmp_ge (tgt := 114) hx hb dSums_learn_72 (by decide) (fun c_6 => ?_) (fun c_6 => ?_)
      · rw [if_pos c_6] at hfn
        replace hfn := Option.some.inj hfn
        subst hfn
        exact W.vret hx hb hr (fun t ht hW => ⟨⟨_, rfl, rfl, ⟨by rw [ht]; exact hP.sub [0, 1] rfl, va_K.moved hW.alike hK, hD.sub [0, 1] (by decide) rfl⟩⟩, hS.F ht⟩) hS.2.2 dSums_learn_114
      · rw [if_neg c_6] at hfn
        refine lv_aload_n hx hb dSums_learn_75 rfl (lv_at hl 0 rfl) ?_
        refine va_get (D := (dC, dI)) (ci := 7) (v := .ref a1) (C := R_Sums) (T := T_Sums) (N := 4) hx hb htg in_Sums hown hK hP 0 rfl rfl 3 (by decide) (htg _ wd_183) (fun _ h9 => h9) rfl dSums_learn_76 ?_
        refine lv_iload hx hb dSums_learn_79 (lv_at hl 3 rfl) ?_
        refine lv_iload hx hb dSums_learn_81 (lv_at hl 4 rfl) ?_
        refine lv_iadd hx hb dSums_learn_83 ?_
        refine lv_iconst (v := 1) hx hb dSums_learn_84 (by decide) ?_
        refine lv_iadd hx hb dSums_learn_85 ?_
        refine lv_iload_n hx hb dSums_learn_86 rfl (lv_at hl 1 rfl) ?_
        refine lv_iload hx hb dSums_learn_87 (lv_at hl 4 rfl) ?_
        refine rd_SN (As := [.int hs, .int v7_b68]) (rest := [.int (((tf_Sums_firstWeight zs0 mk0 pl) + v7_b68) + 1), .ref a1]) ⟨hx, hb, hml, hown, htg⟩ (c_PK_bitOf l dC dI cA hs v7_b68) (cw_SN htg hN wn_401 qPK_bitOf iPK_bitOf kPK_bitOf pPK_bitOf rfl rfl ⟨Nat.le_of_ble_eq_true rfl, Nat.le_of_ble_eq_true rfl⟩) hN (hP.sub [] rfl) hK rfl hl.1 rfl (Nat.le_of_ble_eq_true rfl) dSums_learn_89 ⟨Nat.le_of_ble_eq_true rfl, Nat.le_of_ble_eq_true rfl⟩ ?_
        refine lv_iload_n hx hb dSums_learn_92 rfl (lv_at hl 2 rfl) ?_
        refine lv_icmp_ne (tgt := 100) hx hb dSums_learn_93 (by decide) (fun c_7 => ?_) (fun c_7 => ?_)
        · rw [if_neg c_7] at hfn
          refine lv_iconst (v := 0) hx hb dSums_learn_100 (by decide) ?_
          refine lv_bipush (v := (-64)) hx hb dSums_learn_101 (by decide) ?_
          refine lv_bipush (v := 63) hx hb dSums_learn_103 (by decide) ?_
          refine wr_SNv (wr := [(h0, .inr (7, [.int zs0, .int rw0, .int mk0, .ref a1]))]) (As := [.ref a1, .int (((tf_Sums_firstWeight zs0 mk0 pl) + v7_b68) + 1), .int 0, .int (-64), .int 63]) (rest := []) ⟨hx, hb, hml, hown, htg⟩ (c_PK_step l dC dI cA _ a1 n1 w_a1_a_b68 (((tf_Sums_firstWeight zs0 mk0 pl) + v7_b68) + 1) false (-64) 63 hn1) (cw_SN htg hN wn_522 qPK_step iPK_step kPK_step pPK_step rfl rfl ⟨Nat.le_of_ble_eq_true rfl, Nat.le_of_ble_eq_true rfl⟩) hN hP hD hS hA hK [1] [0] rfl rfl (by decide) (by decide) (by decide) rfl hl.1 rfl (Nat.le_of_ble_eq_true rfl) dSums_learn_105 ⟨Nat.le_of_ble_eq_true rfl, Nat.le_of_ble_eq_true rfl⟩ (fun H locs hP hD hS => ?_)
          have hP : va_P (dC, dI) vwCl [(h0, .inr (7, [.int zs0, .int rw0, .int mk0, .ref a1])), (a1, .inl (cA.1, n1, .inl ((tf_PK_step n1 w_a1_a_b68 (((tf_Sums_firstWeight zs0 mk0 pl) + v7_b68) + 1) false (-64) 63))))] H := hP
          have hD : va_D A [(h0, .inr (7, [.int zs0, .int rw0, .int mk0, .ref a1])), (a1, .inl (cA.1, n1, .inl ((tf_PK_step n1 w_a1_a_b68 (((tf_Sums_firstWeight zs0 mk0 pl) + v7_b68) + 1) false (-64) 63))))] := hD
          refine lv_iinc (v := (v7_b68 + 1)) (lv' := [(7, .int (v7_b68 + 1)), (0, .ref h0), (2, .int hs), (3, .int (bI tk)), (6, .int (tf_Sums_firstWeight zs0 mk0 pl))]) hx hb dSums_learn_108 hl (k := 4) rfl rfl (by decide) rfl (fun ls hl => ?_)
          refine lv_goto (tgt := 68) hx hb dSums_learn_111 (by decide) ?_
          exact ih _ (v7_b68 + 1) ((tf_PK_step n1 w_a1_a_b68 (((tf_Sums_firstWeight zs0 mk0 pl) + v7_b68) + 1) false (-64) 63)) _ _ ls hfn (hP.sub [0, 1] rfl) (hD.sub [0, 1] (by decide) rfl) hS (lv_sub hl [1, 2, 3, 4, 0] rfl)
        · rw [if_pos c_7] at hfn
          refine lv_iconst (v := 1) hx hb dSums_learn_96 (by decide) ?_
          refine lv_goto (tgt := 101) hx hb dSums_learn_97 (by decide) ?_
          refine lv_bipush (v := (-64)) hx hb dSums_learn_101 (by decide) ?_
          refine lv_bipush (v := 63) hx hb dSums_learn_103 (by decide) ?_
          refine wr_SNv (wr := [(h0, .inr (7, [.int zs0, .int rw0, .int mk0, .ref a1]))]) (As := [.ref a1, .int (((tf_Sums_firstWeight zs0 mk0 pl) + v7_b68) + 1), .int 1, .int (-64), .int 63]) (rest := []) ⟨hx, hb, hml, hown, htg⟩ (c_PK_step l dC dI cA _ a1 n1 w_a1_a_b68 (((tf_Sums_firstWeight zs0 mk0 pl) + v7_b68) + 1) true (-64) 63 hn1) (cw_SN htg hN wn_522 qPK_step iPK_step kPK_step pPK_step rfl rfl ⟨Nat.le_of_ble_eq_true rfl, Nat.le_of_ble_eq_true rfl⟩) hN hP hD hS hA hK [1] [0] rfl rfl (by decide) (by decide) (by decide) rfl hl.1 rfl (Nat.le_of_ble_eq_true rfl) dSums_learn_105 ⟨Nat.le_of_ble_eq_true rfl, Nat.le_of_ble_eq_true rfl⟩ (fun H locs hP hD hS => ?_)
          have hP : va_P (dC, dI) vwCl [(h0, .inr (7, [.int zs0, .int rw0, .int mk0, .ref a1])), (a1, .inl (cA.1, n1, .inl ((tf_PK_step n1 w_a1_a_b68 (((tf_Sums_firstWeight zs0 mk0 pl) + v7_b68) + 1) true (-64) 63))))] H := hP
          have hD : va_D A [(h0, .inr (7, [.int zs0, .int rw0, .int mk0, .ref a1])), (a1, .inl (cA.1, n1, .inl ((tf_PK_step n1 w_a1_a_b68 (((tf_Sums_firstWeight zs0 mk0 pl) + v7_b68) + 1) true (-64) 63))))] := hD
          refine lv_iinc (v := (v7_b68 + 1)) (lv' := [(7, .int (v7_b68 + 1)), (0, .ref h0), (2, .int hs), (3, .int (bI tk)), (6, .int (tf_Sums_firstWeight zs0 mk0 pl))]) hx hb dSums_learn_108 hl (k := 4) rfl rfl (by decide) rfl (fun ls hl => ?_)
          refine lv_goto (tgt := 68) hx hb dSums_learn_111 (by decide) ?_
          exact ih _ (v7_b68 + 1) ((tf_PK_step n1 w_a1_a_b68 (((tf_Sums_firstWeight zs0 mk0 pl) + v7_b68) + 1) true (-64) 63)) _ _ ls hfn (hP.sub [0, 1] rfl) (hD.sub [0, 1] (by decide) rfl) hS (lv_sub hl [1, 2, 3, 4, 0] rfl)
  have blk44 : ∀ (rs0 : (Nat → Int32)) (H : Heap) (locs : List Loc) (ls : Array Slot), of_Sums_learn_b44 zs0 mk0 n1 f1 pl hs tk = some (rs0) → va_P (dC, dI) vwCl [(h0, .inr (7, [.int zs0, .int rw0, .int mk0, .ref a1])), (a1, .inl (cA.1, n1, .inl f1))] H → va_D A [(h0, .inr (7, [.int zs0, .int rw0, .int mk0, .ref a1])), (a1, .inl (cA.1, n1, .inl f1))] → va_S A s.heap H locs → lv_has ls 8 [(0, .ref h0), (1, .int pl), (2, .int hs), (3, .int (bI tk))] → W p l e (headSpec wSums_learn ({ frames := 3, cells := 0, slots := 0, locals := 68 })).room s m ([.ref h0, .int pl, .int hs, .int (bI tk)] : List Value).toArray below meth c H locs 0 0 (MQ below (va_Qv (fun w9 => w9 = [(h0, .inr (7, [.int zs0, .int rw0, .int mk0, .ref a1])), (a1, .inl (cA.1, n1, .inl rs0))]) (At (dC, dI) cA A) A) ([.ref h0, .int pl, .int hs, .int (bI tk)] : List Value).toArray s 0 0 A) (F0 m 44 ls []) := by
    intro rs0 H locs ls hfn hP hD hS hl
    unfold of_Sums_learn_b44 at hfn
    refine lv_aload_n hx hb dSums_learn_44 rfl (lv_at hl 0 rfl) ?_
    refine lv_iload_n hx hb dSums_learn_45 rfl (lv_at hl 1 rfl) ?_
    refine rd_V (As := [.int pl]) (rest := []) ⟨hx, hb, hml, hown, htg⟩ (c_Sums_firstWeight l dC dI cA h0 a1 zs0 rw0 mk0 n1 f1 pl hn1) (cw_V htg wd_393 ws_5 qSums_firstWeight iSums_firstWeight kSums_firstWeight pSums_firstWeight rfl rfl ⟨Nat.le_of_ble_eq_true rfl, Nat.le_of_ble_eq_true rfl⟩) (va_recv hK hP (ci := 7) (q0 := 0) rfl rfl) hN (hP.sub [0, 1] rfl) hK rfl hl.1 rfl (Nat.le_of_ble_eq_true rfl) dSums_learn_46 ⟨Nat.le_of_ble_eq_true rfl, Nat.le_of_ble_eq_true rfl⟩ ?_
    refine lv_istore (lv' := [(6, .int (tf_Sums_firstWeight zs0 mk0 pl)), (0, .ref h0), (1, .int pl), (2, .int hs), (3, .int (bI tk))]) hx hb dSums_learn_49 hl (by decide) rfl (fun ls hl => ?_)
    refine lv_aload_n hx hb dSums_learn_51 rfl (lv_at hl 1 rfl) ?_
    refine va_get (D := (dC, dI)) (ci := 7) (v := .ref a1) (C := R_Sums) (T := T_Sums) (N := 4) hx hb htg in_Sums hown hK hP 0 rfl rfl 3 (by decide) (htg _ wd_183) (fun _ h9 => h9) rfl dSums_learn_52 ?_
    refine lv_iload hx hb dSums_learn_55 (lv_at hl 0 rfl) ?_
    refine lv_iload_n hx hb dSums_learn_57 rfl (lv_at hl 4 rfl) ?_
    refine lv_bipush (v := (-64)) hx hb dSums_learn_58 (by decide) ?_
    refine lv_bipush (v := 63) hx hb dSums_learn_60 (by decide) ?_
    refine wr_SNv (wr := [(h0, .inr (7, [.int zs0, .int rw0, .int mk0, .ref a1]))]) (As := [.ref a1, .int (tf_Sums_firstWeight zs0 mk0 pl), .int (bI tk), .int (-64), .int 63]) (rest := []) ⟨hx, hb, hml, hown, htg⟩ (c_PK_step l dC dI cA _ a1 n1 f1 (tf_Sums_firstWeight zs0 mk0 pl) tk (-64) 63 hn1) (cw_SN htg hN wn_522 qPK_step iPK_step kPK_step pPK_step rfl rfl ⟨Nat.le_of_ble_eq_true rfl, Nat.le_of_ble_eq_true rfl⟩) hN hP hD hS hA hK [1] [0] rfl rfl (by decide) (by decide) (by decide) rfl hl.1 rfl (Nat.le_of_ble_eq_true rfl) dSums_learn_62 ⟨Nat.le_of_ble_eq_true rfl, Nat.le_of_ble_eq_true rfl⟩ (fun H locs hP hD hS => ?_)
    have hP : va_P (dC, dI) vwCl [(h0, .inr (7, [.int zs0, .int rw0, .int mk0, .ref a1])), (a1, .inl (cA.1, n1, .inl ((tf_PK_step n1 f1 (tf_Sums_firstWeight zs0 mk0 pl) tk (-64) 63))))] H := hP
    have hD : va_D A [(h0, .inr (7, [.int zs0, .int rw0, .int mk0, .ref a1])), (a1, .inl (cA.1, n1, .inl ((tf_PK_step n1 f1 (tf_Sums_firstWeight zs0 mk0 pl) tk (-64) 63))))] := hD
    refine lv_iconst (v := 0) hx hb dSums_learn_65 (by decide) ?_
    refine lv_istore (lv' := [(7, .int 0), (6, .int (tf_Sums_firstWeight zs0 mk0 pl)), (0, .ref h0), (1, .int pl), (2, .int hs), (3, .int (bI tk))]) hx hb dSums_learn_66 hl (by decide) rfl (fun ls hl => ?_)
    exact blk68 4096 _ 0 ((tf_PK_step n1 f1 (tf_Sums_firstWeight zs0 mk0 pl) tk (-64) 63)) _ _ ls hfn (hP.sub [0, 1] rfl) (hD.sub [0, 1] (by decide) rfl) hS (lv_sub hl [2, 4, 5, 1, 0] rfl)
  have blk27 : ∀ (rs0 : (Nat → Int32)) (v4_b27 : Int32) (s0_b27 : Bool) (H : Heap) (locs : List Loc) (ls : Array Slot), of_Sums_learn_b27 zs0 mk0 n1 f1 pl hs tk v4_b27 s0_b27 = some (rs0) → va_P (dC, dI) vwCl [(h0, .inr (7, [.int zs0, .int rw0, .int mk0, .ref a1])), (a1, .inl (cA.1, n1, .inl f1))] H → va_D A [(h0, .inr (7, [.int zs0, .int rw0, .int mk0, .ref a1])), (a1, .inl (cA.1, n1, .inl f1))] → va_S A s.heap H locs → lv_has ls 8 [(0, .ref h0), (1, .int pl), (2, .int hs), (3, .int (bI tk)), (4, .int v4_b27)] → W p l e (headSpec wSums_learn ({ frames := 3, cells := 0, slots := 0, locals := 68 })).room s m ([.ref h0, .int pl, .int hs, .int (bI tk)] : List Value).toArray below meth c H locs 0 0 (MQ below (va_Qv (fun w9 => w9 = [(h0, .inr (7, [.int zs0, .int rw0, .int mk0, .ref a1])), (a1, .inl (cA.1, n1, .inl rs0))]) (At (dC, dI) cA A) A) ([.ref h0, .int pl, .int hs, .int (bI tk)] : List Value).toArray s 0 0 A) (F0 m 27 ls [.int (bI s0_b27)]) := by
    intro rs0 v4_b27 s0_b27 H locs ls hfn hP hD hS hl
    unfold of_Sums_learn_b27 at hfn
    refine lv_istore (lv' := [(5, .int (bI s0_b27)), (0, .ref h0), (1, .int pl), (2, .int hs), (3, .int (bI tk)), (4, .int v4_b27)]) hx hb dSums_learn_27 hl (by decide) rfl (fun ls hl => ?_)
    refine lv_iload hx hb dSums_learn_29 (lv_at hl 0 rfl) ?_
    refine lv_if_ne (tgt := 44) hx hb dSums_learn_31 (by decide) (fun c_4 => ?_) (fun c_4 => ?_)
    · rw [if_neg c_4] at hfn
      exact blk44 _ _ _ ls hfn (hP.sub [0, 1] rfl) (hD.sub [0, 1] (by decide) rfl) hS (lv_sub hl [1, 2, 3, 4] rfl)
    · rw [if_pos c_4] at hfn
      refine lv_iload hx hb dSums_learn_34 (lv_at hl 5 rfl) ?_
      refine va_mabs hx hb (by rw [hml]; exact hl.1.symm) hown (htg _ wd_519) (htg _ qMath_abs) (htg _ iMath_abs) (htg _ kMath_abs) (Nat.le_of_ble_eq_true rfl) (Nat.le_of_ble_eq_true rfl) (Nat.le_of_ble_eq_true rfl) (Nat.le_of_ble_eq_true rfl) dSums_learn_36 ?_
      refine lv_bipush (v := 29) hx hb dSums_learn_39 (by decide) ?_
      refine lv_icmp_gt (tgt := 114) hx hb dSums_learn_41 (by decide) (fun c_5 => ?_) (fun c_5 => ?_)
      · rw [if_pos c_5] at hfn
        replace hfn := Option.some.inj hfn
        subst hfn
        exact W.vret hx hb hr (fun t ht hW => ⟨⟨_, rfl, rfl, ⟨by rw [ht]; exact hP.sub [0, 1] rfl, va_K.moved hW.alike hK, hD.sub [0, 1] (by decide) rfl⟩⟩, hS.F ht⟩) hS.2.2 dSums_learn_114
      · rw [if_neg c_5] at hfn
        exact blk44 _ _ _ ls hfn (hP.sub [0, 1] rfl) (hD.sub [0, 1] (by decide) rfl) hS (lv_sub hl [1, 2, 3, 4] rfl)
  have blk18 : ∀ (rs0 : (Nat → Int32)) (v4_b18 : Int32) (s0_b18 : Bool) (H : Heap) (locs : List Loc) (ls : Array Slot), of_Sums_learn_b18 zs0 mk0 n1 f1 pl hs tk v4_b18 s0_b18 = some (rs0) → va_P (dC, dI) vwCl [(h0, .inr (7, [.int zs0, .int rw0, .int mk0, .ref a1])), (a1, .inl (cA.1, n1, .inl f1))] H → va_D A [(h0, .inr (7, [.int zs0, .int rw0, .int mk0, .ref a1])), (a1, .inl (cA.1, n1, .inl f1))] → va_S A s.heap H locs → lv_has ls 8 [(0, .ref h0), (1, .int pl), (2, .int hs), (3, .int (bI tk)), (4, .int v4_b18)] → W p l e (headSpec wSums_learn ({ frames := 3, cells := 0, slots := 0, locals := 68 })).room s m ([.ref h0, .int pl, .int hs, .int (bI tk)] : List Value).toArray below meth c H locs 0 0 (MQ below (va_Qv (fun w9 => w9 = [(h0, .inr (7, [.int zs0, .int rw0, .int mk0, .ref a1])), (a1, .inl (cA.1, n1, .inl rs0))]) (At (dC, dI) cA A) A) ([.ref h0, .int pl, .int hs, .int (bI tk)] : List Value).toArray s 0 0 A) (F0 m 18 ls [.int (bI s0_b18)]) := by
    intro rs0 v4_b18 s0_b18 H locs ls hfn hP hD hS hl
    unfold of_Sums_learn_b18 at hfn
    refine lv_iload_n hx hb dSums_learn_18 rfl (lv_at hl 3 rfl) ?_
    refine lv_icmp_eq (tgt := 26) hx hb dSums_learn_19 (by decide) (fun c_3 => ?_) (fun c_3 => ?_)
    · rw [if_pos c_3] at hfn
      refine lv_iconst (v := 0) hx hb dSums_learn_26 (by decide) ?_
      exact blk27 _ v4_b18 false _ _ ls hfn (hP.sub [0, 1] rfl) (hD.sub [0, 1] (by decide) rfl) hS (lv_sub hl [0, 1, 2, 3, 4] rfl)
    · rw [if_neg c_3] at hfn
      refine lv_iconst (v := 1) hx hb dSums_learn_22 (by decide) ?_
      refine lv_goto (tgt := 27) hx hb dSums_learn_23 (by decide) ?_
      exact blk27 _ v4_b18 true _ _ ls hfn (hP.sub [0, 1] rfl) (hD.sub [0, 1] (by decide) rfl) hS (lv_sub hl [0, 1, 2, 3, 4] rfl)
  have hl := lv_entry ([.ref h0, .int pl, .int hs, .int (bI tk)]) (n := 8) (Nat.le_of_ble_eq_true rfl)
  rw [lg_entry_eq]
  generalize (lg_sl ([.ref h0, .int pl, .int hs, .int (bI tk)]) ++ List.replicate (8 - (lg_sl ([.ref h0, .int pl, .int hs, .int (bI tk)])).length) Slot.unset).toArray = ls at hl ⊢
  have hl : lv_has ls 8 [(0, .ref h0), (1, .int pl), (2, .int hs), (3, .int (bI tk))] := hl
  unfold of_Sums_learn at hfn
  refine lv_aload_n hx hb dSums_learn_0 rfl (lv_at hl 0 rfl) ?_
  refine lv_iload_n hx hb dSums_learn_1 rfl (lv_at hl 1 rfl) ?_
  refine lv_iload_n hx hb dSums_learn_2 rfl (lv_at hl 2 rfl) ?_
  obtain ⟨z_1, hz_1, hfn⟩ := ob hfn
  refine rd_V (As := [.int pl, .int hs]) (rest := []) ⟨hx, hb, hml, hown, htg⟩ (c_Sums_number l dC dI cA h0 a1 zs0 rw0 mk0 n1 f1 pl hs hn1 z_1 hz_1) (cw_V htg wd_389 wd_391 qSums_number iSums_number kSums_number pSums_number rfl rfl ⟨Nat.le_of_ble_eq_true rfl, Nat.le_of_ble_eq_true rfl⟩) (va_recv hK hP (ci := 7) (q0 := 0) rfl rfl) hN (hP.sub [0, 1] rfl) hK rfl hl.1 rfl (Nat.le_of_ble_eq_true rfl) dSums_learn_3 ⟨Nat.le_of_ble_eq_true rfl, Nat.le_of_ble_eq_true rfl⟩ ?_
  refine lv_istore (lv' := [(4, .int z_1), (0, .ref h0), (1, .int pl), (2, .int hs), (3, .int (bI tk))]) hx hb dSums_learn_6 hl (by decide) rfl (fun ls hl => ?_)
  refine lv_iload hx hb dSums_learn_8 (lv_at hl 0 rfl) ?_
  refine lv_if_lt (tgt := 17) hx hb dSums_learn_10 (by decide) (fun c_2 => ?_) (fun c_2 => ?_)
  · rw [if_pos c_2] at hfn
    refine lv_iconst (v := 0) hx hb dSums_learn_17 (by decide) ?_
    exact blk18 _ z_1 false _ _ ls hfn (hP.sub [0, 1] rfl) (hD.sub [0, 1] (by decide) rfl) hS (lv_sub hl [1, 2, 3, 4, 0] rfl)
  · rw [if_neg c_2] at hfn
    refine lv_iconst (v := 1) hx hb dSums_learn_13 (by decide) ?_
    refine lv_goto (tgt := 18) hx hb dSums_learn_14 (by decide) ?_
    exact blk18 _ z_1 true _ _ ls hfn (hP.sub [0, 1] rfl) (hD.sub [0, 1] (by decide) rfl) hS (lv_sub hl [1, 2, 3, 4, 0] rfl)
def tf_Sums_bits (rw0 : Int32) : Int32 := (((63 * rw0) + 32))
set_option maxHeartbeats 4000000 in
set_option maxRecDepth 100000 in
theorem c_Sums_bits (l : Launch) (dC : Nat → ClassId) (dI : Nat → Nat → Nat) (cA : ClassId × ClassId × ClassId) (h0 : Nat) (a1 : Nat) (zs0 : Int32) (rw0 : Int32) (mk0 : Int32) (n1 : Nat) (f1 : Nat → Int32) (hn1 : n1 < 2147483648) : Met l ySums_bits wSums_bits ({ frames := 0, cells := 0, slots := 0, locals := 0 }) (va_Pc [.ref h0] (Rd (dC, dI) cA [(h0, .inr (7, [.int zs0, .int rw0, .int mk0, .ref a1])), (a1, .inl (cA.1, n1, .inl f1))])) (QcRead (tf_Sums_bits rw0)) 0 0 (fun _ => False) := by
  refine Met.ofW (cc := cSums_bits) (maxL := 1) (ret := (some .int)) (by decide) rfl ?_
  intro p e s m args below meth c s₁ B hml hv
  obtain ⟨rfl, hN, hP, hK⟩ := hv
  have hx := B.exec
  have hb := B.bytes
  have hr := B.returns
  have hts := atoms_spec (ws := wSums_bits) B.pre
  have htg : ∀ w ∈ GW, w.before _ s = true := fun w h => hts w (List.mem_cons_of_mem _ h)
  have hown : s.vm.findClass R_Sums = some m.cls := findClass_of_methodNamed B.named
  have hlocks := B.notSynchronized
  obtain ⟨rs, hfn⟩ : ∃ rs, (tf_Sums_bits rw0) = rs := ⟨_, rfl⟩
  try rw [hfn]
  have hl := lv_entry ([.ref h0]) (n := 1) (Nat.le_of_ble_eq_true rfl)
  rw [lg_entry_eq]
  generalize (lg_sl ([.ref h0]) ++ List.replicate (1 - (lg_sl ([.ref h0])).length) Slot.unset).toArray = ls at hl ⊢
  have hl : lv_has ls 1 [(0, .ref h0)] := hl
  unfold tf_Sums_bits at hfn
  refine lv_bipush (v := 63) hx hb dSums_bits_0 (by decide) ?_
  refine lv_aload_n hx hb dSums_bits_2 rfl (lv_at hl 0 rfl) ?_
  refine va_get (D := (dC, dI)) (ci := 7) (v := .int rw0) (C := R_Sums) (T := T_Sums) (N := 4) hx hb htg in_Sums hown hK hP 0 rfl rfl 1 (by decide) (htg _ wd_67) (fun x9 h9 => u_same (htg _ wd_68) x9 h9) rfl dSums_bits_3 ?_
  refine lv_imul hx hb dSums_bits_6 ?_
  refine lv_bipush (v := 32) hx hb dSums_bits_7 (by decide) ?_
  refine lv_iadd hx hb dSums_bits_9 ?_
  subst hfn
  exact W.iret hx hb hr (fun t ht hW => ⟨rfl, ht⟩) (fun _ h => by cases h) dSums_bits_10
