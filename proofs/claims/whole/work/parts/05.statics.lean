def tf_PK_behind (hs : Int32) (tk : Bool) : Int32 := (if (bI tk) = 0 then (((hs <<< (1 &&& 31)) ||| 0)) else (((hs <<< (1 &&& 31)) ||| 1)))
set_option maxHeartbeats 4000000 in
set_option maxRecDepth 100000 in
theorem c_PK_behind (l : Launch) (dC : Nat → ClassId) (dI : Nat → Nat → Nat) (cA : ClassId × ClassId × ClassId) (hs : Int32) (tk : Bool) : Met l yPK_behind wPK_behind ({ frames := 0, cells := 0, slots := 0, locals := 0 }) (va_Pc [.int hs, .int (bI tk)] (Rd (dC, dI) cA [])) (QcRead (tf_PK_behind hs tk)) 0 0 (fun _ => False) := by
  refine Met.ofW (cc := cPK_behind) (maxL := 2) (ret := (some .int)) (by decide) rfl ?_
  intro p e s m args below meth c s₁ B hml hv
  obtain ⟨rfl, hN, hP, hK⟩ := hv
  have hx := B.exec
  have hb := B.bytes
  have hr := B.returns
  have hts := atoms_spec (ws := wPK_behind) B.pre
  have htg : ∀ w ∈ GW, w.before _ s = true := fun w h => hts w (List.mem_cons_of_mem _ h)
  have hown : s.vm.findClass R_PK = some m.cls := findClass_of_methodNamed B.named
  have hlocks := B.notSynchronized
  obtain ⟨rs, hfn⟩ : ∃ rs, (tf_PK_behind hs tk) = rs := ⟨_, rfl⟩
  try rw [hfn]
  have hl := lv_entry ([.int hs, .int (bI tk)]) (n := 2) (Nat.le_of_ble_eq_true rfl)
  rw [lg_entry_eq]
  generalize (lg_sl ([.int hs, .int (bI tk)]) ++ List.replicate (2 - (lg_sl ([.int hs, .int (bI tk)])).length) Slot.unset).toArray = ls at hl ⊢
  have hl : lv_has ls 2 [(0, .int hs), (1, .int (bI tk))] := hl
  unfold tf_PK_behind at hfn
  refine lv_iload_n hx hb dPK_behind_0 rfl (lv_at hl 0 rfl) ?_
  refine lv_iconst (v := 1) hx hb dPK_behind_1 (by decide) ?_
  refine lv_ishl hx hb dPK_behind_2 ?_
  refine lv_iload_n hx hb dPK_behind_3 rfl (lv_at hl 1 rfl) ?_
  refine lv_if_eq (tgt := 11) hx hb dPK_behind_4 (by decide) (fun c_1 => ?_) (fun c_1 => ?_)
  · rw [if_pos c_1] at hfn
    refine lv_iconst (v := 0) hx hb dPK_behind_11 (by decide) ?_
    refine lv_ior hx hb dPK_behind_12 ?_
    subst hfn
    exact W.iret hx hb hr (fun t ht hW => ⟨rfl, ht⟩) (fun _ h => by cases h) dPK_behind_13
  · rw [if_neg c_1] at hfn
    refine lv_iconst (v := 1) hx hb dPK_behind_7 (by decide) ?_
    refine lv_goto (tgt := 12) hx hb dPK_behind_8 (by decide) ?_
    refine lv_ior hx hb dPK_behind_12 ?_
    subst hfn
    exact W.iret hx hb hr (fun t ht hW => ⟨rfl, ht⟩) (fun _ h => by cases h) dPK_behind_13
def tf_PK_bitOf (x0 : Int32) (k0 : Int32) : Bool := (if ((us x0 k0) &&& 1) = 1 then (true) else (false))
set_option maxHeartbeats 4000000 in
set_option maxRecDepth 100000 in
theorem c_PK_bitOf (l : Launch) (dC : Nat → ClassId) (dI : Nat → Nat → Nat) (cA : ClassId × ClassId × ClassId) (x0 : Int32) (k0 : Int32) : Met l yPK_bitOf wPK_bitOf ({ frames := 0, cells := 0, slots := 0, locals := 0 }) (va_Pc [.int x0, .int k0] (Rd (dC, dI) cA [])) (QcRead (bI (tf_PK_bitOf x0 k0))) 0 0 (fun _ => False) := by
  refine Met.ofW (cc := cPK_bitOf) (maxL := 2) (ret := (some .boolean)) (by decide) rfl ?_
  intro p e s m args below meth c s₁ B hml hv
  obtain ⟨rfl, hN, hP, hK⟩ := hv
  have hx := B.exec
  have hb := B.bytes
  have hr := B.returns
  have hts := atoms_spec (ws := wPK_bitOf) B.pre
  have htg : ∀ w ∈ GW, w.before _ s = true := fun w h => hts w (List.mem_cons_of_mem _ h)
  have hown : s.vm.findClass R_PK = some m.cls := findClass_of_methodNamed B.named
  have hlocks := B.notSynchronized
  obtain ⟨rs, hfn⟩ : ∃ rs, (tf_PK_bitOf x0 k0) = rs := ⟨_, rfl⟩
  try rw [hfn]
  have hl := lv_entry ([.int x0, .int k0]) (n := 2) (Nat.le_of_ble_eq_true rfl)
  rw [lg_entry_eq]
  generalize (lg_sl ([.int x0, .int k0]) ++ List.replicate (2 - (lg_sl ([.int x0, .int k0])).length) Slot.unset).toArray = ls at hl ⊢
  have hl : lv_has ls 2 [(0, .int x0), (1, .int k0)] := hl
  unfold tf_PK_bitOf at hfn
  refine lv_iload_n hx hb dPK_bitOf_0 rfl (lv_at hl 0 rfl) ?_
  refine lv_iload_n hx hb dPK_bitOf_1 rfl (lv_at hl 1 rfl) ?_
  refine lv_iushr (v := (us x0 k0)) hx hb dPK_bitOf_2 rfl ?_
  refine lv_iconst (v := 1) hx hb dPK_bitOf_3 (by decide) ?_
  refine lv_iand hx hb dPK_bitOf_4 ?_
  refine lv_iconst (v := 1) hx hb dPK_bitOf_5 (by decide) ?_
  refine lv_icmp_ne (tgt := 13) hx hb dPK_bitOf_6 (by decide) (fun c_1 => ?_) (fun c_1 => ?_)
  · rw [if_neg c_1] at hfn
    refine lv_iconst (v := 0) hx hb dPK_bitOf_13 (by decide) ?_
    subst hfn
    exact W.zret hx hb hr rfl (fun t ht hW => ⟨rfl, ht⟩) (fun _ h => by cases h) dPK_bitOf_14
  · rw [if_pos c_1] at hfn
    refine lv_iconst (v := 1) hx hb dPK_bitOf_9 (by decide) ?_
    refine lv_goto (tgt := 14) hx hb dPK_bitOf_10 (by decide) ?_
    subst hfn
    exact W.zret hx hb hr rfl (fun t ht hW => ⟨rfl, ht⟩) (fun _ h => by cases h) dPK_bitOf_14
def tf_PK_maskOf (k0 : Int32) : Int32 := ((((1 : Int32) <<< (k0 &&& 31)) - 1))
set_option maxHeartbeats 4000000 in
set_option maxRecDepth 100000 in
theorem c_PK_maskOf (l : Launch) (dC : Nat → ClassId) (dI : Nat → Nat → Nat) (cA : ClassId × ClassId × ClassId) (k0 : Int32) : Met l yPK_maskOf wPK_maskOf ({ frames := 0, cells := 0, slots := 0, locals := 0 }) (va_Pc [.int k0] (Rd (dC, dI) cA [])) (QcRead (tf_PK_maskOf k0)) 0 0 (fun _ => False) := by
  refine Met.ofW (cc := cPK_maskOf) (maxL := 1) (ret := (some .int)) (by decide) rfl ?_
  intro p e s m args below meth c s₁ B hml hv
  obtain ⟨rfl, hN, hP, hK⟩ := hv
  have hx := B.exec
  have hb := B.bytes
  have hr := B.returns
  have hts := atoms_spec (ws := wPK_maskOf) B.pre
  have htg : ∀ w ∈ GW, w.before _ s = true := fun w h => hts w (List.mem_cons_of_mem _ h)
  have hown : s.vm.findClass R_PK = some m.cls := findClass_of_methodNamed B.named
  have hlocks := B.notSynchronized
  obtain ⟨rs, hfn⟩ : ∃ rs, (tf_PK_maskOf k0) = rs := ⟨_, rfl⟩
  try rw [hfn]
  have hl := lv_entry ([.int k0]) (n := 1) (Nat.le_of_ble_eq_true rfl)
  rw [lg_entry_eq]
  generalize (lg_sl ([.int k0]) ++ List.replicate (1 - (lg_sl ([.int k0])).length) Slot.unset).toArray = ls at hl ⊢
  have hl : lv_has ls 1 [(0, .int k0)] := hl
  unfold tf_PK_maskOf at hfn
  refine lv_iconst (v := 1) hx hb dPK_maskOf_0 (by decide) ?_
  refine lv_iload_n hx hb dPK_maskOf_1 rfl (lv_at hl 0 rfl) ?_
  refine lv_ishl hx hb dPK_maskOf_2 ?_
  refine lv_iconst (v := 1) hx hb dPK_maskOf_3 (by decide) ?_
  refine lv_isub hx hb dPK_maskOf_4 ?_
  subst hfn
  exact W.iret hx hb hr (fun t ht hW => ⟨rfl, ht⟩) (fun _ h => by cases h) dPK_maskOf_5
def of_PK_folded_b19 : Nat → Int32 → Int32 → Int32 → Int32 → Int32 → Option (Int32)
  | 0, _, _, _, _, _ => none
  | n + 1, k0, k1, v4_b19, v5_b19, v6_b19 => (if k0 ≤ v6_b19 then some (v5_b19) else of_PK_folded_b19 n k0 k1 (us v4_b19 k1) (v5_b19 ^^^ (v4_b19 &&& (tf_PK_maskOf k1))) (v6_b19 + 1))
def of_PK_folded (hs : Int32) (k0 : Int32) (k1 : Int32) : Option (Int32) := of_PK_folded_b19 4096 k0 k1 (hs &&& (tf_PK_maskOf k0)) 0 0
set_option maxHeartbeats 4000000 in
set_option maxRecDepth 100000 in
theorem c_PK_folded (l : Launch) (dC : Nat → ClassId) (dI : Nat → Nat → Nat) (cA : ClassId × ClassId × ClassId) (hs : Int32) (k0 : Int32) (k1 : Int32) (rs0 : Int32) (hfn : (of_PK_folded hs k0 k1) = some (rs0)) : Met l yPK_folded wPK_folded ({ frames := 1, cells := 0, slots := 0, locals := 20 }) (va_Pc [.int hs, .int k0, .int k1] (Rd (dC, dI) cA [])) (QcRead rs0) 0 0 (fun _ => False) := by
  refine Met.ofW (cc := cPK_folded) (maxL := 7) (ret := (some .int)) (by decide) rfl ?_
  intro p e s m args below meth c s₁ B hml hv
  obtain ⟨rfl, hN, hP, hK⟩ := hv
  have hx := B.exec
  have hb := B.bytes
  have hr := B.returns
  have hts := atoms_spec (ws := wPK_folded) B.pre
  have htg : ∀ w ∈ GW, w.before _ s = true := fun w h => hts w (List.mem_cons_of_mem _ h)
  have hown : s.vm.findClass R_PK = some m.cls := findClass_of_methodNamed B.named
  have hlocks := B.notSynchronized
  have blk19 : ∀ n : Nat, ∀ (rs0 : Int32) (v4_b19 : Int32) (v5_b19 : Int32) (v6_b19 : Int32) (ls : Array Slot), of_PK_folded_b19 n k0 k1 v4_b19 v5_b19 v6_b19 = some (rs0) → lv_has ls 7 [(1, .int k0), (2, .int k1), (3, .int (tf_PK_maskOf k1)), (4, .int v4_b19), (5, .int v5_b19), (6, .int v6_b19)] → W p l e (headSpec wPK_folded ({ frames := 1, cells := 0, slots := 0, locals := 20 })).room s m ([.int hs, .int k0, .int k1] : List Value).toArray below meth c s.heap [] 0 0 (MQ below (QcRead rs0) ([.int hs, .int k0, .int k1] : List Value).toArray s 0 0 (fun _ => False)) (F0 m 19 ls []) := by
    intro n
    induction n with
    | zero =>
      intro rs0 v4_b19 v5_b19 v6_b19 ls hfn hl
      exact absurd hfn (by intro h; cases h)
    | succ n ih =>
      intro rs0 v4_b19 v5_b19 v6_b19 ls hfn hl
      unfold of_PK_folded_b19 at hfn
      refine lv_iload hx hb dPK_folded_19 (lv_at hl 5 rfl) ?_
      refine lv_iload_n hx hb dPK_folded_21 rfl (lv_at hl 0 rfl) ?_
      refine lv_icmp_ge (tgt := 46) hx hb dPK_folded_22 (by decide) (fun c_1 => ?_) (fun c_1 => ?_)
      · rw [if_pos c_1] at hfn
        refine lv_iload hx hb dPK_folded_46 (lv_at hl 4 rfl) ?_
        replace hfn := Option.some.inj hfn
        subst hfn
        exact W.iret hx hb hr (fun t ht hW => ⟨rfl, ht⟩) (fun _ h => by cases h) dPK_folded_48
      · rw [if_neg c_1] at hfn
        refine lv_iload hx hb dPK_folded_25 (lv_at hl 4 rfl) ?_
        refine lv_iload hx hb dPK_folded_27 (lv_at hl 3 rfl) ?_
        refine lv_iload_n hx hb dPK_folded_29 rfl (lv_at hl 2 rfl) ?_
        refine lv_iand hx hb dPK_folded_30 ?_
        refine lv_ixor hx hb dPK_folded_31 ?_
        refine lv_istore (lv' := [(5, .int (v5_b19 ^^^ (v4_b19 &&& (tf_PK_maskOf k1)))), (1, .int k0), (2, .int k1), (3, .int (tf_PK_maskOf k1)), (4, .int v4_b19), (6, .int v6_b19)]) hx hb dPK_folded_32 hl (by decide) rfl (fun ls hl => ?_)
        refine lv_iload hx hb dPK_folded_34 (lv_at hl 4 rfl) ?_
        refine lv_iload_n hx hb dPK_folded_36 rfl (lv_at hl 2 rfl) ?_
        refine lv_iushr (v := (us v4_b19 k1)) hx hb dPK_folded_37 rfl ?_
        refine lv_istore (lv' := [(4, .int (us v4_b19 k1)), (5, .int (v5_b19 ^^^ (v4_b19 &&& (tf_PK_maskOf k1)))), (1, .int k0), (2, .int k1), (3, .int (tf_PK_maskOf k1)), (6, .int v6_b19)]) hx hb dPK_folded_38 hl (by decide) rfl (fun ls hl => ?_)
        refine lv_iinc (v := (v6_b19 + 1)) (lv' := [(6, .int (v6_b19 + 1)), (4, .int (us v4_b19 k1)), (5, .int (v5_b19 ^^^ (v4_b19 &&& (tf_PK_maskOf k1)))), (1, .int k0), (2, .int k1), (3, .int (tf_PK_maskOf k1))]) hx hb dPK_folded_40 hl (k := 5) rfl rfl (by decide) rfl (fun ls hl => ?_)
        refine lv_goto (tgt := 19) hx hb dPK_folded_43 (by decide) ?_
        exact ih _ (us v4_b19 k1) (v5_b19 ^^^ (v4_b19 &&& (tf_PK_maskOf k1))) (v6_b19 + 1) ls hfn (lv_sub hl [3, 4, 5, 1, 2, 0] rfl)
  have hl := lv_entry ([.int hs, .int k0, .int k1]) (n := 7) (Nat.le_of_ble_eq_true rfl)
  rw [lg_entry_eq]
  generalize (lg_sl ([.int hs, .int k0, .int k1]) ++ List.replicate (7 - (lg_sl ([.int hs, .int k0, .int k1])).length) Slot.unset).toArray = ls at hl ⊢
  have hl : lv_has ls 7 [(0, .int hs), (1, .int k0), (2, .int k1)] := hl
  unfold of_PK_folded at hfn
  refine lv_iload_n hx hb dPK_folded_0 rfl (lv_at hl 2 rfl) ?_
  refine rd_S (As := [.int k1]) (rest := []) ⟨hx, hb, hml, hown, htg⟩ (c_PK_maskOf l dC dI cA k1) (cw_S htg wd_416 qPK_maskOf iPK_maskOf kPK_maskOf pPK_maskOf rfl rfl ⟨Nat.le_of_ble_eq_true rfl, Nat.le_of_ble_eq_true rfl⟩) hN (hP.sub [] rfl) hK rfl hl.1 rfl (Nat.le_of_ble_eq_true rfl) dPK_folded_1 ⟨Nat.le_of_ble_eq_true rfl, Nat.le_of_ble_eq_true rfl⟩ ?_
  refine lv_istore_n (lv' := [(3, .int (tf_PK_maskOf k1)), (0, .int hs), (1, .int k0), (2, .int k1)]) hx hb dPK_folded_4 rfl hl (by decide) rfl (fun ls hl => ?_)
  refine lv_iload_n hx hb dPK_folded_5 rfl (lv_at hl 1 rfl) ?_
  refine lv_iload_n hx hb dPK_folded_6 rfl (lv_at hl 2 rfl) ?_
  refine rd_S (As := [.int k0]) (rest := [.int hs]) ⟨hx, hb, hml, hown, htg⟩ (c_PK_maskOf l dC dI cA k0) (cw_S htg wd_416 qPK_maskOf iPK_maskOf kPK_maskOf pPK_maskOf rfl rfl ⟨Nat.le_of_ble_eq_true rfl, Nat.le_of_ble_eq_true rfl⟩) hN (hP.sub [] rfl) hK rfl hl.1 rfl (Nat.le_of_ble_eq_true rfl) dPK_folded_7 ⟨Nat.le_of_ble_eq_true rfl, Nat.le_of_ble_eq_true rfl⟩ ?_
  refine lv_iand hx hb dPK_folded_10 ?_
  refine lv_istore (lv' := [(4, .int (hs &&& (tf_PK_maskOf k0))), (3, .int (tf_PK_maskOf k1)), (0, .int hs), (1, .int k0), (2, .int k1)]) hx hb dPK_folded_11 hl (by decide) rfl (fun ls hl => ?_)
  refine lv_iconst (v := 0) hx hb dPK_folded_13 (by decide) ?_
  refine lv_istore (lv' := [(5, .int 0), (4, .int (hs &&& (tf_PK_maskOf k0))), (3, .int (tf_PK_maskOf k1)), (0, .int hs), (1, .int k0), (2, .int k1)]) hx hb dPK_folded_14 hl (by decide) rfl (fun ls hl => ?_)
  refine lv_iconst (v := 0) hx hb dPK_folded_16 (by decide) ?_
  refine lv_istore (lv' := [(6, .int 0), (5, .int 0), (4, .int (hs &&& (tf_PK_maskOf k0))), (3, .int (tf_PK_maskOf k1)), (0, .int hs), (1, .int k0), (2, .int k1)]) hx hb dPK_folded_17 hl (by decide) rfl (fun ls hl => ?_)
  exact blk19 4096 _ (hs &&& (tf_PK_maskOf k0)) 0 0 ls hfn (lv_sub hl [5, 6, 3, 2, 1, 0] rfl)
def tf_PK_at (n1 : Nat) (f1 : Nat → Int32) (i0 : Int32) : Int32 := (if i0 < 0 then (0) else (if (nI n1) ≤ i0 then (0) else ((f1 i0.toNatClampNeg))))
set_option maxHeartbeats 4000000 in
set_option maxRecDepth 100000 in
theorem c_PK_at (l : Launch) (dC : Nat → ClassId) (dI : Nat → Nat → Nat) (cA : ClassId × ClassId × ClassId) (a1 : Nat) (n1 : Nat) (f1 : Nat → Int32) (i0 : Int32) (hn1 : n1 < 2147483648) : Met l yPK_at wPK_at ({ frames := 0, cells := 0, slots := 0, locals := 0 }) (va_Pc [.ref a1, .int i0] (Rd (dC, dI) cA [(a1, .inl (cA.1, n1, .inl f1))])) (QcRead (tf_PK_at n1 f1 i0)) 0 0 (fun _ => False) := by
  refine Met.ofW (cc := cPK_at) (maxL := 2) (ret := (some .int)) (by decide) rfl ?_
  intro p e s m args below meth c s₁ B hml hv
  obtain ⟨rfl, hN, hP, hK⟩ := hv
  have hx := B.exec
  have hb := B.bytes
  have hr := B.returns
  have hts := atoms_spec (ws := wPK_at) B.pre
  have htg : ∀ w ∈ GW, w.before _ s = true := fun w h => hts w (List.mem_cons_of_mem _ h)
  have hown : s.vm.findClass R_PK = some m.cls := findClass_of_methodNamed B.named
  have hlocks := B.notSynchronized
  obtain ⟨rs, hfn⟩ : ∃ rs, (tf_PK_at n1 f1 i0) = rs := ⟨_, rfl⟩
  try rw [hfn]
  have hl := lv_entry ([.ref a1, .int i0]) (n := 2) (Nat.le_of_ble_eq_true rfl)
  rw [lg_entry_eq]
  generalize (lg_sl ([.ref a1, .int i0]) ++ List.replicate (2 - (lg_sl ([.ref a1, .int i0])).length) Slot.unset).toArray = ls at hl ⊢
  have hl : lv_has ls 2 [(0, .ref a1), (1, .int i0)] := hl
  unfold tf_PK_at at hfn
  refine lv_iload_n hx hb dPK_at_0 rfl (lv_at hl 1 rfl) ?_
  refine lv_if_lt (tgt := 16) hx hb dPK_at_1 (by decide) (fun c_1 => ?_) (fun c_1 => ?_)
  · rw [if_pos c_1] at hfn
    refine lv_iconst (v := 0) hx hb dPK_at_16 (by decide) ?_
    subst hfn
    exact W.iret hx hb hr (fun t ht hW => ⟨rfl, ht⟩) (fun _ h => by cases h) dPK_at_17
  · rw [if_neg c_1] at hfn
    refine lv_iload_n hx hb dPK_at_4 rfl (lv_at hl 1 rfl) ?_
    refine lv_aload_n hx hb dPK_at_5 rfl (lv_at hl 0 rfl) ?_
    refine va_alen hx hb hK hP 0 0 rfl rfl (v := nI n1) rfl dPK_at_6 ?_
    refine lv_icmp_ge (tgt := 16) hx hb dPK_at_7 (by decide) (fun c_2 => ?_) (fun c_2 => ?_)
    · rw [if_pos c_2] at hfn
      refine lv_iconst (v := 0) hx hb dPK_at_16 (by decide) ?_
      subst hfn
      exact W.iret hx hb hr (fun t ht hW => ⟨rfl, ht⟩) (fun _ h => by cases h) dPK_at_17
    · rw [if_neg c_2] at hfn
      refine lv_aload_n hx hb dPK_at_10 rfl (lv_at hl 0 rfl) ?_
      refine lv_iload_n hx hb dPK_at_11 rfl (lv_at hl 1 rfl) ?_
      refine va_iald hx hb hK hP 0 0 rfl rfl (in_of c_1 c_2 hn1) dPK_at_12 ?_
      refine lv_goto (tgt := 17) hx hb dPK_at_13 (by decide) ?_
      subst hfn
      exact W.iret hx hb hr (fun t ht hW => ⟨rfl, ht⟩) (fun _ h => by cases h) dPK_at_17
def tf_PK_put (n1 : Nat) (f1 : Nat → Int32) (i0 : Int32) (x0 : Int32) : (Nat → Int32) := (if i0 < 0 then (f1) else (if (nI n1) ≤ i0 then (f1) else ((upd f1 i0.toNatClampNeg x0))))
set_option maxHeartbeats 4000000 in
set_option maxRecDepth 100000 in
theorem c_PK_put (l : Launch) (dC : Nat → ClassId) (dI : Nat → Nat → Nat) (cA : ClassId × ClassId × ClassId) (zz : Nat) (a1 : Nat) (n1 : Nat) (f1 : Nat → Int32) (i0 : Int32) (x0 : Int32) (hn1 : n1 < 2147483648) : Met l yPK_put wPK_put ({ frames := 0, cells := 0, slots := 0, locals := 0 }) (va_Pc [.ref a1, .int i0, .int x0] (Wr (dC, dI) cA zz [(a1, .inl (cA.1, n1, .inl f1))])) (va_Qv (fun w9 => w9 = [(a1, .inl (cA.1, n1, .inl ((tf_PK_put n1 f1 i0 x0))))]) (At (dC, dI) cA (va_A [(a1, .inl (cA.1, n1, .inl f1))] zz)) (va_A [(a1, .inl (cA.1, n1, .inl f1))] zz)) 0 0 (va_A [(a1, .inl (cA.1, n1, .inl f1))] zz) := by
  refine Met.ofW (cc := cPK_put) (maxL := 3) (ret := none) (by decide) rfl ?_
  intro p e s m args below meth c s₁ B hml hv
  obtain ⟨rfl, hsz, hN, hP, hK, hD0⟩ := hv
  have hx := B.exec
  have hb := B.bytes
  have hr := B.returns
  have hts := atoms_spec (ws := wPK_put) B.pre
  have htg : ∀ w ∈ GW, w.before _ s = true := fun w h => hts w (List.mem_cons_of_mem _ h)
  have hown : s.vm.findClass R_PK = some m.cls := findClass_of_methodNamed B.named
  have hlocks := B.notSynchronized
  subst hsz
  have hD := hD0.self (sz := s.heap.size)
  generalize hAe : va_A [(a1, .inl (cA.1, n1, .inl f1))] s.heap.size = A at hD ⊢
  have hA : ∀ q : Nat, s.heap.size ≤ q → A q := fun q h => by rw [← hAe]; exact Or.inr h
  have hS : va_S A s.heap s.heap [] := va_S.rf
  have hP : va_P (dC, dI) vwCl [(a1, .inl (cA.1, n1, .inl f1))] s.heap := hP
  obtain ⟨rs, hfn⟩ : ∃ rs, (tf_PK_put n1 f1 i0 x0) = rs := ⟨_, rfl⟩
  try rw [hfn]
  have hl := lv_entry ([.ref a1, .int i0, .int x0]) (n := 3) (Nat.le_of_ble_eq_true rfl)
  rw [lg_entry_eq]
  generalize (lg_sl ([.ref a1, .int i0, .int x0]) ++ List.replicate (3 - (lg_sl ([.ref a1, .int i0, .int x0])).length) Slot.unset).toArray = ls at hl ⊢
  have hl : lv_has ls 3 [(0, .ref a1), (1, .int i0), (2, .int x0)] := hl
  unfold tf_PK_put at hfn
  refine lv_iload_n hx hb dPK_put_0 rfl (lv_at hl 1 rfl) ?_
  refine lv_if_lt (tgt := 14) hx hb dPK_put_1 (by decide) (fun c_1 => ?_) (fun c_1 => ?_)
  · rw [if_pos c_1] at hfn
    subst hfn
    exact W.vret hx hb hr (fun t ht hW => ⟨⟨_, rfl, rfl, ⟨by rw [ht]; exact hP.sub [0] rfl, va_K.moved hW.alike hK, hD.sub [0] (by decide) rfl⟩⟩, hS.F ht⟩) hS.2.2 dPK_put_14
  · rw [if_neg c_1] at hfn
    refine lv_iload_n hx hb dPK_put_4 rfl (lv_at hl 1 rfl) ?_
    refine lv_aload_n hx hb dPK_put_5 rfl (lv_at hl 0 rfl) ?_
    refine va_alen hx hb hK hP 0 0 rfl rfl (v := nI n1) rfl dPK_put_6 ?_
    refine lv_icmp_ge (tgt := 14) hx hb dPK_put_7 (by decide) (fun c_2 => ?_) (fun c_2 => ?_)
    · rw [if_pos c_2] at hfn
      subst hfn
      exact W.vret hx hb hr (fun t ht hW => ⟨⟨_, rfl, rfl, ⟨by rw [ht]; exact hP.sub [0] rfl, va_K.moved hW.alike hK, hD.sub [0] (by decide) rfl⟩⟩, hS.F ht⟩) hS.2.2 dPK_put_14
    · rw [if_neg c_2] at hfn
      refine lv_aload_n hx hb dPK_put_10 rfl (lv_at hl 0 rfl) ?_
      refine lv_iload_n hx hb dPK_put_11 rfl (lv_at hl 1 rfl) ?_
      refine lv_iload_n hx hb dPK_put_12 rfl (lv_at hl 2 rfl) ?_
      refine va_iast hx hb hK hP hD hS 0 0 rfl rfl (in_of c_1 c_2 hn1) dPK_put_13 (fun H locs hP hD hS => ?_)
      have hP : va_P (dC, dI) vwCl [(a1, .inl (cA.1, n1, .inl (upd f1 i0.toNatClampNeg x0)))] H := hP
      have hD : va_D A [(a1, .inl (cA.1, n1, .inl (upd f1 i0.toNatClampNeg x0)))] := hD
      subst hfn
      exact W.vret hx hb hr (fun t ht hW => ⟨⟨_, rfl, rfl, ⟨by rw [ht]; exact hP.sub [0] rfl, va_K.moved hW.alike hK, hD.sub [0] (by decide) rfl⟩⟩, hS.F ht⟩) hS.2.2 dPK_put_14
def tf_PK_step_b30 (n1 : Nat) (f1 : Nat → Int32) (i0 : Int32) (u0 : Bool) (lo : Int32) : (Nat → Int32) := (if (bI u0) = 0 then (if (tf_PK_at n1 f1 i0) ≤ lo then (f1) else (((tf_PK_put n1 f1 i0 ((tf_PK_at n1 f1 i0) - 1))))) else (f1))
def tf_PK_step (n1 : Nat) (f1 : Nat → Int32) (i0 : Int32) (u0 : Bool) (lo : Int32) (hi : Int32) : (Nat → Int32) := (if (bI u0) = 0 then tf_PK_step_b30 n1 f1 i0 u0 lo else (if hi ≤ (tf_PK_at n1 f1 i0) then tf_PK_step_b30 n1 f1 i0 u0 lo else (((tf_PK_put n1 f1 i0 ((tf_PK_at n1 f1 i0) + 1))))))
set_option maxHeartbeats 4000000 in
set_option maxRecDepth 100000 in
theorem c_PK_step (l : Launch) (dC : Nat → ClassId) (dI : Nat → Nat → Nat) (cA : ClassId × ClassId × ClassId) (zz : Nat) (a1 : Nat) (n1 : Nat) (f1 : Nat → Int32) (i0 : Int32) (u0 : Bool) (lo : Int32) (hi : Int32) (hn1 : n1 < 2147483648) : Met l yPK_step wPK_step ({ frames := 1, cells := 0, slots := 0, locals := 22 }) (va_Pc [.ref a1, .int i0, .int (bI u0), .int lo, .int hi] (Wr (dC, dI) cA zz [(a1, .inl (cA.1, n1, .inl f1))])) (va_Qv (fun w9 => w9 = [(a1, .inl (cA.1, n1, .inl ((tf_PK_step n1 f1 i0 u0 lo hi))))]) (At (dC, dI) cA (va_A [(a1, .inl (cA.1, n1, .inl f1))] zz)) (va_A [(a1, .inl (cA.1, n1, .inl f1))] zz)) 0 0 (va_A [(a1, .inl (cA.1, n1, .inl f1))] zz) := by
  refine Met.ofW (cc := cPK_step) (maxL := 6) (ret := none) (by decide) rfl ?_
  intro p e s m args below meth c s₁ B hml hv
  obtain ⟨rfl, hsz, hN, hP, hK, hD0⟩ := hv
  have hx := B.exec
  have hb := B.bytes
  have hr := B.returns
  have hts := atoms_spec (ws := wPK_step) B.pre
  have htg : ∀ w ∈ GW, w.before _ s = true := fun w h => hts w (List.mem_cons_of_mem _ h)
  have hown : s.vm.findClass R_PK = some m.cls := findClass_of_methodNamed B.named
  have hlocks := B.notSynchronized
  subst hsz
  have hD := hD0.self (sz := s.heap.size)
  generalize hAe : va_A [(a1, .inl (cA.1, n1, .inl f1))] s.heap.size = A at hD ⊢
  have hA : ∀ q : Nat, s.heap.size ≤ q → A q := fun q h => by rw [← hAe]; exact Or.inr h
  have hS : va_S A s.heap s.heap [] := va_S.rf
  have hP : va_P (dC, dI) vwCl [(a1, .inl (cA.1, n1, .inl f1))] s.heap := hP
  have blk30 : ∀ (rs : (Nat → Int32)) (H : Heap) (locs : List Loc) (ls : Array Slot), tf_PK_step_b30 n1 f1 i0 u0 lo = rs → va_P (dC, dI) vwCl [(a1, .inl (cA.1, n1, .inl f1))] H → va_D A [(a1, .inl (cA.1, n1, .inl f1))] → va_S A s.heap H locs → lv_has ls 6 [(0, .ref a1), (1, .int i0), (2, .int (bI u0)), (3, .int lo), (5, .int (tf_PK_at n1 f1 i0))] → W p l e (headSpec wPK_step ({ frames := 1, cells := 0, slots := 0, locals := 22 })).room s m ([.ref a1, .int i0, .int (bI u0), .int lo, .int hi] : List Value).toArray below meth c H locs 0 0 (MQ below (va_Qv (fun w9 => w9 = [(a1, .inl (cA.1, n1, .inl (rs)))]) (At (dC, dI) cA A) A) ([.ref a1, .int i0, .int (bI u0), .int lo, .int hi] : List Value).toArray s 0 0 A) (F0 m 30 ls []) := by
    intro rs H locs ls hfn hP hD hS hl
    unfold tf_PK_step_b30 at hfn
    refine lv_iload_n hx hb dPK_step_30 rfl (lv_at hl 2 rfl) ?_
    refine lv_if_ne (tgt := 49) hx hb dPK_step_31 (by decide) (fun c_3 => ?_) (fun c_3 => ?_)
    · rw [if_neg c_3] at hfn
      subst hfn
      exact W.vret hx hb hr (fun t ht hW => ⟨⟨_, rfl, rfl, ⟨by rw [ht]; exact hP.sub [0] rfl, va_K.moved hW.alike hK, hD.sub [0] (by decide) rfl⟩⟩, hS.F ht⟩) hS.2.2 dPK_step_49
    · rw [if_pos c_3] at hfn
      refine lv_iload hx hb dPK_step_34 (lv_at hl 4 rfl) ?_
      refine lv_iload_n hx hb dPK_step_36 rfl (lv_at hl 3 rfl) ?_
      refine lv_icmp_le (tgt := 49) hx hb dPK_step_37 (by decide) (fun c_4 => ?_) (fun c_4 => ?_)
      · rw [if_pos c_4] at hfn
        subst hfn
        exact W.vret hx hb hr (fun t ht hW => ⟨⟨_, rfl, rfl, ⟨by rw [ht]; exact hP.sub [0] rfl, va_K.moved hW.alike hK, hD.sub [0] (by decide) rfl⟩⟩, hS.F ht⟩) hS.2.2 dPK_step_49
      · rw [if_neg c_4] at hfn
        refine lv_aload_n hx hb dPK_step_40 rfl (lv_at hl 0 rfl) ?_
        refine lv_iload_n hx hb dPK_step_41 rfl (lv_at hl 1 rfl) ?_
        refine lv_iload hx hb dPK_step_42 (lv_at hl 4 rfl) ?_
        refine lv_iconst (v := 1) hx hb dPK_step_44 (by decide) ?_
        refine lv_isub hx hb dPK_step_45 ?_
        refine wr_Sv (wr := []) (As := [.ref a1, .int i0, .int ((tf_PK_at n1 f1 i0) - 1)]) (rest := []) ⟨hx, hb, hml, hown, htg⟩ (c_PK_put l dC dI cA _ a1 n1 f1 i0 ((tf_PK_at n1 f1 i0) - 1) hn1) (cw_S htg wd_477 qPK_put iPK_put kPK_put pPK_put rfl rfl ⟨Nat.le_of_ble_eq_true rfl, Nat.le_of_ble_eq_true rfl⟩) hN hP hD hS hA hK [0] [] rfl rfl (by decide) (by decide) (by decide) rfl hl.1 rfl (Nat.le_of_ble_eq_true rfl) dPK_step_46 ⟨Nat.le_of_ble_eq_true rfl, Nat.le_of_ble_eq_true rfl⟩ (fun H locs hP hD hS => ?_)
        have hP : va_P (dC, dI) vwCl [(a1, .inl (cA.1, n1, .inl ((tf_PK_put n1 f1 i0 ((tf_PK_at n1 f1 i0) - 1)))))] H := hP
        have hD : va_D A [(a1, .inl (cA.1, n1, .inl ((tf_PK_put n1 f1 i0 ((tf_PK_at n1 f1 i0) - 1)))))] := hD
        subst hfn
        exact W.vret hx hb hr (fun t ht hW => ⟨⟨_, rfl, rfl, ⟨by rw [ht]; exact hP.sub [0] rfl, va_K.moved hW.alike hK, hD.sub [0] (by decide) rfl⟩⟩, hS.F ht⟩) hS.2.2 dPK_step_49
  obtain ⟨rs, hfn⟩ : ∃ rs, (tf_PK_step n1 f1 i0 u0 lo hi) = rs := ⟨_, rfl⟩
  try rw [hfn]
  have hl := lv_entry ([.ref a1, .int i0, .int (bI u0), .int lo, .int hi]) (n := 6) (Nat.le_of_ble_eq_true rfl)
  rw [lg_entry_eq]
  generalize (lg_sl ([.ref a1, .int i0, .int (bI u0), .int lo, .int hi]) ++ List.replicate (6 - (lg_sl ([.ref a1, .int i0, .int (bI u0), .int lo, .int hi])).length) Slot.unset).toArray = ls at hl ⊢
  have hl : lv_has ls 6 [(0, .ref a1), (1, .int i0), (2, .int (bI u0)), (3, .int lo), (4, .int hi)] := hl
  unfold tf_PK_step at hfn
  refine lv_aload_n hx hb dPK_step_0 rfl (lv_at hl 0 rfl) ?_
  refine lv_iload_n hx hb dPK_step_1 rfl (lv_at hl 1 rfl) ?_
  refine rd_S (As := [.ref a1, .int i0]) (rest := []) ⟨hx, hb, hml, hown, htg⟩ (c_PK_at l dC dI cA a1 n1 f1 i0 hn1) (cw_S htg wd_476 qPK_at iPK_at kPK_at pPK_at rfl rfl ⟨Nat.le_of_ble_eq_true rfl, Nat.le_of_ble_eq_true rfl⟩) hN (hP.sub [0] rfl) hK rfl hl.1 rfl (Nat.le_of_ble_eq_true rfl) dPK_step_2 ⟨Nat.le_of_ble_eq_true rfl, Nat.le_of_ble_eq_true rfl⟩ ?_
  refine lv_istore (lv' := [(5, .int (tf_PK_at n1 f1 i0)), (0, .ref a1), (1, .int i0), (2, .int (bI u0)), (3, .int lo), (4, .int hi)]) hx hb dPK_step_5 hl (by decide) rfl (fun ls hl => ?_)
  refine lv_iload_n hx hb dPK_step_7 rfl (lv_at hl 3 rfl) ?_
  refine lv_if_eq (tgt := 30) hx hb dPK_step_8 (by decide) (fun c_1 => ?_) (fun c_1 => ?_)
  · rw [if_pos c_1] at hfn
    exact blk30 _ _ _ ls hfn (hP.sub [0] rfl) (hD.sub [0] (by decide) rfl) hS (lv_sub hl [1, 2, 3, 4, 0] rfl)
  · rw [if_neg c_1] at hfn
    refine lv_iload hx hb dPK_step_11 (lv_at hl 0 rfl) ?_
    refine lv_iload hx hb dPK_step_13 (lv_at hl 5 rfl) ?_
    refine lv_icmp_ge (tgt := 30) hx hb dPK_step_15 (by decide) (fun c_2 => ?_) (fun c_2 => ?_)
    · rw [if_pos c_2] at hfn
      exact blk30 _ _ _ ls hfn (hP.sub [0] rfl) (hD.sub [0] (by decide) rfl) hS (lv_sub hl [1, 2, 3, 4, 0] rfl)
    · rw [if_neg c_2] at hfn
      refine lv_aload_n hx hb dPK_step_18 rfl (lv_at hl 1 rfl) ?_
      refine lv_iload_n hx hb dPK_step_19 rfl (lv_at hl 2 rfl) ?_
      refine lv_iload hx hb dPK_step_20 (lv_at hl 0 rfl) ?_
      refine lv_iconst (v := 1) hx hb dPK_step_22 (by decide) ?_
      refine lv_iadd hx hb dPK_step_23 ?_
      refine wr_Sv (wr := []) (As := [.ref a1, .int i0, .int ((tf_PK_at n1 f1 i0) + 1)]) (rest := []) ⟨hx, hb, hml, hown, htg⟩ (c_PK_put l dC dI cA _ a1 n1 f1 i0 ((tf_PK_at n1 f1 i0) + 1) hn1) (cw_S htg wd_477 qPK_put iPK_put kPK_put pPK_put rfl rfl ⟨Nat.le_of_ble_eq_true rfl, Nat.le_of_ble_eq_true rfl⟩) hN hP hD hS hA hK [0] [] rfl rfl (by decide) (by decide) (by decide) rfl hl.1 rfl (Nat.le_of_ble_eq_true rfl) dPK_step_24 ⟨Nat.le_of_ble_eq_true rfl, Nat.le_of_ble_eq_true rfl⟩ (fun H locs hP hD hS => ?_)
      have hP : va_P (dC, dI) vwCl [(a1, .inl (cA.1, n1, .inl ((tf_PK_put n1 f1 i0 ((tf_PK_at n1 f1 i0) + 1)))))] H := hP
      have hD : va_D A [(a1, .inl (cA.1, n1, .inl ((tf_PK_put n1 f1 i0 ((tf_PK_at n1 f1 i0) + 1)))))] := hD
      refine lv_goto (tgt := 49) hx hb dPK_step_27 (by decide) ?_
      subst hfn
      exact W.vret hx hb hr (fun t ht hW => ⟨⟨_, rfl, rfl, ⟨by rw [ht]; exact hP.sub [0] rfl, va_K.moved hW.alike hK, hD.sub [0] (by decide) rfl⟩⟩, hS.F ht⟩) hS.2.2 dPK_step_49
def tf_PK_stepCounter (n1 : Nat) (f1 : Nat → Int32) (i0 : Int32) (u0 : Bool) : (Nat → Int32) := (((tf_PK_step n1 f1 i0 u0 0 3)))
set_option maxHeartbeats 4000000 in
set_option maxRecDepth 100000 in
theorem c_PK_stepCounter (l : Launch) (dC : Nat → ClassId) (dI : Nat → Nat → Nat) (cA : ClassId × ClassId × ClassId) (zz : Nat) (a1 : Nat) (n1 : Nat) (f1 : Nat → Int32) (i0 : Int32) (u0 : Bool) (hn1 : n1 < 2147483648) : Met l yPK_stepCounter wPK_stepCounter ({ frames := 2, cells := 0, slots := 0, locals := 47 }) (va_Pc [.ref a1, .int i0, .int (bI u0)] (Wr (dC, dI) cA zz [(a1, .inl (cA.1, n1, .inl f1))])) (va_Qv (fun w9 => w9 = [(a1, .inl (cA.1, n1, .inl ((tf_PK_stepCounter n1 f1 i0 u0))))]) (At (dC, dI) cA (va_A [(a1, .inl (cA.1, n1, .inl f1))] zz)) (va_A [(a1, .inl (cA.1, n1, .inl f1))] zz)) 0 0 (va_A [(a1, .inl (cA.1, n1, .inl f1))] zz) := by
  refine Met.ofW (cc := cPK_stepCounter) (maxL := 3) (ret := none) (by decide) rfl ?_
  intro p e s m args below meth c s₁ B hml hv
  obtain ⟨rfl, hsz, hN, hP, hK, hD0⟩ := hv
  have hx := B.exec
  have hb := B.bytes
  have hr := B.returns
  have hts := atoms_spec (ws := wPK_stepCounter) B.pre
  have htg : ∀ w ∈ GW, w.before _ s = true := fun w h => hts w (List.mem_cons_of_mem _ h)
  have hown : s.vm.findClass R_PK = some m.cls := findClass_of_methodNamed B.named
  have hlocks := B.notSynchronized
  subst hsz
  have hD := hD0.self (sz := s.heap.size)
  generalize hAe : va_A [(a1, .inl (cA.1, n1, .inl f1))] s.heap.size = A at hD ⊢
  have hA : ∀ q : Nat, s.heap.size ≤ q → A q := fun q h => by rw [← hAe]; exact Or.inr h
  have hS : va_S A s.heap s.heap [] := va_S.rf
  have hP : va_P (dC, dI) vwCl [(a1, .inl (cA.1, n1, .inl f1))] s.heap := hP
  obtain ⟨rs, hfn⟩ : ∃ rs, (tf_PK_stepCounter n1 f1 i0 u0) = rs := ⟨_, rfl⟩
  try rw [hfn]
  have hl := lv_entry ([.ref a1, .int i0, .int (bI u0)]) (n := 3) (Nat.le_of_ble_eq_true rfl)
  rw [lg_entry_eq]
  generalize (lg_sl ([.ref a1, .int i0, .int (bI u0)]) ++ List.replicate (3 - (lg_sl ([.ref a1, .int i0, .int (bI u0)])).length) Slot.unset).toArray = ls at hl ⊢
  have hl : lv_has ls 3 [(0, .ref a1), (1, .int i0), (2, .int (bI u0))] := hl
  unfold tf_PK_stepCounter at hfn
  refine lv_aload_n hx hb dPK_stepCounter_0 rfl (lv_at hl 0 rfl) ?_
  refine lv_iload_n hx hb dPK_stepCounter_1 rfl (lv_at hl 1 rfl) ?_
  refine lv_iload_n hx hb dPK_stepCounter_2 rfl (lv_at hl 2 rfl) ?_
  refine lv_iconst (v := 0) hx hb dPK_stepCounter_3 (by decide) ?_
  refine lv_iconst (v := 3) hx hb dPK_stepCounter_4 (by decide) ?_
  refine wr_Sv (wr := []) (As := [.ref a1, .int i0, .int (bI u0), .int 0, .int 3]) (rest := []) ⟨hx, hb, hml, hown, htg⟩ (c_PK_step l dC dI cA _ a1 n1 f1 i0 u0 0 3 hn1) (cw_S htg wd_473 qPK_step iPK_step kPK_step pPK_step rfl rfl ⟨Nat.le_of_ble_eq_true rfl, Nat.le_of_ble_eq_true rfl⟩) hN hP hD hS hA hK [0] [] rfl rfl (by decide) (by decide) (by decide) rfl hl.1 rfl (Nat.le_of_ble_eq_true rfl) dPK_stepCounter_5 ⟨Nat.le_of_ble_eq_true rfl, Nat.le_of_ble_eq_true rfl⟩ (fun H locs hP hD hS => ?_)
  have hP : va_P (dC, dI) vwCl [(a1, .inl (cA.1, n1, .inl ((tf_PK_step n1 f1 i0 u0 0 3))))] H := hP
  have hD : va_D A [(a1, .inl (cA.1, n1, .inl ((tf_PK_step n1 f1 i0 u0 0 3))))] := hD
  subst hfn
  exact W.vret hx hb hr (fun t ht hW => ⟨⟨_, rfl, rfl, ⟨by rw [ht]; exact hP.sub [0] rfl, va_K.moved hW.alike hK, hD.sub [0] (by decide) rfl⟩⟩, hS.F ht⟩) hS.2.2 dPK_stepCounter_8
