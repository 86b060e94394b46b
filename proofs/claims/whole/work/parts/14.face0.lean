def of_PK_settle (ps : Int32) (u4 : Int32) (ud : Int32) (wf1 : Nat → Int32) (wf2 : Nat → Int32) (wf3 : Nat → Int32) (od : Int32) (bf : Int32) (tk : Bool) : Option (Int32 × Int32 × Int32 × (Nat → Int32) × (Nat → Int32) × (Nat → Int32)) := (if 0 ≤ od then (if (bI (tf_Waiting_wasSaid wf3 od)) = (bI tk) then ((of_Waiting_remove ud wf1 wf2 wf3 od).bind fun (z_3_0, z_3_1, z_3_2, z_3_3) => some (u4, ps, z_3_0, z_3_1, z_3_2, z_3_3)) else some ((u4 + 1), (tf_PK_behind bf tk), tf_Waiting_lose, wf1, wf2, wf3)) else some (u4, (tf_PK_behind ps tk), ud, wf1, wf2, wf3))
set_option maxHeartbeats 4000000 in
set_option maxRecDepth 100000 in
theorem c_PK_settle (l : Launch) (dC : Nat → ClassId) (dI : Nat → Nat → Nat) (cA : ClassId × ClassId × ClassId) (zz : Nat) (h0 : Nat) (w0 : Nat) (p1 : Nat) (p2 : Nat) (p3 : Nat) (m0 : Nat) (k0 : Nat) (kn : Int32) (sz0 : Int32) (mc0 : Int32) (ps : Int32) (ey : Bool) (u1 : Int32) (u2 : Int32) (u3 : Int32) (u4 : Int32) (ud : Int32) (wf1 : Nat → Int32) (wf2 : Nat → Int32) (wf3 : Nat → Int32) (mf : Nat → Int32) (od : Int32) (bf : Int32) (tk : Bool) (rs0 : Int32) (rs1 : Int32) (rs2 : Int32) (rs3 : (Nat → Int32)) (rs4 : (Nat → Int32)) (rs5 : (Nat → Int32)) (hfn : (of_PK_settle ps u4 ud wf1 wf2 wf3 od bf tk) = some (rs0, rs1, rs2, rs3, rs4, rs5)) : Met l yPK_settle wPK_settle ({ frames := 3, cells := 0, slots := 0, locals := 68 }) (va_Pc [.ref h0, .int od, .int bf, .int (bI tk)] (Wr (dC, dI) cA zz [(h0, .inr (10, [.int kn, .int sz0, .ref k0, .ref w0, .ref m0, .int mc0, .int ps, .int (bI ey), .int u1, .int u2, .int u3, .int u4])), (w0, .inr (9, [.ref p1, .ref p2, .ref p3, .int ud])), (p1, .inl (cA.1, 64, .inl wf1)), (p2, .inl (cA.1, 64, .inl wf2)), (p3, .inl (cA.1, 64, .inl wf3)), (m0, .inl (cA.1, 32, .inl mf))])) (va_Qv (fun w9 => w9 = [(h0, .inr (10, [.int kn, .int sz0, .ref k0, .ref w0, .ref m0, .int mc0, .int rs1, .int (bI ey), .int u1, .int u2, .int u3, .int rs0])), (w0, .inr (9, [.ref p1, .ref p2, .ref p3, .int rs2])), (p1, .inl (cA.1, 64, .inl rs3)), (p2, .inl (cA.1, 64, .inl rs4)), (p3, .inl (cA.1, 64, .inl rs5)), (m0, .inl (cA.1, 32, .inl mf))]) (At (dC, dI) cA (va_A [(h0, .inr (10, [.int kn, .int sz0, .ref k0, .ref w0, .ref m0, .int mc0, .int ps, .int (bI ey), .int u1, .int u2, .int u3, .int u4])), (w0, .inr (9, [.ref p1, .ref p2, .ref p3, .int ud])), (p1, .inl (cA.1, 64, .inl wf1)), (p2, .inl (cA.1, 64, .inl wf2)), (p3, .inl (cA.1, 64, .inl wf3)), (m0, .inl (cA.1, 32, .inl mf))] zz)) (va_A [(h0, .inr (10, [.int kn, .int sz0, .ref k0, .ref w0, .ref m0, .int mc0, .int ps, .int (bI ey), .int u1, .int u2, .int u3, .int u4])), (w0, .inr (9, [.ref p1, .ref p2, .ref p3, .int ud])), (p1, .inl (cA.1, 64, .inl wf1)), (p2, .inl (cA.1, 64, .inl wf2)), (p3, .inl (cA.1, 64, .inl wf3)), (m0, .inl (cA.1, 32, .inl mf))] zz)) 0 0 (va_A [(h0, .inr (10, [.int kn, .int sz0, .ref k0, .ref w0, .ref m0, .int mc0, .int ps, .int (bI ey), .int u1, .int u2, .int u3, .int u4])), (w0, .inr (9, [.ref p1, .ref p2, .ref p3, .int ud])), (p1, .inl (cA.1, 64, .inl wf1)), (p2, .inl (cA.1, 64, .inl wf2)), (p3, .inl (cA.1, 64, .inl wf3)), (m0, .inl (cA.1, 32, .inl mf))] zz) := by
  refine Met.ofW (cc := cPK_settle) (maxL := 4) (ret := none) (by decide) rfl ?_
  intro p e s m args below meth c s₁ B hml hv
  obtain ⟨rfl, hsz, hN, hP, hK, hD0⟩ := hv
  have hx := B.exec
  have hb := B.bytes
  have hr := B.returns
  have hts := atoms_spec (ws := wPK_settle) B.pre
  have htg : ∀ w ∈ GW, w.before _ s = true := fun w h => hts w (List.mem_cons_of_mem _ h)
  have hown : s.vm.findClass R_PK = some m.cls := findClass_of_methodNamed B.named
  have hlocks := B.notSynchronized
  subst hsz
  have hD := hD0.self (sz := s.heap.size)
  generalize hAe : va_A [(h0, .inr (10, [.int kn, .int sz0, .ref k0, .ref w0, .ref m0, .int mc0, .int ps, .int (bI ey), .int u1, .int u2, .int u3, .int u4])), (w0, .inr (9, [.ref p1, .ref p2, .ref p3, .int ud])), (p1, .inl (cA.1, 64, .inl wf1)), (p2, .inl (cA.1, 64, .inl wf2)), (p3, .inl (cA.1, 64, .inl wf3)), (m0, .inl (cA.1, 32, .inl mf))] s.heap.size = A at hD ⊢
  have hA : ∀ q : Nat, s.heap.size ≤ q → A q := fun q h => by rw [← hAe]; exact Or.inr h
  have hS : va_S A s.heap s.heap [] := va_S.rf
  have hP : va_P (dC, dI) vwCl [(h0, .inr (10, [.int kn, .int sz0, .ref k0, .ref w0, .ref m0, .int mc0, .int ps, .int (bI ey), .int u1, .int u2, .int u3, .int u4])), (w0, .inr (9, [.ref p1, .ref p2, .ref p3, .int ud])), (p1, .inl (cA.1, 64, .inl wf1)), (p2, .inl (cA.1, 64, .inl wf2)), (p3, .inl (cA.1, 64, .inl wf3)), (m0, .inl (cA.1, 32, .inl mf))] s.heap := hP
  have hl := lv_entry ([.ref h0, .int od, .int bf, .int (bI tk)]) (n := 4) (Nat.le_of_ble_eq_true rfl)
  rw [lg_entry_eq]
  generalize (lg_sl ([.ref h0, .int od, .int bf, .int (bI tk)]) ++ List.replicate (4 - (lg_sl ([.ref h0, .int od, .int bf, .int (bI tk)])).length) Slot.unset).toArray = ls at hl ⊢
  have hl : lv_has ls 4 [(0, .ref h0), (1, .int od), (2, .int bf), (3, .int (bI tk))] := hl
  unfold of_PK_settle at hfn
  refine lv_iload_n hx hb dPK_settle_0 rfl (lv_at hl 1 rfl) ?_
  refine lv_if_ge (tgt := 19) hx hb dPK_settle_1 (by decide) (fun c_1 => ?_) (fun c_1 => ?_)
  · rw [if_pos c_1] at hfn
    refine lv_aload_n hx hb dPK_settle_19 rfl (lv_at hl 0 rfl) ?_
    refine va_get (D := (dC, dI)) (ci := 10) (v := .ref w0) (C := R_PK) (T := T_PK) (N := 12) hx hb htg in_PK hown hK hP 0 rfl rfl 3 (by decide) (htg _ wd_265) (fun _ h9 => h9) rfl dPK_settle_20 ?_
    refine lv_iload_n hx hb dPK_settle_23 rfl (lv_at hl 1 rfl) ?_
    refine rd_V (As := [.int od]) (rest := []) ⟨hx, hb, hml, hown, htg⟩ (c_Waiting_wasSaid l dC dI cA w0 p1 p2 p3 ud wf1 wf2 wf3 od) (cw_V htg wd_541 wd_543 qWaiting_wasSaid iWaiting_wasSaid kWaiting_wasSaid pWaiting_wasSaid rfl rfl ⟨Nat.le_of_ble_eq_true rfl, Nat.le_of_ble_eq_true rfl⟩) (va_recv hK hP (ci := 9) (q0 := 1) rfl rfl) hN (hP.sub [1, 2, 3, 4] rfl) hK rfl hl.1 rfl (Nat.le_of_ble_eq_true rfl) dPK_settle_24 ⟨Nat.le_of_ble_eq_true rfl, Nat.le_of_ble_eq_true rfl⟩ ?_
    refine lv_iload_n hx hb dPK_settle_27 rfl (lv_at hl 3 rfl) ?_
    refine lv_icmp_ne (tgt := 42) hx hb dPK_settle_28 (by decide) (fun c_2 => ?_) (fun c_2 => ?_)
    · rw [if_neg c_2] at hfn
      refine lv_aload_n hx hb dPK_settle_42 rfl (lv_at hl 0 rfl) ?_
      refine lv_iload_n hx hb dPK_settle_43 rfl (lv_at hl 2 rfl) ?_
      refine lv_iload_n hx hb dPK_settle_44 rfl (lv_at hl 3 rfl) ?_
      refine rd_S (As := [.int bf, .int (bI tk)]) (rest := [.ref h0]) ⟨hx, hb, hml, hown, htg⟩ (c_PK_behind l dC dI cA bf tk) (cw_S htg wd_445 qPK_behind iPK_behind kPK_behind pPK_behind rfl rfl ⟨Nat.le_of_ble_eq_true rfl, Nat.le_of_ble_eq_true rfl⟩) hN (hP.sub [] rfl) hK rfl hl.1 rfl (Nat.le_of_ble_eq_true rfl) dPK_settle_45 ⟨Nat.le_of_ble_eq_true rfl, Nat.le_of_ble_eq_true rfl⟩ ?_
      refine va_put (D := (dC, dI)) (ci := 10) (v := .int (tf_PK_behind bf tk)) (ty := .int) (C := R_PK) (T := T_PK) (N := 12) hx hb htg in_PK ty_PK tk_PK nm_PK hown hK hP hD hS 0 rfl rfl 6 (by decide) (htg _ wd_268) (fun _ h9 => h9) rfl (by decide +kernel) rfl rfl (Nat.le_of_ble_eq_true rfl) dPK_settle_48 (fun H locs hP hD hS => ?_)
      have hP : va_P (dC, dI) vwCl [(h0, .inr (10, [.int kn, .int sz0, .ref k0, .ref w0, .ref m0, .int mc0, .int (tf_PK_behind bf tk), .int (bI ey), .int u1, .int u2, .int u3, .int u4])), (w0, .inr (9, [.ref p1, .ref p2, .ref p3, .int ud])), (p1, .inl (cA.1, 64, .inl wf1)), (p2, .inl (cA.1, 64, .inl wf2)), (p3, .inl (cA.1, 64, .inl wf3)), (m0, .inl (cA.1, 32, .inl mf))] H := hP
      have hD : va_D A [(h0, .inr (10, [.int kn, .int sz0, .ref k0, .ref w0, .ref m0, .int mc0, .int (tf_PK_behind bf tk), .int (bI ey), .int u1, .int u2, .int u3, .int u4])), (w0, .inr (9, [.ref p1, .ref p2, .ref p3, .int ud])), (p1, .inl (cA.1, 64, .inl wf1)), (p2, .inl (cA.1, 64, .inl wf2)), (p3, .inl (cA.1, 64, .inl wf3)), (m0, .inl (cA.1, 32, .inl mf))] := hD
      refine lv_aload_n hx hb dPK_settle_51 rfl (lv_at hl 0 rfl) ?_
      refine va_get (D := (dC, dI)) (ci := 10) (v := .ref w0) (C := R_PK) (T := T_PK) (N := 12) hx hb htg in_PK hown hK hP 0 rfl rfl 3 (by decide) (htg _ wd_265) (fun _ h9 => h9) rfl dPK_settle_52 ?_
      refine wr_Vv (wr := [(h0, .inr (10, [.int kn, .int sz0, .ref k0, .ref w0, .ref m0, .int mc0, .int (tf_PK_behind bf tk), .int (bI ey), .int u1, .int u2, .int u3, .int u4])), (m0, .inl (cA.1, 32, .inl mf))]) (As := []) (rest := []) ⟨hx, hb, hml, hown, htg⟩ (c_Waiting_lose l dC dI cA _ w0 p1 p2 p3 ud wf1 wf2 wf3) (cw_V htg wd_549 wd_551 qWaiting_lose iWaiting_lose kWaiting_lose pWaiting_lose rfl rfl ⟨Nat.le_of_ble_eq_true rfl, Nat.le_of_ble_eq_true rfl⟩) (va_recv hK hP (ci := 9) (q0 := 1) rfl rfl) hN hP hD hS hA hK [1, 2, 3, 4] [0, 5] rfl rfl (by decide) (by decide) (by decide) rfl hl.1 rfl (Nat.le_of_ble_eq_true rfl) dPK_settle_55 ⟨Nat.le_of_ble_eq_true rfl, Nat.le_of_ble_eq_true rfl⟩ (fun H locs hP hD hS => ?_)
      have hP : va_P (dC, dI) vwCl [(h0, .inr (10, [.int kn, .int sz0, .ref k0, .ref w0, .ref m0, .int mc0, .int (tf_PK_behind bf tk), .int (bI ey), .int u1, .int u2, .int u3, .int u4])), (m0, .inl (cA.1, 32, .inl mf)), (w0, .inr (9, [.ref p1, .ref p2, .ref p3, .int tf_Waiting_lose])), (p1, .inl (cA.1, 64, .inl wf1)), (p2, .inl (cA.1, 64, .inl wf2)), (p3, .inl (cA.1, 64, .inl wf3))] H := hP
      have hD : va_D A [(h0, .inr (10, [.int kn, .int sz0, .ref k0, .ref w0, .ref m0, .int mc0, .int (tf_PK_behind bf tk), .int (bI ey), .int u1, .int u2, .int u3, .int u4])), (m0, .inl (cA.1, 32, .inl mf)), (w0, .inr (9, [.ref p1, .ref p2, .ref p3, .int tf_Waiting_lose])), (p1, .inl (cA.1, 64, .inl wf1)), (p2, .inl (cA.1, 64, .inl wf2)), (p3, .inl (cA.1, 64, .inl wf3))] := hD
      refine lv_aload_n hx hb dPK_settle_58 rfl (lv_at hl 0 rfl) ?_
      refine lv_dup hx hb dPK_settle_59 rfl ?_
      refine va_get (D := (dC, dI)) (ci := 10) (v := .int u4) (C := R_PK) (T := T_PK) (N := 12) hx hb htg in_PK hown hK hP 0 rfl rfl 11 (by decide) (htg _ wd_273) (fun _ h9 => h9) rfl dPK_settle_60 ?_
      refine lv_iconst (v := 1) hx hb dPK_settle_63 (by decide) ?_
      refine lv_iadd hx hb dPK_settle_64 ?_
      refine va_put (D := (dC, dI)) (ci := 10) (v := .int (u4 + 1)) (ty := .int) (C := R_PK) (T := T_PK) (N := 12) hx hb htg in_PK ty_PK tk_PK nm_PK hown hK hP hD hS 0 rfl rfl 11 (by decide) (htg _ wd_273) (fun _ h9 => h9) rfl (by decide +kernel) rfl rfl (Nat.le_of_ble_eq_true rfl) dPK_settle_65 (fun H locs hP hD hS => ?_)
      have hP : va_P (dC, dI) vwCl [(h0, .inr (10, [.int kn, .int sz0, .ref k0, .ref w0, .ref m0, .int mc0, .int (tf_PK_behind bf tk), .int (bI ey), .int u1, .int u2, .int u3, .int (u4 + 1)])), (m0, .inl (cA.1, 32, .inl mf)), (w0, .inr (9, [.ref p1, .ref p2, .ref p3, .int tf_Waiting_lose])), (p1, .inl (cA.1, 64, .inl wf1)), (p2, .inl (cA.1, 64, .inl wf2)), (p3, .inl (cA.1, 64, .inl wf3))] H := hP
      have hD : va_D A [(h0, .inr (10, [.int kn, .int sz0, .ref k0, .ref w0, .ref m0, .int mc0, .int (tf_PK_behind bf tk), .int (bI ey), .int u1, .int u2, .int u3, .int (u4 + 1)])), (m0, .inl (cA.1, 32, .inl mf)), (w0, .inr (9, [.ref p1, .ref p2, .ref p3, .int tf_Waiting_lose])), (p1, .inl (cA.1, 64, .inl wf1)), (p2, .inl (cA.1, 64, .inl wf2)), (p3, .inl (cA.1, 64, .inl wf3))] := hD
      replace hfn := Option.some.inj hfn
      obtain ⟨e9, hf_0⟩ := Prod.mk.inj hfn; clear hfn; subst e9
      obtain ⟨e9, hf_1⟩ := Prod.mk.inj hf_0; clear hf_0; subst e9
      obtain ⟨e9, hf_2⟩ := Prod.mk.inj hf_1; clear hf_1; subst e9
      obtain ⟨e9, hf_3⟩ := Prod.mk.inj hf_2; clear hf_2; subst e9
      obtain ⟨e9, hf_4⟩ := Prod.mk.inj hf_3; clear hf_3; subst e9
      subst hf_4
      exact W.vret hx hb hr (fun t ht hW => ⟨⟨_, rfl, rfl, ⟨by rw [ht]; exact hP.sub [0, 2, 3, 4, 5, 1] rfl, va_K.moved hW.alike hK, hD.sub [0, 2, 3, 4, 5, 1] (by decide) rfl⟩⟩, hS.F ht⟩) hS.2.2 dPK_settle_68
    · rw [if_pos c_2] at hfn
      refine lv_aload_n hx hb dPK_settle_31 rfl (lv_at hl 0 rfl) ?_
      refine va_get (D := (dC, dI)) (ci := 10) (v := .ref w0) (C := R_PK) (T := T_PK) (N := 12) hx hb htg in_PK hown hK hP 0 rfl rfl 3 (by decide) (htg _ wd_265) (fun _ h9 => h9) rfl dPK_settle_32 ?_
      refine lv_iload_n hx hb dPK_settle_35 rfl (lv_at hl 1 rfl) ?_
      obtain ⟨⟨z_3_0, z_3_1, z_3_2, z_3_3⟩, hz_3, hfn⟩ := ob hfn
      dsimp only at hfn
      refine wr_Vv (wr := [(h0, .inr (10, [.int kn, .int sz0, .ref k0, .ref w0, .ref m0, .int mc0, .int ps, .int (bI ey), .int u1, .int u2, .int u3, .int u4])), (m0, .inl (cA.1, 32, .inl mf))]) (As := [.int od]) (rest := []) ⟨hx, hb, hml, hown, htg⟩ (c_Waiting_remove l dC dI cA _ w0 p1 p2 p3 ud wf1 wf2 wf3 od z_3_0 z_3_1 z_3_2 z_3_3 hz_3) (cw_V htg wd_545 wd_547 qWaiting_remove iWaiting_remove kWaiting_remove pWaiting_remove rfl rfl ⟨Nat.le_of_ble_eq_true rfl, Nat.le_of_ble_eq_true rfl⟩) (va_recv hK hP (ci := 9) (q0 := 1) rfl rfl) hN hP hD hS hA hK [1, 2, 3, 4] [0, 5] rfl rfl (by decide) (by decide) (by decide) rfl hl.1 rfl (Nat.le_of_ble_eq_true rfl) dPK_settle_36 ⟨Nat.le_of_ble_eq_true rfl, Nat.le_of_ble_eq_true rfl⟩ (fun H locs hP hD hS => ?_)
      have hP : va_P (dC, dI) vwCl [(h0, .inr (10, [.int kn, .int sz0, .ref k0, .ref w0, .ref m0, .int mc0, .int ps, .int (bI ey), .int u1, .int u2, .int u3, .int u4])), (m0, .inl (cA.1, 32, .inl mf)), (w0, .inr (9, [.ref p1, .ref p2, .ref p3, .int z_3_0])), (p1, .inl (cA.1, 64, .inl z_3_1)), (p2, .inl (cA.1, 64, .inl z_3_2)), (p3, .inl (cA.1, 64, .inl z_3_3))] H := hP
      have hD : va_D A [(h0, .inr (10, [.int kn, .int sz0, .ref k0, .ref w0, .ref m0, .int mc0, .int ps, .int (bI ey), .int u1, .int u2, .int u3, .int u4])), (m0, .inl (cA.1, 32, .inl mf)), (w0, .inr (9, [.ref p1, .ref p2, .ref p3, .int z_3_0])), (p1, .inl (cA.1, 64, .inl z_3_1)), (p2, .inl (cA.1, 64, .inl z_3_2)), (p3, .inl (cA.1, 64, .inl z_3_3))] := hD
      refine lv_goto (tgt := 68) hx hb dPK_settle_39 (by decide) ?_
      replace hfn := Option.some.inj hfn
      obtain ⟨e9, hf_0⟩ := Prod.mk.inj hfn; clear hfn; subst e9
      obtain ⟨e9, hf_1⟩ := Prod.mk.inj hf_0; clear hf_0; subst e9
      obtain ⟨e9, hf_2⟩ := Prod.mk.inj hf_1; clear hf_1; subst e9
      obtain ⟨e9, hf_3⟩ := Prod.mk.inj hf_2; clear hf_2; subst e9
      obtain ⟨e9, hf_4⟩ := Prod.mk.inj hf_3; clear hf_3; subst e9
      subst hf_4
      exact W.vret hx hb hr (fun t ht hW => ⟨⟨_, rfl, rfl, ⟨by rw [ht]; exact hP.sub [0, 2, 3, 4, 5, 1] rfl, va_K.moved hW.alike hK, hD.sub [0, 2, 3, 4, 5, 1] (by decide) rfl⟩⟩, hS.F ht⟩) hS.2.2 dPK_settle_68
  · rw [if_neg c_1] at hfn
    refine lv_aload_n hx hb dPK_settle_4 rfl (lv_at hl 0 rfl) ?_
    refine lv_aload_n hx hb dPK_settle_5 rfl (lv_at hl 0 rfl) ?_
    refine va_get (D := (dC, dI)) (ci := 10) (v := .int ps) (C := R_PK) (T := T_PK) (N := 12) hx hb htg in_PK hown hK hP 0 rfl rfl 6 (by decide) (htg _ wd_268) (fun _ h9 => h9) rfl dPK_settle_6 ?_
    refine lv_iload_n hx hb dPK_settle_9 rfl (lv_at hl 3 rfl) ?_
    refine rd_S (As := [.int ps, .int (bI tk)]) (rest := [.ref h0]) ⟨hx, hb, hml, hown, htg⟩ (c_PK_behind l dC dI cA ps tk) (cw_S htg wd_445 qPK_behind iPK_behind kPK_behind pPK_behind rfl rfl ⟨Nat.le_of_ble_eq_true rfl, Nat.le_of_ble_eq_true rfl⟩) hN (hP.sub [] rfl) hK rfl hl.1 rfl (Nat.le_of_ble_eq_true rfl) dPK_settle_10 ⟨Nat.le_of_ble_eq_true rfl, Nat.le_of_ble_eq_true rfl⟩ ?_
    refine va_put (D := (dC, dI)) (ci := 10) (v := .int (tf_PK_behind ps tk)) (ty := .int) (C := R_PK) (T := T_PK) (N := 12) hx hb htg in_PK ty_PK tk_PK nm_PK hown hK hP hD hS 0 rfl rfl 6 (by decide) (htg _ wd_268) (fun _ h9 => h9) rfl (by decide +kernel) rfl rfl (Nat.le_of_ble_eq_true rfl) dPK_settle_13 (fun H locs hP hD hS => ?_)
    have hP : va_P (dC, dI) vwCl [(h0, .inr (10, [.int kn, .int sz0, .ref k0, .ref w0, .ref m0, .int mc0, .int (tf_PK_behind ps tk), .int (bI ey), .int u1, .int u2, .int u3, .int u4])), (w0, .inr (9, [.ref p1, .ref p2, .ref p3, .int ud])), (p1, .inl (cA.1, 64, .inl wf1)), (p2, .inl (cA.1, 64, .inl wf2)), (p3, .inl (cA.1, 64, .inl wf3)), (m0, .inl (cA.1, 32, .inl mf))] H := hP
    have hD : va_D A [(h0, .inr (10, [.int kn, .int sz0, .ref k0, .ref w0, .ref m0, .int mc0, .int (tf_PK_behind ps tk), .int (bI ey), .int u1, .int u2, .int u3, .int u4])), (w0, .inr (9, [.ref p1, .ref p2, .ref p3, .int ud])), (p1, .inl (cA.1, 64, .inl wf1)), (p2, .inl (cA.1, 64, .inl wf2)), (p3, .inl (cA.1, 64, .inl wf3)), (m0, .inl (cA.1, 32, .inl mf))] := hD
    refine lv_goto (tgt := 68) hx hb dPK_settle_16 (by decide) ?_
    replace hfn := Option.some.inj hfn
    obtain ⟨e9, hf_0⟩ := Prod.mk.inj hfn; clear hfn; subst e9
    obtain ⟨e9, hf_1⟩ := Prod.mk.inj hf_0; clear hf_0; subst e9
    obtain ⟨e9, hf_2⟩ := Prod.mk.inj hf_1; clear hf_1; subst e9
    obtain ⟨e9, hf_3⟩ := Prod.mk.inj hf_2; clear hf_2; subst e9
    obtain ⟨e9, hf_4⟩ := Prod.mk.inj hf_3; clear hf_3; subst e9
    subst hf_4
    exact W.vret hx hb hr (fun t ht hW => ⟨⟨_, rfl, rfl, ⟨by rw [ht]; exact hP.sub [0, 1, 2, 3, 4, 5] rfl, va_K.moved hW.alike hK, hD.sub [0, 1, 2, 3, 4, 5] (by decide) rfl⟩⟩, hS.F ht⟩) hS.2.2 dPK_settle_68
def tf_PK_early (ey : Bool) (on : Bool) : Bool × Bool × Int32 := (ey, on, tf_Waiting_lose)
set_option maxHeartbeats 4000000 in
set_option maxRecDepth 100000 in
theorem c_PK_early (l : Launch) (dC : Nat → ClassId) (dI : Nat → Nat → Nat) (cA : ClassId × ClassId × ClassId) (zz : Nat) (h0 : Nat) (w0 : Nat) (p1 : Nat) (p2 : Nat) (p3 : Nat) (m0 : Nat) (k0 : Nat) (kn : Int32) (sz0 : Int32) (mc0 : Int32) (ps : Int32) (ey : Bool) (u1 : Int32) (u2 : Int32) (u3 : Int32) (u4 : Int32) (ud : Int32) (wf1 : Nat → Int32) (wf2 : Nat → Int32) (wf3 : Nat → Int32) (mf : Nat → Int32) (on : Bool) : Met l yPK_early wPK_early ({ frames := 1, cells := 0, slots := 0, locals := 20 }) (va_Pc [.ref h0, .int (bI on)] (Wr (dC, dI) cA zz [(h0, .inr (10, [.int kn, .int sz0, .ref k0, .ref w0, .ref m0, .int mc0, .int ps, .int (bI ey), .int u1, .int u2, .int u3, .int u4])), (w0, .inr (9, [.ref p1, .ref p2, .ref p3, .int ud])), (p1, .inl (cA.1, 64, .inl wf1)), (p2, .inl (cA.1, 64, .inl wf2)), (p3, .inl (cA.1, 64, .inl wf3)), (m0, .inl (cA.1, 32, .inl mf))])) (va_Qi (fun r9 w9 => r9 = (bI ((tf_PK_early ey on).1)) ∧ w9 = [(h0, .inr (10, [.int kn, .int sz0, .ref k0, .ref w0, .ref m0, .int mc0, .int ps, .int (bI ((tf_PK_early ey on).2.1)), .int u1, .int u2, .int u3, .int u4])), (w0, .inr (9, [.ref p1, .ref p2, .ref p3, .int ((tf_PK_early ey on).2.2)])), (p1, .inl (cA.1, 64, .inl wf1)), (p2, .inl (cA.1, 64, .inl wf2)), (p3, .inl (cA.1, 64, .inl wf3)), (m0, .inl (cA.1, 32, .inl mf))]) (At (dC, dI) cA (va_A [(h0, .inr (10, [.int kn, .int sz0, .ref k0, .ref w0, .ref m0, .int mc0, .int ps, .int (bI ey), .int u1, .int u2, .int u3, .int u4])), (w0, .inr (9, [.ref p1, .ref p2, .ref p3, .int ud])), (p1, .inl (cA.1, 64, .inl wf1)), (p2, .inl (cA.1, 64, .inl wf2)), (p3, .inl (cA.1, 64, .inl wf3)), (m0, .inl (cA.1, 32, .inl mf))] zz)) (va_A [(h0, .inr (10, [.int kn, .int sz0, .ref k0, .ref w0, .ref m0, .int mc0, .int ps, .int (bI ey), .int u1, .int u2, .int u3, .int u4])), (w0, .inr (9, [.ref p1, .ref p2, .ref p3, .int ud])), (p1, .inl (cA.1, 64, .inl wf1)), (p2, .inl (cA.1, 64, .inl wf2)), (p3, .inl (cA.1, 64, .inl wf3)), (m0, .inl (cA.1, 32, .inl mf))] zz)) 0 0 (va_A [(h0, .inr (10, [.int kn, .int sz0, .ref k0, .ref w0, .ref m0, .int mc0, .int ps, .int (bI ey), .int u1, .int u2, .int u3, .int u4])), (w0, .inr (9, [.ref p1, .ref p2, .ref p3, .int ud])), (p1, .inl (cA.1, 64, .inl wf1)), (p2, .inl (cA.1, 64, .inl wf2)), (p3, .inl (cA.1, 64, .inl wf3)), (m0, .inl (cA.1, 32, .inl mf))] zz) := by
  refine Met.ofW (cc := cPK_early) (maxL := 3) (ret := (some .boolean)) (by decide) rfl ?_
  intro p e s m args below meth c s₁ B hml hv
  obtain ⟨rfl, hsz, hN, hP, hK, hD0⟩ := hv
  have hx := B.exec
  have hb := B.bytes
  have hr := B.returns
  have hts := atoms_spec (ws := wPK_early) B.pre
  have htg : ∀ w ∈ GW, w.before _ s = true := fun w h => hts w (List.mem_cons_of_mem _ h)
  have hown : s.vm.findClass R_PK = some m.cls := findClass_of_methodNamed B.named
  have hlocks := B.notSynchronized
  subst hsz
  have hD := hD0.self (sz := s.heap.size)
  generalize hAe : va_A [(h0, .inr (10, [.int kn, .int sz0, .ref k0, .ref w0, .ref m0, .int mc0, .int ps, .int (bI ey), .int u1, .int u2, .int u3, .int u4])), (w0, .inr (9, [.ref p1, .ref p2, .ref p3, .int ud])), (p1, .inl (cA.1, 64, .inl wf1)), (p2, .inl (cA.1, 64, .inl wf2)), (p3, .inl (cA.1, 64, .inl wf3)), (m0, .inl (cA.1, 32, .inl mf))] s.heap.size = A at hD ⊢
  have hA : ∀ q : Nat, s.heap.size ≤ q → A q := fun q h => by rw [← hAe]; exact Or.inr h
  have hS : va_S A s.heap s.heap [] := va_S.rf
  have hP : va_P (dC, dI) vwCl [(h0, .inr (10, [.int kn, .int sz0, .ref k0, .ref w0, .ref m0, .int mc0, .int ps, .int (bI ey), .int u1, .int u2, .int u3, .int u4])), (w0, .inr (9, [.ref p1, .ref p2, .ref p3, .int ud])), (p1, .inl (cA.1, 64, .inl wf1)), (p2, .inl (cA.1, 64, .inl wf2)), (p3, .inl (cA.1, 64, .inl wf3)), (m0, .inl (cA.1, 32, .inl mf))] s.heap := hP
  obtain ⟨rs, hfn⟩ : ∃ rs, (tf_PK_early ey on) = rs := ⟨_, rfl⟩
  try rw [hfn]
  have hl := lv_entry ([.ref h0, .int (bI on)]) (n := 3) (Nat.le_of_ble_eq_true rfl)
  rw [lg_entry_eq]
  generalize (lg_sl ([.ref h0, .int (bI on)]) ++ List.replicate (3 - (lg_sl ([.ref h0, .int (bI on)])).length) Slot.unset).toArray = ls at hl ⊢
  have hl : lv_has ls 3 [(0, .ref h0), (1, .int (bI on))] := hl
  unfold tf_PK_early at hfn
  refine lv_aload_n hx hb dPK_early_0 rfl (lv_at hl 0 rfl) ?_
  refine va_get (D := (dC, dI)) (ci := 10) (v := .int (bI ey)) (C := R_PK) (T := T_PK) (N := 12) hx hb htg in_PK hown hK hP 0 rfl rfl 7 (by decide) (htg _ wd_269) (fun _ h9 => h9) rfl dPK_early_1 ?_
  refine lv_istore_n (lv' := [(2, .int (bI ey)), (0, .ref h0), (1, .int (bI on))]) hx hb dPK_early_4 rfl hl (by decide) rfl (fun ls hl => ?_)
  refine lv_aload_n hx hb dPK_early_5 rfl (lv_at hl 1 rfl) ?_
  refine lv_iload_n hx hb dPK_early_6 rfl (lv_at hl 2 rfl) ?_
  refine va_put (D := (dC, dI)) (ci := 10) (v := .int (bI on)) (ty := .boolean) (C := R_PK) (T := T_PK) (N := 12) hx hb htg in_PK ty_PK tk_PK nm_PK hown hK hP hD hS 0 rfl rfl 7 (by decide) (htg _ wd_269) (fun _ h9 => h9) rfl (by decide +kernel) (nar_bI _) (fit_bI _) (Nat.le_of_ble_eq_true rfl) dPK_early_7 (fun H locs hP hD hS => ?_)
  have hP : va_P (dC, dI) vwCl [(h0, .inr (10, [.int kn, .int sz0, .ref k0, .ref w0, .ref m0, .int mc0, .int ps, .int (bI on), .int u1, .int u2, .int u3, .int u4])), (w0, .inr (9, [.ref p1, .ref p2, .ref p3, .int ud])), (p1, .inl (cA.1, 64, .inl wf1)), (p2, .inl (cA.1, 64, .inl wf2)), (p3, .inl (cA.1, 64, .inl wf3)), (m0, .inl (cA.1, 32, .inl mf))] H := hP
  have hD : va_D A [(h0, .inr (10, [.int kn, .int sz0, .ref k0, .ref w0, .ref m0, .int mc0, .int ps, .int (bI on), .int u1, .int u2, .int u3, .int u4])), (w0, .inr (9, [.ref p1, .ref p2, .ref p3, .int ud])), (p1, .inl (cA.1, 64, .inl wf1)), (p2, .inl (cA.1, 64, .inl wf2)), (p3, .inl (cA.1, 64, .inl wf3)), (m0, .inl (cA.1, 32, .inl mf))] := hD
  refine lv_aload_n hx hb dPK_early_10 rfl (lv_at hl 1 rfl) ?_
  refine va_get (D := (dC, dI)) (ci := 10) (v := .ref w0) (C := R_PK) (T := T_PK) (N := 12) hx hb htg in_PK hown hK hP 0 rfl rfl 3 (by decide) (htg _ wd_265) (fun _ h9 => h9) rfl dPK_early_11 ?_
  refine wr_Vv (wr := [(h0, .inr (10, [.int kn, .int sz0, .ref k0, .ref w0, .ref m0, .int mc0, .int ps, .int (bI on), .int u1, .int u2, .int u3, .int u4])), (m0, .inl (cA.1, 32, .inl mf))]) (As := []) (rest := []) ⟨hx, hb, hml, hown, htg⟩ (c_Waiting_lose l dC dI cA _ w0 p1 p2 p3 ud wf1 wf2 wf3) (cw_V htg wd_549 wd_551 qWaiting_lose iWaiting_lose kWaiting_lose pWaiting_lose rfl rfl ⟨Nat.le_of_ble_eq_true rfl, Nat.le_of_ble_eq_true rfl⟩) (va_recv hK hP (ci := 9) (q0 := 1) rfl rfl) hN hP hD hS hA hK [1, 2, 3, 4] [0, 5] rfl rfl (by decide) (by decide) (by decide) rfl hl.1 rfl (Nat.le_of_ble_eq_true rfl) dPK_early_14 ⟨Nat.le_of_ble_eq_true rfl, Nat.le_of_ble_eq_true rfl⟩ (fun H locs hP hD hS => ?_)
  have hP : va_P (dC, dI) vwCl [(h0, .inr (10, [.int kn, .int sz0, .ref k0, .ref w0, .ref m0, .int mc0, .int ps, .int (bI on), .int u1, .int u2, .int u3, .int u4])), (m0, .inl (cA.1, 32, .inl mf)), (w0, .inr (9, [.ref p1, .ref p2, .ref p3, .int tf_Waiting_lose])), (p1, .inl (cA.1, 64, .inl wf1)), (p2, .inl (cA.1, 64, .inl wf2)), (p3, .inl (cA.1, 64, .inl wf3))] H := hP
  have hD : va_D A [(h0, .inr (10, [.int kn, .int sz0, .ref k0, .ref w0, .ref m0, .int mc0, .int ps, .int (bI on), .int u1, .int u2, .int u3, .int u4])), (m0, .inl (cA.1, 32, .inl mf)), (w0, .inr (9, [.ref p1, .ref p2, .ref p3, .int tf_Waiting_lose])), (p1, .inl (cA.1, 64, .inl wf1)), (p2, .inl (cA.1, 64, .inl wf2)), (p3, .inl (cA.1, 64, .inl wf3))] := hD
  refine lv_iload_n hx hb dPK_early_17 rfl (lv_at hl 0 rfl) ?_
  subst hfn
  exact W.zret hx hb hr (nar_bI _) (fun t ht hW => ⟨⟨_, _, rfl, ⟨rfl, rfl⟩, ⟨by rw [ht]; exact hP.sub [0, 2, 3, 4, 5, 1] rfl, va_K.moved hW.alike hK, hD.sub [0, 2, 3, 4, 5, 1] (by decide) rfl⟩⟩, hS.F ht⟩) hS.2.2 dPK_early_18
def tf_PK_history (ps : Int32) : Int32 := (ps)
set_option maxHeartbeats 4000000 in
set_option maxRecDepth 100000 in
theorem c_PK_history (l : Launch) (dC : Nat → ClassId) (dI : Nat → Nat → Nat) (cA : ClassId × ClassId × ClassId) (h0 : Nat) (w0 : Nat) (p1 : Nat) (p2 : Nat) (p3 : Nat) (m0 : Nat) (k0 : Nat) (kn : Int32) (sz0 : Int32) (mc0 : Int32) (ps : Int32) (ey : Bool) (u1 : Int32) (u2 : Int32) (u3 : Int32) (u4 : Int32) (ud : Int32) (wf1 : Nat → Int32) (wf2 : Nat → Int32) (wf3 : Nat → Int32) (mf : Nat → Int32) : Met l yPK_history wPK_history ({ frames := 0, cells := 0, slots := 0, locals := 0 }) (va_Pc [.ref h0] (Rd (dC, dI) cA [(h0, .inr (10, [.int kn, .int sz0, .ref k0, .ref w0, .ref m0, .int mc0, .int ps, .int (bI ey), .int u1, .int u2, .int u3, .int u4])), (w0, .inr (9, [.ref p1, .ref p2, .ref p3, .int ud])), (p1, .inl (cA.1, 64, .inl wf1)), (p2, .inl (cA.1, 64, .inl wf2)), (p3, .inl (cA.1, 64, .inl wf3)), (m0, .inl (cA.1, 32, .inl mf))])) (QcRead (tf_PK_history ps)) 0 0 (fun _ => False) := by
  refine Met.ofW (cc := cPK_history) (maxL := 1) (ret := (some .int)) (by decide) rfl ?_
  intro p e s m args below meth c s₁ B hml hv
  obtain ⟨rfl, hN, hP, hK⟩ := hv
  have hx := B.exec
  have hb := B.bytes
  have hr := B.returns
  have hts := atoms_spec (ws := wPK_history) B.pre
  have htg : ∀ w ∈ GW, w.before _ s = true := fun w h => hts w (List.mem_cons_of_mem _ h)
  have hown : s.vm.findClass R_PK = some m.cls := findClass_of_methodNamed B.named
  have hlocks := B.notSynchronized
  obtain ⟨rs, hfn⟩ : ∃ rs, (tf_PK_history ps) = rs := ⟨_, rfl⟩
  try rw [hfn]
  have hl := lv_entry ([.ref h0]) (n := 1) (Nat.le_of_ble_eq_true rfl)
  rw [lg_entry_eq]
  generalize (lg_sl ([.ref h0]) ++ List.replicate (1 - (lg_sl ([.ref h0])).length) Slot.unset).toArray = ls at hl ⊢
  have hl : lv_has ls 1 [(0, .ref h0)] := hl
  unfold tf_PK_history at hfn
  refine lv_aload_n hx hb dPK_history_0 rfl (lv_at hl 0 rfl) ?_
  refine va_get (D := (dC, dI)) (ci := 10) (v := .int ps) (C := R_PK) (T := T_PK) (N := 12) hx hb htg in_PK hown hK hP 0 rfl rfl 6 (by decide) (htg _ wd_268) (fun _ h9 => h9) rfl dPK_history_1 ?_
  subst hfn
  exact W.iret hx hb hr (fun t ht hW => ⟨rfl, ht⟩) (fun _ h => by cases h) dPK_history_4
def tf_PK_count (kn : Int32) (sz0 : Int32) (mc0 : Int32) (u1 : Int32) (u2 : Int32) (u3 : Int32) (u4 : Int32) (ud : Int32) (wh : Int32) : Int32 := (if wh = 0 then (u1) else (if wh = 1 then (u2) else (if wh = 2 then (u3) else (if wh = 3 then ((tf_Waiting_length ud)) else (if wh = 4 then (mc0) else (if wh = 5 then (u4) else (if wh = 6 then (kn) else (if wh = 7 then (sz0) else ((-1))))))))))
set_option maxHeartbeats 4000000 in
set_option maxRecDepth 100000 in
theorem c_PK_count (l : Launch) (dC : Nat → ClassId) (dI : Nat → Nat → Nat) (cA : ClassId × ClassId × ClassId) (h0 : Nat) (w0 : Nat) (p1 : Nat) (p2 : Nat) (p3 : Nat) (m0 : Nat) (k0 : Nat) (kn : Int32) (sz0 : Int32) (mc0 : Int32) (ps : Int32) (ey : Bool) (u1 : Int32) (u2 : Int32) (u3 : Int32) (u4 : Int32) (ud : Int32) (wf1 : Nat → Int32) (wf2 : Nat → Int32) (wf3 : Nat → Int32) (mf : Nat → Int32) (wh : Int32) : Met l yPK_count wPK_count ({ frames := 1, cells := 0, slots := 0, locals := 20 }) (va_Pc [.ref h0, .int wh] (Rd (dC, dI) cA [(h0, .inr (10, [.int kn, .int sz0, .ref k0, .ref w0, .ref m0, .int mc0, .int ps, .int (bI ey), .int u1, .int u2, .int u3, .int u4])), (w0, .inr (9, [.ref p1, .ref p2, .ref p3, .int ud])), (p1, .inl (cA.1, 64, .inl wf1)), (p2, .inl (cA.1, 64, .inl wf2)), (p3, .inl (cA.1, 64, .inl wf3)), (m0, .inl (cA.1, 32, .inl mf))])) (QcRead (tf_PK_count kn sz0 mc0 u1 u2 u3 u4 ud wh)) 0 0 (fun _ => False) := by
  refine Met.ofW (cc := cPK_count) (maxL := 2) (ret := (some .int)) (by decide) rfl ?_
  intro p e s m args below meth c s₁ B hml hv
  obtain ⟨rfl, hN, hP, hK⟩ := hv
  have hx := B.exec
  have hb := B.bytes
  have hr := B.returns
  have hts := atoms_spec (ws := wPK_count) B.pre
  have htg : ∀ w ∈ GW, w.before _ s = true := fun w h => hts w (List.mem_cons_of_mem _ h)
  have hown : s.vm.findClass R_PK = some m.cls := findClass_of_methodNamed B.named
  have hlocks := B.notSynchronized
  obtain ⟨rs, hfn⟩ : ∃ rs, (tf_PK_count kn sz0 mc0 u1 u2 u3 u4 ud wh) = rs := ⟨_, rfl⟩
  try rw [hfn]
  have hl := lv_entry ([.ref h0, .int wh]) (n := 2) (Nat.le_of_ble_eq_true rfl)
  rw [lg_entry_eq]
  generalize (lg_sl ([.ref h0, .int wh]) ++ List.replicate (2 - (lg_sl ([.ref h0, .int wh])).length) Slot.unset).toArray = ls at hl ⊢
  have hl : lv_has ls 2 [(0, .ref h0), (1, .int wh)] := hl
  unfold tf_PK_count at hfn
  refine lv_iload_n hx hb dPK_count_0 rfl (lv_at hl 1 rfl) ?_
  by_cases c_1 : wh = 0
  · rw [if_pos c_1] at hfn
    refine lv_tableIn (tgt := 48) hx hb dPK_count_1 (by rw [c_1]; decide) (by rw [c_1]; decide) (by rw [c_1]; rfl) (by decide) ?_
    refine lv_aload_n hx hb dPK_count_48 rfl (lv_at hl 0 rfl) ?_
    refine va_get (D := (dC, dI)) (ci := 10) (v := .int u1) (C := R_PK) (T := T_PK) (N := 12) hx hb htg in_PK hown hK hP 0 rfl rfl 8 (by decide) (htg _ wd_270) (fun _ h9 => h9) rfl dPK_count_49 ?_
    subst hfn
    exact W.iret hx hb hr (fun t ht hW => ⟨rfl, ht⟩) (fun _ h => by cases h) dPK_count_52
  · rw [if_neg c_1] at hfn
    by_cases c_2 : wh = 1
    · rw [if_pos c_2] at hfn
      refine lv_tableIn (tgt := 53) hx hb dPK_count_1 (by rw [c_2]; decide) (by rw [c_2]; decide) (by rw [c_2]; rfl) (by decide) ?_
      refine lv_aload_n hx hb dPK_count_53 rfl (lv_at hl 0 rfl) ?_
      refine va_get (D := (dC, dI)) (ci := 10) (v := .int u2) (C := R_PK) (T := T_PK) (N := 12) hx hb htg in_PK hown hK hP 0 rfl rfl 9 (by decide) (htg _ wd_271) (fun _ h9 => h9) rfl dPK_count_54 ?_
      subst hfn
      exact W.iret hx hb hr (fun t ht hW => ⟨rfl, ht⟩) (fun _ h => by cases h) dPK_count_57
    · rw [if_neg c_2] at hfn
      by_cases c_3 : wh = 2
      · rw [if_pos c_3] at hfn
        refine lv_tableIn (tgt := 58) hx hb dPK_count_1 (by rw [c_3]; decide) (by rw [c_3]; decide) (by rw [c_3]; rfl) (by decide) ?_
        refine lv_aload_n hx hb dPK_count_58 rfl (lv_at hl 0 rfl) ?_
        refine va_get (D := (dC, dI)) (ci := 10) (v := .int u3) (C := R_PK) (T := T_PK) (N := 12) hx hb htg in_PK hown hK hP 0 rfl rfl 10 (by decide) (htg _ wd_272) (fun _ h9 => h9) rfl dPK_count_59 ?_
        subst hfn
        exact W.iret hx hb hr (fun t ht hW => ⟨rfl, ht⟩) (fun _ h => by cases h) dPK_count_62
      · rw [if_neg c_3] at hfn
        by_cases c_4 : wh = 3
        · rw [if_pos c_4] at hfn
          refine lv_tableIn (tgt := 63) hx hb dPK_count_1 (by rw [c_4]; decide) (by rw [c_4]; decide) (by rw [c_4]; rfl) (by decide) ?_
          refine lv_aload_n hx hb dPK_count_63 rfl (lv_at hl 0 rfl) ?_
          refine va_get (D := (dC, dI)) (ci := 10) (v := .ref w0) (C := R_PK) (T := T_PK) (N := 12) hx hb htg in_PK hown hK hP 0 rfl rfl 3 (by decide) (htg _ wd_265) (fun _ h9 => h9) rfl dPK_count_64 ?_
          refine rd_V (As := []) (rest := []) ⟨hx, hb, hml, hown, htg⟩ (c_Waiting_length l dC dI cA w0 p1 p2 p3 ud wf1 wf2 wf3) (cw_V htg wd_655 wd_657 qWaiting_length iWaiting_length kWaiting_length pWaiting_length rfl rfl ⟨Nat.le_of_ble_eq_true rfl, Nat.le_of_ble_eq_true rfl⟩) (va_recv hK hP (ci := 9) (q0 := 1) rfl rfl) hN (hP.sub [1, 2, 3, 4] rfl) hK rfl hl.1 rfl (Nat.le_of_ble_eq_true rfl) dPK_count_67 ⟨Nat.le_of_ble_eq_true rfl, Nat.le_of_ble_eq_true rfl⟩ ?_
          subst hfn
          exact W.iret hx hb hr (fun t ht hW => ⟨rfl, ht⟩) (fun _ h => by cases h) dPK_count_70
        · rw [if_neg c_4] at hfn
          by_cases c_5 : wh = 4
          · rw [if_pos c_5] at hfn
            refine lv_tableIn (tgt := 71) hx hb dPK_count_1 (by rw [c_5]; decide) (by rw [c_5]; decide) (by rw [c_5]; rfl) (by decide) ?_
            refine lv_aload_n hx hb dPK_count_71 rfl (lv_at hl 0 rfl) ?_
            refine va_get (D := (dC, dI)) (ci := 10) (v := .int mc0) (C := R_PK) (T := T_PK) (N := 12) hx hb htg in_PK hown hK hP 0 rfl rfl 5 (by decide) (htg _ wd_267) (fun _ h9 => h9) rfl dPK_count_72 ?_
            subst hfn
            exact W.iret hx hb hr (fun t ht hW => ⟨rfl, ht⟩) (fun _ h => by cases h) dPK_count_75
          · rw [if_neg c_5] at hfn
            by_cases c_6 : wh = 5
            · rw [if_pos c_6] at hfn
              refine lv_tableIn (tgt := 76) hx hb dPK_count_1 (by rw [c_6]; decide) (by rw [c_6]; decide) (by rw [c_6]; rfl) (by decide) ?_
              refine lv_aload_n hx hb dPK_count_76 rfl (lv_at hl 0 rfl) ?_
              refine va_get (D := (dC, dI)) (ci := 10) (v := .int u4) (C := R_PK) (T := T_PK) (N := 12) hx hb htg in_PK hown hK hP 0 rfl rfl 11 (by decide) (htg _ wd_273) (fun _ h9 => h9) rfl dPK_count_77 ?_
              subst hfn
              exact W.iret hx hb hr (fun t ht hW => ⟨rfl, ht⟩) (fun _ h => by cases h) dPK_count_80
            · rw [if_neg c_6] at hfn
              by_cases c_7 : wh = 6
              · rw [if_pos c_7] at hfn
                refine lv_tableIn (tgt := 81) hx hb dPK_count_1 (by rw [c_7]; decide) (by rw [c_7]; decide) (by rw [c_7]; rfl) (by decide) ?_
                refine lv_aload_n hx hb dPK_count_81 rfl (lv_at hl 0 rfl) ?_
                refine va_get (D := (dC, dI)) (ci := 10) (v := .int kn) (C := R_PK) (T := T_PK) (N := 12) hx hb htg in_PK hown hK hP 0 rfl rfl 0 (by decide) (htg _ wd_262) (fun _ h9 => h9) rfl dPK_count_82 ?_
                subst hfn
                exact W.iret hx hb hr (fun t ht hW => ⟨rfl, ht⟩) (fun _ h => by cases h) dPK_count_85
              · rw [if_neg c_7] at hfn
                by_cases c_8 : wh = 7
                · rw [if_pos c_8] at hfn
                  refine lv_tableIn (tgt := 86) hx hb dPK_count_1 (by rw [c_8]; decide) (by rw [c_8]; decide) (by rw [c_8]; rfl) (by decide) ?_
                  refine lv_aload_n hx hb dPK_count_86 rfl (lv_at hl 0 rfl) ?_
                  refine va_get (D := (dC, dI)) (ci := 10) (v := .int sz0) (C := R_PK) (T := T_PK) (N := 12) hx hb htg in_PK hown hK hP 0 rfl rfl 1 (by decide) (htg _ wd_263) (fun _ h9 => h9) rfl dPK_count_87 ?_
                  subst hfn
                  exact W.iret hx hb hr (fun t ht hW => ⟨rfl, ht⟩) (fun _ h => by cases h) dPK_count_90
                · rw [if_neg c_8] at hfn
                  refine lv_tableOut (tgt := 91) hx hb dPK_count_1 (by have := ne_toInt (z := 0) c_1 (by decide); have := ne_toInt (z := 1) c_2 (by decide); have := ne_toInt (z := 2) c_3 (by decide); have := ne_toInt (z := 3) c_4 (by decide); have := ne_toInt (z := 4) c_5 (by decide); have := ne_toInt (z := 5) c_6 (by decide); have := ne_toInt (z := 6) c_7 (by decide); have := ne_toInt (z := 7) c_8 (by decide); omega) (by decide) ?_
                  refine lv_iconst (v := (-1)) hx hb dPK_count_91 (by decide) ?_
                  subst hfn
                  exact W.iret hx hb hr (fun t ht hW => ⟨rfl, ht⟩) (fun _ h => by cases h) dPK_count_92
def of_PK_mark (mc0 : Int32) (ps : Int32) (mf : Nat → Int32) : Option (Int32 × Int32 × (Nat → Int32)) := (if mc0 < 32 then some (((mc0 + 1) - 1), (mc0 + 1), ((tf_PK_put 32 mf mc0 ps))) else none)
set_option maxHeartbeats 4000000 in
set_option maxRecDepth 100000 in
theorem c_PK_mark (l : Launch) (dC : Nat → ClassId) (dI : Nat → Nat → Nat) (cA : ClassId × ClassId × ClassId) (zz : Nat) (h0 : Nat) (w0 : Nat) (p1 : Nat) (p2 : Nat) (p3 : Nat) (m0 : Nat) (k0 : Nat) (kn : Int32) (sz0 : Int32) (mc0 : Int32) (ps : Int32) (ey : Bool) (u1 : Int32) (u2 : Int32) (u3 : Int32) (u4 : Int32) (ud : Int32) (wf1 : Nat → Int32) (wf2 : Nat → Int32) (wf3 : Nat → Int32) (mf : Nat → Int32) (rs0 : Int32) (rs1 : Int32) (rs2 : (Nat → Int32)) (hfn : (of_PK_mark mc0 ps mf) = some (rs0, rs1, rs2)) : Met l yPK_mark wPK_mark ({ frames := 1, cells := 0, slots := 0, locals := 22 }) (va_Pc [.ref h0] (Wr (dC, dI) cA zz [(h0, .inr (10, [.int kn, .int sz0, .ref k0, .ref w0, .ref m0, .int mc0, .int ps, .int (bI ey), .int u1, .int u2, .int u3, .int u4])), (w0, .inr (9, [.ref p1, .ref p2, .ref p3, .int ud])), (p1, .inl (cA.1, 64, .inl wf1)), (p2, .inl (cA.1, 64, .inl wf2)), (p3, .inl (cA.1, 64, .inl wf3)), (m0, .inl (cA.1, 32, .inl mf))])) (va_Qi (fun r9 w9 => r9 = rs0 ∧ w9 = [(h0, .inr (10, [.int kn, .int sz0, .ref k0, .ref w0, .ref m0, .int rs1, .int ps, .int (bI ey), .int u1, .int u2, .int u3, .int u4])), (w0, .inr (9, [.ref p1, .ref p2, .ref p3, .int ud])), (p1, .inl (cA.1, 64, .inl wf1)), (p2, .inl (cA.1, 64, .inl wf2)), (p3, .inl (cA.1, 64, .inl wf3)), (m0, .inl (cA.1, 32, .inl rs2))]) (At (dC, dI) cA (va_A [(h0, .inr (10, [.int kn, .int sz0, .ref k0, .ref w0, .ref m0, .int mc0, .int ps, .int (bI ey), .int u1, .int u2, .int u3, .int u4])), (w0, .inr (9, [.ref p1, .ref p2, .ref p3, .int ud])), (p1, .inl (cA.1, 64, .inl wf1)), (p2, .inl (cA.1, 64, .inl wf2)), (p3, .inl (cA.1, 64, .inl wf3)), (m0, .inl (cA.1, 32, .inl mf))] zz)) (va_A [(h0, .inr (10, [.int kn, .int sz0, .ref k0, .ref w0, .ref m0, .int mc0, .int ps, .int (bI ey), .int u1, .int u2, .int u3, .int u4])), (w0, .inr (9, [.ref p1, .ref p2, .ref p3, .int ud])), (p1, .inl (cA.1, 64, .inl wf1)), (p2, .inl (cA.1, 64, .inl wf2)), (p3, .inl (cA.1, 64, .inl wf3)), (m0, .inl (cA.1, 32, .inl mf))] zz)) 0 0 (va_A [(h0, .inr (10, [.int kn, .int sz0, .ref k0, .ref w0, .ref m0, .int mc0, .int ps, .int (bI ey), .int u1, .int u2, .int u3, .int u4])), (w0, .inr (9, [.ref p1, .ref p2, .ref p3, .int ud])), (p1, .inl (cA.1, 64, .inl wf1)), (p2, .inl (cA.1, 64, .inl wf2)), (p3, .inl (cA.1, 64, .inl wf3)), (m0, .inl (cA.1, 32, .inl mf))] zz) := by
  refine Met.ofW (cc := cPK_mark) (maxL := 1) (ret := (some .int)) (by decide) rfl ?_
  intro p e s m args below meth c s₁ B hml hv
  obtain ⟨rfl, hsz, hN, hP, hK, hD0⟩ := hv
  have hx := B.exec
  have hb := B.bytes
  have hr := B.returns
  have hts := atoms_spec (ws := wPK_mark) B.pre
  have htg : ∀ w ∈ GW, w.before _ s = true := fun w h => hts w (List.mem_cons_of_mem _ h)
  have hown : s.vm.findClass R_PK = some m.cls := findClass_of_methodNamed B.named
  have hlocks := B.notSynchronized
  subst hsz
  have hD := hD0.self (sz := s.heap.size)
  generalize hAe : va_A [(h0, .inr (10, [.int kn, .int sz0, .ref k0, .ref w0, .ref m0, .int mc0, .int ps, .int (bI ey), .int u1, .int u2, .int u3, .int u4])), (w0, .inr (9, [.ref p1, .ref p2, .ref p3, .int ud])), (p1, .inl (cA.1, 64, .inl wf1)), (p2, .inl (cA.1, 64, .inl wf2)), (p3, .inl (cA.1, 64, .inl wf3)), (m0, .inl (cA.1, 32, .inl mf))] s.heap.size = A at hD ⊢
  have hA : ∀ q : Nat, s.heap.size ≤ q → A q := fun q h => by rw [← hAe]; exact Or.inr h
  have hS : va_S A s.heap s.heap [] := va_S.rf
  have hP : va_P (dC, dI) vwCl [(h0, .inr (10, [.int kn, .int sz0, .ref k0, .ref w0, .ref m0, .int mc0, .int ps, .int (bI ey), .int u1, .int u2, .int u3, .int u4])), (w0, .inr (9, [.ref p1, .ref p2, .ref p3, .int ud])), (p1, .inl (cA.1, 64, .inl wf1)), (p2, .inl (cA.1, 64, .inl wf2)), (p3, .inl (cA.1, 64, .inl wf3)), (m0, .inl (cA.1, 32, .inl mf))] s.heap := hP
  have hl := lv_entry ([.ref h0]) (n := 1) (Nat.le_of_ble_eq_true rfl)
  rw [lg_entry_eq]
  generalize (lg_sl ([.ref h0]) ++ List.replicate (1 - (lg_sl ([.ref h0])).length) Slot.unset).toArray = ls at hl ⊢
  have hl : lv_has ls 1 [(0, .ref h0)] := hl
  unfold of_PK_mark at hfn
  refine lv_aload_n hx hb dPK_mark_0 rfl (lv_at hl 0 rfl) ?_
  refine va_get (D := (dC, dI)) (ci := 10) (v := .int mc0) (C := R_PK) (T := T_PK) (N := 12) hx hb htg in_PK hown hK hP 0 rfl rfl 5 (by decide) (htg _ wd_267) (fun _ h9 => h9) rfl dPK_mark_1 ?_
  refine lv_bipush (v := 32) hx hb dPK_mark_4 (by decide) ?_
  refine lv_icmp_lt (tgt := 19) hx hb dPK_mark_6 (by decide) (fun c_1 => ?_) (fun c_1 => ?_)
  · rw [if_pos c_1] at hfn
    refine lv_aload_n hx hb dPK_mark_19 rfl (lv_at hl 0 rfl) ?_
    refine va_get (D := (dC, dI)) (ci := 10) (v := .ref m0) (C := R_PK) (T := T_PK) (N := 12) hx hb htg in_PK hown hK hP 0 rfl rfl 4 (by decide) (htg _ wd_266) (fun _ h9 => h9) rfl dPK_mark_20 ?_
    refine lv_aload_n hx hb dPK_mark_23 rfl (lv_at hl 0 rfl) ?_
    refine va_get (D := (dC, dI)) (ci := 10) (v := .int mc0) (C := R_PK) (T := T_PK) (N := 12) hx hb htg in_PK hown hK hP 0 rfl rfl 5 (by decide) (htg _ wd_267) (fun _ h9 => h9) rfl dPK_mark_24 ?_
    refine lv_aload_n hx hb dPK_mark_27 rfl (lv_at hl 0 rfl) ?_
    refine va_get (D := (dC, dI)) (ci := 10) (v := .int ps) (C := R_PK) (T := T_PK) (N := 12) hx hb htg in_PK hown hK hP 0 rfl rfl 6 (by decide) (htg _ wd_268) (fun _ h9 => h9) rfl dPK_mark_28 ?_
    refine wr_Sv (wr := [(h0, .inr (10, [.int kn, .int sz0, .ref k0, .ref w0, .ref m0, .int mc0, .int ps, .int (bI ey), .int u1, .int u2, .int u3, .int u4])), (w0, .inr (9, [.ref p1, .ref p2, .ref p3, .int ud])), (p1, .inl (cA.1, 64, .inl wf1)), (p2, .inl (cA.1, 64, .inl wf2)), (p3, .inl (cA.1, 64, .inl wf3))]) (As := [.ref m0, .int mc0, .int ps]) (rest := []) ⟨hx, hb, hml, hown, htg⟩ (c_PK_put l dC dI cA _ m0 32 mf mc0 ps (by decide)) (cw_S htg wd_477 qPK_put iPK_put kPK_put pPK_put rfl rfl ⟨Nat.le_of_ble_eq_true rfl, Nat.le_of_ble_eq_true rfl⟩) hN hP hD hS hA hK [5] [0, 1, 2, 3, 4] rfl rfl (by decide) (by decide) (by decide) rfl hl.1 rfl (Nat.le_of_ble_eq_true rfl) dPK_mark_31 ⟨Nat.le_of_ble_eq_true rfl, Nat.le_of_ble_eq_true rfl⟩ (fun H locs hP hD hS => ?_)
    have hP : va_P (dC, dI) vwCl [(h0, .inr (10, [.int kn, .int sz0, .ref k0, .ref w0, .ref m0, .int mc0, .int ps, .int (bI ey), .int u1, .int u2, .int u3, .int u4])), (w0, .inr (9, [.ref p1, .ref p2, .ref p3, .int ud])), (p1, .inl (cA.1, 64, .inl wf1)), (p2, .inl (cA.1, 64, .inl wf2)), (p3, .inl (cA.1, 64, .inl wf3)), (m0, .inl (cA.1, 32, .inl ((tf_PK_put 32 mf mc0 ps))))] H := hP
    have hD : va_D A [(h0, .inr (10, [.int kn, .int sz0, .ref k0, .ref w0, .ref m0, .int mc0, .int ps, .int (bI ey), .int u1, .int u2, .int u3, .int u4])), (w0, .inr (9, [.ref p1, .ref p2, .ref p3, .int ud])), (p1, .inl (cA.1, 64, .inl wf1)), (p2, .inl (cA.1, 64, .inl wf2)), (p3, .inl (cA.1, 64, .inl wf3)), (m0, .inl (cA.1, 32, .inl ((tf_PK_put 32 mf mc0 ps))))] := hD
    refine lv_aload_n hx hb dPK_mark_34 rfl (lv_at hl 0 rfl) ?_
    refine lv_dup hx hb dPK_mark_35 rfl ?_
    refine va_get (D := (dC, dI)) (ci := 10) (v := .int mc0) (C := R_PK) (T := T_PK) (N := 12) hx hb htg in_PK hown hK hP 0 rfl rfl 5 (by decide) (htg _ wd_267) (fun _ h9 => h9) rfl dPK_mark_36 ?_
    refine lv_iconst (v := 1) hx hb dPK_mark_39 (by decide) ?_
    refine lv_iadd hx hb dPK_mark_40 ?_
    refine va_put (D := (dC, dI)) (ci := 10) (v := .int (mc0 + 1)) (ty := .int) (C := R_PK) (T := T_PK) (N := 12) hx hb htg in_PK ty_PK tk_PK nm_PK hown hK hP hD hS 0 rfl rfl 5 (by decide) (htg _ wd_267) (fun _ h9 => h9) rfl (by decide +kernel) rfl rfl (Nat.le_of_ble_eq_true rfl) dPK_mark_41 (fun H locs hP hD hS => ?_)
    have hP : va_P (dC, dI) vwCl [(h0, .inr (10, [.int kn, .int sz0, .ref k0, .ref w0, .ref m0, .int (mc0 + 1), .int ps, .int (bI ey), .int u1, .int u2, .int u3, .int u4])), (w0, .inr (9, [.ref p1, .ref p2, .ref p3, .int ud])), (p1, .inl (cA.1, 64, .inl wf1)), (p2, .inl (cA.1, 64, .inl wf2)), (p3, .inl (cA.1, 64, .inl wf3)), (m0, .inl (cA.1, 32, .inl ((tf_PK_put 32 mf mc0 ps))))] H := hP
    have hD : va_D A [(h0, .inr (10, [.int kn, .int sz0, .ref k0, .ref w0, .ref m0, .int (mc0 + 1), .int ps, .int (bI ey), .int u1, .int u2, .int u3, .int u4])), (w0, .inr (9, [.ref p1, .ref p2, .ref p3, .int ud])), (p1, .inl (cA.1, 64, .inl wf1)), (p2, .inl (cA.1, 64, .inl wf2)), (p3, .inl (cA.1, 64, .inl wf3)), (m0, .inl (cA.1, 32, .inl ((tf_PK_put 32 mf mc0 ps))))] := hD
    refine lv_aload_n hx hb dPK_mark_44 rfl (lv_at hl 0 rfl) ?_
    refine va_get (D := (dC, dI)) (ci := 10) (v := .int (mc0 + 1)) (C := R_PK) (T := T_PK) (N := 12) hx hb htg in_PK hown hK hP 0 rfl rfl 5 (by decide) (htg _ wd_267) (fun _ h9 => h9) rfl dPK_mark_45 ?_
    refine lv_iconst (v := 1) hx hb dPK_mark_48 (by decide) ?_
    refine lv_isub hx hb dPK_mark_49 ?_
    replace hfn := Option.some.inj hfn
    obtain ⟨e9, hf_0⟩ := Prod.mk.inj hfn; clear hfn; subst e9
    obtain ⟨e9, hf_1⟩ := Prod.mk.inj hf_0; clear hf_0; subst e9
    subst hf_1
    exact W.iret hx hb hr (fun t ht hW => ⟨⟨_, _, rfl, ⟨rfl, rfl⟩, ⟨by rw [ht]; exact hP.sub [0, 1, 2, 3, 4, 5] rfl, va_K.moved hW.alike hK, hD.sub [0, 1, 2, 3, 4, 5] (by decide) rfl⟩⟩, hS.F ht⟩) hS.2.2 dPK_mark_50
  · rw [if_neg c_1] at hfn
    exact absurd hfn (by intro h; cases h)
def of_PK_repair_b12 : Option (Int32 × Int32 × Int32 × Int32) := none
def of_PK_repair (mc0 : Int32) (ps : Int32) (mf : Nat → Int32) (i0 : Int32) : Option (Int32 × Int32 × Int32 × Int32) := (if i0 < 0 then of_PK_repair_b12 else (if i0 < mc0 then some (ps, (i0 + 1), (tf_PK_at 32 mf i0), tf_Waiting_lose) else of_PK_repair_b12))
set_option maxHeartbeats 4000000 in
set_option maxRecDepth 100000 in
theorem c_PK_repair (l : Launch) (dC : Nat → ClassId) (dI : Nat → Nat → Nat) (cA : ClassId × ClassId × ClassId) (zz : Nat) (h0 : Nat) (w0 : Nat) (p1 : Nat) (p2 : Nat) (p3 : Nat) (m0 : Nat) (k0 : Nat) (kn : Int32) (sz0 : Int32) (mc0 : Int32) (ps : Int32) (ey : Bool) (u1 : Int32) (u2 : Int32) (u3 : Int32) (u4 : Int32) (ud : Int32) (wf1 : Nat → Int32) (wf2 : Nat → Int32) (wf3 : Nat → Int32) (mf : Nat → Int32) (i0 : Int32) (rs0 : Int32) (rs1 : Int32) (rs2 : Int32) (rs3 : Int32) (hfn : (of_PK_repair mc0 ps mf i0) = some (rs0, rs1, rs2, rs3)) : Met l yPK_repair wPK_repair ({ frames := 1, cells := 0, slots := 0, locals := 21 }) (va_Pc [.ref h0, .int i0] (Wr (dC, dI) cA zz [(h0, .inr (10, [.int kn, .int sz0, .ref k0, .ref w0, .ref m0, .int mc0, .int ps, .int (bI ey), .int u1, .int u2, .int u3, .int u4])), (w0, .inr (9, [.ref p1, .ref p2, .ref p3, .int ud])), (p1, .inl (cA.1, 64, .inl wf1)), (p2, .inl (cA.1, 64, .inl wf2)), (p3, .inl (cA.1, 64, .inl wf3)), (m0, .inl (cA.1, 32, .inl mf))])) (va_Qi (fun r9 w9 => r9 = rs0 ∧ w9 = [(h0, .inr (10, [.int kn, .int sz0, .ref k0, .ref w0, .ref m0, .int rs1, .int rs2, .int (bI ey), .int u1, .int u2, .int u3, .int u4])), (w0, .inr (9, [.ref p1, .ref p2, .ref p3, .int rs3])), (p1, .inl (cA.1, 64, .inl wf1)), (p2, .inl (cA.1, 64, .inl wf2)), (p3, .inl (cA.1, 64, .inl wf3)), (m0, .inl (cA.1, 32, .inl mf))]) (At (dC, dI) cA (va_A [(h0, .inr (10, [.int kn, .int sz0, .ref k0, .ref w0, .ref m0, .int mc0, .int ps, .int (bI ey), .int u1, .int u2, .int u3, .int u4])), (w0, .inr (9, [.ref p1, .ref p2, .ref p3, .int ud])), (p1, .inl (cA.1, 64, .inl wf1)), (p2, .inl (cA.1, 64, .inl wf2)), (p3, .inl (cA.1, 64, .inl wf3)), (m0, .inl (cA.1, 32, .inl mf))] zz)) (va_A [(h0, .inr (10, [.int kn, .int sz0, .ref k0, .ref w0, .ref m0, .int mc0, .int ps, .int (bI ey), .int u1, .int u2, .int u3, .int u4])), (w0, .inr (9, [.ref p1, .ref p2, .ref p3, .int ud])), (p1, .inl (cA.1, 64, .inl wf1)), (p2, .inl (cA.1, 64, .inl wf2)), (p3, .inl (cA.1, 64, .inl wf3)), (m0, .inl (cA.1, 32, .inl mf))] zz)) 0 0 (va_A [(h0, .inr (10, [.int kn, .int sz0, .ref k0, .ref w0, .ref m0, .int mc0, .int ps, .int (bI ey), .int u1, .int u2, .int u3, .int u4])), (w0, .inr (9, [.ref p1, .ref p2, .ref p3, .int ud])), (p1, .inl (cA.1, 64, .inl wf1)), (p2, .inl (cA.1, 64, .inl wf2)), (p3, .inl (cA.1, 64, .inl wf3)), (m0, .inl (cA.1, 32, .inl mf))] zz) := by
  refine Met.ofW (cc := cPK_repair) (maxL := 3) (ret := (some .int)) (by decide) rfl ?_
  intro p e s m args below meth c s₁ B hml hv
  obtain ⟨rfl, hsz, hN, hP, hK, hD0⟩ := hv
  have hx := B.exec
  have hb := B.bytes
  have hr := B.returns
  have hts := atoms_spec (ws := wPK_repair) B.pre
  have htg : ∀ w ∈ GW, w.before _ s = true := fun w h => hts w (List.mem_cons_of_mem _ h)
  have hown : s.vm.findClass R_PK = some m.cls := findClass_of_methodNamed B.named
  have hlocks := B.notSynchronized
  subst hsz
  have hD := hD0.self (sz := s.heap.size)
  generalize hAe : va_A [(h0, .inr (10, [.int kn, .int sz0, .ref k0, .ref w0, .ref m0, .int mc0, .int ps, .int (bI ey), .int u1, .int u2, .int u3, .int u4])), (w0, .inr (9, [.ref p1, .ref p2, .ref p3, .int ud])), (p1, .inl (cA.1, 64, .inl wf1)), (p2, .inl (cA.1, 64, .inl wf2)), (p3, .inl (cA.1, 64, .inl wf3)), (m0, .inl (cA.1, 32, .inl mf))] s.heap.size = A at hD ⊢
  have hA : ∀ q : Nat, s.heap.size ≤ q → A q := fun q h => by rw [← hAe]; exact Or.inr h
  have hS : va_S A s.heap s.heap [] := va_S.rf
  have hP : va_P (dC, dI) vwCl [(h0, .inr (10, [.int kn, .int sz0, .ref k0, .ref w0, .ref m0, .int mc0, .int ps, .int (bI ey), .int u1, .int u2, .int u3, .int u4])), (w0, .inr (9, [.ref p1, .ref p2, .ref p3, .int ud])), (p1, .inl (cA.1, 64, .inl wf1)), (p2, .inl (cA.1, 64, .inl wf2)), (p3, .inl (cA.1, 64, .inl wf3)), (m0, .inl (cA.1, 32, .inl mf))] s.heap := hP
  have blk12 : ∀ (rs0 : Int32) (rs1 : Int32) (rs2 : Int32) (rs3 : Int32) (H : Heap) (locs : List Loc) (ls : Array Slot), of_PK_repair_b12 = some (rs0, rs1, rs2, rs3) → va_P (dC, dI) vwCl [(h0, .inr (10, [.int kn, .int sz0, .ref k0, .ref w0, .ref m0, .int mc0, .int ps, .int (bI ey), .int u1, .int u2, .int u3, .int u4])), (w0, .inr (9, [.ref p1, .ref p2, .ref p3, .int ud])), (p1, .inl (cA.1, 64, .inl wf1)), (p2, .inl (cA.1, 64, .inl wf2)), (p3, .inl (cA.1, 64, .inl wf3)), (m0, .inl (cA.1, 32, .inl mf))] H → va_D A [(h0, .inr (10, [.int kn, .int sz0, .ref k0, .ref w0, .ref m0, .int mc0, .int ps, .int (bI ey), .int u1, .int u2, .int u3, .int u4])), (w0, .inr (9, [.ref p1, .ref p2, .ref p3, .int ud])), (p1, .inl (cA.1, 64, .inl wf1)), (p2, .inl (cA.1, 64, .inl wf2)), (p3, .inl (cA.1, 64, .inl wf3)), (m0, .inl (cA.1, 32, .inl mf))] → va_S A s.heap H locs → lv_has ls 3 [] → W p l e (headSpec wPK_repair ({ frames := 1, cells := 0, slots := 0, locals := 21 })).room s m ([.ref h0, .int i0] : List Value).toArray below meth c H locs 0 0 (MQ below (va_Qi (fun r9 w9 => r9 = rs0 ∧ w9 = [(h0, .inr (10, [.int kn, .int sz0, .ref k0, .ref w0, .ref m0, .int rs1, .int rs2, .int (bI ey), .int u1, .int u2, .int u3, .int u4])), (w0, .inr (9, [.ref p1, .ref p2, .ref p3, .int rs3])), (p1, .inl (cA.1, 64, .inl wf1)), (p2, .inl (cA.1, 64, .inl wf2)), (p3, .inl (cA.1, 64, .inl wf3)), (m0, .inl (cA.1, 32, .inl mf))]) (At (dC, dI) cA A) A) ([.ref h0, .int i0] : List Value).toArray s 0 0 A) (F0 m 12 ls []) := by
    intro rs0 rs1 rs2 rs3 H locs ls hfn hP hD hS hl
    unfold of_PK_repair_b12 at hfn
    exact absurd hfn (by intro h; cases h)
  have hl := lv_entry ([.ref h0, .int i0]) (n := 3) (Nat.le_of_ble_eq_true rfl)
  rw [lg_entry_eq]
  generalize (lg_sl ([.ref h0, .int i0]) ++ List.replicate (3 - (lg_sl ([.ref h0, .int i0])).length) Slot.unset).toArray = ls at hl ⊢
  have hl : lv_has ls 3 [(0, .ref h0), (1, .int i0)] := hl
  unfold of_PK_repair at hfn
  refine lv_iload_n hx hb dPK_repair_0 rfl (lv_at hl 1 rfl) ?_
  refine lv_if_lt (tgt := 12) hx hb dPK_repair_1 (by decide) (fun c_1 => ?_) (fun c_1 => ?_)
  · rw [if_pos c_1] at hfn
    exact blk12 _ _ _ _ _ _ ls hfn (hP.sub [0, 1, 2, 3, 4, 5] rfl) (hD.sub [0, 1, 2, 3, 4, 5] (by decide) rfl) hS (lv_sub hl [] rfl)
  · rw [if_neg c_1] at hfn
    refine lv_iload_n hx hb dPK_repair_4 rfl (lv_at hl 1 rfl) ?_
    refine lv_aload_n hx hb dPK_repair_5 rfl (lv_at hl 0 rfl) ?_
    refine va_get (D := (dC, dI)) (ci := 10) (v := .int mc0) (C := R_PK) (T := T_PK) (N := 12) hx hb htg in_PK hown hK hP 0 rfl rfl 5 (by decide) (htg _ wd_267) (fun _ h9 => h9) rfl dPK_repair_6 ?_
    refine lv_icmp_lt (tgt := 22) hx hb dPK_repair_9 (by decide) (fun c_2 => ?_) (fun c_2 => ?_)
    · rw [if_pos c_2] at hfn
      refine lv_aload_n hx hb dPK_repair_22 rfl (lv_at hl 0 rfl) ?_
      refine va_get (D := (dC, dI)) (ci := 10) (v := .int ps) (C := R_PK) (T := T_PK) (N := 12) hx hb htg in_PK hown hK hP 0 rfl rfl 6 (by decide) (htg _ wd_268) (fun _ h9 => h9) rfl dPK_repair_23 ?_
      refine lv_istore_n (lv' := [(2, .int ps), (0, .ref h0), (1, .int i0)]) hx hb dPK_repair_26 rfl hl (by decide) rfl (fun ls hl => ?_)
      refine lv_aload_n hx hb dPK_repair_27 rfl (lv_at hl 1 rfl) ?_
      refine lv_aload_n hx hb dPK_repair_28 rfl (lv_at hl 1 rfl) ?_
      refine va_get (D := (dC, dI)) (ci := 10) (v := .ref m0) (C := R_PK) (T := T_PK) (N := 12) hx hb htg in_PK hown hK hP 0 rfl rfl 4 (by decide) (htg _ wd_266) (fun _ h9 => h9) rfl dPK_repair_29 ?_
      refine lv_iload_n hx hb dPK_repair_32 rfl (lv_at hl 2 rfl) ?_
      refine rd_S (As := [.ref m0, .int i0]) (rest := [.ref h0]) ⟨hx, hb, hml, hown, htg⟩ (c_PK_at l dC dI cA m0 32 mf i0 (by decide)) (cw_S htg wd_476 qPK_at iPK_at kPK_at pPK_at rfl rfl ⟨Nat.le_of_ble_eq_true rfl, Nat.le_of_ble_eq_true rfl⟩) hN (hP.sub [5] rfl) hK rfl hl.1 rfl (Nat.le_of_ble_eq_true rfl) dPK_repair_33 ⟨Nat.le_of_ble_eq_true rfl, Nat.le_of_ble_eq_true rfl⟩ ?_
      refine va_put (D := (dC, dI)) (ci := 10) (v := .int (tf_PK_at 32 mf i0)) (ty := .int) (C := R_PK) (T := T_PK) (N := 12) hx hb htg in_PK ty_PK tk_PK nm_PK hown hK hP hD hS 0 rfl rfl 6 (by decide) (htg _ wd_268) (fun _ h9 => h9) rfl (by decide +kernel) rfl rfl (Nat.le_of_ble_eq_true rfl) dPK_repair_36 (fun H locs hP hD hS => ?_)
      have hP : va_P (dC, dI) vwCl [(h0, .inr (10, [.int kn, .int sz0, .ref k0, .ref w0, .ref m0, .int mc0, .int (tf_PK_at 32 mf i0), .int (bI ey), .int u1, .int u2, .int u3, .int u4])), (w0, .inr (9, [.ref p1, .ref p2, .ref p3, .int ud])), (p1, .inl (cA.1, 64, .inl wf1)), (p2, .inl (cA.1, 64, .inl wf2)), (p3, .inl (cA.1, 64, .inl wf3)), (m0, .inl (cA.1, 32, .inl mf))] H := hP
      have hD : va_D A [(h0, .inr (10, [.int kn, .int sz0, .ref k0, .ref w0, .ref m0, .int mc0, .int (tf_PK_at 32 mf i0), .int (bI ey), .int u1, .int u2, .int u3, .int u4])), (w0, .inr (9, [.ref p1, .ref p2, .ref p3, .int ud])), (p1, .inl (cA.1, 64, .inl wf1)), (p2, .inl (cA.1, 64, .inl wf2)), (p3, .inl (cA.1, 64, .inl wf3)), (m0, .inl (cA.1, 32, .inl mf))] := hD
      refine lv_aload_n hx hb dPK_repair_39 rfl (lv_at hl 1 rfl) ?_
      refine lv_iload_n hx hb dPK_repair_40 rfl (lv_at hl 2 rfl) ?_
      refine lv_iconst (v := 1) hx hb dPK_repair_41 (by decide) ?_
      refine lv_iadd hx hb dPK_repair_42 ?_
      refine va_put (D := (dC, dI)) (ci := 10) (v := .int (i0 + 1)) (ty := .int) (C := R_PK) (T := T_PK) (N := 12) hx hb htg in_PK ty_PK tk_PK nm_PK hown hK hP hD hS 0 rfl rfl 5 (by decide) (htg _ wd_267) (fun _ h9 => h9) rfl (by decide +kernel) rfl rfl (Nat.le_of_ble_eq_true rfl) dPK_repair_43 (fun H locs hP hD hS => ?_)
      have hP : va_P (dC, dI) vwCl [(h0, .inr (10, [.int kn, .int sz0, .ref k0, .ref w0, .ref m0, .int (i0 + 1), .int (tf_PK_at 32 mf i0), .int (bI ey), .int u1, .int u2, .int u3, .int u4])), (w0, .inr (9, [.ref p1, .ref p2, .ref p3, .int ud])), (p1, .inl (cA.1, 64, .inl wf1)), (p2, .inl (cA.1, 64, .inl wf2)), (p3, .inl (cA.1, 64, .inl wf3)), (m0, .inl (cA.1, 32, .inl mf))] H := hP
      have hD : va_D A [(h0, .inr (10, [.int kn, .int sz0, .ref k0, .ref w0, .ref m0, .int (i0 + 1), .int (tf_PK_at 32 mf i0), .int (bI ey), .int u1, .int u2, .int u3, .int u4])), (w0, .inr (9, [.ref p1, .ref p2, .ref p3, .int ud])), (p1, .inl (cA.1, 64, .inl wf1)), (p2, .inl (cA.1, 64, .inl wf2)), (p3, .inl (cA.1, 64, .inl wf3)), (m0, .inl (cA.1, 32, .inl mf))] := hD
      refine lv_aload_n hx hb dPK_repair_46 rfl (lv_at hl 1 rfl) ?_
      refine va_get (D := (dC, dI)) (ci := 10) (v := .ref w0) (C := R_PK) (T := T_PK) (N := 12) hx hb htg in_PK hown hK hP 0 rfl rfl 3 (by decide) (htg _ wd_265) (fun _ h9 => h9) rfl dPK_repair_47 ?_
      refine wr_Vv (wr := [(h0, .inr (10, [.int kn, .int sz0, .ref k0, .ref w0, .ref m0, .int (i0 + 1), .int (tf_PK_at 32 mf i0), .int (bI ey), .int u1, .int u2, .int u3, .int u4])), (m0, .inl (cA.1, 32, .inl mf))]) (As := []) (rest := []) ⟨hx, hb, hml, hown, htg⟩ (c_Waiting_lose l dC dI cA _ w0 p1 p2 p3 ud wf1 wf2 wf3) (cw_V htg wd_549 wd_551 qWaiting_lose iWaiting_lose kWaiting_lose pWaiting_lose rfl rfl ⟨Nat.le_of_ble_eq_true rfl, Nat.le_of_ble_eq_true rfl⟩) (va_recv hK hP (ci := 9) (q0 := 1) rfl rfl) hN hP hD hS hA hK [1, 2, 3, 4] [0, 5] rfl rfl (by decide) (by decide) (by decide) rfl hl.1 rfl (Nat.le_of_ble_eq_true rfl) dPK_repair_50 ⟨Nat.le_of_ble_eq_true rfl, Nat.le_of_ble_eq_true rfl⟩ (fun H locs hP hD hS => ?_)
      have hP : va_P (dC, dI) vwCl [(h0, .inr (10, [.int kn, .int sz0, .ref k0, .ref w0, .ref m0, .int (i0 + 1), .int (tf_PK_at 32 mf i0), .int (bI ey), .int u1, .int u2, .int u3, .int u4])), (m0, .inl (cA.1, 32, .inl mf)), (w0, .inr (9, [.ref p1, .ref p2, .ref p3, .int tf_Waiting_lose])), (p1, .inl (cA.1, 64, .inl wf1)), (p2, .inl (cA.1, 64, .inl wf2)), (p3, .inl (cA.1, 64, .inl wf3))] H := hP
      have hD : va_D A [(h0, .inr (10, [.int kn, .int sz0, .ref k0, .ref w0, .ref m0, .int (i0 + 1), .int (tf_PK_at 32 mf i0), .int (bI ey), .int u1, .int u2, .int u3, .int u4])), (m0, .inl (cA.1, 32, .inl mf)), (w0, .inr (9, [.ref p1, .ref p2, .ref p3, .int tf_Waiting_lose])), (p1, .inl (cA.1, 64, .inl wf1)), (p2, .inl (cA.1, 64, .inl wf2)), (p3, .inl (cA.1, 64, .inl wf3))] := hD
      refine lv_iload_n hx hb dPK_repair_53 rfl (lv_at hl 0 rfl) ?_
      replace hfn := Option.some.inj hfn
      obtain ⟨e9, hf_0⟩ := Prod.mk.inj hfn; clear hfn; subst e9
      obtain ⟨e9, hf_1⟩ := Prod.mk.inj hf_0; clear hf_0; subst e9
      obtain ⟨e9, hf_2⟩ := Prod.mk.inj hf_1; clear hf_1; subst e9
      subst hf_2
      exact W.iret hx hb hr (fun t ht hW => ⟨⟨_, _, rfl, ⟨rfl, rfl⟩, ⟨by rw [ht]; exact hP.sub [0, 2, 3, 4, 5, 1] rfl, va_K.moved hW.alike hK, hD.sub [0, 2, 3, 4, 5, 1] (by decide) rfl⟩⟩, hS.F ht⟩) hS.2.2 dPK_repair_54
    · rw [if_neg c_2] at hfn
      exact blk12 _ _ _ _ _ _ ls hfn (hP.sub [0, 1, 2, 3, 4, 5] rfl) (hD.sub [0, 1, 2, 3, 4, 5] (by decide) rfl) hS (lv_sub hl [] rfl)
