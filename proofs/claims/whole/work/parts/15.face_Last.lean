def tf_PK_told_Last (ps : Int32) (ey : Bool) (ud : Int32) (wf1 : Nat → Int32) (wf2 : Nat → Int32) (wf3 : Nat → Int32) (zs0 : Int32) (mk0 : Int32) (n1 : Nat) (f1 : Nat → Int32) (pl : Int32) : Bool × Int32 × Int32 × (Nat → Int32) × (Nat → Int32) × (Nat → Int32) := (if (bI ey) = 0 then ((tf_Last_says zs0 mk0 n1 f1 pl), ps, ud, wf1, wf2, wf3) else (if (bI (tf_Waiting_hasRoom ud)) = 0 then ((tf_Last_says zs0 mk0 n1 f1 pl), ps, ud, wf1, wf2, wf3) else ((tf_Last_says zs0 mk0 n1 f1 pl), (tf_PK_behind ps (tf_Last_says zs0 mk0 n1 f1 pl)), ((tf_Waiting_add ud wf1 wf2 wf3 pl ps (tf_Last_says zs0 mk0 n1 f1 pl)).1), ((tf_Waiting_add ud wf1 wf2 wf3 pl ps (tf_Last_says zs0 mk0 n1 f1 pl)).2.1), ((tf_Waiting_add ud wf1 wf2 wf3 pl ps (tf_Last_says zs0 mk0 n1 f1 pl)).2.2.1), ((tf_Waiting_add ud wf1 wf2 wf3 pl ps (tf_Last_says zs0 mk0 n1 f1 pl)).2.2.2))))
set_option maxHeartbeats 4000000 in
set_option maxRecDepth 100000 in
theorem c_PK_told_Last (l : Launch) (dC : Nat → ClassId) (dI : Nat → Nat → Nat) (cA : ClassId × ClassId × ClassId) (zz : Nat) (h0 : Nat) (w0 : Nat) (p1 : Nat) (p2 : Nat) (p3 : Nat) (m0 : Nat) (k0 : Nat) (k1 : Nat) (kn : Int32) (sz0 : Int32) (mc0 : Int32) (ps : Int32) (ey : Bool) (u1 : Int32) (u2 : Int32) (u3 : Int32) (u4 : Int32) (ud : Int32) (wf1 : Nat → Int32) (wf2 : Nat → Int32) (wf3 : Nat → Int32) (mf : Nat → Int32) (zs0 : Int32) (rw0 : Int32) (mk0 : Int32) (n1 : Nat) (f1 : Nat → Int32) (pl : Int32) (hn1 : n1 < 2147483648) : Met l yPK_told wPK_told ({ frames := 3, cells := 0, slots := 0, locals := 69 }) (va_Pc [.ref h0, .int pl] (Wr (dC, dI) cA zz [(h0, .inr (10, [.int kn, .int sz0, .ref k0, .ref w0, .ref m0, .int mc0, .int ps, .int (bI ey), .int u1, .int u2, .int u3, .int u4])), (w0, .inr (9, [.ref p1, .ref p2, .ref p3, .int ud])), (p1, .inl (cA.1, 64, .inl wf1)), (p2, .inl (cA.1, 64, .inl wf2)), (p3, .inl (cA.1, 64, .inl wf3)), (m0, .inl (cA.1, 32, .inl mf)), (k0, .inr (4, [.int zs0, .int rw0, .int mk0, .ref k1])), (k1, .inl (cA.1, n1, .inl f1))])) (va_Qi (fun r9 w9 => r9 = (bI ((tf_PK_told_Last ps ey ud wf1 wf2 wf3 zs0 mk0 n1 f1 pl).1)) ∧ w9 = [(h0, .inr (10, [.int kn, .int sz0, .ref k0, .ref w0, .ref m0, .int mc0, .int ((tf_PK_told_Last ps ey ud wf1 wf2 wf3 zs0 mk0 n1 f1 pl).2.1), .int (bI ey), .int u1, .int u2, .int u3, .int u4])), (w0, .inr (9, [.ref p1, .ref p2, .ref p3, .int ((tf_PK_told_Last ps ey ud wf1 wf2 wf3 zs0 mk0 n1 f1 pl).2.2.1)])), (p1, .inl (cA.1, 64, .inl ((tf_PK_told_Last ps ey ud wf1 wf2 wf3 zs0 mk0 n1 f1 pl).2.2.2.1))), (p2, .inl (cA.1, 64, .inl ((tf_PK_told_Last ps ey ud wf1 wf2 wf3 zs0 mk0 n1 f1 pl).2.2.2.2.1))), (p3, .inl (cA.1, 64, .inl ((tf_PK_told_Last ps ey ud wf1 wf2 wf3 zs0 mk0 n1 f1 pl).2.2.2.2.2))), (m0, .inl (cA.1, 32, .inl mf)), (k0, .inr (4, [.int zs0, .int rw0, .int mk0, .ref k1])), (k1, .inl (cA.1, n1, .inl f1))]) (At (dC, dI) cA (va_A [(h0, .inr (10, [.int kn, .int sz0, .ref k0, .ref w0, .ref m0, .int mc0, .int ps, .int (bI ey), .int u1, .int u2, .int u3, .int u4])), (w0, .inr (9, [.ref p1, .ref p2, .ref p3, .int ud])), (p1, .inl (cA.1, 64, .inl wf1)), (p2, .inl (cA.1, 64, .inl wf2)), (p3, .inl (cA.1, 64, .inl wf3)), (m0, .inl (cA.1, 32, .inl mf)), (k0, .inr (4, [.int zs0, .int rw0, .int mk0, .ref k1])), (k1, .inl (cA.1, n1, .inl f1))] zz)) (va_A [(h0, .inr (10, [.int kn, .int sz0, .ref k0, .ref w0, .ref m0, .int mc0, .int ps, .int (bI ey), .int u1, .int u2, .int u3, .int u4])), (w0, .inr (9, [.ref p1, .ref p2, .ref p3, .int ud])), (p1, .inl (cA.1, 64, .inl wf1)), (p2, .inl (cA.1, 64, .inl wf2)), (p3, .inl (cA.1, 64, .inl wf3)), (m0, .inl (cA.1, 32, .inl mf)), (k0, .inr (4, [.int zs0, .int rw0, .int mk0, .ref k1])), (k1, .inl (cA.1, n1, .inl f1))] zz)) 0 0 (va_A [(h0, .inr (10, [.int kn, .int sz0, .ref k0, .ref w0, .ref m0, .int mc0, .int ps, .int (bI ey), .int u1, .int u2, .int u3, .int u4])), (w0, .inr (9, [.ref p1, .ref p2, .ref p3, .int ud])), (p1, .inl (cA.1, 64, .inl wf1)), (p2, .inl (cA.1, 64, .inl wf2)), (p3, .inl (cA.1, 64, .inl wf3)), (m0, .inl (cA.1, 32, .inl mf)), (k0, .inr (4, [.int zs0, .int rw0, .int mk0, .ref k1])), (k1, .inl (cA.1, n1, .inl f1))] zz) := by
  refine Met.ofW (cc := cPK_told) (maxL := 3) (ret := (some .boolean)) (by decide) rfl ?_
  intro p e s m args below meth c s₁ B hml hv
  obtain ⟨rfl, hsz, hN, hP, hK, hD0⟩ := hv
  have hx := B.exec
  have hb := B.bytes
  have hr := B.returns
  have hts := atoms_spec (ws := wPK_told) B.pre
  have htg : ∀ w ∈ GW, w.before _ s = true := fun w h => hts w (List.mem_cons_of_mem _ h)
  have hown : s.vm.findClass R_PK = some m.cls := findClass_of_methodNamed B.named
  have hlocks := B.notSynchronized
  subst hsz
  have hD := hD0.self (sz := s.heap.size)
  generalize hAe : va_A [(h0, .inr (10, [.int kn, .int sz0, .ref k0, .ref w0, .ref m0, .int mc0, .int ps, .int (bI ey), .int u1, .int u2, .int u3, .int u4])), (w0, .inr (9, [.ref p1, .ref p2, .ref p3, .int ud])), (p1, .inl (cA.1, 64, .inl wf1)), (p2, .inl (cA.1, 64, .inl wf2)), (p3, .inl (cA.1, 64, .inl wf3)), (m0, .inl (cA.1, 32, .inl mf)), (k0, .inr (4, [.int zs0, .int rw0, .int mk0, .ref k1])), (k1, .inl (cA.1, n1, .inl f1))] s.heap.size = A at hD ⊢
  have hA : ∀ q : Nat, s.heap.size ≤ q → A q := fun q h => by rw [← hAe]; exact Or.inr h
  have hS : va_S A s.heap s.heap [] := va_S.rf
  have hP : va_P (dC, dI) vwCl [(h0, .inr (10, [.int kn, .int sz0, .ref k0, .ref w0, .ref m0, .int mc0, .int ps, .int (bI ey), .int u1, .int u2, .int u3, .int u4])), (w0, .inr (9, [.ref p1, .ref p2, .ref p3, .int ud])), (p1, .inl (cA.1, 64, .inl wf1)), (p2, .inl (cA.1, 64, .inl wf2)), (p3, .inl (cA.1, 64, .inl wf3)), (m0, .inl (cA.1, 32, .inl mf)), (k0, .inr (4, [.int zs0, .int rw0, .int mk0, .ref k1])), (k1, .inl (cA.1, n1, .inl f1))] s.heap := hP
  obtain ⟨rs, hfn⟩ : ∃ rs, (tf_PK_told_Last ps ey ud wf1 wf2 wf3 zs0 mk0 n1 f1 pl) = rs := ⟨_, rfl⟩
  try rw [hfn]
  have hl := lv_entry ([.ref h0, .int pl]) (n := 3) (Nat.le_of_ble_eq_true rfl)
  rw [lg_entry_eq]
  generalize (lg_sl ([.ref h0, .int pl]) ++ List.replicate (3 - (lg_sl ([.ref h0, .int pl])).length) Slot.unset).toArray = ls at hl ⊢
  have hl : lv_has ls 3 [(0, .ref h0), (1, .int pl)] := hl
  unfold tf_PK_told_Last at hfn
  refine lv_aload_n hx hb dPK_told_0 rfl (lv_at hl 0 rfl) ?_
  refine va_get (D := (dC, dI)) (ci := 10) (v := .ref k0) (C := R_PK) (T := T_PK) (N := 12) hx hb htg in_PK hown hK hP 0 rfl rfl 2 (by decide) (htg _ wd_264) (fun _ h9 => h9) rfl dPK_told_1 ?_
  refine lv_iload_n hx hb dPK_told_4 rfl (lv_at hl 1 rfl) ?_
  refine lv_aload_n hx hb dPK_told_5 rfl (lv_at hl 0 rfl) ?_
  refine va_get (D := (dC, dI)) (ci := 10) (v := .int ps) (C := R_PK) (T := T_PK) (N := 12) hx hb htg in_PK hown hK hP 0 rfl rfl 6 (by decide) (htg _ wd_268) (fun _ h9 => h9) rfl dPK_told_6 ?_
  refine rd_U (As := [.int pl, .int ps]) (rest := []) ⟨hx, hb, hml, hown, htg⟩ (c_Last_says l dC dI cA k0 k1 zs0 rw0 mk0 n1 f1 pl ps hn1) (cw_U (n := 2) htg wd_303 wd_305 wd_344 qLast_says iLast_says kLast_says (va_Decl.abs (hN _ wn_304)) (by decide +kernel) (by decide +kernel) rfl rfl ⟨Nat.le_of_ble_eq_true rfl, Nat.le_of_ble_eq_true rfl⟩) (va_recv hK hP (ci := 4) (q0 := 6) rfl rfl) hN (hP.sub [6, 7] rfl) hK rfl hl.1 rfl (Nat.le_of_ble_eq_true rfl) dPK_told_9 ⟨Nat.le_of_ble_eq_true rfl, Nat.le_of_ble_eq_true rfl⟩ ?_
  refine lv_istore_n (lv' := [(2, .int (bI (tf_Last_says zs0 mk0 n1 f1 pl))), (0, .ref h0), (1, .int pl)]) hx hb dPK_told_12 rfl hl (by decide) rfl (fun ls hl => ?_)
  refine lv_aload_n hx hb dPK_told_13 rfl (lv_at hl 1 rfl) ?_
  refine va_get (D := (dC, dI)) (ci := 10) (v := .int (bI ey)) (C := R_PK) (T := T_PK) (N := 12) hx hb htg in_PK hown hK hP 0 rfl rfl 7 (by decide) (htg _ wd_269) (fun _ h9 => h9) rfl dPK_told_14 ?_
  refine lv_if_eq (tgt := 55) hx hb dPK_told_17 (by decide) (fun c_1 => ?_) (fun c_1 => ?_)
  · rw [if_pos c_1] at hfn
    refine lv_iload_n hx hb dPK_told_55 rfl (lv_at hl 0 rfl) ?_
    subst hfn
    exact W.zret hx hb hr (nar_bI _) (fun t ht hW => ⟨⟨_, _, rfl, ⟨rfl, rfl⟩, ⟨by rw [ht]; exact hP.sub [0, 1, 2, 3, 4, 5, 6, 7] rfl, va_K.moved hW.alike hK, hD.sub [0, 1, 2, 3, 4, 5, 6, 7] (by decide) rfl⟩⟩, hS.F ht⟩) hS.2.2 dPK_told_56
  · rw [if_neg c_1] at hfn
    refine lv_aload_n hx hb dPK_told_20 rfl (lv_at hl 1 rfl) ?_
    refine va_get (D := (dC, dI)) (ci := 10) (v := .ref w0) (C := R_PK) (T := T_PK) (N := 12) hx hb htg in_PK hown hK hP 0 rfl rfl 3 (by decide) (htg _ wd_265) (fun _ h9 => h9) rfl dPK_told_21 ?_
    refine rd_V (As := []) (rest := []) ⟨hx, hb, hml, hown, htg⟩ (c_Waiting_hasRoom l dC dI cA w0 p1 p2 p3 ud wf1 wf2 wf3) (cw_V htg wd_429 wd_431 qWaiting_hasRoom iWaiting_hasRoom kWaiting_hasRoom pWaiting_hasRoom rfl rfl ⟨Nat.le_of_ble_eq_true rfl, Nat.le_of_ble_eq_true rfl⟩) (va_recv hK hP (ci := 9) (q0 := 1) rfl rfl) hN (hP.sub [1, 2, 3, 4] rfl) hK rfl hl.1 rfl (Nat.le_of_ble_eq_true rfl) dPK_told_24 ⟨Nat.le_of_ble_eq_true rfl, Nat.le_of_ble_eq_true rfl⟩ ?_
    refine lv_if_eq (tgt := 55) hx hb dPK_told_27 (by decide) (fun c_2 => ?_) (fun c_2 => ?_)
    · rw [if_pos c_2] at hfn
      refine lv_iload_n hx hb dPK_told_55 rfl (lv_at hl 0 rfl) ?_
      subst hfn
      exact W.zret hx hb hr (nar_bI _) (fun t ht hW => ⟨⟨_, _, rfl, ⟨rfl, rfl⟩, ⟨by rw [ht]; exact hP.sub [0, 1, 2, 3, 4, 5, 6, 7] rfl, va_K.moved hW.alike hK, hD.sub [0, 1, 2, 3, 4, 5, 6, 7] (by decide) rfl⟩⟩, hS.F ht⟩) hS.2.2 dPK_told_56
    · rw [if_neg c_2] at hfn
      refine lv_aload_n hx hb dPK_told_30 rfl (lv_at hl 1 rfl) ?_
      refine va_get (D := (dC, dI)) (ci := 10) (v := .ref w0) (C := R_PK) (T := T_PK) (N := 12) hx hb htg in_PK hown hK hP 0 rfl rfl 3 (by decide) (htg _ wd_265) (fun _ h9 => h9) rfl dPK_told_31 ?_
      refine lv_iload_n hx hb dPK_told_34 rfl (lv_at hl 2 rfl) ?_
      refine lv_aload_n hx hb dPK_told_35 rfl (lv_at hl 1 rfl) ?_
      refine va_get (D := (dC, dI)) (ci := 10) (v := .int ps) (C := R_PK) (T := T_PK) (N := 12) hx hb htg in_PK hown hK hP 0 rfl rfl 6 (by decide) (htg _ wd_268) (fun _ h9 => h9) rfl dPK_told_36 ?_
      refine lv_iload_n hx hb dPK_told_39 rfl (lv_at hl 0 rfl) ?_
      refine wr_Vv (wr := [(h0, .inr (10, [.int kn, .int sz0, .ref k0, .ref w0, .ref m0, .int mc0, .int ps, .int (bI ey), .int u1, .int u2, .int u3, .int u4])), (m0, .inl (cA.1, 32, .inl mf)), (k0, .inr (4, [.int zs0, .int rw0, .int mk0, .ref k1])), (k1, .inl (cA.1, n1, .inl f1))]) (As := [.int pl, .int ps, .int (bI (tf_Last_says zs0 mk0 n1 f1 pl))]) (rest := []) ⟨hx, hb, hml, hown, htg⟩ (c_Waiting_add l dC dI cA _ w0 p1 p2 p3 ud wf1 wf2 wf3 pl ps (tf_Last_says zs0 mk0 n1 f1 pl)) (cw_V htg wd_433 wd_435 qWaiting_add iWaiting_add kWaiting_add pWaiting_add rfl rfl ⟨Nat.le_of_ble_eq_true rfl, Nat.le_of_ble_eq_true rfl⟩) (va_recv hK hP (ci := 9) (q0 := 1) rfl rfl) hN hP hD hS hA hK [1, 2, 3, 4] [0, 5, 6, 7] rfl rfl (by decide) (by decide) (by decide) rfl hl.1 rfl (Nat.le_of_ble_eq_true rfl) dPK_told_40 ⟨Nat.le_of_ble_eq_true rfl, Nat.le_of_ble_eq_true rfl⟩ (fun H locs hP hD hS => ?_)
      have hP : va_P (dC, dI) vwCl [(h0, .inr (10, [.int kn, .int sz0, .ref k0, .ref w0, .ref m0, .int mc0, .int ps, .int (bI ey), .int u1, .int u2, .int u3, .int u4])), (m0, .inl (cA.1, 32, .inl mf)), (k0, .inr (4, [.int zs0, .int rw0, .int mk0, .ref k1])), (k1, .inl (cA.1, n1, .inl f1)), (w0, .inr (9, [.ref p1, .ref p2, .ref p3, .int ((tf_Waiting_add ud wf1 wf2 wf3 pl ps (tf_Last_says zs0 mk0 n1 f1 pl)).1)])), (p1, .inl (cA.1, 64, .inl ((tf_Waiting_add ud wf1 wf2 wf3 pl ps (tf_Last_says zs0 mk0 n1 f1 pl)).2.1))), (p2, .inl (cA.1, 64, .inl ((tf_Waiting_add ud wf1 wf2 wf3 pl ps (tf_Last_says zs0 mk0 n1 f1 pl)).2.2.1))), (p3, .inl (cA.1, 64, .inl ((tf_Waiting_add ud wf1 wf2 wf3 pl ps (tf_Last_says zs0 mk0 n1 f1 pl)).2.2.2)))] H := hP
      have hD : va_D A [(h0, .inr (10, [.int kn, .int sz0, .ref k0, .ref w0, .ref m0, .int mc0, .int ps, .int (bI ey), .int u1, .int u2, .int u3, .int u4])), (m0, .inl (cA.1, 32, .inl mf)), (k0, .inr (4, [.int zs0, .int rw0, .int mk0, .ref k1])), (k1, .inl (cA.1, n1, .inl f1)), (w0, .inr (9, [.ref p1, .ref p2, .ref p3, .int ((tf_Waiting_add ud wf1 wf2 wf3 pl ps (tf_Last_says zs0 mk0 n1 f1 pl)).1)])), (p1, .inl (cA.1, 64, .inl ((tf_Waiting_add ud wf1 wf2 wf3 pl ps (tf_Last_says zs0 mk0 n1 f1 pl)).2.1))), (p2, .inl (cA.1, 64, .inl ((tf_Waiting_add ud wf1 wf2 wf3 pl ps (tf_Last_says zs0 mk0 n1 f1 pl)).2.2.1))), (p3, .inl (cA.1, 64, .inl ((tf_Waiting_add ud wf1 wf2 wf3 pl ps (tf_Last_says zs0 mk0 n1 f1 pl)).2.2.2)))] := hD
      refine lv_aload_n hx hb dPK_told_43 rfl (lv_at hl 1 rfl) ?_
      refine lv_aload_n hx hb dPK_told_44 rfl (lv_at hl 1 rfl) ?_
      refine va_get (D := (dC, dI)) (ci := 10) (v := .int ps) (C := R_PK) (T := T_PK) (N := 12) hx hb htg in_PK hown hK hP 0 rfl rfl 6 (by decide) (htg _ wd_268) (fun _ h9 => h9) rfl dPK_told_45 ?_
      refine lv_iload_n hx hb dPK_told_48 rfl (lv_at hl 0 rfl) ?_
      refine rd_S (As := [.int ps, .int (bI (tf_Last_says zs0 mk0 n1 f1 pl))]) (rest := [.ref h0]) ⟨hx, hb, hml, hown, htg⟩ (c_PK_behind l dC dI cA ps (tf_Last_says zs0 mk0 n1 f1 pl)) (cw_S htg wd_445 qPK_behind iPK_behind kPK_behind pPK_behind rfl rfl ⟨Nat.le_of_ble_eq_true rfl, Nat.le_of_ble_eq_true rfl⟩) hN (hP.sub [] rfl) hK rfl hl.1 rfl (Nat.le_of_ble_eq_true rfl) dPK_told_49 ⟨Nat.le_of_ble_eq_true rfl, Nat.le_of_ble_eq_true rfl⟩ ?_
      refine va_put (D := (dC, dI)) (ci := 10) (v := .int (tf_PK_behind ps (tf_Last_says zs0 mk0 n1 f1 pl))) (ty := .int) (C := R_PK) (T := T_PK) (N := 12) hx hb htg in_PK ty_PK tk_PK nm_PK hown hK hP hD hS 0 rfl rfl 6 (by decide) (htg _ wd_268) (fun _ h9 => h9) rfl (by decide +kernel) rfl rfl (Nat.le_of_ble_eq_true rfl) dPK_told_52 (fun H locs hP hD hS => ?_)
      have hP : va_P (dC, dI) vwCl [(h0, .inr (10, [.int kn, .int sz0, .ref k0, .ref w0, .ref m0, .int mc0, .int (tf_PK_behind ps (tf_Last_says zs0 mk0 n1 f1 pl)), .int (bI ey), .int u1, .int u2, .int u3, .int u4])), (m0, .inl (cA.1, 32, .inl mf)), (k0, .inr (4, [.int zs0, .int rw0, .int mk0, .ref k1])), (k1, .inl (cA.1, n1, .inl f1)), (w0, .inr (9, [.ref p1, .ref p2, .ref p3, .int ((tf_Waiting_add ud wf1 wf2 wf3 pl ps (tf_Last_says zs0 mk0 n1 f1 pl)).1)])), (p1, .inl (cA.1, 64, .inl ((tf_Waiting_add ud wf1 wf2 wf3 pl ps (tf_Last_says zs0 mk0 n1 f1 pl)).2.1))), (p2, .inl (cA.1, 64, .inl ((tf_Waiting_add ud wf1 wf2 wf3 pl ps (tf_Last_says zs0 mk0 n1 f1 pl)).2.2.1))), (p3, .inl (cA.1, 64, .inl ((tf_Waiting_add ud wf1 wf2 wf3 pl ps (tf_Last_says zs0 mk0 n1 f1 pl)).2.2.2)))] H := hP
      have hD : va_D A [(h0, .inr (10, [.int kn, .int sz0, .ref k0, .ref w0, .ref m0, .int mc0, .int (tf_PK_behind ps (tf_Last_says zs0 mk0 n1 f1 pl)), .int (bI ey), .int u1, .int u2, .int u3, .int u4])), (m0, .inl (cA.1, 32, .inl mf)), (k0, .inr (4, [.int zs0, .int rw0, .int mk0, .ref k1])), (k1, .inl (cA.1, n1, .inl f1)), (w0, .inr (9, [.ref p1, .ref p2, .ref p3, .int ((tf_Waiting_add ud wf1 wf2 wf3 pl ps (tf_Last_says zs0 mk0 n1 f1 pl)).1)])), (p1, .inl (cA.1, 64, .inl ((tf_Waiting_add ud wf1 wf2 wf3 pl ps (tf_Last_says zs0 mk0 n1 f1 pl)).2.1))), (p2, .inl (cA.1, 64, .inl ((tf_Waiting_add ud wf1 wf2 wf3 pl ps (tf_Last_says zs0 mk0 n1 f1 pl)).2.2.1))), (p3, .inl (cA.1, 64, .inl ((tf_Waiting_add ud wf1 wf2 wf3 pl ps (tf_Last_says zs0 mk0 n1 f1 pl)).2.2.2)))] := hD
      refine lv_iload_n hx hb dPK_told_55 rfl (lv_at hl 0 rfl) ?_
      subst hfn
      exact W.zret hx hb hr (nar_bI _) (fun t ht hW => ⟨⟨_, _, rfl, ⟨rfl, rfl⟩, ⟨by rw [ht]; exact hP.sub [0, 4, 5, 6, 7, 1, 2, 3] rfl, va_K.moved hW.alike hK, hD.sub [0, 4, 5, 6, 7, 1, 2, 3] (by decide) rfl⟩⟩, hS.F ht⟩) hS.2.2 dPK_told_56
def of_PK_update_Last_b95 (u1 : Int32) (u2 : Int32) (u3 : Int32) (zs0 : Int32) (mk0 : Int32) (n1 : Nat) (f1 : Nat → Int32) (pl : Int32) (tk : Bool) (v5_b95 : Bool) (s0_b95 : Bool) (w_h0_11_b95 : Int32) (w_h0_6_b95 : Int32) (w_p1_a_b95 : Nat → Int32) (w_p2_a_b95 : Nat → Int32) (w_p3_a_b95 : Nat → Int32) (w_w0_3_b95 : Int32) : Option (Bool × Int32 × Int32 × Int32 × Int32 × Int32 × Int32 × (Nat → Int32) × (Nat → Int32) × (Nat → Int32) × (Nat → Int32)) := (if (bI tk) = 0 then some (v5_b95, (u3 + 0), w_h0_11_b95, w_h0_6_b95, (u1 + 1), (u2 + (bI s0_b95)), w_w0_3_b95, w_p1_a_b95, w_p2_a_b95, w_p3_a_b95, ((tf_Last_learn zs0 mk0 n1 f1 pl tk))) else some (v5_b95, (u3 + 1), w_h0_11_b95, w_h0_6_b95, (u1 + 1), (u2 + (bI s0_b95)), w_w0_3_b95, w_p1_a_b95, w_p2_a_b95, w_p3_a_b95, ((tf_Last_learn zs0 mk0 n1 f1 pl tk))))
def of_PK_update_Last_b49 (ps : Int32) (u1 : Int32) (u2 : Int32) (u3 : Int32) (u4 : Int32) (ud : Int32) (wf1 : Nat → Int32) (wf2 : Nat → Int32) (wf3 : Nat → Int32) (zs0 : Int32) (mk0 : Int32) (n1 : Nat) (f1 : Nat → Int32) (pl : Int32) (tk : Bool) (v3_b49 : Int32) (v4_b49 : Int32) (s0_b49 : Bool) : Option (Bool × Int32 × Int32 × Int32 × Int32 × Int32 × Int32 × (Nat → Int32) × (Nat → Int32) × (Nat → Int32) × (Nat → Int32)) := ((of_PK_settle ps u4 ud wf1 wf2 wf3 v3_b49 v4_b49 tk).bind fun (z_4_0, z_4_1, z_4_2, z_4_3, z_4_4, z_4_5) => (if (bI s0_b49) = 0 then of_PK_update_Last_b95 u1 u2 u3 zs0 mk0 n1 f1 pl tk s0_b49 true z_4_0 z_4_1 z_4_3 z_4_4 z_4_5 z_4_2 else of_PK_update_Last_b95 u1 u2 u3 zs0 mk0 n1 f1 pl tk s0_b49 false z_4_0 z_4_1 z_4_3 z_4_4 z_4_5 z_4_2))
def of_PK_update_Last_b28 (ps : Int32) (u1 : Int32) (u2 : Int32) (u3 : Int32) (u4 : Int32) (ud : Int32) (wf1 : Nat → Int32) (wf2 : Nat → Int32) (wf3 : Nat → Int32) (zs0 : Int32) (mk0 : Int32) (n1 : Nat) (f1 : Nat → Int32) (pl : Int32) (tk : Bool) (v3_b28 : Int32) (s0_b28 : Int32) : Option (Bool × Int32 × Int32 × Int32 × Int32 × Int32 × Int32 × (Nat → Int32) × (Nat → Int32) × (Nat → Int32) × (Nat → Int32)) := (if (bI (tf_Last_says zs0 mk0 n1 f1 pl)) = (bI tk) then of_PK_update_Last_b49 ps u1 u2 u3 u4 ud wf1 wf2 wf3 zs0 mk0 n1 f1 pl tk v3_b28 s0_b28 true else of_PK_update_Last_b49 ps u1 u2 u3 u4 ud wf1 wf2 wf3 zs0 mk0 n1 f1 pl tk v3_b28 s0_b28 false)
def of_PK_update_Last (ps : Int32) (u1 : Int32) (u2 : Int32) (u3 : Int32) (u4 : Int32) (ud : Int32) (wf1 : Nat → Int32) (wf2 : Nat → Int32) (wf3 : Nat → Int32) (zs0 : Int32) (mk0 : Int32) (n1 : Nat) (f1 : Nat → Int32) (pl : Int32) (tk : Bool) : Option (Bool × Int32 × Int32 × Int32 × Int32 × Int32 × Int32 × (Nat → Int32) × (Nat → Int32) × (Nat → Int32) × (Nat → Int32)) := ((of_Waiting_oldestOf ud wf1 pl).bind fun z_1 => (if z_1 < 0 then of_PK_update_Last_b28 ps u1 u2 u3 u4 ud wf1 wf2 wf3 zs0 mk0 n1 f1 pl tk z_1 ps else of_PK_update_Last_b28 ps u1 u2 u3 u4 ud wf1 wf2 wf3 zs0 mk0 n1 f1 pl tk z_1 (tf_Waiting_historyBefore wf2 z_1)))
set_option maxHeartbeats 4000000 in
set_option maxRecDepth 100000 in
theorem c_PK_update_Last (l : Launch) (dC : Nat → ClassId) (dI : Nat → Nat → Nat) (cA : ClassId × ClassId × ClassId) (zz : Nat) (h0 : Nat) (w0 : Nat) (p1 : Nat) (p2 : Nat) (p3 : Nat) (m0 : Nat) (k0 : Nat) (k1 : Nat) (kn : Int32) (sz0 : Int32) (mc0 : Int32) (ps : Int32) (ey : Bool) (u1 : Int32) (u2 : Int32) (u3 : Int32) (u4 : Int32) (ud : Int32) (wf1 : Nat → Int32) (wf2 : Nat → Int32) (wf3 : Nat → Int32) (mf : Nat → Int32) (zs0 : Int32) (rw0 : Int32) (mk0 : Int32) (n1 : Nat) (f1 : Nat → Int32) (pl : Int32) (tk : Bool) (hn1 : n1 < 2147483648) (rs0 : Bool) (rs1 : Int32) (rs2 : Int32) (rs3 : Int32) (rs4 : Int32) (rs5 : Int32) (rs6 : Int32) (rs7 : (Nat → Int32)) (rs8 : (Nat → Int32)) (rs9 : (Nat → Int32)) (rs10 : (Nat → Int32)) (hfn : (of_PK_update_Last ps u1 u2 u3 u4 ud wf1 wf2 wf3 zs0 mk0 n1 f1 pl tk) = some (rs0, rs1, rs2, rs3, rs4, rs5, rs6, rs7, rs8, rs9, rs10)) : Met l yPK_update wPK_update ({ frames := 4, cells := 0, slots := 0, locals := 91 }) (va_Pc [.ref h0, .int pl, .int (bI tk)] (Wr (dC, dI) cA zz [(h0, .inr (10, [.int kn, .int sz0, .ref k0, .ref w0, .ref m0, .int mc0, .int ps, .int (bI ey), .int u1, .int u2, .int u3, .int u4])), (w0, .inr (9, [.ref p1, .ref p2, .ref p3, .int ud])), (p1, .inl (cA.1, 64, .inl wf1)), (p2, .inl (cA.1, 64, .inl wf2)), (p3, .inl (cA.1, 64, .inl wf3)), (m0, .inl (cA.1, 32, .inl mf)), (k0, .inr (4, [.int zs0, .int rw0, .int mk0, .ref k1])), (k1, .inl (cA.1, n1, .inl f1))])) (va_Qi (fun r9 w9 => r9 = (bI (rs0)) ∧ w9 = [(h0, .inr (10, [.int kn, .int sz0, .ref k0, .ref w0, .ref m0, .int mc0, .int rs3, .int (bI ey), .int rs4, .int rs5, .int rs1, .int rs2])), (w0, .inr (9, [.ref p1, .ref p2, .ref p3, .int rs6])), (p1, .inl (cA.1, 64, .inl rs7)), (p2, .inl (cA.1, 64, .inl rs8)), (p3, .inl (cA.1, 64, .inl rs9)), (m0, .inl (cA.1, 32, .inl mf)), (k0, .inr (4, [.int zs0, .int rw0, .int mk0, .ref k1])), (k1, .inl (cA.1, n1, .inl rs10))]) (At (dC, dI) cA (va_A [(h0, .inr (10, [.int kn, .int sz0, .ref k0, .ref w0, .ref m0, .int mc0, .int ps, .int (bI ey), .int u1, .int u2, .int u3, .int u4])), (w0, .inr (9, [.ref p1, .ref p2, .ref p3, .int ud])), (p1, .inl (cA.1, 64, .inl wf1)), (p2, .inl (cA.1, 64, .inl wf2)), (p3, .inl (cA.1, 64, .inl wf3)), (m0, .inl (cA.1, 32, .inl mf)), (k0, .inr (4, [.int zs0, .int rw0, .int mk0, .ref k1])), (k1, .inl (cA.1, n1, .inl f1))] zz)) (va_A [(h0, .inr (10, [.int kn, .int sz0, .ref k0, .ref w0, .ref m0, .int mc0, .int ps, .int (bI ey), .int u1, .int u2, .int u3, .int u4])), (w0, .inr (9, [.ref p1, .ref p2, .ref p3, .int ud])), (p1, .inl (cA.1, 64, .inl wf1)), (p2, .inl (cA.1, 64, .inl wf2)), (p3, .inl (cA.1, 64, .inl wf3)), (m0, .inl (cA.1, 32, .inl mf)), (k0, .inr (4, [.int zs0, .int rw0, .int mk0, .ref k1])), (k1, .inl (cA.1, n1, .inl f1))] zz)) 0 0 (va_A [(h0, .inr (10, [.int kn, .int sz0, .ref k0, .ref w0, .ref m0, .int mc0, .int ps, .int (bI ey), .int u1, .int u2, .int u3, .int u4])), (w0, .inr (9, [.ref p1, .ref p2, .ref p3, .int ud])), (p1, .inl (cA.1, 64, .inl wf1)), (p2, .inl (cA.1, 64, .inl wf2)), (p3, .inl (cA.1, 64, .inl wf3)), (m0, .inl (cA.1, 32, .inl mf)), (k0, .inr (4, [.int zs0, .int rw0, .int mk0, .ref k1])), (k1, .inl (cA.1, n1, .inl f1))] zz) := by
  refine Met.ofW (cc := cPK_update) (maxL := 6) (ret := (some .boolean)) (by decide) rfl ?_
  intro p e s m args below meth c s₁ B hml hv
  obtain ⟨rfl, hsz, hN, hP, hK, hD0⟩ := hv
  have hx := B.exec
  have hb := B.bytes
  have hr := B.returns
  have hts := atoms_spec (ws := wPK_update) B.pre
  have htg : ∀ w ∈ GW, w.before _ s = true := fun w h => hts w (List.mem_cons_of_mem _ h)
  have hown : s.vm.findClass R_PK = some m.cls := findClass_of_methodNamed B.named
  have hlocks := B.notSynchronized
  subst hsz
  have hD := hD0.self (sz := s.heap.size)
  generalize hAe : va_A [(h0, .inr (10, [.int kn, .int sz0, .ref k0, .ref w0, .ref m0, .int mc0, .int ps, .int (bI ey), .int u1, .int u2, .int u3, .int u4])), (w0, .inr (9, [.ref p1, .ref p2, .ref p3, .int ud])), (p1, .inl (cA.1, 64, .inl wf1)), (p2, .inl (cA.1, 64, .inl wf2)), (p3, .inl (cA.1, 64, .inl wf3)), (m0, .inl (cA.1, 32, .inl mf)), (k0, .inr (4, [.int zs0, .int rw0, .int mk0, .ref k1])), (k1, .inl (cA.1, n1, .inl f1))] s.heap.size = A at hD ⊢
  have hA : ∀ q : Nat, s.heap.size ≤ q → A q := fun q h => by rw [← hAe]; exact Or.inr h
  have hS : va_S A s.heap s.heap [] := va_S.rf
  have hP : va_P (dC, dI) vwCl [(h0, .inr (10, [.int kn, .int sz0, .ref k0, .ref w0, .ref m0, .int mc0, .int ps, .int (bI ey), .int u1, .int u2, .int u3, .int u4])), (w0, .inr (9, [.ref p1, .ref p2, .ref p3, .int ud])), (p1, .inl (cA.1, 64, .inl wf1)), (p2, .inl (cA.1, 64, .inl wf2)), (p3, .inl (cA.1, 64, .inl wf3)), (m0, .inl (cA.1, 32, .inl mf)), (k0, .inr (4, [.int zs0, .int rw0, .int mk0, .ref k1])), (k1, .inl (cA.1, n1, .inl f1))] s.heap := hP
  have blk95 : ∀ (rs0 : Bool) (rs1 : Int32) (rs2 : Int32) (rs3 : Int32) (rs4 : Int32) (rs5 : Int32) (rs6 : Int32) (rs7 : (Nat → Int32)) (rs8 : (Nat → Int32)) (rs9 : (Nat → Int32)) (rs10 : (Nat → Int32)) (v5_b95 : Bool) (s0_b95 : Bool) (w_h0_11_b95 : Int32) (w_h0_6_b95 : Int32) (w_p1_a_b95 : Nat → Int32) (w_p2_a_b95 : Nat → Int32) (w_p3_a_b95 : Nat → Int32) (w_w0_3_b95 : Int32) (H : Heap) (locs : List Loc) (ls : Array Slot), of_PK_update_Last_b95 u1 u2 u3 zs0 mk0 n1 f1 pl tk v5_b95 s0_b95 w_h0_11_b95 w_h0_6_b95 w_p1_a_b95 w_p2_a_b95 w_p3_a_b95 w_w0_3_b95 = some (rs0, rs1, rs2, rs3, rs4, rs5, rs6, rs7, rs8, rs9, rs10) → va_P (dC, dI) vwCl [(h0, .inr (10, [.int kn, .int sz0, .ref k0, .ref w0, .ref m0, .int mc0, .int w_h0_6_b95, .int (bI ey), .int (u1 + 1), .int u2, .int u3, .int w_h0_11_b95])), (w0, .inr (9, [.ref p1, .ref p2, .ref p3, .int w_w0_3_b95])), (p1, .inl (cA.1, 64, .inl w_p1_a_b95)), (p2, .inl (cA.1, 64, .inl w_p2_a_b95)), (p3, .inl (cA.1, 64, .inl w_p3_a_b95)), (m0, .inl (cA.1, 32, .inl mf)), (k0, .inr (4, [.int zs0, .int rw0, .int mk0, .ref k1])), (k1, .inl (cA.1, n1, .inl ((tf_Last_learn zs0 mk0 n1 f1 pl tk))))] H → va_D A [(h0, .inr (10, [.int kn, .int sz0, .ref k0, .ref w0, .ref m0, .int mc0, .int w_h0_6_b95, .int (bI ey), .int (u1 + 1), .int u2, .int u3, .int w_h0_11_b95])), (w0, .inr (9, [.ref p1, .ref p2, .ref p3, .int w_w0_3_b95])), (p1, .inl (cA.1, 64, .inl w_p1_a_b95)), (p2, .inl (cA.1, 64, .inl w_p2_a_b95)), (p3, .inl (cA.1, 64, .inl w_p3_a_b95)), (m0, .inl (cA.1, 32, .inl mf)), (k0, .inr (4, [.int zs0, .int rw0, .int mk0, .ref k1])), (k1, .inl (cA.1, n1, .inl ((tf_Last_learn zs0 mk0 n1 f1 pl tk))))] → va_S A s.heap H locs → lv_has ls 6 [(0, .ref h0), (2, .int (bI tk)), (5, .int (bI v5_b95))] → W p l e (headSpec wPK_update ({ frames := 4, cells := 0, slots := 0, locals := 91 })).room s m ([.ref h0, .int pl, .int (bI tk)] : List Value).toArray below meth c H locs 0 0 (MQ below (va_Qi (fun r9 w9 => r9 = (bI (rs0)) ∧ w9 = [(h0, .inr (10, [.int kn, .int sz0, .ref k0, .ref w0, .ref m0, .int mc0, .int rs3, .int (bI ey), .int rs4, .int rs5, .int rs1, .int rs2])), (w0, .inr (9, [.ref p1, .ref p2, .ref p3, .int rs6])), (p1, .inl (cA.1, 64, .inl rs7)), (p2, .inl (cA.1, 64, .inl rs8)), (p3, .inl (cA.1, 64, .inl rs9)), (m0, .inl (cA.1, 32, .inl mf)), (k0, .inr (4, [.int zs0, .int rw0, .int mk0, .ref k1])), (k1, .inl (cA.1, n1, .inl rs10))]) (At (dC, dI) cA A) A) ([.ref h0, .int pl, .int (bI tk)] : List Value).toArray s 0 0 A) (F0 m 95 ls [.int (bI s0_b95), .int u2, .ref h0]) := by
    intro rs0 rs1 rs2 rs3 rs4 rs5 rs6 rs7 rs8 rs9 rs10 v5_b95 s0_b95 w_h0_11_b95 w_h0_6_b95 w_p1_a_b95 w_p2_a_b95 w_p3_a_b95 w_w0_3_b95 H locs ls hfn hP hD hS hl
    unfold of_PK_update_Last_b95 at hfn
    refine lv_iadd hx hb dPK_update_95 ?_
    refine va_put (D := (dC, dI)) (ci := 10) (v := .int (u2 + (bI s0_b95))) (ty := .int) (C := R_PK) (T := T_PK) (N := 12) hx hb htg in_PK ty_PK tk_PK nm_PK hown hK hP hD hS 0 rfl rfl 9 (by decide) (htg _ wd_271) (fun _ h9 => h9) rfl (by decide +kernel) rfl rfl (Nat.le_of_ble_eq_true rfl) dPK_update_96 (fun H locs hP hD hS => ?_)
    have hP : va_P (dC, dI) vwCl [(h0, .inr (10, [.int kn, .int sz0, .ref k0, .ref w0, .ref m0, .int mc0, .int w_h0_6_b95, .int (bI ey), .int (u1 + 1), .int (u2 + (bI s0_b95)), .int u3, .int w_h0_11_b95])), (w0, .inr (9, [.ref p1, .ref p2, .ref p3, .int w_w0_3_b95])), (p1, .inl (cA.1, 64, .inl w_p1_a_b95)), (p2, .inl (cA.1, 64, .inl w_p2_a_b95)), (p3, .inl (cA.1, 64, .inl w_p3_a_b95)), (m0, .inl (cA.1, 32, .inl mf)), (k0, .inr (4, [.int zs0, .int rw0, .int mk0, .ref k1])), (k1, .inl (cA.1, n1, .inl ((tf_Last_learn zs0 mk0 n1 f1 pl tk))))] H := hP
    have hD : va_D A [(h0, .inr (10, [.int kn, .int sz0, .ref k0, .ref w0, .ref m0, .int mc0, .int w_h0_6_b95, .int (bI ey), .int (u1 + 1), .int (u2 + (bI s0_b95)), .int u3, .int w_h0_11_b95])), (w0, .inr (9, [.ref p1, .ref p2, .ref p3, .int w_w0_3_b95])), (p1, .inl (cA.1, 64, .inl w_p1_a_b95)), (p2, .inl (cA.1, 64, .inl w_p2_a_b95)), (p3, .inl (cA.1, 64, .inl w_p3_a_b95)), (m0, .inl (cA.1, 32, .inl mf)), (k0, .inr (4, [.int zs0, .int rw0, .int mk0, .ref k1])), (k1, .inl (cA.1, n1, .inl ((tf_Last_learn zs0 mk0 n1 f1 pl tk))))] := hD
    refine lv_aload_n hx hb dPK_update_99 rfl (lv_at hl 0 rfl) ?_
    refine lv_dup hx hb dPK_update_100 rfl ?_
    refine va_get (D := (dC, dI)) (ci := 10) (v := .int u3) (C := R_PK) (T := T_PK) (N := 12) hx hb htg in_PK hown hK hP 0 rfl rfl 10 (by decide) (htg _ wd_272) (fun _ h9 => h9) rfl dPK_update_101 ?_
    refine lv_iload_n hx hb dPK_update_104 rfl (lv_at hl 1 rfl) ?_
    refine lv_if_eq (tgt := 112) hx hb dPK_update_105 (by decide) (fun c_6 => ?_) (fun c_6 => ?_)
    · rw [if_pos c_6] at hfn
      refine lv_iconst (v := 0) hx hb dPK_update_112 (by decide) ?_
      refine lv_iadd hx hb dPK_update_113 ?_
      refine va_put (D := (dC, dI)) (ci := 10) (v := .int (u3 + 0)) (ty := .int) (C := R_PK) (T := T_PK) (N := 12) hx hb htg in_PK ty_PK tk_PK nm_PK hown hK hP hD hS 0 rfl rfl 10 (by decide) (htg _ wd_272) (fun _ h9 => h9) rfl (by decide +kernel) rfl rfl (Nat.le_of_ble_eq_true rfl) dPK_update_114 (fun H locs hP hD hS => ?_)
      have hP : va_P (dC, dI) vwCl [(h0, .inr (10, [.int kn, .int sz0, .ref k0, .ref w0, .ref m0, .int mc0, .int w_h0_6_b95, .int (bI ey), .int (u1 + 1), .int (u2 + (bI s0_b95)), .int (u3 + 0), .int w_h0_11_b95])), (w0, .inr (9, [.ref p1, .ref p2, .ref p3, .int w_w0_3_b95])), (p1, .inl (cA.1, 64, .inl w_p1_a_b95)), (p2, .inl (cA.1, 64, .inl w_p2_a_b95)), (p3, .inl (cA.1, 64, .inl w_p3_a_b95)), (m0, .inl (cA.1, 32, .inl mf)), (k0, .inr (4, [.int zs0, .int rw0, .int mk0, .ref k1])), (k1, .inl (cA.1, n1, .inl ((tf_Last_learn zs0 mk0 n1 f1 pl tk))))] H := hP
      have hD : va_D A [(h0, .inr (10, [.int kn, .int sz0, .ref k0, .ref w0, .ref m0, .int mc0, .int w_h0_6_b95, .int (bI ey), .int (u1 + 1), .int (u2 + (bI s0_b95)), .int (u3 + 0), .int w_h0_11_b95])), (w0, .inr (9, [.ref p1, .ref p2, .ref p3, .int w_w0_3_b95])), (p1, .inl (cA.1, 64, .inl w_p1_a_b95)), (p2, .inl (cA.1, 64, .inl w_p2_a_b95)), (p3, .inl (cA.1, 64, .inl w_p3_a_b95)), (m0, .inl (cA.1, 32, .inl mf)), (k0, .inr (4, [.int zs0, .int rw0, .int mk0, .ref k1])), (k1, .inl (cA.1, n1, .inl ((tf_Last_learn zs0 mk0 n1 f1 pl tk))))] := hD
      refine lv_iload hx hb dPK_update_117 (lv_at hl 2 rfl) ?_
      replace hfn := Option.some.inj hfn
      obtain ⟨e9, hf_0⟩ := Prod.mk.inj hfn; clear hfn; subst e9
      obtain ⟨e9, hf_1⟩ := Prod.mk.inj hf_0; clear hf_0; subst e9
      obtain ⟨e9, hf_2⟩ := Prod.mk.inj hf_1; clear hf_1; subst e9
      obtain ⟨e9, hf_3⟩ := Prod.mk.inj hf_2; clear hf_2; subst e9
      obtain ⟨e9, hf_4⟩ := Prod.mk.inj hf_3; clear hf_3; subst e9
      obtain ⟨e9, hf_5⟩ := Prod.mk.inj hf_4; clear hf_4; subst e9
      obtain ⟨e9, hf_6⟩ := Prod.mk.inj hf_5; clear hf_5; subst e9
      obtain ⟨e9, hf_7⟩ := Prod.mk.inj hf_6; clear hf_6; subst e9
      obtain ⟨e9, hf_8⟩ := Prod.mk.inj hf_7; clear hf_7; subst e9
      obtain ⟨e9, hf_9⟩ := Prod.mk.inj hf_8; clear hf_8; subst e9
      subst hf_9
      exact W.zret hx hb hr (nar_bI _) (fun t ht hW => ⟨⟨_, _, rfl, ⟨rfl, rfl⟩, ⟨by rw [ht]; exact hP.sub [0, 1, 2, 3, 4, 5, 6, 7] rfl, va_K.moved hW.alike hK, hD.sub [0, 1, 2, 3, 4, 5, 6, 7] (by decide) rfl⟩⟩, hS.F ht⟩) hS.2.2 dPK_update_119
    · rw [if_neg c_6] at hfn
      refine lv_iconst (v := 1) hx hb dPK_update_108 (by decide) ?_
      refine lv_goto (tgt := 113) hx hb dPK_update_109 (by decide) ?_
      refine lv_iadd hx hb dPK_update_113 ?_
      refine va_put (D := (dC, dI)) (ci := 10) (v := .int (u3 + 1)) (ty := .int) (C := R_PK) (T := T_PK) (N := 12) hx hb htg in_PK ty_PK tk_PK nm_PK hown hK hP hD hS 0 rfl rfl 10 (by decide) (htg _ wd_272) (fun _ h9 => h9) rfl (by decide +kernel) rfl rfl (Nat.le_of_ble_eq_true rfl) dPK_update_114 (fun H locs hP hD hS => ?_)
      have hP : va_P (dC, dI) vwCl [(h0, .inr (10, [.int kn, .int sz0, .ref k0, .ref w0, .ref m0, .int mc0, .int w_h0_6_b95, .int (bI ey), .int (u1 + 1), .int (u2 + (bI s0_b95)), .int (u3 + 1), .int w_h0_11_b95])), (w0, .inr (9, [.ref p1, .ref p2, .ref p3, .int w_w0_3_b95])), (p1, .inl (cA.1, 64, .inl w_p1_a_b95)), (p2, .inl (cA.1, 64, .inl w_p2_a_b95)), (p3, .inl (cA.1, 64, .inl w_p3_a_b95)), (m0, .inl (cA.1, 32, .inl mf)), (k0, .inr (4, [.int zs0, .int rw0, .int mk0, .ref k1])), (k1, .inl (cA.1, n1, .inl ((tf_Last_learn zs0 mk0 n1 f1 pl tk))))] H := hP
      have hD : va_D A [(h0, .inr (10, [.int kn, .int sz0, .ref k0, .ref w0, .ref m0, .int mc0, .int w_h0_6_b95, .int (bI ey), .int (u1 + 1), .int (u2 + (bI s0_b95)), .int (u3 + 1), .int w_h0_11_b95])), (w0, .inr (9, [.ref p1, .ref p2, .ref p3, .int w_w0_3_b95])), (p1, .inl (cA.1, 64, .inl w_p1_a_b95)), (p2, .inl (cA.1, 64, .inl w_p2_a_b95)), (p3, .inl (cA.1, 64, .inl w_p3_a_b95)), (m0, .inl (cA.1, 32, .inl mf)), (k0, .inr (4, [.int zs0, .int rw0, .int mk0, .ref k1])), (k1, .inl (cA.1, n1, .inl ((tf_Last_learn zs0 mk0 n1 f1 pl tk))))] := hD
      refine lv_iload hx hb dPK_update_117 (lv_at hl 2 rfl) ?_
      replace hfn := Option.some.inj hfn
      obtain ⟨e9, hf_0⟩ := Prod.mk.inj hfn; clear hfn; subst e9
      obtain ⟨e9, hf_1⟩ := Prod.mk.inj hf_0; clear hf_0; subst e9
      obtain ⟨e9, hf_2⟩ := Prod.mk.inj hf_1; clear hf_1; subst e9
      obtain ⟨e9, hf_3⟩ := Prod.mk.inj hf_2; clear hf_2; subst e9
      obtain ⟨e9, hf_4⟩ := Prod.mk.inj hf_3; clear hf_3; subst e9
      obtain ⟨e9, hf_5⟩ := Prod.mk.inj hf_4; clear hf_4; subst e9
      obtain ⟨e9, hf_6⟩ := Prod.mk.inj hf_5; clear hf_5; subst e9
      obtain ⟨e9, hf_7⟩ := Prod.mk.inj hf_6; clear hf_6; subst e9
      obtain ⟨e9, hf_8⟩ := Prod.mk.inj hf_7; clear hf_7; subst e9
      obtain ⟨e9, hf_9⟩ := Prod.mk.inj hf_8; clear hf_8; subst e9
      subst hf_9
      exact W.zret hx hb hr (nar_bI _) (fun t ht hW => ⟨⟨_, _, rfl, ⟨rfl, rfl⟩, ⟨by rw [ht]; exact hP.sub [0, 1, 2, 3, 4, 5, 6, 7] rfl, va_K.moved hW.alike hK, hD.sub [0, 1, 2, 3, 4, 5, 6, 7] (by decide) rfl⟩⟩, hS.F ht⟩) hS.2.2 dPK_update_119
  have blk49 : ∀ (rs0 : Bool) (rs1 : Int32) (rs2 : Int32) (rs3 : Int32) (rs4 : Int32) (rs5 : Int32) (rs6 : Int32) (rs7 : (Nat → Int32)) (rs8 : (Nat → Int32)) (rs9 : (Nat → Int32)) (rs10 : (Nat → Int32)) (v3_b49 : Int32) (v4_b49 : Int32) (s0_b49 : Bool) (H : Heap) (locs : List Loc) (ls : Array Slot), of_PK_update_Last_b49 ps u1 u2 u3 u4 ud wf1 wf2 wf3 zs0 mk0 n1 f1 pl tk v3_b49 v4_b49 s0_b49 = some (rs0, rs1, rs2, rs3, rs4, rs5, rs6, rs7, rs8, rs9, rs10) → va_P (dC, dI) vwCl [(h0, .inr (10, [.int kn, .int sz0, .ref k0, .ref w0, .ref m0, .int mc0, .int ps, .int (bI ey), .int u1, .int u2, .int u3, .int u4])), (w0, .inr (9, [.ref p1, .ref p2, .ref p3, .int ud])), (p1, .inl (cA.1, 64, .inl wf1)), (p2, .inl (cA.1, 64, .inl wf2)), (p3, .inl (cA.1, 64, .inl wf3)), (m0, .inl (cA.1, 32, .inl mf)), (k0, .inr (4, [.int zs0, .int rw0, .int mk0, .ref k1])), (k1, .inl (cA.1, n1, .inl f1))] H → va_D A [(h0, .inr (10, [.int kn, .int sz0, .ref k0, .ref w0, .ref m0, .int mc0, .int ps, .int (bI ey), .int u1, .int u2, .int u3, .int u4])), (w0, .inr (9, [.ref p1, .ref p2, .ref p3, .int ud])), (p1, .inl (cA.1, 64, .inl wf1)), (p2, .inl (cA.1, 64, .inl wf2)), (p3, .inl (cA.1, 64, .inl wf3)), (m0, .inl (cA.1, 32, .inl mf)), (k0, .inr (4, [.int zs0, .int rw0, .int mk0, .ref k1])), (k1, .inl (cA.1, n1, .inl f1))] → va_S A s.heap H locs → lv_has ls 6 [(0, .ref h0), (1, .int pl), (2, .int (bI tk)), (3, .int v3_b49), (4, .int v4_b49)] → W p l e (headSpec wPK_update ({ frames := 4, cells := 0, slots := 0, locals := 91 })).room s m ([.ref h0, .int pl, .int (bI tk)] : List Value).toArray below meth c H locs 0 0 (MQ below (va_Qi (fun r9 w9 => r9 = (bI (rs0)) ∧ w9 = [(h0, .inr (10, [.int kn, .int sz0, .ref k0, .ref w0, .ref m0, .int mc0, .int rs3, .int (bI ey), .int rs4, .int rs5, .int rs1, .int rs2])), (w0, .inr (9, [.ref p1, .ref p2, .ref p3, .int rs6])), (p1, .inl (cA.1, 64, .inl rs7)), (p2, .inl (cA.1, 64, .inl rs8)), (p3, .inl (cA.1, 64, .inl rs9)), (m0, .inl (cA.1, 32, .inl mf)), (k0, .inr (4, [.int zs0, .int rw0, .int mk0, .ref k1])), (k1, .inl (cA.1, n1, .inl rs10))]) (At (dC, dI) cA A) A) ([.ref h0, .int pl, .int (bI tk)] : List Value).toArray s 0 0 A) (F0 m 49 ls [.int (bI s0_b49)]) := by
    intro rs0 rs1 rs2 rs3 rs4 rs5 rs6 rs7 rs8 rs9 rs10 v3_b49 v4_b49 s0_b49 H locs ls hfn hP hD hS hl
    unfold of_PK_update_Last_b49 at hfn
    refine lv_istore (lv' := [(5, .int (bI s0_b49)), (0, .ref h0), (1, .int pl), (2, .int (bI tk)), (3, .int v3_b49), (4, .int v4_b49)]) hx hb dPK_update_49 hl (by decide) rfl (fun ls hl => ?_)
    refine lv_aload_n hx hb dPK_update_51 rfl (lv_at hl 1 rfl) ?_
    refine va_get (D := (dC, dI)) (ci := 10) (v := .ref k0) (C := R_PK) (T := T_PK) (N := 12) hx hb htg in_PK hown hK hP 0 rfl rfl 2 (by decide) (htg _ wd_264) (fun _ h9 => h9) rfl dPK_update_52 ?_
    refine lv_iload_n hx hb dPK_update_55 rfl (lv_at hl 2 rfl) ?_
    refine lv_iload hx hb dPK_update_56 (lv_at hl 5 rfl) ?_
    refine lv_iload_n hx hb dPK_update_58 rfl (lv_at hl 3 rfl) ?_
    refine wr_Uv (wr := [(h0, .inr (10, [.int kn, .int sz0, .ref k0, .ref w0, .ref m0, .int mc0, .int ps, .int (bI ey), .int u1, .int u2, .int u3, .int u4])), (w0, .inr (9, [.ref p1, .ref p2, .ref p3, .int ud])), (p1, .inl (cA.1, 64, .inl wf1)), (p2, .inl (cA.1, 64, .inl wf2)), (p3, .inl (cA.1, 64, .inl wf3)), (m0, .inl (cA.1, 32, .inl mf))]) (As := [.int pl, .int v4_b49, .int (bI tk)]) (rest := []) ⟨hx, hb, hml, hown, htg⟩ (c_Last_learn l dC dI cA _ k0 k1 zs0 rw0 mk0 n1 f1 pl v4_b49 tk hn1) (cw_U (n := 3) htg wd_461 wd_463 wd_488 qLast_learn iLast_learn kLast_learn (va_Decl.abs (hN _ wn_462)) (by decide +kernel) (by decide +kernel) rfl rfl ⟨Nat.le_of_ble_eq_true rfl, Nat.le_of_ble_eq_true rfl⟩) (va_recv hK hP (ci := 4) (q0 := 6) rfl rfl) hN hP hD hS hA hK [6, 7] [0, 1, 2, 3, 4, 5] rfl rfl (by decide) (by decide) (by decide) rfl hl.1 rfl (Nat.le_of_ble_eq_true rfl) dPK_update_59 ⟨Nat.le_of_ble_eq_true rfl, Nat.le_of_ble_eq_true rfl⟩ (fun H locs hP hD hS => ?_)
    have hP : va_P (dC, dI) vwCl [(h0, .inr (10, [.int kn, .int sz0, .ref k0, .ref w0, .ref m0, .int mc0, .int ps, .int (bI ey), .int u1, .int u2, .int u3, .int u4])), (w0, .inr (9, [.ref p1, .ref p2, .ref p3, .int ud])), (p1, .inl (cA.1, 64, .inl wf1)), (p2, .inl (cA.1, 64, .inl wf2)), (p3, .inl (cA.1, 64, .inl wf3)), (m0, .inl (cA.1, 32, .inl mf)), (k0, .inr (4, [.int zs0, .int rw0, .int mk0, .ref k1])), (k1, .inl (cA.1, n1, .inl ((tf_Last_learn zs0 mk0 n1 f1 pl tk))))] H := hP
    have hD : va_D A [(h0, .inr (10, [.int kn, .int sz0, .ref k0, .ref w0, .ref m0, .int mc0, .int ps, .int (bI ey), .int u1, .int u2, .int u3, .int u4])), (w0, .inr (9, [.ref p1, .ref p2, .ref p3, .int ud])), (p1, .inl (cA.1, 64, .inl wf1)), (p2, .inl (cA.1, 64, .inl wf2)), (p3, .inl (cA.1, 64, .inl wf3)), (m0, .inl (cA.1, 32, .inl mf)), (k0, .inr (4, [.int zs0, .int rw0, .int mk0, .ref k1])), (k1, .inl (cA.1, n1, .inl ((tf_Last_learn zs0 mk0 n1 f1 pl tk))))] := hD
    refine lv_aload_n hx hb dPK_update_62 rfl (lv_at hl 1 rfl) ?_
    refine lv_iload_n hx hb dPK_update_63 rfl (lv_at hl 4 rfl) ?_
    refine lv_iload hx hb dPK_update_64 (lv_at hl 5 rfl) ?_
    refine lv_iload_n hx hb dPK_update_66 rfl (lv_at hl 3 rfl) ?_
    obtain ⟨⟨z_4_0, z_4_1, z_4_2, z_4_3, z_4_4, z_4_5⟩, hz_4, hfn⟩ := ob hfn
    dsimp only at hfn
    refine wr_Vv (wr := [(k0, .inr (4, [.int zs0, .int rw0, .int mk0, .ref k1])), (k1, .inl (cA.1, n1, .inl ((tf_Last_learn zs0 mk0 n1 f1 pl tk))))]) (As := [.int v3_b49, .int v4_b49, .int (bI tk)]) (rest := []) ⟨hx, hb, hml, hown, htg⟩ (c_PK_settle l dC dI cA _ h0 w0 p1 p2 p3 m0 k0 kn sz0 mc0 ps ey u1 u2 u3 u4 ud wf1 wf2 wf3 mf v3_b49 v4_b49 tk z_4_0 z_4_1 z_4_2 z_4_3 z_4_4 z_4_5 hz_4) (cw_V htg wd_537 ws_16 qPK_settle iPK_settle kPK_settle pPK_settle rfl rfl ⟨Nat.le_of_ble_eq_true rfl, Nat.le_of_ble_eq_true rfl⟩) (va_recv hK hP (ci := 10) (q0 := 0) rfl rfl) hN hP hD hS hA hK [0, 1, 2, 3, 4, 5] [6, 7] rfl rfl (by decide) (by decide) (by decide) rfl hl.1 rfl (Nat.le_of_ble_eq_true rfl) dPK_update_67 ⟨Nat.le_of_ble_eq_true rfl, Nat.le_of_ble_eq_true rfl⟩ (fun H locs hP hD hS => ?_)
    have hP : va_P (dC, dI) vwCl [(k0, .inr (4, [.int zs0, .int rw0, .int mk0, .ref k1])), (k1, .inl (cA.1, n1, .inl ((tf_Last_learn zs0 mk0 n1 f1 pl tk)))), (h0, .inr (10, [.int kn, .int sz0, .ref k0, .ref w0, .ref m0, .int mc0, .int z_4_1, .int (bI ey), .int u1, .int u2, .int u3, .int z_4_0])), (w0, .inr (9, [.ref p1, .ref p2, .ref p3, .int z_4_2])), (p1, .inl (cA.1, 64, .inl z_4_3)), (p2, .inl (cA.1, 64, .inl z_4_4)), (p3, .inl (cA.1, 64, .inl z_4_5)), (m0, .inl (cA.1, 32, .inl mf))] H := hP
    have hD : va_D A [(k0, .inr (4, [.int zs0, .int rw0, .int mk0, .ref k1])), (k1, .inl (cA.1, n1, .inl ((tf_Last_learn zs0 mk0 n1 f1 pl tk)))), (h0, .inr (10, [.int kn, .int sz0, .ref k0, .ref w0, .ref m0, .int mc0, .int z_4_1, .int (bI ey), .int u1, .int u2, .int u3, .int z_4_0])), (w0, .inr (9, [.ref p1, .ref p2, .ref p3, .int z_4_2])), (p1, .inl (cA.1, 64, .inl z_4_3)), (p2, .inl (cA.1, 64, .inl z_4_4)), (p3, .inl (cA.1, 64, .inl z_4_5)), (m0, .inl (cA.1, 32, .inl mf))] := hD
    refine lv_aload_n hx hb dPK_update_70 rfl (lv_at hl 1 rfl) ?_
    refine lv_dup hx hb dPK_update_71 rfl ?_
    refine va_get (D := (dC, dI)) (ci := 10) (v := .int u1) (C := R_PK) (T := T_PK) (N := 12) hx hb htg in_PK hown hK hP 2 rfl rfl 8 (by decide) (htg _ wd_270) (fun _ h9 => h9) rfl dPK_update_72 ?_
    refine lv_iconst (v := 1) hx hb dPK_update_75 (by decide) ?_
    refine lv_iadd hx hb dPK_update_76 ?_
    refine va_put (D := (dC, dI)) (ci := 10) (v := .int (u1 + 1)) (ty := .int) (C := R_PK) (T := T_PK) (N := 12) hx hb htg in_PK ty_PK tk_PK nm_PK hown hK hP hD hS 2 rfl rfl 8 (by decide) (htg _ wd_270) (fun _ h9 => h9) rfl (by decide +kernel) rfl rfl (Nat.le_of_ble_eq_true rfl) dPK_update_77 (fun H locs hP hD hS => ?_)
    have hP : va_P (dC, dI) vwCl [(k0, .inr (4, [.int zs0, .int rw0, .int mk0, .ref k1])), (k1, .inl (cA.1, n1, .inl ((tf_Last_learn zs0 mk0 n1 f1 pl tk)))), (h0, .inr (10, [.int kn, .int sz0, .ref k0, .ref w0, .ref m0, .int mc0, .int z_4_1, .int (bI ey), .int (u1 + 1), .int u2, .int u3, .int z_4_0])), (w0, .inr (9, [.ref p1, .ref p2, .ref p3, .int z_4_2])), (p1, .inl (cA.1, 64, .inl z_4_3)), (p2, .inl (cA.1, 64, .inl z_4_4)), (p3, .inl (cA.1, 64, .inl z_4_5)), (m0, .inl (cA.1, 32, .inl mf))] H := hP
    have hD : va_D A [(k0, .inr (4, [.int zs0, .int rw0, .int mk0, .ref k1])), (k1, .inl (cA.1, n1, .inl ((tf_Last_learn zs0 mk0 n1 f1 pl tk)))), (h0, .inr (10, [.int kn, .int sz0, .ref k0, .ref w0, .ref m0, .int mc0, .int z_4_1, .int (bI ey), .int (u1 + 1), .int u2, .int u3, .int z_4_0])), (w0, .inr (9, [.ref p1, .ref p2, .ref p3, .int z_4_2])), (p1, .inl (cA.1, 64, .inl z_4_3)), (p2, .inl (cA.1, 64, .inl z_4_4)), (p3, .inl (cA.1, 64, .inl z_4_5)), (m0, .inl (cA.1, 32, .inl mf))] := hD
    refine lv_aload_n hx hb dPK_update_80 rfl (lv_at hl 1 rfl) ?_
    refine lv_dup hx hb dPK_update_81 rfl ?_
    refine va_get (D := (dC, dI)) (ci := 10) (v := .int u2) (C := R_PK) (T := T_PK) (N := 12) hx hb htg in_PK hown hK hP 2 rfl rfl 9 (by decide) (htg _ wd_271) (fun _ h9 => h9) rfl dPK_update_82 ?_
    refine lv_iload hx hb dPK_update_85 (lv_at hl 0 rfl) ?_
    refine lv_if_eq (tgt := 94) hx hb dPK_update_87 (by decide) (fun c_5 => ?_) (fun c_5 => ?_)
    · rw [if_pos c_5] at hfn
      refine lv_iconst (v := 1) hx hb dPK_update_94 (by decide) ?_
      exact blk95 _ _ _ _ _ _ _ _ _ _ _ s0_b49 true z_4_0 z_4_1 z_4_3 z_4_4 z_4_5 z_4_2 _ _ ls hfn (hP.sub [2, 3, 4, 5, 6, 7, 0, 1] rfl) (hD.sub [2, 3, 4, 5, 6, 7, 0, 1] (by decide) rfl) hS (lv_sub hl [1, 3, 0] rfl)
    · rw [if_neg c_5] at hfn
      refine lv_iconst (v := 0) hx hb dPK_update_90 (by decide) ?_
      refine lv_goto (tgt := 95) hx hb dPK_update_91 (by decide) ?_
      exact blk95 _ _ _ _ _ _ _ _ _ _ _ s0_b49 false z_4_0 z_4_1 z_4_3 z_4_4 z_4_5 z_4_2 _ _ ls hfn (hP.sub [2, 3, 4, 5, 6, 7, 0, 1] rfl) (hD.sub [2, 3, 4, 5, 6, 7, 0, 1] (by decide) rfl) hS (lv_sub hl [1, 3, 0] rfl)
  have blk28 : ∀ (rs0 : Bool) (rs1 : Int32) (rs2 : Int32) (rs3 : Int32) (rs4 : Int32) (rs5 : Int32) (rs6 : Int32) (rs7 : (Nat → Int32)) (rs8 : (Nat → Int32)) (rs9 : (Nat → Int32)) (rs10 : (Nat → Int32)) (v3_b28 : Int32) (s0_b28 : Int32) (H : Heap) (locs : List Loc) (ls : Array Slot), of_PK_update_Last_b28 ps u1 u2 u3 u4 ud wf1 wf2 wf3 zs0 mk0 n1 f1 pl tk v3_b28 s0_b28 = some (rs0, rs1, rs2, rs3, rs4, rs5, rs6, rs7, rs8, rs9, rs10) → va_P (dC, dI) vwCl [(h0, .inr (10, [.int kn, .int sz0, .ref k0, .ref w0, .ref m0, .int mc0, .int ps, .int (bI ey), .int u1, .int u2, .int u3, .int u4])), (w0, .inr (9, [.ref p1, .ref p2, .ref p3, .int ud])), (p1, .inl (cA.1, 64, .inl wf1)), (p2, .inl (cA.1, 64, .inl wf2)), (p3, .inl (cA.1, 64, .inl wf3)), (m0, .inl (cA.1, 32, .inl mf)), (k0, .inr (4, [.int zs0, .int rw0, .int mk0, .ref k1])), (k1, .inl (cA.1, n1, .inl f1))] H → va_D A [(h0, .inr (10, [.int kn, .int sz0, .ref k0, .ref w0, .ref m0, .int mc0, .int ps, .int (bI ey), .int u1, .int u2, .int u3, .int u4])), (w0, .inr (9, [.ref p1, .ref p2, .ref p3, .int ud])), (p1, .inl (cA.1, 64, .inl wf1)), (p2, .inl (cA.1, 64, .inl wf2)), (p3, .inl (cA.1, 64, .inl wf3)), (m0, .inl (cA.1, 32, .inl mf)), (k0, .inr (4, [.int zs0, .int rw0, .int mk0, .ref k1])), (k1, .inl (cA.1, n1, .inl f1))] → va_S A s.heap H locs → lv_has ls 6 [(0, .ref h0), (1, .int pl), (2, .int (bI tk)), (3, .int v3_b28)] → W p l e (headSpec wPK_update ({ frames := 4, cells := 0, slots := 0, locals := 91 })).room s m ([.ref h0, .int pl, .int (bI tk)] : List Value).toArray below meth c H locs 0 0 (MQ below (va_Qi (fun r9 w9 => r9 = (bI (rs0)) ∧ w9 = [(h0, .inr (10, [.int kn, .int sz0, .ref k0, .ref w0, .ref m0, .int mc0, .int rs3, .int (bI ey), .int rs4, .int rs5, .int rs1, .int rs2])), (w0, .inr (9, [.ref p1, .ref p2, .ref p3, .int rs6])), (p1, .inl (cA.1, 64, .inl rs7)), (p2, .inl (cA.1, 64, .inl rs8)), (p3, .inl (cA.1, 64, .inl rs9)), (m0, .inl (cA.1, 32, .inl mf)), (k0, .inr (4, [.int zs0, .int rw0, .int mk0, .ref k1])), (k1, .inl (cA.1, n1, .inl rs10))]) (At (dC, dI) cA A) A) ([.ref h0, .int pl, .int (bI tk)] : List Value).toArray s 0 0 A) (F0 m 28 ls [.int s0_b28]) := by
    intro rs0 rs1 rs2 rs3 rs4 rs5 rs6 rs7 rs8 rs9 rs10 v3_b28 s0_b28 H locs ls hfn hP hD hS hl
    unfold of_PK_update_Last_b28 at hfn
    refine lv_istore (lv' := [(4, .int s0_b28), (0, .ref h0), (1, .int pl), (2, .int (bI tk)), (3, .int v3_b28)]) hx hb dPK_update_28 hl (by decide) rfl (fun ls hl => ?_)
    refine lv_aload_n hx hb dPK_update_30 rfl (lv_at hl 1 rfl) ?_
    refine va_get (D := (dC, dI)) (ci := 10) (v := .ref k0) (C := R_PK) (T := T_PK) (N := 12) hx hb htg in_PK hown hK hP 0 rfl rfl 2 (by decide) (htg _ wd_264) (fun _ h9 => h9) rfl dPK_update_31 ?_
    refine lv_iload_n hx hb dPK_update_34 rfl (lv_at hl 2 rfl) ?_
    refine lv_iload hx hb dPK_update_35 (lv_at hl 0 rfl) ?_
    refine rd_U (As := [.int pl, .int s0_b28]) (rest := []) ⟨hx, hb, hml, hown, htg⟩ (c_Last_says l dC dI cA k0 k1 zs0 rw0 mk0 n1 f1 pl s0_b28 hn1) (cw_U (n := 2) htg wd_303 wd_305 wd_344 qLast_says iLast_says kLast_says (va_Decl.abs (hN _ wn_304)) (by decide +kernel) (by decide +kernel) rfl rfl ⟨Nat.le_of_ble_eq_true rfl, Nat.le_of_ble_eq_true rfl⟩) (va_recv hK hP (ci := 4) (q0 := 6) rfl rfl) hN (hP.sub [6, 7] rfl) hK rfl hl.1 rfl (Nat.le_of_ble_eq_true rfl) dPK_update_37 ⟨Nat.le_of_ble_eq_true rfl, Nat.le_of_ble_eq_true rfl⟩ ?_
    refine lv_iload_n hx hb dPK_update_40 rfl (lv_at hl 3 rfl) ?_
    refine lv_icmp_ne (tgt := 48) hx hb dPK_update_41 (by decide) (fun c_3 => ?_) (fun c_3 => ?_)
    · rw [if_neg c_3] at hfn
      refine lv_iconst (v := 0) hx hb dPK_update_48 (by decide) ?_
      exact blk49 _ _ _ _ _ _ _ _ _ _ _ v3_b28 s0_b28 false _ _ ls hfn (hP.sub [0, 1, 2, 3, 4, 5, 6, 7] rfl) (hD.sub [0, 1, 2, 3, 4, 5, 6, 7] (by decide) rfl) hS (lv_sub hl [1, 2, 3, 4, 0] rfl)
    · rw [if_pos c_3] at hfn
      refine lv_iconst (v := 1) hx hb dPK_update_44 (by decide) ?_
      refine lv_goto (tgt := 49) hx hb dPK_update_45 (by decide) ?_
      exact blk49 _ _ _ _ _ _ _ _ _ _ _ v3_b28 s0_b28 true _ _ ls hfn (hP.sub [0, 1, 2, 3, 4, 5, 6, 7] rfl) (hD.sub [0, 1, 2, 3, 4, 5, 6, 7] (by decide) rfl) hS (lv_sub hl [1, 2, 3, 4, 0] rfl)
  have hl := lv_entry ([.ref h0, .int pl, .int (bI tk)]) (n := 6) (Nat.le_of_ble_eq_true rfl)
  rw [lg_entry_eq]
  generalize (lg_sl ([.ref h0, .int pl, .int (bI tk)]) ++ List.replicate (6 - (lg_sl ([.ref h0, .int pl, .int (bI tk)])).length) Slot.unset).toArray = ls at hl ⊢
  have hl : lv_has ls 6 [(0, .ref h0), (1, .int pl), (2, .int (bI tk))] := hl
  unfold of_PK_update_Last at hfn
  refine lv_aload_n hx hb dPK_update_0 rfl (lv_at hl 0 rfl) ?_
  refine va_get (D := (dC, dI)) (ci := 10) (v := .ref w0) (C := R_PK) (T := T_PK) (N := 12) hx hb htg in_PK hown hK hP 0 rfl rfl 3 (by decide) (htg _ wd_265) (fun _ h9 => h9) rfl dPK_update_1 ?_
  refine lv_iload_n hx hb dPK_update_4 rfl (lv_at hl 1 rfl) ?_
  obtain ⟨z_1, hz_1, hfn⟩ := ob hfn
  refine rd_V (As := [.int pl]) (rest := []) ⟨hx, hb, hml, hown, htg⟩ (c_Waiting_oldestOf l dC dI cA w0 p1 p2 p3 ud wf1 wf2 wf3 pl z_1 hz_1) (cw_V htg wd_452 wd_454 qWaiting_oldestOf iWaiting_oldestOf kWaiting_oldestOf pWaiting_oldestOf rfl rfl ⟨Nat.le_of_ble_eq_true rfl, Nat.le_of_ble_eq_true rfl⟩) (va_recv hK hP (ci := 9) (q0 := 1) rfl rfl) hN (hP.sub [1, 2, 3, 4] rfl) hK rfl hl.1 rfl (Nat.le_of_ble_eq_true rfl) dPK_update_5 ⟨Nat.le_of_ble_eq_true rfl, Nat.le_of_ble_eq_true rfl⟩ ?_
  refine lv_istore_n (lv' := [(3, .int z_1), (0, .ref h0), (1, .int pl), (2, .int (bI tk))]) hx hb dPK_update_8 rfl hl (by decide) rfl (fun ls hl => ?_)
  refine lv_iload_n hx hb dPK_update_9 rfl (lv_at hl 0 rfl) ?_
  refine lv_if_lt (tgt := 24) hx hb dPK_update_10 (by decide) (fun c_2 => ?_) (fun c_2 => ?_)
  · rw [if_pos c_2] at hfn
    refine lv_aload_n hx hb dPK_update_24 rfl (lv_at hl 1 rfl) ?_
    refine va_get (D := (dC, dI)) (ci := 10) (v := .int ps) (C := R_PK) (T := T_PK) (N := 12) hx hb htg in_PK hown hK hP 0 rfl rfl 6 (by decide) (htg _ wd_268) (fun _ h9 => h9) rfl dPK_update_25 ?_
    exact blk28 _ _ _ _ _ _ _ _ _ _ _ z_1 ps _ _ ls hfn (hP.sub [0, 1, 2, 3, 4, 5, 6, 7] rfl) (hD.sub [0, 1, 2, 3, 4, 5, 6, 7] (by decide) rfl) hS (lv_sub hl [1, 2, 3, 0] rfl)
  · rw [if_neg c_2] at hfn
    refine lv_aload_n hx hb dPK_update_13 rfl (lv_at hl 1 rfl) ?_
    refine va_get (D := (dC, dI)) (ci := 10) (v := .ref w0) (C := R_PK) (T := T_PK) (N := 12) hx hb htg in_PK hown hK hP 0 rfl rfl 3 (by decide) (htg _ wd_265) (fun _ h9 => h9) rfl dPK_update_14 ?_
    refine lv_iload_n hx hb dPK_update_17 rfl (lv_at hl 0 rfl) ?_
    refine rd_V (As := [.int z_1]) (rest := []) ⟨hx, hb, hml, hown, htg⟩ (c_Waiting_historyBefore l dC dI cA w0 p1 p2 p3 ud wf1 wf2 wf3 z_1) (cw_V htg wd_457 wd_459 qWaiting_historyBefore iWaiting_historyBefore kWaiting_historyBefore pWaiting_historyBefore rfl rfl ⟨Nat.le_of_ble_eq_true rfl, Nat.le_of_ble_eq_true rfl⟩) (va_recv hK hP (ci := 9) (q0 := 1) rfl rfl) hN (hP.sub [1, 2, 3, 4] rfl) hK rfl hl.1 rfl (Nat.le_of_ble_eq_true rfl) dPK_update_18 ⟨Nat.le_of_ble_eq_true rfl, Nat.le_of_ble_eq_true rfl⟩ ?_
    refine lv_goto (tgt := 28) hx hb dPK_update_21 (by decide) ?_
    exact blk28 _ _ _ _ _ _ _ _ _ _ _ z_1 (tf_Waiting_historyBefore wf2 z_1) _ _ ls hfn (hP.sub [0, 1, 2, 3, 4, 5, 6, 7] rfl) (hD.sub [0, 1, 2, 3, 4, 5, 6, 7] (by decide) rfl) hS (lv_sub hl [1, 2, 3, 0] rfl)
def tf_PK_row_Last (zs0 : Int32) (mk0 : Int32) (n1 : Nat) (f1 : Nat → Int32) (pl : Int32) : Int32 := ((tf_Last_number zs0 mk0 n1 f1 pl))
set_option maxHeartbeats 4000000 in
set_option maxRecDepth 100000 in
theorem c_PK_row_Last (l : Launch) (dC : Nat → ClassId) (dI : Nat → Nat → Nat) (cA : ClassId × ClassId × ClassId) (h0 : Nat) (w0 : Nat) (p1 : Nat) (p2 : Nat) (p3 : Nat) (m0 : Nat) (k0 : Nat) (k1 : Nat) (kn : Int32) (sz0 : Int32) (mc0 : Int32) (ps : Int32) (ey : Bool) (u1 : Int32) (u2 : Int32) (u3 : Int32) (u4 : Int32) (ud : Int32) (wf1 : Nat → Int32) (wf2 : Nat → Int32) (wf3 : Nat → Int32) (mf : Nat → Int32) (zs0 : Int32) (rw0 : Int32) (mk0 : Int32) (n1 : Nat) (f1 : Nat → Int32) (pl : Int32) (hn1 : n1 < 2147483648) : Met l yPK_row wPK_row ({ frames := 2, cells := 0, slots := 0, locals := 43 }) (va_Pc [.ref h0, .int pl] (Rd (dC, dI) cA [(h0, .inr (10, [.int kn, .int sz0, .ref k0, .ref w0, .ref m0, .int mc0, .int ps, .int (bI ey), .int u1, .int u2, .int u3, .int u4])), (w0, .inr (9, [.ref p1, .ref p2, .ref p3, .int ud])), (p1, .inl (cA.1, 64, .inl wf1)), (p2, .inl (cA.1, 64, .inl wf2)), (p3, .inl (cA.1, 64, .inl wf3)), (m0, .inl (cA.1, 32, .inl mf)), (k0, .inr (4, [.int zs0, .int rw0, .int mk0, .ref k1])), (k1, .inl (cA.1, n1, .inl f1))])) (QcRead (tf_PK_row_Last zs0 mk0 n1 f1 pl)) 0 0 (fun _ => False) := by
  refine Met.ofW (cc := cPK_row) (maxL := 2) (ret := (some .int)) (by decide) rfl ?_
  intro p e s m args below meth c s₁ B hml hv
  obtain ⟨rfl, hN, hP, hK⟩ := hv
  have hx := B.exec
  have hb := B.bytes
  have hr := B.returns
  have hts := atoms_spec (ws := wPK_row) B.pre
  have htg : ∀ w ∈ GW, w.before _ s = true := fun w h => hts w (List.mem_cons_of_mem _ h)
  have hown : s.vm.findClass R_PK = some m.cls := findClass_of_methodNamed B.named
  have hlocks := B.notSynchronized
  obtain ⟨rs, hfn⟩ : ∃ rs, (tf_PK_row_Last zs0 mk0 n1 f1 pl) = rs := ⟨_, rfl⟩
  try rw [hfn]
  have hl := lv_entry ([.ref h0, .int pl]) (n := 2) (Nat.le_of_ble_eq_true rfl)
  rw [lg_entry_eq]
  generalize (lg_sl ([.ref h0, .int pl]) ++ List.replicate (2 - (lg_sl ([.ref h0, .int pl])).length) Slot.unset).toArray = ls at hl ⊢
  have hl : lv_has ls 2 [(0, .ref h0), (1, .int pl)] := hl
  unfold tf_PK_row_Last at hfn
  refine lv_aload_n hx hb dPK_row_0 rfl (lv_at hl 0 rfl) ?_
  refine va_get (D := (dC, dI)) (ci := 10) (v := .ref k0) (C := R_PK) (T := T_PK) (N := 12) hx hb htg in_PK hown hK hP 0 rfl rfl 2 (by decide) (htg _ wd_264) (fun _ h9 => h9) rfl dPK_row_1 ?_
  refine lv_iload_n hx hb dPK_row_4 rfl (lv_at hl 1 rfl) ?_
  refine lv_aload_n hx hb dPK_row_5 rfl (lv_at hl 0 rfl) ?_
  refine va_get (D := (dC, dI)) (ci := 10) (v := .int ps) (C := R_PK) (T := T_PK) (N := 12) hx hb htg in_PK hown hK hP 0 rfl rfl 6 (by decide) (htg _ wd_268) (fun _ h9 => h9) rfl dPK_row_6 ?_
  refine rd_U (As := [.int pl, .int ps]) (rest := []) ⟨hx, hb, hml, hown, htg⟩ (c_Last_number l dC dI cA k0 k1 zs0 rw0 mk0 n1 f1 pl ps hn1) (cw_U (n := 2) htg wd_565 wd_567 wd_580 qLast_number iLast_number kLast_number (va_Decl.abs (hN _ wn_566)) (by decide +kernel) (by decide +kernel) rfl rfl ⟨Nat.le_of_ble_eq_true rfl, Nat.le_of_ble_eq_true rfl⟩) (va_recv hK hP (ci := 4) (q0 := 6) rfl rfl) hN (hP.sub [6, 7] rfl) hK rfl hl.1 rfl (Nat.le_of_ble_eq_true rfl) dPK_row_9 ⟨Nat.le_of_ble_eq_true rfl, Nat.le_of_ble_eq_true rfl⟩ ?_
  subst hfn
  exact W.iret hx hb hr (fun t ht hW => ⟨rfl, ht⟩) (fun _ h => by cases h) dPK_row_12
def tf_PK_part_Last : Int32 := (tf_Last_answering)
set_option maxHeartbeats 4000000 in
set_option maxRecDepth 100000 in
theorem c_PK_part_Last (l : Launch) (dC : Nat → ClassId) (dI : Nat → Nat → Nat) (cA : ClassId × ClassId × ClassId) (h0 : Nat) (w0 : Nat) (p1 : Nat) (p2 : Nat) (p3 : Nat) (m0 : Nat) (k0 : Nat) (k1 : Nat) (kn : Int32) (sz0 : Int32) (mc0 : Int32) (ps : Int32) (ey : Bool) (u1 : Int32) (u2 : Int32) (u3 : Int32) (u4 : Int32) (ud : Int32) (wf1 : Nat → Int32) (wf2 : Nat → Int32) (wf3 : Nat → Int32) (mf : Nat → Int32) (zs0 : Int32) (rw0 : Int32) (mk0 : Int32) (n1 : Nat) (f1 : Nat → Int32) (pl : Int32) (hn1 : n1 < 2147483648) : Met l yPK_part wPK_part ({ frames := 1, cells := 0, slots := 0, locals := 22 }) (va_Pc [.ref h0, .int pl] (Rd (dC, dI) cA [(h0, .inr (10, [.int kn, .int sz0, .ref k0, .ref w0, .ref m0, .int mc0, .int ps, .int (bI ey), .int u1, .int u2, .int u3, .int u4])), (w0, .inr (9, [.ref p1, .ref p2, .ref p3, .int ud])), (p1, .inl (cA.1, 64, .inl wf1)), (p2, .inl (cA.1, 64, .inl wf2)), (p3, .inl (cA.1, 64, .inl wf3)), (m0, .inl (cA.1, 32, .inl mf)), (k0, .inr (4, [.int zs0, .int rw0, .int mk0, .ref k1])), (k1, .inl (cA.1, n1, .inl f1))])) (QcRead tf_PK_part_Last) 0 0 (fun _ => False) := by
  refine Met.ofW (cc := cPK_part) (maxL := 2) (ret := (some .int)) (by decide) rfl ?_
  intro p e s m args below meth c s₁ B hml hv
  obtain ⟨rfl, hN, hP, hK⟩ := hv
  have hx := B.exec
  have hb := B.bytes
  have hr := B.returns
  have hts := atoms_spec (ws := wPK_part) B.pre
  have htg : ∀ w ∈ GW, w.before _ s = true := fun w h => hts w (List.mem_cons_of_mem _ h)
  have hown : s.vm.findClass R_PK = some m.cls := findClass_of_methodNamed B.named
  have hlocks := B.notSynchronized
  obtain ⟨rs, hfn⟩ : ∃ rs, tf_PK_part_Last = rs := ⟨_, rfl⟩
  try rw [hfn]
  have hl := lv_entry ([.ref h0, .int pl]) (n := 2) (Nat.le_of_ble_eq_true rfl)
  rw [lg_entry_eq]
  generalize (lg_sl ([.ref h0, .int pl]) ++ List.replicate (2 - (lg_sl ([.ref h0, .int pl])).length) Slot.unset).toArray = ls at hl ⊢
  have hl : lv_has ls 2 [(0, .ref h0), (1, .int pl)] := hl
  unfold tf_PK_part_Last at hfn
  refine lv_aload_n hx hb dPK_part_0 rfl (lv_at hl 0 rfl) ?_
  refine va_get (D := (dC, dI)) (ci := 10) (v := .ref k0) (C := R_PK) (T := T_PK) (N := 12) hx hb htg in_PK hown hK hP 0 rfl rfl 2 (by decide) (htg _ wd_264) (fun _ h9 => h9) rfl dPK_part_1 ?_
  refine lv_iload_n hx hb dPK_part_4 rfl (lv_at hl 1 rfl) ?_
  refine lv_aload_n hx hb dPK_part_5 rfl (lv_at hl 0 rfl) ?_
  refine va_get (D := (dC, dI)) (ci := 10) (v := .int ps) (C := R_PK) (T := T_PK) (N := 12) hx hb htg in_PK hown hK hP 0 rfl rfl 6 (by decide) (htg _ wd_268) (fun _ h9 => h9) rfl dPK_part_6 ?_
  refine rd_U (As := [.int pl, .int ps]) (rest := []) ⟨hx, hb, hml, hown, htg⟩ (c_Last_answering l dC dI cA k0 k1 zs0 rw0 mk0 n1 f1 pl ps hn1) (cw_U (n := 2) htg wd_594 wd_596 wd_603 qKind_answering iKind_answering kKind_answering (va_Decl.of (htg _ qKind_answering) (htg _ kKind_answering)) (by decide +kernel) (by decide +kernel) rfl rfl ⟨Nat.le_of_ble_eq_true rfl, Nat.le_of_ble_eq_true rfl⟩) (va_recv hK hP (ci := 4) (q0 := 6) rfl rfl) hN (hP.sub [6, 7] rfl) hK rfl hl.1 rfl (Nat.le_of_ble_eq_true rfl) dPK_part_9 ⟨Nat.le_of_ble_eq_true rfl, Nat.le_of_ble_eq_true rfl⟩ ?_
  subst hfn
  exact W.iret hx hb hr (fun t ht hW => ⟨rfl, ht⟩) (fun _ h => by cases h) dPK_part_12
def tf_PK_storage_Last (rw0 : Int32) : Int32 := ((tf_Last_bits rw0))
set_option maxHeartbeats 4000000 in
set_option maxRecDepth 100000 in
theorem c_PK_storage_Last (l : Launch) (dC : Nat → ClassId) (dI : Nat → Nat → Nat) (cA : ClassId × ClassId × ClassId) (h0 : Nat) (w0 : Nat) (p1 : Nat) (p2 : Nat) (p3 : Nat) (m0 : Nat) (k0 : Nat) (k1 : Nat) (kn : Int32) (sz0 : Int32) (mc0 : Int32) (ps : Int32) (ey : Bool) (u1 : Int32) (u2 : Int32) (u3 : Int32) (u4 : Int32) (ud : Int32) (wf1 : Nat → Int32) (wf2 : Nat → Int32) (wf3 : Nat → Int32) (mf : Nat → Int32) (zs0 : Int32) (rw0 : Int32) (mk0 : Int32) (n1 : Nat) (f1 : Nat → Int32) (hn1 : n1 < 2147483648) : Met l yPK_storage wPK_storage ({ frames := 1, cells := 0, slots := 0, locals := 20 }) (va_Pc [.ref h0] (Rd (dC, dI) cA [(h0, .inr (10, [.int kn, .int sz0, .ref k0, .ref w0, .ref m0, .int mc0, .int ps, .int (bI ey), .int u1, .int u2, .int u3, .int u4])), (w0, .inr (9, [.ref p1, .ref p2, .ref p3, .int ud])), (p1, .inl (cA.1, 64, .inl wf1)), (p2, .inl (cA.1, 64, .inl wf2)), (p3, .inl (cA.1, 64, .inl wf3)), (m0, .inl (cA.1, 32, .inl mf)), (k0, .inr (4, [.int zs0, .int rw0, .int mk0, .ref k1])), (k1, .inl (cA.1, n1, .inl f1))])) (QcRead (tf_PK_storage_Last rw0)) 0 0 (fun _ => False) := by
  refine Met.ofW (cc := cPK_storage) (maxL := 1) (ret := (some .int)) (by decide) rfl ?_
  intro p e s m args below meth c s₁ B hml hv
  obtain ⟨rfl, hN, hP, hK⟩ := hv
  have hx := B.exec
  have hb := B.bytes
  have hr := B.returns
  have hts := atoms_spec (ws := wPK_storage) B.pre
  have htg : ∀ w ∈ GW, w.before _ s = true := fun w h => hts w (List.mem_cons_of_mem _ h)
  have hown : s.vm.findClass R_PK = some m.cls := findClass_of_methodNamed B.named
  have hlocks := B.notSynchronized
  obtain ⟨rs, hfn⟩ : ∃ rs, (tf_PK_storage_Last rw0) = rs := ⟨_, rfl⟩
  try rw [hfn]
  have hl := lv_entry ([.ref h0]) (n := 1) (Nat.le_of_ble_eq_true rfl)
  rw [lg_entry_eq]
  generalize (lg_sl ([.ref h0]) ++ List.replicate (1 - (lg_sl ([.ref h0])).length) Slot.unset).toArray = ls at hl ⊢
  have hl : lv_has ls 1 [(0, .ref h0)] := hl
  unfold tf_PK_storage_Last at hfn
  refine lv_aload_n hx hb dPK_storage_0 rfl (lv_at hl 0 rfl) ?_
  refine va_get (D := (dC, dI)) (ci := 10) (v := .ref k0) (C := R_PK) (T := T_PK) (N := 12) hx hb htg in_PK hown hK hP 0 rfl rfl 2 (by decide) (htg _ wd_264) (fun _ h9 => h9) rfl dPK_storage_1 ?_
  refine rd_U (As := []) (rest := []) ⟨hx, hb, hml, hown, htg⟩ (c_Last_bits l dC dI cA k0 k1 zs0 rw0 mk0 n1 f1 hn1) (cw_U (n := 0) htg wd_617 wd_619 wd_634 qLast_bits iLast_bits kLast_bits (va_Decl.abs (hN _ wn_618)) (by decide +kernel) (by decide +kernel) rfl rfl ⟨Nat.le_of_ble_eq_true rfl, Nat.le_of_ble_eq_true rfl⟩) (va_recv hK hP (ci := 4) (q0 := 6) rfl rfl) hN (hP.sub [6, 7] rfl) hK rfl hl.1 rfl (Nat.le_of_ble_eq_true rfl) dPK_storage_4 ⟨Nat.le_of_ble_eq_true rfl, Nat.le_of_ble_eq_true rfl⟩ ?_
  subst hfn
  exact W.iret hx hb hr (fun t ht hW => ⟨rfl, ht⟩) (fun _ h => by cases h) dPK_storage_7
def of_PK_several_Last_b32 : Nat → Int32 → Int32 → Nat → (Nat → Int32) → Int32 → Int32 → Int32 → Int32 → Int32 → Option (Int32)
  | 0, _, _, _, _, _, _, _, _, _ => none
  | n + 1, zs0, mk0, n1, f1, pl, ct0, v3_b32, v4_b32, v5_b32 => (if ct0 ≤ v5_b32 then some (v4_b32) else (if (bI (tf_Last_says zs0 mk0 n1 f1 (pl + (4 * v5_b32)))) = 0 then of_PK_several_Last_b32 n zs0 mk0 n1 f1 pl ct0 (tf_PK_behind v3_b32 (tf_Last_says zs0 mk0 n1 f1 (pl + (4 * v5_b32)))) (v4_b32 ||| 0) (v5_b32 + 1) else of_PK_several_Last_b32 n zs0 mk0 n1 f1 pl ct0 (tf_PK_behind v3_b32 (tf_Last_says zs0 mk0 n1 f1 (pl + (4 * v5_b32)))) (v4_b32 ||| ((1 : Int32) <<< (v5_b32 &&& 31))) (v5_b32 + 1)))
def of_PK_several_Last_b11 : Option (Int32) := none
def of_PK_several_Last (ps : Int32) (zs0 : Int32) (mk0 : Int32) (n1 : Nat) (f1 : Nat → Int32) (pl : Int32) (ct0 : Int32) : Option (Int32) := (if ct0 < 1 then of_PK_several_Last_b11 else (if ct0 ≤ 16 then of_PK_several_Last_b32 4096 zs0 mk0 n1 f1 pl ct0 ps 0 0 else of_PK_several_Last_b11))
set_option maxHeartbeats 4000000 in
set_option maxRecDepth 100000 in
theorem c_PK_several_Last (l : Launch) (dC : Nat → ClassId) (dI : Nat → Nat → Nat) (cA : ClassId × ClassId × ClassId) (h0 : Nat) (w0 : Nat) (p1 : Nat) (p2 : Nat) (p3 : Nat) (m0 : Nat) (k0 : Nat) (k1 : Nat) (kn : Int32) (sz0 : Int32) (mc0 : Int32) (ps : Int32) (ey : Bool) (u1 : Int32) (u2 : Int32) (u3 : Int32) (u4 : Int32) (ud : Int32) (wf1 : Nat → Int32) (wf2 : Nat → Int32) (wf3 : Nat → Int32) (mf : Nat → Int32) (zs0 : Int32) (rw0 : Int32) (mk0 : Int32) (n1 : Nat) (f1 : Nat → Int32) (pl : Int32) (ct0 : Int32) (hn1 : n1 < 2147483648) (rs0 : Int32) (hfn : (of_PK_several_Last ps zs0 mk0 n1 f1 pl ct0) = some (rs0)) : Met l yPK_several wPK_several ({ frames := 3, cells := 0, slots := 0, locals := 65 }) (va_Pc [.ref h0, .int pl, .int ct0] (Rd (dC, dI) cA [(h0, .inr (10, [.int kn, .int sz0, .ref k0, .ref w0, .ref m0, .int mc0, .int ps, .int (bI ey), .int u1, .int u2, .int u3, .int u4])), (w0, .inr (9, [.ref p1, .ref p2, .ref p3, .int ud])), (p1, .inl (cA.1, 64, .inl wf1)), (p2, .inl (cA.1, 64, .inl wf2)), (p3, .inl (cA.1, 64, .inl wf3)), (m0, .inl (cA.1, 32, .inl mf)), (k0, .inr (4, [.int zs0, .int rw0, .int mk0, .ref k1])), (k1, .inl (cA.1, n1, .inl f1))])) (QcRead rs0) 0 0 (fun _ => False) := by
  refine Met.ofW (cc := cPK_several) (maxL := 7) (ret := (some .int)) (by decide) rfl ?_
  intro p e s m args below meth c s₁ B hml hv
  obtain ⟨rfl, hN, hP, hK⟩ := hv
  have hx := B.exec
  have hb := B.bytes
  have hr := B.returns
  have hts := atoms_spec (ws := wPK_several) B.pre
  have htg : ∀ w ∈ GW, w.before _ s = true := fun w h => hts w (List.mem_cons_of_mem _ h)
  have hown : s.vm.findClass R_PK = some m.cls := findClass_of_methodNamed B.named
  have hlocks := B.notSynchronized
  have blk32 : ∀ n : Nat, ∀ (rs0 : Int32) (v3_b32 : Int32) (v4_b32 : Int32) (v5_b32 : Int32) (ls : Array Slot), of_PK_several_Last_b32 n zs0 mk0 n1 f1 pl ct0 v3_b32 v4_b32 v5_b32 = some (rs0) → lv_has ls 7 [(0, .ref h0), (1, .int pl), (2, .int ct0), (3, .int v3_b32), (4, .int v4_b32), (5, .int v5_b32)] → W p l e (headSpec wPK_several ({ frames := 3, cells := 0, slots := 0, locals := 65 })).room s m ([.ref h0, .int pl, .int ct0] : List Value).toArray below meth c s.heap [] 0 0 (MQ below (QcRead rs0) ([.ref h0, .int pl, .int ct0] : List Value).toArray s 0 0 (fun _ => False)) (F0 m 32 ls []) := by
    intro n
    induction n with
    | zero =>
      intro rs0 v3_b32 v4_b32 v5_b32 ls hfn hl
      exact absurd hfn (by intro h; cases h)
    | succ n ih =>
      intro rs0 v3_b32 v4_b32 v5_b32 ls hfn hl
      unfold of_PK_several_Last_b32 at hfn
      refine lv_iload hx hb dPK_several_32 (lv_at hl 5 rfl) ?_
      refine lv_iload_n hx hb dPK_several_34 rfl (lv_at hl 2 rfl) ?_
      refine lv_icmp_ge (tgt := 85) hx hb dPK_several_35 (by decide) (fun c_3 => ?_) (fun c_3 => ?_)
      · rw [if_pos c_3] at hfn
        refine lv_iload hx hb dPK_several_85 (lv_at hl 4 rfl) ?_
        replace hfn := Option.some.inj hfn
        subst hfn
        exact W.iret hx hb hr (fun t ht hW => ⟨rfl, ht⟩) (fun _ h => by cases h) dPK_several_87
      · rw [if_neg c_3] at hfn
        refine lv_aload_n hx hb dPK_several_38 rfl (lv_at hl 0 rfl) ?_
        refine va_get (D := (dC, dI)) (ci := 10) (v := .ref k0) (C := R_PK) (T := T_PK) (N := 12) hx hb htg in_PK hown hK hP 0 rfl rfl 2 (by decide) (htg _ wd_264) (fun _ h9 => h9) rfl dPK_several_39 ?_
        refine lv_iload_n hx hb dPK_several_42 rfl (lv_at hl 1 rfl) ?_
        refine lv_iconst (v := 4) hx hb dPK_several_43 (by decide) ?_
        refine lv_iload hx hb dPK_several_44 (lv_at hl 5 rfl) ?_
        refine lv_imul hx hb dPK_several_46 ?_
        refine lv_iadd hx hb dPK_several_47 ?_
        refine lv_iload_n hx hb dPK_several_48 rfl (lv_at hl 3 rfl) ?_
        refine rd_U (As := [.int (pl + (4 * v5_b32)), .int v3_b32]) (rest := []) ⟨hx, hb, hml, hown, htg⟩ (c_Last_says l dC dI cA k0 k1 zs0 rw0 mk0 n1 f1 (pl + (4 * v5_b32)) v3_b32 hn1) (cw_U (n := 2) htg wd_303 wd_305 wd_344 qLast_says iLast_says kLast_says (va_Decl.abs (hN _ wn_304)) (by decide +kernel) (by decide +kernel) rfl rfl ⟨Nat.le_of_ble_eq_true rfl, Nat.le_of_ble_eq_true rfl⟩) (va_recv hK hP (ci := 4) (q0 := 6) rfl rfl) hN (hP.sub [6, 7] rfl) hK rfl hl.1 rfl (Nat.le_of_ble_eq_true rfl) dPK_several_49 ⟨Nat.le_of_ble_eq_true rfl, Nat.le_of_ble_eq_true rfl⟩ ?_
        refine lv_istore (lv' := [(6, .int (bI (tf_Last_says zs0 mk0 n1 f1 (pl + (4 * v5_b32))))), (0, .ref h0), (1, .int pl), (2, .int ct0), (3, .int v3_b32), (4, .int v4_b32), (5, .int v5_b32)]) hx hb dPK_several_52 hl (by decide) rfl (fun ls hl => ?_)
        refine lv_iload hx hb dPK_several_54 (lv_at hl 5 rfl) ?_
        refine lv_iload hx hb dPK_several_56 (lv_at hl 0 rfl) ?_
        refine lv_if_eq (tgt := 68) hx hb dPK_several_58 (by decide) (fun c_4 => ?_) (fun c_4 => ?_)
        · rw [if_pos c_4] at hfn
          refine lv_iconst (v := 0) hx hb dPK_several_68 (by decide) ?_
          refine lv_ior hx hb dPK_several_69 ?_
          refine lv_istore (lv' := [(4, .int (v4_b32 ||| 0)), (6, .int (bI (tf_Last_says zs0 mk0 n1 f1 (pl + (4 * v5_b32))))), (0, .ref h0), (1, .int pl), (2, .int ct0), (3, .int v3_b32), (5, .int v5_b32)]) hx hb dPK_several_70 hl (by decide) rfl (fun ls hl => ?_)
          refine lv_iload_n hx hb dPK_several_72 rfl (lv_at hl 5 rfl) ?_
          refine lv_iload hx hb dPK_several_73 (lv_at hl 1 rfl) ?_
          refine rd_S (As := [.int v3_b32, .int (bI (tf_Last_says zs0 mk0 n1 f1 (pl + (4 * v5_b32))))]) (rest := []) ⟨hx, hb, hml, hown, htg⟩ (c_PK_behind l dC dI cA v3_b32 (tf_Last_says zs0 mk0 n1 f1 (pl + (4 * v5_b32)))) (cw_S htg wd_445 qPK_behind iPK_behind kPK_behind pPK_behind rfl rfl ⟨Nat.le_of_ble_eq_true rfl, Nat.le_of_ble_eq_true rfl⟩) hN (hP.sub [] rfl) hK rfl hl.1 rfl (Nat.le_of_ble_eq_true rfl) dPK_several_75 ⟨Nat.le_of_ble_eq_true rfl, Nat.le_of_ble_eq_true rfl⟩ ?_
          refine lv_istore_n (lv' := [(3, .int (tf_PK_behind v3_b32 (tf_Last_says zs0 mk0 n1 f1 (pl + (4 * v5_b32))))), (4, .int (v4_b32 ||| 0)), (6, .int (bI (tf_Last_says zs0 mk0 n1 f1 (pl + (4 * v5_b32))))), (0, .ref h0), (1, .int pl), (2, .int ct0), (5, .int v5_b32)]) hx hb dPK_several_78 rfl hl (by decide) rfl (fun ls hl => ?_)
          refine lv_iinc (v := (v5_b32 + 1)) (lv' := [(5, .int (v5_b32 + 1)), (3, .int (tf_PK_behind v3_b32 (tf_Last_says zs0 mk0 n1 f1 (pl + (4 * v5_b32))))), (4, .int (v4_b32 ||| 0)), (6, .int (bI (tf_Last_says zs0 mk0 n1 f1 (pl + (4 * v5_b32))))), (0, .ref h0), (1, .int pl), (2, .int ct0)]) hx hb dPK_several_79 hl (k := 6) rfl rfl (by decide) rfl (fun ls hl => ?_)
          refine lv_goto (tgt := 32) hx hb dPK_several_82 (by decide) ?_
          exact ih _ (tf_PK_behind v3_b32 (tf_Last_says zs0 mk0 n1 f1 (pl + (4 * v5_b32)))) (v4_b32 ||| 0) (v5_b32 + 1) ls hfn (lv_sub hl [4, 5, 6, 1, 2, 0] rfl)
        · rw [if_neg c_4] at hfn
          refine lv_iconst (v := 1) hx hb dPK_several_61 (by decide) ?_
          refine lv_iload hx hb dPK_several_62 (lv_at hl 6 rfl) ?_
          refine lv_ishl hx hb dPK_several_64 ?_
          refine lv_goto (tgt := 69) hx hb dPK_several_65 (by decide) ?_
          refine lv_ior hx hb dPK_several_69 ?_
          refine lv_istore (lv' := [(4, .int (v4_b32 ||| ((1 : Int32) <<< (v5_b32 &&& 31)))), (6, .int (bI (tf_Last_says zs0 mk0 n1 f1 (pl + (4 * v5_b32))))), (0, .ref h0), (1, .int pl), (2, .int ct0), (3, .int v3_b32), (5, .int v5_b32)]) hx hb dPK_several_70 hl (by decide) rfl (fun ls hl => ?_)
          refine lv_iload_n hx hb dPK_several_72 rfl (lv_at hl 5 rfl) ?_
          refine lv_iload hx hb dPK_several_73 (lv_at hl 1 rfl) ?_
          refine rd_S (As := [.int v3_b32, .int (bI (tf_Last_says zs0 mk0 n1 f1 (pl + (4 * v5_b32))))]) (rest := []) ⟨hx, hb, hml, hown, htg⟩ (c_PK_behind l dC dI cA v3_b32 (tf_Last_says zs0 mk0 n1 f1 (pl + (4 * v5_b32)))) (cw_S htg wd_445 qPK_behind iPK_behind kPK_behind pPK_behind rfl rfl ⟨Nat.le_of_ble_eq_true rfl, Nat.le_of_ble_eq_true rfl⟩) hN (hP.sub [] rfl) hK rfl hl.1 rfl (Nat.le_of_ble_eq_true rfl) dPK_several_75 ⟨Nat.le_of_ble_eq_true rfl, Nat.le_of_ble_eq_true rfl⟩ ?_
          refine lv_istore_n (lv' := [(3, .int (tf_PK_behind v3_b32 (tf_Last_says zs0 mk0 n1 f1 (pl + (4 * v5_b32))))), (4, .int (v4_b32 ||| ((1 : Int32) <<< (v5_b32 &&& 31)))), (6, .int (bI (tf_Last_says zs0 mk0 n1 f1 (pl + (4 * v5_b32))))), (0, .ref h0), (1, .int pl), (2, .int ct0), (5, .int v5_b32)]) hx hb dPK_several_78 rfl hl (by decide) rfl (fun ls hl => ?_)
          refine lv_iinc (v := (v5_b32 + 1)) (lv' := [(5, .int (v5_b32 + 1)), (3, .int (tf_PK_behind v3_b32 (tf_Last_says zs0 mk0 n1 f1 (pl + (4 * v5_b32))))), (4, .int (v4_b32 ||| ((1 : Int32) <<< (v5_b32 &&& 31)))), (6, .int (bI (tf_Last_says zs0 mk0 n1 f1 (pl + (4 * v5_b32))))), (0, .ref h0), (1, .int pl), (2, .int ct0)]) hx hb dPK_several_79 hl (k := 6) rfl rfl (by decide) rfl (fun ls hl => ?_)
          refine lv_goto (tgt := 32) hx hb dPK_several_82 (by decide) ?_
          exact ih _ (tf_PK_behind v3_b32 (tf_Last_says zs0 mk0 n1 f1 (pl + (4 * v5_b32)))) (v4_b32 ||| ((1 : Int32) <<< (v5_b32 &&& 31))) (v5_b32 + 1) ls hfn (lv_sub hl [4, 5, 6, 1, 2, 0] rfl)
  have blk11 : ∀ (rs0 : Int32) (ls : Array Slot), of_PK_several_Last_b11 = some (rs0) → lv_has ls 7 [] → W p l e (headSpec wPK_several ({ frames := 3, cells := 0, slots := 0, locals := 65 })).room s m ([.ref h0, .int pl, .int ct0] : List Value).toArray below meth c s.heap [] 0 0 (MQ below (QcRead rs0) ([.ref h0, .int pl, .int ct0] : List Value).toArray s 0 0 (fun _ => False)) (F0 m 11 ls []) := by
    intro rs0 ls hfn hl
    unfold of_PK_several_Last_b11 at hfn
    exact absurd hfn (by intro h; cases h)
  have hl := lv_entry ([.ref h0, .int pl, .int ct0]) (n := 7) (Nat.le_of_ble_eq_true rfl)
  rw [lg_entry_eq]
  generalize (lg_sl ([.ref h0, .int pl, .int ct0]) ++ List.replicate (7 - (lg_sl ([.ref h0, .int pl, .int ct0])).length) Slot.unset).toArray = ls at hl ⊢
  have hl : lv_has ls 7 [(0, .ref h0), (1, .int pl), (2, .int ct0)] := hl
  unfold of_PK_several_Last at hfn
  refine lv_iload_n hx hb dPK_several_0 rfl (lv_at hl 2 rfl) ?_
  refine lv_iconst (v := 1) hx hb dPK_several_1 (by decide) ?_
  refine lv_icmp_lt (tgt := 11) hx hb dPK_several_2 (by decide) (fun c_1 => ?_) (fun c_1 => ?_)
  · rw [if_pos c_1] at hfn
    exact blk11 _ ls hfn (lv_sub hl [] rfl)
  · rw [if_neg c_1] at hfn
    refine lv_iload_n hx hb dPK_several_5 rfl (lv_at hl 2 rfl) ?_
    refine lv_bipush (v := 16) hx hb dPK_several_6 (by decide) ?_
    refine lv_icmp_le (tgt := 21) hx hb dPK_several_8 (by decide) (fun c_2 => ?_) (fun c_2 => ?_)
    · rw [if_pos c_2] at hfn
      refine lv_aload_n hx hb dPK_several_21 rfl (lv_at hl 0 rfl) ?_
      refine va_get (D := (dC, dI)) (ci := 10) (v := .int ps) (C := R_PK) (T := T_PK) (N := 12) hx hb htg in_PK hown hK hP 0 rfl rfl 6 (by decide) (htg _ wd_268) (fun _ h9 => h9) rfl dPK_several_22 ?_
      refine lv_istore_n (lv' := [(3, .int ps), (0, .ref h0), (1, .int pl), (2, .int ct0)]) hx hb dPK_several_25 rfl hl (by decide) rfl (fun ls hl => ?_)
      refine lv_iconst (v := 0) hx hb dPK_several_26 (by decide) ?_
      refine lv_istore (lv' := [(4, .int 0), (3, .int ps), (0, .ref h0), (1, .int pl), (2, .int ct0)]) hx hb dPK_several_27 hl (by decide) rfl (fun ls hl => ?_)
      refine lv_iconst (v := 0) hx hb dPK_several_29 (by decide) ?_
      refine lv_istore (lv' := [(5, .int 0), (4, .int 0), (3, .int ps), (0, .ref h0), (1, .int pl), (2, .int ct0)]) hx hb dPK_several_30 hl (by decide) rfl (fun ls hl => ?_)
      exact blk32 4096 _ ps 0 0 ls hfn (lv_sub hl [3, 4, 5, 2, 1, 0] rfl)
    · rw [if_neg c_2] at hfn
      exact blk11 _ ls hfn (lv_sub hl [] rfl)
