/-! UPDATE: class and reference agree, given says and learn (laid by pure.py) -/
theorem bh_eq (h : Int32) (t : Bool) : tf_PK_behind h t = tf_Md_behind h t := by
  unfold tf_PK_behind tf_Md_behind
  cases t <;> rfl
theorem ite_t0 {α : Type} (x y : α) : (if bI true = (0 : Int32) then x else y) = y := if_neg (by decide)
theorem ite_f0 {α : Type} (x y : α) : (if bI false = (0 : Int32) then x else y) = x := if_pos (by decide)
theorem ite_tt {α : Type} (x y : α) : (if bI true = bI true then x else y) = x := if_pos rfl
theorem ite_ff {α : Type} (x y : α) : (if bI false = bI false then x else y) = x := if_pos rfl
theorem ite_tf {α : Type} (x y : α) : (if bI true = bI false then x else y) = y := if_neg (by decide)
theorem ite_ft {α : Type} (x y : α) : (if bI false = bI true then x else y) = y := if_neg (by decide)
theorem ite_same {α : Type} (b : Bool) (x y : α) : (if bI b = bI b then x else y) = x := if_pos rfl
theorem scan_0 {w o : Nat} (ps : Int32) (u1 : Int32) (u2 : Int32) (u3 : Int32) (u4 : Int32) (gp : Nat → Int32) (gh : Nat → Int32) (gs : Nat → Int32) (pl : Int32) (tk : Bool) (hw : w ≤ 64) (h : IsOd w gp pl o) : ∀ d n i, i + d = o → d < n → of_Md_update_0_b7 n ps u1 u2 u3 u4 (nI w) gp gh gs pl tk (nI i) = of_Md_update_0_b31 ps u1 u2 u3 u4 (nI w) gp gh gs tk (nI o) := by
  obtain ⟨h1, h2, h3⟩ := h
  intro d
  induction d with
  | zero =>
    intro n i e hn
    have e1 : i = o := by omega
    subst e1
    obtain ⟨m, rfl⟩ : ∃ m, n = m + 1 := ⟨n - 1, by omega⟩
    show (if nI w ≤ nI i then _ else _) = _
    by_cases q : i = w
    · rw [if_pos (nI_le (by omega) (by omega))]
    · have q1 : i < w := by omega
      rw [if_neg (nI_ge q1 (by omega)), if_neg (nI_in (by omega) (by omega)), nI_clamp (by omega), if_pos (h3 q1)]
  | succ d ih =>
    intro n i e hn
    obtain ⟨m, rfl⟩ : ∃ m, n = m + 1 := ⟨n - 1, by omega⟩
    show (if nI w ≤ nI i then _ else _) = _
    rw [if_neg (nI_ge (by omega) (by omega)), if_neg (nI_in (by omega) (by omega)), nI_clamp (by omega), if_neg (h2 i (by omega)), nI_1]
    exact ih m (i + 1) (by omega) (by omega)
theorem rem_0 {w : Nat} (ps : Int32) (u1 : Int32) (u4 : Int32) (v5 : Bool) (w_o0_8 : Int32) (w_o0_9 : Int32) (hw : w ≤ 64) : ∀ k n i (gp gh gs : Nat → Int32), i + k + 1 = w → k < n → Bo w gs → of_Md_update_0_b201 n ps u1 u4 (nI w) v5 (nI i) w_o0_8 w_o0_9 gh gp gs = some (v5, 0, u4, nI (w - 1), ps, (u1 + 1), w_o0_8, w_o0_9, sh k i gp, sh k i gh, sh k i gs) := by
  intro k
  induction k with
  | zero =>
    intro n i gp gh gs e hn _
    obtain ⟨m, rfl⟩ : ∃ m, n = m + 1 := ⟨n - 1, by omega⟩
    have e1 : nI w - 1 = nI (w - 1) := pk_sub (a := w) (b := 1) (by omega)
    show (if nI w - 1 ≤ nI i then _ else _) = _
    rw [e1, if_pos (nI_le (by omega) (by omega))]
    rfl
  | succ k ih =>
    intro n i gp gh gs e hn hb
    obtain ⟨m, rfl⟩ : ∃ m, n = m + 1 := ⟨n - 1, by omega⟩
    have e1 : nI w - 1 = nI (w - 1) := pk_sub (a := w) (b := 1) (by omega)
    obtain ⟨b, eb⟩ := hb (i + 1) (by omega)
    have hb2 : Bo w (upd gs i (gs (i + 1))) := by
      rw [eb]; exact hb.upd i b
    have hi := ih m (i + 1) (upd gp i (gp (i + 1))) (upd gh i (gh (i + 1))) (upd gs i (gs (i + 1))) (by omega) (by omega) hb2
    show (if nI w - 1 ≤ nI i then _ else _) = _
    rw [e1, if_neg (nI_ge (by omega) (by omega)), nI_1, if_neg (nI_in (by omega) (by omega)), if_neg (nI_in (by omega) (by omega)), if_neg (nI_in (by omega) (by omega)), if_neg (nI_in (by omega) (by omega)), if_neg (nI_in (by omega) (by omega)), if_neg (nI_in (by omega) (by omega)), nI_clamp (by omega), nI_clamp (by omega), eb, nar_b, ← eb]
    exact hi
theorem upd_0 {w o : Nat} {ps : Int32} {u1 : Int32} {u2 : Int32} {u3 : Int32} {u4 : Int32} {ud : Int32} {wf1 : Nat → Int32} {wf2 : Nat → Int32} {wf3 : Nat → Int32} {pl : Int32} {tk : Bool} {mwt : Int32} {gp : Nat → Int32} {gh : Nat → Int32} {gs : Nat → Int32} {H : Int32} {c : Bool} (hq : Qu w ud mwt wf1 wf2 wf3 gp gh gs) (ho : IsOd w gp pl o) (hH : H = if o = w then ps else gh o) (hc : tf_Always_says = c) (hm : of_Md_says_0 = some c) : ∃ (w' : Nat) (u4' ps' ud' : Int32) (p1 p2 p3 q1 q2 q3 : Nat → Int32), of_PK_update_Always ps u1 u2 u3 u4 ud wf1 wf2 wf3 pl tk = some ((c == tk), (u3 + bI tk), u4', ps', (u1 + 1), (u2 + bI (!(c == tk))), ud', p1, p2, p3) ∧ of_Md_update_0 ps u1 u2 u3 u4 mwt gp gh gs pl tk = some ((c == tk), 0, u4', ud', ps', (u1 + 1), (u2 + bI (!(c == tk))), (u3 + bI tk), q1, q2, q3) ∧ Qu w' ud' ud' p1 p2 p3 q1 q2 q3 := by
  obtain ⟨hw, rfl, rfl, a1, a2, a3, hb⟩ := hq
  have c1 := oldest_class hw (ho.ag a1)
  have h1 := ho.1
  have m1 := scan_0 ps u1 u2 u3 u4 gp gh gs pl tk hw ho o 4096 0 (by omega) (by omega)
  have hms : of_Md_update_0 ps u1 u2 u3 u4 (nI w) gp gh gs pl tk = of_Md_update_0_b31 ps u1 u2 u3 u4 (nI w) gp gh gs tk (nI o) := m1
  by_cases q : o = w
  · rw [if_pos q] at c1 hH
    subst hH
    subst q
    refine ⟨o, u4, tf_PK_behind H tk, nI o, wf1, wf2, wf3, gp, gh, gs, ?_, ?_, hw, rfl, rfl, a1, a2, a3, hb⟩
    · unfold of_PK_update_Always of_PK_update_Always_b28 of_PK_update_Always_b49 of_PK_update_Always_b95
      rw [c1, Option.bind_some, if_pos (show (-1 : Int32) < 0 by decide)]
      simp only [hc, Option.bind_some, settle_none]
      cases c <;> cases tk <;> simp only [ite_t0, ite_f0, ite_tt, ite_ff, ite_tf, ite_ft] <;> rfl
    · rw [hms]
      unfold of_Md_update_0_b31 of_Md_update_0_b52 of_Md_update_0_b70 of_Md_update_0_b105 of_Md_update_0_b123
      rw [if_pos (nI_le (Nat.le_refl o) (by omega))]
      simp only [hm, Option.bind_some, if_pos, bh_eq]
      cases c <;> cases tk <;> simp only [ite_t0, ite_f0, ite_tt, ite_ff, ite_tf, ite_ft] <;> rfl
  · have q1 : o < w := by omega
    rw [if_neg q] at c1 hH
    obtain ⟨b, eb⟩ := hb o q1
    have hin : ¬ (nI o < 0 ∨ 64 ≤ (nI o).toNatClampNeg) := nI_in (by omega) (by omega)
    have hne : ¬ nI o = nI w := fun z => q ((nI_eq (by omega) (by omega)).mp z)
    have hh : tf_Waiting_historyBefore wf2 (nI o) = H := by
      unfold tf_Waiting_historyBefore
      rw [at_in (by omega) (by omega), a2 o q1, hH]
    have hg : gh (nI o).toNatClampNeg = H := by rw [nI_clamp (by omega), hH]
    have hs : gs (nI o).toNatClampNeg = bI b := by rw [nI_clamp (by omega), eb]
    by_cases r : b = tk
    · subst r
      refine ⟨w - 1, u4, ps, nI (w - 1), sh (w - 1 - o) o wf1, sh (w - 1 - o) o wf2, sh (w - 1 - o) o wf3, sh (w - 1 - o) o gp, sh (w - 1 - o) o gh, sh (w - 1 - o) o gs, ?_, ?_, by omega, rfl, rfl, (fun j hj => sh_ag _ _ _ _ (by omega) a1 j (by omega)), (fun j hj => sh_ag _ _ _ _ (by omega) a2 j (by omega)), (fun j hj => sh_ag _ _ _ _ (by omega) a3 j (by omega)), (fun j hj => sh_bo _ _ _ (by omega) hb j (by omega))⟩
      · unfold of_PK_update_Always of_PK_update_Always_b28 of_PK_update_Always_b49 of_PK_update_Always_b95
        rw [c1, Option.bind_some, if_neg (nI_pos (by omega)), hh]
        simp only [hc, Option.bind_some, settle_right hw q1 a3 eb]
        cases c <;> cases b <;> simp only [ite_t0, ite_f0, ite_tt, ite_ff, ite_tf, ite_ft] <;> rfl
      · rw [hms]
        unfold of_Md_update_0_b31 of_Md_update_0_b52 of_Md_update_0_b70 of_Md_update_0_b105 of_Md_update_0_b123
        rw [if_neg (nI_ge q1 (by omega)), if_neg hin, hg]
        simp only [hm, Option.bind_some, if_neg hne, if_neg hin, hs, ite_same]
        cases c <;> cases b <;> simp only [ite_t0, ite_f0, ite_tt, ite_ff, ite_tf, ite_ft] <;> exact rem_0 _ _ _ _ _ _ hw (w - 1 - o) 4096 o gp gh gs (by omega) (by omega) hb
    · refine ⟨0, u4 + 1, tf_PK_behind H tk, 0, wf1, wf2, wf3, gp, gh, gs, ?_, ?_, by omega, rfl, rfl, (fun j hj => absurd hj (by omega)), (fun j hj => absurd hj (by omega)), (fun j hj => absurd hj (by omega)), (fun j hj => absurd hj (by omega))⟩
      · unfold of_PK_update_Always of_PK_update_Always_b28 of_PK_update_Always_b49 of_PK_update_Always_b95
        rw [c1, Option.bind_some, if_neg (nI_pos (by omega)), hh]
        simp only [hc, Option.bind_some, settle_wrong hw q1 a3 eb r]
        cases c <;> cases tk <;> simp only [ite_t0, ite_f0, ite_tt, ite_ff, ite_tf, ite_ft] <;> rfl
      · have r2 : ¬ bI b = bI tk := fun z => r (bI_inj.mp z)
        rw [hms]
        unfold of_Md_update_0_b31 of_Md_update_0_b52 of_Md_update_0_b70 of_Md_update_0_b105 of_Md_update_0_b123
        rw [if_neg (nI_ge q1 (by omega)), if_neg hin, hg]
        simp only [hm, Option.bind_some, if_neg hne, if_neg hin, hs, if_neg r2, bh_eq]
        cases c <;> cases tk <;> simp only [ite_t0, ite_f0, ite_tt, ite_ff, ite_tf, ite_ft] <;> rfl
theorem scan_1 {w o : Nat} (mbt : Int32) (mrw : Int32) (ps : Int32) (u1 : Int32) (u2 : Int32) (u3 : Int32) (u4 : Int32) (g_lastBit : Nat → Int32) (gp : Nat → Int32) (gh : Nat → Int32) (gs : Nat → Int32) (pl : Int32) (tk : Bool) (hw : w ≤ 64) (h : IsOd w gp pl o) : ∀ d n i, i + d = o → d < n → of_Md_update_1_b7 n mbt mrw ps u1 u2 u3 u4 (nI w) g_lastBit gp gh gs pl tk (nI i) = of_Md_update_1_b31 mbt mrw ps u1 u2 u3 u4 (nI w) g_lastBit gp gh gs pl tk (nI o) := by
  obtain ⟨h1, h2, h3⟩ := h
  intro d
  induction d with
  | zero =>
    intro n i e hn
    have e1 : i = o := by omega
    subst e1
    obtain ⟨m, rfl⟩ : ∃ m, n = m + 1 := ⟨n - 1, by omega⟩
    show (if nI w ≤ nI i then _ else _) = _
    by_cases q : i = w
    · rw [if_pos (nI_le (by omega) (by omega))]
    · have q1 : i < w := by omega
      rw [if_neg (nI_ge q1 (by omega)), if_neg (nI_in (by omega) (by omega)), nI_clamp (by omega), if_pos (h3 q1)]
  | succ d ih =>
    intro n i e hn
    obtain ⟨m, rfl⟩ : ∃ m, n = m + 1 := ⟨n - 1, by omega⟩
    show (if nI w ≤ nI i then _ else _) = _
    rw [if_neg (nI_ge (by omega) (by omega)), if_neg (nI_in (by omega) (by omega)), nI_clamp (by omega), if_neg (h2 i (by omega)), nI_1]
    exact ih m (i + 1) (by omega) (by omega)
theorem rem_1 {w : Nat} (ps : Int32) (u1 : Int32) (u4 : Int32) (v5 : Bool) (w_o0_8 : Int32) (w_o0_9 : Int32) (w_r_lastBit_a : Nat → Int32) (hw : w ≤ 64) : ∀ k n i (gp gh gs : Nat → Int32), i + k + 1 = w → k < n → Bo w gs → of_Md_update_1_b201 n ps u1 u4 (nI w) v5 (nI i) w_o0_8 w_o0_9 w_r_lastBit_a gh gp gs = some (v5, 0, u4, nI (w - 1), ps, (u1 + 1), w_o0_8, w_o0_9, w_r_lastBit_a, sh k i gp, sh k i gh, sh k i gs) := by
  intro k
  induction k with
  | zero =>
    intro n i gp gh gs e hn _
    obtain ⟨m, rfl⟩ : ∃ m, n = m + 1 := ⟨n - 1, by omega⟩
    have e1 : nI w - 1 = nI (w - 1) := pk_sub (a := w) (b := 1) (by omega)
    show (if nI w - 1 ≤ nI i then _ else _) = _
    rw [e1, if_pos (nI_le (by omega) (by omega))]
    rfl
  | succ k ih =>
    intro n i gp gh gs e hn hb
    obtain ⟨m, rfl⟩ : ∃ m, n = m + 1 := ⟨n - 1, by omega⟩
    have e1 : nI w - 1 = nI (w - 1) := pk_sub (a := w) (b := 1) (by omega)
    obtain ⟨b, eb⟩ := hb (i + 1) (by omega)
    have hb2 : Bo w (upd gs i (gs (i + 1))) := by
      rw [eb]; exact hb.upd i b
    have hi := ih m (i + 1) (upd gp i (gp (i + 1))) (upd gh i (gh (i + 1))) (upd gs i (gs (i + 1))) (by omega) (by omega) hb2
    show (if nI w - 1 ≤ nI i then _ else _) = _
    rw [e1, if_neg (nI_ge (by omega) (by omega)), nI_1, if_neg (nI_in (by omega) (by omega)), if_neg (nI_in (by omega) (by omega)), if_neg (nI_in (by omega) (by omega)), if_neg (nI_in (by omega) (by omega)), if_neg (nI_in (by omega) (by omega)), if_neg (nI_in (by omega) (by omega)), nI_clamp (by omega), nI_clamp (by omega), eb, nar_b, ← eb]
    exact hi
theorem upd_1 {w o : Nat} {ps : Int32} {u1 : Int32} {u2 : Int32} {u3 : Int32} {u4 : Int32} {ud : Int32} {wf1 : Nat → Int32} {wf2 : Nat → Int32} {wf3 : Nat → Int32} {zs0 : Int32} {mk0 : Int32} {n1 : Nat} {f1 : Nat → Int32} {pl : Int32} {tk : Bool} {mbt : Int32} {mrw : Int32} {mwt : Int32} {g_lastBit : Nat → Int32} {gp : Nat → Int32} {gh : Nat → Int32} {gs : Nat → Int32} {lg0 : Nat → Int32} {H : Int32} {c : Bool} (hq : Qu w ud mwt wf1 wf2 wf3 gp gh gs) (ho : IsOd w gp pl o) (hH : H = if o = w then ps else gh o) (hc : tf_Last_says zs0 mk0 n1 f1 pl = c) (hm : of_Md_says_1 mbt mrw g_lastBit pl = some c) (hml : of_Md_learn_1 mbt mrw g_lastBit pl tk = some (lg0)) : ∃ (w' : Nat) (u4' ps' ud' : Int32) (p1 p2 p3 q1 q2 q3 : Nat → Int32), of_PK_update_Last ps u1 u2 u3 u4 ud wf1 wf2 wf3 zs0 mk0 n1 f1 pl tk = some ((c == tk), (u3 + bI tk), u4', ps', (u1 + 1), (u2 + bI (!(c == tk))), ud', p1, p2, p3, ((tf_Last_learn zs0 mk0 n1 f1 pl tk))) ∧ of_Md_update_1 mbt mrw ps u1 u2 u3 u4 mwt g_lastBit gp gh gs pl tk = some ((c == tk), 0, u4', ud', ps', (u1 + 1), (u2 + bI (!(c == tk))), (u3 + bI tk), lg0, q1, q2, q3) ∧ Qu w' ud' ud' p1 p2 p3 q1 q2 q3 := by
  obtain ⟨hw, rfl, rfl, a1, a2, a3, hb⟩ := hq
  have c1 := oldest_class hw (ho.ag a1)
  have h1 := ho.1
  have m1 := scan_1 mbt mrw ps u1 u2 u3 u4 g_lastBit gp gh gs pl tk hw ho o 4096 0 (by omega) (by omega)
  have hms : of_Md_update_1 mbt mrw ps u1 u2 u3 u4 (nI w) g_lastBit gp gh gs pl tk = of_Md_update_1_b31 mbt mrw ps u1 u2 u3 u4 (nI w) g_lastBit gp gh gs pl tk (nI o) := m1
  by_cases q : o = w
  · rw [if_pos q] at c1 hH
    subst hH
    subst q
    refine ⟨o, u4, tf_PK_behind H tk, nI o, wf1, wf2, wf3, gp, gh, gs, ?_, ?_, hw, rfl, rfl, a1, a2, a3, hb⟩
    · unfold of_PK_update_Last of_PK_update_Last_b28 of_PK_update_Last_b49 of_PK_update_Last_b95
      rw [c1, Option.bind_some, if_pos (show (-1 : Int32) < 0 by decide)]
      simp only [hc, Option.bind_some, settle_none]
      cases c <;> cases tk <;> simp only [ite_t0, ite_f0, ite_tt, ite_ff, ite_tf, ite_ft] <;> rfl
    · rw [hms]
      unfold of_Md_update_1_b31 of_Md_update_1_b52 of_Md_update_1_b70 of_Md_update_1_b105 of_Md_update_1_b123
      rw [if_pos (nI_le (Nat.le_refl o) (by omega))]
      simp only [hm, hml, Option.bind_some, if_pos, bh_eq]
      cases c <;> cases tk <;> simp only [ite_t0, ite_f0, ite_tt, ite_ff, ite_tf, ite_ft] <;> rfl
  · have q1 : o < w := by omega
    rw [if_neg q] at c1 hH
    obtain ⟨b, eb⟩ := hb o q1
    have hin : ¬ (nI o < 0 ∨ 64 ≤ (nI o).toNatClampNeg) := nI_in (by omega) (by omega)
    have hne : ¬ nI o = nI w := fun z => q ((nI_eq (by omega) (by omega)).mp z)
    have hh : tf_Waiting_historyBefore wf2 (nI o) = H := by
      unfold tf_Waiting_historyBefore
      rw [at_in (by omega) (by omega), a2 o q1, hH]
    have hg : gh (nI o).toNatClampNeg = H := by rw [nI_clamp (by omega), hH]
    have hs : gs (nI o).toNatClampNeg = bI b := by rw [nI_clamp (by omega), eb]
    by_cases r : b = tk
    · subst r
      refine ⟨w - 1, u4, ps, nI (w - 1), sh (w - 1 - o) o wf1, sh (w - 1 - o) o wf2, sh (w - 1 - o) o wf3, sh (w - 1 - o) o gp, sh (w - 1 - o) o gh, sh (w - 1 - o) o gs, ?_, ?_, by omega, rfl, rfl, (fun j hj => sh_ag _ _ _ _ (by omega) a1 j (by omega)), (fun j hj => sh_ag _ _ _ _ (by omega) a2 j (by omega)), (fun j hj => sh_ag _ _ _ _ (by omega) a3 j (by omega)), (fun j hj => sh_bo _ _ _ (by omega) hb j (by omega))⟩
      · unfold of_PK_update_Last of_PK_update_Last_b28 of_PK_update_Last_b49 of_PK_update_Last_b95
        rw [c1, Option.bind_some, if_neg (nI_pos (by omega)), hh]
        simp only [hc, Option.bind_some, settle_right hw q1 a3 eb]
        cases c <;> cases b <;> simp only [ite_t0, ite_f0, ite_tt, ite_ff, ite_tf, ite_ft] <;> rfl
      · rw [hms]
        unfold of_Md_update_1_b31 of_Md_update_1_b52 of_Md_update_1_b70 of_Md_update_1_b105 of_Md_update_1_b123
        rw [if_neg (nI_ge q1 (by omega)), if_neg hin, hg]
        simp only [hm, hml, Option.bind_some, if_neg hne, if_neg hin, hs, ite_same]
        cases c <;> cases b <;> simp only [ite_t0, ite_f0, ite_tt, ite_ff, ite_tf, ite_ft] <;> exact rem_1 _ _ _ _ _ _ _ hw (w - 1 - o) 4096 o gp gh gs (by omega) (by omega) hb
    · refine ⟨0, u4 + 1, tf_PK_behind H tk, 0, wf1, wf2, wf3, gp, gh, gs, ?_, ?_, by omega, rfl, rfl, (fun j hj => absurd hj (by omega)), (fun j hj => absurd hj (by omega)), (fun j hj => absurd hj (by omega)), (fun j hj => absurd hj (by omega))⟩
      · unfold of_PK_update_Last of_PK_update_Last_b28 of_PK_update_Last_b49 of_PK_update_Last_b95
        rw [c1, Option.bind_some, if_neg (nI_pos (by omega)), hh]
        simp only [hc, Option.bind_some, settle_wrong hw q1 a3 eb r]
        cases c <;> cases tk <;> simp only [ite_t0, ite_f0, ite_tt, ite_ff, ite_tf, ite_ft] <;> rfl
      · have r2 : ¬ bI b = bI tk := fun z => r (bI_inj.mp z)
        rw [hms]
        unfold of_Md_update_1_b31 of_Md_update_1_b52 of_Md_update_1_b70 of_Md_update_1_b105 of_Md_update_1_b123
        rw [if_neg (nI_ge q1 (by omega)), if_neg hin, hg]
        simp only [hm, hml, Option.bind_some, if_neg hne, if_neg hin, hs, if_neg r2, bh_eq]
        cases c <;> cases tk <;> simp only [ite_t0, ite_f0, ite_tt, ite_ff, ite_tf, ite_ft] <;> rfl
theorem scan_2 {w o : Nat} (mbt : Int32) (mrw : Int32) (ps : Int32) (u1 : Int32) (u2 : Int32) (u3 : Int32) (u4 : Int32) (g_plain : Nat → Int32) (gp : Nat → Int32) (gh : Nat → Int32) (gs : Nat → Int32) (pl : Int32) (tk : Bool) (hw : w ≤ 64) (h : IsOd w gp pl o) : ∀ d n i, i + d = o → d < n → of_Md_update_2_b7 n mbt mrw ps u1 u2 u3 u4 (nI w) g_plain gp gh gs pl tk (nI i) = of_Md_update_2_b31 mbt mrw ps u1 u2 u3 u4 (nI w) g_plain gp gh gs pl tk (nI o) := by
  obtain ⟨h1, h2, h3⟩ := h
  intro d
  induction d with
  | zero =>
    intro n i e hn
    have e1 : i = o := by omega
    subst e1
    obtain ⟨m, rfl⟩ : ∃ m, n = m + 1 := ⟨n - 1, by omega⟩
    show (if nI w ≤ nI i then _ else _) = _
    by_cases q : i = w
    · rw [if_pos (nI_le (by omega) (by omega))]
    · have q1 : i < w := by omega
      rw [if_neg (nI_ge q1 (by omega)), if_neg (nI_in (by omega) (by omega)), nI_clamp (by omega), if_pos (h3 q1)]
  | succ d ih =>
    intro n i e hn
    obtain ⟨m, rfl⟩ : ∃ m, n = m + 1 := ⟨n - 1, by omega⟩
    show (if nI w ≤ nI i then _ else _) = _
    rw [if_neg (nI_ge (by omega) (by omega)), if_neg (nI_in (by omega) (by omega)), nI_clamp (by omega), if_neg (h2 i (by omega)), nI_1]
    exact ih m (i + 1) (by omega) (by omega)
theorem rem_2 {w : Nat} (ps : Int32) (u1 : Int32) (u4 : Int32) (v5 : Bool) (w_o0_8 : Int32) (w_o0_9 : Int32) (w_r_plain_a : Nat → Int32) (hw : w ≤ 64) : ∀ k n i (gp gh gs : Nat → Int32), i + k + 1 = w → k < n → Bo w gs → of_Md_update_2_b201 n ps u1 u4 (nI w) v5 (nI i) w_o0_8 w_o0_9 w_r_plain_a gh gp gs = some (v5, 0, u4, nI (w - 1), ps, (u1 + 1), w_o0_8, w_o0_9, w_r_plain_a, sh k i gp, sh k i gh, sh k i gs) := by
  intro k
  induction k with
  | zero =>
    intro n i gp gh gs e hn _
    obtain ⟨m, rfl⟩ : ∃ m, n = m + 1 := ⟨n - 1, by omega⟩
    have e1 : nI w - 1 = nI (w - 1) := pk_sub (a := w) (b := 1) (by omega)
    show (if nI w - 1 ≤ nI i then _ else _) = _
    rw [e1, if_pos (nI_le (by omega) (by omega))]
    rfl
  | succ k ih =>
    intro n i gp gh gs e hn hb
    obtain ⟨m, rfl⟩ : ∃ m, n = m + 1 := ⟨n - 1, by omega⟩
    have e1 : nI w - 1 = nI (w - 1) := pk_sub (a := w) (b := 1) (by omega)
    obtain ⟨b, eb⟩ := hb (i + 1) (by omega)
    have hb2 : Bo w (upd gs i (gs (i + 1))) := by
      rw [eb]; exact hb.upd i b
    have hi := ih m (i + 1) (upd gp i (gp (i + 1))) (upd gh i (gh (i + 1))) (upd gs i (gs (i + 1))) (by omega) (by omega) hb2
    show (if nI w - 1 ≤ nI i then _ else _) = _
    rw [e1, if_neg (nI_ge (by omega) (by omega)), nI_1, if_neg (nI_in (by omega) (by omega)), if_neg (nI_in (by omega) (by omega)), if_neg (nI_in (by omega) (by omega)), if_neg (nI_in (by omega) (by omega)), if_neg (nI_in (by omega) (by omega)), if_neg (nI_in (by omega) (by omega)), nI_clamp (by omega), nI_clamp (by omega), eb, nar_b, ← eb]
    exact hi
theorem upd_2 {w o : Nat} {ps : Int32} {u1 : Int32} {u2 : Int32} {u3 : Int32} {u4 : Int32} {ud : Int32} {wf1 : Nat → Int32} {wf2 : Nat → Int32} {wf3 : Nat → Int32} {zs0 : Int32} {mk0 : Int32} {n1 : Nat} {f1 : Nat → Int32} {pl : Int32} {tk : Bool} {mbt : Int32} {mrw : Int32} {mwt : Int32} {g_plain : Nat → Int32} {gp : Nat → Int32} {gh : Nat → Int32} {gs : Nat → Int32} {lg0 : Nat → Int32} {H : Int32} {c : Bool} (hq : Qu w ud mwt wf1 wf2 wf3 gp gh gs) (ho : IsOd w gp pl o) (hH : H = if o = w then ps else gh o) (hc : tf_Counters_says zs0 mk0 false n1 f1 pl H = c) (hm : of_Md_says_2 mbt mrw g_plain pl = some c) (hml : of_Md_learn_2 mbt mrw g_plain pl tk = some (lg0)) : ∃ (w' : Nat) (u4' ps' ud' : Int32) (p1 p2 p3 q1 q2 q3 : Nat → Int32), of_PK_update_Counters ps u1 u2 u3 u4 ud wf1 wf2 wf3 zs0 mk0 false n1 f1 pl tk = some ((c == tk), (u3 + bI tk), u4', ps', (u1 + 1), (u2 + bI (!(c == tk))), ud', p1, p2, p3, ((tf_Counters_learn zs0 mk0 false n1 f1 pl H tk))) ∧ of_Md_update_2 mbt mrw ps u1 u2 u3 u4 mwt g_plain gp gh gs pl tk = some ((c == tk), 0, u4', ud', ps', (u1 + 1), (u2 + bI (!(c == tk))), (u3 + bI tk), lg0, q1, q2, q3) ∧ Qu w' ud' ud' p1 p2 p3 q1 q2 q3 := by
  obtain ⟨hw, rfl, rfl, a1, a2, a3, hb⟩ := hq
  have c1 := oldest_class hw (ho.ag a1)
  have h1 := ho.1
  have m1 := scan_2 mbt mrw ps u1 u2 u3 u4 g_plain gp gh gs pl tk hw ho o 4096 0 (by omega) (by omega)
  have hms : of_Md_update_2 mbt mrw ps u1 u2 u3 u4 (nI w) g_plain gp gh gs pl tk = of_Md_update_2_b31 mbt mrw ps u1 u2 u3 u4 (nI w) g_plain gp gh gs pl tk (nI o) := m1
  by_cases q : o = w
  · rw [if_pos q] at c1 hH
    subst hH
    subst q
    refine ⟨o, u4, tf_PK_behind H tk, nI o, wf1, wf2, wf3, gp, gh, gs, ?_, ?_, hw, rfl, rfl, a1, a2, a3, hb⟩
    · unfold of_PK_update_Counters of_PK_update_Counters_b28 of_PK_update_Counters_b49 of_PK_update_Counters_b95
      rw [c1, Option.bind_some, if_pos (show (-1 : Int32) < 0 by decide)]
      simp only [hc, Option.bind_some, settle_none]
      cases c <;> cases tk <;> simp only [ite_t0, ite_f0, ite_tt, ite_ff, ite_tf, ite_ft] <;> rfl
    · rw [hms]
      unfold of_Md_update_2_b31 of_Md_update_2_b52 of_Md_update_2_b70 of_Md_update_2_b105 of_Md_update_2_b123
      rw [if_pos (nI_le (Nat.le_refl o) (by omega))]
      simp only [hm, hml, Option.bind_some, if_pos, bh_eq]
      cases c <;> cases tk <;> simp only [ite_t0, ite_f0, ite_tt, ite_ff, ite_tf, ite_ft] <;> rfl
  · have q1 : o < w := by omega
    rw [if_neg q] at c1 hH
    obtain ⟨b, eb⟩ := hb o q1
    have hin : ¬ (nI o < 0 ∨ 64 ≤ (nI o).toNatClampNeg) := nI_in (by omega) (by omega)
    have hne : ¬ nI o = nI w := fun z => q ((nI_eq (by omega) (by omega)).mp z)
    have hh : tf_Waiting_historyBefore wf2 (nI o) = H := by
      unfold tf_Waiting_historyBefore
      rw [at_in (by omega) (by omega), a2 o q1, hH]
    have hg : gh (nI o).toNatClampNeg = H := by rw [nI_clamp (by omega), hH]
    have hs : gs (nI o).toNatClampNeg = bI b := by rw [nI_clamp (by omega), eb]
    by_cases r : b = tk
    · subst r
      refine ⟨w - 1, u4, ps, nI (w - 1), sh (w - 1 - o) o wf1, sh (w - 1 - o) o wf2, sh (w - 1 - o) o wf3, sh (w - 1 - o) o gp, sh (w - 1 - o) o gh, sh (w - 1 - o) o gs, ?_, ?_, by omega, rfl, rfl, (fun j hj => sh_ag _ _ _ _ (by omega) a1 j (by omega)), (fun j hj => sh_ag _ _ _ _ (by omega) a2 j (by omega)), (fun j hj => sh_ag _ _ _ _ (by omega) a3 j (by omega)), (fun j hj => sh_bo _ _ _ (by omega) hb j (by omega))⟩
      · unfold of_PK_update_Counters of_PK_update_Counters_b28 of_PK_update_Counters_b49 of_PK_update_Counters_b95
        rw [c1, Option.bind_some, if_neg (nI_pos (by omega)), hh]
        simp only [hc, Option.bind_some, settle_right hw q1 a3 eb]
        cases c <;> cases b <;> simp only [ite_t0, ite_f0, ite_tt, ite_ff, ite_tf, ite_ft] <;> rfl
      · rw [hms]
        unfold of_Md_update_2_b31 of_Md_update_2_b52 of_Md_update_2_b70 of_Md_update_2_b105 of_Md_update_2_b123
        rw [if_neg (nI_ge q1 (by omega)), if_neg hin, hg]
        simp only [hm, hml, Option.bind_some, if_neg hne, if_neg hin, hs, ite_same]
        cases c <;> cases b <;> simp only [ite_t0, ite_f0, ite_tt, ite_ff, ite_tf, ite_ft] <;> exact rem_2 _ _ _ _ _ _ _ hw (w - 1 - o) 4096 o gp gh gs (by omega) (by omega) hb
    · refine ⟨0, u4 + 1, tf_PK_behind H tk, 0, wf1, wf2, wf3, gp, gh, gs, ?_, ?_, by omega, rfl, rfl, (fun j hj => absurd hj (by omega)), (fun j hj => absurd hj (by omega)), (fun j hj => absurd hj (by omega)), (fun j hj => absurd hj (by omega))⟩
      · unfold of_PK_update_Counters of_PK_update_Counters_b28 of_PK_update_Counters_b49 of_PK_update_Counters_b95
        rw [c1, Option.bind_some, if_neg (nI_pos (by omega)), hh]
        simp only [hc, Option.bind_some, settle_wrong hw q1 a3 eb r]
        cases c <;> cases tk <;> simp only [ite_t0, ite_f0, ite_tt, ite_ff, ite_tf, ite_ft] <;> rfl
      · have r2 : ¬ bI b = bI tk := fun z => r (bI_inj.mp z)
        rw [hms]
        unfold of_Md_update_2_b31 of_Md_update_2_b52 of_Md_update_2_b70 of_Md_update_2_b105 of_Md_update_2_b123
        rw [if_neg (nI_ge q1 (by omega)), if_neg hin, hg]
        simp only [hm, hml, Option.bind_some, if_neg hne, if_neg hin, hs, if_neg r2, bh_eq]
        cases c <;> cases tk <;> simp only [ite_t0, ite_f0, ite_tt, ite_ff, ite_tf, ite_ft] <;> rfl
theorem scan_3 {w o : Nat} (mrw : Int32) (ps : Int32) (u1 : Int32) (u2 : Int32) (u3 : Int32) (u4 : Int32) (g_mixed : Nat → Int32) (gp : Nat → Int32) (gh : Nat → Int32) (gs : Nat → Int32) (pl : Int32) (tk : Bool) (hw : w ≤ 64) (h : IsOd w gp pl o) : ∀ d n i, i + d = o → d < n → of_Md_update_3_b7 n mrw ps u1 u2 u3 u4 (nI w) g_mixed gp gh gs pl tk (nI i) = of_Md_update_3_b31 mrw ps u1 u2 u3 u4 (nI w) g_mixed gp gh gs pl tk (nI o) := by
  obtain ⟨h1, h2, h3⟩ := h
  intro d
  induction d with
  | zero =>
    intro n i e hn
    have e1 : i = o := by omega
    subst e1
    obtain ⟨m, rfl⟩ : ∃ m, n = m + 1 := ⟨n - 1, by omega⟩
    show (if nI w ≤ nI i then _ else _) = _
    by_cases q : i = w
    · rw [if_pos (nI_le (by omega) (by omega))]
    · have q1 : i < w := by omega
      rw [if_neg (nI_ge q1 (by omega)), if_neg (nI_in (by omega) (by omega)), nI_clamp (by omega), if_pos (h3 q1)]
  | succ d ih =>
    intro n i e hn
    obtain ⟨m, rfl⟩ : ∃ m, n = m + 1 := ⟨n - 1, by omega⟩
    show (if nI w ≤ nI i then _ else _) = _
    rw [if_neg (nI_ge (by omega) (by omega)), if_neg (nI_in (by omega) (by omega)), nI_clamp (by omega), if_neg (h2 i (by omega)), nI_1]
    exact ih m (i + 1) (by omega) (by omega)
theorem rem_3 {w : Nat} (ps : Int32) (u1 : Int32) (u4 : Int32) (v5 : Bool) (w_o0_8 : Int32) (w_o0_9 : Int32) (w_r_mixed_a : Nat → Int32) (hw : w ≤ 64) : ∀ k n i (gp gh gs : Nat → Int32), i + k + 1 = w → k < n → Bo w gs → of_Md_update_3_b201 n ps u1 u4 (nI w) v5 (nI i) w_o0_8 w_o0_9 w_r_mixed_a gh gp gs = some (v5, 0, u4, nI (w - 1), ps, (u1 + 1), w_o0_8, w_o0_9, w_r_mixed_a, sh k i gp, sh k i gh, sh k i gs) := by
  intro k
  induction k with
  | zero =>
    intro n i gp gh gs e hn _
    obtain ⟨m, rfl⟩ : ∃ m, n = m + 1 := ⟨n - 1, by omega⟩
    have e1 : nI w - 1 = nI (w - 1) := pk_sub (a := w) (b := 1) (by omega)
    show (if nI w - 1 ≤ nI i then _ else _) = _
    rw [e1, if_pos (nI_le (by omega) (by omega))]
    rfl
  | succ k ih =>
    intro n i gp gh gs e hn hb
    obtain ⟨m, rfl⟩ : ∃ m, n = m + 1 := ⟨n - 1, by omega⟩
    have e1 : nI w - 1 = nI (w - 1) := pk_sub (a := w) (b := 1) (by omega)
    obtain ⟨b, eb⟩ := hb (i + 1) (by omega)
    have hb2 : Bo w (upd gs i (gs (i + 1))) := by
      rw [eb]; exact hb.upd i b
    have hi := ih m (i + 1) (upd gp i (gp (i + 1))) (upd gh i (gh (i + 1))) (upd gs i (gs (i + 1))) (by omega) (by omega) hb2
    show (if nI w - 1 ≤ nI i then _ else _) = _
    rw [e1, if_neg (nI_ge (by omega) (by omega)), nI_1, if_neg (nI_in (by omega) (by omega)), if_neg (nI_in (by omega) (by omega)), if_neg (nI_in (by omega) (by omega)), if_neg (nI_in (by omega) (by omega)), if_neg (nI_in (by omega) (by omega)), if_neg (nI_in (by omega) (by omega)), nI_clamp (by omega), nI_clamp (by omega), eb, nar_b, ← eb]
    exact hi
theorem upd_3 {w o : Nat} {ps : Int32} {u1 : Int32} {u2 : Int32} {u3 : Int32} {u4 : Int32} {ud : Int32} {wf1 : Nat → Int32} {wf2 : Nat → Int32} {wf3 : Nat → Int32} {zs0 : Int32} {mk0 : Int32} {n1 : Nat} {f1 : Nat → Int32} {pl : Int32} {tk : Bool} {mrw : Int32} {mwt : Int32} {g_mixed : Nat → Int32} {gp : Nat → Int32} {gh : Nat → Int32} {gs : Nat → Int32} {lg0 : Nat → Int32} {H : Int32} {c : Bool} (hq : Qu w ud mwt wf1 wf2 wf3 gp gh gs) (ho : IsOd w gp pl o) (hH : H = if o = w then ps else gh o) (hc : tf_Counters_says zs0 mk0 true n1 f1 pl H = c) (hm : of_Md_says_3 mrw g_mixed pl H = some c) (hml : of_Md_learn_3 mrw g_mixed pl H tk = some (lg0)) : ∃ (w' : Nat) (u4' ps' ud' : Int32) (p1 p2 p3 q1 q2 q3 : Nat → Int32), of_PK_update_Counters ps u1 u2 u3 u4 ud wf1 wf2 wf3 zs0 mk0 true n1 f1 pl tk = some ((c == tk), (u3 + bI tk), u4', ps', (u1 + 1), (u2 + bI (!(c == tk))), ud', p1, p2, p3, ((tf_Counters_learn zs0 mk0 true n1 f1 pl H tk))) ∧ of_Md_update_3 mrw ps u1 u2 u3 u4 mwt g_mixed gp gh gs pl tk = some ((c == tk), 0, u4', ud', ps', (u1 + 1), (u2 + bI (!(c == tk))), (u3 + bI tk), lg0, q1, q2, q3) ∧ Qu w' ud' ud' p1 p2 p3 q1 q2 q3 := by
  obtain ⟨hw, rfl, rfl, a1, a2, a3, hb⟩ := hq
  have c1 := oldest_class hw (ho.ag a1)
  have h1 := ho.1
  have m1 := scan_3 mrw ps u1 u2 u3 u4 g_mixed gp gh gs pl tk hw ho o 4096 0 (by omega) (by omega)
  have hms : of_Md_update_3 mrw ps u1 u2 u3 u4 (nI w) g_mixed gp gh gs pl tk = of_Md_update_3_b31 mrw ps u1 u2 u3 u4 (nI w) g_mixed gp gh gs pl tk (nI o) := m1
  by_cases q : o = w
  · rw [if_pos q] at c1 hH
    subst hH
    subst q
    refine ⟨o, u4, tf_PK_behind H tk, nI o, wf1, wf2, wf3, gp, gh, gs, ?_, ?_, hw, rfl, rfl, a1, a2, a3, hb⟩
    · unfold of_PK_update_Counters of_PK_update_Counters_b28 of_PK_update_Counters_b49 of_PK_update_Counters_b95
      rw [c1, Option.bind_some, if_pos (show (-1 : Int32) < 0 by decide)]
      simp only [hc, Option.bind_some, settle_none]
      cases c <;> cases tk <;> simp only [ite_t0, ite_f0, ite_tt, ite_ff, ite_tf, ite_ft] <;> rfl
    · rw [hms]
      unfold of_Md_update_3_b31 of_Md_update_3_b52 of_Md_update_3_b70 of_Md_update_3_b105 of_Md_update_3_b123
      rw [if_pos (nI_le (Nat.le_refl o) (by omega))]
      simp only [hm, hml, Option.bind_some, if_pos, bh_eq]
      cases c <;> cases tk <;> simp only [ite_t0, ite_f0, ite_tt, ite_ff, ite_tf, ite_ft] <;> rfl
  · have q1 : o < w := by omega
    rw [if_neg q] at c1 hH
    obtain ⟨b, eb⟩ := hb o q1
    have hin : ¬ (nI o < 0 ∨ 64 ≤ (nI o).toNatClampNeg) := nI_in (by omega) (by omega)
    have hne : ¬ nI o = nI w := fun z => q ((nI_eq (by omega) (by omega)).mp z)
    have hh : tf_Waiting_historyBefore wf2 (nI o) = H := by
      unfold tf_Waiting_historyBefore
      rw [at_in (by omega) (by omega), a2 o q1, hH]
    have hg : gh (nI o).toNatClampNeg = H := by rw [nI_clamp (by omega), hH]
    have hs : gs (nI o).toNatClampNeg = bI b := by rw [nI_clamp (by omega), eb]
    by_cases r : b = tk
    · subst r
      refine ⟨w - 1, u4, ps, nI (w - 1), sh (w - 1 - o) o wf1, sh (w - 1 - o) o wf2, sh (w - 1 - o) o wf3, sh (w - 1 - o) o gp, sh (w - 1 - o) o gh, sh (w - 1 - o) o gs, ?_, ?_, by omega, rfl, rfl, (fun j hj => sh_ag _ _ _ _ (by omega) a1 j (by omega)), (fun j hj => sh_ag _ _ _ _ (by omega) a2 j (by omega)), (fun j hj => sh_ag _ _ _ _ (by omega) a3 j (by omega)), (fun j hj => sh_bo _ _ _ (by omega) hb j (by omega))⟩
      · unfold of_PK_update_Counters of_PK_update_Counters_b28 of_PK_update_Counters_b49 of_PK_update_Counters_b95
        rw [c1, Option.bind_some, if_neg (nI_pos (by omega)), hh]
        simp only [hc, Option.bind_some, settle_right hw q1 a3 eb]
        cases c <;> cases b <;> simp only [ite_t0, ite_f0, ite_tt, ite_ff, ite_tf, ite_ft] <;> rfl
      · rw [hms]
        unfold of_Md_update_3_b31 of_Md_update_3_b52 of_Md_update_3_b70 of_Md_update_3_b105 of_Md_update_3_b123
        rw [if_neg (nI_ge q1 (by omega)), if_neg hin, hg]
        simp only [hm, hml, Option.bind_some, if_neg hne, if_neg hin, hs, ite_same]
        cases c <;> cases b <;> simp only [ite_t0, ite_f0, ite_tt, ite_ff, ite_tf, ite_ft] <;> exact rem_3 _ _ _ _ _ _ _ hw (w - 1 - o) 4096 o gp gh gs (by omega) (by omega) hb
    · refine ⟨0, u4 + 1, tf_PK_behind H tk, 0, wf1, wf2, wf3, gp, gh, gs, ?_, ?_, by omega, rfl, rfl, (fun j hj => absurd hj (by omega)), (fun j hj => absurd hj (by omega)), (fun j hj => absurd hj (by omega)), (fun j hj => absurd hj (by omega))⟩
      · unfold of_PK_update_Counters of_PK_update_Counters_b28 of_PK_update_Counters_b49 of_PK_update_Counters_b95
        rw [c1, Option.bind_some, if_neg (nI_pos (by omega)), hh]
        simp only [hc, Option.bind_some, settle_wrong hw q1 a3 eb r]
        cases c <;> cases tk <;> simp only [ite_t0, ite_f0, ite_tt, ite_ff, ite_tf, ite_ft] <;> rfl
      · have r2 : ¬ bI b = bI tk := fun z => r (bI_inj.mp z)
        rw [hms]
        unfold of_Md_update_3_b31 of_Md_update_3_b52 of_Md_update_3_b70 of_Md_update_3_b105 of_Md_update_3_b123
        rw [if_neg (nI_ge q1 (by omega)), if_neg hin, hg]
        simp only [hm, hml, Option.bind_some, if_neg hne, if_neg hin, hs, if_neg r2, bh_eq]
        cases c <;> cases tk <;> simp only [ite_t0, ite_f0, ite_tt, ite_ff, ite_tf, ite_ft] <;> rfl
theorem scan_4 {w o : Nat} (mbt : Int32) (mrw : Int32) (ps : Int32) (u1 : Int32) (u2 : Int32) (u3 : Int32) (u4 : Int32) (g_own : Nat → Int32) (g_ownCounter : Nat → Int32) (gp : Nat → Int32) (gh : Nat → Int32) (gs : Nat → Int32) (pl : Int32) (tk : Bool) (hw : w ≤ 64) (h : IsOd w gp pl o) : ∀ d n i, i + d = o → d < n → of_Md_update_4_b7 n mbt mrw ps u1 u2 u3 u4 (nI w) g_own g_ownCounter gp gh gs pl tk (nI i) = of_Md_update_4_b31 mbt mrw ps u1 u2 u3 u4 (nI w) g_own g_ownCounter gp gh gs pl tk (nI o) := by
  obtain ⟨h1, h2, h3⟩ := h
  intro d
  induction d with
  | zero =>
    intro n i e hn
    have e1 : i = o := by omega
    subst e1
    obtain ⟨m, rfl⟩ : ∃ m, n = m + 1 := ⟨n - 1, by omega⟩
    show (if nI w ≤ nI i then _ else _) = _
    by_cases q : i = w
    · rw [if_pos (nI_le (by omega) (by omega))]
    · have q1 : i < w := by omega
      rw [if_neg (nI_ge q1 (by omega)), if_neg (nI_in (by omega) (by omega)), nI_clamp (by omega), if_pos (h3 q1)]
  | succ d ih =>
    intro n i e hn
    obtain ⟨m, rfl⟩ : ∃ m, n = m + 1 := ⟨n - 1, by omega⟩
    show (if nI w ≤ nI i then _ else _) = _
    rw [if_neg (nI_ge (by omega) (by omega)), if_neg (nI_in (by omega) (by omega)), nI_clamp (by omega), if_neg (h2 i (by omega)), nI_1]
    exact ih m (i + 1) (by omega) (by omega)
theorem rem_4 {w : Nat} (ps : Int32) (u1 : Int32) (u4 : Int32) (v5 : Bool) (w_o0_8 : Int32) (w_o0_9 : Int32) (w_r_own_a : Nat → Int32) (w_r_ownCounter_a : Nat → Int32) (hw : w ≤ 64) : ∀ k n i (gp gh gs : Nat → Int32), i + k + 1 = w → k < n → Bo w gs → of_Md_update_4_b201 n ps u1 u4 (nI w) v5 (nI i) w_o0_8 w_o0_9 w_r_own_a w_r_ownCounter_a gh gp gs = some (v5, 0, u4, nI (w - 1), ps, (u1 + 1), w_o0_8, w_o0_9, w_r_own_a, w_r_ownCounter_a, sh k i gp, sh k i gh, sh k i gs) := by
  intro k
  induction k with
  | zero =>
    intro n i gp gh gs e hn _
    obtain ⟨m, rfl⟩ : ∃ m, n = m + 1 := ⟨n - 1, by omega⟩
    have e1 : nI w - 1 = nI (w - 1) := pk_sub (a := w) (b := 1) (by omega)
    show (if nI w - 1 ≤ nI i then _ else _) = _
    rw [e1, if_pos (nI_le (by omega) (by omega))]
    rfl
  | succ k ih =>
    intro n i gp gh gs e hn hb
    obtain ⟨m, rfl⟩ : ∃ m, n = m + 1 := ⟨n - 1, by omega⟩
    have e1 : nI w - 1 = nI (w - 1) := pk_sub (a := w) (b := 1) (by omega)
    obtain ⟨b, eb⟩ := hb (i + 1) (by omega)
    have hb2 : Bo w (upd gs i (gs (i + 1))) := by
      rw [eb]; exact hb.upd i b
    have hi := ih m (i + 1) (upd gp i (gp (i + 1))) (upd gh i (gh (i + 1))) (upd gs i (gs (i + 1))) (by omega) (by omega) hb2
    show (if nI w - 1 ≤ nI i then _ else _) = _
    rw [e1, if_neg (nI_ge (by omega) (by omega)), nI_1, if_neg (nI_in (by omega) (by omega)), if_neg (nI_in (by omega) (by omega)), if_neg (nI_in (by omega) (by omega)), if_neg (nI_in (by omega) (by omega)), if_neg (nI_in (by omega) (by omega)), if_neg (nI_in (by omega) (by omega)), nI_clamp (by omega), nI_clamp (by omega), eb, nar_b, ← eb]
    exact hi
theorem upd_4 {w o : Nat} {ps : Int32} {u1 : Int32} {u2 : Int32} {u3 : Int32} {u4 : Int32} {ud : Int32} {wf1 : Nat → Int32} {wf2 : Nat → Int32} {wf3 : Nat → Int32} {zs0 : Int32} {mk0 : Int32} {n1 : Nat} {f1 : Nat → Int32} {n2 : Nat} {f2 : Nat → Int32} {pl : Int32} {tk : Bool} {mbt : Int32} {mrw : Int32} {mwt : Int32} {g_own : Nat → Int32} {g_ownCounter : Nat → Int32} {gp : Nat → Int32} {gh : Nat → Int32} {gs : Nat → Int32} {lg0 : Nat → Int32} {lg1 : Nat → Int32} {H : Int32} {c : Bool} (hq : Qu w ud mwt wf1 wf2 wf3 gp gh gs) (ho : IsOd w gp pl o) (hH : H = if o = w then ps else gh o) (hc : tf_Own_says zs0 mk0 n1 f1 n2 f2 pl = c) (hm : of_Md_says_4 mbt mrw g_own g_ownCounter pl = some c) (hml : of_Md_learn_4 mbt mrw g_own g_ownCounter pl tk = some (lg0, lg1)) : ∃ (w' : Nat) (u4' ps' ud' : Int32) (p1 p2 p3 q1 q2 q3 : Nat → Int32), of_PK_update_Own ps u1 u2 u3 u4 ud wf1 wf2 wf3 zs0 mk0 n1 f1 n2 f2 pl tk = some ((c == tk), (u3 + bI tk), u4', ps', (u1 + 1), (u2 + bI (!(c == tk))), ud', p1, p2, p3, ((tf_Own_learn zs0 mk0 n1 f1 n2 f2 pl tk).1), ((tf_Own_learn zs0 mk0 n1 f1 n2 f2 pl tk).2)) ∧ of_Md_update_4 mbt mrw ps u1 u2 u3 u4 mwt g_own g_ownCounter gp gh gs pl tk = some ((c == tk), 0, u4', ud', ps', (u1 + 1), (u2 + bI (!(c == tk))), (u3 + bI tk), lg0, lg1, q1, q2, q3) ∧ Qu w' ud' ud' p1 p2 p3 q1 q2 q3 := by
  obtain ⟨hw, rfl, rfl, a1, a2, a3, hb⟩ := hq
  have c1 := oldest_class hw (ho.ag a1)
  have h1 := ho.1
  have m1 := scan_4 mbt mrw ps u1 u2 u3 u4 g_own g_ownCounter gp gh gs pl tk hw ho o 4096 0 (by omega) (by omega)
  have hms : of_Md_update_4 mbt mrw ps u1 u2 u3 u4 (nI w) g_own g_ownCounter gp gh gs pl tk = of_Md_update_4_b31 mbt mrw ps u1 u2 u3 u4 (nI w) g_own g_ownCounter gp gh gs pl tk (nI o) := m1
  by_cases q : o = w
  · rw [if_pos q] at c1 hH
    subst hH
    subst q
    refine ⟨o, u4, tf_PK_behind H tk, nI o, wf1, wf2, wf3, gp, gh, gs, ?_, ?_, hw, rfl, rfl, a1, a2, a3, hb⟩
    · unfold of_PK_update_Own of_PK_update_Own_b28 of_PK_update_Own_b49 of_PK_update_Own_b95
      rw [c1, Option.bind_some, if_pos (show (-1 : Int32) < 0 by decide)]
      simp only [hc, Option.bind_some, settle_none]
      cases c <;> cases tk <;> simp only [ite_t0, ite_f0, ite_tt, ite_ff, ite_tf, ite_ft] <;> rfl
    · rw [hms]
      unfold of_Md_update_4_b31 of_Md_update_4_b52 of_Md_update_4_b70 of_Md_update_4_b105 of_Md_update_4_b123
      rw [if_pos (nI_le (Nat.le_refl o) (by omega))]
      simp only [hm, hml, Option.bind_some, if_pos, bh_eq]
      cases c <;> cases tk <;> simp only [ite_t0, ite_f0, ite_tt, ite_ff, ite_tf, ite_ft] <;> rfl
  · have q1 : o < w := by omega
    rw [if_neg q] at c1 hH
    obtain ⟨b, eb⟩ := hb o q1
    have hin : ¬ (nI o < 0 ∨ 64 ≤ (nI o).toNatClampNeg) := nI_in (by omega) (by omega)
    have hne : ¬ nI o = nI w := fun z => q ((nI_eq (by omega) (by omega)).mp z)
    have hh : tf_Waiting_historyBefore wf2 (nI o) = H := by
      unfold tf_Waiting_historyBefore
      rw [at_in (by omega) (by omega), a2 o q1, hH]
    have hg : gh (nI o).toNatClampNeg = H := by rw [nI_clamp (by omega), hH]
    have hs : gs (nI o).toNatClampNeg = bI b := by rw [nI_clamp (by omega), eb]
    by_cases r : b = tk
    · subst r
      refine ⟨w - 1, u4, ps, nI (w - 1), sh (w - 1 - o) o wf1, sh (w - 1 - o) o wf2, sh (w - 1 - o) o wf3, sh (w - 1 - o) o gp, sh (w - 1 - o) o gh, sh (w - 1 - o) o gs, ?_, ?_, by omega, rfl, rfl, (fun j hj => sh_ag _ _ _ _ (by omega) a1 j (by omega)), (fun j hj => sh_ag _ _ _ _ (by omega) a2 j (by omega)), (fun j hj => sh_ag _ _ _ _ (by omega) a3 j (by omega)), (fun j hj => sh_bo _ _ _ (by omega) hb j (by omega))⟩
      · unfold of_PK_update_Own of_PK_update_Own_b28 of_PK_update_Own_b49 of_PK_update_Own_b95
        rw [c1, Option.bind_some, if_neg (nI_pos (by omega)), hh]
        simp only [hc, Option.bind_some, settle_right hw q1 a3 eb]
        cases c <;> cases b <;> simp only [ite_t0, ite_f0, ite_tt, ite_ff, ite_tf, ite_ft] <;> rfl
      · rw [hms]
        unfold of_Md_update_4_b31 of_Md_update_4_b52 of_Md_update_4_b70 of_Md_update_4_b105 of_Md_update_4_b123
        rw [if_neg (nI_ge q1 (by omega)), if_neg hin, hg]
        simp only [hm, hml, Option.bind_some, if_neg hne, if_neg hin, hs, ite_same]
        cases c <;> cases b <;> simp only [ite_t0, ite_f0, ite_tt, ite_ff, ite_tf, ite_ft] <;> exact rem_4 _ _ _ _ _ _ _ _ hw (w - 1 - o) 4096 o gp gh gs (by omega) (by omega) hb
    · refine ⟨0, u4 + 1, tf_PK_behind H tk, 0, wf1, wf2, wf3, gp, gh, gs, ?_, ?_, by omega, rfl, rfl, (fun j hj => absurd hj (by omega)), (fun j hj => absurd hj (by omega)), (fun j hj => absurd hj (by omega)), (fun j hj => absurd hj (by omega))⟩
      · unfold of_PK_update_Own of_PK_update_Own_b28 of_PK_update_Own_b49 of_PK_update_Own_b95
        rw [c1, Option.bind_some, if_neg (nI_pos (by omega)), hh]
        simp only [hc, Option.bind_some, settle_wrong hw q1 a3 eb r]
        cases c <;> cases tk <;> simp only [ite_t0, ite_f0, ite_tt, ite_ff, ite_tf, ite_ft] <;> rfl
      · have r2 : ¬ bI b = bI tk := fun z => r (bI_inj.mp z)
        rw [hms]
        unfold of_Md_update_4_b31 of_Md_update_4_b52 of_Md_update_4_b70 of_Md_update_4_b105 of_Md_update_4_b123
        rw [if_neg (nI_ge q1 (by omega)), if_neg hin, hg]
        simp only [hm, hml, Option.bind_some, if_neg hne, if_neg hin, hs, if_neg r2, bh_eq]
        cases c <;> cases tk <;> simp only [ite_t0, ite_f0, ite_tt, ite_ff, ite_tf, ite_ft] <;> rfl
theorem scan_5 {w o : Nat} (mbt : Int32) (mrw : Int32) (ps : Int32) (u1 : Int32) (u2 : Int32) (u3 : Int32) (u4 : Int32) (g_plain : Nat → Int32) (g_mixed : Nat → Int32) (g_chooser : Nat → Int32) (gp : Nat → Int32) (gh : Nat → Int32) (gs : Nat → Int32) (pl : Int32) (tk : Bool) (hw : w ≤ 64) (h : IsOd w gp pl o) : ∀ d n i, i + d = o → d < n → of_Md_update_5_b7 n mbt mrw ps u1 u2 u3 u4 (nI w) g_plain g_mixed g_chooser gp gh gs pl tk (nI i) = of_Md_update_5_b31 mbt mrw ps u1 u2 u3 u4 (nI w) g_plain g_mixed g_chooser gp gh gs pl tk (nI o) := by
  obtain ⟨h1, h2, h3⟩ := h
  intro d
  induction d with
  | zero =>
    intro n i e hn
    have e1 : i = o := by omega
    subst e1
    obtain ⟨m, rfl⟩ : ∃ m, n = m + 1 := ⟨n - 1, by omega⟩
    show (if nI w ≤ nI i then _ else _) = _
    by_cases q : i = w
    · rw [if_pos (nI_le (by omega) (by omega))]
    · have q1 : i < w := by omega
      rw [if_neg (nI_ge q1 (by omega)), if_neg (nI_in (by omega) (by omega)), nI_clamp (by omega), if_pos (h3 q1)]
  | succ d ih =>
    intro n i e hn
    obtain ⟨m, rfl⟩ : ∃ m, n = m + 1 := ⟨n - 1, by omega⟩
    show (if nI w ≤ nI i then _ else _) = _
    rw [if_neg (nI_ge (by omega) (by omega)), if_neg (nI_in (by omega) (by omega)), nI_clamp (by omega), if_neg (h2 i (by omega)), nI_1]
    exact ih m (i + 1) (by omega) (by omega)
theorem rem_5 {w : Nat} (ps : Int32) (u1 : Int32) (u4 : Int32) (v5 : Bool) (w_o0_8 : Int32) (w_o0_9 : Int32) (w_r_chooser_a : Nat → Int32) (w_r_mixed_a : Nat → Int32) (w_r_plain_a : Nat → Int32) (hw : w ≤ 64) : ∀ k n i (gp gh gs : Nat → Int32), i + k + 1 = w → k < n → Bo w gs → of_Md_update_5_b201 n ps u1 u4 (nI w) v5 (nI i) w_o0_8 w_o0_9 w_r_chooser_a w_r_mixed_a w_r_plain_a gh gp gs = some (v5, 0, u4, nI (w - 1), ps, (u1 + 1), w_o0_8, w_o0_9, w_r_plain_a, w_r_mixed_a, w_r_chooser_a, sh k i gp, sh k i gh, sh k i gs) := by
  intro k
  induction k with
  | zero =>
    intro n i gp gh gs e hn _
    obtain ⟨m, rfl⟩ : ∃ m, n = m + 1 := ⟨n - 1, by omega⟩
    have e1 : nI w - 1 = nI (w - 1) := pk_sub (a := w) (b := 1) (by omega)
    show (if nI w - 1 ≤ nI i then _ else _) = _
    rw [e1, if_pos (nI_le (by omega) (by omega))]
    rfl
  | succ k ih =>
    intro n i gp gh gs e hn hb
    obtain ⟨m, rfl⟩ : ∃ m, n = m + 1 := ⟨n - 1, by omega⟩
    have e1 : nI w - 1 = nI (w - 1) := pk_sub (a := w) (b := 1) (by omega)
    obtain ⟨b, eb⟩ := hb (i + 1) (by omega)
    have hb2 : Bo w (upd gs i (gs (i + 1))) := by
      rw [eb]; exact hb.upd i b
    have hi := ih m (i + 1) (upd gp i (gp (i + 1))) (upd gh i (gh (i + 1))) (upd gs i (gs (i + 1))) (by omega) (by omega) hb2
    show (if nI w - 1 ≤ nI i then _ else _) = _
    rw [e1, if_neg (nI_ge (by omega) (by omega)), nI_1, if_neg (nI_in (by omega) (by omega)), if_neg (nI_in (by omega) (by omega)), if_neg (nI_in (by omega) (by omega)), if_neg (nI_in (by omega) (by omega)), if_neg (nI_in (by omega) (by omega)), if_neg (nI_in (by omega) (by omega)), nI_clamp (by omega), nI_clamp (by omega), eb, nar_b, ← eb]
    exact hi
theorem upd_5 {w o : Nat} {ps : Int32} {u1 : Int32} {u2 : Int32} {u3 : Int32} {u4 : Int32} {ud : Int32} {wf1 : Nat → Int32} {wf2 : Nat → Int32} {wf3 : Nat → Int32} {zs0 : Int32} {mk0 : Int32} {n1 : Nat} {f1 : Nat → Int32} {n2 : Nat} {f2 : Nat → Int32} {n3 : Nat} {f3 : Nat → Int32} {pl : Int32} {tk : Bool} {mbt : Int32} {mrw : Int32} {mwt : Int32} {g_plain : Nat → Int32} {g_mixed : Nat → Int32} {g_chooser : Nat → Int32} {gp : Nat → Int32} {gh : Nat → Int32} {gs : Nat → Int32} {lg0 : Nat → Int32} {lg1 : Nat → Int32} {lg2 : Nat → Int32} {H : Int32} {c : Bool} (hq : Qu w ud mwt wf1 wf2 wf3 gp gh gs) (ho : IsOd w gp pl o) (hH : H = if o = w then ps else gh o) (hc : tf_Chooser_says zs0 mk0 n1 f1 n2 f2 n3 f3 pl H = c) (hm : of_Md_says_5 mbt mrw g_plain g_mixed g_chooser pl H = some c) (hml : of_Md_learn_5 mbt mrw g_plain g_mixed g_chooser pl H tk = some (lg0, lg1, lg2)) : ∃ (w' : Nat) (u4' ps' ud' : Int32) (p1 p2 p3 q1 q2 q3 : Nat → Int32), of_PK_update_Chooser ps u1 u2 u3 u4 ud wf1 wf2 wf3 zs0 mk0 n1 f1 n2 f2 n3 f3 pl tk = some ((c == tk), (u3 + bI tk), u4', ps', (u1 + 1), (u2 + bI (!(c == tk))), ud', p1, p2, p3, ((tf_Chooser_learn zs0 mk0 n1 f1 n2 f2 n3 f3 pl H tk).1), ((tf_Chooser_learn zs0 mk0 n1 f1 n2 f2 n3 f3 pl H tk).2.1), ((tf_Chooser_learn zs0 mk0 n1 f1 n2 f2 n3 f3 pl H tk).2.2)) ∧ of_Md_update_5 mbt mrw ps u1 u2 u3 u4 mwt g_plain g_mixed g_chooser gp gh gs pl tk = some ((c == tk), 0, u4', ud', ps', (u1 + 1), (u2 + bI (!(c == tk))), (u3 + bI tk), lg0, lg1, lg2, q1, q2, q3) ∧ Qu w' ud' ud' p1 p2 p3 q1 q2 q3 := by
  obtain ⟨hw, rfl, rfl, a1, a2, a3, hb⟩ := hq
  have c1 := oldest_class hw (ho.ag a1)
  have h1 := ho.1
  have m1 := scan_5 mbt mrw ps u1 u2 u3 u4 g_plain g_mixed g_chooser gp gh gs pl tk hw ho o 4096 0 (by omega) (by omega)
  have hms : of_Md_update_5 mbt mrw ps u1 u2 u3 u4 (nI w) g_plain g_mixed g_chooser gp gh gs pl tk = of_Md_update_5_b31 mbt mrw ps u1 u2 u3 u4 (nI w) g_plain g_mixed g_chooser gp gh gs pl tk (nI o) := m1
  by_cases q : o = w
  · rw [if_pos q] at c1 hH
    subst hH
    subst q
    refine ⟨o, u4, tf_PK_behind H tk, nI o, wf1, wf2, wf3, gp, gh, gs, ?_, ?_, hw, rfl, rfl, a1, a2, a3, hb⟩
    · unfold of_PK_update_Chooser of_PK_update_Chooser_b28 of_PK_update_Chooser_b49 of_PK_update_Chooser_b95
      rw [c1, Option.bind_some, if_pos (show (-1 : Int32) < 0 by decide)]
      simp only [hc, Option.bind_some, settle_none]
      cases c <;> cases tk <;> simp only [ite_t0, ite_f0, ite_tt, ite_ff, ite_tf, ite_ft] <;> rfl
    · rw [hms]
      unfold of_Md_update_5_b31 of_Md_update_5_b52 of_Md_update_5_b70 of_Md_update_5_b105 of_Md_update_5_b123
      rw [if_pos (nI_le (Nat.le_refl o) (by omega))]
      simp only [hm, hml, Option.bind_some, if_pos, bh_eq]
      cases c <;> cases tk <;> simp only [ite_t0, ite_f0, ite_tt, ite_ff, ite_tf, ite_ft] <;> rfl
  · have q1 : o < w := by omega
    rw [if_neg q] at c1 hH
    obtain ⟨b, eb⟩ := hb o q1
    have hin : ¬ (nI o < 0 ∨ 64 ≤ (nI o).toNatClampNeg) := nI_in (by omega) (by omega)
    have hne : ¬ nI o = nI w := fun z => q ((nI_eq (by omega) (by omega)).mp z)
    have hh : tf_Waiting_historyBefore wf2 (nI o) = H := by
      unfold tf_Waiting_historyBefore
      rw [at_in (by omega) (by omega), a2 o q1, hH]
    have hg : gh (nI o).toNatClampNeg = H := by rw [nI_clamp (by omega), hH]
    have hs : gs (nI o).toNatClampNeg = bI b := by rw [nI_clamp (by omega), eb]
    by_cases r : b = tk
    · subst r
      refine ⟨w - 1, u4, ps, nI (w - 1), sh (w - 1 - o) o wf1, sh (w - 1 - o) o wf2, sh (w - 1 - o) o wf3, sh (w - 1 - o) o gp, sh (w - 1 - o) o gh, sh (w - 1 - o) o gs, ?_, ?_, by omega, rfl, rfl, (fun j hj => sh_ag _ _ _ _ (by omega) a1 j (by omega)), (fun j hj => sh_ag _ _ _ _ (by omega) a2 j (by omega)), (fun j hj => sh_ag _ _ _ _ (by omega) a3 j (by omega)), (fun j hj => sh_bo _ _ _ (by omega) hb j (by omega))⟩
      · unfold of_PK_update_Chooser of_PK_update_Chooser_b28 of_PK_update_Chooser_b49 of_PK_update_Chooser_b95
        rw [c1, Option.bind_some, if_neg (nI_pos (by omega)), hh]
        simp only [hc, Option.bind_some, settle_right hw q1 a3 eb]
        cases c <;> cases b <;> simp only [ite_t0, ite_f0, ite_tt, ite_ff, ite_tf, ite_ft] <;> rfl
      · rw [hms]
        unfold of_Md_update_5_b31 of_Md_update_5_b52 of_Md_update_5_b70 of_Md_update_5_b105 of_Md_update_5_b123
        rw [if_neg (nI_ge q1 (by omega)), if_neg hin, hg]
        simp only [hm, hml, Option.bind_some, if_neg hne, if_neg hin, hs, ite_same]
        cases c <;> cases b <;> simp only [ite_t0, ite_f0, ite_tt, ite_ff, ite_tf, ite_ft] <;> exact rem_5 _ _ _ _ _ _ _ _ _ hw (w - 1 - o) 4096 o gp gh gs (by omega) (by omega) hb
    · refine ⟨0, u4 + 1, tf_PK_behind H tk, 0, wf1, wf2, wf3, gp, gh, gs, ?_, ?_, by omega, rfl, rfl, (fun j hj => absurd hj (by omega)), (fun j hj => absurd hj (by omega)), (fun j hj => absurd hj (by omega)), (fun j hj => absurd hj (by omega))⟩
      · unfold of_PK_update_Chooser of_PK_update_Chooser_b28 of_PK_update_Chooser_b49 of_PK_update_Chooser_b95
        rw [c1, Option.bind_some, if_neg (nI_pos (by omega)), hh]
        simp only [hc, Option.bind_some, settle_wrong hw q1 a3 eb r]
        cases c <;> cases tk <;> simp only [ite_t0, ite_f0, ite_tt, ite_ff, ite_tf, ite_ft] <;> rfl
      · have r2 : ¬ bI b = bI tk := fun z => r (bI_inj.mp z)
        rw [hms]
        unfold of_Md_update_5_b31 of_Md_update_5_b52 of_Md_update_5_b70 of_Md_update_5_b105 of_Md_update_5_b123
        rw [if_neg (nI_ge q1 (by omega)), if_neg hin, hg]
        simp only [hm, hml, Option.bind_some, if_neg hne, if_neg hin, hs, if_neg r2, bh_eq]
        cases c <;> cases tk <;> simp only [ite_t0, ite_f0, ite_tt, ite_ff, ite_tf, ite_ft] <;> rfl
theorem scan_6 {w o : Nat} (mbt : Int32) (mrw : Int32) (ps : Int32) (u1 : Int32) (u2 : Int32) (u3 : Int32) (u4 : Int32) (g_plain : Nat → Int32) (g_tag : Nat → Int32) (g_sum : Nat → Int32) (g_use : Nat → Int32) (gp : Nat → Int32) (gh : Nat → Int32) (gs : Nat → Int32) (pl : Int32) (tk : Bool) (hw : w ≤ 64) (h : IsOd w gp pl o) : ∀ d n i, i + d = o → d < n → of_Md_update_6_b7 n mbt mrw ps u1 u2 u3 u4 (nI w) g_plain g_tag g_sum g_use gp gh gs pl tk (nI i) = of_Md_update_6_b31 mbt mrw ps u1 u2 u3 u4 (nI w) g_plain g_tag g_sum g_use gp gh gs pl tk (nI o) := by
  obtain ⟨h1, h2, h3⟩ := h
  intro d
  induction d with
  | zero =>
    intro n i e hn
    have e1 : i = o := by omega
    subst e1
    obtain ⟨m, rfl⟩ : ∃ m, n = m + 1 := ⟨n - 1, by omega⟩
    show (if nI w ≤ nI i then _ else _) = _
    by_cases q : i = w
    · rw [if_pos (nI_le (by omega) (by omega))]
    · have q1 : i < w := by omega
      rw [if_neg (nI_ge q1 (by omega)), if_neg (nI_in (by omega) (by omega)), nI_clamp (by omega), if_pos (h3 q1)]
  | succ d ih =>
    intro n i e hn
    obtain ⟨m, rfl⟩ : ∃ m, n = m + 1 := ⟨n - 1, by omega⟩
    show (if nI w ≤ nI i then _ else _) = _
    rw [if_neg (nI_ge (by omega) (by omega)), if_neg (nI_in (by omega) (by omega)), nI_clamp (by omega), if_neg (h2 i (by omega)), nI_1]
    exact ih m (i + 1) (by omega) (by omega)
theorem rem_6 {w : Nat} (ps : Int32) (u1 : Int32) (u4 : Int32) (v5 : Bool) (w_o0_8 : Int32) (w_o0_9 : Int32) (w_r_plain_a : Nat → Int32) (w_r_sum_a : Nat → Int32) (w_r_tag_a : Nat → Int32) (w_r_use_a : Nat → Int32) (hw : w ≤ 64) : ∀ k n i (gp gh gs : Nat → Int32), i + k + 1 = w → k < n → Bo w gs → of_Md_update_6_b201 n ps u1 u4 (nI w) v5 (nI i) w_o0_8 w_o0_9 w_r_plain_a w_r_sum_a w_r_tag_a w_r_use_a gh gp gs = some (v5, 0, u4, nI (w - 1), ps, (u1 + 1), w_o0_8, w_o0_9, w_r_plain_a, w_r_tag_a, w_r_sum_a, w_r_use_a, sh k i gp, sh k i gh, sh k i gs) := by
  intro k
  induction k with
  | zero =>
    intro n i gp gh gs e hn _
    obtain ⟨m, rfl⟩ : ∃ m, n = m + 1 := ⟨n - 1, by omega⟩
    have e1 : nI w - 1 = nI (w - 1) := pk_sub (a := w) (b := 1) (by omega)
    show (if nI w - 1 ≤ nI i then _ else _) = _
    rw [e1, if_pos (nI_le (by omega) (by omega))]
    rfl
  | succ k ih =>
    intro n i gp gh gs e hn hb
    obtain ⟨m, rfl⟩ : ∃ m, n = m + 1 := ⟨n - 1, by omega⟩
    have e1 : nI w - 1 = nI (w - 1) := pk_sub (a := w) (b := 1) (by omega)
    obtain ⟨b, eb⟩ := hb (i + 1) (by omega)
    have hb2 : Bo w (upd gs i (gs (i + 1))) := by
      rw [eb]; exact hb.upd i b
    have hi := ih m (i + 1) (upd gp i (gp (i + 1))) (upd gh i (gh (i + 1))) (upd gs i (gs (i + 1))) (by omega) (by omega) hb2
    show (if nI w - 1 ≤ nI i then _ else _) = _
    rw [e1, if_neg (nI_ge (by omega) (by omega)), nI_1, if_neg (nI_in (by omega) (by omega)), if_neg (nI_in (by omega) (by omega)), if_neg (nI_in (by omega) (by omega)), if_neg (nI_in (by omega) (by omega)), if_neg (nI_in (by omega) (by omega)), if_neg (nI_in (by omega) (by omega)), nI_clamp (by omega), nI_clamp (by omega), eb, nar_b, ← eb]
    exact hi
theorem upd_6 {w o : Nat} {ps : Int32} {u1 : Int32} {u2 : Int32} {u3 : Int32} {u4 : Int32} {ud : Int32} {wf1 : Nat → Int32} {wf2 : Nat → Int32} {wf3 : Nat → Int32} {zs0 : Int32} {rw0 : Int32} {mk0 : Int32} {n0 : Nat} {f0 : Nat → Int32} {n1 : Nat} {f1 : Nat → Int32} {n2 : Nat} {f2 : Nat → Int32} {n3 : Nat} {f3 : Nat → Int32} {pl : Int32} {tk : Bool} {mbt : Int32} {mrw : Int32} {mwt : Int32} {g_plain : Nat → Int32} {g_tag : Nat → Int32} {g_sum : Nat → Int32} {g_use : Nat → Int32} {gp : Nat → Int32} {gh : Nat → Int32} {gs : Nat → Int32} {lf0 : Nat → Int32} {lf1 : Nat → Int32} {lf2 : Nat → Int32} {lf3 : Nat → Int32} {lg0 : Nat → Int32} {lg1 : Nat → Int32} {lg2 : Nat → Int32} {lg3 : Nat → Int32} {H : Int32} {c : Bool} (hq : Qu w ud mwt wf1 wf2 wf3 gp gh gs) (ho : IsOd w gp pl o) (hH : H = if o = w then ps else gh o) (hc : of_Tagged_says zs0 rw0 mk0 n0 f0 n1 f1 n2 f2 pl H = some c) (hm : of_Md_says_6 mbt mrw g_plain g_tag g_sum pl H = some c) (hl : of_Tagged_learn zs0 rw0 mk0 n0 f0 n1 f1 n2 f2 n3 f3 pl H tk = some (lf0, lf1, lf2, lf3)) (hml : of_Md_learn_6 mbt mrw g_plain g_tag g_sum g_use pl H tk = some (lg0, lg1, lg2, lg3)) : ∃ (w' : Nat) (u4' ps' ud' : Int32) (p1 p2 p3 q1 q2 q3 : Nat → Int32), of_PK_update_Tagged ps u1 u2 u3 u4 ud wf1 wf2 wf3 zs0 rw0 mk0 n0 f0 n1 f1 n2 f2 n3 f3 pl tk = some ((c == tk), (u3 + bI tk), u4', ps', (u1 + 1), (u2 + bI (!(c == tk))), ud', p1, p2, p3, lf0, lf1, lf2, lf3) ∧ of_Md_update_6 mbt mrw ps u1 u2 u3 u4 mwt g_plain g_tag g_sum g_use gp gh gs pl tk = some ((c == tk), 0, u4', ud', ps', (u1 + 1), (u2 + bI (!(c == tk))), (u3 + bI tk), lg0, lg1, lg2, lg3, q1, q2, q3) ∧ Qu w' ud' ud' p1 p2 p3 q1 q2 q3 := by
  obtain ⟨hw, rfl, rfl, a1, a2, a3, hb⟩ := hq
  have c1 := oldest_class hw (ho.ag a1)
  have h1 := ho.1
  have m1 := scan_6 mbt mrw ps u1 u2 u3 u4 g_plain g_tag g_sum g_use gp gh gs pl tk hw ho o 4096 0 (by omega) (by omega)
  have hms : of_Md_update_6 mbt mrw ps u1 u2 u3 u4 (nI w) g_plain g_tag g_sum g_use gp gh gs pl tk = of_Md_update_6_b31 mbt mrw ps u1 u2 u3 u4 (nI w) g_plain g_tag g_sum g_use gp gh gs pl tk (nI o) := m1
  by_cases q : o = w
  · rw [if_pos q] at c1 hH
    subst hH
    subst q
    refine ⟨o, u4, tf_PK_behind H tk, nI o, wf1, wf2, wf3, gp, gh, gs, ?_, ?_, hw, rfl, rfl, a1, a2, a3, hb⟩
    · unfold of_PK_update_Tagged of_PK_update_Tagged_b28 of_PK_update_Tagged_b49 of_PK_update_Tagged_b95
      rw [c1, Option.bind_some, if_pos (show (-1 : Int32) < 0 by decide)]
      simp only [hc, hl, Option.bind_some, settle_none]
      cases c <;> cases tk <;> simp only [ite_t0, ite_f0, ite_tt, ite_ff, ite_tf, ite_ft] <;> rfl
    · rw [hms]
      unfold of_Md_update_6_b31 of_Md_update_6_b52 of_Md_update_6_b70 of_Md_update_6_b105 of_Md_update_6_b123
      rw [if_pos (nI_le (Nat.le_refl o) (by omega))]
      simp only [hm, hml, Option.bind_some, if_pos, bh_eq]
      cases c <;> cases tk <;> simp only [ite_t0, ite_f0, ite_tt, ite_ff, ite_tf, ite_ft] <;> rfl
  · have q1 : o < w := by omega
    rw [if_neg q] at c1 hH
    obtain ⟨b, eb⟩ := hb o q1
    have hin : ¬ (nI o < 0 ∨ 64 ≤ (nI o).toNatClampNeg) := nI_in (by omega) (by omega)
    have hne : ¬ nI o = nI w := fun z => q ((nI_eq (by omega) (by omega)).mp z)
    have hh : tf_Waiting_historyBefore wf2 (nI o) = H := by
      unfold tf_Waiting_historyBefore
      rw [at_in (by omega) (by omega), a2 o q1, hH]
    have hg : gh (nI o).toNatClampNeg = H := by rw [nI_clamp (by omega), hH]
    have hs : gs (nI o).toNatClampNeg = bI b := by rw [nI_clamp (by omega), eb]
    by_cases r : b = tk
    · subst r
      refine ⟨w - 1, u4, ps, nI (w - 1), sh (w - 1 - o) o wf1, sh (w - 1 - o) o wf2, sh (w - 1 - o) o wf3, sh (w - 1 - o) o gp, sh (w - 1 - o) o gh, sh (w - 1 - o) o gs, ?_, ?_, by omega, rfl, rfl, (fun j hj => sh_ag _ _ _ _ (by omega) a1 j (by omega)), (fun j hj => sh_ag _ _ _ _ (by omega) a2 j (by omega)), (fun j hj => sh_ag _ _ _ _ (by omega) a3 j (by omega)), (fun j hj => sh_bo _ _ _ (by omega) hb j (by omega))⟩
      · unfold of_PK_update_Tagged of_PK_update_Tagged_b28 of_PK_update_Tagged_b49 of_PK_update_Tagged_b95
        rw [c1, Option.bind_some, if_neg (nI_pos (by omega)), hh]
        simp only [hc, hl, Option.bind_some, settle_right hw q1 a3 eb]
        cases c <;> cases b <;> simp only [ite_t0, ite_f0, ite_tt, ite_ff, ite_tf, ite_ft] <;> rfl
      · rw [hms]
        unfold of_Md_update_6_b31 of_Md_update_6_b52 of_Md_update_6_b70 of_Md_update_6_b105 of_Md_update_6_b123
        rw [if_neg (nI_ge q1 (by omega)), if_neg hin, hg]
        simp only [hm, hml, Option.bind_some, if_neg hne, if_neg hin, hs, ite_same]
        cases c <;> cases b <;> simp only [ite_t0, ite_f0, ite_tt, ite_ff, ite_tf, ite_ft] <;> exact rem_6 _ _ _ _ _ _ _ _ _ _ hw (w - 1 - o) 4096 o gp gh gs (by omega) (by omega) hb
    · refine ⟨0, u4 + 1, tf_PK_behind H tk, 0, wf1, wf2, wf3, gp, gh, gs, ?_, ?_, by omega, rfl, rfl, (fun j hj => absurd hj (by omega)), (fun j hj => absurd hj (by omega)), (fun j hj => absurd hj (by omega)), (fun j hj => absurd hj (by omega))⟩
      · unfold of_PK_update_Tagged of_PK_update_Tagged_b28 of_PK_update_Tagged_b49 of_PK_update_Tagged_b95
        rw [c1, Option.bind_some, if_neg (nI_pos (by omega)), hh]
        simp only [hc, hl, Option.bind_some, settle_wrong hw q1 a3 eb r]
        cases c <;> cases tk <;> simp only [ite_t0, ite_f0, ite_tt, ite_ff, ite_tf, ite_ft] <;> rfl
      · have r2 : ¬ bI b = bI tk := fun z => r (bI_inj.mp z)
        rw [hms]
        unfold of_Md_update_6_b31 of_Md_update_6_b52 of_Md_update_6_b70 of_Md_update_6_b105 of_Md_update_6_b123
        rw [if_neg (nI_ge q1 (by omega)), if_neg hin, hg]
        simp only [hm, hml, Option.bind_some, if_neg hne, if_neg hin, hs, if_neg r2, bh_eq]
        cases c <;> cases tk <;> simp only [ite_t0, ite_f0, ite_tt, ite_ff, ite_tf, ite_ft] <;> rfl
theorem scan_7 {w o : Nat} (mbt : Int32) (mrw : Int32) (ps : Int32) (u1 : Int32) (u2 : Int32) (u3 : Int32) (u4 : Int32) (g_weight : Nat → Int32) (gp : Nat → Int32) (gh : Nat → Int32) (gs : Nat → Int32) (pl : Int32) (tk : Bool) (hw : w ≤ 64) (h : IsOd w gp pl o) : ∀ d n i, i + d = o → d < n → of_Md_update_7_b7 n mbt mrw ps u1 u2 u3 u4 (nI w) g_weight gp gh gs pl tk (nI i) = of_Md_update_7_b31 mbt mrw ps u1 u2 u3 u4 (nI w) g_weight gp gh gs pl tk (nI o) := by
  obtain ⟨h1, h2, h3⟩ := h
  intro d
  induction d with
  | zero =>
    intro n i e hn
    have e1 : i = o := by omega
    subst e1
    obtain ⟨m, rfl⟩ : ∃ m, n = m + 1 := ⟨n - 1, by omega⟩
    show (if nI w ≤ nI i then _ else _) = _
    by_cases q : i = w
    · rw [if_pos (nI_le (by omega) (by omega))]
    · have q1 : i < w := by omega
      rw [if_neg (nI_ge q1 (by omega)), if_neg (nI_in (by omega) (by omega)), nI_clamp (by omega), if_pos (h3 q1)]
  | succ d ih =>
    intro n i e hn
    obtain ⟨m, rfl⟩ : ∃ m, n = m + 1 := ⟨n - 1, by omega⟩
    show (if nI w ≤ nI i then _ else _) = _
    rw [if_neg (nI_ge (by omega) (by omega)), if_neg (nI_in (by omega) (by omega)), nI_clamp (by omega), if_neg (h2 i (by omega)), nI_1]
    exact ih m (i + 1) (by omega) (by omega)
theorem rem_7 {w : Nat} (ps : Int32) (u1 : Int32) (u4 : Int32) (v5 : Bool) (w_o0_8 : Int32) (w_o0_9 : Int32) (w_r_weight_a : Nat → Int32) (hw : w ≤ 64) : ∀ k n i (gp gh gs : Nat → Int32), i + k + 1 = w → k < n → Bo w gs → of_Md_update_7_b201 n ps u1 u4 (nI w) v5 (nI i) w_o0_8 w_o0_9 gh gp gs w_r_weight_a = some (v5, 0, u4, nI (w - 1), ps, (u1 + 1), w_o0_8, w_o0_9, w_r_weight_a, sh k i gp, sh k i gh, sh k i gs) := by
  intro k
  induction k with
  | zero =>
    intro n i gp gh gs e hn _
    obtain ⟨m, rfl⟩ : ∃ m, n = m + 1 := ⟨n - 1, by omega⟩
    have e1 : nI w - 1 = nI (w - 1) := pk_sub (a := w) (b := 1) (by omega)
    show (if nI w - 1 ≤ nI i then _ else _) = _
    rw [e1, if_pos (nI_le (by omega) (by omega))]
    rfl
  | succ k ih =>
    intro n i gp gh gs e hn hb
    obtain ⟨m, rfl⟩ : ∃ m, n = m + 1 := ⟨n - 1, by omega⟩
    have e1 : nI w - 1 = nI (w - 1) := pk_sub (a := w) (b := 1) (by omega)
    obtain ⟨b, eb⟩ := hb (i + 1) (by omega)
    have hb2 : Bo w (upd gs i (gs (i + 1))) := by
      rw [eb]; exact hb.upd i b
    have hi := ih m (i + 1) (upd gp i (gp (i + 1))) (upd gh i (gh (i + 1))) (upd gs i (gs (i + 1))) (by omega) (by omega) hb2
    show (if nI w - 1 ≤ nI i then _ else _) = _
    rw [e1, if_neg (nI_ge (by omega) (by omega)), nI_1, if_neg (nI_in (by omega) (by omega)), if_neg (nI_in (by omega) (by omega)), if_neg (nI_in (by omega) (by omega)), if_neg (nI_in (by omega) (by omega)), if_neg (nI_in (by omega) (by omega)), if_neg (nI_in (by omega) (by omega)), nI_clamp (by omega), nI_clamp (by omega), eb, nar_b, ← eb]
    exact hi
theorem upd_7 {w o : Nat} {ps : Int32} {u1 : Int32} {u2 : Int32} {u3 : Int32} {u4 : Int32} {ud : Int32} {wf1 : Nat → Int32} {wf2 : Nat → Int32} {wf3 : Nat → Int32} {zs0 : Int32} {mk0 : Int32} {n1 : Nat} {f1 : Nat → Int32} {pl : Int32} {tk : Bool} {mbt : Int32} {mrw : Int32} {mwt : Int32} {g_weight : Nat → Int32} {gp : Nat → Int32} {gh : Nat → Int32} {gs : Nat → Int32} {lf0 : Nat → Int32} {lg0 : Nat → Int32} {H : Int32} {c : Bool} (hq : Qu w ud mwt wf1 wf2 wf3 gp gh gs) (ho : IsOd w gp pl o) (hH : H = if o = w then ps else gh o) (hc : of_Sums_says zs0 mk0 n1 f1 pl H = some c) (hm : of_Md_says_7 mbt mrw g_weight pl H = some c) (hl : of_Sums_learn zs0 mk0 n1 f1 pl H tk = some (lf0)) (hml : of_Md_learn_7 mbt mrw g_weight pl H tk = some (lg0)) : ∃ (w' : Nat) (u4' ps' ud' : Int32) (p1 p2 p3 q1 q2 q3 : Nat → Int32), of_PK_update_Sums ps u1 u2 u3 u4 ud wf1 wf2 wf3 zs0 mk0 n1 f1 pl tk = some ((c == tk), (u3 + bI tk), u4', ps', (u1 + 1), (u2 + bI (!(c == tk))), ud', p1, p2, p3, lf0) ∧ of_Md_update_7 mbt mrw ps u1 u2 u3 u4 mwt g_weight gp gh gs pl tk = some ((c == tk), 0, u4', ud', ps', (u1 + 1), (u2 + bI (!(c == tk))), (u3 + bI tk), lg0, q1, q2, q3) ∧ Qu w' ud' ud' p1 p2 p3 q1 q2 q3 := by
  obtain ⟨hw, rfl, rfl, a1, a2, a3, hb⟩ := hq
  have c1 := oldest_class hw (ho.ag a1)
  have h1 := ho.1
  have m1 := scan_7 mbt mrw ps u1 u2 u3 u4 g_weight gp gh gs pl tk hw ho o 4096 0 (by omega) (by omega)
  have hms : of_Md_update_7 mbt mrw ps u1 u2 u3 u4 (nI w) g_weight gp gh gs pl tk = of_Md_update_7_b31 mbt mrw ps u1 u2 u3 u4 (nI w) g_weight gp gh gs pl tk (nI o) := m1
  by_cases q : o = w
  · rw [if_pos q] at c1 hH
    subst hH
    subst q
    refine ⟨o, u4, tf_PK_behind H tk, nI o, wf1, wf2, wf3, gp, gh, gs, ?_, ?_, hw, rfl, rfl, a1, a2, a3, hb⟩
    · unfold of_PK_update_Sums of_PK_update_Sums_b28 of_PK_update_Sums_b49 of_PK_update_Sums_b95
      rw [c1, Option.bind_some, if_pos (show (-1 : Int32) < 0 by decide)]
      simp only [hc, hl, Option.bind_some, settle_none]
      cases c <;> cases tk <;> simp only [ite_t0, ite_f0, ite_tt, ite_ff, ite_tf, ite_ft] <;> rfl
    · rw [hms]
      unfold of_Md_update_7_b31 of_Md_update_7_b52 of_Md_update_7_b70 of_Md_update_7_b105 of_Md_update_7_b123
      rw [if_pos (nI_le (Nat.le_refl o) (by omega))]
      simp only [hm, hml, Option.bind_some, if_pos, bh_eq]
      cases c <;> cases tk <;> simp only [ite_t0, ite_f0, ite_tt, ite_ff, ite_tf, ite_ft] <;> rfl
  · have q1 : o < w := by omega
    rw [if_neg q] at c1 hH
    obtain ⟨b, eb⟩ := hb o q1
    have hin : ¬ (nI o < 0 ∨ 64 ≤ (nI o).toNatClampNeg) := nI_in (by omega) (by omega)
    have hne : ¬ nI o = nI w := fun z => q ((nI_eq (by omega) (by omega)).mp z)
    have hh : tf_Waiting_historyBefore wf2 (nI o) = H := by
      unfold tf_Waiting_historyBefore
      rw [at_in (by omega) (by omega), a2 o q1, hH]
    have hg : gh (nI o).toNatClampNeg = H := by rw [nI_clamp (by omega), hH]
    have hs : gs (nI o).toNatClampNeg = bI b := by rw [nI_clamp (by omega), eb]
    by_cases r : b = tk
    · subst r
      refine ⟨w - 1, u4, ps, nI (w - 1), sh (w - 1 - o) o wf1, sh (w - 1 - o) o wf2, sh (w - 1 - o) o wf3, sh (w - 1 - o) o gp, sh (w - 1 - o) o gh, sh (w - 1 - o) o gs, ?_, ?_, by omega, rfl, rfl, (fun j hj => sh_ag _ _ _ _ (by omega) a1 j (by omega)), (fun j hj => sh_ag _ _ _ _ (by omega) a2 j (by omega)), (fun j hj => sh_ag _ _ _ _ (by omega) a3 j (by omega)), (fun j hj => sh_bo _ _ _ (by omega) hb j (by omega))⟩
      · unfold of_PK_update_Sums of_PK_update_Sums_b28 of_PK_update_Sums_b49 of_PK_update_Sums_b95
        rw [c1, Option.bind_some, if_neg (nI_pos (by omega)), hh]
        simp only [hc, hl, Option.bind_some, settle_right hw q1 a3 eb]
        cases c <;> cases b <;> simp only [ite_t0, ite_f0, ite_tt, ite_ff, ite_tf, ite_ft] <;> rfl
      · rw [hms]
        unfold of_Md_update_7_b31 of_Md_update_7_b52 of_Md_update_7_b70 of_Md_update_7_b105 of_Md_update_7_b123
        rw [if_neg (nI_ge q1 (by omega)), if_neg hin, hg]
        simp only [hm, hml, Option.bind_some, if_neg hne, if_neg hin, hs, ite_same]
        cases c <;> cases b <;> simp only [ite_t0, ite_f0, ite_tt, ite_ff, ite_tf, ite_ft] <;> exact rem_7 _ _ _ _ _ _ _ hw (w - 1 - o) 4096 o gp gh gs (by omega) (by omega) hb
    · refine ⟨0, u4 + 1, tf_PK_behind H tk, 0, wf1, wf2, wf3, gp, gh, gs, ?_, ?_, by omega, rfl, rfl, (fun j hj => absurd hj (by omega)), (fun j hj => absurd hj (by omega)), (fun j hj => absurd hj (by omega)), (fun j hj => absurd hj (by omega))⟩
      · unfold of_PK_update_Sums of_PK_update_Sums_b28 of_PK_update_Sums_b49 of_PK_update_Sums_b95
        rw [c1, Option.bind_some, if_neg (nI_pos (by omega)), hh]
        simp only [hc, hl, Option.bind_some, settle_wrong hw q1 a3 eb r]
        cases c <;> cases tk <;> simp only [ite_t0, ite_f0, ite_tt, ite_ff, ite_tf, ite_ft] <;> rfl
      · have r2 : ¬ bI b = bI tk := fun z => r (bI_inj.mp z)
        rw [hms]
        unfold of_Md_update_7_b31 of_Md_update_7_b52 of_Md_update_7_b70 of_Md_update_7_b105 of_Md_update_7_b123
        rw [if_neg (nI_ge q1 (by omega)), if_neg hin, hg]
        simp only [hm, hml, Option.bind_some, if_neg hne, if_neg hin, hs, if_neg r2, bh_eq]
        cases c <;> cases tk <;> simp only [ite_t0, ite_f0, ite_tt, ite_ff, ite_tf, ite_ft] <;> rfl
theorem scan_8 {w o : Nat} (mbt : Int32) (mrw : Int32) (ps : Int32) (u1 : Int32) (u2 : Int32) (u3 : Int32) (u4 : Int32) (g_plain : Nat → Int32) (g_loopTag : Nat → Int32) (g_length : Nat → Int32) (g_count : Nat → Int32) (g_trust : Nat → Int32) (gp : Nat → Int32) (gh : Nat → Int32) (gs : Nat → Int32) (pl : Int32) (tk : Bool) (hw : w ≤ 64) (h : IsOd w gp pl o) : ∀ d n i, i + d = o → d < n → of_Md_update_8_b7 n mbt mrw ps u1 u2 u3 u4 (nI w) g_plain g_loopTag g_length g_count g_trust gp gh gs pl tk (nI i) = of_Md_update_8_b31 mbt mrw ps u1 u2 u3 u4 (nI w) g_plain g_loopTag g_length g_count g_trust gp gh gs pl tk (nI o) := by
  obtain ⟨h1, h2, h3⟩ := h
  intro d
  induction d with
  | zero =>
    intro n i e hn
    have e1 : i = o := by omega
    subst e1
    obtain ⟨m, rfl⟩ : ∃ m, n = m + 1 := ⟨n - 1, by omega⟩
    show (if nI w ≤ nI i then _ else _) = _
    by_cases q : i = w
    · rw [if_pos (nI_le (by omega) (by omega))]
    · have q1 : i < w := by omega
      rw [if_neg (nI_ge q1 (by omega)), if_neg (nI_in (by omega) (by omega)), nI_clamp (by omega), if_pos (h3 q1)]
  | succ d ih =>
    intro n i e hn
    obtain ⟨m, rfl⟩ : ∃ m, n = m + 1 := ⟨n - 1, by omega⟩
    show (if nI w ≤ nI i then _ else _) = _
    rw [if_neg (nI_ge (by omega) (by omega)), if_neg (nI_in (by omega) (by omega)), nI_clamp (by omega), if_neg (h2 i (by omega)), nI_1]
    exact ih m (i + 1) (by omega) (by omega)
theorem rem_8 {w : Nat} (ps : Int32) (u1 : Int32) (u4 : Int32) (v5 : Bool) (w_o0_8 : Int32) (w_o0_9 : Int32) (w_r_count_a : Nat → Int32) (w_r_length_a : Nat → Int32) (w_r_loopTag_a : Nat → Int32) (w_r_plain_a : Nat → Int32) (w_r_trust_a : Nat → Int32) (hw : w ≤ 64) : ∀ k n i (gp gh gs : Nat → Int32), i + k + 1 = w → k < n → Bo w gs → of_Md_update_8_b201 n ps u1 u4 (nI w) v5 (nI i) w_o0_8 w_o0_9 w_r_count_a w_r_length_a w_r_loopTag_a w_r_plain_a w_r_trust_a gh gp gs = some (v5, 0, u4, nI (w - 1), ps, (u1 + 1), w_o0_8, w_o0_9, w_r_plain_a, w_r_loopTag_a, w_r_length_a, w_r_count_a, w_r_trust_a, sh k i gp, sh k i gh, sh k i gs) := by
  intro k
  induction k with
  | zero =>
    intro n i gp gh gs e hn _
    obtain ⟨m, rfl⟩ : ∃ m, n = m + 1 := ⟨n - 1, by omega⟩
    have e1 : nI w - 1 = nI (w - 1) := pk_sub (a := w) (b := 1) (by omega)
    show (if nI w - 1 ≤ nI i then _ else _) = _
    rw [e1, if_pos (nI_le (by omega) (by omega))]
    rfl
  | succ k ih =>
    intro n i gp gh gs e hn hb
    obtain ⟨m, rfl⟩ : ∃ m, n = m + 1 := ⟨n - 1, by omega⟩
    have e1 : nI w - 1 = nI (w - 1) := pk_sub (a := w) (b := 1) (by omega)
    obtain ⟨b, eb⟩ := hb (i + 1) (by omega)
    have hb2 : Bo w (upd gs i (gs (i + 1))) := by
      rw [eb]; exact hb.upd i b
    have hi := ih m (i + 1) (upd gp i (gp (i + 1))) (upd gh i (gh (i + 1))) (upd gs i (gs (i + 1))) (by omega) (by omega) hb2
    show (if nI w - 1 ≤ nI i then _ else _) = _
    rw [e1, if_neg (nI_ge (by omega) (by omega)), nI_1, if_neg (nI_in (by omega) (by omega)), if_neg (nI_in (by omega) (by omega)), if_neg (nI_in (by omega) (by omega)), if_neg (nI_in (by omega) (by omega)), if_neg (nI_in (by omega) (by omega)), if_neg (nI_in (by omega) (by omega)), nI_clamp (by omega), nI_clamp (by omega), eb, nar_b, ← eb]
    exact hi
theorem upd_8 {w o : Nat} {ps : Int32} {u1 : Int32} {u2 : Int32} {u3 : Int32} {u4 : Int32} {ud : Int32} {wf1 : Nat → Int32} {wf2 : Nat → Int32} {wf3 : Nat → Int32} {zs0 : Int32} {mk0 : Int32} {n0 : Nat} {f0 : Nat → Int32} {n1 : Nat} {f1 : Nat → Int32} {n2 : Nat} {f2 : Nat → Int32} {n3 : Nat} {f3 : Nat → Int32} {n4 : Nat} {f4 : Nat → Int32} {pl : Int32} {tk : Bool} {mbt : Int32} {mrw : Int32} {mwt : Int32} {g_plain : Nat → Int32} {g_loopTag : Nat → Int32} {g_length : Nat → Int32} {g_count : Nat → Int32} {g_trust : Nat → Int32} {gp : Nat → Int32} {gh : Nat → Int32} {gs : Nat → Int32} {lg0 : Nat → Int32} {lg1 : Nat → Int32} {lg2 : Nat → Int32} {lg3 : Nat → Int32} {lg4 : Nat → Int32} {H : Int32} {c : Bool} (hq : Qu w ud mwt wf1 wf2 wf3 gp gh gs) (ho : IsOd w gp pl o) (hH : H = if o = w then ps else gh o) (hc : tf_Loops_says zs0 mk0 n0 f0 n1 f1 n2 f2 n3 f3 n4 f4 pl H = c) (hm : of_Md_says_8 mbt mrw g_plain g_loopTag g_length g_count g_trust pl = some c) (hml : of_Md_learn_8 mbt mrw g_plain g_loopTag g_length g_count g_trust pl tk = some (lg0, lg1, lg2, lg3, lg4)) : ∃ (w' : Nat) (u4' ps' ud' : Int32) (p1 p2 p3 q1 q2 q3 : Nat → Int32), of_PK_update_Loops ps u1 u2 u3 u4 ud wf1 wf2 wf3 zs0 mk0 n0 f0 n1 f1 n2 f2 n3 f3 n4 f4 pl tk = some ((c == tk), (u3 + bI tk), u4', ps', (u1 + 1), (u2 + bI (!(c == tk))), ud', p1, p2, p3, ((tf_Loops_learn zs0 mk0 n0 f0 n1 f1 n2 f2 n3 f3 n4 f4 pl H tk).1), ((tf_Loops_learn zs0 mk0 n0 f0 n1 f1 n2 f2 n3 f3 n4 f4 pl H tk).2.1), ((tf_Loops_learn zs0 mk0 n0 f0 n1 f1 n2 f2 n3 f3 n4 f4 pl H tk).2.2.1), ((tf_Loops_learn zs0 mk0 n0 f0 n1 f1 n2 f2 n3 f3 n4 f4 pl H tk).2.2.2.1), ((tf_Loops_learn zs0 mk0 n0 f0 n1 f1 n2 f2 n3 f3 n4 f4 pl H tk).2.2.2.2)) ∧ of_Md_update_8 mbt mrw ps u1 u2 u3 u4 mwt g_plain g_loopTag g_length g_count g_trust gp gh gs pl tk = some ((c == tk), 0, u4', ud', ps', (u1 + 1), (u2 + bI (!(c == tk))), (u3 + bI tk), lg0, lg1, lg2, lg3, lg4, q1, q2, q3) ∧ Qu w' ud' ud' p1 p2 p3 q1 q2 q3 := by
  obtain ⟨hw, rfl, rfl, a1, a2, a3, hb⟩ := hq
  have c1 := oldest_class hw (ho.ag a1)
  have h1 := ho.1
  have m1 := scan_8 mbt mrw ps u1 u2 u3 u4 g_plain g_loopTag g_length g_count g_trust gp gh gs pl tk hw ho o 4096 0 (by omega) (by omega)
  have hms : of_Md_update_8 mbt mrw ps u1 u2 u3 u4 (nI w) g_plain g_loopTag g_length g_count g_trust gp gh gs pl tk = of_Md_update_8_b31 mbt mrw ps u1 u2 u3 u4 (nI w) g_plain g_loopTag g_length g_count g_trust gp gh gs pl tk (nI o) := m1
  by_cases q : o = w
  · rw [if_pos q] at c1 hH
    subst hH
    subst q
    refine ⟨o, u4, tf_PK_behind H tk, nI o, wf1, wf2, wf3, gp, gh, gs, ?_, ?_, hw, rfl, rfl, a1, a2, a3, hb⟩
    · unfold of_PK_update_Loops of_PK_update_Loops_b28 of_PK_update_Loops_b49 of_PK_update_Loops_b95
      rw [c1, Option.bind_some, if_pos (show (-1 : Int32) < 0 by decide)]
      simp only [hc, Option.bind_some, settle_none]
      cases c <;> cases tk <;> simp only [ite_t0, ite_f0, ite_tt, ite_ff, ite_tf, ite_ft] <;> rfl
    · rw [hms]
      unfold of_Md_update_8_b31 of_Md_update_8_b52 of_Md_update_8_b70 of_Md_update_8_b105 of_Md_update_8_b123
      rw [if_pos (nI_le (Nat.le_refl o) (by omega))]
      simp only [hm, hml, Option.bind_some, if_pos, bh_eq]
      cases c <;> cases tk <;> simp only [ite_t0, ite_f0, ite_tt, ite_ff, ite_tf, ite_ft] <;> rfl
  · have q1 : o < w := by omega
    rw [if_neg q] at c1 hH
    obtain ⟨b, eb⟩ := hb o q1
    have hin : ¬ (nI o < 0 ∨ 64 ≤ (nI o).toNatClampNeg) := nI_in (by omega) (by omega)
    have hne : ¬ nI o = nI w := fun z => q ((nI_eq (by omega) (by omega)).mp z)
    have hh : tf_Waiting_historyBefore wf2 (nI o) = H := by
      unfold tf_Waiting_historyBefore
      rw [at_in (by omega) (by omega), a2 o q1, hH]
    have hg : gh (nI o).toNatClampNeg = H := by rw [nI_clamp (by omega), hH]
    have hs : gs (nI o).toNatClampNeg = bI b := by rw [nI_clamp (by omega), eb]
    by_cases r : b = tk
    · subst r
      refine ⟨w - 1, u4, ps, nI (w - 1), sh (w - 1 - o) o wf1, sh (w - 1 - o) o wf2, sh (w - 1 - o) o wf3, sh (w - 1 - o) o gp, sh (w - 1 - o) o gh, sh (w - 1 - o) o gs, ?_, ?_, by omega, rfl, rfl, (fun j hj => sh_ag _ _ _ _ (by omega) a1 j (by omega)), (fun j hj => sh_ag _ _ _ _ (by omega) a2 j (by omega)), (fun j hj => sh_ag _ _ _ _ (by omega) a3 j (by omega)), (fun j hj => sh_bo _ _ _ (by omega) hb j (by omega))⟩
      · unfold of_PK_update_Loops of_PK_update_Loops_b28 of_PK_update_Loops_b49 of_PK_update_Loops_b95
        rw [c1, Option.bind_some, if_neg (nI_pos (by omega)), hh]
        simp only [hc, Option.bind_some, settle_right hw q1 a3 eb]
        cases c <;> cases b <;> simp only [ite_t0, ite_f0, ite_tt, ite_ff, ite_tf, ite_ft] <;> rfl
      · rw [hms]
        unfold of_Md_update_8_b31 of_Md_update_8_b52 of_Md_update_8_b70 of_Md_update_8_b105 of_Md_update_8_b123
        rw [if_neg (nI_ge q1 (by omega)), if_neg hin, hg]
        simp only [hm, hml, Option.bind_some, if_neg hne, if_neg hin, hs, ite_same]
        cases c <;> cases b <;> simp only [ite_t0, ite_f0, ite_tt, ite_ff, ite_tf, ite_ft] <;> exact rem_8 _ _ _ _ _ _ _ _ _ _ _ hw (w - 1 - o) 4096 o gp gh gs (by omega) (by omega) hb
    · refine ⟨0, u4 + 1, tf_PK_behind H tk, 0, wf1, wf2, wf3, gp, gh, gs, ?_, ?_, by omega, rfl, rfl, (fun j hj => absurd hj (by omega)), (fun j hj => absurd hj (by omega)), (fun j hj => absurd hj (by omega)), (fun j hj => absurd hj (by omega))⟩
      · unfold of_PK_update_Loops of_PK_update_Loops_b28 of_PK_update_Loops_b49 of_PK_update_Loops_b95
        rw [c1, Option.bind_some, if_neg (nI_pos (by omega)), hh]
        simp only [hc, Option.bind_some, settle_wrong hw q1 a3 eb r]
        cases c <;> cases tk <;> simp only [ite_t0, ite_f0, ite_tt, ite_ff, ite_tf, ite_ft] <;> rfl
      · have r2 : ¬ bI b = bI tk := fun z => r (bI_inj.mp z)
        rw [hms]
        unfold of_Md_update_8_b31 of_Md_update_8_b52 of_Md_update_8_b70 of_Md_update_8_b105 of_Md_update_8_b123
        rw [if_neg (nI_ge q1 (by omega)), if_neg hin, hg]
        simp only [hm, hml, Option.bind_some, if_neg hne, if_neg hin, hs, if_neg r2, bh_eq]
        cases c <;> cases tk <;> simp only [ite_t0, ite_f0, ite_tt, ite_ff, ite_tf, ite_ft] <;> rfl
theorem scan_9 {w o : Nat} (ps : Int32) (mco : Int32) (u1 : Int32) (u2 : Int32) (u3 : Int32) (u4 : Int32) (gp : Nat → Int32) (gh : Nat → Int32) (gs : Nat → Int32) (pl : Int32) (tk : Bool) (hw : w ≤ 64) (h : IsOd w gp pl o) : ∀ d n i, i + d = o → d < n → of_Md_update_9_b7 n ps mco u1 u2 u3 u4 (nI w) gp gh gs pl tk (nI i) = of_Md_update_9_b31 ps mco u1 u2 u3 u4 (nI w) gp gh gs tk (nI o) := by
  obtain ⟨h1, h2, h3⟩ := h
  intro d
  induction d with
  | zero =>
    intro n i e hn
    have e1 : i = o := by omega
    subst e1
    obtain ⟨m, rfl⟩ : ∃ m, n = m + 1 := ⟨n - 1, by omega⟩
    show (if nI w ≤ nI i then _ else _) = _
    by_cases q : i = w
    · rw [if_pos (nI_le (by omega) (by omega))]
    · have q1 : i < w := by omega
      rw [if_neg (nI_ge q1 (by omega)), if_neg (nI_in (by omega) (by omega)), nI_clamp (by omega), if_pos (h3 q1)]
  | succ d ih =>
    intro n i e hn
    obtain ⟨m, rfl⟩ : ∃ m, n = m + 1 := ⟨n - 1, by omega⟩
    show (if nI w ≤ nI i then _ else _) = _
    rw [if_neg (nI_ge (by omega) (by omega)), if_neg (nI_in (by omega) (by omega)), nI_clamp (by omega), if_neg (h2 i (by omega)), nI_1]
    exact ih m (i + 1) (by omega) (by omega)
theorem rem_9 {w : Nat} (ps : Int32) (u1 : Int32) (u4 : Int32) (v5 : Bool) (w_o0_5 : Int32) (w_o0_8 : Int32) (w_o0_9 : Int32) (hw : w ≤ 64) : ∀ k n i (gp gh gs : Nat → Int32), i + k + 1 = w → k < n → Bo w gs → of_Md_update_9_b201 n ps u1 u4 (nI w) v5 (nI i) w_o0_5 w_o0_8 w_o0_9 gh gp gs = some (v5, 0, u4, nI (w - 1), ps, w_o0_5, (u1 + 1), w_o0_8, w_o0_9, sh k i gp, sh k i gh, sh k i gs) := by
  intro k
  induction k with
  | zero =>
    intro n i gp gh gs e hn _
    obtain ⟨m, rfl⟩ : ∃ m, n = m + 1 := ⟨n - 1, by omega⟩
    have e1 : nI w - 1 = nI (w - 1) := pk_sub (a := w) (b := 1) (by omega)
    show (if nI w - 1 ≤ nI i then _ else _) = _
    rw [e1, if_pos (nI_le (by omega) (by omega))]
    rfl
  | succ k ih =>
    intro n i gp gh gs e hn hb
    obtain ⟨m, rfl⟩ : ∃ m, n = m + 1 := ⟨n - 1, by omega⟩
    have e1 : nI w - 1 = nI (w - 1) := pk_sub (a := w) (b := 1) (by omega)
    obtain ⟨b, eb⟩ := hb (i + 1) (by omega)
    have hb2 : Bo w (upd gs i (gs (i + 1))) := by
      rw [eb]; exact hb.upd i b
    have hi := ih m (i + 1) (upd gp i (gp (i + 1))) (upd gh i (gh (i + 1))) (upd gs i (gs (i + 1))) (by omega) (by omega) hb2
    show (if nI w - 1 ≤ nI i then _ else _) = _
    rw [e1, if_neg (nI_ge (by omega) (by omega)), nI_1, if_neg (nI_in (by omega) (by omega)), if_neg (nI_in (by omega) (by omega)), if_neg (nI_in (by omega) (by omega)), if_neg (nI_in (by omega) (by omega)), if_neg (nI_in (by omega) (by omega)), if_neg (nI_in (by omega) (by omega)), nI_clamp (by omega), nI_clamp (by omega), eb, nar_b, ← eb]
    exact hi
theorem upd_9 {w o : Nat} {ps : Int32} {u1 : Int32} {u2 : Int32} {u3 : Int32} {u4 : Int32} {ud : Int32} {wf1 : Nat → Int32} {wf2 : Nat → Int32} {wf3 : Nat → Int32} {xs : Int32} {pl : Int32} {tk : Bool} {mco : Int32} {mwt : Int32} {gp : Nat → Int32} {gh : Nat → Int32} {gs : Nat → Int32} {lg0 : Int32} {H : Int32} {c : Bool} (hq : Qu w ud mwt wf1 wf2 wf3 gp gh gs) (ho : IsOd w gp pl o) (hH : H = if o = w then ps else gh o) (hc : tf_Coin_says xs = c) (hm : of_Md_says_9 mco = some c) (hml : of_Md_learn_9 mco = some (lg0)) : ∃ (w' : Nat) (u4' ps' ud' : Int32) (p1 p2 p3 q1 q2 q3 : Nat → Int32), of_PK_update_Coin ps u1 u2 u3 u4 ud wf1 wf2 wf3 xs pl tk = some ((c == tk), (u3 + bI tk), u4', ps', (u1 + 1), (u2 + bI (!(c == tk))), ud', p1, p2, p3, ((tf_Coin_learn xs))) ∧ of_Md_update_9 ps mco u1 u2 u3 u4 mwt gp gh gs pl tk = some ((c == tk), 0, u4', ud', ps', lg0, (u1 + 1), (u2 + bI (!(c == tk))), (u3 + bI tk), q1, q2, q3) ∧ Qu w' ud' ud' p1 p2 p3 q1 q2 q3 := by
  obtain ⟨hw, rfl, rfl, a1, a2, a3, hb⟩ := hq
  have c1 := oldest_class hw (ho.ag a1)
  have h1 := ho.1
  have m1 := scan_9 ps mco u1 u2 u3 u4 gp gh gs pl tk hw ho o 4096 0 (by omega) (by omega)
  have hms : of_Md_update_9 ps mco u1 u2 u3 u4 (nI w) gp gh gs pl tk = of_Md_update_9_b31 ps mco u1 u2 u3 u4 (nI w) gp gh gs tk (nI o) := m1
  by_cases q : o = w
  · rw [if_pos q] at c1 hH
    subst hH
    subst q
    refine ⟨o, u4, tf_PK_behind H tk, nI o, wf1, wf2, wf3, gp, gh, gs, ?_, ?_, hw, rfl, rfl, a1, a2, a3, hb⟩
    · unfold of_PK_update_Coin of_PK_update_Coin_b28 of_PK_update_Coin_b49 of_PK_update_Coin_b95
      rw [c1, Option.bind_some, if_pos (show (-1 : Int32) < 0 by decide)]
      simp only [hc, Option.bind_some, settle_none]
      cases c <;> cases tk <;> simp only [ite_t0, ite_f0, ite_tt, ite_ff, ite_tf, ite_ft] <;> rfl
    · rw [hms]
      unfold of_Md_update_9_b31 of_Md_update_9_b52 of_Md_update_9_b70 of_Md_update_9_b105 of_Md_update_9_b123
      rw [if_pos (nI_le (Nat.le_refl o) (by omega))]
      simp only [hm, hml, Option.bind_some, if_pos, bh_eq]
      cases c <;> cases tk <;> simp only [ite_t0, ite_f0, ite_tt, ite_ff, ite_tf, ite_ft] <;> rfl
  · have q1 : o < w := by omega
    rw [if_neg q] at c1 hH
    obtain ⟨b, eb⟩ := hb o q1
    have hin : ¬ (nI o < 0 ∨ 64 ≤ (nI o).toNatClampNeg) := nI_in (by omega) (by omega)
    have hne : ¬ nI o = nI w := fun z => q ((nI_eq (by omega) (by omega)).mp z)
    have hh : tf_Waiting_historyBefore wf2 (nI o) = H := by
      unfold tf_Waiting_historyBefore
      rw [at_in (by omega) (by omega), a2 o q1, hH]
    have hg : gh (nI o).toNatClampNeg = H := by rw [nI_clamp (by omega), hH]
    have hs : gs (nI o).toNatClampNeg = bI b := by rw [nI_clamp (by omega), eb]
    by_cases r : b = tk
    · subst r
      refine ⟨w - 1, u4, ps, nI (w - 1), sh (w - 1 - o) o wf1, sh (w - 1 - o) o wf2, sh (w - 1 - o) o wf3, sh (w - 1 - o) o gp, sh (w - 1 - o) o gh, sh (w - 1 - o) o gs, ?_, ?_, by omega, rfl, rfl, (fun j hj => sh_ag _ _ _ _ (by omega) a1 j (by omega)), (fun j hj => sh_ag _ _ _ _ (by omega) a2 j (by omega)), (fun j hj => sh_ag _ _ _ _ (by omega) a3 j (by omega)), (fun j hj => sh_bo _ _ _ (by omega) hb j (by omega))⟩
      · unfold of_PK_update_Coin of_PK_update_Coin_b28 of_PK_update_Coin_b49 of_PK_update_Coin_b95
        rw [c1, Option.bind_some, if_neg (nI_pos (by omega)), hh]
        simp only [hc, Option.bind_some, settle_right hw q1 a3 eb]
        cases c <;> cases b <;> simp only [ite_t0, ite_f0, ite_tt, ite_ff, ite_tf, ite_ft] <;> rfl
      · rw [hms]
        unfold of_Md_update_9_b31 of_Md_update_9_b52 of_Md_update_9_b70 of_Md_update_9_b105 of_Md_update_9_b123
        rw [if_neg (nI_ge q1 (by omega)), if_neg hin, hg]
        simp only [hm, hml, Option.bind_some, if_neg hne, if_neg hin, hs, ite_same]
        cases c <;> cases b <;> simp only [ite_t0, ite_f0, ite_tt, ite_ff, ite_tf, ite_ft] <;> exact rem_9 _ _ _ _ _ _ _ hw (w - 1 - o) 4096 o gp gh gs (by omega) (by omega) hb
    · refine ⟨0, u4 + 1, tf_PK_behind H tk, 0, wf1, wf2, wf3, gp, gh, gs, ?_, ?_, by omega, rfl, rfl, (fun j hj => absurd hj (by omega)), (fun j hj => absurd hj (by omega)), (fun j hj => absurd hj (by omega)), (fun j hj => absurd hj (by omega))⟩
      · unfold of_PK_update_Coin of_PK_update_Coin_b28 of_PK_update_Coin_b49 of_PK_update_Coin_b95
        rw [c1, Option.bind_some, if_neg (nI_pos (by omega)), hh]
        simp only [hc, Option.bind_some, settle_wrong hw q1 a3 eb r]
        cases c <;> cases tk <;> simp only [ite_t0, ite_f0, ite_tt, ite_ff, ite_tf, ite_ft] <;> rfl
      · have r2 : ¬ bI b = bI tk := fun z => r (bI_inj.mp z)
        rw [hms]
        unfold of_Md_update_9_b31 of_Md_update_9_b52 of_Md_update_9_b70 of_Md_update_9_b105 of_Md_update_9_b123
        rw [if_neg (nI_ge q1 (by omega)), if_neg hin, hg]
        simp only [hm, hml, Option.bind_some, if_neg hne, if_neg hin, hs, if_neg r2, bh_eq]
        cases c <;> cases tk <;> simp only [ite_t0, ite_f0, ite_tt, ite_ff, ite_tf, ite_ft] <;> rfl
