/-! TOLD and SEVERAL: class and reference agree, given says (laid by pure2.py) -/
theorem i_or0 (x : Int32) : x ||| 0 = x := by
  apply Int32.toBitVec_inj.mp
  simp
theorem i_lt01 {x : Int32} (h : x < 0) : x < 1 := by
  rw [Int32.lt_iff_toInt_lt] at h ⊢
  have h0 : (0 : Int32).toInt = 0 := by decide
  have h1 : (1 : Int32).toInt = 1 := by decide
  rw [h0] at h
  rw [h1]
  omega
theorem told_0 {w : Nat} {ps : Int32} {ey : Bool} {ud : Int32} {wf1 : Nat → Int32} {wf2 : Nat → Int32} {wf3 : Nat → Int32} {pl : Int32} {mwt : Int32} {gp : Nat → Int32} {gh : Nat → Int32} {gs : Nat → Int32} {c : Bool} (hq : Qu w ud mwt wf1 wf2 wf3 gp gh gs) (hc : tf_Always_says = c) (hm : of_Md_says_0 = some c) : ∃ (w' : Nat) (ps' ud' : Int32) (p1 p2 p3 q1 q2 q3 : Nat → Int32), tf_PK_told_Always ps ey ud wf1 wf2 wf3 pl = (c, ps', ud', p1, p2, p3) ∧ of_Md_told_0 ps ey mwt gp gh gs pl = some (c, 0, ud', ps', q1, q2, q3) ∧ Qu w' ud' ud' p1 p2 p3 q1 q2 q3 := by
  obtain ⟨hw, rfl, rfl, a1, a2, a3, hb⟩ := hq
  cases ey
  · refine ⟨w, ps, nI w, wf1, wf2, wf3, gp, gh, gs, ?_, ?_, hw, rfl, rfl, a1, a2, a3, hb⟩
    · unfold tf_PK_told_Always
      simp only [hc, Option.bind_some, ite_f0]
    · unfold of_Md_told_0
      simp only [hm, Option.bind_some, ite_f0]
  · by_cases q : w < 64
    · have hin : ¬ (nI w < 0 ∨ 64 ≤ (nI w).toNatClampNeg) := nI_in (by omega) (by omega)
      refine ⟨w + 1, tf_PK_behind ps c, nI (w + 1), upd wf1 w pl, upd wf2 w ps, upd wf3 w (bI c), upd gp w pl, upd gh w ps, upd gs w (bI c), ?_, ?_, by omega, rfl, rfl, ag_up a1 pl, ag_up a2 ps, ag_up a3 (bI c), bo_up hb c⟩
      · unfold tf_PK_told_Always
        simp only [hc, Option.bind_some, ite_t0, room_yes q, add_class q]
      · have hge : ¬ (64 : Int32) ≤ nI w := nI_ge (a := w) (b := 64) q (by omega)
        unfold of_Md_told_0
        simp only [hm, Option.bind_some, ite_t0, if_neg hge, if_neg hin, nar_b, nI_1, bh_eq]
        rw [nI_clamp (by omega)]
    · have e : w = 64 := by omega
      subst e
      refine ⟨64, ps, nI 64, wf1, wf2, wf3, gp, gh, gs, ?_, ?_, hw, rfl, rfl, a1, a2, a3, hb⟩
      · unfold tf_PK_told_Always
        simp only [hc, Option.bind_some, ite_t0, ite_f0, room_no]
      · have hge : (64 : Int32) ≤ nI 64 := by decide
        unfold of_Md_told_0
        simp only [hm, Option.bind_some, ite_t0, if_pos hge]
theorem sev_0  (hy : ∀ p h : Int32, ∃ c : Bool, tf_Always_says = c ∧ of_Md_says_0 = some c) {m : Nat} (hm : m ≤ 16) : ∀ d n i x h, i + d = m → d < n → ∃ r, of_PK_several_Always_b32 n (nI m) h x (nI i) = some r ∧ of_Md_several_0_b33 n (nI m) x h (nI i) = some (r, 0) := by
  intro d
  induction d with
  | zero =>
    intro n i x h e hn
    obtain ⟨n, rfl⟩ : ∃ n', n = n' + 1 := ⟨n - 1, by omega⟩
    have e1 : i = m := by omega
    subst e1
    exact ⟨x, if_pos (nI_le (Nat.le_refl _) (by omega)), if_pos (nI_le (Nat.le_refl _) (by omega))⟩
  | succ d ih =>
    intro n i x h e hn
    obtain ⟨n, rfl⟩ : ∃ n', n = n' + 1 := ⟨n - 1, by omega⟩
    have hg : ¬ nI m ≤ nI i := nI_ge (by omega) (by omega)
    obtain ⟨c, s1, s2⟩ := hy (0 + (4 * nI i)) h
    cases c
    · obtain ⟨r, r1, r2⟩ := ih n (i + 1) x (tf_PK_behind h false) (by omega) (by omega)
      refine ⟨r, ?_, ?_⟩
      · unfold of_PK_several_Always_b32
        simp only [if_neg hg, s1, Option.bind_some, ite_f0, nI_1, i_or0]
        exact r1
      · rw [bh_eq] at r2
        unfold of_Md_several_0_b33
        simp only [if_neg hg, s2, Option.bind_some, ite_f0, nI_1]
        exact r2
    · obtain ⟨r, r1, r2⟩ := ih n (i + 1) (x ||| ((1 : Int32) <<< (nI i &&& 31))) (tf_PK_behind h true) (by omega) (by omega)
      refine ⟨r, ?_, ?_⟩
      · unfold of_PK_several_Always_b32
        simp only [if_neg hg, s1, Option.bind_some, ite_t0, nI_1]
        exact r1
      · rw [bh_eq] at r2
        unfold of_Md_several_0_b33
        simp only [if_neg hg, s2, Option.bind_some, ite_t0, nI_1]
        exact r2
theorem several_0  {ps ct0 : Int32} (hy : ∀ p h : Int32, ∃ c : Bool, tf_Always_says = c ∧ of_Md_says_0 = some c) (h1 : ¬ ct0 < 1) (h2 : ct0 ≤ 16) : ∃ r, of_PK_several_Always ps ct0 = some r ∧ of_Md_several_0 ps ct0 = some (r, 0) := by
  obtain ⟨m, hm, rfl⟩ := nI_of2 (x := ct0) (M := 16) (n := 16) (by decide) (fun q => h1 (i_lt01 q)) h2
  obtain ⟨r, r1, r2⟩ := sev_0 hy hm m 4096 0 0 ps (by omega) (by omega)
  exact ⟨r, (if_neg h1).trans ((if_pos h2).trans r1), (if_neg h1).trans ((if_pos h2).trans r2)⟩
theorem severalx_0  {ps ct0 : Int32} (h1 : ct0 < 1 ∨ ¬ ct0 ≤ 16) : of_Md_several_0 ps ct0 = some (0, 1) := by
  unfold of_Md_several_0 of_Md_several_0_b16
  by_cases q : ct0 < 1
  · rw [if_pos q]; rfl
  · rw [if_neg q]
    rcases h1 with z | z
    · exact absurd z q
    · rw [if_neg z]; rfl
theorem told_1 {w : Nat} {ps : Int32} {ey : Bool} {ud : Int32} {wf1 : Nat → Int32} {wf2 : Nat → Int32} {wf3 : Nat → Int32} {zs0 : Int32} {mk0 : Int32} {n1 : Nat} {f1 : Nat → Int32} {pl : Int32} {mbt : Int32} {mrw : Int32} {mwt : Int32} {g_lastBit : Nat → Int32} {gp : Nat → Int32} {gh : Nat → Int32} {gs : Nat → Int32} {c : Bool} (hq : Qu w ud mwt wf1 wf2 wf3 gp gh gs) (hc : tf_Last_says zs0 mk0 n1 f1 pl = c) (hm : of_Md_says_1 mbt mrw g_lastBit pl = some c) : ∃ (w' : Nat) (ps' ud' : Int32) (p1 p2 p3 q1 q2 q3 : Nat → Int32), tf_PK_told_Last ps ey ud wf1 wf2 wf3 zs0 mk0 n1 f1 pl = (c, ps', ud', p1, p2, p3) ∧ of_Md_told_1 mbt mrw ps ey mwt g_lastBit gp gh gs pl = some (c, 0, ud', ps', q1, q2, q3) ∧ Qu w' ud' ud' p1 p2 p3 q1 q2 q3 := by
  obtain ⟨hw, rfl, rfl, a1, a2, a3, hb⟩ := hq
  cases ey
  · refine ⟨w, ps, nI w, wf1, wf2, wf3, gp, gh, gs, ?_, ?_, hw, rfl, rfl, a1, a2, a3, hb⟩
    · unfold tf_PK_told_Last
      simp only [hc, Option.bind_some, ite_f0]
    · unfold of_Md_told_1
      simp only [hm, Option.bind_some, ite_f0]
  · by_cases q : w < 64
    · have hin : ¬ (nI w < 0 ∨ 64 ≤ (nI w).toNatClampNeg) := nI_in (by omega) (by omega)
      refine ⟨w + 1, tf_PK_behind ps c, nI (w + 1), upd wf1 w pl, upd wf2 w ps, upd wf3 w (bI c), upd gp w pl, upd gh w ps, upd gs w (bI c), ?_, ?_, by omega, rfl, rfl, ag_up a1 pl, ag_up a2 ps, ag_up a3 (bI c), bo_up hb c⟩
      · unfold tf_PK_told_Last
        simp only [hc, Option.bind_some, ite_t0, room_yes q, add_class q]
      · have hge : ¬ (64 : Int32) ≤ nI w := nI_ge (a := w) (b := 64) q (by omega)
        unfold of_Md_told_1
        simp only [hm, Option.bind_some, ite_t0, if_neg hge, if_neg hin, nar_b, nI_1, bh_eq]
        rw [nI_clamp (by omega)]
    · have e : w = 64 := by omega
      subst e
      refine ⟨64, ps, nI 64, wf1, wf2, wf3, gp, gh, gs, ?_, ?_, hw, rfl, rfl, a1, a2, a3, hb⟩
      · unfold tf_PK_told_Last
        simp only [hc, Option.bind_some, ite_t0, ite_f0, room_no]
      · have hge : (64 : Int32) ≤ nI 64 := by decide
        unfold of_Md_told_1
        simp only [hm, Option.bind_some, ite_t0, if_pos hge]
theorem sev_1 {zs0 : Int32} {mk0 : Int32} {n1 : Nat} {f1 : Nat → Int32} {pl : Int32} {mbt : Int32} {mrw : Int32} {g_lastBit : Nat → Int32} (hy : ∀ p h : Int32, ∃ c : Bool, tf_Last_says zs0 mk0 n1 f1 p = c ∧ of_Md_says_1 mbt mrw g_lastBit p = some c) {m : Nat} (hm : m ≤ 16) : ∀ d n i x h, i + d = m → d < n → ∃ r, of_PK_several_Last_b32 n zs0 mk0 n1 f1 pl (nI m) h x (nI i) = some r ∧ of_Md_several_1_b33 n mbt mrw g_lastBit pl (nI m) x h (nI i) = some (r, 0) := by
  intro d
  induction d with
  | zero =>
    intro n i x h e hn
    obtain ⟨n, rfl⟩ : ∃ n', n = n' + 1 := ⟨n - 1, by omega⟩
    have e1 : i = m := by omega
    subst e1
    exact ⟨x, if_pos (nI_le (Nat.le_refl _) (by omega)), if_pos (nI_le (Nat.le_refl _) (by omega))⟩
  | succ d ih =>
    intro n i x h e hn
    obtain ⟨n, rfl⟩ : ∃ n', n = n' + 1 := ⟨n - 1, by omega⟩
    have hg : ¬ nI m ≤ nI i := nI_ge (by omega) (by omega)
    obtain ⟨c, s1, s2⟩ := hy (pl + (4 * nI i)) h
    cases c
    · obtain ⟨r, r1, r2⟩ := ih n (i + 1) x (tf_PK_behind h false) (by omega) (by omega)
      refine ⟨r, ?_, ?_⟩
      · unfold of_PK_several_Last_b32
        simp only [if_neg hg, s1, Option.bind_some, ite_f0, nI_1, i_or0]
        exact r1
      · rw [bh_eq] at r2
        unfold of_Md_several_1_b33
        simp only [if_neg hg, s2, Option.bind_some, ite_f0, nI_1]
        exact r2
    · obtain ⟨r, r1, r2⟩ := ih n (i + 1) (x ||| ((1 : Int32) <<< (nI i &&& 31))) (tf_PK_behind h true) (by omega) (by omega)
      refine ⟨r, ?_, ?_⟩
      · unfold of_PK_several_Last_b32
        simp only [if_neg hg, s1, Option.bind_some, ite_t0, nI_1]
        exact r1
      · rw [bh_eq] at r2
        unfold of_Md_several_1_b33
        simp only [if_neg hg, s2, Option.bind_some, ite_t0, nI_1]
        exact r2
theorem several_1 {zs0 : Int32} {mk0 : Int32} {n1 : Nat} {f1 : Nat → Int32} {pl : Int32} {mbt : Int32} {mrw : Int32} {g_lastBit : Nat → Int32} {ps ct0 : Int32} (hy : ∀ p h : Int32, ∃ c : Bool, tf_Last_says zs0 mk0 n1 f1 p = c ∧ of_Md_says_1 mbt mrw g_lastBit p = some c) (h1 : ¬ ct0 < 1) (h2 : ct0 ≤ 16) : ∃ r, of_PK_several_Last ps zs0 mk0 n1 f1 pl ct0 = some r ∧ of_Md_several_1 mbt mrw ps g_lastBit pl ct0 = some (r, 0) := by
  obtain ⟨m, hm, rfl⟩ := nI_of2 (x := ct0) (M := 16) (n := 16) (by decide) (fun q => h1 (i_lt01 q)) h2
  obtain ⟨r, r1, r2⟩ := sev_1 hy hm m 4096 0 0 ps (by omega) (by omega)
  exact ⟨r, (if_neg h1).trans ((if_pos h2).trans r1), (if_neg h1).trans ((if_pos h2).trans r2)⟩
theorem severalx_1 {zs0 : Int32} {mk0 : Int32} {n1 : Nat} {f1 : Nat → Int32} {pl : Int32} {mbt : Int32} {mrw : Int32} {g_lastBit : Nat → Int32} {ps ct0 : Int32} (h1 : ct0 < 1 ∨ ¬ ct0 ≤ 16) : of_Md_several_1 mbt mrw ps g_lastBit pl ct0 = some (0, 1) := by
  unfold of_Md_several_1 of_Md_several_1_b16
  by_cases q : ct0 < 1
  · rw [if_pos q]; rfl
  · rw [if_neg q]
    rcases h1 with z | z
    · exact absurd z q
    · rw [if_neg z]; rfl
theorem told_2 {w : Nat} {ps : Int32} {ey : Bool} {ud : Int32} {wf1 : Nat → Int32} {wf2 : Nat → Int32} {wf3 : Nat → Int32} {zs0 : Int32} {mk0 : Int32} {n1 : Nat} {f1 : Nat → Int32} {pl : Int32} {mbt : Int32} {mrw : Int32} {mwt : Int32} {g_plain : Nat → Int32} {gp : Nat → Int32} {gh : Nat → Int32} {gs : Nat → Int32} {c : Bool} (hq : Qu w ud mwt wf1 wf2 wf3 gp gh gs) (hc : tf_Counters_says zs0 mk0 false n1 f1 pl ps = c) (hm : of_Md_says_2 mbt mrw g_plain pl = some c) : ∃ (w' : Nat) (ps' ud' : Int32) (p1 p2 p3 q1 q2 q3 : Nat → Int32), tf_PK_told_Counters ps ey ud wf1 wf2 wf3 zs0 mk0 false n1 f1 pl = (c, ps', ud', p1, p2, p3) ∧ of_Md_told_2 mbt mrw ps ey mwt g_plain gp gh gs pl = some (c, 0, ud', ps', q1, q2, q3) ∧ Qu w' ud' ud' p1 p2 p3 q1 q2 q3 := by
  obtain ⟨hw, rfl, rfl, a1, a2, a3, hb⟩ := hq
  cases ey
  · refine ⟨w, ps, nI w, wf1, wf2, wf3, gp, gh, gs, ?_, ?_, hw, rfl, rfl, a1, a2, a3, hb⟩
    · unfold tf_PK_told_Counters
      simp only [hc, Option.bind_some, ite_f0]
    · unfold of_Md_told_2
      simp only [hm, Option.bind_some, ite_f0]
  · by_cases q : w < 64
    · have hin : ¬ (nI w < 0 ∨ 64 ≤ (nI w).toNatClampNeg) := nI_in (by omega) (by omega)
      refine ⟨w + 1, tf_PK_behind ps c, nI (w + 1), upd wf1 w pl, upd wf2 w ps, upd wf3 w (bI c), upd gp w pl, upd gh w ps, upd gs w (bI c), ?_, ?_, by omega, rfl, rfl, ag_up a1 pl, ag_up a2 ps, ag_up a3 (bI c), bo_up hb c⟩
      · unfold tf_PK_told_Counters
        simp only [hc, Option.bind_some, ite_t0, room_yes q, add_class q]
      · have hge : ¬ (64 : Int32) ≤ nI w := nI_ge (a := w) (b := 64) q (by omega)
        unfold of_Md_told_2
        simp only [hm, Option.bind_some, ite_t0, if_neg hge, if_neg hin, nar_b, nI_1, bh_eq]
        rw [nI_clamp (by omega)]
    · have e : w = 64 := by omega
      subst e
      refine ⟨64, ps, nI 64, wf1, wf2, wf3, gp, gh, gs, ?_, ?_, hw, rfl, rfl, a1, a2, a3, hb⟩
      · unfold tf_PK_told_Counters
        simp only [hc, Option.bind_some, ite_t0, ite_f0, room_no]
      · have hge : (64 : Int32) ≤ nI 64 := by decide
        unfold of_Md_told_2
        simp only [hm, Option.bind_some, ite_t0, if_pos hge]
theorem sev_2 {zs0 : Int32} {mk0 : Int32} {n1 : Nat} {f1 : Nat → Int32} {pl : Int32} {mbt : Int32} {mrw : Int32} {g_plain : Nat → Int32} (hy : ∀ p h : Int32, ∃ c : Bool, tf_Counters_says zs0 mk0 false n1 f1 p h = c ∧ of_Md_says_2 mbt mrw g_plain p = some c) {m : Nat} (hm : m ≤ 16) : ∀ d n i x h, i + d = m → d < n → ∃ r, of_PK_several_Counters_b32 n zs0 mk0 false n1 f1 pl (nI m) h x (nI i) = some r ∧ of_Md_several_2_b33 n mbt mrw g_plain pl (nI m) x h (nI i) = some (r, 0) := by
  intro d
  induction d with
  | zero =>
    intro n i x h e hn
    obtain ⟨n, rfl⟩ : ∃ n', n = n' + 1 := ⟨n - 1, by omega⟩
    have e1 : i = m := by omega
    subst e1
    exact ⟨x, if_pos (nI_le (Nat.le_refl _) (by omega)), if_pos (nI_le (Nat.le_refl _) (by omega))⟩
  | succ d ih =>
    intro n i x h e hn
    obtain ⟨n, rfl⟩ : ∃ n', n = n' + 1 := ⟨n - 1, by omega⟩
    have hg : ¬ nI m ≤ nI i := nI_ge (by omega) (by omega)
    obtain ⟨c, s1, s2⟩ := hy (pl + (4 * nI i)) h
    cases c
    · obtain ⟨r, r1, r2⟩ := ih n (i + 1) x (tf_PK_behind h false) (by omega) (by omega)
      refine ⟨r, ?_, ?_⟩
      · unfold of_PK_several_Counters_b32
        simp only [if_neg hg, s1, Option.bind_some, ite_f0, nI_1, i_or0]
        exact r1
      · rw [bh_eq] at r2
        unfold of_Md_several_2_b33
        simp only [if_neg hg, s2, Option.bind_some, ite_f0, nI_1]
        exact r2
    · obtain ⟨r, r1, r2⟩ := ih n (i + 1) (x ||| ((1 : Int32) <<< (nI i &&& 31))) (tf_PK_behind h true) (by omega) (by omega)
      refine ⟨r, ?_, ?_⟩
      · unfold of_PK_several_Counters_b32
        simp only [if_neg hg, s1, Option.bind_some, ite_t0, nI_1]
        exact r1
      · rw [bh_eq] at r2
        unfold of_Md_several_2_b33
        simp only [if_neg hg, s2, Option.bind_some, ite_t0, nI_1]
        exact r2
theorem several_2 {zs0 : Int32} {mk0 : Int32} {n1 : Nat} {f1 : Nat → Int32} {pl : Int32} {mbt : Int32} {mrw : Int32} {g_plain : Nat → Int32} {ps ct0 : Int32} (hy : ∀ p h : Int32, ∃ c : Bool, tf_Counters_says zs0 mk0 false n1 f1 p h = c ∧ of_Md_says_2 mbt mrw g_plain p = some c) (h1 : ¬ ct0 < 1) (h2 : ct0 ≤ 16) : ∃ r, of_PK_several_Counters ps zs0 mk0 false n1 f1 pl ct0 = some r ∧ of_Md_several_2 mbt mrw ps g_plain pl ct0 = some (r, 0) := by
  obtain ⟨m, hm, rfl⟩ := nI_of2 (x := ct0) (M := 16) (n := 16) (by decide) (fun q => h1 (i_lt01 q)) h2
  obtain ⟨r, r1, r2⟩ := sev_2 hy hm m 4096 0 0 ps (by omega) (by omega)
  exact ⟨r, (if_neg h1).trans ((if_pos h2).trans r1), (if_neg h1).trans ((if_pos h2).trans r2)⟩
theorem severalx_2 {zs0 : Int32} {mk0 : Int32} {n1 : Nat} {f1 : Nat → Int32} {pl : Int32} {mbt : Int32} {mrw : Int32} {g_plain : Nat → Int32} {ps ct0 : Int32} (h1 : ct0 < 1 ∨ ¬ ct0 ≤ 16) : of_Md_several_2 mbt mrw ps g_plain pl ct0 = some (0, 1) := by
  unfold of_Md_several_2 of_Md_several_2_b16
  by_cases q : ct0 < 1
  · rw [if_pos q]; rfl
  · rw [if_neg q]
    rcases h1 with z | z
    · exact absurd z q
    · rw [if_neg z]; rfl
theorem told_3 {w : Nat} {ps : Int32} {ey : Bool} {ud : Int32} {wf1 : Nat → Int32} {wf2 : Nat → Int32} {wf3 : Nat → Int32} {zs0 : Int32} {mk0 : Int32} {n1 : Nat} {f1 : Nat → Int32} {pl : Int32} {mrw : Int32} {mwt : Int32} {g_mixed : Nat → Int32} {gp : Nat → Int32} {gh : Nat → Int32} {gs : Nat → Int32} {c : Bool} (hq : Qu w ud mwt wf1 wf2 wf3 gp gh gs) (hc : tf_Counters_says zs0 mk0 true n1 f1 pl ps = c) (hm : of_Md_says_3 mrw g_mixed pl ps = some c) : ∃ (w' : Nat) (ps' ud' : Int32) (p1 p2 p3 q1 q2 q3 : Nat → Int32), tf_PK_told_Counters ps ey ud wf1 wf2 wf3 zs0 mk0 true n1 f1 pl = (c, ps', ud', p1, p2, p3) ∧ of_Md_told_3 mrw ps ey mwt g_mixed gp gh gs pl = some (c, 0, ud', ps', q1, q2, q3) ∧ Qu w' ud' ud' p1 p2 p3 q1 q2 q3 := by
  obtain ⟨hw, rfl, rfl, a1, a2, a3, hb⟩ := hq
  cases ey
  · refine ⟨w, ps, nI w, wf1, wf2, wf3, gp, gh, gs, ?_, ?_, hw, rfl, rfl, a1, a2, a3, hb⟩
    · unfold tf_PK_told_Counters
      simp only [hc, Option.bind_some, ite_f0]
    · unfold of_Md_told_3
      simp only [hm, Option.bind_some, ite_f0]
  · by_cases q : w < 64
    · have hin : ¬ (nI w < 0 ∨ 64 ≤ (nI w).toNatClampNeg) := nI_in (by omega) (by omega)
      refine ⟨w + 1, tf_PK_behind ps c, nI (w + 1), upd wf1 w pl, upd wf2 w ps, upd wf3 w (bI c), upd gp w pl, upd gh w ps, upd gs w (bI c), ?_, ?_, by omega, rfl, rfl, ag_up a1 pl, ag_up a2 ps, ag_up a3 (bI c), bo_up hb c⟩
      · unfold tf_PK_told_Counters
        simp only [hc, Option.bind_some, ite_t0, room_yes q, add_class q]
      · have hge : ¬ (64 : Int32) ≤ nI w := nI_ge (a := w) (b := 64) q (by omega)
        unfold of_Md_told_3
        simp only [hm, Option.bind_some, ite_t0, if_neg hge, if_neg hin, nar_b, nI_1, bh_eq]
        rw [nI_clamp (by omega)]
    · have e : w = 64 := by omega
      subst e
      refine ⟨64, ps, nI 64, wf1, wf2, wf3, gp, gh, gs, ?_, ?_, hw, rfl, rfl, a1, a2, a3, hb⟩
      · unfold tf_PK_told_Counters
        simp only [hc, Option.bind_some, ite_t0, ite_f0, room_no]
      · have hge : (64 : Int32) ≤ nI 64 := by decide
        unfold of_Md_told_3
        simp only [hm, Option.bind_some, ite_t0, if_pos hge]
theorem sev_3 {zs0 : Int32} {mk0 : Int32} {n1 : Nat} {f1 : Nat → Int32} {pl : Int32} {mrw : Int32} {g_mixed : Nat → Int32} (hy : ∀ p h : Int32, ∃ c : Bool, tf_Counters_says zs0 mk0 true n1 f1 p h = c ∧ of_Md_says_3 mrw g_mixed p h = some c) {m : Nat} (hm : m ≤ 16) : ∀ d n i x h, i + d = m → d < n → ∃ r, of_PK_several_Counters_b32 n zs0 mk0 true n1 f1 pl (nI m) h x (nI i) = some r ∧ of_Md_several_3_b33 n mrw g_mixed pl (nI m) x h (nI i) = some (r, 0) := by
  intro d
  induction d with
  | zero =>
    intro n i x h e hn
    obtain ⟨n, rfl⟩ : ∃ n', n = n' + 1 := ⟨n - 1, by omega⟩
    have e1 : i = m := by omega
    subst e1
    exact ⟨x, if_pos (nI_le (Nat.le_refl _) (by omega)), if_pos (nI_le (Nat.le_refl _) (by omega))⟩
  | succ d ih =>
    intro n i x h e hn
    obtain ⟨n, rfl⟩ : ∃ n', n = n' + 1 := ⟨n - 1, by omega⟩
    have hg : ¬ nI m ≤ nI i := nI_ge (by omega) (by omega)
    obtain ⟨c, s1, s2⟩ := hy (pl + (4 * nI i)) h
    cases c
    · obtain ⟨r, r1, r2⟩ := ih n (i + 1) x (tf_PK_behind h false) (by omega) (by omega)
      refine ⟨r, ?_, ?_⟩
      · unfold of_PK_several_Counters_b32
        simp only [if_neg hg, s1, Option.bind_some, ite_f0, nI_1, i_or0]
        exact r1
      · rw [bh_eq] at r2
        unfold of_Md_several_3_b33
        simp only [if_neg hg, s2, Option.bind_some, ite_f0, nI_1]
        exact r2
    · obtain ⟨r, r1, r2⟩ := ih n (i + 1) (x ||| ((1 : Int32) <<< (nI i &&& 31))) (tf_PK_behind h true) (by omega) (by omega)
      refine ⟨r, ?_, ?_⟩
      · unfold of_PK_several_Counters_b32
        simp only [if_neg hg, s1, Option.bind_some, ite_t0, nI_1]
        exact r1
      · rw [bh_eq] at r2
        unfold of_Md_several_3_b33
        simp only [if_neg hg, s2, Option.bind_some, ite_t0, nI_1]
        exact r2
theorem several_3 {zs0 : Int32} {mk0 : Int32} {n1 : Nat} {f1 : Nat → Int32} {pl : Int32} {mrw : Int32} {g_mixed : Nat → Int32} {ps ct0 : Int32} (hy : ∀ p h : Int32, ∃ c : Bool, tf_Counters_says zs0 mk0 true n1 f1 p h = c ∧ of_Md_says_3 mrw g_mixed p h = some c) (h1 : ¬ ct0 < 1) (h2 : ct0 ≤ 16) : ∃ r, of_PK_several_Counters ps zs0 mk0 true n1 f1 pl ct0 = some r ∧ of_Md_several_3 mrw ps g_mixed pl ct0 = some (r, 0) := by
  obtain ⟨m, hm, rfl⟩ := nI_of2 (x := ct0) (M := 16) (n := 16) (by decide) (fun q => h1 (i_lt01 q)) h2
  obtain ⟨r, r1, r2⟩ := sev_3 hy hm m 4096 0 0 ps (by omega) (by omega)
  exact ⟨r, (if_neg h1).trans ((if_pos h2).trans r1), (if_neg h1).trans ((if_pos h2).trans r2)⟩
theorem severalx_3 {zs0 : Int32} {mk0 : Int32} {n1 : Nat} {f1 : Nat → Int32} {pl : Int32} {mrw : Int32} {g_mixed : Nat → Int32} {ps ct0 : Int32} (h1 : ct0 < 1 ∨ ¬ ct0 ≤ 16) : of_Md_several_3 mrw ps g_mixed pl ct0 = some (0, 1) := by
  unfold of_Md_several_3 of_Md_several_3_b16
  by_cases q : ct0 < 1
  · rw [if_pos q]; rfl
  · rw [if_neg q]
    rcases h1 with z | z
    · exact absurd z q
    · rw [if_neg z]; rfl
theorem told_4 {w : Nat} {ps : Int32} {ey : Bool} {ud : Int32} {wf1 : Nat → Int32} {wf2 : Nat → Int32} {wf3 : Nat → Int32} {zs0 : Int32} {mk0 : Int32} {n1 : Nat} {f1 : Nat → Int32} {n2 : Nat} {f2 : Nat → Int32} {pl : Int32} {mbt : Int32} {mrw : Int32} {mwt : Int32} {g_own : Nat → Int32} {g_ownCounter : Nat → Int32} {gp : Nat → Int32} {gh : Nat → Int32} {gs : Nat → Int32} {c : Bool} (hq : Qu w ud mwt wf1 wf2 wf3 gp gh gs) (hc : tf_Own_says zs0 mk0 n1 f1 n2 f2 pl = c) (hm : of_Md_says_4 mbt mrw g_own g_ownCounter pl = some c) : ∃ (w' : Nat) (ps' ud' : Int32) (p1 p2 p3 q1 q2 q3 : Nat → Int32), tf_PK_told_Own ps ey ud wf1 wf2 wf3 zs0 mk0 n1 f1 n2 f2 pl = (c, ps', ud', p1, p2, p3) ∧ of_Md_told_4 mbt mrw ps ey mwt g_own g_ownCounter gp gh gs pl = some (c, 0, ud', ps', q1, q2, q3) ∧ Qu w' ud' ud' p1 p2 p3 q1 q2 q3 := by
  obtain ⟨hw, rfl, rfl, a1, a2, a3, hb⟩ := hq
  cases ey
  · refine ⟨w, ps, nI w, wf1, wf2, wf3, gp, gh, gs, ?_, ?_, hw, rfl, rfl, a1, a2, a3, hb⟩
    · unfold tf_PK_told_Own
      simp only [hc, Option.bind_some, ite_f0]
    · unfold of_Md_told_4
      simp only [hm, Option.bind_some, ite_f0]
  · by_cases q : w < 64
    · have hin : ¬ (nI w < 0 ∨ 64 ≤ (nI w).toNatClampNeg) := nI_in (by omega) (by omega)
      refine ⟨w + 1, tf_PK_behind ps c, nI (w + 1), upd wf1 w pl, upd wf2 w ps, upd wf3 w (bI c), upd gp w pl, upd gh w ps, upd gs w (bI c), ?_, ?_, by omega, rfl, rfl, ag_up a1 pl, ag_up a2 ps, ag_up a3 (bI c), bo_up hb c⟩
      · unfold tf_PK_told_Own
        simp only [hc, Option.bind_some, ite_t0, room_yes q, add_class q]
      · have hge : ¬ (64 : Int32) ≤ nI w := nI_ge (a := w) (b := 64) q (by omega)
        unfold of_Md_told_4
        simp only [hm, Option.bind_some, ite_t0, if_neg hge, if_neg hin, nar_b, nI_1, bh_eq]
        rw [nI_clamp (by omega)]
    · have e : w = 64 := by omega
      subst e
      refine ⟨64, ps, nI 64, wf1, wf2, wf3, gp, gh, gs, ?_, ?_, hw, rfl, rfl, a1, a2, a3, hb⟩
      · unfold tf_PK_told_Own
        simp only [hc, Option.bind_some, ite_t0, ite_f0, room_no]
      · have hge : (64 : Int32) ≤ nI 64 := by decide
        unfold of_Md_told_4
        simp only [hm, Option.bind_some, ite_t0, if_pos hge]
theorem sev_4 {zs0 : Int32} {mk0 : Int32} {n1 : Nat} {f1 : Nat → Int32} {n2 : Nat} {f2 : Nat → Int32} {pl : Int32} {mbt : Int32} {mrw : Int32} {g_own : Nat → Int32} {g_ownCounter : Nat → Int32} (hy : ∀ p h : Int32, ∃ c : Bool, tf_Own_says zs0 mk0 n1 f1 n2 f2 p = c ∧ of_Md_says_4 mbt mrw g_own g_ownCounter p = some c) {m : Nat} (hm : m ≤ 16) : ∀ d n i x h, i + d = m → d < n → ∃ r, of_PK_several_Own_b32 n zs0 mk0 n1 f1 n2 f2 pl (nI m) h x (nI i) = some r ∧ of_Md_several_4_b33 n mbt mrw g_own g_ownCounter pl (nI m) x h (nI i) = some (r, 0) := by
  intro d
  induction d with
  | zero =>
    intro n i x h e hn
    obtain ⟨n, rfl⟩ : ∃ n', n = n' + 1 := ⟨n - 1, by omega⟩
    have e1 : i = m := by omega
    subst e1
    exact ⟨x, if_pos (nI_le (Nat.le_refl _) (by omega)), if_pos (nI_le (Nat.le_refl _) (by omega))⟩
  | succ d ih =>
    intro n i x h e hn
    obtain ⟨n, rfl⟩ : ∃ n', n = n' + 1 := ⟨n - 1, by omega⟩
    have hg : ¬ nI m ≤ nI i := nI_ge (by omega) (by omega)
    obtain ⟨c, s1, s2⟩ := hy (pl + (4 * nI i)) h
    cases c
    · obtain ⟨r, r1, r2⟩ := ih n (i + 1) x (tf_PK_behind h false) (by omega) (by omega)
      refine ⟨r, ?_, ?_⟩
      · unfold of_PK_several_Own_b32
        simp only [if_neg hg, s1, Option.bind_some, ite_f0, nI_1, i_or0]
        exact r1
      · rw [bh_eq] at r2
        unfold of_Md_several_4_b33
        simp only [if_neg hg, s2, Option.bind_some, ite_f0, nI_1]
        exact r2
    · obtain ⟨r, r1, r2⟩ := ih n (i + 1) (x ||| ((1 : Int32) <<< (nI i &&& 31))) (tf_PK_behind h true) (by omega) (by omega)
      refine ⟨r, ?_, ?_⟩
      · unfold of_PK_several_Own_b32
        simp only [if_neg hg, s1, Option.bind_some, ite_t0, nI_1]
        exact r1
      · rw [bh_eq] at r2
        unfold of_Md_several_4_b33
        simp only [if_neg hg, s2, Option.bind_some, ite_t0, nI_1]
        exact r2
theorem several_4 {zs0 : Int32} {mk0 : Int32} {n1 : Nat} {f1 : Nat → Int32} {n2 : Nat} {f2 : Nat → Int32} {pl : Int32} {mbt : Int32} {mrw : Int32} {g_own : Nat → Int32} {g_ownCounter : Nat → Int32} {ps ct0 : Int32} (hy : ∀ p h : Int32, ∃ c : Bool, tf_Own_says zs0 mk0 n1 f1 n2 f2 p = c ∧ of_Md_says_4 mbt mrw g_own g_ownCounter p = some c) (h1 : ¬ ct0 < 1) (h2 : ct0 ≤ 16) : ∃ r, of_PK_several_Own ps zs0 mk0 n1 f1 n2 f2 pl ct0 = some r ∧ of_Md_several_4 mbt mrw ps g_own g_ownCounter pl ct0 = some (r, 0) := by
  obtain ⟨m, hm, rfl⟩ := nI_of2 (x := ct0) (M := 16) (n := 16) (by decide) (fun q => h1 (i_lt01 q)) h2
  obtain ⟨r, r1, r2⟩ := sev_4 hy hm m 4096 0 0 ps (by omega) (by omega)
  exact ⟨r, (if_neg h1).trans ((if_pos h2).trans r1), (if_neg h1).trans ((if_pos h2).trans r2)⟩
theorem severalx_4 {zs0 : Int32} {mk0 : Int32} {n1 : Nat} {f1 : Nat → Int32} {n2 : Nat} {f2 : Nat → Int32} {pl : Int32} {mbt : Int32} {mrw : Int32} {g_own : Nat → Int32} {g_ownCounter : Nat → Int32} {ps ct0 : Int32} (h1 : ct0 < 1 ∨ ¬ ct0 ≤ 16) : of_Md_several_4 mbt mrw ps g_own g_ownCounter pl ct0 = some (0, 1) := by
  unfold of_Md_several_4 of_Md_several_4_b16
  by_cases q : ct0 < 1
  · rw [if_pos q]; rfl
  · rw [if_neg q]
    rcases h1 with z | z
    · exact absurd z q
    · rw [if_neg z]; rfl
theorem told_5 {w : Nat} {ps : Int32} {ey : Bool} {ud : Int32} {wf1 : Nat → Int32} {wf2 : Nat → Int32} {wf3 : Nat → Int32} {zs0 : Int32} {mk0 : Int32} {n1 : Nat} {f1 : Nat → Int32} {n2 : Nat} {f2 : Nat → Int32} {n3 : Nat} {f3 : Nat → Int32} {pl : Int32} {mbt : Int32} {mrw : Int32} {mwt : Int32} {g_plain : Nat → Int32} {g_mixed : Nat → Int32} {g_chooser : Nat → Int32} {gp : Nat → Int32} {gh : Nat → Int32} {gs : Nat → Int32} {c : Bool} (hq : Qu w ud mwt wf1 wf2 wf3 gp gh gs) (hc : tf_Chooser_says zs0 mk0 n1 f1 n2 f2 n3 f3 pl ps = c) (hm : of_Md_says_5 mbt mrw g_plain g_mixed g_chooser pl ps = some c) : ∃ (w' : Nat) (ps' ud' : Int32) (p1 p2 p3 q1 q2 q3 : Nat → Int32), tf_PK_told_Chooser ps ey ud wf1 wf2 wf3 zs0 mk0 n1 f1 n2 f2 n3 f3 pl = (c, ps', ud', p1, p2, p3) ∧ of_Md_told_5 mbt mrw ps ey mwt g_plain g_mixed g_chooser gp gh gs pl = some (c, 0, ud', ps', q1, q2, q3) ∧ Qu w' ud' ud' p1 p2 p3 q1 q2 q3 := by
  obtain ⟨hw, rfl, rfl, a1, a2, a3, hb⟩ := hq
  cases ey
  · refine ⟨w, ps, nI w, wf1, wf2, wf3, gp, gh, gs, ?_, ?_, hw, rfl, rfl, a1, a2, a3, hb⟩
    · unfold tf_PK_told_Chooser
      simp only [hc, Option.bind_some, ite_f0]
    · unfold of_Md_told_5
      simp only [hm, Option.bind_some, ite_f0]
  · by_cases q : w < 64
    · have hin : ¬ (nI w < 0 ∨ 64 ≤ (nI w).toNatClampNeg) := nI_in (by omega) (by omega)
      refine ⟨w + 1, tf_PK_behind ps c, nI (w + 1), upd wf1 w pl, upd wf2 w ps, upd wf3 w (bI c), upd gp w pl, upd gh w ps, upd gs w (bI c), ?_, ?_, by omega, rfl, rfl, ag_up a1 pl, ag_up a2 ps, ag_up a3 (bI c), bo_up hb c⟩
      · unfold tf_PK_told_Chooser
        simp only [hc, Option.bind_some, ite_t0, room_yes q, add_class q]
      · have hge : ¬ (64 : Int32) ≤ nI w := nI_ge (a := w) (b := 64) q (by omega)
        unfold of_Md_told_5
        simp only [hm, Option.bind_some, ite_t0, if_neg hge, if_neg hin, nar_b, nI_1, bh_eq]
        rw [nI_clamp (by omega)]
    · have e : w = 64 := by omega
      subst e
      refine ⟨64, ps, nI 64, wf1, wf2, wf3, gp, gh, gs, ?_, ?_, hw, rfl, rfl, a1, a2, a3, hb⟩
      · unfold tf_PK_told_Chooser
        simp only [hc, Option.bind_some, ite_t0, ite_f0, room_no]
      · have hge : (64 : Int32) ≤ nI 64 := by decide
        unfold of_Md_told_5
        simp only [hm, Option.bind_some, ite_t0, if_pos hge]
theorem sev_5 {zs0 : Int32} {mk0 : Int32} {n1 : Nat} {f1 : Nat → Int32} {n2 : Nat} {f2 : Nat → Int32} {n3 : Nat} {f3 : Nat → Int32} {pl : Int32} {mbt : Int32} {mrw : Int32} {g_plain : Nat → Int32} {g_mixed : Nat → Int32} {g_chooser : Nat → Int32} (hy : ∀ p h : Int32, ∃ c : Bool, tf_Chooser_says zs0 mk0 n1 f1 n2 f2 n3 f3 p h = c ∧ of_Md_says_5 mbt mrw g_plain g_mixed g_chooser p h = some c) {m : Nat} (hm : m ≤ 16) : ∀ d n i x h, i + d = m → d < n → ∃ r, of_PK_several_Chooser_b32 n zs0 mk0 n1 f1 n2 f2 n3 f3 pl (nI m) h x (nI i) = some r ∧ of_Md_several_5_b33 n mbt mrw g_plain g_mixed g_chooser pl (nI m) x h (nI i) = some (r, 0) := by
  intro d
  induction d with
  | zero =>
    intro n i x h e hn
    obtain ⟨n, rfl⟩ : ∃ n', n = n' + 1 := ⟨n - 1, by omega⟩
    have e1 : i = m := by omega
    subst e1
    exact ⟨x, if_pos (nI_le (Nat.le_refl _) (by omega)), if_pos (nI_le (Nat.le_refl _) (by omega))⟩
  | succ d ih =>
    intro n i x h e hn
    obtain ⟨n, rfl⟩ : ∃ n', n = n' + 1 := ⟨n - 1, by omega⟩
    have hg : ¬ nI m ≤ nI i := nI_ge (by omega) (by omega)
    obtain ⟨c, s1, s2⟩ := hy (pl + (4 * nI i)) h
    cases c
    · obtain ⟨r, r1, r2⟩ := ih n (i + 1) x (tf_PK_behind h false) (by omega) (by omega)
      refine ⟨r, ?_, ?_⟩
      · unfold of_PK_several_Chooser_b32
        simp only [if_neg hg, s1, Option.bind_some, ite_f0, nI_1, i_or0]
        exact r1
      · rw [bh_eq] at r2
        unfold of_Md_several_5_b33
        simp only [if_neg hg, s2, Option.bind_some, ite_f0, nI_1]
        exact r2
    · obtain ⟨r, r1, r2⟩ := ih n (i + 1) (x ||| ((1 : Int32) <<< (nI i &&& 31))) (tf_PK_behind h true) (by omega) (by omega)
      refine ⟨r, ?_, ?_⟩
      · unfold of_PK_several_Chooser_b32
        simp only [if_neg hg, s1, Option.bind_some, ite_t0, nI_1]
        exact r1
      · rw [bh_eq] at r2
        unfold of_Md_several_5_b33
        simp only [if_neg hg, s2, Option.bind_some, ite_t0, nI_1]
        exact r2
theorem several_5 {zs0 : Int32} {mk0 : Int32} {n1 : Nat} {f1 : Nat → Int32} {n2 : Nat} {f2 : Nat → Int32} {n3 : Nat} {f3 : Nat → Int32} {pl : Int32} {mbt : Int32} {mrw : Int32} {g_plain : Nat → Int32} {g_mixed : Nat → Int32} {g_chooser : Nat → Int32} {ps ct0 : Int32} (hy : ∀ p h : Int32, ∃ c : Bool, tf_Chooser_says zs0 mk0 n1 f1 n2 f2 n3 f3 p h = c ∧ of_Md_says_5 mbt mrw g_plain g_mixed g_chooser p h = some c) (h1 : ¬ ct0 < 1) (h2 : ct0 ≤ 16) : ∃ r, of_PK_several_Chooser ps zs0 mk0 n1 f1 n2 f2 n3 f3 pl ct0 = some r ∧ of_Md_several_5 mbt mrw ps g_plain g_mixed g_chooser pl ct0 = some (r, 0) := by
  obtain ⟨m, hm, rfl⟩ := nI_of2 (x := ct0) (M := 16) (n := 16) (by decide) (fun q => h1 (i_lt01 q)) h2
  obtain ⟨r, r1, r2⟩ := sev_5 hy hm m 4096 0 0 ps (by omega) (by omega)
  exact ⟨r, (if_neg h1).trans ((if_pos h2).trans r1), (if_neg h1).trans ((if_pos h2).trans r2)⟩
theorem severalx_5 {zs0 : Int32} {mk0 : Int32} {n1 : Nat} {f1 : Nat → Int32} {n2 : Nat} {f2 : Nat → Int32} {n3 : Nat} {f3 : Nat → Int32} {pl : Int32} {mbt : Int32} {mrw : Int32} {g_plain : Nat → Int32} {g_mixed : Nat → Int32} {g_chooser : Nat → Int32} {ps ct0 : Int32} (h1 : ct0 < 1 ∨ ¬ ct0 ≤ 16) : of_Md_several_5 mbt mrw ps g_plain g_mixed g_chooser pl ct0 = some (0, 1) := by
  unfold of_Md_several_5 of_Md_several_5_b16
  by_cases q : ct0 < 1
  · rw [if_pos q]; rfl
  · rw [if_neg q]
    rcases h1 with z | z
    · exact absurd z q
    · rw [if_neg z]; rfl
theorem told_6 {w : Nat} {ps : Int32} {ey : Bool} {ud : Int32} {wf1 : Nat → Int32} {wf2 : Nat → Int32} {wf3 : Nat → Int32} {zs0 : Int32} {rw0 : Int32} {mk0 : Int32} {n0 : Nat} {f0 : Nat → Int32} {n1 : Nat} {f1 : Nat → Int32} {n2 : Nat} {f2 : Nat → Int32} {pl : Int32} {mbt : Int32} {mrw : Int32} {mwt : Int32} {g_plain : Nat → Int32} {g_tag : Nat → Int32} {g_sum : Nat → Int32} {gp : Nat → Int32} {gh : Nat → Int32} {gs : Nat → Int32} {c : Bool} (hq : Qu w ud mwt wf1 wf2 wf3 gp gh gs) (hc : of_Tagged_says zs0 rw0 mk0 n0 f0 n1 f1 n2 f2 pl ps = some c) (hm : of_Md_says_6 mbt mrw g_plain g_tag g_sum pl ps = some c) : ∃ (w' : Nat) (ps' ud' : Int32) (p1 p2 p3 q1 q2 q3 : Nat → Int32), of_PK_told_Tagged ps ey ud wf1 wf2 wf3 zs0 rw0 mk0 n0 f0 n1 f1 n2 f2 pl = some (c, ps', ud', p1, p2, p3) ∧ of_Md_told_6 mbt mrw ps ey mwt g_plain g_tag g_sum gp gh gs pl = some (c, 0, ud', ps', q1, q2, q3) ∧ Qu w' ud' ud' p1 p2 p3 q1 q2 q3 := by
  obtain ⟨hw, rfl, rfl, a1, a2, a3, hb⟩ := hq
  cases ey
  · refine ⟨w, ps, nI w, wf1, wf2, wf3, gp, gh, gs, ?_, ?_, hw, rfl, rfl, a1, a2, a3, hb⟩
    · unfold of_PK_told_Tagged
      simp only [hc, Option.bind_some, ite_f0]
    · unfold of_Md_told_6
      simp only [hm, Option.bind_some, ite_f0]
  · by_cases q : w < 64
    · have hin : ¬ (nI w < 0 ∨ 64 ≤ (nI w).toNatClampNeg) := nI_in (by omega) (by omega)
      refine ⟨w + 1, tf_PK_behind ps c, nI (w + 1), upd wf1 w pl, upd wf2 w ps, upd wf3 w (bI c), upd gp w pl, upd gh w ps, upd gs w (bI c), ?_, ?_, by omega, rfl, rfl, ag_up a1 pl, ag_up a2 ps, ag_up a3 (bI c), bo_up hb c⟩
      · unfold of_PK_told_Tagged
        simp only [hc, Option.bind_some, ite_t0, room_yes q, add_class q]
      · have hge : ¬ (64 : Int32) ≤ nI w := nI_ge (a := w) (b := 64) q (by omega)
        unfold of_Md_told_6
        simp only [hm, Option.bind_some, ite_t0, if_neg hge, if_neg hin, nar_b, nI_1, bh_eq]
        rw [nI_clamp (by omega)]
    · have e : w = 64 := by omega
      subst e
      refine ⟨64, ps, nI 64, wf1, wf2, wf3, gp, gh, gs, ?_, ?_, hw, rfl, rfl, a1, a2, a3, hb⟩
      · unfold of_PK_told_Tagged
        simp only [hc, Option.bind_some, ite_t0, ite_f0, room_no]
      · have hge : (64 : Int32) ≤ nI 64 := by decide
        unfold of_Md_told_6
        simp only [hm, Option.bind_some, ite_t0, if_pos hge]
theorem sev_6 {zs0 : Int32} {rw0 : Int32} {mk0 : Int32} {n0 : Nat} {f0 : Nat → Int32} {n1 : Nat} {f1 : Nat → Int32} {n2 : Nat} {f2 : Nat → Int32} {pl : Int32} {mbt : Int32} {mrw : Int32} {g_plain : Nat → Int32} {g_tag : Nat → Int32} {g_sum : Nat → Int32} (hy : ∀ p h : Int32, ∃ c : Bool, of_Tagged_says zs0 rw0 mk0 n0 f0 n1 f1 n2 f2 p h = some c ∧ of_Md_says_6 mbt mrw g_plain g_tag g_sum p h = some c) {m : Nat} (hm : m ≤ 16) : ∀ d n i x h, i + d = m → d < n → ∃ r, of_PK_several_Tagged_b32 n zs0 rw0 mk0 n0 f0 n1 f1 n2 f2 pl (nI m) h x (nI i) = some r ∧ of_Md_several_6_b33 n mbt mrw g_plain g_tag g_sum pl (nI m) x h (nI i) = some (r, 0) := by
  intro d
  induction d with
  | zero =>
    intro n i x h e hn
    obtain ⟨n, rfl⟩ : ∃ n', n = n' + 1 := ⟨n - 1, by omega⟩
    have e1 : i = m := by omega
    subst e1
    exact ⟨x, if_pos (nI_le (Nat.le_refl _) (by omega)), if_pos (nI_le (Nat.le_refl _) (by omega))⟩
  | succ d ih =>
    intro n i x h e hn
    obtain ⟨n, rfl⟩ : ∃ n', n = n' + 1 := ⟨n - 1, by omega⟩
    have hg : ¬ nI m ≤ nI i := nI_ge (by omega) (by omega)
    obtain ⟨c, s1, s2⟩ := hy (pl + (4 * nI i)) h
    cases c
    · obtain ⟨r, r1, r2⟩ := ih n (i + 1) x (tf_PK_behind h false) (by omega) (by omega)
      refine ⟨r, ?_, ?_⟩
      · unfold of_PK_several_Tagged_b32
        simp only [if_neg hg, s1, Option.bind_some, ite_f0, nI_1, i_or0]
        exact r1
      · rw [bh_eq] at r2
        unfold of_Md_several_6_b33
        simp only [if_neg hg, s2, Option.bind_some, ite_f0, nI_1]
        exact r2
    · obtain ⟨r, r1, r2⟩ := ih n (i + 1) (x ||| ((1 : Int32) <<< (nI i &&& 31))) (tf_PK_behind h true) (by omega) (by omega)
      refine ⟨r, ?_, ?_⟩
      · unfold of_PK_several_Tagged_b32
        simp only [if_neg hg, s1, Option.bind_some, ite_t0, nI_1]
        exact r1
      · rw [bh_eq] at r2
        unfold of_Md_several_6_b33
        simp only [if_neg hg, s2, Option.bind_some, ite_t0, nI_1]
        exact r2
theorem several_6 {zs0 : Int32} {rw0 : Int32} {mk0 : Int32} {n0 : Nat} {f0 : Nat → Int32} {n1 : Nat} {f1 : Nat → Int32} {n2 : Nat} {f2 : Nat → Int32} {pl : Int32} {mbt : Int32} {mrw : Int32} {g_plain : Nat → Int32} {g_tag : Nat → Int32} {g_sum : Nat → Int32} {ps ct0 : Int32} (hy : ∀ p h : Int32, ∃ c : Bool, of_Tagged_says zs0 rw0 mk0 n0 f0 n1 f1 n2 f2 p h = some c ∧ of_Md_says_6 mbt mrw g_plain g_tag g_sum p h = some c) (h1 : ¬ ct0 < 1) (h2 : ct0 ≤ 16) : ∃ r, of_PK_several_Tagged ps zs0 rw0 mk0 n0 f0 n1 f1 n2 f2 pl ct0 = some r ∧ of_Md_several_6 mbt mrw ps g_plain g_tag g_sum pl ct0 = some (r, 0) := by
  obtain ⟨m, hm, rfl⟩ := nI_of2 (x := ct0) (M := 16) (n := 16) (by decide) (fun q => h1 (i_lt01 q)) h2
  obtain ⟨r, r1, r2⟩ := sev_6 hy hm m 4096 0 0 ps (by omega) (by omega)
  exact ⟨r, (if_neg h1).trans ((if_pos h2).trans r1), (if_neg h1).trans ((if_pos h2).trans r2)⟩
theorem severalx_6 {zs0 : Int32} {rw0 : Int32} {mk0 : Int32} {n0 : Nat} {f0 : Nat → Int32} {n1 : Nat} {f1 : Nat → Int32} {n2 : Nat} {f2 : Nat → Int32} {pl : Int32} {mbt : Int32} {mrw : Int32} {g_plain : Nat → Int32} {g_tag : Nat → Int32} {g_sum : Nat → Int32} {ps ct0 : Int32} (h1 : ct0 < 1 ∨ ¬ ct0 ≤ 16) : of_Md_several_6 mbt mrw ps g_plain g_tag g_sum pl ct0 = some (0, 1) := by
  unfold of_Md_several_6 of_Md_several_6_b16
  by_cases q : ct0 < 1
  · rw [if_pos q]; rfl
  · rw [if_neg q]
    rcases h1 with z | z
    · exact absurd z q
    · rw [if_neg z]; rfl
theorem told_7 {w : Nat} {ps : Int32} {ey : Bool} {ud : Int32} {wf1 : Nat → Int32} {wf2 : Nat → Int32} {wf3 : Nat → Int32} {zs0 : Int32} {mk0 : Int32} {n1 : Nat} {f1 : Nat → Int32} {pl : Int32} {mbt : Int32} {mrw : Int32} {mwt : Int32} {g_weight : Nat → Int32} {gp : Nat → Int32} {gh : Nat → Int32} {gs : Nat → Int32} {c : Bool} (hq : Qu w ud mwt wf1 wf2 wf3 gp gh gs) (hc : of_Sums_says zs0 mk0 n1 f1 pl ps = some c) (hm : of_Md_says_7 mbt mrw g_weight pl ps = some c) : ∃ (w' : Nat) (ps' ud' : Int32) (p1 p2 p3 q1 q2 q3 : Nat → Int32), of_PK_told_Sums ps ey ud wf1 wf2 wf3 zs0 mk0 n1 f1 pl = some (c, ps', ud', p1, p2, p3) ∧ of_Md_told_7 mbt mrw ps ey mwt g_weight gp gh gs pl = some (c, 0, ud', ps', q1, q2, q3) ∧ Qu w' ud' ud' p1 p2 p3 q1 q2 q3 := by
  obtain ⟨hw, rfl, rfl, a1, a2, a3, hb⟩ := hq
  cases ey
  · refine ⟨w, ps, nI w, wf1, wf2, wf3, gp, gh, gs, ?_, ?_, hw, rfl, rfl, a1, a2, a3, hb⟩
    · unfold of_PK_told_Sums
      simp only [hc, Option.bind_some, ite_f0]
    · unfold of_Md_told_7
      simp only [hm, Option.bind_some, ite_f0]
  · by_cases q : w < 64
    · have hin : ¬ (nI w < 0 ∨ 64 ≤ (nI w).toNatClampNeg) := nI_in (by omega) (by omega)
      refine ⟨w + 1, tf_PK_behind ps c, nI (w + 1), upd wf1 w pl, upd wf2 w ps, upd wf3 w (bI c), upd gp w pl, upd gh w ps, upd gs w (bI c), ?_, ?_, by omega, rfl, rfl, ag_up a1 pl, ag_up a2 ps, ag_up a3 (bI c), bo_up hb c⟩
      · unfold of_PK_told_Sums
        simp only [hc, Option.bind_some, ite_t0, room_yes q, add_class q]
      · have hge : ¬ (64 : Int32) ≤ nI w := nI_ge (a := w) (b := 64) q (by omega)
        unfold of_Md_told_7
        simp only [hm, Option.bind_some, ite_t0, if_neg hge, if_neg hin, nar_b, nI_1, bh_eq]
        rw [nI_clamp (by omega)]
    · have e : w = 64 := by omega
      subst e
      refine ⟨64, ps, nI 64, wf1, wf2, wf3, gp, gh, gs, ?_, ?_, hw, rfl, rfl, a1, a2, a3, hb⟩
      · unfold of_PK_told_Sums
        simp only [hc, Option.bind_some, ite_t0, ite_f0, room_no]
      · have hge : (64 : Int32) ≤ nI 64 := by decide
        unfold of_Md_told_7
        simp only [hm, Option.bind_some, ite_t0, if_pos hge]
theorem sev_7 {zs0 : Int32} {mk0 : Int32} {n1 : Nat} {f1 : Nat → Int32} {pl : Int32} {mbt : Int32} {mrw : Int32} {g_weight : Nat → Int32} (hy : ∀ p h : Int32, ∃ c : Bool, of_Sums_says zs0 mk0 n1 f1 p h = some c ∧ of_Md_says_7 mbt mrw g_weight p h = some c) {m : Nat} (hm : m ≤ 16) : ∀ d n i x h, i + d = m → d < n → ∃ r, of_PK_several_Sums_b32 n zs0 mk0 n1 f1 pl (nI m) h x (nI i) = some r ∧ of_Md_several_7_b33 n mbt mrw g_weight pl (nI m) x h (nI i) = some (r, 0) := by
  intro d
  induction d with
  | zero =>
    intro n i x h e hn
    obtain ⟨n, rfl⟩ : ∃ n', n = n' + 1 := ⟨n - 1, by omega⟩
    have e1 : i = m := by omega
    subst e1
    exact ⟨x, if_pos (nI_le (Nat.le_refl _) (by omega)), if_pos (nI_le (Nat.le_refl _) (by omega))⟩
  | succ d ih =>
    intro n i x h e hn
    obtain ⟨n, rfl⟩ : ∃ n', n = n' + 1 := ⟨n - 1, by omega⟩
    have hg : ¬ nI m ≤ nI i := nI_ge (by omega) (by omega)
    obtain ⟨c, s1, s2⟩ := hy (pl + (4 * nI i)) h
    cases c
    · obtain ⟨r, r1, r2⟩ := ih n (i + 1) x (tf_PK_behind h false) (by omega) (by omega)
      refine ⟨r, ?_, ?_⟩
      · unfold of_PK_several_Sums_b32
        simp only [if_neg hg, s1, Option.bind_some, ite_f0, nI_1, i_or0]
        exact r1
      · rw [bh_eq] at r2
        unfold of_Md_several_7_b33
        simp only [if_neg hg, s2, Option.bind_some, ite_f0, nI_1]
        exact r2
    · obtain ⟨r, r1, r2⟩ := ih n (i + 1) (x ||| ((1 : Int32) <<< (nI i &&& 31))) (tf_PK_behind h true) (by omega) (by omega)
      refine ⟨r, ?_, ?_⟩
      · unfold of_PK_several_Sums_b32
        simp only [if_neg hg, s1, Option.bind_some, ite_t0, nI_1]
        exact r1
      · rw [bh_eq] at r2
        unfold of_Md_several_7_b33
        simp only [if_neg hg, s2, Option.bind_some, ite_t0, nI_1]
        exact r2
theorem several_7 {zs0 : Int32} {mk0 : Int32} {n1 : Nat} {f1 : Nat → Int32} {pl : Int32} {mbt : Int32} {mrw : Int32} {g_weight : Nat → Int32} {ps ct0 : Int32} (hy : ∀ p h : Int32, ∃ c : Bool, of_Sums_says zs0 mk0 n1 f1 p h = some c ∧ of_Md_says_7 mbt mrw g_weight p h = some c) (h1 : ¬ ct0 < 1) (h2 : ct0 ≤ 16) : ∃ r, of_PK_several_Sums ps zs0 mk0 n1 f1 pl ct0 = some r ∧ of_Md_several_7 mbt mrw ps g_weight pl ct0 = some (r, 0) := by
  obtain ⟨m, hm, rfl⟩ := nI_of2 (x := ct0) (M := 16) (n := 16) (by decide) (fun q => h1 (i_lt01 q)) h2
  obtain ⟨r, r1, r2⟩ := sev_7 hy hm m 4096 0 0 ps (by omega) (by omega)
  exact ⟨r, (if_neg h1).trans ((if_pos h2).trans r1), (if_neg h1).trans ((if_pos h2).trans r2)⟩
theorem severalx_7 {zs0 : Int32} {mk0 : Int32} {n1 : Nat} {f1 : Nat → Int32} {pl : Int32} {mbt : Int32} {mrw : Int32} {g_weight : Nat → Int32} {ps ct0 : Int32} (h1 : ct0 < 1 ∨ ¬ ct0 ≤ 16) : of_Md_several_7 mbt mrw ps g_weight pl ct0 = some (0, 1) := by
  unfold of_Md_several_7 of_Md_several_7_b16
  by_cases q : ct0 < 1
  · rw [if_pos q]; rfl
  · rw [if_neg q]
    rcases h1 with z | z
    · exact absurd z q
    · rw [if_neg z]; rfl
theorem told_8 {w : Nat} {ps : Int32} {ey : Bool} {ud : Int32} {wf1 : Nat → Int32} {wf2 : Nat → Int32} {wf3 : Nat → Int32} {zs0 : Int32} {mk0 : Int32} {n0 : Nat} {f0 : Nat → Int32} {n1 : Nat} {f1 : Nat → Int32} {n2 : Nat} {f2 : Nat → Int32} {n3 : Nat} {f3 : Nat → Int32} {n4 : Nat} {f4 : Nat → Int32} {pl : Int32} {mbt : Int32} {mrw : Int32} {mwt : Int32} {g_plain : Nat → Int32} {g_loopTag : Nat → Int32} {g_length : Nat → Int32} {g_count : Nat → Int32} {g_trust : Nat → Int32} {gp : Nat → Int32} {gh : Nat → Int32} {gs : Nat → Int32} {c : Bool} (hq : Qu w ud mwt wf1 wf2 wf3 gp gh gs) (hc : tf_Loops_says zs0 mk0 n0 f0 n1 f1 n2 f2 n3 f3 n4 f4 pl ps = c) (hm : of_Md_says_8 mbt mrw g_plain g_loopTag g_length g_count g_trust pl = some c) : ∃ (w' : Nat) (ps' ud' : Int32) (p1 p2 p3 q1 q2 q3 : Nat → Int32), tf_PK_told_Loops ps ey ud wf1 wf2 wf3 zs0 mk0 n0 f0 n1 f1 n2 f2 n3 f3 n4 f4 pl = (c, ps', ud', p1, p2, p3) ∧ of_Md_told_8 mbt mrw ps ey mwt g_plain g_loopTag g_length g_count g_trust gp gh gs pl = some (c, 0, ud', ps', q1, q2, q3) ∧ Qu w' ud' ud' p1 p2 p3 q1 q2 q3 := by
  obtain ⟨hw, rfl, rfl, a1, a2, a3, hb⟩ := hq
  cases ey
  · refine ⟨w, ps, nI w, wf1, wf2, wf3, gp, gh, gs, ?_, ?_, hw, rfl, rfl, a1, a2, a3, hb⟩
    · unfold tf_PK_told_Loops
      simp only [hc, Option.bind_some, ite_f0]
    · unfold of_Md_told_8
      simp only [hm, Option.bind_some, ite_f0]
  · by_cases q : w < 64
    · have hin : ¬ (nI w < 0 ∨ 64 ≤ (nI w).toNatClampNeg) := nI_in (by omega) (by omega)
      refine ⟨w + 1, tf_PK_behind ps c, nI (w + 1), upd wf1 w pl, upd wf2 w ps, upd wf3 w (bI c), upd gp w pl, upd gh w ps, upd gs w (bI c), ?_, ?_, by omega, rfl, rfl, ag_up a1 pl, ag_up a2 ps, ag_up a3 (bI c), bo_up hb c⟩
      · unfold tf_PK_told_Loops
        simp only [hc, Option.bind_some, ite_t0, room_yes q, add_class q]
      · have hge : ¬ (64 : Int32) ≤ nI w := nI_ge (a := w) (b := 64) q (by omega)
        unfold of_Md_told_8
        simp only [hm, Option.bind_some, ite_t0, if_neg hge, if_neg hin, nar_b, nI_1, bh_eq]
        rw [nI_clamp (by omega)]
    · have e : w = 64 := by omega
      subst e
      refine ⟨64, ps, nI 64, wf1, wf2, wf3, gp, gh, gs, ?_, ?_, hw, rfl, rfl, a1, a2, a3, hb⟩
      · unfold tf_PK_told_Loops
        simp only [hc, Option.bind_some, ite_t0, ite_f0, room_no]
      · have hge : (64 : Int32) ≤ nI 64 := by decide
        unfold of_Md_told_8
        simp only [hm, Option.bind_some, ite_t0, if_pos hge]
theorem sev_8 {zs0 : Int32} {mk0 : Int32} {n0 : Nat} {f0 : Nat → Int32} {n1 : Nat} {f1 : Nat → Int32} {n2 : Nat} {f2 : Nat → Int32} {n3 : Nat} {f3 : Nat → Int32} {n4 : Nat} {f4 : Nat → Int32} {pl : Int32} {mbt : Int32} {mrw : Int32} {g_plain : Nat → Int32} {g_loopTag : Nat → Int32} {g_length : Nat → Int32} {g_count : Nat → Int32} {g_trust : Nat → Int32} (hy : ∀ p h : Int32, ∃ c : Bool, tf_Loops_says zs0 mk0 n0 f0 n1 f1 n2 f2 n3 f3 n4 f4 p h = c ∧ of_Md_says_8 mbt mrw g_plain g_loopTag g_length g_count g_trust p = some c) {m : Nat} (hm : m ≤ 16) : ∀ d n i x h, i + d = m → d < n → ∃ r, of_PK_several_Loops_b32 n zs0 mk0 n0 f0 n1 f1 n2 f2 n3 f3 n4 f4 pl (nI m) h x (nI i) = some r ∧ of_Md_several_8_b33 n mbt mrw g_plain g_loopTag g_length g_count g_trust pl (nI m) x h (nI i) = some (r, 0) := by
  intro d
  induction d with
  | zero =>
    intro n i x h e hn
    obtain ⟨n, rfl⟩ : ∃ n', n = n' + 1 := ⟨n - 1, by omega⟩
    have e1 : i = m := by omega
    subst e1
    exact ⟨x, if_pos (nI_le (Nat.le_refl _) (by omega)), if_pos (nI_le (Nat.le_refl _) (by omega))⟩
  | succ d ih =>
    intro n i x h e hn
    obtain ⟨n, rfl⟩ : ∃ n', n = n' + 1 := ⟨n - 1, by omega⟩
    have hg : ¬ nI m ≤ nI i := nI_ge (by omega) (by omega)
    obtain ⟨c, s1, s2⟩ := hy (pl + (4 * nI i)) h
    cases c
    · obtain ⟨r, r1, r2⟩ := ih n (i + 1) x (tf_PK_behind h false) (by omega) (by omega)
      refine ⟨r, ?_, ?_⟩
      · unfold of_PK_several_Loops_b32
        simp only [if_neg hg, s1, Option.bind_some, ite_f0, nI_1, i_or0]
        exact r1
      · rw [bh_eq] at r2
        unfold of_Md_several_8_b33
        simp only [if_neg hg, s2, Option.bind_some, ite_f0, nI_1]
        exact r2
    · obtain ⟨r, r1, r2⟩ := ih n (i + 1) (x ||| ((1 : Int32) <<< (nI i &&& 31))) (tf_PK_behind h true) (by omega) (by omega)
      refine ⟨r, ?_, ?_⟩
      · unfold of_PK_several_Loops_b32
        simp only [if_neg hg, s1, Option.bind_some, ite_t0, nI_1]
        exact r1
      · rw [bh_eq] at r2
        unfold of_Md_several_8_b33
        simp only [if_neg hg, s2, Option.bind_some, ite_t0, nI_1]
        exact r2
theorem several_8 {zs0 : Int32} {mk0 : Int32} {n0 : Nat} {f0 : Nat → Int32} {n1 : Nat} {f1 : Nat → Int32} {n2 : Nat} {f2 : Nat → Int32} {n3 : Nat} {f3 : Nat → Int32} {n4 : Nat} {f4 : Nat → Int32} {pl : Int32} {mbt : Int32} {mrw : Int32} {g_plain : Nat → Int32} {g_loopTag : Nat → Int32} {g_length : Nat → Int32} {g_count : Nat → Int32} {g_trust : Nat → Int32} {ps ct0 : Int32} (hy : ∀ p h : Int32, ∃ c : Bool, tf_Loops_says zs0 mk0 n0 f0 n1 f1 n2 f2 n3 f3 n4 f4 p h = c ∧ of_Md_says_8 mbt mrw g_plain g_loopTag g_length g_count g_trust p = some c) (h1 : ¬ ct0 < 1) (h2 : ct0 ≤ 16) : ∃ r, of_PK_several_Loops ps zs0 mk0 n0 f0 n1 f1 n2 f2 n3 f3 n4 f4 pl ct0 = some r ∧ of_Md_several_8 mbt mrw ps g_plain g_loopTag g_length g_count g_trust pl ct0 = some (r, 0) := by
  obtain ⟨m, hm, rfl⟩ := nI_of2 (x := ct0) (M := 16) (n := 16) (by decide) (fun q => h1 (i_lt01 q)) h2
  obtain ⟨r, r1, r2⟩ := sev_8 hy hm m 4096 0 0 ps (by omega) (by omega)
  exact ⟨r, (if_neg h1).trans ((if_pos h2).trans r1), (if_neg h1).trans ((if_pos h2).trans r2)⟩
theorem severalx_8 {zs0 : Int32} {mk0 : Int32} {n0 : Nat} {f0 : Nat → Int32} {n1 : Nat} {f1 : Nat → Int32} {n2 : Nat} {f2 : Nat → Int32} {n3 : Nat} {f3 : Nat → Int32} {n4 : Nat} {f4 : Nat → Int32} {pl : Int32} {mbt : Int32} {mrw : Int32} {g_plain : Nat → Int32} {g_loopTag : Nat → Int32} {g_length : Nat → Int32} {g_count : Nat → Int32} {g_trust : Nat → Int32} {ps ct0 : Int32} (h1 : ct0 < 1 ∨ ¬ ct0 ≤ 16) : of_Md_several_8 mbt mrw ps g_plain g_loopTag g_length g_count g_trust pl ct0 = some (0, 1) := by
  unfold of_Md_several_8 of_Md_several_8_b16
  by_cases q : ct0 < 1
  · rw [if_pos q]; rfl
  · rw [if_neg q]
    rcases h1 with z | z
    · exact absurd z q
    · rw [if_neg z]; rfl
theorem told_9 {w : Nat} {ps : Int32} {ey : Bool} {ud : Int32} {wf1 : Nat → Int32} {wf2 : Nat → Int32} {wf3 : Nat → Int32} {xs : Int32} {pl : Int32} {mco : Int32} {mwt : Int32} {gp : Nat → Int32} {gh : Nat → Int32} {gs : Nat → Int32} {c : Bool} (hq : Qu w ud mwt wf1 wf2 wf3 gp gh gs) (hc : tf_Coin_says xs = c) (hm : of_Md_says_9 mco = some c) : ∃ (w' : Nat) (ps' ud' : Int32) (p1 p2 p3 q1 q2 q3 : Nat → Int32), tf_PK_told_Coin ps ey ud wf1 wf2 wf3 xs pl = (c, ps', ud', p1, p2, p3) ∧ of_Md_told_9 ps mco ey mwt gp gh gs pl = some (c, 0, ud', ps', q1, q2, q3) ∧ Qu w' ud' ud' p1 p2 p3 q1 q2 q3 := by
  obtain ⟨hw, rfl, rfl, a1, a2, a3, hb⟩ := hq
  cases ey
  · refine ⟨w, ps, nI w, wf1, wf2, wf3, gp, gh, gs, ?_, ?_, hw, rfl, rfl, a1, a2, a3, hb⟩
    · unfold tf_PK_told_Coin
      simp only [hc, Option.bind_some, ite_f0]
    · unfold of_Md_told_9
      simp only [hm, Option.bind_some, ite_f0]
  · by_cases q : w < 64
    · have hin : ¬ (nI w < 0 ∨ 64 ≤ (nI w).toNatClampNeg) := nI_in (by omega) (by omega)
      refine ⟨w + 1, tf_PK_behind ps c, nI (w + 1), upd wf1 w pl, upd wf2 w ps, upd wf3 w (bI c), upd gp w pl, upd gh w ps, upd gs w (bI c), ?_, ?_, by omega, rfl, rfl, ag_up a1 pl, ag_up a2 ps, ag_up a3 (bI c), bo_up hb c⟩
      · unfold tf_PK_told_Coin
        simp only [hc, Option.bind_some, ite_t0, room_yes q, add_class q]
      · have hge : ¬ (64 : Int32) ≤ nI w := nI_ge (a := w) (b := 64) q (by omega)
        unfold of_Md_told_9
        simp only [hm, Option.bind_some, ite_t0, if_neg hge, if_neg hin, nar_b, nI_1, bh_eq]
        rw [nI_clamp (by omega)]
    · have e : w = 64 := by omega
      subst e
      refine ⟨64, ps, nI 64, wf1, wf2, wf3, gp, gh, gs, ?_, ?_, hw, rfl, rfl, a1, a2, a3, hb⟩
      · unfold tf_PK_told_Coin
        simp only [hc, Option.bind_some, ite_t0, ite_f0, room_no]
      · have hge : (64 : Int32) ≤ nI 64 := by decide
        unfold of_Md_told_9
        simp only [hm, Option.bind_some, ite_t0, if_pos hge]
theorem sev_9 {xs : Int32} {mco : Int32} (hy : ∀ p h : Int32, ∃ c : Bool, tf_Coin_says xs = c ∧ of_Md_says_9 mco = some c) {m : Nat} (hm : m ≤ 16) : ∀ d n i x h, i + d = m → d < n → ∃ r, of_PK_several_Coin_b32 n xs (nI m) h x (nI i) = some r ∧ of_Md_several_9_b33 n mco (nI m) x h (nI i) = some (r, 0) := by
  intro d
  induction d with
  | zero =>
    intro n i x h e hn
    obtain ⟨n, rfl⟩ : ∃ n', n = n' + 1 := ⟨n - 1, by omega⟩
    have e1 : i = m := by omega
    subst e1
    exact ⟨x, if_pos (nI_le (Nat.le_refl _) (by omega)), if_pos (nI_le (Nat.le_refl _) (by omega))⟩
  | succ d ih =>
    intro n i x h e hn
    obtain ⟨n, rfl⟩ : ∃ n', n = n' + 1 := ⟨n - 1, by omega⟩
    have hg : ¬ nI m ≤ nI i := nI_ge (by omega) (by omega)
    obtain ⟨c, s1, s2⟩ := hy (0 + (4 * nI i)) h
    cases c
    · obtain ⟨r, r1, r2⟩ := ih n (i + 1) x (tf_PK_behind h false) (by omega) (by omega)
      refine ⟨r, ?_, ?_⟩
      · unfold of_PK_several_Coin_b32
        simp only [if_neg hg, s1, Option.bind_some, ite_f0, nI_1, i_or0]
        exact r1
      · rw [bh_eq] at r2
        unfold of_Md_several_9_b33
        simp only [if_neg hg, s2, Option.bind_some, ite_f0, nI_1]
        exact r2
    · obtain ⟨r, r1, r2⟩ := ih n (i + 1) (x ||| ((1 : Int32) <<< (nI i &&& 31))) (tf_PK_behind h true) (by omega) (by omega)
      refine ⟨r, ?_, ?_⟩
      · unfold of_PK_several_Coin_b32
        simp only [if_neg hg, s1, Option.bind_some, ite_t0, nI_1]
        exact r1
      · rw [bh_eq] at r2
        unfold of_Md_several_9_b33
        simp only [if_neg hg, s2, Option.bind_some, ite_t0, nI_1]
        exact r2
theorem several_9 {xs : Int32} {mco : Int32} {ps ct0 : Int32} (hy : ∀ p h : Int32, ∃ c : Bool, tf_Coin_says xs = c ∧ of_Md_says_9 mco = some c) (h1 : ¬ ct0 < 1) (h2 : ct0 ≤ 16) : ∃ r, of_PK_several_Coin ps xs ct0 = some r ∧ of_Md_several_9 ps mco ct0 = some (r, 0) := by
  obtain ⟨m, hm, rfl⟩ := nI_of2 (x := ct0) (M := 16) (n := 16) (by decide) (fun q => h1 (i_lt01 q)) h2
  obtain ⟨r, r1, r2⟩ := sev_9 hy hm m 4096 0 0 ps (by omega) (by omega)
  exact ⟨r, (if_neg h1).trans ((if_pos h2).trans r1), (if_neg h1).trans ((if_pos h2).trans r2)⟩
theorem severalx_9 {xs : Int32} {mco : Int32} {ps ct0 : Int32} (h1 : ct0 < 1 ∨ ¬ ct0 ≤ 16) : of_Md_several_9 ps mco ct0 = some (0, 1) := by
  unfold of_Md_several_9 of_Md_several_9_b16
  by_cases q : ct0 < 1
  · rw [if_pos q]; rfl
  · rw [if_neg q]
    rcases h1 with z | z
    · exact absurd z q
    · rw [if_neg z]; rfl
