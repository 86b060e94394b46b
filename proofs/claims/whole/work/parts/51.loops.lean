/-! KIND 8 -/
theorem hasTag_8 {S : Nat} {zs rw mk : Int32} {n1 : Nat} {f1 g1 : Nat → Int32} (hz : Sz S zs rw mk) (hn1 : n1 = 2 ^ S) (a1 : Ag (2 ^ S) f1 g1) (pl : Int32) : of_Md_hasLoop zs rw g1 pl = some (tf_Loops_hasTag zs mk n1 f1 pl) := by
  obtain ⟨hS, rfl, rfl, rfl⟩ := hz
  have hp := Sz_pow hS
  obtain ⟨j, hj, e⟩ := row_ex hS (pl ^^^ us pl (nI S))
  have e1 : tf_Md_plainRow (nI S) (nI (2 ^ S)) pl = nI j := e
  have e2 : tf_Loops_plainRow (nI S) (nI (2 ^ S) - 1) pl = nI j := e
  subst hn1
  unfold of_Md_hasLoop tf_Loops_hasTag tf_Loops_tagOf
  rw [e1, e2, if_neg (nI_in (by omega) (by omega)), at_in hj (by omega), nI_clamp (by omega), a1 j hj]
  by_cases h : g1 j = us pl (nI S) &&& 255
  · rw [if_pos h, if_pos h]
  · rw [if_neg h, if_neg h]
theorem isTr_8 {S : Nat} {zs rw mk : Int32} {n1 n4 : Nat} {f1 g1 f4 g4 : Nat → Int32} (hz : Sz S zs rw mk) (hn1 : n1 = 2 ^ S) (hn4 : n4 = 2 ^ S) (a1 : Ag (2 ^ S) f1 g1) (a4 : Ag (2 ^ S) f4 g4) (pl : Int32) : of_Md_isLoop zs rw g1 g4 pl = some (tf_Loops_isTrusted zs mk n1 f1 n4 f4 pl) := by
  unfold of_Md_isLoop tf_Loops_isTrusted
  rw [hasTag_8 hz hn1 a1 pl]
  generalize tf_Loops_hasTag zs mk n1 f1 pl = t
  obtain ⟨hS, rfl, rfl, rfl⟩ := hz
  have hp := Sz_pow hS
  obtain ⟨j, hj, e⟩ := row_ex hS (pl ^^^ us pl (nI S))
  have e1 : tf_Md_plainRow (nI S) (nI (2 ^ S)) pl = nI j := e
  have e2 : tf_Loops_plainRow (nI S) (nI (2 ^ S) - 1) pl = nI j := e
  subst hn4
  show (if bI t = 0 then some false else _) = _
  by_cases ht : bI t = 0
  · rw [if_pos ht, if_pos ht]
  · rw [if_neg ht, if_neg ht, e1, e2, if_neg (nI_in (by omega) (by omega)), at_in hj (by omega), nI_clamp (by omega), a4 j hj]
    by_cases h : g4 j = 3
    · rw [if_pos h, if_pos h]
    · rw [if_neg h, if_neg h]
theorem says_8 {S : Nat} {zs rw mk : Int32} {n0 n1 n2 n3 n4 : Nat} {f0 f1 f2 f3 f4 g0 g1 g2 g3 g4 : Nat → Int32} (hz : Sz S zs rw mk) (hn0 : n0 = 2 ^ S) (hn1 : n1 = 2 ^ S) (hn2 : n2 = 2 ^ S) (hn3 : n3 = 2 ^ S) (hn4 : n4 = 2 ^ S) (a0 : Ag (2 ^ S) f0 g0) (a1 : Ag (2 ^ S) f1 g1) (a2 : Ag (2 ^ S) f2 g2) (a3 : Ag (2 ^ S) f3 g3) (a4 : Ag (2 ^ S) f4 g4) (pl hs : Int32) : of_Md_says_8 zs rw g0 g1 g2 g3 g4 pl = some (tf_Loops_says zs mk n0 f0 n1 f1 n2 f2 n3 f3 n4 f4 pl hs) := by
  have s2 := says_2 hz hn0 a0 pl hs
  unfold of_Md_says_2 of_Md_says_2_b93 at s2
  unfold of_Md_says_8 of_Md_says_8_b260 tf_Loops_says
  rw [isTr_8 hz hn1 hn4 a1 a4 pl]
  generalize tf_Loops_isTrusted zs mk n1 f1 n4 f4 pl = t
  show (if bI t = 0 then _ else _) = _
  by_cases ht : bI t = 0
  · rw [if_pos ht, if_pos ht]
    exact s2
  · rw [if_neg ht, if_neg ht]
    obtain ⟨hS, rfl, rfl, rfl⟩ := hz
    have hp := Sz_pow hS
    obtain ⟨j, hj, e⟩ := row_ex hS (pl ^^^ us pl (nI S))
    have e1 : tf_Md_plainRow (nI S) (nI (2 ^ S)) pl = nI j := e
    have e2 : tf_Loops_plainRow (nI S) (nI (2 ^ S) - 1) pl = nI j := e
    subst hn2; subst hn3
    rw [e1, e2, if_neg (nI_in (by omega) (by omega)), if_neg (nI_in (by omega) (by omega)), at_in hj (by omega), at_in hj (by omega), nI_clamp (by omega), a2 j hj, a3 j hj]
    by_cases h : g2 j ≤ g3 j
    · rw [if_pos h, if_pos h]
    · rw [if_neg h, if_neg h]
/-- what learning does to the five arrays, at row j with the tag tg -/
def lpL (j : Nat) (tg : Int32) (tk : Bool) (a b c d e : Nat → Int32) : (Nat → Int32) × (Nat → Int32) × (Nat → Int32) × (Nat → Int32) × (Nat → Int32) :=
  (upd a j (tf_Md_step (a j) tk),
    if b j = tg then
      (if tk = true then
        (if 1000 < d j + 1 then (b, upd c j 0, upd (upd d j (d j + 1)) j 0, upd e j 0)
        else if e j ≤ 0 then (b, c, upd d j (d j + 1), e)
        else if d j + 1 ≤ c j then (b, c, upd d j (d j + 1), e)
        else (b, upd c j 0, upd (upd d j (d j + 1)) j 0, upd e j 0))
      else (if d j = c j then (b, c, upd d j 0, upd e j (tf_Md_step (e j) true)) else (b, upd c j (d j), upd d j 0, upd e j 0)))
    else (if tk = true then (b, c, d, e) else (upd b j tg, upd c j 0, upd d j 0, upd e j 0)))
theorem lpL_class {S : Nat} {n0 n1 n2 n3 n4 j : Nat} {f0 f1 f2 f3 f4 : Nat → Int32} {zs mk pl hs : Int32} {tk : Bool} (hS : 1 ≤ S ∧ S ≤ 10) (hn0 : n0 = 2 ^ S) (hn1 : n1 = 2 ^ S) (hn2 : n2 = 2 ^ S) (hn3 : n3 = 2 ^ S) (hn4 : n4 = 2 ^ S) (hj : j < 2 ^ S) (e2 : tf_Loops_plainRow zs mk pl = nI j) (e3 : tf_Counters_counterRow zs mk false pl hs = nI j) (c0 : C2 (2 ^ S) f0) (c4 : C2 (2 ^ S) f4) : tf_Loops_learn zs mk n0 f0 n1 f1 n2 f2 n3 f3 n4 f4 pl hs tk = lpL j (us pl zs &&& 255) tk f0 f1 f2 f3 f4 := by
  have hp := Sz_pow hS
  subst hn0; subst hn1; subst hn2; subst hn3; subst hn4
  have A : ∀ f : Nat → Int32, tf_PK_at (2 ^ S) f (nI j) = f j := fun f => at_in hj (by omega)
  have P : ∀ (f : Nat → Int32) (x : Int32), tf_PK_put (2 ^ S) f (nI j) x = upd f j x := fun f x => put_in hj (by omega)
  have ST : tf_PK_step (2 ^ S) f4 (nI j) true 0 3 = upd f4 j (tf_Md_step (f4 j) true) := step_in (u := true) hj (by omega) (c4 j hj)
  have CL : tf_Counters_learn zs mk false (2 ^ S) f0 pl hs tk = upd f0 j (tf_Md_step (f0 j) tk) := by
    unfold tf_Counters_learn
    rw [e3, step_in hj (by omega) (c0 j hj)]
  unfold tf_Loops_learn tf_Loops_hasTag tf_Loops_tagOf tf_Loops_goRound tf_Loops_forget tf_Loops_leave lpL
  simp only [e2, A, P, ST, CL]
  by_cases h : f1 j = us pl zs &&& 255
  · simp only [if_pos h]
    cases tk
    · simp only [show ¬ bI true = 0 by decide, show bI false = 0 by decide, if_true, if_false]
      by_cases h2 : f3 j = f2 j
      · simp [h2]
      · simp [h2]
    · simp only [show ¬ bI true = 0 by decide, if_true, if_false]
      by_cases h2 : 1000 < f3 j + 1
      · simp [h2]
      · by_cases h3 : f4 j ≤ 0
        · simp [h2, h3]
        · by_cases h4 : f3 j + 1 ≤ f2 j
          · simp [h2, h3, h4]
          · simp [h2, h3, h4]
  · simp only [if_neg h]
    cases tk
    · simp [show bI false = 0 by decide]
    · simp [show ¬ bI true = 0 by decide, show bI false = 0 by decide]
theorem lpL_model {S : Nat} {j : Nat} {g0 g1 g2 g3 g4 : Nat → Int32} {zs rw pl : Int32} {tk : Bool} (hS : 1 ≤ S ∧ S ≤ 10) (hj : j < 2 ^ S) (e1 : tf_Md_plainRow zs rw pl = nI j) : of_Md_learn_8 zs rw g0 g1 g2 g3 g4 pl tk = some (lpL j (us pl zs &&& 255) tk g0 g1 g2 g3 g4) := by
  have hp := Sz_pow hS
  have nj : ¬ (nI j < 0 ∨ 1024 ≤ j) := nbad (by omega) (by omega)
  have kj : (nI j).toNatClampNeg = j := nI_clamp (by omega)
  unfold of_Md_learn_8 of_Md_learnLoop of_Md_learnLoop_b39 of_Md_learnLoop_b118 of_Md_learnLoop_b146 of_Md_learnLoop_b172 of_Md_clearLoop of_Md_hasLoop lpL
  simp only [e1, kj, if_neg nj, pk_us]
  by_cases h : g1 j = us pl zs &&& 255
  · simp only [if_pos h]
    cases tk
    · by_cases h2 : g3 j = g2 j
      · simp [h2, bI, upd_same]
      · simp [h2, bI]
    · by_cases h2 : 1000 < g3 j + 1
      · simp [h2, bI]
      · by_cases h3 : g4 j ≤ 0
        · simp [h2, h3, bI]
        · by_cases h4 : g3 j + 1 ≤ g2 j
          · simp [h2, h3, h4, bI]
          · simp [h2, h3, h4, bI]
  · simp only [if_neg h]
    cases tk
    · simp [bI]
    · simp [bI]
theorem lpL_ag {n j : Nat} {tg : Int32} {tk : Bool} {f0 f1 f2 f3 f4 g0 g1 g2 g3 g4 : Nat → Int32} (hj : j < n) (a0 : Ag n f0 g0) (a1 : Ag n f1 g1) (a2 : Ag n f2 g2) (a3 : Ag n f3 g3) (a4 : Ag n f4 g4) (c0 : C2 n f0) (c4 : C2 n f4) :
    Ag n (lpL j tg tk f0 f1 f2 f3 f4).1 (lpL j tg tk g0 g1 g2 g3 g4).1 ∧ Ag n (lpL j tg tk f0 f1 f2 f3 f4).2.1 (lpL j tg tk g0 g1 g2 g3 g4).2.1 ∧ Ag n (lpL j tg tk f0 f1 f2 f3 f4).2.2.1 (lpL j tg tk g0 g1 g2 g3 g4).2.2.1 ∧ Ag n (lpL j tg tk f0 f1 f2 f3 f4).2.2.2.1 (lpL j tg tk g0 g1 g2 g3 g4).2.2.2.1 ∧ Ag n (lpL j tg tk f0 f1 f2 f3 f4).2.2.2.2 (lpL j tg tk g0 g1 g2 g3 g4).2.2.2.2 ∧ C2 n (lpL j tg tk f0 f1 f2 f3 f4).1 ∧ C2 n (lpL j tg tk f0 f1 f2 f3 f4).2.2.2.2 := by
  have hc4 := md_step_in (c4 j hj) true
  have hc0 := md_step_in (c0 j hj) tk
  have z4 : C2 n (upd f4 j 0) := c4.upd j (by decide)
  unfold lpL
  rw [a0 j hj] at hc0
  rw [a4 j hj] at hc4
  rw [a0 j hj, a1 j hj, a2 j hj, a3 j hj, a4 j hj]
  refine ⟨a0.upd j _, ?_⟩
  have d0 : C2 n (upd f0 j (tf_Md_step (g0 j) tk)) := c0.upd j hc0
  by_cases h : g1 j = tg
  · simp only [if_pos h]
    cases tk
    · by_cases h2 : g3 j = g2 j
      · simp only [if_pos h2]
        exact ⟨a1, a2, a3.upd j _, a4.upd j _, d0, c4.upd j hc4⟩
      · simp only [if_neg h2]
        exact ⟨a1, a2.upd j _, a3.upd j _, a4.upd j _, d0, z4⟩
    · by_cases h2 : 1000 < g3 j + 1
      · simp only [if_pos h2]
        exact ⟨a1, a2.upd j _, (a3.upd j _).upd j _, a4.upd j _, d0, z4⟩
      · by_cases h3 : g4 j ≤ 0
        · simp only [if_neg h2, if_pos h3]
          exact ⟨a1, a2, a3.upd j _, a4, d0, c4⟩
        · by_cases h4 : g3 j + 1 ≤ g2 j
          · simp only [if_neg h2, if_neg h3, if_pos h4]
            exact ⟨a1, a2, a3.upd j _, a4, d0, c4⟩
          · simp only [if_neg h2, if_neg h3, if_neg h4]
            exact ⟨a1, a2.upd j _, (a3.upd j _).upd j _, a4.upd j _, d0, z4⟩
  · simp only [if_neg h]
    cases tk
    · exact ⟨a1.upd j _, a2.upd j _, a3.upd j _, a4.upd j _, d0, z4⟩
    · exact ⟨a1, a2, a3, a4, d0, c4⟩
