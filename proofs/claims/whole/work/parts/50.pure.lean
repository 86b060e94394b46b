/-! PURE ROWS: booleans, rows, counters; class and reference agree, kind by kind. -/
theorem bI_inj {a b : Bool} : bI a = bI b ↔ a = b := by cases a <;> cases b <;> decide
theorem bI_0 {a : Bool} : bI a = 0 ↔ a = false := by cases a <;> decide
theorem bI_1 {a : Bool} : bI a = 1 ↔ a = true := by cases a <;> decide
theorem nar_b (b : Bool) : vp_nar .boolean (bI b) = bI b := by cases b <;> rfl
theorem at_in {n j : Nat} {f : Nat → Int32} (h : j < n) (hn : n < 2147483648) : tf_PK_at n f (nI j) = f j := by
  unfold tf_PK_at
  rw [if_neg (nI_pos (by omega)), if_neg (nI_ge h hn), nI_clamp (by omega)]
theorem put_in {n j : Nat} {f : Nat → Int32} {x : Int32} (h : j < n) (hn : n < 2147483648) : tf_PK_put n f (nI j) x = upd f j x := by
  unfold tf_PK_put
  rw [if_neg (nI_pos (by omega)), if_neg (nI_ge h hn), nI_clamp (by omega)]
theorem upd_same (f : Nat → Int32) (j : Nat) : upd f j (f j) = f := by
  funext k
  by_cases h : k = j
  · subst h; exact pk_us
  · exact pk_un h
theorem lt2_le1 (x : Int32) : x < 2 ↔ x ≤ 1 := by
  rw [Int32.lt_iff_toInt_lt, Int32.le_iff_toInt_le]
  have h2 : (2 : Int32).toInt = 2 := by decide
  have h1 : (1 : Int32).toInt = 1 := by decide
  rw [h1, h2]
  omega
/-- sizes: S, and the class's size, rows, mask -/
def Sz (S : Nat) (zs rw mk : Int32) : Prop := (1 ≤ S ∧ S ≤ 10) ∧ zs = nI S ∧ rw = nI (2 ^ S) ∧ mk = nI (2 ^ S) - 1
theorem Sz_pow {S : Nat} (h : 1 ≤ S ∧ S ≤ 10) : 2 ≤ 2 ^ S ∧ 2 ^ S ≤ 1024 := by
  obtain ⟨h1, h2⟩ := h
  have a : 2 ^ 1 ≤ 2 ^ S := Nat.pow_le_pow_right (by decide) h1
  have b : 2 ^ S ≤ 2 ^ 10 := Nat.pow_le_pow_right (by decide) h2
  omega
theorem row_ex {S : Nat} (h : 1 ≤ S ∧ S ≤ 10) (x : Int32) : ∃ j, j < 2 ^ S ∧ x &&& (nI (2 ^ S) - 1) = nI j := by
  have hp := Sz_pow h
  have e1 : nI (2 ^ S) - 1 = nI (2 ^ S - 1) := pk_sub (a := 2 ^ S) (b := 1) (by omega)
  refine ⟨x.toBitVec.toNat % 2 ^ S, Nat.mod_lt _ (by omega), ?_⟩
  rw [e1]
  exact pk_and x S (pk_tn (by omega))
/-- two arrays agree below n -/
def Ag (n : Nat) (f g : Nat → Int32) : Prop := ∀ j, j < n → f j = g j
theorem Ag.upd {n : Nat} {f g : Nat → Int32} (h : Ag n f g) (k : Nat) (x : Int32) : Ag n (upd f k x) (upd g k x) := by
  intro j hj
  by_cases e : j = k
  · subst e; rw [pk_us, pk_us]
  · rw [pk_un e, pk_un e]; exact h j hj
/-- counters of 2 bits -/
def C2 (n : Nat) (f : Nat → Int32) : Prop := ∀ j, j < n → 0 ≤ f j ∧ f j ≤ 3
theorem md_step_in {x : Int32} (h : 0 ≤ x ∧ x ≤ 3) (u : Bool) : 0 ≤ tf_Md_step x u ∧ tf_Md_step x u ≤ 3 := by
  obtain ⟨h1, h2⟩ := h
  rw [Int32.le_iff_toInt_le] at h1 h2
  have z0 : (0 : Int32).toInt = 0 := by decide
  have z3 : (3 : Int32).toInt = 3 := by decide
  rw [z0] at h1
  rw [z3] at h2
  have hx : x = 0 ∨ x = 1 ∨ x = 2 ∨ x = 3 := by
    have a0 : x.toInt = 0 ∨ x.toInt = 1 ∨ x.toInt = 2 ∨ x.toInt = 3 := by omega
    rcases a0 with a | a | a | a
    · exact Or.inl (Int32.toInt_inj.mp a)
    · exact Or.inr (Or.inl (Int32.toInt_inj.mp a))
    · exact Or.inr (Or.inr (Or.inl (Int32.toInt_inj.mp a)))
    · exact Or.inr (Or.inr (Or.inr (Int32.toInt_inj.mp a)))
  rcases hx with rfl | rfl | rfl | rfl <;> cases u <;> decide
theorem C2.upd {n : Nat} {f : Nat → Int32} (h : C2 n f) (k : Nat) {x : Int32} (hx : 0 ≤ x ∧ x ≤ 3) : C2 n (upd f k x) := by
  intro j hj
  by_cases e : j = k
  · subst e; rw [pk_us]; exact hx
  · rw [pk_un e]; exact h j hj
theorem i4 {x : Int32} (h : 0 ≤ x ∧ x ≤ 3) : x = 0 ∨ x = 1 ∨ x = 2 ∨ x = 3 := by
  obtain ⟨h1, h2⟩ := h
  rw [Int32.le_iff_toInt_le] at h1 h2
  have z0 : (0 : Int32).toInt = 0 := by decide
  have z3 : (3 : Int32).toInt = 3 := by decide
  rw [z0] at h1
  rw [z3] at h2
  have a0 : x.toInt = 0 ∨ x.toInt = 1 ∨ x.toInt = 2 ∨ x.toInt = 3 := by omega
  rcases a0 with a | a | a | a
  · exact Or.inl (Int32.toInt_inj.mp a)
  · exact Or.inr (Or.inl (Int32.toInt_inj.mp a))
  · exact Or.inr (Or.inr (Or.inl (Int32.toInt_inj.mp a)))
  · exact Or.inr (Or.inr (Or.inr (Int32.toInt_inj.mp a)))
theorem step_in {n j : Nat} {f : Nat → Int32} {u : Bool} (h : j < n) (hn : n < 2147483648) (hc : 0 ≤ f j ∧ f j ≤ 3) : tf_PK_stepCounter n f (nI j) u = upd f j (tf_Md_step (f j) u) := by
  unfold tf_PK_stepCounter tf_PK_step tf_PK_step_b30
  rw [at_in h hn, put_in h hn, put_in h hn]
  have hs := upd_same f j
  rcases i4 hc with e | e | e | e <;> rw [e] at hs ⊢ <;> cases u <;> first | exact hs.symm | rfl
theorem cs (x : Int32) : (if x ≤ 1 then some false else some true) = some (if x < 2 then false else true) := by
  by_cases h : x ≤ 1
  · rw [if_pos h, if_pos ((lt2_le1 x).mpr h)]
  · rw [if_neg h, if_neg (fun q => h ((lt2_le1 x).mp q))]
theorem nbad {N j : Nat} (h : j < N) (hN : N < 2147483648) : ¬ (nI j < 0 ∨ N ≤ j) := by
  intro q
  rcases q with q | q
  · exact nI_pos (by omega) q
  · omega
/-- KIND 2 -/
theorem says_2 {S : Nat} {zs rw mk : Int32} {n1 : Nat} {f1 g : Nat → Int32} (hz : Sz S zs rw mk) (hn : n1 = 2 ^ S) (ha : Ag (2 ^ S) f1 g) (pl hs : Int32) : of_Md_says_2 zs rw g pl = some (tf_Counters_says zs mk false n1 f1 pl hs) := by
  obtain ⟨hS, rfl, rfl, rfl⟩ := hz
  have hp := Sz_pow hS
  obtain ⟨j, hj, e⟩ := row_ex hS (pl ^^^ us pl (nI S))
  have e1 : tf_Md_plainRow (nI S) (nI (2 ^ S)) pl = nI j := e
  have e2 : tf_Counters_counterRow (nI S) (nI (2 ^ S) - 1) false pl hs = nI j := e
  subst hn
  unfold of_Md_says_2 of_Md_says_2_b93 tf_Counters_says
  rw [e1, e2, if_neg (nI_in (by omega) (by omega)), at_in hj (by omega), nI_clamp (by omega), ha j hj]
  exact cs (g j)
theorem learn_2 {S : Nat} {zs rw mk : Int32} {n1 : Nat} {f1 g : Nat → Int32} (hz : Sz S zs rw mk) (hn : n1 = 2 ^ S) (ha : Ag (2 ^ S) f1 g) (hc : C2 (2 ^ S) f1) (pl hs : Int32) (tk : Bool) : ∃ g', of_Md_learn_2 zs rw g pl tk = some g' ∧ Ag (2 ^ S) (tf_Counters_learn zs mk false n1 f1 pl hs tk) g' ∧ C2 (2 ^ S) (tf_Counters_learn zs mk false n1 f1 pl hs tk) := by
  obtain ⟨hS, rfl, rfl, rfl⟩ := hz
  have hp := Sz_pow hS
  obtain ⟨j, hj, e⟩ := row_ex hS (pl ^^^ us pl (nI S))
  have e1 : tf_Md_plainRow (nI S) (nI (2 ^ S)) pl = nI j := e
  have e2 : tf_Counters_counterRow (nI S) (nI (2 ^ S) - 1) false pl hs = nI j := e
  subst hn
  refine ⟨upd g j (tf_Md_step (g j) tk), ?_, ?_, ?_⟩
  · unfold of_Md_learn_2
    rw [e1, if_neg (nI_in (by omega) (by omega)), if_neg (nI_in (by omega) (by omega)), nI_clamp (by omega)]
  · unfold tf_Counters_learn
    rw [e2, step_in hj (by omega) (hc j hj), ha j hj]
    exact ha.upd j _
  · unfold tf_Counters_learn
    rw [e2, step_in hj (by omega) (hc j hj)]
    exact hc.upd j (md_step_in (hc j hj) tk)
/-- KIND 1 -/
theorem says_1 {S : Nat} {zs rw mk : Int32} {n1 : Nat} {f1 g : Nat → Int32} (hz : Sz S zs rw mk) (hn : n1 = 2 ^ S) (ha : Ag (2 ^ S) f1 g) (pl : Int32) : of_Md_says_1 zs rw g pl = some (tf_Last_says zs mk n1 f1 pl) := by
  obtain ⟨hS, rfl, rfl, rfl⟩ := hz
  have hp := Sz_pow hS
  obtain ⟨j, hj, e⟩ := row_ex hS (pl ^^^ us pl (nI S))
  have e1 : tf_Md_plainRow (nI S) (nI (2 ^ S)) pl = nI j := e
  have e2 : tf_Last_plainRow (nI S) (nI (2 ^ S) - 1) pl = nI j := e
  subst hn
  unfold of_Md_says_1 of_Md_says_1_b77 tf_Last_says tf_Last_number
  rw [e1, e2, if_neg (nI_in (by omega) (by omega)), at_in hj (by omega), nI_clamp (by omega), ha j hj]
  by_cases h : g j = 1
  · rw [if_pos h, if_pos h]
  · rw [if_neg h, if_neg h]
theorem learn_1 {S : Nat} {zs rw mk : Int32} {n1 : Nat} {f1 g : Nat → Int32} (hz : Sz S zs rw mk) (hn : n1 = 2 ^ S) (ha : Ag (2 ^ S) f1 g) (pl : Int32) (tk : Bool) : ∃ g', of_Md_learn_1 zs rw g pl tk = some g' ∧ Ag (2 ^ S) (tf_Last_learn zs mk n1 f1 pl tk) g' := by
  obtain ⟨hS, rfl, rfl, rfl⟩ := hz
  have hp := Sz_pow hS
  obtain ⟨j, hj, e⟩ := row_ex hS (pl ^^^ us pl (nI S))
  have e1 : tf_Md_plainRow (nI S) (nI (2 ^ S)) pl = nI j := e
  have e2 : tf_Last_plainRow (nI S) (nI (2 ^ S) - 1) pl = nI j := e
  subst hn
  refine ⟨upd g j (bI tk), ?_, ?_⟩
  · unfold of_Md_learn_1 of_Md_learn_1_b38
    rw [e1, if_neg (nI_in (by omega) (by omega)), if_neg (nI_in (by omega) (by omega)), nI_clamp (by omega)]
    cases tk
    · rw [if_pos (by decide)]
    · rw [if_neg (by decide)]
  · unfold tf_Last_learn
    rw [e2, put_in hj (by omega), put_in hj (by omega)]
    cases tk
    · rw [if_pos (by decide)]; exact ha.upd j _
    · rw [if_neg (by decide)]; exact ha.upd j _
/-- KIND 3 -/
theorem says_3 {S : Nat} {zs rw mk : Int32} {n1 : Nat} {f1 g : Nat → Int32} (hz : Sz S zs rw mk) (hn : n1 = 2 ^ S) (ha : Ag (2 ^ S) f1 g) (pl hs : Int32) : of_Md_says_3 rw g pl hs = some (tf_Counters_says zs mk true n1 f1 pl hs) := by
  obtain ⟨hS, rfl, rfl, rfl⟩ := hz
  have hp := Sz_pow hS
  obtain ⟨j, hj, e⟩ := row_ex hS (pl ^^^ hs)
  have e1 : tf_Md_mixedRow (nI (2 ^ S)) pl hs = nI j := e
  have e2 : tf_Counters_counterRow (nI S) (nI (2 ^ S) - 1) true pl hs = nI j := e
  subst hn
  unfold of_Md_says_3 of_Md_says_3_b114 tf_Counters_says
  rw [e1, e2, if_neg (nI_in (by omega) (by omega)), at_in hj (by omega), nI_clamp (by omega), ha j hj]
  exact cs (g j)
theorem learn_3 {S : Nat} {zs rw mk : Int32} {n1 : Nat} {f1 g : Nat → Int32} (hz : Sz S zs rw mk) (hn : n1 = 2 ^ S) (ha : Ag (2 ^ S) f1 g) (hc : C2 (2 ^ S) f1) (pl hs : Int32) (tk : Bool) : ∃ g', of_Md_learn_3 rw g pl hs tk = some g' ∧ Ag (2 ^ S) (tf_Counters_learn zs mk true n1 f1 pl hs tk) g' ∧ C2 (2 ^ S) (tf_Counters_learn zs mk true n1 f1 pl hs tk) := by
  obtain ⟨hS, rfl, rfl, rfl⟩ := hz
  have hp := Sz_pow hS
  obtain ⟨j, hj, e⟩ := row_ex hS (pl ^^^ hs)
  have e1 : tf_Md_mixedRow (nI (2 ^ S)) pl hs = nI j := e
  have e2 : tf_Counters_counterRow (nI S) (nI (2 ^ S) - 1) true pl hs = nI j := e
  subst hn
  refine ⟨upd g j (tf_Md_step (g j) tk), ?_, ?_, ?_⟩
  · unfold of_Md_learn_3
    rw [e1, if_neg (nI_in (by omega) (by omega)), if_neg (nI_in (by omega) (by omega)), nI_clamp (by omega)]
  · unfold tf_Counters_learn
    rw [e2, step_in hj (by omega) (hc j hj), ha j hj]
    exact ha.upd j _
  · unfold tf_Counters_learn
    rw [e2, step_in hj (by omega) (hc j hj)]
    exact hc.upd j (md_step_in (hc j hj) tk)
/-- KIND 9 -/
theorem says_9 (x : Int32) : of_Md_says_9 x = some (tf_Coin_says x) := by
  unfold of_Md_says_9 tf_Coin_says tf_PK_bitOf
  by_cases h : (us x 16) &&& 1 = 1
  · rw [if_pos h, if_pos h]
  · rw [if_neg h, if_neg h]
theorem learn_9 (x : Int32) : of_Md_learn_9 x = some (tf_Coin_learn x) := rfl
/-- KIND 4: histories below 2 ^ S -/
def Hi (n : Nat) (f : Nat → Int32) : Prop := ∀ j, j < n → ∃ h, h < n ∧ f j = nI h
theorem behind_eq (h : Int32) (tk : Bool) : tf_PK_behind h tk = ((h <<< ((1 : Int32) &&& 31)) ||| bI tk) := by
  unfold tf_PK_behind
  cases tk
  · rw [if_pos (by decide)]; rfl
  · rw [if_neg (by decide)]; rfl
theorem says_4 {S : Nat} {zs rw mk : Int32} {n1 n2 : Nat} {f1 f2 g1 g2 : Nat → Int32} (hz : Sz S zs rw mk) (hn : n1 = 2 ^ S) (hn2 : n2 = 2 ^ S) (ha : Ag (2 ^ S) f1 g1) (hb : Ag (2 ^ S) f2 g2) (hh : Hi (2 ^ S) f1) (pl : Int32) : of_Md_says_4 zs rw g1 g2 pl = some (tf_Own_says zs mk n1 f1 n2 f2 pl) := by
  obtain ⟨hS, rfl, rfl, rfl⟩ := hz
  have hp := Sz_pow hS
  obtain ⟨j, hj, e⟩ := row_ex hS (pl ^^^ us pl (nI S))
  obtain ⟨q, hq, eq⟩ := hh j hj
  have e1 : tf_Md_plainRow (nI S) (nI (2 ^ S)) pl = nI j := e
  have e2 : tf_Own_plainRow (nI S) (nI (2 ^ S) - 1) pl = nI j := e
  have e3 : g1 j = nI q := by rw [← ha j hj]; exact eq
  subst hn; subst hn2
  unfold of_Md_says_4 of_Md_says_4_b135 tf_Own_says tf_Own_number
  rw [e1, e2, if_neg (nI_in (by omega) (by omega)), at_in hj (by omega), nI_clamp (by omega), e3, eq, if_neg (nI_in (by omega) (by omega)), at_in hq (by omega), nI_clamp (by omega), hb q hq]
  exact cs (g2 q)
theorem learn_4 {S : Nat} {zs rw mk : Int32} {n1 n2 : Nat} {f1 f2 g1 g2 : Nat → Int32} (hz : Sz S zs rw mk) (hn : n1 = 2 ^ S) (hn2 : n2 = 2 ^ S) (ha : Ag (2 ^ S) f1 g1) (hb : Ag (2 ^ S) f2 g2) (hh : Hi (2 ^ S) f1) (hc : C2 (2 ^ S) f2) (pl : Int32) (tk : Bool) : ∃ g1' g2', of_Md_learn_4 zs rw g1 g2 pl tk = some (g1', g2') ∧ Ag (2 ^ S) (tf_Own_learn zs mk n1 f1 n2 f2 pl tk).1 g1' ∧ Ag (2 ^ S) (tf_Own_learn zs mk n1 f1 n2 f2 pl tk).2 g2' ∧ Hi (2 ^ S) (tf_Own_learn zs mk n1 f1 n2 f2 pl tk).1 ∧ C2 (2 ^ S) (tf_Own_learn zs mk n1 f1 n2 f2 pl tk).2 := by
  obtain ⟨hS, rfl, rfl, rfl⟩ := hz
  have hp := Sz_pow hS
  obtain ⟨j, hj, e⟩ := row_ex hS (pl ^^^ us pl (nI S))
  obtain ⟨q, hq, eq⟩ := hh j hj
  have e1 : tf_Md_plainRow (nI S) (nI (2 ^ S)) pl = nI j := e
  have e2 : tf_Own_plainRow (nI S) (nI (2 ^ S) - 1) pl = nI j := e
  have e3 : g1 j = nI q := by rw [← ha j hj]; exact eq
  subst hn; subst hn2
  have hl : tf_Own_learn (nI S) (nI (2 ^ S) - 1) (2 ^ S) f1 (2 ^ S) f2 pl tk = (upd f1 j (((nI q <<< ((1 : Int32) &&& 31)) ||| bI tk) &&& (nI (2 ^ S) - 1)), upd f2 q (tf_Md_step (f2 q) tk)) := by
    unfold tf_Own_learn
    rw [e2, at_in hj (by omega), eq, put_in hj (by omega), step_in hq (by omega) (hc q hq), behind_eq]
  obtain ⟨w, hw, ew⟩ := row_ex hS ((nI q <<< ((1 : Int32) &&& 31)) ||| bI tk)
  rw [hl, ew]
  refine ⟨upd g1 j (nI w), upd g2 q (tf_Md_step (g2 q) tk), ?_, ha.upd j _, ?_, ?_, hc.upd q (md_step_in (hc q hq) tk)⟩
  · unfold of_Md_learn_4 of_Md_learn_4_b161 tf_Md_low
    rw [e1, if_neg (nI_in (by omega) (by omega)), if_neg (nI_in (by omega) (by omega)), if_neg (nI_in (by omega) (by omega)), nI_clamp (by omega), e3, if_neg (nI_in (by omega) (by omega)), if_neg (nI_in (by omega) (by omega)), nI_clamp (by omega)]
    cases tk
    · rw [if_pos (by decide), if_neg (nbad (by omega) (by omega)), ← ew]
    · rw [if_neg (by decide), if_neg (nbad (by omega) (by omega)), ← ew]
  · rw [hb q hq]; exact hb.upd q _
  · intro i hi
    by_cases h : i = j
    · subst h; exact ⟨w, hw, pk_us⟩
    · obtain ⟨z, hz1, hz2⟩ := hh i hi
      exact ⟨z, hz1, by show upd f1 j (nI w) i = nI z; rw [pk_un h]; exact hz2⟩
/-- KIND 5 -/
theorem says_5 {S : Nat} {zs rw mk : Int32} {n1 n2 n3 : Nat} {f1 f2 f3 g1 g2 g3 : Nat → Int32} (hz : Sz S zs rw mk) (hn1 : n1 = 2 ^ S) (hn2 : n2 = 2 ^ S) (hn3 : n3 = 2 ^ S) (a1 : Ag (2 ^ S) f1 g1) (a2 : Ag (2 ^ S) f2 g2) (a3 : Ag (2 ^ S) f3 g3) (pl hs : Int32) : of_Md_says_5 zs rw g1 g2 g3 pl hs = some (tf_Chooser_says zs mk n1 f1 n2 f2 n3 f3 pl hs) := by
  have e5 : of_Md_says_5 zs rw g1 g2 g3 pl hs = (if tf_Md_plainRow zs rw pl < 0 ∨ 1024 ≤ (tf_Md_plainRow zs rw pl).toNatClampNeg then none else (if g3 (tf_Md_plainRow zs rw pl).toNatClampNeg ≤ 1 then of_Md_says_2 zs rw g1 pl else of_Md_says_3 rw g2 pl hs)) := rfl
  rw [e5, says_2 hz hn1 a1 pl hs, says_3 hz hn2 a2 pl hs]
  obtain ⟨hS, rfl, rfl, rfl⟩ := hz
  have hp := Sz_pow hS
  obtain ⟨j, hj, e⟩ := row_ex hS (pl ^^^ us pl (nI S))
  have e1 : tf_Md_plainRow (nI S) (nI (2 ^ S)) pl = nI j := e
  have e2 : tf_Chooser_plainRow (nI S) (nI (2 ^ S) - 1) pl = nI j := e
  unfold tf_Chooser_says tf_Chooser_takesMixed
  subst hn3
  rw [e1, e2, if_neg (nI_in (by omega) (by omega)), at_in hj (by omega), nI_clamp (by omega), a3 j hj]
  by_cases h : g3 j ≤ 1
  · rw [if_pos h, if_pos ((lt2_le1 _).mpr h), if_pos (show bI false = 0 by decide)]
  · rw [if_neg h, if_neg (fun q => h ((lt2_le1 _).mp q)), if_neg (show ¬ bI true = 0 by decide)]
theorem learn_5 {S : Nat} {zs rw mk : Int32} {n1 n2 n3 : Nat} {f1 f2 f3 g1 g2 g3 : Nat → Int32} (hz : Sz S zs rw mk) (hn1 : n1 = 2 ^ S) (hn2 : n2 = 2 ^ S) (hn3 : n3 = 2 ^ S) (a1 : Ag (2 ^ S) f1 g1) (a2 : Ag (2 ^ S) f2 g2) (a3 : Ag (2 ^ S) f3 g3) (c1 : C2 (2 ^ S) f1) (c2 : C2 (2 ^ S) f2) (c3 : C2 (2 ^ S) f3) (pl hs : Int32) (tk : Bool) : ∃ g1' g2' g3', of_Md_learn_5 zs rw g1 g2 g3 pl hs tk = some (g1', g2', g3') ∧ Ag (2 ^ S) (tf_Chooser_learn zs mk n1 f1 n2 f2 n3 f3 pl hs tk).1 g1' ∧ Ag (2 ^ S) (tf_Chooser_learn zs mk n1 f1 n2 f2 n3 f3 pl hs tk).2.1 g2' ∧ Ag (2 ^ S) (tf_Chooser_learn zs mk n1 f1 n2 f2 n3 f3 pl hs tk).2.2 g3' ∧ C2 (2 ^ S) (tf_Chooser_learn zs mk n1 f1 n2 f2 n3 f3 pl hs tk).1 ∧ C2 (2 ^ S) (tf_Chooser_learn zs mk n1 f1 n2 f2 n3 f3 pl hs tk).2.1 ∧ C2 (2 ^ S) (tf_Chooser_learn zs mk n1 f1 n2 f2 n3 f3 pl hs tk).2.2 := by
  obtain ⟨x1, m1, b1, d1⟩ := learn_2 hz hn1 a1 c1 pl hs tk
  obtain ⟨x2, m2, b2, d2⟩ := learn_3 hz hn2 a2 c2 pl hs tk
  have s2 := says_2 hz hn1 a1 pl hs
  have s3 := says_3 hz hn2 a2 pl hs
  obtain ⟨hS, rfl, rfl, rfl⟩ := hz
  have hp := Sz_pow hS
  obtain ⟨j, hj, e⟩ := row_ex hS (pl ^^^ us pl (nI S))
  have e1 : tf_Md_plainRow (nI S) (nI (2 ^ S)) pl = nI j := e
  have e2 : tf_Chooser_plainRow (nI S) (nI (2 ^ S) - 1) pl = nI j := e
  obtain ⟨q, hq, eq⟩ := row_ex hS (pl ^^^ hs)
  have e3 : tf_Md_mixedRow (nI (2 ^ S)) pl hs = nI q := eq
  have nj : ¬ (nI j < 0 ∨ 1024 ≤ j) := nbad (by omega) (by omega)
  have nq : ¬ (nI q < 0 ∨ 1024 ≤ q) := nbad (by omega) (by omega)
  have kj : (nI j).toNatClampNeg = j := nI_clamp (by omega)
  have kq : (nI q).toNatClampNeg = q := nI_clamp (by omega)
  unfold of_Md_says_2 of_Md_says_2_b93 at s2
  unfold of_Md_says_3 of_Md_says_3_b114 at s3
  unfold of_Md_learn_2 at m1
  unfold of_Md_learn_3 at m2
  rw [e1, kj, if_neg nj] at s2
  rw [e3, kq, if_neg nq] at s3
  rw [e1, kj, if_neg nj, if_neg nj] at m1
  rw [e3, kq, if_neg nq, if_neg nq] at m2
  generalize hA : tf_Counters_says (nI S) (nI (2 ^ S) - 1) false n1 f1 pl hs = A at s2
  generalize hB : tf_Counters_says (nI S) (nI (2 ^ S) - 1) true n2 f2 pl hs = B at s3
  have st : ∀ u : Bool, tf_PK_stepCounter n3 f3 (nI j) u = upd f3 j (tf_Md_step (f3 j) u) := fun u => by subst hn3; exact step_in hj (by omega) (c3 j hj)
  have hcl : tf_Chooser_learn (nI S) (nI (2 ^ S) - 1) n1 f1 n2 f2 n3 f3 pl hs tk = (tf_Counters_learn (nI S) (nI (2 ^ S) - 1) false n1 f1 pl hs tk, tf_Counters_learn (nI S) (nI (2 ^ S) - 1) true n2 f2 pl hs tk, if decide (A = tk) = decide (B = tk) then f3 else upd f3 j (tf_Md_step (f3 j) (decide (B = tk)))) := by
    unfold tf_Chooser_learn tf_Chooser_learn_b18 tf_Chooser_learn_b38 tf_Chooser_learn_b61
    rw [hA, hB, e2, st, st]
    cases A <;> cases B <;> cases tk <;> rfl
  have hmd : of_Md_learn_5 (nI S) (nI (2 ^ S)) g1 g2 g3 pl hs tk = some (x1, x2, if decide (A = tk) = decide (B = tk) then g3 else upd g3 j (tf_Md_step (g3 j) (decide (B = tk)))) := by
    unfold of_Md_learn_5 of_Md_learn_5_b193 of_Md_learn_5_b202 of_Md_learn_5_b220 of_Md_learn_5_b229 of_Md_learn_5_b257
    rw [e1, e3, kj, kq]
    simp only [if_neg nj, if_neg nq]
    rw [Option.some.inj m1, Option.some.inj m2]
    by_cases h1 : g1 j ≤ 1 <;> by_cases h2 : g2 q ≤ 1
    · rw [if_pos h1] at s2
      rw [if_pos h2] at s3
      cases Option.some.inj s2
      cases Option.some.inj s3
      simp only [if_pos h1, if_pos h2]
      cases tk <;> rfl
    · rw [if_pos h1] at s2
      rw [if_neg h2] at s3
      cases Option.some.inj s2
      cases Option.some.inj s3
      simp only [if_pos h1, if_neg h2]
      cases tk <;> rfl
    · rw [if_neg h1] at s2
      rw [if_pos h2] at s3
      cases Option.some.inj s2
      cases Option.some.inj s3
      simp only [if_neg h1, if_pos h2]
      cases tk <;> rfl
    · rw [if_neg h1] at s2
      rw [if_neg h2] at s3
      cases Option.some.inj s2
      cases Option.some.inj s3
      simp only [if_neg h1, if_neg h2]
      cases tk <;> rfl
  rw [hcl]
  refine ⟨_, _, _, hmd, b1, b2, ?_, d1, d2, ?_⟩
  · show Ag (2 ^ S) (if decide (A = tk) = decide (B = tk) then f3 else upd f3 j (tf_Md_step (f3 j) (decide (B = tk)))) _
    by_cases h : decide (A = tk) = decide (B = tk)
    · rw [if_pos h, if_pos h]; exact a3
    · rw [if_neg h, if_neg h, a3 j hj]; exact a3.upd j _
  · show C2 (2 ^ S) (if decide (A = tk) = decide (B = tk) then f3 else upd f3 j (tf_Md_step (f3 j) (decide (B = tk))))
    by_cases h : decide (A = tk) = decide (B = tk)
    · rw [if_pos h]; exact c3
    · rw [if_neg h]; exact c3.upd j (md_step_in (c3 j hj) _)
