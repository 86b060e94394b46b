/-! ROW, PART, STORAGE and the last says and learn: class and reference agree -/
theorem says_7 {S : Nat} {zs rw mk : Int32} {n1 : Nat} {f g : Nat → Int32} (hz : Sz S zs rw mk) (hn : n1 = 9 * 2 ^ S) (a : Ag (9 * 2 ^ S) f g) (pl hs : Int32) : ∃ c : Bool, of_Sums_says zs mk n1 f pl hs = some c ∧ of_Md_says_7 zs rw g pl hs = some c := by
  obtain ⟨hS, rfl, rfl, rfl⟩ := hz
  have hp := Sz_pow hS
  obtain ⟨j, hj, e⟩ := row_ex hS (pl ^^^ us pl (nI S))
  have e1 : tf_Md_plainRow (nI S) (nI (2 ^ S)) pl = nI j := e
  have e2 : tf_Sums_plainRow (nI S) (nI (2 ^ S) - 1) pl = nI j := e
  have m1 := number_7 (f := f) (hs := hs) hS hn hj e2
  have m2 := total_7 (g := g) (hs := hs) hS hj e1
  rw [← tw_ag (hs := hs) a 8 (by omega)] at m2
  generalize tw f (9 * j) hs 8 = z at m1 m2
  unfold of_Sums_says of_Md_says_7 of_Md_says_7_b213
  rw [m1, m2, Option.bind_some]
  by_cases h : z < 0
  · exact ⟨false, if_pos h, if_pos h⟩
  · exact ⟨true, if_neg h, if_neg h⟩
theorem row_7 {S : Nat} {zs rw mk : Int32} {n1 : Nat} {f g : Nat → Int32} (hz : Sz S zs rw mk) (hn : n1 = 9 * 2 ^ S) (a : Ag (9 * 2 ^ S) f g) (pl hs : Int32) : ∃ r, of_PK_row_Sums hs zs mk n1 f pl = some r ∧ of_Md_row_7 zs rw hs g pl = some (r, 0) := by
  obtain ⟨hS, rfl, rfl, rfl⟩ := hz
  have hp := Sz_pow hS
  obtain ⟨j, hj, e⟩ := row_ex hS (pl ^^^ us pl (nI S))
  have e1 : tf_Md_plainRow (nI S) (nI (2 ^ S)) pl = nI j := e
  have e2 : tf_Sums_plainRow (nI S) (nI (2 ^ S) - 1) pl = nI j := e
  have m1 := number_7 (f := f) (hs := hs) hS hn hj e2
  have m2 := total_7 (g := g) (hs := hs) hS hj e1
  rw [← tw_ag (hs := hs) a 8 (by omega)] at m2
  generalize tw f (9 * j) hs 8 = z at m1 m2
  refine ⟨z, ?_, ?_⟩
  · unfold of_PK_row_Sums
    rw [m1, Option.bind_some]
  · unfold of_Md_row_7 of_Md_row_7_b34
    rw [m2, Option.bind_some]
theorem learn_8 {S : Nat} {zs rw mk : Int32} {n0 n1 n2 n3 n4 : Nat} {f0 f1 f2 f3 f4 g0 g1 g2 g3 g4 : Nat → Int32} (hz : Sz S zs rw mk) (hn0 : n0 = 2 ^ S) (hn1 : n1 = 2 ^ S) (hn2 : n2 = 2 ^ S) (hn3 : n3 = 2 ^ S) (hn4 : n4 = 2 ^ S) (a0 : Ag (2 ^ S) f0 g0) (a1 : Ag (2 ^ S) f1 g1) (a2 : Ag (2 ^ S) f2 g2) (a3 : Ag (2 ^ S) f3 g3) (a4 : Ag (2 ^ S) f4 g4) (c0 : C2 (2 ^ S) f0) (c4 : C2 (2 ^ S) f4) (pl hs : Int32) (tk : Bool) : ∃ f0' f1' f2' f3' f4' g0' g1' g2' g3' g4', tf_Loops_learn zs mk n0 f0 n1 f1 n2 f2 n3 f3 n4 f4 pl hs tk = (f0', f1', f2', f3', f4') ∧ of_Md_learn_8 zs rw g0 g1 g2 g3 g4 pl tk = some (g0', g1', g2', g3', g4') ∧ Ag (2 ^ S) f0' g0' ∧ Ag (2 ^ S) f1' g1' ∧ Ag (2 ^ S) f2' g2' ∧ Ag (2 ^ S) f3' g3' ∧ Ag (2 ^ S) f4' g4' ∧ C2 (2 ^ S) f0' ∧ C2 (2 ^ S) f4' := by
  obtain ⟨hS, rfl, rfl, rfl⟩ := hz
  have hp := Sz_pow hS
  obtain ⟨j, hj, e⟩ := row_ex hS (pl ^^^ us pl (nI S))
  have e1 : tf_Md_plainRow (nI S) (nI (2 ^ S)) pl = nI j := e
  have e2 : tf_Loops_plainRow (nI S) (nI (2 ^ S) - 1) pl = nI j := e
  have e3 : tf_Counters_counterRow (nI S) (nI (2 ^ S) - 1) false pl hs = nI j := e
  have k1 := lpL_class (tk := tk) (f1 := f1) (f2 := f2) (f3 := f3) hS hn0 hn1 hn2 hn3 hn4 hj e2 e3 c0 c4
  have k2 := lpL_model (tk := tk) (g0 := g0) (g1 := g1) (g2 := g2) (g3 := g3) (g4 := g4) hS hj e1
  have k3 := lpL_ag (tg := us pl (nI S) &&& 255) (tk := tk) hj a0 a1 a2 a3 a4 c0 c4
  exact ⟨_, _, _, _, _, _, _, _, _, _, k1, k2, k3⟩
/-- rows -/
theorem row_0 : of_Md_row_0 = some (tf_PK_row_Always, 0) := rfl
theorem row_1 {S : Nat} {zs rw mk : Int32} {n1 : Nat} {f1 g : Nat → Int32} (hz : Sz S zs rw mk) (hn : n1 = 2 ^ S) (ha : Ag (2 ^ S) f1 g) (pl : Int32) : of_Md_row_1 zs rw g pl = some (tf_PK_row_Last zs mk n1 f1 pl, 0) := by
  obtain ⟨hS, rfl, rfl, rfl⟩ := hz
  have hp := Sz_pow hS
  obtain ⟨j, hj, e⟩ := row_ex hS (pl ^^^ us pl (nI S))
  have e1 : tf_Md_plainRow (nI S) (nI (2 ^ S)) pl = nI j := e
  have e2 : tf_Last_plainRow (nI S) (nI (2 ^ S) - 1) pl = nI j := e
  subst hn
  unfold of_Md_row_1 of_Md_row_1_b34 tf_PK_row_Last tf_Last_number
  rw [e1, e2, if_neg (nI_in (by omega) (by omega)), at_in hj (by omega), nI_clamp (by omega), ha j hj]
theorem row_2 {S : Nat} {zs rw mk : Int32} {n1 : Nat} {f1 g : Nat → Int32} (hz : Sz S zs rw mk) (hn : n1 = 2 ^ S) (ha : Ag (2 ^ S) f1 g) (pl hs : Int32) : of_Md_row_2 zs rw g pl = some (tf_PK_row_Counters hs zs mk false n1 f1 pl, 0) := by
  obtain ⟨hS, rfl, rfl, rfl⟩ := hz
  have hp := Sz_pow hS
  obtain ⟨j, hj, e⟩ := row_ex hS (pl ^^^ us pl (nI S))
  have e1 : tf_Md_plainRow (nI S) (nI (2 ^ S)) pl = nI j := e
  have e2 : tf_Counters_counterRow (nI S) (nI (2 ^ S) - 1) false pl hs = nI j := e
  subst hn
  unfold of_Md_row_2 of_Md_row_2_b34 tf_PK_row_Counters tf_Counters_number
  rw [e1, e2, if_neg (nI_in (by omega) (by omega)), at_in hj (by omega), nI_clamp (by omega), ha j hj]
theorem row_3 {S : Nat} {zs rw mk : Int32} {n1 : Nat} {f1 g : Nat → Int32} (hz : Sz S zs rw mk) (hn : n1 = 2 ^ S) (ha : Ag (2 ^ S) f1 g) (pl hs : Int32) : of_Md_row_3 rw hs g pl = some (tf_PK_row_Counters hs zs mk true n1 f1 pl, 0) := by
  obtain ⟨hS, rfl, rfl, rfl⟩ := hz
  have hp := Sz_pow hS
  obtain ⟨j, hj, e⟩ := row_ex hS (pl ^^^ hs)
  have e1 : tf_Md_mixedRow (nI (2 ^ S)) pl hs = nI j := e
  have e2 : tf_Counters_counterRow (nI S) (nI (2 ^ S) - 1) true pl hs = nI j := e
  subst hn
  unfold of_Md_row_3 of_Md_row_3_b34 tf_PK_row_Counters tf_Counters_number
  rw [e1, e2, if_neg (nI_in (by omega) (by omega)), at_in hj (by omega), nI_clamp (by omega), ha j hj]
theorem row_4 {S : Nat} {zs rw mk : Int32} {n1 n2 : Nat} {f1 f2 g1 g2 : Nat → Int32} (hz : Sz S zs rw mk) (hn : n1 = 2 ^ S) (hn2 : n2 = 2 ^ S) (ha : Ag (2 ^ S) f1 g1) (hb : Ag (2 ^ S) f2 g2) (hh : Hi (2 ^ S) f1) (pl : Int32) : of_Md_row_4 zs rw g1 g2 pl = some (tf_PK_row_Own zs mk n1 f1 n2 f2 pl, 0) := by
  obtain ⟨hS, rfl, rfl, rfl⟩ := hz
  have hp := Sz_pow hS
  obtain ⟨j, hj, e⟩ := row_ex hS (pl ^^^ us pl (nI S))
  obtain ⟨q, hq, eq⟩ := hh j hj
  have e1 : tf_Md_plainRow (nI S) (nI (2 ^ S)) pl = nI j := e
  have e2 : tf_Own_plainRow (nI S) (nI (2 ^ S) - 1) pl = nI j := e
  have e3 : g1 j = nI q := by rw [← ha j hj]; exact eq
  subst hn; subst hn2
  unfold of_Md_row_4 of_Md_row_4_b34 tf_PK_row_Own tf_Own_number
  rw [e1, e2, if_neg (nI_in (by omega) (by omega)), at_in hj (by omega), nI_clamp (by omega), e3, eq, if_neg (nI_in (by omega) (by omega)), at_in hq (by omega), nI_clamp (by omega), hb q hq]
theorem row_5 {S : Nat} {zs rw mk : Int32} {n1 : Nat} {f1 g : Nat → Int32} (hz : Sz S zs rw mk) (hn : n1 = 2 ^ S) (ha : Ag (2 ^ S) f1 g) (pl : Int32) : of_Md_row_5 zs rw g pl = some (tf_PK_row_Chooser zs mk n1 f1 pl, 0) := by
  obtain ⟨hS, rfl, rfl, rfl⟩ := hz
  have hp := Sz_pow hS
  obtain ⟨j, hj, e⟩ := row_ex hS (pl ^^^ us pl (nI S))
  have e1 : tf_Md_plainRow (nI S) (nI (2 ^ S)) pl = nI j := e
  have e2 : tf_Chooser_plainRow (nI S) (nI (2 ^ S) - 1) pl = nI j := e
  subst hn
  unfold of_Md_row_5 of_Md_row_5_b34 tf_PK_row_Chooser tf_Chooser_number
  rw [e1, e2, if_neg (nI_in (by omega) (by omega)), at_in hj (by omega), nI_clamp (by omega), ha j hj]
theorem row_6 {S : Nat} {zs rw mk : Int32} {n0 n1 n2 : Nat} {f0 g0 f1 g1 f2 g2 : Nat → Int32} (hz : Sz S zs rw mk) (hn0 : n0 = 2 ^ S) (hn1 : n1 = 3 * 2 ^ S) (hn2 : n2 = 3 * 2 ^ S) (a0 : Ag (2 ^ S) f0 g0) (a1 : A3 S f1 g1) (a2 : A3 S f2 g2) (pl hs : Int32) : ∃ r, of_PK_row_Tagged hs zs rw mk n0 f0 n1 f1 n2 f2 pl = some r ∧ of_Md_row_6 zs rw hs g0 g1 g2 pl = some (r, 0) := by
  obtain ⟨q, T, hc⟩ := Cel_ex hz pl hs
  have hS := hz.1
  have hp := Sz_pow hS
  obtain ⟨h1, h2⟩ := hit_both hz.1 hn1 hc a1 (b := 3) (by decide)
  have hv : lh (hitC S f1 q T) 3 = -1 ∨ ∃ t, t < 3 ∧ lh (hitC S f1 q T) 3 = nI t := lh_val 3
  generalize lh (hitC S f1 q T) 3 = v at h1 h2 hv
  have r2 := row_2 hz hn0 a0 pl hs
  unfold of_Md_row_2 of_Md_row_2_b34 tf_PK_row_Counters at r2
  unfold of_PK_row_Tagged of_Tagged_number of_Md_row_6 of_Md_row_6_b34
  rw [show (3 : Int32) = nI 3 from rfl, h1, h2, Option.bind_some, Option.bind_some]
  rcases hv with rfl | ⟨t, ht, rfl⟩
  · refine ⟨tf_Counters_number zs mk false n0 f0 pl hs, ?_, ?_⟩
    · rw [if_neg m1_neg, Option.bind_some]
    · rw [if_neg m1_neg]
      exact r2
  · obtain ⟨c1, c2, c3, -, -⟩ := hc t ht
    have h0 : (0 : Int32) ≤ nI t := nI_pos' (by omega)
    refine ⟨g2 (1024 * t + q t), ?_, ?_⟩
    · subst hn2
      rw [if_pos h0, c2, Option.bind_some, Option.bind_some, at_in (ix_in ht c1) (by omega), a2 t ht (q t) c1]
    · rw [if_pos h0, c3, Option.bind_some, if_neg (nI_in (by omega) (by omega)), nI_clamp (by omega)]
theorem row_8 {S : Nat} {zs rw mk : Int32} {n1 n4 : Nat} {f1 g1 f4 g4 : Nat → Int32} (hz : Sz S zs rw mk) (hn1 : n1 = 2 ^ S) (hn4 : n4 = 2 ^ S) (a1 : Ag (2 ^ S) f1 g1) (a4 : Ag (2 ^ S) f4 g4) (pl : Int32) : of_Md_row_8 zs rw g1 g4 pl = some (tf_PK_row_Loops zs mk n1 f1 n4 f4 pl, 0) := by
  unfold of_Md_row_8 of_Md_row_8_b34 of_Md_row_8_b161 tf_PK_row_Loops tf_Loops_number
  rw [hasTag_8 hz hn1 a1 pl, Option.bind_some]
  generalize tf_Loops_hasTag zs mk n1 f1 pl = t
  obtain ⟨hS, rfl, rfl, rfl⟩ := hz
  have hp := Sz_pow hS
  obtain ⟨j, hj, e⟩ := row_ex hS (pl ^^^ us pl (nI S))
  have e1 : tf_Md_plainRow (nI S) (nI (2 ^ S)) pl = nI j := e
  have e2 : tf_Loops_plainRow (nI S) (nI (2 ^ S) - 1) pl = nI j := e
  subst hn4
  by_cases ht : bI t = 0
  · rw [if_pos ht, if_pos ht]
  · rw [if_neg ht, if_neg ht, e1, e2, if_neg (nI_in (by omega) (by omega)), at_in hj (by omega), nI_clamp (by omega), a4 j hj]
theorem and1 (x : Int32) : x &&& 1 = 0 ∨ x &&& 1 = 1 := by
  have e : x &&& 1 = nI (x.toBitVec.toNat % 2 ^ 1) := pk_and x 1 (by decide)
  have h : x.toBitVec.toNat % 2 ^ 1 = 0 ∨ x.toBitVec.toNat % 2 ^ 1 = 1 := by omega
  rcases h with h | h
  · rw [h] at e; exact Or.inl e
  · rw [h] at e; exact Or.inr e
theorem row_9 (x : Int32) : of_Md_row_9 x = some (tf_PK_row_Coin x, 0) := by
  unfold of_Md_row_9 of_Md_row_9_b34 tf_PK_row_Coin tf_Coin_number tf_PK_bitOf
  rcases and1 (us x 16) with h | h
  · rw [h]; rfl
  · rw [h]; rfl
/-- parts -/
theorem part_c : of_Md_part_0 = some (tf_PK_part_Always, 0) ∧ of_Md_part_1 = some (tf_PK_part_Last, 0) ∧ of_Md_part_2 = some (tf_PK_part_Counters, 0) ∧ of_Md_part_3 = some (tf_PK_part_Counters, 0) ∧ of_Md_part_4 = some (tf_PK_part_Own, 0) ∧ of_Md_part_7 = some (tf_PK_part_Sums, 0) ∧ of_Md_part_9 = some (tf_PK_part_Coin, 0) := ⟨rfl, rfl, rfl, rfl, rfl, rfl, rfl⟩
theorem part_5 {S : Nat} {zs rw mk : Int32} {n1 : Nat} {f1 g : Nat → Int32} (hz : Sz S zs rw mk) (hn : n1 = 2 ^ S) (ha : Ag (2 ^ S) f1 g) (pl : Int32) : of_Md_part_5 zs rw g pl = some (tf_PK_part_Chooser zs mk n1 f1 pl, 0) := by
  obtain ⟨hS, rfl, rfl, rfl⟩ := hz
  have hp := Sz_pow hS
  obtain ⟨j, hj, e⟩ := row_ex hS (pl ^^^ us pl (nI S))
  have e1 : tf_Md_plainRow (nI S) (nI (2 ^ S)) pl = nI j := e
  have e2 : tf_Chooser_plainRow (nI S) (nI (2 ^ S) - 1) pl = nI j := e
  subst hn
  unfold of_Md_part_5 of_Md_part_5_b32 tf_PK_part_Chooser tf_Chooser_answering tf_Chooser_takesMixed
  rw [e1, e2, if_neg (nI_in (by omega) (by omega)), at_in hj (by omega), nI_clamp (by omega), ha j hj]
  by_cases h : g j ≤ 1
  · rw [if_pos h, if_pos ((lt2_le1 _).mpr h), if_pos (show bI false = 0 by decide)]
  · rw [if_neg h, if_neg (fun q => h ((lt2_le1 _).mp q)), if_neg (show ¬ bI true = 0 by decide)]
theorem part_6 {S : Nat} {zs rw mk : Int32} {n1 : Nat} {f1 g1 : Nat → Int32} (hz : Sz S zs rw mk) (hn1 : n1 = 3 * 2 ^ S) (a1 : A3 S f1 g1) (pl hs : Int32) : ∃ r, of_PK_part_Tagged hs zs rw mk n1 f1 pl = some r ∧ of_Md_part_6 zs rw hs g1 pl = some (r, 0) := by
  obtain ⟨q, T, hc⟩ := Cel_ex hz pl hs
  obtain ⟨h1, h2⟩ := hit_both hz.1 hn1 hc a1 (b := 3) (by decide)
  refine ⟨lh (hitC S f1 q T) 3, ?_, ?_⟩
  · unfold of_PK_part_Tagged of_Tagged_answering
    rw [show (3 : Int32) = nI 3 from rfl, h1, Option.bind_some, Option.bind_some]
  · unfold of_Md_part_6
    rw [show (3 : Int32) = nI 3 from rfl, h2, Option.bind_some]
theorem part_8 {S : Nat} {zs rw mk : Int32} {n1 n4 : Nat} {f1 g1 f4 g4 : Nat → Int32} (hz : Sz S zs rw mk) (hn1 : n1 = 2 ^ S) (hn4 : n4 = 2 ^ S) (a1 : Ag (2 ^ S) f1 g1) (a4 : Ag (2 ^ S) f4 g4) (pl : Int32) : of_Md_part_8 zs rw g1 g4 pl = some (tf_PK_part_Loops zs mk n1 f1 n4 f4 pl, 0) := by
  unfold of_Md_part_8 tf_PK_part_Loops tf_Loops_answering
  rw [isTr_8 hz hn1 hn4 a1 a4 pl, Option.bind_some]
  generalize tf_Loops_isTrusted zs mk n1 f1 n4 f4 pl = t
  by_cases ht : bI t = 0
  · rw [if_pos ht, if_pos ht]
  · rw [if_neg ht, if_neg ht]
/-- storage -/
theorem bits_f (x : Int32) : tf_Counters_bits x false = 2 * x := by
  unfold tf_Counters_bits
  rw [if_pos (show bI false = 0 by decide), Int32.add_zero]
theorem bits_t (x : Int32) : tf_Counters_bits x true = 2 * x + 32 := by
  unfold tf_Counters_bits
  rw [if_neg (show ¬ bI true = 0 by decide)]
theorem sto_0 : tf_Md_storage_0 = (tf_PK_storage_Always, 0) := rfl
theorem sto_1 (x : Int32) : tf_Md_storage_1 x = (tf_PK_storage_Last x, 0) := rfl
theorem sto_2 (x : Int32) : tf_Md_storage_2 x = (tf_PK_storage_Counters x false, 0) := by
  unfold tf_Md_storage_2 tf_PK_storage_Counters
  rw [bits_f]
theorem sto_3 (x : Int32) : tf_Md_storage_3 x = (tf_PK_storage_Counters x true, 0) := by
  unfold tf_Md_storage_3 tf_PK_storage_Counters
  rw [bits_t]
theorem sto_4 (z x : Int32) : tf_Md_storage_4 z x = (tf_PK_storage_Own z x, 0) := by
  unfold tf_Md_storage_4 tf_PK_storage_Own tf_Own_bits
  rw [Int32.add_mul]
theorem sto_5 (x : Int32) : tf_Md_storage_5 x = (tf_PK_storage_Chooser x, 0) := by
  unfold tf_Md_storage_5 tf_PK_storage_Chooser tf_Chooser_bits
  rw [bits_f, bits_t]
  have e : (6 : Int32) = 2 + 2 + 2 := by decide
  rw [e, Int32.add_mul, Int32.add_mul, ← Int32.add_assoc (2 * x) (2 * x) 32, Int32.add_assoc (2 * x + 2 * x) 32 (2 * x), Int32.add_comm 32 (2 * x), ← Int32.add_assoc]
theorem sto_6 (x : Int32) : tf_Md_storage_6 x = (tf_PK_storage_Tagged x, 0) := by
  unfold tf_Md_storage_6 tf_PK_storage_Tagged tf_Tagged_bits
  rw [bits_f, ← Int32.add_mul]
  rfl
theorem sto_7 (x : Int32) : tf_Md_storage_7 x = (tf_PK_storage_Sums x, 0) := rfl
theorem sto_8 (x : Int32) : tf_Md_storage_8 x = (tf_PK_storage_Loops x, 0) := by
  unfold tf_Md_storage_8 tf_PK_storage_Loops tf_Loops_bits
  rw [bits_f, ← Int32.add_mul]
  rfl
theorem sto_9 : tf_Md_storage_9 = (tf_PK_storage_Coin, 0) := rfl
