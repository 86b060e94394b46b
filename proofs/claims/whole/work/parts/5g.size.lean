/-! THE START: the size, class and reference -/
theorem l_bm {a : Int} (h1 : -9223372036854775808 ≤ a) (h2 : a < 9223372036854775808) : a.bmod (2 ^ 64) = a := by
  rw [Int.bmod_eq_of_le] <;> omega
theorem l_div10 (x : Int64) : (x / 10).toInt = x.toInt.tdiv 10 := by
  have h := Int64.toInt_div_of_ne_right x 10 (by decide)
  have e : (10 : Int64).toInt = 10 := by decide
  rw [e] at h
  exact h
theorem l_remp {x : Int64} (h : 0 ≤ x.toInt) (h2 : x.toInt < 4294967296) : (x - x / 10 * 10).toInt = x.toInt % 10 := by
  have e : (10 : Int64).toInt = 10 := by decide
  have d := l_div10 x
  rw [Int.tdiv_eq_ediv_of_nonneg h] at d
  rw [Int64.toInt_sub, Int64.toInt_mul, d, e, l_bm (a := x.toInt / 10 * 10) (by omega) (by omega), l_bm (by omega) (by omega)]
  omega
theorem l_remn {x : Int64} (h : x.toInt < 0) (h2 : -4294967296 < x.toInt) : (x - x / 10 * 10).toInt = -((-x.toInt) % 10) := by
  have e : (10 : Int64).toInt = 10 := by decide
  have d := l_div10 x
  have d2 : x.toInt.tdiv 10 = -((-x.toInt) / 10) := by
    rw [← Int.tdiv_eq_ediv_of_nonneg (show 0 ≤ -x.toInt by omega), Int.neg_tdiv, Int.neg_neg]
  rw [d2] at d
  rw [Int64.toInt_sub, Int64.toInt_mul, d, e, l_bm (a := -((-x.toInt) / 10) * 10) (by omega) (by omega), l_bm (by omega) (by omega)]
  omega
theorem lc_ge (y : Int64) : 0 ≤ lg_cmp y 0 ↔ 0 ≤ y.toInt := by
  have z : (0 : Int64).toInt = 0 := by decide
  unfold lg_cmp
  by_cases h : y > 0
  · rw [if_pos h]
    have h2 : (0 : Int64) < y := h
    rw [Int64.lt_iff_toInt_lt, z] at h2
    exact ⟨fun _ => by omega, fun _ => by decide⟩
  · rw [if_neg h]
    by_cases q : y = 0
    · rw [if_pos q, q, z]
      exact ⟨fun _ => by omega, fun _ => by decide⟩
    · rw [if_neg q]
      have h2 : ¬ (0 : Int64) < y := h
      rw [Int64.lt_iff_toInt_lt, z] at h2
      have q2 : ¬ y.toInt = 0 := fun w => q (Int64.toInt_inj.mp (w.trans z.symm))
      exact ⟨fun w => absurd w (by decide), fun w => absurd w (by omega)⟩
theorem lc_eq (y : Int64) : lg_cmp y 0 = 0 ↔ y = 0 := by
  unfold lg_cmp
  by_cases h : y > 0
  · rw [if_pos h]
    exact ⟨fun w => absurd w (by decide), fun w => by rw [w] at h; exact absurd h (by decide)⟩
  · rw [if_neg h]
    by_cases q : y = 0
    · rw [if_pos q]; exact ⟨fun _ => q, fun _ => rfl⟩
    · rw [if_neg q]; exact ⟨fun w => absurd w (by decide), fun w => absurd w q⟩
theorem l_floor {x : Int64} (b1 : -4294967296 < x.toInt) (b2 : x.toInt < 4294967296) : (tf_Math_floorMod_JJ x).toInt = x.toInt % 10 := by
  unfold tf_Math_floorMod_JJ
  have e : (10 : Int64).toInt = 10 := by decide
  have z : (0 : Int64).toInt = 0 := by decide
  have hx : 0 ≤ lg_cmp (x ^^^ 10) 0 ↔ 0 ≤ x.toInt := by
    rw [lc_ge]
    have k : (x ^^^ 10).toInt = (x.toBitVec ^^^ 10#64).toInt := rfl
    have k2 : x.toInt = x.toBitVec.toInt := rfl
    have m1 := BitVec.msb_eq_toInt (x := x.toBitVec ^^^ 10#64)
    have m2 := BitVec.msb_eq_toInt (x := x.toBitVec)
    have m3 : (x.toBitVec ^^^ 10#64).msb = x.toBitVec.msb := by
      have m4 : (10#64).msb = false := by decide
      rw [BitVec.msb_xor, m4, Bool.xor_false]
    rw [m1, m2] at m3
    have m5 := decide_eq_decide.mp m3
    rw [k, k2]
    generalize (x.toBitVec ^^^ 10#64).toInt = A at m5
    generalize x.toBitVec.toInt = B at m5
    omega
  by_cases h : 0 ≤ x.toInt
  · rw [if_pos (hx.mpr h)]
    exact l_remp h b2
  · rw [if_neg (fun q => h (hx.mp q))]
    have hr := l_remn (x := x) (by omega) b1
    generalize (x - x / 10 * 10) = r at hr
    by_cases q : r = 0
    · rw [if_pos ((lc_eq r).mpr q)]
      rw [q, z] at hr
      rw [q, z]
      omega
    · have q2 : ¬ r.toInt = 0 := fun w => q (Int64.toInt_inj.mp (w.trans z.symm))
      rw [if_neg (fun w => q ((lc_eq r).mp w)), Int64.toInt_add, e, l_bm (by omega) (by omega)]
      omega
theorem size_both (x : Int32) : 1 + (tf_Math_floorMod_JJ (x.toInt64 - 1)).toInt32 = 1 + tf_Md_modulo (tf_Md_modulo x + 9) := by
  have r := i_rng x
  have e1 : (1 : Int64).toInt = 1 := by decide
  have e9 : (9 : Int32).toInt = 9 := by decide
  have ex : x.toInt64.toInt = x.toInt := Int32.toInt_toInt64 x
  have ey : (x.toInt64 - 1).toInt = x.toInt - 1 := by
    rw [Int64.toInt_sub, ex, e1, l_bm (by omega) (by omega)]
  have f := l_floor (x := x.toInt64 - 1) (by omega) (by omega)
  rw [ey] at f
  have m := i_modulo x
  have m9 : (tf_Md_modulo x + 9).toInt = x.toInt % 10 + 9 := by
    rw [Int32.toInt_add, m, e9, i_bm (by omega) (by omega)]
  have mm := i_modulo (tf_Md_modulo x + 9)
  rw [m9] at mm
  congr 1
  apply Int32.toInt_inj.mp
  rw [mm, Int64.toInt_toInt32, f, i_bm (by omega) (by omega)]
  omega
theorem size_ex (x : Int32) : ∃ S : Nat, (1 ≤ S ∧ S ≤ 10) ∧ 1 + tf_Md_modulo (tf_Md_modulo x + 9) = nI S := by
  have mm := i_modulo (tf_Md_modulo x + 9)
  generalize (tf_Md_modulo x + 9) = y at mm
  have hk : (tf_Md_modulo y).toInt = ((y.toInt % 10).toNat : Int) := by omega
  refine ⟨(y.toInt % 10).toNat + 1, by omega, ?_⟩
  have e : tf_Md_modulo y = nI (y.toInt % 10).toNat := Int32.toInt_inj.mp (by rw [nI_toInt (by omega)]; exact hk)
  rw [e, Int32.add_comm, nI_1]
theorem pow_S {S : Nat} (h : 1 ≤ S ∧ S ≤ 10) : (1 : Int32) <<< (nI S &&& 31) = nI (2 ^ S) := by
  obtain ⟨h1, h2⟩ := h
  have : S = 1 ∨ S = 2 ∨ S = 3 ∨ S = 4 ∨ S = 5 ∨ S = 6 ∨ S = 7 ∨ S = 8 ∨ S = 9 ∨ S = 10 := by omega
  rcases this with rfl | rfl | rfl | rfl | rfl | rfl | rfl | rfl | rfl | rfl <;> decide
