/-! THE START: kind and size, class and reference -/
theorem i_bm {a : Int} (h1 : -2147483648 ≤ a) (h2 : a < 2147483648) : a.bmod (2 ^ 32) = a := by
  rw [Int.bmod_eq_of_le] <;> omega
theorem i_div10 (x : Int32) : (x / 10).toInt = x.toInt.tdiv 10 := by
  have h := Int32.toInt_div_of_ne_right x 10 (by decide)
  have e : (10 : Int32).toInt = 10 := by decide
  rw [e] at h
  exact h
theorem i_rng (x : Int32) : -2147483648 ≤ x.toInt ∧ x.toInt < 2147483648 := by
  have a := Int32.le_toInt x
  have b := Int32.toInt_lt x
  omega
theorem i_remp {x : Int32} (h : 0 ≤ x.toInt) : (x - x / 10 * 10).toInt = x.toInt % 10 := by
  have r := i_rng x
  have e : (10 : Int32).toInt = 10 := by decide
  have d := i_div10 x
  rw [Int.tdiv_eq_ediv_of_nonneg h] at d
  rw [Int32.toInt_sub, Int32.toInt_mul, d, e, i_bm (a := x.toInt / 10 * 10) (by omega) (by omega), i_bm (by omega) (by omega)]
  omega
theorem i_remn {x : Int32} (h : x.toInt < 0) : (x - x / 10 * 10).toInt = -((-x.toInt) % 10) := by
  have r := i_rng x
  have e : (10 : Int32).toInt = 10 := by decide
  have d := i_div10 x
  have d2 : x.toInt.tdiv 10 = -((-x.toInt) / 10) := by
    rw [← Int.tdiv_eq_ediv_of_nonneg (show 0 ≤ -x.toInt by omega), Int.neg_tdiv, Int.neg_neg]
  rw [d2] at d
  rw [Int32.toInt_sub, Int32.toInt_mul, d, e, i_bm (a := -((-x.toInt) / 10) * 10) (by omega) (by omega), i_bm (by omega) (by omega)]
  omega
theorem i_modulo (x : Int32) : (tf_Md_modulo x).toInt = x.toInt % 10 := by
  unfold tf_Md_modulo
  have e : (10 : Int32).toInt = 10 := by decide
  have hr : (x - x / 10 * 10).toInt = x.toInt % 10 ∨ (x.toInt < 0 ∧ (x - x / 10 * 10).toInt = -((-x.toInt) % 10)) := by
    by_cases h : 0 ≤ x.toInt
    · exact Or.inl (i_remp h)
    · exact Or.inr ⟨by omega, i_remn (by omega)⟩
  generalize (x - x / 10 * 10) = r at hr
  have ha : (r + 10).toInt = r.toInt + 10 := by
    rw [Int32.toInt_add, e, i_bm (by omega) (by omega)]
  rw [i_remp (by omega), ha]
  omega
theorem i_floor (x : Int32) : (tf_Math_floorMod_II x).toInt = x.toInt % 10 := by
  unfold tf_Math_floorMod_II
  have e : (10 : Int32).toInt = 10 := by decide
  have z : (0 : Int32).toInt = 0 := by decide
  have hx : 0 ≤ x ^^^ 10 ↔ 0 ≤ x.toInt := by
    rw [Int32.le_iff_toInt_le, z]
    have k : (x ^^^ 10).toInt = (x.toBitVec ^^^ 10#32).toInt := rfl
    have k2 : x.toInt = x.toBitVec.toInt := rfl
    have m1 := BitVec.msb_eq_toInt (x := x.toBitVec ^^^ 10#32)
    have m2 := BitVec.msb_eq_toInt (x := x.toBitVec)
    have m3 : (x.toBitVec ^^^ 10#32).msb = x.toBitVec.msb := by
      have m4 : (10#32).msb = false := by decide
      rw [BitVec.msb_xor, m4, Bool.xor_false]
    rw [m1, m2] at m3
    have m5 := decide_eq_decide.mp m3
    rw [k, k2]
    generalize (x.toBitVec ^^^ 10#32).toInt = A at m5
    generalize x.toBitVec.toInt = B at m5
    omega
  by_cases h : 0 ≤ x.toInt
  · rw [if_pos (hx.mpr h)]
    exact i_remp h
  · rw [if_neg (fun q => h (hx.mp q))]
    have hr := i_remn (x := x) (by omega)
    generalize (x - x / 10 * 10) = r at hr
    by_cases q : r = 0
    · rw [if_pos q]
      rw [q, z] at hr
      rw [q, z]
      omega
    · have q2 : ¬ r.toInt = 0 := fun w => q (Int32.toInt_inj.mp (w.trans z.symm))
      rw [if_neg q, Int32.toInt_add, e, i_bm (by omega) (by omega)]
      omega
theorem kind_both (x : Int32) : tf_Math_floorMod_II x = tf_Md_modulo x := Int32.toInt_inj.mp ((i_floor x).trans (i_modulo x).symm)
