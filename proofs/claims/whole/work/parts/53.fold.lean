/-! KIND 6: the two ways of folding -/
/-- the class's: n rounds of b bits -/
def cfo (b x : Nat) : Nat → Nat
  | 0 => 0
  | r + 1 => cfo b x r ^^^ (x / 2 ^ (b * r) % 2 ^ b)
/-- the reference's: k bits, one by one -/
def mfo (b H : Nat) : Nat → Nat
  | 0 => 0
  | k + 1 => mfo b H k ^^^ (H / 2 ^ k % 2 * 2 ^ (k % b))
theorem xor_pow {a s : Nat} (h : a < 2 ^ s) : a ^^^ 2 ^ s = a + 2 ^ s := by
  apply Nat.eq_of_testBit_eq
  intro i
  rw [Nat.testBit_xor, Nat.testBit_two_pow, Nat.add_comm]
  rcases Nat.lt_trichotomy i s with q | q | q
  · rw [Nat.testBit_two_pow_add_gt q]
    simp [show ¬ s = i by omega]
  · subst q
    rw [Nat.testBit_two_pow_add_eq, Nat.testBit_lt_two_pow h]
    simp
  · have h1 : a < 2 ^ i := Nat.lt_of_lt_of_le h (Nat.pow_le_pow_right (by decide) (by omega))
    have h2 : 2 ^ s + a < 2 ^ i := by
      have : 2 ^ (s + 1) ≤ 2 ^ i := Nat.pow_le_pow_right (by decide) (by omega)
      have e : 2 ^ (s + 1) = 2 ^ s + 2 ^ s := by rw [Nat.pow_succ]; omega
      omega
    rw [Nat.testBit_lt_two_pow h1, Nat.testBit_lt_two_pow h2]
    simp [show ¬ s = i by omega]
theorem mod_bit (y s : Nat) : y % 2 ^ (s + 1) = (y % 2 ^ s) ^^^ (y / 2 ^ s % 2 * 2 ^ s) := by
  have hl : y % 2 ^ s < 2 ^ s := Nat.mod_lt _ (Nat.two_pow_pos s)
  have e : y % 2 ^ (s + 1) = y % 2 ^ s + 2 ^ s * (y / 2 ^ s % 2) := by
    rw [Nat.pow_succ, Nat.mod_mul]
  rcases Nat.mod_two_eq_zero_or_one (y / 2 ^ s) with c | c
  · rw [e, c]; simp
  · rw [e, c, Nat.one_mul, Nat.mul_one, xor_pow hl]
theorem low_bit {H h q : Nat} (hq : q < h) : H % 2 ^ h / 2 ^ q % 2 = H / 2 ^ q % 2 := by
  have e1 : (H % 2 ^ h).testBit q = H.testBit q := by
    rw [Nat.testBit_mod_two_pow]; simp [hq]
  have a1 : H % 2 ^ h / 2 ^ q % 2 = ((H % 2 ^ h).testBit q).toNat := by rw [Nat.toNat_testBit]
  have a2 : H / 2 ^ q % 2 = (H.testBit q).toNat := by rw [Nat.toNat_testBit]
  rw [a1, a2, e1]
theorem fold_inv {b H h : Nat} (hb : 0 < b) : ∀ r s, s ≤ b → b * r + s ≤ h → mfo b H (b * r + s) = cfo b (H % 2 ^ h) r ^^^ (H % 2 ^ h / 2 ^ (b * r) % 2 ^ s) := by
  intro r
  induction r with
  | zero =>
    intro s
    induction s with
    | zero => intro _ _; simp [mfo, cfo, Nat.mod_one]
    | succ s ih =>
      intro h1 h2
      have hi := ih (by omega) (by omega)
      have e : mfo b H (b * 0 + (s + 1)) = mfo b H (b * 0 + s) ^^^ (H / 2 ^ (b * 0 + s) % 2 * 2 ^ ((b * 0 + s) % b)) := rfl
      rw [e, hi, mod_bit, Nat.xor_assoc]
      congr 2
      rw [Nat.mul_zero, Nat.zero_add, Nat.pow_zero, Nat.div_one, low_bit (by omega), Nat.mod_eq_of_lt (show s < b by omega)]
  | succ r ihr =>
    intro s
    induction s with
    | zero =>
      intro _ h2
      have hi := ihr b (Nat.le_refl b) (by rw [Nat.mul_succ] at h2; omega)
      rw [Nat.add_zero, Nat.mul_succ, hi, Nat.pow_zero, Nat.mod_one, Nat.xor_zero]
      rfl
    | succ s ih =>
      intro h1 h2
      have hi := ih (by omega) (by omega)
      have e : mfo b H (b * (r + 1) + (s + 1)) = mfo b H (b * (r + 1) + s) ^^^ (H / 2 ^ (b * (r + 1) + s) % 2 * 2 ^ ((b * (r + 1) + s) % b)) := rfl
      rw [e, hi, mod_bit, Nat.xor_assoc]
      congr 2
      rw [Nat.div_div_eq_div_mul, ← Nat.pow_add, low_bit (by omega), Nat.mul_add_mod, Nat.mod_eq_of_lt (show s < b by omega)]
theorem cfo_more {b x r : Nat} (h : x < 2 ^ (b * r)) : ∀ t, cfo b x (r + t) = cfo b x r := by
  intro t
  induction t with
  | zero => rfl
  | succ t ih =>
    have e : cfo b x (r + (t + 1)) = cfo b x (r + t) ^^^ (x / 2 ^ (b * (r + t)) % 2 ^ b) := rfl
    have h2 : x < 2 ^ (b * (r + t)) := Nat.lt_of_lt_of_le h (Nat.pow_le_pow_right (by decide) (Nat.mul_le_mul_left b (by omega)))
    rw [e, ih, Nat.div_eq_of_lt h2, Nat.zero_mod, Nat.xor_zero]
theorem fold_eq {b H h : Nat} (hb : 0 < b) (hh : 2 ≤ h) : mfo b H h = cfo b (H % 2 ^ h) h := by
  have hx : H % 2 ^ h < 2 ^ h := Nat.mod_lt _ (Nat.two_pow_pos h)
  by_cases h1 : b = 1
  · subst h1
    have hi := fold_inv (b := 1) (H := H) (h := h) (by decide) h 0 (by omega) (by omega)
    rw [Nat.one_mul, Nat.add_zero, Nat.pow_zero, Nat.mod_one, Nat.xor_zero] at hi
    exact hi
  · have e := Nat.div_add_mod h b
    have hs : h % b < b := Nat.mod_lt _ hb
    have hi := fold_inv (b := b) (H := H) (h := h) hb (h / b) (h % b) (by omega) (by omega)
    rw [e] at hi
    have hq : H % 2 ^ h / 2 ^ (b * (h / b)) < 2 ^ (h % b) := by
      apply Nat.div_lt_of_lt_mul
      rw [← Nat.pow_add, e]
      exact hx
    have hq2 : H % 2 ^ h / 2 ^ (b * (h / b)) < 2 ^ b := Nat.lt_of_lt_of_le hq (Nat.pow_le_pow_right (by decide) (by omega))
    have e2 : cfo b (H % 2 ^ h) (h / b + 1) = mfo b H h := by
      rw [hi, Nat.mod_eq_of_lt hq]
      show cfo b (H % 2 ^ h) (h / b) ^^^ (H % 2 ^ h / 2 ^ (b * (h / b)) % 2 ^ b) = _
      rw [Nat.mod_eq_of_lt hq2]
    have hlt : h / b < h := Nat.div_lt_self (by omega) (by omega)
    obtain ⟨t, ht⟩ : ∃ t, h = (h / b + 1) + t := ⟨h - (h / b + 1), by omega⟩
    have hm : H % 2 ^ h < 2 ^ (b * (h / b + 1)) := Nat.lt_of_lt_of_le hx (Nat.pow_le_pow_right (by decide) (by rw [Nat.mul_succ]; omega))
    have h3 := cfo_more hm t
    rw [← ht, e2] at h3
    exact h3.symm
