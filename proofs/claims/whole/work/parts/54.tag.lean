/-! KIND 6: rows and tags -/
theorem s_l : ∀ n, n < 32 → ((nI n &&& 31).toBitVec.smod 32).toNat = n := by decide +kernel
theorem s_u : ∀ n, n < 32 → (((nI n).toUInt32 &&& Int32.toUInt32 31).toBitVec % 32).toNat = n := by decide +kernel
theorem nx_xor (a b : Nat) : nI a ^^^ nI b = nI (a ^^^ b) := by
  apply Int32.toBitVec_inj.1
  show BitVec.ofNat 32 a ^^^ BitVec.ofNat 32 b = BitVec.ofNat 32 (a ^^^ b)
  apply BitVec.eq_of_getLsbD_eq
  intro i hi
  simp [hi]
theorem of32 (x : Int32) : ∃ n, n < 2 ^ 32 ∧ x = nI n := by
  refine ⟨x.toBitVec.toNat, x.toBitVec.isLt, ?_⟩
  apply Int32.toBitVec_inj.1
  show x.toBitVec = BitVec.ofNat 32 x.toBitVec.toNat
  simp
theorem us_N {n b : Nat} (hn : n < 2 ^ 32) (hb : b < 32) : us (nI n) (nI b) = nI (n / 2 ^ b) := pk_ushrN hn (nI b) b (s_u b hb)
theorem mask_N {b : Nat} (hb : b ≤ 16) : tf_PK_maskOf (nI b) = nI (2 ^ b - 1) := by
  have h1 : 2 ^ b ≤ 2 ^ 16 := Nat.pow_le_pow_right (by decide) hb
  have h0 : 0 < 2 ^ b := Nat.two_pow_pos b
  unfold tf_PK_maskOf
  rw [show ((1 : Int32) <<< (nI b &&& 31)) = nI (1 * 2 ^ b) from pk_shlN (n := 1) (nI b &&& 31) b (s_l b (by omega)) (by omega), Nat.one_mul]
  exact pk_sub (a := 2 ^ b) (b := 1) (by omega)
theorem and_N {n b : Nat} (hn : n < 2 ^ 32) (hb : b ≤ 16) : nI n &&& nI (2 ^ b - 1) = nI (n % 2 ^ b) := by
  have h1 : 2 ^ b ≤ 2 ^ 16 := Nat.pow_le_pow_right (by decide) hb
  exact pk_andN hn b (pk_tn (by omega))
theorem cf_lp {h b x : Nat} (hh : h ≤ 16) (hb : b ≤ 16) (hx : x < 2 ^ 32) : ∀ (d r n : Nat), h = r + d → d < n → of_PK_folded_b19 n (nI h) (nI b) (nI (x / 2 ^ (b * r))) (nI (cfo b x r)) (nI r) = some (nI (cfo b x h)) := by
  intro d
  induction d with
  | zero =>
    intro r n e hn
    obtain ⟨n, rfl⟩ : ∃ q, n = q + 1 := ⟨n - 1, by omega⟩
    obtain rfl : r = h := by omega
    unfold of_PK_folded_b19
    rw [if_pos (nI_le (Nat.le_refl _) (by omega))]
  | succ d ih =>
    intro r n e hn
    obtain ⟨n, rfl⟩ : ∃ q, n = q + 1 := ⟨n - 1, by omega⟩
    have hi := ih (r + 1) n (by omega) (by omega)
    have hl : x / 2 ^ (b * r) < 2 ^ 32 := Nat.lt_of_le_of_lt (Nat.div_le_self _ _) hx
    unfold of_PK_folded_b19
    rw [if_neg (nI_ge (by omega) (by omega)), us_N hl (by omega), mask_N hb, and_N hl hb, nx_xor, nI_1, Nat.div_div_eq_div_mul, ← Nat.pow_add, ← Nat.mul_succ]
    exact hi
theorem mf_lp {h b H : Nat} (hh : h ≤ 16) (hb : b ≤ 16) (hb0 : 0 < b) (hH : H < 2 ^ 32) : ∀ (d k n : Nat), h = k + d → d < n → of_Md_folded_b5 n (nI H) (nI h) (nI b) (nI (mfo b H k)) (nI k) = some (nI (mfo b H h)) := by
  intro d
  induction d with
  | zero =>
    intro k n e hn
    obtain ⟨n, rfl⟩ : ∃ q, n = q + 1 := ⟨n - 1, by omega⟩
    obtain rfl : k = h := by omega
    unfold of_Md_folded_b5
    rw [if_pos (nI_le (Nat.le_refl _) (by omega))]
  | succ d ih =>
    intro k n e hn
    obtain ⟨n, rfl⟩ : ∃ q, n = q + 1 := ⟨n - 1, by omega⟩
    have hi := ih (k + 1) n (by omega) (by omega)
    have hl : H / 2 ^ k < 2 ^ 32 := Nat.lt_of_le_of_lt (Nat.div_le_self _ _) hH
    have hm : k % b < b := Nat.mod_lt _ hb0
    have hp : 2 ^ (k % b) ≤ 2 ^ 16 := Nat.pow_le_pow_right (by decide) (by omega)
    have hv : H / 2 ^ k % 2 * 2 ^ (k % b) < 2 ^ 32 := by
      have h2 : H / 2 ^ k % 2 ≤ 1 := by omega
      have h3 : H / 2 ^ k % 2 * 2 ^ (k % b) ≤ 1 * 2 ^ (k % b) := Nat.mul_le_mul_right _ h2
      omega
    unfold of_Md_folded_b5
    rw [if_neg (nI_ge (by omega) (by omega)), if_neg (nI_ne0 hb0 (by omega)), us_N hH (by omega), show (nI (H / 2 ^ k) &&& 1) = nI (H / 2 ^ k % 2 ^ 1) from pk_andN hl 1 rfl, Nat.pow_one, pk_rem (by omega) hb0 (by omega), pk_shlN (nI (k % b) &&& 31) (k % b) (s_l _ (by omega)) hv, nx_xor, nI_1]
    exact hi
/-- both fold alike -/
theorem folded_both {h b : Nat} (hs : Int32) (h2 : 2 ≤ h) (hh : h ≤ 16) (hb0 : 0 < b) (hb : b ≤ 16) : ∃ F : Nat, of_PK_folded hs (nI h) (nI b) = some (nI F) ∧ of_Md_folded hs (nI h) (nI b) = some (nI F) := by
  obtain ⟨H, hH, rfl⟩ := of32 hs
  refine ⟨mfo b H h, ?_, ?_⟩
  · have hx : H % 2 ^ h < 2 ^ 32 := Nat.lt_of_le_of_lt (Nat.mod_le _ _) hH
    have h0 := cf_lp (x := H % 2 ^ h) hh hb hx h 0 4096 (by omega) (by omega)
    rw [Nat.mul_zero, Nat.pow_zero, Nat.div_one, ← fold_eq hb0 h2] at h0
    unfold of_PK_folded
    rw [mask_N hh, and_N hH hh]
    exact h0
  · exact mf_lp hh hb hb0 hH h 0 4096 (by omega) (by omega)
