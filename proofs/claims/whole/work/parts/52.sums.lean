/-! KIND 7 -/
/-- the sum of row r by the history, k of its eight outcomes in -/
def tw (f : Nat → Int32) (r : Nat) (hs : Int32) : Nat → Int32
  | 0 => f r
  | k + 1 => if us hs (nI k) &&& 1 = 1 then tw f r hs k + f (r + k + 1) else tw f r hs k + (-(f (r + k + 1)))
theorem wix (j k : Nat) : (9 * nI j + nI k) + 1 = nI (9 * j + k + 1) := by
  rw [show (9 : Int32) * nI j = nI (9 * j) from pk_mul 9 j, nI_add, nI_1]
theorem num_lp {n1 j : Nat} {f : Nat → Int32} {zs mk pl hs : Int32} (e2 : tf_Sums_plainRow zs mk pl = nI j) (hn : 9 * j + 8 < n1) (hb : n1 < 2147483648) : ∀ (d k n : Nat), 8 = k + d → d < n → of_Sums_number_b19 n zs mk n1 f pl hs (tw f (9 * j) hs k) (nI k) = some (tw f (9 * j) hs 8) := by
  intro d
  induction d with
  | zero =>
    intro k n e hn2
    obtain ⟨n, rfl⟩ : ∃ q, n = q + 1 := ⟨n - 1, by omega⟩
    obtain rfl : k = 8 := by omega
    unfold of_Sums_number_b19
    rw [if_pos (by decide)]
  | succ d ih =>
    intro k n e hn2
    obtain ⟨n, rfl⟩ : ∃ q, n = q + 1 := ⟨n - 1, by omega⟩
    unfold of_Sums_number_b19 tf_PK_bitOf tf_Sums_firstWeight
    rw [if_neg (show ¬ (8 : Int32) ≤ nI k from nI_ge (a := k) (b := 8) (by omega) (by omega)), e2, wix, at_in (by omega) hb, nI_1]
    have hi := ih (k + 1) n (by omega) (by omega)
    by_cases h : us hs (nI k) &&& 1 = 1
    · rw [if_pos h, if_neg (show ¬ bI true = 0 by decide)]
      have e3 : tw f (9 * j) hs (k + 1) = tw f (9 * j) hs k + f (9 * j + k + 1) := if_pos h
      rw [e3] at hi
      exact hi
    · rw [if_neg h, if_pos (show bI false = 0 by decide)]
      have e3 : tw f (9 * j) hs (k + 1) = tw f (9 * j) hs k + (-(f (9 * j + k + 1))) := if_neg h
      rw [e3] at hi
      exact hi
theorem tot_lp {j : Nat} {g : Nat → Int32} {zs rw pl hs : Int32} (e1 : tf_Md_plainRow zs rw pl = nI j) (hn : 9 * j + 8 < 9216) : ∀ (d k n : Nat), 8 = k + d → d < n → of_Md_total_b20 n zs rw g pl hs (tw g (9 * j) hs k) (nI k) = some (tw g (9 * j) hs 8) := by
  intro d
  induction d with
  | zero =>
    intro k n e hn2
    obtain ⟨n, rfl⟩ : ∃ q, n = q + 1 := ⟨n - 1, by omega⟩
    obtain rfl : k = 8 := by omega
    unfold of_Md_total_b20
    rw [if_pos (by decide)]
  | succ d ih =>
    intro k n e hn2
    obtain ⟨n, rfl⟩ : ∃ q, n = q + 1 := ⟨n - 1, by omega⟩
    unfold of_Md_total_b20
    rw [if_neg (show ¬ (8 : Int32) ≤ nI k from nI_ge (a := k) (b := 8) (by omega) (by omega)), e1, wix, if_neg (nI_in (by omega) (by omega)), if_neg (nI_in (by omega) (by omega)), nI_clamp (by omega), nI_1]
    have hi := ih (k + 1) n (by omega) (by omega)
    by_cases h : us hs (nI k) &&& 1 = 1
    · rw [if_pos h]
      have e3 : tw g (9 * j) hs (k + 1) = tw g (9 * j) hs k + g (9 * j + k + 1) := if_pos h
      rw [e3] at hi
      exact hi
    · rw [if_neg h]
      have e3 : tw g (9 * j) hs (k + 1) = tw g (9 * j) hs k + (-(g (9 * j + k + 1))) := if_neg h
      rw [e3] at hi
      exact hi
theorem tw_ag {n r : Nat} {f g : Nat → Int32} {hs : Int32} (a : Ag n f g) : ∀ k, r + k < n → tw f r hs k = tw g r hs k := by
  intro k
  induction k with
  | zero => intro h; exact a r (by omega)
  | succ k ih =>
    intro h
    show (if us hs (nI k) &&& 1 = 1 then tw f r hs k + f (r + k + 1) else tw f r hs k + (-(f (r + k + 1)))) = (if us hs (nI k) &&& 1 = 1 then tw g r hs k + g (r + k + 1) else tw g r hs k + (-(g (r + k + 1))))
    rw [ih (by omega), a (r + k + 1) (by omega)]
theorem number_7 {S j n1 : Nat} {f : Nat → Int32} {zs mk pl hs : Int32} (hS : 1 ≤ S ∧ S ≤ 10) (hn : n1 = 9 * 2 ^ S) (hj : j < 2 ^ S) (e2 : tf_Sums_plainRow zs mk pl = nI j) : of_Sums_number zs mk n1 f pl hs = some (tw f (9 * j) hs 8) := by
  have hp := Sz_pow hS
  have h0 := num_lp (f := f) (hs := hs) (n1 := n1) e2 (by omega) (by omega) 8 0 4096 (by omega) (by omega)
  unfold of_Sums_number tf_Sums_firstWeight
  rw [e2, show (9 : Int32) * nI j = nI (9 * j) from pk_mul 9 j, at_in (by omega) (by omega)]
  exact h0
theorem total_7 {S j : Nat} {g : Nat → Int32} {zs rw pl hs : Int32} (hS : 1 ≤ S ∧ S ≤ 10) (hj : j < 2 ^ S) (e1 : tf_Md_plainRow zs rw pl = nI j) : of_Md_total zs rw g pl hs = some (tw g (9 * j) hs 8) := by
  have hp := Sz_pow hS
  have h0 := tot_lp (g := g) (hs := hs) e1 (by omega) 8 0 4096 (by omega) (by omega)
  unfold of_Md_total
  rw [e1, show (9 : Int32) * nI j = nI (9 * j) from pk_mul 9 j, if_neg (nI_in (by omega) (by omega)), nI_clamp (by omega)]
  exact h0
/-- a weight's step -/
def stw (f : Nat → Int32) (i : Nat) (u : Bool) : Nat → Int32 := if u = true then (if 63 ≤ f i then f else upd f i (f i + 1)) else (if f i ≤ (-64) then f else upd f i (f i - 1))
theorem stw_class {n i : Nat} {f : Nat → Int32} {u : Bool} (h : i < n) (hn : n < 2147483648) : tf_PK_step n f (nI i) u (-64) 63 = stw f i u := by
  unfold tf_PK_step tf_PK_step_b30 stw
  rw [at_in h hn, put_in h hn, put_in h hn]
  cases u
  · rw [if_pos (show bI false = 0 by decide), if_pos (show bI false = 0 by decide), if_neg (show ¬ false = true by decide)]
  · rw [if_neg (show ¬ bI true = 0 by decide), if_neg (show ¬ bI true = 0 by decide), if_pos rfl]
theorem stw_model {i : Nat} {g : Nat → Int32} {u : Bool} (h : i < 9216) : of_Md_turn g (nI i) u = some (stw g i u) := by
  have ni : ¬ (nI i < 0 ∨ 9216 ≤ i) := nbad h (by omega)
  unfold of_Md_turn of_Md_turn_b25 stw
  rw [nI_clamp (by omega)]
  simp only [if_neg ni]
  cases u
  · rw [if_pos (show bI false = 0 by decide), if_pos (show bI false = 0 by decide), if_neg (show ¬ false = true by decide)]
    by_cases h2 : g i ≤ (-64)
    · rw [if_pos h2, if_pos h2]
    · rw [if_neg h2, if_neg h2]
  · rw [if_neg (show ¬ bI true = 0 by decide), if_pos rfl]
    by_cases h2 : 63 ≤ g i
    · rw [if_pos h2, if_pos h2, if_neg (show ¬ bI true = 0 by decide)]
    · rw [if_neg h2, if_neg h2, if_neg (show ¬ bI true = 0 by decide)]
theorem stw_ag {n i : Nat} {f g : Nat → Int32} {u : Bool} (a : Ag n f g) (h : i < n) : Ag n (stw f i u) (stw g i u) := by
  unfold stw
  rw [a i h]
  cases u
  · rw [if_neg (show ¬ false = true by decide), if_neg (show ¬ false = true by decide)]
    by_cases h2 : g i ≤ (-64)
    · rw [if_pos h2, if_pos h2]; exact a
    · rw [if_neg h2, if_neg h2]; exact a.upd i _
  · rw [if_pos rfl, if_pos rfl]
    by_cases h2 : 63 ≤ g i
    · rw [if_pos h2, if_pos h2]; exact a
    · rw [if_neg h2, if_neg h2]; exact a.upd i _
/-- weights within bounds -/
def Wb (n : Nat) (f : Nat → Int32) : Prop := ∀ i, i < n → (-64) ≤ (f i).toInt ∧ (f i).toInt ≤ 63
theorem i_addT {x y : Int32} (h1 : -2147483648 ≤ x.toInt + y.toInt) (h2 : x.toInt + y.toInt < 2147483648) : (x + y).toInt = x.toInt + y.toInt := by
  rw [Int32.toInt_add]
  exact Int.bmod_eq_of_le (by omega) (by omega)
theorem i_subT {x y : Int32} (h1 : -2147483648 ≤ x.toInt - y.toInt) (h2 : x.toInt - y.toInt < 2147483648) : (x - y).toInt = x.toInt - y.toInt := by
  rw [Int32.toInt_sub]
  exact Int.bmod_eq_of_le (by omega) (by omega)
theorem i_negT {x : Int32} (h1 : -2147483648 < x.toInt) : (-x).toInt = -x.toInt := by
  have hx := Int32.toInt_lt x
  rw [Int32.toInt_neg]
  exact Int.bmod_eq_of_le (by omega) (by omega)
theorem stw_wb {n i : Nat} {f : Nat → Int32} {u : Bool} (w : Wb n f) (h : i < n) : Wb n (stw f i u) := by
  have hi := w i h
  have t1 : (1 : Int32).toInt = 1 := by decide
  have t63 : (63 : Int32).toInt = 63 := by decide
  have t64 : (-64 : Int32).toInt = -64 := by decide
  unfold stw
  intro k hk
  cases u
  · rw [if_neg (show ¬ false = true by decide)]
    by_cases h2 : f i ≤ (-64)
    · rw [if_pos h2]; exact w k hk
    · rw [if_neg h2]
      rw [Int32.le_iff_toInt_le, t64] at h2
      by_cases e : k = i
      · subst e
        rw [pk_us, i_subT (by rw [t1]; omega) (by rw [t1]; omega), t1]
        omega
      · rw [pk_un e]; exact w k hk
  · rw [if_pos rfl]
    by_cases h2 : 63 ≤ f i
    · rw [if_pos h2]; exact w k hk
    · rw [if_neg h2]
      rw [Int32.le_iff_toInt_le, t63] at h2
      by_cases e : k = i
      · subst e
        rw [pk_us, i_addT (by rw [t1]; omega) (by rw [t1]; omega), t1]
        omega
      · rw [pk_un e]; exact w k hk
theorem tw_bd {n r : Nat} {f : Nat → Int32} {hs : Int32} (w : Wb n f) : ∀ k, r + k < n → k ≤ 8 → -(64 * ((k : Int) + 1)) ≤ (tw f r hs k).toInt ∧ (tw f r hs k).toInt ≤ 64 * ((k : Int) + 1) := by
  intro k
  induction k with
  | zero =>
    intro h _
    have := w r (by omega)
    show -(64 * ((0 : Nat) + 1 : Int)) ≤ (f r).toInt ∧ (f r).toInt ≤ 64 * ((0 : Nat) + 1 : Int)
    omega
  | succ k ih =>
    intro h h8
    have hi := ih (by omega) (by omega)
    have hw := w (r + k + 1) (by omega)
    show -(64 * (((k + 1 : Nat) : Int) + 1)) ≤ (if us hs (nI k) &&& 1 = 1 then tw f r hs k + f (r + k + 1) else tw f r hs k + (-(f (r + k + 1)))).toInt ∧ (if us hs (nI k) &&& 1 = 1 then tw f r hs k + f (r + k + 1) else tw f r hs k + (-(f (r + k + 1)))).toInt ≤ 64 * (((k + 1 : Nat) : Int) + 1)
    by_cases c : us hs (nI k) &&& 1 = 1
    · rw [if_pos c, i_addT (by omega) (by omega)]
      omega
    · have hneg : (-(f (r + k + 1))).toInt = -(f (r + k + 1)).toInt := i_negT (by omega)
      rw [if_neg c, i_addT (by rw [hneg]; omega) (by rw [hneg]; omega), hneg]
      omega
