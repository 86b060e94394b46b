/-! KIND 7 -/
/-- the sum of row r by the history, k of its eight outcomes in -/
def tw (f : Nat → Int32) (r : Nat) (hs : Int32) : Nat → Int32
  | 0 => f r
  | k + 1 => if us hs (nI k) &&& 1 = 1 then tw f r hs k + f (r + k + 1) else tw f r hs k + (-(f (r + k + 1)))
theorem wix (j k : Nat) : (9 * nI j + nI k) + 1 = nI (9 * j + k + 1) := by
  rw [show (9 : Int32) * nI j = nI (9 * j) from pk_mul 9 j, nI_add, nI_1]
theorem num_lp {n1 j : Nat} {f : Nat → Int32} {zs mk pl hs : Int32} (e2 : tf_Sums_plainRow zs mk pl = nI j) (hn : 9 * j + 8 < n1) (hb : n1 < 2147483648) : ∀ (d k n : Nat), 8 = k + d → d < n → of_Sums_number_b19 n zs mk n1 f pl hs (tw f (9 * j) hs k) (nI k) = some (tw f (9 * j) hs 8) := by
  intro d
  induction d with
  | zero =>
    intro k n e hn2
    obtain ⟨n, rfl⟩ : ∃ q, n = q + 1 := ⟨n - 1, by omega⟩
    obtain rfl : k = 8 := by omega
    unfold of_Sums_number_b19
    rw [if_pos (by decide)]
  | succ d ih =>
    intro k n e hn2
    obtain ⟨n, rfl⟩ : ∃ q, n = q + 1 := ⟨n - 1, by omega⟩
    unfold of_Sums_number_b19 tf_PK_bitOf tf_Sums_firstWeight
    rw [if_neg (show ¬ (8 : Int32) ≤ nI k from nI_ge (a := k) (b := 8) (by omega) (by omega)), e2, wix, at_in (by omega) hb, nI_1]
    have hi := ih (k + 1) n (by omega) (by omega)
    by_cases h : us hs (nI k) &&& 1 = 1
    · rw [if_pos h, if_neg (show ¬ bI true = 0 by decide)]
      have e3 : tw f (9 * j) hs (k + 1) = tw f (9 * j) hs k + f (9 * j + k + 1) := if_pos h
      rw [e3] at hi
      exact hi
    · rw [if_neg h, if_pos (show bI false = 0 by decide)]
      have e3 : tw f (9 * j) hs (k + 1) = tw f (9 * j) hs k + (-(f (9 * j + k + 1))) := if_neg h
      rw [e3] at hi
      exact hi
theorem tot_lp {j : Nat} {g : Nat → Int32} {zs rw pl hs : Int32} (e1 : tf_Md_plainRow zs rw pl = nI j) (hn : 9 * j + 8 < 9216) : ∀ (d k n : Nat), 8 = k + d → d < n → of_Md_total_b20 n zs rw g pl hs (tw g (9 * j) hs k) (nI k) = some (tw g (9 * j) hs 8) := by
  intro d
  induction d with
  | zero =>
    intro k n e hn2
    obtain ⟨n, rfl⟩ : ∃ q, n = q + 1 := ⟨n - 1, by omega⟩
    obtain rfl : k = 8 := by omega
    unfold of_Md_total_b20
    rw [if_pos (by decide)]
  | succ d ih =>
    intro k n e hn2
    obtain ⟨n, rfl⟩ : ∃ q, n = q + 1 := ⟨n - 1, by omega⟩
    unfold of_Md_total_b20
    rw [if_neg (show ¬ (8 : Int32) ≤ nI k from nI_ge (a := k) (b := 8) (by omega) (by omega)), e1, wix, if_neg (nI_in (by omega) (by omega)), if_neg (nI_in (by omega) (by omega)), nI_clamp (by omega), nI_1]
    have hi := ih (k + 1) n (by omega) (by omega)
    by_cases h : us hs (nI k) &&& 1 = 1
    · rw [if_pos h]
      have e3 : tw g (9 * j) hs (k + 1) = tw g (9 * j) hs k + g (9 * j + k + 1) := if_pos h
      rw [e3] at hi
      exact hi
    · rw [if_neg h]
      have e3 : tw g (9 * j) hs (k + 1) = tw g (9 * j) hs k + (-(g (9 * j + k + 1))) := if_neg h
      rw [e3] at hi
      exact hi
theorem tw_ag {n r : Nat} {f g : Nat → Int32} {hs : Int32} (a : Ag n f g) : ∀ k, r + k < n → tw f r hs k = tw g r hs k := by
  intro k
  induction k with
  | zero => intro h; exact a r (by omega)
  | succ k ih =>
    intro h
    show (if us hs (nI k) &&& 1 = 1 then tw f r hs k + f (r + k + 1) else tw f r hs k + (-(f (r + k + 1)))) = (if us hs (nI k) &&& 1 = 1 then tw g r hs k + g (r + k + 1) else tw g r hs k + (-(g (r + k + 1))))
    rw [ih (by omega), a (r + k + 1) (by omega)]
theorem number_7 {S j n1 : Nat} {f : Nat → Int32} {zs mk pl hs : Int32} (hS : 1 ≤ S ∧ S ≤ 10) (hn : n1 = 9 * 2 ^ S) (hj : j < 2 ^ S) (e2 : tf_Sums_plainRow zs mk pl = nI j) : of_Sums_number zs mk n1 f pl hs = some (tw f (9 * j) hs 8) := by
  have hp := Sz_pow hS
  have h0 := num_lp (f := f) (hs := hs) (n1 := n1) e2 (by omega) (by omega) 8 0 4096 (by omega) (by omega)
  unfold of_Sums_number tf_Sums_firstWeight
  rw [e2, show (9 : Int32) * nI j = nI (9 * j) from pk_mul 9 j, at_in (by omega) (by omega)]
  exact h0
theorem total_7 {S j : Nat} {g : Nat → Int32} {zs rw pl hs : Int32} (hS : 1 ≤ S ∧ S ≤ 10) (hj : j < 2 ^ S) (e1 : tf_Md_plainRow zs rw pl = nI j) : of_Md_total zs rw g pl hs = some (tw g (9 * j) hs 8) := by
  have hp := Sz_pow hS
  have h0 := tot_lp (g := g) (hs := hs) e1 (by omega) 8 0 4096 (by omega) (by omega)
  unfold of_Md_total
  rw [e1, show (9 : Int32) * nI j = nI (9 * j) from pk_mul 9 j, if_neg (nI_in (by omega) (by omega)), nI_clamp (by omega)]
  exact h0
/-- a weight's step -/
def stw (f : Nat → Int32) (i : Nat) (u : Bool) : Nat → Int32 := if u = true then (if 63 ≤ f i then f else upd f i (f i + 1)) else (if f i ≤ (-64) then f else upd f i (f i - 1))
theorem stw_class {n i : Nat} {f : Nat → Int32} {u : Bool} (h : i < n) (hn : n < 2147483648) : tf_PK_step n f (nI i) u (-64) 63 = stw f i u := by
  unfold tf_PK_step tf_PK_step_b30 stw
  rw [at_in h hn, put_in h hn, put_in h hn]
  cases u
  · rw [if_pos (show bI false = 0 by decide), if_pos (show bI false = 0 by decide), if_neg (show ¬ false = true by decide)]
  · rw [if_neg (show ¬ bI true = 0 by decide), if_neg (show ¬ bI true = 0 by decide), if_pos rfl]
theorem stw_model {i : Nat} {g : Nat → Int32} {u : Bool} (h : i < 9216) : of_Md_turn g (nI i) u = some (stw g i u) := by
  have ni : ¬ (nI i < 0 ∨ 9216 ≤ i) := nbad h (by omega)
  unfold of_Md_turn of_Md_turn_b25 stw
  rw [nI_clamp (by omega)]
  simp only [if_neg ni]
  cases u
  · rw [if_pos (show bI false = 0 by decide), if_pos (show bI false = 0 by decide), if_neg (show ¬ false = true by decide)]
    by_cases h2 : g i ≤ (-64)
    · rw [if_pos h2, if_pos h2]
    · rw [if_neg h2, if_neg h2]
  · rw [if_neg (show ¬ bI true = 0 by decide), if_pos rfl]
    by_cases h2 : 63 ≤ g i
    · rw [if_pos h2, if_pos h2, if_neg (show ¬ bI true = 0 by decide)]
    · rw [if_neg h2, if_neg h2, if_neg (show ¬ bI true = 0 by decide)]
theorem stw_ag {n i : Nat} {f g : Nat → Int32} {u : Bool} (a : Ag n f g) (h : i < n) : Ag n (stw f i u) (stw g i u) := by
  unfold stw
  rw [a i h]
  cases u
  · rw [if_neg (show ¬ false = true by decide), if_neg (show ¬ false = true by decide)]
    by_cases h2 : g i ≤ (-64)
    · rw [if_pos h2, if_pos h2]; exact a
    · rw [if_neg h2, if_neg h2]; exact a.upd i _
  · rw [if_pos rfl, if_pos rfl]
    by_cases h2 : 63 ≤ g i
    · rw [if_pos h2, if_pos h2]; exact a
    · rw [if_neg h2, if_neg h2]; exact a.upd i _
/-- weights within bounds -/
def Wb (n : Nat) (f : Nat → Int32) : Prop := ∀ i, i < n → (-64) ≤ (f i).toInt ∧ (f i).toInt ≤ 63
theorem i_addT {x y : Int32} (h1 : -2147483648 ≤ x.toInt + y.toInt) (h2 : x.toInt + y.toInt < 2147483648) : (x + y).toInt = x.toInt + y.toInt := by
  rw [Int32.toInt_add]
  exact Int.bmod_eq_of_le (by omega) (by omega)
theorem i_subT {x y : Int32} (h1 : -2147483648 ≤ x.toInt - y.toInt) (h2 : x.toInt - y.toInt < 2147483648) : (x - y).toInt = x.toInt - y.toInt := by
  rw [Int32.toInt_sub]
  exact Int.bmod_eq_of_le (by omega) (by omega)
theorem i_negT {x : Int32} (h1 : -2147483648 < x.toInt) : (-x).toInt = -x.toInt := by
  have hx := Int32.toInt_lt x
  rw [Int32.toInt_neg]
  exact Int.bmod_eq_of_le (by omega) (by omega)
theorem stw_wb {n i : Nat} {f : Nat → Int32} {u : Bool} (w : Wb n f) (h : i < n) : Wb n (stw f i u) := by
  have hi := w i h
  have t1 : (1 : Int32).toInt = 1 := by decide
  have t63 : (63 : Int32).toInt = 63 := by decide
  have t64 : (-64 : Int32).toInt = -64 := by decide
  unfold stw
  intro k hk
  cases u
  · rw [if_neg (show ¬ false = true by decide)]
    by_cases h2 : f i ≤ (-64)
    · rw [if_pos h2]; exact w k hk
    · rw [if_neg h2]
      rw [Int32.le_iff_toInt_le, t64] at h2
      by_cases e : k = i
      · subst e
        rw [pk_us, i_subT (by rw [t1]; omega) (by rw [t1]; omega), t1]
        omega
      · rw [pk_un e]; exact w k hk
  · rw [if_pos rfl]
    by_cases h2 : 63 ≤ f i
    · rw [if_pos h2]; exact w k hk
    · rw [if_neg h2]
      rw [Int32.le_iff_toInt_le, t63] at h2
      by_cases e : k = i
      · subst e
        rw [pk_us, i_addT (by rw [t1]; omega) (by rw [t1]; omega), t1]
        omega
      · rw [pk_un e]; exact w k hk
theorem tw_bd {n r : Nat} {f : Nat → Int32} {hs : Int32} (w : Wb n f) : ∀ k, r + k < n → k ≤ 8 → -(64 * ((k : Int) + 1)) ≤ (tw f r hs k).toInt ∧ (tw f r hs k).toInt ≤ 64 * ((k : Int) + 1) := by
  intro k
  induction k with
  | zero =>
    intro h _
    have := w r (by omega)
    show -(64 * ((0 : Nat) + 1 : Int)) ≤ (f r).toInt ∧ (f r).toInt ≤ 64 * ((0 : Nat) + 1 : Int)
    omega
  | succ k ih =>
    intro h h8
    have hi := ih (by omega) (by omega)
    have hw := w (r + k + 1) (by omega)
    show -(64 * (((k + 1 : Nat) : Int) + 1)) ≤ (if us hs (nI k) &&& 1 = 1 then tw f r hs k + f (r + k + 1) else tw f r hs k + (-(f (r + k + 1)))).toInt ∧ (if us hs (nI k) &&& 1 = 1 then tw f r hs k + f (r + k + 1) else tw f r hs k + (-(f (r + k + 1)))).toInt ≤ 64 * (((k + 1 : Nat) : Int) + 1)
    by_cases c : us hs (nI k) &&& 1 = 1
    · rw [if_pos c, i_addT (by omega) (by omega)]
      omega
    · have hneg : (-(f (r + k + 1))).toInt = -(f (r + k + 1)).toInt := i_negT (by omega)
      rw [if_neg c, i_addT (by rw [hneg]; omega) (by rw [hneg]; omega), hneg]
      omega
def bt1 (hs : Int32) (k : Nat) : Bool := decide (us hs (nI k) &&& 1 = 1)
theorem bt1_class (hs : Int32) (k : Nat) : tf_PK_bitOf hs (nI k) = bt1 hs k := by
  unfold tf_PK_bitOf bt1
  by_cases h : us hs (nI k) &&& 1 = 1
  · rw [if_pos h]; exact (decide_eq_true h).symm
  · rw [if_neg h]; exact (decide_eq_false h).symm
def sk (f : Nat → Int32) (r : Nat) (hs : Int32) (tk : Bool) : Nat → (Nat → Int32)
  | 0 => f
  | k + 1 => stw (sk f r hs tk k) (r + k + 1) (bt1 hs k == tk)
theorem sk_class {n1 j : Nat} {f : Nat → Int32} {zs mk pl hs : Int32} {tk : Bool} (e2 : tf_Sums_plainRow zs mk pl = nI j) (hn : 9 * j + 8 < n1) (hb : n1 < 2147483648) : ∀ (d k n : Nat), 8 = k + d → d < n → of_Sums_learn_b68 n zs mk n1 pl hs tk (nI k) (sk f (9 * j) hs tk k) = some (sk f (9 * j) hs tk 8) := by
  intro d
  induction d with
  | zero =>
    intro k n e hn2
    obtain ⟨n, rfl⟩ : ∃ q, n = q + 1 := ⟨n - 1, by omega⟩
    obtain rfl : k = 8 := by omega
    unfold of_Sums_learn_b68
    rw [if_pos (by decide)]
  | succ d ih =>
    intro k n e hn2
    obtain ⟨n, rfl⟩ : ∃ q, n = q + 1 := ⟨n - 1, by omega⟩
    have hi := ih (k + 1) n (by omega) (by omega)
    unfold of_Sums_learn_b68 tf_Sums_firstWeight
    rw [if_neg (show ¬ (8 : Int32) ≤ nI k from nI_ge (a := k) (b := 8) (by omega) (by omega)), e2, wix, stw_class (by omega) hb, stw_class (by omega) hb, bt1_class, nI_1]
    have e3 : sk f (9 * j) hs tk (k + 1) = stw (sk f (9 * j) hs tk k) (9 * j + k + 1) (bt1 hs k == tk) := rfl
    rw [e3] at hi
    cases hb1 : bt1 hs k <;> cases tk <;> rw [hb1] at hi <;> exact hi
theorem sk_model {j : Nat} {g : Nat → Int32} {zs rw pl hs : Int32} {tk : Bool} (e1 : tf_Md_plainRow zs rw pl = nI j) (hn : 9 * j + 8 < 9216) : ∀ (d k n : Nat), 8 = k + d → d < n → of_Md_learnSums_b57 n zs rw pl hs tk (nI k) (sk g (9 * j) hs tk k) = some (sk g (9 * j) hs tk 8) := by
  intro d
  induction d with
  | zero =>
    intro k n e hn2
    obtain ⟨n, rfl⟩ : ∃ q, n = q + 1 := ⟨n - 1, by omega⟩
    obtain rfl : k = 8 := by omega
    unfold of_Md_learnSums_b57
    rw [if_pos (by decide)]
  | succ d ih =>
    intro k n e hn2
    obtain ⟨n, rfl⟩ : ∃ q, n = q + 1 := ⟨n - 1, by omega⟩
    have hi := ih (k + 1) n (by omega) (by omega)
    unfold of_Md_learnSums_b57
    rw [if_neg (show ¬ (8 : Int32) ≤ nI k from nI_ge (a := k) (b := 8) (by omega) (by omega)), e1, wix, stw_model (by omega), stw_model (by omega), nI_1]
    have e3 : sk g (9 * j) hs tk (k + 1) = stw (sk g (9 * j) hs tk k) (9 * j + k + 1) (bt1 hs k == tk) := rfl
    rw [e3] at hi
    by_cases h : us hs (nI k) &&& 1 = 1
    · have hb1 : bt1 hs k = true := decide_eq_true h
      rw [hb1] at hi
      rw [if_pos h]
      cases tk <;> exact hi
    · have hb1 : bt1 hs k = false := decide_eq_false h
      rw [hb1] at hi
      rw [if_neg h]
      cases tk <;> exact hi
theorem sk_ag {n r : Nat} {f g : Nat → Int32} {hs : Int32} {tk : Bool} (a : Ag n f g) (w : Wb n f) : ∀ k, r + k < n → Ag n (sk f r hs tk k) (sk g r hs tk k) ∧ Wb n (sk f r hs tk k) := by
  intro k
  induction k with
  | zero => intro _; exact ⟨a, w⟩
  | succ k ih =>
    intro h
    obtain ⟨b1, b2⟩ := ih (by omega)
    exact ⟨stw_ag b1 (by omega), stw_wb b2 (by omega)⟩
set_option maxRecDepth 100000 in
theorem learn_7 {S : Nat} {zs rw mk : Int32} {n1 : Nat} {f g : Nat → Int32} (hz : Sz S zs rw mk) (hn : n1 = 9 * 2 ^ S) (a : Ag (9 * 2 ^ S) f g) (w : Wb (9 * 2 ^ S) f) (pl hs : Int32) (tk : Bool) : ∃ f' g', of_Sums_learn zs mk n1 f pl hs tk = some f' ∧ of_Md_learn_7 zs rw g pl hs tk = some g' ∧ Ag (9 * 2 ^ S) f' g' ∧ Wb (9 * 2 ^ S) f' := by
  obtain ⟨hS, rfl, rfl, rfl⟩ := hz
  have hp := Sz_pow hS
  obtain ⟨j, hj, e⟩ := row_ex hS (pl ^^^ us pl (nI S))
  have e1 : tf_Md_plainRow (nI S) (nI (2 ^ S)) pl = nI j := e
  have e2 : tf_Sums_plainRow (nI S) (nI (2 ^ S) - 1) pl = nI j := e
  have m1 := number_7 (f := f) (hs := hs) hS hn hj e2
  have m2 := total_7 (g := g) (hs := hs) hS hj e1
  rw [← tw_ag (hs := hs) a 8 (by omega)] at m2
  have bd := tw_bd (hs := hs) (r := 9 * j) w 8 (by omega) (by omega)
  generalize tw f (9 * j) hs 8 = z at m1 m2 bd
  have k1 : of_Sums_learn_b44 (nI S) (nI (2 ^ S) - 1) n1 f pl hs tk = some (sk (stw f (9 * j) tk) (9 * j) hs tk 8) := by
    have h0 := sk_class (f := stw f (9 * j) tk) (hs := hs) (tk := tk) (n1 := n1) e2 (by omega) (by omega) 8 0 4096 (by omega) (by omega)
    unfold of_Sums_learn_b44 tf_Sums_firstWeight
    rw [e2, show (9 : Int32) * nI j = nI (9 * j) from pk_mul 9 j, stw_class (by omega) (by omega)]
    exact h0
  have k2 : of_Md_learnSums_b37 (nI S) (nI (2 ^ S)) g pl hs tk = some (sk (stw g (9 * j) tk) (9 * j) hs tk 8) := by
    have h0 := sk_model (g := stw g (9 * j) tk) (hs := hs) (tk := tk) e1 (by omega) 8 0 4096 (by omega) (by omega)
    unfold of_Md_learnSums_b37
    rw [e1, show (9 : Int32) * nI j = nI (9 * j) from pk_mul 9 j, stw_model (by omega)]
    exact h0
  have ka := sk_ag (r := 9 * j) (hs := hs) (tk := tk) (stw_ag (u := tk) a (show 9 * j < 9 * 2 ^ S by omega)) (stw_wb (u := tk) w (show 9 * j < 9 * 2 ^ S by omega)) 8 (by omega)
  have t29 : (29 : Int32).toInt = 29 := by decide
  have tm29 : (-29 : Int32).toInt = -29 := by decide
  have t0 : (0 : Int32).toInt = 0 := by decide
  have hab : (29 < (if 0 ≤ z then z else 0 - z)) ↔ (29 < z ∨ ¬ (-29) ≤ z) := by
    by_cases hz0 : 0 ≤ z
    · rw [if_pos hz0, Int32.lt_iff_toInt_lt, Int32.le_iff_toInt_le, t29, tm29]
      rw [Int32.le_iff_toInt_le, t0] at hz0
      omega
    · rw [if_neg hz0, Int32.lt_iff_toInt_lt, Int32.lt_iff_toInt_lt, Int32.le_iff_toInt_le, t29, tm29]
      rw [Int32.le_iff_toInt_le, t0] at hz0
      rw [i_subT (by rw [t0]; omega) (by rw [t0]; omega), t0]
      omega
  have z1 : bI false = 0 := rfl
  have z2 : ¬ bI true = 0 := by decide
  have z3 : ¬ bI false = bI true := by decide
  have z4 : ¬ bI true = bI false := by decide
  by_cases hz0 : z < 0
  · cases tk
    · by_cases hr : 29 < z ∨ ¬ (-29) ≤ z
      · refine ⟨f, g, ?_, ?_, a, w⟩
        · unfold of_Sums_learn of_Sums_learn_b18 of_Sums_learn_b27
          rw [m1]
          show (if z < 0 then _ else _) = _
          rw [if_pos hz0, if_pos rfl, if_pos z1, if_pos (hab.mpr hr)]
        · unfold of_Md_learn_7 of_Md_learnSums of_Md_learnSums_b18 of_Md_learnSums_b36
          rw [m2]
          show ((if z < 0 then _ else _) : Option (Nat → Int32)).bind _ = _
          rw [if_pos hz0, if_pos rfl]
          rcases hr with q | q
          · rw [if_pos q]; rfl
          · by_cases q2 : 29 < z
            · rw [if_pos q2]; rfl
            · rw [if_neg q2, if_neg q]; rfl
      · refine ⟨_, _, ?_, ?_, ka.1, ka.2⟩
        · unfold of_Sums_learn of_Sums_learn_b18 of_Sums_learn_b27
          rw [m1]
          show (if z < 0 then _ else _) = _
          rw [if_pos hz0, if_pos rfl, if_pos z1, if_neg (fun q => hr (hab.mp q))]
          exact k1
        · unfold of_Md_learn_7 of_Md_learnSums of_Md_learnSums_b18
          rw [m2]
          show ((if z < 0 then _ else _) : Option (Nat → Int32)).bind _ = _
          rw [if_pos hz0, if_pos rfl, if_neg (fun q => hr (Or.inl q)), if_pos (Decidable.byContradiction fun q => hr (Or.inr q)), k2]
          rfl
    · refine ⟨_, _, ?_, ?_, ka.1, ka.2⟩
      · unfold of_Sums_learn of_Sums_learn_b18 of_Sums_learn_b27
        rw [m1]
        show (if z < 0 then _ else _) = _
        rw [if_pos hz0, if_neg z3, if_neg z2]
        exact k1
      · unfold of_Md_learn_7 of_Md_learnSums of_Md_learnSums_b18
        rw [m2]
        show ((if z < 0 then _ else _) : Option (Nat → Int32)).bind _ = _
        rw [if_pos hz0, if_neg z3, k2]
        rfl
  · cases tk
    · refine ⟨_, _, ?_, ?_, ka.1, ka.2⟩
      · unfold of_Sums_learn of_Sums_learn_b18 of_Sums_learn_b27
        rw [m1]
        show (if z < 0 then _ else _) = _
        rw [if_neg hz0, if_neg z4, if_neg z2]
        exact k1
      · unfold of_Md_learn_7 of_Md_learnSums of_Md_learnSums_b18
        rw [m2]
        show ((if z < 0 then _ else _) : Option (Nat → Int32)).bind _ = _
        rw [if_neg hz0, if_neg z4, k2]
        rfl
    · by_cases hr : 29 < z ∨ ¬ (-29) ≤ z
      · refine ⟨f, g, ?_, ?_, a, w⟩
        · unfold of_Sums_learn of_Sums_learn_b18 of_Sums_learn_b27
          rw [m1]
          show (if z < 0 then _ else _) = _
          rw [if_neg hz0, if_pos rfl, if_pos z1, if_pos (hab.mpr hr)]
        · unfold of_Md_learn_7 of_Md_learnSums of_Md_learnSums_b18 of_Md_learnSums_b36
          rw [m2]
          show ((if z < 0 then _ else _) : Option (Nat → Int32)).bind _ = _
          rw [if_neg hz0, if_pos rfl]
          rcases hr with q | q
          · rw [if_pos q]; rfl
          · by_cases q2 : 29 < z
            · rw [if_pos q2]; rfl
            · rw [if_neg q2, if_neg q]; rfl
      · refine ⟨_, _, ?_, ?_, ka.1, ka.2⟩
        · unfold of_Sums_learn of_Sums_learn_b18 of_Sums_learn_b27
          rw [m1]
          show (if z < 0 then _ else _) = _
          rw [if_neg hz0, if_pos rfl, if_pos z1, if_neg (fun q => hr (hab.mp q))]
          exact k1
        · unfold of_Md_learn_7 of_Md_learnSums of_Md_learnSums_b18
          rw [m2]
          show ((if z < 0 then _ else _) : Option (Nat → Int32)).bind _ = _
          rw [if_neg hz0, if_pos rfl, if_neg (fun q => hr (Or.inl q)), if_pos (Decidable.byContradiction fun q => hr (Or.inr q)), k2]
          rfl
