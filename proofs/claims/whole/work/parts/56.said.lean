/-! KIND 6: what a table says -/
theorem lh_val {hit : Nat → Bool} : ∀ b, lh hit b = -1 ∨ ∃ t, t < b ∧ lh hit b = nI t := by
  intro b
  induction b with
  | zero => exact Or.inl rfl
  | succ b ih =>
    have e : lh hit (b + 1) = if hit b = true then nI b else lh hit b := rfl
    by_cases h : hit b = true
    · exact Or.inr ⟨b, by omega, by rw [e, if_pos h]⟩
    · rw [e, if_neg h]
      rcases ih with q | ⟨t, h1, h2⟩
      · exact Or.inl q
      · exact Or.inr ⟨t, by omega, h2⟩
theorem m1_neg : ¬ (0 : Int32) ≤ -1 := by decide
theorem m1_lt : (-1 : Int32) < 0 := by decide
theorem said_both {S : Nat} {zs rw mk pl hs : Int32} {q T : Nat → Nat} {n0 n2 : Nat} {f0 g0 f2 g2 : Nat → Int32} (hz : Sz S zs rw mk) (hn0 : n0 = 2 ^ S) (hn2 : n2 = 3 * 2 ^ S) (hc : Cel S zs rw mk pl hs q T) (a0 : Ag (2 ^ S) f0 g0) (a2 : A3 S f2 g2) {v : Int32} (hv : v = -1 ∨ ∃ t, t < 3 ∧ v = nI t) : ∃ c : Bool, of_Tagged_saidBy zs rw mk n0 f0 n2 f2 v pl hs = some c ∧ of_Md_saidBy zs rw g0 g2 v pl hs = some c := by
  have hS := hz.1
  have hp := Sz_pow hS
  rcases hv with rfl | ⟨t, ht, rfl⟩
  · have s2 := says_2 hz hn0 a0 pl hs
    unfold of_Md_says_2 of_Md_says_2_b93 at s2
    refine ⟨tf_Counters_says zs mk false n0 f0 pl hs, ?_, ?_⟩
    · unfold of_Tagged_saidBy
      rw [if_neg m1_neg]
    · unfold of_Md_saidBy
      rw [if_neg m1_neg]
      exact s2
  · obtain ⟨c1, c2, c3, -, -⟩ := hc t ht
    have h0 : (0 : Int32) ≤ nI t := nI_pos' (by omega)
    refine ⟨if g2 (1024 * t + q t) < 0 then false else true, ?_, ?_⟩
    · unfold of_Tagged_saidBy
      rw [if_pos h0, c2]
      show (if tf_PK_at n2 f2 (nI (t * 2 ^ S + q t)) < 0 then some false else some true) = _
      subst hn2
      rw [at_in (ix_in ht c1) (by omega), a2 t ht (q t) c1]
      by_cases h : g2 (1024 * t + q t) < 0
      · rw [if_pos h, if_pos h]
      · rw [if_neg h, if_neg h]
    · unfold of_Md_saidBy
      rw [if_pos h0, c3]
      show (if nI (1024 * t + q t) < 0 ∨ 3072 ≤ (nI (1024 * t + q t)).toNatClampNeg then none else _) = _
      rw [if_neg (nI_in (by omega) (by omega)), nI_clamp (by omega)]
      by_cases h : g2 (1024 * t + q t) < 0
      · rw [if_pos h, if_pos h]
      · rw [if_neg h, if_neg h]
theorem hit_both {S : Nat} {zs rw mk pl hs : Int32} {q T : Nat → Nat} {n1 : Nat} {f1 g1 : Nat → Int32} (hS : 1 ≤ S ∧ S ≤ 10) (hn1 : n1 = 3 * 2 ^ S) (hc : Cel S zs rw mk pl hs q T) (a1 : A3 S f1 g1) {b : Nat} (hb : b ≤ 3) : of_Tagged_lastHit zs rw mk n1 f1 pl hs (nI b) = some (lh (hitC S f1 q T) b) ∧ of_Md_hitBefore zs rw g1 (nI b) pl hs = some (lh (hitC S f1 q T) b) := by
  subst hn1
  refine ⟨?_, ?_⟩
  · exact lh_class hS hc b 4096 hb (by omega)
  · exact lh_model hS hc a1 b 0 b 4096 (by omega) hb (by omega)
theorem says_6 {S : Nat} {zs rw mk : Int32} {n0 n1 n2 : Nat} {f0 g0 f1 g1 f2 g2 : Nat → Int32} (hz : Sz S zs rw mk) (hn0 : n0 = 2 ^ S) (hn1 : n1 = 3 * 2 ^ S) (hn2 : n2 = 3 * 2 ^ S) (a0 : Ag (2 ^ S) f0 g0) (a1 : A3 S f1 g1) (a2 : A3 S f2 g2) (pl hs : Int32) : ∃ c : Bool, of_Tagged_says zs rw mk n0 f0 n1 f1 n2 f2 pl hs = some c ∧ of_Md_says_6 zs rw g0 g1 g2 pl hs = some c := by
  obtain ⟨q, T, hc⟩ := Cel_ex hz pl hs
  obtain ⟨h1, h2⟩ := hit_both hz.1 hn1 hc a1 (b := 3) (by decide)
  obtain ⟨c, s1, s2⟩ := said_both hz hn0 hn2 hc a0 a2 (v := lh (hitC S f1 q T) 3) (by rcases lh_val 3 with h | ⟨t, h, e⟩; exact Or.inl h; exact Or.inr ⟨t, h, e⟩)
  refine ⟨c, ?_, ?_⟩
  · unfold of_Tagged_says
    rw [show (3 : Int32) = nI 3 from rfl, h1]
    show (of_Tagged_saidBy zs rw mk n0 f0 n2 f2 (lh (hitC S f1 q T) 3) pl hs).bind _ = _
    rw [s1]
    rfl
  · unfold of_Md_says_6
    rw [show (3 : Int32) = nI 3 from rfl, h2]
    show (of_Md_saidBy zs rw g0 g2 (lh (hitC S f1 q T) 3) pl hs).bind _ = _
    rw [s2]
    rfl
/-- uses 0 .. 3 and sums -4 .. 3 in all three tables -/
def U3 (S : Nat) (f : Nat → Int32) : Prop := ∀ t, t < 3 → ∀ q, q < 2 ^ S → 0 ≤ f (t * 2 ^ S + q) ∧ f (t * 2 ^ S + q) ≤ 3
def S3 (S : Nat) (f : Nat → Int32) : Prop := ∀ t, t < 3 → ∀ q, q < 2 ^ S → -4 ≤ f (t * 2 ^ S + q) ∧ f (t * 2 ^ S + q) ≤ 3
theorem U3.upd {S : Nat} {f : Nat → Int32} (h : U3 S f) {u r : Nat} (hu : u < 3) (hr : r < 2 ^ S) {x : Int32} (hx : 0 ≤ x ∧ x ≤ 3) : U3 S (upd f (u * 2 ^ S + r) x) := by
  intro t ht q hq
  by_cases e : t = u ∧ q = r
  · obtain ⟨rfl, rfl⟩ := e
    rw [pk_us]; exact hx
  · rw [pk_un (fun z => e (ix_inj ht hu hq hr z))]
    exact h t ht q hq
theorem S3.upd {S : Nat} {f : Nat → Int32} (h : S3 S f) {u r : Nat} (hu : u < 3) (hr : r < 2 ^ S) {x : Int32} (hx : -4 ≤ x ∧ x ≤ 3) : S3 S (upd f (u * 2 ^ S + r) x) := by
  intro t ht q hq
  by_cases e : t = u ∧ q = r
  · obtain ⟨rfl, rfl⟩ := e
    rw [pk_us]; exact hx
  · rw [pk_un (fun z => e (ix_inj ht hu hq hr z))]
    exact h t ht q hq
/-- all uses from table u on go down by one: both do it alike -/
theorem down_both {S : Nat} {zs rw mk pl hs : Int32} {q T : Nat → Nat} {n3 : Nat} {f1 f2 g1 g2 : Nat → Int32} (hS : 1 ≤ S ∧ S ≤ 10) (hn3 : n3 = 3 * 2 ^ S) (hc : Cel S zs rw mk pl hs q T) : ∀ (d u n n' : Nat) (w v : Nat → Int32), 3 = u + d → d < n → d < n' → A3 S w v → U3 S w → (∀ t, u ≤ t → t < 3 → ¬ w (t * 2 ^ S + q t) = 0) → ∃ w' v', of_Tagged_claim_b77 n zs rw mk f1 f2 n3 pl hs (nI u) w = some (f1, f2, w') ∧ of_Md_allot_b86 n' zs rw g1 g2 pl hs (nI u) v = some (g1, g2, v') ∧ A3 S w' v' ∧ U3 S w' := by
  have hp := Sz_pow hS
  intro d
  induction d with
  | zero =>
    intro u n n' w v e hn hn' a hu _
    obtain ⟨n, rfl⟩ : ∃ q, n = q + 1 := ⟨n - 1, by omega⟩
    obtain ⟨n', rfl⟩ : ∃ q, n' = q + 1 := ⟨n' - 1, by omega⟩
    obtain rfl : u = 3 := by omega
    refine ⟨w, v, ?_, ?_, a, hu⟩
    · unfold of_Tagged_claim_b77
      rw [if_pos (by decide)]
    · unfold of_Md_allot_b86
      rw [if_pos (by decide)]
  | succ d ih =>
    intro u n n' w v e hn hn' a hu hne
    obtain ⟨n, rfl⟩ : ∃ q, n = q + 1 := ⟨n - 1, by omega⟩
    obtain ⟨n', rfl⟩ : ∃ q, n' = q + 1 := ⟨n' - 1, by omega⟩
    obtain ⟨c1, c2, c3, -, -⟩ := hc u (by omega)
    have hr := hu u (by omega) (q u) c1
    have h0 := hne u (Nat.le_refl u) (by omega)
    have st : tf_PK_step n3 w (nI (u * 2 ^ S + q u)) false 0 3 = upd w (u * 2 ^ S + q u) (w (u * 2 ^ S + q u) - 1) := by
      subst hn3
      have e1 := step_in (u := false) (f := w) (ix_in (P := 2 ^ S) (t := u) (by omega) c1) (show 3 * 2 ^ S < 2147483648 by omega) hr
      have e2 : tf_Md_step (w (u * 2 ^ S + q u)) false = w (u * 2 ^ S + q u) - 1 := by
        rcases i4 hr with z | z | z | z
        · exact absurd z h0
        · rw [z]; rfl
        · rw [z]; rfl
        · rw [z]; rfl
      rw [e2] at e1
      exact e1
    have hx : 0 ≤ w (u * 2 ^ S + q u) - 1 ∧ w (u * 2 ^ S + q u) - 1 ≤ 3 := by
      rcases i4 hr with z | z | z | z
      · exact absurd z h0
      · rw [z]; decide
      · rw [z]; decide
      · rw [z]; decide
    obtain ⟨w', v', k1, k2, k3, k4⟩ := ih (u + 1) n n' (upd w (u * 2 ^ S + q u) (w (u * 2 ^ S + q u) - 1)) (upd v (1024 * u + q u) (w (u * 2 ^ S + q u) - 1)) (by omega) (by omega) (by omega) (a.upd hp.2 (by omega) c1 _) (hu.upd (by omega) c1 hx) (fun t h1 h2 => by
      obtain ⟨b1, -⟩ := hc t h2
      rw [pk_un (fun z => by have := (ix_inj h2 (by omega) b1 c1 z).1; omega)]
      exact hne t (by omega) h2)
    refine ⟨w', v', ?_, ?_, k3, k4⟩
    · unfold of_Tagged_claim_b77
      rw [if_neg (show ¬ (3 : Int32) ≤ nI u from nI_ge (a := u) (b := 3) (by omega) (by omega)), c2]
      show of_Tagged_claim_b77 n zs rw mk f1 f2 n3 pl hs (nI u + 1) (tf_PK_step n3 w (nI (u * 2 ^ S + q u)) false 0 3) = _
      rw [st, nI_1]
      exact k1
    · unfold of_Md_allot_b86
      rw [if_neg (show ¬ (3 : Int32) ≤ nI u from nI_ge (a := u) (b := 3) (by omega) (by omega)), c3]
      show (if nI (1024 * u + q u) < 0 ∨ 3072 ≤ (nI (1024 * u + q u)).toNatClampNeg then none else (if nI (1024 * u + q u) < 0 ∨ 3072 ≤ (nI (1024 * u + q u)).toNatClampNeg then none else of_Md_allot_b86 n' zs rw g1 g2 pl hs (nI u + 1) (upd v (nI (1024 * u + q u)).toNatClampNeg (v (nI (1024 * u + q u)).toNatClampNeg - 1)))) = _
      rw [if_neg (nI_in (by omega) (by omega)), if_neg (nI_in (by omega) (by omega)), nI_clamp (by omega), nI_1, ← a u (by omega) (q u) c1]
      exact k2
