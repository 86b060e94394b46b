/-! KIND 6: which table hits -/
theorem t3 {t : Nat} (h : t < 3) : t = 0 ∨ t = 1 ∨ t = 2 := by omega
/-- the row of a place in table t, and its tag -/
theorem cell_both {S : Nat} {zs rw mk : Int32} (hz : Sz S zs rw mk) (pl hs : Int32) {t : Nat} (ht : t < 3) : ∃ q T : Nat, q < 2 ^ S ∧ of_Tagged_cellOf zs rw mk (nI t) pl hs = some (nI (t * 2 ^ S + q)) ∧ of_Md_taggedRow zs rw (nI t) pl hs = some (nI (1024 * t + q)) ∧ of_Tagged_tagOf (nI t) pl hs = some (nI T) ∧ of_Md_tagOf (nI t) pl hs = some (nI T) := by
  obtain ⟨hS, rfl, rfl, rfl⟩ := hz
  have hp := Sz_pow hS
  obtain ⟨h, h2, h16, ec, em⟩ : ∃ h : Nat, 2 ≤ h ∧ h ≤ 16 ∧ ((4 : Int32) <<< (nI t &&& 31)) = nI h ∧ tf_Md_span (nI t) = nI h := by
    rcases t3 ht with rfl | rfl | rfl
    · exact ⟨4, by decide, by decide, by decide, by decide⟩
    · exact ⟨8, by decide, by decide, by decide, by decide⟩
    · exact ⟨16, by decide, by decide, by decide, by decide⟩
  obtain ⟨F, f1, f2⟩ := folded_both (h := h) (b := S) hs h2 h16 (by omega) (by omega)
  obtain ⟨G, g1, g2⟩ := folded_both (h := h) (b := 8) hs h2 h16 (by omega) (by omega)
  obtain ⟨q, hq, eq⟩ := row_ex hS ((pl ^^^ nI F) ^^^ (nI t + 1))
  obtain ⟨T, hT, eT⟩ := pk_andE (((us pl 2) ^^^ nI G) ^^^ (7 * nI t)) (m := 255) 8 rfl
  refine ⟨q, T, hq, ?_, ?_, ?_, ?_⟩
  · unfold of_Tagged_cellOf
    rw [ec, f1]
    show some (nI t * nI (2 ^ S) + (((pl ^^^ nI F) ^^^ (nI t + 1)) &&& (nI (2 ^ S) - 1))) = _
    rw [eq, pk_mul, nI_add]
  · unfold of_Md_taggedRow tf_Md_low
    rw [em, f2]
    show some (1024 * nI t + (((pl ^^^ nI F) ^^^ (nI t + 1)) &&& (nI (2 ^ S) - 1))) = _
    rw [eq, show (1024 : Int32) * nI t = nI (1024 * t) from pk_mul 1024 t, nI_add]
  · unfold of_Tagged_tagOf
    have g1' : of_PK_folded hs (nI h) 8 = some (nI G) := g1
    rw [ec, g1']
    show some ((((us pl 2) ^^^ nI G) ^^^ (7 * nI t)) &&& 255) = _
    rw [eT]
  · unfold of_Md_tagOf
    have g2' : of_Md_folded hs (nI h) 8 = some (nI G) := g2
    rw [em, g2']
    show some ((((us pl 2) ^^^ nI G) ^^^ (7 * nI t)) &&& 255) = _
    rw [eT]
/-- rows and tags of the three tables, as functions -/
def Cel (S : Nat) (zs rw mk pl hs : Int32) (q T : Nat → Nat) : Prop := ∀ t, t < 3 → q t < 2 ^ S ∧ of_Tagged_cellOf zs rw mk (nI t) pl hs = some (nI (t * 2 ^ S + q t)) ∧ of_Md_taggedRow zs rw (nI t) pl hs = some (nI (1024 * t + q t)) ∧ of_Tagged_tagOf (nI t) pl hs = some (nI (T t)) ∧ of_Md_tagOf (nI t) pl hs = some (nI (T t))
theorem Cel_ex {S : Nat} {zs rw mk : Int32} (hz : Sz S zs rw mk) (pl hs : Int32) : ∃ q T, Cel S zs rw mk pl hs q T := by
  obtain ⟨q0, T0, h0⟩ := cell_both hz pl hs (t := 0) (by decide)
  obtain ⟨q1, T1, h1⟩ := cell_both hz pl hs (t := 1) (by decide)
  obtain ⟨q2, T2, h2⟩ := cell_both hz pl hs (t := 2) (by decide)
  refine ⟨fun t => if t = 0 then q0 else if t = 1 then q1 else q2, fun t => if t = 0 then T0 else if t = 1 then T1 else T2, fun t ht => ?_⟩
  rcases t3 ht with rfl | rfl | rfl
  · exact h0
  · exact h1
  · exact h2
/-- the class's three tables in a row of 3 * 2 ^ S, the reference's of 1024 each -/
def A3 (S : Nat) (f g : Nat → Int32) : Prop := ∀ t, t < 3 → ∀ q, q < 2 ^ S → f (t * 2 ^ S + q) = g (1024 * t + q)
theorem ix_in {P t q : Nat} (ht : t < 3) (hq : q < P) : t * P + q < 3 * P := by
  rcases t3 ht with rfl | rfl | rfl <;> omega
theorem ix_inj {P t q u r : Nat} (ht : t < 3) (hu : u < 3) (hq : q < P) (hr : r < P) (e : t * P + q = u * P + r) : t = u ∧ q = r := by
  rcases t3 ht with rfl | rfl | rfl <;> rcases t3 hu with rfl | rfl | rfl <;> omega
theorem A3.upd {S : Nat} {f g : Nat → Int32} (h : A3 S f g) (hP : 2 ^ S ≤ 1024) {u r : Nat} (hu : u < 3) (hr : r < 2 ^ S) (x : Int32) : A3 S (upd f (u * 2 ^ S + r) x) (upd g (1024 * u + r) x) := by
  intro t ht q hq
  by_cases e : t = u ∧ q = r
  · obtain ⟨rfl, rfl⟩ := e
    rw [pk_us, pk_us]
  · rw [pk_un (fun z => e (ix_inj ht hu hq hr z)), pk_un (fun z => e ?_)]
    · exact h t ht q hq
    · exact ix_inj (P := 1024) ht hu (by omega) (by omega) (by omega)
/-- the last table below b that hits -/
def lh (hit : Nat → Bool) : Nat → Int32
  | 0 => -1
  | b + 1 => if hit b = true then nI b else lh hit b
def hitC (S : Nat) (f : Nat → Int32) (q T : Nat → Nat) (t : Nat) : Bool := decide (f (t * 2 ^ S + q t) = nI (T t))
theorem lh_class {S : Nat} {zs rw mk pl hs : Int32} {q T : Nat → Nat} {f : Nat → Int32} (hS : 1 ≤ S ∧ S ≤ 10) (hc : Cel S zs rw mk pl hs q T) : ∀ (b n : Nat), b ≤ 3 → b < n → of_Tagged_lastHit_b5 n zs rw mk (3 * 2 ^ S) f pl hs (nI b - 1) = some (lh (hitC S f q T) b) := by
  have hp := Sz_pow hS
  intro b
  induction b with
  | zero =>
    intro n _ hn
    obtain ⟨n, rfl⟩ : ∃ q, n = q + 1 := ⟨n - 1, by omega⟩
    unfold of_Tagged_lastHit_b5
    rw [if_pos (by decide)]
    rfl
  | succ b ih =>
    intro n hb hn
    obtain ⟨n, rfl⟩ : ∃ q, n = q + 1 := ⟨n - 1, by omega⟩
    have hi := ih n (by omega) (by omega)
    obtain ⟨c1, c2, -, c4, -⟩ := hc b (by omega)
    unfold of_Tagged_lastHit_b5
    rw [nI_pred, if_neg (nI_pos (by omega)), c2, c4]
    show (if tf_PK_at (3 * 2 ^ S) f (nI (b * 2 ^ S + q b)) = nI (T b) then some (nI b) else of_Tagged_lastHit_b5 n zs rw mk (3 * 2 ^ S) f pl hs (nI b + (-1))) = _
    rw [at_in (ix_in (by omega) c1) (by omega)]
    have em : nI b + (-1) = nI b - 1 := by
      rw [Int32.sub_eq_add_neg]
    rw [em, hi]
    show _ = some (if hitC S f q T b = true then nI b else lh (hitC S f q T) b)
    by_cases h : f (b * 2 ^ S + q b) = nI (T b)
    · rw [if_pos h, if_pos (show hitC S f q T b = true from decide_eq_true h)]
    · rw [if_neg h, if_neg (show ¬ hitC S f q T b = true from by unfold hitC; rw [decide_eq_false h]; decide)]
theorem lh_model {S : Nat} {zs rw mk pl hs : Int32} {q T : Nat → Nat} {f g : Nat → Int32} (hS : 1 ≤ S ∧ S ≤ 10) (hc : Cel S zs rw mk pl hs q T) (a : A3 S f g) : ∀ (d t b n : Nat), b = t + d → b ≤ 3 → d < n → of_Md_hitBefore_b6 n zs rw g (nI b) pl hs (lh (hitC S f q T) t) (nI t) = some (lh (hitC S f q T) b) := by
  have hp := Sz_pow hS
  intro d
  induction d with
  | zero =>
    intro t b n e hb hn
    obtain ⟨n, rfl⟩ : ∃ q, n = q + 1 := ⟨n - 1, by omega⟩
    obtain rfl : b = t := by omega
    unfold of_Md_hitBefore_b6
    rw [if_pos (nI_le (Nat.le_refl _) (by omega))]
  | succ d ih =>
    intro t b n e hb hn
    obtain ⟨n, rfl⟩ : ∃ q, n = q + 1 := ⟨n - 1, by omega⟩
    have hi := ih (t + 1) b n (by omega) hb (by omega)
    obtain ⟨c1, -, c3, -, c5⟩ := hc t (by omega)
    have hh : of_Md_hits zs rw g (nI t) pl hs = some (hitC S f q T t) := by
      unfold of_Md_hits
      rw [c3]
      show (if nI (1024 * t + q t) < 0 ∨ 3072 ≤ (nI (1024 * t + q t)).toNatClampNeg then none else _) = _
      rw [if_neg (nI_in (by omega) (by omega)), c5]
      show (if g (nI (1024 * t + q t)).toNatClampNeg = nI (T t) then some true else some false) = _
      rw [nI_clamp (by omega), ← a t (by omega) (q t) c1]
      unfold hitC
      by_cases h : f (t * 2 ^ S + q t) = nI (T t)
      · rw [if_pos h, decide_eq_true h]
      · rw [if_neg h, decide_eq_false h]
    unfold of_Md_hitBefore_b6
    rw [if_neg (nI_ge (by omega) (by omega)), hh]
    have e3 : lh (hitC S f q T) (t + 1) = if hitC S f q T t = true then nI t else lh (hitC S f q T) t := rfl
    rw [e3] at hi
    cases hb1 : hitC S f q T t
    · rw [hb1, if_neg (by decide)] at hi
      show (if bI false = 0 then of_Md_hitBefore_b6 n zs rw g (nI b) pl hs (lh (hitC S f q T) t) (nI t + 1) else of_Md_hitBefore_b6 n zs rw g (nI b) pl hs (nI t) (nI t + 1)) = _
      rw [if_pos (show bI false = 0 by decide), nI_1]
      exact hi
    · rw [hb1, if_pos rfl] at hi
      show (if bI true = 0 then of_Md_hitBefore_b6 n zs rw g (nI b) pl hs (lh (hitC S f q T) t) (nI t + 1) else of_Md_hitBefore_b6 n zs rw g (nI b) pl hs (nI t) (nI t + 1)) = _
      rw [if_neg (show ¬ bI true = 0 by decide), nI_1]
      exact hi
