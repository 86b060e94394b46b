/-! KIND 6: a row is claimed -/
set_option maxHeartbeats 1000000 in
theorem claim_lp {S : Nat} {zs rw mk pl hs : Int32} {q T : Nat → Nat} {n1 n2 n3 : Nat} {f1 f2 f3 g1 g2 g3 : Nat → Int32} {tk : Bool} (hS : 1 ≤ S ∧ S ≤ 10) (hn1 : n1 = 3 * 2 ^ S) (hn2 : n2 = 3 * 2 ^ S) (hn3 : n3 = 3 * 2 ^ S) (hc : Cel S zs rw mk pl hs q T) (a1 : A3 S f1 g1) (a2 : A3 S f2 g2) (a3 : A3 S f3 g3) (u3 : U3 S f3) (s3 : S3 S f2) (s : Nat) (hs3 : s ≤ 3) :
    ∀ (d t n n' : Nat), 3 = t + d → d < n → d < n' → s ≤ t → (∀ u, s ≤ u → u < t → ¬ f3 (u * 2 ^ S + q u) = 0) → ∃ f1' f2' f3' g1' g2' g3', of_Tagged_claim_b3 n zs rw mk n1 f1 n2 f2 n3 f3 (nI s) pl hs tk (nI t) = some (f1', f2', f3') ∧ of_Md_allot_b3 n' zs rw g1 g2 g3 (nI s) pl hs tk (nI t) = some (g1', g2', g3') ∧ A3 S f1' g1' ∧ A3 S f2' g2' ∧ A3 S f3' g3' ∧ U3 S f3' ∧ S3 S f2' := by
  have hp := Sz_pow hS
  intro d
  induction d with
  | zero =>
    intro t n n' e hn hn' hst hne
    obtain ⟨n, rfl⟩ : ∃ q, n = q + 1 := ⟨n - 1, by omega⟩
    obtain ⟨n', rfl⟩ : ∃ q, n' = q + 1 := ⟨n' - 1, by omega⟩
    obtain rfl : t = 3 := by omega
    obtain ⟨w', v', k1, k2, k3, k4⟩ := down_both (f1 := f1) (f2 := f2) (g1 := g1) (g2 := g2) hS hn3 hc (3 - s) s 4096 4096 f3 g3 (by omega) (by omega) (by omega) a3 u3 hne
    refine ⟨f1, f2, w', g1, g2, v', ?_, ?_, a1, a2, k3, k4, s3⟩
    · unfold of_Tagged_claim_b3
      rw [if_pos (by decide)]
      exact k1
    · unfold of_Md_allot_b3 of_Md_allot_b31
      rw [if_pos (by decide), if_pos (by decide)]
      exact k2
  | succ d ih =>
    intro t n n' e hn hn' hst hne
    obtain ⟨n, rfl⟩ : ∃ q, n = q + 1 := ⟨n - 1, by omega⟩
    obtain ⟨n', rfl⟩ : ∃ q, n' = q + 1 := ⟨n' - 1, by omega⟩
    obtain ⟨c1, c2, c3, c4, c5⟩ := hc t (by omega)
    have h3t : ¬ (3 : Int32) ≤ nI t := nI_ge (a := t) (b := 3) (by omega) (by omega)
    have hin : t * 2 ^ S + q t < 3 * 2 ^ S := ix_in (by omega) c1
    have hnm : ¬ (nI (1024 * t + q t) < 0 ∨ 3072 ≤ 1024 * t + q t) := nbad (by omega) (by omega)
    have hkm : (nI (1024 * t + q t)).toNatClampNeg = 1024 * t + q t := nI_clamp (by omega)
    by_cases hz : f3 (t * 2 ^ S + q t) = 0
    · have hg0 : g3 (1024 * t + q t) ≤ 0 := by rw [← a3 t (by omega) (q t) c1, hz]; decide
      refine ⟨upd f1 (t * 2 ^ S + q t) (nI (T t)), upd f2 (t * 2 ^ S + q t) (if bI tk = 0 then -1 else 0), f3, upd g1 (1024 * t + q t) (nI (T t)), upd g2 (1024 * t + q t) (if bI tk = 0 then -1 else 0), g3, ?_, ?_, a1.upd hp.2 (by omega) c1 _, a2.upd hp.2 (by omega) c1 _, a3, u3, s3.upd (by omega) c1 (by cases tk <;> decide)⟩
      · unfold of_Tagged_claim_b3
        rw [if_neg h3t, c2]
        show (if tf_PK_at n3 f3 (nI (t * 2 ^ S + q t)) = 0 then _ else _) = _
        subst hn1; subst hn2; subst hn3
        rw [at_in hin (by omega), if_pos hz, c4]
        show (if bI tk = 0 then some (tf_PK_put (3 * 2 ^ S) f1 (nI (t * 2 ^ S + q t)) (nI (T t)), tf_PK_put (3 * 2 ^ S) f2 (nI (t * 2 ^ S + q t)) (-1), f3) else some (tf_PK_put (3 * 2 ^ S) f1 (nI (t * 2 ^ S + q t)) (nI (T t)), tf_PK_put (3 * 2 ^ S) f2 (nI (t * 2 ^ S + q t)) 0, f3)) = _
        rw [put_in hin (by omega), put_in hin (by omega), put_in hin (by omega)]
        cases tk <;> rfl
      · unfold of_Md_allot_b3 of_Md_allot_b31 of_Md_allot_b79
        rw [if_neg h3t, if_neg h3t, c3, c5]
        show (if nI (1024 * t + q t) < 0 ∨ 3072 ≤ (nI (1024 * t + q t)).toNatClampNeg then none else (if g3 (nI (1024 * t + q t)).toNatClampNeg ≤ 0 then (if nI (1024 * t + q t) < 0 ∨ 3072 ≤ (nI (1024 * t + q t)).toNatClampNeg then none else (if bI tk = 0 then (if nI (1024 * t + q t) < 0 ∨ 3072 ≤ (nI (1024 * t + q t)).toNatClampNeg then none else some (upd g1 (nI (1024 * t + q t)).toNatClampNeg (nI (T t)), upd g2 (nI (1024 * t + q t)).toNatClampNeg (-1), g3)) else (if nI (1024 * t + q t) < 0 ∨ 3072 ≤ (nI (1024 * t + q t)).toNatClampNeg then none else some (upd g1 (nI (1024 * t + q t)).toNatClampNeg (nI (T t)), upd g2 (nI (1024 * t + q t)).toNatClampNeg 0, g3)))) else _)) = _
        rw [hkm]
        simp only [if_neg hnm, if_pos hg0]
        cases tk <;> rfl
    · have hg0 : ¬ g3 (1024 * t + q t) ≤ 0 := by
        have hr := u3 t (by omega) (q t) c1
        rw [← a3 t (by omega) (q t) c1]
        rcases i4 hr with z | z | z | z
        · exact absurd z hz
        · rw [z]; decide
        · rw [z]; decide
        · rw [z]; decide
      obtain ⟨x1, x2, x3, y1, y2, y3, k1, k2, k3⟩ := ih (t + 1) n n' (by omega) (by omega) (by omega) (by omega) (fun u h1 h2 => by
        by_cases eu : u = t
        · subst eu; exact hz
        · exact hne u h1 (by omega))
      refine ⟨x1, x2, x3, y1, y2, y3, ?_, ?_, k3⟩
      · unfold of_Tagged_claim_b3
        rw [if_neg h3t, c2]
        show (if tf_PK_at n3 f3 (nI (t * 2 ^ S + q t)) = 0 then _ else of_Tagged_claim_b3 n zs rw mk n1 f1 n2 f2 n3 f3 (nI s) pl hs tk (nI t + 1)) = _
        have hat : tf_PK_at n3 f3 (nI (t * 2 ^ S + q t)) = f3 (t * 2 ^ S + q t) := by subst hn3; exact at_in hin (by omega)
        rw [hat, if_neg hz, nI_1]
        exact k1
      · unfold of_Md_allot_b3
        rw [if_neg h3t, c3]
        show (if nI (1024 * t + q t) < 0 ∨ 3072 ≤ (nI (1024 * t + q t)).toNatClampNeg then none else (if g3 (nI (1024 * t + q t)).toNatClampNeg ≤ 0 then _ else of_Md_allot_b3 n' zs rw g1 g2 g3 (nI s) pl hs tk (nI t + 1))) = _
        rw [hkm, if_neg hnm, if_neg hg0, nI_1]
        exact k2
theorem claim_both {S : Nat} {zs rw mk pl hs : Int32} {q T : Nat → Nat} {n1 n2 n3 : Nat} {f1 f2 f3 g1 g2 g3 : Nat → Int32} {tk : Bool} (hS : 1 ≤ S ∧ S ≤ 10) (hn1 : n1 = 3 * 2 ^ S) (hn2 : n2 = 3 * 2 ^ S) (hn3 : n3 = 3 * 2 ^ S) (hc : Cel S zs rw mk pl hs q T) (a1 : A3 S f1 g1) (a2 : A3 S f2 g2) (a3 : A3 S f3 g3) (u3 : U3 S f3) (s3 : S3 S f2) {s : Nat} (hs3 : s ≤ 3) : ∃ f1' f2' f3' g1' g2' g3', of_Tagged_claim zs rw mk n1 f1 n2 f2 n3 f3 (nI s) pl hs tk = some (f1', f2', f3') ∧ of_Md_allot zs rw g1 g2 g3 (nI s) pl hs tk = some (g1', g2', g3') ∧ A3 S f1' g1' ∧ A3 S f2' g2' ∧ A3 S f3' g3' ∧ U3 S f3' ∧ S3 S f2' :=
  claim_lp hS hn1 hn2 hn3 hc a1 a2 a3 u3 s3 s hs3 (3 - s) s 4096 4096 (by omega) (by omega) (by omega) (Nat.le_refl s) (fun u h1 h2 => absurd h2 (by omega))
