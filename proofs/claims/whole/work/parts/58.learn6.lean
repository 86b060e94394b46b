/-! KIND 6: it learns -/
def sst (v : Int32) (tk : Bool) : Int32 := if tk = true then (if 3 ≤ v then 3 else v + 1) else (if v ≤ (-4) then (-4) else v - 1)
theorem i8 {x : Int32} (h : -4 ≤ x ∧ x ≤ 3) : x = -4 ∨ x = -3 ∨ x = -2 ∨ x = -1 ∨ x = 0 ∨ x = 1 ∨ x = 2 ∨ x = 3 := by
  obtain ⟨h1, h2⟩ := h
  rw [Int32.le_iff_toInt_le] at h1 h2
  have z0 : (-4 : Int32).toInt = -4 := by decide
  have z3 : (3 : Int32).toInt = 3 := by decide
  rw [z0] at h1
  rw [z3] at h2
  have a0 : x.toInt = -4 ∨ x.toInt = -3 ∨ x.toInt = -2 ∨ x.toInt = -1 ∨ x.toInt = 0 ∨ x.toInt = 1 ∨ x.toInt = 2 ∨ x.toInt = 3 := by omega
  rcases a0 with a | a | a | a | a | a | a | a
  · exact Or.inl (Int32.toInt_inj.mp a)
  · exact Or.inr (Or.inl (Int32.toInt_inj.mp a))
  · exact Or.inr (Or.inr (Or.inl (Int32.toInt_inj.mp a)))
  · exact Or.inr (Or.inr (Or.inr (Or.inl (Int32.toInt_inj.mp a))))
  · exact Or.inr (Or.inr (Or.inr (Or.inr (Or.inl (Int32.toInt_inj.mp a)))))
  · exact Or.inr (Or.inr (Or.inr (Or.inr (Or.inr (Or.inl (Int32.toInt_inj.mp a))))))
  · exact Or.inr (Or.inr (Or.inr (Or.inr (Or.inr (Or.inr (Or.inl (Int32.toInt_inj.mp a)))))))
  · exact Or.inr (Or.inr (Or.inr (Or.inr (Or.inr (Or.inr (Or.inr (Int32.toInt_inj.mp a)))))))
theorem sst_in {x : Int32} (h : -4 ≤ x ∧ x ≤ 3) (tk : Bool) : -4 ≤ sst x tk ∧ sst x tk ≤ 3 := by
  rcases i8 h with rfl | rfl | rfl | rfl | rfl | rfl | rfl | rfl <;> cases tk <;> decide
theorem sst_m {v : Int32} (h : -4 ≤ v ∧ v ≤ 3) (tk : Bool) : (if v + (if tk = true then 1 else -1) ≤ 3 then (if (-4) ≤ v + (if tk = true then 1 else -1) then v + (if tk = true then 1 else -1) else -4) else 3) = sst v tk := by
  rcases i8 h with rfl | rfl | rfl | rfl | rfl | rfl | rfl | rfl <;> cases tk <;> decide
theorem sst_class {n j : Nat} {f : Nat → Int32} {tk : Bool} (h : j < n) (hn : n < 2147483648) (hr : -4 ≤ f j ∧ f j ≤ 3) : tf_PK_step n f (nI j) tk (-4) 3 = upd f j (sst (f j) tk) := by
  unfold tf_PK_step tf_PK_step_b30
  rw [at_in h hn, put_in h hn, put_in h hn]
  have hs := upd_same f j
  rcases i8 hr with e | e | e | e | e | e | e | e <;> rw [e] at hs ⊢ <;> cases tk <;> first | exact hs.symm | rfl
/-- the tail: a wrong answer claims a row -/
theorem tail_both {S : Nat} {zs rw mk pl hs : Int32} {q T : Nat → Nat} {n1 n2 n3 : Nat} {f1 f2 f3 g1 g2 g3 f0 g0 : Nat → Int32} {tk : Bool} (hS : 1 ≤ S ∧ S ≤ 10) (hn1 : n1 = 3 * 2 ^ S) (hn2 : n2 = 3 * 2 ^ S) (hn3 : n3 = 3 * 2 ^ S) (hc : Cel S zs rw mk pl hs q T) (a1 : A3 S f1 g1) (a2 : A3 S f2 g2) (a3 : A3 S f3 g3) (u3 : U3 S f3) (s3 : S3 S f2) {s : Nat} (hs3 : s ≤ 3) {h : Int32} (eh : h + 1 = nI s) (a : Bool) : ∃ f1' f2' f3' g1' g2' g3', of_Tagged_learn_b55 zs rw mk n1 f1 n2 n3 pl hs tk h (a == tk) f0 f2 f3 = some (f0, f1', f2', f3') ∧ of_Md_learnTagged_b162 zs rw g1 pl hs tk h a g0 g2 g3 = some (g0, g1', g2', g3') ∧ A3 S f1' g1' ∧ A3 S f2' g2' ∧ A3 S f3' g3' ∧ U3 S f3' ∧ S3 S f2' := by
  obtain ⟨x1, x2, x3, y1, y2, y3, k1, k2, k3⟩ := claim_both (tk := tk) hS hn1 hn2 hn3 hc a1 a2 a3 u3 s3 hs3
  by_cases e : a = tk
  · subst e
    refine ⟨f1, f2, f3, g1, g2, g3, ?_, ?_, a1, a2, a3, u3, s3⟩
    · unfold of_Tagged_learn_b55
      rw [if_neg (by cases a <;> decide)]
    · unfold of_Md_learnTagged_b162
      rw [if_pos rfl]
  · refine ⟨x1, x2, x3, y1, y2, y3, ?_, ?_, k3⟩
    · unfold of_Tagged_learn_b55
      rw [if_pos (by cases a <;> cases tk <;> first | rfl | exact absurd rfl e), eh, k1]
      rfl
    · unfold of_Md_learnTagged_b162
      rw [if_neg (fun z => e (bI_inj.mp z)), eh, k2]
      rfl
set_option maxHeartbeats 1000000 in
theorem learn_6 {S : Nat} {zs rw mk : Int32} {n0 n1 n2 n3 : Nat} {f0 g0 f1 g1 f2 g2 f3 g3 : Nat → Int32} (hz : Sz S zs rw mk) (hn0 : n0 = 2 ^ S) (hn1 : n1 = 3 * 2 ^ S) (hn2 : n2 = 3 * 2 ^ S) (hn3 : n3 = 3 * 2 ^ S) (a0 : Ag (2 ^ S) f0 g0) (c0 : C2 (2 ^ S) f0) (a1 : A3 S f1 g1) (a2 : A3 S f2 g2) (a3 : A3 S f3 g3) (u3 : U3 S f3) (s3 : S3 S f2) (pl hs : Int32) (tk : Bool) : ∃ f0' f1' f2' f3' g0' g1' g2' g3', of_Tagged_learn zs rw mk n0 f0 n1 f1 n2 f2 n3 f3 pl hs tk = some (f0', f1', f2', f3') ∧ of_Md_learn_6 zs rw g0 g1 g2 g3 pl hs tk = some (g0', g1', g2', g3') ∧ Ag (2 ^ S) f0' g0' ∧ C2 (2 ^ S) f0' ∧ A3 S f1' g1' ∧ A3 S f2' g2' ∧ A3 S f3' g3' ∧ U3 S f3' ∧ S3 S f2' := by
  obtain ⟨q, T, hc⟩ := Cel_ex hz pl hs
  have hS := hz.1
  have hp := Sz_pow hS
  obtain ⟨h1, h2⟩ := hit_both hS hn1 hc a1 (b := 3) (by decide)
  have hv := lh_val (hit := hitC S f1 q T) 3
  obtain ⟨a, s1, s2⟩ := said_both hz hn0 hn2 hc a0 a2 (v := lh (hitC S f1 q T) 3) (by rcases hv with h | ⟨t, h, e⟩; exact Or.inl h; exact Or.inr ⟨t, h, e⟩)
  generalize lh (hitC S f1 q T) 3 = h at h1 h2 hv s1 s2
  have hcl : of_Tagged_learn zs rw mk n0 f0 n1 f1 n2 f2 n3 f3 pl hs tk = of_Tagged_learn_b26 zs rw mk n0 f0 n1 f1 n2 f2 n3 f3 pl hs tk h (a == tk) := by
    unfold of_Tagged_learn
    rw [show (3 : Int32) = nI 3 from rfl, h1]
    show (of_Tagged_saidBy zs rw mk n0 f0 n2 f2 h pl hs).bind _ = _
    rw [s1, Option.bind_some]
    by_cases e : a = tk
    · rw [if_pos (congrArg bI e), show (a == tk) = true by simp [e]]
    · rw [if_neg (fun z => e (bI_inj.mp z)), show (a == tk) = false by simp [e]]
  have hmd : of_Md_learn_6 zs rw g0 g1 g2 g3 pl hs tk = of_Md_learnTagged zs rw g0 g1 g2 g3 pl hs tk := by
    unfold of_Md_learn_6
    cases of_Md_learnTagged zs rw g0 g1 g2 g3 pl hs tk <;> rfl
  rw [hcl, hmd]
  rcases hv with rfl | ⟨t, ht, rfl⟩
  · obtain ⟨v0, m1, m2, m3⟩ := learn_2 hz hn0 a0 c0 pl hs tk
    obtain ⟨x1, x2, x3, y1, y2, y3, k1, k2, k3⟩ := tail_both (f0 := tf_Counters_learn zs mk false n0 f0 pl hs tk) (g0 := v0) (tk := tk) (s := 0) (h := -1) hS hn1 hn2 hn3 hc a1 a2 a3 u3 s3 (by decide) (by decide) a
    refine ⟨_, x1, x2, x3, v0, y1, y2, y3, ?_, ?_, m2, m3, k3⟩
    · unfold of_Tagged_learn_b26
      rw [if_neg m1_neg]
      exact k1
    · unfold of_Md_learn_2 at m1
      unfold of_Md_learnTagged
      rw [show (3 : Int32) = nI 3 from rfl, h2]
      show (of_Md_saidBy zs rw g0 g2 (-1) pl hs).bind _ = _
      rw [s2]
      simp only [Option.bind_some, if_neg m1_neg]
      by_cases hb : tf_Md_plainRow zs rw pl < 0 ∨ 1024 ≤ (tf_Md_plainRow zs rw pl).toNatClampNeg
      · rw [if_pos hb] at m1; cases m1
      · rw [if_neg hb, if_neg hb] at m1
        rw [if_neg hb, if_neg hb, Option.some.inj m1]
        exact k2
  · obtain ⟨c1, c2, c3, -, -⟩ := hc t ht
    obtain ⟨j1, j2⟩ := hit_both hS hn1 hc a1 (b := t) (by omega)
    have hv2 := lh_val (hit := hitC S f1 q T) t
    obtain ⟨o, o1, o2⟩ := said_both hz hn0 hn2 hc a0 a2 (v := lh (hitC S f1 q T) t) (by rcases hv2 with h | ⟨u, h, e⟩; exact Or.inl h; exact Or.inr ⟨u, by omega, e⟩)
    generalize lh (hitC S f1 q T) t = h' at j1 j2 o1 o2
    have hin : t * 2 ^ S + q t < 3 * 2 ^ S := ix_in ht c1
    have hnm : ¬ (nI (1024 * t + q t) < 0 ∨ 3072 ≤ 1024 * t + q t) := nbad (by omega) (by omega)
    have hkm : (nI (1024 * t + q t)).toNatClampNeg = 1024 * t + q t := nI_clamp (by omega)
    have e2 := a2 t ht (q t) c1
    have e3 := a3 t ht (q t) c1
    have rs := s3 t ht (q t) c1
    have ru := u3 t ht (q t) c1
    have k0 : (0 : Int32) ≤ nI t := nI_pos' (by omega)
    have stS : tf_PK_step n2 f2 (nI (t * 2 ^ S + q t)) tk (-4) 3 = upd f2 (t * 2 ^ S + q t) (sst (f2 (t * 2 ^ S + q t)) tk) := by subst hn2; exact sst_class hin (by omega) rs
    have stU : ∀ u : Bool, tf_PK_step n3 f3 (nI (t * 2 ^ S + q t)) u 0 3 = upd f3 (t * 2 ^ S + q t) (tf_Md_step (f3 (t * 2 ^ S + q t)) u) := fun u => by subst hn3; exact step_in (u := u) hin (by omega) ru
    have b2 : A3 S (upd f2 (t * 2 ^ S + q t) (sst (f2 (t * 2 ^ S + q t)) tk)) (upd g2 (1024 * t + q t) (sst (f2 (t * 2 ^ S + q t)) tk)) := a2.upd hp.2 ht c1 _
    have b3 : S3 S (upd f2 (t * 2 ^ S + q t) (sst (f2 (t * 2 ^ S + q t)) tk)) := s3.upd ht c1 (sst_in rs tk)
    have hlh : of_Tagged_learnHit zs rw mk n0 f0 n1 f1 n2 f2 n3 f3 (nI t) pl hs tk = some (upd f2 (t * 2 ^ S + q t) (sst (f2 (t * 2 ^ S + q t)) tk), if a = o then f3 else upd f3 (t * 2 ^ S + q t) (tf_Md_step (f3 (t * 2 ^ S + q t)) (a == tk))) := by
      unfold of_Tagged_learnHit
      rw [c2]
      show (of_Tagged_saidBy zs rw mk n0 f0 n2 f2 (nI t) pl hs).bind _ = _
      rw [s1]
      show (of_Tagged_lastHit zs rw mk n1 f1 pl hs (nI t)).bind _ = _
      rw [j1]
      show (of_Tagged_saidBy zs rw mk n0 f0 n2 f2 h' pl hs).bind _ = _
      rw [o1]
      show (if bI a = bI o then some (tf_PK_step n2 f2 (nI (t * 2 ^ S + q t)) tk (-4) 3, f3) else (if bI a = bI tk then some (tf_PK_step n2 f2 (nI (t * 2 ^ S + q t)) tk (-4) 3, tf_PK_step n3 f3 (nI (t * 2 ^ S + q t)) true 0 3) else some (tf_PK_step n2 f2 (nI (t * 2 ^ S + q t)) tk (-4) 3, tf_PK_step n3 f3 (nI (t * 2 ^ S + q t)) false 0 3))) = _
      rw [stS, stU, stU]
      cases a <;> cases o <;> cases tk <;> rfl
    have hml : of_Md_learnTagged zs rw g0 g1 g2 g3 pl hs tk = of_Md_learnTagged_b162 zs rw g1 pl hs tk (nI t) a g0 (upd g2 (1024 * t + q t) (sst (f2 (t * 2 ^ S + q t)) tk)) (if a = o then g3 else upd g3 (1024 * t + q t) (tf_Md_step (f3 (t * 2 ^ S + q t)) (a == tk))) := by
      unfold of_Md_learnTagged
      rw [show (3 : Int32) = nI 3 from rfl, h2]
      show (of_Md_saidBy zs rw g0 g2 (nI t) pl hs).bind _ = _
      rw [s2]
      show (if (0 : Int32) ≤ nI t then _ else _) = _
      rw [if_pos k0, j2]
      show (of_Md_saidBy zs rw g0 g2 h' pl hs).bind _ = _
      rw [o2]
      show (of_Md_taggedRow zs rw (nI t) pl hs).bind _ = _
      rw [c3]
      show (if nI (1024 * t + q t) < 0 ∨ 3072 ≤ (nI (1024 * t + q t)).toNatClampNeg then none else (if bI tk = 0 then of_Md_learnTagged_b93 zs rw g0 g1 g2 g3 pl hs tk (nI t) a o (nI (1024 * t + q t)) (-1) (g2 (nI (1024 * t + q t)).toNatClampNeg) else of_Md_learnTagged_b93 zs rw g0 g1 g2 g3 pl hs tk (nI t) a o (nI (1024 * t + q t)) 1 (g2 (nI (1024 * t + q t)).toNatClampNeg))) = _
      have key : ∀ x : Int32, of_Md_learnTagged_b126 zs rw g0 g1 g2 g3 pl hs tk (nI t) a o (nI (1024 * t + q t)) x (nI (1024 * t + q t)) = of_Md_learnTagged_b162 zs rw g1 pl hs tk (nI t) a g0 (upd g2 (1024 * t + q t) x) (if a = o then g3 else upd g3 (1024 * t + q t) (tf_Md_step (f3 (t * 2 ^ S + q t)) (a == tk))) := by
        intro x
        unfold of_Md_learnTagged_b126 of_Md_learnTagged_b158
        rw [hkm, e3]
        simp only [if_neg hnm]
        by_cases e : a = o
        · rw [if_pos (congrArg bI e), if_pos e]
        · rw [if_neg (fun z => e (bI_inj.mp z)), if_neg e]
          by_cases e' : a = tk
          · rw [if_pos (congrArg bI e'), show (a == tk) = true by simp [e']]
          · rw [if_neg (fun z => e' (bI_inj.mp z)), show (a == tk) = false by simp [e']]
      rw [hkm, if_neg hnm, ← e2]
      unfold of_Md_learnTagged_b93
      simp only [key]
      have sm := sst_m rs tk
      cases tk
      · rw [if_pos (show bI false = 0 from rfl)]
        rw [if_neg (show ¬ false = true by decide)] at sm
        by_cases d1 : f2 (t * 2 ^ S + q t) + (-1) ≤ 3
        · by_cases d2 : (-4) ≤ f2 (t * 2 ^ S + q t) + (-1)
          · rw [if_pos d1, if_pos d2] at sm
            rw [if_pos d1, if_pos d2, sm]
          · rw [if_pos d1, if_neg d2] at sm
            rw [if_pos d1, if_neg d2, sm]
        · rw [if_neg d1] at sm
          rw [if_neg d1, sm]
      · rw [if_neg (show ¬ bI true = 0 by decide)]
        rw [if_pos rfl] at sm
        by_cases d1 : f2 (t * 2 ^ S + q t) + 1 ≤ 3
        · by_cases d2 : (-4) ≤ f2 (t * 2 ^ S + q t) + 1
          · rw [if_pos d1, if_pos d2] at sm
            rw [if_pos d1, if_pos d2, sm]
          · rw [if_pos d1, if_neg d2] at sm
            rw [if_pos d1, if_neg d2, sm]
        · rw [if_neg d1] at sm
          rw [if_neg d1, sm]
    rw [hml]
    unfold of_Tagged_learn_b26
    rw [if_pos k0, hlh]
    show ∃ f0' f1' f2' f3' g0' g1' g2' g3', of_Tagged_learn_b55 zs rw mk n1 f1 n2 n3 pl hs tk (nI t) (a == tk) f0 (upd f2 (t * 2 ^ S + q t) (sst (f2 (t * 2 ^ S + q t)) tk)) (if a = o then f3 else upd f3 (t * 2 ^ S + q t) (tf_Md_step (f3 (t * 2 ^ S + q t)) (a == tk))) = some (f0', f1', f2', f3') ∧ _
    have b4 : A3 S (if a = o then f3 else upd f3 (t * 2 ^ S + q t) (tf_Md_step (f3 (t * 2 ^ S + q t)) (a == tk))) (if a = o then g3 else upd g3 (1024 * t + q t) (tf_Md_step (f3 (t * 2 ^ S + q t)) (a == tk))) := by
      by_cases e : a = o
      · rw [if_pos e, if_pos e]; exact a3
      · rw [if_neg e, if_neg e]; exact a3.upd hp.2 ht c1 _
    have b5 : U3 S (if a = o then f3 else upd f3 (t * 2 ^ S + q t) (tf_Md_step (f3 (t * 2 ^ S + q t)) (a == tk))) := by
      by_cases e : a = o
      · rw [if_pos e]; exact u3
      · rw [if_neg e]; exact u3.upd ht c1 (md_step_in ru _)
    obtain ⟨x1, x2, x3, y1, y2, y3, k1, k2, k3⟩ := tail_both (f0 := f0) (g0 := g0) (tk := tk) (s := t + 1) (h := nI t) hS hn1 hn2 hn3 hc a1 b2 b4 b5 b3 (by omega) (nI_1 t) a
    exact ⟨f0, x1, x2, x3, g0, y1, y2, y3, k1, k2, a0, c0, k3⟩
