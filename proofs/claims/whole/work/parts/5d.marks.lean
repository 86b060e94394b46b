/-! MARK, REPAIR, EARLY, COUNT -/
def Mk (m : Nat) (mc mmk : Int32) (f g : Nat → Int32) : Prop := m ≤ 32 ∧ mc = nI m ∧ mmk = nI m ∧ Ag m f g
theorem mark_ok {m : Nat} {mc mmk ps : Int32} {f g : Nat → Int32} (h : Mk m mc mmk f g) (hm : m < 32) : of_PK_mark mc ps f = some (nI m, nI (m + 1), upd f m ps) ∧ of_Md_mark ps mmk g = some (nI m, 0, nI (m + 1), upd g m ps) ∧ Mk (m + 1) (nI (m + 1)) (nI (m + 1)) (upd f m ps) (upd g m ps) := by
  obtain ⟨h1, rfl, rfl, a⟩ := h
  refine ⟨?_, ?_, by omega, rfl, rfl, ag_up a ps⟩
  · have q : nI m < 32 := nI_lt (a := m) (b := 32) hm (by omega)
    unfold of_PK_mark
    rw [if_pos q, put_in (by omega) (by omega), nI_1, nI_pred]
  · have q : ¬ nI m = 32 := fun z => by
      have := (nI_eq (a := m) (b := 32) (by omega) (by omega)).mp z
      omega
    unfold of_Md_mark
    rw [if_neg q, if_neg (nI_in (by omega) (by omega)), nI_clamp (by omega), nI_1, nI_pred]
theorem mark_full {ps : Int32} {g : Nat → Int32} : of_Md_mark ps (nI 32) g = some (0, 1, nI 32, g) := by
  unfold of_Md_mark
  rw [if_pos (show nI 32 = (32 : Int32) by decide)]
  rfl
theorem repair_ok {m w : Nat} {mc mmk ps mwt i0 : Int32} {f g : Nat → Int32} (h : Mk m mc mmk f g) (h0 : ¬ i0 < 0) (h1 : i0 < mc) : ∃ i, i < m ∧ of_PK_repair mc ps f i0 = some (ps, nI (i + 1), g i, 0) ∧ of_Md_repair ps mwt mmk g i0 = some (ps, 0, 0, nI (i + 1), g i) ∧ Mk (i + 1) (nI (i + 1)) (nI (i + 1)) f g := by
  obtain ⟨hm, rfl, rfl, a⟩ := h
  obtain ⟨i, hi, rfl⟩ := nI_of h0
  have hi2 : i < m := (nI_ltI hi (by omega)).mp h1
  refine ⟨i, hi2, ?_, ?_, by omega, rfl, rfl, fun j hj => a j (by omega)⟩
  · unfold of_PK_repair tf_Waiting_lose
    rw [if_neg h0, if_pos h1, at_in (by omega) (by omega), a i hi2, nI_1]
  · unfold of_Md_repair
    rw [if_neg h0, if_pos h1, if_neg (nI_in (by omega) (by omega)), nI_clamp hi, nI_1]
theorem repair_bad {ps mwt mmk i0 : Int32} {g : Nat → Int32} (h : i0 < 0 ∨ ¬ i0 < mmk) : of_Md_repair ps mwt mmk g i0 = some (0, 1, mwt, mmk, ps) := by
  unfold of_Md_repair of_Md_repair_b17
  by_cases q : i0 < 0
  · rw [if_pos q]; rfl
  · rcases h with z | z
    · exact absurd z q
    · rw [if_neg q, if_neg z]; rfl
theorem early_both (e o : Bool) : tf_PK_early e o = (e, o, 0) ∧ tf_Md_early e o = (e, 0, 0, o) := ⟨rfl, rfl⟩
theorem count_both (kn zs mc u1 u2 u3 u4 ud wh : Int32) : tf_Md_count kn zs u1 u2 u3 u4 ud mc wh = (tf_PK_count kn zs mc u1 u2 u3 u4 ud wh, 0) := by
  unfold tf_Md_count tf_PK_count tf_Waiting_length
  by_cases h0 : wh = 0
  · rw [if_pos h0, if_pos h0]
  rw [if_neg h0, if_neg h0]
  by_cases h1 : wh = 1
  · rw [if_pos h1, if_pos h1]
  rw [if_neg h1, if_neg h1]
  by_cases h2 : wh = 2
  · rw [if_pos h2, if_pos h2]
  rw [if_neg h2, if_neg h2]
  by_cases h3 : wh = 3
  · rw [if_pos h3, if_pos h3]
  rw [if_neg h3, if_neg h3]
  by_cases h4 : wh = 4
  · rw [if_pos h4, if_pos h4]
  rw [if_neg h4, if_neg h4]
  by_cases h5 : wh = 5
  · rw [if_pos h5, if_pos h5]
  rw [if_neg h5, if_neg h5]
  by_cases h6 : wh = 6
  · rw [if_pos h6, if_pos h6]
  rw [if_neg h6, if_neg h6]
  by_cases h7 : wh = 7
  · rw [if_pos h7, if_pos h7]
  rw [if_neg h7, if_neg h7]
theorem qu_none {wf1 wf2 wf3 gp gh gs : Nat → Int32} : Qu 0 0 0 wf1 wf2 wf3 gp gh gs := ⟨by omega, rfl, rfl, fun j h => absurd h (by omega), fun j h => absurd h (by omega), fun j h => absurd h (by omega), fun j h => absurd h (by omega)⟩
