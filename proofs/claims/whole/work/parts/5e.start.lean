/-! THE START: the reference's tables as its constructor fills them -/
def Fl (i : Nat) (x : Int32) (f : Nat → Int32) : Prop := ∀ j, j < i → f j = x
theorem fl_up {i : Nat} {x : Int32} {f : Nat → Int32} (h : Fl i x f) : Fl (i + 1) x (upd f i x) := by
  intro j hj
  by_cases e : j = i
  · subst e; exact pk_us
  · rw [pk_un e]; exact h j (by omega)
theorem ini_b {f11 f2 f3 f4 f6 : Nat → Int32} : ∀ d n i (f7 : Nat → Int32), i + d = 3072 → d < n → Fl i (-1) f7 → ∃ r7, of_Md_init_b261 n (nI i) f11 f2 f3 f4 f6 f7 = some (f2, f3, f4, f6, r7, f11) ∧ Fl 3072 (-1) r7 := by
  intro d
  induction d with
  | zero =>
    intro n i f7 e hn h
    obtain ⟨n, rfl⟩ : ∃ n', n = n' + 1 := ⟨n - 1, by omega⟩
    have e1 : i = 3072 := by omega
    subst e1
    exact ⟨f7, if_pos (by decide), h⟩
  | succ d ih =>
    intro n i f7 e hn h
    obtain ⟨n, rfl⟩ : ∃ n', n = n' + 1 := ⟨n - 1, by omega⟩
    obtain ⟨r, r1, r2⟩ := ih n (i + 1) (upd f7 i (-1)) (by omega) (by omega) (fl_up h)
    refine ⟨r, ?_, r2⟩
    have hg : ¬ (3072 : Int32) ≤ nI i := nI_ge (a := i) (b := 3072) (by omega) (by omega)
    unfold of_Md_init_b261
    rw [if_neg hg, if_neg (nI_in (by omega) (by omega)), nI_clamp (by omega), nI_1]
    exact r1
theorem ini_a : ∀ d n i (f11 f2 f3 f4 f6 : Nat → Int32), i + d = 1024 → d < n → Fl i (-1) f11 → Fl i 1 f2 → Fl i 1 f3 → Fl i 1 f4 → Fl i 1 f6 → ∃ r11 r2 r3 r4 r6 r7, of_Md_init_b204 n (nI i) f11 f2 f3 f4 f6 = some (r2, r3, r4, r6, r7, r11) ∧ Fl 1024 (-1) r11 ∧ Fl 1024 1 r2 ∧ Fl 1024 1 r3 ∧ Fl 1024 1 r4 ∧ Fl 1024 1 r6 ∧ Fl 3072 (-1) r7 := by
  intro d
  induction d with
  | zero =>
    intro n i f11 f2 f3 f4 f6 e hn h11 h2 h3 h4 h6
    obtain ⟨n, rfl⟩ : ∃ n', n = n' + 1 := ⟨n - 1, by omega⟩
    have e1 : i = 1024 := by omega
    subst e1
    obtain ⟨r7, k1, k2⟩ := ini_b (f11 := f11) (f2 := f2) (f3 := f3) (f4 := f4) (f6 := f6) 3072 4096 0 (fun _ => 0) (by omega) (by omega) (fun j hj => absurd hj (by omega))
    refine ⟨f11, f2, f3, f4, f6, r7, ?_, h11, h2, h3, h4, h6, k2⟩
    exact (if_pos (by decide)).trans k1
  | succ d ih =>
    intro n i f11 f2 f3 f4 f6 e hn h11 h2 h3 h4 h6
    obtain ⟨n, rfl⟩ : ∃ n', n = n' + 1 := ⟨n - 1, by omega⟩
    obtain ⟨r11, r2, r3, r4, r6, r7, k, kk⟩ := ih n (i + 1) (upd f11 i (-1)) (upd f2 i 1) (upd f3 i 1) (upd f4 i 1) (upd f6 i 1) (by omega) (by omega) (fl_up h11) (fl_up h2) (fl_up h3) (fl_up h4) (fl_up h6)
    refine ⟨r11, r2, r3, r4, r6, r7, ?_, kk⟩
    have hg : ¬ (1024 : Int32) ≤ nI i := nI_ge (a := i) (b := 1024) (by omega) (by omega)
    unfold of_Md_init_b204
    rw [if_neg hg, if_neg (nI_in (by omega) (by omega)), if_neg (nI_in (by omega) (by omega)), if_neg (nI_in (by omega) (by omega)), if_neg (nI_in (by omega) (by omega)), if_neg (nI_in (by omega) (by omega)), nI_clamp (by omega), nI_1]
    exact k
theorem md_init : ∃ r11 r2 r3 r4 r6 r7, of_Md_init = some (r2, r3, r4, r6, r7, r11) ∧ Fl 1024 (-1) r11 ∧ Fl 1024 1 r2 ∧ Fl 1024 1 r3 ∧ Fl 1024 1 r4 ∧ Fl 1024 1 r6 ∧ Fl 3072 (-1) r7 :=
  ini_a 1024 4096 0 _ _ _ _ _ (by omega) (by omega) (fun j hj => absurd hj (by omega)) (fun j hj => absurd hj (by omega)) (fun j hj => absurd hj (by omega)) (fun j hj => absurd hj (by omega)) (fun j hj => absurd hj (by omega))
