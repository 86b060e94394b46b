/-! THE QUEUE: the class's Waiting and the reference's three arrays -/
/-- o is the first place below w where pl stands, or w -/
def IsOd (w : Nat) (g : Nat → Int32) (pl : Int32) (o : Nat) : Prop := o ≤ w ∧ (∀ j, j < o → ¬ g j = pl) ∧ (o < w → g o = pl)
theorem od_ex (w : Nat) (g : Nat → Int32) (pl : Int32) : ∃ o, IsOd w g pl o := by
  induction w with
  | zero => exact ⟨0, Nat.le_refl 0, fun j h => absurd h (by omega), fun h => absurd h (by omega)⟩
  | succ w ih =>
    obtain ⟨o, h1, h2, h3⟩ := ih
    by_cases q : o < w
    · exact ⟨o, by omega, h2, fun _ => h3 q⟩
    · have e : o = w := by omega
      subst e
      by_cases q2 : g o = pl
      · exact ⟨o, by omega, h2, fun _ => q2⟩
      · refine ⟨o + 1, by omega, ?_, fun h => absurd h (by omega)⟩
        intro j hj
        by_cases q3 : j = o
        · subst q3; exact q2
        · exact h2 j (by omega)
theorem IsOd.ag {w o : Nat} {f g : Nat → Int32} {pl : Int32} (a : Ag w f g) (h : IsOd w g pl o) : IsOd w f pl o := by
  obtain ⟨h1, h2, h3⟩ := h
  refine ⟨h1, ?_, ?_⟩
  · intro j hj
    rw [a j (by omega)]
    exact h2 j hj
  · intro q
    rw [a o q]
    exact h3 q
theorem od_class {w o : Nat} {f : Nat → Int32} {pl : Int32} (hw : w ≤ 64) (h : IsOd w f pl o) : ∀ d n i, i + d = o → d < n → of_Waiting_oldestOf_b2 n (nI w) f pl (nI i) = some (if o = w then -1 else nI o) := by
  obtain ⟨h1, h2, h3⟩ := h
  intro d
  induction d with
  | zero =>
    intro n i e hn
    have e1 : i = o := by omega
    subst e1
    obtain ⟨m, rfl⟩ : ∃ m, n = m + 1 := ⟨n - 1, by omega⟩
    show (if nI w ≤ nI i then _ else _) = _
    by_cases q : i = w
    · rw [if_pos (nI_le (by omega) (by omega)), if_pos q]
    · have q1 : i < w := by omega
      rw [if_neg (nI_ge q1 (by omega)), at_in (by omega) (by omega), if_pos (h3 q1), if_neg q]
  | succ d ih =>
    intro n i e hn
    obtain ⟨m, rfl⟩ : ∃ m, n = m + 1 := ⟨n - 1, by omega⟩
    show (if nI w ≤ nI i then _ else _) = _
    rw [if_neg (nI_ge (by omega) (by omega)), at_in (by omega) (by omega), if_neg (h2 i (by omega)), nI_1]
    exact ih m (i + 1) (by omega) (by omega)
theorem oldest_class {w o : Nat} {f : Nat → Int32} {pl : Int32} (hw : w ≤ 64) (h : IsOd w f pl o) : of_Waiting_oldestOf (nI w) f pl = some (if o = w then -1 else nI o) := by
  have h1 := h.1
  exact od_class hw h o 4096 0 (by omega) (by omega)
/-- what stands behind i moves one place down -/
def sh : Nat → Nat → (Nat → Int32) → Nat → Int32
  | 0, _, f => f
  | k + 1, i, f => sh k (i + 1) (upd f i (f (i + 1)))
theorem sh_ag {w : Nat} : ∀ k i (f g : Nat → Int32), i + k + 1 ≤ w → Ag w f g → Ag w (sh k i f) (sh k i g) := by
  intro k
  induction k with
  | zero => intro i f g _ a; exact a
  | succ k ih =>
    intro i f g h a
    refine ih (i + 1) _ _ (by omega) ?_
    rw [a (i + 1) (by omega)]
    exact a.upd i _
/-- an array of booleans below w -/
def Bo (w : Nat) (f : Nat → Int32) : Prop := ∀ j, j < w → ∃ b : Bool, f j = bI b
theorem Bo.upd {w : Nat} {f : Nat → Int32} (h : Bo w f) (k : Nat) (b : Bool) : Bo w (upd f k (bI b)) := by
  intro j hj
  by_cases e : j = k
  · subst e; exact ⟨b, pk_us⟩
  · rw [pk_un e]; exact h j hj
theorem sh_bo {w : Nat} : ∀ k i (f : Nat → Int32), i + k + 1 ≤ w → Bo w f → Bo w (sh k i f) := by
  intro k
  induction k with
  | zero => intro i f _ a; exact a
  | succ k ih =>
    intro i f h a
    refine ih (i + 1) _ (by omega) ?_
    obtain ⟨b, e⟩ := a (i + 1) (by omega)
    rw [e]
    exact a.upd i b
theorem rem_class {w : Nat} (hw : w ≤ 64) : ∀ k n i (f1 f2 f3 : Nat → Int32), i + k + 1 = w → k < n → of_Waiting_remove_b15 n (nI w) (nI i) f1 f2 f3 = some (nI (w - 1), sh k i f1, sh k i f2, sh k i f3) := by
  intro k
  induction k with
  | zero =>
    intro n i f1 f2 f3 e hn
    obtain ⟨m, rfl⟩ : ∃ m, n = m + 1 := ⟨n - 1, by omega⟩
    have e1 : nI w - 1 = nI (w - 1) := pk_sub (a := w) (b := 1) (by omega)
    show (if nI w - 1 ≤ nI i then some (nI w - 1, f1, f2, f3) else _) = _
    rw [e1, if_pos (nI_le (by omega) (by omega))]
    rfl
  | succ k ih =>
    intro n i f1 f2 f3 e hn
    obtain ⟨m, rfl⟩ : ∃ m, n = m + 1 := ⟨n - 1, by omega⟩
    have e1 : nI w - 1 = nI (w - 1) := pk_sub (a := w) (b := 1) (by omega)
    have hi := ih m (i + 1) (upd f1 i (f1 (i + 1))) (upd f2 i (f2 (i + 1))) (upd f3 i (f3 (i + 1))) (by omega) (by omega)
    unfold of_Waiting_remove_b15 tf_Waiting_fill
    rw [e1, if_neg (nI_ge (by omega) (by omega)), nI_1]
    rw [at_in (by omega) (by omega), at_in (by omega) (by omega), at_in (by omega) (by omega), put_in (by omega) (by omega), put_in (by omega) (by omega), put_in (by omega) (by omega)]
    exact hi
theorem remove_class {w o : Nat} (hw : w ≤ 64) (ho : o < w) (f1 f2 f3 : Nat → Int32) : of_Waiting_remove (nI w) f1 f2 f3 (nI o) = some (nI (w - 1), sh (w - 1 - o) o f1, sh (w - 1 - o) o f2, sh (w - 1 - o) o f3) := by
  unfold of_Waiting_remove
  rw [if_neg (nI_pos (by omega)), if_pos (nI_lt ho (by omega))]
  exact rem_class hw (w - 1 - o) 4096 o f1 f2 f3 (by omega) (by omega)
theorem said_class {w o : Nat} {f g : Nat → Int32} {b : Bool} (hw : w ≤ 64) (ho : o < w) (a : Ag w f g) (hb : g o = bI b) : tf_Waiting_wasSaid f (nI o) = b := by
  unfold tf_Waiting_wasSaid
  rw [at_in (by omega) (by omega), a o ho, hb]
  cases b <;> rfl
/-- settle, the three ways -/
theorem settle_none {ps u4 ud bf : Int32} {f1 f2 f3 : Nat → Int32} {tk : Bool} : of_PK_settle ps u4 ud f1 f2 f3 (-1) bf tk = some (u4, tf_PK_behind ps tk, ud, f1, f2, f3) := by
  unfold of_PK_settle
  rw [if_neg (by decide)]
theorem settle_right {w o : Nat} {ps u4 bf : Int32} {f1 f2 f3 g : Nat → Int32} {tk : Bool} (hw : w ≤ 64) (ho : o < w) (a : Ag w f3 g) (hb : g o = bI tk) : of_PK_settle ps u4 (nI w) f1 f2 f3 (nI o) bf tk = some (u4, ps, nI (w - 1), sh (w - 1 - o) o f1, sh (w - 1 - o) o f2, sh (w - 1 - o) o f3) := by
  unfold of_PK_settle
  rw [if_pos (nI_pos' (by omega)), said_class hw ho a hb, if_pos rfl, remove_class hw ho]
  rfl
theorem settle_wrong {w o : Nat} {ps u4 bf : Int32} {f1 f2 f3 g : Nat → Int32} {tk b : Bool} (hw : w ≤ 64) (ho : o < w) (a : Ag w f3 g) (hb : g o = bI b) (hn : ¬ b = tk) : of_PK_settle ps u4 (nI w) f1 f2 f3 (nI o) bf tk = some (u4 + 1, tf_PK_behind bf tk, 0, f1, f2, f3) := by
  unfold of_PK_settle
  rw [if_pos (nI_pos' (by omega)), said_class hw ho a hb, if_neg (fun q => hn (bI_inj.mp q))]
  rfl
/-- the queues agree -/
def Qu (w : Nat) (ud mwt : Int32) (wf1 wf2 wf3 gp gh gs : Nat → Int32) : Prop := w ≤ 64 ∧ ud = nI w ∧ mwt = nI w ∧ Ag w wf1 gp ∧ Ag w wf2 gh ∧ Ag w wf3 gs ∧ Bo w gs
theorem ag_up {w : Nat} {f g : Nat → Int32} (h : Ag w f g) (x : Int32) : Ag (w + 1) (upd f w x) (upd g w x) := by
  intro j hj
  by_cases e : j = w
  · subst e; rw [pk_us, pk_us]
  · rw [pk_un e, pk_un e]; exact h j (by omega)
theorem bo_up {w : Nat} {f : Nat → Int32} (h : Bo w f) (b : Bool) : Bo (w + 1) (upd f w (bI b)) := by
  intro j hj
  by_cases e : j = w
  · subst e; exact ⟨b, pk_us⟩
  · rw [pk_un e]; exact h j (by omega)
theorem add_class {w : Nat} (hw : w < 64) (f1 f2 f3 : Nat → Int32) (pl hs : Int32) (b : Bool) : tf_Waiting_add (nI w) f1 f2 f3 pl hs b = (nI (w + 1), upd f1 w pl, upd f2 w hs, upd f3 w (bI b)) := by
  have r : tf_Waiting_hasRoom (nI w) = true := by
    unfold tf_Waiting_hasRoom
    exact if_neg (nI_ge (a := w) (b := 64) hw (by omega))
  unfold tf_Waiting_add tf_Waiting_add_b23 tf_Waiting_fill
  rw [r, if_neg (by decide), put_in (by omega) (by omega), put_in (by omega) (by omega), nI_1]
  cases b
  · rw [if_pos (show bI false = 0 from rfl), put_in (by omega) (by omega)]
  · rw [if_neg (show ¬ bI true = 0 by decide), put_in (by omega) (by omega)]
theorem room_yes {w : Nat} (hw : w < 64) : tf_Waiting_hasRoom (nI w) = true := if_neg (nI_ge (a := w) (b := 64) hw (by omega))
theorem room_no : tf_Waiting_hasRoom (nI 64) = false := by decide
