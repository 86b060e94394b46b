theorem arr_int {D : va_G} {cl : List vw_C} {cA : ClassId × ClassId × ClassId} {cB : ClassId} {s : State} (h : va_K D cl (tyl cA ++ [(cB, .int)]) s) : cB = cA.1 := by
  have h0 : s.vm.findClass ("[" ++ (FieldType.int).toString) = some cA.1 := (h.2 0 _ rfl).2
  have h3 : s.vm.findClass ("[" ++ (FieldType.int).toString) = some cB := (h.2 3 _ rfl).2
  exact Option.some.inj (h3.symm.trans h0)
theorem arr_bool {D : va_G} {cl : List vw_C} {cA : ClassId × ClassId × ClassId} {cB : ClassId} {s : State} (h : va_K D cl (tyl cA ++ [(cB, .boolean)]) s) : cB = cA.2.1 := by
  have h0 : s.vm.findClass ("[" ++ (FieldType.boolean).toString) = some cA.2.1 := (h.2 1 _ rfl).2
  have h3 : s.vm.findClass ("[" ++ (FieldType.boolean).toString) = some cB := (h.2 3 _ rfl).2
  exact Option.some.inj (h3.symm.trans h0)
theorem arr_long {D : va_G} {cl : List vw_C} {cA : ClassId × ClassId × ClassId} {cB : ClassId} {s : State} (h : va_K D cl (tyl cA ++ [(cB, .long)]) s) : cB = cA.2.2 := by
  have h0 : s.vm.findClass ("[" ++ (FieldType.long).toString) = some cA.2.2 := (h.2 2 _ rfl).2
  have h3 : s.vm.findClass ("[" ++ (FieldType.long).toString) = some cB := (h.2 3 _ rfl).2
  exact Option.some.inj (h3.symm.trans h0)
theorem arr_ext {D : va_G} {cl : List vw_C} {a n : Nat} {c : ClassId} {f g : Nat → Int32} {H : Heap} (h : va_P D cl [(a, .inl (c, n, .inl f))] H) (e : ∀ j, j < n → f j = g j) : va_P D cl [(a, .inl (c, n, .inl g))] H := by
  intro k q hk
  have hz : k < 1 := (List.getElem?_eq_some_iff.mp hk).1
  rw [show k = 0 by omega] at hk
  cases hk
  have h0 := h 0 _ rfl
  show H[a]? = some (vp_cell c (n, .inl g))
  have h1 : H[a]? = some (vp_cell c (n, .inl f)) := h0
  rw [h1, vp_cell_i, vp_cell_i]
  congr 1
  unfold arrV
  congr 1
  apply congrArg
  funext j
  show Value.int (f j.val) = Value.int (g j.val)
  rw [e j.val j.isLt]
theorem fill_lp (N : Nat) (v : Int32) (hN : N ≤ 16000) : ∀ (d j : Nat) (f : Nat → Int32), N = j + d → (∀ i, i < j → f i = v) → ∀ n, d < n → ∃ g, of_Arrays_fill_b5 n N v (nI j) f = some g ∧ ∀ i, i < N → g i = v := by
  intro d
  induction d with
  | zero =>
    intro j f e hf n hn
    obtain ⟨n, rfl⟩ : ∃ k, n = k + 1 := ⟨n - 1, by omega⟩
    refine ⟨f, ?_, fun i hi => hf i (by omega)⟩
    unfold of_Arrays_fill_b5
    rw [if_pos (nI_le (by omega) (by omega))]
  | succ d ih =>
    intro j f e hf n hn
    obtain ⟨n, rfl⟩ : ∃ k, n = k + 1 := ⟨n - 1, by omega⟩
    unfold of_Arrays_fill_b5
    rw [if_neg (nI_ge (by omega) (by omega)), if_neg (nI_in (by omega) (by omega)), nI_clamp (by omega), nI_1]
    exact ih (j + 1) _ (by omega) (fun i hi => by
      rcases Nat.lt_succ_iff_lt_or_eq.mp hi with h | h
      · rw [pk_un (by omega)]; exact hf i h
      · subst h; exact pk_us) n (by omega)
theorem fill_all (N : Nat) (v : Int32) (f : Nat → Int32) (hN : N ≤ 16000) : ∃ g, of_Arrays_fill N f v = some g ∧ ∀ i, i < N → g i = v := by
  unfold of_Arrays_fill
  exact fill_lp N v hN N 0 f (by omega) (fun i h => absurd h (by omega)) 20000 (by omega)
set_option maxHeartbeats 4000000 in
set_option maxRecDepth 100000 in
theorem c_PK_cells (l : Launch) (dC : Nat → ClassId) (dI : Nat → Nat → Nat) (cA : ClassId × ClassId × ClassId) (zz : Nat) (len v : Int32) (N Bd : Nat) (hlen : len = nI N) (hNB : N ≤ Bd) (hB : Bd ≤ 16000) (hz : 0 < N) : Met l yPK_cells wPK_cells ({ frames := 1, cells := 1, slots := Bd, locals := 23 }) (va_Pc [.int len, .int v] (Wr (dC, dI) cA zz [])) (va_Qr (fun _ : va_W => True) (fun w9 q t => w9 = [(q, .inl (cA.1, N, .inl (fun _ => v)))] ∧ At (dC, dI) cA (va_A [] zz) w9 t) (va_A [] zz)) 1 Bd (va_A [] zz) := by
  subst hlen
  refine Met.ofW (cc := cPK_cells) (maxL := 3) (ret := (some (.array .int))) (by decide) rfl ?_
  intro p e s m args below meth c s₁ B hml hv
  obtain ⟨rfl, hsz, hN, hP, hK, hD0⟩ := hv
  have hx := B.exec
  have hb := B.bytes
  have hr := B.returns
  have hts := atoms_spec (ws := wPK_cells) B.pre
  have htg : ∀ w ∈ GW, w.before _ s = true := fun w h => hts w (List.mem_cons_of_mem _ h)
  have hown : s.vm.findClass R_PK = some m.cls := findClass_of_methodNamed B.named
  have hlocks := B.notSynchronized
  subst hsz
  have hD := hD0.self (sz := s.heap.size)
  generalize hAe : va_A [] s.heap.size = A at hD ⊢
  have hA : ∀ q : Nat, s.heap.size ≤ q → A q := fun q h => by rw [← hAe]; exact Or.inr h
  have hS : va_S A s.heap s.heap [] := va_S.rf
  have hP : va_P (dC, dI) vwCl [] s.heap := hP
  have hl := lv_entry ([.int (nI N), .int v]) (n := 3) (Nat.le_of_ble_eq_true rfl)
  rw [lg_entry_eq]
  generalize (lg_sl ([.int (nI N), .int v]) ++ List.replicate (3 - (lg_sl ([.int (nI N), .int v])).length) Slot.unset).toArray = ls at hl ⊢
  have hl : lv_has ls 3 [(0, .int (nI N)), (1, .int v)] := hl
  refine lv_iload_n hx hb dPK_cells_0 rfl (lv_at hl 0 rfl) ?_
  refine lv_if_le (tgt := 8) hx hb dPK_cells_1 (by decide) (fun c9 => absurd c9 (nI_nle hz (by omega))) (fun _ => ?_)
  refine lv_iload_n hx hb dPK_cells_4 rfl (lv_at hl 0 rfl) ?_
  refine lv_goto (tgt := 9) hx hb dPK_cells_5 (by decide) ?_
  refine va_newa (atype := .int) (N' := N) (a0 := (N, .inl (fun _ => 0))) hx hb (htg _ wd_94) rfl hK hP hD hS hA (fun _ => rfl) (nI_pos (by omega)) (nI_clamp (by omega)) (show N * 4 ≤ 536870912 by omega) (Nat.le_of_ble_eq_true rfl) (show 0 + N ≤ Bd by omega) dPK_cells_9 (fun q cB H hKn hP hD hS => ?_)
  obtain rfl : cB = cA.1 := arr_int hKn
  have hP : va_P (dC, dI) vwCl [(q, .inl (cA.1, N, .inl (fun _ => 0)))] H := hP
  have hD : va_D A [(q, .inl (cA.1, N, .inl (fun _ => 0)))] := hD
  refine W.widen (k := 1) (n := Bd) (by omega) (by omega) ?_
  refine lv_astore_n (lv' := [(2, .ref q), (0, .int (nI N)), (1, .int v)]) hx hb dPK_cells_11 rfl hl (by decide) rfl (fun ls hl => ?_)
  refine lv_aload_n hx hb dPK_cells_12 rfl (lv_at hl 0 rfl) ?_
  refine lv_iload_n hx hb dPK_cells_13 rfl (lv_at hl 2 rfl) ?_
  obtain ⟨g, hg, hgv⟩ := fill_all N v (fun _ => 0) (by omega)
  refine wr_Sv (wr := []) (As := [.ref q, .int v]) (rest := []) ⟨hx, hb, hml, hown, htg⟩ (c_Arrays_fill l dC dI cA _ q N (fun _ => 0) v (by omega) g hg) (cw_S htg wd_52 qArrays_fill iArrays_fill kArrays_fill pArrays_fill rfl rfl ⟨Nat.le_of_ble_eq_true rfl, Nat.le_of_ble_eq_true rfl⟩) hN hP hD hS hA hK [0] [] rfl rfl (by decide) (by decide) (by decide) rfl hl.1 rfl (Nat.le_of_ble_eq_true rfl) dPK_cells_14 ⟨Nat.le_of_ble_eq_true rfl, Nat.le_refl Bd⟩ (fun H locs hP hD hS => ?_)
  have hP : va_P (dC, dI) vwCl [(q, .inl (cA.1, N, .inl g))] H := hP
  have hP := arr_ext (g := fun _ => v) hP hgv
  have hD : va_D A [(q, .inl (cA.1, N, .inl g))] := hD
  have hD : va_D A [(q, .inl (cA.1, N, .inl (fun _ => v)))] := hD.set (p := 0) rfl
  refine lv_aload_n hx hb dPK_cells_17 rfl (lv_at hl 0 rfl) ?_
  exact W.aret hx hb hr (Or.inr ⟨_, rfl⟩) (Or.inr ⟨_, rfl⟩) (fun t ht hW => ⟨⟨_, q, rfl, trivial, rfl, by rw [ht]; exact hP, va_K.moved hW.alike hK, hD⟩, hS.F ht⟩) hS.2.2 dPK_cells_18

