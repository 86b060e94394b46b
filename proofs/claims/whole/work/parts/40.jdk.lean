theorem rd_SJ {p : Program} {l : Launch} {e : Env} {R : Room} {s : State} {m : MethodId} {args : Array Value} {below : List Frame} {meth : Method} {c : Code} {H : Heap} {locs : List Loc} {cells slots : Nat} {Q : State → Prop} {y : MethodName} {bytes cc : ByteArray} {maxL nL n index pc : Nat} {ret : Option FieldType} {ws Ts : List Cond} {rm : Room} {own : String} {As rest st0 : List Value} {ls : Array Slot} {D : va_G} {cA : ClassId × ClassId × ClassId} {w : va_W} {r : Value} (S : CallFix p m c cc nL s args Ts own) (hM : Met l y ws rm (va_Pc As (Rd D cA w)) (k2_QcV r) 0 0 (fun _ => False)) (cw : CallB R s args own index y bytes maxL ret ws rm 0 0 n ∧ (Cond.static y).before args s = true) (hN : NW s) (hP : va_P D vwCl w H) (hK : va_K D vwCl (tyl cA) s) (hn : As.length = n) (hsize : ls.size = nL) (hst : st0 = As.reverse ++ rest) (hW : (rest.map fun v => v.category).sum ≤ 8) (hdg : decode cc pc = .ok (.invokestatic index, 3)) (hf : cells ≤ R.cells ∧ slots ≤ R.slots) (kk : W p l e R s m args below meth c H locs cells slots Q (F0 m (pc + 3) ls (r :: rest))) : W p l e R s m args below meth c H locs cells slots Q (F0 m pc ls st0) :=
  W.callV (va_Run.run (va_runS S hM cw ⟨Rd_blind, Rd_at hN hP hK⟩ rfl hn hsize hst (lv_room hW) hdg hf)) kk

def of_Arrays_fill_b5 : Nat → Nat → Int32 → Int32 → (Nat → Int32) → Option ((Nat → Int32))
  | 0, _, _, _, _ => none
  | n + 1, n1, x0, v2_b5, w_a1_a_b5 => (if (nI n1) ≤ v2_b5 then some (w_a1_a_b5) else (if v2_b5 < 0 ∨ n1 ≤ v2_b5.toNatClampNeg then none else of_Arrays_fill_b5 n n1 x0 (v2_b5 + 1) (upd w_a1_a_b5 v2_b5.toNatClampNeg x0)))
def of_Arrays_fill (n1 : Nat) (f1 : Nat → Int32) (x0 : Int32) : Option ((Nat → Int32)) := of_Arrays_fill_b5 20000 n1 x0 0 f1
set_option maxHeartbeats 4000000 in
set_option maxRecDepth 100000 in
theorem c_Arrays_fill (l : Launch) (dC : Nat → ClassId) (dI : Nat → Nat → Nat) (cA : ClassId × ClassId × ClassId) (zz : Nat) (a1 : Nat) (n1 : Nat) (f1 : Nat → Int32) (x0 : Int32) (hn1 : n1 < 2147483648) (rs0 : (Nat → Int32)) (hfn : (of_Arrays_fill n1 f1 x0) = some (rs0)) : Met l yArrays_fill wArrays_fill ({ frames := 0, cells := 0, slots := 0, locals := 0 }) (va_Pc [.ref a1, .int x0] (Wr (dC, dI) cA zz [(a1, .inl (cA.1, n1, .inl f1))])) (va_Qv (fun w9 => w9 = [(a1, .inl (cA.1, n1, .inl rs0))]) (At (dC, dI) cA (va_A [(a1, .inl (cA.1, n1, .inl f1))] zz)) (va_A [(a1, .inl (cA.1, n1, .inl f1))] zz)) 0 0 (va_A [(a1, .inl (cA.1, n1, .inl f1))] zz) := by
  refine Met.ofW (cc := cArrays_fill) (maxL := 4) (ret := none) (by decide) rfl ?_
  intro p e s m args below meth c s₁ B hml hv
  obtain ⟨rfl, hsz, hN, hP, hK, hD0⟩ := hv
  have hx := B.exec
  have hb := B.bytes
  have hr := B.returns
  have hts := atoms_spec (ws := wArrays_fill) B.pre
  have htg : ∀ w ∈ GW, w.before _ s = true := fun w h => hts w (List.mem_cons_of_mem _ h)
  have hown : s.vm.findClass R_Arrays = some m.cls := findClass_of_methodNamed B.named
  have hlocks := B.notSynchronized
  subst hsz
  have hD := hD0.self (sz := s.heap.size)
  generalize hAe : va_A [(a1, .inl (cA.1, n1, .inl f1))] s.heap.size = A at hD ⊢
  have hA : ∀ q : Nat, s.heap.size ≤ q → A q := fun q h => by rw [← hAe]; exact Or.inr h
  have hS : va_S A s.heap s.heap [] := va_S.rf
  have hP : va_P (dC, dI) vwCl [(a1, .inl (cA.1, n1, .inl f1))] s.heap := hP
  have blk5 : ∀ n : Nat, ∀ (rs0 : (Nat → Int32)) (v2_b5 : Int32) (w_a1_a_b5 : Nat → Int32) (H : Heap) (locs : List Loc) (ls : Array Slot), of_Arrays_fill_b5 n n1 x0 v2_b5 w_a1_a_b5 = some (rs0) → va_P (dC, dI) vwCl [(a1, .inl (cA.1, n1, .inl w_a1_a_b5))] H → va_D A [(a1, .inl (cA.1, n1, .inl w_a1_a_b5))] → va_S A s.heap H locs → lv_has ls 4 [(0, .ref a1), (1, .int x0), (2, .int v2_b5), (3, .int (nI n1))] → W p l e (headSpec wArrays_fill ({ frames := 0, cells := 0, slots := 0, locals := 0 })).room s m ([.ref a1, .int x0] : List Value).toArray below meth c H locs 0 0 (MQ below (va_Qv (fun w9 => w9 = [(a1, .inl (cA.1, n1, .inl rs0))]) (At (dC, dI) cA A) A) ([.ref a1, .int x0] : List Value).toArray s 0 0 A) (F0 m 5 ls []) := by
    intro n
    induction n with
    | zero =>
      intro rs0 v2_b5 w_a1_a_b5 H locs ls hfn hP hD hS hl
      exact absurd hfn (by intro h; cases h)
    | succ n ih =>
      intro rs0 v2_b5 w_a1_a_b5 H locs ls hfn hP hD hS hl
      unfold of_Arrays_fill_b5 at hfn
      refine lv_iload_n hx hb dArrays_fill_5 rfl (lv_at hl 2 rfl) ?_
      refine lv_iload_n hx hb dArrays_fill_6 rfl (lv_at hl 3 rfl) ?_
      refine lv_icmp_ge (tgt := 20) hx hb dArrays_fill_7 (by decide) (fun c_1 => ?_) (fun c_1 => ?_)
      · rw [if_pos c_1] at hfn
        replace hfn := Option.some.inj hfn
        subst hfn
        exact W.vret hx hb hr (fun t ht hW => ⟨⟨_, rfl, rfl, ⟨by rw [ht]; exact hP.sub [0] rfl, va_K.moved hW.alike hK, hD.sub [0] (by decide) rfl⟩⟩, hS.F ht⟩) hS.2.2 dArrays_fill_20
      · rw [if_neg c_1] at hfn
        refine lv_aload_n hx hb dArrays_fill_10 rfl (lv_at hl 0 rfl) ?_
        refine lv_iload_n hx hb dArrays_fill_11 rfl (lv_at hl 2 rfl) ?_
        refine lv_iload_n hx hb dArrays_fill_12 rfl (lv_at hl 1 rfl) ?_
        obtain ⟨g_2, hfn⟩ := og hfn
        refine va_iast hx hb hK hP hD hS 0 0 rfl rfl g_2 dArrays_fill_13 (fun H locs hP hD hS => ?_)
        have hP : va_P (dC, dI) vwCl [(a1, .inl (cA.1, n1, .inl (upd w_a1_a_b5 v2_b5.toNatClampNeg x0)))] H := hP
        have hD : va_D A [(a1, .inl (cA.1, n1, .inl (upd w_a1_a_b5 v2_b5.toNatClampNeg x0)))] := hD
        refine lv_iinc (v := (v2_b5 + 1)) (lv' := [(2, .int (v2_b5 + 1)), (0, .ref a1), (1, .int x0), (3, .int (nI n1))]) hx hb dArrays_fill_14 hl (k := 2) rfl rfl (by decide) rfl (fun ls hl => ?_)
        refine lv_goto (tgt := 5) hx hb dArrays_fill_17 (by decide) ?_
        exact ih _ (v2_b5 + 1) (upd w_a1_a_b5 v2_b5.toNatClampNeg x0) _ _ ls hfn (hP.sub [0] rfl) (hD.sub [0] (by decide) rfl) hS (lv_sub hl [1, 2, 0, 3] rfl)
  have hl := lv_entry ([.ref a1, .int x0]) (n := 4) (Nat.le_of_ble_eq_true rfl)
  rw [lg_entry_eq]
  generalize (lg_sl ([.ref a1, .int x0]) ++ List.replicate (4 - (lg_sl ([.ref a1, .int x0])).length) Slot.unset).toArray = ls at hl ⊢
  have hl : lv_has ls 4 [(0, .ref a1), (1, .int x0)] := hl
  unfold of_Arrays_fill at hfn
  refine lv_iconst (v := 0) hx hb dArrays_fill_0 (by decide) ?_
  refine lv_istore_n (lv' := [(2, .int 0), (0, .ref a1), (1, .int x0)]) hx hb dArrays_fill_1 rfl hl (by decide) rfl (fun ls hl => ?_)
  refine lv_aload_n hx hb dArrays_fill_2 rfl (lv_at hl 1 rfl) ?_
  refine va_alen hx hb hK hP 0 0 rfl rfl (v := nI n1) rfl dArrays_fill_3 ?_
  refine lv_istore_n (lv' := [(3, .int (nI n1)), (2, .int 0), (0, .ref a1), (1, .int x0)]) hx hb dArrays_fill_4 rfl hl (by decide) rfl (fun ls hl => ?_)
  exact blk5 20000 _ 0 f1 _ _ ls hfn (hP.sub [0] rfl) (hD.sub [0] (by decide) rfl) hS (lv_sub hl [2, 3, 1, 0] rfl)
def tf_Math_floorMod_II (x0 : Int32) : Int32 := (if 0 ≤ (x0 ^^^ 10) then ((x0 - x0 / 10 * 10)) else (if (x0 - x0 / 10 * 10) = 0 then ((x0 - x0 / 10 * 10)) else (((x0 - x0 / 10 * 10) + 10))))
set_option maxHeartbeats 4000000 in
set_option maxRecDepth 100000 in
theorem c_Math_floorMod_II (l : Launch) (dC : Nat → ClassId) (dI : Nat → Nat → Nat) (cA : ClassId × ClassId × ClassId) (x0 : Int32) : Met l yMath_floorMod_II wMath_floorMod_II ({ frames := 0, cells := 0, slots := 0, locals := 0 }) (va_Pc [.int x0, .int 10] (Rd (dC, dI) cA [])) (QcRead (tf_Math_floorMod_II x0)) 0 0 (fun _ => False) := by
  refine va_MetF (cc := cMath_floorMod_II) (maxL := 3) (ret := (some .int)) (by decide +kernel) rfl ?_
  intro p e s m args below meth c s₁ B hml hv
  obtain ⟨rfl, hN, hP, hK⟩ := hv
  have hx := B.exec
  have hb := B.bytes
  have hr := B.returns
  have hts := atoms_spec (ws := wMath_floorMod_II) B.pre
  have htg : ∀ w ∈ GW, w.before _ s = true := fun w h => hts w (List.mem_cons_of_mem _ h)
  have hown : s.vm.findClass R_Math = some m.cls := findClass_of_methodNamed B.named
  have hlocks := B.notSynchronized
  obtain ⟨rs, hfn⟩ : ∃ rs, (tf_Math_floorMod_II x0) = rs := ⟨_, rfl⟩
  try rw [hfn]
  have hl := lv_entry ([.int x0, .int 10]) (n := 3) (Nat.le_of_ble_eq_true rfl)
  rw [lg_entry_eq]
  generalize (lg_sl ([.int x0, .int 10]) ++ List.replicate (3 - (lg_sl ([.int x0, .int 10])).length) Slot.unset).toArray = ls at hl ⊢
  have hl : lv_has ls 3 [(0, .int x0), (1, .int 10)] := hl
  unfold tf_Math_floorMod_II at hfn
  refine lv_iload_n hx hb dMath_floorMod_II_0 rfl (lv_at hl 0 rfl) ?_
  refine lv_iload_n hx hb dMath_floorMod_II_1 rfl (lv_at hl 1 rfl) ?_
  refine lv_irem hx hb dMath_floorMod_II_2 (by decide) ?_
  refine lv_istore_n (lv' := [(2, .int (x0 - x0 / 10 * 10)), (0, .int x0), (1, .int 10)]) hx hb dMath_floorMod_II_3 rfl hl (by decide) rfl (fun ls hl => ?_)
  refine lv_iload_n hx hb dMath_floorMod_II_4 rfl (lv_at hl 1 rfl) ?_
  refine lv_iload_n hx hb dMath_floorMod_II_5 rfl (lv_at hl 2 rfl) ?_
  refine lv_ixor hx hb dMath_floorMod_II_6 ?_
  refine lv_if_ge (tgt := 18) hx hb dMath_floorMod_II_7 (by decide) (fun c_1 => ?_) (fun c_1 => ?_)
  · rw [if_pos c_1] at hfn
    refine lv_iload_n hx hb dMath_floorMod_II_18 rfl (lv_at hl 0 rfl) ?_
    subst hfn
    exact W.iret hx hb hr (fun t ht hW => ⟨rfl, ht⟩) (fun _ h => by cases h) dMath_floorMod_II_19
  · rw [if_neg c_1] at hfn
    refine lv_iload_n hx hb dMath_floorMod_II_10 rfl (lv_at hl 0 rfl) ?_
    refine lv_if_eq (tgt := 18) hx hb dMath_floorMod_II_11 (by decide) (fun c_2 => ?_) (fun c_2 => ?_)
    · rw [if_pos c_2] at hfn
      refine lv_iload_n hx hb dMath_floorMod_II_18 rfl (lv_at hl 0 rfl) ?_
      subst hfn
      exact W.iret hx hb hr (fun t ht hW => ⟨rfl, ht⟩) (fun _ h => by cases h) dMath_floorMod_II_19
    · rw [if_neg c_2] at hfn
      refine lv_iload_n hx hb dMath_floorMod_II_14 rfl (lv_at hl 0 rfl) ?_
      refine lv_iload_n hx hb dMath_floorMod_II_15 rfl (lv_at hl 2 rfl) ?_
      refine lv_iadd hx hb dMath_floorMod_II_16 ?_
      subst hfn
      exact W.iret hx hb hr (fun t ht hW => ⟨rfl, ht⟩) (fun _ h => by cases h) dMath_floorMod_II_17
def tf_Math_floorMod_JJ (x0 : Int64) : Int64 := (if 0 ≤ (lg_cmp (x0 ^^^ 10) 0) then ((x0 - x0 / 10 * 10)) else (if (lg_cmp (x0 - x0 / 10 * 10) 0) = 0 then ((x0 - x0 / 10 * 10)) else (((x0 - x0 / 10 * 10) + 10))))
set_option maxHeartbeats 4000000 in
set_option maxRecDepth 100000 in
theorem c_Math_floorMod_JJ (l : Launch) (dC : Nat → ClassId) (dI : Nat → Nat → Nat) (cA : ClassId × ClassId × ClassId) (x0 : Int64) : Met l yMath_floorMod_JJ wMath_floorMod_JJ ({ frames := 0, cells := 0, slots := 0, locals := 0 }) (va_Pc [.long x0, .long 10] (Rd (dC, dI) cA [])) (k2_QcV (.long (tf_Math_floorMod_JJ x0))) 0 0 (fun _ => False) := by
  refine va_MetF (cc := cMath_floorMod_JJ) (maxL := 6) (ret := (some .long)) (by decide +kernel) rfl ?_
  intro p e s m args below meth c s₁ B hml hv
  obtain ⟨rfl, hN, hP, hK⟩ := hv
  have hx := B.exec
  have hb := B.bytes
  have hr := B.returns
  have hts := atoms_spec (ws := wMath_floorMod_JJ) B.pre
  have htg : ∀ w ∈ GW, w.before _ s = true := fun w h => hts w (List.mem_cons_of_mem _ h)
  have hown : s.vm.findClass R_Math = some m.cls := findClass_of_methodNamed B.named
  have hlocks := B.notSynchronized
  obtain ⟨rs, hfn⟩ : ∃ rs, (tf_Math_floorMod_JJ x0) = rs := ⟨_, rfl⟩
  try rw [hfn]
  have hl := lv_entry ([.long x0, .long 10]) (n := 6) (Nat.le_of_ble_eq_true rfl)
  rw [lg_entry_eq]
  generalize (lg_sl ([.long x0, .long 10]) ++ List.replicate (6 - (lg_sl ([.long x0, .long 10])).length) Slot.unset).toArray = ls at hl ⊢
  have hl : lv_has ls 6 [(0, .long x0), (2, .long 10)] := hl
  unfold tf_Math_floorMod_JJ at hfn
  refine lv_lload_n hx hb dMath_floorMod_JJ_0 rfl (lv_at hl 0 rfl) ?_
  refine lv_lload_n hx hb dMath_floorMod_JJ_1 rfl (lv_at hl 1 rfl) ?_
  refine lv_lrem hx hb dMath_floorMod_JJ_2 (by decide) ?_
  refine lv_lstore (lv' := [(4, .long (x0 - x0 / 10 * 10)), (0, .long x0), (2, .long 10)]) hx hb dMath_floorMod_JJ_3 hl (by decide) rfl (fun ls hl => ?_)
  refine lv_lload_n hx hb dMath_floorMod_JJ_5 rfl (lv_at hl 1 rfl) ?_
  refine lv_lload_n hx hb dMath_floorMod_JJ_6 rfl (lv_at hl 2 rfl) ?_
  refine lv_lxor hx hb dMath_floorMod_JJ_7 ?_
  refine lv_lconst (v := 0) hx hb dMath_floorMod_JJ_8 (by decide) ?_
  refine W.lcmp hx hb dMath_floorMod_JJ_9 ?_
  refine lv_if_ge (tgt := 25) hx hb dMath_floorMod_JJ_10 (by decide) (fun c_1 => ?_) (fun c_1 => ?_)
  · rw [if_pos c_1] at hfn
    refine lv_lload hx hb dMath_floorMod_JJ_25 (lv_at hl 0 rfl) ?_
    subst hfn
    exact W.lret hx hb hr (fun t ht hW => ⟨rfl, ht⟩) (fun _ h => by cases h) dMath_floorMod_JJ_27
  · rw [if_neg c_1] at hfn
    refine lv_lload hx hb dMath_floorMod_JJ_13 (lv_at hl 0 rfl) ?_
    refine lv_lconst (v := 0) hx hb dMath_floorMod_JJ_15 (by decide) ?_
    refine W.lcmp hx hb dMath_floorMod_JJ_16 ?_
    refine lv_if_eq (tgt := 25) hx hb dMath_floorMod_JJ_17 (by decide) (fun c_2 => ?_) (fun c_2 => ?_)
    · rw [if_pos c_2] at hfn
      refine lv_lload hx hb dMath_floorMod_JJ_25 (lv_at hl 0 rfl) ?_
      subst hfn
      exact W.lret hx hb hr (fun t ht hW => ⟨rfl, ht⟩) (fun _ h => by cases h) dMath_floorMod_JJ_27
    · rw [if_neg c_2] at hfn
      refine lv_lload hx hb dMath_floorMod_JJ_20 (lv_at hl 0 rfl) ?_
      refine lv_lload_n hx hb dMath_floorMod_JJ_22 rfl (lv_at hl 2 rfl) ?_
      refine lv_ladd hx hb dMath_floorMod_JJ_23 ?_
      subst hfn
      exact W.lret hx hb hr (fun t ht hW => ⟨rfl, ht⟩) (fun _ h => by cases h) dMath_floorMod_JJ_24
