/-! CALLS OVER WORLDS THAT ARE NOT LAID OUT -/
def RmOk (rm : Room) (maxL mc ms : Nat) : Prop := rm.cells = mc ∧ rm.slots = ms ∧ rm.frames + 1 ≤ 8 ∧ 8 + (maxL + 11) + rm.locals ≤ 290
/-- a call that answers r; the world u becomes u' -/
def Do (l : Launch) (D : va_G) (cA : ClassId × ClassId × ClassId) (y : MethodName) (ws : List Cond) (maxL : Nat) (As : List Value) (u : va_W) (r : Int32) (u' : va_W) : Prop :=
  ∃ (w wr w1 : va_W) (isC isR isP : List Nat) (rm : Room), RmOk rm maxL 0 0 ∧ isC.map (fun i => u[i]?) = w.map some ∧ isR.map (fun i => u[i]?) = wr.map some ∧ va_nd isC = true ∧ va_nd isR = true ∧ (∀ i ∈ isR, i ∉ isC) ∧ isP.map (fun i => (wr ++ w1)[i]?) = u'.map some ∧ va_nd isP = true ∧ ∀ zz, Met l y ws rm (va_Pc As (Wr D cA zz w)) (va_Qi (fun r9 w9 => r9 = r ∧ w9 = w1) (At D cA (va_A w zz)) (va_A w zz)) 0 0 (va_A w zz)
/-- a call that answers r and changes nothing -/
def Rds (l : Launch) (D : va_G) (cA : ClassId × ClassId × ClassId) (y : MethodName) (ws : List Cond) (maxL : Nat) (As : List Value) (u : va_W) (r : Int32) : Prop :=
  ∃ (w : va_W) (isC : List Nat) (rm : Room), RmOk rm maxL 0 0 ∧ isC.map (fun i => u[i]?) = w.map some ∧ Met l y ws rm (va_Pc As (Rd D cA w)) (QcRead r) 0 0 (fun _ => False)
/-- a call that throws an X -/
def Thr (l : Launch) (D : va_G) (cA : ClassId × ClassId × ClassId) (y : MethodName) (ws : List Cond) (maxL : Nat) (As : List Value) (u : va_W) (X : String) : Prop :=
  ∃ (w : va_W) (isC : List Nat) (rm : Room), RmOk rm maxL 1 6 ∧ isC.map (fun i => u[i]?) = w.map some ∧ MetT l y ws rm (va_Pc As (fun U => Rd D cA w U ∧ Th U)) X
theorem nd_iff : ∀ l : List Nat, va_nd l = true ↔ l.Nodup
  | [] => by simp [va_nd]
  | a :: l => by simp [va_nd, nd_iff l]
theorem map_some_mem {u w : va_W} {is : List Nat} (h : is.map (fun i => u[i]?) = w.map some) {i : Nat} (hi : i ∈ is) : ∃ q, u[i]? = some q := by
  have h1 : u[i]? ∈ w.map some := by rw [← h]; exact List.mem_map_of_mem hi
  obtain ⟨q, -, hq⟩ := List.mem_map.mp h1
  exact ⟨q, hq.symm⟩
theorem map_lt {u w : va_W} {is : List Nat} (h : is.map (fun i => u[i]?) = w.map some) {i : Nat} (hi : i ∈ is) : i < u.length := by
  obtain ⟨q, hq⟩ := map_some_mem h hi
  exact (List.getElem?_eq_some_iff.mp hq).1
theorem map_left {u v w : va_W} {is : List Nat} (h : is.map (fun i => u[i]?) = w.map some) : is.map (fun i => (u ++ v)[i]?) = w.map some := by
  rw [← h]
  refine List.map_congr_left (fun i hi => ?_)
  exact List.getElem?_append_left (map_lt h hi)
def shl (n k : Nat) : List Nat := (List.range k).map (fun i => n + i)
theorem shl_mem {n k i : Nat} (h : i ∈ shl n k) : n ≤ i := by
  obtain ⟨j, -, rfl⟩ := List.mem_map.mp h
  omega
theorem shl_nd (n k : Nat) : (shl n k).Nodup := by
  unfold shl
  rw [List.nodup_iff_pairwise_ne, List.pairwise_map]
  exact (List.nodup_range (n := k)).imp (fun h e => h (by omega))
theorem shl_map (u v : va_W) : (shl u.length v.length).map (fun i => (u ++ v)[i]?) = v.map some := by
  refine List.ext_getElem? (fun i => ?_)
  unfold shl
  rw [List.map_map, List.getElem?_map, List.getElem?_map]
  by_cases h : i < v.length
  · rw [List.getElem?_range h]
    show some ((u ++ v)[u.length + i]?) = _
    rw [List.getElem?_append_right (by omega), Nat.add_sub_cancel_left, List.getElem?_eq_getElem h]
    rfl
  · rw [List.getElem?_eq_none (by rw [List.length_range]; omega), List.getElem?_eq_none (by omega)]
    rfl
theorem app_map {u v w : va_W} {is : List Nat} (h : is.map (fun i => u[i]?) = w.map some) : (is ++ shl u.length v.length).map (fun i => (u ++ v)[i]?) = (w ++ v).map some := by
  rw [List.map_append, List.map_append, map_left h, shl_map]
theorem app_nd {u v w : va_W} {is : List Nat} (h : is.map (fun i => u[i]?) = w.map some) (hn : va_nd is = true) : va_nd (is ++ shl u.length v.length) = true := by
  rw [nd_iff, List.nodup_append]
  refine ⟨(nd_iff _).mp hn, shl_nd _ _, fun a ha b hb e => ?_⟩
  have h1 := map_lt h ha
  have h2 := shl_mem hb
  omega
theorem app_dis {u v w : va_W} {isC isR : List Nat} (h : isC.map (fun i => u[i]?) = w.map some) (hd : ∀ i ∈ isR, i ∉ isC) : ∀ i ∈ isR ++ shl u.length v.length, i ∉ isC := by
  intro i hi hc
  rcases List.mem_append.mp hi with h1 | h1
  · exact hd i h1 hc
  · have h2 := map_lt h hc
    have h3 := shl_mem h1
    omega
theorem P_left {D : va_G} {a b v : va_W} {H : Heap} {is : List Nat} (h : is.map (fun i => a[i]?) = b.map some) (hP : va_P D vwCl (a ++ v) H) : va_P D vwCl (b ++ v) H := hP.sub _ (fm_of_map (app_map h))
theorem D_left {A : Nat → Prop} {a b v : va_W} {is : List Nat} (h : is.map (fun i => a[i]?) = b.map some) (hn : va_nd is = true) (hD : va_D A (a ++ v)) : va_D A (b ++ v) := hD.sub _ (app_nd h hn) (app_map h)
theorem P_rot {D : va_G} {b c : va_W} {H : Heap} (h : va_P D vwCl (b ++ c) H) : va_P D vwCl (c ++ b) H := va_P.swap (a := []) h
theorem D_rot {A : Nat → Prop} {b c : va_W} (h : va_D A (b ++ c)) : va_D A (c ++ b) := va_D.swap (a := []) h
section DO
variable {p : Program} {l : Launch} {e : Env} {R : Room} {s : State} {m : MethodId} {args : Array Value} {below : List Frame} {meth : Method} {c : Code} {H : Heap} {locs : List Loc} {cells slots : Nat} {Q : State → Prop}
variable {y : MethodName} {bytes cc : ByteArray} {maxL nL n index pc ci : Nat} {ret : Option FieldType} {ws Ts : List Cond} {own C : String} {b : Addr} {As rest st0 : List Value} {ls : Array Slot} {D : va_G} {cA : ClassId × ClassId × ClassId} {u u' v : va_W} {r : Int32} {A : Nat → Prop} {q : vw_C} {fs : List Value}
theorem hd_left {u v : va_W} {x : Nat × va_E} (h : u[0]? = some x) : (u ++ v)[0]? = some x := by
  rw [List.getElem?_append_left (List.getElem?_eq_some_iff.mp h).1]; exact h
theorem do_V (S : CallFix p m c cc nL s args Ts own) (hd : Do l D cA y ws maxL (.ref b :: As) u r u') (cw : ∀ rm, RmOk rm maxL 0 0 → CallW R s args own C index y bytes maxL ret ws rm 0 0 n) (hci : vwCl[ci]? = some q) (hq : q.1 = C) (h0 : u[0]? = some (b, .inr (ci, fs))) (hN : NW s) (hP : va_P D vwCl (u ++ v) H) (hD : va_D A (u ++ v)) (hS : va_S A s.heap H locs) (hA : ∀ q, s.heap.size ≤ q → A q) (hK : va_K D vwCl (tyl cA) s) (hn : As.length = n) (hsize : ls.size = nL) (hst : st0 = As.reverse ++ .ref b :: rest) (hW : (rest.map fun v => v.category).sum ≤ 8) (hdg : decode cc pc = .ok (.invokevirtual index, 3)) (hf : cells ≤ R.cells ∧ slots ≤ R.slots)
    (kk : ∀ (H1 : Heap) (locs1 : List Loc), va_P D vwCl (u' ++ v) H1 → va_D A (u' ++ v) → va_S A s.heap H1 locs1 → W p l e R s m args below meth c H1 locs1 cells slots Q (F0 m (pc + 3) ls (.int r :: rest))) : W p l e R s m args below meth c H locs cells slots Q (F0 m pc ls st0) := by
  obtain ⟨w, wr, w1, isC, isR, isP, rm, hrm, hC, hR, hnC, hnR, hdis, hPm, hnP, hM⟩ := hd
  subst hq
  refine wr_Vi (wr := wr ++ v) (w1 := w1) (As := As) (rest := rest) S (hM H.size) (cw rm hrm) (va_recv hK hP hci (q0 := 0) (hd_left h0)) hN hP hD hS hA hK isC (isR ++ shl u.length v.length) (map_left hC) (app_map hR) hnC (app_nd hR hnR) (app_dis hC hdis) hn hsize hst hW hdg hf (fun H1 locs1 hP1 hD1 hS1 => ?_)
  exact kk H1 locs1 (P_left hPm (va_P.swap hP1)) (D_left hPm hnP (va_D.swap hD1)) hS1
theorem rds_V (S : CallFix p m c cc nL s args Ts own) (hd : Rds l D cA y ws maxL (.ref b :: As) u r) (cw : ∀ rm, RmOk rm maxL 0 0 → CallW R s args own C index y bytes maxL ret ws rm 0 0 n) (hci : vwCl[ci]? = some q) (hq : q.1 = C) (h0 : u[0]? = some (b, .inr (ci, fs))) (hN : NW s) (hP : va_P D vwCl (u ++ v) H) (hK : va_K D vwCl (tyl cA) s) (hn : As.length = n) (hsize : ls.size = nL) (hst : st0 = As.reverse ++ .ref b :: rest) (hW : (rest.map fun v => v.category).sum ≤ 8) (hdg : decode cc pc = .ok (.invokevirtual index, 3)) (hf : cells ≤ R.cells ∧ slots ≤ R.slots)
    (kk : W p l e R s m args below meth c H locs cells slots Q (F0 m (pc + 3) ls (.int r :: rest))) : W p l e R s m args below meth c H locs cells slots Q (F0 m pc ls st0) := by
  obtain ⟨w, isC, rm, hrm, hC, hM⟩ := hd
  subst hq
  exact rd_V (As := As) (rest := rest) S hM (cw rm hrm) (va_recv hK hP hci (q0 := 0) (hd_left h0)) hN (hP.sub isC (fm_of_map (map_left hC))) hK hn hsize hst hW hdg hf kk
theorem thr_V {Xn : String} (S : CallFix p m c cc nL s args Ts own) (hd : Thr l D cA y ws maxL (.ref b :: As) u Xn) (cw : ∀ rm, RmOk rm maxL 1 6 → CallW R s args own C index y bytes maxL ret ws rm 1 6 n) (hci : vwCl[ci]? = some q) (hq : q.1 = C) (h0 : u[0]? = some (b, .inr (ci, fs))) (hN : NW s) (hT : Th s) (hkp : KpS s.heap H) (hP : va_P D vwCl (u ++ v) H) (hD : va_D A (u ++ v)) (hS : va_S A s.heap H locs) (hK : va_K D vwCl (tyl cA) s) (hn : As.length = n) (hsize : ls.size = nL) (hst : st0 = As.reverse ++ .ref b :: rest) (hW : (rest.map fun v => v.category).sum ≤ 8) (hdg : decode cc pc = .ok (.invokevirtual index, 3)) (hf : cells + 1 ≤ R.cells ∧ slots + 6 ≤ R.slots)
    {hpc a0 b0 ct : Nat} {x' : MethodName} {ret' : Option FieldType} (hnm : s.methodNamed? x' = some m) (hcw : (Cond.codeWith x' cc nL ret' [(a0, b0, hpc, ct)]).before args s = true) (hcov : (decide (a0 ≤ pc) && decide (pc < b0)) = true) (hct : ct ≠ 0) (hcl : (Cond.classLink own ct Xn).before args s = true)
    (kk : ∀ (H1 : Heap) (x : Addr), va_P D vwCl (u ++ v) H1 → va_D A (u ++ v) → va_S A s.heap H1 locs → W p l e R s m args below meth c H1 locs (cells + 1) (slots + 6) Q (F0 m hpc ls [.ref x])) : W p l e R s m args below meth c H locs cells slots Q (F0 m pc ls st0) := by
  obtain ⟨w, isC, rm, hrm, hC, hM⟩ := hd
  subst hq
  have hPw := hP.sub isC (fm_of_map (map_left (v := v) hC))
  refine caughtV S hM (cw rm hrm) ⟨?_, va_recv hK hP hci (q0 := 0) (hd_left h0), fun U hU hW => ?_⟩ hn hsize hst hW hdg hf hnm hcw hcov hct hcl (fun H1 x hz hk => ?_)
  · intro a U g mk z
    exact ⟨z.1, (Rd_blind (As := .ref b :: As) (D := D) (cA := cA) (w := w) a U g mk ⟨z.1, z.2.1⟩).2, z.2.2.calling⟩
  · exact ⟨rfl, (Rd_at (As := .ref b :: As) hN hPw hK U hU hW).2, hT.moved hW (by rw [hU]; exact hkp)⟩
  · refine kk H1 x (hP.kept (fun k q0 hq0 => hk _ (hP k q0 hq0).lt)) hD ⟨Nat.le_trans hS.1 hz, fun q0 h1 h2 => ?_, hS.2.2⟩
    rw [hk q0 (Nat.lt_of_lt_of_le h1 hS.1)]
    exact hS.2.1 q0 h1 h2
/-! a static method whose code has handlers -/
abbrev CallX (R : Room) (s : State) (args : Array Value) (own : String) (index : Nat) (y : MethodName) (bytes : ByteArray) (maxL : Nat) (ret : Option FieldType) (hh : List (Nat × Nat × Nat × Nat)) (ws : List Cond) (rm : Room) (mc ms n : Nat) : Prop :=
  rm.cells = mc ∧ rm.slots = ms ∧ rm.frames + 1 ≤ R.frames ∧ 8 + (maxL + 11) + rm.locals ≤ R.locals ∧ (∀ w ∈ ws, ∀ (a' : Array Value) (U : State), s.WarmedH U.vm → w.before a' U = true) ∧ Cond.codeWith y bytes maxL ret hh ∈ ws ∧
  (Cond.codeWith y bytes maxL ret hh).before args s = true ∧ (Cond.initialized y.cls).before args s = true ∧ (y.cls ≠ "java/lang/invoke/MethodHandle" ∧ y.cls ≠ "java/lang/invoke/VarHandle") ∧ (∀ sig, parseMethodDescriptor y.desc = some sig → n = sig.parameters.length) ∧ (Cond.methodLink own index y).before args s = true ∧ (Cond.static y).before args s = true
theorem runX {hh : List (Nat × Nat × Nat × Nat)} {mc ms : Nat} {rm : Room} {Pc : Array Value → State → Prop} {Qc : Array Value → State → Outcome → State → Prop} {free : Addr → Prop} {g : JFrame} (S : CallFix p m c cc nL s args Ts own) (hM : Met l y ws rm Pc Qc mc ms free) (cw : CallX R s args own index y bytes maxL ret hh ws rm mc ms n) (hp : PreS s H Pc As)
    (hg : g.method = m) (hn : As.length = n) (hsize : g.locals.size = nL) (hstack : g.stack = As.reverse ++ rest) (hW : 2 * g.monitorRoom + (rest.map fun v => v.category).sum ≤ 8) (hdg : decode cc g.pc = .ok (.invokestatic index, 3)) (hf : cells + mc ≤ R.cells ∧ slots + ms ≤ R.slots) :
    va_Run p l e R s m args below meth c H locs cells slots mc ms g rest (Qc As.toArray) (free) := by
  obtain ⟨hrc, hrs, hfr, hlo, hws, hcw, hcode, hini, hy, hlen, hl, hstt⟩ := cw
  have hK : Back l R p e below s args y 3 8 (PreOf R mc ms Pc) (PostOf Qc mc ms free) := va_backW (bytes := bytes) (maxL := maxL) (ret := ret) (hh := hh) hM hp.1 hrc hrs hfr hlo hws hcw (fun a' U hW => word_at hW (Or.inl (by first | rfl | simp [Cond.onTables, Cond.keeps, Cond.steady])) hini)
  obtain ⟨hx, hb, hml, ho, -⟩ := S
  intro T hT X
  obtain ⟨mk, methM, cM, hnamed, hmethM, -, -, -, -, -, -, hsigM⟩ := Cond.codeWith_spec hcode
  have hstatic : methM.isStatic = true := Cond.static_spec hnamed hmethM hstt
  obtain ⟨kP, hkP, -⟩ := className_of_methodNamed hnamed
  have hinitP : kP.init = .initialized := Cond.initialized_spec (findClass_of_methodNamed hnamed) hkP hini
  obtain ⟨vm₁, X₁, hstep₁⟩ := X.invokestatic hx ho hl hnamed hmethM hstatic hkP hinitP hy (g := g) hg (argsL := As) (rest := rest) (hn.trans (hlen _ hsigM)) hstack (by rw [hb]; exact hdg)
  obtain ⟨v, B, X', hpost, hsteps⟩ := hK m meth c ⟨T.setVm vm₁, locs, cells, slots⟩ { g with stack := rest } (.invokestatic index) mk As.toArray X₁ hg (hsize.trans hml.symm) (by rw [hb]; exact hdg) hW (X₁.named hnamed) ⟨hf.1, hf.2, hp.2 (T.setVm vm₁) hT X₁.warmed⟩
  obtain ⟨U', l2, c2, s2⟩ := B
  obtain ⟨g', mk', t, L, e1, e2, hq, h1, hL, h2, h3⟩ := hpost
  dsimp only [Pt.U, Pt.locs, Pt.cells, Pt.slots] at X' e1 e2 h1 h2 h3 hsteps
  subst h1; subst h2; subst h3
  exact ⟨v, (T.setVm vm₁).calling g' mk' As.toArray, t, U', L, hT, X', hL, e1, e2, hq, fun target h => hstep₁ _ fun acts => by rw [doInvoke_state]; exact hsteps.trans h⟩
/-- a helper of the law: over the whole world u, with what a throw goes by; it may make an exception -/
theorem run_X {hh : List (Nat × Nat × Nat × Nat)} {rm : Room} (S : CallFix p m c cc nL s args Ts own) (hM : Met l y ws rm (va_Pc As (fun U => Wr D cA H.size u U ∧ Th U)) (va_Qi (fun r9 w9 => r9 = r ∧ w9 = u') (At D cA (va_A u H.size)) (va_A u H.size)) 1 6 (va_A u H.size)) (cw : CallX R s args own index y bytes maxL ret hh ws rm 1 6 n) (hN : NW s) (hT : Th s) (hkp : KpS s.heap H) (hP : va_P D vwCl (u ++ v) H) (hD : va_D A (u ++ v)) (hS : va_S A s.heap H locs) (hA : ∀ q, s.heap.size ≤ q → A q) (hK : va_K D vwCl (tyl cA) s) (hn : As.length = n) (hsize : ls.size = nL) (hst : st0 = As.reverse ++ rest) (hW : (rest.map fun v => v.category).sum ≤ 8) (hdg : decode cc pc = .ok (.invokestatic index, 3)) (hf : cells + 1 ≤ R.cells ∧ slots + 6 ≤ R.slots)
    (kk : ∀ (H1 : Heap) (locs1 : List Loc), va_P D vwCl (u' ++ v) H1 → va_D A (u' ++ v) → va_S A s.heap H1 locs1 → W p l e R s m args below meth c H1 locs1 (cells + 1) (slots + 6) Q (F0 m (pc + 3) ls (.int r :: rest))) : W p l e R s m args below meth c H locs cells slots Q (F0 m pc ls st0) := by
  have hC0 : (shl 0 u.length).map (fun i => u[i]?) = u.map some := shl_map [] u
  have hC : (shl 0 u.length).map (fun i => (u ++ v)[i]?) = u.map some := map_left hC0
  have hR : (shl u.length v.length).map (fun i => (u ++ v)[i]?) = v.map some := shl_map u v
  have hnC : va_nd (shl 0 u.length) = true := (nd_iff _).mpr (shl_nd _ _)
  have hnR : va_nd (shl u.length v.length) = true := (nd_iff _).mpr (shl_nd _ _)
  have hdis : ∀ i ∈ shl u.length v.length, i ∉ shl 0 u.length := fun i h1 h2 => by
    have h3 := shl_mem h1
    have h4 := map_lt hC0 h2
    omega
  have hFc := va_free hD hS hA (shl 0 u.length) hC
  have hPu := hP.sub _ (fm_of_map hC)
  have hDu := hD.sub _ hnC hC
  have hr : va_Run p l e R s m args below meth c H locs cells slots 1 6 (F0 m pc ls st0) rest (va_Qi (fun r9 w9 => r9 = r ∧ w9 = u') (At D cA (va_A u H.size)) (va_A u H.size) As.toArray) (va_A u H.size) := by
    refine runX (g := F0 m pc ls st0) S hM cw ⟨?_, fun U hU hW => ?_⟩ rfl hn hsize hst (lv_room hW) hdg hf
    · intro a U g mk z
      exact ⟨z.1, (Wr_blind (As := As) (D := D) (cA := cA) (w := u) (sz := H.size) a U g mk ⟨z.1, z.2.1⟩).2, z.2.2.calling⟩
    · exact ⟨rfl, (Wr_at (As := As) hN hPu hK hDu U hU hW).2, hT.moved hW (by rw [hU]; exact hkp)⟩
  refine va_calli hr hS (fun q _ h => hFc q h) hFc (fun r2 u2 t H1 locs1 ht hvm hw hB hz1 hk1 hS1 => ?_)
  obtain ⟨rfl, rfl⟩ := hw
  obtain ⟨hP1, hK1, hD1⟩ := hB
  rw [ht] at hP1
  obtain ⟨hP2, hD2⟩ := va_join hP hD _ _ hC hR hnR hdis hk1 hFc hP1 hD1
  exact kk H1 locs1 (P_rot hP2) (D_rot hD2) hS1
end DO
theorem kp_S {A : Nat → Prop} {s : State} {H : Heap} {locs : List Loc} (hS : va_S A s.heap H locs) (hA : ∀ (a : Nat) (cell : Cell), s.heap[a]? = some cell → cell.vm.isStatics = true → ¬ A a) : KpS s.heap H := by
  intro a cell h1 h2
  rw [hS.2.1 a (Array.getElem?_eq_some_iff.mp h1).1 (hA a cell h1 h2)]
  exact h1
theorem at_none {D : va_G} {q : Nat × va_E} {H : Heap} (h : va_at D vwCl q H) {cell : Cell} (hc : H[q.1]? = some cell) : cell.vm.isStatics = false := by
  obtain ⟨a, e⟩ := q
  cases e with
  | inl x =>
    have h1 : H[a]? = some (vp_cell x.1 x.2) := h
    cases hc.symm.trans h1
    obtain ⟨c0, n0, f0⟩ := x
    rcases f0 with f | f | f | f | f <;> rfl
  | inr o =>
    obtain ⟨r, h1, cell', g1, g2, g3, -⟩ := h
    cases hc.symm.trans g1
    rw [g3]; rfl
theorem A_stat {D : va_G} {w : va_W} {H : Heap} (hP : va_P D vwCl w H) : ∀ (a : Nat) (cell : Cell), H[a]? = some cell → cell.vm.isStatics = true → ¬ va_A w H.size a := by
  intro a cell h1 h2 hA
  rcases hA with ⟨k, e, h⟩ | h
  · have := at_none (hP k _ h) h1
    rw [h2] at this; cases this
  · have := (Array.getElem?_eq_some_iff.mp h1).1
    omega
