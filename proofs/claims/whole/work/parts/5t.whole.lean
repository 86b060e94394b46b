
/-! THE START: what the tables know, and the law from its entry -/
theorem k_init {s : State} {args : Array Value} (htg : ∀ w ∈ GW, w.before args s = true) : ∃ (dC : Nat → ClassId) (dI : Nat → Nat → Nat) (cA : ClassId × ClassId × ClassId), va_K (dC, dI) vwCl (tyl cA) s := by
  obtain ⟨c0, i0, h0⟩ := u_known (C := R_Always) (T := T_Always) (N := 3) htg in_Always (htg _ wd_232)
  obtain ⟨c1, i1, h1⟩ := u_known (C := R_Chooser) (T := T_Chooser) (N := 6) htg in_Chooser (htg _ wd_130)
  obtain ⟨c2, i2, h2⟩ := u_known (C := R_Coin) (T := T_Coin) (N := 4) htg in_Coin (htg _ wd_219)
  obtain ⟨c3, i3, h3⟩ := u_known (C := R_Counters) (T := T_Counters) (N := 5) htg in_Counters (htg _ wd_96)
  obtain ⟨c4, i4, h4⟩ := u_known (C := R_Last) (T := T_Last) (N := 4) htg in_Last (htg _ wd_41)
  obtain ⟨c5, i5, h5⟩ := u_known (C := R_Loops) (T := T_Loops) (N := 8) htg in_Loops (htg _ wd_191)
  obtain ⟨c6, i6, h6⟩ := u_known (C := R_Own) (T := T_Own) (N := 5) htg in_Own (htg _ wd_113)
  obtain ⟨c7, i7, h7⟩ := u_known (C := R_Sums) (T := T_Sums) (N := 4) htg in_Sums (htg _ wd_177)
  obtain ⟨c8, i8, h8⟩ := u_known (C := R_Tagged) (T := T_Tagged) (N := 7) htg in_Tagged (htg _ wd_152)
  obtain ⟨c9, i9, h9⟩ := u_known (C := R_Waiting) (T := T_Waiting) (N := 4) htg in_Waiting (htg _ wd_242)
  obtain ⟨c10, i10, h10⟩ := u_known (C := R_PK) (T := T_PK) (N := 12) htg in_PK (htg _ wd_23)
  obtain ⟨c11, i11, h11⟩ := u_known (C := R_Md) (T := T_Md) (N := 31) htg in_Md (htg _ wd_787)
  obtain ⟨a0, ak, ac, a1, a2, a3⟩ := Cond.arrayClass_spec (htg _ wd_94)
  obtain ⟨b0, bk, bc, b1, b2, b3⟩ := Cond.arrayClass_spec (htg _ wd_889)
  obtain ⟨d0, dk, dc, d1, d2, d3⟩ := Cond.arrayClass_spec (htg _ wd_1030)
  refine ⟨fun k => match k with | 0 => c0 | 1 => c1 | 2 => c2 | 3 => c3 | 4 => c4 | 5 => c5 | 6 => c6 | 7 => c7 | 8 => c8 | 9 => c9 | 10 => c10 | _ => c11, fun k => match k with | 0 => i0 | 1 => i1 | 2 => i2 | 3 => i3 | 4 => i4 | 5 => i5 | 6 => i6 | 7 => i7 | 8 => i8 | 9 => i9 | 10 => i10 | _ => i11, (a0, b0, d0), fun c q hq => ?_, fun k q hk => ?_⟩
  · match c, hq with
    | 0, hq => cases hq; exact h0
    | 1, hq => cases hq; exact h1
    | 2, hq => cases hq; exact h2
    | 3, hq => cases hq; exact h3
    | 4, hq => cases hq; exact h4
    | 5, hq => cases hq; exact h5
    | 6, hq => cases hq; exact h6
    | 7, hq => cases hq; exact h7
    | 8, hq => cases hq; exact h8
    | 9, hq => cases hq; exact h9
    | 10, hq => cases hq; exact h10
    | 11, hq => cases hq; exact h11
    | k + 12, hq => cases hq
  · match k, hk with
    | 0, hk => cases hk; exact ⟨fun n z => ⟨fun k h => (by cases h), ak, a2, ac, a3⟩, a1⟩
    | 1, hk => cases hk; exact ⟨fun n z => ⟨fun k h => (by cases h), bk, b2, bc, b3⟩, b1⟩
    | 2, hk => cases hk; exact ⟨fun n z => ⟨fun k h => (by cases h), dk, d2, dc, d3⟩, d1⟩
    | k + 3, hk => cases hk
theorem nw_tab {w : Cond} (h : isNw w = true) : w.onTables = true := by cases w <;> first | rfl | cases h
theorem nw_init {s : State} {args : Array Value} (hts : ∀ w ∈ lw_tbl, w.before args s = true) : NW s := by
  intro w hw
  have h1 := List.all_eq_true.mp nws_ok w hw
  obtain ⟨i, -, hi⟩ := List.mem_filterMap.mp hw
  exact va_Nw.of (nw_tab h1) (hts w (List.mem_append_right _ (List.mem_of_getElem? hi)))
theorem thD_in : ∀ w ∈ thD, w ∈ tables_1 := by decide +kernel
theorem stl_in : (Cond.laysStatic Bundle.tN "UNASSIGNED_STACK" Bundle.steD ∈ tables_1) ∧ (Cond.laysStatic Bundle.tN "SUPPRESSED_SENTINEL" Bundle.listD ∈ tables_1) := ⟨List.mem_of_getElem? (i := 697) (by decide +kernel), List.mem_of_getElem? (i := 699) (by decide +kernel)⟩
theorem str_in : ∀ q ∈ thW, Cond.stringRef R_PK q.1 q.2 ∈ tables_1 := by
  intro q hq
  simp only [thW, List.mem_cons, List.not_mem_nil, or_false] at hq
  rcases hq with rfl | rfl | rfl
  · exact List.mem_of_getElem? (i := 711) (by decide +kernel)
  · exact List.mem_of_getElem? (i := 755) (by decide +kernel)
  · exact List.mem_of_getElem? (i := 779) (by decide +kernel)
theorem th_init {s : State} {args : Array Value} (hts : ∀ w ∈ lw_tbl, w.before args s = true) (hpk : ∃ c, s.vm.findClass R_PK = some c) (h1 : (Cond.isRef (.static Bundle.tN "UNASSIGNED_STACK" Bundle.steD)).before args s = true) (h2 : (Cond.isRef (.static Bundle.tN "SUPPRESSED_SENTINEL" Bundle.listD)).before args s = true) : Th s := by
  have tb : ∀ w ∈ tables_1, w.before args s = true := fun w h => hts w (List.mem_append_right _ h)
  obtain ⟨c, hc⟩ := hpk
  refine ⟨⟨tb _ stl_in.1, h1⟩, ⟨tb _ stl_in.2, h2⟩, fun q hq => ?_, fun w hw => va_Nw.of (thD_tab w hw) (tb w (thD_in w hw))⟩
  have h := tb _ (str_in q hq)
  obtain ⟨-, -, -, a, -, -, -, -, -, hev⟩ := Cond.stringRef_spec hc h
  exact ⟨a, h, hev⟩
theorem kinds (x : Int32) : tf_Math_floorMod_II x = 0 ∨ tf_Math_floorMod_II x = 1 ∨ tf_Math_floorMod_II x = 2 ∨ tf_Math_floorMod_II x = 3 ∨ tf_Math_floorMod_II x = 4 ∨ tf_Math_floorMod_II x = 5 ∨ tf_Math_floorMod_II x = 6 ∨ tf_Math_floorMod_II x = 7 ∨ tf_Math_floorMod_II x = 8 ∨ tf_Math_floorMod_II x = 9 := by
  have h := i_floor x
  have h1 : 0 ≤ x.toInt % 10 ∧ x.toInt % 10 < 10 := ⟨by omega, by omega⟩
  generalize tf_Math_floorMod_II x = y at h
  generalize x.toInt % 10 = z at h h1
  have e : ∀ k : Int32, y.toInt = k.toInt → y = k := fun k hk => Int32.toInt_inj.mp hk
  rcases (show z = 0 ∨ z = 1 ∨ z = 2 ∨ z = 3 ∨ z = 4 ∨ z = 5 ∨ z = 6 ∨ z = 7 ∨ z = 8 ∨ z = 9 by omega) with rfl | rfl | rfl | rfl | rfl | rfl | rfl | rfl | rfl | rfl
  · exact Or.inl (e 0 h)
  · exact Or.inr (Or.inl (e 1 h))
  · exact Or.inr (Or.inr (Or.inl (e 2 h)))
  · exact Or.inr (Or.inr (Or.inr (Or.inl (e 3 h))))
  · exact Or.inr (Or.inr (Or.inr (Or.inr (Or.inl (e 4 h)))))
  · exact Or.inr (Or.inr (Or.inr (Or.inr (Or.inr (Or.inl (e 5 h))))))
  · exact Or.inr (Or.inr (Or.inr (Or.inr (Or.inr (Or.inr (Or.inl (e 6 h)))))))
  · exact Or.inr (Or.inr (Or.inr (Or.inr (Or.inr (Or.inr (Or.inr (Or.inl (e 7 h))))))))
  · exact Or.inr (Or.inr (Or.inr (Or.inr (Or.inr (Or.inr (Or.inr (Or.inr (Or.inl (e 8 h)))))))))
  · exact Or.inr (Or.inr (Or.inr (Or.inr (Or.inr (Or.inr (Or.inr (Or.inr (Or.inr (e 9 h)))))))))
theorem no_trace {l : Launch} (h : l.flags = flags0) : l.stackTraces = false := by
  unfold Launch.stackTraces
  rw [h]
  decide +kernel
/-! THE CLAIM OUT OF ONE WALK OF THE LAW'S BODY. Your part is whole_start (and what it stands on); all else here is the same for every law, but numbers. -/
def R_law : String := "PredictorKindsLaw"
def lw_P (b : Addr) (xs : List Int32) (args : Array Value) (s : State) : Prop := args = #[.ref b] ∧ s.IntsAt b xs ∧ xs.length ≤ 1539 ∧ (Jvm.Cond.and given_1 narrow_1).before args s = true
def lw_Q (_ : Array Value) (s : State) (o : Outcome) (t : State) : Prop := o = .returned (some (.int 1)) ∧ Framed s o t [] 601024 7293000
def lw_Z (below : List Frame) (a : Array Value) (s : State) : State → Prop := fun t => ∃ o, t.status = .running ∧ Ended t below o ∧ lw_Q a s o t
/-- the law's own end, with 1 on the stack, nothing written that was there before, its room as the claim has it -/
theorem lw_ret {p : Program} {l : Launch} {e : Env} {s : State} {m : MethodId} {below : List Frame} {meth : Method} {c : Code} {b : Nat} (hx : p.tables.exec = Jvm.exec) (hb : c.code = code) (hr : meth.sig.returnType = ret) (hlocks : meth.locks = false) {pc : Nat} {H : Heap} {ls : Array Slot} (hdg : decode code pc = .ok (.ireturn, 1)) : W p l e room_1 s m #[Value.ref b] below meth c H [] 601024 7293000 (lw_Z below #[Value.ref b] s) (F0 m pc ls [.int 1]) := by
  intro T hT X
  obtain ⟨fs, hret, hrun, hended, hW, hframe⟩ := X.leave (v := some (.int 1)) (hlocks := hlocks) (fun h => by rw [hr] at h; cases h)
  have hmeth' : T.vm.method? m = some meth := X.method'
  refine ⟨T.setFrames fs, ?_, .returned (some (.int 1)), hrun, hended, rfl, ⟨_, rfl⟩, hW, hframe⟩
  jvm_step X.here [X.here.top, hx, hb, hdg, hmeth', hr, ret, narrow_b1]
  (try refine ⟨rfl, ?_⟩); (try refine ⟨rfl, ?_⟩)
  first | (intro acts; rw [hret _ acts rfl rfl rfl]) | rw [hret _ _ rfl rfl rfl]
  exact Steps.refl _
/-- what holds at the law's entry: the machine, the code, the tables' words (any of lw_tbl by 'hts w (by decide +kernel)'), the script of L ints xs at the cell b, what the Statement gives of the start (any of its parts by flat_of_before) -/
def lw_At (p : Program) (s : State) (m : MethodId) (meth : Method) (c : Code) (b L : Nat) (xs : Nat → Int32) : Prop :=
  p.tables.exec = Jvm.exec ∧ c.code = code ∧ meth.sig.returnType = ret ∧ c.maxLocals = 7 ∧ s.vm.findClass R_law = some m.cls ∧ (∀ w ∈ lw_tbl, w.before #[Value.ref b] s = true) ∧ va_X b L xs s s.heap ∧ b < s.heap.size ∧ meth.locks = false ∧ (Jvm.Cond.and given_1 narrow_1).before #[Value.ref b] s = true
-- ===== YOUR PART BEGINS =====
/-- YOUR PART: from the entry, for every script of at most 1539 ints, the law comes to its end with true -/
theorem whole_start {p : Program} {e : Env} {s : State} {m : MethodId} {below : List Frame} {meth : Method} {c : Code} (l : Launch) (htr : l.stackTraces = false) {b L : Nat} {xs : Nat → Int32} (hL : L ≤ 1539) (C0 : lw_At p s m meth c b L xs) : W p l e room_1 s m #[Value.ref b] below meth c s.heap [] 0 0 (lw_Z below #[Value.ref b] s) (entryFrame m ([Value.ref b] : List Value).toArray 7) := by
  obtain ⟨hx, hb, hr, hml, hown, hts, hX, hbl, hlocks, hgv⟩ := C0
  have htg : ∀ w ∈ GW, w.before #[Value.ref b] s = true := fun w h => hts w (List.mem_filter.mp h).1
  have hfl := flat_of_before _ hgv
  obtain ⟨dC, dI, cA, hK⟩ := k_init htg
  have hpk : ∃ c, s.vm.findClass R_PK = some c := ⟨_, (hK.1 10 _ rfl).2.1⟩
  have hT : Th s := th_init hts hpk (hfl _ (by decide +kernel)) (hfl _ (by decide +kernel))
  have X : Cx p l e room_1 s m #[Value.ref b] c (dC, dI) cA (fun q => s.heap.size ≤ q) b L xs := ⟨hx, hb, hml, hown, htg, nw_init hts, hT, fun a cell h _ h9 => absurd (Array.getElem?_eq_some_iff.mp h).1 (Nat.not_lt.mpr h9), fun _ h => h, hK, hX, hbl, fun h9 => absurd hbl (Nat.not_lt.mpr h9), ⟨Nat.le_of_ble_eq_true rfl, Nat.le_of_ble_eq_true rfl⟩⟩
  have hexit : ∀ (H : Heap) (locs : List Loc) (ls : Array Slot) (kc ks : Nat), (∀ q ∈ locs, s.heap.size ≤ q.base) → kc ≤ 601024 → ks ≤ 7293000 → W p l e room_1 s m #[Value.ref b] below meth c H locs kc ks (lw_Z below #[Value.ref b] s) (F0 m 522 ls []) := by
    intro H locs ls kc ks hloc h1 h2
    refine lv_iconst (v := 1) hx hb dLw_law_522 (by decide) ?_
    intro T hT X9
    exact lw_ret hx hb hr hlocks dLw_law_523 T hT { X9 with same := X9.same.weaken (fun q hq hlt => absurd hlt (Nat.not_lt.mpr (hloc q hq))) h1 h2 }
  have hl := lv_entry ([.ref b]) (n := 7) (Nat.le_of_ble_eq_true rfl)
  rw [lg_entry_eq]
  generalize (lg_sl ([.ref b]) ++ List.replicate (7 - (lg_sl ([.ref b])).length) Slot.unset).toArray = ls at hl ⊢
  have hl : lv_has ls 7 [(0, .ref b)] := hl
  obtain ⟨S, hS, hz⟩ := size_ex (cv L xs 1)
  rcases kinds (cv L xs 0) with h | h | h | h | h | h | h | h | h | h
  · exact lw_start_0 htr X (fun _ h => h) hL hS h hz hexit hl
  · exact lw_start_1 htr X (fun _ h => h) hL hS h hz hexit hl
  · exact lw_start_2 htr X (fun _ h => h) hL hS h hz hexit hl
  · exact lw_start_3 htr X (fun _ h => h) hL hS h hz hexit hl
  · exact lw_start_4 htr X (fun _ h => h) hL hS h hz hexit hl
  · exact lw_start_5 htr X (fun _ h => h) hL hS h hz hexit hl
  · exact lw_start_6 htr X (fun _ h => h) hL hS h hz hexit hl
  · exact lw_start_7 htr X (fun _ h => h) hL hS h hz hexit hl
  · exact lw_start_8 htr X (fun _ h => h) hL hS h hz hexit hl
  · exact lw_start_9 htr X (fun _ h => h) hL hS h hz hexit hl
-- ===== YOUR PART ENDS =====
set_option maxHeartbeats 4000000 in
theorem lw_walk (l : Launch) (htr : l.stackTraces = false) (b : Addr) (xs : List Int32) : MetFree l x (headSpec (Jvm.Cond.code x code maxLocals ret :: tables_1) room_1) (lw_P b xs) (fun _ _ _ _ _ => True) lw_Q := by
  refine MetFree.of_bodyS (code := code) (maxLocals := maxLocals) (ret := ret) (by decide) ?_ ?_
  · intro args s m h hn
    obtain ⟨meth, c, h1, h2, h3, h4, h5, h6, -, -⟩ := Cond.code_spec hn (atoms_spec (ws := Jvm.Cond.code x code maxLocals ret :: tables_1) h _ List.mem_cons_self)
    exact ⟨meth, c, h1, h2, h3, h4, h5, h6⟩
  · intro p e s m args below meth c s₁ B hml0 hP _
    obtain ⟨rfl, hx, hbd, hgv⟩ := hP
    obtain ⟨scr, harrAt, hlist, hof, hsmall⟩ := hx
    obtain ⟨hcb, hkn, -, -⟩ := State.arrayAt?_spec harrAt
    have hown : s.vm.findClass R_law = some m.cls := findClass_of_methodNamed B.named
    have hts0 : ∀ c ∈ (Jvm.Cond.code x code maxLocals ret :: tables_1), c.before #[Value.ref b] s = true := atoms_spec (ws := Jvm.Cond.code x code maxLocals ret :: tables_1) B.pre
    have hts : ∀ w ∈ lw_tbl, w.before #[Value.ref b] s = true := k2_hts_sels lw_privs (fun w hw => hts0 w (List.mem_cons_of_mem _ hw)) lw_privs_ok
    have hml : c.maxLocals = 7 := B.maxLocals_eq (hts0 _ List.mem_cons_self)
    have X₀ : Stand p l e room_1 s m #[Value.ref b] below meth c s₁ [] 0 0 := Stand.of_body B
    have hh0 : s₁.heap = s.heap := by rw [B.state]; rfl
    have hsz : scr.slots.size = xs.length := by rw [← Array.length_toList, hlist, List.length_map]
    have hval : ∀ j : Nat, j < xs.length → scr.slots[j]? = some (.int (xs.getD j 0)) := fun j hj => by
      rw [← Array.getElem?_toList, hlist]
      simp [hj]
    have hbl : b < s.heap.size := (Array.getElem?_eq_some_iff.mp hcb).1
    have hX : va_X b xs.length (fun j => xs.getD j 0) s s.heap := ⟨scr, hcb, hof, hkn, hsz, hval⟩
    have K : W p l e room_1 s m #[Value.ref b] below meth c s₁.heap [] 0 0 (lw_Z below #[Value.ref b] s) (entryFrame m ([Value.ref b] : List Value).toArray 7) := by
      rw [hh0]
      exact whole_start l htr hbd ⟨B.exec, B.bytes, B.returns, hml, hown, hts, hX, hbl, B.notSynchronized, hgv⟩
    obtain ⟨t, a1, o, b1, b2, b3⟩ := K s₁ rfl X₀
    exact ⟨t, o, a1, b1, b2, b3⟩
theorem lw_pre_spec {args : Array Value} {s : State} (h : (Jvm.Cond.and given_1 narrow_1).before args s = true) (hr : rest_1_c.before args s = true) : ∃ (b : Addr) (xs : List Int32), lw_P b xs args s := by
  have hs := flat_of_before _ h
  have hq := flat_of_before _ hr
  have hc : (Cond.count 1).before args s = true := hs _ (by decide +kernel)
  have harr : (Cond.arrayOf (.arg 0) .int).before args s = true := hs _ (by decide +kernel)
  have hle : (Cond.le (.length (.arg 0)) (.int 1539)).before args s = true := hs _ (by decide +kernel)
  have hlen : (Cond.isInt (.length (.arg 0))).before args s = true := hq _ (by decide +kernel)
  have hall : (Cond.all (.arg 0) (.isInt (.elem (.arg 0) (.index 0)))).before args s = true := hq _ (by decide +kernel)
  obtain ⟨b, xs, hb, hx⟩ := State.ints_of_pre rfl harr hlen hall
  have hsm : xs.length < 2 ^ 31 := hx.choose_spec.2.2.2
  have hev : (Term.length (.arg 0)).eval args s none [] s = some (.int xs.length.toInt32) := hx.length_eval hb
  have hv := Cond.le_ints hev (show (Term.int 1539).eval args s none [] s = some (.int 1539) from rfl)
  have hd : xs.length.toInt32 ≤ 1539 := by
    simpa [Cond.before, Cond.holds, hv] using hle
  have hN : xs.length ≤ 1539 := (Int32.ofNat_le_ofNat hsm (by decide)).mp (show Int32.ofNat xs.length ≤ Int32.ofNat 1539 from hd)
  exact ⟨b, xs, Cond.one_arg hc (show args[0]? = some (.ref b) from hb), hx, hN, h⟩
theorem lw_comes (l : Launch) (htr : l.stackTraces = false) : Comes l x (Jvm.Cond.code x code maxLocals ret :: tables_1) room_1 (fun tb e args s => Calls_1 tb e args s ∧ rest_1 tb e args s ∧ Pre_1 tb e args s)
    (fun _ _ args s o t => lw_Q args s o t) := by
  intro p e ha hc hk s m args below hf hfit hheap happ hpre
  obtain ⟨b, xs, hP⟩ := lw_pre_spec hpre.2.2 hpre.2.1
  obtain ⟨k, o, h1, h2, h3, hQ⟩ := lw_walk l htr b xs p e ha hc hk s m args below hf ((Spec.applies_iff_loose hf).mp happ).1 hP trivial
  exact ⟨k, o, h1, h2, h3, hQ⟩
theorem lw_frame {s t : State} {o : Outcome} {args : Array Value} (h : Framed s o t [] 601024 7293000) :
    Framed s o t (fieldLocs frame_1_writes args s ++ arrayLocs frame_1_arrays args s ++ staticLocs frame_1_statics s) 601024 7293000 := h
theorem lw_limb (L : Cond) (hL : ∀ (args : Array Value) (s t : State), L.after args s (.returned (some (.int 1))) t = true) :
    ArmFor flags0 classFile x code maxLocals ret World_1 tables_1 room_1 Calls_1 rest_1 Pre_1
      (fun tb e a s o t => postC L tb e a s o t ∧ Framed s o t (fieldLocs frame_1_writes a s ++ arrayLocs frame_1_arrays a s ++ staticLocs frame_1_statics s) 601024 7293000) := by
  intro l hfl _ _ p e ha hc hk s m args below hf hfit hheap happ hpre
  obtain ⟨k, o, h1, h2, h3, rfl, hF⟩ := lw_comes l (no_trace hfl) p e ha hc hk s m args below hf hfit hheap happ hpre
  exact ⟨k, _, h1, h2, h3, hL args s _, lw_frame hF⟩
theorem i_vc : Claimed_1_1 ∧ Claimed_1_2 := ⟨lw_limb limb_1_1 (fun args s t => by simp [limb_1_1, Cond.after, Cond.holds, Cond.value]), lw_limb limb_1_2 (fun args s t => Cond.after_iff.mpr (by
  first | (rw [show limb_1_2 = Cond.eq .result (.int 1) from rfl, Cond.eq_ints (x := 1) (y := 1) rfl rfl]; simp; done) | (simp [limb_1_2, Cond.value, Term.eval]; done)))⟩
