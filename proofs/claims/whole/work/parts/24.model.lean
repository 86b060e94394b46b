def of_Md_row_b161 (s0_b161 : Int32) : Option (Int32 × Int32) := some (s0_b161, 0)
def of_Md_row_b34 (mkd : Int32) (mbt : Int32) (mrw : Int32) (mhs : Int32) (mco : Int32) (g_lastBit : Nat → Int32) (g_plain : Nat → Int32) (g_mixed : Nat → Int32) (g_chooser : Nat → Int32) (g_own : Nat → Int32) (g_ownCounter : Nat → Int32) (g_sum : Nat → Int32) (g_weight : Nat → Int32) (g_loopTag : Nat → Int32) (g_trust : Nat → Int32) (pl : Int32) (s0_b34 : Int32) : Option (Int32 × Int32) := (if mkd = 0 then some (1, 0) else (if mkd = 1 then (if (tf_Md_plainRow mbt mrw pl) < 0 ∨ 1024 ≤ (tf_Md_plainRow mbt mrw pl).toNatClampNeg then none else some ((g_lastBit (tf_Md_plainRow mbt mrw pl).toNatClampNeg), 0)) else (if mkd = 2 then (if 0 ≤ s0_b34 then ((of_Md_taggedRow mbt mrw s0_b34 pl mhs).bind fun z_8 => (if z_8 < 0 ∨ 3072 ≤ z_8.toNatClampNeg then none else some ((g_sum z_8.toNatClampNeg), 0))) else (if (tf_Md_plainRow mbt mrw pl) < 0 ∨ 1024 ≤ (tf_Md_plainRow mbt mrw pl).toNatClampNeg then none else some ((g_plain (tf_Md_plainRow mbt mrw pl).toNatClampNeg), 0))) else (if mkd = 3 then (if (tf_Md_mixedRow mrw pl mhs) < 0 ∨ 1024 ≤ (tf_Md_mixedRow mrw pl mhs).toNatClampNeg then none else some ((g_mixed (tf_Md_mixedRow mrw pl mhs).toNatClampNeg), 0)) else (if mkd = 4 then (if (tf_Md_plainRow mbt mrw pl) < 0 ∨ 1024 ≤ (tf_Md_plainRow mbt mrw pl).toNatClampNeg then none else (if (g_own (tf_Md_plainRow mbt mrw pl).toNatClampNeg) < 0 ∨ 1024 ≤ (g_own (tf_Md_plainRow mbt mrw pl).toNatClampNeg).toNatClampNeg then none else some ((g_ownCounter (g_own (tf_Md_plainRow mbt mrw pl).toNatClampNeg).toNatClampNeg), 0))) else (if mkd = 5 then (if (tf_Md_plainRow mbt mrw pl) < 0 ∨ 1024 ≤ (tf_Md_plainRow mbt mrw pl).toNatClampNeg then none else some ((g_chooser (tf_Md_plainRow mbt mrw pl).toNatClampNeg), 0)) else (if mkd = 6 then (if 0 ≤ s0_b34 then ((of_Md_taggedRow mbt mrw s0_b34 pl mhs).bind fun z_20 => (if z_20 < 0 ∨ 3072 ≤ z_20.toNatClampNeg then none else some ((g_sum z_20.toNatClampNeg), 0))) else (if (tf_Md_plainRow mbt mrw pl) < 0 ∨ 1024 ≤ (tf_Md_plainRow mbt mrw pl).toNatClampNeg then none else some ((g_plain (tf_Md_plainRow mbt mrw pl).toNatClampNeg), 0))) else (if mkd = 7 then ((of_Md_total mbt mrw g_weight pl mhs).bind fun z_24 => some (z_24, 0)) else (if mkd = 8 then ((of_Md_hasLoop mbt mrw g_loopTag pl).bind fun z_26 => (if (bI z_26) = 0 then of_Md_row_b161 (-1) else (if (tf_Md_plainRow mbt mrw pl) < 0 ∨ 1024 ≤ (tf_Md_plainRow mbt mrw pl).toNatClampNeg then none else of_Md_row_b161 (g_trust (tf_Md_plainRow mbt mrw pl).toNatClampNeg)))) else (if mkd = 9 then some (((us mco 16) &&& 1), 0) else (if 0 ≤ s0_b34 then ((of_Md_taggedRow mbt mrw s0_b34 pl mhs).bind fun z_31 => (if z_31 < 0 ∨ 3072 ≤ z_31.toNatClampNeg then none else some ((g_sum z_31.toNatClampNeg), 0))) else (if (tf_Md_plainRow mbt mrw pl) < 0 ∨ 1024 ≤ (tf_Md_plainRow mbt mrw pl).toNatClampNeg then none else some ((g_plain (tf_Md_plainRow mbt mrw pl).toNatClampNeg), 0)))))))))))))
def of_Md_row (mkd : Int32) (mbt : Int32) (mrw : Int32) (mhs : Int32) (mco : Int32) (g_lastBit : Nat → Int32) (g_plain : Nat → Int32) (g_mixed : Nat → Int32) (g_chooser : Nat → Int32) (g_own : Nat → Int32) (g_ownCounter : Nat → Int32) (g_tag : Nat → Int32) (g_sum : Nat → Int32) (g_weight : Nat → Int32) (g_loopTag : Nat → Int32) (g_trust : Nat → Int32) (pl : Int32) : Option (Int32 × Int32) := (if mkd = 6 then ((of_Md_hitBefore mbt mrw g_tag 3 pl mhs).bind fun z_2 => of_Md_row_b34 mkd mbt mrw mhs mco g_lastBit g_plain g_mixed g_chooser g_own g_ownCounter g_sum g_weight g_loopTag g_trust pl z_2) else of_Md_row_b34 mkd mbt mrw mhs mco g_lastBit g_plain g_mixed g_chooser g_own g_ownCounter g_sum g_weight g_loopTag g_trust pl (-1))
set_option maxHeartbeats 4000000 in
set_option maxRecDepth 100000 in
theorem c_Md_row (l : Launch) (dC : Nat → ClassId) (dI : Nat → Nat → Nat) (cA : ClassId × ClassId × ClassId) (zz : Nat) (o0 : Nat) (r_lastBit : Nat) (r_plain : Nat) (r_mixed : Nat) (r_chooser : Nat) (r_own : Nat) (r_ownCounter : Nat) (r_tag : Nat) (r_sum : Nat) (r_weight : Nat) (r_loopTag : Nat) (r_trust : Nat) (r_use : Nat) (r_length : Nat) (r_count : Nat) (r_waitPlace : Nat) (r_waitHistory : Nat) (r_waitSaid : Nat) (r_mark : Nat) (mt : Int32) (mkd : Int32) (mbt : Int32) (mrw : Int32) (mhs : Int32) (mco : Int32) (mey : Bool) (mu1 : Int32) (mu2 : Int32) (mu3 : Int32) (mu4 : Int32) (mwt : Int32) (mmk : Int32) (g_lastBit : Nat → Int32) (g_plain : Nat → Int32) (g_mixed : Nat → Int32) (g_chooser : Nat → Int32) (g_own : Nat → Int32) (g_ownCounter : Nat → Int32) (g_tag : Nat → Int32) (g_sum : Nat → Int32) (g_weight : Nat → Int32) (g_loopTag : Nat → Int32) (g_trust : Nat → Int32) (pl : Int32) (rs : Int32 × Int32) (hfn : (of_Md_row mkd mbt mrw mhs mco g_lastBit g_plain g_mixed g_chooser g_own g_ownCounter g_tag g_sum g_weight g_loopTag g_trust pl) = some rs) : Met l yMd_row wMd_row ({ frames := 4, cells := 0, slots := 0, locals := 95 }) (va_Pc [.ref o0, .int pl] (Wr (dC, dI) cA zz [(o0, .inr (11, [.int mt, .int mkd, .int mbt, .int mrw, .int mhs, .int mco, .int (bI mey), .int mu1, .int mu2, .int mu3, .int mu4, .ref r_lastBit, .ref r_plain, .ref r_mixed, .ref r_chooser, .ref r_own, .ref r_ownCounter, .ref r_tag, .ref r_sum, .ref r_use, .ref r_weight, .ref r_loopTag, .ref r_length, .ref r_count, .ref r_trust, .int mwt, .ref r_waitPlace, .ref r_waitHistory, .ref r_waitSaid, .int mmk, .ref r_mark])), (r_lastBit, .inl (cA.1, 1024, .inl g_lastBit)), (r_plain, .inl (cA.1, 1024, .inl g_plain)), (r_mixed, .inl (cA.1, 1024, .inl g_mixed)), (r_chooser, .inl (cA.1, 1024, .inl g_chooser)), (r_own, .inl (cA.1, 1024, .inl g_own)), (r_ownCounter, .inl (cA.1, 1024, .inl g_ownCounter)), (r_tag, .inl (cA.1, 3072, .inl g_tag)), (r_sum, .inl (cA.1, 3072, .inl g_sum)), (r_weight, .inl (cA.1, 9216, .inl g_weight)), (r_loopTag, .inl (cA.1, 1024, .inl g_loopTag)), (r_trust, .inl (cA.1, 1024, .inl g_trust))])) (va_Qi (fun r9 w9 => r9 = rs.1 ∧ w9 = [(o0, .inr (11, [.int rs.2, .int mkd, .int mbt, .int mrw, .int mhs, .int mco, .int (bI mey), .int mu1, .int mu2, .int mu3, .int mu4, .ref r_lastBit, .ref r_plain, .ref r_mixed, .ref r_chooser, .ref r_own, .ref r_ownCounter, .ref r_tag, .ref r_sum, .ref r_use, .ref r_weight, .ref r_loopTag, .ref r_length, .ref r_count, .ref r_trust, .int mwt, .ref r_waitPlace, .ref r_waitHistory, .ref r_waitSaid, .int mmk, .ref r_mark])), (r_lastBit, .inl (cA.1, 1024, .inl g_lastBit)), (r_plain, .inl (cA.1, 1024, .inl g_plain)), (r_mixed, .inl (cA.1, 1024, .inl g_mixed)), (r_chooser, .inl (cA.1, 1024, .inl g_chooser)), (r_own, .inl (cA.1, 1024, .inl g_own)), (r_ownCounter, .inl (cA.1, 1024, .inl g_ownCounter)), (r_tag, .inl (cA.1, 3072, .inl g_tag)), (r_sum, .inl (cA.1, 3072, .inl g_sum)), (r_weight, .inl (cA.1, 9216, .inl g_weight)), (r_loopTag, .inl (cA.1, 1024, .inl g_loopTag)), (r_trust, .inl (cA.1, 1024, .inl g_trust))]) (At (dC, dI) cA (va_A [(o0, .inr (11, [.int mt, .int mkd, .int mbt, .int mrw, .int mhs, .int mco, .int (bI mey), .int mu1, .int mu2, .int mu3, .int mu4, .ref r_lastBit, .ref r_plain, .ref r_mixed, .ref r_chooser, .ref r_own, .ref r_ownCounter, .ref r_tag, .ref r_sum, .ref r_use, .ref r_weight, .ref r_loopTag, .ref r_length, .ref r_count, .ref r_trust, .int mwt, .ref r_waitPlace, .ref r_waitHistory, .ref r_waitSaid, .int mmk, .ref r_mark])), (r_lastBit, .inl (cA.1, 1024, .inl g_lastBit)), (r_plain, .inl (cA.1, 1024, .inl g_plain)), (r_mixed, .inl (cA.1, 1024, .inl g_mixed)), (r_chooser, .inl (cA.1, 1024, .inl g_chooser)), (r_own, .inl (cA.1, 1024, .inl g_own)), (r_ownCounter, .inl (cA.1, 1024, .inl g_ownCounter)), (r_tag, .inl (cA.1, 3072, .inl g_tag)), (r_sum, .inl (cA.1, 3072, .inl g_sum)), (r_weight, .inl (cA.1, 9216, .inl g_weight)), (r_loopTag, .inl (cA.1, 1024, .inl g_loopTag)), (r_trust, .inl (cA.1, 1024, .inl g_trust))] zz)) (va_A [(o0, .inr (11, [.int mt, .int mkd, .int mbt, .int mrw, .int mhs, .int mco, .int (bI mey), .int mu1, .int mu2, .int mu3, .int mu4, .ref r_lastBit, .ref r_plain, .ref r_mixed, .ref r_chooser, .ref r_own, .ref r_ownCounter, .ref r_tag, .ref r_sum, .ref r_use, .ref r_weight, .ref r_loopTag, .ref r_length, .ref r_count, .ref r_trust, .int mwt, .ref r_waitPlace, .ref r_waitHistory, .ref r_waitSaid, .int mmk, .ref r_mark])), (r_lastBit, .inl (cA.1, 1024, .inl g_lastBit)), (r_plain, .inl (cA.1, 1024, .inl g_plain)), (r_mixed, .inl (cA.1, 1024, .inl g_mixed)), (r_chooser, .inl (cA.1, 1024, .inl g_chooser)), (r_own, .inl (cA.1, 1024, .inl g_own)), (r_ownCounter, .inl (cA.1, 1024, .inl g_ownCounter)), (r_tag, .inl (cA.1, 3072, .inl g_tag)), (r_sum, .inl (cA.1, 3072, .inl g_sum)), (r_weight, .inl (cA.1, 9216, .inl g_weight)), (r_loopTag, .inl (cA.1, 1024, .inl g_loopTag)), (r_trust, .inl (cA.1, 1024, .inl g_trust))] zz)) 0 0 (va_A [(o0, .inr (11, [.int mt, .int mkd, .int mbt, .int mrw, .int mhs, .int mco, .int (bI mey), .int mu1, .int mu2, .int mu3, .int mu4, .ref r_lastBit, .ref r_plain, .ref r_mixed, .ref r_chooser, .ref r_own, .ref r_ownCounter, .ref r_tag, .ref r_sum, .ref r_use, .ref r_weight, .ref r_loopTag, .ref r_length, .ref r_count, .ref r_trust, .int mwt, .ref r_waitPlace, .ref r_waitHistory, .ref r_waitSaid, .int mmk, .ref r_mark])), (r_lastBit, .inl (cA.1, 1024, .inl g_lastBit)), (r_plain, .inl (cA.1, 1024, .inl g_plain)), (r_mixed, .inl (cA.1, 1024, .inl g_mixed)), (r_chooser, .inl (cA.1, 1024, .inl g_chooser)), (r_own, .inl (cA.1, 1024, .inl g_own)), (r_ownCounter, .inl (cA.1, 1024, .inl g_ownCounter)), (r_tag, .inl (cA.1, 3072, .inl g_tag)), (r_sum, .inl (cA.1, 3072, .inl g_sum)), (r_weight, .inl (cA.1, 9216, .inl g_weight)), (r_loopTag, .inl (cA.1, 1024, .inl g_loopTag)), (r_trust, .inl (cA.1, 1024, .inl g_trust))] zz) := by
  refine Met.ofW (cc := cMd_row) (maxL := 4) (ret := (some .int)) (by decide) rfl ?_
  intro p e s m args below meth c s₁ B hml hv
  obtain ⟨rfl, hsz, hN, hP, hK, hD0⟩ := hv
  have hx := B.exec
  have hb := B.bytes
  have hr := B.returns
  have hts := atoms_spec (ws := wMd_row) B.pre
  have htg : ∀ w ∈ GW, w.before _ s = true := fun w h => hts w (List.mem_cons_of_mem _ h)
  have hown : s.vm.findClass R_Md = some m.cls := findClass_of_methodNamed B.named
  have hlocks := B.notSynchronized
  subst hsz
  have hD := hD0.self (sz := s.heap.size)
  generalize hAe : va_A [(o0, .inr (11, [.int mt, .int mkd, .int mbt, .int mrw, .int mhs, .int mco, .int (bI mey), .int mu1, .int mu2, .int mu3, .int mu4, .ref r_lastBit, .ref r_plain, .ref r_mixed, .ref r_chooser, .ref r_own, .ref r_ownCounter, .ref r_tag, .ref r_sum, .ref r_use, .ref r_weight, .ref r_loopTag, .ref r_length, .ref r_count, .ref r_trust, .int mwt, .ref r_waitPlace, .ref r_waitHistory, .ref r_waitSaid, .int mmk, .ref r_mark])), (r_lastBit, .inl (cA.1, 1024, .inl g_lastBit)), (r_plain, .inl (cA.1, 1024, .inl g_plain)), (r_mixed, .inl (cA.1, 1024, .inl g_mixed)), (r_chooser, .inl (cA.1, 1024, .inl g_chooser)), (r_own, .inl (cA.1, 1024, .inl g_own)), (r_ownCounter, .inl (cA.1, 1024, .inl g_ownCounter)), (r_tag, .inl (cA.1, 3072, .inl g_tag)), (r_sum, .inl (cA.1, 3072, .inl g_sum)), (r_weight, .inl (cA.1, 9216, .inl g_weight)), (r_loopTag, .inl (cA.1, 1024, .inl g_loopTag)), (r_trust, .inl (cA.1, 1024, .inl g_trust))] s.heap.size = A at hD ⊢
  have hA : ∀ q : Nat, s.heap.size ≤ q → A q := fun q h => by rw [← hAe]; exact Or.inr h
  have hS : va_S A s.heap s.heap [] := va_S.rf
  have hP : va_P (dC, dI) vwCl [(o0, .inr (11, [.int mt, .int mkd, .int mbt, .int mrw, .int mhs, .int mco, .int (bI mey), .int mu1, .int mu2, .int mu3, .int mu4, .ref r_lastBit, .ref r_plain, .ref r_mixed, .ref r_chooser, .ref r_own, .ref r_ownCounter, .ref r_tag, .ref r_sum, .ref r_use, .ref r_weight, .ref r_loopTag, .ref r_length, .ref r_count, .ref r_trust, .int mwt, .ref r_waitPlace, .ref r_waitHistory, .ref r_waitSaid, .int mmk, .ref r_mark])), (r_lastBit, .inl (cA.1, 1024, .inl g_lastBit)), (r_plain, .inl (cA.1, 1024, .inl g_plain)), (r_mixed, .inl (cA.1, 1024, .inl g_mixed)), (r_chooser, .inl (cA.1, 1024, .inl g_chooser)), (r_own, .inl (cA.1, 1024, .inl g_own)), (r_ownCounter, .inl (cA.1, 1024, .inl g_ownCounter)), (r_tag, .inl (cA.1, 3072, .inl g_tag)), (r_sum, .inl (cA.1, 3072, .inl g_sum)), (r_weight, .inl (cA.1, 9216, .inl g_weight)), (r_loopTag, .inl (cA.1, 1024, .inl g_loopTag)), (r_trust, .inl (cA.1, 1024, .inl g_trust))] s.heap := hP
  have blk161 : ∀ (s0_b161 : Int32) (H : Heap) (locs : List Loc) (ls : Array Slot), of_Md_row_b161 s0_b161 = some rs → va_P (dC, dI) vwCl [(o0, .inr (11, [.int 0, .int mkd, .int mbt, .int mrw, .int mhs, .int mco, .int (bI mey), .int mu1, .int mu2, .int mu3, .int mu4, .ref r_lastBit, .ref r_plain, .ref r_mixed, .ref r_chooser, .ref r_own, .ref r_ownCounter, .ref r_tag, .ref r_sum, .ref r_use, .ref r_weight, .ref r_loopTag, .ref r_length, .ref r_count, .ref r_trust, .int mwt, .ref r_waitPlace, .ref r_waitHistory, .ref r_waitSaid, .int mmk, .ref r_mark])), (r_lastBit, .inl (cA.1, 1024, .inl g_lastBit)), (r_plain, .inl (cA.1, 1024, .inl g_plain)), (r_mixed, .inl (cA.1, 1024, .inl g_mixed)), (r_chooser, .inl (cA.1, 1024, .inl g_chooser)), (r_own, .inl (cA.1, 1024, .inl g_own)), (r_ownCounter, .inl (cA.1, 1024, .inl g_ownCounter)), (r_tag, .inl (cA.1, 3072, .inl g_tag)), (r_sum, .inl (cA.1, 3072, .inl g_sum)), (r_weight, .inl (cA.1, 9216, .inl g_weight)), (r_loopTag, .inl (cA.1, 1024, .inl g_loopTag)), (r_trust, .inl (cA.1, 1024, .inl g_trust))] H → va_D A [(o0, .inr (11, [.int 0, .int mkd, .int mbt, .int mrw, .int mhs, .int mco, .int (bI mey), .int mu1, .int mu2, .int mu3, .int mu4, .ref r_lastBit, .ref r_plain, .ref r_mixed, .ref r_chooser, .ref r_own, .ref r_ownCounter, .ref r_tag, .ref r_sum, .ref r_use, .ref r_weight, .ref r_loopTag, .ref r_length, .ref r_count, .ref r_trust, .int mwt, .ref r_waitPlace, .ref r_waitHistory, .ref r_waitSaid, .int mmk, .ref r_mark])), (r_lastBit, .inl (cA.1, 1024, .inl g_lastBit)), (r_plain, .inl (cA.1, 1024, .inl g_plain)), (r_mixed, .inl (cA.1, 1024, .inl g_mixed)), (r_chooser, .inl (cA.1, 1024, .inl g_chooser)), (r_own, .inl (cA.1, 1024, .inl g_own)), (r_ownCounter, .inl (cA.1, 1024, .inl g_ownCounter)), (r_tag, .inl (cA.1, 3072, .inl g_tag)), (r_sum, .inl (cA.1, 3072, .inl g_sum)), (r_weight, .inl (cA.1, 9216, .inl g_weight)), (r_loopTag, .inl (cA.1, 1024, .inl g_loopTag)), (r_trust, .inl (cA.1, 1024, .inl g_trust))] → va_S A s.heap H locs → lv_has ls 4 [] → W p l e (headSpec wMd_row ({ frames := 4, cells := 0, slots := 0, locals := 95 })).room s m ([.ref o0, .int pl] : List Value).toArray below meth c H locs 0 0 (MQ below (va_Qi (fun r9 w9 => r9 = rs.1 ∧ w9 = [(o0, .inr (11, [.int rs.2, .int mkd, .int mbt, .int mrw, .int mhs, .int mco, .int (bI mey), .int mu1, .int mu2, .int mu3, .int mu4, .ref r_lastBit, .ref r_plain, .ref r_mixed, .ref r_chooser, .ref r_own, .ref r_ownCounter, .ref r_tag, .ref r_sum, .ref r_use, .ref r_weight, .ref r_loopTag, .ref r_length, .ref r_count, .ref r_trust, .int mwt, .ref r_waitPlace, .ref r_waitHistory, .ref r_waitSaid, .int mmk, .ref r_mark])), (r_lastBit, .inl (cA.1, 1024, .inl g_lastBit)), (r_plain, .inl (cA.1, 1024, .inl g_plain)), (r_mixed, .inl (cA.1, 1024, .inl g_mixed)), (r_chooser, .inl (cA.1, 1024, .inl g_chooser)), (r_own, .inl (cA.1, 1024, .inl g_own)), (r_ownCounter, .inl (cA.1, 1024, .inl g_ownCounter)), (r_tag, .inl (cA.1, 3072, .inl g_tag)), (r_sum, .inl (cA.1, 3072, .inl g_sum)), (r_weight, .inl (cA.1, 9216, .inl g_weight)), (r_loopTag, .inl (cA.1, 1024, .inl g_loopTag)), (r_trust, .inl (cA.1, 1024, .inl g_trust))]) (At (dC, dI) cA A) A) ([.ref o0, .int pl] : List Value).toArray s 0 0 A) (F0 m 161 ls [.int s0_b161]) := by
    intro s0_b161 H locs ls hfn hP hD hS hl
    unfold of_Md_row_b161 at hfn
    obtain rfl := Option.some.inj hfn
    exact W.iret hx hb hr (fun t ht hW => ⟨⟨_, _, rfl, ⟨rfl, rfl⟩, ⟨by rw [ht]; exact hP.sub [0, 1, 2, 3, 4, 5, 6, 7, 8, 9, 10, 11] rfl, va_K.moved hW.alike hK, hD.sub [0, 1, 2, 3, 4, 5, 6, 7, 8, 9, 10, 11] (by decide) rfl⟩⟩, hS.F ht⟩) hS.2.2 dMd_row_161
  have blk34 : ∀ (s0_b34 : Int32) (H : Heap) (locs : List Loc) (ls : Array Slot), of_Md_row_b34 mkd mbt mrw mhs mco g_lastBit g_plain g_mixed g_chooser g_own g_ownCounter g_sum g_weight g_loopTag g_trust pl s0_b34 = some rs → va_P (dC, dI) vwCl [(o0, .inr (11, [.int 0, .int mkd, .int mbt, .int mrw, .int mhs, .int mco, .int (bI mey), .int mu1, .int mu2, .int mu3, .int mu4, .ref r_lastBit, .ref r_plain, .ref r_mixed, .ref r_chooser, .ref r_own, .ref r_ownCounter, .ref r_tag, .ref r_sum, .ref r_use, .ref r_weight, .ref r_loopTag, .ref r_length, .ref r_count, .ref r_trust, .int mwt, .ref r_waitPlace, .ref r_waitHistory, .ref r_waitSaid, .int mmk, .ref r_mark])), (r_lastBit, .inl (cA.1, 1024, .inl g_lastBit)), (r_plain, .inl (cA.1, 1024, .inl g_plain)), (r_mixed, .inl (cA.1, 1024, .inl g_mixed)), (r_chooser, .inl (cA.1, 1024, .inl g_chooser)), (r_own, .inl (cA.1, 1024, .inl g_own)), (r_ownCounter, .inl (cA.1, 1024, .inl g_ownCounter)), (r_tag, .inl (cA.1, 3072, .inl g_tag)), (r_sum, .inl (cA.1, 3072, .inl g_sum)), (r_weight, .inl (cA.1, 9216, .inl g_weight)), (r_loopTag, .inl (cA.1, 1024, .inl g_loopTag)), (r_trust, .inl (cA.1, 1024, .inl g_trust))] H → va_D A [(o0, .inr (11, [.int 0, .int mkd, .int mbt, .int mrw, .int mhs, .int mco, .int (bI mey), .int mu1, .int mu2, .int mu3, .int mu4, .ref r_lastBit, .ref r_plain, .ref r_mixed, .ref r_chooser, .ref r_own, .ref r_ownCounter, .ref r_tag, .ref r_sum, .ref r_use, .ref r_weight, .ref r_loopTag, .ref r_length, .ref r_count, .ref r_trust, .int mwt, .ref r_waitPlace, .ref r_waitHistory, .ref r_waitSaid, .int mmk, .ref r_mark])), (r_lastBit, .inl (cA.1, 1024, .inl g_lastBit)), (r_plain, .inl (cA.1, 1024, .inl g_plain)), (r_mixed, .inl (cA.1, 1024, .inl g_mixed)), (r_chooser, .inl (cA.1, 1024, .inl g_chooser)), (r_own, .inl (cA.1, 1024, .inl g_own)), (r_ownCounter, .inl (cA.1, 1024, .inl g_ownCounter)), (r_tag, .inl (cA.1, 3072, .inl g_tag)), (r_sum, .inl (cA.1, 3072, .inl g_sum)), (r_weight, .inl (cA.1, 9216, .inl g_weight)), (r_loopTag, .inl (cA.1, 1024, .inl g_loopTag)), (r_trust, .inl (cA.1, 1024, .inl g_trust))] → va_S A s.heap H locs → lv_has ls 4 [(0, .ref o0), (1, .int pl), (2, .int (tf_Md_plainRow mbt mrw pl))] → W p l e (headSpec wMd_row ({ frames := 4, cells := 0, slots := 0, locals := 95 })).room s m ([.ref o0, .int pl] : List Value).toArray below meth c H locs 0 0 (MQ below (va_Qi (fun r9 w9 => r9 = rs.1 ∧ w9 = [(o0, .inr (11, [.int rs.2, .int mkd, .int mbt, .int mrw, .int mhs, .int mco, .int (bI mey), .int mu1, .int mu2, .int mu3, .int mu4, .ref r_lastBit, .ref r_plain, .ref r_mixed, .ref r_chooser, .ref r_own, .ref r_ownCounter, .ref r_tag, .ref r_sum, .ref r_use, .ref r_weight, .ref r_loopTag, .ref r_length, .ref r_count, .ref r_trust, .int mwt, .ref r_waitPlace, .ref r_waitHistory, .ref r_waitSaid, .int mmk, .ref r_mark])), (r_lastBit, .inl (cA.1, 1024, .inl g_lastBit)), (r_plain, .inl (cA.1, 1024, .inl g_plain)), (r_mixed, .inl (cA.1, 1024, .inl g_mixed)), (r_chooser, .inl (cA.1, 1024, .inl g_chooser)), (r_own, .inl (cA.1, 1024, .inl g_own)), (r_ownCounter, .inl (cA.1, 1024, .inl g_ownCounter)), (r_tag, .inl (cA.1, 3072, .inl g_tag)), (r_sum, .inl (cA.1, 3072, .inl g_sum)), (r_weight, .inl (cA.1, 9216, .inl g_weight)), (r_loopTag, .inl (cA.1, 1024, .inl g_loopTag)), (r_trust, .inl (cA.1, 1024, .inl g_trust))]) (At (dC, dI) cA A) A) ([.ref o0, .int pl] : List Value).toArray s 0 0 A) (F0 m 34 ls [.int s0_b34]) := by
    intro s0_b34 H locs ls hfn hP hD hS hl
    unfold of_Md_row_b34 at hfn
    refine lv_istore_n (lv' := [(3, .int s0_b34), (0, .ref o0), (1, .int pl), (2, .int (tf_Md_plainRow mbt mrw pl))]) hx hb dMd_row_34 rfl hl (by decide) rfl (fun ls hl => ?_)
    refine lv_aload_n hx hb dMd_row_35 rfl (lv_at hl 1 rfl) ?_
    refine va_get (D := (dC, dI)) (ci := 11) (v := .int mkd) (C := R_Md) (T := T_Md) (N := 31) hx hb htg in_Md hown hK hP 0 rfl rfl 1 (by decide) (htg _ wd_796) (fun _ h9 => h9) rfl dMd_row_36 ?_
    by_cases c_3 : mkd = 0
    · rw [if_pos c_3] at hfn
      refine lv_tableIn (tgt := 162) hx hb dMd_row_39 (by rw [c_3]; decide) (by rw [c_3]; decide) (by rw [c_3]; rfl) (by decide) ?_
      refine lv_iconst (v := 1) hx hb dMd_row_162 (by decide) ?_
      obtain rfl := Option.some.inj hfn
      exact W.iret hx hb hr (fun t ht hW => ⟨⟨_, _, rfl, ⟨rfl, rfl⟩, ⟨by rw [ht]; exact hP.sub [0, 1, 2, 3, 4, 5, 6, 7, 8, 9, 10, 11] rfl, va_K.moved hW.alike hK, hD.sub [0, 1, 2, 3, 4, 5, 6, 7, 8, 9, 10, 11] (by decide) rfl⟩⟩, hS.F ht⟩) hS.2.2 dMd_row_163
    · rw [if_neg c_3] at hfn
      by_cases c_4 : mkd = 1
      · rw [if_pos c_4] at hfn
        refine lv_tableIn (tgt := 92) hx hb dMd_row_39 (by rw [c_4]; decide) (by rw [c_4]; decide) (by rw [c_4]; rfl) (by decide) ?_
        refine lv_aload_n hx hb dMd_row_92 rfl (lv_at hl 1 rfl) ?_
        refine va_get (D := (dC, dI)) (ci := 11) (v := .ref r_lastBit) (C := R_Md) (T := T_Md) (N := 31) hx hb htg in_Md hown hK hP 0 rfl rfl 11 (by decide) (htg _ wd_806) (fun _ h9 => h9) rfl dMd_row_93 ?_
        refine lv_iload_n hx hb dMd_row_96 rfl (lv_at hl 3 rfl) ?_
        obtain ⟨g_5, hfn⟩ := og hfn
        refine va_iald hx hb hK hP 1 0 rfl rfl g_5 dMd_row_97 ?_
        obtain rfl := Option.some.inj hfn
        exact W.iret hx hb hr (fun t ht hW => ⟨⟨_, _, rfl, ⟨rfl, rfl⟩, ⟨by rw [ht]; exact hP.sub [0, 1, 2, 3, 4, 5, 6, 7, 8, 9, 10, 11] rfl, va_K.moved hW.alike hK, hD.sub [0, 1, 2, 3, 4, 5, 6, 7, 8, 9, 10, 11] (by decide) rfl⟩⟩, hS.F ht⟩) hS.2.2 dMd_row_98
      · rw [if_neg c_4] at hfn
        by_cases c_6 : mkd = 2
        · rw [if_pos c_6] at hfn
          refine lv_tableIn (tgt := 174) hx hb dMd_row_39 (by rw [c_6]; decide) (by rw [c_6]; decide) (by rw [c_6]; rfl) (by decide) ?_
          refine lv_iload_n hx hb dMd_row_174 rfl (lv_at hl 0 rfl) ?_
          refine lv_if_ge (tgt := 187) hx hb dMd_row_175 (by decide) (fun c_7 => ?_) (fun c_7 => ?_)
          · rw [if_pos c_7] at hfn
            refine lv_aload_n hx hb dMd_row_187 rfl (lv_at hl 1 rfl) ?_
            refine va_get (D := (dC, dI)) (ci := 11) (v := .ref r_sum) (C := R_Md) (T := T_Md) (N := 31) hx hb htg in_Md hown hK hP 0 rfl rfl 18 (by decide) (htg _ wd_813) (fun _ h9 => h9) rfl dMd_row_188 ?_
            refine lv_aload_n hx hb dMd_row_191 rfl (lv_at hl 1 rfl) ?_
            refine lv_iload_n hx hb dMd_row_192 rfl (lv_at hl 0 rfl) ?_
            refine lv_iload_n hx hb dMd_row_193 rfl (lv_at hl 2 rfl) ?_
            refine lv_aload_n hx hb dMd_row_194 rfl (lv_at hl 1 rfl) ?_
            refine va_get (D := (dC, dI)) (ci := 11) (v := .int mhs) (C := R_Md) (T := T_Md) (N := 31) hx hb htg in_Md hown hK hP 0 rfl rfl 4 (by decide) (htg _ wd_799) (fun _ h9 => h9) rfl dMd_row_195 ?_
            obtain ⟨z_8, hz_8, hfn⟩ := ob hfn
            refine rd_V (As := [.int s0_b34, .int pl, .int mhs]) (rest := [.ref r_sum]) ⟨hx, hb, hml, hown, htg⟩ (c_Md_taggedRow l dC dI cA o0 r_lastBit r_plain r_mixed r_chooser r_own r_ownCounter r_tag r_sum r_use r_weight r_loopTag r_length r_count r_trust r_waitPlace r_waitHistory r_waitSaid r_mark 0 mkd mbt mrw mhs mco mey mu1 mu2 mu3 mu4 mwt mmk s0_b34 pl mhs z_8 hz_8) (cw_V htg wd_922 ws_24 qMd_taggedRow iMd_taggedRow kMd_taggedRow pMd_taggedRow rfl rfl ⟨Nat.le_of_ble_eq_true rfl, Nat.le_of_ble_eq_true rfl⟩) (va_recv hK hP (ci := 11) (q0 := 0) rfl rfl) hN (hP.sub [0] rfl) hK rfl hl.1 rfl (Nat.le_of_ble_eq_true rfl) dMd_row_198 ⟨Nat.le_of_ble_eq_true rfl, Nat.le_of_ble_eq_true rfl⟩ ?_
            obtain ⟨g_9, hfn⟩ := og hfn
            refine va_iald hx hb hK hP 8 0 rfl rfl g_9 dMd_row_201 ?_
            obtain rfl := Option.some.inj hfn
            exact W.iret hx hb hr (fun t ht hW => ⟨⟨_, _, rfl, ⟨rfl, rfl⟩, ⟨by rw [ht]; exact hP.sub [0, 1, 2, 3, 4, 5, 6, 7, 8, 9, 10, 11] rfl, va_K.moved hW.alike hK, hD.sub [0, 1, 2, 3, 4, 5, 6, 7, 8, 9, 10, 11] (by decide) rfl⟩⟩, hS.F ht⟩) hS.2.2 dMd_row_202
          · rw [if_neg c_7] at hfn
            refine lv_aload_n hx hb dMd_row_178 rfl (lv_at hl 1 rfl) ?_
            refine va_get (D := (dC, dI)) (ci := 11) (v := .ref r_plain) (C := R_Md) (T := T_Md) (N := 31) hx hb htg in_Md hown hK hP 0 rfl rfl 12 (by decide) (htg _ wd_807) (fun _ h9 => h9) rfl dMd_row_179 ?_
            refine lv_iload_n hx hb dMd_row_182 rfl (lv_at hl 3 rfl) ?_
            obtain ⟨g_10, hfn⟩ := og hfn
            refine va_iald hx hb hK hP 2 0 rfl rfl g_10 dMd_row_183 ?_
            refine lv_goto (tgt := 202) hx hb dMd_row_184 (by decide) ?_
            obtain rfl := Option.some.inj hfn
            exact W.iret hx hb hr (fun t ht hW => ⟨⟨_, _, rfl, ⟨rfl, rfl⟩, ⟨by rw [ht]; exact hP.sub [0, 1, 2, 3, 4, 5, 6, 7, 8, 9, 10, 11] rfl, va_K.moved hW.alike hK, hD.sub [0, 1, 2, 3, 4, 5, 6, 7, 8, 9, 10, 11] (by decide) rfl⟩⟩, hS.F ht⟩) hS.2.2 dMd_row_202
        · rw [if_neg c_6] at hfn
          by_cases c_11 : mkd = 3
          · rw [if_pos c_11] at hfn
            refine lv_tableIn (tgt := 99) hx hb dMd_row_39 (by rw [c_11]; decide) (by rw [c_11]; decide) (by rw [c_11]; rfl) (by decide) ?_
            refine lv_aload_n hx hb dMd_row_99 rfl (lv_at hl 1 rfl) ?_
            refine va_get (D := (dC, dI)) (ci := 11) (v := .ref r_mixed) (C := R_Md) (T := T_Md) (N := 31) hx hb htg in_Md hown hK hP 0 rfl rfl 13 (by decide) (htg _ wd_808) (fun _ h9 => h9) rfl dMd_row_100 ?_
            refine lv_aload_n hx hb dMd_row_103 rfl (lv_at hl 1 rfl) ?_
            refine lv_iload_n hx hb dMd_row_104 rfl (lv_at hl 2 rfl) ?_
            refine lv_aload_n hx hb dMd_row_105 rfl (lv_at hl 1 rfl) ?_
            refine va_get (D := (dC, dI)) (ci := 11) (v := .int mhs) (C := R_Md) (T := T_Md) (N := 31) hx hb htg in_Md hown hK hP 0 rfl rfl 4 (by decide) (htg _ wd_799) (fun _ h9 => h9) rfl dMd_row_106 ?_
            refine rd_V (As := [.int pl, .int mhs]) (rest := [.ref r_mixed]) ⟨hx, hb, hml, hown, htg⟩ (c_Md_mixedRow l dC dI cA o0 r_lastBit r_plain r_mixed r_chooser r_own r_ownCounter r_tag r_sum r_use r_weight r_loopTag r_length r_count r_trust r_waitPlace r_waitHistory r_waitSaid r_mark 0 mkd mbt mrw mhs mco mey mu1 mu2 mu3 mu4 mwt mmk pl mhs) (cw_V htg wd_910 ws_21 qMd_mixedRow iMd_mixedRow kMd_mixedRow pMd_mixedRow rfl rfl ⟨Nat.le_of_ble_eq_true rfl, Nat.le_of_ble_eq_true rfl⟩) (va_recv hK hP (ci := 11) (q0 := 0) rfl rfl) hN (hP.sub [0] rfl) hK rfl hl.1 rfl (Nat.le_of_ble_eq_true rfl) dMd_row_109 ⟨Nat.le_of_ble_eq_true rfl, Nat.le_of_ble_eq_true rfl⟩ ?_
            obtain ⟨g_12, hfn⟩ := og hfn
            refine va_iald hx hb hK hP 3 0 rfl rfl g_12 dMd_row_112 ?_
            obtain rfl := Option.some.inj hfn
            exact W.iret hx hb hr (fun t ht hW => ⟨⟨_, _, rfl, ⟨rfl, rfl⟩, ⟨by rw [ht]; exact hP.sub [0, 1, 2, 3, 4, 5, 6, 7, 8, 9, 10, 11] rfl, va_K.moved hW.alike hK, hD.sub [0, 1, 2, 3, 4, 5, 6, 7, 8, 9, 10, 11] (by decide) rfl⟩⟩, hS.F ht⟩) hS.2.2 dMd_row_113
          · rw [if_neg c_11] at hfn
            by_cases c_13 : mkd = 4
            · rw [if_pos c_13] at hfn
              refine lv_tableIn (tgt := 114) hx hb dMd_row_39 (by rw [c_13]; decide) (by rw [c_13]; decide) (by rw [c_13]; rfl) (by decide) ?_
              refine lv_aload_n hx hb dMd_row_114 rfl (lv_at hl 1 rfl) ?_
              refine va_get (D := (dC, dI)) (ci := 11) (v := .ref r_ownCounter) (C := R_Md) (T := T_Md) (N := 31) hx hb htg in_Md hown hK hP 0 rfl rfl 16 (by decide) (htg _ wd_811) (fun _ h9 => h9) rfl dMd_row_115 ?_
              refine lv_aload_n hx hb dMd_row_118 rfl (lv_at hl 1 rfl) ?_
              refine va_get (D := (dC, dI)) (ci := 11) (v := .ref r_own) (C := R_Md) (T := T_Md) (N := 31) hx hb htg in_Md hown hK hP 0 rfl rfl 15 (by decide) (htg _ wd_810) (fun _ h9 => h9) rfl dMd_row_119 ?_
              refine lv_iload_n hx hb dMd_row_122 rfl (lv_at hl 3 rfl) ?_
              obtain ⟨g_14, hfn⟩ := og hfn
              refine va_iald hx hb hK hP 5 0 rfl rfl g_14 dMd_row_123 ?_
              obtain ⟨g_15, hfn⟩ := og hfn
              refine va_iald hx hb hK hP 6 0 rfl rfl g_15 dMd_row_124 ?_
              obtain rfl := Option.some.inj hfn
              exact W.iret hx hb hr (fun t ht hW => ⟨⟨_, _, rfl, ⟨rfl, rfl⟩, ⟨by rw [ht]; exact hP.sub [0, 1, 2, 3, 4, 5, 6, 7, 8, 9, 10, 11] rfl, va_K.moved hW.alike hK, hD.sub [0, 1, 2, 3, 4, 5, 6, 7, 8, 9, 10, 11] (by decide) rfl⟩⟩, hS.F ht⟩) hS.2.2 dMd_row_125
            · rw [if_neg c_13] at hfn
              by_cases c_16 : mkd = 5
              · rw [if_pos c_16] at hfn
                refine lv_tableIn (tgt := 126) hx hb dMd_row_39 (by rw [c_16]; decide) (by rw [c_16]; decide) (by rw [c_16]; rfl) (by decide) ?_
                refine lv_aload_n hx hb dMd_row_126 rfl (lv_at hl 1 rfl) ?_
                refine va_get (D := (dC, dI)) (ci := 11) (v := .ref r_chooser) (C := R_Md) (T := T_Md) (N := 31) hx hb htg in_Md hown hK hP 0 rfl rfl 14 (by decide) (htg _ wd_809) (fun _ h9 => h9) rfl dMd_row_127 ?_
                refine lv_iload_n hx hb dMd_row_130 rfl (lv_at hl 3 rfl) ?_
                obtain ⟨g_17, hfn⟩ := og hfn
                refine va_iald hx hb hK hP 4 0 rfl rfl g_17 dMd_row_131 ?_
                obtain rfl := Option.some.inj hfn
                exact W.iret hx hb hr (fun t ht hW => ⟨⟨_, _, rfl, ⟨rfl, rfl⟩, ⟨by rw [ht]; exact hP.sub [0, 1, 2, 3, 4, 5, 6, 7, 8, 9, 10, 11] rfl, va_K.moved hW.alike hK, hD.sub [0, 1, 2, 3, 4, 5, 6, 7, 8, 9, 10, 11] (by decide) rfl⟩⟩, hS.F ht⟩) hS.2.2 dMd_row_132
              · rw [if_neg c_16] at hfn
                by_cases c_18 : mkd = 6
                · rw [if_pos c_18] at hfn
                  refine lv_tableIn (tgt := 174) hx hb dMd_row_39 (by rw [c_18]; decide) (by rw [c_18]; decide) (by rw [c_18]; rfl) (by decide) ?_
                  refine lv_iload_n hx hb dMd_row_174 rfl (lv_at hl 0 rfl) ?_
                  refine lv_if_ge (tgt := 187) hx hb dMd_row_175 (by decide) (fun c_19 => ?_) (fun c_19 => ?_)
                  · rw [if_pos c_19] at hfn
                    refine lv_aload_n hx hb dMd_row_187 rfl (lv_at hl 1 rfl) ?_
                    refine va_get (D := (dC, dI)) (ci := 11) (v := .ref r_sum) (C := R_Md) (T := T_Md) (N := 31) hx hb htg in_Md hown hK hP 0 rfl rfl 18 (by decide) (htg _ wd_813) (fun _ h9 => h9) rfl dMd_row_188 ?_
                    refine lv_aload_n hx hb dMd_row_191 rfl (lv_at hl 1 rfl) ?_
                    refine lv_iload_n hx hb dMd_row_192 rfl (lv_at hl 0 rfl) ?_
                    refine lv_iload_n hx hb dMd_row_193 rfl (lv_at hl 2 rfl) ?_
                    refine lv_aload_n hx hb dMd_row_194 rfl (lv_at hl 1 rfl) ?_
                    refine va_get (D := (dC, dI)) (ci := 11) (v := .int mhs) (C := R_Md) (T := T_Md) (N := 31) hx hb htg in_Md hown hK hP 0 rfl rfl 4 (by decide) (htg _ wd_799) (fun _ h9 => h9) rfl dMd_row_195 ?_
                    obtain ⟨z_20, hz_20, hfn⟩ := ob hfn
                    refine rd_V (As := [.int s0_b34, .int pl, .int mhs]) (rest := [.ref r_sum]) ⟨hx, hb, hml, hown, htg⟩ (c_Md_taggedRow l dC dI cA o0 r_lastBit r_plain r_mixed r_chooser r_own r_ownCounter r_tag r_sum r_use r_weight r_loopTag r_length r_count r_trust r_waitPlace r_waitHistory r_waitSaid r_mark 0 mkd mbt mrw mhs mco mey mu1 mu2 mu3 mu4 mwt mmk s0_b34 pl mhs z_20 hz_20) (cw_V htg wd_922 ws_24 qMd_taggedRow iMd_taggedRow kMd_taggedRow pMd_taggedRow rfl rfl ⟨Nat.le_of_ble_eq_true rfl, Nat.le_of_ble_eq_true rfl⟩) (va_recv hK hP (ci := 11) (q0 := 0) rfl rfl) hN (hP.sub [0] rfl) hK rfl hl.1 rfl (Nat.le_of_ble_eq_true rfl) dMd_row_198 ⟨Nat.le_of_ble_eq_true rfl, Nat.le_of_ble_eq_true rfl⟩ ?_
                    obtain ⟨g_21, hfn⟩ := og hfn
                    refine va_iald hx hb hK hP 8 0 rfl rfl g_21 dMd_row_201 ?_
                    obtain rfl := Option.some.inj hfn
                    exact W.iret hx hb hr (fun t ht hW => ⟨⟨_, _, rfl, ⟨rfl, rfl⟩, ⟨by rw [ht]; exact hP.sub [0, 1, 2, 3, 4, 5, 6, 7, 8, 9, 10, 11] rfl, va_K.moved hW.alike hK, hD.sub [0, 1, 2, 3, 4, 5, 6, 7, 8, 9, 10, 11] (by decide) rfl⟩⟩, hS.F ht⟩) hS.2.2 dMd_row_202
                  · rw [if_neg c_19] at hfn
                    refine lv_aload_n hx hb dMd_row_178 rfl (lv_at hl 1 rfl) ?_
                    refine va_get (D := (dC, dI)) (ci := 11) (v := .ref r_plain) (C := R_Md) (T := T_Md) (N := 31) hx hb htg in_Md hown hK hP 0 rfl rfl 12 (by decide) (htg _ wd_807) (fun _ h9 => h9) rfl dMd_row_179 ?_
                    refine lv_iload_n hx hb dMd_row_182 rfl (lv_at hl 3 rfl) ?_
                    obtain ⟨g_22, hfn⟩ := og hfn
                    refine va_iald hx hb hK hP 2 0 rfl rfl g_22 dMd_row_183 ?_
                    refine lv_goto (tgt := 202) hx hb dMd_row_184 (by decide) ?_
                    obtain rfl := Option.some.inj hfn
                    exact W.iret hx hb hr (fun t ht hW => ⟨⟨_, _, rfl, ⟨rfl, rfl⟩, ⟨by rw [ht]; exact hP.sub [0, 1, 2, 3, 4, 5, 6, 7, 8, 9, 10, 11] rfl, va_K.moved hW.alike hK, hD.sub [0, 1, 2, 3, 4, 5, 6, 7, 8, 9, 10, 11] (by decide) rfl⟩⟩, hS.F ht⟩) hS.2.2 dMd_row_202
                · rw [if_neg c_18] at hfn
                  by_cases c_23 : mkd = 7
                  · rw [if_pos c_23] at hfn
                    refine lv_tableIn (tgt := 133) hx hb dMd_row_39 (by rw [c_23]; decide) (by rw [c_23]; decide) (by rw [c_23]; rfl) (by decide) ?_
                    refine lv_aload_n hx hb dMd_row_133 rfl (lv_at hl 1 rfl) ?_
                    refine lv_iload_n hx hb dMd_row_134 rfl (lv_at hl 2 rfl) ?_
                    refine lv_aload_n hx hb dMd_row_135 rfl (lv_at hl 1 rfl) ?_
                    refine va_get (D := (dC, dI)) (ci := 11) (v := .int mhs) (C := R_Md) (T := T_Md) (N := 31) hx hb htg in_Md hown hK hP 0 rfl rfl 4 (by decide) (htg _ wd_799) (fun _ h9 => h9) rfl dMd_row_136 ?_
                    obtain ⟨z_24, hz_24, hfn⟩ := ob hfn
                    refine rd_V (As := [.int pl, .int mhs]) (rest := []) ⟨hx, hb, hml, hown, htg⟩ (c_Md_total l dC dI cA o0 r_weight r_lastBit r_plain r_mixed r_chooser r_own r_ownCounter r_tag r_sum r_use r_loopTag r_length r_count r_trust r_waitPlace r_waitHistory r_waitSaid r_mark 0 mkd mbt mrw mhs mco mey mu1 mu2 mu3 mu4 mwt mmk g_weight pl mhs z_24 hz_24) (cw_V htg wd_939 ws_26 qMd_total iMd_total kMd_total pMd_total rfl rfl ⟨Nat.le_of_ble_eq_true rfl, Nat.le_of_ble_eq_true rfl⟩) (va_recv hK hP (ci := 11) (q0 := 0) rfl rfl) hN (hP.sub [0, 9] rfl) hK rfl hl.1 rfl (Nat.le_of_ble_eq_true rfl) dMd_row_139 ⟨Nat.le_of_ble_eq_true rfl, Nat.le_of_ble_eq_true rfl⟩ ?_
                    obtain rfl := Option.some.inj hfn
                    exact W.iret hx hb hr (fun t ht hW => ⟨⟨_, _, rfl, ⟨rfl, rfl⟩, ⟨by rw [ht]; exact hP.sub [0, 1, 2, 3, 4, 5, 6, 7, 8, 9, 10, 11] rfl, va_K.moved hW.alike hK, hD.sub [0, 1, 2, 3, 4, 5, 6, 7, 8, 9, 10, 11] (by decide) rfl⟩⟩, hS.F ht⟩) hS.2.2 dMd_row_142
                  · rw [if_neg c_23] at hfn
                    by_cases c_25 : mkd = 8
                    · rw [if_pos c_25] at hfn
                      refine lv_tableIn (tgt := 143) hx hb dMd_row_39 (by rw [c_25]; decide) (by rw [c_25]; decide) (by rw [c_25]; rfl) (by decide) ?_
                      refine lv_aload_n hx hb dMd_row_143 rfl (lv_at hl 1 rfl) ?_
                      refine lv_iload_n hx hb dMd_row_144 rfl (lv_at hl 2 rfl) ?_
                      obtain ⟨z_26, hz_26, hfn⟩ := ob hfn
                      refine rd_V (As := [.int pl]) (rest := []) ⟨hx, hb, hml, hown, htg⟩ (c_Md_hasLoop l dC dI cA o0 r_loopTag r_lastBit r_plain r_mixed r_chooser r_own r_ownCounter r_tag r_sum r_use r_weight r_length r_count r_trust r_waitPlace r_waitHistory r_waitSaid r_mark 0 mkd mbt mrw mhs mco mey mu1 mu2 mu3 mu4 mwt mmk g_loopTag pl z_26 hz_26) (cw_V htg wd_947 ws_28 qMd_hasLoop iMd_hasLoop kMd_hasLoop pMd_hasLoop rfl rfl ⟨Nat.le_of_ble_eq_true rfl, Nat.le_of_ble_eq_true rfl⟩) (va_recv hK hP (ci := 11) (q0 := 0) rfl rfl) hN (hP.sub [0, 10] rfl) hK rfl hl.1 rfl (Nat.le_of_ble_eq_true rfl) dMd_row_145 ⟨Nat.le_of_ble_eq_true rfl, Nat.le_of_ble_eq_true rfl⟩ ?_
                      refine lv_if_eq (tgt := 160) hx hb dMd_row_148 (by decide) (fun c_27 => ?_) (fun c_27 => ?_)
                      · rw [if_pos c_27] at hfn
                        refine lv_iconst (v := (-1)) hx hb dMd_row_160 (by decide) ?_
                        exact blk161 (-1) _ _ ls hfn (hP.sub [0, 1, 2, 3, 4, 5, 6, 7, 8, 9, 10, 11] rfl) (hD.sub [0, 1, 2, 3, 4, 5, 6, 7, 8, 9, 10, 11] (by decide) rfl) hS (lv_sub hl [] rfl)
                      · rw [if_neg c_27] at hfn
                        refine lv_aload_n hx hb dMd_row_151 rfl (lv_at hl 1 rfl) ?_
                        refine va_get (D := (dC, dI)) (ci := 11) (v := .ref r_trust) (C := R_Md) (T := T_Md) (N := 31) hx hb htg in_Md hown hK hP 0 rfl rfl 24 (by decide) (htg _ wd_819) (fun _ h9 => h9) rfl dMd_row_152 ?_
                        refine lv_iload_n hx hb dMd_row_155 rfl (lv_at hl 3 rfl) ?_
                        obtain ⟨g_28, hfn⟩ := og hfn
                        refine va_iald hx hb hK hP 11 0 rfl rfl g_28 dMd_row_156 ?_
                        refine lv_goto (tgt := 161) hx hb dMd_row_157 (by decide) ?_
                        exact blk161 (g_trust (tf_Md_plainRow mbt mrw pl).toNatClampNeg) _ _ ls hfn (hP.sub [0, 1, 2, 3, 4, 5, 6, 7, 8, 9, 10, 11] rfl) (hD.sub [0, 1, 2, 3, 4, 5, 6, 7, 8, 9, 10, 11] (by decide) rfl) hS (lv_sub hl [] rfl)
                    · rw [if_neg c_25] at hfn
                      by_cases c_29 : mkd = 9
                      · rw [if_pos c_29] at hfn
                        refine lv_tableIn (tgt := 164) hx hb dMd_row_39 (by rw [c_29]; decide) (by rw [c_29]; decide) (by rw [c_29]; rfl) (by decide) ?_
                        refine lv_aload_n hx hb dMd_row_164 rfl (lv_at hl 1 rfl) ?_
                        refine va_get (D := (dC, dI)) (ci := 11) (v := .int mco) (C := R_Md) (T := T_Md) (N := 31) hx hb htg in_Md hown hK hP 0 rfl rfl 5 (by decide) (htg _ wd_800) (fun _ h9 => h9) rfl dMd_row_165 ?_
                        refine lv_bipush (v := 16) hx hb dMd_row_168 (by decide) ?_
                        refine lv_iushr (v := (us mco 16)) hx hb dMd_row_170 rfl ?_
                        refine lv_iconst (v := 1) hx hb dMd_row_171 (by decide) ?_
                        refine lv_iand hx hb dMd_row_172 ?_
                        obtain rfl := Option.some.inj hfn
                        exact W.iret hx hb hr (fun t ht hW => ⟨⟨_, _, rfl, ⟨rfl, rfl⟩, ⟨by rw [ht]; exact hP.sub [0, 1, 2, 3, 4, 5, 6, 7, 8, 9, 10, 11] rfl, va_K.moved hW.alike hK, hD.sub [0, 1, 2, 3, 4, 5, 6, 7, 8, 9, 10, 11] (by decide) rfl⟩⟩, hS.F ht⟩) hS.2.2 dMd_row_173
                      · rw [if_neg c_29] at hfn
                        refine lv_tableOut (tgt := 174) hx hb dMd_row_39 (by have := ne_toInt (z := 0) c_3 (by decide); have := ne_toInt (z := 1) c_4 (by decide); have := ne_toInt (z := 2) c_6 (by decide); have := ne_toInt (z := 3) c_11 (by decide); have := ne_toInt (z := 4) c_13 (by decide); have := ne_toInt (z := 5) c_16 (by decide); have := ne_toInt (z := 6) c_18 (by decide); have := ne_toInt (z := 7) c_23 (by decide); have := ne_toInt (z := 8) c_25 (by decide); have := ne_toInt (z := 9) c_29 (by decide); omega) (by decide) ?_
                        refine lv_iload_n hx hb dMd_row_174 rfl (lv_at hl 0 rfl) ?_
                        refine lv_if_ge (tgt := 187) hx hb dMd_row_175 (by decide) (fun c_30 => ?_) (fun c_30 => ?_)
                        · rw [if_pos c_30] at hfn
                          refine lv_aload_n hx hb dMd_row_187 rfl (lv_at hl 1 rfl) ?_
                          refine va_get (D := (dC, dI)) (ci := 11) (v := .ref r_sum) (C := R_Md) (T := T_Md) (N := 31) hx hb htg in_Md hown hK hP 0 rfl rfl 18 (by decide) (htg _ wd_813) (fun _ h9 => h9) rfl dMd_row_188 ?_
                          refine lv_aload_n hx hb dMd_row_191 rfl (lv_at hl 1 rfl) ?_
                          refine lv_iload_n hx hb dMd_row_192 rfl (lv_at hl 0 rfl) ?_
                          refine lv_iload_n hx hb dMd_row_193 rfl (lv_at hl 2 rfl) ?_
                          refine lv_aload_n hx hb dMd_row_194 rfl (lv_at hl 1 rfl) ?_
                          refine va_get (D := (dC, dI)) (ci := 11) (v := .int mhs) (C := R_Md) (T := T_Md) (N := 31) hx hb htg in_Md hown hK hP 0 rfl rfl 4 (by decide) (htg _ wd_799) (fun _ h9 => h9) rfl dMd_row_195 ?_
                          obtain ⟨z_31, hz_31, hfn⟩ := ob hfn
                          refine rd_V (As := [.int s0_b34, .int pl, .int mhs]) (rest := [.ref r_sum]) ⟨hx, hb, hml, hown, htg⟩ (c_Md_taggedRow l dC dI cA o0 r_lastBit r_plain r_mixed r_chooser r_own r_ownCounter r_tag r_sum r_use r_weight r_loopTag r_length r_count r_trust r_waitPlace r_waitHistory r_waitSaid r_mark 0 mkd mbt mrw mhs mco mey mu1 mu2 mu3 mu4 mwt mmk s0_b34 pl mhs z_31 hz_31) (cw_V htg wd_922 ws_24 qMd_taggedRow iMd_taggedRow kMd_taggedRow pMd_taggedRow rfl rfl ⟨Nat.le_of_ble_eq_true rfl, Nat.le_of_ble_eq_true rfl⟩) (va_recv hK hP (ci := 11) (q0 := 0) rfl rfl) hN (hP.sub [0] rfl) hK rfl hl.1 rfl (Nat.le_of_ble_eq_true rfl) dMd_row_198 ⟨Nat.le_of_ble_eq_true rfl, Nat.le_of_ble_eq_true rfl⟩ ?_
                          obtain ⟨g_32, hfn⟩ := og hfn
                          refine va_iald hx hb hK hP 8 0 rfl rfl g_32 dMd_row_201 ?_
                          obtain rfl := Option.some.inj hfn
                          exact W.iret hx hb hr (fun t ht hW => ⟨⟨_, _, rfl, ⟨rfl, rfl⟩, ⟨by rw [ht]; exact hP.sub [0, 1, 2, 3, 4, 5, 6, 7, 8, 9, 10, 11] rfl, va_K.moved hW.alike hK, hD.sub [0, 1, 2, 3, 4, 5, 6, 7, 8, 9, 10, 11] (by decide) rfl⟩⟩, hS.F ht⟩) hS.2.2 dMd_row_202
                        · rw [if_neg c_30] at hfn
                          refine lv_aload_n hx hb dMd_row_178 rfl (lv_at hl 1 rfl) ?_
                          refine va_get (D := (dC, dI)) (ci := 11) (v := .ref r_plain) (C := R_Md) (T := T_Md) (N := 31) hx hb htg in_Md hown hK hP 0 rfl rfl 12 (by decide) (htg _ wd_807) (fun _ h9 => h9) rfl dMd_row_179 ?_
                          refine lv_iload_n hx hb dMd_row_182 rfl (lv_at hl 3 rfl) ?_
                          obtain ⟨g_33, hfn⟩ := og hfn
                          refine va_iald hx hb hK hP 2 0 rfl rfl g_33 dMd_row_183 ?_
                          refine lv_goto (tgt := 202) hx hb dMd_row_184 (by decide) ?_
                          obtain rfl := Option.some.inj hfn
                          exact W.iret hx hb hr (fun t ht hW => ⟨⟨_, _, rfl, ⟨rfl, rfl⟩, ⟨by rw [ht]; exact hP.sub [0, 1, 2, 3, 4, 5, 6, 7, 8, 9, 10, 11] rfl, va_K.moved hW.alike hK, hD.sub [0, 1, 2, 3, 4, 5, 6, 7, 8, 9, 10, 11] (by decide) rfl⟩⟩, hS.F ht⟩) hS.2.2 dMd_row_202
  have hl := lv_entry ([.ref o0, .int pl]) (n := 4) (Nat.le_of_ble_eq_true rfl)
  rw [lg_entry_eq]
  generalize (lg_sl ([.ref o0, .int pl]) ++ List.replicate (4 - (lg_sl ([.ref o0, .int pl])).length) Slot.unset).toArray = ls at hl ⊢
  have hl : lv_has ls 4 [(0, .ref o0), (1, .int pl)] := hl
  unfold of_Md_row at hfn
  refine lv_aload_n hx hb dMd_row_0 rfl (lv_at hl 0 rfl) ?_
  refine lv_iconst (v := 0) hx hb dMd_row_1 (by decide) ?_
  refine va_put (D := (dC, dI)) (ci := 11) (v := .int 0) (ty := .int) (C := R_Md) (T := T_Md) (N := 31) hx hb htg in_Md ty_Md tk_Md nm_Md hown hK hP hD hS 0 rfl rfl 0 (by decide) (htg _ wd_795) (fun _ h9 => h9) rfl (by decide +kernel) rfl rfl (Nat.le_of_ble_eq_true rfl) dMd_row_2 (fun H locs hP hD hS => ?_)
  have hP : va_P (dC, dI) vwCl [(o0, .inr (11, [.int 0, .int mkd, .int mbt, .int mrw, .int mhs, .int mco, .int (bI mey), .int mu1, .int mu2, .int mu3, .int mu4, .ref r_lastBit, .ref r_plain, .ref r_mixed, .ref r_chooser, .ref r_own, .ref r_ownCounter, .ref r_tag, .ref r_sum, .ref r_use, .ref r_weight, .ref r_loopTag, .ref r_length, .ref r_count, .ref r_trust, .int mwt, .ref r_waitPlace, .ref r_waitHistory, .ref r_waitSaid, .int mmk, .ref r_mark])), (r_lastBit, .inl (cA.1, 1024, .inl g_lastBit)), (r_plain, .inl (cA.1, 1024, .inl g_plain)), (r_mixed, .inl (cA.1, 1024, .inl g_mixed)), (r_chooser, .inl (cA.1, 1024, .inl g_chooser)), (r_own, .inl (cA.1, 1024, .inl g_own)), (r_ownCounter, .inl (cA.1, 1024, .inl g_ownCounter)), (r_tag, .inl (cA.1, 3072, .inl g_tag)), (r_sum, .inl (cA.1, 3072, .inl g_sum)), (r_weight, .inl (cA.1, 9216, .inl g_weight)), (r_loopTag, .inl (cA.1, 1024, .inl g_loopTag)), (r_trust, .inl (cA.1, 1024, .inl g_trust))] H := hP
  have hD : va_D A [(o0, .inr (11, [.int 0, .int mkd, .int mbt, .int mrw, .int mhs, .int mco, .int (bI mey), .int mu1, .int mu2, .int mu3, .int mu4, .ref r_lastBit, .ref r_plain, .ref r_mixed, .ref r_chooser, .ref r_own, .ref r_ownCounter, .ref r_tag, .ref r_sum, .ref r_use, .ref r_weight, .ref r_loopTag, .ref r_length, .ref r_count, .ref r_trust, .int mwt, .ref r_waitPlace, .ref r_waitHistory, .ref r_waitSaid, .int mmk, .ref r_mark])), (r_lastBit, .inl (cA.1, 1024, .inl g_lastBit)), (r_plain, .inl (cA.1, 1024, .inl g_plain)), (r_mixed, .inl (cA.1, 1024, .inl g_mixed)), (r_chooser, .inl (cA.1, 1024, .inl g_chooser)), (r_own, .inl (cA.1, 1024, .inl g_own)), (r_ownCounter, .inl (cA.1, 1024, .inl g_ownCounter)), (r_tag, .inl (cA.1, 3072, .inl g_tag)), (r_sum, .inl (cA.1, 3072, .inl g_sum)), (r_weight, .inl (cA.1, 9216, .inl g_weight)), (r_loopTag, .inl (cA.1, 1024, .inl g_loopTag)), (r_trust, .inl (cA.1, 1024, .inl g_trust))] := hD
  refine lv_aload_n hx hb dMd_row_5 rfl (lv_at hl 0 rfl) ?_
  refine lv_iload_n hx hb dMd_row_6 rfl (lv_at hl 1 rfl) ?_
  refine rd_V (As := [.int pl]) (rest := []) ⟨hx, hb, hml, hown, htg⟩ (c_Md_plainRow l dC dI cA o0 r_lastBit r_plain r_mixed r_chooser r_own r_ownCounter r_tag r_sum r_use r_weight r_loopTag r_length r_count r_trust r_waitPlace r_waitHistory r_waitSaid r_mark 0 mkd mbt mrw mhs mco mey mu1 mu2 mu3 mu4 mwt mmk pl) (cw_V htg wd_902 ws_19 qMd_plainRow iMd_plainRow kMd_plainRow pMd_plainRow rfl rfl ⟨Nat.le_of_ble_eq_true rfl, Nat.le_of_ble_eq_true rfl⟩) (va_recv hK hP (ci := 11) (q0 := 0) rfl rfl) hN (hP.sub [0] rfl) hK rfl hl.1 rfl (Nat.le_of_ble_eq_true rfl) dMd_row_7 ⟨Nat.le_of_ble_eq_true rfl, Nat.le_of_ble_eq_true rfl⟩ ?_
  refine lv_istore_n (lv' := [(2, .int (tf_Md_plainRow mbt mrw pl)), (0, .ref o0), (1, .int pl)]) hx hb dMd_row_10 rfl hl (by decide) rfl (fun ls hl => ?_)
  refine lv_aload_n hx hb dMd_row_11 rfl (lv_at hl 1 rfl) ?_
  refine va_get (D := (dC, dI)) (ci := 11) (v := .int mkd) (C := R_Md) (T := T_Md) (N := 31) hx hb htg in_Md hown hK hP 0 rfl rfl 1 (by decide) (htg _ wd_796) (fun _ h9 => h9) rfl dMd_row_12 ?_
  refine lv_bipush (v := 6) hx hb dMd_row_15 (by decide) ?_
  refine lv_icmp_ne (tgt := 33) hx hb dMd_row_17 (by decide) (fun c_1 => ?_) (fun c_1 => ?_)
  · rw [if_neg c_1] at hfn
    refine lv_iconst (v := (-1)) hx hb dMd_row_33 (by decide) ?_
    exact blk34 (-1) _ _ ls hfn (hP.sub [0, 1, 2, 3, 4, 5, 6, 7, 8, 9, 10, 11] rfl) (hD.sub [0, 1, 2, 3, 4, 5, 6, 7, 8, 9, 10, 11] (by decide) rfl) hS (lv_sub hl [1, 2, 0] rfl)
  · rw [if_pos c_1] at hfn
    refine lv_aload_n hx hb dMd_row_20 rfl (lv_at hl 1 rfl) ?_
    refine lv_iconst (v := 3) hx hb dMd_row_21 (by decide) ?_
    refine lv_iload_n hx hb dMd_row_22 rfl (lv_at hl 2 rfl) ?_
    refine lv_aload_n hx hb dMd_row_23 rfl (lv_at hl 1 rfl) ?_
    refine va_get (D := (dC, dI)) (ci := 11) (v := .int mhs) (C := R_Md) (T := T_Md) (N := 31) hx hb htg in_Md hown hK hP 0 rfl rfl 4 (by decide) (htg _ wd_799) (fun _ h9 => h9) rfl dMd_row_24 ?_
    obtain ⟨z_2, hz_2, hfn⟩ := ob hfn
    refine rd_V (As := [.int 3, .int pl, .int mhs]) (rest := []) ⟨hx, hb, hml, hown, htg⟩ (c_Md_hitBefore l dC dI cA o0 r_tag r_lastBit r_plain r_mixed r_chooser r_own r_ownCounter r_sum r_use r_weight r_loopTag r_length r_count r_trust r_waitPlace r_waitHistory r_waitSaid r_mark 0 mkd mbt mrw mhs mco mey mu1 mu2 mu3 mu4 mwt mmk g_tag 3 pl mhs z_2 hz_2) (cw_V htg wd_914 ws_22 qMd_hitBefore iMd_hitBefore kMd_hitBefore pMd_hitBefore rfl rfl ⟨Nat.le_of_ble_eq_true rfl, Nat.le_of_ble_eq_true rfl⟩) (va_recv hK hP (ci := 11) (q0 := 0) rfl rfl) hN (hP.sub [0, 7] rfl) hK rfl hl.1 rfl (Nat.le_of_ble_eq_true rfl) dMd_row_27 ⟨Nat.le_of_ble_eq_true rfl, Nat.le_of_ble_eq_true rfl⟩ ?_
    refine lv_goto (tgt := 34) hx hb dMd_row_30 (by decide) ?_
    exact blk34 z_2 _ _ ls hfn (hP.sub [0, 1, 2, 3, 4, 5, 6, 7, 8, 9, 10, 11] rfl) (hD.sub [0, 1, 2, 3, 4, 5, 6, 7, 8, 9, 10, 11] (by decide) rfl) hS (lv_sub hl [1, 2, 0] rfl)
def of_Md_part_b32 (s0_b32 : Int32) : Option (Int32 × Int32) := some (s0_b32, 0)
def of_Md_part (mkd : Int32) (mbt : Int32) (mrw : Int32) (mhs : Int32) (g_chooser : Nat → Int32) (g_tag : Nat → Int32) (g_loopTag : Nat → Int32) (g_trust : Nat → Int32) (pl : Int32) : Option (Int32 × Int32) := (if mkd = 5 then (if (tf_Md_plainRow mbt mrw pl) < 0 ∨ 1024 ≤ (tf_Md_plainRow mbt mrw pl).toNatClampNeg then none else (if (g_chooser (tf_Md_plainRow mbt mrw pl).toNatClampNeg) ≤ 1 then of_Md_part_b32 2 else of_Md_part_b32 3)) else (if mkd = 6 then ((of_Md_hitBefore mbt mrw g_tag 3 pl mhs).bind fun z_6 => some (z_6, 0)) else (if mkd = 8 then ((of_Md_isLoop mbt mrw g_loopTag g_trust pl).bind fun z_4 => (if (bI z_4) = 0 then some (0, 0) else some (1, 0))) else some (0, 0))))
set_option maxHeartbeats 4000000 in
set_option maxRecDepth 100000 in
theorem c_Md_part (l : Launch) (dC : Nat → ClassId) (dI : Nat → Nat → Nat) (cA : ClassId × ClassId × ClassId) (zz : Nat) (o0 : Nat) (r_chooser : Nat) (r_tag : Nat) (r_loopTag : Nat) (r_trust : Nat) (r_lastBit : Nat) (r_plain : Nat) (r_mixed : Nat) (r_own : Nat) (r_ownCounter : Nat) (r_sum : Nat) (r_use : Nat) (r_weight : Nat) (r_length : Nat) (r_count : Nat) (r_waitPlace : Nat) (r_waitHistory : Nat) (r_waitSaid : Nat) (r_mark : Nat) (mt : Int32) (mkd : Int32) (mbt : Int32) (mrw : Int32) (mhs : Int32) (mco : Int32) (mey : Bool) (mu1 : Int32) (mu2 : Int32) (mu3 : Int32) (mu4 : Int32) (mwt : Int32) (mmk : Int32) (g_chooser : Nat → Int32) (g_tag : Nat → Int32) (g_loopTag : Nat → Int32) (g_trust : Nat → Int32) (pl : Int32) (rs : Int32 × Int32) (hfn : (of_Md_part mkd mbt mrw mhs g_chooser g_tag g_loopTag g_trust pl) = some rs) : Met l yMd_part wMd_part ({ frames := 4, cells := 0, slots := 0, locals := 95 }) (va_Pc [.ref o0, .int pl] (Wr (dC, dI) cA zz [(o0, .inr (11, [.int mt, .int mkd, .int mbt, .int mrw, .int mhs, .int mco, .int (bI mey), .int mu1, .int mu2, .int mu3, .int mu4, .ref r_lastBit, .ref r_plain, .ref r_mixed, .ref r_chooser, .ref r_own, .ref r_ownCounter, .ref r_tag, .ref r_sum, .ref r_use, .ref r_weight, .ref r_loopTag, .ref r_length, .ref r_count, .ref r_trust, .int mwt, .ref r_waitPlace, .ref r_waitHistory, .ref r_waitSaid, .int mmk, .ref r_mark])), (r_chooser, .inl (cA.1, 1024, .inl g_chooser)), (r_tag, .inl (cA.1, 3072, .inl g_tag)), (r_loopTag, .inl (cA.1, 1024, .inl g_loopTag)), (r_trust, .inl (cA.1, 1024, .inl g_trust))])) (va_Qi (fun r9 w9 => r9 = rs.1 ∧ w9 = [(o0, .inr (11, [.int rs.2, .int mkd, .int mbt, .int mrw, .int mhs, .int mco, .int (bI mey), .int mu1, .int mu2, .int mu3, .int mu4, .ref r_lastBit, .ref r_plain, .ref r_mixed, .ref r_chooser, .ref r_own, .ref r_ownCounter, .ref r_tag, .ref r_sum, .ref r_use, .ref r_weight, .ref r_loopTag, .ref r_length, .ref r_count, .ref r_trust, .int mwt, .ref r_waitPlace, .ref r_waitHistory, .ref r_waitSaid, .int mmk, .ref r_mark])), (r_chooser, .inl (cA.1, 1024, .inl g_chooser)), (r_tag, .inl (cA.1, 3072, .inl g_tag)), (r_loopTag, .inl (cA.1, 1024, .inl g_loopTag)), (r_trust, .inl (cA.1, 1024, .inl g_trust))]) (At (dC, dI) cA (va_A [(o0, .inr (11, [.int mt, .int mkd, .int mbt, .int mrw, .int mhs, .int mco, .int (bI mey), .int mu1, .int mu2, .int mu3, .int mu4, .ref r_lastBit, .ref r_plain, .ref r_mixed, .ref r_chooser, .ref r_own, .ref r_ownCounter, .ref r_tag, .ref r_sum, .ref r_use, .ref r_weight, .ref r_loopTag, .ref r_length, .ref r_count, .ref r_trust, .int mwt, .ref r_waitPlace, .ref r_waitHistory, .ref r_waitSaid, .int mmk, .ref r_mark])), (r_chooser, .inl (cA.1, 1024, .inl g_chooser)), (r_tag, .inl (cA.1, 3072, .inl g_tag)), (r_loopTag, .inl (cA.1, 1024, .inl g_loopTag)), (r_trust, .inl (cA.1, 1024, .inl g_trust))] zz)) (va_A [(o0, .inr (11, [.int mt, .int mkd, .int mbt, .int mrw, .int mhs, .int mco, .int (bI mey), .int mu1, .int mu2, .int mu3, .int mu4, .ref r_lastBit, .ref r_plain, .ref r_mixed, .ref r_chooser, .ref r_own, .ref r_ownCounter, .ref r_tag, .ref r_sum, .ref r_use, .ref r_weight, .ref r_loopTag, .ref r_length, .ref r_count, .ref r_trust, .int mwt, .ref r_waitPlace, .ref r_waitHistory, .ref r_waitSaid, .int mmk, .ref r_mark])), (r_chooser, .inl (cA.1, 1024, .inl g_chooser)), (r_tag, .inl (cA.1, 3072, .inl g_tag)), (r_loopTag, .inl (cA.1, 1024, .inl g_loopTag)), (r_trust, .inl (cA.1, 1024, .inl g_trust))] zz)) 0 0 (va_A [(o0, .inr (11, [.int mt, .int mkd, .int mbt, .int mrw, .int mhs, .int mco, .int (bI mey), .int mu1, .int mu2, .int mu3, .int mu4, .ref r_lastBit, .ref r_plain, .ref r_mixed, .ref r_chooser, .ref r_own, .ref r_ownCounter, .ref r_tag, .ref r_sum, .ref r_use, .ref r_weight, .ref r_loopTag, .ref r_length, .ref r_count, .ref r_trust, .int mwt, .ref r_waitPlace, .ref r_waitHistory, .ref r_waitSaid, .int mmk, .ref r_mark])), (r_chooser, .inl (cA.1, 1024, .inl g_chooser)), (r_tag, .inl (cA.1, 3072, .inl g_tag)), (r_loopTag, .inl (cA.1, 1024, .inl g_loopTag)), (r_trust, .inl (cA.1, 1024, .inl g_trust))] zz) := by
  refine Met.ofW (cc := cMd_part) (maxL := 2) (ret := (some .int)) (by decide) rfl ?_
  intro p e s m args below meth c s₁ B hml hv
  obtain ⟨rfl, hsz, hN, hP, hK, hD0⟩ := hv
  have hx := B.exec
  have hb := B.bytes
  have hr := B.returns
  have hts := atoms_spec (ws := wMd_part) B.pre
  have htg : ∀ w ∈ GW, w.before _ s = true := fun w h => hts w (List.mem_cons_of_mem _ h)
  have hown : s.vm.findClass R_Md = some m.cls := findClass_of_methodNamed B.named
  have hlocks := B.notSynchronized
  subst hsz
  have hD := hD0.self (sz := s.heap.size)
  generalize hAe : va_A [(o0, .inr (11, [.int mt, .int mkd, .int mbt, .int mrw, .int mhs, .int mco, .int (bI mey), .int mu1, .int mu2, .int mu3, .int mu4, .ref r_lastBit, .ref r_plain, .ref r_mixed, .ref r_chooser, .ref r_own, .ref r_ownCounter, .ref r_tag, .ref r_sum, .ref r_use, .ref r_weight, .ref r_loopTag, .ref r_length, .ref r_count, .ref r_trust, .int mwt, .ref r_waitPlace, .ref r_waitHistory, .ref r_waitSaid, .int mmk, .ref r_mark])), (r_chooser, .inl (cA.1, 1024, .inl g_chooser)), (r_tag, .inl (cA.1, 3072, .inl g_tag)), (r_loopTag, .inl (cA.1, 1024, .inl g_loopTag)), (r_trust, .inl (cA.1, 1024, .inl g_trust))] s.heap.size = A at hD ⊢
  have hA : ∀ q : Nat, s.heap.size ≤ q → A q := fun q h => by rw [← hAe]; exact Or.inr h
  have hS : va_S A s.heap s.heap [] := va_S.rf
  have hP : va_P (dC, dI) vwCl [(o0, .inr (11, [.int mt, .int mkd, .int mbt, .int mrw, .int mhs, .int mco, .int (bI mey), .int mu1, .int mu2, .int mu3, .int mu4, .ref r_lastBit, .ref r_plain, .ref r_mixed, .ref r_chooser, .ref r_own, .ref r_ownCounter, .ref r_tag, .ref r_sum, .ref r_use, .ref r_weight, .ref r_loopTag, .ref r_length, .ref r_count, .ref r_trust, .int mwt, .ref r_waitPlace, .ref r_waitHistory, .ref r_waitSaid, .int mmk, .ref r_mark])), (r_chooser, .inl (cA.1, 1024, .inl g_chooser)), (r_tag, .inl (cA.1, 3072, .inl g_tag)), (r_loopTag, .inl (cA.1, 1024, .inl g_loopTag)), (r_trust, .inl (cA.1, 1024, .inl g_trust))] s.heap := hP
  have blk32 : ∀ (s0_b32 : Int32) (H : Heap) (locs : List Loc) (ls : Array Slot), of_Md_part_b32 s0_b32 = some rs → va_P (dC, dI) vwCl [(o0, .inr (11, [.int 0, .int mkd, .int mbt, .int mrw, .int mhs, .int mco, .int (bI mey), .int mu1, .int mu2, .int mu3, .int mu4, .ref r_lastBit, .ref r_plain, .ref r_mixed, .ref r_chooser, .ref r_own, .ref r_ownCounter, .ref r_tag, .ref r_sum, .ref r_use, .ref r_weight, .ref r_loopTag, .ref r_length, .ref r_count, .ref r_trust, .int mwt, .ref r_waitPlace, .ref r_waitHistory, .ref r_waitSaid, .int mmk, .ref r_mark])), (r_chooser, .inl (cA.1, 1024, .inl g_chooser)), (r_tag, .inl (cA.1, 3072, .inl g_tag)), (r_loopTag, .inl (cA.1, 1024, .inl g_loopTag)), (r_trust, .inl (cA.1, 1024, .inl g_trust))] H → va_D A [(o0, .inr (11, [.int 0, .int mkd, .int mbt, .int mrw, .int mhs, .int mco, .int (bI mey), .int mu1, .int mu2, .int mu3, .int mu4, .ref r_lastBit, .ref r_plain, .ref r_mixed, .ref r_chooser, .ref r_own, .ref r_ownCounter, .ref r_tag, .ref r_sum, .ref r_use, .ref r_weight, .ref r_loopTag, .ref r_length, .ref r_count, .ref r_trust, .int mwt, .ref r_waitPlace, .ref r_waitHistory, .ref r_waitSaid, .int mmk, .ref r_mark])), (r_chooser, .inl (cA.1, 1024, .inl g_chooser)), (r_tag, .inl (cA.1, 3072, .inl g_tag)), (r_loopTag, .inl (cA.1, 1024, .inl g_loopTag)), (r_trust, .inl (cA.1, 1024, .inl g_trust))] → va_S A s.heap H locs → lv_has ls 2 [] → W p l e (headSpec wMd_part ({ frames := 4, cells := 0, slots := 0, locals := 95 })).room s m ([.ref o0, .int pl] : List Value).toArray below meth c H locs 0 0 (MQ below (va_Qi (fun r9 w9 => r9 = rs.1 ∧ w9 = [(o0, .inr (11, [.int rs.2, .int mkd, .int mbt, .int mrw, .int mhs, .int mco, .int (bI mey), .int mu1, .int mu2, .int mu3, .int mu4, .ref r_lastBit, .ref r_plain, .ref r_mixed, .ref r_chooser, .ref r_own, .ref r_ownCounter, .ref r_tag, .ref r_sum, .ref r_use, .ref r_weight, .ref r_loopTag, .ref r_length, .ref r_count, .ref r_trust, .int mwt, .ref r_waitPlace, .ref r_waitHistory, .ref r_waitSaid, .int mmk, .ref r_mark])), (r_chooser, .inl (cA.1, 1024, .inl g_chooser)), (r_tag, .inl (cA.1, 3072, .inl g_tag)), (r_loopTag, .inl (cA.1, 1024, .inl g_loopTag)), (r_trust, .inl (cA.1, 1024, .inl g_trust))]) (At (dC, dI) cA A) A) ([.ref o0, .int pl] : List Value).toArray s 0 0 A) (F0 m 32 ls [.int s0_b32]) := by
    intro s0_b32 H locs ls hfn hP hD hS hl
    unfold of_Md_part_b32 at hfn
    obtain rfl := Option.some.inj hfn
    exact W.iret hx hb hr (fun t ht hW => ⟨⟨_, _, rfl, ⟨rfl, rfl⟩, ⟨by rw [ht]; exact hP.sub [0, 1, 2, 3, 4] rfl, va_K.moved hW.alike hK, hD.sub [0, 1, 2, 3, 4] (by decide) rfl⟩⟩, hS.F ht⟩) hS.2.2 dMd_part_32
  have hl := lv_entry ([.ref o0, .int pl]) (n := 2) (Nat.le_of_ble_eq_true rfl)
  rw [lg_entry_eq]
  generalize (lg_sl ([.ref o0, .int pl]) ++ List.replicate (2 - (lg_sl ([.ref o0, .int pl])).length) Slot.unset).toArray = ls at hl ⊢
  have hl : lv_has ls 2 [(0, .ref o0), (1, .int pl)] := hl
  unfold of_Md_part at hfn
  refine lv_aload_n hx hb dMd_part_0 rfl (lv_at hl 0 rfl) ?_
  refine lv_iconst (v := 0) hx hb dMd_part_1 (by decide) ?_
  refine va_put (D := (dC, dI)) (ci := 11) (v := .int 0) (ty := .int) (C := R_Md) (T := T_Md) (N := 31) hx hb htg in_Md ty_Md tk_Md nm_Md hown hK hP hD hS 0 rfl rfl 0 (by decide) (htg _ wd_795) (fun _ h9 => h9) rfl (by decide +kernel) rfl rfl (Nat.le_of_ble_eq_true rfl) dMd_part_2 (fun H locs hP hD hS => ?_)
  have hP : va_P (dC, dI) vwCl [(o0, .inr (11, [.int 0, .int mkd, .int mbt, .int mrw, .int mhs, .int mco, .int (bI mey), .int mu1, .int mu2, .int mu3, .int mu4, .ref r_lastBit, .ref r_plain, .ref r_mixed, .ref r_chooser, .ref r_own, .ref r_ownCounter, .ref r_tag, .ref r_sum, .ref r_use, .ref r_weight, .ref r_loopTag, .ref r_length, .ref r_count, .ref r_trust, .int mwt, .ref r_waitPlace, .ref r_waitHistory, .ref r_waitSaid, .int mmk, .ref r_mark])), (r_chooser, .inl (cA.1, 1024, .inl g_chooser)), (r_tag, .inl (cA.1, 3072, .inl g_tag)), (r_loopTag, .inl (cA.1, 1024, .inl g_loopTag)), (r_trust, .inl (cA.1, 1024, .inl g_trust))] H := hP
  have hD : va_D A [(o0, .inr (11, [.int 0, .int mkd, .int mbt, .int mrw, .int mhs, .int mco, .int (bI mey), .int mu1, .int mu2, .int mu3, .int mu4, .ref r_lastBit, .ref r_plain, .ref r_mixed, .ref r_chooser, .ref r_own, .ref r_ownCounter, .ref r_tag, .ref r_sum, .ref r_use, .ref r_weight, .ref r_loopTag, .ref r_length, .ref r_count, .ref r_trust, .int mwt, .ref r_waitPlace, .ref r_waitHistory, .ref r_waitSaid, .int mmk, .ref r_mark])), (r_chooser, .inl (cA.1, 1024, .inl g_chooser)), (r_tag, .inl (cA.1, 3072, .inl g_tag)), (r_loopTag, .inl (cA.1, 1024, .inl g_loopTag)), (r_trust, .inl (cA.1, 1024, .inl g_trust))] := hD
  refine lv_aload_n hx hb dMd_part_5 rfl (lv_at hl 0 rfl) ?_
  refine va_get (D := (dC, dI)) (ci := 11) (v := .int mkd) (C := R_Md) (T := T_Md) (N := 31) hx hb htg in_Md hown hK hP 0 rfl rfl 1 (by decide) (htg _ wd_796) (fun _ h9 => h9) rfl dMd_part_6 ?_
  refine lv_iconst (v := 5) hx hb dMd_part_9 (by decide) ?_
  refine lv_icmp_ne (tgt := 33) hx hb dMd_part_10 (by decide) (fun c_1 => ?_) (fun c_1 => ?_)
  · rw [if_neg c_1] at hfn
    refine lv_aload_n hx hb dMd_part_33 rfl (lv_at hl 0 rfl) ?_
    refine va_get (D := (dC, dI)) (ci := 11) (v := .int mkd) (C := R_Md) (T := T_Md) (N := 31) hx hb htg in_Md hown hK hP 0 rfl rfl 1 (by decide) (htg _ wd_796) (fun _ h9 => h9) rfl dMd_part_34 ?_
    refine lv_bipush (v := 6) hx hb dMd_part_37 (by decide) ?_
    refine lv_icmp_ne (tgt := 53) hx hb dMd_part_39 (by decide) (fun c_2 => ?_) (fun c_2 => ?_)
    · rw [if_neg c_2] at hfn
      refine lv_aload_n hx hb dMd_part_53 rfl (lv_at hl 0 rfl) ?_
      refine va_get (D := (dC, dI)) (ci := 11) (v := .int mkd) (C := R_Md) (T := T_Md) (N := 31) hx hb htg in_Md hown hK hP 0 rfl rfl 1 (by decide) (htg _ wd_796) (fun _ h9 => h9) rfl dMd_part_54 ?_
      refine lv_bipush (v := 8) hx hb dMd_part_57 (by decide) ?_
      refine lv_icmp_ne (tgt := 74) hx hb dMd_part_59 (by decide) (fun c_3 => ?_) (fun c_3 => ?_)
      · rw [if_neg c_3] at hfn
        refine lv_iconst (v := 0) hx hb dMd_part_74 (by decide) ?_
        obtain rfl := Option.some.inj hfn
        exact W.iret hx hb hr (fun t ht hW => ⟨⟨_, _, rfl, ⟨rfl, rfl⟩, ⟨by rw [ht]; exact hP.sub [0, 1, 2, 3, 4] rfl, va_K.moved hW.alike hK, hD.sub [0, 1, 2, 3, 4] (by decide) rfl⟩⟩, hS.F ht⟩) hS.2.2 dMd_part_75
      · rw [if_pos c_3] at hfn
        refine lv_aload_n hx hb dMd_part_62 rfl (lv_at hl 0 rfl) ?_
        refine lv_iload_n hx hb dMd_part_63 rfl (lv_at hl 1 rfl) ?_
        obtain ⟨z_4, hz_4, hfn⟩ := ob hfn
        refine rd_V (As := [.int pl]) (rest := []) ⟨hx, hb, hml, hown, htg⟩ (c_Md_isLoop l dC dI cA o0 r_loopTag r_trust r_lastBit r_plain r_mixed r_chooser r_own r_ownCounter r_tag r_sum r_use r_weight r_length r_count r_waitPlace r_waitHistory r_waitSaid r_mark 0 mkd mbt mrw mhs mco mey mu1 mu2 mu3 mu4 mwt mmk g_loopTag g_trust pl z_4 hz_4) (cw_V htg wd_943 ws_27 qMd_isLoop iMd_isLoop kMd_isLoop pMd_isLoop rfl rfl ⟨Nat.le_of_ble_eq_true rfl, Nat.le_of_ble_eq_true rfl⟩) (va_recv hK hP (ci := 11) (q0 := 0) rfl rfl) hN (hP.sub [0, 3, 4] rfl) hK rfl hl.1 rfl (Nat.le_of_ble_eq_true rfl) dMd_part_64 ⟨Nat.le_of_ble_eq_true rfl, Nat.le_of_ble_eq_true rfl⟩ ?_
        refine lv_if_eq (tgt := 74) hx hb dMd_part_67 (by decide) (fun c_5 => ?_) (fun c_5 => ?_)
        · rw [if_pos c_5] at hfn
          refine lv_iconst (v := 0) hx hb dMd_part_74 (by decide) ?_
          obtain rfl := Option.some.inj hfn
          exact W.iret hx hb hr (fun t ht hW => ⟨⟨_, _, rfl, ⟨rfl, rfl⟩, ⟨by rw [ht]; exact hP.sub [0, 1, 2, 3, 4] rfl, va_K.moved hW.alike hK, hD.sub [0, 1, 2, 3, 4] (by decide) rfl⟩⟩, hS.F ht⟩) hS.2.2 dMd_part_75
        · rw [if_neg c_5] at hfn
          refine lv_iconst (v := 1) hx hb dMd_part_70 (by decide) ?_
          refine lv_goto (tgt := 75) hx hb dMd_part_71 (by decide) ?_
          obtain rfl := Option.some.inj hfn
          exact W.iret hx hb hr (fun t ht hW => ⟨⟨_, _, rfl, ⟨rfl, rfl⟩, ⟨by rw [ht]; exact hP.sub [0, 1, 2, 3, 4] rfl, va_K.moved hW.alike hK, hD.sub [0, 1, 2, 3, 4] (by decide) rfl⟩⟩, hS.F ht⟩) hS.2.2 dMd_part_75
    · rw [if_pos c_2] at hfn
      refine lv_aload_n hx hb dMd_part_42 rfl (lv_at hl 0 rfl) ?_
      refine lv_iconst (v := 3) hx hb dMd_part_43 (by decide) ?_
      refine lv_iload_n hx hb dMd_part_44 rfl (lv_at hl 1 rfl) ?_
      refine lv_aload_n hx hb dMd_part_45 rfl (lv_at hl 0 rfl) ?_
      refine va_get (D := (dC, dI)) (ci := 11) (v := .int mhs) (C := R_Md) (T := T_Md) (N := 31) hx hb htg in_Md hown hK hP 0 rfl rfl 4 (by decide) (htg _ wd_799) (fun _ h9 => h9) rfl dMd_part_46 ?_
      obtain ⟨z_6, hz_6, hfn⟩ := ob hfn
      refine rd_V (As := [.int 3, .int pl, .int mhs]) (rest := []) ⟨hx, hb, hml, hown, htg⟩ (c_Md_hitBefore l dC dI cA o0 r_tag r_lastBit r_plain r_mixed r_chooser r_own r_ownCounter r_sum r_use r_weight r_loopTag r_length r_count r_trust r_waitPlace r_waitHistory r_waitSaid r_mark 0 mkd mbt mrw mhs mco mey mu1 mu2 mu3 mu4 mwt mmk g_tag 3 pl mhs z_6 hz_6) (cw_V htg wd_914 ws_22 qMd_hitBefore iMd_hitBefore kMd_hitBefore pMd_hitBefore rfl rfl ⟨Nat.le_of_ble_eq_true rfl, Nat.le_of_ble_eq_true rfl⟩) (va_recv hK hP (ci := 11) (q0 := 0) rfl rfl) hN (hP.sub [0, 2] rfl) hK rfl hl.1 rfl (Nat.le_of_ble_eq_true rfl) dMd_part_49 ⟨Nat.le_of_ble_eq_true rfl, Nat.le_of_ble_eq_true rfl⟩ ?_
      obtain rfl := Option.some.inj hfn
      exact W.iret hx hb hr (fun t ht hW => ⟨⟨_, _, rfl, ⟨rfl, rfl⟩, ⟨by rw [ht]; exact hP.sub [0, 1, 2, 3, 4] rfl, va_K.moved hW.alike hK, hD.sub [0, 1, 2, 3, 4] (by decide) rfl⟩⟩, hS.F ht⟩) hS.2.2 dMd_part_52
  · rw [if_pos c_1] at hfn
    refine lv_aload_n hx hb dMd_part_13 rfl (lv_at hl 0 rfl) ?_
    refine va_get (D := (dC, dI)) (ci := 11) (v := .ref r_chooser) (C := R_Md) (T := T_Md) (N := 31) hx hb htg in_Md hown hK hP 0 rfl rfl 14 (by decide) (htg _ wd_809) (fun _ h9 => h9) rfl dMd_part_14 ?_
    refine lv_aload_n hx hb dMd_part_17 rfl (lv_at hl 0 rfl) ?_
    refine lv_iload_n hx hb dMd_part_18 rfl (lv_at hl 1 rfl) ?_
    refine rd_V (As := [.int pl]) (rest := [.ref r_chooser]) ⟨hx, hb, hml, hown, htg⟩ (c_Md_plainRow l dC dI cA o0 r_lastBit r_plain r_mixed r_chooser r_own r_ownCounter r_tag r_sum r_use r_weight r_loopTag r_length r_count r_trust r_waitPlace r_waitHistory r_waitSaid r_mark 0 mkd mbt mrw mhs mco mey mu1 mu2 mu3 mu4 mwt mmk pl) (cw_V htg wd_902 ws_19 qMd_plainRow iMd_plainRow kMd_plainRow pMd_plainRow rfl rfl ⟨Nat.le_of_ble_eq_true rfl, Nat.le_of_ble_eq_true rfl⟩) (va_recv hK hP (ci := 11) (q0 := 0) rfl rfl) hN (hP.sub [0] rfl) hK rfl hl.1 rfl (Nat.le_of_ble_eq_true rfl) dMd_part_19 ⟨Nat.le_of_ble_eq_true rfl, Nat.le_of_ble_eq_true rfl⟩ ?_
    obtain ⟨g_7, hfn⟩ := og hfn
    refine va_iald hx hb hK hP 1 0 rfl rfl g_7 dMd_part_22 ?_
    refine lv_iconst (v := 1) hx hb dMd_part_23 (by decide) ?_
    refine lv_icmp_le (tgt := 31) hx hb dMd_part_24 (by decide) (fun c_8 => ?_) (fun c_8 => ?_)
    · rw [if_pos c_8] at hfn
      refine lv_iconst (v := 2) hx hb dMd_part_31 (by decide) ?_
      exact blk32 2 _ _ ls hfn (hP.sub [0, 1, 2, 3, 4] rfl) (hD.sub [0, 1, 2, 3, 4] (by decide) rfl) hS (lv_sub hl [] rfl)
    · rw [if_neg c_8] at hfn
      refine lv_iconst (v := 3) hx hb dMd_part_27 (by decide) ?_
      refine lv_goto (tgt := 32) hx hb dMd_part_28 (by decide) ?_
      exact blk32 3 _ _ ls hfn (hP.sub [0, 1, 2, 3, 4] rfl) (hD.sub [0, 1, 2, 3, 4] (by decide) rfl) hS (lv_sub hl [] rfl)
def tf_Md_storage (mkd : Int32) (mbt : Int32) (mrw : Int32) : Int32 × Int32 := (if mkd = 0 then (0, 0) else (if mkd = 1 then (mrw, 0) else (if mkd = 2 then ((2 * mrw), 0) else (if mkd = 3 then (((2 * mrw) + 32), 0) else (if mkd = 4 then (((mbt + 2) * mrw), 0) else (if mkd = 5 then (((6 * mrw) + 32), 0) else (if mkd = 6 then (((41 * mrw) + 32), 0) else (if mkd = 7 then (((63 * mrw) + 32), 0) else (if mkd = 8 then ((32 * mrw), 0) else (32, 0))))))))))
set_option maxHeartbeats 4000000 in
set_option maxRecDepth 100000 in
theorem c_Md_storage (l : Launch) (dC : Nat → ClassId) (dI : Nat → Nat → Nat) (cA : ClassId × ClassId × ClassId) (zz : Nat) (o0 : Nat) (r_lastBit : Nat) (r_plain : Nat) (r_mixed : Nat) (r_chooser : Nat) (r_own : Nat) (r_ownCounter : Nat) (r_tag : Nat) (r_sum : Nat) (r_use : Nat) (r_weight : Nat) (r_loopTag : Nat) (r_length : Nat) (r_count : Nat) (r_trust : Nat) (r_waitPlace : Nat) (r_waitHistory : Nat) (r_waitSaid : Nat) (r_mark : Nat) (mt : Int32) (mkd : Int32) (mbt : Int32) (mrw : Int32) (mhs : Int32) (mco : Int32) (mey : Bool) (mu1 : Int32) (mu2 : Int32) (mu3 : Int32) (mu4 : Int32) (mwt : Int32) (mmk : Int32) : Met l yMd_storage wMd_storage ({ frames := 0, cells := 0, slots := 0, locals := 0 }) (va_Pc [.ref o0] (Wr (dC, dI) cA zz [(o0, .inr (11, [.int mt, .int mkd, .int mbt, .int mrw, .int mhs, .int mco, .int (bI mey), .int mu1, .int mu2, .int mu3, .int mu4, .ref r_lastBit, .ref r_plain, .ref r_mixed, .ref r_chooser, .ref r_own, .ref r_ownCounter, .ref r_tag, .ref r_sum, .ref r_use, .ref r_weight, .ref r_loopTag, .ref r_length, .ref r_count, .ref r_trust, .int mwt, .ref r_waitPlace, .ref r_waitHistory, .ref r_waitSaid, .int mmk, .ref r_mark]))])) (va_Qi (fun r9 w9 => r9 = (tf_Md_storage mkd mbt mrw).1 ∧ w9 = [(o0, .inr (11, [.int ((tf_Md_storage mkd mbt mrw).2), .int mkd, .int mbt, .int mrw, .int mhs, .int mco, .int (bI mey), .int mu1, .int mu2, .int mu3, .int mu4, .ref r_lastBit, .ref r_plain, .ref r_mixed, .ref r_chooser, .ref r_own, .ref r_ownCounter, .ref r_tag, .ref r_sum, .ref r_use, .ref r_weight, .ref r_loopTag, .ref r_length, .ref r_count, .ref r_trust, .int mwt, .ref r_waitPlace, .ref r_waitHistory, .ref r_waitSaid, .int mmk, .ref r_mark]))]) (At (dC, dI) cA (va_A [(o0, .inr (11, [.int mt, .int mkd, .int mbt, .int mrw, .int mhs, .int mco, .int (bI mey), .int mu1, .int mu2, .int mu3, .int mu4, .ref r_lastBit, .ref r_plain, .ref r_mixed, .ref r_chooser, .ref r_own, .ref r_ownCounter, .ref r_tag, .ref r_sum, .ref r_use, .ref r_weight, .ref r_loopTag, .ref r_length, .ref r_count, .ref r_trust, .int mwt, .ref r_waitPlace, .ref r_waitHistory, .ref r_waitSaid, .int mmk, .ref r_mark]))] zz)) (va_A [(o0, .inr (11, [.int mt, .int mkd, .int mbt, .int mrw, .int mhs, .int mco, .int (bI mey), .int mu1, .int mu2, .int mu3, .int mu4, .ref r_lastBit, .ref r_plain, .ref r_mixed, .ref r_chooser, .ref r_own, .ref r_ownCounter, .ref r_tag, .ref r_sum, .ref r_use, .ref r_weight, .ref r_loopTag, .ref r_length, .ref r_count, .ref r_trust, .int mwt, .ref r_waitPlace, .ref r_waitHistory, .ref r_waitSaid, .int mmk, .ref r_mark]))] zz)) 0 0 (va_A [(o0, .inr (11, [.int mt, .int mkd, .int mbt, .int mrw, .int mhs, .int mco, .int (bI mey), .int mu1, .int mu2, .int mu3, .int mu4, .ref r_lastBit, .ref r_plain, .ref r_mixed, .ref r_chooser, .ref r_own, .ref r_ownCounter, .ref r_tag, .ref r_sum, .ref r_use, .ref r_weight, .ref r_loopTag, .ref r_length, .ref r_count, .ref r_trust, .int mwt, .ref r_waitPlace, .ref r_waitHistory, .ref r_waitSaid, .int mmk, .ref r_mark]))] zz) := by
  refine Met.ofW (cc := cMd_storage) (maxL := 1) (ret := (some .int)) (by decide) rfl ?_
  intro p e s m args below meth c s₁ B hml hv
  obtain ⟨rfl, hsz, hN, hP, hK, hD0⟩ := hv
  have hx := B.exec
  have hb := B.bytes
  have hr := B.returns
  have hts := atoms_spec (ws := wMd_storage) B.pre
  have htg : ∀ w ∈ GW, w.before _ s = true := fun w h => hts w (List.mem_cons_of_mem _ h)
  have hown : s.vm.findClass R_Md = some m.cls := findClass_of_methodNamed B.named
  have hlocks := B.notSynchronized
  subst hsz
  have hD := hD0.self (sz := s.heap.size)
  generalize hAe : va_A [(o0, .inr (11, [.int mt, .int mkd, .int mbt, .int mrw, .int mhs, .int mco, .int (bI mey), .int mu1, .int mu2, .int mu3, .int mu4, .ref r_lastBit, .ref r_plain, .ref r_mixed, .ref r_chooser, .ref r_own, .ref r_ownCounter, .ref r_tag, .ref r_sum, .ref r_use, .ref r_weight, .ref r_loopTag, .ref r_length, .ref r_count, .ref r_trust, .int mwt, .ref r_waitPlace, .ref r_waitHistory, .ref r_waitSaid, .int mmk, .ref r_mark]))] s.heap.size = A at hD ⊢
  have hA : ∀ q : Nat, s.heap.size ≤ q → A q := fun q h => by rw [← hAe]; exact Or.inr h
  have hS : va_S A s.heap s.heap [] := va_S.rf
  have hP : va_P (dC, dI) vwCl [(o0, .inr (11, [.int mt, .int mkd, .int mbt, .int mrw, .int mhs, .int mco, .int (bI mey), .int mu1, .int mu2, .int mu3, .int mu4, .ref r_lastBit, .ref r_plain, .ref r_mixed, .ref r_chooser, .ref r_own, .ref r_ownCounter, .ref r_tag, .ref r_sum, .ref r_use, .ref r_weight, .ref r_loopTag, .ref r_length, .ref r_count, .ref r_trust, .int mwt, .ref r_waitPlace, .ref r_waitHistory, .ref r_waitSaid, .int mmk, .ref r_mark]))] s.heap := hP
  obtain ⟨rs, hfn⟩ : ∃ rs, (tf_Md_storage mkd mbt mrw) = rs := ⟨_, rfl⟩
  try rw [hfn]
  have hl := lv_entry ([.ref o0]) (n := 1) (Nat.le_of_ble_eq_true rfl)
  rw [lg_entry_eq]
  generalize (lg_sl ([.ref o0]) ++ List.replicate (1 - (lg_sl ([.ref o0])).length) Slot.unset).toArray = ls at hl ⊢
  have hl : lv_has ls 1 [(0, .ref o0)] := hl
  unfold tf_Md_storage at hfn
  refine lv_aload_n hx hb dMd_storage_0 rfl (lv_at hl 0 rfl) ?_
  refine lv_iconst (v := 0) hx hb dMd_storage_1 (by decide) ?_
  refine va_put (D := (dC, dI)) (ci := 11) (v := .int 0) (ty := .int) (C := R_Md) (T := T_Md) (N := 31) hx hb htg in_Md ty_Md tk_Md nm_Md hown hK hP hD hS 0 rfl rfl 0 (by decide) (htg _ wd_795) (fun _ h9 => h9) rfl (by decide +kernel) rfl rfl (Nat.le_of_ble_eq_true rfl) dMd_storage_2 (fun H locs hP hD hS => ?_)
  have hP : va_P (dC, dI) vwCl [(o0, .inr (11, [.int 0, .int mkd, .int mbt, .int mrw, .int mhs, .int mco, .int (bI mey), .int mu1, .int mu2, .int mu3, .int mu4, .ref r_lastBit, .ref r_plain, .ref r_mixed, .ref r_chooser, .ref r_own, .ref r_ownCounter, .ref r_tag, .ref r_sum, .ref r_use, .ref r_weight, .ref r_loopTag, .ref r_length, .ref r_count, .ref r_trust, .int mwt, .ref r_waitPlace, .ref r_waitHistory, .ref r_waitSaid, .int mmk, .ref r_mark]))] H := hP
  have hD : va_D A [(o0, .inr (11, [.int 0, .int mkd, .int mbt, .int mrw, .int mhs, .int mco, .int (bI mey), .int mu1, .int mu2, .int mu3, .int mu4, .ref r_lastBit, .ref r_plain, .ref r_mixed, .ref r_chooser, .ref r_own, .ref r_ownCounter, .ref r_tag, .ref r_sum, .ref r_use, .ref r_weight, .ref r_loopTag, .ref r_length, .ref r_count, .ref r_trust, .int mwt, .ref r_waitPlace, .ref r_waitHistory, .ref r_waitSaid, .int mmk, .ref r_mark]))] := hD
  refine lv_aload_n hx hb dMd_storage_5 rfl (lv_at hl 0 rfl) ?_
  refine va_get (D := (dC, dI)) (ci := 11) (v := .int mkd) (C := R_Md) (T := T_Md) (N := 31) hx hb htg in_Md hown hK hP 0 rfl rfl 1 (by decide) (htg _ wd_796) (fun _ h9 => h9) rfl dMd_storage_6 ?_
  by_cases c_1 : mkd = 0
  · rw [if_pos c_1] at hfn
    refine lv_tableIn (tgt := 60) hx hb dMd_storage_9 (by rw [c_1]; decide) (by rw [c_1]; decide) (by rw [c_1]; rfl) (by decide) ?_
    refine lv_iconst (v := 0) hx hb dMd_storage_60 (by decide) ?_
    subst hfn
    exact W.iret hx hb hr (fun t ht hW => ⟨⟨_, _, rfl, ⟨rfl, rfl⟩, ⟨by rw [ht]; exact hP.sub [0] rfl, va_K.moved hW.alike hK, hD.sub [0] (by decide) rfl⟩⟩, hS.F ht⟩) hS.2.2 dMd_storage_61
  · rw [if_neg c_1] at hfn
    by_cases c_2 : mkd = 1
    · rw [if_pos c_2] at hfn
      refine lv_tableIn (tgt := 62) hx hb dMd_storage_9 (by rw [c_2]; decide) (by rw [c_2]; decide) (by rw [c_2]; rfl) (by decide) ?_
      refine lv_aload_n hx hb dMd_storage_62 rfl (lv_at hl 0 rfl) ?_
      refine va_get (D := (dC, dI)) (ci := 11) (v := .int mrw) (C := R_Md) (T := T_Md) (N := 31) hx hb htg in_Md hown hK hP 0 rfl rfl 3 (by decide) (htg _ wd_798) (fun _ h9 => h9) rfl dMd_storage_63 ?_
      subst hfn
      exact W.iret hx hb hr (fun t ht hW => ⟨⟨_, _, rfl, ⟨rfl, rfl⟩, ⟨by rw [ht]; exact hP.sub [0] rfl, va_K.moved hW.alike hK, hD.sub [0] (by decide) rfl⟩⟩, hS.F ht⟩) hS.2.2 dMd_storage_66
    · rw [if_neg c_2] at hfn
      by_cases c_3 : mkd = 2
      · rw [if_pos c_3] at hfn
        refine lv_tableIn (tgt := 67) hx hb dMd_storage_9 (by rw [c_3]; decide) (by rw [c_3]; decide) (by rw [c_3]; rfl) (by decide) ?_
        refine lv_iconst (v := 2) hx hb dMd_storage_67 (by decide) ?_
        refine lv_aload_n hx hb dMd_storage_68 rfl (lv_at hl 0 rfl) ?_
        refine va_get (D := (dC, dI)) (ci := 11) (v := .int mrw) (C := R_Md) (T := T_Md) (N := 31) hx hb htg in_Md hown hK hP 0 rfl rfl 3 (by decide) (htg _ wd_798) (fun _ h9 => h9) rfl dMd_storage_69 ?_
        refine lv_imul hx hb dMd_storage_72 ?_
        subst hfn
        exact W.iret hx hb hr (fun t ht hW => ⟨⟨_, _, rfl, ⟨rfl, rfl⟩, ⟨by rw [ht]; exact hP.sub [0] rfl, va_K.moved hW.alike hK, hD.sub [0] (by decide) rfl⟩⟩, hS.F ht⟩) hS.2.2 dMd_storage_73
      · rw [if_neg c_3] at hfn
        by_cases c_4 : mkd = 3
        · rw [if_pos c_4] at hfn
          refine lv_tableIn (tgt := 74) hx hb dMd_storage_9 (by rw [c_4]; decide) (by rw [c_4]; decide) (by rw [c_4]; rfl) (by decide) ?_
          refine lv_iconst (v := 2) hx hb dMd_storage_74 (by decide) ?_
          refine lv_aload_n hx hb dMd_storage_75 rfl (lv_at hl 0 rfl) ?_
          refine va_get (D := (dC, dI)) (ci := 11) (v := .int mrw) (C := R_Md) (T := T_Md) (N := 31) hx hb htg in_Md hown hK hP 0 rfl rfl 3 (by decide) (htg _ wd_798) (fun _ h9 => h9) rfl dMd_storage_76 ?_
          refine lv_imul hx hb dMd_storage_79 ?_
          refine lv_bipush (v := 32) hx hb dMd_storage_80 (by decide) ?_
          refine lv_iadd hx hb dMd_storage_82 ?_
          subst hfn
          exact W.iret hx hb hr (fun t ht hW => ⟨⟨_, _, rfl, ⟨rfl, rfl⟩, ⟨by rw [ht]; exact hP.sub [0] rfl, va_K.moved hW.alike hK, hD.sub [0] (by decide) rfl⟩⟩, hS.F ht⟩) hS.2.2 dMd_storage_83
        · rw [if_neg c_4] at hfn
          by_cases c_5 : mkd = 4
          · rw [if_pos c_5] at hfn
            refine lv_tableIn (tgt := 84) hx hb dMd_storage_9 (by rw [c_5]; decide) (by rw [c_5]; decide) (by rw [c_5]; rfl) (by decide) ?_
            refine lv_aload_n hx hb dMd_storage_84 rfl (lv_at hl 0 rfl) ?_
            refine va_get (D := (dC, dI)) (ci := 11) (v := .int mbt) (C := R_Md) (T := T_Md) (N := 31) hx hb htg in_Md hown hK hP 0 rfl rfl 2 (by decide) (htg _ wd_797) (fun _ h9 => h9) rfl dMd_storage_85 ?_
            refine lv_iconst (v := 2) hx hb dMd_storage_88 (by decide) ?_
            refine lv_iadd hx hb dMd_storage_89 ?_
            refine lv_aload_n hx hb dMd_storage_90 rfl (lv_at hl 0 rfl) ?_
            refine va_get (D := (dC, dI)) (ci := 11) (v := .int mrw) (C := R_Md) (T := T_Md) (N := 31) hx hb htg in_Md hown hK hP 0 rfl rfl 3 (by decide) (htg _ wd_798) (fun _ h9 => h9) rfl dMd_storage_91 ?_
            refine lv_imul hx hb dMd_storage_94 ?_
            subst hfn
            exact W.iret hx hb hr (fun t ht hW => ⟨⟨_, _, rfl, ⟨rfl, rfl⟩, ⟨by rw [ht]; exact hP.sub [0] rfl, va_K.moved hW.alike hK, hD.sub [0] (by decide) rfl⟩⟩, hS.F ht⟩) hS.2.2 dMd_storage_95
          · rw [if_neg c_5] at hfn
            by_cases c_6 : mkd = 5
            · rw [if_pos c_6] at hfn
              refine lv_tableIn (tgt := 96) hx hb dMd_storage_9 (by rw [c_6]; decide) (by rw [c_6]; decide) (by rw [c_6]; rfl) (by decide) ?_
              refine lv_bipush (v := 6) hx hb dMd_storage_96 (by decide) ?_
              refine lv_aload_n hx hb dMd_storage_98 rfl (lv_at hl 0 rfl) ?_
              refine va_get (D := (dC, dI)) (ci := 11) (v := .int mrw) (C := R_Md) (T := T_Md) (N := 31) hx hb htg in_Md hown hK hP 0 rfl rfl 3 (by decide) (htg _ wd_798) (fun _ h9 => h9) rfl dMd_storage_99 ?_
              refine lv_imul hx hb dMd_storage_102 ?_
              refine lv_bipush (v := 32) hx hb dMd_storage_103 (by decide) ?_
              refine lv_iadd hx hb dMd_storage_105 ?_
              subst hfn
              exact W.iret hx hb hr (fun t ht hW => ⟨⟨_, _, rfl, ⟨rfl, rfl⟩, ⟨by rw [ht]; exact hP.sub [0] rfl, va_K.moved hW.alike hK, hD.sub [0] (by decide) rfl⟩⟩, hS.F ht⟩) hS.2.2 dMd_storage_106
            · rw [if_neg c_6] at hfn
              by_cases c_7 : mkd = 6
              · rw [if_pos c_7] at hfn
                refine lv_tableIn (tgt := 107) hx hb dMd_storage_9 (by rw [c_7]; decide) (by rw [c_7]; decide) (by rw [c_7]; rfl) (by decide) ?_
                refine lv_bipush (v := 41) hx hb dMd_storage_107 (by decide) ?_
                refine lv_aload_n hx hb dMd_storage_109 rfl (lv_at hl 0 rfl) ?_
                refine va_get (D := (dC, dI)) (ci := 11) (v := .int mrw) (C := R_Md) (T := T_Md) (N := 31) hx hb htg in_Md hown hK hP 0 rfl rfl 3 (by decide) (htg _ wd_798) (fun _ h9 => h9) rfl dMd_storage_110 ?_
                refine lv_imul hx hb dMd_storage_113 ?_
                refine lv_bipush (v := 32) hx hb dMd_storage_114 (by decide) ?_
                refine lv_iadd hx hb dMd_storage_116 ?_
                subst hfn
                exact W.iret hx hb hr (fun t ht hW => ⟨⟨_, _, rfl, ⟨rfl, rfl⟩, ⟨by rw [ht]; exact hP.sub [0] rfl, va_K.moved hW.alike hK, hD.sub [0] (by decide) rfl⟩⟩, hS.F ht⟩) hS.2.2 dMd_storage_117
              · rw [if_neg c_7] at hfn
                by_cases c_8 : mkd = 7
                · rw [if_pos c_8] at hfn
                  refine lv_tableIn (tgt := 118) hx hb dMd_storage_9 (by rw [c_8]; decide) (by rw [c_8]; decide) (by rw [c_8]; rfl) (by decide) ?_
                  refine lv_bipush (v := 63) hx hb dMd_storage_118 (by decide) ?_
                  refine lv_aload_n hx hb dMd_storage_120 rfl (lv_at hl 0 rfl) ?_
                  refine va_get (D := (dC, dI)) (ci := 11) (v := .int mrw) (C := R_Md) (T := T_Md) (N := 31) hx hb htg in_Md hown hK hP 0 rfl rfl 3 (by decide) (htg _ wd_798) (fun _ h9 => h9) rfl dMd_storage_121 ?_
                  refine lv_imul hx hb dMd_storage_124 ?_
                  refine lv_bipush (v := 32) hx hb dMd_storage_125 (by decide) ?_
                  refine lv_iadd hx hb dMd_storage_127 ?_
                  subst hfn
                  exact W.iret hx hb hr (fun t ht hW => ⟨⟨_, _, rfl, ⟨rfl, rfl⟩, ⟨by rw [ht]; exact hP.sub [0] rfl, va_K.moved hW.alike hK, hD.sub [0] (by decide) rfl⟩⟩, hS.F ht⟩) hS.2.2 dMd_storage_128
                · rw [if_neg c_8] at hfn
                  by_cases c_9 : mkd = 8
                  · rw [if_pos c_9] at hfn
                    refine lv_tableIn (tgt := 129) hx hb dMd_storage_9 (by rw [c_9]; decide) (by rw [c_9]; decide) (by rw [c_9]; rfl) (by decide) ?_
                    refine lv_bipush (v := 32) hx hb dMd_storage_129 (by decide) ?_
                    refine lv_aload_n hx hb dMd_storage_131 rfl (lv_at hl 0 rfl) ?_
                    refine va_get (D := (dC, dI)) (ci := 11) (v := .int mrw) (C := R_Md) (T := T_Md) (N := 31) hx hb htg in_Md hown hK hP 0 rfl rfl 3 (by decide) (htg _ wd_798) (fun _ h9 => h9) rfl dMd_storage_132 ?_
                    refine lv_imul hx hb dMd_storage_135 ?_
                    subst hfn
                    exact W.iret hx hb hr (fun t ht hW => ⟨⟨_, _, rfl, ⟨rfl, rfl⟩, ⟨by rw [ht]; exact hP.sub [0] rfl, va_K.moved hW.alike hK, hD.sub [0] (by decide) rfl⟩⟩, hS.F ht⟩) hS.2.2 dMd_storage_136
                  · rw [if_neg c_9] at hfn
                    refine lv_tableOut (tgt := 137) hx hb dMd_storage_9 (by have := ne_toInt (z := 0) c_1 (by decide); have := ne_toInt (z := 1) c_2 (by decide); have := ne_toInt (z := 2) c_3 (by decide); have := ne_toInt (z := 3) c_4 (by decide); have := ne_toInt (z := 4) c_5 (by decide); have := ne_toInt (z := 5) c_6 (by decide); have := ne_toInt (z := 6) c_7 (by decide); have := ne_toInt (z := 7) c_8 (by decide); have := ne_toInt (z := 8) c_9 (by decide); omega) (by decide) ?_
                    refine lv_bipush (v := 32) hx hb dMd_storage_137 (by decide) ?_
                    subst hfn
                    exact W.iret hx hb hr (fun t ht hW => ⟨⟨_, _, rfl, ⟨rfl, rfl⟩, ⟨by rw [ht]; exact hP.sub [0] rfl, va_K.moved hW.alike hK, hD.sub [0] (by decide) rfl⟩⟩, hS.F ht⟩) hS.2.2 dMd_storage_139
def tf_Md_count (mkd : Int32) (mbt : Int32) (mu1 : Int32) (mu2 : Int32) (mu3 : Int32) (mu4 : Int32) (mwt : Int32) (mmk : Int32) (wh : Int32) : Int32 × Int32 := (if wh = 0 then (mu1, 0) else (if wh = 1 then (mu2, 0) else (if wh = 2 then (mu3, 0) else (if wh = 3 then (mwt, 0) else (if wh = 4 then (mmk, 0) else (if wh = 5 then (mu4, 0) else (if wh = 6 then (mkd, 0) else (if wh = 7 then (mbt, 0) else ((-1), 0)))))))))
set_option maxHeartbeats 4000000 in
set_option maxRecDepth 100000 in
theorem c_Md_count (l : Launch) (dC : Nat → ClassId) (dI : Nat → Nat → Nat) (cA : ClassId × ClassId × ClassId) (zz : Nat) (o0 : Nat) (r_lastBit : Nat) (r_plain : Nat) (r_mixed : Nat) (r_chooser : Nat) (r_own : Nat) (r_ownCounter : Nat) (r_tag : Nat) (r_sum : Nat) (r_use : Nat) (r_weight : Nat) (r_loopTag : Nat) (r_length : Nat) (r_count : Nat) (r_trust : Nat) (r_waitPlace : Nat) (r_waitHistory : Nat) (r_waitSaid : Nat) (r_mark : Nat) (mt : Int32) (mkd : Int32) (mbt : Int32) (mrw : Int32) (mhs : Int32) (mco : Int32) (mey : Bool) (mu1 : Int32) (mu2 : Int32) (mu3 : Int32) (mu4 : Int32) (mwt : Int32) (mmk : Int32) (wh : Int32) : Met l yMd_count wMd_count ({ frames := 0, cells := 0, slots := 0, locals := 0 }) (va_Pc [.ref o0, .int wh] (Wr (dC, dI) cA zz [(o0, .inr (11, [.int mt, .int mkd, .int mbt, .int mrw, .int mhs, .int mco, .int (bI mey), .int mu1, .int mu2, .int mu3, .int mu4, .ref r_lastBit, .ref r_plain, .ref r_mixed, .ref r_chooser, .ref r_own, .ref r_ownCounter, .ref r_tag, .ref r_sum, .ref r_use, .ref r_weight, .ref r_loopTag, .ref r_length, .ref r_count, .ref r_trust, .int mwt, .ref r_waitPlace, .ref r_waitHistory, .ref r_waitSaid, .int mmk, .ref r_mark]))])) (va_Qi (fun r9 w9 => r9 = (tf_Md_count mkd mbt mu1 mu2 mu3 mu4 mwt mmk wh).1 ∧ w9 = [(o0, .inr (11, [.int ((tf_Md_count mkd mbt mu1 mu2 mu3 mu4 mwt mmk wh).2), .int mkd, .int mbt, .int mrw, .int mhs, .int mco, .int (bI mey), .int mu1, .int mu2, .int mu3, .int mu4, .ref r_lastBit, .ref r_plain, .ref r_mixed, .ref r_chooser, .ref r_own, .ref r_ownCounter, .ref r_tag, .ref r_sum, .ref r_use, .ref r_weight, .ref r_loopTag, .ref r_length, .ref r_count, .ref r_trust, .int mwt, .ref r_waitPlace, .ref r_waitHistory, .ref r_waitSaid, .int mmk, .ref r_mark]))]) (At (dC, dI) cA (va_A [(o0, .inr (11, [.int mt, .int mkd, .int mbt, .int mrw, .int mhs, .int mco, .int (bI mey), .int mu1, .int mu2, .int mu3, .int mu4, .ref r_lastBit, .ref r_plain, .ref r_mixed, .ref r_chooser, .ref r_own, .ref r_ownCounter, .ref r_tag, .ref r_sum, .ref r_use, .ref r_weight, .ref r_loopTag, .ref r_length, .ref r_count, .ref r_trust, .int mwt, .ref r_waitPlace, .ref r_waitHistory, .ref r_waitSaid, .int mmk, .ref r_mark]))] zz)) (va_A [(o0, .inr (11, [.int mt, .int mkd, .int mbt, .int mrw, .int mhs, .int mco, .int (bI mey), .int mu1, .int mu2, .int mu3, .int mu4, .ref r_lastBit, .ref r_plain, .ref r_mixed, .ref r_chooser, .ref r_own, .ref r_ownCounter, .ref r_tag, .ref r_sum, .ref r_use, .ref r_weight, .ref r_loopTag, .ref r_length, .ref r_count, .ref r_trust, .int mwt, .ref r_waitPlace, .ref r_waitHistory, .ref r_waitSaid, .int mmk, .ref r_mark]))] zz)) 0 0 (va_A [(o0, .inr (11, [.int mt, .int mkd, .int mbt, .int mrw, .int mhs, .int mco, .int (bI mey), .int mu1, .int mu2, .int mu3, .int mu4, .ref r_lastBit, .ref r_plain, .ref r_mixed, .ref r_chooser, .ref r_own, .ref r_ownCounter, .ref r_tag, .ref r_sum, .ref r_use, .ref r_weight, .ref r_loopTag, .ref r_length, .ref r_count, .ref r_trust, .int mwt, .ref r_waitPlace, .ref r_waitHistory, .ref r_waitSaid, .int mmk, .ref r_mark]))] zz) := by
  refine Met.ofW (cc := cMd_count) (maxL := 2) (ret := (some .int)) (by decide) rfl ?_
  intro p e s m args below meth c s₁ B hml hv
  obtain ⟨rfl, hsz, hN, hP, hK, hD0⟩ := hv
  have hx := B.exec
  have hb := B.bytes
  have hr := B.returns
  have hts := atoms_spec (ws := wMd_count) B.pre
  have htg : ∀ w ∈ GW, w.before _ s = true := fun w h => hts w (List.mem_cons_of_mem _ h)
  have hown : s.vm.findClass R_Md = some m.cls := findClass_of_methodNamed B.named
  have hlocks := B.notSynchronized
  subst hsz
  have hD := hD0.self (sz := s.heap.size)
  generalize hAe : va_A [(o0, .inr (11, [.int mt, .int mkd, .int mbt, .int mrw, .int mhs, .int mco, .int (bI mey), .int mu1, .int mu2, .int mu3, .int mu4, .ref r_lastBit, .ref r_plain, .ref r_mixed, .ref r_chooser, .ref r_own, .ref r_ownCounter, .ref r_tag, .ref r_sum, .ref r_use, .ref r_weight, .ref r_loopTag, .ref r_length, .ref r_count, .ref r_trust, .int mwt, .ref r_waitPlace, .ref r_waitHistory, .ref r_waitSaid, .int mmk, .ref r_mark]))] s.heap.size = A at hD ⊢
  have hA : ∀ q : Nat, s.heap.size ≤ q → A q := fun q h => by rw [← hAe]; exact Or.inr h
  have hS : va_S A s.heap s.heap [] := va_S.rf
  have hP : va_P (dC, dI) vwCl [(o0, .inr (11, [.int mt, .int mkd, .int mbt, .int mrw, .int mhs, .int mco, .int (bI mey), .int mu1, .int mu2, .int mu3, .int mu4, .ref r_lastBit, .ref r_plain, .ref r_mixed, .ref r_chooser, .ref r_own, .ref r_ownCounter, .ref r_tag, .ref r_sum, .ref r_use, .ref r_weight, .ref r_loopTag, .ref r_length, .ref r_count, .ref r_trust, .int mwt, .ref r_waitPlace, .ref r_waitHistory, .ref r_waitSaid, .int mmk, .ref r_mark]))] s.heap := hP
  obtain ⟨rs, hfn⟩ : ∃ rs, (tf_Md_count mkd mbt mu1 mu2 mu3 mu4 mwt mmk wh) = rs := ⟨_, rfl⟩
  try rw [hfn]
  have hl := lv_entry ([.ref o0, .int wh]) (n := 2) (Nat.le_of_ble_eq_true rfl)
  rw [lg_entry_eq]
  generalize (lg_sl ([.ref o0, .int wh]) ++ List.replicate (2 - (lg_sl ([.ref o0, .int wh])).length) Slot.unset).toArray = ls at hl ⊢
  have hl : lv_has ls 2 [(0, .ref o0), (1, .int wh)] := hl
  unfold tf_Md_count at hfn
  refine lv_aload_n hx hb dMd_count_0 rfl (lv_at hl 0 rfl) ?_
  refine lv_iconst (v := 0) hx hb dMd_count_1 (by decide) ?_
  refine va_put (D := (dC, dI)) (ci := 11) (v := .int 0) (ty := .int) (C := R_Md) (T := T_Md) (N := 31) hx hb htg in_Md ty_Md tk_Md nm_Md hown hK hP hD hS 0 rfl rfl 0 (by decide) (htg _ wd_795) (fun _ h9 => h9) rfl (by decide +kernel) rfl rfl (Nat.le_of_ble_eq_true rfl) dMd_count_2 (fun H locs hP hD hS => ?_)
  have hP : va_P (dC, dI) vwCl [(o0, .inr (11, [.int 0, .int mkd, .int mbt, .int mrw, .int mhs, .int mco, .int (bI mey), .int mu1, .int mu2, .int mu3, .int mu4, .ref r_lastBit, .ref r_plain, .ref r_mixed, .ref r_chooser, .ref r_own, .ref r_ownCounter, .ref r_tag, .ref r_sum, .ref r_use, .ref r_weight, .ref r_loopTag, .ref r_length, .ref r_count, .ref r_trust, .int mwt, .ref r_waitPlace, .ref r_waitHistory, .ref r_waitSaid, .int mmk, .ref r_mark]))] H := hP
  have hD : va_D A [(o0, .inr (11, [.int 0, .int mkd, .int mbt, .int mrw, .int mhs, .int mco, .int (bI mey), .int mu1, .int mu2, .int mu3, .int mu4, .ref r_lastBit, .ref r_plain, .ref r_mixed, .ref r_chooser, .ref r_own, .ref r_ownCounter, .ref r_tag, .ref r_sum, .ref r_use, .ref r_weight, .ref r_loopTag, .ref r_length, .ref r_count, .ref r_trust, .int mwt, .ref r_waitPlace, .ref r_waitHistory, .ref r_waitSaid, .int mmk, .ref r_mark]))] := hD
  refine lv_iload_n hx hb dMd_count_5 rfl (lv_at hl 1 rfl) ?_
  by_cases c_1 : wh = 0
  · rw [if_pos c_1] at hfn
    refine lv_tableIn (tgt := 52) hx hb dMd_count_6 (by rw [c_1]; decide) (by rw [c_1]; decide) (by rw [c_1]; rfl) (by decide) ?_
    refine lv_aload_n hx hb dMd_count_52 rfl (lv_at hl 0 rfl) ?_
    refine va_get (D := (dC, dI)) (ci := 11) (v := .int mu1) (C := R_Md) (T := T_Md) (N := 31) hx hb htg in_Md hown hK hP 0 rfl rfl 7 (by decide) (htg _ wd_802) (fun _ h9 => h9) rfl dMd_count_53 ?_
    subst hfn
    exact W.iret hx hb hr (fun t ht hW => ⟨⟨_, _, rfl, ⟨rfl, rfl⟩, ⟨by rw [ht]; exact hP.sub [0] rfl, va_K.moved hW.alike hK, hD.sub [0] (by decide) rfl⟩⟩, hS.F ht⟩) hS.2.2 dMd_count_56
  · rw [if_neg c_1] at hfn
    by_cases c_2 : wh = 1
    · rw [if_pos c_2] at hfn
      refine lv_tableIn (tgt := 57) hx hb dMd_count_6 (by rw [c_2]; decide) (by rw [c_2]; decide) (by rw [c_2]; rfl) (by decide) ?_
      refine lv_aload_n hx hb dMd_count_57 rfl (lv_at hl 0 rfl) ?_
      refine va_get (D := (dC, dI)) (ci := 11) (v := .int mu2) (C := R_Md) (T := T_Md) (N := 31) hx hb htg in_Md hown hK hP 0 rfl rfl 8 (by decide) (htg _ wd_803) (fun _ h9 => h9) rfl dMd_count_58 ?_
      subst hfn
      exact W.iret hx hb hr (fun t ht hW => ⟨⟨_, _, rfl, ⟨rfl, rfl⟩, ⟨by rw [ht]; exact hP.sub [0] rfl, va_K.moved hW.alike hK, hD.sub [0] (by decide) rfl⟩⟩, hS.F ht⟩) hS.2.2 dMd_count_61
    · rw [if_neg c_2] at hfn
      by_cases c_3 : wh = 2
      · rw [if_pos c_3] at hfn
        refine lv_tableIn (tgt := 62) hx hb dMd_count_6 (by rw [c_3]; decide) (by rw [c_3]; decide) (by rw [c_3]; rfl) (by decide) ?_
        refine lv_aload_n hx hb dMd_count_62 rfl (lv_at hl 0 rfl) ?_
        refine va_get (D := (dC, dI)) (ci := 11) (v := .int mu3) (C := R_Md) (T := T_Md) (N := 31) hx hb htg in_Md hown hK hP 0 rfl rfl 9 (by decide) (htg _ wd_804) (fun _ h9 => h9) rfl dMd_count_63 ?_
        subst hfn
        exact W.iret hx hb hr (fun t ht hW => ⟨⟨_, _, rfl, ⟨rfl, rfl⟩, ⟨by rw [ht]; exact hP.sub [0] rfl, va_K.moved hW.alike hK, hD.sub [0] (by decide) rfl⟩⟩, hS.F ht⟩) hS.2.2 dMd_count_66
      · rw [if_neg c_3] at hfn
        by_cases c_4 : wh = 3
        · rw [if_pos c_4] at hfn
          refine lv_tableIn (tgt := 67) hx hb dMd_count_6 (by rw [c_4]; decide) (by rw [c_4]; decide) (by rw [c_4]; rfl) (by decide) ?_
          refine lv_aload_n hx hb dMd_count_67 rfl (lv_at hl 0 rfl) ?_
          refine va_get (D := (dC, dI)) (ci := 11) (v := .int mwt) (C := R_Md) (T := T_Md) (N := 31) hx hb htg in_Md hown hK hP 0 rfl rfl 25 (by decide) (htg _ wd_820) (fun _ h9 => h9) rfl dMd_count_68 ?_
          subst hfn
          exact W.iret hx hb hr (fun t ht hW => ⟨⟨_, _, rfl, ⟨rfl, rfl⟩, ⟨by rw [ht]; exact hP.sub [0] rfl, va_K.moved hW.alike hK, hD.sub [0] (by decide) rfl⟩⟩, hS.F ht⟩) hS.2.2 dMd_count_71
        · rw [if_neg c_4] at hfn
          by_cases c_5 : wh = 4
          · rw [if_pos c_5] at hfn
            refine lv_tableIn (tgt := 72) hx hb dMd_count_6 (by rw [c_5]; decide) (by rw [c_5]; decide) (by rw [c_5]; rfl) (by decide) ?_
            refine lv_aload_n hx hb dMd_count_72 rfl (lv_at hl 0 rfl) ?_
            refine va_get (D := (dC, dI)) (ci := 11) (v := .int mmk) (C := R_Md) (T := T_Md) (N := 31) hx hb htg in_Md hown hK hP 0 rfl rfl 29 (by decide) (htg _ wd_824) (fun _ h9 => h9) rfl dMd_count_73 ?_
            subst hfn
            exact W.iret hx hb hr (fun t ht hW => ⟨⟨_, _, rfl, ⟨rfl, rfl⟩, ⟨by rw [ht]; exact hP.sub [0] rfl, va_K.moved hW.alike hK, hD.sub [0] (by decide) rfl⟩⟩, hS.F ht⟩) hS.2.2 dMd_count_76
          · rw [if_neg c_5] at hfn
            by_cases c_6 : wh = 5
            · rw [if_pos c_6] at hfn
              refine lv_tableIn (tgt := 77) hx hb dMd_count_6 (by rw [c_6]; decide) (by rw [c_6]; decide) (by rw [c_6]; rfl) (by decide) ?_
              refine lv_aload_n hx hb dMd_count_77 rfl (lv_at hl 0 rfl) ?_
              refine va_get (D := (dC, dI)) (ci := 11) (v := .int mu4) (C := R_Md) (T := T_Md) (N := 31) hx hb htg in_Md hown hK hP 0 rfl rfl 10 (by decide) (htg _ wd_805) (fun _ h9 => h9) rfl dMd_count_78 ?_
              subst hfn
              exact W.iret hx hb hr (fun t ht hW => ⟨⟨_, _, rfl, ⟨rfl, rfl⟩, ⟨by rw [ht]; exact hP.sub [0] rfl, va_K.moved hW.alike hK, hD.sub [0] (by decide) rfl⟩⟩, hS.F ht⟩) hS.2.2 dMd_count_81
            · rw [if_neg c_6] at hfn
              by_cases c_7 : wh = 6
              · rw [if_pos c_7] at hfn
                refine lv_tableIn (tgt := 82) hx hb dMd_count_6 (by rw [c_7]; decide) (by rw [c_7]; decide) (by rw [c_7]; rfl) (by decide) ?_
                refine lv_aload_n hx hb dMd_count_82 rfl (lv_at hl 0 rfl) ?_
                refine va_get (D := (dC, dI)) (ci := 11) (v := .int mkd) (C := R_Md) (T := T_Md) (N := 31) hx hb htg in_Md hown hK hP 0 rfl rfl 1 (by decide) (htg _ wd_796) (fun _ h9 => h9) rfl dMd_count_83 ?_
                subst hfn
                exact W.iret hx hb hr (fun t ht hW => ⟨⟨_, _, rfl, ⟨rfl, rfl⟩, ⟨by rw [ht]; exact hP.sub [0] rfl, va_K.moved hW.alike hK, hD.sub [0] (by decide) rfl⟩⟩, hS.F ht⟩) hS.2.2 dMd_count_86
              · rw [if_neg c_7] at hfn
                by_cases c_8 : wh = 7
                · rw [if_pos c_8] at hfn
                  refine lv_tableIn (tgt := 87) hx hb dMd_count_6 (by rw [c_8]; decide) (by rw [c_8]; decide) (by rw [c_8]; rfl) (by decide) ?_
                  refine lv_aload_n hx hb dMd_count_87 rfl (lv_at hl 0 rfl) ?_
                  refine va_get (D := (dC, dI)) (ci := 11) (v := .int mbt) (C := R_Md) (T := T_Md) (N := 31) hx hb htg in_Md hown hK hP 0 rfl rfl 2 (by decide) (htg _ wd_797) (fun _ h9 => h9) rfl dMd_count_88 ?_
                  subst hfn
                  exact W.iret hx hb hr (fun t ht hW => ⟨⟨_, _, rfl, ⟨rfl, rfl⟩, ⟨by rw [ht]; exact hP.sub [0] rfl, va_K.moved hW.alike hK, hD.sub [0] (by decide) rfl⟩⟩, hS.F ht⟩) hS.2.2 dMd_count_91
                · rw [if_neg c_8] at hfn
                  refine lv_tableOut (tgt := 92) hx hb dMd_count_6 (by have := ne_toInt (z := 0) c_1 (by decide); have := ne_toInt (z := 1) c_2 (by decide); have := ne_toInt (z := 2) c_3 (by decide); have := ne_toInt (z := 3) c_4 (by decide); have := ne_toInt (z := 4) c_5 (by decide); have := ne_toInt (z := 5) c_6 (by decide); have := ne_toInt (z := 6) c_7 (by decide); have := ne_toInt (z := 7) c_8 (by decide); omega) (by decide) ?_
                  refine lv_iconst (v := (-1)) hx hb dMd_count_92 (by decide) ?_
                  subst hfn
                  exact W.iret hx hb hr (fun t ht hW => ⟨⟨_, _, rfl, ⟨rfl, rfl⟩, ⟨by rw [ht]; exact hP.sub [0] rfl, va_K.moved hW.alike hK, hD.sub [0] (by decide) rfl⟩⟩, hS.F ht⟩) hS.2.2 dMd_count_93
def of_Md_several_b33 : Nat → Int32 → Int32 → Int32 → Int32 → (Nat → Int32) → (Nat → Int32) → (Nat → Int32) → (Nat → Int32) → (Nat → Int32) → (Nat → Int32) → (Nat → Int32) → (Nat → Int32) → (Nat → Int32) → (Nat → Int32) → (Nat → Int32) → (Nat → Int32) → (Nat → Int32) → Int32 → Int32 → Int32 → Int32 → Int32 → Option (Int32 × Int32)
  | 0, _, _, _, _, _, _, _, _, _, _, _, _, _, _, _, _, _, _, _, _, _, _ => none
  | n + 1, mkd, mbt, mrw, mco, g_lastBit, g_plain, g_mixed, g_chooser, g_own, g_ownCounter, g_tag, g_sum, g_weight, g_loopTag, g_length, g_count, g_trust, pl, n0, v3_b33, v4_b33, v5_b33 => (if n0 ≤ v5_b33 then some (v3_b33, 0) else ((of_Md_says mkd mbt mrw mco g_lastBit g_plain g_mixed g_chooser g_own g_ownCounter g_tag g_sum g_weight g_loopTag g_length g_count g_trust (pl + (4 * v5_b33)) v4_b33).bind fun z_4 => (if (bI z_4) = 0 then of_Md_several_b33 n mkd mbt mrw mco g_lastBit g_plain g_mixed g_chooser g_own g_ownCounter g_tag g_sum g_weight g_loopTag g_length g_count g_trust pl n0 v3_b33 (tf_Md_behind v4_b33 z_4) (v5_b33 + 1) else of_Md_several_b33 n mkd mbt mrw mco g_lastBit g_plain g_mixed g_chooser g_own g_ownCounter g_tag g_sum g_weight g_loopTag g_length g_count g_trust pl n0 (v3_b33 ||| ((1 : Int32) <<< (v5_b33 &&& 31))) (tf_Md_behind v4_b33 z_4) (v5_b33 + 1))))
def of_Md_several_b16 : Option (Int32 × Int32) := some (((tf_Md_fail 1).1), ((tf_Md_fail 1).2))
def of_Md_several (mkd : Int32) (mbt : Int32) (mrw : Int32) (mhs : Int32) (mco : Int32) (g_lastBit : Nat → Int32) (g_plain : Nat → Int32) (g_mixed : Nat → Int32) (g_chooser : Nat → Int32) (g_own : Nat → Int32) (g_ownCounter : Nat → Int32) (g_tag : Nat → Int32) (g_sum : Nat → Int32) (g_weight : Nat → Int32) (g_loopTag : Nat → Int32) (g_length : Nat → Int32) (g_count : Nat → Int32) (g_trust : Nat → Int32) (pl : Int32) (n0 : Int32) : Option (Int32 × Int32) := (if n0 < 1 then of_Md_several_b16 else (if n0 ≤ 16 then of_Md_several_b33 4096 mkd mbt mrw mco g_lastBit g_plain g_mixed g_chooser g_own g_ownCounter g_tag g_sum g_weight g_loopTag g_length g_count g_trust pl n0 0 mhs 0 else of_Md_several_b16))
set_option maxHeartbeats 4000000 in
set_option maxRecDepth 100000 in
theorem c_Md_several (l : Launch) (dC : Nat → ClassId) (dI : Nat → Nat → Nat) (cA : ClassId × ClassId × ClassId) (zz : Nat) (o0 : Nat) (r_lastBit : Nat) (r_plain : Nat) (r_mixed : Nat) (r_chooser : Nat) (r_own : Nat) (r_ownCounter : Nat) (r_tag : Nat) (r_sum : Nat) (r_weight : Nat) (r_loopTag : Nat) (r_length : Nat) (r_count : Nat) (r_trust : Nat) (r_use : Nat) (r_waitPlace : Nat) (r_waitHistory : Nat) (r_waitSaid : Nat) (r_mark : Nat) (mt : Int32) (mkd : Int32) (mbt : Int32) (mrw : Int32) (mhs : Int32) (mco : Int32) (mey : Bool) (mu1 : Int32) (mu2 : Int32) (mu3 : Int32) (mu4 : Int32) (mwt : Int32) (mmk : Int32) (g_lastBit : Nat → Int32) (g_plain : Nat → Int32) (g_mixed : Nat → Int32) (g_chooser : Nat → Int32) (g_own : Nat → Int32) (g_ownCounter : Nat → Int32) (g_tag : Nat → Int32) (g_sum : Nat → Int32) (g_weight : Nat → Int32) (g_loopTag : Nat → Int32) (g_length : Nat → Int32) (g_count : Nat → Int32) (g_trust : Nat → Int32) (pl : Int32) (n0 : Int32) (rs : Int32 × Int32) (hfn : (of_Md_several mkd mbt mrw mhs mco g_lastBit g_plain g_mixed g_chooser g_own g_ownCounter g_tag g_sum g_weight g_loopTag g_length g_count g_trust pl n0) = some rs) : Met l yMd_several wMd_several ({ frames := 5, cells := 0, slots := 0, locals := 118 }) (va_Pc [.ref o0, .int pl, .int n0] (Wr (dC, dI) cA zz [(o0, .inr (11, [.int mt, .int mkd, .int mbt, .int mrw, .int mhs, .int mco, .int (bI mey), .int mu1, .int mu2, .int mu3, .int mu4, .ref r_lastBit, .ref r_plain, .ref r_mixed, .ref r_chooser, .ref r_own, .ref r_ownCounter, .ref r_tag, .ref r_sum, .ref r_use, .ref r_weight, .ref r_loopTag, .ref r_length, .ref r_count, .ref r_trust, .int mwt, .ref r_waitPlace, .ref r_waitHistory, .ref r_waitSaid, .int mmk, .ref r_mark])), (r_lastBit, .inl (cA.1, 1024, .inl g_lastBit)), (r_plain, .inl (cA.1, 1024, .inl g_plain)), (r_mixed, .inl (cA.1, 1024, .inl g_mixed)), (r_chooser, .inl (cA.1, 1024, .inl g_chooser)), (r_own, .inl (cA.1, 1024, .inl g_own)), (r_ownCounter, .inl (cA.1, 1024, .inl g_ownCounter)), (r_tag, .inl (cA.1, 3072, .inl g_tag)), (r_sum, .inl (cA.1, 3072, .inl g_sum)), (r_weight, .inl (cA.1, 9216, .inl g_weight)), (r_loopTag, .inl (cA.1, 1024, .inl g_loopTag)), (r_length, .inl (cA.1, 1024, .inl g_length)), (r_count, .inl (cA.1, 1024, .inl g_count)), (r_trust, .inl (cA.1, 1024, .inl g_trust))])) (va_Qi (fun r9 w9 => r9 = rs.1 ∧ w9 = [(o0, .inr (11, [.int rs.2, .int mkd, .int mbt, .int mrw, .int mhs, .int mco, .int (bI mey), .int mu1, .int mu2, .int mu3, .int mu4, .ref r_lastBit, .ref r_plain, .ref r_mixed, .ref r_chooser, .ref r_own, .ref r_ownCounter, .ref r_tag, .ref r_sum, .ref r_use, .ref r_weight, .ref r_loopTag, .ref r_length, .ref r_count, .ref r_trust, .int mwt, .ref r_waitPlace, .ref r_waitHistory, .ref r_waitSaid, .int mmk, .ref r_mark])), (r_lastBit, .inl (cA.1, 1024, .inl g_lastBit)), (r_plain, .inl (cA.1, 1024, .inl g_plain)), (r_mixed, .inl (cA.1, 1024, .inl g_mixed)), (r_chooser, .inl (cA.1, 1024, .inl g_chooser)), (r_own, .inl (cA.1, 1024, .inl g_own)), (r_ownCounter, .inl (cA.1, 1024, .inl g_ownCounter)), (r_tag, .inl (cA.1, 3072, .inl g_tag)), (r_sum, .inl (cA.1, 3072, .inl g_sum)), (r_weight, .inl (cA.1, 9216, .inl g_weight)), (r_loopTag, .inl (cA.1, 1024, .inl g_loopTag)), (r_length, .inl (cA.1, 1024, .inl g_length)), (r_count, .inl (cA.1, 1024, .inl g_count)), (r_trust, .inl (cA.1, 1024, .inl g_trust))]) (At (dC, dI) cA (va_A [(o0, .inr (11, [.int mt, .int mkd, .int mbt, .int mrw, .int mhs, .int mco, .int (bI mey), .int mu1, .int mu2, .int mu3, .int mu4, .ref r_lastBit, .ref r_plain, .ref r_mixed, .ref r_chooser, .ref r_own, .ref r_ownCounter, .ref r_tag, .ref r_sum, .ref r_use, .ref r_weight, .ref r_loopTag, .ref r_length, .ref r_count, .ref r_trust, .int mwt, .ref r_waitPlace, .ref r_waitHistory, .ref r_waitSaid, .int mmk, .ref r_mark])), (r_lastBit, .inl (cA.1, 1024, .inl g_lastBit)), (r_plain, .inl (cA.1, 1024, .inl g_plain)), (r_mixed, .inl (cA.1, 1024, .inl g_mixed)), (r_chooser, .inl (cA.1, 1024, .inl g_chooser)), (r_own, .inl (cA.1, 1024, .inl g_own)), (r_ownCounter, .inl (cA.1, 1024, .inl g_ownCounter)), (r_tag, .inl (cA.1, 3072, .inl g_tag)), (r_sum, .inl (cA.1, 3072, .inl g_sum)), (r_weight, .inl (cA.1, 9216, .inl g_weight)), (r_loopTag, .inl (cA.1, 1024, .inl g_loopTag)), (r_length, .inl (cA.1, 1024, .inl g_length)), (r_count, .inl (cA.1, 1024, .inl g_count)), (r_trust, .inl (cA.1, 1024, .inl g_trust))] zz)) (va_A [(o0, .inr (11, [.int mt, .int mkd, .int mbt, .int mrw, .int mhs, .int mco, .int (bI mey), .int mu1, .int mu2, .int mu3, .int mu4, .ref r_lastBit, .ref r_plain, .ref r_mixed, .ref r_chooser, .ref r_own, .ref r_ownCounter, .ref r_tag, .ref r_sum, .ref r_use, .ref r_weight, .ref r_loopTag, .ref r_length, .ref r_count, .ref r_trust, .int mwt, .ref r_waitPlace, .ref r_waitHistory, .ref r_waitSaid, .int mmk, .ref r_mark])), (r_lastBit, .inl (cA.1, 1024, .inl g_lastBit)), (r_plain, .inl (cA.1, 1024, .inl g_plain)), (r_mixed, .inl (cA.1, 1024, .inl g_mixed)), (r_chooser, .inl (cA.1, 1024, .inl g_chooser)), (r_own, .inl (cA.1, 1024, .inl g_own)), (r_ownCounter, .inl (cA.1, 1024, .inl g_ownCounter)), (r_tag, .inl (cA.1, 3072, .inl g_tag)), (r_sum, .inl (cA.1, 3072, .inl g_sum)), (r_weight, .inl (cA.1, 9216, .inl g_weight)), (r_loopTag, .inl (cA.1, 1024, .inl g_loopTag)), (r_length, .inl (cA.1, 1024, .inl g_length)), (r_count, .inl (cA.1, 1024, .inl g_count)), (r_trust, .inl (cA.1, 1024, .inl g_trust))] zz)) 0 0 (va_A [(o0, .inr (11, [.int mt, .int mkd, .int mbt, .int mrw, .int mhs, .int mco, .int (bI mey), .int mu1, .int mu2, .int mu3, .int mu4, .ref r_lastBit, .ref r_plain, .ref r_mixed, .ref r_chooser, .ref r_own, .ref r_ownCounter, .ref r_tag, .ref r_sum, .ref r_use, .ref r_weight, .ref r_loopTag, .ref r_length, .ref r_count, .ref r_trust, .int mwt, .ref r_waitPlace, .ref r_waitHistory, .ref r_waitSaid, .int mmk, .ref r_mark])), (r_lastBit, .inl (cA.1, 1024, .inl g_lastBit)), (r_plain, .inl (cA.1, 1024, .inl g_plain)), (r_mixed, .inl (cA.1, 1024, .inl g_mixed)), (r_chooser, .inl (cA.1, 1024, .inl g_chooser)), (r_own, .inl (cA.1, 1024, .inl g_own)), (r_ownCounter, .inl (cA.1, 1024, .inl g_ownCounter)), (r_tag, .inl (cA.1, 3072, .inl g_tag)), (r_sum, .inl (cA.1, 3072, .inl g_sum)), (r_weight, .inl (cA.1, 9216, .inl g_weight)), (r_loopTag, .inl (cA.1, 1024, .inl g_loopTag)), (r_length, .inl (cA.1, 1024, .inl g_length)), (r_count, .inl (cA.1, 1024, .inl g_count)), (r_trust, .inl (cA.1, 1024, .inl g_trust))] zz) := by
  refine Met.ofW (cc := cMd_several) (maxL := 7) (ret := (some .int)) (by decide) rfl ?_
  intro p e s m args below meth c s₁ B hml hv
  obtain ⟨rfl, hsz, hN, hP, hK, hD0⟩ := hv
  have hx := B.exec
  have hb := B.bytes
  have hr := B.returns
  have hts := atoms_spec (ws := wMd_several) B.pre
  have htg : ∀ w ∈ GW, w.before _ s = true := fun w h => hts w (List.mem_cons_of_mem _ h)
  have hown : s.vm.findClass R_Md = some m.cls := findClass_of_methodNamed B.named
  have hlocks := B.notSynchronized
  subst hsz
  have hD := hD0.self (sz := s.heap.size)
  generalize hAe : va_A [(o0, .inr (11, [.int mt, .int mkd, .int mbt, .int mrw, .int mhs, .int mco, .int (bI mey), .int mu1, .int mu2, .int mu3, .int mu4, .ref r_lastBit, .ref r_plain, .ref r_mixed, .ref r_chooser, .ref r_own, .ref r_ownCounter, .ref r_tag, .ref r_sum, .ref r_use, .ref r_weight, .ref r_loopTag, .ref r_length, .ref r_count, .ref r_trust, .int mwt, .ref r_waitPlace, .ref r_waitHistory, .ref r_waitSaid, .int mmk, .ref r_mark])), (r_lastBit, .inl (cA.1, 1024, .inl g_lastBit)), (r_plain, .inl (cA.1, 1024, .inl g_plain)), (r_mixed, .inl (cA.1, 1024, .inl g_mixed)), (r_chooser, .inl (cA.1, 1024, .inl g_chooser)), (r_own, .inl (cA.1, 1024, .inl g_own)), (r_ownCounter, .inl (cA.1, 1024, .inl g_ownCounter)), (r_tag, .inl (cA.1, 3072, .inl g_tag)), (r_sum, .inl (cA.1, 3072, .inl g_sum)), (r_weight, .inl (cA.1, 9216, .inl g_weight)), (r_loopTag, .inl (cA.1, 1024, .inl g_loopTag)), (r_length, .inl (cA.1, 1024, .inl g_length)), (r_count, .inl (cA.1, 1024, .inl g_count)), (r_trust, .inl (cA.1, 1024, .inl g_trust))] s.heap.size = A at hD ⊢
  have hA : ∀ q : Nat, s.heap.size ≤ q → A q := fun q h => by rw [← hAe]; exact Or.inr h
  have hS : va_S A s.heap s.heap [] := va_S.rf
  have hP : va_P (dC, dI) vwCl [(o0, .inr (11, [.int mt, .int mkd, .int mbt, .int mrw, .int mhs, .int mco, .int (bI mey), .int mu1, .int mu2, .int mu3, .int mu4, .ref r_lastBit, .ref r_plain, .ref r_mixed, .ref r_chooser, .ref r_own, .ref r_ownCounter, .ref r_tag, .ref r_sum, .ref r_use, .ref r_weight, .ref r_loopTag, .ref r_length, .ref r_count, .ref r_trust, .int mwt, .ref r_waitPlace, .ref r_waitHistory, .ref r_waitSaid, .int mmk, .ref r_mark])), (r_lastBit, .inl (cA.1, 1024, .inl g_lastBit)), (r_plain, .inl (cA.1, 1024, .inl g_plain)), (r_mixed, .inl (cA.1, 1024, .inl g_mixed)), (r_chooser, .inl (cA.1, 1024, .inl g_chooser)), (r_own, .inl (cA.1, 1024, .inl g_own)), (r_ownCounter, .inl (cA.1, 1024, .inl g_ownCounter)), (r_tag, .inl (cA.1, 3072, .inl g_tag)), (r_sum, .inl (cA.1, 3072, .inl g_sum)), (r_weight, .inl (cA.1, 9216, .inl g_weight)), (r_loopTag, .inl (cA.1, 1024, .inl g_loopTag)), (r_length, .inl (cA.1, 1024, .inl g_length)), (r_count, .inl (cA.1, 1024, .inl g_count)), (r_trust, .inl (cA.1, 1024, .inl g_trust))] s.heap := hP
  have blk33 : ∀ n : Nat, ∀ (v3_b33 : Int32) (v4_b33 : Int32) (v5_b33 : Int32) (H : Heap) (locs : List Loc) (ls : Array Slot), of_Md_several_b33 n mkd mbt mrw mco g_lastBit g_plain g_mixed g_chooser g_own g_ownCounter g_tag g_sum g_weight g_loopTag g_length g_count g_trust pl n0 v3_b33 v4_b33 v5_b33 = some rs → va_P (dC, dI) vwCl [(o0, .inr (11, [.int 0, .int mkd, .int mbt, .int mrw, .int mhs, .int mco, .int (bI mey), .int mu1, .int mu2, .int mu3, .int mu4, .ref r_lastBit, .ref r_plain, .ref r_mixed, .ref r_chooser, .ref r_own, .ref r_ownCounter, .ref r_tag, .ref r_sum, .ref r_use, .ref r_weight, .ref r_loopTag, .ref r_length, .ref r_count, .ref r_trust, .int mwt, .ref r_waitPlace, .ref r_waitHistory, .ref r_waitSaid, .int mmk, .ref r_mark])), (r_lastBit, .inl (cA.1, 1024, .inl g_lastBit)), (r_plain, .inl (cA.1, 1024, .inl g_plain)), (r_mixed, .inl (cA.1, 1024, .inl g_mixed)), (r_chooser, .inl (cA.1, 1024, .inl g_chooser)), (r_own, .inl (cA.1, 1024, .inl g_own)), (r_ownCounter, .inl (cA.1, 1024, .inl g_ownCounter)), (r_tag, .inl (cA.1, 3072, .inl g_tag)), (r_sum, .inl (cA.1, 3072, .inl g_sum)), (r_weight, .inl (cA.1, 9216, .inl g_weight)), (r_loopTag, .inl (cA.1, 1024, .inl g_loopTag)), (r_length, .inl (cA.1, 1024, .inl g_length)), (r_count, .inl (cA.1, 1024, .inl g_count)), (r_trust, .inl (cA.1, 1024, .inl g_trust))] H → va_D A [(o0, .inr (11, [.int 0, .int mkd, .int mbt, .int mrw, .int mhs, .int mco, .int (bI mey), .int mu1, .int mu2, .int mu3, .int mu4, .ref r_lastBit, .ref r_plain, .ref r_mixed, .ref r_chooser, .ref r_own, .ref r_ownCounter, .ref r_tag, .ref r_sum, .ref r_use, .ref r_weight, .ref r_loopTag, .ref r_length, .ref r_count, .ref r_trust, .int mwt, .ref r_waitPlace, .ref r_waitHistory, .ref r_waitSaid, .int mmk, .ref r_mark])), (r_lastBit, .inl (cA.1, 1024, .inl g_lastBit)), (r_plain, .inl (cA.1, 1024, .inl g_plain)), (r_mixed, .inl (cA.1, 1024, .inl g_mixed)), (r_chooser, .inl (cA.1, 1024, .inl g_chooser)), (r_own, .inl (cA.1, 1024, .inl g_own)), (r_ownCounter, .inl (cA.1, 1024, .inl g_ownCounter)), (r_tag, .inl (cA.1, 3072, .inl g_tag)), (r_sum, .inl (cA.1, 3072, .inl g_sum)), (r_weight, .inl (cA.1, 9216, .inl g_weight)), (r_loopTag, .inl (cA.1, 1024, .inl g_loopTag)), (r_length, .inl (cA.1, 1024, .inl g_length)), (r_count, .inl (cA.1, 1024, .inl g_count)), (r_trust, .inl (cA.1, 1024, .inl g_trust))] → va_S A s.heap H locs → lv_has ls 7 [(0, .ref o0), (1, .int pl), (2, .int n0), (3, .int v3_b33), (4, .int v4_b33), (5, .int v5_b33)] → W p l e (headSpec wMd_several ({ frames := 5, cells := 0, slots := 0, locals := 118 })).room s m ([.ref o0, .int pl, .int n0] : List Value).toArray below meth c H locs 0 0 (MQ below (va_Qi (fun r9 w9 => r9 = rs.1 ∧ w9 = [(o0, .inr (11, [.int rs.2, .int mkd, .int mbt, .int mrw, .int mhs, .int mco, .int (bI mey), .int mu1, .int mu2, .int mu3, .int mu4, .ref r_lastBit, .ref r_plain, .ref r_mixed, .ref r_chooser, .ref r_own, .ref r_ownCounter, .ref r_tag, .ref r_sum, .ref r_use, .ref r_weight, .ref r_loopTag, .ref r_length, .ref r_count, .ref r_trust, .int mwt, .ref r_waitPlace, .ref r_waitHistory, .ref r_waitSaid, .int mmk, .ref r_mark])), (r_lastBit, .inl (cA.1, 1024, .inl g_lastBit)), (r_plain, .inl (cA.1, 1024, .inl g_plain)), (r_mixed, .inl (cA.1, 1024, .inl g_mixed)), (r_chooser, .inl (cA.1, 1024, .inl g_chooser)), (r_own, .inl (cA.1, 1024, .inl g_own)), (r_ownCounter, .inl (cA.1, 1024, .inl g_ownCounter)), (r_tag, .inl (cA.1, 3072, .inl g_tag)), (r_sum, .inl (cA.1, 3072, .inl g_sum)), (r_weight, .inl (cA.1, 9216, .inl g_weight)), (r_loopTag, .inl (cA.1, 1024, .inl g_loopTag)), (r_length, .inl (cA.1, 1024, .inl g_length)), (r_count, .inl (cA.1, 1024, .inl g_count)), (r_trust, .inl (cA.1, 1024, .inl g_trust))]) (At (dC, dI) cA A) A) ([.ref o0, .int pl, .int n0] : List Value).toArray s 0 0 A) (F0 m 33 ls []) := by
    intro n
    induction n with
    | zero =>
      intro v3_b33 v4_b33 v5_b33 H locs ls hfn hP hD hS hl
      exact absurd hfn (by intro h; cases h)
    | succ n ih =>
      intro v3_b33 v4_b33 v5_b33 H locs ls hfn hP hD hS hl
      unfold of_Md_several_b33 at hfn
      refine lv_iload hx hb dMd_several_33 (lv_at hl 5 rfl) ?_
      refine lv_iload_n hx hb dMd_several_35 rfl (lv_at hl 2 rfl) ?_
      refine lv_icmp_ge (tgt := 84) hx hb dMd_several_36 (by decide) (fun c_3 => ?_) (fun c_3 => ?_)
      · rw [if_pos c_3] at hfn
        refine lv_iload_n hx hb dMd_several_84 rfl (lv_at hl 3 rfl) ?_
        obtain rfl := Option.some.inj hfn
        exact W.iret hx hb hr (fun t ht hW => ⟨⟨_, _, rfl, ⟨rfl, rfl⟩, ⟨by rw [ht]; exact hP.sub [0, 1, 2, 3, 4, 5, 6, 7, 8, 9, 10, 11, 12, 13] rfl, va_K.moved hW.alike hK, hD.sub [0, 1, 2, 3, 4, 5, 6, 7, 8, 9, 10, 11, 12, 13] (by decide) rfl⟩⟩, hS.F ht⟩) hS.2.2 dMd_several_85
      · rw [if_neg c_3] at hfn
        refine lv_aload_n hx hb dMd_several_39 rfl (lv_at hl 0 rfl) ?_
        refine lv_iload_n hx hb dMd_several_40 rfl (lv_at hl 1 rfl) ?_
        refine lv_iconst (v := 4) hx hb dMd_several_41 (by decide) ?_
        refine lv_iload hx hb dMd_several_42 (lv_at hl 5 rfl) ?_
        refine lv_imul hx hb dMd_several_44 ?_
        refine lv_iadd hx hb dMd_several_45 ?_
        refine lv_iload hx hb dMd_several_46 (lv_at hl 4 rfl) ?_
        obtain ⟨z_4, hz_4, hfn⟩ := ob hfn
        refine rd_V (As := [.int (pl + (4 * v5_b33)), .int v4_b33]) (rest := []) ⟨hx, hb, hml, hown, htg⟩ (c_Md_says l dC dI cA o0 r_lastBit r_plain r_mixed r_chooser r_own r_ownCounter r_tag r_sum r_weight r_loopTag r_length r_count r_trust r_use r_waitPlace r_waitHistory r_waitSaid r_mark 0 mkd mbt mrw mhs mco mey mu1 mu2 mu3 mu4 mwt mmk g_lastBit g_plain g_mixed g_chooser g_own g_ownCounter g_tag g_sum g_weight g_loopTag g_length g_count g_trust (pl + (4 * v5_b33)) v4_b33 z_4 hz_4) (cw_V htg wd_898 ws_18 qMd_says iMd_says kMd_says pMd_says rfl rfl ⟨Nat.le_of_ble_eq_true rfl, Nat.le_of_ble_eq_true rfl⟩) (va_recv hK hP (ci := 11) (q0 := 0) rfl rfl) hN (hP.sub [0, 1, 2, 3, 4, 5, 6, 7, 8, 9, 10, 11, 12, 13] rfl) hK rfl hl.1 rfl (Nat.le_of_ble_eq_true rfl) dMd_several_48 ⟨Nat.le_of_ble_eq_true rfl, Nat.le_of_ble_eq_true rfl⟩ ?_
        refine lv_istore (lv' := [(6, .int (bI z_4)), (0, .ref o0), (1, .int pl), (2, .int n0), (3, .int v3_b33), (4, .int v4_b33), (5, .int v5_b33)]) hx hb dMd_several_51 hl (by decide) rfl (fun ls hl => ?_)
        refine lv_iload hx hb dMd_several_53 (lv_at hl 0 rfl) ?_
        refine lv_if_eq (tgt := 67) hx hb dMd_several_55 (by decide) (fun c_5 => ?_) (fun c_5 => ?_)
        · rw [if_pos c_5] at hfn
          refine lv_iload_n hx hb dMd_several_67 rfl (lv_at hl 4 rfl) ?_
          refine lv_istore_n (lv' := [(3, .int v3_b33), (6, .int (bI z_4)), (0, .ref o0), (1, .int pl), (2, .int n0), (4, .int v4_b33), (5, .int v5_b33)]) hx hb dMd_several_68 rfl hl (by decide) rfl (fun ls hl => ?_)
          refine lv_iload hx hb dMd_several_69 (lv_at hl 5 rfl) ?_
          refine lv_iload hx hb dMd_several_71 (lv_at hl 1 rfl) ?_
          refine rd_S (As := [.int v4_b33, .int (bI z_4)]) (rest := []) ⟨hx, hb, hml, hown, htg⟩ (c_Md_behind l dC dI cA v4_b33 z_4) (cw_S htg wd_951 qMd_behind iMd_behind kMd_behind pMd_behind rfl rfl ⟨Nat.le_of_ble_eq_true rfl, Nat.le_of_ble_eq_true rfl⟩) hN (hP.sub [] rfl) hK rfl hl.1 rfl (Nat.le_of_ble_eq_true rfl) dMd_several_73 ⟨Nat.le_of_ble_eq_true rfl, Nat.le_of_ble_eq_true rfl⟩ ?_
          refine lv_istore (lv' := [(4, .int (tf_Md_behind v4_b33 z_4)), (3, .int v3_b33), (6, .int (bI z_4)), (0, .ref o0), (1, .int pl), (2, .int n0), (5, .int v5_b33)]) hx hb dMd_several_76 hl (by decide) rfl (fun ls hl => ?_)
          refine lv_iinc (v := (v5_b33 + 1)) (lv' := [(5, .int (v5_b33 + 1)), (4, .int (tf_Md_behind v4_b33 z_4)), (3, .int v3_b33), (6, .int (bI z_4)), (0, .ref o0), (1, .int pl), (2, .int n0)]) hx hb dMd_several_78 hl (k := 6) rfl rfl (by decide) rfl (fun ls hl => ?_)
          refine lv_goto (tgt := 33) hx hb dMd_several_81 (by decide) ?_
          exact ih v3_b33 (tf_Md_behind v4_b33 z_4) (v5_b33 + 1) _ _ ls hfn (hP.sub [0, 1, 2, 3, 4, 5, 6, 7, 8, 9, 10, 11, 12, 13] rfl) (hD.sub [0, 1, 2, 3, 4, 5, 6, 7, 8, 9, 10, 11, 12, 13] (by decide) rfl) hS (lv_sub hl [4, 5, 6, 2, 1, 0] rfl)
        · rw [if_neg c_5] at hfn
          refine lv_iload_n hx hb dMd_several_58 rfl (lv_at hl 4 rfl) ?_
          refine lv_iconst (v := 1) hx hb dMd_several_59 (by decide) ?_
          refine lv_iload hx hb dMd_several_60 (lv_at hl 6 rfl) ?_
          refine lv_ishl hx hb dMd_several_62 ?_
          refine lv_ior hx hb dMd_several_63 ?_
          refine lv_goto (tgt := 68) hx hb dMd_several_64 (by decide) ?_
          refine lv_istore_n (lv' := [(3, .int (v3_b33 ||| ((1 : Int32) <<< (v5_b33 &&& 31)))), (6, .int (bI z_4)), (0, .ref o0), (1, .int pl), (2, .int n0), (4, .int v4_b33), (5, .int v5_b33)]) hx hb dMd_several_68 rfl hl (by decide) rfl (fun ls hl => ?_)
          refine lv_iload hx hb dMd_several_69 (lv_at hl 5 rfl) ?_
          refine lv_iload hx hb dMd_several_71 (lv_at hl 1 rfl) ?_
          refine rd_S (As := [.int v4_b33, .int (bI z_4)]) (rest := []) ⟨hx, hb, hml, hown, htg⟩ (c_Md_behind l dC dI cA v4_b33 z_4) (cw_S htg wd_951 qMd_behind iMd_behind kMd_behind pMd_behind rfl rfl ⟨Nat.le_of_ble_eq_true rfl, Nat.le_of_ble_eq_true rfl⟩) hN (hP.sub [] rfl) hK rfl hl.1 rfl (Nat.le_of_ble_eq_true rfl) dMd_several_73 ⟨Nat.le_of_ble_eq_true rfl, Nat.le_of_ble_eq_true rfl⟩ ?_
          refine lv_istore (lv' := [(4, .int (tf_Md_behind v4_b33 z_4)), (3, .int (v3_b33 ||| ((1 : Int32) <<< (v5_b33 &&& 31)))), (6, .int (bI z_4)), (0, .ref o0), (1, .int pl), (2, .int n0), (5, .int v5_b33)]) hx hb dMd_several_76 hl (by decide) rfl (fun ls hl => ?_)
          refine lv_iinc (v := (v5_b33 + 1)) (lv' := [(5, .int (v5_b33 + 1)), (4, .int (tf_Md_behind v4_b33 z_4)), (3, .int (v3_b33 ||| ((1 : Int32) <<< (v5_b33 &&& 31)))), (6, .int (bI z_4)), (0, .ref o0), (1, .int pl), (2, .int n0)]) hx hb dMd_several_78 hl (k := 6) rfl rfl (by decide) rfl (fun ls hl => ?_)
          refine lv_goto (tgt := 33) hx hb dMd_several_81 (by decide) ?_
          exact ih (v3_b33 ||| ((1 : Int32) <<< (v5_b33 &&& 31))) (tf_Md_behind v4_b33 z_4) (v5_b33 + 1) _ _ ls hfn (hP.sub [0, 1, 2, 3, 4, 5, 6, 7, 8, 9, 10, 11, 12, 13] rfl) (hD.sub [0, 1, 2, 3, 4, 5, 6, 7, 8, 9, 10, 11, 12, 13] (by decide) rfl) hS (lv_sub hl [4, 5, 6, 2, 1, 0] rfl)
  have blk16 : ∀ (H : Heap) (locs : List Loc) (ls : Array Slot), of_Md_several_b16 = some rs → va_P (dC, dI) vwCl [(o0, .inr (11, [.int 0, .int mkd, .int mbt, .int mrw, .int mhs, .int mco, .int (bI mey), .int mu1, .int mu2, .int mu3, .int mu4, .ref r_lastBit, .ref r_plain, .ref r_mixed, .ref r_chooser, .ref r_own, .ref r_ownCounter, .ref r_tag, .ref r_sum, .ref r_use, .ref r_weight, .ref r_loopTag, .ref r_length, .ref r_count, .ref r_trust, .int mwt, .ref r_waitPlace, .ref r_waitHistory, .ref r_waitSaid, .int mmk, .ref r_mark])), (r_lastBit, .inl (cA.1, 1024, .inl g_lastBit)), (r_plain, .inl (cA.1, 1024, .inl g_plain)), (r_mixed, .inl (cA.1, 1024, .inl g_mixed)), (r_chooser, .inl (cA.1, 1024, .inl g_chooser)), (r_own, .inl (cA.1, 1024, .inl g_own)), (r_ownCounter, .inl (cA.1, 1024, .inl g_ownCounter)), (r_tag, .inl (cA.1, 3072, .inl g_tag)), (r_sum, .inl (cA.1, 3072, .inl g_sum)), (r_weight, .inl (cA.1, 9216, .inl g_weight)), (r_loopTag, .inl (cA.1, 1024, .inl g_loopTag)), (r_length, .inl (cA.1, 1024, .inl g_length)), (r_count, .inl (cA.1, 1024, .inl g_count)), (r_trust, .inl (cA.1, 1024, .inl g_trust))] H → va_D A [(o0, .inr (11, [.int 0, .int mkd, .int mbt, .int mrw, .int mhs, .int mco, .int (bI mey), .int mu1, .int mu2, .int mu3, .int mu4, .ref r_lastBit, .ref r_plain, .ref r_mixed, .ref r_chooser, .ref r_own, .ref r_ownCounter, .ref r_tag, .ref r_sum, .ref r_use, .ref r_weight, .ref r_loopTag, .ref r_length, .ref r_count, .ref r_trust, .int mwt, .ref r_waitPlace, .ref r_waitHistory, .ref r_waitSaid, .int mmk, .ref r_mark])), (r_lastBit, .inl (cA.1, 1024, .inl g_lastBit)), (r_plain, .inl (cA.1, 1024, .inl g_plain)), (r_mixed, .inl (cA.1, 1024, .inl g_mixed)), (r_chooser, .inl (cA.1, 1024, .inl g_chooser)), (r_own, .inl (cA.1, 1024, .inl g_own)), (r_ownCounter, .inl (cA.1, 1024, .inl g_ownCounter)), (r_tag, .inl (cA.1, 3072, .inl g_tag)), (r_sum, .inl (cA.1, 3072, .inl g_sum)), (r_weight, .inl (cA.1, 9216, .inl g_weight)), (r_loopTag, .inl (cA.1, 1024, .inl g_loopTag)), (r_length, .inl (cA.1, 1024, .inl g_length)), (r_count, .inl (cA.1, 1024, .inl g_count)), (r_trust, .inl (cA.1, 1024, .inl g_trust))] → va_S A s.heap H locs → lv_has ls 7 [(0, .ref o0)] → W p l e (headSpec wMd_several ({ frames := 5, cells := 0, slots := 0, locals := 118 })).room s m ([.ref o0, .int pl, .int n0] : List Value).toArray below meth c H locs 0 0 (MQ below (va_Qi (fun r9 w9 => r9 = rs.1 ∧ w9 = [(o0, .inr (11, [.int rs.2, .int mkd, .int mbt, .int mrw, .int mhs, .int mco, .int (bI mey), .int mu1, .int mu2, .int mu3, .int mu4, .ref r_lastBit, .ref r_plain, .ref r_mixed, .ref r_chooser, .ref r_own, .ref r_ownCounter, .ref r_tag, .ref r_sum, .ref r_use, .ref r_weight, .ref r_loopTag, .ref r_length, .ref r_count, .ref r_trust, .int mwt, .ref r_waitPlace, .ref r_waitHistory, .ref r_waitSaid, .int mmk, .ref r_mark])), (r_lastBit, .inl (cA.1, 1024, .inl g_lastBit)), (r_plain, .inl (cA.1, 1024, .inl g_plain)), (r_mixed, .inl (cA.1, 1024, .inl g_mixed)), (r_chooser, .inl (cA.1, 1024, .inl g_chooser)), (r_own, .inl (cA.1, 1024, .inl g_own)), (r_ownCounter, .inl (cA.1, 1024, .inl g_ownCounter)), (r_tag, .inl (cA.1, 3072, .inl g_tag)), (r_sum, .inl (cA.1, 3072, .inl g_sum)), (r_weight, .inl (cA.1, 9216, .inl g_weight)), (r_loopTag, .inl (cA.1, 1024, .inl g_loopTag)), (r_length, .inl (cA.1, 1024, .inl g_length)), (r_count, .inl (cA.1, 1024, .inl g_count)), (r_trust, .inl (cA.1, 1024, .inl g_trust))]) (At (dC, dI) cA A) A) ([.ref o0, .int pl, .int n0] : List Value).toArray s 0 0 A) (F0 m 16 ls []) := by
    intro H locs ls hfn hP hD hS hl
    unfold of_Md_several_b16 at hfn
    refine lv_aload_n hx hb dMd_several_16 rfl (lv_at hl 0 rfl) ?_
    refine lv_iconst (v := 1) hx hb dMd_several_17 (by decide) ?_
    refine wr_Vi (wr := [(r_lastBit, .inl (cA.1, 1024, .inl g_lastBit)), (r_plain, .inl (cA.1, 1024, .inl g_plain)), (r_mixed, .inl (cA.1, 1024, .inl g_mixed)), (r_chooser, .inl (cA.1, 1024, .inl g_chooser)), (r_own, .inl (cA.1, 1024, .inl g_own)), (r_ownCounter, .inl (cA.1, 1024, .inl g_ownCounter)), (r_tag, .inl (cA.1, 3072, .inl g_tag)), (r_sum, .inl (cA.1, 3072, .inl g_sum)), (r_weight, .inl (cA.1, 9216, .inl g_weight)), (r_loopTag, .inl (cA.1, 1024, .inl g_loopTag)), (r_length, .inl (cA.1, 1024, .inl g_length)), (r_count, .inl (cA.1, 1024, .inl g_count)), (r_trust, .inl (cA.1, 1024, .inl g_trust))]) (As := [.int 1]) (rest := []) ⟨hx, hb, hml, hown, htg⟩ (c_Md_fail l dC dI cA _ o0 r_lastBit r_plain r_mixed r_chooser r_own r_ownCounter r_tag r_sum r_use r_weight r_loopTag r_length r_count r_trust r_waitPlace r_waitHistory r_waitSaid r_mark 0 mkd mbt mrw mhs mco mey mu1 mu2 mu3 mu4 mwt mmk 1) (cw_V htg wd_1002 ws_36 qMd_fail iMd_fail kMd_fail pMd_fail rfl rfl ⟨Nat.le_of_ble_eq_true rfl, Nat.le_of_ble_eq_true rfl⟩) (va_recv hK hP (ci := 11) (q0 := 0) rfl rfl) hN hP hD hS hA hK [0] [1, 2, 3, 4, 5, 6, 7, 8, 9, 10, 11, 12, 13] rfl rfl (by decide) (by decide) (by decide) rfl hl.1 rfl (Nat.le_of_ble_eq_true rfl) dMd_several_18 ⟨Nat.le_of_ble_eq_true rfl, Nat.le_of_ble_eq_true rfl⟩ (fun H locs hP hD hS => ?_)
    have hP : va_P (dC, dI) vwCl [(r_lastBit, .inl (cA.1, 1024, .inl g_lastBit)), (r_plain, .inl (cA.1, 1024, .inl g_plain)), (r_mixed, .inl (cA.1, 1024, .inl g_mixed)), (r_chooser, .inl (cA.1, 1024, .inl g_chooser)), (r_own, .inl (cA.1, 1024, .inl g_own)), (r_ownCounter, .inl (cA.1, 1024, .inl g_ownCounter)), (r_tag, .inl (cA.1, 3072, .inl g_tag)), (r_sum, .inl (cA.1, 3072, .inl g_sum)), (r_weight, .inl (cA.1, 9216, .inl g_weight)), (r_loopTag, .inl (cA.1, 1024, .inl g_loopTag)), (r_length, .inl (cA.1, 1024, .inl g_length)), (r_count, .inl (cA.1, 1024, .inl g_count)), (r_trust, .inl (cA.1, 1024, .inl g_trust)), (o0, .inr (11, [.int ((tf_Md_fail 1).2), .int mkd, .int mbt, .int mrw, .int mhs, .int mco, .int (bI mey), .int mu1, .int mu2, .int mu3, .int mu4, .ref r_lastBit, .ref r_plain, .ref r_mixed, .ref r_chooser, .ref r_own, .ref r_ownCounter, .ref r_tag, .ref r_sum, .ref r_use, .ref r_weight, .ref r_loopTag, .ref r_length, .ref r_count, .ref r_trust, .int mwt, .ref r_waitPlace, .ref r_waitHistory, .ref r_waitSaid, .int mmk, .ref r_mark]))] H := hP
    have hD : va_D A [(r_lastBit, .inl (cA.1, 1024, .inl g_lastBit)), (r_plain, .inl (cA.1, 1024, .inl g_plain)), (r_mixed, .inl (cA.1, 1024, .inl g_mixed)), (r_chooser, .inl (cA.1, 1024, .inl g_chooser)), (r_own, .inl (cA.1, 1024, .inl g_own)), (r_ownCounter, .inl (cA.1, 1024, .inl g_ownCounter)), (r_tag, .inl (cA.1, 3072, .inl g_tag)), (r_sum, .inl (cA.1, 3072, .inl g_sum)), (r_weight, .inl (cA.1, 9216, .inl g_weight)), (r_loopTag, .inl (cA.1, 1024, .inl g_loopTag)), (r_length, .inl (cA.1, 1024, .inl g_length)), (r_count, .inl (cA.1, 1024, .inl g_count)), (r_trust, .inl (cA.1, 1024, .inl g_trust)), (o0, .inr (11, [.int ((tf_Md_fail 1).2), .int mkd, .int mbt, .int mrw, .int mhs, .int mco, .int (bI mey), .int mu1, .int mu2, .int mu3, .int mu4, .ref r_lastBit, .ref r_plain, .ref r_mixed, .ref r_chooser, .ref r_own, .ref r_ownCounter, .ref r_tag, .ref r_sum, .ref r_use, .ref r_weight, .ref r_loopTag, .ref r_length, .ref r_count, .ref r_trust, .int mwt, .ref r_waitPlace, .ref r_waitHistory, .ref r_waitSaid, .int mmk, .ref r_mark]))] := hD
    obtain rfl := Option.some.inj hfn
    exact W.iret hx hb hr (fun t ht hW => ⟨⟨_, _, rfl, ⟨rfl, rfl⟩, ⟨by rw [ht]; exact hP.sub [13, 0, 1, 2, 3, 4, 5, 6, 7, 8, 9, 10, 11, 12] rfl, va_K.moved hW.alike hK, hD.sub [13, 0, 1, 2, 3, 4, 5, 6, 7, 8, 9, 10, 11, 12] (by decide) rfl⟩⟩, hS.F ht⟩) hS.2.2 dMd_several_21
  have hl := lv_entry ([.ref o0, .int pl, .int n0]) (n := 7) (Nat.le_of_ble_eq_true rfl)
  rw [lg_entry_eq]
  generalize (lg_sl ([.ref o0, .int pl, .int n0]) ++ List.replicate (7 - (lg_sl ([.ref o0, .int pl, .int n0])).length) Slot.unset).toArray = ls at hl ⊢
  have hl : lv_has ls 7 [(0, .ref o0), (1, .int pl), (2, .int n0)] := hl
  unfold of_Md_several at hfn
  refine lv_aload_n hx hb dMd_several_0 rfl (lv_at hl 0 rfl) ?_
  refine lv_iconst (v := 0) hx hb dMd_several_1 (by decide) ?_
  refine va_put (D := (dC, dI)) (ci := 11) (v := .int 0) (ty := .int) (C := R_Md) (T := T_Md) (N := 31) hx hb htg in_Md ty_Md tk_Md nm_Md hown hK hP hD hS 0 rfl rfl 0 (by decide) (htg _ wd_795) (fun _ h9 => h9) rfl (by decide +kernel) rfl rfl (Nat.le_of_ble_eq_true rfl) dMd_several_2 (fun H locs hP hD hS => ?_)
  have hP : va_P (dC, dI) vwCl [(o0, .inr (11, [.int 0, .int mkd, .int mbt, .int mrw, .int mhs, .int mco, .int (bI mey), .int mu1, .int mu2, .int mu3, .int mu4, .ref r_lastBit, .ref r_plain, .ref r_mixed, .ref r_chooser, .ref r_own, .ref r_ownCounter, .ref r_tag, .ref r_sum, .ref r_use, .ref r_weight, .ref r_loopTag, .ref r_length, .ref r_count, .ref r_trust, .int mwt, .ref r_waitPlace, .ref r_waitHistory, .ref r_waitSaid, .int mmk, .ref r_mark])), (r_lastBit, .inl (cA.1, 1024, .inl g_lastBit)), (r_plain, .inl (cA.1, 1024, .inl g_plain)), (r_mixed, .inl (cA.1, 1024, .inl g_mixed)), (r_chooser, .inl (cA.1, 1024, .inl g_chooser)), (r_own, .inl (cA.1, 1024, .inl g_own)), (r_ownCounter, .inl (cA.1, 1024, .inl g_ownCounter)), (r_tag, .inl (cA.1, 3072, .inl g_tag)), (r_sum, .inl (cA.1, 3072, .inl g_sum)), (r_weight, .inl (cA.1, 9216, .inl g_weight)), (r_loopTag, .inl (cA.1, 1024, .inl g_loopTag)), (r_length, .inl (cA.1, 1024, .inl g_length)), (r_count, .inl (cA.1, 1024, .inl g_count)), (r_trust, .inl (cA.1, 1024, .inl g_trust))] H := hP
  have hD : va_D A [(o0, .inr (11, [.int 0, .int mkd, .int mbt, .int mrw, .int mhs, .int mco, .int (bI mey), .int mu1, .int mu2, .int mu3, .int mu4, .ref r_lastBit, .ref r_plain, .ref r_mixed, .ref r_chooser, .ref r_own, .ref r_ownCounter, .ref r_tag, .ref r_sum, .ref r_use, .ref r_weight, .ref r_loopTag, .ref r_length, .ref r_count, .ref r_trust, .int mwt, .ref r_waitPlace, .ref r_waitHistory, .ref r_waitSaid, .int mmk, .ref r_mark])), (r_lastBit, .inl (cA.1, 1024, .inl g_lastBit)), (r_plain, .inl (cA.1, 1024, .inl g_plain)), (r_mixed, .inl (cA.1, 1024, .inl g_mixed)), (r_chooser, .inl (cA.1, 1024, .inl g_chooser)), (r_own, .inl (cA.1, 1024, .inl g_own)), (r_ownCounter, .inl (cA.1, 1024, .inl g_ownCounter)), (r_tag, .inl (cA.1, 3072, .inl g_tag)), (r_sum, .inl (cA.1, 3072, .inl g_sum)), (r_weight, .inl (cA.1, 9216, .inl g_weight)), (r_loopTag, .inl (cA.1, 1024, .inl g_loopTag)), (r_length, .inl (cA.1, 1024, .inl g_length)), (r_count, .inl (cA.1, 1024, .inl g_count)), (r_trust, .inl (cA.1, 1024, .inl g_trust))] := hD
  refine lv_iload_n hx hb dMd_several_5 rfl (lv_at hl 2 rfl) ?_
  refine lv_iconst (v := 1) hx hb dMd_several_6 (by decide) ?_
  refine lv_icmp_lt (tgt := 16) hx hb dMd_several_7 (by decide) (fun c_1 => ?_) (fun c_1 => ?_)
  · rw [if_pos c_1] at hfn
    exact blk16 _ _ ls hfn (hP.sub [0, 1, 2, 3, 4, 5, 6, 7, 8, 9, 10, 11, 12, 13] rfl) (hD.sub [0, 1, 2, 3, 4, 5, 6, 7, 8, 9, 10, 11, 12, 13] (by decide) rfl) hS (lv_sub hl [0] rfl)
  · rw [if_neg c_1] at hfn
    refine lv_iload_n hx hb dMd_several_10 rfl (lv_at hl 2 rfl) ?_
    refine lv_bipush (v := 16) hx hb dMd_several_11 (by decide) ?_
    refine lv_icmp_le (tgt := 22) hx hb dMd_several_13 (by decide) (fun c_2 => ?_) (fun c_2 => ?_)
    · rw [if_pos c_2] at hfn
      refine lv_iconst (v := 0) hx hb dMd_several_22 (by decide) ?_
      refine lv_istore_n (lv' := [(3, .int 0), (0, .ref o0), (1, .int pl), (2, .int n0)]) hx hb dMd_several_23 rfl hl (by decide) rfl (fun ls hl => ?_)
      refine lv_aload_n hx hb dMd_several_24 rfl (lv_at hl 1 rfl) ?_
      refine va_get (D := (dC, dI)) (ci := 11) (v := .int mhs) (C := R_Md) (T := T_Md) (N := 31) hx hb htg in_Md hown hK hP 0 rfl rfl 4 (by decide) (htg _ wd_799) (fun _ h9 => h9) rfl dMd_several_25 ?_
      refine lv_istore (lv' := [(4, .int mhs), (3, .int 0), (0, .ref o0), (1, .int pl), (2, .int n0)]) hx hb dMd_several_28 hl (by decide) rfl (fun ls hl => ?_)
      refine lv_iconst (v := 0) hx hb dMd_several_30 (by decide) ?_
      refine lv_istore (lv' := [(5, .int 0), (4, .int mhs), (3, .int 0), (0, .ref o0), (1, .int pl), (2, .int n0)]) hx hb dMd_several_31 hl (by decide) rfl (fun ls hl => ?_)
      exact blk33 4096 0 mhs 0 _ _ ls hfn (hP.sub [0, 1, 2, 3, 4, 5, 6, 7, 8, 9, 10, 11, 12, 13] rfl) (hD.sub [0, 1, 2, 3, 4, 5, 6, 7, 8, 9, 10, 11, 12, 13] (by decide) rfl) hS (lv_sub hl [3, 4, 5, 2, 1, 0] rfl)
    · rw [if_neg c_2] at hfn
      exact blk16 _ _ ls hfn (hP.sub [0, 1, 2, 3, 4, 5, 6, 7, 8, 9, 10, 11, 12, 13] rfl) (hD.sub [0, 1, 2, 3, 4, 5, 6, 7, 8, 9, 10, 11, 12, 13] (by decide) rfl) hS (lv_sub hl [0] rfl)
