/-! STEPS: one relation per kind, kept by update -/
def R2 (S : Nat) (zs rw mk : Int32) (n1 : Nat) (f1 g : Nat → Int32) : Prop := Sz S zs rw mk ∧ n1 = 2 ^ S ∧ Ag (2 ^ S) f1 g ∧ C2 (2 ^ S) f1
theorem step_2 {S w : Nat} {zs rw mk ps u1 u2 u3 u4 ud mwt : Int32} {n1 : Nat} {f1 g wf1 wf2 wf3 gp gh gs : Nat → Int32} (hr : R2 S zs rw mk n1 f1 g) (hq : Qu w ud mwt wf1 wf2 wf3 gp gh gs) (pl : Int32) (tk : Bool) : ∃ (w' : Nat) (c : Bool) (u4' ps' ud' : Int32) (p1 p2 p3 q1 q2 q3 f' g' : Nat → Int32), of_PK_update_Counters ps u1 u2 u3 u4 ud wf1 wf2 wf3 zs mk false n1 f1 pl tk = some (c == tk, u3 + bI tk, u4', ps', u1 + 1, u2 + bI (!(c == tk)), ud', p1, p2, p3, f') ∧ of_Md_update_2 zs rw ps u1 u2 u3 u4 mwt g gp gh gs pl tk = some (c == tk, 0, u4', ud', ps', u1 + 1, u2 + bI (!(c == tk)), u3 + bI tk, g', q1, q2, q3) ∧ Qu w' ud' ud' p1 p2 p3 q1 q2 q3 ∧ R2 S zs rw mk n1 f' g' := by
  obtain ⟨hz, hn, ha, hc⟩ := hr
  obtain ⟨o, ho⟩ := od_ex w gp pl
  obtain ⟨g', l1, l2, l3⟩ := learn_2 hz hn ha hc pl (if o = w then ps else gh o) tk
  obtain ⟨w', u4', ps', ud', p1, p2, p3, q1, q2, q3, e1, e2, e3⟩ := upd_2 (u1 := u1) (u2 := u2) (u3 := u3) (u4 := u4) hq ho rfl rfl (says_2 hz hn ha pl (if o = w then ps else gh o)) l1
  exact ⟨w', _, u4', ps', ud', p1, p2, p3, q1, q2, q3, _, g', e1, e2, e3, hz, hn, l2, l3⟩
def R1 (S : Nat) (zs rw mk : Int32) (n1 : Nat) (f1 g : Nat → Int32) : Prop := Sz S zs rw mk ∧ n1 = 2 ^ S ∧ Ag (2 ^ S) f1 g
theorem step_1 {S w : Nat} {zs rw mk ps u1 u2 u3 u4 ud mwt : Int32} {n1 : Nat} {f1 g wf1 wf2 wf3 gp gh gs : Nat → Int32} (hr : R1 S zs rw mk n1 f1 g) (hq : Qu w ud mwt wf1 wf2 wf3 gp gh gs) (pl : Int32) (tk : Bool) : ∃ (w' : Nat) (c : Bool) (u4' ps' ud' : Int32) (p1 p2 p3 q1 q2 q3 f' g' : Nat → Int32), of_PK_update_Last ps u1 u2 u3 u4 ud wf1 wf2 wf3 zs mk n1 f1 pl tk = some (c == tk, u3 + bI tk, u4', ps', u1 + 1, u2 + bI (!(c == tk)), ud', p1, p2, p3, f') ∧ of_Md_update_1 zs rw ps u1 u2 u3 u4 mwt g gp gh gs pl tk = some (c == tk, 0, u4', ud', ps', u1 + 1, u2 + bI (!(c == tk)), u3 + bI tk, g', q1, q2, q3) ∧ Qu w' ud' ud' p1 p2 p3 q1 q2 q3 ∧ R1 S zs rw mk n1 f' g' := by
  obtain ⟨hz, hn, ha⟩ := hr
  obtain ⟨o, ho⟩ := od_ex w gp pl
  obtain ⟨g', l1, l2⟩ := learn_1 hz hn ha pl tk
  obtain ⟨w', u4', ps', ud', p1, p2, p3, q1, q2, q3, e1, e2, e3⟩ := upd_1 (u1 := u1) (u2 := u2) (u3 := u3) (u4 := u4) (ps := ps) hq ho rfl rfl (says_1 hz hn ha pl) l1
  exact ⟨w', _, u4', ps', ud', p1, p2, p3, q1, q2, q3, _, g', e1, e2, e3, hz, hn, l2⟩
theorem step_3 {S w : Nat} {zs rw mk ps u1 u2 u3 u4 ud mwt : Int32} {n1 : Nat} {f1 g wf1 wf2 wf3 gp gh gs : Nat → Int32} (hr : R2 S zs rw mk n1 f1 g) (hq : Qu w ud mwt wf1 wf2 wf3 gp gh gs) (pl : Int32) (tk : Bool) : ∃ (w' : Nat) (c : Bool) (u4' ps' ud' : Int32) (p1 p2 p3 q1 q2 q3 f' g' : Nat → Int32), of_PK_update_Counters ps u1 u2 u3 u4 ud wf1 wf2 wf3 zs mk true n1 f1 pl tk = some (c == tk, u3 + bI tk, u4', ps', u1 + 1, u2 + bI (!(c == tk)), ud', p1, p2, p3, f') ∧ of_Md_update_3 rw ps u1 u2 u3 u4 mwt g gp gh gs pl tk = some (c == tk, 0, u4', ud', ps', u1 + 1, u2 + bI (!(c == tk)), u3 + bI tk, g', q1, q2, q3) ∧ Qu w' ud' ud' p1 p2 p3 q1 q2 q3 ∧ R2 S zs rw mk n1 f' g' := by
  obtain ⟨hz, hn, ha, hc⟩ := hr
  obtain ⟨o, ho⟩ := od_ex w gp pl
  obtain ⟨g', l1, l2, l3⟩ := learn_3 hz hn ha hc pl (if o = w then ps else gh o) tk
  obtain ⟨w', u4', ps', ud', p1, p2, p3, q1, q2, q3, e1, e2, e3⟩ := upd_3 (u1 := u1) (u2 := u2) (u3 := u3) (u4 := u4) hq ho rfl rfl (says_3 hz hn ha pl (if o = w then ps else gh o)) l1
  exact ⟨w', _, u4', ps', ud', p1, p2, p3, q1, q2, q3, _, g', e1, e2, e3, hz, hn, l2, l3⟩
def R7 (S : Nat) (zs rw mk : Int32) (n1 : Nat) (f1 g : Nat → Int32) : Prop := Sz S zs rw mk ∧ n1 = 9 * 2 ^ S ∧ Ag (9 * 2 ^ S) f1 g ∧ Wb (9 * 2 ^ S) f1
theorem step_7 {S w : Nat} {zs rw mk ps u1 u2 u3 u4 ud mwt : Int32} {n1 : Nat} {f1 g wf1 wf2 wf3 gp gh gs : Nat → Int32} (hr : R7 S zs rw mk n1 f1 g) (hq : Qu w ud mwt wf1 wf2 wf3 gp gh gs) (pl : Int32) (tk : Bool) : ∃ (w' : Nat) (c : Bool) (u4' ps' ud' : Int32) (p1 p2 p3 q1 q2 q3 f' g' : Nat → Int32), of_PK_update_Sums ps u1 u2 u3 u4 ud wf1 wf2 wf3 zs mk n1 f1 pl tk = some (c == tk, u3 + bI tk, u4', ps', u1 + 1, u2 + bI (!(c == tk)), ud', p1, p2, p3, f') ∧ of_Md_update_7 zs rw ps u1 u2 u3 u4 mwt g gp gh gs pl tk = some (c == tk, 0, u4', ud', ps', u1 + 1, u2 + bI (!(c == tk)), u3 + bI tk, g', q1, q2, q3) ∧ Qu w' ud' ud' p1 p2 p3 q1 q2 q3 ∧ R7 S zs rw mk n1 f' g' := by
  obtain ⟨hz, hn, ha, hc⟩ := hr
  obtain ⟨o, ho⟩ := od_ex w gp pl
  obtain ⟨f', g', l0, l1, l2, l3⟩ := learn_7 hz hn ha hc pl (if o = w then ps else gh o) tk
  obtain ⟨c, s1, s2⟩ := says_7 hz hn ha pl (if o = w then ps else gh o)
  obtain ⟨w', u4', ps', ud', p1, p2, p3, q1, q2, q3, e1, e2, e3⟩ := upd_7 (u1 := u1) (u2 := u2) (u3 := u3) (u4 := u4) hq ho rfl s1 s2 l0 l1
  exact ⟨w', c, u4', ps', ud', p1, p2, p3, q1, q2, q3, f', g', e1, e2, e3, hz, hn, l2, l3⟩
def R4 (S : Nat) (zs rw mk : Int32) (n1 n2 : Nat) (f1 f2 g1 g2 : Nat → Int32) : Prop := Sz S zs rw mk ∧ n1 = 2 ^ S ∧ n2 = 2 ^ S ∧ Ag (2 ^ S) f1 g1 ∧ Ag (2 ^ S) f2 g2 ∧ Hi (2 ^ S) f1 ∧ C2 (2 ^ S) f2
theorem step_4 {S w : Nat} {zs rw mk ps u1 u2 u3 u4 ud mwt : Int32} {n1 n2 : Nat} {f1 f2 g1 g2 wf1 wf2 wf3 gp gh gs : Nat → Int32} (hr : R4 S zs rw mk n1 n2 f1 f2 g1 g2) (hq : Qu w ud mwt wf1 wf2 wf3 gp gh gs) (pl : Int32) (tk : Bool) : ∃ (w' : Nat) (c : Bool) (u4' ps' ud' : Int32) (p1 p2 p3 q1 q2 q3 f1' f2' g1' g2' : Nat → Int32), of_PK_update_Own ps u1 u2 u3 u4 ud wf1 wf2 wf3 zs mk n1 f1 n2 f2 pl tk = some (c == tk, u3 + bI tk, u4', ps', u1 + 1, u2 + bI (!(c == tk)), ud', p1, p2, p3, f1', f2') ∧ of_Md_update_4 zs rw ps u1 u2 u3 u4 mwt g1 g2 gp gh gs pl tk = some (c == tk, 0, u4', ud', ps', u1 + 1, u2 + bI (!(c == tk)), u3 + bI tk, g1', g2', q1, q2, q3) ∧ Qu w' ud' ud' p1 p2 p3 q1 q2 q3 ∧ R4 S zs rw mk n1 n2 f1' f2' g1' g2' := by
  obtain ⟨hz, h1, h2, a1, a2, hh, c2⟩ := hr
  obtain ⟨o, ho⟩ := od_ex w gp pl
  obtain ⟨g1', g2', l1, l2⟩ := learn_4 hz h1 h2 a1 a2 hh c2 pl tk
  have s := says_4 hz h1 h2 a1 a2 hh pl
  obtain ⟨w', u4', ps', ud', p1, p2, p3, q1, q2, q3, e1, e2, e3⟩ := upd_4 (u1 := u1) (u2 := u2) (u3 := u3) (u4 := u4) (ps := ps) hq ho rfl rfl s l1
  exact ⟨w', _, u4', ps', ud', p1, p2, p3, q1, q2, q3, _, _, g1', g2', e1, e2, e3, hz, h1, h2, l2⟩
def R5 (S : Nat) (zs rw mk : Int32) (n1 n2 n3 : Nat) (f1 f2 f3 g1 g2 g3 : Nat → Int32) : Prop := Sz S zs rw mk ∧ n1 = 2 ^ S ∧ n2 = 2 ^ S ∧ n3 = 2 ^ S ∧ Ag (2 ^ S) f1 g1 ∧ Ag (2 ^ S) f2 g2 ∧ Ag (2 ^ S) f3 g3 ∧ C2 (2 ^ S) f1 ∧ C2 (2 ^ S) f2 ∧ C2 (2 ^ S) f3
theorem step_5 {S w : Nat} {zs rw mk ps u1 u2 u3 u4 ud mwt : Int32} {n1 n2 n3 : Nat} {f1 f2 f3 g1 g2 g3 wf1 wf2 wf3 gp gh gs : Nat → Int32} (hr : R5 S zs rw mk n1 n2 n3 f1 f2 f3 g1 g2 g3) (hq : Qu w ud mwt wf1 wf2 wf3 gp gh gs) (pl : Int32) (tk : Bool) : ∃ (w' : Nat) (c : Bool) (u4' ps' ud' : Int32) (p1 p2 p3 q1 q2 q3 f1' f2' f3' g1' g2' g3' : Nat → Int32), of_PK_update_Chooser ps u1 u2 u3 u4 ud wf1 wf2 wf3 zs mk n1 f1 n2 f2 n3 f3 pl tk = some (c == tk, u3 + bI tk, u4', ps', u1 + 1, u2 + bI (!(c == tk)), ud', p1, p2, p3, f1', f2', f3') ∧ of_Md_update_5 zs rw ps u1 u2 u3 u4 mwt g1 g2 g3 gp gh gs pl tk = some (c == tk, 0, u4', ud', ps', u1 + 1, u2 + bI (!(c == tk)), u3 + bI tk, g1', g2', g3', q1, q2, q3) ∧ Qu w' ud' ud' p1 p2 p3 q1 q2 q3 ∧ R5 S zs rw mk n1 n2 n3 f1' f2' f3' g1' g2' g3' := by
  obtain ⟨hz, h1, h2, h3, a1, a2, a3, c1, c2, c3⟩ := hr
  obtain ⟨o, ho⟩ := od_ex w gp pl
  obtain ⟨g1', g2', g3', l1, l2⟩ := learn_5 hz h1 h2 h3 a1 a2 a3 c1 c2 c3 pl (if o = w then ps else gh o) tk
  have s := says_5 hz h1 h2 h3 a1 a2 a3 pl (if o = w then ps else gh o)
  obtain ⟨w', u4', ps', ud', p1, p2, p3, q1, q2, q3, e1, e2, e3⟩ := upd_5 (u1 := u1) (u2 := u2) (u3 := u3) (u4 := u4) (ps := ps) hq ho rfl rfl s l1
  exact ⟨w', _, u4', ps', ud', p1, p2, p3, q1, q2, q3, _, _, _, g1', g2', g3', e1, e2, e3, hz, h1, h2, h3, l2⟩
def R6 (S : Nat) (zs rw mk : Int32) (n0 n1 n2 n3 : Nat) (f0 f1 f2 f3 g0 g1 g2 g3 : Nat → Int32) : Prop := Sz S zs rw mk ∧ n0 = 2 ^ S ∧ n1 = 3 * 2 ^ S ∧ n2 = 3 * 2 ^ S ∧ n3 = 3 * 2 ^ S ∧ Ag (2 ^ S) f0 g0 ∧ C2 (2 ^ S) f0 ∧ A3 S f1 g1 ∧ A3 S f2 g2 ∧ A3 S f3 g3 ∧ U3 S f3 ∧ S3 S f2
theorem step_6 {S w : Nat} {zs rw mk ps u1 u2 u3 u4 ud mwt : Int32} {n0 n1 n2 n3 : Nat} {f0 f1 f2 f3 g0 g1 g2 g3 wf1 wf2 wf3 gp gh gs : Nat → Int32} (hr : R6 S zs rw mk n0 n1 n2 n3 f0 f1 f2 f3 g0 g1 g2 g3) (hq : Qu w ud mwt wf1 wf2 wf3 gp gh gs) (pl : Int32) (tk : Bool) : ∃ (w' : Nat) (c : Bool) (u4' ps' ud' : Int32) (p1 p2 p3 q1 q2 q3 f0' f1' f2' f3' g0' g1' g2' g3' : Nat → Int32), of_PK_update_Tagged ps u1 u2 u3 u4 ud wf1 wf2 wf3 zs rw mk n0 f0 n1 f1 n2 f2 n3 f3 pl tk = some (c == tk, u3 + bI tk, u4', ps', u1 + 1, u2 + bI (!(c == tk)), ud', p1, p2, p3, f0', f1', f2', f3') ∧ of_Md_update_6 zs rw ps u1 u2 u3 u4 mwt g0 g1 g2 g3 gp gh gs pl tk = some (c == tk, 0, u4', ud', ps', u1 + 1, u2 + bI (!(c == tk)), u3 + bI tk, g0', g1', g2', g3', q1, q2, q3) ∧ Qu w' ud' ud' p1 p2 p3 q1 q2 q3 ∧ R6 S zs rw mk n0 n1 n2 n3 f0' f1' f2' f3' g0' g1' g2' g3' := by
  obtain ⟨hz, h0, h1, h2, h3, a0, c0, a1, a2, a3, u3x, s3x⟩ := hr
  obtain ⟨o, ho⟩ := od_ex w gp pl
  obtain ⟨f0', f1', f2', f3', g0', g1', g2', g3', l0, l1, l2⟩ := learn_6 hz h0 h1 h2 h3 a0 c0 a1 a2 a3 u3x s3x pl (if o = w then ps else gh o) tk
  obtain ⟨c, s1, s2⟩ := says_6 hz h0 h1 h2 a0 a1 a2 pl (if o = w then ps else gh o)
  obtain ⟨w', u4', ps', ud', p1, p2, p3, q1, q2, q3, e1, e2, e3⟩ := upd_6 (u1 := u1) (u2 := u2) (u3 := u3) (u4 := u4) (ps := ps) hq ho rfl s1 s2 l0 l1
  exact ⟨w', _, u4', ps', ud', p1, p2, p3, q1, q2, q3, f0', f1', f2', f3', g0', g1', g2', g3', e1, e2, e3, hz, h0, h1, h2, h3, l2⟩
def R8 (S : Nat) (zs rw mk : Int32) (n0 n1 n2 n3 n4 : Nat) (f0 f1 f2 f3 f4 g0 g1 g2 g3 g4 : Nat → Int32) : Prop := Sz S zs rw mk ∧ n0 = 2 ^ S ∧ n1 = 2 ^ S ∧ n2 = 2 ^ S ∧ n3 = 2 ^ S ∧ n4 = 2 ^ S ∧ Ag (2 ^ S) f0 g0 ∧ Ag (2 ^ S) f1 g1 ∧ Ag (2 ^ S) f2 g2 ∧ Ag (2 ^ S) f3 g3 ∧ Ag (2 ^ S) f4 g4 ∧ C2 (2 ^ S) f0 ∧ C2 (2 ^ S) f4
theorem step_8 {S w : Nat} {zs rw mk ps u1 u2 u3 u4 ud mwt : Int32} {n0 n1 n2 n3 n4 : Nat} {f0 f1 f2 f3 f4 g0 g1 g2 g3 g4 wf1 wf2 wf3 gp gh gs : Nat → Int32} (hr : R8 S zs rw mk n0 n1 n2 n3 n4 f0 f1 f2 f3 f4 g0 g1 g2 g3 g4) (hq : Qu w ud mwt wf1 wf2 wf3 gp gh gs) (pl : Int32) (tk : Bool) : ∃ (w' : Nat) (c : Bool) (u4' ps' ud' : Int32) (p1 p2 p3 q1 q2 q3 f0' f1' f2' f3' f4' g0' g1' g2' g3' g4' : Nat → Int32), of_PK_update_Loops ps u1 u2 u3 u4 ud wf1 wf2 wf3 zs mk n0 f0 n1 f1 n2 f2 n3 f3 n4 f4 pl tk = some (c == tk, u3 + bI tk, u4', ps', u1 + 1, u2 + bI (!(c == tk)), ud', p1, p2, p3, f0', f1', f2', f3', f4') ∧ of_Md_update_8 zs rw ps u1 u2 u3 u4 mwt g0 g1 g2 g3 g4 gp gh gs pl tk = some (c == tk, 0, u4', ud', ps', u1 + 1, u2 + bI (!(c == tk)), u3 + bI tk, g0', g1', g2', g3', g4', q1, q2, q3) ∧ Qu w' ud' ud' p1 p2 p3 q1 q2 q3 ∧ R8 S zs rw mk n0 n1 n2 n3 n4 f0' f1' f2' f3' f4' g0' g1' g2' g3' g4' := by
  obtain ⟨hz, h0, h1, h2, h3, h4, a0, a1, a2, a3, a4, c0, c4⟩ := hr
  obtain ⟨o, ho⟩ := od_ex w gp pl
  obtain ⟨f0', f1', f2', f3', f4', g0', g1', g2', g3', g4', l0, l1, l2⟩ := learn_8 hz h0 h1 h2 h3 h4 a0 a1 a2 a3 a4 c0 c4 pl (if o = w then ps else gh o) tk
  have s := says_8 hz h0 h1 h2 h3 h4 a0 a1 a2 a3 a4 pl (if o = w then ps else gh o)
  obtain ⟨w', u4', ps', ud', p1, p2, p3, q1, q2, q3, e1, e2, e3⟩ := upd_8 (u1 := u1) (u2 := u2) (u3 := u3) (u4 := u4) (ps := ps) hq ho rfl rfl s l1
  rw [l0] at e1
  exact ⟨w', _, u4', ps', ud', p1, p2, p3, q1, q2, q3, f0', f1', f2', f3', f4', g0', g1', g2', g3', g4', e1, e2, e3, hz, h0, h1, h2, h3, h4, l2⟩
