/-! STEPS: one relation per kind, kept by update -/
def R2 (S : Nat) (zs rw mk : Int32) (n1 : Nat) (f1 g : Nat → Int32) : Prop := Sz S zs rw mk ∧ n1 = 2 ^ S ∧ Ag (2 ^ S) f1 g ∧ C2 (2 ^ S) f1
theorem step_2 {S w : Nat} {zs rw mk ps u1 u2 u3 u4 ud mwt : Int32} {n1 : Nat} {f1 g wf1 wf2 wf3 gp gh gs : Nat → Int32} (hr : R2 S zs rw mk n1 f1 g) (hq : Qu w ud mwt wf1 wf2 wf3 gp gh gs) (pl : Int32) (tk : Bool) : ∃ (w' : Nat) (c : Bool) (u4' ps' ud' : Int32) (p1 p2 p3 q1 q2 q3 f' g' : Nat → Int32), of_PK_update_Counters ps u1 u2 u3 u4 ud wf1 wf2 wf3 zs mk false n1 f1 pl tk = some (c == tk, u3 + bI tk, u4', ps', u1 + 1, u2 + bI (!(c == tk)), ud', p1, p2, p3, f') ∧ of_Md_update_2 zs rw ps u1 u2 u3 u4 mwt g gp gh gs pl tk = some (c == tk, 0, u4', ud', ps', u1 + 1, u2 + bI (!(c == tk)), u3 + bI tk, g', q1, q2, q3) ∧ Qu w' ud' ud' p1 p2 p3 q1 q2 q3 ∧ R2 S zs rw mk n1 f' g' := by
  obtain ⟨hz, hn, ha, hc⟩ := hr
  obtain ⟨o, ho⟩ := od_ex w gp pl
  obtain ⟨g', l1, l2, l3⟩ := learn_2 hz hn ha hc pl (if o = w then ps else gh o) tk
  obtain ⟨w', u4', ps', ud', p1, p2, p3, q1, q2, q3, e1, e2, e3⟩ := upd_2 (u1 := u1) (u2 := u2) (u3 := u3) (u4 := u4) hq ho rfl rfl (says_2 hz hn ha pl (if o = w then ps else gh o)) l1
  exact ⟨w', _, u4', ps', ud', p1, p2, p3, q1, q2, q3, _, g', e1, e2, e3, hz, hn, l2, l3⟩
def R1 (S : Nat) (zs rw mk : Int32) (n1 : Nat) (f1 g : Nat → Int32) : Prop := Sz S zs rw mk ∧ n1 = 2 ^ S ∧ Ag (2 ^ S) f1 g
theorem step_1 {S w : Nat} {zs rw mk ps u1 u2 u3 u4 ud mwt : Int32} {n1 : Nat} {f1 g wf1 wf2 wf3 gp gh gs : Nat → Int32} (hr : R1 S zs rw mk n1 f1 g) (hq : Qu w ud mwt wf1 wf2 wf3 gp gh gs) (pl : Int32) (tk : Bool) : ∃ (w' : Nat) (c : Bool) (u4' ps' ud' : Int32) (p1 p2 p3 q1 q2 q3 f' g' : Nat → Int32), of_PK_update_Last ps u1 u2 u3 u4 ud wf1 wf2 wf3 zs mk n1 f1 pl tk = some (c == tk, u3 + bI tk, u4', ps', u1 + 1, u2 + bI (!(c == tk)), ud', p1, p2, p3, f') ∧ of_Md_update_1 zs rw ps u1 u2 u3 u4 mwt g gp gh gs pl tk = some (c == tk, 0, u4', ud', ps', u1 + 1, u2 + bI (!(c == tk)), u3 + bI tk, g', q1, q2, q3) ∧ Qu w' ud' ud' p1 p2 p3 q1 q2 q3 ∧ R1 S zs rw mk n1 f' g' := by
  obtain ⟨hz, hn, ha⟩ := hr
  obtain ⟨o, ho⟩ := od_ex w gp pl
  obtain ⟨g', l1, l2⟩ := learn_1 hz hn ha pl tk
  obtain ⟨w', u4', ps', ud', p1, p2, p3, q1, q2, q3, e1, e2, e3⟩ := upd_1 (u1 := u1) (u2 := u2) (u3 := u3) (u4 := u4) (ps := ps) hq ho rfl rfl (says_1 hz hn ha pl) l1
  exact ⟨w', _, u4', ps', ud', p1, p2, p3, q1, q2, q3, _, g', e1, e2, e3, hz, hn, l2⟩
theorem step_3 {S w : Nat} {zs rw mk ps u1 u2 u3 u4 ud mwt : Int32} {n1 : Nat} {f1 g wf1 wf2 wf3 gp gh gs : Nat → Int32} (hr : R2 S zs rw mk n1 f1 g) (hq : Qu w ud mwt wf1 wf2 wf3 gp gh gs) (pl : Int32) (tk : Bool) : ∃ (w' : Nat) (c : Bool) (u4' ps' ud' : Int32) (p1 p2 p3 q1 q2 q3 f' g' : Nat → Int32), of_PK_update_Counters ps u1 u2 u3 u4 ud wf1 wf2 wf3 zs mk true n1 f1 pl tk = some (c == tk, u3 + bI tk, u4', ps', u1 + 1, u2 + bI (!(c == tk)), ud', p1, p2, p3, f') ∧ of_Md_update_3 rw ps u1 u2 u3 u4 mwt g gp gh gs pl tk = some (c == tk, 0, u4', ud', ps', u1 + 1, u2 + bI (!(c == tk)), u3 + bI tk, g', q1, q2, q3) ∧ Qu w' ud' ud' p1 p2 p3 q1 q2 q3 ∧ R2 S zs rw mk n1 f' g' := by
  obtain ⟨hz, hn, ha, hc⟩ := hr
  obtain ⟨o, ho⟩ := od_ex w gp pl
  obtain ⟨g', l1, l2, l3⟩ := learn_3 hz hn ha hc pl (if o = w then ps else gh o) tk
  obtain ⟨w', u4', ps', ud', p1, p2, p3, q1, q2, q3, e1, e2, e3⟩ := upd_3 (u1 := u1) (u2 := u2) (u3 := u3) (u4 := u4) hq ho rfl rfl (says_3 hz hn ha pl (if o = w then ps else gh o)) l1
  exact ⟨w', _, u4', ps', ud', p1, p2, p3, q1, q2, q3, _, g', e1, e2, e3, hz, hn, l2, l3⟩
def R7 (S : Nat) (zs rw mk : Int32) (n1 : Nat) (f1 g : Nat → Int32) : Prop := Sz S zs rw mk ∧ n1 = 9 * 2 ^ S ∧ Ag (9 * 2 ^ S) f1 g ∧ Wb (9 * 2 ^ S) f1
theorem step_7 {S w : Nat} {zs rw mk ps u1 u2 u3 u4 ud mwt : Int32} {n1 : Nat} {f1 g wf1 wf2 wf3 gp gh gs : Nat → Int32} (hr : R7 S zs rw mk n1 f1 g) (hq : Qu w ud mwt wf1 wf2 wf3 gp gh gs) (pl : Int32) (tk : Bool) : ∃ (w' : Nat) (c : Bool) (u4' ps' ud' : Int32) (p1 p2 p3 q1 q2 q3 f' g' : Nat → Int32), of_PK_update_Sums ps u1 u2 u3 u4 ud wf1 wf2 wf3 zs mk n1 f1 pl tk = some (c == tk, u3 + bI tk, u4', ps', u1 + 1, u2 + bI (!(c == tk)), ud', p1, p2, p3, f') ∧ of_Md_update_7 zs rw ps u1 u2 u3 u4 mwt g gp gh gs pl tk = some (c == tk, 0, u4', ud', ps', u1 + 1, u2 + bI (!(c == tk)), u3 + bI tk, g', q1, q2, q3) ∧ Qu w' ud' ud' p1 p2 p3 q1 q2 q3 ∧ R7 S zs rw mk n1 f' g' := by
  obtain ⟨hz, hn, ha, hc⟩ := hr
  obtain ⟨o, ho⟩ := od_ex w gp pl
  obtain ⟨f', g', l0, l1, l2, l3⟩ := learn_7 hz hn ha hc pl (if o = w then ps else gh o) tk
  obtain ⟨c, s1, s2⟩ := says_7 hz hn ha pl (if o = w then ps else gh o)
  obtain ⟨w', u4', ps', ud', p1, p2, p3, q1, q2, q3, e1, e2, e3⟩ := upd_7 (u1 := u1) (u2 := u2) (u3 := u3) (u4 := u4) hq ho rfl s1 s2 l0 l1
  exact ⟨w', c, u4', ps', ud', p1, p2, p3, q1, q2, q3, f', g', e1, e2, e3, hz, hn, l2, l3⟩
