/-! THE START: every kind's relation holds after the two constructors -/
theorem sz0 {S : Nat} (h : 1 ≤ S ∧ S ≤ 10) : Sz S (nI S) (nI (2 ^ S)) (nI (2 ^ S) - 1) := ⟨h, rfl, rfl, rfl⟩
theorem ag0 {S : Nat} (h : 1 ≤ S ∧ S ≤ 10) {x : Int32} {r : Nat → Int32} (f : Fl 1024 x r) : Ag (2 ^ S) (fun _ => x) r := by
  have hp := Sz_pow h
  exact fun j hj => (f j (by omega)).symm
theorem agr (n : Nat) (f : Nat → Int32) : Ag n f f := fun _ _ => rfl
theorem c20 (n : Nat) : C2 n (fun _ => 0) := fun _ _ => (by decide : (0 : Int32) ≤ 0 ∧ (0 : Int32) ≤ 3)
theorem c21 (n : Nat) : C2 n (fun _ => 1) := fun _ _ => (by decide : (0 : Int32) ≤ 1 ∧ (1 : Int32) ≤ 3)
theorem r1_0 {S : Nat} (h : 1 ≤ S ∧ S ≤ 10) : R1 S (nI S) (nI (2 ^ S)) (nI (2 ^ S) - 1) (2 ^ S) (fun _ => 0) (fun _ => 0) := ⟨sz0 h, rfl, agr _ _⟩
theorem r2_0 {S : Nat} (h : 1 ≤ S ∧ S ≤ 10) {r : Nat → Int32} (f : Fl 1024 1 r) : R2 S (nI S) (nI (2 ^ S)) (nI (2 ^ S) - 1) (2 ^ S) (fun _ => 1) r := ⟨sz0 h, rfl, ag0 h f, c21 _⟩
theorem r4_0 {S : Nat} (h : 1 ≤ S ∧ S ≤ 10) {r : Nat → Int32} (f : Fl 1024 1 r) : R4 S (nI S) (nI (2 ^ S)) (nI (2 ^ S) - 1) (2 ^ S) (2 ^ S) (fun _ => 0) (fun _ => 1) (fun _ => 0) r := by
  have hp := Sz_pow h
  exact ⟨sz0 h, rfl, rfl, agr _ _, ag0 h f, fun j _ => ⟨0, by omega, rfl⟩, c21 _⟩
theorem r5_0 {S : Nat} (h : 1 ≤ S ∧ S ≤ 10) {r s t : Nat → Int32} (f : Fl 1024 1 r) (g : Fl 1024 1 s) (k : Fl 1024 1 t) : R5 S (nI S) (nI (2 ^ S)) (nI (2 ^ S) - 1) (2 ^ S) (2 ^ S) (2 ^ S) (fun _ => 1) (fun _ => 1) (fun _ => 1) r s t := ⟨sz0 h, rfl, rfl, rfl, ag0 h f, ag0 h g, ag0 h k, c21 _, c21 _, c21 _⟩
theorem r6_0 {S : Nat} (h : 1 ≤ S ∧ S ≤ 10) {r t : Nat → Int32} (f : Fl 1024 1 r) (g : Fl 3072 (-1) t) : R6 S (nI S) (nI (2 ^ S)) (nI (2 ^ S) - 1) (2 ^ S) (3 * 2 ^ S) (3 * 2 ^ S) (3 * 2 ^ S) (fun _ => 1) (fun _ => -1) (fun _ => 0) (fun _ => 0) r t (fun _ => 0) (fun _ => 0) := by
  have hp := Sz_pow h
  exact ⟨sz0 h, rfl, rfl, rfl, rfl, ag0 h f, c21 _, fun u hu q hq => (g _ (by omega)).symm, fun _ _ _ _ => rfl, fun _ _ _ _ => rfl, fun _ _ _ _ => (by decide : (0 : Int32) ≤ 0 ∧ (0 : Int32) ≤ 3), fun _ _ _ _ => (by decide : (-4 : Int32) ≤ 0 ∧ (0 : Int32) ≤ 3)⟩
theorem r7_0 {S : Nat} (h : 1 ≤ S ∧ S ≤ 10) : R7 S (nI S) (nI (2 ^ S)) (nI (2 ^ S) - 1) (9 * 2 ^ S) (fun _ => 0) (fun _ => 0) := ⟨sz0 h, rfl, agr _ _, fun _ _ => (by decide : (-64) ≤ (0 : Int32).toInt ∧ (0 : Int32).toInt ≤ 63)⟩
theorem r8_0 {S : Nat} (h : 1 ≤ S ∧ S ≤ 10) {r t : Nat → Int32} (f : Fl 1024 1 r) (g : Fl 1024 (-1) t) : R8 S (nI S) (nI (2 ^ S)) (nI (2 ^ S) - 1) (2 ^ S) (2 ^ S) (2 ^ S) (2 ^ S) (2 ^ S) (fun _ => 1) (fun _ => -1) (fun _ => 0) (fun _ => 0) (fun _ => 0) r t (fun _ => 0) (fun _ => 0) (fun _ => 0) := ⟨sz0 h, rfl, rfl, rfl, rfl, rfl, ag0 h f, ag0 h g, agr _ _, agr _ _, agr _ _, c21 _, c20 _⟩
