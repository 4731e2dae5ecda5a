theorem ii_c {x lo hi : Int32} (h1 : ¬ x < lo) (h2 : x ≤ hi) : lo ≤ x ∧ x ≤ hi := by rw [i3_lt] at h1; rw [i3_le] at h2; rw [i3_le, i3_le]; omega
theorem alt_eq {P : Prop} {a b x y : Int32} (h1 : (x = a ∧ P) ∨ (x = b ∧ ¬ P)) (h2 : (y = a ∧ P) ∨ (y = b ∧ ¬ P)) : x = y := by
  rcases h1 with ⟨e1, p1⟩ | ⟨e1, p1⟩ <;> rcases h2 with ⟨e2, p2⟩ | ⟨e2, p2⟩
  · rw [e1, e2]
  · exact absurd p1 p2
  · exact absurd p2 p1
  · rw [e1, e2]
theorem sw_out19 {x : Int32} (h0 : ¬ x = 0) (h1 : ¬ x = 1) (h2 : ¬ x = 2) (h3 : ¬ x = 3) (h4 : ¬ x = 4) (h5 : ¬ x = 5) (h6 : ¬ x = 6) (h7 : ¬ x = 7) (h8 : ¬ x = 8) (h9 : ¬ x = 9) (h10 : ¬ x = 10) (h11 : ¬ x = 11) (h12 : ¬ x = 12) (h13 : ¬ x = 13) (h14 : ¬ x = 14) (h15 : ¬ x = 15) (h16 : ¬ x = 16) (h17 : ¬ x = 17) (h18 : ¬ x = 18) : x.toInt < 0 ∨ 18 < x.toInt := by
  have g0 : ¬ x.toInt = 0 := i3_ne h0 rfl
  have g1 : ¬ x.toInt = 1 := i3_ne h1 rfl
  have g2 : ¬ x.toInt = 2 := i3_ne h2 rfl
  have g3 : ¬ x.toInt = 3 := i3_ne h3 rfl
  have g4 : ¬ x.toInt = 4 := i3_ne h4 rfl
  have g5 : ¬ x.toInt = 5 := i3_ne h5 rfl
  have g6 : ¬ x.toInt = 6 := i3_ne h6 rfl
  have g7 : ¬ x.toInt = 7 := i3_ne h7 rfl
  have g8 : ¬ x.toInt = 8 := i3_ne h8 rfl
  have g9 : ¬ x.toInt = 9 := i3_ne h9 rfl
  have g10 : ¬ x.toInt = 10 := i3_ne h10 rfl
  have g11 : ¬ x.toInt = 11 := i3_ne h11 rfl
  have g12 : ¬ x.toInt = 12 := i3_ne h12 rfl
  have g13 : ¬ x.toInt = 13 := i3_ne h13 rfl
  have g14 : ¬ x.toInt = 14 := i3_ne h14 rfl
  have g15 : ¬ x.toInt = 15 := i3_ne h15 rfl
  have g16 : ¬ x.toInt = 16 := i3_ne h16 rfl
  have g17 : ¬ x.toInt = 17 := i3_ne h17 rfl
  have g18 : ¬ x.toInt = 18 := i3_ne h18 rfl
  omega
theorem lt7 : ∀ L : Nat, L < 7 → Int32.ofNat L - 7 < 0 := by decide +kernel
