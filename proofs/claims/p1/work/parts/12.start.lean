set_option maxHeartbeats 8000000 in
set_option maxRecDepth 100000 in
theorem whole_start {p : Program} {e : Env} {s : State} {m : MethodId} {below : List Frame} {meth : Method} {c : Code} (l : Launch) {b L : Nat} {xs : Nat → Int32} (hL : L ≤ 7) (C0 : lw_At p s m meth c b L xs) : W p l e room_1 s m #[Value.ref b] below meth c s.heap [] 0 0 (lw_Z below #[Value.ref b] s) (entryFrame m ([Value.ref b] : List Value).toArray 4) := by
  obtain ⟨hx, hb, hr, hml, hown, hts0, hX, hbl, hlocks, hgv⟩ := id C0
  have hown : s.vm.findClass RL = some m.cls := hown
  have hts : ∀ w ∈ wsL_law, w.before #[Value.ref b] s = true := fun w h => hts0 w (wsL_law_in w h)
  obtain ⟨c0, iS0, hKn0⟩ := u_known (C := RX0) (T := TX0) (N := 9) (n := 9) hts inlX0 (hts (.instantiable RX0 9) (by decide +kernel))
  obtain ⟨c1, iS1, hKn1⟩ := u_known (C := RX1) (T := TX1) (N := 12) (n := 12) hts inlX1 (hts (.instantiable RX1 12) (by decide +kernel))
  obtain ⟨c2, iS2, hKn2⟩ := u_known (C := RX2) (T := TX2) (N := 7) (n := 7) hts inlX2 (hts (.instantiable RX2 7) (by decide +kernel))
  obtain ⟨c3, iS3, hKn3⟩ := u_known (C := RX3) (T := TX3) (N := 4) (n := 4) hts inlX3 (hts (.instantiable RX3 4) (by decide +kernel))
  obtain ⟨c4, iS4, hKn4⟩ := u_known (C := RX4) (T := TX4) (N := 8) (n := 8) hts inlX4 (hts (.instantiable RX4 8) (by decide +kernel))
  obtain ⟨c5, iS5, hKn5⟩ := u_known (C := RX5) (T := TX5) (N := 10) (n := 10) hts inlX5 (hts (.instantiable RX5 10) (by decide +kernel))
  obtain ⟨c6, iS6, hKn6⟩ := u_known (C := RX6) (T := TX6) (N := 26) (n := 26) hts inlX6 (hts (.instantiable RX6 26) (by decide +kernel))
  obtain ⟨D, hKc⟩ : ∃ D : va_G, ∀ (k : Nat) (q : vw_C), vwCl[k]? = some q → u_Kn s q.1 q.2.1 q.2.2 (D.1 k) (D.2 k) := by
    refine ⟨(fun k => if k = 0 then c0 else if k = 1 then c1 else if k = 2 then c2 else if k = 3 then c3 else if k = 4 then c4 else if k = 5 then c5 else c6, fun k => if k = 0 then iS0 else if k = 1 then iS1 else if k = 2 then iS2 else if k = 3 then iS3 else if k = 4 then iS4 else if k = 5 then iS5 else iS6), ?_⟩
    intro k q hq
    match k, hq with
    | 0, hq => cases hq; exact hKn0
    | 1, hq => cases hq; exact hKn1
    | 2, hq => cases hq; exact hKn2
    | 3, hq => cases hq; exact hKn3
    | 4, hq => cases hq; exact hKn4
    | 5, hq => cases hq; exact hKn5
    | 6, hq => cases hq; exact hKn6
    | k + 7, hq => simp [vwCl] at hq
  obtain ⟨cI, kI, oI, fI1, fI2, fI3⟩ := Cond.arrayClass_spec (hts (.arrayClass .int) (by decide +kernel))
  obtain ⟨cZ, kZ, oZ, fZ1, fZ2, fZ3⟩ := Cond.arrayClass_spec (hts (.arrayClass .boolean) (by decide +kernel))
  have hov : (Cond.arrayOver (.array .int)).before #[Value.ref b] s = true := hts0 _ (by decide +kernel)
  obtain ⟨oR, cR, kR, fR0, fR1, fR2, fR3⟩ := Cond.arrayOver_specA hov
  have hK : kK D cI cZ cR s := by
    refine ⟨⟨hKc, fun k q h => ?_⟩, arrayOver_alikeB (Vm.Alike.refl s.vm) hov⟩
    match k, h with
    | 0, h => cases h; exact ⟨fun n z => ⟨fun k h => (by cases h), kI, fI2, oI, fI3⟩, fI1⟩
    | 1, h => cases h; exact ⟨fun n z => ⟨fun k h => (by cases h), kZ, fZ2, oZ, fZ3⟩, fZ1⟩
    | 2, h => cases h; exact ⟨fun n z => ⟨fun k h => (by cases h), kR, fR1, oR, fR2⟩, fR3⟩
    | k + 3, h => simp at h
  have hN : va_Nw nestW s := va_Nw.of rfl (hts0 nestW (by decide +kernel))
  obtain ⟨A, hAA⟩ : ∃ A : Nat → Prop, A = fun q : Nat => s.heap.size ≤ q := ⟨_, rfl⟩
  have hA : ∀ q : Nat, s.heap.size ≤ q → A q := fun q h => by rw [hAA]; exact h
  have hAe : ∀ q : Nat, A q → s.heap.size ≤ q := fun q h => by rw [hAA] at h; exact h
  have hbA : ¬ A b := fun h => absurd (hAe b h) (Nat.not_le.mpr hbl)
  have hS : va_S A s.heap s.heap [] := va_S.rf
  have hP : va_P D vwCl [] s.heap := fun k q h => by simp at h
  have hD : va_D A [] := ⟨fun i j p q h => by simp at h, fun k q h => by simp at h⟩
  have hl := lv_entry ([.ref b]) (n := 4) (Nat.le_of_ble_eq_true rfl)
  rw [lg_entry_eq]
  generalize (lg_sl ([.ref b]) ++ List.replicate (4 - (lg_sl ([.ref b])).length) Slot.unset).toArray = ls at hl ⊢
  have hl : lv_has ls 4 [(0, .ref b)] := hl
  have kw_0 := hts (.classLink RL 7 RX5) (by decide +kernel)
  have kw_1 := hts (.instantiable RX5 10) (by decide +kernel)
  have kw_2 := hts (.initialized RX5) (by decide +kernel)
  have iX5 := inlX5
  have kw_4 := hts (.methodLink RL 9 yX5_init) (by decide +kernel)
  have kw_5 := hts (.instanceMethod yX5_init) (by decide +kernel)
  have kw_6 := hts (.classLink RL 10 RX6) (by decide +kernel)
  have kw_7 := hts (.instantiable RX6 26) (by decide +kernel)
  have kw_8 := hts (.initialized RX6) (by decide +kernel)
  have iX6 := inlX6
  have kw_10 := hts (.methodLink RL 12 yX6_init) (by decide +kernel)
  have kw_11 := hts (.instanceMethod yX6_init) (by decide +kernel)
  refine va_new (ci := 5) (fs := [.null, .null, .null, .null, .null, .null, .null, .int 0, .int 0, .int 0]) (C := RX5) (T := TX5) (N := 10) hx hb hts iX5 tyX5 tyX5_ok hown kw_0 kw_1 kw_2 hK.1 hP hD hS hA rfl (by decide) (Nat.le_of_ble_eq_true rfl) (Nat.le_of_ble_eq_true rfl) dL_law_0 (fun q_1 H hP hD hS => ?_)
  have hP : va_P D vwCl [(q_1, .inr (5, [.null, .null, .null, .null, .null, .null, .null, .int 0, .int 0, .int 0]))] H := hP
  have hD : va_D A [(q_1, .inr (5, [.null, .null, .null, .null, .null, .null, .null, .int 0, .int 0, .int 0]))] := hD
  refine W.widen (k := 1) (n := 10) (Nat.le_of_ble_eq_true rfl) (Nat.le_of_ble_eq_true rfl) ?_
  refine lv_dup hx hb dL_law_3 rfl ?_
  refine cl_v (wr := []) (va_runI (As := []) (rest := [.ref q_1]) ⟨hx, hb, hml, hown, hts⟩ (c_deskInit l D cI cZ cR q_1 H.size) (cwI 0 hts gL_law_X5_init rfl rfl rfl kw_2 kw_4 kw_5 rfl (by decide +kernel) ⟨Nat.le_of_ble_eq_true rfl, Nat.le_of_ble_eq_true rfl⟩) (pN hN hK hP hD [0] rfl (by decide)) rfl rfl hl.1 rfl (lv_room (Nat.le_of_ble_eq_true rfl)) dL_law_4 ⟨Nat.le_of_ble_eq_true rfl, Nat.le_of_ble_eq_true rfl⟩) hP hD hS hA [0] [] rfl rfl (by decide) (by decide) (fun u_4 H locs hw_4 hP hD hS => ?_)
  have hP : va_P D vwCl [(q_1, .inr (5, [.ref (u_4 0), .ref (u_4 1), .ref (u_4 2), .ref (u_4 3), .ref (u_4 4), .ref (u_4 5), .ref (u_4 6), .int 0, .int 0, .int 0])), ((u_4 0), .inr (1, [.ref (u_4 10), .ref (u_4 11), .ref (u_4 12), .ref (u_4 13), .ref (u_4 14), .ref (u_4 15), .ref (u_4 16), .ref (u_4 17), .ref (u_4 18), .ref (u_4 19), .int 0, .int 0])), ((u_4 1), .inr (4, [.ref (u_4 0), .ref (u_4 20), .ref (u_4 21), .ref (u_4 22), .ref (u_4 23), .ref (u_4 24), .ref (u_4 25), .int 0])), ((u_4 3), .inr (0, [.ref (u_4 0), .ref (u_4 1), .ref (u_4 30), .ref (u_4 31), .ref (u_4 32), .ref (u_4 33), .int 0, .long (-1), .int 0])), ((u_4 4), .inr (3, [.ref (u_4 0), .ref (u_4 40), .ref (u_4 41), .ref (u_4 42)])), ((u_4 10), .inl (cI, 60, .inl (fun _ => 0))), ((u_4 11), .inl (cI, 60, .inl (fun _ => 0))), ((u_4 12), .inl (cI, 60, .inl (fun _ => 0))), ((u_4 13), .inl (cZ, 60, .inl (fun _ => 0))), ((u_4 19), .inl (cZ, 16, .inl (fun _ => 0))), ((u_4 33), .inl (cR, 11, .inr (.inr (.inr (.inr (fun i => if i < 11 then some ((u_4 33) + 1 + i) else none))))))] H := hP
  have hD : va_D A [(q_1, .inr (5, [.ref (u_4 0), .ref (u_4 1), .ref (u_4 2), .ref (u_4 3), .ref (u_4 4), .ref (u_4 5), .ref (u_4 6), .int 0, .int 0, .int 0])), ((u_4 0), .inr (1, [.ref (u_4 10), .ref (u_4 11), .ref (u_4 12), .ref (u_4 13), .ref (u_4 14), .ref (u_4 15), .ref (u_4 16), .ref (u_4 17), .ref (u_4 18), .ref (u_4 19), .int 0, .int 0])), ((u_4 1), .inr (4, [.ref (u_4 0), .ref (u_4 20), .ref (u_4 21), .ref (u_4 22), .ref (u_4 23), .ref (u_4 24), .ref (u_4 25), .int 0])), ((u_4 3), .inr (0, [.ref (u_4 0), .ref (u_4 1), .ref (u_4 30), .ref (u_4 31), .ref (u_4 32), .ref (u_4 33), .int 0, .long (-1), .int 0])), ((u_4 4), .inr (3, [.ref (u_4 0), .ref (u_4 40), .ref (u_4 41), .ref (u_4 42)])), ((u_4 10), .inl (cI, 60, .inl (fun _ => 0))), ((u_4 11), .inl (cI, 60, .inl (fun _ => 0))), ((u_4 12), .inl (cI, 60, .inl (fun _ => 0))), ((u_4 13), .inl (cZ, 60, .inl (fun _ => 0))), ((u_4 19), .inl (cZ, 16, .inl (fun _ => 0))), ((u_4 33), .inl (cR, 11, .inr (.inr (.inr (.inr (fun i => if i < 11 then some ((u_4 33) + 1 + i) else none))))))] := hD
  refine W.widen (k := 107) (n := 5968) (Nat.le_of_ble_eq_true rfl) (Nat.le_of_ble_eq_true rfl) ?_
  refine lv_astore_n (lv' := [(1, .ref q_1), (0, .ref b)]) hx hb dL_law_7 rfl hl (by decide) rfl (fun ls hl => ?_)
  refine va_new (ci := 6) (fs := [.int 0, .int 0, .int 0, .null, .null, .null, .null, .null, .null, .null, .null, .null, .null, .null, .null, .null, .null, .null, .null, .null, .null, .null, .null, .int 0, .null, .null]) (C := RX6) (T := TX6) (N := 26) hx hb hts iX6 tyX6 tyX6_ok hown kw_6 kw_7 kw_8 hK.1 hP hD hS hA rfl (by decide) (Nat.le_of_ble_eq_true rfl) (Nat.le_of_ble_eq_true rfl) dL_law_8 (fun q_2 H hP hD hS => ?_)
  have hP : va_P D vwCl [(q_1, .inr (5, [.ref (u_4 0), .ref (u_4 1), .ref (u_4 2), .ref (u_4 3), .ref (u_4 4), .ref (u_4 5), .ref (u_4 6), .int 0, .int 0, .int 0])), ((u_4 0), .inr (1, [.ref (u_4 10), .ref (u_4 11), .ref (u_4 12), .ref (u_4 13), .ref (u_4 14), .ref (u_4 15), .ref (u_4 16), .ref (u_4 17), .ref (u_4 18), .ref (u_4 19), .int 0, .int 0])), ((u_4 1), .inr (4, [.ref (u_4 0), .ref (u_4 20), .ref (u_4 21), .ref (u_4 22), .ref (u_4 23), .ref (u_4 24), .ref (u_4 25), .int 0])), ((u_4 3), .inr (0, [.ref (u_4 0), .ref (u_4 1), .ref (u_4 30), .ref (u_4 31), .ref (u_4 32), .ref (u_4 33), .int 0, .long (-1), .int 0])), ((u_4 4), .inr (3, [.ref (u_4 0), .ref (u_4 40), .ref (u_4 41), .ref (u_4 42)])), ((u_4 10), .inl (cI, 60, .inl (fun _ => 0))), ((u_4 11), .inl (cI, 60, .inl (fun _ => 0))), ((u_4 12), .inl (cI, 60, .inl (fun _ => 0))), ((u_4 13), .inl (cZ, 60, .inl (fun _ => 0))), ((u_4 19), .inl (cZ, 16, .inl (fun _ => 0))), ((u_4 33), .inl (cR, 11, .inr (.inr (.inr (.inr (fun i => if i < 11 then some ((u_4 33) + 1 + i) else none)))))), (q_2, .inr (6, [.int 0, .int 0, .int 0, .null, .null, .null, .null, .null, .null, .null, .null, .null, .null, .null, .null, .null, .null, .null, .null, .null, .null, .null, .null, .int 0, .null, .null]))] H := hP
  have hD : va_D A [(q_1, .inr (5, [.ref (u_4 0), .ref (u_4 1), .ref (u_4 2), .ref (u_4 3), .ref (u_4 4), .ref (u_4 5), .ref (u_4 6), .int 0, .int 0, .int 0])), ((u_4 0), .inr (1, [.ref (u_4 10), .ref (u_4 11), .ref (u_4 12), .ref (u_4 13), .ref (u_4 14), .ref (u_4 15), .ref (u_4 16), .ref (u_4 17), .ref (u_4 18), .ref (u_4 19), .int 0, .int 0])), ((u_4 1), .inr (4, [.ref (u_4 0), .ref (u_4 20), .ref (u_4 21), .ref (u_4 22), .ref (u_4 23), .ref (u_4 24), .ref (u_4 25), .int 0])), ((u_4 3), .inr (0, [.ref (u_4 0), .ref (u_4 1), .ref (u_4 30), .ref (u_4 31), .ref (u_4 32), .ref (u_4 33), .int 0, .long (-1), .int 0])), ((u_4 4), .inr (3, [.ref (u_4 0), .ref (u_4 40), .ref (u_4 41), .ref (u_4 42)])), ((u_4 10), .inl (cI, 60, .inl (fun _ => 0))), ((u_4 11), .inl (cI, 60, .inl (fun _ => 0))), ((u_4 12), .inl (cI, 60, .inl (fun _ => 0))), ((u_4 13), .inl (cZ, 60, .inl (fun _ => 0))), ((u_4 19), .inl (cZ, 16, .inl (fun _ => 0))), ((u_4 33), .inl (cR, 11, .inr (.inr (.inr (.inr (fun i => if i < 11 then some ((u_4 33) + 1 + i) else none)))))), (q_2, .inr (6, [.int 0, .int 0, .int 0, .null, .null, .null, .null, .null, .null, .null, .null, .null, .null, .null, .null, .null, .null, .null, .null, .null, .null, .null, .null, .int 0, .null, .null]))] := hD
  refine W.widen (k := 108) (n := 5994) (Nat.le_of_ble_eq_true rfl) (Nat.le_of_ble_eq_true rfl) ?_
  refine lv_dup hx hb dL_law_11 rfl ?_
  refine cl_v (wr := [(q_1, .inr (5, [.ref (u_4 0), .ref (u_4 1), .ref (u_4 2), .ref (u_4 3), .ref (u_4 4), .ref (u_4 5), .ref (u_4 6), .int 0, .int 0, .int 0])), ((u_4 0), .inr (1, [.ref (u_4 10), .ref (u_4 11), .ref (u_4 12), .ref (u_4 13), .ref (u_4 14), .ref (u_4 15), .ref (u_4 16), .ref (u_4 17), .ref (u_4 18), .ref (u_4 19), .int 0, .int 0])), ((u_4 1), .inr (4, [.ref (u_4 0), .ref (u_4 20), .ref (u_4 21), .ref (u_4 22), .ref (u_4 23), .ref (u_4 24), .ref (u_4 25), .int 0])), ((u_4 3), .inr (0, [.ref (u_4 0), .ref (u_4 1), .ref (u_4 30), .ref (u_4 31), .ref (u_4 32), .ref (u_4 33), .int 0, .long (-1), .int 0])), ((u_4 4), .inr (3, [.ref (u_4 0), .ref (u_4 40), .ref (u_4 41), .ref (u_4 42)])), ((u_4 10), .inl (cI, 60, .inl (fun _ => 0))), ((u_4 11), .inl (cI, 60, .inl (fun _ => 0))), ((u_4 12), .inl (cI, 60, .inl (fun _ => 0))), ((u_4 13), .inl (cZ, 60, .inl (fun _ => 0))), ((u_4 19), .inl (cZ, 16, .inl (fun _ => 0))), ((u_4 33), .inl (cR, 11, .inr (.inr (.inr (.inr (fun i => if i < 11 then some ((u_4 33) + 1 + i) else none))))))]) (va_runI (As := []) (rest := [.ref q_2]) ⟨hx, hb, hml, hown, hts⟩ (c_refInit l D cI cZ cR q_2 H.size) (cwI 0 hts gL_law_X6_init rfl rfl rfl kw_8 kw_10 kw_11 rfl (by decide +kernel) ⟨Nat.le_of_ble_eq_true rfl, Nat.le_of_ble_eq_true rfl⟩) (pS hK hP hD [11] rfl (by decide)) rfl rfl hl.1 rfl (lv_room (Nat.le_of_ble_eq_true rfl)) dL_law_12 ⟨Nat.le_of_ble_eq_true rfl, Nat.le_of_ble_eq_true rfl⟩) hP hD hS hA [11] [0, 1, 2, 3, 4, 5, 6, 7, 8, 9, 10] rfl rfl (by decide) (by decide) (fun u_12 H locs hw_12 hP hD hS => ?_)
  have hP : va_P D vwCl [(q_1, .inr (5, [.ref (u_4 0), .ref (u_4 1), .ref (u_4 2), .ref (u_4 3), .ref (u_4 4), .ref (u_4 5), .ref (u_4 6), .int 0, .int 0, .int 0])), ((u_4 0), .inr (1, [.ref (u_4 10), .ref (u_4 11), .ref (u_4 12), .ref (u_4 13), .ref (u_4 14), .ref (u_4 15), .ref (u_4 16), .ref (u_4 17), .ref (u_4 18), .ref (u_4 19), .int 0, .int 0])), ((u_4 1), .inr (4, [.ref (u_4 0), .ref (u_4 20), .ref (u_4 21), .ref (u_4 22), .ref (u_4 23), .ref (u_4 24), .ref (u_4 25), .int 0])), ((u_4 3), .inr (0, [.ref (u_4 0), .ref (u_4 1), .ref (u_4 30), .ref (u_4 31), .ref (u_4 32), .ref (u_4 33), .int 0, .long (-1), .int 0])), ((u_4 4), .inr (3, [.ref (u_4 0), .ref (u_4 40), .ref (u_4 41), .ref (u_4 42)])), ((u_4 10), .inl (cI, 60, .inl (fun _ => 0))), ((u_4 11), .inl (cI, 60, .inl (fun _ => 0))), ((u_4 12), .inl (cI, 60, .inl (fun _ => 0))), ((u_4 13), .inl (cZ, 60, .inl (fun _ => 0))), ((u_4 19), .inl (cZ, 16, .inl (fun _ => 0))), ((u_4 33), .inl (cR, 11, .inr (.inr (.inr (.inr (fun i => if i < 11 then some ((u_4 33) + 1 + i) else none)))))), (q_2, .inr (6, [.int 0, .int 0, .int 0, .ref (u_12 3), .ref (u_12 4), .ref (u_12 5), .ref (u_12 6), .ref (u_12 7), .ref (u_12 8), .ref (u_12 9), .ref (u_12 10), .ref (u_12 11), .ref (u_12 12), .ref (u_12 13), .ref (u_12 14), .ref (u_12 15), .ref (u_12 16), .ref (u_12 17), .ref (u_12 18), .ref (u_12 19), .ref (u_12 20), .ref (u_12 21), .ref (u_12 22), .int 0, .ref (u_12 24), .ref (u_12 25)])), ((u_12 3), .inl (cI, 60, .inl (fun _ => 0))), ((u_12 4), .inl (cI, 60, .inl (fun _ => 0))), ((u_12 5), .inl (cI, 60, .inl (fun _ => 0))), ((u_12 11), .inl (cZ, 16, .inl (fun _ => 0)))] H := hP
  have hD : va_D A [(q_1, .inr (5, [.ref (u_4 0), .ref (u_4 1), .ref (u_4 2), .ref (u_4 3), .ref (u_4 4), .ref (u_4 5), .ref (u_4 6), .int 0, .int 0, .int 0])), ((u_4 0), .inr (1, [.ref (u_4 10), .ref (u_4 11), .ref (u_4 12), .ref (u_4 13), .ref (u_4 14), .ref (u_4 15), .ref (u_4 16), .ref (u_4 17), .ref (u_4 18), .ref (u_4 19), .int 0, .int 0])), ((u_4 1), .inr (4, [.ref (u_4 0), .ref (u_4 20), .ref (u_4 21), .ref (u_4 22), .ref (u_4 23), .ref (u_4 24), .ref (u_4 25), .int 0])), ((u_4 3), .inr (0, [.ref (u_4 0), .ref (u_4 1), .ref (u_4 30), .ref (u_4 31), .ref (u_4 32), .ref (u_4 33), .int 0, .long (-1), .int 0])), ((u_4 4), .inr (3, [.ref (u_4 0), .ref (u_4 40), .ref (u_4 41), .ref (u_4 42)])), ((u_4 10), .inl (cI, 60, .inl (fun _ => 0))), ((u_4 11), .inl (cI, 60, .inl (fun _ => 0))), ((u_4 12), .inl (cI, 60, .inl (fun _ => 0))), ((u_4 13), .inl (cZ, 60, .inl (fun _ => 0))), ((u_4 19), .inl (cZ, 16, .inl (fun _ => 0))), ((u_4 33), .inl (cR, 11, .inr (.inr (.inr (.inr (fun i => if i < 11 then some ((u_4 33) + 1 + i) else none)))))), (q_2, .inr (6, [.int 0, .int 0, .int 0, .ref (u_12 3), .ref (u_12 4), .ref (u_12 5), .ref (u_12 6), .ref (u_12 7), .ref (u_12 8), .ref (u_12 9), .ref (u_12 10), .ref (u_12 11), .ref (u_12 12), .ref (u_12 13), .ref (u_12 14), .ref (u_12 15), .ref (u_12 16), .ref (u_12 17), .ref (u_12 18), .ref (u_12 19), .ref (u_12 20), .ref (u_12 21), .ref (u_12 22), .int 0, .ref (u_12 24), .ref (u_12 25)])), ((u_12 3), .inl (cI, 60, .inl (fun _ => 0))), ((u_12 4), .inl (cI, 60, .inl (fun _ => 0))), ((u_12 5), .inl (cI, 60, .inl (fun _ => 0))), ((u_12 11), .inl (cZ, 16, .inl (fun _ => 0)))] := hD
  refine W.widen (k := 130) (n := 14570) (Nat.le_of_ble_eq_true rfl) (Nat.le_of_ble_eq_true rfl) ?_
  refine lv_astore_n (lv' := [(2, .ref q_2), (1, .ref q_1), (0, .ref b)]) hx hb dL_law_15 rfl hl (by decide) rfl (fun ls hl => ?_)
  refine lv_iconst (v := 0) hx hb dL_law_16 (by decide) ?_
  refine lv_istore_n (lv' := [(3, .int 0), (2, .ref q_2), (1, .ref q_1), (0, .ref b)]) hx hb dL_law_17 rfl hl (by decide) rfl (fun ls hl => ?_)
  refine lv_iload_n hx hb dL_law_18 rfl (lv_at hl 0 rfl) ?_
  refine lv_aload_n hx hb dL_law_19 rfl (lv_at hl 3 rfl) ?_
  refine va_slen hx hb hX hbl hbA hS dL_law_20 ?_
  refine lv_bipush (v := 7) hx hb dL_law_21 (by decide) ?_
  refine lv_isub hx hb dL_law_23 ?_
  rcases Nat.lt_or_ge L 7 with h7 | h7
  · refine lv_icmp_gt (tgt := 723) hx hb dL_law_24 (by decide) (fun c_24 => ?_) (fun c_24 => absurd (lt7 L h7) c_24)
    refine lv_iconst (v := 1) hx hb dL_law_723 (by decide) ?_
    refine va_forget (fun q hq => hAe _ (hS.2.2 q hq)) ?_
    refine W.widen (k := 600000) (n := 7302250) (Nat.le_of_ble_eq_true rfl) (Nat.le_of_ble_eq_true rfl) ?_
    exact lw_ret hx hb hr hlocks dL_law_724
  · have e7 : L = 7 := Nat.le_antisymm hL h7
    subst e7
    refine lv_icmp_gt (tgt := 723) hx hb dL_law_24 (by decide) (fun c_24 => absurd c_24 (by decide)) (fun c_24 => ?_)
    refine lv_aload_n hx hb dL_law_27 rfl (lv_at hl 3 rfl) ?_
    refine lv_iload_n hx hb dL_law_28 rfl (lv_at hl 0 rfl) ?_
    refine va_sld hx hb hX hbl hbA hS (by unfold vp_in; decide) dL_law_29 ?_
    refine lv_bipush (v := 31) hx hb dL_law_30 (by decide) ?_
    refine lv_iand hx hb dL_law_32 ?_
    refine lv_topi (fun y ey => ?_)
    by_cases sw_0 : y = 0
    · refine lv_tableIn (tgt := 124) hx hb dL_law_33 (by rw [sw_0]; decide) (by rw [sw_0]; decide) (by rw [sw_0]; rfl) (by decide) ?_
      exact law_0 l hx hb hr hlocks hml hown hts hX hbl hbA hA hAe hK hP hD hS hl
    by_cases sw_1 : y = 1
    · refine lv_tableIn (tgt := 157) hx hb dL_law_33 (by rw [sw_1]; decide) (by rw [sw_1]; decide) (by rw [sw_1]; rfl) (by decide) ?_
      exact law_1 l hx hb hr hlocks hml hown hts hX hbl hbA hA hAe hK hP hD hS hl
    by_cases sw_2 : y = 2
    · refine lv_tableIn (tgt := 210) hx hb dL_law_33 (by rw [sw_2]; decide) (by rw [sw_2]; decide) (by rw [sw_2]; rfl) (by decide) ?_
      exact law_2 l hx hb hr hlocks hml hown hts hX hbl hbA hA hAe hK hP hD hS hl
    by_cases sw_3 : y = 3
    · refine lv_tableIn (tgt := 243) hx hb dL_law_33 (by rw [sw_3]; decide) (by rw [sw_3]; decide) (by rw [sw_3]; rfl) (by decide) ?_
      exact law_3 l hx hb hr hlocks hml hown hts hX hbl hbA hA hAe hK hP hD hS hl
    by_cases sw_4 : y = 4
    · refine lv_tableIn (tgt := 292) hx hb dL_law_33 (by rw [sw_4]; decide) (by rw [sw_4]; decide) (by rw [sw_4]; rfl) (by decide) ?_
      exact law_4 l hx hb hr hlocks hml hown hts hX hbl hbA hA hAe hK hP hD hS hl
    by_cases sw_5 : y = 5
    · refine lv_tableIn (tgt := 315) hx hb dL_law_33 (by rw [sw_5]; decide) (by rw [sw_5]; decide) (by rw [sw_5]; rfl) (by decide) ?_
      exact law_5 l hx hb hr hlocks hml hown hts hX hbl hbA hA hAe hK hP hD hS hl
    by_cases sw_6 : y = 6
    · refine lv_tableIn (tgt := 364) hx hb dL_law_33 (by rw [sw_6]; decide) (by rw [sw_6]; decide) (by rw [sw_6]; rfl) (by decide) ?_
      exact law_6 l hx hb hr hlocks hml hown hts hX hbl hbA hA hAe hK hP hD hS hl
    by_cases sw_7 : y = 7
    · refine lv_tableIn (tgt := 439) hx hb dL_law_33 (by rw [sw_7]; decide) (by rw [sw_7]; decide) (by rw [sw_7]; rfl) (by decide) ?_
      exact law_7 l hx hb hr hlocks hml hown hts hX hbl hbA hA hAe hK hP hD hS hl
    by_cases sw_8 : y = 8
    · refine lv_tableIn (tgt := 452) hx hb dL_law_33 (by rw [sw_8]; decide) (by rw [sw_8]; decide) (by rw [sw_8]; rfl) (by decide) ?_
      exact law_8 l hx hb hr hlocks hml hown hts hX hbl hbA hA hAe hK hP hD hS hl
    by_cases sw_9 : y = 9
    · refine lv_tableIn (tgt := 485) hx hb dL_law_33 (by rw [sw_9]; decide) (by rw [sw_9]; decide) (by rw [sw_9]; rfl) (by decide) ?_
      exact law_9 l hx hb hr hlocks hml hown hts hX hbl hbA hA hAe hK hP hD hS hl
    by_cases sw_10 : y = 10
    · refine lv_tableIn (tgt := 518) hx hb dL_law_33 (by rw [sw_10]; decide) (by rw [sw_10]; decide) (by rw [sw_10]; rfl) (by decide) ?_
      exact law_10 l hx hb hr hlocks hml hown hts hX hbl hbA hA hAe hK hP hD hS hl
    by_cases sw_11 : y = 11
    · refine lv_tableIn (tgt := 541) hx hb dL_law_33 (by rw [sw_11]; decide) (by rw [sw_11]; decide) (by rw [sw_11]; rfl) (by decide) ?_
      exact law_11 l hx hb hr hlocks hml hown hts hX hbl hbA hA hAe hK hP hD hS hl
    by_cases sw_12 : y = 12
    · refine lv_tableIn (tgt := 574) hx hb dL_law_33 (by rw [sw_12]; decide) (by rw [sw_12]; decide) (by rw [sw_12]; rfl) (by decide) ?_
      exact law_12 l hx hb hr hlocks hml hown hts hX hbl hbA hA hAe hK hP hD hS hl
    by_cases sw_13 : y = 13
    · refine lv_tableIn (tgt := 597) hx hb dL_law_33 (by rw [sw_13]; decide) (by rw [sw_13]; decide) (by rw [sw_13]; rfl) (by decide) ?_
      exact law_13 l hx hb hr hlocks hml hown hts hX hbl hbA hA hAe hK hP hD hS hl
    by_cases sw_14 : y = 14
    · refine lv_tableIn (tgt := 630) hx hb dL_law_33 (by rw [sw_14]; decide) (by rw [sw_14]; decide) (by rw [sw_14]; rfl) (by decide) ?_
      exact law_14 l hx hb hr hlocks hml hown hts hX hbl hbA hA hAe hK hP hD hS hl
    by_cases sw_15 : y = 15
    · refine lv_tableIn (tgt := 644) hx hb dL_law_33 (by rw [sw_15]; decide) (by rw [sw_15]; decide) (by rw [sw_15]; rfl) (by decide) ?_
      exact law_15 l hx hb hr hlocks hml hown hts hX hbl hbA hA hAe hK hP hD hS hl
    by_cases sw_16 : y = 16
    · refine lv_tableIn (tgt := 658) hx hb dL_law_33 (by rw [sw_16]; decide) (by rw [sw_16]; decide) (by rw [sw_16]; rfl) (by decide) ?_
      exact law_16 l hx hb hr hlocks hml hown hts hX hbl hbA hA hAe hK hP hD hS hl
    by_cases sw_17 : y = 17
    · refine lv_tableIn (tgt := 681) hx hb dL_law_33 (by rw [sw_17]; decide) (by rw [sw_17]; decide) (by rw [sw_17]; rfl) (by decide) ?_
      exact law_17 l hx hb hr hlocks hml hown hts hX hbl hbA hA hAe hK hP hD hS hl
    by_cases sw_18 : y = 18
    · refine lv_tableIn (tgt := 694) hx hb dL_law_33 (by rw [sw_18]; decide) (by rw [sw_18]; decide) (by rw [sw_18]; rfl) (by decide) ?_
      exact law_18 l hx hb hr hlocks hml hown hts hX hbl hbA hA hAe hK hP hD hS hl
    refine lv_tableOut (tgt := 717) hx hb dL_law_33 (sw_out19 sw_0 sw_1 sw_2 sw_3 sw_4 sw_5 sw_6 sw_7 sw_8 sw_9 sw_10 sw_11 sw_12 sw_13 sw_14 sw_15 sw_16 sw_17 sw_18) (by decide) ?_
    exact law_tail l hx hb hr hlocks hml hown hts hX hbl hbA hA hAe hK hS hl
