set_option maxHeartbeats 4000000 in
set_option maxRecDepth 100000 in
theorem c_event (l : Launch) (D : va_G) (cI cZ cR : ClassId) (x0 : Nat) (n0 : Nat) (t0 : Nat) (g0 : Nat) (k0 : Nat) (u0 : Nat) (m0 : Nat) (s0 : Nat) (a0 : Nat) (a1 : Nat) (a2 : Nat) (a3 : Nat) (a4 : Nat) (a5 : Nat) (a6 : Nat) (a7 : Nat) (a8 : Nat) (a9 : Nat) (t1 : Int32) (p1 : Int32) : CI l D cI cZ cR yX5_event wsX5_event { frames := 1, cells := 0, slots := 0, locals := 22 } [.ref x0, .int t1, .int p1] [(x0, .inr (5, [.ref n0, .ref t0, .ref g0, .ref k0, .ref u0, .ref m0, .ref s0, .int 0, .int 0, .int 0])), (n0, .inr (1, [.ref a0, .ref a1, .ref a2, .ref a3, .ref a4, .ref a5, .ref a6, .ref a7, .ref a8, .ref a9, .int 0, .int 0])), (a0, .inl (cI, 60, .inl (fun _ => 0))), (a1, .inl (cI, 60, .inl (fun _ => 0))), (a2, .inl (cI, 60, .inl (fun _ => 0))), (a3, .inl (cZ, 60, .inl (fun _ => 0))), (a9, .inl (cZ, 16, .inl (fun _ => 0)))] (fun (r : Int32) (u : Unit) => (r = 0 ∧ ((0 ≤ t1 ∧ t1 ≤ 15) ∧ (0 ≤ p1 ∧ p1 ≤ 2000))) ∨ (r = (-1) ∧ ¬ ((0 ≤ t1 ∧ t1 ≤ 15) ∧ (0 ≤ p1 ∧ p1 ≤ 2000)))) (fun (u : Unit) => []) := by
  intro sz
  refine en_W (Qc := fun A => va_Qi (fun (r : Int32) (u : Unit) => (r = 0 ∧ ((0 ≤ t1 ∧ t1 ≤ 15) ∧ (0 ≤ p1 ∧ p1 ≤ 2000))) ∨ (r = (-1) ∧ ¬ ((0 ≤ t1 ∧ t1 ≤ 15) ∧ (0 ≤ p1 ∧ p1 ≤ 2000)))) (sB D cI cZ cR (fun (u : Unit) => []) A) A) (cc := cX5_event) (maxL := 3) (ret := (some .int)) (by decide) rfl (Nat.le_of_ble_eq_true rfl) ?_
  intro p e s m below meth c A ls hx hb hr hts hown hlocks hin hml hK hP hD hS hA hl
  have hown : s.vm.findClass RX5 = some m.cls := hown
  have hl : lv_has ls 3 [(0, .ref x0), (1, .int t1), (2, .int p1)] := hl
  have kw_0 := hts (.fieldLink RX5 10 "DelayDesk" "net" "LDelayDesk$Net;") (by decide +kernel)
  have iX5 : ∀ w ∈ u_ws RX5 TX5 10, w ∈ wsX5_event := by decide +kernel
  have kw_2 := hts (.fieldLink RX5 69 "DelayDesk$Net" "events" "I") (by decide +kernel)
  have iX1 : ∀ w ∈ u_ws RX1 TX1 12, w ∈ wsX5_event := by decide +kernel
  refine lv_iload_n hx hb dX5_event_0 rfl (lv_at hl 1 rfl) ?_
  refine lv_iconst (v := 0) hx hb dX5_event_1 (by decide) ?_
  refine lv_bipush (v := 15) hx hb dX5_event_2 (by decide) ?_
  refine cl_i (wr := [(x0, .inr (5, [.ref n0, .ref t0, .ref g0, .ref k0, .ref u0, .ref m0, .ref s0, .int 0, .int 0, .int 0])), (n0, .inr (1, [.ref a0, .ref a1, .ref a2, .ref a3, .ref a4, .ref a5, .ref a6, .ref a7, .ref a8, .ref a9, .int 0, .int 0])), (a0, .inl (cI, 60, .inl (fun _ => 0))), (a1, .inl (cI, 60, .inl (fun _ => 0))), (a2, .inl (cI, 60, .inl (fun _ => 0))), (a3, .inl (cZ, 60, .inl (fun _ => 0))), (a9, .inl (cZ, 16, .inl (fun _ => 0)))]) (va_runS (As := [.int t1, .int 0, .int 15]) (rest := []) ⟨hx, hb, hml, hown, hts⟩ (c_isIn l D cI cZ cR t1 0 15 s.heap.size) (va_cwS 3 hts gX5_event_X5_isIn rfl rfl rfl (by decide +kernel) ⟨Nat.le_of_ble_eq_true rfl, Nat.le_of_ble_eq_true rfl⟩) (pS hK hP hD [] rfl (by decide)) rfl rfl hl.1 rfl (lv_room (Nat.le_of_ble_eq_true rfl)) dX5_event_4 ⟨Nat.le_of_ble_eq_true rfl, Nat.le_of_ble_eq_true rfl⟩) hP hD hS hA [] [0, 1, 2, 3, 4, 5, 6] rfl rfl (by decide) (by decide) (fun r_4 u_4 H locs hw_4 hP hD hS => ?_)
  have hP : va_P D vwCl [(x0, .inr (5, [.ref n0, .ref t0, .ref g0, .ref k0, .ref u0, .ref m0, .ref s0, .int 0, .int 0, .int 0])), (n0, .inr (1, [.ref a0, .ref a1, .ref a2, .ref a3, .ref a4, .ref a5, .ref a6, .ref a7, .ref a8, .ref a9, .int 0, .int 0])), (a0, .inl (cI, 60, .inl (fun _ => 0))), (a1, .inl (cI, 60, .inl (fun _ => 0))), (a2, .inl (cI, 60, .inl (fun _ => 0))), (a3, .inl (cZ, 60, .inl (fun _ => 0))), (a9, .inl (cZ, 16, .inl (fun _ => 0)))] H := hP
  have hD : va_D A [(x0, .inr (5, [.ref n0, .ref t0, .ref g0, .ref k0, .ref u0, .ref m0, .ref s0, .int 0, .int 0, .int 0])), (n0, .inr (1, [.ref a0, .ref a1, .ref a2, .ref a3, .ref a4, .ref a5, .ref a6, .ref a7, .ref a8, .ref a9, .int 0, .int 0])), (a0, .inl (cI, 60, .inl (fun _ => 0))), (a1, .inl (cI, 60, .inl (fun _ => 0))), (a2, .inl (cI, 60, .inl (fun _ => 0))), (a3, .inl (cZ, 60, .inl (fun _ => 0))), (a9, .inl (cZ, 16, .inl (fun _ => 0)))] := hD
  rcases hw_4 with ⟨rfl, hf_4⟩ | ⟨rfl, hf_4⟩
  · refine lv_if_eq (tgt := 33) hx hb dX5_event_7 (by decide) (fun c_7 => absurd c_7 (by decide)) (fun c_7 => ?_)
    refine lv_iload_n hx hb dX5_event_10 rfl (lv_at hl 2 rfl) ?_
    refine lv_iconst (v := 0) hx hb dX5_event_11 (by decide) ?_
    refine lv_sipush (v := 2000) hx hb dX5_event_12 (by decide) ?_
    refine cl_i (wr := [(x0, .inr (5, [.ref n0, .ref t0, .ref g0, .ref k0, .ref u0, .ref m0, .ref s0, .int 0, .int 0, .int 0])), (n0, .inr (1, [.ref a0, .ref a1, .ref a2, .ref a3, .ref a4, .ref a5, .ref a6, .ref a7, .ref a8, .ref a9, .int 0, .int 0])), (a0, .inl (cI, 60, .inl (fun _ => 0))), (a1, .inl (cI, 60, .inl (fun _ => 0))), (a2, .inl (cI, 60, .inl (fun _ => 0))), (a3, .inl (cZ, 60, .inl (fun _ => 0))), (a9, .inl (cZ, 16, .inl (fun _ => 0)))]) (va_runS (As := [.int p1, .int 0, .int 2000]) (rest := []) ⟨hx, hb, hml, hown, hts⟩ (c_isIn l D cI cZ cR p1 0 2000 H.size) (va_cwS 3 hts gX5_event_X5_isIn rfl rfl rfl (by decide +kernel) ⟨Nat.le_of_ble_eq_true rfl, Nat.le_of_ble_eq_true rfl⟩) (pS hK hP hD [] rfl (by decide)) rfl rfl hl.1 rfl (lv_room (Nat.le_of_ble_eq_true rfl)) dX5_event_15 ⟨Nat.le_of_ble_eq_true rfl, Nat.le_of_ble_eq_true rfl⟩) hP hD hS hA [] [0, 1, 2, 3, 4, 5, 6] rfl rfl (by decide) (by decide) (fun r_15 u_15 H locs hw_15 hP hD hS => ?_)
    have hP : va_P D vwCl [(x0, .inr (5, [.ref n0, .ref t0, .ref g0, .ref k0, .ref u0, .ref m0, .ref s0, .int 0, .int 0, .int 0])), (n0, .inr (1, [.ref a0, .ref a1, .ref a2, .ref a3, .ref a4, .ref a5, .ref a6, .ref a7, .ref a8, .ref a9, .int 0, .int 0])), (a0, .inl (cI, 60, .inl (fun _ => 0))), (a1, .inl (cI, 60, .inl (fun _ => 0))), (a2, .inl (cI, 60, .inl (fun _ => 0))), (a3, .inl (cZ, 60, .inl (fun _ => 0))), (a9, .inl (cZ, 16, .inl (fun _ => 0)))] H := hP
    have hD : va_D A [(x0, .inr (5, [.ref n0, .ref t0, .ref g0, .ref k0, .ref u0, .ref m0, .ref s0, .int 0, .int 0, .int 0])), (n0, .inr (1, [.ref a0, .ref a1, .ref a2, .ref a3, .ref a4, .ref a5, .ref a6, .ref a7, .ref a8, .ref a9, .int 0, .int 0])), (a0, .inl (cI, 60, .inl (fun _ => 0))), (a1, .inl (cI, 60, .inl (fun _ => 0))), (a2, .inl (cI, 60, .inl (fun _ => 0))), (a3, .inl (cZ, 60, .inl (fun _ => 0))), (a9, .inl (cZ, 16, .inl (fun _ => 0)))] := hD
    rcases hw_15 with ⟨rfl, hf_15⟩ | ⟨rfl, hf_15⟩
    · refine lv_if_eq (tgt := 33) hx hb dX5_event_18 (by decide) (fun c_18 => absurd c_18 (by decide)) (fun c_18 => ?_)
      refine lv_aload_n hx hb dX5_event_21 rfl (lv_at hl 0 rfl) ?_
      refine va_get (D := D) (ci := 5) (v := .ref n0) (C := RX5) (T := TX5) (N := 10) hx hb hts iX5 hown hK.1 hP 0 rfl rfl 0 (by decide) kw_0 (fun _ h9 => h9) rfl dX5_event_22 ?_
      refine va_get (D := D) (ci := 1) (v := .int 0) (C := RX1) (T := TX1) (N := 12) hx hb hts iX1 hown hK.1 hP 1 rfl rfl 10 (by decide) kw_2 (fun _ h9 => h9) rfl dX5_event_25 ?_
      refine lv_bipush (v := 60) hx hb dX5_event_28 (by decide) ?_
      refine lv_icmp_lt (tgt := 35) hx hb dX5_event_30 (by decide) (fun c_30 => ?_) (fun c_30 => absurd (by decide) c_30)
      refine lv_aload_n hx hb dX5_event_35 rfl (lv_at hl 0 rfl) ?_
      refine cl_v (wr := [(n0, .inr (1, [.ref a0, .ref a1, .ref a2, .ref a3, .ref a4, .ref a5, .ref a6, .ref a7, .ref a8, .ref a9, .int 0, .int 0])), (a0, .inl (cI, 60, .inl (fun _ => 0))), (a1, .inl (cI, 60, .inl (fun _ => 0))), (a2, .inl (cI, 60, .inl (fun _ => 0))), (a3, .inl (cZ, 60, .inl (fun _ => 0))), (a9, .inl (cZ, 16, .inl (fun _ => 0)))]) (va_runV (As := []) (rest := []) ⟨hx, hb, hml, hown, hts⟩ (c_forgetAnswers l D cI cZ cR x0 n0 t0 g0 k0 u0 m0 s0 H.size) (cwV 0 hts gX5_event_X5_forgetAnswers rfl rfl rfl (by decide +kernel) ⟨Nat.le_of_ble_eq_true rfl, Nat.le_of_ble_eq_true rfl⟩) (pV 5 0 hK hP hD [0] rfl (by decide) rfl rfl) rfl rfl hl.1 rfl (lv_room (Nat.le_of_ble_eq_true rfl)) dX5_event_36 ⟨Nat.le_of_ble_eq_true rfl, Nat.le_of_ble_eq_true rfl⟩) hP hD hS hA [0] [1, 2, 3, 4, 5, 6] rfl rfl (by decide) (by decide) (fun u_36 H locs hw_36 hP hD hS => ?_)
      have hP : va_P D vwCl [(n0, .inr (1, [.ref a0, .ref a1, .ref a2, .ref a3, .ref a4, .ref a5, .ref a6, .ref a7, .ref a8, .ref a9, .int 0, .int 0])), (a0, .inl (cI, 60, .inl (fun _ => 0))), (a1, .inl (cI, 60, .inl (fun _ => 0))), (a2, .inl (cI, 60, .inl (fun _ => 0))), (a3, .inl (cZ, 60, .inl (fun _ => 0))), (a9, .inl (cZ, 16, .inl (fun _ => 0))), (x0, .inr (5, [.ref n0, .ref t0, .ref g0, .ref k0, .ref u0, .ref m0, .ref s0, .int 0, .int 0, .int 0]))] H := hP
      have hD : va_D A [(n0, .inr (1, [.ref a0, .ref a1, .ref a2, .ref a3, .ref a4, .ref a5, .ref a6, .ref a7, .ref a8, .ref a9, .int 0, .int 0])), (a0, .inl (cI, 60, .inl (fun _ => 0))), (a1, .inl (cI, 60, .inl (fun _ => 0))), (a2, .inl (cI, 60, .inl (fun _ => 0))), (a3, .inl (cZ, 60, .inl (fun _ => 0))), (a9, .inl (cZ, 16, .inl (fun _ => 0))), (x0, .inr (5, [.ref n0, .ref t0, .ref g0, .ref k0, .ref u0, .ref m0, .ref s0, .int 0, .int 0, .int 0]))] := hD
      refine lv_aload_n hx hb dX5_event_39 rfl (lv_at hl 0 rfl) ?_
      refine va_get (D := D) (ci := 5) (v := .ref n0) (C := RX5) (T := TX5) (N := 10) hx hb hts iX5 hown hK.1 hP 6 rfl rfl 0 (by decide) kw_0 (fun _ h9 => h9) rfl dX5_event_40 ?_
      refine lv_iload_n hx hb dX5_event_43 rfl (lv_at hl 1 rfl) ?_
      refine lv_iload_n hx hb dX5_event_44 rfl (lv_at hl 2 rfl) ?_
      refine cl_i (wr := [(x0, .inr (5, [.ref n0, .ref t0, .ref g0, .ref k0, .ref u0, .ref m0, .ref s0, .int 0, .int 0, .int 0]))]) (va_runV (As := [.int t1, .int p1]) (rest := []) ⟨hx, hb, hml, hown, hts⟩ (c_addEvent l D cI cZ cR n0 a0 a1 a2 a3 a4 a5 a6 a7 a8 a9 t1 p1 (by assumption) H.size) (cwV 2 hts gX5_event_X1_addEvent rfl rfl rfl (by decide +kernel) ⟨Nat.le_of_ble_eq_true rfl, Nat.le_of_ble_eq_true rfl⟩) (pV 1 0 hK hP hD [0, 1, 2, 3, 4, 5] rfl (by decide) rfl rfl) rfl rfl hl.1 rfl (lv_room (Nat.le_of_ble_eq_true rfl)) dX5_event_45 ⟨Nat.le_of_ble_eq_true rfl, Nat.le_of_ble_eq_true rfl⟩) hP hD hS hA [0, 1, 2, 3, 4, 5] [6] rfl rfl (by decide) (by decide) (fun r_45 u_45 H locs hw_45 hP hD hS => ?_)
      have hP : va_P D vwCl [(x0, .inr (5, [.ref n0, .ref t0, .ref g0, .ref k0, .ref u0, .ref m0, .ref s0, .int 0, .int 0, .int 0]))] H := hP
      have hD : va_D A [(x0, .inr (5, [.ref n0, .ref t0, .ref g0, .ref k0, .ref u0, .ref m0, .ref s0, .int 0, .int 0, .int 0]))] := hD
      subst hw_45
      exact en_i () hx hb hr hlocks hK (hP.sub [] rfl) (hD.sub [] (by decide) rfl) hS (Nat.le_of_ble_eq_true rfl) (Nat.le_of_ble_eq_true rfl) dX5_event_48 (Or.inl ⟨rfl, by first | exact ⟨by assumption, by assumption⟩ | exact fun h => absurd h.1 (by assumption) | exact fun h => absurd h.2 (by assumption)⟩)
    · refine lv_if_eq (tgt := 33) hx hb dX5_event_18 (by decide) (fun c_18 => ?_) (fun c_18 => absurd (by decide) c_18)
      refine lv_iconst (v := (-1)) hx hb dX5_event_33 (by decide) ?_
      exact en_i () hx hb hr hlocks hK (hP.sub [] rfl) (hD.sub [] (by decide) rfl) hS (Nat.le_of_ble_eq_true rfl) (Nat.le_of_ble_eq_true rfl) dX5_event_34 (Or.inr ⟨rfl, by first | exact ⟨by assumption, by assumption⟩ | exact fun h => absurd h.1 (by assumption) | exact fun h => absurd h.2 (by assumption)⟩)
  · refine lv_if_eq (tgt := 33) hx hb dX5_event_7 (by decide) (fun c_7 => ?_) (fun c_7 => absurd (by decide) c_7)
    refine lv_iconst (v := (-1)) hx hb dX5_event_33 (by decide) ?_
    exact en_i () hx hb hr hlocks hK (hP.sub [] rfl) (hD.sub [] (by decide) rfl) hS (Nat.le_of_ble_eq_true rfl) (Nat.le_of_ble_eq_true rfl) dX5_event_34 (Or.inr ⟨rfl, by first | exact ⟨by assumption, by assumption⟩ | exact fun h => absurd h.1 (by assumption) | exact fun h => absurd h.2 (by assumption)⟩)
set_option maxHeartbeats 4000000 in
set_option maxRecDepth 100000 in
theorem c_activity (l : Launch) (D : va_G) (cI cZ cR : ClassId) (x0 : Nat) (n0 : Nat) (t0 : Nat) (g0 : Nat) (k0 : Nat) (u0 : Nat) (m0 : Nat) (s0 : Nat) (a0 : Nat) (a1 : Nat) (a2 : Nat) (a3 : Nat) (a4 : Nat) (a5 : Nat) (a6 : Nat) (a7 : Nat) (a8 : Nat) (a9 : Nat) (k1 : Int32) (f1 : Int32) (f2 : Int32) (f3 : Int32) : CI l D cI cZ cR yX5_activity wsX5_activity { frames := 2, cells := 0, slots := 0, locals := 45 } [.ref x0, .int k1, .int f1, .int f2, .int f3] [(x0, .inr (5, [.ref n0, .ref t0, .ref g0, .ref k0, .ref u0, .ref m0, .ref s0, .int 0, .int 0, .int 0])), (n0, .inr (1, [.ref a0, .ref a1, .ref a2, .ref a3, .ref a4, .ref a5, .ref a6, .ref a7, .ref a8, .ref a9, .int 0, .int 0]))] (fun (r : Int32) (u : Unit) => r = (-1)) (fun (u : Unit) => []) := by
  intro sz
  refine en_W (Qc := fun A => va_Qi (fun (r : Int32) (u : Unit) => r = (-1)) (sB D cI cZ cR (fun (u : Unit) => []) A) A) (cc := cX5_activity) (maxL := 5) (ret := (some .int)) (by decide) rfl (Nat.le_of_ble_eq_true rfl) ?_
  intro p e s m below meth c A ls hx hb hr hts hown hlocks hin hml hK hP hD hS hA hl
  have hown : s.vm.findClass RX5 = some m.cls := hown
  have hl : lv_has ls 5 [(0, .ref x0), (1, .int k1), (2, .int f1), (3, .int f2), (4, .int f3)] := hl
  have kw_0 := hts (.fieldLink RX5 10 "DelayDesk" "net" "LDelayDesk$Net;") (by decide +kernel)
  have iX5 : ∀ w ∈ u_ws RX5 TX5 10, w ∈ wsX5_activity := by decide +kernel
  have kw_2 := hts (.fieldLink RX5 80 "DelayDesk$Net" "activities" "I") (by decide +kernel)
  have iX1 : ∀ w ∈ u_ws RX1 TX1 12, w ∈ wsX5_activity := by decide +kernel
  refine lv_iload_n hx hb dX5_activity_0 rfl (lv_at hl 1 rfl) ?_
  refine lv_iconst (v := 0) hx hb dX5_activity_1 (by decide) ?_
  refine lv_iconst (v := 4) hx hb dX5_activity_2 (by decide) ?_
  refine cl_i (wr := [(x0, .inr (5, [.ref n0, .ref t0, .ref g0, .ref k0, .ref u0, .ref m0, .ref s0, .int 0, .int 0, .int 0])), (n0, .inr (1, [.ref a0, .ref a1, .ref a2, .ref a3, .ref a4, .ref a5, .ref a6, .ref a7, .ref a8, .ref a9, .int 0, .int 0]))]) (va_runS (As := [.int k1, .int 0, .int 4]) (rest := []) ⟨hx, hb, hml, hown, hts⟩ (c_isIn l D cI cZ cR k1 0 4 s.heap.size) (va_cwS 3 hts gX5_activity_X5_isIn rfl rfl rfl (by decide +kernel) ⟨Nat.le_of_ble_eq_true rfl, Nat.le_of_ble_eq_true rfl⟩) (pS hK hP hD [] rfl (by decide)) rfl rfl hl.1 rfl (lv_room (Nat.le_of_ble_eq_true rfl)) dX5_activity_3 ⟨Nat.le_of_ble_eq_true rfl, Nat.le_of_ble_eq_true rfl⟩) hP hD hS hA [] [0, 1] rfl rfl (by decide) (by decide) (fun r_3 u_3 H locs hw_3 hP hD hS => ?_)
  have hP : va_P D vwCl [(x0, .inr (5, [.ref n0, .ref t0, .ref g0, .ref k0, .ref u0, .ref m0, .ref s0, .int 0, .int 0, .int 0])), (n0, .inr (1, [.ref a0, .ref a1, .ref a2, .ref a3, .ref a4, .ref a5, .ref a6, .ref a7, .ref a8, .ref a9, .int 0, .int 0]))] H := hP
  have hD : va_D A [(x0, .inr (5, [.ref n0, .ref t0, .ref g0, .ref k0, .ref u0, .ref m0, .ref s0, .int 0, .int 0, .int 0])), (n0, .inr (1, [.ref a0, .ref a1, .ref a2, .ref a3, .ref a4, .ref a5, .ref a6, .ref a7, .ref a8, .ref a9, .int 0, .int 0]))] := hD
  rcases hw_3 with ⟨rfl, hf_3⟩ | ⟨rfl, hf_3⟩
  · refine lv_if_eq (tgt := 46) hx hb dX5_activity_6 (by decide) (fun c_6 => absurd c_6 (by decide)) (fun c_6 => ?_)
    refine lv_iload hx hb dX5_activity_9 (lv_at hl 4 rfl) ?_
    refine lv_iconst (v := 0) hx hb dX5_activity_11 (by decide) ?_
    refine lv_sipush (v := 500) hx hb dX5_activity_12 (by decide) ?_
    refine cl_i (wr := [(x0, .inr (5, [.ref n0, .ref t0, .ref g0, .ref k0, .ref u0, .ref m0, .ref s0, .int 0, .int 0, .int 0])), (n0, .inr (1, [.ref a0, .ref a1, .ref a2, .ref a3, .ref a4, .ref a5, .ref a6, .ref a7, .ref a8, .ref a9, .int 0, .int 0]))]) (va_runS (As := [.int f3, .int 0, .int 500]) (rest := []) ⟨hx, hb, hml, hown, hts⟩ (c_isIn l D cI cZ cR f3 0 500 H.size) (va_cwS 3 hts gX5_activity_X5_isIn rfl rfl rfl (by decide +kernel) ⟨Nat.le_of_ble_eq_true rfl, Nat.le_of_ble_eq_true rfl⟩) (pS hK hP hD [] rfl (by decide)) rfl rfl hl.1 rfl (lv_room (Nat.le_of_ble_eq_true rfl)) dX5_activity_15 ⟨Nat.le_of_ble_eq_true rfl, Nat.le_of_ble_eq_true rfl⟩) hP hD hS hA [] [0, 1] rfl rfl (by decide) (by decide) (fun r_15 u_15 H locs hw_15 hP hD hS => ?_)
    have hP : va_P D vwCl [(x0, .inr (5, [.ref n0, .ref t0, .ref g0, .ref k0, .ref u0, .ref m0, .ref s0, .int 0, .int 0, .int 0])), (n0, .inr (1, [.ref a0, .ref a1, .ref a2, .ref a3, .ref a4, .ref a5, .ref a6, .ref a7, .ref a8, .ref a9, .int 0, .int 0]))] H := hP
    have hD : va_D A [(x0, .inr (5, [.ref n0, .ref t0, .ref g0, .ref k0, .ref u0, .ref m0, .ref s0, .int 0, .int 0, .int 0])), (n0, .inr (1, [.ref a0, .ref a1, .ref a2, .ref a3, .ref a4, .ref a5, .ref a6, .ref a7, .ref a8, .ref a9, .int 0, .int 0]))] := hD
    rcases hw_15 with ⟨rfl, hf_15⟩ | ⟨rfl, hf_15⟩
    · refine lv_if_eq (tgt := 46) hx hb dX5_activity_18 (by decide) (fun c_18 => absurd c_18 (by decide)) (fun c_18 => ?_)
      refine lv_aload_n hx hb dX5_activity_21 rfl (lv_at hl 0 rfl) ?_
      refine va_get (D := D) (ci := 5) (v := .ref n0) (C := RX5) (T := TX5) (N := 10) hx hb hts iX5 hown hK.1 hP 0 rfl rfl 0 (by decide) kw_0 (fun _ h9 => h9) rfl dX5_activity_22 ?_
      refine va_get (D := D) (ci := 1) (v := .int 0) (C := RX1) (T := TX1) (N := 12) hx hb hts iX1 hown hK.1 hP 1 rfl rfl 11 (by decide) kw_2 (fun _ h9 => h9) rfl dX5_activity_25 ?_
      refine lv_bipush (v := 100) hx hb dX5_activity_28 (by decide) ?_
      refine lv_icmp_ge (tgt := 46) hx hb dX5_activity_30 (by decide) (fun c_30 => absurd c_30 (by decide)) (fun c_30 => ?_)
      refine lv_aload_n hx hb dX5_activity_33 rfl (lv_at hl 0 rfl) ?_
      refine va_get (D := D) (ci := 5) (v := .ref n0) (C := RX5) (T := TX5) (N := 10) hx hb hts iX5 hown hK.1 hP 0 rfl rfl 0 (by decide) kw_0 (fun _ h9 => h9) rfl dX5_activity_34 ?_
      refine lv_iload_n hx hb dX5_activity_37 rfl (lv_at hl 1 rfl) ?_
      refine lv_iload_n hx hb dX5_activity_38 rfl (lv_at hl 2 rfl) ?_
      refine lv_iload_n hx hb dX5_activity_39 rfl (lv_at hl 3 rfl) ?_
      refine cl_i (wr := [(x0, .inr (5, [.ref n0, .ref t0, .ref g0, .ref k0, .ref u0, .ref m0, .ref s0, .int 0, .int 0, .int 0]))]) (va_runV (As := [.int k1, .int f1, .int f2]) (rest := []) ⟨hx, hb, hml, hown, hts⟩ (c_canJoin l D cI cZ cR n0 a0 a1 a2 a3 a4 a5 a6 a7 a8 a9 k1 f1 f2 H.size) (cwV 3 hts gX5_activity_X1_canJoin rfl rfl rfl (by decide +kernel) ⟨Nat.le_of_ble_eq_true rfl, Nat.le_of_ble_eq_true rfl⟩) (pV 1 1 hK hP hD [1] rfl (by decide) rfl rfl) rfl rfl hl.1 rfl (lv_room (Nat.le_of_ble_eq_true rfl)) dX5_activity_40 ⟨Nat.le_of_ble_eq_true rfl, Nat.le_of_ble_eq_true rfl⟩) hP hD hS hA [1] [0] rfl rfl (by decide) (by decide) (fun r_40 u_40 H locs hw_40 hP hD hS => ?_)
      have hP : va_P D vwCl [(x0, .inr (5, [.ref n0, .ref t0, .ref g0, .ref k0, .ref u0, .ref m0, .ref s0, .int 0, .int 0, .int 0])), (n0, .inr (1, [.ref a0, .ref a1, .ref a2, .ref a3, .ref a4, .ref a5, .ref a6, .ref a7, .ref a8, .ref a9, .int 0, .int 0]))] H := hP
      have hD : va_D A [(x0, .inr (5, [.ref n0, .ref t0, .ref g0, .ref k0, .ref u0, .ref m0, .ref s0, .int 0, .int 0, .int 0])), (n0, .inr (1, [.ref a0, .ref a1, .ref a2, .ref a3, .ref a4, .ref a5, .ref a6, .ref a7, .ref a8, .ref a9, .int 0, .int 0]))] := hD
      subst hw_40
      refine lv_if_ne (tgt := 48) hx hb dX5_activity_43 (by decide) (fun c_43 => absurd c_43 (by decide)) (fun c_43 => ?_)
      refine lv_iconst (v := (-1)) hx hb dX5_activity_46 (by decide) ?_
      exact en_i () hx hb hr hlocks hK (hP.sub [] rfl) (hD.sub [] (by decide) rfl) hS (Nat.le_of_ble_eq_true rfl) (Nat.le_of_ble_eq_true rfl) dX5_activity_47 (rfl)
    · refine lv_if_eq (tgt := 46) hx hb dX5_activity_18 (by decide) (fun c_18 => ?_) (fun c_18 => absurd (by decide) c_18)
      refine lv_iconst (v := (-1)) hx hb dX5_activity_46 (by decide) ?_
      exact en_i () hx hb hr hlocks hK (hP.sub [] rfl) (hD.sub [] (by decide) rfl) hS (Nat.le_of_ble_eq_true rfl) (Nat.le_of_ble_eq_true rfl) dX5_activity_47 (rfl)
  · refine lv_if_eq (tgt := 46) hx hb dX5_activity_6 (by decide) (fun c_6 => ?_) (fun c_6 => absurd (by decide) c_6)
    refine lv_iconst (v := (-1)) hx hb dX5_activity_46 (by decide) ?_
    exact en_i () hx hb hr hlocks hK (hP.sub [] rfl) (hD.sub [] (by decide) rfl) hS (Nat.le_of_ble_eq_true rfl) (Nat.le_of_ble_eq_true rfl) dX5_activity_47 (rfl)
set_option maxHeartbeats 4000000 in
set_option maxRecDepth 100000 in
theorem c_source (l : Launch) (D : va_G) (cI cZ cR : ClassId) (x0 : Nat) (n0 : Nat) (t0 : Nat) (g0 : Nat) (k0 : Nat) (u0 : Nat) (m0 : Nat) (s0 : Nat) (a0 : Nat) (a1 : Nat) (a2 : Nat) (a3 : Nat) (a4 : Nat) (a5 : Nat) (a6 : Nat) (a7 : Nat) (a8 : Nat) (a9 : Nat) (e0 : Int32) (f1 : Int32) : CI l D cI cZ cR yX5_source wsX5_source { frames := 1, cells := 0, slots := 0, locals := 21 } [.ref x0, .int e0, .int f1] [(x0, .inr (5, [.ref n0, .ref t0, .ref g0, .ref k0, .ref u0, .ref m0, .ref s0, .int 0, .int 0, .int 0])), (n0, .inr (1, [.ref a0, .ref a1, .ref a2, .ref a3, .ref a4, .ref a5, .ref a6, .ref a7, .ref a8, .ref a9, .int 0, .int 0]))] (fun (r : Int32) (u : Unit) => r = 0) (fun (u : Unit) => []) := by
  intro sz
  refine en_W (Qc := fun A => va_Qi (fun (r : Int32) (u : Unit) => r = 0) (sB D cI cZ cR (fun (u : Unit) => []) A) A) (cc := cX5_source) (maxL := 3) (ret := (some .boolean)) (by decide) rfl (Nat.le_of_ble_eq_true rfl) ?_
  intro p e s m below meth c A ls hx hb hr hts hown hlocks hin hml hK hP hD hS hA hl
  have hown : s.vm.findClass RX5 = some m.cls := hown
  have hl : lv_has ls 3 [(0, .ref x0), (1, .int e0), (2, .int f1)] := hl
  have kw_0 := hts (.fieldLink RX5 10 "DelayDesk" "net" "LDelayDesk$Net;") (by decide +kernel)
  have iX5 : ∀ w ∈ u_ws RX5 TX5 10, w ∈ wsX5_source := by decide +kernel
  refine lv_aload_n hx hb dX5_source_0 rfl (lv_at hl 0 rfl) ?_
  refine va_get (D := D) (ci := 5) (v := .ref n0) (C := RX5) (T := TX5) (N := 10) hx hb hts iX5 hown hK.1 hP 0 rfl rfl 0 (by decide) kw_0 (fun _ h9 => h9) rfl dX5_source_1 ?_
  refine lv_iload_n hx hb dX5_source_4 rfl (lv_at hl 1 rfl) ?_
  refine cl_i (wr := [(x0, .inr (5, [.ref n0, .ref t0, .ref g0, .ref k0, .ref u0, .ref m0, .ref s0, .int 0, .int 0, .int 0]))]) (va_runV (As := [.int e0]) (rest := []) ⟨hx, hb, hml, hown, hts⟩ (c_hasEvent l D cI cZ cR n0 a0 a1 a2 a3 a4 a5 a6 a7 a8 a9 e0 s.heap.size) (cwV 1 hts gX5_source_X1_hasEvent rfl rfl rfl (by decide +kernel) ⟨Nat.le_of_ble_eq_true rfl, Nat.le_of_ble_eq_true rfl⟩) (pV 1 1 hK hP hD [1] rfl (by decide) rfl rfl) rfl rfl hl.1 rfl (lv_room (Nat.le_of_ble_eq_true rfl)) dX5_source_5 ⟨Nat.le_of_ble_eq_true rfl, Nat.le_of_ble_eq_true rfl⟩) hP hD hS hA [1] [0] rfl rfl (by decide) (by decide) (fun r_5 u_5 H locs hw_5 hP hD hS => ?_)
  have hP : va_P D vwCl [(x0, .inr (5, [.ref n0, .ref t0, .ref g0, .ref k0, .ref u0, .ref m0, .ref s0, .int 0, .int 0, .int 0])), (n0, .inr (1, [.ref a0, .ref a1, .ref a2, .ref a3, .ref a4, .ref a5, .ref a6, .ref a7, .ref a8, .ref a9, .int 0, .int 0]))] H := hP
  have hD : va_D A [(x0, .inr (5, [.ref n0, .ref t0, .ref g0, .ref k0, .ref u0, .ref m0, .ref s0, .int 0, .int 0, .int 0])), (n0, .inr (1, [.ref a0, .ref a1, .ref a2, .ref a3, .ref a4, .ref a5, .ref a6, .ref a7, .ref a8, .ref a9, .int 0, .int 0]))] := hD
  subst hw_5
  refine lv_if_eq (tgt := 22) hx hb dX5_source_8 (by decide) (fun c_8 => ?_) (fun c_8 => absurd (by decide) c_8)
  refine lv_iconst (v := 0) hx hb dX5_source_22 (by decide) ?_
  exact en_z () hx hb hr hlocks hK (hP.sub [] rfl) (hD.sub [] (by decide) rfl) hS (Nat.le_of_ble_eq_true rfl) (Nat.le_of_ble_eq_true rfl) dX5_source_23 rfl (rfl)
set_option maxHeartbeats 4000000 in
set_option maxRecDepth 100000 in
theorem c_keep (l : Launch) (D : va_G) (cI cZ cR : ClassId) (x0 : Nat) (n0 : Nat) (t0 : Nat) (g0 : Nat) (k0 : Nat) (u0 : Nat) (m0 : Nat) (s0 : Nat) (a0 : Nat) (a1 : Nat) (a2 : Nat) (a3 : Nat) (a4 : Nat) (a5 : Nat) (a6 : Nat) (a7 : Nat) (a8 : Nat) (a9 : Nat) (e0 : Int32) (f1 : Int32) : CI l D cI cZ cR yX5_keep wsX5_keep { frames := 2, cells := 0, slots := 0, locals := 43 } [.ref x0, .int e0, .int f1] [(x0, .inr (5, [.ref n0, .ref t0, .ref g0, .ref k0, .ref u0, .ref m0, .ref s0, .int 0, .int 0, .int 0])), (n0, .inr (1, [.ref a0, .ref a1, .ref a2, .ref a3, .ref a4, .ref a5, .ref a6, .ref a7, .ref a8, .ref a9, .int 0, .int 0]))] (fun (r : Int32) (u : Unit) => r = 0) (fun (u : Unit) => []) := by
  intro sz
  refine en_W (Qc := fun A => va_Qi (fun (r : Int32) (u : Unit) => r = 0) (sB D cI cZ cR (fun (u : Unit) => []) A) A) (cc := cX5_keep) (maxL := 3) (ret := (some .boolean)) (by decide) rfl (Nat.le_of_ble_eq_true rfl) ?_
  intro p e s m below meth c A ls hx hb hr hts hown hlocks hin hml hK hP hD hS hA hl
  have hown : s.vm.findClass RX5 = some m.cls := hown
  have hl : lv_has ls 3 [(0, .ref x0), (1, .int e0), (2, .int f1)] := hl
  have kw_0 := hts (.fieldLink RX5 10 "DelayDesk" "net" "LDelayDesk$Net;") (by decide +kernel)
  have iX5 : ∀ w ∈ u_ws RX5 TX5 10, w ∈ wsX5_keep := by decide +kernel
  refine lv_aload_n hx hb dX5_keep_0 rfl (lv_at hl 0 rfl) ?_
  refine va_get (D := D) (ci := 5) (v := .ref n0) (C := RX5) (T := TX5) (N := 10) hx hb hts iX5 hown hK.1 hP 0 rfl rfl 0 (by decide) kw_0 (fun _ h9 => h9) rfl dX5_keep_1 ?_
  refine lv_iload_n hx hb dX5_keep_4 rfl (lv_at hl 1 rfl) ?_
  refine lv_iconst (v := 2) hx hb dX5_keep_5 (by decide) ?_
  refine cl_i (wr := [(x0, .inr (5, [.ref n0, .ref t0, .ref g0, .ref k0, .ref u0, .ref m0, .ref s0, .int 0, .int 0, .int 0]))]) (va_runV (As := [.int e0, .int 2]) (rest := []) ⟨hx, hb, hml, hown, hts⟩ (c_isOfKind l D cI cZ cR n0 a0 a1 a2 a3 a4 a5 a6 a7 a8 a9 e0 2 s.heap.size) (cwV 2 hts gX5_keep_X1_isOfKind rfl rfl rfl (by decide +kernel) ⟨Nat.le_of_ble_eq_true rfl, Nat.le_of_ble_eq_true rfl⟩) (pV 1 1 hK hP hD [1] rfl (by decide) rfl rfl) rfl rfl hl.1 rfl (lv_room (Nat.le_of_ble_eq_true rfl)) dX5_keep_6 ⟨Nat.le_of_ble_eq_true rfl, Nat.le_of_ble_eq_true rfl⟩) hP hD hS hA [1] [0] rfl rfl (by decide) (by decide) (fun r_6 u_6 H locs hw_6 hP hD hS => ?_)
  have hP : va_P D vwCl [(x0, .inr (5, [.ref n0, .ref t0, .ref g0, .ref k0, .ref u0, .ref m0, .ref s0, .int 0, .int 0, .int 0])), (n0, .inr (1, [.ref a0, .ref a1, .ref a2, .ref a3, .ref a4, .ref a5, .ref a6, .ref a7, .ref a8, .ref a9, .int 0, .int 0]))] H := hP
  have hD : va_D A [(x0, .inr (5, [.ref n0, .ref t0, .ref g0, .ref k0, .ref u0, .ref m0, .ref s0, .int 0, .int 0, .int 0])), (n0, .inr (1, [.ref a0, .ref a1, .ref a2, .ref a3, .ref a4, .ref a5, .ref a6, .ref a7, .ref a8, .ref a9, .int 0, .int 0]))] := hD
  subst hw_6
  refine lv_if_eq (tgt := 25) hx hb dX5_keep_9 (by decide) (fun c_9 => ?_) (fun c_9 => absurd (by decide) c_9)
  refine lv_iconst (v := 0) hx hb dX5_keep_25 (by decide) ?_
  exact en_z () hx hb hr hlocks hK (hP.sub [] rfl) (hD.sub [] (by decide) rfl) hS (Nat.le_of_ble_eq_true rfl) (Nat.le_of_ble_eq_true rfl) dX5_keep_26 rfl (rfl)
set_option maxHeartbeats 4000000 in
set_option maxRecDepth 100000 in
theorem c_turn (l : Launch) (D : va_G) (cI cZ cR : ClassId) (x0 : Nat) (n0 : Nat) (t0 : Nat) (g0 : Nat) (k0 : Nat) (u0 : Nat) (m0 : Nat) (s0 : Nat) (a0 : Nat) (a1 : Nat) (a2 : Nat) (a3 : Nat) (a4 : Nat) (a5 : Nat) (a6 : Nat) (a7 : Nat) (a8 : Nat) (a9 : Nat) (e0 : Int32) : CI l D cI cZ cR yX5_turn wsX5_turn { frames := 2, cells := 0, slots := 0, locals := 43 } [.ref x0, .int e0] [(x0, .inr (5, [.ref n0, .ref t0, .ref g0, .ref k0, .ref u0, .ref m0, .ref s0, .int 0, .int 0, .int 0])), (n0, .inr (1, [.ref a0, .ref a1, .ref a2, .ref a3, .ref a4, .ref a5, .ref a6, .ref a7, .ref a8, .ref a9, .int 0, .int 0]))] (fun (r : Int32) (u : Unit) => r = 0) (fun (u : Unit) => []) := by
  intro sz
  refine en_W (Qc := fun A => va_Qi (fun (r : Int32) (u : Unit) => r = 0) (sB D cI cZ cR (fun (u : Unit) => []) A) A) (cc := cX5_turn) (maxL := 3) (ret := (some .boolean)) (by decide) rfl (Nat.le_of_ble_eq_true rfl) ?_
  intro p e s m below meth c A ls hx hb hr hts hown hlocks hin hml hK hP hD hS hA hl
  have hown : s.vm.findClass RX5 = some m.cls := hown
  have hl : lv_has ls 3 [(0, .ref x0), (1, .int e0)] := hl
  have kw_0 := hts (.fieldLink RX5 10 "DelayDesk" "net" "LDelayDesk$Net;") (by decide +kernel)
  have iX5 : ∀ w ∈ u_ws RX5 TX5 10, w ∈ wsX5_turn := by decide +kernel
  refine lv_aload_n hx hb dX5_turn_0 rfl (lv_at hl 0 rfl) ?_
  refine va_get (D := D) (ci := 5) (v := .ref n0) (C := RX5) (T := TX5) (N := 10) hx hb hts iX5 hown hK.1 hP 0 rfl rfl 0 (by decide) kw_0 (fun _ h9 => h9) rfl dX5_turn_1 ?_
  refine lv_iload_n hx hb dX5_turn_4 rfl (lv_at hl 1 rfl) ?_
  refine lv_iconst (v := 3) hx hb dX5_turn_5 (by decide) ?_
  refine cl_i (wr := [(x0, .inr (5, [.ref n0, .ref t0, .ref g0, .ref k0, .ref u0, .ref m0, .ref s0, .int 0, .int 0, .int 0]))]) (va_runV (As := [.int e0, .int 3]) (rest := []) ⟨hx, hb, hml, hown, hts⟩ (c_isOfKind l D cI cZ cR n0 a0 a1 a2 a3 a4 a5 a6 a7 a8 a9 e0 3 s.heap.size) (cwV 2 hts gX5_turn_X1_isOfKind rfl rfl rfl (by decide +kernel) ⟨Nat.le_of_ble_eq_true rfl, Nat.le_of_ble_eq_true rfl⟩) (pV 1 1 hK hP hD [1] rfl (by decide) rfl rfl) rfl rfl hl.1 rfl (lv_room (Nat.le_of_ble_eq_true rfl)) dX5_turn_6 ⟨Nat.le_of_ble_eq_true rfl, Nat.le_of_ble_eq_true rfl⟩) hP hD hS hA [1] [0] rfl rfl (by decide) (by decide) (fun r_6 u_6 H locs hw_6 hP hD hS => ?_)
  have hP : va_P D vwCl [(x0, .inr (5, [.ref n0, .ref t0, .ref g0, .ref k0, .ref u0, .ref m0, .ref s0, .int 0, .int 0, .int 0])), (n0, .inr (1, [.ref a0, .ref a1, .ref a2, .ref a3, .ref a4, .ref a5, .ref a6, .ref a7, .ref a8, .ref a9, .int 0, .int 0]))] H := hP
  have hD : va_D A [(x0, .inr (5, [.ref n0, .ref t0, .ref g0, .ref k0, .ref u0, .ref m0, .ref s0, .int 0, .int 0, .int 0])), (n0, .inr (1, [.ref a0, .ref a1, .ref a2, .ref a3, .ref a4, .ref a5, .ref a6, .ref a7, .ref a8, .ref a9, .int 0, .int 0]))] := hD
  subst hw_6
  refine lv_if_ne (tgt := 14) hx hb dX5_turn_9 (by decide) (fun c_9 => absurd c_9 (by decide)) (fun c_9 => ?_)
  refine lv_iconst (v := 0) hx hb dX5_turn_12 (by decide) ?_
  exact en_z () hx hb hr hlocks hK (hP.sub [] rfl) (hD.sub [] (by decide) rfl) hS (Nat.le_of_ble_eq_true rfl) (Nat.le_of_ble_eq_true rfl) dX5_turn_13 rfl (rfl)
set_option maxHeartbeats 4000000 in
set_option maxRecDepth 100000 in
theorem c_cancel (l : Launch) (D : va_G) (cI cZ cR : ClassId) (x0 : Nat) (n0 : Nat) (t0 : Nat) (g0 : Nat) (k0 : Nat) (u0 : Nat) (m0 : Nat) (s0 : Nat) (a0 : Nat) (a1 : Nat) (a2 : Nat) (a3 : Nat) (a4 : Nat) (a5 : Nat) (a6 : Nat) (a7 : Nat) (a8 : Nat) (a9 : Nat) (t1 : Int32) (b1 : Int32) : CI l D cI cZ cR yX5_cancel wsX5_cancel { frames := 1, cells := 0, slots := 0, locals := 23 } [.ref x0, .int t1, .int b1] [(x0, .inr (5, [.ref n0, .ref t0, .ref g0, .ref k0, .ref u0, .ref m0, .ref s0, .int 0, .int 0, .int 0])), (n0, .inr (1, [.ref a0, .ref a1, .ref a2, .ref a3, .ref a4, .ref a5, .ref a6, .ref a7, .ref a8, .ref a9, .int 0, .int 0])), (a9, .inl (cZ, 16, .inl (fun _ => 0)))] (fun (r : Int32) (u : Unit) => (r = 1 ∧ ((0 ≤ t1 ∧ t1 ≤ 15) ∧ ¬ 0 = b1)) ∨ (r = 0 ∧ ¬ ((0 ≤ t1 ∧ t1 ≤ 15) ∧ ¬ 0 = b1))) (fun (u : Unit) => []) := by
  intro sz
  refine en_W (Qc := fun A => va_Qi (fun (r : Int32) (u : Unit) => (r = 1 ∧ ((0 ≤ t1 ∧ t1 ≤ 15) ∧ ¬ 0 = b1)) ∨ (r = 0 ∧ ¬ ((0 ≤ t1 ∧ t1 ≤ 15) ∧ ¬ 0 = b1))) (sB D cI cZ cR (fun (u : Unit) => []) A) A) (cc := cX5_cancel) (maxL := 3) (ret := (some .boolean)) (by decide) rfl (Nat.le_of_ble_eq_true rfl) ?_
  intro p e s m below meth c A ls hx hb hr hts hown hlocks hin hml hK hP hD hS hA hl
  have hown : s.vm.findClass RX5 = some m.cls := hown
  have hl : lv_has ls 3 [(0, .ref x0), (1, .int t1), (2, .int b1)] := hl
  have kw_0 := hts (.fieldLink RX5 10 "DelayDesk" "net" "LDelayDesk$Net;") (by decide +kernel)
  have iX5 : ∀ w ∈ u_ws RX5 TX5 10, w ∈ wsX5_cancel := by decide +kernel
  have kw_2 := hts (.fieldLink RX5 111 "DelayDesk$Net" "cancelled" "[Z") (by decide +kernel)
  have iX1 : ∀ w ∈ u_ws RX1 TX1 12, w ∈ wsX5_cancel := by decide +kernel
  refine lv_iload_n hx hb dX5_cancel_0 rfl (lv_at hl 1 rfl) ?_
  refine lv_iconst (v := 0) hx hb dX5_cancel_1 (by decide) ?_
  refine lv_bipush (v := 15) hx hb dX5_cancel_2 (by decide) ?_
  refine cl_i (wr := [(x0, .inr (5, [.ref n0, .ref t0, .ref g0, .ref k0, .ref u0, .ref m0, .ref s0, .int 0, .int 0, .int 0])), (n0, .inr (1, [.ref a0, .ref a1, .ref a2, .ref a3, .ref a4, .ref a5, .ref a6, .ref a7, .ref a8, .ref a9, .int 0, .int 0])), (a9, .inl (cZ, 16, .inl (fun _ => 0)))]) (va_runS (As := [.int t1, .int 0, .int 15]) (rest := []) ⟨hx, hb, hml, hown, hts⟩ (c_isIn l D cI cZ cR t1 0 15 s.heap.size) (va_cwS 3 hts gX5_cancel_X5_isIn rfl rfl rfl (by decide +kernel) ⟨Nat.le_of_ble_eq_true rfl, Nat.le_of_ble_eq_true rfl⟩) (pS hK hP hD [] rfl (by decide)) rfl rfl hl.1 rfl (lv_room (Nat.le_of_ble_eq_true rfl)) dX5_cancel_4 ⟨Nat.le_of_ble_eq_true rfl, Nat.le_of_ble_eq_true rfl⟩) hP hD hS hA [] [0, 1, 2] rfl rfl (by decide) (by decide) (fun r_4 u_4 H locs hw_4 hP hD hS => ?_)
  have hP : va_P D vwCl [(x0, .inr (5, [.ref n0, .ref t0, .ref g0, .ref k0, .ref u0, .ref m0, .ref s0, .int 0, .int 0, .int 0])), (n0, .inr (1, [.ref a0, .ref a1, .ref a2, .ref a3, .ref a4, .ref a5, .ref a6, .ref a7, .ref a8, .ref a9, .int 0, .int 0])), (a9, .inl (cZ, 16, .inl (fun _ => 0)))] H := hP
  have hD : va_D A [(x0, .inr (5, [.ref n0, .ref t0, .ref g0, .ref k0, .ref u0, .ref m0, .ref s0, .int 0, .int 0, .int 0])), (n0, .inr (1, [.ref a0, .ref a1, .ref a2, .ref a3, .ref a4, .ref a5, .ref a6, .ref a7, .ref a8, .ref a9, .int 0, .int 0])), (a9, .inl (cZ, 16, .inl (fun _ => 0)))] := hD
  rcases hw_4 with ⟨rfl, hf_4⟩ | ⟨rfl, hf_4⟩
  · refine lv_if_eq (tgt := 23) hx hb dX5_cancel_7 (by decide) (fun c_7 => absurd c_7 (by decide)) (fun c_7 => ?_)
    refine lv_aload_n hx hb dX5_cancel_10 rfl (lv_at hl 0 rfl) ?_
    refine va_get (D := D) (ci := 5) (v := .ref n0) (C := RX5) (T := TX5) (N := 10) hx hb hts iX5 hown hK.1 hP 0 rfl rfl 0 (by decide) kw_0 (fun _ h9 => h9) rfl dX5_cancel_11 ?_
    refine va_get (D := D) (ci := 1) (v := .ref a9) (C := RX1) (T := TX1) (N := 12) hx hb hts iX1 hown hK.1 hP 1 rfl rfl 9 (by decide) kw_2 (fun _ h9 => h9) rfl dX5_cancel_14 ?_
    refine lv_iload_n hx hb dX5_cancel_17 rfl (lv_at hl 1 rfl) ?_
    refine va_zald hx hb hK.1 hP 2 1 rfl rfl (in16 (by assumption)) dX5_cancel_18 ?_
    refine W.eq (g2 := F0 m 19 ls [.int 0]) rfl ?_
    refine lv_iload_n hx hb dX5_cancel_19 rfl (lv_at hl 2 rfl) ?_
    refine lv_icmp_ne (tgt := 25) hx hb dX5_cancel_20 (by decide) (fun c_20 => ?_) (fun c_20 => ?_)
    · refine lv_aload_n hx hb dX5_cancel_25 rfl (lv_at hl 0 rfl) ?_
      refine va_get (D := D) (ci := 5) (v := .ref n0) (C := RX5) (T := TX5) (N := 10) hx hb hts iX5 hown hK.1 hP 0 rfl rfl 0 (by decide) kw_0 (fun _ h9 => h9) rfl dX5_cancel_26 ?_
      refine lv_iload_n hx hb dX5_cancel_29 rfl (lv_at hl 1 rfl) ?_
      refine lv_iload_n hx hb dX5_cancel_30 rfl (lv_at hl 2 rfl) ?_
      refine cl_v (wr := [(x0, .inr (5, [.ref n0, .ref t0, .ref g0, .ref k0, .ref u0, .ref m0, .ref s0, .int 0, .int 0, .int 0]))]) (va_runV (As := [.int t1, .int b1]) (rest := []) ⟨hx, hb, hml, hown, hts⟩ (c_setCancelled l D cI cZ cR n0 a0 a1 a2 a3 a4 a5 a6 a7 a8 a9 t1 b1 (by assumption) H.size) (cwV 2 hts gX5_cancel_X1_setCancelled rfl rfl rfl (by decide +kernel) ⟨Nat.le_of_ble_eq_true rfl, Nat.le_of_ble_eq_true rfl⟩) (pV 1 1 hK hP hD [1, 2] rfl (by decide) rfl rfl) rfl rfl hl.1 rfl (lv_room (Nat.le_of_ble_eq_true rfl)) dX5_cancel_31 ⟨Nat.le_of_ble_eq_true rfl, Nat.le_of_ble_eq_true rfl⟩) hP hD hS hA [1, 2] [0] rfl rfl (by decide) (by decide) (fun u_31 H locs hw_31 hP hD hS => ?_)
      have hP : va_P D vwCl [(x0, .inr (5, [.ref n0, .ref t0, .ref g0, .ref k0, .ref u0, .ref m0, .ref s0, .int 0, .int 0, .int 0]))] H := hP
      have hD : va_D A [(x0, .inr (5, [.ref n0, .ref t0, .ref g0, .ref k0, .ref u0, .ref m0, .ref s0, .int 0, .int 0, .int 0]))] := hD
      refine lv_aload_n hx hb dX5_cancel_34 rfl (lv_at hl 0 rfl) ?_
      refine cl_v (wr := []) (va_runV (As := []) (rest := []) ⟨hx, hb, hml, hown, hts⟩ (c_forgetAnswers l D cI cZ cR x0 n0 t0 g0 k0 u0 m0 s0 H.size) (cwV 0 hts gX5_cancel_X5_forgetAnswers rfl rfl rfl (by decide +kernel) ⟨Nat.le_of_ble_eq_true rfl, Nat.le_of_ble_eq_true rfl⟩) (pV 5 0 hK hP hD [0] rfl (by decide) rfl rfl) rfl rfl hl.1 rfl (lv_room (Nat.le_of_ble_eq_true rfl)) dX5_cancel_35 ⟨Nat.le_of_ble_eq_true rfl, Nat.le_of_ble_eq_true rfl⟩) hP hD hS hA [0] [] rfl rfl (by decide) (by decide) (fun u_35 H locs hw_35 hP hD hS => ?_)
      have hP : va_P D vwCl [(x0, .inr (5, [.ref n0, .ref t0, .ref g0, .ref k0, .ref u0, .ref m0, .ref s0, .int 0, .int 0, .int 0]))] H := hP
      have hD : va_D A [(x0, .inr (5, [.ref n0, .ref t0, .ref g0, .ref k0, .ref u0, .ref m0, .ref s0, .int 0, .int 0, .int 0]))] := hD
      refine lv_iconst (v := 1) hx hb dX5_cancel_38 (by decide) ?_
      exact en_z () hx hb hr hlocks hK (hP.sub [] rfl) (hD.sub [] (by decide) rfl) hS (Nat.le_of_ble_eq_true rfl) (Nat.le_of_ble_eq_true rfl) dX5_cancel_39 rfl (Or.inl ⟨rfl, by first | exact ⟨by assumption, by assumption⟩ | exact fun h => absurd h.1 (by assumption) | exact fun h => h.2 (by assumption)⟩)
    · refine lv_iconst (v := 0) hx hb dX5_cancel_23 (by decide) ?_
      exact en_z () hx hb hr hlocks hK (hP.sub [] rfl) (hD.sub [] (by decide) rfl) hS (Nat.le_of_ble_eq_true rfl) (Nat.le_of_ble_eq_true rfl) dX5_cancel_24 rfl (Or.inr ⟨rfl, by first | exact ⟨by assumption, by assumption⟩ | exact fun h => absurd h.1 (by assumption) | exact fun h => h.2 (by assumption)⟩)
  · refine lv_if_eq (tgt := 23) hx hb dX5_cancel_7 (by decide) (fun c_7 => ?_) (fun c_7 => absurd (by decide) c_7)
    refine lv_iconst (v := 0) hx hb dX5_cancel_23 (by decide) ?_
    exact en_z () hx hb hr hlocks hK (hP.sub [] rfl) (hD.sub [] (by decide) rfl) hS (Nat.le_of_ble_eq_true rfl) (Nat.le_of_ble_eq_true rfl) dX5_cancel_24 rfl (Or.inr ⟨rfl, by first | exact ⟨by assumption, by assumption⟩ | exact fun h => absurd h.1 (by assumption) | exact fun h => h.2 (by assumption)⟩)
set_option maxHeartbeats 4000000 in
set_option maxRecDepth 100000 in
theorem c_group (l : Launch) (D : va_G) (cI cZ cR : ClassId) (x0 : Nat) (n0 : Nat) (t0 : Nat) (g0 : Nat) (k0 : Nat) (u0 : Nat) (m0 : Nat) (s0 : Nat) (a0 : Nat) (a1 : Nat) (a2 : Nat) (a3 : Nat) (a4 : Nat) (a5 : Nat) (a6 : Nat) (a7 : Nat) (a8 : Nat) (a9 : Nat) (v1 : Nat) (v2 : Nat) (v3 : Nat) (v4 : Nat) (v5 : Nat) (v6 : Nat) (f1 : Int32) (f2 : Int32) (f3 : Int32) (f4 : Int32) (f5 : Int32) (f6 : Int32) : CI l D cI cZ cR yX5_group wsX5_group { frames := 2, cells := 0, slots := 0, locals := 46 } [.ref x0, .int f1, .int f2, .int f3, .int f4, .int f5, .int f6] [(x0, .inr (5, [.ref n0, .ref t0, .ref g0, .ref k0, .ref u0, .ref m0, .ref s0, .int 0, .int 0, .int 0])), (t0, .inr (4, [.ref n0, .ref v1, .ref v2, .ref v3, .ref v4, .ref v5, .ref v6, .int 0])), (n0, .inr (1, [.ref a0, .ref a1, .ref a2, .ref a3, .ref a4, .ref a5, .ref a6, .ref a7, .ref a8, .ref a9, .int 0, .int 0]))] (fun (r : Int32) (u : Unit) => r = (-1)) (fun (u : Unit) => []) := by
  intro sz
  refine en_W (Qc := fun A => va_Qi (fun (r : Int32) (u : Unit) => r = (-1)) (sB D cI cZ cR (fun (u : Unit) => []) A) A) (cc := cX5_group) (maxL := 7) (ret := (some .int)) (by decide) rfl (Nat.le_of_ble_eq_true rfl) ?_
  intro p e s m below meth c A ls hx hb hr hts hown hlocks hin hml hK hP hD hS hA hl
  have hown : s.vm.findClass RX5 = some m.cls := hown
  have hl : lv_has ls 7 [(0, .ref x0), (1, .int f1), (2, .int f2), (3, .int f3), (4, .int f4), (5, .int f5), (6, .int f6)] := hl
  have kw_0 := hts (.fieldLink RX5 21 "DelayDesk" "travellers" "LDelayDesk$Travellers;") (by decide +kernel)
  have iX5 : ∀ w ∈ u_ws RX5 TX5 10, w ∈ wsX5_group := by decide +kernel
  have kw_2 := hts (.fieldLink RX5 118 "DelayDesk$Travellers" "groups" "I") (by decide +kernel)
  have iX4 : ∀ w ∈ u_ws RX4 TX4 8, w ∈ wsX5_group := by decide +kernel
  refine lv_iload_n hx hb dX5_group_0 rfl (lv_at hl 1 rfl) ?_
  refine lv_iconst (v := 1) hx hb dX5_group_1 (by decide) ?_
  refine lv_sipush (v := 1000) hx hb dX5_group_2 (by decide) ?_
  refine cl_i (wr := [(x0, .inr (5, [.ref n0, .ref t0, .ref g0, .ref k0, .ref u0, .ref m0, .ref s0, .int 0, .int 0, .int 0])), (t0, .inr (4, [.ref n0, .ref v1, .ref v2, .ref v3, .ref v4, .ref v5, .ref v6, .int 0])), (n0, .inr (1, [.ref a0, .ref a1, .ref a2, .ref a3, .ref a4, .ref a5, .ref a6, .ref a7, .ref a8, .ref a9, .int 0, .int 0]))]) (va_runS (As := [.int f1, .int 1, .int 1000]) (rest := []) ⟨hx, hb, hml, hown, hts⟩ (c_isIn l D cI cZ cR f1 1 1000 s.heap.size) (va_cwS 3 hts gX5_group_X5_isIn rfl rfl rfl (by decide +kernel) ⟨Nat.le_of_ble_eq_true rfl, Nat.le_of_ble_eq_true rfl⟩) (pS hK hP hD [] rfl (by decide)) rfl rfl hl.1 rfl (lv_room (Nat.le_of_ble_eq_true rfl)) dX5_group_5 ⟨Nat.le_of_ble_eq_true rfl, Nat.le_of_ble_eq_true rfl⟩) hP hD hS hA [] [0, 1, 2] rfl rfl (by decide) (by decide) (fun r_5 u_5 H locs hw_5 hP hD hS => ?_)
  have hP : va_P D vwCl [(x0, .inr (5, [.ref n0, .ref t0, .ref g0, .ref k0, .ref u0, .ref m0, .ref s0, .int 0, .int 0, .int 0])), (t0, .inr (4, [.ref n0, .ref v1, .ref v2, .ref v3, .ref v4, .ref v5, .ref v6, .int 0])), (n0, .inr (1, [.ref a0, .ref a1, .ref a2, .ref a3, .ref a4, .ref a5, .ref a6, .ref a7, .ref a8, .ref a9, .int 0, .int 0]))] H := hP
  have hD : va_D A [(x0, .inr (5, [.ref n0, .ref t0, .ref g0, .ref k0, .ref u0, .ref m0, .ref s0, .int 0, .int 0, .int 0])), (t0, .inr (4, [.ref n0, .ref v1, .ref v2, .ref v3, .ref v4, .ref v5, .ref v6, .int 0])), (n0, .inr (1, [.ref a0, .ref a1, .ref a2, .ref a3, .ref a4, .ref a5, .ref a6, .ref a7, .ref a8, .ref a9, .int 0, .int 0]))] := hD
  rcases hw_5 with ⟨rfl, hf_5⟩ | ⟨rfl, hf_5⟩
  · refine lv_if_eq (tgt := 51) hx hb dX5_group_8 (by decide) (fun c_8 => absurd c_8 (by decide)) (fun c_8 => ?_)
    refine lv_iload hx hb dX5_group_11 (lv_at hl 6 rfl) ?_
    refine lv_iconst (v := 0) hx hb dX5_group_13 (by decide) ?_
    refine lv_sipush (v := 1000) hx hb dX5_group_14 (by decide) ?_
    refine cl_i (wr := [(x0, .inr (5, [.ref n0, .ref t0, .ref g0, .ref k0, .ref u0, .ref m0, .ref s0, .int 0, .int 0, .int 0])), (t0, .inr (4, [.ref n0, .ref v1, .ref v2, .ref v3, .ref v4, .ref v5, .ref v6, .int 0])), (n0, .inr (1, [.ref a0, .ref a1, .ref a2, .ref a3, .ref a4, .ref a5, .ref a6, .ref a7, .ref a8, .ref a9, .int 0, .int 0]))]) (va_runS (As := [.int f6, .int 0, .int 1000]) (rest := []) ⟨hx, hb, hml, hown, hts⟩ (c_isIn l D cI cZ cR f6 0 1000 H.size) (va_cwS 3 hts gX5_group_X5_isIn rfl rfl rfl (by decide +kernel) ⟨Nat.le_of_ble_eq_true rfl, Nat.le_of_ble_eq_true rfl⟩) (pS hK hP hD [] rfl (by decide)) rfl rfl hl.1 rfl (lv_room (Nat.le_of_ble_eq_true rfl)) dX5_group_17 ⟨Nat.le_of_ble_eq_true rfl, Nat.le_of_ble_eq_true rfl⟩) hP hD hS hA [] [0, 1, 2] rfl rfl (by decide) (by decide) (fun r_17 u_17 H locs hw_17 hP hD hS => ?_)
    have hP : va_P D vwCl [(x0, .inr (5, [.ref n0, .ref t0, .ref g0, .ref k0, .ref u0, .ref m0, .ref s0, .int 0, .int 0, .int 0])), (t0, .inr (4, [.ref n0, .ref v1, .ref v2, .ref v3, .ref v4, .ref v5, .ref v6, .int 0])), (n0, .inr (1, [.ref a0, .ref a1, .ref a2, .ref a3, .ref a4, .ref a5, .ref a6, .ref a7, .ref a8, .ref a9, .int 0, .int 0]))] H := hP
    have hD : va_D A [(x0, .inr (5, [.ref n0, .ref t0, .ref g0, .ref k0, .ref u0, .ref m0, .ref s0, .int 0, .int 0, .int 0])), (t0, .inr (4, [.ref n0, .ref v1, .ref v2, .ref v3, .ref v4, .ref v5, .ref v6, .int 0])), (n0, .inr (1, [.ref a0, .ref a1, .ref a2, .ref a3, .ref a4, .ref a5, .ref a6, .ref a7, .ref a8, .ref a9, .int 0, .int 0]))] := hD
    rcases hw_17 with ⟨rfl, hf_17⟩ | ⟨rfl, hf_17⟩
    · refine lv_if_eq (tgt := 51) hx hb dX5_group_20 (by decide) (fun c_20 => absurd c_20 (by decide)) (fun c_20 => ?_)
      refine lv_aload_n hx hb dX5_group_23 rfl (lv_at hl 0 rfl) ?_
      refine va_get (D := D) (ci := 5) (v := .ref t0) (C := RX5) (T := TX5) (N := 10) hx hb hts iX5 hown hK.1 hP 0 rfl rfl 1 (by decide) kw_0 (fun _ h9 => h9) rfl dX5_group_24 ?_
      refine va_get (D := D) (ci := 4) (v := .int 0) (C := RX4) (T := TX4) (N := 8) hx hb hts iX4 hown hK.1 hP 1 rfl rfl 7 (by decide) kw_2 (fun _ h9 => h9) rfl dX5_group_27 ?_
      refine lv_bipush (v := 30) hx hb dX5_group_30 (by decide) ?_
      refine lv_icmp_ge (tgt := 51) hx hb dX5_group_32 (by decide) (fun c_32 => absurd c_32 (by decide)) (fun c_32 => ?_)
      refine lv_aload_n hx hb dX5_group_35 rfl (lv_at hl 0 rfl) ?_
      refine va_get (D := D) (ci := 5) (v := .ref t0) (C := RX5) (T := TX5) (N := 10) hx hb hts iX5 hown hK.1 hP 0 rfl rfl 1 (by decide) kw_0 (fun _ h9 => h9) rfl dX5_group_36 ?_
      refine lv_iload_n hx hb dX5_group_39 rfl (lv_at hl 2 rfl) ?_
      refine lv_iload_n hx hb dX5_group_40 rfl (lv_at hl 3 rfl) ?_
      refine lv_iload hx hb dX5_group_41 (lv_at hl 4 rfl) ?_
      refine lv_iload hx hb dX5_group_43 (lv_at hl 5 rfl) ?_
      refine cl_i (wr := [(x0, .inr (5, [.ref n0, .ref t0, .ref g0, .ref k0, .ref u0, .ref m0, .ref s0, .int 0, .int 0, .int 0]))]) (va_runV (As := [.int f2, .int f3, .int f4, .int f5]) (rest := []) ⟨hx, hb, hml, hown, hts⟩ (c_canGo l D cI cZ cR t0 v1 v2 v3 v4 v5 v6 n0 a0 a1 a2 a3 a4 a5 a6 a7 a8 a9 f2 f3 f4 f5 H.size) (cwV 4 hts gX5_group_X4_canGo rfl rfl rfl (by decide +kernel) ⟨Nat.le_of_ble_eq_true rfl, Nat.le_of_ble_eq_true rfl⟩) (pV 4 1 hK hP hD [1, 2] rfl (by decide) rfl rfl) rfl rfl hl.1 rfl (lv_room (Nat.le_of_ble_eq_true rfl)) dX5_group_45 ⟨Nat.le_of_ble_eq_true rfl, Nat.le_of_ble_eq_true rfl⟩) hP hD hS hA [1, 2] [0] rfl rfl (by decide) (by decide) (fun r_45 u_45 H locs hw_45 hP hD hS => ?_)
      have hP : va_P D vwCl [(x0, .inr (5, [.ref n0, .ref t0, .ref g0, .ref k0, .ref u0, .ref m0, .ref s0, .int 0, .int 0, .int 0])), (t0, .inr (4, [.ref n0, .ref v1, .ref v2, .ref v3, .ref v4, .ref v5, .ref v6, .int 0])), (n0, .inr (1, [.ref a0, .ref a1, .ref a2, .ref a3, .ref a4, .ref a5, .ref a6, .ref a7, .ref a8, .ref a9, .int 0, .int 0]))] H := hP
      have hD : va_D A [(x0, .inr (5, [.ref n0, .ref t0, .ref g0, .ref k0, .ref u0, .ref m0, .ref s0, .int 0, .int 0, .int 0])), (t0, .inr (4, [.ref n0, .ref v1, .ref v2, .ref v3, .ref v4, .ref v5, .ref v6, .int 0])), (n0, .inr (1, [.ref a0, .ref a1, .ref a2, .ref a3, .ref a4, .ref a5, .ref a6, .ref a7, .ref a8, .ref a9, .int 0, .int 0]))] := hD
      subst hw_45
      refine lv_if_ne (tgt := 53) hx hb dX5_group_48 (by decide) (fun c_48 => absurd c_48 (by decide)) (fun c_48 => ?_)
      refine lv_iconst (v := (-1)) hx hb dX5_group_51 (by decide) ?_
      exact en_i () hx hb hr hlocks hK (hP.sub [] rfl) (hD.sub [] (by decide) rfl) hS (Nat.le_of_ble_eq_true rfl) (Nat.le_of_ble_eq_true rfl) dX5_group_52 (rfl)
    · refine lv_if_eq (tgt := 51) hx hb dX5_group_20 (by decide) (fun c_20 => ?_) (fun c_20 => absurd (by decide) c_20)
      refine lv_iconst (v := (-1)) hx hb dX5_group_51 (by decide) ?_
      exact en_i () hx hb hr hlocks hK (hP.sub [] rfl) (hD.sub [] (by decide) rfl) hS (Nat.le_of_ble_eq_true rfl) (Nat.le_of_ble_eq_true rfl) dX5_group_52 (rfl)
  · refine lv_if_eq (tgt := 51) hx hb dX5_group_8 (by decide) (fun c_8 => ?_) (fun c_8 => absurd (by decide) c_8)
    refine lv_iconst (v := (-1)) hx hb dX5_group_51 (by decide) ?_
    exact en_i () hx hb hr hlocks hK (hP.sub [] rfl) (hD.sub [] (by decide) rfl) hS (Nat.le_of_ble_eq_true rfl) (Nat.le_of_ble_eq_true rfl) dX5_group_52 (rfl)
set_option maxHeartbeats 4000000 in
set_option maxRecDepth 100000 in
theorem c_spread (l : Launch) (D : va_G) (cI cZ cR : ClassId) (x0 : Nat) (n0 : Nat) (t0 : Nat) (g0 : Nat) (k0 : Nat) (u0 : Nat) (m0 : Nat) (s0 : Nat) (a0 : Nat) (a1 : Nat) (a2 : Nat) (a3 : Nat) (a4 : Nat) (a5 : Nat) (a6 : Nat) (a7 : Nat) (a8 : Nat) (a9 : Nat) : CI l D cI cZ cR yX5_spread wsX5_spread { frames := 3, cells := 0, slots := 0, locals := 65 } [.ref x0] [(x0, .inr (5, [.ref n0, .ref t0, .ref g0, .ref k0, .ref u0, .ref m0, .ref s0, .int 0, .int 0, .int 0])), (n0, .inr (1, [.ref a0, .ref a1, .ref a2, .ref a3, .ref a4, .ref a5, .ref a6, .ref a7, .ref a8, .ref a9, .int 0, .int 0]))] (fun (r : Int32) (u : Unit) => r = 1) (fun (u : Unit) => []) := by
  intro sz
  refine en_W (Qc := fun A => va_Qi (fun (r : Int32) (u : Unit) => r = 1) (sB D cI cZ cR (fun (u : Unit) => []) A) A) (cc := cX5_spread) (maxL := 1) (ret := (some .int)) (by decide) rfl (Nat.le_of_ble_eq_true rfl) ?_
  intro p e s m below meth c A ls hx hb hr hts hown hlocks hin hml hK hP hD hS hA hl
  have hown : s.vm.findClass RX5 = some m.cls := hown
  have hl : lv_has ls 1 [(0, .ref x0)] := hl
  refine lv_aload_n hx hb dX5_spread_0 rfl (lv_at hl 0 rfl) ?_
  refine cl_i (wr := []) (va_runV (As := []) (rest := []) ⟨hx, hb, hml, hown, hts⟩ (c_knowSpread l D cI cZ cR x0 n0 t0 g0 k0 u0 m0 s0 a0 a1 a2 a3 a4 a5 a6 a7 a8 a9 s.heap.size) (cwV 0 hts gX5_spread_X5_knowSpread rfl rfl rfl (by decide +kernel) ⟨Nat.le_of_ble_eq_true rfl, Nat.le_of_ble_eq_true rfl⟩) (pV 5 0 hK hP hD [0, 1] rfl (by decide) rfl rfl) rfl rfl hl.1 rfl (lv_room (Nat.le_of_ble_eq_true rfl)) dX5_spread_1 ⟨Nat.le_of_ble_eq_true rfl, Nat.le_of_ble_eq_true rfl⟩) hP hD hS hA [0, 1] [] rfl rfl (by decide) (by decide) (fun r_1 u_1 H locs hw_1 hP hD hS => ?_)
  have hP : va_P D vwCl [(x0, .inr (5, [.ref n0, .ref t0, .ref g0, .ref k0, .ref u0, .ref m0, .ref s0, .int 1, .int 1, .int 0])), (n0, .inr (1, [.ref a0, .ref a1, .ref a2, .ref a3, .ref a4, .ref a5, .ref a6, .ref a7, .ref a8, .ref a9, .int 0, .int 0]))] H := hP
  have hD : va_D A [(x0, .inr (5, [.ref n0, .ref t0, .ref g0, .ref k0, .ref u0, .ref m0, .ref s0, .int 1, .int 1, .int 0])), (n0, .inr (1, [.ref a0, .ref a1, .ref a2, .ref a3, .ref a4, .ref a5, .ref a6, .ref a7, .ref a8, .ref a9, .int 0, .int 0]))] := hD
  subst hw_1
  refine cl_i (wr := [(x0, .inr (5, [.ref n0, .ref t0, .ref g0, .ref k0, .ref u0, .ref m0, .ref s0, .int 1, .int 1, .int 0])), (n0, .inr (1, [.ref a0, .ref a1, .ref a2, .ref a3, .ref a4, .ref a5, .ref a6, .ref a7, .ref a8, .ref a9, .int 0, .int 0]))]) (va_runS (As := [.int 1]) (rest := []) ⟨hx, hb, hml, hown, hts⟩ (c_asNumber1 l D cI cZ cR H.size) (va_cwS 1 hts gX5_spread_X5_asNumber rfl rfl rfl (by decide +kernel) ⟨Nat.le_of_ble_eq_true rfl, Nat.le_of_ble_eq_true rfl⟩) (pS hK hP hD [] rfl (by decide)) rfl rfl hl.1 rfl (lv_room (Nat.le_of_ble_eq_true rfl)) dX5_spread_4 ⟨Nat.le_of_ble_eq_true rfl, Nat.le_of_ble_eq_true rfl⟩) hP hD hS hA [] [0, 1] rfl rfl (by decide) (by decide) (fun r_4 u_4 H locs hw_4 hP hD hS => ?_)
  have hP : va_P D vwCl [(x0, .inr (5, [.ref n0, .ref t0, .ref g0, .ref k0, .ref u0, .ref m0, .ref s0, .int 1, .int 1, .int 0])), (n0, .inr (1, [.ref a0, .ref a1, .ref a2, .ref a3, .ref a4, .ref a5, .ref a6, .ref a7, .ref a8, .ref a9, .int 0, .int 0]))] H := hP
  have hD : va_D A [(x0, .inr (5, [.ref n0, .ref t0, .ref g0, .ref k0, .ref u0, .ref m0, .ref s0, .int 1, .int 1, .int 0])), (n0, .inr (1, [.ref a0, .ref a1, .ref a2, .ref a3, .ref a4, .ref a5, .ref a6, .ref a7, .ref a8, .ref a9, .int 0, .int 0]))] := hD
  subst hw_4
  exact en_i () hx hb hr hlocks hK (hP.sub [] rfl) (hD.sub [] (by decide) rfl) hS (Nat.le_of_ble_eq_true rfl) (Nat.le_of_ble_eq_true rfl) dX5_spread_7 (rfl)
set_option maxHeartbeats 4000000 in
set_option maxRecDepth 100000 in
theorem c_of (l : Launch) (D : va_G) (cI cZ cR : ClassId) (x0 : Nat) (n0 : Nat) (t0 : Nat) (g0 : Nat) (k0 : Nat) (u0 : Nat) (m0 : Nat) (s0 : Nat) (a0 : Nat) (a1 : Nat) (a2 : Nat) (a3 : Nat) (a4 : Nat) (a5 : Nat) (a6 : Nat) (a7 : Nat) (a8 : Nat) (a9 : Nat) (e0 : Int32) (f1 : Int32) : CI l D cI cZ cR yX5_of wsX5_of { frames := 1, cells := 0, slots := 0, locals := 21 } [.ref x0, .int e0, .int f1] [(x0, .inr (5, [.ref n0, .ref t0, .ref g0, .ref k0, .ref u0, .ref m0, .ref s0, .int 0, .int 0, .int 0])), (n0, .inr (1, [.ref a0, .ref a1, .ref a2, .ref a3, .ref a4, .ref a5, .ref a6, .ref a7, .ref a8, .ref a9, .int 0, .int 0]))] (fun (r : Int32) (u : Unit) => r = (-1)) (fun (u : Unit) => []) := by
  intro sz
  refine en_W (Qc := fun A => va_Qi (fun (r : Int32) (u : Unit) => r = (-1)) (sB D cI cZ cR (fun (u : Unit) => []) A) A) (cc := cX5_of) (maxL := 3) (ret := (some .int)) (by decide) rfl (Nat.le_of_ble_eq_true rfl) ?_
  intro p e s m below meth c A ls hx hb hr hts hown hlocks hin hml hK hP hD hS hA hl
  have hown : s.vm.findClass RX5 = some m.cls := hown
  have hl : lv_has ls 3 [(0, .ref x0), (1, .int e0), (2, .int f1)] := hl
  have kw_0 := hts (.fieldLink RX5 10 "DelayDesk" "net" "LDelayDesk$Net;") (by decide +kernel)
  have iX5 : ∀ w ∈ u_ws RX5 TX5 10, w ∈ wsX5_of := by decide +kernel
  refine lv_aload_n hx hb dX5_of_0 rfl (lv_at hl 0 rfl) ?_
  refine va_get (D := D) (ci := 5) (v := .ref n0) (C := RX5) (T := TX5) (N := 10) hx hb hts iX5 hown hK.1 hP 0 rfl rfl 0 (by decide) kw_0 (fun _ h9 => h9) rfl dX5_of_1 ?_
  refine lv_iload_n hx hb dX5_of_4 rfl (lv_at hl 1 rfl) ?_
  refine cl_i (wr := [(x0, .inr (5, [.ref n0, .ref t0, .ref g0, .ref k0, .ref u0, .ref m0, .ref s0, .int 0, .int 0, .int 0]))]) (va_runV (As := [.int e0]) (rest := []) ⟨hx, hb, hml, hown, hts⟩ (c_hasEvent l D cI cZ cR n0 a0 a1 a2 a3 a4 a5 a6 a7 a8 a9 e0 s.heap.size) (cwV 1 hts gX5_of_X1_hasEvent rfl rfl rfl (by decide +kernel) ⟨Nat.le_of_ble_eq_true rfl, Nat.le_of_ble_eq_true rfl⟩) (pV 1 1 hK hP hD [1] rfl (by decide) rfl rfl) rfl rfl hl.1 rfl (lv_room (Nat.le_of_ble_eq_true rfl)) dX5_of_5 ⟨Nat.le_of_ble_eq_true rfl, Nat.le_of_ble_eq_true rfl⟩) hP hD hS hA [1] [0] rfl rfl (by decide) (by decide) (fun r_5 u_5 H locs hw_5 hP hD hS => ?_)
  have hP : va_P D vwCl [(x0, .inr (5, [.ref n0, .ref t0, .ref g0, .ref k0, .ref u0, .ref m0, .ref s0, .int 0, .int 0, .int 0])), (n0, .inr (1, [.ref a0, .ref a1, .ref a2, .ref a3, .ref a4, .ref a5, .ref a6, .ref a7, .ref a8, .ref a9, .int 0, .int 0]))] H := hP
  have hD : va_D A [(x0, .inr (5, [.ref n0, .ref t0, .ref g0, .ref k0, .ref u0, .ref m0, .ref s0, .int 0, .int 0, .int 0])), (n0, .inr (1, [.ref a0, .ref a1, .ref a2, .ref a3, .ref a4, .ref a5, .ref a6, .ref a7, .ref a8, .ref a9, .int 0, .int 0]))] := hD
  subst hw_5
  refine lv_if_ne (tgt := 13) hx hb dX5_of_8 (by decide) (fun c_8 => absurd c_8 (by decide)) (fun c_8 => ?_)
  refine lv_iconst (v := (-1)) hx hb dX5_of_11 (by decide) ?_
  exact en_i () hx hb hr hlocks hK (hP.sub [] rfl) (hD.sub [] (by decide) rfl) hS (Nat.le_of_ble_eq_true rfl) (Nat.le_of_ble_eq_true rfl) dX5_of_12 (rfl)
set_option maxHeartbeats 4000000 in
set_option maxRecDepth 100000 in
theorem c_look (l : Launch) (D : va_G) (cI cZ cR : ClassId) (x0 : Nat) (n0 : Nat) (t0 : Nat) (g0 : Nat) (k0 : Nat) (u0 : Nat) (m0 : Nat) (s0 : Nat) (a0 : Nat) (a1 : Nat) (a2 : Nat) (a3 : Nat) (a4 : Nat) (a5 : Nat) (a6 : Nat) (a7 : Nat) (a8 : Nat) (a9 : Nat) (e0 : Int32) (f1 : Int32) : CI l D cI cZ cR yX5_look wsX5_look { frames := 1, cells := 0, slots := 0, locals := 21 } [.ref x0, .int e0, .int f1] [(x0, .inr (5, [.ref n0, .ref t0, .ref g0, .ref k0, .ref u0, .ref m0, .ref s0, .int 0, .int 0, .int 0])), (n0, .inr (1, [.ref a0, .ref a1, .ref a2, .ref a3, .ref a4, .ref a5, .ref a6, .ref a7, .ref a8, .ref a9, .int 0, .int 0]))] (fun (r : Int32) (u : Unit) => r = (-1)) (fun (u : Unit) => []) := by
  intro sz
  refine en_W (Qc := fun A => va_Qi (fun (r : Int32) (u : Unit) => r = (-1)) (sB D cI cZ cR (fun (u : Unit) => []) A) A) (cc := cX5_look) (maxL := 3) (ret := (some .int)) (by decide) rfl (Nat.le_of_ble_eq_true rfl) ?_
  intro p e s m below meth c A ls hx hb hr hts hown hlocks hin hml hK hP hD hS hA hl
  have hown : s.vm.findClass RX5 = some m.cls := hown
  have hl : lv_has ls 3 [(0, .ref x0), (1, .int e0), (2, .int f1)] := hl
  have kw_0 := hts (.fieldLink RX5 10 "DelayDesk" "net" "LDelayDesk$Net;") (by decide +kernel)
  have iX5 : ∀ w ∈ u_ws RX5 TX5 10, w ∈ wsX5_look := by decide +kernel
  refine lv_aload_n hx hb dX5_look_0 rfl (lv_at hl 0 rfl) ?_
  refine va_get (D := D) (ci := 5) (v := .ref n0) (C := RX5) (T := TX5) (N := 10) hx hb hts iX5 hown hK.1 hP 0 rfl rfl 0 (by decide) kw_0 (fun _ h9 => h9) rfl dX5_look_1 ?_
  refine lv_iload_n hx hb dX5_look_4 rfl (lv_at hl 1 rfl) ?_
  refine cl_i (wr := [(x0, .inr (5, [.ref n0, .ref t0, .ref g0, .ref k0, .ref u0, .ref m0, .ref s0, .int 0, .int 0, .int 0]))]) (va_runV (As := [.int e0]) (rest := []) ⟨hx, hb, hml, hown, hts⟩ (c_hasActivity l D cI cZ cR n0 a0 a1 a2 a3 a4 a5 a6 a7 a8 a9 e0 s.heap.size) (cwV 1 hts gX5_look_X1_hasActivity rfl rfl rfl (by decide +kernel) ⟨Nat.le_of_ble_eq_true rfl, Nat.le_of_ble_eq_true rfl⟩) (pV 1 1 hK hP hD [1] rfl (by decide) rfl rfl) rfl rfl hl.1 rfl (lv_room (Nat.le_of_ble_eq_true rfl)) dX5_look_5 ⟨Nat.le_of_ble_eq_true rfl, Nat.le_of_ble_eq_true rfl⟩) hP hD hS hA [1] [0] rfl rfl (by decide) (by decide) (fun r_5 u_5 H locs hw_5 hP hD hS => ?_)
  have hP : va_P D vwCl [(x0, .inr (5, [.ref n0, .ref t0, .ref g0, .ref k0, .ref u0, .ref m0, .ref s0, .int 0, .int 0, .int 0])), (n0, .inr (1, [.ref a0, .ref a1, .ref a2, .ref a3, .ref a4, .ref a5, .ref a6, .ref a7, .ref a8, .ref a9, .int 0, .int 0]))] H := hP
  have hD : va_D A [(x0, .inr (5, [.ref n0, .ref t0, .ref g0, .ref k0, .ref u0, .ref m0, .ref s0, .int 0, .int 0, .int 0])), (n0, .inr (1, [.ref a0, .ref a1, .ref a2, .ref a3, .ref a4, .ref a5, .ref a6, .ref a7, .ref a8, .ref a9, .int 0, .int 0]))] := hD
  subst hw_5
  refine lv_if_ne (tgt := 13) hx hb dX5_look_8 (by decide) (fun c_8 => absurd c_8 (by decide)) (fun c_8 => ?_)
  refine lv_iconst (v := (-1)) hx hb dX5_look_11 (by decide) ?_
  exact en_i () hx hb hr hlocks hK (hP.sub [] rfl) (hD.sub [] (by decide) rfl) hS (Nat.le_of_ble_eq_true rfl) (Nat.le_of_ble_eq_true rfl) dX5_look_12 (rfl)
set_option maxHeartbeats 4000000 in
set_option maxRecDepth 100000 in
theorem c_cause (l : Launch) (D : va_G) (cI cZ cR : ClassId) (x0 : Nat) (n0 : Nat) (t0 : Nat) (g0 : Nat) (k0 : Nat) (u0 : Nat) (m0 : Nat) (s0 : Nat) (a0 : Nat) (a1 : Nat) (a2 : Nat) (a3 : Nat) (a4 : Nat) (a5 : Nat) (a6 : Nat) (a7 : Nat) (a8 : Nat) (a9 : Nat) (e0 : Int32) : CI l D cI cZ cR yX5_cause wsX5_cause { frames := 3, cells := 0, slots := 0, locals := 65 } [.ref x0, .int e0] [(x0, .inr (5, [.ref n0, .ref t0, .ref g0, .ref k0, .ref u0, .ref m0, .ref s0, .int 0, .int 0, .int 0])), (n0, .inr (1, [.ref a0, .ref a1, .ref a2, .ref a3, .ref a4, .ref a5, .ref a6, .ref a7, .ref a8, .ref a9, .int 0, .int 0]))] (fun (r : Int32) (u : Unit) => r = (-1)) (fun (u : Unit) => []) := by
  intro sz
  refine en_W (Qc := fun A => va_Qi (fun (r : Int32) (u : Unit) => r = (-1)) (sB D cI cZ cR (fun (u : Unit) => []) A) A) (cc := cX5_cause) (maxL := 2) (ret := (some .int)) (by decide) rfl (Nat.le_of_ble_eq_true rfl) ?_
  intro p e s m below meth c A ls hx hb hr hts hown hlocks hin hml hK hP hD hS hA hl
  have hown : s.vm.findClass RX5 = some m.cls := hown
  have hl : lv_has ls 2 [(0, .ref x0), (1, .int e0)] := hl
  refine lv_aload_n hx hb dX5_cause_0 rfl (lv_at hl 0 rfl) ?_
  refine cl_i (wr := []) (va_runV (As := []) (rest := []) ⟨hx, hb, hml, hown, hts⟩ (c_knowSpread l D cI cZ cR x0 n0 t0 g0 k0 u0 m0 s0 a0 a1 a2 a3 a4 a5 a6 a7 a8 a9 s.heap.size) (cwV 0 hts gX5_cause_X5_knowSpread rfl rfl rfl (by decide +kernel) ⟨Nat.le_of_ble_eq_true rfl, Nat.le_of_ble_eq_true rfl⟩) (pV 5 0 hK hP hD [0, 1] rfl (by decide) rfl rfl) rfl rfl hl.1 rfl (lv_room (Nat.le_of_ble_eq_true rfl)) dX5_cause_1 ⟨Nat.le_of_ble_eq_true rfl, Nat.le_of_ble_eq_true rfl⟩) hP hD hS hA [0, 1] [] rfl rfl (by decide) (by decide) (fun r_1 u_1 H locs hw_1 hP hD hS => ?_)
  have hP : va_P D vwCl [(x0, .inr (5, [.ref n0, .ref t0, .ref g0, .ref k0, .ref u0, .ref m0, .ref s0, .int 1, .int 1, .int 0])), (n0, .inr (1, [.ref a0, .ref a1, .ref a2, .ref a3, .ref a4, .ref a5, .ref a6, .ref a7, .ref a8, .ref a9, .int 0, .int 0]))] H := hP
  have hD : va_D A [(x0, .inr (5, [.ref n0, .ref t0, .ref g0, .ref k0, .ref u0, .ref m0, .ref s0, .int 1, .int 1, .int 0])), (n0, .inr (1, [.ref a0, .ref a1, .ref a2, .ref a3, .ref a4, .ref a5, .ref a6, .ref a7, .ref a8, .ref a9, .int 0, .int 0]))] := hD
  subst hw_1
  refine lv_if_eq (tgt := 23) hx hb dX5_cause_4 (by decide) (fun c_4 => absurd c_4 (by decide)) (fun c_4 => ?_)
  refine lv_aload_n hx hb dX5_cause_7 rfl (lv_at hl 0 rfl) ?_
  refine lv_iload_n hx hb dX5_cause_8 rfl (lv_at hl 1 rfl) ?_
  refine cl_i (wr := []) (va_runV (As := [.int e0]) (rest := []) ⟨hx, hb, hml, hown, hts⟩ (c_isLate l D cI cZ cR x0 n0 t0 g0 k0 u0 m0 s0 a0 a1 a2 a3 a4 a5 a6 a7 a8 a9 e0 H.size) (cwV 1 hts gX5_cause_X5_isLate rfl rfl rfl (by decide +kernel) ⟨Nat.le_of_ble_eq_true rfl, Nat.le_of_ble_eq_true rfl⟩) (pV 5 0 hK hP hD [0, 1] rfl (by decide) rfl rfl) rfl rfl hl.1 rfl (lv_room (Nat.le_of_ble_eq_true rfl)) dX5_cause_9 ⟨Nat.le_of_ble_eq_true rfl, Nat.le_of_ble_eq_true rfl⟩) hP hD hS hA [0, 1] [] rfl rfl (by decide) (by decide) (fun r_9 u_9 H locs hw_9 hP hD hS => ?_)
  have hP : va_P D vwCl [(x0, .inr (5, [.ref n0, .ref t0, .ref g0, .ref k0, .ref u0, .ref m0, .ref s0, .int 1, .int 1, .int 0])), (n0, .inr (1, [.ref a0, .ref a1, .ref a2, .ref a3, .ref a4, .ref a5, .ref a6, .ref a7, .ref a8, .ref a9, .int 0, .int 0]))] H := hP
  have hD : va_D A [(x0, .inr (5, [.ref n0, .ref t0, .ref g0, .ref k0, .ref u0, .ref m0, .ref s0, .int 1, .int 1, .int 0])), (n0, .inr (1, [.ref a0, .ref a1, .ref a2, .ref a3, .ref a4, .ref a5, .ref a6, .ref a7, .ref a8, .ref a9, .int 0, .int 0]))] := hD
  subst hw_9
  refine lv_if_eq (tgt := 23) hx hb dX5_cause_12 (by decide) (fun c_12 => ?_) (fun c_12 => absurd (by decide) c_12)
  refine lv_iconst (v := (-1)) hx hb dX5_cause_23 (by decide) ?_
  exact en_i () hx hb hr hlocks hK (hP.sub [] rfl) (hD.sub [] (by decide) rfl) hS (Nat.le_of_ble_eq_true rfl) (Nat.le_of_ble_eq_true rfl) dX5_cause_24 (rfl)
set_option maxHeartbeats 4000000 in
set_option maxRecDepth 100000 in
theorem c_way (l : Launch) (D : va_G) (cI cZ cR : ClassId) (x0 : Nat) (n0 : Nat) (t0 : Nat) (g0 : Nat) (k0 : Nat) (u0 : Nat) (m0 : Nat) (s0 : Nat) (a0 : Nat) (a1 : Nat) (a2 : Nat) (a3 : Nat) (a4 : Nat) (a5 : Nat) (a6 : Nat) (a7 : Nat) (a8 : Nat) (a9 : Nat) (e0 : Int32) (f1 : Int32) : CI l D cI cZ cR yX5_way wsX5_way { frames := 3, cells := 0, slots := 0, locals := 65 } [.ref x0, .int e0, .int f1] [(x0, .inr (5, [.ref n0, .ref t0, .ref g0, .ref k0, .ref u0, .ref m0, .ref s0, .int 0, .int 0, .int 0])), (n0, .inr (1, [.ref a0, .ref a1, .ref a2, .ref a3, .ref a4, .ref a5, .ref a6, .ref a7, .ref a8, .ref a9, .int 0, .int 0]))] (fun (r : Int32) (u : Unit) => r = (-1)) (fun (u : Unit) => []) := by
  intro sz
  refine en_W (Qc := fun A => va_Qi (fun (r : Int32) (u : Unit) => r = (-1)) (sB D cI cZ cR (fun (u : Unit) => []) A) A) (cc := cX5_way) (maxL := 6) (ret := (some .int)) (by decide) rfl (Nat.le_of_ble_eq_true rfl) ?_
  intro p e s m below meth c A ls hx hb hr hts hown hlocks hin hml hK hP hD hS hA hl
  have hown : s.vm.findClass RX5 = some m.cls := hown
  have hl : lv_has ls 6 [(0, .ref x0), (1, .int e0), (2, .int f1)] := hl
  refine lv_aload_n hx hb dX5_way_0 rfl (lv_at hl 0 rfl) ?_
  refine cl_i (wr := []) (va_runV (As := []) (rest := []) ⟨hx, hb, hml, hown, hts⟩ (c_knowSpread l D cI cZ cR x0 n0 t0 g0 k0 u0 m0 s0 a0 a1 a2 a3 a4 a5 a6 a7 a8 a9 s.heap.size) (cwV 0 hts gX5_way_X5_knowSpread rfl rfl rfl (by decide +kernel) ⟨Nat.le_of_ble_eq_true rfl, Nat.le_of_ble_eq_true rfl⟩) (pV 5 0 hK hP hD [0, 1] rfl (by decide) rfl rfl) rfl rfl hl.1 rfl (lv_room (Nat.le_of_ble_eq_true rfl)) dX5_way_1 ⟨Nat.le_of_ble_eq_true rfl, Nat.le_of_ble_eq_true rfl⟩) hP hD hS hA [0, 1] [] rfl rfl (by decide) (by decide) (fun r_1 u_1 H locs hw_1 hP hD hS => ?_)
  have hP : va_P D vwCl [(x0, .inr (5, [.ref n0, .ref t0, .ref g0, .ref k0, .ref u0, .ref m0, .ref s0, .int 1, .int 1, .int 0])), (n0, .inr (1, [.ref a0, .ref a1, .ref a2, .ref a3, .ref a4, .ref a5, .ref a6, .ref a7, .ref a8, .ref a9, .int 0, .int 0]))] H := hP
  have hD : va_D A [(x0, .inr (5, [.ref n0, .ref t0, .ref g0, .ref k0, .ref u0, .ref m0, .ref s0, .int 1, .int 1, .int 0])), (n0, .inr (1, [.ref a0, .ref a1, .ref a2, .ref a3, .ref a4, .ref a5, .ref a6, .ref a7, .ref a8, .ref a9, .int 0, .int 0]))] := hD
  subst hw_1
  refine lv_if_eq (tgt := 25) hx hb dX5_way_4 (by decide) (fun c_4 => absurd c_4 (by decide)) (fun c_4 => ?_)
  refine lv_aload_n hx hb dX5_way_7 rfl (lv_at hl 0 rfl) ?_
  refine lv_iload_n hx hb dX5_way_8 rfl (lv_at hl 1 rfl) ?_
  refine cl_i (wr := []) (va_runV (As := [.int e0]) (rest := []) ⟨hx, hb, hml, hown, hts⟩ (c_isLate l D cI cZ cR x0 n0 t0 g0 k0 u0 m0 s0 a0 a1 a2 a3 a4 a5 a6 a7 a8 a9 e0 H.size) (cwV 1 hts gX5_way_X5_isLate rfl rfl rfl (by decide +kernel) ⟨Nat.le_of_ble_eq_true rfl, Nat.le_of_ble_eq_true rfl⟩) (pV 5 0 hK hP hD [0, 1] rfl (by decide) rfl rfl) rfl rfl hl.1 rfl (lv_room (Nat.le_of_ble_eq_true rfl)) dX5_way_9 ⟨Nat.le_of_ble_eq_true rfl, Nat.le_of_ble_eq_true rfl⟩) hP hD hS hA [0, 1] [] rfl rfl (by decide) (by decide) (fun r_9 u_9 H locs hw_9 hP hD hS => ?_)
  have hP : va_P D vwCl [(x0, .inr (5, [.ref n0, .ref t0, .ref g0, .ref k0, .ref u0, .ref m0, .ref s0, .int 1, .int 1, .int 0])), (n0, .inr (1, [.ref a0, .ref a1, .ref a2, .ref a3, .ref a4, .ref a5, .ref a6, .ref a7, .ref a8, .ref a9, .int 0, .int 0]))] H := hP
  have hD : va_D A [(x0, .inr (5, [.ref n0, .ref t0, .ref g0, .ref k0, .ref u0, .ref m0, .ref s0, .int 1, .int 1, .int 0])), (n0, .inr (1, [.ref a0, .ref a1, .ref a2, .ref a3, .ref a4, .ref a5, .ref a6, .ref a7, .ref a8, .ref a9, .int 0, .int 0]))] := hD
  subst hw_9
  refine lv_if_eq (tgt := 25) hx hb dX5_way_12 (by decide) (fun c_12 => ?_) (fun c_12 => absurd (by decide) c_12)
  refine lv_iconst (v := (-1)) hx hb dX5_way_25 (by decide) ?_
  exact en_i () hx hb hr hlocks hK (hP.sub [] rfl) (hD.sub [] (by decide) rfl) hS (Nat.le_of_ble_eq_true rfl) (Nat.le_of_ble_eq_true rfl) dX5_way_26 (rfl)
set_option maxHeartbeats 4000000 in
set_option maxRecDepth 100000 in
theorem c_ring (l : Launch) (D : va_G) (cI cZ cR : ClassId) (x0 : Nat) (n0 : Nat) (t0 : Nat) (g0 : Nat) (k0 : Nat) (u0 : Nat) (m0 : Nat) (s0 : Nat) (a0 : Nat) (a1 : Nat) (a2 : Nat) (a3 : Nat) (a4 : Nat) (a5 : Nat) (a6 : Nat) (a7 : Nat) (a8 : Nat) (a9 : Nat) (e0 : Int32) : CI l D cI cZ cR yX5_ring wsX5_ring { frames := 3, cells := 0, slots := 0, locals := 65 } [.ref x0, .int e0] [(x0, .inr (5, [.ref n0, .ref t0, .ref g0, .ref k0, .ref u0, .ref m0, .ref s0, .int 0, .int 0, .int 0])), (n0, .inr (1, [.ref a0, .ref a1, .ref a2, .ref a3, .ref a4, .ref a5, .ref a6, .ref a7, .ref a8, .ref a9, .int 0, .int 0]))] (fun (r : Int32) (u : Unit) => r = (-1)) (fun (u : Unit) => []) := by
  intro sz
  refine en_W (Qc := fun A => va_Qi (fun (r : Int32) (u : Unit) => r = (-1)) (sB D cI cZ cR (fun (u : Unit) => []) A) A) (cc := cX5_ring) (maxL := 2) (ret := (some .int)) (by decide) rfl (Nat.le_of_ble_eq_true rfl) ?_
  intro p e s m below meth c A ls hx hb hr hts hown hlocks hin hml hK hP hD hS hA hl
  have hown : s.vm.findClass RX5 = some m.cls := hown
  have hl : lv_has ls 2 [(0, .ref x0), (1, .int e0)] := hl
  refine lv_aload_n hx hb dX5_ring_0 rfl (lv_at hl 0 rfl) ?_
  refine cl_i (wr := []) (va_runV (As := []) (rest := []) ⟨hx, hb, hml, hown, hts⟩ (c_knowSpread l D cI cZ cR x0 n0 t0 g0 k0 u0 m0 s0 a0 a1 a2 a3 a4 a5 a6 a7 a8 a9 s.heap.size) (cwV 0 hts gX5_ring_X5_knowSpread rfl rfl rfl (by decide +kernel) ⟨Nat.le_of_ble_eq_true rfl, Nat.le_of_ble_eq_true rfl⟩) (pV 5 0 hK hP hD [0, 1] rfl (by decide) rfl rfl) rfl rfl hl.1 rfl (lv_room (Nat.le_of_ble_eq_true rfl)) dX5_ring_1 ⟨Nat.le_of_ble_eq_true rfl, Nat.le_of_ble_eq_true rfl⟩) hP hD hS hA [0, 1] [] rfl rfl (by decide) (by decide) (fun r_1 u_1 H locs hw_1 hP hD hS => ?_)
  have hP : va_P D vwCl [(x0, .inr (5, [.ref n0, .ref t0, .ref g0, .ref k0, .ref u0, .ref m0, .ref s0, .int 1, .int 1, .int 0])), (n0, .inr (1, [.ref a0, .ref a1, .ref a2, .ref a3, .ref a4, .ref a5, .ref a6, .ref a7, .ref a8, .ref a9, .int 0, .int 0]))] H := hP
  have hD : va_D A [(x0, .inr (5, [.ref n0, .ref t0, .ref g0, .ref k0, .ref u0, .ref m0, .ref s0, .int 1, .int 1, .int 0])), (n0, .inr (1, [.ref a0, .ref a1, .ref a2, .ref a3, .ref a4, .ref a5, .ref a6, .ref a7, .ref a8, .ref a9, .int 0, .int 0]))] := hD
  subst hw_1
  refine lv_if_eq (tgt := 9) hx hb dX5_ring_4 (by decide) (fun c_4 => absurd c_4 (by decide)) (fun c_4 => ?_)
  refine lv_iconst (v := (-1)) hx hb dX5_ring_7 (by decide) ?_
  exact en_i () hx hb hr hlocks hK (hP.sub [] rfl) (hD.sub [] (by decide) rfl) hS (Nat.le_of_ble_eq_true rfl) (Nat.le_of_ble_eq_true rfl) dX5_ring_8 (rfl)
set_option maxHeartbeats 4000000 in
set_option maxRecDepth 100000 in
theorem c_told (l : Launch) (D : va_G) (cI cZ cR : ClassId) (x0 : Nat) (n0 : Nat) (t0 : Nat) (g0 : Nat) (k0 : Nat) (u0 : Nat) (m0 : Nat) (s0 : Nat) (v1 : Nat) (v2 : Nat) (v3 : Nat) (v4 : Nat) (v5 : Nat) (v6 : Nat) (e0 : Int32) (f1 : Int32) : CI l D cI cZ cR yX5_told wsX5_told { frames := 1, cells := 0, slots := 0, locals := 21 } [.ref x0, .int e0, .int f1] [(x0, .inr (5, [.ref n0, .ref t0, .ref g0, .ref k0, .ref u0, .ref m0, .ref s0, .int 0, .int 0, .int 0])), (t0, .inr (4, [.ref n0, .ref v1, .ref v2, .ref v3, .ref v4, .ref v5, .ref v6, .int 0]))] (fun (r : Int32) (u : Unit) => r = (-1)) (fun (u : Unit) => []) := by
  intro sz
  refine en_W (Qc := fun A => va_Qi (fun (r : Int32) (u : Unit) => r = (-1)) (sB D cI cZ cR (fun (u : Unit) => []) A) A) (cc := cX5_told) (maxL := 3) (ret := (some .int)) (by decide) rfl (Nat.le_of_ble_eq_true rfl) ?_
  intro p e s m below meth c A ls hx hb hr hts hown hlocks hin hml hK hP hD hS hA hl
  have hown : s.vm.findClass RX5 = some m.cls := hown
  have hl : lv_has ls 3 [(0, .ref x0), (1, .int e0), (2, .int f1)] := hl
  have kw_0 := hts (.fieldLink RX5 21 "DelayDesk" "travellers" "LDelayDesk$Travellers;") (by decide +kernel)
  have iX5 : ∀ w ∈ u_ws RX5 TX5 10, w ∈ wsX5_told := by decide +kernel
  refine lv_aload_n hx hb dX5_told_0 rfl (lv_at hl 0 rfl) ?_
  refine va_get (D := D) (ci := 5) (v := .ref t0) (C := RX5) (T := TX5) (N := 10) hx hb hts iX5 hown hK.1 hP 0 rfl rfl 1 (by decide) kw_0 (fun _ h9 => h9) rfl dX5_told_1 ?_
  refine lv_iload_n hx hb dX5_told_4 rfl (lv_at hl 1 rfl) ?_
  refine cl_i (wr := [(x0, .inr (5, [.ref n0, .ref t0, .ref g0, .ref k0, .ref u0, .ref m0, .ref s0, .int 0, .int 0, .int 0]))]) (va_runV (As := [.int e0]) (rest := []) ⟨hx, hb, hml, hown, hts⟩ (c_hasGroup l D cI cZ cR t0 v1 v2 v3 v4 v5 v6 n0 e0 s.heap.size) (cwV 1 hts gX5_told_X4_hasGroup rfl rfl rfl (by decide +kernel) ⟨Nat.le_of_ble_eq_true rfl, Nat.le_of_ble_eq_true rfl⟩) (pV 4 1 hK hP hD [1] rfl (by decide) rfl rfl) rfl rfl hl.1 rfl (lv_room (Nat.le_of_ble_eq_true rfl)) dX5_told_5 ⟨Nat.le_of_ble_eq_true rfl, Nat.le_of_ble_eq_true rfl⟩) hP hD hS hA [1] [0] rfl rfl (by decide) (by decide) (fun r_5 u_5 H locs hw_5 hP hD hS => ?_)
  have hP : va_P D vwCl [(x0, .inr (5, [.ref n0, .ref t0, .ref g0, .ref k0, .ref u0, .ref m0, .ref s0, .int 0, .int 0, .int 0])), (t0, .inr (4, [.ref n0, .ref v1, .ref v2, .ref v3, .ref v4, .ref v5, .ref v6, .int 0]))] H := hP
  have hD : va_D A [(x0, .inr (5, [.ref n0, .ref t0, .ref g0, .ref k0, .ref u0, .ref m0, .ref s0, .int 0, .int 0, .int 0])), (t0, .inr (4, [.ref n0, .ref v1, .ref v2, .ref v3, .ref v4, .ref v5, .ref v6, .int 0]))] := hD
  subst hw_5
  refine lv_if_ne (tgt := 13) hx hb dX5_told_8 (by decide) (fun c_8 => absurd c_8 (by decide)) (fun c_8 => ?_)
  refine lv_iconst (v := (-1)) hx hb dX5_told_11 (by decide) ?_
  exact en_i () hx hb hr hlocks hK (hP.sub [] rfl) (hD.sub [] (by decide) rfl) hS (Nat.le_of_ble_eq_true rfl) (Nat.le_of_ble_eq_true rfl) dX5_told_12 (rfl)
set_option maxHeartbeats 4000000 in
set_option maxRecDepth 100000 in
theorem c_cost (l : Launch) (D : va_G) (cI cZ cR : ClassId) (x0 : Nat) (n0 : Nat) (t0 : Nat) (g0 : Nat) (k0 : Nat) (u0 : Nat) (m0 : Nat) (s0 : Nat) (a0 : Nat) (a1 : Nat) (a2 : Nat) (a3 : Nat) (a4 : Nat) (a5 : Nat) (a6 : Nat) (a7 : Nat) (a8 : Nat) (a9 : Nat) (v1 : Nat) (v2 : Nat) (v3 : Nat) (v4 : Nat) (v5 : Nat) (v6 : Nat) : CL l D cI cZ cR yX5_cost wsX5_cost { frames := 3, cells := 0, slots := 0, locals := 65 } [.ref x0] [(x0, .inr (5, [.ref n0, .ref t0, .ref g0, .ref k0, .ref u0, .ref m0, .ref s0, .int 0, .int 0, .int 0])), (n0, .inr (1, [.ref a0, .ref a1, .ref a2, .ref a3, .ref a4, .ref a5, .ref a6, .ref a7, .ref a8, .ref a9, .int 0, .int 0])), (t0, .inr (4, [.ref n0, .ref v1, .ref v2, .ref v3, .ref v4, .ref v5, .ref v6, .int 0]))] (fun (r : Int64) (u : Unit) => r = 0) (fun (u : Unit) => []) := by
  intro sz
  refine en_W (Qc := fun A => va_Ql (fun (r : Int64) (u : Unit) => r = 0) (sB D cI cZ cR (fun (u : Unit) => []) A) A) (cc := cX5_cost) (maxL := 1) (ret := (some .long)) (by decide) rfl (Nat.le_of_ble_eq_true rfl) ?_
  intro p e s m below meth c A ls hx hb hr hts hown hlocks hin hml hK hP hD hS hA hl
  have hown : s.vm.findClass RX5 = some m.cls := hown
  have hl : lv_has ls 1 [(0, .ref x0)] := hl
  have kw_0 := hts (.fieldLink RX5 21 "DelayDesk" "travellers" "LDelayDesk$Travellers;") (by decide +kernel)
  have iX5 : ∀ w ∈ u_ws RX5 TX5 10, w ∈ wsX5_cost := by decide +kernel
  have kw_2 := hts (.fieldLink RX5 48 "DelayDesk" "minutes" "[I") (by decide +kernel)
  refine lv_aload_n hx hb dX5_cost_0 rfl (lv_at hl 0 rfl) ?_
  refine cl_i (wr := [(t0, .inr (4, [.ref n0, .ref v1, .ref v2, .ref v3, .ref v4, .ref v5, .ref v6, .int 0]))]) (va_runV (As := []) (rest := []) ⟨hx, hb, hml, hown, hts⟩ (c_knowSpread l D cI cZ cR x0 n0 t0 g0 k0 u0 m0 s0 a0 a1 a2 a3 a4 a5 a6 a7 a8 a9 s.heap.size) (cwV 0 hts gX5_cost_X5_knowSpread rfl rfl rfl (by decide +kernel) ⟨Nat.le_of_ble_eq_true rfl, Nat.le_of_ble_eq_true rfl⟩) (pV 5 0 hK hP hD [0, 1] rfl (by decide) rfl rfl) rfl rfl hl.1 rfl (lv_room (Nat.le_of_ble_eq_true rfl)) dX5_cost_1 ⟨Nat.le_of_ble_eq_true rfl, Nat.le_of_ble_eq_true rfl⟩) hP hD hS hA [0, 1] [2] rfl rfl (by decide) (by decide) (fun r_1 u_1 H locs hw_1 hP hD hS => ?_)
  have hP : va_P D vwCl [(t0, .inr (4, [.ref n0, .ref v1, .ref v2, .ref v3, .ref v4, .ref v5, .ref v6, .int 0])), (x0, .inr (5, [.ref n0, .ref t0, .ref g0, .ref k0, .ref u0, .ref m0, .ref s0, .int 1, .int 1, .int 0])), (n0, .inr (1, [.ref a0, .ref a1, .ref a2, .ref a3, .ref a4, .ref a5, .ref a6, .ref a7, .ref a8, .ref a9, .int 0, .int 0]))] H := hP
  have hD : va_D A [(t0, .inr (4, [.ref n0, .ref v1, .ref v2, .ref v3, .ref v4, .ref v5, .ref v6, .int 0])), (x0, .inr (5, [.ref n0, .ref t0, .ref g0, .ref k0, .ref u0, .ref m0, .ref s0, .int 1, .int 1, .int 0])), (n0, .inr (1, [.ref a0, .ref a1, .ref a2, .ref a3, .ref a4, .ref a5, .ref a6, .ref a7, .ref a8, .ref a9, .int 0, .int 0]))] := hD
  subst hw_1
  refine lv_if_eq (tgt := 21) hx hb dX5_cost_4 (by decide) (fun c_4 => absurd c_4 (by decide)) (fun c_4 => ?_)
  refine lv_aload_n hx hb dX5_cost_7 rfl (lv_at hl 0 rfl) ?_
  refine va_get (D := D) (ci := 5) (v := .ref t0) (C := RX5) (T := TX5) (N := 10) hx hb hts iX5 hown hK.1 hP 1 rfl rfl 1 (by decide) kw_0 (fun _ h9 => h9) rfl dX5_cost_8 ?_
  refine lv_aload_n hx hb dX5_cost_11 rfl (lv_at hl 0 rfl) ?_
  refine va_get (D := D) (ci := 5) (v := .ref m0) (C := RX5) (T := TX5) (N := 10) hx hb hts iX5 hown hK.1 hP 1 rfl rfl 5 (by decide) kw_2 (fun _ h9 => h9) rfl dX5_cost_12 ?_
  refine cl_l (wr := [(x0, .inr (5, [.ref n0, .ref t0, .ref g0, .ref k0, .ref u0, .ref m0, .ref s0, .int 1, .int 1, .int 0])), (n0, .inr (1, [.ref a0, .ref a1, .ref a2, .ref a3, .ref a4, .ref a5, .ref a6, .ref a7, .ref a8, .ref a9, .int 0, .int 0]))]) (va_runV (As := [.ref m0]) (rest := []) ⟨hx, hb, hml, hown, hts⟩ (c_sum l D cI cZ cR t0 v1 v2 v3 v4 v5 v6 n0 m0 H.size) (cwV 1 hts gX5_cost_X4_sum rfl rfl rfl (by decide +kernel) ⟨Nat.le_of_ble_eq_true rfl, Nat.le_of_ble_eq_true rfl⟩) (pV 4 0 hK hP hD [0] rfl (by decide) rfl rfl) rfl rfl hl.1 rfl (lv_room (Nat.le_of_ble_eq_true rfl)) dX5_cost_15 ⟨Nat.le_of_ble_eq_true rfl, Nat.le_of_ble_eq_true rfl⟩) hP hD hS hA [0] [1, 2] rfl rfl (by decide) (by decide) (fun r_15 u_15 H locs hw_15 hP hD hS => ?_)
  have hP : va_P D vwCl [(x0, .inr (5, [.ref n0, .ref t0, .ref g0, .ref k0, .ref u0, .ref m0, .ref s0, .int 1, .int 1, .int 0])), (n0, .inr (1, [.ref a0, .ref a1, .ref a2, .ref a3, .ref a4, .ref a5, .ref a6, .ref a7, .ref a8, .ref a9, .int 0, .int 0])), (t0, .inr (4, [.ref n0, .ref v1, .ref v2, .ref v3, .ref v4, .ref v5, .ref v6, .int 0]))] H := hP
  have hD : va_D A [(x0, .inr (5, [.ref n0, .ref t0, .ref g0, .ref k0, .ref u0, .ref m0, .ref s0, .int 1, .int 1, .int 0])), (n0, .inr (1, [.ref a0, .ref a1, .ref a2, .ref a3, .ref a4, .ref a5, .ref a6, .ref a7, .ref a8, .ref a9, .int 0, .int 0])), (t0, .inr (4, [.ref n0, .ref v1, .ref v2, .ref v3, .ref v4, .ref v5, .ref v6, .int 0]))] := hD
  subst hw_15
  refine lv_goto (tgt := 24) hx hb dX5_cost_18 (by decide) ?_
  exact en_l () hx hb hr hlocks hK (hP.sub [] rfl) (hD.sub [] (by decide) rfl) hS (Nat.le_of_ble_eq_true rfl) (Nat.le_of_ble_eq_true rfl) dX5_cost_24 (rfl)
set_option maxHeartbeats 4000000 in
set_option maxRecDepth 100000 in
theorem c_choose (l : Launch) (D : va_G) (cI cZ cR : ClassId) (x0 : Nat) (n0 : Nat) (t0 : Nat) (g0 : Nat) (k0 : Nat) (u0 : Nat) (m0 : Nat) (s0 : Nat) (w2 : Nat) (w3 : Nat) (w4 : Nat) (r0 : Nat) (v1 : Nat) (v2 : Nat) (v3 : Nat) (v4 : Nat) (v5 : Nat) (v6 : Nat) (a0 : Nat) (a1 : Nat) (a2 : Nat) (a3 : Nat) (a4 : Nat) (a5 : Nat) (a6 : Nat) (a7 : Nat) (a8 : Nat) (a9 : Nat) : CL l D cI cZ cR yX5_choose wsX5_choose { frames := 3, cells := 0, slots := 0, locals := 68 } [.ref x0] [(x0, .inr (5, [.ref n0, .ref t0, .ref g0, .ref k0, .ref u0, .ref m0, .ref s0, .int 0, .int 0, .int 0])), (k0, .inr (0, [.ref n0, .ref t0, .ref w2, .ref w3, .ref w4, .ref r0, .int 0, .long (-1), .int 0])), (n0, .inr (1, [.ref a0, .ref a1, .ref a2, .ref a3, .ref a4, .ref a5, .ref a6, .ref a7, .ref a8, .ref a9, .int 0, .int 0])), (t0, .inr (4, [.ref n0, .ref v1, .ref v2, .ref v3, .ref v4, .ref v5, .ref v6, .int 0])), (r0, .inl (cR, 11, .inr (.inr (.inr (.inr (fun i => if i < 11 then some (r0 + 1 + i) else none))))))] (fun (r : Int64) (u : Unit) => r = 0) (fun (u : Unit) => []) := by
  intro sz
  refine en_W (Qc := fun A => va_Ql (fun (r : Int64) (u : Unit) => r = 0) (sB D cI cZ cR (fun (u : Unit) => []) A) A) (cc := cX5_choose) (maxL := 3) (ret := (some .long)) (by decide) rfl (Nat.le_of_ble_eq_true rfl) ?_
  intro p e s m below meth c A ls hx hb hr hts hown hlocks hin hml hK hP hD hS hA hl
  have hown : s.vm.findClass RX5 = some m.cls := hown
  have hl : lv_has ls 3 [(0, .ref x0)] := hl
  have kw_0 := hts (.fieldLink RX5 37 "DelayDesk" "choice" "LDelayDesk$Choice;") (by decide +kernel)
  have iX5 : ∀ w ∈ u_ws RX5 TX5 10, w ∈ wsX5_choose := by decide +kernel
  refine lv_aload_n hx hb dX5_choose_0 rfl (lv_at hl 0 rfl) ?_
  refine va_get (D := D) (ci := 5) (v := .ref k0) (C := RX5) (T := TX5) (N := 10) hx hb hts iX5 hown hK.1 hP 0 rfl rfl 3 (by decide) kw_0 (fun _ h9 => h9) rfl dX5_choose_1 ?_
  refine cl_l (wr := [(x0, .inr (5, [.ref n0, .ref t0, .ref g0, .ref k0, .ref u0, .ref m0, .ref s0, .int 0, .int 0, .int 0]))]) (va_runV (As := []) (rest := []) ⟨hx, hb, hml, hown, hts⟩ (c_make l D cI cZ cR k0 n0 t0 w2 w3 w4 r0 v1 v2 v3 v4 v5 v6 a0 a1 a2 a3 a4 a5 a6 a7 a8 a9 s.heap.size) (cwV 0 hts gX5_choose_X0_make rfl rfl rfl (by decide +kernel) ⟨Nat.le_of_ble_eq_true rfl, Nat.le_of_ble_eq_true rfl⟩) (pV 0 1 hK hP hD [1, 2, 3, 4] rfl (by decide) rfl rfl) rfl rfl hl.1 rfl (lv_room (Nat.le_of_ble_eq_true rfl)) dX5_choose_4 ⟨Nat.le_of_ble_eq_true rfl, Nat.le_of_ble_eq_true rfl⟩) hP hD hS hA [1, 2, 3, 4] [0] rfl rfl (by decide) (by decide) (fun r_4 u_4 H locs hw_4 hP hD hS => ?_)
  have hP : va_P D vwCl [(x0, .inr (5, [.ref n0, .ref t0, .ref g0, .ref k0, .ref u0, .ref m0, .ref s0, .int 0, .int 0, .int 0]))] H := hP
  have hD : va_D A [(x0, .inr (5, [.ref n0, .ref t0, .ref g0, .ref k0, .ref u0, .ref m0, .ref s0, .int 0, .int 0, .int 0]))] := hD
  subst hw_4
  refine lv_lstore_n (lv' := [(1, .long 0), (0, .ref x0)]) hx hb dX5_choose_7 rfl hl (by decide) rfl (fun ls hl => ?_)
  refine lv_aload_n hx hb dX5_choose_8 rfl (lv_at hl 1 rfl) ?_
  refine cl_v (wr := []) (va_runV (As := []) (rest := []) ⟨hx, hb, hml, hown, hts⟩ (c_forgetAnswers l D cI cZ cR x0 n0 t0 g0 k0 u0 m0 s0 H.size) (cwV 0 hts gX5_choose_X5_forgetAnswers rfl rfl rfl (by decide +kernel) ⟨Nat.le_of_ble_eq_true rfl, Nat.le_of_ble_eq_true rfl⟩) (pV 5 0 hK hP hD [0] rfl (by decide) rfl rfl) rfl rfl hl.1 rfl (lv_room (Nat.le_of_ble_eq_true rfl)) dX5_choose_9 ⟨Nat.le_of_ble_eq_true rfl, Nat.le_of_ble_eq_true rfl⟩) hP hD hS hA [0] [] rfl rfl (by decide) (by decide) (fun u_9 H locs hw_9 hP hD hS => ?_)
  have hP : va_P D vwCl [(x0, .inr (5, [.ref n0, .ref t0, .ref g0, .ref k0, .ref u0, .ref m0, .ref s0, .int 0, .int 0, .int 0]))] H := hP
  have hD : va_D A [(x0, .inr (5, [.ref n0, .ref t0, .ref g0, .ref k0, .ref u0, .ref m0, .ref s0, .int 0, .int 0, .int 0]))] := hD
  refine lv_lload_n hx hb dX5_choose_12 rfl (lv_at hl 0 rfl) ?_
  exact en_l () hx hb hr hlocks hK (hP.sub [] rfl) (hD.sub [] (by decide) rfl) hS (Nat.le_of_ble_eq_true rfl) (Nat.le_of_ble_eq_true rfl) dX5_choose_13 (rfl)
set_option maxHeartbeats 4000000 in
set_option maxRecDepth 100000 in
theorem c_rule (l : Launch) (D : va_G) (cI cZ cR : ClassId) (x0 : Nat) (n0 : Nat) (t0 : Nat) (g0 : Nat) (k0 : Nat) (u0 : Nat) (m0 : Nat) (s0 : Nat) (z1 : Nat) (z2 : Nat) (z3 : Nat) (a0 : Nat) (a1 : Nat) (a2 : Nat) (a3 : Nat) (a4 : Nat) (a5 : Nat) (a6 : Nat) (a7 : Nat) (a8 : Nat) (a9 : Nat) (w0 : Int32) : CI l D cI cZ cR yX5_rule wsX5_rule { frames := 3, cells := 0, slots := 0, locals := 68 } [.ref x0, .int w0] [(x0, .inr (5, [.ref n0, .ref t0, .ref g0, .ref k0, .ref u0, .ref m0, .ref s0, .int 0, .int 0, .int 0])), (u0, .inr (3, [.ref n0, .ref z1, .ref z2, .ref z3])), (n0, .inr (1, [.ref a0, .ref a1, .ref a2, .ref a3, .ref a4, .ref a5, .ref a6, .ref a7, .ref a8, .ref a9, .int 0, .int 0]))] (fun (r : Int32) (u : Unit) => (r = 0 ∧ (0 ≤ w0 ∧ w0 ≤ 1000)) ∨ (r = (-1) ∧ ¬ (0 ≤ w0 ∧ w0 ≤ 1000))) (fun (u : Unit) => []) := by
  intro sz
  refine en_W (Qc := fun A => va_Qi (fun (r : Int32) (u : Unit) => (r = 0 ∧ (0 ≤ w0 ∧ w0 ≤ 1000)) ∨ (r = (-1) ∧ ¬ (0 ≤ w0 ∧ w0 ≤ 1000))) (sB D cI cZ cR (fun (u : Unit) => []) A) A) (cc := cX5_rule) (maxL := 2) (ret := (some .int)) (by decide) rfl (Nat.le_of_ble_eq_true rfl) ?_
  intro p e s m below meth c A ls hx hb hr hts hown hlocks hin hml hK hP hD hS hA hl
  have hown : s.vm.findClass RX5 = some m.cls := hown
  have hl : lv_has ls 2 [(0, .ref x0), (1, .int w0)] := hl
  have kw_0 := hts (.fieldLink RX5 44 "DelayDesk" "ruling" "LDelayDesk$Rule;") (by decide +kernel)
  have iX5 : ∀ w ∈ u_ws RX5 TX5 10, w ∈ wsX5_rule := by decide +kernel
  have kw_2 := hts (.fieldLink RX5 10 "DelayDesk" "net" "LDelayDesk$Net;") (by decide +kernel)
  refine lv_iload_n hx hb dX5_rule_0 rfl (lv_at hl 1 rfl) ?_
  refine lv_iconst (v := 0) hx hb dX5_rule_1 (by decide) ?_
  refine lv_sipush (v := 1000) hx hb dX5_rule_2 (by decide) ?_
  refine cl_i (wr := [(x0, .inr (5, [.ref n0, .ref t0, .ref g0, .ref k0, .ref u0, .ref m0, .ref s0, .int 0, .int 0, .int 0])), (u0, .inr (3, [.ref n0, .ref z1, .ref z2, .ref z3])), (n0, .inr (1, [.ref a0, .ref a1, .ref a2, .ref a3, .ref a4, .ref a5, .ref a6, .ref a7, .ref a8, .ref a9, .int 0, .int 0]))]) (va_runS (As := [.int w0, .int 0, .int 1000]) (rest := []) ⟨hx, hb, hml, hown, hts⟩ (c_isIn l D cI cZ cR w0 0 1000 s.heap.size) (va_cwS 3 hts gX5_rule_X5_isIn rfl rfl rfl (by decide +kernel) ⟨Nat.le_of_ble_eq_true rfl, Nat.le_of_ble_eq_true rfl⟩) (pS hK hP hD [] rfl (by decide)) rfl rfl hl.1 rfl (lv_room (Nat.le_of_ble_eq_true rfl)) dX5_rule_5 ⟨Nat.le_of_ble_eq_true rfl, Nat.le_of_ble_eq_true rfl⟩) hP hD hS hA [] [0, 1, 2] rfl rfl (by decide) (by decide) (fun r_5 u_5 H locs hw_5 hP hD hS => ?_)
  have hP : va_P D vwCl [(x0, .inr (5, [.ref n0, .ref t0, .ref g0, .ref k0, .ref u0, .ref m0, .ref s0, .int 0, .int 0, .int 0])), (u0, .inr (3, [.ref n0, .ref z1, .ref z2, .ref z3])), (n0, .inr (1, [.ref a0, .ref a1, .ref a2, .ref a3, .ref a4, .ref a5, .ref a6, .ref a7, .ref a8, .ref a9, .int 0, .int 0]))] H := hP
  have hD : va_D A [(x0, .inr (5, [.ref n0, .ref t0, .ref g0, .ref k0, .ref u0, .ref m0, .ref s0, .int 0, .int 0, .int 0])), (u0, .inr (3, [.ref n0, .ref z1, .ref z2, .ref z3])), (n0, .inr (1, [.ref a0, .ref a1, .ref a2, .ref a3, .ref a4, .ref a5, .ref a6, .ref a7, .ref a8, .ref a9, .int 0, .int 0]))] := hD
  rcases hw_5 with ⟨rfl, hf_5⟩ | ⟨rfl, hf_5⟩
  · refine lv_if_ne (tgt := 13) hx hb dX5_rule_8 (by decide) (fun c_8 => ?_) (fun c_8 => absurd c_8 (by decide))
    refine lv_aload_n hx hb dX5_rule_13 rfl (lv_at hl 0 rfl) ?_
    refine va_get (D := D) (ci := 5) (v := .ref u0) (C := RX5) (T := TX5) (N := 10) hx hb hts iX5 hown hK.1 hP 0 rfl rfl 4 (by decide) kw_0 (fun _ h9 => h9) rfl dX5_rule_14 ?_
    refine lv_iload_n hx hb dX5_rule_17 rfl (lv_at hl 1 rfl) ?_
    refine cl_v (wr := [(x0, .inr (5, [.ref n0, .ref t0, .ref g0, .ref k0, .ref u0, .ref m0, .ref s0, .int 0, .int 0, .int 0]))]) (va_runV (As := [.int w0]) (rest := []) ⟨hx, hb, hml, hown, hts⟩ (c_follow l D cI cZ cR u0 n0 z1 z2 z3 a0 a1 a2 a3 a4 a5 a6 a7 a8 a9 w0 H.size) (cwV 1 hts gX5_rule_X3_follow rfl rfl rfl (by decide +kernel) ⟨Nat.le_of_ble_eq_true rfl, Nat.le_of_ble_eq_true rfl⟩) (pV 3 1 hK hP hD [1, 2] rfl (by decide) rfl rfl) rfl rfl hl.1 rfl (lv_room (Nat.le_of_ble_eq_true rfl)) dX5_rule_18 ⟨Nat.le_of_ble_eq_true rfl, Nat.le_of_ble_eq_true rfl⟩) hP hD hS hA [1, 2] [0] rfl rfl (by decide) (by decide) (fun u_18 H locs hw_18 hP hD hS => ?_)
    have hP : va_P D vwCl [(x0, .inr (5, [.ref n0, .ref t0, .ref g0, .ref k0, .ref u0, .ref m0, .ref s0, .int 0, .int 0, .int 0])), (n0, .inr (1, [.ref a0, .ref a1, .ref a2, .ref a3, .ref a4, .ref a5, .ref a6, .ref a7, .ref a8, .ref a9, .int 0, .int 0]))] H := hP
    have hD : va_D A [(x0, .inr (5, [.ref n0, .ref t0, .ref g0, .ref k0, .ref u0, .ref m0, .ref s0, .int 0, .int 0, .int 0])), (n0, .inr (1, [.ref a0, .ref a1, .ref a2, .ref a3, .ref a4, .ref a5, .ref a6, .ref a7, .ref a8, .ref a9, .int 0, .int 0]))] := hD
    refine lv_aload_n hx hb dX5_rule_21 rfl (lv_at hl 0 rfl) ?_
    refine cl_v (wr := [(n0, .inr (1, [.ref a0, .ref a1, .ref a2, .ref a3, .ref a4, .ref a5, .ref a6, .ref a7, .ref a8, .ref a9, .int 0, .int 0]))]) (va_runV (As := []) (rest := []) ⟨hx, hb, hml, hown, hts⟩ (c_forgetAnswers l D cI cZ cR x0 n0 t0 g0 k0 u0 m0 s0 H.size) (cwV 0 hts gX5_rule_X5_forgetAnswers rfl rfl rfl (by decide +kernel) ⟨Nat.le_of_ble_eq_true rfl, Nat.le_of_ble_eq_true rfl⟩) (pV 5 0 hK hP hD [0] rfl (by decide) rfl rfl) rfl rfl hl.1 rfl (lv_room (Nat.le_of_ble_eq_true rfl)) dX5_rule_22 ⟨Nat.le_of_ble_eq_true rfl, Nat.le_of_ble_eq_true rfl⟩) hP hD hS hA [0] [1] rfl rfl (by decide) (by decide) (fun u_22 H locs hw_22 hP hD hS => ?_)
    have hP : va_P D vwCl [(n0, .inr (1, [.ref a0, .ref a1, .ref a2, .ref a3, .ref a4, .ref a5, .ref a6, .ref a7, .ref a8, .ref a9, .int 0, .int 0])), (x0, .inr (5, [.ref n0, .ref t0, .ref g0, .ref k0, .ref u0, .ref m0, .ref s0, .int 0, .int 0, .int 0]))] H := hP
    have hD : va_D A [(n0, .inr (1, [.ref a0, .ref a1, .ref a2, .ref a3, .ref a4, .ref a5, .ref a6, .ref a7, .ref a8, .ref a9, .int 0, .int 0])), (x0, .inr (5, [.ref n0, .ref t0, .ref g0, .ref k0, .ref u0, .ref m0, .ref s0, .int 0, .int 0, .int 0]))] := hD
    refine lv_aload_n hx hb dX5_rule_25 rfl (lv_at hl 0 rfl) ?_
    refine va_get (D := D) (ci := 5) (v := .ref n0) (C := RX5) (T := TX5) (N := 10) hx hb hts iX5 hown hK.1 hP 1 rfl rfl 0 (by decide) kw_2 (fun _ h9 => h9) rfl dX5_rule_26 ?_
    refine cl_i (wr := [(x0, .inr (5, [.ref n0, .ref t0, .ref g0, .ref k0, .ref u0, .ref m0, .ref s0, .int 0, .int 0, .int 0]))]) (va_runV (As := []) (rest := []) ⟨hx, hb, hml, hown, hts⟩ (c_keptChanges l D cI cZ cR n0 a0 a1 a2 a3 a4 a5 a6 a7 a8 a9 H.size) (cwV 0 hts gX5_rule_X1_keptChanges rfl rfl rfl (by decide +kernel) ⟨Nat.le_of_ble_eq_true rfl, Nat.le_of_ble_eq_true rfl⟩) (pV 1 0 hK hP hD [0] rfl (by decide) rfl rfl) rfl rfl hl.1 rfl (lv_room (Nat.le_of_ble_eq_true rfl)) dX5_rule_29 ⟨Nat.le_of_ble_eq_true rfl, Nat.le_of_ble_eq_true rfl⟩) hP hD hS hA [0] [1] rfl rfl (by decide) (by decide) (fun r_29 u_29 H locs hw_29 hP hD hS => ?_)
    have hP : va_P D vwCl [(x0, .inr (5, [.ref n0, .ref t0, .ref g0, .ref k0, .ref u0, .ref m0, .ref s0, .int 0, .int 0, .int 0])), (n0, .inr (1, [.ref a0, .ref a1, .ref a2, .ref a3, .ref a4, .ref a5, .ref a6, .ref a7, .ref a8, .ref a9, .int 0, .int 0]))] H := hP
    have hD : va_D A [(x0, .inr (5, [.ref n0, .ref t0, .ref g0, .ref k0, .ref u0, .ref m0, .ref s0, .int 0, .int 0, .int 0])), (n0, .inr (1, [.ref a0, .ref a1, .ref a2, .ref a3, .ref a4, .ref a5, .ref a6, .ref a7, .ref a8, .ref a9, .int 0, .int 0]))] := hD
    subst hw_29
    exact en_i () hx hb hr hlocks hK (hP.sub [] rfl) (hD.sub [] (by decide) rfl) hS (Nat.le_of_ble_eq_true rfl) (Nat.le_of_ble_eq_true rfl) dX5_rule_32 (Or.inl ⟨rfl, by assumption⟩)
  · refine lv_if_ne (tgt := 13) hx hb dX5_rule_8 (by decide) (fun c_8 => absurd c_8 (by decide)) (fun c_8 => ?_)
    refine lv_iconst (v := (-1)) hx hb dX5_rule_11 (by decide) ?_
    exact en_i () hx hb hr hlocks hK (hP.sub [] rfl) (hD.sub [] (by decide) rfl) hS (Nat.le_of_ble_eq_true rfl) (Nat.le_of_ble_eq_true rfl) dX5_rule_12 (Or.inr ⟨rfl, by assumption⟩)
set_option maxHeartbeats 4000000 in
set_option maxRecDepth 100000 in
theorem c_recover (l : Launch) (D : va_G) (cI cZ cR : ClassId) (x0 : Nat) (n0 : Nat) (t0 : Nat) (g0 : Nat) (k0 : Nat) (u0 : Nat) (m0 : Nat) (s0 : Nat) (a0 : Nat) (a1 : Nat) (a2 : Nat) (a3 : Nat) (a4 : Nat) (a5 : Nat) (a6 : Nat) (a7 : Nat) (a8 : Nat) (a9 : Nat) : CI l D cI cZ cR yX5_recover wsX5_recover { frames := 3, cells := 0, slots := 0, locals := 65 } [.ref x0] [(x0, .inr (5, [.ref n0, .ref t0, .ref g0, .ref k0, .ref u0, .ref m0, .ref s0, .int 0, .int 0, .int 0])), (n0, .inr (1, [.ref a0, .ref a1, .ref a2, .ref a3, .ref a4, .ref a5, .ref a6, .ref a7, .ref a8, .ref a9, .int 0, .int 0]))] (fun (r : Int32) (u : Unit) => r = (-1)) (fun (u : Unit) => []) := by
  intro sz
  refine en_W (Qc := fun A => va_Qi (fun (r : Int32) (u : Unit) => r = (-1)) (sB D cI cZ cR (fun (u : Unit) => []) A) A) (cc := cX5_recover) (maxL := 3) (ret := (some .int)) (by decide) rfl (Nat.le_of_ble_eq_true rfl) ?_
  intro p e s m below meth c A ls hx hb hr hts hown hlocks hin hml hK hP hD hS hA hl
  have hown : s.vm.findClass RX5 = some m.cls := hown
  have hl : lv_has ls 3 [(0, .ref x0)] := hl
  have kw_0 := hts (.fieldLink RX5 10 "DelayDesk" "net" "LDelayDesk$Net;") (by decide +kernel)
  have iX5 : ∀ w ∈ u_ws RX5 TX5 10, w ∈ wsX5_recover := by decide +kernel
  have kw_2 := hts (.fieldLink RX5 69 "DelayDesk$Net" "events" "I") (by decide +kernel)
  have iX1 : ∀ w ∈ u_ws RX1 TX1 12, w ∈ wsX5_recover := by decide +kernel
  refine lv_aload_n hx hb dX5_recover_0 rfl (lv_at hl 0 rfl) ?_
  refine cl_i (wr := []) (va_runV (As := []) (rest := []) ⟨hx, hb, hml, hown, hts⟩ (c_knowSpread l D cI cZ cR x0 n0 t0 g0 k0 u0 m0 s0 a0 a1 a2 a3 a4 a5 a6 a7 a8 a9 s.heap.size) (cwV 0 hts gX5_recover_X5_knowSpread rfl rfl rfl (by decide +kernel) ⟨Nat.le_of_ble_eq_true rfl, Nat.le_of_ble_eq_true rfl⟩) (pV 5 0 hK hP hD [0, 1] rfl (by decide) rfl rfl) rfl rfl hl.1 rfl (lv_room (Nat.le_of_ble_eq_true rfl)) dX5_recover_1 ⟨Nat.le_of_ble_eq_true rfl, Nat.le_of_ble_eq_true rfl⟩) hP hD hS hA [0, 1] [] rfl rfl (by decide) (by decide) (fun r_1 u_1 H locs hw_1 hP hD hS => ?_)
  have hP : va_P D vwCl [(x0, .inr (5, [.ref n0, .ref t0, .ref g0, .ref k0, .ref u0, .ref m0, .ref s0, .int 1, .int 1, .int 0])), (n0, .inr (1, [.ref a0, .ref a1, .ref a2, .ref a3, .ref a4, .ref a5, .ref a6, .ref a7, .ref a8, .ref a9, .int 0, .int 0]))] H := hP
  have hD : va_D A [(x0, .inr (5, [.ref n0, .ref t0, .ref g0, .ref k0, .ref u0, .ref m0, .ref s0, .int 1, .int 1, .int 0])), (n0, .inr (1, [.ref a0, .ref a1, .ref a2, .ref a3, .ref a4, .ref a5, .ref a6, .ref a7, .ref a8, .ref a9, .int 0, .int 0]))] := hD
  subst hw_1
  refine lv_if_ne (tgt := 9) hx hb dX5_recover_4 (by decide) (fun c_4 => ?_) (fun c_4 => absurd c_4 (by decide))
  refine lv_iconst (v := (-1)) hx hb dX5_recover_9 (by decide) ?_
  refine lv_istore_n (lv' := [(1, .int (-1)), (0, .ref x0)]) hx hb dX5_recover_10 rfl hl (by decide) rfl (fun ls hl => ?_)
  refine lv_iconst (v := 0) hx hb dX5_recover_11 (by decide) ?_
  refine lv_istore_n (lv' := [(2, .int 0), (1, .int (-1)), (0, .ref x0)]) hx hb dX5_recover_12 rfl hl (by decide) rfl (fun ls hl => ?_)
  refine lv_iload_n hx hb dX5_recover_13 rfl (lv_at hl 0 rfl) ?_
  refine lv_aload_n hx hb dX5_recover_14 rfl (lv_at hl 2 rfl) ?_
  refine va_get (D := D) (ci := 5) (v := .ref n0) (C := RX5) (T := TX5) (N := 10) hx hb hts iX5 hown hK.1 hP 0 rfl rfl 0 (by decide) kw_0 (fun _ h9 => h9) rfl dX5_recover_15 ?_
  refine va_get (D := D) (ci := 1) (v := .int 0) (C := RX1) (T := TX1) (N := 12) hx hb hts iX1 hown hK.1 hP 1 rfl rfl 10 (by decide) kw_2 (fun _ h9 => h9) rfl dX5_recover_18 ?_
  refine lv_icmp_ge (tgt := 49) hx hb dX5_recover_21 (by decide) (fun c_21 => ?_) (fun c_21 => absurd (by decide) c_21)
  refine lv_iload_n hx hb dX5_recover_49 rfl (lv_at hl 1 rfl) ?_
  exact en_i () hx hb hr hlocks hK (hP.sub [] rfl) (hD.sub [] (by decide) rfl) hS (Nat.le_of_ble_eq_true rfl) (Nat.le_of_ble_eq_true rfl) dX5_recover_50 (rfl)
set_option maxHeartbeats 4000000 in
set_option maxRecDepth 100000 in
theorem c_count (l : Launch) (D : va_G) (cI cZ cR : ClassId) (x0 : Nat) (n0 : Nat) (t0 : Nat) (g0 : Nat) (k0 : Nat) (u0 : Nat) (m0 : Nat) (s0 : Nat) (a0 : Nat) (a1 : Nat) (a2 : Nat) (a3 : Nat) (a4 : Nat) (a5 : Nat) (a6 : Nat) (a7 : Nat) (a8 : Nat) (a9 : Nat) (v1 : Nat) (v2 : Nat) (v3 : Nat) (v4 : Nat) (v5 : Nat) (v6 : Nat) (w0 : Int32) : CI l D cI cZ cR yX5_count wsX5_count { frames := 3, cells := 0, slots := 0, locals := 65 } [.ref x0, .int w0] [(x0, .inr (5, [.ref n0, .ref t0, .ref g0, .ref k0, .ref u0, .ref m0, .ref s0, .int 0, .int 0, .int 0])), (n0, .inr (1, [.ref a0, .ref a1, .ref a2, .ref a3, .ref a4, .ref a5, .ref a6, .ref a7, .ref a8, .ref a9, .int 0, .int 0])), (t0, .inr (4, [.ref n0, .ref v1, .ref v2, .ref v3, .ref v4, .ref v5, .ref v6, .int 0])), (a9, .inl (cZ, 16, .inl (fun _ => 0)))] (fun (r : Int32) (u : Unit) => (r = 0 ∧ (w0 = 0 ∨ w0 = 1 ∨ w0 = 2 ∨ w0 = 3 ∨ w0 = 4 ∨ w0 = 5 ∨ w0 = 6 ∨ w0 = 7)) ∨ (r = (-1) ∧ ¬ (w0 = 0 ∨ w0 = 1 ∨ w0 = 2 ∨ w0 = 3 ∨ w0 = 4 ∨ w0 = 5 ∨ w0 = 6 ∨ w0 = 7))) (fun (u : Unit) => []) := by
  intro sz
  refine en_W (Qc := fun A => va_Qi (fun (r : Int32) (u : Unit) => (r = 0 ∧ (w0 = 0 ∨ w0 = 1 ∨ w0 = 2 ∨ w0 = 3 ∨ w0 = 4 ∨ w0 = 5 ∨ w0 = 6 ∨ w0 = 7)) ∨ (r = (-1) ∧ ¬ (w0 = 0 ∨ w0 = 1 ∨ w0 = 2 ∨ w0 = 3 ∨ w0 = 4 ∨ w0 = 5 ∨ w0 = 6 ∨ w0 = 7))) (sB D cI cZ cR (fun (u : Unit) => []) A) A) (cc := cX5_count) (maxL := 2) (ret := (some .int)) (by decide) rfl (Nat.le_of_ble_eq_true rfl) ?_
  intro p e s m below meth c A ls hx hb hr hts hown hlocks hin hml hK hP hD hS hA hl
  have hown : s.vm.findClass RX5 = some m.cls := hown
  have hl : lv_has ls 2 [(0, .ref x0), (1, .int w0)] := hl
  have kw_0 := hts (.fieldLink RX5 10 "DelayDesk" "net" "LDelayDesk$Net;") (by decide +kernel)
  have iX5 : ∀ w ∈ u_ws RX5 TX5 10, w ∈ wsX5_count := by decide +kernel
  have kw_2 := hts (.fieldLink RX5 69 "DelayDesk$Net" "events" "I") (by decide +kernel)
  have iX1 : ∀ w ∈ u_ws RX1 TX1 12, w ∈ wsX5_count := by decide +kernel
  have kw_4 := hts (.fieldLink RX5 80 "DelayDesk$Net" "activities" "I") (by decide +kernel)
  have kw_5 := hts (.fieldLink RX5 21 "DelayDesk" "travellers" "LDelayDesk$Travellers;") (by decide +kernel)
  have kw_6 := hts (.fieldLink RX5 118 "DelayDesk$Travellers" "groups" "I") (by decide +kernel)
  have iX4 : ∀ w ∈ u_ws RX4 TX4 8, w ∈ wsX5_count := by decide +kernel
  refine lv_iload_n hx hb dX5_count_0 rfl (lv_at hl 1 rfl) ?_
  by_cases sw_1_0 : w0 = 0
  · refine lv_tableIn (tgt := 48) hx hb dX5_count_1 (by rw [sw_1_0]; decide) (by rw [sw_1_0]; decide) (by rw [sw_1_0]; rfl) (by decide) ?_
    refine lv_aload_n hx hb dX5_count_48 rfl (lv_at hl 0 rfl) ?_
    refine va_get (D := D) (ci := 5) (v := .ref n0) (C := RX5) (T := TX5) (N := 10) hx hb hts iX5 hown hK.1 hP 0 rfl rfl 0 (by decide) kw_0 (fun _ h9 => h9) rfl dX5_count_49 ?_
    refine va_get (D := D) (ci := 1) (v := .int 0) (C := RX1) (T := TX1) (N := 12) hx hb hts iX1 hown hK.1 hP 1 rfl rfl 10 (by decide) kw_2 (fun _ h9 => h9) rfl dX5_count_52 ?_
    exact en_i () hx hb hr hlocks hK (hP.sub [] rfl) (hD.sub [] (by decide) rfl) hS (Nat.le_of_ble_eq_true rfl) (Nat.le_of_ble_eq_true rfl) dX5_count_55 (Or.inl ⟨rfl, by first | (rw [sw_1_0]; decide) | (rw [sw_1_1]; decide) | (rw [sw_1_2]; decide) | (rw [sw_1_3]; decide) | (rw [sw_1_4]; decide) | (rw [sw_1_5]; decide) | (rw [sw_1_6]; decide) | (rw [sw_1_7]; decide) | (intro h; rcases h with h | h | h | h | h | h | h | h <;> exact absurd h (by assumption))⟩)
  by_cases sw_1_1 : w0 = 1
  · refine lv_tableIn (tgt := 56) hx hb dX5_count_1 (by rw [sw_1_1]; decide) (by rw [sw_1_1]; decide) (by rw [sw_1_1]; rfl) (by decide) ?_
    refine lv_aload_n hx hb dX5_count_56 rfl (lv_at hl 0 rfl) ?_
    refine va_get (D := D) (ci := 5) (v := .ref n0) (C := RX5) (T := TX5) (N := 10) hx hb hts iX5 hown hK.1 hP 0 rfl rfl 0 (by decide) kw_0 (fun _ h9 => h9) rfl dX5_count_57 ?_
    refine va_get (D := D) (ci := 1) (v := .int 0) (C := RX1) (T := TX1) (N := 12) hx hb hts iX1 hown hK.1 hP 1 rfl rfl 11 (by decide) kw_4 (fun _ h9 => h9) rfl dX5_count_60 ?_
    exact en_i () hx hb hr hlocks hK (hP.sub [] rfl) (hD.sub [] (by decide) rfl) hS (Nat.le_of_ble_eq_true rfl) (Nat.le_of_ble_eq_true rfl) dX5_count_63 (Or.inl ⟨rfl, by first | (rw [sw_1_0]; decide) | (rw [sw_1_1]; decide) | (rw [sw_1_2]; decide) | (rw [sw_1_3]; decide) | (rw [sw_1_4]; decide) | (rw [sw_1_5]; decide) | (rw [sw_1_6]; decide) | (rw [sw_1_7]; decide) | (intro h; rcases h with h | h | h | h | h | h | h | h <;> exact absurd h (by assumption))⟩)
  by_cases sw_1_2 : w0 = 2
  · refine lv_tableIn (tgt := 64) hx hb dX5_count_1 (by rw [sw_1_2]; decide) (by rw [sw_1_2]; decide) (by rw [sw_1_2]; rfl) (by decide) ?_
    refine lv_aload_n hx hb dX5_count_64 rfl (lv_at hl 0 rfl) ?_
    refine va_get (D := D) (ci := 5) (v := .ref t0) (C := RX5) (T := TX5) (N := 10) hx hb hts iX5 hown hK.1 hP 0 rfl rfl 1 (by decide) kw_5 (fun _ h9 => h9) rfl dX5_count_65 ?_
    refine va_get (D := D) (ci := 4) (v := .int 0) (C := RX4) (T := TX4) (N := 8) hx hb hts iX4 hown hK.1 hP 2 rfl rfl 7 (by decide) kw_6 (fun _ h9 => h9) rfl dX5_count_68 ?_
    exact en_i () hx hb hr hlocks hK (hP.sub [] rfl) (hD.sub [] (by decide) rfl) hS (Nat.le_of_ble_eq_true rfl) (Nat.le_of_ble_eq_true rfl) dX5_count_71 (Or.inl ⟨rfl, by first | (rw [sw_1_0]; decide) | (rw [sw_1_1]; decide) | (rw [sw_1_2]; decide) | (rw [sw_1_3]; decide) | (rw [sw_1_4]; decide) | (rw [sw_1_5]; decide) | (rw [sw_1_6]; decide) | (rw [sw_1_7]; decide) | (intro h; rcases h with h | h | h | h | h | h | h | h <;> exact absurd h (by assumption))⟩)
  by_cases sw_1_3 : w0 = 3
  · refine lv_tableIn (tgt := 72) hx hb dX5_count_1 (by rw [sw_1_3]; decide) (by rw [sw_1_3]; decide) (by rw [sw_1_3]; rfl) (by decide) ?_
    refine lv_aload_n hx hb dX5_count_72 rfl (lv_at hl 0 rfl) ?_
    refine va_get (D := D) (ci := 5) (v := .ref n0) (C := RX5) (T := TX5) (N := 10) hx hb hts iX5 hown hK.1 hP 0 rfl rfl 0 (by decide) kw_0 (fun _ h9 => h9) rfl dX5_count_73 ?_
    refine cl_i (wr := [(x0, .inr (5, [.ref n0, .ref t0, .ref g0, .ref k0, .ref u0, .ref m0, .ref s0, .int 0, .int 0, .int 0])), (t0, .inr (4, [.ref n0, .ref v1, .ref v2, .ref v3, .ref v4, .ref v5, .ref v6, .int 0])), (a9, .inl (cZ, 16, .inl (fun _ => 0)))]) (va_runV (As := []) (rest := []) ⟨hx, hb, hml, hown, hts⟩ (c_keptChanges l D cI cZ cR n0 a0 a1 a2 a3 a4 a5 a6 a7 a8 a9 s.heap.size) (cwV 0 hts gX5_count_X1_keptChanges rfl rfl rfl (by decide +kernel) ⟨Nat.le_of_ble_eq_true rfl, Nat.le_of_ble_eq_true rfl⟩) (pV 1 1 hK hP hD [1] rfl (by decide) rfl rfl) rfl rfl hl.1 rfl (lv_room (Nat.le_of_ble_eq_true rfl)) dX5_count_76 ⟨Nat.le_of_ble_eq_true rfl, Nat.le_of_ble_eq_true rfl⟩) hP hD hS hA [1] [0, 2, 3] rfl rfl (by decide) (by decide) (fun r_76 u_76 H locs hw_76 hP hD hS => ?_)
    have hP : va_P D vwCl [(x0, .inr (5, [.ref n0, .ref t0, .ref g0, .ref k0, .ref u0, .ref m0, .ref s0, .int 0, .int 0, .int 0])), (t0, .inr (4, [.ref n0, .ref v1, .ref v2, .ref v3, .ref v4, .ref v5, .ref v6, .int 0])), (a9, .inl (cZ, 16, .inl (fun _ => 0))), (n0, .inr (1, [.ref a0, .ref a1, .ref a2, .ref a3, .ref a4, .ref a5, .ref a6, .ref a7, .ref a8, .ref a9, .int 0, .int 0]))] H := hP
    have hD : va_D A [(x0, .inr (5, [.ref n0, .ref t0, .ref g0, .ref k0, .ref u0, .ref m0, .ref s0, .int 0, .int 0, .int 0])), (t0, .inr (4, [.ref n0, .ref v1, .ref v2, .ref v3, .ref v4, .ref v5, .ref v6, .int 0])), (a9, .inl (cZ, 16, .inl (fun _ => 0))), (n0, .inr (1, [.ref a0, .ref a1, .ref a2, .ref a3, .ref a4, .ref a5, .ref a6, .ref a7, .ref a8, .ref a9, .int 0, .int 0]))] := hD
    subst hw_76
    exact en_i () hx hb hr hlocks hK (hP.sub [] rfl) (hD.sub [] (by decide) rfl) hS (Nat.le_of_ble_eq_true rfl) (Nat.le_of_ble_eq_true rfl) dX5_count_79 (Or.inl ⟨rfl, by first | (rw [sw_1_0]; decide) | (rw [sw_1_1]; decide) | (rw [sw_1_2]; decide) | (rw [sw_1_3]; decide) | (rw [sw_1_4]; decide) | (rw [sw_1_5]; decide) | (rw [sw_1_6]; decide) | (rw [sw_1_7]; decide) | (intro h; rcases h with h | h | h | h | h | h | h | h <;> exact absurd h (by assumption))⟩)
  by_cases sw_1_4 : w0 = 4
  · refine lv_tableIn (tgt := 80) hx hb dX5_count_1 (by rw [sw_1_4]; decide) (by rw [sw_1_4]; decide) (by rw [sw_1_4]; rfl) (by decide) ?_
    refine lv_aload_n hx hb dX5_count_80 rfl (lv_at hl 0 rfl) ?_
    refine cl_i (wr := [(t0, .inr (4, [.ref n0, .ref v1, .ref v2, .ref v3, .ref v4, .ref v5, .ref v6, .int 0])), (a9, .inl (cZ, 16, .inl (fun _ => 0)))]) (va_runV (As := []) (rest := []) ⟨hx, hb, hml, hown, hts⟩ (c_knowSpread l D cI cZ cR x0 n0 t0 g0 k0 u0 m0 s0 a0 a1 a2 a3 a4 a5 a6 a7 a8 a9 s.heap.size) (cwV 0 hts gX5_count_X5_knowSpread rfl rfl rfl (by decide +kernel) ⟨Nat.le_of_ble_eq_true rfl, Nat.le_of_ble_eq_true rfl⟩) (pV 5 0 hK hP hD [0, 1] rfl (by decide) rfl rfl) rfl rfl hl.1 rfl (lv_room (Nat.le_of_ble_eq_true rfl)) dX5_count_81 ⟨Nat.le_of_ble_eq_true rfl, Nat.le_of_ble_eq_true rfl⟩) hP hD hS hA [0, 1] [2, 3] rfl rfl (by decide) (by decide) (fun r_81 u_81 H locs hw_81 hP hD hS => ?_)
    have hP : va_P D vwCl [(t0, .inr (4, [.ref n0, .ref v1, .ref v2, .ref v3, .ref v4, .ref v5, .ref v6, .int 0])), (a9, .inl (cZ, 16, .inl (fun _ => 0))), (x0, .inr (5, [.ref n0, .ref t0, .ref g0, .ref k0, .ref u0, .ref m0, .ref s0, .int 1, .int 1, .int 0])), (n0, .inr (1, [.ref a0, .ref a1, .ref a2, .ref a3, .ref a4, .ref a5, .ref a6, .ref a7, .ref a8, .ref a9, .int 0, .int 0]))] H := hP
    have hD : va_D A [(t0, .inr (4, [.ref n0, .ref v1, .ref v2, .ref v3, .ref v4, .ref v5, .ref v6, .int 0])), (a9, .inl (cZ, 16, .inl (fun _ => 0))), (x0, .inr (5, [.ref n0, .ref t0, .ref g0, .ref k0, .ref u0, .ref m0, .ref s0, .int 1, .int 1, .int 0])), (n0, .inr (1, [.ref a0, .ref a1, .ref a2, .ref a3, .ref a4, .ref a5, .ref a6, .ref a7, .ref a8, .ref a9, .int 0, .int 0]))] := hD
    subst hw_81
    refine lv_if_eq (tgt := 94) hx hb dX5_count_84 (by decide) (fun c_84 => absurd c_84 (by decide)) (fun c_84 => ?_)
    refine lv_aload_n hx hb dX5_count_87 rfl (lv_at hl 0 rfl) ?_
    refine cl_i (wr := [(t0, .inr (4, [.ref n0, .ref v1, .ref v2, .ref v3, .ref v4, .ref v5, .ref v6, .int 0])), (a9, .inl (cZ, 16, .inl (fun _ => 0)))]) (va_runV (As := []) (rest := []) ⟨hx, hb, hml, hown, hts⟩ (c_lateEvents l D cI cZ cR x0 n0 t0 g0 k0 u0 m0 s0 a0 a1 a2 a3 a4 a5 a6 a7 a8 a9 H.size) (cwV 0 hts gX5_count_X5_lateEvents rfl rfl rfl (by decide +kernel) ⟨Nat.le_of_ble_eq_true rfl, Nat.le_of_ble_eq_true rfl⟩) (pV 5 2 hK hP hD [2, 3] rfl (by decide) rfl rfl) rfl rfl hl.1 rfl (lv_room (Nat.le_of_ble_eq_true rfl)) dX5_count_88 ⟨Nat.le_of_ble_eq_true rfl, Nat.le_of_ble_eq_true rfl⟩) hP hD hS hA [2, 3] [0, 1] rfl rfl (by decide) (by decide) (fun r_88 u_88 H locs hw_88 hP hD hS => ?_)
    have hP : va_P D vwCl [(t0, .inr (4, [.ref n0, .ref v1, .ref v2, .ref v3, .ref v4, .ref v5, .ref v6, .int 0])), (a9, .inl (cZ, 16, .inl (fun _ => 0)))] H := hP
    have hD : va_D A [(t0, .inr (4, [.ref n0, .ref v1, .ref v2, .ref v3, .ref v4, .ref v5, .ref v6, .int 0])), (a9, .inl (cZ, 16, .inl (fun _ => 0)))] := hD
    subst hw_88
    refine lv_goto (tgt := 95) hx hb dX5_count_91 (by decide) ?_
    exact en_i () hx hb hr hlocks hK (hP.sub [] rfl) (hD.sub [] (by decide) rfl) hS (Nat.le_of_ble_eq_true rfl) (Nat.le_of_ble_eq_true rfl) dX5_count_95 (Or.inl ⟨rfl, by first | (rw [sw_1_0]; decide) | (rw [sw_1_1]; decide) | (rw [sw_1_2]; decide) | (rw [sw_1_3]; decide) | (rw [sw_1_4]; decide) | (rw [sw_1_5]; decide) | (rw [sw_1_6]; decide) | (rw [sw_1_7]; decide) | (intro h; rcases h with h | h | h | h | h | h | h | h <;> exact absurd h (by assumption))⟩)
  by_cases sw_1_5 : w0 = 5
  · refine lv_tableIn (tgt := 96) hx hb dX5_count_1 (by rw [sw_1_5]; decide) (by rw [sw_1_5]; decide) (by rw [sw_1_5]; rfl) (by decide) ?_
    refine lv_aload_n hx hb dX5_count_96 rfl (lv_at hl 0 rfl) ?_
    refine cl_i (wr := [(t0, .inr (4, [.ref n0, .ref v1, .ref v2, .ref v3, .ref v4, .ref v5, .ref v6, .int 0])), (a9, .inl (cZ, 16, .inl (fun _ => 0)))]) (va_runV (As := []) (rest := []) ⟨hx, hb, hml, hown, hts⟩ (c_knowSpread l D cI cZ cR x0 n0 t0 g0 k0 u0 m0 s0 a0 a1 a2 a3 a4 a5 a6 a7 a8 a9 s.heap.size) (cwV 0 hts gX5_count_X5_knowSpread rfl rfl rfl (by decide +kernel) ⟨Nat.le_of_ble_eq_true rfl, Nat.le_of_ble_eq_true rfl⟩) (pV 5 0 hK hP hD [0, 1] rfl (by decide) rfl rfl) rfl rfl hl.1 rfl (lv_room (Nat.le_of_ble_eq_true rfl)) dX5_count_97 ⟨Nat.le_of_ble_eq_true rfl, Nat.le_of_ble_eq_true rfl⟩) hP hD hS hA [0, 1] [2, 3] rfl rfl (by decide) (by decide) (fun r_97 u_97 H locs hw_97 hP hD hS => ?_)
    have hP : va_P D vwCl [(t0, .inr (4, [.ref n0, .ref v1, .ref v2, .ref v3, .ref v4, .ref v5, .ref v6, .int 0])), (a9, .inl (cZ, 16, .inl (fun _ => 0))), (x0, .inr (5, [.ref n0, .ref t0, .ref g0, .ref k0, .ref u0, .ref m0, .ref s0, .int 1, .int 1, .int 0])), (n0, .inr (1, [.ref a0, .ref a1, .ref a2, .ref a3, .ref a4, .ref a5, .ref a6, .ref a7, .ref a8, .ref a9, .int 0, .int 0]))] H := hP
    have hD : va_D A [(t0, .inr (4, [.ref n0, .ref v1, .ref v2, .ref v3, .ref v4, .ref v5, .ref v6, .int 0])), (a9, .inl (cZ, 16, .inl (fun _ => 0))), (x0, .inr (5, [.ref n0, .ref t0, .ref g0, .ref k0, .ref u0, .ref m0, .ref s0, .int 1, .int 1, .int 0])), (n0, .inr (1, [.ref a0, .ref a1, .ref a2, .ref a3, .ref a4, .ref a5, .ref a6, .ref a7, .ref a8, .ref a9, .int 0, .int 0]))] := hD
    subst hw_97
    refine lv_if_eq (tgt := 110) hx hb dX5_count_100 (by decide) (fun c_100 => absurd c_100 (by decide)) (fun c_100 => ?_)
    refine lv_aload_n hx hb dX5_count_103 rfl (lv_at hl 0 rfl) ?_
    refine cl_i (wr := [(t0, .inr (4, [.ref n0, .ref v1, .ref v2, .ref v3, .ref v4, .ref v5, .ref v6, .int 0])), (a9, .inl (cZ, 16, .inl (fun _ => 0)))]) (va_runV (As := []) (rest := []) ⟨hx, hb, hml, hown, hts⟩ (c_lateMinutes l D cI cZ cR x0 n0 t0 g0 k0 u0 m0 s0 a0 a1 a2 a3 a4 a5 a6 a7 a8 a9 H.size) (cwV 0 hts gX5_count_X5_lateMinutes rfl rfl rfl (by decide +kernel) ⟨Nat.le_of_ble_eq_true rfl, Nat.le_of_ble_eq_true rfl⟩) (pV 5 2 hK hP hD [2, 3] rfl (by decide) rfl rfl) rfl rfl hl.1 rfl (lv_room (Nat.le_of_ble_eq_true rfl)) dX5_count_104 ⟨Nat.le_of_ble_eq_true rfl, Nat.le_of_ble_eq_true rfl⟩) hP hD hS hA [2, 3] [0, 1] rfl rfl (by decide) (by decide) (fun r_104 u_104 H locs hw_104 hP hD hS => ?_)
    have hP : va_P D vwCl [(t0, .inr (4, [.ref n0, .ref v1, .ref v2, .ref v3, .ref v4, .ref v5, .ref v6, .int 0])), (a9, .inl (cZ, 16, .inl (fun _ => 0)))] H := hP
    have hD : va_D A [(t0, .inr (4, [.ref n0, .ref v1, .ref v2, .ref v3, .ref v4, .ref v5, .ref v6, .int 0])), (a9, .inl (cZ, 16, .inl (fun _ => 0)))] := hD
    subst hw_104
    refine lv_goto (tgt := 111) hx hb dX5_count_107 (by decide) ?_
    exact en_i () hx hb hr hlocks hK (hP.sub [] rfl) (hD.sub [] (by decide) rfl) hS (Nat.le_of_ble_eq_true rfl) (Nat.le_of_ble_eq_true rfl) dX5_count_111 (Or.inl ⟨rfl, by first | (rw [sw_1_0]; decide) | (rw [sw_1_1]; decide) | (rw [sw_1_2]; decide) | (rw [sw_1_3]; decide) | (rw [sw_1_4]; decide) | (rw [sw_1_5]; decide) | (rw [sw_1_6]; decide) | (rw [sw_1_7]; decide) | (intro h; rcases h with h | h | h | h | h | h | h | h <;> exact absurd h (by assumption))⟩)
  by_cases sw_1_6 : w0 = 6
  · refine lv_tableIn (tgt := 112) hx hb dX5_count_1 (by rw [sw_1_6]; decide) (by rw [sw_1_6]; decide) (by rw [sw_1_6]; rfl) (by decide) ?_
    refine lv_aload_n hx hb dX5_count_112 rfl (lv_at hl 0 rfl) ?_
    refine va_get (D := D) (ci := 5) (v := .ref n0) (C := RX5) (T := TX5) (N := 10) hx hb hts iX5 hown hK.1 hP 0 rfl rfl 0 (by decide) kw_0 (fun _ h9 => h9) rfl dX5_count_113 ?_
    refine cl_i (wr := [(x0, .inr (5, [.ref n0, .ref t0, .ref g0, .ref k0, .ref u0, .ref m0, .ref s0, .int 0, .int 0, .int 0])), (t0, .inr (4, [.ref n0, .ref v1, .ref v2, .ref v3, .ref v4, .ref v5, .ref v6, .int 0]))]) (va_runV (As := []) (rest := []) ⟨hx, hb, hml, hown, hts⟩ (c_cancelledTrains l D cI cZ cR n0 a0 a1 a2 a3 a4 a5 a6 a7 a8 a9 s.heap.size) (cwV 0 hts gX5_count_X1_cancelledTrains rfl rfl rfl (by decide +kernel) ⟨Nat.le_of_ble_eq_true rfl, Nat.le_of_ble_eq_true rfl⟩) (pV 1 1 hK hP hD [1, 3] rfl (by decide) rfl rfl) rfl rfl hl.1 rfl (lv_room (Nat.le_of_ble_eq_true rfl)) dX5_count_116 ⟨Nat.le_of_ble_eq_true rfl, Nat.le_of_ble_eq_true rfl⟩) hP hD hS hA [1, 3] [0, 2] rfl rfl (by decide) (by decide) (fun r_116 u_116 H locs hw_116 hP hD hS => ?_)
    have hP : va_P D vwCl [(x0, .inr (5, [.ref n0, .ref t0, .ref g0, .ref k0, .ref u0, .ref m0, .ref s0, .int 0, .int 0, .int 0])), (t0, .inr (4, [.ref n0, .ref v1, .ref v2, .ref v3, .ref v4, .ref v5, .ref v6, .int 0]))] H := hP
    have hD : va_D A [(x0, .inr (5, [.ref n0, .ref t0, .ref g0, .ref k0, .ref u0, .ref m0, .ref s0, .int 0, .int 0, .int 0])), (t0, .inr (4, [.ref n0, .ref v1, .ref v2, .ref v3, .ref v4, .ref v5, .ref v6, .int 0]))] := hD
    subst hw_116
    exact en_i () hx hb hr hlocks hK (hP.sub [] rfl) (hD.sub [] (by decide) rfl) hS (Nat.le_of_ble_eq_true rfl) (Nat.le_of_ble_eq_true rfl) dX5_count_119 (Or.inl ⟨rfl, by first | (rw [sw_1_0]; decide) | (rw [sw_1_1]; decide) | (rw [sw_1_2]; decide) | (rw [sw_1_3]; decide) | (rw [sw_1_4]; decide) | (rw [sw_1_5]; decide) | (rw [sw_1_6]; decide) | (rw [sw_1_7]; decide) | (intro h; rcases h with h | h | h | h | h | h | h | h <;> exact absurd h (by assumption))⟩)
  by_cases sw_1_7 : w0 = 7
  · refine lv_tableIn (tgt := 120) hx hb dX5_count_1 (by rw [sw_1_7]; decide) (by rw [sw_1_7]; decide) (by rw [sw_1_7]; rfl) (by decide) ?_
    refine lv_aload_n hx hb dX5_count_120 rfl (lv_at hl 0 rfl) ?_
    refine va_get (D := D) (ci := 5) (v := .ref n0) (C := RX5) (T := TX5) (N := 10) hx hb hts iX5 hown hK.1 hP 0 rfl rfl 0 (by decide) kw_0 (fun _ h9 => h9) rfl dX5_count_121 ?_
    refine cl_i (wr := [(x0, .inr (5, [.ref n0, .ref t0, .ref g0, .ref k0, .ref u0, .ref m0, .ref s0, .int 0, .int 0, .int 0])), (t0, .inr (4, [.ref n0, .ref v1, .ref v2, .ref v3, .ref v4, .ref v5, .ref v6, .int 0])), (a9, .inl (cZ, 16, .inl (fun _ => 0)))]) (va_runV (As := []) (rest := []) ⟨hx, hb, hml, hown, hts⟩ (c_tightActivities l D cI cZ cR n0 a0 a1 a2 a3 a4 a5 a6 a7 a8 a9 s.heap.size) (cwV 0 hts gX5_count_X1_tightActivities rfl rfl rfl (by decide +kernel) ⟨Nat.le_of_ble_eq_true rfl, Nat.le_of_ble_eq_true rfl⟩) (pV 1 1 hK hP hD [1] rfl (by decide) rfl rfl) rfl rfl hl.1 rfl (lv_room (Nat.le_of_ble_eq_true rfl)) dX5_count_124 ⟨Nat.le_of_ble_eq_true rfl, Nat.le_of_ble_eq_true rfl⟩) hP hD hS hA [1] [0, 2, 3] rfl rfl (by decide) (by decide) (fun r_124 u_124 H locs hw_124 hP hD hS => ?_)
    have hP : va_P D vwCl [(x0, .inr (5, [.ref n0, .ref t0, .ref g0, .ref k0, .ref u0, .ref m0, .ref s0, .int 0, .int 0, .int 0])), (t0, .inr (4, [.ref n0, .ref v1, .ref v2, .ref v3, .ref v4, .ref v5, .ref v6, .int 0])), (a9, .inl (cZ, 16, .inl (fun _ => 0))), (n0, .inr (1, [.ref a0, .ref a1, .ref a2, .ref a3, .ref a4, .ref a5, .ref a6, .ref a7, .ref a8, .ref a9, .int 0, .int 0]))] H := hP
    have hD : va_D A [(x0, .inr (5, [.ref n0, .ref t0, .ref g0, .ref k0, .ref u0, .ref m0, .ref s0, .int 0, .int 0, .int 0])), (t0, .inr (4, [.ref n0, .ref v1, .ref v2, .ref v3, .ref v4, .ref v5, .ref v6, .int 0])), (a9, .inl (cZ, 16, .inl (fun _ => 0))), (n0, .inr (1, [.ref a0, .ref a1, .ref a2, .ref a3, .ref a4, .ref a5, .ref a6, .ref a7, .ref a8, .ref a9, .int 0, .int 0]))] := hD
    subst hw_124
    exact en_i () hx hb hr hlocks hK (hP.sub [] rfl) (hD.sub [] (by decide) rfl) hS (Nat.le_of_ble_eq_true rfl) (Nat.le_of_ble_eq_true rfl) dX5_count_127 (Or.inl ⟨rfl, by first | (rw [sw_1_0]; decide) | (rw [sw_1_1]; decide) | (rw [sw_1_2]; decide) | (rw [sw_1_3]; decide) | (rw [sw_1_4]; decide) | (rw [sw_1_5]; decide) | (rw [sw_1_6]; decide) | (rw [sw_1_7]; decide) | (intro h; rcases h with h | h | h | h | h | h | h | h <;> exact absurd h (by assumption))⟩)
  refine lv_tableOut (tgt := 128) hx hb dX5_count_1 (sw_out8 sw_1_0 sw_1_1 sw_1_2 sw_1_3 sw_1_4 sw_1_5 sw_1_6 sw_1_7) (by decide) ?_
  refine lv_iconst (v := (-1)) hx hb dX5_count_128 (by decide) ?_
  exact en_i () hx hb hr hlocks hK (hP.sub [] rfl) (hD.sub [] (by decide) rfl) hS (Nat.le_of_ble_eq_true rfl) (Nat.le_of_ble_eq_true rfl) dX5_count_129 (Or.inr ⟨rfl, by first | (rw [sw_1_0]; decide) | (rw [sw_1_1]; decide) | (rw [sw_1_2]; decide) | (rw [sw_1_3]; decide) | (rw [sw_1_4]; decide) | (rw [sw_1_5]; decide) | (rw [sw_1_6]; decide) | (rw [sw_1_7]; decide) | (intro h; rcases h with h | h | h | h | h | h | h | h <;> exact absurd h (by assumption))⟩)
