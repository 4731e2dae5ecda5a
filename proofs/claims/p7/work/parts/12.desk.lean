theorem nz_b {x : Int32} (h : x = 1 ∨ x = 0) : narrow .boolean (.int x) = .int x := by rcases h with rfl | rfl <;> rfl
theorem i_of {x : Int32} (h : 0 ≤ x ∧ x ≤ 59) : ∃ j : Nat, j < 60 ∧ x = nI j := by
  obtain ⟨j, hj, e⟩ := nI_of2 (x := x) (M := 59) (n := 59) rfl (by rw [i3_lt]; have := h.1; rw [i3_le] at this; omega) h.2
  exact ⟨j, by omega, e⟩
set_option maxHeartbeats 300000 in
set_option maxRecDepth 100000 in
theorem c_isIn (l : Launch) (D : va_G) (cI cZ cR : ClassId) (x : Int32) (lo : Int32) (hi : Int32) : CI l D cI cZ cR yX5_isIn wsX5_isIn { frames := 0, cells := 0, slots := 0, locals := 0 } [.int x, .int lo, .int hi] (wN) (fun (r : Int32) (u : Unit) => (r = 1 ∧ (lo ≤ x ∧ x ≤ hi)) ∨ (r = 0 ∧ ¬ (lo ≤ x ∧ x ≤ hi))) (fun (u : Unit) => (wN)) := by
  intro sz9
  refine en_W (Qc := fun A => va_Qi (fun (r : Int32) (u : Unit) => (r = 1 ∧ (lo ≤ x ∧ x ≤ hi)) ∨ (r = 0 ∧ ¬ (lo ≤ x ∧ x ≤ hi))) (sB D cI cZ cR (fun (u : Unit) => (wN)) A) A) (cc := cX5_isIn) (maxL := 3) (ret := (some .boolean)) (by decide) rfl (Nat.le_of_ble_eq_true rfl) ?_
  intro p e s m below meth c A ls hx hb hr hts hown hlocks hin hml hK hP hD hS hA hl
  have hown : s.vm.findClass RX5 = some m.cls := hown
  have hl : lv_has ls 3 [(0, .int x), (1, .int lo), (2, .int hi)] := hl
  refine lv_iload_n hx hb dX5_isIn_0 rfl (lv_at hl 0 rfl) ?_
  refine lv_iload_n hx hb dX5_isIn_1 rfl (lv_at hl 1 rfl) ?_
  refine lv_icmp_lt (tgt := 14) hx hb dX5_isIn_2 (by decide) (fun c_2 => ?_) (fun c_2 => ?_)
  · refine lv_iconst (v := 0) hx hb dX5_isIn_14 (by decide) ?_
    exact en_z () hx hb hr hlocks hK (hP.sub [] rfl) (hD.sub [] (by decide) rfl) hS (Nat.le_of_ble_eq_true rfl) (Nat.le_of_ble_eq_true rfl) dX5_isIn_15 rfl (Or.inr ⟨rfl, by first | exact ii_1 (by assumption) (by assumption) | exact ii_a (by assumption) | exact ii_b (by assumption)⟩)
  · refine lv_iload_n hx hb dX5_isIn_5 rfl (lv_at hl 0 rfl) ?_
    refine lv_iload_n hx hb dX5_isIn_6 rfl (lv_at hl 2 rfl) ?_
    refine lv_icmp_gt (tgt := 14) hx hb dX5_isIn_7 (by decide) (fun c_7 => ?_) (fun c_7 => ?_)
    · refine lv_iconst (v := 0) hx hb dX5_isIn_14 (by decide) ?_
      exact en_z () hx hb hr hlocks hK (hP.sub [] rfl) (hD.sub [] (by decide) rfl) hS (Nat.le_of_ble_eq_true rfl) (Nat.le_of_ble_eq_true rfl) dX5_isIn_15 rfl (Or.inr ⟨rfl, by first | exact ii_1 (by assumption) (by assumption) | exact ii_a (by assumption) | exact ii_b (by assumption)⟩)
    · refine lv_iconst (v := 1) hx hb dX5_isIn_10 (by decide) ?_
      refine lv_goto (tgt := 15) hx hb dX5_isIn_11 (by decide) ?_
      exact en_z () hx hb hr hlocks hK (hP.sub [] rfl) (hD.sub [] (by decide) rfl) hS (Nat.le_of_ble_eq_true rfl) (Nat.le_of_ble_eq_true rfl) dX5_isIn_15 rfl (Or.inl ⟨rfl, by first | exact ii_1 (by assumption) (by assumption) | exact ii_a (by assumption) | exact ii_b (by assumption)⟩)
set_option maxHeartbeats 300000 in
set_option maxRecDepth 100000 in
theorem c_asNumber (l : Launch) (D : va_G) (cI cZ cR : ClassId) (b1 : Int32) : CI l D cI cZ cR yX5_asNumber wsX5_asNumber { frames := 0, cells := 0, slots := 0, locals := 0 } [.int b1] (wN) (fun (r : Int32) (u : Unit) => (r = 1 ∧ ¬ b1 = 0) ∨ (r = 0 ∧ b1 = 0)) (fun (u : Unit) => (wN)) := by
  intro sz9
  refine en_W (Qc := fun A => va_Qi (fun (r : Int32) (u : Unit) => (r = 1 ∧ ¬ b1 = 0) ∨ (r = 0 ∧ b1 = 0)) (sB D cI cZ cR (fun (u : Unit) => (wN)) A) A) (cc := cX5_asNumber) (maxL := 1) (ret := (some .int)) (by decide) rfl (Nat.le_of_ble_eq_true rfl) ?_
  intro p e s m below meth c A ls hx hb hr hts hown hlocks hin hml hK hP hD hS hA hl
  have hown : s.vm.findClass RX5 = some m.cls := hown
  have hl : lv_has ls 1 [(0, .int b1)] := hl
  refine lv_iload_n hx hb dX5_asNumber_0 rfl (lv_at hl 0 rfl) ?_
  refine lv_if_eq (tgt := 8) hx hb dX5_asNumber_1 (by decide) (fun c_1 => ?_) (fun c_1 => ?_)
  · refine lv_iconst (v := 0) hx hb dX5_asNumber_8 (by decide) ?_
    exact en_i () hx hb hr hlocks hK (hP.sub [] rfl) (hD.sub [] (by decide) rfl) hS (Nat.le_of_ble_eq_true rfl) (Nat.le_of_ble_eq_true rfl) dX5_asNumber_9 (Or.inr ⟨rfl, by assumption⟩)
  · refine lv_iconst (v := 1) hx hb dX5_asNumber_4 (by decide) ?_
    refine lv_goto (tgt := 9) hx hb dX5_asNumber_5 (by decide) ?_
    exact en_i () hx hb hr hlocks hK (hP.sub [] rfl) (hD.sub [] (by decide) rfl) hS (Nat.le_of_ble_eq_true rfl) (Nat.le_of_ble_eq_true rfl) dX5_asNumber_9 (Or.inl ⟨rfl, by assumption⟩)
set_option maxHeartbeats 300000 in
set_option maxRecDepth 100000 in
theorem c_forgetAnswers (l : Launch) (D : va_G) (cI cZ cR : ClassId) (x0 : Nat) (t0 : Nat) (g0 : Nat) (k0 : Nat) (u0 : Nat) (m0 : Nat) (s0 : Nat) (sk : Int32) (hs : Int32) (rk : Int32) (n0 : Nat) : CV l D cI cZ cR yX5_forgetAnswers wsX5_forgetAnswers { frames := 0, cells := 0, slots := 0, locals := 0 } [.ref x0] (wc (cO x0 5 [.ref n0, .ref t0, .ref g0, .ref k0, .ref u0, .ref m0, .ref s0, .int sk, .int hs, .int rk]) wN) (fun (u : Unit) => True) (fun (u : Unit) => (wc (cO x0 5 [.ref n0, .ref t0, .ref g0, .ref k0, .ref u0, .ref m0, .ref s0, .int 0, .int hs, .int 0]) wN)) := by
  intro sz9
  refine en_W (Qc := fun A => va_Qv (fun (u : Unit) => True) (sB D cI cZ cR (fun (u : Unit) => (wc (cO x0 5 [.ref n0, .ref t0, .ref g0, .ref k0, .ref u0, .ref m0, .ref s0, .int 0, .int hs, .int 0]) wN)) A) A) (cc := cX5_forgetAnswers) (maxL := 1) (ret := none) (by decide) rfl (Nat.le_of_ble_eq_true rfl) ?_
  intro p e s m below meth c A ls hx hb hr hts hown hlocks hin hml hK hP hD hS hA hl
  have hown : s.vm.findClass RX5 = some m.cls := hown
  have hl : lv_has ls 1 [(0, .ref x0)] := hl
  have kw_0 := hts (.fieldLink RX5 55 "DelayDesk" "spreadKnown" "Z") (List.mem_of_getElem? (i := 1) rfl)
  have iX5 : ∀ w ∈ u_ws RX5 TX5 10, w ∈ wsX5_forgetAnswers := fun _ h9 => (List.mem_cons_of_mem _ (List.mem_append_right _ h9))
  have kw_2 := hts (.fieldLink RX5 62 "DelayDesk" "ringKnown" "Z") (List.mem_of_getElem? (i := 2) rfl)
  refine lv_aload_n hx hb dX5_forgetAnswers_0 rfl (lv_at hl 0 rfl) ?_
  refine lv_iconst (v := 0) hx hb dX5_forgetAnswers_1 (by decide) ?_
  refine va_put (D := D) (ci := 5) (v := .int 0) (ty := .boolean) (C := RX5) (T := TX5) (N := 10) hx hb hts iX5 tyX5 tyX5_ok nmX5 hown hK.1 hP hD hS 0 rfl rfl 7 (by decide) kw_0 (fun _ h9 => h9) rfl (by decide +kernel) rfl rfl (Nat.le_of_ble_eq_true rfl) dX5_forgetAnswers_2 (fun H locs hP hD hS => ?_)
  have hP : va_P D vwCl (wc (cO x0 5 [.ref n0, .ref t0, .ref g0, .ref k0, .ref u0, .ref m0, .ref s0, .int 0, .int hs, .int rk]) wN) H := hP
  have hD : va_D A (wc (cO x0 5 [.ref n0, .ref t0, .ref g0, .ref k0, .ref u0, .ref m0, .ref s0, .int 0, .int hs, .int rk]) wN) := hD
  refine lv_aload_n hx hb dX5_forgetAnswers_5 rfl (lv_at hl 0 rfl) ?_
  refine lv_iconst (v := 0) hx hb dX5_forgetAnswers_6 (by decide) ?_
  refine va_put (D := D) (ci := 5) (v := .int 0) (ty := .boolean) (C := RX5) (T := TX5) (N := 10) hx hb hts iX5 tyX5 tyX5_ok nmX5 hown hK.1 hP hD hS 0 rfl rfl 9 (by decide) kw_2 (fun _ h9 => h9) rfl (by decide +kernel) rfl rfl (Nat.le_of_ble_eq_true rfl) dX5_forgetAnswers_7 (fun H locs hP hD hS => ?_)
  have hP : va_P D vwCl (wc (cO x0 5 [.ref n0, .ref t0, .ref g0, .ref k0, .ref u0, .ref m0, .ref s0, .int 0, .int hs, .int 0]) wN) H := hP
  have hD : va_D A (wc (cO x0 5 [.ref n0, .ref t0, .ref g0, .ref k0, .ref u0, .ref m0, .ref s0, .int 0, .int hs, .int 0]) wN) := hD
  exact en_v () hx hb hr hlocks hK (hP.sub [0] rfl) (hD.sub [0] (by decide) rfl) hS (Nat.le_of_ble_eq_true rfl) (Nat.le_of_ble_eq_true rfl) dX5_forgetAnswers_10 (trivial)
set_option maxHeartbeats 300000 in
set_option maxRecDepth 100000 in
theorem c_knowSpread (l : Launch) (D : va_G) (cI cZ cR : ClassId) (x0 : Nat) (t0 : Nat) (g0 : Nat) (k0 : Nat) (u0 : Nat) (m0 : Nat) (s0 : Nat) (sk : Int32) (hs : Int32) (rk : Int32) (n0 : Nat) (a0 : Nat) (a1 : Nat) (a2 : Nat) (a3 : Nat) (a4 : Nat) (a5 : Nat) (a6 : Nat) (a7 : Nat) (a8 : Nat) (a9 : Nat) (E : Nat) (Ac : Nat) (pl : Nat → Int32) (so : Nat → Int32) (th : Nat → Int32) (fr : Nat → Int32) (to : Nat → Int32) (le : Nat → Int32) (ke : Nat → Int32) (mi : Nat → Int32) (hE : E ≤ 60) (hAc : Ac ≤ 100) (hfr : ∀ i, i < Ac → vp_in (fr i) E) (hto : ∀ i, i < Ac → vp_in (to i) E) (hhs : hs = 1 ∨ hs = 0) (hwf : krW E Ac pl so fr to le) (hkn : kKn (krS E Ac pl so fr to le (hdB (tbC th) ke fr to)) E sk hs mi) : CI l D cI cZ cR yX5_knowSpread wsX5_knowSpread { frames := 4, cells := 0, slots := 0, locals := 87 } [.ref x0] (wc (cO x0 5 [.ref n0, .ref t0, .ref g0, .ref k0, .ref u0, .ref m0, .ref s0, .int sk, .int hs, .int rk]) (wc (cO n0 1 [.ref a0, .ref a1, .ref a2, .ref a3, .ref a4, .ref a5, .ref a6, .ref a7, .ref a8, .ref a9, .int (nI E), .int (nI Ac)]) (wc (cA a1 cI 60 pl) (wc (cA a2 cI 60 so) (wc (cA a3 cZ 60 th) (wc (cA a5 cI 100 fr) (wc (cA a6 cI 100 to) (wc (cA a7 cI 100 le) (wc (cA a8 cZ 100 ke) (wc (cA m0 cI 60 mi) wN)))))))))) (fun (r : Int32) (u : (Nat → Int32) × Int32 × Int32) => (r = 1 ∧ ((krS E Ac pl so fr to le (hdB (tbC th) ke fr to)).1 = true ∧ agr E u.1 (krS E Ac pl so fr to le (hdB (tbC th) ke fr to)).2 ∧ kKn (krS E Ac pl so fr to le (hdB (tbC th) ke fr to)) E u.2.1 u.2.2 u.1 ∧ (u.2.2 = 1 ∨ u.2.2 = 0))) ∨ (r = 0 ∧ ((krS E Ac pl so fr to le (hdB (tbC th) ke fr to)).1 = false ∧ kKn (krS E Ac pl so fr to le (hdB (tbC th) ke fr to)) E u.2.1 u.2.2 u.1 ∧ (u.2.2 = 1 ∨ u.2.2 = 0)))) (fun (u : (Nat → Int32) × Int32 × Int32) => (wc (cO x0 5 [.ref n0, .ref t0, .ref g0, .ref k0, .ref u0, .ref m0, .ref s0, .int u.2.1, .int u.2.2, .int rk]) (wc (cO n0 1 [.ref a0, .ref a1, .ref a2, .ref a3, .ref a4, .ref a5, .ref a6, .ref a7, .ref a8, .ref a9, .int (nI E), .int (nI Ac)]) (wc (cA a1 cI 60 pl) (wc (cA a2 cI 60 so) (wc (cA a3 cZ 60 th) (wc (cA a5 cI 100 fr) (wc (cA a6 cI 100 to) (wc (cA a7 cI 100 le) (wc (cA a8 cZ 100 ke) (wc (cA m0 cI 60 u.1) wN))))))))))) := by
  intro sz9
  refine en_W (Qc := fun A => va_Qi (fun (r : Int32) (u : (Nat → Int32) × Int32 × Int32) => (r = 1 ∧ ((krS E Ac pl so fr to le (hdB (tbC th) ke fr to)).1 = true ∧ agr E u.1 (krS E Ac pl so fr to le (hdB (tbC th) ke fr to)).2 ∧ kKn (krS E Ac pl so fr to le (hdB (tbC th) ke fr to)) E u.2.1 u.2.2 u.1 ∧ (u.2.2 = 1 ∨ u.2.2 = 0))) ∨ (r = 0 ∧ ((krS E Ac pl so fr to le (hdB (tbC th) ke fr to)).1 = false ∧ kKn (krS E Ac pl so fr to le (hdB (tbC th) ke fr to)) E u.2.1 u.2.2 u.1 ∧ (u.2.2 = 1 ∨ u.2.2 = 0)))) (sB D cI cZ cR (fun (u : (Nat → Int32) × Int32 × Int32) => (wc (cO x0 5 [.ref n0, .ref t0, .ref g0, .ref k0, .ref u0, .ref m0, .ref s0, .int u.2.1, .int u.2.2, .int rk]) (wc (cO n0 1 [.ref a0, .ref a1, .ref a2, .ref a3, .ref a4, .ref a5, .ref a6, .ref a7, .ref a8, .ref a9, .int (nI E), .int (nI Ac)]) (wc (cA a1 cI 60 pl) (wc (cA a2 cI 60 so) (wc (cA a3 cZ 60 th) (wc (cA a5 cI 100 fr) (wc (cA a6 cI 100 to) (wc (cA a7 cI 100 le) (wc (cA a8 cZ 100 ke) (wc (cA m0 cI 60 u.1) wN))))))))))) A) A) (cc := cX5_knowSpread) (maxL := 1) (ret := (some .boolean)) (by decide) rfl (Nat.le_of_ble_eq_true rfl) ?_
  intro p e s m below meth c A ls hx hb hr hts hown hlocks hin hml hK hP hD hS hA hl
  have hown : s.vm.findClass RX5 = some m.cls := hown
  have hl : lv_has ls 1 [(0, .ref x0)] := hl
  have kw_0 := hts (.fieldLink RX5 55 "DelayDesk" "spreadKnown" "Z") (List.mem_of_getElem? (i := 1) rfl)
  have iX5 : ∀ w ∈ u_ws RX5 TX5 10, w ∈ wsX5_knowSpread := fun _ h9 => (List.mem_cons_of_mem _ (List.mem_append_left _ (List.mem_append_right _ h9)))
  have kw_2 := hts (.fieldLink RX5 59 "DelayDesk" "hasSpread" "Z") (List.mem_of_getElem? (i := 4) rfl)
  have kw_3 := hts (.fieldLink RX5 10 "DelayDesk" "net" "LDelayDesk$Net;") (List.mem_of_getElem? (i := 2) rfl)
  have kw_4 := hts (.fieldLink RX5 48 "DelayDesk" "minutes" "[I") (List.mem_of_getElem? (i := 3) rfl)
  refine lv_aload_n hx hb dX5_knowSpread_0 rfl (lv_at hl 0 rfl) ?_
  refine va_get (D := D) (ci := 5) (v := .int sk) (C := RX5) (T := TX5) (N := 10) hx hb hts iX5 hown hK.1 hP 0 rfl rfl 7 (by decide) kw_0 (fun _ h9 => h9) rfl dX5_knowSpread_1 ?_
  refine lv_if_ne (tgt := 38) hx hb dX5_knowSpread_4 (by decide) (fun c_4 => ?_) (fun c_4 => ?_)
  · refine lv_aload_n hx hb dX5_knowSpread_38 rfl (lv_at hl 0 rfl) ?_
    refine va_get (D := D) (ci := 5) (v := .int hs) (C := RX5) (T := TX5) (N := 10) hx hb hts iX5 hown hK.1 hP 0 rfl rfl 8 (by decide) kw_2 (fun _ h9 => h9) rfl dX5_knowSpread_39 ?_
    exact en_z ((mi, sk, hs)) hx hb hr hlocks hK (hP.sub [0, 1, 2, 3, 4, 5, 6, 7, 8, 9] rfl) (hD.sub [0, 1, 2, 3, 4, 5, 6, 7, 8, 9] (by decide) rfl) hS (Nat.le_of_ble_eq_true rfl) (Nat.le_of_ble_eq_true rfl) dX5_knowSpread_42 (nz_b hhs) (kn_r hkn c_4 hhs)
  · refine lv_aload_n hx hb dX5_knowSpread_7 rfl (lv_at hl 0 rfl) ?_
    refine va_get (D := D) (ci := 5) (v := .ref n0) (C := RX5) (T := TX5) (N := 10) hx hb hts iX5 hown hK.1 hP 0 rfl rfl 0 (by decide) kw_3 (fun _ h9 => h9) rfl dX5_knowSpread_8 ?_
    refine lv_aload_n hx hb dX5_knowSpread_11 rfl (lv_at hl 0 rfl) ?_
    refine va_get (D := D) (ci := 5) (v := .ref m0) (C := RX5) (T := TX5) (N := 10) hx hb hts iX5 hown hK.1 hP 0 rfl rfl 5 (by decide) kw_4 (fun _ h9 => h9) rfl dX5_knowSpread_12 ?_
    refine cl_v (wr := (wc (cO x0 5 [.ref n0, .ref t0, .ref g0, .ref k0, .ref u0, .ref m0, .ref s0, .int sk, .int hs, .int rk]) (wc (cA a3 cZ 60 th) (wc (cA a5 cI 100 fr) (wc (cA a6 cI 100 to) (wc (cA a7 cI 100 le) (wc (cA a8 cZ 100 ke) wN))))))) (va_runV (As := [.ref m0]) (rest := []) ⟨hx, hb, hml, hown, hts⟩ (c_putEarliest l D cI cZ cR n0 a0 a1 a2 a3 a4 a5 a6 a7 a8 a9 E Ac m0 pl so mi (by omega) s.heap.size) (cwV 1 hts gX5_knowSpread_X1_putEarliest rfl rfl rfl hd_X1_putEarliest ⟨Nat.le_of_ble_eq_true rfl, Nat.le_of_ble_eq_true rfl⟩) (pV 1 1 hK hP hD [1, 2, 3, 9] rfl (by decide) rfl rfl) rfl rfl hl.1 rfl (lv_room (Nat.le_of_ble_eq_true rfl)) dX5_knowSpread_15 ⟨Nat.le_of_ble_eq_true rfl, Nat.le_of_ble_eq_true rfl⟩) hP hD hS hA [1, 2, 3, 9] [0, 4, 5, 6, 7, 8] rfl rfl (by decide) (by decide) (fun u_15 H locs hw_15 hP hD hS => ?_)
    have hP : va_P D vwCl (wc (cO x0 5 [.ref n0, .ref t0, .ref g0, .ref k0, .ref u0, .ref m0, .ref s0, .int sk, .int hs, .int rk]) (wc (cA a3 cZ 60 th) (wc (cA a5 cI 100 fr) (wc (cA a6 cI 100 to) (wc (cA a7 cI 100 le) (wc (cA a8 cZ 100 ke) (wc (cO n0 1 [.ref a0, .ref a1, .ref a2, .ref a3, .ref a4, .ref a5, .ref a6, .ref a7, .ref a8, .ref a9, .int (nI E), .int (nI Ac)]) (wc (cA a1 cI 60 pl) (wc (cA a2 cI 60 so) (wc (cA m0 cI 60 u_15) wN)))))))))) H := hP
    have hD : va_D A (wc (cO x0 5 [.ref n0, .ref t0, .ref g0, .ref k0, .ref u0, .ref m0, .ref s0, .int sk, .int hs, .int rk]) (wc (cA a3 cZ 60 th) (wc (cA a5 cI 100 fr) (wc (cA a6 cI 100 to) (wc (cA a7 cI 100 le) (wc (cA a8 cZ 100 ke) (wc (cO n0 1 [.ref a0, .ref a1, .ref a2, .ref a3, .ref a4, .ref a5, .ref a6, .ref a7, .ref a8, .ref a9, .int (nI E), .int (nI Ac)]) (wc (cA a1 cI 60 pl) (wc (cA a2 cI 60 so) (wc (cA m0 cI 60 u_15) wN)))))))))) := hD
    refine lv_aload_n hx hb dX5_knowSpread_18 rfl (lv_at hl 0 rfl) ?_
    refine lv_aload_n hx hb dX5_knowSpread_19 rfl (lv_at hl 0 rfl) ?_
    refine va_get (D := D) (ci := 5) (v := .ref n0) (C := RX5) (T := TX5) (N := 10) hx hb hts iX5 hown hK.1 hP 0 rfl rfl 0 (by decide) kw_3 (fun _ h9 => h9) rfl dX5_knowSpread_20 ?_
    refine lv_aload_n hx hb dX5_knowSpread_23 rfl (lv_at hl 0 rfl) ?_
    refine va_get (D := D) (ci := 5) (v := .ref m0) (C := RX5) (T := TX5) (N := 10) hx hb hts iX5 hown hK.1 hP 0 rfl rfl 5 (by decide) kw_4 (fun _ h9 => h9) rfl dX5_knowSpread_24 ?_
    refine cl_i (wr := (wc (cO x0 5 [.ref n0, .ref t0, .ref g0, .ref k0, .ref u0, .ref m0, .ref s0, .int sk, .int hs, .int rk]) (wc (cA a1 cI 60 pl) (wc (cA a2 cI 60 so) wN)))) (va_runV (As := [.ref m0]) (rest := [.ref x0]) ⟨hx, hb, hml, hown, hts⟩ (c_settle l D cI cZ cR n0 a0 a1 a2 a3 a4 a5 a6 a7 a8 a9 E Ac m0 th fr to le ke u_15 (by omega) (by omega) (by with_reducible assumption) (by with_reducible assumption) H.size) (cwV 1 hts gX5_knowSpread_X1_settle rfl rfl rfl hd_X1_settle ⟨Nat.le_of_ble_eq_true rfl, Nat.le_of_ble_eq_true rfl⟩) (pV 1 6 hK hP hD [6, 1, 2, 3, 4, 5, 9] rfl (by decide) rfl rfl) rfl rfl hl.1 rfl (lv_room (Nat.le_of_ble_eq_true rfl)) dX5_knowSpread_27 ⟨Nat.le_of_ble_eq_true rfl, Nat.le_of_ble_eq_true rfl⟩) hP hD hS hA [6, 1, 2, 3, 4, 5, 9] [0, 7, 8] rfl rfl (by decide) (by decide) (fun r_27 u_27 H locs hw_27 hP hD hS => ?_)
    have hP : va_P D vwCl (wc (cO x0 5 [.ref n0, .ref t0, .ref g0, .ref k0, .ref u0, .ref m0, .ref s0, .int sk, .int hs, .int rk]) (wc (cA a1 cI 60 pl) (wc (cA a2 cI 60 so) (wc (cO n0 1 [.ref a0, .ref a1, .ref a2, .ref a3, .ref a4, .ref a5, .ref a6, .ref a7, .ref a8, .ref a9, .int (nI E), .int (nI Ac)]) (wc (cA a3 cZ 60 th) (wc (cA a5 cI 100 fr) (wc (cA a6 cI 100 to) (wc (cA a7 cI 100 le) (wc (cA a8 cZ 100 ke) (wc (cA m0 cI 60 u_27) wN)))))))))) H := hP
    have hD : va_D A (wc (cO x0 5 [.ref n0, .ref t0, .ref g0, .ref k0, .ref u0, .ref m0, .ref s0, .int sk, .int hs, .int rk]) (wc (cA a1 cI 60 pl) (wc (cA a2 cI 60 so) (wc (cO n0 1 [.ref a0, .ref a1, .ref a2, .ref a3, .ref a4, .ref a5, .ref a6, .ref a7, .ref a8, .ref a9, .int (nI E), .int (nI Ac)]) (wc (cA a3 cZ 60 th) (wc (cA a5 cI 100 fr) (wc (cA a6 cI 100 to) (wc (cA a7 cI 100 le) (wc (cA a8 cZ 100 ke) (wc (cA m0 cI 60 u_27) wN)))))))))) := hD
    rcases hw_27 with ⟨rfl, hf_27⟩ | ⟨rfl, hf_27⟩
    · refine va_put (D := D) (ci := 5) (v := .int 1) (ty := .boolean) (C := RX5) (T := TX5) (N := 10) hx hb hts iX5 tyX5 tyX5_ok nmX5 hown hK.1 hP hD hS 0 rfl rfl 8 (by decide) kw_2 (fun _ h9 => h9) rfl (by decide +kernel) rfl rfl (Nat.le_of_ble_eq_true rfl) dX5_knowSpread_30 (fun H locs hP hD hS => ?_)
      have hP : va_P D vwCl (wc (cO x0 5 [.ref n0, .ref t0, .ref g0, .ref k0, .ref u0, .ref m0, .ref s0, .int sk, .int 1, .int rk]) (wc (cA a1 cI 60 pl) (wc (cA a2 cI 60 so) (wc (cO n0 1 [.ref a0, .ref a1, .ref a2, .ref a3, .ref a4, .ref a5, .ref a6, .ref a7, .ref a8, .ref a9, .int (nI E), .int (nI Ac)]) (wc (cA a3 cZ 60 th) (wc (cA a5 cI 100 fr) (wc (cA a6 cI 100 to) (wc (cA a7 cI 100 le) (wc (cA a8 cZ 100 ke) (wc (cA m0 cI 60 u_27) wN)))))))))) H := hP
      have hD : va_D A (wc (cO x0 5 [.ref n0, .ref t0, .ref g0, .ref k0, .ref u0, .ref m0, .ref s0, .int sk, .int 1, .int rk]) (wc (cA a1 cI 60 pl) (wc (cA a2 cI 60 so) (wc (cO n0 1 [.ref a0, .ref a1, .ref a2, .ref a3, .ref a4, .ref a5, .ref a6, .ref a7, .ref a8, .ref a9, .int (nI E), .int (nI Ac)]) (wc (cA a3 cZ 60 th) (wc (cA a5 cI 100 fr) (wc (cA a6 cI 100 to) (wc (cA a7 cI 100 le) (wc (cA a8 cZ 100 ke) (wc (cA m0 cI 60 u_27) wN)))))))))) := hD
      refine lv_aload_n hx hb dX5_knowSpread_33 rfl (lv_at hl 0 rfl) ?_
      refine lv_iconst (v := 1) hx hb dX5_knowSpread_34 (by decide) ?_
      refine va_put (D := D) (ci := 5) (v := .int 1) (ty := .boolean) (C := RX5) (T := TX5) (N := 10) hx hb hts iX5 tyX5 tyX5_ok nmX5 hown hK.1 hP hD hS 0 rfl rfl 7 (by decide) kw_0 (fun _ h9 => h9) rfl (by decide +kernel) rfl rfl (Nat.le_of_ble_eq_true rfl) dX5_knowSpread_35 (fun H locs hP hD hS => ?_)
      have hP : va_P D vwCl (wc (cO x0 5 [.ref n0, .ref t0, .ref g0, .ref k0, .ref u0, .ref m0, .ref s0, .int 1, .int 1, .int rk]) (wc (cA a1 cI 60 pl) (wc (cA a2 cI 60 so) (wc (cO n0 1 [.ref a0, .ref a1, .ref a2, .ref a3, .ref a4, .ref a5, .ref a6, .ref a7, .ref a8, .ref a9, .int (nI E), .int (nI Ac)]) (wc (cA a3 cZ 60 th) (wc (cA a5 cI 100 fr) (wc (cA a6 cI 100 to) (wc (cA a7 cI 100 le) (wc (cA a8 cZ 100 ke) (wc (cA m0 cI 60 u_27) wN)))))))))) H := hP
      have hD : va_D A (wc (cO x0 5 [.ref n0, .ref t0, .ref g0, .ref k0, .ref u0, .ref m0, .ref s0, .int 1, .int 1, .int rk]) (wc (cA a1 cI 60 pl) (wc (cA a2 cI 60 so) (wc (cO n0 1 [.ref a0, .ref a1, .ref a2, .ref a3, .ref a4, .ref a5, .ref a6, .ref a7, .ref a8, .ref a9, .int (nI E), .int (nI Ac)]) (wc (cA a3 cZ 60 th) (wc (cA a5 cI 100 fr) (wc (cA a6 cI 100 to) (wc (cA a7 cI 100 le) (wc (cA a8 cZ 100 ke) (wc (cA m0 cI 60 u_27) wN)))))))))) := hD
      refine lv_aload_n hx hb dX5_knowSpread_38 rfl (lv_at hl 0 rfl) ?_
      refine va_get (D := D) (ci := 5) (v := .int 1) (C := RX5) (T := TX5) (N := 10) hx hb hts iX5 hown hK.1 hP 0 rfl rfl 8 (by decide) kw_2 (fun _ h9 => h9) rfl dX5_knowSpread_39 ?_
      exact en_z (u_27, 1, 1) hx hb hr hlocks hK (hP.sub [0, 3, 1, 2, 4, 5, 6, 7, 8, 9] rfl) (hD.sub [0, 3, 1, 2, 4, 5, 6, 7, 8, 9] (by decide) rfl) hS (Nat.le_of_ble_eq_true rfl) (Nat.le_of_ble_eq_true rfl) dX5_knowSpread_42 rfl (Or.inl ⟨rfl, by first | exact kn_1 hwf hf_27 hw_15 | exact kn_f hwf hf_27 hw_15⟩)
    · refine va_put (D := D) (ci := 5) (v := .int 0) (ty := .boolean) (C := RX5) (T := TX5) (N := 10) hx hb hts iX5 tyX5 tyX5_ok nmX5 hown hK.1 hP hD hS 0 rfl rfl 8 (by decide) kw_2 (fun _ h9 => h9) rfl (by decide +kernel) rfl rfl (Nat.le_of_ble_eq_true rfl) dX5_knowSpread_30 (fun H locs hP hD hS => ?_)
      have hP : va_P D vwCl (wc (cO x0 5 [.ref n0, .ref t0, .ref g0, .ref k0, .ref u0, .ref m0, .ref s0, .int sk, .int 0, .int rk]) (wc (cA a1 cI 60 pl) (wc (cA a2 cI 60 so) (wc (cO n0 1 [.ref a0, .ref a1, .ref a2, .ref a3, .ref a4, .ref a5, .ref a6, .ref a7, .ref a8, .ref a9, .int (nI E), .int (nI Ac)]) (wc (cA a3 cZ 60 th) (wc (cA a5 cI 100 fr) (wc (cA a6 cI 100 to) (wc (cA a7 cI 100 le) (wc (cA a8 cZ 100 ke) (wc (cA m0 cI 60 u_27) wN)))))))))) H := hP
      have hD : va_D A (wc (cO x0 5 [.ref n0, .ref t0, .ref g0, .ref k0, .ref u0, .ref m0, .ref s0, .int sk, .int 0, .int rk]) (wc (cA a1 cI 60 pl) (wc (cA a2 cI 60 so) (wc (cO n0 1 [.ref a0, .ref a1, .ref a2, .ref a3, .ref a4, .ref a5, .ref a6, .ref a7, .ref a8, .ref a9, .int (nI E), .int (nI Ac)]) (wc (cA a3 cZ 60 th) (wc (cA a5 cI 100 fr) (wc (cA a6 cI 100 to) (wc (cA a7 cI 100 le) (wc (cA a8 cZ 100 ke) (wc (cA m0 cI 60 u_27) wN)))))))))) := hD
      refine lv_aload_n hx hb dX5_knowSpread_33 rfl (lv_at hl 0 rfl) ?_
      refine lv_iconst (v := 1) hx hb dX5_knowSpread_34 (by decide) ?_
      refine va_put (D := D) (ci := 5) (v := .int 1) (ty := .boolean) (C := RX5) (T := TX5) (N := 10) hx hb hts iX5 tyX5 tyX5_ok nmX5 hown hK.1 hP hD hS 0 rfl rfl 7 (by decide) kw_0 (fun _ h9 => h9) rfl (by decide +kernel) rfl rfl (Nat.le_of_ble_eq_true rfl) dX5_knowSpread_35 (fun H locs hP hD hS => ?_)
      have hP : va_P D vwCl (wc (cO x0 5 [.ref n0, .ref t0, .ref g0, .ref k0, .ref u0, .ref m0, .ref s0, .int 1, .int 0, .int rk]) (wc (cA a1 cI 60 pl) (wc (cA a2 cI 60 so) (wc (cO n0 1 [.ref a0, .ref a1, .ref a2, .ref a3, .ref a4, .ref a5, .ref a6, .ref a7, .ref a8, .ref a9, .int (nI E), .int (nI Ac)]) (wc (cA a3 cZ 60 th) (wc (cA a5 cI 100 fr) (wc (cA a6 cI 100 to) (wc (cA a7 cI 100 le) (wc (cA a8 cZ 100 ke) (wc (cA m0 cI 60 u_27) wN)))))))))) H := hP
      have hD : va_D A (wc (cO x0 5 [.ref n0, .ref t0, .ref g0, .ref k0, .ref u0, .ref m0, .ref s0, .int 1, .int 0, .int rk]) (wc (cA a1 cI 60 pl) (wc (cA a2 cI 60 so) (wc (cO n0 1 [.ref a0, .ref a1, .ref a2, .ref a3, .ref a4, .ref a5, .ref a6, .ref a7, .ref a8, .ref a9, .int (nI E), .int (nI Ac)]) (wc (cA a3 cZ 60 th) (wc (cA a5 cI 100 fr) (wc (cA a6 cI 100 to) (wc (cA a7 cI 100 le) (wc (cA a8 cZ 100 ke) (wc (cA m0 cI 60 u_27) wN)))))))))) := hD
      refine lv_aload_n hx hb dX5_knowSpread_38 rfl (lv_at hl 0 rfl) ?_
      refine va_get (D := D) (ci := 5) (v := .int 0) (C := RX5) (T := TX5) (N := 10) hx hb hts iX5 hown hK.1 hP 0 rfl rfl 8 (by decide) kw_2 (fun _ h9 => h9) rfl dX5_knowSpread_39 ?_
      exact en_z (u_27, 1, 0) hx hb hr hlocks hK (hP.sub [0, 3, 1, 2, 4, 5, 6, 7, 8, 9] rfl) (hD.sub [0, 3, 1, 2, 4, 5, 6, 7, 8, 9] (by decide) rfl) hS (Nat.le_of_ble_eq_true rfl) (Nat.le_of_ble_eq_true rfl) dX5_knowSpread_42 rfl (Or.inr ⟨rfl, by first | exact kn_1 hwf hf_27 hw_15 | exact kn_f hwf hf_27 hw_15⟩)
set_option maxHeartbeats 300000 in
set_option maxRecDepth 100000 in
theorem c_isLate (l : Launch) (D : va_G) (cI cZ cR : ClassId) (x0 : Nat) (t0 : Nat) (g0 : Nat) (k0 : Nat) (u0 : Nat) (m0 : Nat) (s0 : Nat) (sk : Int32) (hs : Int32) (rk : Int32) (n0 : Nat) (a0 : Nat) (a1 : Nat) (a2 : Nat) (a3 : Nat) (a4 : Nat) (a5 : Nat) (a6 : Nat) (a7 : Nat) (a8 : Nat) (a9 : Nat) (E : Nat) (Ac : Nat) (pl : Nat → Int32) (th : Nat → Int32) (mi : Nat → Int32) (e0 : Int32) (hE : E ≤ 60) : CI l D cI cZ cR yX5_isLate wsX5_isLate { frames := 1, cells := 0, slots := 0, locals := 21 } [.ref x0, .int e0] (wc (cO x0 5 [.ref n0, .ref t0, .ref g0, .ref k0, .ref u0, .ref m0, .ref s0, .int sk, .int hs, .int rk]) (wc (cO n0 1 [.ref a0, .ref a1, .ref a2, .ref a3, .ref a4, .ref a5, .ref a6, .ref a7, .ref a8, .ref a9, .int (nI E), .int (nI Ac)]) (wc (cA a1 cI 60 pl) (wc (cA a3 cZ 60 th) (wc (cA m0 cI 60 mi) wN))))) (fun (r : Int32) (u : Unit) => (r = 1 ∧ (vp_in e0 E ∧ kLt (tbC th) pl mi e0.toNatClampNeg = true)) ∨ (r = 0 ∧ (vp_in e0 E → kLt (tbC th) pl mi e0.toNatClampNeg = false))) (fun (u : Unit) => (wc (cO x0 5 [.ref n0, .ref t0, .ref g0, .ref k0, .ref u0, .ref m0, .ref s0, .int sk, .int hs, .int rk]) (wc (cO n0 1 [.ref a0, .ref a1, .ref a2, .ref a3, .ref a4, .ref a5, .ref a6, .ref a7, .ref a8, .ref a9, .int (nI E), .int (nI Ac)]) (wc (cA a1 cI 60 pl) (wc (cA a3 cZ 60 th) (wc (cA m0 cI 60 mi) wN)))))) := by
  intro sz9
  refine en_W (Qc := fun A => va_Qi (fun (r : Int32) (u : Unit) => (r = 1 ∧ (vp_in e0 E ∧ kLt (tbC th) pl mi e0.toNatClampNeg = true)) ∨ (r = 0 ∧ (vp_in e0 E → kLt (tbC th) pl mi e0.toNatClampNeg = false))) (sB D cI cZ cR (fun (u : Unit) => (wc (cO x0 5 [.ref n0, .ref t0, .ref g0, .ref k0, .ref u0, .ref m0, .ref s0, .int sk, .int hs, .int rk]) (wc (cO n0 1 [.ref a0, .ref a1, .ref a2, .ref a3, .ref a4, .ref a5, .ref a6, .ref a7, .ref a8, .ref a9, .int (nI E), .int (nI Ac)]) (wc (cA a1 cI 60 pl) (wc (cA a3 cZ 60 th) (wc (cA m0 cI 60 mi) wN)))))) A) A) (cc := cX5_isLate) (maxL := 2) (ret := (some .boolean)) (by decide) rfl (Nat.le_of_ble_eq_true rfl) ?_
  intro p e s m below meth c A ls hx hb hr hts hown hlocks hin hml hK hP hD hS hA hl
  have hown : s.vm.findClass RX5 = some m.cls := hown
  have hl : lv_has ls 2 [(0, .ref x0), (1, .int e0)] := hl
  have kw_0 := hts (.fieldLink RX5 10 "DelayDesk" "net" "LDelayDesk$Net;") (List.mem_of_getElem? (i := 1) rfl)
  have iX5 : ∀ w ∈ u_ws RX5 TX5 10, w ∈ wsX5_isLate := fun _ h9 => (List.mem_cons_of_mem _ (List.mem_append_left _ (List.mem_append_right _ h9)))
  have kw_2 := hts (.fieldLink RX5 137 "DelayDesk$Net" "there" "[Z") (List.mem_of_getElem? (i := 2) rfl)
  have iX1 : ∀ w ∈ u_ws RX1 TX1 12, w ∈ wsX5_isLate := fun _ h9 => (List.mem_cons_of_mem _ (List.mem_append_right _ h9))
  have kw_4 := hts (.fieldLink RX5 48 "DelayDesk" "minutes" "[I") (List.mem_of_getElem? (i := 3) rfl)
  have kw_5 := hts (.fieldLink RX5 140 "DelayDesk$Net" "plan" "[I") (List.mem_of_getElem? (i := 4) rfl)
  refine lv_aload_n hx hb dX5_isLate_0 rfl (lv_at hl 0 rfl) ?_
  refine va_get (D := D) (ci := 5) (v := .ref n0) (C := RX5) (T := TX5) (N := 10) hx hb hts iX5 hown hK.1 hP 0 rfl rfl 0 (by decide) kw_0 (fun _ h9 => h9) rfl dX5_isLate_1 ?_
  refine lv_iload_n hx hb dX5_isLate_4 rfl (lv_at hl 1 rfl) ?_
  refine cl_i (wr := (wc (cO x0 5 [.ref n0, .ref t0, .ref g0, .ref k0, .ref u0, .ref m0, .ref s0, .int sk, .int hs, .int rk]) (wc (cA a1 cI 60 pl) (wc (cA a3 cZ 60 th) (wc (cA m0 cI 60 mi) wN))))) (va_runV (As := [.int e0]) (rest := []) ⟨hx, hb, hml, hown, hts⟩ (c_hasEvent l D cI cZ cR n0 a0 a1 a2 a3 a4 a5 a6 a7 a8 a9 E Ac e0 (by omega) s.heap.size) (cwV 1 hts gX5_isLate_X1_hasEvent rfl rfl rfl hd_X1_hasEvent ⟨Nat.le_of_ble_eq_true rfl, Nat.le_of_ble_eq_true rfl⟩) (pV 1 1 hK hP hD [1] rfl (by decide) rfl rfl) rfl rfl hl.1 rfl (lv_room (Nat.le_of_ble_eq_true rfl)) dX5_isLate_5 ⟨Nat.le_of_ble_eq_true rfl, Nat.le_of_ble_eq_true rfl⟩) hP hD hS hA [1] [0, 2, 3, 4] rfl rfl (by decide) (by decide) (fun r_5 u_5 H locs hw_5 hP hD hS => ?_)
  have hP : va_P D vwCl (wc (cO x0 5 [.ref n0, .ref t0, .ref g0, .ref k0, .ref u0, .ref m0, .ref s0, .int sk, .int hs, .int rk]) (wc (cA a1 cI 60 pl) (wc (cA a3 cZ 60 th) (wc (cA m0 cI 60 mi) (wc (cO n0 1 [.ref a0, .ref a1, .ref a2, .ref a3, .ref a4, .ref a5, .ref a6, .ref a7, .ref a8, .ref a9, .int (nI E), .int (nI Ac)]) wN))))) H := hP
  have hD : va_D A (wc (cO x0 5 [.ref n0, .ref t0, .ref g0, .ref k0, .ref u0, .ref m0, .ref s0, .int sk, .int hs, .int rk]) (wc (cA a1 cI 60 pl) (wc (cA a3 cZ 60 th) (wc (cA m0 cI 60 mi) (wc (cO n0 1 [.ref a0, .ref a1, .ref a2, .ref a3, .ref a4, .ref a5, .ref a6, .ref a7, .ref a8, .ref a9, .int (nI E), .int (nI Ac)]) wN))))) := hD
  rcases hw_5 with ⟨rfl, hf_5⟩ | ⟨rfl, hf_5⟩
  · refine lv_if_eq (tgt := 45) hx hb dX5_isLate_8 (by decide) (fun c_8 => absurd c_8 (by decide)) (fun c_8 => ?_)
    refine lv_aload_n hx hb dX5_isLate_11 rfl (lv_at hl 0 rfl) ?_
    refine va_get (D := D) (ci := 5) (v := .ref n0) (C := RX5) (T := TX5) (N := 10) hx hb hts iX5 hown hK.1 hP 0 rfl rfl 0 (by decide) kw_0 (fun _ h9 => h9) rfl dX5_isLate_12 ?_
    refine va_get (D := D) (ci := 1) (v := .ref a3) (C := RX1) (T := TX1) (N := 12) hx hb hts iX1 hown hK.1 hP 4 rfl rfl 3 (by decide) kw_2 (fun _ h9 => h9) rfl dX5_isLate_15 ?_
    refine lv_iload_n hx hb dX5_isLate_18 rfl (lv_at hl 1 rfl) ?_
    refine va_zald hx hb hK.1 hP 2 1 rfl rfl (by first | with_reducible assumption | exact vp_le (by with_reducible assumption) (by omega)) dX5_isLate_19 ?_
    refine lv_if_eq (tgt := 45) hx hb dX5_isLate_20 (by decide) (fun c_20 => ?_) (fun c_20 => ?_)
    · refine lv_iconst (v := 0) hx hb dX5_isLate_45 (by decide) ?_
      exact en_z () hx hb hr hlocks hK (hP.sub [0, 4, 1, 2, 3] rfl) (hD.sub [0, 4, 1, 2, 3] (by decide) rfl) hS (Nat.le_of_ble_eq_true rfl) (Nat.le_of_ble_eq_true rfl) dX5_isLate_46 rfl (Or.inr ⟨rfl, by first | exact ⟨hf_5, lq_1 (tbC_1 c_20) c_38⟩ | exact (fun q => absurd q hf_5) | exact (fun _ => lq_t (tbC_0 c_20)) | exact (fun _ => lq_0 c_38)⟩)
    · refine lv_aload_n hx hb dX5_isLate_23 rfl (lv_at hl 0 rfl) ?_
      refine va_get (D := D) (ci := 5) (v := .ref m0) (C := RX5) (T := TX5) (N := 10) hx hb hts iX5 hown hK.1 hP 0 rfl rfl 5 (by decide) kw_4 (fun _ h9 => h9) rfl dX5_isLate_24 ?_
      refine lv_iload_n hx hb dX5_isLate_27 rfl (lv_at hl 1 rfl) ?_
      refine va_iald hx hb hK.1 hP 3 0 rfl rfl (by first | with_reducible assumption | exact vp_le (by with_reducible assumption) (by omega)) dX5_isLate_28 ?_
      refine lv_aload_n hx hb dX5_isLate_29 rfl (lv_at hl 0 rfl) ?_
      refine va_get (D := D) (ci := 5) (v := .ref n0) (C := RX5) (T := TX5) (N := 10) hx hb hts iX5 hown hK.1 hP 0 rfl rfl 0 (by decide) kw_0 (fun _ h9 => h9) rfl dX5_isLate_30 ?_
      refine va_get (D := D) (ci := 1) (v := .ref a1) (C := RX1) (T := TX1) (N := 12) hx hb hts iX1 hown hK.1 hP 4 rfl rfl 1 (by decide) kw_5 (fun _ h9 => h9) rfl dX5_isLate_33 ?_
      refine lv_iload_n hx hb dX5_isLate_36 rfl (lv_at hl 1 rfl) ?_
      refine va_iald hx hb hK.1 hP 1 0 rfl rfl (by first | with_reducible assumption | exact vp_le (by with_reducible assumption) (by omega)) dX5_isLate_37 ?_
      refine lv_icmp_le (tgt := 45) hx hb dX5_isLate_38 (by decide) (fun c_38 => ?_) (fun c_38 => ?_)
      · refine lv_iconst (v := 0) hx hb dX5_isLate_45 (by decide) ?_
        exact en_z () hx hb hr hlocks hK (hP.sub [0, 4, 1, 2, 3] rfl) (hD.sub [0, 4, 1, 2, 3] (by decide) rfl) hS (Nat.le_of_ble_eq_true rfl) (Nat.le_of_ble_eq_true rfl) dX5_isLate_46 rfl (Or.inr ⟨rfl, by first | exact ⟨hf_5, lq_1 (tbC_1 c_20) c_38⟩ | exact (fun q => absurd q hf_5) | exact (fun _ => lq_t (tbC_0 c_20)) | exact (fun _ => lq_0 c_38)⟩)
      · refine lv_iconst (v := 1) hx hb dX5_isLate_41 (by decide) ?_
        refine lv_goto (tgt := 46) hx hb dX5_isLate_42 (by decide) ?_
        exact en_z () hx hb hr hlocks hK (hP.sub [0, 4, 1, 2, 3] rfl) (hD.sub [0, 4, 1, 2, 3] (by decide) rfl) hS (Nat.le_of_ble_eq_true rfl) (Nat.le_of_ble_eq_true rfl) dX5_isLate_46 rfl (Or.inl ⟨rfl, by first | exact ⟨hf_5, lq_1 (tbC_1 c_20) c_38⟩ | exact (fun q => absurd q hf_5) | exact (fun _ => lq_t (tbC_0 c_20)) | exact (fun _ => lq_0 c_38)⟩)
  · refine lv_if_eq (tgt := 45) hx hb dX5_isLate_8 (by decide) (fun c_8 => ?_) (fun c_8 => absurd (by decide) c_8)
    refine lv_iconst (v := 0) hx hb dX5_isLate_45 (by decide) ?_
    exact en_z () hx hb hr hlocks hK (hP.sub [0, 4, 1, 2, 3] rfl) (hD.sub [0, 4, 1, 2, 3] (by decide) rfl) hS (Nat.le_of_ble_eq_true rfl) (Nat.le_of_ble_eq_true rfl) dX5_isLate_46 rfl (Or.inr ⟨rfl, by first | exact ⟨hf_5, lq_1 (tbC_1 c_20) c_38⟩ | exact (fun q => absurd q hf_5) | exact (fun _ => lq_t (tbC_0 c_20)) | exact (fun _ => lq_0 c_38)⟩)
set_option maxHeartbeats 300000 in
set_option maxRecDepth 100000 in
theorem c_binds (l : Launch) (D : va_G) (cI cZ cR : ClassId) (x0 : Nat) (t0 : Nat) (g0 : Nat) (k0 : Nat) (u0 : Nat) (m0 : Nat) (s0 : Nat) (sk : Int32) (hs : Int32) (rk : Int32) (n0 : Nat) (a0 : Nat) (a1 : Nat) (a2 : Nat) (a3 : Nat) (a4 : Nat) (a5 : Nat) (a6 : Nat) (a7 : Nat) (a8 : Nat) (a9 : Nat) (E : Nat) (Ac : Nat) (pl : Nat → Int32) (so : Nat → Int32) (th : Nat → Int32) (fr : Nat → Int32) (to : Nat → Int32) (le : Nat → Int32) (mi : Nat → Int32) (e0 : Int32) (hE : E ≤ 60) (hAc : Ac ≤ 100) (hfr : ∀ i, i < Ac → vp_in (fr i) E) (hto : ∀ i, i < Ac → vp_in (to i) E) (hx0 : vp_in e0 Ac) : CI l D cI cZ cR yX5_binds wsX5_binds { frames := 1, cells := 0, slots := 0, locals := 21 } [.ref x0, .int e0] (wc (cO x0 5 [.ref n0, .ref t0, .ref g0, .ref k0, .ref u0, .ref m0, .ref s0, .int sk, .int hs, .int rk]) (wc (cO n0 1 [.ref a0, .ref a1, .ref a2, .ref a3, .ref a4, .ref a5, .ref a6, .ref a7, .ref a8, .ref a9, .int (nI E), .int (nI Ac)]) (wc (cA a1 cI 60 pl) (wc (cA a2 cI 60 so) (wc (cA a3 cZ 60 th) (wc (cA a5 cI 100 fr) (wc (cA a6 cI 100 to) (wc (cA a7 cI 100 le) (wc (cA m0 cI 60 mi) wN))))))))) (fun (r : Int32) (u : Unit) => True) (fun (u : Unit) => (wc (cO x0 5 [.ref n0, .ref t0, .ref g0, .ref k0, .ref u0, .ref m0, .ref s0, .int sk, .int hs, .int rk]) (wc (cO n0 1 [.ref a0, .ref a1, .ref a2, .ref a3, .ref a4, .ref a5, .ref a6, .ref a7, .ref a8, .ref a9, .int (nI E), .int (nI Ac)]) (wc (cA a1 cI 60 pl) (wc (cA a2 cI 60 so) (wc (cA a3 cZ 60 th) (wc (cA a5 cI 100 fr) (wc (cA a6 cI 100 to) (wc (cA a7 cI 100 le) (wc (cA m0 cI 60 mi) wN)))))))))) := by
  intro sz9
  refine en_W (Qc := fun A => va_Qi (fun (r : Int32) (u : Unit) => True) (sB D cI cZ cR (fun (u : Unit) => (wc (cO x0 5 [.ref n0, .ref t0, .ref g0, .ref k0, .ref u0, .ref m0, .ref s0, .int sk, .int hs, .int rk]) (wc (cO n0 1 [.ref a0, .ref a1, .ref a2, .ref a3, .ref a4, .ref a5, .ref a6, .ref a7, .ref a8, .ref a9, .int (nI E), .int (nI Ac)]) (wc (cA a1 cI 60 pl) (wc (cA a2 cI 60 so) (wc (cA a3 cZ 60 th) (wc (cA a5 cI 100 fr) (wc (cA a6 cI 100 to) (wc (cA a7 cI 100 le) (wc (cA m0 cI 60 mi) wN)))))))))) A) A) (cc := cX5_binds) (maxL := 3) (ret := (some .boolean)) (by decide) rfl (Nat.le_of_ble_eq_true rfl) ?_
  intro p e s m below meth c A ls hx hb hr hts hown hlocks hin hml hK hP hD hS hA hl
  have hown : s.vm.findClass RX5 = some m.cls := hown
  have hl : lv_has ls 3 [(0, .ref x0), (1, .int e0)] := hl
  have kw_0 := hts (.fieldLink RX5 10 "DelayDesk" "net" "LDelayDesk$Net;") (List.mem_of_getElem? (i := 1) rfl)
  have iX5 : ∀ w ∈ u_ws RX5 TX5 10, w ∈ wsX5_binds := fun _ h9 => (List.mem_cons_of_mem _ (List.mem_append_left _ (List.mem_append_right _ h9)))
  have kw_2 := hts (.fieldLink RX5 108 "DelayDesk$Net" "to" "[I") (List.mem_of_getElem? (i := 2) rfl)
  have iX1 : ∀ w ∈ u_ws RX1 TX1 12, w ∈ wsX5_binds := fun _ h9 => (List.mem_cons_of_mem _ (List.mem_append_right _ h9))
  have kw_4 := hts (.fieldLink RX5 48 "DelayDesk" "minutes" "[I") (List.mem_of_getElem? (i := 3) rfl)
  have kw_5 := hts (.fieldLink RX5 105 "DelayDesk$Net" "from" "[I") (List.mem_of_getElem? (i := 4) rfl)
  have kw_6 := hts (.fieldLink RX5 152 "DelayDesk$Net" "least" "[I") (List.mem_of_getElem? (i := 5) rfl)
  have kw_7 := hts (.fieldLink RX5 140 "DelayDesk$Net" "plan" "[I") (List.mem_of_getElem? (i := 6) rfl)
  have kw_8 := hts (.fieldLink RX5 94 "DelayDesk$Net" "source" "[I") (List.mem_of_getElem? (i := 7) rfl)
  refine lv_aload_n hx hb dX5_binds_0 rfl (lv_at hl 0 rfl) ?_
  refine va_get (D := D) (ci := 5) (v := .ref n0) (C := RX5) (T := TX5) (N := 10) hx hb hts iX5 hown hK.1 hP 0 rfl rfl 0 (by decide) kw_0 (fun _ h9 => h9) rfl dX5_binds_1 ?_
  refine va_get (D := D) (ci := 1) (v := .ref a6) (C := RX1) (T := TX1) (N := 12) hx hb hts iX1 hown hK.1 hP 1 rfl rfl 6 (by decide) kw_2 (fun _ h9 => h9) rfl dX5_binds_4 ?_
  refine lv_iload_n hx hb dX5_binds_7 rfl (lv_at hl 1 rfl) ?_
  refine va_iald hx hb hK.1 hP 6 0 rfl rfl (by first | with_reducible assumption | exact vp_le (by with_reducible assumption) (by omega)) dX5_binds_8 ?_
  have f_8 : vp_in (to e0.toNatClampNeg) E := hto _ (vp_lt (by with_reducible assumption))
  refine lv_istore_n (lv' := [(2, .int (to e0.toNatClampNeg)), (0, .ref x0), (1, .int e0)]) hx hb dX5_binds_9 rfl hl (by decide) rfl (fun ls hl => ?_)
  refine lv_aload_n hx hb dX5_binds_10 rfl (lv_at hl 1 rfl) ?_
  refine va_get (D := D) (ci := 5) (v := .ref n0) (C := RX5) (T := TX5) (N := 10) hx hb hts iX5 hown hK.1 hP 0 rfl rfl 0 (by decide) kw_0 (fun _ h9 => h9) rfl dX5_binds_11 ?_
  refine lv_iload_n hx hb dX5_binds_14 rfl (lv_at hl 2 rfl) ?_
  refine cl_i (wr := (wc (cO x0 5 [.ref n0, .ref t0, .ref g0, .ref k0, .ref u0, .ref m0, .ref s0, .int sk, .int hs, .int rk]) (wc (cA a1 cI 60 pl) (wc (cA a2 cI 60 so) (wc (cA a7 cI 100 le) (wc (cA m0 cI 60 mi) wN)))))) (va_runV (As := [.int e0]) (rest := []) ⟨hx, hb, hml, hown, hts⟩ (c_joinsThere l D cI cZ cR n0 a0 a1 a2 a3 a4 a5 a6 a7 a8 a9 E Ac th fr to e0 (by omega) (by omega) (by with_reducible assumption) (by with_reducible assumption) (by first | with_reducible assumption | exact vp_le (by with_reducible assumption) (by omega)) s.heap.size) (cwV 1 hts gX5_binds_X1_joinsThere rfl rfl rfl hd_X1_joinsThere ⟨Nat.le_of_ble_eq_true rfl, Nat.le_of_ble_eq_true rfl⟩) (pV 1 1 hK hP hD [1, 4, 5, 6] rfl (by decide) rfl rfl) rfl rfl hl.1 rfl (lv_room (Nat.le_of_ble_eq_true rfl)) dX5_binds_15 ⟨Nat.le_of_ble_eq_true rfl, Nat.le_of_ble_eq_true rfl⟩) hP hD hS hA [1, 4, 5, 6] [0, 2, 3, 7, 8] rfl rfl (by decide) (by decide) (fun r_15 u_15 H locs hw_15 hP hD hS => ?_)
  have hP : va_P D vwCl (wc (cO x0 5 [.ref n0, .ref t0, .ref g0, .ref k0, .ref u0, .ref m0, .ref s0, .int sk, .int hs, .int rk]) (wc (cA a1 cI 60 pl) (wc (cA a2 cI 60 so) (wc (cA a7 cI 100 le) (wc (cA m0 cI 60 mi) (wc (cO n0 1 [.ref a0, .ref a1, .ref a2, .ref a3, .ref a4, .ref a5, .ref a6, .ref a7, .ref a8, .ref a9, .int (nI E), .int (nI Ac)]) (wc (cA a3 cZ 60 th) (wc (cA a5 cI 100 fr) (wc (cA a6 cI 100 to) wN))))))))) H := hP
  have hD : va_D A (wc (cO x0 5 [.ref n0, .ref t0, .ref g0, .ref k0, .ref u0, .ref m0, .ref s0, .int sk, .int hs, .int rk]) (wc (cA a1 cI 60 pl) (wc (cA a2 cI 60 so) (wc (cA a7 cI 100 le) (wc (cA m0 cI 60 mi) (wc (cO n0 1 [.ref a0, .ref a1, .ref a2, .ref a3, .ref a4, .ref a5, .ref a6, .ref a7, .ref a8, .ref a9, .int (nI E), .int (nI Ac)]) (wc (cA a3 cZ 60 th) (wc (cA a5 cI 100 fr) (wc (cA a6 cI 100 to) wN))))))))) := hD
  rcases hw_15 with ⟨rfl, hf_15⟩ | ⟨rfl, hf_15⟩
  · refine lv_if_eq (tgt := 86) hx hb dX5_binds_18 (by decide) (fun c_18 => absurd c_18 (by decide)) (fun c_18 => ?_)
    refine lv_aload_n hx hb dX5_binds_21 rfl (lv_at hl 1 rfl) ?_
    refine va_get (D := D) (ci := 5) (v := .ref m0) (C := RX5) (T := TX5) (N := 10) hx hb hts iX5 hown hK.1 hP 0 rfl rfl 5 (by decide) kw_4 (fun _ h9 => h9) rfl dX5_binds_22 ?_
    refine lv_iload_n hx hb dX5_binds_25 rfl (lv_at hl 0 rfl) ?_
    refine va_iald hx hb hK.1 hP 4 0 rfl rfl (by first | with_reducible assumption | exact vp_le (by with_reducible assumption) (by omega)) dX5_binds_26 ?_
    refine lv_aload_n hx hb dX5_binds_27 rfl (lv_at hl 1 rfl) ?_
    refine va_get (D := D) (ci := 5) (v := .ref m0) (C := RX5) (T := TX5) (N := 10) hx hb hts iX5 hown hK.1 hP 0 rfl rfl 5 (by decide) kw_4 (fun _ h9 => h9) rfl dX5_binds_28 ?_
    refine lv_aload_n hx hb dX5_binds_31 rfl (lv_at hl 1 rfl) ?_
    refine va_get (D := D) (ci := 5) (v := .ref n0) (C := RX5) (T := TX5) (N := 10) hx hb hts iX5 hown hK.1 hP 0 rfl rfl 0 (by decide) kw_0 (fun _ h9 => h9) rfl dX5_binds_32 ?_
    refine va_get (D := D) (ci := 1) (v := .ref a5) (C := RX1) (T := TX1) (N := 12) hx hb hts iX1 hown hK.1 hP 5 rfl rfl 5 (by decide) kw_5 (fun _ h9 => h9) rfl dX5_binds_35 ?_
    refine lv_iload_n hx hb dX5_binds_38 rfl (lv_at hl 2 rfl) ?_
    refine va_iald hx hb hK.1 hP 7 0 rfl rfl (by first | with_reducible assumption | exact vp_le (by with_reducible assumption) (by omega)) dX5_binds_39 ?_
    have f_39 : vp_in (fr e0.toNatClampNeg) E := hfr _ (vp_lt (by with_reducible assumption))
    refine va_iald hx hb hK.1 hP 4 0 rfl rfl (by first | with_reducible assumption | exact vp_le (by with_reducible assumption) (by omega)) dX5_binds_40 ?_
    refine lv_aload_n hx hb dX5_binds_41 rfl (lv_at hl 1 rfl) ?_
    refine va_get (D := D) (ci := 5) (v := .ref n0) (C := RX5) (T := TX5) (N := 10) hx hb hts iX5 hown hK.1 hP 0 rfl rfl 0 (by decide) kw_0 (fun _ h9 => h9) rfl dX5_binds_42 ?_
    refine va_get (D := D) (ci := 1) (v := .ref a7) (C := RX1) (T := TX1) (N := 12) hx hb hts iX1 hown hK.1 hP 5 rfl rfl 7 (by decide) kw_6 (fun _ h9 => h9) rfl dX5_binds_45 ?_
    refine lv_iload_n hx hb dX5_binds_48 rfl (lv_at hl 2 rfl) ?_
    refine va_iald hx hb hK.1 hP 3 0 rfl rfl (by first | with_reducible assumption | exact vp_le (by with_reducible assumption) (by omega)) dX5_binds_49 ?_
    refine lv_iadd hx hb dX5_binds_50 ?_
    refine lv_icmp_ne (tgt := 86) hx hb dX5_binds_51 (by decide) (fun c_51 => ?_) (fun c_51 => ?_)
    · refine lv_iconst (v := 0) hx hb dX5_binds_86 (by decide) ?_
      exact en_z (()) hx hb hr hlocks hK (hP.sub [0, 5, 1, 2, 6, 7, 8, 3, 4] rfl) (hD.sub [0, 5, 1, 2, 6, 7, 8, 3, 4] (by decide) rfl) hS (Nat.le_of_ble_eq_true rfl) (Nat.le_of_ble_eq_true rfl) dX5_binds_87 rfl (trivial)
    · refine lv_aload_n hx hb dX5_binds_54 rfl (lv_at hl 1 rfl) ?_
      refine va_get (D := D) (ci := 5) (v := .ref m0) (C := RX5) (T := TX5) (N := 10) hx hb hts iX5 hown hK.1 hP 0 rfl rfl 5 (by decide) kw_4 (fun _ h9 => h9) rfl dX5_binds_55 ?_
      refine lv_iload_n hx hb dX5_binds_58 rfl (lv_at hl 0 rfl) ?_
      refine va_iald hx hb hK.1 hP 4 0 rfl rfl (by first | with_reducible assumption | exact vp_le (by with_reducible assumption) (by omega)) dX5_binds_59 ?_
      refine lv_aload_n hx hb dX5_binds_60 rfl (lv_at hl 1 rfl) ?_
      refine va_get (D := D) (ci := 5) (v := .ref n0) (C := RX5) (T := TX5) (N := 10) hx hb hts iX5 hown hK.1 hP 0 rfl rfl 0 (by decide) kw_0 (fun _ h9 => h9) rfl dX5_binds_61 ?_
      refine va_get (D := D) (ci := 1) (v := .ref a1) (C := RX1) (T := TX1) (N := 12) hx hb hts iX1 hown hK.1 hP 5 rfl rfl 1 (by decide) kw_7 (fun _ h9 => h9) rfl dX5_binds_64 ?_
      refine lv_iload_n hx hb dX5_binds_67 rfl (lv_at hl 0 rfl) ?_
      refine va_iald hx hb hK.1 hP 1 0 rfl rfl (by first | with_reducible assumption | exact vp_le (by with_reducible assumption) (by omega)) dX5_binds_68 ?_
      refine lv_isub hx hb dX5_binds_69 ?_
      refine lv_aload_n hx hb dX5_binds_70 rfl (lv_at hl 1 rfl) ?_
      refine va_get (D := D) (ci := 5) (v := .ref n0) (C := RX5) (T := TX5) (N := 10) hx hb hts iX5 hown hK.1 hP 0 rfl rfl 0 (by decide) kw_0 (fun _ h9 => h9) rfl dX5_binds_71 ?_
      refine va_get (D := D) (ci := 1) (v := .ref a2) (C := RX1) (T := TX1) (N := 12) hx hb hts iX1 hown hK.1 hP 5 rfl rfl 2 (by decide) kw_8 (fun _ h9 => h9) rfl dX5_binds_74 ?_
      refine lv_iload_n hx hb dX5_binds_77 rfl (lv_at hl 0 rfl) ?_
      refine va_iald hx hb hK.1 hP 2 0 rfl rfl (by first | with_reducible assumption | exact vp_le (by with_reducible assumption) (by omega)) dX5_binds_78 ?_
      refine lv_icmp_le (tgt := 86) hx hb dX5_binds_79 (by decide) (fun c_79 => ?_) (fun c_79 => ?_)
      · refine lv_iconst (v := 0) hx hb dX5_binds_86 (by decide) ?_
        exact en_z (()) hx hb hr hlocks hK (hP.sub [0, 5, 1, 2, 6, 7, 8, 3, 4] rfl) (hD.sub [0, 5, 1, 2, 6, 7, 8, 3, 4] (by decide) rfl) hS (Nat.le_of_ble_eq_true rfl) (Nat.le_of_ble_eq_true rfl) dX5_binds_87 rfl (trivial)
      · refine lv_iconst (v := 1) hx hb dX5_binds_82 (by decide) ?_
        refine lv_goto (tgt := 87) hx hb dX5_binds_83 (by decide) ?_
        exact en_z (()) hx hb hr hlocks hK (hP.sub [0, 5, 1, 2, 6, 7, 8, 3, 4] rfl) (hD.sub [0, 5, 1, 2, 6, 7, 8, 3, 4] (by decide) rfl) hS (Nat.le_of_ble_eq_true rfl) (Nat.le_of_ble_eq_true rfl) dX5_binds_87 rfl (trivial)
  · refine lv_if_eq (tgt := 86) hx hb dX5_binds_18 (by decide) (fun c_18 => ?_) (fun c_18 => absurd (by decide) c_18)
    refine lv_iconst (v := 0) hx hb dX5_binds_86 (by decide) ?_
    exact en_z (()) hx hb hr hlocks hK (hP.sub [0, 5, 1, 2, 6, 7, 8, 3, 4] rfl) (hD.sub [0, 5, 1, 2, 6, 7, 8, 3, 4] (by decide) rfl) hS (Nat.le_of_ble_eq_true rfl) (Nat.le_of_ble_eq_true rfl) dX5_binds_87 rfl (trivial)
set_option maxHeartbeats 300000 in
set_option maxRecDepth 100000 in
theorem lp_causeOfLate {p : Program} {e : Env} {s : State} {m : MethodId} {args : Array Value} {below : List Frame} {meth : Method} {c : Code} {A : Nat → Prop} {Q : State → Prop} (l : Launch) (D : va_G) (cI cZ cR : ClassId) (x0 : Nat) (t0 : Nat) (g0 : Nat) (k0 : Nat) (u0 : Nat) (m0 : Nat) (s0 : Nat) (sk : Int32) (hs : Int32) (rk : Int32) (n0 : Nat) (a0 : Nat) (a1 : Nat) (a2 : Nat) (a3 : Nat) (a4 : Nat) (a5 : Nat) (a6 : Nat) (a7 : Nat) (a8 : Nat) (a9 : Nat) (E : Nat) (Ac : Nat) (pl : Nat → Int32) (so : Nat → Int32) (th : Nat → Int32) (fr : Nat → Int32) (to : Nat → Int32) (le : Nat → Int32) (mi : Nat → Int32) (e0 : Int32) (hE : E ≤ 60) (hAc : Ac ≤ 100) (hfr : ∀ i, i < Ac → vp_in (fr i) E) (hto : ∀ i, i < Ac → vp_in (to i) E) (hx : p.tables.exec = Jvm.exec) (hb : c.code = cX5_causeOfLate) (hts : ∀ w ∈ wsX5_causeOfLate, w.before args s = true) (hown : s.vm.findClass RX5 = some m.cls) (hml : c.maxLocals = 3) (hK : kK D cI cZ cR s) (hA : ∀ q : Nat, s.heap.size ≤ q → A q) (kx_50 : ∀ (k : Nat), (k ≤ Ac) → (k < Ac) → ∀ (H : Heap) (locs : List Loc) (ls : Array Slot), va_P D vwCl (wc (cO x0 5 [.ref n0, .ref t0, .ref g0, .ref k0, .ref u0, .ref m0, .ref s0, .int sk, .int hs, .int rk]) (wc (cO n0 1 [.ref a0, .ref a1, .ref a2, .ref a3, .ref a4, .ref a5, .ref a6, .ref a7, .ref a8, .ref a9, .int (nI E), .int (nI Ac)]) (wc (cA a1 cI 60 pl) (wc (cA a2 cI 60 so) (wc (cA a3 cZ 60 th) (wc (cA a5 cI 100 fr) (wc (cA a6 cI 100 to) (wc (cA a7 cI 100 le) (wc (cA m0 cI 60 mi) wN))))))))) H → va_D A (wc (cO x0 5 [.ref n0, .ref t0, .ref g0, .ref k0, .ref u0, .ref m0, .ref s0, .int sk, .int hs, .int rk]) (wc (cO n0 1 [.ref a0, .ref a1, .ref a2, .ref a3, .ref a4, .ref a5, .ref a6, .ref a7, .ref a8, .ref a9, .int (nI E), .int (nI Ac)]) (wc (cA a1 cI 60 pl) (wc (cA a2 cI 60 so) (wc (cA a3 cZ 60 th) (wc (cA a5 cI 100 fr) (wc (cA a6 cI 100 to) (wc (cA a7 cI 100 le) (wc (cA m0 cI 60 mi) wN))))))))) → va_S A s.heap H locs → lv_has ls 3 [(2, .int (nI k)), (0, .ref x0), (1, .int e0)] → W p l e { frames := 2, cells := 0, slots := 0, locals := 43 } s m args below meth c H locs 0 0 Q (F0 m 50 ls [])) (kx_58 : ∀ (k : Nat), (k ≤ Ac) → ∀ (H : Heap) (locs : List Loc) (ls : Array Slot), va_P D vwCl (wc (cO x0 5 [.ref n0, .ref t0, .ref g0, .ref k0, .ref u0, .ref m0, .ref s0, .int sk, .int hs, .int rk]) (wc (cO n0 1 [.ref a0, .ref a1, .ref a2, .ref a3, .ref a4, .ref a5, .ref a6, .ref a7, .ref a8, .ref a9, .int (nI E), .int (nI Ac)]) (wc (cA a1 cI 60 pl) (wc (cA a2 cI 60 so) (wc (cA a3 cZ 60 th) (wc (cA a5 cI 100 fr) (wc (cA a6 cI 100 to) (wc (cA a7 cI 100 le) (wc (cA m0 cI 60 mi) wN))))))))) H → va_D A (wc (cO x0 5 [.ref n0, .ref t0, .ref g0, .ref k0, .ref u0, .ref m0, .ref s0, .int sk, .int hs, .int rk]) (wc (cO n0 1 [.ref a0, .ref a1, .ref a2, .ref a3, .ref a4, .ref a5, .ref a6, .ref a7, .ref a8, .ref a9, .int (nI E), .int (nI Ac)]) (wc (cA a1 cI 60 pl) (wc (cA a2 cI 60 so) (wc (cA a3 cZ 60 th) (wc (cA a5 cI 100 fr) (wc (cA a6 cI 100 to) (wc (cA a7 cI 100 le) (wc (cA m0 cI 60 mi) wN))))))))) → va_S A s.heap H locs → lv_has ls 3 [(2, .int (nI k)), (0, .ref x0), (1, .int e0)] → W p l e { frames := 2, cells := 0, slots := 0, locals := 43 } s m args below meth c H locs 0 0 Q (F0 m 58 ls [])) : ∀ (n : Nat) (k : Nat), (k ≤ Ac) → Ac - k < n → ∀ (H : Heap) (locs : List Loc) (ls : Array Slot), va_P D vwCl (wc (cO x0 5 [.ref n0, .ref t0, .ref g0, .ref k0, .ref u0, .ref m0, .ref s0, .int sk, .int hs, .int rk]) (wc (cO n0 1 [.ref a0, .ref a1, .ref a2, .ref a3, .ref a4, .ref a5, .ref a6, .ref a7, .ref a8, .ref a9, .int (nI E), .int (nI Ac)]) (wc (cA a1 cI 60 pl) (wc (cA a2 cI 60 so) (wc (cA a3 cZ 60 th) (wc (cA a5 cI 100 fr) (wc (cA a6 cI 100 to) (wc (cA a7 cI 100 le) (wc (cA m0 cI 60 mi) wN))))))))) H → va_D A (wc (cO x0 5 [.ref n0, .ref t0, .ref g0, .ref k0, .ref u0, .ref m0, .ref s0, .int sk, .int hs, .int rk]) (wc (cO n0 1 [.ref a0, .ref a1, .ref a2, .ref a3, .ref a4, .ref a5, .ref a6, .ref a7, .ref a8, .ref a9, .int (nI E), .int (nI Ac)]) (wc (cA a1 cI 60 pl) (wc (cA a2 cI 60 so) (wc (cA a3 cZ 60 th) (wc (cA a5 cI 100 fr) (wc (cA a6 cI 100 to) (wc (cA a7 cI 100 le) (wc (cA m0 cI 60 mi) wN))))))))) → va_S A s.heap H locs → lv_has ls 3 [(2, .int (nI k)), (0, .ref x0), (1, .int e0)] → W p l e { frames := 2, cells := 0, slots := 0, locals := 43 } s m args below meth c H locs 0 0 Q (F0 m 2 ls []) := by
  have kw_0 := hts (.fieldLink RX5 10 "DelayDesk" "net" "LDelayDesk$Net;") (List.mem_of_getElem? (i := 1) rfl)
  have iX5 : ∀ w ∈ u_ws RX5 TX5 10, w ∈ wsX5_causeOfLate := fun _ h9 => (List.mem_cons_of_mem _ (List.mem_append_left _ (List.mem_append_right _ h9)))
  have kw_2 := hts (.fieldLink RX5 80 "DelayDesk$Net" "activities" "I") (List.mem_of_getElem? (i := 2) rfl)
  have iX1 : ∀ w ∈ u_ws RX1 TX1 12, w ∈ wsX5_causeOfLate := fun _ h9 => (List.mem_cons_of_mem _ (List.mem_append_right _ h9))
  have kw_4 := hts (.fieldLink RX5 108 "DelayDesk$Net" "to" "[I") (List.mem_of_getElem? (i := 3) rfl)
  have kw_5 := hts (.fieldLink RX5 105 "DelayDesk$Net" "from" "[I") (List.mem_of_getElem? (i := 4) rfl)
  intro n
  induction n with
  | zero =>
    intro k hk hm
    exact absurd hm (Nat.not_lt_zero _)
  | succ n ih =>
    intro k hk hm H locs ls hP hD hS hl
    refine lv_iload_n hx hb dX5_causeOfLate_2 rfl (lv_at hl 0 rfl) ?_
    refine lv_aload_n hx hb dX5_causeOfLate_3 rfl (lv_at hl 1 rfl) ?_
    refine va_get (D := D) (ci := 5) (v := .ref n0) (C := RX5) (T := TX5) (N := 10) hx hb hts iX5 hown hK.1 hP 0 rfl rfl 0 (by decide) kw_0 (fun _ h9 => h9) rfl dX5_causeOfLate_4 ?_
    refine va_get (D := D) (ci := 1) (v := .int (nI Ac)) (C := RX1) (T := TX1) (N := 12) hx hb hts iX1 hown hK.1 hP 1 rfl rfl 11 (by decide) kw_2 (fun _ h9 => h9) rfl dX5_causeOfLate_7 ?_
    refine lv_icmp_ge (tgt := 58) hx hb dX5_causeOfLate_10 (by decide) (fun c_10 => ?_) (fun c_10 => ?_)
    · have g_10 : Ac ≤ k := (nI_leI (a := Ac) (b := k) (by omega) (by omega)).mp c_10
      exact kx_58 k (by first | with_reducible assumption | omega | exact vp_le (by with_reducible assumption) (by omega) | (intros; omega)) _ _ _ (hP.sub [0, 1, 2, 3, 4, 5, 6, 7, 8] rfl) (hD.sub [0, 1, 2, 3, 4, 5, 6, 7, 8] (by decide) rfl) hS (lv_sub hl [0, 1, 2] rfl)
    · have g_10 : k < Ac := Nat.not_le.mp (fun q => c_10 ((nI_leI (a := Ac) (b := k) (by omega) (by omega)).mpr q))
      refine lv_aload_n hx hb dX5_causeOfLate_13 rfl (lv_at hl 1 rfl) ?_
      refine va_get (D := D) (ci := 5) (v := .ref n0) (C := RX5) (T := TX5) (N := 10) hx hb hts iX5 hown hK.1 hP 0 rfl rfl 0 (by decide) kw_0 (fun _ h9 => h9) rfl dX5_causeOfLate_14 ?_
      refine va_get (D := D) (ci := 1) (v := .ref a6) (C := RX1) (T := TX1) (N := 12) hx hb hts iX1 hown hK.1 hP 1 rfl rfl 6 (by decide) kw_4 (fun _ h9 => h9) rfl dX5_causeOfLate_17 ?_
      refine lv_iload_n hx hb dX5_causeOfLate_20 rfl (lv_at hl 0 rfl) ?_
      refine ra_I hx hb hK hP 6 rfl (k := k) (by omega) (by decide) dX5_causeOfLate_21 ?_
      have f_21 : vp_in (to k) E := hto _ (by omega)
      refine lv_iload_n hx hb dX5_causeOfLate_22 rfl (lv_at hl 2 rfl) ?_
      refine lv_icmp_ne (tgt := 52) hx hb dX5_causeOfLate_23 (by decide) (fun c_23 => ?_) (fun c_23 => ?_)
      · refine lv_iinc (v := (nI (k + 1))) (lv' := [(2, .int (nI (k + 1))), (0, .ref x0), (1, .int e0)]) hx hb dX5_causeOfLate_52 hl (k := 0) rfl (nI_1 _) (by decide) rfl (fun ls hl => ?_)
        refine lv_goto (tgt := 2) hx hb dX5_causeOfLate_55 (by decide) ?_
        exact ih (k + 1) (by first | with_reducible assumption | omega | exact vp_le (by with_reducible assumption) (by omega) | (intros; omega)) (by omega) _ _ _ (hP.sub [0, 1, 2, 3, 4, 5, 6, 7, 8] rfl) (hD.sub [0, 1, 2, 3, 4, 5, 6, 7, 8] (by decide) rfl) hS (lv_sub hl [0, 1, 2] rfl)
      · refine lv_aload_n hx hb dX5_causeOfLate_26 rfl (lv_at hl 1 rfl) ?_
        refine lv_iload_n hx hb dX5_causeOfLate_27 rfl (lv_at hl 0 rfl) ?_
        refine cl_i (wr := (wN)) (va_runV (As := [.int (nI k)]) (rest := []) ⟨hx, hb, hml, hown, hts⟩ (c_binds l D cI cZ cR x0 t0 g0 k0 u0 m0 s0 sk hs rk n0 a0 a1 a2 a3 a4 a5 a6 a7 a8 a9 E Ac pl so th fr to le mi (nI k) (by omega) (by omega) (by with_reducible assumption) (by with_reducible assumption) (vp_in_nI (by omega) (by omega)) H.size) (cwV 1 hts gX5_causeOfLate_X5_binds rfl rfl rfl hd_X5_binds ⟨Nat.le_of_ble_eq_true rfl, Nat.le_of_ble_eq_true rfl⟩) (pV 5 0 hK hP hD [0, 1, 2, 3, 4, 5, 6, 7, 8] rfl (by decide) rfl rfl) rfl rfl hl.1 rfl (lv_room (Nat.le_of_ble_eq_true rfl)) dX5_causeOfLate_28 ⟨Nat.le_of_ble_eq_true rfl, Nat.le_of_ble_eq_true rfl⟩) hP hD hS hA [0, 1, 2, 3, 4, 5, 6, 7, 8] [] rfl rfl (by decide) (by decide) (fun r_28 u_28 H locs hw_28 hP hD hS => ?_)
        have hP : va_P D vwCl (wc (cO x0 5 [.ref n0, .ref t0, .ref g0, .ref k0, .ref u0, .ref m0, .ref s0, .int sk, .int hs, .int rk]) (wc (cO n0 1 [.ref a0, .ref a1, .ref a2, .ref a3, .ref a4, .ref a5, .ref a6, .ref a7, .ref a8, .ref a9, .int (nI E), .int (nI Ac)]) (wc (cA a1 cI 60 pl) (wc (cA a2 cI 60 so) (wc (cA a3 cZ 60 th) (wc (cA a5 cI 100 fr) (wc (cA a6 cI 100 to) (wc (cA a7 cI 100 le) (wc (cA m0 cI 60 mi) wN))))))))) H := hP
        have hD : va_D A (wc (cO x0 5 [.ref n0, .ref t0, .ref g0, .ref k0, .ref u0, .ref m0, .ref s0, .int sk, .int hs, .int rk]) (wc (cO n0 1 [.ref a0, .ref a1, .ref a2, .ref a3, .ref a4, .ref a5, .ref a6, .ref a7, .ref a8, .ref a9, .int (nI E), .int (nI Ac)]) (wc (cA a1 cI 60 pl) (wc (cA a2 cI 60 so) (wc (cA a3 cZ 60 th) (wc (cA a5 cI 100 fr) (wc (cA a6 cI 100 to) (wc (cA a7 cI 100 le) (wc (cA m0 cI 60 mi) wN))))))))) := hD
        refine lv_if_eq (tgt := 52) hx hb dX5_causeOfLate_31 (by decide) (fun c_31 => ?_) (fun c_31 => ?_)
        · refine lv_iinc (v := (nI (k + 1))) (lv' := [(2, .int (nI (k + 1))), (0, .ref x0), (1, .int e0)]) hx hb dX5_causeOfLate_52 hl (k := 0) rfl (nI_1 _) (by decide) rfl (fun ls hl => ?_)
          refine lv_goto (tgt := 2) hx hb dX5_causeOfLate_55 (by decide) ?_
          exact ih (k + 1) (by first | with_reducible assumption | omega | exact vp_le (by with_reducible assumption) (by omega) | (intros; omega)) (by omega) _ _ _ (hP.sub [0, 1, 2, 3, 4, 5, 6, 7, 8] rfl) (hD.sub [0, 1, 2, 3, 4, 5, 6, 7, 8] (by decide) rfl) hS (lv_sub hl [0, 1, 2] rfl)
        · refine lv_aload_n hx hb dX5_causeOfLate_34 rfl (lv_at hl 1 rfl) ?_
          refine lv_aload_n hx hb dX5_causeOfLate_35 rfl (lv_at hl 1 rfl) ?_
          refine va_get (D := D) (ci := 5) (v := .ref n0) (C := RX5) (T := TX5) (N := 10) hx hb hts iX5 hown hK.1 hP 0 rfl rfl 0 (by decide) kw_0 (fun _ h9 => h9) rfl dX5_causeOfLate_36 ?_
          refine va_get (D := D) (ci := 1) (v := .ref a5) (C := RX1) (T := TX1) (N := 12) hx hb hts iX1 hown hK.1 hP 1 rfl rfl 5 (by decide) kw_5 (fun _ h9 => h9) rfl dX5_causeOfLate_39 ?_
          refine lv_iload_n hx hb dX5_causeOfLate_42 rfl (lv_at hl 0 rfl) ?_
          refine ra_I hx hb hK hP 5 rfl (k := k) (by omega) (by decide) dX5_causeOfLate_43 ?_
          have f_43 : vp_in (fr k) E := hfr _ (by omega)
          refine cl_i (wr := (wc (cA a2 cI 60 so) (wc (cA a5 cI 100 fr) (wc (cA a6 cI 100 to) (wc (cA a7 cI 100 le) wN))))) (va_runV (As := [.int (fr k)]) (rest := []) ⟨hx, hb, hml, hown, hts⟩ (c_isLate l D cI cZ cR x0 t0 g0 k0 u0 m0 s0 sk hs rk n0 a0 a1 a2 a3 a4 a5 a6 a7 a8 a9 E Ac pl th mi (fr k) (by omega) H.size) (cwV 1 hts gX5_causeOfLate_X5_isLate rfl rfl rfl hd_X5_isLate ⟨Nat.le_of_ble_eq_true rfl, Nat.le_of_ble_eq_true rfl⟩) (pV 5 0 hK hP hD [0, 1, 2, 4, 8] rfl (by decide) rfl rfl) rfl rfl hl.1 rfl (lv_room (Nat.le_of_ble_eq_true rfl)) dX5_causeOfLate_44 ⟨Nat.le_of_ble_eq_true rfl, Nat.le_of_ble_eq_true rfl⟩) hP hD hS hA [0, 1, 2, 4, 8] [3, 5, 6, 7] rfl rfl (by decide) (by decide) (fun r_44 u_44 H locs hw_44 hP hD hS => ?_)
          have hP : va_P D vwCl (wc (cA a2 cI 60 so) (wc (cA a5 cI 100 fr) (wc (cA a6 cI 100 to) (wc (cA a7 cI 100 le) (wc (cO x0 5 [.ref n0, .ref t0, .ref g0, .ref k0, .ref u0, .ref m0, .ref s0, .int sk, .int hs, .int rk]) (wc (cO n0 1 [.ref a0, .ref a1, .ref a2, .ref a3, .ref a4, .ref a5, .ref a6, .ref a7, .ref a8, .ref a9, .int (nI E), .int (nI Ac)]) (wc (cA a1 cI 60 pl) (wc (cA a3 cZ 60 th) (wc (cA m0 cI 60 mi) wN))))))))) H := hP
          have hD : va_D A (wc (cA a2 cI 60 so) (wc (cA a5 cI 100 fr) (wc (cA a6 cI 100 to) (wc (cA a7 cI 100 le) (wc (cO x0 5 [.ref n0, .ref t0, .ref g0, .ref k0, .ref u0, .ref m0, .ref s0, .int sk, .int hs, .int rk]) (wc (cO n0 1 [.ref a0, .ref a1, .ref a2, .ref a3, .ref a4, .ref a5, .ref a6, .ref a7, .ref a8, .ref a9, .int (nI E), .int (nI Ac)]) (wc (cA a1 cI 60 pl) (wc (cA a3 cZ 60 th) (wc (cA m0 cI 60 mi) wN))))))))) := hD
          rcases hw_44 with ⟨rfl, hf_44⟩ | ⟨rfl, hf_44⟩
          · refine lv_if_eq (tgt := 52) hx hb dX5_causeOfLate_47 (by decide) (fun c_47 => absurd c_47 (by decide)) (fun c_47 => ?_)
            exact kx_50 k (by first | with_reducible assumption | omega | exact vp_le (by with_reducible assumption) (by omega) | (intros; omega)) (by first | with_reducible assumption | omega | exact vp_le (by with_reducible assumption) (by omega) | (intros; omega)) _ _ _ (hP.sub [4, 5, 6, 0, 7, 1, 2, 3, 8] rfl) (hD.sub [4, 5, 6, 0, 7, 1, 2, 3, 8] (by decide) rfl) hS (lv_sub hl [0, 1, 2] rfl)
          · refine lv_if_eq (tgt := 52) hx hb dX5_causeOfLate_47 (by decide) (fun c_47 => ?_) (fun c_47 => absurd (by decide) c_47)
            refine lv_iinc (v := (nI (k + 1))) (lv' := [(2, .int (nI (k + 1))), (0, .ref x0), (1, .int e0)]) hx hb dX5_causeOfLate_52 hl (k := 0) rfl (nI_1 _) (by decide) rfl (fun ls hl => ?_)
            refine lv_goto (tgt := 2) hx hb dX5_causeOfLate_55 (by decide) ?_
            exact ih (k + 1) (by first | with_reducible assumption | omega | exact vp_le (by with_reducible assumption) (by omega) | (intros; omega)) (by omega) _ _ _ (hP.sub [4, 5, 6, 0, 7, 1, 2, 3, 8] rfl) (hD.sub [4, 5, 6, 0, 7, 1, 2, 3, 8] (by decide) rfl) hS (lv_sub hl [0, 1, 2] rfl)
set_option maxHeartbeats 300000 in
set_option maxRecDepth 100000 in
theorem c_causeOfLate (l : Launch) (D : va_G) (cI cZ cR : ClassId) (x0 : Nat) (t0 : Nat) (g0 : Nat) (k0 : Nat) (u0 : Nat) (m0 : Nat) (s0 : Nat) (sk : Int32) (hs : Int32) (rk : Int32) (n0 : Nat) (a0 : Nat) (a1 : Nat) (a2 : Nat) (a3 : Nat) (a4 : Nat) (a5 : Nat) (a6 : Nat) (a7 : Nat) (a8 : Nat) (a9 : Nat) (E : Nat) (Ac : Nat) (pl : Nat → Int32) (so : Nat → Int32) (th : Nat → Int32) (fr : Nat → Int32) (to : Nat → Int32) (le : Nat → Int32) (mi : Nat → Int32) (e0 : Int32) (hE : E ≤ 60) (hAc : Ac ≤ 100) (hfr : ∀ i, i < Ac → vp_in (fr i) E) (hto : ∀ i, i < Ac → vp_in (to i) E) : CI l D cI cZ cR yX5_causeOfLate wsX5_causeOfLate { frames := 2, cells := 0, slots := 0, locals := 43 } [.ref x0, .int e0] (wc (cO x0 5 [.ref n0, .ref t0, .ref g0, .ref k0, .ref u0, .ref m0, .ref s0, .int sk, .int hs, .int rk]) (wc (cO n0 1 [.ref a0, .ref a1, .ref a2, .ref a3, .ref a4, .ref a5, .ref a6, .ref a7, .ref a8, .ref a9, .int (nI E), .int (nI Ac)]) (wc (cA a1 cI 60 pl) (wc (cA a2 cI 60 so) (wc (cA a3 cZ 60 th) (wc (cA a5 cI 100 fr) (wc (cA a6 cI 100 to) (wc (cA a7 cI 100 le) (wc (cA m0 cI 60 mi) wN))))))))) (fun (r : Int32) (u : Nat) => (r = (nI u) ∧ u < Ac) ∨ r = (-1)) (fun (u : Nat) => (wc (cO x0 5 [.ref n0, .ref t0, .ref g0, .ref k0, .ref u0, .ref m0, .ref s0, .int sk, .int hs, .int rk]) (wc (cO n0 1 [.ref a0, .ref a1, .ref a2, .ref a3, .ref a4, .ref a5, .ref a6, .ref a7, .ref a8, .ref a9, .int (nI E), .int (nI Ac)]) (wc (cA a1 cI 60 pl) (wc (cA a2 cI 60 so) (wc (cA a3 cZ 60 th) (wc (cA a5 cI 100 fr) (wc (cA a6 cI 100 to) (wc (cA a7 cI 100 le) (wc (cA m0 cI 60 mi) wN)))))))))) := by
  intro sz9
  refine en_W (Qc := fun A => va_Qi (fun (r : Int32) (u : Nat) => (r = (nI u) ∧ u < Ac) ∨ r = (-1)) (sB D cI cZ cR (fun (u : Nat) => (wc (cO x0 5 [.ref n0, .ref t0, .ref g0, .ref k0, .ref u0, .ref m0, .ref s0, .int sk, .int hs, .int rk]) (wc (cO n0 1 [.ref a0, .ref a1, .ref a2, .ref a3, .ref a4, .ref a5, .ref a6, .ref a7, .ref a8, .ref a9, .int (nI E), .int (nI Ac)]) (wc (cA a1 cI 60 pl) (wc (cA a2 cI 60 so) (wc (cA a3 cZ 60 th) (wc (cA a5 cI 100 fr) (wc (cA a6 cI 100 to) (wc (cA a7 cI 100 le) (wc (cA m0 cI 60 mi) wN)))))))))) A) A) (cc := cX5_causeOfLate) (maxL := 3) (ret := (some .int)) (by decide) rfl (Nat.le_of_ble_eq_true rfl) ?_
  intro p e s m below meth c A ls hx hb hr hts hown hlocks hin hml hK hP hD hS hA hl
  have hown : s.vm.findClass RX5 = some m.cls := hown
  have hl : lv_has ls 3 [(0, .ref x0), (1, .int e0)] := hl
  refine lv_iconst (v := 0) hx hb dX5_causeOfLate_0 (by decide) ?_
  refine lv_istore_n (lv' := [(2, .int 0), (0, .ref x0), (1, .int e0)]) hx hb dX5_causeOfLate_1 rfl hl (by decide) rfl (fun ls hl => ?_)
  refine lp_causeOfLate l D cI cZ cR x0 t0 g0 k0 u0 m0 s0 sk hs rk n0 a0 a1 a2 a3 a4 a5 a6 a7 a8 a9 E Ac pl so th fr to le mi e0 hE hAc hfr hto hx hb hts hown hml hK hA (fun k hk hlt H locs ls hP hD hS hl => ?_) (fun k hk H locs ls hP hD hS hl => ?_) _ 0 (by first | with_reducible assumption | omega | exact vp_le (by with_reducible assumption) (by omega) | (intros; omega)) (Nat.lt_succ_self _) _ _ _ (hP.sub [0, 1, 2, 3, 4, 5, 6, 7, 8] rfl) (hD.sub [0, 1, 2, 3, 4, 5, 6, 7, 8] (by decide) rfl) hS (lv_sub hl [0, 1, 2] rfl)
  · refine lv_iload_n hx hb dX5_causeOfLate_50 rfl (lv_at hl 0 rfl) ?_
    exact en_i k hx hb hr hlocks hK (hP.sub [0, 1, 2, 3, 4, 5, 6, 7, 8] rfl) (hD.sub [0, 1, 2, 3, 4, 5, 6, 7, 8] (by decide) rfl) hS (Nat.le_of_ble_eq_true rfl) (Nat.le_of_ble_eq_true rfl) dX5_causeOfLate_51 (Or.inl ⟨rfl, by assumption⟩)
  · refine lv_iconst (v := (-1)) hx hb dX5_causeOfLate_58 (by decide) ?_
    exact en_i 0 hx hb hr hlocks hK (hP.sub [0, 1, 2, 3, 4, 5, 6, 7, 8] rfl) (hD.sub [0, 1, 2, 3, 4, 5, 6, 7, 8] (by decide) rfl) hS (Nat.le_of_ble_eq_true rfl) (Nat.le_of_ble_eq_true rfl) dX5_causeOfLate_59 (Or.inr rfl)
set_option maxHeartbeats 300000 in
set_option maxRecDepth 100000 in
theorem lp_lateEvents {p : Program} {e : Env} {s : State} {m : MethodId} {args : Array Value} {below : List Frame} {meth : Method} {c : Code} {A : Nat → Prop} {Q : State → Prop} (l : Launch) (D : va_G) (cI cZ cR : ClassId) (x0 : Nat) (t0 : Nat) (g0 : Nat) (k0 : Nat) (u0 : Nat) (m0 : Nat) (s0 : Nat) (sk : Int32) (hs : Int32) (rk : Int32) (n0 : Nat) (a0 : Nat) (a1 : Nat) (a2 : Nat) (a3 : Nat) (a4 : Nat) (a5 : Nat) (a6 : Nat) (a7 : Nat) (a8 : Nat) (a9 : Nat) (E : Nat) (Ac : Nat) (pl : Nat → Int32) (th : Nat → Int32) (mi : Nat → Int32) (hE : E ≤ 60) (hx : p.tables.exec = Jvm.exec) (hb : c.code = cX5_lateEvents) (hts : ∀ w ∈ wsX5_lateEvents, w.before args s = true) (hown : s.vm.findClass RX5 = some m.cls) (hml : c.maxLocals = 3) (hK : kK D cI cZ cR s) (hA : ∀ q : Nat, s.heap.size ≤ q → A q) (kx_32 : ∀ (k : Nat) (z : Int32), (k ≤ E) → (z = kAd (kLt (tbC th) pl mi) (fun _ => 1) k) → (E ≤ k) → ∀ (H : Heap) (locs : List Loc) (ls : Array Slot), va_P D vwCl (wc (cO x0 5 [.ref n0, .ref t0, .ref g0, .ref k0, .ref u0, .ref m0, .ref s0, .int sk, .int hs, .int rk]) (wc (cO n0 1 [.ref a0, .ref a1, .ref a2, .ref a3, .ref a4, .ref a5, .ref a6, .ref a7, .ref a8, .ref a9, .int (nI E), .int (nI Ac)]) (wc (cA a1 cI 60 pl) (wc (cA a3 cZ 60 th) (wc (cA m0 cI 60 mi) wN))))) H → va_D A (wc (cO x0 5 [.ref n0, .ref t0, .ref g0, .ref k0, .ref u0, .ref m0, .ref s0, .int sk, .int hs, .int rk]) (wc (cO n0 1 [.ref a0, .ref a1, .ref a2, .ref a3, .ref a4, .ref a5, .ref a6, .ref a7, .ref a8, .ref a9, .int (nI E), .int (nI Ac)]) (wc (cA a1 cI 60 pl) (wc (cA a3 cZ 60 th) (wc (cA m0 cI 60 mi) wN))))) → va_S A s.heap H locs → lv_has ls 3 [(2, .int (nI k)), (0, .ref x0), (1, .int z)] → W p l e { frames := 2, cells := 0, slots := 0, locals := 42 } s m args below meth c H locs 0 0 Q (F0 m 32 ls [])) : ∀ (n : Nat) (k : Nat) (z : Int32), (k ≤ E) → (z = kAd (kLt (tbC th) pl mi) (fun _ => 1) k) → E - k < n → ∀ (H : Heap) (locs : List Loc) (ls : Array Slot), va_P D vwCl (wc (cO x0 5 [.ref n0, .ref t0, .ref g0, .ref k0, .ref u0, .ref m0, .ref s0, .int sk, .int hs, .int rk]) (wc (cO n0 1 [.ref a0, .ref a1, .ref a2, .ref a3, .ref a4, .ref a5, .ref a6, .ref a7, .ref a8, .ref a9, .int (nI E), .int (nI Ac)]) (wc (cA a1 cI 60 pl) (wc (cA a3 cZ 60 th) (wc (cA m0 cI 60 mi) wN))))) H → va_D A (wc (cO x0 5 [.ref n0, .ref t0, .ref g0, .ref k0, .ref u0, .ref m0, .ref s0, .int sk, .int hs, .int rk]) (wc (cO n0 1 [.ref a0, .ref a1, .ref a2, .ref a3, .ref a4, .ref a5, .ref a6, .ref a7, .ref a8, .ref a9, .int (nI E), .int (nI Ac)]) (wc (cA a1 cI 60 pl) (wc (cA a3 cZ 60 th) (wc (cA m0 cI 60 mi) wN))))) → va_S A s.heap H locs → lv_has ls 3 [(2, .int (nI k)), (0, .ref x0), (1, .int z)] → W p l e { frames := 2, cells := 0, slots := 0, locals := 42 } s m args below meth c H locs 0 0 Q (F0 m 4 ls []) := by
  have kw_0 := hts (.fieldLink RX5 10 "DelayDesk" "net" "LDelayDesk$Net;") (List.mem_of_getElem? (i := 1) rfl)
  have iX5 : ∀ w ∈ u_ws RX5 TX5 10, w ∈ wsX5_lateEvents := fun _ h9 => (List.mem_cons_of_mem _ (List.mem_append_left _ (List.mem_append_right _ h9)))
  have kw_2 := hts (.fieldLink RX5 69 "DelayDesk$Net" "events" "I") (List.mem_of_getElem? (i := 2) rfl)
  have iX1 : ∀ w ∈ u_ws RX1 TX1 12, w ∈ wsX5_lateEvents := fun _ h9 => (List.mem_cons_of_mem _ (List.mem_append_right _ h9))
  intro n
  induction n with
  | zero =>
    intro k z hk hz hm
    exact absurd hm (Nat.not_lt_zero _)
  | succ n ih =>
    intro k z hk hz hm H locs ls hP hD hS hl
    refine lv_iload_n hx hb dX5_lateEvents_4 rfl (lv_at hl 0 rfl) ?_
    refine lv_aload_n hx hb dX5_lateEvents_5 rfl (lv_at hl 1 rfl) ?_
    refine va_get (D := D) (ci := 5) (v := .ref n0) (C := RX5) (T := TX5) (N := 10) hx hb hts iX5 hown hK.1 hP 0 rfl rfl 0 (by decide) kw_0 (fun _ h9 => h9) rfl dX5_lateEvents_6 ?_
    refine va_get (D := D) (ci := 1) (v := .int (nI E)) (C := RX1) (T := TX1) (N := 12) hx hb hts iX1 hown hK.1 hP 1 rfl rfl 10 (by decide) kw_2 (fun _ h9 => h9) rfl dX5_lateEvents_9 ?_
    refine lv_icmp_ge (tgt := 32) hx hb dX5_lateEvents_12 (by decide) (fun c_12 => ?_) (fun c_12 => ?_)
    · have g_12 : E ≤ k := (nI_leI (a := E) (b := k) (by omega) (by omega)).mp c_12
      exact kx_32 k z (by first | with_reducible assumption | omega | exact vp_le (by with_reducible assumption) (by omega) | (intros; omega)) ((by first | exact hz | exact ad_1 hz hl17 | exact ad_0 hz hl17 | rfl)) (by first | with_reducible assumption | omega | exact vp_le (by with_reducible assumption) (by omega) | (intros; omega)) _ _ _ (hP.sub [0, 1, 2, 3, 4] rfl) (hD.sub [0, 1, 2, 3, 4] (by decide) rfl) hS (lv_sub hl [0, 1, 2] rfl)
    · have g_12 : k < E := Nat.not_le.mp (fun q => c_12 ((nI_leI (a := E) (b := k) (by omega) (by omega)).mpr q))
      refine lv_aload_n hx hb dX5_lateEvents_15 rfl (lv_at hl 1 rfl) ?_
      refine lv_iload_n hx hb dX5_lateEvents_16 rfl (lv_at hl 0 rfl) ?_
      refine cl_i (wr := (wN)) (va_runV (As := [.int (nI k)]) (rest := []) ⟨hx, hb, hml, hown, hts⟩ (c_isLate l D cI cZ cR x0 t0 g0 k0 u0 m0 s0 sk hs rk n0 a0 a1 a2 a3 a4 a5 a6 a7 a8 a9 E Ac pl th mi (nI k) (by omega) H.size) (cwV 1 hts gX5_lateEvents_X5_isLate rfl rfl rfl hd_X5_isLate ⟨Nat.le_of_ble_eq_true rfl, Nat.le_of_ble_eq_true rfl⟩) (pV 5 0 hK hP hD [0, 1, 2, 3, 4] rfl (by decide) rfl rfl) rfl rfl hl.1 rfl (lv_room (Nat.le_of_ble_eq_true rfl)) dX5_lateEvents_17 ⟨Nat.le_of_ble_eq_true rfl, Nat.le_of_ble_eq_true rfl⟩) hP hD hS hA [0, 1, 2, 3, 4] [] rfl rfl (by decide) (by decide) (fun r_17 u_17 H locs hw_17 hP hD hS => ?_)
      have hP : va_P D vwCl (wc (cO x0 5 [.ref n0, .ref t0, .ref g0, .ref k0, .ref u0, .ref m0, .ref s0, .int sk, .int hs, .int rk]) (wc (cO n0 1 [.ref a0, .ref a1, .ref a2, .ref a3, .ref a4, .ref a5, .ref a6, .ref a7, .ref a8, .ref a9, .int (nI E), .int (nI Ac)]) (wc (cA a1 cI 60 pl) (wc (cA a3 cZ 60 th) (wc (cA m0 cI 60 mi) wN))))) H := hP
      have hD : va_D A (wc (cO x0 5 [.ref n0, .ref t0, .ref g0, .ref k0, .ref u0, .ref m0, .ref s0, .int sk, .int hs, .int rk]) (wc (cO n0 1 [.ref a0, .ref a1, .ref a2, .ref a3, .ref a4, .ref a5, .ref a6, .ref a7, .ref a8, .ref a9, .int (nI E), .int (nI Ac)]) (wc (cA a1 cI 60 pl) (wc (cA a3 cZ 60 th) (wc (cA m0 cI 60 mi) wN))))) := hD
      rcases hw_17 with ⟨rfl, hf_17⟩ | ⟨rfl, hf_17⟩
      · have hl17 : kLt (tbC th) pl mi k = true := by have q9 := hf_17.2; rw [show (nI k).toNatClampNeg = k from nI_clamp (by omega)] at q9; exact q9
        refine lv_if_eq (tgt := 26) hx hb dX5_lateEvents_20 (by decide) (fun c_20 => absurd c_20 (by decide)) (fun c_20 => ?_)
        refine lv_iinc (v := (z + 1)) (lv' := [(1, .int (z + 1)), (2, .int (nI k)), (0, .ref x0)]) hx hb dX5_lateEvents_23 hl (k := 2) rfl rfl (by decide) rfl (fun ls hl => ?_)
        refine lv_iinc (v := (nI (k + 1))) (lv' := [(2, .int (nI (k + 1))), (1, .int (z + 1)), (0, .ref x0)]) hx hb dX5_lateEvents_26 hl (k := 1) rfl (nI_1 _) (by decide) rfl (fun ls hl => ?_)
        refine lv_goto (tgt := 4) hx hb dX5_lateEvents_29 (by decide) ?_
        exact ih (k + 1) (z + 1) (by first | with_reducible assumption | omega | exact vp_le (by with_reducible assumption) (by omega) | (intros; omega)) ((by first | exact hz | exact ad_1 hz hl17 | exact ad_0 hz hl17 | rfl)) (by omega) _ _ _ (hP.sub [0, 1, 2, 3, 4] rfl) (hD.sub [0, 1, 2, 3, 4] (by decide) rfl) hS (lv_sub hl [0, 2, 1] rfl)
      · have hl17 : kLt (tbC th) pl mi k = false := by have q9 := hf_17 (vp_in_nI (by omega) (by omega)); rw [show (nI k).toNatClampNeg = k from nI_clamp (by omega)] at q9; exact q9
        refine lv_if_eq (tgt := 26) hx hb dX5_lateEvents_20 (by decide) (fun c_20 => ?_) (fun c_20 => absurd (by decide) c_20)
        refine lv_iinc (v := (nI (k + 1))) (lv' := [(2, .int (nI (k + 1))), (0, .ref x0), (1, .int z)]) hx hb dX5_lateEvents_26 hl (k := 0) rfl (nI_1 _) (by decide) rfl (fun ls hl => ?_)
        refine lv_goto (tgt := 4) hx hb dX5_lateEvents_29 (by decide) ?_
        exact ih (k + 1) z (by first | with_reducible assumption | omega | exact vp_le (by with_reducible assumption) (by omega) | (intros; omega)) ((by first | exact hz | exact ad_1 hz hl17 | exact ad_0 hz hl17 | rfl)) (by omega) _ _ _ (hP.sub [0, 1, 2, 3, 4] rfl) (hD.sub [0, 1, 2, 3, 4] (by decide) rfl) hS (lv_sub hl [0, 1, 2] rfl)
set_option maxHeartbeats 300000 in
set_option maxRecDepth 100000 in
theorem c_lateEvents (l : Launch) (D : va_G) (cI cZ cR : ClassId) (x0 : Nat) (t0 : Nat) (g0 : Nat) (k0 : Nat) (u0 : Nat) (m0 : Nat) (s0 : Nat) (sk : Int32) (hs : Int32) (rk : Int32) (n0 : Nat) (a0 : Nat) (a1 : Nat) (a2 : Nat) (a3 : Nat) (a4 : Nat) (a5 : Nat) (a6 : Nat) (a7 : Nat) (a8 : Nat) (a9 : Nat) (E : Nat) (Ac : Nat) (pl : Nat → Int32) (th : Nat → Int32) (mi : Nat → Int32) (hE : E ≤ 60) : CI l D cI cZ cR yX5_lateEvents wsX5_lateEvents { frames := 2, cells := 0, slots := 0, locals := 42 } [.ref x0] (wc (cO x0 5 [.ref n0, .ref t0, .ref g0, .ref k0, .ref u0, .ref m0, .ref s0, .int sk, .int hs, .int rk]) (wc (cO n0 1 [.ref a0, .ref a1, .ref a2, .ref a3, .ref a4, .ref a5, .ref a6, .ref a7, .ref a8, .ref a9, .int (nI E), .int (nI Ac)]) (wc (cA a1 cI 60 pl) (wc (cA a3 cZ 60 th) (wc (cA m0 cI 60 mi) wN))))) (fun (r : Int32) (u : Unit) => r = kAd (kLt (tbC th) pl mi) (fun _ => 1) E) (fun (u : Unit) => (wc (cO x0 5 [.ref n0, .ref t0, .ref g0, .ref k0, .ref u0, .ref m0, .ref s0, .int sk, .int hs, .int rk]) (wc (cO n0 1 [.ref a0, .ref a1, .ref a2, .ref a3, .ref a4, .ref a5, .ref a6, .ref a7, .ref a8, .ref a9, .int (nI E), .int (nI Ac)]) (wc (cA a1 cI 60 pl) (wc (cA a3 cZ 60 th) (wc (cA m0 cI 60 mi) wN)))))) := by
  intro sz9
  refine en_W (Qc := fun A => va_Qi (fun (r : Int32) (u : Unit) => r = kAd (kLt (tbC th) pl mi) (fun _ => 1) E) (sB D cI cZ cR (fun (u : Unit) => (wc (cO x0 5 [.ref n0, .ref t0, .ref g0, .ref k0, .ref u0, .ref m0, .ref s0, .int sk, .int hs, .int rk]) (wc (cO n0 1 [.ref a0, .ref a1, .ref a2, .ref a3, .ref a4, .ref a5, .ref a6, .ref a7, .ref a8, .ref a9, .int (nI E), .int (nI Ac)]) (wc (cA a1 cI 60 pl) (wc (cA a3 cZ 60 th) (wc (cA m0 cI 60 mi) wN)))))) A) A) (cc := cX5_lateEvents) (maxL := 3) (ret := (some .int)) (by decide) rfl (Nat.le_of_ble_eq_true rfl) ?_
  intro p e s m below meth c A ls hx hb hr hts hown hlocks hin hml hK hP hD hS hA hl
  have hown : s.vm.findClass RX5 = some m.cls := hown
  have hl : lv_has ls 3 [(0, .ref x0)] := hl
  refine lv_iconst (v := 0) hx hb dX5_lateEvents_0 (by decide) ?_
  refine lv_istore_n (lv' := [(1, .int 0), (0, .ref x0)]) hx hb dX5_lateEvents_1 rfl hl (by decide) rfl (fun ls hl => ?_)
  refine lv_iconst (v := 0) hx hb dX5_lateEvents_2 (by decide) ?_
  refine lv_istore_n (lv' := [(2, .int 0), (1, .int 0), (0, .ref x0)]) hx hb dX5_lateEvents_3 rfl hl (by decide) rfl (fun ls hl => ?_)
  refine lp_lateEvents l D cI cZ cR x0 t0 g0 k0 u0 m0 s0 sk hs rk n0 a0 a1 a2 a3 a4 a5 a6 a7 a8 a9 E Ac pl th mi hE hx hb hts hown hml hK hA (fun k z hk hz hkE H locs ls hP hD hS hl => ?_) _ 0 0 (by first | with_reducible assumption | omega | exact vp_le (by with_reducible assumption) (by omega) | (intros; omega)) ((by first | exact hz | exact ad_1 hz hl17 | exact ad_0 hz hl17 | rfl)) (Nat.lt_succ_self _) _ _ _ (hP.sub [0, 1, 2, 3, 4] rfl) (hD.sub [0, 1, 2, 3, 4] (by decide) rfl) hS (lv_sub hl [0, 2, 1] rfl)
  refine lv_iload_n hx hb dX5_lateEvents_32 rfl (lv_at hl 2 rfl) ?_
  exact en_i (()) hx hb hr hlocks hK (hP.sub [0, 1, 2, 3, 4] rfl) (hD.sub [0, 1, 2, 3, 4] (by decide) rfl) hS (Nat.le_of_ble_eq_true rfl) (Nat.le_of_ble_eq_true rfl) dX5_lateEvents_33 (by rw [show E = k by omega]; exact hz)
set_option maxHeartbeats 300000 in
set_option maxRecDepth 100000 in
theorem lp_lateMinutes {p : Program} {e : Env} {s : State} {m : MethodId} {args : Array Value} {below : List Frame} {meth : Method} {c : Code} {A : Nat → Prop} {Q : State → Prop} (l : Launch) (D : va_G) (cI cZ cR : ClassId) (x0 : Nat) (t0 : Nat) (g0 : Nat) (k0 : Nat) (u0 : Nat) (m0 : Nat) (s0 : Nat) (sk : Int32) (hs : Int32) (rk : Int32) (n0 : Nat) (a0 : Nat) (a1 : Nat) (a2 : Nat) (a3 : Nat) (a4 : Nat) (a5 : Nat) (a6 : Nat) (a7 : Nat) (a8 : Nat) (a9 : Nat) (E : Nat) (Ac : Nat) (pl : Nat → Int32) (th : Nat → Int32) (mi : Nat → Int32) (hE : E ≤ 60) (hx : p.tables.exec = Jvm.exec) (hb : c.code = cX5_lateMinutes) (hts : ∀ w ∈ wsX5_lateMinutes, w.before args s = true) (hown : s.vm.findClass RX5 = some m.cls) (hml : c.maxLocals = 3) (hK : kK D cI cZ cR s) (hA : ∀ q : Nat, s.heap.size ≤ q → A q) (kx_48 : ∀ (k : Nat) (z : Int32), (k ≤ E) → (z = kAd (kLt (tbC th) pl mi) (fun e => mi e - pl e) k) → (E ≤ k) → ∀ (H : Heap) (locs : List Loc) (ls : Array Slot), va_P D vwCl (wc (cO x0 5 [.ref n0, .ref t0, .ref g0, .ref k0, .ref u0, .ref m0, .ref s0, .int sk, .int hs, .int rk]) (wc (cO n0 1 [.ref a0, .ref a1, .ref a2, .ref a3, .ref a4, .ref a5, .ref a6, .ref a7, .ref a8, .ref a9, .int (nI E), .int (nI Ac)]) (wc (cA a1 cI 60 pl) (wc (cA a3 cZ 60 th) (wc (cA m0 cI 60 mi) wN))))) H → va_D A (wc (cO x0 5 [.ref n0, .ref t0, .ref g0, .ref k0, .ref u0, .ref m0, .ref s0, .int sk, .int hs, .int rk]) (wc (cO n0 1 [.ref a0, .ref a1, .ref a2, .ref a3, .ref a4, .ref a5, .ref a6, .ref a7, .ref a8, .ref a9, .int (nI E), .int (nI Ac)]) (wc (cA a1 cI 60 pl) (wc (cA a3 cZ 60 th) (wc (cA m0 cI 60 mi) wN))))) → va_S A s.heap H locs → lv_has ls 3 [(2, .int (nI k)), (0, .ref x0), (1, .int z)] → W p l e { frames := 2, cells := 0, slots := 0, locals := 42 } s m args below meth c H locs 0 0 Q (F0 m 48 ls [])) : ∀ (n : Nat) (k : Nat) (z : Int32), (k ≤ E) → (z = kAd (kLt (tbC th) pl mi) (fun e => mi e - pl e) k) → E - k < n → ∀ (H : Heap) (locs : List Loc) (ls : Array Slot), va_P D vwCl (wc (cO x0 5 [.ref n0, .ref t0, .ref g0, .ref k0, .ref u0, .ref m0, .ref s0, .int sk, .int hs, .int rk]) (wc (cO n0 1 [.ref a0, .ref a1, .ref a2, .ref a3, .ref a4, .ref a5, .ref a6, .ref a7, .ref a8, .ref a9, .int (nI E), .int (nI Ac)]) (wc (cA a1 cI 60 pl) (wc (cA a3 cZ 60 th) (wc (cA m0 cI 60 mi) wN))))) H → va_D A (wc (cO x0 5 [.ref n0, .ref t0, .ref g0, .ref k0, .ref u0, .ref m0, .ref s0, .int sk, .int hs, .int rk]) (wc (cO n0 1 [.ref a0, .ref a1, .ref a2, .ref a3, .ref a4, .ref a5, .ref a6, .ref a7, .ref a8, .ref a9, .int (nI E), .int (nI Ac)]) (wc (cA a1 cI 60 pl) (wc (cA a3 cZ 60 th) (wc (cA m0 cI 60 mi) wN))))) → va_S A s.heap H locs → lv_has ls 3 [(2, .int (nI k)), (0, .ref x0), (1, .int z)] → W p l e { frames := 2, cells := 0, slots := 0, locals := 42 } s m args below meth c H locs 0 0 Q (F0 m 4 ls []) := by
  have kw_0 := hts (.fieldLink RX5 10 "DelayDesk" "net" "LDelayDesk$Net;") (List.mem_of_getElem? (i := 1) rfl)
  have iX5 : ∀ w ∈ u_ws RX5 TX5 10, w ∈ wsX5_lateMinutes := fun _ h9 => (List.mem_cons_of_mem _ (List.mem_append_left _ (List.mem_append_right _ h9)))
  have kw_2 := hts (.fieldLink RX5 69 "DelayDesk$Net" "events" "I") (List.mem_of_getElem? (i := 2) rfl)
  have iX1 : ∀ w ∈ u_ws RX1 TX1 12, w ∈ wsX5_lateMinutes := fun _ h9 => (List.mem_cons_of_mem _ (List.mem_append_right _ h9))
  have kw_4 := hts (.fieldLink RX5 48 "DelayDesk" "minutes" "[I") (List.mem_of_getElem? (i := 3) rfl)
  have kw_5 := hts (.fieldLink RX5 140 "DelayDesk$Net" "plan" "[I") (List.mem_of_getElem? (i := 4) rfl)
  intro n
  induction n with
  | zero =>
    intro k z hk hz hm
    exact absurd hm (Nat.not_lt_zero _)
  | succ n ih =>
    intro k z hk hz hm H locs ls hP hD hS hl
    refine lv_iload_n hx hb dX5_lateMinutes_4 rfl (lv_at hl 0 rfl) ?_
    refine lv_aload_n hx hb dX5_lateMinutes_5 rfl (lv_at hl 1 rfl) ?_
    refine va_get (D := D) (ci := 5) (v := .ref n0) (C := RX5) (T := TX5) (N := 10) hx hb hts iX5 hown hK.1 hP 0 rfl rfl 0 (by decide) kw_0 (fun _ h9 => h9) rfl dX5_lateMinutes_6 ?_
    refine va_get (D := D) (ci := 1) (v := .int (nI E)) (C := RX1) (T := TX1) (N := 12) hx hb hts iX1 hown hK.1 hP 1 rfl rfl 10 (by decide) kw_2 (fun _ h9 => h9) rfl dX5_lateMinutes_9 ?_
    refine lv_icmp_ge (tgt := 48) hx hb dX5_lateMinutes_12 (by decide) (fun c_12 => ?_) (fun c_12 => ?_)
    · have g_12 : E ≤ k := (nI_leI (a := E) (b := k) (by omega) (by omega)).mp c_12
      exact kx_48 k z (by first | with_reducible assumption | omega | exact vp_le (by with_reducible assumption) (by omega) | (intros; omega)) ((by first | exact hz | exact ad_1 hz hl17 | exact ad_0 hz hl17 | rfl)) (by first | with_reducible assumption | omega | exact vp_le (by with_reducible assumption) (by omega) | (intros; omega)) _ _ _ (hP.sub [0, 1, 2, 3, 4] rfl) (hD.sub [0, 1, 2, 3, 4] (by decide) rfl) hS (lv_sub hl [0, 1, 2] rfl)
    · have g_12 : k < E := Nat.not_le.mp (fun q => c_12 ((nI_leI (a := E) (b := k) (by omega) (by omega)).mpr q))
      refine lv_aload_n hx hb dX5_lateMinutes_15 rfl (lv_at hl 1 rfl) ?_
      refine lv_iload_n hx hb dX5_lateMinutes_16 rfl (lv_at hl 0 rfl) ?_
      refine cl_i (wr := (wN)) (va_runV (As := [.int (nI k)]) (rest := []) ⟨hx, hb, hml, hown, hts⟩ (c_isLate l D cI cZ cR x0 t0 g0 k0 u0 m0 s0 sk hs rk n0 a0 a1 a2 a3 a4 a5 a6 a7 a8 a9 E Ac pl th mi (nI k) (by omega) H.size) (cwV 1 hts gX5_lateMinutes_X5_isLate rfl rfl rfl hd_X5_isLate ⟨Nat.le_of_ble_eq_true rfl, Nat.le_of_ble_eq_true rfl⟩) (pV 5 0 hK hP hD [0, 1, 2, 3, 4] rfl (by decide) rfl rfl) rfl rfl hl.1 rfl (lv_room (Nat.le_of_ble_eq_true rfl)) dX5_lateMinutes_17 ⟨Nat.le_of_ble_eq_true rfl, Nat.le_of_ble_eq_true rfl⟩) hP hD hS hA [0, 1, 2, 3, 4] [] rfl rfl (by decide) (by decide) (fun r_17 u_17 H locs hw_17 hP hD hS => ?_)
      have hP : va_P D vwCl (wc (cO x0 5 [.ref n0, .ref t0, .ref g0, .ref k0, .ref u0, .ref m0, .ref s0, .int sk, .int hs, .int rk]) (wc (cO n0 1 [.ref a0, .ref a1, .ref a2, .ref a3, .ref a4, .ref a5, .ref a6, .ref a7, .ref a8, .ref a9, .int (nI E), .int (nI Ac)]) (wc (cA a1 cI 60 pl) (wc (cA a3 cZ 60 th) (wc (cA m0 cI 60 mi) wN))))) H := hP
      have hD : va_D A (wc (cO x0 5 [.ref n0, .ref t0, .ref g0, .ref k0, .ref u0, .ref m0, .ref s0, .int sk, .int hs, .int rk]) (wc (cO n0 1 [.ref a0, .ref a1, .ref a2, .ref a3, .ref a4, .ref a5, .ref a6, .ref a7, .ref a8, .ref a9, .int (nI E), .int (nI Ac)]) (wc (cA a1 cI 60 pl) (wc (cA a3 cZ 60 th) (wc (cA m0 cI 60 mi) wN))))) := hD
      rcases hw_17 with ⟨rfl, hf_17⟩ | ⟨rfl, hf_17⟩
      · have hl17 : kLt (tbC th) pl mi k = true := by have q9 := hf_17.2; rw [show (nI k).toNatClampNeg = k from nI_clamp (by omega)] at q9; exact q9
        refine lv_if_eq (tgt := 42) hx hb dX5_lateMinutes_20 (by decide) (fun c_20 => absurd c_20 (by decide)) (fun c_20 => ?_)
        refine lv_iload_n hx hb dX5_lateMinutes_23 rfl (lv_at hl 2 rfl) ?_
        refine lv_aload_n hx hb dX5_lateMinutes_24 rfl (lv_at hl 1 rfl) ?_
        refine va_get (D := D) (ci := 5) (v := .ref m0) (C := RX5) (T := TX5) (N := 10) hx hb hts iX5 hown hK.1 hP 0 rfl rfl 5 (by decide) kw_4 (fun _ h9 => h9) rfl dX5_lateMinutes_25 ?_
        refine lv_iload_n hx hb dX5_lateMinutes_28 rfl (lv_at hl 0 rfl) ?_
        refine ra_I hx hb hK hP 4 rfl (k := k) (by omega) (by decide) dX5_lateMinutes_29 ?_
        refine lv_aload_n hx hb dX5_lateMinutes_30 rfl (lv_at hl 1 rfl) ?_
        refine va_get (D := D) (ci := 5) (v := .ref n0) (C := RX5) (T := TX5) (N := 10) hx hb hts iX5 hown hK.1 hP 0 rfl rfl 0 (by decide) kw_0 (fun _ h9 => h9) rfl dX5_lateMinutes_31 ?_
        refine va_get (D := D) (ci := 1) (v := .ref a1) (C := RX1) (T := TX1) (N := 12) hx hb hts iX1 hown hK.1 hP 1 rfl rfl 1 (by decide) kw_5 (fun _ h9 => h9) rfl dX5_lateMinutes_34 ?_
        refine lv_iload_n hx hb dX5_lateMinutes_37 rfl (lv_at hl 0 rfl) ?_
        refine ra_I hx hb hK hP 2 rfl (k := k) (by omega) (by decide) dX5_lateMinutes_38 ?_
        refine lv_isub hx hb dX5_lateMinutes_39 ?_
        refine lv_iadd hx hb dX5_lateMinutes_40 ?_
        refine lv_istore_n (lv' := [(1, .int (z + ((mi k) - (pl k)))), (2, .int (nI k)), (0, .ref x0)]) hx hb dX5_lateMinutes_41 rfl hl (by decide) rfl (fun ls hl => ?_)
        refine lv_iinc (v := (nI (k + 1))) (lv' := [(2, .int (nI (k + 1))), (1, .int (z + ((mi k) - (pl k)))), (0, .ref x0)]) hx hb dX5_lateMinutes_42 hl (k := 1) rfl (nI_1 _) (by decide) rfl (fun ls hl => ?_)
        refine lv_goto (tgt := 4) hx hb dX5_lateMinutes_45 (by decide) ?_
        exact ih (k + 1) (z + ((mi k) - (pl k))) (by first | with_reducible assumption | omega | exact vp_le (by with_reducible assumption) (by omega) | (intros; omega)) ((by first | exact hz | exact ad_1 hz hl17 | exact ad_0 hz hl17 | rfl)) (by omega) _ _ _ (hP.sub [0, 1, 2, 3, 4] rfl) (hD.sub [0, 1, 2, 3, 4] (by decide) rfl) hS (lv_sub hl [0, 2, 1] rfl)
      · have hl17 : kLt (tbC th) pl mi k = false := by have q9 := hf_17 (vp_in_nI (by omega) (by omega)); rw [show (nI k).toNatClampNeg = k from nI_clamp (by omega)] at q9; exact q9
        refine lv_if_eq (tgt := 42) hx hb dX5_lateMinutes_20 (by decide) (fun c_20 => ?_) (fun c_20 => absurd (by decide) c_20)
        refine lv_iinc (v := (nI (k + 1))) (lv' := [(2, .int (nI (k + 1))), (0, .ref x0), (1, .int z)]) hx hb dX5_lateMinutes_42 hl (k := 0) rfl (nI_1 _) (by decide) rfl (fun ls hl => ?_)
        refine lv_goto (tgt := 4) hx hb dX5_lateMinutes_45 (by decide) ?_
        exact ih (k + 1) z (by first | with_reducible assumption | omega | exact vp_le (by with_reducible assumption) (by omega) | (intros; omega)) ((by first | exact hz | exact ad_1 hz hl17 | exact ad_0 hz hl17 | rfl)) (by omega) _ _ _ (hP.sub [0, 1, 2, 3, 4] rfl) (hD.sub [0, 1, 2, 3, 4] (by decide) rfl) hS (lv_sub hl [0, 1, 2] rfl)
set_option maxHeartbeats 300000 in
set_option maxRecDepth 100000 in
theorem c_lateMinutes (l : Launch) (D : va_G) (cI cZ cR : ClassId) (x0 : Nat) (t0 : Nat) (g0 : Nat) (k0 : Nat) (u0 : Nat) (m0 : Nat) (s0 : Nat) (sk : Int32) (hs : Int32) (rk : Int32) (n0 : Nat) (a0 : Nat) (a1 : Nat) (a2 : Nat) (a3 : Nat) (a4 : Nat) (a5 : Nat) (a6 : Nat) (a7 : Nat) (a8 : Nat) (a9 : Nat) (E : Nat) (Ac : Nat) (pl : Nat → Int32) (th : Nat → Int32) (mi : Nat → Int32) (hE : E ≤ 60) : CI l D cI cZ cR yX5_lateMinutes wsX5_lateMinutes { frames := 2, cells := 0, slots := 0, locals := 42 } [.ref x0] (wc (cO x0 5 [.ref n0, .ref t0, .ref g0, .ref k0, .ref u0, .ref m0, .ref s0, .int sk, .int hs, .int rk]) (wc (cO n0 1 [.ref a0, .ref a1, .ref a2, .ref a3, .ref a4, .ref a5, .ref a6, .ref a7, .ref a8, .ref a9, .int (nI E), .int (nI Ac)]) (wc (cA a1 cI 60 pl) (wc (cA a3 cZ 60 th) (wc (cA m0 cI 60 mi) wN))))) (fun (r : Int32) (u : Unit) => r = kAd (kLt (tbC th) pl mi) (fun e => mi e - pl e) E) (fun (u : Unit) => (wc (cO x0 5 [.ref n0, .ref t0, .ref g0, .ref k0, .ref u0, .ref m0, .ref s0, .int sk, .int hs, .int rk]) (wc (cO n0 1 [.ref a0, .ref a1, .ref a2, .ref a3, .ref a4, .ref a5, .ref a6, .ref a7, .ref a8, .ref a9, .int (nI E), .int (nI Ac)]) (wc (cA a1 cI 60 pl) (wc (cA a3 cZ 60 th) (wc (cA m0 cI 60 mi) wN)))))) := by
  intro sz9
  refine en_W (Qc := fun A => va_Qi (fun (r : Int32) (u : Unit) => r = kAd (kLt (tbC th) pl mi) (fun e => mi e - pl e) E) (sB D cI cZ cR (fun (u : Unit) => (wc (cO x0 5 [.ref n0, .ref t0, .ref g0, .ref k0, .ref u0, .ref m0, .ref s0, .int sk, .int hs, .int rk]) (wc (cO n0 1 [.ref a0, .ref a1, .ref a2, .ref a3, .ref a4, .ref a5, .ref a6, .ref a7, .ref a8, .ref a9, .int (nI E), .int (nI Ac)]) (wc (cA a1 cI 60 pl) (wc (cA a3 cZ 60 th) (wc (cA m0 cI 60 mi) wN)))))) A) A) (cc := cX5_lateMinutes) (maxL := 3) (ret := (some .int)) (by decide) rfl (Nat.le_of_ble_eq_true rfl) ?_
  intro p e s m below meth c A ls hx hb hr hts hown hlocks hin hml hK hP hD hS hA hl
  have hown : s.vm.findClass RX5 = some m.cls := hown
  have hl : lv_has ls 3 [(0, .ref x0)] := hl
  refine lv_iconst (v := 0) hx hb dX5_lateMinutes_0 (by decide) ?_
  refine lv_istore_n (lv' := [(1, .int 0), (0, .ref x0)]) hx hb dX5_lateMinutes_1 rfl hl (by decide) rfl (fun ls hl => ?_)
  refine lv_iconst (v := 0) hx hb dX5_lateMinutes_2 (by decide) ?_
  refine lv_istore_n (lv' := [(2, .int 0), (1, .int 0), (0, .ref x0)]) hx hb dX5_lateMinutes_3 rfl hl (by decide) rfl (fun ls hl => ?_)
  refine lp_lateMinutes l D cI cZ cR x0 t0 g0 k0 u0 m0 s0 sk hs rk n0 a0 a1 a2 a3 a4 a5 a6 a7 a8 a9 E Ac pl th mi hE hx hb hts hown hml hK hA (fun k z hk hz hkE H locs ls hP hD hS hl => ?_) _ 0 0 (by first | with_reducible assumption | omega | exact vp_le (by with_reducible assumption) (by omega) | (intros; omega)) ((by first | exact hz | exact ad_1 hz hl17 | exact ad_0 hz hl17 | rfl)) (Nat.lt_succ_self _) _ _ _ (hP.sub [0, 1, 2, 3, 4] rfl) (hD.sub [0, 1, 2, 3, 4] (by decide) rfl) hS (lv_sub hl [0, 2, 1] rfl)
  refine lv_iload_n hx hb dX5_lateMinutes_48 rfl (lv_at hl 2 rfl) ?_
  exact en_i (()) hx hb hr hlocks hK (hP.sub [0, 1, 2, 3, 4] rfl) (hD.sub [0, 1, 2, 3, 4] (by decide) rfl) hS (Nat.le_of_ble_eq_true rfl) (Nat.le_of_ble_eq_true rfl) dX5_lateMinutes_49 (by rw [show E = k by omega]; exact hz)
