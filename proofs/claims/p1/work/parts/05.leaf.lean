set_option maxHeartbeats 4000000 in
set_option maxRecDepth 100000 in
theorem c_isIn (l : Launch) (D : va_G) (cI cZ cR : ClassId) (x : Int32) (lo : Int32) (hi : Int32) : CI l D cI cZ cR yX5_isIn wsX5_isIn { frames := 0, cells := 0, slots := 0, locals := 0 } [.int x, .int lo, .int hi] [] (fun (r : Int32) (u : Unit) => (r = 1 ∧ (lo ≤ x ∧ x ≤ hi)) ∨ (r = 0 ∧ ¬ (lo ≤ x ∧ x ≤ hi))) (fun (u : Unit) => []) := by
  intro sz
  refine en_W (Qc := fun A => va_Qi (fun (r : Int32) (u : Unit) => (r = 1 ∧ (lo ≤ x ∧ x ≤ hi)) ∨ (r = 0 ∧ ¬ (lo ≤ x ∧ x ≤ hi))) (sB D cI cZ cR (fun (u : Unit) => []) A) A) (cc := cX5_isIn) (maxL := 3) (ret := (some .boolean)) (by decide) rfl (Nat.le_of_ble_eq_true rfl) ?_
  intro p e s m below meth c A ls hx hb hr hts hown hlocks hin hml hK hP hD hS hA hl
  have hown : s.vm.findClass RX5 = some m.cls := hown
  have hl : lv_has ls 3 [(0, .int x), (1, .int lo), (2, .int hi)] := hl
  refine lv_iload_n hx hb dX5_isIn_0 rfl (lv_at hl 0 rfl) ?_
  refine lv_iload_n hx hb dX5_isIn_1 rfl (lv_at hl 1 rfl) ?_
  refine lv_icmp_lt (tgt := 14) hx hb dX5_isIn_2 (by decide) (fun c_2 => ?_) (fun c_2 => ?_)
  · refine lv_iconst (v := 0) hx hb dX5_isIn_14 (by decide) ?_
    exact en_z () hx hb hr hlocks hK (hP.sub [] rfl) (hD.sub [] (by decide) rfl) hS (Nat.le_of_ble_eq_true rfl) (Nat.le_of_ble_eq_true rfl) dX5_isIn_15 rfl (Or.inr ⟨rfl, by first | exact ii_1 (by assumption) (by assumption) | exact ii_a (by assumption) | exact ii_b (by assumption)⟩)
  · refine lv_iload_n hx hb dX5_isIn_5 rfl (lv_at hl 0 rfl) ?_
    refine lv_iload_n hx hb dX5_isIn_6 rfl (lv_at hl 2 rfl) ?_
    refine lv_icmp_gt (tgt := 14) hx hb dX5_isIn_7 (by decide) (fun c_7 => ?_) (fun c_7 => ?_)
    · refine lv_iconst (v := 0) hx hb dX5_isIn_14 (by decide) ?_
      exact en_z () hx hb hr hlocks hK (hP.sub [] rfl) (hD.sub [] (by decide) rfl) hS (Nat.le_of_ble_eq_true rfl) (Nat.le_of_ble_eq_true rfl) dX5_isIn_15 rfl (Or.inr ⟨rfl, by first | exact ii_1 (by assumption) (by assumption) | exact ii_a (by assumption) | exact ii_b (by assumption)⟩)
    · refine lv_iconst (v := 1) hx hb dX5_isIn_10 (by decide) ?_
      refine lv_goto (tgt := 15) hx hb dX5_isIn_11 (by decide) ?_
      exact en_z () hx hb hr hlocks hK (hP.sub [] rfl) (hD.sub [] (by decide) rfl) hS (Nat.le_of_ble_eq_true rfl) (Nat.le_of_ble_eq_true rfl) dX5_isIn_15 rfl (Or.inl ⟨rfl, by first | exact ii_1 (by assumption) (by assumption) | exact ii_a (by assumption) | exact ii_b (by assumption)⟩)
set_option maxHeartbeats 4000000 in
set_option maxRecDepth 100000 in
theorem c_asNumber1 (l : Launch) (D : va_G) (cI cZ cR : ClassId)  : CI l D cI cZ cR yX5_asNumber wsX5_asNumber { frames := 0, cells := 0, slots := 0, locals := 0 } [.int 1] [] (fun (r : Int32) (u : Unit) => r = 1) (fun (u : Unit) => []) := by
  intro sz
  refine en_W (Qc := fun A => va_Qi (fun (r : Int32) (u : Unit) => r = 1) (sB D cI cZ cR (fun (u : Unit) => []) A) A) (cc := cX5_asNumber) (maxL := 1) (ret := (some .int)) (by decide) rfl (Nat.le_of_ble_eq_true rfl) ?_
  intro p e s m below meth c A ls hx hb hr hts hown hlocks hin hml hK hP hD hS hA hl
  have hown : s.vm.findClass RX5 = some m.cls := hown
  have hl : lv_has ls 1 [(0, .int 1)] := hl
  refine lv_iload_n hx hb dX5_asNumber_0 rfl (lv_at hl 0 rfl) ?_
  refine lv_if_eq (tgt := 8) hx hb dX5_asNumber_1 (by decide) (fun c_1 => absurd c_1 (by decide)) (fun c_1 => ?_)
  refine lv_iconst (v := 1) hx hb dX5_asNumber_4 (by decide) ?_
  refine lv_goto (tgt := 9) hx hb dX5_asNumber_5 (by decide) ?_
  exact en_i () hx hb hr hlocks hK (hP.sub [] rfl) (hD.sub [] (by decide) rfl) hS (Nat.le_of_ble_eq_true rfl) (Nat.le_of_ble_eq_true rfl) dX5_asNumber_9 (rfl)
set_option maxHeartbeats 4000000 in
set_option maxRecDepth 100000 in
theorem c_forgetAnswers (l : Launch) (D : va_G) (cI cZ cR : ClassId) (x0 : Nat) (n0 : Nat) (t0 : Nat) (g0 : Nat) (k0 : Nat) (u0 : Nat) (m0 : Nat) (s0 : Nat) : CV l D cI cZ cR yX5_forgetAnswers wsX5_forgetAnswers { frames := 0, cells := 0, slots := 0, locals := 0 } [.ref x0] [(x0, .inr (5, [.ref n0, .ref t0, .ref g0, .ref k0, .ref u0, .ref m0, .ref s0, .int 0, .int 0, .int 0]))] (fun (u : Unit) => True) (fun (u : Unit) => [(x0, .inr (5, [.ref n0, .ref t0, .ref g0, .ref k0, .ref u0, .ref m0, .ref s0, .int 0, .int 0, .int 0]))]) := by
  intro sz
  refine en_W (Qc := fun A => va_Qv (fun (u : Unit) => True) (sB D cI cZ cR (fun (u : Unit) => [(x0, .inr (5, [.ref n0, .ref t0, .ref g0, .ref k0, .ref u0, .ref m0, .ref s0, .int 0, .int 0, .int 0]))]) A) A) (cc := cX5_forgetAnswers) (maxL := 1) (ret := none) (by decide) rfl (Nat.le_of_ble_eq_true rfl) ?_
  intro p e s m below meth c A ls hx hb hr hts hown hlocks hin hml hK hP hD hS hA hl
  have hown : s.vm.findClass RX5 = some m.cls := hown
  have hl : lv_has ls 1 [(0, .ref x0)] := hl
  have kw_0 := hts (.fieldLink RX5 55 "DelayDesk" "spreadKnown" "Z") (by decide +kernel)
  have iX5 : ∀ w ∈ u_ws RX5 TX5 10, w ∈ wsX5_forgetAnswers := by decide +kernel
  have kw_2 := hts (.fieldLink RX5 62 "DelayDesk" "ringKnown" "Z") (by decide +kernel)
  refine lv_aload_n hx hb dX5_forgetAnswers_0 rfl (lv_at hl 0 rfl) ?_
  refine lv_iconst (v := 0) hx hb dX5_forgetAnswers_1 (by decide) ?_
  refine va_put (D := D) (ci := 5) (v := .int 0) (ty := .boolean) (C := RX5) (T := TX5) (N := 10) hx hb hts iX5 tyX5 tyX5_ok nmX5 hown hK.1 hP hD hS 0 rfl rfl 7 (by decide) kw_0 (fun _ h9 => h9) rfl (by decide +kernel) rfl rfl (Nat.le_of_ble_eq_true rfl) dX5_forgetAnswers_2 (fun H locs hP hD hS => ?_)
  have hP : va_P D vwCl [(x0, .inr (5, [.ref n0, .ref t0, .ref g0, .ref k0, .ref u0, .ref m0, .ref s0, .int 0, .int 0, .int 0]))] H := hP
  have hD : va_D A [(x0, .inr (5, [.ref n0, .ref t0, .ref g0, .ref k0, .ref u0, .ref m0, .ref s0, .int 0, .int 0, .int 0]))] := hD
  refine lv_aload_n hx hb dX5_forgetAnswers_5 rfl (lv_at hl 0 rfl) ?_
  refine lv_iconst (v := 0) hx hb dX5_forgetAnswers_6 (by decide) ?_
  refine va_put (D := D) (ci := 5) (v := .int 0) (ty := .boolean) (C := RX5) (T := TX5) (N := 10) hx hb hts iX5 tyX5 tyX5_ok nmX5 hown hK.1 hP hD hS 0 rfl rfl 9 (by decide) kw_2 (fun _ h9 => h9) rfl (by decide +kernel) rfl rfl (Nat.le_of_ble_eq_true rfl) dX5_forgetAnswers_7 (fun H locs hP hD hS => ?_)
  have hP : va_P D vwCl [(x0, .inr (5, [.ref n0, .ref t0, .ref g0, .ref k0, .ref u0, .ref m0, .ref s0, .int 0, .int 0, .int 0]))] H := hP
  have hD : va_D A [(x0, .inr (5, [.ref n0, .ref t0, .ref g0, .ref k0, .ref u0, .ref m0, .ref s0, .int 0, .int 0, .int 0]))] := hD
  exact en_v () hx hb hr hlocks hK (hP.sub [0] rfl) (hD.sub [0] (by decide) rfl) hS (Nat.le_of_ble_eq_true rfl) (Nat.le_of_ble_eq_true rfl) dX5_forgetAnswers_10 (trivial)
set_option maxHeartbeats 4000000 in
set_option maxRecDepth 100000 in
theorem c_hasEvent (l : Launch) (D : va_G) (cI cZ cR : ClassId) (n0 : Nat) (a0 : Nat) (a1 : Nat) (a2 : Nat) (a3 : Nat) (a4 : Nat) (a5 : Nat) (a6 : Nat) (a7 : Nat) (a8 : Nat) (a9 : Nat) (e0 : Int32) : CI l D cI cZ cR yX1_hasEvent wsX1_hasEvent { frames := 0, cells := 0, slots := 0, locals := 0 } [.ref n0, .int e0] [(n0, .inr (1, [.ref a0, .ref a1, .ref a2, .ref a3, .ref a4, .ref a5, .ref a6, .ref a7, .ref a8, .ref a9, .int 0, .int 0]))] (fun (r : Int32) (u : Unit) => r = 0) (fun (u : Unit) => [(n0, .inr (1, [.ref a0, .ref a1, .ref a2, .ref a3, .ref a4, .ref a5, .ref a6, .ref a7, .ref a8, .ref a9, .int 0, .int 0]))]) := by
  intro sz
  refine en_W (Qc := fun A => va_Qi (fun (r : Int32) (u : Unit) => r = 0) (sB D cI cZ cR (fun (u : Unit) => [(n0, .inr (1, [.ref a0, .ref a1, .ref a2, .ref a3, .ref a4, .ref a5, .ref a6, .ref a7, .ref a8, .ref a9, .int 0, .int 0]))]) A) A) (cc := cX1_hasEvent) (maxL := 2) (ret := (some .boolean)) (by decide) rfl (Nat.le_of_ble_eq_true rfl) ?_
  intro p e s m below meth c A ls hx hb hr hts hown hlocks hin hml hK hP hD hS hA hl
  have hown : s.vm.findClass RX1 = some m.cls := hown
  have hl : lv_has ls 2 [(0, .ref n0), (1, .int e0)] := hl
  have kw_0 := hts (.fieldLink RX1 43 "DelayDesk$Net" "events" "I") (by decide +kernel)
  have iX1 : ∀ w ∈ u_ws RX1 TX1 12, w ∈ wsX1_hasEvent := by decide +kernel
  refine lv_iload_n hx hb dX1_hasEvent_0 rfl (lv_at hl 1 rfl) ?_
  refine lv_if_lt (tgt := 16) hx hb dX1_hasEvent_1 (by decide) (fun c_1 => ?_) (fun c_1 => ?_)
  · refine lv_iconst (v := 0) hx hb dX1_hasEvent_16 (by decide) ?_
    exact en_z () hx hb hr hlocks hK (hP.sub [0] rfl) (hD.sub [0] (by decide) rfl) hS (Nat.le_of_ble_eq_true rfl) (Nat.le_of_ble_eq_true rfl) dX1_hasEvent_17 rfl (rfl)
  · refine lv_iload_n hx hb dX1_hasEvent_4 rfl (lv_at hl 1 rfl) ?_
    refine lv_aload_n hx hb dX1_hasEvent_5 rfl (lv_at hl 0 rfl) ?_
    refine va_get (D := D) (ci := 1) (v := .int 0) (C := RX1) (T := TX1) (N := 12) hx hb hts iX1 hown hK.1 hP 0 rfl rfl 10 (by decide) kw_0 (fun _ h9 => h9) rfl dX1_hasEvent_6 ?_
    refine lv_icmp_ge (tgt := 16) hx hb dX1_hasEvent_9 (by decide) (fun c_9 => ?_) (fun c_9 => (ab2 c_1 c_9).elim)
    refine lv_iconst (v := 0) hx hb dX1_hasEvent_16 (by decide) ?_
    exact en_z () hx hb hr hlocks hK (hP.sub [0] rfl) (hD.sub [0] (by decide) rfl) hS (Nat.le_of_ble_eq_true rfl) (Nat.le_of_ble_eq_true rfl) dX1_hasEvent_17 rfl (rfl)
set_option maxHeartbeats 4000000 in
set_option maxRecDepth 100000 in
theorem c_hasActivity (l : Launch) (D : va_G) (cI cZ cR : ClassId) (n0 : Nat) (a0 : Nat) (a1 : Nat) (a2 : Nat) (a3 : Nat) (a4 : Nat) (a5 : Nat) (a6 : Nat) (a7 : Nat) (a8 : Nat) (a9 : Nat) (e0 : Int32) : CI l D cI cZ cR yX1_hasActivity wsX1_hasActivity { frames := 0, cells := 0, slots := 0, locals := 0 } [.ref n0, .int e0] [(n0, .inr (1, [.ref a0, .ref a1, .ref a2, .ref a3, .ref a4, .ref a5, .ref a6, .ref a7, .ref a8, .ref a9, .int 0, .int 0]))] (fun (r : Int32) (u : Unit) => r = 0) (fun (u : Unit) => [(n0, .inr (1, [.ref a0, .ref a1, .ref a2, .ref a3, .ref a4, .ref a5, .ref a6, .ref a7, .ref a8, .ref a9, .int 0, .int 0]))]) := by
  intro sz
  refine en_W (Qc := fun A => va_Qi (fun (r : Int32) (u : Unit) => r = 0) (sB D cI cZ cR (fun (u : Unit) => [(n0, .inr (1, [.ref a0, .ref a1, .ref a2, .ref a3, .ref a4, .ref a5, .ref a6, .ref a7, .ref a8, .ref a9, .int 0, .int 0]))]) A) A) (cc := cX1_hasActivity) (maxL := 2) (ret := (some .boolean)) (by decide) rfl (Nat.le_of_ble_eq_true rfl) ?_
  intro p e s m below meth c A ls hx hb hr hts hown hlocks hin hml hK hP hD hS hA hl
  have hown : s.vm.findClass RX1 = some m.cls := hown
  have hl : lv_has ls 2 [(0, .ref n0), (1, .int e0)] := hl
  have kw_0 := hts (.fieldLink RX1 47 "DelayDesk$Net" "activities" "I") (by decide +kernel)
  have iX1 : ∀ w ∈ u_ws RX1 TX1 12, w ∈ wsX1_hasActivity := by decide +kernel
  refine lv_iload_n hx hb dX1_hasActivity_0 rfl (lv_at hl 1 rfl) ?_
  refine lv_if_lt (tgt := 16) hx hb dX1_hasActivity_1 (by decide) (fun c_1 => ?_) (fun c_1 => ?_)
  · refine lv_iconst (v := 0) hx hb dX1_hasActivity_16 (by decide) ?_
    exact en_z () hx hb hr hlocks hK (hP.sub [0] rfl) (hD.sub [0] (by decide) rfl) hS (Nat.le_of_ble_eq_true rfl) (Nat.le_of_ble_eq_true rfl) dX1_hasActivity_17 rfl (rfl)
  · refine lv_iload_n hx hb dX1_hasActivity_4 rfl (lv_at hl 1 rfl) ?_
    refine lv_aload_n hx hb dX1_hasActivity_5 rfl (lv_at hl 0 rfl) ?_
    refine va_get (D := D) (ci := 1) (v := .int 0) (C := RX1) (T := TX1) (N := 12) hx hb hts iX1 hown hK.1 hP 0 rfl rfl 11 (by decide) kw_0 (fun _ h9 => h9) rfl dX1_hasActivity_6 ?_
    refine lv_icmp_ge (tgt := 16) hx hb dX1_hasActivity_9 (by decide) (fun c_9 => ?_) (fun c_9 => (ab2 c_1 c_9).elim)
    refine lv_iconst (v := 0) hx hb dX1_hasActivity_16 (by decide) ?_
    exact en_z () hx hb hr hlocks hK (hP.sub [0] rfl) (hD.sub [0] (by decide) rfl) hS (Nat.le_of_ble_eq_true rfl) (Nat.le_of_ble_eq_true rfl) dX1_hasActivity_17 rfl (rfl)
set_option maxHeartbeats 4000000 in
set_option maxRecDepth 100000 in
theorem c_hasGroup (l : Launch) (D : va_G) (cI cZ cR : ClassId) (t0 : Nat) (v1 : Nat) (v2 : Nat) (v3 : Nat) (v4 : Nat) (v5 : Nat) (v6 : Nat) (n0 : Nat) (e0 : Int32) : CI l D cI cZ cR yX4_hasGroup wsX4_hasGroup { frames := 0, cells := 0, slots := 0, locals := 0 } [.ref t0, .int e0] [(t0, .inr (4, [.ref n0, .ref v1, .ref v2, .ref v3, .ref v4, .ref v5, .ref v6, .int 0]))] (fun (r : Int32) (u : Unit) => r = 0) (fun (u : Unit) => [(t0, .inr (4, [.ref n0, .ref v1, .ref v2, .ref v3, .ref v4, .ref v5, .ref v6, .int 0]))]) := by
  intro sz
  refine en_W (Qc := fun A => va_Qi (fun (r : Int32) (u : Unit) => r = 0) (sB D cI cZ cR (fun (u : Unit) => [(t0, .inr (4, [.ref n0, .ref v1, .ref v2, .ref v3, .ref v4, .ref v5, .ref v6, .int 0]))]) A) A) (cc := cX4_hasGroup) (maxL := 2) (ret := (some .boolean)) (by decide) rfl (Nat.le_of_ble_eq_true rfl) ?_
  intro p e s m below meth c A ls hx hb hr hts hown hlocks hin hml hK hP hD hS hA hl
  have hown : s.vm.findClass RX4 = some m.cls := hown
  have hl : lv_has ls 2 [(0, .ref t0), (1, .int e0)] := hl
  have kw_0 := hts (.fieldLink RX4 30 "DelayDesk$Travellers" "groups" "I") (by decide +kernel)
  have iX4 : ∀ w ∈ u_ws RX4 TX4 8, w ∈ wsX4_hasGroup := by decide +kernel
  refine lv_iload_n hx hb dX4_hasGroup_0 rfl (lv_at hl 1 rfl) ?_
  refine lv_if_lt (tgt := 16) hx hb dX4_hasGroup_1 (by decide) (fun c_1 => ?_) (fun c_1 => ?_)
  · refine lv_iconst (v := 0) hx hb dX4_hasGroup_16 (by decide) ?_
    exact en_z () hx hb hr hlocks hK (hP.sub [0] rfl) (hD.sub [0] (by decide) rfl) hS (Nat.le_of_ble_eq_true rfl) (Nat.le_of_ble_eq_true rfl) dX4_hasGroup_17 rfl (rfl)
  · refine lv_iload_n hx hb dX4_hasGroup_4 rfl (lv_at hl 1 rfl) ?_
    refine lv_aload_n hx hb dX4_hasGroup_5 rfl (lv_at hl 0 rfl) ?_
    refine va_get (D := D) (ci := 4) (v := .int 0) (C := RX4) (T := TX4) (N := 8) hx hb hts iX4 hown hK.1 hP 0 rfl rfl 7 (by decide) kw_0 (fun _ h9 => h9) rfl dX4_hasGroup_6 ?_
    refine lv_icmp_ge (tgt := 16) hx hb dX4_hasGroup_9 (by decide) (fun c_9 => ?_) (fun c_9 => (ab2 c_1 c_9).elim)
    refine lv_iconst (v := 0) hx hb dX4_hasGroup_16 (by decide) ?_
    exact en_z () hx hb hr hlocks hK (hP.sub [0] rfl) (hD.sub [0] (by decide) rfl) hS (Nat.le_of_ble_eq_true rfl) (Nat.le_of_ble_eq_true rfl) dX4_hasGroup_17 rfl (rfl)
set_option maxHeartbeats 4000000 in
set_option maxRecDepth 100000 in
theorem c_isOfKind (l : Launch) (D : va_G) (cI cZ cR : ClassId) (n0 : Nat) (a0 : Nat) (a1 : Nat) (a2 : Nat) (a3 : Nat) (a4 : Nat) (a5 : Nat) (a6 : Nat) (a7 : Nat) (a8 : Nat) (a9 : Nat) (e0 : Int32) (w0 : Int32) : CI l D cI cZ cR yX1_isOfKind wsX1_isOfKind { frames := 1, cells := 0, slots := 0, locals := 21 } [.ref n0, .int e0, .int w0] [(n0, .inr (1, [.ref a0, .ref a1, .ref a2, .ref a3, .ref a4, .ref a5, .ref a6, .ref a7, .ref a8, .ref a9, .int 0, .int 0]))] (fun (r : Int32) (u : Unit) => r = 0) (fun (u : Unit) => [(n0, .inr (1, [.ref a0, .ref a1, .ref a2, .ref a3, .ref a4, .ref a5, .ref a6, .ref a7, .ref a8, .ref a9, .int 0, .int 0]))]) := by
  intro sz
  refine en_W (Qc := fun A => va_Qi (fun (r : Int32) (u : Unit) => r = 0) (sB D cI cZ cR (fun (u : Unit) => [(n0, .inr (1, [.ref a0, .ref a1, .ref a2, .ref a3, .ref a4, .ref a5, .ref a6, .ref a7, .ref a8, .ref a9, .int 0, .int 0]))]) A) A) (cc := cX1_isOfKind) (maxL := 3) (ret := (some .boolean)) (by decide) rfl (Nat.le_of_ble_eq_true rfl) ?_
  intro p e s m below meth c A ls hx hb hr hts hown hlocks hin hml hK hP hD hS hA hl
  have hown : s.vm.findClass RX1 = some m.cls := hown
  have hl : lv_has ls 3 [(0, .ref n0), (1, .int e0), (2, .int w0)] := hl
  refine lv_aload_n hx hb dX1_isOfKind_0 rfl (lv_at hl 0 rfl) ?_
  refine lv_iload_n hx hb dX1_isOfKind_1 rfl (lv_at hl 1 rfl) ?_
  refine cl_i (wr := []) (va_runV (As := [.int e0]) (rest := []) ⟨hx, hb, hml, hown, hts⟩ (c_hasActivity l D cI cZ cR n0 a0 a1 a2 a3 a4 a5 a6 a7 a8 a9 e0 s.heap.size) (cwV 1 hts gX1_isOfKind_X1_hasActivity rfl rfl rfl (by decide +kernel) ⟨Nat.le_of_ble_eq_true rfl, Nat.le_of_ble_eq_true rfl⟩) (pV 1 0 hK hP hD [0] rfl (by decide) rfl rfl) rfl rfl hl.1 rfl (lv_room (Nat.le_of_ble_eq_true rfl)) dX1_isOfKind_2 ⟨Nat.le_of_ble_eq_true rfl, Nat.le_of_ble_eq_true rfl⟩) hP hD hS hA [0] [] rfl rfl (by decide) (by decide) (fun r_2 u_2 H locs hw_2 hP hD hS => ?_)
  have hP : va_P D vwCl [(n0, .inr (1, [.ref a0, .ref a1, .ref a2, .ref a3, .ref a4, .ref a5, .ref a6, .ref a7, .ref a8, .ref a9, .int 0, .int 0]))] H := hP
  have hD : va_D A [(n0, .inr (1, [.ref a0, .ref a1, .ref a2, .ref a3, .ref a4, .ref a5, .ref a6, .ref a7, .ref a8, .ref a9, .int 0, .int 0]))] := hD
  subst hw_2
  refine lv_if_eq (tgt := 22) hx hb dX1_isOfKind_5 (by decide) (fun c_5 => ?_) (fun c_5 => absurd (by decide) c_5)
  refine lv_iconst (v := 0) hx hb dX1_isOfKind_22 (by decide) ?_
  exact en_z () hx hb hr hlocks hK (hP.sub [0] rfl) (hD.sub [0] (by decide) rfl) hS (Nat.le_of_ble_eq_true rfl) (Nat.le_of_ble_eq_true rfl) dX1_isOfKind_23 rfl (rfl)
set_option maxHeartbeats 4000000 in
set_option maxRecDepth 100000 in
theorem c_canJoin (l : Launch) (D : va_G) (cI cZ cR : ClassId) (n0 : Nat) (a0 : Nat) (a1 : Nat) (a2 : Nat) (a3 : Nat) (a4 : Nat) (a5 : Nat) (a6 : Nat) (a7 : Nat) (a8 : Nat) (a9 : Nat) (k1 : Int32) (f1 : Int32) (f2 : Int32) : CI l D cI cZ cR yX1_canJoin wsX1_canJoin { frames := 1, cells := 0, slots := 0, locals := 21 } [.ref n0, .int k1, .int f1, .int f2] [(n0, .inr (1, [.ref a0, .ref a1, .ref a2, .ref a3, .ref a4, .ref a5, .ref a6, .ref a7, .ref a8, .ref a9, .int 0, .int 0]))] (fun (r : Int32) (u : Unit) => r = 0) (fun (u : Unit) => [(n0, .inr (1, [.ref a0, .ref a1, .ref a2, .ref a3, .ref a4, .ref a5, .ref a6, .ref a7, .ref a8, .ref a9, .int 0, .int 0]))]) := by
  intro sz
  refine en_W (Qc := fun A => va_Qi (fun (r : Int32) (u : Unit) => r = 0) (sB D cI cZ cR (fun (u : Unit) => [(n0, .inr (1, [.ref a0, .ref a1, .ref a2, .ref a3, .ref a4, .ref a5, .ref a6, .ref a7, .ref a8, .ref a9, .int 0, .int 0]))]) A) A) (cc := cX1_canJoin) (maxL := 5) (ret := (some .boolean)) (by decide) rfl (Nat.le_of_ble_eq_true rfl) ?_
  intro p e s m below meth c A ls hx hb hr hts hown hlocks hin hml hK hP hD hS hA hl
  have hown : s.vm.findClass RX1 = some m.cls := hown
  have hl : lv_has ls 5 [(0, .ref n0), (1, .int k1), (2, .int f1), (3, .int f2)] := hl
  refine lv_aload_n hx hb dX1_canJoin_0 rfl (lv_at hl 0 rfl) ?_
  refine lv_iload_n hx hb dX1_canJoin_1 rfl (lv_at hl 2 rfl) ?_
  refine cl_i (wr := []) (va_runV (As := [.int f1]) (rest := []) ⟨hx, hb, hml, hown, hts⟩ (c_hasEvent l D cI cZ cR n0 a0 a1 a2 a3 a4 a5 a6 a7 a8 a9 f1 s.heap.size) (cwV 1 hts gX1_canJoin_X1_hasEvent rfl rfl rfl (by decide +kernel) ⟨Nat.le_of_ble_eq_true rfl, Nat.le_of_ble_eq_true rfl⟩) (pV 1 0 hK hP hD [0] rfl (by decide) rfl rfl) rfl rfl hl.1 rfl (lv_room (Nat.le_of_ble_eq_true rfl)) dX1_canJoin_2 ⟨Nat.le_of_ble_eq_true rfl, Nat.le_of_ble_eq_true rfl⟩) hP hD hS hA [0] [] rfl rfl (by decide) (by decide) (fun r_2 u_2 H locs hw_2 hP hD hS => ?_)
  have hP : va_P D vwCl [(n0, .inr (1, [.ref a0, .ref a1, .ref a2, .ref a3, .ref a4, .ref a5, .ref a6, .ref a7, .ref a8, .ref a9, .int 0, .int 0]))] H := hP
  have hD : va_D A [(n0, .inr (1, [.ref a0, .ref a1, .ref a2, .ref a3, .ref a4, .ref a5, .ref a6, .ref a7, .ref a8, .ref a9, .int 0, .int 0]))] := hD
  subst hw_2
  refine lv_if_eq (tgt := 21) hx hb dX1_canJoin_5 (by decide) (fun c_5 => ?_) (fun c_5 => absurd (by decide) c_5)
  refine lv_iconst (v := 0) hx hb dX1_canJoin_21 (by decide) ?_
  exact en_z () hx hb hr hlocks hK (hP.sub [0] rfl) (hD.sub [0] (by decide) rfl) hS (Nat.le_of_ble_eq_true rfl) (Nat.le_of_ble_eq_true rfl) dX1_canJoin_22 rfl (rfl)
set_option maxHeartbeats 4000000 in
set_option maxRecDepth 100000 in
theorem c_canGo (l : Launch) (D : va_G) (cI cZ cR : ClassId) (t0 : Nat) (v1 : Nat) (v2 : Nat) (v3 : Nat) (v4 : Nat) (v5 : Nat) (v6 : Nat) (n0 : Nat) (a0 : Nat) (a1 : Nat) (a2 : Nat) (a3 : Nat) (a4 : Nat) (a5 : Nat) (a6 : Nat) (a7 : Nat) (a8 : Nat) (a9 : Nat) (f1 : Int32) (f2 : Int32) (f3 : Int32) (f4 : Int32) : CI l D cI cZ cR yX4_canGo wsX4_canGo { frames := 1, cells := 0, slots := 0, locals := 21 } [.ref t0, .int f1, .int f2, .int f3, .int f4] [(t0, .inr (4, [.ref n0, .ref v1, .ref v2, .ref v3, .ref v4, .ref v5, .ref v6, .int 0])), (n0, .inr (1, [.ref a0, .ref a1, .ref a2, .ref a3, .ref a4, .ref a5, .ref a6, .ref a7, .ref a8, .ref a9, .int 0, .int 0]))] (fun (r : Int32) (u : Unit) => r = 0) (fun (u : Unit) => [(t0, .inr (4, [.ref n0, .ref v1, .ref v2, .ref v3, .ref v4, .ref v5, .ref v6, .int 0])), (n0, .inr (1, [.ref a0, .ref a1, .ref a2, .ref a3, .ref a4, .ref a5, .ref a6, .ref a7, .ref a8, .ref a9, .int 0, .int 0]))]) := by
  intro sz
  refine en_W (Qc := fun A => va_Qi (fun (r : Int32) (u : Unit) => r = 0) (sB D cI cZ cR (fun (u : Unit) => [(t0, .inr (4, [.ref n0, .ref v1, .ref v2, .ref v3, .ref v4, .ref v5, .ref v6, .int 0])), (n0, .inr (1, [.ref a0, .ref a1, .ref a2, .ref a3, .ref a4, .ref a5, .ref a6, .ref a7, .ref a8, .ref a9, .int 0, .int 0]))]) A) A) (cc := cX4_canGo) (maxL := 6) (ret := (some .boolean)) (by decide) rfl (Nat.le_of_ble_eq_true rfl) ?_
  intro p e s m below meth c A ls hx hb hr hts hown hlocks hin hml hK hP hD hS hA hl
  have hown : s.vm.findClass RX4 = some m.cls := hown
  have hl : lv_has ls 6 [(0, .ref t0), (1, .int f1), (2, .int f2), (3, .int f3), (4, .int f4)] := hl
  have kw_0 := hts (.fieldLink RX4 34 "DelayDesk$Travellers" "net" "LDelayDesk$Net;") (by decide +kernel)
  have iX4 : ∀ w ∈ u_ws RX4 TX4 8, w ∈ wsX4_canGo := by decide +kernel
  refine lv_aload_n hx hb dX4_canGo_0 rfl (lv_at hl 0 rfl) ?_
  refine va_get (D := D) (ci := 4) (v := .ref n0) (C := RX4) (T := TX4) (N := 8) hx hb hts iX4 hown hK.1 hP 0 rfl rfl 0 (by decide) kw_0 (fun _ h9 => h9) rfl dX4_canGo_1 ?_
  refine lv_iload_n hx hb dX4_canGo_4 rfl (lv_at hl 1 rfl) ?_
  refine cl_i (wr := [(t0, .inr (4, [.ref n0, .ref v1, .ref v2, .ref v3, .ref v4, .ref v5, .ref v6, .int 0]))]) (va_runV (As := [.int f1]) (rest := []) ⟨hx, hb, hml, hown, hts⟩ (c_hasEvent l D cI cZ cR n0 a0 a1 a2 a3 a4 a5 a6 a7 a8 a9 f1 s.heap.size) (cwV 1 hts gX4_canGo_X1_hasEvent rfl rfl rfl (by decide +kernel) ⟨Nat.le_of_ble_eq_true rfl, Nat.le_of_ble_eq_true rfl⟩) (pV 1 1 hK hP hD [1] rfl (by decide) rfl rfl) rfl rfl hl.1 rfl (lv_room (Nat.le_of_ble_eq_true rfl)) dX4_canGo_5 ⟨Nat.le_of_ble_eq_true rfl, Nat.le_of_ble_eq_true rfl⟩) hP hD hS hA [1] [0] rfl rfl (by decide) (by decide) (fun r_5 u_5 H locs hw_5 hP hD hS => ?_)
  have hP : va_P D vwCl [(t0, .inr (4, [.ref n0, .ref v1, .ref v2, .ref v3, .ref v4, .ref v5, .ref v6, .int 0])), (n0, .inr (1, [.ref a0, .ref a1, .ref a2, .ref a3, .ref a4, .ref a5, .ref a6, .ref a7, .ref a8, .ref a9, .int 0, .int 0]))] H := hP
  have hD : va_D A [(t0, .inr (4, [.ref n0, .ref v1, .ref v2, .ref v3, .ref v4, .ref v5, .ref v6, .int 0])), (n0, .inr (1, [.ref a0, .ref a1, .ref a2, .ref a3, .ref a4, .ref a5, .ref a6, .ref a7, .ref a8, .ref a9, .int 0, .int 0]))] := hD
  subst hw_5
  refine lv_if_eq (tgt := 33) hx hb dX4_canGo_8 (by decide) (fun c_8 => ?_) (fun c_8 => absurd (by decide) c_8)
  refine lv_iconst (v := 0) hx hb dX4_canGo_33 (by decide) ?_
  exact en_z () hx hb hr hlocks hK (hP.sub [0, 1] rfl) (hD.sub [0, 1] (by decide) rfl) hS (Nat.le_of_ble_eq_true rfl) (Nat.le_of_ble_eq_true rfl) dX4_canGo_34 rfl (rfl)
set_option maxHeartbeats 4000000 in
set_option maxRecDepth 100000 in
theorem c_addEvent (l : Launch) (D : va_G) (cI cZ cR : ClassId) (n0 : Nat) (a0 : Nat) (a1 : Nat) (a2 : Nat) (a3 : Nat) (a4 : Nat) (a5 : Nat) (a6 : Nat) (a7 : Nat) (a8 : Nat) (a9 : Nat) (t1 : Int32) (p1 : Int32) (ht : 0 ≤ t1 ∧ t1 ≤ 15) : CI l D cI cZ cR yX1_addEvent wsX1_addEvent { frames := 0, cells := 0, slots := 0, locals := 0 } [.ref n0, .int t1, .int p1] [(n0, .inr (1, [.ref a0, .ref a1, .ref a2, .ref a3, .ref a4, .ref a5, .ref a6, .ref a7, .ref a8, .ref a9, .int 0, .int 0])), (a0, .inl (cI, 60, .inl (fun _ => 0))), (a1, .inl (cI, 60, .inl (fun _ => 0))), (a2, .inl (cI, 60, .inl (fun _ => 0))), (a3, .inl (cZ, 60, .inl (fun _ => 0))), (a9, .inl (cZ, 16, .inl (fun _ => 0)))] (fun (r : Int32) (u : Unit) => r = 0) (fun (u : Unit) => []) := by
  intro sz
  refine en_W (Qc := fun A => va_Qi (fun (r : Int32) (u : Unit) => r = 0) (sB D cI cZ cR (fun (u : Unit) => []) A) A) (cc := cX1_addEvent) (maxL := 3) (ret := (some .int)) (by decide) rfl (Nat.le_of_ble_eq_true rfl) ?_
  intro p e s m below meth c A ls hx hb hr hts hown hlocks hin hml hK hP hD hS hA hl
  have hown : s.vm.findClass RX1 = some m.cls := hown
  have hl : lv_has ls 3 [(0, .ref n0), (1, .int t1), (2, .int p1)] := hl
  have kw_0 := hts (.fieldLink RX1 9 "DelayDesk$Net" "train" "[I") (by decide +kernel)
  have iX1 : ∀ w ∈ u_ws RX1 TX1 12, w ∈ wsX1_addEvent := by decide +kernel
  have kw_2 := hts (.fieldLink RX1 43 "DelayDesk$Net" "events" "I") (by decide +kernel)
  have kw_3 := hts (.fieldLink RX1 15 "DelayDesk$Net" "plan" "[I") (by decide +kernel)
  have kw_4 := hts (.fieldLink RX1 18 "DelayDesk$Net" "source" "[I") (by decide +kernel)
  have kw_5 := hts (.fieldLink RX1 21 "DelayDesk$Net" "there" "[Z") (by decide +kernel)
  have kw_6 := hts (.fieldLink RX1 40 "DelayDesk$Net" "cancelled" "[Z") (by decide +kernel)
  refine lv_aload_n hx hb dX1_addEvent_0 rfl (lv_at hl 0 rfl) ?_
  refine va_get (D := D) (ci := 1) (v := .ref a0) (C := RX1) (T := TX1) (N := 12) hx hb hts iX1 hown hK.1 hP 0 rfl rfl 0 (by decide) kw_0 (fun _ h9 => h9) rfl dX1_addEvent_1 ?_
  refine lv_aload_n hx hb dX1_addEvent_4 rfl (lv_at hl 0 rfl) ?_
  refine va_get (D := D) (ci := 1) (v := .int 0) (C := RX1) (T := TX1) (N := 12) hx hb hts iX1 hown hK.1 hP 0 rfl rfl 10 (by decide) kw_2 (fun _ h9 => h9) rfl dX1_addEvent_5 ?_
  refine lv_iload_n hx hb dX1_addEvent_8 rfl (lv_at hl 1 rfl) ?_
  refine va_iast hx hb hK.1 hP hD hS 1 0 rfl rfl (by unfold vp_in; decide) dX1_addEvent_9 (fun H locs hP hD hS => ?_)
  have hP : va_P D vwCl [(n0, .inr (1, [.ref a0, .ref a1, .ref a2, .ref a3, .ref a4, .ref a5, .ref a6, .ref a7, .ref a8, .ref a9, .int 0, .int 0])), (a0, .inl (cI, 60, .inl (upd (fun _ => 0) (0 : Int32).toNatClampNeg t1))), (a1, .inl (cI, 60, .inl (fun _ => 0))), (a2, .inl (cI, 60, .inl (fun _ => 0))), (a3, .inl (cZ, 60, .inl (fun _ => 0))), (a9, .inl (cZ, 16, .inl (fun _ => 0)))] H := hP
  have hD : va_D A [(n0, .inr (1, [.ref a0, .ref a1, .ref a2, .ref a3, .ref a4, .ref a5, .ref a6, .ref a7, .ref a8, .ref a9, .int 0, .int 0])), (a0, .inl (cI, 60, .inl (upd (fun _ => 0) (0 : Int32).toNatClampNeg t1))), (a1, .inl (cI, 60, .inl (fun _ => 0))), (a2, .inl (cI, 60, .inl (fun _ => 0))), (a3, .inl (cZ, 60, .inl (fun _ => 0))), (a9, .inl (cZ, 16, .inl (fun _ => 0)))] := hD
  refine lv_aload_n hx hb dX1_addEvent_10 rfl (lv_at hl 0 rfl) ?_
  refine va_get (D := D) (ci := 1) (v := .ref a1) (C := RX1) (T := TX1) (N := 12) hx hb hts iX1 hown hK.1 hP 0 rfl rfl 1 (by decide) kw_3 (fun _ h9 => h9) rfl dX1_addEvent_11 ?_
  refine lv_aload_n hx hb dX1_addEvent_14 rfl (lv_at hl 0 rfl) ?_
  refine va_get (D := D) (ci := 1) (v := .int 0) (C := RX1) (T := TX1) (N := 12) hx hb hts iX1 hown hK.1 hP 0 rfl rfl 10 (by decide) kw_2 (fun _ h9 => h9) rfl dX1_addEvent_15 ?_
  refine lv_iload_n hx hb dX1_addEvent_18 rfl (lv_at hl 2 rfl) ?_
  refine va_iast hx hb hK.1 hP hD hS 2 0 rfl rfl (by unfold vp_in; decide) dX1_addEvent_19 (fun H locs hP hD hS => ?_)
  have hP : va_P D vwCl [(n0, .inr (1, [.ref a0, .ref a1, .ref a2, .ref a3, .ref a4, .ref a5, .ref a6, .ref a7, .ref a8, .ref a9, .int 0, .int 0])), (a0, .inl (cI, 60, .inl (upd (fun _ => 0) (0 : Int32).toNatClampNeg t1))), (a1, .inl (cI, 60, .inl (upd (fun _ => 0) (0 : Int32).toNatClampNeg p1))), (a2, .inl (cI, 60, .inl (fun _ => 0))), (a3, .inl (cZ, 60, .inl (fun _ => 0))), (a9, .inl (cZ, 16, .inl (fun _ => 0)))] H := hP
  have hD : va_D A [(n0, .inr (1, [.ref a0, .ref a1, .ref a2, .ref a3, .ref a4, .ref a5, .ref a6, .ref a7, .ref a8, .ref a9, .int 0, .int 0])), (a0, .inl (cI, 60, .inl (upd (fun _ => 0) (0 : Int32).toNatClampNeg t1))), (a1, .inl (cI, 60, .inl (upd (fun _ => 0) (0 : Int32).toNatClampNeg p1))), (a2, .inl (cI, 60, .inl (fun _ => 0))), (a3, .inl (cZ, 60, .inl (fun _ => 0))), (a9, .inl (cZ, 16, .inl (fun _ => 0)))] := hD
  refine lv_aload_n hx hb dX1_addEvent_20 rfl (lv_at hl 0 rfl) ?_
  refine va_get (D := D) (ci := 1) (v := .ref a2) (C := RX1) (T := TX1) (N := 12) hx hb hts iX1 hown hK.1 hP 0 rfl rfl 2 (by decide) kw_4 (fun _ h9 => h9) rfl dX1_addEvent_21 ?_
  refine lv_aload_n hx hb dX1_addEvent_24 rfl (lv_at hl 0 rfl) ?_
  refine va_get (D := D) (ci := 1) (v := .int 0) (C := RX1) (T := TX1) (N := 12) hx hb hts iX1 hown hK.1 hP 0 rfl rfl 10 (by decide) kw_2 (fun _ h9 => h9) rfl dX1_addEvent_25 ?_
  refine lv_iconst (v := 0) hx hb dX1_addEvent_28 (by decide) ?_
  refine va_iast hx hb hK.1 hP hD hS 3 0 rfl rfl (by unfold vp_in; decide) dX1_addEvent_29 (fun H locs hP hD hS => ?_)
  have hP : va_P D vwCl [(n0, .inr (1, [.ref a0, .ref a1, .ref a2, .ref a3, .ref a4, .ref a5, .ref a6, .ref a7, .ref a8, .ref a9, .int 0, .int 0])), (a0, .inl (cI, 60, .inl (upd (fun _ => 0) (0 : Int32).toNatClampNeg t1))), (a1, .inl (cI, 60, .inl (upd (fun _ => 0) (0 : Int32).toNatClampNeg p1))), (a2, .inl (cI, 60, .inl (upd (fun _ => 0) (0 : Int32).toNatClampNeg 0))), (a3, .inl (cZ, 60, .inl (fun _ => 0))), (a9, .inl (cZ, 16, .inl (fun _ => 0)))] H := hP
  have hD : va_D A [(n0, .inr (1, [.ref a0, .ref a1, .ref a2, .ref a3, .ref a4, .ref a5, .ref a6, .ref a7, .ref a8, .ref a9, .int 0, .int 0])), (a0, .inl (cI, 60, .inl (upd (fun _ => 0) (0 : Int32).toNatClampNeg t1))), (a1, .inl (cI, 60, .inl (upd (fun _ => 0) (0 : Int32).toNatClampNeg p1))), (a2, .inl (cI, 60, .inl (upd (fun _ => 0) (0 : Int32).toNatClampNeg 0))), (a3, .inl (cZ, 60, .inl (fun _ => 0))), (a9, .inl (cZ, 16, .inl (fun _ => 0)))] := hD
  refine lv_aload_n hx hb dX1_addEvent_30 rfl (lv_at hl 0 rfl) ?_
  refine va_get (D := D) (ci := 1) (v := .ref a3) (C := RX1) (T := TX1) (N := 12) hx hb hts iX1 hown hK.1 hP 0 rfl rfl 3 (by decide) kw_5 (fun _ h9 => h9) rfl dX1_addEvent_31 ?_
  refine lv_aload_n hx hb dX1_addEvent_34 rfl (lv_at hl 0 rfl) ?_
  refine va_get (D := D) (ci := 1) (v := .int 0) (C := RX1) (T := TX1) (N := 12) hx hb hts iX1 hown hK.1 hP 0 rfl rfl 10 (by decide) kw_2 (fun _ h9 => h9) rfl dX1_addEvent_35 ?_
  refine lv_aload_n hx hb dX1_addEvent_38 rfl (lv_at hl 0 rfl) ?_
  refine va_get (D := D) (ci := 1) (v := .ref a9) (C := RX1) (T := TX1) (N := 12) hx hb hts iX1 hown hK.1 hP 0 rfl rfl 9 (by decide) kw_6 (fun _ h9 => h9) rfl dX1_addEvent_39 ?_
  refine lv_iload_n hx hb dX1_addEvent_42 rfl (lv_at hl 1 rfl) ?_
  refine va_zald hx hb hK.1 hP 5 1 rfl rfl (in16 ht) dX1_addEvent_43 ?_
  refine W.eq (g2 := F0 m 44 ls [.int 0, .int 0, .ref a3]) rfl ?_
  refine lv_if_ne (tgt := 51) hx hb dX1_addEvent_44 (by decide) (fun c_44 => absurd c_44 (by decide)) (fun c_44 => ?_)
  refine lv_iconst (v := 1) hx hb dX1_addEvent_47 (by decide) ?_
  refine lv_goto (tgt := 52) hx hb dX1_addEvent_48 (by decide) ?_
  refine va_zast hx hb hK.1 hP hD hS 4 1 rfl rfl (by unfold vp_in; decide) dX1_addEvent_52 (fun H locs hP hD hS => ?_)
  have hP : va_P D vwCl [(n0, .inr (1, [.ref a0, .ref a1, .ref a2, .ref a3, .ref a4, .ref a5, .ref a6, .ref a7, .ref a8, .ref a9, .int 0, .int 0])), (a0, .inl (cI, 60, .inl (upd (fun _ => 0) (0 : Int32).toNatClampNeg t1))), (a1, .inl (cI, 60, .inl (upd (fun _ => 0) (0 : Int32).toNatClampNeg p1))), (a2, .inl (cI, 60, .inl (upd (fun _ => 0) (0 : Int32).toNatClampNeg 0))), (a3, .inl (cZ, 60, .inl (upd (fun _ => 0) (0 : Int32).toNatClampNeg (vp_nar .boolean 1)))), (a9, .inl (cZ, 16, .inl (fun _ => 0)))] H := hP
  have hD : va_D A [(n0, .inr (1, [.ref a0, .ref a1, .ref a2, .ref a3, .ref a4, .ref a5, .ref a6, .ref a7, .ref a8, .ref a9, .int 0, .int 0])), (a0, .inl (cI, 60, .inl (upd (fun _ => 0) (0 : Int32).toNatClampNeg t1))), (a1, .inl (cI, 60, .inl (upd (fun _ => 0) (0 : Int32).toNatClampNeg p1))), (a2, .inl (cI, 60, .inl (upd (fun _ => 0) (0 : Int32).toNatClampNeg 0))), (a3, .inl (cZ, 60, .inl (upd (fun _ => 0) (0 : Int32).toNatClampNeg (vp_nar .boolean 1)))), (a9, .inl (cZ, 16, .inl (fun _ => 0)))] := hD
  refine lv_aload_n hx hb dX1_addEvent_53 rfl (lv_at hl 0 rfl) ?_
  refine lv_dup hx hb dX1_addEvent_54 rfl ?_
  refine va_get (D := D) (ci := 1) (v := .int 0) (C := RX1) (T := TX1) (N := 12) hx hb hts iX1 hown hK.1 hP 0 rfl rfl 10 (by decide) kw_2 (fun _ h9 => h9) rfl dX1_addEvent_55 ?_
  refine lv_iconst (v := 1) hx hb dX1_addEvent_58 (by decide) ?_
  refine lv_iadd hx hb dX1_addEvent_59 ?_
  refine W.eq (g2 := F0 m 60 ls [.int 1, .ref n0]) (by congr 2) ?_
  refine va_put (D := D) (ci := 1) (v := .int 1) (ty := .int) (C := RX1) (T := TX1) (N := 12) hx hb hts iX1 tyX1 tyX1_ok nmX1 hown hK.1 hP hD hS 0 rfl rfl 10 (by decide) kw_2 (fun _ h9 => h9) rfl (by decide +kernel) rfl rfl (Nat.le_of_ble_eq_true rfl) dX1_addEvent_60 (fun H locs hP hD hS => ?_)
  have hP : va_P D vwCl [(n0, .inr (1, [.ref a0, .ref a1, .ref a2, .ref a3, .ref a4, .ref a5, .ref a6, .ref a7, .ref a8, .ref a9, .int 1, .int 0])), (a0, .inl (cI, 60, .inl (upd (fun _ => 0) (0 : Int32).toNatClampNeg t1))), (a1, .inl (cI, 60, .inl (upd (fun _ => 0) (0 : Int32).toNatClampNeg p1))), (a2, .inl (cI, 60, .inl (upd (fun _ => 0) (0 : Int32).toNatClampNeg 0))), (a3, .inl (cZ, 60, .inl (upd (fun _ => 0) (0 : Int32).toNatClampNeg (vp_nar .boolean 1)))), (a9, .inl (cZ, 16, .inl (fun _ => 0)))] H := hP
  have hD : va_D A [(n0, .inr (1, [.ref a0, .ref a1, .ref a2, .ref a3, .ref a4, .ref a5, .ref a6, .ref a7, .ref a8, .ref a9, .int 1, .int 0])), (a0, .inl (cI, 60, .inl (upd (fun _ => 0) (0 : Int32).toNatClampNeg t1))), (a1, .inl (cI, 60, .inl (upd (fun _ => 0) (0 : Int32).toNatClampNeg p1))), (a2, .inl (cI, 60, .inl (upd (fun _ => 0) (0 : Int32).toNatClampNeg 0))), (a3, .inl (cZ, 60, .inl (upd (fun _ => 0) (0 : Int32).toNatClampNeg (vp_nar .boolean 1)))), (a9, .inl (cZ, 16, .inl (fun _ => 0)))] := hD
  refine lv_aload_n hx hb dX1_addEvent_63 rfl (lv_at hl 0 rfl) ?_
  refine va_get (D := D) (ci := 1) (v := .int 1) (C := RX1) (T := TX1) (N := 12) hx hb hts iX1 hown hK.1 hP 0 rfl rfl 10 (by decide) kw_2 (fun _ h9 => h9) rfl dX1_addEvent_64 ?_
  refine lv_iconst (v := 1) hx hb dX1_addEvent_67 (by decide) ?_
  refine lv_isub hx hb dX1_addEvent_68 ?_
  refine W.eq (g2 := F0 m 69 ls [.int 0]) (by congr 2) ?_
  exact en_i () hx hb hr hlocks hK (hP.sub [] rfl) (hD.sub [] (by decide) rfl) hS (Nat.le_of_ble_eq_true rfl) (Nat.le_of_ble_eq_true rfl) dX1_addEvent_69 (rfl)
set_option maxHeartbeats 4000000 in
set_option maxRecDepth 100000 in
theorem c_setCancelled (l : Launch) (D : va_G) (cI cZ cR : ClassId) (n0 : Nat) (a0 : Nat) (a1 : Nat) (a2 : Nat) (a3 : Nat) (a4 : Nat) (a5 : Nat) (a6 : Nat) (a7 : Nat) (a8 : Nat) (a9 : Nat) (t1 : Int32) (b1 : Int32) (ht : 0 ≤ t1 ∧ t1 ≤ 15) : CV l D cI cZ cR yX1_setCancelled wsX1_setCancelled { frames := 0, cells := 0, slots := 0, locals := 0 } [.ref n0, .int t1, .int b1] [(n0, .inr (1, [.ref a0, .ref a1, .ref a2, .ref a3, .ref a4, .ref a5, .ref a6, .ref a7, .ref a8, .ref a9, .int 0, .int 0])), (a9, .inl (cZ, 16, .inl (fun _ => 0)))] (fun (u : Unit) => True) (fun (u : Unit) => []) := by
  intro sz
  refine en_W (Qc := fun A => va_Qv (fun (u : Unit) => True) (sB D cI cZ cR (fun (u : Unit) => []) A) A) (cc := cX1_setCancelled) (maxL := 4) (ret := none) (by decide) rfl (Nat.le_of_ble_eq_true rfl) ?_
  intro p e s m below meth c A ls hx hb hr hts hown hlocks hin hml hK hP hD hS hA hl
  have hown : s.vm.findClass RX1 = some m.cls := hown
  have hl : lv_has ls 4 [(0, .ref n0), (1, .int t1), (2, .int b1)] := hl
  have kw_0 := hts (.fieldLink RX1 40 "DelayDesk$Net" "cancelled" "[Z") (by decide +kernel)
  have iX1 : ∀ w ∈ u_ws RX1 TX1 12, w ∈ wsX1_setCancelled := by decide +kernel
  have kw_2 := hts (.fieldLink RX1 43 "DelayDesk$Net" "events" "I") (by decide +kernel)
  refine lv_aload_n hx hb dX1_setCancelled_0 rfl (lv_at hl 0 rfl) ?_
  refine va_get (D := D) (ci := 1) (v := .ref a9) (C := RX1) (T := TX1) (N := 12) hx hb hts iX1 hown hK.1 hP 0 rfl rfl 9 (by decide) kw_0 (fun _ h9 => h9) rfl dX1_setCancelled_1 ?_
  refine lv_iload_n hx hb dX1_setCancelled_4 rfl (lv_at hl 1 rfl) ?_
  refine lv_iload_n hx hb dX1_setCancelled_5 rfl (lv_at hl 2 rfl) ?_
  refine va_zast hx hb hK.1 hP hD hS 1 1 rfl rfl (in16 ht) dX1_setCancelled_6 (fun H locs hP hD hS => ?_)
  have hP : va_P D vwCl [(n0, .inr (1, [.ref a0, .ref a1, .ref a2, .ref a3, .ref a4, .ref a5, .ref a6, .ref a7, .ref a8, .ref a9, .int 0, .int 0])), (a9, .inl (cZ, 16, .inl (upd (fun _ => 0) (t1 : Int32).toNatClampNeg (vp_nar .boolean b1))))] H := hP
  have hD : va_D A [(n0, .inr (1, [.ref a0, .ref a1, .ref a2, .ref a3, .ref a4, .ref a5, .ref a6, .ref a7, .ref a8, .ref a9, .int 0, .int 0])), (a9, .inl (cZ, 16, .inl (upd (fun _ => 0) (t1 : Int32).toNatClampNeg (vp_nar .boolean b1))))] := hD
  refine lv_iconst (v := 0) hx hb dX1_setCancelled_7 (by decide) ?_
  refine lv_istore_n (lv' := [(3, .int 0), (0, .ref n0), (1, .int t1), (2, .int b1)]) hx hb dX1_setCancelled_8 rfl hl (by decide) rfl (fun ls hl => ?_)
  refine lv_iload_n hx hb dX1_setCancelled_9 rfl (lv_at hl 0 rfl) ?_
  refine lv_aload_n hx hb dX1_setCancelled_10 rfl (lv_at hl 1 rfl) ?_
  refine va_get (D := D) (ci := 1) (v := .int 0) (C := RX1) (T := TX1) (N := 12) hx hb hts iX1 hown hK.1 hP 0 rfl rfl 10 (by decide) kw_2 (fun _ h9 => h9) rfl dX1_setCancelled_11 ?_
  refine lv_icmp_ge (tgt := 48) hx hb dX1_setCancelled_14 (by decide) (fun c_14 => ?_) (fun c_14 => absurd (by decide) c_14)
  exact en_v () hx hb hr hlocks hK (hP.sub [] rfl) (hD.sub [] (by decide) rfl) hS (Nat.le_of_ble_eq_true rfl) (Nat.le_of_ble_eq_true rfl) dX1_setCancelled_48 (trivial)
set_option maxHeartbeats 4000000 in
set_option maxRecDepth 100000 in
theorem c_putEarliest (l : Launch) (D : va_G) (cI cZ cR : ClassId) (n0 : Nat) (a0 : Nat) (a1 : Nat) (a2 : Nat) (a3 : Nat) (a4 : Nat) (a5 : Nat) (a6 : Nat) (a7 : Nat) (a8 : Nat) (a9 : Nat) (w0 : Nat) : CV l D cI cZ cR yX1_putEarliest wsX1_putEarliest { frames := 0, cells := 0, slots := 0, locals := 0 } [.ref n0, .ref w0] [(n0, .inr (1, [.ref a0, .ref a1, .ref a2, .ref a3, .ref a4, .ref a5, .ref a6, .ref a7, .ref a8, .ref a9, .int 0, .int 0]))] (fun (u : Unit) => True) (fun (u : Unit) => [(n0, .inr (1, [.ref a0, .ref a1, .ref a2, .ref a3, .ref a4, .ref a5, .ref a6, .ref a7, .ref a8, .ref a9, .int 0, .int 0]))]) := by
  intro sz
  refine en_W (Qc := fun A => va_Qv (fun (u : Unit) => True) (sB D cI cZ cR (fun (u : Unit) => [(n0, .inr (1, [.ref a0, .ref a1, .ref a2, .ref a3, .ref a4, .ref a5, .ref a6, .ref a7, .ref a8, .ref a9, .int 0, .int 0]))]) A) A) (cc := cX1_putEarliest) (maxL := 3) (ret := none) (by decide) rfl (Nat.le_of_ble_eq_true rfl) ?_
  intro p e s m below meth c A ls hx hb hr hts hown hlocks hin hml hK hP hD hS hA hl
  have hown : s.vm.findClass RX1 = some m.cls := hown
  have hl : lv_has ls 3 [(0, .ref n0), (1, .ref w0)] := hl
  have kw_0 := hts (.fieldLink RX1 43 "DelayDesk$Net" "events" "I") (by decide +kernel)
  have iX1 : ∀ w ∈ u_ws RX1 TX1 12, w ∈ wsX1_putEarliest := by decide +kernel
  refine lv_iconst (v := 0) hx hb dX1_putEarliest_0 (by decide) ?_
  refine lv_istore_n (lv' := [(2, .int 0), (0, .ref n0), (1, .ref w0)]) hx hb dX1_putEarliest_1 rfl hl (by decide) rfl (fun ls hl => ?_)
  refine lv_iload_n hx hb dX1_putEarliest_2 rfl (lv_at hl 0 rfl) ?_
  refine lv_aload_n hx hb dX1_putEarliest_3 rfl (lv_at hl 1 rfl) ?_
  refine va_get (D := D) (ci := 1) (v := .int 0) (C := RX1) (T := TX1) (N := 12) hx hb hts iX1 hown hK.1 hP 0 rfl rfl 10 (by decide) kw_0 (fun _ h9 => h9) rfl dX1_putEarliest_4 ?_
  refine lv_icmp_ge (tgt := 32) hx hb dX1_putEarliest_7 (by decide) (fun c_7 => ?_) (fun c_7 => absurd (by decide) c_7)
  exact en_v () hx hb hr hlocks hK (hP.sub [0] rfl) (hD.sub [0] (by decide) rfl) hS (Nat.le_of_ble_eq_true rfl) (Nat.le_of_ble_eq_true rfl) dX1_putEarliest_32 (trivial)
set_option maxHeartbeats 4000000 in
set_option maxRecDepth 100000 in
theorem c_raise (l : Launch) (D : va_G) (cI cZ cR : ClassId) (n0 : Nat) (a0 : Nat) (a1 : Nat) (a2 : Nat) (a3 : Nat) (a4 : Nat) (a5 : Nat) (a6 : Nat) (a7 : Nat) (a8 : Nat) (a9 : Nat) (w0 : Nat) : CI l D cI cZ cR yX1_raise wsX1_raise { frames := 0, cells := 0, slots := 0, locals := 0 } [.ref n0, .ref w0] [(n0, .inr (1, [.ref a0, .ref a1, .ref a2, .ref a3, .ref a4, .ref a5, .ref a6, .ref a7, .ref a8, .ref a9, .int 0, .int 0]))] (fun (r : Int32) (u : Unit) => r = 0) (fun (u : Unit) => [(n0, .inr (1, [.ref a0, .ref a1, .ref a2, .ref a3, .ref a4, .ref a5, .ref a6, .ref a7, .ref a8, .ref a9, .int 0, .int 0]))]) := by
  intro sz
  refine en_W (Qc := fun A => va_Qi (fun (r : Int32) (u : Unit) => r = 0) (sB D cI cZ cR (fun (u : Unit) => [(n0, .inr (1, [.ref a0, .ref a1, .ref a2, .ref a3, .ref a4, .ref a5, .ref a6, .ref a7, .ref a8, .ref a9, .int 0, .int 0]))]) A) A) (cc := cX1_raise) (maxL := 4) (ret := (some .boolean)) (by decide) rfl (Nat.le_of_ble_eq_true rfl) ?_
  intro p e s m below meth c A ls hx hb hr hts hown hlocks hin hml hK hP hD hS hA hl
  have hown : s.vm.findClass RX1 = some m.cls := hown
  have hl : lv_has ls 4 [(0, .ref n0), (1, .ref w0)] := hl
  have kw_0 := hts (.fieldLink RX1 47 "DelayDesk$Net" "activities" "I") (by decide +kernel)
  have iX1 : ∀ w ∈ u_ws RX1 TX1 12, w ∈ wsX1_raise := by decide +kernel
  refine lv_iconst (v := 0) hx hb dX1_raise_0 (by decide) ?_
  refine lv_istore_n (lv' := [(2, .int 0), (0, .ref n0), (1, .ref w0)]) hx hb dX1_raise_1 rfl hl (by decide) rfl (fun ls hl => ?_)
  refine lv_iconst (v := 0) hx hb dX1_raise_2 (by decide) ?_
  refine lv_istore_n (lv' := [(3, .int 0), (2, .int 0), (0, .ref n0), (1, .ref w0)]) hx hb dX1_raise_3 rfl hl (by decide) rfl (fun ls hl => ?_)
  refine lv_iload_n hx hb dX1_raise_4 rfl (lv_at hl 0 rfl) ?_
  refine lv_aload_n hx hb dX1_raise_5 rfl (lv_at hl 2 rfl) ?_
  refine va_get (D := D) (ci := 1) (v := .int 0) (C := RX1) (T := TX1) (N := 12) hx hb hts iX1 hown hK.1 hP 0 rfl rfl 11 (by decide) kw_0 (fun _ h9 => h9) rfl dX1_raise_6 ?_
  refine lv_icmp_ge (tgt := 60) hx hb dX1_raise_9 (by decide) (fun c_9 => ?_) (fun c_9 => absurd (by decide) c_9)
  refine lv_iload_n hx hb dX1_raise_60 rfl (lv_at hl 1 rfl) ?_
  exact en_z () hx hb hr hlocks hK (hP.sub [0] rfl) (hD.sub [0] (by decide) rfl) hS (Nat.le_of_ble_eq_true rfl) (Nat.le_of_ble_eq_true rfl) dX1_raise_61 rfl (rfl)
set_option maxHeartbeats 4000000 in
set_option maxRecDepth 100000 in
theorem c_settle (l : Launch) (D : va_G) (cI cZ cR : ClassId) (n0 : Nat) (a0 : Nat) (a1 : Nat) (a2 : Nat) (a3 : Nat) (a4 : Nat) (a5 : Nat) (a6 : Nat) (a7 : Nat) (a8 : Nat) (a9 : Nat) (w0 : Nat) : CI l D cI cZ cR yX1_settle wsX1_settle { frames := 1, cells := 0, slots := 0, locals := 23 } [.ref n0, .ref w0] [(n0, .inr (1, [.ref a0, .ref a1, .ref a2, .ref a3, .ref a4, .ref a5, .ref a6, .ref a7, .ref a8, .ref a9, .int 0, .int 0]))] (fun (r : Int32) (u : Unit) => r = 1) (fun (u : Unit) => [(n0, .inr (1, [.ref a0, .ref a1, .ref a2, .ref a3, .ref a4, .ref a5, .ref a6, .ref a7, .ref a8, .ref a9, .int 0, .int 0]))]) := by
  intro sz
  refine en_W (Qc := fun A => va_Qi (fun (r : Int32) (u : Unit) => r = 1) (sB D cI cZ cR (fun (u : Unit) => [(n0, .inr (1, [.ref a0, .ref a1, .ref a2, .ref a3, .ref a4, .ref a5, .ref a6, .ref a7, .ref a8, .ref a9, .int 0, .int 0]))]) A) A) (cc := cX1_settle) (maxL := 3) (ret := (some .boolean)) (by decide) rfl (Nat.le_of_ble_eq_true rfl) ?_
  intro p e s m below meth c A ls hx hb hr hts hown hlocks hin hml hK hP hD hS hA hl
  have hown : s.vm.findClass RX1 = some m.cls := hown
  have hl : lv_has ls 3 [(0, .ref n0), (1, .ref w0)] := hl
  have kw_0 := hts (.fieldLink RX1 43 "DelayDesk$Net" "events" "I") (by decide +kernel)
  have iX1 : ∀ w ∈ u_ws RX1 TX1 12, w ∈ wsX1_settle := by decide +kernel
  refine lv_iconst (v := 0) hx hb dX1_settle_0 (by decide) ?_
  refine lv_istore_n (lv' := [(2, .int 0), (0, .ref n0), (1, .ref w0)]) hx hb dX1_settle_1 rfl hl (by decide) rfl (fun ls hl => ?_)
  refine lv_iload_n hx hb dX1_settle_2 rfl (lv_at hl 0 rfl) ?_
  refine lv_aload_n hx hb dX1_settle_3 rfl (lv_at hl 1 rfl) ?_
  refine va_get (D := D) (ci := 1) (v := .int 0) (C := RX1) (T := TX1) (N := 12) hx hb hts iX1 hown hK.1 hP 0 rfl rfl 10 (by decide) kw_0 (fun _ h9 => h9) rfl dX1_settle_4 ?_
  refine lv_icmp_gt (tgt := 26) hx hb dX1_settle_7 (by decide) (fun c_7 => absurd c_7 (by decide)) (fun c_7 => ?_)
  refine lv_aload_n hx hb dX1_settle_10 rfl (lv_at hl 1 rfl) ?_
  refine lv_aload_n hx hb dX1_settle_11 rfl (lv_at hl 2 rfl) ?_
  refine cl_i (wr := []) (va_runV (As := [.ref w0]) (rest := []) ⟨hx, hb, hml, hown, hts⟩ (c_raise l D cI cZ cR n0 a0 a1 a2 a3 a4 a5 a6 a7 a8 a9 w0 s.heap.size) (cwV 1 hts gX1_settle_X1_raise rfl rfl rfl (by decide +kernel) ⟨Nat.le_of_ble_eq_true rfl, Nat.le_of_ble_eq_true rfl⟩) (pV 1 0 hK hP hD [0] rfl (by decide) rfl rfl) rfl rfl hl.1 rfl (lv_room (Nat.le_of_ble_eq_true rfl)) dX1_settle_12 ⟨Nat.le_of_ble_eq_true rfl, Nat.le_of_ble_eq_true rfl⟩) hP hD hS hA [0] [] rfl rfl (by decide) (by decide) (fun r_12 u_12 H locs hw_12 hP hD hS => ?_)
  have hP : va_P D vwCl [(n0, .inr (1, [.ref a0, .ref a1, .ref a2, .ref a3, .ref a4, .ref a5, .ref a6, .ref a7, .ref a8, .ref a9, .int 0, .int 0]))] H := hP
  have hD : va_D A [(n0, .inr (1, [.ref a0, .ref a1, .ref a2, .ref a3, .ref a4, .ref a5, .ref a6, .ref a7, .ref a8, .ref a9, .int 0, .int 0]))] := hD
  subst hw_12
  refine lv_if_ne (tgt := 20) hx hb dX1_settle_15 (by decide) (fun c_15 => absurd c_15 (by decide)) (fun c_15 => ?_)
  refine lv_iconst (v := 1) hx hb dX1_settle_18 (by decide) ?_
  exact en_z () hx hb hr hlocks hK (hP.sub [0] rfl) (hD.sub [0] (by decide) rfl) hS (Nat.le_of_ble_eq_true rfl) (Nat.le_of_ble_eq_true rfl) dX1_settle_19 rfl (rfl)
set_option maxHeartbeats 4000000 in
set_option maxRecDepth 100000 in
theorem c_keptChanges (l : Launch) (D : va_G) (cI cZ cR : ClassId) (n0 : Nat) (a0 : Nat) (a1 : Nat) (a2 : Nat) (a3 : Nat) (a4 : Nat) (a5 : Nat) (a6 : Nat) (a7 : Nat) (a8 : Nat) (a9 : Nat) : CI l D cI cZ cR yX1_keptChanges wsX1_keptChanges { frames := 0, cells := 0, slots := 0, locals := 0 } [.ref n0] [(n0, .inr (1, [.ref a0, .ref a1, .ref a2, .ref a3, .ref a4, .ref a5, .ref a6, .ref a7, .ref a8, .ref a9, .int 0, .int 0]))] (fun (r : Int32) (u : Unit) => r = 0) (fun (u : Unit) => [(n0, .inr (1, [.ref a0, .ref a1, .ref a2, .ref a3, .ref a4, .ref a5, .ref a6, .ref a7, .ref a8, .ref a9, .int 0, .int 0]))]) := by
  intro sz
  refine en_W (Qc := fun A => va_Qi (fun (r : Int32) (u : Unit) => r = 0) (sB D cI cZ cR (fun (u : Unit) => [(n0, .inr (1, [.ref a0, .ref a1, .ref a2, .ref a3, .ref a4, .ref a5, .ref a6, .ref a7, .ref a8, .ref a9, .int 0, .int 0]))]) A) A) (cc := cX1_keptChanges) (maxL := 3) (ret := (some .int)) (by decide) rfl (Nat.le_of_ble_eq_true rfl) ?_
  intro p e s m below meth c A ls hx hb hr hts hown hlocks hin hml hK hP hD hS hA hl
  have hown : s.vm.findClass RX1 = some m.cls := hown
  have hl : lv_has ls 3 [(0, .ref n0)] := hl
  have kw_0 := hts (.fieldLink RX1 47 "DelayDesk$Net" "activities" "I") (by decide +kernel)
  have iX1 : ∀ w ∈ u_ws RX1 TX1 12, w ∈ wsX1_keptChanges := by decide +kernel
  refine lv_iconst (v := 0) hx hb dX1_keptChanges_0 (by decide) ?_
  refine lv_istore_n (lv' := [(1, .int 0), (0, .ref n0)]) hx hb dX1_keptChanges_1 rfl hl (by decide) rfl (fun ls hl => ?_)
  refine lv_iconst (v := 0) hx hb dX1_keptChanges_2 (by decide) ?_
  refine lv_istore_n (lv' := [(2, .int 0), (1, .int 0), (0, .ref n0)]) hx hb dX1_keptChanges_3 rfl hl (by decide) rfl (fun ls hl => ?_)
  refine lv_iload_n hx hb dX1_keptChanges_4 rfl (lv_at hl 0 rfl) ?_
  refine lv_aload_n hx hb dX1_keptChanges_5 rfl (lv_at hl 2 rfl) ?_
  refine va_get (D := D) (ci := 1) (v := .int 0) (C := RX1) (T := TX1) (N := 12) hx hb hts iX1 hown hK.1 hP 0 rfl rfl 11 (by decide) kw_0 (fun _ h9 => h9) rfl dX1_keptChanges_6 ?_
  refine lv_icmp_ge (tgt := 40) hx hb dX1_keptChanges_9 (by decide) (fun c_9 => ?_) (fun c_9 => absurd (by decide) c_9)
  refine lv_iload_n hx hb dX1_keptChanges_40 rfl (lv_at hl 1 rfl) ?_
  exact en_i () hx hb hr hlocks hK (hP.sub [0] rfl) (hD.sub [0] (by decide) rfl) hS (Nat.le_of_ble_eq_true rfl) (Nat.le_of_ble_eq_true rfl) dX1_keptChanges_41 (rfl)
set_option maxHeartbeats 4000000 in
set_option maxRecDepth 100000 in
theorem c_tightActivities (l : Launch) (D : va_G) (cI cZ cR : ClassId) (n0 : Nat) (a0 : Nat) (a1 : Nat) (a2 : Nat) (a3 : Nat) (a4 : Nat) (a5 : Nat) (a6 : Nat) (a7 : Nat) (a8 : Nat) (a9 : Nat) : CI l D cI cZ cR yX1_tightActivities wsX1_tightActivities { frames := 0, cells := 0, slots := 0, locals := 0 } [.ref n0] [(n0, .inr (1, [.ref a0, .ref a1, .ref a2, .ref a3, .ref a4, .ref a5, .ref a6, .ref a7, .ref a8, .ref a9, .int 0, .int 0]))] (fun (r : Int32) (u : Unit) => r = 0) (fun (u : Unit) => [(n0, .inr (1, [.ref a0, .ref a1, .ref a2, .ref a3, .ref a4, .ref a5, .ref a6, .ref a7, .ref a8, .ref a9, .int 0, .int 0]))]) := by
  intro sz
  refine en_W (Qc := fun A => va_Qi (fun (r : Int32) (u : Unit) => r = 0) (sB D cI cZ cR (fun (u : Unit) => [(n0, .inr (1, [.ref a0, .ref a1, .ref a2, .ref a3, .ref a4, .ref a5, .ref a6, .ref a7, .ref a8, .ref a9, .int 0, .int 0]))]) A) A) (cc := cX1_tightActivities) (maxL := 3) (ret := (some .int)) (by decide) rfl (Nat.le_of_ble_eq_true rfl) ?_
  intro p e s m below meth c A ls hx hb hr hts hown hlocks hin hml hK hP hD hS hA hl
  have hown : s.vm.findClass RX1 = some m.cls := hown
  have hl : lv_has ls 3 [(0, .ref n0)] := hl
  have kw_0 := hts (.fieldLink RX1 47 "DelayDesk$Net" "activities" "I") (by decide +kernel)
  have iX1 : ∀ w ∈ u_ws RX1 TX1 12, w ∈ wsX1_tightActivities := by decide +kernel
  refine lv_iconst (v := 0) hx hb dX1_tightActivities_0 (by decide) ?_
  refine lv_istore_n (lv' := [(1, .int 0), (0, .ref n0)]) hx hb dX1_tightActivities_1 rfl hl (by decide) rfl (fun ls hl => ?_)
  refine lv_iconst (v := 0) hx hb dX1_tightActivities_2 (by decide) ?_
  refine lv_istore_n (lv' := [(2, .int 0), (1, .int 0), (0, .ref n0)]) hx hb dX1_tightActivities_3 rfl hl (by decide) rfl (fun ls hl => ?_)
  refine lv_iload_n hx hb dX1_tightActivities_4 rfl (lv_at hl 0 rfl) ?_
  refine lv_aload_n hx hb dX1_tightActivities_5 rfl (lv_at hl 2 rfl) ?_
  refine va_get (D := D) (ci := 1) (v := .int 0) (C := RX1) (T := TX1) (N := 12) hx hb hts iX1 hown hK.1 hP 0 rfl rfl 11 (by decide) kw_0 (fun _ h9 => h9) rfl dX1_tightActivities_6 ?_
  refine lv_icmp_ge (tgt := 29) hx hb dX1_tightActivities_9 (by decide) (fun c_9 => ?_) (fun c_9 => absurd (by decide) c_9)
  refine lv_iload_n hx hb dX1_tightActivities_29 rfl (lv_at hl 1 rfl) ?_
  exact en_i () hx hb hr hlocks hK (hP.sub [0] rfl) (hD.sub [0] (by decide) rfl) hS (Nat.le_of_ble_eq_true rfl) (Nat.le_of_ble_eq_true rfl) dX1_tightActivities_30 (rfl)
set_option maxHeartbeats 4000000 in
set_option maxRecDepth 100000 in
theorem c_cancelledTrains (l : Launch) (D : va_G) (cI cZ cR : ClassId) (n0 : Nat) (a0 : Nat) (a1 : Nat) (a2 : Nat) (a3 : Nat) (a4 : Nat) (a5 : Nat) (a6 : Nat) (a7 : Nat) (a8 : Nat) (a9 : Nat) : CI l D cI cZ cR yX1_cancelledTrains wsX1_cancelledTrains { frames := 0, cells := 0, slots := 0, locals := 0 } [.ref n0] [(n0, .inr (1, [.ref a0, .ref a1, .ref a2, .ref a3, .ref a4, .ref a5, .ref a6, .ref a7, .ref a8, .ref a9, .int 0, .int 0])), (a9, .inl (cZ, 16, .inl (fun _ => 0)))] (fun (r : Int32) (u : Unit) => r = 0) (fun (u : Unit) => []) := by
  intro sz
  refine en_W (Qc := fun A => va_Qi (fun (r : Int32) (u : Unit) => r = 0) (sB D cI cZ cR (fun (u : Unit) => []) A) A) (cc := cX1_cancelledTrains) (maxL := 3) (ret := (some .int)) (by decide) rfl (Nat.le_of_ble_eq_true rfl) ?_
  intro p e s m below meth c A ls hx hb hr hts hown hlocks hin hml hK hP hD hS hA hl
  have hown : s.vm.findClass RX1 = some m.cls := hown
  have hl : lv_has ls 3 [(0, .ref n0)] := hl
  have kw_0 := hts (.fieldLink RX1 40 "DelayDesk$Net" "cancelled" "[Z") (by decide +kernel)
  have iX1 : ∀ w ∈ u_ws RX1 TX1 12, w ∈ wsX1_cancelledTrains := by decide +kernel
  refine lv_iconst (v := 0) hx hb dX1_cancelledTrains_0 (by decide) ?_
  refine lv_istore_n (lv' := [(1, .int 0), (0, .ref n0)]) hx hb dX1_cancelledTrains_1 rfl hl (by decide) rfl (fun ls hl => ?_)
  refine lv_iconst (v := 0) hx hb dX1_cancelledTrains_2 (by decide) ?_
  refine lv_istore_n (lv' := [(2, .int 0), (1, .int 0), (0, .ref n0)]) hx hb dX1_cancelledTrains_3 rfl hl (by decide) rfl (fun ls hl => ?_)
  refine lv_iload_n hx hb dX1_cancelledTrains_4 rfl (lv_at hl 0 rfl) ?_
  refine lv_bipush (v := 16) hx hb dX1_cancelledTrains_5 (by decide) ?_
  refine lv_icmp_ge (tgt := 28) hx hb dX1_cancelledTrains_7 (by decide) (fun c_7 => absurd c_7 (by decide)) (fun c_7 => ?_)
  refine lv_aload_n hx hb dX1_cancelledTrains_10 rfl (lv_at hl 2 rfl) ?_
  refine va_get (D := D) (ci := 1) (v := .ref a9) (C := RX1) (T := TX1) (N := 12) hx hb hts iX1 hown hK.1 hP 0 rfl rfl 9 (by decide) kw_0 (fun _ h9 => h9) rfl dX1_cancelledTrains_11 ?_
  refine lv_iload_n hx hb dX1_cancelledTrains_14 rfl (lv_at hl 0 rfl) ?_
  refine va_zald hx hb hK.1 hP 1 1 rfl rfl (by unfold vp_in; decide) dX1_cancelledTrains_15 ?_
  refine W.eq (g2 := F0 m 16 ls [.int 0]) rfl ?_
  refine lv_if_eq (tgt := 22) hx hb dX1_cancelledTrains_16 (by decide) (fun c_16 => ?_) (fun c_16 => absurd (by decide) c_16)
  refine lv_iinc (v := 1) (lv' := [(2, .int 1), (1, .int 0), (0, .ref n0)]) hx hb dX1_cancelledTrains_22 hl (k := 0) rfl (by decide) (by decide) rfl (fun ls hl => ?_)
  refine lv_goto (tgt := 4) hx hb dX1_cancelledTrains_25 (by decide) ?_
  refine lv_iload_n hx hb dX1_cancelledTrains_4 rfl (lv_at hl 0 rfl) ?_
  refine lv_bipush (v := 16) hx hb dX1_cancelledTrains_5 (by decide) ?_
  refine lv_icmp_ge (tgt := 28) hx hb dX1_cancelledTrains_7 (by decide) (fun c_7 => absurd c_7 (by decide)) (fun c_7 => ?_)
  refine lv_aload_n hx hb dX1_cancelledTrains_10 rfl (lv_at hl 2 rfl) ?_
  refine va_get (D := D) (ci := 1) (v := .ref a9) (C := RX1) (T := TX1) (N := 12) hx hb hts iX1 hown hK.1 hP 0 rfl rfl 9 (by decide) kw_0 (fun _ h9 => h9) rfl dX1_cancelledTrains_11 ?_
  refine lv_iload_n hx hb dX1_cancelledTrains_14 rfl (lv_at hl 0 rfl) ?_
  refine va_zald hx hb hK.1 hP 1 1 rfl rfl (by unfold vp_in; decide) dX1_cancelledTrains_15 ?_
  refine W.eq (g2 := F0 m 16 ls [.int 0]) rfl ?_
  refine lv_if_eq (tgt := 22) hx hb dX1_cancelledTrains_16 (by decide) (fun c_16 => ?_) (fun c_16 => absurd (by decide) c_16)
  refine lv_iinc (v := 2) (lv' := [(2, .int 2), (1, .int 0), (0, .ref n0)]) hx hb dX1_cancelledTrains_22 hl (k := 0) rfl (by decide) (by decide) rfl (fun ls hl => ?_)
  refine lv_goto (tgt := 4) hx hb dX1_cancelledTrains_25 (by decide) ?_
  refine lv_iload_n hx hb dX1_cancelledTrains_4 rfl (lv_at hl 0 rfl) ?_
  refine lv_bipush (v := 16) hx hb dX1_cancelledTrains_5 (by decide) ?_
  refine lv_icmp_ge (tgt := 28) hx hb dX1_cancelledTrains_7 (by decide) (fun c_7 => absurd c_7 (by decide)) (fun c_7 => ?_)
  refine lv_aload_n hx hb dX1_cancelledTrains_10 rfl (lv_at hl 2 rfl) ?_
  refine va_get (D := D) (ci := 1) (v := .ref a9) (C := RX1) (T := TX1) (N := 12) hx hb hts iX1 hown hK.1 hP 0 rfl rfl 9 (by decide) kw_0 (fun _ h9 => h9) rfl dX1_cancelledTrains_11 ?_
  refine lv_iload_n hx hb dX1_cancelledTrains_14 rfl (lv_at hl 0 rfl) ?_
  refine va_zald hx hb hK.1 hP 1 1 rfl rfl (by unfold vp_in; decide) dX1_cancelledTrains_15 ?_
  refine W.eq (g2 := F0 m 16 ls [.int 0]) rfl ?_
  refine lv_if_eq (tgt := 22) hx hb dX1_cancelledTrains_16 (by decide) (fun c_16 => ?_) (fun c_16 => absurd (by decide) c_16)
  refine lv_iinc (v := 3) (lv' := [(2, .int 3), (1, .int 0), (0, .ref n0)]) hx hb dX1_cancelledTrains_22 hl (k := 0) rfl (by decide) (by decide) rfl (fun ls hl => ?_)
  refine lv_goto (tgt := 4) hx hb dX1_cancelledTrains_25 (by decide) ?_
  refine lv_iload_n hx hb dX1_cancelledTrains_4 rfl (lv_at hl 0 rfl) ?_
  refine lv_bipush (v := 16) hx hb dX1_cancelledTrains_5 (by decide) ?_
  refine lv_icmp_ge (tgt := 28) hx hb dX1_cancelledTrains_7 (by decide) (fun c_7 => absurd c_7 (by decide)) (fun c_7 => ?_)
  refine lv_aload_n hx hb dX1_cancelledTrains_10 rfl (lv_at hl 2 rfl) ?_
  refine va_get (D := D) (ci := 1) (v := .ref a9) (C := RX1) (T := TX1) (N := 12) hx hb hts iX1 hown hK.1 hP 0 rfl rfl 9 (by decide) kw_0 (fun _ h9 => h9) rfl dX1_cancelledTrains_11 ?_
  refine lv_iload_n hx hb dX1_cancelledTrains_14 rfl (lv_at hl 0 rfl) ?_
  refine va_zald hx hb hK.1 hP 1 1 rfl rfl (by unfold vp_in; decide) dX1_cancelledTrains_15 ?_
  refine W.eq (g2 := F0 m 16 ls [.int 0]) rfl ?_
  refine lv_if_eq (tgt := 22) hx hb dX1_cancelledTrains_16 (by decide) (fun c_16 => ?_) (fun c_16 => absurd (by decide) c_16)
  refine lv_iinc (v := 4) (lv' := [(2, .int 4), (1, .int 0), (0, .ref n0)]) hx hb dX1_cancelledTrains_22 hl (k := 0) rfl (by decide) (by decide) rfl (fun ls hl => ?_)
  refine lv_goto (tgt := 4) hx hb dX1_cancelledTrains_25 (by decide) ?_
  refine lv_iload_n hx hb dX1_cancelledTrains_4 rfl (lv_at hl 0 rfl) ?_
  refine lv_bipush (v := 16) hx hb dX1_cancelledTrains_5 (by decide) ?_
  refine lv_icmp_ge (tgt := 28) hx hb dX1_cancelledTrains_7 (by decide) (fun c_7 => absurd c_7 (by decide)) (fun c_7 => ?_)
  refine lv_aload_n hx hb dX1_cancelledTrains_10 rfl (lv_at hl 2 rfl) ?_
  refine va_get (D := D) (ci := 1) (v := .ref a9) (C := RX1) (T := TX1) (N := 12) hx hb hts iX1 hown hK.1 hP 0 rfl rfl 9 (by decide) kw_0 (fun _ h9 => h9) rfl dX1_cancelledTrains_11 ?_
  refine lv_iload_n hx hb dX1_cancelledTrains_14 rfl (lv_at hl 0 rfl) ?_
  refine va_zald hx hb hK.1 hP 1 1 rfl rfl (by unfold vp_in; decide) dX1_cancelledTrains_15 ?_
  refine W.eq (g2 := F0 m 16 ls [.int 0]) rfl ?_
  refine lv_if_eq (tgt := 22) hx hb dX1_cancelledTrains_16 (by decide) (fun c_16 => ?_) (fun c_16 => absurd (by decide) c_16)
  refine lv_iinc (v := 5) (lv' := [(2, .int 5), (1, .int 0), (0, .ref n0)]) hx hb dX1_cancelledTrains_22 hl (k := 0) rfl (by decide) (by decide) rfl (fun ls hl => ?_)
  refine lv_goto (tgt := 4) hx hb dX1_cancelledTrains_25 (by decide) ?_
  refine lv_iload_n hx hb dX1_cancelledTrains_4 rfl (lv_at hl 0 rfl) ?_
  refine lv_bipush (v := 16) hx hb dX1_cancelledTrains_5 (by decide) ?_
  refine lv_icmp_ge (tgt := 28) hx hb dX1_cancelledTrains_7 (by decide) (fun c_7 => absurd c_7 (by decide)) (fun c_7 => ?_)
  refine lv_aload_n hx hb dX1_cancelledTrains_10 rfl (lv_at hl 2 rfl) ?_
  refine va_get (D := D) (ci := 1) (v := .ref a9) (C := RX1) (T := TX1) (N := 12) hx hb hts iX1 hown hK.1 hP 0 rfl rfl 9 (by decide) kw_0 (fun _ h9 => h9) rfl dX1_cancelledTrains_11 ?_
  refine lv_iload_n hx hb dX1_cancelledTrains_14 rfl (lv_at hl 0 rfl) ?_
  refine va_zald hx hb hK.1 hP 1 1 rfl rfl (by unfold vp_in; decide) dX1_cancelledTrains_15 ?_
  refine W.eq (g2 := F0 m 16 ls [.int 0]) rfl ?_
  refine lv_if_eq (tgt := 22) hx hb dX1_cancelledTrains_16 (by decide) (fun c_16 => ?_) (fun c_16 => absurd (by decide) c_16)
  refine lv_iinc (v := 6) (lv' := [(2, .int 6), (1, .int 0), (0, .ref n0)]) hx hb dX1_cancelledTrains_22 hl (k := 0) rfl (by decide) (by decide) rfl (fun ls hl => ?_)
  refine lv_goto (tgt := 4) hx hb dX1_cancelledTrains_25 (by decide) ?_
  refine lv_iload_n hx hb dX1_cancelledTrains_4 rfl (lv_at hl 0 rfl) ?_
  refine lv_bipush (v := 16) hx hb dX1_cancelledTrains_5 (by decide) ?_
  refine lv_icmp_ge (tgt := 28) hx hb dX1_cancelledTrains_7 (by decide) (fun c_7 => absurd c_7 (by decide)) (fun c_7 => ?_)
  refine lv_aload_n hx hb dX1_cancelledTrains_10 rfl (lv_at hl 2 rfl) ?_
  refine va_get (D := D) (ci := 1) (v := .ref a9) (C := RX1) (T := TX1) (N := 12) hx hb hts iX1 hown hK.1 hP 0 rfl rfl 9 (by decide) kw_0 (fun _ h9 => h9) rfl dX1_cancelledTrains_11 ?_
  refine lv_iload_n hx hb dX1_cancelledTrains_14 rfl (lv_at hl 0 rfl) ?_
  refine va_zald hx hb hK.1 hP 1 1 rfl rfl (by unfold vp_in; decide) dX1_cancelledTrains_15 ?_
  refine W.eq (g2 := F0 m 16 ls [.int 0]) rfl ?_
  refine lv_if_eq (tgt := 22) hx hb dX1_cancelledTrains_16 (by decide) (fun c_16 => ?_) (fun c_16 => absurd (by decide) c_16)
  refine lv_iinc (v := 7) (lv' := [(2, .int 7), (1, .int 0), (0, .ref n0)]) hx hb dX1_cancelledTrains_22 hl (k := 0) rfl (by decide) (by decide) rfl (fun ls hl => ?_)
  refine lv_goto (tgt := 4) hx hb dX1_cancelledTrains_25 (by decide) ?_
  refine lv_iload_n hx hb dX1_cancelledTrains_4 rfl (lv_at hl 0 rfl) ?_
  refine lv_bipush (v := 16) hx hb dX1_cancelledTrains_5 (by decide) ?_
  refine lv_icmp_ge (tgt := 28) hx hb dX1_cancelledTrains_7 (by decide) (fun c_7 => absurd c_7 (by decide)) (fun c_7 => ?_)
  refine lv_aload_n hx hb dX1_cancelledTrains_10 rfl (lv_at hl 2 rfl) ?_
  refine va_get (D := D) (ci := 1) (v := .ref a9) (C := RX1) (T := TX1) (N := 12) hx hb hts iX1 hown hK.1 hP 0 rfl rfl 9 (by decide) kw_0 (fun _ h9 => h9) rfl dX1_cancelledTrains_11 ?_
  refine lv_iload_n hx hb dX1_cancelledTrains_14 rfl (lv_at hl 0 rfl) ?_
  refine va_zald hx hb hK.1 hP 1 1 rfl rfl (by unfold vp_in; decide) dX1_cancelledTrains_15 ?_
  refine W.eq (g2 := F0 m 16 ls [.int 0]) rfl ?_
  refine lv_if_eq (tgt := 22) hx hb dX1_cancelledTrains_16 (by decide) (fun c_16 => ?_) (fun c_16 => absurd (by decide) c_16)
  refine lv_iinc (v := 8) (lv' := [(2, .int 8), (1, .int 0), (0, .ref n0)]) hx hb dX1_cancelledTrains_22 hl (k := 0) rfl (by decide) (by decide) rfl (fun ls hl => ?_)
  refine lv_goto (tgt := 4) hx hb dX1_cancelledTrains_25 (by decide) ?_
  refine lv_iload_n hx hb dX1_cancelledTrains_4 rfl (lv_at hl 0 rfl) ?_
  refine lv_bipush (v := 16) hx hb dX1_cancelledTrains_5 (by decide) ?_
  refine lv_icmp_ge (tgt := 28) hx hb dX1_cancelledTrains_7 (by decide) (fun c_7 => absurd c_7 (by decide)) (fun c_7 => ?_)
  refine lv_aload_n hx hb dX1_cancelledTrains_10 rfl (lv_at hl 2 rfl) ?_
  refine va_get (D := D) (ci := 1) (v := .ref a9) (C := RX1) (T := TX1) (N := 12) hx hb hts iX1 hown hK.1 hP 0 rfl rfl 9 (by decide) kw_0 (fun _ h9 => h9) rfl dX1_cancelledTrains_11 ?_
  refine lv_iload_n hx hb dX1_cancelledTrains_14 rfl (lv_at hl 0 rfl) ?_
  refine va_zald hx hb hK.1 hP 1 1 rfl rfl (by unfold vp_in; decide) dX1_cancelledTrains_15 ?_
  refine W.eq (g2 := F0 m 16 ls [.int 0]) rfl ?_
  refine lv_if_eq (tgt := 22) hx hb dX1_cancelledTrains_16 (by decide) (fun c_16 => ?_) (fun c_16 => absurd (by decide) c_16)
  refine lv_iinc (v := 9) (lv' := [(2, .int 9), (1, .int 0), (0, .ref n0)]) hx hb dX1_cancelledTrains_22 hl (k := 0) rfl (by decide) (by decide) rfl (fun ls hl => ?_)
  refine lv_goto (tgt := 4) hx hb dX1_cancelledTrains_25 (by decide) ?_
  refine lv_iload_n hx hb dX1_cancelledTrains_4 rfl (lv_at hl 0 rfl) ?_
  refine lv_bipush (v := 16) hx hb dX1_cancelledTrains_5 (by decide) ?_
  refine lv_icmp_ge (tgt := 28) hx hb dX1_cancelledTrains_7 (by decide) (fun c_7 => absurd c_7 (by decide)) (fun c_7 => ?_)
  refine lv_aload_n hx hb dX1_cancelledTrains_10 rfl (lv_at hl 2 rfl) ?_
  refine va_get (D := D) (ci := 1) (v := .ref a9) (C := RX1) (T := TX1) (N := 12) hx hb hts iX1 hown hK.1 hP 0 rfl rfl 9 (by decide) kw_0 (fun _ h9 => h9) rfl dX1_cancelledTrains_11 ?_
  refine lv_iload_n hx hb dX1_cancelledTrains_14 rfl (lv_at hl 0 rfl) ?_
  refine va_zald hx hb hK.1 hP 1 1 rfl rfl (by unfold vp_in; decide) dX1_cancelledTrains_15 ?_
  refine W.eq (g2 := F0 m 16 ls [.int 0]) rfl ?_
  refine lv_if_eq (tgt := 22) hx hb dX1_cancelledTrains_16 (by decide) (fun c_16 => ?_) (fun c_16 => absurd (by decide) c_16)
  refine lv_iinc (v := 10) (lv' := [(2, .int 10), (1, .int 0), (0, .ref n0)]) hx hb dX1_cancelledTrains_22 hl (k := 0) rfl (by decide) (by decide) rfl (fun ls hl => ?_)
  refine lv_goto (tgt := 4) hx hb dX1_cancelledTrains_25 (by decide) ?_
  refine lv_iload_n hx hb dX1_cancelledTrains_4 rfl (lv_at hl 0 rfl) ?_
  refine lv_bipush (v := 16) hx hb dX1_cancelledTrains_5 (by decide) ?_
  refine lv_icmp_ge (tgt := 28) hx hb dX1_cancelledTrains_7 (by decide) (fun c_7 => absurd c_7 (by decide)) (fun c_7 => ?_)
  refine lv_aload_n hx hb dX1_cancelledTrains_10 rfl (lv_at hl 2 rfl) ?_
  refine va_get (D := D) (ci := 1) (v := .ref a9) (C := RX1) (T := TX1) (N := 12) hx hb hts iX1 hown hK.1 hP 0 rfl rfl 9 (by decide) kw_0 (fun _ h9 => h9) rfl dX1_cancelledTrains_11 ?_
  refine lv_iload_n hx hb dX1_cancelledTrains_14 rfl (lv_at hl 0 rfl) ?_
  refine va_zald hx hb hK.1 hP 1 1 rfl rfl (by unfold vp_in; decide) dX1_cancelledTrains_15 ?_
  refine W.eq (g2 := F0 m 16 ls [.int 0]) rfl ?_
  refine lv_if_eq (tgt := 22) hx hb dX1_cancelledTrains_16 (by decide) (fun c_16 => ?_) (fun c_16 => absurd (by decide) c_16)
  refine lv_iinc (v := 11) (lv' := [(2, .int 11), (1, .int 0), (0, .ref n0)]) hx hb dX1_cancelledTrains_22 hl (k := 0) rfl (by decide) (by decide) rfl (fun ls hl => ?_)
  refine lv_goto (tgt := 4) hx hb dX1_cancelledTrains_25 (by decide) ?_
  refine lv_iload_n hx hb dX1_cancelledTrains_4 rfl (lv_at hl 0 rfl) ?_
  refine lv_bipush (v := 16) hx hb dX1_cancelledTrains_5 (by decide) ?_
  refine lv_icmp_ge (tgt := 28) hx hb dX1_cancelledTrains_7 (by decide) (fun c_7 => absurd c_7 (by decide)) (fun c_7 => ?_)
  refine lv_aload_n hx hb dX1_cancelledTrains_10 rfl (lv_at hl 2 rfl) ?_
  refine va_get (D := D) (ci := 1) (v := .ref a9) (C := RX1) (T := TX1) (N := 12) hx hb hts iX1 hown hK.1 hP 0 rfl rfl 9 (by decide) kw_0 (fun _ h9 => h9) rfl dX1_cancelledTrains_11 ?_
  refine lv_iload_n hx hb dX1_cancelledTrains_14 rfl (lv_at hl 0 rfl) ?_
  refine va_zald hx hb hK.1 hP 1 1 rfl rfl (by unfold vp_in; decide) dX1_cancelledTrains_15 ?_
  refine W.eq (g2 := F0 m 16 ls [.int 0]) rfl ?_
  refine lv_if_eq (tgt := 22) hx hb dX1_cancelledTrains_16 (by decide) (fun c_16 => ?_) (fun c_16 => absurd (by decide) c_16)
  refine lv_iinc (v := 12) (lv' := [(2, .int 12), (1, .int 0), (0, .ref n0)]) hx hb dX1_cancelledTrains_22 hl (k := 0) rfl (by decide) (by decide) rfl (fun ls hl => ?_)
  refine lv_goto (tgt := 4) hx hb dX1_cancelledTrains_25 (by decide) ?_
  refine lv_iload_n hx hb dX1_cancelledTrains_4 rfl (lv_at hl 0 rfl) ?_
  refine lv_bipush (v := 16) hx hb dX1_cancelledTrains_5 (by decide) ?_
  refine lv_icmp_ge (tgt := 28) hx hb dX1_cancelledTrains_7 (by decide) (fun c_7 => absurd c_7 (by decide)) (fun c_7 => ?_)
  refine lv_aload_n hx hb dX1_cancelledTrains_10 rfl (lv_at hl 2 rfl) ?_
  refine va_get (D := D) (ci := 1) (v := .ref a9) (C := RX1) (T := TX1) (N := 12) hx hb hts iX1 hown hK.1 hP 0 rfl rfl 9 (by decide) kw_0 (fun _ h9 => h9) rfl dX1_cancelledTrains_11 ?_
  refine lv_iload_n hx hb dX1_cancelledTrains_14 rfl (lv_at hl 0 rfl) ?_
  refine va_zald hx hb hK.1 hP 1 1 rfl rfl (by unfold vp_in; decide) dX1_cancelledTrains_15 ?_
  refine W.eq (g2 := F0 m 16 ls [.int 0]) rfl ?_
  refine lv_if_eq (tgt := 22) hx hb dX1_cancelledTrains_16 (by decide) (fun c_16 => ?_) (fun c_16 => absurd (by decide) c_16)
  refine lv_iinc (v := 13) (lv' := [(2, .int 13), (1, .int 0), (0, .ref n0)]) hx hb dX1_cancelledTrains_22 hl (k := 0) rfl (by decide) (by decide) rfl (fun ls hl => ?_)
  refine lv_goto (tgt := 4) hx hb dX1_cancelledTrains_25 (by decide) ?_
  refine lv_iload_n hx hb dX1_cancelledTrains_4 rfl (lv_at hl 0 rfl) ?_
  refine lv_bipush (v := 16) hx hb dX1_cancelledTrains_5 (by decide) ?_
  refine lv_icmp_ge (tgt := 28) hx hb dX1_cancelledTrains_7 (by decide) (fun c_7 => absurd c_7 (by decide)) (fun c_7 => ?_)
  refine lv_aload_n hx hb dX1_cancelledTrains_10 rfl (lv_at hl 2 rfl) ?_
  refine va_get (D := D) (ci := 1) (v := .ref a9) (C := RX1) (T := TX1) (N := 12) hx hb hts iX1 hown hK.1 hP 0 rfl rfl 9 (by decide) kw_0 (fun _ h9 => h9) rfl dX1_cancelledTrains_11 ?_
  refine lv_iload_n hx hb dX1_cancelledTrains_14 rfl (lv_at hl 0 rfl) ?_
  refine va_zald hx hb hK.1 hP 1 1 rfl rfl (by unfold vp_in; decide) dX1_cancelledTrains_15 ?_
  refine W.eq (g2 := F0 m 16 ls [.int 0]) rfl ?_
  refine lv_if_eq (tgt := 22) hx hb dX1_cancelledTrains_16 (by decide) (fun c_16 => ?_) (fun c_16 => absurd (by decide) c_16)
  refine lv_iinc (v := 14) (lv' := [(2, .int 14), (1, .int 0), (0, .ref n0)]) hx hb dX1_cancelledTrains_22 hl (k := 0) rfl (by decide) (by decide) rfl (fun ls hl => ?_)
  refine lv_goto (tgt := 4) hx hb dX1_cancelledTrains_25 (by decide) ?_
  refine lv_iload_n hx hb dX1_cancelledTrains_4 rfl (lv_at hl 0 rfl) ?_
  refine lv_bipush (v := 16) hx hb dX1_cancelledTrains_5 (by decide) ?_
  refine lv_icmp_ge (tgt := 28) hx hb dX1_cancelledTrains_7 (by decide) (fun c_7 => absurd c_7 (by decide)) (fun c_7 => ?_)
  refine lv_aload_n hx hb dX1_cancelledTrains_10 rfl (lv_at hl 2 rfl) ?_
  refine va_get (D := D) (ci := 1) (v := .ref a9) (C := RX1) (T := TX1) (N := 12) hx hb hts iX1 hown hK.1 hP 0 rfl rfl 9 (by decide) kw_0 (fun _ h9 => h9) rfl dX1_cancelledTrains_11 ?_
  refine lv_iload_n hx hb dX1_cancelledTrains_14 rfl (lv_at hl 0 rfl) ?_
  refine va_zald hx hb hK.1 hP 1 1 rfl rfl (by unfold vp_in; decide) dX1_cancelledTrains_15 ?_
  refine W.eq (g2 := F0 m 16 ls [.int 0]) rfl ?_
  refine lv_if_eq (tgt := 22) hx hb dX1_cancelledTrains_16 (by decide) (fun c_16 => ?_) (fun c_16 => absurd (by decide) c_16)
  refine lv_iinc (v := 15) (lv' := [(2, .int 15), (1, .int 0), (0, .ref n0)]) hx hb dX1_cancelledTrains_22 hl (k := 0) rfl (by decide) (by decide) rfl (fun ls hl => ?_)
  refine lv_goto (tgt := 4) hx hb dX1_cancelledTrains_25 (by decide) ?_
  refine lv_iload_n hx hb dX1_cancelledTrains_4 rfl (lv_at hl 0 rfl) ?_
  refine lv_bipush (v := 16) hx hb dX1_cancelledTrains_5 (by decide) ?_
  refine lv_icmp_ge (tgt := 28) hx hb dX1_cancelledTrains_7 (by decide) (fun c_7 => absurd c_7 (by decide)) (fun c_7 => ?_)
  refine lv_aload_n hx hb dX1_cancelledTrains_10 rfl (lv_at hl 2 rfl) ?_
  refine va_get (D := D) (ci := 1) (v := .ref a9) (C := RX1) (T := TX1) (N := 12) hx hb hts iX1 hown hK.1 hP 0 rfl rfl 9 (by decide) kw_0 (fun _ h9 => h9) rfl dX1_cancelledTrains_11 ?_
  refine lv_iload_n hx hb dX1_cancelledTrains_14 rfl (lv_at hl 0 rfl) ?_
  refine va_zald hx hb hK.1 hP 1 1 rfl rfl (by unfold vp_in; decide) dX1_cancelledTrains_15 ?_
  refine W.eq (g2 := F0 m 16 ls [.int 0]) rfl ?_
  refine lv_if_eq (tgt := 22) hx hb dX1_cancelledTrains_16 (by decide) (fun c_16 => ?_) (fun c_16 => absurd (by decide) c_16)
  refine lv_iinc (v := 16) (lv' := [(2, .int 16), (1, .int 0), (0, .ref n0)]) hx hb dX1_cancelledTrains_22 hl (k := 0) rfl (by decide) (by decide) rfl (fun ls hl => ?_)
  refine lv_goto (tgt := 4) hx hb dX1_cancelledTrains_25 (by decide) ?_
  refine lv_iload_n hx hb dX1_cancelledTrains_4 rfl (lv_at hl 0 rfl) ?_
  refine lv_bipush (v := 16) hx hb dX1_cancelledTrains_5 (by decide) ?_
  refine lv_icmp_ge (tgt := 28) hx hb dX1_cancelledTrains_7 (by decide) (fun c_7 => ?_) (fun c_7 => absurd (by decide) c_7)
  refine lv_iload_n hx hb dX1_cancelledTrains_28 rfl (lv_at hl 1 rfl) ?_
  exact en_i () hx hb hr hlocks hK (hP.sub [] rfl) (hD.sub [] (by decide) rfl) hS (Nat.le_of_ble_eq_true rfl) (Nat.le_of_ble_eq_true rfl) dX1_cancelledTrains_29 (rfl)
set_option maxHeartbeats 4000000 in
set_option maxRecDepth 100000 in
theorem c_sum (l : Launch) (D : va_G) (cI cZ cR : ClassId) (t0 : Nat) (v1 : Nat) (v2 : Nat) (v3 : Nat) (v4 : Nat) (v5 : Nat) (v6 : Nat) (n0 : Nat) (w0 : Nat) : CL l D cI cZ cR yX4_sum wsX4_sum { frames := 0, cells := 0, slots := 0, locals := 0 } [.ref t0, .ref w0] [(t0, .inr (4, [.ref n0, .ref v1, .ref v2, .ref v3, .ref v4, .ref v5, .ref v6, .int 0]))] (fun (r : Int64) (u : Unit) => r = 0) (fun (u : Unit) => [(t0, .inr (4, [.ref n0, .ref v1, .ref v2, .ref v3, .ref v4, .ref v5, .ref v6, .int 0]))]) := by
  intro sz
  refine en_W (Qc := fun A => va_Ql (fun (r : Int64) (u : Unit) => r = 0) (sB D cI cZ cR (fun (u : Unit) => [(t0, .inr (4, [.ref n0, .ref v1, .ref v2, .ref v3, .ref v4, .ref v5, .ref v6, .int 0]))]) A) A) (cc := cX4_sum) (maxL := 5) (ret := (some .long)) (by decide) rfl (Nat.le_of_ble_eq_true rfl) ?_
  intro p e s m below meth c A ls hx hb hr hts hown hlocks hin hml hK hP hD hS hA hl
  have hown : s.vm.findClass RX4 = some m.cls := hown
  have hl : lv_has ls 5 [(0, .ref t0), (1, .ref w0)] := hl
  have kw_0 := hts (.fieldLink RX4 30 "DelayDesk$Travellers" "groups" "I") (by decide +kernel)
  have iX4 : ∀ w ∈ u_ws RX4 TX4 8, w ∈ wsX4_sum := by decide +kernel
  refine lv_lconst (v := 0) hx hb dX4_sum_0 (by decide) ?_
  refine lv_lstore_n (lv' := [(2, .long 0), (0, .ref t0), (1, .ref w0)]) hx hb dX4_sum_1 rfl hl (by decide) rfl (fun ls hl => ?_)
  refine lv_iconst (v := 0) hx hb dX4_sum_2 (by decide) ?_
  refine lv_istore (lv' := [(4, .int 0), (2, .long 0), (0, .ref t0), (1, .ref w0)]) hx hb dX4_sum_3 hl (by decide) rfl (fun ls hl => ?_)
  refine lv_iload hx hb dX4_sum_5 (lv_at hl 0 rfl) ?_
  refine lv_aload_n hx hb dX4_sum_7 rfl (lv_at hl 2 rfl) ?_
  refine va_get (D := D) (ci := 4) (v := .int 0) (C := RX4) (T := TX4) (N := 8) hx hb hts iX4 hown hK.1 hP 0 rfl rfl 7 (by decide) kw_0 (fun _ h9 => h9) rfl dX4_sum_8 ?_
  refine lv_icmp_ge (tgt := 40) hx hb dX4_sum_11 (by decide) (fun c_11 => ?_) (fun c_11 => absurd (by decide) c_11)
  refine lv_lload_n hx hb dX4_sum_40 rfl (lv_at hl 1 rfl) ?_
  exact en_l () hx hb hr hlocks hK (hP.sub [0] rfl) (hD.sub [0] (by decide) rfl) hS (Nat.le_of_ble_eq_true rfl) (Nat.le_of_ble_eq_true rfl) dX4_sum_41 (rfl)
