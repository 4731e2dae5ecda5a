set_option maxHeartbeats 4000000 in
set_option maxRecDepth 100000 in
theorem c_knowSpread (l : Launch) (D : va_G) (cI cZ cR : ClassId) (x0 : Nat) (n0 : Nat) (t0 : Nat) (g0 : Nat) (k0 : Nat) (u0 : Nat) (m0 : Nat) (s0 : Nat) (a0 : Nat) (a1 : Nat) (a2 : Nat) (a3 : Nat) (a4 : Nat) (a5 : Nat) (a6 : Nat) (a7 : Nat) (a8 : Nat) (a9 : Nat) : CI l D cI cZ cR yX5_knowSpread wsX5_knowSpread { frames := 2, cells := 0, slots := 0, locals := 45 } [.ref x0] [(x0, .inr (5, [.ref n0, .ref t0, .ref g0, .ref k0, .ref u0, .ref m0, .ref s0, .int 0, .int 0, .int 0])), (n0, .inr (1, [.ref a0, .ref a1, .ref a2, .ref a3, .ref a4, .ref a5, .ref a6, .ref a7, .ref a8, .ref a9, .int 0, .int 0]))] (fun (r : Int32) (u : Unit) => r = 1) (fun (u : Unit) => [(x0, .inr (5, [.ref n0, .ref t0, .ref g0, .ref k0, .ref u0, .ref m0, .ref s0, .int 1, .int 1, .int 0])), (n0, .inr (1, [.ref a0, .ref a1, .ref a2, .ref a3, .ref a4, .ref a5, .ref a6, .ref a7, .ref a8, .ref a9, .int 0, .int 0]))]) := by
  intro sz
  refine en_W (Qc := fun A => va_Qi (fun (r : Int32) (u : Unit) => r = 1) (sB D cI cZ cR (fun (u : Unit) => [(x0, .inr (5, [.ref n0, .ref t0, .ref g0, .ref k0, .ref u0, .ref m0, .ref s0, .int 1, .int 1, .int 0])), (n0, .inr (1, [.ref a0, .ref a1, .ref a2, .ref a3, .ref a4, .ref a5, .ref a6, .ref a7, .ref a8, .ref a9, .int 0, .int 0]))]) A) A) (cc := cX5_knowSpread) (maxL := 1) (ret := (some .boolean)) (by decide) rfl (Nat.le_of_ble_eq_true rfl) ?_
  intro p e s m below meth c A ls hx hb hr hts hown hlocks hin hml hK hP hD hS hA hl
  have hown : s.vm.findClass RX5 = some m.cls := hown
  have hl : lv_has ls 1 [(0, .ref x0)] := hl
  have kw_0 := hts (.fieldLink RX5 55 "DelayDesk" "spreadKnown" "Z") (by decide +kernel)
  have iX5 : ∀ w ∈ u_ws RX5 TX5 10, w ∈ wsX5_knowSpread := by decide +kernel
  have kw_2 := hts (.fieldLink RX5 10 "DelayDesk" "net" "LDelayDesk$Net;") (by decide +kernel)
  have kw_3 := hts (.fieldLink RX5 48 "DelayDesk" "minutes" "[I") (by decide +kernel)
  have kw_4 := hts (.fieldLink RX5 59 "DelayDesk" "hasSpread" "Z") (by decide +kernel)
  refine lv_aload_n hx hb dX5_knowSpread_0 rfl (lv_at hl 0 rfl) ?_
  refine va_get (D := D) (ci := 5) (v := .int 0) (C := RX5) (T := TX5) (N := 10) hx hb hts iX5 hown hK.1 hP 0 rfl rfl 7 (by decide) kw_0 (fun _ h9 => h9) rfl dX5_knowSpread_1 ?_
  refine lv_if_ne (tgt := 38) hx hb dX5_knowSpread_4 (by decide) (fun c_4 => absurd c_4 (by decide)) (fun c_4 => ?_)
  refine lv_aload_n hx hb dX5_knowSpread_7 rfl (lv_at hl 0 rfl) ?_
  refine va_get (D := D) (ci := 5) (v := .ref n0) (C := RX5) (T := TX5) (N := 10) hx hb hts iX5 hown hK.1 hP 0 rfl rfl 0 (by decide) kw_2 (fun _ h9 => h9) rfl dX5_knowSpread_8 ?_
  refine lv_aload_n hx hb dX5_knowSpread_11 rfl (lv_at hl 0 rfl) ?_
  refine va_get (D := D) (ci := 5) (v := .ref m0) (C := RX5) (T := TX5) (N := 10) hx hb hts iX5 hown hK.1 hP 0 rfl rfl 5 (by decide) kw_3 (fun _ h9 => h9) rfl dX5_knowSpread_12 ?_
  refine cl_v (wr := [(x0, .inr (5, [.ref n0, .ref t0, .ref g0, .ref k0, .ref u0, .ref m0, .ref s0, .int 0, .int 0, .int 0]))]) (va_runV (As := [.ref m0]) (rest := []) ⟨hx, hb, hml, hown, hts⟩ (c_putEarliest l D cI cZ cR n0 a0 a1 a2 a3 a4 a5 a6 a7 a8 a9 m0 s.heap.size) (cwV 1 hts gX5_knowSpread_X1_putEarliest rfl rfl rfl (by decide +kernel) ⟨Nat.le_of_ble_eq_true rfl, Nat.le_of_ble_eq_true rfl⟩) (pV 1 1 hK hP hD [1] rfl (by decide) rfl rfl) rfl rfl hl.1 rfl (lv_room (Nat.le_of_ble_eq_true rfl)) dX5_knowSpread_15 ⟨Nat.le_of_ble_eq_true rfl, Nat.le_of_ble_eq_true rfl⟩) hP hD hS hA [1] [0] rfl rfl (by decide) (by decide) (fun u_15 H locs hw_15 hP hD hS => ?_)
  have hP : va_P D vwCl [(x0, .inr (5, [.ref n0, .ref t0, .ref g0, .ref k0, .ref u0, .ref m0, .ref s0, .int 0, .int 0, .int 0])), (n0, .inr (1, [.ref a0, .ref a1, .ref a2, .ref a3, .ref a4, .ref a5, .ref a6, .ref a7, .ref a8, .ref a9, .int 0, .int 0]))] H := hP
  have hD : va_D A [(x0, .inr (5, [.ref n0, .ref t0, .ref g0, .ref k0, .ref u0, .ref m0, .ref s0, .int 0, .int 0, .int 0])), (n0, .inr (1, [.ref a0, .ref a1, .ref a2, .ref a3, .ref a4, .ref a5, .ref a6, .ref a7, .ref a8, .ref a9, .int 0, .int 0]))] := hD
  refine lv_aload_n hx hb dX5_knowSpread_18 rfl (lv_at hl 0 rfl) ?_
  refine lv_aload_n hx hb dX5_knowSpread_19 rfl (lv_at hl 0 rfl) ?_
  refine va_get (D := D) (ci := 5) (v := .ref n0) (C := RX5) (T := TX5) (N := 10) hx hb hts iX5 hown hK.1 hP 0 rfl rfl 0 (by decide) kw_2 (fun _ h9 => h9) rfl dX5_knowSpread_20 ?_
  refine lv_aload_n hx hb dX5_knowSpread_23 rfl (lv_at hl 0 rfl) ?_
  refine va_get (D := D) (ci := 5) (v := .ref m0) (C := RX5) (T := TX5) (N := 10) hx hb hts iX5 hown hK.1 hP 0 rfl rfl 5 (by decide) kw_3 (fun _ h9 => h9) rfl dX5_knowSpread_24 ?_
  refine cl_i (wr := [(x0, .inr (5, [.ref n0, .ref t0, .ref g0, .ref k0, .ref u0, .ref m0, .ref s0, .int 0, .int 0, .int 0]))]) (va_runV (As := [.ref m0]) (rest := [.ref x0]) ⟨hx, hb, hml, hown, hts⟩ (c_settle l D cI cZ cR n0 a0 a1 a2 a3 a4 a5 a6 a7 a8 a9 m0 H.size) (cwV 1 hts gX5_knowSpread_X1_settle rfl rfl rfl (by decide +kernel) ⟨Nat.le_of_ble_eq_true rfl, Nat.le_of_ble_eq_true rfl⟩) (pV 1 1 hK hP hD [1] rfl (by decide) rfl rfl) rfl rfl hl.1 rfl (lv_room (Nat.le_of_ble_eq_true rfl)) dX5_knowSpread_27 ⟨Nat.le_of_ble_eq_true rfl, Nat.le_of_ble_eq_true rfl⟩) hP hD hS hA [1] [0] rfl rfl (by decide) (by decide) (fun r_27 u_27 H locs hw_27 hP hD hS => ?_)
  have hP : va_P D vwCl [(x0, .inr (5, [.ref n0, .ref t0, .ref g0, .ref k0, .ref u0, .ref m0, .ref s0, .int 0, .int 0, .int 0])), (n0, .inr (1, [.ref a0, .ref a1, .ref a2, .ref a3, .ref a4, .ref a5, .ref a6, .ref a7, .ref a8, .ref a9, .int 0, .int 0]))] H := hP
  have hD : va_D A [(x0, .inr (5, [.ref n0, .ref t0, .ref g0, .ref k0, .ref u0, .ref m0, .ref s0, .int 0, .int 0, .int 0])), (n0, .inr (1, [.ref a0, .ref a1, .ref a2, .ref a3, .ref a4, .ref a5, .ref a6, .ref a7, .ref a8, .ref a9, .int 0, .int 0]))] := hD
  subst hw_27
  refine va_put (D := D) (ci := 5) (v := .int 1) (ty := .boolean) (C := RX5) (T := TX5) (N := 10) hx hb hts iX5 tyX5 tyX5_ok nmX5 hown hK.1 hP hD hS 0 rfl rfl 8 (by decide) kw_4 (fun _ h9 => h9) rfl (by decide +kernel) rfl rfl (Nat.le_of_ble_eq_true rfl) dX5_knowSpread_30 (fun H locs hP hD hS => ?_)
  have hP : va_P D vwCl [(x0, .inr (5, [.ref n0, .ref t0, .ref g0, .ref k0, .ref u0, .ref m0, .ref s0, .int 0, .int 1, .int 0])), (n0, .inr (1, [.ref a0, .ref a1, .ref a2, .ref a3, .ref a4, .ref a5, .ref a6, .ref a7, .ref a8, .ref a9, .int 0, .int 0]))] H := hP
  have hD : va_D A [(x0, .inr (5, [.ref n0, .ref t0, .ref g0, .ref k0, .ref u0, .ref m0, .ref s0, .int 0, .int 1, .int 0])), (n0, .inr (1, [.ref a0, .ref a1, .ref a2, .ref a3, .ref a4, .ref a5, .ref a6, .ref a7, .ref a8, .ref a9, .int 0, .int 0]))] := hD
  refine lv_aload_n hx hb dX5_knowSpread_33 rfl (lv_at hl 0 rfl) ?_
  refine lv_iconst (v := 1) hx hb dX5_knowSpread_34 (by decide) ?_
  refine va_put (D := D) (ci := 5) (v := .int 1) (ty := .boolean) (C := RX5) (T := TX5) (N := 10) hx hb hts iX5 tyX5 tyX5_ok nmX5 hown hK.1 hP hD hS 0 rfl rfl 7 (by decide) kw_0 (fun _ h9 => h9) rfl (by decide +kernel) rfl rfl (Nat.le_of_ble_eq_true rfl) dX5_knowSpread_35 (fun H locs hP hD hS => ?_)
  have hP : va_P D vwCl [(x0, .inr (5, [.ref n0, .ref t0, .ref g0, .ref k0, .ref u0, .ref m0, .ref s0, .int 1, .int 1, .int 0])), (n0, .inr (1, [.ref a0, .ref a1, .ref a2, .ref a3, .ref a4, .ref a5, .ref a6, .ref a7, .ref a8, .ref a9, .int 0, .int 0]))] H := hP
  have hD : va_D A [(x0, .inr (5, [.ref n0, .ref t0, .ref g0, .ref k0, .ref u0, .ref m0, .ref s0, .int 1, .int 1, .int 0])), (n0, .inr (1, [.ref a0, .ref a1, .ref a2, .ref a3, .ref a4, .ref a5, .ref a6, .ref a7, .ref a8, .ref a9, .int 0, .int 0]))] := hD
  refine lv_aload_n hx hb dX5_knowSpread_38 rfl (lv_at hl 0 rfl) ?_
  refine va_get (D := D) (ci := 5) (v := .int 1) (C := RX5) (T := TX5) (N := 10) hx hb hts iX5 hown hK.1 hP 0 rfl rfl 8 (by decide) kw_4 (fun _ h9 => h9) rfl dX5_knowSpread_39 ?_
  exact en_z () hx hb hr hlocks hK (hP.sub [0, 1] rfl) (hD.sub [0, 1] (by decide) rfl) hS (Nat.le_of_ble_eq_true rfl) (Nat.le_of_ble_eq_true rfl) dX5_knowSpread_42 rfl (rfl)
set_option maxHeartbeats 4000000 in
set_option maxRecDepth 100000 in
theorem c_isLate (l : Launch) (D : va_G) (cI cZ cR : ClassId) (x0 : Nat) (n0 : Nat) (t0 : Nat) (g0 : Nat) (k0 : Nat) (u0 : Nat) (m0 : Nat) (s0 : Nat) (a0 : Nat) (a1 : Nat) (a2 : Nat) (a3 : Nat) (a4 : Nat) (a5 : Nat) (a6 : Nat) (a7 : Nat) (a8 : Nat) (a9 : Nat) (e0 : Int32) : CI l D cI cZ cR yX5_isLate wsX5_isLate { frames := 1, cells := 0, slots := 0, locals := 21 } [.ref x0, .int e0] [(x0, .inr (5, [.ref n0, .ref t0, .ref g0, .ref k0, .ref u0, .ref m0, .ref s0, .int 1, .int 1, .int 0])), (n0, .inr (1, [.ref a0, .ref a1, .ref a2, .ref a3, .ref a4, .ref a5, .ref a6, .ref a7, .ref a8, .ref a9, .int 0, .int 0]))] (fun (r : Int32) (u : Unit) => r = 0) (fun (u : Unit) => [(x0, .inr (5, [.ref n0, .ref t0, .ref g0, .ref k0, .ref u0, .ref m0, .ref s0, .int 1, .int 1, .int 0])), (n0, .inr (1, [.ref a0, .ref a1, .ref a2, .ref a3, .ref a4, .ref a5, .ref a6, .ref a7, .ref a8, .ref a9, .int 0, .int 0]))]) := by
  intro sz
  refine en_W (Qc := fun A => va_Qi (fun (r : Int32) (u : Unit) => r = 0) (sB D cI cZ cR (fun (u : Unit) => [(x0, .inr (5, [.ref n0, .ref t0, .ref g0, .ref k0, .ref u0, .ref m0, .ref s0, .int 1, .int 1, .int 0])), (n0, .inr (1, [.ref a0, .ref a1, .ref a2, .ref a3, .ref a4, .ref a5, .ref a6, .ref a7, .ref a8, .ref a9, .int 0, .int 0]))]) A) A) (cc := cX5_isLate) (maxL := 2) (ret := (some .boolean)) (by decide) rfl (Nat.le_of_ble_eq_true rfl) ?_
  intro p e s m below meth c A ls hx hb hr hts hown hlocks hin hml hK hP hD hS hA hl
  have hown : s.vm.findClass RX5 = some m.cls := hown
  have hl : lv_has ls 2 [(0, .ref x0), (1, .int e0)] := hl
  have kw_0 := hts (.fieldLink RX5 10 "DelayDesk" "net" "LDelayDesk$Net;") (by decide +kernel)
  have iX5 : ∀ w ∈ u_ws RX5 TX5 10, w ∈ wsX5_isLate := by decide +kernel
  refine lv_aload_n hx hb dX5_isLate_0 rfl (lv_at hl 0 rfl) ?_
  refine va_get (D := D) (ci := 5) (v := .ref n0) (C := RX5) (T := TX5) (N := 10) hx hb hts iX5 hown hK.1 hP 0 rfl rfl 0 (by decide) kw_0 (fun _ h9 => h9) rfl dX5_isLate_1 ?_
  refine lv_iload_n hx hb dX5_isLate_4 rfl (lv_at hl 1 rfl) ?_
  refine cl_i (wr := [(x0, .inr (5, [.ref n0, .ref t0, .ref g0, .ref k0, .ref u0, .ref m0, .ref s0, .int 1, .int 1, .int 0]))]) (va_runV (As := [.int e0]) (rest := []) ⟨hx, hb, hml, hown, hts⟩ (c_hasEvent l D cI cZ cR n0 a0 a1 a2 a3 a4 a5 a6 a7 a8 a9 e0 s.heap.size) (cwV 1 hts gX5_isLate_X1_hasEvent rfl rfl rfl (by decide +kernel) ⟨Nat.le_of_ble_eq_true rfl, Nat.le_of_ble_eq_true rfl⟩) (pV 1 1 hK hP hD [1] rfl (by decide) rfl rfl) rfl rfl hl.1 rfl (lv_room (Nat.le_of_ble_eq_true rfl)) dX5_isLate_5 ⟨Nat.le_of_ble_eq_true rfl, Nat.le_of_ble_eq_true rfl⟩) hP hD hS hA [1] [0] rfl rfl (by decide) (by decide) (fun r_5 u_5 H locs hw_5 hP hD hS => ?_)
  have hP : va_P D vwCl [(x0, .inr (5, [.ref n0, .ref t0, .ref g0, .ref k0, .ref u0, .ref m0, .ref s0, .int 1, .int 1, .int 0])), (n0, .inr (1, [.ref a0, .ref a1, .ref a2, .ref a3, .ref a4, .ref a5, .ref a6, .ref a7, .ref a8, .ref a9, .int 0, .int 0]))] H := hP
  have hD : va_D A [(x0, .inr (5, [.ref n0, .ref t0, .ref g0, .ref k0, .ref u0, .ref m0, .ref s0, .int 1, .int 1, .int 0])), (n0, .inr (1, [.ref a0, .ref a1, .ref a2, .ref a3, .ref a4, .ref a5, .ref a6, .ref a7, .ref a8, .ref a9, .int 0, .int 0]))] := hD
  subst hw_5
  refine lv_if_eq (tgt := 45) hx hb dX5_isLate_8 (by decide) (fun c_8 => ?_) (fun c_8 => absurd (by decide) c_8)
  refine lv_iconst (v := 0) hx hb dX5_isLate_45 (by decide) ?_
  exact en_z () hx hb hr hlocks hK (hP.sub [0, 1] rfl) (hD.sub [0, 1] (by decide) rfl) hS (Nat.le_of_ble_eq_true rfl) (Nat.le_of_ble_eq_true rfl) dX5_isLate_46 rfl (rfl)
set_option maxHeartbeats 4000000 in
set_option maxRecDepth 100000 in
theorem c_lateEvents (l : Launch) (D : va_G) (cI cZ cR : ClassId) (x0 : Nat) (n0 : Nat) (t0 : Nat) (g0 : Nat) (k0 : Nat) (u0 : Nat) (m0 : Nat) (s0 : Nat) (a0 : Nat) (a1 : Nat) (a2 : Nat) (a3 : Nat) (a4 : Nat) (a5 : Nat) (a6 : Nat) (a7 : Nat) (a8 : Nat) (a9 : Nat) : CI l D cI cZ cR yX5_lateEvents wsX5_lateEvents { frames := 0, cells := 0, slots := 0, locals := 0 } [.ref x0] [(x0, .inr (5, [.ref n0, .ref t0, .ref g0, .ref k0, .ref u0, .ref m0, .ref s0, .int 1, .int 1, .int 0])), (n0, .inr (1, [.ref a0, .ref a1, .ref a2, .ref a3, .ref a4, .ref a5, .ref a6, .ref a7, .ref a8, .ref a9, .int 0, .int 0]))] (fun (r : Int32) (u : Unit) => r = 0) (fun (u : Unit) => []) := by
  intro sz
  refine en_W (Qc := fun A => va_Qi (fun (r : Int32) (u : Unit) => r = 0) (sB D cI cZ cR (fun (u : Unit) => []) A) A) (cc := cX5_lateEvents) (maxL := 3) (ret := (some .int)) (by decide) rfl (Nat.le_of_ble_eq_true rfl) ?_
  intro p e s m below meth c A ls hx hb hr hts hown hlocks hin hml hK hP hD hS hA hl
  have hown : s.vm.findClass RX5 = some m.cls := hown
  have hl : lv_has ls 3 [(0, .ref x0)] := hl
  have kw_0 := hts (.fieldLink RX5 10 "DelayDesk" "net" "LDelayDesk$Net;") (by decide +kernel)
  have iX5 : ∀ w ∈ u_ws RX5 TX5 10, w ∈ wsX5_lateEvents := by decide +kernel
  have kw_2 := hts (.fieldLink RX5 69 "DelayDesk$Net" "events" "I") (by decide +kernel)
  have iX1 : ∀ w ∈ u_ws RX1 TX1 12, w ∈ wsX5_lateEvents := by decide +kernel
  refine lv_iconst (v := 0) hx hb dX5_lateEvents_0 (by decide) ?_
  refine lv_istore_n (lv' := [(1, .int 0), (0, .ref x0)]) hx hb dX5_lateEvents_1 rfl hl (by decide) rfl (fun ls hl => ?_)
  refine lv_iconst (v := 0) hx hb dX5_lateEvents_2 (by decide) ?_
  refine lv_istore_n (lv' := [(2, .int 0), (1, .int 0), (0, .ref x0)]) hx hb dX5_lateEvents_3 rfl hl (by decide) rfl (fun ls hl => ?_)
  refine lv_iload_n hx hb dX5_lateEvents_4 rfl (lv_at hl 0 rfl) ?_
  refine lv_aload_n hx hb dX5_lateEvents_5 rfl (lv_at hl 2 rfl) ?_
  refine va_get (D := D) (ci := 5) (v := .ref n0) (C := RX5) (T := TX5) (N := 10) hx hb hts iX5 hown hK.1 hP 0 rfl rfl 0 (by decide) kw_0 (fun _ h9 => h9) rfl dX5_lateEvents_6 ?_
  refine va_get (D := D) (ci := 1) (v := .int 0) (C := RX1) (T := TX1) (N := 12) hx hb hts iX1 hown hK.1 hP 1 rfl rfl 10 (by decide) kw_2 (fun _ h9 => h9) rfl dX5_lateEvents_9 ?_
  refine lv_icmp_ge (tgt := 32) hx hb dX5_lateEvents_12 (by decide) (fun c_12 => ?_) (fun c_12 => absurd (by decide) c_12)
  refine lv_iload_n hx hb dX5_lateEvents_32 rfl (lv_at hl 1 rfl) ?_
  exact en_i () hx hb hr hlocks hK (hP.sub [] rfl) (hD.sub [] (by decide) rfl) hS (Nat.le_of_ble_eq_true rfl) (Nat.le_of_ble_eq_true rfl) dX5_lateEvents_33 (rfl)
set_option maxHeartbeats 4000000 in
set_option maxRecDepth 100000 in
theorem c_lateMinutes (l : Launch) (D : va_G) (cI cZ cR : ClassId) (x0 : Nat) (n0 : Nat) (t0 : Nat) (g0 : Nat) (k0 : Nat) (u0 : Nat) (m0 : Nat) (s0 : Nat) (a0 : Nat) (a1 : Nat) (a2 : Nat) (a3 : Nat) (a4 : Nat) (a5 : Nat) (a6 : Nat) (a7 : Nat) (a8 : Nat) (a9 : Nat) : CI l D cI cZ cR yX5_lateMinutes wsX5_lateMinutes { frames := 0, cells := 0, slots := 0, locals := 0 } [.ref x0] [(x0, .inr (5, [.ref n0, .ref t0, .ref g0, .ref k0, .ref u0, .ref m0, .ref s0, .int 1, .int 1, .int 0])), (n0, .inr (1, [.ref a0, .ref a1, .ref a2, .ref a3, .ref a4, .ref a5, .ref a6, .ref a7, .ref a8, .ref a9, .int 0, .int 0]))] (fun (r : Int32) (u : Unit) => r = 0) (fun (u : Unit) => []) := by
  intro sz
  refine en_W (Qc := fun A => va_Qi (fun (r : Int32) (u : Unit) => r = 0) (sB D cI cZ cR (fun (u : Unit) => []) A) A) (cc := cX5_lateMinutes) (maxL := 3) (ret := (some .int)) (by decide) rfl (Nat.le_of_ble_eq_true rfl) ?_
  intro p e s m below meth c A ls hx hb hr hts hown hlocks hin hml hK hP hD hS hA hl
  have hown : s.vm.findClass RX5 = some m.cls := hown
  have hl : lv_has ls 3 [(0, .ref x0)] := hl
  have kw_0 := hts (.fieldLink RX5 10 "DelayDesk" "net" "LDelayDesk$Net;") (by decide +kernel)
  have iX5 : ∀ w ∈ u_ws RX5 TX5 10, w ∈ wsX5_lateMinutes := by decide +kernel
  have kw_2 := hts (.fieldLink RX5 69 "DelayDesk$Net" "events" "I") (by decide +kernel)
  have iX1 : ∀ w ∈ u_ws RX1 TX1 12, w ∈ wsX5_lateMinutes := by decide +kernel
  refine lv_iconst (v := 0) hx hb dX5_lateMinutes_0 (by decide) ?_
  refine lv_istore_n (lv' := [(1, .int 0), (0, .ref x0)]) hx hb dX5_lateMinutes_1 rfl hl (by decide) rfl (fun ls hl => ?_)
  refine lv_iconst (v := 0) hx hb dX5_lateMinutes_2 (by decide) ?_
  refine lv_istore_n (lv' := [(2, .int 0), (1, .int 0), (0, .ref x0)]) hx hb dX5_lateMinutes_3 rfl hl (by decide) rfl (fun ls hl => ?_)
  refine lv_iload_n hx hb dX5_lateMinutes_4 rfl (lv_at hl 0 rfl) ?_
  refine lv_aload_n hx hb dX5_lateMinutes_5 rfl (lv_at hl 2 rfl) ?_
  refine va_get (D := D) (ci := 5) (v := .ref n0) (C := RX5) (T := TX5) (N := 10) hx hb hts iX5 hown hK.1 hP 0 rfl rfl 0 (by decide) kw_0 (fun _ h9 => h9) rfl dX5_lateMinutes_6 ?_
  refine va_get (D := D) (ci := 1) (v := .int 0) (C := RX1) (T := TX1) (N := 12) hx hb hts iX1 hown hK.1 hP 1 rfl rfl 10 (by decide) kw_2 (fun _ h9 => h9) rfl dX5_lateMinutes_9 ?_
  refine lv_icmp_ge (tgt := 48) hx hb dX5_lateMinutes_12 (by decide) (fun c_12 => ?_) (fun c_12 => absurd (by decide) c_12)
  refine lv_iload_n hx hb dX5_lateMinutes_48 rfl (lv_at hl 1 rfl) ?_
  exact en_i () hx hb hr hlocks hK (hP.sub [] rfl) (hD.sub [] (by decide) rfl) hS (Nat.le_of_ble_eq_true rfl) (Nat.le_of_ble_eq_true rfl) dX5_lateMinutes_49 (rfl)
set_option maxHeartbeats 4000000 in
set_option maxRecDepth 100000 in
theorem c_gather (l : Launch) (D : va_G) (cI cZ cR : ClassId) (k0 : Nat) (n0 : Nat) (t0 : Nat) (w2 : Nat) (w3 : Nat) (w4 : Nat) (r0 : Nat) (a0 : Nat) (a1 : Nat) (a2 : Nat) (a3 : Nat) (a4 : Nat) (a5 : Nat) (a6 : Nat) (a7 : Nat) (a8 : Nat) (a9 : Nat) : CI l D cI cZ cR yX0_gather wsX0_gather { frames := 0, cells := 0, slots := 0, locals := 0 } [.ref k0] [(k0, .inr (0, [.ref n0, .ref t0, .ref w2, .ref w3, .ref w4, .ref r0, .int 0, .long (-1), .int 0])), (n0, .inr (1, [.ref a0, .ref a1, .ref a2, .ref a3, .ref a4, .ref a5, .ref a6, .ref a7, .ref a8, .ref a9, .int 0, .int 0]))] (fun (r : Int32) (u : Unit) => r = 1) (fun (u : Unit) => [(k0, .inr (0, [.ref n0, .ref t0, .ref w2, .ref w3, .ref w4, .ref r0, .int 0, .long (-1), .int 0])), (n0, .inr (1, [.ref a0, .ref a1, .ref a2, .ref a3, .ref a4, .ref a5, .ref a6, .ref a7, .ref a8, .ref a9, .int 0, .int 0]))]) := by
  intro sz
  refine en_W (Qc := fun A => va_Qi (fun (r : Int32) (u : Unit) => r = 1) (sB D cI cZ cR (fun (u : Unit) => [(k0, .inr (0, [.ref n0, .ref t0, .ref w2, .ref w3, .ref w4, .ref r0, .int 0, .long (-1), .int 0])), (n0, .inr (1, [.ref a0, .ref a1, .ref a2, .ref a3, .ref a4, .ref a5, .ref a6, .ref a7, .ref a8, .ref a9, .int 0, .int 0]))]) A) A) (cc := cX0_gather) (maxL := 2) (ret := (some .boolean)) (by decide) rfl (Nat.le_of_ble_eq_true rfl) ?_
  intro p e s m below meth c A ls hx hb hr hts hown hlocks hin hml hK hP hD hS hA hl
  have hown : s.vm.findClass RX0 = some m.cls := hown
  have hl : lv_has ls 2 [(0, .ref k0)] := hl
  have kw_0 := hts (.fieldLink RX0 27 "DelayDesk$Choice" "size" "I") (by decide +kernel)
  have iX0 : ∀ w ∈ u_ws RX0 TX0 9, w ∈ wsX0_gather := by decide +kernel
  have kw_2 := hts (.fieldLink RX0 40 "DelayDesk$Choice" "net" "LDelayDesk$Net;") (by decide +kernel)
  have kw_3 := hts (.fieldLink RX0 69 "DelayDesk$Net" "activities" "I") (by decide +kernel)
  have iX1 : ∀ w ∈ u_ws RX1 TX1 12, w ∈ wsX0_gather := by decide +kernel
  refine lv_aload_n hx hb dX0_gather_0 rfl (lv_at hl 0 rfl) ?_
  refine lv_iconst (v := 0) hx hb dX0_gather_1 (by decide) ?_
  refine va_put (D := D) (ci := 0) (v := .int 0) (ty := .int) (C := RX0) (T := TX0) (N := 9) hx hb hts iX0 tyX0 tyX0_ok nmX0 hown hK.1 hP hD hS 0 rfl rfl 6 (by decide) kw_0 (fun _ h9 => h9) rfl (by decide +kernel) rfl rfl (Nat.le_of_ble_eq_true rfl) dX0_gather_2 (fun H locs hP hD hS => ?_)
  have hP : va_P D vwCl [(k0, .inr (0, [.ref n0, .ref t0, .ref w2, .ref w3, .ref w4, .ref r0, .int 0, .long (-1), .int 0])), (n0, .inr (1, [.ref a0, .ref a1, .ref a2, .ref a3, .ref a4, .ref a5, .ref a6, .ref a7, .ref a8, .ref a9, .int 0, .int 0]))] H := hP
  have hD : va_D A [(k0, .inr (0, [.ref n0, .ref t0, .ref w2, .ref w3, .ref w4, .ref r0, .int 0, .long (-1), .int 0])), (n0, .inr (1, [.ref a0, .ref a1, .ref a2, .ref a3, .ref a4, .ref a5, .ref a6, .ref a7, .ref a8, .ref a9, .int 0, .int 0]))] := hD
  refine lv_iconst (v := 0) hx hb dX0_gather_5 (by decide) ?_
  refine lv_istore_n (lv' := [(1, .int 0), (0, .ref k0)]) hx hb dX0_gather_6 rfl hl (by decide) rfl (fun ls hl => ?_)
  refine lv_iload_n hx hb dX0_gather_7 rfl (lv_at hl 0 rfl) ?_
  refine lv_aload_n hx hb dX0_gather_8 rfl (lv_at hl 1 rfl) ?_
  refine va_get (D := D) (ci := 0) (v := .ref n0) (C := RX0) (T := TX0) (N := 9) hx hb hts iX0 hown hK.1 hP 0 rfl rfl 0 (by decide) kw_2 (fun _ h9 => h9) rfl dX0_gather_9 ?_
  refine va_get (D := D) (ci := 1) (v := .int 0) (C := RX1) (T := TX1) (N := 12) hx hb hts iX1 hown hK.1 hP 1 rfl rfl 11 (by decide) kw_3 (fun _ h9 => h9) rfl dX0_gather_12 ?_
  refine lv_icmp_ge (tgt := 79) hx hb dX0_gather_15 (by decide) (fun c_15 => ?_) (fun c_15 => absurd (by decide) c_15)
  refine lv_iconst (v := 1) hx hb dX0_gather_79 (by decide) ?_
  exact en_z () hx hb hr hlocks hK (hP.sub [0, 1] rfl) (hD.sub [0, 1] (by decide) rfl) hS (Nat.le_of_ble_eq_true rfl) (Nat.le_of_ble_eq_true rfl) dX0_gather_80 rfl (rfl)
set_option maxHeartbeats 4000000 in
set_option maxRecDepth 100000 in
theorem c_weigh (l : Launch) (D : va_G) (cI cZ cR : ClassId) (k0 : Nat) (n0 : Nat) (t0 : Nat) (w2 : Nat) (w3 : Nat) (w4 : Nat) (r0 : Nat) : CV l D cI cZ cR yX0_weigh wsX0_weigh { frames := 0, cells := 0, slots := 0, locals := 0 } [.ref k0, .long 0, .int 0] [(k0, .inr (0, [.ref n0, .ref t0, .ref w2, .ref w3, .ref w4, .ref r0, .int 0, .long (-1), .int 0]))] (fun (u : Unit) => True) (fun (u : Unit) => [(k0, .inr (0, [.ref n0, .ref t0, .ref w2, .ref w3, .ref w4, .ref r0, .int 0, .long 0, .int 0]))]) := by
  intro sz
  refine en_W (Qc := fun A => va_Qv (fun (u : Unit) => True) (sB D cI cZ cR (fun (u : Unit) => [(k0, .inr (0, [.ref n0, .ref t0, .ref w2, .ref w3, .ref w4, .ref r0, .int 0, .long 0, .int 0]))]) A) A) (cc := cX0_weigh) (maxL := 5) (ret := none) (by decide) rfl (Nat.le_of_ble_eq_true rfl) ?_
  intro p e s m below meth c A ls hx hb hr hts hown hlocks hin hml hK hP hD hS hA hl
  have hown : s.vm.findClass RX0 = some m.cls := hown
  have hl : lv_has ls 5 [(0, .ref k0), (1, .long 0), (3, .int 0)] := hl
  have kw_0 := hts (.fieldLink RX0 33 "DelayDesk$Choice" "bestCost" "J") (by decide +kernel)
  have iX0 : ∀ w ∈ u_ws RX0 TX0 9, w ∈ wsX0_weigh := by decide +kernel
  have kw_2 := hts (.constantLong RX0 31 (-1)) (by decide +kernel)
  have kw_3 := hts (.fieldLink RX0 37 "DelayDesk$Choice" "bestKept" "I") (by decide +kernel)
  have kw_4 := hts (.fieldLink RX0 27 "DelayDesk$Choice" "size" "I") (by decide +kernel)
  refine lv_aload_n hx hb dX0_weigh_0 rfl (lv_at hl 0 rfl) ?_
  refine va_get (D := D) (ci := 0) (v := .long (-1)) (C := RX0) (T := TX0) (N := 9) hx hb hts iX0 hown hK.1 hP 0 rfl rfl 7 (by decide) kw_0 (fun _ h9 => h9) rfl dX0_weigh_1 ?_
  refine lv_ldc2 hx hb hown kw_2 dX0_weigh_4 ?_
  refine W.lcmp hx hb dX0_weigh_7 ?_
  refine W.eq (g2 := F0 m 8 ls [.int 0]) (by congr 2) ?_
  refine lv_if_eq (tgt := 37) hx hb dX0_weigh_8 (by decide) (fun c_8 => ?_) (fun c_8 => absurd (by decide) c_8)
  refine lv_aload_n hx hb dX0_weigh_37 rfl (lv_at hl 0 rfl) ?_
  refine lv_lload_n hx hb dX0_weigh_38 rfl (lv_at hl 1 rfl) ?_
  refine va_put (D := D) (ci := 0) (v := .long 0) (ty := .long) (C := RX0) (T := TX0) (N := 9) hx hb hts iX0 tyX0 tyX0_ok nmX0 hown hK.1 hP hD hS 0 rfl rfl 7 (by decide) kw_0 (fun _ h9 => h9) rfl (by decide +kernel) rfl rfl (Nat.le_of_ble_eq_true rfl) dX0_weigh_39 (fun H locs hP hD hS => ?_)
  have hP : va_P D vwCl [(k0, .inr (0, [.ref n0, .ref t0, .ref w2, .ref w3, .ref w4, .ref r0, .int 0, .long 0, .int 0]))] H := hP
  have hD : va_D A [(k0, .inr (0, [.ref n0, .ref t0, .ref w2, .ref w3, .ref w4, .ref r0, .int 0, .long 0, .int 0]))] := hD
  refine lv_aload_n hx hb dX0_weigh_42 rfl (lv_at hl 0 rfl) ?_
  refine lv_iload_n hx hb dX0_weigh_43 rfl (lv_at hl 2 rfl) ?_
  refine va_put (D := D) (ci := 0) (v := .int 0) (ty := .int) (C := RX0) (T := TX0) (N := 9) hx hb hts iX0 tyX0 tyX0_ok nmX0 hown hK.1 hP hD hS 0 rfl rfl 8 (by decide) kw_3 (fun _ h9 => h9) rfl (by decide +kernel) rfl rfl (Nat.le_of_ble_eq_true rfl) dX0_weigh_44 (fun H locs hP hD hS => ?_)
  have hP : va_P D vwCl [(k0, .inr (0, [.ref n0, .ref t0, .ref w2, .ref w3, .ref w4, .ref r0, .int 0, .long 0, .int 0]))] H := hP
  have hD : va_D A [(k0, .inr (0, [.ref n0, .ref t0, .ref w2, .ref w3, .ref w4, .ref r0, .int 0, .long 0, .int 0]))] := hD
  refine lv_iconst (v := 0) hx hb dX0_weigh_47 (by decide) ?_
  refine lv_istore (lv' := [(4, .int 0), (0, .ref k0), (1, .long 0), (3, .int 0)]) hx hb dX0_weigh_48 hl (by decide) rfl (fun ls hl => ?_)
  refine lv_iload hx hb dX0_weigh_50 (lv_at hl 0 rfl) ?_
  refine lv_aload_n hx hb dX0_weigh_52 rfl (lv_at hl 1 rfl) ?_
  refine va_get (D := D) (ci := 0) (v := .int 0) (C := RX0) (T := TX0) (N := 9) hx hb hts iX0 hown hK.1 hP 0 rfl rfl 6 (by decide) kw_4 (fun _ h9 => h9) rfl dX0_weigh_53 ?_
  refine lv_icmp_ge (tgt := 87) hx hb dX0_weigh_56 (by decide) (fun c_56 => ?_) (fun c_56 => absurd (by decide) c_56)
  exact en_v () hx hb hr hlocks hK (hP.sub [0] rfl) (hD.sub [0] (by decide) rfl) hS (Nat.le_of_ble_eq_true rfl) (Nat.le_of_ble_eq_true rfl) dX0_weigh_87 (trivial)
set_option maxHeartbeats 4000000 in
set_option maxRecDepth 100000 in
theorem c_decide (l : Launch) (D : va_G) (cI cZ cR : ClassId) (k0 : Nat) (n0 : Nat) (t0 : Nat) (w2 : Nat) (w3 : Nat) (w4 : Nat) (r0 : Nat) (v1 : Nat) (v2 : Nat) (v3 : Nat) (v4 : Nat) (v5 : Nat) (v6 : Nat) : CV l D cI cZ cR yX0_decide wsX0_decide { frames := 1, cells := 0, slots := 0, locals := 24 } [.ref k0, .int 0, .int 0] [(k0, .inr (0, [.ref n0, .ref t0, .ref w2, .ref w3, .ref w4, .ref r0, .int 0, .long (-1), .int 0])), (t0, .inr (4, [.ref n0, .ref v1, .ref v2, .ref v3, .ref v4, .ref v5, .ref v6, .int 0])), (r0, .inl (cR, 11, .inr (.inr (.inr (.inr (fun i => if i < 11 then some (r0 + 1 + i) else none))))))] (fun (u : Unit) => True) (fun (u : Unit) => [(k0, .inr (0, [.ref n0, .ref t0, .ref w2, .ref w3, .ref w4, .ref r0, .int 0, .long 0, .int 0]))]) := by
  intro sz
  refine en_W (Qc := fun A => va_Qv (fun (u : Unit) => True) (sB D cI cZ cR (fun (u : Unit) => [(k0, .inr (0, [.ref n0, .ref t0, .ref w2, .ref w3, .ref w4, .ref r0, .int 0, .long 0, .int 0]))]) A) A) (cc := cX0_decide) (maxL := 4) (ret := none) (by decide) rfl (Nat.le_of_ble_eq_true rfl) ?_
  intro p e s m below meth c A ls hx hb hr hts hown hlocks hin hml hK hP hD hS hA hl
  have hown : s.vm.findClass RX0 = some m.cls := hown
  have hl : lv_has ls 4 [(0, .ref k0), (1, .int 0), (2, .int 0)] := hl
  have kw_0 := hts (.fieldLink RX0 27 "DelayDesk$Choice" "size" "I") (by decide +kernel)
  have iX0 : ∀ w ∈ u_ws RX0 TX0 9, w ∈ wsX0_decide := by decide +kernel
  have kw_2 := hts (.fieldLink RX0 44 "DelayDesk$Choice" "travellers" "LDelayDesk$Travellers;") (by decide +kernel)
  have kw_3 := hts (.fieldLink RX0 24 "DelayDesk$Choice" "rows" "[[I") (by decide +kernel)
  refine lv_iload_n hx hb dX0_decide_0 rfl (lv_at hl 1 rfl) ?_
  refine lv_aload_n hx hb dX0_decide_1 rfl (lv_at hl 0 rfl) ?_
  refine va_get (D := D) (ci := 0) (v := .int 0) (C := RX0) (T := TX0) (N := 9) hx hb hts iX0 hown hK.1 hP 0 rfl rfl 6 (by decide) kw_0 (fun _ h9 => h9) rfl dX0_decide_2 ?_
  refine lv_icmp_ge (tgt := 14) hx hb dX0_decide_5 (by decide) (fun c_5 => ?_) (fun c_5 => absurd (by decide) c_5)
  refine lv_aload_n hx hb dX0_decide_14 rfl (lv_at hl 0 rfl) ?_
  refine lv_aload_n hx hb dX0_decide_15 rfl (lv_at hl 0 rfl) ?_
  refine va_get (D := D) (ci := 0) (v := .ref t0) (C := RX0) (T := TX0) (N := 9) hx hb hts iX0 hown hK.1 hP 0 rfl rfl 1 (by decide) kw_2 (fun _ h9 => h9) rfl dX0_decide_16 ?_
  refine lv_aload_n hx hb dX0_decide_19 rfl (lv_at hl 0 rfl) ?_
  refine va_get (D := D) (ci := 0) (v := .ref r0) (C := RX0) (T := TX0) (N := 9) hx hb hts iX0 hown hK.1 hP 0 rfl rfl 5 (by decide) kw_3 (fun _ h9 => h9) rfl dX0_decide_20 ?_
  refine lv_iload_n hx hb dX0_decide_23 rfl (lv_at hl 1 rfl) ?_
  refine mz_ald hx hb hK hP 2 rfl (by unfold vp_in; decide) 0 (by decide) dX0_decide_24 ?_
  refine W.eq (g2 := F0 m 25 ls [.ref (r0 + 1 + 0), .ref t0, .ref k0]) rfl ?_
  refine cl_l (wr := [(k0, .inr (0, [.ref n0, .ref t0, .ref w2, .ref w3, .ref w4, .ref r0, .int 0, .long (-1), .int 0])), (r0, .inl (cR, 11, .inr (.inr (.inr (.inr (fun i => if i < 11 then some (r0 + 1 + i) else none))))))]) (va_runV (As := [.ref (r0 + 1 + 0)]) (rest := [.ref k0]) ⟨hx, hb, hml, hown, hts⟩ (c_sum l D cI cZ cR t0 v1 v2 v3 v4 v5 v6 n0 (r0 + 1 + 0) s.heap.size) (cwV 1 hts gX0_decide_X4_sum rfl rfl rfl (by decide +kernel) ⟨Nat.le_of_ble_eq_true rfl, Nat.le_of_ble_eq_true rfl⟩) (pV 4 1 hK hP hD [1] rfl (by decide) rfl rfl) rfl rfl hl.1 rfl (lv_room (Nat.le_of_ble_eq_true rfl)) dX0_decide_25 ⟨Nat.le_of_ble_eq_true rfl, Nat.le_of_ble_eq_true rfl⟩) hP hD hS hA [1] [0, 2] rfl rfl (by decide) (by decide) (fun r_25 u_25 H locs hw_25 hP hD hS => ?_)
  have hP : va_P D vwCl [(k0, .inr (0, [.ref n0, .ref t0, .ref w2, .ref w3, .ref w4, .ref r0, .int 0, .long (-1), .int 0])), (r0, .inl (cR, 11, .inr (.inr (.inr (.inr (fun i => if i < 11 then some (r0 + 1 + i) else none)))))), (t0, .inr (4, [.ref n0, .ref v1, .ref v2, .ref v3, .ref v4, .ref v5, .ref v6, .int 0]))] H := hP
  have hD : va_D A [(k0, .inr (0, [.ref n0, .ref t0, .ref w2, .ref w3, .ref w4, .ref r0, .int 0, .long (-1), .int 0])), (r0, .inl (cR, 11, .inr (.inr (.inr (.inr (fun i => if i < 11 then some (r0 + 1 + i) else none)))))), (t0, .inr (4, [.ref n0, .ref v1, .ref v2, .ref v3, .ref v4, .ref v5, .ref v6, .int 0]))] := hD
  subst hw_25
  refine lv_iload_n hx hb dX0_decide_28 rfl (lv_at hl 2 rfl) ?_
  refine cl_v (wr := [(r0, .inl (cR, 11, .inr (.inr (.inr (.inr (fun i => if i < 11 then some (r0 + 1 + i) else none)))))), (t0, .inr (4, [.ref n0, .ref v1, .ref v2, .ref v3, .ref v4, .ref v5, .ref v6, .int 0]))]) (va_runV (As := [.long 0, .int 0]) (rest := []) ⟨hx, hb, hml, hown, hts⟩ (c_weigh l D cI cZ cR k0 n0 t0 w2 w3 w4 r0 H.size) (cwV 2 hts gX0_decide_X0_weigh rfl rfl rfl (by decide +kernel) ⟨Nat.le_of_ble_eq_true rfl, Nat.le_of_ble_eq_true rfl⟩) (pV 0 0 hK hP hD [0] rfl (by decide) rfl rfl) rfl rfl hl.1 rfl (lv_room (Nat.le_of_ble_eq_true rfl)) dX0_decide_29 ⟨Nat.le_of_ble_eq_true rfl, Nat.le_of_ble_eq_true rfl⟩) hP hD hS hA [0] [1, 2] rfl rfl (by decide) (by decide) (fun u_29 H locs hw_29 hP hD hS => ?_)
  have hP : va_P D vwCl [(r0, .inl (cR, 11, .inr (.inr (.inr (.inr (fun i => if i < 11 then some (r0 + 1 + i) else none)))))), (t0, .inr (4, [.ref n0, .ref v1, .ref v2, .ref v3, .ref v4, .ref v5, .ref v6, .int 0])), (k0, .inr (0, [.ref n0, .ref t0, .ref w2, .ref w3, .ref w4, .ref r0, .int 0, .long 0, .int 0]))] H := hP
  have hD : va_D A [(r0, .inl (cR, 11, .inr (.inr (.inr (.inr (fun i => if i < 11 then some (r0 + 1 + i) else none)))))), (t0, .inr (4, [.ref n0, .ref v1, .ref v2, .ref v3, .ref v4, .ref v5, .ref v6, .int 0])), (k0, .inr (0, [.ref n0, .ref t0, .ref w2, .ref w3, .ref w4, .ref r0, .int 0, .long 0, .int 0]))] := hD
  exact en_v () hx hb hr hlocks hK (hP.sub [2] rfl) (hD.sub [2] (by decide) rfl) hS (Nat.le_of_ble_eq_true rfl) (Nat.le_of_ble_eq_true rfl) dX0_decide_32 (trivial)
set_option maxHeartbeats 4000000 in
set_option maxRecDepth 100000 in
theorem c_make (l : Launch) (D : va_G) (cI cZ cR : ClassId) (k0 : Nat) (n0 : Nat) (t0 : Nat) (w2 : Nat) (w3 : Nat) (w4 : Nat) (r0 : Nat) (v1 : Nat) (v2 : Nat) (v3 : Nat) (v4 : Nat) (v5 : Nat) (v6 : Nat) (a0 : Nat) (a1 : Nat) (a2 : Nat) (a3 : Nat) (a4 : Nat) (a5 : Nat) (a6 : Nat) (a7 : Nat) (a8 : Nat) (a9 : Nat) : CL l D cI cZ cR yX0_make wsX0_make { frames := 2, cells := 0, slots := 0, locals := 47 } [.ref k0] [(k0, .inr (0, [.ref n0, .ref t0, .ref w2, .ref w3, .ref w4, .ref r0, .int 0, .long (-1), .int 0])), (n0, .inr (1, [.ref a0, .ref a1, .ref a2, .ref a3, .ref a4, .ref a5, .ref a6, .ref a7, .ref a8, .ref a9, .int 0, .int 0])), (t0, .inr (4, [.ref n0, .ref v1, .ref v2, .ref v3, .ref v4, .ref v5, .ref v6, .int 0])), (r0, .inl (cR, 11, .inr (.inr (.inr (.inr (fun i => if i < 11 then some (r0 + 1 + i) else none))))))] (fun (r : Int64) (u : Unit) => r = 0) (fun (u : Unit) => []) := by
  intro sz
  refine en_W (Qc := fun A => va_Ql (fun (r : Int64) (u : Unit) => r = 0) (sB D cI cZ cR (fun (u : Unit) => []) A) A) (cc := cX0_make) (maxL := 2) (ret := (some .long)) (by decide) rfl (Nat.le_of_ble_eq_true rfl) ?_
  intro p e s m below meth c A ls hx hb hr hts hown hlocks hin hml hK hP hD hS hA hl
  have hown : s.vm.findClass RX0 = some m.cls := hown
  have hl : lv_has ls 2 [(0, .ref k0)] := hl
  have kw_0 := hts (.constantLong RX0 31 (-1)) (by decide +kernel)
  have kw_1 := hts (.fieldLink RX0 33 "DelayDesk$Choice" "bestCost" "J") (by decide +kernel)
  have iX0 : ∀ w ∈ u_ws RX0 TX0 9, w ∈ wsX0_make := by decide +kernel
  have kw_3 := hts (.fieldLink RX0 27 "DelayDesk$Choice" "size" "I") (by decide +kernel)
  have kw_4 := hts (.fieldLink RX0 40 "DelayDesk$Choice" "net" "LDelayDesk$Net;") (by decide +kernel)
  have kw_5 := hts (.fieldLink RX0 24 "DelayDesk$Choice" "rows" "[[I") (by decide +kernel)
  refine lv_aload_n hx hb dX0_make_0 rfl (lv_at hl 0 rfl) ?_
  refine cl_i (wr := [(t0, .inr (4, [.ref n0, .ref v1, .ref v2, .ref v3, .ref v4, .ref v5, .ref v6, .int 0])), (r0, .inl (cR, 11, .inr (.inr (.inr (.inr (fun i => if i < 11 then some (r0 + 1 + i) else none))))))]) (va_runV (As := []) (rest := []) ⟨hx, hb, hml, hown, hts⟩ (c_gather l D cI cZ cR k0 n0 t0 w2 w3 w4 r0 a0 a1 a2 a3 a4 a5 a6 a7 a8 a9 s.heap.size) (cwV 0 hts gX0_make_X0_gather rfl rfl rfl (by decide +kernel) ⟨Nat.le_of_ble_eq_true rfl, Nat.le_of_ble_eq_true rfl⟩) (pV 0 0 hK hP hD [0, 1] rfl (by decide) rfl rfl) rfl rfl hl.1 rfl (lv_room (Nat.le_of_ble_eq_true rfl)) dX0_make_1 ⟨Nat.le_of_ble_eq_true rfl, Nat.le_of_ble_eq_true rfl⟩) hP hD hS hA [0, 1] [2, 3] rfl rfl (by decide) (by decide) (fun r_1 u_1 H locs hw_1 hP hD hS => ?_)
  have hP : va_P D vwCl [(t0, .inr (4, [.ref n0, .ref v1, .ref v2, .ref v3, .ref v4, .ref v5, .ref v6, .int 0])), (r0, .inl (cR, 11, .inr (.inr (.inr (.inr (fun i => if i < 11 then some (r0 + 1 + i) else none)))))), (k0, .inr (0, [.ref n0, .ref t0, .ref w2, .ref w3, .ref w4, .ref r0, .int 0, .long (-1), .int 0])), (n0, .inr (1, [.ref a0, .ref a1, .ref a2, .ref a3, .ref a4, .ref a5, .ref a6, .ref a7, .ref a8, .ref a9, .int 0, .int 0]))] H := hP
  have hD : va_D A [(t0, .inr (4, [.ref n0, .ref v1, .ref v2, .ref v3, .ref v4, .ref v5, .ref v6, .int 0])), (r0, .inl (cR, 11, .inr (.inr (.inr (.inr (fun i => if i < 11 then some (r0 + 1 + i) else none)))))), (k0, .inr (0, [.ref n0, .ref t0, .ref w2, .ref w3, .ref w4, .ref r0, .int 0, .long (-1), .int 0])), (n0, .inr (1, [.ref a0, .ref a1, .ref a2, .ref a3, .ref a4, .ref a5, .ref a6, .ref a7, .ref a8, .ref a9, .int 0, .int 0]))] := hD
  subst hw_1
  refine lv_if_ne (tgt := 11) hx hb dX0_make_4 (by decide) (fun c_4 => ?_) (fun c_4 => absurd c_4 (by decide))
  refine lv_aload_n hx hb dX0_make_11 rfl (lv_at hl 0 rfl) ?_
  refine lv_ldc2 hx hb hown kw_0 dX0_make_12 ?_
  refine va_put (D := D) (ci := 0) (v := .long (-1)) (ty := .long) (C := RX0) (T := TX0) (N := 9) hx hb hts iX0 tyX0 tyX0_ok nmX0 hown hK.1 hP hD hS 2 rfl rfl 7 (by decide) kw_1 (fun _ h9 => h9) rfl (by decide +kernel) rfl rfl (Nat.le_of_ble_eq_true rfl) dX0_make_15 (fun H locs hP hD hS => ?_)
  have hP : va_P D vwCl [(t0, .inr (4, [.ref n0, .ref v1, .ref v2, .ref v3, .ref v4, .ref v5, .ref v6, .int 0])), (r0, .inl (cR, 11, .inr (.inr (.inr (.inr (fun i => if i < 11 then some (r0 + 1 + i) else none)))))), (k0, .inr (0, [.ref n0, .ref t0, .ref w2, .ref w3, .ref w4, .ref r0, .int 0, .long (-1), .int 0])), (n0, .inr (1, [.ref a0, .ref a1, .ref a2, .ref a3, .ref a4, .ref a5, .ref a6, .ref a7, .ref a8, .ref a9, .int 0, .int 0]))] H := hP
  have hD : va_D A [(t0, .inr (4, [.ref n0, .ref v1, .ref v2, .ref v3, .ref v4, .ref v5, .ref v6, .int 0])), (r0, .inl (cR, 11, .inr (.inr (.inr (.inr (fun i => if i < 11 then some (r0 + 1 + i) else none)))))), (k0, .inr (0, [.ref n0, .ref t0, .ref w2, .ref w3, .ref w4, .ref r0, .int 0, .long (-1), .int 0])), (n0, .inr (1, [.ref a0, .ref a1, .ref a2, .ref a3, .ref a4, .ref a5, .ref a6, .ref a7, .ref a8, .ref a9, .int 0, .int 0]))] := hD
  refine lv_iconst (v := 0) hx hb dX0_make_18 (by decide) ?_
  refine lv_istore_n (lv' := [(1, .int 0), (0, .ref k0)]) hx hb dX0_make_19 rfl hl (by decide) rfl (fun ls hl => ?_)
  refine lv_iload_n hx hb dX0_make_20 rfl (lv_at hl 0 rfl) ?_
  refine lv_aload_n hx hb dX0_make_21 rfl (lv_at hl 1 rfl) ?_
  refine va_get (D := D) (ci := 0) (v := .int 0) (C := RX0) (T := TX0) (N := 9) hx hb hts iX0 hown hK.1 hP 2 rfl rfl 6 (by decide) kw_3 (fun _ h9 => h9) rfl dX0_make_22 ?_
  refine lv_icmp_ge (tgt := 69) hx hb dX0_make_25 (by decide) (fun c_25 => ?_) (fun c_25 => absurd (by decide) c_25)
  refine lv_aload_n hx hb dX0_make_69 rfl (lv_at hl 1 rfl) ?_
  refine va_get (D := D) (ci := 0) (v := .ref n0) (C := RX0) (T := TX0) (N := 9) hx hb hts iX0 hown hK.1 hP 2 rfl rfl 0 (by decide) kw_4 (fun _ h9 => h9) rfl dX0_make_70 ?_
  refine lv_aload_n hx hb dX0_make_73 rfl (lv_at hl 1 rfl) ?_
  refine va_get (D := D) (ci := 0) (v := .ref r0) (C := RX0) (T := TX0) (N := 9) hx hb hts iX0 hown hK.1 hP 2 rfl rfl 5 (by decide) kw_5 (fun _ h9 => h9) rfl dX0_make_74 ?_
  refine lv_iconst (v := 0) hx hb dX0_make_77 (by decide) ?_
  refine mz_ald hx hb hK hP 1 rfl (by unfold vp_in; decide) 0 (by decide) dX0_make_78 ?_
  refine W.eq (g2 := F0 m 79 ls [.ref (r0 + 1 + 0), .ref n0]) rfl ?_
  refine cl_v (wr := [(t0, .inr (4, [.ref n0, .ref v1, .ref v2, .ref v3, .ref v4, .ref v5, .ref v6, .int 0])), (r0, .inl (cR, 11, .inr (.inr (.inr (.inr (fun i => if i < 11 then some (r0 + 1 + i) else none)))))), (k0, .inr (0, [.ref n0, .ref t0, .ref w2, .ref w3, .ref w4, .ref r0, .int 0, .long (-1), .int 0]))]) (va_runV (As := [.ref (r0 + 1 + 0)]) (rest := []) ⟨hx, hb, hml, hown, hts⟩ (c_putEarliest l D cI cZ cR n0 a0 a1 a2 a3 a4 a5 a6 a7 a8 a9 (r0 + 1 + 0) H.size) (cwV 1 hts gX0_make_X1_putEarliest rfl rfl rfl (by decide +kernel) ⟨Nat.le_of_ble_eq_true rfl, Nat.le_of_ble_eq_true rfl⟩) (pV 1 3 hK hP hD [3] rfl (by decide) rfl rfl) rfl rfl hl.1 rfl (lv_room (Nat.le_of_ble_eq_true rfl)) dX0_make_79 ⟨Nat.le_of_ble_eq_true rfl, Nat.le_of_ble_eq_true rfl⟩) hP hD hS hA [3] [0, 1, 2] rfl rfl (by decide) (by decide) (fun u_79 H locs hw_79 hP hD hS => ?_)
  have hP : va_P D vwCl [(t0, .inr (4, [.ref n0, .ref v1, .ref v2, .ref v3, .ref v4, .ref v5, .ref v6, .int 0])), (r0, .inl (cR, 11, .inr (.inr (.inr (.inr (fun i => if i < 11 then some (r0 + 1 + i) else none)))))), (k0, .inr (0, [.ref n0, .ref t0, .ref w2, .ref w3, .ref w4, .ref r0, .int 0, .long (-1), .int 0])), (n0, .inr (1, [.ref a0, .ref a1, .ref a2, .ref a3, .ref a4, .ref a5, .ref a6, .ref a7, .ref a8, .ref a9, .int 0, .int 0]))] H := hP
  have hD : va_D A [(t0, .inr (4, [.ref n0, .ref v1, .ref v2, .ref v3, .ref v4, .ref v5, .ref v6, .int 0])), (r0, .inl (cR, 11, .inr (.inr (.inr (.inr (fun i => if i < 11 then some (r0 + 1 + i) else none)))))), (k0, .inr (0, [.ref n0, .ref t0, .ref w2, .ref w3, .ref w4, .ref r0, .int 0, .long (-1), .int 0])), (n0, .inr (1, [.ref a0, .ref a1, .ref a2, .ref a3, .ref a4, .ref a5, .ref a6, .ref a7, .ref a8, .ref a9, .int 0, .int 0]))] := hD
  refine lv_aload_n hx hb dX0_make_82 rfl (lv_at hl 1 rfl) ?_
  refine va_get (D := D) (ci := 0) (v := .ref n0) (C := RX0) (T := TX0) (N := 9) hx hb hts iX0 hown hK.1 hP 2 rfl rfl 0 (by decide) kw_4 (fun _ h9 => h9) rfl dX0_make_83 ?_
  refine lv_aload_n hx hb dX0_make_86 rfl (lv_at hl 1 rfl) ?_
  refine va_get (D := D) (ci := 0) (v := .ref r0) (C := RX0) (T := TX0) (N := 9) hx hb hts iX0 hown hK.1 hP 2 rfl rfl 5 (by decide) kw_5 (fun _ h9 => h9) rfl dX0_make_87 ?_
  refine lv_iconst (v := 0) hx hb dX0_make_90 (by decide) ?_
  refine mz_ald hx hb hK hP 1 rfl (by unfold vp_in; decide) 0 (by decide) dX0_make_91 ?_
  refine W.eq (g2 := F0 m 92 ls [.ref (r0 + 1 + 0), .ref n0]) rfl ?_
  refine cl_i (wr := [(t0, .inr (4, [.ref n0, .ref v1, .ref v2, .ref v3, .ref v4, .ref v5, .ref v6, .int 0])), (r0, .inl (cR, 11, .inr (.inr (.inr (.inr (fun i => if i < 11 then some (r0 + 1 + i) else none)))))), (k0, .inr (0, [.ref n0, .ref t0, .ref w2, .ref w3, .ref w4, .ref r0, .int 0, .long (-1), .int 0]))]) (va_runV (As := [.ref (r0 + 1 + 0)]) (rest := []) ⟨hx, hb, hml, hown, hts⟩ (c_settle l D cI cZ cR n0 a0 a1 a2 a3 a4 a5 a6 a7 a8 a9 (r0 + 1 + 0) H.size) (cwV 1 hts gX0_make_X1_settle rfl rfl rfl (by decide +kernel) ⟨Nat.le_of_ble_eq_true rfl, Nat.le_of_ble_eq_true rfl⟩) (pV 1 3 hK hP hD [3] rfl (by decide) rfl rfl) rfl rfl hl.1 rfl (lv_room (Nat.le_of_ble_eq_true rfl)) dX0_make_92 ⟨Nat.le_of_ble_eq_true rfl, Nat.le_of_ble_eq_true rfl⟩) hP hD hS hA [3] [0, 1, 2] rfl rfl (by decide) (by decide) (fun r_92 u_92 H locs hw_92 hP hD hS => ?_)
  have hP : va_P D vwCl [(t0, .inr (4, [.ref n0, .ref v1, .ref v2, .ref v3, .ref v4, .ref v5, .ref v6, .int 0])), (r0, .inl (cR, 11, .inr (.inr (.inr (.inr (fun i => if i < 11 then some (r0 + 1 + i) else none)))))), (k0, .inr (0, [.ref n0, .ref t0, .ref w2, .ref w3, .ref w4, .ref r0, .int 0, .long (-1), .int 0])), (n0, .inr (1, [.ref a0, .ref a1, .ref a2, .ref a3, .ref a4, .ref a5, .ref a6, .ref a7, .ref a8, .ref a9, .int 0, .int 0]))] H := hP
  have hD : va_D A [(t0, .inr (4, [.ref n0, .ref v1, .ref v2, .ref v3, .ref v4, .ref v5, .ref v6, .int 0])), (r0, .inl (cR, 11, .inr (.inr (.inr (.inr (fun i => if i < 11 then some (r0 + 1 + i) else none)))))), (k0, .inr (0, [.ref n0, .ref t0, .ref w2, .ref w3, .ref w4, .ref r0, .int 0, .long (-1), .int 0])), (n0, .inr (1, [.ref a0, .ref a1, .ref a2, .ref a3, .ref a4, .ref a5, .ref a6, .ref a7, .ref a8, .ref a9, .int 0, .int 0]))] := hD
  subst hw_92
  refine lv_if_eq (tgt := 104) hx hb dX0_make_95 (by decide) (fun c_95 => absurd c_95 (by decide)) (fun c_95 => ?_)
  refine lv_aload_n hx hb dX0_make_98 rfl (lv_at hl 1 rfl) ?_
  refine lv_iconst (v := 0) hx hb dX0_make_99 (by decide) ?_
  refine lv_iconst (v := 0) hx hb dX0_make_100 (by decide) ?_
  refine cl_v (wr := [(n0, .inr (1, [.ref a0, .ref a1, .ref a2, .ref a3, .ref a4, .ref a5, .ref a6, .ref a7, .ref a8, .ref a9, .int 0, .int 0]))]) (va_runS (As := [.ref k0, .int 0, .int 0]) (rest := []) ⟨hx, hb, hml, hown, hts⟩ (c_decide l D cI cZ cR k0 n0 t0 w2 w3 w4 r0 v1 v2 v3 v4 v5 v6 H.size) (va_cwS 3 hts gX0_make_X0_decide rfl rfl rfl (by decide +kernel) ⟨Nat.le_of_ble_eq_true rfl, Nat.le_of_ble_eq_true rfl⟩) (pS hK hP hD [2, 0, 1] rfl (by decide)) rfl rfl hl.1 rfl (lv_room (Nat.le_of_ble_eq_true rfl)) dX0_make_101 ⟨Nat.le_of_ble_eq_true rfl, Nat.le_of_ble_eq_true rfl⟩) hP hD hS hA [2, 0, 1] [3] rfl rfl (by decide) (by decide) (fun u_101 H locs hw_101 hP hD hS => ?_)
  have hP : va_P D vwCl [(n0, .inr (1, [.ref a0, .ref a1, .ref a2, .ref a3, .ref a4, .ref a5, .ref a6, .ref a7, .ref a8, .ref a9, .int 0, .int 0])), (k0, .inr (0, [.ref n0, .ref t0, .ref w2, .ref w3, .ref w4, .ref r0, .int 0, .long 0, .int 0]))] H := hP
  have hD : va_D A [(n0, .inr (1, [.ref a0, .ref a1, .ref a2, .ref a3, .ref a4, .ref a5, .ref a6, .ref a7, .ref a8, .ref a9, .int 0, .int 0])), (k0, .inr (0, [.ref n0, .ref t0, .ref w2, .ref w3, .ref w4, .ref r0, .int 0, .long 0, .int 0]))] := hD
  refine lv_iconst (v := 0) hx hb dX0_make_104 (by decide) ?_
  refine lv_istore_n (lv' := [(1, .int 0), (0, .ref k0)]) hx hb dX0_make_105 rfl hl (by decide) rfl (fun ls hl => ?_)
  refine lv_iload_n hx hb dX0_make_106 rfl (lv_at hl 0 rfl) ?_
  refine lv_aload_n hx hb dX0_make_107 rfl (lv_at hl 1 rfl) ?_
  refine va_get (D := D) (ci := 0) (v := .int 0) (C := RX0) (T := TX0) (N := 9) hx hb hts iX0 hown hK.1 hP 1 rfl rfl 6 (by decide) kw_3 (fun _ h9 => h9) rfl dX0_make_108 ?_
  refine lv_icmp_ge (tgt := 160) hx hb dX0_make_111 (by decide) (fun c_111 => ?_) (fun c_111 => absurd (by decide) c_111)
  refine lv_aload_n hx hb dX0_make_160 rfl (lv_at hl 1 rfl) ?_
  refine va_get (D := D) (ci := 0) (v := .long 0) (C := RX0) (T := TX0) (N := 9) hx hb hts iX0 hown hK.1 hP 1 rfl rfl 7 (by decide) kw_1 (fun _ h9 => h9) rfl dX0_make_161 ?_
  exact en_l () hx hb hr hlocks hK (hP.sub [] rfl) (hD.sub [] (by decide) rfl) hS (Nat.le_of_ble_eq_true rfl) (Nat.le_of_ble_eq_true rfl) dX0_make_164 (rfl)
set_option maxHeartbeats 4000000 in
set_option maxRecDepth 100000 in
theorem c_breakAndSort (l : Launch) (D : va_G) (cI cZ cR : ClassId) (u0 : Nat) (n0 : Nat) (z1 : Nat) (z2 : Nat) (z3 : Nat) (a0 : Nat) (a1 : Nat) (a2 : Nat) (a3 : Nat) (a4 : Nat) (a5 : Nat) (a6 : Nat) (a7 : Nat) (a8 : Nat) (a9 : Nat) : CI l D cI cZ cR yX3_breakAndSort wsX3_breakAndSort { frames := 0, cells := 0, slots := 0, locals := 0 } [.ref u0] [(u0, .inr (3, [.ref n0, .ref z1, .ref z2, .ref z3])), (n0, .inr (1, [.ref a0, .ref a1, .ref a2, .ref a3, .ref a4, .ref a5, .ref a6, .ref a7, .ref a8, .ref a9, .int 0, .int 0]))] (fun (r : Int32) (u : Unit) => r = 0) (fun (u : Unit) => [(u0, .inr (3, [.ref n0, .ref z1, .ref z2, .ref z3])), (n0, .inr (1, [.ref a0, .ref a1, .ref a2, .ref a3, .ref a4, .ref a5, .ref a6, .ref a7, .ref a8, .ref a9, .int 0, .int 0]))]) := by
  intro sz
  refine en_W (Qc := fun A => va_Qi (fun (r : Int32) (u : Unit) => r = 0) (sB D cI cZ cR (fun (u : Unit) => [(u0, .inr (3, [.ref n0, .ref z1, .ref z2, .ref z3])), (n0, .inr (1, [.ref a0, .ref a1, .ref a2, .ref a3, .ref a4, .ref a5, .ref a6, .ref a7, .ref a8, .ref a9, .int 0, .int 0]))]) A) A) (cc := cX3_breakAndSort) (maxL := 3) (ret := (some .int)) (by decide) rfl (Nat.le_of_ble_eq_true rfl) ?_
  intro p e s m below meth c A ls hx hb hr hts hown hlocks hin hml hK hP hD hS hA hl
  have hown : s.vm.findClass RX3 = some m.cls := hown
  have hl : lv_has ls 3 [(0, .ref u0)] := hl
  have kw_0 := hts (.fieldLink RX3 21 "DelayDesk$Rule" "net" "LDelayDesk$Net;") (by decide +kernel)
  have iX3 : ∀ w ∈ u_ws RX3 TX3 4, w ∈ wsX3_breakAndSort := by decide +kernel
  have kw_2 := hts (.fieldLink RX3 43 "DelayDesk$Net" "activities" "I") (by decide +kernel)
  have iX1 : ∀ w ∈ u_ws RX1 TX1 12, w ∈ wsX3_breakAndSort := by decide +kernel
  refine lv_iconst (v := 0) hx hb dX3_breakAndSort_0 (by decide) ?_
  refine lv_istore_n (lv' := [(1, .int 0), (0, .ref u0)]) hx hb dX3_breakAndSort_1 rfl hl (by decide) rfl (fun ls hl => ?_)
  refine lv_iconst (v := 0) hx hb dX3_breakAndSort_2 (by decide) ?_
  refine lv_istore_n (lv' := [(2, .int 0), (1, .int 0), (0, .ref u0)]) hx hb dX3_breakAndSort_3 rfl hl (by decide) rfl (fun ls hl => ?_)
  refine lv_iload_n hx hb dX3_breakAndSort_4 rfl (lv_at hl 0 rfl) ?_
  refine lv_aload_n hx hb dX3_breakAndSort_5 rfl (lv_at hl 2 rfl) ?_
  refine va_get (D := D) (ci := 3) (v := .ref n0) (C := RX3) (T := TX3) (N := 4) hx hb hts iX3 hown hK.1 hP 0 rfl rfl 0 (by decide) kw_0 (fun _ h9 => h9) rfl dX3_breakAndSort_6 ?_
  refine va_get (D := D) (ci := 1) (v := .int 0) (C := RX1) (T := TX1) (N := 12) hx hb hts iX1 hown hK.1 hP 1 rfl rfl 11 (by decide) kw_2 (fun _ h9 => h9) rfl dX3_breakAndSort_9 ?_
  refine lv_icmp_ge (tgt := 64) hx hb dX3_breakAndSort_12 (by decide) (fun c_12 => ?_) (fun c_12 => absurd (by decide) c_12)
  refine lv_iload_n hx hb dX3_breakAndSort_64 rfl (lv_at hl 1 rfl) ?_
  exact en_i () hx hb hr hlocks hK (hP.sub [0, 1] rfl) (hD.sub [0, 1] (by decide) rfl) hS (Nat.le_of_ble_eq_true rfl) (Nat.le_of_ble_eq_true rfl) dX3_breakAndSort_65 (rfl)
set_option maxHeartbeats 4000000 in
set_option maxRecDepth 100000 in
theorem c_follow (l : Launch) (D : va_G) (cI cZ cR : ClassId) (u0 : Nat) (n0 : Nat) (z1 : Nat) (z2 : Nat) (z3 : Nat) (a0 : Nat) (a1 : Nat) (a2 : Nat) (a3 : Nat) (a4 : Nat) (a5 : Nat) (a6 : Nat) (a7 : Nat) (a8 : Nat) (a9 : Nat) (w0 : Int32) : CV l D cI cZ cR yX3_follow wsX3_follow { frames := 2, cells := 0, slots := 0, locals := 45 } [.ref u0, .int w0] [(u0, .inr (3, [.ref n0, .ref z1, .ref z2, .ref z3])), (n0, .inr (1, [.ref a0, .ref a1, .ref a2, .ref a3, .ref a4, .ref a5, .ref a6, .ref a7, .ref a8, .ref a9, .int 0, .int 0]))] (fun (u : Unit) => True) (fun (u : Unit) => [(n0, .inr (1, [.ref a0, .ref a1, .ref a2, .ref a3, .ref a4, .ref a5, .ref a6, .ref a7, .ref a8, .ref a9, .int 0, .int 0]))]) := by
  intro sz
  refine en_W (Qc := fun A => va_Qv (fun (u : Unit) => True) (sB D cI cZ cR (fun (u : Unit) => [(n0, .inr (1, [.ref a0, .ref a1, .ref a2, .ref a3, .ref a4, .ref a5, .ref a6, .ref a7, .ref a8, .ref a9, .int 0, .int 0]))]) A) A) (cc := cX3_follow) (maxL := 4) (ret := none) (by decide) rfl (Nat.le_of_ble_eq_true rfl) ?_
  intro p e s m below meth c A ls hx hb hr hts hown hlocks hin hml hK hP hD hS hA hl
  have hown : s.vm.findClass RX3 = some m.cls := hown
  have hl : lv_has ls 4 [(0, .ref u0), (1, .int w0)] := hl
  have kw_0 := hts (.fieldLink RX3 21 "DelayDesk$Rule" "net" "LDelayDesk$Net;") (by decide +kernel)
  have iX3 : ∀ w ∈ u_ws RX3 TX3 4, w ∈ wsX3_follow := by decide +kernel
  have kw_2 := hts (.fieldLink RX3 15 "DelayDesk$Rule" "now" "[I") (by decide +kernel)
  refine lv_aload_n hx hb dX3_follow_0 rfl (lv_at hl 0 rfl) ?_
  refine cl_i (wr := []) (va_runV (As := []) (rest := []) ⟨hx, hb, hml, hown, hts⟩ (c_breakAndSort l D cI cZ cR u0 n0 z1 z2 z3 a0 a1 a2 a3 a4 a5 a6 a7 a8 a9 s.heap.size) (cwV 0 hts gX3_follow_X3_breakAndSort rfl rfl rfl (by decide +kernel) ⟨Nat.le_of_ble_eq_true rfl, Nat.le_of_ble_eq_true rfl⟩) (pV 3 0 hK hP hD [0, 1] rfl (by decide) rfl rfl) rfl rfl hl.1 rfl (lv_room (Nat.le_of_ble_eq_true rfl)) dX3_follow_1 ⟨Nat.le_of_ble_eq_true rfl, Nat.le_of_ble_eq_true rfl⟩) hP hD hS hA [0, 1] [] rfl rfl (by decide) (by decide) (fun r_1 u_1 H locs hw_1 hP hD hS => ?_)
  have hP : va_P D vwCl [(u0, .inr (3, [.ref n0, .ref z1, .ref z2, .ref z3])), (n0, .inr (1, [.ref a0, .ref a1, .ref a2, .ref a3, .ref a4, .ref a5, .ref a6, .ref a7, .ref a8, .ref a9, .int 0, .int 0]))] H := hP
  have hD : va_D A [(u0, .inr (3, [.ref n0, .ref z1, .ref z2, .ref z3])), (n0, .inr (1, [.ref a0, .ref a1, .ref a2, .ref a3, .ref a4, .ref a5, .ref a6, .ref a7, .ref a8, .ref a9, .int 0, .int 0]))] := hD
  subst hw_1
  refine lv_istore_n (lv' := [(2, .int 0), (0, .ref u0), (1, .int w0)]) hx hb dX3_follow_4 rfl hl (by decide) rfl (fun ls hl => ?_)
  refine lv_aload_n hx hb dX3_follow_5 rfl (lv_at hl 1 rfl) ?_
  refine va_get (D := D) (ci := 3) (v := .ref n0) (C := RX3) (T := TX3) (N := 4) hx hb hts iX3 hown hK.1 hP 0 rfl rfl 0 (by decide) kw_0 (fun _ h9 => h9) rfl dX3_follow_6 ?_
  refine lv_aload_n hx hb dX3_follow_9 rfl (lv_at hl 1 rfl) ?_
  refine va_get (D := D) (ci := 3) (v := .ref z2) (C := RX3) (T := TX3) (N := 4) hx hb hts iX3 hown hK.1 hP 0 rfl rfl 2 (by decide) kw_2 (fun _ h9 => h9) rfl dX3_follow_10 ?_
  refine cl_v (wr := [(u0, .inr (3, [.ref n0, .ref z1, .ref z2, .ref z3]))]) (va_runV (As := [.ref z2]) (rest := []) ⟨hx, hb, hml, hown, hts⟩ (c_putEarliest l D cI cZ cR n0 a0 a1 a2 a3 a4 a5 a6 a7 a8 a9 z2 H.size) (cwV 1 hts gX3_follow_X1_putEarliest rfl rfl rfl (by decide +kernel) ⟨Nat.le_of_ble_eq_true rfl, Nat.le_of_ble_eq_true rfl⟩) (pV 1 1 hK hP hD [1] rfl (by decide) rfl rfl) rfl rfl hl.1 rfl (lv_room (Nat.le_of_ble_eq_true rfl)) dX3_follow_13 ⟨Nat.le_of_ble_eq_true rfl, Nat.le_of_ble_eq_true rfl⟩) hP hD hS hA [1] [0] rfl rfl (by decide) (by decide) (fun u_13 H locs hw_13 hP hD hS => ?_)
  have hP : va_P D vwCl [(u0, .inr (3, [.ref n0, .ref z1, .ref z2, .ref z3])), (n0, .inr (1, [.ref a0, .ref a1, .ref a2, .ref a3, .ref a4, .ref a5, .ref a6, .ref a7, .ref a8, .ref a9, .int 0, .int 0]))] H := hP
  have hD : va_D A [(u0, .inr (3, [.ref n0, .ref z1, .ref z2, .ref z3])), (n0, .inr (1, [.ref a0, .ref a1, .ref a2, .ref a3, .ref a4, .ref a5, .ref a6, .ref a7, .ref a8, .ref a9, .int 0, .int 0]))] := hD
  refine lv_aload_n hx hb dX3_follow_16 rfl (lv_at hl 1 rfl) ?_
  refine va_get (D := D) (ci := 3) (v := .ref n0) (C := RX3) (T := TX3) (N := 4) hx hb hts iX3 hown hK.1 hP 0 rfl rfl 0 (by decide) kw_0 (fun _ h9 => h9) rfl dX3_follow_17 ?_
  refine lv_aload_n hx hb dX3_follow_20 rfl (lv_at hl 1 rfl) ?_
  refine va_get (D := D) (ci := 3) (v := .ref z2) (C := RX3) (T := TX3) (N := 4) hx hb hts iX3 hown hK.1 hP 0 rfl rfl 2 (by decide) kw_2 (fun _ h9 => h9) rfl dX3_follow_21 ?_
  refine cl_i (wr := [(u0, .inr (3, [.ref n0, .ref z1, .ref z2, .ref z3]))]) (va_runV (As := [.ref z2]) (rest := []) ⟨hx, hb, hml, hown, hts⟩ (c_settle l D cI cZ cR n0 a0 a1 a2 a3 a4 a5 a6 a7 a8 a9 z2 H.size) (cwV 1 hts gX3_follow_X1_settle rfl rfl rfl (by decide +kernel) ⟨Nat.le_of_ble_eq_true rfl, Nat.le_of_ble_eq_true rfl⟩) (pV 1 1 hK hP hD [1] rfl (by decide) rfl rfl) rfl rfl hl.1 rfl (lv_room (Nat.le_of_ble_eq_true rfl)) dX3_follow_24 ⟨Nat.le_of_ble_eq_true rfl, Nat.le_of_ble_eq_true rfl⟩) hP hD hS hA [1] [0] rfl rfl (by decide) (by decide) (fun r_24 u_24 H locs hw_24 hP hD hS => ?_)
  have hP : va_P D vwCl [(u0, .inr (3, [.ref n0, .ref z1, .ref z2, .ref z3])), (n0, .inr (1, [.ref a0, .ref a1, .ref a2, .ref a3, .ref a4, .ref a5, .ref a6, .ref a7, .ref a8, .ref a9, .int 0, .int 0]))] H := hP
  have hD : va_D A [(u0, .inr (3, [.ref n0, .ref z1, .ref z2, .ref z3])), (n0, .inr (1, [.ref a0, .ref a1, .ref a2, .ref a3, .ref a4, .ref a5, .ref a6, .ref a7, .ref a8, .ref a9, .int 0, .int 0]))] := hD
  subst hw_24
  refine lv_if_ne (tgt := 31) hx hb dX3_follow_27 (by decide) (fun c_27 => ?_) (fun c_27 => absurd c_27 (by decide))
  refine lv_iconst (v := 0) hx hb dX3_follow_31 (by decide) ?_
  refine lv_istore_n (lv' := [(3, .int 0), (2, .int 0), (0, .ref u0), (1, .int w0)]) hx hb dX3_follow_32 rfl hl (by decide) rfl (fun ls hl => ?_)
  refine lv_iload_n hx hb dX3_follow_33 rfl (lv_at hl 0 rfl) ?_
  refine lv_iload_n hx hb dX3_follow_34 rfl (lv_at hl 1 rfl) ?_
  refine lv_icmp_ge (tgt := 55) hx hb dX3_follow_35 (by decide) (fun c_35 => ?_) (fun c_35 => absurd (by decide) c_35)
  exact en_v () hx hb hr hlocks hK (hP.sub [1] rfl) (hD.sub [1] (by decide) rfl) hS (Nat.le_of_ble_eq_true rfl) (Nat.le_of_ble_eq_true rfl) dX3_follow_55 (trivial)
