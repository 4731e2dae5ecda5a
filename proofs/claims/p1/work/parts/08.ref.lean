set_option maxHeartbeats 4000000 in
set_option maxRecDepth 100000 in
theorem c_m_isEvent (l : Launch) (D : va_G) (cI cZ cR : ClassId) (y0 : Nat) (b3 : Nat) (b4 : Nat) (b5 : Nat) (b6 : Nat) (b7 : Nat) (b8 : Nat) (b9 : Nat) (b10 : Nat) (b11 : Nat) (b12 : Nat) (b13 : Nat) (b14 : Nat) (b15 : Nat) (b16 : Nat) (b17 : Nat) (b18 : Nat) (b19 : Nat) (b20 : Nat) (b21 : Nat) (b22 : Nat) (b24 : Nat) (b25 : Nat) (e0 : Int32) : CI l D cI cZ cR yX6_isEvent wsX6_isEvent { frames := 0, cells := 0, slots := 0, locals := 0 } [.ref y0, .int e0] [(y0, .inr (6, [.int 0, .int 0, .int 0, .ref b3, .ref b4, .ref b5, .ref b6, .ref b7, .ref b8, .ref b9, .ref b10, .ref b11, .ref b12, .ref b13, .ref b14, .ref b15, .ref b16, .ref b17, .ref b18, .ref b19, .ref b20, .ref b21, .ref b22, .int 0, .ref b24, .ref b25]))] (fun (r : Int32) (u : Unit) => r = 0) (fun (u : Unit) => [(y0, .inr (6, [.int 0, .int 0, .int 0, .ref b3, .ref b4, .ref b5, .ref b6, .ref b7, .ref b8, .ref b9, .ref b10, .ref b11, .ref b12, .ref b13, .ref b14, .ref b15, .ref b16, .ref b17, .ref b18, .ref b19, .ref b20, .ref b21, .ref b22, .int 0, .ref b24, .ref b25]))]) := by
  intro sz
  refine en_W (Qc := fun A => va_Qi (fun (r : Int32) (u : Unit) => r = 0) (sB D cI cZ cR (fun (u : Unit) => [(y0, .inr (6, [.int 0, .int 0, .int 0, .ref b3, .ref b4, .ref b5, .ref b6, .ref b7, .ref b8, .ref b9, .ref b10, .ref b11, .ref b12, .ref b13, .ref b14, .ref b15, .ref b16, .ref b17, .ref b18, .ref b19, .ref b20, .ref b21, .ref b22, .int 0, .ref b24, .ref b25]))]) A) A) (cc := cX6_isEvent) (maxL := 2) (ret := (some .boolean)) (by decide) rfl (Nat.le_of_ble_eq_true rfl) ?_
  intro p e s m below meth c A ls hx hb hr hts hown hlocks hin hml hK hP hD hS hA hl
  have hown : s.vm.findClass RX6 = some m.cls := hown
  have hl : lv_has ls 2 [(0, .ref y0), (1, .int e0)] := hl
  have kw_0 := hts (.fieldLink RX6 77 "DelayDeskModel" "events" "I") (by decide +kernel)
  have iX6 : ∀ w ∈ u_ws RX6 TX6 26, w ∈ wsX6_isEvent := by decide +kernel
  refine lv_iload_n hx hb dX6_isEvent_0 rfl (lv_at hl 1 rfl) ?_
  refine lv_if_lt (tgt := 16) hx hb dX6_isEvent_1 (by decide) (fun c_1 => ?_) (fun c_1 => ?_)
  · refine lv_iconst (v := 0) hx hb dX6_isEvent_16 (by decide) ?_
    exact en_z () hx hb hr hlocks hK (hP.sub [0] rfl) (hD.sub [0] (by decide) rfl) hS (Nat.le_of_ble_eq_true rfl) (Nat.le_of_ble_eq_true rfl) dX6_isEvent_17 rfl (rfl)
  · refine lv_iload_n hx hb dX6_isEvent_4 rfl (lv_at hl 1 rfl) ?_
    refine lv_aload_n hx hb dX6_isEvent_5 rfl (lv_at hl 0 rfl) ?_
    refine va_get (D := D) (ci := 6) (v := .int 0) (C := RX6) (T := TX6) (N := 26) hx hb hts iX6 hown hK.1 hP 0 rfl rfl 0 (by decide) kw_0 (fun _ h9 => h9) rfl dX6_isEvent_6 ?_
    refine lv_icmp_ge (tgt := 16) hx hb dX6_isEvent_9 (by decide) (fun c_9 => ?_) (fun c_9 => (ab2 c_1 c_9).elim)
    refine lv_iconst (v := 0) hx hb dX6_isEvent_16 (by decide) ?_
    exact en_z () hx hb hr hlocks hK (hP.sub [0] rfl) (hD.sub [0] (by decide) rfl) hS (Nat.le_of_ble_eq_true rfl) (Nat.le_of_ble_eq_true rfl) dX6_isEvent_17 rfl (rfl)
set_option maxHeartbeats 4000000 in
set_option maxRecDepth 100000 in
theorem c_m_isActivity (l : Launch) (D : va_G) (cI cZ cR : ClassId) (y0 : Nat) (b3 : Nat) (b4 : Nat) (b5 : Nat) (b6 : Nat) (b7 : Nat) (b8 : Nat) (b9 : Nat) (b10 : Nat) (b11 : Nat) (b12 : Nat) (b13 : Nat) (b14 : Nat) (b15 : Nat) (b16 : Nat) (b17 : Nat) (b18 : Nat) (b19 : Nat) (b20 : Nat) (b21 : Nat) (b22 : Nat) (b24 : Nat) (b25 : Nat) (e0 : Int32) : CI l D cI cZ cR yX6_isActivity wsX6_isActivity { frames := 0, cells := 0, slots := 0, locals := 0 } [.ref y0, .int e0] [(y0, .inr (6, [.int 0, .int 0, .int 0, .ref b3, .ref b4, .ref b5, .ref b6, .ref b7, .ref b8, .ref b9, .ref b10, .ref b11, .ref b12, .ref b13, .ref b14, .ref b15, .ref b16, .ref b17, .ref b18, .ref b19, .ref b20, .ref b21, .ref b22, .int 0, .ref b24, .ref b25]))] (fun (r : Int32) (u : Unit) => r = 0) (fun (u : Unit) => [(y0, .inr (6, [.int 0, .int 0, .int 0, .ref b3, .ref b4, .ref b5, .ref b6, .ref b7, .ref b8, .ref b9, .ref b10, .ref b11, .ref b12, .ref b13, .ref b14, .ref b15, .ref b16, .ref b17, .ref b18, .ref b19, .ref b20, .ref b21, .ref b22, .int 0, .ref b24, .ref b25]))]) := by
  intro sz
  refine en_W (Qc := fun A => va_Qi (fun (r : Int32) (u : Unit) => r = 0) (sB D cI cZ cR (fun (u : Unit) => [(y0, .inr (6, [.int 0, .int 0, .int 0, .ref b3, .ref b4, .ref b5, .ref b6, .ref b7, .ref b8, .ref b9, .ref b10, .ref b11, .ref b12, .ref b13, .ref b14, .ref b15, .ref b16, .ref b17, .ref b18, .ref b19, .ref b20, .ref b21, .ref b22, .int 0, .ref b24, .ref b25]))]) A) A) (cc := cX6_isActivity) (maxL := 2) (ret := (some .boolean)) (by decide) rfl (Nat.le_of_ble_eq_true rfl) ?_
  intro p e s m below meth c A ls hx hb hr hts hown hlocks hin hml hK hP hD hS hA hl
  have hown : s.vm.findClass RX6 = some m.cls := hown
  have hl : lv_has ls 2 [(0, .ref y0), (1, .int e0)] := hl
  have kw_0 := hts (.fieldLink RX6 81 "DelayDeskModel" "activities" "I") (by decide +kernel)
  have iX6 : ∀ w ∈ u_ws RX6 TX6 26, w ∈ wsX6_isActivity := by decide +kernel
  refine lv_iload_n hx hb dX6_isActivity_0 rfl (lv_at hl 1 rfl) ?_
  refine lv_if_lt (tgt := 16) hx hb dX6_isActivity_1 (by decide) (fun c_1 => ?_) (fun c_1 => ?_)
  · refine lv_iconst (v := 0) hx hb dX6_isActivity_16 (by decide) ?_
    exact en_z () hx hb hr hlocks hK (hP.sub [0] rfl) (hD.sub [0] (by decide) rfl) hS (Nat.le_of_ble_eq_true rfl) (Nat.le_of_ble_eq_true rfl) dX6_isActivity_17 rfl (rfl)
  · refine lv_iload_n hx hb dX6_isActivity_4 rfl (lv_at hl 1 rfl) ?_
    refine lv_aload_n hx hb dX6_isActivity_5 rfl (lv_at hl 0 rfl) ?_
    refine va_get (D := D) (ci := 6) (v := .int 0) (C := RX6) (T := TX6) (N := 26) hx hb hts iX6 hown hK.1 hP 0 rfl rfl 1 (by decide) kw_0 (fun _ h9 => h9) rfl dX6_isActivity_6 ?_
    refine lv_icmp_ge (tgt := 16) hx hb dX6_isActivity_9 (by decide) (fun c_9 => ?_) (fun c_9 => (ab2 c_1 c_9).elim)
    refine lv_iconst (v := 0) hx hb dX6_isActivity_16 (by decide) ?_
    exact en_z () hx hb hr hlocks hK (hP.sub [0] rfl) (hD.sub [0] (by decide) rfl) hS (Nat.le_of_ble_eq_true rfl) (Nat.le_of_ble_eq_true rfl) dX6_isActivity_17 rfl (rfl)
set_option maxHeartbeats 4000000 in
set_option maxRecDepth 100000 in
theorem c_m_isChange (l : Launch) (D : va_G) (cI cZ cR : ClassId) (y0 : Nat) (b3 : Nat) (b4 : Nat) (b5 : Nat) (b6 : Nat) (b7 : Nat) (b8 : Nat) (b9 : Nat) (b10 : Nat) (b11 : Nat) (b12 : Nat) (b13 : Nat) (b14 : Nat) (b15 : Nat) (b16 : Nat) (b17 : Nat) (b18 : Nat) (b19 : Nat) (b20 : Nat) (b21 : Nat) (b22 : Nat) (b24 : Nat) (b25 : Nat) (e0 : Int32) : CI l D cI cZ cR yX6_isChange wsX6_isChange { frames := 1, cells := 0, slots := 0, locals := 21 } [.ref y0, .int e0] [(y0, .inr (6, [.int 0, .int 0, .int 0, .ref b3, .ref b4, .ref b5, .ref b6, .ref b7, .ref b8, .ref b9, .ref b10, .ref b11, .ref b12, .ref b13, .ref b14, .ref b15, .ref b16, .ref b17, .ref b18, .ref b19, .ref b20, .ref b21, .ref b22, .int 0, .ref b24, .ref b25]))] (fun (r : Int32) (u : Unit) => r = 0) (fun (u : Unit) => [(y0, .inr (6, [.int 0, .int 0, .int 0, .ref b3, .ref b4, .ref b5, .ref b6, .ref b7, .ref b8, .ref b9, .ref b10, .ref b11, .ref b12, .ref b13, .ref b14, .ref b15, .ref b16, .ref b17, .ref b18, .ref b19, .ref b20, .ref b21, .ref b22, .int 0, .ref b24, .ref b25]))]) := by
  intro sz
  refine en_W (Qc := fun A => va_Qi (fun (r : Int32) (u : Unit) => r = 0) (sB D cI cZ cR (fun (u : Unit) => [(y0, .inr (6, [.int 0, .int 0, .int 0, .ref b3, .ref b4, .ref b5, .ref b6, .ref b7, .ref b8, .ref b9, .ref b10, .ref b11, .ref b12, .ref b13, .ref b14, .ref b15, .ref b16, .ref b17, .ref b18, .ref b19, .ref b20, .ref b21, .ref b22, .int 0, .ref b24, .ref b25]))]) A) A) (cc := cX6_isChange) (maxL := 2) (ret := (some .boolean)) (by decide) rfl (Nat.le_of_ble_eq_true rfl) ?_
  intro p e s m below meth c A ls hx hb hr hts hown hlocks hin hml hK hP hD hS hA hl
  have hown : s.vm.findClass RX6 = some m.cls := hown
  have hl : lv_has ls 2 [(0, .ref y0), (1, .int e0)] := hl
  refine lv_aload_n hx hb dX6_isChange_0 rfl (lv_at hl 0 rfl) ?_
  refine lv_iload_n hx hb dX6_isChange_1 rfl (lv_at hl 1 rfl) ?_
  refine cl_i (wr := []) (va_runV (As := [.int e0]) (rest := []) ⟨hx, hb, hml, hown, hts⟩ (c_m_isActivity l D cI cZ cR y0 b3 b4 b5 b6 b7 b8 b9 b10 b11 b12 b13 b14 b15 b16 b17 b18 b19 b20 b21 b22 b24 b25 e0 s.heap.size) (cwV 1 hts gX6_isChange_X6_isActivity rfl rfl rfl (by decide +kernel) ⟨Nat.le_of_ble_eq_true rfl, Nat.le_of_ble_eq_true rfl⟩) (pV 6 0 hK hP hD [0] rfl (by decide) rfl rfl) rfl rfl hl.1 rfl (lv_room (Nat.le_of_ble_eq_true rfl)) dX6_isChange_2 ⟨Nat.le_of_ble_eq_true rfl, Nat.le_of_ble_eq_true rfl⟩) hP hD hS hA [0] [] rfl rfl (by decide) (by decide) (fun r_2 u_2 H locs hw_2 hP hD hS => ?_)
  have hP : va_P D vwCl [(y0, .inr (6, [.int 0, .int 0, .int 0, .ref b3, .ref b4, .ref b5, .ref b6, .ref b7, .ref b8, .ref b9, .ref b10, .ref b11, .ref b12, .ref b13, .ref b14, .ref b15, .ref b16, .ref b17, .ref b18, .ref b19, .ref b20, .ref b21, .ref b22, .int 0, .ref b24, .ref b25]))] H := hP
  have hD : va_D A [(y0, .inr (6, [.int 0, .int 0, .int 0, .ref b3, .ref b4, .ref b5, .ref b6, .ref b7, .ref b8, .ref b9, .ref b10, .ref b11, .ref b12, .ref b13, .ref b14, .ref b15, .ref b16, .ref b17, .ref b18, .ref b19, .ref b20, .ref b21, .ref b22, .int 0, .ref b24, .ref b25]))] := hD
  subst hw_2
  refine lv_if_eq (tgt := 22) hx hb dX6_isChange_5 (by decide) (fun c_5 => ?_) (fun c_5 => absurd (by decide) c_5)
  refine lv_iconst (v := 0) hx hb dX6_isChange_22 (by decide) ?_
  exact en_z () hx hb hr hlocks hK (hP.sub [0] rfl) (hD.sub [0] (by decide) rfl) hS (Nat.le_of_ble_eq_true rfl) (Nat.le_of_ble_eq_true rfl) dX6_isChange_23 rfl (rfl)
set_option maxHeartbeats 4000000 in
set_option maxRecDepth 100000 in
theorem c_m_event (l : Launch) (D : va_G) (cI cZ cR : ClassId) (y0 : Nat) (b3 : Nat) (b4 : Nat) (b5 : Nat) (b6 : Nat) (b7 : Nat) (b8 : Nat) (b9 : Nat) (b10 : Nat) (b11 : Nat) (b12 : Nat) (b13 : Nat) (b14 : Nat) (b15 : Nat) (b16 : Nat) (b17 : Nat) (b18 : Nat) (b19 : Nat) (b20 : Nat) (b21 : Nat) (b22 : Nat) (b24 : Nat) (b25 : Nat) (t1 : Int32) (p1 : Int32) : CI l D cI cZ cR yX6_event wsX6_event { frames := 0, cells := 0, slots := 0, locals := 0 } [.ref y0, .int t1, .int p1] [(y0, .inr (6, [.int 0, .int 0, .int 0, .ref b3, .ref b4, .ref b5, .ref b6, .ref b7, .ref b8, .ref b9, .ref b10, .ref b11, .ref b12, .ref b13, .ref b14, .ref b15, .ref b16, .ref b17, .ref b18, .ref b19, .ref b20, .ref b21, .ref b22, .int 0, .ref b24, .ref b25])), (b3, .inl (cI, 60, .inl (fun _ => 0))), (b4, .inl (cI, 60, .inl (fun _ => 0))), (b5, .inl (cI, 60, .inl (fun _ => 0)))] (fun (r : Int32) (u : Unit) => (r = 0 ∧ ((0 ≤ t1 ∧ t1 ≤ 15) ∧ (0 ≤ p1 ∧ p1 ≤ 2000))) ∨ (r = (-1) ∧ ¬ ((0 ≤ t1 ∧ t1 ≤ 15) ∧ (0 ≤ p1 ∧ p1 ≤ 2000)))) (fun (u : Unit) => []) := by
  intro sz
  refine en_W (Qc := fun A => va_Qi (fun (r : Int32) (u : Unit) => (r = 0 ∧ ((0 ≤ t1 ∧ t1 ≤ 15) ∧ (0 ≤ p1 ∧ p1 ≤ 2000))) ∨ (r = (-1) ∧ ¬ ((0 ≤ t1 ∧ t1 ≤ 15) ∧ (0 ≤ p1 ∧ p1 ≤ 2000)))) (sB D cI cZ cR (fun (u : Unit) => []) A) A) (cc := cX6_event) (maxL := 3) (ret := (some .int)) (by decide) rfl (Nat.le_of_ble_eq_true rfl) ?_
  intro p e s m below meth c A ls hx hb hr hts hown hlocks hin hml hK hP hD hS hA hl
  have hown : s.vm.findClass RX6 = some m.cls := hown
  have hl : lv_has ls 3 [(0, .ref y0), (1, .int t1), (2, .int p1)] := hl
  have kw_0 := hts (.fieldLink RX6 77 "DelayDeskModel" "events" "I") (by decide +kernel)
  have iX6 : ∀ w ∈ u_ws RX6 TX6 26, w ∈ wsX6_event := by decide +kernel
  have kw_2 := hts (.fieldLink RX6 7 "DelayDeskModel" "train" "[I") (by decide +kernel)
  have kw_3 := hts (.fieldLink RX6 13 "DelayDeskModel" "plan" "[I") (by decide +kernel)
  have kw_4 := hts (.fieldLink RX6 16 "DelayDeskModel" "source" "[I") (by decide +kernel)
  refine lv_iload_n hx hb dX6_event_0 rfl (lv_at hl 1 rfl) ?_
  refine lv_if_lt (tgt := 30) hx hb dX6_event_1 (by decide) (fun c_1 => ?_) (fun c_1 => ?_)
  · refine lv_iconst (v := (-1)) hx hb dX6_event_30 (by decide) ?_
    exact en_i () hx hb hr hlocks hK (hP.sub [] rfl) (hD.sub [] (by decide) rfl) hS (Nat.le_of_ble_eq_true rfl) (Nat.le_of_ble_eq_true rfl) dX6_event_31 (Or.inr ⟨rfl, by first | exact ⟨ii_1 (by assumption) (ge16 (by assumption)), ii_1 (by assumption) (by assumption)⟩ | exact fun h => ii_a (by assumption) h.1 | exact fun h => ii_b (ge16' (by assumption)) h.1 | exact fun h => ii_a (by assumption) h.2 | exact fun h => ii_b (by assumption) h.2⟩)
  · refine lv_iload_n hx hb dX6_event_4 rfl (lv_at hl 1 rfl) ?_
    refine lv_bipush (v := 16) hx hb dX6_event_5 (by decide) ?_
    refine lv_icmp_ge (tgt := 30) hx hb dX6_event_7 (by decide) (fun c_7 => ?_) (fun c_7 => ?_)
    · refine lv_iconst (v := (-1)) hx hb dX6_event_30 (by decide) ?_
      exact en_i () hx hb hr hlocks hK (hP.sub [] rfl) (hD.sub [] (by decide) rfl) hS (Nat.le_of_ble_eq_true rfl) (Nat.le_of_ble_eq_true rfl) dX6_event_31 (Or.inr ⟨rfl, by first | exact ⟨ii_1 (by assumption) (ge16 (by assumption)), ii_1 (by assumption) (by assumption)⟩ | exact fun h => ii_a (by assumption) h.1 | exact fun h => ii_b (ge16' (by assumption)) h.1 | exact fun h => ii_a (by assumption) h.2 | exact fun h => ii_b (by assumption) h.2⟩)
    · refine lv_iload_n hx hb dX6_event_10 rfl (lv_at hl 2 rfl) ?_
      refine lv_if_lt (tgt := 30) hx hb dX6_event_11 (by decide) (fun c_11 => ?_) (fun c_11 => ?_)
      · refine lv_iconst (v := (-1)) hx hb dX6_event_30 (by decide) ?_
        exact en_i () hx hb hr hlocks hK (hP.sub [] rfl) (hD.sub [] (by decide) rfl) hS (Nat.le_of_ble_eq_true rfl) (Nat.le_of_ble_eq_true rfl) dX6_event_31 (Or.inr ⟨rfl, by first | exact ⟨ii_1 (by assumption) (ge16 (by assumption)), ii_1 (by assumption) (by assumption)⟩ | exact fun h => ii_a (by assumption) h.1 | exact fun h => ii_b (ge16' (by assumption)) h.1 | exact fun h => ii_a (by assumption) h.2 | exact fun h => ii_b (by assumption) h.2⟩)
      · refine lv_iload_n hx hb dX6_event_14 rfl (lv_at hl 2 rfl) ?_
        refine lv_sipush (v := 2000) hx hb dX6_event_15 (by decide) ?_
        refine lv_icmp_gt (tgt := 30) hx hb dX6_event_18 (by decide) (fun c_18 => ?_) (fun c_18 => ?_)
        · refine lv_iconst (v := (-1)) hx hb dX6_event_30 (by decide) ?_
          exact en_i () hx hb hr hlocks hK (hP.sub [] rfl) (hD.sub [] (by decide) rfl) hS (Nat.le_of_ble_eq_true rfl) (Nat.le_of_ble_eq_true rfl) dX6_event_31 (Or.inr ⟨rfl, by first | exact ⟨ii_1 (by assumption) (ge16 (by assumption)), ii_1 (by assumption) (by assumption)⟩ | exact fun h => ii_a (by assumption) h.1 | exact fun h => ii_b (ge16' (by assumption)) h.1 | exact fun h => ii_a (by assumption) h.2 | exact fun h => ii_b (by assumption) h.2⟩)
        · refine lv_aload_n hx hb dX6_event_21 rfl (lv_at hl 0 rfl) ?_
          refine va_get (D := D) (ci := 6) (v := .int 0) (C := RX6) (T := TX6) (N := 26) hx hb hts iX6 hown hK.1 hP 0 rfl rfl 0 (by decide) kw_0 (fun _ h9 => h9) rfl dX6_event_22 ?_
          refine lv_bipush (v := 60) hx hb dX6_event_25 (by decide) ?_
          refine lv_icmp_ne (tgt := 32) hx hb dX6_event_27 (by decide) (fun c_27 => ?_) (fun c_27 => absurd c_27 (by decide))
          refine lv_aload_n hx hb dX6_event_32 rfl (lv_at hl 0 rfl) ?_
          refine va_get (D := D) (ci := 6) (v := .ref b3) (C := RX6) (T := TX6) (N := 26) hx hb hts iX6 hown hK.1 hP 0 rfl rfl 3 (by decide) kw_2 (fun _ h9 => h9) rfl dX6_event_33 ?_
          refine lv_aload_n hx hb dX6_event_36 rfl (lv_at hl 0 rfl) ?_
          refine va_get (D := D) (ci := 6) (v := .int 0) (C := RX6) (T := TX6) (N := 26) hx hb hts iX6 hown hK.1 hP 0 rfl rfl 0 (by decide) kw_0 (fun _ h9 => h9) rfl dX6_event_37 ?_
          refine lv_iload_n hx hb dX6_event_40 rfl (lv_at hl 1 rfl) ?_
          refine va_iast hx hb hK.1 hP hD hS 1 0 rfl rfl (by unfold vp_in; decide) dX6_event_41 (fun H locs hP hD hS => ?_)
          have hP : va_P D vwCl [(y0, .inr (6, [.int 0, .int 0, .int 0, .ref b3, .ref b4, .ref b5, .ref b6, .ref b7, .ref b8, .ref b9, .ref b10, .ref b11, .ref b12, .ref b13, .ref b14, .ref b15, .ref b16, .ref b17, .ref b18, .ref b19, .ref b20, .ref b21, .ref b22, .int 0, .ref b24, .ref b25])), (b3, .inl (cI, 60, .inl (upd (fun _ => 0) (0 : Int32).toNatClampNeg t1))), (b4, .inl (cI, 60, .inl (fun _ => 0))), (b5, .inl (cI, 60, .inl (fun _ => 0)))] H := hP
          have hD : va_D A [(y0, .inr (6, [.int 0, .int 0, .int 0, .ref b3, .ref b4, .ref b5, .ref b6, .ref b7, .ref b8, .ref b9, .ref b10, .ref b11, .ref b12, .ref b13, .ref b14, .ref b15, .ref b16, .ref b17, .ref b18, .ref b19, .ref b20, .ref b21, .ref b22, .int 0, .ref b24, .ref b25])), (b3, .inl (cI, 60, .inl (upd (fun _ => 0) (0 : Int32).toNatClampNeg t1))), (b4, .inl (cI, 60, .inl (fun _ => 0))), (b5, .inl (cI, 60, .inl (fun _ => 0)))] := hD
          refine lv_aload_n hx hb dX6_event_42 rfl (lv_at hl 0 rfl) ?_
          refine va_get (D := D) (ci := 6) (v := .ref b4) (C := RX6) (T := TX6) (N := 26) hx hb hts iX6 hown hK.1 hP 0 rfl rfl 4 (by decide) kw_3 (fun _ h9 => h9) rfl dX6_event_43 ?_
          refine lv_aload_n hx hb dX6_event_46 rfl (lv_at hl 0 rfl) ?_
          refine va_get (D := D) (ci := 6) (v := .int 0) (C := RX6) (T := TX6) (N := 26) hx hb hts iX6 hown hK.1 hP 0 rfl rfl 0 (by decide) kw_0 (fun _ h9 => h9) rfl dX6_event_47 ?_
          refine lv_iload_n hx hb dX6_event_50 rfl (lv_at hl 2 rfl) ?_
          refine va_iast hx hb hK.1 hP hD hS 2 0 rfl rfl (by unfold vp_in; decide) dX6_event_51 (fun H locs hP hD hS => ?_)
          have hP : va_P D vwCl [(y0, .inr (6, [.int 0, .int 0, .int 0, .ref b3, .ref b4, .ref b5, .ref b6, .ref b7, .ref b8, .ref b9, .ref b10, .ref b11, .ref b12, .ref b13, .ref b14, .ref b15, .ref b16, .ref b17, .ref b18, .ref b19, .ref b20, .ref b21, .ref b22, .int 0, .ref b24, .ref b25])), (b3, .inl (cI, 60, .inl (upd (fun _ => 0) (0 : Int32).toNatClampNeg t1))), (b4, .inl (cI, 60, .inl (upd (fun _ => 0) (0 : Int32).toNatClampNeg p1))), (b5, .inl (cI, 60, .inl (fun _ => 0)))] H := hP
          have hD : va_D A [(y0, .inr (6, [.int 0, .int 0, .int 0, .ref b3, .ref b4, .ref b5, .ref b6, .ref b7, .ref b8, .ref b9, .ref b10, .ref b11, .ref b12, .ref b13, .ref b14, .ref b15, .ref b16, .ref b17, .ref b18, .ref b19, .ref b20, .ref b21, .ref b22, .int 0, .ref b24, .ref b25])), (b3, .inl (cI, 60, .inl (upd (fun _ => 0) (0 : Int32).toNatClampNeg t1))), (b4, .inl (cI, 60, .inl (upd (fun _ => 0) (0 : Int32).toNatClampNeg p1))), (b5, .inl (cI, 60, .inl (fun _ => 0)))] := hD
          refine lv_aload_n hx hb dX6_event_52 rfl (lv_at hl 0 rfl) ?_
          refine va_get (D := D) (ci := 6) (v := .ref b5) (C := RX6) (T := TX6) (N := 26) hx hb hts iX6 hown hK.1 hP 0 rfl rfl 5 (by decide) kw_4 (fun _ h9 => h9) rfl dX6_event_53 ?_
          refine lv_aload_n hx hb dX6_event_56 rfl (lv_at hl 0 rfl) ?_
          refine va_get (D := D) (ci := 6) (v := .int 0) (C := RX6) (T := TX6) (N := 26) hx hb hts iX6 hown hK.1 hP 0 rfl rfl 0 (by decide) kw_0 (fun _ h9 => h9) rfl dX6_event_57 ?_
          refine lv_iconst (v := 0) hx hb dX6_event_60 (by decide) ?_
          refine va_iast hx hb hK.1 hP hD hS 3 0 rfl rfl (by unfold vp_in; decide) dX6_event_61 (fun H locs hP hD hS => ?_)
          have hP : va_P D vwCl [(y0, .inr (6, [.int 0, .int 0, .int 0, .ref b3, .ref b4, .ref b5, .ref b6, .ref b7, .ref b8, .ref b9, .ref b10, .ref b11, .ref b12, .ref b13, .ref b14, .ref b15, .ref b16, .ref b17, .ref b18, .ref b19, .ref b20, .ref b21, .ref b22, .int 0, .ref b24, .ref b25])), (b3, .inl (cI, 60, .inl (upd (fun _ => 0) (0 : Int32).toNatClampNeg t1))), (b4, .inl (cI, 60, .inl (upd (fun _ => 0) (0 : Int32).toNatClampNeg p1))), (b5, .inl (cI, 60, .inl (upd (fun _ => 0) (0 : Int32).toNatClampNeg 0)))] H := hP
          have hD : va_D A [(y0, .inr (6, [.int 0, .int 0, .int 0, .ref b3, .ref b4, .ref b5, .ref b6, .ref b7, .ref b8, .ref b9, .ref b10, .ref b11, .ref b12, .ref b13, .ref b14, .ref b15, .ref b16, .ref b17, .ref b18, .ref b19, .ref b20, .ref b21, .ref b22, .int 0, .ref b24, .ref b25])), (b3, .inl (cI, 60, .inl (upd (fun _ => 0) (0 : Int32).toNatClampNeg t1))), (b4, .inl (cI, 60, .inl (upd (fun _ => 0) (0 : Int32).toNatClampNeg p1))), (b5, .inl (cI, 60, .inl (upd (fun _ => 0) (0 : Int32).toNatClampNeg 0)))] := hD
          refine lv_aload_n hx hb dX6_event_62 rfl (lv_at hl 0 rfl) ?_
          refine lv_aload_n hx hb dX6_event_63 rfl (lv_at hl 0 rfl) ?_
          refine va_get (D := D) (ci := 6) (v := .int 0) (C := RX6) (T := TX6) (N := 26) hx hb hts iX6 hown hK.1 hP 0 rfl rfl 0 (by decide) kw_0 (fun _ h9 => h9) rfl dX6_event_64 ?_
          refine lv_iconst (v := 1) hx hb dX6_event_67 (by decide) ?_
          refine lv_iadd hx hb dX6_event_68 ?_
          refine W.eq (g2 := F0 m 69 ls [.int 1, .ref y0]) (by congr 2) ?_
          refine va_put (D := D) (ci := 6) (v := .int 1) (ty := .int) (C := RX6) (T := TX6) (N := 26) hx hb hts iX6 tyX6 tyX6_ok nmX6 hown hK.1 hP hD hS 0 rfl rfl 0 (by decide) kw_0 (fun _ h9 => h9) rfl (by decide +kernel) rfl rfl (Nat.le_of_ble_eq_true rfl) dX6_event_69 (fun H locs hP hD hS => ?_)
          have hP : va_P D vwCl [(y0, .inr (6, [.int 1, .int 0, .int 0, .ref b3, .ref b4, .ref b5, .ref b6, .ref b7, .ref b8, .ref b9, .ref b10, .ref b11, .ref b12, .ref b13, .ref b14, .ref b15, .ref b16, .ref b17, .ref b18, .ref b19, .ref b20, .ref b21, .ref b22, .int 0, .ref b24, .ref b25])), (b3, .inl (cI, 60, .inl (upd (fun _ => 0) (0 : Int32).toNatClampNeg t1))), (b4, .inl (cI, 60, .inl (upd (fun _ => 0) (0 : Int32).toNatClampNeg p1))), (b5, .inl (cI, 60, .inl (upd (fun _ => 0) (0 : Int32).toNatClampNeg 0)))] H := hP
          have hD : va_D A [(y0, .inr (6, [.int 1, .int 0, .int 0, .ref b3, .ref b4, .ref b5, .ref b6, .ref b7, .ref b8, .ref b9, .ref b10, .ref b11, .ref b12, .ref b13, .ref b14, .ref b15, .ref b16, .ref b17, .ref b18, .ref b19, .ref b20, .ref b21, .ref b22, .int 0, .ref b24, .ref b25])), (b3, .inl (cI, 60, .inl (upd (fun _ => 0) (0 : Int32).toNatClampNeg t1))), (b4, .inl (cI, 60, .inl (upd (fun _ => 0) (0 : Int32).toNatClampNeg p1))), (b5, .inl (cI, 60, .inl (upd (fun _ => 0) (0 : Int32).toNatClampNeg 0)))] := hD
          refine lv_aload_n hx hb dX6_event_72 rfl (lv_at hl 0 rfl) ?_
          refine va_get (D := D) (ci := 6) (v := .int 1) (C := RX6) (T := TX6) (N := 26) hx hb hts iX6 hown hK.1 hP 0 rfl rfl 0 (by decide) kw_0 (fun _ h9 => h9) rfl dX6_event_73 ?_
          refine lv_iconst (v := 1) hx hb dX6_event_76 (by decide) ?_
          refine lv_isub hx hb dX6_event_77 ?_
          refine W.eq (g2 := F0 m 78 ls [.int 0]) (by congr 2) ?_
          exact en_i () hx hb hr hlocks hK (hP.sub [] rfl) (hD.sub [] (by decide) rfl) hS (Nat.le_of_ble_eq_true rfl) (Nat.le_of_ble_eq_true rfl) dX6_event_78 (Or.inl ⟨rfl, by first | exact ⟨ii_1 (by assumption) (ge16 (by assumption)), ii_1 (by assumption) (by assumption)⟩ | exact fun h => ii_a (by assumption) h.1 | exact fun h => ii_b (ge16' (by assumption)) h.1 | exact fun h => ii_a (by assumption) h.2 | exact fun h => ii_b (by assumption) h.2⟩)
set_option maxHeartbeats 4000000 in
set_option maxRecDepth 100000 in
theorem c_m_activity (l : Launch) (D : va_G) (cI cZ cR : ClassId) (y0 : Nat) (b3 : Nat) (b4 : Nat) (b5 : Nat) (b6 : Nat) (b7 : Nat) (b8 : Nat) (b9 : Nat) (b10 : Nat) (b11 : Nat) (b12 : Nat) (b13 : Nat) (b14 : Nat) (b15 : Nat) (b16 : Nat) (b17 : Nat) (b18 : Nat) (b19 : Nat) (b20 : Nat) (b21 : Nat) (b22 : Nat) (b24 : Nat) (b25 : Nat) (k1 : Int32) (f1 : Int32) (f2 : Int32) (f3 : Int32) : CI l D cI cZ cR yX6_activity wsX6_activity { frames := 1, cells := 0, slots := 0, locals := 21 } [.ref y0, .int k1, .int f1, .int f2, .int f3] [(y0, .inr (6, [.int 0, .int 0, .int 0, .ref b3, .ref b4, .ref b5, .ref b6, .ref b7, .ref b8, .ref b9, .ref b10, .ref b11, .ref b12, .ref b13, .ref b14, .ref b15, .ref b16, .ref b17, .ref b18, .ref b19, .ref b20, .ref b21, .ref b22, .int 0, .ref b24, .ref b25]))] (fun (r : Int32) (u : Unit) => r = (-1)) (fun (u : Unit) => []) := by
  intro sz
  refine en_W (Qc := fun A => va_Qi (fun (r : Int32) (u : Unit) => r = (-1)) (sB D cI cZ cR (fun (u : Unit) => []) A) A) (cc := cX6_activity) (maxL := 5) (ret := (some .int)) (by decide) rfl (Nat.le_of_ble_eq_true rfl) ?_
  intro p e s m below meth c A ls hx hb hr hts hown hlocks hin hml hK hP hD hS hA hl
  have hown : s.vm.findClass RX6 = some m.cls := hown
  have hl : lv_has ls 5 [(0, .ref y0), (1, .int k1), (2, .int f1), (3, .int f2), (4, .int f3)] := hl
  refine lv_iload_n hx hb dX6_activity_0 rfl (lv_at hl 1 rfl) ?_
  refine lv_if_lt (tgt := 52) hx hb dX6_activity_1 (by decide) (fun c_1 => ?_) (fun c_1 => ?_)
  · refine lv_iconst (v := (-1)) hx hb dX6_activity_52 (by decide) ?_
    exact en_i () hx hb hr hlocks hK (hP.sub [] rfl) (hD.sub [] (by decide) rfl) hS (Nat.le_of_ble_eq_true rfl) (Nat.le_of_ble_eq_true rfl) dX6_activity_53 (rfl)
  · refine lv_iload_n hx hb dX6_activity_4 rfl (lv_at hl 1 rfl) ?_
    refine lv_iconst (v := 4) hx hb dX6_activity_5 (by decide) ?_
    refine lv_icmp_gt (tgt := 52) hx hb dX6_activity_6 (by decide) (fun c_6 => ?_) (fun c_6 => ?_)
    · refine lv_iconst (v := (-1)) hx hb dX6_activity_52 (by decide) ?_
      exact en_i () hx hb hr hlocks hK (hP.sub [] rfl) (hD.sub [] (by decide) rfl) hS (Nat.le_of_ble_eq_true rfl) (Nat.le_of_ble_eq_true rfl) dX6_activity_53 (rfl)
    · refine lv_aload_n hx hb dX6_activity_9 rfl (lv_at hl 0 rfl) ?_
      refine lv_iload_n hx hb dX6_activity_10 rfl (lv_at hl 2 rfl) ?_
      refine cl_i (wr := []) (va_runV (As := [.int f1]) (rest := []) ⟨hx, hb, hml, hown, hts⟩ (c_m_isEvent l D cI cZ cR y0 b3 b4 b5 b6 b7 b8 b9 b10 b11 b12 b13 b14 b15 b16 b17 b18 b19 b20 b21 b22 b24 b25 f1 s.heap.size) (cwV 1 hts gX6_activity_X6_isEvent rfl rfl rfl (by decide +kernel) ⟨Nat.le_of_ble_eq_true rfl, Nat.le_of_ble_eq_true rfl⟩) (pV 6 0 hK hP hD [0] rfl (by decide) rfl rfl) rfl rfl hl.1 rfl (lv_room (Nat.le_of_ble_eq_true rfl)) dX6_activity_11 ⟨Nat.le_of_ble_eq_true rfl, Nat.le_of_ble_eq_true rfl⟩) hP hD hS hA [0] [] rfl rfl (by decide) (by decide) (fun r_11 u_11 H locs hw_11 hP hD hS => ?_)
      have hP : va_P D vwCl [(y0, .inr (6, [.int 0, .int 0, .int 0, .ref b3, .ref b4, .ref b5, .ref b6, .ref b7, .ref b8, .ref b9, .ref b10, .ref b11, .ref b12, .ref b13, .ref b14, .ref b15, .ref b16, .ref b17, .ref b18, .ref b19, .ref b20, .ref b21, .ref b22, .int 0, .ref b24, .ref b25]))] H := hP
      have hD : va_D A [(y0, .inr (6, [.int 0, .int 0, .int 0, .ref b3, .ref b4, .ref b5, .ref b6, .ref b7, .ref b8, .ref b9, .ref b10, .ref b11, .ref b12, .ref b13, .ref b14, .ref b15, .ref b16, .ref b17, .ref b18, .ref b19, .ref b20, .ref b21, .ref b22, .int 0, .ref b24, .ref b25]))] := hD
      subst hw_11
      refine lv_if_eq (tgt := 52) hx hb dX6_activity_14 (by decide) (fun c_14 => ?_) (fun c_14 => absurd (by decide) c_14)
      refine lv_iconst (v := (-1)) hx hb dX6_activity_52 (by decide) ?_
      exact en_i () hx hb hr hlocks hK (hP.sub [] rfl) (hD.sub [] (by decide) rfl) hS (Nat.le_of_ble_eq_true rfl) (Nat.le_of_ble_eq_true rfl) dX6_activity_53 (rfl)
set_option maxHeartbeats 4000000 in
set_option maxRecDepth 100000 in
theorem c_m_source (l : Launch) (D : va_G) (cI cZ cR : ClassId) (y0 : Nat) (b3 : Nat) (b4 : Nat) (b5 : Nat) (b6 : Nat) (b7 : Nat) (b8 : Nat) (b9 : Nat) (b10 : Nat) (b11 : Nat) (b12 : Nat) (b13 : Nat) (b14 : Nat) (b15 : Nat) (b16 : Nat) (b17 : Nat) (b18 : Nat) (b19 : Nat) (b20 : Nat) (b21 : Nat) (b22 : Nat) (b24 : Nat) (b25 : Nat) (e0 : Int32) (f1 : Int32) : CI l D cI cZ cR yX6_source wsX6_source { frames := 1, cells := 0, slots := 0, locals := 21 } [.ref y0, .int e0, .int f1] [(y0, .inr (6, [.int 0, .int 0, .int 0, .ref b3, .ref b4, .ref b5, .ref b6, .ref b7, .ref b8, .ref b9, .ref b10, .ref b11, .ref b12, .ref b13, .ref b14, .ref b15, .ref b16, .ref b17, .ref b18, .ref b19, .ref b20, .ref b21, .ref b22, .int 0, .ref b24, .ref b25]))] (fun (r : Int32) (u : Unit) => r = 0) (fun (u : Unit) => []) := by
  intro sz
  refine en_W (Qc := fun A => va_Qi (fun (r : Int32) (u : Unit) => r = 0) (sB D cI cZ cR (fun (u : Unit) => []) A) A) (cc := cX6_source) (maxL := 3) (ret := (some .boolean)) (by decide) rfl (Nat.le_of_ble_eq_true rfl) ?_
  intro p e s m below meth c A ls hx hb hr hts hown hlocks hin hml hK hP hD hS hA hl
  have hown : s.vm.findClass RX6 = some m.cls := hown
  have hl : lv_has ls 3 [(0, .ref y0), (1, .int e0), (2, .int f1)] := hl
  refine lv_aload_n hx hb dX6_source_0 rfl (lv_at hl 0 rfl) ?_
  refine lv_iload_n hx hb dX6_source_1 rfl (lv_at hl 1 rfl) ?_
  refine cl_i (wr := []) (va_runV (As := [.int e0]) (rest := []) ⟨hx, hb, hml, hown, hts⟩ (c_m_isEvent l D cI cZ cR y0 b3 b4 b5 b6 b7 b8 b9 b10 b11 b12 b13 b14 b15 b16 b17 b18 b19 b20 b21 b22 b24 b25 e0 s.heap.size) (cwV 1 hts gX6_source_X6_isEvent rfl rfl rfl (by decide +kernel) ⟨Nat.le_of_ble_eq_true rfl, Nat.le_of_ble_eq_true rfl⟩) (pV 6 0 hK hP hD [0] rfl (by decide) rfl rfl) rfl rfl hl.1 rfl (lv_room (Nat.le_of_ble_eq_true rfl)) dX6_source_2 ⟨Nat.le_of_ble_eq_true rfl, Nat.le_of_ble_eq_true rfl⟩) hP hD hS hA [0] [] rfl rfl (by decide) (by decide) (fun r_2 u_2 H locs hw_2 hP hD hS => ?_)
  have hP : va_P D vwCl [(y0, .inr (6, [.int 0, .int 0, .int 0, .ref b3, .ref b4, .ref b5, .ref b6, .ref b7, .ref b8, .ref b9, .ref b10, .ref b11, .ref b12, .ref b13, .ref b14, .ref b15, .ref b16, .ref b17, .ref b18, .ref b19, .ref b20, .ref b21, .ref b22, .int 0, .ref b24, .ref b25]))] H := hP
  have hD : va_D A [(y0, .inr (6, [.int 0, .int 0, .int 0, .ref b3, .ref b4, .ref b5, .ref b6, .ref b7, .ref b8, .ref b9, .ref b10, .ref b11, .ref b12, .ref b13, .ref b14, .ref b15, .ref b16, .ref b17, .ref b18, .ref b19, .ref b20, .ref b21, .ref b22, .int 0, .ref b24, .ref b25]))] := hD
  subst hw_2
  refine lv_if_eq (tgt := 19) hx hb dX6_source_5 (by decide) (fun c_5 => ?_) (fun c_5 => absurd (by decide) c_5)
  refine lv_iconst (v := 0) hx hb dX6_source_19 (by decide) ?_
  exact en_z () hx hb hr hlocks hK (hP.sub [] rfl) (hD.sub [] (by decide) rfl) hS (Nat.le_of_ble_eq_true rfl) (Nat.le_of_ble_eq_true rfl) dX6_source_20 rfl (rfl)
set_option maxHeartbeats 4000000 in
set_option maxRecDepth 100000 in
theorem c_m_keep (l : Launch) (D : va_G) (cI cZ cR : ClassId) (y0 : Nat) (b3 : Nat) (b4 : Nat) (b5 : Nat) (b6 : Nat) (b7 : Nat) (b8 : Nat) (b9 : Nat) (b10 : Nat) (b11 : Nat) (b12 : Nat) (b13 : Nat) (b14 : Nat) (b15 : Nat) (b16 : Nat) (b17 : Nat) (b18 : Nat) (b19 : Nat) (b20 : Nat) (b21 : Nat) (b22 : Nat) (b24 : Nat) (b25 : Nat) (e0 : Int32) (f1 : Int32) : CI l D cI cZ cR yX6_keep wsX6_keep { frames := 2, cells := 0, slots := 0, locals := 42 } [.ref y0, .int e0, .int f1] [(y0, .inr (6, [.int 0, .int 0, .int 0, .ref b3, .ref b4, .ref b5, .ref b6, .ref b7, .ref b8, .ref b9, .ref b10, .ref b11, .ref b12, .ref b13, .ref b14, .ref b15, .ref b16, .ref b17, .ref b18, .ref b19, .ref b20, .ref b21, .ref b22, .int 0, .ref b24, .ref b25]))] (fun (r : Int32) (u : Unit) => r = 0) (fun (u : Unit) => []) := by
  intro sz
  refine en_W (Qc := fun A => va_Qi (fun (r : Int32) (u : Unit) => r = 0) (sB D cI cZ cR (fun (u : Unit) => []) A) A) (cc := cX6_keep) (maxL := 3) (ret := (some .boolean)) (by decide) rfl (Nat.le_of_ble_eq_true rfl) ?_
  intro p e s m below meth c A ls hx hb hr hts hown hlocks hin hml hK hP hD hS hA hl
  have hown : s.vm.findClass RX6 = some m.cls := hown
  have hl : lv_has ls 3 [(0, .ref y0), (1, .int e0), (2, .int f1)] := hl
  refine lv_aload_n hx hb dX6_keep_0 rfl (lv_at hl 0 rfl) ?_
  refine lv_iload_n hx hb dX6_keep_1 rfl (lv_at hl 1 rfl) ?_
  refine cl_i (wr := []) (va_runV (As := [.int e0]) (rest := []) ⟨hx, hb, hml, hown, hts⟩ (c_m_isChange l D cI cZ cR y0 b3 b4 b5 b6 b7 b8 b9 b10 b11 b12 b13 b14 b15 b16 b17 b18 b19 b20 b21 b22 b24 b25 e0 s.heap.size) (cwV 1 hts gX6_keep_X6_isChange rfl rfl rfl (by decide +kernel) ⟨Nat.le_of_ble_eq_true rfl, Nat.le_of_ble_eq_true rfl⟩) (pV 6 0 hK hP hD [0] rfl (by decide) rfl rfl) rfl rfl hl.1 rfl (lv_room (Nat.le_of_ble_eq_true rfl)) dX6_keep_2 ⟨Nat.le_of_ble_eq_true rfl, Nat.le_of_ble_eq_true rfl⟩) hP hD hS hA [0] [] rfl rfl (by decide) (by decide) (fun r_2 u_2 H locs hw_2 hP hD hS => ?_)
  have hP : va_P D vwCl [(y0, .inr (6, [.int 0, .int 0, .int 0, .ref b3, .ref b4, .ref b5, .ref b6, .ref b7, .ref b8, .ref b9, .ref b10, .ref b11, .ref b12, .ref b13, .ref b14, .ref b15, .ref b16, .ref b17, .ref b18, .ref b19, .ref b20, .ref b21, .ref b22, .int 0, .ref b24, .ref b25]))] H := hP
  have hD : va_D A [(y0, .inr (6, [.int 0, .int 0, .int 0, .ref b3, .ref b4, .ref b5, .ref b6, .ref b7, .ref b8, .ref b9, .ref b10, .ref b11, .ref b12, .ref b13, .ref b14, .ref b15, .ref b16, .ref b17, .ref b18, .ref b19, .ref b20, .ref b21, .ref b22, .int 0, .ref b24, .ref b25]))] := hD
  subst hw_2
  refine lv_if_eq (tgt := 18) hx hb dX6_keep_5 (by decide) (fun c_5 => ?_) (fun c_5 => absurd (by decide) c_5)
  refine lv_iconst (v := 0) hx hb dX6_keep_18 (by decide) ?_
  exact en_z () hx hb hr hlocks hK (hP.sub [] rfl) (hD.sub [] (by decide) rfl) hS (Nat.le_of_ble_eq_true rfl) (Nat.le_of_ble_eq_true rfl) dX6_keep_19 rfl (rfl)
set_option maxHeartbeats 4000000 in
set_option maxRecDepth 100000 in
theorem c_m_turn (l : Launch) (D : va_G) (cI cZ cR : ClassId) (y0 : Nat) (b3 : Nat) (b4 : Nat) (b5 : Nat) (b6 : Nat) (b7 : Nat) (b8 : Nat) (b9 : Nat) (b10 : Nat) (b11 : Nat) (b12 : Nat) (b13 : Nat) (b14 : Nat) (b15 : Nat) (b16 : Nat) (b17 : Nat) (b18 : Nat) (b19 : Nat) (b20 : Nat) (b21 : Nat) (b22 : Nat) (b24 : Nat) (b25 : Nat) (e0 : Int32) : CI l D cI cZ cR yX6_turn wsX6_turn { frames := 1, cells := 0, slots := 0, locals := 21 } [.ref y0, .int e0] [(y0, .inr (6, [.int 0, .int 0, .int 0, .ref b3, .ref b4, .ref b5, .ref b6, .ref b7, .ref b8, .ref b9, .ref b10, .ref b11, .ref b12, .ref b13, .ref b14, .ref b15, .ref b16, .ref b17, .ref b18, .ref b19, .ref b20, .ref b21, .ref b22, .int 0, .ref b24, .ref b25]))] (fun (r : Int32) (u : Unit) => r = 0) (fun (u : Unit) => []) := by
  intro sz
  refine en_W (Qc := fun A => va_Qi (fun (r : Int32) (u : Unit) => r = 0) (sB D cI cZ cR (fun (u : Unit) => []) A) A) (cc := cX6_turn) (maxL := 3) (ret := (some .boolean)) (by decide) rfl (Nat.le_of_ble_eq_true rfl) ?_
  intro p e s m below meth c A ls hx hb hr hts hown hlocks hin hml hK hP hD hS hA hl
  have hown : s.vm.findClass RX6 = some m.cls := hown
  have hl : lv_has ls 3 [(0, .ref y0), (1, .int e0)] := hl
  refine lv_aload_n hx hb dX6_turn_0 rfl (lv_at hl 0 rfl) ?_
  refine lv_iload_n hx hb dX6_turn_1 rfl (lv_at hl 1 rfl) ?_
  refine cl_i (wr := []) (va_runV (As := [.int e0]) (rest := []) ⟨hx, hb, hml, hown, hts⟩ (c_m_isActivity l D cI cZ cR y0 b3 b4 b5 b6 b7 b8 b9 b10 b11 b12 b13 b14 b15 b16 b17 b18 b19 b20 b21 b22 b24 b25 e0 s.heap.size) (cwV 1 hts gX6_turn_X6_isActivity rfl rfl rfl (by decide +kernel) ⟨Nat.le_of_ble_eq_true rfl, Nat.le_of_ble_eq_true rfl⟩) (pV 6 0 hK hP hD [0] rfl (by decide) rfl rfl) rfl rfl hl.1 rfl (lv_room (Nat.le_of_ble_eq_true rfl)) dX6_turn_2 ⟨Nat.le_of_ble_eq_true rfl, Nat.le_of_ble_eq_true rfl⟩) hP hD hS hA [0] [] rfl rfl (by decide) (by decide) (fun r_2 u_2 H locs hw_2 hP hD hS => ?_)
  have hP : va_P D vwCl [(y0, .inr (6, [.int 0, .int 0, .int 0, .ref b3, .ref b4, .ref b5, .ref b6, .ref b7, .ref b8, .ref b9, .ref b10, .ref b11, .ref b12, .ref b13, .ref b14, .ref b15, .ref b16, .ref b17, .ref b18, .ref b19, .ref b20, .ref b21, .ref b22, .int 0, .ref b24, .ref b25]))] H := hP
  have hD : va_D A [(y0, .inr (6, [.int 0, .int 0, .int 0, .ref b3, .ref b4, .ref b5, .ref b6, .ref b7, .ref b8, .ref b9, .ref b10, .ref b11, .ref b12, .ref b13, .ref b14, .ref b15, .ref b16, .ref b17, .ref b18, .ref b19, .ref b20, .ref b21, .ref b22, .int 0, .ref b24, .ref b25]))] := hD
  subst hw_2
  refine lv_if_eq (tgt := 18) hx hb dX6_turn_5 (by decide) (fun c_5 => ?_) (fun c_5 => absurd (by decide) c_5)
  refine lv_iconst (v := 0) hx hb dX6_turn_18 (by decide) ?_
  exact en_z () hx hb hr hlocks hK (hP.sub [] rfl) (hD.sub [] (by decide) rfl) hS (Nat.le_of_ble_eq_true rfl) (Nat.le_of_ble_eq_true rfl) dX6_turn_19 rfl (rfl)
set_option maxHeartbeats 4000000 in
set_option maxRecDepth 100000 in
theorem c_m_cancel (l : Launch) (D : va_G) (cI cZ cR : ClassId) (y0 : Nat) (b3 : Nat) (b4 : Nat) (b5 : Nat) (b6 : Nat) (b7 : Nat) (b8 : Nat) (b9 : Nat) (b10 : Nat) (b11 : Nat) (b12 : Nat) (b13 : Nat) (b14 : Nat) (b15 : Nat) (b16 : Nat) (b17 : Nat) (b18 : Nat) (b19 : Nat) (b20 : Nat) (b21 : Nat) (b22 : Nat) (b24 : Nat) (b25 : Nat) (t1 : Int32) (b1 : Int32) : CI l D cI cZ cR yX6_cancel wsX6_cancel { frames := 0, cells := 0, slots := 0, locals := 0 } [.ref y0, .int t1, .int b1] [(y0, .inr (6, [.int 0, .int 0, .int 0, .ref b3, .ref b4, .ref b5, .ref b6, .ref b7, .ref b8, .ref b9, .ref b10, .ref b11, .ref b12, .ref b13, .ref b14, .ref b15, .ref b16, .ref b17, .ref b18, .ref b19, .ref b20, .ref b21, .ref b22, .int 0, .ref b24, .ref b25])), (b11, .inl (cZ, 16, .inl (fun _ => 0)))] (fun (r : Int32) (u : Unit) => (r = 1 ∧ ((0 ≤ t1 ∧ t1 ≤ 15) ∧ ¬ 0 = b1)) ∨ (r = 0 ∧ ¬ ((0 ≤ t1 ∧ t1 ≤ 15) ∧ ¬ 0 = b1))) (fun (u : Unit) => []) := by
  intro sz
  refine en_W (Qc := fun A => va_Qi (fun (r : Int32) (u : Unit) => (r = 1 ∧ ((0 ≤ t1 ∧ t1 ≤ 15) ∧ ¬ 0 = b1)) ∨ (r = 0 ∧ ¬ ((0 ≤ t1 ∧ t1 ≤ 15) ∧ ¬ 0 = b1))) (sB D cI cZ cR (fun (u : Unit) => []) A) A) (cc := cX6_cancel) (maxL := 3) (ret := (some .boolean)) (by decide) rfl (Nat.le_of_ble_eq_true rfl) ?_
  intro p e s m below meth c A ls hx hb hr hts hown hlocks hin hml hK hP hD hS hA hl
  have hown : s.vm.findClass RX6 = some m.cls := hown
  have hl : lv_has ls 3 [(0, .ref y0), (1, .int t1), (2, .int b1)] := hl
  have kw_0 := hts (.fieldLink RX6 35 "DelayDeskModel" "isCancelled" "[Z") (by decide +kernel)
  have iX6 : ∀ w ∈ u_ws RX6 TX6 26, w ∈ wsX6_cancel := by decide +kernel
  refine lv_iload_n hx hb dX6_cancel_0 rfl (lv_at hl 1 rfl) ?_
  refine lv_if_lt (tgt := 20) hx hb dX6_cancel_1 (by decide) (fun c_1 => ?_) (fun c_1 => ?_)
  · refine lv_iconst (v := 0) hx hb dX6_cancel_20 (by decide) ?_
    exact en_z () hx hb hr hlocks hK (hP.sub [] rfl) (hD.sub [] (by decide) rfl) hS (Nat.le_of_ble_eq_true rfl) (Nat.le_of_ble_eq_true rfl) dX6_cancel_21 rfl (Or.inr ⟨rfl, by first | exact ⟨ii_1 (by assumption) (ge16 (by assumption)), by assumption⟩ | exact fun h => ii_a (by assumption) h.1 | exact fun h => ii_b (ge16' (by assumption)) h.1 | exact fun h => h.2 (by assumption)⟩)
  · refine lv_iload_n hx hb dX6_cancel_4 rfl (lv_at hl 1 rfl) ?_
    refine lv_bipush (v := 16) hx hb dX6_cancel_5 (by decide) ?_
    refine lv_icmp_ge (tgt := 20) hx hb dX6_cancel_7 (by decide) (fun c_7 => ?_) (fun c_7 => ?_)
    · refine lv_iconst (v := 0) hx hb dX6_cancel_20 (by decide) ?_
      exact en_z () hx hb hr hlocks hK (hP.sub [] rfl) (hD.sub [] (by decide) rfl) hS (Nat.le_of_ble_eq_true rfl) (Nat.le_of_ble_eq_true rfl) dX6_cancel_21 rfl (Or.inr ⟨rfl, by first | exact ⟨ii_1 (by assumption) (ge16 (by assumption)), by assumption⟩ | exact fun h => ii_a (by assumption) h.1 | exact fun h => ii_b (ge16' (by assumption)) h.1 | exact fun h => h.2 (by assumption)⟩)
    · refine lv_aload_n hx hb dX6_cancel_10 rfl (lv_at hl 0 rfl) ?_
      refine va_get (D := D) (ci := 6) (v := .ref b11) (C := RX6) (T := TX6) (N := 26) hx hb hts iX6 hown hK.1 hP 0 rfl rfl 11 (by decide) kw_0 (fun _ h9 => h9) rfl dX6_cancel_11 ?_
      refine lv_iload_n hx hb dX6_cancel_14 rfl (lv_at hl 1 rfl) ?_
      refine va_zald hx hb hK.1 hP 1 1 rfl rfl (in16 (ii_1 (by assumption) (ge16 (by assumption)))) dX6_cancel_15 ?_
      refine W.eq (g2 := F0 m 16 ls [.int 0]) rfl ?_
      refine lv_iload_n hx hb dX6_cancel_16 rfl (lv_at hl 2 rfl) ?_
      refine lv_icmp_ne (tgt := 22) hx hb dX6_cancel_17 (by decide) (fun c_17 => ?_) (fun c_17 => ?_)
      · refine lv_aload_n hx hb dX6_cancel_22 rfl (lv_at hl 0 rfl) ?_
        refine va_get (D := D) (ci := 6) (v := .ref b11) (C := RX6) (T := TX6) (N := 26) hx hb hts iX6 hown hK.1 hP 0 rfl rfl 11 (by decide) kw_0 (fun _ h9 => h9) rfl dX6_cancel_23 ?_
        refine lv_iload_n hx hb dX6_cancel_26 rfl (lv_at hl 1 rfl) ?_
        refine lv_iload_n hx hb dX6_cancel_27 rfl (lv_at hl 2 rfl) ?_
        refine va_zast hx hb hK.1 hP hD hS 1 1 rfl rfl (in16 (ii_1 (by assumption) (ge16 (by assumption)))) dX6_cancel_28 (fun H locs hP hD hS => ?_)
        have hP : va_P D vwCl [(y0, .inr (6, [.int 0, .int 0, .int 0, .ref b3, .ref b4, .ref b5, .ref b6, .ref b7, .ref b8, .ref b9, .ref b10, .ref b11, .ref b12, .ref b13, .ref b14, .ref b15, .ref b16, .ref b17, .ref b18, .ref b19, .ref b20, .ref b21, .ref b22, .int 0, .ref b24, .ref b25])), (b11, .inl (cZ, 16, .inl (upd (fun _ => 0) (t1 : Int32).toNatClampNeg (vp_nar .boolean b1))))] H := hP
        have hD : va_D A [(y0, .inr (6, [.int 0, .int 0, .int 0, .ref b3, .ref b4, .ref b5, .ref b6, .ref b7, .ref b8, .ref b9, .ref b10, .ref b11, .ref b12, .ref b13, .ref b14, .ref b15, .ref b16, .ref b17, .ref b18, .ref b19, .ref b20, .ref b21, .ref b22, .int 0, .ref b24, .ref b25])), (b11, .inl (cZ, 16, .inl (upd (fun _ => 0) (t1 : Int32).toNatClampNeg (vp_nar .boolean b1))))] := hD
        refine lv_iconst (v := 1) hx hb dX6_cancel_29 (by decide) ?_
        exact en_z () hx hb hr hlocks hK (hP.sub [] rfl) (hD.sub [] (by decide) rfl) hS (Nat.le_of_ble_eq_true rfl) (Nat.le_of_ble_eq_true rfl) dX6_cancel_30 rfl (Or.inl ⟨rfl, by first | exact ⟨ii_1 (by assumption) (ge16 (by assumption)), by assumption⟩ | exact fun h => ii_a (by assumption) h.1 | exact fun h => ii_b (ge16' (by assumption)) h.1 | exact fun h => h.2 (by assumption)⟩)
      · refine lv_iconst (v := 0) hx hb dX6_cancel_20 (by decide) ?_
        exact en_z () hx hb hr hlocks hK (hP.sub [] rfl) (hD.sub [] (by decide) rfl) hS (Nat.le_of_ble_eq_true rfl) (Nat.le_of_ble_eq_true rfl) dX6_cancel_21 rfl (Or.inr ⟨rfl, by first | exact ⟨ii_1 (by assumption) (ge16 (by assumption)), by assumption⟩ | exact fun h => ii_a (by assumption) h.1 | exact fun h => ii_b (ge16' (by assumption)) h.1 | exact fun h => h.2 (by assumption)⟩)
set_option maxHeartbeats 4000000 in
set_option maxRecDepth 100000 in
theorem c_m_group (l : Launch) (D : va_G) (cI cZ cR : ClassId) (y0 : Nat) (b3 : Nat) (b4 : Nat) (b5 : Nat) (b6 : Nat) (b7 : Nat) (b8 : Nat) (b9 : Nat) (b10 : Nat) (b11 : Nat) (b12 : Nat) (b13 : Nat) (b14 : Nat) (b15 : Nat) (b16 : Nat) (b17 : Nat) (b18 : Nat) (b19 : Nat) (b20 : Nat) (b21 : Nat) (b22 : Nat) (b24 : Nat) (b25 : Nat) (f1 : Int32) (f2 : Int32) (f3 : Int32) (f4 : Int32) (f5 : Int32) (f6 : Int32) : CI l D cI cZ cR yX6_group wsX6_group { frames := 1, cells := 0, slots := 0, locals := 21 } [.ref y0, .int f1, .int f2, .int f3, .int f4, .int f5, .int f6] [(y0, .inr (6, [.int 0, .int 0, .int 0, .ref b3, .ref b4, .ref b5, .ref b6, .ref b7, .ref b8, .ref b9, .ref b10, .ref b11, .ref b12, .ref b13, .ref b14, .ref b15, .ref b16, .ref b17, .ref b18, .ref b19, .ref b20, .ref b21, .ref b22, .int 0, .ref b24, .ref b25]))] (fun (r : Int32) (u : Unit) => r = (-1)) (fun (u : Unit) => []) := by
  intro sz
  refine en_W (Qc := fun A => va_Qi (fun (r : Int32) (u : Unit) => r = (-1)) (sB D cI cZ cR (fun (u : Unit) => []) A) A) (cc := cX6_group) (maxL := 8) (ret := (some .int)) (by decide) rfl (Nat.le_of_ble_eq_true rfl) ?_
  intro p e s m below meth c A ls hx hb hr hts hown hlocks hin hml hK hP hD hS hA hl
  have hown : s.vm.findClass RX6 = some m.cls := hown
  have hl : lv_has ls 8 [(0, .ref y0), (1, .int f1), (2, .int f2), (3, .int f3), (4, .int f4), (5, .int f5), (6, .int f6)] := hl
  have kw_0 := hts (.fieldLink RX6 97 "DelayDeskModel" "groups" "I") (by decide +kernel)
  have iX6 : ∀ w ∈ u_ws RX6 TX6 26, w ∈ wsX6_group := by decide +kernel
  refine lv_aload_n hx hb dX6_group_0 rfl (lv_at hl 0 rfl) ?_
  refine va_get (D := D) (ci := 6) (v := .int 0) (C := RX6) (T := TX6) (N := 26) hx hb hts iX6 hown hK.1 hP 0 rfl rfl 2 (by decide) kw_0 (fun _ h9 => h9) rfl dX6_group_1 ?_
  refine lv_bipush (v := 30) hx hb dX6_group_4 (by decide) ?_
  refine lv_icmp_eq (tgt := 51) hx hb dX6_group_6 (by decide) (fun c_6 => absurd c_6 (by decide)) (fun c_6 => ?_)
  refine lv_iload_n hx hb dX6_group_9 rfl (lv_at hl 1 rfl) ?_
  refine lv_iconst (v := 1) hx hb dX6_group_10 (by decide) ?_
  refine lv_icmp_lt (tgt := 51) hx hb dX6_group_11 (by decide) (fun c_11 => ?_) (fun c_11 => ?_)
  · refine lv_iconst (v := (-1)) hx hb dX6_group_51 (by decide) ?_
    exact en_i () hx hb hr hlocks hK (hP.sub [] rfl) (hD.sub [] (by decide) rfl) hS (Nat.le_of_ble_eq_true rfl) (Nat.le_of_ble_eq_true rfl) dX6_group_52 (rfl)
  · refine lv_iload_n hx hb dX6_group_14 rfl (lv_at hl 1 rfl) ?_
    refine lv_sipush (v := 1000) hx hb dX6_group_15 (by decide) ?_
    refine lv_icmp_gt (tgt := 51) hx hb dX6_group_18 (by decide) (fun c_18 => ?_) (fun c_18 => ?_)
    · refine lv_iconst (v := (-1)) hx hb dX6_group_51 (by decide) ?_
      exact en_i () hx hb hr hlocks hK (hP.sub [] rfl) (hD.sub [] (by decide) rfl) hS (Nat.le_of_ble_eq_true rfl) (Nat.le_of_ble_eq_true rfl) dX6_group_52 (rfl)
    · refine lv_aload_n hx hb dX6_group_21 rfl (lv_at hl 0 rfl) ?_
      refine lv_iload_n hx hb dX6_group_22 rfl (lv_at hl 2 rfl) ?_
      refine cl_i (wr := []) (va_runV (As := [.int f2]) (rest := []) ⟨hx, hb, hml, hown, hts⟩ (c_m_isEvent l D cI cZ cR y0 b3 b4 b5 b6 b7 b8 b9 b10 b11 b12 b13 b14 b15 b16 b17 b18 b19 b20 b21 b22 b24 b25 f2 s.heap.size) (cwV 1 hts gX6_group_X6_isEvent rfl rfl rfl (by decide +kernel) ⟨Nat.le_of_ble_eq_true rfl, Nat.le_of_ble_eq_true rfl⟩) (pV 6 0 hK hP hD [0] rfl (by decide) rfl rfl) rfl rfl hl.1 rfl (lv_room (Nat.le_of_ble_eq_true rfl)) dX6_group_23 ⟨Nat.le_of_ble_eq_true rfl, Nat.le_of_ble_eq_true rfl⟩) hP hD hS hA [0] [] rfl rfl (by decide) (by decide) (fun r_23 u_23 H locs hw_23 hP hD hS => ?_)
      have hP : va_P D vwCl [(y0, .inr (6, [.int 0, .int 0, .int 0, .ref b3, .ref b4, .ref b5, .ref b6, .ref b7, .ref b8, .ref b9, .ref b10, .ref b11, .ref b12, .ref b13, .ref b14, .ref b15, .ref b16, .ref b17, .ref b18, .ref b19, .ref b20, .ref b21, .ref b22, .int 0, .ref b24, .ref b25]))] H := hP
      have hD : va_D A [(y0, .inr (6, [.int 0, .int 0, .int 0, .ref b3, .ref b4, .ref b5, .ref b6, .ref b7, .ref b8, .ref b9, .ref b10, .ref b11, .ref b12, .ref b13, .ref b14, .ref b15, .ref b16, .ref b17, .ref b18, .ref b19, .ref b20, .ref b21, .ref b22, .int 0, .ref b24, .ref b25]))] := hD
      subst hw_23
      refine lv_if_eq (tgt := 51) hx hb dX6_group_26 (by decide) (fun c_26 => ?_) (fun c_26 => absurd (by decide) c_26)
      refine lv_iconst (v := (-1)) hx hb dX6_group_51 (by decide) ?_
      exact en_i () hx hb hr hlocks hK (hP.sub [] rfl) (hD.sub [] (by decide) rfl) hS (Nat.le_of_ble_eq_true rfl) (Nat.le_of_ble_eq_true rfl) dX6_group_52 (rfl)
set_option maxHeartbeats 4000000 in
set_option maxRecDepth 100000 in
theorem c_m_spreads (l : Launch) (D : va_G) (cI cZ cR : ClassId) (y0 : Nat) (b3 : Nat) (b4 : Nat) (b5 : Nat) (b6 : Nat) (b7 : Nat) (b8 : Nat) (b9 : Nat) (b10 : Nat) (b11 : Nat) (b12 : Nat) (b13 : Nat) (b14 : Nat) (b15 : Nat) (b16 : Nat) (b17 : Nat) (b18 : Nat) (b19 : Nat) (b20 : Nat) (b21 : Nat) (b22 : Nat) (b24 : Nat) (b25 : Nat) : CI l D cI cZ cR yX6_spreads wsX6_spreads { frames := 0, cells := 0, slots := 0, locals := 0 } [.ref y0] [(y0, .inr (6, [.int 0, .int 0, .int 0, .ref b3, .ref b4, .ref b5, .ref b6, .ref b7, .ref b8, .ref b9, .ref b10, .ref b11, .ref b12, .ref b13, .ref b14, .ref b15, .ref b16, .ref b17, .ref b18, .ref b19, .ref b20, .ref b21, .ref b22, .int 0, .ref b24, .ref b25]))] (fun (r : Int32) (u : Unit) => r = 1) (fun (u : Unit) => [(y0, .inr (6, [.int 0, .int 0, .int 0, .ref b3, .ref b4, .ref b5, .ref b6, .ref b7, .ref b8, .ref b9, .ref b10, .ref b11, .ref b12, .ref b13, .ref b14, .ref b15, .ref b16, .ref b17, .ref b18, .ref b19, .ref b20, .ref b21, .ref b22, .int 0, .ref b24, .ref b25]))]) := by
  intro sz
  refine en_W (Qc := fun A => va_Qi (fun (r : Int32) (u : Unit) => r = 1) (sB D cI cZ cR (fun (u : Unit) => [(y0, .inr (6, [.int 0, .int 0, .int 0, .ref b3, .ref b4, .ref b5, .ref b6, .ref b7, .ref b8, .ref b9, .ref b10, .ref b11, .ref b12, .ref b13, .ref b14, .ref b15, .ref b16, .ref b17, .ref b18, .ref b19, .ref b20, .ref b21, .ref b22, .int 0, .ref b24, .ref b25]))]) A) A) (cc := cX6_spreads) (maxL := 5) (ret := (some .boolean)) (by decide) rfl (Nat.le_of_ble_eq_true rfl) ?_
  intro p e s m below meth c A ls hx hb hr hts hown hlocks hin hml hK hP hD hS hA hl
  have hown : s.vm.findClass RX6 = some m.cls := hown
  have hl : lv_has ls 5 [(0, .ref y0)] := hl
  have kw_0 := hts (.fieldLink RX6 77 "DelayDeskModel" "events" "I") (by decide +kernel)
  have iX6 : ∀ w ∈ u_ws RX6 TX6 26, w ∈ wsX6_spreads := by decide +kernel
  have kw_2 := hts (.fieldLink RX6 81 "DelayDeskModel" "activities" "I") (by decide +kernel)
  refine lv_iconst (v := 0) hx hb dX6_spreads_0 (by decide) ?_
  refine lv_istore_n (lv' := [(1, .int 0), (0, .ref y0)]) hx hb dX6_spreads_1 rfl hl (by decide) rfl (fun ls hl => ?_)
  refine lv_iload_n hx hb dX6_spreads_2 rfl (lv_at hl 0 rfl) ?_
  refine lv_aload_n hx hb dX6_spreads_3 rfl (lv_at hl 1 rfl) ?_
  refine va_get (D := D) (ci := 6) (v := .int 0) (C := RX6) (T := TX6) (N := 26) hx hb hts iX6 hown hK.1 hP 0 rfl rfl 0 (by decide) kw_0 (fun _ h9 => h9) rfl dX6_spreads_4 ?_
  refine lv_icmp_ge (tgt := 35) hx hb dX6_spreads_7 (by decide) (fun c_7 => ?_) (fun c_7 => absurd (by decide) c_7)
  refine lv_iconst (v := 0) hx hb dX6_spreads_35 (by decide) ?_
  refine lv_istore_n (lv' := [(1, .int 0), (0, .ref y0)]) hx hb dX6_spreads_36 rfl hl (by decide) rfl (fun ls hl => ?_)
  refine lv_iload_n hx hb dX6_spreads_37 rfl (lv_at hl 0 rfl) ?_
  refine lv_aload_n hx hb dX6_spreads_38 rfl (lv_at hl 1 rfl) ?_
  refine va_get (D := D) (ci := 6) (v := .int 0) (C := RX6) (T := TX6) (N := 26) hx hb hts iX6 hown hK.1 hP 0 rfl rfl 0 (by decide) kw_0 (fun _ h9 => h9) rfl dX6_spreads_39 ?_
  refine lv_icmp_gt (tgt := 149) hx hb dX6_spreads_42 (by decide) (fun c_42 => absurd c_42 (by decide)) (fun c_42 => ?_)
  refine lv_iconst (v := 0) hx hb dX6_spreads_45 (by decide) ?_
  refine lv_istore_n (lv' := [(2, .int 0), (1, .int 0), (0, .ref y0)]) hx hb dX6_spreads_46 rfl hl (by decide) rfl (fun ls hl => ?_)
  refine lv_iconst (v := 0) hx hb dX6_spreads_47 (by decide) ?_
  refine lv_istore_n (lv' := [(3, .int 0), (2, .int 0), (1, .int 0), (0, .ref y0)]) hx hb dX6_spreads_48 rfl hl (by decide) rfl (fun ls hl => ?_)
  refine lv_iload_n hx hb dX6_spreads_49 rfl (lv_at hl 0 rfl) ?_
  refine lv_aload_n hx hb dX6_spreads_50 rfl (lv_at hl 3 rfl) ?_
  refine va_get (D := D) (ci := 6) (v := .int 0) (C := RX6) (T := TX6) (N := 26) hx hb hts iX6 hown hK.1 hP 0 rfl rfl 1 (by decide) kw_2 (fun _ h9 => h9) rfl dX6_spreads_51 ?_
  refine lv_icmp_ge (tgt := 137) hx hb dX6_spreads_54 (by decide) (fun c_54 => ?_) (fun c_54 => absurd (by decide) c_54)
  refine lv_iload_n hx hb dX6_spreads_137 rfl (lv_at hl 1 rfl) ?_
  refine lv_if_ne (tgt := 143) hx hb dX6_spreads_138 (by decide) (fun c_138 => absurd c_138 (by decide)) (fun c_138 => ?_)
  refine lv_iconst (v := 1) hx hb dX6_spreads_141 (by decide) ?_
  exact en_z () hx hb hr hlocks hK (hP.sub [0] rfl) (hD.sub [0] (by decide) rfl) hS (Nat.le_of_ble_eq_true rfl) (Nat.le_of_ble_eq_true rfl) dX6_spreads_142 rfl (rfl)
set_option maxHeartbeats 4000000 in
set_option maxRecDepth 100000 in
theorem c_m_spread (l : Launch) (D : va_G) (cI cZ cR : ClassId) (y0 : Nat) (b3 : Nat) (b4 : Nat) (b5 : Nat) (b6 : Nat) (b7 : Nat) (b8 : Nat) (b9 : Nat) (b10 : Nat) (b11 : Nat) (b12 : Nat) (b13 : Nat) (b14 : Nat) (b15 : Nat) (b16 : Nat) (b17 : Nat) (b18 : Nat) (b19 : Nat) (b20 : Nat) (b21 : Nat) (b22 : Nat) (b24 : Nat) (b25 : Nat) : CI l D cI cZ cR yX6_spread wsX6_spread { frames := 1, cells := 0, slots := 0, locals := 24 } [.ref y0] [(y0, .inr (6, [.int 0, .int 0, .int 0, .ref b3, .ref b4, .ref b5, .ref b6, .ref b7, .ref b8, .ref b9, .ref b10, .ref b11, .ref b12, .ref b13, .ref b14, .ref b15, .ref b16, .ref b17, .ref b18, .ref b19, .ref b20, .ref b21, .ref b22, .int 0, .ref b24, .ref b25]))] (fun (r : Int32) (u : Unit) => r = 1) (fun (u : Unit) => []) := by
  intro sz
  refine en_W (Qc := fun A => va_Qi (fun (r : Int32) (u : Unit) => r = 1) (sB D cI cZ cR (fun (u : Unit) => []) A) A) (cc := cX6_spread) (maxL := 1) (ret := (some .int)) (by decide) rfl (Nat.le_of_ble_eq_true rfl) ?_
  intro p e s m below meth c A ls hx hb hr hts hown hlocks hin hml hK hP hD hS hA hl
  have hown : s.vm.findClass RX6 = some m.cls := hown
  have hl : lv_has ls 1 [(0, .ref y0)] := hl
  refine lv_aload_n hx hb dX6_spread_0 rfl (lv_at hl 0 rfl) ?_
  refine cl_i (wr := []) (va_runV (As := []) (rest := []) ⟨hx, hb, hml, hown, hts⟩ (c_m_spreads l D cI cZ cR y0 b3 b4 b5 b6 b7 b8 b9 b10 b11 b12 b13 b14 b15 b16 b17 b18 b19 b20 b21 b22 b24 b25 s.heap.size) (cwV 0 hts gX6_spread_X6_spreads rfl rfl rfl (by decide +kernel) ⟨Nat.le_of_ble_eq_true rfl, Nat.le_of_ble_eq_true rfl⟩) (pV 6 0 hK hP hD [0] rfl (by decide) rfl rfl) rfl rfl hl.1 rfl (lv_room (Nat.le_of_ble_eq_true rfl)) dX6_spread_1 ⟨Nat.le_of_ble_eq_true rfl, Nat.le_of_ble_eq_true rfl⟩) hP hD hS hA [0] [] rfl rfl (by decide) (by decide) (fun r_1 u_1 H locs hw_1 hP hD hS => ?_)
  have hP : va_P D vwCl [(y0, .inr (6, [.int 0, .int 0, .int 0, .ref b3, .ref b4, .ref b5, .ref b6, .ref b7, .ref b8, .ref b9, .ref b10, .ref b11, .ref b12, .ref b13, .ref b14, .ref b15, .ref b16, .ref b17, .ref b18, .ref b19, .ref b20, .ref b21, .ref b22, .int 0, .ref b24, .ref b25]))] H := hP
  have hD : va_D A [(y0, .inr (6, [.int 0, .int 0, .int 0, .ref b3, .ref b4, .ref b5, .ref b6, .ref b7, .ref b8, .ref b9, .ref b10, .ref b11, .ref b12, .ref b13, .ref b14, .ref b15, .ref b16, .ref b17, .ref b18, .ref b19, .ref b20, .ref b21, .ref b22, .int 0, .ref b24, .ref b25]))] := hD
  subst hw_1
  refine lv_if_eq (tgt := 11) hx hb dX6_spread_4 (by decide) (fun c_4 => absurd c_4 (by decide)) (fun c_4 => ?_)
  refine lv_iconst (v := 1) hx hb dX6_spread_7 (by decide) ?_
  refine lv_goto (tgt := 12) hx hb dX6_spread_8 (by decide) ?_
  exact en_i () hx hb hr hlocks hK (hP.sub [] rfl) (hD.sub [] (by decide) rfl) hS (Nat.le_of_ble_eq_true rfl) (Nat.le_of_ble_eq_true rfl) dX6_spread_12 (rfl)
set_option maxHeartbeats 4000000 in
set_option maxRecDepth 100000 in
theorem c_m_of (l : Launch) (D : va_G) (cI cZ cR : ClassId) (y0 : Nat) (b3 : Nat) (b4 : Nat) (b5 : Nat) (b6 : Nat) (b7 : Nat) (b8 : Nat) (b9 : Nat) (b10 : Nat) (b11 : Nat) (b12 : Nat) (b13 : Nat) (b14 : Nat) (b15 : Nat) (b16 : Nat) (b17 : Nat) (b18 : Nat) (b19 : Nat) (b20 : Nat) (b21 : Nat) (b22 : Nat) (b24 : Nat) (b25 : Nat) (e0 : Int32) (f1 : Int32) : CI l D cI cZ cR yX6_of wsX6_of { frames := 1, cells := 0, slots := 0, locals := 21 } [.ref y0, .int e0, .int f1] [(y0, .inr (6, [.int 0, .int 0, .int 0, .ref b3, .ref b4, .ref b5, .ref b6, .ref b7, .ref b8, .ref b9, .ref b10, .ref b11, .ref b12, .ref b13, .ref b14, .ref b15, .ref b16, .ref b17, .ref b18, .ref b19, .ref b20, .ref b21, .ref b22, .int 0, .ref b24, .ref b25]))] (fun (r : Int32) (u : Unit) => r = (-1)) (fun (u : Unit) => []) := by
  intro sz
  refine en_W (Qc := fun A => va_Qi (fun (r : Int32) (u : Unit) => r = (-1)) (sB D cI cZ cR (fun (u : Unit) => []) A) A) (cc := cX6_of) (maxL := 3) (ret := (some .int)) (by decide) rfl (Nat.le_of_ble_eq_true rfl) ?_
  intro p e s m below meth c A ls hx hb hr hts hown hlocks hin hml hK hP hD hS hA hl
  have hown : s.vm.findClass RX6 = some m.cls := hown
  have hl : lv_has ls 3 [(0, .ref y0), (1, .int e0), (2, .int f1)] := hl
  refine lv_aload_n hx hb dX6_of_0 rfl (lv_at hl 0 rfl) ?_
  refine lv_iload_n hx hb dX6_of_1 rfl (lv_at hl 1 rfl) ?_
  refine cl_i (wr := []) (va_runV (As := [.int e0]) (rest := []) ⟨hx, hb, hml, hown, hts⟩ (c_m_isEvent l D cI cZ cR y0 b3 b4 b5 b6 b7 b8 b9 b10 b11 b12 b13 b14 b15 b16 b17 b18 b19 b20 b21 b22 b24 b25 e0 s.heap.size) (cwV 1 hts gX6_of_X6_isEvent rfl rfl rfl (by decide +kernel) ⟨Nat.le_of_ble_eq_true rfl, Nat.le_of_ble_eq_true rfl⟩) (pV 6 0 hK hP hD [0] rfl (by decide) rfl rfl) rfl rfl hl.1 rfl (lv_room (Nat.le_of_ble_eq_true rfl)) dX6_of_2 ⟨Nat.le_of_ble_eq_true rfl, Nat.le_of_ble_eq_true rfl⟩) hP hD hS hA [0] [] rfl rfl (by decide) (by decide) (fun r_2 u_2 H locs hw_2 hP hD hS => ?_)
  have hP : va_P D vwCl [(y0, .inr (6, [.int 0, .int 0, .int 0, .ref b3, .ref b4, .ref b5, .ref b6, .ref b7, .ref b8, .ref b9, .ref b10, .ref b11, .ref b12, .ref b13, .ref b14, .ref b15, .ref b16, .ref b17, .ref b18, .ref b19, .ref b20, .ref b21, .ref b22, .int 0, .ref b24, .ref b25]))] H := hP
  have hD : va_D A [(y0, .inr (6, [.int 0, .int 0, .int 0, .ref b3, .ref b4, .ref b5, .ref b6, .ref b7, .ref b8, .ref b9, .ref b10, .ref b11, .ref b12, .ref b13, .ref b14, .ref b15, .ref b16, .ref b17, .ref b18, .ref b19, .ref b20, .ref b21, .ref b22, .int 0, .ref b24, .ref b25]))] := hD
  subst hw_2
  refine lv_if_ne (tgt := 10) hx hb dX6_of_5 (by decide) (fun c_5 => absurd c_5 (by decide)) (fun c_5 => ?_)
  refine lv_iconst (v := (-1)) hx hb dX6_of_8 (by decide) ?_
  exact en_i () hx hb hr hlocks hK (hP.sub [] rfl) (hD.sub [] (by decide) rfl) hS (Nat.le_of_ble_eq_true rfl) (Nat.le_of_ble_eq_true rfl) dX6_of_9 (rfl)
set_option maxHeartbeats 4000000 in
set_option maxRecDepth 100000 in
theorem c_m_look (l : Launch) (D : va_G) (cI cZ cR : ClassId) (y0 : Nat) (b3 : Nat) (b4 : Nat) (b5 : Nat) (b6 : Nat) (b7 : Nat) (b8 : Nat) (b9 : Nat) (b10 : Nat) (b11 : Nat) (b12 : Nat) (b13 : Nat) (b14 : Nat) (b15 : Nat) (b16 : Nat) (b17 : Nat) (b18 : Nat) (b19 : Nat) (b20 : Nat) (b21 : Nat) (b22 : Nat) (b24 : Nat) (b25 : Nat) (e0 : Int32) (f1 : Int32) : CI l D cI cZ cR yX6_look wsX6_look { frames := 1, cells := 0, slots := 0, locals := 21 } [.ref y0, .int e0, .int f1] [(y0, .inr (6, [.int 0, .int 0, .int 0, .ref b3, .ref b4, .ref b5, .ref b6, .ref b7, .ref b8, .ref b9, .ref b10, .ref b11, .ref b12, .ref b13, .ref b14, .ref b15, .ref b16, .ref b17, .ref b18, .ref b19, .ref b20, .ref b21, .ref b22, .int 0, .ref b24, .ref b25]))] (fun (r : Int32) (u : Unit) => r = (-1)) (fun (u : Unit) => []) := by
  intro sz
  refine en_W (Qc := fun A => va_Qi (fun (r : Int32) (u : Unit) => r = (-1)) (sB D cI cZ cR (fun (u : Unit) => []) A) A) (cc := cX6_look) (maxL := 3) (ret := (some .int)) (by decide) rfl (Nat.le_of_ble_eq_true rfl) ?_
  intro p e s m below meth c A ls hx hb hr hts hown hlocks hin hml hK hP hD hS hA hl
  have hown : s.vm.findClass RX6 = some m.cls := hown
  have hl : lv_has ls 3 [(0, .ref y0), (1, .int e0), (2, .int f1)] := hl
  refine lv_aload_n hx hb dX6_look_0 rfl (lv_at hl 0 rfl) ?_
  refine lv_iload_n hx hb dX6_look_1 rfl (lv_at hl 1 rfl) ?_
  refine cl_i (wr := []) (va_runV (As := [.int e0]) (rest := []) ⟨hx, hb, hml, hown, hts⟩ (c_m_isActivity l D cI cZ cR y0 b3 b4 b5 b6 b7 b8 b9 b10 b11 b12 b13 b14 b15 b16 b17 b18 b19 b20 b21 b22 b24 b25 e0 s.heap.size) (cwV 1 hts gX6_look_X6_isActivity rfl rfl rfl (by decide +kernel) ⟨Nat.le_of_ble_eq_true rfl, Nat.le_of_ble_eq_true rfl⟩) (pV 6 0 hK hP hD [0] rfl (by decide) rfl rfl) rfl rfl hl.1 rfl (lv_room (Nat.le_of_ble_eq_true rfl)) dX6_look_2 ⟨Nat.le_of_ble_eq_true rfl, Nat.le_of_ble_eq_true rfl⟩) hP hD hS hA [0] [] rfl rfl (by decide) (by decide) (fun r_2 u_2 H locs hw_2 hP hD hS => ?_)
  have hP : va_P D vwCl [(y0, .inr (6, [.int 0, .int 0, .int 0, .ref b3, .ref b4, .ref b5, .ref b6, .ref b7, .ref b8, .ref b9, .ref b10, .ref b11, .ref b12, .ref b13, .ref b14, .ref b15, .ref b16, .ref b17, .ref b18, .ref b19, .ref b20, .ref b21, .ref b22, .int 0, .ref b24, .ref b25]))] H := hP
  have hD : va_D A [(y0, .inr (6, [.int 0, .int 0, .int 0, .ref b3, .ref b4, .ref b5, .ref b6, .ref b7, .ref b8, .ref b9, .ref b10, .ref b11, .ref b12, .ref b13, .ref b14, .ref b15, .ref b16, .ref b17, .ref b18, .ref b19, .ref b20, .ref b21, .ref b22, .int 0, .ref b24, .ref b25]))] := hD
  subst hw_2
  refine lv_if_ne (tgt := 10) hx hb dX6_look_5 (by decide) (fun c_5 => absurd c_5 (by decide)) (fun c_5 => ?_)
  refine lv_iconst (v := (-1)) hx hb dX6_look_8 (by decide) ?_
  exact en_i () hx hb hr hlocks hK (hP.sub [] rfl) (hD.sub [] (by decide) rfl) hS (Nat.le_of_ble_eq_true rfl) (Nat.le_of_ble_eq_true rfl) dX6_look_9 (rfl)
set_option maxHeartbeats 4000000 in
set_option maxRecDepth 100000 in
theorem c_m_isLate (l : Launch) (D : va_G) (cI cZ cR : ClassId) (y0 : Nat) (b3 : Nat) (b4 : Nat) (b5 : Nat) (b6 : Nat) (b7 : Nat) (b8 : Nat) (b9 : Nat) (b10 : Nat) (b11 : Nat) (b12 : Nat) (b13 : Nat) (b14 : Nat) (b15 : Nat) (b16 : Nat) (b17 : Nat) (b18 : Nat) (b19 : Nat) (b20 : Nat) (b21 : Nat) (b22 : Nat) (b24 : Nat) (b25 : Nat) (e0 : Int32) : CI l D cI cZ cR yX6_isLate wsX6_isLate { frames := 1, cells := 0, slots := 0, locals := 21 } [.ref y0, .int e0] [(y0, .inr (6, [.int 0, .int 0, .int 0, .ref b3, .ref b4, .ref b5, .ref b6, .ref b7, .ref b8, .ref b9, .ref b10, .ref b11, .ref b12, .ref b13, .ref b14, .ref b15, .ref b16, .ref b17, .ref b18, .ref b19, .ref b20, .ref b21, .ref b22, .int 0, .ref b24, .ref b25]))] (fun (r : Int32) (u : Unit) => r = 0) (fun (u : Unit) => [(y0, .inr (6, [.int 0, .int 0, .int 0, .ref b3, .ref b4, .ref b5, .ref b6, .ref b7, .ref b8, .ref b9, .ref b10, .ref b11, .ref b12, .ref b13, .ref b14, .ref b15, .ref b16, .ref b17, .ref b18, .ref b19, .ref b20, .ref b21, .ref b22, .int 0, .ref b24, .ref b25]))]) := by
  intro sz
  refine en_W (Qc := fun A => va_Qi (fun (r : Int32) (u : Unit) => r = 0) (sB D cI cZ cR (fun (u : Unit) => [(y0, .inr (6, [.int 0, .int 0, .int 0, .ref b3, .ref b4, .ref b5, .ref b6, .ref b7, .ref b8, .ref b9, .ref b10, .ref b11, .ref b12, .ref b13, .ref b14, .ref b15, .ref b16, .ref b17, .ref b18, .ref b19, .ref b20, .ref b21, .ref b22, .int 0, .ref b24, .ref b25]))]) A) A) (cc := cX6_isLate) (maxL := 2) (ret := (some .boolean)) (by decide) rfl (Nat.le_of_ble_eq_true rfl) ?_
  intro p e s m below meth c A ls hx hb hr hts hown hlocks hin hml hK hP hD hS hA hl
  have hown : s.vm.findClass RX6 = some m.cls := hown
  have hl : lv_has ls 2 [(0, .ref y0), (1, .int e0)] := hl
  refine lv_aload_n hx hb dX6_isLate_0 rfl (lv_at hl 0 rfl) ?_
  refine lv_iload_n hx hb dX6_isLate_1 rfl (lv_at hl 1 rfl) ?_
  refine cl_i (wr := []) (va_runV (As := [.int e0]) (rest := []) ⟨hx, hb, hml, hown, hts⟩ (c_m_isEvent l D cI cZ cR y0 b3 b4 b5 b6 b7 b8 b9 b10 b11 b12 b13 b14 b15 b16 b17 b18 b19 b20 b21 b22 b24 b25 e0 s.heap.size) (cwV 1 hts gX6_isLate_X6_isEvent rfl rfl rfl (by decide +kernel) ⟨Nat.le_of_ble_eq_true rfl, Nat.le_of_ble_eq_true rfl⟩) (pV 6 0 hK hP hD [0] rfl (by decide) rfl rfl) rfl rfl hl.1 rfl (lv_room (Nat.le_of_ble_eq_true rfl)) dX6_isLate_2 ⟨Nat.le_of_ble_eq_true rfl, Nat.le_of_ble_eq_true rfl⟩) hP hD hS hA [0] [] rfl rfl (by decide) (by decide) (fun r_2 u_2 H locs hw_2 hP hD hS => ?_)
  have hP : va_P D vwCl [(y0, .inr (6, [.int 0, .int 0, .int 0, .ref b3, .ref b4, .ref b5, .ref b6, .ref b7, .ref b8, .ref b9, .ref b10, .ref b11, .ref b12, .ref b13, .ref b14, .ref b15, .ref b16, .ref b17, .ref b18, .ref b19, .ref b20, .ref b21, .ref b22, .int 0, .ref b24, .ref b25]))] H := hP
  have hD : va_D A [(y0, .inr (6, [.int 0, .int 0, .int 0, .ref b3, .ref b4, .ref b5, .ref b6, .ref b7, .ref b8, .ref b9, .ref b10, .ref b11, .ref b12, .ref b13, .ref b14, .ref b15, .ref b16, .ref b17, .ref b18, .ref b19, .ref b20, .ref b21, .ref b22, .int 0, .ref b24, .ref b25]))] := hD
  subst hw_2
  refine lv_if_eq (tgt := 35) hx hb dX6_isLate_5 (by decide) (fun c_5 => ?_) (fun c_5 => absurd (by decide) c_5)
  refine lv_iconst (v := 0) hx hb dX6_isLate_35 (by decide) ?_
  exact en_z () hx hb hr hlocks hK (hP.sub [0] rfl) (hD.sub [0] (by decide) rfl) hS (Nat.le_of_ble_eq_true rfl) (Nat.le_of_ble_eq_true rfl) dX6_isLate_36 rfl (rfl)
set_option maxHeartbeats 4000000 in
set_option maxRecDepth 100000 in
theorem c_m_cause (l : Launch) (D : va_G) (cI cZ cR : ClassId) (y0 : Nat) (b3 : Nat) (b4 : Nat) (b5 : Nat) (b6 : Nat) (b7 : Nat) (b8 : Nat) (b9 : Nat) (b10 : Nat) (b11 : Nat) (b12 : Nat) (b13 : Nat) (b14 : Nat) (b15 : Nat) (b16 : Nat) (b17 : Nat) (b18 : Nat) (b19 : Nat) (b20 : Nat) (b21 : Nat) (b22 : Nat) (b24 : Nat) (b25 : Nat) (e0 : Int32) : CI l D cI cZ cR yX6_cause wsX6_cause { frames := 2, cells := 0, slots := 0, locals := 42 } [.ref y0, .int e0] [(y0, .inr (6, [.int 0, .int 0, .int 0, .ref b3, .ref b4, .ref b5, .ref b6, .ref b7, .ref b8, .ref b9, .ref b10, .ref b11, .ref b12, .ref b13, .ref b14, .ref b15, .ref b16, .ref b17, .ref b18, .ref b19, .ref b20, .ref b21, .ref b22, .int 0, .ref b24, .ref b25]))] (fun (r : Int32) (u : Unit) => r = (-1)) (fun (u : Unit) => []) := by
  intro sz
  refine en_W (Qc := fun A => va_Qi (fun (r : Int32) (u : Unit) => r = (-1)) (sB D cI cZ cR (fun (u : Unit) => []) A) A) (cc := cX6_cause) (maxL := 2) (ret := (some .int)) (by decide) rfl (Nat.le_of_ble_eq_true rfl) ?_
  intro p e s m below meth c A ls hx hb hr hts hown hlocks hin hml hK hP hD hS hA hl
  have hown : s.vm.findClass RX6 = some m.cls := hown
  have hl : lv_has ls 2 [(0, .ref y0), (1, .int e0)] := hl
  refine lv_aload_n hx hb dX6_cause_0 rfl (lv_at hl 0 rfl) ?_
  refine lv_iload_n hx hb dX6_cause_1 rfl (lv_at hl 1 rfl) ?_
  refine cl_i (wr := []) (va_runV (As := [.int e0]) (rest := []) ⟨hx, hb, hml, hown, hts⟩ (c_m_isLate l D cI cZ cR y0 b3 b4 b5 b6 b7 b8 b9 b10 b11 b12 b13 b14 b15 b16 b17 b18 b19 b20 b21 b22 b24 b25 e0 s.heap.size) (cwV 1 hts gX6_cause_X6_isLate rfl rfl rfl (by decide +kernel) ⟨Nat.le_of_ble_eq_true rfl, Nat.le_of_ble_eq_true rfl⟩) (pV 6 0 hK hP hD [0] rfl (by decide) rfl rfl) rfl rfl hl.1 rfl (lv_room (Nat.le_of_ble_eq_true rfl)) dX6_cause_2 ⟨Nat.le_of_ble_eq_true rfl, Nat.le_of_ble_eq_true rfl⟩) hP hD hS hA [0] [] rfl rfl (by decide) (by decide) (fun r_2 u_2 H locs hw_2 hP hD hS => ?_)
  have hP : va_P D vwCl [(y0, .inr (6, [.int 0, .int 0, .int 0, .ref b3, .ref b4, .ref b5, .ref b6, .ref b7, .ref b8, .ref b9, .ref b10, .ref b11, .ref b12, .ref b13, .ref b14, .ref b15, .ref b16, .ref b17, .ref b18, .ref b19, .ref b20, .ref b21, .ref b22, .int 0, .ref b24, .ref b25]))] H := hP
  have hD : va_D A [(y0, .inr (6, [.int 0, .int 0, .int 0, .ref b3, .ref b4, .ref b5, .ref b6, .ref b7, .ref b8, .ref b9, .ref b10, .ref b11, .ref b12, .ref b13, .ref b14, .ref b15, .ref b16, .ref b17, .ref b18, .ref b19, .ref b20, .ref b21, .ref b22, .int 0, .ref b24, .ref b25]))] := hD
  subst hw_2
  refine lv_if_eq (tgt := 16) hx hb dX6_cause_5 (by decide) (fun c_5 => ?_) (fun c_5 => absurd (by decide) c_5)
  refine lv_iconst (v := (-1)) hx hb dX6_cause_16 (by decide) ?_
  exact en_i () hx hb hr hlocks hK (hP.sub [] rfl) (hD.sub [] (by decide) rfl) hS (Nat.le_of_ble_eq_true rfl) (Nat.le_of_ble_eq_true rfl) dX6_cause_17 (rfl)
set_option maxHeartbeats 4000000 in
set_option maxRecDepth 100000 in
theorem c_m_way (l : Launch) (D : va_G) (cI cZ cR : ClassId) (y0 : Nat) (b3 : Nat) (b4 : Nat) (b5 : Nat) (b6 : Nat) (b7 : Nat) (b8 : Nat) (b9 : Nat) (b10 : Nat) (b11 : Nat) (b12 : Nat) (b13 : Nat) (b14 : Nat) (b15 : Nat) (b16 : Nat) (b17 : Nat) (b18 : Nat) (b19 : Nat) (b20 : Nat) (b21 : Nat) (b22 : Nat) (b24 : Nat) (b25 : Nat) (e0 : Int32) (f1 : Int32) : CI l D cI cZ cR yX6_way wsX6_way { frames := 2, cells := 0, slots := 0, locals := 42 } [.ref y0, .int e0, .int f1] [(y0, .inr (6, [.int 0, .int 0, .int 0, .ref b3, .ref b4, .ref b5, .ref b6, .ref b7, .ref b8, .ref b9, .ref b10, .ref b11, .ref b12, .ref b13, .ref b14, .ref b15, .ref b16, .ref b17, .ref b18, .ref b19, .ref b20, .ref b21, .ref b22, .int 0, .ref b24, .ref b25]))] (fun (r : Int32) (u : Unit) => r = (-1)) (fun (u : Unit) => []) := by
  intro sz
  refine en_W (Qc := fun A => va_Qi (fun (r : Int32) (u : Unit) => r = (-1)) (sB D cI cZ cR (fun (u : Unit) => []) A) A) (cc := cX6_way) (maxL := 8) (ret := (some .int)) (by decide) rfl (Nat.le_of_ble_eq_true rfl) ?_
  intro p e s m below meth c A ls hx hb hr hts hown hlocks hin hml hK hP hD hS hA hl
  have hown : s.vm.findClass RX6 = some m.cls := hown
  have hl : lv_has ls 8 [(0, .ref y0), (1, .int e0), (2, .int f1)] := hl
  refine lv_iload_n hx hb dX6_way_0 rfl (lv_at hl 2 rfl) ?_
  refine lv_if_lt (tgt := 12) hx hb dX6_way_1 (by decide) (fun c_1 => ?_) (fun c_1 => ?_)
  · refine lv_iconst (v := (-1)) hx hb dX6_way_12 (by decide) ?_
    exact en_i () hx hb hr hlocks hK (hP.sub [] rfl) (hD.sub [] (by decide) rfl) hS (Nat.le_of_ble_eq_true rfl) (Nat.le_of_ble_eq_true rfl) dX6_way_13 (rfl)
  · refine lv_aload_n hx hb dX6_way_4 rfl (lv_at hl 0 rfl) ?_
    refine lv_iload_n hx hb dX6_way_5 rfl (lv_at hl 1 rfl) ?_
    refine cl_i (wr := []) (va_runV (As := [.int e0]) (rest := []) ⟨hx, hb, hml, hown, hts⟩ (c_m_isLate l D cI cZ cR y0 b3 b4 b5 b6 b7 b8 b9 b10 b11 b12 b13 b14 b15 b16 b17 b18 b19 b20 b21 b22 b24 b25 e0 s.heap.size) (cwV 1 hts gX6_way_X6_isLate rfl rfl rfl (by decide +kernel) ⟨Nat.le_of_ble_eq_true rfl, Nat.le_of_ble_eq_true rfl⟩) (pV 6 0 hK hP hD [0] rfl (by decide) rfl rfl) rfl rfl hl.1 rfl (lv_room (Nat.le_of_ble_eq_true rfl)) dX6_way_6 ⟨Nat.le_of_ble_eq_true rfl, Nat.le_of_ble_eq_true rfl⟩) hP hD hS hA [0] [] rfl rfl (by decide) (by decide) (fun r_6 u_6 H locs hw_6 hP hD hS => ?_)
    have hP : va_P D vwCl [(y0, .inr (6, [.int 0, .int 0, .int 0, .ref b3, .ref b4, .ref b5, .ref b6, .ref b7, .ref b8, .ref b9, .ref b10, .ref b11, .ref b12, .ref b13, .ref b14, .ref b15, .ref b16, .ref b17, .ref b18, .ref b19, .ref b20, .ref b21, .ref b22, .int 0, .ref b24, .ref b25]))] H := hP
    have hD : va_D A [(y0, .inr (6, [.int 0, .int 0, .int 0, .ref b3, .ref b4, .ref b5, .ref b6, .ref b7, .ref b8, .ref b9, .ref b10, .ref b11, .ref b12, .ref b13, .ref b14, .ref b15, .ref b16, .ref b17, .ref b18, .ref b19, .ref b20, .ref b21, .ref b22, .int 0, .ref b24, .ref b25]))] := hD
    subst hw_6
    refine lv_if_ne (tgt := 14) hx hb dX6_way_9 (by decide) (fun c_9 => absurd c_9 (by decide)) (fun c_9 => ?_)
    refine lv_iconst (v := (-1)) hx hb dX6_way_12 (by decide) ?_
    exact en_i () hx hb hr hlocks hK (hP.sub [] rfl) (hD.sub [] (by decide) rfl) hS (Nat.le_of_ble_eq_true rfl) (Nat.le_of_ble_eq_true rfl) dX6_way_13 (rfl)
set_option maxHeartbeats 4000000 in
set_option maxRecDepth 100000 in
theorem c_m_ring (l : Launch) (D : va_G) (cI cZ cR : ClassId) (y0 : Nat) (b3 : Nat) (b4 : Nat) (b5 : Nat) (b6 : Nat) (b7 : Nat) (b8 : Nat) (b9 : Nat) (b10 : Nat) (b11 : Nat) (b12 : Nat) (b13 : Nat) (b14 : Nat) (b15 : Nat) (b16 : Nat) (b17 : Nat) (b18 : Nat) (b19 : Nat) (b20 : Nat) (b21 : Nat) (b22 : Nat) (b24 : Nat) (b25 : Nat) (e0 : Int32) : CI l D cI cZ cR yX6_ring wsX6_ring { frames := 1, cells := 0, slots := 0, locals := 24 } [.ref y0, .int e0] [(y0, .inr (6, [.int 0, .int 0, .int 0, .ref b3, .ref b4, .ref b5, .ref b6, .ref b7, .ref b8, .ref b9, .ref b10, .ref b11, .ref b12, .ref b13, .ref b14, .ref b15, .ref b16, .ref b17, .ref b18, .ref b19, .ref b20, .ref b21, .ref b22, .int 0, .ref b24, .ref b25]))] (fun (r : Int32) (u : Unit) => r = (-1)) (fun (u : Unit) => []) := by
  intro sz
  refine en_W (Qc := fun A => va_Qi (fun (r : Int32) (u : Unit) => r = (-1)) (sB D cI cZ cR (fun (u : Unit) => []) A) A) (cc := cX6_ring) (maxL := 2) (ret := (some .int)) (by decide) rfl (Nat.le_of_ble_eq_true rfl) ?_
  intro p e s m below meth c A ls hx hb hr hts hown hlocks hin hml hK hP hD hS hA hl
  have hown : s.vm.findClass RX6 = some m.cls := hown
  have hl : lv_has ls 2 [(0, .ref y0), (1, .int e0)] := hl
  refine lv_iload_n hx hb dX6_ring_0 rfl (lv_at hl 1 rfl) ?_
  refine lv_if_lt (tgt := 11) hx hb dX6_ring_1 (by decide) (fun c_1 => ?_) (fun c_1 => ?_)
  · refine lv_iconst (v := (-1)) hx hb dX6_ring_11 (by decide) ?_
    exact en_i () hx hb hr hlocks hK (hP.sub [] rfl) (hD.sub [] (by decide) rfl) hS (Nat.le_of_ble_eq_true rfl) (Nat.le_of_ble_eq_true rfl) dX6_ring_12 (rfl)
  · refine lv_aload_n hx hb dX6_ring_4 rfl (lv_at hl 0 rfl) ?_
    refine cl_i (wr := []) (va_runV (As := []) (rest := []) ⟨hx, hb, hml, hown, hts⟩ (c_m_spreads l D cI cZ cR y0 b3 b4 b5 b6 b7 b8 b9 b10 b11 b12 b13 b14 b15 b16 b17 b18 b19 b20 b21 b22 b24 b25 s.heap.size) (cwV 0 hts gX6_ring_X6_spreads rfl rfl rfl (by decide +kernel) ⟨Nat.le_of_ble_eq_true rfl, Nat.le_of_ble_eq_true rfl⟩) (pV 6 0 hK hP hD [0] rfl (by decide) rfl rfl) rfl rfl hl.1 rfl (lv_room (Nat.le_of_ble_eq_true rfl)) dX6_ring_5 ⟨Nat.le_of_ble_eq_true rfl, Nat.le_of_ble_eq_true rfl⟩) hP hD hS hA [0] [] rfl rfl (by decide) (by decide) (fun r_5 u_5 H locs hw_5 hP hD hS => ?_)
    have hP : va_P D vwCl [(y0, .inr (6, [.int 0, .int 0, .int 0, .ref b3, .ref b4, .ref b5, .ref b6, .ref b7, .ref b8, .ref b9, .ref b10, .ref b11, .ref b12, .ref b13, .ref b14, .ref b15, .ref b16, .ref b17, .ref b18, .ref b19, .ref b20, .ref b21, .ref b22, .int 0, .ref b24, .ref b25]))] H := hP
    have hD : va_D A [(y0, .inr (6, [.int 0, .int 0, .int 0, .ref b3, .ref b4, .ref b5, .ref b6, .ref b7, .ref b8, .ref b9, .ref b10, .ref b11, .ref b12, .ref b13, .ref b14, .ref b15, .ref b16, .ref b17, .ref b18, .ref b19, .ref b20, .ref b21, .ref b22, .int 0, .ref b24, .ref b25]))] := hD
    subst hw_5
    refine lv_if_eq (tgt := 13) hx hb dX6_ring_8 (by decide) (fun c_8 => absurd c_8 (by decide)) (fun c_8 => ?_)
    refine lv_iconst (v := (-1)) hx hb dX6_ring_11 (by decide) ?_
    exact en_i () hx hb hr hlocks hK (hP.sub [] rfl) (hD.sub [] (by decide) rfl) hS (Nat.le_of_ble_eq_true rfl) (Nat.le_of_ble_eq_true rfl) dX6_ring_12 (rfl)
set_option maxHeartbeats 4000000 in
set_option maxRecDepth 100000 in
theorem c_m_told (l : Launch) (D : va_G) (cI cZ cR : ClassId) (y0 : Nat) (b3 : Nat) (b4 : Nat) (b5 : Nat) (b6 : Nat) (b7 : Nat) (b8 : Nat) (b9 : Nat) (b10 : Nat) (b11 : Nat) (b12 : Nat) (b13 : Nat) (b14 : Nat) (b15 : Nat) (b16 : Nat) (b17 : Nat) (b18 : Nat) (b19 : Nat) (b20 : Nat) (b21 : Nat) (b22 : Nat) (b24 : Nat) (b25 : Nat) (e0 : Int32) (f1 : Int32) : CI l D cI cZ cR yX6_told wsX6_told { frames := 0, cells := 0, slots := 0, locals := 0 } [.ref y0, .int e0, .int f1] [(y0, .inr (6, [.int 0, .int 0, .int 0, .ref b3, .ref b4, .ref b5, .ref b6, .ref b7, .ref b8, .ref b9, .ref b10, .ref b11, .ref b12, .ref b13, .ref b14, .ref b15, .ref b16, .ref b17, .ref b18, .ref b19, .ref b20, .ref b21, .ref b22, .int 0, .ref b24, .ref b25]))] (fun (r : Int32) (u : Unit) => r = (-1)) (fun (u : Unit) => []) := by
  intro sz
  refine en_W (Qc := fun A => va_Qi (fun (r : Int32) (u : Unit) => r = (-1)) (sB D cI cZ cR (fun (u : Unit) => []) A) A) (cc := cX6_told) (maxL := 3) (ret := (some .int)) (by decide) rfl (Nat.le_of_ble_eq_true rfl) ?_
  intro p e s m below meth c A ls hx hb hr hts hown hlocks hin hml hK hP hD hS hA hl
  have hown : s.vm.findClass RX6 = some m.cls := hown
  have hl : lv_has ls 3 [(0, .ref y0), (1, .int e0), (2, .int f1)] := hl
  have kw_0 := hts (.fieldLink RX6 97 "DelayDeskModel" "groups" "I") (by decide +kernel)
  have iX6 : ∀ w ∈ u_ws RX6 TX6 26, w ∈ wsX6_told := by decide +kernel
  refine lv_iload_n hx hb dX6_told_0 rfl (lv_at hl 1 rfl) ?_
  refine lv_if_lt (tgt := 21) hx hb dX6_told_1 (by decide) (fun c_1 => ?_) (fun c_1 => ?_)
  · refine lv_iconst (v := (-1)) hx hb dX6_told_21 (by decide) ?_
    exact en_i () hx hb hr hlocks hK (hP.sub [] rfl) (hD.sub [] (by decide) rfl) hS (Nat.le_of_ble_eq_true rfl) (Nat.le_of_ble_eq_true rfl) dX6_told_22 (rfl)
  · refine lv_iload_n hx hb dX6_told_4 rfl (lv_at hl 1 rfl) ?_
    refine lv_aload_n hx hb dX6_told_5 rfl (lv_at hl 0 rfl) ?_
    refine va_get (D := D) (ci := 6) (v := .int 0) (C := RX6) (T := TX6) (N := 26) hx hb hts iX6 hown hK.1 hP 0 rfl rfl 2 (by decide) kw_0 (fun _ h9 => h9) rfl dX6_told_6 ?_
    refine lv_icmp_ge (tgt := 21) hx hb dX6_told_9 (by decide) (fun c_9 => ?_) (fun c_9 => (ab2 c_1 c_9).elim)
    refine lv_iconst (v := (-1)) hx hb dX6_told_21 (by decide) ?_
    exact en_i () hx hb hr hlocks hK (hP.sub [] rfl) (hD.sub [] (by decide) rfl) hS (Nat.le_of_ble_eq_true rfl) (Nat.le_of_ble_eq_true rfl) dX6_told_22 (rfl)
set_option maxHeartbeats 4000000 in
set_option maxRecDepth 100000 in
theorem c_m_costs (l : Launch) (D : va_G) (cI cZ cR : ClassId) (y0 : Nat) (b3 : Nat) (b4 : Nat) (b5 : Nat) (b6 : Nat) (b7 : Nat) (b8 : Nat) (b9 : Nat) (b10 : Nat) (b11 : Nat) (b12 : Nat) (b13 : Nat) (b14 : Nat) (b15 : Nat) (b16 : Nat) (b17 : Nat) (b18 : Nat) (b19 : Nat) (b20 : Nat) (b21 : Nat) (b22 : Nat) (b24 : Nat) (b25 : Nat) : CL l D cI cZ cR yX6_costs wsX6_costs { frames := 0, cells := 0, slots := 0, locals := 0 } [.ref y0] [(y0, .inr (6, [.int 0, .int 0, .int 0, .ref b3, .ref b4, .ref b5, .ref b6, .ref b7, .ref b8, .ref b9, .ref b10, .ref b11, .ref b12, .ref b13, .ref b14, .ref b15, .ref b16, .ref b17, .ref b18, .ref b19, .ref b20, .ref b21, .ref b22, .int 0, .ref b24, .ref b25]))] (fun (r : Int64) (u : Unit) => r = 0) (fun (u : Unit) => [(y0, .inr (6, [.int 0, .int 0, .int 0, .ref b3, .ref b4, .ref b5, .ref b6, .ref b7, .ref b8, .ref b9, .ref b10, .ref b11, .ref b12, .ref b13, .ref b14, .ref b15, .ref b16, .ref b17, .ref b18, .ref b19, .ref b20, .ref b21, .ref b22, .int 0, .ref b24, .ref b25]))]) := by
  intro sz
  refine en_W (Qc := fun A => va_Ql (fun (r : Int64) (u : Unit) => r = 0) (sB D cI cZ cR (fun (u : Unit) => [(y0, .inr (6, [.int 0, .int 0, .int 0, .ref b3, .ref b4, .ref b5, .ref b6, .ref b7, .ref b8, .ref b9, .ref b10, .ref b11, .ref b12, .ref b13, .ref b14, .ref b15, .ref b16, .ref b17, .ref b18, .ref b19, .ref b20, .ref b21, .ref b22, .int 0, .ref b24, .ref b25]))]) A) A) (cc := cX6_costs) (maxL := 4) (ret := (some .long)) (by decide) rfl (Nat.le_of_ble_eq_true rfl) ?_
  intro p e s m below meth c A ls hx hb hr hts hown hlocks hin hml hK hP hD hS hA hl
  have hown : s.vm.findClass RX6 = some m.cls := hown
  have hl : lv_has ls 4 [(0, .ref y0)] := hl
  have kw_0 := hts (.fieldLink RX6 97 "DelayDeskModel" "groups" "I") (by decide +kernel)
  have iX6 : ∀ w ∈ u_ws RX6 TX6 26, w ∈ wsX6_costs := by decide +kernel
  refine lv_lconst (v := 0) hx hb dX6_costs_0 (by decide) ?_
  refine lv_lstore_n (lv' := [(1, .long 0), (0, .ref y0)]) hx hb dX6_costs_1 rfl hl (by decide) rfl (fun ls hl => ?_)
  refine lv_iconst (v := 0) hx hb dX6_costs_2 (by decide) ?_
  refine lv_istore_n (lv' := [(3, .int 0), (1, .long 0), (0, .ref y0)]) hx hb dX6_costs_3 rfl hl (by decide) rfl (fun ls hl => ?_)
  refine lv_iload_n hx hb dX6_costs_4 rfl (lv_at hl 0 rfl) ?_
  refine lv_aload_n hx hb dX6_costs_5 rfl (lv_at hl 2 rfl) ?_
  refine va_get (D := D) (ci := 6) (v := .int 0) (C := RX6) (T := TX6) (N := 26) hx hb hts iX6 hown hK.1 hP 0 rfl rfl 2 (by decide) kw_0 (fun _ h9 => h9) rfl dX6_costs_6 ?_
  refine lv_icmp_ge (tgt := 35) hx hb dX6_costs_9 (by decide) (fun c_9 => ?_) (fun c_9 => absurd (by decide) c_9)
  refine lv_lload_n hx hb dX6_costs_35 rfl (lv_at hl 1 rfl) ?_
  exact en_l () hx hb hr hlocks hK (hP.sub [0] rfl) (hD.sub [0] (by decide) rfl) hS (Nat.le_of_ble_eq_true rfl) (Nat.le_of_ble_eq_true rfl) dX6_costs_36 (rfl)
set_option maxHeartbeats 4000000 in
set_option maxRecDepth 100000 in
theorem c_m_cost (l : Launch) (D : va_G) (cI cZ cR : ClassId) (y0 : Nat) (b3 : Nat) (b4 : Nat) (b5 : Nat) (b6 : Nat) (b7 : Nat) (b8 : Nat) (b9 : Nat) (b10 : Nat) (b11 : Nat) (b12 : Nat) (b13 : Nat) (b14 : Nat) (b15 : Nat) (b16 : Nat) (b17 : Nat) (b18 : Nat) (b19 : Nat) (b20 : Nat) (b21 : Nat) (b22 : Nat) (b24 : Nat) (b25 : Nat) : CL l D cI cZ cR yX6_cost wsX6_cost { frames := 1, cells := 0, slots := 0, locals := 24 } [.ref y0] [(y0, .inr (6, [.int 0, .int 0, .int 0, .ref b3, .ref b4, .ref b5, .ref b6, .ref b7, .ref b8, .ref b9, .ref b10, .ref b11, .ref b12, .ref b13, .ref b14, .ref b15, .ref b16, .ref b17, .ref b18, .ref b19, .ref b20, .ref b21, .ref b22, .int 0, .ref b24, .ref b25]))] (fun (r : Int64) (u : Unit) => r = 0) (fun (u : Unit) => []) := by
  intro sz
  refine en_W (Qc := fun A => va_Ql (fun (r : Int64) (u : Unit) => r = 0) (sB D cI cZ cR (fun (u : Unit) => []) A) A) (cc := cX6_cost) (maxL := 1) (ret := (some .long)) (by decide) rfl (Nat.le_of_ble_eq_true rfl) ?_
  intro p e s m below meth c A ls hx hb hr hts hown hlocks hin hml hK hP hD hS hA hl
  have hown : s.vm.findClass RX6 = some m.cls := hown
  have hl : lv_has ls 1 [(0, .ref y0)] := hl
  refine lv_aload_n hx hb dX6_cost_0 rfl (lv_at hl 0 rfl) ?_
  refine cl_i (wr := []) (va_runV (As := []) (rest := []) ⟨hx, hb, hml, hown, hts⟩ (c_m_spreads l D cI cZ cR y0 b3 b4 b5 b6 b7 b8 b9 b10 b11 b12 b13 b14 b15 b16 b17 b18 b19 b20 b21 b22 b24 b25 s.heap.size) (cwV 0 hts gX6_cost_X6_spreads rfl rfl rfl (by decide +kernel) ⟨Nat.le_of_ble_eq_true rfl, Nat.le_of_ble_eq_true rfl⟩) (pV 6 0 hK hP hD [0] rfl (by decide) rfl rfl) rfl rfl hl.1 rfl (lv_room (Nat.le_of_ble_eq_true rfl)) dX6_cost_1 ⟨Nat.le_of_ble_eq_true rfl, Nat.le_of_ble_eq_true rfl⟩) hP hD hS hA [0] [] rfl rfl (by decide) (by decide) (fun r_1 u_1 H locs hw_1 hP hD hS => ?_)
  have hP : va_P D vwCl [(y0, .inr (6, [.int 0, .int 0, .int 0, .ref b3, .ref b4, .ref b5, .ref b6, .ref b7, .ref b8, .ref b9, .ref b10, .ref b11, .ref b12, .ref b13, .ref b14, .ref b15, .ref b16, .ref b17, .ref b18, .ref b19, .ref b20, .ref b21, .ref b22, .int 0, .ref b24, .ref b25]))] H := hP
  have hD : va_D A [(y0, .inr (6, [.int 0, .int 0, .int 0, .ref b3, .ref b4, .ref b5, .ref b6, .ref b7, .ref b8, .ref b9, .ref b10, .ref b11, .ref b12, .ref b13, .ref b14, .ref b15, .ref b16, .ref b17, .ref b18, .ref b19, .ref b20, .ref b21, .ref b22, .int 0, .ref b24, .ref b25]))] := hD
  subst hw_1
  refine lv_if_eq (tgt := 14) hx hb dX6_cost_4 (by decide) (fun c_4 => absurd c_4 (by decide)) (fun c_4 => ?_)
  refine lv_aload_n hx hb dX6_cost_7 rfl (lv_at hl 0 rfl) ?_
  refine cl_l (wr := []) (va_runV (As := []) (rest := []) ⟨hx, hb, hml, hown, hts⟩ (c_m_costs l D cI cZ cR y0 b3 b4 b5 b6 b7 b8 b9 b10 b11 b12 b13 b14 b15 b16 b17 b18 b19 b20 b21 b22 b24 b25 H.size) (cwV 0 hts gX6_cost_X6_costs rfl rfl rfl (by decide +kernel) ⟨Nat.le_of_ble_eq_true rfl, Nat.le_of_ble_eq_true rfl⟩) (pV 6 0 hK hP hD [0] rfl (by decide) rfl rfl) rfl rfl hl.1 rfl (lv_room (Nat.le_of_ble_eq_true rfl)) dX6_cost_8 ⟨Nat.le_of_ble_eq_true rfl, Nat.le_of_ble_eq_true rfl⟩) hP hD hS hA [0] [] rfl rfl (by decide) (by decide) (fun r_8 u_8 H locs hw_8 hP hD hS => ?_)
  have hP : va_P D vwCl [(y0, .inr (6, [.int 0, .int 0, .int 0, .ref b3, .ref b4, .ref b5, .ref b6, .ref b7, .ref b8, .ref b9, .ref b10, .ref b11, .ref b12, .ref b13, .ref b14, .ref b15, .ref b16, .ref b17, .ref b18, .ref b19, .ref b20, .ref b21, .ref b22, .int 0, .ref b24, .ref b25]))] H := hP
  have hD : va_D A [(y0, .inr (6, [.int 0, .int 0, .int 0, .ref b3, .ref b4, .ref b5, .ref b6, .ref b7, .ref b8, .ref b9, .ref b10, .ref b11, .ref b12, .ref b13, .ref b14, .ref b15, .ref b16, .ref b17, .ref b18, .ref b19, .ref b20, .ref b21, .ref b22, .int 0, .ref b24, .ref b25]))] := hD
  subst hw_8
  refine lv_goto (tgt := 17) hx hb dX6_cost_11 (by decide) ?_
  exact en_l () hx hb hr hlocks hK (hP.sub [] rfl) (hD.sub [] (by decide) rfl) hS (Nat.le_of_ble_eq_true rfl) (Nat.le_of_ble_eq_true rfl) dX6_cost_17 (rfl)
set_option maxHeartbeats 4000000 in
set_option maxRecDepth 100000 in
theorem c_m_keeps (l : Launch) (D : va_G) (cI cZ cR : ClassId) (y0 : Nat) (b3 : Nat) (b4 : Nat) (b5 : Nat) (b6 : Nat) (b7 : Nat) (b8 : Nat) (b9 : Nat) (b10 : Nat) (b11 : Nat) (b12 : Nat) (b13 : Nat) (b14 : Nat) (b15 : Nat) (b16 : Nat) (b17 : Nat) (b18 : Nat) (b19 : Nat) (b20 : Nat) (b21 : Nat) (b22 : Nat) (b24 : Nat) (b25 : Nat) : CV l D cI cZ cR yX6_keeps wsX6_keeps { frames := 0, cells := 0, slots := 0, locals := 0 } [.ref y0, .int 0, .int 0] [(y0, .inr (6, [.int 0, .int 0, .int 0, .ref b3, .ref b4, .ref b5, .ref b6, .ref b7, .ref b8, .ref b9, .ref b10, .ref b11, .ref b12, .ref b13, .ref b14, .ref b15, .ref b16, .ref b17, .ref b18, .ref b19, .ref b20, .ref b21, .ref b22, .int 0, .ref b24, .ref b25]))] (fun (u : Unit) => True) (fun (u : Unit) => [(y0, .inr (6, [.int 0, .int 0, .int 0, .ref b3, .ref b4, .ref b5, .ref b6, .ref b7, .ref b8, .ref b9, .ref b10, .ref b11, .ref b12, .ref b13, .ref b14, .ref b15, .ref b16, .ref b17, .ref b18, .ref b19, .ref b20, .ref b21, .ref b22, .int 0, .ref b24, .ref b25]))]) := by
  intro sz
  refine en_W (Qc := fun A => va_Qv (fun (u : Unit) => True) (sB D cI cZ cR (fun (u : Unit) => [(y0, .inr (6, [.int 0, .int 0, .int 0, .ref b3, .ref b4, .ref b5, .ref b6, .ref b7, .ref b8, .ref b9, .ref b10, .ref b11, .ref b12, .ref b13, .ref b14, .ref b15, .ref b16, .ref b17, .ref b18, .ref b19, .ref b20, .ref b21, .ref b22, .int 0, .ref b24, .ref b25]))]) A) A) (cc := cX6_keeps) (maxL := 4) (ret := none) (by decide) rfl (Nat.le_of_ble_eq_true rfl) ?_
  intro p e s m below meth c A ls hx hb hr hts hown hlocks hin hml hK hP hD hS hA hl
  have hown : s.vm.findClass RX6 = some m.cls := hown
  have hl : lv_has ls 4 [(0, .ref y0), (1, .int 0), (2, .int 0)] := hl
  refine lv_iconst (v := 0) hx hb dX6_keeps_0 (by decide) ?_
  refine lv_istore_n (lv' := [(3, .int 0), (0, .ref y0), (1, .int 0), (2, .int 0)]) hx hb dX6_keeps_1 rfl hl (by decide) rfl (fun ls hl => ?_)
  refine lv_iload_n hx hb dX6_keeps_2 rfl (lv_at hl 0 rfl) ?_
  refine lv_iload_n hx hb dX6_keeps_3 rfl (lv_at hl 2 rfl) ?_
  refine lv_icmp_ge (tgt := 42) hx hb dX6_keeps_4 (by decide) (fun c_4 => ?_) (fun c_4 => absurd (by decide) c_4)
  exact en_v () hx hb hr hlocks hK (hP.sub [0] rfl) (hD.sub [0] (by decide) rfl) hS (Nat.le_of_ble_eq_true rfl) (Nat.le_of_ble_eq_true rfl) dX6_keeps_42 (trivial)
set_option maxHeartbeats 4000000 in
set_option maxRecDepth 100000 in
theorem c_m_choose (l : Launch) (D : va_G) (cI cZ cR : ClassId) (y0 : Nat) (b3 : Nat) (b4 : Nat) (b5 : Nat) (b6 : Nat) (b7 : Nat) (b8 : Nat) (b9 : Nat) (b10 : Nat) (b11 : Nat) (b12 : Nat) (b13 : Nat) (b14 : Nat) (b15 : Nat) (b16 : Nat) (b17 : Nat) (b18 : Nat) (b19 : Nat) (b20 : Nat) (b21 : Nat) (b22 : Nat) (b24 : Nat) (b25 : Nat) : CL l D cI cZ cR yX6_choose wsX6_choose { frames := 1, cells := 0, slots := 0, locals := 24 } [.ref y0] [(y0, .inr (6, [.int 0, .int 0, .int 0, .ref b3, .ref b4, .ref b5, .ref b6, .ref b7, .ref b8, .ref b9, .ref b10, .ref b11, .ref b12, .ref b13, .ref b14, .ref b15, .ref b16, .ref b17, .ref b18, .ref b19, .ref b20, .ref b21, .ref b22, .int 0, .ref b24, .ref b25]))] (fun (r : Int64) (u : Unit) => r = 0) (fun (u : Unit) => []) := by
  intro sz
  refine en_W (Qc := fun A => va_Ql (fun (r : Int64) (u : Unit) => r = 0) (sB D cI cZ cR (fun (u : Unit) => []) A) A) (cc := cX6_choose) (maxL := 9) (ret := (some .long)) (by decide) rfl (Nat.le_of_ble_eq_true rfl) ?_
  intro p e s m below meth c A ls hx hb hr hts hown hlocks hin hml hK hP hD hS hA hl
  have hown : s.vm.findClass RX6 = some m.cls := hown
  have hl : lv_has ls 9 [(0, .ref y0)] := hl
  have kw_0 := hts (.fieldLink RX6 81 "DelayDeskModel" "activities" "I") (by decide +kernel)
  have iX6 : ∀ w ∈ u_ws RX6 TX6 26, w ∈ wsX6_choose := by decide +kernel
  refine lv_iconst (v := 0) hx hb dX6_choose_0 (by decide) ?_
  refine lv_istore_n (lv' := [(1, .int 0), (0, .ref y0)]) hx hb dX6_choose_1 rfl hl (by decide) rfl (fun ls hl => ?_)
  refine lv_iconst (v := 0) hx hb dX6_choose_2 (by decide) ?_
  refine lv_istore_n (lv' := [(2, .int 0), (1, .int 0), (0, .ref y0)]) hx hb dX6_choose_3 rfl hl (by decide) rfl (fun ls hl => ?_)
  refine lv_iload_n hx hb dX6_choose_4 rfl (lv_at hl 0 rfl) ?_
  refine lv_aload_n hx hb dX6_choose_5 rfl (lv_at hl 2 rfl) ?_
  refine va_get (D := D) (ci := 6) (v := .int 0) (C := RX6) (T := TX6) (N := 26) hx hb hts iX6 hown hK.1 hP 0 rfl rfl 1 (by decide) kw_0 (fun _ h9 => h9) rfl dX6_choose_6 ?_
  refine lv_icmp_ge (tgt := 50) hx hb dX6_choose_9 (by decide) (fun c_9 => ?_) (fun c_9 => absurd (by decide) c_9)
  refine lv_iload_n hx hb dX6_choose_50 rfl (lv_at hl 1 rfl) ?_
  refine lv_bipush (v := 10) hx hb dX6_choose_51 (by decide) ?_
  refine lv_icmp_le (tgt := 60) hx hb dX6_choose_53 (by decide) (fun c_53 => ?_) (fun c_53 => absurd (by decide) c_53)
  refine lv_iconst (v := 0) hx hb dX6_choose_60 (by decide) ?_
  refine lv_istore_n (lv' := [(2, .int 0), (1, .int 0), (0, .ref y0)]) hx hb dX6_choose_61 rfl hl (by decide) rfl (fun ls hl => ?_)
  refine lv_iload_n hx hb dX6_choose_62 rfl (lv_at hl 0 rfl) ?_
  refine lv_iload_n hx hb dX6_choose_63 rfl (lv_at hl 1 rfl) ?_
  refine lv_icmp_ge (tgt := 90) hx hb dX6_choose_64 (by decide) (fun c_64 => ?_) (fun c_64 => absurd (by decide) c_64)
  refine lv_iconst (v := (-1)) hx hb dX6_choose_90 (by decide) ?_
  refine lv_istore_n (lv' := [(2, .int (-1)), (1, .int 0), (0, .ref y0)]) hx hb dX6_choose_91 rfl hl (by decide) rfl (fun ls hl => ?_)
  refine lv_lconst (v := 0) hx hb dX6_choose_92 (by decide) ?_
  refine lv_lstore_n (lv' := [(3, .long 0), (2, .int (-1)), (1, .int 0), (0, .ref y0)]) hx hb dX6_choose_93 rfl hl (by decide) rfl (fun ls hl => ?_)
  refine lv_iconst (v := 0) hx hb dX6_choose_94 (by decide) ?_
  refine lv_istore (lv' := [(5, .int 0), (3, .long 0), (2, .int (-1)), (1, .int 0), (0, .ref y0)]) hx hb dX6_choose_95 hl (by decide) rfl (fun ls hl => ?_)
  refine lv_iload hx hb dX6_choose_97 (lv_at hl 0 rfl) ?_
  refine lv_iconst (v := 1) hx hb dX6_choose_99 (by decide) ?_
  refine lv_iload_n hx hb dX6_choose_100 rfl (lv_at hl 3 rfl) ?_
  refine lv_ishl hx hb dX6_choose_101 ?_
  refine W.eq (g2 := F0 m 102 ls [.int 1, .int 0]) (by congr 2) ?_
  refine lv_icmp_ge (tgt := 204) hx hb dX6_choose_102 (by decide) (fun c_102 => absurd c_102 (by decide)) (fun c_102 => ?_)
  refine lv_aload_n hx hb dX6_choose_105 rfl (lv_at hl 4 rfl) ?_
  refine lv_iload_n hx hb dX6_choose_106 rfl (lv_at hl 3 rfl) ?_
  refine lv_iload hx hb dX6_choose_107 (lv_at hl 0 rfl) ?_
  refine cl_v (wr := []) (va_runV (As := [.int 0, .int 0]) (rest := []) ⟨hx, hb, hml, hown, hts⟩ (c_m_keeps l D cI cZ cR y0 b3 b4 b5 b6 b7 b8 b9 b10 b11 b12 b13 b14 b15 b16 b17 b18 b19 b20 b21 b22 b24 b25 s.heap.size) (cwV 2 hts gX6_choose_X6_keeps rfl rfl rfl (by decide +kernel) ⟨Nat.le_of_ble_eq_true rfl, Nat.le_of_ble_eq_true rfl⟩) (pV 6 0 hK hP hD [0] rfl (by decide) rfl rfl) rfl rfl hl.1 rfl (lv_room (Nat.le_of_ble_eq_true rfl)) dX6_choose_109 ⟨Nat.le_of_ble_eq_true rfl, Nat.le_of_ble_eq_true rfl⟩) hP hD hS hA [0] [] rfl rfl (by decide) (by decide) (fun u_109 H locs hw_109 hP hD hS => ?_)
  have hP : va_P D vwCl [(y0, .inr (6, [.int 0, .int 0, .int 0, .ref b3, .ref b4, .ref b5, .ref b6, .ref b7, .ref b8, .ref b9, .ref b10, .ref b11, .ref b12, .ref b13, .ref b14, .ref b15, .ref b16, .ref b17, .ref b18, .ref b19, .ref b20, .ref b21, .ref b22, .int 0, .ref b24, .ref b25]))] H := hP
  have hD : va_D A [(y0, .inr (6, [.int 0, .int 0, .int 0, .ref b3, .ref b4, .ref b5, .ref b6, .ref b7, .ref b8, .ref b9, .ref b10, .ref b11, .ref b12, .ref b13, .ref b14, .ref b15, .ref b16, .ref b17, .ref b18, .ref b19, .ref b20, .ref b21, .ref b22, .int 0, .ref b24, .ref b25]))] := hD
  refine lv_aload_n hx hb dX6_choose_112 rfl (lv_at hl 4 rfl) ?_
  refine cl_i (wr := []) (va_runV (As := []) (rest := []) ⟨hx, hb, hml, hown, hts⟩ (c_m_spreads l D cI cZ cR y0 b3 b4 b5 b6 b7 b8 b9 b10 b11 b12 b13 b14 b15 b16 b17 b18 b19 b20 b21 b22 b24 b25 H.size) (cwV 0 hts gX6_choose_X6_spreads rfl rfl rfl (by decide +kernel) ⟨Nat.le_of_ble_eq_true rfl, Nat.le_of_ble_eq_true rfl⟩) (pV 6 0 hK hP hD [0] rfl (by decide) rfl rfl) rfl rfl hl.1 rfl (lv_room (Nat.le_of_ble_eq_true rfl)) dX6_choose_113 ⟨Nat.le_of_ble_eq_true rfl, Nat.le_of_ble_eq_true rfl⟩) hP hD hS hA [0] [] rfl rfl (by decide) (by decide) (fun r_113 u_113 H locs hw_113 hP hD hS => ?_)
  have hP : va_P D vwCl [(y0, .inr (6, [.int 0, .int 0, .int 0, .ref b3, .ref b4, .ref b5, .ref b6, .ref b7, .ref b8, .ref b9, .ref b10, .ref b11, .ref b12, .ref b13, .ref b14, .ref b15, .ref b16, .ref b17, .ref b18, .ref b19, .ref b20, .ref b21, .ref b22, .int 0, .ref b24, .ref b25]))] H := hP
  have hD : va_D A [(y0, .inr (6, [.int 0, .int 0, .int 0, .ref b3, .ref b4, .ref b5, .ref b6, .ref b7, .ref b8, .ref b9, .ref b10, .ref b11, .ref b12, .ref b13, .ref b14, .ref b15, .ref b16, .ref b17, .ref b18, .ref b19, .ref b20, .ref b21, .ref b22, .int 0, .ref b24, .ref b25]))] := hD
  subst hw_113
  refine lv_if_ne (tgt := 122) hx hb dX6_choose_116 (by decide) (fun c_116 => ?_) (fun c_116 => absurd c_116 (by decide))
  refine lv_aload_n hx hb dX6_choose_122 rfl (lv_at hl 4 rfl) ?_
  refine cl_l (wr := []) (va_runV (As := []) (rest := []) ⟨hx, hb, hml, hown, hts⟩ (c_m_costs l D cI cZ cR y0 b3 b4 b5 b6 b7 b8 b9 b10 b11 b12 b13 b14 b15 b16 b17 b18 b19 b20 b21 b22 b24 b25 H.size) (cwV 0 hts gX6_choose_X6_costs rfl rfl rfl (by decide +kernel) ⟨Nat.le_of_ble_eq_true rfl, Nat.le_of_ble_eq_true rfl⟩) (pV 6 0 hK hP hD [0] rfl (by decide) rfl rfl) rfl rfl hl.1 rfl (lv_room (Nat.le_of_ble_eq_true rfl)) dX6_choose_123 ⟨Nat.le_of_ble_eq_true rfl, Nat.le_of_ble_eq_true rfl⟩) hP hD hS hA [0] [] rfl rfl (by decide) (by decide) (fun r_123 u_123 H locs hw_123 hP hD hS => ?_)
  have hP : va_P D vwCl [(y0, .inr (6, [.int 0, .int 0, .int 0, .ref b3, .ref b4, .ref b5, .ref b6, .ref b7, .ref b8, .ref b9, .ref b10, .ref b11, .ref b12, .ref b13, .ref b14, .ref b15, .ref b16, .ref b17, .ref b18, .ref b19, .ref b20, .ref b21, .ref b22, .int 0, .ref b24, .ref b25]))] H := hP
  have hD : va_D A [(y0, .inr (6, [.int 0, .int 0, .int 0, .ref b3, .ref b4, .ref b5, .ref b6, .ref b7, .ref b8, .ref b9, .ref b10, .ref b11, .ref b12, .ref b13, .ref b14, .ref b15, .ref b16, .ref b17, .ref b18, .ref b19, .ref b20, .ref b21, .ref b22, .int 0, .ref b24, .ref b25]))] := hD
  subst hw_123
  refine lv_lstore (lv' := [(6, .long 0), (5, .int 0), (3, .long 0), (2, .int (-1)), (1, .int 0), (0, .ref y0)]) hx hb dX6_choose_126 hl (by decide) rfl (fun ls hl => ?_)
  refine lv_iload_n hx hb dX6_choose_128 rfl (lv_at hl 3 rfl) ?_
  refine lv_iconst (v := (-1)) hx hb dX6_choose_129 (by decide) ?_
  refine lv_icmp_eq (tgt := 177) hx hb dX6_choose_130 (by decide) (fun c_130 => ?_) (fun c_130 => absurd (by decide) c_130)
  refine lv_iconst (v := 1) hx hb dX6_choose_177 (by decide) ?_
  refine lv_goto (tgt := 182) hx hb dX6_choose_178 (by decide) ?_
  refine lv_istore (lv' := [(8, .int 1), (6, .long 0), (5, .int 0), (3, .long 0), (2, .int (-1)), (1, .int 0), (0, .ref y0)]) hx hb dX6_choose_182 hl (by decide) rfl (fun ls hl => ?_)
  refine lv_iload hx hb dX6_choose_184 (lv_at hl 0 rfl) ?_
  refine lv_if_ne (tgt := 192) hx hb dX6_choose_186 (by decide) (fun c_186 => ?_) (fun c_186 => absurd c_186 (by decide))
  refine lv_iload hx hb dX6_choose_192 (lv_at hl 2 rfl) ?_
  refine lv_istore_n (lv' := [(2, .int 0), (8, .int 1), (6, .long 0), (5, .int 0), (3, .long 0), (1, .int 0), (0, .ref y0)]) hx hb dX6_choose_194 rfl hl (by decide) rfl (fun ls hl => ?_)
  refine lv_lload hx hb dX6_choose_195 (lv_at hl 2 rfl) ?_
  refine lv_lstore_n (lv' := [(3, .long 0), (2, .int 0), (8, .int 1), (6, .long 0), (5, .int 0), (1, .int 0), (0, .ref y0)]) hx hb dX6_choose_197 rfl hl (by decide) rfl (fun ls hl => ?_)
  refine lv_iinc (v := 1) (lv' := [(5, .int 1), (3, .long 0), (2, .int 0), (8, .int 1), (6, .long 0), (1, .int 0), (0, .ref y0)]) hx hb dX6_choose_198 hl (k := 4) rfl (by decide) (by decide) rfl (fun ls hl => ?_)
  refine lv_goto (tgt := 97) hx hb dX6_choose_201 (by decide) ?_
  refine lv_iload hx hb dX6_choose_97 (lv_at hl 0 rfl) ?_
  refine lv_iconst (v := 1) hx hb dX6_choose_99 (by decide) ?_
  refine lv_iload_n hx hb dX6_choose_100 rfl (lv_at hl 5 rfl) ?_
  refine lv_ishl hx hb dX6_choose_101 ?_
  refine W.eq (g2 := F0 m 102 ls [.int 1, .int 1]) (by congr 2) ?_
  refine lv_icmp_ge (tgt := 204) hx hb dX6_choose_102 (by decide) (fun c_102 => ?_) (fun c_102 => absurd (by decide) c_102)
  refine lv_iload_n hx hb dX6_choose_204 rfl (lv_at hl 2 rfl) ?_
  refine lv_iconst (v := (-1)) hx hb dX6_choose_205 (by decide) ?_
  refine lv_icmp_ne (tgt := 247) hx hb dX6_choose_206 (by decide) (fun c_206 => ?_) (fun c_206 => absurd c_206 (by decide))
  refine lv_aload_n hx hb dX6_choose_247 rfl (lv_at hl 6 rfl) ?_
  refine lv_iload_n hx hb dX6_choose_248 rfl (lv_at hl 5 rfl) ?_
  refine lv_iload_n hx hb dX6_choose_249 rfl (lv_at hl 2 rfl) ?_
  refine cl_v (wr := []) (va_runV (As := [.int 0, .int 0]) (rest := []) ⟨hx, hb, hml, hown, hts⟩ (c_m_keeps l D cI cZ cR y0 b3 b4 b5 b6 b7 b8 b9 b10 b11 b12 b13 b14 b15 b16 b17 b18 b19 b20 b21 b22 b24 b25 H.size) (cwV 2 hts gX6_choose_X6_keeps rfl rfl rfl (by decide +kernel) ⟨Nat.le_of_ble_eq_true rfl, Nat.le_of_ble_eq_true rfl⟩) (pV 6 0 hK hP hD [0] rfl (by decide) rfl rfl) rfl rfl hl.1 rfl (lv_room (Nat.le_of_ble_eq_true rfl)) dX6_choose_250 ⟨Nat.le_of_ble_eq_true rfl, Nat.le_of_ble_eq_true rfl⟩) hP hD hS hA [0] [] rfl rfl (by decide) (by decide) (fun u_250 H locs hw_250 hP hD hS => ?_)
  have hP : va_P D vwCl [(y0, .inr (6, [.int 0, .int 0, .int 0, .ref b3, .ref b4, .ref b5, .ref b6, .ref b7, .ref b8, .ref b9, .ref b10, .ref b11, .ref b12, .ref b13, .ref b14, .ref b15, .ref b16, .ref b17, .ref b18, .ref b19, .ref b20, .ref b21, .ref b22, .int 0, .ref b24, .ref b25]))] H := hP
  have hD : va_D A [(y0, .inr (6, [.int 0, .int 0, .int 0, .ref b3, .ref b4, .ref b5, .ref b6, .ref b7, .ref b8, .ref b9, .ref b10, .ref b11, .ref b12, .ref b13, .ref b14, .ref b15, .ref b16, .ref b17, .ref b18, .ref b19, .ref b20, .ref b21, .ref b22, .int 0, .ref b24, .ref b25]))] := hD
  refine lv_lload_n hx hb dX6_choose_253 rfl (lv_at hl 1 rfl) ?_
  exact en_l () hx hb hr hlocks hK (hP.sub [] rfl) (hD.sub [] (by decide) rfl) hS (Nat.le_of_ble_eq_true rfl) (Nat.le_of_ble_eq_true rfl) dX6_choose_254 (rfl)
set_option maxHeartbeats 4000000 in
set_option maxRecDepth 100000 in
theorem c_m_rule (l : Launch) (D : va_G) (cI cZ cR : ClassId) (y0 : Nat) (b3 : Nat) (b4 : Nat) (b5 : Nat) (b6 : Nat) (b7 : Nat) (b8 : Nat) (b9 : Nat) (b10 : Nat) (b11 : Nat) (b12 : Nat) (b13 : Nat) (b14 : Nat) (b15 : Nat) (b16 : Nat) (b17 : Nat) (b18 : Nat) (b19 : Nat) (b20 : Nat) (b21 : Nat) (b22 : Nat) (b24 : Nat) (b25 : Nat) (w0 : Int32) : CI l D cI cZ cR yX6_rule wsX6_rule { frames := 0, cells := 0, slots := 0, locals := 0 } [.ref y0, .int w0] [(y0, .inr (6, [.int 0, .int 0, .int 0, .ref b3, .ref b4, .ref b5, .ref b6, .ref b7, .ref b8, .ref b9, .ref b10, .ref b11, .ref b12, .ref b13, .ref b14, .ref b15, .ref b16, .ref b17, .ref b18, .ref b19, .ref b20, .ref b21, .ref b22, .int 0, .ref b24, .ref b25]))] (fun (r : Int32) (u : Unit) => (r = 0 ∧ (0 ≤ w0 ∧ w0 ≤ 1000)) ∨ (r = (-1) ∧ ¬ (0 ≤ w0 ∧ w0 ≤ 1000))) (fun (u : Unit) => []) := by
  intro sz
  refine en_W (Qc := fun A => va_Qi (fun (r : Int32) (u : Unit) => (r = 0 ∧ (0 ≤ w0 ∧ w0 ≤ 1000)) ∨ (r = (-1) ∧ ¬ (0 ≤ w0 ∧ w0 ≤ 1000))) (sB D cI cZ cR (fun (u : Unit) => []) A) A) (cc := cX6_rule) (maxL := 6) (ret := (some .int)) (by decide) rfl (Nat.le_of_ble_eq_true rfl) ?_
  intro p e s m below meth c A ls hx hb hr hts hown hlocks hin hml hK hP hD hS hA hl
  have hown : s.vm.findClass RX6 = some m.cls := hown
  have hl : lv_has ls 6 [(0, .ref y0), (1, .int w0)] := hl
  have kw_0 := hts (.fieldLink RX6 81 "DelayDeskModel" "activities" "I") (by decide +kernel)
  have iX6 : ∀ w ∈ u_ws RX6 TX6 26, w ∈ wsX6_rule := by decide +kernel
  refine lv_iload_n hx hb dX6_rule_0 rfl (lv_at hl 1 rfl) ?_
  refine lv_if_lt (tgt := 11) hx hb dX6_rule_1 (by decide) (fun c_1 => ?_) (fun c_1 => ?_)
  · refine lv_iconst (v := (-1)) hx hb dX6_rule_11 (by decide) ?_
    exact en_i () hx hb hr hlocks hK (hP.sub [] rfl) (hD.sub [] (by decide) rfl) hS (Nat.le_of_ble_eq_true rfl) (Nat.le_of_ble_eq_true rfl) dX6_rule_12 (Or.inr ⟨rfl, by first | exact ii_c (by assumption) (by assumption) | exact fun h => absurd h.2 (by assumption) | exact ii_1 (by assumption) (by assumption) | exact ii_a (by assumption) | exact ii_b (by assumption)⟩)
  · refine lv_iload_n hx hb dX6_rule_4 rfl (lv_at hl 1 rfl) ?_
    refine lv_sipush (v := 1000) hx hb dX6_rule_5 (by decide) ?_
    refine lv_icmp_le (tgt := 13) hx hb dX6_rule_8 (by decide) (fun c_8 => ?_) (fun c_8 => ?_)
    · refine lv_iconst (v := 0) hx hb dX6_rule_13 (by decide) ?_
      refine lv_istore_n (lv' := [(2, .int 0), (0, .ref y0), (1, .int w0)]) hx hb dX6_rule_14 rfl hl (by decide) rfl (fun ls hl => ?_)
      refine lv_iconst (v := 0) hx hb dX6_rule_15 (by decide) ?_
      refine lv_istore_n (lv' := [(3, .int 0), (2, .int 0), (0, .ref y0), (1, .int w0)]) hx hb dX6_rule_16 rfl hl (by decide) rfl (fun ls hl => ?_)
      refine lv_iload_n hx hb dX6_rule_17 rfl (lv_at hl 0 rfl) ?_
      refine lv_aload_n hx hb dX6_rule_18 rfl (lv_at hl 2 rfl) ?_
      refine va_get (D := D) (ci := 6) (v := .int 0) (C := RX6) (T := TX6) (N := 26) hx hb hts iX6 hown hK.1 hP 0 rfl rfl 1 (by decide) kw_0 (fun _ h9 => h9) rfl dX6_rule_19 ?_
      refine lv_icmp_ge (tgt := 140) hx hb dX6_rule_22 (by decide) (fun c_22 => ?_) (fun c_22 => absurd (by decide) c_22)
      refine lv_iconst (v := 0) hx hb dX6_rule_140 (by decide) ?_
      refine lv_istore_n (lv' := [(3, .int 0), (2, .int 0), (0, .ref y0), (1, .int w0)]) hx hb dX6_rule_141 rfl hl (by decide) rfl (fun ls hl => ?_)
      refine lv_iconst (v := 0) hx hb dX6_rule_142 (by decide) ?_
      refine lv_istore (lv' := [(4, .int 0), (3, .int 0), (2, .int 0), (0, .ref y0), (1, .int w0)]) hx hb dX6_rule_143 hl (by decide) rfl (fun ls hl => ?_)
      refine lv_iload hx hb dX6_rule_145 (lv_at hl 0 rfl) ?_
      refine lv_iload_n hx hb dX6_rule_147 rfl (lv_at hl 2 rfl) ?_
      refine lv_icmp_ge (tgt := 243) hx hb dX6_rule_148 (by decide) (fun c_148 => ?_) (fun c_148 => absurd (by decide) c_148)
      refine lv_iload_n hx hb dX6_rule_243 rfl (lv_at hl 1 rfl) ?_
      exact en_i () hx hb hr hlocks hK (hP.sub [] rfl) (hD.sub [] (by decide) rfl) hS (Nat.le_of_ble_eq_true rfl) (Nat.le_of_ble_eq_true rfl) dX6_rule_244 (Or.inl ⟨rfl, by first | exact ii_c (by assumption) (by assumption) | exact fun h => absurd h.2 (by assumption) | exact ii_1 (by assumption) (by assumption) | exact ii_a (by assumption) | exact ii_b (by assumption)⟩)
    · refine lv_iconst (v := (-1)) hx hb dX6_rule_11 (by decide) ?_
      exact en_i () hx hb hr hlocks hK (hP.sub [] rfl) (hD.sub [] (by decide) rfl) hS (Nat.le_of_ble_eq_true rfl) (Nat.le_of_ble_eq_true rfl) dX6_rule_12 (Or.inr ⟨rfl, by first | exact ii_c (by assumption) (by assumption) | exact fun h => absurd h.2 (by assumption) | exact ii_1 (by assumption) (by assumption) | exact ii_a (by assumption) | exact ii_b (by assumption)⟩)
set_option maxHeartbeats 4000000 in
set_option maxRecDepth 100000 in
theorem c_m_recover (l : Launch) (D : va_G) (cI cZ cR : ClassId) (y0 : Nat) (b3 : Nat) (b4 : Nat) (b5 : Nat) (b6 : Nat) (b7 : Nat) (b8 : Nat) (b9 : Nat) (b10 : Nat) (b11 : Nat) (b12 : Nat) (b13 : Nat) (b14 : Nat) (b15 : Nat) (b16 : Nat) (b17 : Nat) (b18 : Nat) (b19 : Nat) (b20 : Nat) (b21 : Nat) (b22 : Nat) (b24 : Nat) (b25 : Nat) : CI l D cI cZ cR yX6_recover wsX6_recover { frames := 1, cells := 0, slots := 0, locals := 24 } [.ref y0] [(y0, .inr (6, [.int 0, .int 0, .int 0, .ref b3, .ref b4, .ref b5, .ref b6, .ref b7, .ref b8, .ref b9, .ref b10, .ref b11, .ref b12, .ref b13, .ref b14, .ref b15, .ref b16, .ref b17, .ref b18, .ref b19, .ref b20, .ref b21, .ref b22, .int 0, .ref b24, .ref b25]))] (fun (r : Int32) (u : Unit) => r = (-1)) (fun (u : Unit) => []) := by
  intro sz
  refine en_W (Qc := fun A => va_Qi (fun (r : Int32) (u : Unit) => r = (-1)) (sB D cI cZ cR (fun (u : Unit) => []) A) A) (cc := cX6_recover) (maxL := 3) (ret := (some .int)) (by decide) rfl (Nat.le_of_ble_eq_true rfl) ?_
  intro p e s m below meth c A ls hx hb hr hts hown hlocks hin hml hK hP hD hS hA hl
  have hown : s.vm.findClass RX6 = some m.cls := hown
  have hl : lv_has ls 3 [(0, .ref y0)] := hl
  have kw_0 := hts (.fieldLink RX6 77 "DelayDeskModel" "events" "I") (by decide +kernel)
  have iX6 : ∀ w ∈ u_ws RX6 TX6 26, w ∈ wsX6_recover := by decide +kernel
  refine lv_aload_n hx hb dX6_recover_0 rfl (lv_at hl 0 rfl) ?_
  refine cl_i (wr := []) (va_runV (As := []) (rest := []) ⟨hx, hb, hml, hown, hts⟩ (c_m_spreads l D cI cZ cR y0 b3 b4 b5 b6 b7 b8 b9 b10 b11 b12 b13 b14 b15 b16 b17 b18 b19 b20 b21 b22 b24 b25 s.heap.size) (cwV 0 hts gX6_recover_X6_spreads rfl rfl rfl (by decide +kernel) ⟨Nat.le_of_ble_eq_true rfl, Nat.le_of_ble_eq_true rfl⟩) (pV 6 0 hK hP hD [0] rfl (by decide) rfl rfl) rfl rfl hl.1 rfl (lv_room (Nat.le_of_ble_eq_true rfl)) dX6_recover_1 ⟨Nat.le_of_ble_eq_true rfl, Nat.le_of_ble_eq_true rfl⟩) hP hD hS hA [0] [] rfl rfl (by decide) (by decide) (fun r_1 u_1 H locs hw_1 hP hD hS => ?_)
  have hP : va_P D vwCl [(y0, .inr (6, [.int 0, .int 0, .int 0, .ref b3, .ref b4, .ref b5, .ref b6, .ref b7, .ref b8, .ref b9, .ref b10, .ref b11, .ref b12, .ref b13, .ref b14, .ref b15, .ref b16, .ref b17, .ref b18, .ref b19, .ref b20, .ref b21, .ref b22, .int 0, .ref b24, .ref b25]))] H := hP
  have hD : va_D A [(y0, .inr (6, [.int 0, .int 0, .int 0, .ref b3, .ref b4, .ref b5, .ref b6, .ref b7, .ref b8, .ref b9, .ref b10, .ref b11, .ref b12, .ref b13, .ref b14, .ref b15, .ref b16, .ref b17, .ref b18, .ref b19, .ref b20, .ref b21, .ref b22, .int 0, .ref b24, .ref b25]))] := hD
  subst hw_1
  refine lv_if_ne (tgt := 9) hx hb dX6_recover_4 (by decide) (fun c_4 => ?_) (fun c_4 => absurd c_4 (by decide))
  refine lv_iconst (v := (-1)) hx hb dX6_recover_9 (by decide) ?_
  refine lv_istore_n (lv' := [(1, .int (-1)), (0, .ref y0)]) hx hb dX6_recover_10 rfl hl (by decide) rfl (fun ls hl => ?_)
  refine lv_iconst (v := 0) hx hb dX6_recover_11 (by decide) ?_
  refine lv_istore_n (lv' := [(2, .int 0), (1, .int (-1)), (0, .ref y0)]) hx hb dX6_recover_12 rfl hl (by decide) rfl (fun ls hl => ?_)
  refine lv_iload_n hx hb dX6_recover_13 rfl (lv_at hl 0 rfl) ?_
  refine lv_aload_n hx hb dX6_recover_14 rfl (lv_at hl 2 rfl) ?_
  refine va_get (D := D) (ci := 6) (v := .int 0) (C := RX6) (T := TX6) (N := 26) hx hb hts iX6 hown hK.1 hP 0 rfl rfl 0 (by decide) kw_0 (fun _ h9 => h9) rfl dX6_recover_15 ?_
  refine lv_icmp_ge (tgt := 60) hx hb dX6_recover_18 (by decide) (fun c_18 => ?_) (fun c_18 => absurd (by decide) c_18)
  refine lv_iload_n hx hb dX6_recover_60 rfl (lv_at hl 1 rfl) ?_
  exact en_i () hx hb hr hlocks hK (hP.sub [] rfl) (hD.sub [] (by decide) rfl) hS (Nat.le_of_ble_eq_true rfl) (Nat.le_of_ble_eq_true rfl) dX6_recover_61 (rfl)
set_option maxHeartbeats 4000000 in
set_option maxRecDepth 100000 in
theorem c_m_lates0 (l : Launch) (D : va_G) (cI cZ cR : ClassId) (y0 : Nat) (b3 : Nat) (b4 : Nat) (b5 : Nat) (b6 : Nat) (b7 : Nat) (b8 : Nat) (b9 : Nat) (b10 : Nat) (b11 : Nat) (b12 : Nat) (b13 : Nat) (b14 : Nat) (b15 : Nat) (b16 : Nat) (b17 : Nat) (b18 : Nat) (b19 : Nat) (b20 : Nat) (b21 : Nat) (b22 : Nat) (b24 : Nat) (b25 : Nat) : CI l D cI cZ cR yX6_lates wsX6_lates { frames := 1, cells := 0, slots := 0, locals := 24 } [.ref y0, .int 0] [(y0, .inr (6, [.int 0, .int 0, .int 0, .ref b3, .ref b4, .ref b5, .ref b6, .ref b7, .ref b8, .ref b9, .ref b10, .ref b11, .ref b12, .ref b13, .ref b14, .ref b15, .ref b16, .ref b17, .ref b18, .ref b19, .ref b20, .ref b21, .ref b22, .int 0, .ref b24, .ref b25]))] (fun (r : Int32) (u : Unit) => r = 0) (fun (u : Unit) => [(y0, .inr (6, [.int 0, .int 0, .int 0, .ref b3, .ref b4, .ref b5, .ref b6, .ref b7, .ref b8, .ref b9, .ref b10, .ref b11, .ref b12, .ref b13, .ref b14, .ref b15, .ref b16, .ref b17, .ref b18, .ref b19, .ref b20, .ref b21, .ref b22, .int 0, .ref b24, .ref b25]))]) := by
  intro sz
  refine en_W (Qc := fun A => va_Qi (fun (r : Int32) (u : Unit) => r = 0) (sB D cI cZ cR (fun (u : Unit) => [(y0, .inr (6, [.int 0, .int 0, .int 0, .ref b3, .ref b4, .ref b5, .ref b6, .ref b7, .ref b8, .ref b9, .ref b10, .ref b11, .ref b12, .ref b13, .ref b14, .ref b15, .ref b16, .ref b17, .ref b18, .ref b19, .ref b20, .ref b21, .ref b22, .int 0, .ref b24, .ref b25]))]) A) A) (cc := cX6_lates) (maxL := 4) (ret := (some .int)) (by decide) rfl (Nat.le_of_ble_eq_true rfl) ?_
  intro p e s m below meth c A ls hx hb hr hts hown hlocks hin hml hK hP hD hS hA hl
  have hown : s.vm.findClass RX6 = some m.cls := hown
  have hl : lv_has ls 4 [(0, .ref y0), (1, .int 0)] := hl
  have kw_0 := hts (.fieldLink RX6 77 "DelayDeskModel" "events" "I") (by decide +kernel)
  have iX6 : ∀ w ∈ u_ws RX6 TX6 26, w ∈ wsX6_lates := by decide +kernel
  refine lv_aload_n hx hb dX6_lates_0 rfl (lv_at hl 0 rfl) ?_
  refine cl_i (wr := []) (va_runV (As := []) (rest := []) ⟨hx, hb, hml, hown, hts⟩ (c_m_spreads l D cI cZ cR y0 b3 b4 b5 b6 b7 b8 b9 b10 b11 b12 b13 b14 b15 b16 b17 b18 b19 b20 b21 b22 b24 b25 s.heap.size) (cwV 0 hts gX6_lates_X6_spreads rfl rfl rfl (by decide +kernel) ⟨Nat.le_of_ble_eq_true rfl, Nat.le_of_ble_eq_true rfl⟩) (pV 6 0 hK hP hD [0] rfl (by decide) rfl rfl) rfl rfl hl.1 rfl (lv_room (Nat.le_of_ble_eq_true rfl)) dX6_lates_1 ⟨Nat.le_of_ble_eq_true rfl, Nat.le_of_ble_eq_true rfl⟩) hP hD hS hA [0] [] rfl rfl (by decide) (by decide) (fun r_1 u_1 H locs hw_1 hP hD hS => ?_)
  have hP : va_P D vwCl [(y0, .inr (6, [.int 0, .int 0, .int 0, .ref b3, .ref b4, .ref b5, .ref b6, .ref b7, .ref b8, .ref b9, .ref b10, .ref b11, .ref b12, .ref b13, .ref b14, .ref b15, .ref b16, .ref b17, .ref b18, .ref b19, .ref b20, .ref b21, .ref b22, .int 0, .ref b24, .ref b25]))] H := hP
  have hD : va_D A [(y0, .inr (6, [.int 0, .int 0, .int 0, .ref b3, .ref b4, .ref b5, .ref b6, .ref b7, .ref b8, .ref b9, .ref b10, .ref b11, .ref b12, .ref b13, .ref b14, .ref b15, .ref b16, .ref b17, .ref b18, .ref b19, .ref b20, .ref b21, .ref b22, .int 0, .ref b24, .ref b25]))] := hD
  subst hw_1
  refine lv_if_ne (tgt := 9) hx hb dX6_lates_4 (by decide) (fun c_4 => ?_) (fun c_4 => absurd c_4 (by decide))
  refine lv_iconst (v := 0) hx hb dX6_lates_9 (by decide) ?_
  refine lv_istore_n (lv' := [(2, .int 0), (0, .ref y0), (1, .int 0)]) hx hb dX6_lates_10 rfl hl (by decide) rfl (fun ls hl => ?_)
  refine lv_iconst (v := 0) hx hb dX6_lates_11 (by decide) ?_
  refine lv_istore_n (lv' := [(3, .int 0), (2, .int 0), (0, .ref y0), (1, .int 0)]) hx hb dX6_lates_12 rfl hl (by decide) rfl (fun ls hl => ?_)
  refine lv_iload_n hx hb dX6_lates_13 rfl (lv_at hl 0 rfl) ?_
  refine lv_aload_n hx hb dX6_lates_14 rfl (lv_at hl 2 rfl) ?_
  refine va_get (D := D) (ci := 6) (v := .int 0) (C := RX6) (T := TX6) (N := 26) hx hb hts iX6 hown hK.1 hP 0 rfl rfl 0 (by decide) kw_0 (fun _ h9 => h9) rfl dX6_lates_15 ?_
  refine lv_icmp_ge (tgt := 59) hx hb dX6_lates_18 (by decide) (fun c_18 => ?_) (fun c_18 => absurd (by decide) c_18)
  refine lv_iload_n hx hb dX6_lates_59 rfl (lv_at hl 1 rfl) ?_
  exact en_i () hx hb hr hlocks hK (hP.sub [0] rfl) (hD.sub [0] (by decide) rfl) hS (Nat.le_of_ble_eq_true rfl) (Nat.le_of_ble_eq_true rfl) dX6_lates_60 (rfl)
set_option maxHeartbeats 4000000 in
set_option maxRecDepth 100000 in
theorem c_m_lates1 (l : Launch) (D : va_G) (cI cZ cR : ClassId) (y0 : Nat) (b3 : Nat) (b4 : Nat) (b5 : Nat) (b6 : Nat) (b7 : Nat) (b8 : Nat) (b9 : Nat) (b10 : Nat) (b11 : Nat) (b12 : Nat) (b13 : Nat) (b14 : Nat) (b15 : Nat) (b16 : Nat) (b17 : Nat) (b18 : Nat) (b19 : Nat) (b20 : Nat) (b21 : Nat) (b22 : Nat) (b24 : Nat) (b25 : Nat) : CI l D cI cZ cR yX6_lates wsX6_lates { frames := 1, cells := 0, slots := 0, locals := 24 } [.ref y0, .int 1] [(y0, .inr (6, [.int 0, .int 0, .int 0, .ref b3, .ref b4, .ref b5, .ref b6, .ref b7, .ref b8, .ref b9, .ref b10, .ref b11, .ref b12, .ref b13, .ref b14, .ref b15, .ref b16, .ref b17, .ref b18, .ref b19, .ref b20, .ref b21, .ref b22, .int 0, .ref b24, .ref b25]))] (fun (r : Int32) (u : Unit) => r = 0) (fun (u : Unit) => [(y0, .inr (6, [.int 0, .int 0, .int 0, .ref b3, .ref b4, .ref b5, .ref b6, .ref b7, .ref b8, .ref b9, .ref b10, .ref b11, .ref b12, .ref b13, .ref b14, .ref b15, .ref b16, .ref b17, .ref b18, .ref b19, .ref b20, .ref b21, .ref b22, .int 0, .ref b24, .ref b25]))]) := by
  intro sz
  refine en_W (Qc := fun A => va_Qi (fun (r : Int32) (u : Unit) => r = 0) (sB D cI cZ cR (fun (u : Unit) => [(y0, .inr (6, [.int 0, .int 0, .int 0, .ref b3, .ref b4, .ref b5, .ref b6, .ref b7, .ref b8, .ref b9, .ref b10, .ref b11, .ref b12, .ref b13, .ref b14, .ref b15, .ref b16, .ref b17, .ref b18, .ref b19, .ref b20, .ref b21, .ref b22, .int 0, .ref b24, .ref b25]))]) A) A) (cc := cX6_lates) (maxL := 4) (ret := (some .int)) (by decide) rfl (Nat.le_of_ble_eq_true rfl) ?_
  intro p e s m below meth c A ls hx hb hr hts hown hlocks hin hml hK hP hD hS hA hl
  have hown : s.vm.findClass RX6 = some m.cls := hown
  have hl : lv_has ls 4 [(0, .ref y0), (1, .int 1)] := hl
  have kw_0 := hts (.fieldLink RX6 77 "DelayDeskModel" "events" "I") (by decide +kernel)
  have iX6 : ∀ w ∈ u_ws RX6 TX6 26, w ∈ wsX6_lates := by decide +kernel
  refine lv_aload_n hx hb dX6_lates_0 rfl (lv_at hl 0 rfl) ?_
  refine cl_i (wr := []) (va_runV (As := []) (rest := []) ⟨hx, hb, hml, hown, hts⟩ (c_m_spreads l D cI cZ cR y0 b3 b4 b5 b6 b7 b8 b9 b10 b11 b12 b13 b14 b15 b16 b17 b18 b19 b20 b21 b22 b24 b25 s.heap.size) (cwV 0 hts gX6_lates_X6_spreads rfl rfl rfl (by decide +kernel) ⟨Nat.le_of_ble_eq_true rfl, Nat.le_of_ble_eq_true rfl⟩) (pV 6 0 hK hP hD [0] rfl (by decide) rfl rfl) rfl rfl hl.1 rfl (lv_room (Nat.le_of_ble_eq_true rfl)) dX6_lates_1 ⟨Nat.le_of_ble_eq_true rfl, Nat.le_of_ble_eq_true rfl⟩) hP hD hS hA [0] [] rfl rfl (by decide) (by decide) (fun r_1 u_1 H locs hw_1 hP hD hS => ?_)
  have hP : va_P D vwCl [(y0, .inr (6, [.int 0, .int 0, .int 0, .ref b3, .ref b4, .ref b5, .ref b6, .ref b7, .ref b8, .ref b9, .ref b10, .ref b11, .ref b12, .ref b13, .ref b14, .ref b15, .ref b16, .ref b17, .ref b18, .ref b19, .ref b20, .ref b21, .ref b22, .int 0, .ref b24, .ref b25]))] H := hP
  have hD : va_D A [(y0, .inr (6, [.int 0, .int 0, .int 0, .ref b3, .ref b4, .ref b5, .ref b6, .ref b7, .ref b8, .ref b9, .ref b10, .ref b11, .ref b12, .ref b13, .ref b14, .ref b15, .ref b16, .ref b17, .ref b18, .ref b19, .ref b20, .ref b21, .ref b22, .int 0, .ref b24, .ref b25]))] := hD
  subst hw_1
  refine lv_if_ne (tgt := 9) hx hb dX6_lates_4 (by decide) (fun c_4 => ?_) (fun c_4 => absurd c_4 (by decide))
  refine lv_iconst (v := 0) hx hb dX6_lates_9 (by decide) ?_
  refine lv_istore_n (lv' := [(2, .int 0), (0, .ref y0), (1, .int 1)]) hx hb dX6_lates_10 rfl hl (by decide) rfl (fun ls hl => ?_)
  refine lv_iconst (v := 0) hx hb dX6_lates_11 (by decide) ?_
  refine lv_istore_n (lv' := [(3, .int 0), (2, .int 0), (0, .ref y0), (1, .int 1)]) hx hb dX6_lates_12 rfl hl (by decide) rfl (fun ls hl => ?_)
  refine lv_iload_n hx hb dX6_lates_13 rfl (lv_at hl 0 rfl) ?_
  refine lv_aload_n hx hb dX6_lates_14 rfl (lv_at hl 2 rfl) ?_
  refine va_get (D := D) (ci := 6) (v := .int 0) (C := RX6) (T := TX6) (N := 26) hx hb hts iX6 hown hK.1 hP 0 rfl rfl 0 (by decide) kw_0 (fun _ h9 => h9) rfl dX6_lates_15 ?_
  refine lv_icmp_ge (tgt := 59) hx hb dX6_lates_18 (by decide) (fun c_18 => ?_) (fun c_18 => absurd (by decide) c_18)
  refine lv_iload_n hx hb dX6_lates_59 rfl (lv_at hl 1 rfl) ?_
  exact en_i () hx hb hr hlocks hK (hP.sub [0] rfl) (hD.sub [0] (by decide) rfl) hS (Nat.le_of_ble_eq_true rfl) (Nat.le_of_ble_eq_true rfl) dX6_lates_60 (rfl)
set_option maxHeartbeats 4000000 in
set_option maxRecDepth 100000 in
theorem c_m_count (l : Launch) (D : va_G) (cI cZ cR : ClassId) (y0 : Nat) (b3 : Nat) (b4 : Nat) (b5 : Nat) (b6 : Nat) (b7 : Nat) (b8 : Nat) (b9 : Nat) (b10 : Nat) (b11 : Nat) (b12 : Nat) (b13 : Nat) (b14 : Nat) (b15 : Nat) (b16 : Nat) (b17 : Nat) (b18 : Nat) (b19 : Nat) (b20 : Nat) (b21 : Nat) (b22 : Nat) (b24 : Nat) (b25 : Nat) (w0 : Int32) : CI l D cI cZ cR yX6_count wsX6_count { frames := 2, cells := 0, slots := 0, locals := 47 } [.ref y0, .int w0] [(y0, .inr (6, [.int 0, .int 0, .int 0, .ref b3, .ref b4, .ref b5, .ref b6, .ref b7, .ref b8, .ref b9, .ref b10, .ref b11, .ref b12, .ref b13, .ref b14, .ref b15, .ref b16, .ref b17, .ref b18, .ref b19, .ref b20, .ref b21, .ref b22, .int 0, .ref b24, .ref b25])), (b11, .inl (cZ, 16, .inl (fun _ => 0)))] (fun (r : Int32) (u : Unit) => (r = 0 ∧ (w0 = 0 ∨ w0 = 1 ∨ w0 = 2 ∨ w0 = 3 ∨ w0 = 4 ∨ w0 = 5 ∨ w0 = 6 ∨ w0 = 7)) ∨ (r = (-1) ∧ ¬ (w0 = 0 ∨ w0 = 1 ∨ w0 = 2 ∨ w0 = 3 ∨ w0 = 4 ∨ w0 = 5 ∨ w0 = 6 ∨ w0 = 7))) (fun (u : Unit) => []) := by
  intro sz
  refine en_W (Qc := fun A => va_Qi (fun (r : Int32) (u : Unit) => (r = 0 ∧ (w0 = 0 ∨ w0 = 1 ∨ w0 = 2 ∨ w0 = 3 ∨ w0 = 4 ∨ w0 = 5 ∨ w0 = 6 ∨ w0 = 7)) ∨ (r = (-1) ∧ ¬ (w0 = 0 ∨ w0 = 1 ∨ w0 = 2 ∨ w0 = 3 ∨ w0 = 4 ∨ w0 = 5 ∨ w0 = 6 ∨ w0 = 7))) (sB D cI cZ cR (fun (u : Unit) => []) A) A) (cc := cX6_count) (maxL := 4) (ret := (some .int)) (by decide) rfl (Nat.le_of_ble_eq_true rfl) ?_
  intro p e s m below meth c A ls hx hb hr hts hown hlocks hin hml hK hP hD hS hA hl
  have hown : s.vm.findClass RX6 = some m.cls := hown
  have hl : lv_has ls 4 [(0, .ref y0), (1, .int w0)] := hl
  have kw_0 := hts (.fieldLink RX6 77 "DelayDeskModel" "events" "I") (by decide +kernel)
  have iX6 : ∀ w ∈ u_ws RX6 TX6 26, w ∈ wsX6_count := by decide +kernel
  have kw_2 := hts (.fieldLink RX6 81 "DelayDeskModel" "activities" "I") (by decide +kernel)
  have kw_3 := hts (.fieldLink RX6 97 "DelayDeskModel" "groups" "I") (by decide +kernel)
  have kw_4 := hts (.fieldLink RX6 35 "DelayDeskModel" "isCancelled" "[Z") (by decide +kernel)
  refine lv_iconst (v := 0) hx hb dX6_count_0 (by decide) ?_
  refine lv_istore_n (lv' := [(2, .int 0), (0, .ref y0), (1, .int w0)]) hx hb dX6_count_1 rfl hl (by decide) rfl (fun ls hl => ?_)
  refine lv_iload_n hx hb dX6_count_2 rfl (lv_at hl 2 rfl) ?_
  by_cases sw_3_0 : w0 = 0
  · refine lv_tableIn (tgt := 48) hx hb dX6_count_3 (by rw [sw_3_0]; decide) (by rw [sw_3_0]; decide) (by rw [sw_3_0]; rfl) (by decide) ?_
    refine lv_aload_n hx hb dX6_count_48 rfl (lv_at hl 1 rfl) ?_
    refine va_get (D := D) (ci := 6) (v := .int 0) (C := RX6) (T := TX6) (N := 26) hx hb hts iX6 hown hK.1 hP 0 rfl rfl 0 (by decide) kw_0 (fun _ h9 => h9) rfl dX6_count_49 ?_
    exact en_i () hx hb hr hlocks hK (hP.sub [] rfl) (hD.sub [] (by decide) rfl) hS (Nat.le_of_ble_eq_true rfl) (Nat.le_of_ble_eq_true rfl) dX6_count_52 (Or.inl ⟨rfl, by first | (rw [sw_3_0]; decide) | (rw [sw_3_1]; decide) | (rw [sw_3_2]; decide) | (rw [sw_3_3]; decide) | (rw [sw_3_4]; decide) | (rw [sw_3_5]; decide) | (rw [sw_3_6]; decide) | (rw [sw_3_7]; decide) | (intro h; rcases h with h | h | h | h | h | h | h | h <;> exact absurd h (by assumption))⟩)
  by_cases sw_3_1 : w0 = 1
  · refine lv_tableIn (tgt := 53) hx hb dX6_count_3 (by rw [sw_3_1]; decide) (by rw [sw_3_1]; decide) (by rw [sw_3_1]; rfl) (by decide) ?_
    refine lv_aload_n hx hb dX6_count_53 rfl (lv_at hl 1 rfl) ?_
    refine va_get (D := D) (ci := 6) (v := .int 0) (C := RX6) (T := TX6) (N := 26) hx hb hts iX6 hown hK.1 hP 0 rfl rfl 1 (by decide) kw_2 (fun _ h9 => h9) rfl dX6_count_54 ?_
    exact en_i () hx hb hr hlocks hK (hP.sub [] rfl) (hD.sub [] (by decide) rfl) hS (Nat.le_of_ble_eq_true rfl) (Nat.le_of_ble_eq_true rfl) dX6_count_57 (Or.inl ⟨rfl, by first | (rw [sw_3_0]; decide) | (rw [sw_3_1]; decide) | (rw [sw_3_2]; decide) | (rw [sw_3_3]; decide) | (rw [sw_3_4]; decide) | (rw [sw_3_5]; decide) | (rw [sw_3_6]; decide) | (rw [sw_3_7]; decide) | (intro h; rcases h with h | h | h | h | h | h | h | h <;> exact absurd h (by assumption))⟩)
  by_cases sw_3_2 : w0 = 2
  · refine lv_tableIn (tgt := 58) hx hb dX6_count_3 (by rw [sw_3_2]; decide) (by rw [sw_3_2]; decide) (by rw [sw_3_2]; rfl) (by decide) ?_
    refine lv_aload_n hx hb dX6_count_58 rfl (lv_at hl 1 rfl) ?_
    refine va_get (D := D) (ci := 6) (v := .int 0) (C := RX6) (T := TX6) (N := 26) hx hb hts iX6 hown hK.1 hP 0 rfl rfl 2 (by decide) kw_3 (fun _ h9 => h9) rfl dX6_count_59 ?_
    exact en_i () hx hb hr hlocks hK (hP.sub [] rfl) (hD.sub [] (by decide) rfl) hS (Nat.le_of_ble_eq_true rfl) (Nat.le_of_ble_eq_true rfl) dX6_count_62 (Or.inl ⟨rfl, by first | (rw [sw_3_0]; decide) | (rw [sw_3_1]; decide) | (rw [sw_3_2]; decide) | (rw [sw_3_3]; decide) | (rw [sw_3_4]; decide) | (rw [sw_3_5]; decide) | (rw [sw_3_6]; decide) | (rw [sw_3_7]; decide) | (intro h; rcases h with h | h | h | h | h | h | h | h <;> exact absurd h (by assumption))⟩)
  by_cases sw_3_3 : w0 = 3
  · refine lv_tableIn (tgt := 63) hx hb dX6_count_3 (by rw [sw_3_3]; decide) (by rw [sw_3_3]; decide) (by rw [sw_3_3]; rfl) (by decide) ?_
    refine lv_iconst (v := 0) hx hb dX6_count_63 (by decide) ?_
    refine lv_istore_n (lv' := [(3, .int 0), (2, .int 0), (0, .ref y0), (1, .int w0)]) hx hb dX6_count_64 rfl hl (by decide) rfl (fun ls hl => ?_)
    refine lv_iload_n hx hb dX6_count_65 rfl (lv_at hl 0 rfl) ?_
    refine lv_aload_n hx hb dX6_count_66 rfl (lv_at hl 2 rfl) ?_
    refine va_get (D := D) (ci := 6) (v := .int 0) (C := RX6) (T := TX6) (N := 26) hx hb hts iX6 hown hK.1 hP 0 rfl rfl 1 (by decide) kw_2 (fun _ h9 => h9) rfl dX6_count_67 ?_
    refine lv_icmp_ge (tgt := 106) hx hb dX6_count_70 (by decide) (fun c_70 => ?_) (fun c_70 => absurd (by decide) c_70)
    refine lv_iload_n hx hb dX6_count_106 rfl (lv_at hl 1 rfl) ?_
    exact en_i () hx hb hr hlocks hK (hP.sub [] rfl) (hD.sub [] (by decide) rfl) hS (Nat.le_of_ble_eq_true rfl) (Nat.le_of_ble_eq_true rfl) dX6_count_107 (Or.inl ⟨rfl, by first | (rw [sw_3_0]; decide) | (rw [sw_3_1]; decide) | (rw [sw_3_2]; decide) | (rw [sw_3_3]; decide) | (rw [sw_3_4]; decide) | (rw [sw_3_5]; decide) | (rw [sw_3_6]; decide) | (rw [sw_3_7]; decide) | (intro h; rcases h with h | h | h | h | h | h | h | h <;> exact absurd h (by assumption))⟩)
  by_cases sw_3_4 : w0 = 4
  · refine lv_tableIn (tgt := 108) hx hb dX6_count_3 (by rw [sw_3_4]; decide) (by rw [sw_3_4]; decide) (by rw [sw_3_4]; rfl) (by decide) ?_
    refine lv_aload_n hx hb dX6_count_108 rfl (lv_at hl 1 rfl) ?_
    refine lv_iconst (v := 0) hx hb dX6_count_109 (by decide) ?_
    refine cl_i (wr := [(b11, .inl (cZ, 16, .inl (fun _ => 0)))]) (va_runV (As := [.int 0]) (rest := []) ⟨hx, hb, hml, hown, hts⟩ (c_m_lates0 l D cI cZ cR y0 b3 b4 b5 b6 b7 b8 b9 b10 b11 b12 b13 b14 b15 b16 b17 b18 b19 b20 b21 b22 b24 b25 s.heap.size) (cwV 1 hts gX6_count_X6_lates rfl rfl rfl (by decide +kernel) ⟨Nat.le_of_ble_eq_true rfl, Nat.le_of_ble_eq_true rfl⟩) (pV 6 0 hK hP hD [0] rfl (by decide) rfl rfl) rfl rfl hl.1 rfl (lv_room (Nat.le_of_ble_eq_true rfl)) dX6_count_110 ⟨Nat.le_of_ble_eq_true rfl, Nat.le_of_ble_eq_true rfl⟩) hP hD hS hA [0] [1] rfl rfl (by decide) (by decide) (fun r_110 u_110 H locs hw_110 hP hD hS => ?_)
    have hP : va_P D vwCl [(b11, .inl (cZ, 16, .inl (fun _ => 0))), (y0, .inr (6, [.int 0, .int 0, .int 0, .ref b3, .ref b4, .ref b5, .ref b6, .ref b7, .ref b8, .ref b9, .ref b10, .ref b11, .ref b12, .ref b13, .ref b14, .ref b15, .ref b16, .ref b17, .ref b18, .ref b19, .ref b20, .ref b21, .ref b22, .int 0, .ref b24, .ref b25]))] H := hP
    have hD : va_D A [(b11, .inl (cZ, 16, .inl (fun _ => 0))), (y0, .inr (6, [.int 0, .int 0, .int 0, .ref b3, .ref b4, .ref b5, .ref b6, .ref b7, .ref b8, .ref b9, .ref b10, .ref b11, .ref b12, .ref b13, .ref b14, .ref b15, .ref b16, .ref b17, .ref b18, .ref b19, .ref b20, .ref b21, .ref b22, .int 0, .ref b24, .ref b25]))] := hD
    subst hw_110
    exact en_i () hx hb hr hlocks hK (hP.sub [] rfl) (hD.sub [] (by decide) rfl) hS (Nat.le_of_ble_eq_true rfl) (Nat.le_of_ble_eq_true rfl) dX6_count_113 (Or.inl ⟨rfl, by first | (rw [sw_3_0]; decide) | (rw [sw_3_1]; decide) | (rw [sw_3_2]; decide) | (rw [sw_3_3]; decide) | (rw [sw_3_4]; decide) | (rw [sw_3_5]; decide) | (rw [sw_3_6]; decide) | (rw [sw_3_7]; decide) | (intro h; rcases h with h | h | h | h | h | h | h | h <;> exact absurd h (by assumption))⟩)
  by_cases sw_3_5 : w0 = 5
  · refine lv_tableIn (tgt := 114) hx hb dX6_count_3 (by rw [sw_3_5]; decide) (by rw [sw_3_5]; decide) (by rw [sw_3_5]; rfl) (by decide) ?_
    refine lv_aload_n hx hb dX6_count_114 rfl (lv_at hl 1 rfl) ?_
    refine lv_iconst (v := 1) hx hb dX6_count_115 (by decide) ?_
    refine cl_i (wr := [(b11, .inl (cZ, 16, .inl (fun _ => 0)))]) (va_runV (As := [.int 1]) (rest := []) ⟨hx, hb, hml, hown, hts⟩ (c_m_lates1 l D cI cZ cR y0 b3 b4 b5 b6 b7 b8 b9 b10 b11 b12 b13 b14 b15 b16 b17 b18 b19 b20 b21 b22 b24 b25 s.heap.size) (cwV 1 hts gX6_count_X6_lates rfl rfl rfl (by decide +kernel) ⟨Nat.le_of_ble_eq_true rfl, Nat.le_of_ble_eq_true rfl⟩) (pV 6 0 hK hP hD [0] rfl (by decide) rfl rfl) rfl rfl hl.1 rfl (lv_room (Nat.le_of_ble_eq_true rfl)) dX6_count_116 ⟨Nat.le_of_ble_eq_true rfl, Nat.le_of_ble_eq_true rfl⟩) hP hD hS hA [0] [1] rfl rfl (by decide) (by decide) (fun r_116 u_116 H locs hw_116 hP hD hS => ?_)
    have hP : va_P D vwCl [(b11, .inl (cZ, 16, .inl (fun _ => 0))), (y0, .inr (6, [.int 0, .int 0, .int 0, .ref b3, .ref b4, .ref b5, .ref b6, .ref b7, .ref b8, .ref b9, .ref b10, .ref b11, .ref b12, .ref b13, .ref b14, .ref b15, .ref b16, .ref b17, .ref b18, .ref b19, .ref b20, .ref b21, .ref b22, .int 0, .ref b24, .ref b25]))] H := hP
    have hD : va_D A [(b11, .inl (cZ, 16, .inl (fun _ => 0))), (y0, .inr (6, [.int 0, .int 0, .int 0, .ref b3, .ref b4, .ref b5, .ref b6, .ref b7, .ref b8, .ref b9, .ref b10, .ref b11, .ref b12, .ref b13, .ref b14, .ref b15, .ref b16, .ref b17, .ref b18, .ref b19, .ref b20, .ref b21, .ref b22, .int 0, .ref b24, .ref b25]))] := hD
    subst hw_116
    exact en_i () hx hb hr hlocks hK (hP.sub [] rfl) (hD.sub [] (by decide) rfl) hS (Nat.le_of_ble_eq_true rfl) (Nat.le_of_ble_eq_true rfl) dX6_count_119 (Or.inl ⟨rfl, by first | (rw [sw_3_0]; decide) | (rw [sw_3_1]; decide) | (rw [sw_3_2]; decide) | (rw [sw_3_3]; decide) | (rw [sw_3_4]; decide) | (rw [sw_3_5]; decide) | (rw [sw_3_6]; decide) | (rw [sw_3_7]; decide) | (intro h; rcases h with h | h | h | h | h | h | h | h <;> exact absurd h (by assumption))⟩)
  by_cases sw_3_6 : w0 = 6
  · refine lv_tableIn (tgt := 120) hx hb dX6_count_3 (by rw [sw_3_6]; decide) (by rw [sw_3_6]; decide) (by rw [sw_3_6]; rfl) (by decide) ?_
    refine lv_iconst (v := 0) hx hb dX6_count_120 (by decide) ?_
    refine lv_istore_n (lv' := [(3, .int 0), (2, .int 0), (0, .ref y0), (1, .int w0)]) hx hb dX6_count_121 rfl hl (by decide) rfl (fun ls hl => ?_)
    refine lv_iload_n hx hb dX6_count_122 rfl (lv_at hl 0 rfl) ?_
    refine lv_bipush (v := 16) hx hb dX6_count_123 (by decide) ?_
    refine lv_icmp_ge (tgt := 151) hx hb dX6_count_125 (by decide) (fun c_125 => absurd c_125 (by decide)) (fun c_125 => ?_)
    refine lv_iload_n hx hb dX6_count_128 rfl (lv_at hl 1 rfl) ?_
    refine lv_aload_n hx hb dX6_count_129 rfl (lv_at hl 2 rfl) ?_
    refine va_get (D := D) (ci := 6) (v := .ref b11) (C := RX6) (T := TX6) (N := 26) hx hb hts iX6 hown hK.1 hP 0 rfl rfl 11 (by decide) kw_4 (fun _ h9 => h9) rfl dX6_count_130 ?_
    refine lv_iload_n hx hb dX6_count_133 rfl (lv_at hl 0 rfl) ?_
    refine va_zald hx hb hK.1 hP 1 1 rfl rfl (by unfold vp_in; decide) dX6_count_134 ?_
    refine W.eq (g2 := F0 m 135 ls [.int 0, .int 0]) rfl ?_
    refine lv_if_eq (tgt := 142) hx hb dX6_count_135 (by decide) (fun c_135 => ?_) (fun c_135 => absurd (by decide) c_135)
    refine lv_iconst (v := 0) hx hb dX6_count_142 (by decide) ?_
    refine lv_iadd hx hb dX6_count_143 ?_
    refine W.eq (g2 := F0 m 144 ls [.int 0]) (by congr 2) ?_
    refine lv_istore_n (lv' := [(2, .int 0), (3, .int 0), (0, .ref y0), (1, .int w0)]) hx hb dX6_count_144 rfl hl (by decide) rfl (fun ls hl => ?_)
    refine lv_iinc (v := 1) (lv' := [(3, .int 1), (2, .int 0), (0, .ref y0), (1, .int w0)]) hx hb dX6_count_145 hl (k := 1) rfl (by decide) (by decide) rfl (fun ls hl => ?_)
    refine lv_goto (tgt := 122) hx hb dX6_count_148 (by decide) ?_
    refine lv_iload_n hx hb dX6_count_122 rfl (lv_at hl 0 rfl) ?_
    refine lv_bipush (v := 16) hx hb dX6_count_123 (by decide) ?_
    refine lv_icmp_ge (tgt := 151) hx hb dX6_count_125 (by decide) (fun c_125 => absurd c_125 (by decide)) (fun c_125 => ?_)
    refine lv_iload_n hx hb dX6_count_128 rfl (lv_at hl 1 rfl) ?_
    refine lv_aload_n hx hb dX6_count_129 rfl (lv_at hl 2 rfl) ?_
    refine va_get (D := D) (ci := 6) (v := .ref b11) (C := RX6) (T := TX6) (N := 26) hx hb hts iX6 hown hK.1 hP 0 rfl rfl 11 (by decide) kw_4 (fun _ h9 => h9) rfl dX6_count_130 ?_
    refine lv_iload_n hx hb dX6_count_133 rfl (lv_at hl 0 rfl) ?_
    refine va_zald hx hb hK.1 hP 1 1 rfl rfl (by unfold vp_in; decide) dX6_count_134 ?_
    refine W.eq (g2 := F0 m 135 ls [.int 0, .int 0]) rfl ?_
    refine lv_if_eq (tgt := 142) hx hb dX6_count_135 (by decide) (fun c_135 => ?_) (fun c_135 => absurd (by decide) c_135)
    refine lv_iconst (v := 0) hx hb dX6_count_142 (by decide) ?_
    refine lv_iadd hx hb dX6_count_143 ?_
    refine W.eq (g2 := F0 m 144 ls [.int 0]) (by congr 2) ?_
    refine lv_istore_n (lv' := [(2, .int 0), (3, .int 1), (0, .ref y0), (1, .int w0)]) hx hb dX6_count_144 rfl hl (by decide) rfl (fun ls hl => ?_)
    refine lv_iinc (v := 2) (lv' := [(3, .int 2), (2, .int 0), (0, .ref y0), (1, .int w0)]) hx hb dX6_count_145 hl (k := 1) rfl (by decide) (by decide) rfl (fun ls hl => ?_)
    refine lv_goto (tgt := 122) hx hb dX6_count_148 (by decide) ?_
    refine lv_iload_n hx hb dX6_count_122 rfl (lv_at hl 0 rfl) ?_
    refine lv_bipush (v := 16) hx hb dX6_count_123 (by decide) ?_
    refine lv_icmp_ge (tgt := 151) hx hb dX6_count_125 (by decide) (fun c_125 => absurd c_125 (by decide)) (fun c_125 => ?_)
    refine lv_iload_n hx hb dX6_count_128 rfl (lv_at hl 1 rfl) ?_
    refine lv_aload_n hx hb dX6_count_129 rfl (lv_at hl 2 rfl) ?_
    refine va_get (D := D) (ci := 6) (v := .ref b11) (C := RX6) (T := TX6) (N := 26) hx hb hts iX6 hown hK.1 hP 0 rfl rfl 11 (by decide) kw_4 (fun _ h9 => h9) rfl dX6_count_130 ?_
    refine lv_iload_n hx hb dX6_count_133 rfl (lv_at hl 0 rfl) ?_
    refine va_zald hx hb hK.1 hP 1 1 rfl rfl (by unfold vp_in; decide) dX6_count_134 ?_
    refine W.eq (g2 := F0 m 135 ls [.int 0, .int 0]) rfl ?_
    refine lv_if_eq (tgt := 142) hx hb dX6_count_135 (by decide) (fun c_135 => ?_) (fun c_135 => absurd (by decide) c_135)
    refine lv_iconst (v := 0) hx hb dX6_count_142 (by decide) ?_
    refine lv_iadd hx hb dX6_count_143 ?_
    refine W.eq (g2 := F0 m 144 ls [.int 0]) (by congr 2) ?_
    refine lv_istore_n (lv' := [(2, .int 0), (3, .int 2), (0, .ref y0), (1, .int w0)]) hx hb dX6_count_144 rfl hl (by decide) rfl (fun ls hl => ?_)
    refine lv_iinc (v := 3) (lv' := [(3, .int 3), (2, .int 0), (0, .ref y0), (1, .int w0)]) hx hb dX6_count_145 hl (k := 1) rfl (by decide) (by decide) rfl (fun ls hl => ?_)
    refine lv_goto (tgt := 122) hx hb dX6_count_148 (by decide) ?_
    refine lv_iload_n hx hb dX6_count_122 rfl (lv_at hl 0 rfl) ?_
    refine lv_bipush (v := 16) hx hb dX6_count_123 (by decide) ?_
    refine lv_icmp_ge (tgt := 151) hx hb dX6_count_125 (by decide) (fun c_125 => absurd c_125 (by decide)) (fun c_125 => ?_)
    refine lv_iload_n hx hb dX6_count_128 rfl (lv_at hl 1 rfl) ?_
    refine lv_aload_n hx hb dX6_count_129 rfl (lv_at hl 2 rfl) ?_
    refine va_get (D := D) (ci := 6) (v := .ref b11) (C := RX6) (T := TX6) (N := 26) hx hb hts iX6 hown hK.1 hP 0 rfl rfl 11 (by decide) kw_4 (fun _ h9 => h9) rfl dX6_count_130 ?_
    refine lv_iload_n hx hb dX6_count_133 rfl (lv_at hl 0 rfl) ?_
    refine va_zald hx hb hK.1 hP 1 1 rfl rfl (by unfold vp_in; decide) dX6_count_134 ?_
    refine W.eq (g2 := F0 m 135 ls [.int 0, .int 0]) rfl ?_
    refine lv_if_eq (tgt := 142) hx hb dX6_count_135 (by decide) (fun c_135 => ?_) (fun c_135 => absurd (by decide) c_135)
    refine lv_iconst (v := 0) hx hb dX6_count_142 (by decide) ?_
    refine lv_iadd hx hb dX6_count_143 ?_
    refine W.eq (g2 := F0 m 144 ls [.int 0]) (by congr 2) ?_
    refine lv_istore_n (lv' := [(2, .int 0), (3, .int 3), (0, .ref y0), (1, .int w0)]) hx hb dX6_count_144 rfl hl (by decide) rfl (fun ls hl => ?_)
    refine lv_iinc (v := 4) (lv' := [(3, .int 4), (2, .int 0), (0, .ref y0), (1, .int w0)]) hx hb dX6_count_145 hl (k := 1) rfl (by decide) (by decide) rfl (fun ls hl => ?_)
    refine lv_goto (tgt := 122) hx hb dX6_count_148 (by decide) ?_
    refine lv_iload_n hx hb dX6_count_122 rfl (lv_at hl 0 rfl) ?_
    refine lv_bipush (v := 16) hx hb dX6_count_123 (by decide) ?_
    refine lv_icmp_ge (tgt := 151) hx hb dX6_count_125 (by decide) (fun c_125 => absurd c_125 (by decide)) (fun c_125 => ?_)
    refine lv_iload_n hx hb dX6_count_128 rfl (lv_at hl 1 rfl) ?_
    refine lv_aload_n hx hb dX6_count_129 rfl (lv_at hl 2 rfl) ?_
    refine va_get (D := D) (ci := 6) (v := .ref b11) (C := RX6) (T := TX6) (N := 26) hx hb hts iX6 hown hK.1 hP 0 rfl rfl 11 (by decide) kw_4 (fun _ h9 => h9) rfl dX6_count_130 ?_
    refine lv_iload_n hx hb dX6_count_133 rfl (lv_at hl 0 rfl) ?_
    refine va_zald hx hb hK.1 hP 1 1 rfl rfl (by unfold vp_in; decide) dX6_count_134 ?_
    refine W.eq (g2 := F0 m 135 ls [.int 0, .int 0]) rfl ?_
    refine lv_if_eq (tgt := 142) hx hb dX6_count_135 (by decide) (fun c_135 => ?_) (fun c_135 => absurd (by decide) c_135)
    refine lv_iconst (v := 0) hx hb dX6_count_142 (by decide) ?_
    refine lv_iadd hx hb dX6_count_143 ?_
    refine W.eq (g2 := F0 m 144 ls [.int 0]) (by congr 2) ?_
    refine lv_istore_n (lv' := [(2, .int 0), (3, .int 4), (0, .ref y0), (1, .int w0)]) hx hb dX6_count_144 rfl hl (by decide) rfl (fun ls hl => ?_)
    refine lv_iinc (v := 5) (lv' := [(3, .int 5), (2, .int 0), (0, .ref y0), (1, .int w0)]) hx hb dX6_count_145 hl (k := 1) rfl (by decide) (by decide) rfl (fun ls hl => ?_)
    refine lv_goto (tgt := 122) hx hb dX6_count_148 (by decide) ?_
    refine lv_iload_n hx hb dX6_count_122 rfl (lv_at hl 0 rfl) ?_
    refine lv_bipush (v := 16) hx hb dX6_count_123 (by decide) ?_
    refine lv_icmp_ge (tgt := 151) hx hb dX6_count_125 (by decide) (fun c_125 => absurd c_125 (by decide)) (fun c_125 => ?_)
    refine lv_iload_n hx hb dX6_count_128 rfl (lv_at hl 1 rfl) ?_
    refine lv_aload_n hx hb dX6_count_129 rfl (lv_at hl 2 rfl) ?_
    refine va_get (D := D) (ci := 6) (v := .ref b11) (C := RX6) (T := TX6) (N := 26) hx hb hts iX6 hown hK.1 hP 0 rfl rfl 11 (by decide) kw_4 (fun _ h9 => h9) rfl dX6_count_130 ?_
    refine lv_iload_n hx hb dX6_count_133 rfl (lv_at hl 0 rfl) ?_
    refine va_zald hx hb hK.1 hP 1 1 rfl rfl (by unfold vp_in; decide) dX6_count_134 ?_
    refine W.eq (g2 := F0 m 135 ls [.int 0, .int 0]) rfl ?_
    refine lv_if_eq (tgt := 142) hx hb dX6_count_135 (by decide) (fun c_135 => ?_) (fun c_135 => absurd (by decide) c_135)
    refine lv_iconst (v := 0) hx hb dX6_count_142 (by decide) ?_
    refine lv_iadd hx hb dX6_count_143 ?_
    refine W.eq (g2 := F0 m 144 ls [.int 0]) (by congr 2) ?_
    refine lv_istore_n (lv' := [(2, .int 0), (3, .int 5), (0, .ref y0), (1, .int w0)]) hx hb dX6_count_144 rfl hl (by decide) rfl (fun ls hl => ?_)
    refine lv_iinc (v := 6) (lv' := [(3, .int 6), (2, .int 0), (0, .ref y0), (1, .int w0)]) hx hb dX6_count_145 hl (k := 1) rfl (by decide) (by decide) rfl (fun ls hl => ?_)
    refine lv_goto (tgt := 122) hx hb dX6_count_148 (by decide) ?_
    refine lv_iload_n hx hb dX6_count_122 rfl (lv_at hl 0 rfl) ?_
    refine lv_bipush (v := 16) hx hb dX6_count_123 (by decide) ?_
    refine lv_icmp_ge (tgt := 151) hx hb dX6_count_125 (by decide) (fun c_125 => absurd c_125 (by decide)) (fun c_125 => ?_)
    refine lv_iload_n hx hb dX6_count_128 rfl (lv_at hl 1 rfl) ?_
    refine lv_aload_n hx hb dX6_count_129 rfl (lv_at hl 2 rfl) ?_
    refine va_get (D := D) (ci := 6) (v := .ref b11) (C := RX6) (T := TX6) (N := 26) hx hb hts iX6 hown hK.1 hP 0 rfl rfl 11 (by decide) kw_4 (fun _ h9 => h9) rfl dX6_count_130 ?_
    refine lv_iload_n hx hb dX6_count_133 rfl (lv_at hl 0 rfl) ?_
    refine va_zald hx hb hK.1 hP 1 1 rfl rfl (by unfold vp_in; decide) dX6_count_134 ?_
    refine W.eq (g2 := F0 m 135 ls [.int 0, .int 0]) rfl ?_
    refine lv_if_eq (tgt := 142) hx hb dX6_count_135 (by decide) (fun c_135 => ?_) (fun c_135 => absurd (by decide) c_135)
    refine lv_iconst (v := 0) hx hb dX6_count_142 (by decide) ?_
    refine lv_iadd hx hb dX6_count_143 ?_
    refine W.eq (g2 := F0 m 144 ls [.int 0]) (by congr 2) ?_
    refine lv_istore_n (lv' := [(2, .int 0), (3, .int 6), (0, .ref y0), (1, .int w0)]) hx hb dX6_count_144 rfl hl (by decide) rfl (fun ls hl => ?_)
    refine lv_iinc (v := 7) (lv' := [(3, .int 7), (2, .int 0), (0, .ref y0), (1, .int w0)]) hx hb dX6_count_145 hl (k := 1) rfl (by decide) (by decide) rfl (fun ls hl => ?_)
    refine lv_goto (tgt := 122) hx hb dX6_count_148 (by decide) ?_
    refine lv_iload_n hx hb dX6_count_122 rfl (lv_at hl 0 rfl) ?_
    refine lv_bipush (v := 16) hx hb dX6_count_123 (by decide) ?_
    refine lv_icmp_ge (tgt := 151) hx hb dX6_count_125 (by decide) (fun c_125 => absurd c_125 (by decide)) (fun c_125 => ?_)
    refine lv_iload_n hx hb dX6_count_128 rfl (lv_at hl 1 rfl) ?_
    refine lv_aload_n hx hb dX6_count_129 rfl (lv_at hl 2 rfl) ?_
    refine va_get (D := D) (ci := 6) (v := .ref b11) (C := RX6) (T := TX6) (N := 26) hx hb hts iX6 hown hK.1 hP 0 rfl rfl 11 (by decide) kw_4 (fun _ h9 => h9) rfl dX6_count_130 ?_
    refine lv_iload_n hx hb dX6_count_133 rfl (lv_at hl 0 rfl) ?_
    refine va_zald hx hb hK.1 hP 1 1 rfl rfl (by unfold vp_in; decide) dX6_count_134 ?_
    refine W.eq (g2 := F0 m 135 ls [.int 0, .int 0]) rfl ?_
    refine lv_if_eq (tgt := 142) hx hb dX6_count_135 (by decide) (fun c_135 => ?_) (fun c_135 => absurd (by decide) c_135)
    refine lv_iconst (v := 0) hx hb dX6_count_142 (by decide) ?_
    refine lv_iadd hx hb dX6_count_143 ?_
    refine W.eq (g2 := F0 m 144 ls [.int 0]) (by congr 2) ?_
    refine lv_istore_n (lv' := [(2, .int 0), (3, .int 7), (0, .ref y0), (1, .int w0)]) hx hb dX6_count_144 rfl hl (by decide) rfl (fun ls hl => ?_)
    refine lv_iinc (v := 8) (lv' := [(3, .int 8), (2, .int 0), (0, .ref y0), (1, .int w0)]) hx hb dX6_count_145 hl (k := 1) rfl (by decide) (by decide) rfl (fun ls hl => ?_)
    refine lv_goto (tgt := 122) hx hb dX6_count_148 (by decide) ?_
    refine lv_iload_n hx hb dX6_count_122 rfl (lv_at hl 0 rfl) ?_
    refine lv_bipush (v := 16) hx hb dX6_count_123 (by decide) ?_
    refine lv_icmp_ge (tgt := 151) hx hb dX6_count_125 (by decide) (fun c_125 => absurd c_125 (by decide)) (fun c_125 => ?_)
    refine lv_iload_n hx hb dX6_count_128 rfl (lv_at hl 1 rfl) ?_
    refine lv_aload_n hx hb dX6_count_129 rfl (lv_at hl 2 rfl) ?_
    refine va_get (D := D) (ci := 6) (v := .ref b11) (C := RX6) (T := TX6) (N := 26) hx hb hts iX6 hown hK.1 hP 0 rfl rfl 11 (by decide) kw_4 (fun _ h9 => h9) rfl dX6_count_130 ?_
    refine lv_iload_n hx hb dX6_count_133 rfl (lv_at hl 0 rfl) ?_
    refine va_zald hx hb hK.1 hP 1 1 rfl rfl (by unfold vp_in; decide) dX6_count_134 ?_
    refine W.eq (g2 := F0 m 135 ls [.int 0, .int 0]) rfl ?_
    refine lv_if_eq (tgt := 142) hx hb dX6_count_135 (by decide) (fun c_135 => ?_) (fun c_135 => absurd (by decide) c_135)
    refine lv_iconst (v := 0) hx hb dX6_count_142 (by decide) ?_
    refine lv_iadd hx hb dX6_count_143 ?_
    refine W.eq (g2 := F0 m 144 ls [.int 0]) (by congr 2) ?_
    refine lv_istore_n (lv' := [(2, .int 0), (3, .int 8), (0, .ref y0), (1, .int w0)]) hx hb dX6_count_144 rfl hl (by decide) rfl (fun ls hl => ?_)
    refine lv_iinc (v := 9) (lv' := [(3, .int 9), (2, .int 0), (0, .ref y0), (1, .int w0)]) hx hb dX6_count_145 hl (k := 1) rfl (by decide) (by decide) rfl (fun ls hl => ?_)
    refine lv_goto (tgt := 122) hx hb dX6_count_148 (by decide) ?_
    refine lv_iload_n hx hb dX6_count_122 rfl (lv_at hl 0 rfl) ?_
    refine lv_bipush (v := 16) hx hb dX6_count_123 (by decide) ?_
    refine lv_icmp_ge (tgt := 151) hx hb dX6_count_125 (by decide) (fun c_125 => absurd c_125 (by decide)) (fun c_125 => ?_)
    refine lv_iload_n hx hb dX6_count_128 rfl (lv_at hl 1 rfl) ?_
    refine lv_aload_n hx hb dX6_count_129 rfl (lv_at hl 2 rfl) ?_
    refine va_get (D := D) (ci := 6) (v := .ref b11) (C := RX6) (T := TX6) (N := 26) hx hb hts iX6 hown hK.1 hP 0 rfl rfl 11 (by decide) kw_4 (fun _ h9 => h9) rfl dX6_count_130 ?_
    refine lv_iload_n hx hb dX6_count_133 rfl (lv_at hl 0 rfl) ?_
    refine va_zald hx hb hK.1 hP 1 1 rfl rfl (by unfold vp_in; decide) dX6_count_134 ?_
    refine W.eq (g2 := F0 m 135 ls [.int 0, .int 0]) rfl ?_
    refine lv_if_eq (tgt := 142) hx hb dX6_count_135 (by decide) (fun c_135 => ?_) (fun c_135 => absurd (by decide) c_135)
    refine lv_iconst (v := 0) hx hb dX6_count_142 (by decide) ?_
    refine lv_iadd hx hb dX6_count_143 ?_
    refine W.eq (g2 := F0 m 144 ls [.int 0]) (by congr 2) ?_
    refine lv_istore_n (lv' := [(2, .int 0), (3, .int 9), (0, .ref y0), (1, .int w0)]) hx hb dX6_count_144 rfl hl (by decide) rfl (fun ls hl => ?_)
    refine lv_iinc (v := 10) (lv' := [(3, .int 10), (2, .int 0), (0, .ref y0), (1, .int w0)]) hx hb dX6_count_145 hl (k := 1) rfl (by decide) (by decide) rfl (fun ls hl => ?_)
    refine lv_goto (tgt := 122) hx hb dX6_count_148 (by decide) ?_
    refine lv_iload_n hx hb dX6_count_122 rfl (lv_at hl 0 rfl) ?_
    refine lv_bipush (v := 16) hx hb dX6_count_123 (by decide) ?_
    refine lv_icmp_ge (tgt := 151) hx hb dX6_count_125 (by decide) (fun c_125 => absurd c_125 (by decide)) (fun c_125 => ?_)
    refine lv_iload_n hx hb dX6_count_128 rfl (lv_at hl 1 rfl) ?_
    refine lv_aload_n hx hb dX6_count_129 rfl (lv_at hl 2 rfl) ?_
    refine va_get (D := D) (ci := 6) (v := .ref b11) (C := RX6) (T := TX6) (N := 26) hx hb hts iX6 hown hK.1 hP 0 rfl rfl 11 (by decide) kw_4 (fun _ h9 => h9) rfl dX6_count_130 ?_
    refine lv_iload_n hx hb dX6_count_133 rfl (lv_at hl 0 rfl) ?_
    refine va_zald hx hb hK.1 hP 1 1 rfl rfl (by unfold vp_in; decide) dX6_count_134 ?_
    refine W.eq (g2 := F0 m 135 ls [.int 0, .int 0]) rfl ?_
    refine lv_if_eq (tgt := 142) hx hb dX6_count_135 (by decide) (fun c_135 => ?_) (fun c_135 => absurd (by decide) c_135)
    refine lv_iconst (v := 0) hx hb dX6_count_142 (by decide) ?_
    refine lv_iadd hx hb dX6_count_143 ?_
    refine W.eq (g2 := F0 m 144 ls [.int 0]) (by congr 2) ?_
    refine lv_istore_n (lv' := [(2, .int 0), (3, .int 10), (0, .ref y0), (1, .int w0)]) hx hb dX6_count_144 rfl hl (by decide) rfl (fun ls hl => ?_)
    refine lv_iinc (v := 11) (lv' := [(3, .int 11), (2, .int 0), (0, .ref y0), (1, .int w0)]) hx hb dX6_count_145 hl (k := 1) rfl (by decide) (by decide) rfl (fun ls hl => ?_)
    refine lv_goto (tgt := 122) hx hb dX6_count_148 (by decide) ?_
    refine lv_iload_n hx hb dX6_count_122 rfl (lv_at hl 0 rfl) ?_
    refine lv_bipush (v := 16) hx hb dX6_count_123 (by decide) ?_
    refine lv_icmp_ge (tgt := 151) hx hb dX6_count_125 (by decide) (fun c_125 => absurd c_125 (by decide)) (fun c_125 => ?_)
    refine lv_iload_n hx hb dX6_count_128 rfl (lv_at hl 1 rfl) ?_
    refine lv_aload_n hx hb dX6_count_129 rfl (lv_at hl 2 rfl) ?_
    refine va_get (D := D) (ci := 6) (v := .ref b11) (C := RX6) (T := TX6) (N := 26) hx hb hts iX6 hown hK.1 hP 0 rfl rfl 11 (by decide) kw_4 (fun _ h9 => h9) rfl dX6_count_130 ?_
    refine lv_iload_n hx hb dX6_count_133 rfl (lv_at hl 0 rfl) ?_
    refine va_zald hx hb hK.1 hP 1 1 rfl rfl (by unfold vp_in; decide) dX6_count_134 ?_
    refine W.eq (g2 := F0 m 135 ls [.int 0, .int 0]) rfl ?_
    refine lv_if_eq (tgt := 142) hx hb dX6_count_135 (by decide) (fun c_135 => ?_) (fun c_135 => absurd (by decide) c_135)
    refine lv_iconst (v := 0) hx hb dX6_count_142 (by decide) ?_
    refine lv_iadd hx hb dX6_count_143 ?_
    refine W.eq (g2 := F0 m 144 ls [.int 0]) (by congr 2) ?_
    refine lv_istore_n (lv' := [(2, .int 0), (3, .int 11), (0, .ref y0), (1, .int w0)]) hx hb dX6_count_144 rfl hl (by decide) rfl (fun ls hl => ?_)
    refine lv_iinc (v := 12) (lv' := [(3, .int 12), (2, .int 0), (0, .ref y0), (1, .int w0)]) hx hb dX6_count_145 hl (k := 1) rfl (by decide) (by decide) rfl (fun ls hl => ?_)
    refine lv_goto (tgt := 122) hx hb dX6_count_148 (by decide) ?_
    refine lv_iload_n hx hb dX6_count_122 rfl (lv_at hl 0 rfl) ?_
    refine lv_bipush (v := 16) hx hb dX6_count_123 (by decide) ?_
    refine lv_icmp_ge (tgt := 151) hx hb dX6_count_125 (by decide) (fun c_125 => absurd c_125 (by decide)) (fun c_125 => ?_)
    refine lv_iload_n hx hb dX6_count_128 rfl (lv_at hl 1 rfl) ?_
    refine lv_aload_n hx hb dX6_count_129 rfl (lv_at hl 2 rfl) ?_
    refine va_get (D := D) (ci := 6) (v := .ref b11) (C := RX6) (T := TX6) (N := 26) hx hb hts iX6 hown hK.1 hP 0 rfl rfl 11 (by decide) kw_4 (fun _ h9 => h9) rfl dX6_count_130 ?_
    refine lv_iload_n hx hb dX6_count_133 rfl (lv_at hl 0 rfl) ?_
    refine va_zald hx hb hK.1 hP 1 1 rfl rfl (by unfold vp_in; decide) dX6_count_134 ?_
    refine W.eq (g2 := F0 m 135 ls [.int 0, .int 0]) rfl ?_
    refine lv_if_eq (tgt := 142) hx hb dX6_count_135 (by decide) (fun c_135 => ?_) (fun c_135 => absurd (by decide) c_135)
    refine lv_iconst (v := 0) hx hb dX6_count_142 (by decide) ?_
    refine lv_iadd hx hb dX6_count_143 ?_
    refine W.eq (g2 := F0 m 144 ls [.int 0]) (by congr 2) ?_
    refine lv_istore_n (lv' := [(2, .int 0), (3, .int 12), (0, .ref y0), (1, .int w0)]) hx hb dX6_count_144 rfl hl (by decide) rfl (fun ls hl => ?_)
    refine lv_iinc (v := 13) (lv' := [(3, .int 13), (2, .int 0), (0, .ref y0), (1, .int w0)]) hx hb dX6_count_145 hl (k := 1) rfl (by decide) (by decide) rfl (fun ls hl => ?_)
    refine lv_goto (tgt := 122) hx hb dX6_count_148 (by decide) ?_
    refine lv_iload_n hx hb dX6_count_122 rfl (lv_at hl 0 rfl) ?_
    refine lv_bipush (v := 16) hx hb dX6_count_123 (by decide) ?_
    refine lv_icmp_ge (tgt := 151) hx hb dX6_count_125 (by decide) (fun c_125 => absurd c_125 (by decide)) (fun c_125 => ?_)
    refine lv_iload_n hx hb dX6_count_128 rfl (lv_at hl 1 rfl) ?_
    refine lv_aload_n hx hb dX6_count_129 rfl (lv_at hl 2 rfl) ?_
    refine va_get (D := D) (ci := 6) (v := .ref b11) (C := RX6) (T := TX6) (N := 26) hx hb hts iX6 hown hK.1 hP 0 rfl rfl 11 (by decide) kw_4 (fun _ h9 => h9) rfl dX6_count_130 ?_
    refine lv_iload_n hx hb dX6_count_133 rfl (lv_at hl 0 rfl) ?_
    refine va_zald hx hb hK.1 hP 1 1 rfl rfl (by unfold vp_in; decide) dX6_count_134 ?_
    refine W.eq (g2 := F0 m 135 ls [.int 0, .int 0]) rfl ?_
    refine lv_if_eq (tgt := 142) hx hb dX6_count_135 (by decide) (fun c_135 => ?_) (fun c_135 => absurd (by decide) c_135)
    refine lv_iconst (v := 0) hx hb dX6_count_142 (by decide) ?_
    refine lv_iadd hx hb dX6_count_143 ?_
    refine W.eq (g2 := F0 m 144 ls [.int 0]) (by congr 2) ?_
    refine lv_istore_n (lv' := [(2, .int 0), (3, .int 13), (0, .ref y0), (1, .int w0)]) hx hb dX6_count_144 rfl hl (by decide) rfl (fun ls hl => ?_)
    refine lv_iinc (v := 14) (lv' := [(3, .int 14), (2, .int 0), (0, .ref y0), (1, .int w0)]) hx hb dX6_count_145 hl (k := 1) rfl (by decide) (by decide) rfl (fun ls hl => ?_)
    refine lv_goto (tgt := 122) hx hb dX6_count_148 (by decide) ?_
    refine lv_iload_n hx hb dX6_count_122 rfl (lv_at hl 0 rfl) ?_
    refine lv_bipush (v := 16) hx hb dX6_count_123 (by decide) ?_
    refine lv_icmp_ge (tgt := 151) hx hb dX6_count_125 (by decide) (fun c_125 => absurd c_125 (by decide)) (fun c_125 => ?_)
    refine lv_iload_n hx hb dX6_count_128 rfl (lv_at hl 1 rfl) ?_
    refine lv_aload_n hx hb dX6_count_129 rfl (lv_at hl 2 rfl) ?_
    refine va_get (D := D) (ci := 6) (v := .ref b11) (C := RX6) (T := TX6) (N := 26) hx hb hts iX6 hown hK.1 hP 0 rfl rfl 11 (by decide) kw_4 (fun _ h9 => h9) rfl dX6_count_130 ?_
    refine lv_iload_n hx hb dX6_count_133 rfl (lv_at hl 0 rfl) ?_
    refine va_zald hx hb hK.1 hP 1 1 rfl rfl (by unfold vp_in; decide) dX6_count_134 ?_
    refine W.eq (g2 := F0 m 135 ls [.int 0, .int 0]) rfl ?_
    refine lv_if_eq (tgt := 142) hx hb dX6_count_135 (by decide) (fun c_135 => ?_) (fun c_135 => absurd (by decide) c_135)
    refine lv_iconst (v := 0) hx hb dX6_count_142 (by decide) ?_
    refine lv_iadd hx hb dX6_count_143 ?_
    refine W.eq (g2 := F0 m 144 ls [.int 0]) (by congr 2) ?_
    refine lv_istore_n (lv' := [(2, .int 0), (3, .int 14), (0, .ref y0), (1, .int w0)]) hx hb dX6_count_144 rfl hl (by decide) rfl (fun ls hl => ?_)
    refine lv_iinc (v := 15) (lv' := [(3, .int 15), (2, .int 0), (0, .ref y0), (1, .int w0)]) hx hb dX6_count_145 hl (k := 1) rfl (by decide) (by decide) rfl (fun ls hl => ?_)
    refine lv_goto (tgt := 122) hx hb dX6_count_148 (by decide) ?_
    refine lv_iload_n hx hb dX6_count_122 rfl (lv_at hl 0 rfl) ?_
    refine lv_bipush (v := 16) hx hb dX6_count_123 (by decide) ?_
    refine lv_icmp_ge (tgt := 151) hx hb dX6_count_125 (by decide) (fun c_125 => absurd c_125 (by decide)) (fun c_125 => ?_)
    refine lv_iload_n hx hb dX6_count_128 rfl (lv_at hl 1 rfl) ?_
    refine lv_aload_n hx hb dX6_count_129 rfl (lv_at hl 2 rfl) ?_
    refine va_get (D := D) (ci := 6) (v := .ref b11) (C := RX6) (T := TX6) (N := 26) hx hb hts iX6 hown hK.1 hP 0 rfl rfl 11 (by decide) kw_4 (fun _ h9 => h9) rfl dX6_count_130 ?_
    refine lv_iload_n hx hb dX6_count_133 rfl (lv_at hl 0 rfl) ?_
    refine va_zald hx hb hK.1 hP 1 1 rfl rfl (by unfold vp_in; decide) dX6_count_134 ?_
    refine W.eq (g2 := F0 m 135 ls [.int 0, .int 0]) rfl ?_
    refine lv_if_eq (tgt := 142) hx hb dX6_count_135 (by decide) (fun c_135 => ?_) (fun c_135 => absurd (by decide) c_135)
    refine lv_iconst (v := 0) hx hb dX6_count_142 (by decide) ?_
    refine lv_iadd hx hb dX6_count_143 ?_
    refine W.eq (g2 := F0 m 144 ls [.int 0]) (by congr 2) ?_
    refine lv_istore_n (lv' := [(2, .int 0), (3, .int 15), (0, .ref y0), (1, .int w0)]) hx hb dX6_count_144 rfl hl (by decide) rfl (fun ls hl => ?_)
    refine lv_iinc (v := 16) (lv' := [(3, .int 16), (2, .int 0), (0, .ref y0), (1, .int w0)]) hx hb dX6_count_145 hl (k := 1) rfl (by decide) (by decide) rfl (fun ls hl => ?_)
    refine lv_goto (tgt := 122) hx hb dX6_count_148 (by decide) ?_
    refine lv_iload_n hx hb dX6_count_122 rfl (lv_at hl 0 rfl) ?_
    refine lv_bipush (v := 16) hx hb dX6_count_123 (by decide) ?_
    refine lv_icmp_ge (tgt := 151) hx hb dX6_count_125 (by decide) (fun c_125 => ?_) (fun c_125 => absurd (by decide) c_125)
    refine lv_iload_n hx hb dX6_count_151 rfl (lv_at hl 1 rfl) ?_
    exact en_i () hx hb hr hlocks hK (hP.sub [] rfl) (hD.sub [] (by decide) rfl) hS (Nat.le_of_ble_eq_true rfl) (Nat.le_of_ble_eq_true rfl) dX6_count_152 (Or.inl ⟨rfl, by first | (rw [sw_3_0]; decide) | (rw [sw_3_1]; decide) | (rw [sw_3_2]; decide) | (rw [sw_3_3]; decide) | (rw [sw_3_4]; decide) | (rw [sw_3_5]; decide) | (rw [sw_3_6]; decide) | (rw [sw_3_7]; decide) | (intro h; rcases h with h | h | h | h | h | h | h | h <;> exact absurd h (by assumption))⟩)
  by_cases sw_3_7 : w0 = 7
  · refine lv_tableIn (tgt := 153) hx hb dX6_count_3 (by rw [sw_3_7]; decide) (by rw [sw_3_7]; decide) (by rw [sw_3_7]; rfl) (by decide) ?_
    refine lv_iconst (v := 0) hx hb dX6_count_153 (by decide) ?_
    refine lv_istore_n (lv' := [(3, .int 0), (2, .int 0), (0, .ref y0), (1, .int w0)]) hx hb dX6_count_154 rfl hl (by decide) rfl (fun ls hl => ?_)
    refine lv_iload_n hx hb dX6_count_155 rfl (lv_at hl 0 rfl) ?_
    refine lv_aload_n hx hb dX6_count_156 rfl (lv_at hl 2 rfl) ?_
    refine va_get (D := D) (ci := 6) (v := .int 0) (C := RX6) (T := TX6) (N := 26) hx hb hts iX6 hown hK.1 hP 0 rfl rfl 1 (by decide) kw_2 (fun _ h9 => h9) rfl dX6_count_157 ?_
    refine lv_icmp_ge (tgt := 210) hx hb dX6_count_160 (by decide) (fun c_160 => ?_) (fun c_160 => absurd (by decide) c_160)
    refine lv_iload_n hx hb dX6_count_210 rfl (lv_at hl 1 rfl) ?_
    exact en_i () hx hb hr hlocks hK (hP.sub [] rfl) (hD.sub [] (by decide) rfl) hS (Nat.le_of_ble_eq_true rfl) (Nat.le_of_ble_eq_true rfl) dX6_count_211 (Or.inl ⟨rfl, by first | (rw [sw_3_0]; decide) | (rw [sw_3_1]; decide) | (rw [sw_3_2]; decide) | (rw [sw_3_3]; decide) | (rw [sw_3_4]; decide) | (rw [sw_3_5]; decide) | (rw [sw_3_6]; decide) | (rw [sw_3_7]; decide) | (intro h; rcases h with h | h | h | h | h | h | h | h <;> exact absurd h (by assumption))⟩)
  refine lv_tableOut (tgt := 212) hx hb dX6_count_3 (sw_out8 sw_3_0 sw_3_1 sw_3_2 sw_3_3 sw_3_4 sw_3_5 sw_3_6 sw_3_7) (by decide) ?_
  refine lv_iconst (v := (-1)) hx hb dX6_count_212 (by decide) ?_
  exact en_i () hx hb hr hlocks hK (hP.sub [] rfl) (hD.sub [] (by decide) rfl) hS (Nat.le_of_ble_eq_true rfl) (Nat.le_of_ble_eq_true rfl) dX6_count_213 (Or.inr ⟨rfl, by first | (rw [sw_3_0]; decide) | (rw [sw_3_1]; decide) | (rw [sw_3_2]; decide) | (rw [sw_3_3]; decide) | (rw [sw_3_4]; decide) | (rw [sw_3_5]; decide) | (rw [sw_3_6]; decide) | (rw [sw_3_7]; decide) | (intro h; rcases h with h | h | h | h | h | h | h | h <;> exact absurd h (by assumption))⟩)
