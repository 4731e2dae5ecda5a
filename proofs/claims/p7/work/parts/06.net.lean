theorem cj_1 {a b c u v : Prop} (h1 : a) (h2 : b) (h3 : c) (h4 : u) (h5 : v) : a ∧ b ∧ c ∧ (u ↔ v) := ⟨h1, h2, h3, ⟨fun _ => h5, fun _ => h4⟩⟩
theorem cj_2 {a b c u v : Prop} (h1 : a) (h2 : b) (h3 : c) (h4 : ¬ u) (h5 : ¬ v) : a ∧ b ∧ c ∧ (u ↔ v) := ⟨h1, h2, h3, ⟨fun q => absurd q h4, fun q => absurd q h5⟩⟩
theorem cj_3 {a b c u v : Prop} (h4 : u) (h5 : ¬ v) : ¬ (a ∧ b ∧ c ∧ (u ↔ v)) := fun h => h5 (h.2.2.2.mp h4)
theorem cj_4 {a b c u v : Prop} (h4 : ¬ u) (h5 : v) : ¬ (a ∧ b ∧ c ∧ (u ↔ v)) := fun h => h4 (h.2.2.2.mpr h5)
set_option maxHeartbeats 300000 in
set_option maxRecDepth 100000 in
theorem c_hasEvent (l : Launch) (D : va_G) (cI cZ cR : ClassId) (n0 : Nat) (a0 : Nat) (a1 : Nat) (a2 : Nat) (a3 : Nat) (a4 : Nat) (a5 : Nat) (a6 : Nat) (a7 : Nat) (a8 : Nat) (a9 : Nat) (E : Nat) (Ac : Nat) (e0 : Int32) (hE : E ≤ 60) : CI l D cI cZ cR yX1_hasEvent wsX1_hasEvent { frames := 0, cells := 0, slots := 0, locals := 0 } [.ref n0, .int e0] (wc (cO n0 1 [.ref a0, .ref a1, .ref a2, .ref a3, .ref a4, .ref a5, .ref a6, .ref a7, .ref a8, .ref a9, .int (nI E), .int (nI Ac)]) wN) (fun (r : Int32) (u : Unit) => (r = 1 ∧ vp_in e0 E) ∨ (r = 0 ∧ ¬ vp_in e0 E)) (fun (u : Unit) => (wc (cO n0 1 [.ref a0, .ref a1, .ref a2, .ref a3, .ref a4, .ref a5, .ref a6, .ref a7, .ref a8, .ref a9, .int (nI E), .int (nI Ac)]) wN)) := by
  intro sz9
  refine en_W (Qc := fun A => va_Qi (fun (r : Int32) (u : Unit) => (r = 1 ∧ vp_in e0 E) ∨ (r = 0 ∧ ¬ vp_in e0 E)) (sB D cI cZ cR (fun (u : Unit) => (wc (cO n0 1 [.ref a0, .ref a1, .ref a2, .ref a3, .ref a4, .ref a5, .ref a6, .ref a7, .ref a8, .ref a9, .int (nI E), .int (nI Ac)]) wN)) A) A) (cc := cX1_hasEvent) (maxL := 2) (ret := (some .boolean)) (by decide) rfl (Nat.le_of_ble_eq_true rfl) ?_
  intro p e s m below meth c A ls hx hb hr hts hown hlocks hin hml hK hP hD hS hA hl
  have hown : s.vm.findClass RX1 = some m.cls := hown
  have hl : lv_has ls 2 [(0, .ref n0), (1, .int e0)] := hl
  have kw_0 := hts (.fieldLink RX1 43 "DelayDesk$Net" "events" "I") (List.mem_of_getElem? (i := 1) rfl)
  have iX1 : ∀ w ∈ u_ws RX1 TX1 12, w ∈ wsX1_hasEvent := fun _ h9 => (List.mem_cons_of_mem _ (List.mem_append_right _ h9))
  refine lv_iload_n hx hb dX1_hasEvent_0 rfl (lv_at hl 1 rfl) ?_
  refine lv_if_lt (tgt := 16) hx hb dX1_hasEvent_1 (by decide) (fun c_1 => ?_) (fun c_1 => ?_)
  · refine lv_iconst (v := 0) hx hb dX1_hasEvent_16 (by decide) ?_
    exact en_z () hx hb hr hlocks hK (hP.sub [0] rfl) (hD.sub [0] (by decide) rfl) hS (Nat.le_of_ble_eq_true rfl) (Nat.le_of_ble_eq_true rfl) dX1_hasEvent_17 rfl (Or.inr ⟨rfl, by first | exact vp_mk (by omega) (by assumption) (by assumption) | exact vp_no1 (by assumption) | exact vp_no2 (by omega) (by assumption)⟩)
  · refine lv_iload_n hx hb dX1_hasEvent_4 rfl (lv_at hl 1 rfl) ?_
    refine lv_aload_n hx hb dX1_hasEvent_5 rfl (lv_at hl 0 rfl) ?_
    refine va_get (D := D) (ci := 1) (v := .int (nI E)) (C := RX1) (T := TX1) (N := 12) hx hb hts iX1 hown hK.1 hP 0 rfl rfl 10 (by decide) kw_0 (fun _ h9 => h9) rfl dX1_hasEvent_6 ?_
    refine lv_icmp_ge (tgt := 16) hx hb dX1_hasEvent_9 (by decide) (fun c_9 => ?_) (fun c_9 => ?_)
    · refine lv_iconst (v := 0) hx hb dX1_hasEvent_16 (by decide) ?_
      exact en_z () hx hb hr hlocks hK (hP.sub [0] rfl) (hD.sub [0] (by decide) rfl) hS (Nat.le_of_ble_eq_true rfl) (Nat.le_of_ble_eq_true rfl) dX1_hasEvent_17 rfl (Or.inr ⟨rfl, by first | exact vp_mk (by omega) (by assumption) (by assumption) | exact vp_no1 (by assumption) | exact vp_no2 (by omega) (by assumption)⟩)
    · refine lv_iconst (v := 1) hx hb dX1_hasEvent_12 (by decide) ?_
      refine lv_goto (tgt := 17) hx hb dX1_hasEvent_13 (by decide) ?_
      exact en_z () hx hb hr hlocks hK (hP.sub [0] rfl) (hD.sub [0] (by decide) rfl) hS (Nat.le_of_ble_eq_true rfl) (Nat.le_of_ble_eq_true rfl) dX1_hasEvent_17 rfl (Or.inl ⟨rfl, by first | exact vp_mk (by omega) (by assumption) (by assumption) | exact vp_no1 (by assumption) | exact vp_no2 (by omega) (by assumption)⟩)
set_option maxHeartbeats 300000 in
set_option maxRecDepth 100000 in
theorem c_hasActivity (l : Launch) (D : va_G) (cI cZ cR : ClassId) (n0 : Nat) (a0 : Nat) (a1 : Nat) (a2 : Nat) (a3 : Nat) (a4 : Nat) (a5 : Nat) (a6 : Nat) (a7 : Nat) (a8 : Nat) (a9 : Nat) (E : Nat) (Ac : Nat) (e0 : Int32) (hAc : Ac ≤ 100) : CI l D cI cZ cR yX1_hasActivity wsX1_hasActivity { frames := 0, cells := 0, slots := 0, locals := 0 } [.ref n0, .int e0] (wc (cO n0 1 [.ref a0, .ref a1, .ref a2, .ref a3, .ref a4, .ref a5, .ref a6, .ref a7, .ref a8, .ref a9, .int (nI E), .int (nI Ac)]) wN) (fun (r : Int32) (u : Unit) => (r = 1 ∧ vp_in e0 Ac) ∨ (r = 0 ∧ ¬ vp_in e0 Ac)) (fun (u : Unit) => (wc (cO n0 1 [.ref a0, .ref a1, .ref a2, .ref a3, .ref a4, .ref a5, .ref a6, .ref a7, .ref a8, .ref a9, .int (nI E), .int (nI Ac)]) wN)) := by
  intro sz9
  refine en_W (Qc := fun A => va_Qi (fun (r : Int32) (u : Unit) => (r = 1 ∧ vp_in e0 Ac) ∨ (r = 0 ∧ ¬ vp_in e0 Ac)) (sB D cI cZ cR (fun (u : Unit) => (wc (cO n0 1 [.ref a0, .ref a1, .ref a2, .ref a3, .ref a4, .ref a5, .ref a6, .ref a7, .ref a8, .ref a9, .int (nI E), .int (nI Ac)]) wN)) A) A) (cc := cX1_hasActivity) (maxL := 2) (ret := (some .boolean)) (by decide) rfl (Nat.le_of_ble_eq_true rfl) ?_
  intro p e s m below meth c A ls hx hb hr hts hown hlocks hin hml hK hP hD hS hA hl
  have hown : s.vm.findClass RX1 = some m.cls := hown
  have hl : lv_has ls 2 [(0, .ref n0), (1, .int e0)] := hl
  have kw_0 := hts (.fieldLink RX1 47 "DelayDesk$Net" "activities" "I") (List.mem_of_getElem? (i := 1) rfl)
  have iX1 : ∀ w ∈ u_ws RX1 TX1 12, w ∈ wsX1_hasActivity := fun _ h9 => (List.mem_cons_of_mem _ (List.mem_append_right _ h9))
  refine lv_iload_n hx hb dX1_hasActivity_0 rfl (lv_at hl 1 rfl) ?_
  refine lv_if_lt (tgt := 16) hx hb dX1_hasActivity_1 (by decide) (fun c_1 => ?_) (fun c_1 => ?_)
  · refine lv_iconst (v := 0) hx hb dX1_hasActivity_16 (by decide) ?_
    exact en_z () hx hb hr hlocks hK (hP.sub [0] rfl) (hD.sub [0] (by decide) rfl) hS (Nat.le_of_ble_eq_true rfl) (Nat.le_of_ble_eq_true rfl) dX1_hasActivity_17 rfl (Or.inr ⟨rfl, by first | exact vp_mk (by omega) (by assumption) (by assumption) | exact vp_no1 (by assumption) | exact vp_no2 (by omega) (by assumption)⟩)
  · refine lv_iload_n hx hb dX1_hasActivity_4 rfl (lv_at hl 1 rfl) ?_
    refine lv_aload_n hx hb dX1_hasActivity_5 rfl (lv_at hl 0 rfl) ?_
    refine va_get (D := D) (ci := 1) (v := .int (nI Ac)) (C := RX1) (T := TX1) (N := 12) hx hb hts iX1 hown hK.1 hP 0 rfl rfl 11 (by decide) kw_0 (fun _ h9 => h9) rfl dX1_hasActivity_6 ?_
    refine lv_icmp_ge (tgt := 16) hx hb dX1_hasActivity_9 (by decide) (fun c_9 => ?_) (fun c_9 => ?_)
    · refine lv_iconst (v := 0) hx hb dX1_hasActivity_16 (by decide) ?_
      exact en_z () hx hb hr hlocks hK (hP.sub [0] rfl) (hD.sub [0] (by decide) rfl) hS (Nat.le_of_ble_eq_true rfl) (Nat.le_of_ble_eq_true rfl) dX1_hasActivity_17 rfl (Or.inr ⟨rfl, by first | exact vp_mk (by omega) (by assumption) (by assumption) | exact vp_no1 (by assumption) | exact vp_no2 (by omega) (by assumption)⟩)
    · refine lv_iconst (v := 1) hx hb dX1_hasActivity_12 (by decide) ?_
      refine lv_goto (tgt := 17) hx hb dX1_hasActivity_13 (by decide) ?_
      exact en_z () hx hb hr hlocks hK (hP.sub [0] rfl) (hD.sub [0] (by decide) rfl) hS (Nat.le_of_ble_eq_true rfl) (Nat.le_of_ble_eq_true rfl) dX1_hasActivity_17 rfl (Or.inl ⟨rfl, by first | exact vp_mk (by omega) (by assumption) (by assumption) | exact vp_no1 (by assumption) | exact vp_no2 (by omega) (by assumption)⟩)
set_option maxHeartbeats 300000 in
set_option maxRecDepth 100000 in
theorem c_isOfKind (l : Launch) (D : va_G) (cI cZ cR : ClassId) (n0 : Nat) (a0 : Nat) (a1 : Nat) (a2 : Nat) (a3 : Nat) (a4 : Nat) (a5 : Nat) (a6 : Nat) (a7 : Nat) (a8 : Nat) (a9 : Nat) (E : Nat) (Ac : Nat) (ki : Nat → Int32) (e0 : Int32) (w0 : Int32) (hAc : Ac ≤ 100) : CI l D cI cZ cR yX1_isOfKind wsX1_isOfKind { frames := 1, cells := 0, slots := 0, locals := 21 } [.ref n0, .int e0, .int w0] (wc (cO n0 1 [.ref a0, .ref a1, .ref a2, .ref a3, .ref a4, .ref a5, .ref a6, .ref a7, .ref a8, .ref a9, .int (nI E), .int (nI Ac)]) (wc (cA a4 cI 100 ki) wN)) (fun (r : Int32) (u : Unit) => (r = 1 ∧ (vp_in e0 Ac ∧ ki e0.toNatClampNeg = w0)) ∨ (r = 0 ∧ ¬ (vp_in e0 Ac ∧ ki e0.toNatClampNeg = w0))) (fun (u : Unit) => (wc (cO n0 1 [.ref a0, .ref a1, .ref a2, .ref a3, .ref a4, .ref a5, .ref a6, .ref a7, .ref a8, .ref a9, .int (nI E), .int (nI Ac)]) (wc (cA a4 cI 100 ki) wN))) := by
  intro sz9
  refine en_W (Qc := fun A => va_Qi (fun (r : Int32) (u : Unit) => (r = 1 ∧ (vp_in e0 Ac ∧ ki e0.toNatClampNeg = w0)) ∨ (r = 0 ∧ ¬ (vp_in e0 Ac ∧ ki e0.toNatClampNeg = w0))) (sB D cI cZ cR (fun (u : Unit) => (wc (cO n0 1 [.ref a0, .ref a1, .ref a2, .ref a3, .ref a4, .ref a5, .ref a6, .ref a7, .ref a8, .ref a9, .int (nI E), .int (nI Ac)]) (wc (cA a4 cI 100 ki) wN))) A) A) (cc := cX1_isOfKind) (maxL := 3) (ret := (some .boolean)) (by decide) rfl (Nat.le_of_ble_eq_true rfl) ?_
  intro p e s m below meth c A ls hx hb hr hts hown hlocks hin hml hK hP hD hS hA hl
  have hown : s.vm.findClass RX1 = some m.cls := hown
  have hl : lv_has ls 3 [(0, .ref n0), (1, .int e0), (2, .int w0)] := hl
  have kw_0 := hts (.fieldLink RX1 25 "DelayDesk$Net" "kind" "[I") (List.mem_of_getElem? (i := 1) rfl)
  have iX1 : ∀ w ∈ u_ws RX1 TX1 12, w ∈ wsX1_isOfKind := fun _ h9 => (List.mem_cons_of_mem _ (List.mem_append_right _ h9))
  refine lv_aload_n hx hb dX1_isOfKind_0 rfl (lv_at hl 0 rfl) ?_
  refine lv_iload_n hx hb dX1_isOfKind_1 rfl (lv_at hl 1 rfl) ?_
  refine cl_i (wr := (wc (cA a4 cI 100 ki) wN)) (va_runV (As := [.int e0]) (rest := []) ⟨hx, hb, hml, hown, hts⟩ (c_hasActivity l D cI cZ cR n0 a0 a1 a2 a3 a4 a5 a6 a7 a8 a9 E Ac e0 (by omega) s.heap.size) (cwV 1 hts gX1_isOfKind_X1_hasActivity rfl rfl rfl hd_X1_hasActivity ⟨Nat.le_of_ble_eq_true rfl, Nat.le_of_ble_eq_true rfl⟩) (pV 1 0 hK hP hD [0] rfl (by decide) rfl rfl) rfl rfl hl.1 rfl (lv_room (Nat.le_of_ble_eq_true rfl)) dX1_isOfKind_2 ⟨Nat.le_of_ble_eq_true rfl, Nat.le_of_ble_eq_true rfl⟩) hP hD hS hA [0] [1] rfl rfl (by decide) (by decide) (fun r_2 u_2 H locs hw_2 hP hD hS => ?_)
  have hP : va_P D vwCl (wc (cA a4 cI 100 ki) (wc (cO n0 1 [.ref a0, .ref a1, .ref a2, .ref a3, .ref a4, .ref a5, .ref a6, .ref a7, .ref a8, .ref a9, .int (nI E), .int (nI Ac)]) wN)) H := hP
  have hD : va_D A (wc (cA a4 cI 100 ki) (wc (cO n0 1 [.ref a0, .ref a1, .ref a2, .ref a3, .ref a4, .ref a5, .ref a6, .ref a7, .ref a8, .ref a9, .int (nI E), .int (nI Ac)]) wN)) := hD
  rcases hw_2 with ⟨rfl, hf_2⟩ | ⟨rfl, hf_2⟩
  · refine lv_if_eq (tgt := 22) hx hb dX1_isOfKind_5 (by decide) (fun c_5 => absurd c_5 (by decide)) (fun c_5 => ?_)
    refine lv_aload_n hx hb dX1_isOfKind_8 rfl (lv_at hl 0 rfl) ?_
    refine va_get (D := D) (ci := 1) (v := .ref a4) (C := RX1) (T := TX1) (N := 12) hx hb hts iX1 hown hK.1 hP 1 rfl rfl 4 (by decide) kw_0 (fun _ h9 => h9) rfl dX1_isOfKind_9 ?_
    refine lv_iload_n hx hb dX1_isOfKind_12 rfl (lv_at hl 1 rfl) ?_
    refine va_iald hx hb hK.1 hP 0 0 rfl rfl (by first | with_reducible assumption | exact vp_le (by with_reducible assumption) (by omega)) dX1_isOfKind_13 ?_
    refine lv_iload_n hx hb dX1_isOfKind_14 rfl (lv_at hl 2 rfl) ?_
    refine lv_icmp_ne (tgt := 22) hx hb dX1_isOfKind_15 (by decide) (fun c_15 => ?_) (fun c_15 => ?_)
    · refine lv_iconst (v := 0) hx hb dX1_isOfKind_22 (by decide) ?_
      exact en_z () hx hb hr hlocks hK (hP.sub [1, 0] rfl) (hD.sub [1, 0] (by decide) rfl) hS (Nat.le_of_ble_eq_true rfl) (Nat.le_of_ble_eq_true rfl) dX1_isOfKind_23 rfl (Or.inr ⟨rfl, by first | exact ⟨by assumption, by assumption⟩ | exact fun h => absurd h.1 (by assumption) | exact fun h => absurd h.2 (by assumption)⟩)
    · refine lv_iconst (v := 1) hx hb dX1_isOfKind_18 (by decide) ?_
      refine lv_goto (tgt := 23) hx hb dX1_isOfKind_19 (by decide) ?_
      exact en_z () hx hb hr hlocks hK (hP.sub [1, 0] rfl) (hD.sub [1, 0] (by decide) rfl) hS (Nat.le_of_ble_eq_true rfl) (Nat.le_of_ble_eq_true rfl) dX1_isOfKind_23 rfl (Or.inl ⟨rfl, by first | exact ⟨by assumption, by assumption⟩ | exact fun h => absurd h.1 (by assumption) | exact fun h => absurd h.2 (by assumption)⟩)
  · refine lv_if_eq (tgt := 22) hx hb dX1_isOfKind_5 (by decide) (fun c_5 => ?_) (fun c_5 => absurd (by decide) c_5)
    refine lv_iconst (v := 0) hx hb dX1_isOfKind_22 (by decide) ?_
    exact en_z () hx hb hr hlocks hK (hP.sub [1, 0] rfl) (hD.sub [1, 0] (by decide) rfl) hS (Nat.le_of_ble_eq_true rfl) (Nat.le_of_ble_eq_true rfl) dX1_isOfKind_23 rfl (Or.inr ⟨rfl, by first | exact ⟨by assumption, by assumption⟩ | exact fun h => absurd h.1 (by assumption) | exact fun h => absurd h.2 (by assumption)⟩)
set_option maxHeartbeats 300000 in
set_option maxRecDepth 100000 in
theorem c_canJoin (l : Launch) (D : va_G) (cI cZ cR : ClassId) (n0 : Nat) (a0 : Nat) (a1 : Nat) (a2 : Nat) (a3 : Nat) (a4 : Nat) (a5 : Nat) (a6 : Nat) (a7 : Nat) (a8 : Nat) (a9 : Nat) (E : Nat) (Ac : Nat) (tr : Nat → Int32) (k1 : Int32) (f1 : Int32) (f2 : Int32) (hE : E ≤ 60) : CI l D cI cZ cR yX1_canJoin wsX1_canJoin { frames := 1, cells := 0, slots := 0, locals := 21 } [.ref n0, .int k1, .int f1, .int f2] (wc (cO n0 1 [.ref a0, .ref a1, .ref a2, .ref a3, .ref a4, .ref a5, .ref a6, .ref a7, .ref a8, .ref a9, .int (nI E), .int (nI Ac)]) (wc (cA a0 cI 60 tr) wN)) (fun (r : Int32) (u : Unit) => (r = 1 ∧ (vp_in f1 E ∧ vp_in f2 E ∧ ¬ f1 = f2 ∧ ((k1 = 0 ∨ k1 = 1) ↔ tr f1.toNatClampNeg = tr f2.toNatClampNeg))) ∨ (r = 0 ∧ ¬ (vp_in f1 E ∧ vp_in f2 E ∧ ¬ f1 = f2 ∧ ((k1 = 0 ∨ k1 = 1) ↔ tr f1.toNatClampNeg = tr f2.toNatClampNeg)))) (fun (u : Unit) => (wc (cO n0 1 [.ref a0, .ref a1, .ref a2, .ref a3, .ref a4, .ref a5, .ref a6, .ref a7, .ref a8, .ref a9, .int (nI E), .int (nI Ac)]) (wc (cA a0 cI 60 tr) wN))) := by
  intro sz9
  refine en_W (Qc := fun A => va_Qi (fun (r : Int32) (u : Unit) => (r = 1 ∧ (vp_in f1 E ∧ vp_in f2 E ∧ ¬ f1 = f2 ∧ ((k1 = 0 ∨ k1 = 1) ↔ tr f1.toNatClampNeg = tr f2.toNatClampNeg))) ∨ (r = 0 ∧ ¬ (vp_in f1 E ∧ vp_in f2 E ∧ ¬ f1 = f2 ∧ ((k1 = 0 ∨ k1 = 1) ↔ tr f1.toNatClampNeg = tr f2.toNatClampNeg)))) (sB D cI cZ cR (fun (u : Unit) => (wc (cO n0 1 [.ref a0, .ref a1, .ref a2, .ref a3, .ref a4, .ref a5, .ref a6, .ref a7, .ref a8, .ref a9, .int (nI E), .int (nI Ac)]) (wc (cA a0 cI 60 tr) wN))) A) A) (cc := cX1_canJoin) (maxL := 5) (ret := (some .boolean)) (by decide) rfl (Nat.le_of_ble_eq_true rfl) ?_
  intro p e s m below meth c A ls hx hb hr hts hown hlocks hin hml hK hP hD hS hA hl
  have hown : s.vm.findClass RX1 = some m.cls := hown
  have hl : lv_has ls 5 [(0, .ref n0), (1, .int k1), (2, .int f1), (3, .int f2)] := hl
  have kw_0 := hts (.fieldLink RX1 9 "DelayDesk$Net" "train" "[I") (List.mem_of_getElem? (i := 1) rfl)
  have iX1 : ∀ w ∈ u_ws RX1 TX1 12, w ∈ wsX1_canJoin := fun _ h9 => (List.mem_cons_of_mem _ (List.mem_append_right _ h9))
  refine lv_aload_n hx hb dX1_canJoin_0 rfl (lv_at hl 0 rfl) ?_
  refine lv_iload_n hx hb dX1_canJoin_1 rfl (lv_at hl 2 rfl) ?_
  refine cl_i (wr := (wc (cA a0 cI 60 tr) wN)) (va_runV (As := [.int f1]) (rest := []) ⟨hx, hb, hml, hown, hts⟩ (c_hasEvent l D cI cZ cR n0 a0 a1 a2 a3 a4 a5 a6 a7 a8 a9 E Ac f1 (by omega) s.heap.size) (cwV 1 hts gX1_canJoin_X1_hasEvent rfl rfl rfl hd_X1_hasEvent ⟨Nat.le_of_ble_eq_true rfl, Nat.le_of_ble_eq_true rfl⟩) (pV 1 0 hK hP hD [0] rfl (by decide) rfl rfl) rfl rfl hl.1 rfl (lv_room (Nat.le_of_ble_eq_true rfl)) dX1_canJoin_2 ⟨Nat.le_of_ble_eq_true rfl, Nat.le_of_ble_eq_true rfl⟩) hP hD hS hA [0] [1] rfl rfl (by decide) (by decide) (fun r_2 u_2 H locs hw_2 hP hD hS => ?_)
  have hP : va_P D vwCl (wc (cA a0 cI 60 tr) (wc (cO n0 1 [.ref a0, .ref a1, .ref a2, .ref a3, .ref a4, .ref a5, .ref a6, .ref a7, .ref a8, .ref a9, .int (nI E), .int (nI Ac)]) wN)) H := hP
  have hD : va_D A (wc (cA a0 cI 60 tr) (wc (cO n0 1 [.ref a0, .ref a1, .ref a2, .ref a3, .ref a4, .ref a5, .ref a6, .ref a7, .ref a8, .ref a9, .int (nI E), .int (nI Ac)]) wN)) := hD
  rcases hw_2 with ⟨rfl, hf_2⟩ | ⟨rfl, hf_2⟩
  · refine lv_if_eq (tgt := 21) hx hb dX1_canJoin_5 (by decide) (fun c_5 => absurd c_5 (by decide)) (fun c_5 => ?_)
    refine lv_aload_n hx hb dX1_canJoin_8 rfl (lv_at hl 0 rfl) ?_
    refine lv_iload_n hx hb dX1_canJoin_9 rfl (lv_at hl 3 rfl) ?_
    refine cl_i (wr := (wc (cA a0 cI 60 tr) wN)) (va_runV (As := [.int f2]) (rest := []) ⟨hx, hb, hml, hown, hts⟩ (c_hasEvent l D cI cZ cR n0 a0 a1 a2 a3 a4 a5 a6 a7 a8 a9 E Ac f2 (by omega) H.size) (cwV 1 hts gX1_canJoin_X1_hasEvent rfl rfl rfl hd_X1_hasEvent ⟨Nat.le_of_ble_eq_true rfl, Nat.le_of_ble_eq_true rfl⟩) (pV 1 1 hK hP hD [1] rfl (by decide) rfl rfl) rfl rfl hl.1 rfl (lv_room (Nat.le_of_ble_eq_true rfl)) dX1_canJoin_10 ⟨Nat.le_of_ble_eq_true rfl, Nat.le_of_ble_eq_true rfl⟩) hP hD hS hA [1] [0] rfl rfl (by decide) (by decide) (fun r_10 u_10 H locs hw_10 hP hD hS => ?_)
    have hP : va_P D vwCl (wc (cA a0 cI 60 tr) (wc (cO n0 1 [.ref a0, .ref a1, .ref a2, .ref a3, .ref a4, .ref a5, .ref a6, .ref a7, .ref a8, .ref a9, .int (nI E), .int (nI Ac)]) wN)) H := hP
    have hD : va_D A (wc (cA a0 cI 60 tr) (wc (cO n0 1 [.ref a0, .ref a1, .ref a2, .ref a3, .ref a4, .ref a5, .ref a6, .ref a7, .ref a8, .ref a9, .int (nI E), .int (nI Ac)]) wN)) := hD
    rcases hw_10 with ⟨rfl, hf_10⟩ | ⟨rfl, hf_10⟩
    · refine lv_if_eq (tgt := 21) hx hb dX1_canJoin_13 (by decide) (fun c_13 => absurd c_13 (by decide)) (fun c_13 => ?_)
      refine lv_iload_n hx hb dX1_canJoin_16 rfl (lv_at hl 2 rfl) ?_
      refine lv_iload_n hx hb dX1_canJoin_17 rfl (lv_at hl 3 rfl) ?_
      refine lv_icmp_ne (tgt := 23) hx hb dX1_canJoin_18 (by decide) (fun c_18 => ?_) (fun c_18 => ?_)
      · refine lv_iload_n hx hb dX1_canJoin_23 rfl (lv_at hl 1 rfl) ?_
        refine lv_if_eq (tgt := 32) hx hb dX1_canJoin_24 (by decide) (fun c_24 => ?_) (fun c_24 => ?_)
        · refine lv_iconst (v := 1) hx hb dX1_canJoin_32 (by decide) ?_
          refine lv_goto (tgt := 37) hx hb dX1_canJoin_33 (by decide) ?_
          refine lv_istore (lv' := [(4, .int 1), (0, .ref n0), (1, .int k1), (2, .int f1), (3, .int f2)]) hx hb dX1_canJoin_37 hl (by decide) rfl (fun ls hl => ?_)
          refine lv_iload hx hb dX1_canJoin_39 (lv_at hl 0 rfl) ?_
          refine lv_aload_n hx hb dX1_canJoin_41 rfl (lv_at hl 1 rfl) ?_
          refine va_get (D := D) (ci := 1) (v := .ref a0) (C := RX1) (T := TX1) (N := 12) hx hb hts iX1 hown hK.1 hP 1 rfl rfl 0 (by decide) kw_0 (fun _ h9 => h9) rfl dX1_canJoin_42 ?_
          refine lv_iload_n hx hb dX1_canJoin_45 rfl (lv_at hl 3 rfl) ?_
          refine va_iald hx hb hK.1 hP 0 0 rfl rfl (by first | with_reducible assumption | exact vp_le (by with_reducible assumption) (by omega)) dX1_canJoin_46 ?_
          refine lv_aload_n hx hb dX1_canJoin_47 rfl (lv_at hl 1 rfl) ?_
          refine va_get (D := D) (ci := 1) (v := .ref a0) (C := RX1) (T := TX1) (N := 12) hx hb hts iX1 hown hK.1 hP 1 rfl rfl 0 (by decide) kw_0 (fun _ h9 => h9) rfl dX1_canJoin_48 ?_
          refine lv_iload_n hx hb dX1_canJoin_51 rfl (lv_at hl 4 rfl) ?_
          refine va_iald hx hb hK.1 hP 0 0 rfl rfl (by first | with_reducible assumption | exact vp_le (by with_reducible assumption) (by omega)) dX1_canJoin_52 ?_
          refine lv_icmp_ne (tgt := 60) hx hb dX1_canJoin_53 (by decide) (fun c_53 => ?_) (fun c_53 => ?_)
          · refine lv_iconst (v := 0) hx hb dX1_canJoin_60 (by decide) ?_
            refine lv_icmp_ne (tgt := 68) hx hb dX1_canJoin_61 (by decide) (fun c_61 => ?_) (fun c_61 => absurd c_61 (by decide))
            refine lv_iconst (v := 0) hx hb dX1_canJoin_68 (by decide) ?_
            exact en_z () hx hb hr hlocks hK (hP.sub [1, 0] rfl) (hD.sub [1, 0] (by decide) rfl) hS (Nat.le_of_ble_eq_true rfl) (Nat.le_of_ble_eq_true rfl) dX1_canJoin_69 rfl (Or.inr ⟨rfl, by first | exact cj_1 (by assumption) (by assumption) (by assumption) (by first | exact Or.inl (by assumption) | exact Or.inr (by assumption)) (by assumption) | exact cj_2 (by assumption) (by assumption) (by assumption) (fun h => h.elim (by assumption) (by assumption)) (by assumption) | exact cj_3 (by first | exact Or.inl (by assumption) | exact Or.inr (by assumption)) (by assumption) | exact cj_4 (fun h => h.elim (by assumption) (by assumption)) (by assumption) | exact fun h => absurd h.1 (by assumption) | exact fun h => absurd h.2.1 (by assumption) | exact fun h => h.2.2.1 (by assumption)⟩)
          · refine lv_iconst (v := 1) hx hb dX1_canJoin_56 (by decide) ?_
            refine lv_goto (tgt := 61) hx hb dX1_canJoin_57 (by decide) ?_
            refine lv_icmp_ne (tgt := 68) hx hb dX1_canJoin_61 (by decide) (fun c_61 => absurd c_61 (by decide)) (fun c_61 => ?_)
            refine lv_iconst (v := 1) hx hb dX1_canJoin_64 (by decide) ?_
            refine lv_goto (tgt := 69) hx hb dX1_canJoin_65 (by decide) ?_
            exact en_z () hx hb hr hlocks hK (hP.sub [1, 0] rfl) (hD.sub [1, 0] (by decide) rfl) hS (Nat.le_of_ble_eq_true rfl) (Nat.le_of_ble_eq_true rfl) dX1_canJoin_69 rfl (Or.inl ⟨rfl, by first | exact cj_1 (by assumption) (by assumption) (by assumption) (by first | exact Or.inl (by assumption) | exact Or.inr (by assumption)) (by assumption) | exact cj_2 (by assumption) (by assumption) (by assumption) (fun h => h.elim (by assumption) (by assumption)) (by assumption) | exact cj_3 (by first | exact Or.inl (by assumption) | exact Or.inr (by assumption)) (by assumption) | exact cj_4 (fun h => h.elim (by assumption) (by assumption)) (by assumption) | exact fun h => absurd h.1 (by assumption) | exact fun h => absurd h.2.1 (by assumption) | exact fun h => h.2.2.1 (by assumption)⟩)
        · refine lv_iload_n hx hb dX1_canJoin_27 rfl (lv_at hl 1 rfl) ?_
          refine lv_iconst (v := 1) hx hb dX1_canJoin_28 (by decide) ?_
          refine lv_icmp_ne (tgt := 36) hx hb dX1_canJoin_29 (by decide) (fun c_29 => ?_) (fun c_29 => ?_)
          · refine lv_iconst (v := 0) hx hb dX1_canJoin_36 (by decide) ?_
            refine lv_istore (lv' := [(4, .int 0), (0, .ref n0), (1, .int k1), (2, .int f1), (3, .int f2)]) hx hb dX1_canJoin_37 hl (by decide) rfl (fun ls hl => ?_)
            refine lv_iload hx hb dX1_canJoin_39 (lv_at hl 0 rfl) ?_
            refine lv_aload_n hx hb dX1_canJoin_41 rfl (lv_at hl 1 rfl) ?_
            refine va_get (D := D) (ci := 1) (v := .ref a0) (C := RX1) (T := TX1) (N := 12) hx hb hts iX1 hown hK.1 hP 1 rfl rfl 0 (by decide) kw_0 (fun _ h9 => h9) rfl dX1_canJoin_42 ?_
            refine lv_iload_n hx hb dX1_canJoin_45 rfl (lv_at hl 3 rfl) ?_
            refine va_iald hx hb hK.1 hP 0 0 rfl rfl (by first | with_reducible assumption | exact vp_le (by with_reducible assumption) (by omega)) dX1_canJoin_46 ?_
            refine lv_aload_n hx hb dX1_canJoin_47 rfl (lv_at hl 1 rfl) ?_
            refine va_get (D := D) (ci := 1) (v := .ref a0) (C := RX1) (T := TX1) (N := 12) hx hb hts iX1 hown hK.1 hP 1 rfl rfl 0 (by decide) kw_0 (fun _ h9 => h9) rfl dX1_canJoin_48 ?_
            refine lv_iload_n hx hb dX1_canJoin_51 rfl (lv_at hl 4 rfl) ?_
            refine va_iald hx hb hK.1 hP 0 0 rfl rfl (by first | with_reducible assumption | exact vp_le (by with_reducible assumption) (by omega)) dX1_canJoin_52 ?_
            refine lv_icmp_ne (tgt := 60) hx hb dX1_canJoin_53 (by decide) (fun c_53 => ?_) (fun c_53 => ?_)
            · refine lv_iconst (v := 0) hx hb dX1_canJoin_60 (by decide) ?_
              refine lv_icmp_ne (tgt := 68) hx hb dX1_canJoin_61 (by decide) (fun c_61 => absurd c_61 (by decide)) (fun c_61 => ?_)
              refine lv_iconst (v := 1) hx hb dX1_canJoin_64 (by decide) ?_
              refine lv_goto (tgt := 69) hx hb dX1_canJoin_65 (by decide) ?_
              exact en_z () hx hb hr hlocks hK (hP.sub [1, 0] rfl) (hD.sub [1, 0] (by decide) rfl) hS (Nat.le_of_ble_eq_true rfl) (Nat.le_of_ble_eq_true rfl) dX1_canJoin_69 rfl (Or.inl ⟨rfl, by first | exact cj_1 (by assumption) (by assumption) (by assumption) (by first | exact Or.inl (by assumption) | exact Or.inr (by assumption)) (by assumption) | exact cj_2 (by assumption) (by assumption) (by assumption) (fun h => h.elim (by assumption) (by assumption)) (by assumption) | exact cj_3 (by first | exact Or.inl (by assumption) | exact Or.inr (by assumption)) (by assumption) | exact cj_4 (fun h => h.elim (by assumption) (by assumption)) (by assumption) | exact fun h => absurd h.1 (by assumption) | exact fun h => absurd h.2.1 (by assumption) | exact fun h => h.2.2.1 (by assumption)⟩)
            · refine lv_iconst (v := 1) hx hb dX1_canJoin_56 (by decide) ?_
              refine lv_goto (tgt := 61) hx hb dX1_canJoin_57 (by decide) ?_
              refine lv_icmp_ne (tgt := 68) hx hb dX1_canJoin_61 (by decide) (fun c_61 => ?_) (fun c_61 => absurd c_61 (by decide))
              refine lv_iconst (v := 0) hx hb dX1_canJoin_68 (by decide) ?_
              exact en_z () hx hb hr hlocks hK (hP.sub [1, 0] rfl) (hD.sub [1, 0] (by decide) rfl) hS (Nat.le_of_ble_eq_true rfl) (Nat.le_of_ble_eq_true rfl) dX1_canJoin_69 rfl (Or.inr ⟨rfl, by first | exact cj_1 (by assumption) (by assumption) (by assumption) (by first | exact Or.inl (by assumption) | exact Or.inr (by assumption)) (by assumption) | exact cj_2 (by assumption) (by assumption) (by assumption) (fun h => h.elim (by assumption) (by assumption)) (by assumption) | exact cj_3 (by first | exact Or.inl (by assumption) | exact Or.inr (by assumption)) (by assumption) | exact cj_4 (fun h => h.elim (by assumption) (by assumption)) (by assumption) | exact fun h => absurd h.1 (by assumption) | exact fun h => absurd h.2.1 (by assumption) | exact fun h => h.2.2.1 (by assumption)⟩)
          · refine lv_iconst (v := 1) hx hb dX1_canJoin_32 (by decide) ?_
            refine lv_goto (tgt := 37) hx hb dX1_canJoin_33 (by decide) ?_
            refine lv_istore (lv' := [(4, .int 1), (0, .ref n0), (1, .int k1), (2, .int f1), (3, .int f2)]) hx hb dX1_canJoin_37 hl (by decide) rfl (fun ls hl => ?_)
            refine lv_iload hx hb dX1_canJoin_39 (lv_at hl 0 rfl) ?_
            refine lv_aload_n hx hb dX1_canJoin_41 rfl (lv_at hl 1 rfl) ?_
            refine va_get (D := D) (ci := 1) (v := .ref a0) (C := RX1) (T := TX1) (N := 12) hx hb hts iX1 hown hK.1 hP 1 rfl rfl 0 (by decide) kw_0 (fun _ h9 => h9) rfl dX1_canJoin_42 ?_
            refine lv_iload_n hx hb dX1_canJoin_45 rfl (lv_at hl 3 rfl) ?_
            refine va_iald hx hb hK.1 hP 0 0 rfl rfl (by first | with_reducible assumption | exact vp_le (by with_reducible assumption) (by omega)) dX1_canJoin_46 ?_
            refine lv_aload_n hx hb dX1_canJoin_47 rfl (lv_at hl 1 rfl) ?_
            refine va_get (D := D) (ci := 1) (v := .ref a0) (C := RX1) (T := TX1) (N := 12) hx hb hts iX1 hown hK.1 hP 1 rfl rfl 0 (by decide) kw_0 (fun _ h9 => h9) rfl dX1_canJoin_48 ?_
            refine lv_iload_n hx hb dX1_canJoin_51 rfl (lv_at hl 4 rfl) ?_
            refine va_iald hx hb hK.1 hP 0 0 rfl rfl (by first | with_reducible assumption | exact vp_le (by with_reducible assumption) (by omega)) dX1_canJoin_52 ?_
            refine lv_icmp_ne (tgt := 60) hx hb dX1_canJoin_53 (by decide) (fun c_53 => ?_) (fun c_53 => ?_)
            · refine lv_iconst (v := 0) hx hb dX1_canJoin_60 (by decide) ?_
              refine lv_icmp_ne (tgt := 68) hx hb dX1_canJoin_61 (by decide) (fun c_61 => ?_) (fun c_61 => absurd c_61 (by decide))
              refine lv_iconst (v := 0) hx hb dX1_canJoin_68 (by decide) ?_
              exact en_z () hx hb hr hlocks hK (hP.sub [1, 0] rfl) (hD.sub [1, 0] (by decide) rfl) hS (Nat.le_of_ble_eq_true rfl) (Nat.le_of_ble_eq_true rfl) dX1_canJoin_69 rfl (Or.inr ⟨rfl, by first | exact cj_1 (by assumption) (by assumption) (by assumption) (by first | exact Or.inl (by assumption) | exact Or.inr (by assumption)) (by assumption) | exact cj_2 (by assumption) (by assumption) (by assumption) (fun h => h.elim (by assumption) (by assumption)) (by assumption) | exact cj_3 (by first | exact Or.inl (by assumption) | exact Or.inr (by assumption)) (by assumption) | exact cj_4 (fun h => h.elim (by assumption) (by assumption)) (by assumption) | exact fun h => absurd h.1 (by assumption) | exact fun h => absurd h.2.1 (by assumption) | exact fun h => h.2.2.1 (by assumption)⟩)
            · refine lv_iconst (v := 1) hx hb dX1_canJoin_56 (by decide) ?_
              refine lv_goto (tgt := 61) hx hb dX1_canJoin_57 (by decide) ?_
              refine lv_icmp_ne (tgt := 68) hx hb dX1_canJoin_61 (by decide) (fun c_61 => absurd c_61 (by decide)) (fun c_61 => ?_)
              refine lv_iconst (v := 1) hx hb dX1_canJoin_64 (by decide) ?_
              refine lv_goto (tgt := 69) hx hb dX1_canJoin_65 (by decide) ?_
              exact en_z () hx hb hr hlocks hK (hP.sub [1, 0] rfl) (hD.sub [1, 0] (by decide) rfl) hS (Nat.le_of_ble_eq_true rfl) (Nat.le_of_ble_eq_true rfl) dX1_canJoin_69 rfl (Or.inl ⟨rfl, by first | exact cj_1 (by assumption) (by assumption) (by assumption) (by first | exact Or.inl (by assumption) | exact Or.inr (by assumption)) (by assumption) | exact cj_2 (by assumption) (by assumption) (by assumption) (fun h => h.elim (by assumption) (by assumption)) (by assumption) | exact cj_3 (by first | exact Or.inl (by assumption) | exact Or.inr (by assumption)) (by assumption) | exact cj_4 (fun h => h.elim (by assumption) (by assumption)) (by assumption) | exact fun h => absurd h.1 (by assumption) | exact fun h => absurd h.2.1 (by assumption) | exact fun h => h.2.2.1 (by assumption)⟩)
      · refine lv_iconst (v := 0) hx hb dX1_canJoin_21 (by decide) ?_
        exact en_z () hx hb hr hlocks hK (hP.sub [1, 0] rfl) (hD.sub [1, 0] (by decide) rfl) hS (Nat.le_of_ble_eq_true rfl) (Nat.le_of_ble_eq_true rfl) dX1_canJoin_22 rfl (Or.inr ⟨rfl, by first | exact cj_1 (by assumption) (by assumption) (by assumption) (by first | exact Or.inl (by assumption) | exact Or.inr (by assumption)) (by assumption) | exact cj_2 (by assumption) (by assumption) (by assumption) (fun h => h.elim (by assumption) (by assumption)) (by assumption) | exact cj_3 (by first | exact Or.inl (by assumption) | exact Or.inr (by assumption)) (by assumption) | exact cj_4 (fun h => h.elim (by assumption) (by assumption)) (by assumption) | exact fun h => absurd h.1 (by assumption) | exact fun h => absurd h.2.1 (by assumption) | exact fun h => h.2.2.1 (by assumption)⟩)
    · refine lv_if_eq (tgt := 21) hx hb dX1_canJoin_13 (by decide) (fun c_13 => ?_) (fun c_13 => absurd (by decide) c_13)
      refine lv_iconst (v := 0) hx hb dX1_canJoin_21 (by decide) ?_
      exact en_z () hx hb hr hlocks hK (hP.sub [1, 0] rfl) (hD.sub [1, 0] (by decide) rfl) hS (Nat.le_of_ble_eq_true rfl) (Nat.le_of_ble_eq_true rfl) dX1_canJoin_22 rfl (Or.inr ⟨rfl, by first | exact cj_1 (by assumption) (by assumption) (by assumption) (by first | exact Or.inl (by assumption) | exact Or.inr (by assumption)) (by assumption) | exact cj_2 (by assumption) (by assumption) (by assumption) (fun h => h.elim (by assumption) (by assumption)) (by assumption) | exact cj_3 (by first | exact Or.inl (by assumption) | exact Or.inr (by assumption)) (by assumption) | exact cj_4 (fun h => h.elim (by assumption) (by assumption)) (by assumption) | exact fun h => absurd h.1 (by assumption) | exact fun h => absurd h.2.1 (by assumption) | exact fun h => h.2.2.1 (by assumption)⟩)
  · refine lv_if_eq (tgt := 21) hx hb dX1_canJoin_5 (by decide) (fun c_5 => ?_) (fun c_5 => absurd (by decide) c_5)
    refine lv_iconst (v := 0) hx hb dX1_canJoin_21 (by decide) ?_
    exact en_z () hx hb hr hlocks hK (hP.sub [1, 0] rfl) (hD.sub [1, 0] (by decide) rfl) hS (Nat.le_of_ble_eq_true rfl) (Nat.le_of_ble_eq_true rfl) dX1_canJoin_22 rfl (Or.inr ⟨rfl, by first | exact cj_1 (by assumption) (by assumption) (by assumption) (by first | exact Or.inl (by assumption) | exact Or.inr (by assumption)) (by assumption) | exact cj_2 (by assumption) (by assumption) (by assumption) (fun h => h.elim (by assumption) (by assumption)) (by assumption) | exact cj_3 (by first | exact Or.inl (by assumption) | exact Or.inr (by assumption)) (by assumption) | exact cj_4 (fun h => h.elim (by assumption) (by assumption)) (by assumption) | exact fun h => absurd h.1 (by assumption) | exact fun h => absurd h.2.1 (by assumption) | exact fun h => h.2.2.1 (by assumption)⟩)
theorem the_1 {th ca : Nat → Int32} {E k : Nat} (c : ca k = 0) : (∀ e, ¬ e = E → upd th E 1 e = th e) ∧ (¬ upd th E 1 E = 0 ↔ ca k = 0) := ⟨fun _ h => pk_un h, by rw [pk_us]; exact ⟨fun _ => c, fun _ => by decide⟩⟩
theorem the_0 {th ca : Nat → Int32} {E k : Nat} (c : ¬ ca k = 0) : (∀ e, ¬ e = E → upd th E 0 e = th e) ∧ (¬ upd th E 0 E = 0 ↔ ca k = 0) := ⟨fun _ h => pk_un h, by rw [pk_us]; exact ⟨fun h => absurd rfl h, fun h => absurd h c⟩⟩
theorem thc_i {tr th tu : Nat → Int32} {t1 b1 x : Int32} {k : Nat} (h : ∀ e, (e < k → (tr e = t1 → (¬ tu e = 0 ↔ b1 = 0)) ∧ (¬ tr e = t1 → tu e = th e)) ∧ (k ≤ e → tu e = th e)) (c : tr k = t1) (d : ¬ x = 0 ↔ b1 = 0) : ∀ e, (e < k + 1 → (tr e = t1 → (¬ upd tu k x e = 0 ↔ b1 = 0)) ∧ (¬ tr e = t1 → upd tu k x e = th e)) ∧ (k + 1 ≤ e → upd tu k x e = th e) := by
  intro e
  by_cases y : e = k
  · subst y; rw [pk_us]; exact ⟨fun _ => ⟨fun _ => d, fun q => absurd c q⟩, fun q => absurd q (by omega)⟩
  · rw [pk_un y]; exact ⟨fun q => (h e).1 (by omega), fun q => (h e).2 (by omega)⟩
theorem thc_o {tr th tu : Nat → Int32} {t1 b1 : Int32} {k : Nat} (h : ∀ e, (e < k → (tr e = t1 → (¬ tu e = 0 ↔ b1 = 0)) ∧ (¬ tr e = t1 → tu e = th e)) ∧ (k ≤ e → tu e = th e)) (c : ¬ tr k = t1) : ∀ e, (e < k + 1 → (tr e = t1 → (¬ tu e = 0 ↔ b1 = 0)) ∧ (¬ tr e = t1 → tu e = th e)) ∧ (k + 1 ≤ e → tu e = th e) := by
  intro e
  refine ⟨fun q => ?_, fun q => (h e).2 (by omega)⟩
  by_cases y : e = k
  · subst y; exact ⟨fun z => absurd z c, fun _ => (h e).2 (Nat.le_refl _)⟩
  · exact (h e).1 (by omega)
set_option maxHeartbeats 300000 in
set_option maxRecDepth 100000 in
theorem c_addEvent (l : Launch) (D : va_G) (cI cZ cR : ClassId) (n0 : Nat) (a0 : Nat) (a1 : Nat) (a2 : Nat) (a3 : Nat) (a4 : Nat) (a5 : Nat) (a6 : Nat) (a7 : Nat) (a8 : Nat) (a9 : Nat) (E : Nat) (Ac : Nat) (tr : Nat → Int32) (pl : Nat → Int32) (so : Nat → Int32) (th : Nat → Int32) (ca : Nat → Int32) (t1 : Int32) (p1 : Int32) (hE : E < 60) (ht : vp_in t1 16) : CI l D cI cZ cR yX1_addEvent wsX1_addEvent { frames := 0, cells := 0, slots := 0, locals := 0 } [.ref n0, .int t1, .int p1] (wc (cO n0 1 [.ref a0, .ref a1, .ref a2, .ref a3, .ref a4, .ref a5, .ref a6, .ref a7, .ref a8, .ref a9, .int (nI E), .int (nI Ac)]) (wc (cA a0 cI 60 tr) (wc (cA a1 cI 60 pl) (wc (cA a2 cI 60 so) (wc (cA a3 cZ 60 th) (wc (cA a9 cZ 16 ca) wN)))))) (fun (r : Int32) (u : Nat → Int32) => (r = (nI E) ∧ ((∀ e, ¬ e = E → u e = th e) ∧ (¬ u E = 0 ↔ ca t1.toNatClampNeg = 0)))) (fun (u : Nat → Int32) => (wc (cO n0 1 [.ref a0, .ref a1, .ref a2, .ref a3, .ref a4, .ref a5, .ref a6, .ref a7, .ref a8, .ref a9, .int (nI (E + 1)), .int (nI Ac)]) (wc (cA a0 cI 60 (upd tr E t1)) (wc (cA a1 cI 60 (upd pl E p1)) (wc (cA a2 cI 60 (upd so E 0)) (wc (cA a3 cZ 60 u) (wc (cA a9 cZ 16 ca) wN))))))) := by
  intro sz9
  refine en_W (Qc := fun A => va_Qi (fun (r : Int32) (u : Nat → Int32) => (r = (nI E) ∧ ((∀ e, ¬ e = E → u e = th e) ∧ (¬ u E = 0 ↔ ca t1.toNatClampNeg = 0)))) (sB D cI cZ cR (fun (u : Nat → Int32) => (wc (cO n0 1 [.ref a0, .ref a1, .ref a2, .ref a3, .ref a4, .ref a5, .ref a6, .ref a7, .ref a8, .ref a9, .int (nI (E + 1)), .int (nI Ac)]) (wc (cA a0 cI 60 (upd tr E t1)) (wc (cA a1 cI 60 (upd pl E p1)) (wc (cA a2 cI 60 (upd so E 0)) (wc (cA a3 cZ 60 u) (wc (cA a9 cZ 16 ca) wN))))))) A) A) (cc := cX1_addEvent) (maxL := 3) (ret := (some .int)) (by decide) rfl (Nat.le_of_ble_eq_true rfl) ?_
  intro p e s m below meth c A ls hx hb hr hts hown hlocks hin hml hK hP hD hS hA hl
  have hown : s.vm.findClass RX1 = some m.cls := hown
  have hl : lv_has ls 3 [(0, .ref n0), (1, .int t1), (2, .int p1)] := hl
  have kw_0 := hts (.fieldLink RX1 9 "DelayDesk$Net" "train" "[I") (List.mem_of_getElem? (i := 1) rfl)
  have iX1 : ∀ w ∈ u_ws RX1 TX1 12, w ∈ wsX1_addEvent := fun _ h9 => (List.mem_cons_of_mem _ (List.mem_append_right _ h9))
  have kw_2 := hts (.fieldLink RX1 43 "DelayDesk$Net" "events" "I") (List.mem_of_getElem? (i := 2) rfl)
  have kw_3 := hts (.fieldLink RX1 15 "DelayDesk$Net" "plan" "[I") (List.mem_of_getElem? (i := 3) rfl)
  have kw_4 := hts (.fieldLink RX1 18 "DelayDesk$Net" "source" "[I") (List.mem_of_getElem? (i := 4) rfl)
  have kw_5 := hts (.fieldLink RX1 21 "DelayDesk$Net" "there" "[Z") (List.mem_of_getElem? (i := 5) rfl)
  have kw_6 := hts (.fieldLink RX1 40 "DelayDesk$Net" "cancelled" "[Z") (List.mem_of_getElem? (i := 6) rfl)
  refine lv_aload_n hx hb dX1_addEvent_0 rfl (lv_at hl 0 rfl) ?_
  refine va_get (D := D) (ci := 1) (v := .ref a0) (C := RX1) (T := TX1) (N := 12) hx hb hts iX1 hown hK.1 hP 0 rfl rfl 0 (by decide) kw_0 (fun _ h9 => h9) rfl dX1_addEvent_1 ?_
  refine lv_aload_n hx hb dX1_addEvent_4 rfl (lv_at hl 0 rfl) ?_
  refine va_get (D := D) (ci := 1) (v := .int (nI E)) (C := RX1) (T := TX1) (N := 12) hx hb hts iX1 hown hK.1 hP 0 rfl rfl 10 (by decide) kw_2 (fun _ h9 => h9) rfl dX1_addEvent_5 ?_
  refine lv_iload_n hx hb dX1_addEvent_8 rfl (lv_at hl 1 rfl) ?_
  refine wa_I hx hb hK hP hD hS 1 rfl (k := E) (by omega) (by decide) dX1_addEvent_9 (fun H locs hP hD hS => ?_)
  have hP : va_P D vwCl (wc (cO n0 1 [.ref a0, .ref a1, .ref a2, .ref a3, .ref a4, .ref a5, .ref a6, .ref a7, .ref a8, .ref a9, .int (nI E), .int (nI Ac)]) (wc (cA a0 cI 60 (upd tr E t1)) (wc (cA a1 cI 60 pl) (wc (cA a2 cI 60 so) (wc (cA a3 cZ 60 th) (wc (cA a9 cZ 16 ca) wN)))))) H := hP
  have hD : va_D A (wc (cO n0 1 [.ref a0, .ref a1, .ref a2, .ref a3, .ref a4, .ref a5, .ref a6, .ref a7, .ref a8, .ref a9, .int (nI E), .int (nI Ac)]) (wc (cA a0 cI 60 (upd tr E t1)) (wc (cA a1 cI 60 pl) (wc (cA a2 cI 60 so) (wc (cA a3 cZ 60 th) (wc (cA a9 cZ 16 ca) wN)))))) := hD
  refine lv_aload_n hx hb dX1_addEvent_10 rfl (lv_at hl 0 rfl) ?_
  refine va_get (D := D) (ci := 1) (v := .ref a1) (C := RX1) (T := TX1) (N := 12) hx hb hts iX1 hown hK.1 hP 0 rfl rfl 1 (by decide) kw_3 (fun _ h9 => h9) rfl dX1_addEvent_11 ?_
  refine lv_aload_n hx hb dX1_addEvent_14 rfl (lv_at hl 0 rfl) ?_
  refine va_get (D := D) (ci := 1) (v := .int (nI E)) (C := RX1) (T := TX1) (N := 12) hx hb hts iX1 hown hK.1 hP 0 rfl rfl 10 (by decide) kw_2 (fun _ h9 => h9) rfl dX1_addEvent_15 ?_
  refine lv_iload_n hx hb dX1_addEvent_18 rfl (lv_at hl 2 rfl) ?_
  refine wa_I hx hb hK hP hD hS 2 rfl (k := E) (by omega) (by decide) dX1_addEvent_19 (fun H locs hP hD hS => ?_)
  have hP : va_P D vwCl (wc (cO n0 1 [.ref a0, .ref a1, .ref a2, .ref a3, .ref a4, .ref a5, .ref a6, .ref a7, .ref a8, .ref a9, .int (nI E), .int (nI Ac)]) (wc (cA a0 cI 60 (upd tr E t1)) (wc (cA a1 cI 60 (upd pl E p1)) (wc (cA a2 cI 60 so) (wc (cA a3 cZ 60 th) (wc (cA a9 cZ 16 ca) wN)))))) H := hP
  have hD : va_D A (wc (cO n0 1 [.ref a0, .ref a1, .ref a2, .ref a3, .ref a4, .ref a5, .ref a6, .ref a7, .ref a8, .ref a9, .int (nI E), .int (nI Ac)]) (wc (cA a0 cI 60 (upd tr E t1)) (wc (cA a1 cI 60 (upd pl E p1)) (wc (cA a2 cI 60 so) (wc (cA a3 cZ 60 th) (wc (cA a9 cZ 16 ca) wN)))))) := hD
  refine lv_aload_n hx hb dX1_addEvent_20 rfl (lv_at hl 0 rfl) ?_
  refine va_get (D := D) (ci := 1) (v := .ref a2) (C := RX1) (T := TX1) (N := 12) hx hb hts iX1 hown hK.1 hP 0 rfl rfl 2 (by decide) kw_4 (fun _ h9 => h9) rfl dX1_addEvent_21 ?_
  refine lv_aload_n hx hb dX1_addEvent_24 rfl (lv_at hl 0 rfl) ?_
  refine va_get (D := D) (ci := 1) (v := .int (nI E)) (C := RX1) (T := TX1) (N := 12) hx hb hts iX1 hown hK.1 hP 0 rfl rfl 10 (by decide) kw_2 (fun _ h9 => h9) rfl dX1_addEvent_25 ?_
  refine lv_iconst (v := 0) hx hb dX1_addEvent_28 (by decide) ?_
  refine wa_I hx hb hK hP hD hS 3 rfl (k := E) (by omega) (by decide) dX1_addEvent_29 (fun H locs hP hD hS => ?_)
  have hP : va_P D vwCl (wc (cO n0 1 [.ref a0, .ref a1, .ref a2, .ref a3, .ref a4, .ref a5, .ref a6, .ref a7, .ref a8, .ref a9, .int (nI E), .int (nI Ac)]) (wc (cA a0 cI 60 (upd tr E t1)) (wc (cA a1 cI 60 (upd pl E p1)) (wc (cA a2 cI 60 (upd so E 0)) (wc (cA a3 cZ 60 th) (wc (cA a9 cZ 16 ca) wN)))))) H := hP
  have hD : va_D A (wc (cO n0 1 [.ref a0, .ref a1, .ref a2, .ref a3, .ref a4, .ref a5, .ref a6, .ref a7, .ref a8, .ref a9, .int (nI E), .int (nI Ac)]) (wc (cA a0 cI 60 (upd tr E t1)) (wc (cA a1 cI 60 (upd pl E p1)) (wc (cA a2 cI 60 (upd so E 0)) (wc (cA a3 cZ 60 th) (wc (cA a9 cZ 16 ca) wN)))))) := hD
  refine lv_aload_n hx hb dX1_addEvent_30 rfl (lv_at hl 0 rfl) ?_
  refine va_get (D := D) (ci := 1) (v := .ref a3) (C := RX1) (T := TX1) (N := 12) hx hb hts iX1 hown hK.1 hP 0 rfl rfl 3 (by decide) kw_5 (fun _ h9 => h9) rfl dX1_addEvent_31 ?_
  refine lv_aload_n hx hb dX1_addEvent_34 rfl (lv_at hl 0 rfl) ?_
  refine va_get (D := D) (ci := 1) (v := .int (nI E)) (C := RX1) (T := TX1) (N := 12) hx hb hts iX1 hown hK.1 hP 0 rfl rfl 10 (by decide) kw_2 (fun _ h9 => h9) rfl dX1_addEvent_35 ?_
  refine lv_aload_n hx hb dX1_addEvent_38 rfl (lv_at hl 0 rfl) ?_
  refine va_get (D := D) (ci := 1) (v := .ref a9) (C := RX1) (T := TX1) (N := 12) hx hb hts iX1 hown hK.1 hP 0 rfl rfl 9 (by decide) kw_6 (fun _ h9 => h9) rfl dX1_addEvent_39 ?_
  refine lv_iload_n hx hb dX1_addEvent_42 rfl (lv_at hl 1 rfl) ?_
  refine va_zald hx hb hK.1 hP 5 1 rfl rfl (by first | with_reducible assumption | exact vp_le (by with_reducible assumption) (by omega)) dX1_addEvent_43 ?_
  refine lv_if_ne (tgt := 51) hx hb dX1_addEvent_44 (by decide) (fun c_44 => ?_) (fun c_44 => ?_)
  · refine lv_iconst (v := 0) hx hb dX1_addEvent_51 (by decide) ?_
    refine wa_Z hx hb hK hP hD hS 4 rfl (k := E) (by omega) (by decide) dX1_addEvent_52 (fun H locs hP hD hS => ?_)
    have hP : va_P D vwCl (wc (cO n0 1 [.ref a0, .ref a1, .ref a2, .ref a3, .ref a4, .ref a5, .ref a6, .ref a7, .ref a8, .ref a9, .int (nI E), .int (nI Ac)]) (wc (cA a0 cI 60 (upd tr E t1)) (wc (cA a1 cI 60 (upd pl E p1)) (wc (cA a2 cI 60 (upd so E 0)) (wc (cA a3 cZ 60 (upd th E 0)) (wc (cA a9 cZ 16 ca) wN)))))) H := hP
    have hD : va_D A (wc (cO n0 1 [.ref a0, .ref a1, .ref a2, .ref a3, .ref a4, .ref a5, .ref a6, .ref a7, .ref a8, .ref a9, .int (nI E), .int (nI Ac)]) (wc (cA a0 cI 60 (upd tr E t1)) (wc (cA a1 cI 60 (upd pl E p1)) (wc (cA a2 cI 60 (upd so E 0)) (wc (cA a3 cZ 60 (upd th E 0)) (wc (cA a9 cZ 16 ca) wN)))))) := hD
    refine lv_aload_n hx hb dX1_addEvent_53 rfl (lv_at hl 0 rfl) ?_
    refine lv_dup hx hb dX1_addEvent_54 rfl ?_
    refine va_get (D := D) (ci := 1) (v := .int (nI E)) (C := RX1) (T := TX1) (N := 12) hx hb hts iX1 hown hK.1 hP 0 rfl rfl 10 (by decide) kw_2 (fun _ h9 => h9) rfl dX1_addEvent_55 ?_
    refine lv_iconst (v := 1) hx hb dX1_addEvent_58 (by decide) ?_
    refine lv_iadd hx hb dX1_addEvent_59 ?_
    refine W.eq (g2 := F0 m 60 ls [.int (nI (E + 1)), .ref n0]) (by first | rw [nI_1] | rw [nI_add] | exact congrArg (fun z => F0 m 60 ls (Value.int z :: _)) (nI_add _ _)) ?_
    refine va_put (D := D) (ci := 1) (v := .int (nI (E + 1))) (ty := .int) (C := RX1) (T := TX1) (N := 12) hx hb hts iX1 tyX1 tyX1_ok nmX1 hown hK.1 hP hD hS 0 rfl rfl 10 (by decide) kw_2 (fun _ h9 => h9) rfl (by decide +kernel) rfl rfl (Nat.le_of_ble_eq_true rfl) dX1_addEvent_60 (fun H locs hP hD hS => ?_)
    have hP : va_P D vwCl (wc (cO n0 1 [.ref a0, .ref a1, .ref a2, .ref a3, .ref a4, .ref a5, .ref a6, .ref a7, .ref a8, .ref a9, .int (nI (E + 1)), .int (nI Ac)]) (wc (cA a0 cI 60 (upd tr E t1)) (wc (cA a1 cI 60 (upd pl E p1)) (wc (cA a2 cI 60 (upd so E 0)) (wc (cA a3 cZ 60 (upd th E 0)) (wc (cA a9 cZ 16 ca) wN)))))) H := hP
    have hD : va_D A (wc (cO n0 1 [.ref a0, .ref a1, .ref a2, .ref a3, .ref a4, .ref a5, .ref a6, .ref a7, .ref a8, .ref a9, .int (nI (E + 1)), .int (nI Ac)]) (wc (cA a0 cI 60 (upd tr E t1)) (wc (cA a1 cI 60 (upd pl E p1)) (wc (cA a2 cI 60 (upd so E 0)) (wc (cA a3 cZ 60 (upd th E 0)) (wc (cA a9 cZ 16 ca) wN)))))) := hD
    refine lv_aload_n hx hb dX1_addEvent_63 rfl (lv_at hl 0 rfl) ?_
    refine va_get (D := D) (ci := 1) (v := .int (nI (E + 1))) (C := RX1) (T := TX1) (N := 12) hx hb hts iX1 hown hK.1 hP 0 rfl rfl 10 (by decide) kw_2 (fun _ h9 => h9) rfl dX1_addEvent_64 ?_
    refine lv_iconst (v := 1) hx hb dX1_addEvent_67 (by decide) ?_
    refine lv_isub hx hb dX1_addEvent_68 ?_
    refine W.eq (g2 := F0 m 69 ls [.int (nI E)]) (by rw [nI_pred]) ?_
    exact en_i (upd th E 0) hx hb hr hlocks hK (hP.sub [0, 1, 2, 3, 4, 5] rfl) (hD.sub [0, 1, 2, 3, 4, 5] (by decide) rfl) hS (Nat.le_of_ble_eq_true rfl) (Nat.le_of_ble_eq_true rfl) dX1_addEvent_69 (⟨rfl, by first | exact the_1 (by assumption) | exact the_0 (by assumption)⟩)
  · refine lv_iconst (v := 1) hx hb dX1_addEvent_47 (by decide) ?_
    refine lv_goto (tgt := 52) hx hb dX1_addEvent_48 (by decide) ?_
    refine wa_Z hx hb hK hP hD hS 4 rfl (k := E) (by omega) (by decide) dX1_addEvent_52 (fun H locs hP hD hS => ?_)
    have hP : va_P D vwCl (wc (cO n0 1 [.ref a0, .ref a1, .ref a2, .ref a3, .ref a4, .ref a5, .ref a6, .ref a7, .ref a8, .ref a9, .int (nI E), .int (nI Ac)]) (wc (cA a0 cI 60 (upd tr E t1)) (wc (cA a1 cI 60 (upd pl E p1)) (wc (cA a2 cI 60 (upd so E 0)) (wc (cA a3 cZ 60 (upd th E 1)) (wc (cA a9 cZ 16 ca) wN)))))) H := hP
    have hD : va_D A (wc (cO n0 1 [.ref a0, .ref a1, .ref a2, .ref a3, .ref a4, .ref a5, .ref a6, .ref a7, .ref a8, .ref a9, .int (nI E), .int (nI Ac)]) (wc (cA a0 cI 60 (upd tr E t1)) (wc (cA a1 cI 60 (upd pl E p1)) (wc (cA a2 cI 60 (upd so E 0)) (wc (cA a3 cZ 60 (upd th E 1)) (wc (cA a9 cZ 16 ca) wN)))))) := hD
    refine lv_aload_n hx hb dX1_addEvent_53 rfl (lv_at hl 0 rfl) ?_
    refine lv_dup hx hb dX1_addEvent_54 rfl ?_
    refine va_get (D := D) (ci := 1) (v := .int (nI E)) (C := RX1) (T := TX1) (N := 12) hx hb hts iX1 hown hK.1 hP 0 rfl rfl 10 (by decide) kw_2 (fun _ h9 => h9) rfl dX1_addEvent_55 ?_
    refine lv_iconst (v := 1) hx hb dX1_addEvent_58 (by decide) ?_
    refine lv_iadd hx hb dX1_addEvent_59 ?_
    refine W.eq (g2 := F0 m 60 ls [.int (nI (E + 1)), .ref n0]) (by first | rw [nI_1] | rw [nI_add] | exact congrArg (fun z => F0 m 60 ls (Value.int z :: _)) (nI_add _ _)) ?_
    refine va_put (D := D) (ci := 1) (v := .int (nI (E + 1))) (ty := .int) (C := RX1) (T := TX1) (N := 12) hx hb hts iX1 tyX1 tyX1_ok nmX1 hown hK.1 hP hD hS 0 rfl rfl 10 (by decide) kw_2 (fun _ h9 => h9) rfl (by decide +kernel) rfl rfl (Nat.le_of_ble_eq_true rfl) dX1_addEvent_60 (fun H locs hP hD hS => ?_)
    have hP : va_P D vwCl (wc (cO n0 1 [.ref a0, .ref a1, .ref a2, .ref a3, .ref a4, .ref a5, .ref a6, .ref a7, .ref a8, .ref a9, .int (nI (E + 1)), .int (nI Ac)]) (wc (cA a0 cI 60 (upd tr E t1)) (wc (cA a1 cI 60 (upd pl E p1)) (wc (cA a2 cI 60 (upd so E 0)) (wc (cA a3 cZ 60 (upd th E 1)) (wc (cA a9 cZ 16 ca) wN)))))) H := hP
    have hD : va_D A (wc (cO n0 1 [.ref a0, .ref a1, .ref a2, .ref a3, .ref a4, .ref a5, .ref a6, .ref a7, .ref a8, .ref a9, .int (nI (E + 1)), .int (nI Ac)]) (wc (cA a0 cI 60 (upd tr E t1)) (wc (cA a1 cI 60 (upd pl E p1)) (wc (cA a2 cI 60 (upd so E 0)) (wc (cA a3 cZ 60 (upd th E 1)) (wc (cA a9 cZ 16 ca) wN)))))) := hD
    refine lv_aload_n hx hb dX1_addEvent_63 rfl (lv_at hl 0 rfl) ?_
    refine va_get (D := D) (ci := 1) (v := .int (nI (E + 1))) (C := RX1) (T := TX1) (N := 12) hx hb hts iX1 hown hK.1 hP 0 rfl rfl 10 (by decide) kw_2 (fun _ h9 => h9) rfl dX1_addEvent_64 ?_
    refine lv_iconst (v := 1) hx hb dX1_addEvent_67 (by decide) ?_
    refine lv_isub hx hb dX1_addEvent_68 ?_
    refine W.eq (g2 := F0 m 69 ls [.int (nI E)]) (by rw [nI_pred]) ?_
    exact en_i (upd th E 1) hx hb hr hlocks hK (hP.sub [0, 1, 2, 3, 4, 5] rfl) (hD.sub [0, 1, 2, 3, 4, 5] (by decide) rfl) hS (Nat.le_of_ble_eq_true rfl) (Nat.le_of_ble_eq_true rfl) dX1_addEvent_69 (⟨rfl, by first | exact the_1 (by assumption) | exact the_0 (by assumption)⟩)
set_option maxHeartbeats 300000 in
set_option maxRecDepth 100000 in
theorem c_addActivity (l : Launch) (D : va_G) (cI cZ cR : ClassId) (n0 : Nat) (a0 : Nat) (a1 : Nat) (a2 : Nat) (a3 : Nat) (a4 : Nat) (a5 : Nat) (a6 : Nat) (a7 : Nat) (a8 : Nat) (a9 : Nat) (E : Nat) (Ac : Nat) (ki : Nat → Int32) (fr : Nat → Int32) (to : Nat → Int32) (le : Nat → Int32) (ke : Nat → Int32) (k1 : Int32) (f1 : Int32) (f2 : Int32) (f3 : Int32) (hAc : Ac < 100) : CI l D cI cZ cR yX1_addActivity wsX1_addActivity { frames := 0, cells := 0, slots := 0, locals := 0 } [.ref n0, .int k1, .int f1, .int f2, .int f3] (wc (cO n0 1 [.ref a0, .ref a1, .ref a2, .ref a3, .ref a4, .ref a5, .ref a6, .ref a7, .ref a8, .ref a9, .int (nI E), .int (nI Ac)]) (wc (cA a4 cI 100 ki) (wc (cA a5 cI 100 fr) (wc (cA a6 cI 100 to) (wc (cA a7 cI 100 le) (wc (cA a8 cZ 100 ke) wN)))))) (fun (r : Int32) (u : Unit) => r = (nI Ac)) (fun (u : Unit) => (wc (cO n0 1 [.ref a0, .ref a1, .ref a2, .ref a3, .ref a4, .ref a5, .ref a6, .ref a7, .ref a8, .ref a9, .int (nI E), .int (nI (Ac + 1))]) (wc (cA a4 cI 100 (upd ki Ac k1)) (wc (cA a5 cI 100 (upd fr Ac f1)) (wc (cA a6 cI 100 (upd to Ac f2)) (wc (cA a7 cI 100 (upd le Ac f3)) (wc (cA a8 cZ 100 (upd ke Ac 1)) wN))))))) := by
  intro sz9
  refine en_W (Qc := fun A => va_Qi (fun (r : Int32) (u : Unit) => r = (nI Ac)) (sB D cI cZ cR (fun (u : Unit) => (wc (cO n0 1 [.ref a0, .ref a1, .ref a2, .ref a3, .ref a4, .ref a5, .ref a6, .ref a7, .ref a8, .ref a9, .int (nI E), .int (nI (Ac + 1))]) (wc (cA a4 cI 100 (upd ki Ac k1)) (wc (cA a5 cI 100 (upd fr Ac f1)) (wc (cA a6 cI 100 (upd to Ac f2)) (wc (cA a7 cI 100 (upd le Ac f3)) (wc (cA a8 cZ 100 (upd ke Ac 1)) wN))))))) A) A) (cc := cX1_addActivity) (maxL := 5) (ret := (some .int)) (by decide) rfl (Nat.le_of_ble_eq_true rfl) ?_
  intro p e s m below meth c A ls hx hb hr hts hown hlocks hin hml hK hP hD hS hA hl
  have hown : s.vm.findClass RX1 = some m.cls := hown
  have hl : lv_has ls 5 [(0, .ref n0), (1, .int k1), (2, .int f1), (3, .int f2), (4, .int f3)] := hl
  have kw_0 := hts (.fieldLink RX1 25 "DelayDesk$Net" "kind" "[I") (List.mem_of_getElem? (i := 1) rfl)
  have iX1 : ∀ w ∈ u_ws RX1 TX1 12, w ∈ wsX1_addActivity := fun _ h9 => (List.mem_cons_of_mem _ (List.mem_append_right _ h9))
  have kw_2 := hts (.fieldLink RX1 47 "DelayDesk$Net" "activities" "I") (List.mem_of_getElem? (i := 2) rfl)
  have kw_3 := hts (.fieldLink RX1 28 "DelayDesk$Net" "from" "[I") (List.mem_of_getElem? (i := 3) rfl)
  have kw_4 := hts (.fieldLink RX1 31 "DelayDesk$Net" "to" "[I") (List.mem_of_getElem? (i := 4) rfl)
  have kw_5 := hts (.fieldLink RX1 34 "DelayDesk$Net" "least" "[I") (List.mem_of_getElem? (i := 5) rfl)
  have kw_6 := hts (.fieldLink RX1 37 "DelayDesk$Net" "kept" "[Z") (List.mem_of_getElem? (i := 6) rfl)
  refine lv_aload_n hx hb dX1_addActivity_0 rfl (lv_at hl 0 rfl) ?_
  refine va_get (D := D) (ci := 1) (v := .ref a4) (C := RX1) (T := TX1) (N := 12) hx hb hts iX1 hown hK.1 hP 0 rfl rfl 4 (by decide) kw_0 (fun _ h9 => h9) rfl dX1_addActivity_1 ?_
  refine lv_aload_n hx hb dX1_addActivity_4 rfl (lv_at hl 0 rfl) ?_
  refine va_get (D := D) (ci := 1) (v := .int (nI Ac)) (C := RX1) (T := TX1) (N := 12) hx hb hts iX1 hown hK.1 hP 0 rfl rfl 11 (by decide) kw_2 (fun _ h9 => h9) rfl dX1_addActivity_5 ?_
  refine lv_iload_n hx hb dX1_addActivity_8 rfl (lv_at hl 1 rfl) ?_
  refine wa_I hx hb hK hP hD hS 1 rfl (k := Ac) (by omega) (by decide) dX1_addActivity_9 (fun H locs hP hD hS => ?_)
  have hP : va_P D vwCl (wc (cO n0 1 [.ref a0, .ref a1, .ref a2, .ref a3, .ref a4, .ref a5, .ref a6, .ref a7, .ref a8, .ref a9, .int (nI E), .int (nI Ac)]) (wc (cA a4 cI 100 (upd ki Ac k1)) (wc (cA a5 cI 100 fr) (wc (cA a6 cI 100 to) (wc (cA a7 cI 100 le) (wc (cA a8 cZ 100 ke) wN)))))) H := hP
  have hD : va_D A (wc (cO n0 1 [.ref a0, .ref a1, .ref a2, .ref a3, .ref a4, .ref a5, .ref a6, .ref a7, .ref a8, .ref a9, .int (nI E), .int (nI Ac)]) (wc (cA a4 cI 100 (upd ki Ac k1)) (wc (cA a5 cI 100 fr) (wc (cA a6 cI 100 to) (wc (cA a7 cI 100 le) (wc (cA a8 cZ 100 ke) wN)))))) := hD
  refine lv_aload_n hx hb dX1_addActivity_10 rfl (lv_at hl 0 rfl) ?_
  refine va_get (D := D) (ci := 1) (v := .ref a5) (C := RX1) (T := TX1) (N := 12) hx hb hts iX1 hown hK.1 hP 0 rfl rfl 5 (by decide) kw_3 (fun _ h9 => h9) rfl dX1_addActivity_11 ?_
  refine lv_aload_n hx hb dX1_addActivity_14 rfl (lv_at hl 0 rfl) ?_
  refine va_get (D := D) (ci := 1) (v := .int (nI Ac)) (C := RX1) (T := TX1) (N := 12) hx hb hts iX1 hown hK.1 hP 0 rfl rfl 11 (by decide) kw_2 (fun _ h9 => h9) rfl dX1_addActivity_15 ?_
  refine lv_iload_n hx hb dX1_addActivity_18 rfl (lv_at hl 2 rfl) ?_
  refine wa_I hx hb hK hP hD hS 2 rfl (k := Ac) (by omega) (by decide) dX1_addActivity_19 (fun H locs hP hD hS => ?_)
  have hP : va_P D vwCl (wc (cO n0 1 [.ref a0, .ref a1, .ref a2, .ref a3, .ref a4, .ref a5, .ref a6, .ref a7, .ref a8, .ref a9, .int (nI E), .int (nI Ac)]) (wc (cA a4 cI 100 (upd ki Ac k1)) (wc (cA a5 cI 100 (upd fr Ac f1)) (wc (cA a6 cI 100 to) (wc (cA a7 cI 100 le) (wc (cA a8 cZ 100 ke) wN)))))) H := hP
  have hD : va_D A (wc (cO n0 1 [.ref a0, .ref a1, .ref a2, .ref a3, .ref a4, .ref a5, .ref a6, .ref a7, .ref a8, .ref a9, .int (nI E), .int (nI Ac)]) (wc (cA a4 cI 100 (upd ki Ac k1)) (wc (cA a5 cI 100 (upd fr Ac f1)) (wc (cA a6 cI 100 to) (wc (cA a7 cI 100 le) (wc (cA a8 cZ 100 ke) wN)))))) := hD
  refine lv_aload_n hx hb dX1_addActivity_20 rfl (lv_at hl 0 rfl) ?_
  refine va_get (D := D) (ci := 1) (v := .ref a6) (C := RX1) (T := TX1) (N := 12) hx hb hts iX1 hown hK.1 hP 0 rfl rfl 6 (by decide) kw_4 (fun _ h9 => h9) rfl dX1_addActivity_21 ?_
  refine lv_aload_n hx hb dX1_addActivity_24 rfl (lv_at hl 0 rfl) ?_
  refine va_get (D := D) (ci := 1) (v := .int (nI Ac)) (C := RX1) (T := TX1) (N := 12) hx hb hts iX1 hown hK.1 hP 0 rfl rfl 11 (by decide) kw_2 (fun _ h9 => h9) rfl dX1_addActivity_25 ?_
  refine lv_iload_n hx hb dX1_addActivity_28 rfl (lv_at hl 3 rfl) ?_
  refine wa_I hx hb hK hP hD hS 3 rfl (k := Ac) (by omega) (by decide) dX1_addActivity_29 (fun H locs hP hD hS => ?_)
  have hP : va_P D vwCl (wc (cO n0 1 [.ref a0, .ref a1, .ref a2, .ref a3, .ref a4, .ref a5, .ref a6, .ref a7, .ref a8, .ref a9, .int (nI E), .int (nI Ac)]) (wc (cA a4 cI 100 (upd ki Ac k1)) (wc (cA a5 cI 100 (upd fr Ac f1)) (wc (cA a6 cI 100 (upd to Ac f2)) (wc (cA a7 cI 100 le) (wc (cA a8 cZ 100 ke) wN)))))) H := hP
  have hD : va_D A (wc (cO n0 1 [.ref a0, .ref a1, .ref a2, .ref a3, .ref a4, .ref a5, .ref a6, .ref a7, .ref a8, .ref a9, .int (nI E), .int (nI Ac)]) (wc (cA a4 cI 100 (upd ki Ac k1)) (wc (cA a5 cI 100 (upd fr Ac f1)) (wc (cA a6 cI 100 (upd to Ac f2)) (wc (cA a7 cI 100 le) (wc (cA a8 cZ 100 ke) wN)))))) := hD
  refine lv_aload_n hx hb dX1_addActivity_30 rfl (lv_at hl 0 rfl) ?_
  refine va_get (D := D) (ci := 1) (v := .ref a7) (C := RX1) (T := TX1) (N := 12) hx hb hts iX1 hown hK.1 hP 0 rfl rfl 7 (by decide) kw_5 (fun _ h9 => h9) rfl dX1_addActivity_31 ?_
  refine lv_aload_n hx hb dX1_addActivity_34 rfl (lv_at hl 0 rfl) ?_
  refine va_get (D := D) (ci := 1) (v := .int (nI Ac)) (C := RX1) (T := TX1) (N := 12) hx hb hts iX1 hown hK.1 hP 0 rfl rfl 11 (by decide) kw_2 (fun _ h9 => h9) rfl dX1_addActivity_35 ?_
  refine lv_iload hx hb dX1_addActivity_38 (lv_at hl 4 rfl) ?_
  refine wa_I hx hb hK hP hD hS 4 rfl (k := Ac) (by omega) (by decide) dX1_addActivity_40 (fun H locs hP hD hS => ?_)
  have hP : va_P D vwCl (wc (cO n0 1 [.ref a0, .ref a1, .ref a2, .ref a3, .ref a4, .ref a5, .ref a6, .ref a7, .ref a8, .ref a9, .int (nI E), .int (nI Ac)]) (wc (cA a4 cI 100 (upd ki Ac k1)) (wc (cA a5 cI 100 (upd fr Ac f1)) (wc (cA a6 cI 100 (upd to Ac f2)) (wc (cA a7 cI 100 (upd le Ac f3)) (wc (cA a8 cZ 100 ke) wN)))))) H := hP
  have hD : va_D A (wc (cO n0 1 [.ref a0, .ref a1, .ref a2, .ref a3, .ref a4, .ref a5, .ref a6, .ref a7, .ref a8, .ref a9, .int (nI E), .int (nI Ac)]) (wc (cA a4 cI 100 (upd ki Ac k1)) (wc (cA a5 cI 100 (upd fr Ac f1)) (wc (cA a6 cI 100 (upd to Ac f2)) (wc (cA a7 cI 100 (upd le Ac f3)) (wc (cA a8 cZ 100 ke) wN)))))) := hD
  refine lv_aload_n hx hb dX1_addActivity_41 rfl (lv_at hl 0 rfl) ?_
  refine va_get (D := D) (ci := 1) (v := .ref a8) (C := RX1) (T := TX1) (N := 12) hx hb hts iX1 hown hK.1 hP 0 rfl rfl 8 (by decide) kw_6 (fun _ h9 => h9) rfl dX1_addActivity_42 ?_
  refine lv_aload_n hx hb dX1_addActivity_45 rfl (lv_at hl 0 rfl) ?_
  refine va_get (D := D) (ci := 1) (v := .int (nI Ac)) (C := RX1) (T := TX1) (N := 12) hx hb hts iX1 hown hK.1 hP 0 rfl rfl 11 (by decide) kw_2 (fun _ h9 => h9) rfl dX1_addActivity_46 ?_
  refine lv_iconst (v := 1) hx hb dX1_addActivity_49 (by decide) ?_
  refine wa_Z hx hb hK hP hD hS 5 rfl (k := Ac) (by omega) (by decide) dX1_addActivity_50 (fun H locs hP hD hS => ?_)
  have hP : va_P D vwCl (wc (cO n0 1 [.ref a0, .ref a1, .ref a2, .ref a3, .ref a4, .ref a5, .ref a6, .ref a7, .ref a8, .ref a9, .int (nI E), .int (nI Ac)]) (wc (cA a4 cI 100 (upd ki Ac k1)) (wc (cA a5 cI 100 (upd fr Ac f1)) (wc (cA a6 cI 100 (upd to Ac f2)) (wc (cA a7 cI 100 (upd le Ac f3)) (wc (cA a8 cZ 100 (upd ke Ac 1)) wN)))))) H := hP
  have hD : va_D A (wc (cO n0 1 [.ref a0, .ref a1, .ref a2, .ref a3, .ref a4, .ref a5, .ref a6, .ref a7, .ref a8, .ref a9, .int (nI E), .int (nI Ac)]) (wc (cA a4 cI 100 (upd ki Ac k1)) (wc (cA a5 cI 100 (upd fr Ac f1)) (wc (cA a6 cI 100 (upd to Ac f2)) (wc (cA a7 cI 100 (upd le Ac f3)) (wc (cA a8 cZ 100 (upd ke Ac 1)) wN)))))) := hD
  refine lv_aload_n hx hb dX1_addActivity_51 rfl (lv_at hl 0 rfl) ?_
  refine lv_dup hx hb dX1_addActivity_52 rfl ?_
  refine va_get (D := D) (ci := 1) (v := .int (nI Ac)) (C := RX1) (T := TX1) (N := 12) hx hb hts iX1 hown hK.1 hP 0 rfl rfl 11 (by decide) kw_2 (fun _ h9 => h9) rfl dX1_addActivity_53 ?_
  refine lv_iconst (v := 1) hx hb dX1_addActivity_56 (by decide) ?_
  refine lv_iadd hx hb dX1_addActivity_57 ?_
  refine W.eq (g2 := F0 m 58 ls [.int (nI (Ac + 1)), .ref n0]) (by first | rw [nI_1] | rw [nI_add] | exact congrArg (fun z => F0 m 58 ls (Value.int z :: _)) (nI_add _ _)) ?_
  refine va_put (D := D) (ci := 1) (v := .int (nI (Ac + 1))) (ty := .int) (C := RX1) (T := TX1) (N := 12) hx hb hts iX1 tyX1 tyX1_ok nmX1 hown hK.1 hP hD hS 0 rfl rfl 11 (by decide) kw_2 (fun _ h9 => h9) rfl (by decide +kernel) rfl rfl (Nat.le_of_ble_eq_true rfl) dX1_addActivity_58 (fun H locs hP hD hS => ?_)
  have hP : va_P D vwCl (wc (cO n0 1 [.ref a0, .ref a1, .ref a2, .ref a3, .ref a4, .ref a5, .ref a6, .ref a7, .ref a8, .ref a9, .int (nI E), .int (nI (Ac + 1))]) (wc (cA a4 cI 100 (upd ki Ac k1)) (wc (cA a5 cI 100 (upd fr Ac f1)) (wc (cA a6 cI 100 (upd to Ac f2)) (wc (cA a7 cI 100 (upd le Ac f3)) (wc (cA a8 cZ 100 (upd ke Ac 1)) wN)))))) H := hP
  have hD : va_D A (wc (cO n0 1 [.ref a0, .ref a1, .ref a2, .ref a3, .ref a4, .ref a5, .ref a6, .ref a7, .ref a8, .ref a9, .int (nI E), .int (nI (Ac + 1))]) (wc (cA a4 cI 100 (upd ki Ac k1)) (wc (cA a5 cI 100 (upd fr Ac f1)) (wc (cA a6 cI 100 (upd to Ac f2)) (wc (cA a7 cI 100 (upd le Ac f3)) (wc (cA a8 cZ 100 (upd ke Ac 1)) wN)))))) := hD
  refine lv_aload_n hx hb dX1_addActivity_61 rfl (lv_at hl 0 rfl) ?_
  refine va_get (D := D) (ci := 1) (v := .int (nI (Ac + 1))) (C := RX1) (T := TX1) (N := 12) hx hb hts iX1 hown hK.1 hP 0 rfl rfl 11 (by decide) kw_2 (fun _ h9 => h9) rfl dX1_addActivity_62 ?_
  refine lv_iconst (v := 1) hx hb dX1_addActivity_65 (by decide) ?_
  refine lv_isub hx hb dX1_addActivity_66 ?_
  refine W.eq (g2 := F0 m 67 ls [.int (nI Ac)]) (by rw [nI_pred]) ?_
  exact en_i () hx hb hr hlocks hK (hP.sub [0, 1, 2, 3, 4, 5] rfl) (hD.sub [0, 1, 2, 3, 4, 5] (by decide) rfl) hS (Nat.le_of_ble_eq_true rfl) (Nat.le_of_ble_eq_true rfl) dX1_addActivity_67 (rfl)
set_option maxHeartbeats 300000 in
set_option maxRecDepth 100000 in
theorem lp_setCancelled {p : Program} {e : Env} {s : State} {m : MethodId} {args : Array Value} {below : List Frame} {meth : Method} {c : Code} {A : Nat → Prop} {Q : State → Prop} (l : Launch) (D : va_G) (cI cZ cR : ClassId) (n0 : Nat) (a0 : Nat) (a1 : Nat) (a2 : Nat) (a3 : Nat) (a4 : Nat) (a5 : Nat) (a6 : Nat) (a7 : Nat) (a8 : Nat) (a9 : Nat) (E : Nat) (Ac : Nat) (tr : Nat → Int32) (th : Nat → Int32) (ca : Nat → Int32) (t1 : Int32) (b1 : Int32) (hE : E ≤ 60) (ht : vp_in t1 16) (hx : p.tables.exec = Jvm.exec) (hb : c.code = cX1_setCancelled) (hts : ∀ w ∈ wsX1_setCancelled, w.before args s = true) (hown : s.vm.findClass RX1 = some m.cls) (hml : c.maxLocals = 4) (hK : kK D cI cZ cR s) (hA : ∀ q : Nat, s.heap.size ≤ q → A q) (kx_48 : ∀ (k : Nat) (tu : Nat → Int32), (k ≤ E) → (∀ e, (e < k → (tr e = t1 → (¬ tu e = 0 ↔ b1 = 0)) ∧ (¬ tr e = t1 → tu e = th e)) ∧ (k ≤ e → tu e = th e)) → (E ≤ k) → ∀ (H : Heap) (locs : List Loc) (ls : Array Slot), va_P D vwCl (wc (cO n0 1 [.ref a0, .ref a1, .ref a2, .ref a3, .ref a4, .ref a5, .ref a6, .ref a7, .ref a8, .ref a9, .int (nI E), .int (nI Ac)]) (wc (cA a0 cI 60 tr) (wc (cA a3 cZ 60 tu) (wc (cA a9 cZ 16 (upd ca t1.toNatClampNeg (vp_nar .boolean b1))) wN)))) H → va_D A (wc (cO n0 1 [.ref a0, .ref a1, .ref a2, .ref a3, .ref a4, .ref a5, .ref a6, .ref a7, .ref a8, .ref a9, .int (nI E), .int (nI Ac)]) (wc (cA a0 cI 60 tr) (wc (cA a3 cZ 60 tu) (wc (cA a9 cZ 16 (upd ca t1.toNatClampNeg (vp_nar .boolean b1))) wN)))) → va_S A s.heap H locs → lv_has ls 4 [(3, .int (nI k)), (0, .ref n0), (1, .int t1), (2, .int b1)] → W p l e { frames := 0, cells := 0, slots := 0, locals := 0 } s m args below meth c H locs 0 0 Q (F0 m 48 ls [])) : ∀ (n : Nat) (k : Nat) (tu : Nat → Int32), (k ≤ E) → (∀ e, (e < k → (tr e = t1 → (¬ tu e = 0 ↔ b1 = 0)) ∧ (¬ tr e = t1 → tu e = th e)) ∧ (k ≤ e → tu e = th e)) → E - k < n → ∀ (H : Heap) (locs : List Loc) (ls : Array Slot), va_P D vwCl (wc (cO n0 1 [.ref a0, .ref a1, .ref a2, .ref a3, .ref a4, .ref a5, .ref a6, .ref a7, .ref a8, .ref a9, .int (nI E), .int (nI Ac)]) (wc (cA a0 cI 60 tr) (wc (cA a3 cZ 60 tu) (wc (cA a9 cZ 16 (upd ca t1.toNatClampNeg (vp_nar .boolean b1))) wN)))) H → va_D A (wc (cO n0 1 [.ref a0, .ref a1, .ref a2, .ref a3, .ref a4, .ref a5, .ref a6, .ref a7, .ref a8, .ref a9, .int (nI E), .int (nI Ac)]) (wc (cA a0 cI 60 tr) (wc (cA a3 cZ 60 tu) (wc (cA a9 cZ 16 (upd ca t1.toNatClampNeg (vp_nar .boolean b1))) wN)))) → va_S A s.heap H locs → lv_has ls 4 [(3, .int (nI k)), (0, .ref n0), (1, .int t1), (2, .int b1)] → W p l e { frames := 0, cells := 0, slots := 0, locals := 0 } s m args below meth c H locs 0 0 Q (F0 m 9 ls []) := by
  have kw_0 := hts (.fieldLink RX1 43 "DelayDesk$Net" "events" "I") (List.mem_of_getElem? (i := 2) rfl)
  have iX1 : ∀ w ∈ u_ws RX1 TX1 12, w ∈ wsX1_setCancelled := fun _ h9 => (List.mem_cons_of_mem _ (List.mem_append_right _ h9))
  have kw_2 := hts (.fieldLink RX1 9 "DelayDesk$Net" "train" "[I") (List.mem_of_getElem? (i := 3) rfl)
  have kw_3 := hts (.fieldLink RX1 21 "DelayDesk$Net" "there" "[Z") (List.mem_of_getElem? (i := 4) rfl)
  intro n
  induction n with
  | zero =>
    intro k tu hk htu hm
    exact absurd hm (Nat.not_lt_zero _)
  | succ n ih =>
    intro k tu hk htu hm H locs ls hP hD hS hl
    refine lv_iload_n hx hb dX1_setCancelled_9 rfl (lv_at hl 0 rfl) ?_
    refine lv_aload_n hx hb dX1_setCancelled_10 rfl (lv_at hl 1 rfl) ?_
    refine va_get (D := D) (ci := 1) (v := .int (nI E)) (C := RX1) (T := TX1) (N := 12) hx hb hts iX1 hown hK.1 hP 0 rfl rfl 10 (by decide) kw_0 (fun _ h9 => h9) rfl dX1_setCancelled_11 ?_
    refine lv_icmp_ge (tgt := 48) hx hb dX1_setCancelled_14 (by decide) (fun c_14 => ?_) (fun c_14 => ?_)
    · have g_14 : E ≤ k := (nI_leI (a := E) (b := k) (by omega) (by omega)).mp c_14
      exact kx_48 k tu (by first | with_reducible assumption | omega | exact vp_le (by with_reducible assumption) (by omega) | (intros; omega)) ((by first | exact htu | exact thc_i htu (by assumption) ⟨fun _ => by assumption, fun _ => by decide⟩ | exact thc_i htu (by assumption) ⟨fun h => absurd rfl h, fun h => absurd h (by assumption)⟩ | exact thc_o htu (by assumption) | exact (fun e => ⟨fun h => absurd h (Nat.not_lt_zero _), fun _ => rfl⟩))) (by first | with_reducible assumption | omega | exact vp_le (by with_reducible assumption) (by omega) | (intros; omega)) _ _ _ (hP.sub [0, 1, 2, 3] rfl) (hD.sub [0, 1, 2, 3] (by decide) rfl) hS (lv_sub hl [0, 1, 2, 3] rfl)
    · have g_14 : k < E := Nat.not_le.mp (fun q => c_14 ((nI_leI (a := E) (b := k) (by omega) (by omega)).mpr q))
      refine lv_aload_n hx hb dX1_setCancelled_17 rfl (lv_at hl 1 rfl) ?_
      refine va_get (D := D) (ci := 1) (v := .ref a0) (C := RX1) (T := TX1) (N := 12) hx hb hts iX1 hown hK.1 hP 0 rfl rfl 0 (by decide) kw_2 (fun _ h9 => h9) rfl dX1_setCancelled_18 ?_
      refine lv_iload_n hx hb dX1_setCancelled_21 rfl (lv_at hl 0 rfl) ?_
      refine ra_I hx hb hK hP 1 rfl (k := k) (by omega) (by decide) dX1_setCancelled_22 ?_
      refine lv_iload_n hx hb dX1_setCancelled_23 rfl (lv_at hl 2 rfl) ?_
      refine lv_icmp_ne (tgt := 42) hx hb dX1_setCancelled_24 (by decide) (fun c_24 => ?_) (fun c_24 => ?_)
      · refine lv_iinc (v := (nI (k + 1))) (lv' := [(3, .int (nI (k + 1))), (0, .ref n0), (1, .int t1), (2, .int b1)]) hx hb dX1_setCancelled_42 hl (k := 0) rfl (nI_1 _) (by decide) rfl (fun ls hl => ?_)
        refine lv_goto (tgt := 9) hx hb dX1_setCancelled_45 (by decide) ?_
        exact ih (k + 1) tu (by first | with_reducible assumption | omega | exact vp_le (by with_reducible assumption) (by omega) | (intros; omega)) ((by first | exact htu | exact thc_i htu (by assumption) ⟨fun _ => by assumption, fun _ => by decide⟩ | exact thc_i htu (by assumption) ⟨fun h => absurd rfl h, fun h => absurd h (by assumption)⟩ | exact thc_o htu (by assumption) | exact (fun e => ⟨fun h => absurd h (Nat.not_lt_zero _), fun _ => rfl⟩))) (by omega) _ _ _ (hP.sub [0, 1, 2, 3] rfl) (hD.sub [0, 1, 2, 3] (by decide) rfl) hS (lv_sub hl [0, 1, 2, 3] rfl)
      · refine lv_aload_n hx hb dX1_setCancelled_27 rfl (lv_at hl 1 rfl) ?_
        refine va_get (D := D) (ci := 1) (v := .ref a3) (C := RX1) (T := TX1) (N := 12) hx hb hts iX1 hown hK.1 hP 0 rfl rfl 3 (by decide) kw_3 (fun _ h9 => h9) rfl dX1_setCancelled_28 ?_
        refine lv_iload_n hx hb dX1_setCancelled_31 rfl (lv_at hl 0 rfl) ?_
        refine lv_iload_n hx hb dX1_setCancelled_32 rfl (lv_at hl 3 rfl) ?_
        refine lv_if_ne (tgt := 40) hx hb dX1_setCancelled_33 (by decide) (fun c_33 => ?_) (fun c_33 => ?_)
        · refine lv_iconst (v := 0) hx hb dX1_setCancelled_40 (by decide) ?_
          refine wa_Z hx hb hK hP hD hS 2 rfl (k := k) (by omega) (by decide) dX1_setCancelled_41 (fun H locs hP hD hS => ?_)
          have hP : va_P D vwCl (wc (cO n0 1 [.ref a0, .ref a1, .ref a2, .ref a3, .ref a4, .ref a5, .ref a6, .ref a7, .ref a8, .ref a9, .int (nI E), .int (nI Ac)]) (wc (cA a0 cI 60 tr) (wc (cA a3 cZ 60 (upd tu k 0)) (wc (cA a9 cZ 16 (upd ca t1.toNatClampNeg (vp_nar .boolean b1))) wN)))) H := hP
          have hD : va_D A (wc (cO n0 1 [.ref a0, .ref a1, .ref a2, .ref a3, .ref a4, .ref a5, .ref a6, .ref a7, .ref a8, .ref a9, .int (nI E), .int (nI Ac)]) (wc (cA a0 cI 60 tr) (wc (cA a3 cZ 60 (upd tu k 0)) (wc (cA a9 cZ 16 (upd ca t1.toNatClampNeg (vp_nar .boolean b1))) wN)))) := hD
          refine lv_iinc (v := (nI (k + 1))) (lv' := [(3, .int (nI (k + 1))), (0, .ref n0), (1, .int t1), (2, .int b1)]) hx hb dX1_setCancelled_42 hl (k := 0) rfl (nI_1 _) (by decide) rfl (fun ls hl => ?_)
          refine lv_goto (tgt := 9) hx hb dX1_setCancelled_45 (by decide) ?_
          exact ih (k + 1) (upd tu k 0) (by first | with_reducible assumption | omega | exact vp_le (by with_reducible assumption) (by omega) | (intros; omega)) ((by first | exact htu | exact thc_i htu (by assumption) ⟨fun _ => by assumption, fun _ => by decide⟩ | exact thc_i htu (by assumption) ⟨fun h => absurd rfl h, fun h => absurd h (by assumption)⟩ | exact thc_o htu (by assumption) | exact (fun e => ⟨fun h => absurd h (Nat.not_lt_zero _), fun _ => rfl⟩))) (by omega) _ _ _ (hP.sub [0, 1, 2, 3] rfl) (hD.sub [0, 1, 2, 3] (by decide) rfl) hS (lv_sub hl [0, 1, 2, 3] rfl)
        · refine lv_iconst (v := 1) hx hb dX1_setCancelled_36 (by decide) ?_
          refine lv_goto (tgt := 41) hx hb dX1_setCancelled_37 (by decide) ?_
          refine wa_Z hx hb hK hP hD hS 2 rfl (k := k) (by omega) (by decide) dX1_setCancelled_41 (fun H locs hP hD hS => ?_)
          have hP : va_P D vwCl (wc (cO n0 1 [.ref a0, .ref a1, .ref a2, .ref a3, .ref a4, .ref a5, .ref a6, .ref a7, .ref a8, .ref a9, .int (nI E), .int (nI Ac)]) (wc (cA a0 cI 60 tr) (wc (cA a3 cZ 60 (upd tu k 1)) (wc (cA a9 cZ 16 (upd ca t1.toNatClampNeg (vp_nar .boolean b1))) wN)))) H := hP
          have hD : va_D A (wc (cO n0 1 [.ref a0, .ref a1, .ref a2, .ref a3, .ref a4, .ref a5, .ref a6, .ref a7, .ref a8, .ref a9, .int (nI E), .int (nI Ac)]) (wc (cA a0 cI 60 tr) (wc (cA a3 cZ 60 (upd tu k 1)) (wc (cA a9 cZ 16 (upd ca t1.toNatClampNeg (vp_nar .boolean b1))) wN)))) := hD
          refine lv_iinc (v := (nI (k + 1))) (lv' := [(3, .int (nI (k + 1))), (0, .ref n0), (1, .int t1), (2, .int b1)]) hx hb dX1_setCancelled_42 hl (k := 0) rfl (nI_1 _) (by decide) rfl (fun ls hl => ?_)
          refine lv_goto (tgt := 9) hx hb dX1_setCancelled_45 (by decide) ?_
          exact ih (k + 1) (upd tu k 1) (by first | with_reducible assumption | omega | exact vp_le (by with_reducible assumption) (by omega) | (intros; omega)) ((by first | exact htu | exact thc_i htu (by assumption) ⟨fun _ => by assumption, fun _ => by decide⟩ | exact thc_i htu (by assumption) ⟨fun h => absurd rfl h, fun h => absurd h (by assumption)⟩ | exact thc_o htu (by assumption) | exact (fun e => ⟨fun h => absurd h (Nat.not_lt_zero _), fun _ => rfl⟩))) (by omega) _ _ _ (hP.sub [0, 1, 2, 3] rfl) (hD.sub [0, 1, 2, 3] (by decide) rfl) hS (lv_sub hl [0, 1, 2, 3] rfl)
set_option maxHeartbeats 300000 in
set_option maxRecDepth 100000 in
theorem c_setCancelled (l : Launch) (D : va_G) (cI cZ cR : ClassId) (n0 : Nat) (a0 : Nat) (a1 : Nat) (a2 : Nat) (a3 : Nat) (a4 : Nat) (a5 : Nat) (a6 : Nat) (a7 : Nat) (a8 : Nat) (a9 : Nat) (E : Nat) (Ac : Nat) (tr : Nat → Int32) (th : Nat → Int32) (ca : Nat → Int32) (t1 : Int32) (b1 : Int32) (hE : E ≤ 60) (ht : vp_in t1 16) : CV l D cI cZ cR yX1_setCancelled wsX1_setCancelled { frames := 0, cells := 0, slots := 0, locals := 0 } [.ref n0, .int t1, .int b1] (wc (cO n0 1 [.ref a0, .ref a1, .ref a2, .ref a3, .ref a4, .ref a5, .ref a6, .ref a7, .ref a8, .ref a9, .int (nI E), .int (nI Ac)]) (wc (cA a0 cI 60 tr) (wc (cA a3 cZ 60 th) (wc (cA a9 cZ 16 ca) wN)))) (fun (u : Nat → Int32) => ∀ e, (e < E → (tr e = t1 → (¬ u e = 0 ↔ b1 = 0)) ∧ (¬ tr e = t1 → u e = th e)) ∧ (E ≤ e → u e = th e)) (fun (u : Nat → Int32) => (wc (cO n0 1 [.ref a0, .ref a1, .ref a2, .ref a3, .ref a4, .ref a5, .ref a6, .ref a7, .ref a8, .ref a9, .int (nI E), .int (nI Ac)]) (wc (cA a0 cI 60 tr) (wc (cA a3 cZ 60 u) (wc (cA a9 cZ 16 (upd ca t1.toNatClampNeg (vp_nar .boolean b1))) wN))))) := by
  intro sz9
  refine en_W (Qc := fun A => va_Qv (fun (u : Nat → Int32) => ∀ e, (e < E → (tr e = t1 → (¬ u e = 0 ↔ b1 = 0)) ∧ (¬ tr e = t1 → u e = th e)) ∧ (E ≤ e → u e = th e)) (sB D cI cZ cR (fun (u : Nat → Int32) => (wc (cO n0 1 [.ref a0, .ref a1, .ref a2, .ref a3, .ref a4, .ref a5, .ref a6, .ref a7, .ref a8, .ref a9, .int (nI E), .int (nI Ac)]) (wc (cA a0 cI 60 tr) (wc (cA a3 cZ 60 u) (wc (cA a9 cZ 16 (upd ca t1.toNatClampNeg (vp_nar .boolean b1))) wN))))) A) A) (cc := cX1_setCancelled) (maxL := 4) (ret := none) (by decide) rfl (Nat.le_of_ble_eq_true rfl) ?_
  intro p e s m below meth c A ls hx hb hr hts hown hlocks hin hml hK hP hD hS hA hl
  have hown : s.vm.findClass RX1 = some m.cls := hown
  have hl : lv_has ls 4 [(0, .ref n0), (1, .int t1), (2, .int b1)] := hl
  have kw_0 := hts (.fieldLink RX1 40 "DelayDesk$Net" "cancelled" "[Z") (List.mem_of_getElem? (i := 1) rfl)
  have iX1 : ∀ w ∈ u_ws RX1 TX1 12, w ∈ wsX1_setCancelled := fun _ h9 => (List.mem_cons_of_mem _ (List.mem_append_right _ h9))
  refine lv_aload_n hx hb dX1_setCancelled_0 rfl (lv_at hl 0 rfl) ?_
  refine va_get (D := D) (ci := 1) (v := .ref a9) (C := RX1) (T := TX1) (N := 12) hx hb hts iX1 hown hK.1 hP 0 rfl rfl 9 (by decide) kw_0 (fun _ h9 => h9) rfl dX1_setCancelled_1 ?_
  refine lv_iload_n hx hb dX1_setCancelled_4 rfl (lv_at hl 1 rfl) ?_
  refine lv_iload_n hx hb dX1_setCancelled_5 rfl (lv_at hl 2 rfl) ?_
  refine va_zast hx hb hK.1 hP hD hS 3 1 rfl rfl (by first | with_reducible assumption | exact vp_le (by with_reducible assumption) (by omega)) dX1_setCancelled_6 (fun H locs hP hD hS => ?_)
  have hP : va_P D vwCl (wc (cO n0 1 [.ref a0, .ref a1, .ref a2, .ref a3, .ref a4, .ref a5, .ref a6, .ref a7, .ref a8, .ref a9, .int (nI E), .int (nI Ac)]) (wc (cA a0 cI 60 tr) (wc (cA a3 cZ 60 th) (wc (cA a9 cZ 16 (upd ca t1.toNatClampNeg (vp_nar .boolean b1))) wN)))) H := hP
  have hD : va_D A (wc (cO n0 1 [.ref a0, .ref a1, .ref a2, .ref a3, .ref a4, .ref a5, .ref a6, .ref a7, .ref a8, .ref a9, .int (nI E), .int (nI Ac)]) (wc (cA a0 cI 60 tr) (wc (cA a3 cZ 60 th) (wc (cA a9 cZ 16 (upd ca t1.toNatClampNeg (vp_nar .boolean b1))) wN)))) := hD
  refine lv_iconst (v := 0) hx hb dX1_setCancelled_7 (by decide) ?_
  refine lv_istore_n (lv' := [(3, .int 0), (0, .ref n0), (1, .int t1), (2, .int b1)]) hx hb dX1_setCancelled_8 rfl hl (by decide) rfl (fun ls hl => ?_)
  refine lp_setCancelled l D cI cZ cR n0 a0 a1 a2 a3 a4 a5 a6 a7 a8 a9 E Ac tr th ca t1 b1 hE ht hx hb hts hown hml hK hA (fun k tu hk htu hkE H locs ls hP hD hS hl => ?_) _ 0 th (by first | with_reducible assumption | omega | exact vp_le (by with_reducible assumption) (by omega) | (intros; omega)) ((by first | exact htu | exact thc_i htu (by assumption) ⟨fun _ => by assumption, fun _ => by decide⟩ | exact thc_i htu (by assumption) ⟨fun h => absurd rfl h, fun h => absurd h (by assumption)⟩ | exact thc_o htu (by assumption) | exact (fun e => ⟨fun h => absurd h (Nat.not_lt_zero _), fun _ => rfl⟩))) (Nat.lt_succ_self _) _ _ _ (hP.sub [0, 1, 2, 3] rfl) (hD.sub [0, 1, 2, 3] (by decide) rfl) hS (lv_sub hl [0, 1, 2, 3] rfl)
  exact en_v tu hx hb hr hlocks hK (hP.sub [0, 1, 2, 3] rfl) (hD.sub [0, 1, 2, 3] (by decide) rfl) hS (Nat.le_of_ble_eq_true rfl) (Nat.le_of_ble_eq_true rfl) dX1_setCancelled_48 (by rw [show E = k by omega]; exact htu)
set_option maxHeartbeats 300000 in
set_option maxRecDepth 100000 in
theorem c_joinsThere (l : Launch) (D : va_G) (cI cZ cR : ClassId) (n0 : Nat) (a0 : Nat) (a1 : Nat) (a2 : Nat) (a3 : Nat) (a4 : Nat) (a5 : Nat) (a6 : Nat) (a7 : Nat) (a8 : Nat) (a9 : Nat) (E : Nat) (Ac : Nat) (th : Nat → Int32) (fr : Nat → Int32) (to : Nat → Int32) (e0 : Int32) (hE : E ≤ 60) (hAc : Ac ≤ 100) (hfr : ∀ i, i < Ac → vp_in (fr i) E) (hto : ∀ i, i < Ac → vp_in (to i) E) (hx0 : vp_in e0 Ac) : CI l D cI cZ cR yX1_joinsThere wsX1_joinsThere { frames := 0, cells := 0, slots := 0, locals := 0 } [.ref n0, .int e0] (wc (cO n0 1 [.ref a0, .ref a1, .ref a2, .ref a3, .ref a4, .ref a5, .ref a6, .ref a7, .ref a8, .ref a9, .int (nI E), .int (nI Ac)]) (wc (cA a3 cZ 60 th) (wc (cA a5 cI 100 fr) (wc (cA a6 cI 100 to) wN)))) (fun (r : Int32) (u : Unit) => (r = 1 ∧ (tbC th (fr e0.toNatClampNeg).toNatClampNeg = true ∧ tbC th (to e0.toNatClampNeg).toNatClampNeg = true)) ∨ (r = 0 ∧ ¬ (tbC th (fr e0.toNatClampNeg).toNatClampNeg = true ∧ tbC th (to e0.toNatClampNeg).toNatClampNeg = true))) (fun (u : Unit) => (wc (cO n0 1 [.ref a0, .ref a1, .ref a2, .ref a3, .ref a4, .ref a5, .ref a6, .ref a7, .ref a8, .ref a9, .int (nI E), .int (nI Ac)]) (wc (cA a3 cZ 60 th) (wc (cA a5 cI 100 fr) (wc (cA a6 cI 100 to) wN))))) := by
  intro sz9
  refine en_W (Qc := fun A => va_Qi (fun (r : Int32) (u : Unit) => (r = 1 ∧ (tbC th (fr e0.toNatClampNeg).toNatClampNeg = true ∧ tbC th (to e0.toNatClampNeg).toNatClampNeg = true)) ∨ (r = 0 ∧ ¬ (tbC th (fr e0.toNatClampNeg).toNatClampNeg = true ∧ tbC th (to e0.toNatClampNeg).toNatClampNeg = true))) (sB D cI cZ cR (fun (u : Unit) => (wc (cO n0 1 [.ref a0, .ref a1, .ref a2, .ref a3, .ref a4, .ref a5, .ref a6, .ref a7, .ref a8, .ref a9, .int (nI E), .int (nI Ac)]) (wc (cA a3 cZ 60 th) (wc (cA a5 cI 100 fr) (wc (cA a6 cI 100 to) wN))))) A) A) (cc := cX1_joinsThere) (maxL := 2) (ret := (some .boolean)) (by decide) rfl (Nat.le_of_ble_eq_true rfl) ?_
  intro p e s m below meth c A ls hx hb hr hts hown hlocks hin hml hK hP hD hS hA hl
  have hown : s.vm.findClass RX1 = some m.cls := hown
  have hl : lv_has ls 2 [(0, .ref n0), (1, .int e0)] := hl
  have kw_0 := hts (.fieldLink RX1 21 "DelayDesk$Net" "there" "[Z") (List.mem_of_getElem? (i := 1) rfl)
  have iX1 : ∀ w ∈ u_ws RX1 TX1 12, w ∈ wsX1_joinsThere := fun _ h9 => (List.mem_cons_of_mem _ (List.mem_append_right _ h9))
  have kw_2 := hts (.fieldLink RX1 28 "DelayDesk$Net" "from" "[I") (List.mem_of_getElem? (i := 2) rfl)
  have kw_3 := hts (.fieldLink RX1 31 "DelayDesk$Net" "to" "[I") (List.mem_of_getElem? (i := 3) rfl)
  refine lv_aload_n hx hb dX1_joinsThere_0 rfl (lv_at hl 0 rfl) ?_
  refine va_get (D := D) (ci := 1) (v := .ref a3) (C := RX1) (T := TX1) (N := 12) hx hb hts iX1 hown hK.1 hP 0 rfl rfl 3 (by decide) kw_0 (fun _ h9 => h9) rfl dX1_joinsThere_1 ?_
  refine lv_aload_n hx hb dX1_joinsThere_4 rfl (lv_at hl 0 rfl) ?_
  refine va_get (D := D) (ci := 1) (v := .ref a5) (C := RX1) (T := TX1) (N := 12) hx hb hts iX1 hown hK.1 hP 0 rfl rfl 5 (by decide) kw_2 (fun _ h9 => h9) rfl dX1_joinsThere_5 ?_
  refine lv_iload_n hx hb dX1_joinsThere_8 rfl (lv_at hl 1 rfl) ?_
  refine va_iald hx hb hK.1 hP 2 0 rfl rfl (by first | with_reducible assumption | exact vp_le (by with_reducible assumption) (by omega)) dX1_joinsThere_9 ?_
  have f_9 : vp_in (fr e0.toNatClampNeg) E := hfr _ (vp_lt (by with_reducible assumption))
  refine va_zald hx hb hK.1 hP 1 1 rfl rfl (by first | with_reducible assumption | exact vp_le (by with_reducible assumption) (by omega)) dX1_joinsThere_10 ?_
  refine lv_if_eq (tgt := 32) hx hb dX1_joinsThere_11 (by decide) (fun c_11 => ?_) (fun c_11 => ?_)
  · refine lv_iconst (v := 0) hx hb dX1_joinsThere_32 (by decide) ?_
    exact en_z () hx hb hr hlocks hK (hP.sub [0, 1, 2, 3] rfl) (hD.sub [0, 1, 2, 3] (by decide) rfl) hS (Nat.le_of_ble_eq_true rfl) (Nat.le_of_ble_eq_true rfl) dX1_joinsThere_33 rfl (Or.inr ⟨rfl, by first | exact ⟨tbC_1 c_11, tbC_1 c_25⟩ | exact (fun h => absurd h.1 (by rw [tbC_0 c_11]; exact Bool.noConfusion)) | exact (fun h => absurd h.2 (by rw [tbC_0 c_25]; exact Bool.noConfusion))⟩)
  · refine lv_aload_n hx hb dX1_joinsThere_14 rfl (lv_at hl 0 rfl) ?_
    refine va_get (D := D) (ci := 1) (v := .ref a3) (C := RX1) (T := TX1) (N := 12) hx hb hts iX1 hown hK.1 hP 0 rfl rfl 3 (by decide) kw_0 (fun _ h9 => h9) rfl dX1_joinsThere_15 ?_
    refine lv_aload_n hx hb dX1_joinsThere_18 rfl (lv_at hl 0 rfl) ?_
    refine va_get (D := D) (ci := 1) (v := .ref a6) (C := RX1) (T := TX1) (N := 12) hx hb hts iX1 hown hK.1 hP 0 rfl rfl 6 (by decide) kw_3 (fun _ h9 => h9) rfl dX1_joinsThere_19 ?_
    refine lv_iload_n hx hb dX1_joinsThere_22 rfl (lv_at hl 1 rfl) ?_
    refine va_iald hx hb hK.1 hP 3 0 rfl rfl (by first | with_reducible assumption | exact vp_le (by with_reducible assumption) (by omega)) dX1_joinsThere_23 ?_
    have f_23 : vp_in (to e0.toNatClampNeg) E := hto _ (vp_lt (by with_reducible assumption))
    refine va_zald hx hb hK.1 hP 1 1 rfl rfl (by first | with_reducible assumption | exact vp_le (by with_reducible assumption) (by omega)) dX1_joinsThere_24 ?_
    refine lv_if_eq (tgt := 32) hx hb dX1_joinsThere_25 (by decide) (fun c_25 => ?_) (fun c_25 => ?_)
    · refine lv_iconst (v := 0) hx hb dX1_joinsThere_32 (by decide) ?_
      exact en_z () hx hb hr hlocks hK (hP.sub [0, 1, 2, 3] rfl) (hD.sub [0, 1, 2, 3] (by decide) rfl) hS (Nat.le_of_ble_eq_true rfl) (Nat.le_of_ble_eq_true rfl) dX1_joinsThere_33 rfl (Or.inr ⟨rfl, by first | exact ⟨tbC_1 c_11, tbC_1 c_25⟩ | exact (fun h => absurd h.1 (by rw [tbC_0 c_11]; exact Bool.noConfusion)) | exact (fun h => absurd h.2 (by rw [tbC_0 c_25]; exact Bool.noConfusion))⟩)
    · refine lv_iconst (v := 1) hx hb dX1_joinsThere_28 (by decide) ?_
      refine lv_goto (tgt := 33) hx hb dX1_joinsThere_29 (by decide) ?_
      exact en_z () hx hb hr hlocks hK (hP.sub [0, 1, 2, 3] rfl) (hD.sub [0, 1, 2, 3] (by decide) rfl) hS (Nat.le_of_ble_eq_true rfl) (Nat.le_of_ble_eq_true rfl) dX1_joinsThere_33 rfl (Or.inl ⟨rfl, by first | exact ⟨tbC_1 c_11, tbC_1 c_25⟩ | exact (fun h => absurd h.1 (by rw [tbC_0 c_11]; exact Bool.noConfusion)) | exact (fun h => absurd h.2 (by rw [tbC_0 c_25]; exact Bool.noConfusion))⟩)
set_option maxHeartbeats 300000 in
set_option maxRecDepth 100000 in
theorem c_holds (l : Launch) (D : va_G) (cI cZ cR : ClassId) (n0 : Nat) (a0 : Nat) (a1 : Nat) (a2 : Nat) (a3 : Nat) (a4 : Nat) (a5 : Nat) (a6 : Nat) (a7 : Nat) (a8 : Nat) (a9 : Nat) (E : Nat) (Ac : Nat) (th : Nat → Int32) (fr : Nat → Int32) (to : Nat → Int32) (ke : Nat → Int32) (e0 : Int32) (hE : E ≤ 60) (hAc : Ac ≤ 100) (hfr : ∀ i, i < Ac → vp_in (fr i) E) (hto : ∀ i, i < Ac → vp_in (to i) E) (hx0 : vp_in e0 Ac) : CI l D cI cZ cR yX1_holds wsX1_holds { frames := 1, cells := 0, slots := 0, locals := 21 } [.ref n0, .int e0] (wc (cO n0 1 [.ref a0, .ref a1, .ref a2, .ref a3, .ref a4, .ref a5, .ref a6, .ref a7, .ref a8, .ref a9, .int (nI E), .int (nI Ac)]) (wc (cA a3 cZ 60 th) (wc (cA a5 cI 100 fr) (wc (cA a6 cI 100 to) (wc (cA a8 cZ 100 ke) wN))))) (fun (r : Int32) (u : Unit) => (r = 1 ∧ hdB (tbC th) ke fr to e0.toNatClampNeg = true) ∨ (r = 0 ∧ hdB (tbC th) ke fr to e0.toNatClampNeg = false)) (fun (u : Unit) => (wc (cO n0 1 [.ref a0, .ref a1, .ref a2, .ref a3, .ref a4, .ref a5, .ref a6, .ref a7, .ref a8, .ref a9, .int (nI E), .int (nI Ac)]) (wc (cA a3 cZ 60 th) (wc (cA a5 cI 100 fr) (wc (cA a6 cI 100 to) (wc (cA a8 cZ 100 ke) wN)))))) := by
  intro sz9
  refine en_W (Qc := fun A => va_Qi (fun (r : Int32) (u : Unit) => (r = 1 ∧ hdB (tbC th) ke fr to e0.toNatClampNeg = true) ∨ (r = 0 ∧ hdB (tbC th) ke fr to e0.toNatClampNeg = false)) (sB D cI cZ cR (fun (u : Unit) => (wc (cO n0 1 [.ref a0, .ref a1, .ref a2, .ref a3, .ref a4, .ref a5, .ref a6, .ref a7, .ref a8, .ref a9, .int (nI E), .int (nI Ac)]) (wc (cA a3 cZ 60 th) (wc (cA a5 cI 100 fr) (wc (cA a6 cI 100 to) (wc (cA a8 cZ 100 ke) wN)))))) A) A) (cc := cX1_holds) (maxL := 2) (ret := (some .boolean)) (by decide) rfl (Nat.le_of_ble_eq_true rfl) ?_
  intro p e s m below meth c A ls hx hb hr hts hown hlocks hin hml hK hP hD hS hA hl
  have hown : s.vm.findClass RX1 = some m.cls := hown
  have hl : lv_has ls 2 [(0, .ref n0), (1, .int e0)] := hl
  have kw_0 := hts (.fieldLink RX1 37 "DelayDesk$Net" "kept" "[Z") (List.mem_of_getElem? (i := 1) rfl)
  have iX1 : ∀ w ∈ u_ws RX1 TX1 12, w ∈ wsX1_holds := fun _ h9 => (List.mem_cons_of_mem _ (List.mem_append_right _ h9))
  refine lv_aload_n hx hb dX1_holds_0 rfl (lv_at hl 0 rfl) ?_
  refine va_get (D := D) (ci := 1) (v := .ref a8) (C := RX1) (T := TX1) (N := 12) hx hb hts iX1 hown hK.1 hP 0 rfl rfl 8 (by decide) kw_0 (fun _ h9 => h9) rfl dX1_holds_1 ?_
  refine lv_iload_n hx hb dX1_holds_4 rfl (lv_at hl 1 rfl) ?_
  refine va_zald hx hb hK.1 hP 4 1 rfl rfl (by first | with_reducible assumption | exact vp_le (by with_reducible assumption) (by omega)) dX1_holds_5 ?_
  refine lv_if_eq (tgt := 21) hx hb dX1_holds_6 (by decide) (fun c_6 => ?_) (fun c_6 => ?_)
  · refine lv_iconst (v := 0) hx hb dX1_holds_21 (by decide) ?_
    exact en_z () hx hb hr hlocks hK (hP.sub [0, 1, 2, 3, 4] rfl) (hD.sub [0, 1, 2, 3, 4] (by decide) rfl) hS (Nat.le_of_ble_eq_true rfl) (Nat.le_of_ble_eq_true rfl) dX1_holds_22 rfl (Or.inr ⟨rfl, by first | exact hd_1 c_6 hf_11.1 hf_11.2 | exact hd_0 c_6 | exact hd_n hf_11⟩)
  · refine lv_aload_n hx hb dX1_holds_9 rfl (lv_at hl 0 rfl) ?_
    refine lv_iload_n hx hb dX1_holds_10 rfl (lv_at hl 1 rfl) ?_
    refine cl_i (wr := (wc (cA a8 cZ 100 ke) wN)) (va_runV (As := [.int e0]) (rest := []) ⟨hx, hb, hml, hown, hts⟩ (c_joinsThere l D cI cZ cR n0 a0 a1 a2 a3 a4 a5 a6 a7 a8 a9 E Ac th fr to e0 (by omega) (by omega) (by with_reducible assumption) (by with_reducible assumption) (by first | with_reducible assumption | exact vp_le (by with_reducible assumption) (by omega)) s.heap.size) (cwV 1 hts gX1_holds_X1_joinsThere rfl rfl rfl hd_X1_joinsThere ⟨Nat.le_of_ble_eq_true rfl, Nat.le_of_ble_eq_true rfl⟩) (pV 1 0 hK hP hD [0, 1, 2, 3] rfl (by decide) rfl rfl) rfl rfl hl.1 rfl (lv_room (Nat.le_of_ble_eq_true rfl)) dX1_holds_11 ⟨Nat.le_of_ble_eq_true rfl, Nat.le_of_ble_eq_true rfl⟩) hP hD hS hA [0, 1, 2, 3] [4] rfl rfl (by decide) (by decide) (fun r_11 u_11 H locs hw_11 hP hD hS => ?_)
    have hP : va_P D vwCl (wc (cA a8 cZ 100 ke) (wc (cO n0 1 [.ref a0, .ref a1, .ref a2, .ref a3, .ref a4, .ref a5, .ref a6, .ref a7, .ref a8, .ref a9, .int (nI E), .int (nI Ac)]) (wc (cA a3 cZ 60 th) (wc (cA a5 cI 100 fr) (wc (cA a6 cI 100 to) wN))))) H := hP
    have hD : va_D A (wc (cA a8 cZ 100 ke) (wc (cO n0 1 [.ref a0, .ref a1, .ref a2, .ref a3, .ref a4, .ref a5, .ref a6, .ref a7, .ref a8, .ref a9, .int (nI E), .int (nI Ac)]) (wc (cA a3 cZ 60 th) (wc (cA a5 cI 100 fr) (wc (cA a6 cI 100 to) wN))))) := hD
    rcases hw_11 with ⟨rfl, hf_11⟩ | ⟨rfl, hf_11⟩
    · refine lv_if_eq (tgt := 21) hx hb dX1_holds_14 (by decide) (fun c_14 => absurd c_14 (by decide)) (fun c_14 => ?_)
      refine lv_iconst (v := 1) hx hb dX1_holds_17 (by decide) ?_
      refine lv_goto (tgt := 22) hx hb dX1_holds_18 (by decide) ?_
      exact en_z () hx hb hr hlocks hK (hP.sub [1, 2, 3, 4, 0] rfl) (hD.sub [1, 2, 3, 4, 0] (by decide) rfl) hS (Nat.le_of_ble_eq_true rfl) (Nat.le_of_ble_eq_true rfl) dX1_holds_22 rfl (Or.inl ⟨rfl, by first | exact hd_1 c_6 hf_11.1 hf_11.2 | exact hd_0 c_6 | exact hd_n hf_11⟩)
    · refine lv_if_eq (tgt := 21) hx hb dX1_holds_14 (by decide) (fun c_14 => ?_) (fun c_14 => absurd (by decide) c_14)
      refine lv_iconst (v := 0) hx hb dX1_holds_21 (by decide) ?_
      exact en_z () hx hb hr hlocks hK (hP.sub [1, 2, 3, 4, 0] rfl) (hD.sub [1, 2, 3, 4, 0] (by decide) rfl) hS (Nat.le_of_ble_eq_true rfl) (Nat.le_of_ble_eq_true rfl) dX1_holds_22 rfl (Or.inr ⟨rfl, by first | exact hd_1 c_6 hf_11.1 hf_11.2 | exact hd_0 c_6 | exact hd_n hf_11⟩)
theorem ob_1 {x y : Int32} (h : ¬ x < y) : y ≤ x := by rw [Int32.le_iff_toInt_le]; rw [Int32.lt_iff_toInt_lt] at h; omega
theorem ob_0 {x y : Int32} (h : x < y) : ¬ y ≤ x := by rw [Int32.le_iff_toInt_le]; rw [Int32.lt_iff_toInt_lt] at h; omega
set_option maxHeartbeats 300000 in
set_option maxRecDepth 100000 in
theorem c_slack (l : Launch) (D : va_G) (cI cZ cR : ClassId) (n0 : Nat) (a0 : Nat) (a1 : Nat) (a2 : Nat) (a3 : Nat) (a4 : Nat) (a5 : Nat) (a6 : Nat) (a7 : Nat) (a8 : Nat) (a9 : Nat) (E : Nat) (Ac : Nat) (pl : Nat → Int32) (fr : Nat → Int32) (to : Nat → Int32) (le : Nat → Int32) (e0 : Int32) (hE : E ≤ 60) (hAc : Ac ≤ 100) (hfr : ∀ i, i < Ac → vp_in (fr i) E) (hto : ∀ i, i < Ac → vp_in (to i) E) (hx0 : vp_in e0 Ac) : CI l D cI cZ cR yX1_slack wsX1_slack { frames := 0, cells := 0, slots := 0, locals := 0 } [.ref n0, .int e0] (wc (cO n0 1 [.ref a0, .ref a1, .ref a2, .ref a3, .ref a4, .ref a5, .ref a6, .ref a7, .ref a8, .ref a9, .int (nI E), .int (nI Ac)]) (wc (cA a1 cI 60 pl) (wc (cA a5 cI 100 fr) (wc (cA a6 cI 100 to) (wc (cA a7 cI 100 le) wN))))) (fun (r : Int32) (u : Unit) => r = pl (to e0.toNatClampNeg).toNatClampNeg - pl (fr e0.toNatClampNeg).toNatClampNeg - le e0.toNatClampNeg) (fun (u : Unit) => (wc (cO n0 1 [.ref a0, .ref a1, .ref a2, .ref a3, .ref a4, .ref a5, .ref a6, .ref a7, .ref a8, .ref a9, .int (nI E), .int (nI Ac)]) (wc (cA a1 cI 60 pl) (wc (cA a5 cI 100 fr) (wc (cA a6 cI 100 to) (wc (cA a7 cI 100 le) wN)))))) := by
  intro sz9
  refine en_W (Qc := fun A => va_Qi (fun (r : Int32) (u : Unit) => r = pl (to e0.toNatClampNeg).toNatClampNeg - pl (fr e0.toNatClampNeg).toNatClampNeg - le e0.toNatClampNeg) (sB D cI cZ cR (fun (u : Unit) => (wc (cO n0 1 [.ref a0, .ref a1, .ref a2, .ref a3, .ref a4, .ref a5, .ref a6, .ref a7, .ref a8, .ref a9, .int (nI E), .int (nI Ac)]) (wc (cA a1 cI 60 pl) (wc (cA a5 cI 100 fr) (wc (cA a6 cI 100 to) (wc (cA a7 cI 100 le) wN)))))) A) A) (cc := cX1_slack) (maxL := 2) (ret := (some .int)) (by decide) rfl (Nat.le_of_ble_eq_true rfl) ?_
  intro p e s m below meth c A ls hx hb hr hts hown hlocks hin hml hK hP hD hS hA hl
  have hown : s.vm.findClass RX1 = some m.cls := hown
  have hl : lv_has ls 2 [(0, .ref n0), (1, .int e0)] := hl
  have kw_0 := hts (.fieldLink RX1 15 "DelayDesk$Net" "plan" "[I") (List.mem_of_getElem? (i := 1) rfl)
  have iX1 : ∀ w ∈ u_ws RX1 TX1 12, w ∈ wsX1_slack := fun _ h9 => (List.mem_cons_of_mem _ (List.mem_append_right _ h9))
  have kw_2 := hts (.fieldLink RX1 31 "DelayDesk$Net" "to" "[I") (List.mem_of_getElem? (i := 2) rfl)
  have kw_3 := hts (.fieldLink RX1 28 "DelayDesk$Net" "from" "[I") (List.mem_of_getElem? (i := 3) rfl)
  have kw_4 := hts (.fieldLink RX1 34 "DelayDesk$Net" "least" "[I") (List.mem_of_getElem? (i := 4) rfl)
  refine lv_aload_n hx hb dX1_slack_0 rfl (lv_at hl 0 rfl) ?_
  refine va_get (D := D) (ci := 1) (v := .ref a1) (C := RX1) (T := TX1) (N := 12) hx hb hts iX1 hown hK.1 hP 0 rfl rfl 1 (by decide) kw_0 (fun _ h9 => h9) rfl dX1_slack_1 ?_
  refine lv_aload_n hx hb dX1_slack_4 rfl (lv_at hl 0 rfl) ?_
  refine va_get (D := D) (ci := 1) (v := .ref a6) (C := RX1) (T := TX1) (N := 12) hx hb hts iX1 hown hK.1 hP 0 rfl rfl 6 (by decide) kw_2 (fun _ h9 => h9) rfl dX1_slack_5 ?_
  refine lv_iload_n hx hb dX1_slack_8 rfl (lv_at hl 1 rfl) ?_
  refine va_iald hx hb hK.1 hP 3 0 rfl rfl (by first | with_reducible assumption | exact vp_le (by with_reducible assumption) (by omega)) dX1_slack_9 ?_
  have f_9 : vp_in (to e0.toNatClampNeg) E := hto _ (vp_lt (by with_reducible assumption))
  refine va_iald hx hb hK.1 hP 1 0 rfl rfl (by first | with_reducible assumption | exact vp_le (by with_reducible assumption) (by omega)) dX1_slack_10 ?_
  refine lv_aload_n hx hb dX1_slack_11 rfl (lv_at hl 0 rfl) ?_
  refine va_get (D := D) (ci := 1) (v := .ref a1) (C := RX1) (T := TX1) (N := 12) hx hb hts iX1 hown hK.1 hP 0 rfl rfl 1 (by decide) kw_0 (fun _ h9 => h9) rfl dX1_slack_12 ?_
  refine lv_aload_n hx hb dX1_slack_15 rfl (lv_at hl 0 rfl) ?_
  refine va_get (D := D) (ci := 1) (v := .ref a5) (C := RX1) (T := TX1) (N := 12) hx hb hts iX1 hown hK.1 hP 0 rfl rfl 5 (by decide) kw_3 (fun _ h9 => h9) rfl dX1_slack_16 ?_
  refine lv_iload_n hx hb dX1_slack_19 rfl (lv_at hl 1 rfl) ?_
  refine va_iald hx hb hK.1 hP 2 0 rfl rfl (by first | with_reducible assumption | exact vp_le (by with_reducible assumption) (by omega)) dX1_slack_20 ?_
  have f_20 : vp_in (fr e0.toNatClampNeg) E := hfr _ (vp_lt (by with_reducible assumption))
  refine va_iald hx hb hK.1 hP 1 0 rfl rfl (by first | with_reducible assumption | exact vp_le (by with_reducible assumption) (by omega)) dX1_slack_21 ?_
  refine lv_isub hx hb dX1_slack_22 ?_
  refine lv_aload_n hx hb dX1_slack_23 rfl (lv_at hl 0 rfl) ?_
  refine va_get (D := D) (ci := 1) (v := .ref a7) (C := RX1) (T := TX1) (N := 12) hx hb hts iX1 hown hK.1 hP 0 rfl rfl 7 (by decide) kw_4 (fun _ h9 => h9) rfl dX1_slack_24 ?_
  refine lv_iload_n hx hb dX1_slack_27 rfl (lv_at hl 1 rfl) ?_
  refine va_iald hx hb hK.1 hP 4 0 rfl rfl (by first | with_reducible assumption | exact vp_le (by with_reducible assumption) (by omega)) dX1_slack_28 ?_
  refine lv_isub hx hb dX1_slack_29 ?_
  exact en_i (()) hx hb hr hlocks hK (hP.sub [0, 1, 2, 3, 4] rfl) (hD.sub [0, 1, 2, 3, 4] (by decide) rfl) hS (Nat.le_of_ble_eq_true rfl) (Nat.le_of_ble_eq_true rfl) dX1_slack_30 (rfl)
set_option maxHeartbeats 300000 in
set_option maxRecDepth 100000 in
theorem c_isObeyed (l : Launch) (D : va_G) (cI cZ cR : ClassId) (n0 : Nat) (a0 : Nat) (a1 : Nat) (a2 : Nat) (a3 : Nat) (a4 : Nat) (a5 : Nat) (a6 : Nat) (a7 : Nat) (a8 : Nat) (a9 : Nat) (E : Nat) (Ac : Nat) (w0 : Nat) (fr : Nat → Int32) (to : Nat → Int32) (le : Nat → Int32) (rw : Nat → Int32) (e0 : Int32) (hE : E ≤ 60) (hAc : Ac ≤ 100) (hfr : ∀ i, i < Ac → vp_in (fr i) E) (hto : ∀ i, i < Ac → vp_in (to i) E) (hx0 : vp_in e0 Ac) : CI l D cI cZ cR yX1_isObeyed wsX1_isObeyed { frames := 0, cells := 0, slots := 0, locals := 0 } [.ref n0, .int e0, .ref w0] (wc (cO n0 1 [.ref a0, .ref a1, .ref a2, .ref a3, .ref a4, .ref a5, .ref a6, .ref a7, .ref a8, .ref a9, .int (nI E), .int (nI Ac)]) (wc (cA a5 cI 100 fr) (wc (cA a6 cI 100 to) (wc (cA a7 cI 100 le) (wc (cA w0 cI 60 rw) wN))))) (fun (r : Int32) (u : Unit) => (r = 1 ∧ rw (fr e0.toNatClampNeg).toNatClampNeg + le e0.toNatClampNeg ≤ rw (to e0.toNatClampNeg).toNatClampNeg) ∨ (r = 0 ∧ ¬ rw (fr e0.toNatClampNeg).toNatClampNeg + le e0.toNatClampNeg ≤ rw (to e0.toNatClampNeg).toNatClampNeg)) (fun (u : Unit) => (wc (cO n0 1 [.ref a0, .ref a1, .ref a2, .ref a3, .ref a4, .ref a5, .ref a6, .ref a7, .ref a8, .ref a9, .int (nI E), .int (nI Ac)]) (wc (cA a5 cI 100 fr) (wc (cA a6 cI 100 to) (wc (cA a7 cI 100 le) (wc (cA w0 cI 60 rw) wN)))))) := by
  intro sz9
  refine en_W (Qc := fun A => va_Qi (fun (r : Int32) (u : Unit) => (r = 1 ∧ rw (fr e0.toNatClampNeg).toNatClampNeg + le e0.toNatClampNeg ≤ rw (to e0.toNatClampNeg).toNatClampNeg) ∨ (r = 0 ∧ ¬ rw (fr e0.toNatClampNeg).toNatClampNeg + le e0.toNatClampNeg ≤ rw (to e0.toNatClampNeg).toNatClampNeg)) (sB D cI cZ cR (fun (u : Unit) => (wc (cO n0 1 [.ref a0, .ref a1, .ref a2, .ref a3, .ref a4, .ref a5, .ref a6, .ref a7, .ref a8, .ref a9, .int (nI E), .int (nI Ac)]) (wc (cA a5 cI 100 fr) (wc (cA a6 cI 100 to) (wc (cA a7 cI 100 le) (wc (cA w0 cI 60 rw) wN)))))) A) A) (cc := cX1_isObeyed) (maxL := 3) (ret := (some .boolean)) (by decide) rfl (Nat.le_of_ble_eq_true rfl) ?_
  intro p e s m below meth c A ls hx hb hr hts hown hlocks hin hml hK hP hD hS hA hl
  have hown : s.vm.findClass RX1 = some m.cls := hown
  have hl : lv_has ls 3 [(0, .ref n0), (1, .int e0), (2, .ref w0)] := hl
  have kw_0 := hts (.fieldLink RX1 31 "DelayDesk$Net" "to" "[I") (List.mem_of_getElem? (i := 1) rfl)
  have iX1 : ∀ w ∈ u_ws RX1 TX1 12, w ∈ wsX1_isObeyed := fun _ h9 => (List.mem_cons_of_mem _ (List.mem_append_right _ h9))
  have kw_2 := hts (.fieldLink RX1 28 "DelayDesk$Net" "from" "[I") (List.mem_of_getElem? (i := 2) rfl)
  have kw_3 := hts (.fieldLink RX1 34 "DelayDesk$Net" "least" "[I") (List.mem_of_getElem? (i := 3) rfl)
  refine lv_aload_n hx hb dX1_isObeyed_0 rfl (lv_at hl 2 rfl) ?_
  refine lv_aload_n hx hb dX1_isObeyed_1 rfl (lv_at hl 0 rfl) ?_
  refine va_get (D := D) (ci := 1) (v := .ref a6) (C := RX1) (T := TX1) (N := 12) hx hb hts iX1 hown hK.1 hP 0 rfl rfl 6 (by decide) kw_0 (fun _ h9 => h9) rfl dX1_isObeyed_2 ?_
  refine lv_iload_n hx hb dX1_isObeyed_5 rfl (lv_at hl 1 rfl) ?_
  refine va_iald hx hb hK.1 hP 2 0 rfl rfl (by first | with_reducible assumption | exact vp_le (by with_reducible assumption) (by omega)) dX1_isObeyed_6 ?_
  have f_6 : vp_in (to e0.toNatClampNeg) E := hto _ (vp_lt (by with_reducible assumption))
  refine va_iald hx hb hK.1 hP 4 0 rfl rfl (by first | with_reducible assumption | exact vp_le (by with_reducible assumption) (by omega)) dX1_isObeyed_7 ?_
  refine lv_aload_n hx hb dX1_isObeyed_8 rfl (lv_at hl 2 rfl) ?_
  refine lv_aload_n hx hb dX1_isObeyed_9 rfl (lv_at hl 0 rfl) ?_
  refine va_get (D := D) (ci := 1) (v := .ref a5) (C := RX1) (T := TX1) (N := 12) hx hb hts iX1 hown hK.1 hP 0 rfl rfl 5 (by decide) kw_2 (fun _ h9 => h9) rfl dX1_isObeyed_10 ?_
  refine lv_iload_n hx hb dX1_isObeyed_13 rfl (lv_at hl 1 rfl) ?_
  refine va_iald hx hb hK.1 hP 1 0 rfl rfl (by first | with_reducible assumption | exact vp_le (by with_reducible assumption) (by omega)) dX1_isObeyed_14 ?_
  have f_14 : vp_in (fr e0.toNatClampNeg) E := hfr _ (vp_lt (by with_reducible assumption))
  refine va_iald hx hb hK.1 hP 4 0 rfl rfl (by first | with_reducible assumption | exact vp_le (by with_reducible assumption) (by omega)) dX1_isObeyed_15 ?_
  refine lv_aload_n hx hb dX1_isObeyed_16 rfl (lv_at hl 0 rfl) ?_
  refine va_get (D := D) (ci := 1) (v := .ref a7) (C := RX1) (T := TX1) (N := 12) hx hb hts iX1 hown hK.1 hP 0 rfl rfl 7 (by decide) kw_3 (fun _ h9 => h9) rfl dX1_isObeyed_17 ?_
  refine lv_iload_n hx hb dX1_isObeyed_20 rfl (lv_at hl 1 rfl) ?_
  refine va_iald hx hb hK.1 hP 3 0 rfl rfl (by first | with_reducible assumption | exact vp_le (by with_reducible assumption) (by omega)) dX1_isObeyed_21 ?_
  refine lv_iadd hx hb dX1_isObeyed_22 ?_
  refine lv_icmp_lt (tgt := 30) hx hb dX1_isObeyed_23 (by decide) (fun c_23 => ?_) (fun c_23 => ?_)
  · refine lv_iconst (v := 0) hx hb dX1_isObeyed_30 (by decide) ?_
    exact en_z () hx hb hr hlocks hK (hP.sub [0, 1, 2, 3, 4] rfl) (hD.sub [0, 1, 2, 3, 4] (by decide) rfl) hS (Nat.le_of_ble_eq_true rfl) (Nat.le_of_ble_eq_true rfl) dX1_isObeyed_31 rfl (Or.inr ⟨rfl, by first | exact ob_1 c_23 | exact ob_0 c_23⟩)
  · refine lv_iconst (v := 1) hx hb dX1_isObeyed_26 (by decide) ?_
    refine lv_goto (tgt := 31) hx hb dX1_isObeyed_27 (by decide) ?_
    exact en_z () hx hb hr hlocks hK (hP.sub [0, 1, 2, 3, 4] rfl) (hD.sub [0, 1, 2, 3, 4] (by decide) rfl) hS (Nat.le_of_ble_eq_true rfl) (Nat.le_of_ble_eq_true rfl) dX1_isObeyed_31 rfl (Or.inl ⟨rfl, by first | exact ob_1 c_23 | exact ob_0 c_23⟩)
set_option maxHeartbeats 300000 in
set_option maxRecDepth 100000 in
theorem lp_keptChanges {p : Program} {e : Env} {s : State} {m : MethodId} {args : Array Value} {below : List Frame} {meth : Method} {c : Code} {A : Nat → Prop} {Q : State → Prop} (l : Launch) (D : va_G) (cI cZ cR : ClassId) (n0 : Nat) (a0 : Nat) (a1 : Nat) (a2 : Nat) (a3 : Nat) (a4 : Nat) (a5 : Nat) (a6 : Nat) (a7 : Nat) (a8 : Nat) (a9 : Nat) (E : Nat) (Ac : Nat) (ki : Nat → Int32) (ke : Nat → Int32) (hAc : Ac ≤ 100) (hx : p.tables.exec = Jvm.exec) (hb : c.code = cX1_keptChanges) (hts : ∀ w ∈ wsX1_keptChanges, w.before args s = true) (hown : s.vm.findClass RX1 = some m.cls) (hml : c.maxLocals = 3) (hK : kK D cI cZ cR s) (hA : ∀ q : Nat, s.heap.size ≤ q → A q) (kx_40 : ∀ (k : Nat) (z : Int32), (k ≤ Ac) → (z = kAd (kcP ki ke) (fun _ => 1) k) → (Ac ≤ k) → ∀ (H : Heap) (locs : List Loc) (ls : Array Slot), va_P D vwCl (wc (cO n0 1 [.ref a0, .ref a1, .ref a2, .ref a3, .ref a4, .ref a5, .ref a6, .ref a7, .ref a8, .ref a9, .int (nI E), .int (nI Ac)]) (wc (cA a4 cI 100 ki) (wc (cA a8 cZ 100 ke) wN))) H → va_D A (wc (cO n0 1 [.ref a0, .ref a1, .ref a2, .ref a3, .ref a4, .ref a5, .ref a6, .ref a7, .ref a8, .ref a9, .int (nI E), .int (nI Ac)]) (wc (cA a4 cI 100 ki) (wc (cA a8 cZ 100 ke) wN))) → va_S A s.heap H locs → lv_has ls 3 [(2, .int (nI k)), (0, .ref n0), (1, .int z)] → W p l e { frames := 0, cells := 0, slots := 0, locals := 0 } s m args below meth c H locs 0 0 Q (F0 m 40 ls [])) : ∀ (n : Nat) (k : Nat) (z : Int32), (k ≤ Ac) → (z = kAd (kcP ki ke) (fun _ => 1) k) → Ac - k < n → ∀ (H : Heap) (locs : List Loc) (ls : Array Slot), va_P D vwCl (wc (cO n0 1 [.ref a0, .ref a1, .ref a2, .ref a3, .ref a4, .ref a5, .ref a6, .ref a7, .ref a8, .ref a9, .int (nI E), .int (nI Ac)]) (wc (cA a4 cI 100 ki) (wc (cA a8 cZ 100 ke) wN))) H → va_D A (wc (cO n0 1 [.ref a0, .ref a1, .ref a2, .ref a3, .ref a4, .ref a5, .ref a6, .ref a7, .ref a8, .ref a9, .int (nI E), .int (nI Ac)]) (wc (cA a4 cI 100 ki) (wc (cA a8 cZ 100 ke) wN))) → va_S A s.heap H locs → lv_has ls 3 [(2, .int (nI k)), (0, .ref n0), (1, .int z)] → W p l e { frames := 0, cells := 0, slots := 0, locals := 0 } s m args below meth c H locs 0 0 Q (F0 m 4 ls []) := by
  have kw_0 := hts (.fieldLink RX1 47 "DelayDesk$Net" "activities" "I") (List.mem_of_getElem? (i := 1) rfl)
  have iX1 : ∀ w ∈ u_ws RX1 TX1 12, w ∈ wsX1_keptChanges := fun _ h9 => (List.mem_cons_of_mem _ (List.mem_append_right _ h9))
  have kw_2 := hts (.fieldLink RX1 25 "DelayDesk$Net" "kind" "[I") (List.mem_of_getElem? (i := 2) rfl)
  have kw_3 := hts (.fieldLink RX1 37 "DelayDesk$Net" "kept" "[Z") (List.mem_of_getElem? (i := 3) rfl)
  intro n
  induction n with
  | zero =>
    intro k z hk hz hm
    exact absurd hm (Nat.not_lt_zero _)
  | succ n ih =>
    intro k z hk hz hm H locs ls hP hD hS hl
    refine lv_iload_n hx hb dX1_keptChanges_4 rfl (lv_at hl 0 rfl) ?_
    refine lv_aload_n hx hb dX1_keptChanges_5 rfl (lv_at hl 1 rfl) ?_
    refine va_get (D := D) (ci := 1) (v := .int (nI Ac)) (C := RX1) (T := TX1) (N := 12) hx hb hts iX1 hown hK.1 hP 0 rfl rfl 11 (by decide) kw_0 (fun _ h9 => h9) rfl dX1_keptChanges_6 ?_
    refine lv_icmp_ge (tgt := 40) hx hb dX1_keptChanges_9 (by decide) (fun c_9 => ?_) (fun c_9 => ?_)
    · have g_9 : Ac ≤ k := (nI_leI (a := Ac) (b := k) (by omega) (by omega)).mp c_9
      exact kx_40 k z (by first | with_reducible assumption | omega | exact vp_le (by with_reducible assumption) (by omega) | (intros; omega)) ((by first | exact hz | exact ad_1 hz (cp_1 c_19 c_28) | exact ad_0 hz (cp_0 c_19) | exact ad_0 hz (cp_00 c_28) | rfl)) (by first | with_reducible assumption | omega | exact vp_le (by with_reducible assumption) (by omega) | (intros; omega)) _ _ _ (hP.sub [0, 1, 2] rfl) (hD.sub [0, 1, 2] (by decide) rfl) hS (lv_sub hl [0, 1, 2] rfl)
    · have g_9 : k < Ac := Nat.not_le.mp (fun q => c_9 ((nI_leI (a := Ac) (b := k) (by omega) (by omega)).mpr q))
      refine lv_aload_n hx hb dX1_keptChanges_12 rfl (lv_at hl 1 rfl) ?_
      refine va_get (D := D) (ci := 1) (v := .ref a4) (C := RX1) (T := TX1) (N := 12) hx hb hts iX1 hown hK.1 hP 0 rfl rfl 4 (by decide) kw_2 (fun _ h9 => h9) rfl dX1_keptChanges_13 ?_
      refine lv_iload_n hx hb dX1_keptChanges_16 rfl (lv_at hl 0 rfl) ?_
      refine ra_I hx hb hK hP 1 rfl (k := k) (by omega) (by decide) dX1_keptChanges_17 ?_
      refine lv_iconst (v := 2) hx hb dX1_keptChanges_18 (by decide) ?_
      refine lv_icmp_ne (tgt := 34) hx hb dX1_keptChanges_19 (by decide) (fun c_19 => ?_) (fun c_19 => ?_)
      · refine lv_iinc (v := (nI (k + 1))) (lv' := [(2, .int (nI (k + 1))), (0, .ref n0), (1, .int z)]) hx hb dX1_keptChanges_34 hl (k := 0) rfl (nI_1 _) (by decide) rfl (fun ls hl => ?_)
        refine lv_goto (tgt := 4) hx hb dX1_keptChanges_37 (by decide) ?_
        exact ih (k + 1) z (by first | with_reducible assumption | omega | exact vp_le (by with_reducible assumption) (by omega) | (intros; omega)) ((by first | exact hz | exact ad_1 hz (cp_1 c_19 c_28) | exact ad_0 hz (cp_0 c_19) | exact ad_0 hz (cp_00 c_28) | rfl)) (by omega) _ _ _ (hP.sub [0, 1, 2] rfl) (hD.sub [0, 1, 2] (by decide) rfl) hS (lv_sub hl [0, 1, 2] rfl)
      · refine lv_aload_n hx hb dX1_keptChanges_22 rfl (lv_at hl 1 rfl) ?_
        refine va_get (D := D) (ci := 1) (v := .ref a8) (C := RX1) (T := TX1) (N := 12) hx hb hts iX1 hown hK.1 hP 0 rfl rfl 8 (by decide) kw_3 (fun _ h9 => h9) rfl dX1_keptChanges_23 ?_
        refine lv_iload_n hx hb dX1_keptChanges_26 rfl (lv_at hl 0 rfl) ?_
        refine ra_Z hx hb hK hP 2 rfl (k := k) (by omega) (by decide) dX1_keptChanges_27 ?_
        refine lv_if_eq (tgt := 34) hx hb dX1_keptChanges_28 (by decide) (fun c_28 => ?_) (fun c_28 => ?_)
        · refine lv_iinc (v := (nI (k + 1))) (lv' := [(2, .int (nI (k + 1))), (0, .ref n0), (1, .int z)]) hx hb dX1_keptChanges_34 hl (k := 0) rfl (nI_1 _) (by decide) rfl (fun ls hl => ?_)
          refine lv_goto (tgt := 4) hx hb dX1_keptChanges_37 (by decide) ?_
          exact ih (k + 1) z (by first | with_reducible assumption | omega | exact vp_le (by with_reducible assumption) (by omega) | (intros; omega)) ((by first | exact hz | exact ad_1 hz (cp_1 c_19 c_28) | exact ad_0 hz (cp_0 c_19) | exact ad_0 hz (cp_00 c_28) | rfl)) (by omega) _ _ _ (hP.sub [0, 1, 2] rfl) (hD.sub [0, 1, 2] (by decide) rfl) hS (lv_sub hl [0, 1, 2] rfl)
        · refine lv_iinc (v := (z + 1)) (lv' := [(1, .int (z + 1)), (2, .int (nI k)), (0, .ref n0)]) hx hb dX1_keptChanges_31 hl (k := 2) rfl rfl (by decide) rfl (fun ls hl => ?_)
          refine lv_iinc (v := (nI (k + 1))) (lv' := [(2, .int (nI (k + 1))), (1, .int (z + 1)), (0, .ref n0)]) hx hb dX1_keptChanges_34 hl (k := 1) rfl (nI_1 _) (by decide) rfl (fun ls hl => ?_)
          refine lv_goto (tgt := 4) hx hb dX1_keptChanges_37 (by decide) ?_
          exact ih (k + 1) (z + 1) (by first | with_reducible assumption | omega | exact vp_le (by with_reducible assumption) (by omega) | (intros; omega)) ((by first | exact hz | exact ad_1 hz (cp_1 c_19 c_28) | exact ad_0 hz (cp_0 c_19) | exact ad_0 hz (cp_00 c_28) | rfl)) (by omega) _ _ _ (hP.sub [0, 1, 2] rfl) (hD.sub [0, 1, 2] (by decide) rfl) hS (lv_sub hl [0, 2, 1] rfl)
set_option maxHeartbeats 300000 in
set_option maxRecDepth 100000 in
theorem c_keptChanges (l : Launch) (D : va_G) (cI cZ cR : ClassId) (n0 : Nat) (a0 : Nat) (a1 : Nat) (a2 : Nat) (a3 : Nat) (a4 : Nat) (a5 : Nat) (a6 : Nat) (a7 : Nat) (a8 : Nat) (a9 : Nat) (E : Nat) (Ac : Nat) (ki : Nat → Int32) (ke : Nat → Int32) (hAc : Ac ≤ 100) : CI l D cI cZ cR yX1_keptChanges wsX1_keptChanges { frames := 0, cells := 0, slots := 0, locals := 0 } [.ref n0] (wc (cO n0 1 [.ref a0, .ref a1, .ref a2, .ref a3, .ref a4, .ref a5, .ref a6, .ref a7, .ref a8, .ref a9, .int (nI E), .int (nI Ac)]) (wc (cA a4 cI 100 ki) (wc (cA a8 cZ 100 ke) wN))) (fun (r : Int32) (u : Unit) => r = kAd (kcP ki ke) (fun _ => 1) Ac) (fun (u : Unit) => (wc (cO n0 1 [.ref a0, .ref a1, .ref a2, .ref a3, .ref a4, .ref a5, .ref a6, .ref a7, .ref a8, .ref a9, .int (nI E), .int (nI Ac)]) (wc (cA a4 cI 100 ki) (wc (cA a8 cZ 100 ke) wN)))) := by
  intro sz9
  refine en_W (Qc := fun A => va_Qi (fun (r : Int32) (u : Unit) => r = kAd (kcP ki ke) (fun _ => 1) Ac) (sB D cI cZ cR (fun (u : Unit) => (wc (cO n0 1 [.ref a0, .ref a1, .ref a2, .ref a3, .ref a4, .ref a5, .ref a6, .ref a7, .ref a8, .ref a9, .int (nI E), .int (nI Ac)]) (wc (cA a4 cI 100 ki) (wc (cA a8 cZ 100 ke) wN)))) A) A) (cc := cX1_keptChanges) (maxL := 3) (ret := (some .int)) (by decide) rfl (Nat.le_of_ble_eq_true rfl) ?_
  intro p e s m below meth c A ls hx hb hr hts hown hlocks hin hml hK hP hD hS hA hl
  have hown : s.vm.findClass RX1 = some m.cls := hown
  have hl : lv_has ls 3 [(0, .ref n0)] := hl
  refine lv_iconst (v := 0) hx hb dX1_keptChanges_0 (by decide) ?_
  refine lv_istore_n (lv' := [(1, .int 0), (0, .ref n0)]) hx hb dX1_keptChanges_1 rfl hl (by decide) rfl (fun ls hl => ?_)
  refine lv_iconst (v := 0) hx hb dX1_keptChanges_2 (by decide) ?_
  refine lv_istore_n (lv' := [(2, .int 0), (1, .int 0), (0, .ref n0)]) hx hb dX1_keptChanges_3 rfl hl (by decide) rfl (fun ls hl => ?_)
  refine lp_keptChanges l D cI cZ cR n0 a0 a1 a2 a3 a4 a5 a6 a7 a8 a9 E Ac ki ke hAc hx hb hts hown hml hK hA (fun k z hk hz hkE H locs ls hP hD hS hl => ?_) _ 0 0 (by first | with_reducible assumption | omega | exact vp_le (by with_reducible assumption) (by omega) | (intros; omega)) ((by first | exact hz | exact ad_1 hz (cp_1 c_19 c_28) | exact ad_0 hz (cp_0 c_19) | exact ad_0 hz (cp_00 c_28) | rfl)) (Nat.lt_succ_self _) _ _ _ (hP.sub [0, 1, 2] rfl) (hD.sub [0, 1, 2] (by decide) rfl) hS (lv_sub hl [0, 2, 1] rfl)
  refine lv_iload_n hx hb dX1_keptChanges_40 rfl (lv_at hl 2 rfl) ?_
  exact en_i (()) hx hb hr hlocks hK (hP.sub [0, 1, 2] rfl) (hD.sub [0, 1, 2] (by decide) rfl) hS (Nat.le_of_ble_eq_true rfl) (Nat.le_of_ble_eq_true rfl) dX1_keptChanges_41 (by rw [show Ac = k by omega]; exact hz)
set_option maxHeartbeats 300000 in
set_option maxRecDepth 100000 in
theorem lp_cancelledTrains {p : Program} {e : Env} {s : State} {m : MethodId} {args : Array Value} {below : List Frame} {meth : Method} {c : Code} {A : Nat → Prop} {Q : State → Prop} (l : Launch) (D : va_G) (cI cZ cR : ClassId) (n0 : Nat) (a0 : Nat) (a1 : Nat) (a2 : Nat) (a3 : Nat) (a4 : Nat) (a5 : Nat) (a6 : Nat) (a7 : Nat) (a8 : Nat) (a9 : Nat) (E : Nat) (Ac : Nat) (ca : Nat → Int32) (hx : p.tables.exec = Jvm.exec) (hb : c.code = cX1_cancelledTrains) (hts : ∀ w ∈ wsX1_cancelledTrains, w.before args s = true) (hown : s.vm.findClass RX1 = some m.cls) (hml : c.maxLocals = 3) (hK : kK D cI cZ cR s) (hA : ∀ q : Nat, s.heap.size ≤ q → A q) (kx_28 : ∀ (k : Nat) (z : Int32), (k ≤ 16) → (z = kAd (kcX ca) (fun _ => 1) k) → (16 ≤ k) → ∀ (H : Heap) (locs : List Loc) (ls : Array Slot), va_P D vwCl (wc (cO n0 1 [.ref a0, .ref a1, .ref a2, .ref a3, .ref a4, .ref a5, .ref a6, .ref a7, .ref a8, .ref a9, .int (nI E), .int (nI Ac)]) (wc (cA a9 cZ 16 ca) wN)) H → va_D A (wc (cO n0 1 [.ref a0, .ref a1, .ref a2, .ref a3, .ref a4, .ref a5, .ref a6, .ref a7, .ref a8, .ref a9, .int (nI E), .int (nI Ac)]) (wc (cA a9 cZ 16 ca) wN)) → va_S A s.heap H locs → lv_has ls 3 [(2, .int (nI k)), (0, .ref n0), (1, .int z)] → W p l e { frames := 0, cells := 0, slots := 0, locals := 0 } s m args below meth c H locs 0 0 Q (F0 m 28 ls [])) : ∀ (n : Nat) (k : Nat) (z : Int32), (k ≤ 16) → (z = kAd (kcX ca) (fun _ => 1) k) → 16 - k < n → ∀ (H : Heap) (locs : List Loc) (ls : Array Slot), va_P D vwCl (wc (cO n0 1 [.ref a0, .ref a1, .ref a2, .ref a3, .ref a4, .ref a5, .ref a6, .ref a7, .ref a8, .ref a9, .int (nI E), .int (nI Ac)]) (wc (cA a9 cZ 16 ca) wN)) H → va_D A (wc (cO n0 1 [.ref a0, .ref a1, .ref a2, .ref a3, .ref a4, .ref a5, .ref a6, .ref a7, .ref a8, .ref a9, .int (nI E), .int (nI Ac)]) (wc (cA a9 cZ 16 ca) wN)) → va_S A s.heap H locs → lv_has ls 3 [(2, .int (nI k)), (0, .ref n0), (1, .int z)] → W p l e { frames := 0, cells := 0, slots := 0, locals := 0 } s m args below meth c H locs 0 0 Q (F0 m 4 ls []) := by
  have kw_0 := hts (.fieldLink RX1 40 "DelayDesk$Net" "cancelled" "[Z") (List.mem_of_getElem? (i := 1) rfl)
  have iX1 : ∀ w ∈ u_ws RX1 TX1 12, w ∈ wsX1_cancelledTrains := fun _ h9 => (List.mem_cons_of_mem _ (List.mem_append_right _ h9))
  intro n
  induction n with
  | zero =>
    intro k z hk hz hm
    exact absurd hm (Nat.not_lt_zero _)
  | succ n ih =>
    intro k z hk hz hm H locs ls hP hD hS hl
    refine lv_iload_n hx hb dX1_cancelledTrains_4 rfl (lv_at hl 0 rfl) ?_
    refine lv_bipush (v := 16) hx hb dX1_cancelledTrains_5 (by decide) ?_
    refine lv_icmp_ge (tgt := 28) hx hb dX1_cancelledTrains_7 (by decide) (fun c_7 => ?_) (fun c_7 => ?_)
    · have g_7 : 16 ≤ k := (nI_leI (a := 16) (b := k) (by omega) (by omega)).mp c_7
      exact kx_28 k z (by first | with_reducible assumption | omega | exact vp_le (by with_reducible assumption) (by omega) | (intros; omega)) ((by first | exact hz | exact ad_1 hz (cx_1 c_16) | exact ad_0 hz (cx_0 c_16) | rfl)) (by first | with_reducible assumption | omega | exact vp_le (by with_reducible assumption) (by omega) | (intros; omega)) _ _ _ (hP.sub [0, 1] rfl) (hD.sub [0, 1] (by decide) rfl) hS (lv_sub hl [0, 1, 2] rfl)
    · have g_7 : k < 16 := Nat.not_le.mp (fun q => c_7 ((nI_leI (a := 16) (b := k) (by omega) (by omega)).mpr q))
      refine lv_aload_n hx hb dX1_cancelledTrains_10 rfl (lv_at hl 1 rfl) ?_
      refine va_get (D := D) (ci := 1) (v := .ref a9) (C := RX1) (T := TX1) (N := 12) hx hb hts iX1 hown hK.1 hP 0 rfl rfl 9 (by decide) kw_0 (fun _ h9 => h9) rfl dX1_cancelledTrains_11 ?_
      refine lv_iload_n hx hb dX1_cancelledTrains_14 rfl (lv_at hl 0 rfl) ?_
      refine ra_Z hx hb hK hP 1 rfl (k := k) (by omega) (by decide) dX1_cancelledTrains_15 ?_
      refine lv_if_eq (tgt := 22) hx hb dX1_cancelledTrains_16 (by decide) (fun c_16 => ?_) (fun c_16 => ?_)
      · refine lv_iinc (v := (nI (k + 1))) (lv' := [(2, .int (nI (k + 1))), (0, .ref n0), (1, .int z)]) hx hb dX1_cancelledTrains_22 hl (k := 0) rfl (nI_1 _) (by decide) rfl (fun ls hl => ?_)
        refine lv_goto (tgt := 4) hx hb dX1_cancelledTrains_25 (by decide) ?_
        exact ih (k + 1) z (by first | with_reducible assumption | omega | exact vp_le (by with_reducible assumption) (by omega) | (intros; omega)) ((by first | exact hz | exact ad_1 hz (cx_1 c_16) | exact ad_0 hz (cx_0 c_16) | rfl)) (by omega) _ _ _ (hP.sub [0, 1] rfl) (hD.sub [0, 1] (by decide) rfl) hS (lv_sub hl [0, 1, 2] rfl)
      · refine lv_iinc (v := (z + 1)) (lv' := [(1, .int (z + 1)), (2, .int (nI k)), (0, .ref n0)]) hx hb dX1_cancelledTrains_19 hl (k := 2) rfl rfl (by decide) rfl (fun ls hl => ?_)
        refine lv_iinc (v := (nI (k + 1))) (lv' := [(2, .int (nI (k + 1))), (1, .int (z + 1)), (0, .ref n0)]) hx hb dX1_cancelledTrains_22 hl (k := 1) rfl (nI_1 _) (by decide) rfl (fun ls hl => ?_)
        refine lv_goto (tgt := 4) hx hb dX1_cancelledTrains_25 (by decide) ?_
        exact ih (k + 1) (z + 1) (by first | with_reducible assumption | omega | exact vp_le (by with_reducible assumption) (by omega) | (intros; omega)) ((by first | exact hz | exact ad_1 hz (cx_1 c_16) | exact ad_0 hz (cx_0 c_16) | rfl)) (by omega) _ _ _ (hP.sub [0, 1] rfl) (hD.sub [0, 1] (by decide) rfl) hS (lv_sub hl [0, 2, 1] rfl)
set_option maxHeartbeats 300000 in
set_option maxRecDepth 100000 in
theorem c_cancelledTrains (l : Launch) (D : va_G) (cI cZ cR : ClassId) (n0 : Nat) (a0 : Nat) (a1 : Nat) (a2 : Nat) (a3 : Nat) (a4 : Nat) (a5 : Nat) (a6 : Nat) (a7 : Nat) (a8 : Nat) (a9 : Nat) (E : Nat) (Ac : Nat) (ca : Nat → Int32) : CI l D cI cZ cR yX1_cancelledTrains wsX1_cancelledTrains { frames := 0, cells := 0, slots := 0, locals := 0 } [.ref n0] (wc (cO n0 1 [.ref a0, .ref a1, .ref a2, .ref a3, .ref a4, .ref a5, .ref a6, .ref a7, .ref a8, .ref a9, .int (nI E), .int (nI Ac)]) (wc (cA a9 cZ 16 ca) wN)) (fun (r : Int32) (u : Unit) => r = kAd (kcX ca) (fun _ => 1) 16) (fun (u : Unit) => (wc (cO n0 1 [.ref a0, .ref a1, .ref a2, .ref a3, .ref a4, .ref a5, .ref a6, .ref a7, .ref a8, .ref a9, .int (nI E), .int (nI Ac)]) (wc (cA a9 cZ 16 ca) wN))) := by
  intro sz9
  refine en_W (Qc := fun A => va_Qi (fun (r : Int32) (u : Unit) => r = kAd (kcX ca) (fun _ => 1) 16) (sB D cI cZ cR (fun (u : Unit) => (wc (cO n0 1 [.ref a0, .ref a1, .ref a2, .ref a3, .ref a4, .ref a5, .ref a6, .ref a7, .ref a8, .ref a9, .int (nI E), .int (nI Ac)]) (wc (cA a9 cZ 16 ca) wN))) A) A) (cc := cX1_cancelledTrains) (maxL := 3) (ret := (some .int)) (by decide) rfl (Nat.le_of_ble_eq_true rfl) ?_
  intro p e s m below meth c A ls hx hb hr hts hown hlocks hin hml hK hP hD hS hA hl
  have hown : s.vm.findClass RX1 = some m.cls := hown
  have hl : lv_has ls 3 [(0, .ref n0)] := hl
  refine lv_iconst (v := 0) hx hb dX1_cancelledTrains_0 (by decide) ?_
  refine lv_istore_n (lv' := [(1, .int 0), (0, .ref n0)]) hx hb dX1_cancelledTrains_1 rfl hl (by decide) rfl (fun ls hl => ?_)
  refine lv_iconst (v := 0) hx hb dX1_cancelledTrains_2 (by decide) ?_
  refine lv_istore_n (lv' := [(2, .int 0), (1, .int 0), (0, .ref n0)]) hx hb dX1_cancelledTrains_3 rfl hl (by decide) rfl (fun ls hl => ?_)
  refine lp_cancelledTrains l D cI cZ cR n0 a0 a1 a2 a3 a4 a5 a6 a7 a8 a9 E Ac ca hx hb hts hown hml hK hA (fun k z hk hz hkE H locs ls hP hD hS hl => ?_) _ 0 0 (by first | with_reducible assumption | omega | exact vp_le (by with_reducible assumption) (by omega) | (intros; omega)) ((by first | exact hz | exact ad_1 hz (cx_1 c_16) | exact ad_0 hz (cx_0 c_16) | rfl)) (Nat.lt_succ_self _) _ _ _ (hP.sub [0, 1] rfl) (hD.sub [0, 1] (by decide) rfl) hS (lv_sub hl [0, 2, 1] rfl)
  refine lv_iload_n hx hb dX1_cancelledTrains_28 rfl (lv_at hl 2 rfl) ?_
  exact en_i (()) hx hb hr hlocks hK (hP.sub [0, 1] rfl) (hD.sub [0, 1] (by decide) rfl) hS (Nat.le_of_ble_eq_true rfl) (Nat.le_of_ble_eq_true rfl) dX1_cancelledTrains_29 (by rw [show (16 : Nat) = k by omega]; exact hz)
set_option maxHeartbeats 300000 in
set_option maxRecDepth 100000 in
theorem lp_tightActivities {p : Program} {e : Env} {s : State} {m : MethodId} {args : Array Value} {below : List Frame} {meth : Method} {c : Code} {A : Nat → Prop} {Q : State → Prop} (l : Launch) (D : va_G) (cI cZ cR : ClassId) (n0 : Nat) (a0 : Nat) (a1 : Nat) (a2 : Nat) (a3 : Nat) (a4 : Nat) (a5 : Nat) (a6 : Nat) (a7 : Nat) (a8 : Nat) (a9 : Nat) (E : Nat) (Ac : Nat) (pl : Nat → Int32) (fr : Nat → Int32) (to : Nat → Int32) (le : Nat → Int32) (hE : E ≤ 60) (hAc : Ac ≤ 100) (hfr : ∀ i, i < Ac → vp_in (fr i) E) (hto : ∀ i, i < Ac → vp_in (to i) E) (hx : p.tables.exec = Jvm.exec) (hb : c.code = cX1_tightActivities) (hts : ∀ w ∈ wsX1_tightActivities, w.before args s = true) (hown : s.vm.findClass RX1 = some m.cls) (hml : c.maxLocals = 3) (hK : kK D cI cZ cR s) (hA : ∀ q : Nat, s.heap.size ≤ q → A q) (kx_29 : ∀ (k : Nat) (z : Int32), (k ≤ Ac) → (z = kAd (kcT pl fr to le) (fun _ => 1) k) → (Ac ≤ k) → ∀ (H : Heap) (locs : List Loc) (ls : Array Slot), va_P D vwCl (wc (cO n0 1 [.ref a0, .ref a1, .ref a2, .ref a3, .ref a4, .ref a5, .ref a6, .ref a7, .ref a8, .ref a9, .int (nI E), .int (nI Ac)]) (wc (cA a1 cI 60 pl) (wc (cA a5 cI 100 fr) (wc (cA a6 cI 100 to) (wc (cA a7 cI 100 le) wN))))) H → va_D A (wc (cO n0 1 [.ref a0, .ref a1, .ref a2, .ref a3, .ref a4, .ref a5, .ref a6, .ref a7, .ref a8, .ref a9, .int (nI E), .int (nI Ac)]) (wc (cA a1 cI 60 pl) (wc (cA a5 cI 100 fr) (wc (cA a6 cI 100 to) (wc (cA a7 cI 100 le) wN))))) → va_S A s.heap H locs → lv_has ls 3 [(2, .int (nI k)), (0, .ref n0), (1, .int z)] → W p l e { frames := 1, cells := 0, slots := 0, locals := 21 } s m args below meth c H locs 0 0 Q (F0 m 29 ls [])) : ∀ (n : Nat) (k : Nat) (z : Int32), (k ≤ Ac) → (z = kAd (kcT pl fr to le) (fun _ => 1) k) → Ac - k < n → ∀ (H : Heap) (locs : List Loc) (ls : Array Slot), va_P D vwCl (wc (cO n0 1 [.ref a0, .ref a1, .ref a2, .ref a3, .ref a4, .ref a5, .ref a6, .ref a7, .ref a8, .ref a9, .int (nI E), .int (nI Ac)]) (wc (cA a1 cI 60 pl) (wc (cA a5 cI 100 fr) (wc (cA a6 cI 100 to) (wc (cA a7 cI 100 le) wN))))) H → va_D A (wc (cO n0 1 [.ref a0, .ref a1, .ref a2, .ref a3, .ref a4, .ref a5, .ref a6, .ref a7, .ref a8, .ref a9, .int (nI E), .int (nI Ac)]) (wc (cA a1 cI 60 pl) (wc (cA a5 cI 100 fr) (wc (cA a6 cI 100 to) (wc (cA a7 cI 100 le) wN))))) → va_S A s.heap H locs → lv_has ls 3 [(2, .int (nI k)), (0, .ref n0), (1, .int z)] → W p l e { frames := 1, cells := 0, slots := 0, locals := 21 } s m args below meth c H locs 0 0 Q (F0 m 4 ls []) := by
  have kw_0 := hts (.fieldLink RX1 47 "DelayDesk$Net" "activities" "I") (List.mem_of_getElem? (i := 1) rfl)
  have iX1 : ∀ w ∈ u_ws RX1 TX1 12, w ∈ wsX1_tightActivities := fun _ h9 => (List.mem_cons_of_mem _ (List.mem_append_right _ h9))
  intro n
  induction n with
  | zero =>
    intro k z hk hz hm
    exact absurd hm (Nat.not_lt_zero _)
  | succ n ih =>
    intro k z hk hz hm H locs ls hP hD hS hl
    refine lv_iload_n hx hb dX1_tightActivities_4 rfl (lv_at hl 0 rfl) ?_
    refine lv_aload_n hx hb dX1_tightActivities_5 rfl (lv_at hl 1 rfl) ?_
    refine va_get (D := D) (ci := 1) (v := .int (nI Ac)) (C := RX1) (T := TX1) (N := 12) hx hb hts iX1 hown hK.1 hP 0 rfl rfl 11 (by decide) kw_0 (fun _ h9 => h9) rfl dX1_tightActivities_6 ?_
    refine lv_icmp_ge (tgt := 29) hx hb dX1_tightActivities_9 (by decide) (fun c_9 => ?_) (fun c_9 => ?_)
    · have g_9 : Ac ≤ k := (nI_leI (a := Ac) (b := k) (by omega) (by omega)).mp c_9
      exact kx_29 k z (by first | with_reducible assumption | omega | exact vp_le (by with_reducible assumption) (by omega) | (intros; omega)) ((by first | exact hz | exact ad_1 hz (ct_1 c_17) | exact ad_0 hz (ct_0 c_17) | rfl)) (by first | with_reducible assumption | omega | exact vp_le (by with_reducible assumption) (by omega) | (intros; omega)) _ _ _ (hP.sub [0, 1, 2, 3, 4] rfl) (hD.sub [0, 1, 2, 3, 4] (by decide) rfl) hS (lv_sub hl [0, 1, 2] rfl)
    · have g_9 : k < Ac := Nat.not_le.mp (fun q => c_9 ((nI_leI (a := Ac) (b := k) (by omega) (by omega)).mpr q))
      refine lv_aload_n hx hb dX1_tightActivities_12 rfl (lv_at hl 1 rfl) ?_
      refine lv_iload_n hx hb dX1_tightActivities_13 rfl (lv_at hl 0 rfl) ?_
      refine cl_i (wr := (wN)) (va_runV (As := [.int (nI k)]) (rest := []) ⟨hx, hb, hml, hown, hts⟩ (c_slack l D cI cZ cR n0 a0 a1 a2 a3 a4 a5 a6 a7 a8 a9 E Ac pl fr to le (nI k) (by omega) (by omega) (by with_reducible assumption) (by with_reducible assumption) (vp_in_nI (by omega) (by omega)) H.size) (cwV 1 hts gX1_tightActivities_X1_slack rfl rfl rfl hd_X1_slack ⟨Nat.le_of_ble_eq_true rfl, Nat.le_of_ble_eq_true rfl⟩) (pV 1 0 hK hP hD [0, 1, 2, 3, 4] rfl (by decide) rfl rfl) rfl rfl hl.1 rfl (lv_room (Nat.le_of_ble_eq_true rfl)) dX1_tightActivities_14 ⟨Nat.le_of_ble_eq_true rfl, Nat.le_of_ble_eq_true rfl⟩) hP hD hS hA [0, 1, 2, 3, 4] [] rfl rfl (by decide) (by decide) (fun r_14 u_14 H locs hw_14 hP hD hS => ?_)
      have hP : va_P D vwCl (wc (cO n0 1 [.ref a0, .ref a1, .ref a2, .ref a3, .ref a4, .ref a5, .ref a6, .ref a7, .ref a8, .ref a9, .int (nI E), .int (nI Ac)]) (wc (cA a1 cI 60 pl) (wc (cA a5 cI 100 fr) (wc (cA a6 cI 100 to) (wc (cA a7 cI 100 le) wN))))) H := hP
      have hD : va_D A (wc (cO n0 1 [.ref a0, .ref a1, .ref a2, .ref a3, .ref a4, .ref a5, .ref a6, .ref a7, .ref a8, .ref a9, .int (nI E), .int (nI Ac)]) (wc (cA a1 cI 60 pl) (wc (cA a5 cI 100 fr) (wc (cA a6 cI 100 to) (wc (cA a7 cI 100 le) wN))))) := hD
      refine lv_if_ge (tgt := 23) hx hb dX1_tightActivities_17 (by decide) (fun c_17 => ?_) (fun c_17 => ?_)
      · rw [hw_14, show (nI k).toNatClampNeg = k from nI_clamp (by omega)] at c_17
        refine lv_iinc (v := (nI (k + 1))) (lv' := [(2, .int (nI (k + 1))), (0, .ref n0), (1, .int z)]) hx hb dX1_tightActivities_23 hl (k := 0) rfl (nI_1 _) (by decide) rfl (fun ls hl => ?_)
        refine lv_goto (tgt := 4) hx hb dX1_tightActivities_26 (by decide) ?_
        exact ih (k + 1) z (by first | with_reducible assumption | omega | exact vp_le (by with_reducible assumption) (by omega) | (intros; omega)) ((by first | exact hz | exact ad_1 hz (ct_1 c_17) | exact ad_0 hz (ct_0 c_17) | rfl)) (by omega) _ _ _ (hP.sub [0, 1, 2, 3, 4] rfl) (hD.sub [0, 1, 2, 3, 4] (by decide) rfl) hS (lv_sub hl [0, 1, 2] rfl)
      · rw [hw_14, show (nI k).toNatClampNeg = k from nI_clamp (by omega)] at c_17
        refine lv_iinc (v := (z + 1)) (lv' := [(1, .int (z + 1)), (2, .int (nI k)), (0, .ref n0)]) hx hb dX1_tightActivities_20 hl (k := 2) rfl rfl (by decide) rfl (fun ls hl => ?_)
        refine lv_iinc (v := (nI (k + 1))) (lv' := [(2, .int (nI (k + 1))), (1, .int (z + 1)), (0, .ref n0)]) hx hb dX1_tightActivities_23 hl (k := 1) rfl (nI_1 _) (by decide) rfl (fun ls hl => ?_)
        refine lv_goto (tgt := 4) hx hb dX1_tightActivities_26 (by decide) ?_
        exact ih (k + 1) (z + 1) (by first | with_reducible assumption | omega | exact vp_le (by with_reducible assumption) (by omega) | (intros; omega)) ((by first | exact hz | exact ad_1 hz (ct_1 c_17) | exact ad_0 hz (ct_0 c_17) | rfl)) (by omega) _ _ _ (hP.sub [0, 1, 2, 3, 4] rfl) (hD.sub [0, 1, 2, 3, 4] (by decide) rfl) hS (lv_sub hl [0, 2, 1] rfl)
set_option maxHeartbeats 300000 in
set_option maxRecDepth 100000 in
theorem c_tightActivities (l : Launch) (D : va_G) (cI cZ cR : ClassId) (n0 : Nat) (a0 : Nat) (a1 : Nat) (a2 : Nat) (a3 : Nat) (a4 : Nat) (a5 : Nat) (a6 : Nat) (a7 : Nat) (a8 : Nat) (a9 : Nat) (E : Nat) (Ac : Nat) (pl : Nat → Int32) (fr : Nat → Int32) (to : Nat → Int32) (le : Nat → Int32) (hE : E ≤ 60) (hAc : Ac ≤ 100) (hfr : ∀ i, i < Ac → vp_in (fr i) E) (hto : ∀ i, i < Ac → vp_in (to i) E) : CI l D cI cZ cR yX1_tightActivities wsX1_tightActivities { frames := 1, cells := 0, slots := 0, locals := 21 } [.ref n0] (wc (cO n0 1 [.ref a0, .ref a1, .ref a2, .ref a3, .ref a4, .ref a5, .ref a6, .ref a7, .ref a8, .ref a9, .int (nI E), .int (nI Ac)]) (wc (cA a1 cI 60 pl) (wc (cA a5 cI 100 fr) (wc (cA a6 cI 100 to) (wc (cA a7 cI 100 le) wN))))) (fun (r : Int32) (u : Unit) => r = kAd (kcT pl fr to le) (fun _ => 1) Ac) (fun (u : Unit) => (wc (cO n0 1 [.ref a0, .ref a1, .ref a2, .ref a3, .ref a4, .ref a5, .ref a6, .ref a7, .ref a8, .ref a9, .int (nI E), .int (nI Ac)]) (wc (cA a1 cI 60 pl) (wc (cA a5 cI 100 fr) (wc (cA a6 cI 100 to) (wc (cA a7 cI 100 le) wN)))))) := by
  intro sz9
  refine en_W (Qc := fun A => va_Qi (fun (r : Int32) (u : Unit) => r = kAd (kcT pl fr to le) (fun _ => 1) Ac) (sB D cI cZ cR (fun (u : Unit) => (wc (cO n0 1 [.ref a0, .ref a1, .ref a2, .ref a3, .ref a4, .ref a5, .ref a6, .ref a7, .ref a8, .ref a9, .int (nI E), .int (nI Ac)]) (wc (cA a1 cI 60 pl) (wc (cA a5 cI 100 fr) (wc (cA a6 cI 100 to) (wc (cA a7 cI 100 le) wN)))))) A) A) (cc := cX1_tightActivities) (maxL := 3) (ret := (some .int)) (by decide) rfl (Nat.le_of_ble_eq_true rfl) ?_
  intro p e s m below meth c A ls hx hb hr hts hown hlocks hin hml hK hP hD hS hA hl
  have hown : s.vm.findClass RX1 = some m.cls := hown
  have hl : lv_has ls 3 [(0, .ref n0)] := hl
  refine lv_iconst (v := 0) hx hb dX1_tightActivities_0 (by decide) ?_
  refine lv_istore_n (lv' := [(1, .int 0), (0, .ref n0)]) hx hb dX1_tightActivities_1 rfl hl (by decide) rfl (fun ls hl => ?_)
  refine lv_iconst (v := 0) hx hb dX1_tightActivities_2 (by decide) ?_
  refine lv_istore_n (lv' := [(2, .int 0), (1, .int 0), (0, .ref n0)]) hx hb dX1_tightActivities_3 rfl hl (by decide) rfl (fun ls hl => ?_)
  refine lp_tightActivities l D cI cZ cR n0 a0 a1 a2 a3 a4 a5 a6 a7 a8 a9 E Ac pl fr to le hE hAc hfr hto hx hb hts hown hml hK hA (fun k z hk hz hkE H locs ls hP hD hS hl => ?_) _ 0 0 (by first | with_reducible assumption | omega | exact vp_le (by with_reducible assumption) (by omega) | (intros; omega)) ((by first | exact hz | exact ad_1 hz (ct_1 c_17) | exact ad_0 hz (ct_0 c_17) | rfl)) (Nat.lt_succ_self _) _ _ _ (hP.sub [0, 1, 2, 3, 4] rfl) (hD.sub [0, 1, 2, 3, 4] (by decide) rfl) hS (lv_sub hl [0, 2, 1] rfl)
  refine lv_iload_n hx hb dX1_tightActivities_29 rfl (lv_at hl 2 rfl) ?_
  exact en_i (()) hx hb hr hlocks hK (hP.sub [0, 1, 2, 3, 4] rfl) (hD.sub [0, 1, 2, 3, 4] (by decide) rfl) hS (Nat.le_of_ble_eq_true rfl) (Nat.le_of_ble_eq_true rfl) dX1_tightActivities_30 (by rw [show Ac = k by omega]; exact hz)
set_option maxHeartbeats 300000 in
set_option maxRecDepth 100000 in
theorem lp_putEarliest {p : Program} {e : Env} {s : State} {m : MethodId} {args : Array Value} {below : List Frame} {meth : Method} {c : Code} {A : Nat → Prop} {Q : State → Prop} (l : Launch) (D : va_G) (cI cZ cR : ClassId) (n0 : Nat) (a0 : Nat) (a1 : Nat) (a2 : Nat) (a3 : Nat) (a4 : Nat) (a5 : Nat) (a6 : Nat) (a7 : Nat) (a8 : Nat) (a9 : Nat) (E : Nat) (Ac : Nat) (w0 : Nat) (pl : Nat → Int32) (so : Nat → Int32) (rw : Nat → Int32) (hE : E ≤ 60) (hx : p.tables.exec = Jvm.exec) (hb : c.code = cX1_putEarliest) (hts : ∀ w ∈ wsX1_putEarliest, w.before args s = true) (hown : s.vm.findClass RX1 = some m.cls) (hml : c.maxLocals = 3) (hK : kK D cI cZ cR s) (hA : ∀ q : Nat, s.heap.size ≤ q → A q) (kx_32 : ∀ (k : Nat) (ru : Nat → Int32), (k ≤ E) → (ru = krI k pl so rw) → (E ≤ k) → ∀ (H : Heap) (locs : List Loc) (ls : Array Slot), va_P D vwCl (wc (cO n0 1 [.ref a0, .ref a1, .ref a2, .ref a3, .ref a4, .ref a5, .ref a6, .ref a7, .ref a8, .ref a9, .int (nI E), .int (nI Ac)]) (wc (cA a1 cI 60 pl) (wc (cA a2 cI 60 so) (wc (cA w0 cI 60 ru) wN)))) H → va_D A (wc (cO n0 1 [.ref a0, .ref a1, .ref a2, .ref a3, .ref a4, .ref a5, .ref a6, .ref a7, .ref a8, .ref a9, .int (nI E), .int (nI Ac)]) (wc (cA a1 cI 60 pl) (wc (cA a2 cI 60 so) (wc (cA w0 cI 60 ru) wN)))) → va_S A s.heap H locs → lv_has ls 3 [(2, .int (nI k)), (0, .ref n0), (1, .ref w0)] → W p l e { frames := 0, cells := 0, slots := 0, locals := 0 } s m args below meth c H locs 0 0 Q (F0 m 32 ls [])) : ∀ (n : Nat) (k : Nat) (ru : Nat → Int32), (k ≤ E) → (ru = krI k pl so rw) → E - k < n → ∀ (H : Heap) (locs : List Loc) (ls : Array Slot), va_P D vwCl (wc (cO n0 1 [.ref a0, .ref a1, .ref a2, .ref a3, .ref a4, .ref a5, .ref a6, .ref a7, .ref a8, .ref a9, .int (nI E), .int (nI Ac)]) (wc (cA a1 cI 60 pl) (wc (cA a2 cI 60 so) (wc (cA w0 cI 60 ru) wN)))) H → va_D A (wc (cO n0 1 [.ref a0, .ref a1, .ref a2, .ref a3, .ref a4, .ref a5, .ref a6, .ref a7, .ref a8, .ref a9, .int (nI E), .int (nI Ac)]) (wc (cA a1 cI 60 pl) (wc (cA a2 cI 60 so) (wc (cA w0 cI 60 ru) wN)))) → va_S A s.heap H locs → lv_has ls 3 [(2, .int (nI k)), (0, .ref n0), (1, .ref w0)] → W p l e { frames := 0, cells := 0, slots := 0, locals := 0 } s m args below meth c H locs 0 0 Q (F0 m 2 ls []) := by
  have kw_0 := hts (.fieldLink RX1 43 "DelayDesk$Net" "events" "I") (List.mem_of_getElem? (i := 1) rfl)
  have iX1 : ∀ w ∈ u_ws RX1 TX1 12, w ∈ wsX1_putEarliest := fun _ h9 => (List.mem_cons_of_mem _ (List.mem_append_right _ h9))
  have kw_2 := hts (.fieldLink RX1 15 "DelayDesk$Net" "plan" "[I") (List.mem_of_getElem? (i := 2) rfl)
  have kw_3 := hts (.fieldLink RX1 18 "DelayDesk$Net" "source" "[I") (List.mem_of_getElem? (i := 3) rfl)
  intro n
  induction n with
  | zero =>
    intro k ru hk hru hm
    exact absurd hm (Nat.not_lt_zero _)
  | succ n ih =>
    intro k ru hk hru hm H locs ls hP hD hS hl
    refine lv_iload_n hx hb dX1_putEarliest_2 rfl (lv_at hl 0 rfl) ?_
    refine lv_aload_n hx hb dX1_putEarliest_3 rfl (lv_at hl 1 rfl) ?_
    refine va_get (D := D) (ci := 1) (v := .int (nI E)) (C := RX1) (T := TX1) (N := 12) hx hb hts iX1 hown hK.1 hP 0 rfl rfl 10 (by decide) kw_0 (fun _ h9 => h9) rfl dX1_putEarliest_4 ?_
    refine lv_icmp_ge (tgt := 32) hx hb dX1_putEarliest_7 (by decide) (fun c_7 => ?_) (fun c_7 => ?_)
    · have g_7 : E ≤ k := (nI_leI (a := E) (b := k) (by omega) (by omega)).mp c_7
      exact kx_32 k ru (by first | with_reducible assumption | omega | exact vp_le (by with_reducible assumption) (by omega) | (intros; omega)) ((by first | exact hru | exact krI_s hru | exact krI_0)) (by first | with_reducible assumption | omega | exact vp_le (by with_reducible assumption) (by omega) | (intros; omega)) _ _ _ (hP.sub [0, 1, 2, 3] rfl) (hD.sub [0, 1, 2, 3] (by decide) rfl) hS (lv_sub hl [0, 1, 2] rfl)
    · have g_7 : k < E := Nat.not_le.mp (fun q => c_7 ((nI_leI (a := E) (b := k) (by omega) (by omega)).mpr q))
      refine lv_aload_n hx hb dX1_putEarliest_10 rfl (lv_at hl 2 rfl) ?_
      refine lv_iload_n hx hb dX1_putEarliest_11 rfl (lv_at hl 0 rfl) ?_
      refine lv_aload_n hx hb dX1_putEarliest_12 rfl (lv_at hl 1 rfl) ?_
      refine va_get (D := D) (ci := 1) (v := .ref a1) (C := RX1) (T := TX1) (N := 12) hx hb hts iX1 hown hK.1 hP 0 rfl rfl 1 (by decide) kw_2 (fun _ h9 => h9) rfl dX1_putEarliest_13 ?_
      refine lv_iload_n hx hb dX1_putEarliest_16 rfl (lv_at hl 0 rfl) ?_
      refine ra_I hx hb hK hP 1 rfl (k := k) (by omega) (by decide) dX1_putEarliest_17 ?_
      refine lv_aload_n hx hb dX1_putEarliest_18 rfl (lv_at hl 1 rfl) ?_
      refine va_get (D := D) (ci := 1) (v := .ref a2) (C := RX1) (T := TX1) (N := 12) hx hb hts iX1 hown hK.1 hP 0 rfl rfl 2 (by decide) kw_3 (fun _ h9 => h9) rfl dX1_putEarliest_19 ?_
      refine lv_iload_n hx hb dX1_putEarliest_22 rfl (lv_at hl 0 rfl) ?_
      refine ra_I hx hb hK hP 2 rfl (k := k) (by omega) (by decide) dX1_putEarliest_23 ?_
      refine lv_iadd hx hb dX1_putEarliest_24 ?_
      refine wa_I hx hb hK hP hD hS 3 rfl (k := k) (by omega) (by decide) dX1_putEarliest_25 (fun H locs hP hD hS => ?_)
      have hP : va_P D vwCl (wc (cO n0 1 [.ref a0, .ref a1, .ref a2, .ref a3, .ref a4, .ref a5, .ref a6, .ref a7, .ref a8, .ref a9, .int (nI E), .int (nI Ac)]) (wc (cA a1 cI 60 pl) (wc (cA a2 cI 60 so) (wc (cA w0 cI 60 (upd ru k ((pl k) + (so k)))) wN)))) H := hP
      have hD : va_D A (wc (cO n0 1 [.ref a0, .ref a1, .ref a2, .ref a3, .ref a4, .ref a5, .ref a6, .ref a7, .ref a8, .ref a9, .int (nI E), .int (nI Ac)]) (wc (cA a1 cI 60 pl) (wc (cA a2 cI 60 so) (wc (cA w0 cI 60 (upd ru k ((pl k) + (so k)))) wN)))) := hD
      refine lv_iinc (v := (nI (k + 1))) (lv' := [(2, .int (nI (k + 1))), (0, .ref n0), (1, .ref w0)]) hx hb dX1_putEarliest_26 hl (k := 0) rfl (nI_1 _) (by decide) rfl (fun ls hl => ?_)
      refine lv_goto (tgt := 2) hx hb dX1_putEarliest_29 (by decide) ?_
      exact ih (k + 1) (upd ru k ((pl k) + (so k))) (by first | with_reducible assumption | omega | exact vp_le (by with_reducible assumption) (by omega) | (intros; omega)) ((by first | exact hru | exact krI_s hru | exact krI_0)) (by omega) _ _ _ (hP.sub [0, 1, 2, 3] rfl) (hD.sub [0, 1, 2, 3] (by decide) rfl) hS (lv_sub hl [0, 1, 2] rfl)
set_option maxHeartbeats 300000 in
set_option maxRecDepth 100000 in
theorem c_putEarliest (l : Launch) (D : va_G) (cI cZ cR : ClassId) (n0 : Nat) (a0 : Nat) (a1 : Nat) (a2 : Nat) (a3 : Nat) (a4 : Nat) (a5 : Nat) (a6 : Nat) (a7 : Nat) (a8 : Nat) (a9 : Nat) (E : Nat) (Ac : Nat) (w0 : Nat) (pl : Nat → Int32) (so : Nat → Int32) (rw : Nat → Int32) (hE : E ≤ 60) : CV l D cI cZ cR yX1_putEarliest wsX1_putEarliest { frames := 0, cells := 0, slots := 0, locals := 0 } [.ref n0, .ref w0] (wc (cO n0 1 [.ref a0, .ref a1, .ref a2, .ref a3, .ref a4, .ref a5, .ref a6, .ref a7, .ref a8, .ref a9, .int (nI E), .int (nI Ac)]) (wc (cA a1 cI 60 pl) (wc (cA a2 cI 60 so) (wc (cA w0 cI 60 rw) wN)))) (fun (u : Nat → Int32) => u = krI E pl so rw) (fun (u : Nat → Int32) => (wc (cO n0 1 [.ref a0, .ref a1, .ref a2, .ref a3, .ref a4, .ref a5, .ref a6, .ref a7, .ref a8, .ref a9, .int (nI E), .int (nI Ac)]) (wc (cA a1 cI 60 pl) (wc (cA a2 cI 60 so) (wc (cA w0 cI 60 u) wN))))) := by
  intro sz9
  refine en_W (Qc := fun A => va_Qv (fun (u : Nat → Int32) => u = krI E pl so rw) (sB D cI cZ cR (fun (u : Nat → Int32) => (wc (cO n0 1 [.ref a0, .ref a1, .ref a2, .ref a3, .ref a4, .ref a5, .ref a6, .ref a7, .ref a8, .ref a9, .int (nI E), .int (nI Ac)]) (wc (cA a1 cI 60 pl) (wc (cA a2 cI 60 so) (wc (cA w0 cI 60 u) wN))))) A) A) (cc := cX1_putEarliest) (maxL := 3) (ret := none) (by decide) rfl (Nat.le_of_ble_eq_true rfl) ?_
  intro p e s m below meth c A ls hx hb hr hts hown hlocks hin hml hK hP hD hS hA hl
  have hown : s.vm.findClass RX1 = some m.cls := hown
  have hl : lv_has ls 3 [(0, .ref n0), (1, .ref w0)] := hl
  refine lv_iconst (v := 0) hx hb dX1_putEarliest_0 (by decide) ?_
  refine lv_istore_n (lv' := [(2, .int 0), (0, .ref n0), (1, .ref w0)]) hx hb dX1_putEarliest_1 rfl hl (by decide) rfl (fun ls hl => ?_)
  refine lp_putEarliest l D cI cZ cR n0 a0 a1 a2 a3 a4 a5 a6 a7 a8 a9 E Ac w0 pl so rw hE hx hb hts hown hml hK hA (fun k ru hk hru hkE H locs ls hP hD hS hl => ?_) _ 0 rw (by first | with_reducible assumption | omega | exact vp_le (by with_reducible assumption) (by omega) | (intros; omega)) ((by first | exact hru | exact krI_s hru | exact krI_0)) (Nat.lt_succ_self _) _ _ _ (hP.sub [0, 1, 2, 3] rfl) (hD.sub [0, 1, 2, 3] (by decide) rfl) hS (lv_sub hl [0, 1, 2] rfl)
  exact en_v ru hx hb hr hlocks hK (hP.sub [0, 1, 2, 3] rfl) (hD.sub [0, 1, 2, 3] (by decide) rfl) hS (Nat.le_of_ble_eq_true rfl) (Nat.le_of_ble_eq_true rfl) dX1_putEarliest_32 (by rw [show E = k by omega]; exact hru)
set_option maxHeartbeats 300000 in
set_option maxRecDepth 100000 in
theorem lp_raise {p : Program} {e : Env} {s : State} {m : MethodId} {args : Array Value} {below : List Frame} {meth : Method} {c : Code} {A : Nat → Prop} {Q : State → Prop} (l : Launch) (D : va_G) (cI cZ cR : ClassId) (n0 : Nat) (a0 : Nat) (a1 : Nat) (a2 : Nat) (a3 : Nat) (a4 : Nat) (a5 : Nat) (a6 : Nat) (a7 : Nat) (a8 : Nat) (a9 : Nat) (E : Nat) (Ac : Nat) (w0 : Nat) (th : Nat → Int32) (fr : Nat → Int32) (to : Nat → Int32) (le : Nat → Int32) (ke : Nat → Int32) (rw : Nat → Int32) (hE : E ≤ 60) (hAc : Ac ≤ 100) (hfr : ∀ i, i < Ac → vp_in (fr i) E) (hto : ∀ i, i < Ac → vp_in (to i) E) (hx : p.tables.exec = Jvm.exec) (hb : c.code = cX1_raise) (hts : ∀ w ∈ wsX1_raise, w.before args s = true) (hown : s.vm.findClass RX1 = some m.cls) (hml : c.maxLocals = 4) (hK : kK D cI cZ cR s) (hA : ∀ q : Nat, s.heap.size ≤ q → A q) (kx_60 : ∀ (k : Nat) (z : Int32) (ru : Nat → Int32), (k ≤ Ac) → (ru = krN fr to le (hdB (tbC th) ke fr to) k rw) → ((z = 1 ∧ krM fr to le (hdB (tbC th) ke fr to) k rw = true) ∨ (z = 0 ∧ krM fr to le (hdB (tbC th) ke fr to) k rw = false)) → (Ac ≤ k) → ∀ (H : Heap) (locs : List Loc) (ls : Array Slot), va_P D vwCl (wc (cO n0 1 [.ref a0, .ref a1, .ref a2, .ref a3, .ref a4, .ref a5, .ref a6, .ref a7, .ref a8, .ref a9, .int (nI E), .int (nI Ac)]) (wc (cA a3 cZ 60 th) (wc (cA a5 cI 100 fr) (wc (cA a6 cI 100 to) (wc (cA a7 cI 100 le) (wc (cA a8 cZ 100 ke) (wc (cA w0 cI 60 ru) wN))))))) H → va_D A (wc (cO n0 1 [.ref a0, .ref a1, .ref a2, .ref a3, .ref a4, .ref a5, .ref a6, .ref a7, .ref a8, .ref a9, .int (nI E), .int (nI Ac)]) (wc (cA a3 cZ 60 th) (wc (cA a5 cI 100 fr) (wc (cA a6 cI 100 to) (wc (cA a7 cI 100 le) (wc (cA a8 cZ 100 ke) (wc (cA w0 cI 60 ru) wN))))))) → va_S A s.heap H locs → lv_has ls 4 [(3, .int (nI k)), (0, .ref n0), (1, .ref w0), (2, .int z)] → W p l e { frames := 2, cells := 0, slots := 0, locals := 42 } s m args below meth c H locs 0 0 Q (F0 m 60 ls [])) : ∀ (n : Nat) (k : Nat) (z : Int32) (ru : Nat → Int32), (k ≤ Ac) → (ru = krN fr to le (hdB (tbC th) ke fr to) k rw) → ((z = 1 ∧ krM fr to le (hdB (tbC th) ke fr to) k rw = true) ∨ (z = 0 ∧ krM fr to le (hdB (tbC th) ke fr to) k rw = false)) → Ac - k < n → ∀ (H : Heap) (locs : List Loc) (ls : Array Slot), va_P D vwCl (wc (cO n0 1 [.ref a0, .ref a1, .ref a2, .ref a3, .ref a4, .ref a5, .ref a6, .ref a7, .ref a8, .ref a9, .int (nI E), .int (nI Ac)]) (wc (cA a3 cZ 60 th) (wc (cA a5 cI 100 fr) (wc (cA a6 cI 100 to) (wc (cA a7 cI 100 le) (wc (cA a8 cZ 100 ke) (wc (cA w0 cI 60 ru) wN))))))) H → va_D A (wc (cO n0 1 [.ref a0, .ref a1, .ref a2, .ref a3, .ref a4, .ref a5, .ref a6, .ref a7, .ref a8, .ref a9, .int (nI E), .int (nI Ac)]) (wc (cA a3 cZ 60 th) (wc (cA a5 cI 100 fr) (wc (cA a6 cI 100 to) (wc (cA a7 cI 100 le) (wc (cA a8 cZ 100 ke) (wc (cA w0 cI 60 ru) wN))))))) → va_S A s.heap H locs → lv_has ls 4 [(3, .int (nI k)), (0, .ref n0), (1, .ref w0), (2, .int z)] → W p l e { frames := 2, cells := 0, slots := 0, locals := 42 } s m args below meth c H locs 0 0 Q (F0 m 4 ls []) := by
  have kw_0 := hts (.fieldLink RX1 47 "DelayDesk$Net" "activities" "I") (List.mem_of_getElem? (i := 1) rfl)
  have iX1 : ∀ w ∈ u_ws RX1 TX1 12, w ∈ wsX1_raise := fun _ h9 => (List.mem_cons_of_mem _ (List.mem_append_right _ h9))
  have kw_2 := hts (.fieldLink RX1 31 "DelayDesk$Net" "to" "[I") (List.mem_of_getElem? (i := 2) rfl)
  have kw_3 := hts (.fieldLink RX1 28 "DelayDesk$Net" "from" "[I") (List.mem_of_getElem? (i := 3) rfl)
  have kw_4 := hts (.fieldLink RX1 34 "DelayDesk$Net" "least" "[I") (List.mem_of_getElem? (i := 4) rfl)
  intro n
  induction n with
  | zero =>
    intro k z ru hk hru hz hm
    exact absurd hm (Nat.not_lt_zero _)
  | succ n ih =>
    intro k z ru hk hru hz hm H locs ls hP hD hS hl
    refine lv_iload_n hx hb dX1_raise_4 rfl (lv_at hl 0 rfl) ?_
    refine lv_aload_n hx hb dX1_raise_5 rfl (lv_at hl 1 rfl) ?_
    refine va_get (D := D) (ci := 1) (v := .int (nI Ac)) (C := RX1) (T := TX1) (N := 12) hx hb hts iX1 hown hK.1 hP 0 rfl rfl 11 (by decide) kw_0 (fun _ h9 => h9) rfl dX1_raise_6 ?_
    refine lv_icmp_ge (tgt := 60) hx hb dX1_raise_9 (by decide) (fun c_9 => ?_) (fun c_9 => ?_)
    · have g_9 : Ac ≤ k := (nI_leI (a := Ac) (b := k) (by omega) (by omega)).mp c_9
      exact kx_60 k z ru (by first | with_reducible assumption | omega | exact vp_le (by with_reducible assumption) (by omega) | (intros; omega)) ((by first | exact hru | exact krN_o hru hf_15 | exact krN_h hru hf_23 | exact krN_m hru hf_15 hf_23 | exact rfl)) ((by first | exact krM_z hz (krM_o hru hf_15) | exact krM_z hz (krM_h hf_23) | exact Or.inl ⟨rfl, krM_m hru hf_15 hf_23⟩ | exact Or.inr ⟨rfl, rfl⟩ | assumption)) (by first | with_reducible assumption | omega | exact vp_le (by with_reducible assumption) (by omega) | (intros; omega)) _ _ _ (hP.sub [0, 1, 2, 3, 4, 5, 6] rfl) (hD.sub [0, 1, 2, 3, 4, 5, 6] (by decide) rfl) hS (lv_sub hl [0, 1, 2, 3] rfl)
    · have g_9 : k < Ac := Nat.not_le.mp (fun q => c_9 ((nI_leI (a := Ac) (b := k) (by omega) (by omega)).mpr q))
      refine lv_aload_n hx hb dX1_raise_12 rfl (lv_at hl 1 rfl) ?_
      refine lv_iload_n hx hb dX1_raise_13 rfl (lv_at hl 0 rfl) ?_
      refine lv_aload_n hx hb dX1_raise_14 rfl (lv_at hl 2 rfl) ?_
      refine cl_i (wr := (wc (cA a3 cZ 60 th) (wc (cA a8 cZ 100 ke) wN))) (va_runV (As := [.int (nI k), .ref w0]) (rest := []) ⟨hx, hb, hml, hown, hts⟩ (c_isObeyed l D cI cZ cR n0 a0 a1 a2 a3 a4 a5 a6 a7 a8 a9 E Ac w0 fr to le ru (nI k) (by omega) (by omega) (by with_reducible assumption) (by with_reducible assumption) (vp_in_nI (by omega) (by omega)) H.size) (cwV 2 hts gX1_raise_X1_isObeyed rfl rfl rfl hd_X1_isObeyed ⟨Nat.le_of_ble_eq_true rfl, Nat.le_of_ble_eq_true rfl⟩) (pV 1 0 hK hP hD [0, 2, 3, 4, 6] rfl (by decide) rfl rfl) rfl rfl hl.1 rfl (lv_room (Nat.le_of_ble_eq_true rfl)) dX1_raise_15 ⟨Nat.le_of_ble_eq_true rfl, Nat.le_of_ble_eq_true rfl⟩) hP hD hS hA [0, 2, 3, 4, 6] [1, 5] rfl rfl (by decide) (by decide) (fun r_15 u_15 H locs hw_15 hP hD hS => ?_)
      have hP : va_P D vwCl (wc (cA a3 cZ 60 th) (wc (cA a8 cZ 100 ke) (wc (cO n0 1 [.ref a0, .ref a1, .ref a2, .ref a3, .ref a4, .ref a5, .ref a6, .ref a7, .ref a8, .ref a9, .int (nI E), .int (nI Ac)]) (wc (cA a5 cI 100 fr) (wc (cA a6 cI 100 to) (wc (cA a7 cI 100 le) (wc (cA w0 cI 60 ru) wN))))))) H := hP
      have hD : va_D A (wc (cA a3 cZ 60 th) (wc (cA a8 cZ 100 ke) (wc (cO n0 1 [.ref a0, .ref a1, .ref a2, .ref a3, .ref a4, .ref a5, .ref a6, .ref a7, .ref a8, .ref a9, .int (nI E), .int (nI Ac)]) (wc (cA a5 cI 100 fr) (wc (cA a6 cI 100 to) (wc (cA a7 cI 100 le) (wc (cA w0 cI 60 ru) wN))))))) := hD
      rcases hw_15 with ⟨rfl, hf_15⟩ | ⟨rfl, hf_15⟩
      · rw [show (nI k).toNatClampNeg = k from nI_clamp (by omega)] at hf_15
        refine lv_if_ne (tgt := 54) hx hb dX1_raise_18 (by decide) (fun c_18 => ?_) (fun c_18 => absurd c_18 (by decide))
        refine lv_iinc (v := (nI (k + 1))) (lv' := [(3, .int (nI (k + 1))), (0, .ref n0), (1, .ref w0), (2, .int z)]) hx hb dX1_raise_54 hl (k := 0) rfl (nI_1 _) (by decide) rfl (fun ls hl => ?_)
        refine lv_goto (tgt := 4) hx hb dX1_raise_57 (by decide) ?_
        exact ih (k + 1) z ru (by first | with_reducible assumption | omega | exact vp_le (by with_reducible assumption) (by omega) | (intros; omega)) ((by first | exact hru | exact krN_o hru hf_15 | exact krN_h hru hf_23 | exact krN_m hru hf_15 hf_23 | exact rfl)) ((by first | exact krM_z hz (krM_o hru hf_15) | exact krM_z hz (krM_h hf_23) | exact Or.inl ⟨rfl, krM_m hru hf_15 hf_23⟩ | exact Or.inr ⟨rfl, rfl⟩ | assumption)) (by omega) _ _ _ (hP.sub [2, 0, 3, 4, 5, 1, 6] rfl) (hD.sub [2, 0, 3, 4, 5, 1, 6] (by decide) rfl) hS (lv_sub hl [0, 1, 2, 3] rfl)
      · rw [show (nI k).toNatClampNeg = k from nI_clamp (by omega)] at hf_15
        refine lv_if_ne (tgt := 54) hx hb dX1_raise_18 (by decide) (fun c_18 => absurd c_18 (by decide)) (fun c_18 => ?_)
        refine lv_aload_n hx hb dX1_raise_21 rfl (lv_at hl 1 rfl) ?_
        refine lv_iload_n hx hb dX1_raise_22 rfl (lv_at hl 0 rfl) ?_
        refine cl_i (wr := (wc (cA a7 cI 100 le) (wc (cA w0 cI 60 ru) wN))) (va_runV (As := [.int (nI k)]) (rest := []) ⟨hx, hb, hml, hown, hts⟩ (c_holds l D cI cZ cR n0 a0 a1 a2 a3 a4 a5 a6 a7 a8 a9 E Ac th fr to ke (nI k) (by omega) (by omega) (by with_reducible assumption) (by with_reducible assumption) (vp_in_nI (by omega) (by omega)) H.size) (cwV 1 hts gX1_raise_X1_holds rfl rfl rfl hd_X1_holds ⟨Nat.le_of_ble_eq_true rfl, Nat.le_of_ble_eq_true rfl⟩) (pV 1 2 hK hP hD [2, 0, 3, 4, 1] rfl (by decide) rfl rfl) rfl rfl hl.1 rfl (lv_room (Nat.le_of_ble_eq_true rfl)) dX1_raise_23 ⟨Nat.le_of_ble_eq_true rfl, Nat.le_of_ble_eq_true rfl⟩) hP hD hS hA [2, 0, 3, 4, 1] [5, 6] rfl rfl (by decide) (by decide) (fun r_23 u_23 H locs hw_23 hP hD hS => ?_)
        have hP : va_P D vwCl (wc (cA a7 cI 100 le) (wc (cA w0 cI 60 ru) (wc (cO n0 1 [.ref a0, .ref a1, .ref a2, .ref a3, .ref a4, .ref a5, .ref a6, .ref a7, .ref a8, .ref a9, .int (nI E), .int (nI Ac)]) (wc (cA a3 cZ 60 th) (wc (cA a5 cI 100 fr) (wc (cA a6 cI 100 to) (wc (cA a8 cZ 100 ke) wN))))))) H := hP
        have hD : va_D A (wc (cA a7 cI 100 le) (wc (cA w0 cI 60 ru) (wc (cO n0 1 [.ref a0, .ref a1, .ref a2, .ref a3, .ref a4, .ref a5, .ref a6, .ref a7, .ref a8, .ref a9, .int (nI E), .int (nI Ac)]) (wc (cA a3 cZ 60 th) (wc (cA a5 cI 100 fr) (wc (cA a6 cI 100 to) (wc (cA a8 cZ 100 ke) wN))))))) := hD
        rcases hw_23 with ⟨rfl, hf_23⟩ | ⟨rfl, hf_23⟩
        · rw [show (nI k).toNatClampNeg = k from nI_clamp (by omega)] at hf_23
          refine lv_if_eq (tgt := 54) hx hb dX1_raise_26 (by decide) (fun c_26 => absurd c_26 (by decide)) (fun c_26 => ?_)
          refine lv_aload_n hx hb dX1_raise_29 rfl (lv_at hl 2 rfl) ?_
          refine lv_aload_n hx hb dX1_raise_30 rfl (lv_at hl 1 rfl) ?_
          refine va_get (D := D) (ci := 1) (v := .ref a6) (C := RX1) (T := TX1) (N := 12) hx hb hts iX1 hown hK.1 hP 2 rfl rfl 6 (by decide) kw_2 (fun _ h9 => h9) rfl dX1_raise_31 ?_
          refine lv_iload_n hx hb dX1_raise_34 rfl (lv_at hl 0 rfl) ?_
          refine ra_I hx hb hK hP 5 rfl (k := k) (by omega) (by decide) dX1_raise_35 ?_
          have f_35 : vp_in (to k) E := hto _ (by omega)
          refine lv_aload_n hx hb dX1_raise_36 rfl (lv_at hl 2 rfl) ?_
          refine lv_aload_n hx hb dX1_raise_37 rfl (lv_at hl 1 rfl) ?_
          refine va_get (D := D) (ci := 1) (v := .ref a5) (C := RX1) (T := TX1) (N := 12) hx hb hts iX1 hown hK.1 hP 2 rfl rfl 5 (by decide) kw_3 (fun _ h9 => h9) rfl dX1_raise_38 ?_
          refine lv_iload_n hx hb dX1_raise_41 rfl (lv_at hl 0 rfl) ?_
          refine ra_I hx hb hK hP 4 rfl (k := k) (by omega) (by decide) dX1_raise_42 ?_
          have f_42 : vp_in (fr k) E := hfr _ (by omega)
          refine va_iald hx hb hK.1 hP 1 0 rfl rfl (by first | with_reducible assumption | exact vp_le (by with_reducible assumption) (by omega)) dX1_raise_43 ?_
          refine lv_aload_n hx hb dX1_raise_44 rfl (lv_at hl 1 rfl) ?_
          refine va_get (D := D) (ci := 1) (v := .ref a7) (C := RX1) (T := TX1) (N := 12) hx hb hts iX1 hown hK.1 hP 2 rfl rfl 7 (by decide) kw_4 (fun _ h9 => h9) rfl dX1_raise_45 ?_
          refine lv_iload_n hx hb dX1_raise_48 rfl (lv_at hl 0 rfl) ?_
          refine ra_I hx hb hK hP 0 rfl (k := k) (by omega) (by decide) dX1_raise_49 ?_
          refine lv_iadd hx hb dX1_raise_50 ?_
          refine va_iast hx hb hK.1 hP hD hS 1 0 rfl rfl (by first | with_reducible assumption | exact vp_le (by with_reducible assumption) (by omega)) dX1_raise_51 (fun H locs hP hD hS => ?_)
          have hP : va_P D vwCl (wc (cA a7 cI 100 le) (wc (cA w0 cI 60 (upd ru (to k).toNatClampNeg ((ru (fr k).toNatClampNeg) + (le k)))) (wc (cO n0 1 [.ref a0, .ref a1, .ref a2, .ref a3, .ref a4, .ref a5, .ref a6, .ref a7, .ref a8, .ref a9, .int (nI E), .int (nI Ac)]) (wc (cA a3 cZ 60 th) (wc (cA a5 cI 100 fr) (wc (cA a6 cI 100 to) (wc (cA a8 cZ 100 ke) wN))))))) H := hP
          have hD : va_D A (wc (cA a7 cI 100 le) (wc (cA w0 cI 60 (upd ru (to k).toNatClampNeg ((ru (fr k).toNatClampNeg) + (le k)))) (wc (cO n0 1 [.ref a0, .ref a1, .ref a2, .ref a3, .ref a4, .ref a5, .ref a6, .ref a7, .ref a8, .ref a9, .int (nI E), .int (nI Ac)]) (wc (cA a3 cZ 60 th) (wc (cA a5 cI 100 fr) (wc (cA a6 cI 100 to) (wc (cA a8 cZ 100 ke) wN))))))) := hD
          refine lv_iconst (v := 1) hx hb dX1_raise_52 (by decide) ?_
          refine lv_istore_n (lv' := [(2, .int 1), (3, .int (nI k)), (0, .ref n0), (1, .ref w0)]) hx hb dX1_raise_53 rfl hl (by decide) rfl (fun ls hl => ?_)
          refine lv_iinc (v := (nI (k + 1))) (lv' := [(3, .int (nI (k + 1))), (2, .int 1), (0, .ref n0), (1, .ref w0)]) hx hb dX1_raise_54 hl (k := 1) rfl (nI_1 _) (by decide) rfl (fun ls hl => ?_)
          refine lv_goto (tgt := 4) hx hb dX1_raise_57 (by decide) ?_
          exact ih (k + 1) 1 (upd ru (to k).toNatClampNeg ((ru (fr k).toNatClampNeg) + (le k))) (by first | with_reducible assumption | omega | exact vp_le (by with_reducible assumption) (by omega) | (intros; omega)) ((by first | exact hru | exact krN_o hru hf_15 | exact krN_h hru hf_23 | exact krN_m hru hf_15 hf_23 | exact rfl)) ((by first | exact krM_z hz (krM_o hru hf_15) | exact krM_z hz (krM_h hf_23) | exact Or.inl ⟨rfl, krM_m hru hf_15 hf_23⟩ | exact Or.inr ⟨rfl, rfl⟩ | assumption)) (by omega) _ _ _ (hP.sub [2, 3, 4, 5, 0, 6, 1] rfl) (hD.sub [2, 3, 4, 5, 0, 6, 1] (by decide) rfl) hS (lv_sub hl [0, 2, 3, 1] rfl)
        · rw [show (nI k).toNatClampNeg = k from nI_clamp (by omega)] at hf_23
          refine lv_if_eq (tgt := 54) hx hb dX1_raise_26 (by decide) (fun c_26 => ?_) (fun c_26 => absurd (by decide) c_26)
          refine lv_iinc (v := (nI (k + 1))) (lv' := [(3, .int (nI (k + 1))), (0, .ref n0), (1, .ref w0), (2, .int z)]) hx hb dX1_raise_54 hl (k := 0) rfl (nI_1 _) (by decide) rfl (fun ls hl => ?_)
          refine lv_goto (tgt := 4) hx hb dX1_raise_57 (by decide) ?_
          exact ih (k + 1) z ru (by first | with_reducible assumption | omega | exact vp_le (by with_reducible assumption) (by omega) | (intros; omega)) ((by first | exact hru | exact krN_o hru hf_15 | exact krN_h hru hf_23 | exact krN_m hru hf_15 hf_23 | exact rfl)) ((by first | exact krM_z hz (krM_o hru hf_15) | exact krM_z hz (krM_h hf_23) | exact Or.inl ⟨rfl, krM_m hru hf_15 hf_23⟩ | exact Or.inr ⟨rfl, rfl⟩ | assumption)) (by omega) _ _ _ (hP.sub [2, 3, 4, 5, 0, 6, 1] rfl) (hD.sub [2, 3, 4, 5, 0, 6, 1] (by decide) rfl) hS (lv_sub hl [0, 1, 2, 3] rfl)
set_option maxHeartbeats 300000 in
set_option maxRecDepth 100000 in
theorem c_raise (l : Launch) (D : va_G) (cI cZ cR : ClassId) (n0 : Nat) (a0 : Nat) (a1 : Nat) (a2 : Nat) (a3 : Nat) (a4 : Nat) (a5 : Nat) (a6 : Nat) (a7 : Nat) (a8 : Nat) (a9 : Nat) (E : Nat) (Ac : Nat) (w0 : Nat) (th : Nat → Int32) (fr : Nat → Int32) (to : Nat → Int32) (le : Nat → Int32) (ke : Nat → Int32) (rw : Nat → Int32) (hE : E ≤ 60) (hAc : Ac ≤ 100) (hfr : ∀ i, i < Ac → vp_in (fr i) E) (hto : ∀ i, i < Ac → vp_in (to i) E) : CI l D cI cZ cR yX1_raise wsX1_raise { frames := 2, cells := 0, slots := 0, locals := 42 } [.ref n0, .ref w0] (wc (cO n0 1 [.ref a0, .ref a1, .ref a2, .ref a3, .ref a4, .ref a5, .ref a6, .ref a7, .ref a8, .ref a9, .int (nI E), .int (nI Ac)]) (wc (cA a3 cZ 60 th) (wc (cA a5 cI 100 fr) (wc (cA a6 cI 100 to) (wc (cA a7 cI 100 le) (wc (cA a8 cZ 100 ke) (wc (cA w0 cI 60 rw) wN))))))) (fun (r : Int32) (u : Nat → Int32) => (r = 1 ∧ (krM fr to le (hdB (tbC th) ke fr to) Ac rw = true ∧ u = krN fr to le (hdB (tbC th) ke fr to) Ac rw)) ∨ (r = 0 ∧ (krM fr to le (hdB (tbC th) ke fr to) Ac rw = false ∧ u = krN fr to le (hdB (tbC th) ke fr to) Ac rw))) (fun (u : Nat → Int32) => (wc (cO n0 1 [.ref a0, .ref a1, .ref a2, .ref a3, .ref a4, .ref a5, .ref a6, .ref a7, .ref a8, .ref a9, .int (nI E), .int (nI Ac)]) (wc (cA a3 cZ 60 th) (wc (cA a5 cI 100 fr) (wc (cA a6 cI 100 to) (wc (cA a7 cI 100 le) (wc (cA a8 cZ 100 ke) (wc (cA w0 cI 60 u) wN)))))))) := by
  intro sz9
  refine en_W (Qc := fun A => va_Qi (fun (r : Int32) (u : Nat → Int32) => (r = 1 ∧ (krM fr to le (hdB (tbC th) ke fr to) Ac rw = true ∧ u = krN fr to le (hdB (tbC th) ke fr to) Ac rw)) ∨ (r = 0 ∧ (krM fr to le (hdB (tbC th) ke fr to) Ac rw = false ∧ u = krN fr to le (hdB (tbC th) ke fr to) Ac rw))) (sB D cI cZ cR (fun (u : Nat → Int32) => (wc (cO n0 1 [.ref a0, .ref a1, .ref a2, .ref a3, .ref a4, .ref a5, .ref a6, .ref a7, .ref a8, .ref a9, .int (nI E), .int (nI Ac)]) (wc (cA a3 cZ 60 th) (wc (cA a5 cI 100 fr) (wc (cA a6 cI 100 to) (wc (cA a7 cI 100 le) (wc (cA a8 cZ 100 ke) (wc (cA w0 cI 60 u) wN)))))))) A) A) (cc := cX1_raise) (maxL := 4) (ret := (some .boolean)) (by decide) rfl (Nat.le_of_ble_eq_true rfl) ?_
  intro p e s m below meth c A ls hx hb hr hts hown hlocks hin hml hK hP hD hS hA hl
  have hown : s.vm.findClass RX1 = some m.cls := hown
  have hl : lv_has ls 4 [(0, .ref n0), (1, .ref w0)] := hl
  refine lv_iconst (v := 0) hx hb dX1_raise_0 (by decide) ?_
  refine lv_istore_n (lv' := [(2, .int 0), (0, .ref n0), (1, .ref w0)]) hx hb dX1_raise_1 rfl hl (by decide) rfl (fun ls hl => ?_)
  refine lv_iconst (v := 0) hx hb dX1_raise_2 (by decide) ?_
  refine lv_istore_n (lv' := [(3, .int 0), (2, .int 0), (0, .ref n0), (1, .ref w0)]) hx hb dX1_raise_3 rfl hl (by decide) rfl (fun ls hl => ?_)
  refine lp_raise l D cI cZ cR n0 a0 a1 a2 a3 a4 a5 a6 a7 a8 a9 E Ac w0 th fr to le ke rw hE hAc hfr hto hx hb hts hown hml hK hA (fun k z ru hk hru hz hkE H locs ls hP hD hS hl => ?_) _ 0 0 rw (by first | with_reducible assumption | omega | exact vp_le (by with_reducible assumption) (by omega) | (intros; omega)) ((by first | exact hru | exact krN_o hru hf_15 | exact krN_h hru hf_23 | exact krN_m hru hf_15 hf_23 | exact rfl)) ((by first | exact krM_z hz (krM_o hru hf_15) | exact krM_z hz (krM_h hf_23) | exact Or.inl ⟨rfl, krM_m hru hf_15 hf_23⟩ | exact Or.inr ⟨rfl, rfl⟩ | assumption)) (Nat.lt_succ_self _) _ _ _ (hP.sub [0, 1, 2, 3, 4, 5, 6] rfl) (hD.sub [0, 1, 2, 3, 4, 5, 6] (by decide) rfl) hS (lv_sub hl [0, 2, 3, 1] rfl)
  rcases hz with ⟨rfl, hz⟩ | ⟨rfl, hz⟩
  · refine lv_iload_n hx hb dX1_raise_60 rfl (lv_at hl 3 rfl) ?_
    exact en_z ru hx hb hr hlocks hK (hP.sub [0, 1, 2, 3, 4, 5, 6] rfl) (hD.sub [0, 1, 2, 3, 4, 5, 6] (by decide) rfl) hS (Nat.le_of_ble_eq_true rfl) (Nat.le_of_ble_eq_true rfl) dX1_raise_61 rfl (Or.inl ⟨rfl, (by rw [show Ac = k by omega]; exact ⟨hz, hru⟩)⟩)
  · refine lv_iload_n hx hb dX1_raise_60 rfl (lv_at hl 3 rfl) ?_
    exact en_z ru hx hb hr hlocks hK (hP.sub [0, 1, 2, 3, 4, 5, 6] rfl) (hD.sub [0, 1, 2, 3, 4, 5, 6] (by decide) rfl) hS (Nat.le_of_ble_eq_true rfl) (Nat.le_of_ble_eq_true rfl) dX1_raise_61 rfl (Or.inr ⟨rfl, (by rw [show Ac = k by omega]; exact ⟨hz, hru⟩)⟩)
set_option maxHeartbeats 300000 in
set_option maxRecDepth 100000 in
theorem lp_settle {p : Program} {e : Env} {s : State} {m : MethodId} {args : Array Value} {below : List Frame} {meth : Method} {c : Code} {A : Nat → Prop} {Q : State → Prop} (l : Launch) (D : va_G) (cI cZ cR : ClassId) (n0 : Nat) (a0 : Nat) (a1 : Nat) (a2 : Nat) (a3 : Nat) (a4 : Nat) (a5 : Nat) (a6 : Nat) (a7 : Nat) (a8 : Nat) (a9 : Nat) (E : Nat) (Ac : Nat) (w0 : Nat) (th : Nat → Int32) (fr : Nat → Int32) (to : Nat → Int32) (le : Nat → Int32) (ke : Nat → Int32) (rw : Nat → Int32) (hE : E ≤ 60) (hAc : Ac ≤ 100) (hfr : ∀ i, i < Ac → vp_in (fr i) E) (hto : ∀ i, i < Ac → vp_in (to i) E) (hx : p.tables.exec = Jvm.exec) (hb : c.code = cX1_settle) (hts : ∀ w ∈ wsX1_settle, w.before args s = true) (hown : s.vm.findClass RX1 = some m.cls) (hml : c.maxLocals = 3) (hK : kK D cI cZ cR s) (hA : ∀ q : Nat, s.heap.size ≤ q → A q) (kx_18 : ∀ (k : Nat) (ru : Nat → Int32), (k ≤ E + 1) → (krT fr to le (hdB (tbC th) ke fr to) Ac (E + 1) rw = krT fr to le (hdB (tbC th) ke fr to) Ac (E + 1 - k) ru) → (((krT fr to le (hdB (tbC th) ke fr to) Ac (E + 1) rw).1 = true ∧ ru = (krT fr to le (hdB (tbC th) ke fr to) Ac (E + 1) rw).2)) → ∀ (H : Heap) (locs : List Loc) (ls : Array Slot), va_P D vwCl (wc (cO n0 1 [.ref a0, .ref a1, .ref a2, .ref a3, .ref a4, .ref a5, .ref a6, .ref a7, .ref a8, .ref a9, .int (nI E), .int (nI Ac)]) (wc (cA a3 cZ 60 th) (wc (cA a5 cI 100 fr) (wc (cA a6 cI 100 to) (wc (cA a7 cI 100 le) (wc (cA a8 cZ 100 ke) (wc (cA w0 cI 60 ru) wN))))))) H → va_D A (wc (cO n0 1 [.ref a0, .ref a1, .ref a2, .ref a3, .ref a4, .ref a5, .ref a6, .ref a7, .ref a8, .ref a9, .int (nI E), .int (nI Ac)]) (wc (cA a3 cZ 60 th) (wc (cA a5 cI 100 fr) (wc (cA a6 cI 100 to) (wc (cA a7 cI 100 le) (wc (cA a8 cZ 100 ke) (wc (cA w0 cI 60 ru) wN))))))) → va_S A s.heap H locs → lv_has ls 3 [(2, .int (nI k)), (0, .ref n0), (1, .ref w0)] → W p l e { frames := 3, cells := 0, slots := 0, locals := 65 } s m args below meth c H locs 0 0 Q (F0 m 18 ls [])) (kx_26 : ∀ (k : Nat) (ru : Nat → Int32), (k ≤ E + 1) → (krT fr to le (hdB (tbC th) ke fr to) Ac (E + 1) rw = krT fr to le (hdB (tbC th) ke fr to) Ac (E + 1 - k) ru) → (E + 1 ≤ k) → ∀ (H : Heap) (locs : List Loc) (ls : Array Slot), va_P D vwCl (wc (cO n0 1 [.ref a0, .ref a1, .ref a2, .ref a3, .ref a4, .ref a5, .ref a6, .ref a7, .ref a8, .ref a9, .int (nI E), .int (nI Ac)]) (wc (cA a3 cZ 60 th) (wc (cA a5 cI 100 fr) (wc (cA a6 cI 100 to) (wc (cA a7 cI 100 le) (wc (cA a8 cZ 100 ke) (wc (cA w0 cI 60 ru) wN))))))) H → va_D A (wc (cO n0 1 [.ref a0, .ref a1, .ref a2, .ref a3, .ref a4, .ref a5, .ref a6, .ref a7, .ref a8, .ref a9, .int (nI E), .int (nI Ac)]) (wc (cA a3 cZ 60 th) (wc (cA a5 cI 100 fr) (wc (cA a6 cI 100 to) (wc (cA a7 cI 100 le) (wc (cA a8 cZ 100 ke) (wc (cA w0 cI 60 ru) wN))))))) → va_S A s.heap H locs → lv_has ls 3 [(2, .int (nI k)), (0, .ref n0), (1, .ref w0)] → W p l e { frames := 3, cells := 0, slots := 0, locals := 65 } s m args below meth c H locs 0 0 Q (F0 m 26 ls [])) : ∀ (n : Nat) (k : Nat) (ru : Nat → Int32), (k ≤ E + 1) → (krT fr to le (hdB (tbC th) ke fr to) Ac (E + 1) rw = krT fr to le (hdB (tbC th) ke fr to) Ac (E + 1 - k) ru) → E + 1 - k < n → ∀ (H : Heap) (locs : List Loc) (ls : Array Slot), va_P D vwCl (wc (cO n0 1 [.ref a0, .ref a1, .ref a2, .ref a3, .ref a4, .ref a5, .ref a6, .ref a7, .ref a8, .ref a9, .int (nI E), .int (nI Ac)]) (wc (cA a3 cZ 60 th) (wc (cA a5 cI 100 fr) (wc (cA a6 cI 100 to) (wc (cA a7 cI 100 le) (wc (cA a8 cZ 100 ke) (wc (cA w0 cI 60 ru) wN))))))) H → va_D A (wc (cO n0 1 [.ref a0, .ref a1, .ref a2, .ref a3, .ref a4, .ref a5, .ref a6, .ref a7, .ref a8, .ref a9, .int (nI E), .int (nI Ac)]) (wc (cA a3 cZ 60 th) (wc (cA a5 cI 100 fr) (wc (cA a6 cI 100 to) (wc (cA a7 cI 100 le) (wc (cA a8 cZ 100 ke) (wc (cA w0 cI 60 ru) wN))))))) → va_S A s.heap H locs → lv_has ls 3 [(2, .int (nI k)), (0, .ref n0), (1, .ref w0)] → W p l e { frames := 3, cells := 0, slots := 0, locals := 65 } s m args below meth c H locs 0 0 Q (F0 m 2 ls []) := by
  have kw_0 := hts (.fieldLink RX1 43 "DelayDesk$Net" "events" "I") (List.mem_of_getElem? (i := 1) rfl)
  have iX1 : ∀ w ∈ u_ws RX1 TX1 12, w ∈ wsX1_settle := fun _ h9 => (List.mem_cons_of_mem _ (List.mem_append_right _ h9))
  intro n
  induction n with
  | zero =>
    intro k ru hk hru hm
    exact absurd hm (Nat.not_lt_zero _)
  | succ n ih =>
    intro k ru hk hru hm H locs ls hP hD hS hl
    refine lv_iload_n hx hb dX1_settle_2 rfl (lv_at hl 0 rfl) ?_
    refine lv_aload_n hx hb dX1_settle_3 rfl (lv_at hl 1 rfl) ?_
    refine va_get (D := D) (ci := 1) (v := .int (nI E)) (C := RX1) (T := TX1) (N := 12) hx hb hts iX1 hown hK.1 hP 0 rfl rfl 10 (by decide) kw_0 (fun _ h9 => h9) rfl dX1_settle_4 ?_
    refine lv_icmp_gt (tgt := 26) hx hb dX1_settle_7 (by decide) (fun c_7 => ?_) (fun c_7 => ?_)
    · have g_7 : E < k := (nI_ltI (a := E) (b := k) (by omega) (by omega)).mp c_7
      exact kx_26 k ru (by first | with_reducible assumption | omega | exact vp_le (by with_reducible assumption) (by omega) | (intros; omega)) ((by first | exact krT_g2 hru (by omega) hf_12.1 hf_12.2 | exact (by rw [hf_12.2, krM_id _ hf_12.1]; exact hru) | exact hru | rfl)) (by first | with_reducible assumption | omega | exact vp_le (by with_reducible assumption) (by omega) | (intros; omega)) _ _ _ (hP.sub [0, 1, 2, 3, 4, 5, 6] rfl) (hD.sub [0, 1, 2, 3, 4, 5, 6] (by decide) rfl) hS (lv_sub hl [0, 1, 2] rfl)
    · have g_7 : k ≤ E := Nat.not_lt.mp (fun q => c_7 ((nI_ltI (a := E) (b := k) (by omega) (by omega)).mpr q))
      refine lv_aload_n hx hb dX1_settle_10 rfl (lv_at hl 1 rfl) ?_
      refine lv_aload_n hx hb dX1_settle_11 rfl (lv_at hl 2 rfl) ?_
      refine cl_i (wr := (wN)) (va_runV (As := [.ref w0]) (rest := []) ⟨hx, hb, hml, hown, hts⟩ (c_raise l D cI cZ cR n0 a0 a1 a2 a3 a4 a5 a6 a7 a8 a9 E Ac w0 th fr to le ke ru (by omega) (by omega) (by with_reducible assumption) (by with_reducible assumption) H.size) (cwV 1 hts gX1_settle_X1_raise rfl rfl rfl hd_X1_raise ⟨Nat.le_of_ble_eq_true rfl, Nat.le_of_ble_eq_true rfl⟩) (pV 1 0 hK hP hD [0, 1, 2, 3, 4, 5, 6] rfl (by decide) rfl rfl) rfl rfl hl.1 rfl (lv_room (Nat.le_of_ble_eq_true rfl)) dX1_settle_12 ⟨Nat.le_of_ble_eq_true rfl, Nat.le_of_ble_eq_true rfl⟩) hP hD hS hA [0, 1, 2, 3, 4, 5, 6] [] rfl rfl (by decide) (by decide) (fun r_12 u_12 H locs hw_12 hP hD hS => ?_)
      have hP : va_P D vwCl (wc (cO n0 1 [.ref a0, .ref a1, .ref a2, .ref a3, .ref a4, .ref a5, .ref a6, .ref a7, .ref a8, .ref a9, .int (nI E), .int (nI Ac)]) (wc (cA a3 cZ 60 th) (wc (cA a5 cI 100 fr) (wc (cA a6 cI 100 to) (wc (cA a7 cI 100 le) (wc (cA a8 cZ 100 ke) (wc (cA w0 cI 60 u_12) wN))))))) H := hP
      have hD : va_D A (wc (cO n0 1 [.ref a0, .ref a1, .ref a2, .ref a3, .ref a4, .ref a5, .ref a6, .ref a7, .ref a8, .ref a9, .int (nI E), .int (nI Ac)]) (wc (cA a3 cZ 60 th) (wc (cA a5 cI 100 fr) (wc (cA a6 cI 100 to) (wc (cA a7 cI 100 le) (wc (cA a8 cZ 100 ke) (wc (cA w0 cI 60 u_12) wN))))))) := hD
      rcases hw_12 with ⟨rfl, hf_12⟩ | ⟨rfl, hf_12⟩
      · refine lv_if_ne (tgt := 20) hx hb dX1_settle_15 (by decide) (fun c_15 => ?_) (fun c_15 => absurd c_15 (by decide))
        refine lv_iinc (v := (nI (k + 1))) (lv' := [(2, .int (nI (k + 1))), (0, .ref n0), (1, .ref w0)]) hx hb dX1_settle_20 hl (k := 0) rfl (nI_1 _) (by decide) rfl (fun ls hl => ?_)
        refine lv_goto (tgt := 2) hx hb dX1_settle_23 (by decide) ?_
        exact ih (k + 1) u_12 (by first | with_reducible assumption | omega | exact vp_le (by with_reducible assumption) (by omega) | (intros; omega)) ((by first | exact krT_g2 hru (by omega) hf_12.1 hf_12.2 | exact (by rw [hf_12.2, krM_id _ hf_12.1]; exact hru) | exact hru | rfl)) (by omega) _ _ _ (hP.sub [0, 1, 2, 3, 4, 5, 6] rfl) (hD.sub [0, 1, 2, 3, 4, 5, 6] (by decide) rfl) hS (lv_sub hl [0, 1, 2] rfl)
      · refine lv_if_ne (tgt := 20) hx hb dX1_settle_15 (by decide) (fun c_15 => absurd c_15 (by decide)) (fun c_15 => ?_)
        exact kx_18 k u_12 (by first | with_reducible assumption | omega | exact vp_le (by with_reducible assumption) (by omega) | (intros; omega)) ((by first | exact krT_g2 hru (by omega) hf_12.1 hf_12.2 | exact (by rw [hf_12.2, krM_id _ hf_12.1]; exact hru) | exact hru | rfl)) (krT_s2 hru (by omega) hf_12.1 hf_12.2) _ _ _ (hP.sub [0, 1, 2, 3, 4, 5, 6] rfl) (hD.sub [0, 1, 2, 3, 4, 5, 6] (by decide) rfl) hS (lv_sub hl [0, 1, 2] rfl)
set_option maxHeartbeats 300000 in
set_option maxRecDepth 100000 in
theorem c_settle (l : Launch) (D : va_G) (cI cZ cR : ClassId) (n0 : Nat) (a0 : Nat) (a1 : Nat) (a2 : Nat) (a3 : Nat) (a4 : Nat) (a5 : Nat) (a6 : Nat) (a7 : Nat) (a8 : Nat) (a9 : Nat) (E : Nat) (Ac : Nat) (w0 : Nat) (th : Nat → Int32) (fr : Nat → Int32) (to : Nat → Int32) (le : Nat → Int32) (ke : Nat → Int32) (rw : Nat → Int32) (hE : E ≤ 60) (hAc : Ac ≤ 100) (hfr : ∀ i, i < Ac → vp_in (fr i) E) (hto : ∀ i, i < Ac → vp_in (to i) E) : CI l D cI cZ cR yX1_settle wsX1_settle { frames := 3, cells := 0, slots := 0, locals := 65 } [.ref n0, .ref w0] (wc (cO n0 1 [.ref a0, .ref a1, .ref a2, .ref a3, .ref a4, .ref a5, .ref a6, .ref a7, .ref a8, .ref a9, .int (nI E), .int (nI Ac)]) (wc (cA a3 cZ 60 th) (wc (cA a5 cI 100 fr) (wc (cA a6 cI 100 to) (wc (cA a7 cI 100 le) (wc (cA a8 cZ 100 ke) (wc (cA w0 cI 60 rw) wN))))))) (fun (r : Int32) (u : Nat → Int32) => (r = 1 ∧ ((krT fr to le (hdB (tbC th) ke fr to) Ac (E + 1) rw).1 = true ∧ u = (krT fr to le (hdB (tbC th) ke fr to) Ac (E + 1) rw).2)) ∨ (r = 0 ∧ ((krT fr to le (hdB (tbC th) ke fr to) Ac (E + 1) rw).1 = false ∧ u = (krT fr to le (hdB (tbC th) ke fr to) Ac (E + 1) rw).2))) (fun (u : Nat → Int32) => (wc (cO n0 1 [.ref a0, .ref a1, .ref a2, .ref a3, .ref a4, .ref a5, .ref a6, .ref a7, .ref a8, .ref a9, .int (nI E), .int (nI Ac)]) (wc (cA a3 cZ 60 th) (wc (cA a5 cI 100 fr) (wc (cA a6 cI 100 to) (wc (cA a7 cI 100 le) (wc (cA a8 cZ 100 ke) (wc (cA w0 cI 60 u) wN)))))))) := by
  intro sz9
  refine en_W (Qc := fun A => va_Qi (fun (r : Int32) (u : Nat → Int32) => (r = 1 ∧ ((krT fr to le (hdB (tbC th) ke fr to) Ac (E + 1) rw).1 = true ∧ u = (krT fr to le (hdB (tbC th) ke fr to) Ac (E + 1) rw).2)) ∨ (r = 0 ∧ ((krT fr to le (hdB (tbC th) ke fr to) Ac (E + 1) rw).1 = false ∧ u = (krT fr to le (hdB (tbC th) ke fr to) Ac (E + 1) rw).2))) (sB D cI cZ cR (fun (u : Nat → Int32) => (wc (cO n0 1 [.ref a0, .ref a1, .ref a2, .ref a3, .ref a4, .ref a5, .ref a6, .ref a7, .ref a8, .ref a9, .int (nI E), .int (nI Ac)]) (wc (cA a3 cZ 60 th) (wc (cA a5 cI 100 fr) (wc (cA a6 cI 100 to) (wc (cA a7 cI 100 le) (wc (cA a8 cZ 100 ke) (wc (cA w0 cI 60 u) wN)))))))) A) A) (cc := cX1_settle) (maxL := 3) (ret := (some .boolean)) (by decide) rfl (Nat.le_of_ble_eq_true rfl) ?_
  intro p e s m below meth c A ls hx hb hr hts hown hlocks hin hml hK hP hD hS hA hl
  have hown : s.vm.findClass RX1 = some m.cls := hown
  have hl : lv_has ls 3 [(0, .ref n0), (1, .ref w0)] := hl
  refine lv_iconst (v := 0) hx hb dX1_settle_0 (by decide) ?_
  refine lv_istore_n (lv' := [(2, .int 0), (0, .ref n0), (1, .ref w0)]) hx hb dX1_settle_1 rfl hl (by decide) rfl (fun ls hl => ?_)
  refine lp_settle l D cI cZ cR n0 a0 a1 a2 a3 a4 a5 a6 a7 a8 a9 E Ac w0 th fr to le ke rw hE hAc hfr hto hx hb hts hown hml hK hA (fun k ru hk hru htt H locs ls hP hD hS hl => ?_) (fun k ru hk hru hkE H locs ls hP hD hS hl => ?_) _ 0 rw (by first | with_reducible assumption | omega | exact vp_le (by with_reducible assumption) (by omega) | (intros; omega)) ((by first | exact krT_g2 hru (by omega) hf_12.1 hf_12.2 | exact (by rw [hf_12.2, krM_id _ hf_12.1]; exact hru) | exact hru | rfl)) (Nat.lt_succ_self _) _ _ _ (hP.sub [0, 1, 2, 3, 4, 5, 6] rfl) (hD.sub [0, 1, 2, 3, 4, 5, 6] (by decide) rfl) hS (lv_sub hl [0, 1, 2] rfl)
  · refine lv_iconst (v := 1) hx hb dX1_settle_18 (by decide) ?_
    exact en_z ru hx hb hr hlocks hK (hP.sub [0, 1, 2, 3, 4, 5, 6] rfl) (hD.sub [0, 1, 2, 3, 4, 5, 6] (by decide) rfl) hS (Nat.le_of_ble_eq_true rfl) (Nat.le_of_ble_eq_true rfl) dX1_settle_19 rfl (Or.inl ⟨rfl, by first | exact krT_s2 hru (by omega) hf_12.1 hf_12.2 | exact krT_e2 hru (by omega) | exact htt⟩)
  · refine lv_iconst (v := 0) hx hb dX1_settle_26 (by decide) ?_
    exact en_z ru hx hb hr hlocks hK (hP.sub [0, 1, 2, 3, 4, 5, 6] rfl) (hD.sub [0, 1, 2, 3, 4, 5, 6] (by decide) rfl) hS (Nat.le_of_ble_eq_true rfl) (Nat.le_of_ble_eq_true rfl) dX1_settle_27 rfl (Or.inr ⟨rfl, by first | exact krT_s2 hru (by omega) hf_12.1 hf_12.2 | exact krT_e2 hru (by omega) | exact htt⟩)
