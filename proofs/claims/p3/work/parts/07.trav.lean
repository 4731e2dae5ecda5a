set_option maxHeartbeats 300000 in
set_option maxRecDepth 100000 in
theorem c_hasGroup (l : Launch) (D : va_G) (cI cZ cR : ClassId) (t0 : Nat) (v1 : Nat) (v2 : Nat) (v3 : Nat) (v4 : Nat) (v5 : Nat) (v6 : Nat) (Gr : Nat) (n0 : Nat) (e0 : Int32) (hGr : Gr ≤ 30) : CI l D cI cZ cR yX4_hasGroup wsX4_hasGroup { frames := 0, cells := 0, slots := 0, locals := 0 } [.ref t0, .int e0] [(t0, .inr (4, [.ref n0, .ref v1, .ref v2, .ref v3, .ref v4, .ref v5, .ref v6, .int (nI Gr)]))] (fun (r : Int32) (u : Unit) => (r = 1 ∧ vp_in e0 Gr) ∨ (r = 0 ∧ ¬ vp_in e0 Gr)) (fun (u : Unit) => [(t0, .inr (4, [.ref n0, .ref v1, .ref v2, .ref v3, .ref v4, .ref v5, .ref v6, .int (nI Gr)]))]) := by
  intro sz9
  refine en_W (Qc := fun A => va_Qi (fun (r : Int32) (u : Unit) => (r = 1 ∧ vp_in e0 Gr) ∨ (r = 0 ∧ ¬ vp_in e0 Gr)) (sB D cI cZ cR (fun (u : Unit) => [(t0, .inr (4, [.ref n0, .ref v1, .ref v2, .ref v3, .ref v4, .ref v5, .ref v6, .int (nI Gr)]))]) A) A) (cc := cX4_hasGroup) (maxL := 2) (ret := (some .boolean)) (by decide) rfl (Nat.le_of_ble_eq_true rfl) ?_
  intro p e s m below meth c A ls hx hb hr hts hown hlocks hin hml hK hP hD hS hA hl
  have hown : s.vm.findClass RX4 = some m.cls := hown
  have hl : lv_has ls 2 [(0, .ref t0), (1, .int e0)] := hl
  have kw_0 := hts (.fieldLink RX4 30 "DelayDesk$Travellers" "groups" "I") (by decide +kernel)
  have iX4 : ∀ w ∈ u_ws RX4 TX4 8, w ∈ wsX4_hasGroup := by decide +kernel
  refine lv_iload_n hx hb dX4_hasGroup_0 rfl (lv_at hl 1 rfl) ?_
  refine lv_if_lt (tgt := 16) hx hb dX4_hasGroup_1 (by decide) (fun c_1 => ?_) (fun c_1 => ?_)
  · refine lv_iconst (v := 0) hx hb dX4_hasGroup_16 (by decide) ?_
    exact en_z () hx hb hr hlocks hK (hP.sub [0] rfl) (hD.sub [0] (by decide) rfl) hS (Nat.le_of_ble_eq_true rfl) (Nat.le_of_ble_eq_true rfl) dX4_hasGroup_17 rfl (Or.inr ⟨rfl, by first | exact vp_mk (by omega) (by assumption) (by assumption) | exact vp_no1 (by assumption) | exact vp_no2 (by omega) (by assumption)⟩)
  · refine lv_iload_n hx hb dX4_hasGroup_4 rfl (lv_at hl 1 rfl) ?_
    refine lv_aload_n hx hb dX4_hasGroup_5 rfl (lv_at hl 0 rfl) ?_
    refine va_get (D := D) (ci := 4) (v := .int (nI Gr)) (C := RX4) (T := TX4) (N := 8) hx hb hts iX4 hown hK.1 hP 0 rfl rfl 7 (by decide) kw_0 (fun _ h9 => h9) rfl dX4_hasGroup_6 ?_
    refine lv_icmp_ge (tgt := 16) hx hb dX4_hasGroup_9 (by decide) (fun c_9 => ?_) (fun c_9 => ?_)
    · refine lv_iconst (v := 0) hx hb dX4_hasGroup_16 (by decide) ?_
      exact en_z () hx hb hr hlocks hK (hP.sub [0] rfl) (hD.sub [0] (by decide) rfl) hS (Nat.le_of_ble_eq_true rfl) (Nat.le_of_ble_eq_true rfl) dX4_hasGroup_17 rfl (Or.inr ⟨rfl, by first | exact vp_mk (by omega) (by assumption) (by assumption) | exact vp_no1 (by assumption) | exact vp_no2 (by omega) (by assumption)⟩)
    · refine lv_iconst (v := 1) hx hb dX4_hasGroup_12 (by decide) ?_
      refine lv_goto (tgt := 17) hx hb dX4_hasGroup_13 (by decide) ?_
      exact en_z () hx hb hr hlocks hK (hP.sub [0] rfl) (hD.sub [0] (by decide) rfl) hS (Nat.le_of_ble_eq_true rfl) (Nat.le_of_ble_eq_true rfl) dX4_hasGroup_17 rfl (Or.inl ⟨rfl, by first | exact vp_mk (by omega) (by assumption) (by assumption) | exact vp_no1 (by assumption) | exact vp_no2 (by omega) (by assumption)⟩)
set_option maxHeartbeats 300000 in
set_option maxRecDepth 100000 in
theorem c_trainAfter (l : Launch) (D : va_G) (cI cZ cR : ClassId) (t0 : Nat) (v1 : Nat) (v2 : Nat) (v3 : Nat) (v4 : Nat) (v5 : Nat) (v6 : Nat) (Gr : Nat) (n0 : Nat) (a0 : Nat) (a1 : Nat) (a2 : Nat) (a3 : Nat) (a4 : Nat) (a5 : Nat) (a6 : Nat) (a7 : Nat) (a8 : Nat) (a9 : Nat) (E : Nat) (Ac : Nat) (tr : Nat → Int32) (ki : Nat → Int32) (fr : Nat → Int32) (to : Nat → Int32) (q1 : Int32) (x1 : Int32) (hE : E ≤ 60) (hAc : Ac ≤ 100) (hfr : ∀ i, i < Ac → vp_in (fr i) E) (hto : ∀ i, i < Ac → vp_in (to i) E) : CI l D cI cZ cR yX4_trainAfter wsX4_trainAfter { frames := 2, cells := 0, slots := 0, locals := 43 } [.ref t0, .int q1, .int x1] [(t0, .inr (4, [.ref n0, .ref v1, .ref v2, .ref v3, .ref v4, .ref v5, .ref v6, .int (nI Gr)])), (n0, .inr (1, [.ref a0, .ref a1, .ref a2, .ref a3, .ref a4, .ref a5, .ref a6, .ref a7, .ref a8, .ref a9, .int (nI E), .int (nI Ac)])), (a0, .inl (cI, 60, .inl tr)), (a4, .inl (cI, 100, .inl ki)), (a5, .inl (cI, 100, .inl fr)), (a6, .inl (cI, 100, .inl to))] (fun (r : Int32) (u : Unit) => (r = q1 ∧ (x1 = (-1) ∨ q1 = (-1))) ∨ (r = (-1) ∧ (¬ (x1 = (-1) ∨ q1 = (-1)) ∧ ¬ ((vp_in x1 Ac ∧ ki x1.toNatClampNeg = 2) ∧ tr (fr x1.toNatClampNeg).toNatClampNeg = q1))) ∨ (r = (tr (to x1.toNatClampNeg).toNatClampNeg) ∧ (¬ (x1 = (-1) ∨ q1 = (-1)) ∧ ((vp_in x1 Ac ∧ ki x1.toNatClampNeg = 2) ∧ tr (fr x1.toNatClampNeg).toNatClampNeg = q1)))) (fun (u : Unit) => [(t0, .inr (4, [.ref n0, .ref v1, .ref v2, .ref v3, .ref v4, .ref v5, .ref v6, .int (nI Gr)])), (n0, .inr (1, [.ref a0, .ref a1, .ref a2, .ref a3, .ref a4, .ref a5, .ref a6, .ref a7, .ref a8, .ref a9, .int (nI E), .int (nI Ac)])), (a0, .inl (cI, 60, .inl tr)), (a4, .inl (cI, 100, .inl ki)), (a5, .inl (cI, 100, .inl fr)), (a6, .inl (cI, 100, .inl to))]) := by
  intro sz9
  refine en_W (Qc := fun A => va_Qi (fun (r : Int32) (u : Unit) => (r = q1 ∧ (x1 = (-1) ∨ q1 = (-1))) ∨ (r = (-1) ∧ (¬ (x1 = (-1) ∨ q1 = (-1)) ∧ ¬ ((vp_in x1 Ac ∧ ki x1.toNatClampNeg = 2) ∧ tr (fr x1.toNatClampNeg).toNatClampNeg = q1))) ∨ (r = (tr (to x1.toNatClampNeg).toNatClampNeg) ∧ (¬ (x1 = (-1) ∨ q1 = (-1)) ∧ ((vp_in x1 Ac ∧ ki x1.toNatClampNeg = 2) ∧ tr (fr x1.toNatClampNeg).toNatClampNeg = q1)))) (sB D cI cZ cR (fun (u : Unit) => [(t0, .inr (4, [.ref n0, .ref v1, .ref v2, .ref v3, .ref v4, .ref v5, .ref v6, .int (nI Gr)])), (n0, .inr (1, [.ref a0, .ref a1, .ref a2, .ref a3, .ref a4, .ref a5, .ref a6, .ref a7, .ref a8, .ref a9, .int (nI E), .int (nI Ac)])), (a0, .inl (cI, 60, .inl tr)), (a4, .inl (cI, 100, .inl ki)), (a5, .inl (cI, 100, .inl fr)), (a6, .inl (cI, 100, .inl to))]) A) A) (cc := cX4_trainAfter) (maxL := 3) (ret := (some .int)) (by decide) rfl (Nat.le_of_ble_eq_true rfl) ?_
  intro p e s m below meth c A ls hx hb hr hts hown hlocks hin hml hK hP hD hS hA hl
  have hown : s.vm.findClass RX4 = some m.cls := hown
  have hl : lv_has ls 3 [(0, .ref t0), (1, .int q1), (2, .int x1)] := hl
  have kw_0 := hts (.fieldLink RX4 34 "DelayDesk$Travellers" "net" "LDelayDesk$Net;") (by decide +kernel)
  have iX4 : ∀ w ∈ u_ws RX4 TX4 8, w ∈ wsX4_trainAfter := by decide +kernel
  have kw_2 := hts (.fieldLink RX4 44 "DelayDesk$Net" "train" "[I") (by decide +kernel)
  have iX1 : ∀ w ∈ u_ws RX1 TX1 12, w ∈ wsX4_trainAfter := by decide +kernel
  have kw_4 := hts (.fieldLink RX4 55 "DelayDesk$Net" "from" "[I") (by decide +kernel)
  have kw_5 := hts (.fieldLink RX4 58 "DelayDesk$Net" "to" "[I") (by decide +kernel)
  refine lv_iload_n hx hb dX4_trainAfter_0 rfl (lv_at hl 2 rfl) ?_
  refine lv_iconst (v := (-1)) hx hb dX4_trainAfter_1 (by decide) ?_
  refine lv_icmp_eq (tgt := 10) hx hb dX4_trainAfter_2 (by decide) (fun c_2 => ?_) (fun c_2 => ?_)
  · refine lv_iload_n hx hb dX4_trainAfter_10 rfl (lv_at hl 1 rfl) ?_
    exact en_i () hx hb hr hlocks hK (hP.sub [0, 1, 2, 3, 4, 5] rfl) (hD.sub [0, 1, 2, 3, 4, 5] (by decide) rfl) hS (Nat.le_of_ble_eq_true rfl) (Nat.le_of_ble_eq_true rfl) dX4_trainAfter_11 (Or.inl ⟨rfl, by first | exact Or.inl (by assumption) | exact Or.inr (by assumption) | exact ⟨fun h => h.elim (by assumption) (by assumption), by assumption, by assumption⟩ | exact ⟨fun h => h.elim (by assumption) (by assumption), fun h => absurd h.1 (by assumption)⟩ | exact ⟨fun h => h.elim (by assumption) (by assumption), fun h => absurd h.2 (by assumption)⟩⟩)
  · refine lv_iload_n hx hb dX4_trainAfter_5 rfl (lv_at hl 1 rfl) ?_
    refine lv_iconst (v := (-1)) hx hb dX4_trainAfter_6 (by decide) ?_
    refine lv_icmp_ne (tgt := 12) hx hb dX4_trainAfter_7 (by decide) (fun c_7 => ?_) (fun c_7 => ?_)
    · refine lv_aload_n hx hb dX4_trainAfter_12 rfl (lv_at hl 0 rfl) ?_
      refine va_get (D := D) (ci := 4) (v := .ref n0) (C := RX4) (T := TX4) (N := 8) hx hb hts iX4 hown hK.1 hP 0 rfl rfl 0 (by decide) kw_0 (fun _ h9 => h9) rfl dX4_trainAfter_13 ?_
      refine lv_iload_n hx hb dX4_trainAfter_16 rfl (lv_at hl 2 rfl) ?_
      refine lv_iconst (v := 2) hx hb dX4_trainAfter_17 (by decide) ?_
      refine cl_i (wr := [(t0, .inr (4, [.ref n0, .ref v1, .ref v2, .ref v3, .ref v4, .ref v5, .ref v6, .int (nI Gr)])), (a0, .inl (cI, 60, .inl tr)), (a5, .inl (cI, 100, .inl fr)), (a6, .inl (cI, 100, .inl to))]) (va_runV (As := [.int x1, .int 2]) (rest := []) ⟨hx, hb, hml, hown, hts⟩ (c_isOfKind l D cI cZ cR n0 a0 a1 a2 a3 a4 a5 a6 a7 a8 a9 E Ac ki x1 2 (by omega) s.heap.size) (cwV 2 hts gX4_trainAfter_X1_isOfKind rfl rfl rfl (by decide +kernel) ⟨Nat.le_of_ble_eq_true rfl, Nat.le_of_ble_eq_true rfl⟩) (pV 1 1 hK hP hD [1, 3] rfl (by decide) rfl rfl) rfl rfl hl.1 rfl (lv_room (Nat.le_of_ble_eq_true rfl)) dX4_trainAfter_18 ⟨Nat.le_of_ble_eq_true rfl, Nat.le_of_ble_eq_true rfl⟩) hP hD hS hA [1, 3] [0, 2, 4, 5] rfl rfl (by decide) (by decide) (fun r_18 u_18 H locs hw_18 hP hD hS => ?_)
      have hP : va_P D vwCl [(t0, .inr (4, [.ref n0, .ref v1, .ref v2, .ref v3, .ref v4, .ref v5, .ref v6, .int (nI Gr)])), (a0, .inl (cI, 60, .inl tr)), (a5, .inl (cI, 100, .inl fr)), (a6, .inl (cI, 100, .inl to)), (n0, .inr (1, [.ref a0, .ref a1, .ref a2, .ref a3, .ref a4, .ref a5, .ref a6, .ref a7, .ref a8, .ref a9, .int (nI E), .int (nI Ac)])), (a4, .inl (cI, 100, .inl ki))] H := hP
      have hD : va_D A [(t0, .inr (4, [.ref n0, .ref v1, .ref v2, .ref v3, .ref v4, .ref v5, .ref v6, .int (nI Gr)])), (a0, .inl (cI, 60, .inl tr)), (a5, .inl (cI, 100, .inl fr)), (a6, .inl (cI, 100, .inl to)), (n0, .inr (1, [.ref a0, .ref a1, .ref a2, .ref a3, .ref a4, .ref a5, .ref a6, .ref a7, .ref a8, .ref a9, .int (nI E), .int (nI Ac)])), (a4, .inl (cI, 100, .inl ki))] := hD
      rcases hw_18 with ⟨rfl, hf_18⟩ | ⟨rfl, hf_18⟩
      · have hv18 : vp_in x1 Ac := hf_18.1
        refine lv_if_eq (tgt := 45) hx hb dX4_trainAfter_21 (by decide) (fun c_21 => absurd c_21 (by decide)) (fun c_21 => ?_)
        refine lv_aload_n hx hb dX4_trainAfter_24 rfl (lv_at hl 0 rfl) ?_
        refine va_get (D := D) (ci := 4) (v := .ref n0) (C := RX4) (T := TX4) (N := 8) hx hb hts iX4 hown hK.1 hP 0 rfl rfl 0 (by decide) kw_0 (fun _ h9 => h9) rfl dX4_trainAfter_25 ?_
        refine va_get (D := D) (ci := 1) (v := .ref a0) (C := RX1) (T := TX1) (N := 12) hx hb hts iX1 hown hK.1 hP 4 rfl rfl 0 (by decide) kw_2 (fun _ h9 => h9) rfl dX4_trainAfter_28 ?_
        refine lv_aload_n hx hb dX4_trainAfter_31 rfl (lv_at hl 0 rfl) ?_
        refine va_get (D := D) (ci := 4) (v := .ref n0) (C := RX4) (T := TX4) (N := 8) hx hb hts iX4 hown hK.1 hP 0 rfl rfl 0 (by decide) kw_0 (fun _ h9 => h9) rfl dX4_trainAfter_32 ?_
        refine va_get (D := D) (ci := 1) (v := .ref a5) (C := RX1) (T := TX1) (N := 12) hx hb hts iX1 hown hK.1 hP 4 rfl rfl 5 (by decide) kw_4 (fun _ h9 => h9) rfl dX4_trainAfter_35 ?_
        refine lv_iload_n hx hb dX4_trainAfter_38 rfl (lv_at hl 2 rfl) ?_
        refine va_iald hx hb hK.1 hP 2 0 rfl rfl (by first | with_reducible assumption | exact vp_le (by with_reducible assumption) (by omega)) dX4_trainAfter_39 ?_
        have f_39 : vp_in (fr x1.toNatClampNeg) E := hfr _ (vp_lt (by with_reducible assumption))
        refine va_iald hx hb hK.1 hP 1 0 rfl rfl (by first | with_reducible assumption | exact vp_le (by with_reducible assumption) (by omega)) dX4_trainAfter_40 ?_
        refine lv_iload_n hx hb dX4_trainAfter_41 rfl (lv_at hl 1 rfl) ?_
        refine lv_icmp_eq (tgt := 47) hx hb dX4_trainAfter_42 (by decide) (fun c_42 => ?_) (fun c_42 => ?_)
        · refine lv_aload_n hx hb dX4_trainAfter_47 rfl (lv_at hl 0 rfl) ?_
          refine va_get (D := D) (ci := 4) (v := .ref n0) (C := RX4) (T := TX4) (N := 8) hx hb hts iX4 hown hK.1 hP 0 rfl rfl 0 (by decide) kw_0 (fun _ h9 => h9) rfl dX4_trainAfter_48 ?_
          refine va_get (D := D) (ci := 1) (v := .ref a0) (C := RX1) (T := TX1) (N := 12) hx hb hts iX1 hown hK.1 hP 4 rfl rfl 0 (by decide) kw_2 (fun _ h9 => h9) rfl dX4_trainAfter_51 ?_
          refine lv_aload_n hx hb dX4_trainAfter_54 rfl (lv_at hl 0 rfl) ?_
          refine va_get (D := D) (ci := 4) (v := .ref n0) (C := RX4) (T := TX4) (N := 8) hx hb hts iX4 hown hK.1 hP 0 rfl rfl 0 (by decide) kw_0 (fun _ h9 => h9) rfl dX4_trainAfter_55 ?_
          refine va_get (D := D) (ci := 1) (v := .ref a6) (C := RX1) (T := TX1) (N := 12) hx hb hts iX1 hown hK.1 hP 4 rfl rfl 6 (by decide) kw_5 (fun _ h9 => h9) rfl dX4_trainAfter_58 ?_
          refine lv_iload_n hx hb dX4_trainAfter_61 rfl (lv_at hl 2 rfl) ?_
          refine va_iald hx hb hK.1 hP 3 0 rfl rfl (by first | with_reducible assumption | exact vp_le (by with_reducible assumption) (by omega)) dX4_trainAfter_62 ?_
          have f_62 : vp_in (to x1.toNatClampNeg) E := hto _ (vp_lt (by with_reducible assumption))
          refine va_iald hx hb hK.1 hP 1 0 rfl rfl (by first | with_reducible assumption | exact vp_le (by with_reducible assumption) (by omega)) dX4_trainAfter_63 ?_
          exact en_i () hx hb hr hlocks hK (hP.sub [0, 4, 1, 5, 2, 3] rfl) (hD.sub [0, 4, 1, 5, 2, 3] (by decide) rfl) hS (Nat.le_of_ble_eq_true rfl) (Nat.le_of_ble_eq_true rfl) dX4_trainAfter_64 (Or.inr (Or.inr ⟨rfl, by first | exact Or.inl (by assumption) | exact Or.inr (by assumption) | exact ⟨fun h => h.elim (by assumption) (by assumption), by assumption, by assumption⟩ | exact ⟨fun h => h.elim (by assumption) (by assumption), fun h => absurd h.1 (by assumption)⟩ | exact ⟨fun h => h.elim (by assumption) (by assumption), fun h => absurd h.2 (by assumption)⟩⟩))
        · refine lv_iconst (v := (-1)) hx hb dX4_trainAfter_45 (by decide) ?_
          exact en_i () hx hb hr hlocks hK (hP.sub [0, 4, 1, 5, 2, 3] rfl) (hD.sub [0, 4, 1, 5, 2, 3] (by decide) rfl) hS (Nat.le_of_ble_eq_true rfl) (Nat.le_of_ble_eq_true rfl) dX4_trainAfter_46 (Or.inr (Or.inl ⟨rfl, by first | exact Or.inl (by assumption) | exact Or.inr (by assumption) | exact ⟨fun h => h.elim (by assumption) (by assumption), by assumption, by assumption⟩ | exact ⟨fun h => h.elim (by assumption) (by assumption), fun h => absurd h.1 (by assumption)⟩ | exact ⟨fun h => h.elim (by assumption) (by assumption), fun h => absurd h.2 (by assumption)⟩⟩))
      · refine lv_if_eq (tgt := 45) hx hb dX4_trainAfter_21 (by decide) (fun c_21 => ?_) (fun c_21 => absurd (by decide) c_21)
        refine lv_iconst (v := (-1)) hx hb dX4_trainAfter_45 (by decide) ?_
        exact en_i () hx hb hr hlocks hK (hP.sub [0, 4, 1, 5, 2, 3] rfl) (hD.sub [0, 4, 1, 5, 2, 3] (by decide) rfl) hS (Nat.le_of_ble_eq_true rfl) (Nat.le_of_ble_eq_true rfl) dX4_trainAfter_46 (Or.inr (Or.inl ⟨rfl, by first | exact Or.inl (by assumption) | exact Or.inr (by assumption) | exact ⟨fun h => h.elim (by assumption) (by assumption), by assumption, by assumption⟩ | exact ⟨fun h => h.elim (by assumption) (by assumption), fun h => absurd h.1 (by assumption)⟩ | exact ⟨fun h => h.elim (by assumption) (by assumption), fun h => absurd h.2 (by assumption)⟩⟩))
    · refine lv_iload_n hx hb dX4_trainAfter_10 rfl (lv_at hl 1 rfl) ?_
      exact en_i () hx hb hr hlocks hK (hP.sub [0, 1, 2, 3, 4, 5] rfl) (hD.sub [0, 1, 2, 3, 4, 5] (by decide) rfl) hS (Nat.le_of_ble_eq_true rfl) (Nat.le_of_ble_eq_true rfl) dX4_trainAfter_11 (Or.inl ⟨rfl, by first | exact Or.inl (by assumption) | exact Or.inr (by assumption) | exact ⟨fun h => h.elim (by assumption) (by assumption), by assumption, by assumption⟩ | exact ⟨fun h => h.elim (by assumption) (by assumption), fun h => absurd h.1 (by assumption)⟩ | exact ⟨fun h => h.elim (by assumption) (by assumption), fun h => absurd h.2 (by assumption)⟩⟩)
set_option maxHeartbeats 300000 in
set_option maxRecDepth 100000 in
theorem c_add (l : Launch) (D : va_G) (cI cZ cR : ClassId) (t0 : Nat) (v1 : Nat) (v2 : Nat) (v3 : Nat) (v4 : Nat) (v5 : Nat) (v6 : Nat) (Gr : Nat) (n0 : Nat) (mn : Nat → Int32) (fi : Nat → Int32) (c1 : Nat → Int32) (c2 : Nat → Int32) (la : Nat → Int32) (wt : Nat → Int32) (f1 : Int32) (f2 : Int32) (f3 : Int32) (f4 : Int32) (f5 : Int32) (f6 : Int32) (hGr : Gr < 30) : CI l D cI cZ cR yX4_add wsX4_add { frames := 0, cells := 0, slots := 0, locals := 0 } [.ref t0, .int f1, .int f2, .int f3, .int f4, .int f5, .int f6] [(t0, .inr (4, [.ref n0, .ref v1, .ref v2, .ref v3, .ref v4, .ref v5, .ref v6, .int (nI Gr)])), (v1, .inl (cI, 30, .inl mn)), (v2, .inl (cI, 30, .inl fi)), (v3, .inl (cI, 30, .inl c1)), (v4, .inl (cI, 30, .inl c2)), (v5, .inl (cI, 30, .inl la)), (v6, .inl (cI, 30, .inl wt))] (fun (r : Int32) (u : Unit) => r = (nI Gr)) (fun (u : Unit) => [(t0, .inr (4, [.ref n0, .ref v1, .ref v2, .ref v3, .ref v4, .ref v5, .ref v6, .int (nI (Gr + 1))])), (v1, .inl (cI, 30, .inl (upd mn Gr f1))), (v2, .inl (cI, 30, .inl (upd fi Gr f2))), (v3, .inl (cI, 30, .inl (upd c1 Gr f3))), (v4, .inl (cI, 30, .inl (upd c2 Gr f4))), (v5, .inl (cI, 30, .inl (upd la Gr f5))), (v6, .inl (cI, 30, .inl (upd wt Gr f6)))]) := by
  intro sz9
  refine en_W (Qc := fun A => va_Qi (fun (r : Int32) (u : Unit) => r = (nI Gr)) (sB D cI cZ cR (fun (u : Unit) => [(t0, .inr (4, [.ref n0, .ref v1, .ref v2, .ref v3, .ref v4, .ref v5, .ref v6, .int (nI (Gr + 1))])), (v1, .inl (cI, 30, .inl (upd mn Gr f1))), (v2, .inl (cI, 30, .inl (upd fi Gr f2))), (v3, .inl (cI, 30, .inl (upd c1 Gr f3))), (v4, .inl (cI, 30, .inl (upd c2 Gr f4))), (v5, .inl (cI, 30, .inl (upd la Gr f5))), (v6, .inl (cI, 30, .inl (upd wt Gr f6)))]) A) A) (cc := cX4_add) (maxL := 7) (ret := (some .int)) (by decide) rfl (Nat.le_of_ble_eq_true rfl) ?_
  intro p e s m below meth c A ls hx hb hr hts hown hlocks hin hml hK hP hD hS hA hl
  have hown : s.vm.findClass RX4 = some m.cls := hown
  have hl : lv_has ls 7 [(0, .ref t0), (1, .int f1), (2, .int f2), (3, .int f3), (4, .int f4), (5, .int f5), (6, .int f6)] := hl
  have kw_0 := hts (.fieldLink RX4 9 "DelayDesk$Travellers" "many" "[I") (by decide +kernel)
  have iX4 : ∀ w ∈ u_ws RX4 TX4 8, w ∈ wsX4_add := by decide +kernel
  have kw_2 := hts (.fieldLink RX4 30 "DelayDesk$Travellers" "groups" "I") (by decide +kernel)
  have kw_3 := hts (.fieldLink RX4 15 "DelayDesk$Travellers" "first" "[I") (by decide +kernel)
  have kw_4 := hts (.fieldLink RX4 18 "DelayDesk$Travellers" "changeA" "[I") (by decide +kernel)
  have kw_5 := hts (.fieldLink RX4 21 "DelayDesk$Travellers" "changeB" "[I") (by decide +kernel)
  have kw_6 := hts (.fieldLink RX4 24 "DelayDesk$Travellers" "last" "[I") (by decide +kernel)
  have kw_7 := hts (.fieldLink RX4 27 "DelayDesk$Travellers" "waiting" "[I") (by decide +kernel)
  refine lv_aload_n hx hb dX4_add_0 rfl (lv_at hl 0 rfl) ?_
  refine va_get (D := D) (ci := 4) (v := .ref v1) (C := RX4) (T := TX4) (N := 8) hx hb hts iX4 hown hK.1 hP 0 rfl rfl 1 (by decide) kw_0 (fun _ h9 => h9) rfl dX4_add_1 ?_
  refine lv_aload_n hx hb dX4_add_4 rfl (lv_at hl 0 rfl) ?_
  refine va_get (D := D) (ci := 4) (v := .int (nI Gr)) (C := RX4) (T := TX4) (N := 8) hx hb hts iX4 hown hK.1 hP 0 rfl rfl 7 (by decide) kw_2 (fun _ h9 => h9) rfl dX4_add_5 ?_
  refine lv_iload_n hx hb dX4_add_8 rfl (lv_at hl 1 rfl) ?_
  refine wa_I hx hb hK hP hD hS 1 rfl (k := Gr) (by omega) (by decide) dX4_add_9 (fun H locs hP hD hS => ?_)
  have hP : va_P D vwCl [(t0, .inr (4, [.ref n0, .ref v1, .ref v2, .ref v3, .ref v4, .ref v5, .ref v6, .int (nI Gr)])), (v1, .inl (cI, 30, .inl (upd mn Gr f1))), (v2, .inl (cI, 30, .inl fi)), (v3, .inl (cI, 30, .inl c1)), (v4, .inl (cI, 30, .inl c2)), (v5, .inl (cI, 30, .inl la)), (v6, .inl (cI, 30, .inl wt))] H := hP
  have hD : va_D A [(t0, .inr (4, [.ref n0, .ref v1, .ref v2, .ref v3, .ref v4, .ref v5, .ref v6, .int (nI Gr)])), (v1, .inl (cI, 30, .inl (upd mn Gr f1))), (v2, .inl (cI, 30, .inl fi)), (v3, .inl (cI, 30, .inl c1)), (v4, .inl (cI, 30, .inl c2)), (v5, .inl (cI, 30, .inl la)), (v6, .inl (cI, 30, .inl wt))] := hD
  refine lv_aload_n hx hb dX4_add_10 rfl (lv_at hl 0 rfl) ?_
  refine va_get (D := D) (ci := 4) (v := .ref v2) (C := RX4) (T := TX4) (N := 8) hx hb hts iX4 hown hK.1 hP 0 rfl rfl 2 (by decide) kw_3 (fun _ h9 => h9) rfl dX4_add_11 ?_
  refine lv_aload_n hx hb dX4_add_14 rfl (lv_at hl 0 rfl) ?_
  refine va_get (D := D) (ci := 4) (v := .int (nI Gr)) (C := RX4) (T := TX4) (N := 8) hx hb hts iX4 hown hK.1 hP 0 rfl rfl 7 (by decide) kw_2 (fun _ h9 => h9) rfl dX4_add_15 ?_
  refine lv_iload_n hx hb dX4_add_18 rfl (lv_at hl 2 rfl) ?_
  refine wa_I hx hb hK hP hD hS 2 rfl (k := Gr) (by omega) (by decide) dX4_add_19 (fun H locs hP hD hS => ?_)
  have hP : va_P D vwCl [(t0, .inr (4, [.ref n0, .ref v1, .ref v2, .ref v3, .ref v4, .ref v5, .ref v6, .int (nI Gr)])), (v1, .inl (cI, 30, .inl (upd mn Gr f1))), (v2, .inl (cI, 30, .inl (upd fi Gr f2))), (v3, .inl (cI, 30, .inl c1)), (v4, .inl (cI, 30, .inl c2)), (v5, .inl (cI, 30, .inl la)), (v6, .inl (cI, 30, .inl wt))] H := hP
  have hD : va_D A [(t0, .inr (4, [.ref n0, .ref v1, .ref v2, .ref v3, .ref v4, .ref v5, .ref v6, .int (nI Gr)])), (v1, .inl (cI, 30, .inl (upd mn Gr f1))), (v2, .inl (cI, 30, .inl (upd fi Gr f2))), (v3, .inl (cI, 30, .inl c1)), (v4, .inl (cI, 30, .inl c2)), (v5, .inl (cI, 30, .inl la)), (v6, .inl (cI, 30, .inl wt))] := hD
  refine lv_aload_n hx hb dX4_add_20 rfl (lv_at hl 0 rfl) ?_
  refine va_get (D := D) (ci := 4) (v := .ref v3) (C := RX4) (T := TX4) (N := 8) hx hb hts iX4 hown hK.1 hP 0 rfl rfl 3 (by decide) kw_4 (fun _ h9 => h9) rfl dX4_add_21 ?_
  refine lv_aload_n hx hb dX4_add_24 rfl (lv_at hl 0 rfl) ?_
  refine va_get (D := D) (ci := 4) (v := .int (nI Gr)) (C := RX4) (T := TX4) (N := 8) hx hb hts iX4 hown hK.1 hP 0 rfl rfl 7 (by decide) kw_2 (fun _ h9 => h9) rfl dX4_add_25 ?_
  refine lv_iload_n hx hb dX4_add_28 rfl (lv_at hl 3 rfl) ?_
  refine wa_I hx hb hK hP hD hS 3 rfl (k := Gr) (by omega) (by decide) dX4_add_29 (fun H locs hP hD hS => ?_)
  have hP : va_P D vwCl [(t0, .inr (4, [.ref n0, .ref v1, .ref v2, .ref v3, .ref v4, .ref v5, .ref v6, .int (nI Gr)])), (v1, .inl (cI, 30, .inl (upd mn Gr f1))), (v2, .inl (cI, 30, .inl (upd fi Gr f2))), (v3, .inl (cI, 30, .inl (upd c1 Gr f3))), (v4, .inl (cI, 30, .inl c2)), (v5, .inl (cI, 30, .inl la)), (v6, .inl (cI, 30, .inl wt))] H := hP
  have hD : va_D A [(t0, .inr (4, [.ref n0, .ref v1, .ref v2, .ref v3, .ref v4, .ref v5, .ref v6, .int (nI Gr)])), (v1, .inl (cI, 30, .inl (upd mn Gr f1))), (v2, .inl (cI, 30, .inl (upd fi Gr f2))), (v3, .inl (cI, 30, .inl (upd c1 Gr f3))), (v4, .inl (cI, 30, .inl c2)), (v5, .inl (cI, 30, .inl la)), (v6, .inl (cI, 30, .inl wt))] := hD
  refine lv_aload_n hx hb dX4_add_30 rfl (lv_at hl 0 rfl) ?_
  refine va_get (D := D) (ci := 4) (v := .ref v4) (C := RX4) (T := TX4) (N := 8) hx hb hts iX4 hown hK.1 hP 0 rfl rfl 4 (by decide) kw_5 (fun _ h9 => h9) rfl dX4_add_31 ?_
  refine lv_aload_n hx hb dX4_add_34 rfl (lv_at hl 0 rfl) ?_
  refine va_get (D := D) (ci := 4) (v := .int (nI Gr)) (C := RX4) (T := TX4) (N := 8) hx hb hts iX4 hown hK.1 hP 0 rfl rfl 7 (by decide) kw_2 (fun _ h9 => h9) rfl dX4_add_35 ?_
  refine lv_iload hx hb dX4_add_38 (lv_at hl 4 rfl) ?_
  refine wa_I hx hb hK hP hD hS 4 rfl (k := Gr) (by omega) (by decide) dX4_add_40 (fun H locs hP hD hS => ?_)
  have hP : va_P D vwCl [(t0, .inr (4, [.ref n0, .ref v1, .ref v2, .ref v3, .ref v4, .ref v5, .ref v6, .int (nI Gr)])), (v1, .inl (cI, 30, .inl (upd mn Gr f1))), (v2, .inl (cI, 30, .inl (upd fi Gr f2))), (v3, .inl (cI, 30, .inl (upd c1 Gr f3))), (v4, .inl (cI, 30, .inl (upd c2 Gr f4))), (v5, .inl (cI, 30, .inl la)), (v6, .inl (cI, 30, .inl wt))] H := hP
  have hD : va_D A [(t0, .inr (4, [.ref n0, .ref v1, .ref v2, .ref v3, .ref v4, .ref v5, .ref v6, .int (nI Gr)])), (v1, .inl (cI, 30, .inl (upd mn Gr f1))), (v2, .inl (cI, 30, .inl (upd fi Gr f2))), (v3, .inl (cI, 30, .inl (upd c1 Gr f3))), (v4, .inl (cI, 30, .inl (upd c2 Gr f4))), (v5, .inl (cI, 30, .inl la)), (v6, .inl (cI, 30, .inl wt))] := hD
  refine lv_aload_n hx hb dX4_add_41 rfl (lv_at hl 0 rfl) ?_
  refine va_get (D := D) (ci := 4) (v := .ref v5) (C := RX4) (T := TX4) (N := 8) hx hb hts iX4 hown hK.1 hP 0 rfl rfl 5 (by decide) kw_6 (fun _ h9 => h9) rfl dX4_add_42 ?_
  refine lv_aload_n hx hb dX4_add_45 rfl (lv_at hl 0 rfl) ?_
  refine va_get (D := D) (ci := 4) (v := .int (nI Gr)) (C := RX4) (T := TX4) (N := 8) hx hb hts iX4 hown hK.1 hP 0 rfl rfl 7 (by decide) kw_2 (fun _ h9 => h9) rfl dX4_add_46 ?_
  refine lv_iload hx hb dX4_add_49 (lv_at hl 5 rfl) ?_
  refine wa_I hx hb hK hP hD hS 5 rfl (k := Gr) (by omega) (by decide) dX4_add_51 (fun H locs hP hD hS => ?_)
  have hP : va_P D vwCl [(t0, .inr (4, [.ref n0, .ref v1, .ref v2, .ref v3, .ref v4, .ref v5, .ref v6, .int (nI Gr)])), (v1, .inl (cI, 30, .inl (upd mn Gr f1))), (v2, .inl (cI, 30, .inl (upd fi Gr f2))), (v3, .inl (cI, 30, .inl (upd c1 Gr f3))), (v4, .inl (cI, 30, .inl (upd c2 Gr f4))), (v5, .inl (cI, 30, .inl (upd la Gr f5))), (v6, .inl (cI, 30, .inl wt))] H := hP
  have hD : va_D A [(t0, .inr (4, [.ref n0, .ref v1, .ref v2, .ref v3, .ref v4, .ref v5, .ref v6, .int (nI Gr)])), (v1, .inl (cI, 30, .inl (upd mn Gr f1))), (v2, .inl (cI, 30, .inl (upd fi Gr f2))), (v3, .inl (cI, 30, .inl (upd c1 Gr f3))), (v4, .inl (cI, 30, .inl (upd c2 Gr f4))), (v5, .inl (cI, 30, .inl (upd la Gr f5))), (v6, .inl (cI, 30, .inl wt))] := hD
  refine lv_aload_n hx hb dX4_add_52 rfl (lv_at hl 0 rfl) ?_
  refine va_get (D := D) (ci := 4) (v := .ref v6) (C := RX4) (T := TX4) (N := 8) hx hb hts iX4 hown hK.1 hP 0 rfl rfl 6 (by decide) kw_7 (fun _ h9 => h9) rfl dX4_add_53 ?_
  refine lv_aload_n hx hb dX4_add_56 rfl (lv_at hl 0 rfl) ?_
  refine va_get (D := D) (ci := 4) (v := .int (nI Gr)) (C := RX4) (T := TX4) (N := 8) hx hb hts iX4 hown hK.1 hP 0 rfl rfl 7 (by decide) kw_2 (fun _ h9 => h9) rfl dX4_add_57 ?_
  refine lv_iload hx hb dX4_add_60 (lv_at hl 6 rfl) ?_
  refine wa_I hx hb hK hP hD hS 6 rfl (k := Gr) (by omega) (by decide) dX4_add_62 (fun H locs hP hD hS => ?_)
  have hP : va_P D vwCl [(t0, .inr (4, [.ref n0, .ref v1, .ref v2, .ref v3, .ref v4, .ref v5, .ref v6, .int (nI Gr)])), (v1, .inl (cI, 30, .inl (upd mn Gr f1))), (v2, .inl (cI, 30, .inl (upd fi Gr f2))), (v3, .inl (cI, 30, .inl (upd c1 Gr f3))), (v4, .inl (cI, 30, .inl (upd c2 Gr f4))), (v5, .inl (cI, 30, .inl (upd la Gr f5))), (v6, .inl (cI, 30, .inl (upd wt Gr f6)))] H := hP
  have hD : va_D A [(t0, .inr (4, [.ref n0, .ref v1, .ref v2, .ref v3, .ref v4, .ref v5, .ref v6, .int (nI Gr)])), (v1, .inl (cI, 30, .inl (upd mn Gr f1))), (v2, .inl (cI, 30, .inl (upd fi Gr f2))), (v3, .inl (cI, 30, .inl (upd c1 Gr f3))), (v4, .inl (cI, 30, .inl (upd c2 Gr f4))), (v5, .inl (cI, 30, .inl (upd la Gr f5))), (v6, .inl (cI, 30, .inl (upd wt Gr f6)))] := hD
  refine lv_aload_n hx hb dX4_add_63 rfl (lv_at hl 0 rfl) ?_
  refine lv_dup hx hb dX4_add_64 rfl ?_
  refine va_get (D := D) (ci := 4) (v := .int (nI Gr)) (C := RX4) (T := TX4) (N := 8) hx hb hts iX4 hown hK.1 hP 0 rfl rfl 7 (by decide) kw_2 (fun _ h9 => h9) rfl dX4_add_65 ?_
  refine lv_iconst (v := 1) hx hb dX4_add_68 (by decide) ?_
  refine lv_iadd hx hb dX4_add_69 ?_
  refine W.eq (g2 := F0 m 70 ls [.int (nI (Gr + 1)), .ref t0]) (by first | rw [nI_1] | rw [nI_add] | exact congrArg (fun z => F0 m 70 ls (Value.int z :: _)) (nI_add _ _)) ?_
  refine va_put (D := D) (ci := 4) (v := .int (nI (Gr + 1))) (ty := .int) (C := RX4) (T := TX4) (N := 8) hx hb hts iX4 tyX4 tyX4_ok nmX4 hown hK.1 hP hD hS 0 rfl rfl 7 (by decide) kw_2 (fun _ h9 => h9) rfl (by decide +kernel) rfl rfl (Nat.le_of_ble_eq_true rfl) dX4_add_70 (fun H locs hP hD hS => ?_)
  have hP : va_P D vwCl [(t0, .inr (4, [.ref n0, .ref v1, .ref v2, .ref v3, .ref v4, .ref v5, .ref v6, .int (nI (Gr + 1))])), (v1, .inl (cI, 30, .inl (upd mn Gr f1))), (v2, .inl (cI, 30, .inl (upd fi Gr f2))), (v3, .inl (cI, 30, .inl (upd c1 Gr f3))), (v4, .inl (cI, 30, .inl (upd c2 Gr f4))), (v5, .inl (cI, 30, .inl (upd la Gr f5))), (v6, .inl (cI, 30, .inl (upd wt Gr f6)))] H := hP
  have hD : va_D A [(t0, .inr (4, [.ref n0, .ref v1, .ref v2, .ref v3, .ref v4, .ref v5, .ref v6, .int (nI (Gr + 1))])), (v1, .inl (cI, 30, .inl (upd mn Gr f1))), (v2, .inl (cI, 30, .inl (upd fi Gr f2))), (v3, .inl (cI, 30, .inl (upd c1 Gr f3))), (v4, .inl (cI, 30, .inl (upd c2 Gr f4))), (v5, .inl (cI, 30, .inl (upd la Gr f5))), (v6, .inl (cI, 30, .inl (upd wt Gr f6)))] := hD
  refine lv_aload_n hx hb dX4_add_73 rfl (lv_at hl 0 rfl) ?_
  refine va_get (D := D) (ci := 4) (v := .int (nI (Gr + 1))) (C := RX4) (T := TX4) (N := 8) hx hb hts iX4 hown hK.1 hP 0 rfl rfl 7 (by decide) kw_2 (fun _ h9 => h9) rfl dX4_add_74 ?_
  refine lv_iconst (v := 1) hx hb dX4_add_77 (by decide) ?_
  refine lv_isub hx hb dX4_add_78 ?_
  refine W.eq (g2 := F0 m 79 ls [.int (nI Gr)]) (by rw [nI_pred]) ?_
  exact en_i () hx hb hr hlocks hK (hP.sub [0, 1, 2, 3, 4, 5, 6] rfl) (hD.sub [0, 1, 2, 3, 4, 5, 6] (by decide) rfl) hS (Nat.le_of_ble_eq_true rfl) (Nat.le_of_ble_eq_true rfl) dX4_add_79 (rfl)
set_option maxHeartbeats 300000 in
set_option maxRecDepth 100000 in
theorem c_fails (l : Launch) (D : va_G) (cI cZ cR : ClassId) (t0 : Nat) (v1 : Nat) (v2 : Nat) (v3 : Nat) (v4 : Nat) (v5 : Nat) (v6 : Nat) (Gr : Nat) (n0 : Nat) (a0 : Nat) (a1 : Nat) (a2 : Nat) (a3 : Nat) (a4 : Nat) (a5 : Nat) (a6 : Nat) (a7 : Nat) (a8 : Nat) (a9 : Nat) (E : Nat) (Ac : Nat) (w0 : Nat) (th : Nat → Int32) (fr : Nat → Int32) (to : Nat → Int32) (le : Nat → Int32) (ke : Nat → Int32) (rw : Nat → Int32) (x1 : Int32) (hE : E ≤ 60) (hAc : Ac ≤ 100) (hfr : ∀ i, i < Ac → vp_in (fr i) E) (hto : ∀ i, i < Ac → vp_in (to i) E) (hch : x1 = (-1) ∨ vp_in x1 Ac) : CI l D cI cZ cR yX4_fails wsX4_fails { frames := 0, cells := 0, slots := 0, locals := 0 } [.ref t0, .int x1, .ref w0] [(t0, .inr (4, [.ref n0, .ref v1, .ref v2, .ref v3, .ref v4, .ref v5, .ref v6, .int (nI Gr)])), (n0, .inr (1, [.ref a0, .ref a1, .ref a2, .ref a3, .ref a4, .ref a5, .ref a6, .ref a7, .ref a8, .ref a9, .int (nI E), .int (nI Ac)])), (a3, .inl (cZ, 60, .inl th)), (a5, .inl (cI, 100, .inl fr)), (a6, .inl (cI, 100, .inl to)), (a7, .inl (cI, 100, .inl le)), (a8, .inl (cZ, 100, .inl ke)), (w0, .inl (cI, 60, .inl rw))] (fun (r : Int32) (u : Unit) => True) (fun (u : Unit) => [(t0, .inr (4, [.ref n0, .ref v1, .ref v2, .ref v3, .ref v4, .ref v5, .ref v6, .int (nI Gr)])), (n0, .inr (1, [.ref a0, .ref a1, .ref a2, .ref a3, .ref a4, .ref a5, .ref a6, .ref a7, .ref a8, .ref a9, .int (nI E), .int (nI Ac)])), (a3, .inl (cZ, 60, .inl th)), (a5, .inl (cI, 100, .inl fr)), (a6, .inl (cI, 100, .inl to)), (a7, .inl (cI, 100, .inl le)), (a8, .inl (cZ, 100, .inl ke)), (w0, .inl (cI, 60, .inl rw))]) := by
  intro sz9
  refine en_W (Qc := fun A => va_Qi (fun (r : Int32) (u : Unit) => True) (sB D cI cZ cR (fun (u : Unit) => [(t0, .inr (4, [.ref n0, .ref v1, .ref v2, .ref v3, .ref v4, .ref v5, .ref v6, .int (nI Gr)])), (n0, .inr (1, [.ref a0, .ref a1, .ref a2, .ref a3, .ref a4, .ref a5, .ref a6, .ref a7, .ref a8, .ref a9, .int (nI E), .int (nI Ac)])), (a3, .inl (cZ, 60, .inl th)), (a5, .inl (cI, 100, .inl fr)), (a6, .inl (cI, 100, .inl to)), (a7, .inl (cI, 100, .inl le)), (a8, .inl (cZ, 100, .inl ke)), (w0, .inl (cI, 60, .inl rw))]) A) A) (cc := cX4_fails) (maxL := 5) (ret := (some .boolean)) (by decide) rfl (Nat.le_of_ble_eq_true rfl) ?_
  intro p e s m below meth c A ls hx hb hr hts hown hlocks hin hml hK hP hD hS hA hl
  have hown : s.vm.findClass RX4 = some m.cls := hown
  have hl : lv_has ls 5 [(0, .ref t0), (1, .int x1), (2, .ref w0)] := hl
  have kw_0 := hts (.fieldLink RX4 34 "DelayDesk$Travellers" "net" "LDelayDesk$Net;") (by decide +kernel)
  have iX4 : ∀ w ∈ u_ws RX4 TX4 8, w ∈ wsX4_fails := by decide +kernel
  have kw_2 := hts (.fieldLink RX4 55 "DelayDesk$Net" "from" "[I") (by decide +kernel)
  have iX1 : ∀ w ∈ u_ws RX1 TX1 12, w ∈ wsX4_fails := by decide +kernel
  have kw_4 := hts (.fieldLink RX4 58 "DelayDesk$Net" "to" "[I") (by decide +kernel)
  have kw_5 := hts (.fieldLink RX4 61 "DelayDesk$Net" "there" "[Z") (by decide +kernel)
  have kw_6 := hts (.fieldLink RX4 69 "DelayDesk$Net" "kept" "[Z") (by decide +kernel)
  have kw_7 := hts (.fieldLink RX4 72 "DelayDesk$Net" "least" "[I") (by decide +kernel)
  refine lv_iload_n hx hb dX4_fails_0 rfl (lv_at hl 1 rfl) ?_
  refine lv_iconst (v := (-1)) hx hb dX4_fails_1 (by decide) ?_
  refine lv_icmp_ne (tgt := 7) hx hb dX4_fails_2 (by decide) (fun c_2 => ?_) (fun c_2 => ?_)
  · have hv1 : vp_in x1 Ac := hch.resolve_left c_2
    refine lv_aload_n hx hb dX4_fails_7 rfl (lv_at hl 0 rfl) ?_
    refine va_get (D := D) (ci := 4) (v := .ref n0) (C := RX4) (T := TX4) (N := 8) hx hb hts iX4 hown hK.1 hP 0 rfl rfl 0 (by decide) kw_0 (fun _ h9 => h9) rfl dX4_fails_8 ?_
    refine va_get (D := D) (ci := 1) (v := .ref a5) (C := RX1) (T := TX1) (N := 12) hx hb hts iX1 hown hK.1 hP 1 rfl rfl 5 (by decide) kw_2 (fun _ h9 => h9) rfl dX4_fails_11 ?_
    refine lv_iload_n hx hb dX4_fails_14 rfl (lv_at hl 1 rfl) ?_
    refine va_iald hx hb hK.1 hP 3 0 rfl rfl (by first | with_reducible assumption | exact vp_le (by with_reducible assumption) (by omega)) dX4_fails_15 ?_
    have f_15 : vp_in (fr x1.toNatClampNeg) E := hfr _ (vp_lt (by with_reducible assumption))
    refine lv_istore_n (lv' := [(3, .int (fr x1.toNatClampNeg)), (0, .ref t0), (1, .int x1), (2, .ref w0)]) hx hb dX4_fails_16 rfl hl (by decide) rfl (fun ls hl => ?_)
    refine lv_aload_n hx hb dX4_fails_17 rfl (lv_at hl 1 rfl) ?_
    refine va_get (D := D) (ci := 4) (v := .ref n0) (C := RX4) (T := TX4) (N := 8) hx hb hts iX4 hown hK.1 hP 0 rfl rfl 0 (by decide) kw_0 (fun _ h9 => h9) rfl dX4_fails_18 ?_
    refine va_get (D := D) (ci := 1) (v := .ref a6) (C := RX1) (T := TX1) (N := 12) hx hb hts iX1 hown hK.1 hP 1 rfl rfl 6 (by decide) kw_4 (fun _ h9 => h9) rfl dX4_fails_21 ?_
    refine lv_iload_n hx hb dX4_fails_24 rfl (lv_at hl 2 rfl) ?_
    refine va_iald hx hb hK.1 hP 4 0 rfl rfl (by first | with_reducible assumption | exact vp_le (by with_reducible assumption) (by omega)) dX4_fails_25 ?_
    have f_25 : vp_in (to x1.toNatClampNeg) E := hto _ (vp_lt (by with_reducible assumption))
    refine lv_istore (lv' := [(4, .int (to x1.toNatClampNeg)), (3, .int (fr x1.toNatClampNeg)), (0, .ref t0), (1, .int x1), (2, .ref w0)]) hx hb dX4_fails_26 hl (by decide) rfl (fun ls hl => ?_)
    refine lv_aload_n hx hb dX4_fails_28 rfl (lv_at hl 2 rfl) ?_
    refine va_get (D := D) (ci := 4) (v := .ref n0) (C := RX4) (T := TX4) (N := 8) hx hb hts iX4 hown hK.1 hP 0 rfl rfl 0 (by decide) kw_0 (fun _ h9 => h9) rfl dX4_fails_29 ?_
    refine va_get (D := D) (ci := 1) (v := .ref a3) (C := RX1) (T := TX1) (N := 12) hx hb hts iX1 hown hK.1 hP 1 rfl rfl 3 (by decide) kw_5 (fun _ h9 => h9) rfl dX4_fails_32 ?_
    refine lv_iload hx hb dX4_fails_35 (lv_at hl 0 rfl) ?_
    refine va_zald hx hb hK.1 hP 2 1 rfl rfl (by first | with_reducible assumption | exact vp_le (by with_reducible assumption) (by omega)) dX4_fails_37 ?_
    refine lv_if_eq (tgt := 73) hx hb dX4_fails_38 (by decide) (fun c_38 => ?_) (fun c_38 => ?_)
    · refine lv_iconst (v := 1) hx hb dX4_fails_73 (by decide) ?_
      refine lv_goto (tgt := 78) hx hb dX4_fails_74 (by decide) ?_
      exact en_z (()) hx hb hr hlocks hK (hP.sub [0, 1, 2, 3, 4, 5, 6, 7] rfl) (hD.sub [0, 1, 2, 3, 4, 5, 6, 7] (by decide) rfl) hS (Nat.le_of_ble_eq_true rfl) (Nat.le_of_ble_eq_true rfl) dX4_fails_78 rfl (trivial)
    · refine lv_aload_n hx hb dX4_fails_41 rfl (lv_at hl 2 rfl) ?_
      refine va_get (D := D) (ci := 4) (v := .ref n0) (C := RX4) (T := TX4) (N := 8) hx hb hts iX4 hown hK.1 hP 0 rfl rfl 0 (by decide) kw_0 (fun _ h9 => h9) rfl dX4_fails_42 ?_
      refine va_get (D := D) (ci := 1) (v := .ref a8) (C := RX1) (T := TX1) (N := 12) hx hb hts iX1 hown hK.1 hP 1 rfl rfl 8 (by decide) kw_6 (fun _ h9 => h9) rfl dX4_fails_45 ?_
      refine lv_iload_n hx hb dX4_fails_48 rfl (lv_at hl 3 rfl) ?_
      refine va_zald hx hb hK.1 hP 6 1 rfl rfl (by first | with_reducible assumption | exact vp_le (by with_reducible assumption) (by omega)) dX4_fails_49 ?_
      refine lv_if_ne (tgt := 77) hx hb dX4_fails_50 (by decide) (fun c_50 => ?_) (fun c_50 => ?_)
      · refine lv_iconst (v := 0) hx hb dX4_fails_77 (by decide) ?_
        exact en_z (()) hx hb hr hlocks hK (hP.sub [0, 1, 2, 3, 4, 5, 6, 7] rfl) (hD.sub [0, 1, 2, 3, 4, 5, 6, 7] (by decide) rfl) hS (Nat.le_of_ble_eq_true rfl) (Nat.le_of_ble_eq_true rfl) dX4_fails_78 rfl (trivial)
      · refine lv_aload_n hx hb dX4_fails_53 rfl (lv_at hl 4 rfl) ?_
        refine lv_iload hx hb dX4_fails_54 (lv_at hl 0 rfl) ?_
        refine va_iald hx hb hK.1 hP 7 0 rfl rfl (by first | with_reducible assumption | exact vp_le (by with_reducible assumption) (by omega)) dX4_fails_56 ?_
        refine lv_aload_n hx hb dX4_fails_57 rfl (lv_at hl 4 rfl) ?_
        refine lv_iload_n hx hb dX4_fails_58 rfl (lv_at hl 1 rfl) ?_
        refine va_iald hx hb hK.1 hP 7 0 rfl rfl (by first | with_reducible assumption | exact vp_le (by with_reducible assumption) (by omega)) dX4_fails_59 ?_
        refine lv_aload_n hx hb dX4_fails_60 rfl (lv_at hl 2 rfl) ?_
        refine va_get (D := D) (ci := 4) (v := .ref n0) (C := RX4) (T := TX4) (N := 8) hx hb hts iX4 hown hK.1 hP 0 rfl rfl 0 (by decide) kw_0 (fun _ h9 => h9) rfl dX4_fails_61 ?_
        refine va_get (D := D) (ci := 1) (v := .ref a7) (C := RX1) (T := TX1) (N := 12) hx hb hts iX1 hown hK.1 hP 1 rfl rfl 7 (by decide) kw_7 (fun _ h9 => h9) rfl dX4_fails_64 ?_
        refine lv_iload_n hx hb dX4_fails_67 rfl (lv_at hl 3 rfl) ?_
        refine va_iald hx hb hK.1 hP 5 0 rfl rfl (by first | with_reducible assumption | exact vp_le (by with_reducible assumption) (by omega)) dX4_fails_68 ?_
        refine lv_iadd hx hb dX4_fails_69 ?_
        refine lv_icmp_ge (tgt := 77) hx hb dX4_fails_70 (by decide) (fun c_70 => ?_) (fun c_70 => ?_)
        · refine lv_iconst (v := 0) hx hb dX4_fails_77 (by decide) ?_
          exact en_z (()) hx hb hr hlocks hK (hP.sub [0, 1, 2, 3, 4, 5, 6, 7] rfl) (hD.sub [0, 1, 2, 3, 4, 5, 6, 7] (by decide) rfl) hS (Nat.le_of_ble_eq_true rfl) (Nat.le_of_ble_eq_true rfl) dX4_fails_78 rfl (trivial)
        · refine lv_iconst (v := 1) hx hb dX4_fails_73 (by decide) ?_
          refine lv_goto (tgt := 78) hx hb dX4_fails_74 (by decide) ?_
          exact en_z (()) hx hb hr hlocks hK (hP.sub [0, 1, 2, 3, 4, 5, 6, 7] rfl) (hD.sub [0, 1, 2, 3, 4, 5, 6, 7] (by decide) rfl) hS (Nat.le_of_ble_eq_true rfl) (Nat.le_of_ble_eq_true rfl) dX4_fails_78 rfl (trivial)
  · refine lv_iconst (v := 0) hx hb dX4_fails_5 (by decide) ?_
    exact en_z (()) hx hb hr hlocks hK (hP.sub [0, 1, 2, 3, 4, 5, 6, 7] rfl) (hD.sub [0, 1, 2, 3, 4, 5, 6, 7] (by decide) rfl) hS (Nat.le_of_ble_eq_true rfl) (Nat.le_of_ble_eq_true rfl) dX4_fails_6 rfl (trivial)
set_option maxHeartbeats 300000 in
set_option maxRecDepth 100000 in
theorem c_isStranded (l : Launch) (D : va_G) (cI cZ cR : ClassId) (t0 : Nat) (v1 : Nat) (v2 : Nat) (v3 : Nat) (v4 : Nat) (v5 : Nat) (v6 : Nat) (Gr : Nat) (n0 : Nat) (a0 : Nat) (a1 : Nat) (a2 : Nat) (a3 : Nat) (a4 : Nat) (a5 : Nat) (a6 : Nat) (a7 : Nat) (a8 : Nat) (a9 : Nat) (E : Nat) (Ac : Nat) (w0 : Nat) (th : Nat → Int32) (fr : Nat → Int32) (to : Nat → Int32) (le : Nat → Int32) (ke : Nat → Int32) (rw : Nat → Int32) (fi : Nat → Int32) (c1 : Nat → Int32) (c2 : Nat → Int32) (e0 : Int32) (hE : E ≤ 60) (hAc : Ac ≤ 100) (hGr : Gr ≤ 30) (hfr : ∀ i, i < Ac → vp_in (fr i) E) (hto : ∀ i, i < Ac → vp_in (to i) E) (hfi : ∀ i, i < Gr → vp_in (fi i) E) (hc1 : ∀ i, i < Gr → (c1 i = (-1) ∨ vp_in (c1 i) Ac)) (hc2 : ∀ i, i < Gr → (c2 i = (-1) ∨ vp_in (c2 i) Ac)) (hg : vp_in e0 Gr) : CI l D cI cZ cR yX4_isStranded wsX4_isStranded { frames := 1, cells := 0, slots := 0, locals := 24 } [.ref t0, .int e0, .ref w0] [(t0, .inr (4, [.ref n0, .ref v1, .ref v2, .ref v3, .ref v4, .ref v5, .ref v6, .int (nI Gr)])), (n0, .inr (1, [.ref a0, .ref a1, .ref a2, .ref a3, .ref a4, .ref a5, .ref a6, .ref a7, .ref a8, .ref a9, .int (nI E), .int (nI Ac)])), (a3, .inl (cZ, 60, .inl th)), (a5, .inl (cI, 100, .inl fr)), (a6, .inl (cI, 100, .inl to)), (a7, .inl (cI, 100, .inl le)), (a8, .inl (cZ, 100, .inl ke)), (w0, .inl (cI, 60, .inl rw)), (v2, .inl (cI, 30, .inl fi)), (v3, .inl (cI, 30, .inl c1)), (v4, .inl (cI, 30, .inl c2))] (fun (r : Int32) (u : Unit) => True) (fun (u : Unit) => [(t0, .inr (4, [.ref n0, .ref v1, .ref v2, .ref v3, .ref v4, .ref v5, .ref v6, .int (nI Gr)])), (n0, .inr (1, [.ref a0, .ref a1, .ref a2, .ref a3, .ref a4, .ref a5, .ref a6, .ref a7, .ref a8, .ref a9, .int (nI E), .int (nI Ac)])), (a3, .inl (cZ, 60, .inl th)), (a5, .inl (cI, 100, .inl fr)), (a6, .inl (cI, 100, .inl to)), (a7, .inl (cI, 100, .inl le)), (a8, .inl (cZ, 100, .inl ke)), (w0, .inl (cI, 60, .inl rw)), (v2, .inl (cI, 30, .inl fi)), (v3, .inl (cI, 30, .inl c1)), (v4, .inl (cI, 30, .inl c2))]) := by
  intro sz9
  refine en_W (Qc := fun A => va_Qi (fun (r : Int32) (u : Unit) => True) (sB D cI cZ cR (fun (u : Unit) => [(t0, .inr (4, [.ref n0, .ref v1, .ref v2, .ref v3, .ref v4, .ref v5, .ref v6, .int (nI Gr)])), (n0, .inr (1, [.ref a0, .ref a1, .ref a2, .ref a3, .ref a4, .ref a5, .ref a6, .ref a7, .ref a8, .ref a9, .int (nI E), .int (nI Ac)])), (a3, .inl (cZ, 60, .inl th)), (a5, .inl (cI, 100, .inl fr)), (a6, .inl (cI, 100, .inl to)), (a7, .inl (cI, 100, .inl le)), (a8, .inl (cZ, 100, .inl ke)), (w0, .inl (cI, 60, .inl rw)), (v2, .inl (cI, 30, .inl fi)), (v3, .inl (cI, 30, .inl c1)), (v4, .inl (cI, 30, .inl c2))]) A) A) (cc := cX4_isStranded) (maxL := 3) (ret := (some .boolean)) (by decide) rfl (Nat.le_of_ble_eq_true rfl) ?_
  intro p e s m below meth c A ls hx hb hr hts hown hlocks hin hml hK hP hD hS hA hl
  have hown : s.vm.findClass RX4 = some m.cls := hown
  have hl : lv_has ls 3 [(0, .ref t0), (1, .int e0), (2, .ref w0)] := hl
  have kw_0 := hts (.fieldLink RX4 34 "DelayDesk$Travellers" "net" "LDelayDesk$Net;") (by decide +kernel)
  have iX4 : ∀ w ∈ u_ws RX4 TX4 8, w ∈ wsX4_isStranded := by decide +kernel
  have kw_2 := hts (.fieldLink RX4 61 "DelayDesk$Net" "there" "[Z") (by decide +kernel)
  have iX1 : ∀ w ∈ u_ws RX1 TX1 12, w ∈ wsX4_isStranded := by decide +kernel
  have kw_4 := hts (.fieldLink RX4 15 "DelayDesk$Travellers" "first" "[I") (by decide +kernel)
  have kw_5 := hts (.fieldLink RX4 18 "DelayDesk$Travellers" "changeA" "[I") (by decide +kernel)
  have kw_6 := hts (.fieldLink RX4 21 "DelayDesk$Travellers" "changeB" "[I") (by decide +kernel)
  refine lv_aload_n hx hb dX4_isStranded_0 rfl (lv_at hl 0 rfl) ?_
  refine va_get (D := D) (ci := 4) (v := .ref n0) (C := RX4) (T := TX4) (N := 8) hx hb hts iX4 hown hK.1 hP 0 rfl rfl 0 (by decide) kw_0 (fun _ h9 => h9) rfl dX4_isStranded_1 ?_
  refine va_get (D := D) (ci := 1) (v := .ref a3) (C := RX1) (T := TX1) (N := 12) hx hb hts iX1 hown hK.1 hP 1 rfl rfl 3 (by decide) kw_2 (fun _ h9 => h9) rfl dX4_isStranded_4 ?_
  refine lv_aload_n hx hb dX4_isStranded_7 rfl (lv_at hl 0 rfl) ?_
  refine va_get (D := D) (ci := 4) (v := .ref v2) (C := RX4) (T := TX4) (N := 8) hx hb hts iX4 hown hK.1 hP 0 rfl rfl 2 (by decide) kw_4 (fun _ h9 => h9) rfl dX4_isStranded_8 ?_
  refine lv_iload_n hx hb dX4_isStranded_11 rfl (lv_at hl 1 rfl) ?_
  refine va_iald hx hb hK.1 hP 8 0 rfl rfl (by first | with_reducible assumption | exact vp_le (by with_reducible assumption) (by omega)) dX4_isStranded_12 ?_
  have f_12 : vp_in (fi e0.toNatClampNeg) E := hfi _ (vp_lt (by with_reducible assumption))
  refine va_zald hx hb hK.1 hP 2 1 rfl rfl (by first | with_reducible assumption | exact vp_le (by with_reducible assumption) (by omega)) dX4_isStranded_13 ?_
  refine lv_if_eq (tgt := 45) hx hb dX4_isStranded_14 (by decide) (fun c_14 => ?_) (fun c_14 => ?_)
  · refine lv_iconst (v := 1) hx hb dX4_isStranded_45 (by decide) ?_
    refine lv_goto (tgt := 50) hx hb dX4_isStranded_46 (by decide) ?_
    exact en_z (()) hx hb hr hlocks hK (hP.sub [0, 1, 2, 3, 4, 5, 6, 7, 8, 9, 10] rfl) (hD.sub [0, 1, 2, 3, 4, 5, 6, 7, 8, 9, 10] (by decide) rfl) hS (Nat.le_of_ble_eq_true rfl) (Nat.le_of_ble_eq_true rfl) dX4_isStranded_50 rfl (trivial)
  · refine lv_aload_n hx hb dX4_isStranded_17 rfl (lv_at hl 0 rfl) ?_
    refine lv_aload_n hx hb dX4_isStranded_18 rfl (lv_at hl 0 rfl) ?_
    refine va_get (D := D) (ci := 4) (v := .ref v3) (C := RX4) (T := TX4) (N := 8) hx hb hts iX4 hown hK.1 hP 0 rfl rfl 3 (by decide) kw_5 (fun _ h9 => h9) rfl dX4_isStranded_19 ?_
    refine lv_iload_n hx hb dX4_isStranded_22 rfl (lv_at hl 1 rfl) ?_
    refine va_iald hx hb hK.1 hP 9 0 rfl rfl (by first | with_reducible assumption | exact vp_le (by with_reducible assumption) (by omega)) dX4_isStranded_23 ?_
    have f_23 : (c1 e0.toNatClampNeg) = (-1) ∨ vp_in (c1 e0.toNatClampNeg) Ac := hc1 _ (vp_lt (by with_reducible assumption))
    refine lv_aload_n hx hb dX4_isStranded_24 rfl (lv_at hl 2 rfl) ?_
    refine cl_i (wr := [(v2, .inl (cI, 30, .inl fi)), (v3, .inl (cI, 30, .inl c1)), (v4, .inl (cI, 30, .inl c2))]) (va_runV (As := [.int (c1 e0.toNatClampNeg), .ref w0]) (rest := []) ⟨hx, hb, hml, hown, hts⟩ (c_fails l D cI cZ cR t0 v1 v2 v3 v4 v5 v6 Gr n0 a0 a1 a2 a3 a4 a5 a6 a7 a8 a9 E Ac w0 th fr to le ke rw (c1 e0.toNatClampNeg) (by omega) (by omega) (by with_reducible assumption) (by with_reducible assumption) (by with_reducible assumption) s.heap.size) (cwV 2 hts gX4_isStranded_X4_fails rfl rfl rfl (by decide +kernel) ⟨Nat.le_of_ble_eq_true rfl, Nat.le_of_ble_eq_true rfl⟩) (pV 4 0 hK hP hD [0, 1, 2, 3, 4, 5, 6, 7] rfl (by decide) rfl rfl) rfl rfl hl.1 rfl (lv_room (Nat.le_of_ble_eq_true rfl)) dX4_isStranded_25 ⟨Nat.le_of_ble_eq_true rfl, Nat.le_of_ble_eq_true rfl⟩) hP hD hS hA [0, 1, 2, 3, 4, 5, 6, 7] [8, 9, 10] rfl rfl (by decide) (by decide) (fun r_25 u_25 H locs hw_25 hP hD hS => ?_)
    have hP : va_P D vwCl [(v2, .inl (cI, 30, .inl fi)), (v3, .inl (cI, 30, .inl c1)), (v4, .inl (cI, 30, .inl c2)), (t0, .inr (4, [.ref n0, .ref v1, .ref v2, .ref v3, .ref v4, .ref v5, .ref v6, .int (nI Gr)])), (n0, .inr (1, [.ref a0, .ref a1, .ref a2, .ref a3, .ref a4, .ref a5, .ref a6, .ref a7, .ref a8, .ref a9, .int (nI E), .int (nI Ac)])), (a3, .inl (cZ, 60, .inl th)), (a5, .inl (cI, 100, .inl fr)), (a6, .inl (cI, 100, .inl to)), (a7, .inl (cI, 100, .inl le)), (a8, .inl (cZ, 100, .inl ke)), (w0, .inl (cI, 60, .inl rw))] H := hP
    have hD : va_D A [(v2, .inl (cI, 30, .inl fi)), (v3, .inl (cI, 30, .inl c1)), (v4, .inl (cI, 30, .inl c2)), (t0, .inr (4, [.ref n0, .ref v1, .ref v2, .ref v3, .ref v4, .ref v5, .ref v6, .int (nI Gr)])), (n0, .inr (1, [.ref a0, .ref a1, .ref a2, .ref a3, .ref a4, .ref a5, .ref a6, .ref a7, .ref a8, .ref a9, .int (nI E), .int (nI Ac)])), (a3, .inl (cZ, 60, .inl th)), (a5, .inl (cI, 100, .inl fr)), (a6, .inl (cI, 100, .inl to)), (a7, .inl (cI, 100, .inl le)), (a8, .inl (cZ, 100, .inl ke)), (w0, .inl (cI, 60, .inl rw))] := hD
    refine lv_if_ne (tgt := 45) hx hb dX4_isStranded_28 (by decide) (fun c_28 => ?_) (fun c_28 => ?_)
    · refine lv_iconst (v := 1) hx hb dX4_isStranded_45 (by decide) ?_
      refine lv_goto (tgt := 50) hx hb dX4_isStranded_46 (by decide) ?_
      exact en_z (()) hx hb hr hlocks hK (hP.sub [3, 4, 5, 6, 7, 8, 9, 10, 0, 1, 2] rfl) (hD.sub [3, 4, 5, 6, 7, 8, 9, 10, 0, 1, 2] (by decide) rfl) hS (Nat.le_of_ble_eq_true rfl) (Nat.le_of_ble_eq_true rfl) dX4_isStranded_50 rfl (trivial)
    · refine lv_aload_n hx hb dX4_isStranded_31 rfl (lv_at hl 0 rfl) ?_
      refine lv_aload_n hx hb dX4_isStranded_32 rfl (lv_at hl 0 rfl) ?_
      refine va_get (D := D) (ci := 4) (v := .ref v4) (C := RX4) (T := TX4) (N := 8) hx hb hts iX4 hown hK.1 hP 3 rfl rfl 4 (by decide) kw_6 (fun _ h9 => h9) rfl dX4_isStranded_33 ?_
      refine lv_iload_n hx hb dX4_isStranded_36 rfl (lv_at hl 1 rfl) ?_
      refine va_iald hx hb hK.1 hP 2 0 rfl rfl (by first | with_reducible assumption | exact vp_le (by with_reducible assumption) (by omega)) dX4_isStranded_37 ?_
      have f_37 : (c2 e0.toNatClampNeg) = (-1) ∨ vp_in (c2 e0.toNatClampNeg) Ac := hc2 _ (vp_lt (by with_reducible assumption))
      refine lv_aload_n hx hb dX4_isStranded_38 rfl (lv_at hl 2 rfl) ?_
      refine cl_i (wr := [(v2, .inl (cI, 30, .inl fi)), (v3, .inl (cI, 30, .inl c1)), (v4, .inl (cI, 30, .inl c2))]) (va_runV (As := [.int (c2 e0.toNatClampNeg), .ref w0]) (rest := []) ⟨hx, hb, hml, hown, hts⟩ (c_fails l D cI cZ cR t0 v1 v2 v3 v4 v5 v6 Gr n0 a0 a1 a2 a3 a4 a5 a6 a7 a8 a9 E Ac w0 th fr to le ke rw (c2 e0.toNatClampNeg) (by omega) (by omega) (by with_reducible assumption) (by with_reducible assumption) (by with_reducible assumption) H.size) (cwV 2 hts gX4_isStranded_X4_fails rfl rfl rfl (by decide +kernel) ⟨Nat.le_of_ble_eq_true rfl, Nat.le_of_ble_eq_true rfl⟩) (pV 4 3 hK hP hD [3, 4, 5, 6, 7, 8, 9, 10] rfl (by decide) rfl rfl) rfl rfl hl.1 rfl (lv_room (Nat.le_of_ble_eq_true rfl)) dX4_isStranded_39 ⟨Nat.le_of_ble_eq_true rfl, Nat.le_of_ble_eq_true rfl⟩) hP hD hS hA [3, 4, 5, 6, 7, 8, 9, 10] [0, 1, 2] rfl rfl (by decide) (by decide) (fun r_39 u_39 H locs hw_39 hP hD hS => ?_)
      have hP : va_P D vwCl [(v2, .inl (cI, 30, .inl fi)), (v3, .inl (cI, 30, .inl c1)), (v4, .inl (cI, 30, .inl c2)), (t0, .inr (4, [.ref n0, .ref v1, .ref v2, .ref v3, .ref v4, .ref v5, .ref v6, .int (nI Gr)])), (n0, .inr (1, [.ref a0, .ref a1, .ref a2, .ref a3, .ref a4, .ref a5, .ref a6, .ref a7, .ref a8, .ref a9, .int (nI E), .int (nI Ac)])), (a3, .inl (cZ, 60, .inl th)), (a5, .inl (cI, 100, .inl fr)), (a6, .inl (cI, 100, .inl to)), (a7, .inl (cI, 100, .inl le)), (a8, .inl (cZ, 100, .inl ke)), (w0, .inl (cI, 60, .inl rw))] H := hP
      have hD : va_D A [(v2, .inl (cI, 30, .inl fi)), (v3, .inl (cI, 30, .inl c1)), (v4, .inl (cI, 30, .inl c2)), (t0, .inr (4, [.ref n0, .ref v1, .ref v2, .ref v3, .ref v4, .ref v5, .ref v6, .int (nI Gr)])), (n0, .inr (1, [.ref a0, .ref a1, .ref a2, .ref a3, .ref a4, .ref a5, .ref a6, .ref a7, .ref a8, .ref a9, .int (nI E), .int (nI Ac)])), (a3, .inl (cZ, 60, .inl th)), (a5, .inl (cI, 100, .inl fr)), (a6, .inl (cI, 100, .inl to)), (a7, .inl (cI, 100, .inl le)), (a8, .inl (cZ, 100, .inl ke)), (w0, .inl (cI, 60, .inl rw))] := hD
      refine lv_if_eq (tgt := 49) hx hb dX4_isStranded_42 (by decide) (fun c_42 => ?_) (fun c_42 => ?_)
      · refine lv_iconst (v := 0) hx hb dX4_isStranded_49 (by decide) ?_
        exact en_z (()) hx hb hr hlocks hK (hP.sub [3, 4, 5, 6, 7, 8, 9, 10, 0, 1, 2] rfl) (hD.sub [3, 4, 5, 6, 7, 8, 9, 10, 0, 1, 2] (by decide) rfl) hS (Nat.le_of_ble_eq_true rfl) (Nat.le_of_ble_eq_true rfl) dX4_isStranded_50 rfl (trivial)
      · refine lv_iconst (v := 1) hx hb dX4_isStranded_45 (by decide) ?_
        refine lv_goto (tgt := 50) hx hb dX4_isStranded_46 (by decide) ?_
        exact en_z (()) hx hb hr hlocks hK (hP.sub [3, 4, 5, 6, 7, 8, 9, 10, 0, 1, 2] rfl) (hD.sub [3, 4, 5, 6, 7, 8, 9, 10, 0, 1, 2] (by decide) rfl) hS (Nat.le_of_ble_eq_true rfl) (Nat.le_of_ble_eq_true rfl) dX4_isStranded_50 rfl (trivial)
set_option maxHeartbeats 300000 in
set_option maxRecDepth 100000 in
theorem c_lateness (l : Launch) (D : va_G) (cI cZ cR : ClassId) (t0 : Nat) (v1 : Nat) (v2 : Nat) (v3 : Nat) (v4 : Nat) (v5 : Nat) (v6 : Nat) (Gr : Nat) (n0 : Nat) (a0 : Nat) (a1 : Nat) (a2 : Nat) (a3 : Nat) (a4 : Nat) (a5 : Nat) (a6 : Nat) (a7 : Nat) (a8 : Nat) (a9 : Nat) (E : Nat) (Ac : Nat) (w0 : Nat) (pl : Nat → Int32) (th : Nat → Int32) (fr : Nat → Int32) (to : Nat → Int32) (le : Nat → Int32) (ke : Nat → Int32) (rw : Nat → Int32) (fi : Nat → Int32) (c1 : Nat → Int32) (c2 : Nat → Int32) (la : Nat → Int32) (wt : Nat → Int32) (e0 : Int32) (hE : E ≤ 60) (hAc : Ac ≤ 100) (hGr : Gr ≤ 30) (hfr : ∀ i, i < Ac → vp_in (fr i) E) (hto : ∀ i, i < Ac → vp_in (to i) E) (hfi : ∀ i, i < Gr → vp_in (fi i) E) (hc1 : ∀ i, i < Gr → (c1 i = (-1) ∨ vp_in (c1 i) Ac)) (hc2 : ∀ i, i < Gr → (c2 i = (-1) ∨ vp_in (c2 i) Ac)) (hla : ∀ i, i < Gr → vp_in (la i) E) (hg : vp_in e0 Gr) : CI l D cI cZ cR yX4_lateness wsX4_lateness { frames := 2, cells := 0, slots := 0, locals := 46 } [.ref t0, .int e0, .ref w0] [(t0, .inr (4, [.ref n0, .ref v1, .ref v2, .ref v3, .ref v4, .ref v5, .ref v6, .int (nI Gr)])), (n0, .inr (1, [.ref a0, .ref a1, .ref a2, .ref a3, .ref a4, .ref a5, .ref a6, .ref a7, .ref a8, .ref a9, .int (nI E), .int (nI Ac)])), (a3, .inl (cZ, 60, .inl th)), (a5, .inl (cI, 100, .inl fr)), (a6, .inl (cI, 100, .inl to)), (a7, .inl (cI, 100, .inl le)), (a8, .inl (cZ, 100, .inl ke)), (w0, .inl (cI, 60, .inl rw)), (v2, .inl (cI, 30, .inl fi)), (v3, .inl (cI, 30, .inl c1)), (v4, .inl (cI, 30, .inl c2)), (a1, .inl (cI, 60, .inl pl)), (v5, .inl (cI, 30, .inl la)), (v6, .inl (cI, 30, .inl wt))] (fun (r : Int32) (u : Unit) => True) (fun (u : Unit) => [(t0, .inr (4, [.ref n0, .ref v1, .ref v2, .ref v3, .ref v4, .ref v5, .ref v6, .int (nI Gr)])), (n0, .inr (1, [.ref a0, .ref a1, .ref a2, .ref a3, .ref a4, .ref a5, .ref a6, .ref a7, .ref a8, .ref a9, .int (nI E), .int (nI Ac)])), (a3, .inl (cZ, 60, .inl th)), (a5, .inl (cI, 100, .inl fr)), (a6, .inl (cI, 100, .inl to)), (a7, .inl (cI, 100, .inl le)), (a8, .inl (cZ, 100, .inl ke)), (w0, .inl (cI, 60, .inl rw)), (v2, .inl (cI, 30, .inl fi)), (v3, .inl (cI, 30, .inl c1)), (v4, .inl (cI, 30, .inl c2)), (a1, .inl (cI, 60, .inl pl)), (v5, .inl (cI, 30, .inl la)), (v6, .inl (cI, 30, .inl wt))]) := by
  intro sz9
  refine en_W (Qc := fun A => va_Qi (fun (r : Int32) (u : Unit) => True) (sB D cI cZ cR (fun (u : Unit) => [(t0, .inr (4, [.ref n0, .ref v1, .ref v2, .ref v3, .ref v4, .ref v5, .ref v6, .int (nI Gr)])), (n0, .inr (1, [.ref a0, .ref a1, .ref a2, .ref a3, .ref a4, .ref a5, .ref a6, .ref a7, .ref a8, .ref a9, .int (nI E), .int (nI Ac)])), (a3, .inl (cZ, 60, .inl th)), (a5, .inl (cI, 100, .inl fr)), (a6, .inl (cI, 100, .inl to)), (a7, .inl (cI, 100, .inl le)), (a8, .inl (cZ, 100, .inl ke)), (w0, .inl (cI, 60, .inl rw)), (v2, .inl (cI, 30, .inl fi)), (v3, .inl (cI, 30, .inl c1)), (v4, .inl (cI, 30, .inl c2)), (a1, .inl (cI, 60, .inl pl)), (v5, .inl (cI, 30, .inl la)), (v6, .inl (cI, 30, .inl wt))]) A) A) (cc := cX4_lateness) (maxL := 3) (ret := (some .int)) (by decide) rfl (Nat.le_of_ble_eq_true rfl) ?_
  intro p e s m below meth c A ls hx hb hr hts hown hlocks hin hml hK hP hD hS hA hl
  have hown : s.vm.findClass RX4 = some m.cls := hown
  have hl : lv_has ls 3 [(0, .ref t0), (1, .int e0), (2, .ref w0)] := hl
  have kw_0 := hts (.fieldLink RX4 24 "DelayDesk$Travellers" "last" "[I") (by decide +kernel)
  have iX4 : ∀ w ∈ u_ws RX4 TX4 8, w ∈ wsX4_lateness := by decide +kernel
  have kw_2 := hts (.fieldLink RX4 34 "DelayDesk$Travellers" "net" "LDelayDesk$Net;") (by decide +kernel)
  have kw_3 := hts (.fieldLink RX4 78 "DelayDesk$Net" "plan" "[I") (by decide +kernel)
  have iX1 : ∀ w ∈ u_ws RX1 TX1 12, w ∈ wsX4_lateness := by decide +kernel
  have kw_5 := hts (.fieldLink RX4 27 "DelayDesk$Travellers" "waiting" "[I") (by decide +kernel)
  refine lv_aload_n hx hb dX4_lateness_0 rfl (lv_at hl 0 rfl) ?_
  refine lv_iload_n hx hb dX4_lateness_1 rfl (lv_at hl 1 rfl) ?_
  refine lv_aload_n hx hb dX4_lateness_2 rfl (lv_at hl 2 rfl) ?_
  refine cl_i (wr := [(a1, .inl (cI, 60, .inl pl)), (v5, .inl (cI, 30, .inl la)), (v6, .inl (cI, 30, .inl wt))]) (va_runV (As := [.int e0, .ref w0]) (rest := []) ⟨hx, hb, hml, hown, hts⟩ (c_isStranded l D cI cZ cR t0 v1 v2 v3 v4 v5 v6 Gr n0 a0 a1 a2 a3 a4 a5 a6 a7 a8 a9 E Ac w0 th fr to le ke rw fi c1 c2 e0 (by omega) (by omega) (by omega) (by with_reducible assumption) (by with_reducible assumption) (by with_reducible assumption) (by with_reducible assumption) (by with_reducible assumption) (by first | with_reducible assumption | exact vp_le (by with_reducible assumption) (by omega)) s.heap.size) (cwV 2 hts gX4_lateness_X4_isStranded rfl rfl rfl (by decide +kernel) ⟨Nat.le_of_ble_eq_true rfl, Nat.le_of_ble_eq_true rfl⟩) (pV 4 0 hK hP hD [0, 1, 2, 3, 4, 5, 6, 7, 8, 9, 10] rfl (by decide) rfl rfl) rfl rfl hl.1 rfl (lv_room (Nat.le_of_ble_eq_true rfl)) dX4_lateness_3 ⟨Nat.le_of_ble_eq_true rfl, Nat.le_of_ble_eq_true rfl⟩) hP hD hS hA [0, 1, 2, 3, 4, 5, 6, 7, 8, 9, 10] [11, 12, 13] rfl rfl (by decide) (by decide) (fun r_3 u_3 H locs hw_3 hP hD hS => ?_)
  have hP : va_P D vwCl [(a1, .inl (cI, 60, .inl pl)), (v5, .inl (cI, 30, .inl la)), (v6, .inl (cI, 30, .inl wt)), (t0, .inr (4, [.ref n0, .ref v1, .ref v2, .ref v3, .ref v4, .ref v5, .ref v6, .int (nI Gr)])), (n0, .inr (1, [.ref a0, .ref a1, .ref a2, .ref a3, .ref a4, .ref a5, .ref a6, .ref a7, .ref a8, .ref a9, .int (nI E), .int (nI Ac)])), (a3, .inl (cZ, 60, .inl th)), (a5, .inl (cI, 100, .inl fr)), (a6, .inl (cI, 100, .inl to)), (a7, .inl (cI, 100, .inl le)), (a8, .inl (cZ, 100, .inl ke)), (w0, .inl (cI, 60, .inl rw)), (v2, .inl (cI, 30, .inl fi)), (v3, .inl (cI, 30, .inl c1)), (v4, .inl (cI, 30, .inl c2))] H := hP
  have hD : va_D A [(a1, .inl (cI, 60, .inl pl)), (v5, .inl (cI, 30, .inl la)), (v6, .inl (cI, 30, .inl wt)), (t0, .inr (4, [.ref n0, .ref v1, .ref v2, .ref v3, .ref v4, .ref v5, .ref v6, .int (nI Gr)])), (n0, .inr (1, [.ref a0, .ref a1, .ref a2, .ref a3, .ref a4, .ref a5, .ref a6, .ref a7, .ref a8, .ref a9, .int (nI E), .int (nI Ac)])), (a3, .inl (cZ, 60, .inl th)), (a5, .inl (cI, 100, .inl fr)), (a6, .inl (cI, 100, .inl to)), (a7, .inl (cI, 100, .inl le)), (a8, .inl (cZ, 100, .inl ke)), (w0, .inl (cI, 60, .inl rw)), (v2, .inl (cI, 30, .inl fi)), (v3, .inl (cI, 30, .inl c1)), (v4, .inl (cI, 30, .inl c2))] := hD
  refine lv_if_eq (tgt := 18) hx hb dX4_lateness_6 (by decide) (fun c_6 => ?_) (fun c_6 => ?_)
  · refine lv_aload_n hx hb dX4_lateness_18 rfl (lv_at hl 2 rfl) ?_
    refine lv_aload_n hx hb dX4_lateness_19 rfl (lv_at hl 0 rfl) ?_
    refine va_get (D := D) (ci := 4) (v := .ref v5) (C := RX4) (T := TX4) (N := 8) hx hb hts iX4 hown hK.1 hP 3 rfl rfl 5 (by decide) kw_0 (fun _ h9 => h9) rfl dX4_lateness_20 ?_
    refine lv_iload_n hx hb dX4_lateness_23 rfl (lv_at hl 1 rfl) ?_
    refine va_iald hx hb hK.1 hP 1 0 rfl rfl (by first | with_reducible assumption | exact vp_le (by with_reducible assumption) (by omega)) dX4_lateness_24 ?_
    have f_24 : vp_in (la e0.toNatClampNeg) E := hla _ (vp_lt (by with_reducible assumption))
    refine va_iald hx hb hK.1 hP 10 0 rfl rfl (by first | with_reducible assumption | exact vp_le (by with_reducible assumption) (by omega)) dX4_lateness_25 ?_
    refine lv_aload_n hx hb dX4_lateness_26 rfl (lv_at hl 0 rfl) ?_
    refine va_get (D := D) (ci := 4) (v := .ref n0) (C := RX4) (T := TX4) (N := 8) hx hb hts iX4 hown hK.1 hP 3 rfl rfl 0 (by decide) kw_2 (fun _ h9 => h9) rfl dX4_lateness_27 ?_
    refine va_get (D := D) (ci := 1) (v := .ref a1) (C := RX1) (T := TX1) (N := 12) hx hb hts iX1 hown hK.1 hP 4 rfl rfl 1 (by decide) kw_3 (fun _ h9 => h9) rfl dX4_lateness_30 ?_
    refine lv_aload_n hx hb dX4_lateness_33 rfl (lv_at hl 0 rfl) ?_
    refine va_get (D := D) (ci := 4) (v := .ref v5) (C := RX4) (T := TX4) (N := 8) hx hb hts iX4 hown hK.1 hP 3 rfl rfl 5 (by decide) kw_0 (fun _ h9 => h9) rfl dX4_lateness_34 ?_
    refine lv_iload_n hx hb dX4_lateness_37 rfl (lv_at hl 1 rfl) ?_
    refine va_iald hx hb hK.1 hP 1 0 rfl rfl (by first | with_reducible assumption | exact vp_le (by with_reducible assumption) (by omega)) dX4_lateness_38 ?_
    have f_38 : vp_in (la e0.toNatClampNeg) E := hla _ (vp_lt (by with_reducible assumption))
    refine va_iald hx hb hK.1 hP 0 0 rfl rfl (by first | with_reducible assumption | exact vp_le (by with_reducible assumption) (by omega)) dX4_lateness_39 ?_
    refine lv_isub hx hb dX4_lateness_40 ?_
    exact en_i (()) hx hb hr hlocks hK (hP.sub [3, 4, 5, 6, 7, 8, 9, 10, 11, 12, 13, 0, 1, 2] rfl) (hD.sub [3, 4, 5, 6, 7, 8, 9, 10, 11, 12, 13, 0, 1, 2] (by decide) rfl) hS (Nat.le_of_ble_eq_true rfl) (Nat.le_of_ble_eq_true rfl) dX4_lateness_41 (trivial)
  · refine lv_aload_n hx hb dX4_lateness_9 rfl (lv_at hl 0 rfl) ?_
    refine va_get (D := D) (ci := 4) (v := .ref v6) (C := RX4) (T := TX4) (N := 8) hx hb hts iX4 hown hK.1 hP 3 rfl rfl 6 (by decide) kw_5 (fun _ h9 => h9) rfl dX4_lateness_10 ?_
    refine lv_iload_n hx hb dX4_lateness_13 rfl (lv_at hl 1 rfl) ?_
    refine va_iald hx hb hK.1 hP 2 0 rfl rfl (by first | with_reducible assumption | exact vp_le (by with_reducible assumption) (by omega)) dX4_lateness_14 ?_
    refine lv_goto (tgt := 41) hx hb dX4_lateness_15 (by decide) ?_
    exact en_i (()) hx hb hr hlocks hK (hP.sub [3, 4, 5, 6, 7, 8, 9, 10, 11, 12, 13, 0, 1, 2] rfl) (hD.sub [3, 4, 5, 6, 7, 8, 9, 10, 11, 12, 13, 0, 1, 2] (by decide) rfl) hS (Nat.le_of_ble_eq_true rfl) (Nat.le_of_ble_eq_true rfl) dX4_lateness_41 (trivial)
set_option maxHeartbeats 300000 in
set_option maxRecDepth 100000 in
theorem lp_sum {p : Program} {e : Env} {s : State} {m : MethodId} {args : Array Value} {below : List Frame} {meth : Method} {c : Code} {A : Nat → Prop} {Q : State → Prop} (l : Launch) (D : va_G) (cI cZ cR : ClassId) (t0 : Nat) (v1 : Nat) (v2 : Nat) (v3 : Nat) (v4 : Nat) (v5 : Nat) (v6 : Nat) (Gr : Nat) (n0 : Nat) (a0 : Nat) (a1 : Nat) (a2 : Nat) (a3 : Nat) (a4 : Nat) (a5 : Nat) (a6 : Nat) (a7 : Nat) (a8 : Nat) (a9 : Nat) (E : Nat) (Ac : Nat) (w0 : Nat) (pl : Nat → Int32) (th : Nat → Int32) (fr : Nat → Int32) (to : Nat → Int32) (le : Nat → Int32) (ke : Nat → Int32) (rw : Nat → Int32) (mn : Nat → Int32) (fi : Nat → Int32) (c1 : Nat → Int32) (c2 : Nat → Int32) (la : Nat → Int32) (wt : Nat → Int32) (hE : E ≤ 60) (hAc : Ac ≤ 100) (hGr : Gr ≤ 30) (hfr : ∀ i, i < Ac → vp_in (fr i) E) (hto : ∀ i, i < Ac → vp_in (to i) E) (hfi : ∀ i, i < Gr → vp_in (fi i) E) (hc1 : ∀ i, i < Gr → (c1 i = (-1) ∨ vp_in (c1 i) Ac)) (hc2 : ∀ i, i < Gr → (c2 i = (-1) ∨ vp_in (c2 i) Ac)) (hla : ∀ i, i < Gr → vp_in (la i) E) (hx : p.tables.exec = Jvm.exec) (hb : c.code = cX4_sum) (hts : ∀ w ∈ wsX4_sum, w.before args s = true) (hown : s.vm.findClass RX4 = some m.cls) (hml : c.maxLocals = 5) (hK : kK D cI cZ cR s) (hA : ∀ q : Nat, s.heap.size ≤ q → A q) (kx_40 : ∀ (k : Nat) (z : Int64), (k ≤ Gr) → ∀ (H : Heap) (locs : List Loc) (ls : Array Slot), va_P D vwCl [(t0, .inr (4, [.ref n0, .ref v1, .ref v2, .ref v3, .ref v4, .ref v5, .ref v6, .int (nI Gr)])), (n0, .inr (1, [.ref a0, .ref a1, .ref a2, .ref a3, .ref a4, .ref a5, .ref a6, .ref a7, .ref a8, .ref a9, .int (nI E), .int (nI Ac)])), (a3, .inl (cZ, 60, .inl th)), (a5, .inl (cI, 100, .inl fr)), (a6, .inl (cI, 100, .inl to)), (a7, .inl (cI, 100, .inl le)), (a8, .inl (cZ, 100, .inl ke)), (w0, .inl (cI, 60, .inl rw)), (v2, .inl (cI, 30, .inl fi)), (v3, .inl (cI, 30, .inl c1)), (v4, .inl (cI, 30, .inl c2)), (a1, .inl (cI, 60, .inl pl)), (v5, .inl (cI, 30, .inl la)), (v6, .inl (cI, 30, .inl wt)), (v1, .inl (cI, 30, .inl mn))] H → va_D A [(t0, .inr (4, [.ref n0, .ref v1, .ref v2, .ref v3, .ref v4, .ref v5, .ref v6, .int (nI Gr)])), (n0, .inr (1, [.ref a0, .ref a1, .ref a2, .ref a3, .ref a4, .ref a5, .ref a6, .ref a7, .ref a8, .ref a9, .int (nI E), .int (nI Ac)])), (a3, .inl (cZ, 60, .inl th)), (a5, .inl (cI, 100, .inl fr)), (a6, .inl (cI, 100, .inl to)), (a7, .inl (cI, 100, .inl le)), (a8, .inl (cZ, 100, .inl ke)), (w0, .inl (cI, 60, .inl rw)), (v2, .inl (cI, 30, .inl fi)), (v3, .inl (cI, 30, .inl c1)), (v4, .inl (cI, 30, .inl c2)), (a1, .inl (cI, 60, .inl pl)), (v5, .inl (cI, 30, .inl la)), (v6, .inl (cI, 30, .inl wt)), (v1, .inl (cI, 30, .inl mn))] → va_S A s.heap H locs → lv_has ls 5 [(4, .int (nI k)), (2, .long z), (0, .ref t0), (1, .ref w0)] → W p l e { frames := 3, cells := 0, slots := 0, locals := 68 } s m args below meth c H locs 0 0 Q (F0 m 40 ls [])) : ∀ (n : Nat) (k : Nat) (z : Int64), (k ≤ Gr) → Gr - k < n → ∀ (H : Heap) (locs : List Loc) (ls : Array Slot), va_P D vwCl [(t0, .inr (4, [.ref n0, .ref v1, .ref v2, .ref v3, .ref v4, .ref v5, .ref v6, .int (nI Gr)])), (n0, .inr (1, [.ref a0, .ref a1, .ref a2, .ref a3, .ref a4, .ref a5, .ref a6, .ref a7, .ref a8, .ref a9, .int (nI E), .int (nI Ac)])), (a3, .inl (cZ, 60, .inl th)), (a5, .inl (cI, 100, .inl fr)), (a6, .inl (cI, 100, .inl to)), (a7, .inl (cI, 100, .inl le)), (a8, .inl (cZ, 100, .inl ke)), (w0, .inl (cI, 60, .inl rw)), (v2, .inl (cI, 30, .inl fi)), (v3, .inl (cI, 30, .inl c1)), (v4, .inl (cI, 30, .inl c2)), (a1, .inl (cI, 60, .inl pl)), (v5, .inl (cI, 30, .inl la)), (v6, .inl (cI, 30, .inl wt)), (v1, .inl (cI, 30, .inl mn))] H → va_D A [(t0, .inr (4, [.ref n0, .ref v1, .ref v2, .ref v3, .ref v4, .ref v5, .ref v6, .int (nI Gr)])), (n0, .inr (1, [.ref a0, .ref a1, .ref a2, .ref a3, .ref a4, .ref a5, .ref a6, .ref a7, .ref a8, .ref a9, .int (nI E), .int (nI Ac)])), (a3, .inl (cZ, 60, .inl th)), (a5, .inl (cI, 100, .inl fr)), (a6, .inl (cI, 100, .inl to)), (a7, .inl (cI, 100, .inl le)), (a8, .inl (cZ, 100, .inl ke)), (w0, .inl (cI, 60, .inl rw)), (v2, .inl (cI, 30, .inl fi)), (v3, .inl (cI, 30, .inl c1)), (v4, .inl (cI, 30, .inl c2)), (a1, .inl (cI, 60, .inl pl)), (v5, .inl (cI, 30, .inl la)), (v6, .inl (cI, 30, .inl wt)), (v1, .inl (cI, 30, .inl mn))] → va_S A s.heap H locs → lv_has ls 5 [(4, .int (nI k)), (2, .long z), (0, .ref t0), (1, .ref w0)] → W p l e { frames := 3, cells := 0, slots := 0, locals := 68 } s m args below meth c H locs 0 0 Q (F0 m 5 ls []) := by
  have kw_0 := hts (.fieldLink RX4 30 "DelayDesk$Travellers" "groups" "I") (by decide +kernel)
  have iX4 : ∀ w ∈ u_ws RX4 TX4 8, w ∈ wsX4_sum := by decide +kernel
  have kw_2 := hts (.fieldLink RX4 9 "DelayDesk$Travellers" "many" "[I") (by decide +kernel)
  intro n
  induction n with
  | zero =>
    intro k z hk hm
    exact absurd hm (Nat.not_lt_zero _)
  | succ n ih =>
    intro k z hk hm H locs ls hP hD hS hl
    refine lv_iload hx hb dX4_sum_5 (lv_at hl 0 rfl) ?_
    refine lv_aload_n hx hb dX4_sum_7 rfl (lv_at hl 2 rfl) ?_
    refine va_get (D := D) (ci := 4) (v := .int (nI Gr)) (C := RX4) (T := TX4) (N := 8) hx hb hts iX4 hown hK.1 hP 0 rfl rfl 7 (by decide) kw_0 (fun _ h9 => h9) rfl dX4_sum_8 ?_
    refine lv_icmp_ge (tgt := 40) hx hb dX4_sum_11 (by decide) (fun c_11 => ?_) (fun c_11 => ?_)
    · have g_11 : Gr ≤ k := (nI_leI (a := Gr) (b := k) (by omega) (by omega)).mp c_11
      exact kx_40 k z (by first | with_reducible assumption | omega | exact vp_le (by with_reducible assumption) (by omega) | (intros; omega)) _ _ _ (hP.sub [0, 1, 2, 3, 4, 5, 6, 7, 8, 9, 10, 11, 12, 13, 14] rfl) (hD.sub [0, 1, 2, 3, 4, 5, 6, 7, 8, 9, 10, 11, 12, 13, 14] (by decide) rfl) hS (lv_sub hl [0, 1, 2, 3] rfl)
    · have g_11 : k < Gr := Nat.not_le.mp (fun q => c_11 ((nI_leI (a := Gr) (b := k) (by omega) (by omega)).mpr q))
      refine lv_lload_n hx hb dX4_sum_14 rfl (lv_at hl 1 rfl) ?_
      refine lv_aload_n hx hb dX4_sum_15 rfl (lv_at hl 2 rfl) ?_
      refine va_get (D := D) (ci := 4) (v := .ref v1) (C := RX4) (T := TX4) (N := 8) hx hb hts iX4 hown hK.1 hP 0 rfl rfl 1 (by decide) kw_2 (fun _ h9 => h9) rfl dX4_sum_16 ?_
      refine lv_iload hx hb dX4_sum_19 (lv_at hl 0 rfl) ?_
      refine ra_I hx hb hK hP 14 rfl (k := k) (by omega) (by decide) dX4_sum_21 ?_
      refine lv_i2l (v := ((mn k).toInt64)) hx hb dX4_sum_22 rfl ?_
      refine lv_aload_n hx hb dX4_sum_23 rfl (lv_at hl 2 rfl) ?_
      refine lv_iload hx hb dX4_sum_24 (lv_at hl 0 rfl) ?_
      refine lv_aload_n hx hb dX4_sum_26 rfl (lv_at hl 3 rfl) ?_
      refine cl_i (wr := [(v1, .inl (cI, 30, .inl mn))]) (va_runV (As := [.int (nI k), .ref w0]) (rest := [.long ((mn k).toInt64), .long z]) ⟨hx, hb, hml, hown, hts⟩ (c_lateness l D cI cZ cR t0 v1 v2 v3 v4 v5 v6 Gr n0 a0 a1 a2 a3 a4 a5 a6 a7 a8 a9 E Ac w0 pl th fr to le ke rw fi c1 c2 la wt (nI k) (by omega) (by omega) (by omega) (by with_reducible assumption) (by with_reducible assumption) (by with_reducible assumption) (by with_reducible assumption) (by with_reducible assumption) (by with_reducible assumption) (vp_in_nI (by omega) (by omega)) H.size) (cwV 2 hts gX4_sum_X4_lateness rfl rfl rfl (by decide +kernel) ⟨Nat.le_of_ble_eq_true rfl, Nat.le_of_ble_eq_true rfl⟩) (pV 4 0 hK hP hD [0, 1, 2, 3, 4, 5, 6, 7, 8, 9, 10, 11, 12, 13] rfl (by decide) rfl rfl) rfl rfl hl.1 rfl (lv_room (Nat.le_of_ble_eq_true rfl)) dX4_sum_27 ⟨Nat.le_of_ble_eq_true rfl, Nat.le_of_ble_eq_true rfl⟩) hP hD hS hA [0, 1, 2, 3, 4, 5, 6, 7, 8, 9, 10, 11, 12, 13] [14] rfl rfl (by decide) (by decide) (fun r_27 u_27 H locs hw_27 hP hD hS => ?_)
      have hP : va_P D vwCl [(v1, .inl (cI, 30, .inl mn)), (t0, .inr (4, [.ref n0, .ref v1, .ref v2, .ref v3, .ref v4, .ref v5, .ref v6, .int (nI Gr)])), (n0, .inr (1, [.ref a0, .ref a1, .ref a2, .ref a3, .ref a4, .ref a5, .ref a6, .ref a7, .ref a8, .ref a9, .int (nI E), .int (nI Ac)])), (a3, .inl (cZ, 60, .inl th)), (a5, .inl (cI, 100, .inl fr)), (a6, .inl (cI, 100, .inl to)), (a7, .inl (cI, 100, .inl le)), (a8, .inl (cZ, 100, .inl ke)), (w0, .inl (cI, 60, .inl rw)), (v2, .inl (cI, 30, .inl fi)), (v3, .inl (cI, 30, .inl c1)), (v4, .inl (cI, 30, .inl c2)), (a1, .inl (cI, 60, .inl pl)), (v5, .inl (cI, 30, .inl la)), (v6, .inl (cI, 30, .inl wt))] H := hP
      have hD : va_D A [(v1, .inl (cI, 30, .inl mn)), (t0, .inr (4, [.ref n0, .ref v1, .ref v2, .ref v3, .ref v4, .ref v5, .ref v6, .int (nI Gr)])), (n0, .inr (1, [.ref a0, .ref a1, .ref a2, .ref a3, .ref a4, .ref a5, .ref a6, .ref a7, .ref a8, .ref a9, .int (nI E), .int (nI Ac)])), (a3, .inl (cZ, 60, .inl th)), (a5, .inl (cI, 100, .inl fr)), (a6, .inl (cI, 100, .inl to)), (a7, .inl (cI, 100, .inl le)), (a8, .inl (cZ, 100, .inl ke)), (w0, .inl (cI, 60, .inl rw)), (v2, .inl (cI, 30, .inl fi)), (v3, .inl (cI, 30, .inl c1)), (v4, .inl (cI, 30, .inl c2)), (a1, .inl (cI, 60, .inl pl)), (v5, .inl (cI, 30, .inl la)), (v6, .inl (cI, 30, .inl wt))] := hD
      refine lv_i2l (v := (r_27.toInt64)) hx hb dX4_sum_30 rfl ?_
      refine lv_lmul hx hb dX4_sum_31 ?_
      refine lv_ladd hx hb dX4_sum_32 ?_
      refine lv_lstore_n (lv' := [(2, .long (z + (((mn k).toInt64) * (r_27.toInt64)))), (4, .int (nI k)), (0, .ref t0), (1, .ref w0)]) hx hb dX4_sum_33 rfl hl (by decide) rfl (fun ls hl => ?_)
      refine lv_iinc (v := (nI (k + 1))) (lv' := [(4, .int (nI (k + 1))), (2, .long (z + (((mn k).toInt64) * (r_27.toInt64)))), (0, .ref t0), (1, .ref w0)]) hx hb dX4_sum_34 hl (k := 1) rfl (nI_1 _) (by decide) rfl (fun ls hl => ?_)
      refine lv_goto (tgt := 5) hx hb dX4_sum_37 (by decide) ?_
      exact ih (k + 1) (z + (((mn k).toInt64) * (r_27.toInt64))) (by first | with_reducible assumption | omega | exact vp_le (by with_reducible assumption) (by omega) | (intros; omega)) (by omega) _ _ _ (hP.sub [1, 2, 3, 4, 5, 6, 7, 8, 9, 10, 11, 12, 13, 14, 0] rfl) (hD.sub [1, 2, 3, 4, 5, 6, 7, 8, 9, 10, 11, 12, 13, 14, 0] (by decide) rfl) hS (lv_sub hl [0, 1, 2, 3] rfl)
set_option maxHeartbeats 300000 in
set_option maxRecDepth 100000 in
theorem c_sum (l : Launch) (D : va_G) (cI cZ cR : ClassId) (t0 : Nat) (v1 : Nat) (v2 : Nat) (v3 : Nat) (v4 : Nat) (v5 : Nat) (v6 : Nat) (Gr : Nat) (n0 : Nat) (a0 : Nat) (a1 : Nat) (a2 : Nat) (a3 : Nat) (a4 : Nat) (a5 : Nat) (a6 : Nat) (a7 : Nat) (a8 : Nat) (a9 : Nat) (E : Nat) (Ac : Nat) (w0 : Nat) (pl : Nat → Int32) (th : Nat → Int32) (fr : Nat → Int32) (to : Nat → Int32) (le : Nat → Int32) (ke : Nat → Int32) (rw : Nat → Int32) (mn : Nat → Int32) (fi : Nat → Int32) (c1 : Nat → Int32) (c2 : Nat → Int32) (la : Nat → Int32) (wt : Nat → Int32) (hE : E ≤ 60) (hAc : Ac ≤ 100) (hGr : Gr ≤ 30) (hfr : ∀ i, i < Ac → vp_in (fr i) E) (hto : ∀ i, i < Ac → vp_in (to i) E) (hfi : ∀ i, i < Gr → vp_in (fi i) E) (hc1 : ∀ i, i < Gr → (c1 i = (-1) ∨ vp_in (c1 i) Ac)) (hc2 : ∀ i, i < Gr → (c2 i = (-1) ∨ vp_in (c2 i) Ac)) (hla : ∀ i, i < Gr → vp_in (la i) E) : CL l D cI cZ cR yX4_sum wsX4_sum { frames := 3, cells := 0, slots := 0, locals := 68 } [.ref t0, .ref w0] [(t0, .inr (4, [.ref n0, .ref v1, .ref v2, .ref v3, .ref v4, .ref v5, .ref v6, .int (nI Gr)])), (n0, .inr (1, [.ref a0, .ref a1, .ref a2, .ref a3, .ref a4, .ref a5, .ref a6, .ref a7, .ref a8, .ref a9, .int (nI E), .int (nI Ac)])), (a3, .inl (cZ, 60, .inl th)), (a5, .inl (cI, 100, .inl fr)), (a6, .inl (cI, 100, .inl to)), (a7, .inl (cI, 100, .inl le)), (a8, .inl (cZ, 100, .inl ke)), (w0, .inl (cI, 60, .inl rw)), (v2, .inl (cI, 30, .inl fi)), (v3, .inl (cI, 30, .inl c1)), (v4, .inl (cI, 30, .inl c2)), (a1, .inl (cI, 60, .inl pl)), (v5, .inl (cI, 30, .inl la)), (v6, .inl (cI, 30, .inl wt)), (v1, .inl (cI, 30, .inl mn))] (fun (r : Int64) (u : Unit) => True) (fun (u : Unit) => [(t0, .inr (4, [.ref n0, .ref v1, .ref v2, .ref v3, .ref v4, .ref v5, .ref v6, .int (nI Gr)])), (n0, .inr (1, [.ref a0, .ref a1, .ref a2, .ref a3, .ref a4, .ref a5, .ref a6, .ref a7, .ref a8, .ref a9, .int (nI E), .int (nI Ac)])), (a3, .inl (cZ, 60, .inl th)), (a5, .inl (cI, 100, .inl fr)), (a6, .inl (cI, 100, .inl to)), (a7, .inl (cI, 100, .inl le)), (a8, .inl (cZ, 100, .inl ke)), (w0, .inl (cI, 60, .inl rw)), (v2, .inl (cI, 30, .inl fi)), (v3, .inl (cI, 30, .inl c1)), (v4, .inl (cI, 30, .inl c2)), (a1, .inl (cI, 60, .inl pl)), (v5, .inl (cI, 30, .inl la)), (v6, .inl (cI, 30, .inl wt)), (v1, .inl (cI, 30, .inl mn))]) := by
  intro sz9
  refine en_W (Qc := fun A => va_Ql (fun (r : Int64) (u : Unit) => True) (sB D cI cZ cR (fun (u : Unit) => [(t0, .inr (4, [.ref n0, .ref v1, .ref v2, .ref v3, .ref v4, .ref v5, .ref v6, .int (nI Gr)])), (n0, .inr (1, [.ref a0, .ref a1, .ref a2, .ref a3, .ref a4, .ref a5, .ref a6, .ref a7, .ref a8, .ref a9, .int (nI E), .int (nI Ac)])), (a3, .inl (cZ, 60, .inl th)), (a5, .inl (cI, 100, .inl fr)), (a6, .inl (cI, 100, .inl to)), (a7, .inl (cI, 100, .inl le)), (a8, .inl (cZ, 100, .inl ke)), (w0, .inl (cI, 60, .inl rw)), (v2, .inl (cI, 30, .inl fi)), (v3, .inl (cI, 30, .inl c1)), (v4, .inl (cI, 30, .inl c2)), (a1, .inl (cI, 60, .inl pl)), (v5, .inl (cI, 30, .inl la)), (v6, .inl (cI, 30, .inl wt)), (v1, .inl (cI, 30, .inl mn))]) A) A) (cc := cX4_sum) (maxL := 5) (ret := (some .long)) (by decide) rfl (Nat.le_of_ble_eq_true rfl) ?_
  intro p e s m below meth c A ls hx hb hr hts hown hlocks hin hml hK hP hD hS hA hl
  have hown : s.vm.findClass RX4 = some m.cls := hown
  have hl : lv_has ls 5 [(0, .ref t0), (1, .ref w0)] := hl
  refine lv_lconst (v := 0) hx hb dX4_sum_0 (by decide) ?_
  refine lv_lstore_n (lv' := [(2, .long 0), (0, .ref t0), (1, .ref w0)]) hx hb dX4_sum_1 rfl hl (by decide) rfl (fun ls hl => ?_)
  refine lv_iconst (v := 0) hx hb dX4_sum_2 (by decide) ?_
  refine lv_istore (lv' := [(4, .int 0), (2, .long 0), (0, .ref t0), (1, .ref w0)]) hx hb dX4_sum_3 hl (by decide) rfl (fun ls hl => ?_)
  refine lp_sum l D cI cZ cR t0 v1 v2 v3 v4 v5 v6 Gr n0 a0 a1 a2 a3 a4 a5 a6 a7 a8 a9 E Ac w0 pl th fr to le ke rw mn fi c1 c2 la wt hE hAc hGr hfr hto hfi hc1 hc2 hla hx hb hts hown hml hK hA (fun k z hk H locs ls hP hD hS hl => ?_) _ 0 0 (by first | with_reducible assumption | omega | exact vp_le (by with_reducible assumption) (by omega) | (intros; omega)) (Nat.lt_succ_self _) _ _ _ (hP.sub [0, 1, 2, 3, 4, 5, 6, 7, 8, 9, 10, 11, 12, 13, 14] rfl) (hD.sub [0, 1, 2, 3, 4, 5, 6, 7, 8, 9, 10, 11, 12, 13, 14] (by decide) rfl) hS (lv_sub hl [0, 1, 2, 3] rfl)
  refine lv_lload_n hx hb dX4_sum_40 rfl (lv_at hl 1 rfl) ?_
  exact en_l (()) hx hb hr hlocks hK (hP.sub [0, 1, 2, 3, 4, 5, 6, 7, 8, 9, 10, 11, 12, 13, 14] rfl) (hD.sub [0, 1, 2, 3, 4, 5, 6, 7, 8, 9, 10, 11, 12, 13, 14] (by decide) rfl) hS (Nat.le_of_ble_eq_true rfl) (Nat.le_of_ble_eq_true rfl) dX4_sum_41 (trivial)
set_option maxHeartbeats 300000 in
set_option maxRecDepth 100000 in
theorem c_canGo (l : Launch) (D : va_G) (cI cZ cR : ClassId) (t0 : Nat) (v1 : Nat) (v2 : Nat) (v3 : Nat) (v4 : Nat) (v5 : Nat) (v6 : Nat) (Gr : Nat) (n0 : Nat) (a0 : Nat) (a1 : Nat) (a2 : Nat) (a3 : Nat) (a4 : Nat) (a5 : Nat) (a6 : Nat) (a7 : Nat) (a8 : Nat) (a9 : Nat) (E : Nat) (Ac : Nat) (tr : Nat → Int32) (ki : Nat → Int32) (fr : Nat → Int32) (to : Nat → Int32) (f1 : Int32) (f2 : Int32) (f3 : Int32) (f4 : Int32) (hE : E ≤ 60) (hAc : Ac ≤ 100) (hfr : ∀ i, i < Ac → vp_in (fr i) E) (hto : ∀ i, i < Ac → vp_in (to i) E) : CI l D cI cZ cR yX4_canGo wsX4_canGo { frames := 3, cells := 0, slots := 0, locals := 65 } [.ref t0, .int f1, .int f2, .int f3, .int f4] [(t0, .inr (4, [.ref n0, .ref v1, .ref v2, .ref v3, .ref v4, .ref v5, .ref v6, .int (nI Gr)])), (n0, .inr (1, [.ref a0, .ref a1, .ref a2, .ref a3, .ref a4, .ref a5, .ref a6, .ref a7, .ref a8, .ref a9, .int (nI E), .int (nI Ac)])), (a0, .inl (cI, 60, .inl tr)), (a4, .inl (cI, 100, .inl ki)), (a5, .inl (cI, 100, .inl fr)), (a6, .inl (cI, 100, .inl to))] (fun (r : Int32) (u : Unit) => (r = 1 ∧ (vp_in f1 E ∧ vp_in f4 E ∧ (f2 = (-1) ∨ vp_in f2 Ac) ∧ (f3 = (-1) ∨ vp_in f3 Ac))) ∨ r = 0) (fun (u : Unit) => [(t0, .inr (4, [.ref n0, .ref v1, .ref v2, .ref v3, .ref v4, .ref v5, .ref v6, .int (nI Gr)])), (n0, .inr (1, [.ref a0, .ref a1, .ref a2, .ref a3, .ref a4, .ref a5, .ref a6, .ref a7, .ref a8, .ref a9, .int (nI E), .int (nI Ac)])), (a0, .inl (cI, 60, .inl tr)), (a4, .inl (cI, 100, .inl ki)), (a5, .inl (cI, 100, .inl fr)), (a6, .inl (cI, 100, .inl to))]) := by
  intro sz9
  refine en_W (Qc := fun A => va_Qi (fun (r : Int32) (u : Unit) => (r = 1 ∧ (vp_in f1 E ∧ vp_in f4 E ∧ (f2 = (-1) ∨ vp_in f2 Ac) ∧ (f3 = (-1) ∨ vp_in f3 Ac))) ∨ r = 0) (sB D cI cZ cR (fun (u : Unit) => [(t0, .inr (4, [.ref n0, .ref v1, .ref v2, .ref v3, .ref v4, .ref v5, .ref v6, .int (nI Gr)])), (n0, .inr (1, [.ref a0, .ref a1, .ref a2, .ref a3, .ref a4, .ref a5, .ref a6, .ref a7, .ref a8, .ref a9, .int (nI E), .int (nI Ac)])), (a0, .inl (cI, 60, .inl tr)), (a4, .inl (cI, 100, .inl ki)), (a5, .inl (cI, 100, .inl fr)), (a6, .inl (cI, 100, .inl to))]) A) A) (cc := cX4_canGo) (maxL := 6) (ret := (some .boolean)) (by decide) rfl (Nat.le_of_ble_eq_true rfl) ?_
  intro p e s m below meth c A ls hx hb hr hts hown hlocks hin hml hK hP hD hS hA hl
  have hown : s.vm.findClass RX4 = some m.cls := hown
  have hl : lv_has ls 6 [(0, .ref t0), (1, .int f1), (2, .int f2), (3, .int f3), (4, .int f4)] := hl
  have kw_0 := hts (.fieldLink RX4 34 "DelayDesk$Travellers" "net" "LDelayDesk$Net;") (by decide +kernel)
  have iX4 : ∀ w ∈ u_ws RX4 TX4 8, w ∈ wsX4_canGo := by decide +kernel
  have kw_2 := hts (.fieldLink RX4 44 "DelayDesk$Net" "train" "[I") (by decide +kernel)
  have iX1 : ∀ w ∈ u_ws RX1 TX1 12, w ∈ wsX4_canGo := by decide +kernel
  refine lv_aload_n hx hb dX4_canGo_0 rfl (lv_at hl 0 rfl) ?_
  refine va_get (D := D) (ci := 4) (v := .ref n0) (C := RX4) (T := TX4) (N := 8) hx hb hts iX4 hown hK.1 hP 0 rfl rfl 0 (by decide) kw_0 (fun _ h9 => h9) rfl dX4_canGo_1 ?_
  refine lv_iload_n hx hb dX4_canGo_4 rfl (lv_at hl 1 rfl) ?_
  refine cl_i (wr := [(t0, .inr (4, [.ref n0, .ref v1, .ref v2, .ref v3, .ref v4, .ref v5, .ref v6, .int (nI Gr)])), (a0, .inl (cI, 60, .inl tr)), (a4, .inl (cI, 100, .inl ki)), (a5, .inl (cI, 100, .inl fr)), (a6, .inl (cI, 100, .inl to))]) (va_runV (As := [.int f1]) (rest := []) ⟨hx, hb, hml, hown, hts⟩ (c_hasEvent l D cI cZ cR n0 a0 a1 a2 a3 a4 a5 a6 a7 a8 a9 E Ac f1 (by omega) s.heap.size) (cwV 1 hts gX4_canGo_X1_hasEvent rfl rfl rfl (by decide +kernel) ⟨Nat.le_of_ble_eq_true rfl, Nat.le_of_ble_eq_true rfl⟩) (pV 1 1 hK hP hD [1] rfl (by decide) rfl rfl) rfl rfl hl.1 rfl (lv_room (Nat.le_of_ble_eq_true rfl)) dX4_canGo_5 ⟨Nat.le_of_ble_eq_true rfl, Nat.le_of_ble_eq_true rfl⟩) hP hD hS hA [1] [0, 2, 3, 4, 5] rfl rfl (by decide) (by decide) (fun r_5 u_5 H locs hw_5 hP hD hS => ?_)
  have hP : va_P D vwCl [(t0, .inr (4, [.ref n0, .ref v1, .ref v2, .ref v3, .ref v4, .ref v5, .ref v6, .int (nI Gr)])), (a0, .inl (cI, 60, .inl tr)), (a4, .inl (cI, 100, .inl ki)), (a5, .inl (cI, 100, .inl fr)), (a6, .inl (cI, 100, .inl to)), (n0, .inr (1, [.ref a0, .ref a1, .ref a2, .ref a3, .ref a4, .ref a5, .ref a6, .ref a7, .ref a8, .ref a9, .int (nI E), .int (nI Ac)]))] H := hP
  have hD : va_D A [(t0, .inr (4, [.ref n0, .ref v1, .ref v2, .ref v3, .ref v4, .ref v5, .ref v6, .int (nI Gr)])), (a0, .inl (cI, 60, .inl tr)), (a4, .inl (cI, 100, .inl ki)), (a5, .inl (cI, 100, .inl fr)), (a6, .inl (cI, 100, .inl to)), (n0, .inr (1, [.ref a0, .ref a1, .ref a2, .ref a3, .ref a4, .ref a5, .ref a6, .ref a7, .ref a8, .ref a9, .int (nI E), .int (nI Ac)]))] := hD
  rcases hw_5 with ⟨rfl, hf_5⟩ | ⟨rfl, hf_5⟩
  · refine lv_if_eq (tgt := 33) hx hb dX4_canGo_8 (by decide) (fun c_8 => absurd c_8 (by decide)) (fun c_8 => ?_)
    refine lv_aload_n hx hb dX4_canGo_11 rfl (lv_at hl 0 rfl) ?_
    refine va_get (D := D) (ci := 4) (v := .ref n0) (C := RX4) (T := TX4) (N := 8) hx hb hts iX4 hown hK.1 hP 0 rfl rfl 0 (by decide) kw_0 (fun _ h9 => h9) rfl dX4_canGo_12 ?_
    refine lv_iload hx hb dX4_canGo_15 (lv_at hl 4 rfl) ?_
    refine cl_i (wr := [(t0, .inr (4, [.ref n0, .ref v1, .ref v2, .ref v3, .ref v4, .ref v5, .ref v6, .int (nI Gr)])), (a0, .inl (cI, 60, .inl tr)), (a4, .inl (cI, 100, .inl ki)), (a5, .inl (cI, 100, .inl fr)), (a6, .inl (cI, 100, .inl to))]) (va_runV (As := [.int f4]) (rest := []) ⟨hx, hb, hml, hown, hts⟩ (c_hasEvent l D cI cZ cR n0 a0 a1 a2 a3 a4 a5 a6 a7 a8 a9 E Ac f4 (by omega) H.size) (cwV 1 hts gX4_canGo_X1_hasEvent rfl rfl rfl (by decide +kernel) ⟨Nat.le_of_ble_eq_true rfl, Nat.le_of_ble_eq_true rfl⟩) (pV 1 5 hK hP hD [5] rfl (by decide) rfl rfl) rfl rfl hl.1 rfl (lv_room (Nat.le_of_ble_eq_true rfl)) dX4_canGo_17 ⟨Nat.le_of_ble_eq_true rfl, Nat.le_of_ble_eq_true rfl⟩) hP hD hS hA [5] [0, 1, 2, 3, 4] rfl rfl (by decide) (by decide) (fun r_17 u_17 H locs hw_17 hP hD hS => ?_)
    have hP : va_P D vwCl [(t0, .inr (4, [.ref n0, .ref v1, .ref v2, .ref v3, .ref v4, .ref v5, .ref v6, .int (nI Gr)])), (a0, .inl (cI, 60, .inl tr)), (a4, .inl (cI, 100, .inl ki)), (a5, .inl (cI, 100, .inl fr)), (a6, .inl (cI, 100, .inl to)), (n0, .inr (1, [.ref a0, .ref a1, .ref a2, .ref a3, .ref a4, .ref a5, .ref a6, .ref a7, .ref a8, .ref a9, .int (nI E), .int (nI Ac)]))] H := hP
    have hD : va_D A [(t0, .inr (4, [.ref n0, .ref v1, .ref v2, .ref v3, .ref v4, .ref v5, .ref v6, .int (nI Gr)])), (a0, .inl (cI, 60, .inl tr)), (a4, .inl (cI, 100, .inl ki)), (a5, .inl (cI, 100, .inl fr)), (a6, .inl (cI, 100, .inl to)), (n0, .inr (1, [.ref a0, .ref a1, .ref a2, .ref a3, .ref a4, .ref a5, .ref a6, .ref a7, .ref a8, .ref a9, .int (nI E), .int (nI Ac)]))] := hD
    rcases hw_17 with ⟨rfl, hf_17⟩ | ⟨rfl, hf_17⟩
    · refine lv_if_eq (tgt := 33) hx hb dX4_canGo_20 (by decide) (fun c_20 => absurd c_20 (by decide)) (fun c_20 => ?_)
      refine lv_iload_n hx hb dX4_canGo_23 rfl (lv_at hl 2 rfl) ?_
      refine lv_iconst (v := (-1)) hx hb dX4_canGo_24 (by decide) ?_
      refine lv_icmp_ne (tgt := 35) hx hb dX4_canGo_25 (by decide) (fun c_25 => ?_) (fun c_25 => ?_)
      · refine lv_aload_n hx hb dX4_canGo_35 rfl (lv_at hl 0 rfl) ?_
        refine lv_aload_n hx hb dX4_canGo_36 rfl (lv_at hl 0 rfl) ?_
        refine va_get (D := D) (ci := 4) (v := .ref n0) (C := RX4) (T := TX4) (N := 8) hx hb hts iX4 hown hK.1 hP 0 rfl rfl 0 (by decide) kw_0 (fun _ h9 => h9) rfl dX4_canGo_37 ?_
        refine va_get (D := D) (ci := 1) (v := .ref a0) (C := RX1) (T := TX1) (N := 12) hx hb hts iX1 hown hK.1 hP 5 rfl rfl 0 (by decide) kw_2 (fun _ h9 => h9) rfl dX4_canGo_40 ?_
        refine lv_iload_n hx hb dX4_canGo_43 rfl (lv_at hl 1 rfl) ?_
        refine va_iald hx hb hK.1 hP 1 0 rfl rfl (by first | with_reducible assumption | exact vp_le (by with_reducible assumption) (by omega)) dX4_canGo_44 ?_
        refine lv_iload_n hx hb dX4_canGo_45 rfl (lv_at hl 2 rfl) ?_
        refine cl_i (wr := []) (va_runV (As := [.int (tr f1.toNatClampNeg), .int f2]) (rest := []) ⟨hx, hb, hml, hown, hts⟩ (c_trainAfter l D cI cZ cR t0 v1 v2 v3 v4 v5 v6 Gr n0 a0 a1 a2 a3 a4 a5 a6 a7 a8 a9 E Ac tr ki fr to (tr f1.toNatClampNeg) f2 (by omega) (by omega) (by with_reducible assumption) (by with_reducible assumption) H.size) (cwV 2 hts gX4_canGo_X4_trainAfter rfl rfl rfl (by decide +kernel) ⟨Nat.le_of_ble_eq_true rfl, Nat.le_of_ble_eq_true rfl⟩) (pV 4 0 hK hP hD [0, 5, 1, 2, 3, 4] rfl (by decide) rfl rfl) rfl rfl hl.1 rfl (lv_room (Nat.le_of_ble_eq_true rfl)) dX4_canGo_46 ⟨Nat.le_of_ble_eq_true rfl, Nat.le_of_ble_eq_true rfl⟩) hP hD hS hA [0, 5, 1, 2, 3, 4] [] rfl rfl (by decide) (by decide) (fun r_46 u_46 H locs hw_46 hP hD hS => ?_)
        have hP : va_P D vwCl [(t0, .inr (4, [.ref n0, .ref v1, .ref v2, .ref v3, .ref v4, .ref v5, .ref v6, .int (nI Gr)])), (n0, .inr (1, [.ref a0, .ref a1, .ref a2, .ref a3, .ref a4, .ref a5, .ref a6, .ref a7, .ref a8, .ref a9, .int (nI E), .int (nI Ac)])), (a0, .inl (cI, 60, .inl tr)), (a4, .inl (cI, 100, .inl ki)), (a5, .inl (cI, 100, .inl fr)), (a6, .inl (cI, 100, .inl to))] H := hP
        have hD : va_D A [(t0, .inr (4, [.ref n0, .ref v1, .ref v2, .ref v3, .ref v4, .ref v5, .ref v6, .int (nI Gr)])), (n0, .inr (1, [.ref a0, .ref a1, .ref a2, .ref a3, .ref a4, .ref a5, .ref a6, .ref a7, .ref a8, .ref a9, .int (nI E), .int (nI Ac)])), (a0, .inl (cI, 60, .inl tr)), (a4, .inl (cI, 100, .inl ki)), (a5, .inl (cI, 100, .inl fr)), (a6, .inl (cI, 100, .inl to))] := hD
        rcases hw_46 with ⟨rfl, hf_46⟩ | ⟨rfl, hf_46⟩ | ⟨rfl, hf_46⟩
        · refine lv_istore (lv' := [(5, .int (tr f1.toNatClampNeg)), (0, .ref t0), (1, .int f1), (2, .int f2), (3, .int f3), (4, .int f4)]) hx hb dX4_canGo_49 hl (by decide) rfl (fun ls hl => ?_)
          refine lv_aload_n hx hb dX4_canGo_51 rfl (lv_at hl 1 rfl) ?_
          refine lv_iload hx hb dX4_canGo_52 (lv_at hl 0 rfl) ?_
          refine lv_iload_n hx hb dX4_canGo_54 rfl (lv_at hl 4 rfl) ?_
          refine cl_i (wr := []) (va_runV (As := [.int (tr f1.toNatClampNeg), .int f3]) (rest := []) ⟨hx, hb, hml, hown, hts⟩ (c_trainAfter l D cI cZ cR t0 v1 v2 v3 v4 v5 v6 Gr n0 a0 a1 a2 a3 a4 a5 a6 a7 a8 a9 E Ac tr ki fr to (tr f1.toNatClampNeg) f3 (by omega) (by omega) (by with_reducible assumption) (by with_reducible assumption) H.size) (cwV 2 hts gX4_canGo_X4_trainAfter rfl rfl rfl (by decide +kernel) ⟨Nat.le_of_ble_eq_true rfl, Nat.le_of_ble_eq_true rfl⟩) (pV 4 0 hK hP hD [0, 1, 2, 3, 4, 5] rfl (by decide) rfl rfl) rfl rfl hl.1 rfl (lv_room (Nat.le_of_ble_eq_true rfl)) dX4_canGo_55 ⟨Nat.le_of_ble_eq_true rfl, Nat.le_of_ble_eq_true rfl⟩) hP hD hS hA [0, 1, 2, 3, 4, 5] [] rfl rfl (by decide) (by decide) (fun r_55 u_55 H locs hw_55 hP hD hS => ?_)
          have hP : va_P D vwCl [(t0, .inr (4, [.ref n0, .ref v1, .ref v2, .ref v3, .ref v4, .ref v5, .ref v6, .int (nI Gr)])), (n0, .inr (1, [.ref a0, .ref a1, .ref a2, .ref a3, .ref a4, .ref a5, .ref a6, .ref a7, .ref a8, .ref a9, .int (nI E), .int (nI Ac)])), (a0, .inl (cI, 60, .inl tr)), (a4, .inl (cI, 100, .inl ki)), (a5, .inl (cI, 100, .inl fr)), (a6, .inl (cI, 100, .inl to))] H := hP
          have hD : va_D A [(t0, .inr (4, [.ref n0, .ref v1, .ref v2, .ref v3, .ref v4, .ref v5, .ref v6, .int (nI Gr)])), (n0, .inr (1, [.ref a0, .ref a1, .ref a2, .ref a3, .ref a4, .ref a5, .ref a6, .ref a7, .ref a8, .ref a9, .int (nI E), .int (nI Ac)])), (a0, .inl (cI, 60, .inl tr)), (a4, .inl (cI, 100, .inl ki)), (a5, .inl (cI, 100, .inl fr)), (a6, .inl (cI, 100, .inl to))] := hD
          rcases hw_55 with ⟨rfl, hf_55⟩ | ⟨rfl, hf_55⟩ | ⟨rfl, hf_55⟩
          · refine lv_istore (lv' := [(5, .int (tr f1.toNatClampNeg)), (0, .ref t0), (1, .int f1), (2, .int f2), (3, .int f3), (4, .int f4)]) hx hb dX4_canGo_58 hl (by decide) rfl (fun ls hl => ?_)
            refine lv_iload hx hb dX4_canGo_60 (lv_at hl 0 rfl) ?_
            refine lv_iconst (v := (-1)) hx hb dX4_canGo_62 (by decide) ?_
            refine lv_icmp_eq (tgt := 85) hx hb dX4_canGo_63 (by decide) (fun c_63 => ?_) (fun c_63 => ?_)
            · refine lv_iconst (v := 0) hx hb dX4_canGo_85 (by decide) ?_
              exact en_z () hx hb hr hlocks hK (hP.sub [0, 1, 2, 3, 4, 5] rfl) (hD.sub [0, 1, 2, 3, 4, 5] (by decide) rfl) hS (Nat.le_of_ble_eq_true rfl) (Nat.le_of_ble_eq_true rfl) dX4_canGo_86 rfl (Or.inr rfl)
            · refine lv_aload_n hx hb dX4_canGo_66 rfl (lv_at hl 1 rfl) ?_
              refine va_get (D := D) (ci := 4) (v := .ref n0) (C := RX4) (T := TX4) (N := 8) hx hb hts iX4 hown hK.1 hP 0 rfl rfl 0 (by decide) kw_0 (fun _ h9 => h9) rfl dX4_canGo_67 ?_
              refine va_get (D := D) (ci := 1) (v := .ref a0) (C := RX1) (T := TX1) (N := 12) hx hb hts iX1 hown hK.1 hP 1 rfl rfl 0 (by decide) kw_2 (fun _ h9 => h9) rfl dX4_canGo_70 ?_
              refine lv_iload hx hb dX4_canGo_73 (lv_at hl 5 rfl) ?_
              refine va_iald hx hb hK.1 hP 2 0 rfl rfl (by first | with_reducible assumption | exact vp_le (by with_reducible assumption) (by omega)) dX4_canGo_75 ?_
              refine lv_iload hx hb dX4_canGo_76 (lv_at hl 0 rfl) ?_
              refine lv_icmp_ne (tgt := 85) hx hb dX4_canGo_78 (by decide) (fun c_78 => ?_) (fun c_78 => ?_)
              · refine lv_iconst (v := 0) hx hb dX4_canGo_85 (by decide) ?_
                exact en_z () hx hb hr hlocks hK (hP.sub [0, 1, 2, 3, 4, 5] rfl) (hD.sub [0, 1, 2, 3, 4, 5] (by decide) rfl) hS (Nat.le_of_ble_eq_true rfl) (Nat.le_of_ble_eq_true rfl) dX4_canGo_86 rfl (Or.inr rfl)
              · refine lv_iconst (v := 1) hx hb dX4_canGo_81 (by decide) ?_
                refine lv_goto (tgt := 86) hx hb dX4_canGo_82 (by decide) ?_
                exact en_z () hx hb hr hlocks hK (hP.sub [0, 1, 2, 3, 4, 5] rfl) (hD.sub [0, 1, 2, 3, 4, 5] (by decide) rfl) hS (Nat.le_of_ble_eq_true rfl) (Nat.le_of_ble_eq_true rfl) dX4_canGo_86 rfl (Or.inl ⟨rfl, by first | exact ⟨hf_5, hf_17, Or.inl (hf_46.resolve_right c_63), Or.inl (hf_55.resolve_right c_63)⟩ | exact ⟨hf_5, hf_17, Or.inl (hf_46.resolve_right (fun q => hf_55.1 (Or.inr q))), Or.inr hf_55.2.1.1⟩ | exact ⟨hf_5, hf_17, Or.inr hf_46.2.1.1, Or.inl (hf_55.resolve_right c_63)⟩ | exact ⟨hf_5, hf_17, Or.inr hf_46.2.1.1, Or.inr hf_55.2.1.1⟩ | exact (c_63 rfl).elim | exact (hf_55.1 (Or.inr rfl)).elim⟩)
          · refine lv_istore (lv' := [(5, .int (-1)), (0, .ref t0), (1, .int f1), (2, .int f2), (3, .int f3), (4, .int f4)]) hx hb dX4_canGo_58 hl (by decide) rfl (fun ls hl => ?_)
            refine lv_iload hx hb dX4_canGo_60 (lv_at hl 0 rfl) ?_
            refine lv_iconst (v := (-1)) hx hb dX4_canGo_62 (by decide) ?_
            refine lv_icmp_eq (tgt := 85) hx hb dX4_canGo_63 (by decide) (fun c_63 => ?_) (fun c_63 => absurd (by decide) c_63)
            refine lv_iconst (v := 0) hx hb dX4_canGo_85 (by decide) ?_
            exact en_z () hx hb hr hlocks hK (hP.sub [0, 1, 2, 3, 4, 5] rfl) (hD.sub [0, 1, 2, 3, 4, 5] (by decide) rfl) hS (Nat.le_of_ble_eq_true rfl) (Nat.le_of_ble_eq_true rfl) dX4_canGo_86 rfl (Or.inr rfl)
          · refine lv_istore (lv' := [(5, .int (tr (to f3.toNatClampNeg).toNatClampNeg)), (0, .ref t0), (1, .int f1), (2, .int f2), (3, .int f3), (4, .int f4)]) hx hb dX4_canGo_58 hl (by decide) rfl (fun ls hl => ?_)
            refine lv_iload hx hb dX4_canGo_60 (lv_at hl 0 rfl) ?_
            refine lv_iconst (v := (-1)) hx hb dX4_canGo_62 (by decide) ?_
            refine lv_icmp_eq (tgt := 85) hx hb dX4_canGo_63 (by decide) (fun c_63 => ?_) (fun c_63 => ?_)
            · refine lv_iconst (v := 0) hx hb dX4_canGo_85 (by decide) ?_
              exact en_z () hx hb hr hlocks hK (hP.sub [0, 1, 2, 3, 4, 5] rfl) (hD.sub [0, 1, 2, 3, 4, 5] (by decide) rfl) hS (Nat.le_of_ble_eq_true rfl) (Nat.le_of_ble_eq_true rfl) dX4_canGo_86 rfl (Or.inr rfl)
            · refine lv_aload_n hx hb dX4_canGo_66 rfl (lv_at hl 1 rfl) ?_
              refine va_get (D := D) (ci := 4) (v := .ref n0) (C := RX4) (T := TX4) (N := 8) hx hb hts iX4 hown hK.1 hP 0 rfl rfl 0 (by decide) kw_0 (fun _ h9 => h9) rfl dX4_canGo_67 ?_
              refine va_get (D := D) (ci := 1) (v := .ref a0) (C := RX1) (T := TX1) (N := 12) hx hb hts iX1 hown hK.1 hP 1 rfl rfl 0 (by decide) kw_2 (fun _ h9 => h9) rfl dX4_canGo_70 ?_
              refine lv_iload hx hb dX4_canGo_73 (lv_at hl 5 rfl) ?_
              refine va_iald hx hb hK.1 hP 2 0 rfl rfl (by first | with_reducible assumption | exact vp_le (by with_reducible assumption) (by omega)) dX4_canGo_75 ?_
              refine lv_iload hx hb dX4_canGo_76 (lv_at hl 0 rfl) ?_
              refine lv_icmp_ne (tgt := 85) hx hb dX4_canGo_78 (by decide) (fun c_78 => ?_) (fun c_78 => ?_)
              · refine lv_iconst (v := 0) hx hb dX4_canGo_85 (by decide) ?_
                exact en_z () hx hb hr hlocks hK (hP.sub [0, 1, 2, 3, 4, 5] rfl) (hD.sub [0, 1, 2, 3, 4, 5] (by decide) rfl) hS (Nat.le_of_ble_eq_true rfl) (Nat.le_of_ble_eq_true rfl) dX4_canGo_86 rfl (Or.inr rfl)
              · refine lv_iconst (v := 1) hx hb dX4_canGo_81 (by decide) ?_
                refine lv_goto (tgt := 86) hx hb dX4_canGo_82 (by decide) ?_
                exact en_z () hx hb hr hlocks hK (hP.sub [0, 1, 2, 3, 4, 5] rfl) (hD.sub [0, 1, 2, 3, 4, 5] (by decide) rfl) hS (Nat.le_of_ble_eq_true rfl) (Nat.le_of_ble_eq_true rfl) dX4_canGo_86 rfl (Or.inl ⟨rfl, by first | exact ⟨hf_5, hf_17, Or.inl (hf_46.resolve_right c_63), Or.inl (hf_55.resolve_right c_63)⟩ | exact ⟨hf_5, hf_17, Or.inl (hf_46.resolve_right (fun q => hf_55.1 (Or.inr q))), Or.inr hf_55.2.1.1⟩ | exact ⟨hf_5, hf_17, Or.inr hf_46.2.1.1, Or.inl (hf_55.resolve_right c_63)⟩ | exact ⟨hf_5, hf_17, Or.inr hf_46.2.1.1, Or.inr hf_55.2.1.1⟩ | exact (c_63 rfl).elim | exact (hf_55.1 (Or.inr rfl)).elim⟩)
        · refine lv_istore (lv' := [(5, .int (-1)), (0, .ref t0), (1, .int f1), (2, .int f2), (3, .int f3), (4, .int f4)]) hx hb dX4_canGo_49 hl (by decide) rfl (fun ls hl => ?_)
          refine lv_aload_n hx hb dX4_canGo_51 rfl (lv_at hl 1 rfl) ?_
          refine lv_iload hx hb dX4_canGo_52 (lv_at hl 0 rfl) ?_
          refine lv_iload_n hx hb dX4_canGo_54 rfl (lv_at hl 4 rfl) ?_
          refine cl_i (wr := []) (va_runV (As := [.int (-1), .int f3]) (rest := []) ⟨hx, hb, hml, hown, hts⟩ (c_trainAfter l D cI cZ cR t0 v1 v2 v3 v4 v5 v6 Gr n0 a0 a1 a2 a3 a4 a5 a6 a7 a8 a9 E Ac tr ki fr to (-1) f3 (by omega) (by omega) (by with_reducible assumption) (by with_reducible assumption) H.size) (cwV 2 hts gX4_canGo_X4_trainAfter rfl rfl rfl (by decide +kernel) ⟨Nat.le_of_ble_eq_true rfl, Nat.le_of_ble_eq_true rfl⟩) (pV 4 0 hK hP hD [0, 1, 2, 3, 4, 5] rfl (by decide) rfl rfl) rfl rfl hl.1 rfl (lv_room (Nat.le_of_ble_eq_true rfl)) dX4_canGo_55 ⟨Nat.le_of_ble_eq_true rfl, Nat.le_of_ble_eq_true rfl⟩) hP hD hS hA [0, 1, 2, 3, 4, 5] [] rfl rfl (by decide) (by decide) (fun r_55 u_55 H locs hw_55 hP hD hS => ?_)
          have hP : va_P D vwCl [(t0, .inr (4, [.ref n0, .ref v1, .ref v2, .ref v3, .ref v4, .ref v5, .ref v6, .int (nI Gr)])), (n0, .inr (1, [.ref a0, .ref a1, .ref a2, .ref a3, .ref a4, .ref a5, .ref a6, .ref a7, .ref a8, .ref a9, .int (nI E), .int (nI Ac)])), (a0, .inl (cI, 60, .inl tr)), (a4, .inl (cI, 100, .inl ki)), (a5, .inl (cI, 100, .inl fr)), (a6, .inl (cI, 100, .inl to))] H := hP
          have hD : va_D A [(t0, .inr (4, [.ref n0, .ref v1, .ref v2, .ref v3, .ref v4, .ref v5, .ref v6, .int (nI Gr)])), (n0, .inr (1, [.ref a0, .ref a1, .ref a2, .ref a3, .ref a4, .ref a5, .ref a6, .ref a7, .ref a8, .ref a9, .int (nI E), .int (nI Ac)])), (a0, .inl (cI, 60, .inl tr)), (a4, .inl (cI, 100, .inl ki)), (a5, .inl (cI, 100, .inl fr)), (a6, .inl (cI, 100, .inl to))] := hD
          rcases hw_55 with ⟨rfl, hf_55⟩ | ⟨rfl, hf_55⟩ | ⟨rfl, hf_55⟩
          · refine lv_istore (lv' := [(5, .int (-1)), (0, .ref t0), (1, .int f1), (2, .int f2), (3, .int f3), (4, .int f4)]) hx hb dX4_canGo_58 hl (by decide) rfl (fun ls hl => ?_)
            refine lv_iload hx hb dX4_canGo_60 (lv_at hl 0 rfl) ?_
            refine lv_iconst (v := (-1)) hx hb dX4_canGo_62 (by decide) ?_
            refine lv_icmp_eq (tgt := 85) hx hb dX4_canGo_63 (by decide) (fun c_63 => ?_) (fun c_63 => ?_)
            · refine lv_iconst (v := 0) hx hb dX4_canGo_85 (by decide) ?_
              exact en_z () hx hb hr hlocks hK (hP.sub [0, 1, 2, 3, 4, 5] rfl) (hD.sub [0, 1, 2, 3, 4, 5] (by decide) rfl) hS (Nat.le_of_ble_eq_true rfl) (Nat.le_of_ble_eq_true rfl) dX4_canGo_86 rfl (Or.inr rfl)
            · refine lv_aload_n hx hb dX4_canGo_66 rfl (lv_at hl 1 rfl) ?_
              refine va_get (D := D) (ci := 4) (v := .ref n0) (C := RX4) (T := TX4) (N := 8) hx hb hts iX4 hown hK.1 hP 0 rfl rfl 0 (by decide) kw_0 (fun _ h9 => h9) rfl dX4_canGo_67 ?_
              refine va_get (D := D) (ci := 1) (v := .ref a0) (C := RX1) (T := TX1) (N := 12) hx hb hts iX1 hown hK.1 hP 1 rfl rfl 0 (by decide) kw_2 (fun _ h9 => h9) rfl dX4_canGo_70 ?_
              refine lv_iload hx hb dX4_canGo_73 (lv_at hl 5 rfl) ?_
              refine va_iald hx hb hK.1 hP 2 0 rfl rfl (by first | with_reducible assumption | exact vp_le (by with_reducible assumption) (by omega)) dX4_canGo_75 ?_
              refine lv_iload hx hb dX4_canGo_76 (lv_at hl 0 rfl) ?_
              refine lv_icmp_ne (tgt := 85) hx hb dX4_canGo_78 (by decide) (fun c_78 => ?_) (fun c_78 => ?_)
              · refine lv_iconst (v := 0) hx hb dX4_canGo_85 (by decide) ?_
                exact en_z () hx hb hr hlocks hK (hP.sub [0, 1, 2, 3, 4, 5] rfl) (hD.sub [0, 1, 2, 3, 4, 5] (by decide) rfl) hS (Nat.le_of_ble_eq_true rfl) (Nat.le_of_ble_eq_true rfl) dX4_canGo_86 rfl (Or.inr rfl)
              · refine lv_iconst (v := 1) hx hb dX4_canGo_81 (by decide) ?_
                refine lv_goto (tgt := 86) hx hb dX4_canGo_82 (by decide) ?_
                exact en_z () hx hb hr hlocks hK (hP.sub [0, 1, 2, 3, 4, 5] rfl) (hD.sub [0, 1, 2, 3, 4, 5] (by decide) rfl) hS (Nat.le_of_ble_eq_true rfl) (Nat.le_of_ble_eq_true rfl) dX4_canGo_86 rfl (Or.inl ⟨rfl, by first | exact ⟨hf_5, hf_17, Or.inl (hf_46.resolve_right c_63), Or.inl (hf_55.resolve_right c_63)⟩ | exact ⟨hf_5, hf_17, Or.inl (hf_46.resolve_right (fun q => hf_55.1 (Or.inr q))), Or.inr hf_55.2.1.1⟩ | exact ⟨hf_5, hf_17, Or.inr hf_46.2.1.1, Or.inl (hf_55.resolve_right c_63)⟩ | exact ⟨hf_5, hf_17, Or.inr hf_46.2.1.1, Or.inr hf_55.2.1.1⟩ | exact (c_63 rfl).elim | exact (hf_55.1 (Or.inr rfl)).elim⟩)
          · refine lv_istore (lv' := [(5, .int (-1)), (0, .ref t0), (1, .int f1), (2, .int f2), (3, .int f3), (4, .int f4)]) hx hb dX4_canGo_58 hl (by decide) rfl (fun ls hl => ?_)
            refine lv_iload hx hb dX4_canGo_60 (lv_at hl 0 rfl) ?_
            refine lv_iconst (v := (-1)) hx hb dX4_canGo_62 (by decide) ?_
            refine lv_icmp_eq (tgt := 85) hx hb dX4_canGo_63 (by decide) (fun c_63 => ?_) (fun c_63 => absurd (by decide) c_63)
            refine lv_iconst (v := 0) hx hb dX4_canGo_85 (by decide) ?_
            exact en_z () hx hb hr hlocks hK (hP.sub [0, 1, 2, 3, 4, 5] rfl) (hD.sub [0, 1, 2, 3, 4, 5] (by decide) rfl) hS (Nat.le_of_ble_eq_true rfl) (Nat.le_of_ble_eq_true rfl) dX4_canGo_86 rfl (Or.inr rfl)
          · refine lv_istore (lv' := [(5, .int (tr (to f3.toNatClampNeg).toNatClampNeg)), (0, .ref t0), (1, .int f1), (2, .int f2), (3, .int f3), (4, .int f4)]) hx hb dX4_canGo_58 hl (by decide) rfl (fun ls hl => ?_)
            refine lv_iload hx hb dX4_canGo_60 (lv_at hl 0 rfl) ?_
            refine lv_iconst (v := (-1)) hx hb dX4_canGo_62 (by decide) ?_
            refine lv_icmp_eq (tgt := 85) hx hb dX4_canGo_63 (by decide) (fun c_63 => ?_) (fun c_63 => ?_)
            · refine lv_iconst (v := 0) hx hb dX4_canGo_85 (by decide) ?_
              exact en_z () hx hb hr hlocks hK (hP.sub [0, 1, 2, 3, 4, 5] rfl) (hD.sub [0, 1, 2, 3, 4, 5] (by decide) rfl) hS (Nat.le_of_ble_eq_true rfl) (Nat.le_of_ble_eq_true rfl) dX4_canGo_86 rfl (Or.inr rfl)
            · refine lv_aload_n hx hb dX4_canGo_66 rfl (lv_at hl 1 rfl) ?_
              refine va_get (D := D) (ci := 4) (v := .ref n0) (C := RX4) (T := TX4) (N := 8) hx hb hts iX4 hown hK.1 hP 0 rfl rfl 0 (by decide) kw_0 (fun _ h9 => h9) rfl dX4_canGo_67 ?_
              refine va_get (D := D) (ci := 1) (v := .ref a0) (C := RX1) (T := TX1) (N := 12) hx hb hts iX1 hown hK.1 hP 1 rfl rfl 0 (by decide) kw_2 (fun _ h9 => h9) rfl dX4_canGo_70 ?_
              refine lv_iload hx hb dX4_canGo_73 (lv_at hl 5 rfl) ?_
              refine va_iald hx hb hK.1 hP 2 0 rfl rfl (by first | with_reducible assumption | exact vp_le (by with_reducible assumption) (by omega)) dX4_canGo_75 ?_
              refine lv_iload hx hb dX4_canGo_76 (lv_at hl 0 rfl) ?_
              refine lv_icmp_ne (tgt := 85) hx hb dX4_canGo_78 (by decide) (fun c_78 => ?_) (fun c_78 => ?_)
              · refine lv_iconst (v := 0) hx hb dX4_canGo_85 (by decide) ?_
                exact en_z () hx hb hr hlocks hK (hP.sub [0, 1, 2, 3, 4, 5] rfl) (hD.sub [0, 1, 2, 3, 4, 5] (by decide) rfl) hS (Nat.le_of_ble_eq_true rfl) (Nat.le_of_ble_eq_true rfl) dX4_canGo_86 rfl (Or.inr rfl)
              · refine lv_iconst (v := 1) hx hb dX4_canGo_81 (by decide) ?_
                refine lv_goto (tgt := 86) hx hb dX4_canGo_82 (by decide) ?_
                exact en_z () hx hb hr hlocks hK (hP.sub [0, 1, 2, 3, 4, 5] rfl) (hD.sub [0, 1, 2, 3, 4, 5] (by decide) rfl) hS (Nat.le_of_ble_eq_true rfl) (Nat.le_of_ble_eq_true rfl) dX4_canGo_86 rfl (Or.inl ⟨rfl, by first | exact ⟨hf_5, hf_17, Or.inl (hf_46.resolve_right c_63), Or.inl (hf_55.resolve_right c_63)⟩ | exact ⟨hf_5, hf_17, Or.inl (hf_46.resolve_right (fun q => hf_55.1 (Or.inr q))), Or.inr hf_55.2.1.1⟩ | exact ⟨hf_5, hf_17, Or.inr hf_46.2.1.1, Or.inl (hf_55.resolve_right c_63)⟩ | exact ⟨hf_5, hf_17, Or.inr hf_46.2.1.1, Or.inr hf_55.2.1.1⟩ | exact (c_63 rfl).elim | exact (hf_55.1 (Or.inr rfl)).elim⟩)
        · refine lv_istore (lv' := [(5, .int (tr (to f2.toNatClampNeg).toNatClampNeg)), (0, .ref t0), (1, .int f1), (2, .int f2), (3, .int f3), (4, .int f4)]) hx hb dX4_canGo_49 hl (by decide) rfl (fun ls hl => ?_)
          refine lv_aload_n hx hb dX4_canGo_51 rfl (lv_at hl 1 rfl) ?_
          refine lv_iload hx hb dX4_canGo_52 (lv_at hl 0 rfl) ?_
          refine lv_iload_n hx hb dX4_canGo_54 rfl (lv_at hl 4 rfl) ?_
          refine cl_i (wr := []) (va_runV (As := [.int (tr (to f2.toNatClampNeg).toNatClampNeg), .int f3]) (rest := []) ⟨hx, hb, hml, hown, hts⟩ (c_trainAfter l D cI cZ cR t0 v1 v2 v3 v4 v5 v6 Gr n0 a0 a1 a2 a3 a4 a5 a6 a7 a8 a9 E Ac tr ki fr to (tr (to f2.toNatClampNeg).toNatClampNeg) f3 (by omega) (by omega) (by with_reducible assumption) (by with_reducible assumption) H.size) (cwV 2 hts gX4_canGo_X4_trainAfter rfl rfl rfl (by decide +kernel) ⟨Nat.le_of_ble_eq_true rfl, Nat.le_of_ble_eq_true rfl⟩) (pV 4 0 hK hP hD [0, 1, 2, 3, 4, 5] rfl (by decide) rfl rfl) rfl rfl hl.1 rfl (lv_room (Nat.le_of_ble_eq_true rfl)) dX4_canGo_55 ⟨Nat.le_of_ble_eq_true rfl, Nat.le_of_ble_eq_true rfl⟩) hP hD hS hA [0, 1, 2, 3, 4, 5] [] rfl rfl (by decide) (by decide) (fun r_55 u_55 H locs hw_55 hP hD hS => ?_)
          have hP : va_P D vwCl [(t0, .inr (4, [.ref n0, .ref v1, .ref v2, .ref v3, .ref v4, .ref v5, .ref v6, .int (nI Gr)])), (n0, .inr (1, [.ref a0, .ref a1, .ref a2, .ref a3, .ref a4, .ref a5, .ref a6, .ref a7, .ref a8, .ref a9, .int (nI E), .int (nI Ac)])), (a0, .inl (cI, 60, .inl tr)), (a4, .inl (cI, 100, .inl ki)), (a5, .inl (cI, 100, .inl fr)), (a6, .inl (cI, 100, .inl to))] H := hP
          have hD : va_D A [(t0, .inr (4, [.ref n0, .ref v1, .ref v2, .ref v3, .ref v4, .ref v5, .ref v6, .int (nI Gr)])), (n0, .inr (1, [.ref a0, .ref a1, .ref a2, .ref a3, .ref a4, .ref a5, .ref a6, .ref a7, .ref a8, .ref a9, .int (nI E), .int (nI Ac)])), (a0, .inl (cI, 60, .inl tr)), (a4, .inl (cI, 100, .inl ki)), (a5, .inl (cI, 100, .inl fr)), (a6, .inl (cI, 100, .inl to))] := hD
          rcases hw_55 with ⟨rfl, hf_55⟩ | ⟨rfl, hf_55⟩ | ⟨rfl, hf_55⟩
          · refine lv_istore (lv' := [(5, .int (tr (to f2.toNatClampNeg).toNatClampNeg)), (0, .ref t0), (1, .int f1), (2, .int f2), (3, .int f3), (4, .int f4)]) hx hb dX4_canGo_58 hl (by decide) rfl (fun ls hl => ?_)
            refine lv_iload hx hb dX4_canGo_60 (lv_at hl 0 rfl) ?_
            refine lv_iconst (v := (-1)) hx hb dX4_canGo_62 (by decide) ?_
            refine lv_icmp_eq (tgt := 85) hx hb dX4_canGo_63 (by decide) (fun c_63 => ?_) (fun c_63 => ?_)
            · refine lv_iconst (v := 0) hx hb dX4_canGo_85 (by decide) ?_
              exact en_z () hx hb hr hlocks hK (hP.sub [0, 1, 2, 3, 4, 5] rfl) (hD.sub [0, 1, 2, 3, 4, 5] (by decide) rfl) hS (Nat.le_of_ble_eq_true rfl) (Nat.le_of_ble_eq_true rfl) dX4_canGo_86 rfl (Or.inr rfl)
            · refine lv_aload_n hx hb dX4_canGo_66 rfl (lv_at hl 1 rfl) ?_
              refine va_get (D := D) (ci := 4) (v := .ref n0) (C := RX4) (T := TX4) (N := 8) hx hb hts iX4 hown hK.1 hP 0 rfl rfl 0 (by decide) kw_0 (fun _ h9 => h9) rfl dX4_canGo_67 ?_
              refine va_get (D := D) (ci := 1) (v := .ref a0) (C := RX1) (T := TX1) (N := 12) hx hb hts iX1 hown hK.1 hP 1 rfl rfl 0 (by decide) kw_2 (fun _ h9 => h9) rfl dX4_canGo_70 ?_
              refine lv_iload hx hb dX4_canGo_73 (lv_at hl 5 rfl) ?_
              refine va_iald hx hb hK.1 hP 2 0 rfl rfl (by first | with_reducible assumption | exact vp_le (by with_reducible assumption) (by omega)) dX4_canGo_75 ?_
              refine lv_iload hx hb dX4_canGo_76 (lv_at hl 0 rfl) ?_
              refine lv_icmp_ne (tgt := 85) hx hb dX4_canGo_78 (by decide) (fun c_78 => ?_) (fun c_78 => ?_)
              · refine lv_iconst (v := 0) hx hb dX4_canGo_85 (by decide) ?_
                exact en_z () hx hb hr hlocks hK (hP.sub [0, 1, 2, 3, 4, 5] rfl) (hD.sub [0, 1, 2, 3, 4, 5] (by decide) rfl) hS (Nat.le_of_ble_eq_true rfl) (Nat.le_of_ble_eq_true rfl) dX4_canGo_86 rfl (Or.inr rfl)
              · refine lv_iconst (v := 1) hx hb dX4_canGo_81 (by decide) ?_
                refine lv_goto (tgt := 86) hx hb dX4_canGo_82 (by decide) ?_
                exact en_z () hx hb hr hlocks hK (hP.sub [0, 1, 2, 3, 4, 5] rfl) (hD.sub [0, 1, 2, 3, 4, 5] (by decide) rfl) hS (Nat.le_of_ble_eq_true rfl) (Nat.le_of_ble_eq_true rfl) dX4_canGo_86 rfl (Or.inl ⟨rfl, by first | exact ⟨hf_5, hf_17, Or.inl (hf_46.resolve_right c_63), Or.inl (hf_55.resolve_right c_63)⟩ | exact ⟨hf_5, hf_17, Or.inl (hf_46.resolve_right (fun q => hf_55.1 (Or.inr q))), Or.inr hf_55.2.1.1⟩ | exact ⟨hf_5, hf_17, Or.inr hf_46.2.1.1, Or.inl (hf_55.resolve_right c_63)⟩ | exact ⟨hf_5, hf_17, Or.inr hf_46.2.1.1, Or.inr hf_55.2.1.1⟩ | exact (c_63 rfl).elim | exact (hf_55.1 (Or.inr rfl)).elim⟩)
          · refine lv_istore (lv' := [(5, .int (-1)), (0, .ref t0), (1, .int f1), (2, .int f2), (3, .int f3), (4, .int f4)]) hx hb dX4_canGo_58 hl (by decide) rfl (fun ls hl => ?_)
            refine lv_iload hx hb dX4_canGo_60 (lv_at hl 0 rfl) ?_
            refine lv_iconst (v := (-1)) hx hb dX4_canGo_62 (by decide) ?_
            refine lv_icmp_eq (tgt := 85) hx hb dX4_canGo_63 (by decide) (fun c_63 => ?_) (fun c_63 => absurd (by decide) c_63)
            refine lv_iconst (v := 0) hx hb dX4_canGo_85 (by decide) ?_
            exact en_z () hx hb hr hlocks hK (hP.sub [0, 1, 2, 3, 4, 5] rfl) (hD.sub [0, 1, 2, 3, 4, 5] (by decide) rfl) hS (Nat.le_of_ble_eq_true rfl) (Nat.le_of_ble_eq_true rfl) dX4_canGo_86 rfl (Or.inr rfl)
          · refine lv_istore (lv' := [(5, .int (tr (to f3.toNatClampNeg).toNatClampNeg)), (0, .ref t0), (1, .int f1), (2, .int f2), (3, .int f3), (4, .int f4)]) hx hb dX4_canGo_58 hl (by decide) rfl (fun ls hl => ?_)
            refine lv_iload hx hb dX4_canGo_60 (lv_at hl 0 rfl) ?_
            refine lv_iconst (v := (-1)) hx hb dX4_canGo_62 (by decide) ?_
            refine lv_icmp_eq (tgt := 85) hx hb dX4_canGo_63 (by decide) (fun c_63 => ?_) (fun c_63 => ?_)
            · refine lv_iconst (v := 0) hx hb dX4_canGo_85 (by decide) ?_
              exact en_z () hx hb hr hlocks hK (hP.sub [0, 1, 2, 3, 4, 5] rfl) (hD.sub [0, 1, 2, 3, 4, 5] (by decide) rfl) hS (Nat.le_of_ble_eq_true rfl) (Nat.le_of_ble_eq_true rfl) dX4_canGo_86 rfl (Or.inr rfl)
            · refine lv_aload_n hx hb dX4_canGo_66 rfl (lv_at hl 1 rfl) ?_
              refine va_get (D := D) (ci := 4) (v := .ref n0) (C := RX4) (T := TX4) (N := 8) hx hb hts iX4 hown hK.1 hP 0 rfl rfl 0 (by decide) kw_0 (fun _ h9 => h9) rfl dX4_canGo_67 ?_
              refine va_get (D := D) (ci := 1) (v := .ref a0) (C := RX1) (T := TX1) (N := 12) hx hb hts iX1 hown hK.1 hP 1 rfl rfl 0 (by decide) kw_2 (fun _ h9 => h9) rfl dX4_canGo_70 ?_
              refine lv_iload hx hb dX4_canGo_73 (lv_at hl 5 rfl) ?_
              refine va_iald hx hb hK.1 hP 2 0 rfl rfl (by first | with_reducible assumption | exact vp_le (by with_reducible assumption) (by omega)) dX4_canGo_75 ?_
              refine lv_iload hx hb dX4_canGo_76 (lv_at hl 0 rfl) ?_
              refine lv_icmp_ne (tgt := 85) hx hb dX4_canGo_78 (by decide) (fun c_78 => ?_) (fun c_78 => ?_)
              · refine lv_iconst (v := 0) hx hb dX4_canGo_85 (by decide) ?_
                exact en_z () hx hb hr hlocks hK (hP.sub [0, 1, 2, 3, 4, 5] rfl) (hD.sub [0, 1, 2, 3, 4, 5] (by decide) rfl) hS (Nat.le_of_ble_eq_true rfl) (Nat.le_of_ble_eq_true rfl) dX4_canGo_86 rfl (Or.inr rfl)
              · refine lv_iconst (v := 1) hx hb dX4_canGo_81 (by decide) ?_
                refine lv_goto (tgt := 86) hx hb dX4_canGo_82 (by decide) ?_
                exact en_z () hx hb hr hlocks hK (hP.sub [0, 1, 2, 3, 4, 5] rfl) (hD.sub [0, 1, 2, 3, 4, 5] (by decide) rfl) hS (Nat.le_of_ble_eq_true rfl) (Nat.le_of_ble_eq_true rfl) dX4_canGo_86 rfl (Or.inl ⟨rfl, by first | exact ⟨hf_5, hf_17, Or.inl (hf_46.resolve_right c_63), Or.inl (hf_55.resolve_right c_63)⟩ | exact ⟨hf_5, hf_17, Or.inl (hf_46.resolve_right (fun q => hf_55.1 (Or.inr q))), Or.inr hf_55.2.1.1⟩ | exact ⟨hf_5, hf_17, Or.inr hf_46.2.1.1, Or.inl (hf_55.resolve_right c_63)⟩ | exact ⟨hf_5, hf_17, Or.inr hf_46.2.1.1, Or.inr hf_55.2.1.1⟩ | exact (c_63 rfl).elim | exact (hf_55.1 (Or.inr rfl)).elim⟩)
      · refine lv_iload_n hx hb dX4_canGo_28 rfl (lv_at hl 3 rfl) ?_
        refine lv_iconst (v := (-1)) hx hb dX4_canGo_29 (by decide) ?_
        refine lv_icmp_eq (tgt := 35) hx hb dX4_canGo_30 (by decide) (fun c_30 => ?_) (fun c_30 => ?_)
        · refine lv_aload_n hx hb dX4_canGo_35 rfl (lv_at hl 0 rfl) ?_
          refine lv_aload_n hx hb dX4_canGo_36 rfl (lv_at hl 0 rfl) ?_
          refine va_get (D := D) (ci := 4) (v := .ref n0) (C := RX4) (T := TX4) (N := 8) hx hb hts iX4 hown hK.1 hP 0 rfl rfl 0 (by decide) kw_0 (fun _ h9 => h9) rfl dX4_canGo_37 ?_
          refine va_get (D := D) (ci := 1) (v := .ref a0) (C := RX1) (T := TX1) (N := 12) hx hb hts iX1 hown hK.1 hP 5 rfl rfl 0 (by decide) kw_2 (fun _ h9 => h9) rfl dX4_canGo_40 ?_
          refine lv_iload_n hx hb dX4_canGo_43 rfl (lv_at hl 1 rfl) ?_
          refine va_iald hx hb hK.1 hP 1 0 rfl rfl (by first | with_reducible assumption | exact vp_le (by with_reducible assumption) (by omega)) dX4_canGo_44 ?_
          refine lv_iload_n hx hb dX4_canGo_45 rfl (lv_at hl 2 rfl) ?_
          refine cl_i (wr := []) (va_runV (As := [.int (tr f1.toNatClampNeg), .int f2]) (rest := []) ⟨hx, hb, hml, hown, hts⟩ (c_trainAfter l D cI cZ cR t0 v1 v2 v3 v4 v5 v6 Gr n0 a0 a1 a2 a3 a4 a5 a6 a7 a8 a9 E Ac tr ki fr to (tr f1.toNatClampNeg) f2 (by omega) (by omega) (by with_reducible assumption) (by with_reducible assumption) H.size) (cwV 2 hts gX4_canGo_X4_trainAfter rfl rfl rfl (by decide +kernel) ⟨Nat.le_of_ble_eq_true rfl, Nat.le_of_ble_eq_true rfl⟩) (pV 4 0 hK hP hD [0, 5, 1, 2, 3, 4] rfl (by decide) rfl rfl) rfl rfl hl.1 rfl (lv_room (Nat.le_of_ble_eq_true rfl)) dX4_canGo_46 ⟨Nat.le_of_ble_eq_true rfl, Nat.le_of_ble_eq_true rfl⟩) hP hD hS hA [0, 5, 1, 2, 3, 4] [] rfl rfl (by decide) (by decide) (fun r_46 u_46 H locs hw_46 hP hD hS => ?_)
          have hP : va_P D vwCl [(t0, .inr (4, [.ref n0, .ref v1, .ref v2, .ref v3, .ref v4, .ref v5, .ref v6, .int (nI Gr)])), (n0, .inr (1, [.ref a0, .ref a1, .ref a2, .ref a3, .ref a4, .ref a5, .ref a6, .ref a7, .ref a8, .ref a9, .int (nI E), .int (nI Ac)])), (a0, .inl (cI, 60, .inl tr)), (a4, .inl (cI, 100, .inl ki)), (a5, .inl (cI, 100, .inl fr)), (a6, .inl (cI, 100, .inl to))] H := hP
          have hD : va_D A [(t0, .inr (4, [.ref n0, .ref v1, .ref v2, .ref v3, .ref v4, .ref v5, .ref v6, .int (nI Gr)])), (n0, .inr (1, [.ref a0, .ref a1, .ref a2, .ref a3, .ref a4, .ref a5, .ref a6, .ref a7, .ref a8, .ref a9, .int (nI E), .int (nI Ac)])), (a0, .inl (cI, 60, .inl tr)), (a4, .inl (cI, 100, .inl ki)), (a5, .inl (cI, 100, .inl fr)), (a6, .inl (cI, 100, .inl to))] := hD
          rcases hw_46 with ⟨rfl, hf_46⟩ | ⟨rfl, hf_46⟩ | ⟨rfl, hf_46⟩
          · refine lv_istore (lv' := [(5, .int (tr f1.toNatClampNeg)), (0, .ref t0), (1, .int f1), (2, .int f2), (3, .int f3), (4, .int f4)]) hx hb dX4_canGo_49 hl (by decide) rfl (fun ls hl => ?_)
            refine lv_aload_n hx hb dX4_canGo_51 rfl (lv_at hl 1 rfl) ?_
            refine lv_iload hx hb dX4_canGo_52 (lv_at hl 0 rfl) ?_
            refine lv_iload_n hx hb dX4_canGo_54 rfl (lv_at hl 4 rfl) ?_
            refine cl_i (wr := []) (va_runV (As := [.int (tr f1.toNatClampNeg), .int f3]) (rest := []) ⟨hx, hb, hml, hown, hts⟩ (c_trainAfter l D cI cZ cR t0 v1 v2 v3 v4 v5 v6 Gr n0 a0 a1 a2 a3 a4 a5 a6 a7 a8 a9 E Ac tr ki fr to (tr f1.toNatClampNeg) f3 (by omega) (by omega) (by with_reducible assumption) (by with_reducible assumption) H.size) (cwV 2 hts gX4_canGo_X4_trainAfter rfl rfl rfl (by decide +kernel) ⟨Nat.le_of_ble_eq_true rfl, Nat.le_of_ble_eq_true rfl⟩) (pV 4 0 hK hP hD [0, 1, 2, 3, 4, 5] rfl (by decide) rfl rfl) rfl rfl hl.1 rfl (lv_room (Nat.le_of_ble_eq_true rfl)) dX4_canGo_55 ⟨Nat.le_of_ble_eq_true rfl, Nat.le_of_ble_eq_true rfl⟩) hP hD hS hA [0, 1, 2, 3, 4, 5] [] rfl rfl (by decide) (by decide) (fun r_55 u_55 H locs hw_55 hP hD hS => ?_)
            have hP : va_P D vwCl [(t0, .inr (4, [.ref n0, .ref v1, .ref v2, .ref v3, .ref v4, .ref v5, .ref v6, .int (nI Gr)])), (n0, .inr (1, [.ref a0, .ref a1, .ref a2, .ref a3, .ref a4, .ref a5, .ref a6, .ref a7, .ref a8, .ref a9, .int (nI E), .int (nI Ac)])), (a0, .inl (cI, 60, .inl tr)), (a4, .inl (cI, 100, .inl ki)), (a5, .inl (cI, 100, .inl fr)), (a6, .inl (cI, 100, .inl to))] H := hP
            have hD : va_D A [(t0, .inr (4, [.ref n0, .ref v1, .ref v2, .ref v3, .ref v4, .ref v5, .ref v6, .int (nI Gr)])), (n0, .inr (1, [.ref a0, .ref a1, .ref a2, .ref a3, .ref a4, .ref a5, .ref a6, .ref a7, .ref a8, .ref a9, .int (nI E), .int (nI Ac)])), (a0, .inl (cI, 60, .inl tr)), (a4, .inl (cI, 100, .inl ki)), (a5, .inl (cI, 100, .inl fr)), (a6, .inl (cI, 100, .inl to))] := hD
            rcases hw_55 with ⟨rfl, hf_55⟩ | ⟨rfl, hf_55⟩ | ⟨rfl, hf_55⟩
            · refine lv_istore (lv' := [(5, .int (tr f1.toNatClampNeg)), (0, .ref t0), (1, .int f1), (2, .int f2), (3, .int f3), (4, .int f4)]) hx hb dX4_canGo_58 hl (by decide) rfl (fun ls hl => ?_)
              refine lv_iload hx hb dX4_canGo_60 (lv_at hl 0 rfl) ?_
              refine lv_iconst (v := (-1)) hx hb dX4_canGo_62 (by decide) ?_
              refine lv_icmp_eq (tgt := 85) hx hb dX4_canGo_63 (by decide) (fun c_63 => ?_) (fun c_63 => ?_)
              · refine lv_iconst (v := 0) hx hb dX4_canGo_85 (by decide) ?_
                exact en_z () hx hb hr hlocks hK (hP.sub [0, 1, 2, 3, 4, 5] rfl) (hD.sub [0, 1, 2, 3, 4, 5] (by decide) rfl) hS (Nat.le_of_ble_eq_true rfl) (Nat.le_of_ble_eq_true rfl) dX4_canGo_86 rfl (Or.inr rfl)
              · refine lv_aload_n hx hb dX4_canGo_66 rfl (lv_at hl 1 rfl) ?_
                refine va_get (D := D) (ci := 4) (v := .ref n0) (C := RX4) (T := TX4) (N := 8) hx hb hts iX4 hown hK.1 hP 0 rfl rfl 0 (by decide) kw_0 (fun _ h9 => h9) rfl dX4_canGo_67 ?_
                refine va_get (D := D) (ci := 1) (v := .ref a0) (C := RX1) (T := TX1) (N := 12) hx hb hts iX1 hown hK.1 hP 1 rfl rfl 0 (by decide) kw_2 (fun _ h9 => h9) rfl dX4_canGo_70 ?_
                refine lv_iload hx hb dX4_canGo_73 (lv_at hl 5 rfl) ?_
                refine va_iald hx hb hK.1 hP 2 0 rfl rfl (by first | with_reducible assumption | exact vp_le (by with_reducible assumption) (by omega)) dX4_canGo_75 ?_
                refine lv_iload hx hb dX4_canGo_76 (lv_at hl 0 rfl) ?_
                refine lv_icmp_ne (tgt := 85) hx hb dX4_canGo_78 (by decide) (fun c_78 => ?_) (fun c_78 => ?_)
                · refine lv_iconst (v := 0) hx hb dX4_canGo_85 (by decide) ?_
                  exact en_z () hx hb hr hlocks hK (hP.sub [0, 1, 2, 3, 4, 5] rfl) (hD.sub [0, 1, 2, 3, 4, 5] (by decide) rfl) hS (Nat.le_of_ble_eq_true rfl) (Nat.le_of_ble_eq_true rfl) dX4_canGo_86 rfl (Or.inr rfl)
                · refine lv_iconst (v := 1) hx hb dX4_canGo_81 (by decide) ?_
                  refine lv_goto (tgt := 86) hx hb dX4_canGo_82 (by decide) ?_
                  exact en_z () hx hb hr hlocks hK (hP.sub [0, 1, 2, 3, 4, 5] rfl) (hD.sub [0, 1, 2, 3, 4, 5] (by decide) rfl) hS (Nat.le_of_ble_eq_true rfl) (Nat.le_of_ble_eq_true rfl) dX4_canGo_86 rfl (Or.inl ⟨rfl, by first | exact ⟨hf_5, hf_17, Or.inl (hf_46.resolve_right c_63), Or.inl (hf_55.resolve_right c_63)⟩ | exact ⟨hf_5, hf_17, Or.inl (hf_46.resolve_right (fun q => hf_55.1 (Or.inr q))), Or.inr hf_55.2.1.1⟩ | exact ⟨hf_5, hf_17, Or.inr hf_46.2.1.1, Or.inl (hf_55.resolve_right c_63)⟩ | exact ⟨hf_5, hf_17, Or.inr hf_46.2.1.1, Or.inr hf_55.2.1.1⟩ | exact (c_63 rfl).elim | exact (hf_55.1 (Or.inr rfl)).elim⟩)
            · refine lv_istore (lv' := [(5, .int (-1)), (0, .ref t0), (1, .int f1), (2, .int f2), (3, .int f3), (4, .int f4)]) hx hb dX4_canGo_58 hl (by decide) rfl (fun ls hl => ?_)
              refine lv_iload hx hb dX4_canGo_60 (lv_at hl 0 rfl) ?_
              refine lv_iconst (v := (-1)) hx hb dX4_canGo_62 (by decide) ?_
              refine lv_icmp_eq (tgt := 85) hx hb dX4_canGo_63 (by decide) (fun c_63 => ?_) (fun c_63 => absurd (by decide) c_63)
              refine lv_iconst (v := 0) hx hb dX4_canGo_85 (by decide) ?_
              exact en_z () hx hb hr hlocks hK (hP.sub [0, 1, 2, 3, 4, 5] rfl) (hD.sub [0, 1, 2, 3, 4, 5] (by decide) rfl) hS (Nat.le_of_ble_eq_true rfl) (Nat.le_of_ble_eq_true rfl) dX4_canGo_86 rfl (Or.inr rfl)
            · refine lv_istore (lv' := [(5, .int (tr (to f3.toNatClampNeg).toNatClampNeg)), (0, .ref t0), (1, .int f1), (2, .int f2), (3, .int f3), (4, .int f4)]) hx hb dX4_canGo_58 hl (by decide) rfl (fun ls hl => ?_)
              refine lv_iload hx hb dX4_canGo_60 (lv_at hl 0 rfl) ?_
              refine lv_iconst (v := (-1)) hx hb dX4_canGo_62 (by decide) ?_
              refine lv_icmp_eq (tgt := 85) hx hb dX4_canGo_63 (by decide) (fun c_63 => ?_) (fun c_63 => ?_)
              · refine lv_iconst (v := 0) hx hb dX4_canGo_85 (by decide) ?_
                exact en_z () hx hb hr hlocks hK (hP.sub [0, 1, 2, 3, 4, 5] rfl) (hD.sub [0, 1, 2, 3, 4, 5] (by decide) rfl) hS (Nat.le_of_ble_eq_true rfl) (Nat.le_of_ble_eq_true rfl) dX4_canGo_86 rfl (Or.inr rfl)
              · refine lv_aload_n hx hb dX4_canGo_66 rfl (lv_at hl 1 rfl) ?_
                refine va_get (D := D) (ci := 4) (v := .ref n0) (C := RX4) (T := TX4) (N := 8) hx hb hts iX4 hown hK.1 hP 0 rfl rfl 0 (by decide) kw_0 (fun _ h9 => h9) rfl dX4_canGo_67 ?_
                refine va_get (D := D) (ci := 1) (v := .ref a0) (C := RX1) (T := TX1) (N := 12) hx hb hts iX1 hown hK.1 hP 1 rfl rfl 0 (by decide) kw_2 (fun _ h9 => h9) rfl dX4_canGo_70 ?_
                refine lv_iload hx hb dX4_canGo_73 (lv_at hl 5 rfl) ?_
                refine va_iald hx hb hK.1 hP 2 0 rfl rfl (by first | with_reducible assumption | exact vp_le (by with_reducible assumption) (by omega)) dX4_canGo_75 ?_
                refine lv_iload hx hb dX4_canGo_76 (lv_at hl 0 rfl) ?_
                refine lv_icmp_ne (tgt := 85) hx hb dX4_canGo_78 (by decide) (fun c_78 => ?_) (fun c_78 => ?_)
                · refine lv_iconst (v := 0) hx hb dX4_canGo_85 (by decide) ?_
                  exact en_z () hx hb hr hlocks hK (hP.sub [0, 1, 2, 3, 4, 5] rfl) (hD.sub [0, 1, 2, 3, 4, 5] (by decide) rfl) hS (Nat.le_of_ble_eq_true rfl) (Nat.le_of_ble_eq_true rfl) dX4_canGo_86 rfl (Or.inr rfl)
                · refine lv_iconst (v := 1) hx hb dX4_canGo_81 (by decide) ?_
                  refine lv_goto (tgt := 86) hx hb dX4_canGo_82 (by decide) ?_
                  exact en_z () hx hb hr hlocks hK (hP.sub [0, 1, 2, 3, 4, 5] rfl) (hD.sub [0, 1, 2, 3, 4, 5] (by decide) rfl) hS (Nat.le_of_ble_eq_true rfl) (Nat.le_of_ble_eq_true rfl) dX4_canGo_86 rfl (Or.inl ⟨rfl, by first | exact ⟨hf_5, hf_17, Or.inl (hf_46.resolve_right c_63), Or.inl (hf_55.resolve_right c_63)⟩ | exact ⟨hf_5, hf_17, Or.inl (hf_46.resolve_right (fun q => hf_55.1 (Or.inr q))), Or.inr hf_55.2.1.1⟩ | exact ⟨hf_5, hf_17, Or.inr hf_46.2.1.1, Or.inl (hf_55.resolve_right c_63)⟩ | exact ⟨hf_5, hf_17, Or.inr hf_46.2.1.1, Or.inr hf_55.2.1.1⟩ | exact (c_63 rfl).elim | exact (hf_55.1 (Or.inr rfl)).elim⟩)
          · refine lv_istore (lv' := [(5, .int (-1)), (0, .ref t0), (1, .int f1), (2, .int f2), (3, .int f3), (4, .int f4)]) hx hb dX4_canGo_49 hl (by decide) rfl (fun ls hl => ?_)
            refine lv_aload_n hx hb dX4_canGo_51 rfl (lv_at hl 1 rfl) ?_
            refine lv_iload hx hb dX4_canGo_52 (lv_at hl 0 rfl) ?_
            refine lv_iload_n hx hb dX4_canGo_54 rfl (lv_at hl 4 rfl) ?_
            refine cl_i (wr := []) (va_runV (As := [.int (-1), .int f3]) (rest := []) ⟨hx, hb, hml, hown, hts⟩ (c_trainAfter l D cI cZ cR t0 v1 v2 v3 v4 v5 v6 Gr n0 a0 a1 a2 a3 a4 a5 a6 a7 a8 a9 E Ac tr ki fr to (-1) f3 (by omega) (by omega) (by with_reducible assumption) (by with_reducible assumption) H.size) (cwV 2 hts gX4_canGo_X4_trainAfter rfl rfl rfl (by decide +kernel) ⟨Nat.le_of_ble_eq_true rfl, Nat.le_of_ble_eq_true rfl⟩) (pV 4 0 hK hP hD [0, 1, 2, 3, 4, 5] rfl (by decide) rfl rfl) rfl rfl hl.1 rfl (lv_room (Nat.le_of_ble_eq_true rfl)) dX4_canGo_55 ⟨Nat.le_of_ble_eq_true rfl, Nat.le_of_ble_eq_true rfl⟩) hP hD hS hA [0, 1, 2, 3, 4, 5] [] rfl rfl (by decide) (by decide) (fun r_55 u_55 H locs hw_55 hP hD hS => ?_)
            have hP : va_P D vwCl [(t0, .inr (4, [.ref n0, .ref v1, .ref v2, .ref v3, .ref v4, .ref v5, .ref v6, .int (nI Gr)])), (n0, .inr (1, [.ref a0, .ref a1, .ref a2, .ref a3, .ref a4, .ref a5, .ref a6, .ref a7, .ref a8, .ref a9, .int (nI E), .int (nI Ac)])), (a0, .inl (cI, 60, .inl tr)), (a4, .inl (cI, 100, .inl ki)), (a5, .inl (cI, 100, .inl fr)), (a6, .inl (cI, 100, .inl to))] H := hP
            have hD : va_D A [(t0, .inr (4, [.ref n0, .ref v1, .ref v2, .ref v3, .ref v4, .ref v5, .ref v6, .int (nI Gr)])), (n0, .inr (1, [.ref a0, .ref a1, .ref a2, .ref a3, .ref a4, .ref a5, .ref a6, .ref a7, .ref a8, .ref a9, .int (nI E), .int (nI Ac)])), (a0, .inl (cI, 60, .inl tr)), (a4, .inl (cI, 100, .inl ki)), (a5, .inl (cI, 100, .inl fr)), (a6, .inl (cI, 100, .inl to))] := hD
            rcases hw_55 with ⟨rfl, hf_55⟩ | ⟨rfl, hf_55⟩ | ⟨rfl, hf_55⟩
            · refine lv_istore (lv' := [(5, .int (-1)), (0, .ref t0), (1, .int f1), (2, .int f2), (3, .int f3), (4, .int f4)]) hx hb dX4_canGo_58 hl (by decide) rfl (fun ls hl => ?_)
              refine lv_iload hx hb dX4_canGo_60 (lv_at hl 0 rfl) ?_
              refine lv_iconst (v := (-1)) hx hb dX4_canGo_62 (by decide) ?_
              refine lv_icmp_eq (tgt := 85) hx hb dX4_canGo_63 (by decide) (fun c_63 => ?_) (fun c_63 => ?_)
              · refine lv_iconst (v := 0) hx hb dX4_canGo_85 (by decide) ?_
                exact en_z () hx hb hr hlocks hK (hP.sub [0, 1, 2, 3, 4, 5] rfl) (hD.sub [0, 1, 2, 3, 4, 5] (by decide) rfl) hS (Nat.le_of_ble_eq_true rfl) (Nat.le_of_ble_eq_true rfl) dX4_canGo_86 rfl (Or.inr rfl)
              · refine lv_aload_n hx hb dX4_canGo_66 rfl (lv_at hl 1 rfl) ?_
                refine va_get (D := D) (ci := 4) (v := .ref n0) (C := RX4) (T := TX4) (N := 8) hx hb hts iX4 hown hK.1 hP 0 rfl rfl 0 (by decide) kw_0 (fun _ h9 => h9) rfl dX4_canGo_67 ?_
                refine va_get (D := D) (ci := 1) (v := .ref a0) (C := RX1) (T := TX1) (N := 12) hx hb hts iX1 hown hK.1 hP 1 rfl rfl 0 (by decide) kw_2 (fun _ h9 => h9) rfl dX4_canGo_70 ?_
                refine lv_iload hx hb dX4_canGo_73 (lv_at hl 5 rfl) ?_
                refine va_iald hx hb hK.1 hP 2 0 rfl rfl (by first | with_reducible assumption | exact vp_le (by with_reducible assumption) (by omega)) dX4_canGo_75 ?_
                refine lv_iload hx hb dX4_canGo_76 (lv_at hl 0 rfl) ?_
                refine lv_icmp_ne (tgt := 85) hx hb dX4_canGo_78 (by decide) (fun c_78 => ?_) (fun c_78 => ?_)
                · refine lv_iconst (v := 0) hx hb dX4_canGo_85 (by decide) ?_
                  exact en_z () hx hb hr hlocks hK (hP.sub [0, 1, 2, 3, 4, 5] rfl) (hD.sub [0, 1, 2, 3, 4, 5] (by decide) rfl) hS (Nat.le_of_ble_eq_true rfl) (Nat.le_of_ble_eq_true rfl) dX4_canGo_86 rfl (Or.inr rfl)
                · refine lv_iconst (v := 1) hx hb dX4_canGo_81 (by decide) ?_
                  refine lv_goto (tgt := 86) hx hb dX4_canGo_82 (by decide) ?_
                  exact en_z () hx hb hr hlocks hK (hP.sub [0, 1, 2, 3, 4, 5] rfl) (hD.sub [0, 1, 2, 3, 4, 5] (by decide) rfl) hS (Nat.le_of_ble_eq_true rfl) (Nat.le_of_ble_eq_true rfl) dX4_canGo_86 rfl (Or.inl ⟨rfl, by first | exact ⟨hf_5, hf_17, Or.inl (hf_46.resolve_right c_63), Or.inl (hf_55.resolve_right c_63)⟩ | exact ⟨hf_5, hf_17, Or.inl (hf_46.resolve_right (fun q => hf_55.1 (Or.inr q))), Or.inr hf_55.2.1.1⟩ | exact ⟨hf_5, hf_17, Or.inr hf_46.2.1.1, Or.inl (hf_55.resolve_right c_63)⟩ | exact ⟨hf_5, hf_17, Or.inr hf_46.2.1.1, Or.inr hf_55.2.1.1⟩ | exact (c_63 rfl).elim | exact (hf_55.1 (Or.inr rfl)).elim⟩)
            · refine lv_istore (lv' := [(5, .int (-1)), (0, .ref t0), (1, .int f1), (2, .int f2), (3, .int f3), (4, .int f4)]) hx hb dX4_canGo_58 hl (by decide) rfl (fun ls hl => ?_)
              refine lv_iload hx hb dX4_canGo_60 (lv_at hl 0 rfl) ?_
              refine lv_iconst (v := (-1)) hx hb dX4_canGo_62 (by decide) ?_
              refine lv_icmp_eq (tgt := 85) hx hb dX4_canGo_63 (by decide) (fun c_63 => ?_) (fun c_63 => absurd (by decide) c_63)
              refine lv_iconst (v := 0) hx hb dX4_canGo_85 (by decide) ?_
              exact en_z () hx hb hr hlocks hK (hP.sub [0, 1, 2, 3, 4, 5] rfl) (hD.sub [0, 1, 2, 3, 4, 5] (by decide) rfl) hS (Nat.le_of_ble_eq_true rfl) (Nat.le_of_ble_eq_true rfl) dX4_canGo_86 rfl (Or.inr rfl)
            · refine lv_istore (lv' := [(5, .int (tr (to f3.toNatClampNeg).toNatClampNeg)), (0, .ref t0), (1, .int f1), (2, .int f2), (3, .int f3), (4, .int f4)]) hx hb dX4_canGo_58 hl (by decide) rfl (fun ls hl => ?_)
              refine lv_iload hx hb dX4_canGo_60 (lv_at hl 0 rfl) ?_
              refine lv_iconst (v := (-1)) hx hb dX4_canGo_62 (by decide) ?_
              refine lv_icmp_eq (tgt := 85) hx hb dX4_canGo_63 (by decide) (fun c_63 => ?_) (fun c_63 => ?_)
              · refine lv_iconst (v := 0) hx hb dX4_canGo_85 (by decide) ?_
                exact en_z () hx hb hr hlocks hK (hP.sub [0, 1, 2, 3, 4, 5] rfl) (hD.sub [0, 1, 2, 3, 4, 5] (by decide) rfl) hS (Nat.le_of_ble_eq_true rfl) (Nat.le_of_ble_eq_true rfl) dX4_canGo_86 rfl (Or.inr rfl)
              · refine lv_aload_n hx hb dX4_canGo_66 rfl (lv_at hl 1 rfl) ?_
                refine va_get (D := D) (ci := 4) (v := .ref n0) (C := RX4) (T := TX4) (N := 8) hx hb hts iX4 hown hK.1 hP 0 rfl rfl 0 (by decide) kw_0 (fun _ h9 => h9) rfl dX4_canGo_67 ?_
                refine va_get (D := D) (ci := 1) (v := .ref a0) (C := RX1) (T := TX1) (N := 12) hx hb hts iX1 hown hK.1 hP 1 rfl rfl 0 (by decide) kw_2 (fun _ h9 => h9) rfl dX4_canGo_70 ?_
                refine lv_iload hx hb dX4_canGo_73 (lv_at hl 5 rfl) ?_
                refine va_iald hx hb hK.1 hP 2 0 rfl rfl (by first | with_reducible assumption | exact vp_le (by with_reducible assumption) (by omega)) dX4_canGo_75 ?_
                refine lv_iload hx hb dX4_canGo_76 (lv_at hl 0 rfl) ?_
                refine lv_icmp_ne (tgt := 85) hx hb dX4_canGo_78 (by decide) (fun c_78 => ?_) (fun c_78 => ?_)
                · refine lv_iconst (v := 0) hx hb dX4_canGo_85 (by decide) ?_
                  exact en_z () hx hb hr hlocks hK (hP.sub [0, 1, 2, 3, 4, 5] rfl) (hD.sub [0, 1, 2, 3, 4, 5] (by decide) rfl) hS (Nat.le_of_ble_eq_true rfl) (Nat.le_of_ble_eq_true rfl) dX4_canGo_86 rfl (Or.inr rfl)
                · refine lv_iconst (v := 1) hx hb dX4_canGo_81 (by decide) ?_
                  refine lv_goto (tgt := 86) hx hb dX4_canGo_82 (by decide) ?_
                  exact en_z () hx hb hr hlocks hK (hP.sub [0, 1, 2, 3, 4, 5] rfl) (hD.sub [0, 1, 2, 3, 4, 5] (by decide) rfl) hS (Nat.le_of_ble_eq_true rfl) (Nat.le_of_ble_eq_true rfl) dX4_canGo_86 rfl (Or.inl ⟨rfl, by first | exact ⟨hf_5, hf_17, Or.inl (hf_46.resolve_right c_63), Or.inl (hf_55.resolve_right c_63)⟩ | exact ⟨hf_5, hf_17, Or.inl (hf_46.resolve_right (fun q => hf_55.1 (Or.inr q))), Or.inr hf_55.2.1.1⟩ | exact ⟨hf_5, hf_17, Or.inr hf_46.2.1.1, Or.inl (hf_55.resolve_right c_63)⟩ | exact ⟨hf_5, hf_17, Or.inr hf_46.2.1.1, Or.inr hf_55.2.1.1⟩ | exact (c_63 rfl).elim | exact (hf_55.1 (Or.inr rfl)).elim⟩)
          · refine lv_istore (lv' := [(5, .int (tr (to f2.toNatClampNeg).toNatClampNeg)), (0, .ref t0), (1, .int f1), (2, .int f2), (3, .int f3), (4, .int f4)]) hx hb dX4_canGo_49 hl (by decide) rfl (fun ls hl => ?_)
            refine lv_aload_n hx hb dX4_canGo_51 rfl (lv_at hl 1 rfl) ?_
            refine lv_iload hx hb dX4_canGo_52 (lv_at hl 0 rfl) ?_
            refine lv_iload_n hx hb dX4_canGo_54 rfl (lv_at hl 4 rfl) ?_
            refine cl_i (wr := []) (va_runV (As := [.int (tr (to f2.toNatClampNeg).toNatClampNeg), .int f3]) (rest := []) ⟨hx, hb, hml, hown, hts⟩ (c_trainAfter l D cI cZ cR t0 v1 v2 v3 v4 v5 v6 Gr n0 a0 a1 a2 a3 a4 a5 a6 a7 a8 a9 E Ac tr ki fr to (tr (to f2.toNatClampNeg).toNatClampNeg) f3 (by omega) (by omega) (by with_reducible assumption) (by with_reducible assumption) H.size) (cwV 2 hts gX4_canGo_X4_trainAfter rfl rfl rfl (by decide +kernel) ⟨Nat.le_of_ble_eq_true rfl, Nat.le_of_ble_eq_true rfl⟩) (pV 4 0 hK hP hD [0, 1, 2, 3, 4, 5] rfl (by decide) rfl rfl) rfl rfl hl.1 rfl (lv_room (Nat.le_of_ble_eq_true rfl)) dX4_canGo_55 ⟨Nat.le_of_ble_eq_true rfl, Nat.le_of_ble_eq_true rfl⟩) hP hD hS hA [0, 1, 2, 3, 4, 5] [] rfl rfl (by decide) (by decide) (fun r_55 u_55 H locs hw_55 hP hD hS => ?_)
            have hP : va_P D vwCl [(t0, .inr (4, [.ref n0, .ref v1, .ref v2, .ref v3, .ref v4, .ref v5, .ref v6, .int (nI Gr)])), (n0, .inr (1, [.ref a0, .ref a1, .ref a2, .ref a3, .ref a4, .ref a5, .ref a6, .ref a7, .ref a8, .ref a9, .int (nI E), .int (nI Ac)])), (a0, .inl (cI, 60, .inl tr)), (a4, .inl (cI, 100, .inl ki)), (a5, .inl (cI, 100, .inl fr)), (a6, .inl (cI, 100, .inl to))] H := hP
            have hD : va_D A [(t0, .inr (4, [.ref n0, .ref v1, .ref v2, .ref v3, .ref v4, .ref v5, .ref v6, .int (nI Gr)])), (n0, .inr (1, [.ref a0, .ref a1, .ref a2, .ref a3, .ref a4, .ref a5, .ref a6, .ref a7, .ref a8, .ref a9, .int (nI E), .int (nI Ac)])), (a0, .inl (cI, 60, .inl tr)), (a4, .inl (cI, 100, .inl ki)), (a5, .inl (cI, 100, .inl fr)), (a6, .inl (cI, 100, .inl to))] := hD
            rcases hw_55 with ⟨rfl, hf_55⟩ | ⟨rfl, hf_55⟩ | ⟨rfl, hf_55⟩
            · refine lv_istore (lv' := [(5, .int (tr (to f2.toNatClampNeg).toNatClampNeg)), (0, .ref t0), (1, .int f1), (2, .int f2), (3, .int f3), (4, .int f4)]) hx hb dX4_canGo_58 hl (by decide) rfl (fun ls hl => ?_)
              refine lv_iload hx hb dX4_canGo_60 (lv_at hl 0 rfl) ?_
              refine lv_iconst (v := (-1)) hx hb dX4_canGo_62 (by decide) ?_
              refine lv_icmp_eq (tgt := 85) hx hb dX4_canGo_63 (by decide) (fun c_63 => ?_) (fun c_63 => ?_)
              · refine lv_iconst (v := 0) hx hb dX4_canGo_85 (by decide) ?_
                exact en_z () hx hb hr hlocks hK (hP.sub [0, 1, 2, 3, 4, 5] rfl) (hD.sub [0, 1, 2, 3, 4, 5] (by decide) rfl) hS (Nat.le_of_ble_eq_true rfl) (Nat.le_of_ble_eq_true rfl) dX4_canGo_86 rfl (Or.inr rfl)
              · refine lv_aload_n hx hb dX4_canGo_66 rfl (lv_at hl 1 rfl) ?_
                refine va_get (D := D) (ci := 4) (v := .ref n0) (C := RX4) (T := TX4) (N := 8) hx hb hts iX4 hown hK.1 hP 0 rfl rfl 0 (by decide) kw_0 (fun _ h9 => h9) rfl dX4_canGo_67 ?_
                refine va_get (D := D) (ci := 1) (v := .ref a0) (C := RX1) (T := TX1) (N := 12) hx hb hts iX1 hown hK.1 hP 1 rfl rfl 0 (by decide) kw_2 (fun _ h9 => h9) rfl dX4_canGo_70 ?_
                refine lv_iload hx hb dX4_canGo_73 (lv_at hl 5 rfl) ?_
                refine va_iald hx hb hK.1 hP 2 0 rfl rfl (by first | with_reducible assumption | exact vp_le (by with_reducible assumption) (by omega)) dX4_canGo_75 ?_
                refine lv_iload hx hb dX4_canGo_76 (lv_at hl 0 rfl) ?_
                refine lv_icmp_ne (tgt := 85) hx hb dX4_canGo_78 (by decide) (fun c_78 => ?_) (fun c_78 => ?_)
                · refine lv_iconst (v := 0) hx hb dX4_canGo_85 (by decide) ?_
                  exact en_z () hx hb hr hlocks hK (hP.sub [0, 1, 2, 3, 4, 5] rfl) (hD.sub [0, 1, 2, 3, 4, 5] (by decide) rfl) hS (Nat.le_of_ble_eq_true rfl) (Nat.le_of_ble_eq_true rfl) dX4_canGo_86 rfl (Or.inr rfl)
                · refine lv_iconst (v := 1) hx hb dX4_canGo_81 (by decide) ?_
                  refine lv_goto (tgt := 86) hx hb dX4_canGo_82 (by decide) ?_
                  exact en_z () hx hb hr hlocks hK (hP.sub [0, 1, 2, 3, 4, 5] rfl) (hD.sub [0, 1, 2, 3, 4, 5] (by decide) rfl) hS (Nat.le_of_ble_eq_true rfl) (Nat.le_of_ble_eq_true rfl) dX4_canGo_86 rfl (Or.inl ⟨rfl, by first | exact ⟨hf_5, hf_17, Or.inl (hf_46.resolve_right c_63), Or.inl (hf_55.resolve_right c_63)⟩ | exact ⟨hf_5, hf_17, Or.inl (hf_46.resolve_right (fun q => hf_55.1 (Or.inr q))), Or.inr hf_55.2.1.1⟩ | exact ⟨hf_5, hf_17, Or.inr hf_46.2.1.1, Or.inl (hf_55.resolve_right c_63)⟩ | exact ⟨hf_5, hf_17, Or.inr hf_46.2.1.1, Or.inr hf_55.2.1.1⟩ | exact (c_63 rfl).elim | exact (hf_55.1 (Or.inr rfl)).elim⟩)
            · refine lv_istore (lv' := [(5, .int (-1)), (0, .ref t0), (1, .int f1), (2, .int f2), (3, .int f3), (4, .int f4)]) hx hb dX4_canGo_58 hl (by decide) rfl (fun ls hl => ?_)
              refine lv_iload hx hb dX4_canGo_60 (lv_at hl 0 rfl) ?_
              refine lv_iconst (v := (-1)) hx hb dX4_canGo_62 (by decide) ?_
              refine lv_icmp_eq (tgt := 85) hx hb dX4_canGo_63 (by decide) (fun c_63 => ?_) (fun c_63 => absurd (by decide) c_63)
              refine lv_iconst (v := 0) hx hb dX4_canGo_85 (by decide) ?_
              exact en_z () hx hb hr hlocks hK (hP.sub [0, 1, 2, 3, 4, 5] rfl) (hD.sub [0, 1, 2, 3, 4, 5] (by decide) rfl) hS (Nat.le_of_ble_eq_true rfl) (Nat.le_of_ble_eq_true rfl) dX4_canGo_86 rfl (Or.inr rfl)
            · refine lv_istore (lv' := [(5, .int (tr (to f3.toNatClampNeg).toNatClampNeg)), (0, .ref t0), (1, .int f1), (2, .int f2), (3, .int f3), (4, .int f4)]) hx hb dX4_canGo_58 hl (by decide) rfl (fun ls hl => ?_)
              refine lv_iload hx hb dX4_canGo_60 (lv_at hl 0 rfl) ?_
              refine lv_iconst (v := (-1)) hx hb dX4_canGo_62 (by decide) ?_
              refine lv_icmp_eq (tgt := 85) hx hb dX4_canGo_63 (by decide) (fun c_63 => ?_) (fun c_63 => ?_)
              · refine lv_iconst (v := 0) hx hb dX4_canGo_85 (by decide) ?_
                exact en_z () hx hb hr hlocks hK (hP.sub [0, 1, 2, 3, 4, 5] rfl) (hD.sub [0, 1, 2, 3, 4, 5] (by decide) rfl) hS (Nat.le_of_ble_eq_true rfl) (Nat.le_of_ble_eq_true rfl) dX4_canGo_86 rfl (Or.inr rfl)
              · refine lv_aload_n hx hb dX4_canGo_66 rfl (lv_at hl 1 rfl) ?_
                refine va_get (D := D) (ci := 4) (v := .ref n0) (C := RX4) (T := TX4) (N := 8) hx hb hts iX4 hown hK.1 hP 0 rfl rfl 0 (by decide) kw_0 (fun _ h9 => h9) rfl dX4_canGo_67 ?_
                refine va_get (D := D) (ci := 1) (v := .ref a0) (C := RX1) (T := TX1) (N := 12) hx hb hts iX1 hown hK.1 hP 1 rfl rfl 0 (by decide) kw_2 (fun _ h9 => h9) rfl dX4_canGo_70 ?_
                refine lv_iload hx hb dX4_canGo_73 (lv_at hl 5 rfl) ?_
                refine va_iald hx hb hK.1 hP 2 0 rfl rfl (by first | with_reducible assumption | exact vp_le (by with_reducible assumption) (by omega)) dX4_canGo_75 ?_
                refine lv_iload hx hb dX4_canGo_76 (lv_at hl 0 rfl) ?_
                refine lv_icmp_ne (tgt := 85) hx hb dX4_canGo_78 (by decide) (fun c_78 => ?_) (fun c_78 => ?_)
                · refine lv_iconst (v := 0) hx hb dX4_canGo_85 (by decide) ?_
                  exact en_z () hx hb hr hlocks hK (hP.sub [0, 1, 2, 3, 4, 5] rfl) (hD.sub [0, 1, 2, 3, 4, 5] (by decide) rfl) hS (Nat.le_of_ble_eq_true rfl) (Nat.le_of_ble_eq_true rfl) dX4_canGo_86 rfl (Or.inr rfl)
                · refine lv_iconst (v := 1) hx hb dX4_canGo_81 (by decide) ?_
                  refine lv_goto (tgt := 86) hx hb dX4_canGo_82 (by decide) ?_
                  exact en_z () hx hb hr hlocks hK (hP.sub [0, 1, 2, 3, 4, 5] rfl) (hD.sub [0, 1, 2, 3, 4, 5] (by decide) rfl) hS (Nat.le_of_ble_eq_true rfl) (Nat.le_of_ble_eq_true rfl) dX4_canGo_86 rfl (Or.inl ⟨rfl, by first | exact ⟨hf_5, hf_17, Or.inl (hf_46.resolve_right c_63), Or.inl (hf_55.resolve_right c_63)⟩ | exact ⟨hf_5, hf_17, Or.inl (hf_46.resolve_right (fun q => hf_55.1 (Or.inr q))), Or.inr hf_55.2.1.1⟩ | exact ⟨hf_5, hf_17, Or.inr hf_46.2.1.1, Or.inl (hf_55.resolve_right c_63)⟩ | exact ⟨hf_5, hf_17, Or.inr hf_46.2.1.1, Or.inr hf_55.2.1.1⟩ | exact (c_63 rfl).elim | exact (hf_55.1 (Or.inr rfl)).elim⟩)
        · refine lv_iconst (v := 0) hx hb dX4_canGo_33 (by decide) ?_
          exact en_z () hx hb hr hlocks hK (hP.sub [0, 5, 1, 2, 3, 4] rfl) (hD.sub [0, 5, 1, 2, 3, 4] (by decide) rfl) hS (Nat.le_of_ble_eq_true rfl) (Nat.le_of_ble_eq_true rfl) dX4_canGo_34 rfl (Or.inr rfl)
    · refine lv_if_eq (tgt := 33) hx hb dX4_canGo_20 (by decide) (fun c_20 => ?_) (fun c_20 => absurd (by decide) c_20)
      refine lv_iconst (v := 0) hx hb dX4_canGo_33 (by decide) ?_
      exact en_z () hx hb hr hlocks hK (hP.sub [0, 5, 1, 2, 3, 4] rfl) (hD.sub [0, 5, 1, 2, 3, 4] (by decide) rfl) hS (Nat.le_of_ble_eq_true rfl) (Nat.le_of_ble_eq_true rfl) dX4_canGo_34 rfl (Or.inr rfl)
  · refine lv_if_eq (tgt := 33) hx hb dX4_canGo_8 (by decide) (fun c_8 => ?_) (fun c_8 => absurd (by decide) c_8)
    refine lv_iconst (v := 0) hx hb dX4_canGo_33 (by decide) ?_
    exact en_z () hx hb hr hlocks hK (hP.sub [0, 5, 1, 2, 3, 4] rfl) (hD.sub [0, 5, 1, 2, 3, 4] (by decide) rfl) hS (Nat.le_of_ble_eq_true rfl) (Nat.le_of_ble_eq_true rfl) dX4_canGo_34 rfl (Or.inr rfl)
set_option maxHeartbeats 300000 in
set_option maxRecDepth 100000 in
theorem lp_fill60 {p : Program} {e : Env} {s : State} {m : MethodId} {args : Array Value} {below : List Frame} {meth : Method} {c : Code} {A : Nat → Prop} {Q : State → Prop} (l : Launch) (D : va_G) (cI cZ cR : ClassId) (w0 : Nat) (rw : Nat → Int32) (b1 : Int32) (hx : p.tables.exec = Jvm.exec) (hb : c.code = cJ7_fill_53178) (hts : ∀ w ∈ wsJ7_fill_53178, w.before args s = true) (hown : s.vm.findClass RJ7 = some m.cls) (hml : c.maxLocals = 4) (hK : kK D cI cZ cR s) (hA : ∀ q : Nat, s.heap.size ≤ q → A q) (kx_20 : ∀ (k : Nat) (ru : Nat → Int32), (k ≤ 60) → ∀ (H : Heap) (locs : List Loc) (ls : Array Slot), va_P D vwCl [(w0, .inl (cI, 60, .inl ru))] H → va_D A [(w0, .inl (cI, 60, .inl ru))] → va_S A s.heap H locs → lv_has ls 4 [(2, .int (nI k)), (3, .int (nI 60)), (0, .ref w0), (1, .int b1)] → W p l e { frames := 0, cells := 0, slots := 0, locals := 0 } s m args below meth c H locs 0 0 Q (F0 m 20 ls [])) : ∀ (n : Nat) (k : Nat) (ru : Nat → Int32), (k ≤ 60) → 60 - k < n → ∀ (H : Heap) (locs : List Loc) (ls : Array Slot), va_P D vwCl [(w0, .inl (cI, 60, .inl ru))] H → va_D A [(w0, .inl (cI, 60, .inl ru))] → va_S A s.heap H locs → lv_has ls 4 [(2, .int (nI k)), (3, .int (nI 60)), (0, .ref w0), (1, .int b1)] → W p l e { frames := 0, cells := 0, slots := 0, locals := 0 } s m args below meth c H locs 0 0 Q (F0 m 5 ls []) := by
  intro n
  induction n with
  | zero =>
    intro k ru hk hm
    exact absurd hm (Nat.not_lt_zero _)
  | succ n ih =>
    intro k ru hk hm H locs ls hP hD hS hl
    refine lv_iload_n hx hb dJ7_fill_53178_5 rfl (lv_at hl 0 rfl) ?_
    refine lv_iload_n hx hb dJ7_fill_53178_6 rfl (lv_at hl 1 rfl) ?_
    refine lv_icmp_ge (tgt := 20) hx hb dJ7_fill_53178_7 (by decide) (fun c_7 => ?_) (fun c_7 => ?_)
    · have g_7 : 60 ≤ k := (nI_leI (a := 60) (b := k) (by omega) (by omega)).mp c_7
      exact kx_20 k ru (by first | with_reducible assumption | omega | exact vp_le (by with_reducible assumption) (by omega) | (intros; omega)) _ _ _ (hP.sub [0] rfl) (hD.sub [0] (by decide) rfl) hS (lv_sub hl [0, 1, 2, 3] rfl)
    · have g_7 : k < 60 := Nat.not_le.mp (fun q => c_7 ((nI_leI (a := 60) (b := k) (by omega) (by omega)).mpr q))
      refine lv_aload_n hx hb dJ7_fill_53178_10 rfl (lv_at hl 2 rfl) ?_
      refine lv_iload_n hx hb dJ7_fill_53178_11 rfl (lv_at hl 0 rfl) ?_
      refine lv_iload_n hx hb dJ7_fill_53178_12 rfl (lv_at hl 3 rfl) ?_
      refine wa_I hx hb hK hP hD hS 0 rfl (k := k) (by omega) (by decide) dJ7_fill_53178_13 (fun H locs hP hD hS => ?_)
      have hP : va_P D vwCl [(w0, .inl (cI, 60, .inl (upd ru k b1)))] H := hP
      have hD : va_D A [(w0, .inl (cI, 60, .inl (upd ru k b1)))] := hD
      refine lv_iinc (v := (nI (k + 1))) (lv' := [(2, .int (nI (k + 1))), (3, .int (nI 60)), (0, .ref w0), (1, .int b1)]) hx hb dJ7_fill_53178_14 hl (k := 0) rfl (nI_1 _) (by decide) rfl (fun ls hl => ?_)
      refine lv_goto (tgt := 5) hx hb dJ7_fill_53178_17 (by decide) ?_
      exact ih (k + 1) (upd ru k b1) (by first | with_reducible assumption | omega | exact vp_le (by with_reducible assumption) (by omega) | (intros; omega)) (by omega) _ _ _ (hP.sub [0] rfl) (hD.sub [0] (by decide) rfl) hS (lv_sub hl [0, 1, 2, 3] rfl)
set_option maxHeartbeats 300000 in
set_option maxRecDepth 100000 in
theorem c_fill60 (l : Launch) (D : va_G) (cI cZ cR : ClassId) (w0 : Nat) (rw : Nat → Int32) (b1 : Int32) : CV l D cI cZ cR yJ7_fill_53178 wsJ7_fill_53178 { frames := 0, cells := 0, slots := 0, locals := 0 } [.ref w0, .int b1] [(w0, .inl (cI, 60, .inl rw))] (fun (u : Nat → Int32) => True) (fun (u : Nat → Int32) => [(w0, .inl (cI, 60, .inl u))]) := by
  intro sz9
  refine en_W (Qc := fun A => va_Qv (fun (u : Nat → Int32) => True) (sB D cI cZ cR (fun (u : Nat → Int32) => [(w0, .inl (cI, 60, .inl u))]) A) A) (cc := cJ7_fill_53178) (maxL := 4) (ret := none) (by decide) rfl (Nat.le_of_ble_eq_true rfl) ?_
  intro p e s m below meth c A ls hx hb hr hts hown hlocks hin hml hK hP hD hS hA hl
  have hown : s.vm.findClass RJ7 = some m.cls := hown
  have hl : lv_has ls 4 [(0, .ref w0), (1, .int b1)] := hl
  refine lv_iconst (v := 0) hx hb dJ7_fill_53178_0 (by decide) ?_
  refine lv_istore_n (lv' := [(2, .int 0), (0, .ref w0), (1, .int b1)]) hx hb dJ7_fill_53178_1 rfl hl (by decide) rfl (fun ls hl => ?_)
  refine lv_aload_n hx hb dJ7_fill_53178_2 rfl (lv_at hl 1 rfl) ?_
  refine va_alen hx hb hK.1 hP 0 0 rfl rfl (v := nI 60) rfl dJ7_fill_53178_3 ?_
  refine lv_istore_n (lv' := [(3, .int (nI 60)), (2, .int 0), (0, .ref w0), (1, .int b1)]) hx hb dJ7_fill_53178_4 rfl hl (by decide) rfl (fun ls hl => ?_)
  refine lp_fill60 l D cI cZ cR w0 rw b1 hx hb hts hown hml hK hA (fun k ru hk H locs ls hP hD hS hl => ?_) _ 0 rw (by first | with_reducible assumption | omega | exact vp_le (by with_reducible assumption) (by omega) | (intros; omega)) (Nat.lt_succ_self _) _ _ _ (hP.sub [0] rfl) (hD.sub [0] (by decide) rfl) hS (lv_sub hl [1, 0, 2, 3] rfl)
  exact en_v ru hx hb hr hlocks hK (hP.sub [0] rfl) (hD.sub [0] (by decide) rfl) hS (Nat.le_of_ble_eq_true rfl) (Nat.le_of_ble_eq_true rfl) dJ7_fill_53178_20 (trivial)
