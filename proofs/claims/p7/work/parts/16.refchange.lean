set_option maxHeartbeats 300000 in
set_option maxRecDepth 100000 in
theorem c_m_event_ok (l : Launch) (D : va_G) (cI cZ cR : ClassId) (y0 : Nat) (b3 : Nat) (b4 : Nat) (b5 : Nat) (b6 : Nat) (b7 : Nat) (b8 : Nat) (b9 : Nat) (b10 : Nat) (b11 : Nat) (b12 : Nat) (b13 : Nat) (b14 : Nat) (b15 : Nat) (b16 : Nat) (b17 : Nat) (b18 : Nat) (b19 : Nat) (b20 : Nat) (b21 : Nat) (b22 : Nat) (b24 : Nat) (b25 : Nat) (E : Nat) (Ac : Nat) (Gr : Nat) (rm : Nat) (tr : Nat → Int32) (pl : Nat → Int32) (so : Nat → Int32) (t1 : Int32) (p1 : Int32) (hE : E < 60) (hok : ((0 ≤ t1 ∧ t1 ≤ 15) ∧ (0 ≤ p1 ∧ p1 ≤ 2000))) : CI l D cI cZ cR yX6_event wsX6_event { frames := 0, cells := 0, slots := 0, locals := 0 } [.ref y0, .int t1, .int p1] (wc (cO y0 6 [.int (nI E), .int (nI Ac), .int (nI Gr), .ref b3, .ref b4, .ref b5, .ref b6, .ref b7, .ref b8, .ref b9, .ref b10, .ref b11, .ref b12, .ref b13, .ref b14, .ref b15, .ref b16, .ref b17, .ref b18, .ref b19, .ref b20, .ref b21, .ref b22, .int (nI rm), .ref b24, .ref b25]) (wc (cA b3 cI 60 tr) (wc (cA b4 cI 60 pl) (wc (cA b5 cI 60 so) wN)))) (fun (r : Int32) (u : Unit) => r = (nI E)) (fun (u : Unit) => (wc (cO y0 6 [.int (nI (E + 1)), .int (nI Ac), .int (nI Gr), .ref b3, .ref b4, .ref b5, .ref b6, .ref b7, .ref b8, .ref b9, .ref b10, .ref b11, .ref b12, .ref b13, .ref b14, .ref b15, .ref b16, .ref b17, .ref b18, .ref b19, .ref b20, .ref b21, .ref b22, .int (nI rm), .ref b24, .ref b25]) (wc (cA b3 cI 60 (upd tr E t1)) (wc (cA b4 cI 60 (upd pl E p1)) (wc (cA b5 cI 60 (upd so E 0)) wN))))) := by
  intro sz9
  refine en_W (Qc := fun A => va_Qi (fun (r : Int32) (u : Unit) => r = (nI E)) (sB D cI cZ cR (fun (u : Unit) => (wc (cO y0 6 [.int (nI (E + 1)), .int (nI Ac), .int (nI Gr), .ref b3, .ref b4, .ref b5, .ref b6, .ref b7, .ref b8, .ref b9, .ref b10, .ref b11, .ref b12, .ref b13, .ref b14, .ref b15, .ref b16, .ref b17, .ref b18, .ref b19, .ref b20, .ref b21, .ref b22, .int (nI rm), .ref b24, .ref b25]) (wc (cA b3 cI 60 (upd tr E t1)) (wc (cA b4 cI 60 (upd pl E p1)) (wc (cA b5 cI 60 (upd so E 0)) wN))))) A) A) (cc := cX6_event) (maxL := 3) (ret := (some .int)) (by decide) rfl (Nat.le_of_ble_eq_true rfl) ?_
  intro p e s m below meth c A ls hx hb hr hts hown hlocks hin hml hK hP hD hS hA hl
  have hown : s.vm.findClass RX6 = some m.cls := hown
  have hl : lv_has ls 3 [(0, .ref y0), (1, .int t1), (2, .int p1)] := hl
  have kw_0 := hts (.fieldLink RX6 77 "DelayDeskModel" "events" "I") (List.mem_of_getElem? (i := 1) rfl)
  have iX6 : ∀ w ∈ u_ws RX6 TX6 26, w ∈ wsX6_event := fun _ h9 => (List.mem_cons_of_mem _ (List.mem_append_right _ h9))
  have kw_2 := hts (.fieldLink RX6 7 "DelayDeskModel" "train" "[I") (List.mem_of_getElem? (i := 2) rfl)
  have kw_3 := hts (.fieldLink RX6 13 "DelayDeskModel" "plan" "[I") (List.mem_of_getElem? (i := 3) rfl)
  have kw_4 := hts (.fieldLink RX6 16 "DelayDeskModel" "source" "[I") (List.mem_of_getElem? (i := 4) rfl)
  refine lv_iload_n hx hb dX6_event_0 rfl (lv_at hl 1 rfl) ?_
  refine lv_if_lt (tgt := 30) hx hb dX6_event_1 (by decide) (fun c_1 => (ii_a c_1 hok.1).elim) (fun c_1 => ?_)
  refine lv_iload_n hx hb dX6_event_4 rfl (lv_at hl 1 rfl) ?_
  refine lv_bipush (v := 16) hx hb dX6_event_5 (by decide) ?_
  refine lv_icmp_ge (tgt := 30) hx hb dX6_event_7 (by decide) (fun c_7 => (ii_b (ge16' c_7) hok.1).elim) (fun c_7 => ?_)
  refine lv_iload_n hx hb dX6_event_10 rfl (lv_at hl 2 rfl) ?_
  refine lv_if_lt (tgt := 30) hx hb dX6_event_11 (by decide) (fun c_11 => (ii_a c_11 hok.2).elim) (fun c_11 => ?_)
  refine lv_iload_n hx hb dX6_event_14 rfl (lv_at hl 2 rfl) ?_
  refine lv_sipush (v := 2000) hx hb dX6_event_15 (by decide) ?_
  refine lv_icmp_gt (tgt := 30) hx hb dX6_event_18 (by decide) (fun c_18 => (ii_b c_18 hok.2).elim) (fun c_18 => ?_)
  refine lv_aload_n hx hb dX6_event_21 rfl (lv_at hl 0 rfl) ?_
  refine va_get (D := D) (ci := 6) (v := .int (nI E)) (C := RX6) (T := TX6) (N := 26) hx hb hts iX6 hown hK.1 hP 0 rfl rfl 0 (by decide) kw_0 (fun _ h9 => h9) rfl dX6_event_22 ?_
  refine lv_bipush (v := 60) hx hb dX6_event_25 (by decide) ?_
  refine lv_icmp_ne (tgt := 32) hx hb dX6_event_27 (by decide) (fun c_27 => ?_) (fun c_27 => ((show ¬ E = 60 by omega) ((nI_eq (a := E) (b := 60) (by omega) (by omega)).mp c_27)).elim)
  refine lv_aload_n hx hb dX6_event_32 rfl (lv_at hl 0 rfl) ?_
  refine va_get (D := D) (ci := 6) (v := .ref b3) (C := RX6) (T := TX6) (N := 26) hx hb hts iX6 hown hK.1 hP 0 rfl rfl 3 (by decide) kw_2 (fun _ h9 => h9) rfl dX6_event_33 ?_
  refine lv_aload_n hx hb dX6_event_36 rfl (lv_at hl 0 rfl) ?_
  refine va_get (D := D) (ci := 6) (v := .int (nI E)) (C := RX6) (T := TX6) (N := 26) hx hb hts iX6 hown hK.1 hP 0 rfl rfl 0 (by decide) kw_0 (fun _ h9 => h9) rfl dX6_event_37 ?_
  refine lv_iload_n hx hb dX6_event_40 rfl (lv_at hl 1 rfl) ?_
  refine wa_I hx hb hK hP hD hS 1 rfl (k := E) (by omega) (by decide) dX6_event_41 (fun H locs hP hD hS => ?_)
  have hP : va_P D vwCl (wc (cO y0 6 [.int (nI E), .int (nI Ac), .int (nI Gr), .ref b3, .ref b4, .ref b5, .ref b6, .ref b7, .ref b8, .ref b9, .ref b10, .ref b11, .ref b12, .ref b13, .ref b14, .ref b15, .ref b16, .ref b17, .ref b18, .ref b19, .ref b20, .ref b21, .ref b22, .int (nI rm), .ref b24, .ref b25]) (wc (cA b3 cI 60 (upd tr E t1)) (wc (cA b4 cI 60 pl) (wc (cA b5 cI 60 so) wN)))) H := hP
  have hD : va_D A (wc (cO y0 6 [.int (nI E), .int (nI Ac), .int (nI Gr), .ref b3, .ref b4, .ref b5, .ref b6, .ref b7, .ref b8, .ref b9, .ref b10, .ref b11, .ref b12, .ref b13, .ref b14, .ref b15, .ref b16, .ref b17, .ref b18, .ref b19, .ref b20, .ref b21, .ref b22, .int (nI rm), .ref b24, .ref b25]) (wc (cA b3 cI 60 (upd tr E t1)) (wc (cA b4 cI 60 pl) (wc (cA b5 cI 60 so) wN)))) := hD
  refine lv_aload_n hx hb dX6_event_42 rfl (lv_at hl 0 rfl) ?_
  refine va_get (D := D) (ci := 6) (v := .ref b4) (C := RX6) (T := TX6) (N := 26) hx hb hts iX6 hown hK.1 hP 0 rfl rfl 4 (by decide) kw_3 (fun _ h9 => h9) rfl dX6_event_43 ?_
  refine lv_aload_n hx hb dX6_event_46 rfl (lv_at hl 0 rfl) ?_
  refine va_get (D := D) (ci := 6) (v := .int (nI E)) (C := RX6) (T := TX6) (N := 26) hx hb hts iX6 hown hK.1 hP 0 rfl rfl 0 (by decide) kw_0 (fun _ h9 => h9) rfl dX6_event_47 ?_
  refine lv_iload_n hx hb dX6_event_50 rfl (lv_at hl 2 rfl) ?_
  refine wa_I hx hb hK hP hD hS 2 rfl (k := E) (by omega) (by decide) dX6_event_51 (fun H locs hP hD hS => ?_)
  have hP : va_P D vwCl (wc (cO y0 6 [.int (nI E), .int (nI Ac), .int (nI Gr), .ref b3, .ref b4, .ref b5, .ref b6, .ref b7, .ref b8, .ref b9, .ref b10, .ref b11, .ref b12, .ref b13, .ref b14, .ref b15, .ref b16, .ref b17, .ref b18, .ref b19, .ref b20, .ref b21, .ref b22, .int (nI rm), .ref b24, .ref b25]) (wc (cA b3 cI 60 (upd tr E t1)) (wc (cA b4 cI 60 (upd pl E p1)) (wc (cA b5 cI 60 so) wN)))) H := hP
  have hD : va_D A (wc (cO y0 6 [.int (nI E), .int (nI Ac), .int (nI Gr), .ref b3, .ref b4, .ref b5, .ref b6, .ref b7, .ref b8, .ref b9, .ref b10, .ref b11, .ref b12, .ref b13, .ref b14, .ref b15, .ref b16, .ref b17, .ref b18, .ref b19, .ref b20, .ref b21, .ref b22, .int (nI rm), .ref b24, .ref b25]) (wc (cA b3 cI 60 (upd tr E t1)) (wc (cA b4 cI 60 (upd pl E p1)) (wc (cA b5 cI 60 so) wN)))) := hD
  refine lv_aload_n hx hb dX6_event_52 rfl (lv_at hl 0 rfl) ?_
  refine va_get (D := D) (ci := 6) (v := .ref b5) (C := RX6) (T := TX6) (N := 26) hx hb hts iX6 hown hK.1 hP 0 rfl rfl 5 (by decide) kw_4 (fun _ h9 => h9) rfl dX6_event_53 ?_
  refine lv_aload_n hx hb dX6_event_56 rfl (lv_at hl 0 rfl) ?_
  refine va_get (D := D) (ci := 6) (v := .int (nI E)) (C := RX6) (T := TX6) (N := 26) hx hb hts iX6 hown hK.1 hP 0 rfl rfl 0 (by decide) kw_0 (fun _ h9 => h9) rfl dX6_event_57 ?_
  refine lv_iconst (v := 0) hx hb dX6_event_60 (by decide) ?_
  refine wa_I hx hb hK hP hD hS 3 rfl (k := E) (by omega) (by decide) dX6_event_61 (fun H locs hP hD hS => ?_)
  have hP : va_P D vwCl (wc (cO y0 6 [.int (nI E), .int (nI Ac), .int (nI Gr), .ref b3, .ref b4, .ref b5, .ref b6, .ref b7, .ref b8, .ref b9, .ref b10, .ref b11, .ref b12, .ref b13, .ref b14, .ref b15, .ref b16, .ref b17, .ref b18, .ref b19, .ref b20, .ref b21, .ref b22, .int (nI rm), .ref b24, .ref b25]) (wc (cA b3 cI 60 (upd tr E t1)) (wc (cA b4 cI 60 (upd pl E p1)) (wc (cA b5 cI 60 (upd so E 0)) wN)))) H := hP
  have hD : va_D A (wc (cO y0 6 [.int (nI E), .int (nI Ac), .int (nI Gr), .ref b3, .ref b4, .ref b5, .ref b6, .ref b7, .ref b8, .ref b9, .ref b10, .ref b11, .ref b12, .ref b13, .ref b14, .ref b15, .ref b16, .ref b17, .ref b18, .ref b19, .ref b20, .ref b21, .ref b22, .int (nI rm), .ref b24, .ref b25]) (wc (cA b3 cI 60 (upd tr E t1)) (wc (cA b4 cI 60 (upd pl E p1)) (wc (cA b5 cI 60 (upd so E 0)) wN)))) := hD
  refine lv_aload_n hx hb dX6_event_62 rfl (lv_at hl 0 rfl) ?_
  refine lv_aload_n hx hb dX6_event_63 rfl (lv_at hl 0 rfl) ?_
  refine va_get (D := D) (ci := 6) (v := .int (nI E)) (C := RX6) (T := TX6) (N := 26) hx hb hts iX6 hown hK.1 hP 0 rfl rfl 0 (by decide) kw_0 (fun _ h9 => h9) rfl dX6_event_64 ?_
  refine lv_iconst (v := 1) hx hb dX6_event_67 (by decide) ?_
  refine lv_iadd hx hb dX6_event_68 ?_
  refine W.eq (g2 := F0 m 69 ls [.int (nI (E + 1)), .ref y0]) (by first | rw [nI_1] | rw [nI_add] | exact congrArg (fun z => F0 m 69 ls (Value.int z :: _)) (nI_add _ _)) ?_
  refine va_put (D := D) (ci := 6) (v := .int (nI (E + 1))) (ty := .int) (C := RX6) (T := TX6) (N := 26) hx hb hts iX6 tyX6 tyX6_ok nmX6 hown hK.1 hP hD hS 0 rfl rfl 0 (by decide) kw_0 (fun _ h9 => h9) rfl (by decide +kernel) rfl rfl (Nat.le_of_ble_eq_true rfl) dX6_event_69 (fun H locs hP hD hS => ?_)
  have hP : va_P D vwCl (wc (cO y0 6 [.int (nI (E + 1)), .int (nI Ac), .int (nI Gr), .ref b3, .ref b4, .ref b5, .ref b6, .ref b7, .ref b8, .ref b9, .ref b10, .ref b11, .ref b12, .ref b13, .ref b14, .ref b15, .ref b16, .ref b17, .ref b18, .ref b19, .ref b20, .ref b21, .ref b22, .int (nI rm), .ref b24, .ref b25]) (wc (cA b3 cI 60 (upd tr E t1)) (wc (cA b4 cI 60 (upd pl E p1)) (wc (cA b5 cI 60 (upd so E 0)) wN)))) H := hP
  have hD : va_D A (wc (cO y0 6 [.int (nI (E + 1)), .int (nI Ac), .int (nI Gr), .ref b3, .ref b4, .ref b5, .ref b6, .ref b7, .ref b8, .ref b9, .ref b10, .ref b11, .ref b12, .ref b13, .ref b14, .ref b15, .ref b16, .ref b17, .ref b18, .ref b19, .ref b20, .ref b21, .ref b22, .int (nI rm), .ref b24, .ref b25]) (wc (cA b3 cI 60 (upd tr E t1)) (wc (cA b4 cI 60 (upd pl E p1)) (wc (cA b5 cI 60 (upd so E 0)) wN)))) := hD
  refine lv_aload_n hx hb dX6_event_72 rfl (lv_at hl 0 rfl) ?_
  refine va_get (D := D) (ci := 6) (v := .int (nI (E + 1))) (C := RX6) (T := TX6) (N := 26) hx hb hts iX6 hown hK.1 hP 0 rfl rfl 0 (by decide) kw_0 (fun _ h9 => h9) rfl dX6_event_73 ?_
  refine lv_iconst (v := 1) hx hb dX6_event_76 (by decide) ?_
  refine lv_isub hx hb dX6_event_77 ?_
  refine W.eq (g2 := F0 m 78 ls [.int (nI E)]) (by rw [nI_pred]) ?_
  exact en_i () hx hb hr hlocks hK (hP.sub [0, 1, 2, 3] rfl) (hD.sub [0, 1, 2, 3] (by decide) rfl) hS (Nat.le_of_ble_eq_true rfl) (Nat.le_of_ble_eq_true rfl) dX6_event_78 (rfl)
set_option maxHeartbeats 300000 in
set_option maxRecDepth 100000 in
theorem c_m_event_no (l : Launch) (D : va_G) (cI cZ cR : ClassId) (y0 : Nat) (b3 : Nat) (b4 : Nat) (b5 : Nat) (b6 : Nat) (b7 : Nat) (b8 : Nat) (b9 : Nat) (b10 : Nat) (b11 : Nat) (b12 : Nat) (b13 : Nat) (b14 : Nat) (b15 : Nat) (b16 : Nat) (b17 : Nat) (b18 : Nat) (b19 : Nat) (b20 : Nat) (b21 : Nat) (b22 : Nat) (b24 : Nat) (b25 : Nat) (E : Nat) (Ac : Nat) (Gr : Nat) (rm : Nat) (tr : Nat → Int32) (pl : Nat → Int32) (so : Nat → Int32) (t1 : Int32) (p1 : Int32) (hE : E ≤ 60) (hno : ¬ (((0 ≤ t1 ∧ t1 ≤ 15) ∧ (0 ≤ p1 ∧ p1 ≤ 2000)) ∧ E < 60)) : CI l D cI cZ cR yX6_event wsX6_event { frames := 0, cells := 0, slots := 0, locals := 0 } [.ref y0, .int t1, .int p1] (wc (cO y0 6 [.int (nI E), .int (nI Ac), .int (nI Gr), .ref b3, .ref b4, .ref b5, .ref b6, .ref b7, .ref b8, .ref b9, .ref b10, .ref b11, .ref b12, .ref b13, .ref b14, .ref b15, .ref b16, .ref b17, .ref b18, .ref b19, .ref b20, .ref b21, .ref b22, .int (nI rm), .ref b24, .ref b25]) (wc (cA b3 cI 60 tr) (wc (cA b4 cI 60 pl) (wc (cA b5 cI 60 so) wN)))) (fun (r : Int32) (u : Unit) => r = (-1)) (fun (u : Unit) => (wc (cO y0 6 [.int (nI E), .int (nI Ac), .int (nI Gr), .ref b3, .ref b4, .ref b5, .ref b6, .ref b7, .ref b8, .ref b9, .ref b10, .ref b11, .ref b12, .ref b13, .ref b14, .ref b15, .ref b16, .ref b17, .ref b18, .ref b19, .ref b20, .ref b21, .ref b22, .int (nI rm), .ref b24, .ref b25]) (wc (cA b3 cI 60 tr) (wc (cA b4 cI 60 pl) (wc (cA b5 cI 60 so) wN))))) := by
  intro sz9
  refine en_W (Qc := fun A => va_Qi (fun (r : Int32) (u : Unit) => r = (-1)) (sB D cI cZ cR (fun (u : Unit) => (wc (cO y0 6 [.int (nI E), .int (nI Ac), .int (nI Gr), .ref b3, .ref b4, .ref b5, .ref b6, .ref b7, .ref b8, .ref b9, .ref b10, .ref b11, .ref b12, .ref b13, .ref b14, .ref b15, .ref b16, .ref b17, .ref b18, .ref b19, .ref b20, .ref b21, .ref b22, .int (nI rm), .ref b24, .ref b25]) (wc (cA b3 cI 60 tr) (wc (cA b4 cI 60 pl) (wc (cA b5 cI 60 so) wN))))) A) A) (cc := cX6_event) (maxL := 3) (ret := (some .int)) (by decide) rfl (Nat.le_of_ble_eq_true rfl) ?_
  intro p e s m below meth c A ls hx hb hr hts hown hlocks hin hml hK hP hD hS hA hl
  have hown : s.vm.findClass RX6 = some m.cls := hown
  have hl : lv_has ls 3 [(0, .ref y0), (1, .int t1), (2, .int p1)] := hl
  have kw_0 := hts (.fieldLink RX6 77 "DelayDeskModel" "events" "I") (List.mem_of_getElem? (i := 1) rfl)
  have iX6 : ∀ w ∈ u_ws RX6 TX6 26, w ∈ wsX6_event := fun _ h9 => (List.mem_cons_of_mem _ (List.mem_append_right _ h9))
  refine lv_iload_n hx hb dX6_event_0 rfl (lv_at hl 1 rfl) ?_
  refine lv_if_lt (tgt := 30) hx hb dX6_event_1 (by decide) (fun c_1 => ?_) (fun c_1 => ?_)
  · refine lv_iconst (v := (-1)) hx hb dX6_event_30 (by decide) ?_
    exact en_i () hx hb hr hlocks hK (hP.sub [0, 1, 2, 3] rfl) (hD.sub [0, 1, 2, 3] (by decide) rfl) hS (Nat.le_of_ble_eq_true rfl) (Nat.le_of_ble_eq_true rfl) dX6_event_31 (rfl)
  · refine lv_iload_n hx hb dX6_event_4 rfl (lv_at hl 1 rfl) ?_
    refine lv_bipush (v := 16) hx hb dX6_event_5 (by decide) ?_
    refine lv_icmp_ge (tgt := 30) hx hb dX6_event_7 (by decide) (fun c_7 => ?_) (fun c_7 => ?_)
    · refine lv_iconst (v := (-1)) hx hb dX6_event_30 (by decide) ?_
      exact en_i () hx hb hr hlocks hK (hP.sub [0, 1, 2, 3] rfl) (hD.sub [0, 1, 2, 3] (by decide) rfl) hS (Nat.le_of_ble_eq_true rfl) (Nat.le_of_ble_eq_true rfl) dX6_event_31 (rfl)
    · refine lv_iload_n hx hb dX6_event_10 rfl (lv_at hl 2 rfl) ?_
      refine lv_if_lt (tgt := 30) hx hb dX6_event_11 (by decide) (fun c_11 => ?_) (fun c_11 => ?_)
      · refine lv_iconst (v := (-1)) hx hb dX6_event_30 (by decide) ?_
        exact en_i () hx hb hr hlocks hK (hP.sub [0, 1, 2, 3] rfl) (hD.sub [0, 1, 2, 3] (by decide) rfl) hS (Nat.le_of_ble_eq_true rfl) (Nat.le_of_ble_eq_true rfl) dX6_event_31 (rfl)
      · refine lv_iload_n hx hb dX6_event_14 rfl (lv_at hl 2 rfl) ?_
        refine lv_sipush (v := 2000) hx hb dX6_event_15 (by decide) ?_
        refine lv_icmp_gt (tgt := 30) hx hb dX6_event_18 (by decide) (fun c_18 => ?_) (fun c_18 => ?_)
        · refine lv_iconst (v := (-1)) hx hb dX6_event_30 (by decide) ?_
          exact en_i () hx hb hr hlocks hK (hP.sub [0, 1, 2, 3] rfl) (hD.sub [0, 1, 2, 3] (by decide) rfl) hS (Nat.le_of_ble_eq_true rfl) (Nat.le_of_ble_eq_true rfl) dX6_event_31 (rfl)
        · refine lv_aload_n hx hb dX6_event_21 rfl (lv_at hl 0 rfl) ?_
          refine va_get (D := D) (ci := 6) (v := .int (nI E)) (C := RX6) (T := TX6) (N := 26) hx hb hts iX6 hown hK.1 hP 0 rfl rfl 0 (by decide) kw_0 (fun _ h9 => h9) rfl dX6_event_22 ?_
          refine lv_bipush (v := 60) hx hb dX6_event_25 (by decide) ?_
          refine lv_icmp_ne (tgt := 32) hx hb dX6_event_27 (by decide) (fun c_27 => (hno ⟨⟨ii_1 c_1 (ge16 c_7), ii_1 c_11 c_18⟩, (Nat.lt_of_le_of_ne hE (fun q => c_27 (by subst q; rfl)))⟩).elim) (fun c_27 => ?_)
          refine lv_iconst (v := (-1)) hx hb dX6_event_30 (by decide) ?_
          exact en_i () hx hb hr hlocks hK (hP.sub [0, 1, 2, 3] rfl) (hD.sub [0, 1, 2, 3] (by decide) rfl) hS (Nat.le_of_ble_eq_true rfl) (Nat.le_of_ble_eq_true rfl) dX6_event_31 (rfl)
set_option maxHeartbeats 300000 in
set_option maxRecDepth 100000 in
theorem c_m_activity_ok (l : Launch) (D : va_G) (cI cZ cR : ClassId) (y0 : Nat) (b3 : Nat) (b4 : Nat) (b5 : Nat) (b6 : Nat) (b7 : Nat) (b8 : Nat) (b9 : Nat) (b10 : Nat) (b11 : Nat) (b12 : Nat) (b13 : Nat) (b14 : Nat) (b15 : Nat) (b16 : Nat) (b17 : Nat) (b18 : Nat) (b19 : Nat) (b20 : Nat) (b21 : Nat) (b22 : Nat) (b24 : Nat) (b25 : Nat) (E : Nat) (Ac : Nat) (Gr : Nat) (rm : Nat) (tr : Nat → Int32) (ki : Nat → Int32) (fr : Nat → Int32) (to : Nat → Int32) (le : Nat → Int32) (ke : Nat → Int32) (k1 : Int32) (f1 : Int32) (f2 : Int32) (f3 : Int32) (hE : E ≤ 60) (hAc : Ac < 100) (hok : ((0 ≤ k1 ∧ k1 ≤ 4) ∧ (0 ≤ f3 ∧ f3 ≤ 500) ∧ (vp_in f1 E ∧ vp_in f2 E ∧ ¬ f1 = f2 ∧ ((k1 = 0 ∨ k1 = 1) ↔ tr f1.toNatClampNeg = tr f2.toNatClampNeg)))) : CI l D cI cZ cR yX6_activity wsX6_activity { frames := 1, cells := 0, slots := 0, locals := 21 } [.ref y0, .int k1, .int f1, .int f2, .int f3] (wc (cO y0 6 [.int (nI E), .int (nI Ac), .int (nI Gr), .ref b3, .ref b4, .ref b5, .ref b6, .ref b7, .ref b8, .ref b9, .ref b10, .ref b11, .ref b12, .ref b13, .ref b14, .ref b15, .ref b16, .ref b17, .ref b18, .ref b19, .ref b20, .ref b21, .ref b22, .int (nI rm), .ref b24, .ref b25]) (wc (cA b3 cI 60 tr) (wc (cA b6 cI 100 ki) (wc (cA b7 cI 100 fr) (wc (cA b8 cI 100 to) (wc (cA b9 cI 100 le) (wc (cA b10 cZ 100 ke) wN))))))) (fun (r : Int32) (u : Unit) => r = (nI Ac)) (fun (u : Unit) => (wc (cO y0 6 [.int (nI E), .int (nI (Ac + 1)), .int (nI Gr), .ref b3, .ref b4, .ref b5, .ref b6, .ref b7, .ref b8, .ref b9, .ref b10, .ref b11, .ref b12, .ref b13, .ref b14, .ref b15, .ref b16, .ref b17, .ref b18, .ref b19, .ref b20, .ref b21, .ref b22, .int (nI rm), .ref b24, .ref b25]) (wc (cA b3 cI 60 tr) (wc (cA b6 cI 100 (upd ki Ac k1)) (wc (cA b7 cI 100 (upd fr Ac f1)) (wc (cA b8 cI 100 (upd to Ac f2)) (wc (cA b9 cI 100 (upd le Ac f3)) (wc (cA b10 cZ 100 (upd ke Ac 1)) wN)))))))) := by
  intro sz9
  refine en_W (Qc := fun A => va_Qi (fun (r : Int32) (u : Unit) => r = (nI Ac)) (sB D cI cZ cR (fun (u : Unit) => (wc (cO y0 6 [.int (nI E), .int (nI (Ac + 1)), .int (nI Gr), .ref b3, .ref b4, .ref b5, .ref b6, .ref b7, .ref b8, .ref b9, .ref b10, .ref b11, .ref b12, .ref b13, .ref b14, .ref b15, .ref b16, .ref b17, .ref b18, .ref b19, .ref b20, .ref b21, .ref b22, .int (nI rm), .ref b24, .ref b25]) (wc (cA b3 cI 60 tr) (wc (cA b6 cI 100 (upd ki Ac k1)) (wc (cA b7 cI 100 (upd fr Ac f1)) (wc (cA b8 cI 100 (upd to Ac f2)) (wc (cA b9 cI 100 (upd le Ac f3)) (wc (cA b10 cZ 100 (upd ke Ac 1)) wN)))))))) A) A) (cc := cX6_activity) (maxL := 5) (ret := (some .int)) (by decide) rfl (Nat.le_of_ble_eq_true rfl) ?_
  intro p e s m below meth c A ls hx hb hr hts hown hlocks hin hml hK hP hD hS hA hl
  have hown : s.vm.findClass RX6 = some m.cls := hown
  have hl : lv_has ls 5 [(0, .ref y0), (1, .int k1), (2, .int f1), (3, .int f2), (4, .int f3)] := hl
  have kw_0 := hts (.fieldLink RX6 81 "DelayDeskModel" "activities" "I") (List.mem_of_getElem? (i := 1) rfl)
  have iX6 : ∀ w ∈ u_ws RX6 TX6 26, w ∈ wsX6_activity := fun _ h9 => (List.mem_cons_of_mem _ (List.mem_append_right _ h9))
  have kw_2 := hts (.fieldLink RX6 7 "DelayDeskModel" "train" "[I") (List.mem_of_getElem? (i := 2) rfl)
  have kw_3 := hts (.fieldLink RX6 19 "DelayDeskModel" "kind" "[I") (List.mem_of_getElem? (i := 3) rfl)
  have kw_4 := hts (.fieldLink RX6 22 "DelayDeskModel" "from" "[I") (List.mem_of_getElem? (i := 4) rfl)
  have kw_5 := hts (.fieldLink RX6 25 "DelayDeskModel" "to" "[I") (List.mem_of_getElem? (i := 5) rfl)
  have kw_6 := hts (.fieldLink RX6 28 "DelayDeskModel" "least" "[I") (List.mem_of_getElem? (i := 6) rfl)
  have kw_7 := hts (.fieldLink RX6 31 "DelayDeskModel" "isKept" "[Z") (List.mem_of_getElem? (i := 7) rfl)
  refine lv_iload_n hx hb dX6_activity_0 rfl (lv_at hl 1 rfl) ?_
  refine lv_if_lt (tgt := 52) hx hb dX6_activity_1 (by decide) (fun c_1 => (ii_a c_1 hok.1).elim) (fun c_1 => ?_)
  refine lv_iload_n hx hb dX6_activity_4 rfl (lv_at hl 1 rfl) ?_
  refine lv_iconst (v := 4) hx hb dX6_activity_5 (by decide) ?_
  refine lv_icmp_gt (tgt := 52) hx hb dX6_activity_6 (by decide) (fun c_6 => (ii_b c_6 hok.1).elim) (fun c_6 => ?_)
  refine lv_aload_n hx hb dX6_activity_9 rfl (lv_at hl 0 rfl) ?_
  refine lv_iload_n hx hb dX6_activity_10 rfl (lv_at hl 2 rfl) ?_
  refine cl_i (wr := (wc (cA b3 cI 60 tr) (wc (cA b6 cI 100 ki) (wc (cA b7 cI 100 fr) (wc (cA b8 cI 100 to) (wc (cA b9 cI 100 le) (wc (cA b10 cZ 100 ke) wN))))))) (va_runV (As := [.int f1]) (rest := []) ⟨hx, hb, hml, hown, hts⟩ (c_m_isEvent l D cI cZ cR y0 b3 b4 b5 b6 b7 b8 b9 b10 b11 b12 b13 b14 b15 b16 b17 b18 b19 b20 b21 b22 b24 b25 E Ac Gr rm f1 (by omega) s.heap.size) (cwV 1 hts gX6_activity_X6_isEvent rfl rfl rfl hd_X6_isEvent ⟨Nat.le_of_ble_eq_true rfl, Nat.le_of_ble_eq_true rfl⟩) (pV 6 0 hK hP hD [0] rfl (by decide) rfl rfl) rfl rfl hl.1 rfl (lv_room (Nat.le_of_ble_eq_true rfl)) dX6_activity_11 ⟨Nat.le_of_ble_eq_true rfl, Nat.le_of_ble_eq_true rfl⟩) hP hD hS hA [0] [1, 2, 3, 4, 5, 6] rfl rfl (by decide) (by decide) (fun r_11 u_11 H locs hw_11 hP hD hS => ?_)
  have hP : va_P D vwCl (wc (cA b3 cI 60 tr) (wc (cA b6 cI 100 ki) (wc (cA b7 cI 100 fr) (wc (cA b8 cI 100 to) (wc (cA b9 cI 100 le) (wc (cA b10 cZ 100 ke) (wc (cO y0 6 [.int (nI E), .int (nI Ac), .int (nI Gr), .ref b3, .ref b4, .ref b5, .ref b6, .ref b7, .ref b8, .ref b9, .ref b10, .ref b11, .ref b12, .ref b13, .ref b14, .ref b15, .ref b16, .ref b17, .ref b18, .ref b19, .ref b20, .ref b21, .ref b22, .int (nI rm), .ref b24, .ref b25]) wN))))))) H := hP
  have hD : va_D A (wc (cA b3 cI 60 tr) (wc (cA b6 cI 100 ki) (wc (cA b7 cI 100 fr) (wc (cA b8 cI 100 to) (wc (cA b9 cI 100 le) (wc (cA b10 cZ 100 ke) (wc (cO y0 6 [.int (nI E), .int (nI Ac), .int (nI Gr), .ref b3, .ref b4, .ref b5, .ref b6, .ref b7, .ref b8, .ref b9, .ref b10, .ref b11, .ref b12, .ref b13, .ref b14, .ref b15, .ref b16, .ref b17, .ref b18, .ref b19, .ref b20, .ref b21, .ref b22, .int (nI rm), .ref b24, .ref b25]) wN))))))) := hD
  rcases hw_11 with ⟨rfl, hf_11⟩ | ⟨rfl, hf_11⟩
  · refine lv_if_eq (tgt := 52) hx hb dX6_activity_14 (by decide) (fun c_14 => absurd c_14 (by decide)) (fun c_14 => ?_)
    refine lv_aload_n hx hb dX6_activity_17 rfl (lv_at hl 0 rfl) ?_
    refine lv_iload_n hx hb dX6_activity_18 rfl (lv_at hl 3 rfl) ?_
    refine cl_i (wr := (wc (cA b3 cI 60 tr) (wc (cA b6 cI 100 ki) (wc (cA b7 cI 100 fr) (wc (cA b8 cI 100 to) (wc (cA b9 cI 100 le) (wc (cA b10 cZ 100 ke) wN))))))) (va_runV (As := [.int f2]) (rest := []) ⟨hx, hb, hml, hown, hts⟩ (c_m_isEvent l D cI cZ cR y0 b3 b4 b5 b6 b7 b8 b9 b10 b11 b12 b13 b14 b15 b16 b17 b18 b19 b20 b21 b22 b24 b25 E Ac Gr rm f2 (by omega) H.size) (cwV 1 hts gX6_activity_X6_isEvent rfl rfl rfl hd_X6_isEvent ⟨Nat.le_of_ble_eq_true rfl, Nat.le_of_ble_eq_true rfl⟩) (pV 6 6 hK hP hD [6] rfl (by decide) rfl rfl) rfl rfl hl.1 rfl (lv_room (Nat.le_of_ble_eq_true rfl)) dX6_activity_19 ⟨Nat.le_of_ble_eq_true rfl, Nat.le_of_ble_eq_true rfl⟩) hP hD hS hA [6] [0, 1, 2, 3, 4, 5] rfl rfl (by decide) (by decide) (fun r_19 u_19 H locs hw_19 hP hD hS => ?_)
    have hP : va_P D vwCl (wc (cA b3 cI 60 tr) (wc (cA b6 cI 100 ki) (wc (cA b7 cI 100 fr) (wc (cA b8 cI 100 to) (wc (cA b9 cI 100 le) (wc (cA b10 cZ 100 ke) (wc (cO y0 6 [.int (nI E), .int (nI Ac), .int (nI Gr), .ref b3, .ref b4, .ref b5, .ref b6, .ref b7, .ref b8, .ref b9, .ref b10, .ref b11, .ref b12, .ref b13, .ref b14, .ref b15, .ref b16, .ref b17, .ref b18, .ref b19, .ref b20, .ref b21, .ref b22, .int (nI rm), .ref b24, .ref b25]) wN))))))) H := hP
    have hD : va_D A (wc (cA b3 cI 60 tr) (wc (cA b6 cI 100 ki) (wc (cA b7 cI 100 fr) (wc (cA b8 cI 100 to) (wc (cA b9 cI 100 le) (wc (cA b10 cZ 100 ke) (wc (cO y0 6 [.int (nI E), .int (nI Ac), .int (nI Gr), .ref b3, .ref b4, .ref b5, .ref b6, .ref b7, .ref b8, .ref b9, .ref b10, .ref b11, .ref b12, .ref b13, .ref b14, .ref b15, .ref b16, .ref b17, .ref b18, .ref b19, .ref b20, .ref b21, .ref b22, .int (nI rm), .ref b24, .ref b25]) wN))))))) := hD
    rcases hw_19 with ⟨rfl, hf_19⟩ | ⟨rfl, hf_19⟩
    · refine lv_if_eq (tgt := 52) hx hb dX6_activity_22 (by decide) (fun c_22 => absurd c_22 (by decide)) (fun c_22 => ?_)
      refine lv_iload_n hx hb dX6_activity_25 rfl (lv_at hl 2 rfl) ?_
      refine lv_iload_n hx hb dX6_activity_26 rfl (lv_at hl 3 rfl) ?_
      refine lv_icmp_eq (tgt := 52) hx hb dX6_activity_27 (by decide) (fun c_27 => (hok.2.2.2.2.1 c_27).elim) (fun c_27 => ?_)
      refine lv_iload hx hb dX6_activity_30 (lv_at hl 4 rfl) ?_
      refine lv_if_lt (tgt := 52) hx hb dX6_activity_32 (by decide) (fun c_32 => (ii_a c_32 hok.2.1).elim) (fun c_32 => ?_)
      refine lv_iload hx hb dX6_activity_35 (lv_at hl 4 rfl) ?_
      refine lv_sipush (v := 500) hx hb dX6_activity_37 (by decide) ?_
      refine lv_icmp_gt (tgt := 52) hx hb dX6_activity_40 (by decide) (fun c_40 => (ii_b c_40 hok.2.1).elim) (fun c_40 => ?_)
      refine lv_aload_n hx hb dX6_activity_43 rfl (lv_at hl 0 rfl) ?_
      refine va_get (D := D) (ci := 6) (v := .int (nI Ac)) (C := RX6) (T := TX6) (N := 26) hx hb hts iX6 hown hK.1 hP 6 rfl rfl 1 (by decide) kw_0 (fun _ h9 => h9) rfl dX6_activity_44 ?_
      refine lv_bipush (v := 100) hx hb dX6_activity_47 (by decide) ?_
      refine lv_icmp_ne (tgt := 54) hx hb dX6_activity_49 (by decide) (fun c_49 => ?_) (fun c_49 => ((show ¬ Ac = 100 by omega) ((nI_eq (a := Ac) (b := 100) (by omega) (by omega)).mp c_49)).elim)
      refine lv_aload_n hx hb dX6_activity_54 rfl (lv_at hl 0 rfl) ?_
      refine va_get (D := D) (ci := 6) (v := .ref b3) (C := RX6) (T := TX6) (N := 26) hx hb hts iX6 hown hK.1 hP 6 rfl rfl 3 (by decide) kw_2 (fun _ h9 => h9) rfl dX6_activity_55 ?_
      refine lv_iload_n hx hb dX6_activity_58 rfl (lv_at hl 2 rfl) ?_
      refine va_iald hx hb hK.1 hP 0 0 rfl rfl (by first | with_reducible assumption | exact vp_le (by with_reducible assumption) (by omega)) dX6_activity_59 ?_
      refine lv_aload_n hx hb dX6_activity_60 rfl (lv_at hl 0 rfl) ?_
      refine va_get (D := D) (ci := 6) (v := .ref b3) (C := RX6) (T := TX6) (N := 26) hx hb hts iX6 hown hK.1 hP 6 rfl rfl 3 (by decide) kw_2 (fun _ h9 => h9) rfl dX6_activity_61 ?_
      refine lv_iload_n hx hb dX6_activity_64 rfl (lv_at hl 3 rfl) ?_
      refine va_iald hx hb hK.1 hP 0 0 rfl rfl (by first | with_reducible assumption | exact vp_le (by with_reducible assumption) (by omega)) dX6_activity_65 ?_
      refine lv_icmp_ne (tgt := 73) hx hb dX6_activity_66 (by decide) (fun c_66 => ?_) (fun c_66 => ?_)
      · refine lv_iconst (v := 0) hx hb dX6_activity_73 (by decide) ?_
        refine lv_iload_n hx hb dX6_activity_74 rfl (lv_at hl 1 rfl) ?_
        refine lv_if_eq (tgt := 83) hx hb dX6_activity_75 (by decide) (fun c_75 => ?_) (fun c_75 => ?_)
        · refine lv_iconst (v := 1) hx hb dX6_activity_83 (by decide) ?_
          refine lv_goto (tgt := 88) hx hb dX6_activity_84 (by decide) ?_
          refine lv_icmp_eq (tgt := 93) hx hb dX6_activity_88 (by decide) (fun c_88 => absurd c_88 (by decide)) (fun c_88 => ?_)
          exact (by first | exact c_66 (hok.2.2.2.2.2.mp (Or.inl c_75)) | exact c_66 (hok.2.2.2.2.2.mp (Or.inr c_80)) | exact (hok.2.2.2.2.2.mpr c_66).elim c_75 c_80 : False).elim
        · refine lv_iload_n hx hb dX6_activity_78 rfl (lv_at hl 1 rfl) ?_
          refine lv_iconst (v := 1) hx hb dX6_activity_79 (by decide) ?_
          refine lv_icmp_ne (tgt := 87) hx hb dX6_activity_80 (by decide) (fun c_80 => ?_) (fun c_80 => ?_)
          · refine lv_iconst (v := 0) hx hb dX6_activity_87 (by decide) ?_
            refine lv_icmp_eq (tgt := 93) hx hb dX6_activity_88 (by decide) (fun c_88 => ?_) (fun c_88 => absurd (by decide) c_88)
            refine lv_aload_n hx hb dX6_activity_93 rfl (lv_at hl 0 rfl) ?_
            refine va_get (D := D) (ci := 6) (v := .ref b6) (C := RX6) (T := TX6) (N := 26) hx hb hts iX6 hown hK.1 hP 6 rfl rfl 6 (by decide) kw_3 (fun _ h9 => h9) rfl dX6_activity_94 ?_
            refine lv_aload_n hx hb dX6_activity_97 rfl (lv_at hl 0 rfl) ?_
            refine va_get (D := D) (ci := 6) (v := .int (nI Ac)) (C := RX6) (T := TX6) (N := 26) hx hb hts iX6 hown hK.1 hP 6 rfl rfl 1 (by decide) kw_0 (fun _ h9 => h9) rfl dX6_activity_98 ?_
            refine lv_iload_n hx hb dX6_activity_101 rfl (lv_at hl 1 rfl) ?_
            refine wa_I hx hb hK hP hD hS 1 rfl (k := Ac) (by omega) (by decide) dX6_activity_102 (fun H locs hP hD hS => ?_)
            have hP : va_P D vwCl (wc (cA b3 cI 60 tr) (wc (cA b6 cI 100 (upd ki Ac k1)) (wc (cA b7 cI 100 fr) (wc (cA b8 cI 100 to) (wc (cA b9 cI 100 le) (wc (cA b10 cZ 100 ke) (wc (cO y0 6 [.int (nI E), .int (nI Ac), .int (nI Gr), .ref b3, .ref b4, .ref b5, .ref b6, .ref b7, .ref b8, .ref b9, .ref b10, .ref b11, .ref b12, .ref b13, .ref b14, .ref b15, .ref b16, .ref b17, .ref b18, .ref b19, .ref b20, .ref b21, .ref b22, .int (nI rm), .ref b24, .ref b25]) wN))))))) H := hP
            have hD : va_D A (wc (cA b3 cI 60 tr) (wc (cA b6 cI 100 (upd ki Ac k1)) (wc (cA b7 cI 100 fr) (wc (cA b8 cI 100 to) (wc (cA b9 cI 100 le) (wc (cA b10 cZ 100 ke) (wc (cO y0 6 [.int (nI E), .int (nI Ac), .int (nI Gr), .ref b3, .ref b4, .ref b5, .ref b6, .ref b7, .ref b8, .ref b9, .ref b10, .ref b11, .ref b12, .ref b13, .ref b14, .ref b15, .ref b16, .ref b17, .ref b18, .ref b19, .ref b20, .ref b21, .ref b22, .int (nI rm), .ref b24, .ref b25]) wN))))))) := hD
            refine lv_aload_n hx hb dX6_activity_103 rfl (lv_at hl 0 rfl) ?_
            refine va_get (D := D) (ci := 6) (v := .ref b7) (C := RX6) (T := TX6) (N := 26) hx hb hts iX6 hown hK.1 hP 6 rfl rfl 7 (by decide) kw_4 (fun _ h9 => h9) rfl dX6_activity_104 ?_
            refine lv_aload_n hx hb dX6_activity_107 rfl (lv_at hl 0 rfl) ?_
            refine va_get (D := D) (ci := 6) (v := .int (nI Ac)) (C := RX6) (T := TX6) (N := 26) hx hb hts iX6 hown hK.1 hP 6 rfl rfl 1 (by decide) kw_0 (fun _ h9 => h9) rfl dX6_activity_108 ?_
            refine lv_iload_n hx hb dX6_activity_111 rfl (lv_at hl 2 rfl) ?_
            refine wa_I hx hb hK hP hD hS 2 rfl (k := Ac) (by omega) (by decide) dX6_activity_112 (fun H locs hP hD hS => ?_)
            have hP : va_P D vwCl (wc (cA b3 cI 60 tr) (wc (cA b6 cI 100 (upd ki Ac k1)) (wc (cA b7 cI 100 (upd fr Ac f1)) (wc (cA b8 cI 100 to) (wc (cA b9 cI 100 le) (wc (cA b10 cZ 100 ke) (wc (cO y0 6 [.int (nI E), .int (nI Ac), .int (nI Gr), .ref b3, .ref b4, .ref b5, .ref b6, .ref b7, .ref b8, .ref b9, .ref b10, .ref b11, .ref b12, .ref b13, .ref b14, .ref b15, .ref b16, .ref b17, .ref b18, .ref b19, .ref b20, .ref b21, .ref b22, .int (nI rm), .ref b24, .ref b25]) wN))))))) H := hP
            have hD : va_D A (wc (cA b3 cI 60 tr) (wc (cA b6 cI 100 (upd ki Ac k1)) (wc (cA b7 cI 100 (upd fr Ac f1)) (wc (cA b8 cI 100 to) (wc (cA b9 cI 100 le) (wc (cA b10 cZ 100 ke) (wc (cO y0 6 [.int (nI E), .int (nI Ac), .int (nI Gr), .ref b3, .ref b4, .ref b5, .ref b6, .ref b7, .ref b8, .ref b9, .ref b10, .ref b11, .ref b12, .ref b13, .ref b14, .ref b15, .ref b16, .ref b17, .ref b18, .ref b19, .ref b20, .ref b21, .ref b22, .int (nI rm), .ref b24, .ref b25]) wN))))))) := hD
            refine lv_aload_n hx hb dX6_activity_113 rfl (lv_at hl 0 rfl) ?_
            refine va_get (D := D) (ci := 6) (v := .ref b8) (C := RX6) (T := TX6) (N := 26) hx hb hts iX6 hown hK.1 hP 6 rfl rfl 8 (by decide) kw_5 (fun _ h9 => h9) rfl dX6_activity_114 ?_
            refine lv_aload_n hx hb dX6_activity_117 rfl (lv_at hl 0 rfl) ?_
            refine va_get (D := D) (ci := 6) (v := .int (nI Ac)) (C := RX6) (T := TX6) (N := 26) hx hb hts iX6 hown hK.1 hP 6 rfl rfl 1 (by decide) kw_0 (fun _ h9 => h9) rfl dX6_activity_118 ?_
            refine lv_iload_n hx hb dX6_activity_121 rfl (lv_at hl 3 rfl) ?_
            refine wa_I hx hb hK hP hD hS 3 rfl (k := Ac) (by omega) (by decide) dX6_activity_122 (fun H locs hP hD hS => ?_)
            have hP : va_P D vwCl (wc (cA b3 cI 60 tr) (wc (cA b6 cI 100 (upd ki Ac k1)) (wc (cA b7 cI 100 (upd fr Ac f1)) (wc (cA b8 cI 100 (upd to Ac f2)) (wc (cA b9 cI 100 le) (wc (cA b10 cZ 100 ke) (wc (cO y0 6 [.int (nI E), .int (nI Ac), .int (nI Gr), .ref b3, .ref b4, .ref b5, .ref b6, .ref b7, .ref b8, .ref b9, .ref b10, .ref b11, .ref b12, .ref b13, .ref b14, .ref b15, .ref b16, .ref b17, .ref b18, .ref b19, .ref b20, .ref b21, .ref b22, .int (nI rm), .ref b24, .ref b25]) wN))))))) H := hP
            have hD : va_D A (wc (cA b3 cI 60 tr) (wc (cA b6 cI 100 (upd ki Ac k1)) (wc (cA b7 cI 100 (upd fr Ac f1)) (wc (cA b8 cI 100 (upd to Ac f2)) (wc (cA b9 cI 100 le) (wc (cA b10 cZ 100 ke) (wc (cO y0 6 [.int (nI E), .int (nI Ac), .int (nI Gr), .ref b3, .ref b4, .ref b5, .ref b6, .ref b7, .ref b8, .ref b9, .ref b10, .ref b11, .ref b12, .ref b13, .ref b14, .ref b15, .ref b16, .ref b17, .ref b18, .ref b19, .ref b20, .ref b21, .ref b22, .int (nI rm), .ref b24, .ref b25]) wN))))))) := hD
            refine lv_aload_n hx hb dX6_activity_123 rfl (lv_at hl 0 rfl) ?_
            refine va_get (D := D) (ci := 6) (v := .ref b9) (C := RX6) (T := TX6) (N := 26) hx hb hts iX6 hown hK.1 hP 6 rfl rfl 9 (by decide) kw_6 (fun _ h9 => h9) rfl dX6_activity_124 ?_
            refine lv_aload_n hx hb dX6_activity_127 rfl (lv_at hl 0 rfl) ?_
            refine va_get (D := D) (ci := 6) (v := .int (nI Ac)) (C := RX6) (T := TX6) (N := 26) hx hb hts iX6 hown hK.1 hP 6 rfl rfl 1 (by decide) kw_0 (fun _ h9 => h9) rfl dX6_activity_128 ?_
            refine lv_iload hx hb dX6_activity_131 (lv_at hl 4 rfl) ?_
            refine wa_I hx hb hK hP hD hS 4 rfl (k := Ac) (by omega) (by decide) dX6_activity_133 (fun H locs hP hD hS => ?_)
            have hP : va_P D vwCl (wc (cA b3 cI 60 tr) (wc (cA b6 cI 100 (upd ki Ac k1)) (wc (cA b7 cI 100 (upd fr Ac f1)) (wc (cA b8 cI 100 (upd to Ac f2)) (wc (cA b9 cI 100 (upd le Ac f3)) (wc (cA b10 cZ 100 ke) (wc (cO y0 6 [.int (nI E), .int (nI Ac), .int (nI Gr), .ref b3, .ref b4, .ref b5, .ref b6, .ref b7, .ref b8, .ref b9, .ref b10, .ref b11, .ref b12, .ref b13, .ref b14, .ref b15, .ref b16, .ref b17, .ref b18, .ref b19, .ref b20, .ref b21, .ref b22, .int (nI rm), .ref b24, .ref b25]) wN))))))) H := hP
            have hD : va_D A (wc (cA b3 cI 60 tr) (wc (cA b6 cI 100 (upd ki Ac k1)) (wc (cA b7 cI 100 (upd fr Ac f1)) (wc (cA b8 cI 100 (upd to Ac f2)) (wc (cA b9 cI 100 (upd le Ac f3)) (wc (cA b10 cZ 100 ke) (wc (cO y0 6 [.int (nI E), .int (nI Ac), .int (nI Gr), .ref b3, .ref b4, .ref b5, .ref b6, .ref b7, .ref b8, .ref b9, .ref b10, .ref b11, .ref b12, .ref b13, .ref b14, .ref b15, .ref b16, .ref b17, .ref b18, .ref b19, .ref b20, .ref b21, .ref b22, .int (nI rm), .ref b24, .ref b25]) wN))))))) := hD
            refine lv_aload_n hx hb dX6_activity_134 rfl (lv_at hl 0 rfl) ?_
            refine va_get (D := D) (ci := 6) (v := .ref b10) (C := RX6) (T := TX6) (N := 26) hx hb hts iX6 hown hK.1 hP 6 rfl rfl 10 (by decide) kw_7 (fun _ h9 => h9) rfl dX6_activity_135 ?_
            refine lv_aload_n hx hb dX6_activity_138 rfl (lv_at hl 0 rfl) ?_
            refine va_get (D := D) (ci := 6) (v := .int (nI Ac)) (C := RX6) (T := TX6) (N := 26) hx hb hts iX6 hown hK.1 hP 6 rfl rfl 1 (by decide) kw_0 (fun _ h9 => h9) rfl dX6_activity_139 ?_
            refine lv_iconst (v := 1) hx hb dX6_activity_142 (by decide) ?_
            refine wa_Z hx hb hK hP hD hS 5 rfl (k := Ac) (by omega) (by decide) dX6_activity_143 (fun H locs hP hD hS => ?_)
            have hP : va_P D vwCl (wc (cA b3 cI 60 tr) (wc (cA b6 cI 100 (upd ki Ac k1)) (wc (cA b7 cI 100 (upd fr Ac f1)) (wc (cA b8 cI 100 (upd to Ac f2)) (wc (cA b9 cI 100 (upd le Ac f3)) (wc (cA b10 cZ 100 (upd ke Ac 1)) (wc (cO y0 6 [.int (nI E), .int (nI Ac), .int (nI Gr), .ref b3, .ref b4, .ref b5, .ref b6, .ref b7, .ref b8, .ref b9, .ref b10, .ref b11, .ref b12, .ref b13, .ref b14, .ref b15, .ref b16, .ref b17, .ref b18, .ref b19, .ref b20, .ref b21, .ref b22, .int (nI rm), .ref b24, .ref b25]) wN))))))) H := hP
            have hD : va_D A (wc (cA b3 cI 60 tr) (wc (cA b6 cI 100 (upd ki Ac k1)) (wc (cA b7 cI 100 (upd fr Ac f1)) (wc (cA b8 cI 100 (upd to Ac f2)) (wc (cA b9 cI 100 (upd le Ac f3)) (wc (cA b10 cZ 100 (upd ke Ac 1)) (wc (cO y0 6 [.int (nI E), .int (nI Ac), .int (nI Gr), .ref b3, .ref b4, .ref b5, .ref b6, .ref b7, .ref b8, .ref b9, .ref b10, .ref b11, .ref b12, .ref b13, .ref b14, .ref b15, .ref b16, .ref b17, .ref b18, .ref b19, .ref b20, .ref b21, .ref b22, .int (nI rm), .ref b24, .ref b25]) wN))))))) := hD
            refine lv_aload_n hx hb dX6_activity_144 rfl (lv_at hl 0 rfl) ?_
            refine lv_aload_n hx hb dX6_activity_145 rfl (lv_at hl 0 rfl) ?_
            refine va_get (D := D) (ci := 6) (v := .int (nI Ac)) (C := RX6) (T := TX6) (N := 26) hx hb hts iX6 hown hK.1 hP 6 rfl rfl 1 (by decide) kw_0 (fun _ h9 => h9) rfl dX6_activity_146 ?_
            refine lv_iconst (v := 1) hx hb dX6_activity_149 (by decide) ?_
            refine lv_iadd hx hb dX6_activity_150 ?_
            refine W.eq (g2 := F0 m 151 ls [.int (nI (Ac + 1)), .ref y0]) (by first | rw [nI_1] | rw [nI_add] | exact congrArg (fun z => F0 m 151 ls (Value.int z :: _)) (nI_add _ _)) ?_
            refine va_put (D := D) (ci := 6) (v := .int (nI (Ac + 1))) (ty := .int) (C := RX6) (T := TX6) (N := 26) hx hb hts iX6 tyX6 tyX6_ok nmX6 hown hK.1 hP hD hS 6 rfl rfl 1 (by decide) kw_0 (fun _ h9 => h9) rfl (by decide +kernel) rfl rfl (Nat.le_of_ble_eq_true rfl) dX6_activity_151 (fun H locs hP hD hS => ?_)
            have hP : va_P D vwCl (wc (cA b3 cI 60 tr) (wc (cA b6 cI 100 (upd ki Ac k1)) (wc (cA b7 cI 100 (upd fr Ac f1)) (wc (cA b8 cI 100 (upd to Ac f2)) (wc (cA b9 cI 100 (upd le Ac f3)) (wc (cA b10 cZ 100 (upd ke Ac 1)) (wc (cO y0 6 [.int (nI E), .int (nI (Ac + 1)), .int (nI Gr), .ref b3, .ref b4, .ref b5, .ref b6, .ref b7, .ref b8, .ref b9, .ref b10, .ref b11, .ref b12, .ref b13, .ref b14, .ref b15, .ref b16, .ref b17, .ref b18, .ref b19, .ref b20, .ref b21, .ref b22, .int (nI rm), .ref b24, .ref b25]) wN))))))) H := hP
            have hD : va_D A (wc (cA b3 cI 60 tr) (wc (cA b6 cI 100 (upd ki Ac k1)) (wc (cA b7 cI 100 (upd fr Ac f1)) (wc (cA b8 cI 100 (upd to Ac f2)) (wc (cA b9 cI 100 (upd le Ac f3)) (wc (cA b10 cZ 100 (upd ke Ac 1)) (wc (cO y0 6 [.int (nI E), .int (nI (Ac + 1)), .int (nI Gr), .ref b3, .ref b4, .ref b5, .ref b6, .ref b7, .ref b8, .ref b9, .ref b10, .ref b11, .ref b12, .ref b13, .ref b14, .ref b15, .ref b16, .ref b17, .ref b18, .ref b19, .ref b20, .ref b21, .ref b22, .int (nI rm), .ref b24, .ref b25]) wN))))))) := hD
            refine lv_aload_n hx hb dX6_activity_154 rfl (lv_at hl 0 rfl) ?_
            refine va_get (D := D) (ci := 6) (v := .int (nI (Ac + 1))) (C := RX6) (T := TX6) (N := 26) hx hb hts iX6 hown hK.1 hP 6 rfl rfl 1 (by decide) kw_0 (fun _ h9 => h9) rfl dX6_activity_155 ?_
            refine lv_iconst (v := 1) hx hb dX6_activity_158 (by decide) ?_
            refine lv_isub hx hb dX6_activity_159 ?_
            refine W.eq (g2 := F0 m 160 ls [.int (nI Ac)]) (by rw [nI_pred]) ?_
            exact en_i () hx hb hr hlocks hK (hP.sub [6, 0, 1, 2, 3, 4, 5] rfl) (hD.sub [6, 0, 1, 2, 3, 4, 5] (by decide) rfl) hS (Nat.le_of_ble_eq_true rfl) (Nat.le_of_ble_eq_true rfl) dX6_activity_160 (rfl)
          · refine lv_iconst (v := 1) hx hb dX6_activity_83 (by decide) ?_
            refine lv_goto (tgt := 88) hx hb dX6_activity_84 (by decide) ?_
            refine lv_icmp_eq (tgt := 93) hx hb dX6_activity_88 (by decide) (fun c_88 => absurd c_88 (by decide)) (fun c_88 => ?_)
            exact (by first | exact c_66 (hok.2.2.2.2.2.mp (Or.inl c_75)) | exact c_66 (hok.2.2.2.2.2.mp (Or.inr c_80)) | exact (hok.2.2.2.2.2.mpr c_66).elim c_75 c_80 : False).elim
      · refine lv_iconst (v := 1) hx hb dX6_activity_69 (by decide) ?_
        refine lv_goto (tgt := 74) hx hb dX6_activity_70 (by decide) ?_
        refine lv_iload_n hx hb dX6_activity_74 rfl (lv_at hl 1 rfl) ?_
        refine lv_if_eq (tgt := 83) hx hb dX6_activity_75 (by decide) (fun c_75 => ?_) (fun c_75 => ?_)
        · refine lv_iconst (v := 1) hx hb dX6_activity_83 (by decide) ?_
          refine lv_goto (tgt := 88) hx hb dX6_activity_84 (by decide) ?_
          refine lv_icmp_eq (tgt := 93) hx hb dX6_activity_88 (by decide) (fun c_88 => ?_) (fun c_88 => absurd (by decide) c_88)
          refine lv_aload_n hx hb dX6_activity_93 rfl (lv_at hl 0 rfl) ?_
          refine va_get (D := D) (ci := 6) (v := .ref b6) (C := RX6) (T := TX6) (N := 26) hx hb hts iX6 hown hK.1 hP 6 rfl rfl 6 (by decide) kw_3 (fun _ h9 => h9) rfl dX6_activity_94 ?_
          refine lv_aload_n hx hb dX6_activity_97 rfl (lv_at hl 0 rfl) ?_
          refine va_get (D := D) (ci := 6) (v := .int (nI Ac)) (C := RX6) (T := TX6) (N := 26) hx hb hts iX6 hown hK.1 hP 6 rfl rfl 1 (by decide) kw_0 (fun _ h9 => h9) rfl dX6_activity_98 ?_
          refine lv_iload_n hx hb dX6_activity_101 rfl (lv_at hl 1 rfl) ?_
          refine wa_I hx hb hK hP hD hS 1 rfl (k := Ac) (by omega) (by decide) dX6_activity_102 (fun H locs hP hD hS => ?_)
          have hP : va_P D vwCl (wc (cA b3 cI 60 tr) (wc (cA b6 cI 100 (upd ki Ac k1)) (wc (cA b7 cI 100 fr) (wc (cA b8 cI 100 to) (wc (cA b9 cI 100 le) (wc (cA b10 cZ 100 ke) (wc (cO y0 6 [.int (nI E), .int (nI Ac), .int (nI Gr), .ref b3, .ref b4, .ref b5, .ref b6, .ref b7, .ref b8, .ref b9, .ref b10, .ref b11, .ref b12, .ref b13, .ref b14, .ref b15, .ref b16, .ref b17, .ref b18, .ref b19, .ref b20, .ref b21, .ref b22, .int (nI rm), .ref b24, .ref b25]) wN))))))) H := hP
          have hD : va_D A (wc (cA b3 cI 60 tr) (wc (cA b6 cI 100 (upd ki Ac k1)) (wc (cA b7 cI 100 fr) (wc (cA b8 cI 100 to) (wc (cA b9 cI 100 le) (wc (cA b10 cZ 100 ke) (wc (cO y0 6 [.int (nI E), .int (nI Ac), .int (nI Gr), .ref b3, .ref b4, .ref b5, .ref b6, .ref b7, .ref b8, .ref b9, .ref b10, .ref b11, .ref b12, .ref b13, .ref b14, .ref b15, .ref b16, .ref b17, .ref b18, .ref b19, .ref b20, .ref b21, .ref b22, .int (nI rm), .ref b24, .ref b25]) wN))))))) := hD
          refine lv_aload_n hx hb dX6_activity_103 rfl (lv_at hl 0 rfl) ?_
          refine va_get (D := D) (ci := 6) (v := .ref b7) (C := RX6) (T := TX6) (N := 26) hx hb hts iX6 hown hK.1 hP 6 rfl rfl 7 (by decide) kw_4 (fun _ h9 => h9) rfl dX6_activity_104 ?_
          refine lv_aload_n hx hb dX6_activity_107 rfl (lv_at hl 0 rfl) ?_
          refine va_get (D := D) (ci := 6) (v := .int (nI Ac)) (C := RX6) (T := TX6) (N := 26) hx hb hts iX6 hown hK.1 hP 6 rfl rfl 1 (by decide) kw_0 (fun _ h9 => h9) rfl dX6_activity_108 ?_
          refine lv_iload_n hx hb dX6_activity_111 rfl (lv_at hl 2 rfl) ?_
          refine wa_I hx hb hK hP hD hS 2 rfl (k := Ac) (by omega) (by decide) dX6_activity_112 (fun H locs hP hD hS => ?_)
          have hP : va_P D vwCl (wc (cA b3 cI 60 tr) (wc (cA b6 cI 100 (upd ki Ac k1)) (wc (cA b7 cI 100 (upd fr Ac f1)) (wc (cA b8 cI 100 to) (wc (cA b9 cI 100 le) (wc (cA b10 cZ 100 ke) (wc (cO y0 6 [.int (nI E), .int (nI Ac), .int (nI Gr), .ref b3, .ref b4, .ref b5, .ref b6, .ref b7, .ref b8, .ref b9, .ref b10, .ref b11, .ref b12, .ref b13, .ref b14, .ref b15, .ref b16, .ref b17, .ref b18, .ref b19, .ref b20, .ref b21, .ref b22, .int (nI rm), .ref b24, .ref b25]) wN))))))) H := hP
          have hD : va_D A (wc (cA b3 cI 60 tr) (wc (cA b6 cI 100 (upd ki Ac k1)) (wc (cA b7 cI 100 (upd fr Ac f1)) (wc (cA b8 cI 100 to) (wc (cA b9 cI 100 le) (wc (cA b10 cZ 100 ke) (wc (cO y0 6 [.int (nI E), .int (nI Ac), .int (nI Gr), .ref b3, .ref b4, .ref b5, .ref b6, .ref b7, .ref b8, .ref b9, .ref b10, .ref b11, .ref b12, .ref b13, .ref b14, .ref b15, .ref b16, .ref b17, .ref b18, .ref b19, .ref b20, .ref b21, .ref b22, .int (nI rm), .ref b24, .ref b25]) wN))))))) := hD
          refine lv_aload_n hx hb dX6_activity_113 rfl (lv_at hl 0 rfl) ?_
          refine va_get (D := D) (ci := 6) (v := .ref b8) (C := RX6) (T := TX6) (N := 26) hx hb hts iX6 hown hK.1 hP 6 rfl rfl 8 (by decide) kw_5 (fun _ h9 => h9) rfl dX6_activity_114 ?_
          refine lv_aload_n hx hb dX6_activity_117 rfl (lv_at hl 0 rfl) ?_
          refine va_get (D := D) (ci := 6) (v := .int (nI Ac)) (C := RX6) (T := TX6) (N := 26) hx hb hts iX6 hown hK.1 hP 6 rfl rfl 1 (by decide) kw_0 (fun _ h9 => h9) rfl dX6_activity_118 ?_
          refine lv_iload_n hx hb dX6_activity_121 rfl (lv_at hl 3 rfl) ?_
          refine wa_I hx hb hK hP hD hS 3 rfl (k := Ac) (by omega) (by decide) dX6_activity_122 (fun H locs hP hD hS => ?_)
          have hP : va_P D vwCl (wc (cA b3 cI 60 tr) (wc (cA b6 cI 100 (upd ki Ac k1)) (wc (cA b7 cI 100 (upd fr Ac f1)) (wc (cA b8 cI 100 (upd to Ac f2)) (wc (cA b9 cI 100 le) (wc (cA b10 cZ 100 ke) (wc (cO y0 6 [.int (nI E), .int (nI Ac), .int (nI Gr), .ref b3, .ref b4, .ref b5, .ref b6, .ref b7, .ref b8, .ref b9, .ref b10, .ref b11, .ref b12, .ref b13, .ref b14, .ref b15, .ref b16, .ref b17, .ref b18, .ref b19, .ref b20, .ref b21, .ref b22, .int (nI rm), .ref b24, .ref b25]) wN))))))) H := hP
          have hD : va_D A (wc (cA b3 cI 60 tr) (wc (cA b6 cI 100 (upd ki Ac k1)) (wc (cA b7 cI 100 (upd fr Ac f1)) (wc (cA b8 cI 100 (upd to Ac f2)) (wc (cA b9 cI 100 le) (wc (cA b10 cZ 100 ke) (wc (cO y0 6 [.int (nI E), .int (nI Ac), .int (nI Gr), .ref b3, .ref b4, .ref b5, .ref b6, .ref b7, .ref b8, .ref b9, .ref b10, .ref b11, .ref b12, .ref b13, .ref b14, .ref b15, .ref b16, .ref b17, .ref b18, .ref b19, .ref b20, .ref b21, .ref b22, .int (nI rm), .ref b24, .ref b25]) wN))))))) := hD
          refine lv_aload_n hx hb dX6_activity_123 rfl (lv_at hl 0 rfl) ?_
          refine va_get (D := D) (ci := 6) (v := .ref b9) (C := RX6) (T := TX6) (N := 26) hx hb hts iX6 hown hK.1 hP 6 rfl rfl 9 (by decide) kw_6 (fun _ h9 => h9) rfl dX6_activity_124 ?_
          refine lv_aload_n hx hb dX6_activity_127 rfl (lv_at hl 0 rfl) ?_
          refine va_get (D := D) (ci := 6) (v := .int (nI Ac)) (C := RX6) (T := TX6) (N := 26) hx hb hts iX6 hown hK.1 hP 6 rfl rfl 1 (by decide) kw_0 (fun _ h9 => h9) rfl dX6_activity_128 ?_
          refine lv_iload hx hb dX6_activity_131 (lv_at hl 4 rfl) ?_
          refine wa_I hx hb hK hP hD hS 4 rfl (k := Ac) (by omega) (by decide) dX6_activity_133 (fun H locs hP hD hS => ?_)
          have hP : va_P D vwCl (wc (cA b3 cI 60 tr) (wc (cA b6 cI 100 (upd ki Ac k1)) (wc (cA b7 cI 100 (upd fr Ac f1)) (wc (cA b8 cI 100 (upd to Ac f2)) (wc (cA b9 cI 100 (upd le Ac f3)) (wc (cA b10 cZ 100 ke) (wc (cO y0 6 [.int (nI E), .int (nI Ac), .int (nI Gr), .ref b3, .ref b4, .ref b5, .ref b6, .ref b7, .ref b8, .ref b9, .ref b10, .ref b11, .ref b12, .ref b13, .ref b14, .ref b15, .ref b16, .ref b17, .ref b18, .ref b19, .ref b20, .ref b21, .ref b22, .int (nI rm), .ref b24, .ref b25]) wN))))))) H := hP
          have hD : va_D A (wc (cA b3 cI 60 tr) (wc (cA b6 cI 100 (upd ki Ac k1)) (wc (cA b7 cI 100 (upd fr Ac f1)) (wc (cA b8 cI 100 (upd to Ac f2)) (wc (cA b9 cI 100 (upd le Ac f3)) (wc (cA b10 cZ 100 ke) (wc (cO y0 6 [.int (nI E), .int (nI Ac), .int (nI Gr), .ref b3, .ref b4, .ref b5, .ref b6, .ref b7, .ref b8, .ref b9, .ref b10, .ref b11, .ref b12, .ref b13, .ref b14, .ref b15, .ref b16, .ref b17, .ref b18, .ref b19, .ref b20, .ref b21, .ref b22, .int (nI rm), .ref b24, .ref b25]) wN))))))) := hD
          refine lv_aload_n hx hb dX6_activity_134 rfl (lv_at hl 0 rfl) ?_
          refine va_get (D := D) (ci := 6) (v := .ref b10) (C := RX6) (T := TX6) (N := 26) hx hb hts iX6 hown hK.1 hP 6 rfl rfl 10 (by decide) kw_7 (fun _ h9 => h9) rfl dX6_activity_135 ?_
          refine lv_aload_n hx hb dX6_activity_138 rfl (lv_at hl 0 rfl) ?_
          refine va_get (D := D) (ci := 6) (v := .int (nI Ac)) (C := RX6) (T := TX6) (N := 26) hx hb hts iX6 hown hK.1 hP 6 rfl rfl 1 (by decide) kw_0 (fun _ h9 => h9) rfl dX6_activity_139 ?_
          refine lv_iconst (v := 1) hx hb dX6_activity_142 (by decide) ?_
          refine wa_Z hx hb hK hP hD hS 5 rfl (k := Ac) (by omega) (by decide) dX6_activity_143 (fun H locs hP hD hS => ?_)
          have hP : va_P D vwCl (wc (cA b3 cI 60 tr) (wc (cA b6 cI 100 (upd ki Ac k1)) (wc (cA b7 cI 100 (upd fr Ac f1)) (wc (cA b8 cI 100 (upd to Ac f2)) (wc (cA b9 cI 100 (upd le Ac f3)) (wc (cA b10 cZ 100 (upd ke Ac 1)) (wc (cO y0 6 [.int (nI E), .int (nI Ac), .int (nI Gr), .ref b3, .ref b4, .ref b5, .ref b6, .ref b7, .ref b8, .ref b9, .ref b10, .ref b11, .ref b12, .ref b13, .ref b14, .ref b15, .ref b16, .ref b17, .ref b18, .ref b19, .ref b20, .ref b21, .ref b22, .int (nI rm), .ref b24, .ref b25]) wN))))))) H := hP
          have hD : va_D A (wc (cA b3 cI 60 tr) (wc (cA b6 cI 100 (upd ki Ac k1)) (wc (cA b7 cI 100 (upd fr Ac f1)) (wc (cA b8 cI 100 (upd to Ac f2)) (wc (cA b9 cI 100 (upd le Ac f3)) (wc (cA b10 cZ 100 (upd ke Ac 1)) (wc (cO y0 6 [.int (nI E), .int (nI Ac), .int (nI Gr), .ref b3, .ref b4, .ref b5, .ref b6, .ref b7, .ref b8, .ref b9, .ref b10, .ref b11, .ref b12, .ref b13, .ref b14, .ref b15, .ref b16, .ref b17, .ref b18, .ref b19, .ref b20, .ref b21, .ref b22, .int (nI rm), .ref b24, .ref b25]) wN))))))) := hD
          refine lv_aload_n hx hb dX6_activity_144 rfl (lv_at hl 0 rfl) ?_
          refine lv_aload_n hx hb dX6_activity_145 rfl (lv_at hl 0 rfl) ?_
          refine va_get (D := D) (ci := 6) (v := .int (nI Ac)) (C := RX6) (T := TX6) (N := 26) hx hb hts iX6 hown hK.1 hP 6 rfl rfl 1 (by decide) kw_0 (fun _ h9 => h9) rfl dX6_activity_146 ?_
          refine lv_iconst (v := 1) hx hb dX6_activity_149 (by decide) ?_
          refine lv_iadd hx hb dX6_activity_150 ?_
          refine W.eq (g2 := F0 m 151 ls [.int (nI (Ac + 1)), .ref y0]) (by first | rw [nI_1] | rw [nI_add] | exact congrArg (fun z => F0 m 151 ls (Value.int z :: _)) (nI_add _ _)) ?_
          refine va_put (D := D) (ci := 6) (v := .int (nI (Ac + 1))) (ty := .int) (C := RX6) (T := TX6) (N := 26) hx hb hts iX6 tyX6 tyX6_ok nmX6 hown hK.1 hP hD hS 6 rfl rfl 1 (by decide) kw_0 (fun _ h9 => h9) rfl (by decide +kernel) rfl rfl (Nat.le_of_ble_eq_true rfl) dX6_activity_151 (fun H locs hP hD hS => ?_)
          have hP : va_P D vwCl (wc (cA b3 cI 60 tr) (wc (cA b6 cI 100 (upd ki Ac k1)) (wc (cA b7 cI 100 (upd fr Ac f1)) (wc (cA b8 cI 100 (upd to Ac f2)) (wc (cA b9 cI 100 (upd le Ac f3)) (wc (cA b10 cZ 100 (upd ke Ac 1)) (wc (cO y0 6 [.int (nI E), .int (nI (Ac + 1)), .int (nI Gr), .ref b3, .ref b4, .ref b5, .ref b6, .ref b7, .ref b8, .ref b9, .ref b10, .ref b11, .ref b12, .ref b13, .ref b14, .ref b15, .ref b16, .ref b17, .ref b18, .ref b19, .ref b20, .ref b21, .ref b22, .int (nI rm), .ref b24, .ref b25]) wN))))))) H := hP
          have hD : va_D A (wc (cA b3 cI 60 tr) (wc (cA b6 cI 100 (upd ki Ac k1)) (wc (cA b7 cI 100 (upd fr Ac f1)) (wc (cA b8 cI 100 (upd to Ac f2)) (wc (cA b9 cI 100 (upd le Ac f3)) (wc (cA b10 cZ 100 (upd ke Ac 1)) (wc (cO y0 6 [.int (nI E), .int (nI (Ac + 1)), .int (nI Gr), .ref b3, .ref b4, .ref b5, .ref b6, .ref b7, .ref b8, .ref b9, .ref b10, .ref b11, .ref b12, .ref b13, .ref b14, .ref b15, .ref b16, .ref b17, .ref b18, .ref b19, .ref b20, .ref b21, .ref b22, .int (nI rm), .ref b24, .ref b25]) wN))))))) := hD
          refine lv_aload_n hx hb dX6_activity_154 rfl (lv_at hl 0 rfl) ?_
          refine va_get (D := D) (ci := 6) (v := .int (nI (Ac + 1))) (C := RX6) (T := TX6) (N := 26) hx hb hts iX6 hown hK.1 hP 6 rfl rfl 1 (by decide) kw_0 (fun _ h9 => h9) rfl dX6_activity_155 ?_
          refine lv_iconst (v := 1) hx hb dX6_activity_158 (by decide) ?_
          refine lv_isub hx hb dX6_activity_159 ?_
          refine W.eq (g2 := F0 m 160 ls [.int (nI Ac)]) (by rw [nI_pred]) ?_
          exact en_i () hx hb hr hlocks hK (hP.sub [6, 0, 1, 2, 3, 4, 5] rfl) (hD.sub [6, 0, 1, 2, 3, 4, 5] (by decide) rfl) hS (Nat.le_of_ble_eq_true rfl) (Nat.le_of_ble_eq_true rfl) dX6_activity_160 (rfl)
        · refine lv_iload_n hx hb dX6_activity_78 rfl (lv_at hl 1 rfl) ?_
          refine lv_iconst (v := 1) hx hb dX6_activity_79 (by decide) ?_
          refine lv_icmp_ne (tgt := 87) hx hb dX6_activity_80 (by decide) (fun c_80 => ?_) (fun c_80 => ?_)
          · refine lv_iconst (v := 0) hx hb dX6_activity_87 (by decide) ?_
            refine lv_icmp_eq (tgt := 93) hx hb dX6_activity_88 (by decide) (fun c_88 => absurd c_88 (by decide)) (fun c_88 => ?_)
            exact (by first | exact c_66 (hok.2.2.2.2.2.mp (Or.inl c_75)) | exact c_66 (hok.2.2.2.2.2.mp (Or.inr c_80)) | exact (hok.2.2.2.2.2.mpr c_66).elim c_75 c_80 : False).elim
          · refine lv_iconst (v := 1) hx hb dX6_activity_83 (by decide) ?_
            refine lv_goto (tgt := 88) hx hb dX6_activity_84 (by decide) ?_
            refine lv_icmp_eq (tgt := 93) hx hb dX6_activity_88 (by decide) (fun c_88 => ?_) (fun c_88 => absurd (by decide) c_88)
            refine lv_aload_n hx hb dX6_activity_93 rfl (lv_at hl 0 rfl) ?_
            refine va_get (D := D) (ci := 6) (v := .ref b6) (C := RX6) (T := TX6) (N := 26) hx hb hts iX6 hown hK.1 hP 6 rfl rfl 6 (by decide) kw_3 (fun _ h9 => h9) rfl dX6_activity_94 ?_
            refine lv_aload_n hx hb dX6_activity_97 rfl (lv_at hl 0 rfl) ?_
            refine va_get (D := D) (ci := 6) (v := .int (nI Ac)) (C := RX6) (T := TX6) (N := 26) hx hb hts iX6 hown hK.1 hP 6 rfl rfl 1 (by decide) kw_0 (fun _ h9 => h9) rfl dX6_activity_98 ?_
            refine lv_iload_n hx hb dX6_activity_101 rfl (lv_at hl 1 rfl) ?_
            refine wa_I hx hb hK hP hD hS 1 rfl (k := Ac) (by omega) (by decide) dX6_activity_102 (fun H locs hP hD hS => ?_)
            have hP : va_P D vwCl (wc (cA b3 cI 60 tr) (wc (cA b6 cI 100 (upd ki Ac k1)) (wc (cA b7 cI 100 fr) (wc (cA b8 cI 100 to) (wc (cA b9 cI 100 le) (wc (cA b10 cZ 100 ke) (wc (cO y0 6 [.int (nI E), .int (nI Ac), .int (nI Gr), .ref b3, .ref b4, .ref b5, .ref b6, .ref b7, .ref b8, .ref b9, .ref b10, .ref b11, .ref b12, .ref b13, .ref b14, .ref b15, .ref b16, .ref b17, .ref b18, .ref b19, .ref b20, .ref b21, .ref b22, .int (nI rm), .ref b24, .ref b25]) wN))))))) H := hP
            have hD : va_D A (wc (cA b3 cI 60 tr) (wc (cA b6 cI 100 (upd ki Ac k1)) (wc (cA b7 cI 100 fr) (wc (cA b8 cI 100 to) (wc (cA b9 cI 100 le) (wc (cA b10 cZ 100 ke) (wc (cO y0 6 [.int (nI E), .int (nI Ac), .int (nI Gr), .ref b3, .ref b4, .ref b5, .ref b6, .ref b7, .ref b8, .ref b9, .ref b10, .ref b11, .ref b12, .ref b13, .ref b14, .ref b15, .ref b16, .ref b17, .ref b18, .ref b19, .ref b20, .ref b21, .ref b22, .int (nI rm), .ref b24, .ref b25]) wN))))))) := hD
            refine lv_aload_n hx hb dX6_activity_103 rfl (lv_at hl 0 rfl) ?_
            refine va_get (D := D) (ci := 6) (v := .ref b7) (C := RX6) (T := TX6) (N := 26) hx hb hts iX6 hown hK.1 hP 6 rfl rfl 7 (by decide) kw_4 (fun _ h9 => h9) rfl dX6_activity_104 ?_
            refine lv_aload_n hx hb dX6_activity_107 rfl (lv_at hl 0 rfl) ?_
            refine va_get (D := D) (ci := 6) (v := .int (nI Ac)) (C := RX6) (T := TX6) (N := 26) hx hb hts iX6 hown hK.1 hP 6 rfl rfl 1 (by decide) kw_0 (fun _ h9 => h9) rfl dX6_activity_108 ?_
            refine lv_iload_n hx hb dX6_activity_111 rfl (lv_at hl 2 rfl) ?_
            refine wa_I hx hb hK hP hD hS 2 rfl (k := Ac) (by omega) (by decide) dX6_activity_112 (fun H locs hP hD hS => ?_)
            have hP : va_P D vwCl (wc (cA b3 cI 60 tr) (wc (cA b6 cI 100 (upd ki Ac k1)) (wc (cA b7 cI 100 (upd fr Ac f1)) (wc (cA b8 cI 100 to) (wc (cA b9 cI 100 le) (wc (cA b10 cZ 100 ke) (wc (cO y0 6 [.int (nI E), .int (nI Ac), .int (nI Gr), .ref b3, .ref b4, .ref b5, .ref b6, .ref b7, .ref b8, .ref b9, .ref b10, .ref b11, .ref b12, .ref b13, .ref b14, .ref b15, .ref b16, .ref b17, .ref b18, .ref b19, .ref b20, .ref b21, .ref b22, .int (nI rm), .ref b24, .ref b25]) wN))))))) H := hP
            have hD : va_D A (wc (cA b3 cI 60 tr) (wc (cA b6 cI 100 (upd ki Ac k1)) (wc (cA b7 cI 100 (upd fr Ac f1)) (wc (cA b8 cI 100 to) (wc (cA b9 cI 100 le) (wc (cA b10 cZ 100 ke) (wc (cO y0 6 [.int (nI E), .int (nI Ac), .int (nI Gr), .ref b3, .ref b4, .ref b5, .ref b6, .ref b7, .ref b8, .ref b9, .ref b10, .ref b11, .ref b12, .ref b13, .ref b14, .ref b15, .ref b16, .ref b17, .ref b18, .ref b19, .ref b20, .ref b21, .ref b22, .int (nI rm), .ref b24, .ref b25]) wN))))))) := hD
            refine lv_aload_n hx hb dX6_activity_113 rfl (lv_at hl 0 rfl) ?_
            refine va_get (D := D) (ci := 6) (v := .ref b8) (C := RX6) (T := TX6) (N := 26) hx hb hts iX6 hown hK.1 hP 6 rfl rfl 8 (by decide) kw_5 (fun _ h9 => h9) rfl dX6_activity_114 ?_
            refine lv_aload_n hx hb dX6_activity_117 rfl (lv_at hl 0 rfl) ?_
            refine va_get (D := D) (ci := 6) (v := .int (nI Ac)) (C := RX6) (T := TX6) (N := 26) hx hb hts iX6 hown hK.1 hP 6 rfl rfl 1 (by decide) kw_0 (fun _ h9 => h9) rfl dX6_activity_118 ?_
            refine lv_iload_n hx hb dX6_activity_121 rfl (lv_at hl 3 rfl) ?_
            refine wa_I hx hb hK hP hD hS 3 rfl (k := Ac) (by omega) (by decide) dX6_activity_122 (fun H locs hP hD hS => ?_)
            have hP : va_P D vwCl (wc (cA b3 cI 60 tr) (wc (cA b6 cI 100 (upd ki Ac k1)) (wc (cA b7 cI 100 (upd fr Ac f1)) (wc (cA b8 cI 100 (upd to Ac f2)) (wc (cA b9 cI 100 le) (wc (cA b10 cZ 100 ke) (wc (cO y0 6 [.int (nI E), .int (nI Ac), .int (nI Gr), .ref b3, .ref b4, .ref b5, .ref b6, .ref b7, .ref b8, .ref b9, .ref b10, .ref b11, .ref b12, .ref b13, .ref b14, .ref b15, .ref b16, .ref b17, .ref b18, .ref b19, .ref b20, .ref b21, .ref b22, .int (nI rm), .ref b24, .ref b25]) wN))))))) H := hP
            have hD : va_D A (wc (cA b3 cI 60 tr) (wc (cA b6 cI 100 (upd ki Ac k1)) (wc (cA b7 cI 100 (upd fr Ac f1)) (wc (cA b8 cI 100 (upd to Ac f2)) (wc (cA b9 cI 100 le) (wc (cA b10 cZ 100 ke) (wc (cO y0 6 [.int (nI E), .int (nI Ac), .int (nI Gr), .ref b3, .ref b4, .ref b5, .ref b6, .ref b7, .ref b8, .ref b9, .ref b10, .ref b11, .ref b12, .ref b13, .ref b14, .ref b15, .ref b16, .ref b17, .ref b18, .ref b19, .ref b20, .ref b21, .ref b22, .int (nI rm), .ref b24, .ref b25]) wN))))))) := hD
            refine lv_aload_n hx hb dX6_activity_123 rfl (lv_at hl 0 rfl) ?_
            refine va_get (D := D) (ci := 6) (v := .ref b9) (C := RX6) (T := TX6) (N := 26) hx hb hts iX6 hown hK.1 hP 6 rfl rfl 9 (by decide) kw_6 (fun _ h9 => h9) rfl dX6_activity_124 ?_
            refine lv_aload_n hx hb dX6_activity_127 rfl (lv_at hl 0 rfl) ?_
            refine va_get (D := D) (ci := 6) (v := .int (nI Ac)) (C := RX6) (T := TX6) (N := 26) hx hb hts iX6 hown hK.1 hP 6 rfl rfl 1 (by decide) kw_0 (fun _ h9 => h9) rfl dX6_activity_128 ?_
            refine lv_iload hx hb dX6_activity_131 (lv_at hl 4 rfl) ?_
            refine wa_I hx hb hK hP hD hS 4 rfl (k := Ac) (by omega) (by decide) dX6_activity_133 (fun H locs hP hD hS => ?_)
            have hP : va_P D vwCl (wc (cA b3 cI 60 tr) (wc (cA b6 cI 100 (upd ki Ac k1)) (wc (cA b7 cI 100 (upd fr Ac f1)) (wc (cA b8 cI 100 (upd to Ac f2)) (wc (cA b9 cI 100 (upd le Ac f3)) (wc (cA b10 cZ 100 ke) (wc (cO y0 6 [.int (nI E), .int (nI Ac), .int (nI Gr), .ref b3, .ref b4, .ref b5, .ref b6, .ref b7, .ref b8, .ref b9, .ref b10, .ref b11, .ref b12, .ref b13, .ref b14, .ref b15, .ref b16, .ref b17, .ref b18, .ref b19, .ref b20, .ref b21, .ref b22, .int (nI rm), .ref b24, .ref b25]) wN))))))) H := hP
            have hD : va_D A (wc (cA b3 cI 60 tr) (wc (cA b6 cI 100 (upd ki Ac k1)) (wc (cA b7 cI 100 (upd fr Ac f1)) (wc (cA b8 cI 100 (upd to Ac f2)) (wc (cA b9 cI 100 (upd le Ac f3)) (wc (cA b10 cZ 100 ke) (wc (cO y0 6 [.int (nI E), .int (nI Ac), .int (nI Gr), .ref b3, .ref b4, .ref b5, .ref b6, .ref b7, .ref b8, .ref b9, .ref b10, .ref b11, .ref b12, .ref b13, .ref b14, .ref b15, .ref b16, .ref b17, .ref b18, .ref b19, .ref b20, .ref b21, .ref b22, .int (nI rm), .ref b24, .ref b25]) wN))))))) := hD
            refine lv_aload_n hx hb dX6_activity_134 rfl (lv_at hl 0 rfl) ?_
            refine va_get (D := D) (ci := 6) (v := .ref b10) (C := RX6) (T := TX6) (N := 26) hx hb hts iX6 hown hK.1 hP 6 rfl rfl 10 (by decide) kw_7 (fun _ h9 => h9) rfl dX6_activity_135 ?_
            refine lv_aload_n hx hb dX6_activity_138 rfl (lv_at hl 0 rfl) ?_
            refine va_get (D := D) (ci := 6) (v := .int (nI Ac)) (C := RX6) (T := TX6) (N := 26) hx hb hts iX6 hown hK.1 hP 6 rfl rfl 1 (by decide) kw_0 (fun _ h9 => h9) rfl dX6_activity_139 ?_
            refine lv_iconst (v := 1) hx hb dX6_activity_142 (by decide) ?_
            refine wa_Z hx hb hK hP hD hS 5 rfl (k := Ac) (by omega) (by decide) dX6_activity_143 (fun H locs hP hD hS => ?_)
            have hP : va_P D vwCl (wc (cA b3 cI 60 tr) (wc (cA b6 cI 100 (upd ki Ac k1)) (wc (cA b7 cI 100 (upd fr Ac f1)) (wc (cA b8 cI 100 (upd to Ac f2)) (wc (cA b9 cI 100 (upd le Ac f3)) (wc (cA b10 cZ 100 (upd ke Ac 1)) (wc (cO y0 6 [.int (nI E), .int (nI Ac), .int (nI Gr), .ref b3, .ref b4, .ref b5, .ref b6, .ref b7, .ref b8, .ref b9, .ref b10, .ref b11, .ref b12, .ref b13, .ref b14, .ref b15, .ref b16, .ref b17, .ref b18, .ref b19, .ref b20, .ref b21, .ref b22, .int (nI rm), .ref b24, .ref b25]) wN))))))) H := hP
            have hD : va_D A (wc (cA b3 cI 60 tr) (wc (cA b6 cI 100 (upd ki Ac k1)) (wc (cA b7 cI 100 (upd fr Ac f1)) (wc (cA b8 cI 100 (upd to Ac f2)) (wc (cA b9 cI 100 (upd le Ac f3)) (wc (cA b10 cZ 100 (upd ke Ac 1)) (wc (cO y0 6 [.int (nI E), .int (nI Ac), .int (nI Gr), .ref b3, .ref b4, .ref b5, .ref b6, .ref b7, .ref b8, .ref b9, .ref b10, .ref b11, .ref b12, .ref b13, .ref b14, .ref b15, .ref b16, .ref b17, .ref b18, .ref b19, .ref b20, .ref b21, .ref b22, .int (nI rm), .ref b24, .ref b25]) wN))))))) := hD
            refine lv_aload_n hx hb dX6_activity_144 rfl (lv_at hl 0 rfl) ?_
            refine lv_aload_n hx hb dX6_activity_145 rfl (lv_at hl 0 rfl) ?_
            refine va_get (D := D) (ci := 6) (v := .int (nI Ac)) (C := RX6) (T := TX6) (N := 26) hx hb hts iX6 hown hK.1 hP 6 rfl rfl 1 (by decide) kw_0 (fun _ h9 => h9) rfl dX6_activity_146 ?_
            refine lv_iconst (v := 1) hx hb dX6_activity_149 (by decide) ?_
            refine lv_iadd hx hb dX6_activity_150 ?_
            refine W.eq (g2 := F0 m 151 ls [.int (nI (Ac + 1)), .ref y0]) (by first | rw [nI_1] | rw [nI_add] | exact congrArg (fun z => F0 m 151 ls (Value.int z :: _)) (nI_add _ _)) ?_
            refine va_put (D := D) (ci := 6) (v := .int (nI (Ac + 1))) (ty := .int) (C := RX6) (T := TX6) (N := 26) hx hb hts iX6 tyX6 tyX6_ok nmX6 hown hK.1 hP hD hS 6 rfl rfl 1 (by decide) kw_0 (fun _ h9 => h9) rfl (by decide +kernel) rfl rfl (Nat.le_of_ble_eq_true rfl) dX6_activity_151 (fun H locs hP hD hS => ?_)
            have hP : va_P D vwCl (wc (cA b3 cI 60 tr) (wc (cA b6 cI 100 (upd ki Ac k1)) (wc (cA b7 cI 100 (upd fr Ac f1)) (wc (cA b8 cI 100 (upd to Ac f2)) (wc (cA b9 cI 100 (upd le Ac f3)) (wc (cA b10 cZ 100 (upd ke Ac 1)) (wc (cO y0 6 [.int (nI E), .int (nI (Ac + 1)), .int (nI Gr), .ref b3, .ref b4, .ref b5, .ref b6, .ref b7, .ref b8, .ref b9, .ref b10, .ref b11, .ref b12, .ref b13, .ref b14, .ref b15, .ref b16, .ref b17, .ref b18, .ref b19, .ref b20, .ref b21, .ref b22, .int (nI rm), .ref b24, .ref b25]) wN))))))) H := hP
            have hD : va_D A (wc (cA b3 cI 60 tr) (wc (cA b6 cI 100 (upd ki Ac k1)) (wc (cA b7 cI 100 (upd fr Ac f1)) (wc (cA b8 cI 100 (upd to Ac f2)) (wc (cA b9 cI 100 (upd le Ac f3)) (wc (cA b10 cZ 100 (upd ke Ac 1)) (wc (cO y0 6 [.int (nI E), .int (nI (Ac + 1)), .int (nI Gr), .ref b3, .ref b4, .ref b5, .ref b6, .ref b7, .ref b8, .ref b9, .ref b10, .ref b11, .ref b12, .ref b13, .ref b14, .ref b15, .ref b16, .ref b17, .ref b18, .ref b19, .ref b20, .ref b21, .ref b22, .int (nI rm), .ref b24, .ref b25]) wN))))))) := hD
            refine lv_aload_n hx hb dX6_activity_154 rfl (lv_at hl 0 rfl) ?_
            refine va_get (D := D) (ci := 6) (v := .int (nI (Ac + 1))) (C := RX6) (T := TX6) (N := 26) hx hb hts iX6 hown hK.1 hP 6 rfl rfl 1 (by decide) kw_0 (fun _ h9 => h9) rfl dX6_activity_155 ?_
            refine lv_iconst (v := 1) hx hb dX6_activity_158 (by decide) ?_
            refine lv_isub hx hb dX6_activity_159 ?_
            refine W.eq (g2 := F0 m 160 ls [.int (nI Ac)]) (by rw [nI_pred]) ?_
            exact en_i () hx hb hr hlocks hK (hP.sub [6, 0, 1, 2, 3, 4, 5] rfl) (hD.sub [6, 0, 1, 2, 3, 4, 5] (by decide) rfl) hS (Nat.le_of_ble_eq_true rfl) (Nat.le_of_ble_eq_true rfl) dX6_activity_160 (rfl)
    · exact (hf_19 hok.2.2.2.1).elim
  · exact (hf_11 hok.2.2.1).elim
set_option maxHeartbeats 300000 in
set_option maxRecDepth 100000 in
theorem c_m_activity_no (l : Launch) (D : va_G) (cI cZ cR : ClassId) (y0 : Nat) (b3 : Nat) (b4 : Nat) (b5 : Nat) (b6 : Nat) (b7 : Nat) (b8 : Nat) (b9 : Nat) (b10 : Nat) (b11 : Nat) (b12 : Nat) (b13 : Nat) (b14 : Nat) (b15 : Nat) (b16 : Nat) (b17 : Nat) (b18 : Nat) (b19 : Nat) (b20 : Nat) (b21 : Nat) (b22 : Nat) (b24 : Nat) (b25 : Nat) (E : Nat) (Ac : Nat) (Gr : Nat) (rm : Nat) (tr : Nat → Int32) (ki : Nat → Int32) (fr : Nat → Int32) (to : Nat → Int32) (le : Nat → Int32) (ke : Nat → Int32) (k1 : Int32) (f1 : Int32) (f2 : Int32) (f3 : Int32) (hE : E ≤ 60) (hAc : Ac ≤ 100) (hno : ¬ (((0 ≤ k1 ∧ k1 ≤ 4) ∧ (0 ≤ f3 ∧ f3 ≤ 500) ∧ (vp_in f1 E ∧ vp_in f2 E ∧ ¬ f1 = f2 ∧ ((k1 = 0 ∨ k1 = 1) ↔ tr f1.toNatClampNeg = tr f2.toNatClampNeg))) ∧ Ac < 100)) : CI l D cI cZ cR yX6_activity wsX6_activity { frames := 1, cells := 0, slots := 0, locals := 21 } [.ref y0, .int k1, .int f1, .int f2, .int f3] (wc (cO y0 6 [.int (nI E), .int (nI Ac), .int (nI Gr), .ref b3, .ref b4, .ref b5, .ref b6, .ref b7, .ref b8, .ref b9, .ref b10, .ref b11, .ref b12, .ref b13, .ref b14, .ref b15, .ref b16, .ref b17, .ref b18, .ref b19, .ref b20, .ref b21, .ref b22, .int (nI rm), .ref b24, .ref b25]) (wc (cA b3 cI 60 tr) (wc (cA b6 cI 100 ki) (wc (cA b7 cI 100 fr) (wc (cA b8 cI 100 to) (wc (cA b9 cI 100 le) (wc (cA b10 cZ 100 ke) wN))))))) (fun (r : Int32) (u : Unit) => r = (-1)) (fun (u : Unit) => (wc (cO y0 6 [.int (nI E), .int (nI Ac), .int (nI Gr), .ref b3, .ref b4, .ref b5, .ref b6, .ref b7, .ref b8, .ref b9, .ref b10, .ref b11, .ref b12, .ref b13, .ref b14, .ref b15, .ref b16, .ref b17, .ref b18, .ref b19, .ref b20, .ref b21, .ref b22, .int (nI rm), .ref b24, .ref b25]) (wc (cA b3 cI 60 tr) (wc (cA b6 cI 100 ki) (wc (cA b7 cI 100 fr) (wc (cA b8 cI 100 to) (wc (cA b9 cI 100 le) (wc (cA b10 cZ 100 ke) wN)))))))) := by
  intro sz9
  refine en_W (Qc := fun A => va_Qi (fun (r : Int32) (u : Unit) => r = (-1)) (sB D cI cZ cR (fun (u : Unit) => (wc (cO y0 6 [.int (nI E), .int (nI Ac), .int (nI Gr), .ref b3, .ref b4, .ref b5, .ref b6, .ref b7, .ref b8, .ref b9, .ref b10, .ref b11, .ref b12, .ref b13, .ref b14, .ref b15, .ref b16, .ref b17, .ref b18, .ref b19, .ref b20, .ref b21, .ref b22, .int (nI rm), .ref b24, .ref b25]) (wc (cA b3 cI 60 tr) (wc (cA b6 cI 100 ki) (wc (cA b7 cI 100 fr) (wc (cA b8 cI 100 to) (wc (cA b9 cI 100 le) (wc (cA b10 cZ 100 ke) wN)))))))) A) A) (cc := cX6_activity) (maxL := 5) (ret := (some .int)) (by decide) rfl (Nat.le_of_ble_eq_true rfl) ?_
  intro p e s m below meth c A ls hx hb hr hts hown hlocks hin hml hK hP hD hS hA hl
  have hown : s.vm.findClass RX6 = some m.cls := hown
  have hl : lv_has ls 5 [(0, .ref y0), (1, .int k1), (2, .int f1), (3, .int f2), (4, .int f3)] := hl
  have kw_0 := hts (.fieldLink RX6 81 "DelayDeskModel" "activities" "I") (List.mem_of_getElem? (i := 1) rfl)
  have iX6 : ∀ w ∈ u_ws RX6 TX6 26, w ∈ wsX6_activity := fun _ h9 => (List.mem_cons_of_mem _ (List.mem_append_right _ h9))
  have kw_2 := hts (.fieldLink RX6 7 "DelayDeskModel" "train" "[I") (List.mem_of_getElem? (i := 2) rfl)
  refine lv_iload_n hx hb dX6_activity_0 rfl (lv_at hl 1 rfl) ?_
  refine lv_if_lt (tgt := 52) hx hb dX6_activity_1 (by decide) (fun c_1 => ?_) (fun c_1 => ?_)
  · refine lv_iconst (v := (-1)) hx hb dX6_activity_52 (by decide) ?_
    exact en_i () hx hb hr hlocks hK (hP.sub [0, 1, 2, 3, 4, 5, 6] rfl) (hD.sub [0, 1, 2, 3, 4, 5, 6] (by decide) rfl) hS (Nat.le_of_ble_eq_true rfl) (Nat.le_of_ble_eq_true rfl) dX6_activity_53 (rfl)
  · refine lv_iload_n hx hb dX6_activity_4 rfl (lv_at hl 1 rfl) ?_
    refine lv_iconst (v := 4) hx hb dX6_activity_5 (by decide) ?_
    refine lv_icmp_gt (tgt := 52) hx hb dX6_activity_6 (by decide) (fun c_6 => ?_) (fun c_6 => ?_)
    · refine lv_iconst (v := (-1)) hx hb dX6_activity_52 (by decide) ?_
      exact en_i () hx hb hr hlocks hK (hP.sub [0, 1, 2, 3, 4, 5, 6] rfl) (hD.sub [0, 1, 2, 3, 4, 5, 6] (by decide) rfl) hS (Nat.le_of_ble_eq_true rfl) (Nat.le_of_ble_eq_true rfl) dX6_activity_53 (rfl)
    · refine lv_aload_n hx hb dX6_activity_9 rfl (lv_at hl 0 rfl) ?_
      refine lv_iload_n hx hb dX6_activity_10 rfl (lv_at hl 2 rfl) ?_
      refine cl_i (wr := (wc (cA b3 cI 60 tr) (wc (cA b6 cI 100 ki) (wc (cA b7 cI 100 fr) (wc (cA b8 cI 100 to) (wc (cA b9 cI 100 le) (wc (cA b10 cZ 100 ke) wN))))))) (va_runV (As := [.int f1]) (rest := []) ⟨hx, hb, hml, hown, hts⟩ (c_m_isEvent l D cI cZ cR y0 b3 b4 b5 b6 b7 b8 b9 b10 b11 b12 b13 b14 b15 b16 b17 b18 b19 b20 b21 b22 b24 b25 E Ac Gr rm f1 (by omega) s.heap.size) (cwV 1 hts gX6_activity_X6_isEvent rfl rfl rfl hd_X6_isEvent ⟨Nat.le_of_ble_eq_true rfl, Nat.le_of_ble_eq_true rfl⟩) (pV 6 0 hK hP hD [0] rfl (by decide) rfl rfl) rfl rfl hl.1 rfl (lv_room (Nat.le_of_ble_eq_true rfl)) dX6_activity_11 ⟨Nat.le_of_ble_eq_true rfl, Nat.le_of_ble_eq_true rfl⟩) hP hD hS hA [0] [1, 2, 3, 4, 5, 6] rfl rfl (by decide) (by decide) (fun r_11 u_11 H locs hw_11 hP hD hS => ?_)
      have hP : va_P D vwCl (wc (cA b3 cI 60 tr) (wc (cA b6 cI 100 ki) (wc (cA b7 cI 100 fr) (wc (cA b8 cI 100 to) (wc (cA b9 cI 100 le) (wc (cA b10 cZ 100 ke) (wc (cO y0 6 [.int (nI E), .int (nI Ac), .int (nI Gr), .ref b3, .ref b4, .ref b5, .ref b6, .ref b7, .ref b8, .ref b9, .ref b10, .ref b11, .ref b12, .ref b13, .ref b14, .ref b15, .ref b16, .ref b17, .ref b18, .ref b19, .ref b20, .ref b21, .ref b22, .int (nI rm), .ref b24, .ref b25]) wN))))))) H := hP
      have hD : va_D A (wc (cA b3 cI 60 tr) (wc (cA b6 cI 100 ki) (wc (cA b7 cI 100 fr) (wc (cA b8 cI 100 to) (wc (cA b9 cI 100 le) (wc (cA b10 cZ 100 ke) (wc (cO y0 6 [.int (nI E), .int (nI Ac), .int (nI Gr), .ref b3, .ref b4, .ref b5, .ref b6, .ref b7, .ref b8, .ref b9, .ref b10, .ref b11, .ref b12, .ref b13, .ref b14, .ref b15, .ref b16, .ref b17, .ref b18, .ref b19, .ref b20, .ref b21, .ref b22, .int (nI rm), .ref b24, .ref b25]) wN))))))) := hD
      rcases hw_11 with ⟨rfl, hf_11⟩ | ⟨rfl, hf_11⟩
      · refine lv_if_eq (tgt := 52) hx hb dX6_activity_14 (by decide) (fun c_14 => absurd c_14 (by decide)) (fun c_14 => ?_)
        refine lv_aload_n hx hb dX6_activity_17 rfl (lv_at hl 0 rfl) ?_
        refine lv_iload_n hx hb dX6_activity_18 rfl (lv_at hl 3 rfl) ?_
        refine cl_i (wr := (wc (cA b3 cI 60 tr) (wc (cA b6 cI 100 ki) (wc (cA b7 cI 100 fr) (wc (cA b8 cI 100 to) (wc (cA b9 cI 100 le) (wc (cA b10 cZ 100 ke) wN))))))) (va_runV (As := [.int f2]) (rest := []) ⟨hx, hb, hml, hown, hts⟩ (c_m_isEvent l D cI cZ cR y0 b3 b4 b5 b6 b7 b8 b9 b10 b11 b12 b13 b14 b15 b16 b17 b18 b19 b20 b21 b22 b24 b25 E Ac Gr rm f2 (by omega) H.size) (cwV 1 hts gX6_activity_X6_isEvent rfl rfl rfl hd_X6_isEvent ⟨Nat.le_of_ble_eq_true rfl, Nat.le_of_ble_eq_true rfl⟩) (pV 6 6 hK hP hD [6] rfl (by decide) rfl rfl) rfl rfl hl.1 rfl (lv_room (Nat.le_of_ble_eq_true rfl)) dX6_activity_19 ⟨Nat.le_of_ble_eq_true rfl, Nat.le_of_ble_eq_true rfl⟩) hP hD hS hA [6] [0, 1, 2, 3, 4, 5] rfl rfl (by decide) (by decide) (fun r_19 u_19 H locs hw_19 hP hD hS => ?_)
        have hP : va_P D vwCl (wc (cA b3 cI 60 tr) (wc (cA b6 cI 100 ki) (wc (cA b7 cI 100 fr) (wc (cA b8 cI 100 to) (wc (cA b9 cI 100 le) (wc (cA b10 cZ 100 ke) (wc (cO y0 6 [.int (nI E), .int (nI Ac), .int (nI Gr), .ref b3, .ref b4, .ref b5, .ref b6, .ref b7, .ref b8, .ref b9, .ref b10, .ref b11, .ref b12, .ref b13, .ref b14, .ref b15, .ref b16, .ref b17, .ref b18, .ref b19, .ref b20, .ref b21, .ref b22, .int (nI rm), .ref b24, .ref b25]) wN))))))) H := hP
        have hD : va_D A (wc (cA b3 cI 60 tr) (wc (cA b6 cI 100 ki) (wc (cA b7 cI 100 fr) (wc (cA b8 cI 100 to) (wc (cA b9 cI 100 le) (wc (cA b10 cZ 100 ke) (wc (cO y0 6 [.int (nI E), .int (nI Ac), .int (nI Gr), .ref b3, .ref b4, .ref b5, .ref b6, .ref b7, .ref b8, .ref b9, .ref b10, .ref b11, .ref b12, .ref b13, .ref b14, .ref b15, .ref b16, .ref b17, .ref b18, .ref b19, .ref b20, .ref b21, .ref b22, .int (nI rm), .ref b24, .ref b25]) wN))))))) := hD
        rcases hw_19 with ⟨rfl, hf_19⟩ | ⟨rfl, hf_19⟩
        · refine lv_if_eq (tgt := 52) hx hb dX6_activity_22 (by decide) (fun c_22 => absurd c_22 (by decide)) (fun c_22 => ?_)
          refine lv_iload_n hx hb dX6_activity_25 rfl (lv_at hl 2 rfl) ?_
          refine lv_iload_n hx hb dX6_activity_26 rfl (lv_at hl 3 rfl) ?_
          refine lv_icmp_eq (tgt := 52) hx hb dX6_activity_27 (by decide) (fun c_27 => ?_) (fun c_27 => ?_)
          · refine lv_iconst (v := (-1)) hx hb dX6_activity_52 (by decide) ?_
            exact en_i () hx hb hr hlocks hK (hP.sub [6, 0, 1, 2, 3, 4, 5] rfl) (hD.sub [6, 0, 1, 2, 3, 4, 5] (by decide) rfl) hS (Nat.le_of_ble_eq_true rfl) (Nat.le_of_ble_eq_true rfl) dX6_activity_53 (rfl)
          · refine lv_iload hx hb dX6_activity_30 (lv_at hl 4 rfl) ?_
            refine lv_if_lt (tgt := 52) hx hb dX6_activity_32 (by decide) (fun c_32 => ?_) (fun c_32 => ?_)
            · refine lv_iconst (v := (-1)) hx hb dX6_activity_52 (by decide) ?_
              exact en_i () hx hb hr hlocks hK (hP.sub [6, 0, 1, 2, 3, 4, 5] rfl) (hD.sub [6, 0, 1, 2, 3, 4, 5] (by decide) rfl) hS (Nat.le_of_ble_eq_true rfl) (Nat.le_of_ble_eq_true rfl) dX6_activity_53 (rfl)
            · refine lv_iload hx hb dX6_activity_35 (lv_at hl 4 rfl) ?_
              refine lv_sipush (v := 500) hx hb dX6_activity_37 (by decide) ?_
              refine lv_icmp_gt (tgt := 52) hx hb dX6_activity_40 (by decide) (fun c_40 => ?_) (fun c_40 => ?_)
              · refine lv_iconst (v := (-1)) hx hb dX6_activity_52 (by decide) ?_
                exact en_i () hx hb hr hlocks hK (hP.sub [6, 0, 1, 2, 3, 4, 5] rfl) (hD.sub [6, 0, 1, 2, 3, 4, 5] (by decide) rfl) hS (Nat.le_of_ble_eq_true rfl) (Nat.le_of_ble_eq_true rfl) dX6_activity_53 (rfl)
              · refine lv_aload_n hx hb dX6_activity_43 rfl (lv_at hl 0 rfl) ?_
                refine va_get (D := D) (ci := 6) (v := .int (nI Ac)) (C := RX6) (T := TX6) (N := 26) hx hb hts iX6 hown hK.1 hP 6 rfl rfl 1 (by decide) kw_0 (fun _ h9 => h9) rfl dX6_activity_44 ?_
                refine lv_bipush (v := 100) hx hb dX6_activity_47 (by decide) ?_
                refine lv_icmp_ne (tgt := 54) hx hb dX6_activity_49 (by decide) (fun c_49 => ?_) (fun c_49 => ?_)
                · have g_49 : ¬ Ac = 100 := fun q => c_49 ((nI_eq (a := Ac) (b := 100) (by omega) (by omega)).mpr q)
                  refine lv_aload_n hx hb dX6_activity_54 rfl (lv_at hl 0 rfl) ?_
                  refine va_get (D := D) (ci := 6) (v := .ref b3) (C := RX6) (T := TX6) (N := 26) hx hb hts iX6 hown hK.1 hP 6 rfl rfl 3 (by decide) kw_2 (fun _ h9 => h9) rfl dX6_activity_55 ?_
                  refine lv_iload_n hx hb dX6_activity_58 rfl (lv_at hl 2 rfl) ?_
                  refine va_iald hx hb hK.1 hP 0 0 rfl rfl (by first | with_reducible assumption | exact vp_le (by with_reducible assumption) (by omega)) dX6_activity_59 ?_
                  refine lv_aload_n hx hb dX6_activity_60 rfl (lv_at hl 0 rfl) ?_
                  refine va_get (D := D) (ci := 6) (v := .ref b3) (C := RX6) (T := TX6) (N := 26) hx hb hts iX6 hown hK.1 hP 6 rfl rfl 3 (by decide) kw_2 (fun _ h9 => h9) rfl dX6_activity_61 ?_
                  refine lv_iload_n hx hb dX6_activity_64 rfl (lv_at hl 3 rfl) ?_
                  refine va_iald hx hb hK.1 hP 0 0 rfl rfl (by first | with_reducible assumption | exact vp_le (by with_reducible assumption) (by omega)) dX6_activity_65 ?_
                  refine lv_icmp_ne (tgt := 73) hx hb dX6_activity_66 (by decide) (fun c_66 => ?_) (fun c_66 => ?_)
                  · refine lv_iconst (v := 0) hx hb dX6_activity_73 (by decide) ?_
                    refine lv_iload_n hx hb dX6_activity_74 rfl (lv_at hl 1 rfl) ?_
                    refine lv_if_eq (tgt := 83) hx hb dX6_activity_75 (by decide) (fun c_75 => ?_) (fun c_75 => ?_)
                    · refine lv_iconst (v := 1) hx hb dX6_activity_83 (by decide) ?_
                      refine lv_goto (tgt := 88) hx hb dX6_activity_84 (by decide) ?_
                      refine lv_icmp_eq (tgt := 93) hx hb dX6_activity_88 (by decide) (fun c_88 => absurd c_88 (by decide)) (fun c_88 => ?_)
                      refine lv_iconst (v := (-1)) hx hb dX6_activity_91 (by decide) ?_
                      exact en_i () hx hb hr hlocks hK (hP.sub [6, 0, 1, 2, 3, 4, 5] rfl) (hD.sub [6, 0, 1, 2, 3, 4, 5] (by decide) rfl) hS (Nat.le_of_ble_eq_true rfl) (Nat.le_of_ble_eq_true rfl) dX6_activity_92 (rfl)
                    · refine lv_iload_n hx hb dX6_activity_78 rfl (lv_at hl 1 rfl) ?_
                      refine lv_iconst (v := 1) hx hb dX6_activity_79 (by decide) ?_
                      refine lv_icmp_ne (tgt := 87) hx hb dX6_activity_80 (by decide) (fun c_80 => ?_) (fun c_80 => ?_)
                      · refine lv_iconst (v := 0) hx hb dX6_activity_87 (by decide) ?_
                        refine lv_icmp_eq (tgt := 93) hx hb dX6_activity_88 (by decide) (fun c_88 => ?_) (fun c_88 => absurd (by decide) c_88)
                        exact (hno ⟨⟨ii_1 c_1 c_6, ii_1 c_32 c_40, hf_11, hf_19, c_27, (by first | exact ⟨fun _ => c_66, fun _ => Or.inl c_75⟩ | exact ⟨fun _ => c_66, fun _ => Or.inr c_80⟩ | exact ⟨fun h => (h.elim c_75 c_80).elim, fun h => (c_66 h).elim⟩)⟩, Nat.lt_of_le_of_ne hAc (fun q => c_49 (by subst q; rfl))⟩ : False).elim
                      · refine lv_iconst (v := 1) hx hb dX6_activity_83 (by decide) ?_
                        refine lv_goto (tgt := 88) hx hb dX6_activity_84 (by decide) ?_
                        refine lv_icmp_eq (tgt := 93) hx hb dX6_activity_88 (by decide) (fun c_88 => absurd c_88 (by decide)) (fun c_88 => ?_)
                        refine lv_iconst (v := (-1)) hx hb dX6_activity_91 (by decide) ?_
                        exact en_i () hx hb hr hlocks hK (hP.sub [6, 0, 1, 2, 3, 4, 5] rfl) (hD.sub [6, 0, 1, 2, 3, 4, 5] (by decide) rfl) hS (Nat.le_of_ble_eq_true rfl) (Nat.le_of_ble_eq_true rfl) dX6_activity_92 (rfl)
                  · refine lv_iconst (v := 1) hx hb dX6_activity_69 (by decide) ?_
                    refine lv_goto (tgt := 74) hx hb dX6_activity_70 (by decide) ?_
                    refine lv_iload_n hx hb dX6_activity_74 rfl (lv_at hl 1 rfl) ?_
                    refine lv_if_eq (tgt := 83) hx hb dX6_activity_75 (by decide) (fun c_75 => ?_) (fun c_75 => ?_)
                    · refine lv_iconst (v := 1) hx hb dX6_activity_83 (by decide) ?_
                      refine lv_goto (tgt := 88) hx hb dX6_activity_84 (by decide) ?_
                      refine lv_icmp_eq (tgt := 93) hx hb dX6_activity_88 (by decide) (fun c_88 => ?_) (fun c_88 => absurd (by decide) c_88)
                      exact (hno ⟨⟨ii_1 c_1 c_6, ii_1 c_32 c_40, hf_11, hf_19, c_27, (by first | exact ⟨fun _ => c_66, fun _ => Or.inl c_75⟩ | exact ⟨fun _ => c_66, fun _ => Or.inr c_80⟩ | exact ⟨fun h => (h.elim c_75 c_80).elim, fun h => (c_66 h).elim⟩)⟩, Nat.lt_of_le_of_ne hAc (fun q => c_49 (by subst q; rfl))⟩ : False).elim
                    · refine lv_iload_n hx hb dX6_activity_78 rfl (lv_at hl 1 rfl) ?_
                      refine lv_iconst (v := 1) hx hb dX6_activity_79 (by decide) ?_
                      refine lv_icmp_ne (tgt := 87) hx hb dX6_activity_80 (by decide) (fun c_80 => ?_) (fun c_80 => ?_)
                      · refine lv_iconst (v := 0) hx hb dX6_activity_87 (by decide) ?_
                        refine lv_icmp_eq (tgt := 93) hx hb dX6_activity_88 (by decide) (fun c_88 => absurd c_88 (by decide)) (fun c_88 => ?_)
                        refine lv_iconst (v := (-1)) hx hb dX6_activity_91 (by decide) ?_
                        exact en_i () hx hb hr hlocks hK (hP.sub [6, 0, 1, 2, 3, 4, 5] rfl) (hD.sub [6, 0, 1, 2, 3, 4, 5] (by decide) rfl) hS (Nat.le_of_ble_eq_true rfl) (Nat.le_of_ble_eq_true rfl) dX6_activity_92 (rfl)
                      · refine lv_iconst (v := 1) hx hb dX6_activity_83 (by decide) ?_
                        refine lv_goto (tgt := 88) hx hb dX6_activity_84 (by decide) ?_
                        refine lv_icmp_eq (tgt := 93) hx hb dX6_activity_88 (by decide) (fun c_88 => ?_) (fun c_88 => absurd (by decide) c_88)
                        exact (hno ⟨⟨ii_1 c_1 c_6, ii_1 c_32 c_40, hf_11, hf_19, c_27, (by first | exact ⟨fun _ => c_66, fun _ => Or.inl c_75⟩ | exact ⟨fun _ => c_66, fun _ => Or.inr c_80⟩ | exact ⟨fun h => (h.elim c_75 c_80).elim, fun h => (c_66 h).elim⟩)⟩, Nat.lt_of_le_of_ne hAc (fun q => c_49 (by subst q; rfl))⟩ : False).elim
                · have g_49 : Ac = 100 := (nI_eq (a := Ac) (b := 100) (by omega) (by omega)).mp c_49
                  refine lv_iconst (v := (-1)) hx hb dX6_activity_52 (by decide) ?_
                  exact en_i () hx hb hr hlocks hK (hP.sub [6, 0, 1, 2, 3, 4, 5] rfl) (hD.sub [6, 0, 1, 2, 3, 4, 5] (by decide) rfl) hS (Nat.le_of_ble_eq_true rfl) (Nat.le_of_ble_eq_true rfl) dX6_activity_53 (rfl)
        · refine lv_if_eq (tgt := 52) hx hb dX6_activity_22 (by decide) (fun c_22 => ?_) (fun c_22 => absurd (by decide) c_22)
          refine lv_iconst (v := (-1)) hx hb dX6_activity_52 (by decide) ?_
          exact en_i () hx hb hr hlocks hK (hP.sub [6, 0, 1, 2, 3, 4, 5] rfl) (hD.sub [6, 0, 1, 2, 3, 4, 5] (by decide) rfl) hS (Nat.le_of_ble_eq_true rfl) (Nat.le_of_ble_eq_true rfl) dX6_activity_53 (rfl)
      · refine lv_if_eq (tgt := 52) hx hb dX6_activity_14 (by decide) (fun c_14 => ?_) (fun c_14 => absurd (by decide) c_14)
        refine lv_iconst (v := (-1)) hx hb dX6_activity_52 (by decide) ?_
        exact en_i () hx hb hr hlocks hK (hP.sub [6, 0, 1, 2, 3, 4, 5] rfl) (hD.sub [6, 0, 1, 2, 3, 4, 5] (by decide) rfl) hS (Nat.le_of_ble_eq_true rfl) (Nat.le_of_ble_eq_true rfl) dX6_activity_53 (rfl)
set_option maxHeartbeats 300000 in
set_option maxRecDepth 100000 in
theorem c_m_source_ok (l : Launch) (D : va_G) (cI cZ cR : ClassId) (y0 : Nat) (b3 : Nat) (b4 : Nat) (b5 : Nat) (b6 : Nat) (b7 : Nat) (b8 : Nat) (b9 : Nat) (b10 : Nat) (b11 : Nat) (b12 : Nat) (b13 : Nat) (b14 : Nat) (b15 : Nat) (b16 : Nat) (b17 : Nat) (b18 : Nat) (b19 : Nat) (b20 : Nat) (b21 : Nat) (b22 : Nat) (b24 : Nat) (b25 : Nat) (E : Nat) (Ac : Nat) (Gr : Nat) (rm : Nat) (so : Nat → Int32) (e0 : Int32) (f1 : Int32) (hE : E ≤ 60) (hok : (vp_in e0 E ∧ (0 ≤ f1 ∧ f1 ≤ 500))) : CI l D cI cZ cR yX6_source wsX6_source { frames := 1, cells := 0, slots := 0, locals := 21 } [.ref y0, .int e0, .int f1] (wc (cO y0 6 [.int (nI E), .int (nI Ac), .int (nI Gr), .ref b3, .ref b4, .ref b5, .ref b6, .ref b7, .ref b8, .ref b9, .ref b10, .ref b11, .ref b12, .ref b13, .ref b14, .ref b15, .ref b16, .ref b17, .ref b18, .ref b19, .ref b20, .ref b21, .ref b22, .int (nI rm), .ref b24, .ref b25]) (wc (cA b5 cI 60 so) wN)) (fun (r : Int32) (u : Unit) => r = 1) (fun (u : Unit) => (wc (cO y0 6 [.int (nI E), .int (nI Ac), .int (nI Gr), .ref b3, .ref b4, .ref b5, .ref b6, .ref b7, .ref b8, .ref b9, .ref b10, .ref b11, .ref b12, .ref b13, .ref b14, .ref b15, .ref b16, .ref b17, .ref b18, .ref b19, .ref b20, .ref b21, .ref b22, .int (nI rm), .ref b24, .ref b25]) (wc (cA b5 cI 60 (upd so e0.toNatClampNeg f1)) wN))) := by
  intro sz9
  refine en_W (Qc := fun A => va_Qi (fun (r : Int32) (u : Unit) => r = 1) (sB D cI cZ cR (fun (u : Unit) => (wc (cO y0 6 [.int (nI E), .int (nI Ac), .int (nI Gr), .ref b3, .ref b4, .ref b5, .ref b6, .ref b7, .ref b8, .ref b9, .ref b10, .ref b11, .ref b12, .ref b13, .ref b14, .ref b15, .ref b16, .ref b17, .ref b18, .ref b19, .ref b20, .ref b21, .ref b22, .int (nI rm), .ref b24, .ref b25]) (wc (cA b5 cI 60 (upd so e0.toNatClampNeg f1)) wN))) A) A) (cc := cX6_source) (maxL := 3) (ret := (some .boolean)) (by decide) rfl (Nat.le_of_ble_eq_true rfl) ?_
  intro p e s m below meth c A ls hx hb hr hts hown hlocks hin hml hK hP hD hS hA hl
  have hown : s.vm.findClass RX6 = some m.cls := hown
  have hl : lv_has ls 3 [(0, .ref y0), (1, .int e0), (2, .int f1)] := hl
  have kw_0 := hts (.fieldLink RX6 16 "DelayDeskModel" "source" "[I") (List.mem_of_getElem? (i := 1) rfl)
  have iX6 : ∀ w ∈ u_ws RX6 TX6 26, w ∈ wsX6_source := fun _ h9 => (List.mem_cons_of_mem _ (List.mem_append_right _ h9))
  refine lv_aload_n hx hb dX6_source_0 rfl (lv_at hl 0 rfl) ?_
  refine lv_iload_n hx hb dX6_source_1 rfl (lv_at hl 1 rfl) ?_
  refine cl_i (wr := (wc (cA b5 cI 60 so) wN)) (va_runV (As := [.int e0]) (rest := []) ⟨hx, hb, hml, hown, hts⟩ (c_m_isEvent l D cI cZ cR y0 b3 b4 b5 b6 b7 b8 b9 b10 b11 b12 b13 b14 b15 b16 b17 b18 b19 b20 b21 b22 b24 b25 E Ac Gr rm e0 (by omega) s.heap.size) (cwV 1 hts gX6_source_X6_isEvent rfl rfl rfl hd_X6_isEvent ⟨Nat.le_of_ble_eq_true rfl, Nat.le_of_ble_eq_true rfl⟩) (pV 6 0 hK hP hD [0] rfl (by decide) rfl rfl) rfl rfl hl.1 rfl (lv_room (Nat.le_of_ble_eq_true rfl)) dX6_source_2 ⟨Nat.le_of_ble_eq_true rfl, Nat.le_of_ble_eq_true rfl⟩) hP hD hS hA [0] [1] rfl rfl (by decide) (by decide) (fun r_2 u_2 H locs hw_2 hP hD hS => ?_)
  have hP : va_P D vwCl (wc (cA b5 cI 60 so) (wc (cO y0 6 [.int (nI E), .int (nI Ac), .int (nI Gr), .ref b3, .ref b4, .ref b5, .ref b6, .ref b7, .ref b8, .ref b9, .ref b10, .ref b11, .ref b12, .ref b13, .ref b14, .ref b15, .ref b16, .ref b17, .ref b18, .ref b19, .ref b20, .ref b21, .ref b22, .int (nI rm), .ref b24, .ref b25]) wN)) H := hP
  have hD : va_D A (wc (cA b5 cI 60 so) (wc (cO y0 6 [.int (nI E), .int (nI Ac), .int (nI Gr), .ref b3, .ref b4, .ref b5, .ref b6, .ref b7, .ref b8, .ref b9, .ref b10, .ref b11, .ref b12, .ref b13, .ref b14, .ref b15, .ref b16, .ref b17, .ref b18, .ref b19, .ref b20, .ref b21, .ref b22, .int (nI rm), .ref b24, .ref b25]) wN)) := hD
  rcases hw_2 with ⟨rfl, hf_2⟩ | ⟨rfl, hf_2⟩
  · refine lv_if_eq (tgt := 19) hx hb dX6_source_5 (by decide) (fun c_5 => absurd c_5 (by decide)) (fun c_5 => ?_)
    refine lv_iload_n hx hb dX6_source_8 rfl (lv_at hl 2 rfl) ?_
    refine lv_if_lt (tgt := 19) hx hb dX6_source_9 (by decide) (fun c_9 => (ii_a c_9 hok.2).elim) (fun c_9 => ?_)
    refine lv_iload_n hx hb dX6_source_12 rfl (lv_at hl 2 rfl) ?_
    refine lv_sipush (v := 500) hx hb dX6_source_13 (by decide) ?_
    refine lv_icmp_le (tgt := 21) hx hb dX6_source_16 (by decide) (fun c_16 => ?_) (fun c_16 => (c_16 hok.2.2).elim)
    refine lv_aload_n hx hb dX6_source_21 rfl (lv_at hl 0 rfl) ?_
    refine va_get (D := D) (ci := 6) (v := .ref b5) (C := RX6) (T := TX6) (N := 26) hx hb hts iX6 hown hK.1 hP 1 rfl rfl 5 (by decide) kw_0 (fun _ h9 => h9) rfl dX6_source_22 ?_
    refine lv_iload_n hx hb dX6_source_25 rfl (lv_at hl 1 rfl) ?_
    refine lv_iload_n hx hb dX6_source_26 rfl (lv_at hl 2 rfl) ?_
    refine va_iast hx hb hK.1 hP hD hS 0 0 rfl rfl (by first | with_reducible assumption | exact vp_le (by with_reducible assumption) (by omega)) dX6_source_27 (fun H locs hP hD hS => ?_)
    have hP : va_P D vwCl (wc (cA b5 cI 60 (upd so e0.toNatClampNeg f1)) (wc (cO y0 6 [.int (nI E), .int (nI Ac), .int (nI Gr), .ref b3, .ref b4, .ref b5, .ref b6, .ref b7, .ref b8, .ref b9, .ref b10, .ref b11, .ref b12, .ref b13, .ref b14, .ref b15, .ref b16, .ref b17, .ref b18, .ref b19, .ref b20, .ref b21, .ref b22, .int (nI rm), .ref b24, .ref b25]) wN)) H := hP
    have hD : va_D A (wc (cA b5 cI 60 (upd so e0.toNatClampNeg f1)) (wc (cO y0 6 [.int (nI E), .int (nI Ac), .int (nI Gr), .ref b3, .ref b4, .ref b5, .ref b6, .ref b7, .ref b8, .ref b9, .ref b10, .ref b11, .ref b12, .ref b13, .ref b14, .ref b15, .ref b16, .ref b17, .ref b18, .ref b19, .ref b20, .ref b21, .ref b22, .int (nI rm), .ref b24, .ref b25]) wN)) := hD
    refine lv_iconst (v := 1) hx hb dX6_source_28 (by decide) ?_
    exact en_z () hx hb hr hlocks hK (hP.sub [1, 0] rfl) (hD.sub [1, 0] (by decide) rfl) hS (Nat.le_of_ble_eq_true rfl) (Nat.le_of_ble_eq_true rfl) dX6_source_29 rfl (rfl)
  · exact (hf_2 hok.1).elim
set_option maxHeartbeats 300000 in
set_option maxRecDepth 100000 in
theorem c_m_source_no (l : Launch) (D : va_G) (cI cZ cR : ClassId) (y0 : Nat) (b3 : Nat) (b4 : Nat) (b5 : Nat) (b6 : Nat) (b7 : Nat) (b8 : Nat) (b9 : Nat) (b10 : Nat) (b11 : Nat) (b12 : Nat) (b13 : Nat) (b14 : Nat) (b15 : Nat) (b16 : Nat) (b17 : Nat) (b18 : Nat) (b19 : Nat) (b20 : Nat) (b21 : Nat) (b22 : Nat) (b24 : Nat) (b25 : Nat) (E : Nat) (Ac : Nat) (Gr : Nat) (rm : Nat) (so : Nat → Int32) (e0 : Int32) (f1 : Int32) (hE : E ≤ 60) (hno : ¬ (vp_in e0 E ∧ (0 ≤ f1 ∧ f1 ≤ 500))) : CI l D cI cZ cR yX6_source wsX6_source { frames := 1, cells := 0, slots := 0, locals := 21 } [.ref y0, .int e0, .int f1] (wc (cO y0 6 [.int (nI E), .int (nI Ac), .int (nI Gr), .ref b3, .ref b4, .ref b5, .ref b6, .ref b7, .ref b8, .ref b9, .ref b10, .ref b11, .ref b12, .ref b13, .ref b14, .ref b15, .ref b16, .ref b17, .ref b18, .ref b19, .ref b20, .ref b21, .ref b22, .int (nI rm), .ref b24, .ref b25]) (wc (cA b5 cI 60 so) wN)) (fun (r : Int32) (u : Unit) => r = 0) (fun (u : Unit) => (wc (cO y0 6 [.int (nI E), .int (nI Ac), .int (nI Gr), .ref b3, .ref b4, .ref b5, .ref b6, .ref b7, .ref b8, .ref b9, .ref b10, .ref b11, .ref b12, .ref b13, .ref b14, .ref b15, .ref b16, .ref b17, .ref b18, .ref b19, .ref b20, .ref b21, .ref b22, .int (nI rm), .ref b24, .ref b25]) (wc (cA b5 cI 60 so) wN))) := by
  intro sz9
  refine en_W (Qc := fun A => va_Qi (fun (r : Int32) (u : Unit) => r = 0) (sB D cI cZ cR (fun (u : Unit) => (wc (cO y0 6 [.int (nI E), .int (nI Ac), .int (nI Gr), .ref b3, .ref b4, .ref b5, .ref b6, .ref b7, .ref b8, .ref b9, .ref b10, .ref b11, .ref b12, .ref b13, .ref b14, .ref b15, .ref b16, .ref b17, .ref b18, .ref b19, .ref b20, .ref b21, .ref b22, .int (nI rm), .ref b24, .ref b25]) (wc (cA b5 cI 60 so) wN))) A) A) (cc := cX6_source) (maxL := 3) (ret := (some .boolean)) (by decide) rfl (Nat.le_of_ble_eq_true rfl) ?_
  intro p e s m below meth c A ls hx hb hr hts hown hlocks hin hml hK hP hD hS hA hl
  have hown : s.vm.findClass RX6 = some m.cls := hown
  have hl : lv_has ls 3 [(0, .ref y0), (1, .int e0), (2, .int f1)] := hl
  refine lv_aload_n hx hb dX6_source_0 rfl (lv_at hl 0 rfl) ?_
  refine lv_iload_n hx hb dX6_source_1 rfl (lv_at hl 1 rfl) ?_
  refine cl_i (wr := (wc (cA b5 cI 60 so) wN)) (va_runV (As := [.int e0]) (rest := []) ⟨hx, hb, hml, hown, hts⟩ (c_m_isEvent l D cI cZ cR y0 b3 b4 b5 b6 b7 b8 b9 b10 b11 b12 b13 b14 b15 b16 b17 b18 b19 b20 b21 b22 b24 b25 E Ac Gr rm e0 (by omega) s.heap.size) (cwV 1 hts gX6_source_X6_isEvent rfl rfl rfl hd_X6_isEvent ⟨Nat.le_of_ble_eq_true rfl, Nat.le_of_ble_eq_true rfl⟩) (pV 6 0 hK hP hD [0] rfl (by decide) rfl rfl) rfl rfl hl.1 rfl (lv_room (Nat.le_of_ble_eq_true rfl)) dX6_source_2 ⟨Nat.le_of_ble_eq_true rfl, Nat.le_of_ble_eq_true rfl⟩) hP hD hS hA [0] [1] rfl rfl (by decide) (by decide) (fun r_2 u_2 H locs hw_2 hP hD hS => ?_)
  have hP : va_P D vwCl (wc (cA b5 cI 60 so) (wc (cO y0 6 [.int (nI E), .int (nI Ac), .int (nI Gr), .ref b3, .ref b4, .ref b5, .ref b6, .ref b7, .ref b8, .ref b9, .ref b10, .ref b11, .ref b12, .ref b13, .ref b14, .ref b15, .ref b16, .ref b17, .ref b18, .ref b19, .ref b20, .ref b21, .ref b22, .int (nI rm), .ref b24, .ref b25]) wN)) H := hP
  have hD : va_D A (wc (cA b5 cI 60 so) (wc (cO y0 6 [.int (nI E), .int (nI Ac), .int (nI Gr), .ref b3, .ref b4, .ref b5, .ref b6, .ref b7, .ref b8, .ref b9, .ref b10, .ref b11, .ref b12, .ref b13, .ref b14, .ref b15, .ref b16, .ref b17, .ref b18, .ref b19, .ref b20, .ref b21, .ref b22, .int (nI rm), .ref b24, .ref b25]) wN)) := hD
  rcases hw_2 with ⟨rfl, hf_2⟩ | ⟨rfl, hf_2⟩
  · refine lv_if_eq (tgt := 19) hx hb dX6_source_5 (by decide) (fun c_5 => absurd c_5 (by decide)) (fun c_5 => ?_)
    refine lv_iload_n hx hb dX6_source_8 rfl (lv_at hl 2 rfl) ?_
    refine lv_if_lt (tgt := 19) hx hb dX6_source_9 (by decide) (fun c_9 => ?_) (fun c_9 => ?_)
    · refine lv_iconst (v := 0) hx hb dX6_source_19 (by decide) ?_
      exact en_z () hx hb hr hlocks hK (hP.sub [1, 0] rfl) (hD.sub [1, 0] (by decide) rfl) hS (Nat.le_of_ble_eq_true rfl) (Nat.le_of_ble_eq_true rfl) dX6_source_20 rfl (rfl)
    · refine lv_iload_n hx hb dX6_source_12 rfl (lv_at hl 2 rfl) ?_
      refine lv_sipush (v := 500) hx hb dX6_source_13 (by decide) ?_
      refine lv_icmp_le (tgt := 21) hx hb dX6_source_16 (by decide) (fun c_16 => ?_) (fun c_16 => ?_)
      · exact (hno ⟨hf_2, ii_c c_9 c_16⟩ : False).elim
      · refine lv_iconst (v := 0) hx hb dX6_source_19 (by decide) ?_
        exact en_z () hx hb hr hlocks hK (hP.sub [1, 0] rfl) (hD.sub [1, 0] (by decide) rfl) hS (Nat.le_of_ble_eq_true rfl) (Nat.le_of_ble_eq_true rfl) dX6_source_20 rfl (rfl)
  · refine lv_if_eq (tgt := 19) hx hb dX6_source_5 (by decide) (fun c_5 => ?_) (fun c_5 => absurd (by decide) c_5)
    refine lv_iconst (v := 0) hx hb dX6_source_19 (by decide) ?_
    exact en_z () hx hb hr hlocks hK (hP.sub [1, 0] rfl) (hD.sub [1, 0] (by decide) rfl) hS (Nat.le_of_ble_eq_true rfl) (Nat.le_of_ble_eq_true rfl) dX6_source_20 rfl (rfl)
set_option maxHeartbeats 300000 in
set_option maxRecDepth 100000 in
theorem c_m_keep_ok (l : Launch) (D : va_G) (cI cZ cR : ClassId) (y0 : Nat) (b3 : Nat) (b4 : Nat) (b5 : Nat) (b6 : Nat) (b7 : Nat) (b8 : Nat) (b9 : Nat) (b10 : Nat) (b11 : Nat) (b12 : Nat) (b13 : Nat) (b14 : Nat) (b15 : Nat) (b16 : Nat) (b17 : Nat) (b18 : Nat) (b19 : Nat) (b20 : Nat) (b21 : Nat) (b22 : Nat) (b24 : Nat) (b25 : Nat) (E : Nat) (Ac : Nat) (Gr : Nat) (rm : Nat) (ki : Nat → Int32) (ke : Nat → Int32) (e0 : Int32) (b1 : Int32) (hAc : Ac ≤ 100) (hok : ((vp_in e0 Ac ∧ ki e0.toNatClampNeg = 2) ∧ ¬ ke e0.toNatClampNeg = b1)) : CI l D cI cZ cR yX6_keep wsX6_keep { frames := 2, cells := 0, slots := 0, locals := 42 } [.ref y0, .int e0, .int b1] (wc (cO y0 6 [.int (nI E), .int (nI Ac), .int (nI Gr), .ref b3, .ref b4, .ref b5, .ref b6, .ref b7, .ref b8, .ref b9, .ref b10, .ref b11, .ref b12, .ref b13, .ref b14, .ref b15, .ref b16, .ref b17, .ref b18, .ref b19, .ref b20, .ref b21, .ref b22, .int (nI rm), .ref b24, .ref b25]) (wc (cA b6 cI 100 ki) (wc (cA b10 cZ 100 ke) wN))) (fun (r : Int32) (u : Unit) => r = 1) (fun (u : Unit) => (wc (cO y0 6 [.int (nI E), .int (nI Ac), .int (nI Gr), .ref b3, .ref b4, .ref b5, .ref b6, .ref b7, .ref b8, .ref b9, .ref b10, .ref b11, .ref b12, .ref b13, .ref b14, .ref b15, .ref b16, .ref b17, .ref b18, .ref b19, .ref b20, .ref b21, .ref b22, .int (nI rm), .ref b24, .ref b25]) (wc (cA b6 cI 100 ki) (wc (cA b10 cZ 100 (upd ke e0.toNatClampNeg (vp_nar .boolean b1))) wN)))) := by
  intro sz9
  refine en_W (Qc := fun A => va_Qi (fun (r : Int32) (u : Unit) => r = 1) (sB D cI cZ cR (fun (u : Unit) => (wc (cO y0 6 [.int (nI E), .int (nI Ac), .int (nI Gr), .ref b3, .ref b4, .ref b5, .ref b6, .ref b7, .ref b8, .ref b9, .ref b10, .ref b11, .ref b12, .ref b13, .ref b14, .ref b15, .ref b16, .ref b17, .ref b18, .ref b19, .ref b20, .ref b21, .ref b22, .int (nI rm), .ref b24, .ref b25]) (wc (cA b6 cI 100 ki) (wc (cA b10 cZ 100 (upd ke e0.toNatClampNeg (vp_nar .boolean b1))) wN)))) A) A) (cc := cX6_keep) (maxL := 3) (ret := (some .boolean)) (by decide) rfl (Nat.le_of_ble_eq_true rfl) ?_
  intro p e s m below meth c A ls hx hb hr hts hown hlocks hin hml hK hP hD hS hA hl
  have hown : s.vm.findClass RX6 = some m.cls := hown
  have hl : lv_has ls 3 [(0, .ref y0), (1, .int e0), (2, .int b1)] := hl
  have kw_0 := hts (.fieldLink RX6 31 "DelayDeskModel" "isKept" "[Z") (List.mem_of_getElem? (i := 1) rfl)
  have iX6 : ∀ w ∈ u_ws RX6 TX6 26, w ∈ wsX6_keep := fun _ h9 => (List.mem_cons_of_mem _ (List.mem_append_right _ h9))
  refine lv_aload_n hx hb dX6_keep_0 rfl (lv_at hl 0 rfl) ?_
  refine lv_iload_n hx hb dX6_keep_1 rfl (lv_at hl 1 rfl) ?_
  refine cl_i (wr := (wc (cA b10 cZ 100 ke) wN)) (va_runV (As := [.int e0]) (rest := []) ⟨hx, hb, hml, hown, hts⟩ (c_m_isChange l D cI cZ cR y0 b3 b4 b5 b6 b7 b8 b9 b10 b11 b12 b13 b14 b15 b16 b17 b18 b19 b20 b21 b22 b24 b25 E Ac Gr rm ki e0 (by omega) s.heap.size) (cwV 1 hts gX6_keep_X6_isChange rfl rfl rfl hd_X6_isChange ⟨Nat.le_of_ble_eq_true rfl, Nat.le_of_ble_eq_true rfl⟩) (pV 6 0 hK hP hD [0, 1] rfl (by decide) rfl rfl) rfl rfl hl.1 rfl (lv_room (Nat.le_of_ble_eq_true rfl)) dX6_keep_2 ⟨Nat.le_of_ble_eq_true rfl, Nat.le_of_ble_eq_true rfl⟩) hP hD hS hA [0, 1] [2] rfl rfl (by decide) (by decide) (fun r_2 u_2 H locs hw_2 hP hD hS => ?_)
  have hP : va_P D vwCl (wc (cA b10 cZ 100 ke) (wc (cO y0 6 [.int (nI E), .int (nI Ac), .int (nI Gr), .ref b3, .ref b4, .ref b5, .ref b6, .ref b7, .ref b8, .ref b9, .ref b10, .ref b11, .ref b12, .ref b13, .ref b14, .ref b15, .ref b16, .ref b17, .ref b18, .ref b19, .ref b20, .ref b21, .ref b22, .int (nI rm), .ref b24, .ref b25]) (wc (cA b6 cI 100 ki) wN))) H := hP
  have hD : va_D A (wc (cA b10 cZ 100 ke) (wc (cO y0 6 [.int (nI E), .int (nI Ac), .int (nI Gr), .ref b3, .ref b4, .ref b5, .ref b6, .ref b7, .ref b8, .ref b9, .ref b10, .ref b11, .ref b12, .ref b13, .ref b14, .ref b15, .ref b16, .ref b17, .ref b18, .ref b19, .ref b20, .ref b21, .ref b22, .int (nI rm), .ref b24, .ref b25]) (wc (cA b6 cI 100 ki) wN))) := hD
  rcases hw_2 with ⟨rfl, hf_2⟩ | ⟨rfl, hf_2⟩
  · have hv1 : vp_in e0 Ac := hf_2.1
    refine lv_if_eq (tgt := 18) hx hb dX6_keep_5 (by decide) (fun c_5 => absurd c_5 (by decide)) (fun c_5 => ?_)
    refine lv_aload_n hx hb dX6_keep_8 rfl (lv_at hl 0 rfl) ?_
    refine va_get (D := D) (ci := 6) (v := .ref b10) (C := RX6) (T := TX6) (N := 26) hx hb hts iX6 hown hK.1 hP 1 rfl rfl 10 (by decide) kw_0 (fun _ h9 => h9) rfl dX6_keep_9 ?_
    refine lv_iload_n hx hb dX6_keep_12 rfl (lv_at hl 1 rfl) ?_
    refine va_zald hx hb hK.1 hP 0 1 rfl rfl (by first | with_reducible assumption | exact vp_le (by with_reducible assumption) (by omega)) dX6_keep_13 ?_
    refine lv_iload_n hx hb dX6_keep_14 rfl (lv_at hl 2 rfl) ?_
    refine lv_icmp_ne (tgt := 20) hx hb dX6_keep_15 (by decide) (fun c_15 => ?_) (fun c_15 => (hok.2 c_15).elim)
    refine lv_aload_n hx hb dX6_keep_20 rfl (lv_at hl 0 rfl) ?_
    refine va_get (D := D) (ci := 6) (v := .ref b10) (C := RX6) (T := TX6) (N := 26) hx hb hts iX6 hown hK.1 hP 1 rfl rfl 10 (by decide) kw_0 (fun _ h9 => h9) rfl dX6_keep_21 ?_
    refine lv_iload_n hx hb dX6_keep_24 rfl (lv_at hl 1 rfl) ?_
    refine lv_iload_n hx hb dX6_keep_25 rfl (lv_at hl 2 rfl) ?_
    refine va_zast hx hb hK.1 hP hD hS 0 1 rfl rfl (by first | with_reducible assumption | exact vp_le (by with_reducible assumption) (by omega)) dX6_keep_26 (fun H locs hP hD hS => ?_)
    have hP : va_P D vwCl (wc (cA b10 cZ 100 (upd ke e0.toNatClampNeg (vp_nar .boolean b1))) (wc (cO y0 6 [.int (nI E), .int (nI Ac), .int (nI Gr), .ref b3, .ref b4, .ref b5, .ref b6, .ref b7, .ref b8, .ref b9, .ref b10, .ref b11, .ref b12, .ref b13, .ref b14, .ref b15, .ref b16, .ref b17, .ref b18, .ref b19, .ref b20, .ref b21, .ref b22, .int (nI rm), .ref b24, .ref b25]) (wc (cA b6 cI 100 ki) wN))) H := hP
    have hD : va_D A (wc (cA b10 cZ 100 (upd ke e0.toNatClampNeg (vp_nar .boolean b1))) (wc (cO y0 6 [.int (nI E), .int (nI Ac), .int (nI Gr), .ref b3, .ref b4, .ref b5, .ref b6, .ref b7, .ref b8, .ref b9, .ref b10, .ref b11, .ref b12, .ref b13, .ref b14, .ref b15, .ref b16, .ref b17, .ref b18, .ref b19, .ref b20, .ref b21, .ref b22, .int (nI rm), .ref b24, .ref b25]) (wc (cA b6 cI 100 ki) wN))) := hD
    refine lv_iconst (v := 1) hx hb dX6_keep_27 (by decide) ?_
    exact en_z () hx hb hr hlocks hK (hP.sub [1, 2, 0] rfl) (hD.sub [1, 2, 0] (by decide) rfl) hS (Nat.le_of_ble_eq_true rfl) (Nat.le_of_ble_eq_true rfl) dX6_keep_28 rfl (rfl)
  · exact (hf_2 hok.1).elim
set_option maxHeartbeats 300000 in
set_option maxRecDepth 100000 in
theorem c_m_keep_no (l : Launch) (D : va_G) (cI cZ cR : ClassId) (y0 : Nat) (b3 : Nat) (b4 : Nat) (b5 : Nat) (b6 : Nat) (b7 : Nat) (b8 : Nat) (b9 : Nat) (b10 : Nat) (b11 : Nat) (b12 : Nat) (b13 : Nat) (b14 : Nat) (b15 : Nat) (b16 : Nat) (b17 : Nat) (b18 : Nat) (b19 : Nat) (b20 : Nat) (b21 : Nat) (b22 : Nat) (b24 : Nat) (b25 : Nat) (E : Nat) (Ac : Nat) (Gr : Nat) (rm : Nat) (ki : Nat → Int32) (ke : Nat → Int32) (e0 : Int32) (b1 : Int32) (hAc : Ac ≤ 100) (hno : ¬ ((vp_in e0 Ac ∧ ki e0.toNatClampNeg = 2) ∧ ¬ ke e0.toNatClampNeg = b1)) : CI l D cI cZ cR yX6_keep wsX6_keep { frames := 2, cells := 0, slots := 0, locals := 42 } [.ref y0, .int e0, .int b1] (wc (cO y0 6 [.int (nI E), .int (nI Ac), .int (nI Gr), .ref b3, .ref b4, .ref b5, .ref b6, .ref b7, .ref b8, .ref b9, .ref b10, .ref b11, .ref b12, .ref b13, .ref b14, .ref b15, .ref b16, .ref b17, .ref b18, .ref b19, .ref b20, .ref b21, .ref b22, .int (nI rm), .ref b24, .ref b25]) (wc (cA b6 cI 100 ki) (wc (cA b10 cZ 100 ke) wN))) (fun (r : Int32) (u : Unit) => r = 0) (fun (u : Unit) => (wc (cO y0 6 [.int (nI E), .int (nI Ac), .int (nI Gr), .ref b3, .ref b4, .ref b5, .ref b6, .ref b7, .ref b8, .ref b9, .ref b10, .ref b11, .ref b12, .ref b13, .ref b14, .ref b15, .ref b16, .ref b17, .ref b18, .ref b19, .ref b20, .ref b21, .ref b22, .int (nI rm), .ref b24, .ref b25]) (wc (cA b6 cI 100 ki) (wc (cA b10 cZ 100 ke) wN)))) := by
  intro sz9
  refine en_W (Qc := fun A => va_Qi (fun (r : Int32) (u : Unit) => r = 0) (sB D cI cZ cR (fun (u : Unit) => (wc (cO y0 6 [.int (nI E), .int (nI Ac), .int (nI Gr), .ref b3, .ref b4, .ref b5, .ref b6, .ref b7, .ref b8, .ref b9, .ref b10, .ref b11, .ref b12, .ref b13, .ref b14, .ref b15, .ref b16, .ref b17, .ref b18, .ref b19, .ref b20, .ref b21, .ref b22, .int (nI rm), .ref b24, .ref b25]) (wc (cA b6 cI 100 ki) (wc (cA b10 cZ 100 ke) wN)))) A) A) (cc := cX6_keep) (maxL := 3) (ret := (some .boolean)) (by decide) rfl (Nat.le_of_ble_eq_true rfl) ?_
  intro p e s m below meth c A ls hx hb hr hts hown hlocks hin hml hK hP hD hS hA hl
  have hown : s.vm.findClass RX6 = some m.cls := hown
  have hl : lv_has ls 3 [(0, .ref y0), (1, .int e0), (2, .int b1)] := hl
  have kw_0 := hts (.fieldLink RX6 31 "DelayDeskModel" "isKept" "[Z") (List.mem_of_getElem? (i := 1) rfl)
  have iX6 : ∀ w ∈ u_ws RX6 TX6 26, w ∈ wsX6_keep := fun _ h9 => (List.mem_cons_of_mem _ (List.mem_append_right _ h9))
  refine lv_aload_n hx hb dX6_keep_0 rfl (lv_at hl 0 rfl) ?_
  refine lv_iload_n hx hb dX6_keep_1 rfl (lv_at hl 1 rfl) ?_
  refine cl_i (wr := (wc (cA b10 cZ 100 ke) wN)) (va_runV (As := [.int e0]) (rest := []) ⟨hx, hb, hml, hown, hts⟩ (c_m_isChange l D cI cZ cR y0 b3 b4 b5 b6 b7 b8 b9 b10 b11 b12 b13 b14 b15 b16 b17 b18 b19 b20 b21 b22 b24 b25 E Ac Gr rm ki e0 (by omega) s.heap.size) (cwV 1 hts gX6_keep_X6_isChange rfl rfl rfl hd_X6_isChange ⟨Nat.le_of_ble_eq_true rfl, Nat.le_of_ble_eq_true rfl⟩) (pV 6 0 hK hP hD [0, 1] rfl (by decide) rfl rfl) rfl rfl hl.1 rfl (lv_room (Nat.le_of_ble_eq_true rfl)) dX6_keep_2 ⟨Nat.le_of_ble_eq_true rfl, Nat.le_of_ble_eq_true rfl⟩) hP hD hS hA [0, 1] [2] rfl rfl (by decide) (by decide) (fun r_2 u_2 H locs hw_2 hP hD hS => ?_)
  have hP : va_P D vwCl (wc (cA b10 cZ 100 ke) (wc (cO y0 6 [.int (nI E), .int (nI Ac), .int (nI Gr), .ref b3, .ref b4, .ref b5, .ref b6, .ref b7, .ref b8, .ref b9, .ref b10, .ref b11, .ref b12, .ref b13, .ref b14, .ref b15, .ref b16, .ref b17, .ref b18, .ref b19, .ref b20, .ref b21, .ref b22, .int (nI rm), .ref b24, .ref b25]) (wc (cA b6 cI 100 ki) wN))) H := hP
  have hD : va_D A (wc (cA b10 cZ 100 ke) (wc (cO y0 6 [.int (nI E), .int (nI Ac), .int (nI Gr), .ref b3, .ref b4, .ref b5, .ref b6, .ref b7, .ref b8, .ref b9, .ref b10, .ref b11, .ref b12, .ref b13, .ref b14, .ref b15, .ref b16, .ref b17, .ref b18, .ref b19, .ref b20, .ref b21, .ref b22, .int (nI rm), .ref b24, .ref b25]) (wc (cA b6 cI 100 ki) wN))) := hD
  rcases hw_2 with ⟨rfl, hf_2⟩ | ⟨rfl, hf_2⟩
  · have hv1 : vp_in e0 Ac := hf_2.1
    refine lv_if_eq (tgt := 18) hx hb dX6_keep_5 (by decide) (fun c_5 => absurd c_5 (by decide)) (fun c_5 => ?_)
    refine lv_aload_n hx hb dX6_keep_8 rfl (lv_at hl 0 rfl) ?_
    refine va_get (D := D) (ci := 6) (v := .ref b10) (C := RX6) (T := TX6) (N := 26) hx hb hts iX6 hown hK.1 hP 1 rfl rfl 10 (by decide) kw_0 (fun _ h9 => h9) rfl dX6_keep_9 ?_
    refine lv_iload_n hx hb dX6_keep_12 rfl (lv_at hl 1 rfl) ?_
    refine va_zald hx hb hK.1 hP 0 1 rfl rfl (by first | with_reducible assumption | exact vp_le (by with_reducible assumption) (by omega)) dX6_keep_13 ?_
    refine lv_iload_n hx hb dX6_keep_14 rfl (lv_at hl 2 rfl) ?_
    refine lv_icmp_ne (tgt := 20) hx hb dX6_keep_15 (by decide) (fun c_15 => (hno ⟨hf_2, c_15⟩).elim) (fun c_15 => ?_)
    refine lv_iconst (v := 0) hx hb dX6_keep_18 (by decide) ?_
    exact en_z () hx hb hr hlocks hK (hP.sub [1, 2, 0] rfl) (hD.sub [1, 2, 0] (by decide) rfl) hS (Nat.le_of_ble_eq_true rfl) (Nat.le_of_ble_eq_true rfl) dX6_keep_19 rfl (rfl)
  · refine lv_if_eq (tgt := 18) hx hb dX6_keep_5 (by decide) (fun c_5 => ?_) (fun c_5 => absurd (by decide) c_5)
    refine lv_iconst (v := 0) hx hb dX6_keep_18 (by decide) ?_
    exact en_z () hx hb hr hlocks hK (hP.sub [1, 2, 0] rfl) (hD.sub [1, 2, 0] (by decide) rfl) hS (Nat.le_of_ble_eq_true rfl) (Nat.le_of_ble_eq_true rfl) dX6_keep_19 rfl (rfl)
set_option maxHeartbeats 300000 in
set_option maxRecDepth 100000 in
theorem c_m_turn_ok (l : Launch) (D : va_G) (cI cZ cR : ClassId) (y0 : Nat) (b3 : Nat) (b4 : Nat) (b5 : Nat) (b6 : Nat) (b7 : Nat) (b8 : Nat) (b9 : Nat) (b10 : Nat) (b11 : Nat) (b12 : Nat) (b13 : Nat) (b14 : Nat) (b15 : Nat) (b16 : Nat) (b17 : Nat) (b18 : Nat) (b19 : Nat) (b20 : Nat) (b21 : Nat) (b22 : Nat) (b24 : Nat) (b25 : Nat) (E : Nat) (Ac : Nat) (Gr : Nat) (rm : Nat) (ki : Nat → Int32) (fr : Nat → Int32) (to : Nat → Int32) (e0 : Int32) (hAc : Ac ≤ 100) (hok : (vp_in e0 Ac ∧ ki e0.toNatClampNeg = 3)) : CI l D cI cZ cR yX6_turn wsX6_turn { frames := 1, cells := 0, slots := 0, locals := 21 } [.ref y0, .int e0] (wc (cO y0 6 [.int (nI E), .int (nI Ac), .int (nI Gr), .ref b3, .ref b4, .ref b5, .ref b6, .ref b7, .ref b8, .ref b9, .ref b10, .ref b11, .ref b12, .ref b13, .ref b14, .ref b15, .ref b16, .ref b17, .ref b18, .ref b19, .ref b20, .ref b21, .ref b22, .int (nI rm), .ref b24, .ref b25]) (wc (cA b6 cI 100 ki) (wc (cA b7 cI 100 fr) (wc (cA b8 cI 100 to) wN)))) (fun (r : Int32) (u : Unit) => r = 1) (fun (u : Unit) => (wc (cO y0 6 [.int (nI E), .int (nI Ac), .int (nI Gr), .ref b3, .ref b4, .ref b5, .ref b6, .ref b7, .ref b8, .ref b9, .ref b10, .ref b11, .ref b12, .ref b13, .ref b14, .ref b15, .ref b16, .ref b17, .ref b18, .ref b19, .ref b20, .ref b21, .ref b22, .int (nI rm), .ref b24, .ref b25]) (wc (cA b6 cI 100 ki) (wc (cA b7 cI 100 (upd fr e0.toNatClampNeg (to e0.toNatClampNeg))) (wc (cA b8 cI 100 (upd to e0.toNatClampNeg (fr e0.toNatClampNeg))) wN))))) := by
  intro sz9
  refine en_W (Qc := fun A => va_Qi (fun (r : Int32) (u : Unit) => r = 1) (sB D cI cZ cR (fun (u : Unit) => (wc (cO y0 6 [.int (nI E), .int (nI Ac), .int (nI Gr), .ref b3, .ref b4, .ref b5, .ref b6, .ref b7, .ref b8, .ref b9, .ref b10, .ref b11, .ref b12, .ref b13, .ref b14, .ref b15, .ref b16, .ref b17, .ref b18, .ref b19, .ref b20, .ref b21, .ref b22, .int (nI rm), .ref b24, .ref b25]) (wc (cA b6 cI 100 ki) (wc (cA b7 cI 100 (upd fr e0.toNatClampNeg (to e0.toNatClampNeg))) (wc (cA b8 cI 100 (upd to e0.toNatClampNeg (fr e0.toNatClampNeg))) wN))))) A) A) (cc := cX6_turn) (maxL := 3) (ret := (some .boolean)) (by decide) rfl (Nat.le_of_ble_eq_true rfl) ?_
  intro p e s m below meth c A ls hx hb hr hts hown hlocks hin hml hK hP hD hS hA hl
  have hown : s.vm.findClass RX6 = some m.cls := hown
  have hl : lv_has ls 3 [(0, .ref y0), (1, .int e0)] := hl
  have kw_0 := hts (.fieldLink RX6 19 "DelayDeskModel" "kind" "[I") (List.mem_of_getElem? (i := 1) rfl)
  have iX6 : ∀ w ∈ u_ws RX6 TX6 26, w ∈ wsX6_turn := fun _ h9 => (List.mem_cons_of_mem _ (List.mem_append_right _ h9))
  have kw_2 := hts (.fieldLink RX6 22 "DelayDeskModel" "from" "[I") (List.mem_of_getElem? (i := 2) rfl)
  have kw_3 := hts (.fieldLink RX6 25 "DelayDeskModel" "to" "[I") (List.mem_of_getElem? (i := 3) rfl)
  refine lv_aload_n hx hb dX6_turn_0 rfl (lv_at hl 0 rfl) ?_
  refine lv_iload_n hx hb dX6_turn_1 rfl (lv_at hl 1 rfl) ?_
  refine cl_i (wr := (wc (cA b6 cI 100 ki) (wc (cA b7 cI 100 fr) (wc (cA b8 cI 100 to) wN)))) (va_runV (As := [.int e0]) (rest := []) ⟨hx, hb, hml, hown, hts⟩ (c_m_isActivity l D cI cZ cR y0 b3 b4 b5 b6 b7 b8 b9 b10 b11 b12 b13 b14 b15 b16 b17 b18 b19 b20 b21 b22 b24 b25 E Ac Gr rm e0 (by omega) s.heap.size) (cwV 1 hts gX6_turn_X6_isActivity rfl rfl rfl hd_X6_isActivity ⟨Nat.le_of_ble_eq_true rfl, Nat.le_of_ble_eq_true rfl⟩) (pV 6 0 hK hP hD [0] rfl (by decide) rfl rfl) rfl rfl hl.1 rfl (lv_room (Nat.le_of_ble_eq_true rfl)) dX6_turn_2 ⟨Nat.le_of_ble_eq_true rfl, Nat.le_of_ble_eq_true rfl⟩) hP hD hS hA [0] [1, 2, 3] rfl rfl (by decide) (by decide) (fun r_2 u_2 H locs hw_2 hP hD hS => ?_)
  have hP : va_P D vwCl (wc (cA b6 cI 100 ki) (wc (cA b7 cI 100 fr) (wc (cA b8 cI 100 to) (wc (cO y0 6 [.int (nI E), .int (nI Ac), .int (nI Gr), .ref b3, .ref b4, .ref b5, .ref b6, .ref b7, .ref b8, .ref b9, .ref b10, .ref b11, .ref b12, .ref b13, .ref b14, .ref b15, .ref b16, .ref b17, .ref b18, .ref b19, .ref b20, .ref b21, .ref b22, .int (nI rm), .ref b24, .ref b25]) wN)))) H := hP
  have hD : va_D A (wc (cA b6 cI 100 ki) (wc (cA b7 cI 100 fr) (wc (cA b8 cI 100 to) (wc (cO y0 6 [.int (nI E), .int (nI Ac), .int (nI Gr), .ref b3, .ref b4, .ref b5, .ref b6, .ref b7, .ref b8, .ref b9, .ref b10, .ref b11, .ref b12, .ref b13, .ref b14, .ref b15, .ref b16, .ref b17, .ref b18, .ref b19, .ref b20, .ref b21, .ref b22, .int (nI rm), .ref b24, .ref b25]) wN)))) := hD
  rcases hw_2 with ⟨rfl, hf_2⟩ | ⟨rfl, hf_2⟩
  · refine lv_if_eq (tgt := 18) hx hb dX6_turn_5 (by decide) (fun c_5 => absurd c_5 (by decide)) (fun c_5 => ?_)
    refine lv_aload_n hx hb dX6_turn_8 rfl (lv_at hl 0 rfl) ?_
    refine va_get (D := D) (ci := 6) (v := .ref b6) (C := RX6) (T := TX6) (N := 26) hx hb hts iX6 hown hK.1 hP 3 rfl rfl 6 (by decide) kw_0 (fun _ h9 => h9) rfl dX6_turn_9 ?_
    refine lv_iload_n hx hb dX6_turn_12 rfl (lv_at hl 1 rfl) ?_
    refine va_iald hx hb hK.1 hP 0 0 rfl rfl (by first | with_reducible assumption | exact vp_le (by with_reducible assumption) (by omega)) dX6_turn_13 ?_
    refine lv_iconst (v := 3) hx hb dX6_turn_14 (by decide) ?_
    refine lv_icmp_eq (tgt := 20) hx hb dX6_turn_15 (by decide) (fun c_15 => ?_) (fun c_15 => (c_15 hok.2).elim)
    refine lv_aload_n hx hb dX6_turn_20 rfl (lv_at hl 0 rfl) ?_
    refine va_get (D := D) (ci := 6) (v := .ref b7) (C := RX6) (T := TX6) (N := 26) hx hb hts iX6 hown hK.1 hP 3 rfl rfl 7 (by decide) kw_2 (fun _ h9 => h9) rfl dX6_turn_21 ?_
    refine lv_iload_n hx hb dX6_turn_24 rfl (lv_at hl 1 rfl) ?_
    refine va_iald hx hb hK.1 hP 1 0 rfl rfl (by first | with_reducible assumption | exact vp_le (by with_reducible assumption) (by omega)) dX6_turn_25 ?_
    refine lv_istore_n (lv' := [(2, .int (fr e0.toNatClampNeg)), (0, .ref y0), (1, .int e0)]) hx hb dX6_turn_26 rfl hl (by decide) rfl (fun ls hl => ?_)
    refine lv_aload_n hx hb dX6_turn_27 rfl (lv_at hl 1 rfl) ?_
    refine va_get (D := D) (ci := 6) (v := .ref b7) (C := RX6) (T := TX6) (N := 26) hx hb hts iX6 hown hK.1 hP 3 rfl rfl 7 (by decide) kw_2 (fun _ h9 => h9) rfl dX6_turn_28 ?_
    refine lv_iload_n hx hb dX6_turn_31 rfl (lv_at hl 2 rfl) ?_
    refine lv_aload_n hx hb dX6_turn_32 rfl (lv_at hl 1 rfl) ?_
    refine va_get (D := D) (ci := 6) (v := .ref b8) (C := RX6) (T := TX6) (N := 26) hx hb hts iX6 hown hK.1 hP 3 rfl rfl 8 (by decide) kw_3 (fun _ h9 => h9) rfl dX6_turn_33 ?_
    refine lv_iload_n hx hb dX6_turn_36 rfl (lv_at hl 2 rfl) ?_
    refine va_iald hx hb hK.1 hP 2 0 rfl rfl (by first | with_reducible assumption | exact vp_le (by with_reducible assumption) (by omega)) dX6_turn_37 ?_
    refine va_iast hx hb hK.1 hP hD hS 1 0 rfl rfl (by first | with_reducible assumption | exact vp_le (by with_reducible assumption) (by omega)) dX6_turn_38 (fun H locs hP hD hS => ?_)
    have hP : va_P D vwCl (wc (cA b6 cI 100 ki) (wc (cA b7 cI 100 (upd fr e0.toNatClampNeg (to e0.toNatClampNeg))) (wc (cA b8 cI 100 to) (wc (cO y0 6 [.int (nI E), .int (nI Ac), .int (nI Gr), .ref b3, .ref b4, .ref b5, .ref b6, .ref b7, .ref b8, .ref b9, .ref b10, .ref b11, .ref b12, .ref b13, .ref b14, .ref b15, .ref b16, .ref b17, .ref b18, .ref b19, .ref b20, .ref b21, .ref b22, .int (nI rm), .ref b24, .ref b25]) wN)))) H := hP
    have hD : va_D A (wc (cA b6 cI 100 ki) (wc (cA b7 cI 100 (upd fr e0.toNatClampNeg (to e0.toNatClampNeg))) (wc (cA b8 cI 100 to) (wc (cO y0 6 [.int (nI E), .int (nI Ac), .int (nI Gr), .ref b3, .ref b4, .ref b5, .ref b6, .ref b7, .ref b8, .ref b9, .ref b10, .ref b11, .ref b12, .ref b13, .ref b14, .ref b15, .ref b16, .ref b17, .ref b18, .ref b19, .ref b20, .ref b21, .ref b22, .int (nI rm), .ref b24, .ref b25]) wN)))) := hD
    refine lv_aload_n hx hb dX6_turn_39 rfl (lv_at hl 1 rfl) ?_
    refine va_get (D := D) (ci := 6) (v := .ref b8) (C := RX6) (T := TX6) (N := 26) hx hb hts iX6 hown hK.1 hP 3 rfl rfl 8 (by decide) kw_3 (fun _ h9 => h9) rfl dX6_turn_40 ?_
    refine lv_iload_n hx hb dX6_turn_43 rfl (lv_at hl 2 rfl) ?_
    refine lv_iload_n hx hb dX6_turn_44 rfl (lv_at hl 0 rfl) ?_
    refine va_iast hx hb hK.1 hP hD hS 2 0 rfl rfl (by first | with_reducible assumption | exact vp_le (by with_reducible assumption) (by omega)) dX6_turn_45 (fun H locs hP hD hS => ?_)
    have hP : va_P D vwCl (wc (cA b6 cI 100 ki) (wc (cA b7 cI 100 (upd fr e0.toNatClampNeg (to e0.toNatClampNeg))) (wc (cA b8 cI 100 (upd to e0.toNatClampNeg (fr e0.toNatClampNeg))) (wc (cO y0 6 [.int (nI E), .int (nI Ac), .int (nI Gr), .ref b3, .ref b4, .ref b5, .ref b6, .ref b7, .ref b8, .ref b9, .ref b10, .ref b11, .ref b12, .ref b13, .ref b14, .ref b15, .ref b16, .ref b17, .ref b18, .ref b19, .ref b20, .ref b21, .ref b22, .int (nI rm), .ref b24, .ref b25]) wN)))) H := hP
    have hD : va_D A (wc (cA b6 cI 100 ki) (wc (cA b7 cI 100 (upd fr e0.toNatClampNeg (to e0.toNatClampNeg))) (wc (cA b8 cI 100 (upd to e0.toNatClampNeg (fr e0.toNatClampNeg))) (wc (cO y0 6 [.int (nI E), .int (nI Ac), .int (nI Gr), .ref b3, .ref b4, .ref b5, .ref b6, .ref b7, .ref b8, .ref b9, .ref b10, .ref b11, .ref b12, .ref b13, .ref b14, .ref b15, .ref b16, .ref b17, .ref b18, .ref b19, .ref b20, .ref b21, .ref b22, .int (nI rm), .ref b24, .ref b25]) wN)))) := hD
    refine lv_iconst (v := 1) hx hb dX6_turn_46 (by decide) ?_
    exact en_z () hx hb hr hlocks hK (hP.sub [3, 0, 1, 2] rfl) (hD.sub [3, 0, 1, 2] (by decide) rfl) hS (Nat.le_of_ble_eq_true rfl) (Nat.le_of_ble_eq_true rfl) dX6_turn_47 rfl (rfl)
  · exact (hf_2 hok.1).elim
set_option maxHeartbeats 300000 in
set_option maxRecDepth 100000 in
theorem c_m_turn_no (l : Launch) (D : va_G) (cI cZ cR : ClassId) (y0 : Nat) (b3 : Nat) (b4 : Nat) (b5 : Nat) (b6 : Nat) (b7 : Nat) (b8 : Nat) (b9 : Nat) (b10 : Nat) (b11 : Nat) (b12 : Nat) (b13 : Nat) (b14 : Nat) (b15 : Nat) (b16 : Nat) (b17 : Nat) (b18 : Nat) (b19 : Nat) (b20 : Nat) (b21 : Nat) (b22 : Nat) (b24 : Nat) (b25 : Nat) (E : Nat) (Ac : Nat) (Gr : Nat) (rm : Nat) (ki : Nat → Int32) (fr : Nat → Int32) (to : Nat → Int32) (e0 : Int32) (hAc : Ac ≤ 100) (hno : ¬ (vp_in e0 Ac ∧ ki e0.toNatClampNeg = 3)) : CI l D cI cZ cR yX6_turn wsX6_turn { frames := 1, cells := 0, slots := 0, locals := 21 } [.ref y0, .int e0] (wc (cO y0 6 [.int (nI E), .int (nI Ac), .int (nI Gr), .ref b3, .ref b4, .ref b5, .ref b6, .ref b7, .ref b8, .ref b9, .ref b10, .ref b11, .ref b12, .ref b13, .ref b14, .ref b15, .ref b16, .ref b17, .ref b18, .ref b19, .ref b20, .ref b21, .ref b22, .int (nI rm), .ref b24, .ref b25]) (wc (cA b6 cI 100 ki) (wc (cA b7 cI 100 fr) (wc (cA b8 cI 100 to) wN)))) (fun (r : Int32) (u : Unit) => r = 0) (fun (u : Unit) => (wc (cO y0 6 [.int (nI E), .int (nI Ac), .int (nI Gr), .ref b3, .ref b4, .ref b5, .ref b6, .ref b7, .ref b8, .ref b9, .ref b10, .ref b11, .ref b12, .ref b13, .ref b14, .ref b15, .ref b16, .ref b17, .ref b18, .ref b19, .ref b20, .ref b21, .ref b22, .int (nI rm), .ref b24, .ref b25]) (wc (cA b6 cI 100 ki) (wc (cA b7 cI 100 fr) (wc (cA b8 cI 100 to) wN))))) := by
  intro sz9
  refine en_W (Qc := fun A => va_Qi (fun (r : Int32) (u : Unit) => r = 0) (sB D cI cZ cR (fun (u : Unit) => (wc (cO y0 6 [.int (nI E), .int (nI Ac), .int (nI Gr), .ref b3, .ref b4, .ref b5, .ref b6, .ref b7, .ref b8, .ref b9, .ref b10, .ref b11, .ref b12, .ref b13, .ref b14, .ref b15, .ref b16, .ref b17, .ref b18, .ref b19, .ref b20, .ref b21, .ref b22, .int (nI rm), .ref b24, .ref b25]) (wc (cA b6 cI 100 ki) (wc (cA b7 cI 100 fr) (wc (cA b8 cI 100 to) wN))))) A) A) (cc := cX6_turn) (maxL := 3) (ret := (some .boolean)) (by decide) rfl (Nat.le_of_ble_eq_true rfl) ?_
  intro p e s m below meth c A ls hx hb hr hts hown hlocks hin hml hK hP hD hS hA hl
  have hown : s.vm.findClass RX6 = some m.cls := hown
  have hl : lv_has ls 3 [(0, .ref y0), (1, .int e0)] := hl
  have kw_0 := hts (.fieldLink RX6 19 "DelayDeskModel" "kind" "[I") (List.mem_of_getElem? (i := 1) rfl)
  have iX6 : ∀ w ∈ u_ws RX6 TX6 26, w ∈ wsX6_turn := fun _ h9 => (List.mem_cons_of_mem _ (List.mem_append_right _ h9))
  refine lv_aload_n hx hb dX6_turn_0 rfl (lv_at hl 0 rfl) ?_
  refine lv_iload_n hx hb dX6_turn_1 rfl (lv_at hl 1 rfl) ?_
  refine cl_i (wr := (wc (cA b6 cI 100 ki) (wc (cA b7 cI 100 fr) (wc (cA b8 cI 100 to) wN)))) (va_runV (As := [.int e0]) (rest := []) ⟨hx, hb, hml, hown, hts⟩ (c_m_isActivity l D cI cZ cR y0 b3 b4 b5 b6 b7 b8 b9 b10 b11 b12 b13 b14 b15 b16 b17 b18 b19 b20 b21 b22 b24 b25 E Ac Gr rm e0 (by omega) s.heap.size) (cwV 1 hts gX6_turn_X6_isActivity rfl rfl rfl hd_X6_isActivity ⟨Nat.le_of_ble_eq_true rfl, Nat.le_of_ble_eq_true rfl⟩) (pV 6 0 hK hP hD [0] rfl (by decide) rfl rfl) rfl rfl hl.1 rfl (lv_room (Nat.le_of_ble_eq_true rfl)) dX6_turn_2 ⟨Nat.le_of_ble_eq_true rfl, Nat.le_of_ble_eq_true rfl⟩) hP hD hS hA [0] [1, 2, 3] rfl rfl (by decide) (by decide) (fun r_2 u_2 H locs hw_2 hP hD hS => ?_)
  have hP : va_P D vwCl (wc (cA b6 cI 100 ki) (wc (cA b7 cI 100 fr) (wc (cA b8 cI 100 to) (wc (cO y0 6 [.int (nI E), .int (nI Ac), .int (nI Gr), .ref b3, .ref b4, .ref b5, .ref b6, .ref b7, .ref b8, .ref b9, .ref b10, .ref b11, .ref b12, .ref b13, .ref b14, .ref b15, .ref b16, .ref b17, .ref b18, .ref b19, .ref b20, .ref b21, .ref b22, .int (nI rm), .ref b24, .ref b25]) wN)))) H := hP
  have hD : va_D A (wc (cA b6 cI 100 ki) (wc (cA b7 cI 100 fr) (wc (cA b8 cI 100 to) (wc (cO y0 6 [.int (nI E), .int (nI Ac), .int (nI Gr), .ref b3, .ref b4, .ref b5, .ref b6, .ref b7, .ref b8, .ref b9, .ref b10, .ref b11, .ref b12, .ref b13, .ref b14, .ref b15, .ref b16, .ref b17, .ref b18, .ref b19, .ref b20, .ref b21, .ref b22, .int (nI rm), .ref b24, .ref b25]) wN)))) := hD
  rcases hw_2 with ⟨rfl, hf_2⟩ | ⟨rfl, hf_2⟩
  · refine lv_if_eq (tgt := 18) hx hb dX6_turn_5 (by decide) (fun c_5 => absurd c_5 (by decide)) (fun c_5 => ?_)
    refine lv_aload_n hx hb dX6_turn_8 rfl (lv_at hl 0 rfl) ?_
    refine va_get (D := D) (ci := 6) (v := .ref b6) (C := RX6) (T := TX6) (N := 26) hx hb hts iX6 hown hK.1 hP 3 rfl rfl 6 (by decide) kw_0 (fun _ h9 => h9) rfl dX6_turn_9 ?_
    refine lv_iload_n hx hb dX6_turn_12 rfl (lv_at hl 1 rfl) ?_
    refine va_iald hx hb hK.1 hP 0 0 rfl rfl (by first | with_reducible assumption | exact vp_le (by with_reducible assumption) (by omega)) dX6_turn_13 ?_
    refine lv_iconst (v := 3) hx hb dX6_turn_14 (by decide) ?_
    refine lv_icmp_eq (tgt := 20) hx hb dX6_turn_15 (by decide) (fun c_15 => (hno ⟨hf_2, c_15⟩).elim) (fun c_15 => ?_)
    refine lv_iconst (v := 0) hx hb dX6_turn_18 (by decide) ?_
    exact en_z () hx hb hr hlocks hK (hP.sub [3, 0, 1, 2] rfl) (hD.sub [3, 0, 1, 2] (by decide) rfl) hS (Nat.le_of_ble_eq_true rfl) (Nat.le_of_ble_eq_true rfl) dX6_turn_19 rfl (rfl)
  · refine lv_if_eq (tgt := 18) hx hb dX6_turn_5 (by decide) (fun c_5 => ?_) (fun c_5 => absurd (by decide) c_5)
    refine lv_iconst (v := 0) hx hb dX6_turn_18 (by decide) ?_
    exact en_z () hx hb hr hlocks hK (hP.sub [3, 0, 1, 2] rfl) (hD.sub [3, 0, 1, 2] (by decide) rfl) hS (Nat.le_of_ble_eq_true rfl) (Nat.le_of_ble_eq_true rfl) dX6_turn_19 rfl (rfl)
set_option maxHeartbeats 300000 in
set_option maxRecDepth 100000 in
theorem c_m_cancel_ok (l : Launch) (D : va_G) (cI cZ cR : ClassId) (y0 : Nat) (b3 : Nat) (b4 : Nat) (b5 : Nat) (b6 : Nat) (b7 : Nat) (b8 : Nat) (b9 : Nat) (b10 : Nat) (b11 : Nat) (b12 : Nat) (b13 : Nat) (b14 : Nat) (b15 : Nat) (b16 : Nat) (b17 : Nat) (b18 : Nat) (b19 : Nat) (b20 : Nat) (b21 : Nat) (b22 : Nat) (b24 : Nat) (b25 : Nat) (E : Nat) (Ac : Nat) (Gr : Nat) (rm : Nat) (ca : Nat → Int32) (t1 : Int32) (b1 : Int32) (hok : ((0 ≤ t1 ∧ t1 ≤ 15) ∧ ¬ ca t1.toNatClampNeg = b1)) : CI l D cI cZ cR yX6_cancel wsX6_cancel { frames := 0, cells := 0, slots := 0, locals := 0 } [.ref y0, .int t1, .int b1] (wc (cO y0 6 [.int (nI E), .int (nI Ac), .int (nI Gr), .ref b3, .ref b4, .ref b5, .ref b6, .ref b7, .ref b8, .ref b9, .ref b10, .ref b11, .ref b12, .ref b13, .ref b14, .ref b15, .ref b16, .ref b17, .ref b18, .ref b19, .ref b20, .ref b21, .ref b22, .int (nI rm), .ref b24, .ref b25]) (wc (cA b11 cZ 16 ca) wN)) (fun (r : Int32) (u : Unit) => r = 1) (fun (u : Unit) => (wc (cO y0 6 [.int (nI E), .int (nI Ac), .int (nI Gr), .ref b3, .ref b4, .ref b5, .ref b6, .ref b7, .ref b8, .ref b9, .ref b10, .ref b11, .ref b12, .ref b13, .ref b14, .ref b15, .ref b16, .ref b17, .ref b18, .ref b19, .ref b20, .ref b21, .ref b22, .int (nI rm), .ref b24, .ref b25]) (wc (cA b11 cZ 16 (upd ca t1.toNatClampNeg (vp_nar .boolean b1))) wN))) := by
  intro sz9
  refine en_W (Qc := fun A => va_Qi (fun (r : Int32) (u : Unit) => r = 1) (sB D cI cZ cR (fun (u : Unit) => (wc (cO y0 6 [.int (nI E), .int (nI Ac), .int (nI Gr), .ref b3, .ref b4, .ref b5, .ref b6, .ref b7, .ref b8, .ref b9, .ref b10, .ref b11, .ref b12, .ref b13, .ref b14, .ref b15, .ref b16, .ref b17, .ref b18, .ref b19, .ref b20, .ref b21, .ref b22, .int (nI rm), .ref b24, .ref b25]) (wc (cA b11 cZ 16 (upd ca t1.toNatClampNeg (vp_nar .boolean b1))) wN))) A) A) (cc := cX6_cancel) (maxL := 3) (ret := (some .boolean)) (by decide) rfl (Nat.le_of_ble_eq_true rfl) ?_
  intro p e s m below meth c A ls hx hb hr hts hown hlocks hin hml hK hP hD hS hA hl
  have hown : s.vm.findClass RX6 = some m.cls := hown
  have hl : lv_has ls 3 [(0, .ref y0), (1, .int t1), (2, .int b1)] := hl
  have kw_0 := hts (.fieldLink RX6 35 "DelayDeskModel" "isCancelled" "[Z") (List.mem_of_getElem? (i := 1) rfl)
  have iX6 : ∀ w ∈ u_ws RX6 TX6 26, w ∈ wsX6_cancel := fun _ h9 => (List.mem_cons_of_mem _ (List.mem_append_right _ h9))
  refine lv_iload_n hx hb dX6_cancel_0 rfl (lv_at hl 1 rfl) ?_
  refine lv_if_lt (tgt := 20) hx hb dX6_cancel_1 (by decide) (fun c_1 => (ii_a c_1 hok.1).elim) (fun c_1 => ?_)
  refine lv_iload_n hx hb dX6_cancel_4 rfl (lv_at hl 1 rfl) ?_
  refine lv_bipush (v := 16) hx hb dX6_cancel_5 (by decide) ?_
  refine lv_icmp_ge (tgt := 20) hx hb dX6_cancel_7 (by decide) (fun c_7 => (ii_b (ge16' c_7) hok.1).elim) (fun c_7 => ?_)
  refine lv_aload_n hx hb dX6_cancel_10 rfl (lv_at hl 0 rfl) ?_
  refine va_get (D := D) (ci := 6) (v := .ref b11) (C := RX6) (T := TX6) (N := 26) hx hb hts iX6 hown hK.1 hP 0 rfl rfl 11 (by decide) kw_0 (fun _ h9 => h9) rfl dX6_cancel_11 ?_
  refine lv_iload_n hx hb dX6_cancel_14 rfl (lv_at hl 1 rfl) ?_
  refine va_zald hx hb hK.1 hP 1 1 rfl rfl (in16 hok.1) dX6_cancel_15 ?_
  refine lv_iload_n hx hb dX6_cancel_16 rfl (lv_at hl 2 rfl) ?_
  refine lv_icmp_ne (tgt := 22) hx hb dX6_cancel_17 (by decide) (fun c_17 => ?_) (fun c_17 => (hok.2 c_17).elim)
  refine lv_aload_n hx hb dX6_cancel_22 rfl (lv_at hl 0 rfl) ?_
  refine va_get (D := D) (ci := 6) (v := .ref b11) (C := RX6) (T := TX6) (N := 26) hx hb hts iX6 hown hK.1 hP 0 rfl rfl 11 (by decide) kw_0 (fun _ h9 => h9) rfl dX6_cancel_23 ?_
  refine lv_iload_n hx hb dX6_cancel_26 rfl (lv_at hl 1 rfl) ?_
  refine lv_iload_n hx hb dX6_cancel_27 rfl (lv_at hl 2 rfl) ?_
  refine va_zast hx hb hK.1 hP hD hS 1 1 rfl rfl (in16 hok.1) dX6_cancel_28 (fun H locs hP hD hS => ?_)
  have hP : va_P D vwCl (wc (cO y0 6 [.int (nI E), .int (nI Ac), .int (nI Gr), .ref b3, .ref b4, .ref b5, .ref b6, .ref b7, .ref b8, .ref b9, .ref b10, .ref b11, .ref b12, .ref b13, .ref b14, .ref b15, .ref b16, .ref b17, .ref b18, .ref b19, .ref b20, .ref b21, .ref b22, .int (nI rm), .ref b24, .ref b25]) (wc (cA b11 cZ 16 (upd ca t1.toNatClampNeg (vp_nar .boolean b1))) wN)) H := hP
  have hD : va_D A (wc (cO y0 6 [.int (nI E), .int (nI Ac), .int (nI Gr), .ref b3, .ref b4, .ref b5, .ref b6, .ref b7, .ref b8, .ref b9, .ref b10, .ref b11, .ref b12, .ref b13, .ref b14, .ref b15, .ref b16, .ref b17, .ref b18, .ref b19, .ref b20, .ref b21, .ref b22, .int (nI rm), .ref b24, .ref b25]) (wc (cA b11 cZ 16 (upd ca t1.toNatClampNeg (vp_nar .boolean b1))) wN)) := hD
  refine lv_iconst (v := 1) hx hb dX6_cancel_29 (by decide) ?_
  exact en_z () hx hb hr hlocks hK (hP.sub [0, 1] rfl) (hD.sub [0, 1] (by decide) rfl) hS (Nat.le_of_ble_eq_true rfl) (Nat.le_of_ble_eq_true rfl) dX6_cancel_30 rfl (rfl)
set_option maxHeartbeats 300000 in
set_option maxRecDepth 100000 in
theorem c_m_cancel_no (l : Launch) (D : va_G) (cI cZ cR : ClassId) (y0 : Nat) (b3 : Nat) (b4 : Nat) (b5 : Nat) (b6 : Nat) (b7 : Nat) (b8 : Nat) (b9 : Nat) (b10 : Nat) (b11 : Nat) (b12 : Nat) (b13 : Nat) (b14 : Nat) (b15 : Nat) (b16 : Nat) (b17 : Nat) (b18 : Nat) (b19 : Nat) (b20 : Nat) (b21 : Nat) (b22 : Nat) (b24 : Nat) (b25 : Nat) (E : Nat) (Ac : Nat) (Gr : Nat) (rm : Nat) (ca : Nat → Int32) (t1 : Int32) (b1 : Int32) (hno : ¬ ((0 ≤ t1 ∧ t1 ≤ 15) ∧ ¬ ca t1.toNatClampNeg = b1)) : CI l D cI cZ cR yX6_cancel wsX6_cancel { frames := 0, cells := 0, slots := 0, locals := 0 } [.ref y0, .int t1, .int b1] (wc (cO y0 6 [.int (nI E), .int (nI Ac), .int (nI Gr), .ref b3, .ref b4, .ref b5, .ref b6, .ref b7, .ref b8, .ref b9, .ref b10, .ref b11, .ref b12, .ref b13, .ref b14, .ref b15, .ref b16, .ref b17, .ref b18, .ref b19, .ref b20, .ref b21, .ref b22, .int (nI rm), .ref b24, .ref b25]) (wc (cA b11 cZ 16 ca) wN)) (fun (r : Int32) (u : Unit) => r = 0) (fun (u : Unit) => (wc (cO y0 6 [.int (nI E), .int (nI Ac), .int (nI Gr), .ref b3, .ref b4, .ref b5, .ref b6, .ref b7, .ref b8, .ref b9, .ref b10, .ref b11, .ref b12, .ref b13, .ref b14, .ref b15, .ref b16, .ref b17, .ref b18, .ref b19, .ref b20, .ref b21, .ref b22, .int (nI rm), .ref b24, .ref b25]) (wc (cA b11 cZ 16 ca) wN))) := by
  intro sz9
  refine en_W (Qc := fun A => va_Qi (fun (r : Int32) (u : Unit) => r = 0) (sB D cI cZ cR (fun (u : Unit) => (wc (cO y0 6 [.int (nI E), .int (nI Ac), .int (nI Gr), .ref b3, .ref b4, .ref b5, .ref b6, .ref b7, .ref b8, .ref b9, .ref b10, .ref b11, .ref b12, .ref b13, .ref b14, .ref b15, .ref b16, .ref b17, .ref b18, .ref b19, .ref b20, .ref b21, .ref b22, .int (nI rm), .ref b24, .ref b25]) (wc (cA b11 cZ 16 ca) wN))) A) A) (cc := cX6_cancel) (maxL := 3) (ret := (some .boolean)) (by decide) rfl (Nat.le_of_ble_eq_true rfl) ?_
  intro p e s m below meth c A ls hx hb hr hts hown hlocks hin hml hK hP hD hS hA hl
  have hown : s.vm.findClass RX6 = some m.cls := hown
  have hl : lv_has ls 3 [(0, .ref y0), (1, .int t1), (2, .int b1)] := hl
  have kw_0 := hts (.fieldLink RX6 35 "DelayDeskModel" "isCancelled" "[Z") (List.mem_of_getElem? (i := 1) rfl)
  have iX6 : ∀ w ∈ u_ws RX6 TX6 26, w ∈ wsX6_cancel := fun _ h9 => (List.mem_cons_of_mem _ (List.mem_append_right _ h9))
  refine lv_iload_n hx hb dX6_cancel_0 rfl (lv_at hl 1 rfl) ?_
  refine lv_if_lt (tgt := 20) hx hb dX6_cancel_1 (by decide) (fun c_1 => ?_) (fun c_1 => ?_)
  · refine lv_iconst (v := 0) hx hb dX6_cancel_20 (by decide) ?_
    exact en_z () hx hb hr hlocks hK (hP.sub [0, 1] rfl) (hD.sub [0, 1] (by decide) rfl) hS (Nat.le_of_ble_eq_true rfl) (Nat.le_of_ble_eq_true rfl) dX6_cancel_21 rfl (rfl)
  · refine lv_iload_n hx hb dX6_cancel_4 rfl (lv_at hl 1 rfl) ?_
    refine lv_bipush (v := 16) hx hb dX6_cancel_5 (by decide) ?_
    refine lv_icmp_ge (tgt := 20) hx hb dX6_cancel_7 (by decide) (fun c_7 => ?_) (fun c_7 => ?_)
    · refine lv_iconst (v := 0) hx hb dX6_cancel_20 (by decide) ?_
      exact en_z () hx hb hr hlocks hK (hP.sub [0, 1] rfl) (hD.sub [0, 1] (by decide) rfl) hS (Nat.le_of_ble_eq_true rfl) (Nat.le_of_ble_eq_true rfl) dX6_cancel_21 rfl (rfl)
    · refine lv_aload_n hx hb dX6_cancel_10 rfl (lv_at hl 0 rfl) ?_
      refine va_get (D := D) (ci := 6) (v := .ref b11) (C := RX6) (T := TX6) (N := 26) hx hb hts iX6 hown hK.1 hP 0 rfl rfl 11 (by decide) kw_0 (fun _ h9 => h9) rfl dX6_cancel_11 ?_
      refine lv_iload_n hx hb dX6_cancel_14 rfl (lv_at hl 1 rfl) ?_
      refine va_zald hx hb hK.1 hP 1 1 rfl rfl (in16 (ii_1 c_1 (ge16 c_7))) dX6_cancel_15 ?_
      refine lv_iload_n hx hb dX6_cancel_16 rfl (lv_at hl 2 rfl) ?_
      refine lv_icmp_ne (tgt := 22) hx hb dX6_cancel_17 (by decide) (fun c_17 => (hno ⟨ii_1 c_1 (ge16 c_7), c_17⟩).elim) (fun c_17 => ?_)
      refine lv_iconst (v := 0) hx hb dX6_cancel_20 (by decide) ?_
      exact en_z () hx hb hr hlocks hK (hP.sub [0, 1] rfl) (hD.sub [0, 1] (by decide) rfl) hS (Nat.le_of_ble_eq_true rfl) (Nat.le_of_ble_eq_true rfl) dX6_cancel_21 rfl (rfl)
set_option maxHeartbeats 300000 in
set_option maxRecDepth 100000 in
theorem c_m_group_ok (l : Launch) (D : va_G) (cI cZ cR : ClassId) (y0 : Nat) (b3 : Nat) (b4 : Nat) (b5 : Nat) (b6 : Nat) (b7 : Nat) (b8 : Nat) (b9 : Nat) (b10 : Nat) (b11 : Nat) (b12 : Nat) (b13 : Nat) (b14 : Nat) (b15 : Nat) (b16 : Nat) (b17 : Nat) (b18 : Nat) (b19 : Nat) (b20 : Nat) (b21 : Nat) (b22 : Nat) (b24 : Nat) (b25 : Nat) (E : Nat) (Ac : Nat) (Gr : Nat) (rm : Nat) (tr : Nat → Int32) (ki : Nat → Int32) (fr : Nat → Int32) (to : Nat → Int32) (mn : Nat → Int32) (fi : Nat → Int32) (c1 : Nat → Int32) (c2 : Nat → Int32) (la : Nat → Int32) (wt : Nat → Int32) (g1 : Int32) (g2 : Int32) (g3 : Int32) (g4 : Int32) (g5 : Int32) (g6 : Int32) (hE : E ≤ 60) (hAc : Ac ≤ 100) (htr : ∀ i, i < E → vp_in (tr i) 16) (hfr : ∀ i, i < Ac → vp_in (fr i) E) (hto : ∀ i, i < Ac → vp_in (to i) E) (hGr : Gr < 30) (hok : ((1 ≤ g1 ∧ g1 ≤ 1000) ∧ (0 ≤ g6 ∧ g6 ≤ 1000) ∧ kGo E Ac tr ki fr to g2 g3 g4 g5)) : CI l D cI cZ cR yX6_group wsX6_group { frames := 2, cells := 0, slots := 0, locals := 42 } [.ref y0, .int g1, .int g2, .int g3, .int g4, .int g5, .int g6] (wc (cO y0 6 [.int (nI E), .int (nI Ac), .int (nI Gr), .ref b3, .ref b4, .ref b5, .ref b6, .ref b7, .ref b8, .ref b9, .ref b10, .ref b11, .ref b12, .ref b13, .ref b14, .ref b15, .ref b16, .ref b17, .ref b18, .ref b19, .ref b20, .ref b21, .ref b22, .int (nI rm), .ref b24, .ref b25]) (wc (cA b3 cI 60 tr) (wc (cA b6 cI 100 ki) (wc (cA b7 cI 100 fr) (wc (cA b8 cI 100 to) (wc (cA b12 cI 30 mn) (wc (cA b13 cI 30 fi) (wc (cA b14 cI 30 c1) (wc (cA b15 cI 30 c2) (wc (cA b16 cI 30 la) (wc (cA b17 cI 30 wt) wN))))))))))) (fun (r : Int32) (u : Unit) => r = (nI Gr)) (fun (u : Unit) => (wc (cO y0 6 [.int (nI E), .int (nI Ac), .int (nI (Gr + 1)), .ref b3, .ref b4, .ref b5, .ref b6, .ref b7, .ref b8, .ref b9, .ref b10, .ref b11, .ref b12, .ref b13, .ref b14, .ref b15, .ref b16, .ref b17, .ref b18, .ref b19, .ref b20, .ref b21, .ref b22, .int (nI rm), .ref b24, .ref b25]) (wc (cA b3 cI 60 tr) (wc (cA b6 cI 100 ki) (wc (cA b7 cI 100 fr) (wc (cA b8 cI 100 to) (wc (cA b12 cI 30 (upd mn Gr g1)) (wc (cA b13 cI 30 (upd fi Gr g2)) (wc (cA b14 cI 30 (upd c1 Gr g3)) (wc (cA b15 cI 30 (upd c2 Gr g4)) (wc (cA b16 cI 30 (upd la Gr g5)) (wc (cA b17 cI 30 (upd wt Gr g6)) wN)))))))))))) := by
  intro sz9
  refine en_W (Qc := fun A => va_Qi (fun (r : Int32) (u : Unit) => r = (nI Gr)) (sB D cI cZ cR (fun (u : Unit) => (wc (cO y0 6 [.int (nI E), .int (nI Ac), .int (nI (Gr + 1)), .ref b3, .ref b4, .ref b5, .ref b6, .ref b7, .ref b8, .ref b9, .ref b10, .ref b11, .ref b12, .ref b13, .ref b14, .ref b15, .ref b16, .ref b17, .ref b18, .ref b19, .ref b20, .ref b21, .ref b22, .int (nI rm), .ref b24, .ref b25]) (wc (cA b3 cI 60 tr) (wc (cA b6 cI 100 ki) (wc (cA b7 cI 100 fr) (wc (cA b8 cI 100 to) (wc (cA b12 cI 30 (upd mn Gr g1)) (wc (cA b13 cI 30 (upd fi Gr g2)) (wc (cA b14 cI 30 (upd c1 Gr g3)) (wc (cA b15 cI 30 (upd c2 Gr g4)) (wc (cA b16 cI 30 (upd la Gr g5)) (wc (cA b17 cI 30 (upd wt Gr g6)) wN)))))))))))) A) A) (cc := cX6_group) (maxL := 8) (ret := (some .int)) (by decide) rfl (Nat.le_of_ble_eq_true rfl) ?_
  intro p e s m below meth c A ls hx hb hr hts hown hlocks hin hml hK hP hD hS hA hl
  have hown : s.vm.findClass RX6 = some m.cls := hown
  have hl : lv_has ls 8 [(0, .ref y0), (1, .int g1), (2, .int g2), (3, .int g3), (4, .int g4), (5, .int g5), (6, .int g6)] := hl
  have kw_0 := hts (.fieldLink RX6 97 "DelayDeskModel" "groups" "I") (List.mem_of_getElem? (i := 1) rfl)
  have iX6 : ∀ w ∈ u_ws RX6 TX6 26, w ∈ wsX6_group := fun _ h9 => (List.mem_cons_of_mem _ (List.mem_append_right _ h9))
  have kw_2 := hts (.fieldLink RX6 7 "DelayDeskModel" "train" "[I") (List.mem_of_getElem? (i := 2) rfl)
  have kw_3 := hts (.fieldLink RX6 38 "DelayDeskModel" "many" "[I") (List.mem_of_getElem? (i := 5) rfl)
  have kw_4 := hts (.fieldLink RX6 41 "DelayDeskModel" "first" "[I") (List.mem_of_getElem? (i := 6) rfl)
  have kw_5 := hts (.fieldLink RX6 44 "DelayDeskModel" "one" "[I") (List.mem_of_getElem? (i := 7) rfl)
  have kw_6 := hts (.fieldLink RX6 47 "DelayDeskModel" "two" "[I") (List.mem_of_getElem? (i := 8) rfl)
  have kw_7 := hts (.fieldLink RX6 50 "DelayDeskModel" "last" "[I") (List.mem_of_getElem? (i := 9) rfl)
  have kw_8 := hts (.fieldLink RX6 53 "DelayDeskModel" "waiting" "[I") (List.mem_of_getElem? (i := 10) rfl)
  have kw_9 := hts (.fieldLink RX6 22 "DelayDeskModel" "from" "[I") (List.mem_of_getElem? (i := 3) rfl)
  have kw_10 := hts (.fieldLink RX6 25 "DelayDeskModel" "to" "[I") (List.mem_of_getElem? (i := 4) rfl)
  refine lv_aload_n hx hb dX6_group_0 rfl (lv_at hl 0 rfl) ?_
  refine va_get (D := D) (ci := 6) (v := .int (nI Gr)) (C := RX6) (T := TX6) (N := 26) hx hb hts iX6 hown hK.1 hP 0 rfl rfl 2 (by decide) kw_0 (fun _ h9 => h9) rfl dX6_group_1 ?_
  refine lv_bipush (v := 30) hx hb dX6_group_4 (by decide) ?_
  refine lv_icmp_eq (tgt := 51) hx hb dX6_group_6 (by decide) (fun c_6 => ((show ¬ Gr = 30 by omega) ((nI_eq (a := Gr) (b := 30) (by omega) (by omega)).mp c_6)).elim) (fun c_6 => ?_)
  refine lv_iload_n hx hb dX6_group_9 rfl (lv_at hl 1 rfl) ?_
  refine lv_iconst (v := 1) hx hb dX6_group_10 (by decide) ?_
  refine lv_icmp_lt (tgt := 51) hx hb dX6_group_11 (by decide) (fun c_11 => (ii_a c_11 hok.1).elim) (fun c_11 => ?_)
  refine lv_iload_n hx hb dX6_group_14 rfl (lv_at hl 1 rfl) ?_
  refine lv_sipush (v := 1000) hx hb dX6_group_15 (by decide) ?_
  refine lv_icmp_gt (tgt := 51) hx hb dX6_group_18 (by decide) (fun c_18 => (ii_b c_18 hok.1).elim) (fun c_18 => ?_)
  refine lv_aload_n hx hb dX6_group_21 rfl (lv_at hl 0 rfl) ?_
  refine lv_iload_n hx hb dX6_group_22 rfl (lv_at hl 2 rfl) ?_
  refine cl_i (wr := (wc (cA b3 cI 60 tr) (wc (cA b6 cI 100 ki) (wc (cA b7 cI 100 fr) (wc (cA b8 cI 100 to) (wc (cA b12 cI 30 mn) (wc (cA b13 cI 30 fi) (wc (cA b14 cI 30 c1) (wc (cA b15 cI 30 c2) (wc (cA b16 cI 30 la) (wc (cA b17 cI 30 wt) wN))))))))))) (va_runV (As := [.int g2]) (rest := []) ⟨hx, hb, hml, hown, hts⟩ (c_m_isEvent l D cI cZ cR y0 b3 b4 b5 b6 b7 b8 b9 b10 b11 b12 b13 b14 b15 b16 b17 b18 b19 b20 b21 b22 b24 b25 E Ac Gr rm g2 (by omega) s.heap.size) (cwV 1 hts gX6_group_X6_isEvent rfl rfl rfl hd_X6_isEvent ⟨Nat.le_of_ble_eq_true rfl, Nat.le_of_ble_eq_true rfl⟩) (pV 6 0 hK hP hD [0] rfl (by decide) rfl rfl) rfl rfl hl.1 rfl (lv_room (Nat.le_of_ble_eq_true rfl)) dX6_group_23 ⟨Nat.le_of_ble_eq_true rfl, Nat.le_of_ble_eq_true rfl⟩) hP hD hS hA [0] [1, 2, 3, 4, 5, 6, 7, 8, 9, 10] rfl rfl (by decide) (by decide) (fun r_23 u_23 H locs hw_23 hP hD hS => ?_)
  have hP : va_P D vwCl (wc (cA b3 cI 60 tr) (wc (cA b6 cI 100 ki) (wc (cA b7 cI 100 fr) (wc (cA b8 cI 100 to) (wc (cA b12 cI 30 mn) (wc (cA b13 cI 30 fi) (wc (cA b14 cI 30 c1) (wc (cA b15 cI 30 c2) (wc (cA b16 cI 30 la) (wc (cA b17 cI 30 wt) (wc (cO y0 6 [.int (nI E), .int (nI Ac), .int (nI Gr), .ref b3, .ref b4, .ref b5, .ref b6, .ref b7, .ref b8, .ref b9, .ref b10, .ref b11, .ref b12, .ref b13, .ref b14, .ref b15, .ref b16, .ref b17, .ref b18, .ref b19, .ref b20, .ref b21, .ref b22, .int (nI rm), .ref b24, .ref b25]) wN))))))))))) H := hP
  have hD : va_D A (wc (cA b3 cI 60 tr) (wc (cA b6 cI 100 ki) (wc (cA b7 cI 100 fr) (wc (cA b8 cI 100 to) (wc (cA b12 cI 30 mn) (wc (cA b13 cI 30 fi) (wc (cA b14 cI 30 c1) (wc (cA b15 cI 30 c2) (wc (cA b16 cI 30 la) (wc (cA b17 cI 30 wt) (wc (cO y0 6 [.int (nI E), .int (nI Ac), .int (nI Gr), .ref b3, .ref b4, .ref b5, .ref b6, .ref b7, .ref b8, .ref b9, .ref b10, .ref b11, .ref b12, .ref b13, .ref b14, .ref b15, .ref b16, .ref b17, .ref b18, .ref b19, .ref b20, .ref b21, .ref b22, .int (nI rm), .ref b24, .ref b25]) wN))))))))))) := hD
  rcases hw_23 with ⟨rfl, hf_23⟩ | ⟨rfl, hf_23⟩
  · refine lv_if_eq (tgt := 51) hx hb dX6_group_26 (by decide) (fun c_26 => absurd c_26 (by decide)) (fun c_26 => ?_)
    refine lv_aload_n hx hb dX6_group_29 rfl (lv_at hl 0 rfl) ?_
    refine lv_iload hx hb dX6_group_30 (lv_at hl 5 rfl) ?_
    refine cl_i (wr := (wc (cA b3 cI 60 tr) (wc (cA b6 cI 100 ki) (wc (cA b7 cI 100 fr) (wc (cA b8 cI 100 to) (wc (cA b12 cI 30 mn) (wc (cA b13 cI 30 fi) (wc (cA b14 cI 30 c1) (wc (cA b15 cI 30 c2) (wc (cA b16 cI 30 la) (wc (cA b17 cI 30 wt) wN))))))))))) (va_runV (As := [.int g5]) (rest := []) ⟨hx, hb, hml, hown, hts⟩ (c_m_isEvent l D cI cZ cR y0 b3 b4 b5 b6 b7 b8 b9 b10 b11 b12 b13 b14 b15 b16 b17 b18 b19 b20 b21 b22 b24 b25 E Ac Gr rm g5 (by omega) H.size) (cwV 1 hts gX6_group_X6_isEvent rfl rfl rfl hd_X6_isEvent ⟨Nat.le_of_ble_eq_true rfl, Nat.le_of_ble_eq_true rfl⟩) (pV 6 10 hK hP hD [10] rfl (by decide) rfl rfl) rfl rfl hl.1 rfl (lv_room (Nat.le_of_ble_eq_true rfl)) dX6_group_32 ⟨Nat.le_of_ble_eq_true rfl, Nat.le_of_ble_eq_true rfl⟩) hP hD hS hA [10] [0, 1, 2, 3, 4, 5, 6, 7, 8, 9] rfl rfl (by decide) (by decide) (fun r_32 u_32 H locs hw_32 hP hD hS => ?_)
    have hP : va_P D vwCl (wc (cA b3 cI 60 tr) (wc (cA b6 cI 100 ki) (wc (cA b7 cI 100 fr) (wc (cA b8 cI 100 to) (wc (cA b12 cI 30 mn) (wc (cA b13 cI 30 fi) (wc (cA b14 cI 30 c1) (wc (cA b15 cI 30 c2) (wc (cA b16 cI 30 la) (wc (cA b17 cI 30 wt) (wc (cO y0 6 [.int (nI E), .int (nI Ac), .int (nI Gr), .ref b3, .ref b4, .ref b5, .ref b6, .ref b7, .ref b8, .ref b9, .ref b10, .ref b11, .ref b12, .ref b13, .ref b14, .ref b15, .ref b16, .ref b17, .ref b18, .ref b19, .ref b20, .ref b21, .ref b22, .int (nI rm), .ref b24, .ref b25]) wN))))))))))) H := hP
    have hD : va_D A (wc (cA b3 cI 60 tr) (wc (cA b6 cI 100 ki) (wc (cA b7 cI 100 fr) (wc (cA b8 cI 100 to) (wc (cA b12 cI 30 mn) (wc (cA b13 cI 30 fi) (wc (cA b14 cI 30 c1) (wc (cA b15 cI 30 c2) (wc (cA b16 cI 30 la) (wc (cA b17 cI 30 wt) (wc (cO y0 6 [.int (nI E), .int (nI Ac), .int (nI Gr), .ref b3, .ref b4, .ref b5, .ref b6, .ref b7, .ref b8, .ref b9, .ref b10, .ref b11, .ref b12, .ref b13, .ref b14, .ref b15, .ref b16, .ref b17, .ref b18, .ref b19, .ref b20, .ref b21, .ref b22, .int (nI rm), .ref b24, .ref b25]) wN))))))))))) := hD
    rcases hw_32 with ⟨rfl, hf_32⟩ | ⟨rfl, hf_32⟩
    · refine lv_if_eq (tgt := 51) hx hb dX6_group_35 (by decide) (fun c_35 => absurd c_35 (by decide)) (fun c_35 => ?_)
      refine lv_iload hx hb dX6_group_38 (lv_at hl 6 rfl) ?_
      refine lv_if_lt (tgt := 51) hx hb dX6_group_40 (by decide) (fun c_40 => (ii_a c_40 hok.2.1).elim) (fun c_40 => ?_)
      refine lv_iload hx hb dX6_group_43 (lv_at hl 6 rfl) ?_
      refine lv_sipush (v := 1000) hx hb dX6_group_45 (by decide) ?_
      refine lv_icmp_le (tgt := 53) hx hb dX6_group_48 (by decide) (fun c_48 => ?_) (fun c_48 => (c_48 hok.2.1.2).elim)
      refine lv_iload_n hx hb dX6_group_53 rfl (lv_at hl 3 rfl) ?_
      refine lv_iconst (v := (-1)) hx hb dX6_group_54 (by decide) ?_
      refine lv_icmp_eq (tgt := 66) hx hb dX6_group_55 (by decide) (fun c_55 => ?_) (fun c_55 => ?_)
      · refine lv_iload hx hb dX6_group_66 (lv_at hl 4 rfl) ?_
        refine lv_iconst (v := (-1)) hx hb dX6_group_68 (by decide) ?_
        refine lv_icmp_eq (tgt := 88) hx hb dX6_group_69 (by decide) (fun c_69 => ?_) (fun c_69 => ?_)
        · refine lv_aload_n hx hb dX6_group_88 rfl (lv_at hl 0 rfl) ?_
          refine va_get (D := D) (ci := 6) (v := .ref b3) (C := RX6) (T := TX6) (N := 26) hx hb hts iX6 hown hK.1 hP 10 rfl rfl 3 (by decide) kw_2 (fun _ h9 => h9) rfl dX6_group_89 ?_
          refine lv_iload_n hx hb dX6_group_92 rfl (lv_at hl 2 rfl) ?_
          refine va_iald hx hb hK.1 hP 0 0 rfl rfl (by first | with_reducible assumption | exact vp_le (by with_reducible assumption) (by omega)) dX6_group_93 ?_
          have f_93 : vp_in (tr g2.toNatClampNeg) 16 := htr _ (vp_lt (by with_reducible assumption))
          refine lv_istore (lv' := [(7, .int (tr g2.toNatClampNeg)), (0, .ref y0), (1, .int g1), (2, .int g2), (3, .int g3), (4, .int g4), (5, .int g5), (6, .int g6)]) hx hb dX6_group_94 hl (by decide) rfl (fun ls hl => ?_)
          refine lv_iload_n hx hb dX6_group_96 rfl (lv_at hl 4 rfl) ?_
          refine lv_iconst (v := (-1)) hx hb dX6_group_97 (by decide) ?_
          refine lv_icmp_eq (tgt := 132) hx hb dX6_group_98 (by decide) (fun c_98 => ?_) (fun c_98 => (c_98 c_55).elim)
          refine lv_iload hx hb dX6_group_132 (lv_at hl 5 rfl) ?_
          refine lv_iconst (v := (-1)) hx hb dX6_group_134 (by decide) ?_
          refine lv_icmp_eq (tgt := 171) hx hb dX6_group_135 (by decide) (fun c_135 => ?_) (fun c_135 => (c_135 c_69).elim)
          refine lv_aload_n hx hb dX6_group_171 rfl (lv_at hl 1 rfl) ?_
          refine va_get (D := D) (ci := 6) (v := .ref b3) (C := RX6) (T := TX6) (N := 26) hx hb hts iX6 hown hK.1 hP 10 rfl rfl 3 (by decide) kw_2 (fun _ h9 => h9) rfl dX6_group_172 ?_
          refine lv_iload hx hb dX6_group_175 (lv_at hl 6 rfl) ?_
          refine va_iald hx hb hK.1 hP 0 0 rfl rfl (by first | with_reducible assumption | exact vp_le (by with_reducible assumption) (by omega)) dX6_group_177 ?_
          have f_177 : vp_in (tr g5.toNatClampNeg) 16 := htr _ (vp_lt (by with_reducible assumption))
          refine lv_iload hx hb dX6_group_178 (lv_at hl 0 rfl) ?_
          refine lv_icmp_eq (tgt := 185) hx hb dX6_group_180 (by decide) (fun c_180 => ?_) (fun c_180 => (c_180 (by first | exact kg_0 hok.2.2 c_98 | exact kg_1 hok.2.2 c_98 c_135 | exact (kg_b hok.2.2 c_135).2.2.2)).elim)
          refine lv_aload_n hx hb dX6_group_185 rfl (lv_at hl 1 rfl) ?_
          refine va_get (D := D) (ci := 6) (v := .ref b12) (C := RX6) (T := TX6) (N := 26) hx hb hts iX6 hown hK.1 hP 10 rfl rfl 12 (by decide) kw_3 (fun _ h9 => h9) rfl dX6_group_186 ?_
          refine lv_aload_n hx hb dX6_group_189 rfl (lv_at hl 1 rfl) ?_
          refine va_get (D := D) (ci := 6) (v := .int (nI Gr)) (C := RX6) (T := TX6) (N := 26) hx hb hts iX6 hown hK.1 hP 10 rfl rfl 2 (by decide) kw_0 (fun _ h9 => h9) rfl dX6_group_190 ?_
          refine lv_iload_n hx hb dX6_group_193 rfl (lv_at hl 2 rfl) ?_
          refine wa_I hx hb hK hP hD hS 4 rfl (k := Gr) (by omega) (by decide) dX6_group_194 (fun H locs hP hD hS => ?_)
          have hP : va_P D vwCl (wc (cA b3 cI 60 tr) (wc (cA b6 cI 100 ki) (wc (cA b7 cI 100 fr) (wc (cA b8 cI 100 to) (wc (cA b12 cI 30 (upd mn Gr g1)) (wc (cA b13 cI 30 fi) (wc (cA b14 cI 30 c1) (wc (cA b15 cI 30 c2) (wc (cA b16 cI 30 la) (wc (cA b17 cI 30 wt) (wc (cO y0 6 [.int (nI E), .int (nI Ac), .int (nI Gr), .ref b3, .ref b4, .ref b5, .ref b6, .ref b7, .ref b8, .ref b9, .ref b10, .ref b11, .ref b12, .ref b13, .ref b14, .ref b15, .ref b16, .ref b17, .ref b18, .ref b19, .ref b20, .ref b21, .ref b22, .int (nI rm), .ref b24, .ref b25]) wN))))))))))) H := hP
          have hD : va_D A (wc (cA b3 cI 60 tr) (wc (cA b6 cI 100 ki) (wc (cA b7 cI 100 fr) (wc (cA b8 cI 100 to) (wc (cA b12 cI 30 (upd mn Gr g1)) (wc (cA b13 cI 30 fi) (wc (cA b14 cI 30 c1) (wc (cA b15 cI 30 c2) (wc (cA b16 cI 30 la) (wc (cA b17 cI 30 wt) (wc (cO y0 6 [.int (nI E), .int (nI Ac), .int (nI Gr), .ref b3, .ref b4, .ref b5, .ref b6, .ref b7, .ref b8, .ref b9, .ref b10, .ref b11, .ref b12, .ref b13, .ref b14, .ref b15, .ref b16, .ref b17, .ref b18, .ref b19, .ref b20, .ref b21, .ref b22, .int (nI rm), .ref b24, .ref b25]) wN))))))))))) := hD
          refine lv_aload_n hx hb dX6_group_195 rfl (lv_at hl 1 rfl) ?_
          refine va_get (D := D) (ci := 6) (v := .ref b13) (C := RX6) (T := TX6) (N := 26) hx hb hts iX6 hown hK.1 hP 10 rfl rfl 13 (by decide) kw_4 (fun _ h9 => h9) rfl dX6_group_196 ?_
          refine lv_aload_n hx hb dX6_group_199 rfl (lv_at hl 1 rfl) ?_
          refine va_get (D := D) (ci := 6) (v := .int (nI Gr)) (C := RX6) (T := TX6) (N := 26) hx hb hts iX6 hown hK.1 hP 10 rfl rfl 2 (by decide) kw_0 (fun _ h9 => h9) rfl dX6_group_200 ?_
          refine lv_iload_n hx hb dX6_group_203 rfl (lv_at hl 3 rfl) ?_
          refine wa_I hx hb hK hP hD hS 5 rfl (k := Gr) (by omega) (by decide) dX6_group_204 (fun H locs hP hD hS => ?_)
          have hP : va_P D vwCl (wc (cA b3 cI 60 tr) (wc (cA b6 cI 100 ki) (wc (cA b7 cI 100 fr) (wc (cA b8 cI 100 to) (wc (cA b12 cI 30 (upd mn Gr g1)) (wc (cA b13 cI 30 (upd fi Gr g2)) (wc (cA b14 cI 30 c1) (wc (cA b15 cI 30 c2) (wc (cA b16 cI 30 la) (wc (cA b17 cI 30 wt) (wc (cO y0 6 [.int (nI E), .int (nI Ac), .int (nI Gr), .ref b3, .ref b4, .ref b5, .ref b6, .ref b7, .ref b8, .ref b9, .ref b10, .ref b11, .ref b12, .ref b13, .ref b14, .ref b15, .ref b16, .ref b17, .ref b18, .ref b19, .ref b20, .ref b21, .ref b22, .int (nI rm), .ref b24, .ref b25]) wN))))))))))) H := hP
          have hD : va_D A (wc (cA b3 cI 60 tr) (wc (cA b6 cI 100 ki) (wc (cA b7 cI 100 fr) (wc (cA b8 cI 100 to) (wc (cA b12 cI 30 (upd mn Gr g1)) (wc (cA b13 cI 30 (upd fi Gr g2)) (wc (cA b14 cI 30 c1) (wc (cA b15 cI 30 c2) (wc (cA b16 cI 30 la) (wc (cA b17 cI 30 wt) (wc (cO y0 6 [.int (nI E), .int (nI Ac), .int (nI Gr), .ref b3, .ref b4, .ref b5, .ref b6, .ref b7, .ref b8, .ref b9, .ref b10, .ref b11, .ref b12, .ref b13, .ref b14, .ref b15, .ref b16, .ref b17, .ref b18, .ref b19, .ref b20, .ref b21, .ref b22, .int (nI rm), .ref b24, .ref b25]) wN))))))))))) := hD
          refine lv_aload_n hx hb dX6_group_205 rfl (lv_at hl 1 rfl) ?_
          refine va_get (D := D) (ci := 6) (v := .ref b14) (C := RX6) (T := TX6) (N := 26) hx hb hts iX6 hown hK.1 hP 10 rfl rfl 14 (by decide) kw_5 (fun _ h9 => h9) rfl dX6_group_206 ?_
          refine lv_aload_n hx hb dX6_group_209 rfl (lv_at hl 1 rfl) ?_
          refine va_get (D := D) (ci := 6) (v := .int (nI Gr)) (C := RX6) (T := TX6) (N := 26) hx hb hts iX6 hown hK.1 hP 10 rfl rfl 2 (by decide) kw_0 (fun _ h9 => h9) rfl dX6_group_210 ?_
          refine lv_iload_n hx hb dX6_group_213 rfl (lv_at hl 4 rfl) ?_
          refine wa_I hx hb hK hP hD hS 6 rfl (k := Gr) (by omega) (by decide) dX6_group_214 (fun H locs hP hD hS => ?_)
          have hP : va_P D vwCl (wc (cA b3 cI 60 tr) (wc (cA b6 cI 100 ki) (wc (cA b7 cI 100 fr) (wc (cA b8 cI 100 to) (wc (cA b12 cI 30 (upd mn Gr g1)) (wc (cA b13 cI 30 (upd fi Gr g2)) (wc (cA b14 cI 30 (upd c1 Gr g3)) (wc (cA b15 cI 30 c2) (wc (cA b16 cI 30 la) (wc (cA b17 cI 30 wt) (wc (cO y0 6 [.int (nI E), .int (nI Ac), .int (nI Gr), .ref b3, .ref b4, .ref b5, .ref b6, .ref b7, .ref b8, .ref b9, .ref b10, .ref b11, .ref b12, .ref b13, .ref b14, .ref b15, .ref b16, .ref b17, .ref b18, .ref b19, .ref b20, .ref b21, .ref b22, .int (nI rm), .ref b24, .ref b25]) wN))))))))))) H := hP
          have hD : va_D A (wc (cA b3 cI 60 tr) (wc (cA b6 cI 100 ki) (wc (cA b7 cI 100 fr) (wc (cA b8 cI 100 to) (wc (cA b12 cI 30 (upd mn Gr g1)) (wc (cA b13 cI 30 (upd fi Gr g2)) (wc (cA b14 cI 30 (upd c1 Gr g3)) (wc (cA b15 cI 30 c2) (wc (cA b16 cI 30 la) (wc (cA b17 cI 30 wt) (wc (cO y0 6 [.int (nI E), .int (nI Ac), .int (nI Gr), .ref b3, .ref b4, .ref b5, .ref b6, .ref b7, .ref b8, .ref b9, .ref b10, .ref b11, .ref b12, .ref b13, .ref b14, .ref b15, .ref b16, .ref b17, .ref b18, .ref b19, .ref b20, .ref b21, .ref b22, .int (nI rm), .ref b24, .ref b25]) wN))))))))))) := hD
          refine lv_aload_n hx hb dX6_group_215 rfl (lv_at hl 1 rfl) ?_
          refine va_get (D := D) (ci := 6) (v := .ref b15) (C := RX6) (T := TX6) (N := 26) hx hb hts iX6 hown hK.1 hP 10 rfl rfl 15 (by decide) kw_6 (fun _ h9 => h9) rfl dX6_group_216 ?_
          refine lv_aload_n hx hb dX6_group_219 rfl (lv_at hl 1 rfl) ?_
          refine va_get (D := D) (ci := 6) (v := .int (nI Gr)) (C := RX6) (T := TX6) (N := 26) hx hb hts iX6 hown hK.1 hP 10 rfl rfl 2 (by decide) kw_0 (fun _ h9 => h9) rfl dX6_group_220 ?_
          refine lv_iload hx hb dX6_group_223 (lv_at hl 5 rfl) ?_
          refine wa_I hx hb hK hP hD hS 7 rfl (k := Gr) (by omega) (by decide) dX6_group_225 (fun H locs hP hD hS => ?_)
          have hP : va_P D vwCl (wc (cA b3 cI 60 tr) (wc (cA b6 cI 100 ki) (wc (cA b7 cI 100 fr) (wc (cA b8 cI 100 to) (wc (cA b12 cI 30 (upd mn Gr g1)) (wc (cA b13 cI 30 (upd fi Gr g2)) (wc (cA b14 cI 30 (upd c1 Gr g3)) (wc (cA b15 cI 30 (upd c2 Gr g4)) (wc (cA b16 cI 30 la) (wc (cA b17 cI 30 wt) (wc (cO y0 6 [.int (nI E), .int (nI Ac), .int (nI Gr), .ref b3, .ref b4, .ref b5, .ref b6, .ref b7, .ref b8, .ref b9, .ref b10, .ref b11, .ref b12, .ref b13, .ref b14, .ref b15, .ref b16, .ref b17, .ref b18, .ref b19, .ref b20, .ref b21, .ref b22, .int (nI rm), .ref b24, .ref b25]) wN))))))))))) H := hP
          have hD : va_D A (wc (cA b3 cI 60 tr) (wc (cA b6 cI 100 ki) (wc (cA b7 cI 100 fr) (wc (cA b8 cI 100 to) (wc (cA b12 cI 30 (upd mn Gr g1)) (wc (cA b13 cI 30 (upd fi Gr g2)) (wc (cA b14 cI 30 (upd c1 Gr g3)) (wc (cA b15 cI 30 (upd c2 Gr g4)) (wc (cA b16 cI 30 la) (wc (cA b17 cI 30 wt) (wc (cO y0 6 [.int (nI E), .int (nI Ac), .int (nI Gr), .ref b3, .ref b4, .ref b5, .ref b6, .ref b7, .ref b8, .ref b9, .ref b10, .ref b11, .ref b12, .ref b13, .ref b14, .ref b15, .ref b16, .ref b17, .ref b18, .ref b19, .ref b20, .ref b21, .ref b22, .int (nI rm), .ref b24, .ref b25]) wN))))))))))) := hD
          refine lv_aload_n hx hb dX6_group_226 rfl (lv_at hl 1 rfl) ?_
          refine va_get (D := D) (ci := 6) (v := .ref b16) (C := RX6) (T := TX6) (N := 26) hx hb hts iX6 hown hK.1 hP 10 rfl rfl 16 (by decide) kw_7 (fun _ h9 => h9) rfl dX6_group_227 ?_
          refine lv_aload_n hx hb dX6_group_230 rfl (lv_at hl 1 rfl) ?_
          refine va_get (D := D) (ci := 6) (v := .int (nI Gr)) (C := RX6) (T := TX6) (N := 26) hx hb hts iX6 hown hK.1 hP 10 rfl rfl 2 (by decide) kw_0 (fun _ h9 => h9) rfl dX6_group_231 ?_
          refine lv_iload hx hb dX6_group_234 (lv_at hl 6 rfl) ?_
          refine wa_I hx hb hK hP hD hS 8 rfl (k := Gr) (by omega) (by decide) dX6_group_236 (fun H locs hP hD hS => ?_)
          have hP : va_P D vwCl (wc (cA b3 cI 60 tr) (wc (cA b6 cI 100 ki) (wc (cA b7 cI 100 fr) (wc (cA b8 cI 100 to) (wc (cA b12 cI 30 (upd mn Gr g1)) (wc (cA b13 cI 30 (upd fi Gr g2)) (wc (cA b14 cI 30 (upd c1 Gr g3)) (wc (cA b15 cI 30 (upd c2 Gr g4)) (wc (cA b16 cI 30 (upd la Gr g5)) (wc (cA b17 cI 30 wt) (wc (cO y0 6 [.int (nI E), .int (nI Ac), .int (nI Gr), .ref b3, .ref b4, .ref b5, .ref b6, .ref b7, .ref b8, .ref b9, .ref b10, .ref b11, .ref b12, .ref b13, .ref b14, .ref b15, .ref b16, .ref b17, .ref b18, .ref b19, .ref b20, .ref b21, .ref b22, .int (nI rm), .ref b24, .ref b25]) wN))))))))))) H := hP
          have hD : va_D A (wc (cA b3 cI 60 tr) (wc (cA b6 cI 100 ki) (wc (cA b7 cI 100 fr) (wc (cA b8 cI 100 to) (wc (cA b12 cI 30 (upd mn Gr g1)) (wc (cA b13 cI 30 (upd fi Gr g2)) (wc (cA b14 cI 30 (upd c1 Gr g3)) (wc (cA b15 cI 30 (upd c2 Gr g4)) (wc (cA b16 cI 30 (upd la Gr g5)) (wc (cA b17 cI 30 wt) (wc (cO y0 6 [.int (nI E), .int (nI Ac), .int (nI Gr), .ref b3, .ref b4, .ref b5, .ref b6, .ref b7, .ref b8, .ref b9, .ref b10, .ref b11, .ref b12, .ref b13, .ref b14, .ref b15, .ref b16, .ref b17, .ref b18, .ref b19, .ref b20, .ref b21, .ref b22, .int (nI rm), .ref b24, .ref b25]) wN))))))))))) := hD
          refine lv_aload_n hx hb dX6_group_237 rfl (lv_at hl 1 rfl) ?_
          refine va_get (D := D) (ci := 6) (v := .ref b17) (C := RX6) (T := TX6) (N := 26) hx hb hts iX6 hown hK.1 hP 10 rfl rfl 17 (by decide) kw_8 (fun _ h9 => h9) rfl dX6_group_238 ?_
          refine lv_aload_n hx hb dX6_group_241 rfl (lv_at hl 1 rfl) ?_
          refine va_get (D := D) (ci := 6) (v := .int (nI Gr)) (C := RX6) (T := TX6) (N := 26) hx hb hts iX6 hown hK.1 hP 10 rfl rfl 2 (by decide) kw_0 (fun _ h9 => h9) rfl dX6_group_242 ?_
          refine lv_iload hx hb dX6_group_245 (lv_at hl 7 rfl) ?_
          refine wa_I hx hb hK hP hD hS 9 rfl (k := Gr) (by omega) (by decide) dX6_group_247 (fun H locs hP hD hS => ?_)
          have hP : va_P D vwCl (wc (cA b3 cI 60 tr) (wc (cA b6 cI 100 ki) (wc (cA b7 cI 100 fr) (wc (cA b8 cI 100 to) (wc (cA b12 cI 30 (upd mn Gr g1)) (wc (cA b13 cI 30 (upd fi Gr g2)) (wc (cA b14 cI 30 (upd c1 Gr g3)) (wc (cA b15 cI 30 (upd c2 Gr g4)) (wc (cA b16 cI 30 (upd la Gr g5)) (wc (cA b17 cI 30 (upd wt Gr g6)) (wc (cO y0 6 [.int (nI E), .int (nI Ac), .int (nI Gr), .ref b3, .ref b4, .ref b5, .ref b6, .ref b7, .ref b8, .ref b9, .ref b10, .ref b11, .ref b12, .ref b13, .ref b14, .ref b15, .ref b16, .ref b17, .ref b18, .ref b19, .ref b20, .ref b21, .ref b22, .int (nI rm), .ref b24, .ref b25]) wN))))))))))) H := hP
          have hD : va_D A (wc (cA b3 cI 60 tr) (wc (cA b6 cI 100 ki) (wc (cA b7 cI 100 fr) (wc (cA b8 cI 100 to) (wc (cA b12 cI 30 (upd mn Gr g1)) (wc (cA b13 cI 30 (upd fi Gr g2)) (wc (cA b14 cI 30 (upd c1 Gr g3)) (wc (cA b15 cI 30 (upd c2 Gr g4)) (wc (cA b16 cI 30 (upd la Gr g5)) (wc (cA b17 cI 30 (upd wt Gr g6)) (wc (cO y0 6 [.int (nI E), .int (nI Ac), .int (nI Gr), .ref b3, .ref b4, .ref b5, .ref b6, .ref b7, .ref b8, .ref b9, .ref b10, .ref b11, .ref b12, .ref b13, .ref b14, .ref b15, .ref b16, .ref b17, .ref b18, .ref b19, .ref b20, .ref b21, .ref b22, .int (nI rm), .ref b24, .ref b25]) wN))))))))))) := hD
          refine lv_aload_n hx hb dX6_group_248 rfl (lv_at hl 1 rfl) ?_
          refine lv_aload_n hx hb dX6_group_249 rfl (lv_at hl 1 rfl) ?_
          refine va_get (D := D) (ci := 6) (v := .int (nI Gr)) (C := RX6) (T := TX6) (N := 26) hx hb hts iX6 hown hK.1 hP 10 rfl rfl 2 (by decide) kw_0 (fun _ h9 => h9) rfl dX6_group_250 ?_
          refine lv_iconst (v := 1) hx hb dX6_group_253 (by decide) ?_
          refine lv_iadd hx hb dX6_group_254 ?_
          refine W.eq (g2 := F0 m 255 ls [.int (nI (Gr + 1)), .ref y0]) (by first | rw [nI_1] | rw [nI_add] | exact congrArg (fun z => F0 m 255 ls (Value.int z :: _)) (nI_add _ _)) ?_
          refine va_put (D := D) (ci := 6) (v := .int (nI (Gr + 1))) (ty := .int) (C := RX6) (T := TX6) (N := 26) hx hb hts iX6 tyX6 tyX6_ok nmX6 hown hK.1 hP hD hS 10 rfl rfl 2 (by decide) kw_0 (fun _ h9 => h9) rfl (by decide +kernel) rfl rfl (Nat.le_of_ble_eq_true rfl) dX6_group_255 (fun H locs hP hD hS => ?_)
          have hP : va_P D vwCl (wc (cA b3 cI 60 tr) (wc (cA b6 cI 100 ki) (wc (cA b7 cI 100 fr) (wc (cA b8 cI 100 to) (wc (cA b12 cI 30 (upd mn Gr g1)) (wc (cA b13 cI 30 (upd fi Gr g2)) (wc (cA b14 cI 30 (upd c1 Gr g3)) (wc (cA b15 cI 30 (upd c2 Gr g4)) (wc (cA b16 cI 30 (upd la Gr g5)) (wc (cA b17 cI 30 (upd wt Gr g6)) (wc (cO y0 6 [.int (nI E), .int (nI Ac), .int (nI (Gr + 1)), .ref b3, .ref b4, .ref b5, .ref b6, .ref b7, .ref b8, .ref b9, .ref b10, .ref b11, .ref b12, .ref b13, .ref b14, .ref b15, .ref b16, .ref b17, .ref b18, .ref b19, .ref b20, .ref b21, .ref b22, .int (nI rm), .ref b24, .ref b25]) wN))))))))))) H := hP
          have hD : va_D A (wc (cA b3 cI 60 tr) (wc (cA b6 cI 100 ki) (wc (cA b7 cI 100 fr) (wc (cA b8 cI 100 to) (wc (cA b12 cI 30 (upd mn Gr g1)) (wc (cA b13 cI 30 (upd fi Gr g2)) (wc (cA b14 cI 30 (upd c1 Gr g3)) (wc (cA b15 cI 30 (upd c2 Gr g4)) (wc (cA b16 cI 30 (upd la Gr g5)) (wc (cA b17 cI 30 (upd wt Gr g6)) (wc (cO y0 6 [.int (nI E), .int (nI Ac), .int (nI (Gr + 1)), .ref b3, .ref b4, .ref b5, .ref b6, .ref b7, .ref b8, .ref b9, .ref b10, .ref b11, .ref b12, .ref b13, .ref b14, .ref b15, .ref b16, .ref b17, .ref b18, .ref b19, .ref b20, .ref b21, .ref b22, .int (nI rm), .ref b24, .ref b25]) wN))))))))))) := hD
          refine lv_aload_n hx hb dX6_group_258 rfl (lv_at hl 1 rfl) ?_
          refine va_get (D := D) (ci := 6) (v := .int (nI (Gr + 1))) (C := RX6) (T := TX6) (N := 26) hx hb hts iX6 hown hK.1 hP 10 rfl rfl 2 (by decide) kw_0 (fun _ h9 => h9) rfl dX6_group_259 ?_
          refine lv_iconst (v := 1) hx hb dX6_group_262 (by decide) ?_
          refine lv_isub hx hb dX6_group_263 ?_
          refine W.eq (g2 := F0 m 264 ls [.int (nI Gr)]) (by rw [nI_pred]) ?_
          exact en_i () hx hb hr hlocks hK (hP.sub [10, 0, 1, 2, 3, 4, 5, 6, 7, 8, 9] rfl) (hD.sub [10, 0, 1, 2, 3, 4, 5, 6, 7, 8, 9] (by decide) rfl) hS (Nat.le_of_ble_eq_true rfl) (Nat.le_of_ble_eq_true rfl) dX6_group_264 (rfl)
        · refine lv_iload_n hx hb dX6_group_72 rfl (lv_at hl 3 rfl) ?_
          refine lv_iconst (v := (-1)) hx hb dX6_group_73 (by decide) ?_
          refine lv_icmp_eq (tgt := 86) hx hb dX6_group_74 (by decide) (fun c_74 => ?_) (fun c_74 => (c_74 c_55).elim)
          exact ((kg_b hok.2.2 c_69).1 c_55 : False).elim
      · refine lv_aload_n hx hb dX6_group_58 rfl (lv_at hl 0 rfl) ?_
        refine lv_iload_n hx hb dX6_group_59 rfl (lv_at hl 3 rfl) ?_
        refine cl_i (wr := (wc (cA b3 cI 60 tr) (wc (cA b7 cI 100 fr) (wc (cA b8 cI 100 to) (wc (cA b12 cI 30 mn) (wc (cA b13 cI 30 fi) (wc (cA b14 cI 30 c1) (wc (cA b15 cI 30 c2) (wc (cA b16 cI 30 la) (wc (cA b17 cI 30 wt) wN)))))))))) (va_runV (As := [.int g3]) (rest := []) ⟨hx, hb, hml, hown, hts⟩ (c_m_isChange l D cI cZ cR y0 b3 b4 b5 b6 b7 b8 b9 b10 b11 b12 b13 b14 b15 b16 b17 b18 b19 b20 b21 b22 b24 b25 E Ac Gr rm ki g3 (by omega) H.size) (cwV 1 hts gX6_group_X6_isChange rfl rfl rfl hd_X6_isChange ⟨Nat.le_of_ble_eq_true rfl, Nat.le_of_ble_eq_true rfl⟩) (pV 6 10 hK hP hD [10, 1] rfl (by decide) rfl rfl) rfl rfl hl.1 rfl (lv_room (Nat.le_of_ble_eq_true rfl)) dX6_group_60 ⟨Nat.le_of_ble_eq_true rfl, Nat.le_of_ble_eq_true rfl⟩) hP hD hS hA [10, 1] [0, 2, 3, 4, 5, 6, 7, 8, 9] rfl rfl (by decide) (by decide) (fun r_60 u_60 H locs hw_60 hP hD hS => ?_)
        have hP : va_P D vwCl (wc (cA b3 cI 60 tr) (wc (cA b7 cI 100 fr) (wc (cA b8 cI 100 to) (wc (cA b12 cI 30 mn) (wc (cA b13 cI 30 fi) (wc (cA b14 cI 30 c1) (wc (cA b15 cI 30 c2) (wc (cA b16 cI 30 la) (wc (cA b17 cI 30 wt) (wc (cO y0 6 [.int (nI E), .int (nI Ac), .int (nI Gr), .ref b3, .ref b4, .ref b5, .ref b6, .ref b7, .ref b8, .ref b9, .ref b10, .ref b11, .ref b12, .ref b13, .ref b14, .ref b15, .ref b16, .ref b17, .ref b18, .ref b19, .ref b20, .ref b21, .ref b22, .int (nI rm), .ref b24, .ref b25]) (wc (cA b6 cI 100 ki) wN))))))))))) H := hP
        have hD : va_D A (wc (cA b3 cI 60 tr) (wc (cA b7 cI 100 fr) (wc (cA b8 cI 100 to) (wc (cA b12 cI 30 mn) (wc (cA b13 cI 30 fi) (wc (cA b14 cI 30 c1) (wc (cA b15 cI 30 c2) (wc (cA b16 cI 30 la) (wc (cA b17 cI 30 wt) (wc (cO y0 6 [.int (nI E), .int (nI Ac), .int (nI Gr), .ref b3, .ref b4, .ref b5, .ref b6, .ref b7, .ref b8, .ref b9, .ref b10, .ref b11, .ref b12, .ref b13, .ref b14, .ref b15, .ref b16, .ref b17, .ref b18, .ref b19, .ref b20, .ref b21, .ref b22, .int (nI rm), .ref b24, .ref b25]) (wc (cA b6 cI 100 ki) wN))))))))))) := hD
        rcases hw_60 with ⟨rfl, hf_60⟩ | ⟨rfl, hf_60⟩
        · have hv60 : vp_in g3 Ac := hf_60.1
          refine lv_if_eq (tgt := 86) hx hb dX6_group_63 (by decide) (fun c_63 => absurd c_63 (by decide)) (fun c_63 => ?_)
          refine lv_iload hx hb dX6_group_66 (lv_at hl 4 rfl) ?_
          refine lv_iconst (v := (-1)) hx hb dX6_group_68 (by decide) ?_
          refine lv_icmp_eq (tgt := 88) hx hb dX6_group_69 (by decide) (fun c_69 => ?_) (fun c_69 => ?_)
          · refine lv_aload_n hx hb dX6_group_88 rfl (lv_at hl 0 rfl) ?_
            refine va_get (D := D) (ci := 6) (v := .ref b3) (C := RX6) (T := TX6) (N := 26) hx hb hts iX6 hown hK.1 hP 9 rfl rfl 3 (by decide) kw_2 (fun _ h9 => h9) rfl dX6_group_89 ?_
            refine lv_iload_n hx hb dX6_group_92 rfl (lv_at hl 2 rfl) ?_
            refine va_iald hx hb hK.1 hP 0 0 rfl rfl (by first | with_reducible assumption | exact vp_le (by with_reducible assumption) (by omega)) dX6_group_93 ?_
            have f_93 : vp_in (tr g2.toNatClampNeg) 16 := htr _ (vp_lt (by with_reducible assumption))
            refine lv_istore (lv' := [(7, .int (tr g2.toNatClampNeg)), (0, .ref y0), (1, .int g1), (2, .int g2), (3, .int g3), (4, .int g4), (5, .int g5), (6, .int g6)]) hx hb dX6_group_94 hl (by decide) rfl (fun ls hl => ?_)
            refine lv_iload_n hx hb dX6_group_96 rfl (lv_at hl 4 rfl) ?_
            refine lv_iconst (v := (-1)) hx hb dX6_group_97 (by decide) ?_
            refine lv_icmp_eq (tgt := 132) hx hb dX6_group_98 (by decide) (fun c_98 => (c_55 c_98).elim) (fun c_98 => ?_)
            refine lv_aload_n hx hb dX6_group_101 rfl (lv_at hl 1 rfl) ?_
            refine va_get (D := D) (ci := 6) (v := .ref b3) (C := RX6) (T := TX6) (N := 26) hx hb hts iX6 hown hK.1 hP 9 rfl rfl 3 (by decide) kw_2 (fun _ h9 => h9) rfl dX6_group_102 ?_
            refine lv_aload_n hx hb dX6_group_105 rfl (lv_at hl 1 rfl) ?_
            refine va_get (D := D) (ci := 6) (v := .ref b7) (C := RX6) (T := TX6) (N := 26) hx hb hts iX6 hown hK.1 hP 9 rfl rfl 7 (by decide) kw_9 (fun _ h9 => h9) rfl dX6_group_106 ?_
            refine lv_iload_n hx hb dX6_group_109 rfl (lv_at hl 4 rfl) ?_
            refine va_iald hx hb hK.1 hP 1 0 rfl rfl (by first | with_reducible assumption | exact vp_le (by with_reducible assumption) (by omega)) dX6_group_110 ?_
            have f_110 : vp_in (fr g3.toNatClampNeg) E := hfr _ (vp_lt (by with_reducible assumption))
            refine va_iald hx hb hK.1 hP 0 0 rfl rfl (by first | with_reducible assumption | exact vp_le (by with_reducible assumption) (by omega)) dX6_group_111 ?_
            have f_111 : vp_in (tr (fr g3.toNatClampNeg).toNatClampNeg) 16 := htr _ (vp_lt (by with_reducible assumption))
            refine lv_iload hx hb dX6_group_112 (lv_at hl 0 rfl) ?_
            refine lv_icmp_eq (tgt := 119) hx hb dX6_group_114 (by decide) (fun c_114 => ?_) (fun c_114 => (c_114 (kg_a hok.2.2 c_98).2).elim)
            refine lv_aload_n hx hb dX6_group_119 rfl (lv_at hl 1 rfl) ?_
            refine va_get (D := D) (ci := 6) (v := .ref b3) (C := RX6) (T := TX6) (N := 26) hx hb hts iX6 hown hK.1 hP 9 rfl rfl 3 (by decide) kw_2 (fun _ h9 => h9) rfl dX6_group_120 ?_
            refine lv_aload_n hx hb dX6_group_123 rfl (lv_at hl 1 rfl) ?_
            refine va_get (D := D) (ci := 6) (v := .ref b8) (C := RX6) (T := TX6) (N := 26) hx hb hts iX6 hown hK.1 hP 9 rfl rfl 8 (by decide) kw_10 (fun _ h9 => h9) rfl dX6_group_124 ?_
            refine lv_iload_n hx hb dX6_group_127 rfl (lv_at hl 4 rfl) ?_
            refine va_iald hx hb hK.1 hP 2 0 rfl rfl (by first | with_reducible assumption | exact vp_le (by with_reducible assumption) (by omega)) dX6_group_128 ?_
            have f_128 : vp_in (to g3.toNatClampNeg) E := hto _ (vp_lt (by with_reducible assumption))
            refine va_iald hx hb hK.1 hP 0 0 rfl rfl (by first | with_reducible assumption | exact vp_le (by with_reducible assumption) (by omega)) dX6_group_129 ?_
            have f_129 : vp_in (tr (to g3.toNatClampNeg).toNatClampNeg) 16 := htr _ (vp_lt (by with_reducible assumption))
            refine lv_istore (lv' := [(7, .int (tr (to g3.toNatClampNeg).toNatClampNeg)), (0, .ref y0), (1, .int g1), (2, .int g2), (3, .int g3), (4, .int g4), (5, .int g5), (6, .int g6)]) hx hb dX6_group_130 hl (by decide) rfl (fun ls hl => ?_)
            refine lv_iload hx hb dX6_group_132 (lv_at hl 5 rfl) ?_
            refine lv_iconst (v := (-1)) hx hb dX6_group_134 (by decide) ?_
            refine lv_icmp_eq (tgt := 171) hx hb dX6_group_135 (by decide) (fun c_135 => ?_) (fun c_135 => (c_135 c_69).elim)
            refine lv_aload_n hx hb dX6_group_171 rfl (lv_at hl 1 rfl) ?_
            refine va_get (D := D) (ci := 6) (v := .ref b3) (C := RX6) (T := TX6) (N := 26) hx hb hts iX6 hown hK.1 hP 9 rfl rfl 3 (by decide) kw_2 (fun _ h9 => h9) rfl dX6_group_172 ?_
            refine lv_iload hx hb dX6_group_175 (lv_at hl 6 rfl) ?_
            refine va_iald hx hb hK.1 hP 0 0 rfl rfl (by first | with_reducible assumption | exact vp_le (by with_reducible assumption) (by omega)) dX6_group_177 ?_
            have f_177 : vp_in (tr g5.toNatClampNeg) 16 := htr _ (vp_lt (by with_reducible assumption))
            refine lv_iload hx hb dX6_group_178 (lv_at hl 0 rfl) ?_
            refine lv_icmp_eq (tgt := 185) hx hb dX6_group_180 (by decide) (fun c_180 => ?_) (fun c_180 => (c_180 (by first | exact kg_0 hok.2.2 c_98 | exact kg_1 hok.2.2 c_98 c_135 | exact (kg_b hok.2.2 c_135).2.2.2)).elim)
            refine lv_aload_n hx hb dX6_group_185 rfl (lv_at hl 1 rfl) ?_
            refine va_get (D := D) (ci := 6) (v := .ref b12) (C := RX6) (T := TX6) (N := 26) hx hb hts iX6 hown hK.1 hP 9 rfl rfl 12 (by decide) kw_3 (fun _ h9 => h9) rfl dX6_group_186 ?_
            refine lv_aload_n hx hb dX6_group_189 rfl (lv_at hl 1 rfl) ?_
            refine va_get (D := D) (ci := 6) (v := .int (nI Gr)) (C := RX6) (T := TX6) (N := 26) hx hb hts iX6 hown hK.1 hP 9 rfl rfl 2 (by decide) kw_0 (fun _ h9 => h9) rfl dX6_group_190 ?_
            refine lv_iload_n hx hb dX6_group_193 rfl (lv_at hl 2 rfl) ?_
            refine wa_I hx hb hK hP hD hS 3 rfl (k := Gr) (by omega) (by decide) dX6_group_194 (fun H locs hP hD hS => ?_)
            have hP : va_P D vwCl (wc (cA b3 cI 60 tr) (wc (cA b7 cI 100 fr) (wc (cA b8 cI 100 to) (wc (cA b12 cI 30 (upd mn Gr g1)) (wc (cA b13 cI 30 fi) (wc (cA b14 cI 30 c1) (wc (cA b15 cI 30 c2) (wc (cA b16 cI 30 la) (wc (cA b17 cI 30 wt) (wc (cO y0 6 [.int (nI E), .int (nI Ac), .int (nI Gr), .ref b3, .ref b4, .ref b5, .ref b6, .ref b7, .ref b8, .ref b9, .ref b10, .ref b11, .ref b12, .ref b13, .ref b14, .ref b15, .ref b16, .ref b17, .ref b18, .ref b19, .ref b20, .ref b21, .ref b22, .int (nI rm), .ref b24, .ref b25]) (wc (cA b6 cI 100 ki) wN))))))))))) H := hP
            have hD : va_D A (wc (cA b3 cI 60 tr) (wc (cA b7 cI 100 fr) (wc (cA b8 cI 100 to) (wc (cA b12 cI 30 (upd mn Gr g1)) (wc (cA b13 cI 30 fi) (wc (cA b14 cI 30 c1) (wc (cA b15 cI 30 c2) (wc (cA b16 cI 30 la) (wc (cA b17 cI 30 wt) (wc (cO y0 6 [.int (nI E), .int (nI Ac), .int (nI Gr), .ref b3, .ref b4, .ref b5, .ref b6, .ref b7, .ref b8, .ref b9, .ref b10, .ref b11, .ref b12, .ref b13, .ref b14, .ref b15, .ref b16, .ref b17, .ref b18, .ref b19, .ref b20, .ref b21, .ref b22, .int (nI rm), .ref b24, .ref b25]) (wc (cA b6 cI 100 ki) wN))))))))))) := hD
            refine lv_aload_n hx hb dX6_group_195 rfl (lv_at hl 1 rfl) ?_
            refine va_get (D := D) (ci := 6) (v := .ref b13) (C := RX6) (T := TX6) (N := 26) hx hb hts iX6 hown hK.1 hP 9 rfl rfl 13 (by decide) kw_4 (fun _ h9 => h9) rfl dX6_group_196 ?_
            refine lv_aload_n hx hb dX6_group_199 rfl (lv_at hl 1 rfl) ?_
            refine va_get (D := D) (ci := 6) (v := .int (nI Gr)) (C := RX6) (T := TX6) (N := 26) hx hb hts iX6 hown hK.1 hP 9 rfl rfl 2 (by decide) kw_0 (fun _ h9 => h9) rfl dX6_group_200 ?_
            refine lv_iload_n hx hb dX6_group_203 rfl (lv_at hl 3 rfl) ?_
            refine wa_I hx hb hK hP hD hS 4 rfl (k := Gr) (by omega) (by decide) dX6_group_204 (fun H locs hP hD hS => ?_)
            have hP : va_P D vwCl (wc (cA b3 cI 60 tr) (wc (cA b7 cI 100 fr) (wc (cA b8 cI 100 to) (wc (cA b12 cI 30 (upd mn Gr g1)) (wc (cA b13 cI 30 (upd fi Gr g2)) (wc (cA b14 cI 30 c1) (wc (cA b15 cI 30 c2) (wc (cA b16 cI 30 la) (wc (cA b17 cI 30 wt) (wc (cO y0 6 [.int (nI E), .int (nI Ac), .int (nI Gr), .ref b3, .ref b4, .ref b5, .ref b6, .ref b7, .ref b8, .ref b9, .ref b10, .ref b11, .ref b12, .ref b13, .ref b14, .ref b15, .ref b16, .ref b17, .ref b18, .ref b19, .ref b20, .ref b21, .ref b22, .int (nI rm), .ref b24, .ref b25]) (wc (cA b6 cI 100 ki) wN))))))))))) H := hP
            have hD : va_D A (wc (cA b3 cI 60 tr) (wc (cA b7 cI 100 fr) (wc (cA b8 cI 100 to) (wc (cA b12 cI 30 (upd mn Gr g1)) (wc (cA b13 cI 30 (upd fi Gr g2)) (wc (cA b14 cI 30 c1) (wc (cA b15 cI 30 c2) (wc (cA b16 cI 30 la) (wc (cA b17 cI 30 wt) (wc (cO y0 6 [.int (nI E), .int (nI Ac), .int (nI Gr), .ref b3, .ref b4, .ref b5, .ref b6, .ref b7, .ref b8, .ref b9, .ref b10, .ref b11, .ref b12, .ref b13, .ref b14, .ref b15, .ref b16, .ref b17, .ref b18, .ref b19, .ref b20, .ref b21, .ref b22, .int (nI rm), .ref b24, .ref b25]) (wc (cA b6 cI 100 ki) wN))))))))))) := hD
            refine lv_aload_n hx hb dX6_group_205 rfl (lv_at hl 1 rfl) ?_
            refine va_get (D := D) (ci := 6) (v := .ref b14) (C := RX6) (T := TX6) (N := 26) hx hb hts iX6 hown hK.1 hP 9 rfl rfl 14 (by decide) kw_5 (fun _ h9 => h9) rfl dX6_group_206 ?_
            refine lv_aload_n hx hb dX6_group_209 rfl (lv_at hl 1 rfl) ?_
            refine va_get (D := D) (ci := 6) (v := .int (nI Gr)) (C := RX6) (T := TX6) (N := 26) hx hb hts iX6 hown hK.1 hP 9 rfl rfl 2 (by decide) kw_0 (fun _ h9 => h9) rfl dX6_group_210 ?_
            refine lv_iload_n hx hb dX6_group_213 rfl (lv_at hl 4 rfl) ?_
            refine wa_I hx hb hK hP hD hS 5 rfl (k := Gr) (by omega) (by decide) dX6_group_214 (fun H locs hP hD hS => ?_)
            have hP : va_P D vwCl (wc (cA b3 cI 60 tr) (wc (cA b7 cI 100 fr) (wc (cA b8 cI 100 to) (wc (cA b12 cI 30 (upd mn Gr g1)) (wc (cA b13 cI 30 (upd fi Gr g2)) (wc (cA b14 cI 30 (upd c1 Gr g3)) (wc (cA b15 cI 30 c2) (wc (cA b16 cI 30 la) (wc (cA b17 cI 30 wt) (wc (cO y0 6 [.int (nI E), .int (nI Ac), .int (nI Gr), .ref b3, .ref b4, .ref b5, .ref b6, .ref b7, .ref b8, .ref b9, .ref b10, .ref b11, .ref b12, .ref b13, .ref b14, .ref b15, .ref b16, .ref b17, .ref b18, .ref b19, .ref b20, .ref b21, .ref b22, .int (nI rm), .ref b24, .ref b25]) (wc (cA b6 cI 100 ki) wN))))))))))) H := hP
            have hD : va_D A (wc (cA b3 cI 60 tr) (wc (cA b7 cI 100 fr) (wc (cA b8 cI 100 to) (wc (cA b12 cI 30 (upd mn Gr g1)) (wc (cA b13 cI 30 (upd fi Gr g2)) (wc (cA b14 cI 30 (upd c1 Gr g3)) (wc (cA b15 cI 30 c2) (wc (cA b16 cI 30 la) (wc (cA b17 cI 30 wt) (wc (cO y0 6 [.int (nI E), .int (nI Ac), .int (nI Gr), .ref b3, .ref b4, .ref b5, .ref b6, .ref b7, .ref b8, .ref b9, .ref b10, .ref b11, .ref b12, .ref b13, .ref b14, .ref b15, .ref b16, .ref b17, .ref b18, .ref b19, .ref b20, .ref b21, .ref b22, .int (nI rm), .ref b24, .ref b25]) (wc (cA b6 cI 100 ki) wN))))))))))) := hD
            refine lv_aload_n hx hb dX6_group_215 rfl (lv_at hl 1 rfl) ?_
            refine va_get (D := D) (ci := 6) (v := .ref b15) (C := RX6) (T := TX6) (N := 26) hx hb hts iX6 hown hK.1 hP 9 rfl rfl 15 (by decide) kw_6 (fun _ h9 => h9) rfl dX6_group_216 ?_
            refine lv_aload_n hx hb dX6_group_219 rfl (lv_at hl 1 rfl) ?_
            refine va_get (D := D) (ci := 6) (v := .int (nI Gr)) (C := RX6) (T := TX6) (N := 26) hx hb hts iX6 hown hK.1 hP 9 rfl rfl 2 (by decide) kw_0 (fun _ h9 => h9) rfl dX6_group_220 ?_
            refine lv_iload hx hb dX6_group_223 (lv_at hl 5 rfl) ?_
            refine wa_I hx hb hK hP hD hS 6 rfl (k := Gr) (by omega) (by decide) dX6_group_225 (fun H locs hP hD hS => ?_)
            have hP : va_P D vwCl (wc (cA b3 cI 60 tr) (wc (cA b7 cI 100 fr) (wc (cA b8 cI 100 to) (wc (cA b12 cI 30 (upd mn Gr g1)) (wc (cA b13 cI 30 (upd fi Gr g2)) (wc (cA b14 cI 30 (upd c1 Gr g3)) (wc (cA b15 cI 30 (upd c2 Gr g4)) (wc (cA b16 cI 30 la) (wc (cA b17 cI 30 wt) (wc (cO y0 6 [.int (nI E), .int (nI Ac), .int (nI Gr), .ref b3, .ref b4, .ref b5, .ref b6, .ref b7, .ref b8, .ref b9, .ref b10, .ref b11, .ref b12, .ref b13, .ref b14, .ref b15, .ref b16, .ref b17, .ref b18, .ref b19, .ref b20, .ref b21, .ref b22, .int (nI rm), .ref b24, .ref b25]) (wc (cA b6 cI 100 ki) wN))))))))))) H := hP
            have hD : va_D A (wc (cA b3 cI 60 tr) (wc (cA b7 cI 100 fr) (wc (cA b8 cI 100 to) (wc (cA b12 cI 30 (upd mn Gr g1)) (wc (cA b13 cI 30 (upd fi Gr g2)) (wc (cA b14 cI 30 (upd c1 Gr g3)) (wc (cA b15 cI 30 (upd c2 Gr g4)) (wc (cA b16 cI 30 la) (wc (cA b17 cI 30 wt) (wc (cO y0 6 [.int (nI E), .int (nI Ac), .int (nI Gr), .ref b3, .ref b4, .ref b5, .ref b6, .ref b7, .ref b8, .ref b9, .ref b10, .ref b11, .ref b12, .ref b13, .ref b14, .ref b15, .ref b16, .ref b17, .ref b18, .ref b19, .ref b20, .ref b21, .ref b22, .int (nI rm), .ref b24, .ref b25]) (wc (cA b6 cI 100 ki) wN))))))))))) := hD
            refine lv_aload_n hx hb dX6_group_226 rfl (lv_at hl 1 rfl) ?_
            refine va_get (D := D) (ci := 6) (v := .ref b16) (C := RX6) (T := TX6) (N := 26) hx hb hts iX6 hown hK.1 hP 9 rfl rfl 16 (by decide) kw_7 (fun _ h9 => h9) rfl dX6_group_227 ?_
            refine lv_aload_n hx hb dX6_group_230 rfl (lv_at hl 1 rfl) ?_
            refine va_get (D := D) (ci := 6) (v := .int (nI Gr)) (C := RX6) (T := TX6) (N := 26) hx hb hts iX6 hown hK.1 hP 9 rfl rfl 2 (by decide) kw_0 (fun _ h9 => h9) rfl dX6_group_231 ?_
            refine lv_iload hx hb dX6_group_234 (lv_at hl 6 rfl) ?_
            refine wa_I hx hb hK hP hD hS 7 rfl (k := Gr) (by omega) (by decide) dX6_group_236 (fun H locs hP hD hS => ?_)
            have hP : va_P D vwCl (wc (cA b3 cI 60 tr) (wc (cA b7 cI 100 fr) (wc (cA b8 cI 100 to) (wc (cA b12 cI 30 (upd mn Gr g1)) (wc (cA b13 cI 30 (upd fi Gr g2)) (wc (cA b14 cI 30 (upd c1 Gr g3)) (wc (cA b15 cI 30 (upd c2 Gr g4)) (wc (cA b16 cI 30 (upd la Gr g5)) (wc (cA b17 cI 30 wt) (wc (cO y0 6 [.int (nI E), .int (nI Ac), .int (nI Gr), .ref b3, .ref b4, .ref b5, .ref b6, .ref b7, .ref b8, .ref b9, .ref b10, .ref b11, .ref b12, .ref b13, .ref b14, .ref b15, .ref b16, .ref b17, .ref b18, .ref b19, .ref b20, .ref b21, .ref b22, .int (nI rm), .ref b24, .ref b25]) (wc (cA b6 cI 100 ki) wN))))))))))) H := hP
            have hD : va_D A (wc (cA b3 cI 60 tr) (wc (cA b7 cI 100 fr) (wc (cA b8 cI 100 to) (wc (cA b12 cI 30 (upd mn Gr g1)) (wc (cA b13 cI 30 (upd fi Gr g2)) (wc (cA b14 cI 30 (upd c1 Gr g3)) (wc (cA b15 cI 30 (upd c2 Gr g4)) (wc (cA b16 cI 30 (upd la Gr g5)) (wc (cA b17 cI 30 wt) (wc (cO y0 6 [.int (nI E), .int (nI Ac), .int (nI Gr), .ref b3, .ref b4, .ref b5, .ref b6, .ref b7, .ref b8, .ref b9, .ref b10, .ref b11, .ref b12, .ref b13, .ref b14, .ref b15, .ref b16, .ref b17, .ref b18, .ref b19, .ref b20, .ref b21, .ref b22, .int (nI rm), .ref b24, .ref b25]) (wc (cA b6 cI 100 ki) wN))))))))))) := hD
            refine lv_aload_n hx hb dX6_group_237 rfl (lv_at hl 1 rfl) ?_
            refine va_get (D := D) (ci := 6) (v := .ref b17) (C := RX6) (T := TX6) (N := 26) hx hb hts iX6 hown hK.1 hP 9 rfl rfl 17 (by decide) kw_8 (fun _ h9 => h9) rfl dX6_group_238 ?_
            refine lv_aload_n hx hb dX6_group_241 rfl (lv_at hl 1 rfl) ?_
            refine va_get (D := D) (ci := 6) (v := .int (nI Gr)) (C := RX6) (T := TX6) (N := 26) hx hb hts iX6 hown hK.1 hP 9 rfl rfl 2 (by decide) kw_0 (fun _ h9 => h9) rfl dX6_group_242 ?_
            refine lv_iload hx hb dX6_group_245 (lv_at hl 7 rfl) ?_
            refine wa_I hx hb hK hP hD hS 8 rfl (k := Gr) (by omega) (by decide) dX6_group_247 (fun H locs hP hD hS => ?_)
            have hP : va_P D vwCl (wc (cA b3 cI 60 tr) (wc (cA b7 cI 100 fr) (wc (cA b8 cI 100 to) (wc (cA b12 cI 30 (upd mn Gr g1)) (wc (cA b13 cI 30 (upd fi Gr g2)) (wc (cA b14 cI 30 (upd c1 Gr g3)) (wc (cA b15 cI 30 (upd c2 Gr g4)) (wc (cA b16 cI 30 (upd la Gr g5)) (wc (cA b17 cI 30 (upd wt Gr g6)) (wc (cO y0 6 [.int (nI E), .int (nI Ac), .int (nI Gr), .ref b3, .ref b4, .ref b5, .ref b6, .ref b7, .ref b8, .ref b9, .ref b10, .ref b11, .ref b12, .ref b13, .ref b14, .ref b15, .ref b16, .ref b17, .ref b18, .ref b19, .ref b20, .ref b21, .ref b22, .int (nI rm), .ref b24, .ref b25]) (wc (cA b6 cI 100 ki) wN))))))))))) H := hP
            have hD : va_D A (wc (cA b3 cI 60 tr) (wc (cA b7 cI 100 fr) (wc (cA b8 cI 100 to) (wc (cA b12 cI 30 (upd mn Gr g1)) (wc (cA b13 cI 30 (upd fi Gr g2)) (wc (cA b14 cI 30 (upd c1 Gr g3)) (wc (cA b15 cI 30 (upd c2 Gr g4)) (wc (cA b16 cI 30 (upd la Gr g5)) (wc (cA b17 cI 30 (upd wt Gr g6)) (wc (cO y0 6 [.int (nI E), .int (nI Ac), .int (nI Gr), .ref b3, .ref b4, .ref b5, .ref b6, .ref b7, .ref b8, .ref b9, .ref b10, .ref b11, .ref b12, .ref b13, .ref b14, .ref b15, .ref b16, .ref b17, .ref b18, .ref b19, .ref b20, .ref b21, .ref b22, .int (nI rm), .ref b24, .ref b25]) (wc (cA b6 cI 100 ki) wN))))))))))) := hD
            refine lv_aload_n hx hb dX6_group_248 rfl (lv_at hl 1 rfl) ?_
            refine lv_aload_n hx hb dX6_group_249 rfl (lv_at hl 1 rfl) ?_
            refine va_get (D := D) (ci := 6) (v := .int (nI Gr)) (C := RX6) (T := TX6) (N := 26) hx hb hts iX6 hown hK.1 hP 9 rfl rfl 2 (by decide) kw_0 (fun _ h9 => h9) rfl dX6_group_250 ?_
            refine lv_iconst (v := 1) hx hb dX6_group_253 (by decide) ?_
            refine lv_iadd hx hb dX6_group_254 ?_
            refine W.eq (g2 := F0 m 255 ls [.int (nI (Gr + 1)), .ref y0]) (by first | rw [nI_1] | rw [nI_add] | exact congrArg (fun z => F0 m 255 ls (Value.int z :: _)) (nI_add _ _)) ?_
            refine va_put (D := D) (ci := 6) (v := .int (nI (Gr + 1))) (ty := .int) (C := RX6) (T := TX6) (N := 26) hx hb hts iX6 tyX6 tyX6_ok nmX6 hown hK.1 hP hD hS 9 rfl rfl 2 (by decide) kw_0 (fun _ h9 => h9) rfl (by decide +kernel) rfl rfl (Nat.le_of_ble_eq_true rfl) dX6_group_255 (fun H locs hP hD hS => ?_)
            have hP : va_P D vwCl (wc (cA b3 cI 60 tr) (wc (cA b7 cI 100 fr) (wc (cA b8 cI 100 to) (wc (cA b12 cI 30 (upd mn Gr g1)) (wc (cA b13 cI 30 (upd fi Gr g2)) (wc (cA b14 cI 30 (upd c1 Gr g3)) (wc (cA b15 cI 30 (upd c2 Gr g4)) (wc (cA b16 cI 30 (upd la Gr g5)) (wc (cA b17 cI 30 (upd wt Gr g6)) (wc (cO y0 6 [.int (nI E), .int (nI Ac), .int (nI (Gr + 1)), .ref b3, .ref b4, .ref b5, .ref b6, .ref b7, .ref b8, .ref b9, .ref b10, .ref b11, .ref b12, .ref b13, .ref b14, .ref b15, .ref b16, .ref b17, .ref b18, .ref b19, .ref b20, .ref b21, .ref b22, .int (nI rm), .ref b24, .ref b25]) (wc (cA b6 cI 100 ki) wN))))))))))) H := hP
            have hD : va_D A (wc (cA b3 cI 60 tr) (wc (cA b7 cI 100 fr) (wc (cA b8 cI 100 to) (wc (cA b12 cI 30 (upd mn Gr g1)) (wc (cA b13 cI 30 (upd fi Gr g2)) (wc (cA b14 cI 30 (upd c1 Gr g3)) (wc (cA b15 cI 30 (upd c2 Gr g4)) (wc (cA b16 cI 30 (upd la Gr g5)) (wc (cA b17 cI 30 (upd wt Gr g6)) (wc (cO y0 6 [.int (nI E), .int (nI Ac), .int (nI (Gr + 1)), .ref b3, .ref b4, .ref b5, .ref b6, .ref b7, .ref b8, .ref b9, .ref b10, .ref b11, .ref b12, .ref b13, .ref b14, .ref b15, .ref b16, .ref b17, .ref b18, .ref b19, .ref b20, .ref b21, .ref b22, .int (nI rm), .ref b24, .ref b25]) (wc (cA b6 cI 100 ki) wN))))))))))) := hD
            refine lv_aload_n hx hb dX6_group_258 rfl (lv_at hl 1 rfl) ?_
            refine va_get (D := D) (ci := 6) (v := .int (nI (Gr + 1))) (C := RX6) (T := TX6) (N := 26) hx hb hts iX6 hown hK.1 hP 9 rfl rfl 2 (by decide) kw_0 (fun _ h9 => h9) rfl dX6_group_259 ?_
            refine lv_iconst (v := 1) hx hb dX6_group_262 (by decide) ?_
            refine lv_isub hx hb dX6_group_263 ?_
            refine W.eq (g2 := F0 m 264 ls [.int (nI Gr)]) (by rw [nI_pred]) ?_
            exact en_i () hx hb hr hlocks hK (hP.sub [9, 0, 10, 1, 2, 3, 4, 5, 6, 7, 8] rfl) (hD.sub [9, 0, 10, 1, 2, 3, 4, 5, 6, 7, 8] (by decide) rfl) hS (Nat.le_of_ble_eq_true rfl) (Nat.le_of_ble_eq_true rfl) dX6_group_264 (rfl)
          · refine lv_iload_n hx hb dX6_group_72 rfl (lv_at hl 3 rfl) ?_
            refine lv_iconst (v := (-1)) hx hb dX6_group_73 (by decide) ?_
            refine lv_icmp_eq (tgt := 86) hx hb dX6_group_74 (by decide) (fun c_74 => (c_55 c_74).elim) (fun c_74 => ?_)
            refine lv_aload_n hx hb dX6_group_77 rfl (lv_at hl 0 rfl) ?_
            refine lv_iload hx hb dX6_group_78 (lv_at hl 4 rfl) ?_
            refine cl_i (wr := (wc (cA b3 cI 60 tr) (wc (cA b7 cI 100 fr) (wc (cA b8 cI 100 to) (wc (cA b12 cI 30 mn) (wc (cA b13 cI 30 fi) (wc (cA b14 cI 30 c1) (wc (cA b15 cI 30 c2) (wc (cA b16 cI 30 la) (wc (cA b17 cI 30 wt) wN)))))))))) (va_runV (As := [.int g4]) (rest := []) ⟨hx, hb, hml, hown, hts⟩ (c_m_isChange l D cI cZ cR y0 b3 b4 b5 b6 b7 b8 b9 b10 b11 b12 b13 b14 b15 b16 b17 b18 b19 b20 b21 b22 b24 b25 E Ac Gr rm ki g4 (by omega) H.size) (cwV 1 hts gX6_group_X6_isChange rfl rfl rfl hd_X6_isChange ⟨Nat.le_of_ble_eq_true rfl, Nat.le_of_ble_eq_true rfl⟩) (pV 6 9 hK hP hD [9, 10] rfl (by decide) rfl rfl) rfl rfl hl.1 rfl (lv_room (Nat.le_of_ble_eq_true rfl)) dX6_group_80 ⟨Nat.le_of_ble_eq_true rfl, Nat.le_of_ble_eq_true rfl⟩) hP hD hS hA [9, 10] [0, 1, 2, 3, 4, 5, 6, 7, 8] rfl rfl (by decide) (by decide) (fun r_80 u_80 H locs hw_80 hP hD hS => ?_)
            have hP : va_P D vwCl (wc (cA b3 cI 60 tr) (wc (cA b7 cI 100 fr) (wc (cA b8 cI 100 to) (wc (cA b12 cI 30 mn) (wc (cA b13 cI 30 fi) (wc (cA b14 cI 30 c1) (wc (cA b15 cI 30 c2) (wc (cA b16 cI 30 la) (wc (cA b17 cI 30 wt) (wc (cO y0 6 [.int (nI E), .int (nI Ac), .int (nI Gr), .ref b3, .ref b4, .ref b5, .ref b6, .ref b7, .ref b8, .ref b9, .ref b10, .ref b11, .ref b12, .ref b13, .ref b14, .ref b15, .ref b16, .ref b17, .ref b18, .ref b19, .ref b20, .ref b21, .ref b22, .int (nI rm), .ref b24, .ref b25]) (wc (cA b6 cI 100 ki) wN))))))))))) H := hP
            have hD : va_D A (wc (cA b3 cI 60 tr) (wc (cA b7 cI 100 fr) (wc (cA b8 cI 100 to) (wc (cA b12 cI 30 mn) (wc (cA b13 cI 30 fi) (wc (cA b14 cI 30 c1) (wc (cA b15 cI 30 c2) (wc (cA b16 cI 30 la) (wc (cA b17 cI 30 wt) (wc (cO y0 6 [.int (nI E), .int (nI Ac), .int (nI Gr), .ref b3, .ref b4, .ref b5, .ref b6, .ref b7, .ref b8, .ref b9, .ref b10, .ref b11, .ref b12, .ref b13, .ref b14, .ref b15, .ref b16, .ref b17, .ref b18, .ref b19, .ref b20, .ref b21, .ref b22, .int (nI rm), .ref b24, .ref b25]) (wc (cA b6 cI 100 ki) wN))))))))))) := hD
            rcases hw_80 with ⟨rfl, hf_80⟩ | ⟨rfl, hf_80⟩
            · have hv80 : vp_in g4 Ac := hf_80.1
              refine lv_if_ne (tgt := 88) hx hb dX6_group_83 (by decide) (fun c_83 => ?_) (fun c_83 => absurd c_83 (by decide))
              refine lv_aload_n hx hb dX6_group_88 rfl (lv_at hl 0 rfl) ?_
              refine va_get (D := D) (ci := 6) (v := .ref b3) (C := RX6) (T := TX6) (N := 26) hx hb hts iX6 hown hK.1 hP 9 rfl rfl 3 (by decide) kw_2 (fun _ h9 => h9) rfl dX6_group_89 ?_
              refine lv_iload_n hx hb dX6_group_92 rfl (lv_at hl 2 rfl) ?_
              refine va_iald hx hb hK.1 hP 0 0 rfl rfl (by first | with_reducible assumption | exact vp_le (by with_reducible assumption) (by omega)) dX6_group_93 ?_
              have f_93 : vp_in (tr g2.toNatClampNeg) 16 := htr _ (vp_lt (by with_reducible assumption))
              refine lv_istore (lv' := [(7, .int (tr g2.toNatClampNeg)), (0, .ref y0), (1, .int g1), (2, .int g2), (3, .int g3), (4, .int g4), (5, .int g5), (6, .int g6)]) hx hb dX6_group_94 hl (by decide) rfl (fun ls hl => ?_)
              refine lv_iload_n hx hb dX6_group_96 rfl (lv_at hl 4 rfl) ?_
              refine lv_iconst (v := (-1)) hx hb dX6_group_97 (by decide) ?_
              refine lv_icmp_eq (tgt := 132) hx hb dX6_group_98 (by decide) (fun c_98 => (c_55 c_98).elim) (fun c_98 => ?_)
              refine lv_aload_n hx hb dX6_group_101 rfl (lv_at hl 1 rfl) ?_
              refine va_get (D := D) (ci := 6) (v := .ref b3) (C := RX6) (T := TX6) (N := 26) hx hb hts iX6 hown hK.1 hP 9 rfl rfl 3 (by decide) kw_2 (fun _ h9 => h9) rfl dX6_group_102 ?_
              refine lv_aload_n hx hb dX6_group_105 rfl (lv_at hl 1 rfl) ?_
              refine va_get (D := D) (ci := 6) (v := .ref b7) (C := RX6) (T := TX6) (N := 26) hx hb hts iX6 hown hK.1 hP 9 rfl rfl 7 (by decide) kw_9 (fun _ h9 => h9) rfl dX6_group_106 ?_
              refine lv_iload_n hx hb dX6_group_109 rfl (lv_at hl 4 rfl) ?_
              refine va_iald hx hb hK.1 hP 1 0 rfl rfl (by first | with_reducible assumption | exact vp_le (by with_reducible assumption) (by omega)) dX6_group_110 ?_
              have f_110 : vp_in (fr g3.toNatClampNeg) E := hfr _ (vp_lt (by with_reducible assumption))
              refine va_iald hx hb hK.1 hP 0 0 rfl rfl (by first | with_reducible assumption | exact vp_le (by with_reducible assumption) (by omega)) dX6_group_111 ?_
              have f_111 : vp_in (tr (fr g3.toNatClampNeg).toNatClampNeg) 16 := htr _ (vp_lt (by with_reducible assumption))
              refine lv_iload hx hb dX6_group_112 (lv_at hl 0 rfl) ?_
              refine lv_icmp_eq (tgt := 119) hx hb dX6_group_114 (by decide) (fun c_114 => ?_) (fun c_114 => (c_114 (kg_a hok.2.2 c_98).2).elim)
              refine lv_aload_n hx hb dX6_group_119 rfl (lv_at hl 1 rfl) ?_
              refine va_get (D := D) (ci := 6) (v := .ref b3) (C := RX6) (T := TX6) (N := 26) hx hb hts iX6 hown hK.1 hP 9 rfl rfl 3 (by decide) kw_2 (fun _ h9 => h9) rfl dX6_group_120 ?_
              refine lv_aload_n hx hb dX6_group_123 rfl (lv_at hl 1 rfl) ?_
              refine va_get (D := D) (ci := 6) (v := .ref b8) (C := RX6) (T := TX6) (N := 26) hx hb hts iX6 hown hK.1 hP 9 rfl rfl 8 (by decide) kw_10 (fun _ h9 => h9) rfl dX6_group_124 ?_
              refine lv_iload_n hx hb dX6_group_127 rfl (lv_at hl 4 rfl) ?_
              refine va_iald hx hb hK.1 hP 2 0 rfl rfl (by first | with_reducible assumption | exact vp_le (by with_reducible assumption) (by omega)) dX6_group_128 ?_
              have f_128 : vp_in (to g3.toNatClampNeg) E := hto _ (vp_lt (by with_reducible assumption))
              refine va_iald hx hb hK.1 hP 0 0 rfl rfl (by first | with_reducible assumption | exact vp_le (by with_reducible assumption) (by omega)) dX6_group_129 ?_
              have f_129 : vp_in (tr (to g3.toNatClampNeg).toNatClampNeg) 16 := htr _ (vp_lt (by with_reducible assumption))
              refine lv_istore (lv' := [(7, .int (tr (to g3.toNatClampNeg).toNatClampNeg)), (0, .ref y0), (1, .int g1), (2, .int g2), (3, .int g3), (4, .int g4), (5, .int g5), (6, .int g6)]) hx hb dX6_group_130 hl (by decide) rfl (fun ls hl => ?_)
              refine lv_iload hx hb dX6_group_132 (lv_at hl 5 rfl) ?_
              refine lv_iconst (v := (-1)) hx hb dX6_group_134 (by decide) ?_
              refine lv_icmp_eq (tgt := 171) hx hb dX6_group_135 (by decide) (fun c_135 => (c_69 c_135).elim) (fun c_135 => ?_)
              refine lv_aload_n hx hb dX6_group_138 rfl (lv_at hl 1 rfl) ?_
              refine va_get (D := D) (ci := 6) (v := .ref b3) (C := RX6) (T := TX6) (N := 26) hx hb hts iX6 hown hK.1 hP 9 rfl rfl 3 (by decide) kw_2 (fun _ h9 => h9) rfl dX6_group_139 ?_
              refine lv_aload_n hx hb dX6_group_142 rfl (lv_at hl 1 rfl) ?_
              refine va_get (D := D) (ci := 6) (v := .ref b7) (C := RX6) (T := TX6) (N := 26) hx hb hts iX6 hown hK.1 hP 9 rfl rfl 7 (by decide) kw_9 (fun _ h9 => h9) rfl dX6_group_143 ?_
              refine lv_iload hx hb dX6_group_146 (lv_at hl 5 rfl) ?_
              refine va_iald hx hb hK.1 hP 1 0 rfl rfl (by first | with_reducible assumption | exact vp_le (by with_reducible assumption) (by omega)) dX6_group_148 ?_
              have f_148 : vp_in (fr g4.toNatClampNeg) E := hfr _ (vp_lt (by with_reducible assumption))
              refine va_iald hx hb hK.1 hP 0 0 rfl rfl (by first | with_reducible assumption | exact vp_le (by with_reducible assumption) (by omega)) dX6_group_149 ?_
              have f_149 : vp_in (tr (fr g4.toNatClampNeg).toNatClampNeg) 16 := htr _ (vp_lt (by with_reducible assumption))
              refine lv_iload hx hb dX6_group_150 (lv_at hl 0 rfl) ?_
              refine lv_icmp_eq (tgt := 157) hx hb dX6_group_152 (by decide) (fun c_152 => ?_) (fun c_152 => (c_152 (kg_b hok.2.2 c_135).2.2.1).elim)
              refine lv_aload_n hx hb dX6_group_157 rfl (lv_at hl 1 rfl) ?_
              refine va_get (D := D) (ci := 6) (v := .ref b3) (C := RX6) (T := TX6) (N := 26) hx hb hts iX6 hown hK.1 hP 9 rfl rfl 3 (by decide) kw_2 (fun _ h9 => h9) rfl dX6_group_158 ?_
              refine lv_aload_n hx hb dX6_group_161 rfl (lv_at hl 1 rfl) ?_
              refine va_get (D := D) (ci := 6) (v := .ref b8) (C := RX6) (T := TX6) (N := 26) hx hb hts iX6 hown hK.1 hP 9 rfl rfl 8 (by decide) kw_10 (fun _ h9 => h9) rfl dX6_group_162 ?_
              refine lv_iload hx hb dX6_group_165 (lv_at hl 5 rfl) ?_
              refine va_iald hx hb hK.1 hP 2 0 rfl rfl (by first | with_reducible assumption | exact vp_le (by with_reducible assumption) (by omega)) dX6_group_167 ?_
              have f_167 : vp_in (to g4.toNatClampNeg) E := hto _ (vp_lt (by with_reducible assumption))
              refine va_iald hx hb hK.1 hP 0 0 rfl rfl (by first | with_reducible assumption | exact vp_le (by with_reducible assumption) (by omega)) dX6_group_168 ?_
              have f_168 : vp_in (tr (to g4.toNatClampNeg).toNatClampNeg) 16 := htr _ (vp_lt (by with_reducible assumption))
              refine lv_istore (lv' := [(7, .int (tr (to g4.toNatClampNeg).toNatClampNeg)), (0, .ref y0), (1, .int g1), (2, .int g2), (3, .int g3), (4, .int g4), (5, .int g5), (6, .int g6)]) hx hb dX6_group_169 hl (by decide) rfl (fun ls hl => ?_)
              refine lv_aload_n hx hb dX6_group_171 rfl (lv_at hl 1 rfl) ?_
              refine va_get (D := D) (ci := 6) (v := .ref b3) (C := RX6) (T := TX6) (N := 26) hx hb hts iX6 hown hK.1 hP 9 rfl rfl 3 (by decide) kw_2 (fun _ h9 => h9) rfl dX6_group_172 ?_
              refine lv_iload hx hb dX6_group_175 (lv_at hl 6 rfl) ?_
              refine va_iald hx hb hK.1 hP 0 0 rfl rfl (by first | with_reducible assumption | exact vp_le (by with_reducible assumption) (by omega)) dX6_group_177 ?_
              have f_177 : vp_in (tr g5.toNatClampNeg) 16 := htr _ (vp_lt (by with_reducible assumption))
              refine lv_iload hx hb dX6_group_178 (lv_at hl 0 rfl) ?_
              refine lv_icmp_eq (tgt := 185) hx hb dX6_group_180 (by decide) (fun c_180 => ?_) (fun c_180 => (c_180 (by first | exact kg_0 hok.2.2 c_98 | exact kg_1 hok.2.2 c_98 c_135 | exact (kg_b hok.2.2 c_135).2.2.2)).elim)
              refine lv_aload_n hx hb dX6_group_185 rfl (lv_at hl 1 rfl) ?_
              refine va_get (D := D) (ci := 6) (v := .ref b12) (C := RX6) (T := TX6) (N := 26) hx hb hts iX6 hown hK.1 hP 9 rfl rfl 12 (by decide) kw_3 (fun _ h9 => h9) rfl dX6_group_186 ?_
              refine lv_aload_n hx hb dX6_group_189 rfl (lv_at hl 1 rfl) ?_
              refine va_get (D := D) (ci := 6) (v := .int (nI Gr)) (C := RX6) (T := TX6) (N := 26) hx hb hts iX6 hown hK.1 hP 9 rfl rfl 2 (by decide) kw_0 (fun _ h9 => h9) rfl dX6_group_190 ?_
              refine lv_iload_n hx hb dX6_group_193 rfl (lv_at hl 2 rfl) ?_
              refine wa_I hx hb hK hP hD hS 3 rfl (k := Gr) (by omega) (by decide) dX6_group_194 (fun H locs hP hD hS => ?_)
              have hP : va_P D vwCl (wc (cA b3 cI 60 tr) (wc (cA b7 cI 100 fr) (wc (cA b8 cI 100 to) (wc (cA b12 cI 30 (upd mn Gr g1)) (wc (cA b13 cI 30 fi) (wc (cA b14 cI 30 c1) (wc (cA b15 cI 30 c2) (wc (cA b16 cI 30 la) (wc (cA b17 cI 30 wt) (wc (cO y0 6 [.int (nI E), .int (nI Ac), .int (nI Gr), .ref b3, .ref b4, .ref b5, .ref b6, .ref b7, .ref b8, .ref b9, .ref b10, .ref b11, .ref b12, .ref b13, .ref b14, .ref b15, .ref b16, .ref b17, .ref b18, .ref b19, .ref b20, .ref b21, .ref b22, .int (nI rm), .ref b24, .ref b25]) (wc (cA b6 cI 100 ki) wN))))))))))) H := hP
              have hD : va_D A (wc (cA b3 cI 60 tr) (wc (cA b7 cI 100 fr) (wc (cA b8 cI 100 to) (wc (cA b12 cI 30 (upd mn Gr g1)) (wc (cA b13 cI 30 fi) (wc (cA b14 cI 30 c1) (wc (cA b15 cI 30 c2) (wc (cA b16 cI 30 la) (wc (cA b17 cI 30 wt) (wc (cO y0 6 [.int (nI E), .int (nI Ac), .int (nI Gr), .ref b3, .ref b4, .ref b5, .ref b6, .ref b7, .ref b8, .ref b9, .ref b10, .ref b11, .ref b12, .ref b13, .ref b14, .ref b15, .ref b16, .ref b17, .ref b18, .ref b19, .ref b20, .ref b21, .ref b22, .int (nI rm), .ref b24, .ref b25]) (wc (cA b6 cI 100 ki) wN))))))))))) := hD
              refine lv_aload_n hx hb dX6_group_195 rfl (lv_at hl 1 rfl) ?_
              refine va_get (D := D) (ci := 6) (v := .ref b13) (C := RX6) (T := TX6) (N := 26) hx hb hts iX6 hown hK.1 hP 9 rfl rfl 13 (by decide) kw_4 (fun _ h9 => h9) rfl dX6_group_196 ?_
              refine lv_aload_n hx hb dX6_group_199 rfl (lv_at hl 1 rfl) ?_
              refine va_get (D := D) (ci := 6) (v := .int (nI Gr)) (C := RX6) (T := TX6) (N := 26) hx hb hts iX6 hown hK.1 hP 9 rfl rfl 2 (by decide) kw_0 (fun _ h9 => h9) rfl dX6_group_200 ?_
              refine lv_iload_n hx hb dX6_group_203 rfl (lv_at hl 3 rfl) ?_
              refine wa_I hx hb hK hP hD hS 4 rfl (k := Gr) (by omega) (by decide) dX6_group_204 (fun H locs hP hD hS => ?_)
              have hP : va_P D vwCl (wc (cA b3 cI 60 tr) (wc (cA b7 cI 100 fr) (wc (cA b8 cI 100 to) (wc (cA b12 cI 30 (upd mn Gr g1)) (wc (cA b13 cI 30 (upd fi Gr g2)) (wc (cA b14 cI 30 c1) (wc (cA b15 cI 30 c2) (wc (cA b16 cI 30 la) (wc (cA b17 cI 30 wt) (wc (cO y0 6 [.int (nI E), .int (nI Ac), .int (nI Gr), .ref b3, .ref b4, .ref b5, .ref b6, .ref b7, .ref b8, .ref b9, .ref b10, .ref b11, .ref b12, .ref b13, .ref b14, .ref b15, .ref b16, .ref b17, .ref b18, .ref b19, .ref b20, .ref b21, .ref b22, .int (nI rm), .ref b24, .ref b25]) (wc (cA b6 cI 100 ki) wN))))))))))) H := hP
              have hD : va_D A (wc (cA b3 cI 60 tr) (wc (cA b7 cI 100 fr) (wc (cA b8 cI 100 to) (wc (cA b12 cI 30 (upd mn Gr g1)) (wc (cA b13 cI 30 (upd fi Gr g2)) (wc (cA b14 cI 30 c1) (wc (cA b15 cI 30 c2) (wc (cA b16 cI 30 la) (wc (cA b17 cI 30 wt) (wc (cO y0 6 [.int (nI E), .int (nI Ac), .int (nI Gr), .ref b3, .ref b4, .ref b5, .ref b6, .ref b7, .ref b8, .ref b9, .ref b10, .ref b11, .ref b12, .ref b13, .ref b14, .ref b15, .ref b16, .ref b17, .ref b18, .ref b19, .ref b20, .ref b21, .ref b22, .int (nI rm), .ref b24, .ref b25]) (wc (cA b6 cI 100 ki) wN))))))))))) := hD
              refine lv_aload_n hx hb dX6_group_205 rfl (lv_at hl 1 rfl) ?_
              refine va_get (D := D) (ci := 6) (v := .ref b14) (C := RX6) (T := TX6) (N := 26) hx hb hts iX6 hown hK.1 hP 9 rfl rfl 14 (by decide) kw_5 (fun _ h9 => h9) rfl dX6_group_206 ?_
              refine lv_aload_n hx hb dX6_group_209 rfl (lv_at hl 1 rfl) ?_
              refine va_get (D := D) (ci := 6) (v := .int (nI Gr)) (C := RX6) (T := TX6) (N := 26) hx hb hts iX6 hown hK.1 hP 9 rfl rfl 2 (by decide) kw_0 (fun _ h9 => h9) rfl dX6_group_210 ?_
              refine lv_iload_n hx hb dX6_group_213 rfl (lv_at hl 4 rfl) ?_
              refine wa_I hx hb hK hP hD hS 5 rfl (k := Gr) (by omega) (by decide) dX6_group_214 (fun H locs hP hD hS => ?_)
              have hP : va_P D vwCl (wc (cA b3 cI 60 tr) (wc (cA b7 cI 100 fr) (wc (cA b8 cI 100 to) (wc (cA b12 cI 30 (upd mn Gr g1)) (wc (cA b13 cI 30 (upd fi Gr g2)) (wc (cA b14 cI 30 (upd c1 Gr g3)) (wc (cA b15 cI 30 c2) (wc (cA b16 cI 30 la) (wc (cA b17 cI 30 wt) (wc (cO y0 6 [.int (nI E), .int (nI Ac), .int (nI Gr), .ref b3, .ref b4, .ref b5, .ref b6, .ref b7, .ref b8, .ref b9, .ref b10, .ref b11, .ref b12, .ref b13, .ref b14, .ref b15, .ref b16, .ref b17, .ref b18, .ref b19, .ref b20, .ref b21, .ref b22, .int (nI rm), .ref b24, .ref b25]) (wc (cA b6 cI 100 ki) wN))))))))))) H := hP
              have hD : va_D A (wc (cA b3 cI 60 tr) (wc (cA b7 cI 100 fr) (wc (cA b8 cI 100 to) (wc (cA b12 cI 30 (upd mn Gr g1)) (wc (cA b13 cI 30 (upd fi Gr g2)) (wc (cA b14 cI 30 (upd c1 Gr g3)) (wc (cA b15 cI 30 c2) (wc (cA b16 cI 30 la) (wc (cA b17 cI 30 wt) (wc (cO y0 6 [.int (nI E), .int (nI Ac), .int (nI Gr), .ref b3, .ref b4, .ref b5, .ref b6, .ref b7, .ref b8, .ref b9, .ref b10, .ref b11, .ref b12, .ref b13, .ref b14, .ref b15, .ref b16, .ref b17, .ref b18, .ref b19, .ref b20, .ref b21, .ref b22, .int (nI rm), .ref b24, .ref b25]) (wc (cA b6 cI 100 ki) wN))))))))))) := hD
              refine lv_aload_n hx hb dX6_group_215 rfl (lv_at hl 1 rfl) ?_
              refine va_get (D := D) (ci := 6) (v := .ref b15) (C := RX6) (T := TX6) (N := 26) hx hb hts iX6 hown hK.1 hP 9 rfl rfl 15 (by decide) kw_6 (fun _ h9 => h9) rfl dX6_group_216 ?_
              refine lv_aload_n hx hb dX6_group_219 rfl (lv_at hl 1 rfl) ?_
              refine va_get (D := D) (ci := 6) (v := .int (nI Gr)) (C := RX6) (T := TX6) (N := 26) hx hb hts iX6 hown hK.1 hP 9 rfl rfl 2 (by decide) kw_0 (fun _ h9 => h9) rfl dX6_group_220 ?_
              refine lv_iload hx hb dX6_group_223 (lv_at hl 5 rfl) ?_
              refine wa_I hx hb hK hP hD hS 6 rfl (k := Gr) (by omega) (by decide) dX6_group_225 (fun H locs hP hD hS => ?_)
              have hP : va_P D vwCl (wc (cA b3 cI 60 tr) (wc (cA b7 cI 100 fr) (wc (cA b8 cI 100 to) (wc (cA b12 cI 30 (upd mn Gr g1)) (wc (cA b13 cI 30 (upd fi Gr g2)) (wc (cA b14 cI 30 (upd c1 Gr g3)) (wc (cA b15 cI 30 (upd c2 Gr g4)) (wc (cA b16 cI 30 la) (wc (cA b17 cI 30 wt) (wc (cO y0 6 [.int (nI E), .int (nI Ac), .int (nI Gr), .ref b3, .ref b4, .ref b5, .ref b6, .ref b7, .ref b8, .ref b9, .ref b10, .ref b11, .ref b12, .ref b13, .ref b14, .ref b15, .ref b16, .ref b17, .ref b18, .ref b19, .ref b20, .ref b21, .ref b22, .int (nI rm), .ref b24, .ref b25]) (wc (cA b6 cI 100 ki) wN))))))))))) H := hP
              have hD : va_D A (wc (cA b3 cI 60 tr) (wc (cA b7 cI 100 fr) (wc (cA b8 cI 100 to) (wc (cA b12 cI 30 (upd mn Gr g1)) (wc (cA b13 cI 30 (upd fi Gr g2)) (wc (cA b14 cI 30 (upd c1 Gr g3)) (wc (cA b15 cI 30 (upd c2 Gr g4)) (wc (cA b16 cI 30 la) (wc (cA b17 cI 30 wt) (wc (cO y0 6 [.int (nI E), .int (nI Ac), .int (nI Gr), .ref b3, .ref b4, .ref b5, .ref b6, .ref b7, .ref b8, .ref b9, .ref b10, .ref b11, .ref b12, .ref b13, .ref b14, .ref b15, .ref b16, .ref b17, .ref b18, .ref b19, .ref b20, .ref b21, .ref b22, .int (nI rm), .ref b24, .ref b25]) (wc (cA b6 cI 100 ki) wN))))))))))) := hD
              refine lv_aload_n hx hb dX6_group_226 rfl (lv_at hl 1 rfl) ?_
              refine va_get (D := D) (ci := 6) (v := .ref b16) (C := RX6) (T := TX6) (N := 26) hx hb hts iX6 hown hK.1 hP 9 rfl rfl 16 (by decide) kw_7 (fun _ h9 => h9) rfl dX6_group_227 ?_
              refine lv_aload_n hx hb dX6_group_230 rfl (lv_at hl 1 rfl) ?_
              refine va_get (D := D) (ci := 6) (v := .int (nI Gr)) (C := RX6) (T := TX6) (N := 26) hx hb hts iX6 hown hK.1 hP 9 rfl rfl 2 (by decide) kw_0 (fun _ h9 => h9) rfl dX6_group_231 ?_
              refine lv_iload hx hb dX6_group_234 (lv_at hl 6 rfl) ?_
              refine wa_I hx hb hK hP hD hS 7 rfl (k := Gr) (by omega) (by decide) dX6_group_236 (fun H locs hP hD hS => ?_)
              have hP : va_P D vwCl (wc (cA b3 cI 60 tr) (wc (cA b7 cI 100 fr) (wc (cA b8 cI 100 to) (wc (cA b12 cI 30 (upd mn Gr g1)) (wc (cA b13 cI 30 (upd fi Gr g2)) (wc (cA b14 cI 30 (upd c1 Gr g3)) (wc (cA b15 cI 30 (upd c2 Gr g4)) (wc (cA b16 cI 30 (upd la Gr g5)) (wc (cA b17 cI 30 wt) (wc (cO y0 6 [.int (nI E), .int (nI Ac), .int (nI Gr), .ref b3, .ref b4, .ref b5, .ref b6, .ref b7, .ref b8, .ref b9, .ref b10, .ref b11, .ref b12, .ref b13, .ref b14, .ref b15, .ref b16, .ref b17, .ref b18, .ref b19, .ref b20, .ref b21, .ref b22, .int (nI rm), .ref b24, .ref b25]) (wc (cA b6 cI 100 ki) wN))))))))))) H := hP
              have hD : va_D A (wc (cA b3 cI 60 tr) (wc (cA b7 cI 100 fr) (wc (cA b8 cI 100 to) (wc (cA b12 cI 30 (upd mn Gr g1)) (wc (cA b13 cI 30 (upd fi Gr g2)) (wc (cA b14 cI 30 (upd c1 Gr g3)) (wc (cA b15 cI 30 (upd c2 Gr g4)) (wc (cA b16 cI 30 (upd la Gr g5)) (wc (cA b17 cI 30 wt) (wc (cO y0 6 [.int (nI E), .int (nI Ac), .int (nI Gr), .ref b3, .ref b4, .ref b5, .ref b6, .ref b7, .ref b8, .ref b9, .ref b10, .ref b11, .ref b12, .ref b13, .ref b14, .ref b15, .ref b16, .ref b17, .ref b18, .ref b19, .ref b20, .ref b21, .ref b22, .int (nI rm), .ref b24, .ref b25]) (wc (cA b6 cI 100 ki) wN))))))))))) := hD
              refine lv_aload_n hx hb dX6_group_237 rfl (lv_at hl 1 rfl) ?_
              refine va_get (D := D) (ci := 6) (v := .ref b17) (C := RX6) (T := TX6) (N := 26) hx hb hts iX6 hown hK.1 hP 9 rfl rfl 17 (by decide) kw_8 (fun _ h9 => h9) rfl dX6_group_238 ?_
              refine lv_aload_n hx hb dX6_group_241 rfl (lv_at hl 1 rfl) ?_
              refine va_get (D := D) (ci := 6) (v := .int (nI Gr)) (C := RX6) (T := TX6) (N := 26) hx hb hts iX6 hown hK.1 hP 9 rfl rfl 2 (by decide) kw_0 (fun _ h9 => h9) rfl dX6_group_242 ?_
              refine lv_iload hx hb dX6_group_245 (lv_at hl 7 rfl) ?_
              refine wa_I hx hb hK hP hD hS 8 rfl (k := Gr) (by omega) (by decide) dX6_group_247 (fun H locs hP hD hS => ?_)
              have hP : va_P D vwCl (wc (cA b3 cI 60 tr) (wc (cA b7 cI 100 fr) (wc (cA b8 cI 100 to) (wc (cA b12 cI 30 (upd mn Gr g1)) (wc (cA b13 cI 30 (upd fi Gr g2)) (wc (cA b14 cI 30 (upd c1 Gr g3)) (wc (cA b15 cI 30 (upd c2 Gr g4)) (wc (cA b16 cI 30 (upd la Gr g5)) (wc (cA b17 cI 30 (upd wt Gr g6)) (wc (cO y0 6 [.int (nI E), .int (nI Ac), .int (nI Gr), .ref b3, .ref b4, .ref b5, .ref b6, .ref b7, .ref b8, .ref b9, .ref b10, .ref b11, .ref b12, .ref b13, .ref b14, .ref b15, .ref b16, .ref b17, .ref b18, .ref b19, .ref b20, .ref b21, .ref b22, .int (nI rm), .ref b24, .ref b25]) (wc (cA b6 cI 100 ki) wN))))))))))) H := hP
              have hD : va_D A (wc (cA b3 cI 60 tr) (wc (cA b7 cI 100 fr) (wc (cA b8 cI 100 to) (wc (cA b12 cI 30 (upd mn Gr g1)) (wc (cA b13 cI 30 (upd fi Gr g2)) (wc (cA b14 cI 30 (upd c1 Gr g3)) (wc (cA b15 cI 30 (upd c2 Gr g4)) (wc (cA b16 cI 30 (upd la Gr g5)) (wc (cA b17 cI 30 (upd wt Gr g6)) (wc (cO y0 6 [.int (nI E), .int (nI Ac), .int (nI Gr), .ref b3, .ref b4, .ref b5, .ref b6, .ref b7, .ref b8, .ref b9, .ref b10, .ref b11, .ref b12, .ref b13, .ref b14, .ref b15, .ref b16, .ref b17, .ref b18, .ref b19, .ref b20, .ref b21, .ref b22, .int (nI rm), .ref b24, .ref b25]) (wc (cA b6 cI 100 ki) wN))))))))))) := hD
              refine lv_aload_n hx hb dX6_group_248 rfl (lv_at hl 1 rfl) ?_
              refine lv_aload_n hx hb dX6_group_249 rfl (lv_at hl 1 rfl) ?_
              refine va_get (D := D) (ci := 6) (v := .int (nI Gr)) (C := RX6) (T := TX6) (N := 26) hx hb hts iX6 hown hK.1 hP 9 rfl rfl 2 (by decide) kw_0 (fun _ h9 => h9) rfl dX6_group_250 ?_
              refine lv_iconst (v := 1) hx hb dX6_group_253 (by decide) ?_
              refine lv_iadd hx hb dX6_group_254 ?_
              refine W.eq (g2 := F0 m 255 ls [.int (nI (Gr + 1)), .ref y0]) (by first | rw [nI_1] | rw [nI_add] | exact congrArg (fun z => F0 m 255 ls (Value.int z :: _)) (nI_add _ _)) ?_
              refine va_put (D := D) (ci := 6) (v := .int (nI (Gr + 1))) (ty := .int) (C := RX6) (T := TX6) (N := 26) hx hb hts iX6 tyX6 tyX6_ok nmX6 hown hK.1 hP hD hS 9 rfl rfl 2 (by decide) kw_0 (fun _ h9 => h9) rfl (by decide +kernel) rfl rfl (Nat.le_of_ble_eq_true rfl) dX6_group_255 (fun H locs hP hD hS => ?_)
              have hP : va_P D vwCl (wc (cA b3 cI 60 tr) (wc (cA b7 cI 100 fr) (wc (cA b8 cI 100 to) (wc (cA b12 cI 30 (upd mn Gr g1)) (wc (cA b13 cI 30 (upd fi Gr g2)) (wc (cA b14 cI 30 (upd c1 Gr g3)) (wc (cA b15 cI 30 (upd c2 Gr g4)) (wc (cA b16 cI 30 (upd la Gr g5)) (wc (cA b17 cI 30 (upd wt Gr g6)) (wc (cO y0 6 [.int (nI E), .int (nI Ac), .int (nI (Gr + 1)), .ref b3, .ref b4, .ref b5, .ref b6, .ref b7, .ref b8, .ref b9, .ref b10, .ref b11, .ref b12, .ref b13, .ref b14, .ref b15, .ref b16, .ref b17, .ref b18, .ref b19, .ref b20, .ref b21, .ref b22, .int (nI rm), .ref b24, .ref b25]) (wc (cA b6 cI 100 ki) wN))))))))))) H := hP
              have hD : va_D A (wc (cA b3 cI 60 tr) (wc (cA b7 cI 100 fr) (wc (cA b8 cI 100 to) (wc (cA b12 cI 30 (upd mn Gr g1)) (wc (cA b13 cI 30 (upd fi Gr g2)) (wc (cA b14 cI 30 (upd c1 Gr g3)) (wc (cA b15 cI 30 (upd c2 Gr g4)) (wc (cA b16 cI 30 (upd la Gr g5)) (wc (cA b17 cI 30 (upd wt Gr g6)) (wc (cO y0 6 [.int (nI E), .int (nI Ac), .int (nI (Gr + 1)), .ref b3, .ref b4, .ref b5, .ref b6, .ref b7, .ref b8, .ref b9, .ref b10, .ref b11, .ref b12, .ref b13, .ref b14, .ref b15, .ref b16, .ref b17, .ref b18, .ref b19, .ref b20, .ref b21, .ref b22, .int (nI rm), .ref b24, .ref b25]) (wc (cA b6 cI 100 ki) wN))))))))))) := hD
              refine lv_aload_n hx hb dX6_group_258 rfl (lv_at hl 1 rfl) ?_
              refine va_get (D := D) (ci := 6) (v := .int (nI (Gr + 1))) (C := RX6) (T := TX6) (N := 26) hx hb hts iX6 hown hK.1 hP 9 rfl rfl 2 (by decide) kw_0 (fun _ h9 => h9) rfl dX6_group_259 ?_
              refine lv_iconst (v := 1) hx hb dX6_group_262 (by decide) ?_
              refine lv_isub hx hb dX6_group_263 ?_
              refine W.eq (g2 := F0 m 264 ls [.int (nI Gr)]) (by rw [nI_pred]) ?_
              exact en_i () hx hb hr hlocks hK (hP.sub [9, 0, 10, 1, 2, 3, 4, 5, 6, 7, 8] rfl) (hD.sub [9, 0, 10, 1, 2, 3, 4, 5, 6, 7, 8] (by decide) rfl) hS (Nat.le_of_ble_eq_true rfl) (Nat.le_of_ble_eq_true rfl) dX6_group_264 (rfl)
            · exact (hf_80 (kg_b hok.2.2 c_69).2.1).elim
        · exact (hf_60 (kg_a hok.2.2 c_55).1).elim
    · exact (hf_32 hok.2.2.2.1).elim
  · exact (hf_23 hok.2.2.1).elim
set_option maxHeartbeats 300000 in
set_option maxRecDepth 100000 in
theorem c_m_group_no (l : Launch) (D : va_G) (cI cZ cR : ClassId) (y0 : Nat) (b3 : Nat) (b4 : Nat) (b5 : Nat) (b6 : Nat) (b7 : Nat) (b8 : Nat) (b9 : Nat) (b10 : Nat) (b11 : Nat) (b12 : Nat) (b13 : Nat) (b14 : Nat) (b15 : Nat) (b16 : Nat) (b17 : Nat) (b18 : Nat) (b19 : Nat) (b20 : Nat) (b21 : Nat) (b22 : Nat) (b24 : Nat) (b25 : Nat) (E : Nat) (Ac : Nat) (Gr : Nat) (rm : Nat) (tr : Nat → Int32) (ki : Nat → Int32) (fr : Nat → Int32) (to : Nat → Int32) (mn : Nat → Int32) (fi : Nat → Int32) (c1 : Nat → Int32) (c2 : Nat → Int32) (la : Nat → Int32) (wt : Nat → Int32) (g1 : Int32) (g2 : Int32) (g3 : Int32) (g4 : Int32) (g5 : Int32) (g6 : Int32) (hE : E ≤ 60) (hAc : Ac ≤ 100) (hGr : Gr ≤ 30) (htr : ∀ i, i < E → vp_in (tr i) 16) (hfr : ∀ i, i < Ac → vp_in (fr i) E) (hto : ∀ i, i < Ac → vp_in (to i) E) (hno : ¬ (((1 ≤ g1 ∧ g1 ≤ 1000) ∧ (0 ≤ g6 ∧ g6 ≤ 1000) ∧ kGo E Ac tr ki fr to g2 g3 g4 g5) ∧ Gr < 30)) : CI l D cI cZ cR yX6_group wsX6_group { frames := 2, cells := 0, slots := 0, locals := 42 } [.ref y0, .int g1, .int g2, .int g3, .int g4, .int g5, .int g6] (wc (cO y0 6 [.int (nI E), .int (nI Ac), .int (nI Gr), .ref b3, .ref b4, .ref b5, .ref b6, .ref b7, .ref b8, .ref b9, .ref b10, .ref b11, .ref b12, .ref b13, .ref b14, .ref b15, .ref b16, .ref b17, .ref b18, .ref b19, .ref b20, .ref b21, .ref b22, .int (nI rm), .ref b24, .ref b25]) (wc (cA b3 cI 60 tr) (wc (cA b6 cI 100 ki) (wc (cA b7 cI 100 fr) (wc (cA b8 cI 100 to) (wc (cA b12 cI 30 mn) (wc (cA b13 cI 30 fi) (wc (cA b14 cI 30 c1) (wc (cA b15 cI 30 c2) (wc (cA b16 cI 30 la) (wc (cA b17 cI 30 wt) wN))))))))))) (fun (r : Int32) (u : Unit) => r = (-1)) (fun (u : Unit) => (wc (cO y0 6 [.int (nI E), .int (nI Ac), .int (nI Gr), .ref b3, .ref b4, .ref b5, .ref b6, .ref b7, .ref b8, .ref b9, .ref b10, .ref b11, .ref b12, .ref b13, .ref b14, .ref b15, .ref b16, .ref b17, .ref b18, .ref b19, .ref b20, .ref b21, .ref b22, .int (nI rm), .ref b24, .ref b25]) (wc (cA b3 cI 60 tr) (wc (cA b6 cI 100 ki) (wc (cA b7 cI 100 fr) (wc (cA b8 cI 100 to) (wc (cA b12 cI 30 mn) (wc (cA b13 cI 30 fi) (wc (cA b14 cI 30 c1) (wc (cA b15 cI 30 c2) (wc (cA b16 cI 30 la) (wc (cA b17 cI 30 wt) wN)))))))))))) := by
  intro sz9
  refine en_W (Qc := fun A => va_Qi (fun (r : Int32) (u : Unit) => r = (-1)) (sB D cI cZ cR (fun (u : Unit) => (wc (cO y0 6 [.int (nI E), .int (nI Ac), .int (nI Gr), .ref b3, .ref b4, .ref b5, .ref b6, .ref b7, .ref b8, .ref b9, .ref b10, .ref b11, .ref b12, .ref b13, .ref b14, .ref b15, .ref b16, .ref b17, .ref b18, .ref b19, .ref b20, .ref b21, .ref b22, .int (nI rm), .ref b24, .ref b25]) (wc (cA b3 cI 60 tr) (wc (cA b6 cI 100 ki) (wc (cA b7 cI 100 fr) (wc (cA b8 cI 100 to) (wc (cA b12 cI 30 mn) (wc (cA b13 cI 30 fi) (wc (cA b14 cI 30 c1) (wc (cA b15 cI 30 c2) (wc (cA b16 cI 30 la) (wc (cA b17 cI 30 wt) wN)))))))))))) A) A) (cc := cX6_group) (maxL := 8) (ret := (some .int)) (by decide) rfl (Nat.le_of_ble_eq_true rfl) ?_
  intro p e s m below meth c A ls hx hb hr hts hown hlocks hin hml hK hP hD hS hA hl
  have hown : s.vm.findClass RX6 = some m.cls := hown
  have hl : lv_has ls 8 [(0, .ref y0), (1, .int g1), (2, .int g2), (3, .int g3), (4, .int g4), (5, .int g5), (6, .int g6)] := hl
  have kw_0 := hts (.fieldLink RX6 97 "DelayDeskModel" "groups" "I") (List.mem_of_getElem? (i := 1) rfl)
  have iX6 : ∀ w ∈ u_ws RX6 TX6 26, w ∈ wsX6_group := fun _ h9 => (List.mem_cons_of_mem _ (List.mem_append_right _ h9))
  have kw_2 := hts (.fieldLink RX6 7 "DelayDeskModel" "train" "[I") (List.mem_of_getElem? (i := 2) rfl)
  have kw_3 := hts (.fieldLink RX6 22 "DelayDeskModel" "from" "[I") (List.mem_of_getElem? (i := 3) rfl)
  have kw_4 := hts (.fieldLink RX6 25 "DelayDeskModel" "to" "[I") (List.mem_of_getElem? (i := 4) rfl)
  refine lv_aload_n hx hb dX6_group_0 rfl (lv_at hl 0 rfl) ?_
  refine va_get (D := D) (ci := 6) (v := .int (nI Gr)) (C := RX6) (T := TX6) (N := 26) hx hb hts iX6 hown hK.1 hP 0 rfl rfl 2 (by decide) kw_0 (fun _ h9 => h9) rfl dX6_group_1 ?_
  refine lv_bipush (v := 30) hx hb dX6_group_4 (by decide) ?_
  refine lv_icmp_eq (tgt := 51) hx hb dX6_group_6 (by decide) (fun c_6 => ?_) (fun c_6 => ?_)
  · have g_6 : Gr = 30 := (nI_eq (a := Gr) (b := 30) (by omega) (by omega)).mp c_6
    refine lv_iconst (v := (-1)) hx hb dX6_group_51 (by decide) ?_
    exact en_i () hx hb hr hlocks hK (hP.sub [0, 1, 2, 3, 4, 5, 6, 7, 8, 9, 10] rfl) (hD.sub [0, 1, 2, 3, 4, 5, 6, 7, 8, 9, 10] (by decide) rfl) hS (Nat.le_of_ble_eq_true rfl) (Nat.le_of_ble_eq_true rfl) dX6_group_52 (rfl)
  · have g_6 : ¬ Gr = 30 := fun q => c_6 ((nI_eq (a := Gr) (b := 30) (by omega) (by omega)).mpr q)
    refine lv_iload_n hx hb dX6_group_9 rfl (lv_at hl 1 rfl) ?_
    refine lv_iconst (v := 1) hx hb dX6_group_10 (by decide) ?_
    refine lv_icmp_lt (tgt := 51) hx hb dX6_group_11 (by decide) (fun c_11 => ?_) (fun c_11 => ?_)
    · refine lv_iconst (v := (-1)) hx hb dX6_group_51 (by decide) ?_
      exact en_i () hx hb hr hlocks hK (hP.sub [0, 1, 2, 3, 4, 5, 6, 7, 8, 9, 10] rfl) (hD.sub [0, 1, 2, 3, 4, 5, 6, 7, 8, 9, 10] (by decide) rfl) hS (Nat.le_of_ble_eq_true rfl) (Nat.le_of_ble_eq_true rfl) dX6_group_52 (rfl)
    · refine lv_iload_n hx hb dX6_group_14 rfl (lv_at hl 1 rfl) ?_
      refine lv_sipush (v := 1000) hx hb dX6_group_15 (by decide) ?_
      refine lv_icmp_gt (tgt := 51) hx hb dX6_group_18 (by decide) (fun c_18 => ?_) (fun c_18 => ?_)
      · refine lv_iconst (v := (-1)) hx hb dX6_group_51 (by decide) ?_
        exact en_i () hx hb hr hlocks hK (hP.sub [0, 1, 2, 3, 4, 5, 6, 7, 8, 9, 10] rfl) (hD.sub [0, 1, 2, 3, 4, 5, 6, 7, 8, 9, 10] (by decide) rfl) hS (Nat.le_of_ble_eq_true rfl) (Nat.le_of_ble_eq_true rfl) dX6_group_52 (rfl)
      · refine lv_aload_n hx hb dX6_group_21 rfl (lv_at hl 0 rfl) ?_
        refine lv_iload_n hx hb dX6_group_22 rfl (lv_at hl 2 rfl) ?_
        refine cl_i (wr := (wc (cA b3 cI 60 tr) (wc (cA b6 cI 100 ki) (wc (cA b7 cI 100 fr) (wc (cA b8 cI 100 to) (wc (cA b12 cI 30 mn) (wc (cA b13 cI 30 fi) (wc (cA b14 cI 30 c1) (wc (cA b15 cI 30 c2) (wc (cA b16 cI 30 la) (wc (cA b17 cI 30 wt) wN))))))))))) (va_runV (As := [.int g2]) (rest := []) ⟨hx, hb, hml, hown, hts⟩ (c_m_isEvent l D cI cZ cR y0 b3 b4 b5 b6 b7 b8 b9 b10 b11 b12 b13 b14 b15 b16 b17 b18 b19 b20 b21 b22 b24 b25 E Ac Gr rm g2 (by omega) s.heap.size) (cwV 1 hts gX6_group_X6_isEvent rfl rfl rfl hd_X6_isEvent ⟨Nat.le_of_ble_eq_true rfl, Nat.le_of_ble_eq_true rfl⟩) (pV 6 0 hK hP hD [0] rfl (by decide) rfl rfl) rfl rfl hl.1 rfl (lv_room (Nat.le_of_ble_eq_true rfl)) dX6_group_23 ⟨Nat.le_of_ble_eq_true rfl, Nat.le_of_ble_eq_true rfl⟩) hP hD hS hA [0] [1, 2, 3, 4, 5, 6, 7, 8, 9, 10] rfl rfl (by decide) (by decide) (fun r_23 u_23 H locs hw_23 hP hD hS => ?_)
        have hP : va_P D vwCl (wc (cA b3 cI 60 tr) (wc (cA b6 cI 100 ki) (wc (cA b7 cI 100 fr) (wc (cA b8 cI 100 to) (wc (cA b12 cI 30 mn) (wc (cA b13 cI 30 fi) (wc (cA b14 cI 30 c1) (wc (cA b15 cI 30 c2) (wc (cA b16 cI 30 la) (wc (cA b17 cI 30 wt) (wc (cO y0 6 [.int (nI E), .int (nI Ac), .int (nI Gr), .ref b3, .ref b4, .ref b5, .ref b6, .ref b7, .ref b8, .ref b9, .ref b10, .ref b11, .ref b12, .ref b13, .ref b14, .ref b15, .ref b16, .ref b17, .ref b18, .ref b19, .ref b20, .ref b21, .ref b22, .int (nI rm), .ref b24, .ref b25]) wN))))))))))) H := hP
        have hD : va_D A (wc (cA b3 cI 60 tr) (wc (cA b6 cI 100 ki) (wc (cA b7 cI 100 fr) (wc (cA b8 cI 100 to) (wc (cA b12 cI 30 mn) (wc (cA b13 cI 30 fi) (wc (cA b14 cI 30 c1) (wc (cA b15 cI 30 c2) (wc (cA b16 cI 30 la) (wc (cA b17 cI 30 wt) (wc (cO y0 6 [.int (nI E), .int (nI Ac), .int (nI Gr), .ref b3, .ref b4, .ref b5, .ref b6, .ref b7, .ref b8, .ref b9, .ref b10, .ref b11, .ref b12, .ref b13, .ref b14, .ref b15, .ref b16, .ref b17, .ref b18, .ref b19, .ref b20, .ref b21, .ref b22, .int (nI rm), .ref b24, .ref b25]) wN))))))))))) := hD
        rcases hw_23 with ⟨rfl, hf_23⟩ | ⟨rfl, hf_23⟩
        · refine lv_if_eq (tgt := 51) hx hb dX6_group_26 (by decide) (fun c_26 => absurd c_26 (by decide)) (fun c_26 => ?_)
          refine lv_aload_n hx hb dX6_group_29 rfl (lv_at hl 0 rfl) ?_
          refine lv_iload hx hb dX6_group_30 (lv_at hl 5 rfl) ?_
          refine cl_i (wr := (wc (cA b3 cI 60 tr) (wc (cA b6 cI 100 ki) (wc (cA b7 cI 100 fr) (wc (cA b8 cI 100 to) (wc (cA b12 cI 30 mn) (wc (cA b13 cI 30 fi) (wc (cA b14 cI 30 c1) (wc (cA b15 cI 30 c2) (wc (cA b16 cI 30 la) (wc (cA b17 cI 30 wt) wN))))))))))) (va_runV (As := [.int g5]) (rest := []) ⟨hx, hb, hml, hown, hts⟩ (c_m_isEvent l D cI cZ cR y0 b3 b4 b5 b6 b7 b8 b9 b10 b11 b12 b13 b14 b15 b16 b17 b18 b19 b20 b21 b22 b24 b25 E Ac Gr rm g5 (by omega) H.size) (cwV 1 hts gX6_group_X6_isEvent rfl rfl rfl hd_X6_isEvent ⟨Nat.le_of_ble_eq_true rfl, Nat.le_of_ble_eq_true rfl⟩) (pV 6 10 hK hP hD [10] rfl (by decide) rfl rfl) rfl rfl hl.1 rfl (lv_room (Nat.le_of_ble_eq_true rfl)) dX6_group_32 ⟨Nat.le_of_ble_eq_true rfl, Nat.le_of_ble_eq_true rfl⟩) hP hD hS hA [10] [0, 1, 2, 3, 4, 5, 6, 7, 8, 9] rfl rfl (by decide) (by decide) (fun r_32 u_32 H locs hw_32 hP hD hS => ?_)
          have hP : va_P D vwCl (wc (cA b3 cI 60 tr) (wc (cA b6 cI 100 ki) (wc (cA b7 cI 100 fr) (wc (cA b8 cI 100 to) (wc (cA b12 cI 30 mn) (wc (cA b13 cI 30 fi) (wc (cA b14 cI 30 c1) (wc (cA b15 cI 30 c2) (wc (cA b16 cI 30 la) (wc (cA b17 cI 30 wt) (wc (cO y0 6 [.int (nI E), .int (nI Ac), .int (nI Gr), .ref b3, .ref b4, .ref b5, .ref b6, .ref b7, .ref b8, .ref b9, .ref b10, .ref b11, .ref b12, .ref b13, .ref b14, .ref b15, .ref b16, .ref b17, .ref b18, .ref b19, .ref b20, .ref b21, .ref b22, .int (nI rm), .ref b24, .ref b25]) wN))))))))))) H := hP
          have hD : va_D A (wc (cA b3 cI 60 tr) (wc (cA b6 cI 100 ki) (wc (cA b7 cI 100 fr) (wc (cA b8 cI 100 to) (wc (cA b12 cI 30 mn) (wc (cA b13 cI 30 fi) (wc (cA b14 cI 30 c1) (wc (cA b15 cI 30 c2) (wc (cA b16 cI 30 la) (wc (cA b17 cI 30 wt) (wc (cO y0 6 [.int (nI E), .int (nI Ac), .int (nI Gr), .ref b3, .ref b4, .ref b5, .ref b6, .ref b7, .ref b8, .ref b9, .ref b10, .ref b11, .ref b12, .ref b13, .ref b14, .ref b15, .ref b16, .ref b17, .ref b18, .ref b19, .ref b20, .ref b21, .ref b22, .int (nI rm), .ref b24, .ref b25]) wN))))))))))) := hD
          rcases hw_32 with ⟨rfl, hf_32⟩ | ⟨rfl, hf_32⟩
          · refine lv_if_eq (tgt := 51) hx hb dX6_group_35 (by decide) (fun c_35 => absurd c_35 (by decide)) (fun c_35 => ?_)
            refine lv_iload hx hb dX6_group_38 (lv_at hl 6 rfl) ?_
            refine lv_if_lt (tgt := 51) hx hb dX6_group_40 (by decide) (fun c_40 => ?_) (fun c_40 => ?_)
            · refine lv_iconst (v := (-1)) hx hb dX6_group_51 (by decide) ?_
              exact en_i () hx hb hr hlocks hK (hP.sub [10, 0, 1, 2, 3, 4, 5, 6, 7, 8, 9] rfl) (hD.sub [10, 0, 1, 2, 3, 4, 5, 6, 7, 8, 9] (by decide) rfl) hS (Nat.le_of_ble_eq_true rfl) (Nat.le_of_ble_eq_true rfl) dX6_group_52 (rfl)
            · refine lv_iload hx hb dX6_group_43 (lv_at hl 6 rfl) ?_
              refine lv_sipush (v := 1000) hx hb dX6_group_45 (by decide) ?_
              refine lv_icmp_le (tgt := 53) hx hb dX6_group_48 (by decide) (fun c_48 => ?_) (fun c_48 => ?_)
              · refine lv_iload_n hx hb dX6_group_53 rfl (lv_at hl 3 rfl) ?_
                refine lv_iconst (v := (-1)) hx hb dX6_group_54 (by decide) ?_
                refine lv_icmp_eq (tgt := 66) hx hb dX6_group_55 (by decide) (fun c_55 => ?_) (fun c_55 => ?_)
                · refine lv_iload hx hb dX6_group_66 (lv_at hl 4 rfl) ?_
                  refine lv_iconst (v := (-1)) hx hb dX6_group_68 (by decide) ?_
                  refine lv_icmp_eq (tgt := 88) hx hb dX6_group_69 (by decide) (fun c_69 => ?_) (fun c_69 => ?_)
                  · refine lv_aload_n hx hb dX6_group_88 rfl (lv_at hl 0 rfl) ?_
                    refine va_get (D := D) (ci := 6) (v := .ref b3) (C := RX6) (T := TX6) (N := 26) hx hb hts iX6 hown hK.1 hP 10 rfl rfl 3 (by decide) kw_2 (fun _ h9 => h9) rfl dX6_group_89 ?_
                    refine lv_iload_n hx hb dX6_group_92 rfl (lv_at hl 2 rfl) ?_
                    refine va_iald hx hb hK.1 hP 0 0 rfl rfl (by first | with_reducible assumption | exact vp_le (by with_reducible assumption) (by omega)) dX6_group_93 ?_
                    have f_93 : vp_in (tr g2.toNatClampNeg) 16 := htr _ (vp_lt (by with_reducible assumption))
                    refine lv_istore (lv' := [(7, .int (tr g2.toNatClampNeg)), (0, .ref y0), (1, .int g1), (2, .int g2), (3, .int g3), (4, .int g4), (5, .int g5), (6, .int g6)]) hx hb dX6_group_94 hl (by decide) rfl (fun ls hl => ?_)
                    refine lv_iload_n hx hb dX6_group_96 rfl (lv_at hl 4 rfl) ?_
                    refine lv_iconst (v := (-1)) hx hb dX6_group_97 (by decide) ?_
                    refine lv_icmp_eq (tgt := 132) hx hb dX6_group_98 (by decide) (fun c_98 => ?_) (fun c_98 => (c_98 c_55).elim)
                    refine lv_iload hx hb dX6_group_132 (lv_at hl 5 rfl) ?_
                    refine lv_iconst (v := (-1)) hx hb dX6_group_134 (by decide) ?_
                    refine lv_icmp_eq (tgt := 171) hx hb dX6_group_135 (by decide) (fun c_135 => ?_) (fun c_135 => (c_135 c_69).elim)
                    refine lv_aload_n hx hb dX6_group_171 rfl (lv_at hl 1 rfl) ?_
                    refine va_get (D := D) (ci := 6) (v := .ref b3) (C := RX6) (T := TX6) (N := 26) hx hb hts iX6 hown hK.1 hP 10 rfl rfl 3 (by decide) kw_2 (fun _ h9 => h9) rfl dX6_group_172 ?_
                    refine lv_iload hx hb dX6_group_175 (lv_at hl 6 rfl) ?_
                    refine va_iald hx hb hK.1 hP 0 0 rfl rfl (by first | with_reducible assumption | exact vp_le (by with_reducible assumption) (by omega)) dX6_group_177 ?_
                    have f_177 : vp_in (tr g5.toNatClampNeg) 16 := htr _ (vp_lt (by with_reducible assumption))
                    refine lv_iload hx hb dX6_group_178 (lv_at hl 0 rfl) ?_
                    refine lv_icmp_eq (tgt := 185) hx hb dX6_group_180 (by decide) (fun c_180 => ?_) (fun c_180 => ?_)
                    · exact (hno ⟨⟨ii_1 c_11 c_18, ii_c c_40 c_48, hf_23, hf_32, (by first | exact Or.inl ⟨c_98, c_135, c_180⟩ | exact Or.inr ⟨c_98, hf_60, c_114, Or.inl ⟨c_135, c_180⟩⟩ | exact Or.inr ⟨c_98, hf_60, c_114, Or.inr ⟨c_135, hf_80, c_152, c_180⟩⟩)⟩, Nat.lt_of_le_of_ne hGr (fun q => c_6 (by subst q; rfl))⟩ : False).elim
                    · refine lv_iconst (v := (-1)) hx hb dX6_group_183 (by decide) ?_
                      exact en_i () hx hb hr hlocks hK (hP.sub [10, 0, 1, 2, 3, 4, 5, 6, 7, 8, 9] rfl) (hD.sub [10, 0, 1, 2, 3, 4, 5, 6, 7, 8, 9] (by decide) rfl) hS (Nat.le_of_ble_eq_true rfl) (Nat.le_of_ble_eq_true rfl) dX6_group_184 (rfl)
                  · refine lv_iload_n hx hb dX6_group_72 rfl (lv_at hl 3 rfl) ?_
                    refine lv_iconst (v := (-1)) hx hb dX6_group_73 (by decide) ?_
                    refine lv_icmp_eq (tgt := 86) hx hb dX6_group_74 (by decide) (fun c_74 => ?_) (fun c_74 => (c_74 c_55).elim)
                    refine lv_iconst (v := (-1)) hx hb dX6_group_86 (by decide) ?_
                    exact en_i () hx hb hr hlocks hK (hP.sub [10, 0, 1, 2, 3, 4, 5, 6, 7, 8, 9] rfl) (hD.sub [10, 0, 1, 2, 3, 4, 5, 6, 7, 8, 9] (by decide) rfl) hS (Nat.le_of_ble_eq_true rfl) (Nat.le_of_ble_eq_true rfl) dX6_group_87 (rfl)
                · refine lv_aload_n hx hb dX6_group_58 rfl (lv_at hl 0 rfl) ?_
                  refine lv_iload_n hx hb dX6_group_59 rfl (lv_at hl 3 rfl) ?_
                  refine cl_i (wr := (wc (cA b3 cI 60 tr) (wc (cA b7 cI 100 fr) (wc (cA b8 cI 100 to) (wc (cA b12 cI 30 mn) (wc (cA b13 cI 30 fi) (wc (cA b14 cI 30 c1) (wc (cA b15 cI 30 c2) (wc (cA b16 cI 30 la) (wc (cA b17 cI 30 wt) wN)))))))))) (va_runV (As := [.int g3]) (rest := []) ⟨hx, hb, hml, hown, hts⟩ (c_m_isChange l D cI cZ cR y0 b3 b4 b5 b6 b7 b8 b9 b10 b11 b12 b13 b14 b15 b16 b17 b18 b19 b20 b21 b22 b24 b25 E Ac Gr rm ki g3 (by omega) H.size) (cwV 1 hts gX6_group_X6_isChange rfl rfl rfl hd_X6_isChange ⟨Nat.le_of_ble_eq_true rfl, Nat.le_of_ble_eq_true rfl⟩) (pV 6 10 hK hP hD [10, 1] rfl (by decide) rfl rfl) rfl rfl hl.1 rfl (lv_room (Nat.le_of_ble_eq_true rfl)) dX6_group_60 ⟨Nat.le_of_ble_eq_true rfl, Nat.le_of_ble_eq_true rfl⟩) hP hD hS hA [10, 1] [0, 2, 3, 4, 5, 6, 7, 8, 9] rfl rfl (by decide) (by decide) (fun r_60 u_60 H locs hw_60 hP hD hS => ?_)
                  have hP : va_P D vwCl (wc (cA b3 cI 60 tr) (wc (cA b7 cI 100 fr) (wc (cA b8 cI 100 to) (wc (cA b12 cI 30 mn) (wc (cA b13 cI 30 fi) (wc (cA b14 cI 30 c1) (wc (cA b15 cI 30 c2) (wc (cA b16 cI 30 la) (wc (cA b17 cI 30 wt) (wc (cO y0 6 [.int (nI E), .int (nI Ac), .int (nI Gr), .ref b3, .ref b4, .ref b5, .ref b6, .ref b7, .ref b8, .ref b9, .ref b10, .ref b11, .ref b12, .ref b13, .ref b14, .ref b15, .ref b16, .ref b17, .ref b18, .ref b19, .ref b20, .ref b21, .ref b22, .int (nI rm), .ref b24, .ref b25]) (wc (cA b6 cI 100 ki) wN))))))))))) H := hP
                  have hD : va_D A (wc (cA b3 cI 60 tr) (wc (cA b7 cI 100 fr) (wc (cA b8 cI 100 to) (wc (cA b12 cI 30 mn) (wc (cA b13 cI 30 fi) (wc (cA b14 cI 30 c1) (wc (cA b15 cI 30 c2) (wc (cA b16 cI 30 la) (wc (cA b17 cI 30 wt) (wc (cO y0 6 [.int (nI E), .int (nI Ac), .int (nI Gr), .ref b3, .ref b4, .ref b5, .ref b6, .ref b7, .ref b8, .ref b9, .ref b10, .ref b11, .ref b12, .ref b13, .ref b14, .ref b15, .ref b16, .ref b17, .ref b18, .ref b19, .ref b20, .ref b21, .ref b22, .int (nI rm), .ref b24, .ref b25]) (wc (cA b6 cI 100 ki) wN))))))))))) := hD
                  rcases hw_60 with ⟨rfl, hf_60⟩ | ⟨rfl, hf_60⟩
                  · have hv60 : vp_in g3 Ac := hf_60.1
                    refine lv_if_eq (tgt := 86) hx hb dX6_group_63 (by decide) (fun c_63 => absurd c_63 (by decide)) (fun c_63 => ?_)
                    refine lv_iload hx hb dX6_group_66 (lv_at hl 4 rfl) ?_
                    refine lv_iconst (v := (-1)) hx hb dX6_group_68 (by decide) ?_
                    refine lv_icmp_eq (tgt := 88) hx hb dX6_group_69 (by decide) (fun c_69 => ?_) (fun c_69 => ?_)
                    · refine lv_aload_n hx hb dX6_group_88 rfl (lv_at hl 0 rfl) ?_
                      refine va_get (D := D) (ci := 6) (v := .ref b3) (C := RX6) (T := TX6) (N := 26) hx hb hts iX6 hown hK.1 hP 9 rfl rfl 3 (by decide) kw_2 (fun _ h9 => h9) rfl dX6_group_89 ?_
                      refine lv_iload_n hx hb dX6_group_92 rfl (lv_at hl 2 rfl) ?_
                      refine va_iald hx hb hK.1 hP 0 0 rfl rfl (by first | with_reducible assumption | exact vp_le (by with_reducible assumption) (by omega)) dX6_group_93 ?_
                      have f_93 : vp_in (tr g2.toNatClampNeg) 16 := htr _ (vp_lt (by with_reducible assumption))
                      refine lv_istore (lv' := [(7, .int (tr g2.toNatClampNeg)), (0, .ref y0), (1, .int g1), (2, .int g2), (3, .int g3), (4, .int g4), (5, .int g5), (6, .int g6)]) hx hb dX6_group_94 hl (by decide) rfl (fun ls hl => ?_)
                      refine lv_iload_n hx hb dX6_group_96 rfl (lv_at hl 4 rfl) ?_
                      refine lv_iconst (v := (-1)) hx hb dX6_group_97 (by decide) ?_
                      refine lv_icmp_eq (tgt := 132) hx hb dX6_group_98 (by decide) (fun c_98 => (c_55 c_98).elim) (fun c_98 => ?_)
                      refine lv_aload_n hx hb dX6_group_101 rfl (lv_at hl 1 rfl) ?_
                      refine va_get (D := D) (ci := 6) (v := .ref b3) (C := RX6) (T := TX6) (N := 26) hx hb hts iX6 hown hK.1 hP 9 rfl rfl 3 (by decide) kw_2 (fun _ h9 => h9) rfl dX6_group_102 ?_
                      refine lv_aload_n hx hb dX6_group_105 rfl (lv_at hl 1 rfl) ?_
                      refine va_get (D := D) (ci := 6) (v := .ref b7) (C := RX6) (T := TX6) (N := 26) hx hb hts iX6 hown hK.1 hP 9 rfl rfl 7 (by decide) kw_3 (fun _ h9 => h9) rfl dX6_group_106 ?_
                      refine lv_iload_n hx hb dX6_group_109 rfl (lv_at hl 4 rfl) ?_
                      refine va_iald hx hb hK.1 hP 1 0 rfl rfl (by first | with_reducible assumption | exact vp_le (by with_reducible assumption) (by omega)) dX6_group_110 ?_
                      have f_110 : vp_in (fr g3.toNatClampNeg) E := hfr _ (vp_lt (by with_reducible assumption))
                      refine va_iald hx hb hK.1 hP 0 0 rfl rfl (by first | with_reducible assumption | exact vp_le (by with_reducible assumption) (by omega)) dX6_group_111 ?_
                      have f_111 : vp_in (tr (fr g3.toNatClampNeg).toNatClampNeg) 16 := htr _ (vp_lt (by with_reducible assumption))
                      refine lv_iload hx hb dX6_group_112 (lv_at hl 0 rfl) ?_
                      refine lv_icmp_eq (tgt := 119) hx hb dX6_group_114 (by decide) (fun c_114 => ?_) (fun c_114 => ?_)
                      · refine lv_aload_n hx hb dX6_group_119 rfl (lv_at hl 1 rfl) ?_
                        refine va_get (D := D) (ci := 6) (v := .ref b3) (C := RX6) (T := TX6) (N := 26) hx hb hts iX6 hown hK.1 hP 9 rfl rfl 3 (by decide) kw_2 (fun _ h9 => h9) rfl dX6_group_120 ?_
                        refine lv_aload_n hx hb dX6_group_123 rfl (lv_at hl 1 rfl) ?_
                        refine va_get (D := D) (ci := 6) (v := .ref b8) (C := RX6) (T := TX6) (N := 26) hx hb hts iX6 hown hK.1 hP 9 rfl rfl 8 (by decide) kw_4 (fun _ h9 => h9) rfl dX6_group_124 ?_
                        refine lv_iload_n hx hb dX6_group_127 rfl (lv_at hl 4 rfl) ?_
                        refine va_iald hx hb hK.1 hP 2 0 rfl rfl (by first | with_reducible assumption | exact vp_le (by with_reducible assumption) (by omega)) dX6_group_128 ?_
                        have f_128 : vp_in (to g3.toNatClampNeg) E := hto _ (vp_lt (by with_reducible assumption))
                        refine va_iald hx hb hK.1 hP 0 0 rfl rfl (by first | with_reducible assumption | exact vp_le (by with_reducible assumption) (by omega)) dX6_group_129 ?_
                        have f_129 : vp_in (tr (to g3.toNatClampNeg).toNatClampNeg) 16 := htr _ (vp_lt (by with_reducible assumption))
                        refine lv_istore (lv' := [(7, .int (tr (to g3.toNatClampNeg).toNatClampNeg)), (0, .ref y0), (1, .int g1), (2, .int g2), (3, .int g3), (4, .int g4), (5, .int g5), (6, .int g6)]) hx hb dX6_group_130 hl (by decide) rfl (fun ls hl => ?_)
                        refine lv_iload hx hb dX6_group_132 (lv_at hl 5 rfl) ?_
                        refine lv_iconst (v := (-1)) hx hb dX6_group_134 (by decide) ?_
                        refine lv_icmp_eq (tgt := 171) hx hb dX6_group_135 (by decide) (fun c_135 => ?_) (fun c_135 => (c_135 c_69).elim)
                        refine lv_aload_n hx hb dX6_group_171 rfl (lv_at hl 1 rfl) ?_
                        refine va_get (D := D) (ci := 6) (v := .ref b3) (C := RX6) (T := TX6) (N := 26) hx hb hts iX6 hown hK.1 hP 9 rfl rfl 3 (by decide) kw_2 (fun _ h9 => h9) rfl dX6_group_172 ?_
                        refine lv_iload hx hb dX6_group_175 (lv_at hl 6 rfl) ?_
                        refine va_iald hx hb hK.1 hP 0 0 rfl rfl (by first | with_reducible assumption | exact vp_le (by with_reducible assumption) (by omega)) dX6_group_177 ?_
                        have f_177 : vp_in (tr g5.toNatClampNeg) 16 := htr _ (vp_lt (by with_reducible assumption))
                        refine lv_iload hx hb dX6_group_178 (lv_at hl 0 rfl) ?_
                        refine lv_icmp_eq (tgt := 185) hx hb dX6_group_180 (by decide) (fun c_180 => ?_) (fun c_180 => ?_)
                        · exact (hno ⟨⟨ii_1 c_11 c_18, ii_c c_40 c_48, hf_23, hf_32, (by first | exact Or.inl ⟨c_98, c_135, c_180⟩ | exact Or.inr ⟨c_98, hf_60, c_114, Or.inl ⟨c_135, c_180⟩⟩ | exact Or.inr ⟨c_98, hf_60, c_114, Or.inr ⟨c_135, hf_80, c_152, c_180⟩⟩)⟩, Nat.lt_of_le_of_ne hGr (fun q => c_6 (by subst q; rfl))⟩ : False).elim
                        · refine lv_iconst (v := (-1)) hx hb dX6_group_183 (by decide) ?_
                          exact en_i () hx hb hr hlocks hK (hP.sub [9, 0, 10, 1, 2, 3, 4, 5, 6, 7, 8] rfl) (hD.sub [9, 0, 10, 1, 2, 3, 4, 5, 6, 7, 8] (by decide) rfl) hS (Nat.le_of_ble_eq_true rfl) (Nat.le_of_ble_eq_true rfl) dX6_group_184 (rfl)
                      · refine lv_iconst (v := (-1)) hx hb dX6_group_117 (by decide) ?_
                        exact en_i () hx hb hr hlocks hK (hP.sub [9, 0, 10, 1, 2, 3, 4, 5, 6, 7, 8] rfl) (hD.sub [9, 0, 10, 1, 2, 3, 4, 5, 6, 7, 8] (by decide) rfl) hS (Nat.le_of_ble_eq_true rfl) (Nat.le_of_ble_eq_true rfl) dX6_group_118 (rfl)
                    · refine lv_iload_n hx hb dX6_group_72 rfl (lv_at hl 3 rfl) ?_
                      refine lv_iconst (v := (-1)) hx hb dX6_group_73 (by decide) ?_
                      refine lv_icmp_eq (tgt := 86) hx hb dX6_group_74 (by decide) (fun c_74 => (c_55 c_74).elim) (fun c_74 => ?_)
                      refine lv_aload_n hx hb dX6_group_77 rfl (lv_at hl 0 rfl) ?_
                      refine lv_iload hx hb dX6_group_78 (lv_at hl 4 rfl) ?_
                      refine cl_i (wr := (wc (cA b3 cI 60 tr) (wc (cA b7 cI 100 fr) (wc (cA b8 cI 100 to) (wc (cA b12 cI 30 mn) (wc (cA b13 cI 30 fi) (wc (cA b14 cI 30 c1) (wc (cA b15 cI 30 c2) (wc (cA b16 cI 30 la) (wc (cA b17 cI 30 wt) wN)))))))))) (va_runV (As := [.int g4]) (rest := []) ⟨hx, hb, hml, hown, hts⟩ (c_m_isChange l D cI cZ cR y0 b3 b4 b5 b6 b7 b8 b9 b10 b11 b12 b13 b14 b15 b16 b17 b18 b19 b20 b21 b22 b24 b25 E Ac Gr rm ki g4 (by omega) H.size) (cwV 1 hts gX6_group_X6_isChange rfl rfl rfl hd_X6_isChange ⟨Nat.le_of_ble_eq_true rfl, Nat.le_of_ble_eq_true rfl⟩) (pV 6 9 hK hP hD [9, 10] rfl (by decide) rfl rfl) rfl rfl hl.1 rfl (lv_room (Nat.le_of_ble_eq_true rfl)) dX6_group_80 ⟨Nat.le_of_ble_eq_true rfl, Nat.le_of_ble_eq_true rfl⟩) hP hD hS hA [9, 10] [0, 1, 2, 3, 4, 5, 6, 7, 8] rfl rfl (by decide) (by decide) (fun r_80 u_80 H locs hw_80 hP hD hS => ?_)
                      have hP : va_P D vwCl (wc (cA b3 cI 60 tr) (wc (cA b7 cI 100 fr) (wc (cA b8 cI 100 to) (wc (cA b12 cI 30 mn) (wc (cA b13 cI 30 fi) (wc (cA b14 cI 30 c1) (wc (cA b15 cI 30 c2) (wc (cA b16 cI 30 la) (wc (cA b17 cI 30 wt) (wc (cO y0 6 [.int (nI E), .int (nI Ac), .int (nI Gr), .ref b3, .ref b4, .ref b5, .ref b6, .ref b7, .ref b8, .ref b9, .ref b10, .ref b11, .ref b12, .ref b13, .ref b14, .ref b15, .ref b16, .ref b17, .ref b18, .ref b19, .ref b20, .ref b21, .ref b22, .int (nI rm), .ref b24, .ref b25]) (wc (cA b6 cI 100 ki) wN))))))))))) H := hP
                      have hD : va_D A (wc (cA b3 cI 60 tr) (wc (cA b7 cI 100 fr) (wc (cA b8 cI 100 to) (wc (cA b12 cI 30 mn) (wc (cA b13 cI 30 fi) (wc (cA b14 cI 30 c1) (wc (cA b15 cI 30 c2) (wc (cA b16 cI 30 la) (wc (cA b17 cI 30 wt) (wc (cO y0 6 [.int (nI E), .int (nI Ac), .int (nI Gr), .ref b3, .ref b4, .ref b5, .ref b6, .ref b7, .ref b8, .ref b9, .ref b10, .ref b11, .ref b12, .ref b13, .ref b14, .ref b15, .ref b16, .ref b17, .ref b18, .ref b19, .ref b20, .ref b21, .ref b22, .int (nI rm), .ref b24, .ref b25]) (wc (cA b6 cI 100 ki) wN))))))))))) := hD
                      rcases hw_80 with ⟨rfl, hf_80⟩ | ⟨rfl, hf_80⟩
                      · have hv80 : vp_in g4 Ac := hf_80.1
                        refine lv_if_ne (tgt := 88) hx hb dX6_group_83 (by decide) (fun c_83 => ?_) (fun c_83 => absurd c_83 (by decide))
                        refine lv_aload_n hx hb dX6_group_88 rfl (lv_at hl 0 rfl) ?_
                        refine va_get (D := D) (ci := 6) (v := .ref b3) (C := RX6) (T := TX6) (N := 26) hx hb hts iX6 hown hK.1 hP 9 rfl rfl 3 (by decide) kw_2 (fun _ h9 => h9) rfl dX6_group_89 ?_
                        refine lv_iload_n hx hb dX6_group_92 rfl (lv_at hl 2 rfl) ?_
                        refine va_iald hx hb hK.1 hP 0 0 rfl rfl (by first | with_reducible assumption | exact vp_le (by with_reducible assumption) (by omega)) dX6_group_93 ?_
                        have f_93 : vp_in (tr g2.toNatClampNeg) 16 := htr _ (vp_lt (by with_reducible assumption))
                        refine lv_istore (lv' := [(7, .int (tr g2.toNatClampNeg)), (0, .ref y0), (1, .int g1), (2, .int g2), (3, .int g3), (4, .int g4), (5, .int g5), (6, .int g6)]) hx hb dX6_group_94 hl (by decide) rfl (fun ls hl => ?_)
                        refine lv_iload_n hx hb dX6_group_96 rfl (lv_at hl 4 rfl) ?_
                        refine lv_iconst (v := (-1)) hx hb dX6_group_97 (by decide) ?_
                        refine lv_icmp_eq (tgt := 132) hx hb dX6_group_98 (by decide) (fun c_98 => (c_55 c_98).elim) (fun c_98 => ?_)
                        refine lv_aload_n hx hb dX6_group_101 rfl (lv_at hl 1 rfl) ?_
                        refine va_get (D := D) (ci := 6) (v := .ref b3) (C := RX6) (T := TX6) (N := 26) hx hb hts iX6 hown hK.1 hP 9 rfl rfl 3 (by decide) kw_2 (fun _ h9 => h9) rfl dX6_group_102 ?_
                        refine lv_aload_n hx hb dX6_group_105 rfl (lv_at hl 1 rfl) ?_
                        refine va_get (D := D) (ci := 6) (v := .ref b7) (C := RX6) (T := TX6) (N := 26) hx hb hts iX6 hown hK.1 hP 9 rfl rfl 7 (by decide) kw_3 (fun _ h9 => h9) rfl dX6_group_106 ?_
                        refine lv_iload_n hx hb dX6_group_109 rfl (lv_at hl 4 rfl) ?_
                        refine va_iald hx hb hK.1 hP 1 0 rfl rfl (by first | with_reducible assumption | exact vp_le (by with_reducible assumption) (by omega)) dX6_group_110 ?_
                        have f_110 : vp_in (fr g3.toNatClampNeg) E := hfr _ (vp_lt (by with_reducible assumption))
                        refine va_iald hx hb hK.1 hP 0 0 rfl rfl (by first | with_reducible assumption | exact vp_le (by with_reducible assumption) (by omega)) dX6_group_111 ?_
                        have f_111 : vp_in (tr (fr g3.toNatClampNeg).toNatClampNeg) 16 := htr _ (vp_lt (by with_reducible assumption))
                        refine lv_iload hx hb dX6_group_112 (lv_at hl 0 rfl) ?_
                        refine lv_icmp_eq (tgt := 119) hx hb dX6_group_114 (by decide) (fun c_114 => ?_) (fun c_114 => ?_)
                        · refine lv_aload_n hx hb dX6_group_119 rfl (lv_at hl 1 rfl) ?_
                          refine va_get (D := D) (ci := 6) (v := .ref b3) (C := RX6) (T := TX6) (N := 26) hx hb hts iX6 hown hK.1 hP 9 rfl rfl 3 (by decide) kw_2 (fun _ h9 => h9) rfl dX6_group_120 ?_
                          refine lv_aload_n hx hb dX6_group_123 rfl (lv_at hl 1 rfl) ?_
                          refine va_get (D := D) (ci := 6) (v := .ref b8) (C := RX6) (T := TX6) (N := 26) hx hb hts iX6 hown hK.1 hP 9 rfl rfl 8 (by decide) kw_4 (fun _ h9 => h9) rfl dX6_group_124 ?_
                          refine lv_iload_n hx hb dX6_group_127 rfl (lv_at hl 4 rfl) ?_
                          refine va_iald hx hb hK.1 hP 2 0 rfl rfl (by first | with_reducible assumption | exact vp_le (by with_reducible assumption) (by omega)) dX6_group_128 ?_
                          have f_128 : vp_in (to g3.toNatClampNeg) E := hto _ (vp_lt (by with_reducible assumption))
                          refine va_iald hx hb hK.1 hP 0 0 rfl rfl (by first | with_reducible assumption | exact vp_le (by with_reducible assumption) (by omega)) dX6_group_129 ?_
                          have f_129 : vp_in (tr (to g3.toNatClampNeg).toNatClampNeg) 16 := htr _ (vp_lt (by with_reducible assumption))
                          refine lv_istore (lv' := [(7, .int (tr (to g3.toNatClampNeg).toNatClampNeg)), (0, .ref y0), (1, .int g1), (2, .int g2), (3, .int g3), (4, .int g4), (5, .int g5), (6, .int g6)]) hx hb dX6_group_130 hl (by decide) rfl (fun ls hl => ?_)
                          refine lv_iload hx hb dX6_group_132 (lv_at hl 5 rfl) ?_
                          refine lv_iconst (v := (-1)) hx hb dX6_group_134 (by decide) ?_
                          refine lv_icmp_eq (tgt := 171) hx hb dX6_group_135 (by decide) (fun c_135 => (c_69 c_135).elim) (fun c_135 => ?_)
                          refine lv_aload_n hx hb dX6_group_138 rfl (lv_at hl 1 rfl) ?_
                          refine va_get (D := D) (ci := 6) (v := .ref b3) (C := RX6) (T := TX6) (N := 26) hx hb hts iX6 hown hK.1 hP 9 rfl rfl 3 (by decide) kw_2 (fun _ h9 => h9) rfl dX6_group_139 ?_
                          refine lv_aload_n hx hb dX6_group_142 rfl (lv_at hl 1 rfl) ?_
                          refine va_get (D := D) (ci := 6) (v := .ref b7) (C := RX6) (T := TX6) (N := 26) hx hb hts iX6 hown hK.1 hP 9 rfl rfl 7 (by decide) kw_3 (fun _ h9 => h9) rfl dX6_group_143 ?_
                          refine lv_iload hx hb dX6_group_146 (lv_at hl 5 rfl) ?_
                          refine va_iald hx hb hK.1 hP 1 0 rfl rfl (by first | with_reducible assumption | exact vp_le (by with_reducible assumption) (by omega)) dX6_group_148 ?_
                          have f_148 : vp_in (fr g4.toNatClampNeg) E := hfr _ (vp_lt (by with_reducible assumption))
                          refine va_iald hx hb hK.1 hP 0 0 rfl rfl (by first | with_reducible assumption | exact vp_le (by with_reducible assumption) (by omega)) dX6_group_149 ?_
                          have f_149 : vp_in (tr (fr g4.toNatClampNeg).toNatClampNeg) 16 := htr _ (vp_lt (by with_reducible assumption))
                          refine lv_iload hx hb dX6_group_150 (lv_at hl 0 rfl) ?_
                          refine lv_icmp_eq (tgt := 157) hx hb dX6_group_152 (by decide) (fun c_152 => ?_) (fun c_152 => ?_)
                          · refine lv_aload_n hx hb dX6_group_157 rfl (lv_at hl 1 rfl) ?_
                            refine va_get (D := D) (ci := 6) (v := .ref b3) (C := RX6) (T := TX6) (N := 26) hx hb hts iX6 hown hK.1 hP 9 rfl rfl 3 (by decide) kw_2 (fun _ h9 => h9) rfl dX6_group_158 ?_
                            refine lv_aload_n hx hb dX6_group_161 rfl (lv_at hl 1 rfl) ?_
                            refine va_get (D := D) (ci := 6) (v := .ref b8) (C := RX6) (T := TX6) (N := 26) hx hb hts iX6 hown hK.1 hP 9 rfl rfl 8 (by decide) kw_4 (fun _ h9 => h9) rfl dX6_group_162 ?_
                            refine lv_iload hx hb dX6_group_165 (lv_at hl 5 rfl) ?_
                            refine va_iald hx hb hK.1 hP 2 0 rfl rfl (by first | with_reducible assumption | exact vp_le (by with_reducible assumption) (by omega)) dX6_group_167 ?_
                            have f_167 : vp_in (to g4.toNatClampNeg) E := hto _ (vp_lt (by with_reducible assumption))
                            refine va_iald hx hb hK.1 hP 0 0 rfl rfl (by first | with_reducible assumption | exact vp_le (by with_reducible assumption) (by omega)) dX6_group_168 ?_
                            have f_168 : vp_in (tr (to g4.toNatClampNeg).toNatClampNeg) 16 := htr _ (vp_lt (by with_reducible assumption))
                            refine lv_istore (lv' := [(7, .int (tr (to g4.toNatClampNeg).toNatClampNeg)), (0, .ref y0), (1, .int g1), (2, .int g2), (3, .int g3), (4, .int g4), (5, .int g5), (6, .int g6)]) hx hb dX6_group_169 hl (by decide) rfl (fun ls hl => ?_)
                            refine lv_aload_n hx hb dX6_group_171 rfl (lv_at hl 1 rfl) ?_
                            refine va_get (D := D) (ci := 6) (v := .ref b3) (C := RX6) (T := TX6) (N := 26) hx hb hts iX6 hown hK.1 hP 9 rfl rfl 3 (by decide) kw_2 (fun _ h9 => h9) rfl dX6_group_172 ?_
                            refine lv_iload hx hb dX6_group_175 (lv_at hl 6 rfl) ?_
                            refine va_iald hx hb hK.1 hP 0 0 rfl rfl (by first | with_reducible assumption | exact vp_le (by with_reducible assumption) (by omega)) dX6_group_177 ?_
                            have f_177 : vp_in (tr g5.toNatClampNeg) 16 := htr _ (vp_lt (by with_reducible assumption))
                            refine lv_iload hx hb dX6_group_178 (lv_at hl 0 rfl) ?_
                            refine lv_icmp_eq (tgt := 185) hx hb dX6_group_180 (by decide) (fun c_180 => ?_) (fun c_180 => ?_)
                            · exact (hno ⟨⟨ii_1 c_11 c_18, ii_c c_40 c_48, hf_23, hf_32, (by first | exact Or.inl ⟨c_98, c_135, c_180⟩ | exact Or.inr ⟨c_98, hf_60, c_114, Or.inl ⟨c_135, c_180⟩⟩ | exact Or.inr ⟨c_98, hf_60, c_114, Or.inr ⟨c_135, hf_80, c_152, c_180⟩⟩)⟩, Nat.lt_of_le_of_ne hGr (fun q => c_6 (by subst q; rfl))⟩ : False).elim
                            · refine lv_iconst (v := (-1)) hx hb dX6_group_183 (by decide) ?_
                              exact en_i () hx hb hr hlocks hK (hP.sub [9, 0, 10, 1, 2, 3, 4, 5, 6, 7, 8] rfl) (hD.sub [9, 0, 10, 1, 2, 3, 4, 5, 6, 7, 8] (by decide) rfl) hS (Nat.le_of_ble_eq_true rfl) (Nat.le_of_ble_eq_true rfl) dX6_group_184 (rfl)
                          · refine lv_iconst (v := (-1)) hx hb dX6_group_155 (by decide) ?_
                            exact en_i () hx hb hr hlocks hK (hP.sub [9, 0, 10, 1, 2, 3, 4, 5, 6, 7, 8] rfl) (hD.sub [9, 0, 10, 1, 2, 3, 4, 5, 6, 7, 8] (by decide) rfl) hS (Nat.le_of_ble_eq_true rfl) (Nat.le_of_ble_eq_true rfl) dX6_group_156 (rfl)
                        · refine lv_iconst (v := (-1)) hx hb dX6_group_117 (by decide) ?_
                          exact en_i () hx hb hr hlocks hK (hP.sub [9, 0, 10, 1, 2, 3, 4, 5, 6, 7, 8] rfl) (hD.sub [9, 0, 10, 1, 2, 3, 4, 5, 6, 7, 8] (by decide) rfl) hS (Nat.le_of_ble_eq_true rfl) (Nat.le_of_ble_eq_true rfl) dX6_group_118 (rfl)
                      · refine lv_if_ne (tgt := 88) hx hb dX6_group_83 (by decide) (fun c_83 => absurd c_83 (by decide)) (fun c_83 => ?_)
                        refine lv_iconst (v := (-1)) hx hb dX6_group_86 (by decide) ?_
                        exact en_i () hx hb hr hlocks hK (hP.sub [9, 0, 10, 1, 2, 3, 4, 5, 6, 7, 8] rfl) (hD.sub [9, 0, 10, 1, 2, 3, 4, 5, 6, 7, 8] (by decide) rfl) hS (Nat.le_of_ble_eq_true rfl) (Nat.le_of_ble_eq_true rfl) dX6_group_87 (rfl)
                  · refine lv_if_eq (tgt := 86) hx hb dX6_group_63 (by decide) (fun c_63 => ?_) (fun c_63 => absurd (by decide) c_63)
                    refine lv_iconst (v := (-1)) hx hb dX6_group_86 (by decide) ?_
                    exact en_i () hx hb hr hlocks hK (hP.sub [9, 0, 10, 1, 2, 3, 4, 5, 6, 7, 8] rfl) (hD.sub [9, 0, 10, 1, 2, 3, 4, 5, 6, 7, 8] (by decide) rfl) hS (Nat.le_of_ble_eq_true rfl) (Nat.le_of_ble_eq_true rfl) dX6_group_87 (rfl)
              · refine lv_iconst (v := (-1)) hx hb dX6_group_51 (by decide) ?_
                exact en_i () hx hb hr hlocks hK (hP.sub [10, 0, 1, 2, 3, 4, 5, 6, 7, 8, 9] rfl) (hD.sub [10, 0, 1, 2, 3, 4, 5, 6, 7, 8, 9] (by decide) rfl) hS (Nat.le_of_ble_eq_true rfl) (Nat.le_of_ble_eq_true rfl) dX6_group_52 (rfl)
          · refine lv_if_eq (tgt := 51) hx hb dX6_group_35 (by decide) (fun c_35 => ?_) (fun c_35 => absurd (by decide) c_35)
            refine lv_iconst (v := (-1)) hx hb dX6_group_51 (by decide) ?_
            exact en_i () hx hb hr hlocks hK (hP.sub [10, 0, 1, 2, 3, 4, 5, 6, 7, 8, 9] rfl) (hD.sub [10, 0, 1, 2, 3, 4, 5, 6, 7, 8, 9] (by decide) rfl) hS (Nat.le_of_ble_eq_true rfl) (Nat.le_of_ble_eq_true rfl) dX6_group_52 (rfl)
        · refine lv_if_eq (tgt := 51) hx hb dX6_group_26 (by decide) (fun c_26 => ?_) (fun c_26 => absurd (by decide) c_26)
          refine lv_iconst (v := (-1)) hx hb dX6_group_51 (by decide) ?_
          exact en_i () hx hb hr hlocks hK (hP.sub [10, 0, 1, 2, 3, 4, 5, 6, 7, 8, 9] rfl) (hD.sub [10, 0, 1, 2, 3, 4, 5, 6, 7, 8, 9] (by decide) rfl) hS (Nat.le_of_ble_eq_true rfl) (Nat.le_of_ble_eq_true rfl) dX6_group_52 (rfl)
