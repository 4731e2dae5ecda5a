theorem pig : ∀ (E n : Nat) (g : Nat → Nat), (∀ i, i < n → g i < E) → (∀ i j, i < n → j < n → g i = g j → i = j) → n ≤ E := by
  intro E
  induction E with
  | zero =>
    intro n g h1 _
    rcases Nat.eq_zero_or_pos n with e | e
    · omega
    · exact absurd (h1 0 e) (Nat.not_lt_zero _)
  | succ E ih =>
    intro n g h1 h2
    cases n with
    | zero => omega
    | succ m =>
      have hm : m ≤ E := by
        refine ih m (fun i => if g i = E then g m else g i) (fun i hi => ?_) (fun i j hi hj hij => ?_)
        · show (if g i = E then g m else g i) < E
          by_cases e : g i = E
          · rw [if_pos e]
            have a1 := h1 m (by omega)
            have a2 : g m ≠ E := fun q => absurd (h2 i m (by omega) (by omega) (e.trans q.symm)) (by omega)
            omega
          · rw [if_neg e]
            have a1 := h1 i (by omega)
            omega
        · have hij : (if g i = E then g m else g i) = (if g j = E then g m else g j) := hij
          by_cases e : g i = E
          · by_cases e' : g j = E
            · exact h2 i j (by omega) (by omega) (e.trans e'.symm)
            · rw [if_pos e, if_neg e'] at hij
              exact absurd (h2 m j (by omega) (by omega) hij) (by omega)
          · by_cases e' : g j = E
            · rw [if_neg e, if_pos e'] at hij
              exact absurd (h2 i m (by omega) (by omega) hij) (by omega)
            · rw [if_neg e, if_neg e'] at hij
              exact h2 i j (by omega) (by omega) hij
      omega
theorem clamp_inj {x y : Int32} {n : Nat} (hn : n < 2 ^ 31) (hx : vp_in x n) (hy : vp_in y n) (h : x.toNatClampNeg = y.toNatClampNeg) : x = y := by
  obtain ⟨i, hi, rfl⟩ := vp_in_of hx hn
  obtain ⟨j, hj, rfl⟩ := vp_in_of hy hn
  rw [nI_clamp (Nat.lt_trans hi hn), nI_clamp (Nat.lt_trans hj hn)] at h
  rw [h]
theorem pig_n {f : Nat → Int32} {n E : Nat} {x : Int32} (hE : E < 2 ^ 31) (hd : ∀ i j, i < n → j < n → f i = f j → i = j) (hr : ∀ i, i < n → vp_in (f i) E) (hx : vp_in x E) (hne : ∀ i, i < n → ¬ f i = x) : n < E := by
  refine pig E (n + 1) (fun i => (upd f n x i).toNatClampNeg) (fun i hi => vp_lt (vp_upd hr hx (Nat.le_refl _) i hi)) (fun i j hi hj h => ?_)
  have e := clamp_inj hE (vp_upd hr hx (Nat.le_refl _) i hi) (vp_upd hr hx (Nat.le_refl _) j hj) h
  by_cases a : i = n
  · by_cases b : j = n
    · omega
    · rw [a, pk_us, pk_un b] at e
      exact absurd e.symm (hne j (by omega))
  · by_cases b : j = n
    · rw [b, pk_us, pk_un a] at e
      exact absurd e (hne i (by omega))
    · rw [pk_un a, pk_un b] at e
      exact hd i j (by omega) (by omega) e
theorem dst_upd {f : Nat → Int32} {n : Nat} {x : Int32} (hd : ∀ i j, i < n → j < n → f i = f j → i = j) (hne : ∀ i, i < n → ¬ f i = x) : ∀ i j, i < n + 1 → j < n + 1 → upd f n x i = upd f n x j → i = j := by
  intro i j hi hj e
  by_cases a : i = n
  · by_cases b : j = n
    · omega
    · rw [a, pk_us, pk_un b] at e
      exact absurd e.symm (hne j (by omega))
  · by_cases b : j = n
    · rw [b, pk_us, pk_un a] at e
      exact absurd e (hne i (by omega))
    · rw [pk_un a, pk_un b] at e
      exact hd i j (by omega) (by omega) e
set_option maxHeartbeats 300000 in
set_option maxRecDepth 100000 in
theorem lp_m_way2 {p : Program} {e : Env} {s : State} {m : MethodId} {args : Array Value} {below : List Frame} {meth : Method} {c : Code} {A : Nat → Prop} {Q : State → Prop} (l : Launch) (D : va_G) (cI cZ cR : ClassId) (y0 : Nat) (b3 : Nat) (b4 : Nat) (b5 : Nat) (b6 : Nat) (b7 : Nat) (b8 : Nat) (b9 : Nat) (b10 : Nat) (b11 : Nat) (b12 : Nat) (b13 : Nat) (b14 : Nat) (b15 : Nat) (b16 : Nat) (b17 : Nat) (b18 : Nat) (b19 : Nat) (b20 : Nat) (b21 : Nat) (b22 : Nat) (b24 : Nat) (b25 : Nat) (E : Nat) (Ac : Nat) (Gr : Nat) (rm : Nat) (tr : Nat → Int32) (pl : Nat → Int32) (so : Nat → Int32) (fr : Nat → Int32) (to : Nat → Int32) (le : Nat → Int32) (ke : Nat → Int32) (ca : Nat → Int32) (mi : Nat → Int32) (bb : Nat → Int32) (e0 : Int32) (i0 : Int32) (hE : E ≤ 60) (hAc : Ac ≤ 100) (htr : ∀ i, i < E → vp_in (tr i) 16) (hfr : ∀ i, i < Ac → vp_in (fr i) E) (hto : ∀ i, i < Ac → vp_in (to i) E) (nn : Nat) (aw : Int32) (bv : Nat → Int32) (mu : Nat → Int32) (hx : p.tables.exec = Jvm.exec) (hb : c.code = cX6_way) (hts : ∀ w ∈ wsX6_way, w.before args s = true) (hown : s.vm.findClass RX6 = some m.cls) (hml : c.maxLocals = 8) (hK : kK D cI cZ cR s) (hA : ∀ q : Nat, s.heap.size ≤ q → A q) (kx_118 : ∀ (k : Nat) (z : Int32), (k ≤ nn) → (nn ≤ E) → (¬ z = 0 → (vp_in aw E ∧ ∀ i, i < k → ¬ bv i = aw)) → (nn ≤ k) → ∀ (H : Heap) (locs : List Loc) (ls : Array Slot), va_P D vwCl (wc (cO y0 6 [.int (nI E), .int (nI Ac), .int (nI Gr), .ref b3, .ref b4, .ref b5, .ref b6, .ref b7, .ref b8, .ref b9, .ref b10, .ref b11, .ref b12, .ref b13, .ref b14, .ref b15, .ref b16, .ref b17, .ref b18, .ref b19, .ref b20, .ref b21, .ref b22, .int (nI rm), .ref b24, .ref b25]) (wc (cA b3 cI 60 tr) (wc (cA b4 cI 60 pl) (wc (cA b5 cI 60 so) (wc (cA b7 cI 100 fr) (wc (cA b8 cI 100 to) (wc (cA b9 cI 100 le) (wc (cA b10 cZ 100 ke) (wc (cA b11 cZ 16 ca) (wc (cA b18 cI 60 mu) (wc (cA b19 cI 60 bv) wN))))))))))) H → va_D A (wc (cO y0 6 [.int (nI E), .int (nI Ac), .int (nI Gr), .ref b3, .ref b4, .ref b5, .ref b6, .ref b7, .ref b8, .ref b9, .ref b10, .ref b11, .ref b12, .ref b13, .ref b14, .ref b15, .ref b16, .ref b17, .ref b18, .ref b19, .ref b20, .ref b21, .ref b22, .int (nI rm), .ref b24, .ref b25]) (wc (cA b3 cI 60 tr) (wc (cA b4 cI 60 pl) (wc (cA b5 cI 60 so) (wc (cA b7 cI 100 fr) (wc (cA b8 cI 100 to) (wc (cA b9 cI 100 le) (wc (cA b10 cZ 100 ke) (wc (cA b11 cZ 16 ca) (wc (cA b18 cI 60 mu) (wc (cA b19 cI 60 bv) wN))))))))))) → va_S A s.heap H locs → lv_has ls 8 [(7, .int (nI k)), (0, .ref y0), (1, .int e0), (2, .int i0), (3, .int (nI nn)), (4, .int aw), (5, .int z)] → W p l e { frames := 4, cells := 0, slots := 0, locals := 87 } s m args below meth c H locs 0 0 Q (F0 m 118 ls [])) : ∀ (n : Nat) (k : Nat) (z : Int32), (k ≤ nn) → (nn ≤ E) → (¬ z = 0 → (vp_in aw E ∧ ∀ i, i < k → ¬ bv i = aw)) → nn - k < n → ∀ (H : Heap) (locs : List Loc) (ls : Array Slot), va_P D vwCl (wc (cO y0 6 [.int (nI E), .int (nI Ac), .int (nI Gr), .ref b3, .ref b4, .ref b5, .ref b6, .ref b7, .ref b8, .ref b9, .ref b10, .ref b11, .ref b12, .ref b13, .ref b14, .ref b15, .ref b16, .ref b17, .ref b18, .ref b19, .ref b20, .ref b21, .ref b22, .int (nI rm), .ref b24, .ref b25]) (wc (cA b3 cI 60 tr) (wc (cA b4 cI 60 pl) (wc (cA b5 cI 60 so) (wc (cA b7 cI 100 fr) (wc (cA b8 cI 100 to) (wc (cA b9 cI 100 le) (wc (cA b10 cZ 100 ke) (wc (cA b11 cZ 16 ca) (wc (cA b18 cI 60 mu) (wc (cA b19 cI 60 bv) wN))))))))))) H → va_D A (wc (cO y0 6 [.int (nI E), .int (nI Ac), .int (nI Gr), .ref b3, .ref b4, .ref b5, .ref b6, .ref b7, .ref b8, .ref b9, .ref b10, .ref b11, .ref b12, .ref b13, .ref b14, .ref b15, .ref b16, .ref b17, .ref b18, .ref b19, .ref b20, .ref b21, .ref b22, .int (nI rm), .ref b24, .ref b25]) (wc (cA b3 cI 60 tr) (wc (cA b4 cI 60 pl) (wc (cA b5 cI 60 so) (wc (cA b7 cI 100 fr) (wc (cA b8 cI 100 to) (wc (cA b9 cI 100 le) (wc (cA b10 cZ 100 ke) (wc (cA b11 cZ 16 ca) (wc (cA b18 cI 60 mu) (wc (cA b19 cI 60 bv) wN))))))))))) → va_S A s.heap H locs → lv_has ls 8 [(7, .int (nI k)), (0, .ref y0), (1, .int e0), (2, .int i0), (3, .int (nI nn)), (4, .int aw), (5, .int z)] → W p l e { frames := 4, cells := 0, slots := 0, locals := 87 } s m args below meth c H locs 0 0 Q (F0 m 82 ls []) := by
  have kw_0 := hts (.fieldLink RX6 59 "DelayDeskModel" "back" "[I") (List.mem_of_getElem? (i := 1) rfl)
  have iX6 : ∀ w ∈ u_ws RX6 TX6 26, w ∈ wsX6_way := fun _ h9 => (List.mem_cons_of_mem _ (List.mem_append_right _ h9))
  intro n
  induction n with
  | zero =>
    intro k z hk hnn hz hm
    exact absurd hm (Nat.not_lt_zero _)
  | succ n ih =>
    intro k z hk hnn hz hm H locs ls hP hD hS hl
    refine lv_iload hx hb dX6_way_82 (lv_at hl 0 rfl) ?_
    refine lv_iload_n hx hb dX6_way_84 rfl (lv_at hl 4 rfl) ?_
    refine lv_icmp_ge (tgt := 118) hx hb dX6_way_85 (by decide) (fun c_85 => ?_) (fun c_85 => ?_)
    · have g_85 : nn ≤ k := (nI_leI (a := nn) (b := k) (by omega) (by omega)).mp c_85
      exact kx_118 k z (by first | with_reducible assumption | omega | exact vp_le (by with_reducible assumption) (by omega) | (intros; omega)) (by first | with_reducible assumption | omega | exact vp_le (by with_reducible assumption) (by omega) | (intros; omega)) ((by first | exact (fun h => absurd rfl h) | exact (fun _ => ⟨(hz c_90).1, lt_s (hz c_90).2 c_102⟩) | exact (fun _ => ⟨by with_reducible assumption, fun i hi => absurd hi (Nat.not_lt_zero _)⟩) | assumption)) (by first | with_reducible assumption | omega | exact vp_le (by with_reducible assumption) (by omega) | (intros; omega)) _ _ _ (hP.sub [0, 1, 2, 3, 4, 5, 6, 7, 8, 9, 10] rfl) (hD.sub [0, 1, 2, 3, 4, 5, 6, 7, 8, 9, 10] (by decide) rfl) hS (lv_sub hl [0, 1, 2, 3, 4, 5, 6] rfl)
    · have g_85 : k < nn := Nat.not_le.mp (fun q => c_85 ((nI_leI (a := nn) (b := k) (by omega) (by omega)).mpr q))
      refine lv_iload hx hb dX6_way_88 (lv_at hl 6 rfl) ?_
      refine lv_if_eq (tgt := 109) hx hb dX6_way_90 (by decide) (fun c_90 => ?_) (fun c_90 => ?_)
      · refine lv_iconst (v := 0) hx hb dX6_way_109 (by decide) ?_
        refine lv_istore (lv' := [(5, .int 0), (7, .int (nI k)), (0, .ref y0), (1, .int e0), (2, .int i0), (3, .int (nI nn)), (4, .int aw)]) hx hb dX6_way_110 hl (by decide) rfl (fun ls hl => ?_)
        refine lv_iinc (v := (nI (k + 1))) (lv' := [(7, .int (nI (k + 1))), (5, .int 0), (0, .ref y0), (1, .int e0), (2, .int i0), (3, .int (nI nn)), (4, .int aw)]) hx hb dX6_way_112 hl (k := 1) rfl (nI_1 _) (by decide) rfl (fun ls hl => ?_)
        refine lv_goto (tgt := 82) hx hb dX6_way_115 (by decide) ?_
        exact ih (k + 1) 0 (by first | with_reducible assumption | omega | exact vp_le (by with_reducible assumption) (by omega) | (intros; omega)) (by first | with_reducible assumption | omega | exact vp_le (by with_reducible assumption) (by omega) | (intros; omega)) ((by first | exact (fun h => absurd rfl h) | exact (fun _ => ⟨(hz c_90).1, lt_s (hz c_90).2 c_102⟩) | exact (fun _ => ⟨by with_reducible assumption, fun i hi => absurd hi (Nat.not_lt_zero _)⟩) | assumption)) (by omega) _ _ _ (hP.sub [0, 1, 2, 3, 4, 5, 6, 7, 8, 9, 10] rfl) (hD.sub [0, 1, 2, 3, 4, 5, 6, 7, 8, 9, 10] (by decide) rfl) hS (lv_sub hl [0, 2, 3, 4, 5, 6, 1] rfl)
      · refine lv_aload_n hx hb dX6_way_93 rfl (lv_at hl 1 rfl) ?_
        refine va_get (D := D) (ci := 6) (v := .ref b19) (C := RX6) (T := TX6) (N := 26) hx hb hts iX6 hown hK.1 hP 0 rfl rfl 19 (by decide) kw_0 (fun _ h9 => h9) rfl dX6_way_94 ?_
        refine lv_iload hx hb dX6_way_97 (lv_at hl 0 rfl) ?_
        refine ra_I hx hb hK hP 10 rfl (k := k) (by omega) (by decide) dX6_way_99 ?_
        refine lv_iload hx hb dX6_way_100 (lv_at hl 5 rfl) ?_
        refine lv_icmp_eq (tgt := 109) hx hb dX6_way_102 (by decide) (fun c_102 => ?_) (fun c_102 => ?_)
        · refine lv_iconst (v := 0) hx hb dX6_way_109 (by decide) ?_
          refine lv_istore (lv' := [(5, .int 0), (7, .int (nI k)), (0, .ref y0), (1, .int e0), (2, .int i0), (3, .int (nI nn)), (4, .int aw)]) hx hb dX6_way_110 hl (by decide) rfl (fun ls hl => ?_)
          refine lv_iinc (v := (nI (k + 1))) (lv' := [(7, .int (nI (k + 1))), (5, .int 0), (0, .ref y0), (1, .int e0), (2, .int i0), (3, .int (nI nn)), (4, .int aw)]) hx hb dX6_way_112 hl (k := 1) rfl (nI_1 _) (by decide) rfl (fun ls hl => ?_)
          refine lv_goto (tgt := 82) hx hb dX6_way_115 (by decide) ?_
          exact ih (k + 1) 0 (by first | with_reducible assumption | omega | exact vp_le (by with_reducible assumption) (by omega) | (intros; omega)) (by first | with_reducible assumption | omega | exact vp_le (by with_reducible assumption) (by omega) | (intros; omega)) ((by first | exact (fun h => absurd rfl h) | exact (fun _ => ⟨(hz c_90).1, lt_s (hz c_90).2 c_102⟩) | exact (fun _ => ⟨by with_reducible assumption, fun i hi => absurd hi (Nat.not_lt_zero _)⟩) | assumption)) (by omega) _ _ _ (hP.sub [0, 1, 2, 3, 4, 5, 6, 7, 8, 9, 10] rfl) (hD.sub [0, 1, 2, 3, 4, 5, 6, 7, 8, 9, 10] (by decide) rfl) hS (lv_sub hl [0, 2, 3, 4, 5, 6, 1] rfl)
        · refine lv_iconst (v := 1) hx hb dX6_way_105 (by decide) ?_
          refine lv_goto (tgt := 110) hx hb dX6_way_106 (by decide) ?_
          refine lv_istore (lv' := [(5, .int 1), (7, .int (nI k)), (0, .ref y0), (1, .int e0), (2, .int i0), (3, .int (nI nn)), (4, .int aw)]) hx hb dX6_way_110 hl (by decide) rfl (fun ls hl => ?_)
          refine lv_iinc (v := (nI (k + 1))) (lv' := [(7, .int (nI (k + 1))), (5, .int 1), (0, .ref y0), (1, .int e0), (2, .int i0), (3, .int (nI nn)), (4, .int aw)]) hx hb dX6_way_112 hl (k := 1) rfl (nI_1 _) (by decide) rfl (fun ls hl => ?_)
          refine lv_goto (tgt := 82) hx hb dX6_way_115 (by decide) ?_
          exact ih (k + 1) 1 (by first | with_reducible assumption | omega | exact vp_le (by with_reducible assumption) (by omega) | (intros; omega)) (by first | with_reducible assumption | omega | exact vp_le (by with_reducible assumption) (by omega) | (intros; omega)) ((by first | exact (fun h => absurd rfl h) | exact (fun _ => ⟨(hz c_90).1, lt_s (hz c_90).2 c_102⟩) | exact (fun _ => ⟨by with_reducible assumption, fun i hi => absurd hi (Nat.not_lt_zero _)⟩) | assumption)) (by omega) _ _ _ (hP.sub [0, 1, 2, 3, 4, 5, 6, 7, 8, 9, 10] rfl) (hD.sub [0, 1, 2, 3, 4, 5, 6, 7, 8, 9, 10] (by decide) rfl) hS (lv_sub hl [0, 2, 3, 4, 5, 6, 1] rfl)
set_option maxHeartbeats 300000 in
set_option maxRecDepth 100000 in
theorem lp_m_way1 {p : Program} {e : Env} {s : State} {m : MethodId} {args : Array Value} {below : List Frame} {meth : Method} {c : Code} {A : Nat → Prop} {Q : State → Prop} (l : Launch) (D : va_G) (cI cZ cR : ClassId) (y0 : Nat) (b3 : Nat) (b4 : Nat) (b5 : Nat) (b6 : Nat) (b7 : Nat) (b8 : Nat) (b9 : Nat) (b10 : Nat) (b11 : Nat) (b12 : Nat) (b13 : Nat) (b14 : Nat) (b15 : Nat) (b16 : Nat) (b17 : Nat) (b18 : Nat) (b19 : Nat) (b20 : Nat) (b21 : Nat) (b22 : Nat) (b24 : Nat) (b25 : Nat) (E : Nat) (Ac : Nat) (Gr : Nat) (rm : Nat) (tr : Nat → Int32) (pl : Nat → Int32) (so : Nat → Int32) (fr : Nat → Int32) (to : Nat → Int32) (le : Nat → Int32) (ke : Nat → Int32) (ca : Nat → Int32) (mi : Nat → Int32) (bb : Nat → Int32) (e0 : Int32) (i0 : Int32) (hE : E ≤ 60) (hAc : Ac ≤ 100) (htr : ∀ i, i < E → vp_in (tr i) 16) (hfr : ∀ i, i < Ac → vp_in (fr i) E) (hto : ∀ i, i < Ac → vp_in (to i) E) (hx : p.tables.exec = Jvm.exec) (hb : c.code = cX6_way) (hts : ∀ w ∈ wsX6_way, w.before args s = true) (hown : s.vm.findClass RX6 = some m.cls) (hml : c.maxLocals = 8) (hK : kK D cI cZ cR s) (hA : ∀ q : Nat, s.heap.size ≤ q → A q) (kx_121 : ∀ (n1 : Nat) (z : Int32) (aw : Int32) (bb1 : Nat → Int32) (mu : Nat → Int32), (n1 ≤ E) → (∀ i j, i < n1 → j < n1 → bb1 i = bb1 j → i = j) → (∀ i, i < n1 → vp_in (bb1 i) E) → (¬ z = 0 → (vp_in aw E ∧ ∀ i, i < n1 → ¬ bb1 i = aw)) → ∀ (H : Heap) (locs : List Loc) (ls : Array Slot), va_P D vwCl (wc (cO y0 6 [.int (nI E), .int (nI Ac), .int (nI Gr), .ref b3, .ref b4, .ref b5, .ref b6, .ref b7, .ref b8, .ref b9, .ref b10, .ref b11, .ref b12, .ref b13, .ref b14, .ref b15, .ref b16, .ref b17, .ref b18, .ref b19, .ref b20, .ref b21, .ref b22, .int (nI rm), .ref b24, .ref b25]) (wc (cA b3 cI 60 tr) (wc (cA b4 cI 60 pl) (wc (cA b5 cI 60 so) (wc (cA b7 cI 100 fr) (wc (cA b8 cI 100 to) (wc (cA b9 cI 100 le) (wc (cA b10 cZ 100 ke) (wc (cA b11 cZ 16 ca) (wc (cA b18 cI 60 mu) (wc (cA b19 cI 60 bb1) wN))))))))))) H → va_D A (wc (cO y0 6 [.int (nI E), .int (nI Ac), .int (nI Gr), .ref b3, .ref b4, .ref b5, .ref b6, .ref b7, .ref b8, .ref b9, .ref b10, .ref b11, .ref b12, .ref b13, .ref b14, .ref b15, .ref b16, .ref b17, .ref b18, .ref b19, .ref b20, .ref b21, .ref b22, .int (nI rm), .ref b24, .ref b25]) (wc (cA b3 cI 60 tr) (wc (cA b4 cI 60 pl) (wc (cA b5 cI 60 so) (wc (cA b7 cI 100 fr) (wc (cA b8 cI 100 to) (wc (cA b9 cI 100 le) (wc (cA b10 cZ 100 ke) (wc (cA b11 cZ 16 ca) (wc (cA b18 cI 60 mu) (wc (cA b19 cI 60 bb1) wN))))))))))) → va_S A s.heap H locs → lv_has ls 8 [(3, .int (nI n1)), (0, .ref y0), (1, .int e0), (2, .int i0), (4, .int aw), (5, .int z)] → W p l e { frames := 4, cells := 0, slots := 0, locals := 87 } s m args below meth c H locs 0 0 Q (F0 m 121 ls [])) : ∀ (n : Nat) (n1 : Nat) (z : Int32) (aw : Int32) (bb1 : Nat → Int32) (mu : Nat → Int32), (n1 ≤ E) → (∀ i j, i < n1 → j < n1 → bb1 i = bb1 j → i = j) → (∀ i, i < n1 → vp_in (bb1 i) E) → (¬ z = 0 → (vp_in aw E ∧ ∀ i, i < n1 → ¬ bb1 i = aw)) → E + 1 - n1 < n → ∀ (H : Heap) (locs : List Loc) (ls : Array Slot), va_P D vwCl (wc (cO y0 6 [.int (nI E), .int (nI Ac), .int (nI Gr), .ref b3, .ref b4, .ref b5, .ref b6, .ref b7, .ref b8, .ref b9, .ref b10, .ref b11, .ref b12, .ref b13, .ref b14, .ref b15, .ref b16, .ref b17, .ref b18, .ref b19, .ref b20, .ref b21, .ref b22, .int (nI rm), .ref b24, .ref b25]) (wc (cA b3 cI 60 tr) (wc (cA b4 cI 60 pl) (wc (cA b5 cI 60 so) (wc (cA b7 cI 100 fr) (wc (cA b8 cI 100 to) (wc (cA b9 cI 100 le) (wc (cA b10 cZ 100 ke) (wc (cA b11 cZ 16 ca) (wc (cA b18 cI 60 mu) (wc (cA b19 cI 60 bb1) wN))))))))))) H → va_D A (wc (cO y0 6 [.int (nI E), .int (nI Ac), .int (nI Gr), .ref b3, .ref b4, .ref b5, .ref b6, .ref b7, .ref b8, .ref b9, .ref b10, .ref b11, .ref b12, .ref b13, .ref b14, .ref b15, .ref b16, .ref b17, .ref b18, .ref b19, .ref b20, .ref b21, .ref b22, .int (nI rm), .ref b24, .ref b25]) (wc (cA b3 cI 60 tr) (wc (cA b4 cI 60 pl) (wc (cA b5 cI 60 so) (wc (cA b7 cI 100 fr) (wc (cA b8 cI 100 to) (wc (cA b9 cI 100 le) (wc (cA b10 cZ 100 ke) (wc (cA b11 cZ 16 ca) (wc (cA b18 cI 60 mu) (wc (cA b19 cI 60 bb1) wN))))))))))) → va_S A s.heap H locs → lv_has ls 8 [(3, .int (nI n1)), (0, .ref y0), (1, .int e0), (2, .int i0), (4, .int aw), (5, .int z)] → W p l e { frames := 4, cells := 0, slots := 0, locals := 87 } s m args below meth c H locs 0 0 Q (F0 m 22 ls []) := by
  have kw_0 := hts (.fieldLink RX6 59 "DelayDeskModel" "back" "[I") (List.mem_of_getElem? (i := 1) rfl)
  have iX6 : ∀ w ∈ u_ws RX6 TX6 26, w ∈ wsX6_way := fun _ h9 => (List.mem_cons_of_mem _ (List.mem_append_right _ h9))
  have kw_2 := hts (.fieldLink RX6 22 "DelayDeskModel" "from" "[I") (List.mem_of_getElem? (i := 2) rfl)
  intro n
  induction n with
  | zero =>
    intro n1 z aw bb1 mu hn hdst hrg hz hm
    exact absurd hm (Nat.not_lt_zero _)
  | succ n ih =>
    intro n1 z aw bb1 mu hn hdst hrg hz hm H locs ls hP hD hS hl
    refine lv_iload hx hb dX6_way_22 (lv_at hl 5 rfl) ?_
    refine lv_if_eq (tgt := 121) hx hb dX6_way_24 (by decide) (fun c_24 => ?_) (fun c_24 => ?_)
    · exact kx_121 n1 z aw bb1 mu (by first | with_reducible assumption | omega | exact vp_le (by with_reducible assumption) (by omega) | (intros; omega)) ((by first | assumption | exact (fun i j hi => absurd hi (Nat.not_lt_zero _)) | exact dst_upd hdst hzz.2)) ((by first | assumption | exact (fun i hi => absurd hi (Nat.not_lt_zero _)) | exact vp_upd hrg hzz.1 (Nat.le_refl _))) ((by first | assumption | exact (fun h => ⟨(hz h).1, fun i hi => (hz h).2 i (by omega)⟩) | exact (fun _ => ⟨by with_reducible assumption, fun i hi => absurd hi (Nat.not_lt_zero _)⟩))) _ _ _ (hP.sub [0, 1, 2, 3, 4, 5, 6, 7, 8, 9, 10] rfl) (hD.sub [0, 1, 2, 3, 4, 5, 6, 7, 8, 9, 10] (by decide) rfl) hS (lv_sub hl [0, 1, 2, 3, 4, 5] rfl)
    · have hzz := hz c_24; have hn1 : n1 < E := pig_n (by omega) hdst hrg hzz.1 hzz.2
      refine lv_aload_n hx hb dX6_way_27 rfl (lv_at hl 1 rfl) ?_
      refine va_get (D := D) (ci := 6) (v := .ref b19) (C := RX6) (T := TX6) (N := 26) hx hb hts iX6 hown hK.1 hP 0 rfl rfl 19 (by decide) kw_0 (fun _ h9 => h9) rfl dX6_way_28 ?_
      refine lv_iload_n hx hb dX6_way_31 rfl (lv_at hl 0 rfl) ?_
      refine lv_iload hx hb dX6_way_32 (lv_at hl 4 rfl) ?_
      refine wa_I hx hb hK hP hD hS 10 rfl (k := n1) (by omega) (by decide) dX6_way_34 (fun H locs hP hD hS => ?_)
      have hP : va_P D vwCl (wc (cO y0 6 [.int (nI E), .int (nI Ac), .int (nI Gr), .ref b3, .ref b4, .ref b5, .ref b6, .ref b7, .ref b8, .ref b9, .ref b10, .ref b11, .ref b12, .ref b13, .ref b14, .ref b15, .ref b16, .ref b17, .ref b18, .ref b19, .ref b20, .ref b21, .ref b22, .int (nI rm), .ref b24, .ref b25]) (wc (cA b3 cI 60 tr) (wc (cA b4 cI 60 pl) (wc (cA b5 cI 60 so) (wc (cA b7 cI 100 fr) (wc (cA b8 cI 100 to) (wc (cA b9 cI 100 le) (wc (cA b10 cZ 100 ke) (wc (cA b11 cZ 16 ca) (wc (cA b18 cI 60 mu) (wc (cA b19 cI 60 (upd bb1 n1 aw)) wN))))))))))) H := hP
      have hD : va_D A (wc (cO y0 6 [.int (nI E), .int (nI Ac), .int (nI Gr), .ref b3, .ref b4, .ref b5, .ref b6, .ref b7, .ref b8, .ref b9, .ref b10, .ref b11, .ref b12, .ref b13, .ref b14, .ref b15, .ref b16, .ref b17, .ref b18, .ref b19, .ref b20, .ref b21, .ref b22, .int (nI rm), .ref b24, .ref b25]) (wc (cA b3 cI 60 tr) (wc (cA b4 cI 60 pl) (wc (cA b5 cI 60 so) (wc (cA b7 cI 100 fr) (wc (cA b8 cI 100 to) (wc (cA b9 cI 100 le) (wc (cA b10 cZ 100 ke) (wc (cA b11 cZ 16 ca) (wc (cA b18 cI 60 mu) (wc (cA b19 cI 60 (upd bb1 n1 aw)) wN))))))))))) := hD
      refine lv_iload_n hx hb dX6_way_35 rfl (lv_at hl 0 rfl) ?_
      refine lv_iconst (v := 1) hx hb dX6_way_36 (by decide) ?_
      refine lv_iadd hx hb dX6_way_37 ?_
      refine W.eq (g2 := F0 m 38 ls [.int (nI (n1 + 1))]) (by first | rw [nI_1] | rw [nI_add] | exact congrArg (fun z => F0 m 38 ls (Value.int z :: _)) (nI_add _ _)) ?_
      refine lv_istore_n (lv' := [(3, .int (nI (n1 + 1))), (0, .ref y0), (1, .int e0), (2, .int i0), (4, .int aw), (5, .int z)]) hx hb dX6_way_38 rfl hl (by decide) rfl (fun ls hl => ?_)
      refine lv_aload_n hx hb dX6_way_39 rfl (lv_at hl 1 rfl) ?_
      refine lv_iload hx hb dX6_way_40 (lv_at hl 4 rfl) ?_
      refine cl_i (wr := (wc (cA b19 cI 60 (upd bb1 n1 aw)) wN)) (va_runV (As := [.int aw]) (rest := []) ⟨hx, hb, hml, hown, hts⟩ (c_m_causeOf l D cI cZ cR y0 b3 b4 b5 b6 b7 b8 b9 b10 b11 b12 b13 b14 b15 b16 b17 b18 b19 b20 b21 b22 b24 b25 E Ac Gr rm tr pl so fr to le ke ca mu aw (by omega) (by omega) (by with_reducible assumption) (by with_reducible assumption) (by with_reducible assumption) H.size) (cwV 1 hts gX6_way_X6_causeOf rfl rfl rfl hd_X6_causeOf ⟨Nat.le_of_ble_eq_true rfl, Nat.le_of_ble_eq_true rfl⟩) (pV 6 0 hK hP hD [0, 1, 2, 3, 4, 5, 6, 7, 8, 9] rfl (by decide) rfl rfl) rfl rfl hl.1 rfl (lv_room (Nat.le_of_ble_eq_true rfl)) dX6_way_42 ⟨Nat.le_of_ble_eq_true rfl, Nat.le_of_ble_eq_true rfl⟩) hP hD hS hA [0, 1, 2, 3, 4, 5, 6, 7, 8, 9] [10] rfl rfl (by decide) (by decide) (fun r_42 u_42 H locs hw_42 hP hD hS => ?_)
      have hP : va_P D vwCl (wc (cA b19 cI 60 (upd bb1 n1 aw)) (wc (cO y0 6 [.int (nI E), .int (nI Ac), .int (nI Gr), .ref b3, .ref b4, .ref b5, .ref b6, .ref b7, .ref b8, .ref b9, .ref b10, .ref b11, .ref b12, .ref b13, .ref b14, .ref b15, .ref b16, .ref b17, .ref b18, .ref b19, .ref b20, .ref b21, .ref b22, .int (nI rm), .ref b24, .ref b25]) (wc (cA b3 cI 60 tr) (wc (cA b4 cI 60 pl) (wc (cA b5 cI 60 so) (wc (cA b7 cI 100 fr) (wc (cA b8 cI 100 to) (wc (cA b9 cI 100 le) (wc (cA b10 cZ 100 ke) (wc (cA b11 cZ 16 ca) (wc (cA b18 cI 60 mu) wN))))))))))) H := hP
      have hD : va_D A (wc (cA b19 cI 60 (upd bb1 n1 aw)) (wc (cO y0 6 [.int (nI E), .int (nI Ac), .int (nI Gr), .ref b3, .ref b4, .ref b5, .ref b6, .ref b7, .ref b8, .ref b9, .ref b10, .ref b11, .ref b12, .ref b13, .ref b14, .ref b15, .ref b16, .ref b17, .ref b18, .ref b19, .ref b20, .ref b21, .ref b22, .int (nI rm), .ref b24, .ref b25]) (wc (cA b3 cI 60 tr) (wc (cA b4 cI 60 pl) (wc (cA b5 cI 60 so) (wc (cA b7 cI 100 fr) (wc (cA b8 cI 100 to) (wc (cA b9 cI 100 le) (wc (cA b10 cZ 100 ke) (wc (cA b11 cZ 16 ca) (wc (cA b18 cI 60 mu) wN))))))))))) := hD
      rcases hw_42 with ⟨rfl, hf_42⟩ | rfl
      · have hv42 := hf_42
        refine lv_istore (lv' := [(6, .int (nI u_42)), (3, .int (nI (n1 + 1))), (0, .ref y0), (1, .int e0), (2, .int i0), (4, .int aw), (5, .int z)]) hx hb dX6_way_45 hl (by decide) rfl (fun ls hl => ?_)
        refine lv_iload hx hb dX6_way_47 (lv_at hl 0 rfl) ?_
        refine lv_iconst (v := (-1)) hx hb dX6_way_49 (by decide) ?_
        refine lv_icmp_ne (tgt := 57) hx hb dX6_way_50 (by decide) (fun c_50 => ?_) (fun c_50 => ?_)
        · refine lv_aload_n hx hb dX6_way_57 rfl (lv_at hl 2 rfl) ?_
          refine va_get (D := D) (ci := 6) (v := .ref b7) (C := RX6) (T := TX6) (N := 26) hx hb hts iX6 hown hK.1 hP 1 rfl rfl 7 (by decide) kw_2 (fun _ h9 => h9) rfl dX6_way_58 ?_
          refine lv_iload hx hb dX6_way_61 (lv_at hl 0 rfl) ?_
          refine ra_I hx hb hK hP 5 rfl (k := u_42) (by omega) (by decide) dX6_way_63 ?_
          have f_63 : vp_in (fr u_42) E := hfr _ (by omega)
          refine lv_istore (lv' := [(4, .int (fr u_42)), (6, .int (nI u_42)), (3, .int (nI (n1 + 1))), (0, .ref y0), (1, .int e0), (2, .int i0), (5, .int z)]) hx hb dX6_way_64 hl (by decide) rfl (fun ls hl => ?_)
          refine lv_iload hx hb dX6_way_66 (lv_at hl 0 rfl) ?_
          refine lv_iconst (v := (-1)) hx hb dX6_way_68 (by decide) ?_
          refine lv_icmp_eq (tgt := 76) hx hb dX6_way_69 (by decide) (fun c_69 => ?_) (fun c_69 => ?_)
          · refine lv_iconst (v := 0) hx hb dX6_way_76 (by decide) ?_
            refine lv_istore (lv' := [(5, .int 0), (4, .int (fr u_42)), (6, .int (nI u_42)), (3, .int (nI (n1 + 1))), (0, .ref y0), (1, .int e0), (2, .int i0)]) hx hb dX6_way_77 hl (by decide) rfl (fun ls hl => ?_)
            refine lv_iconst (v := 0) hx hb dX6_way_79 (by decide) ?_
            refine lv_istore (lv' := [(7, .int 0), (5, .int 0), (4, .int (fr u_42)), (6, .int (nI u_42)), (3, .int (nI (n1 + 1))), (0, .ref y0), (1, .int e0), (2, .int i0)]) hx hb dX6_way_80 hl (by decide) rfl (fun ls hl => ?_)
            refine lp_m_way2 l D cI cZ cR y0 b3 b4 b5 b6 b7 b8 b9 b10 b11 b12 b13 b14 b15 b16 b17 b18 b19 b20 b21 b22 b24 b25 E Ac Gr rm tr pl so fr to le ke ca mi bb e0 i0 hE hAc htr hfr hto (n1 + 1) (fr u_42) (upd bb1 n1 aw) mu hx hb hts hown hml hK hA (fun k z hk hnn hz hkn H locs ls hP hD hS hl => ?_) _ 0 0 (by first | with_reducible assumption | omega | exact vp_le (by with_reducible assumption) (by omega) | (intros; omega)) (by first | with_reducible assumption | omega | exact vp_le (by with_reducible assumption) (by omega) | (intros; omega)) ((by first | exact (fun h => absurd rfl h) | exact (fun _ => ⟨(hz c_90).1, lt_s (hz c_90).2 c_102⟩) | exact (fun _ => ⟨by with_reducible assumption, fun i hi => absurd hi (Nat.not_lt_zero _)⟩) | assumption)) (Nat.lt_succ_self _) _ _ _ (hP.sub [1, 2, 3, 4, 5, 6, 7, 8, 9, 10, 0] rfl) (hD.sub [1, 2, 3, 4, 5, 6, 7, 8, 9, 10, 0] (by decide) rfl) hS (lv_sub hl [0, 5, 6, 7, 4, 2, 1] rfl)
            refine lv_goto (tgt := 22) hx hb dX6_way_118 (by decide) ?_
            exact ih (n1 + 1) z (fr u_42) (upd bb1 n1 aw) mu (by first | with_reducible assumption | omega | exact vp_le (by with_reducible assumption) (by omega) | (intros; omega)) ((by first | assumption | exact (fun i j hi => absurd hi (Nat.not_lt_zero _)) | exact dst_upd hdst hzz.2)) ((by first | assumption | exact (fun i hi => absurd hi (Nat.not_lt_zero _)) | exact vp_upd hrg hzz.1 (Nat.le_refl _))) ((by first | assumption | exact (fun h => ⟨(hz h).1, fun i hi => (hz h).2 i (by omega)⟩) | exact (fun _ => ⟨by with_reducible assumption, fun i hi => absurd hi (Nat.not_lt_zero _)⟩))) (by omega) _ _ _ (hP.sub [0, 1, 2, 3, 4, 5, 6, 7, 8, 9, 10] rfl) (hD.sub [0, 1, 2, 3, 4, 5, 6, 7, 8, 9, 10] (by decide) rfl) hS (lv_sub hl [4, 1, 2, 3, 5, 6] rfl)
          · refine lv_iconst (v := 1) hx hb dX6_way_72 (by decide) ?_
            refine lv_goto (tgt := 77) hx hb dX6_way_73 (by decide) ?_
            refine lv_istore (lv' := [(5, .int 1), (4, .int (fr u_42)), (6, .int (nI u_42)), (3, .int (nI (n1 + 1))), (0, .ref y0), (1, .int e0), (2, .int i0)]) hx hb dX6_way_77 hl (by decide) rfl (fun ls hl => ?_)
            refine lv_iconst (v := 0) hx hb dX6_way_79 (by decide) ?_
            refine lv_istore (lv' := [(7, .int 0), (5, .int 1), (4, .int (fr u_42)), (6, .int (nI u_42)), (3, .int (nI (n1 + 1))), (0, .ref y0), (1, .int e0), (2, .int i0)]) hx hb dX6_way_80 hl (by decide) rfl (fun ls hl => ?_)
            refine lp_m_way2 l D cI cZ cR y0 b3 b4 b5 b6 b7 b8 b9 b10 b11 b12 b13 b14 b15 b16 b17 b18 b19 b20 b21 b22 b24 b25 E Ac Gr rm tr pl so fr to le ke ca mi bb e0 i0 hE hAc htr hfr hto (n1 + 1) (fr u_42) (upd bb1 n1 aw) mu hx hb hts hown hml hK hA (fun k z hk hnn hz hkn H locs ls hP hD hS hl => ?_) _ 0 1 (by first | with_reducible assumption | omega | exact vp_le (by with_reducible assumption) (by omega) | (intros; omega)) (by first | with_reducible assumption | omega | exact vp_le (by with_reducible assumption) (by omega) | (intros; omega)) ((by first | exact (fun h => absurd rfl h) | exact (fun _ => ⟨(hz c_90).1, lt_s (hz c_90).2 c_102⟩) | exact (fun _ => ⟨by with_reducible assumption, fun i hi => absurd hi (Nat.not_lt_zero _)⟩) | assumption)) (Nat.lt_succ_self _) _ _ _ (hP.sub [1, 2, 3, 4, 5, 6, 7, 8, 9, 10, 0] rfl) (hD.sub [1, 2, 3, 4, 5, 6, 7, 8, 9, 10, 0] (by decide) rfl) hS (lv_sub hl [0, 5, 6, 7, 4, 2, 1] rfl)
            refine lv_goto (tgt := 22) hx hb dX6_way_118 (by decide) ?_
            exact ih (n1 + 1) z (fr u_42) (upd bb1 n1 aw) mu (by first | with_reducible assumption | omega | exact vp_le (by with_reducible assumption) (by omega) | (intros; omega)) ((by first | assumption | exact (fun i j hi => absurd hi (Nat.not_lt_zero _)) | exact dst_upd hdst hzz.2)) ((by first | assumption | exact (fun i hi => absurd hi (Nat.not_lt_zero _)) | exact vp_upd hrg hzz.1 (Nat.le_refl _))) ((by first | assumption | exact (fun h => ⟨(hz h).1, fun i hi => (hz h).2 i (by omega)⟩) | exact (fun _ => ⟨by with_reducible assumption, fun i hi => absurd hi (Nat.not_lt_zero _)⟩))) (by omega) _ _ _ (hP.sub [0, 1, 2, 3, 4, 5, 6, 7, 8, 9, 10] rfl) (hD.sub [0, 1, 2, 3, 4, 5, 6, 7, 8, 9, 10] (by decide) rfl) hS (lv_sub hl [4, 1, 2, 3, 5, 6] rfl)
        · refine lv_iconst (v := (-1)) hx hb dX6_way_53 (by decide) ?_
          refine lv_goto (tgt := 64) hx hb dX6_way_54 (by decide) ?_
          refine lv_istore (lv' := [(4, .int (-1)), (6, .int (nI u_42)), (3, .int (nI (n1 + 1))), (0, .ref y0), (1, .int e0), (2, .int i0), (5, .int z)]) hx hb dX6_way_64 hl (by decide) rfl (fun ls hl => ?_)
          refine lv_iload hx hb dX6_way_66 (lv_at hl 0 rfl) ?_
          refine lv_iconst (v := (-1)) hx hb dX6_way_68 (by decide) ?_
          refine lv_icmp_eq (tgt := 76) hx hb dX6_way_69 (by decide) (fun c_69 => ?_) (fun c_69 => absurd (by decide) c_69)
          refine lv_iconst (v := 0) hx hb dX6_way_76 (by decide) ?_
          refine lv_istore (lv' := [(5, .int 0), (4, .int (-1)), (6, .int (nI u_42)), (3, .int (nI (n1 + 1))), (0, .ref y0), (1, .int e0), (2, .int i0)]) hx hb dX6_way_77 hl (by decide) rfl (fun ls hl => ?_)
          refine lv_iconst (v := 0) hx hb dX6_way_79 (by decide) ?_
          refine lv_istore (lv' := [(7, .int 0), (5, .int 0), (4, .int (-1)), (6, .int (nI u_42)), (3, .int (nI (n1 + 1))), (0, .ref y0), (1, .int e0), (2, .int i0)]) hx hb dX6_way_80 hl (by decide) rfl (fun ls hl => ?_)
          refine lp_m_way2 l D cI cZ cR y0 b3 b4 b5 b6 b7 b8 b9 b10 b11 b12 b13 b14 b15 b16 b17 b18 b19 b20 b21 b22 b24 b25 E Ac Gr rm tr pl so fr to le ke ca mi bb e0 i0 hE hAc htr hfr hto (n1 + 1) (-1) (upd bb1 n1 aw) mu hx hb hts hown hml hK hA (fun k z hk hnn hz hkn H locs ls hP hD hS hl => ?_) _ 0 0 (by first | with_reducible assumption | omega | exact vp_le (by with_reducible assumption) (by omega) | (intros; omega)) (by first | with_reducible assumption | omega | exact vp_le (by with_reducible assumption) (by omega) | (intros; omega)) ((by first | exact (fun h => absurd rfl h) | exact (fun _ => ⟨(hz c_90).1, lt_s (hz c_90).2 c_102⟩) | exact (fun _ => ⟨by with_reducible assumption, fun i hi => absurd hi (Nat.not_lt_zero _)⟩) | assumption)) (Nat.lt_succ_self _) _ _ _ (hP.sub [1, 2, 3, 4, 5, 6, 7, 8, 9, 10, 0] rfl) (hD.sub [1, 2, 3, 4, 5, 6, 7, 8, 9, 10, 0] (by decide) rfl) hS (lv_sub hl [0, 5, 6, 7, 4, 2, 1] rfl)
          refine lv_goto (tgt := 22) hx hb dX6_way_118 (by decide) ?_
          exact ih (n1 + 1) z (-1) (upd bb1 n1 aw) mu (by first | with_reducible assumption | omega | exact vp_le (by with_reducible assumption) (by omega) | (intros; omega)) ((by first | assumption | exact (fun i j hi => absurd hi (Nat.not_lt_zero _)) | exact dst_upd hdst hzz.2)) ((by first | assumption | exact (fun i hi => absurd hi (Nat.not_lt_zero _)) | exact vp_upd hrg hzz.1 (Nat.le_refl _))) ((by first | assumption | exact (fun h => ⟨(hz h).1, fun i hi => (hz h).2 i (by omega)⟩) | exact (fun _ => ⟨by with_reducible assumption, fun i hi => absurd hi (Nat.not_lt_zero _)⟩))) (by omega) _ _ _ (hP.sub [0, 1, 2, 3, 4, 5, 6, 7, 8, 9, 10] rfl) (hD.sub [0, 1, 2, 3, 4, 5, 6, 7, 8, 9, 10] (by decide) rfl) hS (lv_sub hl [4, 1, 2, 3, 5, 6] rfl)
      · refine lv_istore (lv' := [(6, .int (-1)), (3, .int (nI (n1 + 1))), (0, .ref y0), (1, .int e0), (2, .int i0), (4, .int aw), (5, .int z)]) hx hb dX6_way_45 hl (by decide) rfl (fun ls hl => ?_)
        refine lv_iload hx hb dX6_way_47 (lv_at hl 0 rfl) ?_
        refine lv_iconst (v := (-1)) hx hb dX6_way_49 (by decide) ?_
        refine lv_icmp_ne (tgt := 57) hx hb dX6_way_50 (by decide) (fun c_50 => absurd c_50 (by decide)) (fun c_50 => ?_)
        refine lv_iconst (v := (-1)) hx hb dX6_way_53 (by decide) ?_
        refine lv_goto (tgt := 64) hx hb dX6_way_54 (by decide) ?_
        refine lv_istore (lv' := [(4, .int (-1)), (6, .int (-1)), (3, .int (nI (n1 + 1))), (0, .ref y0), (1, .int e0), (2, .int i0), (5, .int z)]) hx hb dX6_way_64 hl (by decide) rfl (fun ls hl => ?_)
        refine lv_iload hx hb dX6_way_66 (lv_at hl 0 rfl) ?_
        refine lv_iconst (v := (-1)) hx hb dX6_way_68 (by decide) ?_
        refine lv_icmp_eq (tgt := 76) hx hb dX6_way_69 (by decide) (fun c_69 => ?_) (fun c_69 => absurd (by decide) c_69)
        refine lv_iconst (v := 0) hx hb dX6_way_76 (by decide) ?_
        refine lv_istore (lv' := [(5, .int 0), (4, .int (-1)), (6, .int (-1)), (3, .int (nI (n1 + 1))), (0, .ref y0), (1, .int e0), (2, .int i0)]) hx hb dX6_way_77 hl (by decide) rfl (fun ls hl => ?_)
        refine lv_iconst (v := 0) hx hb dX6_way_79 (by decide) ?_
        refine lv_istore (lv' := [(7, .int 0), (5, .int 0), (4, .int (-1)), (6, .int (-1)), (3, .int (nI (n1 + 1))), (0, .ref y0), (1, .int e0), (2, .int i0)]) hx hb dX6_way_80 hl (by decide) rfl (fun ls hl => ?_)
        refine lp_m_way2 l D cI cZ cR y0 b3 b4 b5 b6 b7 b8 b9 b10 b11 b12 b13 b14 b15 b16 b17 b18 b19 b20 b21 b22 b24 b25 E Ac Gr rm tr pl so fr to le ke ca mi bb e0 i0 hE hAc htr hfr hto (n1 + 1) (-1) (upd bb1 n1 aw) mu hx hb hts hown hml hK hA (fun k z hk hnn hz hkn H locs ls hP hD hS hl => ?_) _ 0 0 (by first | with_reducible assumption | omega | exact vp_le (by with_reducible assumption) (by omega) | (intros; omega)) (by first | with_reducible assumption | omega | exact vp_le (by with_reducible assumption) (by omega) | (intros; omega)) ((by first | exact (fun h => absurd rfl h) | exact (fun _ => ⟨(hz c_90).1, lt_s (hz c_90).2 c_102⟩) | exact (fun _ => ⟨by with_reducible assumption, fun i hi => absurd hi (Nat.not_lt_zero _)⟩) | assumption)) (Nat.lt_succ_self _) _ _ _ (hP.sub [1, 2, 3, 4, 5, 6, 7, 8, 9, 10, 0] rfl) (hD.sub [1, 2, 3, 4, 5, 6, 7, 8, 9, 10, 0] (by decide) rfl) hS (lv_sub hl [0, 5, 6, 7, 4, 2, 1] rfl)
        refine lv_goto (tgt := 22) hx hb dX6_way_118 (by decide) ?_
        exact ih (n1 + 1) z (-1) (upd bb1 n1 aw) mu (by first | with_reducible assumption | omega | exact vp_le (by with_reducible assumption) (by omega) | (intros; omega)) ((by first | assumption | exact (fun i j hi => absurd hi (Nat.not_lt_zero _)) | exact dst_upd hdst hzz.2)) ((by first | assumption | exact (fun i hi => absurd hi (Nat.not_lt_zero _)) | exact vp_upd hrg hzz.1 (Nat.le_refl _))) ((by first | assumption | exact (fun h => ⟨(hz h).1, fun i hi => (hz h).2 i (by omega)⟩) | exact (fun _ => ⟨by with_reducible assumption, fun i hi => absurd hi (Nat.not_lt_zero _)⟩))) (by omega) _ _ _ (hP.sub [0, 1, 2, 3, 4, 5, 6, 7, 8, 9, 10] rfl) (hD.sub [0, 1, 2, 3, 4, 5, 6, 7, 8, 9, 10] (by decide) rfl) hS (lv_sub hl [4, 1, 2, 3, 5, 6] rfl)
set_option maxHeartbeats 300000 in
set_option maxRecDepth 100000 in
theorem c_m_way (l : Launch) (D : va_G) (cI cZ cR : ClassId) (y0 : Nat) (b3 : Nat) (b4 : Nat) (b5 : Nat) (b6 : Nat) (b7 : Nat) (b8 : Nat) (b9 : Nat) (b10 : Nat) (b11 : Nat) (b12 : Nat) (b13 : Nat) (b14 : Nat) (b15 : Nat) (b16 : Nat) (b17 : Nat) (b18 : Nat) (b19 : Nat) (b20 : Nat) (b21 : Nat) (b22 : Nat) (b24 : Nat) (b25 : Nat) (E : Nat) (Ac : Nat) (Gr : Nat) (rm : Nat) (tr : Nat → Int32) (pl : Nat → Int32) (so : Nat → Int32) (fr : Nat → Int32) (to : Nat → Int32) (le : Nat → Int32) (ke : Nat → Int32) (ca : Nat → Int32) (mi : Nat → Int32) (bb : Nat → Int32) (e0 : Int32) (i0 : Int32) (hE : E ≤ 60) (hAc : Ac ≤ 100) (htr : ∀ i, i < E → vp_in (tr i) 16) (hfr : ∀ i, i < Ac → vp_in (fr i) E) (hto : ∀ i, i < Ac → vp_in (to i) E) : CI l D cI cZ cR yX6_way wsX6_way { frames := 4, cells := 0, slots := 0, locals := 87 } [.ref y0, .int e0, .int i0] (wc (cO y0 6 [.int (nI E), .int (nI Ac), .int (nI Gr), .ref b3, .ref b4, .ref b5, .ref b6, .ref b7, .ref b8, .ref b9, .ref b10, .ref b11, .ref b12, .ref b13, .ref b14, .ref b15, .ref b16, .ref b17, .ref b18, .ref b19, .ref b20, .ref b21, .ref b22, .int (nI rm), .ref b24, .ref b25]) (wc (cA b3 cI 60 tr) (wc (cA b4 cI 60 pl) (wc (cA b5 cI 60 so) (wc (cA b7 cI 100 fr) (wc (cA b8 cI 100 to) (wc (cA b9 cI 100 le) (wc (cA b10 cZ 100 ke) (wc (cA b11 cZ 16 ca) (wc (cA b18 cI 60 mi) (wc (cA b19 cI 60 bb) wN))))))))))) (fun (r : Int32) (u : Nat → Nat → Int32) => True) (fun (u : Nat → Nat → Int32) => (wc (cO y0 6 [.int (nI E), .int (nI Ac), .int (nI Gr), .ref b3, .ref b4, .ref b5, .ref b6, .ref b7, .ref b8, .ref b9, .ref b10, .ref b11, .ref b12, .ref b13, .ref b14, .ref b15, .ref b16, .ref b17, .ref b18, .ref b19, .ref b20, .ref b21, .ref b22, .int (nI rm), .ref b24, .ref b25]) (wc (cA b3 cI 60 tr) (wc (cA b4 cI 60 pl) (wc (cA b5 cI 60 so) (wc (cA b7 cI 100 fr) (wc (cA b8 cI 100 to) (wc (cA b9 cI 100 le) (wc (cA b10 cZ 100 ke) (wc (cA b11 cZ 16 ca) (wc (cA b18 cI 60 (u 0)) (wc (cA b19 cI 60 (u 1)) wN)))))))))))) := by
  intro sz9
  refine en_W (Qc := fun A => va_Qi (fun (r : Int32) (u : Nat → Nat → Int32) => True) (sB D cI cZ cR (fun (u : Nat → Nat → Int32) => (wc (cO y0 6 [.int (nI E), .int (nI Ac), .int (nI Gr), .ref b3, .ref b4, .ref b5, .ref b6, .ref b7, .ref b8, .ref b9, .ref b10, .ref b11, .ref b12, .ref b13, .ref b14, .ref b15, .ref b16, .ref b17, .ref b18, .ref b19, .ref b20, .ref b21, .ref b22, .int (nI rm), .ref b24, .ref b25]) (wc (cA b3 cI 60 tr) (wc (cA b4 cI 60 pl) (wc (cA b5 cI 60 so) (wc (cA b7 cI 100 fr) (wc (cA b8 cI 100 to) (wc (cA b9 cI 100 le) (wc (cA b10 cZ 100 ke) (wc (cA b11 cZ 16 ca) (wc (cA b18 cI 60 (u 0)) (wc (cA b19 cI 60 (u 1)) wN)))))))))))) A) A) (cc := cX6_way) (maxL := 8) (ret := (some .int)) (by decide) rfl (Nat.le_of_ble_eq_true rfl) ?_
  intro p e s m below meth c A ls hx hb hr hts hown hlocks hin hml hK hP hD hS hA hl
  have hown : s.vm.findClass RX6 = some m.cls := hown
  have hl : lv_has ls 8 [(0, .ref y0), (1, .int e0), (2, .int i0)] := hl
  have kw_0 := hts (.fieldLink RX6 59 "DelayDeskModel" "back" "[I") (List.mem_of_getElem? (i := 1) rfl)
  have iX6 : ∀ w ∈ u_ws RX6 TX6 26, w ∈ wsX6_way := fun _ h9 => (List.mem_cons_of_mem _ (List.mem_append_right _ h9))
  refine lv_iload_n hx hb dX6_way_0 rfl (lv_at hl 2 rfl) ?_
  refine lv_if_lt (tgt := 12) hx hb dX6_way_1 (by decide) (fun c_1 => ?_) (fun c_1 => ?_)
  · refine lv_iconst (v := (-1)) hx hb dX6_way_12 (by decide) ?_
    exact en_i ((fun k => [mi, bb].getD k (fun _ => 0))) hx hb hr hlocks hK (hP.sub [0, 1, 2, 3, 4, 5, 6, 7, 8, 9, 10] rfl) (hD.sub [0, 1, 2, 3, 4, 5, 6, 7, 8, 9, 10] (by decide) rfl) hS (Nat.le_of_ble_eq_true rfl) (Nat.le_of_ble_eq_true rfl) dX6_way_13 (trivial)
  · refine lv_aload_n hx hb dX6_way_4 rfl (lv_at hl 0 rfl) ?_
    refine lv_iload_n hx hb dX6_way_5 rfl (lv_at hl 1 rfl) ?_
    refine cl_i (wr := (wc (cA b19 cI 60 bb) wN)) (va_runV (As := [.int e0]) (rest := []) ⟨hx, hb, hml, hown, hts⟩ (c_m_isLate l D cI cZ cR y0 b3 b4 b5 b6 b7 b8 b9 b10 b11 b12 b13 b14 b15 b16 b17 b18 b19 b20 b21 b22 b24 b25 E Ac Gr rm tr pl so fr to le ke ca mi e0 (by omega) (by omega) (by with_reducible assumption) (by with_reducible assumption) (by with_reducible assumption) s.heap.size) (cwV 1 hts gX6_way_X6_isLate rfl rfl rfl hd_X6_isLate ⟨Nat.le_of_ble_eq_true rfl, Nat.le_of_ble_eq_true rfl⟩) (pV 6 0 hK hP hD [0, 1, 2, 3, 4, 5, 6, 7, 8, 9] rfl (by decide) rfl rfl) rfl rfl hl.1 rfl (lv_room (Nat.le_of_ble_eq_true rfl)) dX6_way_6 ⟨Nat.le_of_ble_eq_true rfl, Nat.le_of_ble_eq_true rfl⟩) hP hD hS hA [0, 1, 2, 3, 4, 5, 6, 7, 8, 9] [10] rfl rfl (by decide) (by decide) (fun r_6 u_6 H locs hw_6 hP hD hS => ?_)
    have hP : va_P D vwCl (wc (cA b19 cI 60 bb) (wc (cO y0 6 [.int (nI E), .int (nI Ac), .int (nI Gr), .ref b3, .ref b4, .ref b5, .ref b6, .ref b7, .ref b8, .ref b9, .ref b10, .ref b11, .ref b12, .ref b13, .ref b14, .ref b15, .ref b16, .ref b17, .ref b18, .ref b19, .ref b20, .ref b21, .ref b22, .int (nI rm), .ref b24, .ref b25]) (wc (cA b3 cI 60 tr) (wc (cA b4 cI 60 pl) (wc (cA b5 cI 60 so) (wc (cA b7 cI 100 fr) (wc (cA b8 cI 100 to) (wc (cA b9 cI 100 le) (wc (cA b10 cZ 100 ke) (wc (cA b11 cZ 16 ca) (wc (cA b18 cI 60 u_6) wN))))))))))) H := hP
    have hD : va_D A (wc (cA b19 cI 60 bb) (wc (cO y0 6 [.int (nI E), .int (nI Ac), .int (nI Gr), .ref b3, .ref b4, .ref b5, .ref b6, .ref b7, .ref b8, .ref b9, .ref b10, .ref b11, .ref b12, .ref b13, .ref b14, .ref b15, .ref b16, .ref b17, .ref b18, .ref b19, .ref b20, .ref b21, .ref b22, .int (nI rm), .ref b24, .ref b25]) (wc (cA b3 cI 60 tr) (wc (cA b4 cI 60 pl) (wc (cA b5 cI 60 so) (wc (cA b7 cI 100 fr) (wc (cA b8 cI 100 to) (wc (cA b9 cI 100 le) (wc (cA b10 cZ 100 ke) (wc (cA b11 cZ 16 ca) (wc (cA b18 cI 60 u_6) wN))))))))))) := hD
    rcases hw_6 with ⟨rfl, hf_6⟩ | rfl
    · refine lv_if_ne (tgt := 14) hx hb dX6_way_9 (by decide) (fun c_9 => ?_) (fun c_9 => absurd c_9 (by decide))
      refine lv_iconst (v := 0) hx hb dX6_way_14 (by decide) ?_
      refine lv_istore_n (lv' := [(3, .int 0), (0, .ref y0), (1, .int e0), (2, .int i0)]) hx hb dX6_way_15 rfl hl (by decide) rfl (fun ls hl => ?_)
      refine lv_iload_n hx hb dX6_way_16 rfl (lv_at hl 2 rfl) ?_
      refine lv_istore (lv' := [(4, .int e0), (3, .int 0), (0, .ref y0), (1, .int e0), (2, .int i0)]) hx hb dX6_way_17 hl (by decide) rfl (fun ls hl => ?_)
      refine lv_iconst (v := 1) hx hb dX6_way_19 (by decide) ?_
      refine lv_istore (lv' := [(5, .int 1), (4, .int e0), (3, .int 0), (0, .ref y0), (1, .int e0), (2, .int i0)]) hx hb dX6_way_20 hl (by decide) rfl (fun ls hl => ?_)
      refine lp_m_way1 l D cI cZ cR y0 b3 b4 b5 b6 b7 b8 b9 b10 b11 b12 b13 b14 b15 b16 b17 b18 b19 b20 b21 b22 b24 b25 E Ac Gr rm tr pl so fr to le ke ca mi bb e0 i0 hE hAc htr hfr hto hx hb hts hown hml hK hA (fun n1 z aw bb1 mu hn hdst hrg hz H locs ls hP hD hS hl => ?_) _ 0 1 e0 bb u_6 (by first | with_reducible assumption | omega | exact vp_le (by with_reducible assumption) (by omega) | (intros; omega)) ((by first | assumption | exact (fun i j hi => absurd hi (Nat.not_lt_zero _)) | exact dst_upd hdst hzz.2)) ((by first | assumption | exact (fun i hi => absurd hi (Nat.not_lt_zero _)) | exact vp_upd hrg hzz.1 (Nat.le_refl _))) ((by first | assumption | exact (fun h => ⟨(hz h).1, fun i hi => (hz h).2 i (by omega)⟩) | exact (fun _ => ⟨by with_reducible assumption, fun i hi => absurd hi (Nat.not_lt_zero _)⟩))) (Nat.lt_succ_self _) _ _ _ (hP.sub [1, 2, 3, 4, 5, 6, 7, 8, 9, 10, 0] rfl) (hD.sub [1, 2, 3, 4, 5, 6, 7, 8, 9, 10, 0] (by decide) rfl) hS (lv_sub hl [2, 3, 4, 5, 1, 0] rfl)
      refine lv_iload_n hx hb dX6_way_121 rfl (lv_at hl 3 rfl) ?_
      refine lv_iload_n hx hb dX6_way_122 rfl (lv_at hl 0 rfl) ?_
      refine lv_icmp_ge (tgt := 135) hx hb dX6_way_123 (by decide) (fun c_123 => ?_) (fun c_123 => ?_)
      · refine lv_iconst (v := (-1)) hx hb dX6_way_135 (by decide) ?_
        exact en_i ((fun k => [mu, bb1].getD k (fun _ => 0))) hx hb hr hlocks hK (hP.sub [0, 1, 2, 3, 4, 5, 6, 7, 8, 9, 10] rfl) (hD.sub [0, 1, 2, 3, 4, 5, 6, 7, 8, 9, 10] (by decide) rfl) hS (Nat.le_of_ble_eq_true rfl) (Nat.le_of_ble_eq_true rfl) dX6_way_136 (trivial)
      · refine lv_aload_n hx hb dX6_way_126 rfl (lv_at hl 1 rfl) ?_
        refine va_get (D := D) (ci := 6) (v := .ref b19) (C := RX6) (T := TX6) (N := 26) hx hb hts iX6 hown hK.1 hP 0 rfl rfl 19 (by decide) kw_0 (fun _ h9 => h9) rfl dX6_way_127 ?_
        refine lv_iload_n hx hb dX6_way_130 rfl (lv_at hl 3 rfl) ?_
        refine va_iald hx hb hK.1 hP 10 0 rfl rfl (vp_le (vp_mk (by omega) c_1 c_123) (by omega)) dX6_way_131 ?_
        refine lv_goto (tgt := 136) hx hb dX6_way_132 (by decide) ?_
        exact en_i ((fun k => [mu, bb1].getD k (fun _ => 0))) hx hb hr hlocks hK (hP.sub [0, 1, 2, 3, 4, 5, 6, 7, 8, 9, 10] rfl) (hD.sub [0, 1, 2, 3, 4, 5, 6, 7, 8, 9, 10] (by decide) rfl) hS (Nat.le_of_ble_eq_true rfl) (Nat.le_of_ble_eq_true rfl) dX6_way_136 (trivial)
    · refine lv_if_ne (tgt := 14) hx hb dX6_way_9 (by decide) (fun c_9 => absurd c_9 (by decide)) (fun c_9 => ?_)
      refine lv_iconst (v := (-1)) hx hb dX6_way_12 (by decide) ?_
      exact en_i ((fun k => [u_6, bb].getD k (fun _ => 0))) hx hb hr hlocks hK (hP.sub [1, 2, 3, 4, 5, 6, 7, 8, 9, 10, 0] rfl) (hD.sub [1, 2, 3, 4, 5, 6, 7, 8, 9, 10, 0] (by decide) rfl) hS (Nat.le_of_ble_eq_true rfl) (Nat.le_of_ble_eq_true rfl) dX6_way_13 (trivial)
