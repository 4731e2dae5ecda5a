set_option maxHeartbeats 4000000 in
set_option maxRecDepth 100000 in
theorem law_loop {p : Program} {e : Env} {s : State} {m : MethodId} {below : List Frame} {meth : Method} {c : Code} (l : Launch) {b L : Nat} {xs : Nat → Int32} {D : va_G} {cI cZ cR : ClassId} {A : Nat → Prop} (hL : L ≤ 3584) (hx : p.tables.exec = Jvm.exec) (hb : c.code = code) (hr : meth.sig.returnType = ret) (hlocks : meth.locks = false) (hml : c.maxLocals = 4) (hown : s.vm.findClass RL = some m.cls) (hts : ∀ w ∈ wsL_law, w.before #[Value.ref b] s = true) (hX : va_X b L xs s s.heap) (hbl : b < s.heap.size) (hbA : ¬ A b) (hA : ∀ q : Nat, s.heap.size ≤ q → A q) (hAe : ∀ q : Nat, A q → s.heap.size ≤ q) (hK : kK D cI cZ cR s) {q1 q2 : Nat} {u_4 u_12 : Nat → Nat} : ∀ (n i : Nat), L + 7 - i < n → i ≤ L → lawK p l e s m below meth c b D cI cZ cR A q1 q2 u_4 u_12 i 18 := by
  intro n
  induction n with
  | zero =>
    intro i hm
    exact absurd hm (Nat.not_lt_zero _)
  | succ n ih =>
    intro i hm hiL
    have K : i + 7 ≤ L → lawK p l e s m below meth c b D cI cZ cR A q1 q2 u_4 u_12 i 715 := by
      intro hi E Ac Gr tr pl so ki fr to le ke ca mn fi c1 c2 la wt sz_x hd_x rl_x sk_x hs_x rk_x bk_x bc_x th_x cg_x bf_x be_x rr0_x rr1_x rr2_x rr3_x rr4_x rr5_x rr6_x rr7_x rr8_x rr9_x rr10_x od_x nw_x nx_x mi_x se_x sa_x ho_x me_x MM_x rm_m mi_m bb_m cn_m cv_m rg_m ak_m wz_m hE hAc htr hfr hto hGr hfi hla hc1 hc2 hhs hrl hrm hkb hwf hcwf hth hkn H locs ls hP hD hS hl
      refine lv_iinc (v := nI (i + 7)) (lv' := [(3, .int (nI (i + 7))), (2, .ref q2), (1, .ref q1), (0, .ref b)]) hx hb dL_law_715 hl (k := 0) rfl (nI_add i 7) (by decide) rfl (fun ls hl => ?_)
      refine lv_goto (tgt := 18) hx hb dL_law_718 (by decide) ?_
      exact ih (i + 7) (by omega) hi E Ac Gr tr pl so ki fr to le ke ca mn fi c1 c2 la wt sz_x hd_x rl_x sk_x hs_x rk_x bk_x bc_x th_x cg_x bf_x be_x rr0_x rr1_x rr2_x rr3_x rr4_x rr5_x rr6_x rr7_x rr8_x rr9_x rr10_x od_x nw_x nx_x mi_x se_x sa_x ho_x me_x MM_x rm_m mi_m bb_m cn_m cv_m rg_m ak_m wz_m hE hAc htr hfr hto hGr hfi hla hc1 hc2 hhs hrl hrm hkb hwf hcwf hth hkn H locs ls hP hD hS hl
    intro E Ac Gr tr pl so ki fr to le ke ca mn fi c1 c2 la wt sz_x hd_x rl_x sk_x hs_x rk_x bk_x bc_x th_x cg_x bf_x be_x rr0_x rr1_x rr2_x rr3_x rr4_x rr5_x rr6_x rr7_x rr8_x rr9_x rr10_x od_x nw_x nx_x mi_x se_x sa_x ho_x me_x MM_x rm_m mi_m bb_m cn_m cv_m rg_m ak_m wz_m hE hAc htr hfr hto hGr hfi hla hc1 hc2 hhs hrl hrm hkb hwf hcwf hth hkn H locs ls hP hD hS hl
    refine lv_iload_n hx hb dL_law_18 rfl (lv_at hl 0 rfl) ?_
    refine lv_aload_n hx hb dL_law_19 rfl (lv_at hl 3 rfl) ?_
    refine va_slen hx hb hX hbl hbA hS dL_law_20 ?_
    refine lv_bipush (v := 7) hx hb dL_law_21 (by decide) ?_
    refine lv_isub hx hb dL_law_23 ?_
    refine lv_icmp_gt (tgt := 721) hx hb dL_law_24 (by decide) (fun c_24 => ?_) (fun c_24 => ?_)
    · refine lv_iconst (v := 1) hx hb dL_law_721 (by decide) ?_
      refine va_forget (fun q hq => hAe _ (hS.2.2 q hq)) ?_
      refine W.widen (k := 600000) (n := 7302250) (Nat.le_of_ble_eq_true rfl) (Nat.le_of_ble_eq_true rfl) ?_
      exact lw_ret hx hb hr hlocks dL_law_722
    have hi : i + 7 ≤ L := law_in hL (by omega) c_24
    refine lv_aload_n hx hb dL_law_27 rfl (lv_at hl 3 rfl) ?_
    refine lv_iload_n hx hb dL_law_28 rfl (lv_at hl 0 rfl) ?_
    refine sl_I hx hb hX hbl hbA hS (k := i) (by omega) (by omega) dL_law_29 ?_
    refine lv_bipush (v := 31) hx hb dL_law_30 (by decide) ?_
    refine lv_iand hx hb dL_law_32 ?_
    refine lv_topi (fun y ey => ?_)
    by_cases sw_0 : y = 0
    · refine lv_tableIn (tgt := 124) hx hb dL_law_33 (by rw [sw_0]; decide) (by rw [sw_0]; decide) (by rw [sw_0]; rfl) (by decide) ?_
      exact law_0 l hL hx hb hr hlocks hml hown hts hX hbl hbA hA hAe hK hi (K hi) E Ac Gr tr pl so ki fr to le ke ca mn fi c1 c2 la wt sz_x hd_x rl_x sk_x hs_x rk_x bk_x bc_x th_x cg_x bf_x be_x rr0_x rr1_x rr2_x rr3_x rr4_x rr5_x rr6_x rr7_x rr8_x rr9_x rr10_x od_x nw_x nx_x mi_x se_x sa_x ho_x me_x MM_x rm_m mi_m bb_m cn_m cv_m rg_m ak_m wz_m hE hAc htr hfr hto hGr hfi hla hc1 hc2 hhs hrl hrm hkb hwf hcwf hth hkn H locs ls hP hD hS hl
    by_cases sw_1 : y = 1
    · refine lv_tableIn (tgt := 157) hx hb dL_law_33 (by rw [sw_1]; decide) (by rw [sw_1]; decide) (by rw [sw_1]; rfl) (by decide) ?_
      exact law_1 l hL hx hb hr hlocks hml hown hts hX hbl hbA hA hAe hK hi (K hi) E Ac Gr tr pl so ki fr to le ke ca mn fi c1 c2 la wt sz_x hd_x rl_x sk_x hs_x rk_x bk_x bc_x th_x cg_x bf_x be_x rr0_x rr1_x rr2_x rr3_x rr4_x rr5_x rr6_x rr7_x rr8_x rr9_x rr10_x od_x nw_x nx_x mi_x se_x sa_x ho_x me_x MM_x rm_m mi_m bb_m cn_m cv_m rg_m ak_m wz_m hE hAc htr hfr hto hGr hfi hla hc1 hc2 hhs hrl hrm hkb hwf hcwf hth hkn H locs ls hP hD hS hl
    by_cases sw_2 : y = 2
    · refine lv_tableIn (tgt := 210) hx hb dL_law_33 (by rw [sw_2]; decide) (by rw [sw_2]; decide) (by rw [sw_2]; rfl) (by decide) ?_
      exact law_2 l hL hx hb hr hlocks hml hown hts hX hbl hbA hA hAe hK hi (K hi) E Ac Gr tr pl so ki fr to le ke ca mn fi c1 c2 la wt sz_x hd_x rl_x sk_x hs_x rk_x bk_x bc_x th_x cg_x bf_x be_x rr0_x rr1_x rr2_x rr3_x rr4_x rr5_x rr6_x rr7_x rr8_x rr9_x rr10_x od_x nw_x nx_x mi_x se_x sa_x ho_x me_x MM_x rm_m mi_m bb_m cn_m cv_m rg_m ak_m wz_m hE hAc htr hfr hto hGr hfi hla hc1 hc2 hhs hrl hrm hkb hwf hcwf hth hkn H locs ls hP hD hS hl
    by_cases sw_3 : y = 3
    · refine lv_tableIn (tgt := 243) hx hb dL_law_33 (by rw [sw_3]; decide) (by rw [sw_3]; decide) (by rw [sw_3]; rfl) (by decide) ?_
      exact law_3 l hL hx hb hr hlocks hml hown hts hX hbl hbA hA hAe hK hi (K hi) E Ac Gr tr pl so ki fr to le ke ca mn fi c1 c2 la wt sz_x hd_x rl_x sk_x hs_x rk_x bk_x bc_x th_x cg_x bf_x be_x rr0_x rr1_x rr2_x rr3_x rr4_x rr5_x rr6_x rr7_x rr8_x rr9_x rr10_x od_x nw_x nx_x mi_x se_x sa_x ho_x me_x MM_x rm_m mi_m bb_m cn_m cv_m rg_m ak_m wz_m hE hAc htr hfr hto hGr hfi hla hc1 hc2 hhs hrl hrm hkb hwf hcwf hth hkn H locs ls hP hD hS hl
    by_cases sw_4 : y = 4
    · refine lv_tableIn (tgt := 292) hx hb dL_law_33 (by rw [sw_4]; decide) (by rw [sw_4]; decide) (by rw [sw_4]; rfl) (by decide) ?_
      exact law_4 l hL hx hb hr hlocks hml hown hts hX hbl hbA hA hAe hK hi (K hi) E Ac Gr tr pl so ki fr to le ke ca mn fi c1 c2 la wt sz_x hd_x rl_x sk_x hs_x rk_x bk_x bc_x th_x cg_x bf_x be_x rr0_x rr1_x rr2_x rr3_x rr4_x rr5_x rr6_x rr7_x rr8_x rr9_x rr10_x od_x nw_x nx_x mi_x se_x sa_x ho_x me_x MM_x rm_m mi_m bb_m cn_m cv_m rg_m ak_m wz_m hE hAc htr hfr hto hGr hfi hla hc1 hc2 hhs hrl hrm hkb hwf hcwf hth hkn H locs ls hP hD hS hl
    by_cases sw_5 : y = 5
    · refine lv_tableIn (tgt := 315) hx hb dL_law_33 (by rw [sw_5]; decide) (by rw [sw_5]; decide) (by rw [sw_5]; rfl) (by decide) ?_
      exact law_5 l hL hx hb hr hlocks hml hown hts hX hbl hbA hA hAe hK hi (K hi) E Ac Gr tr pl so ki fr to le ke ca mn fi c1 c2 la wt sz_x hd_x rl_x sk_x hs_x rk_x bk_x bc_x th_x cg_x bf_x be_x rr0_x rr1_x rr2_x rr3_x rr4_x rr5_x rr6_x rr7_x rr8_x rr9_x rr10_x od_x nw_x nx_x mi_x se_x sa_x ho_x me_x MM_x rm_m mi_m bb_m cn_m cv_m rg_m ak_m wz_m hE hAc htr hfr hto hGr hfi hla hc1 hc2 hhs hrl hrm hkb hwf hcwf hth hkn H locs ls hP hD hS hl
    by_cases sw_6 : y = 6
    · refine lv_tableIn (tgt := 364) hx hb dL_law_33 (by rw [sw_6]; decide) (by rw [sw_6]; decide) (by rw [sw_6]; rfl) (by decide) ?_
      exact law_6 l hL hx hb hr hlocks hml hown hts hX hbl hbA hA hAe hK hi (K hi) E Ac Gr tr pl so ki fr to le ke ca mn fi c1 c2 la wt sz_x hd_x rl_x sk_x hs_x rk_x bk_x bc_x th_x cg_x bf_x be_x rr0_x rr1_x rr2_x rr3_x rr4_x rr5_x rr6_x rr7_x rr8_x rr9_x rr10_x od_x nw_x nx_x mi_x se_x sa_x ho_x me_x MM_x rm_m mi_m bb_m cn_m cv_m rg_m ak_m wz_m hE hAc htr hfr hto hGr hfi hla hc1 hc2 hhs hrl hrm hkb hwf hcwf hth hkn H locs ls hP hD hS hl
    by_cases sw_7 : y = 7
    · refine lv_tableIn (tgt := 439) hx hb dL_law_33 (by rw [sw_7]; decide) (by rw [sw_7]; decide) (by rw [sw_7]; rfl) (by decide) ?_
      exact law_7 l hL hx hb hr hlocks hml hown hts hX hbl hbA hA hAe hK hi (K hi) E Ac Gr tr pl so ki fr to le ke ca mn fi c1 c2 la wt sz_x hd_x rl_x sk_x hs_x rk_x bk_x bc_x th_x cg_x bf_x be_x rr0_x rr1_x rr2_x rr3_x rr4_x rr5_x rr6_x rr7_x rr8_x rr9_x rr10_x od_x nw_x nx_x mi_x se_x sa_x ho_x me_x MM_x rm_m mi_m bb_m cn_m cv_m rg_m ak_m wz_m hE hAc htr hfr hto hGr hfi hla hc1 hc2 hhs hrl hrm hkb hwf hcwf hth hkn H locs ls hP hD hS hl
    by_cases sw_8 : y = 8
    · refine lv_tableIn (tgt := 452) hx hb dL_law_33 (by rw [sw_8]; decide) (by rw [sw_8]; decide) (by rw [sw_8]; rfl) (by decide) ?_
      exact law_8 l hL hx hb hr hlocks hml hown hts hX hbl hbA hA hAe hK hi (K hi) E Ac Gr tr pl so ki fr to le ke ca mn fi c1 c2 la wt sz_x hd_x rl_x sk_x hs_x rk_x bk_x bc_x th_x cg_x bf_x be_x rr0_x rr1_x rr2_x rr3_x rr4_x rr5_x rr6_x rr7_x rr8_x rr9_x rr10_x od_x nw_x nx_x mi_x se_x sa_x ho_x me_x MM_x rm_m mi_m bb_m cn_m cv_m rg_m ak_m wz_m hE hAc htr hfr hto hGr hfi hla hc1 hc2 hhs hrl hrm hkb hwf hcwf hth hkn H locs ls hP hD hS hl
    by_cases sw_9 : y = 9
    · refine lv_tableIn (tgt := 485) hx hb dL_law_33 (by rw [sw_9]; decide) (by rw [sw_9]; decide) (by rw [sw_9]; rfl) (by decide) ?_
      exact law_9 l hL hx hb hr hlocks hml hown hts hX hbl hbA hA hAe hK hi (K hi) E Ac Gr tr pl so ki fr to le ke ca mn fi c1 c2 la wt sz_x hd_x rl_x sk_x hs_x rk_x bk_x bc_x th_x cg_x bf_x be_x rr0_x rr1_x rr2_x rr3_x rr4_x rr5_x rr6_x rr7_x rr8_x rr9_x rr10_x od_x nw_x nx_x mi_x se_x sa_x ho_x me_x MM_x rm_m mi_m bb_m cn_m cv_m rg_m ak_m wz_m hE hAc htr hfr hto hGr hfi hla hc1 hc2 hhs hrl hrm hkb hwf hcwf hth hkn H locs ls hP hD hS hl
    by_cases sw_10 : y = 10
    · refine lv_tableIn (tgt := 518) hx hb dL_law_33 (by rw [sw_10]; decide) (by rw [sw_10]; decide) (by rw [sw_10]; rfl) (by decide) ?_
      exact law_10 l hL hx hb hr hlocks hml hown hts hX hbl hbA hA hAe hK hi (K hi) E Ac Gr tr pl so ki fr to le ke ca mn fi c1 c2 la wt sz_x hd_x rl_x sk_x hs_x rk_x bk_x bc_x th_x cg_x bf_x be_x rr0_x rr1_x rr2_x rr3_x rr4_x rr5_x rr6_x rr7_x rr8_x rr9_x rr10_x od_x nw_x nx_x mi_x se_x sa_x ho_x me_x MM_x rm_m mi_m bb_m cn_m cv_m rg_m ak_m wz_m hE hAc htr hfr hto hGr hfi hla hc1 hc2 hhs hrl hrm hkb hwf hcwf hth hkn H locs ls hP hD hS hl
    by_cases sw_11 : y = 11
    · refine lv_tableIn (tgt := 541) hx hb dL_law_33 (by rw [sw_11]; decide) (by rw [sw_11]; decide) (by rw [sw_11]; rfl) (by decide) ?_
      exact law_11 l hL hx hb hr hlocks hml hown hts hX hbl hbA hA hAe hK hi (K hi) E Ac Gr tr pl so ki fr to le ke ca mn fi c1 c2 la wt sz_x hd_x rl_x sk_x hs_x rk_x bk_x bc_x th_x cg_x bf_x be_x rr0_x rr1_x rr2_x rr3_x rr4_x rr5_x rr6_x rr7_x rr8_x rr9_x rr10_x od_x nw_x nx_x mi_x se_x sa_x ho_x me_x MM_x rm_m mi_m bb_m cn_m cv_m rg_m ak_m wz_m hE hAc htr hfr hto hGr hfi hla hc1 hc2 hhs hrl hrm hkb hwf hcwf hth hkn H locs ls hP hD hS hl
    by_cases sw_12 : y = 12
    · refine lv_tableIn (tgt := 574) hx hb dL_law_33 (by rw [sw_12]; decide) (by rw [sw_12]; decide) (by rw [sw_12]; rfl) (by decide) ?_
      exact law_12 l hL hx hb hr hlocks hml hown hts hX hbl hbA hA hAe hK hi (K hi) E Ac Gr tr pl so ki fr to le ke ca mn fi c1 c2 la wt sz_x hd_x rl_x sk_x hs_x rk_x bk_x bc_x th_x cg_x bf_x be_x rr0_x rr1_x rr2_x rr3_x rr4_x rr5_x rr6_x rr7_x rr8_x rr9_x rr10_x od_x nw_x nx_x mi_x se_x sa_x ho_x me_x MM_x rm_m mi_m bb_m cn_m cv_m rg_m ak_m wz_m hE hAc htr hfr hto hGr hfi hla hc1 hc2 hhs hrl hrm hkb hwf hcwf hth hkn H locs ls hP hD hS hl
    by_cases sw_13 : y = 13
    · refine lv_tableIn (tgt := 597) hx hb dL_law_33 (by rw [sw_13]; decide) (by rw [sw_13]; decide) (by rw [sw_13]; rfl) (by decide) ?_
      exact law_13 l hL hx hb hr hlocks hml hown hts hX hbl hbA hA hAe hK hi (K hi) E Ac Gr tr pl so ki fr to le ke ca mn fi c1 c2 la wt sz_x hd_x rl_x sk_x hs_x rk_x bk_x bc_x th_x cg_x bf_x be_x rr0_x rr1_x rr2_x rr3_x rr4_x rr5_x rr6_x rr7_x rr8_x rr9_x rr10_x od_x nw_x nx_x mi_x se_x sa_x ho_x me_x MM_x rm_m mi_m bb_m cn_m cv_m rg_m ak_m wz_m hE hAc htr hfr hto hGr hfi hla hc1 hc2 hhs hrl hrm hkb hwf hcwf hth hkn H locs ls hP hD hS hl
    by_cases sw_14 : y = 14
    · refine lv_tableIn (tgt := 630) hx hb dL_law_33 (by rw [sw_14]; decide) (by rw [sw_14]; decide) (by rw [sw_14]; rfl) (by decide) ?_
      exact law_14 l hL hx hb hr hlocks hml hown hts hX hbl hbA hA hAe hK hi (K hi) E Ac Gr tr pl so ki fr to le ke ca mn fi c1 c2 la wt sz_x hd_x rl_x sk_x hs_x rk_x bk_x bc_x th_x cg_x bf_x be_x rr0_x rr1_x rr2_x rr3_x rr4_x rr5_x rr6_x rr7_x rr8_x rr9_x rr10_x od_x nw_x nx_x mi_x se_x sa_x ho_x me_x MM_x rm_m mi_m bb_m cn_m cv_m rg_m ak_m wz_m hE hAc htr hfr hto hGr hfi hla hc1 hc2 hhs hrl hrm hkb hwf hcwf hth hkn H locs ls hP hD hS hl
    by_cases sw_15 : y = 15
    · refine lv_tableIn (tgt := 643) hx hb dL_law_33 (by rw [sw_15]; decide) (by rw [sw_15]; decide) (by rw [sw_15]; rfl) (by decide) ?_
      exact law_15 l hL hx hb hr hlocks hml hown hts hX hbl hbA hA hAe hK hi (K hi) E Ac Gr tr pl so ki fr to le ke ca mn fi c1 c2 la wt sz_x hd_x rl_x sk_x hs_x rk_x bk_x bc_x th_x cg_x bf_x be_x rr0_x rr1_x rr2_x rr3_x rr4_x rr5_x rr6_x rr7_x rr8_x rr9_x rr10_x od_x nw_x nx_x mi_x se_x sa_x ho_x me_x MM_x rm_m mi_m bb_m cn_m cv_m rg_m ak_m wz_m hE hAc htr hfr hto hGr hfi hla hc1 hc2 hhs hrl hrm hkb hwf hcwf hth hkn H locs ls hP hD hS hl
    by_cases sw_16 : y = 16
    · refine lv_tableIn (tgt := 656) hx hb dL_law_33 (by rw [sw_16]; decide) (by rw [sw_16]; decide) (by rw [sw_16]; rfl) (by decide) ?_
      exact law_16 l hL hx hb hr hlocks hml hown hts hX hbl hbA hA hAe hK hi (K hi) E Ac Gr tr pl so ki fr to le ke ca mn fi c1 c2 la wt sz_x hd_x rl_x sk_x hs_x rk_x bk_x bc_x th_x cg_x bf_x be_x rr0_x rr1_x rr2_x rr3_x rr4_x rr5_x rr6_x rr7_x rr8_x rr9_x rr10_x od_x nw_x nx_x mi_x se_x sa_x ho_x me_x MM_x rm_m mi_m bb_m cn_m cv_m rg_m ak_m wz_m hE hAc htr hfr hto hGr hfi hla hc1 hc2 hhs hrl hrm hkb hwf hcwf hth hkn H locs ls hP hD hS hl
    by_cases sw_17 : y = 17
    · refine lv_tableIn (tgt := 679) hx hb dL_law_33 (by rw [sw_17]; decide) (by rw [sw_17]; decide) (by rw [sw_17]; rfl) (by decide) ?_
      exact law_17 l hL hx hb hr hlocks hml hown hts hX hbl hbA hA hAe hK hi (K hi) E Ac Gr tr pl so ki fr to le ke ca mn fi c1 c2 la wt sz_x hd_x rl_x sk_x hs_x rk_x bk_x bc_x th_x cg_x bf_x be_x rr0_x rr1_x rr2_x rr3_x rr4_x rr5_x rr6_x rr7_x rr8_x rr9_x rr10_x od_x nw_x nx_x mi_x se_x sa_x ho_x me_x MM_x rm_m mi_m bb_m cn_m cv_m rg_m ak_m wz_m hE hAc htr hfr hto hGr hfi hla hc1 hc2 hhs hrl hrm hkb hwf hcwf hth hkn H locs ls hP hD hS hl
    by_cases sw_18 : y = 18
    · refine lv_tableIn (tgt := 692) hx hb dL_law_33 (by rw [sw_18]; decide) (by rw [sw_18]; decide) (by rw [sw_18]; rfl) (by decide) ?_
      exact law_18 l hL hx hb hr hlocks hml hown hts hX hbl hbA hA hAe hK hi (K hi) E Ac Gr tr pl so ki fr to le ke ca mn fi c1 c2 la wt sz_x hd_x rl_x sk_x hs_x rk_x bk_x bc_x th_x cg_x bf_x be_x rr0_x rr1_x rr2_x rr3_x rr4_x rr5_x rr6_x rr7_x rr8_x rr9_x rr10_x od_x nw_x nx_x mi_x se_x sa_x ho_x me_x MM_x rm_m mi_m bb_m cn_m cv_m rg_m ak_m wz_m hE hAc htr hfr hto hGr hfi hla hc1 hc2 hhs hrl hrm hkb hwf hcwf hth hkn H locs ls hP hD hS hl
    refine lv_tableOut (tgt := 715) hx hb dL_law_33 (sw_out19 sw_0 sw_1 sw_2 sw_3 sw_4 sw_5 sw_6 sw_7 sw_8 sw_9 sw_10 sw_11 sw_12 sw_13 sw_14 sw_15 sw_16 sw_17 sw_18) (by decide) ?_
    exact K hi E Ac Gr tr pl so ki fr to le ke ca mn fi c1 c2 la wt sz_x hd_x rl_x sk_x hs_x rk_x bk_x bc_x th_x cg_x bf_x be_x rr0_x rr1_x rr2_x rr3_x rr4_x rr5_x rr6_x rr7_x rr8_x rr9_x rr10_x od_x nw_x nx_x mi_x se_x sa_x ho_x me_x MM_x rm_m mi_m bb_m cn_m cv_m rg_m ak_m wz_m hE hAc htr hfr hto hGr hfi hla hc1 hc2 hhs hrl hrm hkb hwf hcwf hth hkn H locs ls hP hD hS hl
