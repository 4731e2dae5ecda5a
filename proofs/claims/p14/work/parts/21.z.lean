/-! rings: steps of the walks -/
section RK
variable {H : Nat → Prop} {fr to le : Nat → Int32} {N E : Nat} {tg : Int32} {NN MM UU : Nat → Nat → Int32} {kk k g z : Nat} {b1 e0 : Int32} {ho ou mu me : Nat → Int32}
theorem mzu_s {M : Nat → Nat → Int32} {r : Nat → Int32} : mzu M k r k = r := by unfold mzu; rw [if_pos rfl]
theorem mzu_n {M : Nat → Nat → Int32} {r : Nat → Int32} {i : Nat} (h : ¬ i = k) : mzu M k r i = M i := by unfold mzu; rw [if_neg h]
theorem fl_s (h : ∀ i, i < k → NN kk i = b1) (hk : k < 60) : ∀ i, i < k + 1 → mzu NN kk (upd (NN kk) (nI k).toNatClampNeg b1) kk i = b1 := by
  intro i hi
  rw [mzu_s, nI_clamp (by omega)]
  by_cases e : i = k
  · rw [e, pk_us]
  · rw [pk_un e]; exact h i (by omega)
theorem fl_o {r : Nat → Int32} (h : ∀ q, ¬ q = kk → NN q = MM q) : ∀ q, ¬ q = kk → mzu NN kk r q = MM q := by
  intro q hq
  rw [mzu_n hq]; exact h q hq
theorem aim_p (h : (∀ i, i < 60 → NN 0 i = (-1)) ∧ ∀ q, ¬ q = 0 → NN q = MM q) : (∀ i, i < 60 → ¬ i = e0.toNatClampNeg → mzu NN 0 (upd (NN 0) e0.toNatClampNeg 0) 0 i = (-1)) ∧ mzu NN 0 (upd (NN 0) e0.toNatClampNeg 0) 0 e0.toNatClampNeg = 0 ∧ ∀ q, ¬ q = 0 → mzu NN 0 (upd (NN 0) e0.toNatClampNeg 0) q = MM q := by
  refine ⟨fun i hi hn => ?_, ?_, fl_o h.2⟩
  · rw [mzu_s, pk_un hn]; exact h.1 i hi
  · rw [mzu_s, pk_us]
theorem gh_e {n : Nat} (h : gHo H k g ou) (e : k = n) : gHo H n g ou := e ▸ h
theorem pm_e {row : Nat → Int32} {n : Nat} (h : pmW H fr to le N tg E ho k z row) (e : k = n) : pmW H fr to le N tg E ho n z row := e ▸ h
theorem rw_o {row row' : Nat → Int32} {s : Nat} (h : rwW H fr to le N tg E s row) (e : row' = row) : rwW H fr to le N tg E s row' := e.symm ▸ h
theorem rws_0 (hE : E ≤ 60) (hv : vp_in e0 E) (h : (∀ i, i < 60 → ¬ i = e0.toNatClampNeg → UU 0 i = (-1)) ∧ UU 0 e0.toNatClampNeg = 0 ∧ ∀ q, ¬ q = 0 → UU q = MM q) : ∀ q, q < 1 → rwW H fr to le N e0 E q (UU q) := by
  intro q hq
  rw [show q = 0 by omega]
  exact rw_aim hE hv h.1 h.2.1
theorem rws_s (h : ∀ q, q < k → rwW H fr to le N tg E q (NN q)) (w : rwW H fr to le N tg E k (UU k) ∧ ∀ q, ¬ q = k → UU q = NN q) : ∀ q, q < k + 1 → rwW H fr to le N tg E q (UU q) := by
  intro q hq
  by_cases e : q = k
  · rw [e]; exact w.1
  · rw [w.2 q e]; exact h q (by omega)
theorem rws_k (h : ∀ q, q < k → rwW H fr to le N tg E q (NN q)) (w : rwW H fr to le N tg E k (UU k) ∧ ∀ q, ¬ q = k → UU q = NN q) : ∀ q, q < k → rwW H fr to le N tg E q (UU q) := fun q hq => rws_s h w q (by omega)
theorem no_s {P : Nat → Prop} (h : ∀ j, j < k → ¬ P (ho j).toNatClampNeg) (hk : ¬ P (ho k).toNatClampNeg) : ∀ j, j < k + 1 → ¬ P (ho j).toNatClampNeg := by
  intro j hj
  by_cases e : j = k
  · rw [e]; exact hk
  · exact h j (by omega)
theorem sh_e {zz : Int32} {su : Nat → Int32} {n : Nat} (h : shI H fr to le N E k zz su) (e : k = n) : shI H fr to le N E n zz su := e ▸ h
theorem sh_n1' {zz : Int32} {su : Nat → Int32} (hE : E ≤ 60) (h : shI H fr to le N E k zz su) (e : zz = (-1)) (hn : ∀ z, 1 ≤ z → z ≤ E → ¬ cyP H fr to le N z k) : shI H fr to le N E (k + 1) zz (upd su k (-1)) := by
  rw [e] at h ⊢
  exact sh_n1 hE h hn
theorem cl_iff {row : Nat → Int32} {y : Int32} {s : Nat} (h : rwW H fr to le N (fr y.toNatClampNeg) E s row) (ht : vp_in (to y.toNatClampNeg) E) (hl : 0 ≤ (le y.toNatClampNeg).toInt ∧ (le y.toNatClampNeg).toInt ≤ 500) (hs : s ≤ 60) : 0 < kRb row to le y ↔ clP H fr to le N y.toNatClampNeg s := eW_pos (kRb_W h ht hl hs)
theorem lo_no {s : Nat} {y : Int32} {sa : Nat → Int32} (hE : E ≤ 60) (hf : ∀ b, b < N → vp_in (fr b) E) (hz : 1 ≤ z) (hsA : ∀ e, e < E → (sa e = nI z ↔ cyP H fr to le N z e)) (hy : y.toNatClampNeg < N) (hH : H y.toNatClampNeg) (c : ¬ sa (fr y.toNatClampNeg).toNatClampNeg = nI z) : ¬ clP H fr to le N y.toNatClampNeg (z - 1) := by
  intro q
  have c9 := cl_cy hE hf hy hH q
  rw [show z - 1 + 1 = z by omega] at c9
  exact c ((hsA _ (vp_lt (hf _ hy))).mpr c9)
theorem gh_m1 (h : gHo H N g ho) (hN : N ≤ 100) {i : Nat} (hi : i < g) (e : ho i = (-1)) : False := by
  obtain ⟨b, q1, q2, q3⟩ := h.2.1 i hi
  exact nI_m1 (by omega) (q2.symm.trans e)
theorem fol_dead {n : Nat} {x : Int32} {po : Prop} (hE : E ≤ 60) (hN : N ≤ 100) (gh : gHo H N g ho) (hx : vp_in x E) (hrd : rdI H fr to le N tg (n + 1) x po) (hpo : po ↔ 0 < b1) (hno : ∀ i, i < g → ¬ gOK H fr to le N tg n x (0 < b1) (ho i).toNatClampNeg) : False := by
  obtain ⟨b, hb, q⟩ := rd_next hE hx hrd
  exact gh_none gh hN (P := gOK H fr to le N tg n x (0 < b1)) hno b hb q.1 ((gOK_po hpo).mp q)
theorem fol_s {n i : Nat} {r : Int32} (gh : gHo H N g ho) (hN : N ≤ 100) (hk : 1 ≤ k) (hi : i < g) (er : r = ho i) (hpo : (0 < b1) ↔ poS le mu k) (hgo : gOK H fr to le N tg (n - 1 - k) (to (mu (k - 1)).toNatClampNeg) (0 < b1) (ho i).toNatClampNeg) (hlow : ∀ j, j < i → ¬ gOK H fr to le N tg (n - 1 - k) (to (mu (k - 1)).toNatClampNeg) (0 < b1) (ho j).toNatClampNeg) : grd H fr to le N tg n (upd mu k r) k := by
  have b := gh_b gh hN hi
  rw [er, b.2.2]
  refine grd_n hk b.1 hpo hgo (fun c hc q => ?_)
  exact gh_low gh hN hi (P := gOK H fr to le N tg (n - 1 - k) (to (mu (k - 1)).toNatClampNeg) (0 < b1)) hlow c hc q.1 q
theorem fol_i {x1 : Int32} (hcl : clP H fr to le N x1.toNatClampNeg (z - 1)) : rdI H fr to le N (fr x1.toNatClampNeg) (z - 1) (to (upd me 0 x1 (1 - 1)).toNatClampNeg) (poS le (upd me 0 x1) 1) := by
  have e : upd me 0 x1 (1 - 1) = x1 := pk_us
  rw [e]
  refine rd_cl hcl ⟨?_, fun q => ⟨0, by omega, by rw [pk_us]; exact q⟩⟩
  rintro ⟨j, hj, q⟩
  rw [show j = 0 by omega, pk_us] at q
  exact q
theorem fol_r {n : Nat} {r : Int32} (hk : k < n) (hpo : (0 < b1) ↔ poS le mu k) (hgo : gOK H fr to le N tg (n - 1 - k) (to (mu (k - 1)).toNatClampNeg) (0 < b1) r.toNatClampNeg) : rdI H fr to le N tg (n - (k + 1)) (to (upd mu k r (k + 1 - 1)).toNatClampNeg) (poS le (upd mu k r) (k + 1)) := by
  rw [show n - (k + 1) = n - 1 - k by omega, show k + 1 - 1 = k by omega, pk_us]
  refine rd_go hgo ?_
  rw [po_s, pk_us, po_cong (mu := upd mu k r) (mu' := mu) (fun j hj => pk_un (by omega)), hpo]
theorem sh_get {zz : Int32} {su : Nat → Int32} (h : shI H fr to le N E E zz su) (c : ¬ zz = (-1)) : ∃ t, zz = nI t ∧ 1 ≤ t ∧ t ≤ E ∧ (∃ e, e < E ∧ cyP H fr to le N t e) ∧ ∀ e, e < E → ((∀ z, 1 ≤ z → z < t → ¬ cyP H fr to le N z e) ∧ (su e = nI t ↔ cyP H fr to le N t e)) := by
  rcases h with ⟨h, _⟩ | ⟨t, h1, h2, h3, h4, h5⟩
  · exact absurd h c
  · exact ⟨t, h1, h2, h3, h4, fun e he => ⟨(h5 e he).1, (h5 e he).2.2⟩⟩
theorem sh_none {zz : Int32} {su : Nat → Int32} (hE : E ≤ 60) (h : shI H fr to le N E E zz su) (c : zz = (-1)) : ∀ z, 1 ≤ z → z ≤ E → ∀ e, e < E → ¬ cyP H fr to le N z e := by
  rcases h with ⟨_, h⟩ | ⟨t, h1, h2, h3, _⟩
  · exact fun z z1 z2 e he => (h e he).2 z z1 z2
  · exact absurd (h1.symm.trans c) (nI_m1 (by omega))
theorem find_dead {t : Nat} (gh : gHo H N g ho) (hN : N ≤ 100) (ht : 1 ≤ t) (hce : ∃ e, e < E ∧ cyP H fr to le N t e) (hno : ∀ i, i < g → ¬ clP H fr to le N (ho i).toNatClampNeg (t - 1)) : False := by
  obtain ⟨e, he, hc⟩ := hce
  obtain ⟨b, b1, b2, b3⟩ := cy_cl ht hc
  exact gh_none gh hN (P := fun a => clP H fr to le N a (t - 1)) hno b b1 b2 b3
theorem find_ok {t n i : Nat} {r : Int32} {X : Nat → Prop} (gh : gHo H N g ho) (hN : N ≤ 100) (hE : E ≤ 60) (ht1 : 1 ≤ t) (ht2 : t ≤ E) (hall : ∀ e, e < E → ((∀ z, 1 ≤ z → z < t → ¬ cyP H fr to le N z e) ∧ X e)) (hi : i < g) (er : r = ho i) (hcl : clP H fr to le N (ho i).toNatClampNeg (t - 1)) (hlow : ∀ j, j < i → ¬ clP H fr to le N (ho j).toNatClampNeg (t - 1)) (hp : n = t ∧ me 0 = r ∧ ∀ k, 1 ≤ k → k < t → grd H fr to le N (fr r.toNatClampNeg) t me k) : n ≤ 60 ∧ RgI E N H fr to le n me := by
  obtain ⟨p1, p2, p3⟩ := hp
  subst p1
  have b := gh_b gh hN hi
  refine ⟨by omega, Or.inr ⟨(ho i).toNatClampNeg, b.1, b.2.1, ht1, ht2, ?_, hcl, fun z z1 z2 e he => (hall e he).1 z z1 z2, gh_low gh hN hi (P := fun a => clP H fr to le N a (n - 1)) hlow, ?_⟩⟩
  · rw [p2, er]; exact b.2.2
  · rw [er] at p3; exact p3
theorem ring_no {x : Int32} {k : Nat} (hk : k ≤ 60) (h : ¬ (0 ≤ x ∧ x ≤ nI k - 1)) : ¬ vp_in x k := by
  intro q
  apply h
  rw [vp_in_iff] at q
  have e : (nI k - nI 1).toInt = (k : Int) - (1 : Nat) := pk_sub_toInt (by omega) (by omega)
  have e2 : (nI k - 1).toInt = (k : Int) - (1 : Nat) := e
  rw [i3_le, i3_le, e2]
  have e0 : (0 : Int32).toInt = 0 := rfl
  rw [e0]
  exact ⟨q.1, by omega⟩
theorem ans_same {S S' : Bool} {x r r' : Int32} (hE : E ≤ 60) (hN : N ≤ 100) (hf : ∀ b, b < N → vp_in (fr b) E) (hS : S = S') (h : rAns E N H fr to le S x r) (h' : (x < 0 ∧ r' = (-1)) ∨ rAns E N H fr to le S' x r') : r = r' := by
  subst hS
  have neg : x < 0 → ∀ n, n ≤ 60 → ¬ vp_in x n := by
    intro q n hn v
    rw [vp_in_iff] at v
    rw [i3_lt] at q
    have e0 : (0 : Int32).toInt = 0 := rfl
    rw [e0] at q
    have := v.1
    omega
  rcases h with ⟨h1, h2⟩ | ⟨h1, n, me, h2, h3, h4⟩
  · rcases h' with ⟨_, k⟩ | ⟨_, k⟩ | ⟨k, _⟩
    · rw [h2, k]
    · rw [h2, k]
    · rw [h1] at k; exact Bool.noConfusion k
  · rcases h' with ⟨kn, k⟩ | ⟨k, _⟩ | ⟨_, n', me', k2, k3, k4⟩
    · rcases h4 with q | q
      · exact absurd q.1 (neg kn n h2)
      · rw [q.2, k]
    · rw [h1] at k; exact Bool.noConfusion k
    · obtain ⟨e1, e2⟩ := rg_same hE hN hf h3 k3
      subst e1
      rcases h4 with q | q
      · rcases k4 with w | w
        · rw [q.2, w.2]; exact e2 _ (vp_lt q.1)
        · exact absurd q.1 w.1
      · rcases k4 with w | w
        · exact absurd w.1 q.1
        · rw [q.2, w.2]
theorem ne_ac {f1 f2 : Int32} (h : ∀ b, b < N → ¬ fr b = to b) (h1 : ¬ f1 = f2) : ∀ b, b < N + 1 → ¬ upd fr N f1 b = upd to N f2 b := by
  intro b hb
  by_cases e : b = N
  · rw [e, pk_us, pk_us]; exact h1
  · rw [pk_un e, pk_un e]; exact h b (by omega)
theorem ne_tu {a : Nat} (h : ∀ b, b < N → ¬ fr b = to b) (ha : a < N) : ∀ b, b < N → ¬ upd fr a (to a) b = upd to a (fr a) b := by
  intro b hb
  by_cases e : b = a
  · rw [e, pk_us, pk_us]; exact fun q => h a ha q.symm
  · rw [pk_un e, pk_un e]; exact h b hb
end RK

