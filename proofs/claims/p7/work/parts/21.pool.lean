/-! the rows of an int[][] as a pool behind the explicit cells: X ++ mzR cI q N K M -/
theorem mz_get {X : va_W} {cI : ClassId} {q N K k : Nat} {M : Nat → Nat → Int32} (hk : k < N) : (X ++ mzR cI q N K M)[X.length + k]? = some (q + 1 + k, .inl (cI, K, .inl (M k))) := by
  rw [List.getElem?_append_right (by omega), show X.length + k - X.length = k by omega]
  unfold mzR
  rw [List.getElem?_map, List.getElem?_range hk]
  rfl
def mzu (M : Nat → Nat → Int32) (k : Nat) (r : Nat → Int32) : Nat → Nat → Int32 := fun i => if i = k then r else M i
theorem mz_set {X : va_W} {cI : ClassId} {q N K k : Nat} {M : Nat → Nat → Int32} {r : Nat → Int32} (hk : k < N) : (X ++ mzR cI q N K M).set (X.length + k) (q + 1 + k, .inl (cI, K, .inl r)) = X ++ mzR cI q N K (mzu M k r) := by
  apply List.ext_getElem?
  intro i
  rw [List.getElem?_set]
  by_cases e : X.length + k = i
  · subst e
    rw [if_pos rfl, mz_get (M := mzu M k r) hk]
    have hl : X.length + k < (X ++ mzR cI q N K M).length := by rw [List.length_append]; unfold mzR; rw [List.length_map, List.length_range]; omega
    rw [if_pos hl]
    unfold mzu
    rw [if_pos rfl]
  · rw [if_neg e]
    by_cases h : i < X.length
    · rw [List.getElem?_append_left h, List.getElem?_append_left h]
    · rw [List.getElem?_append_right (by omega), List.getElem?_append_right (by omega)]
      unfold mzR
      rw [List.getElem?_map, List.getElem?_map]
      by_cases h2 : i - X.length < N
      · rw [List.getElem?_range h2]
        unfold mzu
        simp only [Option.map_some]
        rw [if_neg (by omega)]
      · rw [List.getElem?_eq_none (by rw [List.length_range]; omega)]
        rfl
theorem dPart {A : Nat → Prop} {X cx pl : va_W} (hD : va_D A (X ++ pl)) (is : List Nat) (hn : va_nd is = true) (hs : is.map (fun i => X[i]?) = cx.map some) : va_D A (cx ++ pl) := by
  have hlen : is.length = cx.length := by have := congrArg List.length hs; rw [List.length_map, List.length_map] at this; exact this
  have hat : ∀ k, k < cx.length → ∃ j, is[k]? = some j ∧ X[j]? = cx[k]? ∧ j < X.length := by
    intro k hk
    have h1 : (is.map (fun i => X[i]?))[k]? = (cx.map some)[k]? := by rw [hs]
    rw [List.getElem?_map, List.getElem?_map] at h1
    have hk2 : k < is.length := by omega
    have e1 : is[k]? = some is[k] := List.getElem?_eq_getElem hk2
    have e2 : cx[k]? = some cx[k] := List.getElem?_eq_getElem hk
    rw [e1, e2] at h1
    have h2 : X[is[k]]? = some cx[k] := Option.some.inj h1
    exact ⟨is[k], e1, h2.trans e2.symm, (List.getElem?_eq_some_iff.mp h2).1⟩
  have key : ∀ k x, (cx ++ pl)[k]? = some x → ∃ g, (X ++ pl)[g]? = some x ∧ ((k < cx.length ∧ is[k]? = some g ∧ g < X.length) ∨ (cx.length ≤ k ∧ g = X.length + (k - cx.length))) := by
    intro k x hx
    by_cases hk : k < cx.length
    · rw [List.getElem?_append_left hk] at hx
      obtain ⟨j, h1, h2, h3⟩ := hat k hk
      exact ⟨j, by rw [List.getElem?_append_left h3, h2]; exact hx, Or.inl ⟨hk, h1, h3⟩⟩
    · rw [List.getElem?_append_right (by omega)] at hx
      exact ⟨X.length + (k - cx.length), by rw [List.getElem?_append_right (by omega), show X.length + (k - cx.length) - X.length = k - cx.length by omega]; exact hx, Or.inr ⟨by omega, rfl⟩⟩
  refine ⟨fun i j x y hi hj hxy => ?_, fun k x hk => ?_⟩
  · obtain ⟨g1, a1, b1⟩ := key i x hi
    obtain ⟨g2, a2, b2⟩ := key j y hj
    have e := hD.1 g1 g2 x y a1 a2 hxy
    subst e
    rcases b1 with ⟨c1, c2, c3⟩ | ⟨c1, c2⟩ <;> rcases b2 with ⟨d1, d2, d3⟩ | ⟨d1, d2⟩
    · exact va_nd_inj is hn i j g1 c2 d2
    · omega
    · omega
    · omega
  · obtain ⟨g, a1, -⟩ := key k x hk
    exact hD.2 g x a1
theorem fPart {A : Nat → Prop} {X cx pl : va_W} {H0 H : Heap} {locs : List Loc} (hD : va_D A (X ++ pl)) (hS : va_S A H0 H locs) (hA : ∀ q, H0.size ≤ q → A q) (is : List Nat) (hs : is.map (fun i => X[i]?) = cx.map some) : ∀ q, va_A (cx ++ pl) H.size q → A q := by
  rintro q (⟨k, e, hk⟩ | hq)
  · exact hD.2 _ _ (va_part is hs k _ hk)
  · exact hA q (Nat.le_trans hS.1 hq)
section POOL
variable {p : Program} {l : Launch} {e : Env} {R : Room} {s : State} {m : MethodId} {args : Array Value} {below : List Frame} {meth : Method} {c : Code} {H : Heap} {locs : List Loc} {cells slots : Nat} {Q : State → Prop}
variable {cc : ByteArray} {pc : Nat} {ls : Array Slot} {rest st0 : List Value} {D : va_G} {cI cZ cR : ClassId} {A : Nat → Prop} {X cx wr pl : va_W} {H0 : Heap} {a : Array Value} {mc ms : Nat} {q N K : Nat} {M : Nat → Nat → Int32}
theorem mz_aldk (hx : p.tables.exec = Jvm.exec) (hb : c.code = cc) (hK : kK D cI cZ cR s) {ws : va_W} (hP : va_P D vwCl ws H) (q0 : Nat) {n : Nat} (ha : ws[q0]? = some (q, .inl (cR, n, .inr (.inr (.inr (.inr (fun i => if i < n then some (q + 1 + i) else none))))))) {k : Nat} (hk : k < n) (hn : n < 2 ^ 31) (hdg : decode cc pc = .ok (.aaload, 1))
    (kk : W p l e R s m args below meth c H locs cells slots Q (F0 m (pc + 1) ls (.ref (q + 1 + k) :: rest))) : W p l e R s m args below meth c H locs cells slots Q (F0 m pc ls (.int (nI k) :: .ref q :: rest)) := by
  refine mz_ald hx hb hK hP q0 ha (vp_in_nI hk hn) k (nI_clamp (Nat.lt_trans hk hn)) hdg ?_
  rw [if_pos hk]
  exact kk
theorem pr_I (hx : p.tables.exec = Jvm.exec) (hb : c.code = cc) (hK : kK D cI cZ cR s) (hP : va_P D vwCl (X ++ mzR cI q N K M) H) {k : Nat} (hk : k < N) {i : Int32} (hin : vp_in i K) (hdg : decode cc pc = .ok (.iaload, 1))
    (kk : W p l e R s m args below meth c H locs cells slots Q (F0 m (pc + 1) ls (.int (M k i.toNatClampNeg) :: rest))) : W p l e R s m args below meth c H locs cells slots Q (F0 m pc ls (.int i :: .ref (q + 1 + k) :: rest)) :=
  va_iald hx hb hK.1 hP (X.length + k) 0 (mz_get hk) rfl hin hdg kk
theorem pw_I (hx : p.tables.exec = Jvm.exec) (hb : c.code = cc) (hK : kK D cI cZ cR s) (hP : va_P D vwCl (X ++ mzR cI q N K M) H) (hD : va_D A (X ++ mzR cI q N K M)) (hS : va_S A H0 H locs) {k : Nat} (hk : k < N) {i x : Int32} (hin : vp_in i K) (hdg : decode cc pc = .ok (.iastore, 1))
    (kk : ∀ (H1 : Heap) (locs1 : List Loc), va_P D vwCl (X ++ mzR cI q N K (mzu M k (upd (M k) i.toNatClampNeg x))) H1 → va_D A (X ++ mzR cI q N K (mzu M k (upd (M k) i.toNatClampNeg x))) → va_S A H0 H1 locs1 → W p l e R s m args below meth c H1 locs1 cells slots Q (F0 m (pc + 1) ls rest)) : W p l e R s m args below meth c H locs cells slots Q (F0 m pc ls (.int x :: .int i :: .ref (q + 1 + k) :: rest)) :=
  va_iast hx hb hK.1 hP hD hS (X.length + k) 0 (mz_get hk) rfl hin hdg (fun H1 locs1 h1 h2 h3 => kk H1 locs1 (by rw [mz_set hk] at h1; exact h1) (by rw [mz_set hk] at h2; exact h2) h3)
theorem pl_I (hx : p.tables.exec = Jvm.exec) (hb : c.code = cc) (hK : kK D cI cZ cR s) (hP : va_P D vwCl (X ++ mzR cI q N K M) H) {k : Nat} (hk : k < N) {v : Int32} (hv : Int32.ofNat K = v) (hdg : decode cc pc = .ok (.arraylength, 1))
    (kk : W p l e R s m args below meth c H locs cells slots Q (F0 m (pc + 1) ls (.int v :: rest))) : W p l e R s m args below meth c H locs cells slots Q (F0 m pc ls (.ref (q + 1 + k) :: rest)) :=
  va_alen hx hb hK.1 hP (X.length + k) 0 (mz_get hk) rfl hv hdg kk
theorem pSP {As : List Value} (hK : kK D cI cZ cR s) (hP : va_P D vwCl (X ++ pl) H) (hD : va_D A (X ++ pl)) (is : List Nat) (hC : is.map (fun i => X[i]?) = cx.map some) (hn : va_nd is = true) : PreS s H (sPre D cI cZ cR As H.size (cx ++ pl)) As :=
  ⟨st_bl, fun U hU hW => ⟨rfl, by rw [hU], by rw [hU]; exact hP.by _ (va_part is hC), hK.moved hW.alike, (dPart hD is hn hC).weaken (fun _ _ _ _ => trivial)⟩⟩
theorem pVP {As : List Value} {b : Nat} {C : String} {T : u_T} {n : Nat} (ci q0 : Nat) {fs : List Value} (hK : kK D cI cZ cR s) (hP : va_P D vwCl (X ++ pl) H) (hD : va_D A (X ++ pl)) (is : List Nat) (hC : is.map (fun i => X[i]?) = cx.map some) (hn : va_nd is = true) (hc : vwCl[ci]? = some (C, T, n)) (he : (X ++ pl)[q0]? = some (b, .inr (ci, fs))) : PreV s H C b (sPre D cI cZ cR (.ref b :: As) H.size (cx ++ pl)) As :=
  ⟨st_bl, va_recv hK.1 hP hc he, (pSP (As := .ref b :: As) hK hP hD is hC hn).2⟩
theorem pSQ {As : List Value} (hK : kK D cI cZ cR s) (hP : va_P D vwCl (X ++ pl) H) (hD : va_D A (X ++ pl)) (is : List Nat) (hC : is.map (fun i => X[i]?) = cx.map some) (hn : va_nd is = true) : PreS s H (sPre D cI cZ cR As H.size cx) As := by
  have h1 : va_P D vwCl (cx ++ []) H := by
    have h2 := hP.by _ (va_part is hC)
    intro k x hx
    rw [List.append_nil] at hx
    exact h2 k x (by rw [List.getElem?_append_left (List.getElem?_eq_some_iff.mp hx).1]; exact hx)
  rw [List.append_nil] at h1
  have h3 := dPart hD is hn hC
  have h4 : va_D A cx := ⟨fun i j x y hi hj h => h3.1 i j x y (by rw [List.getElem?_append_left (List.getElem?_eq_some_iff.mp hi).1]; exact hi) (by rw [List.getElem?_append_left (List.getElem?_eq_some_iff.mp hj).1]; exact hj) h, fun k x hx => h3.2 k x (by rw [List.getElem?_append_left (List.getElem?_eq_some_iff.mp hx).1]; exact hx)⟩
  exact ⟨st_bl, fun U hU hW => ⟨rfl, by rw [hU], by rw [hU]; exact h1, hK.moved hW.alike, h4.weaken (fun _ _ _ _ => trivial)⟩⟩
theorem pVQ {As : List Value} {b : Nat} {C : String} {T : u_T} {n : Nat} (ci q0 : Nat) {fs : List Value} (hK : kK D cI cZ cR s) (hP : va_P D vwCl (X ++ pl) H) (hD : va_D A (X ++ pl)) (is : List Nat) (hC : is.map (fun i => X[i]?) = cx.map some) (hn : va_nd is = true) (hc : vwCl[ci]? = some (C, T, n)) (he : (X ++ pl)[q0]? = some (b, .inr (ci, fs))) : PreV s H C b (sPre D cI cZ cR (.ref b :: As) H.size cx) As :=
  ⟨st_bl, va_recv hK.1 hP hc he, (pSQ (As := .ref b :: As) hK hP hD is hC hn).2⟩
theorem cl_iP {S : Type} {post : Int32 → S → Prop} {w1 pl1 : S → va_W} (hr : va_Run p l e R s m args below meth c H locs cells slots mc ms (F0 m pc ls st0) rest (va_Qi post (sB D cI cZ cR (fun u => w1 u ++ pl1 u) (va_A (cx ++ pl) H.size)) (va_A (cx ++ pl) H.size) a) (va_A (cx ++ pl) H.size)) (hP : va_P D vwCl (X ++ pl) H) (hD : va_D A (X ++ pl)) (hS : va_S A H0 H locs) (hA : ∀ q, H0.size ≤ q → A q) (isC isR : List Nat) (hC : isC.map (fun i => X[i]?) = cx.map some) (hR : isR.map (fun i => X[i]?) = wr.map some) (hn : va_nd isR = true) (hdis : ∀ i ∈ isR, i ∉ isC)
    (kk : ∀ (r : Int32) (u : S) (H1 : Heap) (locs1 : List Loc), post r u → va_P D vwCl ((wr ++ w1 u) ++ pl1 u) H1 → va_D A ((wr ++ w1 u) ++ pl1 u) → va_S A H0 H1 locs1 → W p l e R s m args below meth c H1 locs1 (cells + mc) (slots + ms) Q (F0 m (pc + 3) ls (.int r :: rest))) : W p l e R s m args below meth c H locs cells slots Q (F0 m pc ls st0) := by
  have hF := fPart hD hS hA isC hC
  refine va_calli hr hS (fun q _ h => hF q h) hF (fun r u t H1 locs1 ht hvm hw hB hz1 hk1 hS1 => ?_)
  obtain ⟨hP1, hK1, hD1⟩ := hB
  rw [ht] at hP1
  obtain ⟨hP2, hD2⟩ := va_joinP hP hD isC isR hC hR hn hdis hk1 hF hP1 hD1
  exact kk r u H1 locs1 hw hP2 hD2 hS1
theorem cl_iQ {S : Type} {post : Int32 → S → Prop} {w1 : S → va_W} (hr : va_Run p l e R s m args below meth c H locs cells slots mc ms (F0 m pc ls st0) rest (va_Qi post (sB D cI cZ cR w1 (va_A cx H.size)) (va_A cx H.size) a) (va_A cx H.size)) (hP : va_P D vwCl (X ++ pl) H) (hD : va_D A (X ++ pl)) (hS : va_S A H0 H locs) (hA : ∀ q, H0.size ≤ q → A q) (isC isR : List Nat) (hC : isC.map (fun i => X[i]?) = cx.map some) (hR : isR.map (fun i => X[i]?) = wr.map some) (hn : va_nd isR = true) (hdis : ∀ i ∈ isR, i ∉ isC)
    (kk : ∀ (r : Int32) (u : S) (H1 : Heap) (locs1 : List Loc), post r u → va_P D vwCl ((wr ++ w1 u) ++ pl) H1 → va_D A ((wr ++ w1 u) ++ pl) → va_S A H0 H1 locs1 → W p l e R s m args below meth c H1 locs1 (cells + mc) (slots + ms) Q (F0 m (pc + 3) ls (.int r :: rest))) : W p l e R s m args below meth c H locs cells slots Q (F0 m pc ls st0) := by
  have hF : ∀ q, va_A cx H.size q → A q := fun q h => fPart hD hS hA isC hC q (h.elim (fun ⟨k, e, hk⟩ => Or.inl ⟨k, e, by rw [List.getElem?_append_left (List.getElem?_eq_some_iff.mp hk).1]; exact hk⟩) Or.inr)
  refine va_calli hr hS (fun q _ h => hF q h) hF (fun r u t H1 locs1 ht hvm hw hB hz1 hk1 hS1 => ?_)
  obtain ⟨hP1, hK1, hD1⟩ := hB
  rw [ht] at hP1
  obtain ⟨hP2, hD2⟩ := va_joinQ hP hD isC isR hC hR hn hdis hk1 hF hP1 hD1
  exact kk r u H1 locs1 hw hP2 hD2 hS1
theorem cl_vP {S : Type} {post : S → Prop} {w1 pl1 : S → va_W} (hr : va_Run p l e R s m args below meth c H locs cells slots mc ms (F0 m pc ls st0) rest (va_Qv post (sB D cI cZ cR (fun u => w1 u ++ pl1 u) (va_A (cx ++ pl) H.size)) (va_A (cx ++ pl) H.size) a) (va_A (cx ++ pl) H.size)) (hP : va_P D vwCl (X ++ pl) H) (hD : va_D A (X ++ pl)) (hS : va_S A H0 H locs) (hA : ∀ q, H0.size ≤ q → A q) (isC isR : List Nat) (hC : isC.map (fun i => X[i]?) = cx.map some) (hR : isR.map (fun i => X[i]?) = wr.map some) (hn : va_nd isR = true) (hdis : ∀ i ∈ isR, i ∉ isC)
    (kk : ∀ (u : S) (H1 : Heap) (locs1 : List Loc), post u → va_P D vwCl ((wr ++ w1 u) ++ pl1 u) H1 → va_D A ((wr ++ w1 u) ++ pl1 u) → va_S A H0 H1 locs1 → W p l e R s m args below meth c H1 locs1 (cells + mc) (slots + ms) Q (F0 m (pc + 3) ls rest)) : W p l e R s m args below meth c H locs cells slots Q (F0 m pc ls st0) := by
  have hF := fPart hD hS hA isC hC
  refine va_callv hr hS (fun q _ h => hF q h) hF (fun u t H1 locs1 ht hvm hw hB hz1 hk1 hS1 => ?_)
  obtain ⟨hP1, hK1, hD1⟩ := hB
  rw [ht] at hP1
  obtain ⟨hP2, hD2⟩ := va_joinP hP hD isC isR hC hR hn hdis hk1 hF hP1 hD1
  exact kk u H1 locs1 hw hP2 hD2 hS1
theorem cl_vQ {S : Type} {post : S → Prop} {w1 : S → va_W} (hr : va_Run p l e R s m args below meth c H locs cells slots mc ms (F0 m pc ls st0) rest (va_Qv post (sB D cI cZ cR w1 (va_A cx H.size)) (va_A cx H.size) a) (va_A cx H.size)) (hP : va_P D vwCl (X ++ pl) H) (hD : va_D A (X ++ pl)) (hS : va_S A H0 H locs) (hA : ∀ q, H0.size ≤ q → A q) (isC isR : List Nat) (hC : isC.map (fun i => X[i]?) = cx.map some) (hR : isR.map (fun i => X[i]?) = wr.map some) (hn : va_nd isR = true) (hdis : ∀ i ∈ isR, i ∉ isC)
    (kk : ∀ (u : S) (H1 : Heap) (locs1 : List Loc), post u → va_P D vwCl ((wr ++ w1 u) ++ pl) H1 → va_D A ((wr ++ w1 u) ++ pl) → va_S A H0 H1 locs1 → W p l e R s m args below meth c H1 locs1 (cells + mc) (slots + ms) Q (F0 m (pc + 3) ls rest)) : W p l e R s m args below meth c H locs cells slots Q (F0 m pc ls st0) := by
  have hF : ∀ q, va_A cx H.size q → A q := fun q h => fPart hD hS hA isC hC q (h.elim (fun ⟨k, e, hk⟩ => Or.inl ⟨k, e, by rw [List.getElem?_append_left (List.getElem?_eq_some_iff.mp hk).1]; exact hk⟩) Or.inr)
  refine va_callv hr hS (fun q _ h => hF q h) hF (fun u t H1 locs1 ht hvm hw hB hz1 hk1 hS1 => ?_)
  obtain ⟨hP1, hK1, hD1⟩ := hB
  rw [ht] at hP1
  obtain ⟨hP2, hD2⟩ := va_joinQ hP hD isC isR hC hR hn hdis hk1 hF hP1 hD1
  exact kk u H1 locs1 hw hP2 hD2 hS1
theorem cl_lP {S : Type} {post : Int64 → S → Prop} {w1 pl1 : S → va_W} (hr : va_Run p l e R s m args below meth c H locs cells slots mc ms (F0 m pc ls st0) rest (va_Ql post (sB D cI cZ cR (fun u => w1 u ++ pl1 u) (va_A (cx ++ pl) H.size)) (va_A (cx ++ pl) H.size) a) (va_A (cx ++ pl) H.size)) (hP : va_P D vwCl (X ++ pl) H) (hD : va_D A (X ++ pl)) (hS : va_S A H0 H locs) (hA : ∀ q, H0.size ≤ q → A q) (isC isR : List Nat) (hC : isC.map (fun i => X[i]?) = cx.map some) (hR : isR.map (fun i => X[i]?) = wr.map some) (hn : va_nd isR = true) (hdis : ∀ i ∈ isR, i ∉ isC)
    (kk : ∀ (r : Int64) (u : S) (H1 : Heap) (locs1 : List Loc), post r u → va_P D vwCl ((wr ++ w1 u) ++ pl1 u) H1 → va_D A ((wr ++ w1 u) ++ pl1 u) → va_S A H0 H1 locs1 → W p l e R s m args below meth c H1 locs1 (cells + mc) (slots + ms) Q (F0 m (pc + 3) ls (.long r :: rest))) : W p l e R s m args below meth c H locs cells slots Q (F0 m pc ls st0) := by
  have hF := fPart hD hS hA isC hC
  refine va_calll hr hS (fun q _ h => hF q h) hF (fun r u t H1 locs1 ht hvm hw hB hz1 hk1 hS1 => ?_)
  obtain ⟨hP1, hK1, hD1⟩ := hB
  rw [ht] at hP1
  obtain ⟨hP2, hD2⟩ := va_joinP hP hD isC isR hC hR hn hdis hk1 hF hP1 hD1
  exact kk r u H1 locs1 hw hP2 hD2 hS1
theorem cl_lQ {S : Type} {post : Int64 → S → Prop} {w1 : S → va_W} (hr : va_Run p l e R s m args below meth c H locs cells slots mc ms (F0 m pc ls st0) rest (va_Ql post (sB D cI cZ cR w1 (va_A cx H.size)) (va_A cx H.size) a) (va_A cx H.size)) (hP : va_P D vwCl (X ++ pl) H) (hD : va_D A (X ++ pl)) (hS : va_S A H0 H locs) (hA : ∀ q, H0.size ≤ q → A q) (isC isR : List Nat) (hC : isC.map (fun i => X[i]?) = cx.map some) (hR : isR.map (fun i => X[i]?) = wr.map some) (hn : va_nd isR = true) (hdis : ∀ i ∈ isR, i ∉ isC)
    (kk : ∀ (r : Int64) (u : S) (H1 : Heap) (locs1 : List Loc), post r u → va_P D vwCl ((wr ++ w1 u) ++ pl) H1 → va_D A ((wr ++ w1 u) ++ pl) → va_S A H0 H1 locs1 → W p l e R s m args below meth c H1 locs1 (cells + mc) (slots + ms) Q (F0 m (pc + 3) ls (.long r :: rest))) : W p l e R s m args below meth c H locs cells slots Q (F0 m pc ls st0) := by
  have hF : ∀ q, va_A cx H.size q → A q := fun q h => fPart hD hS hA isC hC q (h.elim (fun ⟨k, e, hk⟩ => Or.inl ⟨k, e, by rw [List.getElem?_append_left (List.getElem?_eq_some_iff.mp hk).1]; exact hk⟩) Or.inr)
  refine va_calll hr hS (fun q _ h => hF q h) hF (fun r u t H1 locs1 ht hvm hw hB hz1 hk1 hS1 => ?_)
  obtain ⟨hP1, hK1, hD1⟩ := hB
  rw [ht] at hP1
  obtain ⟨hP2, hD2⟩ := va_joinQ hP hD isC isR hC hR hn hdis hk1 hF hP1 hD1
  exact kk r u H1 locs1 hw hP2 hD2 hS1
end POOL
