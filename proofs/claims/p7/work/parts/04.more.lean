/-! new int[n][k], reads of its rows; small facts on numbers -/
/-- the rows of an int[][] whose outer array lies at q -/
def mzR (cI : ClassId) (q N K : Nat) (M : Nat → Nat → Int32) : va_W := (List.range N).map (fun i => (q + 1 + i, .inl (cI, K, .inl (M i))))
theorem mz_outer (c : ClassId) (N h0 : Nat) : ∀ i : Nat, Jvm.Free.Multi.outerC c N h0 i = arrV c N (fun j => va_rf (if j < i then some (h0 + 1 + j) else none))
  | 0 => by
    show ({ cls := c, slots := Array.replicate N .null, vm := .none } : Cell) = _
    rw [arrV_new]
    exact congrArg (arrV c N) (funext fun j => by simp [va_rf])
  | i + 1 => by
    show (Jvm.Free.Multi.outerC c N h0 i).setSlot i (.ref (h0 + 1 + i)) = _
    rw [mz_outer c N h0 i, arrV_store]
    refine congrArg (arrV c N) (funext fun j => ?_)
    rcases Nat.lt_trichotomy j i with h | h | h
    · simp [updV, Nat.ne_of_lt h, h, Nat.lt_succ_of_lt h]
    · subst h; simp [updV, va_rf]
    · simp [updV, Nat.ne_of_gt h, Nat.not_lt.mpr (Nat.le_of_lt h), Nat.not_lt.mpr (Nat.succ_le_of_lt h)]
theorem mz_at {cI : ClassId} {q N K k : Nat} {M : Nat → Nat → Int32} {x : Nat × va_E} (h : (mzR cI q N K M)[k]? = some x) : k < N ∧ x = (q + 1 + k, .inl (cI, K, .inl (M k))) := by
  unfold mzR at h
  rw [List.getElem?_map] at h
  by_cases hk : k < N
  · rw [List.getElem?_range hk] at h
    cases h
    exact ⟨hk, rfl⟩
  · rw [List.getElem?_eq_none (by rw [List.length_range]; omega)] at h
    cases h
section MZ
variable {p : Program} {l : Launch} {e : Env} {R : Room} {s : State} {m : MethodId} {args : Array Value} {below : List Frame} {meth : Method} {c : Code} {H : Heap} {locs : List Loc} {cells slots : Nat} {Q : State → Prop}
variable {cc : ByteArray} {pc : Nat} {ls : Array Slot} {rest : List Value} {D : va_G} {cI cZ cR : ClassId} {A : Nat → Prop} {ws : va_W} {H0 : Heap} {a : Nat}
theorem mz_new (hx : p.tables.exec = Jvm.exec) (hb : c.code = cc) {own : String} {index : Nat} (hown : s.vm.findClass own = some m.cls) (hcl : (Cond.classLink own index "[[I").before args s = true) (harr : (Cond.arrayClass .int).before args s = true)
    (hK : kK D cI cZ cR s) (hP : va_P D vwCl ws H) (hD : va_D A ws) (hS : va_S A H0 H locs) (hA : ∀ q, H0.size ≤ q → A q) {n k : Int32} {N K : Nat} (hn : ¬ n < 0) (hk : ¬ k < 0) (hN : n.toNatClampNeg = N) (hKk : k.toNatClampNeg = K) (hb1 : N * 4 ≤ 536870912) (hb2 : K * 4 ≤ 536870912)
    (hcells : cells + (1 + N) ≤ R.cells) (hslots : slots + (N + N * K) ≤ R.slots) (hdg : decode cc pc = .ok (.multianewarray index 2, 4))
    (kk : ∀ (q : Nat) (H1 : Heap), va_P D vwCl (ws ++ ((q, .inl (cR, N, .inr (.inr (.inr (.inr (fun i => if i < N then some (q + 1 + i) else none)))))) :: mzR cI q N K (fun _ _ => 0))) H1 → va_D A (ws ++ ((q, .inl (cR, N, .inr (.inr (.inr (.inr (fun i => if i < N then some (q + 1 + i) else none)))))) :: mzR cI q N K (fun _ _ => 0))) → va_S A H0 H1 locs →
      W p l e R s m args below meth c H1 locs (cells + 1 + N) (slots + N + N * K) Q (F0 m (pc + 4) ls (.ref q :: rest))) : W p l e R s m args below meth c H locs cells slots Q (F0 m pc ls (.int k :: .int n :: rest)) := by
  subst hN
  subst hKk
  intro T hT Xs
  have hov : (Cond.arrayOver (.array .int)).before args s = true := arrayOver_alikeB (Vm.Alike.refl s.vm) hK.2
  obtain ⟨vm₁, cA, comp, -, fA, fC, -, -, X', step⟩ := Xs.multianewarray2F hx hown hcl hov harr (g := F0 m pc ls (.int k :: .int n :: rest)) rfl (by rw [hb]; exact hdg) rfl hn hk hb1 hb2 (by omega) rfl rfl hcells hslots
  have e1 : s.vm.findClass "[I" = some cI := (hK.1.2 0 _ rfl).2
  have e2 : s.vm.findClass "[[I" = some cR := (hK.1.2 2 _ rfl).2
  have e3 : comp = cI := Option.some.inj (fC.symm.trans e1)
  have e4 : cA = cR := Option.some.inj (fA.symm.trans e2)
  subst e3
  subst e4
  generalize hF : Jvm.Free.Multi.fill (T.setVm vm₁) cA comp n.toNatClampNeg k.toNatClampNeg (defaultValue .int) n.toNatClampNeg = F at X' step
  have hTh : (T.setVm vm₁).heap = H := hT
  obtain ⟨f1, f2, -, -⟩ := Jvm.Free.Multi.fill_facts (T.setVm vm₁) cA comp n.toNatClampNeg k.toNatClampNeg (defaultValue .int) n.toNatClampNeg
  rw [hF, hTh] at f1 f2
  have hold : ∀ x : Nat, x < H.size → F.heap[x]? = H[x]? := fun x hx => by
    have h := Jvm.Free.Multi.fill_old (T.setVm vm₁) cA comp n.toNatClampNeg k.toNatClampNeg (defaultValue .int) (a := x) (by rw [hTh]; exact hx) n.toNatClampNeg
    rw [hF, hTh] at h
    exact h
  have hrow : ∀ j : Nat, j < n.toNatClampNeg → F.heap[H.size + 1 + j]? = some (arrV comp k.toNatClampNeg (fun _ => .int 0)) := fun j hj => by
    have h := Jvm.Free.Multi.fill_inner (T.setVm vm₁) cA comp n.toNatClampNeg k.toNatClampNeg (defaultValue .int) n.toNatClampNeg j hj
    rw [hF, hTh] at h
    rw [h, ← arrV_new]
    rfl
  rw [mz_outer] at f2
  have hPn : va_P D vwCl ((H.size, .inl (cA, n.toNatClampNeg, .inr (.inr (.inr (.inr (fun i => if i < n.toNatClampNeg then some (H.size + 1 + i) else none)))))) :: mzR comp H.size n.toNatClampNeg k.toNatClampNeg (fun _ _ => 0)) F.heap := by
    intro k9 x hx9
    cases k9 with
    | zero =>
      cases hx9
      show F.heap[H.size]? = some (vp_cell _ _)
      rw [vp_cell_q]
      exact f2
    | succ k9 =>
      obtain ⟨h1, rfl⟩ := mz_at hx9
      exact hrow k9 h1
  have hPo : va_P D vwCl ws F.heap := hP.kept (fun k9 x hx9 => hold x.1 ((hP k9 x hx9).lt))
  have hDn : va_D A ((H.size, .inl (cA, n.toNatClampNeg, .inr (.inr (.inr (.inr (fun i => if i < n.toNatClampNeg then some (H.size + 1 + i) else none)))))) :: mzR comp H.size n.toNatClampNeg k.toNatClampNeg (fun _ _ => 0)) := by
    refine ⟨fun i j x y hi hj hxy => ?_, fun i x hi => ?_⟩
    · cases i with
      | zero =>
        cases hi
        cases j with
        | zero => rfl
        | succ j =>
          obtain ⟨-, rfl⟩ := mz_at hj
          have h9 : H.size = H.size + 1 + j := hxy
          omega
      | succ i =>
        obtain ⟨-, rfl⟩ := mz_at hi
        cases j with
        | zero =>
          cases hj
          have h9 : H.size + 1 + i = H.size := hxy
          omega
        | succ j =>
          obtain ⟨-, rfl⟩ := mz_at hj
          have h9 : H.size + 1 + i = H.size + 1 + j := hxy
          omega
    · have hz := hS.1
      cases i with
      | zero => cases hi; exact hA _ hz
      | succ i =>
        obtain ⟨-, rfl⟩ := mz_at hi
        exact hA (H.size + 1 + i) (by omega)
  have hDa : va_D A (ws ++ ((H.size, .inl (cA, n.toNatClampNeg, .inr (.inr (.inr (.inr (fun i => if i < n.toNatClampNeg then some (H.size + 1 + i) else none)))))) :: mzR comp H.size n.toNatClampNeg k.toNatClampNeg (fun _ _ => 0))) := by
    refine hD.app hDn (fun i j x y hi hj => ?_)
    have h1 := (hP i x hi).lt
    cases j with
    | zero => cases hj; exact Nat.ne_of_lt h1
    | succ j =>
      obtain ⟨-, rfl⟩ := mz_at hj
      exact Nat.ne_of_lt (Nat.lt_of_lt_of_le h1 (by show H.size ≤ H.size + 1 + j; omega))
  obtain ⟨t, a1, b1⟩ := kk H.size F.heap (hPo.app hPn) hDa ⟨by rw [f1]; have := hS.1; omega, fun x h1 h2 => (hold x (Nat.lt_of_lt_of_le h1 hS.1)).trans (hS.2.1 x h1 h2), hS.2.2⟩ F rfl X'
  refine ⟨t, step t ?_, b1⟩
  have eT : T.heap.size = H.size := by rw [hT]
  rw [eT]
  exact a1
theorem mz_ald (hx : p.tables.exec = Jvm.exec) (hb : c.code = cc) (hK : kK D cI cZ cR s) (hP : va_P D vwCl ws H) (q0 : Nat) {n : Nat} {f : Nat → Option Nat} (ha : ws[q0]? = some (a, .inl (cR, n, .inr (.inr (.inr (.inr f)))))) {i : Int32} (hin : vp_in i n) (k : Nat) (hk : i.toNatClampNeg = k) (hdg : decode cc pc = .ok (.aaload, 1))
    (kk : W p l e R s m args below meth c H locs cells slots Q (F0 m (pc + 1) ls (va_rf (f k) :: rest))) : W p l e R s m args below meth c H locs cells slots Q (F0 m pc ls (.int i :: .ref a :: rest)) := by
  subst hk
  have hlt : i.toNatClampNeg < n := Nat.not_le.mp fun q => hin (Or.inr q)
  exact W.aald (v := va_rf (f i.toNatClampNeg)) (ty := .array .int) hx hb (hP q0 _ ha) ((hK.1.2 2 _ rfl).1 n (fun j => va_rf (f j))) rfl (fun q => by cases q) (by show ¬ (i < 0 ∨ (arrV _ _ _).slots.size ≤ _); rw [arrV_size]; exact hin) (by show (arrV _ _ _).slots[_]? = _; rw [arrV_read _ _ hlt]) rfl rfl hdg kk
end MZ
theorem i3_le {x y : Int32} : x ≤ y ↔ x.toInt ≤ y.toInt := Int32.le_iff_toInt_le
theorem i3_lt {x y : Int32} : x < y ↔ x.toInt < y.toInt := Int32.lt_iff_toInt_lt
theorem ab2 {x : Int32} (h1 : ¬ x < 0) (h2 : ¬ 0 ≤ x) : False := by rw [i3_lt] at h1; rw [i3_le] at h2; omega
theorem ii_1 {x lo hi : Int32} (h1 : ¬ x < lo) (h2 : ¬ hi < x) : lo ≤ x ∧ x ≤ hi := by rw [i3_lt] at h1 h2; rw [i3_le, i3_le]; omega
theorem ii_a {x lo hi : Int32} (h1 : x < lo) : ¬ (lo ≤ x ∧ x ≤ hi) := by rw [i3_lt] at h1; rw [i3_le, i3_le]; omega
theorem ii_b {x lo hi : Int32} (h1 : hi < x) : ¬ (lo ≤ x ∧ x ≤ hi) := by rw [i3_lt] at h1; rw [i3_le, i3_le]; omega
theorem in16 {t : Int32} (h : 0 ≤ t ∧ t ≤ 15) : vp_in t 16 := by
  rw [i3_le, i3_le] at h
  rw [vp_in_iff]
  exact ⟨h.1, by have := h.2; simp at this ⊢; omega⟩
theorem ge16 {t : Int32} (h : ¬ 16 ≤ t) : ¬ 15 < t := by
  rw [i3_le] at h
  rw [i3_lt]
  simp at h ⊢
  omega
theorem ge16' {t : Int32} (h : 16 ≤ t) : 15 < t := by
  rw [i3_le] at h
  rw [i3_lt]
  simp at h ⊢
  omega
theorem i3_ne {x k : Int32} {n : Int} (h : ¬ x = k) (hk : k.toInt = n) : ¬ x.toInt = n := fun q => h (Int32.toInt_inj.mp (q.trans hk.symm))
theorem sw_out8 {x : Int32} (h0 : ¬ x = 0) (h1 : ¬ x = 1) (h2 : ¬ x = 2) (h3 : ¬ x = 3) (h4 : ¬ x = 4) (h5 : ¬ x = 5) (h6 : ¬ x = 6) (h7 : ¬ x = 7) : x.toInt < 0 ∨ 7 < x.toInt := by
  have := i3_ne h0 rfl; have := i3_ne h1 rfl; have := i3_ne h2 rfl; have := i3_ne h3 rfl; have := i3_ne h4 rfl; have := i3_ne h5 rfl; have := i3_ne h6 rfl; have := i3_ne h7 rfl
  simp at *
  omega
