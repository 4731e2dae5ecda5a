/-! The standard form of a contract: a world of cells before, a world behind; the array classes of the worlds; entries, ends and calls in that form. -/
abbrev tyL (cI cZ cR : ClassId) : List (ClassId × FieldType) := [(cI, .int), (cZ, .boolean), (cR, .array .int)]
/-- classes, array classes, and that the rows of an int[][] are of the class of int[] -/
def kK (D : va_G) (cI cZ cR : ClassId) (U : State) : Prop := va_K D vwCl (tyL cI cZ cR) U ∧ (Cond.arrayOver (.array .int)).before #[] U = true
theorem kK.moved {D : va_G} {cI cZ cR : ClassId} {u U : State} (hvm : u.vm.Alike U.vm) (h : kK D cI cZ cR u) : kK D cI cZ cR U :=
  ⟨va_K.moved hvm h.1, arrayOver_alikeB hvm h.2⟩
def sPre (D : va_G) (cI cZ cR : ClassId) (av : List Value) (sz : Nat) (w0 : va_W) : Array Value → State → Prop :=
  va_Pc av (fun U => U.heap.size = sz ∧ va_P D vwCl w0 U.heap ∧ kK D cI cZ cR U ∧ va_D (fun _ => True) w0)
def sB (D : va_G) (cI cZ cR : ClassId) {S : Type} (w1 : S → va_W) (A : Nat → Prop) : S → State → Prop :=
  fun u t => va_P D vwCl (w1 u) t.heap ∧ kK D cI cZ cR t ∧ va_D A (w1 u)
/-- the contract of a method that answers an int (a boolean): world w0, behind it w1 u with 'post answer u' -/
def CI (l : Launch) (D : va_G) (cI cZ cR : ClassId) (y : MethodName) (ws : List Cond) (rm : Room) (av : List Value) (w0 : va_W) {S : Type} (post : Int32 → S → Prop) (w1 : S → va_W) : Prop :=
  ∀ sz : Nat, Met l y ws rm (sPre D cI cZ cR av sz w0) (va_Qi post (sB D cI cZ cR w1 (va_A w0 sz)) (va_A w0 sz)) rm.cells rm.slots (va_A w0 sz)
def CL (l : Launch) (D : va_G) (cI cZ cR : ClassId) (y : MethodName) (ws : List Cond) (rm : Room) (av : List Value) (w0 : va_W) {S : Type} (post : Int64 → S → Prop) (w1 : S → va_W) : Prop :=
  ∀ sz : Nat, Met l y ws rm (sPre D cI cZ cR av sz w0) (va_Ql post (sB D cI cZ cR w1 (va_A w0 sz)) (va_A w0 sz)) rm.cells rm.slots (va_A w0 sz)
def CV (l : Launch) (D : va_G) (cI cZ cR : ClassId) (y : MethodName) (ws : List Cond) (rm : Room) (av : List Value) (w0 : va_W) {S : Type} (post : S → Prop) (w1 : S → va_W) : Prop :=
  ∀ sz : Nat, Met l y ws rm (sPre D cI cZ cR av sz w0) (va_Qv post (sB D cI cZ cR w1 (va_A w0 sz)) (va_A w0 sz)) rm.cells rm.slots (va_A w0 sz)
/-- the entry of a method in the standard form -/
theorem en_W {l : Launch} {D : va_G} {cI cZ cR : ClassId} {y : MethodName} {ws ws' : List Cond} {rm : Room} {av : List Value} {sz : Nat} {w0 : va_W} {Qc : (Nat → Prop) → Array Value → State → Outcome → State → Prop} {mc ms : Nat} {cc : ByteArray} {maxL : Nat} {ret : Option FieldType}
    (hy : plainName y.cls = true) (hw : ws = Cond.code y cc maxL ret :: ws') (hfit : (lg_sl av).length ≤ maxL)
    (body : ∀ (p : Program) (e : Env) (s : State) (m : MethodId) (below : List Frame) (meth : Method) (c : Code) (A : Nat → Prop) (ls : Array Slot),
      p.tables.exec = Jvm.exec → c.code = cc → meth.sig.returnType = ret → (∀ w ∈ ws, w.before av.toArray s = true) → s.vm.findClass y.cls = some m.cls → meth.locks = false → meth.name = y.name → c.maxLocals = maxL →
      kK D cI cZ cR s → va_P D vwCl w0 s.heap → va_D A w0 → va_S A s.heap s.heap [] → (∀ q : Nat, s.heap.size ≤ q → A q) → lv_has ls maxL (lv_args 0 av) →
      W p l e rm s m av.toArray below meth c s.heap [] 0 0 (MQ below (Qc A) av.toArray s mc ms A) (F0 m 0 ls [])) :
    Met l y ws rm (sPre D cI cZ cR av sz w0) (Qc (va_A w0 sz)) mc ms (va_A w0 sz) := by
  refine Met.ofW (cc := cc) (maxL := maxL) (ret := ret) hy hw ?_
  intro p e s m args below meth c s₁ B hml hv
  obtain ⟨rfl, hsz, hP, hK, hD0⟩ := hv
  have hts := atoms_spec (ws := ws) B.pre
  have hown := findClass_of_methodNamed B.named
  have hin := (name_of_methodNamed B.named B.method).1
  have hl := lv_entry av (n := maxL) hfit
  subst hsz
  rw [lg_entry_eq]
  exact body p e s m below meth c (va_A w0 s.heap.size) _ B.exec B.bytes B.returns hts hown B.notSynchronized hin hml hK hP (hD0.self) va_S.rf (fun q h => Or.inr h) hl
section STDW
variable {p : Program} {l : Launch} {e : Env} {R : Room} {s : State} {m : MethodId} {args : Array Value} {below : List Frame} {meth : Method} {c : Code} {H : Heap} {locs : List Loc} {cells slots : Nat} {Q : State → Prop}
variable {cc : ByteArray} {pc : Nat} {ls : Array Slot} {rest st0 : List Value} {D : va_G} {cI cZ cR : ClassId} {A : Nat → Prop} {ws wc wr : va_W} {H0 : Heap} {a : Array Value} {mc ms : Nat}
theorem en_i {S : Type} {post : Int32 → S → Prop} {w1 : S → va_W} {v : Int32} (u : S) (hx : p.tables.exec = Jvm.exec) (hb : c.code = cc) (hr : meth.sig.returnType = some .int) (hlocks : meth.locks = false) (hK : kK D cI cZ cR s) (hP : va_P D vwCl (w1 u) H) (hD : va_D A (w1 u)) (hS : va_S A s.heap H locs) (h1 : cells ≤ mc) (h2 : slots ≤ ms) (hdg : decode cc pc = .ok (.ireturn, 1)) (hp : post v u) :
    W p l e R s m args below meth c H locs cells slots (MQ below (va_Qi post (sB D cI cZ cR w1 A) A) args s mc ms A) (F0 m pc ls [.int v]) :=
  W.widen h1 h2 (W.iret hx hb hr (fun t ht hW => ⟨⟨v, u, rfl, hp, by rw [ht]; exact hP, hK.moved hW.alike, hD⟩, hS.F ht⟩) hS.2.2 hdg hlocks)
theorem en_z {S : Type} {post : Int32 → S → Prop} {w1 : S → va_W} {v : Int32} (u : S) (hx : p.tables.exec = Jvm.exec) (hb : c.code = cc) (hr : meth.sig.returnType = some .boolean) (hlocks : meth.locks = false) (hK : kK D cI cZ cR s) (hP : va_P D vwCl (w1 u) H) (hD : va_D A (w1 u)) (hS : va_S A s.heap H locs) (h1 : cells ≤ mc) (h2 : slots ≤ ms) (hdg : decode cc pc = .ok (.ireturn, 1)) (hn : narrow .boolean (.int v) = .int v) (hp : post v u) :
    W p l e R s m args below meth c H locs cells slots (MQ below (va_Qi post (sB D cI cZ cR w1 A) A) args s mc ms A) (F0 m pc ls [.int v]) :=
  W.widen h1 h2 (W.zret hx hb hr hn (fun t ht hW => ⟨⟨v, u, rfl, hp, by rw [ht]; exact hP, hK.moved hW.alike, hD⟩, hS.F ht⟩) hS.2.2 hdg hlocks)
theorem en_l {S : Type} {post : Int64 → S → Prop} {w1 : S → va_W} {v : Int64} (u : S) (hx : p.tables.exec = Jvm.exec) (hb : c.code = cc) (hr : meth.sig.returnType = some .long) (hlocks : meth.locks = false) (hK : kK D cI cZ cR s) (hP : va_P D vwCl (w1 u) H) (hD : va_D A (w1 u)) (hS : va_S A s.heap H locs) (h1 : cells ≤ mc) (h2 : slots ≤ ms) (hdg : decode cc pc = .ok (.lreturn, 1)) (hp : post v u) :
    W p l e R s m args below meth c H locs cells slots (MQ below (va_Ql post (sB D cI cZ cR w1 A) A) args s mc ms A) (F0 m pc ls [.long v]) :=
  W.widen h1 h2 (W.lret hx hb hr (fun t ht hW => ⟨⟨v, u, rfl, hp, by rw [ht]; exact hP, hK.moved hW.alike, hD⟩, hS.F ht⟩) hS.2.2 hdg hlocks)
theorem en_v {S : Type} {post : S → Prop} {w1 : S → va_W} (u : S) (hx : p.tables.exec = Jvm.exec) (hb : c.code = cc) (hr : meth.sig.returnType = none) (hlocks : meth.locks = false) (hK : kK D cI cZ cR s) (hP : va_P D vwCl (w1 u) H) (hD : va_D A (w1 u)) (hS : va_S A s.heap H locs) (h1 : cells ≤ mc) (h2 : slots ≤ ms) (hdg : decode cc pc = .ok (.return_, 1)) (hp : post u) :
    W p l e R s m args below meth c H locs cells slots (MQ below (va_Qv post (sB D cI cZ cR w1 A) A) args s mc ms A) (F0 m pc ls []) :=
  W.widen h1 h2 (W.vret hx hb hr (fun t ht hW => ⟨⟨u, rfl, hp, by rw [ht]; exact hP, hK.moved hW.alike, hD⟩, hS.F ht⟩) hS.2.2 hdg hlocks)
theorem st_fm {is : List Nat} (h : is.map (fun i => ws[i]?) = wc.map some) : is.filterMap (fun i => ws[i]?) = wc := by
  have : is.filterMap (fun i => ws[i]?) = (is.map (fun i => ws[i]?)).filterMap id := by rw [List.filterMap_map]; rfl
  rw [this, h, List.filterMap_map]
  simp
theorem st_bl {av : List Value} {sz : Nat} : FrameBlind (sPre D cI cZ cR av sz wc) := fun a U g mk q => by
  obtain ⟨q0, q1, qP, qK, qD⟩ := q
  exact ⟨q0, q1, qP, kK.moved (u := U) (U := U.calling g mk a) (Vm.Alike.refl U.vm) qK, qD⟩
/-- what a call asks of its start -/
theorem pS {As : List Value} (hK : kK D cI cZ cR s) (hP : va_P D vwCl ws H) (hD : va_D A ws) (is : List Nat) (hC : is.map (fun i => ws[i]?) = wc.map some) (hn : va_nd is = true) : PreS s H (sPre D cI cZ cR As H.size wc) As :=
  ⟨st_bl, fun U hU hW => ⟨rfl, by rw [hU], by rw [hU]; exact hP.sub is (st_fm hC), hK.moved hW.alike, (hD.sub is hn hC).weaken (fun _ _ _ _ => trivial)⟩⟩
theorem pV {As : List Value} {b : Nat} {C : String} {T : u_T} {N : Nat} (ci q0 : Nat) {fs : List Value} (hK : kK D cI cZ cR s) (hP : va_P D vwCl ws H) (hD : va_D A ws) (is : List Nat) (hC : is.map (fun i => ws[i]?) = wc.map some) (hn : va_nd is = true) (hc : vwCl[ci]? = some (C, T, N)) (he : ws[q0]? = some (b, .inr (ci, fs))) : PreV s H C b (sPre D cI cZ cR (.ref b :: As) H.size wc) As :=
  ⟨st_bl, va_recv hK.1 hP hc he, (pS (As := .ref b :: As) hK hP hD is hC hn).2⟩
theorem cl_i {S : Type} {post : Int32 → S → Prop} {w1 : S → va_W} (hr : va_Run p l e R s m args below meth c H locs cells slots mc ms (F0 m pc ls st0) rest (va_Qi post (sB D cI cZ cR w1 (va_A wc H.size)) (va_A wc H.size) a) (va_A wc H.size)) (hP : va_P D vwCl ws H) (hD : va_D A ws) (hS : va_S A H0 H locs) (hA : ∀ q, H0.size ≤ q → A q) (isC isR : List Nat) (hC : isC.map (fun i => ws[i]?) = wc.map some) (hR : isR.map (fun i => ws[i]?) = wr.map some) (hn : va_nd isR = true) (hdis : ∀ i ∈ isR, i ∉ isC)
    (kk : ∀ (r : Int32) (u : S) (H1 : Heap) (locs1 : List Loc), post r u → va_P D vwCl (wr ++ w1 u) H1 → va_D A (wr ++ w1 u) → va_S A H0 H1 locs1 → W p l e R s m args below meth c H1 locs1 (cells + mc) (slots + ms) Q (F0 m (pc + 3) ls (.int r :: rest))) : W p l e R s m args below meth c H locs cells slots Q (F0 m pc ls st0) := by
  have hF := va_free hD hS hA isC hC
  refine va_calli hr hS (fun q _ h => hF q h) hF (fun r u t H1 locs1 ht hvm hw hB hz1 hk1 hS1 => ?_)
  obtain ⟨hP1, hK1, hD1⟩ := hB
  rw [ht] at hP1
  obtain ⟨hP2, hD2⟩ := va_join hP hD isC isR hC hR hn hdis hk1 hF hP1 hD1
  exact kk r u H1 locs1 hw hP2 hD2 hS1
theorem cl_l {S : Type} {post : Int64 → S → Prop} {w1 : S → va_W} (hr : va_Run p l e R s m args below meth c H locs cells slots mc ms (F0 m pc ls st0) rest (va_Ql post (sB D cI cZ cR w1 (va_A wc H.size)) (va_A wc H.size) a) (va_A wc H.size)) (hP : va_P D vwCl ws H) (hD : va_D A ws) (hS : va_S A H0 H locs) (hA : ∀ q, H0.size ≤ q → A q) (isC isR : List Nat) (hC : isC.map (fun i => ws[i]?) = wc.map some) (hR : isR.map (fun i => ws[i]?) = wr.map some) (hn : va_nd isR = true) (hdis : ∀ i ∈ isR, i ∉ isC)
    (kk : ∀ (r : Int64) (u : S) (H1 : Heap) (locs1 : List Loc), post r u → va_P D vwCl (wr ++ w1 u) H1 → va_D A (wr ++ w1 u) → va_S A H0 H1 locs1 → W p l e R s m args below meth c H1 locs1 (cells + mc) (slots + ms) Q (F0 m (pc + 3) ls (.long r :: rest))) : W p l e R s m args below meth c H locs cells slots Q (F0 m pc ls st0) := by
  have hF := va_free hD hS hA isC hC
  refine va_calll hr hS (fun q _ h => hF q h) hF (fun r u t H1 locs1 ht hvm hw hB hz1 hk1 hS1 => ?_)
  obtain ⟨hP1, hK1, hD1⟩ := hB
  rw [ht] at hP1
  obtain ⟨hP2, hD2⟩ := va_join hP hD isC isR hC hR hn hdis hk1 hF hP1 hD1
  exact kk r u H1 locs1 hw hP2 hD2 hS1
theorem cl_v {S : Type} {post : S → Prop} {w1 : S → va_W} (hr : va_Run p l e R s m args below meth c H locs cells slots mc ms (F0 m pc ls st0) rest (va_Qv post (sB D cI cZ cR w1 (va_A wc H.size)) (va_A wc H.size) a) (va_A wc H.size)) (hP : va_P D vwCl ws H) (hD : va_D A ws) (hS : va_S A H0 H locs) (hA : ∀ q, H0.size ≤ q → A q) (isC isR : List Nat) (hC : isC.map (fun i => ws[i]?) = wc.map some) (hR : isR.map (fun i => ws[i]?) = wr.map some) (hn : va_nd isR = true) (hdis : ∀ i ∈ isR, i ∉ isC)
    (kk : ∀ (u : S) (H1 : Heap) (locs1 : List Loc), post u → va_P D vwCl (wr ++ w1 u) H1 → va_D A (wr ++ w1 u) → va_S A H0 H1 locs1 → W p l e R s m args below meth c H1 locs1 (cells + mc) (slots + ms) Q (F0 m (pc + 3) ls rest)) : W p l e R s m args below meth c H locs cells slots Q (F0 m pc ls st0) := by
  have hF := va_free hD hS hA isC hC
  refine va_callv hr hS (fun q _ h => hF q h) hF (fun u t H1 locs1 ht hvm hw hB hz1 hk1 hS1 => ?_)
  obtain ⟨hP1, hK1, hD1⟩ := hB
  rw [ht] at hP1
  obtain ⟨hP2, hD2⟩ := va_join hP hD isC isR hC hR hn hdis hk1 hF hP1 hD1
  exact kk u H1 locs1 hw hP2 hD2 hS1
/-- new int[n]: of the class cI -/
theorem nw_I (hx : p.tables.exec = Jvm.exec) (hb : c.code = cc) (harr : (Cond.arrayClass .int).before args s = true) (hK : kK D cI cZ cR s) (hP : va_P D vwCl ws H) (hD : va_D A ws) (hS : va_S A H0 H locs) (hA : ∀ q, H0.size ≤ q → A q) {n : Int32} {N' : Nat} (hn : ¬ n < 0) (hN : n.toNatClampNeg = N') (hb4 : N' * 4 ≤ 536870912) (hcells : cells + 1 ≤ R.cells) (hslots : slots + N' ≤ R.slots) (hdg : decode cc pc = .ok (.newarray .int, 2))
    (kk : ∀ (q : Nat) (H1 : Heap), va_P D vwCl (ws ++ [(q, .inl (cI, N', .inl (fun _ => 0)))]) H1 → va_D A (ws ++ [(q, .inl (cI, N', .inl (fun _ => 0)))]) → va_S A H0 H1 locs → W p l e R s m args below meth c H1 locs (cells + 1) (slots + N') Q (F0 m (pc + 2) ls (.ref q :: rest))) : W p l e R s m args below meth c H locs cells slots Q (F0 m pc ls (.int n :: rest)) := by
  refine va_newa (atype := .int) (a0 := (N', .inl (fun _ => 0))) (ty := .int) hx hb harr rfl hK.1 hP hD hS hA (fun _ => rfl) hn hN hb4 hcells hslots hdg (fun q cA H1 hK1 hP1 hD1 hS1 => ?_)
  have e1 : s.vm.findClass "[I" = some cI := (hK.1.2 0 _ rfl).2
  have e2 : s.vm.findClass "[I" = some cA := (hK1.2 3 _ rfl).2
  have e3 : cA = cI := Option.some.inj (e2.symm.trans e1)
  subst e3
  exact kk q H1 hP1 hD1 hS1
/-- new boolean[n]: of the class cZ -/
theorem nw_Z (hx : p.tables.exec = Jvm.exec) (hb : c.code = cc) (harr : (Cond.arrayClass .boolean).before args s = true) (hK : kK D cI cZ cR s) (hP : va_P D vwCl ws H) (hD : va_D A ws) (hS : va_S A H0 H locs) (hA : ∀ q, H0.size ≤ q → A q) {n : Int32} {N' : Nat} (hn : ¬ n < 0) (hN : n.toNatClampNeg = N') (hb4 : N' * 1 ≤ 536870912) (hcells : cells + 1 ≤ R.cells) (hslots : slots + N' ≤ R.slots) (hdg : decode cc pc = .ok (.newarray .boolean, 2))
    (kk : ∀ (q : Nat) (H1 : Heap), va_P D vwCl (ws ++ [(q, .inl (cZ, N', .inl (fun _ => 0)))]) H1 → va_D A (ws ++ [(q, .inl (cZ, N', .inl (fun _ => 0)))]) → va_S A H0 H1 locs → W p l e R s m args below meth c H1 locs (cells + 1) (slots + N') Q (F0 m (pc + 2) ls (.ref q :: rest))) : W p l e R s m args below meth c H locs cells slots Q (F0 m pc ls (.int n :: rest)) := by
  refine va_newa (atype := .boolean) (a0 := (N', .inl (fun _ => 0))) (ty := .boolean) hx hb harr rfl hK.1 hP hD hS hA (fun _ => rfl) hn hN hb4 hcells hslots hdg (fun q cA H1 hK1 hP1 hD1 hS1 => ?_)
  have e1 : s.vm.findClass "[Z" = some cZ := (hK.1.2 1 _ rfl).2
  have e2 : s.vm.findClass "[Z" = some cA := (hK1.2 3 _ rfl).2
  have e3 : cA = cZ := Option.some.inj (e2.symm.trans e1)
  subst e3
  exact kk q H1 hP1 hD1 hS1
end STDW
