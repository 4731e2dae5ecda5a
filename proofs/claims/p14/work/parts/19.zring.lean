/-- there: the train of the event is not cancelled -/
def rTH (tr ca : Nat → Int32) (x : Int32) : Prop := ca (tr x.toNatClampNeg).toNatClampNeg = 0
def rAT (tr ca fr to : Nat → Int32) (k : Nat) : Prop := rTH tr ca (fr k) ∧ rTH tr ca (to k)
def rFOR (tr ca fr to ke : Nat → Int32) (ab : Int32) (k : Nat) : Prop := ab < nI k ∧ ¬ ke k = 0 ∧ rAT tr ca fr to k
/-- a road of s activities of F from event e to the target -/
def rCan (F : Nat → Prop) (fr to : Nat → Int32) (Ac : Nat) (tg : Int32) : Nat → Nat → Prop
  | 0, e => nI e = tg
  | s + 1, e => ∃ b, b < Ac ∧ F b ∧ fr b = nI e ∧ rCan F fr to Ac tg s (to b).toNatClampNeg
/-- such a road with LEAST above 0 -/
def rCab (F : Nat → Prop) (fr to le : Nat → Int32) (Ac : Nat) (tg : Int32) : Nat → Nat → Prop
  | 0, _ => False
  | s + 1, e => ∃ b, b < Ac ∧ F b ∧ fr b = nI e ∧ (rCab F fr to le Ac tg s (to b).toNatClampNeg ∨ (0 < le b ∧ rCan F fr to Ac tg s (to b).toNatClampNeg))
/-- row s of the table -/
def rT (C V : Nat → Nat → Prop) (E : Nat) (cn cv : Nat → Int32) (s : Nat) : Prop := ∀ e, e < E → ((¬ cn (60 * s + e) = 0 ↔ C s e) ∧ (¬ cv (60 * s + e) = 0 ↔ V s e))
/-- row s, with the first k activities looked at -/
def rP (F : Nat → Prop) (fr to le : Nat → Int32) (C V : Nat → Nat → Prop) (E : Nat) (cn cv : Nat → Int32) (s k : Nat) : Prop := ∀ e, e < E → ((¬ cn (60 * s + e) = 0 ↔ ∃ b, b < k ∧ F b ∧ fr b = nI e ∧ C (s - 1) (to b).toNatClampNeg) ∧ (¬ cv (60 * s + e) = 0 ↔ ∃ b, b < k ∧ F b ∧ fr b = nI e ∧ (V (s - 1) (to b).toNatClampNeg ∨ (0 < le b ∧ C (s - 1) (to b).toNatClampNeg))))
theorem iff1 {P : Prop} (h : P) : ¬ (1 : Int32) = 0 ↔ P := ⟨fun _ => h, fun _ => by decide⟩
theorem iff0 {P : Prop} (h : ¬ P) : ¬ (0 : Int32) = 0 ↔ P := ⟨fun q => absurd rfl q, fun q => absurd q h⟩
theorem le_pos {x : Int32} (h : ¬ x ≤ 0) : 0 < x := by rw [i3_le] at h; rw [i3_lt]; omega
theorem le_npos {x : Int32} (h : x ≤ 0) : ¬ 0 < x := by rw [i3_le] at h; rw [i3_lt]; omega
theorem nle_lt {x y : Int32} (h : ¬ x ≤ y) : y < x := by rw [i3_le] at h; rw [i3_lt]; omega
theorem le_nlt {x y : Int32} (h : x ≤ y) : ¬ y < x := by rw [i3_le] at h; rw [i3_lt]; omega
theorem vp_self {x : Int32} {n : Nat} (h : vp_in x n) (hn : n < 2 ^ 31) : x = nI x.toNatClampNeg := by
  obtain ⟨j, hj, rfl⟩ := vp_in_of h hn
  rw [nI_clamp (Nat.lt_trans hj hn)]
theorem add_vp {y : Int32} {n a : Nat} (h : vp_in y n) (hn : n < 2 ^ 31) : nI a + y = nI (a + y.toNatClampNeg) := by
  rw [← nI_add, ← vp_self h hn]
theorem rT_keep {C V : Nat → Nat → Prop} {E s i : Nat} {cn cv : Nat → Int32} {v w : Int32} (hE : E ≤ 60) (h : ∀ z, z < s → rT C V E cn cv z) (hi : 60 * s ≤ i) : ∀ z, z < s → rT C V E (upd cn i v) (upd cv i w) z := by
  intro z hz e he
  rw [pk_un (show 60 * z + e ≠ i by omega), pk_un (show 60 * z + e ≠ i by omega)]
  exact h z hz e he
theorem rL0 {k : Nat} {cn cv : Nat → Int32} {tg v : Int32} (h : ∀ e, e < k → ((¬ cn e = 0 ↔ nI e = tg) ∧ cv e = 0)) (hv : ¬ v = 0 ↔ nI k = tg) : ∀ e, e < k + 1 → ((¬ upd cn k v e = 0 ↔ nI e = tg) ∧ upd cv k 0 e = 0) := by
  intro e he
  by_cases q : e = k
  · subst q; rw [pk_us, pk_us]; exact ⟨hv, rfl⟩
  · rw [pk_un q, pk_un q]; exact h e (by omega)
theorem rL0_end {F : Nat → Prop} {fr to le : Nat → Int32} {Ac k E : Nat} {cn cv : Nat → Int32} {tg : Int32} (h : ∀ e, e < k → ((¬ cn e = 0 ↔ nI e = tg) ∧ cv e = 0)) (hk : E ≤ k) : ∀ z, z < 1 → rT (rCan F fr to Ac tg) (rCab F fr to le Ac tg) E cn cv z := by
  intro z hz e he
  have hz : z = 0 := by omega
  subst hz
  rw [show 60 * 0 + e = e by omega]
  have h1 := h e (by omega)
  exact ⟨h1.1, ⟨fun q => absurd h1.2 q, fun q => q.elim⟩⟩
theorem rClear {s k : Nat} {cn cv : Nat → Int32} (h : ∀ e, e < k → (cn (60 * s + e) = 0 ∧ cv (60 * s + e) = 0)) : ∀ e, e < k + 1 → (upd cn (60 * s + k) 0 (60 * s + e) = 0 ∧ upd cv (60 * s + k) 0 (60 * s + e) = 0) := by
  intro e he
  by_cases q : e = k
  · subst q; rw [pk_us, pk_us]; exact ⟨rfl, rfl⟩
  · rw [pk_un (show 60 * s + e ≠ 60 * s + k by omega), pk_un (show 60 * s + e ≠ 60 * s + k by omega)]; exact h e (by omega)
theorem rP_0 {F : Nat → Prop} {fr to le : Nat → Int32} {C V : Nat → Nat → Prop} {E s k : Nat} {cn cv : Nat → Int32} (h : ∀ e, e < k → (cn (60 * s + e) = 0 ∧ cv (60 * s + e) = 0)) (hk : E ≤ k) : rP F fr to le C V E cn cv s 0 := by
  intro e he
  have h1 := h e (by omega)
  exact ⟨⟨fun q => absurd h1.1 q, fun ⟨b, hb, _⟩ => absurd hb (Nat.not_lt_zero _)⟩, ⟨fun q => absurd h1.2 q, fun ⟨b, hb, _⟩ => absurd hb (Nat.not_lt_zero _)⟩⟩
theorem ex_skip {P : Nat → Prop} {k : Nat} (h : ¬ P k) : (∃ b, b < k + 1 ∧ P b) ↔ ∃ b, b < k ∧ P b := by
  constructor
  · rintro ⟨b, hb, hp⟩
    rcases Nat.lt_or_ge b k with q | q
    · exact ⟨b, q, hp⟩
    · have e : b = k := by omega
      subst e; exact absurd hp h
  · rintro ⟨b, hb, hp⟩
    exact ⟨b, by omega, hp⟩
theorem ex_more {P : Nat → Prop} {k : Nat} : (∃ b, b < k + 1 ∧ P b) ↔ (∃ b, b < k ∧ P b) ∨ P k := by
  constructor
  · rintro ⟨b, hb, hp⟩
    rcases Nat.lt_or_ge b k with q | q
    · exact Or.inl ⟨b, q, hp⟩
    · have e : b = k := by omega
      subst e; exact Or.inr hp
  · rintro (⟨b, hb, hp⟩ | hp)
    · exact ⟨b, by omega, hp⟩
    · exact ⟨k, by omega, hp⟩
theorem rP_skip {F : Nat → Prop} {fr to le : Nat → Int32} {C V : Nat → Nat → Prop} {E s k : Nat} {cn cv : Nat → Int32} (h : rP F fr to le C V E cn cv s k) (hf : ¬ F k) : rP F fr to le C V E cn cv s (k + 1) := by
  intro e he
  have h1 := h e he
  exact ⟨h1.1.trans (ex_skip (fun q => hf q.1)).symm, h1.2.trans (ex_skip (fun q => hf q.1)).symm⟩
theorem rP_step {F : Nat → Prop} {fr to le : Nat → Int32} {C V : Nat → Nat → Prop} {E s k : Nat} {cn cv : Nat → Int32} {v w : Int32} (hE : E ≤ 60) (hs : 1 ≤ s) (h : rP F fr to le C V E cn cv s k) (hT : ∀ z, z < s → rT C V E cn cv z) (hf : F k) (h1 : vp_in (fr k) E) (h2 : vp_in (to k) E)
    (hv : ¬ v = 0 ↔ (¬ cn (60 * s + (fr k).toNatClampNeg) = 0 ∨ ¬ cn (60 * s - 60 + (to k).toNatClampNeg) = 0))
    (hw : ¬ w = 0 ↔ (¬ cv (60 * s + (fr k).toNatClampNeg) = 0 ∨ ¬ cv (60 * s - 60 + (to k).toNatClampNeg) = 0 ∨ (0 < le k ∧ ¬ cn (60 * s - 60 + (to k).toNatClampNeg) = 0))) :
    rP F fr to le C V E (upd cn (60 * s + (fr k).toNatClampNeg) v) (upd cv (60 * s + (fr k).toNatClampNeg) w) s (k + 1) := by
  have a1 := vp_lt h1
  have a2 := vp_lt h2
  have r := hT (s - 1) (by omega) (to k).toNatClampNeg a2
  rw [show 60 * (s - 1) + (to k).toNatClampNeg = 60 * s - 60 + (to k).toNatClampNeg by omega] at r
  intro e he
  have h0 := h e he
  by_cases q : e = (fr k).toNatClampNeg
  · have hfe : fr k = nI e := by rw [q]; exact vp_self h1 (by omega)
    rw [← q, pk_us, pk_us]
    rw [← q] at hv hw
    refine ⟨hv.trans ?_, hw.trans ?_⟩
    · rw [ex_more, h0.1, r.1]
      exact or_congr Iff.rfl ⟨fun z => ⟨hf, hfe, z⟩, fun z => z.2.2⟩
    · rw [ex_more, h0.2, r.1, r.2]
      exact or_congr Iff.rfl ⟨fun z => ⟨hf, hfe, z⟩, fun z => z.2.2⟩
  · have hne : ¬ fr k = nI e := fun z => q (by rw [z, nI_clamp (by omega)])
    rw [pk_un (show 60 * s + e ≠ 60 * s + (fr k).toNatClampNeg by omega), pk_un (show 60 * s + e ≠ 60 * s + (fr k).toNatClampNeg by omega)]
    exact ⟨h0.1.trans (ex_skip (fun z => hne z.2.1)).symm, h0.2.trans (ex_skip (fun z => hne z.2.1)).symm⟩
theorem rT_row {F : Nat → Prop} {fr to le : Nat → Int32} {Ac E s k : Nat} {tg : Int32} {cn cv : Nat → Int32} (hs : 1 ≤ s) (hk : k = Ac) (h : rP F fr to le (rCan F fr to Ac tg) (rCab F fr to le Ac tg) E cn cv s k) (hT : ∀ z, z < s → rT (rCan F fr to Ac tg) (rCab F fr to le Ac tg) E cn cv z) : ∀ z, z < s + 1 → rT (rCan F fr to Ac tg) (rCab F fr to le Ac tg) E cn cv z := by
  intro z hz
  rcases Nat.lt_or_ge z s with q | q
  · exact hT z q
  · have e : z = s := by omega
    subst e
    subst hk
    obtain ⟨t, rfl⟩ : ∃ t, z = t + 1 := ⟨z - 1, by omega⟩
    exact h
/-! rings: walks as lists; the class's ring and the reference's are one -/
section RG
theorem least_of {P : Nat → Prop} : ∀ n, P n → ∃ m, m ≤ n ∧ P m ∧ ∀ k, k < m → ¬ P k := by
  intro n
  induction n using Nat.strongRecOn with
  | ind n ih =>
    intro h
    by_cases q : ∃ k, k < n ∧ P k
    · obtain ⟨k, hk, pk⟩ := q
      obtain ⟨m, h1, h2, h3⟩ := ih k hk pk
      exact ⟨m, by omega, h2, h3⟩
    · exact ⟨n, Nat.le_refl _, h, fun k hk pk => q ⟨k, hk, pk⟩⟩
def nF (fr : Nat → Int32) : Nat → Nat := fun b => (fr b).toNatClampNeg
def wk (F : Nat → Prop) (f t : Nat → Nat) (N : Nat) : List Nat → Nat → Nat → Prop
  | [], e, g => e = g
  | b :: l, e, g => b < N ∧ F b ∧ f b = e ∧ wk F f t N l (t b) g
variable {F G : Nat → Prop} {f t : Nat → Nat} {N s : Nat} {p : Nat → Prop}
theorem wk_c {b e g : Nat} {l : List Nat} (h1 : b < N) (h2 : F b) (h3 : f b = e) (h4 : wk F f t N l (t b) g) : wk F f t N (b :: l) e g := ⟨h1, h2, h3, h4⟩
theorem wk_e {b e g : Nat} {l : List Nat} (h : wk F f t N (b :: l) e g) : b < N ∧ F b ∧ f b = e ∧ wk F f t N l (t b) g := h
theorem wk_n {e g : Nat} (h : wk F f t N [] e g) : e = g := h
theorem wk_app : ∀ (l1 l2 : List Nat) (e g : Nat), wk F f t N (l1 ++ l2) e g ↔ ∃ m, wk F f t N l1 e m ∧ wk F f t N l2 m g := by
  intro l1
  induction l1 with
  | nil =>
    intro l2 e g
    constructor
    · intro h; exact ⟨e, rfl, h⟩
    · rintro ⟨m, h1, h2⟩
      have h1 := wk_n h1
      subst h1; exact h2
  | cons b l ih =>
    intro l2 e g
    constructor
    · intro h
      obtain ⟨h1, h2, h3, h4⟩ := wk_e h
      obtain ⟨m, k1, k2⟩ := (ih l2 _ g).mp h4
      exact ⟨m, wk_c h1 h2 h3 k1, k2⟩
    · rintro ⟨m, h, k2⟩
      obtain ⟨h1, h2, h3, k1⟩ := wk_e h
      exact wk_c h1 h2 h3 ((ih l2 _ g).mpr ⟨m, k1, k2⟩)
theorem wk_mono : ∀ (l : List Nat) (e g : Nat), (∀ b, b < N → b ∈ l → F b → G b) → wk F f t N l e g → wk G f t N l e g := by
  intro l
  induction l with
  | nil => intro e g _ h; exact h
  | cons b l ih =>
    intro e g h hw
    obtain ⟨h1, h2, h3, h4⟩ := wk_e hw
    exact wk_c h1 (h b h1 List.mem_cons_self h2) h3 (ih _ g (fun c hc hm => h c hc (List.mem_cons_of_mem _ hm)) h4)
theorem wk_mem : ∀ (l : List Nat) (e g : Nat), wk F f t N l e g → ∀ b, b ∈ l → b < N ∧ F b := by
  intro l
  induction l with
  | nil => intro e g _ b hb; exact absurd hb List.not_mem_nil
  | cons c l ih =>
    intro e g hw b hb
    obtain ⟨h1, h2, h3, h4⟩ := wk_e hw
    rcases List.mem_cons.mp hb with q | q
    · rw [q]; exact ⟨h1, h2⟩
    · exact ih _ _ h4 b q
/-- a shortest closed walk comes to no activity twice, and may begin with any of its own -/
theorem rot (hmin : ∀ (l : List Nat) (e : Nat), wk F f t N l e e → (∃ c, c ∈ l ∧ p c) → s ≤ l.length) {a : Nat} {l : List Nat} (hw : wk F f t N (a :: l) (f a) (f a)) (hp : ∃ c, c ∈ a :: l ∧ p c) (hs : l.length + 1 = s) :
    ∀ b, b ∈ l → ¬ b = a ∧ ∃ l' : List Nat, l'.length + 1 = s ∧ wk F f t N (b :: l') (f b) (f b) ∧ ∃ c, c ∈ b :: l' ∧ p c := by
  intro b hb
  obtain ⟨l1, l2, e0⟩ := List.append_of_mem hb
  subst e0
  obtain ⟨h1, h2, _, h4⟩ := wk_e hw
  obtain ⟨m, k1, k2⟩ := (wk_app l1 (b :: l2) _ _).mp h4
  obtain ⟨j1, j2, j3, j4⟩ := wk_e k2
  rw [List.length_append, List.length_cons] at hs
  obtain ⟨c, hc, pc⟩ := hp
  have hc' : c = a ∨ c ∈ l1 ∨ c = b ∨ c ∈ l2 := by
    rcases List.mem_cons.mp hc with q | q
    · exact Or.inl q
    · rcases List.mem_append.mp q with q | q
      · exact Or.inr (Or.inl q)
      · rcases List.mem_cons.mp q with q | q
        · exact Or.inr (Or.inr (Or.inl q))
        · exact Or.inr (Or.inr (Or.inr q))
  refine ⟨fun e => ?_, l2 ++ a :: l1, ?_, ?_, c, ?_, pc⟩
  · have c1 : wk F f t N (a :: l1) (f a) (f a) := wk_c h1 h2 rfl (by rw [← j3, e] at k1; exact k1)
    have c2 : wk F f t N (a :: l2) (f a) (f a) := wk_c h1 h2 rfl (by rw [e] at j4; exact j4)
    have fin : (∃ c, c ∈ a :: l1 ∧ p c) ∨ (∃ c, c ∈ a :: l2 ∧ p c) := by
      rcases hc' with q | q | q | q
      · exact Or.inl ⟨c, by rw [q]; exact List.mem_cons_self, pc⟩
      · exact Or.inl ⟨c, List.mem_cons_of_mem _ q, pc⟩
      · exact Or.inl ⟨c, by rw [q, e]; exact List.mem_cons_self, pc⟩
      · exact Or.inr ⟨c, List.mem_cons_of_mem _ q, pc⟩
    rcases fin with q | q
    · have := hmin _ _ c1 q
      rw [List.length_cons] at this; omega
    · have := hmin _ _ c2 q
      rw [List.length_cons] at this; omega
  · rw [List.length_append, List.length_cons]; omega
  · exact wk_c j1 j2 rfl ((wk_app l2 (a :: l1) _ _).mpr ⟨f a, j4, wk_c h1 h2 rfl (by rw [j3]; exact k1)⟩)
  · rcases hc' with q | q | q | q
    · exact List.mem_cons_of_mem _ (List.mem_append_right _ (by rw [q]; exact List.mem_cons_self))
    · exact List.mem_cons_of_mem _ (List.mem_append_right _ (List.mem_cons_of_mem _ q))
    · rw [q]; exact List.mem_cons_self
    · exact List.mem_cons_of_mem _ (List.mem_append_left _ q)
variable {fr to le : Nat → Int32} {E : Nat}
theorem can_wk (hE : E ≤ 60) (hf : ∀ b, b < N → vp_in (fr b) E) (ht : ∀ b, b < N → vp_in (to b) E) {g : Nat} (hg : g < 60) : ∀ (s e : Nat), e < 60 → (rCan F fr to N (nI g) s e ↔ ∃ l : List Nat, l.length = s ∧ wk F (nF fr) (nF to) N l e g) := by
  intro s
  induction s with
  | zero =>
    intro e he
    constructor
    · intro h
      have h : nI e = nI g := h
      have h2 := congrArg Int32.toNatClampNeg h
      rw [nI_clamp (by omega), nI_clamp (by omega)] at h2
      exact ⟨[], rfl, h2⟩
    · rintro ⟨l, hl, hw⟩
      have e0 : l = [] := List.length_eq_zero_iff.mp hl
      subst e0
      have hw := wk_n hw
      show nI e = nI g
      rw [hw]
  | succ s ih =>
    intro e he
    constructor
    · rintro ⟨b, hb, hF, hfe, hr⟩
      have tb := vp_lt (ht b hb)
      obtain ⟨l, hl, hw⟩ := (ih (to b).toNatClampNeg (by omega)).mp hr
      refine ⟨b :: l, by rw [List.length_cons, hl], wk_c hb hF ?_ hw⟩
      show (fr b).toNatClampNeg = e
      rw [hfe]; exact nI_clamp (by omega)
    · rintro ⟨l, hl, hw⟩
      cases l with
      | nil => exact absurd hl.symm (Nat.succ_ne_zero s)
      | cons b l =>
        obtain ⟨hb, hF, hfe, hw⟩ := wk_e hw
        have tb := vp_lt (ht b hb)
        have hfe : (fr b).toNatClampNeg = e := hfe
        rw [List.length_cons] at hl
        refine ⟨b, hb, hF, ?_, (ih (to b).toNatClampNeg (by omega)).mpr ⟨l, by omega, hw⟩⟩
        rw [← hfe]; exact vp_self (hf b hb) (by omega)
theorem cab_wk (hE : E ≤ 60) (hf : ∀ b, b < N → vp_in (fr b) E) (ht : ∀ b, b < N → vp_in (to b) E) {g : Nat} (hg : g < 60) : ∀ (s e : Nat), e < 60 → (rCab F fr to le N (nI g) s e ↔ ∃ l : List Nat, l.length = s ∧ wk F (nF fr) (nF to) N l e g ∧ ∃ c, c ∈ l ∧ 0 < le c) := by
  intro s
  induction s with
  | zero =>
    intro e he
    constructor
    · intro h; exact (h : False).elim
    · rintro ⟨l, hl, hw, c, hc, _⟩
      have e0 : l = [] := List.length_eq_zero_iff.mp hl
      subst e0
      exact absurd hc List.not_mem_nil
  | succ s ih =>
    intro e he
    constructor
    · rintro ⟨b, hb, hF, hfe, hr⟩
      have tb := vp_lt (ht b hb)
      have hfe' : nF fr b = e := by
        show (fr b).toNatClampNeg = e
        rw [hfe]; exact nI_clamp (by omega)
      rcases hr with hr | ⟨hp, hr⟩
      · obtain ⟨l, hl, hw, c, hc, pc⟩ := (ih (to b).toNatClampNeg (by omega)).mp hr
        exact ⟨b :: l, by rw [List.length_cons, hl], wk_c hb hF hfe' hw, c, List.mem_cons_of_mem _ hc, pc⟩
      · obtain ⟨l, hl, hw⟩ := (can_wk hE hf ht hg s (to b).toNatClampNeg (by omega)).mp hr
        exact ⟨b :: l, by rw [List.length_cons, hl], wk_c hb hF hfe' hw, b, List.mem_cons_self, hp⟩
    · rintro ⟨l, hl, hw, c, hc, pc⟩
      cases l with
      | nil => exact absurd hl.symm (Nat.succ_ne_zero s)
      | cons b l =>
        obtain ⟨hb, hF, hfe, hw⟩ := wk_e hw
        have tb := vp_lt (ht b hb)
        have hfe : (fr b).toNatClampNeg = e := hfe
        rw [List.length_cons] at hl
        refine ⟨b, hb, hF, by rw [← hfe]; exact vp_self (hf b hb) (by omega), ?_⟩
        rcases List.mem_cons.mp hc with q | q
        · exact Or.inr ⟨by rw [← q]; exact pc, (can_wk hE hf ht hg s (to b).toNatClampNeg (by omega)).mpr ⟨l, by omega, hw⟩⟩
        · exact Or.inl ((ih (to b).toNatClampNeg (by omega)).mpr ⟨l, by omega, hw, c, q, pc⟩)
/-- the activity a closes by z more of F, with LEAST above 0 together -/
def clP (F : Nat → Prop) (fr to le : Nat → Int32) (N a z : Nat) : Prop := rCab F fr to le N (fr a) z (to a).toNatClampNeg ∨ (0 < le a ∧ rCan F fr to N (fr a) z (to a).toNatClampNeg)
theorem cl_wk (hE : E ≤ 60) (hf : ∀ b, b < N → vp_in (fr b) E) (ht : ∀ b, b < N → vp_in (to b) E) {a z : Nat} (ha : a < N) : clP F fr to le N a z ↔ ∃ l : List Nat, l.length = z ∧ wk F (nF fr) (nF to) N l (nF to a) (nF fr a) ∧ ∃ c, c ∈ a :: l ∧ 0 < le c := by
  have e : fr a = nI (nF fr a) := vp_self (hf a ha) (by omega)
  have fa : nF fr a < E := vp_lt (hf a ha)
  have ta : nF to a < E := vp_lt (ht a ha)
  constructor
  · rintro (h | ⟨hp, h⟩)
    · rw [e] at h
      obtain ⟨l, hl, hw, c, hc, pc⟩ := (cab_wk hE hf ht (by omega) z (nF to a) (by omega)).mp h
      exact ⟨l, hl, hw, c, List.mem_cons_of_mem _ hc, pc⟩
    · rw [e] at h
      obtain ⟨l, hl, hw⟩ := (can_wk hE hf ht (by omega) z (nF to a) (by omega)).mp h
      exact ⟨l, hl, hw, a, List.mem_cons_self, hp⟩
  · rintro ⟨l, hl, hw, c, hc, pc⟩
    unfold clP
    rw [e]
    rcases List.mem_cons.mp hc with q | q
    · exact Or.inr ⟨by rw [← q]; exact pc, (can_wk hE hf ht (by omega) z (nF to a) (by omega)).mpr ⟨l, hl, hw⟩⟩
    · exact Or.inl ((cab_wk hE hf ht (by omega) z (nF to a) (by omega)).mpr ⟨l, hl, hw, c, q, pc⟩)
/-- a closed walk of z activities at e, with LEAST above 0 together -/
def cyP (F : Nat → Prop) (fr to le : Nat → Int32) (N z e : Nat) : Prop := rCab F fr to le N (nI e) z e
def gOK (F : Nat → Prop) (fr to le : Nat → Int32) (N : Nat) (tg : Int32) (n : Nat) (x : Int32) (po : Prop) (b : Nat) : Prop := F b ∧ fr b = x ∧ (rCab F fr to le N tg n (to b).toNatClampNeg ∨ ((po ∨ 0 < le b) ∧ rCan F fr to N tg n (to b).toNatClampNeg))
def poS (le me : Nat → Int32) (k : Nat) : Prop := ∃ j, j < k ∧ 0 < le (me j).toNatClampNeg
/-- from the second member on: each the lowest by which it can be closed -/
def grd (F : Nat → Prop) (fr to le : Nat → Int32) (N : Nat) (tg : Int32) (n : Nat) (me : Nat → Int32) (k : Nat) : Prop :=
  ∃ b, b < N ∧ me k = nI b ∧ gOK F fr to le N tg (n - 1 - k) (to (me (k - 1)).toNatClampNeg) (poS le me k) b ∧ ∀ c, c < b → ¬ gOK F fr to le N tg (n - 1 - k) (to (me (k - 1)).toNatClampNeg) (poS le me k) c
/-- what the ring is -/
def RgI (E N : Nat) (H : Nat → Prop) (fr to le : Nat → Int32) (n : Nat) (me : Nat → Int32) : Prop :=
  (n = 0 ∧ ∀ z, 1 ≤ z → z ≤ E → ∀ e, e < E → ¬ cyP H fr to le N z e) ∨
  (∃ a, a < N ∧ H a ∧ 1 ≤ n ∧ n ≤ E ∧ me 0 = nI a ∧ clP H fr to le N a (n - 1) ∧ (∀ z, 1 ≤ z → z < n → ∀ e, e < E → ¬ cyP H fr to le N z e) ∧ (∀ b, b < a → H b → ¬ clP H fr to le N b (n - 1)) ∧ ∀ k, 1 ≤ k → k < n → grd H fr to le N (fr a) n me k)
/-- the same, as the reference finds it: with the others above the first alone -/
def RfI (E N : Nat) (H : Nat → Prop) (Fo : Nat → Nat → Prop) (fr to le : Nat → Int32) (n : Nat) (me : Nat → Int32) : Prop :=
  (n = 0 ∧ ∀ b, b < N → H b → ∀ z, 1 ≤ z → z < E → ¬ clP (Fo b) fr to le N b z) ∨
  (∃ a u, a < N ∧ H a ∧ 1 ≤ u ∧ u < E ∧ n = u + 1 ∧ me 0 = nI a ∧ clP (Fo a) fr to le N a u ∧ (∀ c, c < N → H c → ∀ z, 1 ≤ z → z < E → clP (Fo c) fr to le N c z → (u ≤ z ∧ (z = u → a ≤ c))) ∧ ∀ k, 1 ≤ k → k < n → grd (Fo a) fr to le N (fr a) n me k)
theorem cl_cy {H : Nat → Prop} (hE : E ≤ 60) (hf : ∀ b, b < N → vp_in (fr b) E) {a z : Nat} (ha : a < N) (hH : H a) (h : clP H fr to le N a z) : cyP H fr to le N (z + 1) (nF fr a) := by
  have e : fr a = nI (nF fr a) := vp_self (hf a ha) (by omega)
  unfold clP at h
  refine ⟨a, ha, hH, e, ?_⟩
  rw [← e]
  exact h
theorem rg_same {H : Nat → Prop} {n n' : Nat} {me me' : Nat → Int32} (hE : E ≤ 60) (hN : N ≤ 100) (hf : ∀ b, b < N → vp_in (fr b) E) (h : RgI E N H fr to le n me) (h' : RgI E N H fr to le n' me') : n = n' ∧ ∀ i, i < n → me i = me' i := by
  rcases h with ⟨h0, h1⟩ | ⟨a, a1, a2, a3, a4, a5, a6, a7, a8, a9⟩
  · rcases h' with ⟨k0, k1⟩ | ⟨b, b1, b2, b3, b4, b5, b6, b7, b8, b9⟩
    · exact ⟨by omega, fun i hi => by omega⟩
    · have c := cl_cy hE hf b1 b2 b6
      exact absurd c (h1 _ (by omega) (by omega) _ (vp_lt (hf b b1)))
  · have c := cl_cy hE hf a1 a2 a6
    rw [show n - 1 + 1 = n by omega] at c
    rcases h' with ⟨k0, k1⟩ | ⟨b, b1, b2, b3, b4, b5, b6, b7, b8, b9⟩
    · exact absurd c (k1 _ (by omega) (by omega) _ (vp_lt (hf a a1)))
    · have d := cl_cy hE hf b1 b2 b6
      rw [show n' - 1 + 1 = n' by omega] at d
      have e : n = n' := by
        rcases Nat.lt_trichotomy n n' with q | q | q
        · exact absurd c (b7 n a3 q _ (vp_lt (hf a a1)))
        · exact q
        · exact absurd d (a7 n' b3 q _ (vp_lt (hf b b1)))
      subst e
      have ab : a = b := by
        rcases Nat.lt_trichotomy a b with q | q | q
        · exact absurd a6 (b8 a q a2)
        · exact q
        · exact absurd b6 (a8 b q b2)
      subst ab
      refine ⟨rfl, fun i => ?_⟩
      induction i using Nat.strongRecOn with
      | ind k ih =>
        intro hk
        by_cases q : k = 0
        · rw [q, a5, b5]
        · obtain ⟨c1, d1, d2, d3, d4⟩ := a9 k (by omega) hk
          obtain ⟨c2, f1, f2, f3, f4⟩ := b9 k (by omega) hk
          have e1 : me (k - 1) = me' (k - 1) := ih (k - 1) (by omega) (by omega)
          have e2 : poS le me k = poS le me' k := by
            apply propext
            constructor
            · rintro ⟨j, hj, hp⟩; exact ⟨j, hj, by rw [← ih j hj (by omega)]; exact hp⟩
            · rintro ⟨j, hj, hp⟩; exact ⟨j, hj, by rw [ih j hj (by omega)]; exact hp⟩
          rw [← e1, ← e2] at f3 f4
          have e3 : c1 = c2 := by
            rcases Nat.lt_trichotomy c1 c2 with q | q | q
            · exact absurd d3 (f4 c1 q)
            · exact q
            · exact absurd f3 (d4 c2 q)
          rw [d2, f2, e3]
theorem lmin {H : Nat → Prop} (hE : E ≤ 60) (hf : ∀ b, b < N → vp_in (fr b) E) (ht : ∀ b, b < N → vp_in (to b) E) (h : ∀ z, 1 ≤ z → z < s → ∀ e, e < E → ¬ cyP H fr to le N z e) : ∀ (l : List Nat) (e : Nat), wk H (nF fr) (nF to) N l e e → (∃ c, c ∈ l ∧ 0 < le c) → s ≤ l.length := by
  intro l e hw hc
  apply Classical.byContradiction
  intro q
  cases l with
  | nil => obtain ⟨c, h1, _⟩ := hc; exact absurd h1 List.not_mem_nil
  | cons b l =>
    obtain ⟨h1, h2, h3, _⟩ := wk_e hw
    have fb : nF fr b < E := vp_lt (hf b h1)
    refine h (b :: l).length (by rw [List.length_cons]; omega) (by omega) e (by omega) ?_
    exact (cab_wk hE hf ht (by omega) _ e (by omega)).mpr ⟨b :: l, rfl, hw, hc⟩
/-- with a the lowest on any shortest one: all others are above it -/
theorem above {H : Nat → Prop} (hE : E ≤ 60) (hf : ∀ b, b < N → vp_in (fr b) E) (ht : ∀ b, b < N → vp_in (to b) E) (h : ∀ z, 1 ≤ z → z < s → ∀ e, e < E → ¬ cyP H fr to le N z e) {a : Nat} (hlow : ∀ b, b < a → H b → ¬ clP H fr to le N b (s - 1)) (ha : a < N) (hH : H a) {l : List Nat} (hl : l.length + 1 = s) (hw : wk H (nF fr) (nF to) N l (nF to a) (nF fr a)) (hp : ∃ c, c ∈ a :: l ∧ 0 < le c) : ∀ b, b ∈ l → a < b := by
  intro b hb
  obtain ⟨h1, l', k1, k2, k3⟩ := rot (lmin hE hf ht h) (wk_c ha hH rfl hw) hp hl b hb
  obtain ⟨j1, j2, _, j4⟩ := wk_e k2
  apply Classical.byContradiction
  intro q
  exact hlow b (by omega) j2 ((cl_wk hE hf ht j1).mpr ⟨l', by omega, j4, k3⟩)
theorem cl_up {H : Nat → Prop} {Fo : Nat → Nat → Prop} (hFo : ∀ a b, a < N → b < N → (Fo a b ↔ (a < b ∧ H b))) (hE : E ≤ 60) (hf : ∀ b, b < N → vp_in (fr b) E) (ht : ∀ b, b < N → vp_in (to b) E) (h : ∀ z, 1 ≤ z → z < s → ∀ e, e < E → ¬ cyP H fr to le N z e) (hs : 1 ≤ s) {a : Nat} (hlow : ∀ b, b < a → H b → ¬ clP H fr to le N b (s - 1)) (ha : a < N) (hH : H a) (hc : clP H fr to le N a (s - 1)) : clP (Fo a) fr to le N a (s - 1) := by
  obtain ⟨l, h1, h2, h3⟩ := (cl_wk hE hf ht ha).mp hc
  have up := above hE hf ht h hlow ha hH (l := l) (by omega) h2 h3
  exact (cl_wk hE hf ht ha).mpr ⟨l, h1, wk_mono l _ _ (fun b hb hm hq => (hFo a b ha hb).mpr ⟨up b hm, hq⟩) h2, h3⟩
theorem cl_dn {H : Nat → Prop} {Fo : Nat → Nat → Prop} (hFo : ∀ a b, a < N → b < N → (Fo a b ↔ (a < b ∧ H b))) (hE : E ≤ 60) (hf : ∀ b, b < N → vp_in (fr b) E) (ht : ∀ b, b < N → vp_in (to b) E) {a z : Nat} (ha : a < N) (hc : clP (Fo a) fr to le N a z) : clP H fr to le N a z := by
  obtain ⟨l, h1, h2, h3⟩ := (cl_wk hE hf ht ha).mp hc
  exact (cl_wk hE hf ht ha).mpr ⟨l, h1, wk_mono l _ _ (fun b hb _ hq => ((hFo a b ha hb).mp hq).2) h2, h3⟩
/-- where a closed walk is, there is one that the reference meets -/
theorem meets {H : Nat → Prop} {Fo : Nat → Nat → Prop} (hFo : ∀ a b, a < N → b < N → (Fo a b ↔ (a < b ∧ H b))) (hE : E ≤ 60) (hf : ∀ b, b < N → vp_in (fr b) E) (ht : ∀ b, b < N → vp_in (to b) E) (hne : ∀ b, b < N → ¬ fr b = to b) {z e : Nat} (hz : 1 ≤ z) (he : e < E) (hc : cyP H fr to le N z e) : ∃ u a, 1 ≤ u ∧ u + 1 ≤ z ∧ a < N ∧ H a ∧ clP (Fo a) fr to le N a u := by
  obtain ⟨m, m1, ⟨m2, e0, m3, m4⟩, m5⟩ := least_of (P := fun z => 1 ≤ z ∧ ∃ e, e < E ∧ cyP H fr to le N z e) z ⟨hz, e, he, hc⟩
  have hm : ∀ z, 1 ≤ z → z < m → ∀ e, e < E → ¬ cyP H fr to le N z e := fun z h1 h2 e h3 h4 => m5 z h2 ⟨h1, e, h3, h4⟩
  obtain ⟨l, l1, l2, l3⟩ := (cab_wk hE hf ht (by omega) m e0 (by omega)).mp m4
  cases l with
  | nil => rw [List.length_nil] at l1; omega
  | cons b l =>
    obtain ⟨j1, j2, j3, j4⟩ := wk_e l2
    rw [List.length_cons] at l1
    have cb : clP H fr to le N b (m - 1) := (cl_wk hE hf ht j1).mpr ⟨l, by omega, by rw [j3]; exact j4, l3⟩
    obtain ⟨a, a1, ⟨a2, a3, a4⟩, a5⟩ := least_of (P := fun a => a < N ∧ H a ∧ clP H fr to le N a (m - 1)) b ⟨j1, j2, cb⟩
    have up := cl_up hFo hE hf ht hm m2 (a := a) (fun b h1 h2 h3 => a5 b h1 ⟨by omega, h2, h3⟩) a2 a3 a4
    refine ⟨m - 1, a, ?_, by omega, a2, a3, up⟩
    apply Classical.byContradiction
    intro q
    obtain ⟨l', k1, k2, k3⟩ := (cl_wk hE hf ht a2).mp a4
    have e1 : l' = [] := List.length_eq_zero_iff.mp (by omega)
    subst e1
    have k2 := wk_n k2
    refine hne a a2 ?_
    rw [vp_self (hf a a2) (by omega), vp_self (ht a a2) (by omega)]
    exact congrArg nI k2.symm
theorem gok_wk (hE : E ≤ 60) (hf : ∀ b, b < N → vp_in (fr b) E) (ht : ∀ b, b < N → vp_in (to b) E) {a n b : Nat} {x : Int32} {po : Prop} (ha : a < N) (hb : b < N) : gOK F fr to le N (fr a) n x po b ↔ (F b ∧ fr b = x ∧ ∃ l : List Nat, l.length = n ∧ wk F (nF fr) (nF to) N l (nF to b) (nF fr a) ∧ (po ∨ ∃ c, c ∈ b :: l ∧ 0 < le c)) := by
  have e : fr a = nI (nF fr a) := vp_self (hf a ha) (by omega)
  have fa : nF fr a < E := vp_lt (hf a ha)
  have tb : nF to b < E := vp_lt (ht b hb)
  unfold gOK
  rw [e]
  constructor
  · rintro ⟨h1, h2, h | ⟨hp, h⟩⟩
    · obtain ⟨l, hl, hw, c, hc, pc⟩ := (cab_wk hE hf ht (by omega) n (nF to b) (by omega)).mp h
      exact ⟨h1, h2, l, hl, hw, Or.inr ⟨c, List.mem_cons_of_mem _ hc, pc⟩⟩
    · obtain ⟨l, hl, hw⟩ := (can_wk hE hf ht (by omega) n (nF to b) (by omega)).mp h
      exact ⟨h1, h2, l, hl, hw, hp.elim Or.inl (fun q => Or.inr ⟨b, List.mem_cons_self, q⟩)⟩
  · rintro ⟨h1, h2, l, hl, hw, hp⟩
    have cn := (can_wk hE hf ht (by omega) n (nF to b) (by omega)).mpr ⟨l, hl, hw⟩
    refine ⟨h1, h2, ?_⟩
    rcases hp with q | ⟨c, hc, pc⟩
    · exact Or.inr ⟨Or.inl q, cn⟩
    · rcases List.mem_cons.mp hc with q | q
      · exact Or.inr ⟨Or.inr (by rw [← q]; exact pc), cn⟩
      · exact Or.inl ((cab_wk hE hf ht (by omega) n (nF to b) (by omega)).mpr ⟨l, hl, hw, c, q, pc⟩)
def pre (me : Nat → Int32) (k : Nat) : List Nat := (List.range k).map (fun j => (me j).toNatClampNeg)
theorem pre_s {me : Nat → Int32} {k : Nat} : pre me (k + 1) = pre me k ++ [(me k).toNatClampNeg] := by
  unfold pre; rw [List.range_succ, List.map_append]; rfl
theorem pre_h {me : Nat → Int32} {k : Nat} : ∃ l : List Nat, pre me (k + 1) = (me 0).toNatClampNeg :: l ∧ l.length = k := by
  induction k with
  | zero => exact ⟨[], rfl, rfl⟩
  | succ k ih =>
    obtain ⟨l, h1, h2⟩ := ih
    refine ⟨l ++ [(me (k + 1)).toNatClampNeg], ?_, ?_⟩
    · rw [pre_s, h1]; rfl
    · rw [List.length_append, h2]; rfl
theorem pre_p {me : Nat → Int32} {k : Nat} : (∃ c, c ∈ pre me k ∧ 0 < le c) ↔ poS le me k := by
  unfold pre poS
  constructor
  · rintro ⟨c, hc, pc⟩
    obtain ⟨j, hj, e⟩ := List.mem_map.mp hc
    exact ⟨j, List.mem_range.mp hj, by rw [e]; exact pc⟩
  · rintro ⟨j, hj, pc⟩
    exact ⟨_, List.mem_map.mpr ⟨j, List.mem_range.mpr hj, rfl⟩, pc⟩
theorem ref_rg {H : Nat → Prop} {Fo : Nat → Nat → Prop} {n : Nat} {me : Nat → Int32} (hFo : ∀ a b, a < N → b < N → (Fo a b ↔ (a < b ∧ H b))) (hE : E ≤ 60) (hN : N ≤ 100) (hf : ∀ b, b < N → vp_in (fr b) E) (ht : ∀ b, b < N → vp_in (to b) E) (hne : ∀ b, b < N → ¬ fr b = to b) (h : RfI E N H Fo fr to le n me) : RgI E N H fr to le n me := by
  rcases h with ⟨h0, h1⟩ | ⟨a, u, a1, a2, a3, a4, a5, a6, a7, a8, a9⟩
  · refine Or.inl ⟨h0, fun z hz hzE e he hc => ?_⟩
    obtain ⟨u, a, u1, u2, u3, u4, u5⟩ := meets hFo hE hf ht hne hz he hc
    exact h1 a u3 u4 u u1 (by omega) u5
  · subst a5
    have hmin : ∀ z, 1 ≤ z → z < u + 1 → ∀ e, e < E → ¬ cyP H fr to le N z e := by
      intro z hz hzE e he hc
      obtain ⟨v, b, u1, u2, u3, u4, u5⟩ := meets hFo hE hf ht hne hz he hc
      have := (a8 b u3 u4 v u1 (by omega) u5).1
      omega
    have hlow : ∀ b, b < a → H b → ¬ clP H fr to le N b (u + 1 - 1) := by
      intro b hb hHb hc
      obtain ⟨b', b1, ⟨b2, b3⟩, b4⟩ := least_of (P := fun b => H b ∧ clP H fr to le N b (u + 1 - 1)) b ⟨hHb, hc⟩
      have up := cl_up hFo hE hf ht hmin (by omega) (a := b') (fun c h1 h2 h3 => b4 c h1 ⟨h2, h3⟩) (by omega) b2 b3
      have := (a8 b' (by omega) b2 _ (by omega) (by omega) up).2 (by omega)
      omega
    have hdn : clP H fr to le N a (u + 1 - 1) := by
      rw [show u + 1 - 1 = u by omega]; exact cl_dn hFo hE hf ht a1 a7
    refine Or.inr ⟨a, a1, a2, by omega, by omega, a6, hdn, hmin, hlow, ?_⟩
    have ca : (me 0).toNatClampNeg = a := by rw [a6]; exact nI_clamp (by omega)
    have walk : ∀ k, k < u + 1 → wk H (nF fr) (nF to) N (pre me (k + 1)) (nF fr a) (nF to (me k).toNatClampNeg) := by
      intro k
      induction k with
      | zero =>
        intro _
        show wk H (nF fr) (nF to) N [(me 0).toNatClampNeg] (nF fr a) (nF to (me 0).toNatClampNeg)
        rw [ca]; exact wk_c a1 a2 rfl rfl
      | succ k ih =>
        intro hk
        obtain ⟨b, b1, b2, b3, _⟩ := a9 (k + 1) (by omega) hk
        have cb : (me (k + 1)).toNatClampNeg = b := by rw [b2]; exact nI_clamp (by omega)
        rw [pre_s, cb]
        refine (wk_app _ _ _ _).mpr ⟨_, ih (by omega), wk_c b1 ((hFo a b a1 b1).mp b3.1).2 ?_ rfl⟩
        exact congrArg Int32.toNatClampNeg b3.2.1
    have same : ∀ k, 1 ≤ k → k < u + 1 → ∀ c, c < N → (gOK (Fo a) fr to le N (fr a) (u + 1 - 1 - k) (to (me (k - 1)).toNatClampNeg) (poS le me k) c ↔ gOK H fr to le N (fr a) (u + 1 - 1 - k) (to (me (k - 1)).toNatClampNeg) (poS le me k) c) := by
      intro k hk1 hk2 c hc
      rw [gok_wk hE hf ht a1 hc, gok_wk hE hf ht a1 hc]
      constructor
      · rintro ⟨h1, h2, l, h3, h4, h5⟩
        exact ⟨((hFo a c a1 hc).mp h1).2, h2, l, h3, wk_mono l _ _ (fun b hb _ hq => ((hFo a b a1 hb).mp hq).2) h4, h5⟩
      · rintro ⟨h1, h2, l, h3, h4, h5⟩
        obtain ⟨tl, t1, t2⟩ := pre_h (me := me) (k := k - 1)
        have wkp := walk (k - 1) (by omega)
        rw [show k - 1 + 1 = k by omega] at wkp t1
        have wc : wk H (nF fr) (nF to) N (pre me k ++ c :: l) (nF fr a) (nF fr a) := by
          refine (wk_app _ _ _ _).mpr ⟨_, wkp, wk_c hc h1 ?_ h4⟩
          exact congrArg Int32.toNatClampNeg h2
        have pc : ∃ d, d ∈ pre me k ++ c :: l ∧ 0 < le d := by
          rcases h5 with q | ⟨d, hd, pd⟩
          · obtain ⟨d, hd, pd⟩ := pre_p.mpr q
            exact ⟨d, List.mem_append_left _ hd, pd⟩
          · exact ⟨d, List.mem_append_right _ hd, pd⟩
        rw [t1, ca] at wc pc
        have wc2 : wk H (nF fr) (nF to) N (a :: (tl ++ c :: l)) (nF fr a) (nF fr a) := wc
        have up := above hE hf ht hmin hlow a1 a2 (l := tl ++ c :: l) (by rw [List.length_append, List.length_cons]; omega) (wk_e wc2).2.2.2 pc
        refine ⟨(hFo a c a1 hc).mpr ⟨up c (List.mem_append_right _ List.mem_cons_self), h1⟩, h2, l, h3, wk_mono l _ _ (fun b hb hm hq => (hFo a b a1 hb).mpr ⟨up b (List.mem_append_right _ (List.mem_cons_of_mem _ hm)), hq⟩) h4, h5⟩
    intro k hk1 hk2
    obtain ⟨b, b1, b2, b3, b4⟩ := a9 k hk1 hk2
    exact ⟨b, b1, b2, (same k hk1 hk2 b b1).mp b3, fun c hc q => b4 c hc ((same k hk1 hk2 c (by omega)).mpr q)⟩
end RG

/-! rings: the class's tables -/
section RH
variable {H : Nat → Prop} {fr to le : Nat → Int32} {N E : Nat} {tg : Int32} {C V C' V' : Prop} {m : Nat} {x r l : Int32}
theorem i0_lt : (0 < x) ↔ 0 < x.toInt := by
  rw [i3_lt]
  exact Iff.rfl
theorem cab_can : ∀ s e, rCab H fr to le N tg s e → rCan H fr to N tg s e := by
  intro s
  induction s with
  | zero => intro e h; exact (h : False).elim
  | succ s ih =>
    rintro e ⟨b, h1, h2, h3, h4⟩
    exact ⟨b, h1, h2, h3, h4.elim (ih _) (fun q => q.2)⟩
/-- a number of the table: none, or at most so much, and above 0 just where it should be -/
def eW (C V : Prop) (m : Nat) (x : Int32) : Prop := (x = (-1) ∧ ¬ C ∧ ¬ V) ∨ (0 ≤ x.toInt ∧ x.toInt ≤ 500 * (m : Int) ∧ C ∧ (0 < x.toInt ↔ V))
theorem eW_iff (h1 : C ↔ C') (h2 : V ↔ V') (h : eW C V m x) : eW C' V' m x := by
  rw [← propext h1, ← propext h2]; exact h
theorem eW_pos (h : eW C V m x) : 0 < x ↔ V := by
  rcases h with ⟨h1, h2, h3⟩ | ⟨h1, h2, h3, h4⟩
  · rw [h1]; exact ⟨fun q => absurd q (by decide), fun q => absurd q h3⟩
  · rw [i0_lt]; exact h4
theorem eW_none (h : eW C V m x) (e : x = (-1)) : ¬ C ∧ ¬ V := by
  rcases h with ⟨h1, h2, h3⟩ | ⟨h1, h2, h3, h4⟩
  · exact ⟨h2, h3⟩
  · rw [e] at h1; exact absurd h1 (by decide)
theorem eW_some (h : eW C V m x) (e : ¬ x = (-1)) : 0 ≤ x.toInt ∧ x.toInt ≤ 500 * (m : Int) ∧ C ∧ (0 < x.toInt ↔ V) := by
  rcases h with ⟨h1, _⟩ | h
  · exact absurd h1 e
  · exact h
theorem eW_add (h : eW C V m x) (hl : 0 ≤ l.toInt ∧ l.toInt ≤ 500) (hm : m ≤ 60) : eW C (V ∨ (0 < l ∧ C)) (m + 1) (if x = (-1) then (-1) else x + l) := by
  rcases h with ⟨h1, h2, h3⟩ | ⟨h1, h2, h3, h4⟩
  · rw [if_pos h1]; exact Or.inl ⟨rfl, h2, fun q => q.elim h3 (fun q => h2 q.2)⟩
  · have hx : ¬ x = (-1) := fun e => by rw [e] at h1; exact absurd h1 (by decide)
    rw [if_neg hx]
    have e : (x + l).toInt = x.toInt + l.toInt := by
      rw [Int32.toInt_add]; exact Int.bmod_eq_of_le (by omega) (by omega)
    refine Or.inr ⟨by rw [e]; omega, by rw [e]; omega, h3, ?_⟩
    rw [e, i0_lt]
    constructor
    · intro q
      by_cases z : 0 < x.toInt
      · exact Or.inl (h4.mp z)
      · exact Or.inr ⟨by omega, h3⟩
    · rintro (q | q)
      · have := h4.mpr q; omega
      · have := q.1; omega
theorem eW_T (h : eW C V m x) (h' : eW C' V' m r) (c : ¬ r ≤ x) : eW (C ∨ C') (V ∨ V') m r := by
  rw [i3_le] at c
  have m1 : ((-1 : Int32)).toInt = -1 := rfl
  rcases h' with ⟨k1, k2, k3⟩ | ⟨k1, k2, k3, k4⟩
  · rw [k1, m1] at c
    rcases h with ⟨h1, h2, h3⟩ | ⟨h1, h2, h3, h4⟩
    · rw [h1, m1] at c; omega
    · omega
  · refine Or.inr ⟨k1, k2, Or.inr k3, ?_⟩
    constructor
    · intro q; exact Or.inr (k4.mp q)
    · rintro (q | q)
      · rcases h with ⟨h1, h2, h3⟩ | ⟨h1, h2, h3, h4⟩
        · exact absurd q h3
        · have := h4.mpr q; omega
      · exact k4.mpr q
theorem eW_F (h : eW C V m x) (h' : eW C' V' m r) (c : r ≤ x) : eW (C ∨ C') (V ∨ V') m x := by
  rw [i3_le] at c
  have m1 : ((-1 : Int32)).toInt = -1 := rfl
  rcases h with ⟨h1, h2, h3⟩ | ⟨h1, h2, h3, h4⟩
  · rw [h1, m1] at c
    rcases h' with ⟨k1, k2, k3⟩ | ⟨k1, k2, k3, k4⟩
    · exact Or.inl ⟨h1, fun q => q.elim h2 k2, fun q => q.elim h3 k3⟩
    · omega
  · refine Or.inr ⟨h1, h2, Or.inl h3, ?_⟩
    constructor
    · intro q; exact Or.inl (h4.mp q)
    · rintro (q | q)
      · exact h4.mpr q
      · rcases h' with ⟨k1, k2, k3⟩ | ⟨k1, k2, k3, k4⟩
        · exact absurd q k3
        · have := k4.mpr q; omega
/-- a row of the table -/
def rwW (H : Nat → Prop) (fr to le : Nat → Int32) (N : Nat) (tg : Int32) (E s : Nat) (row : Nat → Int32) : Prop := ∀ e, e < E → eW (rCan H fr to N tg s e) (rCab H fr to le N tg s e) s (row e)
theorem rw_aim {e0 : Int32} {row : Nat → Int32} (hE : E ≤ 60) (hv : vp_in e0 E) (h1 : ∀ i, i < 60 → ¬ i = e0.toNatClampNeg → row i = (-1)) (h2 : row e0.toNatClampNeg = 0) : rwW H fr to le N e0 E 0 row := by
  intro e he
  have self : e0 = nI e0.toNatClampNeg := vp_self hv (by omega)
  by_cases q : e = e0.toNatClampNeg
  · rw [q, h2]
    exact Or.inr ⟨by decide, by decide, self.symm, ⟨fun z => absurd z (by decide), fun z => (z : False).elim⟩⟩
  · refine Or.inl ⟨h1 e (by omega) q, fun z => ?_, fun z => (z : False).elim⟩
    have z : nI e = e0 := z
    apply q
    rw [← z]
    exact (nI_clamp (by omega)).symm
/-- the activities that hold, by number -/
def gHo (H : Nat → Prop) (k g : Nat) (ho : Nat → Int32) : Prop := g ≤ k ∧ (∀ i, i < g → ∃ b, b < k ∧ ho i = nI b ∧ H b) ∧ (∀ b, b < k → H b → ∃ i, i < g ∧ ho i = nI b) ∧ ∀ i j, i < j → j < g → (ho i).toNatClampNeg < (ho j).toNatClampNeg
variable {ho ou : Nat → Int32} {g k z : Nat}
theorem gh_0 : gHo H 0 0 ou := ⟨Nat.le_refl _, fun i hi => absurd hi (Nat.not_lt_zero _), fun b hb => absurd hb (Nat.not_lt_zero _), fun i j _ hj => absurd hj (Nat.not_lt_zero _)⟩
theorem gh_n (h : gHo H k g ou) (hn : ¬ H k) : gHo H (k + 1) g ou := by
  obtain ⟨h1, h2, h3, h4⟩ := h
  refine ⟨by omega, fun i hi => ?_, fun b hb hH => ?_, h4⟩
  · obtain ⟨b, q1, q2⟩ := h2 i hi
    exact ⟨b, by omega, q2⟩
  · by_cases e : b = k
    · rw [e] at hH; exact absurd hH hn
    · exact h3 b (by omega) hH
theorem gh_y (h : gHo H k g ou) (hy : H k) (hk : k < 100) : gHo H (k + 1) (g + 1) (upd ou g (nI k)) := by
  obtain ⟨h1, h2, h3, h4⟩ := h
  refine ⟨by omega, fun i hi => ?_, fun b hb hH => ?_, fun i j hij hj => ?_⟩
  · by_cases e : i = g
    · rw [e, pk_us]; exact ⟨k, by omega, rfl, hy⟩
    · rw [pk_un e]
      obtain ⟨b, q1, q2⟩ := h2 i (by omega)
      exact ⟨b, by omega, q2⟩
  · by_cases e : b = k
    · exact ⟨g, by omega, by rw [pk_us, e]⟩
    · obtain ⟨i, q1, q2⟩ := h3 b (by omega) hH
      exact ⟨i, by omega, by rw [pk_un (by omega)]; exact q2⟩
  · rw [pk_un (show i ≠ g by omega)]
    by_cases e : j = g
    · rw [e, pk_us, nI_clamp (by omega)]
      obtain ⟨b, q1, q2, _⟩ := h2 i (by omega)
      rw [q2, nI_clamp (by omega)]; exact q1
    · rw [pk_un e]; exact h4 i j hij (by omega)
theorem gh_b (h : gHo H N g ho) (hN : N ≤ 100) {i : Nat} (hi : i < g) : (ho i).toNatClampNeg < N ∧ H (ho i).toNatClampNeg ∧ ho i = nI (ho i).toNatClampNeg := by
  obtain ⟨b, q1, q2, q3⟩ := h.2.1 i hi
  have e : (ho i).toNatClampNeg = b := by rw [q2]; exact nI_clamp (by omega)
  rw [e]; exact ⟨q1, q3, q2⟩
theorem gh_in (h : gHo H N g ho) (hN : N ≤ 100) : ∀ i, i < g → vp_in (ho i) N := by
  intro i hi
  obtain ⟨b, q1, q2, q3⟩ := h.2.1 i hi
  rw [q2]; exact vp_in_nI q1 (by omega)
/-- the least of those that hold -/
theorem gh_low (h : gHo H N g ho) (hN : N ≤ 100) {P : Nat → Prop} {i : Nat} (hi : i < g) (hno : ∀ j, j < i → ¬ P (ho j).toNatClampNeg) : ∀ b, b < (ho i).toNatClampNeg → H b → ¬ P b := by
  intro b hb hH
  have bi := gh_b h hN hi
  obtain ⟨j, q1, q2⟩ := h.2.2.1 b (by omega) hH
  have e : (ho j).toNatClampNeg = b := by rw [q2]; exact nI_clamp (by omega)
  have lt : j < i := by
    rcases Nat.lt_trichotomy i j with q | q | q
    · have := h.2.2.2 i j q q1; omega
    · rw [q] at hb; omega
    · exact q
  rw [← e]; exact hno j lt
theorem gh_none (h : gHo H N g ho) (hN : N ≤ 100) {P : Nat → Prop} (hno : ∀ j, j < g → ¬ P (ho j).toNatClampNeg) : ∀ b, b < N → H b → ¬ P b := by
  intro b hb hH
  obtain ⟨j, q1, q2⟩ := h.2.2.1 b hb hH
  have e : (ho j).toNatClampNeg = b := by rw [q2]; exact nI_clamp (by omega)
  rw [← e]; exact hno j q1
def kRb (row to le : Nat → Int32) (y : Int32) : Int32 := if row (to y.toNatClampNeg).toNatClampNeg = (-1) then (-1) else row (to y.toNatClampNeg).toNatClampNeg + le y.toNatClampNeg
theorem kRb_1 {row : Nat → Int32} {y : Int32} (c : row (to y.toNatClampNeg).toNatClampNeg = (-1)) : (-1) = kRb row to le y := by unfold kRb; rw [if_pos c]
theorem kRb_0 {row : Nat → Int32} {y : Int32} (c : ¬ row (to y.toNatClampNeg).toNatClampNeg = (-1)) : row (to y.toNatClampNeg).toNatClampNeg + le y.toNatClampNeg = kRb row to le y := by unfold kRb; rw [if_neg c]
theorem kRb_W {row : Nat → Int32} {y : Int32} {s : Nat} (h : rwW H fr to le N tg E s row) (ht : vp_in (to y.toNatClampNeg) E) (hl : 0 ≤ (le y.toNatClampNeg).toInt ∧ (le y.toNatClampNeg).toInt ≤ 500) (hs : s ≤ 60) : eW (rCan H fr to N tg s (to y.toNatClampNeg).toNatClampNeg) (rCab H fr to le N tg s (to y.toNatClampNeg).toNatClampNeg ∨ (0 < le y.toNatClampNeg ∧ rCan H fr to N tg s (to y.toNatClampNeg).toNatClampNeg)) (s + 1) (kRb row to le y) :=
  eW_add (h _ (vp_lt ht)) hl hs
/-- row z, with the first k that hold looked at -/
def pmW (H : Nat → Prop) (fr to le : Nat → Int32) (N : Nat) (tg : Int32) (E : Nat) (ho : Nat → Int32) (k z : Nat) (row : Nat → Int32) : Prop := ∀ e, e < E → eW (∃ i, i < k ∧ fr (ho i).toNatClampNeg = nI e ∧ rCan H fr to N tg (z - 1) (to (ho i).toNatClampNeg).toNatClampNeg) (∃ i, i < k ∧ fr (ho i).toNatClampNeg = nI e ∧ (rCab H fr to le N tg (z - 1) (to (ho i).toNatClampNeg).toNatClampNeg ∨ (0 < le (ho i).toNatClampNeg ∧ rCan H fr to N tg (z - 1) (to (ho i).toNatClampNeg).toNatClampNeg))) z (row e)
theorem pm_0 {row : Nat → Int32} (hE : E ≤ 60) (h : ∀ i, i < 60 → row i = (-1)) : pmW H fr to le N tg E ho 0 z row := by
  intro e he
  exact Or.inl ⟨h e (by omega), fun ⟨b, hb, _⟩ => absurd hb (Nat.not_lt_zero _), fun ⟨b, hb, _⟩ => absurd hb (Nat.not_lt_zero _)⟩
theorem pm_off {row row' : Nat → Int32} {e : Nat} (h : pmW H fr to le N tg E ho k z row) (he : e < E) (hr : row' e = row e) (hne : ¬ fr (ho k).toNatClampNeg = nI e) : eW (∃ i, i < k + 1 ∧ fr (ho i).toNatClampNeg = nI e ∧ rCan H fr to N tg (z - 1) (to (ho i).toNatClampNeg).toNatClampNeg) (∃ i, i < k + 1 ∧ fr (ho i).toNatClampNeg = nI e ∧ (rCab H fr to le N tg (z - 1) (to (ho i).toNatClampNeg).toNatClampNeg ∨ (0 < le (ho i).toNatClampNeg ∧ rCan H fr to N tg (z - 1) (to (ho i).toNatClampNeg).toNatClampNeg))) z (row' e) := by
  rw [hr]
  exact eW_iff (ex_skip (fun q => hne q.1)).symm (ex_skip (fun q => hne q.1)).symm (h e he)
theorem or_and {P Q R : Prop} (h : Q) : P ∨ R ↔ P ∨ (Q ∧ R) := or_congr Iff.rfl ⟨fun z => ⟨h, z⟩, fun z => z.2⟩
theorem pm_F {row prow : Nat → Int32} (hE : E ≤ 60) (hz : 1 ≤ z) (hz2 : z ≤ 60) (h : pmW H fr to le N tg E ho k z row) (hp : rwW H fr to le N tg E (z - 1) prow) (hf : vp_in (fr (ho k).toNatClampNeg) E) (ht : vp_in (to (ho k).toNatClampNeg) E) (hl : 0 ≤ (le (ho k).toNatClampNeg).toInt ∧ (le (ho k).toNatClampNeg).toInt ≤ 500) (c : kRb prow to le (ho k) ≤ row (fr (ho k).toNatClampNeg).toNatClampNeg) : pmW H fr to le N tg E ho (k + 1) z row := by
  intro e he
  have self : fr (ho k).toNatClampNeg = nI (fr (ho k).toNatClampNeg).toNatClampNeg := vp_self hf (by omega)
  by_cases q : e = (fr (ho k).toNatClampNeg).toNatClampNeg
  · have hr := kRb_W hp ht hl (by omega)
    rw [show z - 1 + 1 = z by omega] at hr
    rw [← q] at c self
    exact eW_iff ((or_and self).trans ex_more.symm) ((or_and self).trans ex_more.symm) (eW_F (h e he) hr c)
  · exact pm_off h he rfl (fun y => q (by rw [y, nI_clamp (by omega)]))
theorem pm_T {row prow : Nat → Int32} (hE : E ≤ 60) (hz : 1 ≤ z) (hz2 : z ≤ 60) (h : pmW H fr to le N tg E ho k z row) (hp : rwW H fr to le N tg E (z - 1) prow) (hf : vp_in (fr (ho k).toNatClampNeg) E) (ht : vp_in (to (ho k).toNatClampNeg) E) (hl : 0 ≤ (le (ho k).toNatClampNeg).toInt ∧ (le (ho k).toNatClampNeg).toInt ≤ 500) (c : ¬ kRb prow to le (ho k) ≤ row (fr (ho k).toNatClampNeg).toNatClampNeg) : pmW H fr to le N tg E ho (k + 1) z (upd row (fr (ho k).toNatClampNeg).toNatClampNeg (kRb prow to le (ho k))) := by
  intro e he
  have self : fr (ho k).toNatClampNeg = nI (fr (ho k).toNatClampNeg).toNatClampNeg := vp_self hf (by omega)
  by_cases q : e = (fr (ho k).toNatClampNeg).toNatClampNeg
  · have hr := kRb_W hp ht hl (by omega)
    rw [show z - 1 + 1 = z by omega] at hr
    rw [← q] at c self
    rw [← q, pk_us]
    exact eW_iff ((or_and self).trans ex_more.symm) ((or_and self).trans ex_more.symm) (eW_T (h e he) hr c)
  · exact pm_off h he (pk_un q) (fun y => q (by rw [y, nI_clamp (by omega)]))
theorem pm_end {row : Nat → Int32} (hN : N ≤ 100) (hz : 1 ≤ z) (gh : gHo H N g ho) (h : pmW H fr to le N tg E ho g z row) : rwW H fr to le N tg E z row := by
  intro e he
  obtain ⟨s, rfl⟩ : ∃ s, z = s + 1 := ⟨z - 1, by omega⟩
  refine eW_iff ?_ ?_ (h e he)
  · constructor
    · rintro ⟨i, hi, h1, h2⟩
      have b := gh_b gh hN hi
      exact ⟨_, b.1, b.2.1, h1, h2⟩
    · rintro ⟨b, hb, hH, h1, h2⟩
      obtain ⟨i, q1, q2⟩ := gh.2.2.1 b hb hH
      have e : (ho i).toNatClampNeg = b := by rw [q2]; exact nI_clamp (by omega)
      exact ⟨i, q1, by rw [e]; exact h1, by rw [e]; exact h2⟩
  · constructor
    · rintro ⟨i, hi, h1, h2⟩
      have b := gh_b gh hN hi
      exact ⟨_, b.1, b.2.1, h1, h2⟩
    · rintro ⟨b, hb, hH, h1, h2⟩
      obtain ⟨i, q1, q2⟩ := gh.2.2.1 b hb hH
      have e : (ho i).toNatClampNeg = b := by rw [q2]; exact nI_clamp (by omega)
      exact ⟨i, q1, by rw [e]; exact h1, by rw [e]; exact h2⟩
/-- the shortest so far, over the first k events -/
def shI (H : Nat → Prop) (fr to le : Nat → Int32) (N E k : Nat) (zz : Int32) (su : Nat → Int32) : Prop :=
  (zz = (-1) ∧ ∀ e, e < k → (su e = (-1) ∧ ∀ z, 1 ≤ z → z ≤ E → ¬ cyP H fr to le N z e)) ∨
  (∃ t, zz = nI t ∧ 1 ≤ t ∧ t ≤ E ∧ (∃ e, e < k ∧ cyP H fr to le N t e) ∧ ∀ e, e < k → ((∀ z, 1 ≤ z → z < t → ¬ cyP H fr to le N z e) ∧ (su e = (-1) ∨ ∃ q, su e = nI q ∧ t ≤ q ∧ q ≤ E) ∧ (su e = nI t ↔ cyP H fr to le N t e)))
variable {su : Nat → Int32} {zz : Int32}
theorem nI_ne {a b : Nat} (ha : a < 100) (hb : b < 100) (h : nI a = nI b) : a = b := by
  have e := congrArg Int32.toNatClampNeg h
  rw [nI_clamp (by omega), nI_clamp (by omega)] at e
  exact e
theorem nI_m1 {a : Nat} (ha : a < 100) : ¬ nI a = (-1) := by
  intro h
  have e : (nI a).toInt = (-1 : Int32).toInt := by rw [h]
  rw [nI_toInt (by omega)] at e
  have m1 : ((-1 : Int32)).toInt = -1 := rfl
  omega
theorem sh_0 {su : Nat → Int32} : shI H fr to le N E 0 (-1) su := Or.inl ⟨rfl, fun e he => absurd he (Nat.not_lt_zero _)⟩
/-- no ring at event k, first -/
theorem sh_n1 (hE : E ≤ 60) (h : shI H fr to le N E k (-1) su) (hn : ∀ z, 1 ≤ z → z ≤ E → ¬ cyP H fr to le N z k) : shI H fr to le N E (k + 1) (-1) (upd su k (-1)) := by
  rcases h with ⟨_, h⟩ | ⟨t, h, h1, h2, _⟩
  · refine Or.inl ⟨rfl, fun e he => ?_⟩
    by_cases q : e = k
    · rw [q, pk_us]; exact ⟨rfl, hn⟩
    · rw [pk_un q]; exact h e (by omega)
  · exact absurd h.symm (nI_m1 (by omega))
theorem sh_n2 {t : Nat} (hE : E ≤ 60) (h : shI H fr to le N E k (nI t) su) (ht : t ≤ E) (hn : ∀ z, 1 ≤ z → z ≤ t → ¬ cyP H fr to le N z k) : shI H fr to le N E (k + 1) (nI t) (upd su k (-1)) := by
  rcases h with ⟨h, _⟩ | ⟨t', h, h1, h2, ⟨e0, h3, h4⟩, h5⟩
  · exact absurd h (nI_m1 (by omega))
  · have e := nI_ne (by omega) (by omega) h
    subst e
    refine Or.inr ⟨t, rfl, h1, h2, ⟨e0, by omega, h4⟩, fun e he => ?_⟩
    by_cases q : e = k
    · rw [q, pk_us]
      exact ⟨fun z z1 z2 => hn z z1 (by omega), Or.inl rfl, ⟨fun y => absurd y.symm (nI_m1 (by omega)), fun y => absurd y (hn t h1 (Nat.le_refl _))⟩⟩
    · rw [pk_un q]; exact h5 e (by omega)
/-- a ring of v at event k, no longer than the shortest so far -/
theorem sh_y {v : Nat} (hE : E ≤ 60) (h : shI H fr to le N E k zz su) (hv1 : 1 ≤ v) (hv2 : v ≤ E) (hlg : zz = (-1) ∨ ∃ t, zz = nI t ∧ t ≤ E ∧ v ≤ t) (hc : cyP H fr to le N v k) (hn : ∀ z, 1 ≤ z → z < v → ¬ cyP H fr to le N z k) : shI H fr to le N E (k + 1) (nI v) (upd su k (nI v)) := by
  refine Or.inr ⟨v, rfl, hv1, hv2, ⟨k, by omega, hc⟩, fun e he => ?_⟩
  by_cases q : e = k
  · rw [q, pk_us]
    exact ⟨hn, Or.inr ⟨v, rfl, Nat.le_refl _, hv2⟩, ⟨fun _ => hc, fun _ => rfl⟩⟩
  · rw [pk_un q]
    rcases h with ⟨_, h⟩ | ⟨t, h, h1, h2, _, h5⟩
    · have h9 := h e (by omega)
      exact ⟨fun z z1 z2 => h9.2 z z1 (by omega), Or.inl h9.1, ⟨fun y => absurd (y.symm.trans h9.1) (nI_m1 (by omega)), fun y => absurd y (h9.2 v hv1 hv2)⟩⟩
    · have h9 := h5 e (by omega)
      have vt : v ≤ t := by
        rcases hlg with y | ⟨t', y, y1, y2⟩
        · exact absurd (h.symm.trans y) (nI_m1 (by omega))
        · have := nI_ne (by omega) (by omega) (h.symm.trans y); omega
      refine ⟨fun z z1 z2 => h9.1 z z1 (by omega), ?_, ?_⟩
      · rcases h9.2.1 with y | ⟨q, y1, y2, y3⟩
        · exact Or.inl y
        · exact Or.inr ⟨q, y1, by omega, y3⟩
      · by_cases y : v = t
        · rw [y]; exact h9.2.2
        · constructor
          · intro w
            rcases h9.2.1 with y0 | ⟨q, y1, y2, y3⟩
            · exact absurd (w.symm.trans y0) (nI_m1 (by omega))
            · have := nI_ne (by omega) (by omega) (w.symm.trans y1); omega
          · intro w
            exact absurd w (h9.1 v hv1 (by omega))
/-- the sum of the members so far -/
def smI (le mu : Nat → Int32) (k : Nat) (sm : Int32) : Prop := 0 ≤ sm.toInt ∧ sm.toInt ≤ 500 * (k : Int) ∧ (0 < sm ↔ poS le mu k)
theorem po_cong {mu mu' : Nat → Int32} {k : Nat} (h : ∀ j, j < k → mu j = mu' j) : poS le mu k ↔ poS le mu' k := by
  constructor
  · rintro ⟨j, hj, q⟩; exact ⟨j, hj, by rw [← h j hj]; exact q⟩
  · rintro ⟨j, hj, q⟩; exact ⟨j, hj, by rw [h j hj]; exact q⟩
theorem po_s {mu : Nat → Int32} {k : Nat} : poS le mu (k + 1) ↔ (poS le mu k ∨ 0 < le (mu k).toNatClampNeg) := by
  constructor
  · rintro ⟨j, hj, q⟩
    by_cases e : j = k
    · rw [e] at q; exact Or.inr q
    · exact Or.inl ⟨j, by omega, q⟩
  · rintro (⟨j, hj, q⟩ | q)
    · exact ⟨j, by omega, q⟩
    · exact ⟨k, by omega, q⟩
theorem sm_1 {x1 : Int32} {mu : Nat → Int32} (hl : 0 ≤ (le x1.toNatClampNeg).toInt ∧ (le x1.toNatClampNeg).toInt ≤ 500) (h0 : mu 0 = x1) : smI le mu 1 (le x1.toNatClampNeg) := by
  refine ⟨hl.1, by omega, ?_⟩
  constructor
  · intro q; exact ⟨0, by omega, by rw [h0]; exact q⟩
  · rintro ⟨j, hj, q⟩
    rw [show j = 0 by omega, h0] at q; exact q
theorem sm_s {sm y : Int32} {mu : Nat → Int32} {k : Nat} (h : smI le mu k sm) (hl : 0 ≤ (le y.toNatClampNeg).toInt ∧ (le y.toNatClampNeg).toInt ≤ 500) (hk : k ≤ 60) : smI le (upd mu k y) (k + 1) (sm + le y.toNatClampNeg) := by
  obtain ⟨h1, h2, h3⟩ := h
  have e : (sm + le y.toNatClampNeg).toInt = sm.toInt + (le y.toNatClampNeg).toInt := by
    rw [Int32.toInt_add]; exact Int.bmod_eq_of_le (by omega) (by omega)
  refine ⟨by rw [e]; omega, by rw [e]; omega, ?_⟩
  rw [po_s, pk_us, po_cong (mu := upd mu k y) (mu' := mu) (fun j hj => pk_un (by omega)), ← h3, i0_lt, i0_lt, i0_lt, e]
  omega
/-- what the next member must be -/
theorem nx_w {y x1 b1 : Int32} {o : Nat} {row : Nat → Int32} (h : rwW H fr to le N tg E o row) (hH : H y.toNatClampNeg) (ht : vp_in (to y.toNatClampNeg) E) (hl : 0 ≤ (le y.toNatClampNeg).toInt ∧ (le y.toNatClampNeg).toInt ≤ 500) (ho : o ≤ 60) (hb : 0 ≤ b1.toInt ∧ b1.toInt ≤ 30000) : (gOK H fr to le N tg o x1 (0 < b1) y.toNatClampNeg ↔ (fr y.toNatClampNeg = x1 ∧ ¬ kRb row to le y = (-1) ∧ 0 < b1 + kRb row to le y)) := by
  have w := kRb_W h ht hl ho
  have vc := cab_can (H := H) (fr := fr) (to := to) (le := le) (N := N) (tg := tg) o (to y.toNatClampNeg).toNatClampNeg
  unfold gOK
  by_cases e : kRb row to le y = (-1)
  · have n := eW_none w e
    constructor
    · rintro ⟨_, _, q | q⟩
      · exact absurd (vc q) n.1
      · exact absurd q.2 n.1
    · rintro ⟨_, q, _⟩; exact absurd e q
  · obtain ⟨s1, s2, s3, s4⟩ := eW_some w e
    have ea : (b1 + kRb row to le y).toInt = b1.toInt + (kRb row to le y).toInt := by
      rw [Int32.toInt_add]; exact Int.bmod_eq_of_le (by omega) (by omega)
    rw [i0_lt (x := b1 + kRb row to le y), ea, i0_lt (x := b1)]
    constructor
    · rintro ⟨_, q1, q⟩
      refine ⟨q1, e, ?_⟩
      rcases q with q | ⟨q | q, _⟩
      · have := s4.mpr (Or.inl q); omega
      · omega
      · have := s4.mpr (Or.inr ⟨q, s3⟩); omega
    · rintro ⟨q1, _, q2⟩
      refine ⟨hH, q1, ?_⟩
      by_cases q : 0 < b1.toInt
      · exact Or.inr ⟨Or.inl q, s3⟩
      · rcases s4.mp (by omega) with v | v
        · exact Or.inl v
        · exact Or.inr ⟨Or.inr v.1, s3⟩
/-- it can be closed from here by n more -/
def rdI (H : Nat → Prop) (fr to le : Nat → Int32) (N : Nat) (tg : Int32) (n : Nat) (x : Int32) (po : Prop) : Prop := rCab H fr to le N tg n x.toNatClampNeg ∨ (po ∧ rCan H fr to N tg n x.toNatClampNeg)
theorem rd_next {n : Nat} {x : Int32} {po : Prop} (hE : E ≤ 60) (hx : vp_in x E) (h : rdI H fr to le N tg (n + 1) x po) : ∃ b, b < N ∧ gOK H fr to le N tg n x po b := by
  have e := vp_self hx (by omega)
  rcases h with ⟨b, hb, hf, he, h1 | h1⟩ | ⟨ha, b, hb, hf, he, h1⟩
  · exact ⟨b, hb, hf, he.trans e.symm, Or.inl h1⟩
  · exact ⟨b, hb, hf, he.trans e.symm, Or.inr ⟨Or.inr h1.1, h1.2⟩⟩
  · exact ⟨b, hb, hf, he.trans e.symm, Or.inr ⟨Or.inl ha, h1⟩⟩
theorem rd_go {n b : Nat} {x : Int32} {po po' : Prop} (h : gOK H fr to le N tg n x po b) (hp : po' ↔ (po ∨ 0 < le b)) : rdI H fr to le N tg n (to b) po' := h.2.2.elim Or.inl (fun q => Or.inr ⟨hp.mpr q.1, q.2⟩)
theorem rd_cl {a z : Nat} {po : Prop} (h : clP H fr to le N a z) (hp : po ↔ 0 < le a) : rdI H fr to le N (fr a) z (to a) po := h.elim Or.inl (fun q => Or.inr ⟨hp.mpr q.1, q.2⟩)
theorem gOK_po {n b : Nat} {x : Int32} {po po' : Prop} (h : po ↔ po') : gOK H fr to le N tg n x po b ↔ gOK H fr to le N tg n x po' b := by rw [propext h]
theorem grd_u {n j k : Nat} {mu : Nat → Int32} {y : Int32} (hj : j < k) (h : grd H fr to le N tg n mu j) : grd H fr to le N tg n (upd mu k y) j := by
  obtain ⟨b, h1, h2, h3, h4⟩ := h
  have e1 : upd mu k y j = mu j := pk_un (by omega)
  have e2 : upd mu k y (j - 1) = mu (j - 1) := pk_un (by omega)
  have e3 : poS le (upd mu k y) j = poS le mu j := propext (po_cong (fun i hi => pk_un (by omega)))
  unfold grd
  rw [e1, e2, e3]
  exact ⟨b, h1, h2, h3, h4⟩
theorem grd_n {n k : Nat} {mu : Nat → Int32} {b : Nat} {po : Prop} (hk : 1 ≤ k) (hb : b < N) (hpo : po ↔ poS le mu k) (h : gOK H fr to le N tg (n - 1 - k) (to (mu (k - 1)).toNatClampNeg) po b) (hl : ∀ c, c < b → ¬ gOK H fr to le N tg (n - 1 - k) (to (mu (k - 1)).toNatClampNeg) po c) : grd H fr to le N tg n (upd mu k (nI b)) k := by
  have e2 : upd mu k (nI b) (k - 1) = mu (k - 1) := pk_un (by omega)
  have e3 : poS le (upd mu k (nI b)) k = poS le mu k := propext (po_cong (fun i hi => pk_un (by omega)))
  unfold grd
  rw [e2, e3, ← propext hpo]
  exact ⟨b, hb, pk_us, h, hl⟩
theorem grd_all {n k : Nat} {mu : Nat → Int32} {y : Int32} (h : ∀ j, 1 ≤ j → j < k → grd H fr to le N tg n mu j) (hk : grd H fr to le N tg n (upd mu k y) k) : ∀ j, 1 ≤ j → j < k + 1 → grd H fr to le N tg n (upd mu k y) j := by
  intro j h1 h2
  by_cases e : j = k
  · rw [e]; exact hk
  · exact grd_u (by omega) (h j h1 (by omega))
/-- those that hold -/
def hH (N : Nat) (tb : Nat → Bool) (ke fr to : Nat → Int32) : Nat → Prop := fun b => b < N ∧ hdB tb ke fr to b = true
theorem hH_same {tb tb' : Nat → Bool} {ke : Nat → Int32} (hf : ∀ a, a < N → (fr a).toNatClampNeg < E) (ht : ∀ a, a < N → (to a).toNatClampNeg < E) (hb : ∀ e, e < E → tb e = tb' e) : hH N tb ke fr to = hH N tb' ke fr to := by
  funext a
  apply propext
  unfold hH
  constructor
  · rintro ⟨h1, h2⟩; exact ⟨h1, by rw [← hdB_cong hf ht hb a h1]; exact h2⟩
  · rintro ⟨h1, h2⟩; exact ⟨h1, by rw [hdB_cong hf ht hb a h1]; exact h2⟩
/-- where the shortest is t there is an activity that closes by t - 1 more -/
theorem cy_cl {t e : Nat} (h1 : 1 ≤ t) (h : cyP H fr to le N t e) : ∃ b, b < N ∧ H b ∧ clP H fr to le N b (t - 1) := by
  obtain ⟨s, rfl⟩ : ∃ s, t = s + 1 := ⟨t - 1, by omega⟩
  obtain ⟨b, hb, hH, he, h2⟩ := h
  refine ⟨b, hb, hH, ?_⟩
  unfold clP
  rw [he]
  exact h2
/-- what both desks answer of the ring -/
def rAns (E N : Nat) (H : Nat → Prop) (fr to le : Nat → Int32) (S : Bool) (x r : Int32) : Prop := (S = true ∧ r = (-1)) ∨ (S = false ∧ ∃ n me, n ≤ 60 ∧ RgI E N H fr to le n me ∧ ((vp_in x n ∧ r = me x.toNatClampNeg) ∨ (¬ vp_in x n ∧ r = (-1))))
end RH

