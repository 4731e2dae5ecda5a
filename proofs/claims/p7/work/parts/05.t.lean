/-! raising a row to the least minutes that obey all that holds -/
section LFP
def iup (r : Nat → Int) (k : Nat) (v : Int) : Nat → Int := fun e => if e = k then v else r e
theorem iup_s {r : Nat → Int} {k : Nat} {v : Int} : iup r k v k = v := if_pos rfl
theorem iup_n {r : Nat → Int} {k e : Nat} {v : Int} (q : ¬ e = k) : iup r k v e = r e := if_neg q
/-- one activity -/
def rs1 (f t : Nat → Nat) (l : Nat → Int) (h : Nat → Bool) (r : Nat → Int) (a : Nat) : Nat → Int :=
  if h a = true ∧ r (t a) < r (f a) + l a then iup r (t a) (r (f a) + l a) else r
/-- the activities below n, one after the other -/
def rsN (f t : Nat → Nat) (l : Nat → Int) (h : Nat → Bool) : Nat → (Nat → Int) → (Nat → Int)
  | 0, r => r
  | n + 1, r => rs1 f t l h (rsN f t l h n r) n
/-- whether one of the activities below n moves the row -/
def rsM (f t : Nat → Nat) (l : Nat → Int) (h : Nat → Bool) : Nat → (Nat → Int) → Bool
  | 0, _ => false
  | n + 1, r => rsM f t l h n r || (h n && decide (rsN f t l h n r (t n) < rsN f t l h n r (f n) + l n))
def rsSol (n : Nat) (f t : Nat → Nat) (l : Nat → Int) (h : Nat → Bool) (F : Nat → Int) : Prop := ∀ a, a < n → h a = true → F (f a) + l a ≤ F (t a)
def rsLe (E : Nat) (r F : Nat → Int) : Prop := ∀ e, e < E → r e ≤ F e
variable {f t : Nat → Nat} {l : Nat → Int} {h : Nat → Bool} {E : Nat}
theorem rs1_up (r : Nat → Int) (a : Nat) : ∀ e, r e ≤ rs1 f t l h r a e := by
  intro e
  unfold rs1
  split
  · rename_i q
    by_cases x : e = t a
    · rw [x, iup_s]; omega
    · rw [iup_n x]; omega
  · omega
theorem rsN_up (r : Nat → Int) : ∀ n e, r e ≤ rsN f t l h n r e := by
  intro n
  induction n with
  | zero => intro e; exact Int.le_refl _
  | succ n ih => intro e; exact Int.le_trans (ih e) (rs1_up _ n e)
theorem rs1_le {r F : Nat → Int} {a n : Nat} (ha : a < n) (hf : f a < E) (hS : rsSol n f t l h F) (hr : rsLe E r F) : rsLe E (rs1 f t l h r a) F := by
  intro e he
  unfold rs1
  split
  · rename_i q
    by_cases x : e = t a
    · rw [x, iup_s]
      have a1 := hS a ha q.1
      have a2 := hr (f a) hf
      omega
    · rw [iup_n x]; exact hr e he
  · exact hr e he
theorem rsN_le {r F : Nat → Int} {N : Nat} (hf : ∀ a, a < N → f a < E) (hS : rsSol N f t l h F) (hr : rsLe E r F) : ∀ n, n ≤ N → rsLe E (rsN f t l h n r) F := by
  intro n
  induction n with
  | zero => intro _; exact hr
  | succ n ih => intro hn; exact rs1_le (by omega) (hf n (by omega)) hS (ih (by omega))
theorem rsM_no {r : Nat → Int} : ∀ n, rsM f t l h n r = false → rsN f t l h n r = r ∧ rsSol n f t l h r := by
  intro n
  induction n with
  | zero => intro _; exact ⟨rfl, fun a ha => absurd ha (Nat.not_lt_zero _)⟩
  | succ n ih =>
    intro hm
    rw [rsM, Bool.or_eq_false_iff] at hm
    obtain ⟨m1, m2⟩ := hm
    obtain ⟨e1, s1⟩ := ih m1
    rw [e1] at m2
    have q : ¬ (h n = true ∧ r (t n) < r (f n) + l n) := by
      intro ⟨x, y⟩
      rw [x, decide_eq_true y] at m2
      exact absurd m2 (by decide)
    refine ⟨?_, fun a ha hh => ?_⟩
    · show rs1 f t l h (rsN f t l h n r) n = r
      rw [e1]; unfold rs1; rw [if_neg q]
    · rcases Nat.lt_or_ge a n with x | x
      · exact s1 a x hh
      · have : a = n := by omega
        subst this
        exact Int.not_lt.mp (fun y => q ⟨hh, y⟩)
theorem rsM_sol {r : Nat → Int} : ∀ n, rsSol n f t l h r → rsM f t l h n r = false ∧ rsN f t l h n r = r := by
  intro n
  induction n with
  | zero => intro _; exact ⟨rfl, rfl⟩
  | succ n ih =>
    intro hs
    obtain ⟨m1, e1⟩ := ih (fun a ha => hs a (by omega))
    have q : ¬ (h n = true ∧ r (t n) < r (f n) + l n) := fun x => absurd (hs n (by omega) x.1) (by omega)
    refine ⟨?_, ?_⟩
    · rw [rsM, m1, e1]
      by_cases x : h n = true
      · rw [x, decide_eq_false (fun y => q ⟨x, y⟩)]; rfl
      · rw [Bool.not_eq_true] at x; rw [x]; rfl
    · show rs1 f t l h (rsN f t l h n r) n = r
      rw [e1]; unfold rs1; rw [if_neg q]
/-- how many of the first n events stand where F has them -/
def rsC (F r : Nat → Int) : Nat → Nat
  | 0 => 0
  | n + 1 => rsC F r n + (if r n = F n then 1 else 0)
theorem rsC_le (F r : Nat → Int) : ∀ n, rsC F r n ≤ n := by
  intro n
  induction n with
  | zero => exact Nat.le_refl _
  | succ n ih => rw [rsC]; split <;> omega
theorem rsC_mono {F r q : Nat → Int} : ∀ n, (∀ e, e < n → r e = F e → q e = F e) → rsC F r n ≤ rsC F q n := by
  intro n
  induction n with
  | zero => intro _; exact Nat.le_refl _
  | succ n ih =>
    intro hh
    have a1 := ih (fun e he => hh e (by omega))
    rw [rsC, rsC]
    by_cases x : r n = F n
    · rw [if_pos x, if_pos (hh n (by omega) x)]; omega
    · rw [if_neg x]; omega
theorem rsC_lt {F r q : Nat → Int} {k : Nat} : ∀ n, (∀ e, e < n → r e = F e → q e = F e) → k < n → ¬ r k = F k → q k = F k → rsC F r n < rsC F q n := by
  intro n
  induction n with
  | zero => intro _ hk; exact absurd hk (Nat.not_lt_zero _)
  | succ n ih =>
    intro hh hk h1 h2
    rw [rsC, rsC]
    by_cases x : k = n
    · subst x
      rw [if_neg h1, if_pos h2]
      have := rsC_mono k (fun e he => hh e (by omega))
      omega
    · have a1 := ih (fun e he => hh e (by omega)) (by omega) h1 h2
      by_cases y : r n = F n
      · rw [if_pos y, if_pos (hh n (by omega) y)]; omega
      · rw [if_neg y]; omega
theorem rsC_all {F r : Nat → Int} : ∀ n, n ≤ rsC F r n → ∀ e, e < n → r e = F e := by
  intro n
  induction n with
  | zero => intro _ e he; exact absurd he (Nat.not_lt_zero _)
  | succ n ih =>
    intro hn e he
    rw [rsC] at hn
    have a1 := rsC_le F r n
    by_cases x : r n = F n
    · rw [if_pos x] at hn
      by_cases y : e = n
      · rw [y]; exact x
      · exact ih (by omega) e (by omega)
    · rw [if_neg x] at hn; omega
def rsS (F : Nat → Int) : Nat → Int
  | 0 => 0
  | n + 1 => rsS F n + F n
theorem rsS_le {F G : Nat → Int} : ∀ n, (∀ e, e < n → F e ≤ G e) → rsS F n ≤ rsS G n := by
  intro n
  induction n with
  | zero => intro _; exact Int.le_refl _
  | succ n ih => intro hh; have a1 := ih (fun e he => hh e (by omega)); have a2 := hh n (by omega); rw [rsS, rsS]; omega
theorem rsS_lt {F G : Nat → Int} {k : Nat} : ∀ n, (∀ e, e < n → F e ≤ G e) → k < n → F k < G k → rsS F n < rsS G n := by
  intro n
  induction n with
  | zero => intro _ hk; exact absurd hk (Nat.not_lt_zero _)
  | succ n ih =>
    intro hh hk hlt
    have a2 := hh n (by omega)
    rw [rsS, rsS]
    by_cases x : k = n
    · subst x; have := rsS_le k (fun e he => hh e (by omega)); omega
    · have := ih (fun e he => hh e (by omega)) (by omega) hlt; omega
/-- of the solutions above a row, one of the least sum -/
theorem rs_least {n : Nat} {b F : Nat → Int} (hS : rsSol n f t l h F) (hb : rsLe E b F) : ∃ L, rsSol n f t l h L ∧ rsLe E b L ∧ ∀ G, rsSol n f t l h G → rsLe E b G → rsS L E ≤ rsS G E := by
  have key : ∀ (k : Nat) (F : Nat → Int), rsSol n f t l h F → rsLe E b F → (rsS F E - rsS b E).toNat ≤ k → ∃ L, rsSol n f t l h L ∧ rsLe E b L ∧ ∀ G, rsSol n f t l h G → rsLe E b G → rsS L E ≤ rsS G E := by
    intro k
    induction k with
    | zero =>
      intro F h1 h2 h3
      refine ⟨F, h1, h2, fun G g1 g2 => ?_⟩
      have a1 := rsS_le E h2
      have a2 := rsS_le E g2
      omega
    | succ k ih =>
      intro F h1 h2 h3
      by_cases x : ∀ G, rsSol n f t l h G → rsLe E b G → rsS F E ≤ rsS G E
      · exact ⟨F, h1, h2, x⟩
      · have y : ∃ G, rsSol n f t l h G ∧ rsLe E b G ∧ rsS G E < rsS F E := by
          apply Classical.byContradiction
          intro z
          exact x (fun G g1 g2 => Int.not_lt.mp (fun w => z ⟨G, g1, g2, w⟩))
        obtain ⟨G, g1, g2, g3⟩ := y
        have a2 := rsS_le E g2
        exact ih G g1 g2 (by omega)
  exact key _ F hS hb (Nat.le_refl _)
/-- a row below a least solution, not all there: some activity that is tight leads from an event that is there to one that isn't -/
theorem rs_tight {n : Nat} {b r L : Nat → Int} (hS : rsSol n f t l h L) (hmin : ∀ G, rsSol n f t l h G → rsLe E b G → rsS L E ≤ rsS G E) (hb : rsLe E b r) (hr : rsLe E r L) {k : Nat} (hk : k < E) (hne : ¬ r k = L k) :
    ∃ a, a < n ∧ h a = true ∧ r (f a) = L (f a) ∧ ¬ r (t a) = L (t a) ∧ L (t a) = L (f a) + l a := by
  apply Classical.byContradiction
  intro hno
  have g1 : rsSol n f t l h (fun e => if r e = L e then L e else L e - 1) := by
    intro a ha hh
    have a1 := hS a ha hh
    show (if r (f a) = L (f a) then L (f a) else L (f a) - 1) + l a ≤ (if r (t a) = L (t a) then L (t a) else L (t a) - 1)
    by_cases x : r (f a) = L (f a)
    · by_cases y : r (t a) = L (t a)
      · rw [if_pos x, if_pos y]; exact a1
      · rw [if_pos x, if_neg y]
        by_cases z : L (t a) = L (f a) + l a
        · exact absurd ⟨a, ha, hh, x, y, z⟩ hno
        · omega
    · by_cases y : r (t a) = L (t a)
      · rw [if_neg x, if_pos y]; omega
      · rw [if_neg x, if_neg y]; omega
  have g2 : rsLe E b (fun e => if r e = L e then L e else L e - 1) := by
    intro e he
    have a1 := hb e he
    have a2 := hr e he
    show b e ≤ (if r e = L e then L e else L e - 1)
    by_cases x : r e = L e
    · rw [if_pos x]; omega
    · rw [if_neg x]; omega
  have g3 := hmin _ g1 g2
  have g4 : rsS (fun e => if r e = L e then L e else L e - 1) E < rsS L E := by
    refine rsS_lt (k := k) E (fun e he => ?_) hk ?_
    · show (if r e = L e then L e else L e - 1) ≤ L e
      split <;> omega
    · show (if r k = L k then L k else L k - 1) < L k
      rw [if_neg hne]; omega
  omega
theorem rsN_tight {n : Nat} {r L : Nat → Int} (hS : rsSol n f t l h L) (hft : ∀ a, a < n → f a < E ∧ t a < E) (hr : rsLe E r L) {a : Nat} (ha : a < n) (hh : h a = true) (h1 : r (f a) = L (f a)) (h2 : L (t a) = L (f a) + l a) : rsN f t l h n r (t a) = L (t a) := by
  have up : ∀ m, m ≤ n → rsLe E (rsN f t l h m r) L := rsN_le (fun a ha => (hft a ha).1) hS hr
  have st : L (t a) ≤ rsN f t l h (a + 1) r (t a) := by
    show L (t a) ≤ rs1 f t l h (rsN f t l h a r) a (t a)
    have x1 := rsN_up (f := f) (t := t) (l := l) (h := h) r a (f a)
    have x2 := up a (by omega) (f a) (hft a ha).1
    unfold rs1
    by_cases q : h a = true ∧ rsN f t l h a r (t a) < rsN f t l h a r (f a) + l a
    · rw [if_pos q, iup_s]; omega
    · rw [if_neg q]
      have : ¬ rsN f t l h a r (t a) < rsN f t l h a r (f a) + l a := fun z => q ⟨hh, z⟩
      omega
  have mono : ∀ m, a + 1 ≤ m → rsN f t l h (a + 1) r (t a) ≤ rsN f t l h m r (t a) := by
    intro m
    induction m with
    | zero => intro h; omega
    | succ m ih =>
      intro hm
      by_cases x : a + 1 = m + 1
      · rw [x]; exact Int.le_refl _
      · exact Int.le_trans (ih (by omega)) (rs1_up _ m _)
  have e1 := mono n (by omega)
  have e2 := up n (Nat.le_refl _) (t a) (hft a ha).2
  omega
/-- the rounds of settle: k rounds at most -/
def rsT (f t : Nat → Nat) (l : Nat → Int) (h : Nat → Bool) (n : Nat) : Nat → (Nat → Int) → Bool × (Nat → Int)
  | 0, r => (false, r)
  | k + 1, r => if rsM f t l h n r = true then rsT f t l h n k (rsN f t l h n r) else (true, r)
theorem rsT_true {n : Nat} : ∀ k r, (rsT f t l h n k r).1 = true → rsSol n f t l h (rsT f t l h n k r).2 ∧ ∀ e, r e ≤ (rsT f t l h n k r).2 e := by
  intro k
  induction k with
  | zero => intro r q; exact absurd q Bool.false_ne_true
  | succ k ih =>
    intro r q
    rw [rsT] at q ⊢
    by_cases x : rsM f t l h n r = true
    · rw [if_pos x] at q ⊢
      have := ih _ q
      exact ⟨this.1, fun e => Int.le_trans (rsN_up r n e) (this.2 e)⟩
    · rw [if_neg x]
      rw [Bool.not_eq_true] at x
      exact ⟨(rsM_no n x).2, fun e => Int.le_refl _⟩
theorem rsT_le {n : Nat} {F : Nat → Int} (hf : ∀ a, a < n → f a < E) (hS : rsSol n f t l h F) : ∀ k r, rsLe E r F → rsLe E (rsT f t l h n k r).2 F := by
  intro k
  induction k with
  | zero => intro r q; exact q
  | succ k ih =>
    intro r q
    rw [rsT]
    by_cases x : rsM f t l h n r = true
    · rw [if_pos x]; exact ih _ (rsN_le hf hS q n (Nat.le_refl _))
    · rw [if_neg x]; exact q
theorem rsT_ends {n : Nat} {b L : Nat → Int} (hS : rsSol n f t l h L) (hmin : ∀ G, rsSol n f t l h G → rsLe E b G → rsS L E ≤ rsS G E) (hft : ∀ a, a < n → f a < E ∧ t a < E) : ∀ (k j : Nat) (r : Nat → Int), rsLe E b r → rsLe E r L → (∃ e, e < E ∧ ¬ r e = L e) → j ≤ rsC L r E → E < k + j → (rsT f t l h n k r).1 = true := by
  intro k
  induction k with
  | zero =>
    intro j r hb hr _ hj hk
    have := rsC_le L r E
    omega
  | succ k ih =>
    intro j r hb hr hne hj hk
    rw [rsT]
    by_cases x : rsM f t l h n r = true
    · rw [if_pos x]
      obtain ⟨k0, hk0, hn0⟩ := hne
      obtain ⟨a, ha, hh, h1, h2, h3⟩ := rs_tight hS hmin hb hr hk0 hn0
      have e1 := rsN_tight hS hft hr ha hh h1 h3
      have up := rsN_le (fun a ha => (hft a ha).1) hS hr n (Nat.le_refl _)
      have keep : ∀ e, e < E → r e = L e → rsN f t l h n r e = L e := by
        intro e he q
        have z1 := rsN_up (f := f) (t := t) (l := l) (h := h) r n e
        have z2 := up e he
        omega
      have c1 := rsC_lt (k := t a) E keep (hft a ha).2 h2 e1
      have hb' : rsLe E b (rsN f t l h n r) := fun e he => Int.le_trans (hb e he) (rsN_up r n e)
      by_cases y : ∃ e, e < E ∧ ¬ rsN f t l h n r e = L e
      · exact ih (j + 1) _ hb' up y (by omega) (by omega)
      · -- all there: the next round moves nothing
        have all : ∀ e, e < E → rsN f t l h n r e = L e := fun e he => Classical.byContradiction (fun z => y ⟨e, he, z⟩)
        have so : rsSol n f t l h (rsN f t l h n r) := by
          intro a ha hh
          rw [all _ (hft a ha).1, all _ (hft a ha).2]
          exact hS a ha hh
        have lt : rsC L (rsN f t l h n r) E ≤ E := rsC_le _ _ _
        have kpos : 0 < k := by
          have := rsC_le L r E
          omega
        obtain ⟨k', rfl⟩ : ∃ k', k = k' + 1 := ⟨k - 1, by omega⟩
        rw [rsT, (rsM_sol n so).1]; rfl
    · rw [if_neg x]
/-- settle, from any row between the base and all solutions above it -/
theorem rs_settle {n : Nat} {b r : Nat → Int} (hft : ∀ a, a < n → f a < E ∧ t a < E) (hb : rsLe E b r) (hr : ∀ F, rsSol n f t l h F → rsLe E b F → rsLe E r F) :
    ((rsT f t l h n (E + 1) r).1 = true ↔ ∃ F, rsSol n f t l h F ∧ rsLe E b F) ∧ ((rsT f t l h n (E + 1) r).1 = true → rsSol n f t l h (rsT f t l h n (E + 1) r).2 ∧ rsLe E b (rsT f t l h n (E + 1) r).2 ∧ ∀ F, rsSol n f t l h F → rsLe E b F → rsLe E (rsT f t l h n (E + 1) r).2 F) := by
  refine ⟨⟨fun q => ?_, fun ⟨F, h1, h2⟩ => ?_⟩, fun q => ?_⟩
  · have := rsT_true _ _ q
    exact ⟨_, this.1, fun e he => Int.le_trans (hb e he) (this.2 e)⟩
  · obtain ⟨L, l1, l2, l3⟩ := rs_least h1 h2
    have hrL := hr L l1 l2
    by_cases y : ∃ e, e < E ∧ ¬ r e = L e
    · exact rsT_ends l1 l3 hft (E + 1) 0 r hb hrL y (Nat.zero_le _) (by omega)
    · have all : ∀ e, e < E → r e = L e := fun e he => Classical.byContradiction (fun z => y ⟨e, he, z⟩)
      have so : rsSol n f t l h r := by
        intro a ha hh
        rw [all _ (hft a ha).1, all _ (hft a ha).2]
        exact l1 a ha hh
      rw [rsT, (rsM_sol n so).1]; rfl
  · have := rsT_true _ _ q
    exact ⟨this.1, fun e he => Int.le_trans (hb e he) (this.2 e), fun F g1 g2 => rsT_le (fun a ha => (hft a ha).1) g1 _ _ (hr F g1 g2)⟩
end LFP
/-! the same on rows of ints, as the programs do it -/
section KR
def kr1 (fr to le : Nat → Int32) (h : Nat → Bool) (r : Nat → Int32) (a : Nat) : Nat → Int32 :=
  if h a = true ∧ ¬ (r (fr a).toNatClampNeg + le a ≤ r (to a).toNatClampNeg) then upd r (to a).toNatClampNeg (r (fr a).toNatClampNeg + le a) else r
def krN (fr to le : Nat → Int32) (h : Nat → Bool) : Nat → (Nat → Int32) → (Nat → Int32)
  | 0, r => r
  | n + 1, r => kr1 fr to le h (krN fr to le h n r) n
def krM (fr to le : Nat → Int32) (h : Nat → Bool) : Nat → (Nat → Int32) → Bool
  | 0, _ => false
  | n + 1, r => krM fr to le h n r || (h n && decide (¬ (krN fr to le h n r (fr n).toNatClampNeg + le n ≤ krN fr to le h n r (to n).toNatClampNeg)))
def krT (fr to le : Nat → Int32) (h : Nat → Bool) (n : Nat) : Nat → (Nat → Int32) → Bool × (Nat → Int32)
  | 0, r => (false, r)
  | k + 1, r => if krM fr to le h n r = true then krT fr to le h n k (krN fr to le h n r) else (true, r)
def toI (r : Nat → Int32) : Nat → Int := fun e => (r e).toInt
def krB (E : Nat) (B : Int) (r : Nat → Int32) : Prop := ∀ e, e < E → 0 ≤ (r e).toInt ∧ (r e).toInt ≤ B
def agr (E : Nat) (r q : Nat → Int32) : Prop := ∀ e, e < E → r e = q e
theorem add_I {x y : Int32} (h1 : 0 ≤ x.toInt) (h2 : 0 ≤ y.toInt) (h3 : x.toInt + y.toInt < 2147483648) : (x + y).toInt = x.toInt + y.toInt := by
  rw [Int32.toInt_add]
  exact Int.bmod_eq_of_le (by omega) (by omega)
variable {fr to le : Nat → Int32} {h g : Nat → Bool} {E : Nat}
theorem toI_upd {r : Nat → Int32} {k : Nat} {v : Int32} : toI (upd r k v) = iup (toI r) k v.toInt := by
  funext e
  by_cases x : e = k
  · subst x; show (upd r e v e).toInt = _; rw [pk_us, iup_s]
  · show (upd r k v e).toInt = _; rw [pk_un x, iup_n x]; rfl
theorem krB_upd {r : Nat → Int32} {k : Nat} {v : Int32} {B C : Int} (hr : krB E B r) (hBC : B ≤ C) (h0 : 0 ≤ v.toInt) (h1 : v.toInt ≤ C) : krB E C (upd r k v) := by
  intro e he
  by_cases x : e = k
  · subst x; rw [pk_us]; exact ⟨h0, h1⟩
  · rw [pk_un x]; have := hr e he; omega
theorem kr1_I {r : Nat → Int32} {a : Nat} {B : Int} (hf : (fr a).toNatClampNeg < E) (hl : 0 ≤ (le a).toInt ∧ (le a).toInt ≤ 500) (hr : krB E B r) (hb : B + 500 < 2147483648) :
    toI (kr1 fr to le h r a) = rs1 (fun a => (fr a).toNatClampNeg) (fun a => (to a).toNatClampNeg) (fun a => (le a).toInt) h (toI r) a ∧ krB E (B + 500) (kr1 fr to le h r a) ∧ ((¬ (r (fr a).toNatClampNeg + le a ≤ r (to a).toNatClampNeg)) ↔ toI r (to a).toNatClampNeg < toI r (fr a).toNatClampNeg + (le a).toInt) := by
  have b1 := hr _ hf
  have e1 : (r (fr a).toNatClampNeg + le a).toInt = (r (fr a).toNatClampNeg).toInt + (le a).toInt := add_I b1.1 hl.1 (by omega)
  have c1 : (¬ (r (fr a).toNatClampNeg + le a ≤ r (to a).toNatClampNeg)) ↔ toI r (to a).toNatClampNeg < toI r (fr a).toNatClampNeg + (le a).toInt := by
    rw [Int32.le_iff_toInt_le, e1, Int.not_le]; exact Iff.rfl
  refine ⟨?_, ?_, c1⟩
  · unfold kr1 rs1
    by_cases q : h a = true ∧ ¬ (r (fr a).toNatClampNeg + le a ≤ r (to a).toNatClampNeg)
    · rw [if_pos q, if_pos ⟨q.1, c1.mp q.2⟩, toI_upd, e1]; rfl
    · rw [if_neg q, if_neg (fun z => q ⟨z.1, c1.mpr z.2⟩)]
  · unfold kr1
    by_cases q : h a = true ∧ ¬ (r (fr a).toNatClampNeg + le a ≤ r (to a).toNatClampNeg)
    · rw [if_pos q]; exact krB_upd hr (by omega) (by omega) (by omega)
    · rw [if_neg q]; intro e he; have := hr e he; omega
theorem krN_I {r : Nat → Int32} {N : Nat} {B : Int} (hf : ∀ a, a < N → (fr a).toNatClampNeg < E) (hl : ∀ a, a < N → 0 ≤ (le a).toInt ∧ (le a).toInt ≤ 500) (hr : krB E B r) : ∀ n : Nat, n ≤ N → B + 500 * (n : Int) < 2147483648 →
    toI (krN fr to le h n r) = rsN (fun a => (fr a).toNatClampNeg) (fun a => (to a).toNatClampNeg) (fun a => (le a).toInt) h n (toI r) ∧ krB E (B + 500 * (n : Int)) (krN fr to le h n r) ∧ krM fr to le h n r = rsM (fun a => (fr a).toNatClampNeg) (fun a => (to a).toNatClampNeg) (fun a => (le a).toInt) h n (toI r) := by
  intro n
  induction n with
  | zero => intro _ _; exact ⟨rfl, by intro e he; have := hr e he; show 0 ≤ (r e).toInt ∧ (r e).toInt ≤ _; omega, rfl⟩
  | succ n ih =>
    intro hn hb
    obtain ⟨i1, i2, i3⟩ := ih (by omega) (by omega)
    obtain ⟨k1, k2, k3⟩ := kr1_I (h := h) (to := to) (a := n) (hf n (by omega)) (hl n (by omega)) i2 (by omega)
    refine ⟨?_, ?_, ?_⟩
    · show toI (kr1 fr to le h (krN fr to le h n r) n) = rs1 _ _ _ h (rsN _ _ _ h n (toI r)) n
      rw [k1, i1]
    · show krB E _ (kr1 fr to le h (krN fr to le h n r) n)
      intro e he; have := k2 e he; omega
    · rw [krM, rsM, i3, ← i1, decide_eq_decide.mpr k3]
theorem krT_I {N : Nat} (hN : N ≤ 100) (hf : ∀ a, a < N → (fr a).toNatClampNeg < E) (hl : ∀ a, a < N → 0 ≤ (le a).toInt ∧ (le a).toInt ≤ 500) : ∀ (k : Nat) (r : Nat → Int32) (B : Int), krB E B r → B + 50000 * (k : Int) < 2147483648 →
    (krT fr to le h N k r).1 = (rsT (fun a => (fr a).toNatClampNeg) (fun a => (to a).toNatClampNeg) (fun a => (le a).toInt) h N k (toI r)).1 ∧ toI (krT fr to le h N k r).2 = (rsT (fun a => (fr a).toNatClampNeg) (fun a => (to a).toNatClampNeg) (fun a => (le a).toInt) h N k (toI r)).2 ∧ krB E (B + 50000 * (k : Int)) (krT fr to le h N k r).2 := by
  intro k
  induction k with
  | zero => intro r B hr _; exact ⟨rfl, rfl, by intro e he; have := hr e he; show 0 ≤ (r e).toInt ∧ (r e).toInt ≤ _; omega⟩
  | succ k ih =>
    intro r B hr hb
    obtain ⟨n1, n2, n3⟩ := krN_I (h := h) (to := to) hf hl hr N (Nat.le_refl _) (by omega)
    have n2' : krB E (B + 50000) (krN fr to le h N r) := by intro e he; have := n2 e he; omega
    obtain ⟨j1, j2, j3⟩ := ih _ (B + 50000) n2' (by omega)
    rw [krT, rsT, ← n3, ← n1]
    by_cases q : krM fr to le h N r = true
    · rw [if_pos q, if_pos q]
      refine ⟨j1, j2, ?_⟩
      intro e he; have := j3 e he; omega
    · rw [if_neg q, if_neg q]
      refine ⟨rfl, rfl, ?_⟩
      intro e he; have := hr e he; show 0 ≤ (r e).toInt ∧ (r e).toInt ≤ _; omega
theorem kr1_cong {r q : Nat → Int32} {a : Nat} (hf : (fr a).toNatClampNeg < E) (ht : (to a).toNatClampNeg < E) (hg : h a = g a) (hr : agr E r q) : agr E (kr1 fr to le h r a) (kr1 fr to le g q a) := by
  intro e he
  unfold kr1
  rw [hg, hr _ hf, hr _ ht]
  split
  · by_cases x : e = (to a).toNatClampNeg
    · rw [x, pk_us, pk_us]
    · rw [pk_un x, pk_un x]; exact hr e he
  · exact hr e he
theorem krN_cong {r q : Nat → Int32} {N : Nat} (hf : ∀ a, a < N → (fr a).toNatClampNeg < E) (ht : ∀ a, a < N → (to a).toNatClampNeg < E) (hg : ∀ a, a < N → h a = g a) (hr : agr E r q) : ∀ n, n ≤ N → agr E (krN fr to le h n r) (krN fr to le g n q) ∧ krM fr to le h n r = krM fr to le g n q := by
  intro n
  induction n with
  | zero => intro _; exact ⟨hr, rfl⟩
  | succ n ih =>
    intro hn
    obtain ⟨i1, i2⟩ := ih (by omega)
    refine ⟨kr1_cong (hf n (by omega)) (ht n (by omega)) (hg n (by omega)) i1, ?_⟩
    rw [krM, krM, i2, hg n (by omega), i1 _ (hf n (by omega)), i1 _ (ht n (by omega))]
theorem krT_cong {N : Nat} (hf : ∀ a, a < N → (fr a).toNatClampNeg < E) (ht : ∀ a, a < N → (to a).toNatClampNeg < E) (hg : ∀ a, a < N → h a = g a) : ∀ (k : Nat) (r q : Nat → Int32), agr E r q → (krT fr to le h N k r).1 = (krT fr to le g N k q).1 ∧ agr E (krT fr to le h N k r).2 (krT fr to le g N k q).2 := by
  intro k
  induction k with
  | zero => intro r q hr; exact ⟨rfl, hr⟩
  | succ k ih =>
    intro r q hr
    obtain ⟨n1, n2⟩ := krN_cong (le := le) hf ht hg hr N (Nat.le_refl _)
    rw [krT, krT, n2]
    by_cases z : krM fr to le g N q = true
    · rw [if_pos z, if_pos z]; exact ih _ _ n1
    · rw [if_neg z, if_neg z]; exact ⟨rfl, hr⟩
/-- the row of the earliest minutes -/
def krI (E : Nat) (pl so r : Nat → Int32) : Nat → Int32 := fun e => if e < E then pl e + so e else r e
/-- the spread from the beginning -/
def krS (E N : Nat) (pl so fr to le : Nat → Int32) (h : Nat → Bool) : Bool × (Nat → Int32) := krT fr to le h N (E + 1) (krI E pl so (fun _ => 0))
/-- what the numbers of a net keep to -/
def krW (E N : Nat) (pl so fr to le : Nat → Int32) : Prop := E ≤ 60 ∧ N ≤ 100 ∧ (∀ a, a < N → (fr a).toNatClampNeg < E) ∧ (∀ a, a < N → (to a).toNatClampNeg < E) ∧ (∀ a, a < N → 0 ≤ (le a).toInt ∧ (le a).toInt ≤ 500) ∧ (∀ e, e < E → 0 ≤ (pl e).toInt ∧ (pl e).toInt ≤ 2000) ∧ (∀ e, e < E → 0 ≤ (so e).toInt ∧ (so e).toInt ≤ 500)
variable {N : Nat} {pl so : Nat → Int32}
theorem krI_agr (r q : Nat → Int32) : agr E (krI E pl so r) (krI E pl so q) := by
  intro e he; unfold krI; rw [if_pos he, if_pos he]
theorem krI_B (w : krW E N pl so fr to le) (r : Nat → Int32) : krB E 2500 (krI E pl so r) := by
  obtain ⟨-, -, -, -, -, w1, w2⟩ := w
  intro e he
  have a1 := w1 e he
  have a2 := w2 e he
  unfold krI
  rw [if_pos he, add_I a1.1 a2.1 (by omega)]; omega
theorem krS_B (w : krW E N pl so fr to le) : krB E 3100000 (krS E N pl so fr to le h).2 := by
  have b := krI_B w (fun _ => 0)
  obtain ⟨w1, w2, w3, w4, w5, w6, w7⟩ := w
  obtain ⟨-, -, j3⟩ := krT_I (h := h) (to := to) w2 w3 w5 (E + 1) _ _ b (by omega)
  intro e he
  have := j3 e he
  unfold krS
  omega
/-- the spread, told by its solutions -/
theorem krS_spec (w : krW E N pl so fr to le) :
    ((krS E N pl so fr to le h).1 = true ↔ ∃ F, rsSol N (fun a => (fr a).toNatClampNeg) (fun a => (to a).toNatClampNeg) (fun a => (le a).toInt) h F ∧ rsLe E (toI (krI E pl so (fun _ => 0))) F) ∧
    ((krS E N pl so fr to le h).1 = true → rsSol N (fun a => (fr a).toNatClampNeg) (fun a => (to a).toNatClampNeg) (fun a => (le a).toInt) h (toI (krS E N pl so fr to le h).2) ∧ rsLe E (toI (krI E pl so (fun _ => 0))) (toI (krS E N pl so fr to le h).2) ∧ ∀ F, rsSol N (fun a => (fr a).toNatClampNeg) (fun a => (to a).toNatClampNeg) (fun a => (le a).toInt) h F → rsLe E (toI (krI E pl so (fun _ => 0))) F → rsLe E (toI (krS E N pl so fr to le h).2) F) := by
  have b := krI_B w (fun _ => 0)
  obtain ⟨w1, w2, w3, w4, w5, w6, w7⟩ := w
  obtain ⟨j1, j2, -⟩ := krT_I (h := h) (to := to) w2 w3 w5 (E + 1) _ _ b (by omega)
  have := rs_settle (h := h) (l := fun a => (le a).toInt) (E := E) (n := N) (f := fun a => (fr a).toNatClampNeg) (t := fun a => (to a).toNatClampNeg) (b := toI (krI E pl so (fun _ => 0))) (r := toI (krI E pl so (fun _ => 0))) (fun a ha => ⟨w3 a ha, w4 a ha⟩) (fun e _ => Int.le_refl _) (fun F _ q => q)
  unfold krS
  rw [j1, j2]
  exact this
theorem agr_I {r q : Nat → Int32} (hle : rsLe E (toI r) (toI q)) (hge : rsLe E (toI q) (toI r)) : agr E r q := by
  intro e he
  have a1 := hle e he
  have a2 := hge e he
  have : (r e).toInt = (q e).toInt := Int.le_antisymm a1 a2
  exact Int32.toInt_inj.mp this
/-- more that holds: a solution of the more is one of the less -/
theorem rsSol_less {f t : Nat → Nat} {l F : Nat → Int} (hg : ∀ a, a < N → g a = true → h a = true) (hS : rsSol N f t l h F) : rsSol N f t l g F := fun a ha q => hS a ha (hg a ha q)
theorem krS_less (w : krW E N pl so fr to le) (hg : ∀ a, a < N → g a = true → h a = true) (hs : (krS E N pl so fr to le h).1 = true) : (krS E N pl so fr to le g).1 = true := by
  obtain ⟨F, f1, f2⟩ := (krS_spec w).1.mp hs
  exact (krS_spec w).1.mpr ⟨F, rsSol_less hg f1, f2⟩
/-- settle from the minutes of less that holds gives what settle from the beginning gives -/
theorem kr_step (w : krW E N pl so fr to le) (hg : ∀ a, a < N → g a = true → h a = true) (hs : (krS E N pl so fr to le g).1 = true) {r : Nat → Int32} (hr : agr E r (krS E N pl so fr to le g).2) :
    (krT fr to le h N (E + 1) r).1 = (krS E N pl so fr to le h).1 ∧ ((krS E N pl so fr to le h).1 = true → agr E (krT fr to le h N (E + 1) r).2 (krS E N pl so fr to le h).2) := by
  have sg := (krS_spec (h := g) w).2 hs
  have sh := krS_spec (h := h) w
  have b0 : krB E 3100000 r := by intro e he; rw [hr e he]; exact krS_B w e he
  have eI : ∀ e, e < E → toI r e = toI (krS E N pl so fr to le g).2 e := fun e he => by show (r e).toInt = _; rw [hr e he]; rfl
  obtain ⟨w1, w2, w3, w4, w5, w6, w7⟩ := id w
  obtain ⟨j1, j2, -⟩ := krT_I (h := h) (to := to) w2 w3 w5 (E + 1) _ _ b0 (by omega)
  have st := rs_settle (h := h) (l := fun a => (le a).toInt) (E := E) (n := N) (f := fun a => (fr a).toNatClampNeg) (t := fun a => (to a).toNatClampNeg) (b := toI (krI E pl so (fun _ => 0))) (r := toI r) (fun a ha => ⟨w3 a ha, w4 a ha⟩)
    (fun e he => by rw [eI e he]; exact sg.2.1 e he) (fun F f1 f2 e he => by rw [eI e he]; exact sg.2.2 F (rsSol_less hg f1) f2 e he)
  have e1 : (krT fr to le h N (E + 1) r).1 = (krS E N pl so fr to le h).1 := by
    rw [j1]
    exact Bool.eq_iff_iff.mpr (st.1.trans sh.1.symm)
  refine ⟨e1, fun q => ?_⟩
  have s1 := sh.2 q
  have s2 := st.2 (by rw [← j1, e1]; exact q)
  rw [← j2] at s2
  exact agr_I (s2.2.2 _ s1.1 s1.2.1) (s1.2.2 _ s2.1 s2.2.1)
/-- one more that holds, and is obeyed already -/
theorem kr_obeyed (w : krW E N pl so fr to le) {k : Nat} (hk : k < N) (hg : ∀ a, a < N → ¬ a = k → h a = g a) (hg2 : ∀ a, a < N → g a = true → h a = true) (hs : (krS E N pl so fr to le g).1 = true) {r : Nat → Int32} (hr : agr E r (krS E N pl so fr to le g).2) (ho : r (fr k).toNatClampNeg + le k ≤ r (to k).toNatClampNeg) :
    (krS E N pl so fr to le h).1 = true ∧ agr E r (krS E N pl so fr to le h).2 := by
  have sg := (krS_spec (h := g) w).2 hs
  have sh := krS_spec (h := h) w
  have b0 : krB E 3100000 r := by intro e he; rw [hr e he]; exact krS_B w e he
  obtain ⟨w1, w2, w3, w4, w5, w6, w7⟩ := id w
  have ho' : toI (krS E N pl so fr to le g).2 (fr k).toNatClampNeg + (le k).toInt ≤ toI (krS E N pl so fr to le g).2 (to k).toNatClampNeg := by
    have b1 := b0 _ (w3 k hk)
    have l1 := w5 k hk
    rw [Int32.le_iff_toInt_le, add_I b1.1 l1.1 (by omega), hr _ (w3 k hk), hr _ (w4 k hk)] at ho
    exact ho
  have so : rsSol N (fun a => (fr a).toNatClampNeg) (fun a => (to a).toNatClampNeg) (fun a => (le a).toInt) h (toI (krS E N pl so fr to le g).2) := by
    intro a ha q
    by_cases x : a = k
    · subst x; exact ho'
    · exact sg.1 a ha (by rw [← hg a ha x]; exact q)
  have tr := sh.1.mpr ⟨_, so, sg.2.1⟩
  refine ⟨tr, ?_⟩
  have s1 := sh.2 tr
  have := agr_I (sg.2.2 _ (rsSol_less hg2 s1.1) s1.2.1) (s1.2.2 _ so sg.2.1)
  intro e he
  rw [hr e he, this e he]
end KR
/-! the flags of a way -/
section BI
def kBit (n w i : Nat) : Int32 := if w.testBit (n - 1 - i) = true then 1 else 0
def kKp (ch : Nat → Int32) (n w : Nat) : Nat → (Nat → Int32) → (Nat → Int32)
  | 0, K => K
  | i + 1, K => upd (kKp ch n w i K) (ch i).toNatClampNeg (kBit n w i)
variable {ch K : Nat → Int32} {n : Nat}
theorem kKp_in (hd : ∀ i j, i < n → j < n → (ch i).toNatClampNeg = (ch j).toNatClampNeg → i = j) {w i : Nat} : ∀ k, k ≤ n → i < k → kKp ch n w k K (ch i).toNatClampNeg = kBit n w i := by
  intro k
  induction k with
  | zero => intro _ h; exact absurd h (Nat.not_lt_zero _)
  | succ k ih =>
    intro hk hi
    rw [kKp]
    by_cases x : i = k
    · subst x; rw [pk_us]
    · rw [pk_un (fun q => x (hd i k (by omega) (by omega) q))]; exact ih (by omega) (by omega)
theorem kKp_out {w a : Nat} : ∀ k, (∀ i, i < k → ¬ a = (ch i).toNatClampNeg) → kKp ch n w k K a = K a := by
  intro k
  induction k with
  | zero => intro _; rfl
  | succ k ih => intro h; rw [kKp, pk_un (h k (by omega))]; exact ih (fun i hi => h i (by omega))
theorem kKp_ext (hd : ∀ i j, i < n → j < n → (ch i).toNatClampNeg = (ch j).toNatClampNeg → i = j) {w : Nat} {F : Nat → Int32} (h1 : ∀ i, i < n → F (ch i).toNatClampNeg = kBit n w i) (h2 : ∀ a, (∀ i, i < n → ¬ a = (ch i).toNatClampNeg) → F a = K a) : F = kKp ch n w n K := by
  funext a
  by_cases x : ∃ i, i < n ∧ a = (ch i).toNatClampNeg
  · obtain ⟨i, hi, rfl⟩ := x
    rw [h1 i hi, kKp_in hd n (Nat.le_refl _) hi]
  · have y : ∀ i, i < n → ¬ a = (ch i).toNatClampNeg := fun i hi q => x ⟨i, hi, q⟩
    rw [h2 a y, kKp_out n y]
theorem kKp_ov (hd : ∀ i j, i < n → j < n → (ch i).toNatClampNeg = (ch j).toNatClampNeg → i = j) {w v : Nat} : kKp ch n w n (kKp ch n v n K) = kKp ch n w n K :=
  kKp_ext hd (fun _ hi => kKp_in hd n (Nat.le_refl _) hi) (fun _ y => by rw [kKp_out n y, kKp_out n y])
theorem tb_1 (w m b : Nat) : ((2 * w + 1) * 2 ^ m).testBit b = if b = m then true else (w * 2 ^ (m + 1)).testBit b := by
  rw [Nat.testBit_mul_two_pow, Nat.testBit_mul_two_pow]
  by_cases x : b = m
  · subst x
    rw [if_pos rfl, Nat.sub_self, Nat.testBit_zero]
    simp
  · rw [if_neg x]
    by_cases y : m < b
    · obtain ⟨k, rfl⟩ : ∃ k, b = m + 1 + k := ⟨b - m - 1, by omega⟩
      rw [show m + 1 + k - m = k + 1 by omega, show m + 1 + k - (m + 1) = k by omega, Nat.testBit_add_one, show (2 * w + 1) / 2 = w by omega]
      rw [decide_eq_true (show m ≤ m + 1 + k by omega), decide_eq_true (show m + 1 ≤ m + 1 + k by omega)]
    · rw [decide_eq_false (show ¬ m ≤ b by omega), decide_eq_false (show ¬ m + 1 ≤ b by omega)]; rfl
theorem tb_0 (w m : Nat) : (w * 2 ^ (m + 1)).testBit m = false := by
  rw [Nat.testBit_mul_two_pow, decide_eq_false (show ¬ m + 1 ≤ m by omega)]; rfl
theorem kKp_set1 (hd : ∀ i j, i < n → j < n → (ch i).toNatClampNeg = (ch j).toNatClampNeg → i = j) {w i m : Nat} (hn : n = i + m + 1) : upd (kKp ch n (w * 2 ^ (m + 1)) n K) (ch i).toNatClampNeg 1 = kKp ch n ((2 * w + 1) * 2 ^ m) n K := by
  refine kKp_ext hd (fun j hj => ?_) (fun a y => ?_)
  · by_cases x : j = i
    · subst x; rw [pk_us]; unfold kBit; rw [tb_1, if_pos (show n - 1 - j = m by omega)]; rfl
    · rw [pk_un (fun q => x (hd j i hj (by omega) q)), kKp_in hd n (Nat.le_refl _) hj]
      unfold kBit; rw [tb_1, if_neg (show ¬ n - 1 - j = m by omega)]
  · rw [pk_un (y i (by omega)), kKp_out n y]
theorem kKp_set0 (hd : ∀ i j, i < n → j < n → (ch i).toNatClampNeg = (ch j).toNatClampNeg → i = j) {w i m : Nat} (hn : n = i + m + 1) : upd (kKp ch n ((2 * w + 1) * 2 ^ m) n K) (ch i).toNatClampNeg 0 = kKp ch n (w * 2 ^ (m + 1)) n K := by
  refine kKp_ext hd (fun j hj => ?_) (fun a y => ?_)
  · by_cases x : j = i
    · subst x; rw [pk_us]; unfold kBit; rw [show n - 1 - j = m by omega, tb_0]; rfl
    · rw [pk_un (fun q => x (hd j i hj (by omega) q)), kKp_in hd n (Nat.le_refl _) hj]
      unfold kBit; rw [tb_1, if_neg (show ¬ n - 1 - j = m by omega)]
  · rw [pk_un (y i (by omega)), kKp_out n y]
theorem kKp_set00 (hd : ∀ i j, i < n → j < n → (ch i).toNatClampNeg = (ch j).toNatClampNeg → i = j) {w i m : Nat} (hn : n = i + m + 1) : upd (kKp ch n (w * 2 ^ (m + 1)) n K) (ch i).toNatClampNeg 0 = kKp ch n (w * 2 ^ (m + 1)) n K := by
  refine kKp_ext hd (fun j hj => ?_) (fun a y => ?_)
  · by_cases x : j = i
    · subst x; rw [pk_us]; unfold kBit; rw [show n - 1 - j = m by omega, tb_0]; rfl
    · rw [pk_un (fun q => x (hd j i hj (by omega) q)), kKp_in hd n (Nat.le_refl _) hj]
  · rw [pk_un (y i (by omega)), kKp_out n y]
theorem kKp_mono (hd : ∀ i j, i < n → j < n → (ch i).toNatClampNeg = (ch j).toNatClampNeg → i = j) {w m v : Nat} (h1 : w * 2 ^ m ≤ v) (h2 : v < (w + 1) * 2 ^ m) (a : Nat) : ¬ kKp ch n (w * 2 ^ m) n K a = 0 → ¬ kKp ch n v n K a = 0 := by
  intro h
  by_cases x : ∃ i, i < n ∧ a = (ch i).toNatClampNeg
  · obtain ⟨i, hi, rfl⟩ := x
    rw [kKp_in hd n (Nat.le_refl _) hi] at h ⊢
    unfold kBit at h ⊢
    by_cases y : (w * 2 ^ m).testBit (n - 1 - i) = true
    · have z : v.testBit (n - 1 - i) = true := by
        rw [Nat.add_mul, Nat.one_mul] at h2
        obtain ⟨r, hr⟩ : ∃ r, v = 2 ^ m * w + r := ⟨v - w * 2 ^ m, by rw [Nat.mul_comm]; omega⟩
        rw [Nat.mul_comm w] at h1 h2
        rw [hr, Nat.testBit_two_pow_mul_add w (show r < 2 ^ m by omega)]
        rw [Nat.testBit_mul_two_pow, Bool.and_eq_true] at y
        rw [if_neg (by have := of_decide_eq_true y.1; omega)]
        exact y.2
      rw [if_pos z]; decide
    · rw [if_neg y] at h; exact absurd rfl h
  · have y : ∀ i, i < n → ¬ a = (ch i).toNatClampNeg := fun i hi q => x ⟨i, hi, q⟩
    rw [kKp_out n y] at h ⊢
    exact h
def popF : Nat → Nat → Nat
  | 0, _ => 0
  | k + 1, w => w % 2 + popF k (w / 2)
theorem popF_1 (k w : Nat) : popF (k + 1) (2 * w + 1) = popF k w + 1 := by
  rw [popF, show (2 * w + 1) / 2 = w by omega]; omega
theorem popF_0 (k w : Nat) : popF (k + 1) (2 * w) = popF k w := by
  rw [popF, show (2 * w) / 2 = w by omega]; omega
end BI
/-! all ways to keep the changes: the desk goes down from the greatest, the reference up from the least -/
section CH
def chBet (c : Nat → Int) (p : Nat → Nat) (w v : Nat) : Prop := c w < c v ∨ (c w = c v ∧ (p w < p v ∨ (p w = p v ∧ v < w)))
def chBest (c : Nat → Int) (p : Nat → Nat) (ok : Nat → Bool) (P : Nat → Prop) : Option Nat → Prop
  | none => ∀ v, P v → ok v = false
  | some w => P w ∧ ok w = true ∧ ∀ v, P v → ok v = true → v = w ∨ chBet c p w v
def chWei (c : Nat → Int) (p : Nat → Nat) (w : Nat) : Option Nat → Option Nat
  | none => some w
  | some v => if c w < c v ∨ (c w = c v ∧ p w < p v) then some w else some v
def chDf (c : Nat → Int) (p : Nat → Nat) (ok : Nat → Bool) : Nat → Nat → Option Nat → Option Nat
  | 0, w, o => chWei c p w o
  | m + 1, w, o => chDf c p ok m (2 * w) (if ok ((2 * w + 1) * 2 ^ m) = true then chDf c p ok m (2 * w + 1) o else o)
def chTry (c : Nat → Int) (p : Nat → Nat) (w : Nat) : Option Nat → Option Nat
  | none => some w
  | some v => if c w < c v ∨ (c w = c v ∧ (p w < p v ∨ (p w = p v ∧ v < w))) then some w else some v
def chUp (c : Nat → Int) (p : Nat → Nat) (ok : Nat → Bool) : Nat → Option Nat
  | 0 => none
  | k + 1 => if ok k = true then chTry c p k (chUp c p ok k) else chUp c p ok k
variable {c : Nat → Int} {p : Nat → Nat} {ok : Nat → Bool}
theorem chBest_one {P : Nat → Prop} : ∀ {o q : Option Nat}, chBest c p ok P o → chBest c p ok P q → o = q := by
  intro o q h1 h2
  match o, q, h1, h2 with
  | none, none, _, _ => rfl
  | none, some w, h1, h2 => exact absurd (h1 w h2.1) (by rw [h2.2.1]; exact Bool.noConfusion)
  | some w, none, h1, h2 => exact absurd (h2 w h1.1) (by rw [h1.2.1]; exact Bool.noConfusion)
  | some w, some v, h1, h2 =>
    rcases h1.2.2 v h2.1 h2.2.1 with e | e
    · rw [e]
    · rcases h2.2.2 w h1.1 h1.2.1 with e' | e'
      · rw [e']
      · exfalso
        unfold chBet at e e'
        omega
theorem chUp_best : ∀ k, chBest c p ok (fun v => v < k) (chUp c p ok k) := by
  intro k
  induction k with
  | zero => intro v hv; exact absurd hv (Nat.not_lt_zero _)
  | succ k ih =>
    rw [chUp]
    by_cases x : ok k = true
    · rw [if_pos x]
      match hq : chUp c p ok k with
      | none =>
        rw [hq] at ih
        refine ⟨Nat.lt_succ_self k, x, fun v hv ho => ?_⟩
        by_cases y : v = k
        · exact Or.inl y
        · exact absurd (ih v (by omega)) (by rw [ho]; exact Bool.noConfusion)
      | some b =>
        rw [hq] at ih
        obtain ⟨i1, i2, i3⟩ := ih
        show chBest c p ok _ (if _ then _ else _)
        by_cases z : c k < c b ∨ (c k = c b ∧ (p k < p b ∨ (p k = p b ∧ b < k)))
        · rw [if_pos z]
          refine ⟨Nat.lt_succ_self k, x, fun v hv ho => ?_⟩
          by_cases y : v = k
          · exact Or.inl y
          · right
            rcases i3 v (by omega) ho with e | e
            · rw [e]; exact z
            · unfold chBet at e ⊢; omega
        · rw [if_neg z]
          refine ⟨by omega, i2, fun v hv ho => ?_⟩
          by_cases y : v = k
          · right
            subst y
            unfold chBet
            omega
          · exact i3 v (by omega) ho
    · rw [if_neg x]
      match hq : chUp c p ok k with
      | none =>
        rw [hq] at ih
        intro v hv
        by_cases y : v = k
        · rw [y]; exact Bool.not_eq_true _ ▸ x
        · exact ih v (by omega)
      | some b =>
        rw [hq] at ih
        obtain ⟨i1, i2, i3⟩ := ih
        refine ⟨by omega, i2, fun v hv ho => ?_⟩
        by_cases y : v = k
        · rw [y] at ho; exact absurd ho x
        · exact i3 v (by omega) ho
theorem chWei_best {P : Nat → Prop} {o : Option Nat} {w : Nat} (h : chBest c p ok P o) (hP : ∀ v, P v → w < v) (hw : ok w = true) : chBest c p ok (fun v => P v ∨ v = w) (chWei c p w o) := by
  match o, h with
  | none, h =>
    refine ⟨Or.inr rfl, hw, fun v hv ho => ?_⟩
    rcases hv with hv | hv
    · exact absurd (h v hv) (by rw [ho]; exact Bool.noConfusion)
    · exact Or.inl hv
  | some b, h =>
    obtain ⟨h1, h2, h3⟩ := h
    have := hP b h1
    show chBest c p ok _ (if _ then _ else _)
    by_cases z : c w < c b ∨ (c w = c b ∧ p w < p b)
    · rw [if_pos z]
      refine ⟨Or.inr rfl, hw, fun v hv ho => ?_⟩
      rcases hv with hv | hv
      · right
        rcases h3 v hv ho with e | e
        · rw [e]; unfold chBet; omega
        · unfold chBet at e ⊢; omega
      · exact Or.inl hv
    · rw [if_neg z]
      refine ⟨Or.inl h1, h2, fun v hv ho => ?_⟩
      rcases hv with hv | hv
      · exact h3 v hv ho
      · right; subst hv; unfold chBet; omega
theorem chBest_ext {P Q : Nat → Prop} (hPQ : ∀ v, P v ↔ Q v) : ∀ {o : Option Nat}, chBest c p ok P o → chBest c p ok Q o := by
  intro o h
  match o, h with
  | none, h => exact fun v hv => h v ((hPQ v).mpr hv)
  | some w, h => exact ⟨(hPQ w).mp h.1, h.2.1, fun v hv ho => h.2.2 v ((hPQ v).mpr hv) ho⟩
theorem chBest_more {P Q : Nat → Prop} (hQ : ∀ v, Q v → ok v = false) : ∀ {o : Option Nat}, chBest c p ok P o → chBest c p ok (fun v => P v ∨ Q v) o := by
  intro o h
  match o, h with
  | none, h => exact fun v hv => hv.elim (h v) (hQ v)
  | some w, h => exact ⟨Or.inl h.1, h.2.1, fun v hv ho => hv.elim (fun a => h.2.2 v a ho) (fun a => absurd (hQ v a) (by rw [ho]; exact Bool.noConfusion))⟩
theorem chDf_best (hm : ∀ m w v, w * 2 ^ m ≤ v → v < (w + 1) * 2 ^ m → ok v = true → ok (w * 2 ^ m) = true) : ∀ (m w : Nat) (o : Option Nat) (P : Nat → Prop), chBest c p ok P o → (∀ v, P v → (w + 1) * 2 ^ m ≤ v) → ok (w * 2 ^ m) = true → chBest c p ok (fun v => P v ∨ (w * 2 ^ m ≤ v ∧ v < (w + 1) * 2 ^ m)) (chDf c p ok m w o) := by
  intro m
  induction m with
  | zero =>
    intro w o P hb hP hw
    rw [Nat.pow_zero, Nat.mul_one] at hw
    refine chBest_ext (fun v => ?_) (chWei_best (w := w) hb (fun v hv => by have := hP v hv; omega) hw)
    constructor
    · intro h; rcases h with h | h
      · exact Or.inl h
      · exact Or.inr (by omega)
    · intro h; rcases h with h | h
      · exact Or.inl h
      · exact Or.inr (by omega)
  | succ m ih =>
    intro w o P hb hP hw
    have e1 : w * 2 ^ (m + 1) = (2 * w) * 2 ^ m := by rw [Nat.pow_succ]; rw [Nat.mul_comm 2 w, Nat.mul_assoc, Nat.mul_comm 2 (2 ^ m)]
    have e2 : (w + 1) * 2 ^ (m + 1) = (2 * w + 1 + 1) * 2 ^ m := by rw [Nat.pow_succ, Nat.mul_comm (2 ^ m) 2, ← Nat.mul_assoc]; congr 1; omega
    have e3 : (2 * w + 1) * 2 ^ m = 2 * w * 2 ^ m + 2 ^ m := by rw [Nat.add_mul, Nat.one_mul]
    have e4 : (2 * w + 1 + 1) * 2 ^ m = 2 * w * 2 ^ m + 2 ^ m + 2 ^ m := by rw [Nat.add_mul, Nat.one_mul, e3]
    rw [e1] at hw
    have pos : 0 < 2 ^ m := Nat.two_pow_pos m
    have hP2 : ∀ v, P v → (2 * w + 1 + 1) * 2 ^ m ≤ v := fun v hv => by rw [← e2]; exact hP v hv
    rw [chDf]
    have up : chBest c p ok (fun v => P v ∨ ((2 * w + 1) * 2 ^ m ≤ v ∧ v < (2 * w + 1 + 1) * 2 ^ m)) (if ok ((2 * w + 1) * 2 ^ m) = true then chDf c p ok m (2 * w + 1) o else o) := by
      by_cases x : ok ((2 * w + 1) * 2 ^ m) = true
      · rw [if_pos x]; exact ih (2 * w + 1) o P hb hP2 x
      · rw [if_neg x]
        refine chBest_more (fun v hv => ?_) hb
        exact Bool.not_eq_true _ ▸ (fun q => x (hm m (2 * w + 1) v hv.1 hv.2 q))
    have := ih (2 * w) _ _ up (fun v hv => by
      rcases hv with hv | hv
      · have := hP2 v hv; omega
      · exact hv.1) hw
    refine chBest_ext (fun v => ?_) this
    rw [e1, e2]
    constructor
    · intro h; rcases h with (h | h) | h
      · exact Or.inl h
      · exact Or.inr (by omega)
      · exact Or.inr (by omega)
    · intro h; rcases h with h | h
      · exact Or.inl (Or.inl h)
      · by_cases y : (2 * w + 1) * 2 ^ m ≤ v
        · exact Or.inl (Or.inr ⟨y, by omega⟩)
        · exact Or.inr (by omega)
/-- both ways to look for the best find the same -/
theorem ch_same (hm : ∀ m w v, w * 2 ^ m ≤ v → v < (w + 1) * 2 ^ m → ok v = true → ok (w * 2 ^ m) = true) (n : Nat) (h0 : ok 0 = true) : chDf c p ok n 0 none = chUp c p ok (2 ^ n) := by
  have a1 := chDf_best (c := c) (p := p) hm n 0 none (fun _ => False) (fun v hv => hv.elim) (fun v hv => hv.elim) (by rw [Nat.zero_mul]; exact h0)
  have a2 := chUp_best (c := c) (p := p) (ok := ok) (2 ^ n)
  refine chBest_one a1 (chBest_ext (fun v => ?_) a2)
  constructor
  · intro h; exact Or.inr (by omega)
  · intro h; rcases h with h | h
    · exact h.elim
    · omega
theorem ch_none (hm : ∀ m w v, w * 2 ^ m ≤ v → v < (w + 1) * 2 ^ m → ok v = true → ok (w * 2 ^ m) = true) (n : Nat) (h0 : ok 0 = false) : chUp c p ok (2 ^ n) = none := by
  have a2 := chUp_best (c := c) (p := p) (ok := ok) (2 ^ n)
  refine chBest_one a2 (fun v hv => ?_)
  exact Bool.not_eq_true _ ▸ (fun q => by
    have := hm n 0 v (by omega) (by show v < (0 + 1) * 2 ^ n; omega) q
    rw [Nat.zero_mul, h0] at this
    exact Bool.noConfusion this)
end CH
/-! what both programs reckon out of the minutes: costs, the rule's order -/
section CO
def tbC (th : Nat → Int32) : Nat → Bool := fun e => decide (¬ th e = 0)
def tbM (ca tr : Nat → Int32) : Nat → Bool := fun e => decide (ca (tr e).toNatClampNeg = 0)
def hdB (tb : Nat → Bool) (ke fr to : Nat → Int32) : Nat → Bool := fun a => decide (¬ ke a = 0) && (tb (fr a).toNatClampNeg && tb (to a).toNatClampNeg)
def kFail (tb : Nat → Bool) (ke fr to le r : Nat → Int32) (x : Int32) : Bool := decide (¬ x = (-1)) && (!(tb (to x.toNatClampNeg).toNatClampNeg) || (decide (ke x.toNatClampNeg = 0) && decide (r (to x.toNatClampNeg).toNatClampNeg < r (fr x.toNatClampNeg).toNatClampNeg + le x.toNatClampNeg)))
def kStr (tb : Nat → Bool) (ke fr to le r fi c1 c2 : Nat → Int32) (g : Nat) : Bool := !(tb (fi g).toNatClampNeg) || (kFail tb ke fr to le r (c1 g) || kFail tb ke fr to le r (c2 g))
def kLat (tb : Nat → Bool) (ke fr to le r fi c1 c2 pl la wt : Nat → Int32) (g : Nat) : Int32 := if kStr tb ke fr to le r fi c1 c2 g = true then wt g else r (la g).toNatClampNeg - pl (la g).toNatClampNeg
def kSum (tb : Nat → Bool) (ke fr to le r fi c1 c2 pl la wt mn : Nat → Int32) : Nat → Int64
  | 0 => 0
  | g + 1 => kSum tb ke fr to le r fi c1 c2 pl la wt mn g + (mn g).toInt64 * (kLat tb ke fr to le r fi c1 c2 pl la wt g).toInt64
variable {tb tb' : Nat → Bool} {ke fr to le r q fi c1 c2 pl la wt mn : Nat → Int32} {E N G : Nat}
theorem hdB_cong (hf : ∀ a, a < N → (fr a).toNatClampNeg < E) (ht : ∀ a, a < N → (to a).toNatClampNeg < E) (hb : ∀ e, e < E → tb e = tb' e) : ∀ a, a < N → hdB tb ke fr to a = hdB tb' ke fr to a := by
  intro a ha
  unfold hdB
  rw [hb _ (hf a ha), hb _ (ht a ha)]
theorem hdB_mono {K K' : Nat → Int32} (h : ∀ a, ¬ K a = 0 → ¬ K' a = 0) : ∀ a, a < N → hdB tb K fr to a = true → hdB tb K' fr to a = true := by
  intro a _ q
  unfold hdB at q ⊢
  rw [Bool.and_eq_true] at q ⊢
  exact ⟨decide_eq_true (h a (of_decide_eq_true q.1)), q.2⟩
theorem kFail_cong {x : Int32} (hf : ∀ a, a < N → (fr a).toNatClampNeg < E) (ht : ∀ a, a < N → (to a).toNatClampNeg < E) (hb : ∀ e, e < E → tb e = tb' e) (hr : agr E r q) (hx : x = (-1) ∨ x.toNatClampNeg < N) : kFail tb ke fr to le r x = kFail tb' ke fr to le q x := by
  unfold kFail
  rcases hx with hx | hx
  · rw [decide_eq_false (fun z => z hx), Bool.false_and, Bool.false_and]
  · rw [hb _ (ht _ hx), hr _ (hf _ hx), hr _ (ht _ hx)]
theorem kStr_cong {g : Nat} (hf : ∀ a, a < N → (fr a).toNatClampNeg < E) (ht : ∀ a, a < N → (to a).toNatClampNeg < E) (hb : ∀ e, e < E → tb e = tb' e) (hr : agr E r q) (h1 : (fi g).toNatClampNeg < E) (h2 : c1 g = (-1) ∨ (c1 g).toNatClampNeg < N) (h3 : c2 g = (-1) ∨ (c2 g).toNatClampNeg < N) : kStr tb ke fr to le r fi c1 c2 g = kStr tb' ke fr to le q fi c1 c2 g := by
  unfold kStr
  rw [hb _ h1, kFail_cong hf ht hb hr h2, kFail_cong hf ht hb hr h3]
theorem kLat_cong {g : Nat} (hf : ∀ a, a < N → (fr a).toNatClampNeg < E) (ht : ∀ a, a < N → (to a).toNatClampNeg < E) (hb : ∀ e, e < E → tb e = tb' e) (hr : agr E r q) (h1 : (fi g).toNatClampNeg < E) (h2 : c1 g = (-1) ∨ (c1 g).toNatClampNeg < N) (h3 : c2 g = (-1) ∨ (c2 g).toNatClampNeg < N) (h4 : (la g).toNatClampNeg < E) : kLat tb ke fr to le r fi c1 c2 pl la wt g = kLat tb' ke fr to le q fi c1 c2 pl la wt g := by
  unfold kLat
  rw [kStr_cong hf ht hb hr h1 h2 h3, hr _ h4]
theorem kSum_cong (hf : ∀ a, a < N → (fr a).toNatClampNeg < E) (ht : ∀ a, a < N → (to a).toNatClampNeg < E) (hb : ∀ e, e < E → tb e = tb' e) (hr : agr E r q) (h1 : ∀ g, g < G → (fi g).toNatClampNeg < E) (h2 : ∀ g, g < G → (c1 g = (-1) ∨ (c1 g).toNatClampNeg < N)) (h3 : ∀ g, g < G → (c2 g = (-1) ∨ (c2 g).toNatClampNeg < N)) (h4 : ∀ g, g < G → (la g).toNatClampNeg < E) : ∀ n, n ≤ G → kSum tb ke fr to le r fi c1 c2 pl la wt mn n = kSum tb' ke fr to le q fi c1 c2 pl la wt mn n := by
  intro n
  induction n with
  | zero => intro _; rfl
  | succ n ih =>
    intro hn
    rw [kSum, kSum, ih (by omega), kLat_cong hf ht hb hr (h1 n (by omega)) (h2 n (by omega)) (h3 n (by omega)) (h4 n (by omega))]
theorem sub_I {x y : Int32} (h1 : 0 ≤ x.toInt) (h2 : 0 ≤ y.toInt) : (x - y).toInt = x.toInt - y.toInt := by
  have a1 := x.toInt_lt
  have a2 := y.toInt_lt
  rw [Int32.toInt_sub]
  exact Int.bmod_eq_of_le (by omega) (by omega)
theorem kSum_I (hB : krB E 3100000 r) (hp : ∀ e, e < E → (pl e).toInt ≤ (r e).toInt ∧ 0 ≤ (pl e).toInt) (h4 : ∀ g, g < G → (la g).toNatClampNeg < E) (hw : ∀ g, g < G → 0 ≤ (wt g).toInt ∧ (wt g).toInt ≤ 1000) (hm : ∀ g, g < G → 0 ≤ (mn g).toInt ∧ (mn g).toInt ≤ 1000) (hG : G ≤ 30) : ∀ n : Nat, n ≤ G → 0 ≤ (kSum tb ke fr to le r fi c1 c2 pl la wt mn n).toInt ∧ (kSum tb ke fr to le r fi c1 c2 pl la wt mn n).toInt ≤ 3100000000 * (n : Int) := by
  intro n
  induction n with
  | zero => intro _; show 0 ≤ (0 : Int64).toInt ∧ (0 : Int64).toInt ≤ 3100000000 * ((0 : Nat) : Int); exact ⟨by decide, by decide⟩
  | succ n ih =>
    intro hn
    obtain ⟨i1, i2⟩ := ih (by omega)
    rw [kSum]
    have m1 := hm n (by omega)
    have l1 : 0 ≤ (kLat tb ke fr to le r fi c1 c2 pl la wt n).toInt ∧ (kLat tb ke fr to le r fi c1 c2 pl la wt n).toInt ≤ 3100000 := by
      unfold kLat
      split
      · have := hw n (by omega); omega
      · have b1 := hB _ (h4 n (by omega))
        have b2 := hp _ (h4 n (by omega))
        rw [sub_I b1.1 b2.2]; omega
    have e1 : ((mn n).toInt64 * (kLat tb ke fr to le r fi c1 c2 pl la wt n).toInt64).toInt = (mn n).toInt * (kLat tb ke fr to le r fi c1 c2 pl la wt n).toInt := by
      rw [Int64.toInt_mul, Int32.toInt_toInt64, Int32.toInt_toInt64]
      have p1 : 0 ≤ (mn n).toInt * (kLat tb ke fr to le r fi c1 c2 pl la wt n).toInt := Int.mul_nonneg m1.1 l1.1
      have p2 : (mn n).toInt * (kLat tb ke fr to le r fi c1 c2 pl la wt n).toInt ≤ 1000 * 3100000 := Int.mul_le_mul m1.2 l1.2 l1.1 (by decide)
      exact Int.bmod_eq_of_le (by omega) (by omega)
    have p1 : 0 ≤ (mn n).toInt * (kLat tb ke fr to le r fi c1 c2 pl la wt n).toInt := Int.mul_nonneg m1.1 l1.1
    have p2 : (mn n).toInt * (kLat tb ke fr to le r fi c1 c2 pl la wt n).toInt ≤ 1000 * 3100000 := Int.mul_le_mul m1.2 l1.2 l1.1 (by decide)
    rw [Int64.toInt_add, e1, Int.bmod_eq_of_le (by omega) (by omega)]
    omega
/-- the place of one more change in the rule's order -/
def kIns (pl to : Nat → Int32) (x : Int32) : Nat → (Nat → Int32) → (Nat → Int32)
  | 0, od => upd od 0 x
  | g + 1, od => if pl (to x.toNatClampNeg).toNatClampNeg < pl (to (od g).toNatClampNeg).toNatClampNeg then kIns pl to x g (upd od (g + 1) (od g)) else upd od (g + 1) x
theorem kIns_cong {x : Int32} {j : Nat} : ∀ (g : Nat) (od ad : Nat → Int32), g ≤ j → (∀ i, i < j + 1 → ¬ i = g → od i = ad i) → agr (j + 1) (kIns pl to x g od) (kIns pl to x g ad) := by
  intro g
  induction g with
  | zero =>
    intro od ad _ h i hi
    rw [kIns, kIns]
    by_cases y : i = 0
    · rw [y, pk_us, pk_us]
    · rw [pk_un y, pk_un y]; exact h i hi y
  | succ g ih =>
    intro od ad hg h
    have e1 := h g (by omega) (by omega)
    rw [kIns, kIns, e1]
    split
    · refine ih _ _ (by omega) (fun i hi y => ?_)
      by_cases z : i = g + 1
      · rw [z, pk_us, pk_us]
      · rw [pk_un z, pk_un z]; exact h i hi z
    · intro i hi
      by_cases z : i = g + 1
      · rw [z, pk_us, pk_us]
      · rw [pk_un z, pk_un z]; exact h i hi z
/-- breaking all changes, and the order of those that are there -/
def kBS (tb : Nat → Bool) (pl ki fr to : Nat → Int32) : Nat → (Nat → Int32) → (Nat → Int32) → Nat × (Nat → Int32) × (Nat → Int32)
  | 0, od, ke => (0, od, ke)
  | a + 1, od, ke => if ki a = 2 then (if (tb (fr a).toNatClampNeg && tb (to a).toNatClampNeg) = true then ((kBS tb pl ki fr to a od ke).1 + 1, kIns pl to (nI a) (kBS tb pl ki fr to a od ke).1 (kBS tb pl ki fr to a od ke).2.1, upd (kBS tb pl ki fr to a od ke).2.2 a 0) else ((kBS tb pl ki fr to a od ke).1, (kBS tb pl ki fr to a od ke).2.1, upd (kBS tb pl ki fr to a od ke).2.2 a 0)) else kBS tb pl ki fr to a od ke
theorem kBS_cong {ki : Nat → Int32} (hf : ∀ a, a < N → (fr a).toNatClampNeg < E) (ht : ∀ a, a < N → (to a).toNatClampNeg < E) (hb : ∀ e, e < E → tb e = tb' e) (od ad : Nat → Int32) : ∀ n, n ≤ N → (kBS tb pl ki fr to n od ke).1 = (kBS tb' pl ki fr to n ad ke).1 ∧ (kBS tb pl ki fr to n od ke).2.2 = (kBS tb' pl ki fr to n ad ke).2.2 ∧ agr (kBS tb pl ki fr to n od ke).1 (kBS tb pl ki fr to n od ke).2.1 (kBS tb' pl ki fr to n ad ke).2.1 := by
  intro n
  induction n with
  | zero => intro _; exact ⟨rfl, rfl, fun i hi => absurd hi (Nat.not_lt_zero _)⟩
  | succ n ih =>
    intro hn
    obtain ⟨i1, i2, i3⟩ := ih (by omega)
    rw [kBS, kBS, hb _ (hf n (by omega)), hb _ (ht n (by omega))]
    by_cases x : ki n = 2
    · rw [if_pos x, if_pos x]
      by_cases y : (tb' (fr n).toNatClampNeg && tb' (to n).toNatClampNeg) = true
      · rw [if_pos y, if_pos y]
        refine ⟨by show _ + 1 = _ + 1; rw [i1], by show upd _ _ _ = upd _ _ _; rw [i2], ?_⟩
        show agr ((kBS tb pl ki fr to n od ke).1 + 1) (kIns pl to (nI n) (kBS tb pl ki fr to n od ke).1 _) (kIns pl to (nI n) (kBS tb' pl ki fr to n ad ke).1 _)
        rw [← i1]
        exact kIns_cong _ _ _ (Nat.le_refl _) (fun i hi z => i3 i (by omega))
      · rw [if_neg y, if_neg y]
        exact ⟨i1, by show upd _ _ _ = upd _ _ _; rw [i2], i3⟩
    · rw [if_neg x, if_neg x]; exact ⟨i1, i2, i3⟩
/-- one change of the rule -/
def kRs (E N : Nat) (tb : Nat → Bool) (pl so fr to le : Nat → Int32) (w : Int32) (x : Int32) (K : Nat → Int32) : Nat → Int32 :=
  if (krS E N pl so fr to le (hdB tb K fr to)).1 = true ∧ ((krS E N pl so fr to le (hdB tb K fr to)).2 (fr x.toNatClampNeg).toNatClampNeg).toInt + (le x.toNatClampNeg).toInt ≤ (pl (to x.toNatClampNeg).toNatClampNeg).toInt + w.toInt then
    (if (krS E N pl so fr to le (hdB tb (upd K x.toNatClampNeg 1) fr to)).1 = true then upd K x.toNatClampNeg 1 else upd (upd K x.toNatClampNeg 1) x.toNatClampNeg 0) else K
def kRu (E N : Nat) (tb : Nat → Bool) (pl so fr to le : Nat → Int32) (w : Int32) (od : Nat → Int32) : Nat → (Nat → Int32) → (Nat → Int32)
  | 0, K => K
  | i + 1, K => kRs E N tb pl so fr to le w (od i) (kRu E N tb pl so fr to le w od i K)
theorem krS_cong {so : Nat → Int32} {h g : Nat → Bool} (hf : ∀ a, a < N → (fr a).toNatClampNeg < E) (ht : ∀ a, a < N → (to a).toNatClampNeg < E) (hg : ∀ a, a < N → h a = g a) : (krS E N pl so fr to le h).1 = (krS E N pl so fr to le g).1 ∧ agr E (krS E N pl so fr to le h).2 (krS E N pl so fr to le g).2 :=
  krT_cong hf ht hg _ _ _ (fun _ _ => rfl)
theorem kRs_cong {so K : Nat → Int32} {w x : Int32} (hf : ∀ a, a < N → (fr a).toNatClampNeg < E) (ht : ∀ a, a < N → (to a).toNatClampNeg < E) (hb : ∀ e, e < E → tb e = tb' e) (hx : x.toNatClampNeg < N) : kRs E N tb pl so fr to le w x K = kRs E N tb' pl so fr to le w x K := by
  unfold kRs
  have a1 := krS_cong (pl := pl) (so := so) (le := le) hf ht (hdB_cong (ke := K) hf ht hb)
  have a2 := krS_cong (pl := pl) (so := so) (le := le) hf ht (hdB_cong (ke := upd K x.toNatClampNeg 1) hf ht hb)
  rw [a1.1, a1.2 _ (hf _ hx), a2.1]
theorem kRu_cong {so K : Nat → Int32} {w : Int32} {od ad : Nat → Int32} {n : Nat} (hf : ∀ a, a < N → (fr a).toNatClampNeg < E) (ht : ∀ a, a < N → (to a).toNatClampNeg < E) (hb : ∀ e, e < E → tb e = tb' e) (ho : agr n od ad) (hx : ∀ i, i < n → (od i).toNatClampNeg < N) : ∀ k, k ≤ n → kRu E N tb pl so fr to le w od k K = kRu E N tb' pl so fr to le w ad k K := by
  intro k
  induction k with
  | zero => intro _; rfl
  | succ k ih =>
    intro hk
    rw [kRu, kRu, ih (by omega), ← ho k (by omega)]
    exact kRs_cong hf ht hb (hx k (by omega))
theorem kRu_no {so K : Nat → Int32} {w : Int32} {od : Nat → Int32} (h : ¬ (krS E N pl so fr to le (hdB tb K fr to)).1 = true) : ∀ k, kRu E N tb pl so fr to le w od k K = K := by
  intro k
  induction k with
  | zero => rfl
  | succ k ih => rw [kRu, ih]; unfold kRs; rw [if_neg (fun z => h z.1)]
theorem upd_m1 {K : Nat → Int32} {k : Nat} : ∀ a, ¬ K a = 0 → ¬ upd K k 1 a = 0 := by
  intro a h
  by_cases x : a = k
  · subst x; rw [pk_us]; decide
  · rw [pk_un x]; exact h
/-- the class's try at one change, from the minutes of what is kept so far -/
theorem kRs_try {so K now : Nat → Int32} {w x : Int32} (wf : krW E N pl so fr to le) (hx : x.toNatClampNeg < N) (hs : (krS E N pl so fr to le (hdB tb K fr to)).1 = true) (hn : agr E now (krS E N pl so fr to le (hdB tb K fr to)).2)
    (hc : (now (fr x.toNatClampNeg).toNatClampNeg).toInt + (le x.toNatClampNeg).toInt ≤ (pl (to x.toNatClampNeg).toNatClampNeg).toInt + w.toInt) :
    ((krT fr to le (hdB tb (upd K x.toNatClampNeg 1) fr to) N (E + 1) now).1 = true → kRs E N tb pl so fr to le w x K = upd K x.toNatClampNeg 1 ∧ (krS E N pl so fr to le (hdB tb (upd K x.toNatClampNeg 1) fr to)).1 = true ∧ agr E (krT fr to le (hdB tb (upd K x.toNatClampNeg 1) fr to) N (E + 1) now).2 (krS E N pl so fr to le (hdB tb (upd K x.toNatClampNeg 1) fr to)).2) ∧
    ((krT fr to le (hdB tb (upd K x.toNatClampNeg 1) fr to) N (E + 1) now).1 = false → kRs E N tb pl so fr to le w x K = upd (upd K x.toNatClampNeg 1) x.toNatClampNeg 0 ∧ upd (upd K x.toNatClampNeg 1) x.toNatClampNeg 0 = K) := by
  have st := kr_step wf (g := hdB tb K fr to) (h := hdB tb (upd K x.toNatClampNeg 1) fr to) (hdB_mono upd_m1) hs hn
  have w3 := wf.2.2.1
  rw [hn _ (w3 _ hx)] at hc
  refine ⟨fun q => ?_, fun q => ?_⟩
  · rw [st.1] at q
    refine ⟨?_, q, st.2 q⟩
    unfold kRs
    rw [if_pos ⟨hs, hc⟩, if_pos q]
  · rw [st.1] at q
    have q' : ¬ (krS E N pl so fr to le (hdB tb (upd K x.toNatClampNeg 1) fr to)).1 = true := by rw [q]; exact Bool.noConfusion
    refine ⟨?_, ?_⟩
    · unfold kRs
      rw [if_pos ⟨hs, hc⟩, if_neg q']
    · have z : K x.toNatClampNeg = 0 := by
        apply Classical.byContradiction
        intro y
        apply q'
        rw [← hs]
        refine congrArg (fun h => (krS E N pl so fr to le h).1) (funext (fun a => ?_))
        unfold hdB
        by_cases v : a = x.toNatClampNeg
        · subst v; rw [pk_us, decide_eq_true y]; rfl
        · rw [pk_un v]
      funext a
      by_cases v : a = x.toNatClampNeg
      · subst v; rw [pk_us, z]
      · rw [pk_un v, pk_un v]
theorem kRs_skip {so K now : Nat → Int32} {w x : Int32} (wf : krW E N pl so fr to le) (hx : x.toNatClampNeg < N) (hn : agr E now (krS E N pl so fr to le (hdB tb K fr to)).2)
    (hc : ¬ (now (fr x.toNatClampNeg).toNatClampNeg).toInt + (le x.toNatClampNeg).toInt ≤ (pl (to x.toNatClampNeg).toNatClampNeg).toInt + w.toInt) : kRs E N tb pl so fr to le w x K = K := by
  have w3 := wf.2.2.1
  rw [hn _ (w3 _ hx)] at hc
  unfold kRs
  rw [if_neg (fun z => hc z.2)]
end CO
/-! steps of the walks -/
section ST
variable {fr to le : Nat → Int32} {h : Nat → Bool} {k n : Nat} {r0 ru pl so : Nat → Int32}
theorem krN_o (e : ru = krN fr to le h k r0) (c : ru (fr k).toNatClampNeg + le k ≤ ru (to k).toNatClampNeg) : ru = krN fr to le h (k + 1) r0 := by
  show ru = kr1 fr to le h (krN fr to le h k r0) k
  rw [← e]; unfold kr1; rw [if_neg (fun z => z.2 c)]
theorem krN_h (e : ru = krN fr to le h k r0) (c : h k = false) : ru = krN fr to le h (k + 1) r0 := by
  show ru = kr1 fr to le h (krN fr to le h k r0) k
  rw [← e]; unfold kr1; rw [if_neg (fun z => by rw [c] at z; exact Bool.noConfusion z.1)]
theorem krN_m (e : ru = krN fr to le h k r0) (c : ¬ ru (fr k).toNatClampNeg + le k ≤ ru (to k).toNatClampNeg) (d : h k = true) : upd ru (to k).toNatClampNeg (ru (fr k).toNatClampNeg + le k) = krN fr to le h (k + 1) r0 := by
  show _ = kr1 fr to le h (krN fr to le h k r0) k
  rw [← e]; unfold kr1; rw [if_pos ⟨d, c⟩]
theorem krM_o (e : ru = krN fr to le h k r0) (c : ru (fr k).toNatClampNeg + le k ≤ ru (to k).toNatClampNeg) : krM fr to le h (k + 1) r0 = krM fr to le h k r0 := by
  rw [krM, ← e, decide_eq_false (fun z => z c), Bool.and_false, Bool.or_false]
theorem krM_h (c : h k = false) : krM fr to le h (k + 1) r0 = krM fr to le h k r0 := by
  rw [krM, c, Bool.false_and, Bool.or_false]
theorem krM_m (e : ru = krN fr to le h k r0) (c : ¬ ru (fr k).toNatClampNeg + le k ≤ ru (to k).toNatClampNeg) (d : h k = true) : krM fr to le h (k + 1) r0 = true := by
  rw [krM, ← e, d, decide_eq_true c, Bool.and_true, Bool.or_true]
theorem krM_z {z : Int32} (hz : (z = 1 ∧ krM fr to le h k r0 = true) ∨ (z = 0 ∧ krM fr to le h k r0 = false)) (e : krM fr to le h (k + 1) r0 = krM fr to le h k r0) : (z = 1 ∧ krM fr to le h (k + 1) r0 = true) ∨ (z = 0 ∧ krM fr to le h (k + 1) r0 = false) := by
  rw [e]; exact hz
theorem krM_id : ∀ n, krM fr to le h n r0 = false → krN fr to le h n r0 = r0 := by
  intro n
  induction n with
  | zero => intro _; rfl
  | succ n ih =>
    intro hm
    rw [krM, Bool.or_eq_false_iff] at hm
    have e1 := ih hm.1
    show kr1 fr to le h (krN fr to le h n r0) n = r0
    rw [e1] at hm ⊢
    unfold kr1
    rw [if_neg (fun z => by rw [z.1, decide_eq_true z.2] at hm; exact Bool.noConfusion hm.2)]
theorem krT_go (m : krM fr to le h n ru = true) : krT fr to le h n (k + 1) ru = krT fr to le h n k (krN fr to le h n ru) := by rw [krT, if_pos m]
theorem krT_st (m : krM fr to le h n ru = false) : krT fr to le h n (k + 1) ru = (true, ru) := by rw [krT, if_neg (by rw [m]; exact Bool.noConfusion)]
theorem krT_g2 {E j : Nat} {u : Nat → Int32} (e : krT fr to le h n (E + 1) r0 = krT fr to le h n (E + 1 - j) ru) (hj : j ≤ E) (m : krM fr to le h n ru = true) (hu : u = krN fr to le h n ru) : krT fr to le h n (E + 1) r0 = krT fr to le h n (E + 1 - (j + 1)) u := by
  rw [e, show E + 1 - j = (E + 1 - (j + 1)) + 1 by omega, krT_go m, hu]
theorem krT_s2 {E j : Nat} {u : Nat → Int32} (e : krT fr to le h n (E + 1) r0 = krT fr to le h n (E + 1 - j) ru) (hj : j ≤ E) (m : krM fr to le h n ru = false) (hu : u = krN fr to le h n ru) : (krT fr to le h n (E + 1) r0).1 = true ∧ u = (krT fr to le h n (E + 1) r0).2 := by
  rw [e, show E + 1 - j = (E + 1 - (j + 1)) + 1 by omega, krT_st m, hu, krM_id n m]; exact ⟨rfl, rfl⟩
theorem krT_e2 {E j : Nat} (e : krT fr to le h n (E + 1) r0 = krT fr to le h n (E + 1 - j) ru) (hj : E + 1 ≤ j) : (krT fr to le h n (E + 1) r0).1 = false ∧ ru = (krT fr to le h n (E + 1) r0).2 := by
  rw [e, show E + 1 - j = 0 by omega]; exact ⟨rfl, rfl⟩
theorem krI_s (e : ru = krI k pl so r0) : upd ru k (pl k + so k) = krI (k + 1) pl so r0 := by
  rw [e]; funext i
  by_cases x : i = k
  · subst x; rw [pk_us]; unfold krI; rw [if_pos (Nat.lt_succ_self i)]
  · rw [pk_un x]; unfold krI
    by_cases y : i < k
    · rw [if_pos y, if_pos (by omega)]
    · rw [if_neg y, if_neg (by omega)]
theorem krI_0 : r0 = krI 0 pl so r0 := by
  funext i; unfold krI; rw [if_neg (Nat.not_lt_zero _)]
theorem hd_1 {tb : Nat → Bool} {ke : Nat → Int32} {a : Nat} (c1 : ¬ ke a = 0) (c2 : tb (fr a).toNatClampNeg = true) (c3 : tb (to a).toNatClampNeg = true) : hdB tb ke fr to a = true := by
  unfold hdB; rw [decide_eq_true c1, c2, c3]; rfl
theorem hd_0 {tb : Nat → Bool} {ke : Nat → Int32} {a : Nat} (c1 : ke a = 0) : hdB tb ke fr to a = false := by
  unfold hdB; rw [decide_eq_false (fun z => z c1)]; rfl
theorem hd_2 {tb : Nat → Bool} {ke : Nat → Int32} {a : Nat} (c2 : tb (fr a).toNatClampNeg = false) : hdB tb ke fr to a = false := by
  unfold hdB; rw [c2, Bool.false_and, Bool.and_false]
theorem hd_3 {tb : Nat → Bool} {ke : Nat → Int32} {a : Nat} (c3 : tb (to a).toNatClampNeg = false) : hdB tb ke fr to a = false := by
  unfold hdB; rw [c3, Bool.and_false, Bool.and_false]
theorem hd_n {tb : Nat → Bool} {ke : Nat → Int32} {a : Nat} (c : ¬ (tb (fr a).toNatClampNeg = true ∧ tb (to a).toNatClampNeg = true)) : hdB tb ke fr to a = false := by
  unfold hdB
  cases x : tb (fr a).toNatClampNeg
  · rw [Bool.false_and, Bool.and_false]
  · cases y : tb (to a).toNatClampNeg
    · rw [Bool.and_false, Bool.and_false]
    · exact absurd ⟨x, y⟩ c
theorem tbC_1 {th : Nat → Int32} {e : Nat} (c : ¬ th e = 0) : tbC th e = true := decide_eq_true c
theorem tbC_0 {th : Nat → Int32} {e : Nat} (c : th e = 0) : tbC th e = false := decide_eq_false (fun z => z c)
theorem tbM_1 {ca tr : Nat → Int32} {e : Nat} (c : ca (tr e).toNatClampNeg = 0) : tbM ca tr e = true := decide_eq_true c
theorem tbM_0 {ca tr : Nat → Int32} {e : Nat} (c : ¬ ca (tr e).toNatClampNeg = 0) : tbM ca tr e = false := decide_eq_false c
end ST
/-! steps of the walks, second part -/
section ST2
variable {th ke fr to le r fi c1 c2 pl la wt mn ki so : Nat → Int32} {x : Int32} {g : Nat} {tb : Nat → Bool}
theorem kf_n (c : x = (-1)) : kFail tb ke fr to le r x = false := by
  unfold kFail; rw [decide_eq_false (fun z => z c), Bool.false_and]
theorem kf_t (c : ¬ x = (-1)) (d : tb (to x.toNatClampNeg).toNatClampNeg = false) : kFail tb ke fr to le r x = true := by
  unfold kFail; rw [decide_eq_true c, d, Bool.not_false, Bool.true_or, Bool.and_true]
theorem kf_k (d : tb (to x.toNatClampNeg).toNatClampNeg = true) (e : ¬ ke x.toNatClampNeg = 0) : kFail tb ke fr to le r x = false := by
  unfold kFail; rw [d, decide_eq_false e, Bool.not_true, Bool.false_and, Bool.or_false, Bool.and_false]
theorem kf_0 (d : tb (to x.toNatClampNeg).toNatClampNeg = true) (e : r (fr x.toNatClampNeg).toNatClampNeg + le x.toNatClampNeg ≤ r (to x.toNatClampNeg).toNatClampNeg) : kFail tb ke fr to le r x = false := by
  unfold kFail
  rw [d, decide_eq_false (p := r (to x.toNatClampNeg).toNatClampNeg < _) (by rw [Int32.lt_iff_toInt_lt]; rw [Int32.le_iff_toInt_le] at e; omega), Bool.not_true, Bool.and_false, Bool.or_false, Bool.and_false]
theorem kf_1 (c : ¬ x = (-1)) (f : ke x.toNatClampNeg = 0) (e : ¬ r (fr x.toNatClampNeg).toNatClampNeg + le x.toNatClampNeg ≤ r (to x.toNatClampNeg).toNatClampNeg) : kFail tb ke fr to le r x = true := by
  unfold kFail
  rw [decide_eq_true c, decide_eq_true f, decide_eq_true (p := r (to x.toNatClampNeg).toNatClampNeg < _) (by rw [Int32.lt_iff_toInt_lt]; rw [Int32.le_iff_toInt_le] at e; omega), Bool.true_and, Bool.true_and, Bool.or_true]
theorem ks_t (c : tb (fi g).toNatClampNeg = false) : kStr tb ke fr to le r fi c1 c2 g = true := by unfold kStr; rw [c, Bool.not_false, Bool.true_or]
theorem ks_1 (c : kFail tb ke fr to le r (c1 g) = true) : kStr tb ke fr to le r fi c1 c2 g = true := by unfold kStr; rw [c, Bool.true_or, Bool.or_true]
theorem ks_2 (c : kFail tb ke fr to le r (c2 g) = true) : kStr tb ke fr to le r fi c1 c2 g = true := by unfold kStr; rw [c, Bool.or_true, Bool.or_true]
theorem ks_0 (c : tb (fi g).toNatClampNeg = true) (d : kFail tb ke fr to le r (c1 g) = false) (e : kFail tb ke fr to le r (c2 g) = false) : kStr tb ke fr to le r fi c1 c2 g = false := by unfold kStr; rw [c, d, e]; rfl
theorem kl_1 (c : kStr tb ke fr to le r fi c1 c2 g = true) : wt g = kLat tb ke fr to le r fi c1 c2 pl la wt g := by unfold kLat; rw [if_pos c]
theorem kl_0 (c : kStr tb ke fr to le r fi c1 c2 g = false) : r (la g).toNatClampNeg - pl (la g).toNatClampNeg = kLat tb ke fr to le r fi c1 c2 pl la wt g := by unfold kLat; rw [if_neg (by rw [c]; exact Bool.noConfusion)]
theorem ksm {z : Int64} {v : Int32} (hz : z = kSum tb ke fr to le r fi c1 c2 pl la wt mn g) (hv : v = kLat tb ke fr to le r fi c1 c2 pl la wt g) : z + (mn g).toInt64 * v.toInt64 = kSum tb ke fr to le r fi c1 c2 pl la wt mn (g + 1) := by rw [kSum, hz, hv]
theorem ki_go {ou : Nat → Int32} (hg : 0 < g) (c : ¬ pl (to (ou (g - 1)).toNatClampNeg).toNatClampNeg ≤ pl (to x.toNatClampNeg).toNatClampNeg) : kIns pl to x g ou = kIns pl to x (g - 1) (upd ou g (ou (g - 1))) := by
  obtain ⟨k, rfl⟩ : ∃ k, g = k + 1 := ⟨g - 1, by omega⟩
  rw [Nat.add_sub_cancel] at c ⊢
  rw [kIns, if_pos (by rw [Int32.lt_iff_toInt_lt]; rw [Int32.le_iff_toInt_le] at c; omega)]
theorem ki_st {ou : Nat → Int32} (hg : 0 < g) (c : pl (to (ou (g - 1)).toNatClampNeg).toNatClampNeg ≤ pl (to x.toNatClampNeg).toNatClampNeg) : kIns pl to x g ou = upd ou g x := by
  obtain ⟨k, rfl⟩ : ∃ k, g = k + 1 := ⟨g - 1, by omega⟩
  rw [Nat.add_sub_cancel] at c
  rw [kIns, if_neg (by rw [Int32.lt_iff_toInt_lt]; rw [Int32.le_iff_toInt_le] at c; omega)]
theorem ki_z {ou : Nat → Int32} (hg : g ≤ 0) : kIns pl to x g ou = upd ou g x := by
  rw [show g = 0 by omega]; rfl
variable {k : Nat} {od ou ku : Nat → Int32}
theorem kBS_n (e : kBS tb pl ki fr to k od ke = (g, ou, ku)) (c : ¬ ki k = 2) : kBS tb pl ki fr to (k + 1) od ke = (g, ou, ku) := by rw [kBS, if_neg c, e]
theorem kBS_t (e : kBS tb pl ki fr to k od ke = (g, ou, ku)) (c : ki k = 2) (d : tb (fr k).toNatClampNeg = true ∧ tb (to k).toNatClampNeg = true) : kBS tb pl ki fr to (k + 1) od ke = (g + 1, kIns pl to (nI k) g ou, upd ku k 0) := by
  rw [kBS, if_pos c, if_pos (by rw [d.1, d.2]; rfl), e]
theorem kBS_f (e : kBS tb pl ki fr to k od ke = (g, ou, ku)) (c : ki k = 2) (d : ¬ (tb (fr k).toNatClampNeg = true ∧ tb (to k).toNatClampNeg = true)) : kBS tb pl ki fr to (k + 1) od ke = (g, ou, upd ku k 0) := by
  rw [kBS, if_pos c, if_neg (fun z => d (Bool.and_eq_true _ _ ▸ z)), e]
/-- the changes that are there, in their order -/
def kGa (tb : Nat → Bool) (ki fr to : Nat → Int32) : Nat → (Nat → Int32) → Nat × (Nat → Int32)
  | 0, cg => (0, cg)
  | a + 1, cg => if ki a = 2 ∧ (tb (fr a).toNatClampNeg = true ∧ tb (to a).toNatClampNeg = true) then ((kGa tb ki fr to a cg).1 + 1, upd (kGa tb ki fr to a cg).2 (kGa tb ki fr to a cg).1 (nI a)) else kGa tb ki fr to a cg
theorem kGa_n {cg cu : Nat → Int32} (e : kGa tb ki fr to k cg = (g, cu)) (c : ¬ ki k = 2) : kGa tb ki fr to (k + 1) cg = (g, cu) := by rw [kGa, if_neg (fun z => c z.1), e]
theorem kGa_f {cg cu : Nat → Int32} (e : kGa tb ki fr to k cg = (g, cu)) (d : ¬ (tb (fr k).toNatClampNeg = true ∧ tb (to k).toNatClampNeg = true)) : kGa tb ki fr to (k + 1) cg = (g, cu) := by rw [kGa, if_neg (fun z => d z.2), e]
theorem kGa_t {cg cu : Nat → Int32} (e : kGa tb ki fr to k cg = (g, cu)) (c : ki k = 2) (d : tb (fr k).toNatClampNeg = true ∧ tb (to k).toNatClampNeg = true) : kGa tb ki fr to (k + 1) cg = (g + 1, upd cu g (nI k)) := by rw [kGa, if_pos ⟨c, d⟩, e]
theorem kGa_up {cg : Nat → Int32} : ∀ m, k ≤ m → (kGa tb ki fr to k cg).1 ≤ (kGa tb ki fr to m cg).1 := by
  intro m
  induction m with
  | zero => intro h; rw [show k = 0 by omega]; exact Nat.le_refl _
  | succ m ih =>
    intro h
    by_cases x : k = m + 1
    · rw [x]; exact Nat.le_refl _
    · have := ih (by omega)
      rw [kGa]
      split
      · show _ ≤ _ + 1; omega
      · exact this
theorem kGa_cong {tb' : Nat → Bool} {E N : Nat} (hf : ∀ a, a < N → (fr a).toNatClampNeg < E) (ht : ∀ a, a < N → (to a).toNatClampNeg < E) (hb : ∀ e, e < E → tb e = tb' e) (cg ag : Nat → Int32) : ∀ n, n ≤ N → (kGa tb ki fr to n cg).1 = (kGa tb' ki fr to n ag).1 ∧ agr (kGa tb ki fr to n cg).1 (kGa tb ki fr to n cg).2 (kGa tb' ki fr to n ag).2 := by
  intro n
  induction n with
  | zero => intro _; exact ⟨rfl, fun i hi => absurd hi (Nat.not_lt_zero _)⟩
  | succ n ih =>
    intro hn
    obtain ⟨i1, i2⟩ := ih (by omega)
    rw [kGa, kGa, hb _ (hf n (by omega)), hb _ (ht n (by omega))]
    split
    · refine ⟨by show _ + 1 = _ + 1; rw [i1], ?_⟩
      intro i hi
      have hi : i < (kGa tb ki fr to n cg).1 + 1 := hi
      show upd _ _ _ i = upd _ _ _ i
      rw [← i1]
      by_cases y : i = (kGa tb ki fr to n cg).1
      · rw [y, pk_us, pk_us]
      · rw [pk_un y, pk_un y]; exact i2 i (by omega)
    · exact ⟨i1, i2⟩
/-- their numbers go up, so none comes twice -/
theorem kGa_inc {cg : Nat → Int32} : ∀ n, n ≤ 100 → ∀ i, i < (kGa tb ki fr to n cg).1 → ((kGa tb ki fr to n cg).2 i).toNatClampNeg < n ∧ ∀ j, j < i → ((kGa tb ki fr to n cg).2 j).toNatClampNeg < ((kGa tb ki fr to n cg).2 i).toNatClampNeg := by
  intro n
  induction n with
  | zero => intro _ i hi; exact absurd hi (Nat.not_lt_zero _)
  | succ n ih =>
    intro hn i hi
    have ih := ih (by omega)
    have cl : (nI n).toNatClampNeg = n := nI_clamp (by omega)
    rw [kGa] at hi ⊢
    split at hi
    · rename_i q
      rw [if_pos q]
      have hi : i < (kGa tb ki fr to n cg).1 + 1 := hi
      show ((upd _ _ _ i).toNatClampNeg < n + 1) ∧ ∀ j, j < i → (upd _ _ _ j).toNatClampNeg < (upd _ _ _ i).toNatClampNeg
      by_cases y : i = (kGa tb ki fr to n cg).1
      · rw [y, pk_us, cl]
        refine ⟨by omega, fun j hj => ?_⟩
        rw [pk_un (by omega)]
        exact (ih j hj).1
      · rw [pk_un y]
        have a1 := ih i (by omega)
        refine ⟨by omega, fun j hj => ?_⟩
        rw [pk_un (by omega)]
        exact a1.2 j hj
    · rename_i q
      rw [if_neg q]
      have a1 := ih i hi
      exact ⟨by omega, a1.2⟩
theorem kGa_dis {cg : Nat → Int32} {n : Nat} (hn : n ≤ 100) : ∀ i j, i < (kGa tb ki fr to n cg).1 → j < (kGa tb ki fr to n cg).1 → ((kGa tb ki fr to n cg).2 i).toNatClampNeg = ((kGa tb ki fr to n cg).2 j).toNatClampNeg → i = j := by
  intro i j hi hj e
  rcases Nat.lt_trichotomy i j with x | x | x
  · have := (kGa_inc n hn j hj).2 i x; omega
  · exact x
  · have := (kGa_inc n hn i hi).2 j x; omega
end ST2
/-! steps of the walks, third part: the rule -/
section ST3
variable {th ke fr to le pl so ki : Nat → Int32} {x w : Int32} {E N : Nat} {tb : Nat → Bool}
theorem cpy_agr {f g : Nat → Int32} (hE : E ≤ 60) : agr E (va_cpy f g (0 : Int32).toNatClampNeg (0 : Int32).toNatClampNeg (nI E).toNatClampNeg) f := by
  intro e he
  have z0 : (0 : Int32).toNatClampNeg = 0 := rfl
  have z1 : (nI E).toNatClampNeg = E := nI_clamp (by omega)
  rw [z0, z1]
  unfold va_cpy
  rw [if_pos ⟨Nat.zero_le _, by omega⟩, Nat.zero_add, Nat.sub_zero]
theorem i32_in {x : Int32} {a b : Int32} {A B : Int} (ha : a.toInt = A) (hb : b.toInt = B) (h : a ≤ x ∧ x ≤ b) : A ≤ x.toInt ∧ x.toInt ≤ B := by
  have h1 := h.1
  have h2 := h.2
  rw [Int32.le_iff_toInt_le] at h1 h2
  omega
theorem tk_c {a l p : Int32} (h1 : 0 ≤ a.toInt ∧ a.toInt ≤ 3100000) (h2 : 0 ≤ l.toInt ∧ l.toInt ≤ 500) (h3 : 0 ≤ p.toInt ∧ p.toInt ≤ 2000) (h4 : 0 ≤ w ∧ w ≤ 1000) : (a + l ≤ p + w) ↔ a.toInt + l.toInt ≤ p.toInt + w.toInt := by
  have h5 := i32_in (A := 0) (B := 1000) rfl rfl h4
  rw [Int32.le_iff_toInt_le, add_I h1.1 h2.1 (by omega), add_I h3.1 h5.1 (by omega)]
theorem tk_b {now : Nat → Int32} {h : Nat → Bool} (wf : krW E N pl so fr to le) (hn : agr E now (krS E N pl so fr to le h).2) : krB E 3100000 now := by
  intro e he; rw [hn e he]; exact krS_B wf e he
theorem tk_cc {now : Nat → Int32} {h : Nat → Bool} (wf : krW E N pl so fr to le) (hx : x.toNatClampNeg < N) (hn : agr E now (krS E N pl so fr to le h).2) (hw : 0 ≤ w ∧ w ≤ 1000) : (now (fr x.toNatClampNeg).toNatClampNeg + le x.toNatClampNeg ≤ pl (to x.toNatClampNeg).toNatClampNeg + w) ↔ (now (fr x.toNatClampNeg).toNatClampNeg).toInt + (le x.toNatClampNeg).toInt ≤ (pl (to x.toNatClampNeg).toNatClampNeg).toInt + w.toInt := by
  have b := tk_b wf hn
  obtain ⟨w1, w2, w3, w4, w5, w6, w7⟩ := wf
  exact tk_c (b _ (w3 _ hx)) (w5 _ hx) (w6 _ (w4 _ hx)) hw
theorem tk_skip {nw : Nat → Int32} (wf : krW E N pl so fr to le) (hx : x.toNatClampNeg < N) (hs : (krS E N pl so fr to le (hdB tb ke fr to)).1 = true) (hn : agr E nw (krS E N pl so fr to le (hdB tb ke fr to)).2) (hw : 0 ≤ w ∧ w ≤ 1000) (c : ¬ nw (fr x.toNatClampNeg).toNatClampNeg + le x.toNatClampNeg ≤ pl (to x.toNatClampNeg).toNatClampNeg + w) :
    ke = kRs E N tb pl so fr to le w x ke ∧ (krS E N pl so fr to le (hdB tb ke fr to)).1 = true ∧ agr E nw (krS E N pl so fr to le (hdB tb ke fr to)).2 :=
  ⟨(kRs_skip wf hx hn (fun z => c ((tk_cc wf hx hn hw).mpr z))).symm, hs, hn⟩
theorem tk_ok {nw nx u nw' : Nat → Int32} (wf : krW E N pl so fr to le) (hx : x.toNatClampNeg < N) (hs : (krS E N pl so fr to le (hdB tb ke fr to)).1 = true) (hn : agr E nw (krS E N pl so fr to le (hdB tb ke fr to)).2) (hw : 0 ≤ w ∧ w ≤ 1000) (c : nw (fr x.toNatClampNeg).toNatClampNeg + le x.toNatClampNeg ≤ pl (to x.toNatClampNeg).toNatClampNeg + w) (h1 : agr E nx nw)
    (h2 : (krT fr to le (hdB tb (upd ke x.toNatClampNeg 1) fr to) N (E + 1) nx).1 = true ∧ u = (krT fr to le (hdB tb (upd ke x.toNatClampNeg 1) fr to) N (E + 1) nx).2) (h3 : agr E nw' u) :
    upd ke x.toNatClampNeg 1 = kRs E N tb pl so fr to le w x ke ∧ (krS E N pl so fr to le (hdB tb (upd ke x.toNatClampNeg 1) fr to)).1 = true ∧ agr E nw' (krS E N pl so fr to le (hdB tb (upd ke x.toNatClampNeg 1) fr to)).2 := by
  have hn' : agr E nx (krS E N pl so fr to le (hdB tb ke fr to)).2 := fun e he => (h1 e he).trans (hn e he)
  have c' := (tk_cc wf hx hn hw).mp c
  rw [← h1 _ (wf.2.2.1 _ hx)] at c'
  have t := (kRs_try wf hx hs hn' c').1 h2.1
  exact ⟨t.1.symm, t.2.1, fun e he => (h3 e he).trans (by rw [h2.2]; exact t.2.2 e he)⟩
theorem tk_no {nw nx u : Nat → Int32} (wf : krW E N pl so fr to le) (hx : x.toNatClampNeg < N) (hs : (krS E N pl so fr to le (hdB tb ke fr to)).1 = true) (hn : agr E nw (krS E N pl so fr to le (hdB tb ke fr to)).2) (hw : 0 ≤ w ∧ w ≤ 1000) (c : nw (fr x.toNatClampNeg).toNatClampNeg + le x.toNatClampNeg ≤ pl (to x.toNatClampNeg).toNatClampNeg + w) (h1 : agr E nx nw)
    (h2 : (krT fr to le (hdB tb (upd ke x.toNatClampNeg 1) fr to) N (E + 1) nx).1 = false ∧ u = (krT fr to le (hdB tb (upd ke x.toNatClampNeg 1) fr to) N (E + 1) nx).2) :
    upd (upd ke x.toNatClampNeg 1) x.toNatClampNeg 0 = kRs E N tb pl so fr to le w x ke ∧ (krS E N pl so fr to le (hdB tb (upd (upd ke x.toNatClampNeg 1) x.toNatClampNeg 0) fr to)).1 = true ∧ agr E nw (krS E N pl so fr to le (hdB tb (upd (upd ke x.toNatClampNeg 1) x.toNatClampNeg 0) fr to)).2 := by
  have hn' : agr E nx (krS E N pl so fr to le (hdB tb ke fr to)).2 := fun e he => (h1 e he).trans (hn e he)
  have c' := (tk_cc wf hx hn hw).mp c
  rw [← h1 _ (wf.2.2.1 _ hx)] at c'
  obtain ⟨t1, t2⟩ := (kRs_try wf hx hs hn' c').2 h2.1
  rw [t2] at t1 ⊢
  exact ⟨t1.symm, hs, hn⟩
theorem krS_of {h : Nat → Bool} {nw u13 : Nat → Int32} (wf : krW E N pl so fr to le) (e : u13 = krI E pl so nw) : (krT fr to le h N (E + 1) u13).1 = (krS E N pl so fr to le h).1 ∧ agr E (krT fr to le h N (E + 1) u13).2 (krS E N pl so fr to le h).2 := by
  rw [e]
  exact krT_cong wf.2.2.1 wf.2.2.2.1 (fun _ _ => rfl) _ _ _ (krI_agr _ _)
theorem fo_s {h : Nat → Bool} {nw u13 u24 : Nat → Int32} (q : (krT fr to le h N (E + 1) u13).1 = true ∧ u24 = (krT fr to le h N (E + 1) u13).2) (e : u13 = krI E pl so nw) (wf : krW E N pl so fr to le) : (krS E N pl so fr to le h).1 = true := by
  rw [← (krS_of wf e).1]; exact q.1
theorem fo_n {h : Nat → Bool} {nw u13 u24 : Nat → Int32} {b : Bool} (q : (krT fr to le h N (E + 1) u13).1 = b ∧ u24 = (krT fr to le h N (E + 1) u13).2) (e : u13 = krI E pl so nw) (wf : krW E N pl so fr to le) : agr E u24 (krS E N pl so fr to le h).2 := by
  rw [q.2]; exact (krS_of wf e).2
theorem fo_no {od ou ku nw u13 u24 : Nat → Int32} {g : Nat} (hb : kBS tb pl ki fr to N od ke = (g, ou, ku)) (q : (krT fr to le (hdB tb ku fr to) N (E + 1) u13).1 = false ∧ u24 = (krT fr to le (hdB tb ku fr to) N (E + 1) u13).2) (e : u13 = krI E pl so nw) (wf : krW E N pl so fr to le) :
    ku = kRu E N tb pl so fr to le w (kBS tb pl ki fr to N od ke).2.1 (kBS tb pl ki fr to N od ke).1 (kBS tb pl ki fr to N od ke).2.2 := by
  rw [hb]
  refine (kRu_no ?_ g).symm
  show ¬ (krS E N pl so fr to le (hdB tb ku fr to)).1 = true
  rw [← (krS_of wf e).1, q.1]; exact Bool.noConfusion
end ST3
/-! steps of the walks, fourth part: the choice -/
section ST4
theorem cmp0 {x y : Int64} : lg_cmp x y = 0 ↔ x = y := by
  unfold lg_cmp
  by_cases h : x > y
  · rw [if_pos h]
    refine ⟨fun q => absurd q (by decide), fun q => ?_⟩
    subst q; exact absurd h (by rw [gt_iff_lt, Int64.lt_iff_toInt_lt]; omega)
  · rw [if_neg h]
    by_cases q : x = y
    · rw [if_pos q]; exact ⟨fun _ => q, fun _ => rfl⟩
    · rw [if_neg q]; exact ⟨fun z => absurd z (by decide), fun z => absurd z q⟩
theorem popF_le : ∀ k w, popF k w ≤ k := by
  intro k
  induction k with
  | zero => intro w; exact Nat.le_refl _
  | succ k ih => intro w; rw [popF]; have := ih (w / 2); omega
/-- what the desk has noted as the best, for a way or for none -/
def chRep (n : Nat) (c : Nat → Int64) (bc : Int64) (bk : Int32) (be : Nat → Int32) : Option Nat → Prop
  | none => bc = (-1)
  | some v => bc = c v ∧ bk = nI (popF n v) ∧ (∀ i, i < n → be i = kBit n v i) ∧ 0 ≤ (c v).toInt
variable {n w : Nat} {c : Nat → Int64} {bc fv : Int64} {bk kv : Int32} {be bu ke ch : Nat → Int32} {o : Option Nat}
theorem nn_m1 {x : Int64} (h : 0 ≤ x.toInt) : ¬ x = (-1) := by
  intro e; subst e; exact absurd h (by decide)
/-- better: taken -/
theorem cw_t (hr : chRep n c bc bk be o) (hn : n ≤ 10) (hf : fv = c w) (hk : kv = nI (popF n w)) (hp : 0 ≤ (c w).toInt) (hb : ∀ i, i < n → bu i = kBit n w i) (hc : bc = (-1) ∨ fv < bc ∨ (fv = bc ∧ kv < bk)) : chRep n c fv kv bu (chWei (fun v => (c v).toInt) (popF n) w o) := by
  have base : chRep n c fv kv bu (some w) := ⟨hf, hk, hb, hp⟩
  match o, hr with
  | none, _ => exact base
  | some v, hr =>
    obtain ⟨r1, r2, r3, r4⟩ := hr
    show chRep n c fv kv bu (if _ then _ else _)
    rw [if_pos]
    · exact base
    · rcases hc with h | h | h
      · exact absurd (r1 ▸ h) (nn_m1 r4)
      · left; rw [hf, r1, Int64.lt_iff_toInt_lt] at h; exact h
      · right
        obtain ⟨h1, h2⟩ := h
        rw [hf, r1] at h1
        rw [hk, r2] at h2
        have a1 := popF_le n w
        have a2 := popF_le n v
        exact ⟨by show (c w).toInt = (c v).toInt; rw [h1], (nI_ltI (by omega) (by omega)).mp h2⟩
/-- not better: left -/
theorem cw_f (hr : chRep n c bc bk be o) (hn : n ≤ 10) (hf : fv = c w) (hk : kv = nI (popF n w)) (hc : ¬ (bc = (-1) ∨ fv < bc ∨ (fv = bc ∧ kv < bk))) : chRep n c bc bk be (chWei (fun v => (c v).toInt) (popF n) w o) := by
  match o, hr with
  | none, hr => exact absurd (Or.inl hr) hc
  | some v, hr =>
    obtain ⟨r1, r2, r3, r4⟩ := id hr
    show chRep n c bc bk be (if _ then _ else _)
    rw [if_neg]
    · exact hr
    · intro h
      apply hc
      right
      rcases h with h | h
      · left; rw [hf, r1, Int64.lt_iff_toInt_lt]; exact h
      · right
        have a1 := popF_le n w
        have a2 := popF_le n v
        refine ⟨by rw [hf, r1]; exact Int64.toInt_inj.mp h.1, ?_⟩
        rw [hk, r2]
        exact (nI_ltI (by omega) (by omega)).mpr h.2
theorem kKp_cong {ch ch' K : Nat → Int32} (h : agr n ch ch') : ∀ k, k ≤ n → kKp ch n w k K = kKp ch' n w k K := by
  intro k
  induction k with
  | zero => intro _; rfl
  | succ k ih => intro hk; rw [kKp, kKp, ih (by omega), h k (by omega)]
theorem kBit_0 (i : Nat) : kBit n 0 i = 0 := by unfold kBit; rw [Nat.zero_testBit]; rfl
theorem kBit_b (i : Nat) : kBit n w i = 0 ∨ kBit n w i = 1 := by unfold kBit; split; exact Or.inr rfl; exact Or.inl rfl
theorem kKp_b {K : Nat → Int32} (hK : ∀ a, K a = 0 ∨ K a = 1) : ∀ k a, kKp ch n w k K a = 0 ∨ kKp ch n w k K a = 1 := by
  intro k
  induction k with
  | zero => exact hK
  | succ k ih =>
    intro a
    rw [kKp]
    by_cases x : a = (ch k).toNatClampNeg
    · rw [x, pk_us]; exact kBit_b k
    · rw [pk_un x]; exact ih a
theorem kKp_w0 {K : Nat → Int32} {k : Nat} : upd (kKp ch n 0 k K) (ch k).toNatClampNeg 0 = kKp ch n 0 (k + 1) K := by rw [kKp, kBit_0]
theorem nar_b {x : Int32} (h : x = 0 ∨ x = 1) : vp_nar .boolean x = x := by rcases h with rfl | rfl <;> rfl
def chFl (ch : Nat → Int32) (n : Nat) (K : Nat → Int32) : Option Nat → (Nat → Int32)
  | none => K
  | some v => kKp ch n v n K
def chCo (c : Nat → Int64) : Option Nat → Int64
  | none => (-1)
  | some v => c v
/-- the spread of a way, its cost -/
def cOk (E N : Nat) (tb : Nat → Bool) (pl so fr to le ch : Nat → Int32) (n : Nat) (K : Nat → Int32) (w : Nat) : Bool := (krS E N pl so fr to le (hdB tb (kKp ch n w n K) fr to)).1
def cCo (E N G : Nat) (tb : Nat → Bool) (pl so fr to le fi c1 c2 la wt mn ch : Nat → Int32) (n : Nat) (K : Nat → Int32) (w : Nat) : Int64 := kSum tb (kKp ch n w n K) fr to le (krS E N pl so fr to le (hdB tb (kKp ch n w n K) fr to)).2 fi c1 c2 pl la wt mn G
variable {E N G : Nat} {tb tb' : Nat → Bool} {pl so fr to le fi c1 c2 la wt mn K : Nat → Int32}
theorem cOk_mono (wf : krW E N pl so fr to le) (hd : ∀ i j, i < n → j < n → (ch i).toNatClampNeg = (ch j).toNatClampNeg → i = j) : ∀ m w v, w * 2 ^ m ≤ v → v < (w + 1) * 2 ^ m → cOk E N tb pl so fr to le ch n K v = true → cOk E N tb pl so fr to le ch n K (w * 2 ^ m) = true := by
  intro m w v h1 h2 h3
  exact krS_less wf (hdB_mono (kKp_mono hd h1 h2)) h3
/-- the costs' numbers -/
def cWf (E N G : Nat) (fi c1 c2 la wt mn : Nat → Int32) : Prop := G ≤ 30 ∧ (∀ g, g < G → (fi g).toNatClampNeg < E) ∧ (∀ g, g < G → (c1 g = (-1) ∨ (c1 g).toNatClampNeg < N)) ∧ (∀ g, g < G → (c2 g = (-1) ∨ (c2 g).toNatClampNeg < N)) ∧ (∀ g, g < G → (la g).toNatClampNeg < E) ∧ (∀ g, g < G → 0 ≤ (wt g).toInt ∧ (wt g).toInt ≤ 1000) ∧ (∀ g, g < G → 0 ≤ (mn g).toInt ∧ (mn g).toInt ≤ 1000)
theorem cCo_pos (wf : krW E N pl so fr to le) (cf : cWf E N G fi c1 c2 la wt mn) (hs : cOk E N tb pl so fr to le ch n K w = true) : 0 ≤ (cCo E N G tb pl so fr to le fi c1 c2 la wt mn ch n K w).toInt := by
  have sp := (krS_spec (h := hdB tb (kKp ch n w n K) fr to) wf).2 hs
  obtain ⟨f1, f2, f3, f4, f5, f6, f7⟩ := cf
  have hp : ∀ e, e < E → (pl e).toInt ≤ ((krS E N pl so fr to le (hdB tb (kKp ch n w n K) fr to)).2 e).toInt ∧ 0 ≤ (pl e).toInt := by
    intro e he
    have a1 := sp.2.1 e he
    obtain ⟨w1, w2, w3, w4, w5, w6, w7⟩ := wf
    have a2 := w6 e he
    have a3 := w7 e he
    have a4 : toI (krI E pl so (fun _ => 0)) e = (pl e).toInt + (so e).toInt := by
      show (krI E pl so (fun _ => 0) e).toInt = _
      unfold krI; rw [if_pos he, add_I a2.1 a3.1 (by omega)]
    have a5 : toI (krS E N pl so fr to le (hdB tb (kKp ch n w n K) fr to)).2 e = ((krS E N pl so fr to le (hdB tb (kKp ch n w n K) fr to)).2 e).toInt := rfl
    omega
  exact (kSum_I (krS_B wf) hp f5 f6 f7 f1 G (Nat.le_refl _)).1
end ST4
/-! steps of the walks, fifth part: deciding -/
section ST5
variable {th ke fr to le pl so ki fi c1 c2 la wt mn cg K0 : Nat → Int32} {x : Int32} {E N G sz i wy g k : Nat} {tb : Nat → Bool} {oo : Option Nat}
theorem ga_big {cu : Nat → Int32} (e : kGa tb ki fr to k cg = (g, cu)) (c : ki k = 2) (d : tb (fr k).toNatClampNeg = true ∧ tb (to k).toNatClampNeg = true) (hg : 10 ≤ g) (hk : k < N) : 10 < (kGa tb ki fr to N cg).1 := by
  have a := kGa_t e c d
  have b := kGa_up (tb := tb) (ki := ki) (fr := fr) (to := to) (cg := cg) (k := k + 1) N (by omega)
  rw [a] at b
  have b : g + 1 ≤ (kGa tb ki fr to N cg).1 := b
  omega
theorem cw_n {bc fv : Int64} {bk kv : Int32} (h1 : ¬ lg_cmp bc (-1) = 0) (h2 : ¬ lg_cmp fv bc < 0) (h3 : ¬ lg_cmp fv bc = 0 ∨ bk ≤ kv) : ¬ (bc = (-1) ∨ fv < bc ∨ (fv = bc ∧ kv < bk)) := by
  rintro (h | h | h)
  · exact h1 (cmp0.mpr h)
  · exact h2 ((lg_cmp_lt _ _).mpr h)
  · rcases h3 with q | q
    · exact q (cmp0.mpr h.1)
    · have a := h.2
      rw [Int32.lt_iff_toInt_lt] at a
      rw [Int32.le_iff_toInt_le] at q
      omega
theorem i32_nle {a b : Int32} (h : ¬ b ≤ a) : a < b := by
  rw [Int32.lt_iff_toInt_lt]
  rw [Int32.le_iff_toInt_le] at h
  omega
theorem bit_upd {bu : Nat → Int32} {v : Int32} (hb : ∀ j, j < k → bu j = kBit sz wy j) (hv : v = kBit sz wy k) : ∀ j, j < k + 1 → upd bu k (vp_nar .boolean v) j = kBit sz wy j := by
  intro j hj
  by_cases y : j = k
  · subst y; rw [pk_us, hv, nar_b (kBit_b j)]
  · rw [pk_un y]; exact hb j (by omega)
theorem de_h (a : Nat) (h : ¬ a = x.toNatClampNeg) : hdB tb (upd ke x.toNatClampNeg 1) fr to a = hdB tb ke fr to a := by
  unfold hdB; rw [pk_un h]
theorem de_o {r r' : Nat → Int32} (wf : krW E N pl so fr to le) (hx : x.toNatClampNeg < N) (hs : (krS E N pl so fr to le (hdB tb ke fr to)).1 = true) (hr : agr E r (krS E N pl so fr to le (hdB tb ke fr to)).2) (h1 : agr E r' r) (ob : r' (fr x.toNatClampNeg).toNatClampNeg + le x.toNatClampNeg ≤ r' (to x.toNatClampNeg).toNatClampNeg) :
    (krS E N pl so fr to le (hdB tb (upd ke x.toNatClampNeg 1) fr to)).1 = true ∧ agr E r' (krS E N pl so fr to le (hdB tb (upd ke x.toNatClampNeg 1) fr to)).2 :=
  kr_obeyed wf hx (fun a _ h => de_h a h) (hdB_mono upd_m1) hs (fun e he => (h1 e he).trans (hr e he)) ob
theorem de_s {r r' u : Nat → Int32} (wf : krW E N pl so fr to le) (hs : (krS E N pl so fr to le (hdB tb ke fr to)).1 = true) (hr : agr E r (krS E N pl so fr to le (hdB tb ke fr to)).2) (h1 : agr E r' r) (h2 : (krT fr to le (hdB tb (upd ke x.toNatClampNeg 1) fr to) N (E + 1) r').1 = true ∧ u = (krT fr to le (hdB tb (upd ke x.toNatClampNeg 1) fr to) N (E + 1) r').2) :
    (krS E N pl so fr to le (hdB tb (upd ke x.toNatClampNeg 1) fr to)).1 = true ∧ agr E u (krS E N pl so fr to le (hdB tb (upd ke x.toNatClampNeg 1) fr to)).2 := by
  have st := kr_step wf (g := hdB tb ke fr to) (h := hdB tb (upd ke x.toNatClampNeg 1) fr to) (hdB_mono upd_m1) hs (fun e he => (h1 e he).trans (hr e he))
  have q := h2.1
  rw [st.1] at q
  exact ⟨q, by rw [h2.2]; exact st.2 q⟩
theorem de_n {r r' u : Nat → Int32} (wf : krW E N pl so fr to le) (hs : (krS E N pl so fr to le (hdB tb ke fr to)).1 = true) (hr : agr E r (krS E N pl so fr to le (hdB tb ke fr to)).2) (h1 : agr E r' r) (h2 : (krT fr to le (hdB tb (upd ke x.toNatClampNeg 1) fr to) N (E + 1) r').1 = false ∧ u = (krT fr to le (hdB tb (upd ke x.toNatClampNeg 1) fr to) N (E + 1) r').2) :
    (krS E N pl so fr to le (hdB tb (upd ke x.toNatClampNeg 1) fr to)).1 = false := by
  have st := kr_step wf (g := hdB tb ke fr to) (h := hdB tb (upd ke x.toNatClampNeg 1) fr to) (hdB_mono upd_m1) hs (fun e he => (h1 e he).trans (hr e he))
  rw [← st.1]; exact h2.1
theorem de_k1 (hd : ∀ i j, i < sz → j < sz → (cg i).toNatClampNeg = (cg j).toNatClampNeg → i = j) (hk : ke = kKp cg sz (wy * 2 ^ (sz - i)) sz K0) (hi : i < sz) : upd ke (cg i).toNatClampNeg 1 = kKp cg sz ((2 * wy + 1) * 2 ^ (sz - (i + 1))) sz K0 := by
  have := kKp_set1 (K := K0) (w := wy) (i := i) (m := sz - (i + 1)) hd (by omega)
  rw [hk, show sz - i = sz - (i + 1) + 1 by omega]
  exact this
theorem de_k0 (hd : ∀ i j, i < sz → j < sz → (cg i).toNatClampNeg = (cg j).toNatClampNeg → i = j) (hk : ke = kKp cg sz (wy * 2 ^ (sz - i)) sz K0) (hi : i < sz) {K1 : Nat → Int32} (e : K1 = upd ke (cg i).toNatClampNeg 1) : upd K1 (cg i).toNatClampNeg 0 = kKp cg sz ((2 * wy) * 2 ^ (sz - (i + 1))) sz K0 ∧ upd K1 (cg i).toNatClampNeg 0 = ke := by
  have a := kKp_set0 (K := K0) (w := wy) (i := i) (m := sz - (i + 1)) hd (by omega)
  have e2 : wy * 2 ^ (sz - i) = (2 * wy) * 2 ^ (sz - (i + 1)) := by
    rw [show sz - i = sz - (i + 1) + 1 by omega, Nat.pow_succ, Nat.mul_comm 2 wy, Nat.mul_assoc, Nat.mul_comm 2 (2 ^ (sz - (i + 1)))]
  have b : upd K1 (cg i).toNatClampNeg 0 = ke := by
    rw [e, de_k1 hd hk hi, a, hk, show sz - (i + 1) + 1 = sz - i by omega]
  exact ⟨by rw [b, hk, e2], b⟩
theorem de_d1 {c : Nat → Int} {p : Nat → Nat} {ok : Nat → Bool} (hi : i < sz) (h : ok ((2 * wy + 1) * 2 ^ (sz - (i + 1))) = true) : chDf c p ok (sz - i) wy oo = chDf c p ok (sz - (i + 1)) (2 * wy) (chDf c p ok (sz - (i + 1)) (2 * wy + 1) oo) := by
  rw [show sz - i = sz - (i + 1) + 1 by omega, chDf, if_pos h]
theorem de_d0 {c : Nat → Int} {p : Nat → Nat} {ok : Nat → Bool} (hi : i < sz) (h : ok ((2 * wy + 1) * 2 ^ (sz - (i + 1))) = false) : chDf c p ok (sz - i) wy oo = chDf c p ok (sz - (i + 1)) (2 * wy) oo := by
  rw [show sz - i = sz - (i + 1) + 1 by omega, chDf, if_neg (by rw [h]; exact Bool.noConfusion)]
theorem de_ok {b : Bool} (hd : ∀ i j, i < sz → j < sz → (cg i).toNatClampNeg = (cg j).toNatClampNeg → i = j) (hk : ke = kKp cg sz (wy * 2 ^ (sz - i)) sz K0) (hi : i < sz) (h : (krS E N pl so fr to le (hdB tb (upd ke (cg i).toNatClampNeg 1) fr to)).1 = b) : cOk E N tb pl so fr to le cg sz K0 ((2 * wy + 1) * 2 ^ (sz - (i + 1))) = b := by
  unfold cOk; rw [← de_k1 hd hk hi]; exact h
theorem de_leaf (hk : ke = kKp cg sz (wy * 2 ^ (sz - i)) sz K0) (hi : sz ≤ i) : ke = kKp cg sz wy sz K0 := by
  rw [hk, show sz - i = 0 by omega, Nat.pow_zero, Nat.mul_one]
theorem de_c {r : Nat → Int32} {v : Int64} (wf : krW E N pl so fr to le) (cf : cWf E N G fi c1 c2 la wt mn) (hk : ke = kKp cg sz (wy * 2 ^ (sz - i)) sz K0) (hi : sz ≤ i) (hr : agr E r (krS E N pl so fr to le (hdB tb ke fr to)).2) (hv : v = kSum tb ke fr to le r fi c1 c2 pl la wt mn G) : v = cCo E N G tb pl so fr to le fi c1 c2 la wt mn cg sz K0 wy := by
  obtain ⟨f1, f2, f3, f4, f5, f6, f7⟩ := cf
  unfold cCo
  rw [← de_leaf hk hi, hv]
  exact kSum_cong wf.2.2.1 wf.2.2.2.1 (fun _ _ => rfl) hr f2 f3 f4 f5 G (Nat.le_refl _)
theorem de_p (wf : krW E N pl so fr to le) (cf : cWf E N G fi c1 c2 la wt mn) (hk : ke = kKp cg sz (wy * 2 ^ (sz - i)) sz K0) (hi : sz ≤ i) (hs : (krS E N pl so fr to le (hdB tb ke fr to)).1 = true) : 0 ≤ (cCo E N G tb pl so fr to le fi c1 c2 la wt mn cg sz K0 wy).toInt :=
  cCo_pos wf cf (by unfold cOk; rw [← de_leaf hk hi]; exact hs)
theorem de_b (hd : ∀ i j, i < sz → j < sz → (cg i).toNatClampNeg = (cg j).toNatClampNeg → i = j) (hk : ke = kKp cg sz (wy * 2 ^ (sz - i)) sz K0) (hi : sz ≤ i) : ∀ j, j < sz → ke (cg j).toNatClampNeg = kBit sz wy j := by
  intro j hj
  rw [de_leaf hk hi]; exact kKp_in hd sz (Nat.le_refl _) hj
theorem de_v {kv : Int32} (h : kv = nI (popF i wy)) : kv + 1 = nI (popF (i + 1) (2 * wy + 1)) := by rw [h, popF_1, nI_1]
theorem de_v0 {kv : Int32} (h : kv = nI (popF i wy)) : kv = nI (popF (i + 1) (2 * wy)) := by rw [h, popF_0]
/-- the choice, as both make it -/
def kCh (E N G : Nat) (tb : Nat → Bool) (pl so fr to le ki fi c1 c2 la wt mn cg K : Nat → Int32) : Option Nat :=
  chUp (fun v => (cCo E N G tb pl so fr to le fi c1 c2 la wt mn (kGa tb ki fr to N cg).2 (kGa tb ki fr to N cg).1 K v).toInt) (popF (kGa tb ki fr to N cg).1) (cOk E N tb pl so fr to le (kGa tb ki fr to N cg).2 (kGa tb ki fr to N cg).1 K) (2 ^ (kGa tb ki fr to N cg).1)
theorem mk_some {cu : Nat → Int32} (wf : krW E N pl so fr to le) (e : kGa tb ki fr to N cg = (sz, cu)) (hd : ∀ i j, i < sz → j < sz → (cu i).toNatClampNeg = (cu j).toNatClampNeg → i = j) (h0 : (krS E N pl so fr to le (hdB tb (kKp cu sz 0 sz ke) fr to)).1 = true) :
    chDf (fun v => (cCo E N G tb pl so fr to le fi c1 c2 la wt mn cu sz ke v).toInt) (popF sz) (cOk E N tb pl so fr to le cu sz ke) sz 0 none = kCh E N G tb pl so fr to le ki fi c1 c2 la wt mn cg ke := by
  unfold kCh; rw [e]
  exact ch_same (cOk_mono wf hd) sz h0
theorem mk_none {cu : Nat → Int32} (wf : krW E N pl so fr to le) (e : kGa tb ki fr to N cg = (sz, cu)) (hd : ∀ i j, i < sz → j < sz → (cu i).toNatClampNeg = (cu j).toNatClampNeg → i = j) (h0 : (krS E N pl so fr to le (hdB tb (kKp cu sz 0 sz ke) fr to)).1 = false) :
    none = kCh E N G tb pl so fr to le ki fi c1 c2 la wt mn cg ke := by
  unfold kCh; rw [e]
  exact (ch_none (cOk_mono wf hd) sz h0).symm
end ST5
/-! steps of the walks, sixth part: the choice is made -/
section ST6
variable {ke fr to le pl so ki fi c1 c2 la wt mn cg cu ku bu eu : Nat → Int32} {E N G g k : Nat} {tb : Nat → Bool} {zb : Int64} {zk : Int32}
theorem mk_d (e : kGa tb ki fr to N cg = (g, cu)) (hN : N ≤ 100) : ∀ i j, i < g → j < g → (cu i).toNatClampNeg = (cu j).toNatClampNeg → i = j := by
  have := kGa_dis (tb := tb) (ki := ki) (fr := fr) (to := to) (cg := cg) hN
  rw [e] at this
  exact this
theorem mk_b (hkb : ∀ a, (ke a = 0 ∨ ke a = 1)) (e : kGa tb ki fr to N cg = (g, cu)) (hN : N ≤ 100) (hk : k < g) (hku : ku = kKp cu g 0 k ke) (hb : ∀ j, j < k → bu j = ke (cu j).toNatClampNeg) : ∀ j, j < k + 1 → upd bu k (vp_nar .boolean (ku (cu k).toNatClampNeg)) j = ke (cu j).toNatClampNeg := by
  intro j hj
  by_cases y : j = k
  · subst y
    rw [pk_us, hku, kKp_out j (fun i hi q => by have := mk_d e hN i j (by omega) hk q.symm; omega)]
    exact nar_b (hkb _)
  · rw [pk_un y]; exact hb j (by omega)
def mkI (cu : Nat → Int32) (g : Nat) (zb : Int64) (ke bu eu : Nat → Int32) (k : Nat) (ku : Nat → Int32) : Prop := (∀ j, j < k → ku (cu j).toNatClampNeg = if zb = (-1) then bu j else eu j) ∧ (∀ a, (∀ j, j < g → ¬ a = (cu j).toNatClampNeg) → ku a = ke a)
theorem mk_0 (h : ku = kKp cu g 0 g ke) : mkI cu g zb ke bu eu 0 ku := ⟨fun j hj => absurd hj (Nat.not_lt_zero _), fun a ha => by rw [h, kKp_out g ha]⟩
theorem mk_s {v : Int32} (hd : ∀ i j, i < g → j < g → (cu i).toNatClampNeg = (cu j).toNatClampNeg → i = j) (hk : k < g) (h : mkI cu g zb ke bu eu k ku) (hv : v = if zb = (-1) then bu k else eu k) (hb : v = 0 ∨ v = 1) : mkI cu g zb ke bu eu (k + 1) (upd ku (cu k).toNatClampNeg (vp_nar .boolean v)) := by
  refine ⟨fun j hj => ?_, fun a ha => ?_⟩
  · by_cases y : j = k
    · subst y; rw [pk_us, nar_b hb]; exact hv
    · rw [pk_un (fun q => y (hd j k (by omega) hk q))]; exact h.1 j (by omega)
  · rw [pk_un (ha k hk)]; exact h.2 a ha
variable {q : Option Nat} {c : Nat → Int64}
theorem mk_s1 (hkb : ∀ a, (ke a = 0 ∨ ke a = 1)) (hd : ∀ i j, i < g → j < g → (cu i).toNatClampNeg = (cu j).toNatClampNeg → i = j) (hk : k < g) (h : mkI cu g zb ke bu eu k ku) (hbu : ∀ j, j < g → bu j = ke (cu j).toNatClampNeg) (hz : lg_cmp zb (-1) = 0) : mkI cu g zb ke bu eu (k + 1) (upd ku (cu k).toNatClampNeg (vp_nar .boolean (bu k))) :=
  mk_s hd hk h (by rw [if_pos (cmp0.mp hz)]) (by rw [hbu k hk]; exact hkb _)
theorem mk_s2 {o : Option Nat} (hd : ∀ i j, i < g → j < g → (cu i).toNatClampNeg = (cu j).toNatClampNeg → i = j) (hk : k < g) (h : mkI cu g zb ke bu eu k ku) (hr : ∃ q, q = o ∧ chRep g c zb zk eu q) (hz : ¬ lg_cmp zb (-1) = 0) : mkI cu g zb ke bu eu (k + 1) (upd ku (cu k).toNatClampNeg (vp_nar .boolean (eu k))) := by
  refine mk_s hd hk h (by rw [if_neg (fun z => hz (cmp0.mpr z))]) ?_
  obtain ⟨q, -, hq⟩ := hr
  match q, hq with
  | none, hq => exact absurd (cmp0.mpr hq) hz
  | some v, hq => rw [hq.2.2.1 k hk]; exact kBit_b k
theorem mk_fin (e : kGa tb ki fr to N cg = (g, cu)) (hN : N ≤ 100) (hg : g ≤ 10) (hr : ∃ q, q = kCh E N G tb pl so fr to le ki fi c1 c2 la wt mn cg ke ∧ chRep g (cCo E N G tb pl so fr to le fi c1 c2 la wt mn cu g ke) zb zk eu q) (hbu : ∀ j, j < g → bu j = ke (cu j).toNatClampNeg) (h : mkI cu g zb ke bu eu k ku) (hk : g ≤ k) :
    ¬ 10 < (kGa tb ki fr to N cg).1 ∧ zb = chCo (cCo E N G tb pl so fr to le fi c1 c2 la wt mn (kGa tb ki fr to N cg).2 (kGa tb ki fr to N cg).1 ke) (kCh E N G tb pl so fr to le ki fi c1 c2 la wt mn cg ke) ∧ ku = chFl (kGa tb ki fr to N cg).2 (kGa tb ki fr to N cg).1 ke (kCh E N G tb pl so fr to le ki fi c1 c2 la wt mn cg ke) := by
  obtain ⟨q, hq, hrep⟩ := hr
  have hd := mk_d e hN
  rw [← hq, e]
  refine ⟨by show ¬ 10 < g; omega, ?_⟩
  match q, hrep with
  | none, hz =>
    have hz : zb = (-1) := hz
    refine ⟨hz, ?_⟩
    show ku = ke
    funext a
    by_cases x : ∃ i, i < g ∧ a = (cu i).toNatClampNeg
    · obtain ⟨i, hi, rfl⟩ := x
      rw [h.1 i (by omega), if_pos hz, hbu i hi]
    · exact h.2 a (fun i hi q => x ⟨i, hi, q⟩)
  | some v, hz =>
    obtain ⟨z1, z2, z3, z4⟩ := hz
    refine ⟨z1, ?_⟩
    show ku = kKp cu g v g ke
    refine kKp_ext hd (fun i hi => ?_) h.2
    rw [h.1 i (by omega), if_neg (by rw [z1]; exact nn_m1 z4), z3 i hi]
end ST6
/-! steps of the walks, seventh part: the reference -/
section ST7
variable {th ke fr to le r fi c1 c2 pl la wt mn ki so ch : Nat → Int32} {x : Int32} {g : Nat} {tb : Nat → Bool}
theorem kf_m (d : x = (-1) ∨ tb (to x.toNatClampNeg).toNatClampNeg = true) (m : x = (-1) ∨ ¬ ke x.toNatClampNeg = 0 ∨ r (fr x.toNatClampNeg).toNatClampNeg + le x.toNatClampNeg ≤ r (to x.toNatClampNeg).toNatClampNeg) : kFail tb ke fr to le r x = false := by
  rcases d with d | d
  · exact kf_n d
  · rcases m with m | m | m
    · exact kf_n m
    · exact kf_k d m
    · exact kf_0 d m
theorem kf_m1 (m : ¬ x = (-1) ∧ ke x.toNatClampNeg = 0 ∧ ¬ r (fr x.toNatClampNeg).toNatClampNeg + le x.toNatClampNeg ≤ r (to x.toNatClampNeg).toNatClampNeg) : kFail tb ke fr to le r x = true := kf_1 m.1 m.2.1 m.2.2
theorem sh_1 : ∀ w : Nat, w < 1024 → ∀ m : Nat, m < 10 → ((nI w >>> (nI m &&& 31)) &&& 1 = 1 ↔ w.testBit m = true) := by decide +kernel
theorem sh_2 : ∀ w : Nat, w < 1024 → ∀ m : Nat, m < 10 → (nI w >>> (nI m &&& 31)) &&& 1 = nI (w.testBit m).toNat := by decide +kernel
def bsF (w : Nat) : Nat → Nat
  | 0 => 0
  | k + 1 => bsF w k + (w.testBit k).toNat
theorem bs_pop : ∀ n : Nat, n < 11 → ∀ w : Nat, w < 2 ^ n → bsF w 10 = popF n w := by decide +kernel
variable {n w k : Nat} {ku K : Nat → Int32}
theorem kp_1 (e : ku = kKp ch n w k K) (hw : w < 1024) (hn : n ≤ 10) (hk : k < n) (c : (nI w >>> (nI (n - 1 - k) &&& 31)) &&& 1 = 1) : upd ku (ch k).toNatClampNeg 1 = kKp ch n w (k + 1) K := by
  rw [kKp, e]; unfold kBit; rw [if_pos ((sh_1 w hw (n - 1 - k) (by omega)).mp c)]
theorem kp_0 (e : ku = kKp ch n w k K) (hw : w < 1024) (hn : n ≤ 10) (hk : k < n) (c : ¬ (nI w >>> (nI (n - 1 - k) &&& 31)) &&& 1 = 1) : upd ku (ch k).toNatClampNeg 0 = kKp ch n w (k + 1) K := by
  rw [kKp, e]; unfold kBit; rw [if_neg (fun z => c ((sh_1 w hw (n - 1 - k) (by omega)).mpr z))]
theorem bs_s {z : Int32} (e : z = nI (bsF w k)) (hw : w < 1024) (hk : k < 10) : z + ((nI w >>> (nI k &&& 31)) &&& 1) = nI (bsF w (k + 1)) := by
  rw [sh_2 w hw k hk, e, nI_add]; rfl
end ST7
def p2 (n : Nat) : Nat := 2 ^ n
theorem p2_le : ∀ n : Nat, n < 11 → p2 n ≤ 1024 := by decide +kernel
theorem p2_shl : ∀ n : Nat, n < 11 → (1 : Int32) <<< (nI n &&& 31) = nI (p2 n) := by decide +kernel
/-! steps of the walks, eighth part: the reference's choice and rule -/
section ST8
variable {ke fr to le pl so ki fi c1 c2 la wt mn ak au ku wu mu : Nat → Int32} {E N G j k v : Nat} {tb : Nat → Bool} {lz rz : Int64} {bz : Int32} {c : Nat → Int64} {p : Nat → Nat} {ok : Nat → Bool} {o : Option Nat}
theorem wa_b (hkb : ∀ a, (ke a = 0 ∨ ke a = 1)) (hb : ∀ i, i < k → wu i = ke (au i).toNatClampNeg) : ∀ i, i < k + 1 → upd wu k (vp_nar .boolean (ke (au k).toNatClampNeg)) i = ke (au i).toNatClampNeg := by
  intro i hi
  by_cases y : i = k
  · subst y; rw [pk_us]; exact nar_b (hkb _)
  · rw [pk_un y]; exact hb i (by omega)
def chRM (c : Nat → Int64) (bz : Int32) (lz : Int64) : Option Nat → Prop
  | none => bz = (-1)
  | some v => bz = nI v ∧ v < 1024 ∧ lz = c v
theorem nI_nm1 (h : v < 1024) : ¬ nI v = (-1) := by
  intro e
  have := congrArg Int32.toInt e
  rw [nI_toInt (by omega)] at this
  have h1 : (-1 : Int32).toInt = -1 := rfl
  omega
theorem cr_v (h : chRM c bz lz o) (hz : ¬ bz = (-1)) : ∃ v, bz = nI v ∧ v < 1024 := by
  match o, h with
  | none, h => exact absurd h hz
  | some w, h => exact ⟨w, h.1, h.2.1⟩
theorem cr_o (h : chRM c (nI v) lz o) (hv : v < 1024) : o = some v ∧ lz = c v := by
  match o, h with
  | none, h => exact absurd h (nI_nm1 hv)
  | some w, h =>
    have e : v = w := (nI_eq (by omega) (by have := h.2.1; omega)).mp h.1
    subst e
    exact ⟨rfl, h.2.2⟩
theorem cr_n (h : chRM c (-1) lz o) : o = none := by
  match o, h with
  | none, _ => rfl
  | some w, h => exact absurd h.1.symm (nI_nm1 h.2.1)
theorem cr_0 (h : chRM c bz lz o) (hz : bz = (-1)) (hr : rz = c k) (hk : k < 1024) : chRM c (nI k) rz (chTry (fun v => (c v).toInt) p k o) := by
  subst hz
  rw [cr_n h]
  exact ⟨rfl, hk, hr⟩
theorem cr_t (h : chRM c (nI v) lz o) (hv : v < 1024) (hr : rz = c k) (hk : k < 1024) (hc : rz < lz ∨ (rz = lz ∧ (p k < p v ∨ (p k = p v ∧ v < k)))) : chRM c (nI k) rz (chTry (fun v => (c v).toInt) p k o) := by
  obtain ⟨rfl, e⟩ := cr_o h hv
  show chRM c (nI k) rz (if _ then _ else _)
  rw [if_pos]
  · exact ⟨rfl, hk, hr⟩
  · rcases hc with q | q
    · left; rw [hr, e, Int64.lt_iff_toInt_lt] at q; exact q
    · right; rw [hr, e] at q; exact ⟨by show (c k).toInt = (c v).toInt; rw [q.1], q.2⟩
theorem cr_f (h : chRM c (nI v) lz o) (hv : v < 1024) (hr : rz = c k) (hc : ¬ (rz < lz ∨ (rz = lz ∧ (p k < p v ∨ (p k = p v ∧ v < k))))) : chRM c (nI v) lz (chTry (fun v => (c v).toInt) p k o) := by
  obtain ⟨rfl, e⟩ := cr_o h hv
  show chRM c (nI v) lz (if _ then _ else _)
  rw [if_neg]
  · exact h
  · intro q
    apply hc
    rcases q with q | q
    · left; rw [hr, e, Int64.lt_iff_toInt_lt]; exact q
    · right; rw [hr, e]; exact ⟨Int64.toInt_inj.mp q.1, q.2⟩
theorem cu_n (h : ok k = false) : chUp (fun v => (c v).toInt) p ok (k + 1) = chUp (fun v => (c v).toInt) p ok k := by rw [chUp, if_neg (by rw [h]; exact Bool.noConfusion)]
theorem cu_y (h : ok k = true) : chUp (fun v => (c v).toInt) p ok (k + 1) = chTry (fun v => (c v).toInt) p k (chUp (fun v => (c v).toInt) p ok k) := by rw [chUp, if_pos h]
theorem p2_1024 (hj : j ≤ 10) (hk : k < p2 j) : k < 1024 := by
  have := p2_le j (by omega)
  omega
/-- the flags of a way, from any flags that are right elsewhere -/
theorem ck_k {u : Nat → Int32} (hd : ∀ i m, i < j → m < j → (au i).toNatClampNeg = (au m).toNatClampNeg → i = m) (hku : ∀ a, (∀ i, i < j → ¬ a = (au i).toNatClampNeg) → ku a = ke a) (e : u = kKp au j k j ku) : u = kKp au j k j ke := by
  rw [e]
  exact kKp_ext hd (fun i hi => kKp_in hd j (Nat.le_refl _) hi) (fun a ha => by rw [kKp_out j ha]; exact hku a ha)
theorem ck_o {u : Nat → Int32} (e : u = kKp au j k j ke) : ∀ a, (∀ i, i < j → ¬ a = (au i).toNatClampNeg) → u a = ke a := fun a ha => by rw [e, kKp_out j ha]
theorem ck_s {u m0 m1 : Nat → Int32} {b : Bool} (wf : krW E N pl so fr to le) (e : u = kKp au j k j ke) (h : (krT fr to le (hdB tb u fr to) N (E + 1) (krI E pl so m0)).1 = b ∧ m1 = (krT fr to le (hdB tb u fr to) N (E + 1) (krI E pl so m0)).2) : cOk E N tb pl so fr to le au j ke k = b := by
  unfold cOk; rw [← e, ← (krS_of wf rfl).1]; exact h.1
theorem ck_c {u m0 m1 : Nat → Int32} {b : Bool} (wf : krW E N pl so fr to le) (cf : cWf E N G fi c1 c2 la wt mn) (e : u = kKp au j k j ke) (h : (krT fr to le (hdB tb u fr to) N (E + 1) (krI E pl so m0)).1 = b ∧ m1 = (krT fr to le (hdB tb u fr to) N (E + 1) (krI E pl so m0)).2) (hr : rz = kSum tb u fr to le m1 fi c1 c2 pl la wt mn G) : rz = cCo E N G tb pl so fr to le fi c1 c2 la wt mn au j ke k := by
  obtain ⟨f1, f2, f3, f4, f5, f6, f7⟩ := cf
  unfold cCo
  rw [← e, hr, h.2]
  exact kSum_cong wf.2.2.1 wf.2.2.2.1 (fun _ _ => rfl) (krS_of wf rfl).2 f2 f3 f4 f5 G (Nat.le_refl _)
theorem cb_p {r1 : Int32} (hj : j ≤ 10) (hk : k < p2 j) (h : r1 = nI (bsF k 10)) : r1 = nI (popF j k) := by
  rw [h, bs_pop j (by omega) k hk]
/-- better, or not -/
theorem cb_t {r1 r2 r3 r4 : Int32} (hj : j ≤ 10) (hk : k < p2 j) (hv : v < k) (h1 : r1 = nI (bsF k 10)) (h2 : r2 = nI (bsF v 10)) (hc : rz < lz ∨ (rz = lz ∧ (r1 < r2 ∨ (r1 = r2 ∧ v < k)))) : rz < lz ∨ (rz = lz ∧ (popF j k < popF j v ∨ (popF j k = popF j v ∧ v < k))) := by
  rcases hc with q | ⟨q, q'⟩
  · exact Or.inl q
  · right
    refine ⟨q, ?_⟩
    have a1 := popF_le j k
    have a2 := popF_le j v
    have hv' : v < p2 j := Nat.lt_trans hv hk
    rw [cb_p hj hk h1, cb_p hj hv' h2] at q'
    rcases q' with q' | q'
    · exact Or.inl ((nI_ltI (by omega) (by omega)).mp q')
    · exact Or.inr ⟨(nI_eq (by omega) (by omega)).mp q'.1, q'.2⟩
/-- the best so far lies below -/
theorem cr_lt (h : chRM c (nI v) lz (chUp (fun v => (c v).toInt) p ok k)) (hv : v < 1024) : v < k := by
  have e := (cr_o h hv).1
  have b := chUp_best (c := fun v => (c v).toInt) (p := p) (ok := ok) k
  rw [e] at b
  exact b.1
theorem nn_le {a b : Nat} (ha : a < 1024) (hb : b < 1024) (h : ¬ nI a ≤ nI b) : b < a := by
  rw [nI_leI (by omega) (by omega)] at h; omega
theorem rs_b (hk0 : ∀ a, (ke a = 0 ∨ ke a = 1)) (hd : ∀ i m, i < j → m < j → (au i).toNatClampNeg = (au m).toNatClampNeg → i = m) (hk : k < j) (hw : ∀ i, i < j → wu i = ke (au i).toNatClampNeg) (h : (∀ i, i < k → ku (au i).toNatClampNeg = ke (au i).toNatClampNeg) ∧ (∀ a, (∀ i, i < j → ¬ a = (au i).toNatClampNeg) → ku a = ke a)) : (∀ i, i < k + 1 → upd ku (au k).toNatClampNeg (vp_nar .boolean (wu k)) (au i).toNatClampNeg = ke (au i).toNatClampNeg) ∧ (∀ a, (∀ i, i < j → ¬ a = (au i).toNatClampNeg) → upd ku (au k).toNatClampNeg (vp_nar .boolean (wu k)) a = ke a) := by
  refine ⟨fun i hi => ?_, fun a ha => ?_⟩
  · by_cases y : i = k
    · subst y; rw [pk_us, hw i hk]; exact nar_b (hk0 _)
    · rw [pk_un (fun q => y (hd i k (by omega) hk q))]; exact h.1 i (by omega)
  · rw [pk_un (ha k hk)]; exact h.2 a ha
theorem rs_e (hk : j ≤ k) (h : (∀ i, i < k → ku (au i).toNatClampNeg = ke (au i).toNatClampNeg) ∧ (∀ a, (∀ i, i < j → ¬ a = (au i).toNatClampNeg) → ku a = ke a)) : ku = ke := by
  funext a
  by_cases x : ∃ i, i < j ∧ a = (au i).toNatClampNeg
  · obtain ⟨i, hi, rfl⟩ := x; exact h.1 i (by omega)
  · exact h.2 a (fun i hi q => x ⟨i, hi, q⟩)
theorem ch_k {cz : Nat → Int64} (e : kGa tb ki fr to N ak = (j, au)) (hk : k = p2 j) : chUp (fun v => (cCo E N G tb pl so fr to le fi c1 c2 la wt mn au j ke v).toInt) (popF j) (cOk E N tb pl so fr to le au j ke) k = kCh E N G tb pl so fr to le ki fi c1 c2 la wt mn ak ke := by
  unfold kCh; rw [e, hk]; rfl
theorem cm_no (e : kGa tb ki fr to N ak = (j, au)) (hj : j ≤ 10) (hk : k = p2 j) (h : chRM (cCo E N G tb pl so fr to le fi c1 c2 la wt mn au j ke) (-1) lz (chUp (fun v => (cCo E N G tb pl so fr to le fi c1 c2 la wt mn au j ke v).toInt) (popF j) (cOk E N tb pl so fr to le au j ke) k)) (hku : ku = ke) :
    ¬ 10 < (kGa tb ki fr to N ak).1 ∧ (-1) = chCo (cCo E N G tb pl so fr to le fi c1 c2 la wt mn (kGa tb ki fr to N ak).2 (kGa tb ki fr to N ak).1 ke) (kCh E N G tb pl so fr to le ki fi c1 c2 la wt mn ak ke) ∧ ku = chFl (kGa tb ki fr to N ak).2 (kGa tb ki fr to N ak).1 ke (kCh E N G tb pl so fr to le ki fi c1 c2 la wt mn ak ke) := by
  rw [ch_k (cz := fun _ => 0) e hk] at h
  rw [cr_n h, e]
  exact ⟨by show ¬ 10 < j; omega, rfl, hku⟩
theorem cm_ye (e : kGa tb ki fr to N ak = (j, au)) (hj : j ≤ 10) (hk : k = p2 j) (hv : v < 1024) (h : chRM (cCo E N G tb pl so fr to le fi c1 c2 la wt mn au j ke) (nI v) lz (chUp (fun v => (cCo E N G tb pl so fr to le fi c1 c2 la wt mn au j ke v).toInt) (popF j) (cOk E N tb pl so fr to le au j ke) k)) (hku : ku = kKp au j v j ke) :
    ¬ 10 < (kGa tb ki fr to N ak).1 ∧ lz = chCo (cCo E N G tb pl so fr to le fi c1 c2 la wt mn (kGa tb ki fr to N ak).2 (kGa tb ki fr to N ak).1 ke) (kCh E N G tb pl so fr to le ki fi c1 c2 la wt mn ak ke) ∧ ku = chFl (kGa tb ki fr to N ak).2 (kGa tb ki fr to N ak).1 ke (kCh E N G tb pl so fr to le ki fi c1 c2 la wt mn ak ke) := by
  rw [ch_k (cz := fun _ => 0) e hk] at h
  obtain ⟨h1, h2⟩ := cr_o h hv
  rw [h1, e]
  exact ⟨by show ¬ 10 < j; omega, h2, hku⟩
-- the rule
theorem ki_goN {ou : Nat → Int32} {g : Nat} (hk : k ≤ 100) (hg : 0 < g) (c : ¬ pl (to (ou (g - 1)).toNatClampNeg).toNatClampNeg ≤ pl (to k).toNatClampNeg) : kIns pl to (nI k) g ou = kIns pl to (nI k) (g - 1) (upd ou g (ou (g - 1))) := ki_go hg (by rw [show (nI k).toNatClampNeg = k from nI_clamp (by omega)]; exact c)
theorem ki_stN {ou : Nat → Int32} {g : Nat} (hk : k ≤ 100) (hg : 0 < g) (c : pl (to (ou (g - 1)).toNatClampNeg).toNatClampNeg ≤ pl (to k).toNatClampNeg) : kIns pl to (nI k) g ou = upd ou g (nI k) := ki_st hg (by rw [show (nI k).toNatClampNeg = k from nI_clamp (by omega)]; exact c)
theorem rr_c {a l q w : Int32} (h1 : 0 ≤ a.toInt ∧ a.toInt ≤ 3100000) (h2 : 0 ≤ l.toInt ∧ l.toInt ≤ 500) (h3 : 0 ≤ q.toInt ∧ q.toInt ≤ 2000) : (a + l - q ≤ w) ↔ a.toInt + l.toInt ≤ q.toInt + w.toInt := by
  have e := add_I h1.1 h2.1 (by omega)
  rw [Int32.le_iff_toInt_le, sub_I (by omega) h3.1, e]
  omega
variable {x w : Int32} {m0 m1 m2 m3 : Nat → Int32}
theorem rr_cc (wf : krW E N pl so fr to le) (hx : x.toNatClampNeg < N) {h : Nat → Bool} {b : Bool} (q : (krT fr to le h N (E + 1) (krI E pl so m0)).1 = b ∧ m1 = (krT fr to le h N (E + 1) (krI E pl so m0)).2) : (m1 (fr x.toNatClampNeg).toNatClampNeg + le x.toNatClampNeg - pl (to x.toNatClampNeg).toNatClampNeg ≤ w) ↔ ((krS E N pl so fr to le h).2 (fr x.toNatClampNeg).toNatClampNeg).toInt + (le x.toNatClampNeg).toInt ≤ (pl (to x.toNatClampNeg).toNatClampNeg).toInt + w.toInt := by
  have b0 := krS_B (h := h) wf
  have a := (krS_of (h := h) (nw := m0) wf rfl).2
  rw [← q.2] at a
  obtain ⟨w1, w2, w3, w4, w5, w6, w7⟩ := wf
  rw [a _ (w3 _ hx)]
  exact rr_c (b0 _ (w3 _ hx)) (w5 _ hx) (w6 _ (w4 _ hx))
theorem rr_0 (wf : krW E N pl so fr to le) (q : (krT fr to le (hdB tb ku fr to) N (E + 1) (krI E pl so m0)).1 = false ∧ m1 = (krT fr to le (hdB tb ku fr to) N (E + 1) (krI E pl so m0)).2) : ku = kRs E N tb pl so fr to le w x ku := by
  unfold kRs
  rw [if_neg (fun z => by rw [← (krS_of (nw := m0) wf rfl).1, q.1] at z; exact Bool.noConfusion z.1)]
theorem rr_s (wf : krW E N pl so fr to le) (hx : x.toNatClampNeg < N) (q : (krT fr to le (hdB tb ku fr to) N (E + 1) (krI E pl so m0)).1 = true ∧ m1 = (krT fr to le (hdB tb ku fr to) N (E + 1) (krI E pl so m0)).2) (c : ¬ m1 (fr x.toNatClampNeg).toNatClampNeg + le x.toNatClampNeg - pl (to x.toNatClampNeg).toNatClampNeg ≤ w) : ku = kRs E N tb pl so fr to le w x ku := by
  unfold kRs
  rw [if_neg (fun z => c ((rr_cc wf hx q).mpr z.2))]
theorem rr_1 (wf : krW E N pl so fr to le) (hx : x.toNatClampNeg < N) (q : (krT fr to le (hdB tb ku fr to) N (E + 1) (krI E pl so m0)).1 = true ∧ m1 = (krT fr to le (hdB tb ku fr to) N (E + 1) (krI E pl so m0)).2) (c : m1 (fr x.toNatClampNeg).toNatClampNeg + le x.toNatClampNeg - pl (to x.toNatClampNeg).toNatClampNeg ≤ w) (q2 : (krT fr to le (hdB tb (upd ku x.toNatClampNeg 1) fr to) N (E + 1) (krI E pl so m2)).1 = true ∧ m3 = (krT fr to le (hdB tb (upd ku x.toNatClampNeg 1) fr to) N (E + 1) (krI E pl so m2)).2) : upd ku x.toNatClampNeg 1 = kRs E N tb pl so fr to le w x ku := by
  unfold kRs
  rw [if_pos ⟨by rw [← (krS_of (nw := m0) wf rfl).1]; exact q.1, (rr_cc wf hx q).mp c⟩, if_pos (by rw [← (krS_of (nw := m2) wf rfl).1]; exact q2.1)]
theorem rr_2 (wf : krW E N pl so fr to le) (hx : x.toNatClampNeg < N) (q : (krT fr to le (hdB tb ku fr to) N (E + 1) (krI E pl so m0)).1 = true ∧ m1 = (krT fr to le (hdB tb ku fr to) N (E + 1) (krI E pl so m0)).2) (c : m1 (fr x.toNatClampNeg).toNatClampNeg + le x.toNatClampNeg - pl (to x.toNatClampNeg).toNatClampNeg ≤ w) (q2 : (krT fr to le (hdB tb (upd ku x.toNatClampNeg 1) fr to) N (E + 1) (krI E pl so m2)).1 = false ∧ m3 = (krT fr to le (hdB tb (upd ku x.toNatClampNeg 1) fr to) N (E + 1) (krI E pl so m2)).2) : upd (upd ku x.toNatClampNeg 1) x.toNatClampNeg 0 = kRs E N tb pl so fr to le w x ku := by
  unfold kRs
  rw [if_pos ⟨by rw [← (krS_of (nw := m0) wf rfl).1]; exact q.1, (rr_cc wf hx q).mp c⟩, if_neg (fun z => by rw [← (krS_of (nw := m2) wf rfl).1, q2.1] at z; exact Bool.noConfusion z)]
end ST8
section ST9
variable {j k v : Nat} {lz rz : Int64}
theorem cr_c1 (hj : j ≤ 10) (hk : k < p2 j) (hv : v < k) (h : lg_cmp rz lz < 0 ∨ (lg_cmp rz lz = 0 ∧ ((∃ r1 r2 : Int32, r1 = nI (bsF k 10) ∧ r2 = nI (bsF v 10) ∧ r1 < r2) ∨ (∃ r1 r2 : Int32, r1 = nI (bsF k 10) ∧ r2 = nI (bsF v 10) ∧ r1 = r2)))) : rz < lz ∨ (rz = lz ∧ (popF j k < popF j v ∨ (popF j k = popF j v ∧ v < k))) := by
  rcases h with h | ⟨h, ⟨r1, r2, e1, e2, c⟩ | ⟨r1, r2, e1, e2, c⟩⟩
  · exact Or.inl ((lg_cmp_lt _ _).mp h)
  · exact cb_t (r3 := 0) (r4 := 0) hj hk hv e1 e2 (Or.inr ⟨cmp0.mp h, Or.inl c⟩)
  · exact cb_t (r3 := 0) (r4 := 0) hj hk hv e1 e2 (Or.inr ⟨cmp0.mp h, Or.inr ⟨c, hv⟩⟩)
theorem cr_c0 (hj : j ≤ 10) (hk : k < p2 j) (hv : v < k) (h1 : ¬ lg_cmp rz lz < 0) (h : ¬ lg_cmp rz lz = 0 ∨ ((∃ r1 r2 : Int32, r1 = nI (bsF k 10) ∧ r2 = nI (bsF v 10) ∧ ¬ r1 < r2) ∧ (∃ r1 r2 : Int32, r1 = nI (bsF k 10) ∧ r2 = nI (bsF v 10) ∧ ¬ r1 = r2))) : ¬ (rz < lz ∨ (rz = lz ∧ (popF j k < popF j v ∨ (popF j k = popF j v ∧ v < k)))) := by
  intro q
  have a1 := popF_le j k
  have a2 := popF_le j v
  rcases q with q | ⟨q, q'⟩
  · exact h1 ((lg_cmp_lt _ _).mpr q)
  · rcases h with h | ⟨⟨r1, r2, e1, e2, c⟩, ⟨r3, r4, e3, e4, c'⟩⟩
    · exact h (cmp0.mpr q)
    · rw [cb_p hj hk e1, cb_p hj (Nat.lt_trans hv hk) e2, nI_ltI (by omega) (by omega)] at c
      rw [cb_p hj hk e3, cb_p hj (Nat.lt_trans hv hk) e4, nI_eq (by omega) (by omega)] at c'
      omega
end ST9
/-! steps of the walks, ninth part: a group's journey -/
section ST10
def kGo (E Ac : Nat) (tr ki fr to : Nat → Int32) (f a b l : Int32) : Prop := vp_in f E ∧ vp_in l E ∧ ((a = (-1) ∧ b = (-1) ∧ tr l.toNatClampNeg = tr f.toNatClampNeg) ∨ (¬ a = (-1) ∧ (vp_in a Ac ∧ ki a.toNatClampNeg = 2) ∧ tr (fr a.toNatClampNeg).toNatClampNeg = tr f.toNatClampNeg ∧ ((b = (-1) ∧ tr l.toNatClampNeg = tr (to a.toNatClampNeg).toNatClampNeg) ∨ (¬ b = (-1) ∧ (vp_in b Ac ∧ ki b.toNatClampNeg = 2) ∧ tr (fr b.toNatClampNeg).toNatClampNeg = tr (to a.toNatClampNeg).toNatClampNeg ∧ tr l.toNatClampNeg = tr (to b.toNatClampNeg).toNatClampNeg))))
variable {E Ac : Nat} {tr ki fr to : Nat → Int32} {f a b l : Int32}
theorem vp_nm1 {x : Int32} {n : Nat} (h : vp_in x n) : ¬ x = (-1) := fun e => h (Or.inl (by rw [e]; decide))
theorem kg_a (h : kGo E Ac tr ki fr to f a b l) (c : ¬ a = (-1)) : (vp_in a Ac ∧ ki a.toNatClampNeg = 2) ∧ tr (fr a.toNatClampNeg).toNatClampNeg = tr f.toNatClampNeg := by
  obtain ⟨-, -, h | h⟩ := h
  · exact absurd h.1 c
  · exact ⟨h.2.1, h.2.2.1⟩
theorem kg_b (h : kGo E Ac tr ki fr to f a b l) (c : ¬ b = (-1)) : ¬ a = (-1) ∧ (vp_in b Ac ∧ ki b.toNatClampNeg = 2) ∧ tr (fr b.toNatClampNeg).toNatClampNeg = tr (to a.toNatClampNeg).toNatClampNeg ∧ tr l.toNatClampNeg = tr (to b.toNatClampNeg).toNatClampNeg := by
  obtain ⟨-, -, h | h⟩ := h
  · exact absurd h.2.1 c
  · rcases h.2.2.2 with q | q
    · exact absurd q.1 c
    · exact ⟨h.1, q.2⟩
theorem kg_0 (h : kGo E Ac tr ki fr to f a b l) (c : a = (-1)) : tr l.toNatClampNeg = tr f.toNatClampNeg := by
  obtain ⟨-, -, h | h⟩ := h
  · exact h.2.2
  · exact absurd c h.1
theorem kg_1 (h : kGo E Ac tr ki fr to f a b l) (c : ¬ a = (-1)) (d : b = (-1)) : tr l.toNatClampNeg = tr (to a.toNatClampNeg).toNatClampNeg := by
  obtain ⟨-, -, h | h⟩ := h
  · exact absurd h.1 c
  · rcases h.2.2.2 with q | q
    · exact q.2
    · exact absurd d q.1
/-- the train behind one change, as trainAfter answers -/
def kTa (Ac : Nat) (tr ki fr to : Nat → Int32) (q x t : Int32) : Prop := (t = q ∧ (x = (-1) ∨ q = (-1))) ∨ (t = (-1) ∧ (¬ (x = (-1) ∨ q = (-1)) ∧ ¬ ((vp_in x Ac ∧ ki x.toNatClampNeg = 2) ∧ tr (fr x.toNatClampNeg).toNatClampNeg = q))) ∨ (t = tr (to x.toNatClampNeg).toNatClampNeg ∧ (¬ (x = (-1) ∨ q = (-1)) ∧ ((vp_in x Ac ∧ ki x.toNatClampNeg = 2) ∧ tr (fr x.toNatClampNeg).toNatClampNeg = q)))
theorem kgo_iff {t1 t2 : Int32} (hT : ∀ i, i < E → vp_in (tr i) 16) (hto : ∀ i, i < Ac → vp_in (to i) E) (v1 : vp_in f E) (v4 : vp_in l E) (h1 : kTa Ac tr ki fr to (tr f.toNatClampNeg) a t1) (h2 : kTa Ac tr ki fr to t1 b t2) (h3 : ¬ (a = (-1) ∧ ¬ b = (-1))) : kGo E Ac tr ki fr to f a b l ↔ (¬ t2 = (-1) ∧ tr l.toNatClampNeg = t2) := by
  have nf : ¬ tr f.toNatClampNeg = (-1) := vp_nm1 (hT _ (vp_lt v1))
  have nt : ∀ x : Int32, vp_in x Ac → ¬ tr (to x.toNatClampNeg).toNatClampNeg = (-1) := fun x hx => vp_nm1 (hT _ (vp_lt (hto _ (vp_lt hx))))
  constructor
  · intro h
    by_cases ca : a = (-1)
    · have cb : b = (-1) := Classical.byContradiction (fun q => h3 ⟨ca, q⟩)
      have e1 : t1 = tr f.toNatClampNeg := by
        rcases h1 with q | q | q
        · exact q.1
        · exact absurd (Or.inl ca) q.2.1
        · exact absurd (Or.inl ca) q.2.1
      have e2 : t2 = t1 := by
        rcases h2 with q | q | q
        · exact q.1
        · exact absurd (Or.inl cb) q.2.1
        · exact absurd (Or.inl cb) q.2.1
      rw [e2, e1]
      exact ⟨nf, kg_0 h ca⟩
    · have ga := kg_a h ca
      have e1 : t1 = tr (to a.toNatClampNeg).toNatClampNeg := by
        rcases h1 with q | q | q
        · exact absurd q.2 (fun z => z.elim ca nf)
        · exact absurd ga q.2.2
        · exact q.1
      have n1 := nt a ga.1.1
      by_cases cb : b = (-1)
      · have e2 : t2 = t1 := by
          rcases h2 with q | q | q
          · exact q.1
          · exact absurd (Or.inl cb) q.2.1
          · exact absurd (Or.inl cb) q.2.1
        rw [e2, e1]
        exact ⟨n1, kg_1 h ca cb⟩
      · have gb := kg_b h cb
        have e2 : t2 = tr (to b.toNatClampNeg).toNatClampNeg := by
          rcases h2 with q | q | q
          · exact absurd q.2 (fun z => z.elim cb (by rw [e1]; exact n1))
          · exact absurd ⟨gb.2.1, by rw [e1]; exact gb.2.2.1⟩ q.2.2
          · exact q.1
        rw [e2]
        exact ⟨nt b gb.2.1.1, gb.2.2.2⟩
  · rintro ⟨n2, el⟩
    refine ⟨v1, v4, ?_⟩
    by_cases ca : a = (-1)
    · have cb : b = (-1) := Classical.byContradiction (fun q => h3 ⟨ca, q⟩)
      have e1 : t1 = tr f.toNatClampNeg := by
        rcases h1 with q | q | q
        · exact q.1
        · exact absurd (Or.inl ca) q.2.1
        · exact absurd (Or.inl ca) q.2.1
      have e2 : t2 = t1 := by
        rcases h2 with q | q | q
        · exact q.1
        · exact absurd (Or.inl cb) q.2.1
        · exact absurd (Or.inl cb) q.2.1
      exact Or.inl ⟨ca, cb, by rw [el, e2, e1]⟩
    · right
      rcases h1 with q | q | q
      · exact absurd q.2 (fun z => z.elim ca nf)
      · exfalso
        rcases h2 with q2 | q2 | q2
        · exact n2 (q2.1.trans q.1)
        · exact n2 q2.1
        · exact q2.2.1 (Or.inr q.1)
      · refine ⟨ca, q.2.2.1, q.2.2.2, ?_⟩
        rcases h2 with q2 | q2 | q2
        · rcases q2.2 with z | z
          · exact Or.inl ⟨z, by rw [el, q2.1, q.1]⟩
          · exact absurd (q.1.symm.trans z) (nt a q.2.2.1.1)
        · exact absurd q2.1 n2
        · exact Or.inr ⟨fun z => q2.2.1 (Or.inl z), q2.2.2.1, by rw [q2.2.2.2, q.1], by rw [el, q2.1]⟩
end ST10
/-! both desks the same: what each call keeps -/
theorem clamp_in9 {x y : Int32} {n : Nat} (hn : n < 2 ^ 31) (hx : vp_in x n) (hy : vp_in y n) (h : x.toNatClampNeg = y.toNatClampNeg) : x = y := by
  obtain ⟨i, hi, rfl⟩ := vp_in_of hx hn
  obtain ⟨j, hj, rfl⟩ := vp_in_of hy hn
  rw [nI_clamp (Nat.lt_trans hi hn), nI_clamp (Nat.lt_trans hj hn)] at h
  rw [h]
section SAME
variable {E N G n : Nat} {tb tb' : Nat → Bool} {pl so fr to le ki fi c1 c2 la wt mn cg ag K ke th ca tr : Nat → Int32}
theorem cOk_cong {ch ch' : Nat → Int32} (hf : ∀ a, a < N → (fr a).toNatClampNeg < E) (ht : ∀ a, a < N → (to a).toNatClampNeg < E) (hb : ∀ e, e < E → tb e = tb' e) (hc : agr n ch ch') : cOk E N tb pl so fr to le ch n K = cOk E N tb' pl so fr to le ch' n K := by
  funext w
  unfold cOk
  rw [kKp_cong hc n (Nat.le_refl _)]
  exact (krS_cong hf ht (hdB_cong hf ht hb)).1
theorem cCo_cong {ch ch' : Nat → Int32} (hf : ∀ a, a < N → (fr a).toNatClampNeg < E) (ht : ∀ a, a < N → (to a).toNatClampNeg < E) (hb : ∀ e, e < E → tb e = tb' e) (hc : agr n ch ch') (cf : cWf E N G fi c1 c2 la wt mn) : cCo E N G tb pl so fr to le fi c1 c2 la wt mn ch n K = cCo E N G tb' pl so fr to le fi c1 c2 la wt mn ch' n K := by
  obtain ⟨f1, f2, f3, f4, f5, f6, f7⟩ := cf
  funext w
  unfold cCo
  rw [kKp_cong hc n (Nat.le_refl _)]
  exact kSum_cong hf ht hb (krS_cong hf ht (hdB_cong hf ht hb)).2 f2 f3 f4 f5 G (Nat.le_refl _)
/-- the choice is the same on both sides -/
theorem choose_same (wf : krW E N pl so fr to le) (cf : cWf E N G fi c1 c2 la wt mn) (hb : ∀ e, e < E → tb e = tb' e) {r r' : Int64} {u u' : Nat → Int32}
    (h : (10 < (kGa tb ki fr to N cg).1 ∧ r = (-1) ∧ u = K) ∨ (¬ 10 < (kGa tb ki fr to N cg).1 ∧ r = chCo (cCo E N G tb pl so fr to le fi c1 c2 la wt mn (kGa tb ki fr to N cg).2 (kGa tb ki fr to N cg).1 K) (kCh E N G tb pl so fr to le ki fi c1 c2 la wt mn cg K) ∧ u = chFl (kGa tb ki fr to N cg).2 (kGa tb ki fr to N cg).1 K (kCh E N G tb pl so fr to le ki fi c1 c2 la wt mn cg K)))
    (h' : (10 < (kGa tb' ki fr to N ag).1 ∧ r' = (-1) ∧ u' = K) ∨ (¬ 10 < (kGa tb' ki fr to N ag).1 ∧ r' = chCo (cCo E N G tb' pl so fr to le fi c1 c2 la wt mn (kGa tb' ki fr to N ag).2 (kGa tb' ki fr to N ag).1 K) (kCh E N G tb' pl so fr to le ki fi c1 c2 la wt mn ag K) ∧ u' = chFl (kGa tb' ki fr to N ag).2 (kGa tb' ki fr to N ag).1 K (kCh E N G tb' pl so fr to le ki fi c1 c2 la wt mn ag K))) : r = r' ∧ u = u' := by
  have g := kGa_cong (ki := ki) wf.2.2.1 wf.2.2.2.1 hb cg ag N (Nat.le_refl _)
  rw [← g.1] at h'
  rcases h with h | h
  · rcases h' with h' | h'
    · exact ⟨h.2.1.trans h'.2.1.symm, h.2.2.trans h'.2.2.symm⟩
    · exact absurd h.1 h'.1
  · rcases h' with h' | h'
    · exact absurd h'.1 h.1
    · have e1 := cCo_cong (pl := pl) (so := so) (K := K) (le := le) wf.2.2.1 wf.2.2.2.1 hb g.2 cf
      have e2 := cOk_cong (pl := pl) (so := so) (K := K) (le := le) wf.2.2.1 wf.2.2.2.1 hb g.2
      have e3 : kCh E N G tb pl so fr to le ki fi c1 c2 la wt mn cg K = kCh E N G tb' pl so fr to le ki fi c1 c2 la wt mn ag K := by
        unfold kCh
        rw [e1, e2, g.1]
      rw [← e3, ← e1] at h'
      refine ⟨h.2.1.trans h'.2.1.symm, ?_⟩
      rw [h.2.2, h'.2.2]
      match kCh E N G tb pl so fr to le ki fi c1 c2 la wt mn cg K with
      | none => rfl
      | some v => exact kKp_cong g.2 _ (Nat.le_refl _)
theorem chFl_b (hK : ∀ a, (K a = 0 ∨ K a = 1)) {ch : Nat → Int32} : ∀ (o : Option Nat) (a : Nat), (chFl ch n K o a = 0 ∨ chFl ch n K o a = 1) := by
  intro o
  match o with
  | none => exact hK
  | some v => exact kKp_b hK n
theorem choose_b (hK : ∀ a, (K a = 0 ∨ K a = 1)) {r : Int64} {u : Nat → Int32} {P : Prop} {ch : Nat → Int32} {m : Nat} {o : Option Nat} {Q R S : Prop} (h : (P ∧ Q ∧ u = K) ∨ (R ∧ S ∧ u = chFl ch m K o)) : ∀ a, (u a = 0 ∨ u a = 1) := by
  rcases h with h | h
  · rw [h.2.2]; exact hK
  · rw [h.2.2]; exact chFl_b hK o
theorem upd_b (hK : ∀ a, (K a = 0 ∨ K a = 1)) {k : Nat} {v : Int32} (hv : v = 0 ∨ v = 1) : ∀ a, (upd K k v a = 0 ∨ upd K k v a = 1) := by
  intro a
  by_cases x : a = k
  · subst x; rw [pk_us]; exact hv
  · rw [pk_un x]; exact hK a
theorem kRs_b (hK : ∀ a, (K a = 0 ∨ K a = 1)) {w x : Int32} : ∀ a, (kRs E N tb pl so fr to le w x K a = 0 ∨ kRs E N tb pl so fr to le w x K a = 1) := by
  unfold kRs
  split
  · split
    · exact upd_b hK (Or.inr rfl)
    · exact upd_b (upd_b hK (Or.inr rfl)) (Or.inl rfl)
  · exact hK
theorem kRu_b {w : Int32} {od : Nat → Int32} (hK : ∀ a, (K a = 0 ∨ K a = 1)) : ∀ k a, (kRu E N tb pl so fr to le w od k K a = 0 ∨ kRu E N tb pl so fr to le w od k K a = 1) := by
  intro k
  induction k with
  | zero => exact hK
  | succ k ih => rw [kRu]; exact kRs_b ih
theorem kBS_b (hK : ∀ a, (ke a = 0 ∨ ke a = 1)) {od : Nat → Int32} : ∀ k a, ((kBS tb pl ki fr to k od ke).2.2 a = 0 ∨ (kBS tb pl ki fr to k od ke).2.2 a = 1) := by
  intro k
  induction k with
  | zero => exact hK
  | succ k ih =>
    rw [kBS]
    split
    · split
      · exact upd_b ih (Or.inl rfl)
      · exact upd_b ih (Or.inl rfl)
    · exact ih
theorem kBS_in {od : Nat → Int32} (hN : N ≤ 100) : ∀ k, k ≤ N → (kBS tb pl ki fr to k od ke).1 ≤ k ∧ ∀ i, i < (kBS tb pl ki fr to k od ke).1 → ((kBS tb pl ki fr to k od ke).2.1 i).toNatClampNeg < N := by
  intro k
  induction k with
  | zero => intro _; exact ⟨Nat.le_refl _, fun i hi => absurd hi (Nat.not_lt_zero _)⟩
  | succ k ih =>
    intro hk
    have i1 := ih (by omega)
    rw [kBS]
    split
    · split
      · refine ⟨by show _ + 1 ≤ _; omega, ?_⟩
        show ∀ i, i < (kBS tb pl ki fr to k od ke).1 + 1 → (kIns pl to (nI k) (kBS tb pl ki fr to k od ke).1 (kBS tb pl ki fr to k od ke).2.1 i).toNatClampNeg < N
        have gen : ∀ (g : Nat) (o : Nat → Int32), g ≤ (kBS tb pl ki fr to k od ke).1 → (∀ i, i < (kBS tb pl ki fr to k od ke).1 + 1 → ¬ i = g → (o i).toNatClampNeg < N) → ∀ i, i < (kBS tb pl ki fr to k od ke).1 + 1 → (kIns pl to (nI k) g o i).toNatClampNeg < N := by
          intro g
          have ck : (nI k).toNatClampNeg = k := nI_clamp (by omega)
          induction g with
          | zero =>
            intro o _ ho i hi
            rw [kIns]
            by_cases y : i = 0
            · rw [y, pk_us, ck]; omega
            · rw [pk_un y]; exact ho i hi y
          | succ g ihg =>
            intro o hg ho i hi
            rw [kIns]
            split
            · refine ihg _ (by omega) (fun i' hi' y => ?_) i hi
              by_cases z : i' = g + 1
              · rw [z, pk_us]; exact ho g (by omega) (by omega)
              · rw [pk_un z]; exact ho i' hi' z
            · by_cases z : i = g + 1
              · rw [z, pk_us, ck]; omega
              · rw [pk_un z]; exact ho i hi z
        exact gen _ _ (Nat.le_refl _) (fun i hi y => i1.2 i (by omega))
      · exact ⟨by show _ ≤ _; have := i1.1; omega, i1.2⟩
    · exact ⟨by have := i1.1; omega, i1.2⟩
/-- the rule is the same on both sides -/
theorem rule_same {w : Int32} {od ad u u' : Nat → Int32} (wf : krW E N pl so fr to le) (hb : ∀ e, e < E → tb e = tb' e) (h : u = kRu E N tb pl so fr to le w (kBS tb pl ki fr to N od ke).2.1 (kBS tb pl ki fr to N od ke).1 (kBS tb pl ki fr to N od ke).2.2) (h' : u' = kRu E N tb' pl so fr to le w (kBS tb' pl ki fr to N ad ke).2.1 (kBS tb' pl ki fr to N ad ke).1 (kBS tb' pl ki fr to N ad ke).2.2) : u = u' := by
  obtain ⟨g1, g2, g3⟩ := kBS_cong (pl := pl) (ki := ki) (ke := ke) wf.2.2.1 wf.2.2.2.1 hb od ad N (Nat.le_refl _)
  rw [h, h', ← g1, ← g2]
  exact kRu_cong wf.2.2.1 wf.2.2.2.1 hb g3 (kBS_in wf.2.1 N (Nat.le_refl _)).2 _ (Nat.le_refl _)
theorem rule_b {w : Int32} {od u : Nat → Int32} (hK : ∀ a, (ke a = 0 ∨ ke a = 1)) (h : u = kRu E N tb pl so fr to le w (kBS tb pl ki fr to N od ke).2.1 (kBS tb pl ki fr to N od ke).1 (kBS tb pl ki fr to N od ke).2.2) : ∀ a, (u a = 0 ∨ u a = 1) := by
  rw [h]; exact kRu_b (kBS_b hK N) _
-- ranges
theorem upd_r {f : Nat → Int32} {k : Nat} {v : Int32} {A B : Int} (h : ∀ e, e < k → A ≤ (f e).toInt ∧ (f e).toInt ≤ B) (hv : A ≤ v.toInt ∧ v.toInt ≤ B) : ∀ e, e < k + 1 → A ≤ (upd f k v e).toInt ∧ (upd f k v e).toInt ≤ B := by
  intro e he
  by_cases x : e = k
  · subst x; rw [pk_us]; exact hv
  · rw [pk_un x]; exact h e (by omega)
theorem upd_s {f : Nat → Int32} {k j : Nat} {v : Int32} {A B : Int} (h : ∀ e, e < k → A ≤ (f e).toInt ∧ (f e).toInt ≤ B) (hv : A ≤ v.toInt ∧ v.toInt ≤ B) : ∀ e, e < k → A ≤ (upd f j v e).toInt ∧ (upd f j v e).toInt ≤ B := by
  intro e he
  by_cases x : e = j
  · subst x; rw [pk_us]; exact hv
  · rw [pk_un x]; exact h e he
theorem upd_c {f : Nat → Int32} {k m : Nat} {v : Int32} (h : ∀ e, e < k → (f e).toNatClampNeg < m) (hv : v.toNatClampNeg < m) : ∀ e, e < k + 1 → (upd f k v e).toNatClampNeg < m := by
  intro e he
  by_cases x : e = k
  · subst x; rw [pk_us]; exact hv
  · rw [pk_un x]; exact h e (by omega)
theorem upd_cs {f : Nat → Int32} {k j m : Nat} {v : Int32} (h : ∀ e, e < k → (f e).toNatClampNeg < m) (hv : v.toNatClampNeg < m) : ∀ e, e < k → (upd f j v e).toNatClampNeg < m := by
  intro e he
  by_cases x : e = j
  · subst x; rw [pk_us]; exact hv
  · rw [pk_un x]; exact h e he
theorem upd_o {f : Nat → Int32} {k m : Nat} {v : Int32} (h : ∀ e, e < k → (f e = (-1) ∨ (f e).toNatClampNeg < m)) (hv : v = (-1) ∨ v.toNatClampNeg < m) : ∀ e, e < k + 1 → (upd f k v e = (-1) ∨ (upd f k v e).toNatClampNeg < m) := by
  intro e he
  by_cases x : e = k
  · subst x; rw [pk_us]; exact hv
  · rw [pk_un x]; exact h e (by omega)
theorem wf_ev {p1 : Int32} (wf : krW E N pl so fr to le) (hE : E < 60) (hp : 0 ≤ p1 ∧ p1 ≤ 2000) : krW (E + 1) N (upd pl E p1) (upd so E 0) fr to le := by
  obtain ⟨w1, w2, w3, w4, w5, w6, w7⟩ := wf
  exact ⟨by omega, w2, fun a ha => Nat.lt_succ_of_lt (w3 a ha), fun a ha => Nat.lt_succ_of_lt (w4 a ha), w5, upd_r w6 (i32_in (A := 0) (B := 2000) rfl rfl hp), upd_r w7 ⟨by decide, by decide⟩⟩
theorem wf_ac {f1 f2 f3 : Int32} (wf : krW E N pl so fr to le) (hN : N < 100) (h1 : vp_in f1 E) (h2 : vp_in f2 E) (h3 : 0 ≤ f3 ∧ f3 ≤ 500) : krW E (N + 1) pl so (upd fr N f1) (upd to N f2) (upd le N f3) := by
  obtain ⟨w1, w2, w3, w4, w5, w6, w7⟩ := wf
  exact ⟨w1, by omega, upd_c w3 (vp_lt h1), upd_c w4 (vp_lt h2), upd_r w5 (i32_in (A := 0) (B := 500) rfl rfl h3), w6, w7⟩
theorem wf_so {e0 f1 : Int32} (wf : krW E N pl so fr to le) (h : 0 ≤ f1 ∧ f1 ≤ 500) : krW E N pl (upd so e0.toNatClampNeg f1) fr to le := by
  obtain ⟨w1, w2, w3, w4, w5, w6, w7⟩ := wf
  exact ⟨w1, w2, w3, w4, w5, w6, upd_s w7 (i32_in (A := 0) (B := 500) rfl rfl h)⟩
theorem wf_tu {e0 : Int32} (wf : krW E N pl so fr to le) (h : vp_in e0 N) : krW E N pl so (upd fr e0.toNatClampNeg (to e0.toNatClampNeg)) (upd to e0.toNatClampNeg (fr e0.toNatClampNeg)) le := by
  obtain ⟨w1, w2, w3, w4, w5, w6, w7⟩ := wf
  exact ⟨w1, w2, upd_cs w3 (w4 _ (vp_lt h)), upd_cs w4 (w3 _ (vp_lt h)), w5, w6, w7⟩
theorem cf_ev (cf : cWf E N G fi c1 c2 la wt mn) : cWf (E + 1) N G fi c1 c2 la wt mn := by
  obtain ⟨f1, f2, f3, f4, f5, f6, f7⟩ := cf
  exact ⟨f1, fun g hg => Nat.lt_succ_of_lt (f2 g hg), f3, f4, fun g hg => Nat.lt_succ_of_lt (f5 g hg), f6, f7⟩
theorem cf_ac (cf : cWf E N G fi c1 c2 la wt mn) : cWf E (N + 1) G fi c1 c2 la wt mn := by
  obtain ⟨f1, f2, f3, f4, f5, f6, f7⟩ := cf
  exact ⟨f1, f2, fun g hg => (f3 g hg).imp id Nat.lt_succ_of_lt, fun g hg => (f4 g hg).imp id Nat.lt_succ_of_lt, f5, f6, f7⟩
theorem kg_c {f a b l : Int32} (h : kGo E N tr ki fr to f a b l) : (a = (-1) ∨ vp_in a N) ∧ (b = (-1) ∨ vp_in b N) := by
  refine ⟨?_, ?_⟩
  · by_cases c : a = (-1)
    · exact Or.inl c
    · exact Or.inr (kg_a h c).1.1
  · by_cases c : b = (-1)
    · exact Or.inl c
    · exact Or.inr (kg_b h c).2.1.1
theorem cf_gr {g1 g2 g3 g4 g5 g6 : Int32} (cf : cWf E N G fi c1 c2 la wt mn) (hG : G < 30) (h : (1 ≤ g1 ∧ g1 ≤ 1000) ∧ (0 ≤ g6 ∧ g6 ≤ 1000) ∧ kGo E N tr ki fr to g2 g3 g4 g5) : cWf E N (G + 1) (upd fi G g2) (upd c1 G g3) (upd c2 G g4) (upd la G g5) (upd wt G g6) (upd mn G g1) := by
  obtain ⟨f1, f2, f3, f4, f5, f6, f7⟩ := cf
  have k := kg_c h.2.2
  have m := i32_in (A := 1) (B := 1000) rfl rfl h.1
  exact ⟨by omega, upd_c f2 (vp_lt h.2.2.1), upd_o f3 (k.1.imp id vp_lt), upd_o f4 (k.2.imp id vp_lt), upd_c f5 (vp_lt h.2.2.2.1), upd_r f6 (i32_in (A := 0) (B := 1000) rfl rfl h.2.1), upd_r f7 (by omega)⟩
-- there
theorem th_ev {u : Nat → Int32} {t1 : Int32} (h : ∀ e, e < E → tbC th e = tbM ca tr e) (hu : (∀ e, ¬ e = E → u e = th e) ∧ (¬ u E = 0 ↔ ca t1.toNatClampNeg = 0)) : ∀ e, e < E + 1 → tbC u e = tbM ca (upd tr E t1) e := by
  intro e he
  by_cases x : e = E
  · subst x
    unfold tbC tbM
    rw [pk_us]
    exact decide_eq_decide.mpr hu.2
  · have := h e (by omega)
    unfold tbC tbM at this ⊢
    rw [pk_un x, hu.1 e x]
    exact this
theorem th_ca {u : Nat → Int32} {t1 b1 : Int32} (hT : ∀ e, e < E → vp_in (tr e) 16) (ht : 0 ≤ t1 ∧ t1 ≤ 15) (hb : b1 = 0 ∨ b1 = 1) (h : ∀ e, e < E → tbC th e = tbM ca tr e) (hu : ∀ e, (e < E → (tr e = t1 → (¬ u e = 0 ↔ b1 = 0)) ∧ (¬ tr e = t1 → u e = th e)) ∧ (E ≤ e → u e = th e)) : ∀ e, e < E → tbC u e = tbM (upd ca t1.toNatClampNeg (vp_nar .boolean b1)) tr e := by
  intro e he
  have q := (hu e).1 he
  by_cases x : tr e = t1
  · unfold tbC tbM
    rw [x, pk_us, nar_b hb]
    exact decide_eq_decide.mpr (q.1 x)
  · have := h e he
    unfold tbC tbM at this ⊢
    rw [q.2 x, pk_un (fun z => x (clamp_in9 (n := 16) (by omega) (hT e he) (in16 ht) z))]
    exact this
end SAME
/-! the answers that need the spread -/
section ANS
def kKn (S : Bool × (Nat → Int32)) (E : Nat) (sk hs : Int32) (mi : Nat → Int32) : Prop := ¬ sk = 0 → (((hs = 1 ∧ S.1 = true) ∨ (hs = 0 ∧ S.1 = false)) ∧ (S.1 = true → agr E mi S.2))
variable {S S' : Bool × (Nat → Int32)} {E G N : Nat} {sk hs : Int32} {mi pl so tr fr to le ke fi c1 c2 la wt mn nw u13 u24 : Nat → Int32} {tb tb' : Nat → Bool} {e0 w0 : Int32}
theorem kn_0 : kKn S E 0 hs mi := fun h => absurd rfl h
theorem kn_r (h : kKn S E sk hs mi) (c : ¬ sk = 0) (hb : hs = 1 ∨ hs = 0) : (hs = 1 ∧ (S.1 = true ∧ agr E mi S.2 ∧ kKn S E sk hs mi ∧ (hs = 1 ∨ hs = 0))) ∨ (hs = 0 ∧ (S.1 = false ∧ kKn S E sk hs mi ∧ (hs = 1 ∨ hs = 0))) := by
  obtain ⟨h1, h2⟩ := h c
  rcases h1 with q | q
  · exact Or.inl ⟨q.1, q.2, h2 q.2, h, hb⟩
  · exact Or.inr ⟨q.1, q.2, h, hb⟩
theorem kn_1 {h : Nat → Bool} (wf : krW E N pl so fr to le) (q : (krT fr to le h N (E + 1) u13).1 = true ∧ u24 = (krT fr to le h N (E + 1) u13).2) (e : u13 = krI E pl so nw) : ((krS E N pl so fr to le h).1 = true ∧ agr E u24 (krS E N pl so fr to le h).2 ∧ kKn (krS E N pl so fr to le h) E 1 1 u24 ∧ ((1 : Int32) = 1 ∨ (1 : Int32) = 0)) :=
  ⟨fo_s q e wf, fo_n q e wf, fun _ => ⟨Or.inl ⟨rfl, fo_s q e wf⟩, fun _ => fo_n q e wf⟩, Or.inl rfl⟩
theorem kn_f {h : Nat → Bool} (wf : krW E N pl so fr to le) (q : (krT fr to le h N (E + 1) u13).1 = false ∧ u24 = (krT fr to le h N (E + 1) u13).2) (e : u13 = krI E pl so nw) : ((krS E N pl so fr to le h).1 = false ∧ kKn (krS E N pl so fr to le h) E 1 0 u24 ∧ ((0 : Int32) = 1 ∨ (0 : Int32) = 0)) := by
  have s : (krS E N pl so fr to le h).1 = false := by rw [← (krS_of wf e).1]; exact q.1
  exact ⟨s, fun _ => ⟨Or.inr ⟨rfl, s⟩, fun z => by rw [s] at z; exact Bool.noConfusion z⟩, Or.inr rfl⟩
def kSr (S : Bool × (Nat → Int32)) : Int32 := if S.1 = true then 1 else 0
theorem sr_1 (h : S.1 = true) : 1 = kSr S := by unfold kSr; rw [if_pos h]
theorem sr_0 (h : S.1 = false) : 0 = kSr S := by unfold kSr; rw [if_neg (by rw [h]; exact Bool.noConfusion)]
def kOf (E : Nat) (tb : Nat → Bool) (S : Bool × (Nat → Int32)) (tr pl so : Nat → Int32) (e0 w0 : Int32) : Int32 :=
  if 0 ≤ e0.toInt ∧ e0.toInt < (E : Int) then (if w0 = 0 then (if S.1 = true ∧ tb e0.toNatClampNeg = true then S.2 e0.toNatClampNeg else (-1)) else if w0 = 1 then (if S.1 = true ∧ tb e0.toNatClampNeg = true then S.2 e0.toNatClampNeg - pl e0.toNatClampNeg else (-1)) else if w0 = 2 then pl e0.toNatClampNeg else if w0 = 3 then so e0.toNatClampNeg else if w0 = 4 then tr e0.toNatClampNeg else (-1)) else (-1)
theorem of_n (h : ¬ vp_in e0 E) : (-1) = kOf E tb S tr pl so e0 w0 := by unfold kOf; rw [if_neg (fun z => h (vp_in_iff.mpr z))]
theorem of_0 (h : vp_in e0 E) (w : w0 = 0) (s : S.1 = true) (t : tb e0.toNatClampNeg = true) (m : agr E mi S.2) : mi e0.toNatClampNeg = kOf E tb S tr pl so e0 w0 := by
  unfold kOf; rw [if_pos (vp_in_iff.mp h), if_pos w, if_pos ⟨s, t⟩]; exact m _ (vp_lt h)
theorem of_0a (h : vp_in e0 E) (w : w0 = 0) (s : S.1 = false ∨ tb e0.toNatClampNeg = false) : (-1) = kOf E tb S tr pl so e0 w0 := by
  unfold kOf; rw [if_pos (vp_in_iff.mp h), if_pos w, if_neg]; rintro ⟨a, b⟩; rcases s with s | s
  · rw [s] at a; exact Bool.noConfusion a
  · rw [s] at b; exact Bool.noConfusion b
theorem of_1 (h : vp_in e0 E) (w : w0 = 1) (s : S.1 = true) (t : tb e0.toNatClampNeg = true) (m : agr E mi S.2) : mi e0.toNatClampNeg - pl e0.toNatClampNeg = kOf E tb S tr pl so e0 w0 := by
  unfold kOf; rw [if_pos (vp_in_iff.mp h), if_neg (by rw [w]; decide), if_pos w, if_pos ⟨s, t⟩, m _ (vp_lt h)]
theorem of_1a (h : vp_in e0 E) (w : w0 = 1) (s : S.1 = false ∨ tb e0.toNatClampNeg = false) : (-1) = kOf E tb S tr pl so e0 w0 := by
  unfold kOf; rw [if_pos (vp_in_iff.mp h), if_neg (by rw [w]; decide), if_pos w, if_neg]; rintro ⟨a, b⟩; rcases s with s | s
  · rw [s] at a; exact Bool.noConfusion a
  · rw [s] at b; exact Bool.noConfusion b
theorem of_2 (h : vp_in e0 E) (w : w0 = 2) : pl e0.toNatClampNeg = kOf E tb S tr pl so e0 w0 := by
  unfold kOf; rw [if_pos (vp_in_iff.mp h), if_neg (by rw [w]; decide), if_neg (by rw [w]; decide), if_pos w]
theorem of_3 (h : vp_in e0 E) (w : w0 = 3) : so e0.toNatClampNeg = kOf E tb S tr pl so e0 w0 := by
  unfold kOf; rw [if_pos (vp_in_iff.mp h), if_neg (by rw [w]; decide), if_neg (by rw [w]; decide), if_neg (by rw [w]; decide), if_pos w]
theorem of_4 (h : vp_in e0 E) (w : w0 = 4) : tr e0.toNatClampNeg = kOf E tb S tr pl so e0 w0 := by
  unfold kOf; rw [if_pos (vp_in_iff.mp h), if_neg (by rw [w]; decide), if_neg (by rw [w]; decide), if_neg (by rw [w]; decide), if_neg (by rw [w]; decide), if_pos w]
theorem of_d (h : vp_in e0 E) (w : ¬ w0 = 0) (w1 : ¬ w0 = 1) (w2 : ¬ w0 = 2) (w3 : ¬ w0 = 3) (w4 : ¬ w0 = 4) : (-1) = kOf E tb S tr pl so e0 w0 := by
  unfold kOf; rw [if_pos (vp_in_iff.mp h), if_neg w, if_neg w1, if_neg w2, if_neg w3, if_neg w4]
theorem of_same (hb : ∀ e, e < E → tb e = tb' e) (h1 : S.1 = S'.1) (h2 : agr E S.2 S'.2) : kOf E tb S tr pl so e0 w0 = kOf E tb' S' tr pl so e0 w0 := by
  unfold kOf
  by_cases c : 0 ≤ e0.toInt ∧ e0.toInt < (E : Int)
  · have v := vp_lt (vp_in_iff.mpr c)
    rw [if_pos c, if_pos c, h1, hb _ v, h2 _ v]
  · rw [if_neg c, if_neg c]
def kTo (G : Nat) (tb : Nat → Bool) (S : Bool × (Nat → Int32)) (ke fr to le fi c1 c2 pl la wt mn : Nat → Int32) (e0 w0 : Int32) : Int32 :=
  if 0 ≤ e0.toInt ∧ e0.toInt < (G : Int) then (if w0 = 2 then mn e0.toNatClampNeg else if w0 = 0 then (if S.1 = true then kLat tb ke fr to le S.2 fi c1 c2 pl la wt e0.toNatClampNeg else (-1)) else if w0 = 1 then (if S.1 = true then (if kStr tb ke fr to le S.2 fi c1 c2 e0.toNatClampNeg = true then 1 else 0) else (-1)) else (-1)) else (-1)
theorem to_n (h : ¬ vp_in e0 G) : (-1) = kTo G tb S ke fr to le fi c1 c2 pl la wt mn e0 w0 := by unfold kTo; rw [if_neg (fun z => h (vp_in_iff.mpr z))]
theorem to_2 (h : vp_in e0 G) (w : w0 = 2) : mn e0.toNatClampNeg = kTo G tb S ke fr to le fi c1 c2 pl la wt mn e0 w0 := by unfold kTo; rw [if_pos (vp_in_iff.mp h), if_pos w]
theorem to_x (h : vp_in e0 G) (w : w0 = 0 ∨ w0 = 1) (s : S.1 = false) : (-1) = kTo G tb S ke fr to le fi c1 c2 pl la wt mn e0 w0 := by
  unfold kTo
  have s' : ¬ S.1 = true := by rw [s]; exact Bool.noConfusion
  rcases w with w | w
  · rw [if_pos (vp_in_iff.mp h), if_neg (by rw [w]; decide), if_pos w, if_neg s']
  · rw [if_pos (vp_in_iff.mp h), if_neg (by rw [w]; decide), if_neg (by rw [w]; decide), if_pos w, if_neg s']
theorem to_d (h : vp_in e0 G) (w : ¬ w0 = 0) (w1 : ¬ w0 = 1) (w2 : ¬ w0 = 2) : (-1) = kTo G tb S ke fr to le fi c1 c2 pl la wt mn e0 w0 := by
  unfold kTo; rw [if_pos (vp_in_iff.mp h), if_neg w2, if_neg w, if_neg w1]
theorem to_0 {v : Int32} (wf : krW E N pl so fr to le) (cf : cWf E N G fi c1 c2 la wt mn) (h : vp_in e0 G) (w : w0 = 0) (s : S.1 = true) (m : agr E mi S.2) (e : v = kLat tb ke fr to le mi fi c1 c2 pl la wt e0.toNatClampNeg) : v = kTo G tb S ke fr to le fi c1 c2 pl la wt mn e0 w0 := by
  obtain ⟨f1, f2, f3, f4, f5, f6, f7⟩ := cf
  have g := vp_lt h
  unfold kTo
  rw [if_pos (vp_in_iff.mp h), if_neg (by rw [w]; decide), if_pos w, if_pos s, e]
  exact kLat_cong wf.2.2.1 wf.2.2.2.1 (fun _ _ => rfl) m (f2 _ g) (f3 _ g) (f4 _ g) (f5 _ g)
theorem to_1 {v : Int32} (wf : krW E N pl so fr to le) (cf : cWf E N G fi c1 c2 la wt mn) (h : vp_in e0 G) (w : w0 = 1) (s : S.1 = true) (m : agr E mi S.2) (e : (v = 1 ∧ kStr tb ke fr to le mi fi c1 c2 e0.toNatClampNeg = true) ∨ (v = 0 ∧ kStr tb ke fr to le mi fi c1 c2 e0.toNatClampNeg = false)) : v = kTo G tb S ke fr to le fi c1 c2 pl la wt mn e0 w0 := by
  obtain ⟨f1, f2, f3, f4, f5, f6, f7⟩ := cf
  have g := vp_lt h
  unfold kTo
  rw [if_pos (vp_in_iff.mp h), if_neg (by rw [w]; decide), if_neg (by rw [w]; decide), if_pos w, if_pos s, ← kStr_cong (r := mi) (tb := tb) wf.2.2.1 wf.2.2.2.1 (fun _ _ => rfl) m (f2 _ g) (f3 _ g) (f4 _ g)]
  rcases e with e | e
  · rw [e.2, e.1]; rfl
  · rw [e.2, e.1]; rfl
theorem to_same (wf : krW E N pl so fr to le) (cf : cWf E N G fi c1 c2 la wt mn) (hb : ∀ e, e < E → tb e = tb' e) (h1 : S.1 = S'.1) (h2 : agr E S.2 S'.2) : kTo G tb S ke fr to le fi c1 c2 pl la wt mn e0 w0 = kTo G tb' S' ke fr to le fi c1 c2 pl la wt mn e0 w0 := by
  obtain ⟨f1, f2, f3, f4, f5, f6, f7⟩ := cf
  unfold kTo
  by_cases c : 0 ≤ e0.toInt ∧ e0.toInt < (G : Int)
  · have g := vp_lt (vp_in_iff.mpr c)
    rw [if_pos c, if_pos c, h1, kLat_cong (pl := pl) (wt := wt) (ke := ke) (le := le) wf.2.2.1 wf.2.2.2.1 hb h2 (f2 _ g) (f3 _ g) (f4 _ g) (f5 _ g), kStr_cong (ke := ke) (le := le) wf.2.2.1 wf.2.2.2.1 hb h2 (f2 _ g) (f3 _ g) (f4 _ g)]
  · rw [if_neg c, if_neg c]
def kCs (G : Nat) (tb : Nat → Bool) (S : Bool × (Nat → Int32)) (ke fr to le fi c1 c2 pl la wt mn : Nat → Int32) : Int64 := if S.1 = true then kSum tb ke fr to le S.2 fi c1 c2 pl la wt mn G else (-1)
theorem cs_1 {v : Int64} (wf : krW E N pl so fr to le) (cf : cWf E N G fi c1 c2 la wt mn) (s : S.1 = true) (m : agr E mi S.2) (e : v = kSum tb ke fr to le mi fi c1 c2 pl la wt mn G) : v = kCs G tb S ke fr to le fi c1 c2 pl la wt mn := by
  obtain ⟨f1, f2, f3, f4, f5, f6, f7⟩ := cf
  unfold kCs; rw [if_pos s, e]
  exact kSum_cong wf.2.2.1 wf.2.2.2.1 (fun _ _ => rfl) m f2 f3 f4 f5 G (Nat.le_refl _)
theorem cs_0 (s : S.1 = false) : (-1) = kCs G tb S ke fr to le fi c1 c2 pl la wt mn := by unfold kCs; rw [if_neg (by rw [s]; exact Bool.noConfusion)]
theorem cs_same (wf : krW E N pl so fr to le) (cf : cWf E N G fi c1 c2 la wt mn) (hb : ∀ e, e < E → tb e = tb' e) (h1 : S.1 = S'.1) (h2 : agr E S.2 S'.2) : kCs G tb S ke fr to le fi c1 c2 pl la wt mn = kCs G tb' S' ke fr to le fi c1 c2 pl la wt mn := by
  obtain ⟨f1, f2, f3, f4, f5, f6, f7⟩ := cf
  unfold kCs
  rw [h1, kSum_cong (pl := pl) (wt := wt) (mn := mn) (ke := ke) (le := le) wf.2.2.1 wf.2.2.2.1 hb h2 f2 f3 f4 f5 G (Nat.le_refl _)]
theorem S_same (wf : krW E N pl so fr to le) (hb : ∀ e, e < E → tb e = tb' e) : (krS E N pl so fr to le (hdB tb ke fr to)).1 = (krS E N pl so fr to le (hdB tb' ke fr to)).1 ∧ agr E (krS E N pl so fr to le (hdB tb ke fr to)).2 (krS E N pl so fr to le (hdB tb' ke fr to)).2 :=
  krS_cong wf.2.2.1 wf.2.2.2.1 (hdB_cong wf.2.2.1 wf.2.2.2.1 hb)
end ANS
theorem fo_f {fr to le pl so : Nat → Int32} {E N : Nat} {h : Nat → Bool} {nw u13 u24 : Nat → Int32} (q : (krT fr to le h N (E + 1) u13).1 = false ∧ u24 = (krT fr to le h N (E + 1) u13).2) (e : u13 = krI E pl so nw) (wf : krW E N pl so fr to le) : (krS E N pl so fr to le h).1 = false := by
  rw [← (krS_of wf e).1]; exact q.1
theorem w_01 {w0 : Int32} (h1 : ¬ w0 < 0) (h2 : w0 ≤ 2) (h3 : ¬ w0 = 2) : w0 = 0 ∨ w0 = 1 := by
  rw [Int32.lt_iff_toInt_lt] at h1
  rw [Int32.le_iff_toInt_le] at h2
  have e0 : (0 : Int32).toInt = 0 := rfl
  have e1 : (1 : Int32).toInt = 1 := rfl
  have e2 : (2 : Int32).toInt = 2 := rfl
  have n2 : ¬ w0.toInt = 2 := fun q => h3 (Int32.toInt_inj.mp (q.trans e2.symm))
  rcases Int.lt_or_le w0.toInt 1 with q | q
  · exact Or.inl (Int32.toInt_inj.mp (by rw [e0]; omega))
  · exact Or.inr (Int32.toInt_inj.mp (by rw [e1]; omega))
theorem sr_same {fr to le pl so ke : Nat → Int32} {E N : Nat} {tb tb' : Nat → Bool} (wf : krW E N pl so fr to le) (hb : ∀ e, e < E → tb e = tb' e) : kSr (krS E N pl so fr to le (hdB tb ke fr to)) = kSr (krS E N pl so fr to le (hdB tb' ke fr to)) := by
  unfold kSr; rw [(S_same wf hb).1]
/-! the late ones: how many, how much, the latest; sums over flags -/
section LATE
def kLt (tb : Nat → Bool) (pl r : Nat → Int32) : Nat → Bool := fun e => tb e && decide (pl e < r e)
def kAd (P : Nat → Bool) (v : Nat → Int32) : Nat → Int32
  | 0 => 0
  | n + 1 => if P n = true then kAd P v n + v n else kAd P v n
def kMx (P : Nat → Bool) (r : Nat → Int32) : Nat → Int32
  | 0 => (-1)
  | n + 1 => if P n = true then (if kMx P r n < r n then r n else kMx P r n) else kMx P r n
variable {P Q : Nat → Bool} {v q r pl th mi so fr to le : Nat → Int32} {z : Int32} {k E N : Nat} {tb tb' : Nat → Bool} {S S' : Bool × (Nat → Int32)}
theorem ad_1 (e : z = kAd P v k) (h : P k = true) : z + v k = kAd P v (k + 1) := by rw [kAd, if_pos h, e]
theorem ad_0 (e : z = kAd P v k) (h : P k = false) : z = kAd P v (k + 1) := by rw [kAd, if_neg (by rw [h]; exact Bool.noConfusion), e]
theorem ad_00 (e : z = kAd P v k) (h : P k = false) : z + 0 = kAd P v (k + 1) := by rw [Int32.add_zero]; exact ad_0 e h
theorem mx_1 (e : z = kMx P r k) (h : P k = true) : (if z < r k then r k else z) = kMx P r (k + 1) := by rw [kMx, if_pos h, e]
theorem mx_a (e : z = kMx P r k) (h : P k = true) (c : ¬ r k ≤ z) : r k = kMx P r (k + 1) := by rw [kMx, if_pos h, ← e, if_pos (i32_nle c)]
theorem mx_b (e : z = kMx P r k) (h : P k = true) (c : r k ≤ z) : z = kMx P r (k + 1) := by
  rw [kMx, if_pos h, ← e, if_neg (by rw [Int32.lt_iff_toInt_lt]; rw [Int32.le_iff_toInt_le] at c; omega)]
theorem mx_0 (e : z = kMx P r k) (h : P k = false) : z = kMx P r (k + 1) := by rw [kMx, if_neg (by rw [h]; exact Bool.noConfusion), e]
theorem lq_1 (c : tb k = true) (d : ¬ r k ≤ pl k) : kLt tb pl r k = true := by unfold kLt; rw [c, decide_eq_true (i32_nle d)]; rfl
theorem lq_0 (d : r k ≤ pl k) : kLt tb pl r k = false := by
  unfold kLt; rw [decide_eq_false (by rw [Int32.lt_iff_toInt_lt]; rw [Int32.le_iff_toInt_le] at d; omega), Bool.and_false]
theorem lq_t (c : tb k = false) : kLt tb pl r k = false := by unfold kLt; rw [c, Bool.false_and]
theorem kAd_cong : ∀ n, (∀ e, e < n → P e = Q e) → (∀ e, e < n → v e = q e) → kAd P v n = kAd Q q n := by
  intro n
  induction n with
  | zero => intro _ _; rfl
  | succ n ih => intro h1 h2; rw [kAd, kAd, ih (fun e he => h1 e (by omega)) (fun e he => h2 e (by omega)), h1 n (by omega), h2 n (by omega)]
theorem kMx_cong : ∀ n, (∀ e, e < n → P e = Q e) → (∀ e, e < n → v e = q e) → kMx P v n = kMx Q q n := by
  intro n
  induction n with
  | zero => intro _ _; rfl
  | succ n ih => intro h1 h2; rw [kMx, kMx, ih (fun e he => h1 e (by omega)) (fun e he => h2 e (by omega)), h1 n (by omega), h2 n (by omega)]
theorem kLt_cong (hb : ∀ e, e < E → tb e = tb' e) (hr : agr E r q) : ∀ e, e < E → kLt tb pl r e = kLt tb' pl q e := by
  intro e he; unfold kLt; rw [hb e he, hr e he]
/-- no more than its plan, as the reference asks it -/
theorem le_sub (wf : krW E N pl so fr to le) {h : Nat → Bool} (hr : agr E r (krS E N pl so fr to le h).2) (hk : k < E) : (r k - pl k ≤ 0) ↔ r k ≤ pl k := by
  have b := tk_b wf hr k hk
  have p := wf.2.2.2.2.2.1 k hk
  rw [Int32.le_iff_toInt_le, Int32.le_iff_toInt_le, sub_I b.1 p.1]
  have e0 : (0 : Int32).toInt = 0 := rfl
  omega
def kRc (E : Nat) (tb : Nat → Bool) (S : Bool × (Nat → Int32)) (pl : Nat → Int32) : Int32 := if S.1 = true then kMx (kLt tb pl S.2) S.2 E else (-1)
theorem rc_1 {w : Int32} (s : S.1 = true) (m : agr E mi S.2) (e : w = kMx (kLt tb pl mi) mi E) : w = kRc E tb S pl := by
  unfold kRc; rw [if_pos s, e]
  exact kMx_cong E (kLt_cong (fun _ _ => rfl) m) m
theorem rc_0 (s : S.1 = false) : (-1) = kRc E tb S pl := by unfold kRc; rw [if_neg (by rw [s]; exact Bool.noConfusion)]
theorem rc_same (hb : ∀ e, e < E → tb e = tb' e) (h1 : S.1 = S'.1) (h2 : agr E S.2 S'.2) : kRc E tb S pl = kRc E tb' S' pl := by
  unfold kRc; rw [h1, kMx_cong E (kLt_cong hb h2) h2]
end LATE
/-! counting -/
section CNT
def kcP (ki ke : Nat → Int32) : Nat → Bool := fun a => decide (ki a = 2) && decide (¬ ke a = 0)
def kcT (pl fr to le : Nat → Int32) : Nat → Bool := fun a => decide (pl (to a).toNatClampNeg - pl (fr a).toNatClampNeg - le a < 0)
def kcX (ca : Nat → Int32) : Nat → Bool := fun t => decide (¬ ca t = 0)
variable {ki ke pl fr to le ca mi : Nat → Int32} {k E N G : Nat} {tb tb' : Nat → Bool} {S S' : Bool × (Nat → Int32)} {w0 : Int32}
theorem cp_1 (c : ki k = 2) (d : ¬ ke k = 0) : kcP ki ke k = true := by unfold kcP; rw [decide_eq_true c, decide_eq_true d]; rfl
theorem cp_0 (c : ¬ ki k = 2) : kcP ki ke k = false := by unfold kcP; rw [decide_eq_false c, Bool.false_and]
theorem cp_00 (d : ke k = 0) : kcP ki ke k = false := by unfold kcP; rw [decide_eq_false (p := ¬ ke k = 0) (fun z => z d), Bool.and_false]
theorem ct_1 (c : ¬ 0 ≤ pl (to k).toNatClampNeg - pl (fr k).toNatClampNeg - le k) : kcT pl fr to le k = true := decide_eq_true (i32_nle c)
theorem ct_0 (c : 0 ≤ pl (to k).toNatClampNeg - pl (fr k).toNatClampNeg - le k) : kcT pl fr to le k = false := decide_eq_false (by rw [Int32.lt_iff_toInt_lt]; rw [Int32.le_iff_toInt_le] at c; omega)
theorem cx_1 (c : ¬ ca k = 0) : kcX ca k = true := decide_eq_true c
theorem cx_0 (c : ca k = 0) : kcX ca k = false := decide_eq_false (fun z => z c)
def kCt (E N G : Nat) (tb : Nat → Bool) (S : Bool × (Nat → Int32)) (pl fr to le ki ke ca : Nat → Int32) (w0 : Int32) : Int32 :=
  if w0 = 0 then nI E else if w0 = 1 then nI N else if w0 = 2 then nI G else if w0 = 3 then kAd (kcP ki ke) (fun _ => 1) N else if w0 = 4 then (if S.1 = true then kAd (kLt tb pl S.2) (fun _ => 1) E else 0) else if w0 = 5 then (if S.1 = true then kAd (kLt tb pl S.2) (fun e => S.2 e - pl e) E else 0) else if w0 = 6 then kAd (kcX ca) (fun _ => 1) 16 else if w0 = 7 then kAd (kcT pl fr to le) (fun _ => 1) N else (-1)
theorem ct_same (hb : ∀ e, e < E → tb e = tb' e) (h1 : S.1 = S'.1) (h2 : agr E S.2 S'.2) : kCt E N G tb S pl fr to le ki ke ca w0 = kCt E N G tb' S' pl fr to le ki ke ca w0 := by
  unfold kCt
  rw [h1, kAd_cong (v := fun _ => 1) (q := fun _ => 1) E (kLt_cong (pl := pl) hb h2) (fun _ _ => rfl), kAd_cong (v := fun e => S.2 e - pl e) (q := fun e => S'.2 e - pl e) E (kLt_cong (pl := pl) hb h2) (fun e he => by show S.2 e - pl e = S'.2 e - pl e; rw [h2 e he])]
end CNT
section CNT2
variable {ki ke pl fr to le ca mi : Nat → Int32} {k E N G : Nat} {tb : Nat → Bool} {S : Bool × (Nat → Int32)} {w0 w : Int32}
theorem cn_0 (h : w0 = 0) : nI E = kCt E N G tb S pl fr to le ki ke ca w0 := by unfold kCt; rw [if_pos h]
theorem cn_1 (h : w0 = 1) : nI N = kCt E N G tb S pl fr to le ki ke ca w0 := by subst h; rfl
theorem cn_2 (h : w0 = 2) : nI G = kCt E N G tb S pl fr to le ki ke ca w0 := by subst h; rfl
theorem cn_3 (h : w0 = 3) (e : w = kAd (kcP ki ke) (fun _ => 1) N) : w = kCt E N G tb S pl fr to le ki ke ca w0 := by subst h; exact e
theorem cn_4 (h : w0 = 4) (s : S.1 = true) (m : agr E mi S.2) (e : w = kAd (kLt tb pl mi) (fun _ => 1) E) : w = kCt E N G tb S pl fr to le ki ke ca w0 := by
  subst h; rw [e]; show _ = if S.1 = true then _ else _; rw [if_pos s]; exact kAd_cong E (kLt_cong (fun _ _ => rfl) m) (fun _ _ => rfl)
theorem cn_5 (h : w0 = 5) (s : S.1 = true) (m : agr E mi S.2) (e : w = kAd (kLt tb pl mi) (fun e => mi e - pl e) E) : w = kCt E N G tb S pl fr to le ki ke ca w0 := by
  subst h; rw [e]; show _ = if S.1 = true then _ else _; rw [if_pos s]; exact kAd_cong E (kLt_cong (fun _ _ => rfl) m) (fun e he => by show mi e - pl e = S.2 e - pl e; rw [m e he])
theorem cn_45 (h : w0 = 4 ∨ w0 = 5) (s : S.1 = false) : 0 = kCt E N G tb S pl fr to le ki ke ca w0 := by
  have s' : ¬ S.1 = true := by rw [s]; exact Bool.noConfusion
  rcases h with h | h
  · subst h; show _ = if S.1 = true then _ else _; rw [if_neg s']
  · subst h; show _ = if S.1 = true then _ else _; rw [if_neg s']
theorem cn_6 (h : w0 = 6) (e : w = kAd (kcX ca) (fun _ => 1) 16) : w = kCt E N G tb S pl fr to le ki ke ca w0 := by subst h; exact e
theorem cn_7 (h : w0 = 7) (e : w = kAd (kcT pl fr to le) (fun _ => 1) N) : w = kCt E N G tb S pl fr to le ki ke ca w0 := by subst h; exact e
theorem cn_d (h0 : ¬ w0 = 0) (h1 : ¬ w0 = 1) (h2 : ¬ w0 = 2) (h3 : ¬ w0 = 3) (h4 : ¬ w0 = 4) (h5 : ¬ w0 = 5) (h6 : ¬ w0 = 6) (h7 : ¬ w0 = 7) : (-1) = kCt E N G tb S pl fr to le ki ke ca w0 := by
  unfold kCt; rw [if_neg h0, if_neg h1, if_neg h2, if_neg h3, if_neg h4, if_neg h5, if_neg h6, if_neg h7]
end CNT2
/-! the rule's answer: how many were taken is how many are kept behind it -/
section RUN
theorem kAd_one {P Q : Nat → Bool} {x : Nat} (h0 : P x = false) (h1 : Q x = true) (he : ∀ e, ¬ e = x → P e = Q e) : ∀ n, x < n → kAd Q (fun _ => 1) n = kAd P (fun _ => 1) n + 1 := by
  intro n
  induction n with
  | zero => intro h; exact absurd h (Nat.not_lt_zero _)
  | succ n ih =>
    intro hx
    by_cases e : n = x
    · subst e
      have c : kAd Q (fun _ => (1 : Int32)) n = kAd P (fun _ => 1) n := kAd_cong n (fun e h => (he e (by omega)).symm) (fun _ _ => rfl)
      rw [kAd, kAd, if_pos h1, if_neg (by rw [h0]; exact Bool.noConfusion), c]
    · have i := ih (by omega)
      rw [kAd, kAd, i, he n e]
      by_cases q : Q n = true
      · rw [if_pos q, if_pos q]
      · rw [if_neg q, if_neg q]
theorem kAd_none {P : Nat → Bool} {v : Nat → Int32} : ∀ n, (∀ e, e < n → P e = false) → kAd P v n = 0 := by
  intro n
  induction n with
  | zero => intro _; rfl
  | succ n ih => intro h; rw [kAd, if_neg (by rw [h n (by omega)]; exact Bool.noConfusion), ih (fun e he => h e (by omega))]
variable {pl to fr ki ke so le : Nat → Int32} {tb : Nat → Bool} {N j k : Nat} {z : Int32} {au ku : Nat → Int32}
theorem kIns_all {R : Int32 → Prop} {x : Int32} {s : Nat} (hx : R x) : ∀ (g : Nat) (o : Nat → Int32), g ≤ s → (∀ i, i < s + 1 → ¬ i = g → R (o i)) → ∀ i, i < s + 1 → R (kIns pl to x g o i) := by
  intro g
  induction g with
  | zero =>
    intro o _ ho i hi
    rw [kIns]
    by_cases y : i = 0
    · rw [y, pk_us]; exact hx
    · rw [pk_un y]; exact ho i hi y
  | succ g ihg =>
    intro o hg ho i hi
    rw [kIns]
    split
    · refine ihg _ (by omega) (fun i' hi' y => ?_) i hi
      by_cases w : i' = g + 1
      · rw [w, pk_us]; exact ho g (by omega) (by omega)
      · rw [pk_un w]; exact ho i' hi' w
    · by_cases w : i = g + 1
      · rw [w, pk_us]; exact hx
      · rw [pk_un w]; exact ho i hi w
theorem inj_fill {o : Nat → Int32} {x : Int32} {s g : Nat} (h1 : ∀ i i', i < s + 1 → i' < s + 1 → ¬ i = g → ¬ i' = g → o i = o i' → i = i') (h2 : ∀ i, i < s + 1 → ¬ i = g → ¬ o i = x) : ∀ i i', i < s + 1 → i' < s + 1 → upd o g x i = upd o g x i' → i = i' := by
  intro i i' hi hi' e
  by_cases a : i = g
  · by_cases b : i' = g
    · rw [a, b]
    · rw [a, pk_us, pk_un b] at e; exact absurd e.symm (h2 i' hi' b)
  · by_cases b : i' = g
    · rw [b, pk_us, pk_un a] at e; exact absurd e (h2 i hi a)
    · rw [pk_un a, pk_un b] at e; exact h1 i i' hi hi' a b e
theorem kIns_inj {x : Int32} {s : Nat} : ∀ (g : Nat) (o : Nat → Int32), g ≤ s → (∀ i i', i < s + 1 → i' < s + 1 → ¬ i = g → ¬ i' = g → o i = o i' → i = i') → (∀ i, i < s + 1 → ¬ i = g → ¬ o i = x) → ∀ i i', i < s + 1 → i' < s + 1 → kIns pl to x g o i = kIns pl to x g o i' → i = i' := by
  intro g
  induction g with
  | zero =>
    intro o _ h1 h2 i i' hi hi' e
    rw [kIns] at e
    exact inj_fill h1 h2 i i' hi hi' e
  | succ g ihg =>
    intro o hg h1 h2 i i' hi hi' e
    rw [kIns] at e
    split at e
    · refine ihg _ (by omega) (fun i i' hi hi' a b e => ?_) (fun i hi a => ?_) i i' hi hi' e
      · by_cases c : i = g + 1
        · by_cases d : i' = g + 1
          · rw [c, d]
          · rw [c, pk_us, pk_un d] at e; exact absurd (h1 g i' (by omega) hi' (by omega) d e).symm b
        · by_cases d : i' = g + 1
          · rw [d, pk_us, pk_un c] at e; exact absurd (h1 i g hi (by omega) c (by omega) e) a
          · rw [pk_un c, pk_un d] at e; exact h1 i i' hi hi' c d e
      · by_cases c : i = g + 1
        · rw [c, pk_us]; exact h2 g (by omega) (by omega)
        · rw [pk_un c]; exact h2 i hi c
    · exact inj_fill h1 h2 i i' hi hi' e
theorem kBS_d {od : Nat → Int32} : ∀ k, k ≤ 100 → (∀ i, i < (kBS tb pl ki fr to k od ke).1 → ∃ a, a < k ∧ (kBS tb pl ki fr to k od ke).2.1 i = nI a ∧ ki a = 2) ∧ (∀ i i', i < (kBS tb pl ki fr to k od ke).1 → i' < (kBS tb pl ki fr to k od ke).1 → (kBS tb pl ki fr to k od ke).2.1 i = (kBS tb pl ki fr to k od ke).2.1 i' → i = i') ∧ (∀ a, a < k → ki a = 2 → (kBS tb pl ki fr to k od ke).2.2 a = 0) := by
  intro k
  induction k with
  | zero => intro _; exact ⟨fun i hi => absurd hi (Nat.not_lt_zero _), fun i i' hi => absurd hi (Nat.not_lt_zero _), fun a ha => absurd ha (Nat.not_lt_zero _)⟩
  | succ k ih =>
    intro hk
    obtain ⟨i1, i2, i3⟩ := ih (by omega)
    have brk : ∀ a, a < k + 1 → ki a = 2 → upd (kBS tb pl ki fr to k od ke).2.2 k 0 a = 0 := by
      intro a ha h2
      by_cases c : a = k
      · rw [c, pk_us]
      · rw [pk_un c]; exact i3 a (by omega) h2
    have low : ∀ i, i < (kBS tb pl ki fr to k od ke).1 → ∃ a, a < k + 1 ∧ (kBS tb pl ki fr to k od ke).2.1 i = nI a ∧ ki a = 2 := by
      intro i hi
      obtain ⟨a, h1, h2⟩ := i1 i hi
      exact ⟨a, by omega, h2⟩
    rw [kBS]
    by_cases x : ki k = 2
    · rw [if_pos x]
      by_cases y : (tb (fr k).toNatClampNeg && tb (to k).toNatClampNeg) = true
      · rw [if_pos y]
        refine ⟨?_, ?_, brk⟩
        · exact kIns_all (R := fun v => ∃ a, a < k + 1 ∧ v = nI a ∧ ki a = 2) ⟨k, by omega, rfl, x⟩ _ _ (Nat.le_refl _) (fun i hi c => low i (by omega))
        · refine kIns_inj _ _ (Nat.le_refl _) (fun i i' hi hi' c d e => i2 i i' (by omega) (by omega) e) (fun i hi c e => ?_)
          obtain ⟨a, h1, h2, _⟩ := i1 i (by omega)
          rw [h2] at e
          have e2 := congrArg Int32.toNatClampNeg e
          rw [nI_clamp (by omega), nI_clamp (by omega)] at e2
          omega
      · rw [if_neg y]
        exact ⟨low, i2, brk⟩
    · rw [if_neg x]
      refine ⟨low, i2, fun a ha h2 => ?_⟩
      by_cases c : a = k
      · rw [c] at h2; exact absurd h2 x
      · exact i3 a (by omega) h2
/-- the rule under way: z changes are kept so far, those to come are not -/
def rnI (N j k : Nat) (ki au ku : Nat → Int32) (z : Int32) : Prop :=
  (∀ i i', i < j → i' < j → (au i).toNatClampNeg = (au i').toNatClampNeg → i = i') ∧ (∀ i, i < j → (au i).toNatClampNeg < N ∧ ki (au i).toNatClampNeg = 2) ∧ z = kAd (kcP ki ku) (fun _ => 1) N ∧ ∀ i, k ≤ i → i < j → ku (au i).toNatClampNeg = 0
theorem rn_0 (h : rnI N j k ki au ku z) : rnI N j (k + 1) ki au ku z := ⟨h.1, h.2.1, h.2.2.1, fun i hi hj => h.2.2.2 i (by omega) hj⟩
theorem rn_1 (h : rnI N j k ki au ku z) (hk : k < j) : rnI N j (k + 1) ki au (upd ku (au k).toNatClampNeg 1) (z + 1) := by
  obtain ⟨h1, h2, h3, h4⟩ := h
  have q := h2 k hk
  refine ⟨h1, h2, ?_, fun i hi hj => ?_⟩
  · rw [h3]
    refine (kAd_one (x := (au k).toNatClampNeg) (cp_00 (h4 k (Nat.le_refl _) hk)) (cp_1 q.2 (by rw [pk_us]; decide)) (fun e he => ?_) N q.1).symm
    unfold kcP; rw [pk_un he]
  · rw [pk_un (fun e => by have := h1 i k hj hk e; omega)]
    exact h4 i (by omega) hj
theorem rn_2 (h : rnI N j k ki au ku z) (hk : k < j) : rnI N j (k + 1) ki au (upd (upd ku (au k).toNatClampNeg 1) (au k).toNatClampNeg 0) z := by
  have e : upd (upd ku (au k).toNatClampNeg 1) (au k).toNatClampNeg 0 = ku := by
    funext a
    by_cases c : a = (au k).toNatClampNeg
    · rw [c, pk_us]; exact (h.2.2.2 k (Nat.le_refl _) hk).symm
    · rw [pk_un c, pk_un c]
  rw [e]; exact rn_0 h
theorem rn_s {od : Nat → Int32} (hN : N ≤ 100) (h : kBS tb pl ki fr to N od ke = (j, au, ku)) : rnI N j 0 ki au ku 0 := by
  have d := kBS_d (tb := tb) (pl := pl) (ki := ki) (fr := fr) (to := to) (ke := ke) (od := od) N hN
  rw [h] at d
  obtain ⟨d1, d2, d3⟩ := d
  have cl : ∀ i, i < j → ∃ a, a < N ∧ au i = nI a ∧ ki a = 2 ∧ (au i).toNatClampNeg = a := by
    intro i hi
    obtain ⟨a, h1, h2, h3⟩ := d1 i hi
    exact ⟨a, h1, h2, h3, by show (au i).toNatClampNeg = a; rw [show au i = nI a from h2]; exact nI_clamp (by omega)⟩
  refine ⟨fun i i' hi hi' e => ?_, fun i hi => ?_, ?_, fun i _ hi => ?_⟩
  · obtain ⟨a, h1, h2, h3, h4⟩ := cl i hi
    obtain ⟨b, k1, k2, k3, k4⟩ := cl i' hi'
    rw [h4, k4] at e
    exact d2 i i' hi hi' (by show au i = au i'; rw [h2, k2, e])
  · obtain ⟨a, h1, h2, h3, h4⟩ := cl i hi
    rw [h4]; exact ⟨h1, h3⟩
  · refine (kAd_none N (fun e he => ?_)).symm
    by_cases c : ki e = 2
    · exact cp_00 (d3 e he c)
    · exact cp_0 c
  · obtain ⟨a, h1, h2, h3, h4⟩ := cl i hi
    rw [h4]; exact d3 a h1 h3
end RUN
