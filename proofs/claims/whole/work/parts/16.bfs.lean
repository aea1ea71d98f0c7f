/-! what hangs together: reach, counting, the search's invariant -/
def Rch (V : Nat → Bool) (A : Nat → Nat → Prop) (c x : Nat) : Prop := ∀ P : Nat → Prop, P c → (∀ a b, P a → A a b → V b = true → P b) → P x
theorem Rch.rf (V : Nat → Bool) (A : Nat → Nat → Prop) (c : Nat) : Rch V A c c := fun _ h _ => h
theorem Rch.st {V : Nat → Bool} {A : Nat → Nat → Prop} {c a b : Nat} (h : Rch V A c a) (ha : A a b) (hv : V b = true) : Rch V A c b := fun P h0 h1 => h1 a b (h P h0 h1) ha hv
def cntB (g : Nat → Bool) : Nat → Nat
  | 0 => 0
  | n + 1 => cntB g n + (if g n then 1 else 0)
theorem cntB_le (g : Nat → Bool) : ∀ n, cntB g n ≤ n := by
  intro n
  induction n with
  | zero => exact Nat.le_refl _
  | succ n ih => unfold cntB; split <;> omega
theorem cntB_lt {g : Nat → Bool} : ∀ {n x : Nat}, x < n → g x = false → cntB g n < n := by
  intro n
  induction n with
  | zero => intro x hx; omega
  | succ n ih =>
    intro x hx hg
    unfold cntB
    by_cases h : x = n
    · subst h
      rw [hg]
      have := cntB_le g x
      simp
      omega
    · have := ih (show x < n by omega) hg
      split <;> omega
theorem cntB_eq {g g' : Nat → Bool} : ∀ n, (∀ i, i < n → g i = g' i) → cntB g n = cntB g' n := by
  intro n
  induction n with
  | zero => intro _; rfl
  | succ n ih => intro h; unfold cntB; rw [ih (fun i hi => h i (by omega)), h n (by omega)]
theorem cntB_add {g : Nat → Bool} {b : Nat} (hb : g b = false) : ∀ n, cntB (fun x => x == b || g x) n = cntB g n + (if b < n then 1 else 0) := by
  intro n
  induction n with
  | zero => simp [cntB]
  | succ n ih =>
    unfold cntB
    rw [ih]
    by_cases h : n = b
    · subst h
      simp [hb]
    · have e1 : (n == b) = false := by simp [h]
      simp only [e1, Bool.false_or]
      by_cases h2 : b < n
      · have : b < n + 1 := by omega
        simp [h2, this]; omega
      · have : ¬ b < n + 1 := by omega
        simp [h2, this]
theorem cntB_one (b : Nat) : ∀ n, cntB (fun x => x == b) n = if b < n then 1 else 0 := by
  intro n
  have h := cntB_add (g := fun _ => false) (b := b) rfl n
  have h0 : cntB (fun _ => false) n = 0 := by
    induction n with
    | zero => rfl
    | succ n ih => unfold cntB; simp [ih (cntB_add rfl n)]
  rw [h0] at h
  simpa using h
def BF (V : Nat → Bool) (nb : Nat → Nat → Option Nat) (st : Nat) (mk : Nat → Bool) (qu : Nat → Nat) (e p s : Nat) : Prop :=
  (∀ x, mk x = true → x < 256 ∧ Rch V (fun a b => ∃ t, t < 4 ∧ nb a t = some b) st x) ∧ (∀ j, j < e → mk (qu j) = true) ∧ (∀ x, mk x = true → ∃ j, j < e ∧ qu j = x) ∧ e = cntB mk 256 ∧ mk st = true ∧
  ∀ j t b, (j < p ∨ (j = p ∧ t < s)) → j < e → t < 4 → nb (qu j) t = some b → V b = true → mk b = true
theorem BF.init {V : Nat → Bool} {nb : Nat → Nat → Option Nat} {st : Nat} {qu : Nat → Nat} (hs : st < 256) (hq : qu 0 = st) : BF V nb st (fun x => x == st) qu 1 0 0 := by
  refine ⟨fun x hx => ?_, fun j hj => ?_, fun x hx => ⟨0, by omega, ?_⟩, ?_, by simp, fun j t b h => by omega⟩
  · have : x = st := by simpa using hx
    subst this
    exact ⟨hs, Rch.rf _ _ _⟩
  · rw [show j = 0 by omega, hq]; simp
  · have : x = st := by simpa using hx
    rw [hq, this]
  · rw [cntB_one, if_pos hs]
theorem BF.next {V : Nat → Bool} {nb : Nat → Nat → Option Nat} {st : Nat} {mk : Nat → Bool} {qu : Nat → Nat} {e p : Nat} (h : BF V nb st mk qu e p 4) : BF V nb st mk qu e (p + 1) 0 :=
  ⟨h.1, h.2.1, h.2.2.1, h.2.2.2.1, h.2.2.2.2.1, fun j t b hj he ht => h.2.2.2.2.2 j t b (by omega) he ht⟩
theorem BF.skip {V : Nat → Bool} {nb : Nat → Nat → Option Nat} {st : Nat} {mk : Nat → Bool} {qu : Nat → Nat} {e p s : Nat} (h : BF V nb st mk qu e p s) (hb : ∀ b, nb (qu p) s = some b → V b = true → mk b = true) : BF V nb st mk qu e p (s + 1) :=
  ⟨h.1, h.2.1, h.2.2.1, h.2.2.2.1, h.2.2.2.2.1, fun j t b hj he ht h1 h2 => by
    by_cases hc : j = p ∧ t = s
    · obtain ⟨rfl, rfl⟩ := hc
      exact hb b h1 h2
    · exact h.2.2.2.2.2 j t b (by omega) he ht h1 h2⟩
theorem BF.mark {V : Nat → Bool} {nb : Nat → Nat → Option Nat} {st : Nat} {mk : Nat → Bool} {qu qu' : Nat → Nat} {e p s b : Nat} (h : BF V nb st mk qu e p s) (hp : p < e) (hs : s < 4) (hb : nb (qu p) s = some b) (hb6 : b < 256) (hV : V b = true) (hm : mk b = false) (hq1 : qu' e = b) (hq2 : ∀ j, j < e → qu' j = qu j) : e < 256 ∧ BF V nb st (fun x => x == b || mk x) qu' (e + 1) p (s + 1) := by
  obtain ⟨h1, h2, h3, h4, h5, h6⟩ := h
  refine ⟨by rw [h4]; exact cntB_lt hb6 hm, fun x hx => ?_, fun j hj => ?_, fun x hx => ?_, ?_, by simp [h5], fun j t c hj he ht hn hv => ?_⟩
  · by_cases hxb : x = b
    · subst hxb
      exact ⟨hb6, (h1 _ (h2 p hp)).2.st ⟨s, hs, hb⟩ hV⟩
    · exact h1 x (by simpa [hxb] using hx)
  · by_cases hje : j = e
    · subst hje; rw [hq1]; simp
    · rw [hq2 j (by omega)]; simp [h2 j (by omega)]
  · by_cases hxb : x = b
    · subst hxb; exact ⟨e, by omega, hq1⟩
    · obtain ⟨j, g1, g2⟩ := h3 x (by simpa [hxb] using hx)
      exact ⟨j, by omega, by rw [hq2 j g1]; exact g2⟩
  · rw [cntB_add hm, if_pos hb6, ← h4]
  · have hje : j < e := by omega
    rw [hq2 j hje] at hn
    by_cases hc : j = p ∧ t = s
    · obtain ⟨rfl, rfl⟩ := hc
      rw [hb] at hn
      cases hn
      simp
    · simp [h6 j t c (by omega) hje ht hn hv]
theorem BF.done {V : Nat → Bool} {nb : Nat → Nat → Option Nat} {st : Nat} {mk : Nat → Bool} {qu : Nat → Nat} {e p : Nat} (h : BF V nb st mk qu e p 0) (hp : e ≤ p) (x : Nat) : mk x = true ↔ Rch V (fun a b => ∃ t, t < 4 ∧ nb a t = some b) st x := by
  obtain ⟨h1, h2, h3, h4, h5, h6⟩ := h
  refine ⟨fun hx => (h1 x hx).2, fun hx => hx (fun y => mk y = true) h5 (fun a b ha ⟨t, ht, hn⟩ hv => ?_)⟩
  obtain ⟨j, g1, rfl⟩ := h3 a ha
  exact h6 j t b (by omega) g1 ht hn hv
/-- a way: some place looked at so far has an open lane beside it -/
def WY (op : Nat → Bool) (nb : Nat → Nat → Option Nat) (qu : Nat → Nat) (e p s : Nat) : Prop := ∃ j t b, (j < p ∨ (j = p ∧ t < s)) ∧ j < e ∧ t < 4 ∧ nb (qu j) t = some b ∧ op b = true
noncomputable def cdec (P : Prop) : Bool := @decide P (Classical.propDecidable P)
theorem cdec_t {P : Prop} : cdec P = true ↔ P := by unfold cdec; exact @decide_eq_true_iff P (Classical.propDecidable P)
theorem cdec_f {P : Prop} : cdec P = false ↔ ¬ P := by rw [← Bool.not_eq_true, cdec_t]
/-- a field's division, cell by cell: how many pieces, whose a cell is, their first cells, sizes, ways -/
abbrev DV : Type := Nat × (Nat → Option Nat) × (Nat → Nat) × (Nat → Nat) × (Nat → Bool)
noncomputable def dvS (V : Nat → Bool) (A : Nat → Nat → Prop) (op : Nat → Bool) : Nat → DV
  | 0 => (0, fun _ => none, fun _ => 0, fun _ => 0, fun _ => false)
  | c + 1 => match dvS V A op c with
    | (k, pa, fi, sz, wy) => if V c = true ∧ pa c = none then
        (k + 1, fun x => if cdec (x < 256 ∧ Rch (fun y => V y && (pa y).isNone) A c x) then some k else pa x, va_up fi k c, va_up sz k (cntB (fun x => cdec (x < 256 ∧ Rch (fun y => V y && (pa y).isNone) A c x)) 256), va_up wy k (cdec (∃ x b, (x < 256 ∧ Rch (fun y => V y && (pa y).isNone) A c x) ∧ A x b ∧ op b = true)))
      else (k, pa, fi, sz, wy)
theorem dvS_le (V : Nat → Bool) (A : Nat → Nat → Prop) (op : Nat → Bool) : ∀ c, (dvS V A op c).1 ≤ c ∧ ∀ x j, (dvS V A op c).2.1 x = some j → j < (dvS V A op c).1 := by
  intro c
  induction c with
  | zero => exact ⟨Nat.le_refl _, fun x j h => by cases h⟩
  | succ c ih =>
    unfold dvS
    generalize dvS V A op c = D at ih
    obtain ⟨k, pa, fi, sz, wy⟩ := D
    simp only at ih ⊢
    split
    · refine ⟨by simp only; omega, fun x j h => ?_⟩
      simp only at h ⊢
      split at h
      · cases h; omega
      · have := ih.2 x j h; omega
    · exact ⟨by simp only; omega, ih.2⟩
