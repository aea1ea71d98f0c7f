/-! entry: the class's work of a case and the reference's are the same numbers -/
theorem wD_cg {D : DV} {p p' : Nat → Int64} (h : ∀ c, c < 256 → p c = p' c) (i : Nat) : wD D p i = wD D p' i := sL_eq 256 (fun c hc => by rw [h c hc])
theorem lD_cg {D : DV} {p p' : Nat → Int64} (h : ∀ c, c < 256 → p c = p' c) (house r0 : Int32) (i : Nat) : lD D p house r0 i = lD D p' house r0 i := by unfold lD; rw [wD_cg h]
theorem wM_cg {D : DV} {p p' : Nat → Int64} (h : ∀ c, c < 256 → p c = p' c) (house : Int32) : wM D p house = wM D p' house := by
  unfold wM
  cases mD D house with
  | none => rfl
  | some m => exact wD_cg h m
theorem dv_eq2 {Ic Im : M2} {w g : Nat} (hw : w ≤ 16) (hg : g ≤ 16) (h79 : ∀ c, c < 256 → Im 79 c = Ic 2 c) (h81 : ∀ c, c < 256 → Im 81 c = Ic 4 c) (hT : ∀ c, c < 256 → (Im 83 c == 0) = (Ic 6 c == -1)) (f : Int32) : dvS (vl Im f) (adM w g) (opM Im) 256 = dvS (vk Ic f) (adC w g) (opl Ic) 256 := by
  have e1 : vl Im f = vk Ic f := by
    funext x
    unfold vl vk
    by_cases hx : x < 256
    · unfold lft kpt
      rw [h79 x hx, hT x hx]
    · simp [hx]
  rw [e1, ad_eq]
  refine dvS_op (fun a b ⟨t, _, e⟩ => ?_) 256
  have hb := nbC_lt hw hg e
  unfold opM opl
  rw [h81 b hb, hT b hb]
def sN (g : Nat → Nat) : Nat → Nat
  | 0 => 0
  | n + 1 => sN g n + g n
theorem sN_le {g : Nat → Nat} {k : Nat} : ∀ n, (∀ i, i < n → g i ≤ k) → sN g n ≤ k * n := by
  intro n
  induction n with
  | zero => intro _; exact Nat.le_refl _
  | succ n ih =>
    intro h
    have h1 := ih (fun i hi => h i (by omega))
    have h2 := h n (by omega)
    show sN g n + g n ≤ k * (n + 1)
    rw [Nat.mul_succ]
    omega
theorem sI_sN {F : Nat → Int32} {G : Nat → Nat} : ∀ n, (∀ i, i < n → F i = nI (G i)) → sI F n = nI (sN G n) := by
  intro n
  induction n with
  | zero => intro _; rfl
  | succ n ih =>
    intro h
    show sI F n + F n = nI (sN G n + G n)
    rw [ih (fun i hi => h i (by omega)), h n (by omega), nI_add]
theorem sL_sN {F : Nat → Int64} {G : Nat → Nat} {x : Int64} : ∀ n, (∀ i, i < n → F i = x * lN (G i)) → sL F n = x * lN (sN G n) := by
  intro n
  induction n with
  | zero => intro _; show 0 = x * lN 0; rw [show lN 0 = 0 from rfl, Int64.mul_zero]
  | succ n ih =>
    intro h
    show sL F n + F n = x * lN (sN G n + G n)
    rw [ih (fun i hi => h i (by omega)), h n (by omega), ← lN_add, Int64.mul_add]
theorem sL_cnt (g : Nat → Bool) (x : Int64) : ∀ n, sL (fun s => if g s = true then x else 0) n = x * lN (cntB g n) := by
  intro n
  induction n with
  | zero => show 0 = x * lN 0; rw [show lN 0 = 0 from rfl, Int64.mul_zero]
  | succ n ih =>
    show sL _ n + (if g n = true then x else 0) = x * lN (cntB g n + (if g n = true then 1 else 0))
    rw [ih, ← lN_add, Int64.mul_add]
    by_cases h : g n = true
    · rw [if_pos h, if_pos h, show lN 1 = 1 from rfl, Int64.mul_one]
    · rw [if_neg h, if_neg h, show lN 0 = 0 from rfl, Int64.mul_zero]
theorem ks_kx {Ic Im : M2} {w g : Nat} (hw : w ≤ 16) (hg : g ≤ 16) (h79 : ∀ c, c < 256 → Im 79 c = Ic 2 c) (hT : ∀ c, c < 256 → (Im 83 c == 0) = (Ic 6 c == -1)) (c f s s' : Nat) (e : nbM w g c s = nbC w g c s') : kxM Im w g c f s = ksd Ic w g c (nI f) s' := by
  unfold kxM ksd
  rw [e]
  cases hb : nbC w g c s' with
  | none => rfl
  | some b =>
    have := nbC_lt hw hg hb
    show lft Im b (nI f) = kpt Ic b (nI f)
    unfold lft kpt
    rw [h79 b this, hT b this]
theorem cnt4 (g : Nat → Bool) : cntB g 4 = (if g 0 then 1 else 0) + (if g 1 then 1 else 0) + (if g 2 then 1 else 0) + (if g 3 then 1 else 0) := by
  show 0 + (if g 0 = true then 1 else 0) + (if g 1 = true then 1 else 0) + (if g 2 = true then 1 else 0) + (if g 3 = true then 1 else 0) = _
  rw [Nat.zero_add]
theorem fence_eq {Ic Im : M2} {w g f : Nat} (hw : w ≤ 16) (hg : g ≤ 16) (h79 : ∀ c, c < 256 → Im 79 c = Ic 2 c) (hT : ∀ c, c < 256 → (Im 83 c == 0) = (Ic 6 c == -1)) (hin : ∀ c, c < 256 → ((Im 114 c ≠ 0 ∧ Im 79 c = nI f) ↔ inl Ic c (nI f) = true)) (x : Int64) : sL (fun c => if Im 114 c ≠ 0 ∧ Im 79 c = nI f then sL (fun s => if kxM Im w g c f s = true then x else 0) 4 else 0) 256 = x * (vFnc Ic w g f).toInt64 := by
  have h4 : ∀ c, cntB (fun s => kxM Im w g c f s) 4 = cntB (fun s => ksd Ic w g c (nI f) s) 4 := fun c => by
    rw [cnt4, cnt4, ks_kx hw hg h79 hT c f 0 3 (nb_0 w g c), ks_kx hw hg h79 hT c f 1 1 (nb_1 w g c), ks_kx hw hg h79 hT c f 2 0 (nb_2 w g c), ks_kx hw hg h79 hT c f 3 2 (nb_3 w g c)]
    omega
  have hG : ∀ c, (if inl Ic c (nI f) = true then cntB (fun s => ksd Ic w g c (nI f) s) 4 else 0) ≤ 4 := fun c => by
    split
    · exact cntB_le _ _
    · omega
  have e1 : vFnc Ic w g f = nI (sN (fun c => if inl Ic c (nI f) = true then cntB (fun s => ksd Ic w g c (nI f) s) 4 else 0) 256) := by
    unfold vFnc
    refine sI_sN 256 (fun c hc => ?_)
    by_cases h : inl Ic c (nI f) = true
    · rw [if_pos h, if_pos h, sI_cnt]
    · rw [if_neg h, if_neg h]; rfl
  have e2 := sN_le 256 (fun c (_ : c < 256) => hG c)
  rw [e1, nI_l (by omega)]
  refine sL_sN 256 (fun c hc => ?_)
  by_cases h : inl Ic c (nI f) = true
  · rw [if_pos ((hin c hc).mpr h), if_pos h, sL_cnt (fun s => kxM Im w g c f s), h4]
  · rw [if_neg (fun h9 => h ((hin c hc).mp h9)), if_neg h, show lN 0 = 0 from rfl, Int64.mul_zero]
theorem land_eq {Ic Im Sm : M2} {f : Nat} (hin : ∀ c, c < 256 → ((Im 114 c ≠ 0 ∧ Im 79 c = nI f) ↔ inl Ic c (nI f) = true)) (hpr : ∀ c, c < 256 → (prM Im Sm c).toInt64 = (prI Ic 75 c).toInt64) : sL (fun c => if Im 114 c ≠ 0 ∧ Im 79 c = nI f then (prM Im Sm c).toInt64 else 0) 256 = vLand Ic f := by
  unfold vLand
  refine sL_eq 256 (fun c hc => ?_)
  by_cases h : inl Ic c (nI f) = true
  · rw [if_pos ((hin c hc).mpr h), if_pos h, hpr c hc]
  · rw [if_neg (fun h9 => h ((hin c hc).mp h9)), if_neg h]
theorem price_eq {I S Ic Im Sm : M2} (hP : SmP I S) (hA : SmA I) (hso : ∀ c, c < 256 → ∃ k, k < 4 ∧ I 3 c = nI k) (hc3 : Ic 3 = I 3) (h75 : ∀ s, s < 4 → Ic 75 s = prD I S s) (m80 : Im 80 = I 80) (m88 : Im 88 = I 88) (m89 : Im 89 = I 89) (m90 : Im 90 = I 90) (hd : Sm 78 16 = S 0 7) : ∀ c, c < 256 → (prM Im Sm c).toInt64 = (prI Ic 75 c).toInt64 := by
  intro c hc
  obtain ⟨k, hk, e⟩ := hso c hc
  obtain ⟨c0, p1, p2, p3, p4⟩ := hP k hk
  have e2 : I 80 c = nI k := (hA c hc).2.1.trans e
  unfold prM prI
  rw [hc3, e, m80, e2, nI_clamp (by omega), h75 k hk, m88, m89, m90, hd, p3, nI_clamp (by omega)]
  unfold prD
  rw [p2, nI_clamp (by omega), onS_eq c0 (fun i hi => ⟨(p4 i hi).1, (p4 i hi).2.1⟩)]
/-- what the rights get -/
theorem sh_eq {Ic Im : M2} {L K J : J2} {oc : Nat} {nc : Nat → Nat} {due : Int64} {f b rc : Nat} (hdue : L b 10 = due) (hb : 115 ≤ b) (hf : f < 12) (hk : ∀ r, r < rc → Im 86 (4 * f + r) = Ic (14 + 4 * f + 1) r ∧ Im 87 (4 * f + r) = Ic (14 + 4 * f + 2) r ∧ (Im 86 (4 * f + r) = 1 ∨ Im 86 (4 * f + r) = 2) ∧ (Im 86 (4 * f + r) = 1 → K (14 + 4 * f + 3) r = dbM Im J oc nc f r)) : ∀ r, r ≤ rc → (shS Ic L f b K r).1 = smR Im J oc nc due f r ∧ (∀ r', r' < r → (shS Ic L f b K r).2 (b + 1) r' = smG Im J oc nc due f r') ∧ (∀ r', r ≤ r' → (shS Ic L f b K r).2 (b + 1) r' = K (b + 1) r') ∧ (∀ r', (shS Ic L f b K r).2 (14 + 4 * f + 3) r' = if r' < r ∧ Ic (14 + 4 * f + 1) r' = 1 then K (14 + 4 * f + 3) r' - smG Im J oc nc due f r' else K (14 + 4 * f + 3) r') ∧ (∀ c, c ≠ 14 + 4 * f + 3 → c ≠ b + 1 → (shS Ic L f b K r).2 c = K c) := by
  intro r
  induction r with
  | zero =>
    intro _
    refine ⟨hdue, fun r' h => absurd h (Nat.not_lt_zero r'), fun _ _ => rfl, fun r' => ?_, fun _ _ _ => rfl⟩
    rw [if_neg (fun h => Nat.not_lt_zero _ h.1)]
    rfl
  | succ r ih =>
    intro hr
    obtain ⟨h1, h2, h3, h4, h5⟩ := ih (by omega)
    obtain ⟨k1, k2, k3, k4⟩ := hk r (by omega)
    have hp : shP Ic L f b r (shS Ic L f b K r).1 (shS Ic L f b K r).2 = smG Im J oc nc due f r := by
      have e4 : (shS Ic L f b K r).2 (14 + 4 * f + 3) r = K (14 + 4 * f + 3) r := by rw [h4, if_neg (fun h => Nat.lt_irrefl _ h.1)]
      unfold shP smG smP
      rw [h1, e4, hdue, ← k1, ← k2]
      rcases k3 with e | e
      · rw [if_pos e, e, if_neg (by decide), k4 e]
      · rw [e, if_neg (by decide), if_pos rfl]
    have hne : b + 1 ≠ 14 + 4 * f + 3 := by omega
    rw [shS_1, shS_2, hp]
    refine ⟨by rw [h1, smR_1]; rfl, fun r' hr' => ?_, fun r' hr' => ?_, fun r' => ?_, fun c c1 c2 => ?_⟩
    · by_cases e : r' = r
      · subst e; rw [u2_s]
      · rw [u2_j _ _ _ _ e]
        split
        · rw [u2_a _ _ _ _ hne]; exact h2 r' (by omega)
        · exact h2 r' (by omega)
    · rw [u2_j _ _ _ _ (by omega)]
      split
      · rw [u2_a _ _ _ _ hne]; exact h3 r' (by omega)
      · exact h3 r' (by omega)
    · rw [u2_a _ _ _ _ (Ne.symm hne)]
      by_cases e : r' = r
      · subst e
        by_cases e1 : Ic (14 + 4 * f + 1) r' = 1
        · rw [if_pos e1, u2_s, h4, if_neg (fun h => Nat.lt_irrefl _ h.1), if_pos ⟨by omega, e1⟩]
        · rw [if_neg e1, h4, if_neg (fun h => e1 h.2), if_neg (fun h => e1 h.2)]
      · have e2 : (if Ic (14 + 4 * f + 1) r = 1 then u2 (shS Ic L f b K r).2 (14 + 4 * f + 3) r ((shS Ic L f b K r).2 (14 + 4 * f + 3) r - smG Im J oc nc due f r) else (shS Ic L f b K r).2) (14 + 4 * f + 3) r' = (shS Ic L f b K r).2 (14 + 4 * f + 3) r' := by
          split
          · rw [u2_j _ _ _ _ e]
          · rfl
        rw [e2, h4]
        by_cases e3 : r' < r ∧ Ic (14 + 4 * f + 1) r' = 1
        · rw [if_pos e3, if_pos ⟨by omega, e3.2⟩]
        · rw [if_neg e3, if_neg (fun h => e3 ⟨by omega, h.2⟩)]
    · rw [u2_row _ _ _ c2]
      split
      · rw [u2_row _ _ _ c1]; exact h5 c c1 c2
      · exact h5 c c1 c2
theorem sL_one {F F' : Nat → Int64} {i : Nat} : ∀ n, (∀ j, j < n → j ≠ i → F' j = F j) → F i = 0 → sL F' n = sL F n + (if i < n then F' i else 0) := by
  intro n
  induction n with
  | zero => intro _ _; rfl
  | succ n ih =>
    intro h h0
    have ih := ih (fun j hj => h j (by omega)) h0
    show sL F' n + F' n = sL F n + F n + _
    rw [ih]
    by_cases e : i = n
    · subst e
      rw [if_neg (Nat.lt_irrefl _), if_pos (by omega), h0, Int64.add_zero]
    · rw [h n (by omega) (Ne.symm e)]
      by_cases e2 : i < n
      · rw [if_pos e2, if_pos (by omega), Int64.add_assoc, Int64.add_comm (F' i), ← Int64.add_assoc]
      · rw [if_neg e2, if_neg (by omega), Int64.add_zero, Int64.add_zero]
/-! which cells are taken -/
theorem tkB_eq {I I1 : M2} (h : ∀ b, 79 ≤ b → I1 b = I b) (o m c : Nat) : tkB I1 o m c = tkB I o m c := by
  unfold tkB
  rw [h 82 (by omega), h 83 (by omega), h 79 (by omega), h 95 (by omega), h 97 (by omega), h 96 (by omega)]
theorem rdy_4 {x : Int32} (h : rdy x = true) : x ≠ 4 := fun e => by rw [e] at h; exact absurd h (by decide)
def TkS (I S : M2) (o m : Nat) (cb : Nat → Nat) (c : Nat) : Prop :=
  (tkB I o m c = true → tcB I S cb m c = true ∧ I 6 c = -1) ∧ (tcB I S cb m c = true → tkB I o m c = false → I 6 c = nI o) ∧ (∀ k f, k < m → rdy (S (cb k) 2) = true → S (cb k) 0 = nI f → f < 12 → ((tkB I o m c = true ∧ I 79 c = nI f) ↔ (I 5 c ≠ 0 ∧ I 2 c = nI f)))
theorem tk_spec {I S : M2} {oc o m : Nat} {cb : Nat → Nat} {c : Nat} (hA : SmA I) (hT : SmT I oc) (hoc : oc ≤ 60) (ho : o < oc) (hc : c < 256) (hst : ∀ k, k < m → I 97 (12 * o + k) = S (cb k) 2 ∧ I 96 (12 * o + k) = S (cb k) 0 ∧ ∃ f, f < 12 ∧ S (cb k) 0 = nI f) (hu : lnU S m cb) (hl : I 5 c ≠ 0 → lnO I S o m cb c) : TkS I S o m cb c := by
  obtain ⟨q1, q2, q3, q4⟩ := hA c hc
  have h83 : I 83 c = 0 ↔ I 6 c = -1 := by
    have := tk0 hT hoc hc
    constructor
    · intro h
      rw [h] at this
      exact eq_of_beq this.symm
    · intro h
      rw [h] at this
      exact eq_of_beq this
  have hany : anyB (fun k => rdy (I 97 (12 * o + k)) && I 79 c == I 96 (12 * o + k)) m = anyB (fun k => rdy (S (cb k) 2) && I 2 c == S (cb k) 0) m := anyB_eq m (fun k hk => by rw [(hst k hk).1, (hst k hk).2.1, q1])
  have hanyT : anyB (fun k => rdy (S (cb k) 2) && I 2 c == S (cb k) 0) m = true ↔ ∃ k, k < m ∧ rdy (S (cb k) 2) = true ∧ I 2 c = S (cb k) 0 := by
    rw [anyB_t]
    constructor
    · rintro ⟨k, h1, h2⟩
      rw [Bool.and_eq_true, beq_iff_eq] at h2
      exact ⟨k, h1, h2⟩
    · rintro ⟨k, h1, h2, h3⟩
      exact ⟨k, h1, by rw [Bool.and_eq_true, beq_iff_eq]; exact ⟨h2, h3⟩⟩
  have htk : tkB I o m c = true ↔ (I 5 c ≠ 0 ∧ I 6 c = -1) ∧ ((I 2 c = -1 ∧ I 95 o = 0) ∨ ∃ k, k < m ∧ rdy (S (cb k) 2) = true ∧ I 2 c = S (cb k) 0) := by
    unfold tkB
    rw [hany, q4, q1, Bool.and_eq_true, Bool.and_eq_true, Bool.or_eq_true, Bool.and_eq_true, hanyT, beq_iff_eq, beq_iff_eq, beq_iff_eq, h83, bne_iff_ne]
  have htc : tcB I S cb m c = true ↔ I 5 c ≠ 0 ∧ (I 2 c = -1 ∨ ∃ k, k < m ∧ rdy (S (cb k) 2) = true ∧ I 2 c = S (cb k) 0) := by
    unfold tcB
    rw [Bool.and_eq_true, Bool.or_eq_true, hanyT, beq_iff_eq, bne_iff_ne]
  have hm1 : ∀ k, k < m → S (cb k) 0 ≠ -1 := fun k hk e => by
    obtain ⟨-, -, f, f1, f2⟩ := hst k hk
    rw [f2] at e
    exact nI_m1 (by omega) e
  refine ⟨fun h => ?_, fun h1 h2 => ?_, fun k f hk hr hf hf12 => ?_⟩
  · rw [htk] at h
    exact ⟨htc.mpr ⟨h.1.1, h.2.imp (fun h => h.1) id⟩, h.1.2⟩
  · rw [htc] at h1
    have h3 : ¬ tkB I o m c = true := by rw [h2]; decide
    rw [htk] at h3
    rcases hl h1.1 with ⟨a1, a2⟩ | ⟨k, a1, a2, a3, a4⟩
    · rcases a2 with ⟨b1, b2⟩ | ⟨b1, b2⟩
      · exact absurd ⟨⟨h1.1, b2⟩, Or.inl ⟨a1, b1⟩⟩ h3
      · exact b2
    · rcases h1.2 with b1 | ⟨k', b1, b2, b3⟩
      · rw [a2] at b1
        exact absurd b1 (hm1 k a1)
      · obtain rfl := hu k k' a1 b1 (a2.symm.trans b3)
        exact absurd ⟨⟨h1.1, a4 (rdy_4 b2)⟩, Or.inr ⟨k, b1, b2, b3⟩⟩ h3
  · rw [q1]
    constructor
    · rintro ⟨h1, h2⟩
      exact ⟨(htk.mp h1).1.1, h2⟩
    · rintro ⟨h1, h2⟩
      refine ⟨htk.mpr ⟨⟨h1, ?_⟩, Or.inr ⟨k, hk, hr, h2.trans hf.symm⟩⟩, h2⟩
      rcases hl h1 with ⟨a1, a2⟩ | ⟨k', a1, a2, a3, a4⟩
      · rw [h2] at a1
        exact absurd a1 (nI_m1 (by omega))
      · obtain rfl := hu k k' hk a1 (by rw [hf, ← a2, h2])
        exact a4 (rdy_4 hr)
