theorem cntB_mono (g : Nat → Bool) : ∀ {x y : Nat}, x ≤ y → cntB g x ≤ cntB g y := by
  intro x y
  induction y with
  | zero => intro h; rw [show x = 0 by omega]; exact Nat.le_refl _
  | succ y ih =>
    intro h
    by_cases e : x = y + 1
    · rw [e]; exact Nat.le_refl _
    · have := ih (by omega)
      show _ ≤ cntB g y + _
      omega
theorem cntB_st {g : Nat → Bool} {x : Nat} (h : g x = true) : cntB g (x + 1) = cntB g x + 1 := by
  show cntB g x + (if g x = true then 1 else 0) = _
  rw [if_pos h]
theorem cntB_inj {g : Nat → Bool} {x y : Nat} (hx : g x = true) (hy : g y = true) (e : cntB g x = cntB g y) : x = y := by
  rcases Nat.lt_trichotomy x y with h | h | h
  · have := cntB_mono g (show x + 1 ≤ y by omega)
    rw [cntB_st hx] at this
    omega
  · exact h
  · have := cntB_mono g (show y + 1 ≤ x by omega)
    rw [cntB_st hy] at this
    omega
theorem cntB_in {g : Nat → Bool} {x n : Nat} (hx : g x = true) (h : x < n) : cntB g x < cntB g n := by
  have := cntB_mono g (show x + 1 ≤ n by omega)
  rw [cntB_st hx] at this
  omega
theorem sI_cnt (g : Nat → Bool) : ∀ n, sI (fun f => bi (g f)) n = nI (cntB g n) := by
  intro n
  induction n with
  | zero => rfl
  | succ n ih =>
    show sI _ n + bi (g n) = nI (cntB g n + _)
    rw [ih]
    cases hg : g n with
    | true =>
      show nI _ + 1 = _
      rw [nI_1]
      rfl
    | false =>
      show nI _ + 0 = _
      rw [Int32.add_zero]
      rfl
theorem any_cnt (g : Nat → Bool) (n : Nat) : anyB g n = true ↔ 0 < cntB g n := by
  rw [anyB_t]
  constructor
  · rintro ⟨j, h1, h2⟩
    have := cntB_in h2 h1
    omega
  · intro h
    induction n with
    | zero => exact absurd h (Nat.lt_irrefl 0)
    | succ n ih =>
      by_cases hg : g n = true
      · exact ⟨n, by omega, hg⟩
      · have h2 : 0 < cntB g n := by
          have e : cntB g (n + 1) = cntB g n := by
            show cntB g n + (if g n = true then 1 else 0) = _
            rw [if_neg hg]
            rfl
          omega
        obtain ⟨j, h3, h4⟩ := ih h2
        exact ⟨j, by omega, h4⟩
theorem wt_ci {I : M2} {oc : Nat} (hA : SmA I) (hT : SmT I oc) (ho : oc ≤ 60) (hl : ∀ c, c < 256 → I 5 c ≠ 0 → I 6 c = -1) (f : Nat) : wtd I f = cil I f := by
  unfold wtd cil
  refine sI_eq 256 (fun c hc => ?_)
  rw [(hA c hc).2.2.2, lft_kpt hA hT ho hc]
  unfold inl kpt
  by_cases h5 : I 5 c = 0
  · rw [h5]; rfl
  · rw [hl c hc h5]
    simp
/-- the reference's case k of order oc as it begins -/
def cmZ (I I' : M2) (J' : J2) (q fl : Nat) : Prop := I' 96 q = nI fl ∧ I' 97 q = 0 ∧ I' 98 q = wtd I fl ∧ I' 99 q = 0 ∧ J' 101 q = 0 ∧ J' 102 q = 0 ∧ J' 103 q = 0 ∧ J' 104 q = 0 ∧ J' 105 q = 0 ∧ J' 106 q = 0 ∧ J' 107 q = 0 ∧ ∀ r, r < 4 → J' 109 (4 * q + r) = 0
theorem cmZ.eq {I I' I2 : M2} {J' J2 : J2} {q fl : Nat} (h : cmZ I I' J' q fl) (e1 : ∀ b, 96 ≤ b ∧ b ≤ 99 → I2 b q = I' b q) (e2 : ∀ b, 101 ≤ b ∧ b ≤ 107 → J2 b q = J' b q) (e3 : ∀ r, r < 4 → J2 109 (4 * q + r) = J' 109 (4 * q + r)) : cmZ I I2 J2 q fl := by
  obtain ⟨h1, h2, h3, h4, h5, h6, h7, h8, h9, h10, h11, h12⟩ := h
  exact ⟨(e1 96 (by omega)).trans h1, (e1 97 (by omega)).trans h2, (e1 98 (by omega)).trans h3, (e1 99 (by omega)).trans h4, (e2 101 (by omega)).trans h5, (e2 102 (by omega)).trans h6, (e2 103 (by omega)).trans h7, (e2 104 (by omega)).trans h8, (e2 105 (by omega)).trans h9, (e2 106 (by omega)).trans h10, (e2 107 (by omega)).trans h11, fun r hr => (e3 r hr).trans (h12 r hr)⟩
def RkS (I S : M2) (J : J2) (oc f m : Nat) (I' : M2) (J' : J2) : Prop :=
  m = cntB (fun f => decide (0 < wtd I f)) f ∧ (∀ b, ¬ (92 ≤ b ∧ b ≤ 99) → I' b = I b) ∧ (I' 92 oc = S 78 16 ∧ I' 93 oc = I 91 4 ∧ I' 95 oc = 0 ∧ I' 94 oc = nI m) ∧ (∀ b q, 92 ≤ b ∧ b ≤ 95 → q ≠ oc → I' b q = I b q) ∧ (∀ b q, 96 ≤ b ∧ b ≤ 99 → q < 12 * oc → I' b q = I b q) ∧ (∀ b, ¬ (101 ≤ b ∧ b ≤ 107) → b ≠ 109 → J' b = J b) ∧ (∀ b q, 101 ≤ b ∧ b ≤ 107 → q < 12 * oc → J' b q = J b q) ∧ (∀ q r, r < 4 → q < 12 * oc → J' 109 (4 * q + r) = J 109 (4 * q + r)) ∧
  ∀ k, k < m → ∃ fl, fl < f ∧ decide (0 < wtd I fl) = true ∧ cntB (fun f => decide (0 < wtd I f)) fl = k ∧ cmZ I I' J' (12 * oc + k) fl
theorem skJ_ne (J : J2) (k : Nat) {b : Nat} (h1 : ¬ (101 ≤ b ∧ b ≤ 107)) (h2 : b ≠ 109) : skJ J k b = J b := by
  unfold skJ
  rw [gt4_ne _ _ _ _ h2, u2_row _ _ _ (by omega), u2_row _ _ _ (by omega), u2_row _ _ _ (by omega), u2_row _ _ _ (by omega), u2_row _ _ _ (by omega), u2_row _ _ _ (by omega), u2_row _ _ _ (by omega)]
theorem skJ_q (J : J2) (k : Nat) {b q : Nat} (h1 : 101 ≤ b ∧ b ≤ 107) (h2 : q ≠ k) : skJ J k b q = J b q := by
  unfold skJ
  rw [gt4_ne _ _ _ _ (by omega), u2_j _ _ _ _ h2, u2_j _ _ _ _ h2, u2_j _ _ _ _ h2, u2_j _ _ _ _ h2, u2_j _ _ _ _ h2, u2_j _ _ _ _ h2, u2_j _ _ _ _ h2]
theorem skJ_9 (J : J2) (k : Nat) {q r : Nat} (hr : r < 4) (h2 : q ≠ k) : skJ J k 109 (4 * q + r) = J 109 (4 * q + r) := by
  unfold skJ
  rw [gt4_o _ _ _ _ hr (Or.inl h2) (by omega), u2_a _ _ _ _ (by decide), u2_a _ _ _ _ (by decide), u2_a _ _ _ _ (by decide), u2_a _ _ _ _ (by decide), u2_a _ _ _ _ (by decide), u2_a _ _ _ _ (by decide), u2_a _ _ _ _ (by decide)]
theorem skJ_z (I I' : M2) (J : J2) (oc m fl : Nat) (x : Int32) (hx : x = wtd I fl) : cmZ I (skI I' oc m fl x) (skJ J (12 * oc + m)) (12 * oc + m) fl := by
  subst hx
  unfold skI skJ
  refine ⟨?_, ?_, ?_, ?_, ?_, ?_, ?_, ?_, ?_, ?_, ?_, fun r hr => gt4_i _ _ _ _ hr⟩
  · simp [u2]
  · simp [u2]
  · simp [u2]
  · simp [u2]
  all_goals
    rw [gt4_ne _ _ _ _ (by decide)]
    simp [u2]
theorem RunK.sp {I S : M2} {J : J2} {oc : Nat} : ∀ (f m : Nat) (I' : M2) (J' : J2), f ≤ 12 → RunK I S J oc f m I' J' → RkS I S J oc f m I' J' := by
  intro f
  induction f with
  | zero =>
    rintro m I' J' - ⟨rfl, rfl, rfl⟩
    unfold mkI
    refine ⟨rfl, fun b hb => ?_, ⟨?_, ?_, ?_, ?_⟩, fun b q hb hq => ?_, fun b q hb hq => ?_, fun _ _ _ => rfl, fun _ _ _ _ => rfl, fun _ _ _ _ => rfl, fun k hk => absurd hk (Nat.not_lt_zero k)⟩
    · rw [u2_row _ _ _ (by omega), u2_row _ _ _ (by omega), u2_row _ _ _ (by omega), u2_row _ _ _ (by omega)]
    · simp [u2]
    · simp [u2]
    · simp [u2]
    · simp [u2]; rfl
    · rw [u2_j _ _ _ _ hq, u2_j _ _ _ _ hq, u2_j _ _ _ _ hq, u2_j _ _ _ _ hq]
    · rw [u2_a _ _ _ _ (by omega), u2_a _ _ _ _ (by omega), u2_a _ _ _ _ (by omega), u2_a _ _ _ _ (by omega)]
  | succ f ih =>
    rintro m2 I2 J2 hf ⟨m, I', J', hr, ⟨h1, rfl, rfl, rfl⟩ | ⟨h1, rfl, rfl, rfl⟩⟩
    · obtain ⟨a1, a2, ⟨a3, a4, a5, a6⟩, a7, a8, a9, a10, a11, a12⟩ := ih m I' J' (by omega) hr
      have hp : decide (0 < wtd I f) = true := decide_eq_true h1
      have hm12 : m ≤ f := by rw [a1]; exact cntB_le _ _
      refine ⟨?_, fun b hb => ?_, ⟨?_, ?_, ?_, ?_⟩, fun b q hb hq => ?_, fun b q hb hq => ?_, fun b hb1 hb2 => ?_, fun b q hb hq => ?_, fun q r hr4 hq => ?_, fun k hk => ?_⟩
      · rw [cntB_st (g := fun f => decide (0 < wtd I f)) hp, a1]
      · unfold skI
        rw [u2_row _ _ _ (by omega), u2_row _ _ _ (by omega), u2_row _ _ _ (by omega), u2_row _ _ _ (by omega), u2_row _ _ _ (by omega)]
        exact a2 b hb
      · unfold skI
        rw [u2_a _ _ _ _ (by decide), u2_a _ _ _ _ (by decide), u2_a _ _ _ _ (by decide), u2_a _ _ _ _ (by decide), u2_a _ _ _ _ (by decide)]
        exact a3
      · unfold skI
        rw [u2_a _ _ _ _ (by decide), u2_a _ _ _ _ (by decide), u2_a _ _ _ _ (by decide), u2_a _ _ _ _ (by decide), u2_a _ _ _ _ (by decide)]
        exact a4
      · unfold skI
        rw [u2_a _ _ _ _ (by decide), u2_a _ _ _ _ (by decide), u2_a _ _ _ _ (by decide), u2_a _ _ _ _ (by decide), u2_a _ _ _ _ (by decide)]
        exact a5
      · unfold skI
        rw [u2_s]
      · unfold skI
        rw [u2_j _ _ _ _ hq, u2_a _ _ _ _ (by omega), u2_a _ _ _ _ (by omega), u2_a _ _ _ _ (by omega), u2_a _ _ _ _ (by omega)]
        exact a7 b q hb hq
      · unfold skI
        rw [u2_a _ _ _ _ (by omega), u2_j _ _ _ _ (by omega), u2_j _ _ _ _ (by omega), u2_j _ _ _ _ (by omega), u2_j _ _ _ _ (by omega)]
        exact a8 b q hb hq
      · rw [skJ_ne _ _ hb1 hb2]
        exact a9 b hb1 hb2
      · rw [skJ_q _ _ hb (by omega)]
        exact a10 b q hb hq
      · rw [skJ_9 _ _ hr4 (by omega)]
        exact a11 q r hr4 hq
      · by_cases hkm : k = m
        · subst hkm
          exact ⟨f, by omega, hp, a1.symm, skJ_z I I' J' oc k f _ rfl⟩
        · obtain ⟨fl, b1, b2, b3, b4⟩ := a12 k (by omega)
          refine ⟨fl, by omega, b2, b3, b4.eq (fun b hb => ?_) (fun b hb => skJ_q _ _ hb (by omega)) (fun r hr4 => skJ_9 _ _ hr4 (by omega))⟩
          unfold skI
          rw [u2_a _ _ _ _ (by omega), u2_j _ _ _ _ (by omega), u2_j _ _ _ _ (by omega), u2_j _ _ _ _ (by omega), u2_j _ _ _ _ (by omega)]
    · obtain ⟨a1, a2, a3, a7, a8, a9, a10, a11, a12⟩ := ih _ _ _ (by omega) hr
      have hp : ¬ decide (0 < wtd I f) = true := fun h => h1 (of_decide_eq_true h)
      refine ⟨?_, a2, a3, a7, a8, a9, a10, a11, fun k hk => ?_⟩
      · show _ = cntB (fun f => decide (0 < wtd I f)) f + (if decide (0 < wtd I f) = true then 1 else 0)
        rw [if_neg hp]
        exact a1
      · obtain ⟨fl, b1, b2⟩ := a12 k hk
        exact ⟨fl, by omega, b2⟩
set_option maxHeartbeats 1600000 in
theorem s_make {t n : Nat} {d : D2} {I : M2} {J : J2} {S : M2} {L : J2} {R : R2} (h : Sim t n d I J S L R)  : Calls yX6_make cX6_make 4 (some .int) rmX6_make [.ref 0] n (H5 d I J S L R) (P2 t (fun n9 h9 Q9 => Calls yX7_make cX7_make 6 (some .int) rmX7_make [.ref 78] n9 h9 Q9)) := by
  obtain ⟨w, g, fc, oc, uc, td, md, op, oa, nc, ca, h⟩ := h
  obtain ⟨hB, hM, hO, hN, hX, ⟨hA, hT, hV⟩, hF, hP, hR, hOr, hL⟩ := id h
  obtain ⟨hw, hg, hw1, hw6, hg1, hg6, hfc, hfc2, hoc, hoc6, huc, huc5, htd, htd4, hR13, hR62⟩ := id hB
  obtain ⟨mw, mg, -, -, -, -, mfc, -, moc, -, muc, -, mtd, -, mmd, mop⟩ := id hM
  obtain ⟨hut, hmd, hop, hdone, hn, hLay⟩ := id hX
  have hcn : ∀ f, op = false → wtd I f = cil I f := fun f h9 => wt_ci hA hT hoc6 (hL.1 h9) f
  have hpk : op = false → (fun f => decide (0 < wtd I f)) = pk I := fun h9 => by
    funext f
    unfold pk
    rw [hcn f h9]
  have hmk : op = false → mkN I fc = nI (cntB (pk I) fc) := fun h9 => by
    unfold mkN
    rw [sI_cnt (fun f => decide (0 < wtd I f)), hpk h9]
  have hopn : ¬ opn S oc nc ca → op = false := fun h9 => by
    cases hh : op with
    | false => rfl
    | true => exact absurd (hop.mp hh) h9
  have hle := cntB_le (pk I) fc
  have hany : anyB (fun f => decide (0 < cil I f)) fc = anyB (pk I) fc := rfl
  refine t_make hB hO hn hLay (fun h1 => ⟨_, rfl, ⟨_, o_X7 rfl⟩, m_make hM (fun _ => ⟨rfl, h.same⟩) (fun h2 => ?_) (fun h2 => ?_) (fun h2 => ?_)⟩) (fun h1 h2 => ⟨_, rfl, ⟨_, o_X7 rfl⟩, m_make hM (fun h3 => absurd (hop.mp h3) h1) (fun _ _ => ⟨rfl, h.same⟩) (fun h3 h4 => ?_) (fun h3 h4 => ?_)⟩) (fun h1 h2 h3 => ⟨_, rfl, ⟨_, o_X7 rfl⟩, m_make hM (fun h4 => absurd (hop.mp h4) h1) (fun h4 h5 => ?_) (fun _ _ _ => ⟨rfl, h.same⟩) (fun h4 h5 h6 => absurd h6 (by omega))⟩) (fun h1 h2 h3 a n' d' J' S' L' R' hC => ?_)
  · rw [hop.mpr h1] at h2; cases h2
  · rw [hop.mpr h1] at h2; cases h2
  · rw [hop.mpr h1] at h2; cases h2
  · rw [hmk h3] at h4
    have h5 : ¬ 0 < cntB (pk I) fc := fun h9 => by rw [hany, (any_cnt _ _).mpr h9] at h2; cases h2
    rw [show cntB (pk I) fc = 0 by omega] at h4
    exact absurd rfl h4
  · rw [hmk h3] at h4
    have h5 : ¬ 0 < cntB (pk I) fc := fun h9 => by rw [hany, (any_cnt _ _).mpr h9] at h2; cases h2
    rw [show cntB (pk I) fc = 0 by omega] at h4
    exact absurd rfl h4
  · rw [hmk h4] at h5
    rw [hany, any_cnt] at h2
    exact absurd h5 (nI_ne0 h2 (by omega))
  · have hopf := hopn h1
    rw [hany, any_cnt] at h2
    obtain ⟨⟨f1, f2, f3, f4, f5, f6, f7, f8, f9⟩, ⟨a1, a2, a3, a4, a5, a6⟩, ⟨x1, x2⟩, y1, y2⟩ := hC
    have hst : ∀ b, b < 115 → ∀ k, k < 12 → kd d b ≠ (10, 12 * oc + k) := fun b hb k _ e => absurd (kd_ge e (Or.inl rfl)) (by omega)
    have gS : ∀ b, b < 115 → b ≠ 0 → S' b = S b := fun b hb h0 => f5 b (by omega) h0 (by omega) (hst b hb)
    have gJ : ∀ b, b < 115 → J' b = J b := fun b hb => f9 b (by omega) (fun c k hk e => hst c (by omega) k hk)
    have hM' : MB S' w g fc oc uc td md op := hM.eq (fun j _ => by rw [gS 78 (by omega) (by omega)])
    have hmk1 := hmk hopf
    refine ⟨_, rfl, ⟨_, o_X7 rfl⟩, m_make hM' (fun h4 => absurd (hop.mp h4) h1) (fun h4 h5 => ?_) (fun h4 h5 h6 => absurd h6 (by omega)) (fun h4 h5 _ m I9 J9 hRK => ⟨by rw [hmk1], ?_⟩)⟩
    · rw [hmk1] at h5
      exact absurd h5 (nI_ne0 h2 (by omega))
    · obtain ⟨k1, k2, ⟨k3, k4, k5, k6⟩, k7, k8, k9, k10, k11, k12⟩ := RunK.sp fc m I9 J9 hfc2 hRK
      rw [hpk hopf] at k1 k12
      subst k1
      have hopF := hopf
      subst hopF
      have hm12 : cntB (pk I) fc ≤ 12 := by omega
      -- the order's rows
      have hck : ∀ k c, k < 12 → R' (a + 1) k = some c → 115 ≤ c ∧ c + 1 < n' ∧ kd d' c = (10, 12 * oc + k) ∧ kd d' (c + 1) = (3, 4) := fun k c hk hc => by
        rcases a6 oc h3 with h | ⟨b, g1, g2, g3, g4, g5, g6⟩
        · rw [a5] at h; cases h
        · rw [a5] at g1
          cases g1
          rcases g6 k hk with h | ⟨c', e1, e2⟩
          · rw [hc] at h; cases h
          · rw [hc] at e1
            cases e1
            exact e2
      -- older orders
      have hold : ∀ o, o < oc → oa o + 1 < n ∧ 115 ≤ oa o ∧ oa o ≠ a ∧ R' 77 o = some (oa o) ∧ kd d' (oa o) = (13, o) ∧ kd d' (oa o + 1) = (7, 12) ∧ S' (oa o) = S (oa o) ∧ R' (oa o + 1) = R (oa o + 1) := fun o ho => by
        obtain ⟨r1, r2, r3, r4, r5, r6⟩ := hO o ho
        have hlt : oa o + 1 < n := by
          rcases hLay o (by omega) with h | ⟨b, g1, g2, g3, -⟩
          · rw [r1] at h; cases h
          · rw [r1] at g1; cases g1; exact g3
        have h15 := kd_ge r2 (Or.inr (Or.inl rfl))
        have hk1 : kd d' (oa o) = (13, o) := (f2 _ (by omega)).trans r2
        have hne : oa o ≠ a := fun e => by
          rw [e, a3] at hk1
          have : oc = o := congrArg Prod.snd hk1
          omega
        refine ⟨hlt, h15, hne, (f3 o (by omega)).trans r1, hk1, (f2 _ hlt).trans r3, f5 _ (by omega) (by omega) hne (fun k _ e => ?_), f4 _ hlt (by omega) (by omega)⟩
        rw [r2] at e
        cases e
      have holc : ∀ o k, o < oc → k < nc o → ca o k + 1 < n ∧ 115 ≤ ca o k ∧ kd d' (ca o k) = (10, 12 * o + k) ∧ kd d' (ca o k + 1) = (3, 4) ∧ S' (ca o k) = S (ca o k) ∧ L' (ca o k) = L (ca o k) ∧ J' (ca o k + 1) = J (ca o k + 1) := fun o k ho hk => by
        obtain ⟨r1, r2, r3, r4, r5, r6⟩ := hO o ho
        obtain ⟨q1, q2, q3⟩ := r6 k hk
        have hlt : ca o k + 1 < n := by
          rcases hLay o (by omega) with h | ⟨b, g1, g2, g3, g4, g5, g6⟩
          · rw [r1] at h; cases h
          · rw [r1] at g1
            cases g1
            rcases g6 k (by omega) with h | ⟨c, e1, e2, e3, e4⟩
            · rw [q1] at h; cases h
            · rw [q1] at e1; cases e1; exact e3
        have h15 := kd_ge q2 (Or.inl rfl)
        have hnk : ∀ k', k' < 12 → kd d (ca o k) ≠ (10, 12 * oc + k') := fun k' hk' e => by
          rw [q2] at e
          have : 12 * o + k = 12 * oc + k' := congrArg Prod.snd e
          omega
        have hca : ca o k ≠ a := fun e => by
          have hk9 : kd d' (ca o k) = (10, 12 * o + k) := (f2 _ (by omega)).trans q2
          rw [e, a3] at hk9
          cases hk9
        refine ⟨hlt, h15, (f2 _ (by omega)).trans q2, (f2 _ hlt).trans q3, f5 _ (by omega) (by omega) hca hnk, f8 _ (by omega) hnk, f9 _ hlt (fun c k' hk' e => ?_)⟩
        have : c = ca o k := by omega
        subst this
        exact hnk k' hk'
      have gS2 : ∀ b, b ≠ 78 → u2 (u2 (u2 S' 78 19 (nI (oc + 1))) 78 20 1) 78 17 1 b = S' b := fun b hb => by rw [u2_row _ _ _ hb, u2_row _ _ _ hb, u2_row _ _ _ hb]
      generalize hS9 : u2 (u2 (u2 S' 78 19 (nI (oc + 1))) 78 20 1) 78 17 1 = S9 at gS2 ⊢
      have hnew : ∀ k, k < cntB (pk I) fc → ∃ c fl, R' (a + 1) k = some c ∧ fl < fc ∧ pk I fl = true ∧ cntB (pk I) fl = k ∧ csZ I J' S' L' c fl ∧ cmZ I I9 J9 (12 * oc + k) fl := fun k hk => by
        obtain ⟨c, fl, e1, e2, e3, e4, e5⟩ := y2 k hk
        obtain ⟨fl2, e6, e7, e8, e9⟩ := k12 k hk
        have e10 : pk I fl2 = true := by
          have := congrFun (hpk rfl) fl2
          rw [← this]
          exact e7
        obtain rfl := cntB_inj e3 e10 (e4.trans e8.symm)
        exact ⟨c, fl, e1, e2, e3, e4, e5, e9⟩
      obtain ⟨oa2, hoa1, hoa2⟩ : ∃ f : Nat → Nat, f oc = a ∧ ∀ o, o < oc → f o = oa o := ⟨fun o => if o = oc then a else oa o, if_pos rfl, fun o ho => if_neg (by omega)⟩
      obtain ⟨nc2, hnc1, hnc⟩ : ∃ f : Nat → Nat, f oc = cntB (pk I) fc ∧ ∀ o, o < oc → f o = nc o := ⟨fun o => if o = oc then cntB (pk I) fc else nc o, if_pos rfl, fun o ho => if_neg (by omega)⟩
      obtain ⟨ca2, hca1, hca2⟩ : ∃ f : Nat → Nat → Nat, (∀ k, f oc k = (R' (a + 1) k).getD 0) ∧ ∀ o, o < oc → f o = ca o := ⟨fun o => if o = oc then (fun k => (R' (a + 1) k).getD 0) else ca o, fun k => by simp, fun o ho => if_neg (by omega)⟩
      refine SM.sim (?_ : SM w g fc (oc + 1) uc td (t + 1) true true oa2 nc2 ca2 n' d' I9 J9 S9 L' R')
      have ho1 : oc + 1 - 1 = oc := by omega
      have eI : ∀ b, ¬ (92 ≤ b ∧ b ≤ 99) → I9 b = I b := k2
      have hz78 : S9 78 = fun j => if j = 17 then 1 else if j = 20 then 1 else if j = 19 then nI (oc + 1) else S 78 j := by
        rw [← hS9]
        funext j
        simp only [u2, true_and]
        rw [gS 78 (by omega) (by omega)]
      refine SMp.opened ⟨?_, ?_, fun o ho => ?_, fun o ho => ?_, ⟨by omega, by simp, fun o ho => ?_, by omega, a6⟩, ⟨hA.eq (fun b hb => eI b (by omega)), fun c hc => ?_, hV.eq (eI 2 (by omega)) (eI 3 (by omega)) (eI 4 (by omega))⟩, fun f hf => ?_, hP.eq (fun b hb => eI b (by omega)) (fun b hb => (gS2 b (by omega)).trans (gS b (by omega) (by omega))), hR.eq (eI 91 (by omega)) (eI 76 (by omega)), fun o ho => ?_⟩ ⟨by omega, ?_⟩ (fun ka kb hka hkb e => ?_) (fun c hc h5 => ?_)
      · unfold CB
        rw [gS2 1 (by omega), gS2 0 (by omega), gS 1 (by omega) (by omega), f6 3 (by decide), f6 10 (by decide), f6 7 (by decide), f7]
        refine ⟨hw, hg, hw1, hw6, hg1, hg6, hfc, hfc2, rfl, by omega, huc, huc5, htd, htd4, fun f hf => ?_, fun s hs => ?_⟩
        · rw [f4 13 (by omega) (by omega) (by omega)]; exact hR13 f hf
        · rw [f4 62 (by omega) (by omega) (by omega)]; exact hR62 s hs
      · unfold MB
        rw [hz78]
        exact ⟨mw, mg, hw1, hw6, hg1, hg6, mfc, hfc2, rfl, by omega, muc, huc5, mtd, htd4, rfl, rfl⟩
      · by_cases e : o = oc
        · subst e
          refine ⟨by rw [hoa1]; exact a5, ?_⟩
          rw [hoa1, hnc1]
          refine ⟨a3, a4, hm12, by rw [gS2 a (by omega)]; exact y1, fun k hk => ?_⟩
          rw [hca1]
          obtain ⟨c, fl, e1, -⟩ := hnew k hk
          rw [e1]
          exact ⟨rfl, (hck k c (by omega) e1).2.2⟩
        · have ho2 : o < oc := by omega
          obtain ⟨r1, r2, r3, r4, r5, r6⟩ := hO o ho2
          obtain ⟨s1, s2, s3, s4, s5, s6, s7, s8⟩ := hold o ho2
          refine ⟨by rw [hoa2 o ho2]; exact s4, ?_⟩
          rw [hoa2 o ho2, hnc o ho2, hca2 o ho2]
          refine ⟨s5, s6, r4, by rw [gS2 _ (by omega), s7]; exact r5, fun k hk => ?_⟩
          rw [s8]
          obtain ⟨-, -, v3, v4, -⟩ := holc o k ho2 hk
          exact ⟨(r6 k hk).1, v3, v4⟩
      · by_cases e : o = oc
        · subst e
          rw [hnc1]
          exact ⟨k6, hm12⟩
        · rw [hnc o (by omega), k7 94 o (by omega) e]
          exact hN o (by omega)
      · have ho2 : o < oc := by omega
        have hdo : dn S nc ca o = true := by
          by_cases e : o + 1 < oc
          · exact hdone o e
          · have : o = oc - 1 := by omega
            subst this
            cases hh : dn S nc ca (oc - 1) with
            | true => rfl
            | false => exact absurd ⟨by omega, hh⟩ h1
        rw [← hdo]
        show allB _ (nc2 o) = allB _ _
        rw [hnc o ho2]
        refine allB_eq _ (fun k hk => ?_)
        rw [hca2 o ho2, gS2 _ (by have := (holc o k ho2 hk).2.1; omega), (holc o k ho2 hk).2.2.2.2.1]
      · rw [eI 6 (by omega), eI 83 (by omega)]
        exact (hT c hc).imp id (fun ⟨o, e1, e2⟩ => ⟨o, by omega, e2⟩)
      · obtain ⟨g1, g2, rc, g3, g4, g5, g6⟩ := hF f hf
        rw [eI 84 (by omega), eI 85 (by omega), eI 86 (by omega), eI 87 (by omega), eI (14 + 4 * f + 1) (by omega), eI (14 + 4 * f + 2) (by omega), gS2 (14 + 4 * f) (by omega), gS (14 + 4 * f) (by omega) (by omega), k9 (14 + 4 * f + 3) (by omega) (by omega), gJ (14 + 4 * f + 3) (by omega)]
        refine ⟨g1, g2, rc, g3, g4, g5, fun r hr => ?_⟩
        have edb : dbM I9 J9 (oc + 1) nc2 f r = dbM I J oc nc f r := by
          unfold dbM
          rw [eI 87 (by omega)]
          congr 1
          show sL _ oc + sL _ (nc2 oc) = _
          rw [hnc1]
          have z1 : sL (fun j => if I9 96 (12 * oc + j) = nI f then J9 109 (4 * (12 * oc + j) + r) else 0) (cntB (pk I) fc) = 0 := by
            rw [sL_eq (g' := fun _ => 0) _ (fun k hk => ?_)]
            · generalize cntB (pk I) fc = m9
              induction m9 with
              | zero => rfl
              | succ m9 ih => show sL _ m9 + 0 = 0; rw [ih]; rfl
            · obtain ⟨c, fl, e1, e2, e3, e4, e5, e6⟩ := hnew k hk
              have e7 : J9 109 (4 * (12 * oc + k) + r) = 0 := e6.2.2.2.2.2.2.2.2.2.2.2 r (by omega)
              rw [e7]
              split <;> rfl
          rw [z1, Int64.add_zero]
          refine sL_eq oc (fun o ho => ?_)
          rw [hnc o ho]
          refine sL_eq _ (fun j hj => ?_)
          have := (hO o ho).2.2.2.1
          rw [k8 96 _ (by omega) (by omega), k11 _ r (by omega) (by omega), gJ 109 (by omega)]
        rw [edb]
        exact g6 r hr
      · by_cases e : o = oc
        · subst e
          rw [hoa1, hnc1, k3, k4, gS2 a (by omega), x1, x2, gS 78 (by omega) (by omega), mtd, htd, hR 4 (by omega)]
          refine ⟨rfl, rfl, fun k hk => ?_⟩
          rw [hca1]
          obtain ⟨c, fl, e1, e2, e3, e4, e5, e6⟩ := hnew k hk
          rw [e1]
          show csE I9 J9 S9 L' c (12 * o + k) fc
          have hc15 := (hck k c (by omega) e1).1
          obtain ⟨z0, z1, z2, z3, z4, z5, z6, z7, z8, z9, z10, z11, z12, z13, z14, z15⟩ := e5
          obtain ⟨w96, w97, w98, w99, w101, w102, w103, w104, w105, w106, w107, w109⟩ := e6
          have hdu : duM J9 (12 * o + k) = 0 := by unfold duM; rw [w101, w102, w103, w104]; decide
          have hgt : ∀ r, r < 4 → J9 (c + 1) r = 0 := fun r hr => by rw [k9 (c + 1) (by omega) (by omega)]; exact z15 r hr
          refine ⟨⟨?_, ⟨fl, e2, ?_⟩, ?_, ?_, ?_⟩, ⟨?_, ?_, ?_, ?_, ?_, ?_, ?_, ?_, ?_, fun r hr => ?_⟩, fun h9 => ?_, fun _ => ⟨z6, z7, z8, z9, z11, z12, z13, hgt⟩⟩
          · rw [gS2 c (by omega), w96, z0]
          · rw [gS2 c (by omega), z0]
          · rw [gS2 c (by omega), w98, z1, hcn fl rfl]
          · rw [gS2 c (by omega), w97, z2]
          · rw [gS2 c (by omega), w99, z3]
          · rw [w101, z6]
          · rw [w102, z7]
          · rw [w103, z8]
          · rw [w104, z9]
          · rw [hdu, z10]
          · rw [w105, z11]
          · rw [w106, z13]
          · rw [w107, z12]
          · rw [z14, hdu, show J9 109 (4 * (12 * o + k)) = 0 from w109 0 (by omega), w109 1 (by omega), w109 2 (by omega), w109 3 (by omega)]
            decide
          · rw [w109 r hr, hgt r hr]
          · rw [gS2 c (by omega), z2] at h9
            exact absurd h9 (by decide)
        · have ho2 : o < oc := by omega
          rw [hoa2 o ho2, hnc o ho2, hca2 o ho2, k7 92 o (by omega) e, k7 93 o (by omega) e]
          obtain ⟨s1, s2, s3, s4, s5, s6, s7, s8⟩ := hold o ho2
          rw [gS2 _ (by omega), s7]
          obtain ⟨q1, q2, q3⟩ := hOr o ho2
          refine ⟨q1, q2, fun k hk => ?_⟩
          obtain ⟨v1, v2, v3, v4, v5, v6, v7⟩ := holc o k ho2 hk
          have hk12 := (hO o ho2).2.2.2.1
          exact (q3 k hk).eq (fun b hb => by
            by_cases h108 : b = 108 ∨ b = 100
            · rw [eI b (by omega)]
            · exact k8 b _ (by omega) (by omega)) (fun b hb => by rw [k10 b _ hb (by omega), gJ b (by omega)]) (fun r hr => by rw [k11 _ r hr (by omega), gJ 109 (by omega)]) (fun r hr => by rw [k9 _ (by omega) (by omega), v7]) (by rw [gS2 _ (by omega), v5]) v6
      · show allB _ (nc2 (oc + 1 - 1)) = false
        rw [ho1, hnc1]
        refine allB_f h2 ?_
        rw [hca1]
        obtain ⟨c, fl, e1, e2, e3, e4, e5, e6⟩ := hnew 0 h2
        rw [e1]
        show dnS (S9 c 2) = false
        rw [gS2 c (by have := (hck 0 c (by omega) e1).1; omega), e5.2.2.1]
        rfl
      · rw [ho1, hnc1] at hka hkb
        rw [ho1, hca1, hca1] at e
        obtain ⟨c, fl, e1, e2, e3, e4, e5, e6⟩ := hnew ka hka
        obtain ⟨c', fl', e1', e2', e3', e4', e5', e6'⟩ := hnew kb hkb
        rw [e1, e1'] at e
        have e9 : S9 c 0 = S9 c' 0 := e
        rw [gS2 c (by have := (hck ka c (by omega) e1).1; omega), gS2 c' (by have := (hck kb c' (by omega) e1').1; omega), e5.1, e5'.1] at e9
        obtain rfl : fl = fl' := (nI_eq (by omega) (by omega)).mp e9
        exact e4.symm.trans e4'
      · rw [eI 5 (by omega)] at h5
        have h6 := hL.1 rfl c hc h5
        rw [ho1, hnc1]
        unfold lnO
        rw [eI 2 (by omega), eI 6 (by omega), k5]
        rcases (hV c hc).1 with hv | ⟨f, hf, hv⟩
        · exact Or.inl ⟨hv, Or.inl ⟨rfl, h6⟩⟩
        · have hp : pk I f = true := by
            unfold pk cil
            rw [sI_cnt (fun c => inl I c (nI f)), decide_eq_true_eq, i_lt, l0]
            have h7 : 0 < cntB (fun c => inl I c (nI f)) 256 := by
              have h8 : inl I c (nI f) = true := by unfold inl; rw [hv]; simp [h5]
              have := cntB_in (g := fun c => inl I c (nI f)) h8 hc
              omega
            have h8 := cntB_le (fun c => inl I c (nI f)) 256
            rw [nI_toInt (by omega)]
            omega
          obtain ⟨c', fl, e1, e2, e3, e4, e5, e6⟩ := hnew (cntB (pk I) f) (cntB_in hp hf)
          obtain rfl := cntB_inj e3 hp e4
          refine Or.inr ⟨cntB (pk I) fl, cntB_in hp hf, ?_⟩
          rw [hca1, e1]
          show I 2 c = S9 c' 0 ∧ (S9 c' 2 = 4 → _) ∧ (S9 c' 2 ≠ 4 → _)
          rw [gS2 c' (by have := (hck _ c' (by have := cntB_in hp hf; omega) e1).1; omega), e5.1, e5.2.2.1]
          exact ⟨hv, fun h9 => absurd h9 (by decide), fun _ => h6⟩
