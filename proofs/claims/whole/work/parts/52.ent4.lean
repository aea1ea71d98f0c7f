set_option maxHeartbeats 4000000 in
theorem ent {w g fc oc uc td t : Nat} {md : Bool} {oa nc : Nat → Nat} {ca : Nat → Nat → Nat} {n : Nat} {d : D2} {I : M2} {J : J2} {S : M2} {L : J2} {R : R2} (h : SM w g fc oc uc td t md true oa nc ca n d I J S L R) {I1 Ic : M2} {Jc : J2} {Sc : M2} {Lc : J2} {Im : M2} {Jm : J2} {Sm : M2} (hrC : RunC w g oc nc ca (Ic0 I S oc nc ca) J S L (nc (oc - 1)) Ic Jc Sc Lc) (hI1 : ∀ b, b ≠ 5 → I1 b = Ic b) (hrM : RunM w g oc nc (enI I1 (oc - 1) (nc (oc - 1))) Jc Sc (nc (oc - 1)) Im Jm Sm) : SMp w g fc oc uc td (t + 1) md true oa nc ca n d (fun b => if b = 5 then I 5 else Im b) Jm Sm Lc R ∧ lnU Sm (nc (oc - 1)) (ca (oc - 1)) ∧ (∀ c, c < 256 → I 5 c ≠ 0 → lnO (fun b => if b = 5 then I 5 else Im b) Sm (oc - 1) (nc (oc - 1)) (ca (oc - 1)) c) ∧ (∀ k, k < nc (oc - 1) → Im 97 (12 * (oc - 1) + k) = Sc (ca (oc - 1) k) 2 ∧ Sm (ca (oc - 1) k) 2 = Sc (ca (oc - 1) k) 2) ∧ Im 5 = I1 5 := by
  obtain ⟨hB, hM, hO, hN, ⟨hut, hmd, hop, hdone, hn, hLay⟩, ⟨hA, hT, hV⟩, hF, hP, hR, hOr, hL⟩ := id h
  obtain ⟨hw, hg, hw1, hw6, hg1, hg6, hfc, hfc2, hoc, hoc6, huc, huc5, htd, htd4, hR13, hR62⟩ := id hB
  obtain ⟨kA, kB, kC⟩ := RunC.kp _ Ic Jc Sc Lc hrC
  obtain ⟨kL, kJ⟩ := RunC.kp2 _ Ic Jc Sc Lc hrC
  obtain ⟨mA, mB, v9, mS⟩ := RunM.kp _ Im Jm Sm hrM
  have h0 : 0 < oc := (hop.mp rfl).1
  have ho1 : oc - 1 < oc := by omega
  have hl := (hO (oc - 1) ho1).2
  have h15 : ∀ k, k < nc (oc - 1) → 115 ≤ ca (oc - 1) k := fun k hk => kd_ge (hl.2.2.2.2 k hk).2.1 (Or.inl rfl)
  have hkk : ∀ k k', k < nc (oc - 1) → k' < nc (oc - 1) → ca (oc - 1) k ≠ ca (oc - 1) k' + 1 := fun k k' h1 h2 e => by
    have a1 := (hl.2.2.2.2 k h1).2.1
    have a2 := (hl.2.2.2.2 k' h2).2.2
    rw [e, a2] at a1
    cases a1
  have eIc : ∀ b, ¬ (8 ≤ b ∧ b ≤ 12) → b ≠ 6 → b ≠ 75 → Ic b = I b := fun b b1 b2 b3 => (kA b (by omega) (by omega) (by omega) (by omega) (by omega)).trans (Ic0_at b2 b3)
  have hI79 : ∀ b, 79 ≤ b → I1 b = I b := fun b hb => (hI1 b (by omega)).trans (eIc b (by omega) (by omega) (by omega))
  have eS0 : ∀ b, b < 115 → b ≠ 7 → Sc b = S b := fun b b1 b2 => kB b b2 (fun j hj e => by have := h15 j (by omega); omega)
  have hJ1 : ∀ b, 101 ≤ b ∧ b ≤ 109 → Jc b = J b := fun b hb => kJ b (by omega) (fun j hj e => by have := h15 j (by omega); omega)
  obtain ⟨⟨x1, x2, x3, x4⟩, x5, x6, x7⟩ := joint h hI79 hJ1 (eS0 78 (by omega) (by omega)) _ (Nat.le_refl _) Ic Jc Sc Lc Im Jm Sm hrC hrM
  have eIm : ∀ b, b ≠ 97 → b ≠ 99 → b ≠ 100 → b ≠ 108 → ¬ (110 ≤ b ∧ b ≤ 114) → b ≠ 83 → b ≠ 95 → Im b = I1 b := fun b b2 b3 b4 b5 b6 b7 b8 => (mA b b2 b3 b4 b5 (by omega) (by omega) (by omega) (by omega)).trans (enI_at (by omega) b7 b8)
  have eIs : ∀ b, ¬ (6 ≤ b ∧ b ≤ 13) → b ≠ 75 → b ≠ 97 → b ≠ 99 → b ≠ 100 → b ≠ 108 → ¬ (110 ≤ b ∧ b ≤ 114) → b ≠ 83 → b ≠ 95 → (fun b => if b = 5 then I 5 else Im b) b = I b := fun b c1 c2 b2 b3 b4 b5 b6 b7 b8 => by
    show (if b = 5 then I 5 else Im b) = I b
    by_cases e : b = 5
    · rw [if_pos e, e]
    · rw [if_neg e, eIm b b2 b3 b4 b5 b6 b7 b8, hI1 b e, eIc b (by omega) (by omega) (by omega)]
  have eSm : ∀ b, b ≠ 78 → Sm b = Sc b := fun b hb => by rw [mS, u2_row _ _ _ hb]
  have eSo : ∀ b, b ≠ 7 → b ≠ 78 → (∀ j, j < nc (oc - 1) → b ≠ ca (oc - 1) j) → Sm b = S b := fun b b1 b2 b3 => (eSm b b2).trans (kB b b1 b3)
  have hold : ∀ o k, o + 1 < oc → k < nc o → 115 ≤ ca o k ∧ (∀ j, j < nc (oc - 1) → ca o k ≠ ca (oc - 1) j) ∧ (∀ j, j < nc (oc - 1) → ca o k + 1 ≠ ca (oc - 1) j + 1) := fun o k ho hk => by
    have hne : ∀ j, j < nc (oc - 1) → ca o k ≠ ca (oc - 1) j := fun j hj e => by have := (ca_inj hO (show o < oc by omega) hk ho1 hj e).1; omega
    exact ⟨kd_ge ((hO o (by omega)).2.2.2.2.2 k hk).2.1 (Or.inl rfl), hne, fun j hj e => hne j hj (by omega)⟩
  have hoa : ∀ o, o < oc → Sm (oa o) = S (oa o) := fun o ho => by
    have h1 := kd_ge (hO o ho).2.1 (Or.inr (Or.inl rfl))
    exact eSo _ (by omega) (by omega) (fun j hj => hO.ne (hl.2.2.2.2 j hj).2.1 (by decide) o ho)
  have hTk : ∀ c, c < 256 → TkS I S (oc - 1) (nc (oc - 1)) (ca (oc - 1)) c := fun c hc => tk_spec hA hT hoc6 ho1 hc (fun k hk => by
    obtain ⟨⟨c1, ⟨f, f1, f2⟩, -, c4, -⟩, -⟩ := (hOr (oc - 1) ho1).2.2 k hk
    exact ⟨c4, c1, f, by omega, f2⟩) (hL.2 rfl).1 ((hL.2 rfl).2 c hc)
  have e6 : ∀ c, c < 256 → (fun b => if b = 5 then I 5 else Im b) 6 c = if tcB I S (ca (oc - 1)) (nc (oc - 1)) c = true then nI (oc - 1) else I 6 c := fun c hc => by
    show (if 6 = 5 then I 5 else Im 6) c = _
    rw [if_neg (by decide), eIm 6 (by decide) (by decide) (by decide) (by decide) (by decide) (by decide) (by decide), hI1 6 (by decide), kA 6 (by decide) (by decide) (by decide) (by decide) (by decide), Ic0_6 hc]
  have e83 : ∀ c, c < 256 → (fun b => if b = 5 then I 5 else Im b) 83 c = if tkB I (oc - 1) (nc (oc - 1)) c = true then nI (oc - 1 + 1) else I 83 c := fun c hc => by
    show (if 83 = 5 then I 5 else Im 83) c = _
    rw [if_neg (by decide), mA 83 (by decide) (by decide) (by decide) (by decide) (by decide) (by decide) (by decide) (by decide), enI_83 hc, tkB_eq hI79, hI79 83 (by decide)]
  have hS0 : ∀ k, k < nc (oc - 1) → Sm (ca (oc - 1) k) 0 = S (ca (oc - 1) k) 0 := fun k hk => by
    have := h15 k hk
    rw [eSm _ (by omega)]
    exact (kC _ (by omega)).1
  refine ⟨⟨hB.eq (eSo 0 (by decide) (by decide) (fun j hj e => by have := h15 j hj; omega)) (eSo 1 (by decide) (by decide) (fun j hj e => by have := h15 j hj; omega)), hM.eq (fun j hj => by rw [mS, u2_j _ _ _ _ hj, eS0 78 (by omega) (by omega)]), hO.eq (fun o ho => by rw [hoa o ho]), hN.eq (eIs 94 (by decide) (by decide) (by decide) (by decide) (by decide) (by decide) (by decide) (by decide) (by decide)), ⟨by omega, hmd, fun o ho => ?_, hn, hLay⟩, ⟨hA.eq2 (fun b hb => eIs b (by omega) (by omega) (by omega) (by omega) (by omega) (by omega) (by omega) (by omega) (by omega)), fun c hc => ?_, hV.eq (eIs 2 (by decide) (by decide) (by decide) (by decide) (by decide) (by decide) (by decide) (by decide) (by decide)) (eIs 3 (by decide) (by decide) (by decide) (by decide) (by decide) (by decide) (by decide) (by decide) (by decide)) (eIs 4 (by decide) (by decide) (by decide) (by decide) (by decide) (by decide) (by decide) (by decide) (by decide))⟩, fun f hf => ?_, hP.eq (fun b hb => eIs b (by omega) (by omega) (by omega) (by omega) (by omega) (by omega) (by omega) (by omega) (by omega)) (fun b hb => eSo b (by omega) (by omega) (fun j hj e => by have := h15 j hj; omega)), hR.eq (eIs 91 (by decide) (by decide) (by decide) (by decide) (by decide) (by decide) (by decide) (by decide) (by decide)) (eIs 76 (by decide) (by decide) (by decide) (by decide) (by decide) (by decide) (by decide) (by decide) (by decide)), fun o ho => ?_⟩, fun k k' hk hk' e => (hL.2 rfl).1 k k' hk hk' (by rw [← hS0 k hk, ← hS0 k' hk']; exact e), fun c hc h5 => ?_, fun k hk => ⟨(x5 k hk).1.2.2.2.1, by rw [eSm _ (by have := h15 k hk; omega)]⟩, eIm 5 (by decide) (by decide) (by decide) (by decide) (by decide) (by decide) (by decide)⟩
  · rw [← hdone o ho]
    exact dn_eq (fun k hk => by
      obtain ⟨a1, a2, a3⟩ := hold o k ho hk
      rw [eSo _ (by omega) (by omega) a2])
  · rw [e6 c hc, e83 c hc]
    obtain ⟨t1, t2, -⟩ := hTk c hc
    cases hk : tkB I (oc - 1) (nc (oc - 1)) c with
    | true =>
      rw [if_pos (t1 hk).1, if_pos rfl]
      exact Or.inr ⟨oc - 1, ho1, rfl, rfl⟩
    | false =>
      rw [if_neg (show ¬ false = true by decide)]
      cases hc2 : tcB I S (ca (oc - 1)) (nc (oc - 1)) c with
      | true =>
        rw [if_pos rfl]
        have h6 := t2 hc2 hk
        rcases hT c hc with ⟨a1, a2⟩ | ⟨o, a1, a2, a3⟩
        · rw [h6] at a1
          exact absurd a1 (nI_m1 (by omega))
        · rw [h6] at a2
          exact Or.inr ⟨o, a1, a2, a3⟩
      | false =>
        rw [if_neg (show ¬ false = true by decide)]
        exact hT c hc
  · obtain ⟨f1, f2, rc, f3, f4, f5, f6⟩ := hF f hf
    have eg : ∀ b, (14 ≤ b ∧ b ≤ 61) ∨ (84 ≤ b ∧ b ≤ 87) ∨ b = 96 → (fun b => if b = 5 then I 5 else Im b) b = I b := fun b hb => eIs b (by omega) (by omega) (by omega) (by omega) (by omega) (by omega) (by omega) (by omega) (by omega)
    have eJf : Jm (14 + 4 * f + 3) = Jc (14 + 4 * f + 3) := x1 _ (by omega) (by omega)
    have edb : ∀ r, dbM (fun b => if b = 5 then I 5 else Im b) Jm oc nc f r = dbM Im Jm oc nc f r := fun r => dbM_eq rfl rfl rfl f r
    rw [eg 84 (by omega), eg 85 (by omega), eg 86 (by omega), eg 87 (by omega), eg (14 + 4 * f + 1) (by omega), eg (14 + 4 * f + 2) (by omega), eSo (14 + 4 * f) (by omega) (by omega) (fun j hj e => by have := h15 j hj; omega), eJf]
    refine ⟨f1, f2, rc, f3, f4, f5, fun r hr => ?_⟩
    obtain ⟨r1, r2, r3, r4⟩ := f6 r hr
    refine ⟨r1, r2, r3, fun h86 => ?_⟩
    rw [edb r]
    exact x6 f rc r hf f3 f5 hr h86
  · rw [hoa o ho, eIs 92 (by decide) (by decide) (by decide) (by decide) (by decide) (by decide) (by decide) (by decide) (by decide), eIs 93 (by decide) (by decide) (by decide) (by decide) (by decide) (by decide) (by decide) (by decide) (by decide)]
    obtain ⟨q1, q2, q3⟩ := hOr o ho
    refine ⟨q1, q2, fun k hk => ?_⟩
    by_cases ho2 : o = oc - 1
    · subst ho2
      have ha := h15 k hk
      exact ((x5 k hk).eq (I' := (fun b => if b = 5 then I 5 else Im b)) (J' := Jm) (S' := Sm) (L' := Lc) (K' := Jm) (fun b hb => by show (if b = 5 then I 5 else Im b) _ = _; rw [if_neg (by omega)]) (fun _ _ => rfl) (fun _ _ => rfl) (fun r _ => by rw [x1 _ (by omega) (by omega)]) (eSm _ (by omega)) rfl).e
    · obtain ⟨a1, a2, a3⟩ := hold o k (by omega) hk
      have hk12 := (hO o ho).2.2.2.1
      refine (q3 k hk).eq (fun b hb => ?_) (fun b hb => ?_) (fun r hr => ?_) (fun r _ => ?_) (eSo _ (by omega) (by omega) a2) (kL _ a2)
      · show (if b = 5 then I 5 else Im b) _ = _
        rw [if_neg (by omega)]
        by_cases e9 : b = 99 ∨ b = 100 ∨ b = 108
        · rw [x2 b _ e9 (Or.inl (by omega)), enI_at (by omega) (by omega) (by omega), hI79 b (by omega)]
        · by_cases e7 : b = 97
          · subst e7
            rw [(mB _ (Or.inl (by omega))).1, enI_at (by omega) (by omega) (by omega), hI79 97 (by omega)]
          · rw [eIm b (by omega) (by omega) (by omega) (by omega) (by omega) (by omega) (by omega), hI79 b (by omega)]
      · by_cases e9 : b ≤ 104
        · rw [x3 b _ (by omega) (Or.inl (by omega)), hJ1 b (by omega)]
        · rw [x1 b (by omega) (by omega), hJ1 b (by omega)]
      · rw [x4 _ r hr (Or.inl (by omega)), hJ1 109 (by omega)]
      · rw [x1 _ (by omega) (by omega), kJ _ (by omega) a3]
  · have hln := (hL.2 rfl).2 c hc h5
    have hst : ∀ k, k < nc (oc - 1) → Sm (ca (oc - 1) k) 2 = if rdy (S (ca (oc - 1) k) 2) = true then 4 else S (ca (oc - 1) k) 2 := fun k hk => by
      rw [eSm _ (by have := h15 k hk; omega), x7 k hk]
      by_cases hr : rdy (S (ca (oc - 1) k) 2) = true
      · rw [if_pos ⟨hk, hr⟩, if_pos hr]
      · rw [if_neg (fun h9 => hr h9.2), if_neg hr]
    have hm1 : ∀ k, k < nc (oc - 1) → S (ca (oc - 1) k) 0 ≠ -1 := fun k hk e => by
      obtain ⟨⟨-, ⟨f, f1, f2⟩, -⟩, -⟩ := (hOr (oc - 1) ho1).2.2 k hk
      rw [f2] at e
      exact nI_m1 (by omega) e
    have hanyT : anyB (fun k => rdy (S (ca (oc - 1) k) 2) && I 2 c == S (ca (oc - 1) k) 0) (nc (oc - 1)) = true ↔ ∃ k, k < nc (oc - 1) ∧ rdy (S (ca (oc - 1) k) 2) = true ∧ I 2 c = S (ca (oc - 1) k) 0 := by
      rw [anyB_t]
      constructor
      · rintro ⟨k, h1, h2⟩
        rw [Bool.and_eq_true, beq_iff_eq] at h2
        exact ⟨k, h1, h2⟩
      · rintro ⟨k, h1, h2, h3⟩
        exact ⟨k, h1, by rw [Bool.and_eq_true, beq_iff_eq]; exact ⟨h2, h3⟩⟩
    have htc : tcB I S (ca (oc - 1)) (nc (oc - 1)) c = true ↔ I 5 c ≠ 0 ∧ (I 2 c = -1 ∨ ∃ k, k < nc (oc - 1) ∧ rdy (S (ca (oc - 1) k) 2) = true ∧ I 2 c = S (ca (oc - 1) k) 0) := by
      unfold tcB
      rw [Bool.and_eq_true, Bool.or_eq_true, hanyT, beq_iff_eq, bne_iff_ne]
    have e95 : (fun b => if b = 5 then I 5 else Im b) 95 (oc - 1) = 1 := by
      show (if 95 = 5 then I 5 else Im 95) (oc - 1) = 1
      rw [if_neg (by decide), mA 95 (by decide) (by decide) (by decide) (by decide) (by decide) (by decide) (by decide) (by decide)]
      unfold enI
      rw [u2_s]
    unfold lnO
    rw [e6 c hc, e95, eIs 2 (by decide) (by decide) (by decide) (by decide) (by decide) (by decide) (by decide) (by decide) (by decide)]
    rcases hln with ⟨a1, a2⟩ | ⟨k, a1, a2, a3, a4⟩
    · refine Or.inl ⟨a1, Or.inr ⟨by decide, ?_⟩⟩
      rw [if_pos (htc.mpr ⟨h5, Or.inl a1⟩)]
    · refine Or.inr ⟨k, a1, by rw [hS0 k a1]; exact a2, ?_⟩
      rw [hst k a1]
      by_cases hr : rdy (S (ca (oc - 1) k) 2) = true
      · rw [if_pos hr, if_pos (htc.mpr ⟨h5, Or.inr ⟨k, a1, hr, a2⟩⟩)]
        exact ⟨fun _ => rfl, fun h9 => absurd rfl h9⟩
      · rw [if_neg hr]
        have hnt : S (ca (oc - 1) k) 2 ≠ 4 → ¬ tcB I S (ca (oc - 1)) (nc (oc - 1)) c = true := fun _ h9 => by
          rcases (htc.mp h9).2 with b1 | ⟨k', b1, b2, b3⟩
          · rw [a2] at b1
            exact absurd b1 (hm1 k a1)
          · obtain rfl := (hL.2 rfl).1 k k' a1 b1 (a2.symm.trans b3)
            exact hr b2
        refine ⟨fun h4 => ?_, fun h4 => ?_⟩
        · rw [a3 h4]
          split <;> rfl
        · rw [if_neg (hnt h4)]
          exact a4 h4
set_option maxHeartbeats 1600000 in
theorem s_enter {t n : Nat} {d : D2} {I : M2} {J : J2} {S : M2} {L : J2} {R : R2} (h : Sim t n d I J S L R)  : Calls yX6_enter cX6_enter 3 (some .int) rmX6_enter [.ref 0] n (H5 d I J S L R) (P2 t (fun n9 h9 Q9 => Calls yX7_enter cX7_enter 6 (some .int) rmX7_enter [.ref 78] n9 h9 Q9)) := by
  obtain ⟨w, g, fc, oc, uc, td, md, op, oa, nc, ca, h⟩ := h
  obtain ⟨hB, hM, hO, hN, hX, ⟨hA, hT, hV⟩, hF, hP, hR, hOr, hL⟩ := id h
  obtain ⟨hw, hg, hw1, hw6, hg1, hg6, hfc, hfc2, hoc, hoc6, huc, huc5, htd, htd4, hR13, hR62⟩ := id hB
  obtain ⟨mw, mg, -, -, -, -, mfc, -, moc, -, muc, -, mtd, -, mmd, mop⟩ := id hM
  obtain ⟨hut, hmd, hop, hdone, hn, hLay⟩ := id hX
  have hcfC : ∀ o, o < oc → ∀ k, k < nc o → ∃ f, f < fc ∧ S (ca o k) 0 = nI f := fun o ho k hk => ((hOr o ho).2.2 k hk).1.2.1
  have hrcC : ∀ j, j < fc → ∃ rc, rc ≤ 4 ∧ S (14 + 4 * j) 1 = nI rc := fun j hj => by
    obtain ⟨-, -, rc, f3, f4, -⟩ := hF j hj
    exact ⟨rc, f3, f4⟩
  have hpC : ∀ j, j < 4 → ∃ c, c ≤ 20 ∧ S (63 + 3 * j) 0 = nI c := fun j hj => by
    obtain ⟨c, h1, h2, -⟩ := hP j hj
    exact ⟨c, h1, h2⟩
  have hpM : ∀ j, j < 4 → ∃ c, c ≤ 20 ∧ I 88 j = nI c ∧ ∀ i, i < c → 0 ≤ (I 89 (20 * j + i)).toInt := fun j hj => by
    obtain ⟨c, h1, h2, h3, h4⟩ := hP j hj
    exact ⟨c, h1, h3, fun i hi => (h4 i hi).2.2⟩
  have hcfM : ∀ o k, o < oc → k < nc o → ∃ f, f < fc ∧ I 96 (12 * o + k) = nI f := fun o k ho hk => by
    obtain ⟨f, f1, f2⟩ := hcfC o ho k hk
    exact ⟨f, f1, ((hOr o ho).2.2 k hk).1.1.trans f2⟩
  have hrcM : ∀ j, j < fc → ∃ rc, rc ≤ 4 ∧ I 85 j = nI rc := fun j hj => by
    obtain ⟨-, -, rc, f3, -, f5, -⟩ := hF j hj
    exact ⟨rc, f3, f5⟩
  have hho : ∀ j, j < fc → lt256 (I 84 j) := fun j hj => (hF j hj).2.1
  have hout := hout_of hA hV
  have hsoM : ∀ p, p < 256 → ∃ k, k < 4 ∧ I 80 p = nI k := fun p hp => by
    obtain ⟨k, k1, k2⟩ := (hV p hp).2.1
    exact ⟨k, k1, (hA p hp).2.1.trans k2⟩
  have hst : 0 < oc → ∀ k, k < nc (oc - 1) → I 97 (12 * (oc - 1) + k) = S (ca (oc - 1) k) 2 := fun h9 k hk => ((hOr (oc - 1) (by omega)).2.2 k hk).1.2.2.2.1
  have hrd : 0 < oc → rdN I (oc - 1) (nc (oc - 1)) = rdC S (ca (oc - 1)) (nc (oc - 1)) := fun h9 => sI_eq _ (fun k hk => by rw [hst h9 k hk])
  have hrz : 0 < oc → (¬ rdC S (ca (oc - 1)) (nc (oc - 1)) = 0 ↔ anyB (fun k => rdy (S (ca (oc - 1) k) 2)) (nc (oc - 1)) = true) := fun h9 => by
    have hm := (hO (oc - 1) (by omega)).2.2.2.1
    unfold rdC
    rw [sI_cnt (fun k => rdy (S (ca (oc - 1) k) 2)), any_cnt]
    have hle := cntB_le (fun k => rdy (S (ca (oc - 1) k) 2)) (nc (oc - 1))
    constructor
    · intro h8
      rcases Nat.eq_zero_or_pos (cntB (fun k => rdy (S (ca (oc - 1) k) 2)) (nc (oc - 1))) with h7 | h7
      · rw [h7] at h8; exact absurd rfl h8
      · exact h7
    · intro h8
      exact nI_ne0 h8 (by omega)
  have hcnd : 0 < oc → ((¬ rdN I (oc - 1) (nc (oc - 1)) = 0 ∧ I 92 (oc - 1) + I 93 (oc - 1) ≤ S 78 16) ↔ (S (oa (oc - 1)) 0 + S (oa (oc - 1)) 1 ≤ S 0 7 ∧ anyB (fun k => rdy (S (ca (oc - 1) k) 2)) (nc (oc - 1)) = true)) := fun h9 => by
    rw [hrd h9, hrz h9, (hOr (oc - 1) (by omega)).1, (hOr (oc - 1) (by omega)).2.1, mtd, htd]
    exact And.comm
  have hz : 0 < oc → ∀ i, i < nc (oc - 1) → rdy (I 97 (12 * (oc - 1) + i)) = true → J 101 (12 * (oc - 1) + i) = 0 ∧ J 103 (12 * (oc - 1) + i) = 0 := fun h9 i hi hr => by
    obtain ⟨⟨-, -, -, c4, -⟩, ⟨g1, -, g3, -⟩, -, c7⟩ := (hOr (oc - 1) (by omega)).2.2 i hi
    rw [c4] at hr
    have h8 := c7 (rdy_4 hr)
    exact ⟨g1.trans h8.1, g3.trans h8.2.2.1⟩
  refine t_enter hB hO hpC hcfC hrcC (fun p hp => (hV p hp).2.1) (fun c hc => (hV c hc).2.2.1) (fun h1 => ?_) (fun h1 h2 => ?_) (fun h1 h2 I' J' S' L' hrC hall => ?_) (fun h1 h2 I' J' S' L' hrC hall => ?_)
  · by_cases h0 : 0 < oc
    · exact ⟨_, rfl, ⟨_, o_X7 rfl⟩, m_enter hM hN (fun h9 => (hop.mp h9).1) hcfM hrcM hho hpM hsoM hout (hz h0) (fun _ => ⟨rfl, h.same⟩) (fun h2 => absurd (hop.mp h2) h1) (fun h2 => absurd (hop.mp h2) h1) (fun h2 => absurd (hop.mp h2) h1)⟩
    · obtain rfl : oc = 0 := by omega
      exact ⟨_, rfl, ⟨_, o_X7 rfl⟩, m_enter (nc := fun _ => 0) hM OM.z (fun h9 => (hop.mp h9).1) (fun o k ho => absurd ho (Nat.not_lt_zero o)) hrcM hho hpM hsoM hout (fun i hi => absurd hi (Nat.not_lt_zero i)) (fun _ => ⟨rfl, h.same⟩) (fun h2 => absurd (hop.mp h2) h1) (fun h2 => absurd (hop.mp h2) h1) (fun h2 => absurd (hop.mp h2) h1)⟩
  · have h0 := h1.1
    exact ⟨_, rfl, ⟨_, o_X7 rfl⟩, m_enter hM hN (fun h9 => (hop.mp h9).1) hcfM hrcM hho hpM hsoM hout (hz h0) (fun h9 => absurd (hop.mpr h1) h9) (fun _ _ => ⟨rfl, h.same⟩) (fun _ h9 => absurd ((hcnd h0).mp h9) h2) (fun _ h9 => absurd ((hcnd h0).mp h9) h2)⟩
  · skip
    have h0 := h1.1
    have ho1 : oc - 1 < oc := by omega
    have hopt := hop.mpr h1
    subst hopt
    have hl := (hO (oc - 1) ho1).2
    have h15 : ∀ k, k < nc (oc - 1) → 115 ≤ ca (oc - 1) k := fun k hk => kd_ge (hl.2.2.2.2 k hk).2.1 (Or.inl rfl)
    obtain ⟨kA, kB, kC⟩ := RunC.kp _ I' J' S' L' hrC
    obtain ⟨kL, kJ⟩ := RunC.kp2 _ I' J' S' L' hrC
    have eIc : ∀ b, ¬ (8 ≤ b ∧ b ≤ 12) → b ≠ 6 → b ≠ 75 → I' b = I b := fun b b1 b2 b3 => (kA b (by omega) (by omega) (by omega) (by omega) (by omega)).trans (Ic0_at (nc := nc) (ca := ca) b2 b3)
    have e78 : S' 78 = S 78 := kB 78 (by decide) (fun j hj e => by have := h15 j hj; omega)
    have hJ1 : ∀ b, 101 ≤ b ∧ b ≤ 109 → J' b = J b := fun b hb => kJ b (by omega) (fun j hj e => by have := h15 j hj; omega)
    have e79 : ∀ b, 79 ≤ b → (rowU I' 5 256 (fun _ => 0)) b = I b := fun b hb => by rw [rowU_ne _ _ _ (by omega), eIc b (by omega) (by omega) (by omega)]
    refine ⟨_, rfl, ⟨_, o_X7 rfl⟩, m_enter (hM.eq (fun j _ => by rw [e78])) (hN.eq (e79 94 (by omega))) (fun _ => h0) (by rw [e79 96 (by omega)]; exact hcfM) (by rw [e79 85 (by omega)]; exact hrcM) (by rw [e79 84 (by omega)]; exact hho) (by rw [e79 88 (by omega), e79 89 (by omega)]; exact hpM) (by rw [e79 80 (by omega)]; exact hsoM) (by rw [e79 79 (by omega)]; exact hout) (by rw [e79 97 (by omega), hJ1 101 (by omega), hJ1 103 (by omega)]; exact hz h0) (fun h9 => absurd rfl h9) (fun _ h9 => absurd ?_ h9) (fun _ _ I2 J2 S2 hrM hall2 => ?_) (fun _ _ I2 J2 S2 hrM hall2 => ?_)⟩
    · have e9 : rdN (rowU I' 5 256 (fun _ => 0)) (oc - 1) (nc (oc - 1)) = rdN I (oc - 1) (nc (oc - 1)) := by unfold rdN; rw [e79 97 (by omega)]
      rw [e9, e79 92 (by omega), e79 93 (by omega), e78]
      exact (hcnd h0).mpr h2
    · obtain ⟨n1, n2, n3, n4, n5⟩ := ent h hrC (fun b hb => rowU_ne _ _ _ hb) hrM
      have hal : allB (fun k => dnS (I2 97 (12 * (oc - 1) + k))) (nc (oc - 1)) = allB (fun k => dnS (S' (ca (oc - 1) k) 2)) (nc (oc - 1)) := allB_eq _ (fun k hk => by rw [(n4 k hk).1])
      refine ⟨by rw [show rdN (rowU I' 5 256 (fun _ => 0)) (oc - 1) (nc (oc - 1)) = rdN I (oc - 1) (nc (oc - 1)) by unfold rdN; rw [e79 97 (by omega)], hrd h0], SM.sim (n1.closed ?_ (fun c hc => ?_) (fun c hc => rowU_in _ _ _ hc) (fun b b5 b82 => ?_) (fun b hb => u2_row _ _ _ hb) (fun j hj => u2_j _ _ _ _ hj) (u2_s _ _ _ _))⟩
      · rw [← hall]
        exact allB_eq _ (fun k hk => by rw [(n4 k hk).2])
      · rw [rowU_ne _ _ _ (by decide), n5, rowU_in _ _ _ hc]
      · rw [rowU_ne _ _ _ b82, if_neg b5]
    · obtain ⟨n1, n2, n3, n4, n5⟩ := ent h hrC (fun b hb => rowU_ne _ _ _ hb) hrM
      have hal : allB (fun k => dnS (I2 97 (12 * (oc - 1) + k))) (nc (oc - 1)) = allB (fun k => dnS (S' (ca (oc - 1) k) 2)) (nc (oc - 1)) := allB_eq _ (fun k hk => by rw [(n4 k hk).1])
      rw [hal, hall] at hall2
      cases hall2
  · skip
    have h0 := h1.1
    have ho1 : oc - 1 < oc := by omega
    have hopt := hop.mpr h1
    subst hopt
    have hl := (hO (oc - 1) ho1).2
    have h15 : ∀ k, k < nc (oc - 1) → 115 ≤ ca (oc - 1) k := fun k hk => kd_ge (hl.2.2.2.2 k hk).2.1 (Or.inl rfl)
    obtain ⟨kA, kB, kC⟩ := RunC.kp _ I' J' S' L' hrC
    obtain ⟨kL, kJ⟩ := RunC.kp2 _ I' J' S' L' hrC
    have eIc : ∀ b, ¬ (8 ≤ b ∧ b ≤ 12) → b ≠ 6 → b ≠ 75 → I' b = I b := fun b b1 b2 b3 => (kA b (by omega) (by omega) (by omega) (by omega) (by omega)).trans (Ic0_at (nc := nc) (ca := ca) b2 b3)
    have e78 : S' 78 = S 78 := kB 78 (by decide) (fun j hj e => by have := h15 j hj; omega)
    have hJ1 : ∀ b, 101 ≤ b ∧ b ≤ 109 → J' b = J b := fun b hb => kJ b (by omega) (fun j hj e => by have := h15 j hj; omega)
    have e79 : ∀ b, 79 ≤ b → I' b = I b := fun b hb => eIc b (by omega) (by omega) (by omega)
    refine ⟨_, rfl, ⟨_, o_X7 rfl⟩, m_enter (hM.eq (fun j _ => by rw [e78])) (hN.eq (e79 94 (by omega))) (fun _ => h0) (by rw [e79 96 (by omega)]; exact hcfM) (by rw [e79 85 (by omega)]; exact hrcM) (by rw [e79 84 (by omega)]; exact hho) (by rw [e79 88 (by omega), e79 89 (by omega)]; exact hpM) (by rw [e79 80 (by omega)]; exact hsoM) (by rw [e79 79 (by omega)]; exact hout) (by rw [e79 97 (by omega), hJ1 101 (by omega), hJ1 103 (by omega)]; exact hz h0) (fun h9 => absurd rfl h9) (fun _ h9 => absurd ?_ h9) (fun _ _ I2 J2 S2 hrM hall2 => ?_) (fun _ _ I2 J2 S2 hrM hall2 => ?_)⟩
    · have e9 : rdN I' (oc - 1) (nc (oc - 1)) = rdN I (oc - 1) (nc (oc - 1)) := by unfold rdN; rw [e79 97 (by omega)]
      rw [e9, e79 92 (by omega), e79 93 (by omega), e78]
      exact (hcnd h0).mpr h2
    · obtain ⟨n1, n2, n3, n4, n5⟩ := ent h hrC (fun _ _ => rfl) hrM
      have hal : allB (fun k => dnS (I2 97 (12 * (oc - 1) + k))) (nc (oc - 1)) = allB (fun k => dnS (S' (ca (oc - 1) k) 2)) (nc (oc - 1)) := allB_eq _ (fun k hk => by rw [(n4 k hk).1])
      rw [hal, hall] at hall2
      cases hall2
    · obtain ⟨n1, n2, n3, n4, n5⟩ := ent h hrC (fun _ _ => rfl) hrM
      have hal : allB (fun k => dnS (I2 97 (12 * (oc - 1) + k))) (nc (oc - 1)) = allB (fun k => dnS (S' (ca (oc - 1) k) 2)) (nc (oc - 1)) := allB_eq _ (fun k hk => by rw [(n4 k hk).1])
      have n6 := n1.opened ⟨h0, ?_⟩ n2 (fun c hc h5 => n3 c hc (by rw [if_pos rfl] at h5; exact h5))
      · have eI : (fun b => if b = 5 then I 5 else I2 b) = I2 := by
          funext b
          by_cases e : b = 5
          · subst e
            rw [if_pos rfl, n5, eIc 5 (by omega) (by omega) (by omega)]
          · rw [if_neg e]
        rw [eI] at n6
        exact ⟨by rw [show rdN I' (oc - 1) (nc (oc - 1)) = rdN I (oc - 1) (nc (oc - 1)) by unfold rdN; rw [e79 97 (by omega)], hrd h0], SM.sim n6⟩
      · rw [← hall]
        exact allB_eq _ (fun k hk => by rw [(n4 k hk).2])
