set_option maxHeartbeats 4000000 in
theorem joint {w g fc oc uc td t : Nat} {md : Bool} {oa nc : Nat → Nat} {ca : Nat → Nat → Nat} {n : Nat} {d : D2} {I : M2} {J : J2} {S : M2} {L : J2} {R : R2} (h : SM w g fc oc uc td t md true oa nc ca n d I J S L R) {I1 : M2} {J1 : J2} {S1 : M2} (hI1 : ∀ b, 79 ≤ b → I1 b = I b) (hJ1 : ∀ b, 101 ≤ b ∧ b ≤ 109 → J1 b = J b) (hS1 : S1 78 = S 78) : ∀ i, i ≤ nc (oc - 1) → ∀ Ic Jc Sc Lc Im Jm Sm, RunC w g oc nc ca (Ic0 I S oc nc ca) J S L i Ic Jc Sc Lc → RunM w g oc nc (enI I1 (oc - 1) (nc (oc - 1))) J1 S1 i Im Jm Sm → JR oc fc i nc (ca (oc - 1)) I S J1 (enI I1 (oc - 1) (nc (oc - 1))) Jc Sc Lc Im Jm := by
  obtain ⟨hB, hM, hO, hN, ⟨hut, hmd, hop, hdone, hn, hLay⟩, ⟨hA, hT, hV⟩, hF, hP, hR, hOr, hL⟩ := h
  obtain ⟨hw, hg, hw1, hw6, hg1, hg6, hfc, hfc2, hoc, hoc6, huc, huc5, htd, htd4, hR13, hR62⟩ := id hB
  obtain ⟨mw, mg, -, -, -, -, mfc, -, moc, -, muc, -, mtd, -, mmd, mop⟩ := id hM
  have h0 : 0 < oc := (hop.mp rfl).1
  have ho1 : oc - 1 < oc := by omega
  have hl := (hO (oc - 1) ho1).2
  have hm12 := hl.2.2.1
  have h15 : ∀ k, k < nc (oc - 1) → 115 ≤ ca (oc - 1) k := fun k hk => kd_ge (hl.2.2.2.2 k hk).2.1 (Or.inl rfl)
  have hinj : ∀ k k', k < nc (oc - 1) → k' < nc (oc - 1) → k ≠ k' → ca (oc - 1) k ≠ ca (oc - 1) k' := fun k k' h1 h2 h3 e => h3 (ca_inj hO ho1 h1 ho1 h2 e).2
  have hkk : ∀ k k', k < nc (oc - 1) → k' < nc (oc - 1) → ca (oc - 1) k ≠ ca (oc - 1) k' + 1 := fun k k' h1 h2 e => by
    have a1 := (hl.2.2.2.2 k h1).2.1
    have a2 := (hl.2.2.2.2 k' h2).2.2
    rw [e, a2] at a1
    cases a1
  have hTk : ∀ c, c < 256 → TkS I S (oc - 1) (nc (oc - 1)) (ca (oc - 1)) c := fun c hc => tk_spec hA hT hoc6 ho1 hc (fun k hk => by
    obtain ⟨⟨c1, ⟨f, f1, f2⟩, -, c4, -⟩, -⟩ := (hOr (oc - 1) ho1).2.2 k hk
    exact ⟨c4, c1, f, by omega, f2⟩) (hL.2 rfl).1 ((hL.2 rfl).2 c hc)
  intro i
  induction i with
  | zero =>
    rintro - Ic Jc Sc Lc Im Jm Sm ⟨rfl, rfl, rfl, rfl⟩ ⟨rfl, rfl, rfl⟩
    refine ⟨⟨fun _ _ _ => rfl, fun _ _ _ _ => rfl, fun _ _ _ _ => rfl, fun _ _ _ _ => rfl⟩, fun k hk => ?_, fun f rc r hf hrc h85 hr h86 => ?_, fun k hk => ?_⟩
    · exact ((hOr (oc - 1) ho1).2.2 k hk).x.eq (fun b hb => by rw [enI_at (by omega) (by omega) (by omega), hI1 b (by omega)]) (fun b hb => by rw [hJ1 b (by omega)]) (fun r _ => by rw [hJ1 109 (by omega)]) (fun _ _ => rfl) rfl rfl
    · obtain ⟨-, -, rc0, f3, f4, f5, f6⟩ := hF f hf
      obtain rfl : rc = rc0 := (nI_eq (by omega) (by omega)).mp (h85.symm.trans f5)
      rw [(f6 r hr).2.2.2 h86]
      exact (dbM_eq (by rw [enI_at (by omega) (by omega) (by omega), hI1 87 (by omega)]) (by rw [enI_at (by omega) (by omega) (by omega), hI1 96 (by omega)]) (hJ1 109 (by omega)) f r).symm
    · rw [if_neg (fun h => Nat.not_lt_zero _ h.1)]
  | succ i ih =>
    rintro him Ic2 Jc2 Sc2 Lc2 Im2 Jm2 Sm2 ⟨Ic, Jc, Sc, Lc, hrC, hC⟩ ⟨Im, Jm, Sm, hrM, hMM⟩
    have hJR := ih (by omega) Ic Jc Sc Lc Im Jm Sm hrC hrM
    obtain ⟨⟨x1, x2, x3, x4⟩, x5, x6, x7⟩ := hJR
    obtain ⟨kA, kB, kC⟩ := RunC.kp i Ic Jc Sc Lc hrC
    obtain ⟨kL, kJ⟩ := RunC.kp2 i Ic Jc Sc Lc hrC
    obtain ⟨mA, mB, v9, mS⟩ := RunM.kp i Im Jm Sm hrM
    have hcs := x5 i (by omega)
    have hq97 := hcs.1.2.2.2.1
    have hSi : Sc (ca (oc - 1) i) 2 = S (ca (oc - 1) i) 2 := by rw [x7 i (by omega), if_neg (fun h => Nat.lt_irrefl _ h.1)]
    rcases hC with ⟨hrd, hW⟩ | ⟨hrd, rfl, rfl, rfl, rfl⟩
    · obtain ⟨hrm, hWM⟩ := hMM.resolve_right (fun h9 => by
        have h8 := h9.1
        rw [hq97, hrd] at h8
        cases h8)
      obtain ⟨f, rc, vl0, vlo, vf, vb, e1, e2, e3, e4, e5, e6, e7, e8, hFR, hJ, hLL, hSS⟩ := hW
      obtain ⟨f', rc', vl0', vlo', vf', vb', d1, d2, d3, d4, d5, d6, d7, d8, hMR, hJm, hSm⟩ := hWM
      have u97 : ∀ b, b ≠ 97 → u2 Im 97 (12 * (oc - 1) + i) 4 b = Im b := fun b hb => u2_row _ _ _ hb
      have eIm : ∀ b, 79 ≤ b → b ≠ 97 → b ≠ 99 → b ≠ 100 → b ≠ 108 → ¬ (110 ≤ b ∧ b ≤ 114) → b ≠ 83 → b ≠ 95 → Im b = I b := fun b b1 b2 b3 b4 b5 b6 b7 b8 => (mA b b2 b3 b4 b5 (by omega) (by omega) (by omega) (by omega)).trans ((enI_at (by omega) b7 b8).trans (hI1 b b1))
      have eIc : ∀ b, ¬ (8 ≤ b ∧ b ≤ 12) → b ≠ 6 → b ≠ 75 → Ic b = I b := fun b b1 b2 b3 => (kA b (by omega) (by omega) (by omega) (by omega) (by omega)).trans (Ic0_at b2 b3)
      have eS0 : ∀ b, b < 115 → b ≠ 7 → Sc b = S b := fun b b1 b2 => kB b b2 (fun j hj e => by have := h15 j (by omega); omega)
      have eSd : Sm 78 16 = S 0 7 := by rw [mS, u2_j _ _ _ _ (by decide), hS1, mtd, htd]
      have ha15 := h15 i (by omega)
      -- the field, its rights
      rw [u97 96 (by decide), hcs.1.1, e1] at d1
      obtain rfl : f = f' := (nI_eq (by omega) (by omega)).mp d1
      obtain ⟨f0, hf0, ef0⟩ := hcs.1.2.1
      obtain rfl : f = f0 := (nI_eq (by omega) (by omega)).mp (e1.symm.trans ef0)
      obtain ⟨g1, g2, rc0, g3, g4, g5, g6⟩ := hF f hf0
      rw [eS0 (14 + 4 * f) (by omega) (by omega)] at e3
      obtain rfl : rc = rc0 := (nI_eq (by omega) (by omega)).mp (e3.symm.trans g4)
      rw [u97 85 (by decide), eIm 85 (by omega) (by omega) (by omega) (by omega) (by omega) (by omega) (by omega) (by omega)] at d3
      obtain rfl : rc = rc' := (nI_eq (by omega) (by omega)).mp (g5.symm.trans d3)
      -- cells
      have h79 : ∀ c, c < 256 → u2 Im 97 (12 * (oc - 1) + i) 4 79 c = Ic 2 c := fun c hc => by rw [u97 79 (by decide), eIm 79 (by omega) (by omega) (by omega) (by omega) (by omega) (by omega) (by omega) (by omega), eIc 2 (by omega) (by omega) (by omega)]; exact (hA c hc).1
      have h81 : ∀ c, c < 256 → u2 Im 97 (12 * (oc - 1) + i) 4 81 c = Ic 4 c := fun c hc => by rw [u97 81 (by decide), eIm 81 (by omega) (by omega) (by omega) (by omega) (by omega) (by omega) (by omega) (by omega), eIc 4 (by omega) (by omega) (by omega)]; exact (hA c hc).2.2.1
      have hT2 : ∀ c, c < 256 → (u2 Im 97 (12 * (oc - 1) + i) 4 83 c == 0) = (Ic 6 c == -1) := fun c hc => by
        rw [u97 83 (by decide), mA 83 (by decide) (by decide) (by decide) (by decide) (by decide) (by decide) (by decide) (by decide), enI_83 hc, tkB_eq hI1, hI1 83 (by omega), kA 6 (by decide) (by decide) (by decide) (by decide) (by decide), Ic0_6 hc]
        obtain ⟨t1, t2, -⟩ := hTk c hc
        have z1 : (nI (oc - 1 + 1) == 0) = false := beq_eq_false_iff_ne.mpr (nI_ne0 (by omega) (by omega))
        have z2 : (nI (oc - 1) == -1) = false := beq_eq_false_iff_ne.mpr (nI_m1 (by omega))
        cases hk : tkB I (oc - 1) (nc (oc - 1)) c with
        | true => rw [if_pos rfl, if_pos (t1 hk).1, z1, z2]
        | false =>
          rw [if_neg (by decide)]
          cases hc2 : tcB I S (ca (oc - 1)) (nc (oc - 1)) c with
          | true => rw [if_pos rfl, z2, tk0 hT hoc6 hc, t2 hc2 hk, z2]
          | false => rw [if_neg (by decide)]; exact tk0 hT hoc6 hc
      have hS0i : S (ca (oc - 1) i) 0 = nI f := by rw [← (kC (ca (oc - 1) i) (by omega)).1]; exact e1
      have hin : ∀ c, c < 256 → ((u2 Im 97 (12 * (oc - 1) + i) 4 114 c ≠ 0 ∧ u2 Im 97 (12 * (oc - 1) + i) 4 79 c = nI f) ↔ inl Ic c (nI f) = true) := fun c hc => by
        have t3 := (hTk c hc).2.2 i f (by omega) (by rw [← hSi]; exact hrd) hS0i e2
        rw [u97 114 (by decide), mA 114 (by decide) (by decide) (by decide) (by decide) (by decide) (by decide) (by decide) (by decide), enI_114 hc, tkB_eq hI1, u97 79 (by decide), eIm 79 (by omega) (by omega) (by omega) (by omega) (by omega) (by omega) (by omega) (by omega)]
        unfold inl
        rw [eIc 5 (by omega) (by omega) (by omega), eIc 2 (by omega) (by omega) (by omega), Bool.and_eq_true, bne_iff_ne, beq_iff_eq, ← t3]
        constructor
        · rintro ⟨a1, a2⟩
          exact ⟨bi_tt a1, a2⟩
        · rintro ⟨a1, a2⟩
          exact ⟨by rw [a1]; decide, a2⟩
      have hpr := price_eq (Im := u2 Im 97 (12 * (oc - 1) + i) 4) (Sm := Sm) (Ic := Ic) hP hA (fun c hc => (hV c hc).2.1) (eIc 3 (by omega) (by omega) (by omega)) (fun s hs => by rw [kA 75 (by decide) (by decide) (by decide) (by decide) (by decide)]; exact Ic0_75 hs) (by rw [u97 80 (by decide)]; exact eIm 80 (by omega) (by omega) (by omega) (by omega) (by omega) (by omega) (by omega) (by omega)) (by rw [u97 88 (by decide)]; exact eIm 88 (by omega) (by omega) (by omega) (by omega) (by omega) (by omega) (by omega) (by omega)) (by rw [u97 89 (by decide)]; exact eIm 89 (by omega) (by omega) (by omega) (by omega) (by omega) (by omega) (by omega) (by omega)) (by rw [u97 90 (by decide)]; exact eIm 90 (by omega) (by omega) (by omega) (by omega) (by omega) (by omega) (by omega) (by omega)) eSd
      have hD := dv_eq2 hw6 hg6 h79 h81 hT2 (nI f)
      have r91 : ∀ k, k < 5 → u2 Im 97 (12 * (oc - 1) + i) 4 91 k = Ic 76 k := fun k hk => by rw [u97 91 (by decide), eIm 91 (by omega) (by omega) (by omega) (by omega) (by omega) (by omega) (by omega) (by omega), eIc 76 (by omega) (by omega) (by omega)]; exact hR k hk
      have r84 : u2 Im 97 (12 * (oc - 1) + i) 4 84 f = Sc (14 + 4 * f) 0 := by rw [u97 84 (by decide), eIm 84 (by omega) (by omega) (by omega) (by omega) (by omega) (by omega) (by omega) (by omega), eS0 (14 + 4 * f) (by omega) (by omega)]; exact g1
      have hlb : sL (fun o => sL (fun j => if u2 Im 97 (12 * (oc - 1) + i) 4 96 (12 * o + j) = nI f then Jm 102 (12 * o + j) else 0) (nc o)) (oc - 1) = vLbf Sc Lc oc nc ca f := sL_eq _ (fun o ho => sL_eq _ (fun k hk => by
        have hk12 := (hO o (by omega)).2.2.2.1
        have hge := kd_ge ((hO o (by omega)).2.2.2.2.2 k hk).2.1 (Or.inl rfl)
        have hne : ∀ j, j < i → ca o k ≠ ca (oc - 1) j := fun j hj e => by have := (ca_inj hO (show o < oc by omega) hk ho1 (show j < nc (oc - 1) by omega) e).1; omega
        obtain ⟨⟨c1, -⟩, ⟨-, c2, -⟩, -⟩ := (hOr o (by omega)).2.2 k hk
        rw [u97 96 (by decide), eIm 96 (by omega) (by omega) (by omega) (by omega) (by omega) (by omega) (by omega) (by omega), x3 102 _ (by omega) (Or.inl (by omega)), hJ1 102 (by omega), kB _ (by omega) hne, kL _ hne, c1, c2]))
      rw [land_eq hin hpr, ← e5] at d5
      have q5 := d5.symm
      subst q5
      rw [r91 1 (by omega), fence_eq hw6 hg6 h79 hT2 hin, ← e7] at d6
      have q6 := d6.symm
      subst q6
      rw [hD, r84, r91 0 (by omega), hlb, sL_eq _ (fun i9 _ => lD_cg hpr _ _ i9), ← e6] at d7
      have q7 := d7.symm
      subst q7
      rw [hD, r84, r91 2 (by omega), wM_cg hpr, ← e8] at d8
      have q8 := d8.symm
      subst q8
      -- arrays behind it
      rw [hD] at hMR
      have yI : ∀ b q, ¬ (110 ≤ b ∧ b ≤ 113) → q ≠ 12 * (oc - 1) + i → Im2 b q = Im b q := fun b q hb hq => by rw [hMR.at hb, u2_j _ _ _ _ hq, u2_j _ _ _ _ hq, u2_j _ _ _ _ hq, u2_j _ _ _ _ hq]
      have yR : ∀ b, ¬ (110 ≤ b ∧ b ≤ 113) → b ≠ 97 → b ≠ 99 → b ≠ 100 → b ≠ 108 → Im2 b = Im b := fun b hb b1 b2 b3 b4 => by rw [hMR.at hb, u2_row _ _ _ b3, u2_row _ _ _ b4, u2_row _ _ _ b2, u97 b b1]
      have yJ4 : ∀ b, ¬ (101 ≤ b ∧ b ≤ 104) → u2 (u2 (u2 (u2 Jm 101 (12 * (oc - 1) + i) vl0) 103 (12 * (oc - 1) + i) vf) 102 (12 * (oc - 1) + i) vlo) 104 (12 * (oc - 1) + i) vb b = Jm b := fun b hb => by rw [u2_row _ _ _ (by omega), u2_row _ _ _ (by omega), u2_row _ _ _ (by omega), u2_row _ _ _ (by omega)]
      have yD4 : duM (u2 (u2 (u2 (u2 Jm 101 (12 * (oc - 1) + i) vl0) 103 (12 * (oc - 1) + i) vf) 102 (12 * (oc - 1) + i) vlo) 104 (12 * (oc - 1) + i) vb) (12 * (oc - 1) + i) = vl0 + vlo + vf - vb := by
        unfold duM
        simp [u2]
      rw [yD4] at hJm
      have z101 : u2 (u2 (u2 (u2 Jm 101 (12 * (oc - 1) + i) vl0) 103 (12 * (oc - 1) + i) vf) 102 (12 * (oc - 1) + i) vlo) 104 (12 * (oc - 1) + i) vb 101 (12 * (oc - 1) + i) = vl0 := by simp [u2]
      have z102 : u2 (u2 (u2 (u2 Jm 101 (12 * (oc - 1) + i) vl0) 103 (12 * (oc - 1) + i) vf) 102 (12 * (oc - 1) + i) vlo) 104 (12 * (oc - 1) + i) vb 102 (12 * (oc - 1) + i) = vlo := by simp [u2]
      have z103 : u2 (u2 (u2 (u2 Jm 101 (12 * (oc - 1) + i) vl0) 103 (12 * (oc - 1) + i) vf) 102 (12 * (oc - 1) + i) vlo) 104 (12 * (oc - 1) + i) vb 103 (12 * (oc - 1) + i) = vf := by simp [u2]
      have z104 : u2 (u2 (u2 (u2 Jm 101 (12 * (oc - 1) + i) vl0) 103 (12 * (oc - 1) + i) vf) 102 (12 * (oc - 1) + i) vlo) 104 (12 * (oc - 1) + i) vb 104 (12 * (oc - 1) + i) = vb := by simp [u2]
      have zq : ∀ b q, q ≠ 12 * (oc - 1) + i → u2 (u2 (u2 (u2 Jm 101 (12 * (oc - 1) + i) vl0) 103 (12 * (oc - 1) + i) vf) 102 (12 * (oc - 1) + i) vlo) 104 (12 * (oc - 1) + i) vb b q = Jm b q := fun b q hq => by rw [u2_j _ _ _ _ hq, u2_j _ _ _ _ hq, u2_j _ _ _ _ hq, u2_j _ _ _ _ hq]
      generalize hJ4 : u2 (u2 (u2 (u2 Jm 101 (12 * (oc - 1) + i) vl0) 103 (12 * (oc - 1) + i) vf) 102 (12 * (oc - 1) + i) vlo) 104 (12 * (oc - 1) + i) vb = J4 at *
      have yL : ∀ b, b ≠ ca (oc - 1) i → Lc2 b = Lc b := fun b hb => by rw [hLL, u2_row _ _ _ hb, u2_row _ _ _ hb, u2_row _ _ _ hb, u2_row _ _ _ hb, u2_row _ _ _ hb, u2_row _ _ _ hb]
      have yS : ∀ b, b ≠ 7 → b ≠ ca (oc - 1) i → Sc2 b = Sc b := fun b b1 hb => by rw [hSS, u2_row _ _ _ hb, u2_row _ _ _ hb, u2_row _ _ _ hb, u2_row _ _ _ hb, u2_row _ _ _ b1, u2_row _ _ _ b1]
      have yF : ∀ b, ¬ (8 ≤ b ∧ b ≤ 12) → Ic2 b = Ic b := fun b hb => hFR.at hb
      have hz4 : Sc (ca (oc - 1) i) 2 ≠ 4 := rdy_4 hrd
      obtain ⟨-, -, -, -, -, -, -, hzero⟩ := hcs.2.2.2 hz4
      have hsh := sh_eq (Ic := Ic2) (Im := Im2) (L := u2 (u2 (u2 (u2 (u2 Lc (ca (oc - 1) i) 6 vl0) (ca (oc - 1) i) 7 vlo) (ca (oc - 1) i) 8 vf) (ca (oc - 1) i) 9 vb) (ca (oc - 1) i) 10 (vl0 + vlo + vf - vb)) (K := Jc) (J := J4) (oc := oc) (nc := nc) (due := vl0 + vlo + vf - vb) (f := f) (b := ca (oc - 1) i) (rc := rc) (u2_s _ _ _ _) ha15 e2 (fun r hr => by
        obtain ⟨p1, p2, p3, p4⟩ := g6 r hr
        rw [yR 86 (by omega) (by decide) (by decide) (by decide) (by decide), yR 87 (by omega) (by decide) (by decide) (by decide) (by decide), eIm 86 (by omega) (by omega) (by omega) (by omega) (by omega) (by omega) (by omega) (by omega), eIm 87 (by omega) (by omega) (by omega) (by omega) (by omega) (by omega) (by omega) (by omega), yF _ (by omega), yF _ (by omega), eIc _ (by omega) (by omega) (by omega), eIc _ (by omega) (by omega) (by omega)]
        refine ⟨p1, p2, p3, fun h86 => ?_⟩
        rw [x6 f rc r hf0 g3 g5 hr h86]
        exact (dbM_eq (yR 87 (by omega) (by decide) (by decide) (by decide) (by decide)) (yR 96 (by omega) (by decide) (by decide) (by decide) (by decide)) (yJ4 109 (by omega)) f r).symm) rc (Nat.le_refl _)
      rw [← hJ] at hsh
      obtain ⟨sh1, sh2, sh3, sh4, sh5⟩ := hsh
      -- what the reference wrote
      have wJ : ∀ b, b ≠ 109 → Jm2 b = J4 b := fun b hb => by rw [hJm, gt4_ne _ _ _ _ hb]
      have w9o : ∀ q r, r < 4 → q ≠ 12 * (oc - 1) + i → Jm2 109 (4 * q + r) = Jm 109 (4 * q + r) := fun q r hr hq => by rw [hJm, gt4_o _ _ _ _ hr (Or.inl hq) g3, yJ4 109 (by omega)]
      have w9i : ∀ r, r < rc → Jm2 109 (4 * (12 * (oc - 1) + i) + r) = smG Im2 J4 oc nc (vl0 + vlo + vf - vb) f r := fun r hr => by rw [hJm, gt4_i _ _ _ _ hr]
      have w9z : ∀ r, r < 4 → rc ≤ r → Jm2 109 (4 * (12 * (oc - 1) + i) + r) = 0 := fun r hr hrc => by rw [hJm, gt4_o _ _ _ _ hr (Or.inr hrc) g3, yJ4 109 (by omega), hcs.2.1.2.2.2.2.2.2.2.2.2 r hr]; exact hzero r hr
      have w9g : ∀ r, r < 4 → Jm2 109 (4 * (12 * (oc - 1) + i) + r) = Jc2 (ca (oc - 1) i + 1) r := fun r hr => by
        by_cases hrc : r < rc
        · rw [w9i r hrc, sh2 r hrc]
        · rw [w9z r hr (by omega), sh3 r (by omega)]; exact (hzero r hr).symm
      refine ⟨⟨fun b b1 b2 => ?_, fun b q hb hq => ?_, fun b q hb hq => ?_, fun q r hr hq => ?_⟩, fun k hk => ?_, fun fx rx r hfx hrx h85 hr h86 => ?_, fun k hk => ?_⟩
      · rw [wJ b b2, yJ4 b b1]; exact x1 b b1 b2
      · rw [yI b q (by omega) (by omega)]; exact x2 b q hb (by omega)
      · rw [wJ b (by omega), zq b q (by omega)]; exact x3 b q hb (by omega)
      · rw [w9o q r hr (by omega)]; exact x4 q r hr (by omega)
      · by_cases hki : k = i
        · subst hki
          obtain ⟨⟨c1, c2, c3, c4, c5⟩, ⟨b1, b2, b3, b4, b5, b6, b7, b8, b9, b10⟩, c6, c7⟩ := hcs
          have sC : ∀ j, j < 2 → Sc2 (ca (oc - 1) k) j = Sc (ca (oc - 1) k) j := fun j hj => by rw [hSS, u2_j _ _ _ _ (by omega), u2_j _ _ _ _ (by omega), u2_j _ _ _ _ (by omega), u2_j _ _ _ _ (by omega), u2_a _ _ _ _ (by omega), u2_a _ _ _ _ (by omega)]
          have s2 : Sc2 (ca (oc - 1) k) 2 = 4 := by rw [hSS, u2_j _ _ _ _ (by decide), u2_j _ _ _ _ (by decide), u2_j _ _ _ _ (by decide), u2_s]
          have s3 : Sc2 (ca (oc - 1) k) 3 = S 0 7 := by rw [hSS, u2_j _ _ _ _ (by decide), u2_j _ _ _ _ (by decide), u2_s, eS0 0 (by omega) (by omega)]
          have s5 : Sc2 (ca (oc - 1) k) 5 = S 0 7 := by rw [hSS, u2_j _ _ _ _ (by decide), u2_s, eS0 0 (by omega) (by omega)]
          have s4 : Sc2 (ca (oc - 1) k) 4 = Ic 76 3 := by rw [hSS, u2_s]
          have lo : ∀ j, 10 < j → j ≠ 14 → Lc2 (ca (oc - 1) k) j = Lc (ca (oc - 1) k) j := fun j j1 j2 => by rw [hLL, u2_j _ _ _ _ j2, u2_j _ _ _ _ (by omega), u2_j _ _ _ _ (by omega), u2_j _ _ _ _ (by omega), u2_j _ _ _ _ (by omega), u2_j _ _ _ _ (by omega)]
          have l6 : Lc2 (ca (oc - 1) k) 6 = vl0 := by rw [hLL]; simp [u2]
          have l7 : Lc2 (ca (oc - 1) k) 7 = vlo := by rw [hLL]; simp [u2]
          have l8 : Lc2 (ca (oc - 1) k) 8 = vf := by rw [hLL]; simp [u2]
          have l9 : Lc2 (ca (oc - 1) k) 9 = vb := by rw [hLL]; simp [u2]
          have l10 : Lc2 (ca (oc - 1) k) 10 = vl0 + vlo + vf - vb := by rw [hLL, u2_j _ _ _ _ (by decide), u2_s]
          have l14 : Lc2 (ca (oc - 1) k) 14 = (shS Ic2 (u2 (u2 (u2 (u2 (u2 Lc (ca (oc - 1) k) 6 vl0) (ca (oc - 1) k) 7 vlo) (ca (oc - 1) k) 8 vf) (ca (oc - 1) k) 9 vb) (ca (oc - 1) k) 10 (vl0 + vlo + vf - vb)) f (ca (oc - 1) k) Jc rc).1 := by rw [hLL, u2_s]
          have dM : duM Jm2 (12 * (oc - 1) + k) = vl0 + vlo + vf - vb := by rw [← yD4]; exact duM_eq (by rw [wJ 101 (by decide)]) (by rw [wJ 102 (by decide)]) (by rw [wJ 103 (by decide)]) (by rw [wJ 104 (by decide)])
          have i97 : Im2 97 (12 * (oc - 1) + k) = 4 := by rw [hMR.at (by omega), u2_a _ _ _ _ (by decide), u2_a _ _ _ _ (by decide), u2_a _ _ _ _ (by decide), u2_s]
          have i99 : Im2 99 (12 * (oc - 1) + k) = S 0 7 := by rw [hMR.at (by omega), u2_a _ _ _ _ (by decide), u2_a _ _ _ _ (by decide), u2_s, eSd]
          have i108 : Im2 108 (12 * (oc - 1) + k) = S 0 7 := by rw [hMR.at (by omega), u2_a _ _ _ _ (by decide), u2_s, eSd]
          have i100 : Im2 100 (12 * (oc - 1) + k) = Ic 76 3 := by rw [hMR.at (by omega), u2_s, r91 3 (by omega)]
          refine ⟨⟨?_, ?_, ?_, ?_, ?_⟩, ⟨?_, ?_, ?_, ?_, ?_, ?_, ?_, ?_, ?_, w9g⟩, fun _ => ⟨?_, ?_⟩, fun h9 => absurd s2 h9⟩
          · rw [yR 96 (by omega) (by decide) (by decide) (by decide) (by decide), sC 0 (by omega)]; exact c1
          · rw [sC 0 (by omega)]; exact c2
          · rw [yR 98 (by omega) (by decide) (by decide) (by decide) (by decide), sC 1 (by omega)]; exact c3
          · rw [i97, s2]
          · rw [i99, s3]
          · rw [wJ 101 (by decide), z101, l6]
          · rw [wJ 102 (by decide), z102, l7]
          · rw [wJ 103 (by decide), z103, l8]
          · rw [wJ 104 (by decide), z104, l9]
          · rw [l10, dM]
          · rw [wJ 105 (by decide), yJ4 105 (by omega), lo 11 (by decide) (by decide)]; exact b6
          · rw [wJ 106 (by decide), yJ4 106 (by omega), lo 13 (by decide) (by decide)]; exact b7
          · rw [wJ 107 (by decide), yJ4 107 (by omega), lo 12 (by decide) (by decide)]; exact b8
          · rw [l14, sh1, dM]
            exact smR_4 (g := fun r => Jm2 109 (4 * (12 * (oc - 1) + k) + r)) g3 w9i w9z
          · rw [i100, s4]
          · rw [i108, s5]
        · have hq : 12 * (oc - 1) + k ≠ 12 * (oc - 1) + i := by omega
          have hne := hinj k i hk (by omega) hki
          have hk15 := h15 k hk
          exact (x5 k hk).eq (fun b hb => yI b _ (by omega) hq) (fun b hb => by rw [wJ b (by omega), zq b _ hq]) (fun r hr => w9o _ r hr hq) (fun r hr => by rw [sh5 _ (by omega) (by omega)]) (yS _ (by omega) hne) (yL _ hne)
      · have hstep := db_step (I := Im) (I' := Im2) (J := Jm) (J' := Jm2) (oc := oc) (nc := nc) (f := fx) (r := r) (i := i) h0 (by omega) (fun o ho => (hO o ho).2.2.2.1) (by rw [yR 87 (by omega) (by decide) (by decide) (by decide) (by decide)]) (fun q hq => ⟨yI 96 q (by omega) hq, w9o q r (by omega) hq⟩) (by rw [hcs.2.1.2.2.2.2.2.2.2.2.2 r (by omega)]; exact hzero r (by omega))
        have i96 : Im2 96 (12 * (oc - 1) + i) = nI f := by rw [yR 96 (by omega) (by decide) (by decide) (by decide) (by decide), hcs.1.1]; exact e1
        rw [hstep, i96]
        by_cases hff : fx = f
        · subst hff
          obtain rfl : rc = rx := (nI_eq (by omega) (by omega)).mp (g5.symm.trans h85)
          have hk1 : Ic2 (14 + 4 * fx + 1) r = 1 := by
            rw [yF (14 + 4 * fx + 1) (by omega), eIc (14 + 4 * fx + 1) (by omega) (by omega) (by omega), ← (g6 r hr).1]
            exact h86
          rw [if_pos rfl, w9i r hr, sh4 r, if_pos ⟨hr, hk1⟩, x6 fx rc r hfx g3 g5 hr h86]
        · rw [if_neg (fun e => hff ((nI_eq (by omega) (by omega)).mp e).symm), Int64.sub_zero, sh5 _ (by omega) (by omega)]
          exact x6 fx rx r hfx hrx h85 hr h86
      · by_cases hki : k = i
        · subst hki
          rw [if_pos ⟨by omega, by rw [← hSi]; exact hrd⟩, hSS, u2_j _ _ _ _ (by decide), u2_j _ _ _ _ (by decide), u2_j _ _ _ _ (by decide), u2_s]
        · have hk15 := h15 k hk
          rw [yS _ (by omega) (hinj k i hk (by omega) hki), x7 k hk]
          by_cases hlt : k < i ∧ rdy (S (ca (oc - 1) k) 2) = true
          · rw [if_pos hlt, if_pos ⟨by omega, hlt.2⟩]
          · rw [if_neg hlt, if_neg (fun h9 => hlt ⟨by omega, h9.2⟩)]
    · rcases hMM with ⟨hrm, hWM⟩ | ⟨hrm, rfl, rfl, rfl⟩
      · rw [hq97, hrd] at hrm; cases hrm
      · refine ⟨⟨x1, fun b q hb hq => x2 b q hb (by omega), fun b q hb hq => x3 b q hb (by omega), fun q r hr hq => x4 q r hr (by omega)⟩, x5, x6, fun k hk => ?_⟩
        rw [x7 k hk]
        by_cases hlt : k < i ∧ rdy (S (ca (oc - 1) k) 2) = true
        · rw [if_pos hlt, if_pos ⟨by omega, hlt.2⟩]
        · rw [if_neg hlt, if_neg (fun h9 => ?_)]
          by_cases hki : k = i
          · subst hki
            rw [hSi, h9.2] at hrd
            cases hrd
          · exact hlt ⟨by omega, h9.2⟩
