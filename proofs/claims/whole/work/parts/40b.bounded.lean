set_option maxHeartbeats 800000 in
set_option maxRecDepth 100000 in
theorem t_priceB {n : Nat} {d : D2} {I : M2} {J : J2} {S : M2} {L : J2} {R : R2} {Q : QT} {w g fc oc uc td : Nat} (hB : CB S R w g fc oc uc td) {x y z : Int32} (hpc : ∀ j, j < 4 → ∃ c, c ≤ 20 ∧ S (63 + 3 * j) 0 = nI c) (hq1 : ¬ (0 ≤ x.toInt ∧ x.toInt ≤ 3) → Q (some (.int (-101))) n (H5 d I J S L R)) (hq2 : (0 ≤ x.toInt ∧ x.toInt ≤ 3) → ¬ ((0 ≤ y.toInt ∧ y.toInt ≤ 10000) ∧ rng z 0 100000) → Q (some (.int (-102))) n (H5 d I J S L R)) (hq3 : ∀ j c, x = nI j → j < 4 → c ≤ 20 → S (63 + 3 * j) 0 = nI c → ((0 ≤ y.toInt ∧ y.toInt ≤ 10000) ∧ rng z 0 100000) → fndI (I ((63 + 3 * j) + 1)) y c 0 < c → Q (some (.int (nI c))) n (H5 d (u2 I ((63 + 3 * j) + 2) (fndI (I ((63 + 3 * j) + 1)) y c 0) z) J S L R)) (hq4 : ∀ j c, x = nI j → j < 4 → c ≤ 20 → S (63 + 3 * j) 0 = nI c → ((0 ≤ y.toInt ∧ y.toInt ≤ 10000) ∧ rng z 0 100000) → fndI (I ((63 + 3 * j) + 1)) y c 0 = c → c = 20 → Q (some (.int (-104))) n (H5 d I J S L R)) (hq5 : ∀ j c, x = nI j → j < 4 → c ≤ 20 → S (63 + 3 * j) 0 = nI c → ((0 ≤ y.toInt ∧ y.toInt ≤ 10000) ∧ rng z 0 100000) → fndI (I ((63 + 3 * j) + 1)) y c 0 = c → c < 20 → Q (some (.int (nI (c + 1)))) n (H5 d (u2 (u2 I ((63 + 3 * j) + 1) c y) ((63 + 3 * j) + 2) c z) J (u2 S (63 + 3 * j) 0 (nI (c + 1))) L R)) : Calls yX6_price cX6_price 4 (some .int) rmX6_price [.ref 0, .int x, .int y, .int z] n (H5 d I J S L R) Q := by
  refine Calls.of (by decide) (Nat.le_of_ble_eq_true rfl) ?_
  intro K hk
  show AW K Q 0 0 0 [some (.ref 0), some (.int x), some (.int y), some (.int z)] [] n (H5 d I J S L R)
  obtain ⟨hw, hg, hw1, hw6, hg1, hg6, hfc, hfc2, hoc, hoc6, huc, huc5, htd, htd4, hR13, hR62⟩ := id hB
  refine aw_iload_n (pc2 := 1) hk dX6_price_0 rfl rfl ?_
  refine aw_cS (rm2 := rmX6_isSoil) (pc2 := 4) hk seX6_isSoil dX6_price_1 rfl ml_X6_73 ⟨(Nat.le_of_ble_eq_true rfl), (Nat.le_of_ble_eq_true rfl)⟩ [_] rfl rfl (Nat.le_of_ble_eq_true rfl) (Nat.le_of_ble_eq_true rfl) (Nat.le_of_ble_eq_true rfl) (t_isSoil ?_)
  refine aw_if_ne (tgt := 10) (pc2 := 7) hk dX6_price_4 (by decide) rfl (fun c4 => ?_) (fun c4 => ?_)
  · refine aw_iload_n (pc2 := 11) hk dX6_price_10 rfl rfl ?_
    refine aw_cS (rm2 := rmX6_isDay) (pc2 := 14) hk seX6_isDay dX6_price_11 rfl ml_X6_107 ⟨(Nat.le_of_ble_eq_true rfl), (Nat.le_of_ble_eq_true rfl)⟩ [_] rfl rfl (Nat.le_of_ble_eq_true rfl) (Nat.le_of_ble_eq_true rfl) (Nat.le_of_ble_eq_true rfl) (t_isDay ?_)
    refine aw_if_eq (tgt := 27) (pc2 := 17) hk dX6_price_14 (by decide) rfl (fun c14 => ?_) (fun c14 => ?_)
    · refine aw_bipush (v := -102) (pc2 := 29) hk dX6_price_27 rfl (by decide) ?_
      refine aw_iret hk dX6_price_29 (Nat.le_of_ble_eq_true rfl) (Nat.le_of_ble_eq_true rfl) (hq2 (bi_ya c4) (fun h9 => by first | exact bi_no c14 h9.1 | (unfold rng at h9; simp only [i_lt, i_le, l0, l100000] at *; omega)))
    · refine aw_iload_n (pc2 := 18) hk dX6_price_17 rfl rfl ?_
      refine aw_if_lt (tgt := 27) (pc2 := 21) hk dX6_price_18 (by decide) rfl (fun c18 => ?_) (fun c18 => ?_)
      · refine aw_bipush (v := -102) (pc2 := 29) hk dX6_price_27 rfl (by decide) ?_
        refine aw_iret hk dX6_price_29 (Nat.le_of_ble_eq_true rfl) (Nat.le_of_ble_eq_true rfl) (hq2 (bi_ya c4) (fun h9 => by first | exact bi_no c14 h9.1 | (unfold rng at h9; simp only [i_lt, i_le, l0, l100000] at *; omega)))
      · refine aw_iload_n (pc2 := 22) hk dX6_price_21 rfl rfl ?_
        refine aw_ldc (pc2 := 24) hk dX6_price_22 rfl ki_X6_110 ?_
        refine aw_icmp_le (tgt := 30) (pc2 := 27) hk dX6_price_24 (by decide) rfl (fun c24 => ?_) (fun c24 => ?_)
        · have hin : (0 ≤ y.toInt ∧ y.toInt ≤ 10000) ∧ rng z 0 100000 := ⟨bi_ya c14, by unfold rng; simp only [i_lt, i_le, l0, l100000] at *; omega⟩
          obtain ⟨j, hj1, hj2⟩ := fok_of (fc := 4) (f := x) (by have := bi_ya c4; unfold fok; omega) (by decide)
          obtain ⟨pc0, hpc20, hpc⟩ := hpc j hj1
          obtain ⟨k1, k2, k3⟩ := kdP d hj1
          refine aw_aload_n (pc2 := 31) hk dX6_price_30 rfl rfl ?_
          refine aw_get (pc2 := 34) hk ckX6 4 dX6_price_31 rfl fl_X6_32 (by decide) (o_X6 rfl) rfl ?_
          refine aw_iload_n (pc2 := 35) hk dX6_price_34 rfl rfl ?_
          refine h_aald (pc2 := 36) hk dX6_price_35 rfl (Or.inr (Or.inl rfl)) rfl hj2 hj1 (by decide) (by rw [hR62 j hj1]) ?_
          refine aw_iload_n (pc2 := 37) hk dX6_price_36 rfl rfl ?_
          refine aw_iload_n (pc2 := 38) hk dX6_price_37 rfl rfl ?_
          refine aw_cV (rm2 := rmX4_put) (pc2 := 41) hk veX4_put dX6_price_38 rfl ml_X6_111 ⟨(Nat.le_of_ble_eq_true rfl), (Nat.le_of_ble_eq_true rfl)⟩ [_, _] rfl rfl (Nat.le_of_ble_eq_true rfl) (Nat.le_of_ble_eq_true rfl) (Nat.le_of_ble_eq_true rfl) (o_X4 k1) (t_put k1 k2 k3 hpc hpc20 (fun h9 => ?_) (fun h9 h8 => ?_) (fun h9 h8 => ?_))
          · exact aw_iret hk dX6_price_41 (Nat.le_of_ble_eq_true rfl) (Nat.le_of_ble_eq_true rfl) (hq3 j pc0 hj2 hj1 hpc20 hpc hin h9)
          · exact aw_iret hk dX6_price_41 (Nat.le_of_ble_eq_true rfl) (Nat.le_of_ble_eq_true rfl) (hq4 j pc0 hj2 hj1 hpc20 hpc hin h9 h8)
          · exact aw_iret hk dX6_price_41 (Nat.le_of_ble_eq_true rfl) (Nat.le_of_ble_eq_true rfl) (hq5 j pc0 hj2 hj1 hpc20 hpc hin h9 h8)
        · refine aw_bipush (v := -102) (pc2 := 29) hk dX6_price_27 rfl (by decide) ?_
          refine aw_iret hk dX6_price_29 (Nat.le_of_ble_eq_true rfl) (Nat.le_of_ble_eq_true rfl) (hq2 (bi_ya c4) (fun h9 => by first | exact bi_no c14 h9.1 | (unfold rng at h9; simp only [i_lt, i_le, l0, l100000] at *; omega)))
  · refine aw_bipush (v := -101) (pc2 := 9) hk dX6_price_7 rfl (by decide) ?_
    refine aw_iret hk dX6_price_9 (Nat.le_of_ble_eq_true rfl) (Nat.le_of_ble_eq_true rfl) (hq1 (bi_no c4))
set_option maxHeartbeats 800000 in
set_option maxRecDepth 100000 in
theorem t_costsB {n : Nat} {d : D2} {I : M2} {J : J2} {S : M2} {L : J2} {R : R2} {Q : QT} {w g fc oc uc td : Nat} (hB : CB S R w g fc oc uc td) {x y : Int32} (hpc : ∀ j, j < 4 → ∃ c, c ≤ 20 ∧ S (63 + 3 * j) 0 = nI c) (hq1 : ¬ (0 ≤ x.toInt ∧ x.toInt ≤ 3) → Q (some (.int (-101))) n (H5 d I J S L R)) (hq2 : (0 ≤ x.toInt ∧ x.toInt ≤ 3) → ¬ (0 ≤ y.toInt ∧ y.toInt ≤ 10000) → Q (some (.int (-102))) n (H5 d I J S L R)) (hq3 : ∀ j c, x = nI j → j < 4 → c ≤ 20 → S (63 + 3 * j) 0 = nI c → (0 ≤ y.toInt ∧ y.toInt ≤ 10000) → Q (some (.int (onS (I ((63 + 3 * j) + 1)) (I ((63 + 3 * j) + 2)) y c).2)) n (H5 d I J S L R)) : Calls yX6_costs cX6_costs 3 (some .int) rmX6_costs [.ref 0, .int x, .int y] n (H5 d I J S L R) Q := by
  refine Calls.of (by decide) (Nat.le_of_ble_eq_true rfl) ?_
  intro K hk
  show AW K Q 0 0 0 [some (.ref 0), some (.int x), some (.int y)] [] n (H5 d I J S L R)
  obtain ⟨hw, hg, hw1, hw6, hg1, hg6, hfc, hfc2, hoc, hoc6, huc, huc5, htd, htd4, hR13, hR62⟩ := id hB
  refine aw_iload_n (pc2 := 1) hk dX6_costs_0 rfl rfl ?_
  refine aw_cS (rm2 := rmX6_isSoil) (pc2 := 4) hk seX6_isSoil dX6_costs_1 rfl ml_X6_73 ⟨(Nat.le_of_ble_eq_true rfl), (Nat.le_of_ble_eq_true rfl)⟩ [_] rfl rfl (Nat.le_of_ble_eq_true rfl) (Nat.le_of_ble_eq_true rfl) (Nat.le_of_ble_eq_true rfl) (t_isSoil ?_)
  refine aw_if_ne (tgt := 10) (pc2 := 7) hk dX6_costs_4 (by decide) rfl (fun c4 => ?_) (fun c4 => ?_)
  · refine aw_iload_n (pc2 := 11) hk dX6_costs_10 rfl rfl ?_
    refine aw_cS (rm2 := rmX6_isDay) (pc2 := 14) hk seX6_isDay dX6_costs_11 rfl ml_X6_107 ⟨(Nat.le_of_ble_eq_true rfl), (Nat.le_of_ble_eq_true rfl)⟩ [_] rfl rfl (Nat.le_of_ble_eq_true rfl) (Nat.le_of_ble_eq_true rfl) (Nat.le_of_ble_eq_true rfl) (t_isDay ?_)
    refine aw_if_ne (tgt := 20) (pc2 := 17) hk dX6_costs_14 (by decide) rfl (fun c14 => ?_) (fun c14 => ?_)
    · obtain ⟨j, hj1, hj2⟩ := fok_of (fc := 4) (f := x) (by have := bi_ya c4; unfold fok; omega) (by decide)
      obtain ⟨pc0, hpc20, hpc⟩ := hpc j hj1
      obtain ⟨k1, k2, k3⟩ := kdP d hj1
      refine aw_aload_n (pc2 := 21) hk dX6_costs_20 rfl rfl ?_
      refine aw_get (pc2 := 24) hk ckX6 4 dX6_costs_21 rfl fl_X6_32 (by decide) (o_X6 rfl) rfl ?_
      refine aw_iload_n (pc2 := 25) hk dX6_costs_24 rfl rfl ?_
      refine h_aald (pc2 := 26) hk dX6_costs_25 rfl (Or.inr (Or.inl rfl)) rfl hj2 hj1 (by decide) (by rw [hR62 j hj1]) ?_
      refine aw_iload_n (pc2 := 27) hk dX6_costs_26 rfl rfl ?_
      refine aw_cV (rm2 := rmX4_on) (pc2 := 30) hk veX4_on dX6_costs_27 rfl ml_X6_114 ⟨(Nat.le_of_ble_eq_true rfl), (Nat.le_of_ble_eq_true rfl)⟩ [_] rfl rfl (Nat.le_of_ble_eq_true rfl) (Nat.le_of_ble_eq_true rfl) (Nat.le_of_ble_eq_true rfl) (o_X4 k1) (t_on k1 k2 k3 hpc hpc20 ?_)
      refine aw_iret hk dX6_costs_30 (Nat.le_of_ble_eq_true rfl) (Nat.le_of_ble_eq_true rfl) (hq3 j pc0 hj2 hj1 hpc20 hpc (bi_ya c14))
    · refine aw_bipush (v := -102) (pc2 := 19) hk dX6_costs_17 rfl (by decide) ?_
      refine aw_iret hk dX6_costs_19 (Nat.le_of_ble_eq_true rfl) (Nat.le_of_ble_eq_true rfl) (hq2 (bi_ya c4) (bi_no c14))
  · refine aw_bipush (v := -101) (pc2 := 9) hk dX6_costs_7 rfl (by decide) ?_
    refine aw_iret hk dX6_costs_9 (Nat.le_of_ble_eq_true rfl) (Nat.le_of_ble_eq_true rfl) (hq1 (bi_no c4))
set_option maxHeartbeats 800000 in
set_option maxRecDepth 100000 in
theorem t_getsB {n : Nat} {d : D2} {I : M2} {J : J2} {S : M2} {L : J2} {R : R2} {Q : QT} {w g fc oc uc td : Nat} (hB : CB S R w g fc oc uc td) {oa nc : Nat → Nat} {ca : Nat → Nat → Nat} (hO : OrdB d S R oc oa nc ca) {x y z : Int32} (hcf : ∀ o k, o < oc → k < nc o → ∃ f, f < fc ∧ S (ca o k) 0 = nI f) (hrc : ∀ j, j < fc → ∃ rc, rc ≤ 4 ∧ S (14 + 4 * j) 1 = nI rc) (hq1 : (∀ o k, x = nI o → y = nI k → ¬ (o < oc ∧ k < nc o)) → Q (some (.long (-101))) n (H5 d I J S L R)) (hq2 : ∀ o k f rc, x = nI o → y = nI k → o < oc → k < nc o → f < fc → rc ≤ 4 → S (ca o k) 0 = nI f → S (14 + 4 * f) 1 = nI rc → (∀ j, z = nI j → ¬ j < rc) → Q (some (.long (-101))) n (H5 d I J S L R)) (hq3 : ∀ o k f rc j, x = nI o → y = nI k → o < oc → k < nc o → f < fc → rc ≤ 4 → S (ca o k) 0 = nI f → S (14 + 4 * f) 1 = nI rc → z = nI j → j < rc → Q (some (.long (J (ca o k + 1) j))) n (H5 d I J S L R)) : Calls yX6_gets cX6_gets 5 (some .long) rmX6_gets [.ref 0, .int x, .int y, .int z] n (H5 d I J S L R) Q := by
  refine Calls.of (by decide) (Nat.le_of_ble_eq_true rfl) ?_
  intro K hk
  show AW K Q 0 0 0 [some (.ref 0), some (.int x), some (.int y), some (.int z), none] [] n (H5 d I J S L R)
  obtain ⟨hw, hg, hw1, hw6, hg1, hg6, hfc, hfc2, hoc, hoc6, huc, huc5, htd, htd4, hR13, hR62⟩ := id hB
  by_cases h1 : ∃ o k, x = nI o ∧ y = nI k ∧ o < oc ∧ k < nc o
  · obtain ⟨o, k, hx, hy, ho, hk1⟩ := h1
    have hc := (hO o ho).2.2.2.2.2 k hk1
    obtain ⟨f, hf2, hf⟩ := hcf o k ho hk1
    obtain ⟨rc, hrc4, hrc⟩ := hrc f hf2
    refine aw_aload_n (pc2 := 1) hk dX6_gets_0 rfl rfl ?_
    refine aw_iload_n (pc2 := 2) hk dX6_gets_1 rfl rfl ?_
    refine aw_iload_n (pc2 := 3) hk dX6_gets_2 rfl rfl ?_
    refine aw_cV (rm2 := rmX6_caseOf) (pc2 := 6) hk veX6_caseOf dX6_gets_3 rfl ml_X6_305 ⟨(Nat.le_of_ble_eq_true rfl), (Nat.le_of_ble_eq_true rfl)⟩ [_, _] rfl rfl (Nat.le_of_ble_eq_true rfl) (Nat.le_of_ble_eq_true rfl) (Nat.le_of_ble_eq_true rfl) (o_X6 rfl) (t_caseOf hB hO hx hy ho hk1 ?_)
    refine aw_astore (pc2 := 8) hk dX6_gets_6 rfl (by decide) ?_
    show AW K Q _ _ 8 [_, _, _, _, _] _ _ _
    refine aw_aload (pc2 := 10) hk dX6_gets_8 rfl rfl ?_
    refine aw_ifnull_r (pc2 := 13) hk dX6_gets_10 rfl ?_
    refine aw_aload_n (pc2 := 14) hk dX6_gets_13 rfl rfl ?_
    refine aw_aload (pc2 := 16) hk dX6_gets_14 rfl rfl ?_
    refine aw_get (pc2 := 19) hk ckX0 0 dX6_gets_16 rfl fl_X6_212 (by decide) (o_X0 hc.2.1) rfl ?_
    refine aw_cV (rm2 := rmX6_isField) (pc2 := 22) hk veX6_isField dX6_gets_19 rfl ml_X6_69 ⟨(Nat.le_of_ble_eq_true rfl), (Nat.le_of_ble_eq_true rfl)⟩ [_] rfl rfl (Nat.le_of_ble_eq_true rfl) (Nat.le_of_ble_eq_true rfl) (Nat.le_of_ble_eq_true rfl) (o_X6 rfl) (t_isField hB ?_)
    refine aw_if_ne (tgt := 29) (pc2 := 25) hk dX6_gets_22 (by decide) rfl (fun c22 => ?_) (fun c22 => absurd c22 (fun e => bi_no e (by rw [hf, nI_toInt (by omega)]; omega)))
    refine aw_iload_n (pc2 := 30) hk dX6_gets_29 rfl rfl ?_
    refine aw_if_lt (tgt := 55) (pc2 := 33) hk dX6_gets_30 (by decide) rfl (fun c30 => ?_) (fun c30 => ?_)
    · refine aw_ldc2 (pc2 := 58) hk dX6_gets_55 rfl kl_X6_309 ?_
      refine aw_lret hk dX6_gets_58 (Nat.le_of_ble_eq_true rfl) (Nat.le_of_ble_eq_true rfl) (hq2 o k f rc hx hy ho hk1 hf2 hrc4 hf hrc (fun j h9 h8 => by subst h9; simp only [i_lt, i_le, l0, l4, hrc, nI_toInt (show j < 2 ^ 31 by omega), nI_toInt (show rc < 2 ^ 31 by omega)] at *; omega))
    · refine aw_iload_n (pc2 := 34) hk dX6_gets_33 rfl rfl ?_
      refine aw_aload_n (pc2 := 35) hk dX6_gets_34 rfl rfl ?_
      refine aw_get (pc2 := 38) hk ckX6 2 dX6_gets_35 rfl fl_X6_25 (by decide) (o_X6 rfl) rfl ?_
      refine aw_aload (pc2 := 40) hk dX6_gets_38 rfl rfl ?_
      refine aw_get (pc2 := 43) hk ckX0 0 dX6_gets_40 rfl fl_X6_212 (by decide) (o_X0 hc.2.1) rfl ?_
      refine h_aald (pc2 := 44) hk dX6_gets_43 rfl (Or.inl rfl) rfl hf (by omega) (by decide) (by rw [hR13 f (by omega)]) ?_
      refine aw_get (pc2 := 47) hk ckX1 1 dX6_gets_44 rfl fl_X6_286 (by decide) (o_X1 (kdF d (by omega)).1) rfl ?_
      refine aw_icmp_ge (tgt := 55) (pc2 := 50) hk dX6_gets_47 (by decide) rfl (fun c47 => ?_) (fun c47 => ?_)
      · refine aw_ldc2 (pc2 := 58) hk dX6_gets_55 rfl kl_X6_309 ?_
        refine aw_lret hk dX6_gets_58 (Nat.le_of_ble_eq_true rfl) (Nat.le_of_ble_eq_true rfl) (hq2 o k f rc hx hy ho hk1 hf2 hrc4 hf hrc (fun j h9 h8 => by subst h9; simp only [i_lt, i_le, l0, l4, hrc, nI_toInt (show j < 2 ^ 31 by omega), nI_toInt (show rc < 2 ^ 31 by omega)] at *; omega))
      · refine aw_iload_n (pc2 := 51) hk dX6_gets_50 rfl rfl ?_
        refine aw_iconst (v := 4) (pc2 := 52) hk dX6_gets_51 rfl (by decide) ?_
        refine aw_icmp_lt (tgt := 59) (pc2 := 55) hk dX6_gets_52 (by decide) rfl (fun c52 => ?_) (fun c52 => ?_)
        · obtain ⟨j, hj1, hj2⟩ : ∃ j, (j < rc ∧ j < 4) ∧ z = nI j := ⟨z.toInt.toNat, by simp only [i_lt, i_le, l0, l4, hrc, nI_toInt (show rc < 2 ^ 31 by omega)] at *; omega, i_eq (by simp only [i_lt, i_le, l0, l4] at *; omega)⟩
          subst hj2
          refine aw_aload (pc2 := 61) hk dX6_gets_59 rfl rfl ?_
          refine aw_get (pc2 := 64) hk ckX0 15 dX6_gets_61 rfl fl_X6_299 (by decide) (o_X0 hc.2.1) rfl ?_
          refine aw_iload_n (pc2 := 65) hk dX6_gets_64 rfl rfl ?_
          refine h_lald (pc2 := 66) hk dX6_gets_65 rfl hc.2.2 rfl hj1.2 (by decide) ?_
          refine aw_lret hk dX6_gets_66 (Nat.le_of_ble_eq_true rfl) (Nat.le_of_ble_eq_true rfl) (hq3 o k f rc j hx hy ho hk1 hf2 hrc4 hf hrc rfl hj1.1)
        · refine aw_ldc2 (pc2 := 58) hk dX6_gets_55 rfl kl_X6_309 ?_
          refine aw_lret hk dX6_gets_58 (Nat.le_of_ble_eq_true rfl) (Nat.le_of_ble_eq_true rfl) (hq2 o k f rc hx hy ho hk1 hf2 hrc4 hf hrc (fun j h9 h8 => by subst h9; simp only [i_lt, i_le, l0, l4, hrc, nI_toInt (show j < 2 ^ 31 by omega), nI_toInt (show rc < 2 ^ 31 by omega)] at *; omega))
  · refine aw_aload_n (pc2 := 1) hk dX6_gets_0 rfl rfl ?_
    refine aw_iload_n (pc2 := 2) hk dX6_gets_1 rfl rfl ?_
    refine aw_iload_n (pc2 := 3) hk dX6_gets_2 rfl rfl ?_
    refine aw_cV (rm2 := rmX6_caseOf) (pc2 := 6) hk veX6_caseOf dX6_gets_3 rfl ml_X6_305 ⟨(Nat.le_of_ble_eq_true rfl), (Nat.le_of_ble_eq_true rfl)⟩ [_, _] rfl rfl (Nat.le_of_ble_eq_true rfl) (Nat.le_of_ble_eq_true rfl) (Nat.le_of_ble_eq_true rfl) (o_X6 rfl) (t_caseOfN hB hO (fun o k a b c => h1 ⟨o, k, a, b, c⟩) ?_)
    refine aw_astoreN (pc2 := 8) hk dX6_gets_6 rfl (by decide) ?_
    show AW K Q _ _ 8 [_, _, _, _, _] _ _ _
    refine aw_aloadN (pc2 := 10) hk dX6_gets_8 rfl rfl ?_
    refine aw_ifnull_n (tgt := 25) hk dX6_gets_10 (by decide) ?_
    refine aw_ldc2 (pc2 := 28) hk dX6_gets_25 rfl kl_X6_309 ?_
    refine aw_lret hk dX6_gets_28 (Nat.le_of_ble_eq_true rfl) (Nat.le_of_ble_eq_true rfl) (hq1 (fun o k a b c => h1 ⟨o, k, a, b, c⟩))
set_option maxHeartbeats 800000 in
set_option maxRecDepth 100000 in
theorem m_costsB {n : Nat} {d : D2} {I : M2} {J : J2} {S : M2} {L : J2} {R : R2} {Q : QT} {x y : Int32} (hpc : ∀ j, j < 4 → ∃ c, c ≤ 20 ∧ I 88 j = nI c ∧ ∀ i, i < c → 0 ≤ (I 89 (20 * j + i)).toInt) (hq1 : ¬ (0 ≤ x.toInt ∧ x.toInt ≤ 3) → Q (some (.int (-101))) n (H5 d I J S L R)) (hq2 : (0 ≤ x.toInt ∧ x.toInt ≤ 3) → ¬ (0 ≤ y.toInt ∧ y.toInt ≤ 10000) → Q (some (.int (-102))) n (H5 d I J S L R)) (hq3 : ∀ j c, x = nI j → j < 4 → c ≤ 20 → I 88 j = nI c → (0 ≤ y.toInt ∧ y.toInt ≤ 10000) → Q (some (.int (onS (fun i => I 89 (20 * j + i)) (fun i => I 90 (20 * j + i)) y c).2)) n (H5 d I J S L R)) : Calls yX7_costs cX7_costs 3 (some .int) rmX7_costs [.ref 78, .int x, .int y] n (H5 d I J S L R) Q := by
  refine Calls.of (by decide) (Nat.le_of_ble_eq_true rfl) ?_
  intro K hk
  show AW K Q 0 0 0 [some (.ref 78), some (.int x), some (.int y)] [] n (H5 d I J S L R)
  refine aw_iload_n (pc2 := 1) hk dX7_costs_0 rfl rfl ?_
  refine aw_i2l (pc2 := 2) hk dX7_costs_1 rfl ?_
  refine aw_lconst (v := 0) (pc2 := 3) hk dX7_costs_2 rfl (by decide) ?_
  refine aw_ldc2 (pc2 := 6) hk dX7_costs_3 rfl kl_X7_151 ?_
  refine aw_cS (rm2 := rmX7_in) (pc2 := 9) hk seX7_in dX7_costs_6 rfl ml_X7_133 ⟨(Nat.le_of_ble_eq_true rfl), (Nat.le_of_ble_eq_true rfl)⟩ [_, _, _] rfl rfl (Nat.le_of_ble_eq_true rfl) (Nat.le_of_ble_eq_true rfl) (Nat.le_of_ble_eq_true rfl) (m_in ?_)
  refine aw_if_ne (tgt := 15) (pc2 := 12) hk dX7_costs_9 (by decide) rfl (fun c9 => ?_) (fun c9 => ?_)
  · have h1 := bi_ya c9
    obtain ⟨j, hj1, hj2⟩ := fok_of (fc := 4) (f := x) (by unfold fok; simp only [j_le, i64, k0, k3, k10000, k100000] at *; omega) (by decide)
    subst hj2
    obtain ⟨c, hc20, hc, hpos⟩ := hpc j hj1
    have hps : 0 ≤ (nI j).toInt ∧ (nI j).toInt ≤ 3 := by simp only [j_le, i64, k0, k3, k10000, k100000] at *; omega
    refine aw_iload_n (pc2 := 16) hk dX7_costs_15 rfl rfl ?_
    refine aw_i2l (pc2 := 17) hk dX7_costs_16 rfl ?_
    refine aw_lconst (v := 0) (pc2 := 18) hk dX7_costs_17 rfl (by decide) ?_
    refine aw_ldc2 (pc2 := 21) hk dX7_costs_18 rfl kl_X7_163 ?_
    refine aw_cS (rm2 := rmX7_in) (pc2 := 24) hk seX7_in dX7_costs_21 rfl ml_X7_133 ⟨(Nat.le_of_ble_eq_true rfl), (Nat.le_of_ble_eq_true rfl)⟩ [_, _, _] rfl rfl (Nat.le_of_ble_eq_true rfl) (Nat.le_of_ble_eq_true rfl) (Nat.le_of_ble_eq_true rfl) (m_in ?_)
    refine aw_if_eq (tgt := 36) (pc2 := 27) hk dX7_costs_24 (by decide) rfl (fun c24 => ?_) (fun c24 => ?_)
    · have hnd : ¬ (0 ≤ y.toInt ∧ y.toInt ≤ 10000) := fun h9 => bi_no c24 (by simp only [j_le, i64, k0, k3, k10000, k100000] at *; omega)
      refine aw_bipush (v := -102) (pc2 := 38) hk dX7_costs_36 rfl (by decide) ?_
      refine aw_iret hk dX7_costs_38 (Nat.le_of_ble_eq_true rfl) (Nat.le_of_ble_eq_true rfl) (by first | exact hq3 j c rfl hj1 hc20 hc hd | exact hq2 hps hnd)
    · have h2 := bi_ya c24
      have hd : (0 ≤ y.toInt ∧ y.toInt ≤ 10000) := by simp only [j_le, i64, k0, k3, k10000, k100000] at *; omega
      refine aw_aload_n (pc2 := 28) hk dX7_costs_27 rfl rfl ?_
      refine aw_iload_n (pc2 := 29) hk dX7_costs_28 rfl rfl ?_
      refine aw_iload_n (pc2 := 30) hk dX7_costs_29 rfl rfl ?_
      refine aw_cV (rm2 := rmX7_costOf) (pc2 := 33) hk veX7_costOf dX7_costs_30 rfl ml_X7_167 ⟨(Nat.le_of_ble_eq_true rfl), (Nat.le_of_ble_eq_true rfl)⟩ [_, _] rfl rfl (Nat.le_of_ble_eq_true rfl) (Nat.le_of_ble_eq_true rfl) (Nat.le_of_ble_eq_true rfl) (o_X7 rfl) (m_costOf hj1 hc hc20 hpos ?_)
      refine aw_goto (tgt := 38) hk dX7_costs_33 (by decide) ?_
      refine aw_iret hk dX7_costs_38 (Nat.le_of_ble_eq_true rfl) (Nat.le_of_ble_eq_true rfl) (by first | exact hq3 j c rfl hj1 hc20 hc hd | exact hq2 hps hnd)
  · refine aw_bipush (v := -101) (pc2 := 14) hk dX7_costs_12 rfl (by decide) ?_
    refine aw_iret hk dX7_costs_14 (Nat.le_of_ble_eq_true rfl) (Nat.le_of_ble_eq_true rfl) (hq1 (fun h9 => bi_no c9 (by simp only [j_le, i64, k0, k3, k10000, k100000] at *; omega)))
set_option maxHeartbeats 800000 in
set_option maxRecDepth 100000 in
theorem m_priceB {n : Nat} {d : D2} {I : M2} {J : J2} {S : M2} {L : J2} {R : R2} {Q : QT} {x y z : Int32} (hpc : ∀ j, j < 4 → ∃ c, c ≤ 20 ∧ I 88 j = nI c ∧ ∀ i, i < c → 0 ≤ (I 89 (20 * j + i)).toInt) (hq1 : ¬ (0 ≤ x.toInt ∧ x.toInt ≤ 3) → Q (some (.int (-101))) n (H5 d I J S L R)) (hq2 : (0 ≤ x.toInt ∧ x.toInt ≤ 3) → ¬ ((0 ≤ y.toInt ∧ y.toInt ≤ 10000) ∧ rng z 0 100000) → Q (some (.int (-102))) n (H5 d I J S L R)) (hq3 : ∀ j c, x = nI j → j < 4 → c ≤ 20 → I 88 j = nI c → ((0 ≤ y.toInt ∧ y.toInt ≤ 10000) ∧ rng z 0 100000) → fndI (fun i => I 89 (20 * j + i)) y c 0 < c → Q (some (.int (nI c))) n (H5 d (u2 (u2 I 89 (20 * j + fndI (fun i => I 89 (20 * j + i)) y c 0) y) 90 (20 * j + fndI (fun i => I 89 (20 * j + i)) y c 0) z) J S L R)) (hq4 : ∀ j c, x = nI j → j < 4 → c ≤ 20 → I 88 j = nI c → ((0 ≤ y.toInt ∧ y.toInt ≤ 10000) ∧ rng z 0 100000) → fndI (fun i => I 89 (20 * j + i)) y c 0 = c → c = 20 → Q (some (.int (-104))) n (H5 d I J S L R)) (hq5 : ∀ j c, x = nI j → j < 4 → c ≤ 20 → I 88 j = nI c → ((0 ≤ y.toInt ∧ y.toInt ≤ 10000) ∧ rng z 0 100000) → fndI (fun i => I 89 (20 * j + i)) y c 0 = c → c < 20 → Q (some (.int (nI (c + 1)))) n (H5 d (u2 (u2 (u2 I 88 j (nI (c + 1))) 89 (20 * j + c) y) 90 (20 * j + c) z) J S L R)) : Calls yX7_price cX7_price 5 (some .int) rmX7_price [.ref 78, .int x, .int y, .int z] n (H5 d I J S L R) Q := by
  refine Calls.of (by decide) (Nat.le_of_ble_eq_true rfl) ?_
  intro K hk
  show AW K Q 0 0 0 [some (.ref 78), some (.int x), some (.int y), some (.int z), none] [] n (H5 d I J S L R)
  refine aw_iload_n (pc2 := 1) hk dX7_price_0 rfl rfl ?_
  refine aw_i2l (pc2 := 2) hk dX7_price_1 rfl ?_
  refine aw_lconst (v := 0) (pc2 := 3) hk dX7_price_2 rfl (by decide) ?_
  refine aw_ldc2 (pc2 := 6) hk dX7_price_3 rfl kl_X7_151 ?_
  refine aw_cS (rm2 := rmX7_in) (pc2 := 9) hk seX7_in dX7_price_6 rfl ml_X7_133 ⟨(Nat.le_of_ble_eq_true rfl), (Nat.le_of_ble_eq_true rfl)⟩ [_, _, _] rfl rfl (Nat.le_of_ble_eq_true rfl) (Nat.le_of_ble_eq_true rfl) (Nat.le_of_ble_eq_true rfl) (m_in ?_)
  refine aw_if_ne (tgt := 15) (pc2 := 12) hk dX7_price_9 (by decide) rfl (fun c9 => ?_) (fun c9 => ?_)
  · have h1 := bi_ya c9
    obtain ⟨j, hj1, hj2⟩ := fok_of (fc := 4) (f := x) (by unfold fok; simp only [j_le, i64, k0, k3, k10000, k100000] at *; omega) (by decide)
    subst hj2
    obtain ⟨c, hc20, hc, hpos⟩ := hpc j hj1
    have hps : 0 ≤ (nI j).toInt ∧ (nI j).toInt ≤ 3 := by simp only [j_le, i64, k0, k3, k10000, k100000] at *; omega
    refine aw_iload_n (pc2 := 16) hk dX7_price_15 rfl rfl ?_
    refine aw_i2l (pc2 := 17) hk dX7_price_16 rfl ?_
    refine aw_lconst (v := 0) (pc2 := 18) hk dX7_price_17 rfl (by decide) ?_
    refine aw_ldc2 (pc2 := 21) hk dX7_price_18 rfl kl_X7_163 ?_
    refine aw_cS (rm2 := rmX7_in) (pc2 := 24) hk seX7_in dX7_price_21 rfl ml_X7_133 ⟨(Nat.le_of_ble_eq_true rfl), (Nat.le_of_ble_eq_true rfl)⟩ [_, _, _] rfl rfl (Nat.le_of_ble_eq_true rfl) (Nat.le_of_ble_eq_true rfl) (Nat.le_of_ble_eq_true rfl) (m_in ?_)
    refine aw_if_eq (tgt := 39) (pc2 := 27) hk dX7_price_24 (by decide) rfl (fun c24 => ?_) (fun c24 => ?_)
    · refine aw_bipush (v := -102) (pc2 := 41) hk dX7_price_39 rfl (by decide) ?_
      refine aw_iret hk dX7_price_41 (Nat.le_of_ble_eq_true rfl) (Nat.le_of_ble_eq_true rfl) (hq2 hps (fun h9 => by unfold rng at h9; first | exact bi_no c36 (by simp only [j_le, i64, k0, k3, k10000, k100000] at *; omega) | exact bi_no c24 (by simp only [j_le, i64, k0, k3, k10000, k100000] at *; omega)))
    · refine aw_iload_n (pc2 := 28) hk dX7_price_27 rfl rfl ?_
      refine aw_i2l (pc2 := 29) hk dX7_price_28 rfl ?_
      refine aw_lconst (v := 0) (pc2 := 30) hk dX7_price_29 rfl (by decide) ?_
      refine aw_ldc2 (pc2 := 33) hk dX7_price_30 rfl kl_X7_165 ?_
      refine aw_cS (rm2 := rmX7_in) (pc2 := 36) hk seX7_in dX7_price_33 rfl ml_X7_133 ⟨(Nat.le_of_ble_eq_true rfl), (Nat.le_of_ble_eq_true rfl)⟩ [_, _, _] rfl rfl (Nat.le_of_ble_eq_true rfl) (Nat.le_of_ble_eq_true rfl) (Nat.le_of_ble_eq_true rfl) (m_in ?_)
      refine aw_if_ne (tgt := 42) (pc2 := 39) hk dX7_price_36 (by decide) rfl (fun c36 => ?_) (fun c36 => ?_)
      · have h2 := bi_ya c24
        have h3 := bi_ya c36
        have hin : (0 ≤ y.toInt ∧ y.toInt ≤ 10000) ∧ rng z 0 100000 := by unfold rng; simp only [j_le, i64, k0, k3, k10000, k100000] at *; omega
        have loop : ∀ (k i : Nat), i ≤ c → c + 1 ≤ i + k → fndI (fun i => I 89 (20 * j + i)) y (c - i) i = fndI (fun i => I 89 (20 * j + i)) y c 0 → AW K Q 0 0 45 [some (.ref 78), some (.int (nI j)), some (.int y), some (.int z), some (.int (nI i))] [] n (H5 d I J S L R) := by
          intro k
          induction k with
          | zero => intro i h1 h2; omega
          | succ k ih =>
            intro i hi hn hinv
            refine aw_iload (pc2 := 47) hk dX7_price_45 rfl rfl ?_
            refine aw_aload_n (pc2 := 48) hk dX7_price_47 rfl rfl ?_
            refine aw_get (pc2 := 51) hk ckX7 12 dX7_price_48 rfl fl_X7_45 (by decide) (o_X7 rfl) rfl ?_
            refine aw_iload_n (pc2 := 52) hk dX7_price_51 rfl rfl ?_
            refine h_iald (pc2 := 53) hk dX7_price_52 rfl rfl rfl (by omega) (by decide) ?_
            refine aw_icN_ge (x := i) (y := c) (tgt := 78) (pc2 := 56) hk dX7_price_53 (by decide) rfl rfl hc (by omega) (by omega) (fun c53 => ?_) (fun c53 => ?_)
            · obtain rfl : i = c := by omega
              have hr : fndI (fun i => I 89 (20 * j + i)) y i 0 = i := by rw [← hinv, Nat.sub_self]; rfl
              refine aw_iload (pc2 := 80) hk dX7_price_78 rfl rfl ?_
              refine aw_bipush (v := 20) (pc2 := 82) hk dX7_price_80 rfl (by decide) ?_
              refine aw_icN_ne (x := i) (y := 20) (tgt := 88) (pc2 := 85) hk dX7_price_82 (by decide) rfl rfl rfl (by omega) (by omega) (fun c82 => ?_) (fun c82 => ?_)
              · refine aw_iload (pc2 := 90) hk dX7_price_88 rfl rfl ?_
                refine aw_aload_n (pc2 := 91) hk dX7_price_90 rfl rfl ?_
                refine aw_get (pc2 := 94) hk ckX7 12 dX7_price_91 rfl fl_X7_45 (by decide) (o_X7 rfl) rfl ?_
                refine aw_iload_n (pc2 := 95) hk dX7_price_94 rfl rfl ?_
                refine h_iald (pc2 := 96) hk dX7_price_95 rfl rfl rfl (by omega) (by decide) ?_
                refine aw_icN_ne (x := i) (y := i) (tgt := 109) (pc2 := 99) hk dX7_price_96 (by decide) rfl rfl hc (by omega) (by omega) (fun c96 => absurd c96 (by omega)) (fun c96 => ?_)
                refine aw_aload_n (pc2 := 100) hk dX7_price_99 rfl rfl ?_
                refine aw_get (pc2 := 103) hk ckX7 12 dX7_price_100 rfl fl_X7_45 (by decide) (o_X7 rfl) rfl ?_
                refine aw_iload_n (pc2 := 104) hk dX7_price_103 rfl rfl ?_
                refine aw_dup2_ir (pc2 := 105) hk dX7_price_104 rfl ?_
                refine h_iald (pc2 := 106) hk dX7_price_105 rfl rfl rfl (by omega) (by decide) ?_
                refine aw_iconst (v := 1) (pc2 := 107) hk dX7_price_106 rfl (by decide) ?_
                refine aw_iadd (pc2 := 108) hk dX7_price_107 rfl ?_
                refine aw_top (nI (i + 1)) (by rw [hc]; exact nI_1 i) ?_
                refine h_iast (pc2 := 109) hk dX7_price_108 rfl rfl rfl (by omega) (by decide) ?_
                refine aw_aload_n (pc2 := 110) hk dX7_price_109 rfl rfl ?_
                refine aw_get (pc2 := 113) hk ckX7 13 dX7_price_110 rfl fl_X7_48 (by decide) (o_X7 rfl) rfl ?_
                refine aw_bipush (v := nI 20) (pc2 := 115) hk dX7_price_113 rfl (by decide) ?_
                refine aw_iload_n (pc2 := 116) hk dX7_price_115 rfl rfl ?_
                refine aw_imul (pc2 := 117) hk dX7_price_116 rfl ?_
                refine aw_iload (pc2 := 119) hk dX7_price_117 rfl rfl ?_
                refine aw_iadd (pc2 := 120) hk dX7_price_119 rfl ?_
                refine aw_iload_n (pc2 := 121) hk dX7_price_120 rfl rfl ?_
                rw [mulN]
                refine h_iast (pc2 := 122) hk dX7_price_121 rfl rfl rfl (by omega) (by decide) ?_
                refine aw_aload_n (pc2 := 123) hk dX7_price_122 rfl rfl ?_
                refine aw_get (pc2 := 126) hk ckX7 14 dX7_price_123 rfl fl_X7_51 (by decide) (o_X7 rfl) rfl ?_
                refine aw_bipush (v := nI 20) (pc2 := 128) hk dX7_price_126 rfl (by decide) ?_
                refine aw_iload_n (pc2 := 129) hk dX7_price_128 rfl rfl ?_
                refine aw_imul (pc2 := 130) hk dX7_price_129 rfl ?_
                refine aw_iload (pc2 := 132) hk dX7_price_130 rfl rfl ?_
                refine aw_iadd (pc2 := 133) hk dX7_price_132 rfl ?_
                refine aw_iload_n (pc2 := 134) hk dX7_price_133 rfl rfl ?_
                rw [mulN]
                refine h_iast (pc2 := 135) hk dX7_price_134 rfl rfl rfl (by omega) (by decide) ?_
                refine aw_aload_n (pc2 := 136) hk dX7_price_135 rfl rfl ?_
                refine aw_get (pc2 := 139) hk ckX7 12 dX7_price_136 rfl fl_X7_45 (by decide) (o_X7 rfl) rfl ?_
                refine aw_iload_n (pc2 := 140) hk dX7_price_139 rfl rfl ?_
                refine h_iald (pc2 := 141) hk dX7_price_140 rfl rfl rfl (by omega) (by decide) ?_
                refine aw_top (nI (i + 1)) (by rw [u2_a _ _ _ _ (by decide), u2_a _ _ _ _ (by decide), u2_s]) ?_
                refine aw_iret hk dX7_price_141 (Nat.le_of_ble_eq_true rfl) (Nat.le_of_ble_eq_true rfl) (hq5 j i rfl hj1 hc20 hc hin hr (by omega))
              · refine aw_bipush (v := -104) (pc2 := 87) hk dX7_price_85 rfl (by decide) ?_
                refine aw_iret hk dX7_price_87 (Nat.le_of_ble_eq_true rfl) (Nat.le_of_ble_eq_true rfl) (hq4 j i rfl hj1 hc20 hc hin hr c82)
            · refine aw_aload_n (pc2 := 57) hk dX7_price_56 rfl rfl ?_
              refine aw_get (pc2 := 60) hk ckX7 13 dX7_price_57 rfl fl_X7_48 (by decide) (o_X7 rfl) rfl ?_
              refine aw_bipush (v := nI 20) (pc2 := 62) hk dX7_price_60 rfl (by decide) ?_
              refine aw_iload_n (pc2 := 63) hk dX7_price_62 rfl rfl ?_
              refine aw_imul (pc2 := 64) hk dX7_price_63 rfl ?_
              refine aw_iload (pc2 := 66) hk dX7_price_64 rfl rfl ?_
              refine aw_iadd (pc2 := 67) hk dX7_price_66 rfl ?_
              rw [mulN]
              refine h_iald (pc2 := 68) hk dX7_price_67 rfl rfl rfl (by omega) (by decide) ?_
              refine aw_iload_n (pc2 := 69) hk dX7_price_68 rfl rfl ?_
              refine aw_icmp_eq (tgt := 78) (pc2 := 72) hk dX7_price_69 (by decide) rfl (fun c69 => ?_) (fun c69 => ?_)
              · have hr : fndI (fun i => I 89 (20 * j + i)) y c 0 = i := by rw [← hinv, show c - i = c - i - 1 + 1 by omega]; unfold fndI; rw [if_pos c69]
                refine aw_iload (pc2 := 80) hk dX7_price_78 rfl rfl ?_
                refine aw_bipush (v := 20) (pc2 := 82) hk dX7_price_80 rfl (by decide) ?_
                refine aw_icN_ne (x := i) (y := 20) (tgt := 88) (pc2 := 85) hk dX7_price_82 (by decide) rfl rfl rfl (by omega) (by omega) (fun c82 => ?_) (fun c82 => absurd c82 (by omega))
                refine aw_iload (pc2 := 90) hk dX7_price_88 rfl rfl ?_
                refine aw_aload_n (pc2 := 91) hk dX7_price_90 rfl rfl ?_
                refine aw_get (pc2 := 94) hk ckX7 12 dX7_price_91 rfl fl_X7_45 (by decide) (o_X7 rfl) rfl ?_
                refine aw_iload_n (pc2 := 95) hk dX7_price_94 rfl rfl ?_
                refine h_iald (pc2 := 96) hk dX7_price_95 rfl rfl rfl (by omega) (by decide) ?_
                refine aw_icN_ne (x := i) (y := c) (tgt := 109) (pc2 := 99) hk dX7_price_96 (by decide) rfl rfl hc (by omega) (by omega) (fun c96 => ?_) (fun c96 => absurd c96 (by omega))
                refine aw_aload_n (pc2 := 110) hk dX7_price_109 rfl rfl ?_
                refine aw_get (pc2 := 113) hk ckX7 13 dX7_price_110 rfl fl_X7_48 (by decide) (o_X7 rfl) rfl ?_
                refine aw_bipush (v := nI 20) (pc2 := 115) hk dX7_price_113 rfl (by decide) ?_
                refine aw_iload_n (pc2 := 116) hk dX7_price_115 rfl rfl ?_
                refine aw_imul (pc2 := 117) hk dX7_price_116 rfl ?_
                refine aw_iload (pc2 := 119) hk dX7_price_117 rfl rfl ?_
                refine aw_iadd (pc2 := 120) hk dX7_price_119 rfl ?_
                refine aw_iload_n (pc2 := 121) hk dX7_price_120 rfl rfl ?_
                rw [mulN]
                refine h_iast (pc2 := 122) hk dX7_price_121 rfl rfl rfl (by omega) (by decide) ?_
                refine aw_aload_n (pc2 := 123) hk dX7_price_122 rfl rfl ?_
                refine aw_get (pc2 := 126) hk ckX7 14 dX7_price_123 rfl fl_X7_51 (by decide) (o_X7 rfl) rfl ?_
                refine aw_bipush (v := nI 20) (pc2 := 128) hk dX7_price_126 rfl (by decide) ?_
                refine aw_iload_n (pc2 := 129) hk dX7_price_128 rfl rfl ?_
                refine aw_imul (pc2 := 130) hk dX7_price_129 rfl ?_
                refine aw_iload (pc2 := 132) hk dX7_price_130 rfl rfl ?_
                refine aw_iadd (pc2 := 133) hk dX7_price_132 rfl ?_
                refine aw_iload_n (pc2 := 134) hk dX7_price_133 rfl rfl ?_
                rw [mulN]
                refine h_iast (pc2 := 135) hk dX7_price_134 rfl rfl rfl (by omega) (by decide) ?_
                refine aw_aload_n (pc2 := 136) hk dX7_price_135 rfl rfl ?_
                refine aw_get (pc2 := 139) hk ckX7 12 dX7_price_136 rfl fl_X7_45 (by decide) (o_X7 rfl) rfl ?_
                refine aw_iload_n (pc2 := 140) hk dX7_price_139 rfl rfl ?_
                refine h_iald (pc2 := 141) hk dX7_price_140 rfl rfl rfl (by omega) (by decide) ?_
                refine aw_top (nI c) (by rw [u2_a _ _ _ _ (by decide), u2_a _ _ _ _ (by decide)]; exact hc) ?_
                refine aw_iret hk dX7_price_141 (Nat.le_of_ble_eq_true rfl) (Nat.le_of_ble_eq_true rfl) (by have h9 := hq3 j c rfl hj1 hc20 hc hin (by rw [hr]; exact c53); rw [hr] at h9; exact h9)
              · refine aw_iinc1 (pc2 := 75) hk dX7_price_72 rfl rfl (by decide) ?_
                show AW K Q _ _ 75 [_, _, _, _, _] _ _ _
                refine aw_goto (tgt := 45) hk dX7_price_75 (by decide) ?_
                exact ih (i + 1) (by omega) (by omega) (by rw [← hinv, show c - i = c - (i + 1) + 1 by omega]; exact (if_neg c69).symm)
        refine aw_iconst (v := 0) (pc2 := 43) hk dX7_price_42 rfl (by decide) ?_
        refine aw_istore (pc2 := 45) hk dX7_price_43 rfl (by decide) ?_
        show AW K Q _ _ 45 [_, _, _, _, _] _ _ _
        exact loop (c + 1) 0 (by omega) (by omega) rfl
      · refine aw_bipush (v := -102) (pc2 := 41) hk dX7_price_39 rfl (by decide) ?_
        refine aw_iret hk dX7_price_41 (Nat.le_of_ble_eq_true rfl) (Nat.le_of_ble_eq_true rfl) (hq2 hps (fun h9 => by unfold rng at h9; first | exact bi_no c36 (by simp only [j_le, i64, k0, k3, k10000, k100000] at *; omega) | exact bi_no c24 (by simp only [j_le, i64, k0, k3, k10000, k100000] at *; omega)))
  · refine aw_bipush (v := -101) (pc2 := 14) hk dX7_price_12 rfl (by decide) ?_
    refine aw_iret hk dX7_price_14 (Nat.le_of_ble_eq_true rfl) (Nat.le_of_ble_eq_true rfl) (hq1 (fun h9 => bi_no c9 (by simp only [j_le, i64, k0, k3, k10000, k100000] at *; omega)))
set_option maxHeartbeats 800000 in
set_option maxRecDepth 100000 in
theorem m_getsB {n : Nat} {d : D2} {I : M2} {J : J2} {S : M2} {L : J2} {R : R2} {Q : QT} {w g fc oc uc td : Nat} {md op : Bool} (hB : MB S w g fc oc uc td md op) {nc : Nat → Nat} (hN : OM I oc nc) {x y z : Int32} (hcf : ∀ o k, o < oc → k < nc o → ∃ f, f < fc ∧ I 96 (12 * o + k) = nI f) (hrc : ∀ j, j < fc → ∃ rc, rc ≤ 4 ∧ I 85 j = nI rc) (hq1 : (∀ o k, x = nI o → y = nI k → ¬ (o < oc ∧ k < nc o)) → Q (some (.long (-101))) n (H5 d I J S L R)) (hq2 : ∀ o k f rc, x = nI o → y = nI k → o < oc → k < nc o → f < fc → rc ≤ 4 → I 96 (12 * o + k) = nI f → I 85 f = nI rc → (∀ j, z = nI j → ¬ j < rc) → Q (some (.long (-101))) n (H5 d I J S L R)) (hq3 : ∀ o k f rc j, x = nI o → y = nI k → o < oc → k < nc o → f < fc → rc ≤ 4 → I 96 (12 * o + k) = nI f → I 85 f = nI rc → z = nI j → j < rc → Q (some (.long (J 109 (4 * (12 * o + k) + j)))) n (H5 d I J S L R)) : Calls yX7_gets cX7_gets 4 (some .long) rmX7_gets [.ref 78, .int x, .int y, .int z] n (H5 d I J S L R) Q := by
  refine Calls.of (by decide) (Nat.le_of_ble_eq_true rfl) ?_
  intro K hk
  show AW K Q 0 0 0 [some (.ref 78), some (.int x), some (.int y), some (.int z)] [] n (H5 d I J S L R)
  obtain ⟨hw, hg, hw1, hw6, hg1, hg6, hfc, hfc2, hoc, hoc6, huc, huc5, htd, htd4, hmd, hop⟩ := id hB
  refine aw_aload_n (pc2 := 1) hk dX7_gets_0 rfl rfl ?_
  refine aw_iload_n (pc2 := 2) hk dX7_gets_1 rfl rfl ?_
  refine aw_iload_n (pc2 := 3) hk dX7_gets_2 rfl rfl ?_
  refine aw_cV (rm2 := rmX7_isCase) (pc2 := 6) hk veX7_isCase dX7_gets_3 rfl ml_X7_249 ⟨(Nat.le_of_ble_eq_true rfl), (Nat.le_of_ble_eq_true rfl)⟩ [_, _] rfl rfl (Nat.le_of_ble_eq_true rfl) (Nat.le_of_ble_eq_true rfl) (Nat.le_of_ble_eq_true rfl) (o_X7 rfl) (m_isCase hB hN (fun o k hx hy ho hk1 => ?_) (fun hno => ?_))
  · refine aw_if_eq (tgt := 37) (pc2 := 9) hk dX7_gets_6 (by decide) rfl (fun c6 => absurd c6 (by decide)) (fun c6 => ?_)
    subst hx
    subst hy
    obtain ⟨hn1, hn2⟩ := hN o ho
    obtain ⟨f, hf2, hf⟩ := hcf o k ho hk1
    obtain ⟨rc, hrc4, hrc⟩ := hrc f hf2
    refine aw_iload_n (pc2 := 10) hk dX7_gets_9 rfl rfl ?_
    refine aw_i2l (pc2 := 11) hk dX7_gets_10 rfl ?_
    refine aw_lconst (v := 0) (pc2 := 12) hk dX7_gets_11 rfl (by decide) ?_
    refine aw_aload_n (pc2 := 13) hk dX7_gets_12 rfl rfl ?_
    refine aw_get (pc2 := 16) hk ckX7 9 dX7_gets_13 rfl fl_X7_36 (by decide) (o_X7 rfl) rfl ?_
    refine aw_aload_n (pc2 := 17) hk dX7_gets_16 rfl rfl ?_
    refine aw_get (pc2 := 20) hk ckX7 25 dX7_gets_17 rfl fl_X7_69 (by decide) (o_X7 rfl) rfl ?_
    refine aw_bipush (v := nI 12) (pc2 := 22) hk dX7_gets_20 rfl (by decide) ?_
    refine aw_iload_n (pc2 := 23) hk dX7_gets_22 rfl rfl ?_
    refine aw_imul (pc2 := 24) hk dX7_gets_23 rfl ?_
    refine aw_iload_n (pc2 := 25) hk dX7_gets_24 rfl rfl ?_
    refine aw_iadd (pc2 := 26) hk dX7_gets_25 rfl ?_
    rw [mulN]
    refine h_iald (pc2 := 27) hk dX7_gets_26 rfl rfl rfl (by omega) (by decide) ?_
    rw [hf]
    refine h_iald (pc2 := 28) hk dX7_gets_27 rfl rfl rfl (by omega) (by decide) ?_
    refine aw_iconst (v := 1) (pc2 := 29) hk dX7_gets_28 rfl (by decide) ?_
    refine aw_isub (pc2 := 30) hk dX7_gets_29 rfl ?_
    refine aw_i2l (pc2 := 31) hk dX7_gets_30 rfl ?_
    rw [hrc]
    refine aw_cS (rm2 := rmX7_in) (pc2 := 34) hk seX7_in dX7_gets_31 rfl ml_X7_133 ⟨(Nat.le_of_ble_eq_true rfl), (Nat.le_of_ble_eq_true rfl)⟩ [_, _, _] rfl rfl (Nat.le_of_ble_eq_true rfl) (Nat.le_of_ble_eq_true rfl) (Nat.le_of_ble_eq_true rfl) (m_in ?_)
    refine aw_if_ne (tgt := 41) (pc2 := 37) hk dX7_gets_34 (by decide) rfl (fun c34 => ?_) (fun c34 => ?_)
    · obtain ⟨j, hj1, hj2⟩ := in_n (by omega) (bi_ya c34)
      subst hj1
      refine aw_aload_n (pc2 := 42) hk dX7_gets_41 rfl rfl ?_
      refine aw_get (pc2 := 45) hk ckX7 38 dX7_gets_42 rfl fl_X7_109 (by decide) (o_X7 rfl) rfl ?_
      refine aw_iconst (v := nI 4) (pc2 := 46) hk dX7_gets_45 rfl (by decide) ?_
      refine aw_bipush (v := nI 12) (pc2 := 48) hk dX7_gets_46 rfl (by decide) ?_
      refine aw_iload_n (pc2 := 49) hk dX7_gets_48 rfl rfl ?_
      refine aw_imul (pc2 := 50) hk dX7_gets_49 rfl ?_
      refine aw_iload_n (pc2 := 51) hk dX7_gets_50 rfl rfl ?_
      refine aw_iadd (pc2 := 52) hk dX7_gets_51 rfl ?_
      refine aw_imul (pc2 := 53) hk dX7_gets_52 rfl ?_
      refine aw_iload_n (pc2 := 54) hk dX7_gets_53 rfl rfl ?_
      refine aw_iadd (pc2 := 55) hk dX7_gets_54 rfl ?_
      rw [mulN, mulN]
      refine h_lald (pc2 := 56) hk dX7_gets_55 rfl rfl rfl (by omega) (by decide) ?_
      refine aw_lret hk dX7_gets_56 (Nat.le_of_ble_eq_true rfl) (Nat.le_of_ble_eq_true rfl) (hq3 o k f rc j rfl rfl ho hk1 hf2 hrc4 hf hrc rfl hj2)
    · refine aw_ldc2 (pc2 := 40) hk dX7_gets_37 rfl kl_X7_252 ?_
      refine aw_lret hk dX7_gets_40 (Nat.le_of_ble_eq_true rfl) (Nat.le_of_ble_eq_true rfl) (hq2 o k f rc rfl rfl ho hk1 hf2 hrc4 hf hrc (fun j h9 h8 => by subst h9; exact bi_no c34 (in_y (by omega) h8)))
  · refine aw_if_eq (tgt := 37) (pc2 := 9) hk dX7_gets_6 (by decide) rfl (fun c6 => ?_) (fun c6 => absurd rfl c6)
    refine aw_ldc2 (pc2 := 40) hk dX7_gets_37 rfl kl_X7_252 ?_
    refine aw_lret hk dX7_gets_40 (Nat.le_of_ble_eq_true rfl) (Nat.le_of_ble_eq_true rfl) (hq1 hno)
