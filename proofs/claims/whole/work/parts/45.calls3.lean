theorem SM.pr {w g fc oc uc td t : Nat} {md op : Bool} {oa nc : Nat → Nat} {ca : Nat → Nat → Nat} {n : Nat} {d : D2} {I : M2} {J : J2} {S : M2} {L : J2} {R : R2} (h : SM w g fc oc uc td t md op oa nc ca n d I J S L R) {I' S' : M2} {j : Nat} (hj : j < 4) (eI : ∀ b, b ≠ 63 + 3 * j + 1 → b ≠ 63 + 3 * j + 2 → ¬ (88 ≤ b ∧ b ≤ 90) → I' b = I b) (eS : ∀ b, b ≠ 63 + 3 * j → S' b = S b) (hP' : SmP I' S') : SM w g fc oc uc td (t + 1) md op oa nc ca n d I' J S' L R := by
  obtain ⟨hB, hM, hO, hN, hX, ⟨hA, hT, hV⟩, hF, hP, hR, hOr, hL⟩ := h
  have eS2 : ∀ b, 115 ≤ b → S' b 2 = S b 2 := fun b hb => by rw [eS b (by omega)]
  exact ⟨hB.eq (eS 0 (by omega)) (eS 1 (by omega)), hM.eq (fun j9 _ => by rw [eS 78 (by omega)]), hO.eq2 eS2, hN.eq (eI 94 (by omega) (by omega) (by omega)), hX.eq hO eS2, ⟨hA.eq (fun b hb => eI b (by omega) (by omega) (by omega)), hT.eq (eI 6 (by omega) (by omega) (by omega)) (eI 83 (by omega) (by omega) (by omega)), hV.eq (eI 2 (by omega) (by omega) (by omega)) (eI 3 (by omega) (by omega) (by omega)) (eI 4 (by omega) (by omega) (by omega))⟩, hF.eq hB.2.2.2.2.2.2.2.1 (fun b hb => eI b (by omega) (by omega) (by omega)) (fun b hb => eS b (by omega)) (fun _ _ => rfl), hP', hR.eq (eI 91 (by omega) (by omega) (by omega)) (eI 76 (by omega) (by omega) (by omega)), hOr.eq hO (fun b hb => eI b (by omega) (by omega) (by omega)) (fun _ _ => rfl) (fun b hb => eS b (by omega)) (fun _ _ => rfl), hL.eq (fun h9 => (hX.2.2.1.mp h9).1) hO (fun b hb => eI b (by omega) (by omega) (by omega)) (fun b hb => eS b (by omega))⟩
set_option maxHeartbeats 1600000 in
theorem s_price {t n : Nat} {d : D2} {I : M2} {J : J2} {S : M2} {L : J2} {R : R2} (h : Sim t n d I J S L R) {x y z : Int32} : Calls yX6_price cX6_price 4 (some .int) rmX6_price [.ref 0, .int x, .int y, .int z] n (H5 d I J S L R) (P2 t (fun n9 h9 Q9 => Calls yX7_price cX7_price 5 (some .int) rmX7_price [.ref 78, .int x, .int y, .int z] n9 h9 Q9)) := by
  obtain ⟨w, g, fc, oc, uc, td, md, op, oa, nc, ca, h⟩ := h
  obtain ⟨hB, hM, hO, hN, hX, ⟨hA, hT, hV⟩, hF, hP, hR, hOr, hL⟩ := id h
  obtain ⟨hw, hg, hw1, hw6, hg1, hg6, hfc, hfc2, hoc, hoc6, huc, huc5, htd, htd4, hR13, hR62⟩ := id hB
  obtain ⟨mw, mg, -, -, -, -, mfc, -, moc, -, muc, -, mtd, -, mmd, mop⟩ := id hM
  obtain ⟨hut, hmd, hop, hdone, hn, hLay⟩ := id hX
  have hpC : ∀ j, j < 4 → ∃ c, c ≤ 20 ∧ S (63 + 3 * j) 0 = nI c := fun j hj => by
    obtain ⟨c, h1, h2, -⟩ := hP j hj
    exact ⟨c, h1, h2⟩
  have hpM : ∀ j, j < 4 → ∃ c, c ≤ 20 ∧ I 88 j = nI c ∧ ∀ i, i < c → 0 ≤ (I 89 (20 * j + i)).toInt := fun j hj => by
    obtain ⟨c, h1, h2, h3, h4⟩ := hP j hj
    exact ⟨c, h1, h3, fun i hi => (h4 i hi).2.2⟩
  have hcc : ∀ j c c2, j < 4 → c ≤ 20 → c2 ≤ 20 → S (63 + 3 * j) 0 = nI c → I 88 j = nI c2 → c2 = c ∧ ∀ i, i < c → I 89 (20 * j + i) = I (63 + 3 * j + 1) i ∧ I 90 (20 * j + i) = I (63 + 3 * j + 2) i ∧ 0 ≤ (I 89 (20 * j + i)).toInt := fun j c c2 hj g1 g2 g3 g4 => by
    obtain ⟨c0, p1, p2, p3, p4⟩ := hP j hj
    obtain rfl : c0 = c := (nI_eq (by omega) (by omega)).mp (p2.symm.trans g3)
    obtain rfl : c0 = c2 := (nI_eq (by omega) (by omega)).mp (p3.symm.trans g4)
    exact ⟨rfl, p4⟩
  have hfn : ∀ j c, j < 4 → (∀ i, i < c → I 89 (20 * j + i) = I (63 + 3 * j + 1) i ∧ I 90 (20 * j + i) = I (63 + 3 * j + 2) i ∧ 0 ≤ (I 89 (20 * j + i)).toInt) → fndI (fun i => I 89 (20 * j + i)) y c 0 = fndI (I (63 + 3 * j + 1)) y c 0 := fun j c hj p4 => fndI_eq c 0 (fun i hi => (p4 i (by omega)).1)
  refine t_priceB hB hpC (fun h1 => ⟨_, rfl, ⟨_, o_X7 rfl⟩, m_priceB hpM (fun _ => ⟨rfl, h.same⟩) (fun h2 => absurd h2 h1) (fun j c h2 h3 => absurd (h2 ▸ so_in h3) h1) (fun j c h2 h3 => absurd (h2 ▸ so_in h3) h1) (fun j c h2 h3 => absurd (h2 ▸ so_in h3) h1)⟩) (fun h1 h2 => ⟨_, rfl, ⟨_, o_X7 rfl⟩, m_priceB hpM (fun h3 => absurd h1 h3) (fun _ _ => ⟨rfl, h.same⟩) (fun _ _ _ _ _ _ h3 => absurd h3 h2) (fun _ _ _ _ _ _ h3 => absurd h3 h2) (fun _ _ _ _ _ _ h3 => absurd h3 h2)⟩) (fun j c h1 h2 h20 h3 h4 h5 => ?_) (fun j c h1 h2 h20 h3 h4 h5 h5b => ?_) (fun j c h1 h2 h20 h3 h4 h5 h5b => ?_)
  · refine ⟨_, rfl, ⟨_, o_X7 rfl⟩, m_priceB (fun q hq => ?_) (fun h6 => absurd (h1 ▸ so_in h2) h6) (fun _ h6 => absurd h4 h6) (fun j2 c2 h6 h7 h720 h8 _ h9 => ?_) (fun j2 c2 h6 h7 h720 h8 _ h9 h10 => ?_) (fun j2 c2 h6 h7 h720 h8 _ h9 h10 => ?_)⟩
    · rw [u2_row _ _ _ (show (88 : Nat) ≠ 63 + 3 * j + 2 by omega), u2_row _ _ _ (show (89 : Nat) ≠ 63 + 3 * j + 2 by omega)]
      exact hpM q hq
    all_goals
      subst h1
      obtain rfl : j = j2 := (nI_eq (by omega) (by omega)).mp h6
      rw [u2_row _ _ _ (show (88 : Nat) ≠ 63 + 3 * j + 2 by omega)] at h8
      obtain ⟨rfl, p4⟩ := hcc j c c2 h2 h20 h720 h3 h8
      rw [u2_row _ _ _ (show (89 : Nat) ≠ 63 + 3 * j + 2 by omega), hfn j c2 h2 p4] at h9
    · rw [u2_row _ _ _ (show (89 : Nat) ≠ 63 + 3 * j + 2 by omega), hfn j c2 h2 p4]
      have hhit := fndI_hit (I (63 + 3 * j + 1)) y c2 0 (by omega)
      generalize fndI (I (63 + 3 * j + 1)) y c2 0 = at0 at h5 h9 hhit
      refine ⟨rfl, SM.sim (h.pr h2 (fun b b1 b2 b3 => by rw [u2_row _ _ _ (by omega), u2_row _ _ _ (by omega), u2_row _ _ _ b2]) (fun _ _ => rfl) (fun s hs => ?_))⟩
      obtain ⟨c, q1, q2, q3, q4⟩ := hP s hs
      refine ⟨c, q1, q2, by rw [u2_row _ _ _ (by omega), u2_row _ _ _ (by omega), u2_row _ _ _ (by omega)]; exact q3, fun i hi => ?_⟩
      rw [u2_a _ _ _ _ (show (89 : Nat) ≠ 90 by decide), u2_row _ _ _ (show 63 + 3 * s + 1 ≠ 90 by omega), u2_row _ _ _ (show 63 + 3 * s + 1 ≠ 89 by omega), u2_row _ _ _ (show 63 + 3 * s + 1 ≠ 63 + 3 * j + 2 by omega), u2_a _ _ _ _ (show 63 + 3 * s + 2 ≠ 90 by omega), u2_a _ _ _ _ (show 63 + 3 * s + 2 ≠ 89 by omega)]
      by_cases hsj : s = j ∧ i = at0
      · obtain ⟨rfl, rfl⟩ := hsj
        rw [u2_s, u2_s, u2_s]
        exact ⟨hhit.symm, rfl, h4.1.1⟩
      · have e1 : 20 * s + i ≠ 20 * j + at0 := by omega
        rw [u2_j _ _ _ _ e1, u2_j _ _ _ _ e1, u2_row _ _ _ (show (89 : Nat) ≠ 63 + 3 * j + 2 by omega), u2_a _ _ _ _ (show (90 : Nat) ≠ 89 by decide), u2_a _ _ _ _ (show (90 : Nat) ≠ 63 + 3 * j + 2 by omega)]
        have e2 : u2 I (63 + 3 * j + 2) at0 z (63 + 3 * s + 2) i = I (63 + 3 * s + 2) i := by
          by_cases hs2 : s = j
          · exact u2_j _ _ _ _ (by omega)
          · exact u2_a _ _ _ _ (by omega)
        rw [e2]
        exact q4 i hi
    · exact absurd h9 (by omega)
    · exact absurd h9 (by omega)
  · refine ⟨_, rfl, ⟨_, o_X7 rfl⟩, m_priceB hpM (fun h6 => absurd (h1 ▸ so_in h2) h6) (fun _ h6 => absurd h4 h6) (fun j2 c2 h6 h7 h720 h8 _ h9 => ?_) (fun _ _ _ _ _ _ _ _ _ => ⟨rfl, h.same⟩) (fun j2 c2 h6 h7 h720 h8 _ h9 h10 => ?_)⟩
    all_goals
      subst h1
      obtain rfl : j = j2 := (nI_eq (by omega) (by omega)).mp h6
      obtain ⟨rfl, p4⟩ := hcc j c c2 h2 h20 h720 h3 h8
      rw [hfn j c2 h2 p4] at h9
      omega
  · refine ⟨_, rfl, ⟨_, o_X7 rfl⟩, m_priceB (fun q hq => ?_) (fun h6 => absurd (h1 ▸ so_in h2) h6) (fun _ h6 => absurd h4 h6) (fun j2 c2 h6 h7 h720 h8 _ h9 => ?_) (fun j2 c2 h6 h7 h720 h8 _ h9 h10 => ?_) (fun j2 c2 h6 h7 h720 h8 _ h9 h10 => ?_)⟩
    · rw [u2_row _ _ _ (show (88 : Nat) ≠ 63 + 3 * j + 2 by omega), u2_row _ _ _ (show (89 : Nat) ≠ 63 + 3 * j + 2 by omega), u2_row _ _ _ (show (88 : Nat) ≠ 63 + 3 * j + 1 by omega), u2_row _ _ _ (show (89 : Nat) ≠ 63 + 3 * j + 1 by omega)]
      exact hpM q hq
    all_goals
      subst h1
      obtain rfl : j = j2 := (nI_eq (by omega) (by omega)).mp h6
      rw [u2_row _ _ _ (show (88 : Nat) ≠ 63 + 3 * j + 2 by omega), u2_row _ _ _ (show (88 : Nat) ≠ 63 + 3 * j + 1 by omega)] at h8
      obtain ⟨rfl, p4⟩ := hcc j c c2 h2 h20 h720 h3 h8
      rw [u2_row _ _ _ (show (89 : Nat) ≠ 63 + 3 * j + 2 by omega), u2_row _ _ _ (show (89 : Nat) ≠ 63 + 3 * j + 1 by omega), hfn j c2 h2 p4] at h9
    · exact absurd h9 (by omega)
    · exact absurd h10 (by omega)
    · refine ⟨rfl, SM.sim (h.pr h2 (fun b b1 b2 b3 => by rw [u2_row _ _ _ (by omega), u2_row _ _ _ (by omega), u2_row _ _ _ (by omega), u2_row _ _ _ b2, u2_row _ _ _ b1]) (fun b hb => u2_row _ _ _ hb) (fun s hs => ?_))⟩
      obtain ⟨c, q1, q2, q3, q4⟩ := hP s hs
      by_cases hsj : s = j
      · subst hsj
        obtain rfl : c = c2 := (nI_eq (by omega) (by omega)).mp (q2.symm.trans h3)
        refine ⟨c + 1, by omega, by rw [u2_s], by rw [u2_a _ _ _ _ (by decide), u2_a _ _ _ _ (by decide), u2_s], fun i hi => ?_⟩
        rw [u2_a _ _ _ _ (show (89 : Nat) ≠ 90 by decide), u2_a _ _ _ _ (show 63 + 3 * s + 1 ≠ 90 by omega), u2_a _ _ _ _ (show 63 + 3 * s + 1 ≠ 89 by omega), u2_a _ _ _ _ (show 63 + 3 * s + 1 ≠ 88 by omega), u2_a _ _ _ _ (show 63 + 3 * s + 1 ≠ 63 + 3 * s + 2 by omega), u2_a _ _ _ _ (show 63 + 3 * s + 2 ≠ 90 by omega), u2_a _ _ _ _ (show 63 + 3 * s + 2 ≠ 89 by omega), u2_a _ _ _ _ (show 63 + 3 * s + 2 ≠ 88 by omega)]
        by_cases hic : i = c
        · subst hic
          rw [u2_s, u2_s, u2_s, u2_s]
          exact ⟨rfl, rfl, h4.1.1⟩
        · have e1 : 20 * s + i ≠ 20 * s + c := by omega
          rw [u2_j _ _ _ _ e1, u2_j _ _ _ _ e1, u2_j _ _ _ _ hic, u2_j _ _ _ _ hic, u2_a _ _ _ _ (show (89 : Nat) ≠ 88 by decide), u2_a _ _ _ _ (show (89 : Nat) ≠ 63 + 3 * s + 2 by omega), u2_a _ _ _ _ (show (89 : Nat) ≠ 63 + 3 * s + 1 by omega), u2_a _ _ _ _ (show (90 : Nat) ≠ 89 by decide), u2_a _ _ _ _ (show (90 : Nat) ≠ 88 by decide), u2_a _ _ _ _ (show (90 : Nat) ≠ 63 + 3 * s + 2 by omega), u2_a _ _ _ _ (show (90 : Nat) ≠ 63 + 3 * s + 1 by omega), u2_a _ _ _ _ (show 63 + 3 * s + 2 ≠ 63 + 3 * s + 1 by omega)]
          exact q4 i (by omega)
      · refine ⟨c, q1, by rw [u2_a _ _ _ _ (by omega)]; exact q2, by rw [u2_a _ _ _ _ (by decide), u2_a _ _ _ _ (by decide), u2_j _ _ _ _ hsj, u2_a _ _ _ _ (by omega), u2_a _ _ _ _ (by omega)]; exact q3, fun i hi => ?_⟩
        have e1 : 20 * s + i ≠ 20 * j + c2 := by omega
        rw [u2_a _ _ _ _ (show (89 : Nat) ≠ 90 by decide), u2_j _ _ _ _ e1, u2_a _ _ _ _ (show (89 : Nat) ≠ 88 by decide), u2_a _ _ _ _ (show (89 : Nat) ≠ 63 + 3 * j + 2 by omega), u2_a _ _ _ _ (show (89 : Nat) ≠ 63 + 3 * j + 1 by omega), u2_j _ _ _ _ e1, u2_a _ _ _ _ (show (90 : Nat) ≠ 89 by decide), u2_a _ _ _ _ (show (90 : Nat) ≠ 88 by decide), u2_a _ _ _ _ (show (90 : Nat) ≠ 63 + 3 * j + 2 by omega), u2_a _ _ _ _ (show (90 : Nat) ≠ 63 + 3 * j + 1 by omega), u2_a _ _ _ _ (show 63 + 3 * s + 1 ≠ 90 by omega), u2_a _ _ _ _ (show 63 + 3 * s + 1 ≠ 89 by omega), u2_a _ _ _ _ (show 63 + 3 * s + 1 ≠ 88 by omega), u2_a _ _ _ _ (show 63 + 3 * s + 1 ≠ 63 + 3 * j + 2 by omega), u2_a _ _ _ _ (show 63 + 3 * s + 1 ≠ 63 + 3 * j + 1 by omega), u2_a _ _ _ _ (show 63 + 3 * s + 2 ≠ 90 by omega), u2_a _ _ _ _ (show 63 + 3 * s + 2 ≠ 89 by omega), u2_a _ _ _ _ (show 63 + 3 * s + 2 ≠ 88 by omega), u2_a _ _ _ _ (show 63 + 3 * s + 2 ≠ 63 + 3 * j + 2 by omega), u2_a _ _ _ _ (show 63 + 3 * s + 2 ≠ 63 + 3 * j + 1 by omega)]
        exact q4 i hi
theorem z_mul2 (x y : Int64) : (0 : Int64) + (0 : Int64) * x * y / 1000000 = 0 := by
  rw [Int64.zero_mul, Int64.zero_mul]
  decide
theorem in_eq {I : M2} {J : J2} {S : M2} {L : J2} {a q fc : Nat} (h : csE I J S L a q fc) (e : S 78 16 = S 0 7) : inM I J S q = intr S L a (S 0 7) := by
  obtain ⟨⟨h1, h2, h3, h4, h5⟩, ⟨g1, g2, g3, g4, g5, g6, g7, g8, g9, g10⟩, h6, h7⟩ := h
  unfold inM intr owM
  rw [h4]
  by_cases hs : S a 2 = 4
  · obtain ⟨k1, k2⟩ := h6 hs
    rw [if_pos hs, e, k1, k2, g8, g6, ← g5]
  · obtain ⟨k1, k2, k3, k4, k5, k6, k7, -⟩ := h7 hs
    rw [if_neg hs, k6, k5]
    have e0 : L a 10 = 0 := by
      rw [g5]
      unfold duM
      rw [g1, g2, g3, g4, k1, k2, k3, k4]
      decide
    rw [e0, show (0 : Int64) - 0 = 0 by decide, z_mul2]
theorem tl_eq {I : M2} {J : J2} {S : M2} {L : J2} {a q fc : Nat} (h : csE I J S L a q fc) (e : S 78 16 = S 0 7) (j : Nat) : tlM I J S q j = tell S L a j (S 0 7) := by
  have e10 := in_eq h e
  obtain ⟨⟨h1, h2, h3, h4, h5⟩, ⟨g1, g2, g3, g4, g5, g6, g7, g8, g9, g10⟩, h6, h7⟩ := h
  unfold tlM tell
  rw [e10, h1, h3, h4, h5, g1, g2, g3, g4, ← g9, ← g5, g6, g7]
  have e9 : owM J q = L a 10 - L a 11 := by unfold owM; rw [← g5, g6]
  rw [e9]
  rcases j with _ | _ | _ | _ | _ | _ | _ | _ | _ | _ | _ | _ | _ | j <;> rfl
set_option maxHeartbeats 1600000 in
theorem s_told {t n : Nat} {d : D2} {I : M2} {J : J2} {S : M2} {L : J2} {R : R2} (h : Sim t n d I J S L R) {x y z : Int32} : Calls yX6_told cX6_told 5 (some .long) rmX6_told [.ref 0, .int x, .int y, .int z] n (H5 d I J S L R) (P2L t (fun n9 h9 Q9 => Calls yX7_told cX7_told 4 (some .long) rmX7_told [.ref 78, .int x, .int y, .int z] n9 h9 Q9)) := by
  obtain ⟨w, g, fc, oc, uc, td, md, op, oa, nc, ca, h⟩ := h
  obtain ⟨hB, hM, hO, hN, hX, ⟨hA, hT, hV⟩, hF, hP, hR, hOr, hL⟩ := id h
  obtain ⟨hw, hg, hw1, hw6, hg1, hg6, hfc, hfc2, hoc, hoc6, huc, huc5, htd, htd4, hR13, hR62⟩ := id hB
  obtain ⟨mw, mg, -, -, -, -, mfc, -, moc, -, muc, -, mtd, -, mmd, mop⟩ := id hM
  obtain ⟨hut, hmd, hop, hdone, hn, hLay⟩ := id hX
  refine t_told hB hO (fun h1 => ⟨_, rfl, ⟨_, o_X7 rfl⟩, m_told hM hN (fun _ => ⟨rfl, h.same⟩) (fun o k h2 h3 h4 h5 => absurd ⟨h4, h5⟩ (h1 o k h2 h3)) (fun o k j h2 h3 h4 h5 => absurd ⟨h4, h5⟩ (h1 o k h2 h3))⟩) (fun o k h1 h2 h3 h4 h5 => ⟨_, rfl, ⟨_, o_X7 rfl⟩, m_told hM hN (fun h6 => absurd ⟨h3, h4⟩ (h6 o k h1 h2)) (fun _ _ _ _ _ _ _ => ⟨rfl, h.same⟩) (fun _ _ j _ _ _ _ h6 h7 => absurd h7 (h5 j h6))⟩) (fun o k j h1 h2 h3 h4 h5 h6 => ⟨_, rfl, ⟨_, o_X7 rfl⟩, m_told hM hN (fun h7 => absurd ⟨h3, h4⟩ (h7 o k h1 h2)) (fun _ _ _ _ _ _ h7 => absurd h6 (h7 j h5)) (fun o2 k2 j2 h7 h8 h9 h10 h11 h12 => ⟨?_, h.same⟩)⟩)
  subst h1
  subst h2
  subst h5
  obtain rfl : o = o2 := (nI_eq (by omega) (by omega)).mp h7
  have hm := (hO o h3).2.2.2.1
  obtain rfl : k = k2 := (nI_eq (by omega) (by omega)).mp h8
  obtain rfl : j = j2 := (nI_eq (by omega) (by omega)).mp h11
  rw [tl_eq ((hOr o h3).2.2 k h4) (mtd.trans htd.symm)]
set_option maxHeartbeats 1600000 in
theorem s_gets {t n : Nat} {d : D2} {I : M2} {J : J2} {S : M2} {L : J2} {R : R2} (h : Sim t n d I J S L R) {x y z : Int32} : Calls yX6_gets cX6_gets 5 (some .long) rmX6_gets [.ref 0, .int x, .int y, .int z] n (H5 d I J S L R) (P2L t (fun n9 h9 Q9 => Calls yX7_gets cX7_gets 4 (some .long) rmX7_gets [.ref 78, .int x, .int y, .int z] n9 h9 Q9)) := by
  obtain ⟨w, g, fc, oc, uc, td, md, op, oa, nc, ca, h⟩ := h
  obtain ⟨hB, hM, hO, hN, hX, ⟨hA, hT, hV⟩, hF, hP, hR, hOr, hL⟩ := id h
  obtain ⟨hw, hg, hw1, hw6, hg1, hg6, hfc, hfc2, hoc, hoc6, huc, huc5, htd, htd4, hR13, hR62⟩ := id hB
  obtain ⟨mw, mg, -, -, -, -, mfc, -, moc, -, muc, -, mtd, -, mmd, mop⟩ := id hM
  obtain ⟨hut, hmd, hop, hdone, hn, hLay⟩ := id hX
  have hcfC : ∀ o k, o < oc → k < nc o → ∃ f, f < fc ∧ S (ca o k) 0 = nI f := fun o k ho hk => ((hOr o ho).2.2 k hk).1.2.1
  have hcfM : ∀ o k, o < oc → k < nc o → ∃ f, f < fc ∧ I 96 (12 * o + k) = nI f := fun o k ho hk => by
    obtain ⟨f, f1, f2⟩ := hcfC o k ho hk
    exact ⟨f, f1, ((hOr o ho).2.2 k hk).1.1.trans f2⟩
  have hrcC : ∀ j, j < fc → ∃ rc, rc ≤ 4 ∧ S (14 + 4 * j) 1 = nI rc := fun j hj => by
    obtain ⟨-, -, rc, f3, f4, -⟩ := hF j hj
    exact ⟨rc, f3, f4⟩
  have hrcM : ∀ j, j < fc → ∃ rc, rc ≤ 4 ∧ I 85 j = nI rc := fun j hj => by
    obtain ⟨-, -, rc, f3, -, f5, -⟩ := hF j hj
    exact ⟨rc, f3, f5⟩
  have hrr : ∀ j rc rc', j < fc → rc ≤ 4 → rc' ≤ 4 → S (14 + 4 * j) 1 = nI rc → I 85 j = nI rc' → rc = rc' := fun j rc rc' hj g1 g2 e1 e2 => by
    obtain ⟨-, -, rc0, f3, f4, f5, -⟩ := hF j hj
    exact (nI_eq (by omega) (by omega)).mp (by rw [← e1, ← e2, f4, f5])
  have hkey : ∀ o k o2 k2 f f2, o < oc → k < nc o → o2 < oc → k2 < nc o2 → nI o = nI o2 → nI k = nI k2 → f < fc → f2 < fc → S (ca o k) 0 = nI f → I 96 (12 * o2 + k2) = nI f2 → o = o2 ∧ k = k2 ∧ f = f2 := fun o k o2 k2 f f2 a1 a2 a3 a4 a5 a6 a7 a8 a9 a10 => by
    obtain rfl : o = o2 := (nI_eq (by omega) (by omega)).mp a5
    have hm := (hO o a1).2.2.2.1
    obtain rfl : k = k2 := (nI_eq (by omega) (by omega)).mp a6
    exact ⟨rfl, rfl, (nI_eq (by omega) (by omega)).mp (by rw [← a9, ← a10]; exact ((hOr o a1).2.2 k a2).1.1.symm)⟩
  refine t_getsB hB hO hcfC hrcC (fun h1 => ⟨_, rfl, ⟨_, o_X7 rfl⟩, m_getsB hM hN hcfM hrcM (fun _ => ⟨rfl, h.same⟩) (fun o k f rc h2 h3 h4 h5 => absurd ⟨h4, h5⟩ (h1 o k h2 h3)) (fun o k f rc j h2 h3 h4 h5 => absurd ⟨h4, h5⟩ (h1 o k h2 h3))⟩) (fun o k f rc h1 h2 h3 h4 b1 b2 h5 h6 h7 => ⟨_, rfl, ⟨_, o_X7 rfl⟩, m_getsB hM hN hcfM hrcM (fun h8 => absurd ⟨h3, h4⟩ (h8 o k h1 h2)) (fun _ _ _ _ _ _ _ _ _ _ _ _ _ => ⟨rfl, h.same⟩) (fun o2 k2 f2 rc2 j a1 a2 a3 a4 a5 a6 a7 a8 a9 a10 => ?_)⟩) (fun o k f rc j h1 h2 h3 h4 b1 b2 h5 h6 h7 h8 => ⟨_, rfl, ⟨_, o_X7 rfl⟩, m_getsB hM hN hcfM hrcM (fun h9 => absurd ⟨h3, h4⟩ (h9 o k h1 h2)) (fun o2 k2 f2 rc2 a1 a2 a3 a4 a5 a6 a7 a8 a9 => ?_) (fun o2 k2 f2 rc2 j2 a1 a2 a3 a4 a5 a6 a7 a8 a9 a10 => ⟨?_, h.same⟩)⟩)
  · obtain ⟨rfl, rfl, rfl⟩ := hkey o k o2 k2 f f2 h3 h4 a3 a4 (h1.symm.trans a1) (h2.symm.trans a2) b1 a5 h5 a7
    obtain rfl := hrr f rc rc2 b1 b2 a6 h6 a8
    exact absurd a10 (h7 j a9)
  · obtain ⟨rfl, rfl, rfl⟩ := hkey o k o2 k2 f f2 h3 h4 a3 a4 (h1.symm.trans a1) (h2.symm.trans a2) b1 a5 h5 a7
    obtain rfl := hrr f rc rc2 b1 b2 a6 h6 a8
    exact absurd h8 (a9 j h7)
  · obtain ⟨rfl, rfl, rfl⟩ := hkey o k o2 k2 f f2 h3 h4 a3 a4 (h1.symm.trans a1) (h2.symm.trans a2) b1 a5 h5 a7
    obtain rfl := hrr f rc rc2 b1 b2 a6 h6 a8
    obtain rfl : j = j2 := (nI_eq (by omega) (by omega)).mp (h7.symm.trans a9)
    rw [((hOr o h3).2.2 k h4).2.1.2.2.2.2.2.2.2.2.2 j (by omega)]
theorem foldN_cg {f f' : Nat → Int64 → Int64} : ∀ n, (∀ i, i < n → ∀ x, f i x = f' i x) → ∀ x, foldN f n x = foldN f' n x := by
  intro n
  induction n with
  | zero => intro _ x; rfl
  | succ n ih =>
    intro h x
    unfold foldN
    rw [ih (fun i hi => h i (by omega)), h n (by omega)]
set_option maxHeartbeats 1600000 in
theorem s_digest {t n : Nat} {d : D2} {I : M2} {J : J2} {S : M2} {L : J2} {R : R2} (h : Sim t n d I J S L R)  : Calls yX6_digest cX6_digest 4 (some .long) rmX6_digest [.ref 0] n (H5 d I J S L R) (P2L t (fun n9 h9 Q9 => Calls yX7_digest cX7_digest 4 (some .long) rmX7_digest [.ref 78] n9 h9 Q9)) := by
  obtain ⟨w, g, fc, oc, uc, td, md, op, oa, nc, ca, h⟩ := h
  obtain ⟨hB, hM, hO, hN, hX, ⟨hA, hT, hV⟩, hF, hP, hR, hOr, hL⟩ := id h
  obtain ⟨hw, hg, hw1, hw6, hg1, hg6, hfc, hfc2, hoc, hoc6, huc, huc5, htd, htd4, hR13, hR62⟩ := id hB
  obtain ⟨mw, mg, -, -, -, -, mfc, -, moc, -, muc, -, mtd, -, mmd, mop⟩ := id hM
  obtain ⟨hut, hmd, hop, hdone, hn, hLay⟩ := id hX
  have hrcC : ∀ j, j < fc → ∃ rc, rc ≤ 4 ∧ S (14 + 4 * j) 1 = nI rc := fun j hj => by
    obtain ⟨-, -, rc, f3, f4, -⟩ := hF j hj
    exact ⟨rc, f3, f4⟩
  have hrcM : ∀ j, j < fc → ∃ rc, rc ≤ 4 ∧ I 85 j = nI rc := fun j hj => by
    obtain ⟨-, -, rc, f3, -, f5, -⟩ := hF j hj
    exact ⟨rc, f3, f5⟩
  refine t_digest hB hO hrcC ⟨_, rfl, ⟨_, o_X7 rfl⟩, m_digest hM hN hrcM ⟨?_, SM.sim (h.scr (fun _ _ _ _ => rfl) (fun _ _ _ => rfl) (fun _ _ => rfl) (fun b hb => u2_row _ _ _ hb))⟩⟩
  have e1 : mx (mx 127 (S 78 0).toInt64) (S 78 1).toInt64 = mx (mx 127 (S 1 0).toInt64) (S 1 1).toInt64 := by rw [mw, mg, hw, hg]
  have e2 : ∀ x, dmC I w g x = foldN (fun y h => foldN (fun x h => foldN (fun k h => mx h (lok I (16 * y + x) k).toInt64) 5 h) w h) g x := fun x => foldN_cg g (fun y hy x => foldN_cg w (fun x2 hx2 x => foldN_cg 5 (fun k hk x => by rw [lk_eq hA hT hoc6 (by omega)]) x) x) x
  have e3 : ∀ x, dmF I fc x = foldN (fun f h => foldN (fun r h => mx (mx h (I (14 + 4 * f + 1) r).toInt64) (I (14 + 4 * f + 2) r).toInt64) (S (14 + 4 * f) 1).toNatClampNeg (mx h (S (14 + 4 * f) 0).toInt64)) fc x := fun x => foldN_cg fc (fun f hf x => by
    obtain ⟨f1, f2, rc, f3, f4, f5, f6⟩ := hF f hf
    rw [f1, f4, f5, nI_clamp (by omega)]
    exact foldN_cg rc (fun r hr x => by rw [(f6 r hr).1, (f6 r hr).2.1]) _) x
  have e4 : ∀ x, dmO I J S oc nc x = dgO S L oc oa nc ca x := fun x => foldN_cg oc (fun o ho x => by
    rw [(hOr o ho).1]
    exact foldN_cg (nc o) (fun k hk x => foldN_cg 14 (fun j hj x => by rw [tl_eq ((hOr o ho).2.2 k hk) (mtd.trans htd.symm)]) x) _) x
  have e5 : ∀ x, dgR I 91 x = dgR I 76 x := fun x => foldN_cg 5 (fun k hk x => by rw [hR k hk]) x
  have e6 : ∀ x, dmE I S oc nc x = dgE I S oc nc ca x := fun x => foldN_cg 3 (fun k hk x => by rw [cnt_eq hA hT hB hM hop]) x
  rw [e6, e5, e4, e3, e2, e1]
  rfl
