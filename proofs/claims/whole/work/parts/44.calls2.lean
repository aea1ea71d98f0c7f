set_option maxHeartbeats 1600000 in
theorem s_costs {t n : Nat} {d : D2} {I : M2} {J : J2} {S : M2} {L : J2} {R : R2} (h : Sim t n d I J S L R) {x y : Int32} : Calls yX6_costs cX6_costs 3 (some .int) rmX6_costs [.ref 0, .int x, .int y] n (H5 d I J S L R) (P2 t (fun n9 h9 Q9 => Calls yX7_costs cX7_costs 3 (some .int) rmX7_costs [.ref 78, .int x, .int y] n9 h9 Q9)) := by
  obtain ⟨w, g, fc, oc, uc, td, md, op, oa, nc, ca, h⟩ := h
  obtain ⟨hB, hM, hO, hN, hX, ⟨hA, hT, hV⟩, hF, hP, hR, hOr, hL⟩ := id h
  obtain ⟨hw, hg, hw1, hw6, hg1, hg6, hfc, hfc2, hoc, hoc6, huc, huc5, htd, htd4, hR13, hR62⟩ := id hB
  obtain ⟨mw, mg, -, -, -, -, mfc, -, moc, -, muc, -, mtd, -, mmd, mop⟩ := id hM
  obtain ⟨hut, hmd, hop, hdone, hn, hLay⟩ := id hX
  have hpC : ∀ j, j < 4 → ∃ c, c ≤ 20 ∧ S (63 + 3 * j) 0 = nI c := fun j hj => by
    obtain ⟨c, h1, h2, -⟩ := hP j hj
    exact ⟨c, h1, h2⟩
  have hpM : ∀ j, j < 4 → ∃ c, c ≤ 20 ∧ I 88 j = nI c ∧ ∀ i, i < c → 0 ≤ (I 89 (20 * j + i)).toInt := fun j hj => by
    obtain ⟨c, h1, h2, h3, h4⟩ := hP j hj
    exact ⟨c, h1, h3, fun i hi => (h4 i hi).2.2⟩
  have hcc : ∀ j c c2, j < 4 → c ≤ 20 → c2 ≤ 20 → S (63 + 3 * j) 0 = nI c → I 88 j = nI c2 → c2 = c ∧ ∀ i, i < c → I 89 (20 * j + i) = I (63 + 3 * j + 1) i ∧ I 90 (20 * j + i) = I (63 + 3 * j + 2) i ∧ 0 ≤ (I 89 (20 * j + i)).toInt := fun j c c2 hj g1 g2 g3 g4 => by
    obtain ⟨c0, p1, p2, p3, p4⟩ := hP j hj
    obtain rfl : c0 = c := (nI_eq (by omega) (by omega)).mp (p2.symm.trans g3)
    obtain rfl : c0 = c2 := (nI_eq (by omega) (by omega)).mp (p3.symm.trans g4)
    exact ⟨rfl, p4⟩
  refine t_costsB hB hpC (fun h1 => ⟨_, rfl, ⟨_, o_X7 rfl⟩, m_costsB hpM (fun _ => ⟨rfl, h.same⟩) (fun h2 => absurd h2 h1) (fun j c h2 h3 => absurd (h2 ▸ so_in h3) h1)⟩) (fun h1 h2 => ⟨_, rfl, ⟨_, o_X7 rfl⟩, m_costsB hpM (fun h3 => absurd h1 h3) (fun _ _ => ⟨rfl, h.same⟩) (fun _ _ _ _ _ _ h3 => absurd h3 h2)⟩) (fun j c h1 h2 h20 h3 h4 => ⟨_, rfl, ⟨_, o_X7 rfl⟩, m_costsB hpM (fun h5 => absurd (h1 ▸ so_in h2) h5) (fun _ h5 => absurd h4 h5) (fun j2 c2 h5 h6 h620 h7 _ => ⟨?_, h.same⟩)⟩)
  subst h1
  obtain rfl : j = j2 := (nI_eq (by omega) (by omega)).mp h5
  obtain ⟨rfl, p4⟩ := hcc j c c2 h2 h20 h620 h3 h7
  rw [onS_eq c2 (fun i hi => ⟨(p4 i hi).1, (p4 i hi).2.1⟩)]
set_option maxHeartbeats 1600000 in
theorem s_rate {t n : Nat} {d : D2} {I : M2} {J : J2} {S : M2} {L : J2} {R : R2} (h : Sim t n d I J S L R) {x y : Int32} : Calls yX6_rate cX6_rate 4 (some .int) rmX6_rate [.ref 0, .int x, .int y] n (H5 d I J S L R) (P2 t (fun n9 h9 Q9 => Calls yX7_rate cX7_rate 5 (some .int) rmX7_rate [.ref 78, .int x, .int y] n9 h9 Q9)) := by
  obtain ⟨w, g, fc, oc, uc, td, md, op, oa, nc, ca, h⟩ := h
  obtain ⟨hB, hM, hO, hN, hX, ⟨hA, hT, hV⟩, hF, hP, hR, hOr, hL⟩ := id h
  obtain ⟨hw, hg, hw1, hw6, hg1, hg6, hfc, hfc2, hoc, hoc6, huc, huc5, htd, htd4, hR13, hR62⟩ := id hB
  obtain ⟨mw, mg, -, -, -, -, mfc, -, moc, -, muc, -, mtd, -, mmd, mop⟩ := id hM
  obtain ⟨hut, hmd, hop, hdone, hn, hLay⟩ := id hX
  have hin5 : ∀ j, j < 5 → 0 ≤ (nI j).toInt ∧ (nI j).toInt ≤ 4 := fun j hj => by rw [nI_toInt (by omega)]; omega
  refine t_rate hB (fun h1 => ⟨_, rfl, ⟨_, o_X7 rfl⟩, m_rate (fun _ => ⟨rfl, h.same⟩) (fun j h2 h3 => absurd (h2 ▸ hin5 j h3) h1) (fun j h2 h3 => absurd (h2 ▸ hin5 j h3) h1)⟩) (fun j h1 h2 h3 => ⟨_, rfl, ⟨_, o_X7 rfl⟩, m_rate (fun h4 => absurd (h1 ▸ hin5 j h2) h4) (fun _ _ _ _ => ⟨rfl, h.same⟩) (fun j2 h4 h5 h6 => ?_)⟩) (fun j h1 h2 h3 => ⟨_, rfl, ⟨_, o_X7 rfl⟩, m_rate (fun h4 => absurd (h1 ▸ hin5 j h2) h4) (fun j2 h4 h5 h6 => ?_) (fun j2 h4 h5 h6 => ?_)⟩)
  · subst h1
    obtain rfl : j = j2 := (nI_eq (by omega) (by omega)).mp h4
    exact absurd h6 h3
  · subst h1
    obtain rfl : j = j2 := (nI_eq (by omega) (by omega)).mp h4
    exact absurd h3 h6
  · subst h1
    obtain rfl : j = j2 := (nI_eq (by omega) (by omega)).mp h4
    have eI : ∀ b, b ≠ 76 → b ≠ 91 → u2 (u2 I 76 j y) 91 j y b = I b := fun b h7 h8 => by rw [u2_row _ _ _ h8, u2_row _ _ _ h7]
    refine ⟨by rw [u2_a _ _ _ _ (by decide), hR j h2], SM.sim (?_ : SM w g fc oc uc td (t + 1) md op oa nc ca n d _ _ _ _ _)⟩
    refine ⟨hB, hM, hO, hN.eq (eI 94 (by omega) (by omega)), hX.eq hO (fun _ _ => rfl), ⟨hA.eq (fun b hb => eI b (by omega) (by omega)), hT.eq (eI 6 (by omega) (by omega)) (eI 83 (by omega) (by omega)), hV.eq (eI 2 (by omega) (by omega)) (eI 3 (by omega) (by omega)) (eI 4 (by omega) (by omega))⟩, hF.eq hfc2 (fun b hb => eI b (by omega) (by omega)) (fun _ _ => rfl) (fun _ _ => rfl), hP.eq (fun b hb => eI b (by omega) (by omega)) (fun _ _ => rfl), fun k hk => ?_, hOr.eq hO (fun b hb => eI b (by omega) (by omega)) (fun _ _ => rfl) (fun _ _ => rfl) (fun _ _ => rfl), hL.eq (fun h9 => (hop.mp h9).1) hO (fun b hb => eI b (by omega) (by omega)) (fun _ _ => rfl)⟩
    by_cases hkj : k = j
    · subst hkj
      rw [u2_s, u2_a _ _ _ _ (by decide), u2_s]
    · rw [u2_j _ _ _ _ hkj, u2_j _ _ _ _ hkj, u2_j _ _ _ _ hkj, u2_j _ _ _ _ hkj]
      exact hR k hk
set_option maxHeartbeats 1600000 in
theorem s_days {t n : Nat} {d : D2} {I : M2} {J : J2} {S : M2} {L : J2} {R : R2} (h : Sim t n d I J S L R) {x : Int32} : Calls yX6_days cX6_days 2 (some .int) rmX6_days [.ref 0, .int x] n (H5 d I J S L R) (P2 t (fun n9 h9 Q9 => Calls yX7_days cX7_days 2 (some .int) rmX7_days [.ref 78, .int x] n9 h9 Q9)) := by
  obtain ⟨w, g, fc, oc, uc, td, md, op, oa, nc, ca, h⟩ := h
  obtain ⟨hB, hM, hO, hN, hX, ⟨hA, hT, hV⟩, hF, hP, hR, hOr, hL⟩ := id h
  obtain ⟨hw, hg, hw1, hw6, hg1, hg6, hfc, hfc2, hoc, hoc6, huc, huc5, htd, htd4, hR13, hR62⟩ := id hB
  obtain ⟨mw, mg, -, -, -, -, mfc, -, moc, -, muc, -, mtd, -, mmd, mop⟩ := id hM
  obtain ⟨hut, hmd, hop, hdone, hn, hLay⟩ := id hX
  refine t_days hB (fun h1 => ⟨_, rfl, ⟨_, o_X7 rfl⟩, m_days hM (fun _ => ⟨rfl, h.same⟩) (fun j h2 h3 h4 => absurd ⟨h3, h4⟩ (h1 j h2))⟩) (fun j h1 h2 h3 => ⟨_, rfl, ⟨_, o_X7 rfl⟩, m_days (hM.eq (fun j9 _ => by rw [u2_a _ _ _ _ (by decide)])) (fun h4 => absurd ⟨h2, h3⟩ (h4 j h1)) (fun j2 h4 h5 h6 => ?_)⟩)
  subst h1
  obtain rfl : j = j2 := (nI_eq (by omega) (by omega)).mp h4
  refine ⟨rfl, SM.sim (?_ : SM w g fc oc uc (td + j) (t + 1) md op oa nc ca n d _ _ _ _ _)⟩
  have eS : ∀ b, b ≠ 0 → b ≠ 78 → u2 (u2 S 0 7 (nI (td + j))) 78 16 (nI (td + j)) b = S b := fun b b0 b78 => by rw [u2_row _ _ _ b78, u2_row _ _ _ b0]
  have eS2 : ∀ b, 115 ≤ b → u2 (u2 S 0 7 (nI (td + j))) 78 16 (nI (td + j)) b 2 = S b 2 := fun b hb => by rw [eS b (by omega) (by omega)]
  refine ⟨?_, ?_, hO.eq2 eS2, hN, hX.eq hO eS2, ⟨hA, hT, hV⟩, hF.eq hfc2 (fun _ _ => rfl) (fun b hb => eS b (by omega) (by omega)) (fun _ _ => rfl), hP.eq (fun _ _ => rfl) (fun b hb => eS b (by omega) (by omega)), hR, hOr.eq hO (fun _ _ => rfl) (fun _ _ => rfl) (fun b hb => eS b (by omega) (by omega)) (fun _ _ => rfl), hL.eq (fun h9 => (hop.mp h9).1) hO (fun _ _ => rfl) (fun b hb => eS b (by omega) (by omega))⟩
  · unfold CB
    rw [eS 1 (by decide) (by decide)]
    exact ⟨hw, hg, hw1, hw6, hg1, hg6, by simp [u2]; exact hfc, hfc2, by simp [u2]; exact hoc, hoc6, by simp [u2]; exact huc, huc5, by simp [u2], h3, hR13, hR62⟩
  · exact ⟨by simp [u2]; exact mw, by simp [u2]; exact mg, hw1, hw6, hg1, hg6, by simp [u2]; exact mfc, hfc2, by simp [u2]; exact moc, hoc6, by simp [u2]; exact muc, huc5, by simp [u2], h3, by simp [u2]; exact mmd, by simp [u2]; exact mop⟩
theorem tk_eq {I : M2} {oc : Nat} (hT : SmT I oc) (ho : oc ≤ 60) {c : Nat} (hc : c < 256) : tkM I c = tkn I c := by
  unfold tkM tkn
  rcases hT c hc with ⟨h1, h2⟩ | ⟨o, h1, h2, h3⟩
  · rw [h1, h2]; rfl
  · rw [h2, h3]
    have e1 : (nI o != -1) = true := by
      rw [bne_iff_ne]
      exact nI_m1 (by omega)
    rw [e1, decide_eq_true_eq, i_lt, l0, nI_toInt (by omega)]
    omega
theorem lk_eq {I : M2} {oc : Nat} (hA : SmA I) (hT : SmT I oc) (ho : oc ≤ 60) {c : Nat} (hc : c < 256) (k : Nat) : lkM I c k = lok I c k := by
  obtain ⟨a1, a2, a3, a4⟩ := hA c hc
  unfold lkM lok
  rw [a1, a2, a3, a4, tk_eq hT ho hc]
  rcases k with _ | _ | _ | _ | k <;> rfl
theorem cnt_eq {I S : M2} {w g fc oc uc td : Nat} {md op : Bool} {R : R2} {nc : Nat → Nat} {ca : Nat → Nat → Nat} (hA : SmA I) (hT : SmT I oc) (hB : CB S R w g fc oc uc td) (hM : MB S w g fc oc uc td md op) (hop : op = true ↔ opn S oc nc ca) (k : Nat) : cntM I S oc nc k = cnt8 I S oc nc ca k := by
  obtain ⟨hw, hg, hw1, hw6, hg1, hg6, hfc, hfc2, hoc, hoc6, huc, huc5, htd, htd4, hR13, hR62⟩ := hB
  obtain ⟨mw, mg, -, -, -, -, mfc, -, moc, -, muc, -, mtd, -, mmd, mop⟩ := hM
  unfold cntM cnt8
  have e6 : bi op = bi (decide (0 < oc) && !(dn S nc ca (oc - 1))) := by
    congr 1
    rw [Bool.eq_iff_iff, hop]
    unfold opn
    simp
  have e1 : sI (fun c => bi (tkM I c)) 256 = sI (fun c => bi (tkn I c)) 256 := sI_eq 256 (fun c hc => by rw [tk_eq hT hoc6 hc])
  have e2 : sI (fun c => bi (I 82 c != 0)) 256 = sI (fun c => bi (I 5 c != 0)) 256 := sI_eq 256 (fun c hc => by rw [(hA c hc).2.2.2])
  rw [mfc, hfc, e1, e2, moc, hoc, mtd, htd, mop, e6, muc, huc]
  rcases k with _ | _ | _ | _ | _ | _ | _ | k <;> rfl
set_option maxHeartbeats 1600000 in
theorem s_look {t n : Nat} {d : D2} {I : M2} {J : J2} {S : M2} {L : J2} {R : R2} (h : Sim t n d I J S L R) {x y z : Int32} : Calls yX6_look cX6_look 5 (some .int) rmX6_look [.ref 0, .int x, .int y, .int z] n (H5 d I J S L R) (P2 t (fun n9 h9 Q9 => Calls yX7_look cX7_look 4 (some .int) rmX7_look [.ref 78, .int x, .int y, .int z] n9 h9 Q9)) := by
  obtain ⟨w, g, fc, oc, uc, td, md, op, oa, nc, ca, h⟩ := h
  obtain ⟨hB, hM, hO, hN, hX, ⟨hA, hT, hV⟩, hF, hP, hR, hOr, hL⟩ := id h
  obtain ⟨hw, hg, hw1, hw6, hg1, hg6, hfc, hfc2, hoc, hoc6, huc, huc5, htd, htd4, hR13, hR62⟩ := id hB
  obtain ⟨mw, mg, -, -, -, -, mfc, -, moc, -, muc, -, mtd, -, mmd, mop⟩ := id hM
  obtain ⟨hut, hmd, hop, hdone, hn, hLay⟩ := id hX
  refine t_look hB (fun h1 => ⟨_, rfl, ⟨_, o_X7 rfl⟩, m_look hM (fun _ => ⟨rfl, h.same⟩) (fun c h2 => by rw [h1] at h2; cases h2) (fun c k h2 => by rw [h1] at h2; cases h2)⟩) (fun c h1 h2 => ⟨_, rfl, ⟨_, o_X7 rfl⟩, m_look hM (fun h3 => by rw [h1] at h3; cases h3) (fun _ _ _ => ⟨rfl, h.same⟩) (fun _ k _ h3 h4 => absurd h4 (h2 k h3))⟩) (fun c k h1 h2 h3 => ⟨_, rfl, ⟨_, o_X7 rfl⟩, m_look hM (fun h4 => by rw [h1] at h4; cases h4) (fun _ _ h4 => absurd h3 (h4 k h2)) (fun c2 k2 h4 h5 h6 => ⟨?_, h.same⟩)⟩)
  rw [h1] at h4
  cases h4
  subst h2
  obtain rfl : k = k2 := (nI_eq (by omega) (by omega)).mp h5
  rw [lk_eq hA hT hoc6 (plc_lt hw6 hg6 h1)]
set_option maxHeartbeats 1600000 in
theorem s_count {t n : Nat} {d : D2} {I : M2} {J : J2} {S : M2} {L : J2} {R : R2} (h : Sim t n d I J S L R) {x : Int32} : Calls yX6_count cX6_count 2 (some .int) rmX6_count [.ref 0, .int x] n (H5 d I J S L R) (P2 t (fun n9 h9 Q9 => Calls yX7_count cX7_count 4 (some .int) rmX7_count [.ref 78, .int x] n9 h9 Q9)) := by
  obtain ⟨w, g, fc, oc, uc, td, md, op, oa, nc, ca, h⟩ := h
  obtain ⟨hB, hM, hO, hN, hX, ⟨hA, hT, hV⟩, hF, hP, hR, hOr, hL⟩ := id h
  obtain ⟨hw, hg, hw1, hw6, hg1, hg6, hfc, hfc2, hoc, hoc6, huc, huc5, htd, htd4, hR13, hR62⟩ := id hB
  obtain ⟨mw, mg, -, -, -, -, mfc, -, moc, -, muc, -, mtd, -, mmd, mop⟩ := id hM
  obtain ⟨hut, hmd, hop, hdone, hn, hLay⟩ := id hX
  refine t_count hB hO (fun h1 => ⟨_, rfl, ⟨_, o_X7 rfl⟩, m_count hM hN (fun _ => ⟨rfl, h.same⟩) (fun k h2 h3 => absurd h3 (h1 k h2))⟩) (fun k h1 h2 => ⟨_, rfl, ⟨_, o_X7 rfl⟩, m_count hM hN (fun h3 => absurd h2 (h3 k h1)) (fun k2 h3 h4 => ⟨?_, h.same⟩)⟩)
  subst h1
  obtain rfl : k = k2 := (nI_eq (by omega) (by omega)).mp h3
  rw [cnt_eq hA hT hB hM hop]
set_option maxHeartbeats 1600000 in
theorem s_line {t n : Nat} {d : D2} {I : M2} {J : J2} {S : M2} {L : J2} {R : R2} (h : Sim t n d I J S L R) {x y s : Int32} (hs : s = 0 ∨ s = 1) : Calls yX6_line cX6_line 6 (some .int) rmX6_line [.ref 0, .int x, .int y, .int s] n (H5 d I J S L R) (P2 t (fun n9 h9 Q9 => Calls yX7_line cX7_line 6 (some .int) rmX7_line [.ref 78, .int x, .int y, .int s] n9 h9 Q9)) := by
  obtain ⟨w, g, fc, oc, uc, td, md, op, oa, nc, ca, h⟩ := h
  obtain ⟨hB, hM, hO, hN, hX, ⟨hA, hT, hV⟩, hF, hP, hR, hOr, hL⟩ := id h
  obtain ⟨hw, hg, hw1, hw6, hg1, hg6, hfc, hfc2, hoc, hoc6, huc, huc5, htd, htd4, hR13, hR62⟩ := id hB
  obtain ⟨mw, mg, -, -, -, -, mfc, -, moc, -, muc, -, mtd, -, mmd, mop⟩ := id hM
  obtain ⟨hut, hmd, hop, hdone, hn, hLay⟩ := id hX
  refine t_line hB hO hs (fun h1 => ⟨_, rfl, ⟨_, o_X7 rfl⟩, m_line hM hs (fun _ => ⟨rfl, h.same⟩) (fun c h2 => by rw [h1] at h2; cases h2) (fun c h2 => by rw [h1] at h2; cases h2)⟩) (fun c h1 h2 => ⟨_, rfl, ⟨_, o_X7 rfl⟩, m_line hM hs (fun h3 => by rw [h1] at h3; cases h3) (fun _ _ _ => ⟨rfl, h.same⟩) (fun c2 h3 h4 h5 => ?_)⟩) (fun c h1 h2 h3 => ⟨_, rfl, ⟨_, o_X7 rfl⟩, m_line hM hs (fun h4 => by rw [h1] at h4; cases h4) (fun c2 h4 h5 => ?_) (fun c2 h4 h5 h6 => ?_)⟩)
  · rw [h1] at h3
    cases h3
    rw [tk_eq hT hoc6 (plc_lt hw6 hg6 h1)] at h5
    rcases h2 with h2 | h2
    · rw [hop.mpr h2] at h4; cases h4
    · rw [h2] at h5; cases h5
  · rw [h1] at h4
    cases h4
    rcases h5 with h5 | h5
    · exact absurd (hop.mp h5) h2
    · have h6 := tk_eq (I := u2 I 5 c s) (hT.eq (u2_row _ _ _ (by decide)) (u2_row _ _ _ (by decide))) hoc6 (plc_lt hw6 hg6 h1)
      rw [h5] at h6
      unfold tkn at h6 h3
      rw [u2_a _ _ _ _ (by decide), h3] at h6
      cases h6
  · rw [h1] at h4
    cases h4
    have hc6 := plc_lt hw6 hg6 h1
    have eI : ∀ b, b ≠ 5 → b ≠ 82 → u2 (u2 I 5 c s) 82 c s b = I b := fun b h7 h8 => by rw [u2_row _ _ _ h8, u2_row _ _ _ h7]
    refine ⟨by rw [u2_a _ _ _ _ (by decide), (hA c hc6).2.2.2], SM.sim (?_ : SM w g fc oc uc td (t + 1) md op oa nc ca n d _ _ _ _ _)⟩
    refine ⟨hB, hM, hO, hN.eq (eI 94 (by omega) (by omega)), hX.eq hO (fun _ _ => rfl), ⟨fun x hx => ?_, hT.eq (eI 6 (by omega) (by omega)) (eI 83 (by omega) (by omega)), hV.eq (eI 2 (by omega) (by omega)) (eI 3 (by omega) (by omega)) (eI 4 (by omega) (by omega))⟩, hF.eq hfc2 (fun b hb => eI b (by omega) (by omega)) (fun _ _ => rfl) (fun _ _ => rfl), hP.eq (fun b hb => eI b (by omega) (by omega)) (fun _ _ => rfl), hR.eq (eI 91 (by omega) (by omega)) (eI 76 (by omega) (by omega)), hOr.eq hO (fun b hb => eI b (by omega) (by omega)) (fun _ _ => rfl) (fun _ _ => rfl) (fun _ _ => rfl), fun h9 x hx h7 => ?_, fun h9 => ?_⟩
    · rw [eI 79 (by omega) (by omega), eI 80 (by omega) (by omega), eI 81 (by omega) (by omega), eI 2 (by omega) (by omega), eI 3 (by omega) (by omega), eI 4 (by omega) (by omega)]
      obtain ⟨a1, a2, a3, a4⟩ := hA x hx
      refine ⟨a1, a2, a3, ?_⟩
      by_cases hxc : x = c
      · subst hxc
        rw [u2_s, u2_a _ _ _ _ (by decide), u2_s]
      · rw [u2_j _ _ _ _ hxc, u2_j _ _ _ _ hxc, u2_j _ _ _ _ hxc, u2_j _ _ _ _ hxc]
        exact a4
    · rw [eI 6 (by omega) (by omega)]
      by_cases hxc : x = c
      · subst hxc
        unfold tkn at h3
        simpa using h3
      · exact hL.1 h5 x hx (by rw [u2_a _ _ _ _ (by decide), u2_j _ _ _ _ hxc] at h7; exact h7)
    · rw [h5] at h9; cases h9
