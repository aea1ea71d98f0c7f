def SMp (w g fc oc uc td t : Nat) (md op : Bool) (oa nc : Nat → Nat) (ca : Nat → Nat → Nat) (n : Nat) (d : D2) (I : M2) (J : J2) (S : M2) (L : J2) (R : R2) : Prop :=
  CB S R w g fc oc uc td ∧ MB S w g fc oc uc td md op ∧ OrdB d S R oc oa nc ca ∧ OM I oc nc ∧ (uc ≤ t ∧ md = decide (0 < oc ∨ 0 < uc) ∧ (∀ o, o + 1 < oc → dn S nc ca o = true) ∧ 115 ≤ n ∧ Lay n d R) ∧ (SmA I ∧ SmT I oc ∧ SmV I w g fc) ∧ SmF I J S fc oc nc ∧ SmP I S ∧ SmR I ∧ SmO I J S L fc oc oa nc ca
def lnU (S : M2) (m : Nat) (cb : Nat → Nat) : Prop := ∀ k k', k < m → k' < m → S (cb k) 0 = S (cb k') 0 → k = k'
theorem SMp.opened {w g fc oc uc td t : Nat} {md : Bool} {oa nc : Nat → Nat} {ca : Nat → Nat → Nat} {n : Nat} {d : D2} {I : M2} {J : J2} {S : M2} {L : J2} {R : R2} (h : SMp w g fc oc uc td t md true oa nc ca n d I J S L R) (ho : opn S oc nc ca) (hu : lnU S (nc (oc - 1)) (ca (oc - 1))) (hl : ∀ c, c < 256 → I 5 c ≠ 0 → lnO I S (oc - 1) (nc (oc - 1)) (ca (oc - 1)) c) : SM w g fc oc uc td t md true oa nc ca n d I J S L R := by
  obtain ⟨h1, h2, h3, h4, ⟨h5, h6, h7, h8, h9⟩, h10, h11, h12, h13, h14⟩ := h
  exact ⟨h1, h2, h3, h4, ⟨h5, h6, ⟨fun _ => ho, fun _ => rfl⟩, h7, h8, h9⟩, h10, h11, h12, h13, h14, fun h => absurd h (by decide), fun _ => ⟨hu, hl⟩⟩
theorem SMp.closed {w g fc oc uc td t : Nat} {md : Bool} {oa nc : Nat → Nat} {ca : Nat → Nat → Nat} {n : Nat} {d : D2} {I : M2} {J : J2} {S : M2} {L : J2} {R : R2} {I' S' : M2} (h : SMp w g fc oc uc td t md true oa nc ca n d I J S L R) (hd : dn S nc ca (oc - 1) = true) (e5 : ∀ c, c < 256 → I' 5 c = 0) (e82 : ∀ c, c < 256 → I' 82 c = 0) (eI : ∀ b, b ≠ 5 → b ≠ 82 → I' b = I b) (eS : ∀ b, b ≠ 78 → S' b = S b) (e78 : ∀ j, j ≠ 20 → S' 78 j = S 78 j) (e20 : S' 78 20 = 0) : SM w g fc oc uc td t md false oa nc ca n d I' J S' L R := by
  obtain ⟨hB, hM, hO, hN, ⟨h5, h6, h7, h8, h9⟩, ⟨hA, hT, hV⟩, hF, hP, hR, hOr⟩ := h
  have eS2 : ∀ b, 115 ≤ b → S' b 2 = S b 2 := fun b hb => by rw [eS b (by omega)]
  have hge : ∀ o, o < oc → ∀ k, k < nc o → S' (ca o k) 2 = S (ca o k) 2 := fun o ho k hk => eS2 _ (kd_ge ((hO o ho).2.2.2.2.2 k hk).2.1 (Or.inl rfl))
  refine ⟨hB.eq (eS 0 (by omega)) (eS 1 (by omega)), ?_, hO.eq2 eS2, hN.eq (eI 94 (by omega) (by omega)), ⟨h5, h6, ⟨fun h => absurd h (by decide), fun h => ?_⟩, fun o ho => (dn_eq (hge o (by omega))).trans (h7 o ho), h8, h9⟩, ⟨fun c hc => ?_, hT.eq (eI 6 (by omega) (by omega)) (eI 83 (by omega) (by omega)), hV.eq (eI 2 (by omega) (by omega)) (eI 3 (by omega) (by omega)) (eI 4 (by omega) (by omega))⟩, hF.eq hB.2.2.2.2.2.2.2.1 (fun b hb => eI b (by omega) (by omega)) (fun b hb => eS b (by omega)) (fun _ _ => rfl), hP.eq (fun b hb => eI b (by omega) (by omega)) (fun b hb => eS b (by omega)), hR.eq (eI 91 (by omega) (by omega)) (eI 76 (by omega) (by omega)), hOr.eq hO (fun b hb => eI b (by omega) (by omega)) (fun _ _ => rfl) (fun b hb => eS b (by omega)) (fun _ _ => rfl), fun _ c hc h => absurd (e5 c hc) h, fun h => absurd h (by decide)⟩
  · unfold MB at *
    rw [e78 0 (by decide), e78 1 (by decide), e78 7 (by decide), e78 19 (by decide), e78 18 (by decide), e78 16 (by decide), e78 17 (by decide), e20]
    obtain ⟨m1, m2, m3, m4, m5, m6, m7, m8, m9, m10, m11, m12, m13, m14, m15, m16⟩ := hM
    exact ⟨m1, m2, m3, m4, m5, m6, m7, m8, m9, m10, m11, m12, m13, m14, m15, rfl⟩
  · have h0 := h.1
    have h2 := h.2
    rw [dn_eq (hge (oc - 1) (by omega)), hd] at h2
    cases h2
  · rw [eI 79 (by omega) (by omega), eI 80 (by omega) (by omega), eI 81 (by omega) (by omega), eI 2 (by omega) (by omega), eI 3 (by omega) (by omega), eI 4 (by omega) (by omega), e5 c hc, e82 c hc]
    obtain ⟨a1, a2, a3, -⟩ := hA c hc
    exact ⟨a1, a2, a3, rfl⟩
theorem SmO.one {I I' : M2} {J J' : J2} {S S' : M2} {L L' : J2} {fc oc : Nat} {oa nc : Nat → Nat} {ca : Nat → Nat → Nat} {d : D2} {R : R2} (h : SmO I J S L fc oc oa nc ca) (hO : OrdB d S R oc oa nc ca) {o0 k0 : Nat} (ho0 : o0 < oc) (hk0 : k0 < nc o0) (eI : ∀ b, b = 92 ∨ b = 93 → I' b = I b) (eI2 : ∀ b q, (96 ≤ b ∧ b ≤ 100) ∨ b = 108 → q ≠ 12 * o0 + k0 → I' b q = I b q) (eJ : ∀ b q, 101 ≤ b ∧ b ≤ 107 → q ≠ 12 * o0 + k0 → J' b q = J b q) (eJ9 : ∀ q r, r < 4 → q ≠ 12 * o0 + k0 → J' 109 (4 * q + r) = J 109 (4 * q + r)) (eJa : ∀ b, 115 ≤ b → b ≠ ca o0 k0 + 1 → J' b = J b) (eS : ∀ b, 115 ≤ b → b ≠ ca o0 k0 → S' b = S b) (eL : ∀ b, 115 ≤ b → b ≠ ca o0 k0 → L' b = L b) (hc : csE I' J' S' L' (ca o0 k0) (12 * o0 + k0) fc) : SmO I' J' S' L' fc oc oa nc ca := by
  intro o ho
  have hl := (hO o ho).2
  have h1 := kd_ge hl.1 (Or.inr (Or.inl rfl))
  have hk12 := (hO o0 ho0).2.2.2.1
  rw [eI 92 (by omega), eI 93 (by omega), eS (oa o) h1 (hO.ne ((hO o0 ho0).2.2.2.2.2 k0 hk0).2.1 (by decide) o ho)]
  obtain ⟨g1, g2, g3⟩ := h o ho
  refine ⟨g1, g2, fun k hk => ?_⟩
  by_cases he : o = o0 ∧ k = k0
  · obtain ⟨rfl, rfl⟩ := he
    exact hc
  · have hk12' := hl.2.2.1
    have h2 := kd_ge (hl.2.2.2.2 k hk).2.1 (Or.inl rfl)
    have hne : ca o k ≠ ca o0 k0 := fun e => he (ca_inj hO ho hk ho0 hk0 e)
    have hq : 12 * o + k ≠ 12 * o0 + k0 := by omega
    exact (g3 k hk).eq (fun b hb => eI2 b _ hb hq) (fun b hb => eJ b _ hb hq) (fun r hr => eJ9 _ r hr hq) (fun r _ => by rw [eJa _ (by omega) (by omega)]) (eS _ h2 hne) (eL _ h2 hne)
theorem SmL.eq2 {I I' S S' : M2} {oc : Nat} {oa nc : Nat → Nat} {ca : Nat → Nat → Nat} {op : Bool} {d : D2} {R : R2} (h : SmL I S oc nc ca op) (ho : op = true → 0 < oc) (hO : OrdB d S R oc oa nc ca) (eI : ∀ b, b = 2 ∨ b = 5 ∨ b = 6 ∨ b = 95 → I' b = I b) (eS : ∀ b, 115 ≤ b → S' b 0 = S b 0 ∧ S' b 2 = S b 2) : SmL I' S' oc nc ca op := by
  unfold SmL at *
  rw [eI 5 (by omega)]
  refine ⟨fun h9 c hc h5 => by rw [eI 6 (by omega)]; exact h.1 h9 c hc h5, fun h9 => ?_⟩
  have hge : ∀ k, k < nc (oc - 1) → S' (ca (oc - 1) k) 0 = S (ca (oc - 1) k) 0 ∧ S' (ca (oc - 1) k) 2 = S (ca (oc - 1) k) 2 := fun k hk => eS _ (kd_ge ((hO (oc - 1) (by have := ho h9; omega)).2.2.2.2.2 k hk).2.1 (Or.inl rfl))
  refine ⟨fun k k' hk hk' e => (h.2 h9).1 k k' hk hk' (by rw [← (hge k hk).1, ← (hge k' hk').1]; exact e), fun c hc h5 => ((h.2 h9).2 c hc h5).eq (by rw [eI 2 (by omega)]) (by rw [eI 6 (by omega)]) (by rw [eI 95 (by omega)]) (fun k hk => ?_)⟩
  rw [(hge k hk).1, (hge k hk).2]
  exact ⟨rfl, Iff.rfl⟩
set_option maxHeartbeats 1600000 in
theorem s_pay {t n : Nat} {d : D2} {I : M2} {J : J2} {S : M2} {L : J2} {R : R2} (h : Sim t n d I J S L R) {x y : Int32} {v : Int64} : Calls yX6_pay cX6_pay 6 (some .long) rmX6_pay [.ref 0, .int x, .int y, .long v] n (H5 d I J S L R) (P2L t (fun n9 h9 Q9 => Calls yX7_pay cX7_pay 10 (some .long) rmX7_pay [.ref 78, .int x, .int y, .long v] n9 h9 Q9)) := by
  obtain ⟨w, g, fc, oc, uc, td, md, op, oa, nc, ca, h⟩ := h
  obtain ⟨hB, hM, hO, hN, hX, ⟨hA, hT, hV⟩, hF, hP, hR, hOr, hL⟩ := id h
  obtain ⟨hw, hg, hw1, hw6, hg1, hg6, hfc, hfc2, hoc, hoc6, huc, huc5, htd, htd4, hR13, hR62⟩ := id hB
  obtain ⟨mw, mg, -, -, -, -, mfc, -, moc, -, muc, -, mtd, -, mmd, mop⟩ := id hM
  obtain ⟨hut, hmd, hop, hdone, hn, hLay⟩ := id hX
  refine t_pay hB hO (fun h1 => ⟨_, rfl, ⟨_, o_X7 rfl⟩, m_pay hM hN (fun _ => ⟨rfl, h.same⟩) (fun o k h2 h3 h4 h5 => absurd ⟨h4, h5⟩ (h1 o k h2 h3)) (fun o k h2 h3 h4 h5 => absurd ⟨h4, h5⟩ (h1 o k h2 h3)) (fun o k h2 h3 h4 h5 => absurd ⟨h4, h5⟩ (h1 o k h2 h3))⟩) (fun o k h1 h2 h3 h4 h5 => ⟨_, rfl, ⟨_, o_X7 rfl⟩, m_pay hM hN (fun h6 => absurd ⟨h3, h4⟩ (h6 o k h1 h2)) (fun _ _ _ _ _ _ _ => ⟨rfl, h.same⟩) (fun _ _ _ _ _ _ h6 => absurd h6 h5) (fun _ _ _ _ _ _ h6 => absurd h6 h5)⟩) (fun o k h1 h2 h3 h4 h5 h6 => ?_) (fun o k h1 h2 h3 h4 h5 h6 => ?_)
  · subst h1
    subst h2
    have hm := (hO o h3).2.2.2.1
    have hq := ((hOr o h3).2.2 k h4).1.2.2.2.1
    refine ⟨_, rfl, ⟨_, o_X7 rfl⟩, m_pay hM hN (fun h7 => absurd ⟨h3, h4⟩ (h7 o k rfl rfl)) (fun _ _ _ _ _ _ h7 => absurd h5 h7) (fun _ _ _ _ _ _ _ _ => ⟨rfl, h.same⟩) (fun o2 k2 h7 h8 h9 h10 _ h11 => ?_)⟩
    obtain rfl : o = o2 := (nI_eq (by omega) (by omega)).mp h7
    obtain rfl : k = k2 := (nI_eq (by omega) (by omega)).mp h8
    rw [hq] at h11
    exact absurd h11 h6
  · subst h1
    subst h2
    have hm := (hO o h3).2.2.2.1
    have hcs := (hOr o h3).2.2 k h4
    have hq := hcs.1.2.2.2.1
    have h15 := kd_ge ((hO o h3).2.2.2.2.2 k h4).2.1 (Or.inl rfl)
    have e78 : ∀ j, u2 S (ca o k) 5 (S 0 7) 78 j = S 78 j := fun j => by rw [u2_a _ _ _ _ (by omega)]
    refine ⟨_, rfl, ⟨_, o_X7 rfl⟩, m_pay (hM.eq (fun j _ => e78 j)) hN (fun h7 => absurd ⟨h3, h4⟩ (h7 o k rfl rfl)) (fun _ _ _ _ _ _ h7 => absurd h5 h7) (fun o2 k2 h7 h8 h9 h10 _ h11 => ?_) (fun o2 k2 h7 h8 h9 h10 _ h11 => ?_)⟩
    · obtain rfl : o = o2 := (nI_eq (by omega) (by omega)).mp h7
      obtain rfl : k = k2 := (nI_eq (by omega) (by omega)).mp h8
      rw [hq] at h11
      exact absurd h6 h11
    · obtain rfl : o = o2 := (nI_eq (by omega) (by omega)).mp h7
      obtain rfl : k = k2 := (nI_eq (by omega) (by omega)).mp h8
      have eN : inM I J (u2 S (ca o k) 5 (S 0 7)) (12 * o + k) = intr S L (ca o k) (S 0 7) := by
        rw [← in_eq hcs (mtd.trans htd.symm)]
        unfold inM
        rw [e78]
      have eW : owM J (12 * o + k) = L (ca o k) 10 - L (ca o k) 11 := by unfold owM; rw [← hcs.2.1.2.2.2.2.1, hcs.2.1.2.2.2.2.2.1]
      rw [eN, eW, e78, mtd.trans htd.symm]
      refine ⟨rfl, SM.sim (?_ : SM w g fc oc uc td (t + 1) md op oa nc ca n d _ _ _ _ _)⟩
      show SM w g fc oc uc td (t + 1) md op oa nc ca n d (u2 I 108 (12 * o + k) (S 0 7)) (u2 (u2 (u2 (u2 J 107 (12 * o + k) (intr S L (ca o k) (S 0 7))) 107 (12 * o + k) (intr S L (ca o k) (S 0 7) - rcvI S L (ca o k) v (S 0 7))) 106 (12 * o + k) (J 106 (12 * o + k) + rcvI S L (ca o k) v (S 0 7))) 105 (12 * o + k) (J 105 (12 * o + k) + rcvD S L (ca o k) v (S 0 7))) (u2 S (ca o k) 5 (S 0 7)) (u2 (u2 (u2 L (ca o k) 12 (intr S L (ca o k) (S 0 7) - rcvI S L (ca o k) v (S 0 7))) (ca o k) 13 (L (ca o k) 13 + rcvI S L (ca o k) v (S 0 7))) (ca o k) 11 (L (ca o k) 11 + rcvD S L (ca o k) v (S 0 7))) R
      rw [u2_u2]
      generalize rcvI S L (ca o k) v (S 0 7) = r1
      generalize rcvD S L (ca o k) v (S 0 7) = r2
      generalize intr S L (ca o k) (S 0 7) = r0
      have eS : ∀ b, b ≠ ca o k → u2 S (ca o k) 5 (S 0 7) b = S b := fun b hb => u2_row _ _ _ hb
      have eS2 : ∀ b j, j ≠ 5 → u2 S (ca o k) 5 (S 0 7) b j = S b j := fun b j hj => u2_j _ _ _ _ hj
      have eI : ∀ b, b ≠ 108 → u2 I 108 (12 * o + k) (S 0 7) b = I b := fun b hb => u2_row _ _ _ hb
      have eJ : ∀ b, ¬ (105 ≤ b ∧ b ≤ 107) → u2 (u2 (u2 J 107 (12 * o + k) (r0 - r1)) 106 (12 * o + k) (J 106 (12 * o + k) + r1)) 105 (12 * o + k) (J 105 (12 * o + k) + r2) b = J b := fun b hb => by rw [u2_row _ _ _ (by omega), u2_row _ _ _ (by omega), u2_row _ _ _ (by omega)]
      refine ⟨hB.eq (eS 0 (by omega)) (eS 1 (by omega)), hM.eq (fun j _ => e78 j), hO.eq2 (fun b _ => eS2 b 2 (by decide)), hN.eq (eI 94 (by omega)), hX.eq hO (fun b _ => eS2 b 2 (by decide)), ⟨hA.eq (fun b hb => eI b (by omega)), hT.eq (eI 6 (by omega)) (eI 83 (by omega)), hV.eq (eI 2 (by omega)) (eI 3 (by omega)) (eI 4 (by omega))⟩, hF.eq hfc2 (fun b hb => eI b (by omega)) (fun b hb => eS b (by omega)) (fun b hb => eJ b (by omega)), hP.eq (fun b hb => eI b (by omega)) (fun b hb => eS b (by omega)), hR.eq (eI 91 (by omega)) (eI 76 (by omega)), hOr.one hO h3 h4 (fun b hb => eI b (by omega)) (fun b q hb hq2 => u2_j _ _ _ _ hq2) (fun b q hb hq2 => by rw [u2_j _ _ _ _ hq2, u2_j _ _ _ _ hq2, u2_j _ _ _ _ hq2]) (fun q r _ _ => by rw [eJ 109 (by omega)]) (fun b hb _ => eJ b (by omega)) (fun b _ hb => eS b hb) (fun b _ hb => by rw [u2_row _ _ _ hb, u2_row _ _ _ hb, u2_row _ _ _ hb]) ?_, hL.eq2 (fun h9 => (hop.mp h9).1) hO (fun b hb => eI b (by omega)) (fun b _ => ⟨eS2 b 0 (by decide), eS2 b 2 (by decide)⟩)⟩
      obtain ⟨⟨c1, c2, c3, c4, c5⟩, ⟨g1, g2, g3, g4, g5, g6, g7, g8, g9, g10⟩, c6, c7⟩ := hcs
      have eD : duM (u2 (u2 (u2 J 107 (12 * o + k) (r0 - r1)) 106 (12 * o + k) (J 106 (12 * o + k) + r1)) 105 (12 * o + k) (J 105 (12 * o + k) + r2)) (12 * o + k) = duM J (12 * o + k) := duM_eq (by rw [eJ 101 (by omega)]) (by rw [eJ 102 (by omega)]) (by rw [eJ 103 (by omega)]) (by rw [eJ 104 (by omega)])
      have eL : ∀ j, j ≠ 11 → j ≠ 12 → j ≠ 13 → u2 (u2 (u2 L (ca o k) 12 (r0 - r1)) (ca o k) 13 (L (ca o k) 13 + r1)) (ca o k) 11 (L (ca o k) 11 + r2) (ca o k) j = L (ca o k) j := fun j j1 j2 j3 => by rw [u2_j _ _ _ _ j1, u2_j _ _ _ _ j3, u2_j _ _ _ _ j2]
      refine ⟨⟨?_, ?_, ?_, ?_, ?_⟩, ⟨?_, ?_, ?_, ?_, ?_, ?_, ?_, ?_, ?_, fun r hr => ?_⟩, fun _ => ⟨?_, ?_⟩, fun h9 => ?_⟩
      · rw [eI 96 (by omega), eS2 _ 0 (by decide)]; exact c1
      · rw [eS2 _ 0 (by decide)]; exact c2
      · rw [eI 98 (by omega), eS2 _ 1 (by decide)]; exact c3
      · rw [eI 97 (by omega), eS2 _ 2 (by decide)]; exact c4
      · rw [eI 99 (by omega), eS2 _ 3 (by decide)]; exact c5
      · rw [eJ 101 (by omega), eL 6 (by decide) (by decide) (by decide)]; exact g1
      · rw [eJ 102 (by omega), eL 7 (by decide) (by decide) (by decide)]; exact g2
      · rw [eJ 103 (by omega), eL 8 (by decide) (by decide) (by decide)]; exact g3
      · rw [eJ 104 (by omega), eL 9 (by decide) (by decide) (by decide)]; exact g4
      · rw [eD, eL 10 (by decide) (by decide) (by decide)]; exact g5
      · rw [u2_s, u2_s, g6]
      · rw [u2_a _ _ _ _ (by decide), u2_s, u2_j _ _ _ _ (by decide), u2_s, g7]
      · rw [u2_a _ _ _ _ (by decide), u2_a _ _ _ _ (by decide), u2_s, u2_j _ _ _ _ (by decide), u2_j _ _ _ _ (by decide), u2_s]
      · rw [eD, eL 14 (by decide) (by decide) (by decide), eJ 109 (by omega)]; exact g9
      · rw [eJ 109 (by omega), eJ (ca o k + 1) (by omega)]; exact g10 r hr
      · rw [eI 100 (by omega), eS2 _ 4 (by decide)]; exact (c6 h6).1
      · rw [u2_s, u2_s]
      · rw [eS2 _ 2 (by decide)] at h9; exact absurd h6 h9
theorem SM.state {w g fc oc uc td t : Nat} {md : Bool} {oa nc : Nat → Nat} {ca : Nat → Nat → Nat} {n : Nat} {d : D2} {I : M2} {J : J2} {S : M2} {L : J2} {R : R2} (h : SM w g fc oc uc td t md true oa nc ca n d I J S L R) {k : Nat} (hk : k < nc (oc - 1)) (hs : S (ca (oc - 1) k) 2 ≠ 4) {v : Int32} (hv : v ≠ 4) : SMp w g fc oc uc td (t + 1) md true oa nc ca n d (u2 I 97 (12 * (oc - 1) + k) v) J (u2 S (ca (oc - 1) k) 2 v) L R ∧ lnU (u2 S (ca (oc - 1) k) 2 v) (nc (oc - 1)) (ca (oc - 1)) ∧ ∀ c, c < 256 → I 5 c ≠ 0 → lnO (u2 I 97 (12 * (oc - 1) + k) v) (u2 S (ca (oc - 1) k) 2 v) (oc - 1) (nc (oc - 1)) (ca (oc - 1)) c := by
  obtain ⟨hB, hM, hO, hN, ⟨hut, hmd, hop, hdone, hn, hLay⟩, ⟨hA, hT, hV⟩, hF, hP, hR, hOr, hL⟩ := h
  have h0 : 0 < oc := (hop.mp rfl).1
  have ho1 : oc - 1 < oc := by omega
  have hl := (hO (oc - 1) ho1).2
  have h15 := kd_ge (hl.2.2.2.2 k hk).2.1 (Or.inl rfl)
  have eS : ∀ b, b ≠ ca (oc - 1) k → u2 S (ca (oc - 1) k) 2 v b = S b := fun b hb => u2_row _ _ _ hb
  have eSj : ∀ b j, j ≠ 2 → u2 S (ca (oc - 1) k) 2 v b j = S b j := fun b j hj => u2_j _ _ _ _ hj
  have eI : ∀ b, b ≠ 97 → u2 I 97 (12 * (oc - 1) + k) v b = I b := fun b hb => u2_row _ _ _ hb
  have hca : ∀ k', k' < nc (oc - 1) → (u2 S (ca (oc - 1) k) 2 v (ca (oc - 1) k') 2 = 4 ↔ S (ca (oc - 1) k') 2 = 4) := fun k' hk' => by
    by_cases e : k' = k
    · subst e
      rw [u2_s]
      exact ⟨fun h => absurd h hv, fun h => absurd h hs⟩
    · rw [eS _ (fun e9 => e (ca_inj hO ho1 hk' ho1 hk e9).2)]
  refine ⟨⟨hB.eq (eS 0 (by omega)) (eS 1 (by omega)), hM.eq (fun j _ => by rw [eS 78 (by omega)]), hO.eq (fun o ho => by rw [eS _ (hO.ne (hl.2.2.2.2 k hk).2.1 (by decide) o ho)]), hN.eq (eI 94 (by omega)), ⟨by omega, hmd, fun o ho => (dn_eq (fun k' hk' => by rw [eS _ (fun e9 => by have := (ca_inj hO (show o < oc by omega) hk' ho1 hk e9).1; omega)])).trans (hdone o ho), hn, hLay⟩, ⟨hA.eq (fun b hb => eI b (by omega)), hT.eq (eI 6 (by omega)) (eI 83 (by omega)), hV.eq (eI 2 (by omega)) (eI 3 (by omega)) (eI 4 (by omega))⟩, hF.eq hB.2.2.2.2.2.2.2.1 (fun b hb => eI b (by omega)) (fun b hb => eS b (by omega)) (fun _ _ => rfl), hP.eq (fun b hb => eI b (by omega)) (fun b hb => eS b (by omega)), hR.eq (eI 91 (by omega)) (eI 76 (by omega)), hOr.one hO ho1 hk (fun b hb => eI b (by omega)) (fun b q hb hq => u2_j _ _ _ _ hq) (fun _ _ _ _ => rfl) (fun _ _ _ _ => rfl) (fun _ _ _ => rfl) (fun b _ hb => eS b hb) (fun _ _ _ => rfl) ?_⟩, fun k1 k2 h1 h2 e => (hL.2 rfl).1 k1 k2 h1 h2 (by rw [eSj _ 0 (by decide), eSj _ 0 (by decide)] at e; exact e), fun c hc h5 => ((hL.2 rfl).2 c hc h5).eq (by rw [eI 2 (by omega)]) (by rw [eI 6 (by omega)]) (by rw [eI 95 (by omega)]) (fun k' hk' => ⟨eSj _ 0 (by decide), hca k' hk'⟩)⟩
  obtain ⟨⟨c1, c2, c3, c4, c5⟩, g, c6, c7⟩ := (hOr (oc - 1) ho1).2.2 k hk
  refine ⟨⟨?_, ?_, ?_, ?_, ?_⟩, g, fun h9 => ?_, fun _ => c7 hs⟩
  · rw [eI 96 (by omega), eSj _ 0 (by decide)]; exact c1
  · rw [eSj _ 0 (by decide)]; exact c2
  · rw [eI 98 (by omega), eSj _ 1 (by decide)]; exact c3
  · rw [u2_s, u2_s]
  · rw [eI 99 (by omega), eSj _ 3 (by decide)]; exact c5
  · rw [u2_s] at h9; exact absurd h9 hv
theorem allB_f {g : Nat → Bool} {n j : Nat} (hj : j < n) (h : g j = false) : allB g n = false := by
  cases e : allB g n with
  | false => rfl
  | true => rw [(allB_t n).mp e j hj] at h; cases h
set_option maxHeartbeats 1600000 in
theorem s_object {t n : Nat} {d : D2} {I : M2} {J : J2} {S : M2} {L : J2} {R : R2} (h : Sim t n d I J S L R) {x : Int32} : Calls yX6_object cX6_object 4 (some .int) rmX6_object [.ref 0, .int x] n (H5 d I J S L R) (P2 t (fun n9 h9 Q9 => Calls yX7_object cX7_object 3 (some .int) rmX7_object [.ref 78, .int x] n9 h9 Q9)) := by
  obtain ⟨w, g, fc, oc, uc, td, md, op, oa, nc, ca, h⟩ := h
  obtain ⟨hB, hM, hO, hN, hX, ⟨hA, hT, hV⟩, hF, hP, hR, hOr, hL⟩ := id h
  obtain ⟨hw, hg, hw1, hw6, hg1, hg6, hfc, hfc2, hoc, hoc6, huc, huc5, htd, htd4, hR13, hR62⟩ := id hB
  obtain ⟨mw, mg, -, -, -, -, mfc, -, moc, -, muc, -, mtd, -, mmd, mop⟩ := id hM
  obtain ⟨hut, hmd, hop, hdone, hn, hLay⟩ := id hX
  refine t_object hB hO (fun h1 => ⟨_, rfl, ⟨_, o_X7 rfl⟩, m_object hM hN (fun h9 => (hop.mp h9).1) (fun _ => ⟨rfl, h.same⟩) (fun h2 => absurd (hop.mp h2) h1) (fun _ h2 => absurd (hop.mp h2) h1) (fun _ h2 => absurd (hop.mp h2) h1)⟩) (fun h1 h2 => ⟨_, rfl, ⟨_, o_X7 rfl⟩, m_object hM hN (fun h9 => (hop.mp h9).1) (fun h3 => absurd (hop.mpr h1) h3) (fun _ _ => ⟨rfl, h.same⟩) (fun j _ h3 h4 => absurd h4 (h2 j h3)) (fun j _ h3 h4 => absurd h4 (h2 j h3))⟩) (fun j h1 h2 h3 h4 => ?_) (fun j h1 h2 h3 h4 => ?_)
  all_goals
    subst h2
    have h0 := h1.1
    have ho1 : oc - 1 < oc := by omega
    have hm := (hO (oc - 1) ho1).2.2.2.1
    obtain ⟨q1, q2, q3⟩ := hOr (oc - 1) ho1
    have hq := (q3 j h3).1.2.2.2.1
    have hopt := hop.mpr h1
    subst hopt
  · refine ⟨_, rfl, ⟨_, o_X7 rfl⟩, m_object hM hN (fun h9 => (hop.mp h9).1) (fun h5 => absurd rfl h5) (fun _ h5 => absurd h3 (h5 j rfl)) (fun _ _ _ _ _ => ⟨rfl, h.same⟩) (fun j2 _ h5 h6 h7 => ?_)⟩
    obtain rfl : j = j2 := (nI_eq (by omega) (by omega)).mp h5
    rw [hq, q1, q2, mtd.trans htd.symm] at h7
    exact absurd h7 h4
  · have h15 := kd_ge ((hO (oc - 1) ho1).2.2.2.2.2 j h3).2.1 (Or.inl rfl)
    refine ⟨_, rfl, ⟨_, o_X7 rfl⟩, m_object (hM.eq (fun j9 _ => by rw [u2_a _ _ _ _ (by omega)])) hN (fun _ => h0) (fun h5 => absurd rfl h5) (fun _ h5 => absurd h3 (h5 j rfl)) (fun j2 _ h5 h6 h7 => ?_) (fun j2 _ h5 h6 h7 => ?_)⟩
    · obtain rfl : j = j2 := (nI_eq (by omega) (by omega)).mp h5
      rw [hq, q1, q2, u2_a _ _ _ _ (by omega), mtd.trans htd.symm] at h7
      exact absurd h4 h7
    · obtain rfl : j = j2 := (nI_eq (by omega) (by omega)).mp h5
      have hs4 : S (ca (oc - 1) j) 2 ≠ 4 := by rw [h4.1]; decide
      obtain ⟨s1, s2, s3⟩ := h.state h3 hs4 (show (1 : Int32) ≠ 4 by decide)
      refine ⟨rfl, SM.sim (s1.opened ⟨h0, ?_⟩ s2 (fun c hc h5 => s3 c hc (by rw [u2_row _ _ _ (show (5 : Nat) ≠ 97 by decide)] at h5; exact h5)))⟩
      exact allB_f h3 (by rw [u2_s]; rfl)
set_option maxHeartbeats 1600000 in
theorem s_hear {t n : Nat} {d : D2} {I : M2} {J : J2} {S : M2} {L : J2} {R : R2} (h : Sim t n d I J S L R) {x s : Int32} : Calls yX6_hear cX6_hear 5 (some .int) rmX6_hear [.ref 0, .int x, .int s] n (H5 d I J S L R) (P2 t (fun n9 h9 Q9 => Calls yX7_hear cX7_hear 4 (some .int) rmX7_hear [.ref 78, .int x, .int s] n9 h9 Q9)) := by
  obtain ⟨w, g, fc, oc, uc, td, md, op, oa, nc, ca, h⟩ := h
  obtain ⟨hB, hM, hO, hN, hX, ⟨hA, hT, hV⟩, hF, hP, hR, hOr, hL⟩ := id h
  obtain ⟨hw, hg, hw1, hw6, hg1, hg6, hfc, hfc2, hoc, hoc6, huc, huc5, htd, htd4, hR13, hR62⟩ := id hB
  obtain ⟨mw, mg, -, -, -, -, mfc, -, moc, -, muc, -, mtd, -, mmd, mop⟩ := id hM
  obtain ⟨hut, hmd, hop, hdone, hn, hLay⟩ := id hX
  refine t_hear hB hO (fun h1 => ⟨_, rfl, ⟨_, o_X7 rfl⟩, m_hear hM hN (fun h9 => (hop.mp h9).1) (fun _ => ⟨rfl, h.same⟩) (fun h2 => absurd (hop.mp h2) h1) (fun _ h2 => absurd (hop.mp h2) h1) (fun _ h2 => absurd (hop.mp h2) h1) (fun _ h2 => absurd (hop.mp h2) h1)⟩) (fun h1 h2 => ⟨_, rfl, ⟨_, o_X7 rfl⟩, m_hear hM hN (fun h9 => (hop.mp h9).1) (fun h3 => absurd (hop.mpr h1) h3) (fun _ _ => ⟨rfl, h.same⟩) (fun j _ h3 h4 => absurd h4 (h2 j h3)) (fun j _ h3 h4 => absurd h4 (h2 j h3)) (fun j _ h3 h4 => absurd h4 (h2 j h3))⟩) (fun j h1 h2 h3 h4 => ?_) (fun j h1 h2 h3 h4 h5 => ?_) (fun j h1 h2 h3 h4 h5 => ?_)
  all_goals
    subst h2
    have h0 := h1.1
    have ho1 : oc - 1 < oc := by omega
    have hm := (hO (oc - 1) ho1).2.2.2.1
    obtain ⟨q1, q2, q3⟩ := hOr (oc - 1) ho1
    have hq := (q3 j h3).1.2.2.2.1
    have hopt := hop.mpr h1
    subst hopt
    have hst : ∀ k, k < nc (oc - 1) → I 97 (12 * (oc - 1) + k) = S (ca (oc - 1) k) 2 := fun k hk => (q3 k hk).1.2.2.2.1
  · refine ⟨_, rfl, ⟨_, o_X7 rfl⟩, m_hear hM hN (fun h9 => (hop.mp h9).1) (fun h5 => absurd rfl h5) (fun _ h5 => absurd h3 (h5 j rfl)) (fun _ _ _ _ _ => ⟨rfl, h.same⟩) (fun j2 _ h5 h6 h7 => ?_) (fun j2 _ h5 h6 h7 => ?_)⟩
    all_goals
      obtain rfl : j = j2 := (nI_eq (by omega) (by omega)).mp h5
      rw [hq] at h7
      exact absurd h7 h4
  all_goals
    have h15 := kd_ge ((hO (oc - 1) ho1).2.2.2.2.2 j h3).2.1 (Or.inl rfl)
    have hs4 : S (ca (oc - 1) j) 2 ≠ 4 := by rw [h4]; decide
    have hv4 : (if s = 0 then 2 else 3 : Int32) ≠ 4 := by split <;> decide
    obtain ⟨s1, s2, s3⟩ := h.state h3 hs4 hv4
    have hall : ∀ I9 : M2, I9 97 = I 97 → allB (fun k => dnS (u2 I9 97 (12 * (oc - 1) + j) (if s = 0 then 2 else 3) 97 (12 * (oc - 1) + k))) (nc (oc - 1)) = dn (u2 S (ca (oc - 1) j) 2 (if s = 0 then 2 else 3)) nc ca (oc - 1) := fun I9 e9 => allB_eq _ (fun k hk => by
      by_cases e : k = j
      · subst e; rw [u2_s, u2_s]
      · rw [u2_j _ _ _ _ (by omega), u2_a _ _ _ _ (fun e9 => e (ca_inj hO ho1 hk ho1 h3 e9).2), e9, hst k hk])
  · refine ⟨_, rfl, ⟨_, o_X7 rfl⟩, m_hear (hM.eq (fun j9 _ => by rw [u2_a _ _ _ _ (by omega)])) (hN.eq (rowU_ne _ _ _ (by decide))) (fun _ => h0) (fun h9 => absurd rfl h9) (fun _ h9 => absurd h3 (h9 j rfl)) (fun j2 _ h6 h7 h8 => ?_) (fun j2 _ h6 h7 h8 h9 => ?_) (fun j2 _ h6 h7 h8 h9 => ?_)⟩
    · obtain rfl : j = j2 := (nI_eq (by omega) (by omega)).mp h6
      rw [rowU_ne _ _ _ (by decide), hq] at h8
      exact absurd h4 h8
    · obtain rfl : j = j2 := (nI_eq (by omega) (by omega)).mp h6
      refine ⟨rfl, SM.sim (s1.closed h5 (fun c hc => ?_) (fun c hc => ?_) (fun b b5 b82 => ?_) (fun b hb => u2_row _ _ _ hb) (fun j9 hj9 => by rw [u2_j _ _ _ _ hj9]) (by rw [u2_s]))⟩
      · rw [rowU_ne _ _ _ (by decide), u2_a _ _ _ _ (by decide), rowU_in _ _ _ hc]
      · rw [rowU_in _ _ _ hc]
      · rw [rowU_ne _ _ _ b82]
        by_cases e : b = 97
        · subst e
          funext q
          by_cases e2 : q = 12 * (oc - 1) + j
          · subst e2; rw [u2_s, u2_s]
          · rw [u2_j _ _ _ _ e2, u2_j _ _ _ _ e2, rowU_ne _ _ _ (by decide)]
        · rw [u2_row _ _ _ e, u2_row _ _ _ e, rowU_ne _ _ _ b5]
    · obtain rfl : j = j2 := (nI_eq (by omega) (by omega)).mp h6
      rw [hall _ (rowU_ne _ _ _ (by decide)), h5] at h9
      cases h9
  · refine ⟨_, rfl, ⟨_, o_X7 rfl⟩, m_hear (hM.eq (fun j9 _ => by rw [u2_a _ _ _ _ (by omega)])) hN (fun _ => h0) (fun h9 => absurd rfl h9) (fun _ h9 => absurd h3 (h9 j rfl)) (fun j2 _ h6 h7 h8 => ?_) (fun j2 _ h6 h7 h8 h9 => ?_) (fun j2 _ h6 h7 h8 h9 => ?_)⟩
    · obtain rfl : j = j2 := (nI_eq (by omega) (by omega)).mp h6
      rw [hq] at h8
      exact absurd h4 h8
    · obtain rfl : j = j2 := (nI_eq (by omega) (by omega)).mp h6
      rw [hall _ rfl, h5] at h9
      cases h9
    · obtain rfl : j = j2 := (nI_eq (by omega) (by omega)).mp h6
      exact ⟨rfl, SM.sim (s1.opened ⟨h0, h5⟩ s2 (fun c hc h10 => s3 c hc (by rw [u2_row _ _ _ (show (5 : Nat) ≠ 97 by decide)] at h10; exact h10)))⟩
