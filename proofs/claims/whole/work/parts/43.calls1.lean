theorem rng_n {x : Int32} (h : rng x 1 16) : ∃ k, x = nI k ∧ 1 ≤ k ∧ k ≤ 16 := by
  obtain ⟨h1, h2⟩ := h
  exact ⟨x.toInt.toNat, i_eq (by omega), by omega, by omega⟩
theorem fok_n {f : Int32} {fc : Nat} (h : 0 ≤ f.toInt ∧ f.toInt < fc) : ∃ j, j < fc ∧ f = nI j := ⟨f.toInt.toNat, by omega, i_eq (by omega)⟩
theorem n_fok {j fc : Nat} (h : j < fc) (h2 : fc ≤ 12) : 0 ≤ (nI j).toInt ∧ (nI j).toInt < fc := by rw [nI_toInt (by omega)]; omega
theorem plc_map {w g : Nat} (hw : w ≤ 16) {x y : Int32} {c : Nat} (h : plc w g x y = some c) : c % 16 < w ∧ c / 16 < g := by
  unfold plc at h
  split at h
  · cases h; omega
  · cases h
theorem so_in {j : Nat} (h : j < 4) : 0 ≤ (nI j).toInt ∧ (nI j).toInt ≤ 3 := by rw [nI_toInt (by omega)]; omega
theorem nI_in2 {j a b : Nat} (h : nI a = nI b) (ha : a < 2 ^ 31) (hb : b < 2 ^ 31) : a = b := (nI_eq ha hb).mp h
theorem md_t {md : Bool} {oc uc : Nat} (h : md = decide (0 < oc ∨ 0 < uc)) : md = true ↔ (0 < oc ∨ 0 < uc) := by rw [h, decide_eq_true_eq]
theorem md_f {md : Bool} {oc uc : Nat} (h : md = decide (0 < oc ∨ 0 < uc)) : md = false ↔ ¬ (0 < oc ∨ 0 < uc) := by rw [h, decide_eq_false_iff_not]
theorem SmO.z {I : M2} {J : J2} {S : M2} {L : J2} {fc : Nat} {oa nc : Nat → Nat} {ca : Nat → Nat → Nat} : SmO I J S L fc 0 oa nc ca := fun o ho => absurd ho (Nat.not_lt_zero o)
theorem OrdB.z {d : D2} {S : M2} {R : R2} {oa nc : Nat → Nat} {ca : Nat → Nat → Nat} : OrdB d S R 0 oa nc ca := fun o ho => absurd ho (Nat.not_lt_zero o)
theorem OM.z {I : M2} {nc : Nat → Nat} : OM I 0 nc := fun o ho => absurd ho (Nat.not_lt_zero o)
theorem op_z {S : M2} {nc : Nat → Nat} {ca : Nat → Nat → Nat} {op : Bool} (h : op = true ↔ opn S 0 nc ca) : op = false := by
  cases op with
  | false => rfl
  | true => exact absurd (h.mp rfl).1 (by omega)
theorem SmN.z {S S' : M2} {t n : Nat} {nc : Nat → Nat} {ca : Nat → Nat → Nat} {d : D2} {R : R2} {md op : Bool} (h : SmN S 0 0 t n nc ca d R md op) : SmN S' 0 0 (t + 1) n nc ca d R md op := by
  obtain ⟨h1, h2, h3, h4, h5, h6⟩ := h
  refine ⟨by omega, h2, ?_, fun o ho => absurd ho (by omega), h5, h6⟩
  rw [op_z h3]
  exact ⟨fun h => absurd h (by decide), fun h => absurd h.1 (by omega)⟩
theorem SmT.z {I I' : M2} (h : SmT I 0) (e6 : I' 6 = I 6) (e83 : I' 83 = I 83) : SmT I' 0 := h.eq e6 e83
set_option maxHeartbeats 1600000 in
theorem s_map {t n : Nat} {d : D2} {I : M2} {J : J2} {S : M2} {L : J2} {R : R2} (h : Sim t n d I J S L R) {x y : Int32} : Calls yX6_map cX6_map 3 (some .int) rmX6_map [.ref 0, .int x, .int y] n (H5 d I J S L R) (P2 t (fun n9 h9 Q9 => Calls yX7_map cX7_map 3 (some .int) rmX7_map [.ref 78, .int x, .int y] n9 h9 Q9)) := by
  obtain ⟨w, g, fc, oc, uc, td, md, op, oa, nc, ca, h⟩ := h
  obtain ⟨hB, hM, hO, hN, hX, ⟨hA, hT, hV⟩, hF, hP, hR, hOr, hL⟩ := id h
  obtain ⟨hw, hg, hw1, hw6, hg1, hg6, hfc, hfc2, hoc, hoc6, huc, huc5, htd, htd4, hR13, hR62⟩ := id hB
  obtain ⟨mw, mg, -, -, -, -, mfc, -, moc, -, muc, -, mtd, -, mmd, mop⟩ := id hM
  obtain ⟨hut, hmd, hop, hdone, hn, hLay⟩ := id hX
  refine t_map hB (fun h1 => ⟨_, rfl, ⟨_, o_X7 rfl⟩, m_map hM (fun _ => ⟨rfl, h.same⟩) (fun h2 => absurd h2 h1) (fun h2 => absurd h2 h1)⟩) (fun h1 h2 => ⟨_, rfl, ⟨_, o_X7 rfl⟩, m_map hM (fun h3 => absurd h1 h3) (fun _ _ => ⟨rfl, h.same⟩) (fun _ h3 => absurd h2 ((md_f hmd).mp h3))⟩) (fun h1 h2 => ⟨_, rfl, ⟨_, o_X7 rfl⟩, m_map (hM.eq (fun j _ => by simp [u2])) (fun h3 => absurd h1 h3) (fun _ h3 => absurd ((md_t hmd).mp h3) h2) (fun _ _ => ⟨rfl, ?_⟩)⟩)
  obtain ⟨w', rfl, hx1, hx2⟩ := rng_n h1.1
  obtain ⟨g', rfl, hy1, hy2⟩ := rng_n h1.2
  obtain rfl : oc = 0 := by omega
  obtain rfl : uc = 0 := by omega
  have hopf := op_z hop
  subst hopf
  refine SM.sim (?_ : SM w' g' 0 0 0 td (t + 1) md false oa nc ca n d _ _ _ _ _)
  have eS : ∀ b, b ≠ 0 → b ≠ 1 → b ≠ 78 → u2 (u2 (u2 (u2 (u2 (u2 S 1 0 (nI w')) 1 1 (nI g')) 0 3 0) 78 0 (nI w')) 78 1 (nI g')) 78 7 0 b = S b := fun b b0 b1 b78 => by rw [u2_row _ _ _ b78, u2_row _ _ _ b78, u2_row _ _ _ b78, u2_row _ _ _ b0, u2_row _ _ _ b1, u2_row _ _ _ b1]
  have eI : ∀ b, ¬ (2 ≤ b ∧ b ≤ 6) → ¬ (79 ≤ b ∧ b ≤ 83) → rw5 (rw5 I 2 256 (fun b => if b = 2 ∨ b = 6 then -1 else 0)) 79 256 (fun b => if b = 79 then -1 else 0) b = I b := fun b h2 h3 => by rw [rw5_ne _ _ _ _ h3, rw5_ne _ _ _ _ h2]
  refine ⟨(?_ : CB _ _ w' g' 0 0 0 td), ?_, OrdB.z, OM.z, hX.z, ⟨fun c hc => ?_, fun c hc => Or.inl ?_, fun c hc => ?_⟩, fun f hf => absurd hf (Nat.not_lt_zero f), hP.eq (fun b hb => eI b (by omega) (by omega)) (fun b hb => eS b (by omega) (by omega) (by omega)), hR.eq (eI 91 (by omega) (by omega)) (eI 76 (by omega) (by omega)), SmO.z, fun _ c hc h5 => ?_, fun h9 => absurd h9 (by decide)⟩
  · exact ⟨by simp [u2], by simp [u2], hx1, hx2, hy1, hy2, by simp [u2]; rfl, by omega, by simp [u2]; exact hoc, by omega, by simp [u2]; exact huc, by omega, by simp [u2]; exact htd, htd4, hR13, hR62⟩
  · exact ⟨by simp [u2], by simp [u2], hx1, hx2, hy1, hy2, by simp [u2]; rfl, by omega, by simp [u2]; exact moc, by omega, by simp [u2]; exact muc, by omega, by simp [u2]; exact mtd, htd4, by simp [u2]; exact mmd, by simp [u2]; exact mop⟩
  · simp [rw5, hc]
  · simp [rw5, hc]
  · refine ⟨Or.inl (by simp [rw5, hc]), ⟨0, by omega, by simp [rw5, hc]; rfl⟩, fun _ => by simp [rw5, hc], fun _ => by simp [rw5, hc]⟩
  · exact absurd (by simp [rw5, hc]) h5
set_option maxHeartbeats 1600000 in
theorem s_field {t n : Nat} {d : D2} {I : M2} {J : J2} {S : M2} {L : J2} {R : R2} (h : Sim t n d I J S L R)  : Calls yX6_field cX6_field 1 (some .int) rmX6_field [.ref 0] n (H5 d I J S L R) (P2 t (fun n9 h9 Q9 => Calls yX7_field cX7_field 1 (some .int) rmX7_field [.ref 78] n9 h9 Q9)) := by
  obtain ⟨w, g, fc, oc, uc, td, md, op, oa, nc, ca, h⟩ := h
  obtain ⟨hB, hM, hO, hN, hX, ⟨hA, hT, hV⟩, hF, hP, hR, hOr, hL⟩ := id h
  obtain ⟨hw, hg, hw1, hw6, hg1, hg6, hfc, hfc2, hoc, hoc6, huc, huc5, htd, htd4, hR13, hR62⟩ := id hB
  obtain ⟨mw, mg, -, -, -, -, mfc, -, moc, -, muc, -, mtd, -, mmd, mop⟩ := id hM
  obtain ⟨hut, hmd, hop, hdone, hn, hLay⟩ := id hX
  refine t_field hB (fun h1 => ⟨_, rfl, ⟨_, o_X7 rfl⟩, m_field hM (fun _ => ⟨rfl, h.same⟩) (fun h3 => absurd h1 ((md_f hmd).mp h3)) (fun h3 => absurd h1 ((md_f hmd).mp h3))⟩) (fun h1 h2 => ⟨_, rfl, ⟨_, o_X7 rfl⟩, m_field hM (fun h3 => absurd ((md_t hmd).mp h3) h1) (fun _ _ => ⟨rfl, h.same⟩) (fun _ h3 => absurd h3 (by omega))⟩) (fun h1 h2 => ⟨_, rfl, ⟨_, o_X7 rfl⟩, m_field (hM.eq (fun j _ => by rw [u2_a _ _ _ _ (by omega), u2_a _ _ _ _ (by omega), u2_a _ _ _ _ (by omega)])) (fun h3 => absurd ((md_t hmd).mp h3) h1) (fun _ h3 => absurd h3 (by omega)) (fun _ _ => ⟨rfl, ?_⟩)⟩)
  obtain rfl : oc = 0 := by omega
  obtain rfl : uc = 0 := by omega
  have hopf := op_z hop
  subst hopf
  refine SM.sim (?_ : SM w g (fc + 1) 0 0 td (t + 1) md false oa nc ca n d _ _ _ _ _)
  have eS : ∀ b, b ≠ 0 → b ≠ 14 + 4 * fc → b ≠ 78 → u2 (u2 (u2 (u2 S (14 + 4 * fc) 0 (-1)) (14 + 4 * fc) 1 0) 0 3 (nI (fc + 1))) 78 7 (nI (fc + 1)) b = S b := fun b b0 b1 b78 => by rw [u2_row _ _ _ b78, u2_row _ _ _ b0, u2_row _ _ _ b1, u2_row _ _ _ b1]
  have eI : ∀ b, b ≠ 84 → b ≠ 85 → u2 (u2 I 84 fc (-1)) 85 fc 0 b = I b := fun b h2 h3 => by rw [u2_row _ _ _ h3, u2_row _ _ _ h2]
  have ez : ∀ j, u2 (u2 (u2 (u2 S (14 + 4 * fc) 0 (-1)) (14 + 4 * fc) 1 0) 0 3 (nI (fc + 1))) 78 7 (nI (fc + 1)) 0 j = if j = 3 then nI (fc + 1) else S 0 j := fun j => by
    rw [u2_a _ _ _ _ (by omega)]
    by_cases hj : j = 3
    · subst hj; rw [u2_s]; rfl
    · rw [u2_j _ _ _ _ hj, u2_a _ _ _ _ (by omega), u2_a _ _ _ _ (by omega), if_neg hj]
  have e1 : u2 (u2 (u2 (u2 S (14 + 4 * fc) 0 (-1)) (14 + 4 * fc) 1 0) 0 3 (nI (fc + 1))) 78 7 (nI (fc + 1)) 1 = S 1 := eS 1 (by omega) (by omega) (by omega)
  have e7 : ∀ j, u2 (u2 (u2 (u2 S (14 + 4 * fc) 0 (-1)) (14 + 4 * fc) 1 0) 0 3 (nI (fc + 1))) 78 7 (nI (fc + 1)) 78 j = if j = 7 then nI (fc + 1) else S 78 j := fun j => by
    by_cases hj : j = 7
    · subst hj; rw [u2_s]; rfl
    · rw [u2_j _ _ _ _ hj, u2_a _ _ _ _ (by omega), u2_a _ _ _ _ (by omega), u2_a _ _ _ _ (by omega), if_neg hj]
  refine ⟨(?_ : CB _ _ w g (fc + 1) 0 0 td), ?_, OrdB.z, OM.z, hX.z, ⟨hA.eq (fun b hb => eI b (by omega) (by omega)), hT.eq (eI 6 (by omega) (by omega)) (eI 83 (by omega) (by omega)), fun c hc => ?_⟩, fun f hf => ?_, hP.eq (fun b hb => eI b (by omega) (by omega)) (fun b hb => eS b (by omega) (by omega) (by omega)), hR.eq (eI 91 (by omega) (by omega)) (eI 76 (by omega) (by omega)), SmO.z, fun h9 c hc h5 => ?_, fun h9 => absurd h9 (by decide)⟩
  · unfold CB
    rw [e1, ez, ez, ez, ez]
    exact ⟨hw, hg, hw1, hw6, hg1, hg6, rfl, by omega, hoc, by omega, huc, by omega, htd, htd4, hR13, hR62⟩
  · unfold MB
    rw [e7, e7, e7, e7, e7, e7, e7, e7]
    exact ⟨mw, mg, hw1, hw6, hg1, hg6, rfl, by omega, moc, by omega, muc, by omega, mtd, htd4, mmd, mop⟩
  · rw [eI 2 (by omega) (by omega), eI 3 (by omega) (by omega), eI 4 (by omega) (by omega)]
    obtain ⟨v1, v2⟩ := hV c hc
    exact ⟨v1.imp id (fun ⟨f, hf, e⟩ => ⟨f, by omega, e⟩), v2⟩
  · by_cases hff : f = fc
    · subst hff
      refine ⟨?_, Or.inl ?_, 0, by omega, ?_, ?_, fun r hr => absurd hr (Nat.not_lt_zero r)⟩
      · rw [u2_a _ _ _ _ (by omega), u2_s, u2_a _ _ _ _ (by omega), u2_a _ _ _ _ (by omega), u2_j _ _ _ _ (by omega), u2_s]
      · rw [u2_a _ _ _ _ (by omega), u2_s]
      · rw [u2_a _ _ _ _ (by omega), u2_a _ _ _ _ (by omega), u2_s]; rfl
      · rw [u2_s]; rfl
    · have hf3 : f < fc := by omega
      obtain ⟨f1, f2, rc, f3, f4, f5, f6⟩ := hF f hf3
      rw [eS (14 + 4 * f) (by omega) (by omega) (by omega), u2_a _ _ _ _ (show (84 : Nat) ≠ 85 by omega), u2_j _ _ _ _ hff, u2_j _ _ _ _ hff, u2_a _ _ _ _ (show (85 : Nat) ≠ 84 by omega), eI 86 (by omega) (by omega), eI 87 (by omega) (by omega), eI _ (by omega) (by omega), eI _ (by omega) (by omega)]
      refine ⟨f1, f2, rc, f3, f4, f5, fun r hr => ?_⟩
      rw [dbM_eq (eI 87 (by omega) (by omega)) (eI 96 (by omega) (by omega)) rfl]
      exact f6 r hr
  · rw [eI 6 (by omega) (by omega)]
    exact hL.1 h9 c hc (by rw [← eI 5 (by omega) (by omega)]; exact h5)
theorem pdh_row (S : M2) (c : Int32) (i : Nat) {b : Nat} (h : ¬ (14 ≤ b ∧ b < 14 + 4 * i)) : pdh S c i b = S b := by funext k; exact pdh_at S c i h
theorem pdh_1 (S : M2) (c : Int32) (i : Nat) (b : Nat) {k : Nat} (hk : k ≠ 0) : pdh S c i b k = S b k := by
  simp only [pdh]
  rw [if_neg (fun h => hk h.2.1)]
theorem pdh_h (S : M2) (c : Int32) {f i : Nat} (hf : f < i) : pdh S c i (14 + 4 * f) 0 = if S (14 + 4 * f) 0 = c then -1 else S (14 + 4 * f) 0 := by
  simp only [pdh]
  by_cases h : S (14 + 4 * f) 0 = c
  · rw [if_pos ⟨⟨by omega, by omega, by omega⟩, trivial, h⟩, if_pos h]
  · rw [if_neg (fun h9 => h h9.2.2), if_neg h]
theorem SM.cell {w g fc td t : Nat} {md op : Bool} {oa nc : Nat → Nat} {ca : Nat → Nat → Nat} {n : Nat} {d : D2} {I I' : M2} {J : J2} {S : M2} {L : J2} {R : R2} (h : SM w g fc 0 0 td t md op oa nc ca n d I J S L R) {c : Nat} {f s l : Int32} (hcm : c % 16 < w ∧ c / 16 < g) (fo : f = -1 ∨ ∃ j, j < fc ∧ f = nI j) (so : ∃ k, k < 4 ∧ s = nI k) (lo : l ≠ 0 → f = -1)
    (e2 : ∀ x, I' 2 x = if x = c then f else I 2 x) (e79 : ∀ x, I' 79 x = if x = c then f else I 79 x) (e3 : ∀ x, I' 3 x = if x = c then s else I 3 x) (e80 : ∀ x, x < 256 → I' 80 x = if x = c then s else I 80 x) (e4 : ∀ x, I' 4 x = if x = c then l else I 4 x) (e81 : ∀ x, I' 81 x = if x = c then l else I 81 x) (e84 : ∀ q, q < fc → I' 84 q = if I 84 q = nI c then -1 else I 84 q) (eI : ∀ b, ¬ (2 ≤ b ∧ b ≤ 4) → ¬ (79 ≤ b ∧ b ≤ 81) → b ≠ 84 → I' b = I b) : SM w g fc 0 0 td (t + 1) md op oa nc ca n d I' J (pdh S (nI c) fc) L R := by
  obtain ⟨hB, hM, hO, hN, hX, ⟨hA, hT, hV⟩, hF, hP, hR, hOr, hL⟩ := h
  have hf12 := hB.2.2.2.2.2.2.2.1
  have eS : ∀ b, ¬ (14 ≤ b ∧ b < 62) → pdh S (nI c) fc b = S b := fun b hb => pdh_row S _ _ (by omega)
  refine ⟨hB.eq (eS 0 (by omega)) (eS 1 (by omega)), hM.eq (fun j _ => by rw [eS 78 (by omega)]), OrdB.z, OM.z, hX.z, ⟨fun x hx => ?_, hT.eq (eI 6 (by omega) (by omega) (by omega)) (eI 83 (by omega) (by omega) (by omega)), fun x hx => ?_⟩, fun q hq => ?_, hP.eq (fun b hb => eI b (by omega) (by omega) (by omega)) (fun b hb => eS b (by omega)), hR.eq (eI 91 (by omega) (by omega) (by omega)) (eI 76 (by omega) (by omega) (by omega)), SmO.z, fun h9 x hx h5 => ?_, fun h9 => ?_⟩
  · rw [e2, e79, e3, e80 x hx, e4, e81, eI 82 (by omega) (by omega) (by omega), eI 5 (by omega) (by omega) (by omega)]
    by_cases hxc : x = c
    · rw [if_pos hxc, if_pos hxc, if_pos hxc, if_pos hxc, if_pos hxc, if_pos hxc]
      exact ⟨rfl, rfl, rfl, (hA x hx).2.2.2⟩
    · rw [if_neg hxc, if_neg hxc, if_neg hxc, if_neg hxc, if_neg hxc, if_neg hxc]
      exact hA x hx
  · rw [e2, e3, e4]
    by_cases hxc : x = c
    · rw [if_pos hxc, if_pos hxc, if_pos hxc, hxc]
      exact ⟨fo, so, lo, fun h9 => absurd h9 (by omega)⟩
    · rw [if_neg hxc, if_neg hxc, if_neg hxc]
      exact hV x hx
  · obtain ⟨f1, f2, rc, f3, f4, f5, f6⟩ := hF q hq
    rw [e84 q hq, pdh_h S _ hq, pdh_1 S _ _ _ (by decide), eI 85 (by omega) (by omega) (by omega), eI 86 (by omega) (by omega) (by omega), eI 87 (by omega) (by omega) (by omega), eI (14 + 4 * q + 1) (by omega) (by omega) (by omega), eI (14 + 4 * q + 2) (by omega) (by omega) (by omega), ← f1]
    refine ⟨rfl, ?_, rc, f3, f4, f5, fun r hr => ?_⟩
    · split
      · exact Or.inl rfl
      · exact f2
    · rw [dbM_eq (eI 87 (by omega) (by omega) (by omega)) (eI 96 (by omega) (by omega) (by omega)) rfl]
      exact f6 r hr
  · rw [eI 6 (by omega) (by omega) (by omega)]
    exact hL.1 h9 x hx (by rw [← eI 5 (by omega) (by omega) (by omega)]; exact h5)
  · rw [op_z hX.2.2.1] at h9; cases h9
set_option maxHeartbeats 1600000 in
theorem s_cell {t n : Nat} {d : D2} {I : M2} {J : J2} {S : M2} {L : J2} {R : R2} (h : Sim t n d I J S L R) {x y f s : Int32} : Calls yX6_cell cX6_cell 6 (some .int) rmX6_cell [.ref 0, .int x, .int y, .int f, .int s] n (H5 d I J S L R) (P2 t (fun n9 h9 Q9 => Calls yX7_cell cX7_cell 6 (some .int) rmX7_cell [.ref 78, .int x, .int y, .int f, .int s] n9 h9 Q9)) := by
  obtain ⟨w, g, fc, oc, uc, td, md, op, oa, nc, ca, h⟩ := h
  obtain ⟨hB, hM, hO, hN, hX, ⟨hA, hT, hV⟩, hF, hP, hR, hOr, hL⟩ := id h
  obtain ⟨hw, hg, hw1, hw6, hg1, hg6, hfc, hfc2, hoc, hoc6, huc, huc5, htd, htd4, hR13, hR62⟩ := id hB
  obtain ⟨mw, mg, -, -, -, -, mfc, -, moc, -, muc, -, mtd, -, mmd, mop⟩ := id hM
  obtain ⟨hut, hmd, hop, hdone, hn, hLay⟩ := id hX
  refine t_cell hB (fun h1 => ⟨_, rfl, ⟨_, o_X7 rfl⟩, m_cell hM (fun _ => ⟨rfl, h.same⟩) (fun c h2 h3 => ?_) (fun c h2 h3 => ?_) (fun c h2 h3 => ?_)⟩) (fun c h1 h2 h3 => ⟨_, rfl, ⟨_, o_X7 rfl⟩, m_cell hM (fun h4 => ?_) (fun _ _ _ _ => ⟨rfl, h.same⟩) (fun _ _ _ h4 => absurd h4 h3) (fun _ _ _ h4 => absurd h4 h3)⟩) (fun c h1 h2 h3 h4 => ⟨_, rfl, ⟨_, o_X7 rfl⟩, m_cell hM (fun h5 => ?_) (fun _ _ _ h5 => absurd h3 h5) (fun _ _ _ _ _ => ⟨rfl, h.same⟩) (fun _ _ _ _ h5 => absurd h4 ((md_f hmd).mp h5))⟩) (fun c h1 h2 h3 h4 => ⟨_, rfl, ⟨_, o_X7 rfl⟩, m_cell (hM.eq (fun j _ => by rw [pdh_at _ _ _ (by omega)])) (fun h5 => ?_) (fun _ _ _ h5 => absurd h3 h5) (fun _ _ _ _ h5 => absurd ((md_t hmd).mp h5) h4) (fun c2 h5 _ _ _ => ⟨rfl, ?_⟩)⟩)
  · rcases h1 with h1 | ⟨g1, g2⟩
    · rw [h1] at h2; cases h2
    · exact absurd h3 (fun h9 => h9.elim g1 g2)
  · rcases h1 with h1 | ⟨g1, g2⟩
    · rw [h1] at h2; cases h2
    · exact absurd h3 (fun h9 => h9.elim g1 g2)
  · rcases h1 with h1 | ⟨g1, g2⟩
    · rw [h1] at h2; cases h2
    · exact absurd h3 (fun h9 => h9.elim g1 g2)
  · rcases h4 with h4 | ⟨g1, g2⟩
    · rw [h1] at h4; cases h4
    · exact absurd h2 (fun h9 => h9.elim g1 g2)
  · rcases h5 with h5 | ⟨g1, g2⟩
    · rw [h1] at h5; cases h5
    · exact absurd h2 (fun h9 => h9.elim g1 g2)
  · rcases h5 with h5 | ⟨g1, g2⟩
    · rw [h1] at h5; cases h5
    · exact absurd h2 (fun h9 => h9.elim g1 g2)
  · rw [h1] at h5
    cases h5
    obtain rfl : oc = 0 := by omega
    obtain rfl : uc = 0 := by omega
    refine SM.sim (h.cell (I' := _) (c := c) (f := f) (s := s) (l := 0) (plc_map hw6 h1) (h2.imp id fok_n) ?_ (fun h9 => absurd rfl h9) (fun x => ?_) (fun x => ?_) (fun x => ?_) (fun x _ => ?_) (fun x => ?_) (fun x => ?_) (fun q hq => ?_) (fun b h6 h7 h8 => ?_))
    · exact ⟨s.toInt.toNat, by omega, i_eq (by omega)⟩
    · simp [rowU, u2]
    · simp [rowU, u2]
    · simp [rowU, u2]
    · simp [rowU, u2]
    · simp [rowU, u2]
    · simp [rowU, u2]
    · rw [rowU_in _ _ _ hq]
      simp [u2]
    · rw [rowU_ne _ _ _ h8, u2_row _ _ _ (by omega), u2_row _ _ _ (by omega), u2_row _ _ _ (by omega), u2_row _ _ _ (by omega), u2_row _ _ _ (by omega), u2_row _ _ _ (by omega)]
set_option maxHeartbeats 1600000 in
theorem s_lane {t n : Nat} {d : D2} {I : M2} {J : J2} {S : M2} {L : J2} {R : R2} (h : Sim t n d I J S L R) {x y : Int32} : Calls yX6_lane cX6_lane 4 (some .int) rmX6_lane [.ref 0, .int x, .int y] n (H5 d I J S L R) (P2 t (fun n9 h9 Q9 => Calls yX7_lane cX7_lane 4 (some .int) rmX7_lane [.ref 78, .int x, .int y] n9 h9 Q9)) := by
  obtain ⟨w, g, fc, oc, uc, td, md, op, oa, nc, ca, h⟩ := h
  obtain ⟨hB, hM, hO, hN, hX, ⟨hA, hT, hV⟩, hF, hP, hR, hOr, hL⟩ := id h
  obtain ⟨hw, hg, hw1, hw6, hg1, hg6, hfc, hfc2, hoc, hoc6, huc, huc5, htd, htd4, hR13, hR62⟩ := id hB
  obtain ⟨mw, mg, -, -, -, -, mfc, -, moc, -, muc, -, mtd, -, mmd, mop⟩ := id hM
  obtain ⟨hut, hmd, hop, hdone, hn, hLay⟩ := id hX
  refine t_lane hB (fun h1 => ⟨_, rfl, ⟨_, o_X7 rfl⟩, m_lane hM (fun _ => ⟨rfl, h.same⟩) (fun c h2 => by rw [h1] at h2; cases h2) (fun c h2 => by rw [h1] at h2; cases h2)⟩) (fun c h1 h2 => ⟨_, rfl, ⟨_, o_X7 rfl⟩, m_lane hM (fun h3 => by rw [h1] at h3; cases h3) (fun _ _ _ => ⟨rfl, h.same⟩) (fun _ _ h3 => absurd h2 ((md_f hmd).mp h3))⟩) (fun c h1 h2 => ⟨_, rfl, ⟨_, o_X7 rfl⟩, m_lane (hM.eq (fun j _ => by rw [pdh_at _ _ _ (by omega)])) (fun h3 => by rw [h1] at h3; cases h3) (fun _ _ h3 => absurd ((md_t hmd).mp h3) h2) (fun c2 h5 _ => ⟨rfl, ?_⟩)⟩)
  rw [h1] at h5
  cases h5
  obtain rfl : oc = 0 := by omega
  obtain rfl : uc = 0 := by omega
  have hc6 := plc_lt hw6 hg6 h1
  refine SM.sim (h.cell (I' := _) (c := c) (f := -1) (s := I 3 c) (l := 1) (plc_map hw6 h1) (Or.inl rfl) (hV c hc6).2.1 (fun _ => rfl) (fun x => ?_) (fun x => ?_) (fun x => ?_) (fun x hx => ?_) (fun x => ?_) (fun x => ?_) (fun q hq => ?_) (fun b h6 h7 h8 => ?_))
  · simp [rowU, u2]
  · simp [rowU, u2]
  · by_cases hxc : x = c
    · subst hxc; simp [rowU, u2]
    · simp [rowU, u2, hxc]
  · by_cases hxc : x = c
    · subst hxc; simp [rowU, u2]; exact (hA x hx).2.1
    · simp [rowU, u2, hxc]
  · simp [rowU, u2]
  · simp [rowU, u2]
  · rw [rowU_in _ _ _ hq]
    simp [u2]
  · rw [rowU_ne _ _ _ h8, u2_row _ _ _ (by omega), u2_row _ _ _ (by omega), u2_row _ _ _ (by omega), u2_row _ _ _ (by omega)]
set_option maxHeartbeats 1600000 in
theorem s_house {t n : Nat} {d : D2} {I : M2} {J : J2} {S : M2} {L : J2} {R : R2} (h : Sim t n d I J S L R) {f x y : Int32} : Calls yX6_house cX6_house 5 (some .int) rmX6_house [.ref 0, .int f, .int x, .int y] n (H5 d I J S L R) (P2 t (fun n9 h9 Q9 => Calls yX7_house cX7_house 4 (some .int) rmX7_house [.ref 78, .int f, .int x, .int y] n9 h9 Q9)) := by
  obtain ⟨w, g, fc, oc, uc, td, md, op, oa, nc, ca, h⟩ := h
  obtain ⟨hB, hM, hO, hN, hX, ⟨hA, hT, hV⟩, hF, hP, hR, hOr, hL⟩ := id h
  obtain ⟨hw, hg, hw1, hw6, hg1, hg6, hfc, hfc2, hoc, hoc6, huc, huc5, htd, htd4, hR13, hR62⟩ := id hB
  obtain ⟨mw, mg, -, -, -, -, mfc, -, moc, -, muc, -, mtd, -, mmd, mop⟩ := id hM
  obtain ⟨hut, hmd, hop, hdone, hn, hLay⟩ := id hX
  refine t_house hB (fun h1 => ⟨_, rfl, ⟨_, o_X7 rfl⟩, m_house hM (fun _ => ⟨rfl, h.same⟩) (fun c h2 h3 => ?_) (fun c h2 h3 => ?_) (fun c j h2 h3 h4 => ?_)⟩) (fun c h1 h2 h3 => ⟨_, rfl, ⟨_, o_X7 rfl⟩, m_house hM (fun h4 => ?_) (fun _ _ _ _ => ⟨rfl, h.same⟩) (fun c2 h4 _ h5 => ?_) (fun c2 j h4 _ _ h5 => ?_)⟩) (fun c h1 h2 h3 h4 => ⟨_, rfl, ⟨_, o_X7 rfl⟩, m_house hM (fun h5 => ?_) (fun c2 h5 _ h6 => ?_) (fun _ _ _ _ _ => ⟨rfl, h.same⟩) (fun _ _ _ _ _ _ h5 => absurd h4 ((md_f hmd).mp h5))⟩) (fun c j h1 hfj hj h3 h4 => ⟨_, rfl, ⟨_, o_X7 rfl⟩, m_house (hM.eq (fun j9 _ => by rw [u2_a _ _ _ _ (by omega)])) (fun h5 => ?_) (fun c2 h5 _ h6 => ?_) (fun _ _ _ _ h5 => absurd ((md_t hmd).mp h5) h4) (fun c2 j2 h5 h6 h7 _ _ => ⟨rfl, ?_⟩)⟩)
  · rcases h1 with h1 | h1
    · exact absurd h3 h1
    · rw [h1] at h2; cases h2
  · rcases h1 with h1 | h1
    · exact absurd h3 h1
    · rw [h1] at h2; cases h2
  · rcases h1 with h1 | h1
    · subst h3; exact absurd (n_fok h4 hfc2) h1
    · rw [h1] at h2; cases h2
  · rcases h4 with h4 | h4
    · exact absurd h2 h4
    · rw [h1] at h4; cases h4
  · rw [h1] at h4; cases h4
    rw [(hA c (plc_lt hw6 hg6 h1)).1] at h5
    exact absurd h5 h3
  · rw [h1] at h4; cases h4
    rw [(hA c (plc_lt hw6 hg6 h1)).1] at h5
    exact absurd h5 h3
  · rcases h5 with h5 | h5
    · exact absurd h2 h5
    · rw [h1] at h5; cases h5
  · rw [h1] at h5; cases h5
    rw [(hA c (plc_lt hw6 hg6 h1)).1] at h6
    exact absurd h3 h6
  · rcases h5 with h5 | h5
    · subst hfj; exact absurd (n_fok hj hfc2) h5
    · rw [h1] at h5; cases h5
  · rw [h1] at h5; cases h5
    rw [(hA c (plc_lt hw6 hg6 h1)).1] at h6
    exact absurd h3 h6
  · rw [h1] at h5; cases h5
    have hc6 := plc_lt hw6 hg6 h1
    subst hfj
    obtain rfl : j = j2 := (nI_eq (by omega) (by omega)).mp h6
    have eS : ∀ b, b ≠ 14 + 4 * j → u2 S (14 + 4 * j) 0 (nI c) b = S b := fun b hb => u2_row _ _ _ hb
    have eS2 : ∀ b, 115 ≤ b → u2 S (14 + 4 * j) 0 (nI c) b 2 = S b 2 := fun b hb => by rw [eS b (by omega)]
    have eI : ∀ b, b ≠ 84 → u2 I 84 j (nI c) b = I b := fun b hb => u2_row _ _ _ hb
    refine SM.sim (?_ : SM w g fc oc uc td (t + 1) md op oa nc ca n d _ _ _ _ _)
    refine ⟨hB.eq (eS 0 (by omega)) (eS 1 (by omega)), hM.eq (fun j9 _ => by rw [eS 78 (by omega)]), hO.eq2 eS2, hN.eq (eI 94 (by omega)), hX.eq hO eS2, ⟨hA.eq (fun b hb => eI b (by omega)), hT.eq (eI 6 (by omega)) (eI 83 (by omega)), hV.eq (eI 2 (by omega)) (eI 3 (by omega)) (eI 4 (by omega))⟩, fun q hq => ?_, hP.eq (fun b hb => eI b (by omega)) (fun b hb => eS b (by omega)), hR.eq (eI 91 (by omega)) (eI 76 (by omega)), hOr.eq hO (fun b hb => eI b (by omega)) (fun _ _ => rfl) (fun b hb => eS b (by omega)) (fun _ _ => rfl), hL.eq (fun h9 => (hop.mp h9).1) hO (fun b hb => eI b (by omega)) (fun b hb => eS b (by omega))⟩
    obtain ⟨f1, f2, rc, f3, f4, f5, f6⟩ := hF q hq
    rw [eI 85 (by omega), eI 86 (by omega), eI 87 (by omega), eI (14 + 4 * q + 1) (by omega), eI (14 + 4 * q + 2) (by omega), u2_j _ _ _ _ (show (1 : Nat) ≠ 0 by omega)]
    have f7 : ∀ r, r < rc → I 86 (4 * q + r) = I (14 + 4 * q + 1) r ∧ I 87 (4 * q + r) = I (14 + 4 * q + 2) r ∧ (I 86 (4 * q + r) = 1 ∨ I 86 (4 * q + r) = 2) ∧ (I 86 (4 * q + r) = 1 → J (14 + 4 * q + 3) r = dbM (u2 I 84 j (nI c)) J oc nc q r) := fun r hr => by
      rw [dbM_eq (eI 87 (by omega)) (eI 96 (by omega)) rfl]
      exact f6 r hr
    by_cases hqj : q = j
    · subst hqj
      rw [u2_s, u2_s]
      exact ⟨rfl, Or.inr ⟨c, hc6, rfl⟩, rc, f3, f4, f5, f7⟩
    · rw [u2_j _ _ _ _ hqj, u2_a _ _ _ _ (show 14 + 4 * q ≠ 14 + 4 * j by omega)]
      exact ⟨f1, f2, rc, f3, f4, f5, f7⟩
set_option maxHeartbeats 1600000 in
theorem s_right {t n : Nat} {d : D2} {I : M2} {J : J2} {S : M2} {L : J2} {R : R2} (h : Sim t n d I J S L R) {f k a : Int32} : Calls yX6_right cX6_right 4 (some .int) rmX6_right [.ref 0, .int f, .int k, .int a] n (H5 d I J S L R) (P2 t (fun n9 h9 Q9 => Calls yX7_right cX7_right 4 (some .int) rmX7_right [.ref 78, .int f, .int k, .int a] n9 h9 Q9)) := by
  obtain ⟨w, g, fc, oc, uc, td, md, op, oa, nc, ca, h⟩ := h
  obtain ⟨hB, hM, hO, hN, hX, ⟨hA, hT, hV⟩, hF, hP, hR, hOr, hL⟩ := id h
  obtain ⟨hw, hg, hw1, hw6, hg1, hg6, hfc, hfc2, hoc, hoc6, huc, huc5, htd, htd4, hR13, hR62⟩ := id hB
  obtain ⟨mw, mg, -, -, -, -, mfc, -, moc, -, muc, -, mtd, -, mmd, mop⟩ := id hM
  obtain ⟨hut, hmd, hop, hdone, hn, hLay⟩ := id hX
  have hrcC : ∀ j, j < fc → ∃ rc, rc ≤ 4 ∧ S (14 + 4 * j) 1 = nI rc := fun j hj => by
    obtain ⟨-, -, rc, f3, f4, -⟩ := hF j hj
    exact ⟨rc, f3, f4⟩
  have hrcM : ∀ j, j < fc → ∃ rc, rc ≤ 4 ∧ I 85 j = nI rc := fun j hj => by
    obtain ⟨-, -, rc, f3, -, f5, -⟩ := hF j hj
    exact ⟨rc, f3, f5⟩
  have hrr : ∀ j rc rc', j < fc → S (14 + 4 * j) 1 = nI rc → I 85 j = nI rc' → nI rc = nI rc' := fun j rc rc' hj e1 e2 => by
    obtain ⟨-, -, rc0, f3, f4, f5, -⟩ := hF j hj
    rw [← e1, ← e2, f4, f5]
  refine t_right hB hrcC (fun h1 => ⟨_, rfl, ⟨_, o_X7 rfl⟩, m_right hM hrcM (fun _ => ⟨rfl, h.same⟩) (fun h2 => absurd h2 h1) (fun h2 => absurd h2 h1) (fun j rc h2 h3 => absurd (h2 ▸ n_fok h3 hfc2) h1) (fun j rc h2 h3 => absurd (h2 ▸ n_fok h3 hfc2) h1)⟩) (fun h1 h2 => ⟨_, rfl, ⟨_, o_X7 rfl⟩, m_right hM hrcM (fun h3 => absurd h1 h3) (fun _ _ => ⟨rfl, h.same⟩) (fun _ h3 => absurd h3 h2) (fun _ _ _ _ _ _ h3 => absurd h3 h2) (fun _ _ _ _ _ _ h3 => absurd h3 h2)⟩) (fun h1 h2 h3 => ⟨_, rfl, ⟨_, o_X7 rfl⟩, m_right hM hrcM (fun h4 => absurd h1 h4) (fun _ h4 => absurd h2 h4) (fun _ _ _ => ⟨rfl, h.same⟩) (fun _ _ _ _ _ _ _ h4 => absurd h3 ((md_f hmd).mp h4)) (fun _ _ _ _ _ _ _ h4 => absurd h3 ((md_f hmd).mp h4))⟩) (fun j rc hj1 hj2 hj3 hj4 h2 h3 => ⟨_, rfl, ⟨_, o_X7 rfl⟩, m_right hM hrcM (fun h4 => absurd (hj1 ▸ n_fok hj2 hfc2) h4) (fun _ h4 => absurd h2 h4) (fun _ _ h4 => absurd ((md_t hmd).mp h4) h3) (fun _ _ _ _ _ _ _ _ => ⟨rfl, h.same⟩) (fun j2 rc2 h4 h5 h6 h7 _ _ => ?_)⟩) (fun j rc hj1 hj2 hj3 hj4 h2 h3 => ⟨_, rfl, ⟨_, o_X7 rfl⟩, m_right (hM.eq (fun j9 _ => by rw [u2_a _ _ _ _ (by omega)])) ?_ (fun h4 => absurd (hj1 ▸ n_fok hj2 hfc2) h4) (fun _ h4 => absurd h2 h4) (fun _ _ h4 => absurd ((md_t hmd).mp h4) h3) (fun j2 rc2 h4 h5 h6 h7 _ _ => ?_) (fun j2 rc2 h4 h5 h6 h7 _ _ => ?_)⟩)
  · subst hj1
    obtain rfl : j = j2 := (nI_eq (by omega) (by omega)).mp h4
    have e9 := (nI_eq (by omega) (by omega)).mp (hrr j rc rc2 hj2 hj3 h6)
    omega
  · intro q hq
    rw [u2_row _ _ _ (by omega), u2_row _ _ _ (by omega)]
    exact hrcM q hq
  · subst hj1
    obtain rfl : j = j2 := (nI_eq (by omega) (by omega)).mp h4
    rw [u2_row _ _ _ (by omega), u2_row _ _ _ (by omega)] at h6
    have e9 := (nI_eq (by omega) (by omega)).mp (hrr j rc rc2 hj2 hj3 h6)
    omega
  · subst hj1
    obtain rfl : j = j2 := (nI_eq (by omega) (by omega)).mp h4
    rw [u2_row _ _ _ (by omega), u2_row _ _ _ (by omega)] at h6
    obtain rfl : rc = rc2 := (nI_eq (by omega) (by omega)).mp (hrr j rc rc2 hj2 hj3 h6)
    refine ⟨rfl, SM.sim (?_ : SM w g fc oc uc td (t + 1) md op oa nc ca n d _ _ _ _ _)⟩
    obtain rfl : oc = 0 := by omega
    obtain rfl : uc = 0 := by omega
    have eS : ∀ b, b ≠ 14 + 4 * j → u2 S (14 + 4 * j) 1 (nI (rc + 1)) b = S b := fun b hb => u2_row _ _ _ hb
    have eI : ∀ b, b ≠ 14 + 4 * j + 1 → b ≠ 14 + 4 * j + 2 → ¬ (85 ≤ b ∧ b ≤ 87) → u2 (u2 (u2 (u2 (u2 I (14 + 4 * j + 1) rc k) (14 + 4 * j + 2) rc a) 86 (4 * j + rc) k) 87 (4 * j + rc) a) 85 j (nI (rc + 1)) b = I b := fun b h8 h9 h10 => by rw [u2_row _ _ _ (by omega), u2_row _ _ _ (by omega), u2_row _ _ _ (by omega), u2_row _ _ _ h9, u2_row _ _ _ h8]
    refine ⟨hB.eq (eS 0 (by omega)) (eS 1 (by omega)), hM.eq (fun j9 _ => by rw [eS 78 (by omega)]), OrdB.z, OM.z, hX.z, ⟨hA.eq (fun b hb => eI b (by omega) (by omega) (by omega)), hT.eq (eI 6 (by omega) (by omega) (by omega)) (eI 83 (by omega) (by omega) (by omega)), hV.eq (eI 2 (by omega) (by omega) (by omega)) (eI 3 (by omega) (by omega) (by omega)) (eI 4 (by omega) (by omega) (by omega))⟩, fun q hq => ?_, hP.eq (fun b hb => eI b (by omega) (by omega) (by omega)) (fun b hb => eS b (by omega)), hR.eq (eI 91 (by omega) (by omega) (by omega)) (eI 76 (by omega) (by omega) (by omega)), SmO.z, fun h9 x hx h5 => ?_, fun h9 => ?_⟩
    · obtain ⟨f1, f2, rc9, f3, f4, f5, f6⟩ := hF q hq
      rw [eI 84 (by omega) (by omega) (by omega), u2_j _ _ _ _ (show (0 : Nat) ≠ 1 by omega)]
      by_cases hqj : q = j
      · subst hqj
        obtain rfl : rc = rc9 := (nI_eq (by omega) (by omega)).mp (hj3.symm.trans f4)
        refine ⟨f1, f2, rc + 1, by omega, by rw [u2_s], by rw [u2_s], fun r hr => ?_⟩
        have x86 : ∀ r, u2 (u2 (u2 (u2 (u2 I (14 + 4 * q + 1) rc k) (14 + 4 * q + 2) rc a) 86 (4 * q + rc) k) 87 (4 * q + rc) a) 85 q (nI (rc + 1)) 86 (4 * q + r) = if r = rc then k else I 86 (4 * q + r) := fun r => by
          rw [u2_a _ _ _ _ (by omega), u2_a _ _ _ _ (by omega)]
          by_cases h8 : r = rc
          · subst h8; rw [u2_s, if_pos rfl]
          · rw [u2_j _ _ _ _ (by omega), u2_a _ _ _ _ (by omega), u2_a _ _ _ _ (by omega), if_neg h8]
        have x87 : ∀ r, u2 (u2 (u2 (u2 (u2 I (14 + 4 * q + 1) rc k) (14 + 4 * q + 2) rc a) 86 (4 * q + rc) k) 87 (4 * q + rc) a) 85 q (nI (rc + 1)) 87 (4 * q + r) = if r = rc then a else I 87 (4 * q + r) := fun r => by
          rw [u2_a _ _ _ _ (by omega)]
          by_cases h8 : r = rc
          · subst h8; rw [u2_s, if_pos rfl]
          · rw [u2_j _ _ _ _ (by omega), u2_a _ _ _ _ (by omega), u2_a _ _ _ _ (by omega), u2_a _ _ _ _ (by omega), if_neg h8]
        have y1 : ∀ r, u2 (u2 (u2 (u2 (u2 I (14 + 4 * q + 1) rc k) (14 + 4 * q + 2) rc a) 86 (4 * q + rc) k) 87 (4 * q + rc) a) 85 q (nI (rc + 1)) (14 + 4 * q + 1) r = if r = rc then k else I (14 + 4 * q + 1) r := fun r => by
          rw [u2_a _ _ _ _ (by omega), u2_a _ _ _ _ (by omega), u2_a _ _ _ _ (by omega), u2_a _ _ _ _ (by omega)]
          by_cases h8 : r = rc
          · subst h8; rw [u2_s, if_pos rfl]
          · rw [u2_j _ _ _ _ (by omega), if_neg h8]
        have y2 : ∀ r, u2 (u2 (u2 (u2 (u2 I (14 + 4 * q + 1) rc k) (14 + 4 * q + 2) rc a) 86 (4 * q + rc) k) 87 (4 * q + rc) a) 85 q (nI (rc + 1)) (14 + 4 * q + 2) r = if r = rc then a else I (14 + 4 * q + 2) r := fun r => by
          rw [u2_a _ _ _ _ (by omega), u2_a _ _ _ _ (by omega), u2_a _ _ _ _ (by omega)]
          by_cases h8 : r = rc
          · subst h8; rw [u2_s, if_pos rfl]
          · rw [u2_j _ _ _ _ (by omega), u2_a _ _ _ _ (by omega), if_neg h8]
        unfold dbM
        rw [x86, x87, y1, y2]
        by_cases h8 : r = rc
        · rw [if_pos h8, if_pos h8, if_pos h8, if_pos h8]
          refine ⟨rfl, rfl, ?_, fun _ => ?_⟩
          · rcases h2 with h2 | h2
            · exact Or.inl (i_eq (k := 1) (by omega))
            · exact Or.inr (i_eq (k := 2) (by omega))
          · rw [h8, u2_s]
            show a.toInt64 = a.toInt64 - 0
            rw [Int64.sub_zero]
        · rw [if_neg h8, if_neg h8, if_neg h8, if_neg h8, u2_j _ _ _ _ h8]
          exact f6 r (by omega)
      · have z86 : ∀ r, r < 4 → u2 (u2 (u2 (u2 (u2 I (14 + 4 * j + 1) rc k) (14 + 4 * j + 2) rc a) 86 (4 * j + rc) k) 87 (4 * j + rc) a) 85 j (nI (rc + 1)) 86 (4 * q + r) = I 86 (4 * q + r) := fun r hr => by rw [u2_a _ _ _ _ (by omega), u2_a _ _ _ _ (by omega), u2_j _ _ _ _ (by omega), u2_a _ _ _ _ (by omega), u2_a _ _ _ _ (by omega)]
        have z87 : ∀ r, r < 4 → u2 (u2 (u2 (u2 (u2 I (14 + 4 * j + 1) rc k) (14 + 4 * j + 2) rc a) 86 (4 * j + rc) k) 87 (4 * j + rc) a) 85 j (nI (rc + 1)) 87 (4 * q + r) = I 87 (4 * q + r) := fun r hr => by rw [u2_a _ _ _ _ (by omega), u2_j _ _ _ _ (by omega), u2_a _ _ _ _ (by omega), u2_a _ _ _ _ (by omega), u2_a _ _ _ _ (by omega)]
        rw [eS (14 + 4 * q) (by omega), u2_j _ _ _ _ hqj, u2_a _ _ _ _ (show (85 : Nat) ≠ 87 by omega), u2_a _ _ _ _ (show (85 : Nat) ≠ 86 by omega), u2_a _ _ _ _ (show (85 : Nat) ≠ 14 + 4 * j + 2 by omega), u2_a _ _ _ _ (show (85 : Nat) ≠ 14 + 4 * j + 1 by omega), eI (14 + 4 * q + 1) (by omega) (by omega) (by omega), eI (14 + 4 * q + 2) (by omega) (by omega) (by omega)]
        refine ⟨f1, f2, rc9, f3, f4, f5, fun r hr => ?_⟩
        unfold dbM
        rw [z86 r (by omega), z87 r (by omega), u2_a _ _ _ _ (show 14 + 4 * q + 3 ≠ 14 + 4 * j + 3 by omega)]
        exact f6 r hr
    · rw [eI 6 (by omega) (by omega) (by omega)]
      exact hL.1 h9 x hx (by rw [← eI 5 (by omega) (by omega) (by omega)]; exact h5)
    · rw [op_z hX.2.2.1] at h9; cases h9
theorem fndI_hit (f : Nat → Int32) (x : Int32) : ∀ k i, fndI f x k i < i + k → f (fndI f x k i) = x := by
  intro k
  induction k with
  | zero => intro i h; simp [fndI] at h
  | succ k ih =>
    intro i h
    unfold fndI at h ⊢
    split
    · rename_i h9; exact h9
    · rename_i h9
      rw [if_neg h9] at h
      exact ih (i + 1) (by omega)
