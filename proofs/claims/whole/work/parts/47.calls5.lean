theorem dvS_op {V : Nat → Bool} {A : Nat → Nat → Prop} {o o' : Nat → Bool} (h : ∀ a b, A a b → o b = o' b) : ∀ c, dvS V A o c = dvS V A o' c := by
  intro c
  induction c with
  | zero => rfl
  | succ c ih =>
    by_cases hc : V c = true ∧ (dvS V A o' c).2.1 c = none
    · have e : ∀ P : Nat → Prop, (∃ x b, P x ∧ A x b ∧ o b = true) = (∃ x b, P x ∧ A x b ∧ o' b = true) := fun P => propext ⟨fun ⟨x, b, h1, h2, h3⟩ => ⟨x, b, h1, h2, by rw [← h x b h2]; exact h3⟩, fun ⟨x, b, h1, h2, h3⟩ => ⟨x, b, h1, h2, by rw [h x b h2]; exact h3⟩⟩
      rw [dvS_new hc, dvS_new (by rw [ih]; exact hc), ih, e]
    · rw [dvS_skip hc, dvS_skip (by rw [ih]; exact hc), ih]
theorem nb_0 (w g a : Nat) : nbM w g a 0 = nbC w g a 3 := rfl
theorem nb_1 (w g a : Nat) : nbM w g a 1 = nbC w g a 1 := rfl
theorem nb_2 (w g a : Nat) : nbM w g a 2 = nbC w g a 0 := rfl
theorem nb_3 (w g a : Nat) : nbM w g a 3 = nbC w g a 2 := rfl
theorem ad_eq (w g : Nat) : adM w g = adC w g := by
  funext a b
  refine propext ⟨fun ⟨t, ht, e⟩ => ?_, fun ⟨t, ht, e⟩ => ?_⟩
  · have h4 : t = 0 ∨ t = 1 ∨ t = 2 ∨ t = 3 := by omega
    rcases h4 with h4 | h4 | h4 | h4
    · rw [h4, nb_0] at e; exact ⟨3, by omega, e⟩
    · rw [h4, nb_1] at e; exact ⟨1, by omega, e⟩
    · rw [h4, nb_2] at e; exact ⟨0, by omega, e⟩
    · rw [h4, nb_3] at e; exact ⟨2, by omega, e⟩
  · have h4 : t = 0 ∨ t = 1 ∨ t = 2 ∨ t = 3 := by omega
    rcases h4 with h4 | h4 | h4 | h4
    · rw [h4, ← nb_2] at e; exact ⟨2, by omega, e⟩
    · rw [h4, ← nb_1] at e; exact ⟨1, by omega, e⟩
    · rw [h4, ← nb_3] at e; exact ⟨3, by omega, e⟩
    · rw [h4, ← nb_0] at e; exact ⟨0, by omega, e⟩
theorem SmA.eq2 {I I' : M2} (h : SmA I) (e : ∀ b, (2 ≤ b ∧ b ≤ 5) ∨ (79 ≤ b ∧ b ≤ 82) → I' b = I b) : SmA I' := by
  unfold SmA at *
  rw [e 2 (by decide), e 3 (by decide), e 4 (by decide), e 5 (by decide), e 79 (by decide), e 80 (by decide), e 81 (by decide), e 82 (by decide)]
  exact h
theorem tk0 {I : M2} {oc : Nat} (hT : SmT I oc) (ho : oc ≤ 60) {c : Nat} (hc : c < 256) : (I 83 c == 0) = (I 6 c == -1) := by
  rcases hT c hc with ⟨h1, h2⟩ | ⟨o, h1, h2, h3⟩
  · rw [h1, h2]; rfl
  · rw [h2, h3]
    have e1 : (nI o == -1) = false := beq_eq_false_iff_ne.mpr (nI_m1 (by omega))
    have e2 : (nI (o + 1) == 0) = false := beq_eq_false_iff_ne.mpr (nI_ne0 (by omega) (by omega))
    rw [e1, e2]
theorem lft_kpt {I : M2} {oc : Nat} (hA : SmA I) (hT : SmT I oc) (ho : oc ≤ 60) {c : Nat} (hc : c < 256) (f : Int32) : lft I c f = kpt I c f := by
  unfold lft kpt
  rw [(hA c hc).1, tk0 hT ho hc]
theorem vl_vk {I : M2} {oc : Nat} (hA : SmA I) (hT : SmT I oc) (ho : oc ≤ 60) (f : Int32) : vl I f = vk I f := by
  funext x
  unfold vl vk
  by_cases hx : x < 256
  · rw [lft_kpt hA hT ho hx]
  · simp [hx]
theorem op_op {I : M2} {oc : Nat} (hA : SmA I) (hT : SmT I oc) (ho : oc ≤ 60) {c : Nat} (hc : c < 256) : opM I c = opl I c := by
  unfold opM opl
  rw [(hA c hc).2.2.1, tk0 hT ho hc]
theorem nbC_lt {w g : Nat} (hw : w ≤ 16) (hg : g ≤ 16) {c s b : Nat} (h : nbC w g c s = some b) : b < 256 := plc_lt hw hg h
theorem dv_eq {I : M2} {oc : Nat} (hA : SmA I) (hT : SmT I oc) (ho : oc ≤ 60) {w g : Nat} (hw : w ≤ 16) (hg : g ≤ 16) (f : Int32) : dvS (vl I f) (adM w g) (opM I) 256 = dvS (vk I f) (adC w g) (opl I) 256 := by
  rw [vl_vk hA hT ho, ad_eq]
  exact dvS_op (fun a b ⟨t, _, e⟩ => op_op hA hT ho (nbC_lt hw hg e)) 256
theorem hlane_of {I : M2} {w g fc : Nat} (hV : SmV I w g fc) : ∀ j b, j < 12 → b < 256 → opl I b = true → kpt I b (nI j) = false := fun j b hj hb h => by
  unfold opl at h
  unfold kpt
  have h8 : I 4 b ≠ 0 := fun e => by rw [e] at h; simp at h
  have h7 : ¬ (-1 : Int32) = nI j := fun e => nI_m1 (by omega) e.symm
  rw [(hV b hb).2.2.1 h8]
  simp [h7]
theorem hout_of {I : M2} {w g fc : Nat} (hA : SmA I) (hV : SmV I w g fc) : ∀ c, c < 256 → (w ≤ c % 16 ∨ g ≤ c / 16) → I 79 c = -1 := fun c hc h => (hA c hc).1.trans ((hV c hc).2.2.2 h)
theorem FR.at {I I1 : M2} {D : DV} (h : FR I I1 D) {b : Nat} (hb : ¬ (8 ≤ b ∧ b ≤ 12)) : I1 b = I b := h.1 b (by omega) (by omega) (by omega) (by omega) (by omega)
theorem MR.at {I I1 : M2} {D : DV} (h : MR I I1 D) {b : Nat} (hb : ¬ (110 ≤ b ∧ b ≤ 113)) : I1 b = I b := h.1 b (by omega) (by omega) (by omega) (by omega)
theorem bi_bi (b : Bool) : bi (bi b != 0) = bi b := by cases b <;> rfl
set_option maxHeartbeats 1600000 in
theorem s_pieces {t n : Nat} {d : D2} {I : M2} {J : J2} {S : M2} {L : J2} {R : R2} (h : Sim t n d I J S L R) {f : Int32} : Calls yX6_pieces cX6_pieces 2 (some .int) rmX6_pieces [.ref 0, .int f] n (H5 d I J S L R) (P2 t (fun n9 h9 Q9 => Calls yX7_pieces cX7_pieces 2 (some .int) rmX7_pieces [.ref 78, .int f] n9 h9 Q9)) := by
  obtain ⟨w, g, fc, oc, uc, td, md, op, oa, nc, ca, h⟩ := h
  obtain ⟨hB, hM, hO, hN, hX, ⟨hA, hT, hV⟩, hF, hP, hR, hOr, hL⟩ := id h
  obtain ⟨hw, hg, hw1, hw6, hg1, hg6, hfc, hfc2, hoc, hoc6, huc, huc5, htd, htd4, hR13, hR62⟩ := id hB
  obtain ⟨mw, mg, -, -, -, -, mfc, -, moc, -, muc, -, mtd, -, mmd, mop⟩ := id hM
  obtain ⟨hut, hmd, hop, hdone, hn, hLay⟩ := id hX
  have hlane := hlane_of hV
  have hout := hout_of hA hV
  have hho : ∀ j, j < fc → lt256 (I 84 j) := fun j hj => (hF j hj).2.1
  have hM2 : ∀ v1 v2 : Int32, MB (u2 (u2 S 7 0 v1) 7 1 v2) w g fc oc uc td md op := fun v1 v2 => hM.eq (fun j _ => by rw [u2_a _ _ _ _ (by decide), u2_a _ _ _ _ (by decide)])
  have hFi : ∀ (j : Nat) (I1 : M2), FR I I1 (dvS (vk I (nI j)) (adC w g) (opl I) 256) → (∀ c, c < 256 → (w ≤ c % 16 ∨ g ≤ c / 16) → I1 79 c = -1) ∧ (∀ j, j < fc → lt256 (I1 84 j)) ∧ dvS (vl I1 (nI j)) (adM w g) (opM I1) 256 = dvS (vk I (nI j)) (adC w g) (opl I) 256 := fun j I1 hFR => by
    refine ⟨by rw [hFR.at (by omega)]; exact hout, by rw [hFR.at (by omega)]; exact hho, ?_⟩
    rw [vl_eq (hFR.at (by omega)) (hFR.at (by omega)), opM_eq (hFR.at (by omega)) (hFR.at (by omega))]
    exact dv_eq hA hT hoc6 hw6 hg6 _
  have hsm : ∀ (D1 D2 : DV) (I1 I2 : M2) (v1 v2 v3 : Int32), FR I I1 D1 → MR I1 I2 D2 → SIM (t + 1) n (H5 d I2 J (u2 (u2 (u2 S 7 0 v1) 7 1 v2) 78 41 v3) L R) := fun D1 D2 I1 I2 v1 v2 v3 hFR hMR => SM.sim (h.scr (fun b b1 b2 b3 => (hMR.at (by omega)).trans (hFR.at (by omega))) (fun b b1 b2 => by rw [u2_row _ _ _ b2, u2_row _ _ _ b1, u2_row _ _ _ b1]) (fun j hj => by rw [u2_j _ _ _ _ hj, u2_a _ _ _ _ (by decide), u2_a _ _ _ _ (by decide)]) (fun _ _ => rfl))
  refine t_pieces hB hlane (fun h1 => ⟨_, rfl, ⟨_, o_X7 rfl⟩, m_pieces hM hout (fun _ => ⟨rfl, h.same⟩) (fun j I1 h2 h3 => absurd (h2 ▸ n_fok h3 hfc2) h1)⟩) (fun j I1 h1 h2 hFR => ?_)
  obtain ⟨k1, k2, k3⟩ := hFi j I1 hFR
  refine ⟨_, rfl, ⟨_, o_X7 rfl⟩, m_pieces (hM2 _ _) k1 (fun h3 => absurd (h1 ▸ n_fok h2 hfc2) h3) (fun j2 I2 h3 h4 hMR => ⟨?_, hsm _ _ I1 I2 _ _ _ hFR hMR⟩)⟩
  subst h1
  obtain rfl : j = j2 := (nI_eq (by omega) (by omega)).mp h3
  rw [k3]
set_option maxHeartbeats 1600000 in
theorem s_piece {t n : Nat} {d : D2} {I : M2} {J : J2} {S : M2} {L : J2} {R : R2} (h : Sim t n d I J S L R) {f x y : Int32} : Calls yX6_piece cX6_piece 4 (some .int) rmX6_piece [.ref 0, .int f, .int x, .int y] n (H5 d I J S L R) (P2 t (fun n9 h9 Q9 => Calls yX7_piece cX7_piece 4 (some .int) rmX7_piece [.ref 78, .int f, .int x, .int y] n9 h9 Q9)) := by
  obtain ⟨w, g, fc, oc, uc, td, md, op, oa, nc, ca, h⟩ := h
  obtain ⟨hB, hM, hO, hN, hX, ⟨hA, hT, hV⟩, hF, hP, hR, hOr, hL⟩ := id h
  obtain ⟨hw, hg, hw1, hw6, hg1, hg6, hfc, hfc2, hoc, hoc6, huc, huc5, htd, htd4, hR13, hR62⟩ := id hB
  obtain ⟨mw, mg, -, -, -, -, mfc, -, moc, -, muc, -, mtd, -, mmd, mop⟩ := id hM
  obtain ⟨hut, hmd, hop, hdone, hn, hLay⟩ := id hX
  have hlane := hlane_of hV
  have hout := hout_of hA hV
  have hho : ∀ j, j < fc → lt256 (I 84 j) := fun j hj => (hF j hj).2.1
  have hM2 : ∀ v1 v2 : Int32, MB (u2 (u2 S 7 0 v1) 7 1 v2) w g fc oc uc td md op := fun v1 v2 => hM.eq (fun j _ => by rw [u2_a _ _ _ _ (by decide), u2_a _ _ _ _ (by decide)])
  have hFi : ∀ (j : Nat) (I1 : M2), FR I I1 (dvS (vk I (nI j)) (adC w g) (opl I) 256) → (∀ c, c < 256 → (w ≤ c % 16 ∨ g ≤ c / 16) → I1 79 c = -1) ∧ (∀ j, j < fc → lt256 (I1 84 j)) ∧ dvS (vl I1 (nI j)) (adM w g) (opM I1) 256 = dvS (vk I (nI j)) (adC w g) (opl I) 256 := fun j I1 hFR => by
    refine ⟨by rw [hFR.at (by omega)]; exact hout, by rw [hFR.at (by omega)]; exact hho, ?_⟩
    rw [vl_eq (hFR.at (by omega)) (hFR.at (by omega)), opM_eq (hFR.at (by omega)) (hFR.at (by omega))]
    exact dv_eq hA hT hoc6 hw6 hg6 _
  have hsm : ∀ (D1 D2 : DV) (I1 I2 : M2) (v1 v2 v3 : Int32), FR I I1 D1 → MR I1 I2 D2 → SIM (t + 1) n (H5 d I2 J (u2 (u2 (u2 S 7 0 v1) 7 1 v2) 78 41 v3) L R) := fun D1 D2 I1 I2 v1 v2 v3 hFR hMR => SM.sim (h.scr (fun b b1 b2 b3 => (hMR.at (by omega)).trans (hFR.at (by omega))) (fun b b1 b2 => by rw [u2_row _ _ _ b2, u2_row _ _ _ b1, u2_row _ _ _ b1]) (fun j hj => by rw [u2_j _ _ _ _ hj, u2_a _ _ _ _ (by decide), u2_a _ _ _ _ (by decide)]) (fun _ _ => rfl))
  refine t_piece hB hlane (fun h1 => ⟨_, rfl, ⟨_, o_X7 rfl⟩, m_piece hM hout hho (fun _ => ⟨rfl, h.same⟩) (fun j I1 h2 h3 => absurd (h2 ▸ n_fok h3 hfc2) h1) (fun j i I1 h2 h3 => absurd (h2 ▸ n_fok h3 hfc2) h1) (fun j i k I1 h2 h3 => absurd (h2 ▸ n_fok h3 hfc2) h1)⟩) (fun j I1 h1 h2 hFR h5 => ?_) (fun j i I1 h1 h2 hFR h5 h6 h7 => ?_) (fun j i k I1 h1 h2 hFR h5 h6 h7 h8 => ?_)
  all_goals
    obtain ⟨k1, k2, k3⟩ := hFi j I1 hFR
    subst h1
    have hle := (dvS_le (vk I (nI j)) (adC w g) (opl I) 256).1
  · refine ⟨_, rfl, ⟨_, o_X7 rfl⟩, m_piece (hM2 _ _) k1 k2 (fun h3 => absurd (n_fok h2 hfc2) h3) (fun j2 I2 h3 h4 hMR _ => ⟨rfl, hsm _ _ I1 I2 _ _ _ hFR hMR⟩) (fun j2 i I2 h3 h4 hMR h9 h10 => ?_) (fun j2 i k I2 h3 h4 hMR h9 h10 => ?_)⟩
    all_goals
      obtain rfl : j = j2 := (nI_eq (by omega) (by omega)).mp h3
      rw [k3] at h10
      exact absurd h10 (h5 i h9)
  · subst h5
    refine ⟨_, rfl, ⟨_, o_X7 rfl⟩, m_piece (hM2 _ _) k1 k2 (fun h3 => absurd (n_fok h2 hfc2) h3) (fun j2 I2 h3 h4 hMR h9 => ?_) (fun j2 i2 I2 h3 h4 hMR h9 h10 h11 => ⟨rfl, hsm _ _ I1 I2 _ _ _ hFR hMR⟩) (fun j2 i2 k I2 h3 h4 hMR h9 h10 h11 h12 => absurd h12 (h7 k h11))⟩
    obtain rfl : j = j2 := (nI_eq (by omega) (by omega)).mp h3
    rw [k3] at h9
    exact absurd h6 (h9 i rfl)
  · subst h5
    subst h7
    refine ⟨_, rfl, ⟨_, o_X7 rfl⟩, m_piece (hM2 _ _) k1 k2 (fun h3 => absurd (n_fok h2 hfc2) h3) (fun j2 I2 h3 h4 hMR h9 => ?_) (fun j2 i2 I2 h3 h4 hMR h9 h10 h11 => absurd h8 (h11 k rfl)) (fun j2 i2 k2 I2 h3 h4 hMR h9 h10 h11 h12 => ⟨?_, hsm _ _ I1 I2 _ _ _ hFR hMR⟩)⟩
    · obtain rfl : j = j2 := (nI_eq (by omega) (by omega)).mp h3
      rw [k3] at h9
      exact absurd h6 (h9 i rfl)
    · obtain rfl : j = j2 := (nI_eq (by omega) (by omega)).mp h3
      rw [k3] at h10 ⊢
      obtain rfl : i = i2 := (nI_eq (by omega) (by omega)).mp h9
      obtain rfl : k = k2 := (nI_eq (by omega) (by omega)).mp h11
      obtain ⟨p1, p2, p3⟩ := hFR.2.2 i h6
      rw [hFR.main (dvS_ok _ _ _)]
      unfold ptl plM
      rw [p1, p2, p3, u2_s, hFR.at (show ¬ (8 ≤ 84 ∧ 84 ≤ 12) by omega), (hF j h2).1, bi_bi]
      match k, h8 with
      | 0, _ => rfl
      | 1, _ => rfl
      | 2, _ =>
        show some (Value.int (if opI _ = nI i then 1 else 0)) = some (Value.int (if nI i = opI _ then 1 else 0))
        by_cases h19 : nI i = opI (mD (dvS (vk I (nI j)) (adC w g) (opl I) 256) (S (14 + 4 * j) 0))
        · rw [if_pos h19, if_pos h19.symm]
        · rw [if_neg h19, if_neg (fun e => h19 e.symm)]
      | 3, _ => rfl
theorem oweA_row (I S : M2) (ca : Nat → Nat) (J : J2) : ∀ m, (∀ k, k < m → (S (ca k) 0).toNatClampNeg < 12) → ∀ b, (∀ f, f < 12 → b ≠ 14 + 4 * f + 3) → oweA I S ca m J b = J b := by
  intro m
  induction m with
  | zero => intro _ b _; rfl
  | succ m ih =>
    intro hf b hb
    unfold oweA owe
    rw [rowU_ne _ _ _ (hb _ (hf m (by omega)))]
    exact ih (fun k hk => hf k (by omega)) b hb
theorem oweA_at (I S : M2) (ca : Nat → Nat) (J : J2) {f rc r : Nat} (hf12 : f < 12) (hrc : S (14 + 4 * f) 1 = nI rc) (hrc4 : rc ≤ 4) (hr : r < rc) (hk1 : I (14 + 4 * f + 1) r = 1) : ∀ m, (∀ k, k < m → ∃ q, q < 12 ∧ S (ca k) 0 = nI q) → (∀ k, k < m → 115 ≤ ca k) → oweA I S ca m J (14 + 4 * f + 3) r = J (14 + 4 * f + 3) r + sL (fun k => if S (ca k) 0 = nI f then J (ca k + 1) r else 0) m := by
  intro m
  induction m with
  | zero => intro _ _; show J _ _ = J _ _ + 0; rw [Int64.add_zero]
  | succ m ih =>
    intro h1 h2
    have ih := ih (fun k hk => h1 k (by omega)) (fun k hk => h2 k (by omega))
    obtain ⟨q, hq, eq⟩ := h1 m (by omega)
    have hcl : ∀ k, k < m → (S (ca k) 0).toNatClampNeg < 12 := fun k hk => by
      obtain ⟨q2, a1, a2⟩ := h1 k (by omega)
      rw [a2, nI_clamp (by omega)]
      exact a1
    have hrow := oweA_row I S ca J m hcl (ca m + 1) (fun f hf => by have := h2 m (by omega); omega)
    unfold oweA owe sL
    rw [eq, nI_clamp (by omega)]
    by_cases e : q = f
    · subst e
      rw [hrc, nI_clamp (by omega), rowU_in _ _ _ hr, if_pos hk1, if_pos rfl, ih, hrow, Int64.add_assoc]
    · rw [rowU_ne _ _ _ (show 14 + 4 * f + 3 ≠ 14 + 4 * q + 3 by omega), if_neg (fun e2 => e ((nI_eq (by omega) (by omega)).mp e2)), ih, Int64.add_zero]
theorem j_sub2 (a b c : Int64) : a - (b + c) + c = a - b := by
  simp only [Int64.sub_eq_add_neg, Int64.neg_add, Int64.add_assoc, Int64.add_left_neg, Int64.add_zero]
set_option maxHeartbeats 1600000 in
theorem s_undo {t n : Nat} {d : D2} {I : M2} {J : J2} {S : M2} {L : J2} {R : R2} (h : Sim t n d I J S L R) (ht : t < 512) : Calls yX6_undo cX6_undo 6 (some .long) rmX6_undo [.ref 0] n (H5 d I J S L R) (P2L t (fun n9 h9 Q9 => Calls yX7_undo cX7_undo 5 (some .long) rmX7_undo [.ref 78] n9 h9 Q9)) := by
  obtain ⟨w, g, fc, oc, uc, td, md, op, oa, nc, ca, h⟩ := h
  obtain ⟨hB, hM, hO, hN, hX, ⟨hA, hT, hV⟩, hF, hP, hR, hOr, hL⟩ := id h
  obtain ⟨hw, hg, hw1, hw6, hg1, hg6, hfc, hfc2, hoc, hoc6, huc, huc5, htd, htd4, hR13, hR62⟩ := id hB
  obtain ⟨mw, mg, -, -, -, -, mfc, -, moc, -, muc, -, mtd, -, mmd, mop⟩ := id hM
  obtain ⟨hut, hmd, hop, hdone, hn, hLay⟩ := id hX
  have hcfC : ∀ o k, o < oc → k < nc o → ∃ f, f < fc ∧ S (ca o k) 0 = nI f := fun o k ho hk => ((hOr o ho).2.2 k hk).1.2.1
  have hrcC : ∀ j, j < fc → ∃ rc, rc ≤ 4 ∧ S (14 + 4 * j) 1 = nI rc := fun j hj => by
    obtain ⟨-, -, rc, f3, f4, -⟩ := hF j hj
    exact ⟨rc, f3, f4⟩
  have hoo : (0 < oc ∧ dn S nc ca (oc - 1) = true) ↔ (0 < oc ∧ op = false) := by
    constructor
    · rintro ⟨h1, h2⟩
      refine ⟨h1, ?_⟩
      cases hh : op with
      | false => rfl
      | true =>
        have h3 := (hop.mp hh).2
        rw [h2] at h3
        cases h3
    · rintro ⟨h1, h2⟩
      refine ⟨h1, ?_⟩
      cases hh : dn S nc ca (oc - 1) with
      | true => rfl
      | false =>
        rw [hop.mpr ⟨h1, hh⟩] at h2
        cases h2
  refine t_undo hB hO hcfC hrcC (fun h1 => ⟨_, rfl, ⟨_, o_X7 rfl⟩, m_undo hM hN (fun _ => ⟨rfl, h.same⟩) (fun h2 => absurd (hoo.mpr h2) h1)⟩) (fun h1 => ⟨_, rfl, ⟨_, o_X7 rfl⟩, m_undo (hM.eq (fun j _ => by rw [u2_a _ _ _ _ (by decide), u2_a _ _ _ _ (by decide)])) (hN.eq (rowU_ne _ _ _ (by decide))) (fun h2 => absurd (hoo.mp h1) h2) (fun h2 => ?_)⟩)
  have h0 := h1.1
  have ho1 : oc - 1 < oc := by omega
  have hopf := h2.2
  subst hopf
  have hf12 : ∀ k, k < nc (oc - 1) → ∃ q, q < 12 ∧ S (ca (oc - 1) k) 0 = nI q := fun k hk => by
    obtain ⟨f, a1, a2⟩ := hcfC (oc - 1) k ho1 hk
    exact ⟨f, by omega, a2⟩
  have hcl : ∀ k, k < nc (oc - 1) → (S (ca (oc - 1) k) 0).toNatClampNeg < 12 := fun k hk => by
    obtain ⟨q2, a1, a2⟩ := hf12 k hk
    rw [a2, nI_clamp (by omega)]
    exact a1
  have h15 : ∀ k, k < nc (oc - 1) → 115 ≤ ca (oc - 1) k := fun k hk => kd_ge ((hO (oc - 1) ho1).2.2.2.2.2 k hk).2.1 (Or.inl rfl)
  have eJ : ∀ b, ¬ (14 ≤ b ∧ b ≤ 61) → oweA I S (ca (oc - 1)) (nc (oc - 1)) J b = J b := fun b hb => oweA_row I S _ J _ hcl b (fun f hf => by omega)
  have eI : ∀ b, b ≠ 6 → b ≠ 83 → rowU (rowU I 6 256 (fun c => if I 6 c = nI (oc - 1) then -1 else I 6 c)) 83 256 (fun c => if rowU I 6 256 (fun c => if I 6 c = nI (oc - 1) then -1 else I 6 c) 83 c = nI oc then 0 else rowU I 6 256 (fun c => if I 6 c = nI (oc - 1) then -1 else I 6 c) 83 c) b = I b := fun b b6 b83 => by rw [rowU_ne _ _ _ b83, rowU_ne _ _ _ b6]
  have e6 : ∀ c, c < 256 → rowU (rowU I 6 256 (fun c => if I 6 c = nI (oc - 1) then -1 else I 6 c)) 83 256 (fun c => if rowU I 6 256 (fun c => if I 6 c = nI (oc - 1) then -1 else I 6 c) 83 c = nI oc then 0 else rowU I 6 256 (fun c => if I 6 c = nI (oc - 1) then -1 else I 6 c) 83 c) 6 c = if I 6 c = nI (oc - 1) then -1 else I 6 c := fun c hc => by rw [rowU_ne _ _ _ (by decide), rowU_in _ _ _ hc]
  have e83 : ∀ c, c < 256 → rowU (rowU I 6 256 (fun c => if I 6 c = nI (oc - 1) then -1 else I 6 c)) 83 256 (fun c => if rowU I 6 256 (fun c => if I 6 c = nI (oc - 1) then -1 else I 6 c) 83 c = nI oc then 0 else rowU I 6 256 (fun c => if I 6 c = nI (oc - 1) then -1 else I 6 c) 83 c) 83 c = if I 83 c = nI oc then 0 else I 83 c := fun c hc => by rw [rowU_in _ _ _ hc, rowU_ne _ _ _ (by decide)]
  have eS : ∀ b, b ≠ 0 → b ≠ 78 → u2 (u2 (u2 (u2 S 0 9 (nI (oc - 1))) 0 10 (nI (uc + 1))) 78 19 (nI (oc - 1))) 78 18 (nI (uc + 1)) b = S b := fun b b0 b78 => by rw [u2_row _ _ _ b78, u2_row _ _ _ b78, u2_row _ _ _ b0, u2_row _ _ _ b0]
  have eS2 : ∀ b, 115 ≤ b → u2 (u2 (u2 (u2 S 0 9 (nI (oc - 1))) 0 10 (nI (uc + 1))) 78 19 (nI (oc - 1))) 78 18 (nI (uc + 1)) b = S b := fun b hb => eS b (by omega) (by omega)
  have hgeC : ∀ o, o < oc → ∀ k, k < nc o → 115 ≤ ca o k := fun o ho k hk => kd_ge ((hO o ho).2.2.2.2.2 k hk).2.1 (Or.inl rfl)
  generalize hI9 : rowU (rowU I 6 256 (fun c => if I 6 c = nI (oc - 1) then -1 else I 6 c)) 83 256 (fun c => if rowU I 6 256 (fun c => if I 6 c = nI (oc - 1) then -1 else I 6 c) 83 c = nI oc then 0 else rowU I 6 256 (fun c => if I 6 c = nI (oc - 1) then -1 else I 6 c) 83 c) = I9 at eI e6 e83 ⊢
  have hO2 : OrdB d (u2 (u2 (u2 (u2 S 0 9 (nI (oc - 1))) 0 10 (nI (uc + 1))) 78 19 (nI (oc - 1))) 78 18 (nI (uc + 1))) R (oc - 1) oa nc ca := fun o ho => (hO.eq2 (fun b hb => by rw [eS2 b hb])) o (by omega)
  refine ⟨?_, SM.sim (?_ : SM w g fc (oc - 1) (uc + 1) td (t + 1) md false oa nc ca n d _ _ _ _ _)⟩
  · rw [sL_eq _ (fun k hk => ?_)]
    obtain ⟨-, ⟨-, -, -, -, -, g6, g7, -⟩, -⟩ := (hOr (oc - 1) ho1).2.2 k hk
    rw [eJ 105 (by omega), eJ 106 (by omega), g6, g7]
  · refine ⟨?_, ?_, hO2, fun o ho => by rw [eI 94 (by decide) (by decide)]; exact hN o (by omega), ⟨by omega, ?_, ⟨fun h9 => absurd h9 (by decide), fun h9 => ?_⟩, fun o ho => ?_, hn, hLay⟩, ⟨hA.eq2 (fun b hb => eI b (by omega) (by omega)), fun c hc => ?_, hV.eq (eI 2 (by decide) (by decide)) (eI 3 (by decide) (by decide)) (eI 4 (by decide) (by decide))⟩, fun f hf => ?_, hP.eq (fun b hb => eI b (by omega) (by omega)) (fun b hb => eS b (by omega) (by omega)), hR.eq (eI 91 (by decide) (by decide)) (eI 76 (by decide) (by decide)), fun o ho => ?_, fun _ c hc h5 => ?_, fun h9 => absurd h9 (by decide)⟩
    · unfold CB
      rw [eS 1 (by decide) (by decide)]
      exact ⟨hw, hg, hw1, hw6, hg1, hg6, by simp [u2]; exact hfc, hfc2, by simp [u2], by omega, by simp [u2], by omega, by simp [u2]; exact htd, htd4, hR13, hR62⟩
    · exact ⟨by simp [u2]; exact mw, by simp [u2]; exact mg, hw1, hw6, hg1, hg6, by simp [u2]; exact mfc, hfc2, by simp [u2], by omega, by simp [u2], by omega, by simp [u2]; exact mtd, htd4, by simp [u2]; exact mmd, by simp [u2]; exact mop⟩
    · rw [hmd]
      have a1 : 0 < oc ∨ 0 < uc := Or.inl h0
      have a2 : 0 < oc - 1 ∨ 0 < uc + 1 := Or.inr (by omega)
      simp [a1, a2]
    · have a1 := h9.1
      have a2 := h9.2
      rw [dn_eq (S := S) (fun k hk => by rw [eS2 _ (hgeC _ (by omega) k hk)]), hdone _ (by omega)] at a2
      cases a2
    · rw [dn_eq (S := S) (fun k hk => by rw [eS2 _ (hgeC _ (by omega) k hk)])]
      exact hdone o (by omega)
    · rw [e6 c hc, e83 c hc]
      rcases hT c hc with ⟨a1, a2⟩ | ⟨o, a1, a2, a3⟩
      · rw [a1, a2, if_neg (fun e => nI_m1 (by omega) e.symm), if_neg (fun e => nI_ne0 h0 (by omega) e.symm)]
        exact Or.inl ⟨rfl, rfl⟩
      · rw [a2, a3]
        by_cases e : o = oc - 1
        · subst e
          rw [if_pos rfl, if_pos (by rw [Nat.sub_add_cancel h0])]
          exact Or.inl ⟨rfl, rfl⟩
        · rw [if_neg (fun e2 => e ((nI_eq (by omega) (by omega)).mp e2)), if_neg (fun e2 => by have := (nI_eq (by omega) (by omega)).mp e2; omega)]
          exact Or.inr ⟨o, by omega, rfl, rfl⟩
    · obtain ⟨f1, f2, rc, f3, f4, f5, f6⟩ := hF f hf
      rw [eI 84 (by decide) (by decide), eI 85 (by decide) (by decide), eI 86 (by decide) (by decide), eI 87 (by decide) (by decide), eI (14 + 4 * f + 1) (by omega) (by omega), eI (14 + 4 * f + 2) (by omega) (by omega), eS (14 + 4 * f) (by omega) (by omega)]
      refine ⟨f1, f2, rc, f3, f4, f5, fun r hr => ?_⟩
      obtain ⟨r1, r2, r3, r4⟩ := f6 r hr
      refine ⟨r1, r2, r3, fun hk1 => ?_⟩
      rw [oweA_at I S _ J (show f < 12 by omega) f4 f3 hr (by rw [← r1]; exact hk1) _ hf12 h15, r4 hk1]
      unfold dbM
      rw [eI 87 (by decide) (by decide), eI 96 (by decide) (by decide), eJ 109 (by omega)]
      have e1 : sL (fun o => sL (fun j => if I 96 (12 * o + j) = nI f then J 109 (4 * (12 * o + j) + r) else 0) (nc o)) oc = sL (fun o => sL (fun j => if I 96 (12 * o + j) = nI f then J 109 (4 * (12 * o + j) + r) else 0) (nc o)) (oc - 1) + sL (fun k => if S (ca (oc - 1) k) 0 = nI f then J (ca (oc - 1) k + 1) r else 0) (nc (oc - 1)) := by
        obtain ⟨m, rfl⟩ : ∃ m, oc = m + 1 := ⟨oc - 1, by omega⟩
        show sL _ m + sL _ (nc m) = _
        simp only [Nat.add_sub_cancel]
        rw [sL_eq (nc m) (fun k hk => ?_)]
        obtain ⟨⟨c1, -⟩, ⟨-, -, -, -, -, -, -, -, -, g10⟩, -⟩ := (hOr m (by omega)).2.2 k hk
        rw [c1, g10 r (by omega)]
      rw [e1, j_sub2]
    · have a1 := hOr.eq (I' := I9) (J' := oweA I S (ca (oc - 1)) (nc (oc - 1)) J) (S' := u2 (u2 (u2 (u2 S 0 9 (nI (oc - 1))) 0 10 (nI (uc + 1))) 78 19 (nI (oc - 1))) 78 18 (nI (uc + 1))) (L' := L) hO (fun b hb => eI b (by omega) (by omega)) (fun b hb => eJ b (by omega)) (fun b hb => eS2 b hb) (fun _ _ => rfl)
      exact a1 o (by omega)
    · rw [e6 c hc]
      have a1 := hL.1 rfl c hc (by rw [← eI 5 (by decide) (by decide)]; exact h5)
      rw [a1, if_neg (fun e => nI_m1 (by omega) e.symm)]
