theorem rowU_2 {α : Type} (I : Nat → Nat → α) (a n : Nat) (g h : Nat → α) : rowU (rowU I a n g) a n h = rowU I a n h := by
  funext b c
  simp only [rowU]
  by_cases hc : b = a ∧ c < n
  · rw [if_pos hc, if_pos hc]
  · rw [if_neg hc, if_neg hc, if_neg hc]
theorem rowU_eq {α : Type} (I : Nat → Nat → α) (a n : Nat) {g h : Nat → α} (e : ∀ c, c < n → g c = h c) : rowU I a n g = rowU I a n h := by
  funext b c
  simp only [rowU]
  by_cases hc : b = a ∧ c < n
  · rw [if_pos hc, if_pos hc, e c hc.2]
  · rw [if_neg hc, if_neg hc]
/-- is the cell taken by the first i cases, or of no field -/
def tcB (I S : M2) (ca : Nat → Nat) (i c : Nat) : Bool := I 5 c != 0 && (I 2 c == -1 || anyB (fun k => rdy (S (ca k) 2) && I 2 c == S (ca k) 0) i)
def tcI (I S : M2) (ca : Nat → Nat) (o : Int32) (i : Nat) : M2 := rowU I 6 256 (fun c => if tcB I S ca i c then o else I 6 c)
theorem tcI_row (I S : M2) (ca : Nat → Nat) (o : Int32) (i : Nat) {b : Nat} (h : b ≠ 6) : tcI I S ca o i b = I b := rowU_ne _ _ _ h
theorem tcI_0 (I S : M2) (ca : Nat → Nat) (o : Int32) : rowU I 6 256 (fun c => if inl I c (-1) then o else I 6 c) = tcI I S ca o 0 := rowU_eq _ _ _ (fun c _ => by
  show _ = (if (I 5 c != 0 && (I 2 c == -1 || false)) = true then _ else _)
  rw [Bool.or_false]
  rfl)
theorem tcI_t {I S : M2} {ca : Nat → Nat} {o : Int32} {i : Nat} (h : rdy (S (ca i) 2) = true) : rowU (tcI I S ca o i) 6 256 (fun c => if inl (tcI I S ca o i) c (S (ca i) 0) then o else tcI I S ca o i 6 c) = tcI I S ca o (i + 1) := by
  unfold tcI
  rw [rowU_2]
  refine rowU_eq _ _ _ (fun c hc => ?_)
  rw [rowU_in _ _ _ hc, show inl (rowU I 6 256 (fun c => if tcB I S ca i c = true then o else I 6 c)) c (S (ca i) 0) = inl I c (S (ca i) 0) by unfold inl; rw [rowU_ne _ _ _ (by decide), rowU_ne _ _ _ (by decide)]]
  have e : tcB I S ca (i + 1) c = (tcB I S ca i c || inl I c (S (ca i) 0)) := by
    show (I 5 c != 0 && (I 2 c == -1 || (anyB _ i || (rdy (S (ca i) 2) && I 2 c == S (ca i) 0)))) = _
    unfold tcB inl
    rw [h, Bool.true_and, ← Bool.or_assoc, Bool.and_or_distrib_left]
  rw [e]
  cases tcB I S ca i c <;> cases inl I c (S (ca i) 0) <;> rfl
theorem tcI_f {I S : M2} {ca : Nat → Nat} {o : Int32} {i : Nat} (h : rdy (S (ca i) 2) = false) : tcI I S ca o i = tcI I S ca o (i + 1) := by
  unfold tcI
  refine rowU_eq _ _ _ (fun c hc => ?_)
  have e : tcB I S ca (i + 1) c = tcB I S ca i c := by
    show (I 5 c != 0 && (I 2 c == -1 || (anyB _ i || (rdy (S (ca i) 2) && I 2 c == S (ca i) 0)))) = _
    unfold tcB
    rw [h, Bool.false_and, Bool.or_false]
  rw [e]
set_option maxHeartbeats 800000 in
set_option maxRecDepth 100000 in
theorem t_takeReady {n : Nat} {d : D2} {I : M2} {J : J2} {S : M2} {L : J2} {R : R2} {Q : QT} {w g fc oc uc td : Nat} (hB : CB S R w g fc oc uc td) {oa nc : Nat → Nat} {ca : Nat → Nat → Nat} (hO : OrdB d S R oc oa nc ca) (h0 : 0 < oc) (hq : Q none n (H5 d (tcI I S (ca (oc - 1)) (nI (oc - 1)) (nc (oc - 1))) J S L R)) : Calls yX6_takeReadyCells cX6_takeReadyCells 5 none rmX6_takeReadyCells [.ref 0, .ref (oa (oc - 1))] n (H5 d I J S L R) Q := by
  refine Calls.of (by decide) (Nat.le_of_ble_eq_true rfl) ?_
  intro K hk
  show AW K Q 0 0 0 [some (.ref 0), some (.ref (oa (oc - 1))), none, none, none] [] n (H5 d I J S L R)
  obtain ⟨hw, hg, hw1, hw6, hg1, hg6, hfc, hfc2, hoc, hoc6, huc, huc5, htd, htd4, hR13, hR62⟩ := id hB
  have hl := hO (oc - 1) (by omega)
  have hm12 := hl.2.2.2.1
  have loop : ∀ (k i : Nat), i ≤ (nc (oc - 1)) → (nc (oc - 1)) + 1 ≤ i + k → AW K Q 0 0 18 [some (.ref 0), some (.ref (oa (oc - 1))), some (.int (nI (oc - 1))), some (.int (nI i)), none] [] n (H5 d (tcI I S (ca (oc - 1)) (nI (oc - 1)) i) J S L R) := by
    intro k
    induction k with
    | zero => intro i h1 h2; omega
    | succ k ih =>
      intro i hi hn
      refine aw_iload_n (pc2 := 19) hk dX6_takeReadyCells_18 rfl rfl ?_
      refine aw_aload_n (pc2 := 20) hk dX6_takeReadyCells_19 rfl rfl ?_
      refine aw_get (pc2 := 23) hk ckX3 2 dX6_takeReadyCells_20 rfl fl_X6_147 (by decide) (o_X3 hl.2.1) rfl ?_
      refine aw_icN_ge (x := i) (y := (nc (oc - 1))) (tgt := 65) (pc2 := 26) hk dX6_takeReadyCells_23 (by decide) rfl rfl hl.2.2.2.2.1 (by omega) (by omega) (fun c23 => ?_) (fun c23 => ?_)
      · have ei : i = (nc (oc - 1)) := by omega
        rw [ei]
        refine aw_vret hk dX6_takeReadyCells_65 (Nat.le_of_ble_eq_true rfl) (Nat.le_of_ble_eq_true rfl) hq
      · refine aw_aload_n (pc2 := 27) hk dX6_takeReadyCells_26 rfl rfl ?_
        refine aw_iload_n (pc2 := 28) hk dX6_takeReadyCells_27 rfl rfl ?_
        refine aw_cV (rm2 := rmX3_caseAt) (pc2 := 31) hk veX3_caseAt dX6_takeReadyCells_28 rfl ml_X6_150 ⟨(Nat.le_of_ble_eq_true rfl), (Nat.le_of_ble_eq_true rfl)⟩ [_] rfl rfl (Nat.le_of_ble_eq_true rfl) (Nat.le_of_ble_eq_true rfl) (Nat.le_of_ble_eq_true rfl) (o_X3 hl.2.1) (t_caseAt hl.2 rfl c23 ?_)
        refine aw_astore (pc2 := 33) hk dX6_takeReadyCells_31 rfl (by decide) ?_
        show AW K Q _ _ 33 [_, _, _, _, _] _ _ _
        refine aw_aload (pc2 := 35) hk dX6_takeReadyCells_33 rfl rfl ?_
        refine aw_ifnull_r (pc2 := 38) hk dX6_takeReadyCells_35 rfl ?_
        refine aw_aload (pc2 := 40) hk dX6_takeReadyCells_38 rfl rfl ?_
        refine aw_cV (rm2 := rmX0_isReady) (pc2 := 43) hk veX0_isReady dX6_takeReadyCells_40 rfl ml_X6_209 ⟨(Nat.le_of_ble_eq_true rfl), (Nat.le_of_ble_eq_true rfl)⟩ [] rfl rfl (Nat.le_of_ble_eq_true rfl) (Nat.le_of_ble_eq_true rfl) (Nat.le_of_ble_eq_true rfl) (o_X0 (hl.2.2.2.2.2 i c23).2.1) (t_isReady (hl.2.2.2.2.2 i c23).2.1 ?_)
        refine aw_if_eq (tgt := 59) (pc2 := 46) hk dX6_takeReadyCells_43 (by decide) rfl (fun c43 => ?_) (fun c43 => ?_)
        · first
            | rw [tcI_t (bi_tt c43)]
            | rw [tcI_f (bi_ff c43)]
          refine aw_iinc1 (pc2 := 62) hk dX6_takeReadyCells_59 rfl rfl (by decide) ?_
          show AW K Q _ _ 62 [_, _, _, _, _] _ _ _
          refine aw_goto (tgt := 18) hk dX6_takeReadyCells_62 (by decide) ?_
          refine aw_fg 4 ?_
          exact ih (i + 1) (by omega) (by omega)
        · refine aw_aload_n (pc2 := 47) hk dX6_takeReadyCells_46 rfl rfl ?_
          refine aw_get (pc2 := 50) hk ckX6 0 dX6_takeReadyCells_47 rfl fl_X6_12 (by decide) (o_X6 rfl) rfl ?_
          refine aw_aload (pc2 := 52) hk dX6_takeReadyCells_50 rfl rfl ?_
          refine aw_get (pc2 := 55) hk ckX0 0 dX6_takeReadyCells_52 rfl fl_X6_212 (by decide) (o_X0 (hl.2.2.2.2.2 i c23).2.1) rfl ?_
          refine aw_iload_n (pc2 := 56) hk dX6_takeReadyCells_55 rfl rfl ?_
          refine aw_cV (rm2 := rmX2_takeLine) (pc2 := 59) hk veX2_takeLine dX6_takeReadyCells_56 rfl ml_X6_206 ⟨(Nat.le_of_ble_eq_true rfl), (Nat.le_of_ble_eq_true rfl)⟩ [_, _] rfl rfl (Nat.le_of_ble_eq_true rfl) (Nat.le_of_ble_eq_true rfl) (Nat.le_of_ble_eq_true rfl) (o_X2 rfl) (t_takeLine ?_)
          first
            | rw [tcI_t (bi_tt c43)]
            | rw [tcI_f (bi_ff c43)]
          refine aw_iinc1 (pc2 := 62) hk dX6_takeReadyCells_59 rfl rfl (by decide) ?_
          show AW K Q _ _ 62 [_, _, _, _, _] _ _ _
          refine aw_goto (tgt := 18) hk dX6_takeReadyCells_62 (by decide) ?_
          refine aw_fg 4 ?_
          exact ih (i + 1) (by omega) (by omega)
  refine aw_aload_n (pc2 := 1) hk dX6_takeReadyCells_0 rfl rfl ?_
  refine aw_get (pc2 := 4) hk ckX6 9 dX6_takeReadyCells_1 rfl fl_X6_100 (by decide) (o_X6 rfl) rfl ?_
  refine aw_iconst (v := 1) (pc2 := 5) hk dX6_takeReadyCells_4 rfl (by decide) ?_
  refine aw_isub (pc2 := 6) hk dX6_takeReadyCells_5 rfl ?_
  refine aw_top (nI (oc - 1)) (by rw [hoc]; exact pk_sub (a := oc) (b := 1) (by omega)) ?_
  refine aw_istore_n (pc2 := 7) hk dX6_takeReadyCells_6 rfl (by decide) ?_
  show AW K Q _ _ 7 [_, _, _, _, _] _ _ _
  refine aw_aload_n (pc2 := 8) hk dX6_takeReadyCells_7 rfl rfl ?_
  refine aw_get (pc2 := 11) hk ckX6 0 dX6_takeReadyCells_8 rfl fl_X6_12 (by decide) (o_X6 rfl) rfl ?_
  refine aw_iconst (v := -1) (pc2 := 12) hk dX6_takeReadyCells_11 rfl (by decide) ?_
  refine aw_iload_n (pc2 := 13) hk dX6_takeReadyCells_12 rfl rfl ?_
  refine aw_cV (rm2 := rmX2_takeLine) (pc2 := 16) hk veX2_takeLine dX6_takeReadyCells_13 rfl ml_X6_206 ⟨(Nat.le_of_ble_eq_true rfl), (Nat.le_of_ble_eq_true rfl)⟩ [_, _] rfl rfl (Nat.le_of_ble_eq_true rfl) (Nat.le_of_ble_eq_true rfl) (Nat.le_of_ble_eq_true rfl) (o_X2 rfl) (t_takeLine ?_)
  rw [tcI_0 I S (ca (oc - 1))]
  refine aw_iconst (v := 0) (pc2 := 17) hk dX6_takeReadyCells_16 rfl (by decide) ?_
  refine aw_istore_n (pc2 := 18) hk dX6_takeReadyCells_17 rfl (by decide) ?_
  show AW K Q _ _ 18 [_, _, _, _, _] _ _ _
  exact loop ((nc (oc - 1)) + 1) 0 (by omega) (by omega)
/-- what settling does of a case -/
def WkC (w g oc : Nat) (nc : Nat → Nat) (ca : Nat → Nat → Nat) (b : Nat) (I : M2) (J : J2) (S : M2) (L : J2) (I' : M2) (J' : J2) (S' : M2) (L' : J2) : Prop := ∃ f rc vl0 vlo vf vb, S b 0 = nI f ∧ f < 12 ∧ S (14 + 4 * f) 1 = nI rc ∧ rc ≤ 4 ∧ vl0 = vLand I f ∧ vlo = mxL 0 (sL (lD (dvS (vk I (nI f)) (adC w g) (opl I) 256) (fun c => (prI I 75 c).toInt64) (S (14 + 4 * f) 0) (I 76 0)) (dvS (vk I (nI f)) (adC w g) (opl I) 256).1 - vLbf S L oc nc ca f) ∧ vf = (I 76 1).toInt64 * (vFnc I w g f).toInt64 ∧ vb = mnL (vl0 + vlo + vf) (wM (dvS (vk I (nI f)) (adC w g) (opl I) 256) (fun c => (prI I 75 c).toInt64) (S (14 + 4 * f) 0) * (I 76 2).toInt64 / 1000) ∧ FR I I' (dvS (vk I (nI f)) (adC w g) (opl I) 256) ∧ J' = (shS I' (u2 (u2 (u2 (u2 (u2 L b 6 vl0) b 7 vlo) b 8 vf) b 9 vb) b 10 (vl0 + vlo + vf - vb)) f b J rc).2 ∧ L' = u2 (u2 (u2 (u2 (u2 (u2 L b 6 vl0) b 7 vlo) b 8 vf) b 9 vb) b 10 (vl0 + vlo + vf - vb)) b 14 (shS I' (u2 (u2 (u2 (u2 (u2 L b 6 vl0) b 7 vlo) b 8 vf) b 9 vb) b 10 (vl0 + vlo + vf - vb)) f b J rc).1 ∧ S' = u2 (u2 (u2 (u2 (u2 (u2 S 7 0 (nI (dvS (vk I (nI f)) (adC w g) (opl I) 256).1)) 7 1 (opI (mD (dvS (vk I (nI f)) (adC w g) (opl I) 256) (S (14 + 4 * f) 0)))) b 2 4) b 3 (S 0 7)) b 5 (S 0 7)) b 4 (I 76 3)
def RunC (w g oc : Nat) (nc : Nat → Nat) (ca : Nat → Nat → Nat) (I : M2) (J : J2) (S : M2) (L : J2) : Nat → M2 → J2 → M2 → J2 → Prop
  | 0, I', J', S', L' => I' = I ∧ J' = J ∧ S' = S ∧ L' = L
  | i + 1, I2, J2, S2, L2 => ∃ I' J' S' L', RunC w g oc nc ca I J S L i I' J' S' L' ∧ ((rdy (S' (ca (oc - 1) i) 2) = true ∧ WkC w g oc nc ca (ca (oc - 1) i) I' J' S' L' I2 J2 S2 L2) ∨ (rdy (S' (ca (oc - 1) i) 2) = false ∧ I2 = I' ∧ J2 = J' ∧ S2 = S' ∧ L2 = L'))
def KpC (i : Nat) (cb : Nat → Nat) (I S I' S' : M2) : Prop := (∀ b, b ≠ 8 → b ≠ 9 → b ≠ 10 → b ≠ 11 → b ≠ 12 → I' b = I b) ∧ (∀ b, b ≠ 7 → (∀ j, j < i → b ≠ cb j) → S' b = S b) ∧ (∀ b, b ≠ 7 → S' b 0 = S b 0 ∧ S' b 1 = S b 1)
theorem RunC.kp {w g oc : Nat} {nc : Nat → Nat} {ca : Nat → Nat → Nat} {I : M2} {J : J2} {S : M2} {L : J2} : ∀ (i : Nat) (I' : M2) (J' : J2) (S' : M2) (L' : J2), RunC w g oc nc ca I J S L i I' J' S' L' → KpC i (ca (oc - 1)) I S I' S' := by
  intro i
  induction i with
  | zero =>
    rintro I' J' S' L' ⟨rfl, rfl, rfl, rfl⟩
    exact ⟨fun b _ _ _ _ _ => rfl, fun b _ _ => rfl, fun b _ => ⟨rfl, rfl⟩⟩
  | succ i ih =>
    rintro I2 J2 S2 L2 ⟨I', J', S', L', hr, h | h⟩
    · obtain ⟨hrd, f, rc, vl0, vlo, vf, vb, e1, e2, e3, e4, e5, e6, e7, e8, hF, hJ, hL, hS⟩ := h
      obtain ⟨k1, k2, k3⟩ := ih I' J' S' L' hr
      refine ⟨fun b h1 h2 h3 h4 h5 => (hF.1 b h1 h2 h3 h4 h5).trans (k1 b h1 h2 h3 h4 h5), fun b h7 hb => ?_, fun b h7 => ⟨?_, ?_⟩⟩
      · have hne := hb i (by omega)
        rw [hS, u2_row _ _ _ hne, u2_row _ _ _ hne, u2_row _ _ _ hne, u2_row _ _ _ hne, u2_row _ _ _ h7, u2_row _ _ _ h7]
        exact k2 b h7 (fun j hj => hb j (by omega))
      · rw [hS, u2_j _ _ _ _ (by decide), u2_j _ _ _ _ (by decide), u2_j _ _ _ _ (by decide), u2_j _ _ _ _ (by decide), u2_a _ _ _ _ h7, u2_a _ _ _ _ h7]
        exact (k3 b h7).1
      · rw [hS, u2_j _ _ _ _ (by decide), u2_j _ _ _ _ (by decide), u2_j _ _ _ _ (by decide), u2_j _ _ _ _ (by decide), u2_a _ _ _ _ h7, u2_a _ _ _ _ h7]
        exact (k3 b h7).2
    · obtain ⟨hrd, rfl, rfl, rfl, rfl⟩ := h
      obtain ⟨k1, k2, k3⟩ := ih _ _ _ _ hr
      exact ⟨k1, fun b h7 hb => k2 b h7 (fun j hj => hb j (by omega)), k3⟩
theorem CB.eq {S S' : M2} {R : R2} {w g fc oc uc td : Nat} (h : CB S R w g fc oc uc td) (h0 : S' 0 = S 0) (h1 : S' 1 = S 1) : CB S' R w g fc oc uc td := by
  unfold CB at *
  rw [h0, h1]
  exact h
theorem OrdB.eq {d : D2} {S S' : M2} {R : R2} {oc : Nat} {oa nc : Nat → Nat} {ca : Nat → Nat → Nat} (hO : OrdB d S R oc oa nc ca) (h : ∀ o, o < oc → S' (oa o) 2 = S (oa o) 2) : OrdB d S' R oc oa nc ca := fun o ho => ⟨(hO o ho).1, (hO o ho).2.1, (hO o ho).2.2.1, (hO o ho).2.2.2.1, (h o ho).trans (hO o ho).2.2.2.2.1, (hO o ho).2.2.2.2.2⟩
def rdC (S : M2) (cb : Nat → Nat) (i : Nat) : Int32 := sI (fun k => bi (rdy (S (cb k) 2))) i
theorem RunC_t {w g oc : Nat} {nc : Nat → Nat} {ca : Nat → Nat → Nat} {I : M2} {J : J2} {S : M2} {L : J2} {i : Nat} {I' : M2} {J' : J2} {S' : M2} {L' : J2} {I9 : M2} {J9 : J2} {S9 : M2} {L9 : J2} (h : RunC w g oc nc ca I J S L i I' J' S' L') (hrd : rdy (S' (ca (oc - 1) i) 2) = true) (hw : WkC w g oc nc ca (ca (oc - 1) i) I' J' S' L' I9 J9 S9 L9) : RunC w g oc nc ca I J S L (i + 1) I9 J9 S9 L9 := ⟨I', J', S', L', h, Or.inl ⟨hrd, hw⟩⟩
theorem RunC_f {w g oc : Nat} {nc : Nat → Nat} {ca : Nat → Nat → Nat} {I : M2} {J : J2} {S : M2} {L : J2} {i : Nat} {I' : M2} {J' : J2} {S' : M2} {L' : J2} (h : RunC w g oc nc ca I J S L i I' J' S' L') (hrd : rdy (S' (ca (oc - 1) i) 2) = false) : RunC w g oc nc ca I J S L (i + 1) I' J' S' L' := ⟨I', J', S', L', h, Or.inr ⟨hrd, rfl, rfl, rfl, rfl⟩⟩
set_option maxHeartbeats 800000 in
set_option maxRecDepth 100000 in
theorem t_settle {n : Nat} {d : D2} {I : M2} {J : J2} {S : M2} {L : J2} {R : R2} {Q : QT} {w g fc oc uc td : Nat} (hB : CB S R w g fc oc uc td) {oa nc : Nat → Nat} {ca : Nat → Nat → Nat} (hO : OrdB d S R oc oa nc ca) (h0 : 0 < oc) (hcf : ∀ k, k < nc (oc - 1) → ∃ f, f < fc ∧ S (ca (oc - 1) k) 0 = nI f) (hrc : ∀ j, j < fc → ∃ rc, rc ≤ 4 ∧ S (14 + 4 * j) 1 = nI rc) (hso : ∀ p, p < 256 → ∃ k, k < 4 ∧ I 3 p = nI k) (hlo : ∀ c, c < 256 → I 4 c ≠ 0 → I 2 c = -1) (hq : ∀ I' J' S' L', RunC w g oc nc ca I J S L (nc (oc - 1)) I' J' S' L' → Q (some (.int (rdC S (ca (oc - 1)) (nc (oc - 1))))) n (H5 d I' J' S' L' R)) : Calls yX6_settleReadyCases cX6_settleReadyCases 5 (some .int) rmX6_settleReadyCases [.ref 0, .ref (oa (oc - 1))] n (H5 d I J S L R) Q := by
  refine Calls.of (by decide) (Nat.le_of_ble_eq_true rfl) ?_
  intro K hk
  show AW K Q 0 0 0 [some (.ref 0), some (.ref (oa (oc - 1))), none, none, none] [] n (H5 d I J S L R)
  obtain ⟨hw, hg, hw1, hw6, hg1, hg6, hfc, hfc2, hoc, hoc6, huc, huc5, htd, htd4, hR13, hR62⟩ := id hB
  have hl0 := hO (oc - 1) (by omega)
  have hm12 := hl0.2.2.2.1
  have loop : ∀ (k i : Nat) (I' : M2) (J' : J2) (S' : M2) (L' : J2), i ≤ (nc (oc - 1)) → (nc (oc - 1)) + 1 ≤ i + k → RunC w g oc nc ca I J S L i I' J' S' L' → AW K Q 0 0 4 [some (.ref 0), some (.ref (oa (oc - 1))), some (.int (rdC S (ca (oc - 1)) i)), some (.int (nI i)), none] [] n (H5 d I' J' S' L' R) := by
    intro k
    induction k with
    | zero => intro i I' J' S' L' h1 h2; omega
    | succ k ih =>
      intro i I' J' S' L' hi hn hr
      obtain ⟨kA, kB, kC⟩ := RunC.kp i I' J' S' L' hr
      have hca : ∀ j, j < i → 115 ≤ ca (oc - 1) j := fun j hj => kd_ge (hl0.2.2.2.2.2 j (by omega)).2.1 (Or.inl rfl)
      have hB1 : CB S' R w g fc oc uc td := hB.eq (kB 0 (by decide) (fun j hj => by have := hca j hj; omega)) (kB 1 (by decide) (fun j hj => by have := hca j hj; omega))
      have hO1 : OrdB d S' R oc oa nc ca := hO.eq (fun o ho => by rw [kB (oa o) (by have := kd_ge (hO o ho).2.1 (Or.inr (Or.inl rfl)); omega) (fun j hj => hO.ne (hl0.2.2.2.2.2 j (by omega)).2.1 (by decide) o ho)])
      have hl := hO1 (oc - 1) (by omega)
      have hso1 : ∀ p, p < 256 → ∃ k, k < 4 ∧ I' 3 p = nI k := by rw [kA 3 (by decide) (by decide) (by decide) (by decide) (by decide)]; exact hso
      have hln1 : ∀ f, f < fc → ∀ b, b < 256 → opl I' b = true → kpt I' b (nI f) = false := fun f hf b hb h9 => by
        unfold opl at h9
        unfold kpt
        rw [kA 4 (by decide) (by decide) (by decide) (by decide) (by decide)] at h9
        rw [kA 2 (by decide) (by decide) (by decide) (by decide) (by decide)]
        have h8 : I 4 b ≠ 0 := fun e => by rw [e] at h9; simp at h9
        have h7 : ¬ (-1 : Int32) = nI f := fun e => nI_m1 (by omega) e.symm
        rw [hlo b hb h8]
        simp [h7]
      refine aw_iload_n (pc2 := 5) hk dX6_settleReadyCases_4 rfl rfl ?_
      refine aw_aload_n (pc2 := 6) hk dX6_settleReadyCases_5 rfl rfl ?_
      refine aw_get (pc2 := 9) hk ckX3 2 dX6_settleReadyCases_6 rfl fl_X6_147 (by decide) (o_X3 hl.2.1) rfl ?_
      refine aw_icN_ge (x := i) (y := (nc (oc - 1))) (tgt := 100) (pc2 := 12) hk dX6_settleReadyCases_9 (by decide) rfl rfl hl.2.2.2.2.1 (by omega) (by omega) (fun c9 => ?_) (fun c9 => ?_)
      · have ei : i = (nc (oc - 1)) := by omega
        rw [ei] at hr ⊢
        refine aw_iload_n (pc2 := 101) hk dX6_settleReadyCases_100 rfl rfl ?_
        refine aw_iret hk dX6_settleReadyCases_101 (Nat.le_of_ble_eq_true rfl) (Nat.le_of_ble_eq_true rfl) (hq I' J' S' L' hr)
      · refine aw_aload_n (pc2 := 13) hk dX6_settleReadyCases_12 rfl rfl ?_
        refine aw_iload_n (pc2 := 14) hk dX6_settleReadyCases_13 rfl rfl ?_
        refine aw_cV (rm2 := rmX3_caseAt) (pc2 := 17) hk veX3_caseAt dX6_settleReadyCases_14 rfl ml_X6_150 ⟨(Nat.le_of_ble_eq_true rfl), (Nat.le_of_ble_eq_true rfl)⟩ [_] rfl rfl (Nat.le_of_ble_eq_true rfl) (Nat.le_of_ble_eq_true rfl) (Nat.le_of_ble_eq_true rfl) (o_X3 hl.2.1) (t_caseAt hl.2 rfl c9 ?_)
        refine aw_astore (pc2 := 19) hk dX6_settleReadyCases_17 rfl (by decide) ?_
        show AW K Q _ _ 19 [_, _, _, _, _] _ _ _
        refine aw_aload (pc2 := 21) hk dX6_settleReadyCases_19 rfl rfl ?_
        refine aw_ifnull_r (pc2 := 24) hk dX6_settleReadyCases_21 rfl ?_
        refine aw_aload (pc2 := 26) hk dX6_settleReadyCases_24 rfl rfl ?_
        refine aw_cV (rm2 := rmX0_isReady) (pc2 := 29) hk veX0_isReady dX6_settleReadyCases_26 rfl ml_X6_209 ⟨(Nat.le_of_ble_eq_true rfl), (Nat.le_of_ble_eq_true rfl)⟩ [] rfl rfl (Nat.le_of_ble_eq_true rfl) (Nat.le_of_ble_eq_true rfl) (Nat.le_of_ble_eq_true rfl) (o_X0 (hl.2.2.2.2.2 i c9).2.1) (t_isReady (hl.2.2.2.2.2 i c9).2.1 ?_)
        have hs2 : S' (ca (oc - 1) i) 2 = S (ca (oc - 1) i) 2 := by
          rw [kB (ca (oc - 1) i) (by have := kd_ge (hl.2.2.2.2.2 i c9).2.1 (Or.inl rfl); omega) (fun j hj e => by have := (ca_inj hO (show oc - 1 < oc by omega) c9 (show oc - 1 < oc by omega) (show j < (nc (oc - 1)) by omega) e).2; omega)]
        obtain ⟨f, hf2, hf⟩ := hcf i c9
        have hf1 : S' (ca (oc - 1) i) 0 = nI f := (kC (ca (oc - 1) i) (by have := kd_ge (hl.2.2.2.2.2 i c9).2.1 (Or.inl rfl); omega)).1.trans hf
        obtain ⟨rc, hrc4, hrc⟩ := hrc f hf2
        have hrc1 : S' (14 + 4 * f) 1 = nI rc := (kC (14 + 4 * f) (by omega)).2.trans hrc
        refine aw_if_eq (tgt := 94) (pc2 := 32) hk dX6_settleReadyCases_29 (by decide) rfl (fun c29 => ?_) (fun c29 => ?_)
        · refine aw_iinc1 (pc2 := 97) hk dX6_settleReadyCases_94 rfl rfl (by decide) ?_
          show AW K Q _ _ 97 [_, _, _, _, _] _ _ _
          refine aw_goto (tgt := 4) hk dX6_settleReadyCases_97 (by decide) ?_
          refine aw_fg 4 ?_
          first
            | (have hr3 := hr2
               refine aw_lv [some (.ref 0), some (.ref (oa (oc - 1))), some (.int (rdC S (ca (oc - 1)) (i + 1))), some (.int (nI (i + 1))), none] (by show _ = [_, _, some (Value.int (rdC S (ca (oc - 1)) i + bi (rdy (S (ca (oc - 1) i) 2)))), _, _]; rw [← hs2, hrd]; rfl) ?_
               exact ih (i + 1) _ _ _ _ (by omega) (by omega) hr3)
            | (have hrd : rdy (S' (ca (oc - 1) i) 2) = false := bi_ff c29
               refine aw_lv [some (.ref 0), some (.ref (oa (oc - 1))), some (.int (rdC S (ca (oc - 1)) (i + 1))), some (.int (nI (i + 1))), none] (by show _ = [_, _, some (Value.int (rdC S (ca (oc - 1)) i + bi (rdy (S (ca (oc - 1) i) 2)))), _, _]; rw [← hs2, hrd]; show _ = [_, _, some (Value.int (rdC S (ca (oc - 1)) i + 0)), _, _]; rw [Int32.add_zero]; rfl) ?_
               exact ih (i + 1) I' J' S' L' (by omega) (by omega) (RunC_f hr hrd))
        · refine aw_aload_n (pc2 := 33) hk dX6_settleReadyCases_32 rfl rfl ?_
          refine aw_aload (pc2 := 35) hk dX6_settleReadyCases_33 rfl rfl ?_
          refine aw_get (pc2 := 38) hk ckX0 0 dX6_settleReadyCases_35 rfl fl_X6_212 (by decide) (o_X0 (hl.2.2.2.2.2 i c9).2.1) rfl ?_
          refine aw_cV (rm2 := rmX6_isField) (pc2 := 41) hk veX6_isField dX6_settleReadyCases_38 rfl ml_X6_69 ⟨(Nat.le_of_ble_eq_true rfl), (Nat.le_of_ble_eq_true rfl)⟩ [_] rfl rfl (Nat.le_of_ble_eq_true rfl) (Nat.le_of_ble_eq_true rfl) (Nat.le_of_ble_eq_true rfl) (o_X6 rfl) (t_isField hB1 ?_)
          refine aw_if_eq (tgt := 94) (pc2 := 44) hk dX6_settleReadyCases_41 (by decide) rfl (fun c41 => absurd c41 (fun e => bi_no e (by rw [hf1, nI_toInt (by omega)]; omega))) (fun c41 => ?_)
          refine aw_aload_n (pc2 := 45) hk dX6_settleReadyCases_44 rfl rfl ?_
          refine aw_aload (pc2 := 47) hk dX6_settleReadyCases_45 rfl rfl ?_
          refine aw_aload_n (pc2 := 48) hk dX6_settleReadyCases_47 rfl rfl ?_
          refine aw_get (pc2 := 51) hk ckX6 2 dX6_settleReadyCases_48 rfl fl_X6_25 (by decide) (o_X6 rfl) rfl ?_
          refine aw_aload (pc2 := 53) hk dX6_settleReadyCases_51 rfl rfl ?_
          refine aw_get (pc2 := 56) hk ckX0 0 dX6_settleReadyCases_53 rfl fl_X6_212 (by decide) (o_X0 (hl.2.2.2.2.2 i c9).2.1) rfl ?_
          refine h_aald (pc2 := 57) hk dX6_settleReadyCases_56 rfl (Or.inl rfl) rfl hf1 (by omega) (by decide) (by rw [hR13 f (by omega)]) ?_
          refine aw_cV (rm2 := rmX6_assess) (pc2 := 60) hk veX6_assess dX6_settleReadyCases_57 rfl ml_X6_215 ⟨(Nat.le_of_ble_eq_true rfl), (Nat.le_of_ble_eq_true rfl)⟩ [_, _] rfl rfl (Nat.le_of_ble_eq_true rfl) (Nat.le_of_ble_eq_true rfl) (Nat.le_of_ble_eq_true rfl) (o_X6 rfl) (t_assess hB1 hO1 (hl.2.2.2.2.2 i c9).2.1 h0 hf1 hf2 hso1 (hln1 f hf2) rfl rfl rfl rfl (fun I1 hF => ?_))
          refine aw_aload_n (pc2 := 61) hk dX6_settleReadyCases_60 rfl rfl ?_
          refine aw_aload (pc2 := 63) hk dX6_settleReadyCases_61 rfl rfl ?_
          refine aw_aload_n (pc2 := 64) hk dX6_settleReadyCases_63 rfl rfl ?_
          have hb7 : (ca (oc - 1) i) ≠ 7 := by have := kd_ge (hl.2.2.2.2.2 i c9).2.1 (Or.inl rfl); omega
          refine aw_get (pc2 := 67) hk ckX6 2 dX6_settleReadyCases_64 rfl fl_X6_25 (by decide) (o_X6 rfl) rfl ?_
          refine aw_aload (pc2 := 69) hk dX6_settleReadyCases_67 rfl rfl ?_
          refine aw_get (pc2 := 72) hk ckX0 0 dX6_settleReadyCases_69 rfl fl_X6_212 (by decide) (o_X0 (hl.2.2.2.2.2 i c9).2.1) rfl ?_
          refine h_aald (pc2 := 73) hk dX6_settleReadyCases_72 rfl (Or.inl rfl) rfl (by rw [u2_a _ _ _ _ hb7, u2_a _ _ _ _ hb7]; exact hf1) (by omega) (by decide) (by rw [hR13 f (by omega)]) ?_
          refine aw_cV (rm2 := rmX6_share) (pc2 := 76) hk veX6_share dX6_settleReadyCases_73 rfl ml_X6_219 ⟨(Nat.le_of_ble_eq_true rfl), (Nat.le_of_ble_eq_true rfl)⟩ [_, _] rfl rfl (Nat.le_of_ble_eq_true rfl) (Nat.le_of_ble_eq_true rfl) (Nat.le_of_ble_eq_true rfl) (o_X6 rfl) (t_share (hl.2.2.2.2.2 i c9).2.1 (hl.2.2.2.2.2 i c9).2.2 (by omega) (by rw [u2_a _ _ _ _ (by omega), u2_a _ _ _ _ (by omega)]; exact hrc1) hrc4 ?_)
          refine aw_aload (pc2 := 78) hk dX6_settleReadyCases_76 rfl rfl ?_
          refine aw_aload_n (pc2 := 79) hk dX6_settleReadyCases_78 rfl rfl ?_
          refine aw_get (pc2 := 82) hk ckX6 7 dX6_settleReadyCases_79 rfl fl_X6_121 (by decide) (o_X6 rfl) rfl ?_
          refine aw_aload_n (pc2 := 83) hk dX6_settleReadyCases_82 rfl rfl ?_
          refine aw_get (pc2 := 86) hk ckX6 6 dX6_settleReadyCases_83 rfl fl_X6_41 (by decide) (o_X6 rfl) rfl ?_
          refine aw_iconst (v := 3) (pc2 := 87) hk dX6_settleReadyCases_86 rfl (by decide) ?_
          refine h_iald (pc2 := 88) hk dX6_settleReadyCases_87 rfl rfl (show (3 : Int32) = nI 3 from rfl) (by decide) (by decide) ?_
          rw [hF.1 76 (by decide) (by decide) (by decide) (by decide) (by decide)]
          refine aw_cV (rm2 := rmX0_enterOn) (pc2 := 91) hk veX0_enterOn dX6_settleReadyCases_88 rfl ml_X6_222 ⟨(Nat.le_of_ble_eq_true rfl), (Nat.le_of_ble_eq_true rfl)⟩ [_, _] rfl rfl (Nat.le_of_ble_eq_true rfl) (Nat.le_of_ble_eq_true rfl) (Nat.le_of_ble_eq_true rfl) (o_X0 (hl.2.2.2.2.2 i c9).2.1) (t_enterOn (hl.2.2.2.2.2 i c9).2.1 ?_)
          rw [u2_a _ _ _ _ (show (0 : Nat) ≠ 7 by decide), u2_a _ _ _ _ (show (0 : Nat) ≠ 7 by decide)]
          have hrd : rdy (S' (ca (oc - 1) i) 2) = true := bi_tt c29
          have hr2 := RunC_t hr hrd ⟨f, rc, _, _, _, _, hf1, by omega, hrc1, hrc4, rfl, rfl, rfl, rfl, hF, rfl, rfl, rfl⟩
          refine aw_iinc (pc2 := 94) hk dX6_settleReadyCases_91 rfl rfl rfl (by decide) ?_
          show AW K Q _ _ 94 [_, _, _, _, _] _ _ _
          refine aw_iinc1 (pc2 := 97) hk dX6_settleReadyCases_94 rfl rfl (by decide) ?_
          show AW K Q _ _ 97 [_, _, _, _, _] _ _ _
          refine aw_goto (tgt := 4) hk dX6_settleReadyCases_97 (by decide) ?_
          refine aw_fg 4 ?_
          first
            | (have hr3 := hr2
               refine aw_lv [some (.ref 0), some (.ref (oa (oc - 1))), some (.int (rdC S (ca (oc - 1)) (i + 1))), some (.int (nI (i + 1))), none] (by show _ = [_, _, some (Value.int (rdC S (ca (oc - 1)) i + bi (rdy (S (ca (oc - 1) i) 2)))), _, _]; rw [← hs2, hrd]; rfl) ?_
               exact ih (i + 1) _ _ _ _ (by omega) (by omega) hr3)
            | (have hrd : rdy (S' (ca (oc - 1) i) 2) = false := bi_ff c29
               refine aw_lv [some (.ref 0), some (.ref (oa (oc - 1))), some (.int (rdC S (ca (oc - 1)) (i + 1))), some (.int (nI (i + 1))), none] (by show _ = [_, _, some (Value.int (rdC S (ca (oc - 1)) i + bi (rdy (S (ca (oc - 1) i) 2)))), _, _]; rw [← hs2, hrd]; show _ = [_, _, some (Value.int (rdC S (ca (oc - 1)) i + 0)), _, _]; rw [Int32.add_zero]; rfl) ?_
               exact ih (i + 1) I' J' S' L' (by omega) (by omega) (RunC_f hr hrd))
  refine aw_iconst (v := 0) (pc2 := 1) hk dX6_settleReadyCases_0 rfl (by decide) ?_
  refine aw_istore_n (pc2 := 2) hk dX6_settleReadyCases_1 rfl (by decide) ?_
  show AW K Q _ _ 2 [_, _, _, _, _] _ _ _
  refine aw_iconst (v := 0) (pc2 := 3) hk dX6_settleReadyCases_2 rfl (by decide) ?_
  refine aw_istore_n (pc2 := 4) hk dX6_settleReadyCases_3 rfl (by decide) ?_
  show AW K Q _ _ 4 [_, _, _, _, _] _ _ _
  exact loop ((nc (oc - 1)) + 1) 0 I J S L (by omega) (by omega) ⟨rfl, rfl, rfl, rfl⟩
def prD (I S : M2) (s : Nat) : Int32 := (onS (I (63 + 3 * s + 1)) (I (63 + 3 * s + 2)) (S 0 7) (S (63 + 3 * s) 0).toNatClampNeg).2
set_option maxHeartbeats 800000 in
set_option maxRecDepth 100000 in
theorem t_enter {n : Nat} {d : D2} {I : M2} {J : J2} {S : M2} {L : J2} {R : R2} {Q : QT} {w g fc oc uc td : Nat} (hB : CB S R w g fc oc uc td) {oa nc : Nat → Nat} {ca : Nat → Nat → Nat} (hO : OrdB d S R oc oa nc ca) (hpc : ∀ s, s < 4 → ∃ c, c ≤ 20 ∧ S (63 + 3 * s) 0 = nI c) (hcf : ∀ o, o < oc → ∀ k, k < nc o → ∃ f, f < fc ∧ S (ca o k) 0 = nI f) (hrc : ∀ j, j < fc → ∃ rc, rc ≤ 4 ∧ S (14 + 4 * j) 1 = nI rc) (hso : ∀ p, p < 256 → ∃ k, k < 4 ∧ I 3 p = nI k) (hlo : ∀ c, c < 256 → I 4 c ≠ 0 → I 2 c = -1) (hq1 : ¬ opn S oc nc ca → Q (some (.int (-103))) n (H5 d I J S L R)) (hq2 : opn S oc nc ca → ¬ (S (oa (oc - 1)) 0 + S (oa (oc - 1)) 1 ≤ S 0 7 ∧ anyB (fun k => rdy (S (ca (oc - 1) k) 2)) (nc (oc - 1)) = true) → Q (some (.int (-103))) n (H5 d I J S L R)) (hq3 : opn S oc nc ca → (S (oa (oc - 1)) 0 + S (oa (oc - 1)) 1 ≤ S 0 7 ∧ anyB (fun k => rdy (S (ca (oc - 1) k) 2)) (nc (oc - 1)) = true) → ∀ I' J' S' L', RunC w g oc nc ca (tcI (rowU I 75 4 (prD I S)) S (ca (oc - 1)) (nI (oc - 1)) (nc (oc - 1))) J S L (nc (oc - 1)) I' J' S' L' → allB (fun k => dnS (S' (ca (oc - 1) k) 2)) (nc (oc - 1)) = true → Q (some (.int (rdC S (ca (oc - 1)) (nc (oc - 1))))) n (H5 d (rowU I' 5 256 (fun _ => 0)) J' S' L' R)) (hq4 : opn S oc nc ca → (S (oa (oc - 1)) 0 + S (oa (oc - 1)) 1 ≤ S 0 7 ∧ anyB (fun k => rdy (S (ca (oc - 1) k) 2)) (nc (oc - 1)) = true) → ∀ I' J' S' L', RunC w g oc nc ca (tcI (rowU I 75 4 (prD I S)) S (ca (oc - 1)) (nI (oc - 1)) (nc (oc - 1))) J S L (nc (oc - 1)) I' J' S' L' → allB (fun k => dnS (S' (ca (oc - 1) k) 2)) (nc (oc - 1)) = false → Q (some (.int (rdC S (ca (oc - 1)) (nc (oc - 1))))) n (H5 d I' J' S' L' R)) : Calls yX6_enter cX6_enter 3 (some .int) rmX6_enter [.ref 0] n (H5 d I J S L R) Q := by
  refine Calls.of (by decide) (Nat.le_of_ble_eq_true rfl) ?_
  intro K hk
  show AW K Q 0 0 0 [some (.ref 0), none, none] [] n (H5 d I J S L R)
  obtain ⟨hw, hg, hw1, hw6, hg1, hg6, hfc, hfc2, hoc, hoc6, huc, huc5, htd, htd4, hR13, hR62⟩ := id hB
  by_cases h1 : opn S oc nc ca
  · have hl := hO (oc - 1) (by have := h1.1; omega)
    refine aw_aload_n (pc2 := 1) hk dX6_enter_0 rfl rfl ?_
    refine aw_cV (rm2 := rmX6_openOrder) (pc2 := 4) hk veX6_openOrder dX6_enter_1 rfl ml_X6_124 ⟨(Nat.le_of_ble_eq_true rfl), (Nat.le_of_ble_eq_true rfl)⟩ [] rfl rfl (Nat.le_of_ble_eq_true rfl) (Nat.le_of_ble_eq_true rfl) (Nat.le_of_ble_eq_true rfl) (o_X6 rfl) (t_open hB hO h1 ?_)
    refine aw_astore_n (pc2 := 5) hk dX6_enter_4 rfl (by decide) ?_
    show AW K Q _ _ 5 [_, _, _] _ _ _
    refine aw_aload_n (pc2 := 6) hk dX6_enter_5 rfl rfl ?_
    refine aw_ifnull_r (pc2 := 9) hk dX6_enter_6 rfl ?_
    refine aw_aload_n (pc2 := 10) hk dX6_enter_9 rfl rfl ?_
    refine aw_get (pc2 := 13) hk ckX6 7 dX6_enter_10 rfl fl_X6_121 (by decide) (o_X6 rfl) rfl ?_
    refine aw_aload_n (pc2 := 14) hk dX6_enter_13 rfl rfl ?_
    refine aw_cV (rm2 := rmX3_noticeEnd) (pc2 := 17) hk veX3_noticeEnd dX6_enter_14 rfl ml_X6_159 ⟨(Nat.le_of_ble_eq_true rfl), (Nat.le_of_ble_eq_true rfl)⟩ [] rfl rfl (Nat.le_of_ble_eq_true rfl) (Nat.le_of_ble_eq_true rfl) (Nat.le_of_ble_eq_true rfl) (o_X3 hl.2.1) (t_noticeEnd hl.2.1 ?_)
    refine aw_icmp_lt (tgt := 27) (pc2 := 20) hk dX6_enter_17 (by decide) rfl (fun c17 => ?_) (fun c17 => ?_)
    · refine aw_bipush (v := -103) (pc2 := 29) hk dX6_enter_27 rfl (by decide) ?_
      refine aw_iret hk dX6_enter_29 (Nat.le_of_ble_eq_true rfl) (Nat.le_of_ble_eq_true rfl) (by first | exact hq2 h1 (fun h9 => by rw [i_lt] at c17; have h8 := h9.1; rw [i_le] at h8; omega) | exact hq2 h1 (fun h9 => by rw [h9.2] at c24; cases c24))
    · refine aw_aload_n (pc2 := 21) hk dX6_enter_20 rfl rfl ?_
      refine aw_cV (rm2 := rmX3_hasReady) (pc2 := 24) hk veX3_hasReady dX6_enter_21 rfl ml_X6_167 ⟨(Nat.le_of_ble_eq_true rfl), (Nat.le_of_ble_eq_true rfl)⟩ [] rfl rfl (Nat.le_of_ble_eq_true rfl) (Nat.le_of_ble_eq_true rfl) (Nat.le_of_ble_eq_true rfl) (o_X3 hl.2.1) (t_hasReady hl.2 ?_)
      refine aw_if_ne (tgt := 30) (pc2 := 27) hk dX6_enter_24 (by decide) rfl (fun c24 => ?_) (fun c24 => ?_)
      · have hcnd : (S (oa (oc - 1)) 0 + S (oa (oc - 1)) 1 ≤ S 0 7 ∧ anyB (fun k => rdy (S (ca (oc - 1) k) 2)) (nc (oc - 1)) = true) := ⟨by rw [i_le]; rw [i_lt] at c17; omega, bi_tt c24⟩
        have PC : AW K Q 0 0 62 [some (.ref 0), some (.ref (oa (oc - 1))), some (.int (nI 4))] [] n (H5 d (rowU I 75 4 (prD I S)) J S L R) := by
          refine aw_aload_n (pc2 := 63) hk dX6_enter_62 rfl rfl ?_
          refine aw_aload_n (pc2 := 64) hk dX6_enter_63 rfl rfl ?_
          refine aw_cV (rm2 := rmX6_takeReadyCells) (pc2 := 67) hk veX6_takeReadyCells dX6_enter_64 rfl ml_X6_170 ⟨(Nat.le_of_ble_eq_true rfl), (Nat.le_of_ble_eq_true rfl)⟩ [_] rfl rfl (Nat.le_of_ble_eq_true rfl) (Nat.le_of_ble_eq_true rfl) (Nat.le_of_ble_eq_true rfl) (o_X6 rfl) (t_takeReady hB hO h1.1 ?_)
          refine aw_aload_n (pc2 := 68) hk dX6_enter_67 rfl rfl ?_
          refine aw_aload_n (pc2 := 69) hk dX6_enter_68 rfl rfl ?_
          refine aw_cV (rm2 := rmX6_settleReadyCases) (pc2 := 72) hk veX6_settleReadyCases dX6_enter_69 rfl ml_X6_173 ⟨(Nat.le_of_ble_eq_true rfl), (Nat.le_of_ble_eq_true rfl)⟩ [_] rfl rfl (Nat.le_of_ble_eq_true rfl) (Nat.le_of_ble_eq_true rfl) (Nat.le_of_ble_eq_true rfl) (o_X6 rfl) (t_settle hB hO h1.1 (hcf (oc - 1) (by have := h1.1; omega)) hrc (by rw [tcI_row _ _ _ _ _ (by decide), rowU_ne _ _ _ (by decide)]; exact hso) (by rw [tcI_row _ _ _ _ _ (by decide), tcI_row _ _ _ _ _ (by decide), rowU_ne _ _ _ (by decide), rowU_ne _ _ _ (by decide)]; exact hlo) (fun I' J' S' L' hr => ?_))
          obtain ⟨kA, kB, kC⟩ := RunC.kp _ I' J' S' L' hr
          have h0 := h1.1
          have hO1 : OrdB d S' R oc oa nc ca := hO.eq (fun o ho => by rw [kB (oa o) (by have := kd_ge (hO o ho).2.1 (Or.inr (Or.inl rfl)); omega) (fun j hj => hO.ne (hl.2.2.2.2.2 j hj).2.1 (by decide) o ho)])
          refine aw_istore_n (pc2 := 73) hk dX6_enter_72 rfl (by decide) ?_
          show AW K Q _ _ 73 [_, _, _] _ _ _
          refine aw_aload_n (pc2 := 74) hk dX6_enter_73 rfl rfl ?_
          refine aw_aload_n (pc2 := 75) hk dX6_enter_74 rfl rfl ?_
          refine aw_cV (rm2 := rmX6_emptyLineIfDone) (pc2 := 78) hk veX6_emptyLineIfDone dX6_enter_75 rfl ml_X6_163 ⟨(Nat.le_of_ble_eq_true rfl), (Nat.le_of_ble_eq_true rfl)⟩ [_] rfl rfl (Nat.le_of_ble_eq_true rfl) (Nat.le_of_ble_eq_true rfl) (Nat.le_of_ble_eq_true rfl) (o_X6 rfl) (t_eld (hO1 (oc - 1) (by omega)).2 (fun h9 => ?_) (fun h9 => ?_))
          · refine aw_iload_n (pc2 := 79) hk dX6_enter_78 rfl rfl ?_
            exact aw_iret hk dX6_enter_79 (Nat.le_of_ble_eq_true rfl) (Nat.le_of_ble_eq_true rfl) (hq3 h1 hcnd I' J' S' L' hr h9)
          · refine aw_iload_n (pc2 := 79) hk dX6_enter_78 rfl rfl ?_
            exact aw_iret hk dX6_enter_79 (Nat.le_of_ble_eq_true rfl) (Nat.le_of_ble_eq_true rfl) (hq4 h1 hcnd I' J' S' L' hr h9)
        have loop : ∀ (k i : Nat), i ≤ 4 → 5 ≤ i + k → AW K Q 0 0 32 [some (.ref 0), some (.ref (oa (oc - 1))), some (.int (nI i))] [] n (H5 d (rowU I 75 i (prD I S)) J S L R) := by
          intro k
          induction k with
          | zero => intro i h1 h2; omega
          | succ k ih =>
            intro i hi hn
            refine aw_iload_n (pc2 := 33) hk dX6_enter_32 rfl rfl ?_
            refine aw_iconst (v := 4) (pc2 := 34) hk dX6_enter_33 rfl (by decide) ?_
            refine aw_icN_ge (x := i) (y := 4) (tgt := 62) (pc2 := 37) hk dX6_enter_34 (by decide) rfl rfl rfl (by omega) (by omega) (fun c34 => ?_) (fun c34 => ?_)
            · obtain rfl : i = 4 := by omega
              exact PC
            · obtain ⟨pc0, hpc20, hpc0⟩ := hpc i (by omega)
              obtain ⟨k1, k2, k3⟩ := kdP d (show i < 4 by omega)
              refine aw_aload_n (pc2 := 38) hk dX6_enter_37 rfl rfl ?_
              refine aw_get (pc2 := 41) hk ckX6 5 dX6_enter_38 rfl fl_X6_37 (by decide) (o_X6 rfl) rfl ?_
              refine aw_iload_n (pc2 := 42) hk dX6_enter_41 rfl rfl ?_
              refine aw_aload_n (pc2 := 43) hk dX6_enter_42 rfl rfl ?_
              refine aw_get (pc2 := 46) hk ckX6 4 dX6_enter_43 rfl fl_X6_32 (by decide) (o_X6 rfl) rfl ?_
              refine aw_iload_n (pc2 := 47) hk dX6_enter_46 rfl rfl ?_
              refine h_aald (pc2 := 48) hk dX6_enter_47 rfl (Or.inr (Or.inl rfl)) rfl rfl (by omega) (by decide) (by rw [hR62 i (by omega)]) ?_
              refine aw_aload_n (pc2 := 49) hk dX6_enter_48 rfl rfl ?_
              refine aw_get (pc2 := 52) hk ckX6 7 dX6_enter_49 rfl fl_X6_121 (by decide) (o_X6 rfl) rfl ?_
              refine aw_cV (rm2 := rmX4_on) (pc2 := 55) hk veX4_on dX6_enter_52 rfl ml_X6_114 ⟨(Nat.le_of_ble_eq_true rfl), (Nat.le_of_ble_eq_true rfl)⟩ [_] rfl rfl (Nat.le_of_ble_eq_true rfl) (Nat.le_of_ble_eq_true rfl) (Nat.le_of_ble_eq_true rfl) (o_X4 k1) (t_on k1 k2 k3 hpc0 hpc20 ?_)
              refine aw_top (prD I S i) (by unfold prD; rw [hpc0, nI_clamp (by omega), rowU_ne _ _ _ (by omega), rowU_ne _ _ _ (by omega)]) ?_
              refine h_iast (pc2 := 56) hk dX6_enter_55 rfl rfl rfl (by omega) (by decide) ?_
              rw [rowU_st I 75 i (prD I S) rfl]
              refine aw_iinc1 (pc2 := 59) hk dX6_enter_56 rfl rfl (by decide) ?_
              show AW K Q _ _ 59 [_, _, _] _ _ _
              refine aw_goto (tgt := 32) hk dX6_enter_59 (by decide) ?_
              exact ih (i + 1) (by omega) (by omega)
        refine aw_iconst (v := 0) (pc2 := 31) hk dX6_enter_30 rfl (by decide) ?_
        refine aw_istore_n (pc2 := 32) hk dX6_enter_31 rfl (by decide) ?_
        show AW K Q _ _ 32 [_, _, _] _ _ _
        refine aw_I (rowU I 75 0 (prD I S)) (rowU_0 _ _ _).symm ?_
        exact loop 5 0 (by omega) (by omega)
      · refine aw_bipush (v := -103) (pc2 := 29) hk dX6_enter_27 rfl (by decide) ?_
        refine aw_iret hk dX6_enter_29 (Nat.le_of_ble_eq_true rfl) (Nat.le_of_ble_eq_true rfl) (by first | exact hq2 h1 (fun h9 => by rw [i_lt] at c17; have h8 := h9.1; rw [i_le] at h8; omega) | exact hq2 h1 (fun h9 => by rw [h9.2] at c24; cases c24))
  · refine aw_aload_n (pc2 := 1) hk dX6_enter_0 rfl rfl ?_
    refine aw_cV (rm2 := rmX6_openOrder) (pc2 := 4) hk veX6_openOrder dX6_enter_1 rfl ml_X6_124 ⟨(Nat.le_of_ble_eq_true rfl), (Nat.le_of_ble_eq_true rfl)⟩ [] rfl rfl (Nat.le_of_ble_eq_true rfl) (Nat.le_of_ble_eq_true rfl) (Nat.le_of_ble_eq_true rfl) (o_X6 rfl) (t_openN hB hO h1 ?_)
    refine aw_astore_nN (pc2 := 5) hk dX6_enter_4 rfl (by decide) ?_
    show AW K Q _ _ 5 [_, _, _] _ _ _
    refine aw_aload_nN (pc2 := 6) hk dX6_enter_5 rfl rfl ?_
    refine aw_ifnull_n (tgt := 27) hk dX6_enter_6 (by decide) ?_
    refine aw_bipush (v := -103) (pc2 := 29) hk dX6_enter_27 rfl (by decide) ?_
    refine aw_iret hk dX6_enter_29 (Nat.le_of_ble_eq_true rfl) (Nat.le_of_ble_eq_true rfl) (hq1 h1)
