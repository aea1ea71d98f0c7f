def OrdB (d : D2) (S : M2) (R : R2) (oc : Nat) (oa nc : Nat → Nat) (ca : Nat → Nat → Nat) : Prop := ∀ o, o < oc → R 77 o = some (oa o) ∧ ordOK d S R o (oa o) (nc o) (ca o)
def dn (S : M2) (nc : Nat → Nat) (ca : Nat → Nat → Nat) (o : Nat) : Bool := allB (fun k => dnS (S (ca o k) 2)) (nc o)
/-- an order is made and not done -/
def opn (S : M2) (oc : Nat) (nc : Nat → Nat) (ca : Nat → Nat → Nat) : Prop := 0 < oc ∧ dn S nc ca (oc - 1) = false
theorem OrdB.u2S {d : D2} {S : M2} {R : R2} {oc : Nat} {oa nc : Nat → Nat} {ca : Nat → Nat → Nat} (hO : OrdB d S R oc oa nc ca) {b : Nat} (j : Nat) (v : Int32) (hb : ∀ o, o < oc → oa o ≠ b) : OrdB d (u2 S b j v) R oc oa nc ca := fun o ho => ⟨(hO o ho).1, (hO o ho).2.1, (hO o ho).2.2.1, (hO o ho).2.2.2.1, by rw [u2_a _ _ _ _ (hb o ho)]; exact (hO o ho).2.2.2.2.1, (hO o ho).2.2.2.2.2⟩
theorem OrdB.ne {d : D2} {S : M2} {R : R2} {oc : Nat} {oa nc : Nat → Nat} {ca : Nat → Nat → Nat} (hO : OrdB d S R oc oa nc ca) {b k t : Nat} (hb : kd d b = (k, t)) (hk : k ≠ 13) : ∀ o, o < oc → oa o ≠ b := fun o ho e => by
  have h1 := (hO o ho).2.1
  rw [e, hb] at h1
  simp at h1
  exact hk h1.1
theorem ca_inj {d : D2} {S : M2} {R : R2} {oc : Nat} {oa nc : Nat → Nat} {ca : Nat → Nat → Nat} (hO : OrdB d S R oc oa nc ca) {o k o' k' : Nat} (h1 : o < oc) (h2 : k < nc o) (h3 : o' < oc) (h4 : k' < nc o') (e : ca o k = ca o' k') : o = o' ∧ k = k' := by
  have a1 := ((hO o h1).2.2.2.2.2 k h2).2.1
  have a2 := ((hO o' h3).2.2.2.2.2 k' h4).2.1
  have b1 := (hO o h1).2.2.2.1
  have b2 := (hO o' h3).2.2.2.1
  rw [e, a2] at a1
  simp at a1
  omega
theorem kd_ge {d : D2} {a k t : Nat} (h : kd d a = (k, t)) (hk : k = 10 ∨ k = 13 ∨ k = 7) : 115 ≤ a := by
  rcases Nat.lt_or_ge a 115 with q | q
  · exfalso
    have h2 : ∀ a, a < 115 → (kL.getD a (0, 0)).1 ≠ 10 ∧ (kL.getD a (0, 0)).1 ≠ 13 ∧ (kL.getD a (0, 0)).1 ≠ 7 := by decide +kernel
    have h3 := h2 a q
    unfold kd at h
    rw [if_pos q] at h
    rw [h] at h3
    simp at h3
    omega
  · exact q
set_option maxHeartbeats 800000 in
set_option maxRecDepth 100000 in
theorem t_orderAt {n : Nat} {d : D2} {I : M2} {J : J2} {S : M2} {L : J2} {R : R2} {Q : QT} {w g fc oc uc td : Nat} (hB : CB S R w g fc oc uc td) {oa nc : Nat → Nat} {ca : Nat → Nat → Nat} (hO : OrdB d S R oc oa nc ca) {x : Int32} {o : Nat} (hx : x = nI o) (ho : o < oc) (hq : Q (some (.ref (oa o))) n (H5 d I J S L R)) : Calls yX6_orderAt cX6_orderAt 2 (some (.object "LandTaken$Order")) rmX6_orderAt [.ref 0, .int x] n (H5 d I J S L R) Q := by
  refine Calls.of (by decide) (Nat.le_of_ble_eq_true rfl) ?_
  intro K hk
  show AW K Q 0 0 0 [some (.ref 0), some (.int x)] [] n (H5 d I J S L R)
  obtain ⟨hw, hg, hw1, hw6, hg1, hg6, hfc, hfc2, hoc, hoc6, huc, huc5, htd, htd4, hR13, hR62⟩ := id hB
  refine aw_iload_n (pc2 := 1) hk dX6_orderAt_0 rfl rfl ?_
  refine aw_if_lt (tgt := 27) (pc2 := 4) hk dX6_orderAt_1 (by decide) rfl (fun c1 => absurd c1 (by rw [hx]; exact nI_pos (by omega))) (fun c1 => ?_)
  refine aw_iload_n (pc2 := 5) hk dX6_orderAt_4 rfl rfl ?_
  refine aw_aload_n (pc2 := 6) hk dX6_orderAt_5 rfl rfl ?_
  refine aw_get (pc2 := 9) hk ckX6 9 dX6_orderAt_6 rfl fl_X6_100 (by decide) (o_X6 rfl) rfl ?_
  refine aw_icN_ge (x := o) (y := oc) (tgt := 27) (pc2 := 12) hk dX6_orderAt_9 (by decide) rfl hx hoc (by omega) (by omega) (fun c9 => absurd c9 (by omega)) (fun c9 => ?_)
  refine aw_iload_n (pc2 := 13) hk dX6_orderAt_12 rfl rfl ?_
  refine aw_bipush (v := 60) (pc2 := 15) hk dX6_orderAt_13 rfl (by decide) ?_
  refine aw_icN_ge (x := o) (y := 60) (tgt := 27) (pc2 := 18) hk dX6_orderAt_15 (by decide) rfl hx rfl (by omega) (by omega) (fun c15 => absurd c15 (by omega)) (fun c15 => ?_)
  refine aw_aload_n (pc2 := 19) hk dX6_orderAt_18 rfl rfl ?_
  refine aw_get (pc2 := 22) hk ckX6 8 dX6_orderAt_19 rfl fl_X6_46 (by decide) (o_X6 rfl) rfl ?_
  refine aw_iload_n (pc2 := 23) hk dX6_orderAt_22 rfl rfl ?_
  refine h_aald (pc2 := 24) hk dX6_orderAt_23 rfl (Or.inr (Or.inr (Or.inl rfl))) rfl hx (by omega) (by decide) (by rw [(hO o ho).1]) ?_
  refine aw_goto (tgt := 28) hk dX6_orderAt_24 (by decide) ?_
  refine aw_aret hk dX6_orderAt_28 (Nat.le_of_ble_eq_true rfl) (Nat.le_of_ble_eq_true rfl) hq
set_option maxHeartbeats 800000 in
set_option maxRecDepth 100000 in
theorem t_orderAtN {n : Nat} {d : D2} {I : M2} {J : J2} {S : M2} {L : J2} {R : R2} {Q : QT} {w g fc oc uc td : Nat} (hB : CB S R w g fc oc uc td) {x : Int32} (hx : ∀ j, x = nI j → ¬ j < oc) (hq : Q (some .null) n (H5 d I J S L R)) : Calls yX6_orderAt cX6_orderAt 2 (some (.object "LandTaken$Order")) rmX6_orderAt [.ref 0, .int x] n (H5 d I J S L R) Q := by
  refine Calls.of (by decide) (Nat.le_of_ble_eq_true rfl) ?_
  intro K hk
  show AW K Q 0 0 0 [some (.ref 0), some (.int x)] [] n (H5 d I J S L R)
  obtain ⟨hw, hg, hw1, hw6, hg1, hg6, hfc, hfc2, hoc, hoc6, huc, huc5, htd, htd4, hR13, hR62⟩ := id hB
  refine aw_iload_n (pc2 := 1) hk dX6_orderAt_0 rfl rfl ?_
  refine aw_if_lt (tgt := 27) (pc2 := 4) hk dX6_orderAt_1 (by decide) rfl (fun c1 => ?_) (fun c1 => ?_)
  · refine aw_null (pc2 := 28) hk dX6_orderAt_27 rfl ?_
    refine aw_aretN hk dX6_orderAt_28 (Nat.le_of_ble_eq_true rfl) (Nat.le_of_ble_eq_true rfl) hq
  · refine aw_iload_n (pc2 := 5) hk dX6_orderAt_4 rfl rfl ?_
    refine aw_aload_n (pc2 := 6) hk dX6_orderAt_5 rfl rfl ?_
    refine aw_get (pc2 := 9) hk ckX6 9 dX6_orderAt_6 rfl fl_X6_100 (by decide) (o_X6 rfl) rfl ?_
    refine aw_icmp_ge (tgt := 27) (pc2 := 12) hk dX6_orderAt_9 (by decide) rfl (fun c9 => ?_) (fun c9 => ?_)
    · refine aw_null (pc2 := 28) hk dX6_orderAt_27 rfl ?_
      refine aw_aretN hk dX6_orderAt_28 (Nat.le_of_ble_eq_true rfl) (Nat.le_of_ble_eq_true rfl) hq
    · refine aw_iload_n (pc2 := 13) hk dX6_orderAt_12 rfl rfl ?_
      refine aw_bipush (v := 60) (pc2 := 15) hk dX6_orderAt_13 rfl (by decide) ?_
      refine aw_icmp_ge (tgt := 27) (pc2 := 18) hk dX6_orderAt_15 (by decide) rfl (fun c15 => absurd c15 (by rw [i_le, l60]; rw [hoc, i_le, nI_toInt (by omega)] at c9; omega)) (fun c15 => ?_)
      exfalso
      rw [i_lt, l0] at c1
      rw [hoc, i_le, nI_toInt (by omega)] at c9
      exact hx x.toInt.toNat (i_eq (by omega)) (by omega)
      
set_option maxHeartbeats 800000 in
set_option maxRecDepth 100000 in
theorem t_latest {n : Nat} {d : D2} {I : M2} {J : J2} {S : M2} {L : J2} {R : R2} {Q : QT} {w g fc oc uc td : Nat} (hB : CB S R w g fc oc uc td) {oa nc : Nat → Nat} {ca : Nat → Nat → Nat} (hO : OrdB d S R oc oa nc ca) (h0 : 0 < oc) (hq : Q (some (.ref (oa (oc - 1)))) n (H5 d I J S L R)) : Calls yX6_latestOrder cX6_latestOrder 1 (some (.object "LandTaken$Order")) rmX6_latestOrder [.ref 0] n (H5 d I J S L R) Q := by
  refine Calls.of (by decide) (Nat.le_of_ble_eq_true rfl) ?_
  intro K hk
  show AW K Q 0 0 0 [some (.ref 0)] [] n (H5 d I J S L R)
  obtain ⟨hw, hg, hw1, hw6, hg1, hg6, hfc, hfc2, hoc, hoc6, huc, huc5, htd, htd4, hR13, hR62⟩ := id hB
  refine aw_aload_n (pc2 := 1) hk dX6_latestOrder_0 rfl rfl ?_
  refine aw_aload_n (pc2 := 2) hk dX6_latestOrder_1 rfl rfl ?_
  refine aw_get (pc2 := 5) hk ckX6 9 dX6_latestOrder_2 rfl fl_X6_100 (by decide) (o_X6 rfl) rfl ?_
  refine aw_iconst (v := 1) (pc2 := 6) hk dX6_latestOrder_5 rfl (by decide) ?_
  refine aw_isub (pc2 := 7) hk dX6_latestOrder_6 rfl ?_
  refine aw_cV (rm2 := rmX6_orderAt) (pc2 := 10) hk veX6_orderAt dX6_latestOrder_7 rfl ml_X6_199 ⟨(Nat.le_of_ble_eq_true rfl), (Nat.le_of_ble_eq_true rfl)⟩ [_] rfl rfl (Nat.le_of_ble_eq_true rfl) (Nat.le_of_ble_eq_true rfl) (Nat.le_of_ble_eq_true rfl) (o_X6 rfl) (t_orderAt hB hO (o := oc - 1) (by rw [hoc]; exact pk_sub (a := oc) (b := 1) (by omega)) (by omega) ?_)
  refine aw_aret hk dX6_latestOrder_10 (Nat.le_of_ble_eq_true rfl) (Nat.le_of_ble_eq_true rfl) hq
set_option maxHeartbeats 800000 in
set_option maxRecDepth 100000 in
theorem t_latestN {n : Nat} {d : D2} {I : M2} {J : J2} {S : M2} {L : J2} {R : R2} {Q : QT} {w g fc oc uc td : Nat} (hB : CB S R w g fc oc uc td) (h0 : oc = 0) (hq : Q (some .null) n (H5 d I J S L R)) : Calls yX6_latestOrder cX6_latestOrder 1 (some (.object "LandTaken$Order")) rmX6_latestOrder [.ref 0] n (H5 d I J S L R) Q := by
  refine Calls.of (by decide) (Nat.le_of_ble_eq_true rfl) ?_
  intro K hk
  show AW K Q 0 0 0 [some (.ref 0)] [] n (H5 d I J S L R)
  obtain ⟨hw, hg, hw1, hw6, hg1, hg6, hfc, hfc2, hoc, hoc6, huc, huc5, htd, htd4, hR13, hR62⟩ := id hB
  refine aw_aload_n (pc2 := 1) hk dX6_latestOrder_0 rfl rfl ?_
  refine aw_aload_n (pc2 := 2) hk dX6_latestOrder_1 rfl rfl ?_
  refine aw_get (pc2 := 5) hk ckX6 9 dX6_latestOrder_2 rfl fl_X6_100 (by decide) (o_X6 rfl) rfl ?_
  refine aw_iconst (v := 1) (pc2 := 6) hk dX6_latestOrder_5 rfl (by decide) ?_
  refine aw_isub (pc2 := 7) hk dX6_latestOrder_6 rfl ?_
  refine aw_cV (rm2 := rmX6_orderAt) (pc2 := 10) hk veX6_orderAt dX6_latestOrder_7 rfl ml_X6_199 ⟨(Nat.le_of_ble_eq_true rfl), (Nat.le_of_ble_eq_true rfl)⟩ [_] rfl rfl (Nat.le_of_ble_eq_true rfl) (Nat.le_of_ble_eq_true rfl) (Nat.le_of_ble_eq_true rfl) (o_X6 rfl) (t_orderAtN hB (fun j hj => by omega) ?_)
  refine aw_aretN hk dX6_latestOrder_10 (Nat.le_of_ble_eq_true rfl) (Nat.le_of_ble_eq_true rfl) hq
set_option maxHeartbeats 800000 in
set_option maxRecDepth 100000 in
theorem t_open {n : Nat} {d : D2} {I : M2} {J : J2} {S : M2} {L : J2} {R : R2} {Q : QT} {w g fc oc uc td : Nat} (hB : CB S R w g fc oc uc td) {oa nc : Nat → Nat} {ca : Nat → Nat → Nat} (hO : OrdB d S R oc oa nc ca) (h0 : opn S oc nc ca) (hq : Q (some (.ref (oa (oc - 1)))) n (H5 d I J S L R)) : Calls yX6_openOrder cX6_openOrder 2 (some (.object "LandTaken$Order")) rmX6_openOrder [.ref 0] n (H5 d I J S L R) Q := by
  refine Calls.of (by decide) (Nat.le_of_ble_eq_true rfl) ?_
  intro K hk
  show AW K Q 0 0 0 [some (.ref 0), none] [] n (H5 d I J S L R)
  obtain ⟨hw, hg, hw1, hw6, hg1, hg6, hfc, hfc2, hoc, hoc6, huc, huc5, htd, htd4, hR13, hR62⟩ := id hB
  refine aw_aload_n (pc2 := 1) hk dX6_openOrder_0 rfl rfl ?_
  refine aw_cV (rm2 := rmX6_latestOrder) (pc2 := 4) hk veX6_latestOrder dX6_openOrder_1 rfl ml_X6_177 ⟨(Nat.le_of_ble_eq_true rfl), (Nat.le_of_ble_eq_true rfl)⟩ [] rfl rfl (Nat.le_of_ble_eq_true rfl) (Nat.le_of_ble_eq_true rfl) (Nat.le_of_ble_eq_true rfl) (o_X6 rfl) (t_latest hB hO h0.1 ?_)
  refine aw_astore_n (pc2 := 5) hk dX6_openOrder_4 rfl (by decide) ?_
  show AW K Q _ _ 5 [_, _] _ _ _
  refine aw_aload_n (pc2 := 6) hk dX6_openOrder_5 rfl rfl ?_
  refine aw_ifnull_r (pc2 := 9) hk dX6_openOrder_6 rfl ?_
  refine aw_aload_n (pc2 := 10) hk dX6_openOrder_9 rfl rfl ?_
  refine aw_cV (rm2 := rmX3_isDone) (pc2 := 13) hk veX3_isDone dX6_openOrder_10 rfl ml_X6_180 ⟨(Nat.le_of_ble_eq_true rfl), (Nat.le_of_ble_eq_true rfl)⟩ [] rfl rfl (Nat.le_of_ble_eq_true rfl) (Nat.le_of_ble_eq_true rfl) (Nat.le_of_ble_eq_true rfl) (o_X3 (hO (oc - 1) (by have := h0.1; omega)).2.1) (t_isDone (hO (oc - 1) (by have := h0.1; omega)).2 ?_)
  refine aw_if_eq (tgt := 20) (pc2 := 16) hk dX6_openOrder_13 (by decide) rfl (fun c13 => ?_) (fun c13 => absurd (by have h9 : allB (fun k => dnS (S (ca (oc - 1) k) 2)) (nc (oc - 1)) = false := h0.2; rw [h9]; rfl) c13)
  refine aw_aload_n (pc2 := 21) hk dX6_openOrder_20 rfl rfl ?_
  refine aw_aret hk dX6_openOrder_21 (Nat.le_of_ble_eq_true rfl) (Nat.le_of_ble_eq_true rfl) hq
set_option maxHeartbeats 800000 in
set_option maxRecDepth 100000 in
theorem t_openN {n : Nat} {d : D2} {I : M2} {J : J2} {S : M2} {L : J2} {R : R2} {Q : QT} {w g fc oc uc td : Nat} (hB : CB S R w g fc oc uc td) {oa nc : Nat → Nat} {ca : Nat → Nat → Nat} (hO : OrdB d S R oc oa nc ca) (h0 : ¬ opn S oc nc ca) (hq : Q (some .null) n (H5 d I J S L R)) : Calls yX6_openOrder cX6_openOrder 2 (some (.object "LandTaken$Order")) rmX6_openOrder [.ref 0] n (H5 d I J S L R) Q := by
  refine Calls.of (by decide) (Nat.le_of_ble_eq_true rfl) ?_
  intro K hk
  show AW K Q 0 0 0 [some (.ref 0), none] [] n (H5 d I J S L R)
  obtain ⟨hw, hg, hw1, hw6, hg1, hg6, hfc, hfc2, hoc, hoc6, huc, huc5, htd, htd4, hR13, hR62⟩ := id hB
  by_cases h1 : 0 < oc
  · refine aw_aload_n (pc2 := 1) hk dX6_openOrder_0 rfl rfl ?_
    refine aw_cV (rm2 := rmX6_latestOrder) (pc2 := 4) hk veX6_latestOrder dX6_openOrder_1 rfl ml_X6_177 ⟨(Nat.le_of_ble_eq_true rfl), (Nat.le_of_ble_eq_true rfl)⟩ [] rfl rfl (Nat.le_of_ble_eq_true rfl) (Nat.le_of_ble_eq_true rfl) (Nat.le_of_ble_eq_true rfl) (o_X6 rfl) (t_latest hB hO h1 ?_)
    refine aw_astore_n (pc2 := 5) hk dX6_openOrder_4 rfl (by decide) ?_
    show AW K Q _ _ 5 [_, _] _ _ _
    refine aw_aload_n (pc2 := 6) hk dX6_openOrder_5 rfl rfl ?_
    refine aw_ifnull_r (pc2 := 9) hk dX6_openOrder_6 rfl ?_
    refine aw_aload_n (pc2 := 10) hk dX6_openOrder_9 rfl rfl ?_
    refine aw_cV (rm2 := rmX3_isDone) (pc2 := 13) hk veX3_isDone dX6_openOrder_10 rfl ml_X6_180 ⟨(Nat.le_of_ble_eq_true rfl), (Nat.le_of_ble_eq_true rfl)⟩ [] rfl rfl (Nat.le_of_ble_eq_true rfl) (Nat.le_of_ble_eq_true rfl) (Nat.le_of_ble_eq_true rfl) (o_X3 (hO (oc - 1) (by omega)).2.1) (t_isDone (hO (oc - 1) (by omega)).2 ?_)
    refine aw_if_eq (tgt := 20) (pc2 := 16) hk dX6_openOrder_13 (by decide) rfl (fun c13 => absurd c13 (fun e => h0 ⟨h1, bi_ff e⟩)) (fun c13 => ?_)
    refine aw_null (pc2 := 17) hk dX6_openOrder_16 rfl ?_
    refine aw_goto (tgt := 21) hk dX6_openOrder_17 (by decide) ?_
    refine aw_aretN hk dX6_openOrder_21 (Nat.le_of_ble_eq_true rfl) (Nat.le_of_ble_eq_true rfl) hq
  · refine aw_aload_n (pc2 := 1) hk dX6_openOrder_0 rfl rfl ?_
    refine aw_cV (rm2 := rmX6_latestOrder) (pc2 := 4) hk veX6_latestOrder dX6_openOrder_1 rfl ml_X6_177 ⟨(Nat.le_of_ble_eq_true rfl), (Nat.le_of_ble_eq_true rfl)⟩ [] rfl rfl (Nat.le_of_ble_eq_true rfl) (Nat.le_of_ble_eq_true rfl) (Nat.le_of_ble_eq_true rfl) (o_X6 rfl) (t_latestN hB (by omega) ?_)
    refine aw_astore_nN (pc2 := 5) hk dX6_openOrder_4 rfl (by decide) ?_
    show AW K Q _ _ 5 [_, _] _ _ _
    refine aw_aload_nN (pc2 := 6) hk dX6_openOrder_5 rfl rfl ?_
    refine aw_ifnull_n (tgt := 16) hk dX6_openOrder_6 (by decide) ?_
    refine aw_null (pc2 := 17) hk dX6_openOrder_16 rfl ?_
    refine aw_goto (tgt := 21) hk dX6_openOrder_17 (by decide) ?_
    refine aw_aretN hk dX6_openOrder_21 (Nat.le_of_ble_eq_true rfl) (Nat.le_of_ble_eq_true rfl) hq
set_option maxHeartbeats 800000 in
set_option maxRecDepth 100000 in
theorem t_caseOf {n : Nat} {d : D2} {I : M2} {J : J2} {S : M2} {L : J2} {R : R2} {Q : QT} {w g fc oc uc td : Nat} (hB : CB S R w g fc oc uc td) {oa nc : Nat → Nat} {ca : Nat → Nat → Nat} (hO : OrdB d S R oc oa nc ca) {x y : Int32} {o k : Nat} (hx : x = nI o) (hy : y = nI k) (ho : o < oc) (hk1 : k < nc o) (hq : Q (some (.ref (ca o k))) n (H5 d I J S L R)) : Calls yX6_caseOf cX6_caseOf 4 (some (.object "LandTaken$Case")) rmX6_caseOf [.ref 0, .int x, .int y] n (H5 d I J S L R) Q := by
  refine Calls.of (by decide) (Nat.le_of_ble_eq_true rfl) ?_
  intro K hk
  show AW K Q 0 0 0 [some (.ref 0), some (.int x), some (.int y), none] [] n (H5 d I J S L R)
  obtain ⟨hw, hg, hw1, hw6, hg1, hg6, hfc, hfc2, hoc, hoc6, huc, huc5, htd, htd4, hR13, hR62⟩ := id hB
  refine aw_aload_n (pc2 := 1) hk dX6_caseOf_0 rfl rfl ?_
  refine aw_iload_n (pc2 := 2) hk dX6_caseOf_1 rfl rfl ?_
  refine aw_cV (rm2 := rmX6_orderAt) (pc2 := 5) hk veX6_orderAt dX6_caseOf_2 rfl ml_X6_199 ⟨(Nat.le_of_ble_eq_true rfl), (Nat.le_of_ble_eq_true rfl)⟩ [_] rfl rfl (Nat.le_of_ble_eq_true rfl) (Nat.le_of_ble_eq_true rfl) (Nat.le_of_ble_eq_true rfl) (o_X6 rfl) (t_orderAt hB hO hx ho ?_)
  refine aw_astore_n (pc2 := 6) hk dX6_caseOf_5 rfl (by decide) ?_
  show AW K Q _ _ 6 [_, _, _, _] _ _ _
  refine aw_aload_n (pc2 := 7) hk dX6_caseOf_6 rfl rfl ?_
  refine aw_ifnonnull_r (tgt := 14) hk dX6_caseOf_7 (by decide) ?_
  refine aw_aload_n (pc2 := 15) hk dX6_caseOf_14 rfl rfl ?_
  refine aw_iload_n (pc2 := 16) hk dX6_caseOf_15 rfl rfl ?_
  refine aw_cV (rm2 := rmX3_caseAt) (pc2 := 19) hk veX3_caseAt dX6_caseOf_16 rfl ml_X6_150 ⟨(Nat.le_of_ble_eq_true rfl), (Nat.le_of_ble_eq_true rfl)⟩ [_] rfl rfl (Nat.le_of_ble_eq_true rfl) (Nat.le_of_ble_eq_true rfl) (Nat.le_of_ble_eq_true rfl) (o_X3 (hO o ho).2.1) (t_caseAt (hO o ho).2 hy hk1 ?_)
  refine aw_aret hk dX6_caseOf_19 (Nat.le_of_ble_eq_true rfl) (Nat.le_of_ble_eq_true rfl) hq
set_option maxHeartbeats 800000 in
set_option maxRecDepth 100000 in
theorem t_caseOfN {n : Nat} {d : D2} {I : M2} {J : J2} {S : M2} {L : J2} {R : R2} {Q : QT} {w g fc oc uc td : Nat} (hB : CB S R w g fc oc uc td) {oa nc : Nat → Nat} {ca : Nat → Nat → Nat} (hO : OrdB d S R oc oa nc ca) {x y : Int32} (h0 : ∀ o k, x = nI o → y = nI k → ¬ (o < oc ∧ k < nc o)) (hq : Q (some .null) n (H5 d I J S L R)) : Calls yX6_caseOf cX6_caseOf 4 (some (.object "LandTaken$Case")) rmX6_caseOf [.ref 0, .int x, .int y] n (H5 d I J S L R) Q := by
  refine Calls.of (by decide) (Nat.le_of_ble_eq_true rfl) ?_
  intro K hk
  show AW K Q 0 0 0 [some (.ref 0), some (.int x), some (.int y), none] [] n (H5 d I J S L R)
  obtain ⟨hw, hg, hw1, hw6, hg1, hg6, hfc, hfc2, hoc, hoc6, huc, huc5, htd, htd4, hR13, hR62⟩ := id hB
  by_cases h1 : ∃ o, x = nI o ∧ o < oc
  · obtain ⟨o, hx, ho⟩ := h1
    refine aw_aload_n (pc2 := 1) hk dX6_caseOf_0 rfl rfl ?_
    refine aw_iload_n (pc2 := 2) hk dX6_caseOf_1 rfl rfl ?_
    refine aw_cV (rm2 := rmX6_orderAt) (pc2 := 5) hk veX6_orderAt dX6_caseOf_2 rfl ml_X6_199 ⟨(Nat.le_of_ble_eq_true rfl), (Nat.le_of_ble_eq_true rfl)⟩ [_] rfl rfl (Nat.le_of_ble_eq_true rfl) (Nat.le_of_ble_eq_true rfl) (Nat.le_of_ble_eq_true rfl) (o_X6 rfl) (t_orderAt hB hO hx ho ?_)
    refine aw_astore_n (pc2 := 6) hk dX6_caseOf_5 rfl (by decide) ?_
    show AW K Q _ _ 6 [_, _, _, _] _ _ _
    refine aw_aload_n (pc2 := 7) hk dX6_caseOf_6 rfl rfl ?_
    refine aw_ifnonnull_r (tgt := 14) hk dX6_caseOf_7 (by decide) ?_
    refine aw_aload_n (pc2 := 15) hk dX6_caseOf_14 rfl rfl ?_
    refine aw_iload_n (pc2 := 16) hk dX6_caseOf_15 rfl rfl ?_
    refine aw_cV (rm2 := rmX3_caseAt) (pc2 := 19) hk veX3_caseAt dX6_caseOf_16 rfl ml_X6_150 ⟨(Nat.le_of_ble_eq_true rfl), (Nat.le_of_ble_eq_true rfl)⟩ [_] rfl rfl (Nat.le_of_ble_eq_true rfl) (Nat.le_of_ble_eq_true rfl) (Nat.le_of_ble_eq_true rfl) (o_X3 (hO o ho).2.1) (t_caseAtN (hO o ho).2 (fun k hk1 hk2 => h0 o k hx hk1 ⟨ho, hk2⟩) ?_)
    refine aw_aretN hk dX6_caseOf_19 (Nat.le_of_ble_eq_true rfl) (Nat.le_of_ble_eq_true rfl) hq
  · refine aw_aload_n (pc2 := 1) hk dX6_caseOf_0 rfl rfl ?_
    refine aw_iload_n (pc2 := 2) hk dX6_caseOf_1 rfl rfl ?_
    refine aw_cV (rm2 := rmX6_orderAt) (pc2 := 5) hk veX6_orderAt dX6_caseOf_2 rfl ml_X6_199 ⟨(Nat.le_of_ble_eq_true rfl), (Nat.le_of_ble_eq_true rfl)⟩ [_] rfl rfl (Nat.le_of_ble_eq_true rfl) (Nat.le_of_ble_eq_true rfl) (Nat.le_of_ble_eq_true rfl) (o_X6 rfl) (t_orderAtN hB (fun o hx ho => h1 ⟨o, hx, ho⟩) ?_)
    refine aw_astore_nN (pc2 := 6) hk dX6_caseOf_5 rfl (by decide) ?_
    show AW K Q _ _ 6 [_, _, _, _] _ _ _
    refine aw_aload_nN (pc2 := 7) hk dX6_caseOf_6 rfl rfl ?_
    refine aw_ifnonnull_n (pc2 := 10) hk dX6_caseOf_7 rfl ?_
    refine aw_null (pc2 := 11) hk dX6_caseOf_10 rfl ?_
    refine aw_goto (tgt := 19) hk dX6_caseOf_11 (by decide) ?_
    refine aw_aretN hk dX6_caseOf_19 (Nat.le_of_ble_eq_true rfl) (Nat.le_of_ble_eq_true rfl) hq
set_option maxHeartbeats 800000 in
set_option maxRecDepth 100000 in
theorem t_casesOfLatest {n : Nat} {d : D2} {I : M2} {J : J2} {S : M2} {L : J2} {R : R2} {Q : QT} {w g fc oc uc td : Nat} (hB : CB S R w g fc oc uc td) {oa nc : Nat → Nat} {ca : Nat → Nat → Nat} (hO : OrdB d S R oc oa nc ca) (hq : Q (some (.int (if 0 < oc then nI (nc (oc - 1)) else 0))) n (H5 d I J S L R)) : Calls yX6_casesOfLatest cX6_casesOfLatest 2 (some .int) rmX6_casesOfLatest [.ref 0] n (H5 d I J S L R) Q := by
  refine Calls.of (by decide) (Nat.le_of_ble_eq_true rfl) ?_
  intro K hk
  show AW K Q 0 0 0 [some (.ref 0), none] [] n (H5 d I J S L R)
  obtain ⟨hw, hg, hw1, hw6, hg1, hg6, hfc, hfc2, hoc, hoc6, huc, huc5, htd, htd4, hR13, hR62⟩ := id hB
  by_cases h1 : 0 < oc
  · refine aw_aload_n (pc2 := 1) hk dX6_casesOfLatest_0 rfl rfl ?_
    refine aw_cV (rm2 := rmX6_latestOrder) (pc2 := 4) hk veX6_latestOrder dX6_casesOfLatest_1 rfl ml_X6_177 ⟨(Nat.le_of_ble_eq_true rfl), (Nat.le_of_ble_eq_true rfl)⟩ [] rfl rfl (Nat.le_of_ble_eq_true rfl) (Nat.le_of_ble_eq_true rfl) (Nat.le_of_ble_eq_true rfl) (o_X6 rfl) (t_latest hB hO h1 ?_)
    refine aw_astore_n (pc2 := 5) hk dX6_casesOfLatest_4 rfl (by decide) ?_
    show AW K Q _ _ 5 [_, _] _ _ _
    refine aw_aload_n (pc2 := 6) hk dX6_casesOfLatest_5 rfl rfl ?_
    refine aw_ifnonnull_r (tgt := 13) hk dX6_casesOfLatest_6 (by decide) ?_
    refine aw_aload_n (pc2 := 14) hk dX6_casesOfLatest_13 rfl rfl ?_
    refine aw_get (pc2 := 17) hk ckX3 2 dX6_casesOfLatest_14 rfl fl_X6_147 (by decide) (o_X3 (hO (oc - 1) (by omega)).2.1) rfl ?_
    refine aw_top (nI (nc (oc - 1))) (hO (oc - 1) (by omega)).2.2.2.2.1 ?_
    refine aw_iret hk dX6_casesOfLatest_17 (Nat.le_of_ble_eq_true rfl) (Nat.le_of_ble_eq_true rfl) (by rw [if_pos h1] at hq; exact hq)
  · refine aw_aload_n (pc2 := 1) hk dX6_casesOfLatest_0 rfl rfl ?_
    refine aw_cV (rm2 := rmX6_latestOrder) (pc2 := 4) hk veX6_latestOrder dX6_casesOfLatest_1 rfl ml_X6_177 ⟨(Nat.le_of_ble_eq_true rfl), (Nat.le_of_ble_eq_true rfl)⟩ [] rfl rfl (Nat.le_of_ble_eq_true rfl) (Nat.le_of_ble_eq_true rfl) (Nat.le_of_ble_eq_true rfl) (o_X6 rfl) (t_latestN hB (by omega) ?_)
    refine aw_astore_nN (pc2 := 5) hk dX6_casesOfLatest_4 rfl (by decide) ?_
    show AW K Q _ _ 5 [_, _] _ _ _
    refine aw_aload_nN (pc2 := 6) hk dX6_casesOfLatest_5 rfl rfl ?_
    refine aw_ifnonnull_n (pc2 := 9) hk dX6_casesOfLatest_6 rfl ?_
    refine aw_iconst (v := 0) (pc2 := 10) hk dX6_casesOfLatest_9 rfl (by decide) ?_
    refine aw_goto (tgt := 17) hk dX6_casesOfLatest_10 (by decide) ?_
    refine aw_iret hk dX6_casesOfLatest_17 (Nat.le_of_ble_eq_true rfl) (Nat.le_of_ble_eq_true rfl) (by rw [if_neg h1] at hq; exact hq)
set_option maxHeartbeats 800000 in
set_option maxRecDepth 100000 in
theorem t_eld {n : Nat} {d : D2} {I : M2} {J : J2} {S : M2} {L : J2} {R : R2} {Q : QT} {o a m : Nat} {ca : Nat → Nat} (ho : ordOK d S R o a m ca) (hq1 : allB (fun k => dnS (S (ca k) 2)) m = true → Q none n (H5 d (rowU I 5 256 (fun _ => 0)) J S L R)) (hq2 : allB (fun k => dnS (S (ca k) 2)) m = false → Q none n (H5 d I J S L R)) : Calls yX6_emptyLineIfDone cX6_emptyLineIfDone 2 none rmX6_emptyLineIfDone [.ref 0, .ref a] n (H5 d I J S L R) Q := by
  refine Calls.of (by decide) (Nat.le_of_ble_eq_true rfl) ?_
  intro K hk
  show AW K Q 0 0 0 [some (.ref 0), some (.ref a)] [] n (H5 d I J S L R)
  refine aw_aload_n (pc2 := 1) hk dX6_emptyLineIfDone_0 rfl rfl ?_
  refine aw_cV (rm2 := rmX3_isDone) (pc2 := 4) hk veX3_isDone dX6_emptyLineIfDone_1 rfl ml_X6_180 ⟨(Nat.le_of_ble_eq_true rfl), (Nat.le_of_ble_eq_true rfl)⟩ [] rfl rfl (Nat.le_of_ble_eq_true rfl) (Nat.le_of_ble_eq_true rfl) (Nat.le_of_ble_eq_true rfl) (o_X3 ho.1) (t_isDone ho ?_)
  refine aw_if_eq (tgt := 14) (pc2 := 7) hk dX6_emptyLineIfDone_4 (by decide) rfl (fun c4 => ?_) (fun c4 => ?_)
  · refine aw_vret hk dX6_emptyLineIfDone_14 (Nat.le_of_ble_eq_true rfl) (Nat.le_of_ble_eq_true rfl) (by first | exact hq2 (bi_ff c4) | exact hq1 (bi_tt c4))
  · refine aw_aload_n (pc2 := 8) hk dX6_emptyLineIfDone_7 rfl rfl ?_
    refine aw_get (pc2 := 11) hk ckX6 0 dX6_emptyLineIfDone_8 rfl fl_X6_12 (by decide) (o_X6 rfl) rfl ?_
    refine aw_cV (rm2 := rmX2_emptyLine) (pc2 := 14) hk veX2_emptyLine dX6_emptyLineIfDone_11 rfl ml_X6_203 ⟨(Nat.le_of_ble_eq_true rfl), (Nat.le_of_ble_eq_true rfl)⟩ [] rfl rfl (Nat.le_of_ble_eq_true rfl) (Nat.le_of_ble_eq_true rfl) (Nat.le_of_ble_eq_true rfl) (o_X2 rfl) (t_emptyLine ?_)
    refine aw_vret hk dX6_emptyLineIfDone_14 (Nat.le_of_ble_eq_true rfl) (Nat.le_of_ble_eq_true rfl) (by first | exact hq2 (bi_ff c4) | exact hq1 (bi_tt c4))
set_option maxHeartbeats 800000 in
set_option maxRecDepth 100000 in
theorem t_object {n : Nat} {d : D2} {I : M2} {J : J2} {S : M2} {L : J2} {R : R2} {Q : QT} {w g fc oc uc td : Nat} (hB : CB S R w g fc oc uc td) {oa nc : Nat → Nat} {ca : Nat → Nat → Nat} (hO : OrdB d S R oc oa nc ca) {x : Int32} (hq1 : ¬ opn S oc nc ca → Q (some (.int (-103))) n (H5 d I J S L R)) (hq2 : opn S oc nc ca → (∀ j, x = nI j → ¬ j < nc (oc - 1)) → Q (some (.int (-101))) n (H5 d I J S L R)) (hq3 : ∀ j, opn S oc nc ca → x = nI j → j < nc (oc - 1) → ¬ (S (ca (oc - 1) j) 2 = 0 ∧ S 0 7 ≤ S (oa (oc - 1)) 0 + S (oa (oc - 1)) 1) → Q (some (.int (-103))) n (H5 d I J S L R)) (hq4 : ∀ j, opn S oc nc ca → x = nI j → j < nc (oc - 1) → (S (ca (oc - 1) j) 2 = 0 ∧ S 0 7 ≤ S (oa (oc - 1)) 0 + S (oa (oc - 1)) 1) → Q (some (.int 1)) n (H5 d I J (u2 S (ca (oc - 1) j) 2 1) L R)) : Calls yX6_object cX6_object 4 (some .int) rmX6_object [.ref 0, .int x] n (H5 d I J S L R) Q := by
  refine Calls.of (by decide) (Nat.le_of_ble_eq_true rfl) ?_
  intro K hk
  show AW K Q 0 0 0 [some (.ref 0), some (.int x), none, none] [] n (H5 d I J S L R)
  obtain ⟨hw, hg, hw1, hw6, hg1, hg6, hfc, hfc2, hoc, hoc6, huc, huc5, htd, htd4, hR13, hR62⟩ := id hB
  by_cases h1 : opn S oc nc ca
  · have hl := hO (oc - 1) (by have := h1.1; omega)
    by_cases h4 : ∃ j, x = nI j ∧ j < nc (oc - 1)
    · obtain ⟨j, h2, h3⟩ := h4
      have hcj := hl.2.2.2.2.2 j h3
      refine aw_aload_n (pc2 := 1) hk dX6_object_0 rfl rfl ?_
      refine aw_cV (rm2 := rmX6_openOrder) (pc2 := 4) hk veX6_openOrder dX6_object_1 rfl ml_X6_124 ⟨(Nat.le_of_ble_eq_true rfl), (Nat.le_of_ble_eq_true rfl)⟩ [] rfl rfl (Nat.le_of_ble_eq_true rfl) (Nat.le_of_ble_eq_true rfl) (Nat.le_of_ble_eq_true rfl) (o_X6 rfl) (t_open hB hO h1 ?_)
      refine aw_astore_n (pc2 := 5) hk dX6_object_4 rfl (by decide) ?_
      show AW K Q _ _ 5 [_, _, _, _] _ _ _
      refine aw_aload_n (pc2 := 6) hk dX6_object_5 rfl rfl ?_
      refine aw_ifnonnull_r (tgt := 12) hk dX6_object_6 (by decide) ?_
      refine aw_aload_n (pc2 := 13) hk dX6_object_12 rfl rfl ?_
      refine aw_iload_n (pc2 := 14) hk dX6_object_13 rfl rfl ?_
      refine aw_cV (rm2 := rmX3_caseAt) (pc2 := 17) hk veX3_caseAt dX6_object_14 rfl ml_X6_150 ⟨(Nat.le_of_ble_eq_true rfl), (Nat.le_of_ble_eq_true rfl)⟩ [_] rfl rfl (Nat.le_of_ble_eq_true rfl) (Nat.le_of_ble_eq_true rfl) (Nat.le_of_ble_eq_true rfl) (o_X3 hl.2.1) (t_caseAt hl.2 h2 h3 ?_)
      refine aw_astore_n (pc2 := 18) hk dX6_object_17 rfl (by decide) ?_
      show AW K Q _ _ 18 [_, _, _, _] _ _ _
      refine aw_aload_n (pc2 := 19) hk dX6_object_18 rfl rfl ?_
      refine aw_ifnonnull_r (tgt := 25) hk dX6_object_19 (by decide) ?_
      refine aw_aload_n (pc2 := 26) hk dX6_object_25 rfl rfl ?_
      refine aw_get (pc2 := 29) hk ckX0 2 dX6_object_26 rfl fl_X6_154 (by decide) (o_X0 hcj.2.1) rfl ?_
      refine aw_if_ne (tgt := 43) (pc2 := 32) hk dX6_object_29 (by decide) rfl (fun c29 => ?_) (fun c29 => ?_)
      · refine aw_bipush (v := -103) (pc2 := 45) hk dX6_object_43 rfl (by decide) ?_
        refine aw_iret hk dX6_object_45 (Nat.le_of_ble_eq_true rfl) (Nat.le_of_ble_eq_true rfl) (by first | exact hq3 j h1 h2 h3 (fun h9 => c29 h9.1) | exact hq3 j h1 h2 h3 (fun h9 => c40 h9.2))
      · refine aw_aload_n (pc2 := 33) hk dX6_object_32 rfl rfl ?_
        refine aw_get (pc2 := 36) hk ckX6 7 dX6_object_33 rfl fl_X6_121 (by decide) (o_X6 rfl) rfl ?_
        refine aw_aload_n (pc2 := 37) hk dX6_object_36 rfl rfl ?_
        refine aw_cV (rm2 := rmX3_noticeEnd) (pc2 := 40) hk veX3_noticeEnd dX6_object_37 rfl ml_X6_159 ⟨(Nat.le_of_ble_eq_true rfl), (Nat.le_of_ble_eq_true rfl)⟩ [] rfl rfl (Nat.le_of_ble_eq_true rfl) (Nat.le_of_ble_eq_true rfl) (Nat.le_of_ble_eq_true rfl) (o_X3 hl.2.1) (t_noticeEnd hl.2.1 ?_)
        refine aw_icmp_le (tgt := 46) (pc2 := 43) hk dX6_object_40 (by decide) rfl (fun c40 => ?_) (fun c40 => ?_)
        · refine aw_aload_n (pc2 := 47) hk dX6_object_46 rfl rfl ?_
          refine aw_iconst (v := 1) (pc2 := 48) hk dX6_object_47 rfl (by decide) ?_
          refine aw_put (pc2 := 51) hk ckX0 2 dX6_object_48 rfl fl_X6_154 (by decide) rfl (o_X0 hcj.2.1) (fun _ => rfl) (fun _ => rfl) (Nat.le_of_ble_eq_true rfl) ?_
          rw [p_X0_2 hcj.2.1]
          refine aw_iconst (v := 1) (pc2 := 52) hk dX6_object_51 rfl (by decide) ?_
          refine aw_iret hk dX6_object_52 (Nat.le_of_ble_eq_true rfl) (Nat.le_of_ble_eq_true rfl) (hq4 j h1 h2 h3 ⟨c29, c40⟩)
        · refine aw_bipush (v := -103) (pc2 := 45) hk dX6_object_43 rfl (by decide) ?_
          refine aw_iret hk dX6_object_45 (Nat.le_of_ble_eq_true rfl) (Nat.le_of_ble_eq_true rfl) (by first | exact hq3 j h1 h2 h3 (fun h9 => c29 h9.1) | exact hq3 j h1 h2 h3 (fun h9 => c40 h9.2))
    · refine aw_aload_n (pc2 := 1) hk dX6_object_0 rfl rfl ?_
      refine aw_cV (rm2 := rmX6_openOrder) (pc2 := 4) hk veX6_openOrder dX6_object_1 rfl ml_X6_124 ⟨(Nat.le_of_ble_eq_true rfl), (Nat.le_of_ble_eq_true rfl)⟩ [] rfl rfl (Nat.le_of_ble_eq_true rfl) (Nat.le_of_ble_eq_true rfl) (Nat.le_of_ble_eq_true rfl) (o_X6 rfl) (t_open hB hO h1 ?_)
      refine aw_astore_n (pc2 := 5) hk dX6_object_4 rfl (by decide) ?_
      show AW K Q _ _ 5 [_, _, _, _] _ _ _
      refine aw_aload_n (pc2 := 6) hk dX6_object_5 rfl rfl ?_
      refine aw_ifnonnull_r (tgt := 12) hk dX6_object_6 (by decide) ?_
      refine aw_aload_n (pc2 := 13) hk dX6_object_12 rfl rfl ?_
      refine aw_iload_n (pc2 := 14) hk dX6_object_13 rfl rfl ?_
      refine aw_cV (rm2 := rmX3_caseAt) (pc2 := 17) hk veX3_caseAt dX6_object_14 rfl ml_X6_150 ⟨(Nat.le_of_ble_eq_true rfl), (Nat.le_of_ble_eq_true rfl)⟩ [_] rfl rfl (Nat.le_of_ble_eq_true rfl) (Nat.le_of_ble_eq_true rfl) (Nat.le_of_ble_eq_true rfl) (o_X3 hl.2.1) (t_caseAtN hl.2 (fun j h2 h3 => h4 ⟨j, h2, h3⟩) ?_)
      refine aw_astore_nN (pc2 := 18) hk dX6_object_17 rfl (by decide) ?_
      show AW K Q _ _ 18 [_, _, _, _] _ _ _
      refine aw_aload_nN (pc2 := 19) hk dX6_object_18 rfl rfl ?_
      refine aw_ifnonnull_n (pc2 := 22) hk dX6_object_19 rfl ?_
      refine aw_bipush (v := -101) (pc2 := 24) hk dX6_object_22 rfl (by decide) ?_
      refine aw_iret hk dX6_object_24 (Nat.le_of_ble_eq_true rfl) (Nat.le_of_ble_eq_true rfl) (hq2 h1 (fun j h2 h3 => h4 ⟨j, h2, h3⟩))
  · refine aw_aload_n (pc2 := 1) hk dX6_object_0 rfl rfl ?_
    refine aw_cV (rm2 := rmX6_openOrder) (pc2 := 4) hk veX6_openOrder dX6_object_1 rfl ml_X6_124 ⟨(Nat.le_of_ble_eq_true rfl), (Nat.le_of_ble_eq_true rfl)⟩ [] rfl rfl (Nat.le_of_ble_eq_true rfl) (Nat.le_of_ble_eq_true rfl) (Nat.le_of_ble_eq_true rfl) (o_X6 rfl) (t_openN hB hO h1 ?_)
    refine aw_astore_nN (pc2 := 5) hk dX6_object_4 rfl (by decide) ?_
    show AW K Q _ _ 5 [_, _, _, _] _ _ _
    refine aw_aload_nN (pc2 := 6) hk dX6_object_5 rfl rfl ?_
    refine aw_ifnonnull_n (pc2 := 9) hk dX6_object_6 rfl ?_
    refine aw_bipush (v := -103) (pc2 := 11) hk dX6_object_9 rfl (by decide) ?_
    refine aw_iret hk dX6_object_11 (Nat.le_of_ble_eq_true rfl) (Nat.le_of_ble_eq_true rfl) (hq1 h1)
set_option maxHeartbeats 800000 in
set_option maxRecDepth 100000 in
theorem t_hear {n : Nat} {d : D2} {I : M2} {J : J2} {S : M2} {L : J2} {R : R2} {Q : QT} {w g fc oc uc td : Nat} (hB : CB S R w g fc oc uc td) {oa nc : Nat → Nat} {ca : Nat → Nat → Nat} (hO : OrdB d S R oc oa nc ca) {x s : Int32} (hq1 : ¬ opn S oc nc ca → Q (some (.int (-103))) n (H5 d I J S L R)) (hq2 : opn S oc nc ca → (∀ j, x = nI j → ¬ j < nc (oc - 1)) → Q (some (.int (-101))) n (H5 d I J S L R)) (hq3 : ∀ j, opn S oc nc ca → x = nI j → j < nc (oc - 1) → ¬ S (ca (oc - 1) j) 2 = 1 → Q (some (.int (-103))) n (H5 d I J S L R)) (hq4 : ∀ j, opn S oc nc ca → x = nI j → j < nc (oc - 1) → S (ca (oc - 1) j) 2 = 1 → dn (u2 S (ca (oc - 1) j) 2 (if s = 0 then 2 else 3)) nc ca (oc - 1) = true → Q (some (.int 1)) n (H5 d (rowU I 5 256 (fun _ => 0)) J (u2 S (ca (oc - 1) j) 2 (if s = 0 then 2 else 3)) L R)) (hq5 : ∀ j, opn S oc nc ca → x = nI j → j < nc (oc - 1) → S (ca (oc - 1) j) 2 = 1 → dn (u2 S (ca (oc - 1) j) 2 (if s = 0 then 2 else 3)) nc ca (oc - 1) = false → Q (some (.int 1)) n (H5 d I J (u2 S (ca (oc - 1) j) 2 (if s = 0 then 2 else 3)) L R)) : Calls yX6_hear cX6_hear 5 (some .int) rmX6_hear [.ref 0, .int x, .int s] n (H5 d I J S L R) Q := by
  refine Calls.of (by decide) (Nat.le_of_ble_eq_true rfl) ?_
  intro K hk
  show AW K Q 0 0 0 [some (.ref 0), some (.int x), some (.int s), none, none] [] n (H5 d I J S L R)
  obtain ⟨hw, hg, hw1, hw6, hg1, hg6, hfc, hfc2, hoc, hoc6, huc, huc5, htd, htd4, hR13, hR62⟩ := id hB
  by_cases h1 : opn S oc nc ca
  · have hl := hO (oc - 1) (by have := h1.1; omega)
    by_cases h4 : ∃ j, x = nI j ∧ j < nc (oc - 1)
    · obtain ⟨j, h2, h3⟩ := h4
      have hcj := hl.2.2.2.2.2 j h3
      have ho2 : ∀ v, ordOK d (u2 S (ca (oc - 1) j) 2 v) R (oc - 1) (oa (oc - 1)) (nc (oc - 1)) (ca (oc - 1)) := fun v => ((hO.u2S 2 v (hO.ne hcj.2.1 (by decide))) (oc - 1) (by have := h1.1; omega)).2
      refine aw_aload_n (pc2 := 1) hk dX6_hear_0 rfl rfl ?_
      refine aw_cV (rm2 := rmX6_openOrder) (pc2 := 4) hk veX6_openOrder dX6_hear_1 rfl ml_X6_124 ⟨(Nat.le_of_ble_eq_true rfl), (Nat.le_of_ble_eq_true rfl)⟩ [] rfl rfl (Nat.le_of_ble_eq_true rfl) (Nat.le_of_ble_eq_true rfl) (Nat.le_of_ble_eq_true rfl) (o_X6 rfl) (t_open hB hO h1 ?_)
      refine aw_astore_n (pc2 := 5) hk dX6_hear_4 rfl (by decide) ?_
      show AW K Q _ _ 5 [_, _, _, _, _] _ _ _
      refine aw_aload_n (pc2 := 6) hk dX6_hear_5 rfl rfl ?_
      refine aw_ifnonnull_r (tgt := 12) hk dX6_hear_6 (by decide) ?_
      refine aw_aload_n (pc2 := 13) hk dX6_hear_12 rfl rfl ?_
      refine aw_iload_n (pc2 := 14) hk dX6_hear_13 rfl rfl ?_
      refine aw_cV (rm2 := rmX3_caseAt) (pc2 := 17) hk veX3_caseAt dX6_hear_14 rfl ml_X6_150 ⟨(Nat.le_of_ble_eq_true rfl), (Nat.le_of_ble_eq_true rfl)⟩ [_] rfl rfl (Nat.le_of_ble_eq_true rfl) (Nat.le_of_ble_eq_true rfl) (Nat.le_of_ble_eq_true rfl) (o_X3 hl.2.1) (t_caseAt hl.2 h2 h3 ?_)
      refine aw_astore (pc2 := 19) hk dX6_hear_17 rfl (by decide) ?_
      show AW K Q _ _ 19 [_, _, _, _, _] _ _ _
      refine aw_aload (pc2 := 21) hk dX6_hear_19 rfl rfl ?_
      refine aw_ifnonnull_r (tgt := 27) hk dX6_hear_21 (by decide) ?_
      refine aw_aload (pc2 := 29) hk dX6_hear_27 rfl rfl ?_
      refine aw_get (pc2 := 32) hk ckX0 2 dX6_hear_29 rfl fl_X6_154 (by decide) (o_X0 hcj.2.1) rfl ?_
      refine aw_iconst (v := 1) (pc2 := 33) hk dX6_hear_32 rfl (by decide) ?_
      refine aw_icmp_eq (tgt := 39) (pc2 := 36) hk dX6_hear_33 (by decide) rfl (fun c33 => ?_) (fun c33 => ?_)
      · refine aw_aload (pc2 := 41) hk dX6_hear_39 rfl rfl ?_
        refine aw_iload_n (pc2 := 42) hk dX6_hear_41 rfl rfl ?_
        refine aw_if_eq (tgt := 49) (pc2 := 45) hk dX6_hear_42 (by decide) rfl (fun c42 => ?_) (fun c42 => ?_)
        · refine aw_iconst (v := 2) (pc2 := 50) hk dX6_hear_49 rfl (by decide) ?_
          refine aw_put (pc2 := 53) hk ckX0 2 dX6_hear_50 rfl fl_X6_154 (by decide) rfl (o_X0 hcj.2.1) (fun _ => rfl) (fun _ => rfl) (Nat.le_of_ble_eq_true rfl) ?_
          rw [p_X0_2 hcj.2.1]
          refine aw_aload_n (pc2 := 54) hk dX6_hear_53 rfl rfl ?_
          refine aw_aload_n (pc2 := 55) hk dX6_hear_54 rfl rfl ?_
          refine aw_cV (rm2 := rmX6_emptyLineIfDone) (pc2 := 58) hk veX6_emptyLineIfDone dX6_hear_55 rfl ml_X6_163 ⟨(Nat.le_of_ble_eq_true rfl), (Nat.le_of_ble_eq_true rfl)⟩ [_] rfl rfl (Nat.le_of_ble_eq_true rfl) (Nat.le_of_ble_eq_true rfl) (Nat.le_of_ble_eq_true rfl) (o_X6 rfl) (t_eld (ho2 _) (fun h9 => ?_) (fun h9 => ?_))
          · refine aw_iconst (v := 1) (pc2 := 59) hk dX6_hear_58 rfl (by decide) ?_
            exact aw_iret hk dX6_hear_59 (Nat.le_of_ble_eq_true rfl) (Nat.le_of_ble_eq_true rfl) (by have := hq4 j h1 h2 h3 c33; rw [show (if s = 0 then (2 : Int32) else 3) = 2 from (if_pos c42)] at this; exact this h9)
          · refine aw_iconst (v := 1) (pc2 := 59) hk dX6_hear_58 rfl (by decide) ?_
            exact aw_iret hk dX6_hear_59 (Nat.le_of_ble_eq_true rfl) (Nat.le_of_ble_eq_true rfl) (by have := hq5 j h1 h2 h3 c33; rw [show (if s = 0 then (2 : Int32) else 3) = 2 from (if_pos c42)] at this; exact this h9)
        · refine aw_iconst (v := 3) (pc2 := 46) hk dX6_hear_45 rfl (by decide) ?_
          refine aw_goto (tgt := 50) hk dX6_hear_46 (by decide) ?_
          refine aw_put (pc2 := 53) hk ckX0 2 dX6_hear_50 rfl fl_X6_154 (by decide) rfl (o_X0 hcj.2.1) (fun _ => rfl) (fun _ => rfl) (Nat.le_of_ble_eq_true rfl) ?_
          rw [p_X0_2 hcj.2.1]
          refine aw_aload_n (pc2 := 54) hk dX6_hear_53 rfl rfl ?_
          refine aw_aload_n (pc2 := 55) hk dX6_hear_54 rfl rfl ?_
          refine aw_cV (rm2 := rmX6_emptyLineIfDone) (pc2 := 58) hk veX6_emptyLineIfDone dX6_hear_55 rfl ml_X6_163 ⟨(Nat.le_of_ble_eq_true rfl), (Nat.le_of_ble_eq_true rfl)⟩ [_] rfl rfl (Nat.le_of_ble_eq_true rfl) (Nat.le_of_ble_eq_true rfl) (Nat.le_of_ble_eq_true rfl) (o_X6 rfl) (t_eld (ho2 _) (fun h9 => ?_) (fun h9 => ?_))
          · refine aw_iconst (v := 1) (pc2 := 59) hk dX6_hear_58 rfl (by decide) ?_
            exact aw_iret hk dX6_hear_59 (Nat.le_of_ble_eq_true rfl) (Nat.le_of_ble_eq_true rfl) (by have := hq4 j h1 h2 h3 c33; rw [show (if s = 0 then (2 : Int32) else 3) = 3 from (if_neg c42)] at this; exact this h9)
          · refine aw_iconst (v := 1) (pc2 := 59) hk dX6_hear_58 rfl (by decide) ?_
            exact aw_iret hk dX6_hear_59 (Nat.le_of_ble_eq_true rfl) (Nat.le_of_ble_eq_true rfl) (by have := hq5 j h1 h2 h3 c33; rw [show (if s = 0 then (2 : Int32) else 3) = 3 from (if_neg c42)] at this; exact this h9)
      · refine aw_bipush (v := -103) (pc2 := 38) hk dX6_hear_36 rfl (by decide) ?_
        refine aw_iret hk dX6_hear_38 (Nat.le_of_ble_eq_true rfl) (Nat.le_of_ble_eq_true rfl) (hq3 j h1 h2 h3 c33)
    · refine aw_aload_n (pc2 := 1) hk dX6_hear_0 rfl rfl ?_
      refine aw_cV (rm2 := rmX6_openOrder) (pc2 := 4) hk veX6_openOrder dX6_hear_1 rfl ml_X6_124 ⟨(Nat.le_of_ble_eq_true rfl), (Nat.le_of_ble_eq_true rfl)⟩ [] rfl rfl (Nat.le_of_ble_eq_true rfl) (Nat.le_of_ble_eq_true rfl) (Nat.le_of_ble_eq_true rfl) (o_X6 rfl) (t_open hB hO h1 ?_)
      refine aw_astore_n (pc2 := 5) hk dX6_hear_4 rfl (by decide) ?_
      show AW K Q _ _ 5 [_, _, _, _, _] _ _ _
      refine aw_aload_n (pc2 := 6) hk dX6_hear_5 rfl rfl ?_
      refine aw_ifnonnull_r (tgt := 12) hk dX6_hear_6 (by decide) ?_
      refine aw_aload_n (pc2 := 13) hk dX6_hear_12 rfl rfl ?_
      refine aw_iload_n (pc2 := 14) hk dX6_hear_13 rfl rfl ?_
      refine aw_cV (rm2 := rmX3_caseAt) (pc2 := 17) hk veX3_caseAt dX6_hear_14 rfl ml_X6_150 ⟨(Nat.le_of_ble_eq_true rfl), (Nat.le_of_ble_eq_true rfl)⟩ [_] rfl rfl (Nat.le_of_ble_eq_true rfl) (Nat.le_of_ble_eq_true rfl) (Nat.le_of_ble_eq_true rfl) (o_X3 hl.2.1) (t_caseAtN hl.2 (fun j h2 h3 => h4 ⟨j, h2, h3⟩) ?_)
      refine aw_astoreN (pc2 := 19) hk dX6_hear_17 rfl (by decide) ?_
      show AW K Q _ _ 19 [_, _, _, _, _] _ _ _
      refine aw_aloadN (pc2 := 21) hk dX6_hear_19 rfl rfl ?_
      refine aw_ifnonnull_n (pc2 := 24) hk dX6_hear_21 rfl ?_
      refine aw_bipush (v := -101) (pc2 := 26) hk dX6_hear_24 rfl (by decide) ?_
      refine aw_iret hk dX6_hear_26 (Nat.le_of_ble_eq_true rfl) (Nat.le_of_ble_eq_true rfl) (hq2 h1 (fun j h2 h3 => h4 ⟨j, h2, h3⟩))
  · refine aw_aload_n (pc2 := 1) hk dX6_hear_0 rfl rfl ?_
    refine aw_cV (rm2 := rmX6_openOrder) (pc2 := 4) hk veX6_openOrder dX6_hear_1 rfl ml_X6_124 ⟨(Nat.le_of_ble_eq_true rfl), (Nat.le_of_ble_eq_true rfl)⟩ [] rfl rfl (Nat.le_of_ble_eq_true rfl) (Nat.le_of_ble_eq_true rfl) (Nat.le_of_ble_eq_true rfl) (o_X6 rfl) (t_openN hB hO h1 ?_)
    refine aw_astore_nN (pc2 := 5) hk dX6_hear_4 rfl (by decide) ?_
    show AW K Q _ _ 5 [_, _, _, _, _] _ _ _
    refine aw_aload_nN (pc2 := 6) hk dX6_hear_5 rfl rfl ?_
    refine aw_ifnonnull_n (pc2 := 9) hk dX6_hear_6 rfl ?_
    refine aw_bipush (v := -103) (pc2 := 11) hk dX6_hear_9 rfl (by decide) ?_
    refine aw_iret hk dX6_hear_11 (Nat.le_of_ble_eq_true rfl) (Nat.le_of_ble_eq_true rfl) (hq1 h1)
set_option maxHeartbeats 800000 in
set_option maxRecDepth 100000 in
theorem t_line {n : Nat} {d : D2} {I : M2} {J : J2} {S : M2} {L : J2} {R : R2} {Q : QT} {w g fc oc uc td : Nat} (hB : CB S R w g fc oc uc td) {oa nc : Nat → Nat} {ca : Nat → Nat → Nat} (hO : OrdB d S R oc oa nc ca) {x y s : Int32} (hs : s = 0 ∨ s = 1) (hq1 : plc w g x y = none → Q (some (.int (-101))) n (H5 d I J S L R)) (hq2 : ∀ c, plc w g x y = some c → (opn S oc nc ca ∨ tkn I c = true) → Q (some (.int (-103))) n (H5 d I J S L R)) (hq3 : ∀ c, plc w g x y = some c → ¬ opn S oc nc ca → tkn I c = false → Q (some (.int (bi (I 5 c != 0)))) n (H5 d (u2 I 5 c s) J S L R)) : Calls yX6_line cX6_line 6 (some .int) rmX6_line [.ref 0, .int x, .int y, .int s] n (H5 d I J S L R) Q := by
  refine Calls.of (by decide) (Nat.le_of_ble_eq_true rfl) ?_
  intro K hk
  show AW K Q 0 0 0 [some (.ref 0), some (.int x), some (.int y), some (.int s), none, none] [] n (H5 d I J S L R)
  obtain ⟨hw, hg, hw1, hw6, hg1, hg6, hfc, hfc2, hoc, hoc6, huc, huc5, htd, htd4, hR13, hR62⟩ := id hB
  by_cases h1 : opn S oc nc ca
  · refine aw_aload_n (pc2 := 1) hk dX6_line_0 rfl rfl ?_
    refine aw_get (pc2 := 4) hk ckX6 0 dX6_line_1 rfl fl_X6_12 (by decide) (o_X6 rfl) rfl ?_
    refine aw_iload_n (pc2 := 5) hk dX6_line_4 rfl rfl ?_
    refine aw_iload_n (pc2 := 6) hk dX6_line_5 rfl rfl ?_
    refine aw_cV (rm2 := rmX2_at) (pc2 := 9) hk veX2_at dX6_line_6 rfl ml_X6_65 ⟨(Nat.le_of_ble_eq_true rfl), (Nat.le_of_ble_eq_true rfl)⟩ [_, _] rfl rfl (Nat.le_of_ble_eq_true rfl) (Nat.le_of_ble_eq_true rfl) (Nat.le_of_ble_eq_true rfl) (o_X2 rfl) (t_at hw hg hw6 hg6 ?_)
    refine aw_istore (pc2 := 11) hk dX6_line_9 rfl (by decide) ?_
    show AW K Q _ _ 11 [_, _, _, _, _, _] _ _ _
    refine aw_iload (pc2 := 13) hk dX6_line_11 rfl rfl ?_
    refine aw_iconst (v := -1) (pc2 := 14) hk dX6_line_13 rfl (by decide) ?_
    refine aw_icmp_ne (tgt := 20) (pc2 := 17) hk dX6_line_14 (by decide) rfl (fun c14 => ?_) (fun c14 => ?_)
    · obtain ⟨c, hc1, hc2⟩ := opI_some c14
      have hc3 := plc_lt hw6 hg6 hc1
      refine aw_aload_n (pc2 := 21) hk dX6_line_20 rfl rfl ?_
      refine aw_cV (rm2 := rmX6_openOrder) (pc2 := 24) hk veX6_openOrder dX6_line_21 rfl ml_X6_124 ⟨(Nat.le_of_ble_eq_true rfl), (Nat.le_of_ble_eq_true rfl)⟩ [] rfl rfl (Nat.le_of_ble_eq_true rfl) (Nat.le_of_ble_eq_true rfl) (Nat.le_of_ble_eq_true rfl) (o_X6 rfl) (t_open hB hO h1 ?_)
      refine aw_ifnonnull_r (tgt := 39) hk dX6_line_24 (by decide) ?_
      refine aw_bipush (v := -103) (pc2 := 41) hk dX6_line_39 rfl (by decide) ?_
      refine aw_iret hk dX6_line_41 (Nat.le_of_ble_eq_true rfl) (Nat.le_of_ble_eq_true rfl) (hq2 c hc1 (Or.inl h1))
    · refine aw_bipush (v := -101) (pc2 := 19) hk dX6_line_17 rfl (by decide) ?_
      refine aw_iret hk dX6_line_19 (Nat.le_of_ble_eq_true rfl) (Nat.le_of_ble_eq_true rfl) (hq1 (opI_none c14 (fun q h => plc_lt hw6 hg6 h)))
  · refine aw_aload_n (pc2 := 1) hk dX6_line_0 rfl rfl ?_
    refine aw_get (pc2 := 4) hk ckX6 0 dX6_line_1 rfl fl_X6_12 (by decide) (o_X6 rfl) rfl ?_
    refine aw_iload_n (pc2 := 5) hk dX6_line_4 rfl rfl ?_
    refine aw_iload_n (pc2 := 6) hk dX6_line_5 rfl rfl ?_
    refine aw_cV (rm2 := rmX2_at) (pc2 := 9) hk veX2_at dX6_line_6 rfl ml_X6_65 ⟨(Nat.le_of_ble_eq_true rfl), (Nat.le_of_ble_eq_true rfl)⟩ [_, _] rfl rfl (Nat.le_of_ble_eq_true rfl) (Nat.le_of_ble_eq_true rfl) (Nat.le_of_ble_eq_true rfl) (o_X2 rfl) (t_at hw hg hw6 hg6 ?_)
    refine aw_istore (pc2 := 11) hk dX6_line_9 rfl (by decide) ?_
    show AW K Q _ _ 11 [_, _, _, _, _, _] _ _ _
    refine aw_iload (pc2 := 13) hk dX6_line_11 rfl rfl ?_
    refine aw_iconst (v := -1) (pc2 := 14) hk dX6_line_13 rfl (by decide) ?_
    refine aw_icmp_ne (tgt := 20) (pc2 := 17) hk dX6_line_14 (by decide) rfl (fun c14 => ?_) (fun c14 => ?_)
    · obtain ⟨c, hc1, hc2⟩ := opI_some c14
      have hc3 := plc_lt hw6 hg6 hc1
      refine aw_aload_n (pc2 := 21) hk dX6_line_20 rfl rfl ?_
      refine aw_cV (rm2 := rmX6_openOrder) (pc2 := 24) hk veX6_openOrder dX6_line_21 rfl ml_X6_124 ⟨(Nat.le_of_ble_eq_true rfl), (Nat.le_of_ble_eq_true rfl)⟩ [] rfl rfl (Nat.le_of_ble_eq_true rfl) (Nat.le_of_ble_eq_true rfl) (Nat.le_of_ble_eq_true rfl) (o_X6 rfl) (t_openN hB hO h1 ?_)
      refine aw_ifnonnull_n (pc2 := 27) hk dX6_line_24 rfl ?_
      refine aw_aload_n (pc2 := 28) hk dX6_line_27 rfl rfl ?_
      refine aw_get (pc2 := 31) hk ckX6 0 dX6_line_28 rfl fl_X6_12 (by decide) (o_X6 rfl) rfl ?_
      refine aw_iload (pc2 := 33) hk dX6_line_31 rfl rfl ?_
      refine aw_cV (rm2 := rmX2_isTaken) (pc2 := 36) hk veX2_isTaken dX6_line_33 rfl ml_X6_128 ⟨(Nat.le_of_ble_eq_true rfl), (Nat.le_of_ble_eq_true rfl)⟩ [_] rfl rfl (Nat.le_of_ble_eq_true rfl) (Nat.le_of_ble_eq_true rfl) (Nat.le_of_ble_eq_true rfl) (o_X2 rfl) (t_isTaken hc2 hc3 ?_)
      refine aw_if_eq (tgt := 42) (pc2 := 39) hk dX6_line_36 (by decide) rfl (fun c36 => ?_) (fun c36 => ?_)
      · refine aw_aload_n (pc2 := 43) hk dX6_line_42 rfl rfl ?_
        refine aw_get (pc2 := 46) hk ckX6 0 dX6_line_43 rfl fl_X6_12 (by decide) (o_X6 rfl) rfl ?_
        refine aw_get (v := .ref 5) (pc2 := 49) hk ckX2 5 dX6_line_46 rfl fl_X6_131 (by decide) (o_X2 rfl) rfl ?_
        refine aw_iload (pc2 := 51) hk dX6_line_49 rfl rfl ?_
        refine h_zald (pc2 := 52) hk dX6_line_51 rfl rfl hc2 hc3 (by decide) ?_
        refine aw_if_eq (tgt := 59) (pc2 := 55) hk dX6_line_52 (by decide) rfl (fun c52 => ?_) (fun c52 => ?_)
        · refine aw_iconst (v := 0) (pc2 := 60) hk dX6_line_59 rfl (by decide) ?_
          refine aw_top (bi (I 5 c != 0)) (by simp [bi, c52]) ?_
          refine aw_istore (pc2 := 62) hk dX6_line_60 rfl (by decide) ?_
          show AW K Q _ _ 62 [_, _, _, _, _, _] _ _ _
          refine aw_aload_n (pc2 := 63) hk dX6_line_62 rfl rfl ?_
          refine aw_get (pc2 := 66) hk ckX6 0 dX6_line_63 rfl fl_X6_12 (by decide) (o_X6 rfl) rfl ?_
          refine aw_get (v := .ref 5) (pc2 := 69) hk ckX2 5 dX6_line_66 rfl fl_X6_131 (by decide) (o_X2 rfl) rfl ?_
          refine aw_iload (pc2 := 71) hk dX6_line_69 rfl rfl ?_
          refine aw_iload_n (pc2 := 72) hk dX6_line_71 rfl rfl ?_
          refine h_zast (pc2 := 73) hk dX6_line_72 rfl rfl hc2 hc3 (by decide) hs ?_
          refine aw_iload (pc2 := 75) hk dX6_line_73 rfl rfl ?_
          refine aw_iret hk dX6_line_75 (Nat.le_of_ble_eq_true rfl) (Nat.le_of_ble_eq_true rfl) (hq3 c hc1 h1 (bi_ff c36))
        · refine aw_iconst (v := 1) (pc2 := 56) hk dX6_line_55 rfl (by decide) ?_
          refine aw_goto (tgt := 60) hk dX6_line_56 (by decide) ?_
          refine aw_top (bi (I 5 c != 0)) (by simp [bi, c52]) ?_
          refine aw_istore (pc2 := 62) hk dX6_line_60 rfl (by decide) ?_
          show AW K Q _ _ 62 [_, _, _, _, _, _] _ _ _
          refine aw_aload_n (pc2 := 63) hk dX6_line_62 rfl rfl ?_
          refine aw_get (pc2 := 66) hk ckX6 0 dX6_line_63 rfl fl_X6_12 (by decide) (o_X6 rfl) rfl ?_
          refine aw_get (v := .ref 5) (pc2 := 69) hk ckX2 5 dX6_line_66 rfl fl_X6_131 (by decide) (o_X2 rfl) rfl ?_
          refine aw_iload (pc2 := 71) hk dX6_line_69 rfl rfl ?_
          refine aw_iload_n (pc2 := 72) hk dX6_line_71 rfl rfl ?_
          refine h_zast (pc2 := 73) hk dX6_line_72 rfl rfl hc2 hc3 (by decide) hs ?_
          refine aw_iload (pc2 := 75) hk dX6_line_73 rfl rfl ?_
          refine aw_iret hk dX6_line_75 (Nat.le_of_ble_eq_true rfl) (Nat.le_of_ble_eq_true rfl) (hq3 c hc1 h1 (bi_ff c36))
      · refine aw_bipush (v := -103) (pc2 := 41) hk dX6_line_39 rfl (by decide) ?_
        refine aw_iret hk dX6_line_41 (Nat.le_of_ble_eq_true rfl) (Nat.le_of_ble_eq_true rfl) (hq2 c hc1 (Or.inr (bi_tt c36)))
    · refine aw_bipush (v := -101) (pc2 := 19) hk dX6_line_17 rfl (by decide) ?_
      refine aw_iret hk dX6_line_19 (Nat.le_of_ble_eq_true rfl) (Nat.le_of_ble_eq_true rfl) (hq1 (opI_none c14 (fun q h => plc_lt hw6 hg6 h)))
def lok (I : M2) (c k : Nat) : Int32 := match k with
  | 0 => I 2 c
  | 1 => I 3 c
  | 2 => bi (I 4 c != 0)
  | 3 => bi (tkn I c)
  | _ => bi (I 5 c != 0)
theorem l13 : (13 : Int32).toInt = 13 := rfl
theorem l14 : (14 : Int32).toInt = 14 := rfl
theorem l7 : (7 : Int32).toInt = 7 := rfl
theorem l8 : (8 : Int32).toInt = 8 := rfl
set_option maxHeartbeats 800000 in
set_option maxRecDepth 100000 in
theorem t_look {n : Nat} {d : D2} {I : M2} {J : J2} {S : M2} {L : J2} {R : R2} {Q : QT} {w g fc oc uc td : Nat} (hB : CB S R w g fc oc uc td) {x y z : Int32} (hq1 : plc w g x y = none → Q (some (.int (-101))) n (H5 d I J S L R)) (hq2 : ∀ c, plc w g x y = some c → (∀ k, z = nI k → ¬ k < 5) → Q (some (.int (-102))) n (H5 d I J S L R)) (hq3 : ∀ c k, plc w g x y = some c → z = nI k → k < 5 → Q (some (.int (lok I c k))) n (H5 d I J S L R)) : Calls yX6_look cX6_look 5 (some .int) rmX6_look [.ref 0, .int x, .int y, .int z] n (H5 d I J S L R) Q := by
  refine Calls.of (by decide) (Nat.le_of_ble_eq_true rfl) ?_
  intro K hk
  show AW K Q 0 0 0 [some (.ref 0), some (.int x), some (.int y), some (.int z), none] [] n (H5 d I J S L R)
  obtain ⟨hw, hg, hw1, hw6, hg1, hg6, hfc, hfc2, hoc, hoc6, huc, huc5, htd, htd4, hR13, hR62⟩ := id hB
  refine aw_aload_n (pc2 := 1) hk dX6_look_0 rfl rfl ?_
  refine aw_get (pc2 := 4) hk ckX6 0 dX6_look_1 rfl fl_X6_12 (by decide) (o_X6 rfl) rfl ?_
  refine aw_iload_n (pc2 := 5) hk dX6_look_4 rfl rfl ?_
  refine aw_iload_n (pc2 := 6) hk dX6_look_5 rfl rfl ?_
  refine aw_cV (rm2 := rmX2_at) (pc2 := 9) hk veX2_at dX6_look_6 rfl ml_X6_65 ⟨(Nat.le_of_ble_eq_true rfl), (Nat.le_of_ble_eq_true rfl)⟩ [_, _] rfl rfl (Nat.le_of_ble_eq_true rfl) (Nat.le_of_ble_eq_true rfl) (Nat.le_of_ble_eq_true rfl) (o_X2 rfl) (t_at hw hg hw6 hg6 ?_)
  refine aw_istore (pc2 := 11) hk dX6_look_9 rfl (by decide) ?_
  show AW K Q _ _ 11 [_, _, _, _, _] _ _ _
  refine aw_iload (pc2 := 13) hk dX6_look_11 rfl rfl ?_
  refine aw_iconst (v := -1) (pc2 := 14) hk dX6_look_13 rfl (by decide) ?_
  refine aw_icmp_ne (tgt := 20) (pc2 := 17) hk dX6_look_14 (by decide) rfl (fun c14 => ?_) (fun c14 => ?_)
  · obtain ⟨c, hc1, hc2⟩ := opI_some c14
    have hc3 := plc_lt hw6 hg6 hc1
    refine aw_iload_n (pc2 := 21) hk dX6_look_20 rfl rfl ?_
    by_cases h5 : ∃ k, z = nI k ∧ k < 5
    · obtain ⟨k, h6, h7⟩ := h5
      subst h6
      match k, h7 with
      | 0, _ =>
        refine aw_tableIn (tgt := 56) (off := 35) hk dX6_look_21 (by decide) (by decide) (by decide) (by decide) ?_
        refine aw_aload_n (pc2 := 57) hk dX6_look_56 rfl rfl ?_
        refine aw_get (pc2 := 60) hk ckX6 0 dX6_look_57 rfl fl_X6_12 (by decide) (o_X6 rfl) rfl ?_
        refine aw_get (v := .ref 2) (pc2 := 63) hk ckX2 2 dX6_look_60 rfl fl_X6_80 (by decide) (o_X2 rfl) rfl ?_
        refine aw_iload (pc2 := 65) hk dX6_look_63 rfl rfl ?_
        refine h_iald (pc2 := 66) hk dX6_look_65 rfl rfl hc2 hc3 (by decide) ?_
        refine aw_iret hk dX6_look_66 (Nat.le_of_ble_eq_true rfl) (Nat.le_of_ble_eq_true rfl) (hq3 c 0 hc1 rfl (by decide))
      | 1, _ =>
        refine aw_tableIn (tgt := 67) (off := 46) hk dX6_look_21 (by decide) (by decide) (by decide) (by decide) ?_
        refine aw_aload_n (pc2 := 68) hk dX6_look_67 rfl rfl ?_
        refine aw_get (pc2 := 71) hk ckX6 0 dX6_look_68 rfl fl_X6_12 (by decide) (o_X6 rfl) rfl ?_
        refine aw_get (v := .ref 3) (pc2 := 74) hk ckX2 3 dX6_look_71 rfl fl_X6_83 (by decide) (o_X2 rfl) rfl ?_
        refine aw_iload (pc2 := 76) hk dX6_look_74 rfl rfl ?_
        refine h_iald (pc2 := 77) hk dX6_look_76 rfl rfl hc2 hc3 (by decide) ?_
        refine aw_iret hk dX6_look_77 (Nat.le_of_ble_eq_true rfl) (Nat.le_of_ble_eq_true rfl) (hq3 c 1 hc1 rfl (by decide))
      | 2, _ =>
        refine aw_tableIn (tgt := 78) (off := 57) hk dX6_look_21 (by decide) (by decide) (by decide) (by decide) ?_
        refine aw_aload_n (pc2 := 79) hk dX6_look_78 rfl rfl ?_
        refine aw_get (pc2 := 82) hk ckX6 0 dX6_look_79 rfl fl_X6_12 (by decide) (o_X6 rfl) rfl ?_
        refine aw_get (v := .ref 4) (pc2 := 85) hk ckX2 4 dX6_look_82 rfl fl_X6_86 (by decide) (o_X2 rfl) rfl ?_
        refine aw_iload (pc2 := 87) hk dX6_look_85 rfl rfl ?_
        refine h_zald (pc2 := 88) hk dX6_look_87 rfl rfl hc2 hc3 (by decide) ?_
        refine aw_if_eq (tgt := 95) (pc2 := 91) hk dX6_look_88 (by decide) rfl (fun c88 => ?_) (fun c88 => ?_)
        · refine aw_iconst (v := 0) (pc2 := 96) hk dX6_look_95 rfl (by decide) ?_
          refine aw_iret hk dX6_look_96 (Nat.le_of_ble_eq_true rfl) (Nat.le_of_ble_eq_true rfl) (by have := hq3 c 2 hc1 rfl (by decide); simpa [lok, bi, c88] using this)
        · refine aw_iconst (v := 1) (pc2 := 92) hk dX6_look_91 rfl (by decide) ?_
          refine aw_goto (tgt := 96) hk dX6_look_92 (by decide) ?_
          refine aw_iret hk dX6_look_96 (Nat.le_of_ble_eq_true rfl) (Nat.le_of_ble_eq_true rfl) (by have := hq3 c 2 hc1 rfl (by decide); simpa [lok, bi, c88] using this)
      | 3, _ =>
        refine aw_tableIn (tgt := 97) (off := 76) hk dX6_look_21 (by decide) (by decide) (by decide) (by decide) ?_
        refine aw_aload_n (pc2 := 98) hk dX6_look_97 rfl rfl ?_
        refine aw_get (pc2 := 101) hk ckX6 0 dX6_look_98 rfl fl_X6_12 (by decide) (o_X6 rfl) rfl ?_
        refine aw_iload (pc2 := 103) hk dX6_look_101 rfl rfl ?_
        refine aw_cV (rm2 := rmX2_isTaken) (pc2 := 106) hk veX2_isTaken dX6_look_103 rfl ml_X6_128 ⟨(Nat.le_of_ble_eq_true rfl), (Nat.le_of_ble_eq_true rfl)⟩ [_] rfl rfl (Nat.le_of_ble_eq_true rfl) (Nat.le_of_ble_eq_true rfl) (Nat.le_of_ble_eq_true rfl) (o_X2 rfl) (t_isTaken hc2 hc3 ?_)
        refine aw_if_eq (tgt := 113) (pc2 := 109) hk dX6_look_106 (by decide) rfl (fun c106 => ?_) (fun c106 => ?_)
        · refine aw_iconst (v := 0) (pc2 := 114) hk dX6_look_113 rfl (by decide) ?_
          refine aw_iret hk dX6_look_114 (Nat.le_of_ble_eq_true rfl) (Nat.le_of_ble_eq_true rfl) (by have := hq3 c 3 hc1 rfl (by decide); rw [show lok I c 3 = bi (tkn I c) from rfl] at this; first | (rw [c106] at this; exact this) | (rw [bi_t c106] at this; exact this))
        · refine aw_iconst (v := 1) (pc2 := 110) hk dX6_look_109 rfl (by decide) ?_
          refine aw_goto (tgt := 114) hk dX6_look_110 (by decide) ?_
          refine aw_iret hk dX6_look_114 (Nat.le_of_ble_eq_true rfl) (Nat.le_of_ble_eq_true rfl) (by have := hq3 c 3 hc1 rfl (by decide); rw [show lok I c 3 = bi (tkn I c) from rfl] at this; first | (rw [c106] at this; exact this) | (rw [bi_t c106] at this; exact this))
      | 4, _ =>
        refine aw_tableIn (tgt := 115) (off := 94) hk dX6_look_21 (by decide) (by decide) (by decide) (by decide) ?_
        refine aw_aload_n (pc2 := 116) hk dX6_look_115 rfl rfl ?_
        refine aw_get (pc2 := 119) hk ckX6 0 dX6_look_116 rfl fl_X6_12 (by decide) (o_X6 rfl) rfl ?_
        refine aw_get (v := .ref 5) (pc2 := 122) hk ckX2 5 dX6_look_119 rfl fl_X6_131 (by decide) (o_X2 rfl) rfl ?_
        refine aw_iload (pc2 := 124) hk dX6_look_122 rfl rfl ?_
        refine h_zald (pc2 := 125) hk dX6_look_124 rfl rfl hc2 hc3 (by decide) ?_
        refine aw_if_eq (tgt := 132) (pc2 := 128) hk dX6_look_125 (by decide) rfl (fun c125 => ?_) (fun c125 => ?_)
        · refine aw_iconst (v := 0) (pc2 := 133) hk dX6_look_132 rfl (by decide) ?_
          refine aw_iret hk dX6_look_133 (Nat.le_of_ble_eq_true rfl) (Nat.le_of_ble_eq_true rfl) (by have := hq3 c 4 hc1 rfl (by decide); simpa [lok, bi, c125] using this)
        · refine aw_iconst (v := 1) (pc2 := 129) hk dX6_look_128 rfl (by decide) ?_
          refine aw_goto (tgt := 133) hk dX6_look_129 (by decide) ?_
          refine aw_iret hk dX6_look_133 (Nat.le_of_ble_eq_true rfl) (Nat.le_of_ble_eq_true rfl) (by have := hq3 c 4 hc1 rfl (by decide); simpa [lok, bi, c125] using this)
    · refine aw_tableOut (tgt := 134) hk dX6_look_21 (by rcases Int.lt_or_le z.toInt 0 with q | q; exact Or.inl q; exact Or.inr (by rcases Int.lt_or_le 4 z.toInt with q2 | q2; exact q2; exact absurd ⟨z.toInt.toNat, i_eq (by omega), by omega⟩ h5)) (by decide) ?_
      refine aw_bipush (v := -102) (pc2 := 136) hk dX6_look_134 rfl (by decide) ?_
      refine aw_iret hk dX6_look_136 (Nat.le_of_ble_eq_true rfl) (Nat.le_of_ble_eq_true rfl) (hq2 c hc1 (fun k h8 h9 => h5 ⟨k, h8, h9⟩))
  · refine aw_bipush (v := -101) (pc2 := 19) hk dX6_look_17 rfl (by decide) ?_
    refine aw_iret hk dX6_look_19 (Nat.le_of_ble_eq_true rfl) (Nat.le_of_ble_eq_true rfl) (hq1 (opI_none c14 (fun q h => plc_lt hw6 hg6 h)))
set_option maxHeartbeats 800000 in
set_option maxRecDepth 100000 in
theorem t_told {n : Nat} {d : D2} {I : M2} {J : J2} {S : M2} {L : J2} {R : R2} {Q : QT} {w g fc oc uc td : Nat} (hB : CB S R w g fc oc uc td) {oa nc : Nat → Nat} {ca : Nat → Nat → Nat} (hO : OrdB d S R oc oa nc ca) {x y z : Int32} (hq1 : (∀ o k, x = nI o → y = nI k → ¬ (o < oc ∧ k < nc o)) → Q (some (.long (-101))) n (H5 d I J S L R)) (hq2 : ∀ o k, x = nI o → y = nI k → o < oc → k < nc o → (∀ j, z = nI j → ¬ j < 14) → Q (some (.long (-102))) n (H5 d I J S L R)) (hq3 : ∀ o k j, x = nI o → y = nI k → o < oc → k < nc o → z = nI j → j < 14 → Q (some (.long (tell S L (ca o k) j (S 0 7)))) n (H5 d I J S L R)) : Calls yX6_told cX6_told 5 (some .long) rmX6_told [.ref 0, .int x, .int y, .int z] n (H5 d I J S L R) Q := by
  refine Calls.of (by decide) (Nat.le_of_ble_eq_true rfl) ?_
  intro K hk
  show AW K Q 0 0 0 [some (.ref 0), some (.int x), some (.int y), some (.int z), none] [] n (H5 d I J S L R)
  obtain ⟨hw, hg, hw1, hw6, hg1, hg6, hfc, hfc2, hoc, hoc6, huc, huc5, htd, htd4, hR13, hR62⟩ := id hB
  by_cases h1 : ∃ o k, x = nI o ∧ y = nI k ∧ o < oc ∧ k < nc o
  · obtain ⟨o, k, hx, hy, ho, hk1⟩ := h1
    have hc := (hO o ho).2.2.2.2.2 k hk1
    refine aw_aload_n (pc2 := 1) hk dX6_told_0 rfl rfl ?_
    refine aw_iload_n (pc2 := 2) hk dX6_told_1 rfl rfl ?_
    refine aw_iload_n (pc2 := 3) hk dX6_told_2 rfl rfl ?_
    refine aw_cV (rm2 := rmX6_caseOf) (pc2 := 6) hk veX6_caseOf dX6_told_3 rfl ml_X6_305 ⟨(Nat.le_of_ble_eq_true rfl), (Nat.le_of_ble_eq_true rfl)⟩ [_, _] rfl rfl (Nat.le_of_ble_eq_true rfl) (Nat.le_of_ble_eq_true rfl) (Nat.le_of_ble_eq_true rfl) (o_X6 rfl) (t_caseOf hB hO hx hy ho hk1 ?_)
    refine aw_astore (pc2 := 8) hk dX6_told_6 rfl (by decide) ?_
    show AW K Q _ _ 8 [_, _, _, _, _] _ _ _
    refine aw_aload (pc2 := 10) hk dX6_told_8 rfl rfl ?_
    refine aw_ifnonnull_r (tgt := 17) hk dX6_told_10 (by decide) ?_
    refine aw_iload_n (pc2 := 18) hk dX6_told_17 rfl rfl ?_
    refine aw_if_lt (tgt := 27) (pc2 := 21) hk dX6_told_18 (by decide) rfl (fun c18 => ?_) (fun c18 => ?_)
    · refine aw_ldc2 (pc2 := 30) hk dX6_told_27 rfl kl_X6_313 ?_
      refine aw_lret hk dX6_told_30 (Nat.le_of_ble_eq_true rfl) (Nat.le_of_ble_eq_true rfl) (hq2 o k hx hy ho hk1 (fun j h9 h8 => by subst h9; simp only [i_lt, i_le, l0, l14, nI_toInt (show j < 2 ^ 31 by omega)] at *; omega))
    · refine aw_iload_n (pc2 := 22) hk dX6_told_21 rfl rfl ?_
      refine aw_bipush (v := 14) (pc2 := 24) hk dX6_told_22 rfl (by decide) ?_
      refine aw_icmp_lt (tgt := 31) (pc2 := 27) hk dX6_told_24 (by decide) rfl (fun c24 => ?_) (fun c24 => ?_)
      · obtain ⟨j, hj1, hj2⟩ : ∃ j, j < 14 ∧ z = nI j := ⟨z.toInt.toNat, by simp only [i_lt, i_le, l0, l14] at *; omega, i_eq (by simp only [i_lt, i_le, l0, l14] at *; omega)⟩
        subst hj2
        refine aw_aload (pc2 := 33) hk dX6_told_31 rfl rfl ?_
        refine aw_iload_n (pc2 := 34) hk dX6_told_33 rfl rfl ?_
        refine aw_aload_n (pc2 := 35) hk dX6_told_34 rfl rfl ?_
        refine aw_get (pc2 := 38) hk ckX6 7 dX6_told_35 rfl fl_X6_121 (by decide) (o_X6 rfl) rfl ?_
        refine aw_cV (rm2 := rmX0_tell) (pc2 := 41) hk veX0_tell dX6_told_38 rfl ml_X6_319 ⟨(Nat.le_of_ble_eq_true rfl), (Nat.le_of_ble_eq_true rfl)⟩ [_, _] rfl rfl (Nat.le_of_ble_eq_true rfl) (Nat.le_of_ble_eq_true rfl) (Nat.le_of_ble_eq_true rfl) (o_X0 hc.2.1) (t_tell hc.2.1 hj1 ?_)
        refine aw_lret hk dX6_told_41 (Nat.le_of_ble_eq_true rfl) (Nat.le_of_ble_eq_true rfl) (hq3 o k j hx hy ho hk1 rfl hj1)
      · refine aw_ldc2 (pc2 := 30) hk dX6_told_27 rfl kl_X6_313 ?_
        refine aw_lret hk dX6_told_30 (Nat.le_of_ble_eq_true rfl) (Nat.le_of_ble_eq_true rfl) (hq2 o k hx hy ho hk1 (fun j h9 h8 => by subst h9; simp only [i_lt, i_le, l0, l14, nI_toInt (show j < 2 ^ 31 by omega)] at *; omega))
  · refine aw_aload_n (pc2 := 1) hk dX6_told_0 rfl rfl ?_
    refine aw_iload_n (pc2 := 2) hk dX6_told_1 rfl rfl ?_
    refine aw_iload_n (pc2 := 3) hk dX6_told_2 rfl rfl ?_
    refine aw_cV (rm2 := rmX6_caseOf) (pc2 := 6) hk veX6_caseOf dX6_told_3 rfl ml_X6_305 ⟨(Nat.le_of_ble_eq_true rfl), (Nat.le_of_ble_eq_true rfl)⟩ [_, _] rfl rfl (Nat.le_of_ble_eq_true rfl) (Nat.le_of_ble_eq_true rfl) (Nat.le_of_ble_eq_true rfl) (o_X6 rfl) (t_caseOfN hB hO (fun o k a b c => h1 ⟨o, k, a, b, c⟩) ?_)
    refine aw_astoreN (pc2 := 8) hk dX6_told_6 rfl (by decide) ?_
    show AW K Q _ _ 8 [_, _, _, _, _] _ _ _
    refine aw_aloadN (pc2 := 10) hk dX6_told_8 rfl rfl ?_
    refine aw_ifnonnull_n (pc2 := 13) hk dX6_told_10 rfl ?_
    refine aw_ldc2 (pc2 := 16) hk dX6_told_13 rfl kl_X6_309 ?_
    refine aw_lret hk dX6_told_16 (Nat.le_of_ble_eq_true rfl) (Nat.le_of_ble_eq_true rfl) (hq1 (fun o k a b c => h1 ⟨o, k, a, b, c⟩))
theorem j_lt (x y : Int64) : x < y ↔ x.toInt < y.toInt := Int64.lt_iff_toInt_lt
theorem j_le (x y : Int64) : x ≤ y ↔ x.toInt ≤ y.toInt := Int64.le_iff_toInt_le
set_option maxHeartbeats 800000 in
set_option maxRecDepth 100000 in
theorem t_pay {n : Nat} {d : D2} {I : M2} {J : J2} {S : M2} {L : J2} {R : R2} {Q : QT} {w g fc oc uc td : Nat} (hB : CB S R w g fc oc uc td) {oa nc : Nat → Nat} {ca : Nat → Nat → Nat} (hO : OrdB d S R oc oa nc ca) {x y : Int32} {v : Int64} (hq1 : (∀ o k, x = nI o → y = nI k → ¬ (o < oc ∧ k < nc o)) → Q (some (.long (-101))) n (H5 d I J S L R)) (hq2 : ∀ o k, x = nI o → y = nI k → o < oc → k < nc o → ¬ (1 ≤ v ∧ v ≤ 1000000000) → Q (some (.long (-102))) n (H5 d I J S L R)) (hq3 : ∀ o k, x = nI o → y = nI k → o < oc → k < nc o → (1 ≤ v ∧ v ≤ 1000000000) → ¬ S (ca o k) 2 = 4 → Q (some (.long (-103))) n (H5 d I J S L R)) (hq4 : ∀ o k, x = nI o → y = nI k → o < oc → k < nc o → (1 ≤ v ∧ v ≤ 1000000000) → S (ca o k) 2 = 4 → Q (some (.long (rcvI S L (ca o k) v (S 0 7) + rcvD S L (ca o k) v (S 0 7)))) n (H5 d I J (u2 S (ca o k) 5 (S 0 7)) (u2 (u2 (u2 L (ca o k) 12 (intr S L (ca o k) (S 0 7) - rcvI S L (ca o k) v (S 0 7))) (ca o k) 13 (L (ca o k) 13 + rcvI S L (ca o k) v (S 0 7))) (ca o k) 11 (L (ca o k) 11 + rcvD S L (ca o k) v (S 0 7))) R)) : Calls yX6_pay cX6_pay 6 (some .long) rmX6_pay [.ref 0, .int x, .int y, .long v] n (H5 d I J S L R) Q := by
  refine Calls.of (by decide) (Nat.le_of_ble_eq_true rfl) ?_
  intro K hk
  show AW K Q 0 0 0 [some (.ref 0), some (.int x), some (.int y), some (.long v), none, none] [] n (H5 d I J S L R)
  obtain ⟨hw, hg, hw1, hw6, hg1, hg6, hfc, hfc2, hoc, hoc6, huc, huc5, htd, htd4, hR13, hR62⟩ := id hB
  by_cases h1 : ∃ o k, x = nI o ∧ y = nI k ∧ o < oc ∧ k < nc o
  · obtain ⟨o, k, hx, hy, ho, hk1⟩ := h1
    have hc := (hO o ho).2.2.2.2.2 k hk1
    refine aw_aload_n (pc2 := 1) hk dX6_pay_0 rfl rfl ?_
    refine aw_iload_n (pc2 := 2) hk dX6_pay_1 rfl rfl ?_
    refine aw_iload_n (pc2 := 3) hk dX6_pay_2 rfl rfl ?_
    refine aw_cV (rm2 := rmX6_caseOf) (pc2 := 6) hk veX6_caseOf dX6_pay_3 rfl ml_X6_305 ⟨(Nat.le_of_ble_eq_true rfl), (Nat.le_of_ble_eq_true rfl)⟩ [_, _] rfl rfl (Nat.le_of_ble_eq_true rfl) (Nat.le_of_ble_eq_true rfl) (Nat.le_of_ble_eq_true rfl) (o_X6 rfl) (t_caseOf hB hO hx hy ho hk1 ?_)
    refine aw_astore (pc2 := 8) hk dX6_pay_6 rfl (by decide) ?_
    show AW K Q _ _ 8 [_, _, _, _, _, _] _ _ _
    refine aw_aload (pc2 := 10) hk dX6_pay_8 rfl rfl ?_
    refine aw_ifnonnull_r (tgt := 17) hk dX6_pay_10 (by decide) ?_
    refine aw_lload_n (pc2 := 18) hk dX6_pay_17 rfl rfl ?_
    refine aw_lconst (v := 1) (pc2 := 19) hk dX6_pay_18 rfl (by decide) ?_
    refine aw_lcmp (pc2 := 20) hk dX6_pay_19 rfl ?_
    refine aw_if_lt (tgt := 31) (pc2 := 23) hk dX6_pay_20 (by decide) rfl (fun c20 => ?_) (fun c20 => ?_)
    · refine aw_ldc2 (pc2 := 34) hk dX6_pay_31 rfl kl_X6_313 ?_
      refine aw_lret hk dX6_pay_34 (Nat.le_of_ble_eq_true rfl) (Nat.le_of_ble_eq_true rfl) (hq2 o k hx hy ho hk1 (fun h9 => by first | (rw [lg_cmp_lt] at c20; exact absurd c20 (by rw [j_lt]; have := h9.1; rw [j_le] at this; omega)) | (rw [lg_cmp_le] at c28; exact c28 h9.2)))
    · refine aw_lload_n (pc2 := 24) hk dX6_pay_23 rfl rfl ?_
      refine aw_ldc2 (pc2 := 27) hk dX6_pay_24 rfl kl_X6_311 ?_
      refine aw_lcmp (pc2 := 28) hk dX6_pay_27 rfl ?_
      refine aw_if_le (tgt := 35) (pc2 := 31) hk dX6_pay_28 (by decide) rfl (fun c28 => ?_) (fun c28 => ?_)
      · have hv : 1 ≤ v ∧ v ≤ 1000000000 := ⟨by rw [lg_cmp_lt] at c20; rw [j_le]; rw [j_lt] at c20; omega, by rw [lg_cmp_le] at c28; exact c28⟩
        refine aw_aload (pc2 := 37) hk dX6_pay_35 rfl rfl ?_
        refine aw_get (pc2 := 40) hk ckX0 2 dX6_pay_37 rfl fl_X6_154 (by decide) (o_X0 hc.2.1) rfl ?_
        refine aw_iconst (v := 4) (pc2 := 41) hk dX6_pay_40 rfl (by decide) ?_
        refine aw_icmp_eq (tgt := 48) (pc2 := 44) hk dX6_pay_41 (by decide) rfl (fun c41 => ?_) (fun c41 => ?_)
        · refine aw_aload (pc2 := 50) hk dX6_pay_48 rfl rfl ?_
          refine aw_lload_n (pc2 := 51) hk dX6_pay_50 rfl rfl ?_
          refine aw_aload_n (pc2 := 52) hk dX6_pay_51 rfl rfl ?_
          refine aw_get (pc2 := 55) hk ckX6 7 dX6_pay_52 rfl fl_X6_121 (by decide) (o_X6 rfl) rfl ?_
          refine aw_cV (rm2 := rmX0_receive) (pc2 := 58) hk veX0_receive dX6_pay_55 rfl ml_X6_315 ⟨(Nat.le_of_ble_eq_true rfl), (Nat.le_of_ble_eq_true rfl)⟩ [_, _] rfl rfl (Nat.le_of_ble_eq_true rfl) (Nat.le_of_ble_eq_true rfl) (Nat.le_of_ble_eq_true rfl) (o_X0 hc.2.1) (t_receive hc.2.1 ?_)
          refine aw_lret hk dX6_pay_58 (Nat.le_of_ble_eq_true rfl) (Nat.le_of_ble_eq_true rfl) (hq4 o k hx hy ho hk1 hv c41)
        · refine aw_ldc2 (pc2 := 47) hk dX6_pay_44 rfl kl_X6_183 ?_
          refine aw_lret hk dX6_pay_47 (Nat.le_of_ble_eq_true rfl) (Nat.le_of_ble_eq_true rfl) (hq3 o k hx hy ho hk1 hv c41)
      · refine aw_ldc2 (pc2 := 34) hk dX6_pay_31 rfl kl_X6_313 ?_
        refine aw_lret hk dX6_pay_34 (Nat.le_of_ble_eq_true rfl) (Nat.le_of_ble_eq_true rfl) (hq2 o k hx hy ho hk1 (fun h9 => by first | (rw [lg_cmp_lt] at c20; exact absurd c20 (by rw [j_lt]; have := h9.1; rw [j_le] at this; omega)) | (rw [lg_cmp_le] at c28; exact c28 h9.2)))
  · refine aw_aload_n (pc2 := 1) hk dX6_pay_0 rfl rfl ?_
    refine aw_iload_n (pc2 := 2) hk dX6_pay_1 rfl rfl ?_
    refine aw_iload_n (pc2 := 3) hk dX6_pay_2 rfl rfl ?_
    refine aw_cV (rm2 := rmX6_caseOf) (pc2 := 6) hk veX6_caseOf dX6_pay_3 rfl ml_X6_305 ⟨(Nat.le_of_ble_eq_true rfl), (Nat.le_of_ble_eq_true rfl)⟩ [_, _] rfl rfl (Nat.le_of_ble_eq_true rfl) (Nat.le_of_ble_eq_true rfl) (Nat.le_of_ble_eq_true rfl) (o_X6 rfl) (t_caseOfN hB hO (fun o k a b c => h1 ⟨o, k, a, b, c⟩) ?_)
    refine aw_astoreN (pc2 := 8) hk dX6_pay_6 rfl (by decide) ?_
    show AW K Q _ _ 8 [_, _, _, _, _, _] _ _ _
    refine aw_aloadN (pc2 := 10) hk dX6_pay_8 rfl rfl ?_
    refine aw_ifnonnull_n (pc2 := 13) hk dX6_pay_10 rfl ?_
    refine aw_ldc2 (pc2 := 16) hk dX6_pay_13 rfl kl_X6_309 ?_
    refine aw_lret hk dX6_pay_16 (Nat.le_of_ble_eq_true rfl) (Nat.le_of_ble_eq_true rfl) (hq1 (fun o k a b c => h1 ⟨o, k, a, b, c⟩))
set_option maxHeartbeats 800000 in
set_option maxRecDepth 100000 in
theorem t_gets {n : Nat} {d : D2} {I : M2} {J : J2} {S : M2} {L : J2} {R : R2} {Q : QT} {w g fc oc uc td : Nat} (hB : CB S R w g fc oc uc td) {oa nc : Nat → Nat} {ca : Nat → Nat → Nat} (hO : OrdB d S R oc oa nc ca) {x y z : Int32} (hcf : ∀ o k, o < oc → k < nc o → ∃ f, f < fc ∧ S (ca o k) 0 = nI f) (hrc : ∀ j, j < fc → ∃ rc, rc ≤ 4 ∧ S (14 + 4 * j) 1 = nI rc) (hq1 : (∀ o k, x = nI o → y = nI k → ¬ (o < oc ∧ k < nc o)) → Q (some (.long (-101))) n (H5 d I J S L R)) (hq2 : ∀ o k f rc, x = nI o → y = nI k → o < oc → k < nc o → S (ca o k) 0 = nI f → S (14 + 4 * f) 1 = nI rc → (∀ j, z = nI j → ¬ j < rc) → Q (some (.long (-101))) n (H5 d I J S L R)) (hq3 : ∀ o k f rc j, x = nI o → y = nI k → o < oc → k < nc o → S (ca o k) 0 = nI f → S (14 + 4 * f) 1 = nI rc → z = nI j → j < rc → Q (some (.long (J (ca o k + 1) j))) n (H5 d I J S L R)) : Calls yX6_gets cX6_gets 5 (some .long) rmX6_gets [.ref 0, .int x, .int y, .int z] n (H5 d I J S L R) Q := by
  refine Calls.of (by decide) (Nat.le_of_ble_eq_true rfl) ?_
  intro K hk
  show AW K Q 0 0 0 [some (.ref 0), some (.int x), some (.int y), some (.int z), none] [] n (H5 d I J S L R)
  obtain ⟨hw, hg, hw1, hw6, hg1, hg6, hfc, hfc2, hoc, hoc6, huc, huc5, htd, htd4, hR13, hR62⟩ := id hB
  by_cases h1 : ∃ o k, x = nI o ∧ y = nI k ∧ o < oc ∧ k < nc o
  · obtain ⟨o, k, hx, hy, ho, hk1⟩ := h1
    have hc := (hO o ho).2.2.2.2.2 k hk1
    obtain ⟨f, hf2, hf⟩ := hcf o k ho hk1
    obtain ⟨rc, hrc4, hrc⟩ := hrc f hf2
    refine aw_aload_n (pc2 := 1) hk dX6_gets_0 rfl rfl ?_
    refine aw_iload_n (pc2 := 2) hk dX6_gets_1 rfl rfl ?_
    refine aw_iload_n (pc2 := 3) hk dX6_gets_2 rfl rfl ?_
    refine aw_cV (rm2 := rmX6_caseOf) (pc2 := 6) hk veX6_caseOf dX6_gets_3 rfl ml_X6_305 ⟨(Nat.le_of_ble_eq_true rfl), (Nat.le_of_ble_eq_true rfl)⟩ [_, _] rfl rfl (Nat.le_of_ble_eq_true rfl) (Nat.le_of_ble_eq_true rfl) (Nat.le_of_ble_eq_true rfl) (o_X6 rfl) (t_caseOf hB hO hx hy ho hk1 ?_)
    refine aw_astore (pc2 := 8) hk dX6_gets_6 rfl (by decide) ?_
    show AW K Q _ _ 8 [_, _, _, _, _] _ _ _
    refine aw_aload (pc2 := 10) hk dX6_gets_8 rfl rfl ?_
    refine aw_ifnull_r (pc2 := 13) hk dX6_gets_10 rfl ?_
    refine aw_aload_n (pc2 := 14) hk dX6_gets_13 rfl rfl ?_
    refine aw_aload (pc2 := 16) hk dX6_gets_14 rfl rfl ?_
    refine aw_get (pc2 := 19) hk ckX0 0 dX6_gets_16 rfl fl_X6_212 (by decide) (o_X0 hc.2.1) rfl ?_
    refine aw_cV (rm2 := rmX6_isField) (pc2 := 22) hk veX6_isField dX6_gets_19 rfl ml_X6_69 ⟨(Nat.le_of_ble_eq_true rfl), (Nat.le_of_ble_eq_true rfl)⟩ [_] rfl rfl (Nat.le_of_ble_eq_true rfl) (Nat.le_of_ble_eq_true rfl) (Nat.le_of_ble_eq_true rfl) (o_X6 rfl) (t_isField hB ?_)
    refine aw_if_ne (tgt := 29) (pc2 := 25) hk dX6_gets_22 (by decide) rfl (fun c22 => ?_) (fun c22 => absurd c22 (fun e => bi_no e (by rw [hf, nI_toInt (by omega)]; omega)))
    refine aw_iload_n (pc2 := 30) hk dX6_gets_29 rfl rfl ?_
    refine aw_if_lt (tgt := 55) (pc2 := 33) hk dX6_gets_30 (by decide) rfl (fun c30 => ?_) (fun c30 => ?_)
    · refine aw_ldc2 (pc2 := 58) hk dX6_gets_55 rfl kl_X6_309 ?_
      refine aw_lret hk dX6_gets_58 (Nat.le_of_ble_eq_true rfl) (Nat.le_of_ble_eq_true rfl) (hq2 o k f rc hx hy ho hk1 hf hrc (fun j h9 h8 => by subst h9; simp only [i_lt, i_le, l0, l4, hrc, nI_toInt (show j < 2 ^ 31 by omega), nI_toInt (show rc < 2 ^ 31 by omega)] at *; omega))
    · refine aw_iload_n (pc2 := 34) hk dX6_gets_33 rfl rfl ?_
      refine aw_aload_n (pc2 := 35) hk dX6_gets_34 rfl rfl ?_
      refine aw_get (pc2 := 38) hk ckX6 2 dX6_gets_35 rfl fl_X6_25 (by decide) (o_X6 rfl) rfl ?_
      refine aw_aload (pc2 := 40) hk dX6_gets_38 rfl rfl ?_
      refine aw_get (pc2 := 43) hk ckX0 0 dX6_gets_40 rfl fl_X6_212 (by decide) (o_X0 hc.2.1) rfl ?_
      refine h_aald (pc2 := 44) hk dX6_gets_43 rfl (Or.inl rfl) rfl hf (by omega) (by decide) (by rw [hR13 f (by omega)]) ?_
      refine aw_get (pc2 := 47) hk ckX1 1 dX6_gets_44 rfl fl_X6_286 (by decide) (o_X1 (kdF d (by omega)).1) rfl ?_
      refine aw_icmp_ge (tgt := 55) (pc2 := 50) hk dX6_gets_47 (by decide) rfl (fun c47 => ?_) (fun c47 => ?_)
      · refine aw_ldc2 (pc2 := 58) hk dX6_gets_55 rfl kl_X6_309 ?_
        refine aw_lret hk dX6_gets_58 (Nat.le_of_ble_eq_true rfl) (Nat.le_of_ble_eq_true rfl) (hq2 o k f rc hx hy ho hk1 hf hrc (fun j h9 h8 => by subst h9; simp only [i_lt, i_le, l0, l4, hrc, nI_toInt (show j < 2 ^ 31 by omega), nI_toInt (show rc < 2 ^ 31 by omega)] at *; omega))
      · refine aw_iload_n (pc2 := 51) hk dX6_gets_50 rfl rfl ?_
        refine aw_iconst (v := 4) (pc2 := 52) hk dX6_gets_51 rfl (by decide) ?_
        refine aw_icmp_lt (tgt := 59) (pc2 := 55) hk dX6_gets_52 (by decide) rfl (fun c52 => ?_) (fun c52 => ?_)
        · obtain ⟨j, hj1, hj2⟩ : ∃ j, (j < rc ∧ j < 4) ∧ z = nI j := ⟨z.toInt.toNat, by simp only [i_lt, i_le, l0, l4, hrc, nI_toInt (show rc < 2 ^ 31 by omega)] at *; omega, i_eq (by simp only [i_lt, i_le, l0, l4] at *; omega)⟩
          subst hj2
          refine aw_aload (pc2 := 61) hk dX6_gets_59 rfl rfl ?_
          refine aw_get (pc2 := 64) hk ckX0 15 dX6_gets_61 rfl fl_X6_299 (by decide) (o_X0 hc.2.1) rfl ?_
          refine aw_iload_n (pc2 := 65) hk dX6_gets_64 rfl rfl ?_
          refine h_lald (pc2 := 66) hk dX6_gets_65 rfl hc.2.2 rfl hj1.2 (by decide) ?_
          refine aw_lret hk dX6_gets_66 (Nat.le_of_ble_eq_true rfl) (Nat.le_of_ble_eq_true rfl) (hq3 o k f rc j hx hy ho hk1 hf hrc rfl hj1.1)
        · refine aw_ldc2 (pc2 := 58) hk dX6_gets_55 rfl kl_X6_309 ?_
          refine aw_lret hk dX6_gets_58 (Nat.le_of_ble_eq_true rfl) (Nat.le_of_ble_eq_true rfl) (hq2 o k f rc hx hy ho hk1 hf hrc (fun j h9 h8 => by subst h9; simp only [i_lt, i_le, l0, l4, hrc, nI_toInt (show j < 2 ^ 31 by omega), nI_toInt (show rc < 2 ^ 31 by omega)] at *; omega))
  · refine aw_aload_n (pc2 := 1) hk dX6_gets_0 rfl rfl ?_
    refine aw_iload_n (pc2 := 2) hk dX6_gets_1 rfl rfl ?_
    refine aw_iload_n (pc2 := 3) hk dX6_gets_2 rfl rfl ?_
    refine aw_cV (rm2 := rmX6_caseOf) (pc2 := 6) hk veX6_caseOf dX6_gets_3 rfl ml_X6_305 ⟨(Nat.le_of_ble_eq_true rfl), (Nat.le_of_ble_eq_true rfl)⟩ [_, _] rfl rfl (Nat.le_of_ble_eq_true rfl) (Nat.le_of_ble_eq_true rfl) (Nat.le_of_ble_eq_true rfl) (o_X6 rfl) (t_caseOfN hB hO (fun o k a b c => h1 ⟨o, k, a, b, c⟩) ?_)
    refine aw_astoreN (pc2 := 8) hk dX6_gets_6 rfl (by decide) ?_
    show AW K Q _ _ 8 [_, _, _, _, _] _ _ _
    refine aw_aloadN (pc2 := 10) hk dX6_gets_8 rfl rfl ?_
    refine aw_ifnull_n (tgt := 25) hk dX6_gets_10 (by decide) ?_
    refine aw_ldc2 (pc2 := 28) hk dX6_gets_25 rfl kl_X6_309 ?_
    refine aw_lret hk dX6_gets_28 (Nat.le_of_ble_eq_true rfl) (Nat.le_of_ble_eq_true rfl) (hq1 (fun o k a b c => h1 ⟨o, k, a, b, c⟩))
def cnt8 (I S : M2) (oc : Nat) (nc : Nat → Nat) (ca : Nat → Nat → Nat) (k : Nat) : Int32 := match k with
  | 0 => S 0 3
  | 1 => sI (fun c => bi (tkn I c)) 256
  | 2 => sI (fun c => bi (I 5 c != 0)) 256
  | 3 => S 0 9
  | 4 => if 0 < oc then nI (nc (oc - 1)) else 0
  | 5 => S 0 7
  | 6 => bi (decide (0 < oc) && !(dn S nc ca (oc - 1)))
  | _ => S 0 10
set_option maxHeartbeats 800000 in
set_option maxRecDepth 100000 in
theorem t_count {n : Nat} {d : D2} {I : M2} {J : J2} {S : M2} {L : J2} {R : R2} {Q : QT} {w g fc oc uc td : Nat} (hB : CB S R w g fc oc uc td) {oa nc : Nat → Nat} {ca : Nat → Nat → Nat} (hO : OrdB d S R oc oa nc ca) {x : Int32} (hq1 : (∀ k, x = nI k → ¬ k < 8) → Q (some (.int (-102))) n (H5 d I J S L R)) (hq2 : ∀ k, x = nI k → k < 8 → Q (some (.int (cnt8 I S oc nc ca k))) n (H5 d I J S L R)) : Calls yX6_count cX6_count 2 (some .int) rmX6_count [.ref 0, .int x] n (H5 d I J S L R) Q := by
  refine Calls.of (by decide) (Nat.le_of_ble_eq_true rfl) ?_
  intro K hk
  show AW K Q 0 0 0 [some (.ref 0), some (.int x)] [] n (H5 d I J S L R)
  obtain ⟨hw, hg, hw1, hw6, hg1, hg6, hfc, hfc2, hoc, hoc6, huc, huc5, htd, htd4, hR13, hR62⟩ := id hB
  by_cases h5 : ∃ k, x = nI k ∧ k < 8
  · obtain ⟨k, h6, h7⟩ := h5
    subst h6
    refine aw_iload_n (pc2 := 1) hk dX6_count_0 rfl rfl ?_
    match k, h7 with
    | 0, _ =>
      refine aw_tableIn (tgt := 48) (off := 47) hk dX6_count_1 (by decide) (by decide) (by decide) (by decide) ?_
      refine aw_aload_n (pc2 := 49) hk dX6_count_48 rfl rfl ?_
      refine aw_get (pc2 := 52) hk ckX6 3 dX6_count_49 rfl fl_X6_58 (by decide) (o_X6 rfl) rfl ?_
      refine aw_iret hk dX6_count_52 (Nat.le_of_ble_eq_true rfl) (Nat.le_of_ble_eq_true rfl) (hq2 0 rfl (by decide))
    | 1, _ =>
      refine aw_tableIn (tgt := 53) (off := 52) hk dX6_count_1 (by decide) (by decide) (by decide) (by decide) ?_
      refine aw_aload_n (pc2 := 54) hk dX6_count_53 rfl rfl ?_
      refine aw_get (pc2 := 57) hk ckX6 0 dX6_count_54 rfl fl_X6_12 (by decide) (o_X6 rfl) rfl ?_
      refine aw_cV (rm2 := rmX2_cellsTaken) (pc2 := 60) hk veX2_cellsTaken dX6_count_57 rfl ml_X6_325 ⟨(Nat.le_of_ble_eq_true rfl), (Nat.le_of_ble_eq_true rfl)⟩ [] rfl rfl (Nat.le_of_ble_eq_true rfl) (Nat.le_of_ble_eq_true rfl) (Nat.le_of_ble_eq_true rfl) (o_X2 rfl) (t_cellsTaken ?_)
      refine aw_iret hk dX6_count_60 (Nat.le_of_ble_eq_true rfl) (Nat.le_of_ble_eq_true rfl) (hq2 1 rfl (by decide))
    | 2, _ =>
      refine aw_tableIn (tgt := 61) (off := 60) hk dX6_count_1 (by decide) (by decide) (by decide) (by decide) ?_
      refine aw_aload_n (pc2 := 62) hk dX6_count_61 rfl rfl ?_
      refine aw_get (pc2 := 65) hk ckX6 0 dX6_count_62 rfl fl_X6_12 (by decide) (o_X6 rfl) rfl ?_
      refine aw_cV (rm2 := rmX2_cellsChosen) (pc2 := 68) hk veX2_cellsChosen dX6_count_65 rfl ml_X6_328 ⟨(Nat.le_of_ble_eq_true rfl), (Nat.le_of_ble_eq_true rfl)⟩ [] rfl rfl (Nat.le_of_ble_eq_true rfl) (Nat.le_of_ble_eq_true rfl) (Nat.le_of_ble_eq_true rfl) (o_X2 rfl) (t_cellsChosen ?_)
      refine aw_iret hk dX6_count_68 (Nat.le_of_ble_eq_true rfl) (Nat.le_of_ble_eq_true rfl) (hq2 2 rfl (by decide))
    | 3, _ =>
      refine aw_tableIn (tgt := 69) (off := 68) hk dX6_count_1 (by decide) (by decide) (by decide) (by decide) ?_
      refine aw_aload_n (pc2 := 70) hk dX6_count_69 rfl rfl ?_
      refine aw_get (pc2 := 73) hk ckX6 9 dX6_count_70 rfl fl_X6_100 (by decide) (o_X6 rfl) rfl ?_
      refine aw_iret hk dX6_count_73 (Nat.le_of_ble_eq_true rfl) (Nat.le_of_ble_eq_true rfl) (hq2 3 rfl (by decide))
    | 4, _ =>
      refine aw_tableIn (tgt := 74) (off := 73) hk dX6_count_1 (by decide) (by decide) (by decide) (by decide) ?_
      refine aw_aload_n (pc2 := 75) hk dX6_count_74 rfl rfl ?_
      refine aw_cV (rm2 := rmX6_casesOfLatest) (pc2 := 78) hk veX6_casesOfLatest dX6_count_75 rfl ml_X6_331 ⟨(Nat.le_of_ble_eq_true rfl), (Nat.le_of_ble_eq_true rfl)⟩ [] rfl rfl (Nat.le_of_ble_eq_true rfl) (Nat.le_of_ble_eq_true rfl) (Nat.le_of_ble_eq_true rfl) (o_X6 rfl) (t_casesOfLatest hB hO ?_)
      refine aw_iret hk dX6_count_78 (Nat.le_of_ble_eq_true rfl) (Nat.le_of_ble_eq_true rfl) (hq2 4 rfl (by decide))
    | 5, _ =>
      refine aw_tableIn (tgt := 79) (off := 78) hk dX6_count_1 (by decide) (by decide) (by decide) (by decide) ?_
      refine aw_aload_n (pc2 := 80) hk dX6_count_79 rfl rfl ?_
      refine aw_get (pc2 := 83) hk ckX6 7 dX6_count_80 rfl fl_X6_121 (by decide) (o_X6 rfl) rfl ?_
      refine aw_iret hk dX6_count_83 (Nat.le_of_ble_eq_true rfl) (Nat.le_of_ble_eq_true rfl) (hq2 5 rfl (by decide))
    | 6, _ =>
      refine aw_tableIn (tgt := 84) (off := 83) hk dX6_count_1 (by decide) (by decide) (by decide) (by decide) ?_
      by_cases h1 : opn S oc nc ca
      · refine aw_aload_n (pc2 := 85) hk dX6_count_84 rfl rfl ?_
        refine aw_cV (rm2 := rmX6_openOrder) (pc2 := 88) hk veX6_openOrder dX6_count_85 rfl ml_X6_124 ⟨(Nat.le_of_ble_eq_true rfl), (Nat.le_of_ble_eq_true rfl)⟩ [] rfl rfl (Nat.le_of_ble_eq_true rfl) (Nat.le_of_ble_eq_true rfl) (Nat.le_of_ble_eq_true rfl) (o_X6 rfl) (t_open hB hO h1 ?_)
        refine aw_ifnonnull_r (tgt := 95) hk dX6_count_88 (by decide) ?_
        refine aw_iconst (v := 1) (pc2 := 96) hk dX6_count_95 rfl (by decide) ?_
        refine aw_iret hk dX6_count_96 (Nat.le_of_ble_eq_true rfl) (Nat.le_of_ble_eq_true rfl) (by have := hq2 6 rfl (by decide); rw [show cnt8 I S oc nc ca 6 = 1 by unfold cnt8; simp [h1.1, h1.2, bi]] at this; exact this)
      · refine aw_aload_n (pc2 := 85) hk dX6_count_84 rfl rfl ?_
        refine aw_cV (rm2 := rmX6_openOrder) (pc2 := 88) hk veX6_openOrder dX6_count_85 rfl ml_X6_124 ⟨(Nat.le_of_ble_eq_true rfl), (Nat.le_of_ble_eq_true rfl)⟩ [] rfl rfl (Nat.le_of_ble_eq_true rfl) (Nat.le_of_ble_eq_true rfl) (Nat.le_of_ble_eq_true rfl) (o_X6 rfl) (t_openN hB hO h1 ?_)
        refine aw_ifnonnull_n (pc2 := 91) hk dX6_count_88 rfl ?_
        refine aw_iconst (v := 0) (pc2 := 92) hk dX6_count_91 rfl (by decide) ?_
        refine aw_goto (tgt := 96) hk dX6_count_92 (by decide) ?_
        refine aw_iret hk dX6_count_96 (Nat.le_of_ble_eq_true rfl) (Nat.le_of_ble_eq_true rfl) (by have := hq2 6 rfl (by decide); rw [show cnt8 I S oc nc ca 6 = 0 by unfold cnt8; have : ¬ (0 < oc ∧ dn S nc ca (oc - 1) = false) := h1; by_cases h2 : 0 < oc <;> simp_all [bi]] at this; exact this)
    | 7, _ =>
      refine aw_tableIn (tgt := 97) (off := 96) hk dX6_count_1 (by decide) (by decide) (by decide) (by decide) ?_
      refine aw_aload_n (pc2 := 98) hk dX6_count_97 rfl rfl ?_
      refine aw_get (pc2 := 101) hk ckX6 10 dX6_count_98 rfl fl_X6_103 (by decide) (o_X6 rfl) rfl ?_
      refine aw_iret hk dX6_count_101 (Nat.le_of_ble_eq_true rfl) (Nat.le_of_ble_eq_true rfl) (hq2 7 rfl (by decide))
  · refine aw_iload_n (pc2 := 1) hk dX6_count_0 rfl rfl ?_
    refine aw_tableOut (tgt := 102) hk dX6_count_1 (by rcases Int.lt_or_le x.toInt 0 with q | q; exact Or.inl q; exact Or.inr (by rcases Int.lt_or_le 7 x.toInt with q2 | q2; exact q2; exact absurd ⟨x.toInt.toNat, i_eq (by omega), by omega⟩ h5)) (by decide) ?_
    refine aw_bipush (v := -102) (pc2 := 104) hk dX6_count_102 rfl (by decide) ?_
    refine aw_iret hk dX6_count_104 (Nat.le_of_ble_eq_true rfl) (Nat.le_of_ble_eq_true rfl) (hq1 (fun k h8 h9 => h5 ⟨k, h8, h9⟩))
