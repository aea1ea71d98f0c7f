def fok (fc : Nat) (f : Int32) : Prop := 0 ≤ f.toInt ∧ f.toInt < fc
def rng (x : Int32) (lo hi : Int) : Prop := lo ≤ x.toInt ∧ x.toInt ≤ hi
/-- the class's plain numbers, and its rows of fields and prices -/
def CB (S : M2) (R : R2) (w g fc oc uc td : Nat) : Prop := S 1 0 = nI w ∧ S 1 1 = nI g ∧ 1 ≤ w ∧ w ≤ 16 ∧ 1 ≤ g ∧ g ≤ 16 ∧ S 0 3 = nI fc ∧ fc ≤ 12 ∧ S 0 9 = nI oc ∧ oc ≤ 60 ∧ S 0 10 = nI uc ∧ uc ≤ 512 ∧ S 0 7 = nI td ∧ td ≤ 10000 ∧ (∀ f, f < 12 → R 13 f = some (14 + 4 * f)) ∧ (∀ s, s < 4 → R 62 s = some (63 + 3 * s))
theorem kdF (d : D2) {f : Nat} (h : f < 12) : kd d (14 + 4 * f) = (11, 0) ∧ kd d (14 + 4 * f + 1) = (1, 4) ∧ kd d (14 + 4 * f + 2) = (1, 4) ∧ kd d (14 + 4 * f + 3) = (3, 4) := by
  match f, h with
  | 0, _ | 1, _ | 2, _ | 3, _ | 4, _ | 5, _ | 6, _ | 7, _ | 8, _ | 9, _ | 10, _ | 11, _ => exact ⟨rfl, rfl, rfl, rfl⟩
theorem kdP (d : D2) {s : Nat} (h : s < 4) : kd d (63 + 3 * s) = (14, 0) ∧ kd d (63 + 3 * s + 1) = (1, 20) ∧ kd d (63 + 3 * s + 2) = (1, 20) := by
  match s, h with
  | 0, _ | 1, _ | 2, _ | 3, _ => exact ⟨rfl, rfl, rfl⟩
theorem bi_d {p : Prop} (dp : Decidable p) : (p → bi (decide p) = 1) ∧ (¬ p → bi (decide p) = 0) := ⟨fun h => by simp [bi, h], fun h => by simp [bi, h]⟩
theorem fok_of {fc : Nat} {f : Int32} (h : fok fc f) (hc : fc ≤ 12) : ∃ j, j < fc ∧ f = nI j := ⟨f.toInt.toNat, by have := h.1; have := h.2; omega, i_eq (by have := h.1; omega)⟩
set_option maxHeartbeats 800000 in
set_option maxRecDepth 100000 in
theorem t_was {n : Nat} {d : D2} {I : M2} {J : J2} {S : M2} {L : J2} {R : R2} {Q : QT} {w g fc oc uc td : Nat} (hB : CB S R w g fc oc uc td) (hq : Q (some (.int (bi (decide (0 < oc ∨ 0 < uc))))) n (H5 d I J S L R)) : Calls yX6_wasOrderMade cX6_wasOrderMade 1 (some .boolean) rmX6_wasOrderMade [.ref 0] n (H5 d I J S L R) Q := by
  refine Calls.of (by decide) (Nat.le_of_ble_eq_true rfl) ?_
  intro K hk
  show AW K Q 0 0 0 [some (.ref 0)] [] n (H5 d I J S L R)
  obtain ⟨hw, hg, hw1, hw6, hg1, hg6, hfc, hfc2, hoc, hoc6, huc, huc5, htd, htd4, hR13, hR62⟩ := id hB
  refine aw_aload_n (pc2 := 1) hk dX6_wasOrderMade_0 rfl rfl ?_
  refine aw_get (pc2 := 4) hk ckX6 9 dX6_wasOrderMade_1 rfl fl_X6_100 (by decide) (o_X6 rfl) rfl ?_
  refine aw_if_gt (tgt := 14) (pc2 := 7) hk dX6_wasOrderMade_4 (by decide) rfl (fun c4 => ?_) (fun c4 => ?_)
  · refine aw_iconst (v := 1) (pc2 := 15) hk dX6_wasOrderMade_14 rfl (by decide) ?_
    refine aw_goto (tgt := 19) hk dX6_wasOrderMade_15 (by decide) ?_
    refine aw_zret (by first | exact Or.inl rfl | exact Or.inr rfl) hk dX6_wasOrderMade_19 (Nat.le_of_ble_eq_true rfl) (Nat.le_of_ble_eq_true rfl) (by first | (rw [(bi_d _).1 (by simp only [i_lt, i_le, l0, l1, l4, l5, l12, l16, l1000, l10000, l100000, l1000000, hfc, hoc, huc, htd, nI_toInt (show fc < 2 ^ 31 by omega), nI_toInt (show oc < 2 ^ 31 by omega), nI_toInt (show uc < 2 ^ 31 by omega)] at *; omega)] at hq; exact hq) | (rw [(bi_d _).2 (by simp only [i_lt, i_le, l0, l1, l4, l5, l12, l16, l1000, l10000, l100000, l1000000, hfc, hoc, huc, htd, nI_toInt (show fc < 2 ^ 31 by omega), nI_toInt (show oc < 2 ^ 31 by omega), nI_toInt (show uc < 2 ^ 31 by omega)] at *; omega)] at hq; exact hq))
  · refine aw_aload_n (pc2 := 8) hk dX6_wasOrderMade_7 rfl rfl ?_
    refine aw_get (pc2 := 11) hk ckX6 10 dX6_wasOrderMade_8 rfl fl_X6_103 (by decide) (o_X6 rfl) rfl ?_
    refine aw_if_le (tgt := 18) (pc2 := 14) hk dX6_wasOrderMade_11 (by decide) rfl (fun c11 => ?_) (fun c11 => ?_)
    · refine aw_iconst (v := 0) (pc2 := 19) hk dX6_wasOrderMade_18 rfl (by decide) ?_
      refine aw_zret (by first | exact Or.inl rfl | exact Or.inr rfl) hk dX6_wasOrderMade_19 (Nat.le_of_ble_eq_true rfl) (Nat.le_of_ble_eq_true rfl) (by first | (rw [(bi_d _).1 (by simp only [i_lt, i_le, l0, l1, l4, l5, l12, l16, l1000, l10000, l100000, l1000000, hfc, hoc, huc, htd, nI_toInt (show fc < 2 ^ 31 by omega), nI_toInt (show oc < 2 ^ 31 by omega), nI_toInt (show uc < 2 ^ 31 by omega)] at *; omega)] at hq; exact hq) | (rw [(bi_d _).2 (by simp only [i_lt, i_le, l0, l1, l4, l5, l12, l16, l1000, l10000, l100000, l1000000, hfc, hoc, huc, htd, nI_toInt (show fc < 2 ^ 31 by omega), nI_toInt (show oc < 2 ^ 31 by omega), nI_toInt (show uc < 2 ^ 31 by omega)] at *; omega)] at hq; exact hq))
    · refine aw_iconst (v := 1) (pc2 := 15) hk dX6_wasOrderMade_14 rfl (by decide) ?_
      refine aw_goto (tgt := 19) hk dX6_wasOrderMade_15 (by decide) ?_
      refine aw_zret (by first | exact Or.inl rfl | exact Or.inr rfl) hk dX6_wasOrderMade_19 (Nat.le_of_ble_eq_true rfl) (Nat.le_of_ble_eq_true rfl) (by first | (rw [(bi_d _).1 (by simp only [i_lt, i_le, l0, l1, l4, l5, l12, l16, l1000, l10000, l100000, l1000000, hfc, hoc, huc, htd, nI_toInt (show fc < 2 ^ 31 by omega), nI_toInt (show oc < 2 ^ 31 by omega), nI_toInt (show uc < 2 ^ 31 by omega)] at *; omega)] at hq; exact hq) | (rw [(bi_d _).2 (by simp only [i_lt, i_le, l0, l1, l4, l5, l12, l16, l1000, l10000, l100000, l1000000, hfc, hoc, huc, htd, nI_toInt (show fc < 2 ^ 31 by omega), nI_toInt (show oc < 2 ^ 31 by omega), nI_toInt (show uc < 2 ^ 31 by omega)] at *; omega)] at hq; exact hq))
set_option maxHeartbeats 800000 in
set_option maxRecDepth 100000 in
theorem t_isField {n : Nat} {d : D2} {I : M2} {J : J2} {S : M2} {L : J2} {R : R2} {Q : QT} {w g fc oc uc td : Nat} (hB : CB S R w g fc oc uc td) {f : Int32} (hq : Q (some (.int (bi (decide (0 ≤ f.toInt ∧ f.toInt < fc))))) n (H5 d I J S L R)) : Calls yX6_isField cX6_isField 2 (some .boolean) rmX6_isField [.ref 0, .int f] n (H5 d I J S L R) Q := by
  refine Calls.of (by decide) (Nat.le_of_ble_eq_true rfl) ?_
  intro K hk
  show AW K Q 0 0 0 [some (.ref 0), some (.int f)] [] n (H5 d I J S L R)
  obtain ⟨hw, hg, hw1, hw6, hg1, hg6, hfc, hfc2, hoc, hoc6, huc, huc5, htd, htd4, hR13, hR62⟩ := id hB
  refine aw_iload_n (pc2 := 1) hk dX6_isField_0 rfl rfl ?_
  refine aw_if_lt (tgt := 22) (pc2 := 4) hk dX6_isField_1 (by decide) rfl (fun c1 => ?_) (fun c1 => ?_)
  · refine aw_iconst (v := 0) (pc2 := 23) hk dX6_isField_22 rfl (by decide) ?_
    refine aw_zret (by first | exact Or.inl rfl | exact Or.inr rfl) hk dX6_isField_23 (Nat.le_of_ble_eq_true rfl) (Nat.le_of_ble_eq_true rfl) (by first | (rw [(bi_d _).1 (by simp only [i_lt, i_le, l0, l1, l4, l5, l12, l16, l1000, l10000, l100000, l1000000, hfc, hoc, huc, htd, nI_toInt (show fc < 2 ^ 31 by omega), nI_toInt (show oc < 2 ^ 31 by omega), nI_toInt (show uc < 2 ^ 31 by omega)] at *; omega)] at hq; exact hq) | (rw [(bi_d _).2 (by simp only [i_lt, i_le, l0, l1, l4, l5, l12, l16, l1000, l10000, l100000, l1000000, hfc, hoc, huc, htd, nI_toInt (show fc < 2 ^ 31 by omega), nI_toInt (show oc < 2 ^ 31 by omega), nI_toInt (show uc < 2 ^ 31 by omega)] at *; omega)] at hq; exact hq))
  · refine aw_iload_n (pc2 := 5) hk dX6_isField_4 rfl rfl ?_
    refine aw_aload_n (pc2 := 6) hk dX6_isField_5 rfl rfl ?_
    refine aw_get (pc2 := 9) hk ckX6 3 dX6_isField_6 rfl fl_X6_58 (by decide) (o_X6 rfl) rfl ?_
    refine aw_icmp_ge (tgt := 22) (pc2 := 12) hk dX6_isField_9 (by decide) rfl (fun c9 => ?_) (fun c9 => ?_)
    · refine aw_iconst (v := 0) (pc2 := 23) hk dX6_isField_22 rfl (by decide) ?_
      refine aw_zret (by first | exact Or.inl rfl | exact Or.inr rfl) hk dX6_isField_23 (Nat.le_of_ble_eq_true rfl) (Nat.le_of_ble_eq_true rfl) (by first | (rw [(bi_d _).1 (by simp only [i_lt, i_le, l0, l1, l4, l5, l12, l16, l1000, l10000, l100000, l1000000, hfc, hoc, huc, htd, nI_toInt (show fc < 2 ^ 31 by omega), nI_toInt (show oc < 2 ^ 31 by omega), nI_toInt (show uc < 2 ^ 31 by omega)] at *; omega)] at hq; exact hq) | (rw [(bi_d _).2 (by simp only [i_lt, i_le, l0, l1, l4, l5, l12, l16, l1000, l10000, l100000, l1000000, hfc, hoc, huc, htd, nI_toInt (show fc < 2 ^ 31 by omega), nI_toInt (show oc < 2 ^ 31 by omega), nI_toInt (show uc < 2 ^ 31 by omega)] at *; omega)] at hq; exact hq))
    · refine aw_iload_n (pc2 := 13) hk dX6_isField_12 rfl rfl ?_
      refine aw_bipush (v := 12) (pc2 := 15) hk dX6_isField_13 rfl (by decide) ?_
      refine aw_icmp_ge (tgt := 22) (pc2 := 18) hk dX6_isField_15 (by decide) rfl (fun c15 => absurd c15 (by simp only [i_lt, i_le, l0, l1, l4, l5, l12, l16, l1000, l10000, l100000, l1000000, hfc, hoc, huc, htd, nI_toInt (show fc < 2 ^ 31 by omega), nI_toInt (show oc < 2 ^ 31 by omega), nI_toInt (show uc < 2 ^ 31 by omega)] at *; omega)) (fun c15 => ?_)
      refine aw_iconst (v := 1) (pc2 := 19) hk dX6_isField_18 rfl (by decide) ?_
      refine aw_goto (tgt := 23) hk dX6_isField_19 (by decide) ?_
      refine aw_zret (by first | exact Or.inl rfl | exact Or.inr rfl) hk dX6_isField_23 (Nat.le_of_ble_eq_true rfl) (Nat.le_of_ble_eq_true rfl) (by first | (rw [(bi_d _).1 (by simp only [i_lt, i_le, l0, l1, l4, l5, l12, l16, l1000, l10000, l100000, l1000000, hfc, hoc, huc, htd, nI_toInt (show fc < 2 ^ 31 by omega), nI_toInt (show oc < 2 ^ 31 by omega), nI_toInt (show uc < 2 ^ 31 by omega)] at *; omega)] at hq; exact hq) | (rw [(bi_d _).2 (by simp only [i_lt, i_le, l0, l1, l4, l5, l12, l16, l1000, l10000, l100000, l1000000, hfc, hoc, huc, htd, nI_toInt (show fc < 2 ^ 31 by omega), nI_toInt (show oc < 2 ^ 31 by omega), nI_toInt (show uc < 2 ^ 31 by omega)] at *; omega)] at hq; exact hq))
set_option maxHeartbeats 800000 in
set_option maxRecDepth 100000 in
theorem t_isSoil {n : Nat} {h : HP} {Q : QT} {x : Int32} (hq : Q (some (.int (bi (decide (0 ≤ x.toInt ∧ x.toInt ≤ 3))))) n h) : Calls yX6_isSoil cX6_isSoil 1 (some .boolean) rmX6_isSoil [.int x] n (h) Q := by
  refine Calls.of (by decide) (Nat.le_of_ble_eq_true rfl) ?_
  intro K hk
  show AW K Q 0 0 0 [some (.int x)] [] n (h)
  refine aw_iload_n (pc2 := 1) hk dX6_isSoil_0 rfl rfl ?_
  refine aw_if_lt (tgt := 13) (pc2 := 4) hk dX6_isSoil_1 (by decide) rfl (fun c1 => ?_) (fun c1 => ?_)
  · refine aw_iconst (v := 0) (pc2 := 14) hk dX6_isSoil_13 rfl (by decide) ?_
    refine aw_zret (by first | exact Or.inl rfl | exact Or.inr rfl) hk dX6_isSoil_14 (Nat.le_of_ble_eq_true rfl) (Nat.le_of_ble_eq_true rfl) (by first | (rw [(bi_d _).1 (by simp only [i_lt, i_le, l0, l4, l10000] at *; omega)] at hq; exact hq) | (rw [(bi_d _).2 (by simp only [i_lt, i_le, l0, l4, l10000] at *; omega)] at hq; exact hq))
  · refine aw_iload_n (pc2 := 5) hk dX6_isSoil_4 rfl rfl ?_
    refine aw_iconst (v := 4) (pc2 := 6) hk dX6_isSoil_5 rfl (by decide) ?_
    refine aw_icmp_ge (tgt := 13) (pc2 := 9) hk dX6_isSoil_6 (by decide) rfl (fun c6 => ?_) (fun c6 => ?_)
    · refine aw_iconst (v := 0) (pc2 := 14) hk dX6_isSoil_13 rfl (by decide) ?_
      refine aw_zret (by first | exact Or.inl rfl | exact Or.inr rfl) hk dX6_isSoil_14 (Nat.le_of_ble_eq_true rfl) (Nat.le_of_ble_eq_true rfl) (by first | (rw [(bi_d _).1 (by simp only [i_lt, i_le, l0, l4, l10000] at *; omega)] at hq; exact hq) | (rw [(bi_d _).2 (by simp only [i_lt, i_le, l0, l4, l10000] at *; omega)] at hq; exact hq))
    · refine aw_iconst (v := 1) (pc2 := 10) hk dX6_isSoil_9 rfl (by decide) ?_
      refine aw_goto (tgt := 14) hk dX6_isSoil_10 (by decide) ?_
      refine aw_zret (by first | exact Or.inl rfl | exact Or.inr rfl) hk dX6_isSoil_14 (Nat.le_of_ble_eq_true rfl) (Nat.le_of_ble_eq_true rfl) (by first | (rw [(bi_d _).1 (by simp only [i_lt, i_le, l0, l4, l10000] at *; omega)] at hq; exact hq) | (rw [(bi_d _).2 (by simp only [i_lt, i_le, l0, l4, l10000] at *; omega)] at hq; exact hq))
set_option maxHeartbeats 800000 in
set_option maxRecDepth 100000 in
theorem t_isDay {n : Nat} {h : HP} {Q : QT} {x : Int32} (hq : Q (some (.int (bi (decide (0 ≤ x.toInt ∧ x.toInt ≤ 10000))))) n h) : Calls yX6_isDay cX6_isDay 1 (some .boolean) rmX6_isDay [.int x] n (h) Q := by
  refine Calls.of (by decide) (Nat.le_of_ble_eq_true rfl) ?_
  intro K hk
  show AW K Q 0 0 0 [some (.int x)] [] n (h)
  refine aw_iload_n (pc2 := 1) hk dX6_isDay_0 rfl rfl ?_
  refine aw_if_lt (tgt := 15) (pc2 := 4) hk dX6_isDay_1 (by decide) rfl (fun c1 => ?_) (fun c1 => ?_)
  · refine aw_iconst (v := 0) (pc2 := 16) hk dX6_isDay_15 rfl (by decide) ?_
    refine aw_zret (by first | exact Or.inl rfl | exact Or.inr rfl) hk dX6_isDay_16 (Nat.le_of_ble_eq_true rfl) (Nat.le_of_ble_eq_true rfl) (by first | (rw [(bi_d _).1 (by simp only [i_lt, i_le, l0, l4, l10000] at *; omega)] at hq; exact hq) | (rw [(bi_d _).2 (by simp only [i_lt, i_le, l0, l4, l10000] at *; omega)] at hq; exact hq))
  · refine aw_iload_n (pc2 := 5) hk dX6_isDay_4 rfl rfl ?_
    refine aw_sipush (v := 10000) (pc2 := 8) hk dX6_isDay_5 rfl (by decide) ?_
    refine aw_icmp_gt (tgt := 15) (pc2 := 11) hk dX6_isDay_8 (by decide) rfl (fun c8 => ?_) (fun c8 => ?_)
    · refine aw_iconst (v := 0) (pc2 := 16) hk dX6_isDay_15 rfl (by decide) ?_
      refine aw_zret (by first | exact Or.inl rfl | exact Or.inr rfl) hk dX6_isDay_16 (Nat.le_of_ble_eq_true rfl) (Nat.le_of_ble_eq_true rfl) (by first | (rw [(bi_d _).1 (by simp only [i_lt, i_le, l0, l4, l10000] at *; omega)] at hq; exact hq) | (rw [(bi_d _).2 (by simp only [i_lt, i_le, l0, l4, l10000] at *; omega)] at hq; exact hq))
    · refine aw_iconst (v := 1) (pc2 := 12) hk dX6_isDay_11 rfl (by decide) ?_
      refine aw_goto (tgt := 16) hk dX6_isDay_12 (by decide) ?_
      refine aw_zret (by first | exact Or.inl rfl | exact Or.inr rfl) hk dX6_isDay_16 (Nat.le_of_ble_eq_true rfl) (Nat.le_of_ble_eq_true rfl) (by first | (rw [(bi_d _).1 (by simp only [i_lt, i_le, l0, l4, l10000] at *; omega)] at hq; exact hq) | (rw [(bi_d _).2 (by simp only [i_lt, i_le, l0, l4, l10000] at *; omega)] at hq; exact hq))
theorem l2 : (2 : Int32).toInt = 2 := rfl
theorem i_eqI (x y : Int32) : x = y ↔ x.toInt = y.toInt := ⟨fun h => h ▸ rfl, fun h => Int32.toInt_inj.mp h⟩
set_option maxHeartbeats 800000 in
set_option maxRecDepth 100000 in
theorem t_isAmount {n : Nat} {h : HP} {Q : QT} {k x : Int32} (hq : Q (some (.int (bi (decide ((k.toInt = 1 ∧ 0 ≤ x.toInt ∧ x.toInt ≤ 1000000) ∨ (k.toInt = 2 ∧ 0 ≤ x.toInt ∧ x.toInt ≤ 1000)))))) n h) : Calls yX6_isAmount cX6_isAmount 2 (some .boolean) rmX6_isAmount [.int k, .int x] n (h) Q := by
  refine Calls.of (by decide) (Nat.le_of_ble_eq_true rfl) ?_
  intro K hk
  show AW K Q 0 0 0 [some (.int k), some (.int x)] [] n (h)
  refine aw_iload_n (pc2 := 1) hk dX6_isAmount_0 rfl rfl ?_
  refine aw_iconst (v := 1) (pc2 := 2) hk dX6_isAmount_1 rfl (by decide) ?_
  refine aw_icmp_ne (tgt := 21) (pc2 := 5) hk dX6_isAmount_2 (by decide) rfl (fun c2 => ?_) (fun c2 => ?_)
  · refine aw_iload_n (pc2 := 22) hk dX6_isAmount_21 rfl rfl ?_
    refine aw_iconst (v := 2) (pc2 := 23) hk dX6_isAmount_22 rfl (by decide) ?_
    refine aw_icmp_ne (tgt := 41) (pc2 := 26) hk dX6_isAmount_23 (by decide) rfl (fun c23 => ?_) (fun c23 => ?_)
    · refine aw_iconst (v := 0) (pc2 := 42) hk dX6_isAmount_41 rfl (by decide) ?_
      refine aw_zret (by first | exact Or.inl rfl | exact Or.inr rfl) hk dX6_isAmount_42 (Nat.le_of_ble_eq_true rfl) (Nat.le_of_ble_eq_true rfl) (by first | (rw [(bi_d _).1 (by simp only [i_lt, i_le, i_eqI, l0, l1, l2, l1000, l1000000] at *; omega)] at hq; exact hq) | (rw [(bi_d _).2 (by simp only [i_lt, i_le, i_eqI, l0, l1, l2, l1000, l1000000] at *; omega)] at hq; exact hq))
    · refine aw_iload_n (pc2 := 27) hk dX6_isAmount_26 rfl rfl ?_
      refine aw_if_lt (tgt := 41) (pc2 := 30) hk dX6_isAmount_27 (by decide) rfl (fun c27 => ?_) (fun c27 => ?_)
      · refine aw_iconst (v := 0) (pc2 := 42) hk dX6_isAmount_41 rfl (by decide) ?_
        refine aw_zret (by first | exact Or.inl rfl | exact Or.inr rfl) hk dX6_isAmount_42 (Nat.le_of_ble_eq_true rfl) (Nat.le_of_ble_eq_true rfl) (by first | (rw [(bi_d _).1 (by simp only [i_lt, i_le, i_eqI, l0, l1, l2, l1000, l1000000] at *; omega)] at hq; exact hq) | (rw [(bi_d _).2 (by simp only [i_lt, i_le, i_eqI, l0, l1, l2, l1000, l1000000] at *; omega)] at hq; exact hq))
      · refine aw_iload_n (pc2 := 31) hk dX6_isAmount_30 rfl rfl ?_
        refine aw_sipush (v := 1000) (pc2 := 34) hk dX6_isAmount_31 rfl (by decide) ?_
        refine aw_icmp_gt (tgt := 41) (pc2 := 37) hk dX6_isAmount_34 (by decide) rfl (fun c34 => ?_) (fun c34 => ?_)
        · refine aw_iconst (v := 0) (pc2 := 42) hk dX6_isAmount_41 rfl (by decide) ?_
          refine aw_zret (by first | exact Or.inl rfl | exact Or.inr rfl) hk dX6_isAmount_42 (Nat.le_of_ble_eq_true rfl) (Nat.le_of_ble_eq_true rfl) (by first | (rw [(bi_d _).1 (by simp only [i_lt, i_le, i_eqI, l0, l1, l2, l1000, l1000000] at *; omega)] at hq; exact hq) | (rw [(bi_d _).2 (by simp only [i_lt, i_le, i_eqI, l0, l1, l2, l1000, l1000000] at *; omega)] at hq; exact hq))
        · refine aw_iconst (v := 1) (pc2 := 38) hk dX6_isAmount_37 rfl (by decide) ?_
          refine aw_goto (tgt := 42) hk dX6_isAmount_38 (by decide) ?_
          refine aw_zret (by first | exact Or.inl rfl | exact Or.inr rfl) hk dX6_isAmount_42 (Nat.le_of_ble_eq_true rfl) (Nat.le_of_ble_eq_true rfl) (by first | (rw [(bi_d _).1 (by simp only [i_lt, i_le, i_eqI, l0, l1, l2, l1000, l1000000] at *; omega)] at hq; exact hq) | (rw [(bi_d _).2 (by simp only [i_lt, i_le, i_eqI, l0, l1, l2, l1000, l1000000] at *; omega)] at hq; exact hq))
  · refine aw_iload_n (pc2 := 6) hk dX6_isAmount_5 rfl rfl ?_
    refine aw_if_lt (tgt := 19) (pc2 := 9) hk dX6_isAmount_6 (by decide) rfl (fun c6 => ?_) (fun c6 => ?_)
    · refine aw_iconst (v := 0) (pc2 := 20) hk dX6_isAmount_19 rfl (by decide) ?_
      refine aw_zret (by first | exact Or.inl rfl | exact Or.inr rfl) hk dX6_isAmount_20 (Nat.le_of_ble_eq_true rfl) (Nat.le_of_ble_eq_true rfl) (by first | (rw [(bi_d _).1 (by simp only [i_lt, i_le, i_eqI, l0, l1, l2, l1000, l1000000] at *; omega)] at hq; exact hq) | (rw [(bi_d _).2 (by simp only [i_lt, i_le, i_eqI, l0, l1, l2, l1000, l1000000] at *; omega)] at hq; exact hq))
    · refine aw_iload_n (pc2 := 10) hk dX6_isAmount_9 rfl rfl ?_
      refine aw_ldc (pc2 := 12) hk dX6_isAmount_10 rfl ki_X6_106 ?_
      refine aw_icmp_gt (tgt := 19) (pc2 := 15) hk dX6_isAmount_12 (by decide) rfl (fun c12 => ?_) (fun c12 => ?_)
      · refine aw_iconst (v := 0) (pc2 := 20) hk dX6_isAmount_19 rfl (by decide) ?_
        refine aw_zret (by first | exact Or.inl rfl | exact Or.inr rfl) hk dX6_isAmount_20 (Nat.le_of_ble_eq_true rfl) (Nat.le_of_ble_eq_true rfl) (by first | (rw [(bi_d _).1 (by simp only [i_lt, i_le, i_eqI, l0, l1, l2, l1000, l1000000] at *; omega)] at hq; exact hq) | (rw [(bi_d _).2 (by simp only [i_lt, i_le, i_eqI, l0, l1, l2, l1000, l1000000] at *; omega)] at hq; exact hq))
      · refine aw_iconst (v := 1) (pc2 := 16) hk dX6_isAmount_15 rfl (by decide) ?_
        refine aw_goto (tgt := 20) hk dX6_isAmount_16 (by decide) ?_
        refine aw_zret (by first | exact Or.inl rfl | exact Or.inr rfl) hk dX6_isAmount_20 (Nat.le_of_ble_eq_true rfl) (Nat.le_of_ble_eq_true rfl) (by first | (rw [(bi_d _).1 (by simp only [i_lt, i_le, i_eqI, l0, l1, l2, l1000, l1000000] at *; omega)] at hq; exact hq) | (rw [(bi_d _).2 (by simp only [i_lt, i_le, i_eqI, l0, l1, l2, l1000, l1000000] at *; omega)] at hq; exact hq))
theorem bi_no {p : Prop} {dp : Decidable p} (h : bi (decide p) = 0) : ¬ p := fun hp => by simp [bi, hp] at h
theorem bi_ya {p : Prop} {dp : Decidable p} (h : ¬ bi (decide p) = 0) : p := by by_cases hp : p; exact hp; exact absurd (by simp [bi, hp]) h
set_option maxHeartbeats 800000 in
set_option maxRecDepth 100000 in
theorem t_map {n : Nat} {d : D2} {I : M2} {J : J2} {S : M2} {L : J2} {R : R2} {Q : QT} {w g fc oc uc td : Nat} (hB : CB S R w g fc oc uc td) {x y : Int32} (hq1 : ¬ (rng x 1 16 ∧ rng y 1 16) → Q (some (.int (-102))) n (H5 d I J S L R)) (hq2 : (rng x 1 16 ∧ rng y 1 16) → (0 < oc ∨ 0 < uc) → Q (some (.int (-103))) n (H5 d I J S L R)) (hq3 : (rng x 1 16 ∧ rng y 1 16) → ¬ (0 < oc ∨ 0 < uc) → Q (some (.int (x * y))) n (H5 d (rw5 I 2 256 (fun b => if b = 2 ∨ b = 6 then -1 else 0)) J (u2 (u2 (u2 S 1 0 x) 1 1 y) 0 3 0) L R)) : Calls yX6_map cX6_map 3 (some .int) rmX6_map [.ref 0, .int x, .int y] n (H5 d I J S L R) Q := by
  refine Calls.of (by decide) (Nat.le_of_ble_eq_true rfl) ?_
  intro K hk
  show AW K Q 0 0 0 [some (.ref 0), some (.int x), some (.int y)] [] n (H5 d I J S L R)
  obtain ⟨hw, hg, hw1, hw6, hg1, hg6, hfc, hfc2, hoc, hoc6, huc, huc5, htd, htd4, hR13, hR62⟩ := id hB
  refine aw_iload_n (pc2 := 1) hk dX6_map_0 rfl rfl ?_
  refine aw_iconst (v := 1) (pc2 := 2) hk dX6_map_1 rfl (by decide) ?_
  refine aw_icmp_lt (tgt := 22) (pc2 := 5) hk dX6_map_2 (by decide) rfl (fun c2 => ?_) (fun c2 => ?_)
  · refine aw_bipush (v := -102) (pc2 := 24) hk dX6_map_22 rfl (by decide) ?_
    refine aw_iret hk dX6_map_24 (Nat.le_of_ble_eq_true rfl) (Nat.le_of_ble_eq_true rfl) (hq1 (fun h9 => by unfold rng at h9; simp only [i_lt, i_le, l0, l1, l4, l5, l12, l16, l1000, l10000, l100000, l1000000, hfc, hoc, huc, htd, nI_toInt (show fc < 2 ^ 31 by omega), nI_toInt (show oc < 2 ^ 31 by omega), nI_toInt (show uc < 2 ^ 31 by omega)] at *; omega))
  · refine aw_iload_n (pc2 := 6) hk dX6_map_5 rfl rfl ?_
    refine aw_bipush (v := 16) (pc2 := 8) hk dX6_map_6 rfl (by decide) ?_
    refine aw_icmp_gt (tgt := 22) (pc2 := 11) hk dX6_map_8 (by decide) rfl (fun c8 => ?_) (fun c8 => ?_)
    · refine aw_bipush (v := -102) (pc2 := 24) hk dX6_map_22 rfl (by decide) ?_
      refine aw_iret hk dX6_map_24 (Nat.le_of_ble_eq_true rfl) (Nat.le_of_ble_eq_true rfl) (hq1 (fun h9 => by unfold rng at h9; simp only [i_lt, i_le, l0, l1, l4, l5, l12, l16, l1000, l10000, l100000, l1000000, hfc, hoc, huc, htd, nI_toInt (show fc < 2 ^ 31 by omega), nI_toInt (show oc < 2 ^ 31 by omega), nI_toInt (show uc < 2 ^ 31 by omega)] at *; omega))
    · refine aw_iload_n (pc2 := 12) hk dX6_map_11 rfl rfl ?_
      refine aw_iconst (v := 1) (pc2 := 13) hk dX6_map_12 rfl (by decide) ?_
      refine aw_icmp_lt (tgt := 22) (pc2 := 16) hk dX6_map_13 (by decide) rfl (fun c13 => ?_) (fun c13 => ?_)
      · refine aw_bipush (v := -102) (pc2 := 24) hk dX6_map_22 rfl (by decide) ?_
        refine aw_iret hk dX6_map_24 (Nat.le_of_ble_eq_true rfl) (Nat.le_of_ble_eq_true rfl) (hq1 (fun h9 => by unfold rng at h9; simp only [i_lt, i_le, l0, l1, l4, l5, l12, l16, l1000, l10000, l100000, l1000000, hfc, hoc, huc, htd, nI_toInt (show fc < 2 ^ 31 by omega), nI_toInt (show oc < 2 ^ 31 by omega), nI_toInt (show uc < 2 ^ 31 by omega)] at *; omega))
      · refine aw_iload_n (pc2 := 17) hk dX6_map_16 rfl rfl ?_
        refine aw_bipush (v := 16) (pc2 := 19) hk dX6_map_17 rfl (by decide) ?_
        refine aw_icmp_le (tgt := 25) (pc2 := 22) hk dX6_map_19 (by decide) rfl (fun c19 => ?_) (fun c19 => ?_)
        · have hin : rng x 1 16 ∧ rng y 1 16 := (by unfold rng; simp only [i_lt, i_le, l0, l1, l4, l5, l12, l16, l1000, l10000, l100000, l1000000, hfc, hoc, huc, htd, nI_toInt (show fc < 2 ^ 31 by omega), nI_toInt (show oc < 2 ^ 31 by omega), nI_toInt (show uc < 2 ^ 31 by omega)] at *; omega)
          refine aw_aload_n (pc2 := 26) hk dX6_map_25 rfl rfl ?_
          refine aw_cV (rm2 := rmX6_wasOrderMade) (pc2 := 29) hk veX6_wasOrderMade dX6_map_26 rfl ml_X6_54 ⟨(Nat.le_of_ble_eq_true rfl), (Nat.le_of_ble_eq_true rfl)⟩ [] rfl rfl (Nat.le_of_ble_eq_true rfl) (Nat.le_of_ble_eq_true rfl) (Nat.le_of_ble_eq_true rfl) (o_X6 rfl) (t_was hB ?_)
          refine aw_if_eq (tgt := 35) (pc2 := 32) hk dX6_map_29 (by decide) rfl (fun c29 => ?_) (fun c29 => ?_)
          · refine aw_aload_n (pc2 := 36) hk dX6_map_35 rfl rfl ?_
            refine aw_get (pc2 := 39) hk ckX6 0 dX6_map_36 rfl fl_X6_12 (by decide) (o_X6 rfl) rfl ?_
            refine aw_iload_n (pc2 := 40) hk dX6_map_39 rfl rfl ?_
            refine aw_iload_n (pc2 := 41) hk dX6_map_40 rfl rfl ?_
            refine aw_cV (rm2 := rmX2_renew) (pc2 := 44) hk veX2_renew dX6_map_41 rfl ml_X6_50 ⟨(Nat.le_of_ble_eq_true rfl), (Nat.le_of_ble_eq_true rfl)⟩ [_, _] rfl rfl (Nat.le_of_ble_eq_true rfl) (Nat.le_of_ble_eq_true rfl) (Nat.le_of_ble_eq_true rfl) (o_X2 rfl) (t_renew ?_)
            refine aw_aload_n (pc2 := 45) hk dX6_map_44 rfl rfl ?_
            refine aw_iconst (v := 0) (pc2 := 46) hk dX6_map_45 rfl (by decide) ?_
            refine aw_put (pc2 := 49) hk ckX6 3 dX6_map_46 rfl fl_X6_58 (by decide) rfl (o_X6 rfl) (fun _ => rfl) (fun _ => rfl) (Nat.le_of_ble_eq_true rfl) ?_
            rw [p_X6_3 rfl]
            refine aw_iload_n (pc2 := 50) hk dX6_map_49 rfl rfl ?_
            refine aw_iload_n (pc2 := 51) hk dX6_map_50 rfl rfl ?_
            refine aw_imul (pc2 := 52) hk dX6_map_51 rfl ?_
            refine aw_iret hk dX6_map_52 (Nat.le_of_ble_eq_true rfl) (Nat.le_of_ble_eq_true rfl) (hq3 hin (bi_no c29))
          · refine aw_bipush (v := -103) (pc2 := 34) hk dX6_map_32 rfl (by decide) ?_
            refine aw_iret hk dX6_map_34 (Nat.le_of_ble_eq_true rfl) (Nat.le_of_ble_eq_true rfl) (hq2 hin (bi_ya c29))
        · refine aw_bipush (v := -102) (pc2 := 24) hk dX6_map_22 rfl (by decide) ?_
          refine aw_iret hk dX6_map_24 (Nat.le_of_ble_eq_true rfl) (Nat.le_of_ble_eq_true rfl) (hq1 (fun h9 => by unfold rng at h9; simp only [i_lt, i_le, l0, l1, l4, l5, l12, l16, l1000, l10000, l100000, l1000000, hfc, hoc, huc, htd, nI_toInt (show fc < 2 ^ 31 by omega), nI_toInt (show oc < 2 ^ 31 by omega), nI_toInt (show uc < 2 ^ 31 by omega)] at *; omega))
set_option maxHeartbeats 800000 in
set_option maxRecDepth 100000 in
theorem t_field {n : Nat} {d : D2} {I : M2} {J : J2} {S : M2} {L : J2} {R : R2} {Q : QT} {w g fc oc uc td : Nat} (hB : CB S R w g fc oc uc td) (hq1 : (0 < oc ∨ 0 < uc) → Q (some (.int (-103))) n (H5 d I J S L R)) (hq2 : ¬ (0 < oc ∨ 0 < uc) → fc = 12 → Q (some (.int (-104))) n (H5 d I J S L R)) (hq3 : ¬ (0 < oc ∨ 0 < uc) → fc < 12 → Q (some (.int (nI fc))) n (H5 d I J (u2 (u2 (u2 S (14 + 4 * fc) 0 (-1)) (14 + 4 * fc) 1 0) 0 3 (nI (fc + 1))) L R)) : Calls yX6_field cX6_field 1 (some .int) rmX6_field [.ref 0] n (H5 d I J S L R) Q := by
  refine Calls.of (by decide) (Nat.le_of_ble_eq_true rfl) ?_
  intro K hk
  show AW K Q 0 0 0 [some (.ref 0)] [] n (H5 d I J S L R)
  obtain ⟨hw, hg, hw1, hw6, hg1, hg6, hfc, hfc2, hoc, hoc6, huc, huc5, htd, htd4, hR13, hR62⟩ := id hB
  refine aw_aload_n (pc2 := 1) hk dX6_field_0 rfl rfl ?_
  refine aw_cV (rm2 := rmX6_wasOrderMade) (pc2 := 4) hk veX6_wasOrderMade dX6_field_1 rfl ml_X6_54 ⟨(Nat.le_of_ble_eq_true rfl), (Nat.le_of_ble_eq_true rfl)⟩ [] rfl rfl (Nat.le_of_ble_eq_true rfl) (Nat.le_of_ble_eq_true rfl) (Nat.le_of_ble_eq_true rfl) (o_X6 rfl) (t_was hB ?_)
  refine aw_if_eq (tgt := 10) (pc2 := 7) hk dX6_field_4 (by decide) rfl (fun c4 => ?_) (fun c4 => ?_)
  · refine aw_aload_n (pc2 := 11) hk dX6_field_10 rfl rfl ?_
    refine aw_get (pc2 := 14) hk ckX6 3 dX6_field_11 rfl fl_X6_58 (by decide) (o_X6 rfl) rfl ?_
    refine aw_bipush (v := 12) (pc2 := 16) hk dX6_field_14 rfl (by decide) ?_
    refine aw_icN_lt (x := fc) (y := 12) (tgt := 22) (pc2 := 19) hk dX6_field_16 (by decide) rfl hfc rfl (by omega) (by omega) (fun c16 => ?_) (fun c16 => ?_)
    · refine aw_aload_n (pc2 := 23) hk dX6_field_22 rfl rfl ?_
      refine aw_get (pc2 := 26) hk ckX6 2 dX6_field_23 rfl fl_X6_25 (by decide) (o_X6 rfl) rfl ?_
      refine aw_aload_n (pc2 := 27) hk dX6_field_26 rfl rfl ?_
      refine aw_get (pc2 := 30) hk ckX6 3 dX6_field_27 rfl fl_X6_58 (by decide) (o_X6 rfl) rfl ?_
      refine h_aald (pc2 := 31) hk dX6_field_30 rfl (Or.inl rfl) rfl hfc (by omega) (by decide) (by rw [hR13 fc (by omega)]) ?_
      refine aw_cV (rm2 := rmX1_clear) (pc2 := 34) hk veX1_clear dX6_field_31 rfl ml_X6_62 ⟨(Nat.le_of_ble_eq_true rfl), (Nat.le_of_ble_eq_true rfl)⟩ [] rfl rfl (Nat.le_of_ble_eq_true rfl) (Nat.le_of_ble_eq_true rfl) (Nat.le_of_ble_eq_true rfl) (o_X1 (kdF d (by omega)).1) (t_clear (kdF d (by omega)).1 ?_)
      refine aw_aload_n (pc2 := 35) hk dX6_field_34 rfl rfl ?_
      refine aw_dup_r (pc2 := 36) hk dX6_field_35 rfl ?_
      refine aw_get (pc2 := 39) hk ckX6 3 dX6_field_36 rfl fl_X6_58 (by decide) (o_X6 rfl) rfl ?_
      refine aw_iconst (v := 1) (pc2 := 40) hk dX6_field_39 rfl (by decide) ?_
      refine aw_iadd (pc2 := 41) hk dX6_field_40 rfl ?_
      refine aw_top (nI (fc + 1)) (by rw [u2_a _ _ _ _ (by omega), u2_a _ _ _ _ (by omega), hfc]; exact nI_1 fc) ?_
      refine aw_put (pc2 := 44) hk ckX6 3 dX6_field_41 rfl fl_X6_58 (by decide) rfl (o_X6 rfl) (fun _ => rfl) (fun _ => rfl) (Nat.le_of_ble_eq_true rfl) ?_
      rw [p_X6_3 rfl]
      refine aw_aload_n (pc2 := 45) hk dX6_field_44 rfl rfl ?_
      refine aw_get (pc2 := 48) hk ckX6 3 dX6_field_45 rfl fl_X6_58 (by decide) (o_X6 rfl) rfl ?_
      refine aw_iconst (v := 1) (pc2 := 49) hk dX6_field_48 rfl (by decide) ?_
      refine aw_isub (pc2 := 50) hk dX6_field_49 rfl ?_
      refine aw_top (nI fc) (by rw [u2_s]; exact nI_pred fc) ?_
      refine aw_iret hk dX6_field_50 (Nat.le_of_ble_eq_true rfl) (Nat.le_of_ble_eq_true rfl) (hq3 (bi_no c4) (by omega))
    · refine aw_bipush (v := -104) (pc2 := 21) hk dX6_field_19 rfl (by decide) ?_
      refine aw_iret hk dX6_field_21 (Nat.le_of_ble_eq_true rfl) (Nat.le_of_ble_eq_true rfl) (hq2 (bi_no c4) (by omega))
  · refine aw_bipush (v := -103) (pc2 := 9) hk dX6_field_7 rfl (by decide) ?_
    refine aw_iret hk dX6_field_9 (Nat.le_of_ble_eq_true rfl) (Nat.le_of_ble_eq_true rfl) (hq1 (bi_ya c4))
def pdh (S : M2) (c : Int32) (i : Nat) : M2 := fun b k => if (14 ≤ b ∧ (b - 14) % 4 = 0 ∧ b < 14 + 4 * i) ∧ k = 0 ∧ S b k = c then -1 else S b k
theorem pdh_0 (S : M2) (c : Int32) : pdh S c 0 = S := by
  funext b k
  simp only [pdh]
  rw [if_neg (by omega)]
theorem pdh_at (S : M2) (c : Int32) (i : Nat) {b k : Nat} (h : ¬ (14 ≤ b ∧ b < 14 + 4 * i)) : pdh S c i b k = S b k := by
  simp only [pdh]
  rw [if_neg (by omega)]
theorem pdh_st (S : M2) (c : Int32) (i : Nat) (h : S (14 + 4 * i) 0 = c) : u2 (pdh S c i) (14 + 4 * i) 0 (-1) = pdh S c (i + 1) := by
  funext b k
  simp only [pdh, u2]
  by_cases hb : b = 14 + 4 * i ∧ k = 0
  · obtain ⟨rfl, rfl⟩ := hb
    rw [if_pos ⟨rfl, rfl⟩, if_pos ⟨by omega, rfl, h⟩]
  · rw [if_neg hb]
    by_cases h2 : (14 ≤ b ∧ (b - 14) % 4 = 0 ∧ b < 14 + 4 * i) ∧ k = 0 ∧ S b k = c
    · rw [if_pos h2, if_pos ⟨⟨h2.1.1, h2.1.2.1, by omega⟩, h2.2⟩]
    · rw [if_neg h2, if_neg (fun h3 => h2 ⟨⟨h3.1.1, h3.1.2.1, by have := h3.1; have := h3.2.1; omega⟩, h3.2⟩)]
theorem pdh_sk (S : M2) (c : Int32) (i : Nat) (h : ¬ S (14 + 4 * i) 0 = c) : pdh S c i = pdh S c (i + 1) := by
  funext b k
  simp only [pdh]
  by_cases hb : b = 14 + 4 * i ∧ k = 0
  · obtain ⟨rfl, rfl⟩ := hb
    rw [if_neg (fun h3 => h h3.2.2), if_neg (fun h3 => h h3.2.2)]
  · by_cases h2 : (14 ≤ b ∧ (b - 14) % 4 = 0 ∧ b < 14 + 4 * i) ∧ k = 0 ∧ S b k = c
    · rw [if_pos h2, if_pos ⟨⟨h2.1.1, h2.1.2.1, by omega⟩, h2.2⟩]
    · rw [if_neg h2, if_neg (fun h3 => h2 ⟨⟨h3.1.1, h3.1.2.1, by have := h3.1; have := h3.2.1; omega⟩, h3.2⟩)]
set_option maxHeartbeats 800000 in
set_option maxRecDepth 100000 in
theorem t_pdh {n : Nat} {d : D2} {I : M2} {J : J2} {S : M2} {L : J2} {R : R2} {Q : QT} {w g fc oc uc td : Nat} (hB : CB S R w g fc oc uc td) {c : Int32} (hq : Q none n (H5 d I J (pdh S c fc) L R)) : Calls yX6_pullDownHouse cX6_pullDownHouse 3 none rmX6_pullDownHouse [.ref 0, .int c] n (H5 d I J S L R) Q := by
  refine Calls.of (by decide) (Nat.le_of_ble_eq_true rfl) ?_
  intro K hk
  show AW K Q 0 0 0 [some (.ref 0), some (.int c), none] [] n (H5 d I J S L R)
  obtain ⟨hw, hg, hw1, hw6, hg1, hg6, hfc, hfc2, hoc, hoc6, huc, huc5, htd, htd4, hR13, hR62⟩ := id hB
  have loop : ∀ (k i : Nat), i ≤ fc → fc + 1 ≤ i + k → AW K Q 0 0 2 [some (.ref 0), some (.int c), some (.int (nI i))] [] n (H5 d I J (pdh S c i) L R) := by
    intro k
    induction k with
    | zero => intro i  hi hn; omega
    | succ k ih =>
      intro i  hi hn
      refine aw_iload_n (pc2 := 3) hk dX6_pullDownHouse_2 rfl rfl ?_
      refine aw_aload_n (pc2 := 4) hk dX6_pullDownHouse_3 rfl rfl ?_
      refine aw_get (pc2 := 7) hk ckX6 3 dX6_pullDownHouse_4 rfl fl_X6_58 (by decide) (o_X6 rfl) rfl ?_
      refine aw_icN_ge (x := i) (y := fc) (tgt := 45) (pc2 := 10) hk dX6_pullDownHouse_7 (by decide) rfl rfl (by rw [pdh_at _ _ _ (by omega)]; exact hfc) (by omega) (by omega) (fun c7 => ?_) (fun c7 => ?_)
      · obtain rfl : i = fc := by omega
        refine aw_vret hk dX6_pullDownHouse_45 (Nat.le_of_ble_eq_true rfl) (Nat.le_of_ble_eq_true rfl) hq
      · refine aw_iload_n (pc2 := 11) hk dX6_pullDownHouse_10 rfl rfl ?_
        refine aw_bipush (v := 12) (pc2 := 13) hk dX6_pullDownHouse_11 rfl (by decide) ?_
        refine aw_icN_ge (x := i) (y := 12) (tgt := 45) (pc2 := 16) hk dX6_pullDownHouse_13 (by decide) rfl rfl rfl (by omega) (by omega) (fun c13 => absurd c13 (by omega)) (fun c13 => ?_)
        refine aw_aload_n (pc2 := 17) hk dX6_pullDownHouse_16 rfl rfl ?_
        refine aw_get (pc2 := 20) hk ckX6 2 dX6_pullDownHouse_17 rfl fl_X6_25 (by decide) (o_X6 rfl) rfl ?_
        refine aw_iload_n (pc2 := 21) hk dX6_pullDownHouse_20 rfl rfl ?_
        refine h_aald (pc2 := 22) hk dX6_pullDownHouse_21 rfl (Or.inl rfl) rfl rfl (by omega) (by decide) (by rw [hR13 i (by omega)]) ?_
        refine aw_get (pc2 := 25) hk ckX1 0 dX6_pullDownHouse_22 rfl fl_X6_90 (by decide) (o_X1 (kdF d (by omega)).1) rfl ?_
        refine aw_iload_n (pc2 := 26) hk dX6_pullDownHouse_25 rfl rfl ?_
        rw [pdh_at _ _ _ (by omega)]
        refine aw_icmp_ne (tgt := 39) (pc2 := 29) hk dX6_pullDownHouse_26 (by decide) rfl (fun c26 => ?_) (fun c26 => ?_)
        · first
            | refine aw_S (pdh S c (i + 1)) (pdh_st S c i c26) ?_
            | refine aw_S (pdh S c (i + 1)) (pdh_sk S c i c26) ?_
          refine aw_iinc1 (pc2 := 42) hk dX6_pullDownHouse_39 rfl rfl (by decide) ?_
          show AW K Q _ _ 42 [_, _, _] _ _ _
          refine aw_goto (tgt := 2) hk dX6_pullDownHouse_42 (by decide) ?_
          exact ih (i + 1) (by omega) (by omega)
        · refine aw_aload_n (pc2 := 30) hk dX6_pullDownHouse_29 rfl rfl ?_
          refine aw_get (pc2 := 33) hk ckX6 2 dX6_pullDownHouse_30 rfl fl_X6_25 (by decide) (o_X6 rfl) rfl ?_
          refine aw_iload_n (pc2 := 34) hk dX6_pullDownHouse_33 rfl rfl ?_
          refine h_aald (pc2 := 35) hk dX6_pullDownHouse_34 rfl (Or.inl rfl) rfl rfl (by omega) (by decide) (by rw [hR13 i (by omega)]) ?_
          refine aw_iconst (v := -1) (pc2 := 36) hk dX6_pullDownHouse_35 rfl (by decide) ?_
          refine aw_put (pc2 := 39) hk ckX1 0 dX6_pullDownHouse_36 rfl fl_X6_90 (by decide) rfl (o_X1 (kdF d (by omega)).1) (fun _ => rfl) (fun _ => rfl) (Nat.le_of_ble_eq_true rfl) ?_
          rw [p_X1_0 (kdF d (by omega)).1]
          first
            | refine aw_S (pdh S c (i + 1)) (pdh_st S c i c26) ?_
            | refine aw_S (pdh S c (i + 1)) (pdh_sk S c i c26) ?_
          refine aw_iinc1 (pc2 := 42) hk dX6_pullDownHouse_39 rfl rfl (by decide) ?_
          show AW K Q _ _ 42 [_, _, _] _ _ _
          refine aw_goto (tgt := 2) hk dX6_pullDownHouse_42 (by decide) ?_
          exact ih (i + 1) (by omega) (by omega)
  refine aw_iconst (v := 0) (pc2 := 1) hk dX6_pullDownHouse_0 rfl (by decide) ?_
  refine aw_istore_n (pc2 := 2) hk dX6_pullDownHouse_1 rfl (by decide) ?_
  show AW K Q _ _ 2 [_, _, _] _ _ _
  refine aw_S (pdh S c 0) (pdh_0 _ _).symm ?_
  exact loop (fc + 1) 0 (by omega) (by omega)
set_option maxHeartbeats 800000 in
set_option maxRecDepth 100000 in
theorem t_cell {n : Nat} {d : D2} {I : M2} {J : J2} {S : M2} {L : J2} {R : R2} {Q : QT} {w g fc oc uc td : Nat} (hB : CB S R w g fc oc uc td) {x y f s : Int32} (hq1 : (plc w g x y = none ∨ (¬ f = -1 ∧ ¬ (0 ≤ f.toInt ∧ f.toInt < fc))) → Q (some (.int (-101))) n (H5 d I J S L R)) (hq2 : ∀ c, plc w g x y = some c → (f = -1 ∨ (0 ≤ f.toInt ∧ f.toInt < fc)) → ¬ (0 ≤ s.toInt ∧ s.toInt ≤ 3) → Q (some (.int (-102))) n (H5 d I J S L R)) (hq3 : ∀ c, plc w g x y = some c → (f = -1 ∨ (0 ≤ f.toInt ∧ f.toInt < fc)) → (0 ≤ s.toInt ∧ s.toInt ≤ 3) → (0 < oc ∨ 0 < uc) → Q (some (.int (-103))) n (H5 d I J S L R)) (hq4 : ∀ c, plc w g x y = some c → (f = -1 ∨ (0 ≤ f.toInt ∧ f.toInt < fc)) → (0 ≤ s.toInt ∧ s.toInt ≤ 3) → ¬ (0 < oc ∨ 0 < uc) → Q (some (.int 1)) n (H5 d (u2 (u2 (u2 I 2 c f) 3 c s) 4 c 0) J (pdh S (nI c) fc) L R)) : Calls yX6_cell cX6_cell 6 (some .int) rmX6_cell [.ref 0, .int x, .int y, .int f, .int s] n (H5 d I J S L R) Q := by
  refine Calls.of (by decide) (Nat.le_of_ble_eq_true rfl) ?_
  intro K hk
  show AW K Q 0 0 0 [some (.ref 0), some (.int x), some (.int y), some (.int f), some (.int s), none] [] n (H5 d I J S L R)
  obtain ⟨hw, hg, hw1, hw6, hg1, hg6, hfc, hfc2, hoc, hoc6, huc, huc5, htd, htd4, hR13, hR62⟩ := id hB
  refine aw_aload_n (pc2 := 1) hk dX6_cell_0 rfl rfl ?_
  refine aw_get (pc2 := 4) hk ckX6 0 dX6_cell_1 rfl fl_X6_12 (by decide) (o_X6 rfl) rfl ?_
  refine aw_iload_n (pc2 := 5) hk dX6_cell_4 rfl rfl ?_
  refine aw_iload_n (pc2 := 6) hk dX6_cell_5 rfl rfl ?_
  refine aw_cV (rm2 := rmX2_at) (pc2 := 9) hk veX2_at dX6_cell_6 rfl ml_X6_65 ⟨(Nat.le_of_ble_eq_true rfl), (Nat.le_of_ble_eq_true rfl)⟩ [_, _] rfl rfl (Nat.le_of_ble_eq_true rfl) (Nat.le_of_ble_eq_true rfl) (Nat.le_of_ble_eq_true rfl) (o_X2 rfl) (t_at hw hg hw6 hg6 ?_)
  refine aw_istore (pc2 := 11) hk dX6_cell_9 rfl (by decide) ?_
  show AW K Q _ _ 11 [_, _, _, _, _, _] _ _ _
  refine aw_iload (pc2 := 13) hk dX6_cell_11 rfl rfl ?_
  refine aw_iconst (v := -1) (pc2 := 14) hk dX6_cell_13 rfl (by decide) ?_
  refine aw_icmp_eq (tgt := 30) (pc2 := 17) hk dX6_cell_14 (by decide) rfl (fun c14 => ?_) (fun c14 => ?_)
  · refine aw_bipush (v := -101) (pc2 := 32) hk dX6_cell_30 rfl (by decide) ?_
    refine aw_iret hk dX6_cell_32 (Nat.le_of_ble_eq_true rfl) (Nat.le_of_ble_eq_true rfl) (hq1 (by first | exact Or.inl (opI_none c14 (fun q h => plc_lt hw6 hg6 h)) | exact Or.inr ⟨c19, bi_no c27⟩))
  · obtain ⟨c, hc1, hc2⟩ := opI_some c14
    have hc3 := plc_lt hw6 hg6 hc1
    refine aw_iload_n (pc2 := 18) hk dX6_cell_17 rfl rfl ?_
    refine aw_iconst (v := -1) (pc2 := 19) hk dX6_cell_18 rfl (by decide) ?_
    refine aw_icmp_eq (tgt := 33) (pc2 := 22) hk dX6_cell_19 (by decide) rfl (fun c19 => ?_) (fun c19 => ?_)
    · have hf : f = -1 ∨ (0 ≤ f.toInt ∧ f.toInt < fc) := by first | exact Or.inl c19 | exact Or.inr (bi_ya c27)
      refine aw_iload (pc2 := 35) hk dX6_cell_33 rfl rfl ?_
      refine aw_cS (rm2 := rmX6_isSoil) (pc2 := 38) hk seX6_isSoil dX6_cell_35 rfl ml_X6_73 ⟨(Nat.le_of_ble_eq_true rfl), (Nat.le_of_ble_eq_true rfl)⟩ [_] rfl rfl (Nat.le_of_ble_eq_true rfl) (Nat.le_of_ble_eq_true rfl) (Nat.le_of_ble_eq_true rfl) (t_isSoil ?_)
      refine aw_if_ne (tgt := 44) (pc2 := 41) hk dX6_cell_38 (by decide) rfl (fun c38 => ?_) (fun c38 => ?_)
      · refine aw_aload_n (pc2 := 45) hk dX6_cell_44 rfl rfl ?_
        refine aw_cV (rm2 := rmX6_wasOrderMade) (pc2 := 48) hk veX6_wasOrderMade dX6_cell_45 rfl ml_X6_54 ⟨(Nat.le_of_ble_eq_true rfl), (Nat.le_of_ble_eq_true rfl)⟩ [] rfl rfl (Nat.le_of_ble_eq_true rfl) (Nat.le_of_ble_eq_true rfl) (Nat.le_of_ble_eq_true rfl) (o_X6 rfl) (t_was hB ?_)
        refine aw_if_eq (tgt := 54) (pc2 := 51) hk dX6_cell_48 (by decide) rfl (fun c48 => ?_) (fun c48 => ?_)
        · refine aw_aload_n (pc2 := 55) hk dX6_cell_54 rfl rfl ?_
          refine aw_iload (pc2 := 57) hk dX6_cell_55 rfl rfl ?_
          rw [hc2]
          refine aw_cV (rm2 := rmX6_pullDownHouse) (pc2 := 60) hk veX6_pullDownHouse dX6_cell_57 rfl ml_X6_76 ⟨(Nat.le_of_ble_eq_true rfl), (Nat.le_of_ble_eq_true rfl)⟩ [_] rfl rfl (Nat.le_of_ble_eq_true rfl) (Nat.le_of_ble_eq_true rfl) (Nat.le_of_ble_eq_true rfl) (o_X6 rfl) (t_pdh hB ?_)
          refine aw_aload_n (pc2 := 61) hk dX6_cell_60 rfl rfl ?_
          refine aw_get (pc2 := 64) hk ckX6 0 dX6_cell_61 rfl fl_X6_12 (by decide) (o_X6 rfl) rfl ?_
          refine aw_get (v := .ref 2) (pc2 := 67) hk ckX2 2 dX6_cell_64 rfl fl_X6_80 (by decide) (o_X2 rfl) rfl ?_
          refine aw_iload (pc2 := 69) hk dX6_cell_67 rfl rfl ?_
          refine aw_iload_n (pc2 := 70) hk dX6_cell_69 rfl rfl ?_
          skip
          refine h_iast (pc2 := 71) hk dX6_cell_70 rfl rfl rfl hc3 (by decide) ?_
          refine aw_aload_n (pc2 := 72) hk dX6_cell_71 rfl rfl ?_
          refine aw_get (pc2 := 75) hk ckX6 0 dX6_cell_72 rfl fl_X6_12 (by decide) (o_X6 rfl) rfl ?_
          refine aw_get (v := .ref 3) (pc2 := 78) hk ckX2 3 dX6_cell_75 rfl fl_X6_83 (by decide) (o_X2 rfl) rfl ?_
          refine aw_iload (pc2 := 80) hk dX6_cell_78 rfl rfl ?_
          refine aw_iload (pc2 := 82) hk dX6_cell_80 rfl rfl ?_
          refine h_iast (pc2 := 83) hk dX6_cell_82 rfl rfl rfl hc3 (by decide) ?_
          refine aw_aload_n (pc2 := 84) hk dX6_cell_83 rfl rfl ?_
          refine aw_get (pc2 := 87) hk ckX6 0 dX6_cell_84 rfl fl_X6_12 (by decide) (o_X6 rfl) rfl ?_
          refine aw_get (v := .ref 4) (pc2 := 90) hk ckX2 4 dX6_cell_87 rfl fl_X6_86 (by decide) (o_X2 rfl) rfl ?_
          refine aw_iload (pc2 := 92) hk dX6_cell_90 rfl rfl ?_
          refine aw_iconst (v := 0) (pc2 := 93) hk dX6_cell_92 rfl (by decide) ?_
          refine h_zast (pc2 := 94) hk dX6_cell_93 rfl rfl rfl hc3 (by decide) (by first | exact Or.inl rfl | exact Or.inr rfl) ?_
          refine aw_iconst (v := 1) (pc2 := 95) hk dX6_cell_94 rfl (by decide) ?_
          refine aw_iret hk dX6_cell_95 (Nat.le_of_ble_eq_true rfl) (Nat.le_of_ble_eq_true rfl) (hq4 c hc1 hf (bi_ya c38) (bi_no c48))
        · refine aw_bipush (v := -103) (pc2 := 53) hk dX6_cell_51 rfl (by decide) ?_
          refine aw_iret hk dX6_cell_53 (Nat.le_of_ble_eq_true rfl) (Nat.le_of_ble_eq_true rfl) (hq3 c hc1 hf (bi_ya c38) (bi_ya c48))
      · refine aw_bipush (v := -102) (pc2 := 43) hk dX6_cell_41 rfl (by decide) ?_
        refine aw_iret hk dX6_cell_43 (Nat.le_of_ble_eq_true rfl) (Nat.le_of_ble_eq_true rfl) (hq2 c hc1 hf (bi_no c38))
    · refine aw_aload_n (pc2 := 23) hk dX6_cell_22 rfl rfl ?_
      refine aw_iload_n (pc2 := 24) hk dX6_cell_23 rfl rfl ?_
      refine aw_cV (rm2 := rmX6_isField) (pc2 := 27) hk veX6_isField dX6_cell_24 rfl ml_X6_69 ⟨(Nat.le_of_ble_eq_true rfl), (Nat.le_of_ble_eq_true rfl)⟩ [_] rfl rfl (Nat.le_of_ble_eq_true rfl) (Nat.le_of_ble_eq_true rfl) (Nat.le_of_ble_eq_true rfl) (o_X6 rfl) (t_isField hB ?_)
      refine aw_if_ne (tgt := 33) (pc2 := 30) hk dX6_cell_27 (by decide) rfl (fun c27 => ?_) (fun c27 => ?_)
      · have hf : f = -1 ∨ (0 ≤ f.toInt ∧ f.toInt < fc) := by first | exact Or.inl c19 | exact Or.inr (bi_ya c27)
        refine aw_iload (pc2 := 35) hk dX6_cell_33 rfl rfl ?_
        refine aw_cS (rm2 := rmX6_isSoil) (pc2 := 38) hk seX6_isSoil dX6_cell_35 rfl ml_X6_73 ⟨(Nat.le_of_ble_eq_true rfl), (Nat.le_of_ble_eq_true rfl)⟩ [_] rfl rfl (Nat.le_of_ble_eq_true rfl) (Nat.le_of_ble_eq_true rfl) (Nat.le_of_ble_eq_true rfl) (t_isSoil ?_)
        refine aw_if_ne (tgt := 44) (pc2 := 41) hk dX6_cell_38 (by decide) rfl (fun c38 => ?_) (fun c38 => ?_)
        · refine aw_aload_n (pc2 := 45) hk dX6_cell_44 rfl rfl ?_
          refine aw_cV (rm2 := rmX6_wasOrderMade) (pc2 := 48) hk veX6_wasOrderMade dX6_cell_45 rfl ml_X6_54 ⟨(Nat.le_of_ble_eq_true rfl), (Nat.le_of_ble_eq_true rfl)⟩ [] rfl rfl (Nat.le_of_ble_eq_true rfl) (Nat.le_of_ble_eq_true rfl) (Nat.le_of_ble_eq_true rfl) (o_X6 rfl) (t_was hB ?_)
          refine aw_if_eq (tgt := 54) (pc2 := 51) hk dX6_cell_48 (by decide) rfl (fun c48 => ?_) (fun c48 => ?_)
          · refine aw_aload_n (pc2 := 55) hk dX6_cell_54 rfl rfl ?_
            refine aw_iload (pc2 := 57) hk dX6_cell_55 rfl rfl ?_
            rw [hc2]
            refine aw_cV (rm2 := rmX6_pullDownHouse) (pc2 := 60) hk veX6_pullDownHouse dX6_cell_57 rfl ml_X6_76 ⟨(Nat.le_of_ble_eq_true rfl), (Nat.le_of_ble_eq_true rfl)⟩ [_] rfl rfl (Nat.le_of_ble_eq_true rfl) (Nat.le_of_ble_eq_true rfl) (Nat.le_of_ble_eq_true rfl) (o_X6 rfl) (t_pdh hB ?_)
            refine aw_aload_n (pc2 := 61) hk dX6_cell_60 rfl rfl ?_
            refine aw_get (pc2 := 64) hk ckX6 0 dX6_cell_61 rfl fl_X6_12 (by decide) (o_X6 rfl) rfl ?_
            refine aw_get (v := .ref 2) (pc2 := 67) hk ckX2 2 dX6_cell_64 rfl fl_X6_80 (by decide) (o_X2 rfl) rfl ?_
            refine aw_iload (pc2 := 69) hk dX6_cell_67 rfl rfl ?_
            refine aw_iload_n (pc2 := 70) hk dX6_cell_69 rfl rfl ?_
            skip
            refine h_iast (pc2 := 71) hk dX6_cell_70 rfl rfl rfl hc3 (by decide) ?_
            refine aw_aload_n (pc2 := 72) hk dX6_cell_71 rfl rfl ?_
            refine aw_get (pc2 := 75) hk ckX6 0 dX6_cell_72 rfl fl_X6_12 (by decide) (o_X6 rfl) rfl ?_
            refine aw_get (v := .ref 3) (pc2 := 78) hk ckX2 3 dX6_cell_75 rfl fl_X6_83 (by decide) (o_X2 rfl) rfl ?_
            refine aw_iload (pc2 := 80) hk dX6_cell_78 rfl rfl ?_
            refine aw_iload (pc2 := 82) hk dX6_cell_80 rfl rfl ?_
            refine h_iast (pc2 := 83) hk dX6_cell_82 rfl rfl rfl hc3 (by decide) ?_
            refine aw_aload_n (pc2 := 84) hk dX6_cell_83 rfl rfl ?_
            refine aw_get (pc2 := 87) hk ckX6 0 dX6_cell_84 rfl fl_X6_12 (by decide) (o_X6 rfl) rfl ?_
            refine aw_get (v := .ref 4) (pc2 := 90) hk ckX2 4 dX6_cell_87 rfl fl_X6_86 (by decide) (o_X2 rfl) rfl ?_
            refine aw_iload (pc2 := 92) hk dX6_cell_90 rfl rfl ?_
            refine aw_iconst (v := 0) (pc2 := 93) hk dX6_cell_92 rfl (by decide) ?_
            refine h_zast (pc2 := 94) hk dX6_cell_93 rfl rfl rfl hc3 (by decide) (by first | exact Or.inl rfl | exact Or.inr rfl) ?_
            refine aw_iconst (v := 1) (pc2 := 95) hk dX6_cell_94 rfl (by decide) ?_
            refine aw_iret hk dX6_cell_95 (Nat.le_of_ble_eq_true rfl) (Nat.le_of_ble_eq_true rfl) (hq4 c hc1 hf (bi_ya c38) (bi_no c48))
          · refine aw_bipush (v := -103) (pc2 := 53) hk dX6_cell_51 rfl (by decide) ?_
            refine aw_iret hk dX6_cell_53 (Nat.le_of_ble_eq_true rfl) (Nat.le_of_ble_eq_true rfl) (hq3 c hc1 hf (bi_ya c38) (bi_ya c48))
        · refine aw_bipush (v := -102) (pc2 := 43) hk dX6_cell_41 rfl (by decide) ?_
          refine aw_iret hk dX6_cell_43 (Nat.le_of_ble_eq_true rfl) (Nat.le_of_ble_eq_true rfl) (hq2 c hc1 hf (bi_no c38))
      · refine aw_bipush (v := -101) (pc2 := 32) hk dX6_cell_30 rfl (by decide) ?_
        refine aw_iret hk dX6_cell_32 (Nat.le_of_ble_eq_true rfl) (Nat.le_of_ble_eq_true rfl) (hq1 (by first | exact Or.inl (opI_none c14 (fun q h => plc_lt hw6 hg6 h)) | exact Or.inr ⟨c19, bi_no c27⟩))
set_option maxHeartbeats 800000 in
set_option maxRecDepth 100000 in
theorem t_lane {n : Nat} {d : D2} {I : M2} {J : J2} {S : M2} {L : J2} {R : R2} {Q : QT} {w g fc oc uc td : Nat} (hB : CB S R w g fc oc uc td) {x y : Int32} (hq1 : plc w g x y = none → Q (some (.int (-101))) n (H5 d I J S L R)) (hq2 : ∀ c, plc w g x y = some c → (0 < oc ∨ 0 < uc) → Q (some (.int (-103))) n (H5 d I J S L R)) (hq3 : ∀ c, plc w g x y = some c → ¬ (0 < oc ∨ 0 < uc) → Q (some (.int 1)) n (H5 d (u2 (u2 I 2 c (-1)) 4 c 1) J (pdh S (nI c) fc) L R)) : Calls yX6_lane cX6_lane 4 (some .int) rmX6_lane [.ref 0, .int x, .int y] n (H5 d I J S L R) Q := by
  refine Calls.of (by decide) (Nat.le_of_ble_eq_true rfl) ?_
  intro K hk
  show AW K Q 0 0 0 [some (.ref 0), some (.int x), some (.int y), none] [] n (H5 d I J S L R)
  obtain ⟨hw, hg, hw1, hw6, hg1, hg6, hfc, hfc2, hoc, hoc6, huc, huc5, htd, htd4, hR13, hR62⟩ := id hB
  refine aw_aload_n (pc2 := 1) hk dX6_lane_0 rfl rfl ?_
  refine aw_get (pc2 := 4) hk ckX6 0 dX6_lane_1 rfl fl_X6_12 (by decide) (o_X6 rfl) rfl ?_
  refine aw_iload_n (pc2 := 5) hk dX6_lane_4 rfl rfl ?_
  refine aw_iload_n (pc2 := 6) hk dX6_lane_5 rfl rfl ?_
  refine aw_cV (rm2 := rmX2_at) (pc2 := 9) hk veX2_at dX6_lane_6 rfl ml_X6_65 ⟨(Nat.le_of_ble_eq_true rfl), (Nat.le_of_ble_eq_true rfl)⟩ [_, _] rfl rfl (Nat.le_of_ble_eq_true rfl) (Nat.le_of_ble_eq_true rfl) (Nat.le_of_ble_eq_true rfl) (o_X2 rfl) (t_at hw hg hw6 hg6 ?_)
  refine aw_istore_n (pc2 := 10) hk dX6_lane_9 rfl (by decide) ?_
  show AW K Q _ _ 10 [_, _, _, _] _ _ _
  refine aw_iload_n (pc2 := 11) hk dX6_lane_10 rfl rfl ?_
  refine aw_iconst (v := -1) (pc2 := 12) hk dX6_lane_11 rfl (by decide) ?_
  refine aw_icmp_ne (tgt := 18) (pc2 := 15) hk dX6_lane_12 (by decide) rfl (fun c12 => ?_) (fun c12 => ?_)
  · obtain ⟨c, hc1, hc2⟩ := opI_some c12
    have hc3 := plc_lt hw6 hg6 hc1
    refine aw_aload_n (pc2 := 19) hk dX6_lane_18 rfl rfl ?_
    refine aw_cV (rm2 := rmX6_wasOrderMade) (pc2 := 22) hk veX6_wasOrderMade dX6_lane_19 rfl ml_X6_54 ⟨(Nat.le_of_ble_eq_true rfl), (Nat.le_of_ble_eq_true rfl)⟩ [] rfl rfl (Nat.le_of_ble_eq_true rfl) (Nat.le_of_ble_eq_true rfl) (Nat.le_of_ble_eq_true rfl) (o_X6 rfl) (t_was hB ?_)
    refine aw_if_eq (tgt := 28) (pc2 := 25) hk dX6_lane_22 (by decide) rfl (fun c22 => ?_) (fun c22 => ?_)
    · refine aw_aload_n (pc2 := 29) hk dX6_lane_28 rfl rfl ?_
      refine aw_iload_n (pc2 := 30) hk dX6_lane_29 rfl rfl ?_
      rw [hc2]
      refine aw_cV (rm2 := rmX6_pullDownHouse) (pc2 := 33) hk veX6_pullDownHouse dX6_lane_30 rfl ml_X6_76 ⟨(Nat.le_of_ble_eq_true rfl), (Nat.le_of_ble_eq_true rfl)⟩ [_] rfl rfl (Nat.le_of_ble_eq_true rfl) (Nat.le_of_ble_eq_true rfl) (Nat.le_of_ble_eq_true rfl) (o_X6 rfl) (t_pdh hB ?_)
      refine aw_aload_n (pc2 := 34) hk dX6_lane_33 rfl rfl ?_
      refine aw_get (pc2 := 37) hk ckX6 0 dX6_lane_34 rfl fl_X6_12 (by decide) (o_X6 rfl) rfl ?_
      refine aw_get (v := .ref 2) (pc2 := 40) hk ckX2 2 dX6_lane_37 rfl fl_X6_80 (by decide) (o_X2 rfl) rfl ?_
      refine aw_iload_n (pc2 := 41) hk dX6_lane_40 rfl rfl ?_
      refine aw_iconst (v := -1) (pc2 := 42) hk dX6_lane_41 rfl (by decide) ?_
      refine h_iast (pc2 := 43) hk dX6_lane_42 rfl rfl rfl hc3 (by decide) ?_
      refine aw_aload_n (pc2 := 44) hk dX6_lane_43 rfl rfl ?_
      refine aw_get (pc2 := 47) hk ckX6 0 dX6_lane_44 rfl fl_X6_12 (by decide) (o_X6 rfl) rfl ?_
      refine aw_get (v := .ref 4) (pc2 := 50) hk ckX2 4 dX6_lane_47 rfl fl_X6_86 (by decide) (o_X2 rfl) rfl ?_
      refine aw_iload_n (pc2 := 51) hk dX6_lane_50 rfl rfl ?_
      refine aw_iconst (v := 1) (pc2 := 52) hk dX6_lane_51 rfl (by decide) ?_
      refine h_zast (pc2 := 53) hk dX6_lane_52 rfl rfl rfl hc3 (by decide) (by first | exact Or.inl rfl | exact Or.inr rfl) ?_
      refine aw_iconst (v := 1) (pc2 := 54) hk dX6_lane_53 rfl (by decide) ?_
      refine aw_iret hk dX6_lane_54 (Nat.le_of_ble_eq_true rfl) (Nat.le_of_ble_eq_true rfl) (hq3 c hc1 (bi_no c22))
    · refine aw_bipush (v := -103) (pc2 := 27) hk dX6_lane_25 rfl (by decide) ?_
      refine aw_iret hk dX6_lane_27 (Nat.le_of_ble_eq_true rfl) (Nat.le_of_ble_eq_true rfl) (hq2 c hc1 (bi_ya c22))
  · refine aw_bipush (v := -101) (pc2 := 17) hk dX6_lane_15 rfl (by decide) ?_
    refine aw_iret hk dX6_lane_17 (Nat.le_of_ble_eq_true rfl) (Nat.le_of_ble_eq_true rfl) (hq1 (opI_none c12 (fun q h => plc_lt hw6 hg6 h)))
set_option maxHeartbeats 800000 in
set_option maxRecDepth 100000 in
theorem t_house {n : Nat} {d : D2} {I : M2} {J : J2} {S : M2} {L : J2} {R : R2} {Q : QT} {w g fc oc uc td : Nat} (hB : CB S R w g fc oc uc td) {x y f : Int32} (hq1 : (¬ (0 ≤ f.toInt ∧ f.toInt < fc) ∨ plc w g x y = none) → Q (some (.int (-101))) n (H5 d I J S L R)) (hq2 : ∀ c, plc w g x y = some c → (0 ≤ f.toInt ∧ f.toInt < fc) → ¬ I 2 c = f → Q (some (.int (-102))) n (H5 d I J S L R)) (hq3 : ∀ c, plc w g x y = some c → (0 ≤ f.toInt ∧ f.toInt < fc) → I 2 c = f → (0 < oc ∨ 0 < uc) → Q (some (.int (-103))) n (H5 d I J S L R)) (hq4 : ∀ c j, plc w g x y = some c → f = nI j → j < fc → I 2 c = f → ¬ (0 < oc ∨ 0 < uc) → Q (some (.int 1)) n (H5 d I J (u2 S (14 + 4 * j) 0 (nI c)) L R)) : Calls yX6_house cX6_house 5 (some .int) rmX6_house [.ref 0, .int f, .int x, .int y] n (H5 d I J S L R) Q := by
  refine Calls.of (by decide) (Nat.le_of_ble_eq_true rfl) ?_
  intro K hk
  show AW K Q 0 0 0 [some (.ref 0), some (.int f), some (.int x), some (.int y), none] [] n (H5 d I J S L R)
  obtain ⟨hw, hg, hw1, hw6, hg1, hg6, hfc, hfc2, hoc, hoc6, huc, huc5, htd, htd4, hR13, hR62⟩ := id hB
  refine aw_aload_n (pc2 := 1) hk dX6_house_0 rfl rfl ?_
  refine aw_get (pc2 := 4) hk ckX6 0 dX6_house_1 rfl fl_X6_12 (by decide) (o_X6 rfl) rfl ?_
  refine aw_iload_n (pc2 := 5) hk dX6_house_4 rfl rfl ?_
  refine aw_iload_n (pc2 := 6) hk dX6_house_5 rfl rfl ?_
  refine aw_cV (rm2 := rmX2_at) (pc2 := 9) hk veX2_at dX6_house_6 rfl ml_X6_65 ⟨(Nat.le_of_ble_eq_true rfl), (Nat.le_of_ble_eq_true rfl)⟩ [_, _] rfl rfl (Nat.le_of_ble_eq_true rfl) (Nat.le_of_ble_eq_true rfl) (Nat.le_of_ble_eq_true rfl) (o_X2 rfl) (t_at hw hg hw6 hg6 ?_)
  refine aw_istore (pc2 := 11) hk dX6_house_9 rfl (by decide) ?_
  show AW K Q _ _ 11 [_, _, _, _, _] _ _ _
  refine aw_aload_n (pc2 := 12) hk dX6_house_11 rfl rfl ?_
  refine aw_iload_n (pc2 := 13) hk dX6_house_12 rfl rfl ?_
  refine aw_cV (rm2 := rmX6_isField) (pc2 := 16) hk veX6_isField dX6_house_13 rfl ml_X6_69 ⟨(Nat.le_of_ble_eq_true rfl), (Nat.le_of_ble_eq_true rfl)⟩ [_] rfl rfl (Nat.le_of_ble_eq_true rfl) (Nat.le_of_ble_eq_true rfl) (Nat.le_of_ble_eq_true rfl) (o_X6 rfl) (t_isField hB ?_)
  refine aw_if_eq (tgt := 25) (pc2 := 19) hk dX6_house_16 (by decide) rfl (fun c16 => ?_) (fun c16 => ?_)
  · refine aw_bipush (v := -101) (pc2 := 27) hk dX6_house_25 rfl (by decide) ?_
    refine aw_iret hk dX6_house_27 (Nat.le_of_ble_eq_true rfl) (Nat.le_of_ble_eq_true rfl) (hq1 (by first | exact Or.inl (bi_no c16) | exact Or.inr (opI_none c22 (fun q h => plc_lt hw6 hg6 h))))
  · refine aw_iload (pc2 := 21) hk dX6_house_19 rfl rfl ?_
    refine aw_iconst (v := -1) (pc2 := 22) hk dX6_house_21 rfl (by decide) ?_
    refine aw_icmp_ne (tgt := 28) (pc2 := 25) hk dX6_house_22 (by decide) rfl (fun c22 => ?_) (fun c22 => ?_)
    · obtain ⟨c, hc1, hc2⟩ := opI_some c22
      have hc3 := plc_lt hw6 hg6 hc1
      obtain ⟨j, hj1, hj2⟩ := fok_of (bi_ya c16) hfc2
      refine aw_aload_n (pc2 := 29) hk dX6_house_28 rfl rfl ?_
      refine aw_get (pc2 := 32) hk ckX6 0 dX6_house_29 rfl fl_X6_12 (by decide) (o_X6 rfl) rfl ?_
      refine aw_get (v := .ref 2) (pc2 := 35) hk ckX2 2 dX6_house_32 rfl fl_X6_80 (by decide) (o_X2 rfl) rfl ?_
      refine aw_iload (pc2 := 37) hk dX6_house_35 rfl rfl ?_
      refine h_iald (pc2 := 38) hk dX6_house_37 rfl rfl hc2 hc3 (by decide) ?_
      refine aw_iload_n (pc2 := 39) hk dX6_house_38 rfl rfl ?_
      refine aw_icmp_eq (tgt := 45) (pc2 := 42) hk dX6_house_39 (by decide) rfl (fun c39 => ?_) (fun c39 => ?_)
      · refine aw_aload_n (pc2 := 46) hk dX6_house_45 rfl rfl ?_
        refine aw_cV (rm2 := rmX6_wasOrderMade) (pc2 := 49) hk veX6_wasOrderMade dX6_house_46 rfl ml_X6_54 ⟨(Nat.le_of_ble_eq_true rfl), (Nat.le_of_ble_eq_true rfl)⟩ [] rfl rfl (Nat.le_of_ble_eq_true rfl) (Nat.le_of_ble_eq_true rfl) (Nat.le_of_ble_eq_true rfl) (o_X6 rfl) (t_was hB ?_)
        refine aw_if_eq (tgt := 55) (pc2 := 52) hk dX6_house_49 (by decide) rfl (fun c49 => ?_) (fun c49 => ?_)
        · refine aw_aload_n (pc2 := 56) hk dX6_house_55 rfl rfl ?_
          refine aw_get (pc2 := 59) hk ckX6 2 dX6_house_56 rfl fl_X6_25 (by decide) (o_X6 rfl) rfl ?_
          refine aw_iload_n (pc2 := 60) hk dX6_house_59 rfl rfl ?_
          refine h_aald (pc2 := 61) hk dX6_house_60 rfl (Or.inl rfl) rfl hj2 (by omega) (by decide) (by rw [hR13 j (by omega)]) ?_
          refine aw_iload (pc2 := 63) hk dX6_house_61 rfl rfl ?_
          rw [hc2]
          refine aw_put (pc2 := 66) hk ckX1 0 dX6_house_63 rfl fl_X6_90 (by decide) rfl (o_X1 (kdF d (by omega)).1) (fun _ => rfl) (fun _ => rfl) (Nat.le_of_ble_eq_true rfl) ?_
          rw [p_X1_0 (kdF d (by omega)).1]
          refine aw_iconst (v := 1) (pc2 := 67) hk dX6_house_66 rfl (by decide) ?_
          refine aw_iret hk dX6_house_67 (Nat.le_of_ble_eq_true rfl) (Nat.le_of_ble_eq_true rfl) (hq4 c j hc1 hj2 hj1 c39 (bi_no c49))
        · refine aw_bipush (v := -103) (pc2 := 54) hk dX6_house_52 rfl (by decide) ?_
          refine aw_iret hk dX6_house_54 (Nat.le_of_ble_eq_true rfl) (Nat.le_of_ble_eq_true rfl) (hq3 c hc1 (bi_ya c16) c39 (bi_ya c49))
      · refine aw_bipush (v := -102) (pc2 := 44) hk dX6_house_42 rfl (by decide) ?_
        refine aw_iret hk dX6_house_44 (Nat.le_of_ble_eq_true rfl) (Nat.le_of_ble_eq_true rfl) (hq2 c hc1 (bi_ya c16) c39)
    · refine aw_bipush (v := -101) (pc2 := 27) hk dX6_house_25 rfl (by decide) ?_
      refine aw_iret hk dX6_house_27 (Nat.le_of_ble_eq_true rfl) (Nat.le_of_ble_eq_true rfl) (hq1 (by first | exact Or.inl (bi_no c16) | exact Or.inr (opI_none c22 (fun q h => plc_lt hw6 hg6 h))))
set_option maxHeartbeats 800000 in
set_option maxRecDepth 100000 in
theorem t_right {n : Nat} {d : D2} {I : M2} {J : J2} {S : M2} {L : J2} {R : R2} {Q : QT} {w g fc oc uc td : Nat} (hB : CB S R w g fc oc uc td) {f k a : Int32} (hrc : ∀ j, j < fc → ∃ rc, rc ≤ 4 ∧ S (14 + 4 * j) 1 = nI rc) (hq1 : ¬ (0 ≤ f.toInt ∧ f.toInt < fc) → Q (some (.int (-101))) n (H5 d I J S L R)) (hq2 : (0 ≤ f.toInt ∧ f.toInt < fc) → ¬ ((k.toInt = 1 ∧ 0 ≤ a.toInt ∧ a.toInt ≤ 1000000) ∨ (k.toInt = 2 ∧ 0 ≤ a.toInt ∧ a.toInt ≤ 1000)) → Q (some (.int (-102))) n (H5 d I J S L R)) (hq3 : (0 ≤ f.toInt ∧ f.toInt < fc) → ((k.toInt = 1 ∧ 0 ≤ a.toInt ∧ a.toInt ≤ 1000000) ∨ (k.toInt = 2 ∧ 0 ≤ a.toInt ∧ a.toInt ≤ 1000)) → (0 < oc ∨ 0 < uc) → Q (some (.int (-103))) n (H5 d I J S L R)) (hq4 : ∀ j rc, f = nI j → j < fc → S (14 + 4 * j) 1 = nI rc → rc = 4 → ((k.toInt = 1 ∧ 0 ≤ a.toInt ∧ a.toInt ≤ 1000000) ∨ (k.toInt = 2 ∧ 0 ≤ a.toInt ∧ a.toInt ≤ 1000)) → ¬ (0 < oc ∨ 0 < uc) → Q (some (.int (-104))) n (H5 d I J S L R)) (hq5 : ∀ j rc, f = nI j → j < fc → S (14 + 4 * j) 1 = nI rc → rc < 4 → ((k.toInt = 1 ∧ 0 ≤ a.toInt ∧ a.toInt ≤ 1000000) ∨ (k.toInt = 2 ∧ 0 ≤ a.toInt ∧ a.toInt ≤ 1000)) → ¬ (0 < oc ∨ 0 < uc) → Q (some (.int (nI (rc + 1)))) n (H5 d (u2 (u2 I ((14 + 4 * j) + 1) rc k) ((14 + 4 * j) + 2) rc a) (u2 J ((14 + 4 * j) + 3) rc a.toInt64) (u2 S (14 + 4 * j) 1 (nI (rc + 1))) L R)) : Calls yX6_right cX6_right 4 (some .int) rmX6_right [.ref 0, .int f, .int k, .int a] n (H5 d I J S L R) Q := by
  refine Calls.of (by decide) (Nat.le_of_ble_eq_true rfl) ?_
  intro K hk
  show AW K Q 0 0 0 [some (.ref 0), some (.int f), some (.int k), some (.int a)] [] n (H5 d I J S L R)
  obtain ⟨hw, hg, hw1, hw6, hg1, hg6, hfc, hfc2, hoc, hoc6, huc, huc5, htd, htd4, hR13, hR62⟩ := id hB
  refine aw_aload_n (pc2 := 1) hk dX6_right_0 rfl rfl ?_
  refine aw_iload_n (pc2 := 2) hk dX6_right_1 rfl rfl ?_
  refine aw_cV (rm2 := rmX6_isField) (pc2 := 5) hk veX6_isField dX6_right_2 rfl ml_X6_69 ⟨(Nat.le_of_ble_eq_true rfl), (Nat.le_of_ble_eq_true rfl)⟩ [_] rfl rfl (Nat.le_of_ble_eq_true rfl) (Nat.le_of_ble_eq_true rfl) (Nat.le_of_ble_eq_true rfl) (o_X6 rfl) (t_isField hB ?_)
  refine aw_if_ne (tgt := 11) (pc2 := 8) hk dX6_right_5 (by decide) rfl (fun c5 => ?_) (fun c5 => ?_)
  · refine aw_iload_n (pc2 := 12) hk dX6_right_11 rfl rfl ?_
    refine aw_iload_n (pc2 := 13) hk dX6_right_12 rfl rfl ?_
    refine aw_cS (rm2 := rmX6_isAmount) (pc2 := 16) hk seX6_isAmount dX6_right_13 rfl ml_X6_93 ⟨(Nat.le_of_ble_eq_true rfl), (Nat.le_of_ble_eq_true rfl)⟩ [_, _] rfl rfl (Nat.le_of_ble_eq_true rfl) (Nat.le_of_ble_eq_true rfl) (Nat.le_of_ble_eq_true rfl) (t_isAmount ?_)
    refine aw_if_ne (tgt := 22) (pc2 := 19) hk dX6_right_16 (by decide) rfl (fun c16 => ?_) (fun c16 => ?_)
    · refine aw_aload_n (pc2 := 23) hk dX6_right_22 rfl rfl ?_
      refine aw_cV (rm2 := rmX6_wasOrderMade) (pc2 := 26) hk veX6_wasOrderMade dX6_right_23 rfl ml_X6_54 ⟨(Nat.le_of_ble_eq_true rfl), (Nat.le_of_ble_eq_true rfl)⟩ [] rfl rfl (Nat.le_of_ble_eq_true rfl) (Nat.le_of_ble_eq_true rfl) (Nat.le_of_ble_eq_true rfl) (o_X6 rfl) (t_was hB ?_)
      refine aw_if_eq (tgt := 32) (pc2 := 29) hk dX6_right_26 (by decide) rfl (fun c26 => ?_) (fun c26 => ?_)
      · obtain ⟨j, hj1, hj2⟩ := fok_of (bi_ya c5) hfc2
        obtain ⟨rc, hrc4, hrc⟩ := hrc j hj1
        obtain ⟨k1, k2, k3, k4⟩ := kdF d (show j < 12 by omega)
        refine aw_aload_n (pc2 := 33) hk dX6_right_32 rfl rfl ?_
        refine aw_get (pc2 := 36) hk ckX6 2 dX6_right_33 rfl fl_X6_25 (by decide) (o_X6 rfl) rfl ?_
        refine aw_iload_n (pc2 := 37) hk dX6_right_36 rfl rfl ?_
        refine h_aald (pc2 := 38) hk dX6_right_37 rfl (Or.inl rfl) rfl hj2 (by omega) (by decide) (by rw [hR13 j (by omega)]) ?_
        refine aw_iload_n (pc2 := 39) hk dX6_right_38 rfl rfl ?_
        refine aw_iload_n (pc2 := 40) hk dX6_right_39 rfl rfl ?_
        refine aw_cV (rm2 := rmX1_addRight) (pc2 := 43) hk veX1_addRight dX6_right_40 rfl ml_X6_97 ⟨(Nat.le_of_ble_eq_true rfl), (Nat.le_of_ble_eq_true rfl)⟩ [_, _] rfl rfl (Nat.le_of_ble_eq_true rfl) (Nat.le_of_ble_eq_true rfl) (Nat.le_of_ble_eq_true rfl) (o_X1 k1) (t_addRight k1 k2 k3 k4 hrc hrc4 (fun h9 => ?_) (fun h9 => ?_))
        · exact aw_iret hk dX6_right_43 (Nat.le_of_ble_eq_true rfl) (Nat.le_of_ble_eq_true rfl) (hq4 j rc hj2 hj1 hrc h9 (bi_ya c16) (bi_no c26))
        · exact aw_iret hk dX6_right_43 (Nat.le_of_ble_eq_true rfl) (Nat.le_of_ble_eq_true rfl) (hq5 j rc hj2 hj1 hrc h9 (bi_ya c16) (bi_no c26))
      · refine aw_bipush (v := -103) (pc2 := 31) hk dX6_right_29 rfl (by decide) ?_
        refine aw_iret hk dX6_right_31 (Nat.le_of_ble_eq_true rfl) (Nat.le_of_ble_eq_true rfl) (hq3 (bi_ya c5) (bi_ya c16) (bi_ya c26))
    · refine aw_bipush (v := -102) (pc2 := 21) hk dX6_right_19 rfl (by decide) ?_
      refine aw_iret hk dX6_right_21 (Nat.le_of_ble_eq_true rfl) (Nat.le_of_ble_eq_true rfl) (hq2 (bi_ya c5) (bi_no c16))
  · refine aw_bipush (v := -101) (pc2 := 10) hk dX6_right_8 rfl (by decide) ?_
    refine aw_iret hk dX6_right_10 (Nat.le_of_ble_eq_true rfl) (Nat.le_of_ble_eq_true rfl) (hq1 (bi_no c5))
set_option maxHeartbeats 800000 in
set_option maxRecDepth 100000 in
theorem t_price {n : Nat} {d : D2} {I : M2} {J : J2} {S : M2} {L : J2} {R : R2} {Q : QT} {w g fc oc uc td : Nat} (hB : CB S R w g fc oc uc td) {x y z : Int32} (hpc : ∀ j, j < 4 → ∃ c, c ≤ 20 ∧ S (63 + 3 * j) 0 = nI c) (hq1 : ¬ (0 ≤ x.toInt ∧ x.toInt ≤ 3) → Q (some (.int (-101))) n (H5 d I J S L R)) (hq2 : (0 ≤ x.toInt ∧ x.toInt ≤ 3) → ¬ ((0 ≤ y.toInt ∧ y.toInt ≤ 10000) ∧ rng z 0 100000) → Q (some (.int (-102))) n (H5 d I J S L R)) (hq3 : ∀ j c, x = nI j → j < 4 → S (63 + 3 * j) 0 = nI c → ((0 ≤ y.toInt ∧ y.toInt ≤ 10000) ∧ rng z 0 100000) → fndI (I ((63 + 3 * j) + 1)) y c 0 < c → Q (some (.int (nI c))) n (H5 d (u2 I ((63 + 3 * j) + 2) (fndI (I ((63 + 3 * j) + 1)) y c 0) z) J S L R)) (hq4 : ∀ j c, x = nI j → j < 4 → S (63 + 3 * j) 0 = nI c → ((0 ≤ y.toInt ∧ y.toInt ≤ 10000) ∧ rng z 0 100000) → fndI (I ((63 + 3 * j) + 1)) y c 0 = c → c = 20 → Q (some (.int (-104))) n (H5 d I J S L R)) (hq5 : ∀ j c, x = nI j → j < 4 → S (63 + 3 * j) 0 = nI c → ((0 ≤ y.toInt ∧ y.toInt ≤ 10000) ∧ rng z 0 100000) → fndI (I ((63 + 3 * j) + 1)) y c 0 = c → c < 20 → Q (some (.int (nI (c + 1)))) n (H5 d (u2 (u2 I ((63 + 3 * j) + 1) c y) ((63 + 3 * j) + 2) c z) J (u2 S (63 + 3 * j) 0 (nI (c + 1))) L R)) : Calls yX6_price cX6_price 4 (some .int) rmX6_price [.ref 0, .int x, .int y, .int z] n (H5 d I J S L R) Q := by
  refine Calls.of (by decide) (Nat.le_of_ble_eq_true rfl) ?_
  intro K hk
  show AW K Q 0 0 0 [some (.ref 0), some (.int x), some (.int y), some (.int z)] [] n (H5 d I J S L R)
  obtain ⟨hw, hg, hw1, hw6, hg1, hg6, hfc, hfc2, hoc, hoc6, huc, huc5, htd, htd4, hR13, hR62⟩ := id hB
  refine aw_iload_n (pc2 := 1) hk dX6_price_0 rfl rfl ?_
  refine aw_cS (rm2 := rmX6_isSoil) (pc2 := 4) hk seX6_isSoil dX6_price_1 rfl ml_X6_73 ⟨(Nat.le_of_ble_eq_true rfl), (Nat.le_of_ble_eq_true rfl)⟩ [_] rfl rfl (Nat.le_of_ble_eq_true rfl) (Nat.le_of_ble_eq_true rfl) (Nat.le_of_ble_eq_true rfl) (t_isSoil ?_)
  refine aw_if_ne (tgt := 10) (pc2 := 7) hk dX6_price_4 (by decide) rfl (fun c4 => ?_) (fun c4 => ?_)
  · refine aw_iload_n (pc2 := 11) hk dX6_price_10 rfl rfl ?_
    refine aw_cS (rm2 := rmX6_isDay) (pc2 := 14) hk seX6_isDay dX6_price_11 rfl ml_X6_107 ⟨(Nat.le_of_ble_eq_true rfl), (Nat.le_of_ble_eq_true rfl)⟩ [_] rfl rfl (Nat.le_of_ble_eq_true rfl) (Nat.le_of_ble_eq_true rfl) (Nat.le_of_ble_eq_true rfl) (t_isDay ?_)
    refine aw_if_eq (tgt := 27) (pc2 := 17) hk dX6_price_14 (by decide) rfl (fun c14 => ?_) (fun c14 => ?_)
    · refine aw_bipush (v := -102) (pc2 := 29) hk dX6_price_27 rfl (by decide) ?_
      refine aw_iret hk dX6_price_29 (Nat.le_of_ble_eq_true rfl) (Nat.le_of_ble_eq_true rfl) (hq2 (bi_ya c4) (fun h9 => by first | exact bi_no c14 h9.1 | (unfold rng at h9; simp only [i_lt, i_le, l0, l100000] at *; omega)))
    · refine aw_iload_n (pc2 := 18) hk dX6_price_17 rfl rfl ?_
      refine aw_if_lt (tgt := 27) (pc2 := 21) hk dX6_price_18 (by decide) rfl (fun c18 => ?_) (fun c18 => ?_)
      · refine aw_bipush (v := -102) (pc2 := 29) hk dX6_price_27 rfl (by decide) ?_
        refine aw_iret hk dX6_price_29 (Nat.le_of_ble_eq_true rfl) (Nat.le_of_ble_eq_true rfl) (hq2 (bi_ya c4) (fun h9 => by first | exact bi_no c14 h9.1 | (unfold rng at h9; simp only [i_lt, i_le, l0, l100000] at *; omega)))
      · refine aw_iload_n (pc2 := 22) hk dX6_price_21 rfl rfl ?_
        refine aw_ldc (pc2 := 24) hk dX6_price_22 rfl ki_X6_110 ?_
        refine aw_icmp_le (tgt := 30) (pc2 := 27) hk dX6_price_24 (by decide) rfl (fun c24 => ?_) (fun c24 => ?_)
        · have hin : (0 ≤ y.toInt ∧ y.toInt ≤ 10000) ∧ rng z 0 100000 := ⟨bi_ya c14, by unfold rng; simp only [i_lt, i_le, l0, l100000] at *; omega⟩
          obtain ⟨j, hj1, hj2⟩ := fok_of (fc := 4) (f := x) (by have := bi_ya c4; unfold fok; omega) (by decide)
          obtain ⟨pc0, hpc20, hpc⟩ := hpc j hj1
          obtain ⟨k1, k2, k3⟩ := kdP d hj1
          refine aw_aload_n (pc2 := 31) hk dX6_price_30 rfl rfl ?_
          refine aw_get (pc2 := 34) hk ckX6 4 dX6_price_31 rfl fl_X6_32 (by decide) (o_X6 rfl) rfl ?_
          refine aw_iload_n (pc2 := 35) hk dX6_price_34 rfl rfl ?_
          refine h_aald (pc2 := 36) hk dX6_price_35 rfl (Or.inr (Or.inl rfl)) rfl hj2 hj1 (by decide) (by rw [hR62 j hj1]) ?_
          refine aw_iload_n (pc2 := 37) hk dX6_price_36 rfl rfl ?_
          refine aw_iload_n (pc2 := 38) hk dX6_price_37 rfl rfl ?_
          refine aw_cV (rm2 := rmX4_put) (pc2 := 41) hk veX4_put dX6_price_38 rfl ml_X6_111 ⟨(Nat.le_of_ble_eq_true rfl), (Nat.le_of_ble_eq_true rfl)⟩ [_, _] rfl rfl (Nat.le_of_ble_eq_true rfl) (Nat.le_of_ble_eq_true rfl) (Nat.le_of_ble_eq_true rfl) (o_X4 k1) (t_put k1 k2 k3 hpc hpc20 (fun h9 => ?_) (fun h9 h8 => ?_) (fun h9 h8 => ?_))
          · exact aw_iret hk dX6_price_41 (Nat.le_of_ble_eq_true rfl) (Nat.le_of_ble_eq_true rfl) (hq3 j pc0 hj2 hj1 hpc hin h9)
          · exact aw_iret hk dX6_price_41 (Nat.le_of_ble_eq_true rfl) (Nat.le_of_ble_eq_true rfl) (hq4 j pc0 hj2 hj1 hpc hin h9 h8)
          · exact aw_iret hk dX6_price_41 (Nat.le_of_ble_eq_true rfl) (Nat.le_of_ble_eq_true rfl) (hq5 j pc0 hj2 hj1 hpc hin h9 h8)
        · refine aw_bipush (v := -102) (pc2 := 29) hk dX6_price_27 rfl (by decide) ?_
          refine aw_iret hk dX6_price_29 (Nat.le_of_ble_eq_true rfl) (Nat.le_of_ble_eq_true rfl) (hq2 (bi_ya c4) (fun h9 => by first | exact bi_no c14 h9.1 | (unfold rng at h9; simp only [i_lt, i_le, l0, l100000] at *; omega)))
  · refine aw_bipush (v := -101) (pc2 := 9) hk dX6_price_7 rfl (by decide) ?_
    refine aw_iret hk dX6_price_9 (Nat.le_of_ble_eq_true rfl) (Nat.le_of_ble_eq_true rfl) (hq1 (bi_no c4))
set_option maxHeartbeats 800000 in
set_option maxRecDepth 100000 in
theorem t_costs {n : Nat} {d : D2} {I : M2} {J : J2} {S : M2} {L : J2} {R : R2} {Q : QT} {w g fc oc uc td : Nat} (hB : CB S R w g fc oc uc td) {x y : Int32} (hpc : ∀ j, j < 4 → ∃ c, c ≤ 20 ∧ S (63 + 3 * j) 0 = nI c) (hq1 : ¬ (0 ≤ x.toInt ∧ x.toInt ≤ 3) → Q (some (.int (-101))) n (H5 d I J S L R)) (hq2 : (0 ≤ x.toInt ∧ x.toInt ≤ 3) → ¬ (0 ≤ y.toInt ∧ y.toInt ≤ 10000) → Q (some (.int (-102))) n (H5 d I J S L R)) (hq3 : ∀ j c, x = nI j → j < 4 → S (63 + 3 * j) 0 = nI c → (0 ≤ y.toInt ∧ y.toInt ≤ 10000) → Q (some (.int (onS (I ((63 + 3 * j) + 1)) (I ((63 + 3 * j) + 2)) y c).2)) n (H5 d I J S L R)) : Calls yX6_costs cX6_costs 3 (some .int) rmX6_costs [.ref 0, .int x, .int y] n (H5 d I J S L R) Q := by
  refine Calls.of (by decide) (Nat.le_of_ble_eq_true rfl) ?_
  intro K hk
  show AW K Q 0 0 0 [some (.ref 0), some (.int x), some (.int y)] [] n (H5 d I J S L R)
  obtain ⟨hw, hg, hw1, hw6, hg1, hg6, hfc, hfc2, hoc, hoc6, huc, huc5, htd, htd4, hR13, hR62⟩ := id hB
  refine aw_iload_n (pc2 := 1) hk dX6_costs_0 rfl rfl ?_
  refine aw_cS (rm2 := rmX6_isSoil) (pc2 := 4) hk seX6_isSoil dX6_costs_1 rfl ml_X6_73 ⟨(Nat.le_of_ble_eq_true rfl), (Nat.le_of_ble_eq_true rfl)⟩ [_] rfl rfl (Nat.le_of_ble_eq_true rfl) (Nat.le_of_ble_eq_true rfl) (Nat.le_of_ble_eq_true rfl) (t_isSoil ?_)
  refine aw_if_ne (tgt := 10) (pc2 := 7) hk dX6_costs_4 (by decide) rfl (fun c4 => ?_) (fun c4 => ?_)
  · refine aw_iload_n (pc2 := 11) hk dX6_costs_10 rfl rfl ?_
    refine aw_cS (rm2 := rmX6_isDay) (pc2 := 14) hk seX6_isDay dX6_costs_11 rfl ml_X6_107 ⟨(Nat.le_of_ble_eq_true rfl), (Nat.le_of_ble_eq_true rfl)⟩ [_] rfl rfl (Nat.le_of_ble_eq_true rfl) (Nat.le_of_ble_eq_true rfl) (Nat.le_of_ble_eq_true rfl) (t_isDay ?_)
    refine aw_if_ne (tgt := 20) (pc2 := 17) hk dX6_costs_14 (by decide) rfl (fun c14 => ?_) (fun c14 => ?_)
    · obtain ⟨j, hj1, hj2⟩ := fok_of (fc := 4) (f := x) (by have := bi_ya c4; unfold fok; omega) (by decide)
      obtain ⟨pc0, hpc20, hpc⟩ := hpc j hj1
      obtain ⟨k1, k2, k3⟩ := kdP d hj1
      refine aw_aload_n (pc2 := 21) hk dX6_costs_20 rfl rfl ?_
      refine aw_get (pc2 := 24) hk ckX6 4 dX6_costs_21 rfl fl_X6_32 (by decide) (o_X6 rfl) rfl ?_
      refine aw_iload_n (pc2 := 25) hk dX6_costs_24 rfl rfl ?_
      refine h_aald (pc2 := 26) hk dX6_costs_25 rfl (Or.inr (Or.inl rfl)) rfl hj2 hj1 (by decide) (by rw [hR62 j hj1]) ?_
      refine aw_iload_n (pc2 := 27) hk dX6_costs_26 rfl rfl ?_
      refine aw_cV (rm2 := rmX4_on) (pc2 := 30) hk veX4_on dX6_costs_27 rfl ml_X6_114 ⟨(Nat.le_of_ble_eq_true rfl), (Nat.le_of_ble_eq_true rfl)⟩ [_] rfl rfl (Nat.le_of_ble_eq_true rfl) (Nat.le_of_ble_eq_true rfl) (Nat.le_of_ble_eq_true rfl) (o_X4 k1) (t_on k1 k2 k3 hpc hpc20 ?_)
      refine aw_iret hk dX6_costs_30 (Nat.le_of_ble_eq_true rfl) (Nat.le_of_ble_eq_true rfl) (hq3 j pc0 hj2 hj1 hpc (bi_ya c14))
    · refine aw_bipush (v := -102) (pc2 := 19) hk dX6_costs_17 rfl (by decide) ?_
      refine aw_iret hk dX6_costs_19 (Nat.le_of_ble_eq_true rfl) (Nat.le_of_ble_eq_true rfl) (hq2 (bi_ya c4) (bi_no c14))
  · refine aw_bipush (v := -101) (pc2 := 9) hk dX6_costs_7 rfl (by decide) ?_
    refine aw_iret hk dX6_costs_9 (Nat.le_of_ble_eq_true rfl) (Nat.le_of_ble_eq_true rfl) (hq1 (bi_no c4))
set_option maxHeartbeats 800000 in
set_option maxRecDepth 100000 in
theorem t_rate {n : Nat} {d : D2} {I : M2} {J : J2} {S : M2} {L : J2} {R : R2} {Q : QT} {w g fc oc uc td : Nat} (hB : CB S R w g fc oc uc td) {x y : Int32} (hq1 : ¬ (0 ≤ x.toInt ∧ x.toInt ≤ 4) → Q (some (.int (-101))) n (H5 d I J S L R)) (hq2 : ∀ j, x = nI j → j < 5 → ¬ (0 ≤ y.toInt ∧ y.toInt ≤ (xsR j).toInt) → Q (some (.int (-102))) n (H5 d I J S L R)) (hq3 : ∀ j, x = nI j → j < 5 → (0 ≤ y.toInt ∧ y.toInt ≤ (xsR j).toInt) → Q (some (.int (I 76 j))) n (H5 d (u2 I 76 j y) J S L R)) : Calls yX6_rate cX6_rate 4 (some .int) rmX6_rate [.ref 0, .int x, .int y] n (H5 d I J S L R) Q := by
  refine Calls.of (by decide) (Nat.le_of_ble_eq_true rfl) ?_
  intro K hk
  show AW K Q 0 0 0 [some (.ref 0), some (.int x), some (.int y), none] [] n (H5 d I J S L R)
  obtain ⟨hw, hg, hw1, hw6, hg1, hg6, hfc, hfc2, hoc, hoc6, huc, huc5, htd, htd4, hR13, hR62⟩ := id hB
  refine aw_iload_n (pc2 := 1) hk dX6_rate_0 rfl rfl ?_
  refine aw_if_lt (tgt := 9) (pc2 := 4) hk dX6_rate_1 (by decide) rfl (fun c1 => ?_) (fun c1 => ?_)
  · refine aw_bipush (v := -101) (pc2 := 11) hk dX6_rate_9 rfl (by decide) ?_
    refine aw_iret hk dX6_rate_11 (Nat.le_of_ble_eq_true rfl) (Nat.le_of_ble_eq_true rfl) (hq1 (fun h9 => by simp only [i_lt, i_le, l0, l5] at *; omega))
  · refine aw_iload_n (pc2 := 5) hk dX6_rate_4 rfl rfl ?_
    refine aw_iconst (v := 5) (pc2 := 6) hk dX6_rate_5 rfl (by decide) ?_
    refine aw_icmp_lt (tgt := 12) (pc2 := 9) hk dX6_rate_6 (by decide) rfl (fun c6 => ?_) (fun c6 => ?_)
    · obtain ⟨j, hj1, hj2⟩ := fok_of (fc := 5) (f := x) (by unfold fok; simp only [i_lt, i_le, l0, l5] at *; omega) (by decide)
      subst hj2
      refine aw_iload_n (pc2 := 13) hk dX6_rate_12 rfl rfl ?_
      refine aw_if_lt (tgt := 25) (pc2 := 16) hk dX6_rate_13 (by decide) rfl (fun c13 => ?_) (fun c13 => ?_)
      · refine aw_bipush (v := -102) (pc2 := 27) hk dX6_rate_25 rfl (by decide) ?_
        refine aw_iret hk dX6_rate_27 (Nat.le_of_ble_eq_true rfl) (Nat.le_of_ble_eq_true rfl) (hq2 j rfl hj1 (fun h9 => by simp only [i_lt, i_le, l0] at *; omega))
      · refine aw_iload_n (pc2 := 17) hk dX6_rate_16 rfl rfl ?_
        refine aw_rate (j := j) (pc2 := 22) hk dX6_rate_17 dX6_rate_20 dX6_rate_21 rfl fl_X6_118 rfl hj1 ?_
        refine aw_icmp_le (tgt := 28) (pc2 := 25) hk dX6_rate_22 (by decide) rfl (fun c22 => ?_) (fun c22 => ?_)
        · refine aw_aload_n (pc2 := 29) hk dX6_rate_28 rfl rfl ?_
          refine aw_get (pc2 := 32) hk ckX6 6 dX6_rate_29 rfl fl_X6_41 (by decide) (o_X6 rfl) rfl ?_
          refine aw_iload_n (pc2 := 33) hk dX6_rate_32 rfl rfl ?_
          refine h_iald (pc2 := 34) hk dX6_rate_33 rfl rfl rfl hj1 (by decide) ?_
          refine aw_istore_n (pc2 := 35) hk dX6_rate_34 rfl (by decide) ?_
          show AW K Q _ _ 35 [_, _, _, _] _ _ _
          refine aw_aload_n (pc2 := 36) hk dX6_rate_35 rfl rfl ?_
          refine aw_get (pc2 := 39) hk ckX6 6 dX6_rate_36 rfl fl_X6_41 (by decide) (o_X6 rfl) rfl ?_
          refine aw_iload_n (pc2 := 40) hk dX6_rate_39 rfl rfl ?_
          refine aw_iload_n (pc2 := 41) hk dX6_rate_40 rfl rfl ?_
          refine h_iast (pc2 := 42) hk dX6_rate_41 rfl rfl rfl hj1 (by decide) ?_
          refine aw_iload_n (pc2 := 43) hk dX6_rate_42 rfl rfl ?_
          refine aw_iret hk dX6_rate_43 (Nat.le_of_ble_eq_true rfl) (Nat.le_of_ble_eq_true rfl) (hq3 j rfl hj1 (by simp only [i_lt, i_le, l0] at *; omega))
        · refine aw_bipush (v := -102) (pc2 := 27) hk dX6_rate_25 rfl (by decide) ?_
          refine aw_iret hk dX6_rate_27 (Nat.le_of_ble_eq_true rfl) (Nat.le_of_ble_eq_true rfl) (hq2 j rfl hj1 (fun h9 => by simp only [i_lt, i_le, l0] at *; omega))
    · refine aw_bipush (v := -101) (pc2 := 11) hk dX6_rate_9 rfl (by decide) ?_
      refine aw_iret hk dX6_rate_11 (Nat.le_of_ble_eq_true rfl) (Nat.le_of_ble_eq_true rfl) (hq1 (fun h9 => by simp only [i_lt, i_le, l0, l5] at *; omega))
set_option maxHeartbeats 800000 in
set_option maxRecDepth 100000 in
theorem t_days {n : Nat} {d : D2} {I : M2} {J : J2} {S : M2} {L : J2} {R : R2} {Q : QT} {w g fc oc uc td : Nat} (hB : CB S R w g fc oc uc td) {x : Int32} (hq1 : (∀ j, x = nI j → ¬ ((1 ≤ j ∧ j ≤ 1000) ∧ td + j ≤ 10000)) → Q (some (.int (-102))) n (H5 d I J S L R)) (hq2 : ∀ j, x = nI j → (1 ≤ j ∧ j ≤ 1000) → td + j ≤ 10000 → Q (some (.int (nI (td + j)))) n (H5 d I J (u2 S 0 7 (nI (td + j))) L R)) : Calls yX6_days cX6_days 2 (some .int) rmX6_days [.ref 0, .int x] n (H5 d I J S L R) Q := by
  refine Calls.of (by decide) (Nat.le_of_ble_eq_true rfl) ?_
  intro K hk
  show AW K Q 0 0 0 [some (.ref 0), some (.int x)] [] n (H5 d I J S L R)
  obtain ⟨hw, hg, hw1, hw6, hg1, hg6, hfc, hfc2, hoc, hoc6, huc, huc5, htd, htd4, hR13, hR62⟩ := id hB
  refine aw_iload_n (pc2 := 1) hk dX6_days_0 rfl rfl ?_
  refine aw_iconst (v := 1) (pc2 := 2) hk dX6_days_1 rfl (by decide) ?_
  refine aw_icmp_lt (tgt := 24) (pc2 := 5) hk dX6_days_2 (by decide) rfl (fun c2 => ?_) (fun c2 => ?_)
  · refine aw_bipush (v := -102) (pc2 := 26) hk dX6_days_24 rfl (by decide) ?_
    refine aw_iret hk dX6_days_26 (Nat.le_of_ble_eq_true rfl) (Nat.le_of_ble_eq_true rfl) (by first | exact hq1 (fun j h9 h8 => by subst h9; simp only [i_lt, i_le, l1, l1000, nI_toInt (show j < 2 ^ 31 by omega)] at *; omega) | exact hq1 (fun j2 h9 h8 => by have e8 : j = j2 := (nI_eq (by omega) (by omega)).mp h9; omega))
  · refine aw_iload_n (pc2 := 6) hk dX6_days_5 rfl rfl ?_
    refine aw_sipush (v := 1000) (pc2 := 9) hk dX6_days_6 rfl (by decide) ?_
    refine aw_icmp_gt (tgt := 24) (pc2 := 12) hk dX6_days_9 (by decide) rfl (fun c9 => ?_) (fun c9 => ?_)
    · refine aw_bipush (v := -102) (pc2 := 26) hk dX6_days_24 rfl (by decide) ?_
      refine aw_iret hk dX6_days_26 (Nat.le_of_ble_eq_true rfl) (Nat.le_of_ble_eq_true rfl) (by first | exact hq1 (fun j h9 h8 => by subst h9; simp only [i_lt, i_le, l1, l1000, nI_toInt (show j < 2 ^ 31 by omega)] at *; omega) | exact hq1 (fun j2 h9 h8 => by have e8 : j = j2 := (nI_eq (by omega) (by omega)).mp h9; omega))
    · have hr : 1 ≤ x.toInt ∧ x.toInt ≤ 1000 := by simp only [i_lt, i_le, l1, l1000] at *; omega
      obtain ⟨j, hj1, hj2⟩ : ∃ j, (1 ≤ j ∧ j ≤ 1000) ∧ x = nI j := ⟨x.toInt.toNat, by omega, i_eq (by omega)⟩
      subst hj2
      refine aw_aload_n (pc2 := 13) hk dX6_days_12 rfl rfl ?_
      refine aw_get (pc2 := 16) hk ckX6 7 dX6_days_13 rfl fl_X6_121 (by decide) (o_X6 rfl) rfl ?_
      refine aw_iload_n (pc2 := 17) hk dX6_days_16 rfl rfl ?_
      refine aw_iadd (pc2 := 18) hk dX6_days_17 rfl ?_
      refine aw_top (nI (td + j)) (by rw [htd]; exact nI_add _ _) ?_
      refine aw_sipush (v := 10000) (pc2 := 21) hk dX6_days_18 rfl (by decide) ?_
      refine aw_icN_le (x := td + j) (y := 10000) (tgt := 27) (pc2 := 24) hk dX6_days_21 (by decide) rfl rfl rfl (by omega) (by omega) (fun c21 => ?_) (fun c21 => ?_)
      · refine aw_aload_n (pc2 := 28) hk dX6_days_27 rfl rfl ?_
        refine aw_dup_r (pc2 := 29) hk dX6_days_28 rfl ?_
        refine aw_get (pc2 := 32) hk ckX6 7 dX6_days_29 rfl fl_X6_121 (by decide) (o_X6 rfl) rfl ?_
        refine aw_iload_n (pc2 := 33) hk dX6_days_32 rfl rfl ?_
        refine aw_iadd (pc2 := 34) hk dX6_days_33 rfl ?_
        refine aw_top (nI (td + j)) (by rw [htd]; exact nI_add _ _) ?_
        refine aw_put (pc2 := 37) hk ckX6 7 dX6_days_34 rfl fl_X6_121 (by decide) rfl (o_X6 rfl) (fun _ => rfl) (fun _ => rfl) (Nat.le_of_ble_eq_true rfl) ?_
        rw [p_X6_7 rfl]
        refine aw_aload_n (pc2 := 38) hk dX6_days_37 rfl rfl ?_
        refine aw_get (pc2 := 41) hk ckX6 7 dX6_days_38 rfl fl_X6_121 (by decide) (o_X6 rfl) rfl ?_
        refine aw_top (nI (td + j)) (u2_s _ _ _ _) ?_
        refine aw_iret hk dX6_days_41 (Nat.le_of_ble_eq_true rfl) (Nat.le_of_ble_eq_true rfl) (hq2 j rfl hj1 c21)
      · refine aw_bipush (v := -102) (pc2 := 26) hk dX6_days_24 rfl (by decide) ?_
        refine aw_iret hk dX6_days_26 (Nat.le_of_ble_eq_true rfl) (Nat.le_of_ble_eq_true rfl) (by first | exact hq1 (fun j h9 h8 => by subst h9; simp only [i_lt, i_le, l1, l1000, nI_toInt (show j < 2 ^ 31 by omega)] at *; omega) | exact hq1 (fun j2 h9 h8 => by have e8 : j = j2 := (nI_eq (by omega) (by omega)).mp h9; omega))
