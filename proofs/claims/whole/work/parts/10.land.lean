def kpt (I : M2) (p : Nat) (f : Int32) : Bool := I 2 p == f && I 6 p == -1
def inl (I : M2) (p : Nat) (f : Int32) : Bool := I 5 p != 0 && I 2 p == f
def opl (I : M2) (p : Nat) : Bool := I 4 p != 0 && I 6 p == -1
def tkn (I : M2) (p : Nat) : Bool := I 6 p != -1
def ksd (I : M2) (w g p : Nat) (f : Int32) (s : Nat) : Bool := match nbC w g p s with
  | some q => kpt I q f
  | none => false
/-- the price of a cell by a row of prices a -/
def prI (I : M2) (a p : Nat) : Int32 := I a (I 3 p).toNatClampNeg
set_option maxHeartbeats 800000 in
set_option maxRecDepth 100000 in
theorem t_at {n : Nat} {d : D2} {I : M2} {J : J2} {S : M2} {L : J2} {R : R2} {Q : QT} {x y : Int32} {w g : Nat} (hw : S 1 0 = nI w) (hg : S 1 1 = nI g) (hw6 : w ≤ 16) (hg6 : g ≤ 16) (hq : Q (some (.int (opI (plc w g x y)))) n (H5 d I J S L R)) : Calls yX2_at cX2_at 4 (some .int) rmX2_at [.ref 1, .int x, .int y] n (H5 d I J S L R) Q := by
  refine Calls.of (by decide) (Nat.le_of_ble_eq_true rfl) ?_
  intro K hk
  show AW K Q 0 0 0 [some (.ref 1), some (.int x), some (.int y), none] [] n (H5 d I J S L R)
  have hN : ¬ (0 ≤ x.toInt ∧ x.toInt < w ∧ 0 ≤ y.toInt ∧ y.toInt < g) → AW K Q 0 0 40 [some (.ref 1), some (.int x), some (.int y), none] [] n (H5 d I J S L R) := by
    intro hno
    refine aw_iconst (v := 0) (pc2 := 41) hk dX2_at_40 rfl (by decide) ?_
    refine aw_istore_n (pc2 := 42) hk dX2_at_41 rfl (by decide) ?_
    show AW K Q _ _ 42 [_, _, _, _] _ _ _
    refine aw_iload_n (pc2 := 43) hk dX2_at_42 rfl rfl ?_
    refine aw_if_eq (tgt := 55) (pc2 := 46) hk dX2_at_43 (by decide) rfl (fun c43 => ?_) (fun c43 => absurd rfl c43)
    refine aw_iconst (v := -1) (pc2 := 56) hk dX2_at_55 rfl (by decide) ?_
    refine aw_iret hk dX2_at_56 (Nat.le_of_ble_eq_true rfl) (Nat.le_of_ble_eq_true rfl) (by unfold plc at hq; rw [if_neg hno] at hq; exact hq)
  refine aw_iload_n (pc2 := 1) hk dX2_at_0 rfl rfl ?_
  refine aw_if_lt (tgt := 40) (pc2 := 4) hk dX2_at_1 (by decide) rfl (fun c1 => ?_) (fun c1 => ?_)
  · exact hN (by simp only [i_lt, i_le, l0, l16, hw, hg, nI_toInt (show w < 2 ^ 31 by omega), nI_toInt (show g < 2 ^ 31 by omega)] at *; omega)
  · refine aw_iload_n (pc2 := 5) hk dX2_at_4 rfl rfl ?_
    refine aw_aload_n (pc2 := 6) hk dX2_at_5 rfl rfl ?_
    refine aw_get (pc2 := 9) hk ckX2 0 dX2_at_6 rfl fl_X2_28 (by decide) (o_X2 rfl) rfl ?_
    refine aw_icmp_ge (tgt := 40) (pc2 := 12) hk dX2_at_9 (by decide) rfl (fun c9 => ?_) (fun c9 => ?_)
    · exact hN (by simp only [i_lt, i_le, l0, l16, hw, hg, nI_toInt (show w < 2 ^ 31 by omega), nI_toInt (show g < 2 ^ 31 by omega)] at *; omega)
    · refine aw_iload_n (pc2 := 13) hk dX2_at_12 rfl rfl ?_
      refine aw_bipush (v := 16) (pc2 := 15) hk dX2_at_13 rfl (by decide) ?_
      refine aw_icmp_ge (tgt := 40) (pc2 := 18) hk dX2_at_15 (by decide) rfl (fun c15 => absurd c15 (by simp only [i_lt, i_le, l0, l16, hw, hg, nI_toInt (show w < 2 ^ 31 by omega), nI_toInt (show g < 2 ^ 31 by omega)] at *; omega)) (fun c15 => ?_)
      refine aw_iload_n (pc2 := 19) hk dX2_at_18 rfl rfl ?_
      refine aw_if_lt (tgt := 40) (pc2 := 22) hk dX2_at_19 (by decide) rfl (fun c19 => ?_) (fun c19 => ?_)
      · exact hN (by simp only [i_lt, i_le, l0, l16, hw, hg, nI_toInt (show w < 2 ^ 31 by omega), nI_toInt (show g < 2 ^ 31 by omega)] at *; omega)
      · refine aw_iload_n (pc2 := 23) hk dX2_at_22 rfl rfl ?_
        refine aw_aload_n (pc2 := 24) hk dX2_at_23 rfl rfl ?_
        refine aw_get (pc2 := 27) hk ckX2 1 dX2_at_24 rfl fl_X2_32 (by decide) (o_X2 rfl) rfl ?_
        refine aw_icmp_ge (tgt := 40) (pc2 := 30) hk dX2_at_27 (by decide) rfl (fun c27 => ?_) (fun c27 => ?_)
        · exact hN (by simp only [i_lt, i_le, l0, l16, hw, hg, nI_toInt (show w < 2 ^ 31 by omega), nI_toInt (show g < 2 ^ 31 by omega)] at *; omega)
        · refine aw_iload_n (pc2 := 31) hk dX2_at_30 rfl rfl ?_
          refine aw_bipush (v := 16) (pc2 := 33) hk dX2_at_31 rfl (by decide) ?_
          refine aw_icmp_ge (tgt := 40) (pc2 := 36) hk dX2_at_33 (by decide) rfl (fun c33 => absurd c33 (by simp only [i_lt, i_le, l0, l16, hw, hg, nI_toInt (show w < 2 ^ 31 by omega), nI_toInt (show g < 2 ^ 31 by omega)] at *; omega)) (fun c33 => ?_)
          refine aw_iconst (v := 1) (pc2 := 37) hk dX2_at_36 rfl (by decide) ?_
          refine aw_goto (tgt := 41) hk dX2_at_37 (by decide) ?_
          refine aw_istore_n (pc2 := 42) hk dX2_at_41 rfl (by decide) ?_
          show AW K Q _ _ 42 [_, _, _, _] _ _ _
          refine aw_iload_n (pc2 := 43) hk dX2_at_42 rfl rfl ?_
          refine aw_if_eq (tgt := 55) (pc2 := 46) hk dX2_at_43 (by decide) rfl (fun c43 => absurd c43 (by decide)) (fun c43 => ?_)
          refine aw_iload_n (pc2 := 47) hk dX2_at_46 rfl rfl ?_
          refine aw_bipush (v := 16) (pc2 := 49) hk dX2_at_47 rfl (by decide) ?_
          refine aw_imul (pc2 := 50) hk dX2_at_49 rfl ?_
          refine aw_iload_n (pc2 := 51) hk dX2_at_50 rfl rfl ?_
          refine aw_iadd (pc2 := 52) hk dX2_at_51 rfl ?_
          refine aw_goto (tgt := 56) hk dX2_at_52 (by decide) ?_
          have hin : 0 ≤ x.toInt ∧ x.toInt < w ∧ 0 ≤ y.toInt ∧ y.toInt < g := (by simp only [i_lt, i_le, l0, l16, hw, hg, nI_toInt (show w < 2 ^ 31 by omega), nI_toInt (show g < 2 ^ 31 by omega)] at *; omega)
          have ex : x = nI x.toInt.toNat := i_eq (by omega)
          have ey : y = nI y.toInt.toNat := i_eq (by omega)
          refine aw_top (nI (16 * y.toInt.toNat + x.toInt.toNat)) (by
            have e : y * 16 + x = nI y.toInt.toNat * nI 16 + nI x.toInt.toNat := by rw [← ex, ← ey]; rfl
            rw [e, pk_mul, nI_add, Nat.mul_comm]) ?_
          refine aw_iret hk dX2_at_56 (Nat.le_of_ble_eq_true rfl) (Nat.le_of_ble_eq_true rfl) (by unfold plc at hq; rw [if_pos hin] at hq; exact hq)
set_option maxHeartbeats 800000 in
set_option maxRecDepth 100000 in
theorem t_beside {n : Nat} {d : D2} {I : M2} {J : J2} {S : M2} {L : J2} {R : R2} {Q : QT} {p s : Nat} {w g : Nat} (hw : S 1 0 = nI w) (hg : S 1 1 = nI g) (hw6 : w ≤ 16) (hg6 : g ≤ 16) (hp : p < 256) (hs : s < 4) (hq : Q (some (.int (opI (nbC w g p s)))) n (H5 d I J S L R)) : Calls yX2_beside cX2_beside 3 (some .int) rmX2_beside [.ref 1, .int (nI p), .int (nI s)] n (H5 d I J S L R) Q := by
  refine Calls.of (by decide) (Nat.le_of_ble_eq_true rfl) ?_
  intro K hk
  show AW K Q 0 0 0 [some (.ref 1), some (.int (nI p)), some (.int (nI s))] [] n (H5 d I J S L R)
  refine aw_aload_n (pc2 := 1) hk dX2_beside_0 rfl rfl ?_
  refine aw_iload_n (pc2 := 2) hk dX2_beside_1 rfl rfl ?_
  refine aw_bipush (v := 16) (pc2 := 4) hk dX2_beside_2 rfl (by decide) ?_
  refine aw_irem (pc2 := 5) hk dX2_beside_4 rfl (by decide) ?_
  refine aw_top (nI (p % 16)) (i_rem16 (by omega)) ?_
  refine aw_stx (pc2 := 10) hk dX2_beside_5 dX2_beside_8 dX2_beside_9 rfl fn_X2_35 rfl hs ?_
  refine aw_iadd (pc2 := 11) hk dX2_beside_10 rfl ?_
  refine aw_iload_n (pc2 := 12) hk dX2_beside_11 rfl rfl ?_
  refine aw_bipush (v := 16) (pc2 := 14) hk dX2_beside_12 rfl (by decide) ?_
  refine aw_idiv (pc2 := 15) hk dX2_beside_14 rfl (by decide) ?_
  refine aw_top (nI (p / 16)) (i_div16 (by omega)) ?_
  refine aw_sty (pc2 := 20) hk dX2_beside_15 dX2_beside_18 dX2_beside_19 rfl fn_X2_38 rfl hs ?_
  refine aw_iadd (pc2 := 21) hk dX2_beside_20 rfl ?_
  refine aw_cV (rm2 := rmX2_at) (pc2 := 24) hk veX2_at dX2_beside_21 rfl ml_X2_41 ⟨(Nat.le_of_ble_eq_true rfl), (Nat.le_of_ble_eq_true rfl)⟩ [_, _] rfl rfl (Nat.le_of_ble_eq_true rfl) (Nat.le_of_ble_eq_true rfl) (Nat.le_of_ble_eq_true rfl) (o_X2 rfl) (t_at hw hg hw6 hg6 ?_)
  refine aw_iret hk dX2_beside_24 (Nat.le_of_ble_eq_true rfl) (Nat.le_of_ble_eq_true rfl) hq
set_option maxHeartbeats 800000 in
set_option maxRecDepth 100000 in
theorem t_isTaken {n : Nat} {d : D2} {I : M2} {J : J2} {S : M2} {L : J2} {R : R2} {Q : QT} {p : Nat} {x : Int32} (hx : x = nI p) (hp : p < 256) (hq : Q (some (.int (bi (tkn I p)))) n (H5 d I J S L R)) : Calls yX2_isTaken cX2_isTaken 2 (some .boolean) rmX2_isTaken [.ref 1, .int x] n (H5 d I J S L R) Q := by
  refine Calls.of (by decide) (Nat.le_of_ble_eq_true rfl) ?_
  intro K hk
  show AW K Q 0 0 0 [some (.ref 1), some (.int x)] [] n (H5 d I J S L R)
  refine aw_aload_n (pc2 := 1) hk dX2_isTaken_0 rfl rfl ?_
  refine aw_get (v := .ref 6) (pc2 := 4) hk ckX2 6 dX2_isTaken_1 rfl fl_X2_25 (by decide) (o_X2 rfl) rfl ?_
  refine aw_iload_n (pc2 := 5) hk dX2_isTaken_4 rfl rfl ?_
  refine h_iald (pc2 := 6) hk dX2_isTaken_5 rfl rfl hx hp (by decide) ?_
  refine aw_iconst (v := -1) (pc2 := 7) hk dX2_isTaken_6 rfl (by decide) ?_
  refine aw_icmp_eq (tgt := 14) (pc2 := 10) hk dX2_isTaken_7 (by decide) rfl (fun c7 => ?_) (fun c7 => ?_)
  · refine aw_iconst (v := 0) (pc2 := 15) hk dX2_isTaken_14 rfl (by decide) ?_
    refine aw_zret (by first | exact Or.inl rfl | exact Or.inr rfl) hk dX2_isTaken_15 (Nat.le_of_ble_eq_true rfl) (Nat.le_of_ble_eq_true rfl) (by first | (simpa [tkn, bi, c7] using hq))
  · refine aw_iconst (v := 1) (pc2 := 11) hk dX2_isTaken_10 rfl (by decide) ?_
    refine aw_goto (tgt := 15) hk dX2_isTaken_11 (by decide) ?_
    refine aw_zret (by first | exact Or.inl rfl | exact Or.inr rfl) hk dX2_isTaken_15 (Nat.le_of_ble_eq_true rfl) (Nat.le_of_ble_eq_true rfl) (by first | (simpa [tkn, bi, c7] using hq))
set_option maxHeartbeats 800000 in
set_option maxRecDepth 100000 in
theorem t_isKept {n : Nat} {d : D2} {I : M2} {J : J2} {S : M2} {L : J2} {R : R2} {Q : QT} {p : Nat} {x : Int32} {f : Int32} (hx : x = nI p) (hp : p < 256) (hq : Q (some (.int (bi (kpt I p f)))) n (H5 d I J S L R)) : Calls yX2_isKept cX2_isKept 3 (some .boolean) rmX2_isKept [.ref 1, .int x, .int f] n (H5 d I J S L R) Q := by
  refine Calls.of (by decide) (Nat.le_of_ble_eq_true rfl) ?_
  intro K hk
  show AW K Q 0 0 0 [some (.ref 1), some (.int x), some (.int f)] [] n (H5 d I J S L R)
  refine aw_aload_n (pc2 := 1) hk dX2_isKept_0 rfl rfl ?_
  refine aw_get (v := .ref 2) (pc2 := 4) hk ckX2 2 dX2_isKept_1 rfl fl_X2_9 (by decide) (o_X2 rfl) rfl ?_
  refine aw_iload_n (pc2 := 5) hk dX2_isKept_4 rfl rfl ?_
  refine h_iald (pc2 := 6) hk dX2_isKept_5 rfl rfl hx hp (by decide) ?_
  refine aw_iload_n (pc2 := 7) hk dX2_isKept_6 rfl rfl ?_
  refine aw_icmp_ne (tgt := 24) (pc2 := 10) hk dX2_isKept_7 (by decide) rfl (fun c7 => ?_) (fun c7 => ?_)
  · refine aw_iconst (v := 0) (pc2 := 25) hk dX2_isKept_24 rfl (by decide) ?_
    refine aw_zret (by first | exact Or.inl rfl | exact Or.inr rfl) hk dX2_isKept_25 (Nat.le_of_ble_eq_true rfl) (Nat.le_of_ble_eq_true rfl) (by first | (simpa [kpt, bi, *] using hq))
  · refine aw_aload_n (pc2 := 11) hk dX2_isKept_10 rfl rfl ?_
    refine aw_get (v := .ref 6) (pc2 := 14) hk ckX2 6 dX2_isKept_11 rfl fl_X2_25 (by decide) (o_X2 rfl) rfl ?_
    refine aw_iload_n (pc2 := 15) hk dX2_isKept_14 rfl rfl ?_
    refine h_iald (pc2 := 16) hk dX2_isKept_15 rfl rfl hx hp (by decide) ?_
    refine aw_iconst (v := -1) (pc2 := 17) hk dX2_isKept_16 rfl (by decide) ?_
    refine aw_icmp_ne (tgt := 24) (pc2 := 20) hk dX2_isKept_17 (by decide) rfl (fun c17 => ?_) (fun c17 => ?_)
    · refine aw_iconst (v := 0) (pc2 := 25) hk dX2_isKept_24 rfl (by decide) ?_
      refine aw_zret (by first | exact Or.inl rfl | exact Or.inr rfl) hk dX2_isKept_25 (Nat.le_of_ble_eq_true rfl) (Nat.le_of_ble_eq_true rfl) (by first | (simpa [kpt, bi, *] using hq))
    · refine aw_iconst (v := 1) (pc2 := 21) hk dX2_isKept_20 rfl (by decide) ?_
      refine aw_goto (tgt := 25) hk dX2_isKept_21 (by decide) ?_
      refine aw_zret (by first | exact Or.inl rfl | exact Or.inr rfl) hk dX2_isKept_25 (Nat.le_of_ble_eq_true rfl) (Nat.le_of_ble_eq_true rfl) (by first | (simpa [kpt, bi, *] using hq))
set_option maxHeartbeats 800000 in
set_option maxRecDepth 100000 in
theorem t_isInLineOf {n : Nat} {d : D2} {I : M2} {J : J2} {S : M2} {L : J2} {R : R2} {Q : QT} {p : Nat} {x : Int32} {f : Int32} (hx : x = nI p) (hp : p < 256) (hq : Q (some (.int (bi (inl I p f)))) n (H5 d I J S L R)) : Calls yX2_isInLineOf cX2_isInLineOf 3 (some .boolean) rmX2_isInLineOf [.ref 1, .int x, .int f] n (H5 d I J S L R) Q := by
  refine Calls.of (by decide) (Nat.le_of_ble_eq_true rfl) ?_
  intro K hk
  show AW K Q 0 0 0 [some (.ref 1), some (.int x), some (.int f)] [] n (H5 d I J S L R)
  refine aw_aload_n (pc2 := 1) hk dX2_isInLineOf_0 rfl rfl ?_
  refine aw_get (v := .ref 5) (pc2 := 4) hk ckX2 5 dX2_isInLineOf_1 rfl fl_X2_22 (by decide) (o_X2 rfl) rfl ?_
  refine aw_iload_n (pc2 := 5) hk dX2_isInLineOf_4 rfl rfl ?_
  refine h_zald (pc2 := 6) hk dX2_isInLineOf_5 rfl rfl hx hp (by decide) ?_
  refine aw_if_eq (tgt := 23) (pc2 := 9) hk dX2_isInLineOf_6 (by decide) rfl (fun c6 => ?_) (fun c6 => ?_)
  · refine aw_iconst (v := 0) (pc2 := 24) hk dX2_isInLineOf_23 rfl (by decide) ?_
    refine aw_zret (by first | exact Or.inl rfl | exact Or.inr rfl) hk dX2_isInLineOf_24 (Nat.le_of_ble_eq_true rfl) (Nat.le_of_ble_eq_true rfl) (by first | (simpa [inl, bi, *] using hq))
  · refine aw_aload_n (pc2 := 10) hk dX2_isInLineOf_9 rfl rfl ?_
    refine aw_get (v := .ref 2) (pc2 := 13) hk ckX2 2 dX2_isInLineOf_10 rfl fl_X2_9 (by decide) (o_X2 rfl) rfl ?_
    refine aw_iload_n (pc2 := 14) hk dX2_isInLineOf_13 rfl rfl ?_
    refine h_iald (pc2 := 15) hk dX2_isInLineOf_14 rfl rfl hx hp (by decide) ?_
    refine aw_iload_n (pc2 := 16) hk dX2_isInLineOf_15 rfl rfl ?_
    refine aw_icmp_ne (tgt := 23) (pc2 := 19) hk dX2_isInLineOf_16 (by decide) rfl (fun c16 => ?_) (fun c16 => ?_)
    · refine aw_iconst (v := 0) (pc2 := 24) hk dX2_isInLineOf_23 rfl (by decide) ?_
      refine aw_zret (by first | exact Or.inl rfl | exact Or.inr rfl) hk dX2_isInLineOf_24 (Nat.le_of_ble_eq_true rfl) (Nat.le_of_ble_eq_true rfl) (by first | (simpa [inl, bi, *] using hq))
    · refine aw_iconst (v := 1) (pc2 := 20) hk dX2_isInLineOf_19 rfl (by decide) ?_
      refine aw_goto (tgt := 24) hk dX2_isInLineOf_20 (by decide) ?_
      refine aw_zret (by first | exact Or.inl rfl | exact Or.inr rfl) hk dX2_isInLineOf_24 (Nat.le_of_ble_eq_true rfl) (Nat.le_of_ble_eq_true rfl) (by first | (simpa [inl, bi, *] using hq))
set_option maxHeartbeats 800000 in
set_option maxRecDepth 100000 in
theorem t_isOpenLane {n : Nat} {d : D2} {I : M2} {J : J2} {S : M2} {L : J2} {R : R2} {Q : QT} {p : Nat} {x : Int32} (hx : x = nI p) (hp : p < 256) (hq : Q (some (.int (bi (opl I p)))) n (H5 d I J S L R)) : Calls yX2_isOpenLane cX2_isOpenLane 2 (some .boolean) rmX2_isOpenLane [.ref 1, .int x] n (H5 d I J S L R) Q := by
  refine Calls.of (by decide) (Nat.le_of_ble_eq_true rfl) ?_
  intro K hk
  show AW K Q 0 0 0 [some (.ref 1), some (.int x)] [] n (H5 d I J S L R)
  refine aw_aload_n (pc2 := 1) hk dX2_isOpenLane_0 rfl rfl ?_
  refine aw_get (v := .ref 4) (pc2 := 4) hk ckX2 4 dX2_isOpenLane_1 rfl fl_X2_18 (by decide) (o_X2 rfl) rfl ?_
  refine aw_iload_n (pc2 := 5) hk dX2_isOpenLane_4 rfl rfl ?_
  refine h_zald (pc2 := 6) hk dX2_isOpenLane_5 rfl rfl hx hp (by decide) ?_
  refine aw_if_eq (tgt := 23) (pc2 := 9) hk dX2_isOpenLane_6 (by decide) rfl (fun c6 => ?_) (fun c6 => ?_)
  · refine aw_iconst (v := 0) (pc2 := 24) hk dX2_isOpenLane_23 rfl (by decide) ?_
    refine aw_zret (by first | exact Or.inl rfl | exact Or.inr rfl) hk dX2_isOpenLane_24 (Nat.le_of_ble_eq_true rfl) (Nat.le_of_ble_eq_true rfl) (by first | (simpa [opl, bi, *] using hq))
  · refine aw_aload_n (pc2 := 10) hk dX2_isOpenLane_9 rfl rfl ?_
    refine aw_get (v := .ref 6) (pc2 := 13) hk ckX2 6 dX2_isOpenLane_10 rfl fl_X2_25 (by decide) (o_X2 rfl) rfl ?_
    refine aw_iload_n (pc2 := 14) hk dX2_isOpenLane_13 rfl rfl ?_
    refine h_iald (pc2 := 15) hk dX2_isOpenLane_14 rfl rfl hx hp (by decide) ?_
    refine aw_iconst (v := -1) (pc2 := 16) hk dX2_isOpenLane_15 rfl (by decide) ?_
    refine aw_icmp_ne (tgt := 23) (pc2 := 19) hk dX2_isOpenLane_16 (by decide) rfl (fun c16 => ?_) (fun c16 => ?_)
    · refine aw_iconst (v := 0) (pc2 := 24) hk dX2_isOpenLane_23 rfl (by decide) ?_
      refine aw_zret (by first | exact Or.inl rfl | exact Or.inr rfl) hk dX2_isOpenLane_24 (Nat.le_of_ble_eq_true rfl) (Nat.le_of_ble_eq_true rfl) (by first | (simpa [opl, bi, *] using hq))
    · refine aw_iconst (v := 1) (pc2 := 20) hk dX2_isOpenLane_19 rfl (by decide) ?_
      refine aw_goto (tgt := 24) hk dX2_isOpenLane_20 (by decide) ?_
      refine aw_zret (by first | exact Or.inl rfl | exact Or.inr rfl) hk dX2_isOpenLane_24 (Nat.le_of_ble_eq_true rfl) (Nat.le_of_ble_eq_true rfl) (by first | (simpa [opl, bi, *] using hq))
set_option maxHeartbeats 800000 in
set_option maxRecDepth 100000 in
theorem t_cellsInLine {n : Nat} {d : D2} {I : M2} {J : J2} {S : M2} {L : J2} {R : R2} {Q : QT} {f : Int32} (hq : Q (some (.int (sI (fun c => bi (inl I c f)) 256))) n (H5 d I J S L R)) : Calls yX2_cellsInLine cX2_cellsInLine 4 (some .int) rmX2_cellsInLine [.ref 1, .int f] n (H5 d I J S L R) Q := by
  refine Calls.of (by decide) (Nat.le_of_ble_eq_true rfl) ?_
  intro K hk
  show AW K Q 0 0 0 [some (.ref 1), some (.int f), none, none] [] n (H5 d I J S L R)
  have loop : ∀ (k i : Nat), i ≤ 256 → 256 + 1 ≤ i + k → AW K Q 0 0 4 [some (.ref 1), some (.int f), some (.int (sI (fun c => bi (inl I c f)) i)), some (.int (nI i))] [] n (H5 d I J S L R) := by
    intro k
    induction k with
    | zero => intro i  hi hn; omega
    | succ k ih =>
      intro i  hi hn
      refine aw_iload_n (pc2 := 5) hk dX2_cellsInLine_4 rfl rfl ?_
      refine aw_sipush (v := 256) (pc2 := 8) hk dX2_cellsInLine_5 rfl (by decide) ?_
      refine aw_icN_ge (y := 256) (tgt := 34) (pc2 := 11) hk dX2_cellsInLine_8 (by decide) rfl rfl rfl (by omega) (by omega) (fun c8 => ?_) (fun c8 => ?_)
      · obtain rfl : i = 256 := by omega
        refine aw_iload_n (pc2 := 35) hk dX2_cellsInLine_34 rfl rfl ?_
        refine aw_iret hk dX2_cellsInLine_35 (Nat.le_of_ble_eq_true rfl) (Nat.le_of_ble_eq_true rfl) hq
      · refine aw_iload_n (pc2 := 12) hk dX2_cellsInLine_11 rfl rfl ?_
        refine aw_aload_n (pc2 := 13) hk dX2_cellsInLine_12 rfl rfl ?_
        refine aw_iload_n (pc2 := 14) hk dX2_cellsInLine_13 rfl rfl ?_
        refine aw_iload_n (pc2 := 15) hk dX2_cellsInLine_14 rfl rfl ?_
        refine aw_cV (rm2 := rmX2_isInLineOf) (pc2 := 18) hk veX2_isInLineOf dX2_cellsInLine_15 rfl ml_X2_45 ⟨(Nat.le_of_ble_eq_true rfl), (Nat.le_of_ble_eq_true rfl)⟩ [_, _] rfl rfl (Nat.le_of_ble_eq_true rfl) (Nat.le_of_ble_eq_true rfl) (Nat.le_of_ble_eq_true rfl) (o_X2 rfl) (t_isInLineOf rfl (by omega) ?_)
        refine aw_if_eq (tgt := 25) (pc2 := 21) hk dX2_cellsInLine_18 (by decide) rfl (fun c18 => ?_) (fun c18 => ?_)
        · refine aw_iconst (v := 0) (pc2 := 26) hk dX2_cellsInLine_25 rfl (by decide) ?_
          refine aw_iadd (pc2 := 27) hk dX2_cellsInLine_26 rfl ?_
          refine aw_top (sI (fun c => bi (inl I c f)) (i + 1)) (show _ + _ = _ + bi _ by first | rw [bi_t c18] | rw [c18]) ?_
          refine aw_istore_n (pc2 := 28) hk dX2_cellsInLine_27 rfl (by decide) ?_
          show AW K Q _ _ 28 [_, _, _, _] _ _ _
          refine aw_iinc1 (pc2 := 31) hk dX2_cellsInLine_28 rfl rfl (by decide) ?_
          show AW K Q _ _ 31 [_, _, _, _] _ _ _
          refine aw_goto (tgt := 4) hk dX2_cellsInLine_31 (by decide) ?_
          exact ih (i + 1) (by omega) (by omega)
        · refine aw_iconst (v := 1) (pc2 := 22) hk dX2_cellsInLine_21 rfl (by decide) ?_
          refine aw_goto (tgt := 26) hk dX2_cellsInLine_22 (by decide) ?_
          refine aw_iadd (pc2 := 27) hk dX2_cellsInLine_26 rfl ?_
          refine aw_top (sI (fun c => bi (inl I c f)) (i + 1)) (show _ + _ = _ + bi _ by first | rw [bi_t c18] | rw [c18]) ?_
          refine aw_istore_n (pc2 := 28) hk dX2_cellsInLine_27 rfl (by decide) ?_
          show AW K Q _ _ 28 [_, _, _, _] _ _ _
          refine aw_iinc1 (pc2 := 31) hk dX2_cellsInLine_28 rfl rfl (by decide) ?_
          show AW K Q _ _ 31 [_, _, _, _] _ _ _
          refine aw_goto (tgt := 4) hk dX2_cellsInLine_31 (by decide) ?_
          exact ih (i + 1) (by omega) (by omega)
  refine aw_iconst (v := 0) (pc2 := 1) hk dX2_cellsInLine_0 rfl (by decide) ?_
  refine aw_istore_n (pc2 := 2) hk dX2_cellsInLine_1 rfl (by decide) ?_
  show AW K Q _ _ 2 [_, _, _, _] _ _ _
  refine aw_iconst (v := 0) (pc2 := 3) hk dX2_cellsInLine_2 rfl (by decide) ?_
  refine aw_istore_n (pc2 := 4) hk dX2_cellsInLine_3 rfl (by decide) ?_
  show AW K Q _ _ 4 [_, _, _, _] _ _ _
  exact loop 257 0 (by omega) (by omega)
set_option maxHeartbeats 800000 in
set_option maxRecDepth 100000 in
theorem t_cellsChosen {n : Nat} {d : D2} {I : M2} {J : J2} {S : M2} {L : J2} {R : R2} {Q : QT} (hq : Q (some (.int (sI (fun c => bi (I 5 c != 0)) 256))) n (H5 d I J S L R)) : Calls yX2_cellsChosen cX2_cellsChosen 3 (some .int) rmX2_cellsChosen [.ref 1] n (H5 d I J S L R) Q := by
  refine Calls.of (by decide) (Nat.le_of_ble_eq_true rfl) ?_
  intro K hk
  show AW K Q 0 0 0 [some (.ref 1), none, none] [] n (H5 d I J S L R)
  have loop : ∀ (k i : Nat), i ≤ 256 → 256 + 1 ≤ i + k → AW K Q 0 0 4 [some (.ref 1), some (.int (sI (fun c => bi (I 5 c != 0)) i)), some (.int (nI i))] [] n (H5 d I J S L R) := by
    intro k
    induction k with
    | zero => intro i  hi hn; omega
    | succ k ih =>
      intro i  hi hn
      refine aw_iload_n (pc2 := 5) hk dX2_cellsChosen_4 rfl rfl ?_
      refine aw_sipush (v := 256) (pc2 := 8) hk dX2_cellsChosen_5 rfl (by decide) ?_
      refine aw_icN_ge (y := 256) (tgt := 34) (pc2 := 11) hk dX2_cellsChosen_8 (by decide) rfl rfl rfl (by omega) (by omega) (fun c8 => ?_) (fun c8 => ?_)
      · obtain rfl : i = 256 := by omega
        refine aw_iload_n (pc2 := 35) hk dX2_cellsChosen_34 rfl rfl ?_
        refine aw_iret hk dX2_cellsChosen_35 (Nat.le_of_ble_eq_true rfl) (Nat.le_of_ble_eq_true rfl) hq
      · refine aw_iload_n (pc2 := 12) hk dX2_cellsChosen_11 rfl rfl ?_
        refine aw_aload_n (pc2 := 13) hk dX2_cellsChosen_12 rfl rfl ?_
        refine aw_get (v := .ref 5) (pc2 := 16) hk ckX2 5 dX2_cellsChosen_13 rfl fl_X2_22 (by decide) (o_X2 rfl) rfl ?_
        refine aw_iload_n (pc2 := 17) hk dX2_cellsChosen_16 rfl rfl ?_
        refine h_zald (pc2 := 18) hk dX2_cellsChosen_17 rfl rfl rfl (by omega) (by decide) ?_
        refine aw_if_eq (tgt := 25) (pc2 := 21) hk dX2_cellsChosen_18 (by decide) rfl (fun c18 => ?_) (fun c18 => ?_)
        · refine aw_iconst (v := 0) (pc2 := 26) hk dX2_cellsChosen_25 rfl (by decide) ?_
          refine aw_iadd (pc2 := 27) hk dX2_cellsChosen_26 rfl ?_
          refine aw_top (sI (fun c => bi (I 5 c != 0)) (i + 1)) (show _ + _ = _ + bi _ by simp [bi, c18]) ?_
          refine aw_istore_n (pc2 := 28) hk dX2_cellsChosen_27 rfl (by decide) ?_
          show AW K Q _ _ 28 [_, _, _] _ _ _
          refine aw_iinc1 (pc2 := 31) hk dX2_cellsChosen_28 rfl rfl (by decide) ?_
          show AW K Q _ _ 31 [_, _, _] _ _ _
          refine aw_goto (tgt := 4) hk dX2_cellsChosen_31 (by decide) ?_
          exact ih (i + 1) (by omega) (by omega)
        · refine aw_iconst (v := 1) (pc2 := 22) hk dX2_cellsChosen_21 rfl (by decide) ?_
          refine aw_goto (tgt := 26) hk dX2_cellsChosen_22 (by decide) ?_
          refine aw_iadd (pc2 := 27) hk dX2_cellsChosen_26 rfl ?_
          refine aw_top (sI (fun c => bi (I 5 c != 0)) (i + 1)) (show _ + _ = _ + bi _ by simp [bi, c18]) ?_
          refine aw_istore_n (pc2 := 28) hk dX2_cellsChosen_27 rfl (by decide) ?_
          show AW K Q _ _ 28 [_, _, _] _ _ _
          refine aw_iinc1 (pc2 := 31) hk dX2_cellsChosen_28 rfl rfl (by decide) ?_
          show AW K Q _ _ 31 [_, _, _] _ _ _
          refine aw_goto (tgt := 4) hk dX2_cellsChosen_31 (by decide) ?_
          exact ih (i + 1) (by omega) (by omega)
  refine aw_iconst (v := 0) (pc2 := 1) hk dX2_cellsChosen_0 rfl (by decide) ?_
  refine aw_istore_n (pc2 := 2) hk dX2_cellsChosen_1 rfl (by decide) ?_
  show AW K Q _ _ 2 [_, _, _] _ _ _
  refine aw_iconst (v := 0) (pc2 := 3) hk dX2_cellsChosen_2 rfl (by decide) ?_
  refine aw_istore_n (pc2 := 4) hk dX2_cellsChosen_3 rfl (by decide) ?_
  show AW K Q _ _ 4 [_, _, _] _ _ _
  exact loop 257 0 (by omega) (by omega)
set_option maxHeartbeats 800000 in
set_option maxRecDepth 100000 in
theorem t_cellsTaken {n : Nat} {d : D2} {I : M2} {J : J2} {S : M2} {L : J2} {R : R2} {Q : QT} (hq : Q (some (.int (sI (fun c => bi (tkn I c)) 256))) n (H5 d I J S L R)) : Calls yX2_cellsTaken cX2_cellsTaken 3 (some .int) rmX2_cellsTaken [.ref 1] n (H5 d I J S L R) Q := by
  refine Calls.of (by decide) (Nat.le_of_ble_eq_true rfl) ?_
  intro K hk
  show AW K Q 0 0 0 [some (.ref 1), none, none] [] n (H5 d I J S L R)
  have loop : ∀ (k i : Nat), i ≤ 256 → 256 + 1 ≤ i + k → AW K Q 0 0 4 [some (.ref 1), some (.int (sI (fun c => bi (tkn I c)) i)), some (.int (nI i))] [] n (H5 d I J S L R) := by
    intro k
    induction k with
    | zero => intro i  hi hn; omega
    | succ k ih =>
      intro i  hi hn
      refine aw_iload_n (pc2 := 5) hk dX2_cellsTaken_4 rfl rfl ?_
      refine aw_sipush (v := 256) (pc2 := 8) hk dX2_cellsTaken_5 rfl (by decide) ?_
      refine aw_icN_ge (y := 256) (tgt := 33) (pc2 := 11) hk dX2_cellsTaken_8 (by decide) rfl rfl rfl (by omega) (by omega) (fun c8 => ?_) (fun c8 => ?_)
      · obtain rfl : i = 256 := by omega
        refine aw_iload_n (pc2 := 34) hk dX2_cellsTaken_33 rfl rfl ?_
        refine aw_iret hk dX2_cellsTaken_34 (Nat.le_of_ble_eq_true rfl) (Nat.le_of_ble_eq_true rfl) hq
      · refine aw_iload_n (pc2 := 12) hk dX2_cellsTaken_11 rfl rfl ?_
        refine aw_aload_n (pc2 := 13) hk dX2_cellsTaken_12 rfl rfl ?_
        refine aw_iload_n (pc2 := 14) hk dX2_cellsTaken_13 rfl rfl ?_
        refine aw_cV (rm2 := rmX2_isTaken) (pc2 := 17) hk veX2_isTaken dX2_cellsTaken_14 rfl ml_X2_49 ⟨(Nat.le_of_ble_eq_true rfl), (Nat.le_of_ble_eq_true rfl)⟩ [_] rfl rfl (Nat.le_of_ble_eq_true rfl) (Nat.le_of_ble_eq_true rfl) (Nat.le_of_ble_eq_true rfl) (o_X2 rfl) (t_isTaken rfl (by omega) ?_)
        refine aw_if_eq (tgt := 24) (pc2 := 20) hk dX2_cellsTaken_17 (by decide) rfl (fun c17 => ?_) (fun c17 => ?_)
        · refine aw_iconst (v := 0) (pc2 := 25) hk dX2_cellsTaken_24 rfl (by decide) ?_
          refine aw_iadd (pc2 := 26) hk dX2_cellsTaken_25 rfl ?_
          refine aw_top (sI (fun c => bi (tkn I c)) (i + 1)) (show _ + _ = _ + bi _ by first | rw [bi_t c17] | rw [c17]) ?_
          refine aw_istore_n (pc2 := 27) hk dX2_cellsTaken_26 rfl (by decide) ?_
          show AW K Q _ _ 27 [_, _, _] _ _ _
          refine aw_iinc1 (pc2 := 30) hk dX2_cellsTaken_27 rfl rfl (by decide) ?_
          show AW K Q _ _ 30 [_, _, _] _ _ _
          refine aw_goto (tgt := 4) hk dX2_cellsTaken_30 (by decide) ?_
          exact ih (i + 1) (by omega) (by omega)
        · refine aw_iconst (v := 1) (pc2 := 21) hk dX2_cellsTaken_20 rfl (by decide) ?_
          refine aw_goto (tgt := 25) hk dX2_cellsTaken_21 (by decide) ?_
          refine aw_iadd (pc2 := 26) hk dX2_cellsTaken_25 rfl ?_
          refine aw_top (sI (fun c => bi (tkn I c)) (i + 1)) (show _ + _ = _ + bi _ by first | rw [bi_t c17] | rw [c17]) ?_
          refine aw_istore_n (pc2 := 27) hk dX2_cellsTaken_26 rfl (by decide) ?_
          show AW K Q _ _ 27 [_, _, _] _ _ _
          refine aw_iinc1 (pc2 := 30) hk dX2_cellsTaken_27 rfl rfl (by decide) ?_
          show AW K Q _ _ 30 [_, _, _] _ _ _
          refine aw_goto (tgt := 4) hk dX2_cellsTaken_30 (by decide) ?_
          exact ih (i + 1) (by omega) (by omega)
  refine aw_iconst (v := 0) (pc2 := 1) hk dX2_cellsTaken_0 rfl (by decide) ?_
  refine aw_istore_n (pc2 := 2) hk dX2_cellsTaken_1 rfl (by decide) ?_
  show AW K Q _ _ 2 [_, _, _] _ _ _
  refine aw_iconst (v := 0) (pc2 := 3) hk dX2_cellsTaken_2 rfl (by decide) ?_
  refine aw_istore_n (pc2 := 4) hk dX2_cellsTaken_3 rfl (by decide) ?_
  show AW K Q _ _ 4 [_, _, _] _ _ _
  exact loop 257 0 (by omega) (by omega)
set_option maxHeartbeats 800000 in
set_option maxRecDepth 100000 in
theorem t_takeLine {n : Nat} {d : D2} {I : M2} {J : J2} {S : M2} {L : J2} {R : R2} {Q : QT} {f o : Int32} (hq : Q none n (H5 d (rowU I 6 256 (fun c => if inl I c f then o else I 6 c)) J S L R)) : Calls yX2_takeLine cX2_takeLine 4 none rmX2_takeLine [.ref 1, .int f, .int o] n (H5 d I J S L R) Q := by
  refine Calls.of (by decide) (Nat.le_of_ble_eq_true rfl) ?_
  intro K hk
  show AW K Q 0 0 0 [some (.ref 1), some (.int f), some (.int o), none] [] n (H5 d I J S L R)
  have loop : ∀ (k i : Nat), i ≤ 256 → 256 + 1 ≤ i + k → AW K Q 0 0 2 [some (.ref 1), some (.int f), some (.int o), some (.int (nI i))] [] n (H5 d (rowU I 6 i (fun c => if inl I c f then o else I 6 c)) J S L R) := by
    intro k
    induction k with
    | zero => intro i  hi hn; omega
    | succ k ih =>
      intro i  hi hn
      refine aw_iload_n (pc2 := 3) hk dX2_takeLine_2 rfl rfl ?_
      refine aw_sipush (v := 256) (pc2 := 6) hk dX2_takeLine_3 rfl (by decide) ?_
      refine aw_icN_ge (y := 256) (tgt := 31) (pc2 := 9) hk dX2_takeLine_6 (by decide) rfl rfl rfl (by omega) (by omega) (fun c6 => ?_) (fun c6 => ?_)
      · obtain rfl : i = 256 := by omega
        refine aw_vret hk dX2_takeLine_31 (Nat.le_of_ble_eq_true rfl) (Nat.le_of_ble_eq_true rfl) hq
      · refine aw_aload_n (pc2 := 10) hk dX2_takeLine_9 rfl rfl ?_
        refine aw_iload_n (pc2 := 11) hk dX2_takeLine_10 rfl rfl ?_
        refine aw_iload_n (pc2 := 12) hk dX2_takeLine_11 rfl rfl ?_
        refine aw_cV (rm2 := rmX2_isInLineOf) (pc2 := 15) hk veX2_isInLineOf dX2_takeLine_12 rfl ml_X2_45 ⟨(Nat.le_of_ble_eq_true rfl), (Nat.le_of_ble_eq_true rfl)⟩ [_, _] rfl rfl (Nat.le_of_ble_eq_true rfl) (Nat.le_of_ble_eq_true rfl) (Nat.le_of_ble_eq_true rfl) (o_X2 rfl) (t_isInLineOf rfl (by omega) ?_)
        have e : inl (rowU I 6 i (fun c => if inl I c f then o else I 6 c)) i f = inl I i f := by simp [inl, rowU]
        rw [e]
        refine aw_if_eq (tgt := 25) (pc2 := 18) hk dX2_takeLine_15 (by decide) rfl (fun c15 => ?_) (fun c15 => ?_)
        · first
            | refine aw_I (rowU I 6 (i + 1) (fun c => if inl I c f then o else I 6 c)) (rowU_st I 6 i _ (by simp [bi_tt c15])) ?_
            | refine aw_I (rowU I 6 (i + 1) (fun c => if inl I c f then o else I 6 c)) (rowU_sk I 6 i _ (by simp [bi_ff c15])) ?_
          refine aw_iinc1 (pc2 := 28) hk dX2_takeLine_25 rfl rfl (by decide) ?_
          show AW K Q _ _ 28 [_, _, _, _] _ _ _
          refine aw_goto (tgt := 2) hk dX2_takeLine_28 (by decide) ?_
          exact ih (i + 1) (by omega) (by omega)
        · refine aw_aload_n (pc2 := 19) hk dX2_takeLine_18 rfl rfl ?_
          refine aw_get (v := .ref 6) (pc2 := 22) hk ckX2 6 dX2_takeLine_19 rfl fl_X2_25 (by decide) (o_X2 rfl) rfl ?_
          refine aw_iload_n (pc2 := 23) hk dX2_takeLine_22 rfl rfl ?_
          refine aw_iload_n (pc2 := 24) hk dX2_takeLine_23 rfl rfl ?_
          refine h_iast (pc2 := 25) hk dX2_takeLine_24 rfl rfl rfl (by omega) (by decide) ?_
          first
            | refine aw_I (rowU I 6 (i + 1) (fun c => if inl I c f then o else I 6 c)) (rowU_st I 6 i _ (by simp [bi_tt c15])) ?_
            | refine aw_I (rowU I 6 (i + 1) (fun c => if inl I c f then o else I 6 c)) (rowU_sk I 6 i _ (by simp [bi_ff c15])) ?_
          refine aw_iinc1 (pc2 := 28) hk dX2_takeLine_25 rfl rfl (by decide) ?_
          show AW K Q _ _ 28 [_, _, _, _] _ _ _
          refine aw_goto (tgt := 2) hk dX2_takeLine_28 (by decide) ?_
          exact ih (i + 1) (by omega) (by omega)
  refine aw_iconst (v := 0) (pc2 := 1) hk dX2_takeLine_0 rfl (by decide) ?_
  refine aw_istore_n (pc2 := 2) hk dX2_takeLine_1 rfl (by decide) ?_
  show AW K Q _ _ 2 [_, _, _, _] _ _ _
  refine aw_I (rowU I 6 0 (fun c => if inl I c f then o else I 6 c)) (rowU_0 _ _ _).symm ?_
  exact loop 257 0 (by omega) (by omega)
set_option maxHeartbeats 800000 in
set_option maxRecDepth 100000 in
theorem t_giveBack {n : Nat} {d : D2} {I : M2} {J : J2} {S : M2} {L : J2} {R : R2} {Q : QT} {o : Int32} (hq : Q none n (H5 d (rowU I 6 256 (fun c => if I 6 c = o then -1 else I 6 c)) J S L R)) : Calls yX2_giveBack cX2_giveBack 3 none rmX2_giveBack [.ref 1, .int o] n (H5 d I J S L R) Q := by
  refine Calls.of (by decide) (Nat.le_of_ble_eq_true rfl) ?_
  intro K hk
  show AW K Q 0 0 0 [some (.ref 1), some (.int o), none] [] n (H5 d I J S L R)
  have loop : ∀ (k i : Nat), i ≤ 256 → 256 + 1 ≤ i + k → AW K Q 0 0 2 [some (.ref 1), some (.int o), some (.int (nI i))] [] n (H5 d (rowU I 6 i (fun c => if I 6 c = o then -1 else I 6 c)) J S L R) := by
    intro k
    induction k with
    | zero => intro i  hi hn; omega
    | succ k ih =>
      intro i  hi hn
      refine aw_iload_n (pc2 := 3) hk dX2_giveBack_2 rfl rfl ?_
      refine aw_sipush (v := 256) (pc2 := 6) hk dX2_giveBack_3 rfl (by decide) ?_
      refine aw_icN_ge (y := 256) (tgt := 32) (pc2 := 9) hk dX2_giveBack_6 (by decide) rfl rfl rfl (by omega) (by omega) (fun c6 => ?_) (fun c6 => ?_)
      · obtain rfl : i = 256 := by omega
        refine aw_vret hk dX2_giveBack_32 (Nat.le_of_ble_eq_true rfl) (Nat.le_of_ble_eq_true rfl) hq
      · refine aw_aload_n (pc2 := 10) hk dX2_giveBack_9 rfl rfl ?_
        refine aw_get (v := .ref 6) (pc2 := 13) hk ckX2 6 dX2_giveBack_10 rfl fl_X2_25 (by decide) (o_X2 rfl) rfl ?_
        refine aw_iload_n (pc2 := 14) hk dX2_giveBack_13 rfl rfl ?_
        refine h_iald (pc2 := 15) hk dX2_giveBack_14 rfl rfl rfl (by omega) (by decide) ?_
        refine aw_iload_n (pc2 := 16) hk dX2_giveBack_15 rfl rfl ?_
        have e : rowU I 6 i (fun c => if I 6 c = o then -1 else I 6 c) 6 i = I 6 i := rowU_out I 6 _ (by omega)
        refine aw_icmp_ne (tgt := 26) (pc2 := 19) hk dX2_giveBack_16 (by decide) rfl (fun c16 => ?_) (fun c16 => ?_)
        · rw [e] at c16
          first
            | refine aw_I (rowU I 6 (i + 1) (fun c => if I 6 c = o then -1 else I 6 c)) (rowU_st I 6 i _ (by simp [c16])) ?_
            | refine aw_I (rowU I 6 (i + 1) (fun c => if I 6 c = o then -1 else I 6 c)) (rowU_sk I 6 i _ (by simp [c16])) ?_
          refine aw_iinc1 (pc2 := 29) hk dX2_giveBack_26 rfl rfl (by decide) ?_
          show AW K Q _ _ 29 [_, _, _] _ _ _
          refine aw_goto (tgt := 2) hk dX2_giveBack_29 (by decide) ?_
          exact ih (i + 1) (by omega) (by omega)
        · refine aw_aload_n (pc2 := 20) hk dX2_giveBack_19 rfl rfl ?_
          refine aw_get (v := .ref 6) (pc2 := 23) hk ckX2 6 dX2_giveBack_20 rfl fl_X2_25 (by decide) (o_X2 rfl) rfl ?_
          refine aw_iload_n (pc2 := 24) hk dX2_giveBack_23 rfl rfl ?_
          refine aw_iconst (v := -1) (pc2 := 25) hk dX2_giveBack_24 rfl (by decide) ?_
          refine h_iast (pc2 := 26) hk dX2_giveBack_25 rfl rfl rfl (by omega) (by decide) ?_
          rw [e] at c16
          first
            | refine aw_I (rowU I 6 (i + 1) (fun c => if I 6 c = o then -1 else I 6 c)) (rowU_st I 6 i _ (by simp [c16])) ?_
            | refine aw_I (rowU I 6 (i + 1) (fun c => if I 6 c = o then -1 else I 6 c)) (rowU_sk I 6 i _ (by simp [c16])) ?_
          refine aw_iinc1 (pc2 := 29) hk dX2_giveBack_26 rfl rfl (by decide) ?_
          show AW K Q _ _ 29 [_, _, _] _ _ _
          refine aw_goto (tgt := 2) hk dX2_giveBack_29 (by decide) ?_
          exact ih (i + 1) (by omega) (by omega)
  refine aw_iconst (v := 0) (pc2 := 1) hk dX2_giveBack_0 rfl (by decide) ?_
  refine aw_istore_n (pc2 := 2) hk dX2_giveBack_1 rfl (by decide) ?_
  show AW K Q _ _ 2 [_, _, _] _ _ _
  refine aw_I (rowU I 6 0 (fun c => if I 6 c = o then -1 else I 6 c)) (rowU_0 _ _ _).symm ?_
  exact loop 257 0 (by omega) (by omega)
set_option maxHeartbeats 800000 in
set_option maxRecDepth 100000 in
theorem t_emptyLine {n : Nat} {d : D2} {I : M2} {J : J2} {S : M2} {L : J2} {R : R2} {Q : QT} (hq : Q none n (H5 d (rowU I 5 256 (fun _ => 0)) J S L R)) : Calls yX2_emptyLine cX2_emptyLine 2 none rmX2_emptyLine [.ref 1] n (H5 d I J S L R) Q := by
  refine Calls.of (by decide) (Nat.le_of_ble_eq_true rfl) ?_
  intro K hk
  show AW K Q 0 0 0 [some (.ref 1), none] [] n (H5 d I J S L R)
  have loop : ∀ (k i : Nat), i ≤ 256 → 256 + 1 ≤ i + k → AW K Q 0 0 2 [some (.ref 1), some (.int (nI i))] [] n (H5 d (rowU I 5 i (fun _ => 0)) J S L R) := by
    intro k
    induction k with
    | zero => intro i  hi hn; omega
    | succ k ih =>
      intro i  hi hn
      refine aw_iload_n (pc2 := 3) hk dX2_emptyLine_2 rfl rfl ?_
      refine aw_sipush (v := 256) (pc2 := 6) hk dX2_emptyLine_3 rfl (by decide) ?_
      refine aw_icN_ge (y := 256) (tgt := 22) (pc2 := 9) hk dX2_emptyLine_6 (by decide) rfl rfl rfl (by omega) (by omega) (fun c6 => ?_) (fun c6 => ?_)
      · obtain rfl : i = 256 := by omega
        refine aw_vret hk dX2_emptyLine_22 (Nat.le_of_ble_eq_true rfl) (Nat.le_of_ble_eq_true rfl) hq
      · refine aw_aload_n (pc2 := 10) hk dX2_emptyLine_9 rfl rfl ?_
        refine aw_get (v := .ref 5) (pc2 := 13) hk ckX2 5 dX2_emptyLine_10 rfl fl_X2_22 (by decide) (o_X2 rfl) rfl ?_
        refine aw_iload_n (pc2 := 14) hk dX2_emptyLine_13 rfl rfl ?_
        refine aw_iconst (v := 0) (pc2 := 15) hk dX2_emptyLine_14 rfl (by decide) ?_
        refine h_zast (pc2 := 16) hk dX2_emptyLine_15 rfl rfl rfl (by omega) (by decide) (by first | exact Or.inl rfl | exact Or.inr rfl) ?_
        refine aw_I (rowU I 5 (i + 1) (fun _ => 0)) (rowU_st I 5 i _ rfl) ?_
        refine aw_iinc1 (pc2 := 19) hk dX2_emptyLine_16 rfl rfl (by decide) ?_
        show AW K Q _ _ 19 [_, _] _ _ _
        refine aw_goto (tgt := 2) hk dX2_emptyLine_19 (by decide) ?_
        exact ih (i + 1) (by omega) (by omega)
  refine aw_iconst (v := 0) (pc2 := 1) hk dX2_emptyLine_0 rfl (by decide) ?_
  refine aw_istore_n (pc2 := 2) hk dX2_emptyLine_1 rfl (by decide) ?_
  show AW K Q _ _ 2 [_, _] _ _ _
  refine aw_I (rowU I 5 0 (fun _ => 0)) (rowU_0 _ _ _).symm ?_
  exact loop 257 0 (by omega) (by omega)
set_option maxHeartbeats 800000 in
set_option maxRecDepth 100000 in
theorem t_priceAt {n : Nat} {d : D2} {I : M2} {J : J2} {S : M2} {L : J2} {R : R2} {Q : QT} {p a : Nat} (hp : p < 256) (ha : kd d a = (1, 4)) (hso : ∃ k, k < 4 ∧ I 3 p = nI k) (hq : Q (some (.int (prI I a p))) n (H5 d I J S L R)) : Calls yX2_priceAt cX2_priceAt 4 (some .int) rmX2_priceAt [.ref 1, .int (nI p), .ref a] n (H5 d I J S L R) Q := by
  refine Calls.of (by decide) (Nat.le_of_ble_eq_true rfl) ?_
  intro K hk
  show AW K Q 0 0 0 [some (.ref 1), some (.int (nI p)), some (.ref a), none] [] n (H5 d I J S L R)
  refine aw_aload_n (pc2 := 1) hk dX2_priceAt_0 rfl rfl ?_
  refine aw_get (v := .ref 3) (pc2 := 4) hk ckX2 3 dX2_priceAt_1 rfl fl_X2_15 (by decide) (o_X2 rfl) rfl ?_
  refine aw_iload_n (pc2 := 5) hk dX2_priceAt_4 rfl rfl ?_
  refine h_iald (pc2 := 6) hk dX2_priceAt_5 rfl rfl rfl hp (by decide) ?_
  refine aw_istore_n (pc2 := 7) hk dX2_priceAt_6 rfl (by decide) ?_
  show AW K Q _ _ 7 [_, _, _, _] _ _ _
  obtain ⟨k, hk4, ek⟩ := hso
  rw [ek]
  refine aw_iload_n (pc2 := 8) hk dX2_priceAt_7 rfl rfl ?_
  refine aw_if_lt (tgt := 23) (pc2 := 11) hk dX2_priceAt_8 (by decide) rfl (fun c8 => absurd c8 (nI_pos (by omega))) (fun c8 => ?_)
  refine aw_iload_n (pc2 := 12) hk dX2_priceAt_11 rfl rfl ?_
  refine aw_aload_n (pc2 := 13) hk dX2_priceAt_12 rfl rfl ?_
  refine h_alen (pc2 := 14) hk dX2_priceAt_13 rfl ha ?_
  refine aw_icmp_ge (tgt := 23) (pc2 := 17) hk dX2_priceAt_14 (by decide) rfl (fun c14 => absurd c14 (nI_ge hk4 (by decide))) (fun c14 => ?_)
  refine aw_aload_n (pc2 := 18) hk dX2_priceAt_17 rfl rfl ?_
  refine aw_iload_n (pc2 := 19) hk dX2_priceAt_18 rfl rfl ?_
  refine h_iald (pc2 := 20) hk dX2_priceAt_19 rfl ha rfl hk4 (by decide) ?_
  refine aw_goto (tgt := 24) hk dX2_priceAt_20 (by decide) ?_
  refine aw_iret hk dX2_priceAt_24 (Nat.le_of_ble_eq_true rfl) (Nat.le_of_ble_eq_true rfl) (by rw [show prI I a p = I a k by unfold prI; rw [ek, nI_clamp (by omega)]] at hq; exact hq)
set_option maxHeartbeats 800000 in
set_option maxRecDepth 100000 in
theorem t_worthInLine {n : Nat} {d : D2} {I : M2} {J : J2} {S : M2} {L : J2} {R : R2} {Q : QT} {f : Int32} {a : Nat} (ha : kd d a = (1, 4)) (hso : ∀ p, p < 256 → ∃ k, k < 4 ∧ I 3 p = nI k) (hq : Q (some (.long (sL (fun c => if inl I c f then (prI I a c).toInt64 else 0) 256))) n (H5 d I J S L R)) : Calls yX2_worthInLine cX2_worthInLine 6 (some .long) rmX2_worthInLine [.ref 1, .int f, .ref a] n (H5 d I J S L R) Q := by
  refine Calls.of (by decide) (Nat.le_of_ble_eq_true rfl) ?_
  intro K hk
  show AW K Q 0 0 0 [some (.ref 1), some (.int f), some (.ref a), none, none, none] [] n (H5 d I J S L R)
  have loop : ∀ (k i : Nat), i ≤ 256 → 256 + 1 ≤ i + k → AW K Q 0 0 5 [some (.ref 1), some (.int f), some (.ref a), some (.long (sL (fun c => if inl I c f then (prI I a c).toInt64 else 0) i)), none, some (.int (nI i))] [] n (H5 d I J S L R) := by
    intro k
    induction k with
    | zero => intro i  hi hn; omega
    | succ k ih =>
      intro i  hi hn
      refine aw_iload (pc2 := 7) hk dX2_worthInLine_5 rfl rfl ?_
      refine aw_sipush (v := 256) (pc2 := 10) hk dX2_worthInLine_7 rfl (by decide) ?_
      refine aw_icN_ge (y := 256) (tgt := 40) (pc2 := 13) hk dX2_worthInLine_10 (by decide) rfl rfl rfl (by omega) (by omega) (fun c10 => ?_) (fun c10 => ?_)
      · obtain rfl : i = 256 := by omega
        refine aw_lload_n (pc2 := 41) hk dX2_worthInLine_40 rfl rfl ?_
        refine aw_lret hk dX2_worthInLine_41 (Nat.le_of_ble_eq_true rfl) (Nat.le_of_ble_eq_true rfl) hq
      · refine aw_aload_n (pc2 := 14) hk dX2_worthInLine_13 rfl rfl ?_
        refine aw_iload (pc2 := 16) hk dX2_worthInLine_14 rfl rfl ?_
        refine aw_iload_n (pc2 := 17) hk dX2_worthInLine_16 rfl rfl ?_
        refine aw_cV (rm2 := rmX2_isInLineOf) (pc2 := 20) hk veX2_isInLineOf dX2_worthInLine_17 rfl ml_X2_45 ⟨(Nat.le_of_ble_eq_true rfl), (Nat.le_of_ble_eq_true rfl)⟩ [_, _] rfl rfl (Nat.le_of_ble_eq_true rfl) (Nat.le_of_ble_eq_true rfl) (Nat.le_of_ble_eq_true rfl) (o_X2 rfl) (t_isInLineOf rfl (by omega) ?_)
        refine aw_if_eq (tgt := 34) (pc2 := 23) hk dX2_worthInLine_20 (by decide) rfl (fun c20 => ?_) (fun c20 => ?_)
        · first
            | (have e9 : sL (fun c => if inl I c f then (prI I a c).toInt64 else 0) i = sL (fun c => if inl I c f then (prI I a c).toInt64 else 0) (i + 1) := by (show _ = _ + (if _ then _ else _)); simp [bi_ff c20]
               rw [e9])
            | skip
          refine aw_iinc1 (pc2 := 37) hk dX2_worthInLine_34 rfl rfl (by decide) ?_
          show AW K Q _ _ 37 [_, _, _, _, _, _] _ _ _
          refine aw_goto (tgt := 5) hk dX2_worthInLine_37 (by decide) ?_
          exact ih (i + 1) (by omega) (by omega)
        · refine aw_lload_n (pc2 := 24) hk dX2_worthInLine_23 rfl rfl ?_
          refine aw_aload_n (pc2 := 25) hk dX2_worthInLine_24 rfl rfl ?_
          refine aw_iload (pc2 := 27) hk dX2_worthInLine_25 rfl rfl ?_
          refine aw_aload_n (pc2 := 28) hk dX2_worthInLine_27 rfl rfl ?_
          refine aw_cV (rm2 := rmX2_priceAt) (pc2 := 31) hk veX2_priceAt dX2_worthInLine_28 rfl ml_X2_53 ⟨(Nat.le_of_ble_eq_true rfl), (Nat.le_of_ble_eq_true rfl)⟩ [_, _] rfl rfl (Nat.le_of_ble_eq_true rfl) (Nat.le_of_ble_eq_true rfl) (Nat.le_of_ble_eq_true rfl) (o_X2 rfl) (t_priceAt (by omega) ha (hso i (by omega)) ?_)
          refine aw_i2l (pc2 := 32) hk dX2_worthInLine_31 rfl ?_
          refine aw_ladd (pc2 := 33) hk dX2_worthInLine_32 rfl ?_
          refine aw_topL (sL (fun c => if inl I c f then (prI I a c).toInt64 else 0) (i + 1)) (show _ + _ = _ + (if _ then _ else _) by simp [bi_tt c20]) ?_
          refine aw_lstore_n (pc2 := 34) hk dX2_worthInLine_33 rfl (by decide) ?_
          show AW K Q _ _ 34 [_, _, _, _, _, _] _ _ _
          first
            | (have e9 : sL (fun c => if inl I c f then (prI I a c).toInt64 else 0) i = sL (fun c => if inl I c f then (prI I a c).toInt64 else 0) (i + 1) := by (show _ = _ + (if _ then _ else _)); simp [bi_ff c20]
               rw [e9])
            | skip
          refine aw_iinc1 (pc2 := 37) hk dX2_worthInLine_34 rfl rfl (by decide) ?_
          show AW K Q _ _ 37 [_, _, _, _, _, _] _ _ _
          refine aw_goto (tgt := 5) hk dX2_worthInLine_37 (by decide) ?_
          exact ih (i + 1) (by omega) (by omega)
  refine aw_lconst (v := 0) (pc2 := 1) hk dX2_worthInLine_0 rfl (by decide) ?_
  refine aw_lstore_n (pc2 := 2) hk dX2_worthInLine_1 rfl (by decide) ?_
  show AW K Q _ _ 2 [_, _, _, _, _, _] _ _ _
  refine aw_iconst (v := 0) (pc2 := 3) hk dX2_worthInLine_2 rfl (by decide) ?_
  refine aw_istore (pc2 := 5) hk dX2_worthInLine_3 rfl (by decide) ?_
  show AW K Q _ _ 5 [_, _, _, _, _, _] _ _ _
  exact loop 257 0 (by omega) (by omega)
set_option maxHeartbeats 800000 in
set_option maxRecDepth 100000 in
theorem t_keptSides {n : Nat} {d : D2} {I : M2} {J : J2} {S : M2} {L : J2} {R : R2} {Q : QT} {p : Nat} {f : Int32} {w g : Nat} (hw : S 1 0 = nI w) (hg : S 1 1 = nI g) (hw6 : w ≤ 16) (hg6 : g ≤ 16) (hp : p < 256) (hq : Q (some (.int (sI (fun s => bi (ksd I w g p f s)) 4))) n (H5 d I J S L R)) : Calls yX2_keptSides cX2_keptSides 6 (some .int) rmX2_keptSides [.ref 1, .int (nI p), .int f] n (H5 d I J S L R) Q := by
  refine Calls.of (by decide) (Nat.le_of_ble_eq_true rfl) ?_
  intro K hk
  show AW K Q 0 0 0 [some (.ref 1), some (.int (nI p)), some (.int f), none, none, none] [] n (H5 d I J S L R)
  have loop : ∀ (k i : Nat), i ≤ 4 → 4 + 1 ≤ i + k → AW K Q 0 0 5 [some (.ref 1), some (.int (nI p)), some (.int f), some (.int (sI (fun s => bi (ksd I w g p f s)) i)), some (.int (nI i)), none] [] n (H5 d I J S L R) := by
    intro k
    induction k with
    | zero => intro i  hi hn; omega
    | succ k ih =>
      intro i  hi hn
      refine aw_iload (pc2 := 7) hk dX2_keptSides_5 rfl rfl ?_
      refine aw_iconst (v := 4) (pc2 := 8) hk dX2_keptSides_7 rfl (by decide) ?_
      refine aw_icN_ge (y := 4) (tgt := 45) (pc2 := 11) hk dX2_keptSides_8 (by decide) rfl rfl rfl (by omega) (by omega) (fun c8 => ?_) (fun c8 => ?_)
      · obtain rfl : i = 4 := by omega
        refine aw_iload_n (pc2 := 46) hk dX2_keptSides_45 rfl rfl ?_
        refine aw_iret hk dX2_keptSides_46 (Nat.le_of_ble_eq_true rfl) (Nat.le_of_ble_eq_true rfl) hq
      · refine aw_aload_n (pc2 := 12) hk dX2_keptSides_11 rfl rfl ?_
        refine aw_iload_n (pc2 := 13) hk dX2_keptSides_12 rfl rfl ?_
        refine aw_iload (pc2 := 15) hk dX2_keptSides_13 rfl rfl ?_
        refine aw_cV (rm2 := rmX2_beside) (pc2 := 18) hk veX2_beside dX2_keptSides_15 rfl ml_X2_60 ⟨(Nat.le_of_ble_eq_true rfl), (Nat.le_of_ble_eq_true rfl)⟩ [_, _] rfl rfl (Nat.le_of_ble_eq_true rfl) (Nat.le_of_ble_eq_true rfl) (Nat.le_of_ble_eq_true rfl) (o_X2 rfl) (t_beside hw hg hw6 hg6 hp (by omega) ?_)
        refine aw_istore (pc2 := 20) hk dX2_keptSides_18 rfl (by decide) ?_
        show AW K Q _ _ 20 [_, _, _, _, _, _] _ _ _
        refine aw_iload (pc2 := 22) hk dX2_keptSides_20 rfl rfl ?_
        refine aw_iconst (v := -1) (pc2 := 23) hk dX2_keptSides_22 rfl (by decide) ?_
        refine aw_icmp_eq (tgt := 39) (pc2 := 26) hk dX2_keptSides_23 (by decide) rfl (fun c23 => ?_) (fun c23 => ?_)
        · first
            | (have e9 : sI (fun s => bi (ksd I w g p f s)) i = sI (fun s => bi (ksd I w g p f s)) (i + 1) := by (show _ = _ + bi _); rw [show ksd I w g p f i = false by unfold ksd; rw [opI_none c23 (fun q h => plc_lt hw6 hg6 h)]]; exact (Int32.add_zero _).symm
               rw [e9])
            | (have e9 : sI (fun s => bi (ksd I w g p f s)) i = sI (fun s => bi (ksd I w g p f s)) (i + 1) := by (show _ = _ + bi _); rw [show ksd I w g p f i = false by unfold ksd; rw [hq1]; exact bi_ff c33]; exact (Int32.add_zero _).symm
               rw [e9])
            | (have e9 : sI (fun s => bi (ksd I w g p f s)) i + 1 = sI (fun s => bi (ksd I w g p f s)) (i + 1) := by (show _ = _ + bi _); rw [show ksd I w g p f i = true by unfold ksd; rw [hq1]; exact bi_tt c33]; rfl
               rw [show (Int32.ofInt 1) = 1 from rfl, e9])
          refine aw_iinc1 (pc2 := 42) hk dX2_keptSides_39 rfl rfl (by decide) ?_
          show AW K Q _ _ 42 [_, _, _, _, _, _] _ _ _
          refine aw_goto (tgt := 5) hk dX2_keptSides_42 (by decide) ?_
          refine aw_fg 5 ?_
          exact ih (i + 1) (by omega) (by omega)
        · obtain ⟨q, hq1, hq2⟩ := opI_some c23
          have hq3 : q < 256 := plc_lt hw6 hg6 hq1
          refine aw_aload_n (pc2 := 27) hk dX2_keptSides_26 rfl rfl ?_
          refine aw_iload (pc2 := 29) hk dX2_keptSides_27 rfl rfl ?_
          refine aw_iload_n (pc2 := 30) hk dX2_keptSides_29 rfl rfl ?_
          refine aw_cV (rm2 := rmX2_isKept) (pc2 := 33) hk veX2_isKept dX2_keptSides_30 rfl ml_X2_63 ⟨(Nat.le_of_ble_eq_true rfl), (Nat.le_of_ble_eq_true rfl)⟩ [_, _] rfl rfl (Nat.le_of_ble_eq_true rfl) (Nat.le_of_ble_eq_true rfl) (Nat.le_of_ble_eq_true rfl) (o_X2 rfl) (t_isKept hq2 hq3 ?_)
          refine aw_if_eq (tgt := 39) (pc2 := 36) hk dX2_keptSides_33 (by decide) rfl (fun c33 => ?_) (fun c33 => ?_)
          · first
              | (have e9 : sI (fun s => bi (ksd I w g p f s)) i = sI (fun s => bi (ksd I w g p f s)) (i + 1) := by (show _ = _ + bi _); rw [show ksd I w g p f i = false by unfold ksd; rw [opI_none c23 (fun q h => plc_lt hw6 hg6 h)]]; exact (Int32.add_zero _).symm
                 rw [e9])
              | (have e9 : sI (fun s => bi (ksd I w g p f s)) i = sI (fun s => bi (ksd I w g p f s)) (i + 1) := by (show _ = _ + bi _); rw [show ksd I w g p f i = false by unfold ksd; rw [hq1]; exact bi_ff c33]; exact (Int32.add_zero _).symm
                 rw [e9])
              | (have e9 : sI (fun s => bi (ksd I w g p f s)) i + 1 = sI (fun s => bi (ksd I w g p f s)) (i + 1) := by (show _ = _ + bi _); rw [show ksd I w g p f i = true by unfold ksd; rw [hq1]; exact bi_tt c33]; rfl
                 rw [show (Int32.ofInt 1) = 1 from rfl, e9])
            refine aw_iinc1 (pc2 := 42) hk dX2_keptSides_39 rfl rfl (by decide) ?_
            show AW K Q _ _ 42 [_, _, _, _, _, _] _ _ _
            refine aw_goto (tgt := 5) hk dX2_keptSides_42 (by decide) ?_
            refine aw_fg 5 ?_
            exact ih (i + 1) (by omega) (by omega)
          · refine aw_iinc (pc2 := 39) hk dX2_keptSides_36 rfl rfl rfl (by decide) ?_
            show AW K Q _ _ 39 [_, _, _, _, _, _] _ _ _
            first
              | (have e9 : sI (fun s => bi (ksd I w g p f s)) i = sI (fun s => bi (ksd I w g p f s)) (i + 1) := by (show _ = _ + bi _); rw [show ksd I w g p f i = false by unfold ksd; rw [opI_none c23 (fun q h => plc_lt hw6 hg6 h)]]; exact (Int32.add_zero _).symm
                 rw [e9])
              | (have e9 : sI (fun s => bi (ksd I w g p f s)) i = sI (fun s => bi (ksd I w g p f s)) (i + 1) := by (show _ = _ + bi _); rw [show ksd I w g p f i = false by unfold ksd; rw [hq1]; exact bi_ff c33]; exact (Int32.add_zero _).symm
                 rw [e9])
              | (have e9 : sI (fun s => bi (ksd I w g p f s)) i + 1 = sI (fun s => bi (ksd I w g p f s)) (i + 1) := by (show _ = _ + bi _); rw [show ksd I w g p f i = true by unfold ksd; rw [hq1]; exact bi_tt c33]; rfl
                 rw [show (Int32.ofInt 1) = 1 from rfl, e9])
            refine aw_iinc1 (pc2 := 42) hk dX2_keptSides_39 rfl rfl (by decide) ?_
            show AW K Q _ _ 42 [_, _, _, _, _, _] _ _ _
            refine aw_goto (tgt := 5) hk dX2_keptSides_42 (by decide) ?_
            refine aw_fg 5 ?_
            exact ih (i + 1) (by omega) (by omega)
  refine aw_iconst (v := 0) (pc2 := 1) hk dX2_keptSides_0 rfl (by decide) ?_
  refine aw_istore_n (pc2 := 2) hk dX2_keptSides_1 rfl (by decide) ?_
  show AW K Q _ _ 2 [_, _, _, _, _, _] _ _ _
  refine aw_iconst (v := 0) (pc2 := 3) hk dX2_keptSides_2 rfl (by decide) ?_
  refine aw_istore (pc2 := 5) hk dX2_keptSides_3 rfl (by decide) ?_
  show AW K Q _ _ 5 [_, _, _, _, _, _] _ _ _
  exact loop 5 0 (by omega) (by omega)
set_option maxHeartbeats 800000 in
set_option maxRecDepth 100000 in
theorem t_fenceSides {n : Nat} {d : D2} {I : M2} {J : J2} {S : M2} {L : J2} {R : R2} {Q : QT} {f : Int32} {w g : Nat} (hw : S 1 0 = nI w) (hg : S 1 1 = nI g) (hw6 : w ≤ 16) (hg6 : g ≤ 16) (hq : Q (some (.int (sI (fun c => if inl I c f then sI (fun s => bi (ksd I w g c f s)) 4 else 0) 256))) n (H5 d I J S L R)) : Calls yX2_fenceSides cX2_fenceSides 4 (some .int) rmX2_fenceSides [.ref 1, .int f] n (H5 d I J S L R) Q := by
  refine Calls.of (by decide) (Nat.le_of_ble_eq_true rfl) ?_
  intro K hk
  show AW K Q 0 0 0 [some (.ref 1), some (.int f), none, none] [] n (H5 d I J S L R)
  have loop : ∀ (k i : Nat), i ≤ 256 → 256 + 1 ≤ i + k → AW K Q 0 0 4 [some (.ref 1), some (.int f), some (.int (sI (fun c => if inl I c f then sI (fun s => bi (ksd I w g c f s)) 4 else 0) i)), some (.int (nI i))] [] n (H5 d I J S L R) := by
    intro k
    induction k with
    | zero => intro i  hi hn; omega
    | succ k ih =>
      intro i  hi hn
      refine aw_iload_n (pc2 := 5) hk dX2_fenceSides_4 rfl rfl ?_
      refine aw_sipush (v := 256) (pc2 := 8) hk dX2_fenceSides_5 rfl (by decide) ?_
      refine aw_icN_ge (y := 256) (tgt := 35) (pc2 := 11) hk dX2_fenceSides_8 (by decide) rfl rfl rfl (by omega) (by omega) (fun c8 => ?_) (fun c8 => ?_)
      · obtain rfl : i = 256 := by omega
        refine aw_iload_n (pc2 := 36) hk dX2_fenceSides_35 rfl rfl ?_
        refine aw_iret hk dX2_fenceSides_36 (Nat.le_of_ble_eq_true rfl) (Nat.le_of_ble_eq_true rfl) hq
      · refine aw_aload_n (pc2 := 12) hk dX2_fenceSides_11 rfl rfl ?_
        refine aw_iload_n (pc2 := 13) hk dX2_fenceSides_12 rfl rfl ?_
        refine aw_iload_n (pc2 := 14) hk dX2_fenceSides_13 rfl rfl ?_
        refine aw_cV (rm2 := rmX2_isInLineOf) (pc2 := 17) hk veX2_isInLineOf dX2_fenceSides_14 rfl ml_X2_45 ⟨(Nat.le_of_ble_eq_true rfl), (Nat.le_of_ble_eq_true rfl)⟩ [_, _] rfl rfl (Nat.le_of_ble_eq_true rfl) (Nat.le_of_ble_eq_true rfl) (Nat.le_of_ble_eq_true rfl) (o_X2 rfl) (t_isInLineOf rfl (by omega) ?_)
        refine aw_if_eq (tgt := 29) (pc2 := 20) hk dX2_fenceSides_17 (by decide) rfl (fun c17 => ?_) (fun c17 => ?_)
        · first
            | (have e9 : sI (fun c => if inl I c f then sI (fun s => bi (ksd I w g c f s)) 4 else 0) i = sI (fun c => if inl I c f then sI (fun s => bi (ksd I w g c f s)) 4 else 0) (i + 1) := by (show _ = _ + (if _ then _ else _)); simp [bi_ff c17]
               rw [e9])
            | (have e9 : sI (fun c => if inl I c f then sI (fun s => bi (ksd I w g c f s)) 4 else 0) i + sI (fun s => bi (ksd I w g i f s)) 4 = sI (fun c => if inl I c f then sI (fun s => bi (ksd I w g c f s)) 4 else 0) (i + 1) := by (show _ = _ + (if _ then _ else _)); simp [bi_tt c17]
               rw [e9])
          refine aw_iinc1 (pc2 := 32) hk dX2_fenceSides_29 rfl rfl (by decide) ?_
          show AW K Q _ _ 32 [_, _, _, _] _ _ _
          refine aw_goto (tgt := 4) hk dX2_fenceSides_32 (by decide) ?_
          exact ih (i + 1) (by omega) (by omega)
        · refine aw_iload_n (pc2 := 21) hk dX2_fenceSides_20 rfl rfl ?_
          refine aw_aload_n (pc2 := 22) hk dX2_fenceSides_21 rfl rfl ?_
          refine aw_iload_n (pc2 := 23) hk dX2_fenceSides_22 rfl rfl ?_
          refine aw_iload_n (pc2 := 24) hk dX2_fenceSides_23 rfl rfl ?_
          refine aw_cV (rm2 := rmX2_keptSides) (pc2 := 27) hk veX2_keptSides dX2_fenceSides_24 rfl ml_X2_57 ⟨(Nat.le_of_ble_eq_true rfl), (Nat.le_of_ble_eq_true rfl)⟩ [_, _] rfl rfl (Nat.le_of_ble_eq_true rfl) (Nat.le_of_ble_eq_true rfl) (Nat.le_of_ble_eq_true rfl) (o_X2 rfl) (t_keptSides hw hg hw6 hg6 (by omega) ?_)
          refine aw_iadd (pc2 := 28) hk dX2_fenceSides_27 rfl ?_
          refine aw_istore_n (pc2 := 29) hk dX2_fenceSides_28 rfl (by decide) ?_
          show AW K Q _ _ 29 [_, _, _, _] _ _ _
          first
            | (have e9 : sI (fun c => if inl I c f then sI (fun s => bi (ksd I w g c f s)) 4 else 0) i = sI (fun c => if inl I c f then sI (fun s => bi (ksd I w g c f s)) 4 else 0) (i + 1) := by (show _ = _ + (if _ then _ else _)); simp [bi_ff c17]
               rw [e9])
            | (have e9 : sI (fun c => if inl I c f then sI (fun s => bi (ksd I w g c f s)) 4 else 0) i + sI (fun s => bi (ksd I w g i f s)) 4 = sI (fun c => if inl I c f then sI (fun s => bi (ksd I w g c f s)) 4 else 0) (i + 1) := by (show _ = _ + (if _ then _ else _)); simp [bi_tt c17]
               rw [e9])
          refine aw_iinc1 (pc2 := 32) hk dX2_fenceSides_29 rfl rfl (by decide) ?_
          show AW K Q _ _ 32 [_, _, _, _] _ _ _
          refine aw_goto (tgt := 4) hk dX2_fenceSides_32 (by decide) ?_
          exact ih (i + 1) (by omega) (by omega)
  refine aw_iconst (v := 0) (pc2 := 1) hk dX2_fenceSides_0 rfl (by decide) ?_
  refine aw_istore_n (pc2 := 2) hk dX2_fenceSides_1 rfl (by decide) ?_
  show AW K Q _ _ 2 [_, _, _, _] _ _ _
  refine aw_iconst (v := 0) (pc2 := 3) hk dX2_fenceSides_2 rfl (by decide) ?_
  refine aw_istore_n (pc2 := 4) hk dX2_fenceSides_3 rfl (by decide) ?_
  show AW K Q _ _ 4 [_, _, _, _] _ _ _
  exact loop 257 0 (by omega) (by omega)
set_option maxHeartbeats 800000 in
set_option maxRecDepth 100000 in
theorem t_renew {n : Nat} {d : D2} {I : M2} {J : J2} {S : M2} {L : J2} {R : R2} {Q : QT} {x y : Int32} (hq : Q none n (H5 d (rw5 I 2 256 (fun b => if b = 2 ∨ b = 6 then -1 else 0)) J (u2 (u2 S 1 0 x) 1 1 y) L R)) : Calls yX2_renew cX2_renew 4 none rmX2_renew [.ref 1, .int x, .int y] n (H5 d I J S L R) Q := by
  refine Calls.of (by decide) (Nat.le_of_ble_eq_true rfl) ?_
  intro K hk
  show AW K Q 0 0 0 [some (.ref 1), some (.int x), some (.int y), none] [] n (H5 d I J S L R)
  have loop : ∀ (k i : Nat), i ≤ 256 → 256 + 1 ≤ i + k → AW K Q 0 0 12 [some (.ref 1), some (.int x), some (.int y), some (.int (nI i))] [] n (H5 d (rw5 I 2 i (fun b => if b = 2 ∨ b = 6 then -1 else 0)) J (u2 (u2 S 1 0 x) 1 1 y) L R) := by
    intro k
    induction k with
    | zero => intro i  hi hn; omega
    | succ k ih =>
      intro i  hi hn
      refine aw_iload_n (pc2 := 13) hk dX2_renew_12 rfl rfl ?_
      refine aw_sipush (v := 256) (pc2 := 16) hk dX2_renew_13 rfl (by decide) ?_
      refine aw_icN_ge (y := 256) (tgt := 60) (pc2 := 19) hk dX2_renew_16 (by decide) rfl rfl rfl (by omega) (by omega) (fun c16 => ?_) (fun c16 => ?_)
      · obtain rfl : i = 256 := by omega
        refine aw_vret hk dX2_renew_60 (Nat.le_of_ble_eq_true rfl) (Nat.le_of_ble_eq_true rfl) hq
      · refine aw_aload_n (pc2 := 20) hk dX2_renew_19 rfl rfl ?_
        refine aw_get (v := .ref 2) (pc2 := 23) hk ckX2 2 dX2_renew_20 rfl fl_X2_9 (by decide) (o_X2 rfl) rfl ?_
        refine aw_iload_n (pc2 := 24) hk dX2_renew_23 rfl rfl ?_
        refine aw_iconst (v := -1) (pc2 := 25) hk dX2_renew_24 rfl (by decide) ?_
        refine h_iast (pc2 := 26) hk dX2_renew_25 rfl rfl rfl (by omega) (by decide) ?_
        refine aw_aload_n (pc2 := 27) hk dX2_renew_26 rfl rfl ?_
        refine aw_get (v := .ref 3) (pc2 := 30) hk ckX2 3 dX2_renew_27 rfl fl_X2_15 (by decide) (o_X2 rfl) rfl ?_
        refine aw_iload_n (pc2 := 31) hk dX2_renew_30 rfl rfl ?_
        refine aw_iconst (v := 0) (pc2 := 32) hk dX2_renew_31 rfl (by decide) ?_
        refine h_iast (pc2 := 33) hk dX2_renew_32 rfl rfl rfl (by omega) (by decide) ?_
        refine aw_aload_n (pc2 := 34) hk dX2_renew_33 rfl rfl ?_
        refine aw_get (v := .ref 4) (pc2 := 37) hk ckX2 4 dX2_renew_34 rfl fl_X2_18 (by decide) (o_X2 rfl) rfl ?_
        refine aw_iload_n (pc2 := 38) hk dX2_renew_37 rfl rfl ?_
        refine aw_iconst (v := 0) (pc2 := 39) hk dX2_renew_38 rfl (by decide) ?_
        refine h_zast (pc2 := 40) hk dX2_renew_39 rfl rfl rfl (by omega) (by decide) (by first | exact Or.inl rfl | exact Or.inr rfl) ?_
        refine aw_aload_n (pc2 := 41) hk dX2_renew_40 rfl rfl ?_
        refine aw_get (v := .ref 5) (pc2 := 44) hk ckX2 5 dX2_renew_41 rfl fl_X2_22 (by decide) (o_X2 rfl) rfl ?_
        refine aw_iload_n (pc2 := 45) hk dX2_renew_44 rfl rfl ?_
        refine aw_iconst (v := 0) (pc2 := 46) hk dX2_renew_45 rfl (by decide) ?_
        refine h_zast (pc2 := 47) hk dX2_renew_46 rfl rfl rfl (by omega) (by decide) (by first | exact Or.inl rfl | exact Or.inr rfl) ?_
        refine aw_aload_n (pc2 := 48) hk dX2_renew_47 rfl rfl ?_
        refine aw_get (v := .ref 6) (pc2 := 51) hk ckX2 6 dX2_renew_48 rfl fl_X2_25 (by decide) (o_X2 rfl) rfl ?_
        refine aw_iload_n (pc2 := 52) hk dX2_renew_51 rfl rfl ?_
        refine aw_iconst (v := -1) (pc2 := 53) hk dX2_renew_52 rfl (by decide) ?_
        refine h_iast (pc2 := 54) hk dX2_renew_53 rfl rfl rfl (by omega) (by decide) ?_
        refine aw_I (rw5 I 2 (i + 1) (fun b => if b = 2 ∨ b = 6 then -1 else 0)) (rw5_st I 2 i _ rfl rfl rfl rfl rfl rfl rfl rfl rfl) ?_
        refine aw_iinc1 (pc2 := 57) hk dX2_renew_54 rfl rfl (by decide) ?_
        show AW K Q _ _ 57 [_, _, _, _] _ _ _
        refine aw_goto (tgt := 12) hk dX2_renew_57 (by decide) ?_
        exact ih (i + 1) (by omega) (by omega)
  refine aw_aload_n (pc2 := 1) hk dX2_renew_0 rfl rfl ?_
  refine aw_iload_n (pc2 := 2) hk dX2_renew_1 rfl rfl ?_
  refine aw_put (pc2 := 5) hk ckX2 0 dX2_renew_2 rfl fl_X2_28 (by decide) rfl (o_X2 rfl) (fun _ => rfl) (fun _ => rfl) (Nat.le_of_ble_eq_true rfl) ?_
  rw [p_X2_0 rfl]
  refine aw_aload_n (pc2 := 6) hk dX2_renew_5 rfl rfl ?_
  refine aw_iload_n (pc2 := 7) hk dX2_renew_6 rfl rfl ?_
  refine aw_put (pc2 := 10) hk ckX2 1 dX2_renew_7 rfl fl_X2_32 (by decide) rfl (o_X2 rfl) (fun _ => rfl) (fun _ => rfl) (Nat.le_of_ble_eq_true rfl) ?_
  rw [p_X2_1 rfl]
  refine aw_iconst (v := 0) (pc2 := 11) hk dX2_renew_10 rfl (by decide) ?_
  refine aw_istore_n (pc2 := 12) hk dX2_renew_11 rfl (by decide) ?_
  show AW K Q _ _ 12 [_, _, _, _] _ _ _
  refine aw_I (rw5 I 2 0 (fun b => if b = 2 ∨ b = 6 then -1 else 0)) (rw5_0 _ _ _).symm ?_
  exact loop 257 0 (by omega) (by omega)
