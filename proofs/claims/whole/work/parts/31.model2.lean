theorem mnL_le {x y : Int64} (h : x ≤ y) : x = mnL x y := (if_neg (by rw [j_lt]; rw [j_le] at h; omega)).symm
theorem mnL_gt {x y : Int64} (h : ¬ x ≤ y) : y = mnL x y := (if_pos (by rw [j_lt]; rw [j_le] at h; omega)).symm
def OM (I : M2) (oc : Nat) (nc : Nat → Nat) : Prop := ∀ o, o < oc → I 94 o = nI (nc o) ∧ nc o ≤ 12
theorem in_n {x : Int32} {m : Nat} (hm : m < 2 ^ 30) (h : (0 : Int64) ≤ x.toInt64 ∧ x.toInt64 ≤ (nI m - 1).toInt64) : ∃ j, x = nI j ∧ j < m := by
  obtain ⟨h1, h2⟩ := h
  simp only [j_le, i64, k0, nI_m m hm] at h1 h2
  exact ⟨x.toInt.toNat, i_eq (by omega), by omega⟩
theorem in_y {j m : Nat} (hm : m < 2 ^ 30) (h : j < m) : (0 : Int64) ≤ (nI j).toInt64 ∧ (nI j).toInt64 ≤ (nI m - 1).toInt64 := by
  simp only [j_le, i64, k0, nI_m m hm, nI_toInt (show j < 2 ^ 31 by omega)]
  omega
def duM (J : J2) (k : Nat) : Int64 := J 101 k + J 102 k + J 103 k - J 104 k
def owM (J : J2) (k : Nat) : Int64 := duM J k - J 105 k
def inM (I : M2) (J : J2) (S : M2) (k : Nat) : Int64 := if I 97 k = 4 then J 107 k + owM J k * (I 100 k).toInt64 * (S 78 16 - I 108 k).toInt64 / 1000000 else 0
def tlM (I : M2) (J : J2) (S : M2) (k j : Nat) : Int64 := match j with
  | 0 => (I 96 k).toInt64
  | 1 => (I 97 k).toInt64
  | 2 => (I 99 k).toInt64
  | 3 => J 101 k
  | 4 => J 102 k
  | 5 => J 103 k
  | 6 => J 104 k
  | 7 => duM J k
  | 8 => J 105 k
  | 9 => owM J k
  | 10 => inM I J S k
  | 11 => J 106 k
  | 12 => (I 98 k).toInt64
  | _ => duM J k - J 109 (4 * k) - J 109 (4 * k + 1) - J 109 (4 * k + 2) - J 109 (4 * k + 3)
def tkM (I : M2) (c : Nat) : Bool := decide (0 < I 83 c)
def lkM (I : M2) (c k : Nat) : Int32 := match k with
  | 0 => I 79 c
  | 1 => I 80 c
  | 2 => bi (I 81 c != 0)
  | 3 => bi (tkM I c)
  | _ => bi (I 82 c != 0)
set_option maxHeartbeats 800000 in
set_option maxRecDepth 100000 in
theorem m_isCase {n : Nat} {d : D2} {I : M2} {J : J2} {S : M2} {L : J2} {R : R2} {Q : QT} {w g fc oc uc td : Nat} {md op : Bool} (hB : MB S w g fc oc uc td md op) {nc : Nat → Nat} (hN : OM I oc nc) {x y : Int32} (hq1 : ∀ o k, x = nI o → y = nI k → o < oc → k < nc o → Q (some (.int 1)) n (H5 d I J S L R)) (hq2 : (∀ o k, x = nI o → y = nI k → ¬ (o < oc ∧ k < nc o)) → Q (some (.int 0)) n (H5 d I J S L R)) : Calls yX7_isCase cX7_isCase 3 (some .boolean) rmX7_isCase [.ref 78, .int x, .int y] n (H5 d I J S L R) Q := by
  refine Calls.of (by decide) (Nat.le_of_ble_eq_true rfl) ?_
  intro K hk
  show AW K Q 0 0 0 [some (.ref 78), some (.int x), some (.int y)] [] n (H5 d I J S L R)
  obtain ⟨hw, hg, hw1, hw6, hg1, hg6, hfc, hfc2, hoc, hoc6, huc, huc5, htd, htd4, hmd, hop⟩ := id hB
  refine aw_iload_n (pc2 := 1) hk dX7_isCase_0 rfl rfl ?_
  refine aw_i2l (pc2 := 2) hk dX7_isCase_1 rfl ?_
  refine aw_lconst (v := 0) (pc2 := 3) hk dX7_isCase_2 rfl (by decide) ?_
  refine aw_aload_n (pc2 := 4) hk dX7_isCase_3 rfl rfl ?_
  refine aw_get (pc2 := 7) hk ckX7 19 dX7_isCase_4 rfl fl_X7_197 (by decide) (o_X7 rfl) rfl ?_
  refine aw_iconst (v := 1) (pc2 := 8) hk dX7_isCase_7 rfl (by decide) ?_
  refine aw_isub (pc2 := 9) hk dX7_isCase_8 rfl ?_
  refine aw_i2l (pc2 := 10) hk dX7_isCase_9 rfl ?_
  rw [hoc]
  refine aw_cS (rm2 := rmX7_in) (pc2 := 13) hk seX7_in dX7_isCase_10 rfl ml_X7_133 ⟨(Nat.le_of_ble_eq_true rfl), (Nat.le_of_ble_eq_true rfl)⟩ [_, _, _] rfl rfl (Nat.le_of_ble_eq_true rfl) (Nat.le_of_ble_eq_true rfl) (Nat.le_of_ble_eq_true rfl) (m_in ?_)
  refine aw_if_eq (tgt := 38) (pc2 := 16) hk dX7_isCase_13 (by decide) rfl (fun c13 => ?_) (fun c13 => ?_)
  · have hq := hq2 (by
      first
        | (intro o2 k2 h1 h2 h3; obtain rfl : o = o2 := (nI_eq (by omega) (by omega)).mp h1; subst h2; exact bi_no c31 (in_y (by omega) h3.2))
        | (intro o2 k2 h1 h2 h3; subst h1; exact bi_no c13 (in_y (by omega) h3.1)))
    refine aw_iconst (v := 0) (pc2 := 39) hk dX7_isCase_38 rfl (by decide) ?_
    refine aw_zret (by first | exact Or.inl rfl | exact Or.inr rfl) hk dX7_isCase_39 (Nat.le_of_ble_eq_true rfl) (Nat.le_of_ble_eq_true rfl) hq
  · obtain ⟨o, ho1, ho2⟩ := in_n (by omega) (bi_ya c13)
    obtain ⟨hn1, hn2⟩ := hN o ho2
    subst ho1
    refine aw_iload_n (pc2 := 17) hk dX7_isCase_16 rfl rfl ?_
    refine aw_i2l (pc2 := 18) hk dX7_isCase_17 rfl ?_
    refine aw_lconst (v := 0) (pc2 := 19) hk dX7_isCase_18 rfl (by decide) ?_
    refine aw_aload_n (pc2 := 20) hk dX7_isCase_19 rfl rfl ?_
    refine aw_get (pc2 := 23) hk ckX7 23 dX7_isCase_20 rfl fl_X7_63 (by decide) (o_X7 rfl) rfl ?_
    refine aw_iload_n (pc2 := 24) hk dX7_isCase_23 rfl rfl ?_
    refine h_iald (pc2 := 25) hk dX7_isCase_24 rfl rfl rfl (by omega) (by decide) ?_
    refine aw_iconst (v := 1) (pc2 := 26) hk dX7_isCase_25 rfl (by decide) ?_
    refine aw_isub (pc2 := 27) hk dX7_isCase_26 rfl ?_
    refine aw_i2l (pc2 := 28) hk dX7_isCase_27 rfl ?_
    rw [hn1]
    refine aw_cS (rm2 := rmX7_in) (pc2 := 31) hk seX7_in dX7_isCase_28 rfl ml_X7_133 ⟨(Nat.le_of_ble_eq_true rfl), (Nat.le_of_ble_eq_true rfl)⟩ [_, _, _] rfl rfl (Nat.le_of_ble_eq_true rfl) (Nat.le_of_ble_eq_true rfl) (Nat.le_of_ble_eq_true rfl) (m_in ?_)
    refine aw_if_eq (tgt := 38) (pc2 := 34) hk dX7_isCase_31 (by decide) rfl (fun c31 => ?_) (fun c31 => ?_)
    · have hq := hq2 (by
        first
          | (intro o2 k2 h1 h2 h3; obtain rfl : o = o2 := (nI_eq (by omega) (by omega)).mp h1; subst h2; exact bi_no c31 (in_y (by omega) h3.2))
          | (intro o2 k2 h1 h2 h3; subst h1; exact bi_no c13 (in_y (by omega) h3.1)))
      refine aw_iconst (v := 0) (pc2 := 39) hk dX7_isCase_38 rfl (by decide) ?_
      refine aw_zret (by first | exact Or.inl rfl | exact Or.inr rfl) hk dX7_isCase_39 (Nat.le_of_ble_eq_true rfl) (Nat.le_of_ble_eq_true rfl) hq
    · obtain ⟨k, hk1, hk2⟩ := in_n (by omega) (bi_ya c31)
      have hq := hq1 o k rfl hk1 ho2 hk2
      refine aw_iconst (v := 1) (pc2 := 35) hk dX7_isCase_34 rfl (by decide) ?_
      refine aw_goto (tgt := 39) hk dX7_isCase_35 (by decide) ?_
      refine aw_zret (by first | exact Or.inl rfl | exact Or.inr rfl) hk dX7_isCase_39 (Nat.le_of_ble_eq_true rfl) (Nat.le_of_ble_eq_true rfl) hq
set_option maxHeartbeats 800000 in
set_option maxRecDepth 100000 in
theorem m_line {n : Nat} {d : D2} {I : M2} {J : J2} {S : M2} {L : J2} {R : R2} {Q : QT} {w g fc oc uc td : Nat} {md op : Bool} (hB : MB S w g fc oc uc td md op) {x y s : Int32} (hs : s = 0 ∨ s = 1) (hq1 : plc w g x y = none → Q (some (.int (-101))) n (H5 d I J S L R)) (hq2 : ∀ c, plc w g x y = some c → (op = true ∨ tkM I c = true) → Q (some (.int (-103))) n (H5 d I J S L R)) (hq3 : ∀ c, plc w g x y = some c → op = false → tkM I c = false → Q (some (.int (bi (I 82 c != 0)))) n (H5 d (u2 I 82 c s) J S L R)) : Calls yX7_line cX7_line 6 (some .int) rmX7_line [.ref 78, .int x, .int y, .int s] n (H5 d I J S L R) Q := by
  refine Calls.of (by decide) (Nat.le_of_ble_eq_true rfl) ?_
  intro K hk
  show AW K Q 0 0 0 [some (.ref 78), some (.int x), some (.int y), some (.int s), none, none] [] n (H5 d I J S L R)
  obtain ⟨hw, hg, hw1, hw6, hg1, hg6, hfc, hfc2, hoc, hoc6, huc, huc5, htd, htd4, hmd, hop⟩ := id hB
  refine aw_aload_n (pc2 := 1) hk dX7_line_0 rfl rfl ?_
  refine aw_iload_n (pc2 := 2) hk dX7_line_1 rfl rfl ?_
  refine aw_iload_n (pc2 := 3) hk dX7_line_2 rfl rfl ?_
  refine aw_cV (rm2 := rmX7_isCell) (pc2 := 6) hk veX7_isCell dX7_line_3 rfl ml_X7_143 ⟨(Nat.le_of_ble_eq_true rfl), (Nat.le_of_ble_eq_true rfl)⟩ [_, _] rfl rfl (Nat.le_of_ble_eq_true rfl) (Nat.le_of_ble_eq_true rfl) (Nat.le_of_ble_eq_true rfl) (o_X7 rfl) (m_isCell hB ?_)
  refine aw_if_ne (tgt := 12) (pc2 := 9) hk dX7_line_6 (by decide) rfl (fun c6 => ?_) (fun c6 => ?_)
  · obtain ⟨c, hc1⟩ := isS c6
    have hc3 := plc_lt hw6 hg6 hc1
    refine aw_bipush (v := nI 16) (pc2 := 14) hk dX7_line_12 rfl (by decide) ?_
    refine aw_iload_n (pc2 := 15) hk dX7_line_14 rfl rfl ?_
    refine aw_imul (pc2 := 16) hk dX7_line_15 rfl ?_
    refine aw_iload_n (pc2 := 17) hk dX7_line_16 rfl rfl ?_
    refine aw_iadd (pc2 := 18) hk dX7_line_17 rfl ?_
    rw [plc_val hc1]
    refine aw_istore (pc2 := 20) hk dX7_line_18 rfl (by decide) ?_
    show AW K Q _ _ 20 [_, _, _, _, _, _] _ _ _
    refine aw_aload_n (pc2 := 21) hk dX7_line_20 rfl rfl ?_
    refine aw_get (pc2 := 24) hk ckX7 20 dX7_line_21 rfl fl_X7_200 (by decide) (o_X7 rfl) rfl ?_
    rw [hop]
    refine aw_if_ne (tgt := 37) (pc2 := 27) hk dX7_line_24 (by decide) rfl (fun c24 => ?_) (fun c24 => ?_)
    · refine aw_bipush (v := -103) (pc2 := 39) hk dX7_line_37 rfl (by decide) ?_
      refine aw_iret hk dX7_line_39 (Nat.le_of_ble_eq_true rfl) (Nat.le_of_ble_eq_true rfl) (hq2 c hc1 (by first | exact Or.inl (bi_tt c24) | exact Or.inr (by unfold tkM; simp only [decide_eq_true_eq]; rw [i_lt, l0]; rw [i_le, l0] at c34; omega)))
    · refine aw_aload_n (pc2 := 28) hk dX7_line_27 rfl rfl ?_
      refine aw_get (pc2 := 31) hk ckX7 6 dX7_line_28 rfl fl_X7_30 (by decide) (o_X7 rfl) rfl ?_
      refine aw_iload (pc2 := 33) hk dX7_line_31 rfl rfl ?_
      refine h_iald (pc2 := 34) hk dX7_line_33 rfl rfl rfl hc3 (by decide) ?_
      refine aw_if_le (tgt := 40) (pc2 := 37) hk dX7_line_34 (by decide) rfl (fun c34 => ?_) (fun c34 => ?_)
      · have ht : tkM I c = false := by unfold tkM; simp only [decide_eq_false_iff_not]; rw [i_lt, l0]; rw [i_le, l0] at c34; omega
        refine aw_aload_n (pc2 := 41) hk dX7_line_40 rfl rfl ?_
        refine aw_get (pc2 := 44) hk ckX7 5 dX7_line_41 rfl fl_X7_27 (by decide) (o_X7 rfl) rfl ?_
        refine aw_iload (pc2 := 46) hk dX7_line_44 rfl rfl ?_
        refine h_zald (pc2 := 47) hk dX7_line_46 rfl rfl rfl hc3 (by decide) ?_
        refine aw_if_eq (tgt := 54) (pc2 := 50) hk dX7_line_47 (by decide) rfl (fun c47 => ?_) (fun c47 => ?_)
        · refine aw_iconst (v := 0) (pc2 := 55) hk dX7_line_54 rfl (by decide) ?_
          refine aw_top (bi (I 82 c != 0)) (by simp [bi, c47]) ?_
          refine aw_istore (pc2 := 57) hk dX7_line_55 rfl (by decide) ?_
          show AW K Q _ _ 57 [_, _, _, _, _, _] _ _ _
          refine aw_aload_n (pc2 := 58) hk dX7_line_57 rfl rfl ?_
          refine aw_get (pc2 := 61) hk ckX7 5 dX7_line_58 rfl fl_X7_27 (by decide) (o_X7 rfl) rfl ?_
          refine aw_iload (pc2 := 63) hk dX7_line_61 rfl rfl ?_
          refine aw_iload_n (pc2 := 64) hk dX7_line_63 rfl rfl ?_
          refine h_zast (pc2 := 65) hk dX7_line_64 rfl rfl rfl hc3 (by decide) hs ?_
          refine aw_iload (pc2 := 67) hk dX7_line_65 rfl rfl ?_
          refine aw_iret hk dX7_line_67 (Nat.le_of_ble_eq_true rfl) (Nat.le_of_ble_eq_true rfl) (hq3 c hc1 (bi_ff c24) ht)
        · refine aw_iconst (v := 1) (pc2 := 51) hk dX7_line_50 rfl (by decide) ?_
          refine aw_goto (tgt := 55) hk dX7_line_51 (by decide) ?_
          refine aw_top (bi (I 82 c != 0)) (by simp [bi, c47]) ?_
          refine aw_istore (pc2 := 57) hk dX7_line_55 rfl (by decide) ?_
          show AW K Q _ _ 57 [_, _, _, _, _, _] _ _ _
          refine aw_aload_n (pc2 := 58) hk dX7_line_57 rfl rfl ?_
          refine aw_get (pc2 := 61) hk ckX7 5 dX7_line_58 rfl fl_X7_27 (by decide) (o_X7 rfl) rfl ?_
          refine aw_iload (pc2 := 63) hk dX7_line_61 rfl rfl ?_
          refine aw_iload_n (pc2 := 64) hk dX7_line_63 rfl rfl ?_
          refine h_zast (pc2 := 65) hk dX7_line_64 rfl rfl rfl hc3 (by decide) hs ?_
          refine aw_iload (pc2 := 67) hk dX7_line_65 rfl rfl ?_
          refine aw_iret hk dX7_line_67 (Nat.le_of_ble_eq_true rfl) (Nat.le_of_ble_eq_true rfl) (hq3 c hc1 (bi_ff c24) ht)
      · refine aw_bipush (v := -103) (pc2 := 39) hk dX7_line_37 rfl (by decide) ?_
        refine aw_iret hk dX7_line_39 (Nat.le_of_ble_eq_true rfl) (Nat.le_of_ble_eq_true rfl) (hq2 c hc1 (by first | exact Or.inl (bi_tt c24) | exact Or.inr (by unfold tkM; simp only [decide_eq_true_eq]; rw [i_lt, l0]; rw [i_le, l0] at c34; omega)))
  · refine aw_bipush (v := -101) (pc2 := 11) hk dX7_line_9 rfl (by decide) ?_
    refine aw_iret hk dX7_line_11 (Nat.le_of_ble_eq_true rfl) (Nat.le_of_ble_eq_true rfl) (hq1 (isN c6))
set_option maxHeartbeats 800000 in
set_option maxRecDepth 100000 in
theorem m_wanted {n : Nat} {d : D2} {I : M2} {J : J2} {S : M2} {L : J2} {R : R2} {Q : QT} {f : Int32} (hq : Q (some (.int (sI (fun c => bi (I 82 c != 0 && lft I c f)) 256))) n (H5 d I J S L R)) : Calls yX7_wanted cX7_wanted 4 (some .int) rmX7_wanted [.ref 78, .int f] n (H5 d I J S L R) Q := by
  refine Calls.of (by decide) (Nat.le_of_ble_eq_true rfl) ?_
  intro K hk
  show AW K Q 0 0 0 [some (.ref 78), some (.int f), none, none] [] n (H5 d I J S L R)
  have loop : ∀ (k i : Nat), i ≤ 256 → 256 + 1 ≤ i + k → AW K Q 0 0 4 [some (.ref 78), some (.int f), some (.int (sI (fun c => bi (I 82 c != 0 && lft I c f)) i)), some (.int (nI i))] [] n (H5 d I J S L R) := by
    intro k
    induction k with
    | zero => intro i  hi hn; omega
    | succ k ih =>
      intro i  hi hn
      refine aw_iload_n (pc2 := 5) hk dX7_wanted_4 rfl rfl ?_
      refine aw_sipush (v := 256) (pc2 := 8) hk dX7_wanted_5 rfl (by decide) ?_
      refine aw_icN_ge (y := 256) (tgt := 43) (pc2 := 11) hk dX7_wanted_8 (by decide) rfl rfl rfl (by omega) (by omega) (fun c8 => ?_) (fun c8 => ?_)
      · obtain rfl : i = 256 := by omega
        refine aw_iload_n (pc2 := 44) hk dX7_wanted_43 rfl rfl ?_
        refine aw_iret hk dX7_wanted_44 (Nat.le_of_ble_eq_true rfl) (Nat.le_of_ble_eq_true rfl) hq
      · refine aw_iload_n (pc2 := 12) hk dX7_wanted_11 rfl rfl ?_
        refine aw_aload_n (pc2 := 13) hk dX7_wanted_12 rfl rfl ?_
        refine aw_get (pc2 := 16) hk ckX7 5 dX7_wanted_13 rfl fl_X7_27 (by decide) (o_X7 rfl) rfl ?_
        refine aw_iload_n (pc2 := 17) hk dX7_wanted_16 rfl rfl ?_
        refine h_zald (pc2 := 18) hk dX7_wanted_17 rfl rfl rfl (by omega) (by decide) ?_
        refine aw_if_eq (tgt := 34) (pc2 := 21) hk dX7_wanted_18 (by decide) rfl (fun c18 => ?_) (fun c18 => ?_)
        · refine aw_iconst (v := 0) (pc2 := 35) hk dX7_wanted_34 rfl (by decide) ?_
          refine aw_iadd (pc2 := 36) hk dX7_wanted_35 rfl ?_
          refine aw_top (sI (fun c => bi (I 82 c != 0 && lft I c f)) (i + 1)) (show _ + _ = _ + bi _ by first | (rw [bi_tt c27]; simp [bi, c18]; done) | (rw [bi_ff c27]; simp [bi]; done) | (simp [bi, c18]; done)) ?_
          refine aw_istore_n (pc2 := 37) hk dX7_wanted_36 rfl (by decide) ?_
          show AW K Q _ _ 37 [_, _, _, _] _ _ _
          refine aw_iinc1 (pc2 := 40) hk dX7_wanted_37 rfl rfl (by decide) ?_
          show AW K Q _ _ 40 [_, _, _, _] _ _ _
          refine aw_goto (tgt := 4) hk dX7_wanted_40 (by decide) ?_
          exact ih (i + 1) (by omega) (by omega)
        · refine aw_aload_n (pc2 := 22) hk dX7_wanted_21 rfl rfl ?_
          refine aw_iload_n (pc2 := 23) hk dX7_wanted_22 rfl rfl ?_
          refine aw_iload_n (pc2 := 24) hk dX7_wanted_23 rfl rfl ?_
          refine aw_cV (rm2 := rmX7_isLeft) (pc2 := 27) hk veX7_isLeft dX7_wanted_24 rfl ml_X7_190 ⟨(Nat.le_of_ble_eq_true rfl), (Nat.le_of_ble_eq_true rfl)⟩ [_, _] rfl rfl (Nat.le_of_ble_eq_true rfl) (Nat.le_of_ble_eq_true rfl) (Nat.le_of_ble_eq_true rfl) (o_X7 rfl) (m_isLeft rfl (by omega) ?_)
          refine aw_if_eq (tgt := 34) (pc2 := 30) hk dX7_wanted_27 (by decide) rfl (fun c27 => ?_) (fun c27 => ?_)
          · refine aw_iconst (v := 0) (pc2 := 35) hk dX7_wanted_34 rfl (by decide) ?_
            refine aw_iadd (pc2 := 36) hk dX7_wanted_35 rfl ?_
            refine aw_top (sI (fun c => bi (I 82 c != 0 && lft I c f)) (i + 1)) (show _ + _ = _ + bi _ by first | (rw [bi_tt c27]; simp [bi, c18]; done) | (rw [bi_ff c27]; simp [bi]; done) | (simp [bi, c18]; done)) ?_
            refine aw_istore_n (pc2 := 37) hk dX7_wanted_36 rfl (by decide) ?_
            show AW K Q _ _ 37 [_, _, _, _] _ _ _
            refine aw_iinc1 (pc2 := 40) hk dX7_wanted_37 rfl rfl (by decide) ?_
            show AW K Q _ _ 40 [_, _, _, _] _ _ _
            refine aw_goto (tgt := 4) hk dX7_wanted_40 (by decide) ?_
            exact ih (i + 1) (by omega) (by omega)
          · refine aw_iconst (v := 1) (pc2 := 31) hk dX7_wanted_30 rfl (by decide) ?_
            refine aw_goto (tgt := 35) hk dX7_wanted_31 (by decide) ?_
            refine aw_iadd (pc2 := 36) hk dX7_wanted_35 rfl ?_
            refine aw_top (sI (fun c => bi (I 82 c != 0 && lft I c f)) (i + 1)) (show _ + _ = _ + bi _ by first | (rw [bi_tt c27]; simp [bi, c18]; done) | (rw [bi_ff c27]; simp [bi]; done) | (simp [bi, c18]; done)) ?_
            refine aw_istore_n (pc2 := 37) hk dX7_wanted_36 rfl (by decide) ?_
            show AW K Q _ _ 37 [_, _, _, _] _ _ _
            refine aw_iinc1 (pc2 := 40) hk dX7_wanted_37 rfl rfl (by decide) ?_
            show AW K Q _ _ 40 [_, _, _, _] _ _ _
            refine aw_goto (tgt := 4) hk dX7_wanted_40 (by decide) ?_
            exact ih (i + 1) (by omega) (by omega)
  refine aw_iconst (v := 0) (pc2 := 1) hk dX7_wanted_0 rfl (by decide) ?_
  refine aw_istore_n (pc2 := 2) hk dX7_wanted_1 rfl (by decide) ?_
  show AW K Q _ _ 2 [_, _, _, _] _ _ _
  refine aw_iconst (v := 0) (pc2 := 3) hk dX7_wanted_2 rfl (by decide) ?_
  refine aw_istore_n (pc2 := 4) hk dX7_wanted_3 rfl (by decide) ?_
  show AW K Q _ _ 4 [_, _, _, _] _ _ _
  exact loop 257 0 (by omega) (by omega)
set_option maxHeartbeats 800000 in
set_option maxRecDepth 100000 in
theorem m_object {n : Nat} {d : D2} {I : M2} {J : J2} {S : M2} {L : J2} {R : R2} {Q : QT} {w g fc oc uc td : Nat} {md op : Bool} (hB : MB S w g fc oc uc td md op) {nc : Nat → Nat} (hN : OM I oc nc) (ho0 : op = true → 0 < oc) {x : Int32} (hq1 : ¬ (op = true) → Q (some (.int (-103))) n (H5 d I J S L R)) (hq2 : (op = true) → (∀ j, x = nI j → ¬ j < nc (oc - 1)) → Q (some (.int (-101))) n (H5 d I J S L R)) (hq3 : ∀ j, (op = true) → x = nI j → j < nc (oc - 1) → ¬ (I 97 (12 * (oc - 1) + j) = 0 ∧ S 78 16 ≤ I 92 (oc - 1) + I 93 (oc - 1)) → Q (some (.int (-103))) n (H5 d I J S L R)) (hq4 : ∀ j, (op = true) → x = nI j → j < nc (oc - 1) → (I 97 (12 * (oc - 1) + j) = 0 ∧ S 78 16 ≤ I 92 (oc - 1) + I 93 (oc - 1)) → Q (some (.int 1)) n (H5 d (u2 I 97 (12 * (oc - 1) + j) 1) J S L R)) : Calls yX7_object cX7_object 3 (some .int) rmX7_object [.ref 78, .int x] n (H5 d I J S L R) Q := by
  refine Calls.of (by decide) (Nat.le_of_ble_eq_true rfl) ?_
  intro K hk
  show AW K Q 0 0 0 [some (.ref 78), some (.int x), none] [] n (H5 d I J S L R)
  obtain ⟨hw, hg, hw1, hw6, hg1, hg6, hfc, hfc2, hoc, hoc6, huc, huc5, htd, htd4, hmd, hop⟩ := id hB
  refine aw_aload_n (pc2 := 1) hk dX7_object_0 rfl rfl ?_
  refine aw_get (pc2 := 4) hk ckX7 20 dX7_object_1 rfl fl_X7_200 (by decide) (o_X7 rfl) rfl ?_
  rw [hop]
  refine aw_if_ne (tgt := 10) (pc2 := 7) hk dX7_object_4 (by decide) rfl (fun c4 => ?_) (fun c4 => ?_)
  · refine aw_aload_n (pc2 := 11) hk dX7_object_10 rfl rfl ?_
    refine aw_get (pc2 := 14) hk ckX7 19 dX7_object_11 rfl fl_X7_197 (by decide) (o_X7 rfl) rfl ?_
    refine aw_iconst (v := 1) (pc2 := 15) hk dX7_object_14 rfl (by decide) ?_
    refine aw_isub (pc2 := 16) hk dX7_object_15 rfl ?_
    have hop1 := bi_tt c4
    have hoc1 := ho0 hop1
    refine aw_top (nI (oc - 1)) (by rw [hoc]; exact pk_sub (a := oc) (b := 1) (by omega)) ?_
    obtain ⟨hn1, hn2⟩ := hN (oc - 1) (by omega)
    refine aw_istore_n (pc2 := 17) hk dX7_object_16 rfl (by decide) ?_
    show AW K Q _ _ 17 [_, _, _] _ _ _
    refine aw_iload_n (pc2 := 18) hk dX7_object_17 rfl rfl ?_
    refine aw_i2l (pc2 := 19) hk dX7_object_18 rfl ?_
    refine aw_lconst (v := 0) (pc2 := 20) hk dX7_object_19 rfl (by decide) ?_
    refine aw_aload_n (pc2 := 21) hk dX7_object_20 rfl rfl ?_
    refine aw_get (pc2 := 24) hk ckX7 23 dX7_object_21 rfl fl_X7_63 (by decide) (o_X7 rfl) rfl ?_
    refine aw_iload_n (pc2 := 25) hk dX7_object_24 rfl rfl ?_
    refine h_iald (pc2 := 26) hk dX7_object_25 rfl rfl rfl (by omega) (by decide) ?_
    refine aw_iconst (v := 1) (pc2 := 27) hk dX7_object_26 rfl (by decide) ?_
    refine aw_isub (pc2 := 28) hk dX7_object_27 rfl ?_
    refine aw_i2l (pc2 := 29) hk dX7_object_28 rfl ?_
    rw [hn1]
    refine aw_cS (rm2 := rmX7_in) (pc2 := 32) hk seX7_in dX7_object_29 rfl ml_X7_133 ⟨(Nat.le_of_ble_eq_true rfl), (Nat.le_of_ble_eq_true rfl)⟩ [_, _, _] rfl rfl (Nat.le_of_ble_eq_true rfl) (Nat.le_of_ble_eq_true rfl) (Nat.le_of_ble_eq_true rfl) (m_in ?_)
    refine aw_if_ne (tgt := 38) (pc2 := 35) hk dX7_object_32 (by decide) rfl (fun c32 => ?_) (fun c32 => ?_)
    · obtain ⟨j, hj1, hj2⟩ := in_n (by omega) (bi_ya c32)
      subst hj1
      refine aw_aload_n (pc2 := 39) hk dX7_object_38 rfl rfl ?_
      refine aw_get (pc2 := 42) hk ckX7 26 dX7_object_39 rfl fl_X7_72 (by decide) (o_X7 rfl) rfl ?_
      refine aw_bipush (v := nI 12) (pc2 := 44) hk dX7_object_42 rfl (by decide) ?_
      refine aw_iload_n (pc2 := 45) hk dX7_object_44 rfl rfl ?_
      refine aw_imul (pc2 := 46) hk dX7_object_45 rfl ?_
      refine aw_iload_n (pc2 := 47) hk dX7_object_46 rfl rfl ?_
      refine aw_iadd (pc2 := 48) hk dX7_object_47 rfl ?_
      rw [mulN]
      refine h_iald (pc2 := 49) hk dX7_object_48 rfl rfl rfl (by omega) (by decide) ?_
      refine aw_if_ne (tgt := 72) (pc2 := 52) hk dX7_object_49 (by decide) rfl (fun c49 => ?_) (fun c49 => ?_)
      · refine aw_bipush (v := -103) (pc2 := 74) hk dX7_object_72 rfl (by decide) ?_
        refine aw_iret hk dX7_object_74 (Nat.le_of_ble_eq_true rfl) (Nat.le_of_ble_eq_true rfl) (by first | exact hq3 j hop1 rfl hj2 (fun h9 => c49 h9.1) | exact hq3 j hop1 rfl hj2 (fun h9 => c69 h9.2))
      · refine aw_aload_n (pc2 := 53) hk dX7_object_52 rfl rfl ?_
        refine aw_get (pc2 := 56) hk ckX7 16 dX7_object_53 rfl fl_X7_174 (by decide) (o_X7 rfl) rfl ?_
        refine aw_aload_n (pc2 := 57) hk dX7_object_56 rfl rfl ?_
        refine aw_get (pc2 := 60) hk ckX7 21 dX7_object_57 rfl fl_X7_57 (by decide) (o_X7 rfl) rfl ?_
        refine aw_iload_n (pc2 := 61) hk dX7_object_60 rfl rfl ?_
        refine h_iald (pc2 := 62) hk dX7_object_61 rfl rfl rfl (by omega) (by decide) ?_
        refine aw_aload_n (pc2 := 63) hk dX7_object_62 rfl rfl ?_
        refine aw_get (pc2 := 66) hk ckX7 22 dX7_object_63 rfl fl_X7_60 (by decide) (o_X7 rfl) rfl ?_
        refine aw_iload_n (pc2 := 67) hk dX7_object_66 rfl rfl ?_
        refine h_iald (pc2 := 68) hk dX7_object_67 rfl rfl rfl (by omega) (by decide) ?_
        refine aw_iadd (pc2 := 69) hk dX7_object_68 rfl ?_
        refine aw_icmp_le (tgt := 75) (pc2 := 72) hk dX7_object_69 (by decide) rfl (fun c69 => ?_) (fun c69 => ?_)
        · refine aw_aload_n (pc2 := 76) hk dX7_object_75 rfl rfl ?_
          refine aw_get (pc2 := 79) hk ckX7 26 dX7_object_76 rfl fl_X7_72 (by decide) (o_X7 rfl) rfl ?_
          refine aw_bipush (v := nI 12) (pc2 := 81) hk dX7_object_79 rfl (by decide) ?_
          refine aw_iload_n (pc2 := 82) hk dX7_object_81 rfl rfl ?_
          refine aw_imul (pc2 := 83) hk dX7_object_82 rfl ?_
          refine aw_iload_n (pc2 := 84) hk dX7_object_83 rfl rfl ?_
          refine aw_iadd (pc2 := 85) hk dX7_object_84 rfl ?_
          rw [mulN]
          refine aw_iconst (v := 1) (pc2 := 86) hk dX7_object_85 rfl (by decide) ?_
          refine h_iast (pc2 := 87) hk dX7_object_86 rfl rfl rfl (by omega) (by decide) ?_
          refine aw_iconst (v := 1) (pc2 := 88) hk dX7_object_87 rfl (by decide) ?_
          refine aw_iret hk dX7_object_88 (Nat.le_of_ble_eq_true rfl) (Nat.le_of_ble_eq_true rfl) (hq4 j hop1 rfl hj2 ⟨c49, c69⟩)
        · refine aw_bipush (v := -103) (pc2 := 74) hk dX7_object_72 rfl (by decide) ?_
          refine aw_iret hk dX7_object_74 (Nat.le_of_ble_eq_true rfl) (Nat.le_of_ble_eq_true rfl) (by first | exact hq3 j hop1 rfl hj2 (fun h9 => c49 h9.1) | exact hq3 j hop1 rfl hj2 (fun h9 => c69 h9.2))
    · refine aw_bipush (v := -101) (pc2 := 37) hk dX7_object_35 rfl (by decide) ?_
      refine aw_iret hk dX7_object_37 (Nat.le_of_ble_eq_true rfl) (Nat.le_of_ble_eq_true rfl) (hq2 hop1 (fun j h1 h2 => by subst h1; exact bi_no c32 (in_y (by omega) h2)))
  · refine aw_bipush (v := -103) (pc2 := 9) hk dX7_object_7 rfl (by decide) ?_
    refine aw_iret hk dX7_object_9 (Nat.le_of_ble_eq_true rfl) (Nat.le_of_ble_eq_true rfl) (hq1 (by rw [bi_ff c4]; decide))
set_option maxHeartbeats 800000 in
set_option maxRecDepth 100000 in
theorem m_close {n : Nat} {d : D2} {I : M2} {J : J2} {S : M2} {L : J2} {R : R2} {Q : QT} {w g fc oc uc td : Nat} {md op : Bool} (hB : MB S w g fc oc uc td md op) {nc : Nat → Nat} (hN : OM I oc nc) (h0 : 0 < oc) (hq1 : allB (fun k => dnS (I 97 (12 * (oc - 1) + k))) (nc (oc - 1)) = true → Q none n (H5 d (rowU I 82 256 (fun _ => 0)) J (u2 S 78 20 0) L R)) (hq2 : allB (fun k => dnS (I 97 (12 * (oc - 1) + k))) (nc (oc - 1)) = false → Q none n (H5 d I J S L R)) : Calls yX7_close cX7_close 5 none rmX7_close [.ref 78] n (H5 d I J S L R) Q := by
  refine Calls.of (by decide) (Nat.le_of_ble_eq_true rfl) ?_
  intro K hk
  show AW K Q 0 0 0 [some (.ref 78), none, none, none, none] [] n (H5 d I J S L R)
  obtain ⟨hw, hg, hw1, hw6, hg1, hg6, hfc, hfc2, hoc, hoc6, huc, huc5, htd, htd4, hmd, hop⟩ := id hB
  obtain ⟨hn1, hn2⟩ := hN (oc - 1) (by omega)
  have loop : ∀ (k i : Nat), i ≤ nc (oc - 1) → nc (oc - 1) + 1 ≤ i + k → AW K Q 0 0 11 [some (.ref 78), some (.int (nI (oc - 1))), some (.int (bi (allB (fun k => dnS (I 97 (12 * (oc - 1) + k))) i))), some (.int (nI i)), none] [] n (H5 d I J S L R) := by
    intro k
    induction k with
    | zero => intro i h1 h2; omega
    | succ k ih =>
      intro i hi hn
      refine aw_iload_n (pc2 := 12) hk dX7_close_11 rfl rfl ?_
      refine aw_aload_n (pc2 := 13) hk dX7_close_12 rfl rfl ?_
      refine aw_get (pc2 := 16) hk ckX7 23 dX7_close_13 rfl fl_X7_63 (by decide) (o_X7 rfl) rfl ?_
      refine aw_iload_n (pc2 := 17) hk dX7_close_16 rfl rfl ?_
      refine h_iald (pc2 := 18) hk dX7_close_17 rfl rfl rfl (by omega) (by decide) ?_
      refine aw_icN_ge (x := i) (y := nc (oc - 1)) (tgt := 62) (pc2 := 21) hk dX7_close_18 (by decide) rfl rfl hn1 (by omega) (by omega) (fun c18 => ?_) (fun c18 => ?_)
      · have ei : i = nc (oc - 1) := by omega
        subst ei
        refine aw_iload_n (pc2 := 63) hk dX7_close_62 rfl rfl ?_
        refine aw_if_eq (tgt := 93) (pc2 := 66) hk dX7_close_63 (by decide) rfl (fun c63 => ?_) (fun c63 => ?_)
        · refine aw_vret hk dX7_close_93 (Nat.le_of_ble_eq_true rfl) (Nat.le_of_ble_eq_true rfl) (hq2 (bi_ff c63))
        · have hall := bi_tt c63
          have loop2 : ∀ (v : Int32) (k2 q : Nat), q ≤ 256 → 257 ≤ q + k2 → AW K Q 0 0 73 [some (.ref 78), some (.int (nI (oc - 1))), some (.int v), some (.int (nI q)), none] [] n (H5 d (rowU I 82 q (fun _ => 0)) J (u2 S 78 20 0) L R) := by
            intro v k2
            induction k2 with
            | zero => intro q h1 h2; omega
            | succ k2 ih2 =>
              intro q hqa hqb
              refine aw_iload_n (pc2 := 74) hk dX7_close_73 rfl rfl ?_
              refine aw_sipush (v := 256) (pc2 := 77) hk dX7_close_74 rfl (by decide) ?_
              refine aw_icN_ge (y := 256) (tgt := 93) (pc2 := 80) hk dX7_close_77 (by decide) rfl rfl rfl (by omega) (by omega) (fun c77 => ?_) (fun c77 => ?_)
              · obtain rfl : q = 256 := by omega
                refine aw_vret hk dX7_close_93 (Nat.le_of_ble_eq_true rfl) (Nat.le_of_ble_eq_true rfl) (hq1 hall)
              · refine aw_aload_n (pc2 := 81) hk dX7_close_80 rfl rfl ?_
                refine aw_get (pc2 := 84) hk ckX7 5 dX7_close_81 rfl fl_X7_27 (by decide) (o_X7 rfl) rfl ?_
                refine aw_iload_n (pc2 := 85) hk dX7_close_84 rfl rfl ?_
                refine aw_iconst (v := 0) (pc2 := 86) hk dX7_close_85 rfl (by decide) ?_
                refine h_zast (pc2 := 87) hk dX7_close_86 rfl rfl rfl (by omega) (by decide) (by first | exact Or.inl rfl | exact Or.inr rfl) ?_
                refine aw_I (rowU I 82 (q + 1) (fun _ => 0)) (rowU_st I 82 q _ rfl) ?_
                refine aw_iinc1 (pc2 := 90) hk dX7_close_87 rfl rfl (by decide) ?_
                show AW K Q _ _ 90 [_, _, _, _, _] _ _ _
                refine aw_goto (tgt := 73) hk dX7_close_90 (by decide) ?_
                exact ih2 (q + 1) (by omega) (by omega)
          refine aw_aload_n (pc2 := 67) hk dX7_close_66 rfl rfl ?_
          refine aw_iconst (v := 0) (pc2 := 68) hk dX7_close_67 rfl (by decide) ?_
          refine aw_put (pc2 := 71) hk ckX7 20 dX7_close_68 rfl fl_X7_200 (by decide) rfl (o_X7 rfl) (fun _ => rfl) (fun _ => rfl) (Nat.le_of_ble_eq_true rfl) ?_
          rw [p_X7_20 rfl]
          refine aw_iconst (v := 0) (pc2 := 72) hk dX7_close_71 rfl (by decide) ?_
          refine aw_istore_n (pc2 := 73) hk dX7_close_72 rfl (by decide) ?_
          show AW K Q _ _ 73 [_, _, _, _, _] _ _ _
          refine aw_I (rowU I 82 0 (fun _ => 0)) (rowU_0 _ _ _).symm ?_
          refine aw_fg 4 ?_
          exact loop2 _ 257 0 (by omega) (by omega)
      · refine aw_aload_n (pc2 := 22) hk dX7_close_21 rfl rfl ?_
        refine aw_get (pc2 := 25) hk ckX7 26 dX7_close_22 rfl fl_X7_72 (by decide) (o_X7 rfl) rfl ?_
        refine aw_bipush (v := nI 12) (pc2 := 27) hk dX7_close_25 rfl (by decide) ?_
        refine aw_iload_n (pc2 := 28) hk dX7_close_27 rfl rfl ?_
        refine aw_imul (pc2 := 29) hk dX7_close_28 rfl ?_
        refine aw_iload_n (pc2 := 30) hk dX7_close_29 rfl rfl ?_
        refine aw_iadd (pc2 := 31) hk dX7_close_30 rfl ?_
        rw [mulN]
        refine h_iald (pc2 := 32) hk dX7_close_31 rfl rfl rfl (by omega) (by decide) ?_
        refine aw_istore (pc2 := 34) hk dX7_close_32 rfl (by decide) ?_
        show AW K Q _ _ 34 [_, _, _, _, _] _ _ _
        refine aw_iload_n (pc2 := 35) hk dX7_close_34 rfl rfl ?_
        refine aw_if_eq (tgt := 54) (pc2 := 38) hk dX7_close_35 (by decide) rfl (fun c35 => ?_) (fun c35 => ?_)
        · refine aw_iconst (v := 0) (pc2 := 55) hk dX7_close_54 rfl (by decide) ?_
          refine aw_top (bi (allB (fun k => dnS (I 97 (12 * (oc - 1) + k))) (i + 1))) (by
            show _ = bi (allB (fun k => dnS (I 97 (12 * (oc - 1) + k))) i && dnS (I 97 (12 * (oc - 1) + i)))
            first
              | (rw [bi_ff c35]; rfl)
              | (rw [bi_tt c35, show dnS (I 97 (12 * (oc - 1) + i)) = true by have h9 : I 97 (12 * (oc - 1) + i) = 3 := c41; simp [dnS, h9]]; rfl)
              | (rw [bi_tt c35, show dnS (I 97 (12 * (oc - 1) + i)) = true by have h9 : I 97 (12 * (oc - 1) + i) = 4 := c47; simp [dnS, h9]]; rfl)
              | (rw [bi_tt c35, show dnS (I 97 (12 * (oc - 1) + i)) = false by simp [dnS, c41, c47]]; rfl)) ?_
          refine aw_istore_n (pc2 := 56) hk dX7_close_55 rfl (by decide) ?_
          show AW K Q _ _ 56 [_, _, _, _, _] _ _ _
          refine aw_iinc1 (pc2 := 59) hk dX7_close_56 rfl rfl (by decide) ?_
          show AW K Q _ _ 59 [_, _, _, _, _] _ _ _
          refine aw_goto (tgt := 11) hk dX7_close_59 (by decide) ?_
          refine aw_fg 4 ?_
          exact ih (i + 1) (by omega) (by omega)
        · refine aw_iload (pc2 := 40) hk dX7_close_38 rfl rfl ?_
          refine aw_iconst (v := 3) (pc2 := 41) hk dX7_close_40 rfl (by decide) ?_
          refine aw_icmp_eq (tgt := 50) (pc2 := 44) hk dX7_close_41 (by decide) rfl (fun c41 => ?_) (fun c41 => ?_)
          · refine aw_iconst (v := 1) (pc2 := 51) hk dX7_close_50 rfl (by decide) ?_
            refine aw_goto (tgt := 55) hk dX7_close_51 (by decide) ?_
            refine aw_top (bi (allB (fun k => dnS (I 97 (12 * (oc - 1) + k))) (i + 1))) (by
              show _ = bi (allB (fun k => dnS (I 97 (12 * (oc - 1) + k))) i && dnS (I 97 (12 * (oc - 1) + i)))
              first
                | (rw [bi_ff c35]; rfl)
                | (rw [bi_tt c35, show dnS (I 97 (12 * (oc - 1) + i)) = true by have h9 : I 97 (12 * (oc - 1) + i) = 3 := c41; simp [dnS, h9]]; rfl)
                | (rw [bi_tt c35, show dnS (I 97 (12 * (oc - 1) + i)) = true by have h9 : I 97 (12 * (oc - 1) + i) = 4 := c47; simp [dnS, h9]]; rfl)
                | (rw [bi_tt c35, show dnS (I 97 (12 * (oc - 1) + i)) = false by simp [dnS, c41, c47]]; rfl)) ?_
            refine aw_istore_n (pc2 := 56) hk dX7_close_55 rfl (by decide) ?_
            show AW K Q _ _ 56 [_, _, _, _, _] _ _ _
            refine aw_iinc1 (pc2 := 59) hk dX7_close_56 rfl rfl (by decide) ?_
            show AW K Q _ _ 59 [_, _, _, _, _] _ _ _
            refine aw_goto (tgt := 11) hk dX7_close_59 (by decide) ?_
            refine aw_fg 4 ?_
            exact ih (i + 1) (by omega) (by omega)
          · refine aw_iload (pc2 := 46) hk dX7_close_44 rfl rfl ?_
            refine aw_iconst (v := 4) (pc2 := 47) hk dX7_close_46 rfl (by decide) ?_
            refine aw_icmp_ne (tgt := 54) (pc2 := 50) hk dX7_close_47 (by decide) rfl (fun c47 => ?_) (fun c47 => ?_)
            · refine aw_iconst (v := 0) (pc2 := 55) hk dX7_close_54 rfl (by decide) ?_
              refine aw_top (bi (allB (fun k => dnS (I 97 (12 * (oc - 1) + k))) (i + 1))) (by
                show _ = bi (allB (fun k => dnS (I 97 (12 * (oc - 1) + k))) i && dnS (I 97 (12 * (oc - 1) + i)))
                first
                  | (rw [bi_ff c35]; rfl)
                  | (rw [bi_tt c35, show dnS (I 97 (12 * (oc - 1) + i)) = true by have h9 : I 97 (12 * (oc - 1) + i) = 3 := c41; simp [dnS, h9]]; rfl)
                  | (rw [bi_tt c35, show dnS (I 97 (12 * (oc - 1) + i)) = true by have h9 : I 97 (12 * (oc - 1) + i) = 4 := c47; simp [dnS, h9]]; rfl)
                  | (rw [bi_tt c35, show dnS (I 97 (12 * (oc - 1) + i)) = false by simp [dnS, c41, c47]]; rfl)) ?_
              refine aw_istore_n (pc2 := 56) hk dX7_close_55 rfl (by decide) ?_
              show AW K Q _ _ 56 [_, _, _, _, _] _ _ _
              refine aw_iinc1 (pc2 := 59) hk dX7_close_56 rfl rfl (by decide) ?_
              show AW K Q _ _ 59 [_, _, _, _, _] _ _ _
              refine aw_goto (tgt := 11) hk dX7_close_59 (by decide) ?_
              refine aw_fg 4 ?_
              exact ih (i + 1) (by omega) (by omega)
            · refine aw_iconst (v := 1) (pc2 := 51) hk dX7_close_50 rfl (by decide) ?_
              refine aw_goto (tgt := 55) hk dX7_close_51 (by decide) ?_
              refine aw_top (bi (allB (fun k => dnS (I 97 (12 * (oc - 1) + k))) (i + 1))) (by
                show _ = bi (allB (fun k => dnS (I 97 (12 * (oc - 1) + k))) i && dnS (I 97 (12 * (oc - 1) + i)))
                first
                  | (rw [bi_ff c35]; rfl)
                  | (rw [bi_tt c35, show dnS (I 97 (12 * (oc - 1) + i)) = true by have h9 : I 97 (12 * (oc - 1) + i) = 3 := c41; simp [dnS, h9]]; rfl)
                  | (rw [bi_tt c35, show dnS (I 97 (12 * (oc - 1) + i)) = true by have h9 : I 97 (12 * (oc - 1) + i) = 4 := c47; simp [dnS, h9]]; rfl)
                  | (rw [bi_tt c35, show dnS (I 97 (12 * (oc - 1) + i)) = false by simp [dnS, c41, c47]]; rfl)) ?_
              refine aw_istore_n (pc2 := 56) hk dX7_close_55 rfl (by decide) ?_
              show AW K Q _ _ 56 [_, _, _, _, _] _ _ _
              refine aw_iinc1 (pc2 := 59) hk dX7_close_56 rfl rfl (by decide) ?_
              show AW K Q _ _ 59 [_, _, _, _, _] _ _ _
              refine aw_goto (tgt := 11) hk dX7_close_59 (by decide) ?_
              refine aw_fg 4 ?_
              exact ih (i + 1) (by omega) (by omega)
  refine aw_aload_n (pc2 := 1) hk dX7_close_0 rfl rfl ?_
  refine aw_get (pc2 := 4) hk ckX7 19 dX7_close_1 rfl fl_X7_197 (by decide) (o_X7 rfl) rfl ?_
  refine aw_iconst (v := 1) (pc2 := 5) hk dX7_close_4 rfl (by decide) ?_
  refine aw_isub (pc2 := 6) hk dX7_close_5 rfl ?_
  refine aw_top (nI (oc - 1)) (by rw [hoc]; exact pk_sub (a := oc) (b := 1) (by omega)) ?_
  refine aw_istore_n (pc2 := 7) hk dX7_close_6 rfl (by decide) ?_
  show AW K Q _ _ 7 [_, _, _, _, _] _ _ _
  refine aw_iconst (v := 1) (pc2 := 8) hk dX7_close_7 rfl (by decide) ?_
  refine aw_istore_n (pc2 := 9) hk dX7_close_8 rfl (by decide) ?_
  show AW K Q _ _ 9 [_, _, _, _, _] _ _ _
  refine aw_iconst (v := 0) (pc2 := 10) hk dX7_close_9 rfl (by decide) ?_
  refine aw_istore_n (pc2 := 11) hk dX7_close_10 rfl (by decide) ?_
  show AW K Q _ _ 11 [_, _, _, _, _] _ _ _
  exact loop (nc (oc - 1) + 1) 0 (by omega) (by omega)
set_option maxHeartbeats 800000 in
set_option maxRecDepth 100000 in
theorem m_hear {n : Nat} {d : D2} {I : M2} {J : J2} {S : M2} {L : J2} {R : R2} {Q : QT} {w g fc oc uc td : Nat} {md op : Bool} (hB : MB S w g fc oc uc td md op) {nc : Nat → Nat} (hN : OM I oc nc) (ho0 : op = true → 0 < oc) {x s : Int32} (hq1 : ¬ (op = true) → Q (some (.int (-103))) n (H5 d I J S L R)) (hq2 : (op = true) → (∀ j, x = nI j → ¬ j < nc (oc - 1)) → Q (some (.int (-101))) n (H5 d I J S L R)) (hq3 : ∀ j, (op = true) → x = nI j → j < nc (oc - 1) → ¬ I 97 (12 * (oc - 1) + j) = 1 → Q (some (.int (-103))) n (H5 d I J S L R)) (hq4 : ∀ j, (op = true) → x = nI j → j < nc (oc - 1) → I 97 (12 * (oc - 1) + j) = 1 → allB (fun k => dnS ((u2 I 97 (12 * (oc - 1) + j) (if s = 0 then 2 else 3)) 97 (12 * (oc - 1) + k))) (nc (oc - 1)) = true → Q (some (.int 1)) n (H5 d (rowU (u2 I 97 (12 * (oc - 1) + j) (if s = 0 then 2 else 3)) 82 256 (fun _ => 0)) J (u2 S 78 20 0) L R)) (hq5 : ∀ j, (op = true) → x = nI j → j < nc (oc - 1) → I 97 (12 * (oc - 1) + j) = 1 → allB (fun k => dnS ((u2 I 97 (12 * (oc - 1) + j) (if s = 0 then 2 else 3)) 97 (12 * (oc - 1) + k))) (nc (oc - 1)) = false → Q (some (.int 1)) n (H5 d (u2 I 97 (12 * (oc - 1) + j) (if s = 0 then 2 else 3)) J S L R)) : Calls yX7_hear cX7_hear 4 (some .int) rmX7_hear [.ref 78, .int x, .int s] n (H5 d I J S L R) Q := by
  refine Calls.of (by decide) (Nat.le_of_ble_eq_true rfl) ?_
  intro K hk
  show AW K Q 0 0 0 [some (.ref 78), some (.int x), some (.int s), none] [] n (H5 d I J S L R)
  obtain ⟨hw, hg, hw1, hw6, hg1, hg6, hfc, hfc2, hoc, hoc6, huc, huc5, htd, htd4, hmd, hop⟩ := id hB
  refine aw_aload_n (pc2 := 1) hk dX7_hear_0 rfl rfl ?_
  refine aw_get (pc2 := 4) hk ckX7 20 dX7_hear_1 rfl fl_X7_200 (by decide) (o_X7 rfl) rfl ?_
  rw [hop]
  refine aw_if_ne (tgt := 10) (pc2 := 7) hk dX7_hear_4 (by decide) rfl (fun c4 => ?_) (fun c4 => ?_)
  · refine aw_aload_n (pc2 := 11) hk dX7_hear_10 rfl rfl ?_
    refine aw_get (pc2 := 14) hk ckX7 19 dX7_hear_11 rfl fl_X7_197 (by decide) (o_X7 rfl) rfl ?_
    refine aw_iconst (v := 1) (pc2 := 15) hk dX7_hear_14 rfl (by decide) ?_
    refine aw_isub (pc2 := 16) hk dX7_hear_15 rfl ?_
    have hop1 := bi_tt c4
    have hoc1 := ho0 hop1
    refine aw_top (nI (oc - 1)) (by rw [hoc]; exact pk_sub (a := oc) (b := 1) (by omega)) ?_
    obtain ⟨hn1, hn2⟩ := hN (oc - 1) (by omega)
    refine aw_istore_n (pc2 := 17) hk dX7_hear_16 rfl (by decide) ?_
    show AW K Q _ _ 17 [_, _, _, _] _ _ _
    refine aw_iload_n (pc2 := 18) hk dX7_hear_17 rfl rfl ?_
    refine aw_i2l (pc2 := 19) hk dX7_hear_18 rfl ?_
    refine aw_lconst (v := 0) (pc2 := 20) hk dX7_hear_19 rfl (by decide) ?_
    refine aw_aload_n (pc2 := 21) hk dX7_hear_20 rfl rfl ?_
    refine aw_get (pc2 := 24) hk ckX7 23 dX7_hear_21 rfl fl_X7_63 (by decide) (o_X7 rfl) rfl ?_
    refine aw_iload_n (pc2 := 25) hk dX7_hear_24 rfl rfl ?_
    refine h_iald (pc2 := 26) hk dX7_hear_25 rfl rfl rfl (by omega) (by decide) ?_
    refine aw_iconst (v := 1) (pc2 := 27) hk dX7_hear_26 rfl (by decide) ?_
    refine aw_isub (pc2 := 28) hk dX7_hear_27 rfl ?_
    refine aw_i2l (pc2 := 29) hk dX7_hear_28 rfl ?_
    rw [hn1]
    refine aw_cS (rm2 := rmX7_in) (pc2 := 32) hk seX7_in dX7_hear_29 rfl ml_X7_133 ⟨(Nat.le_of_ble_eq_true rfl), (Nat.le_of_ble_eq_true rfl)⟩ [_, _, _] rfl rfl (Nat.le_of_ble_eq_true rfl) (Nat.le_of_ble_eq_true rfl) (Nat.le_of_ble_eq_true rfl) (m_in ?_)
    refine aw_if_ne (tgt := 38) (pc2 := 35) hk dX7_hear_32 (by decide) rfl (fun c32 => ?_) (fun c32 => ?_)
    · obtain ⟨j, hj1, hj2⟩ := in_n (by omega) (bi_ya c32)
      subst hj1
      refine aw_aload_n (pc2 := 39) hk dX7_hear_38 rfl rfl ?_
      refine aw_get (pc2 := 42) hk ckX7 26 dX7_hear_39 rfl fl_X7_72 (by decide) (o_X7 rfl) rfl ?_
      refine aw_bipush (v := nI 12) (pc2 := 44) hk dX7_hear_42 rfl (by decide) ?_
      refine aw_iload_n (pc2 := 45) hk dX7_hear_44 rfl rfl ?_
      refine aw_imul (pc2 := 46) hk dX7_hear_45 rfl ?_
      refine aw_iload_n (pc2 := 47) hk dX7_hear_46 rfl rfl ?_
      refine aw_iadd (pc2 := 48) hk dX7_hear_47 rfl ?_
      rw [mulN]
      refine h_iald (pc2 := 49) hk dX7_hear_48 rfl rfl rfl (by omega) (by decide) ?_
      refine aw_iconst (v := 1) (pc2 := 50) hk dX7_hear_49 rfl (by decide) ?_
      refine aw_icmp_eq (tgt := 56) (pc2 := 53) hk dX7_hear_50 (by decide) rfl (fun c50 => ?_) (fun c50 => ?_)
      · refine aw_aload_n (pc2 := 57) hk dX7_hear_56 rfl rfl ?_
        refine aw_get (pc2 := 60) hk ckX7 26 dX7_hear_57 rfl fl_X7_72 (by decide) (o_X7 rfl) rfl ?_
        refine aw_bipush (v := nI 12) (pc2 := 62) hk dX7_hear_60 rfl (by decide) ?_
        refine aw_iload_n (pc2 := 63) hk dX7_hear_62 rfl rfl ?_
        refine aw_imul (pc2 := 64) hk dX7_hear_63 rfl ?_
        refine aw_iload_n (pc2 := 65) hk dX7_hear_64 rfl rfl ?_
        refine aw_iadd (pc2 := 66) hk dX7_hear_65 rfl ?_
        rw [mulN]
        refine aw_iload_n (pc2 := 67) hk dX7_hear_66 rfl rfl ?_
        refine aw_if_eq (tgt := 74) (pc2 := 70) hk dX7_hear_67 (by decide) rfl (fun c67 => ?_) (fun c67 => ?_)
        · refine aw_iconst (v := 2) (pc2 := 75) hk dX7_hear_74 rfl (by decide) ?_
          refine aw_top (if s = 0 then 2 else 3) (by first | exact (if_pos c67).symm | exact (if_neg c67).symm) ?_
          refine h_iast (pc2 := 76) hk dX7_hear_75 rfl rfl rfl (by omega) (by decide) ?_
          refine aw_aload_n (pc2 := 77) hk dX7_hear_76 rfl rfl ?_
          refine aw_cV (rm2 := rmX7_close) (pc2 := 80) hk veX7_close dX7_hear_77 rfl ml_X7_206 ⟨(Nat.le_of_ble_eq_true rfl), (Nat.le_of_ble_eq_true rfl)⟩ [] rfl rfl (Nat.le_of_ble_eq_true rfl) (Nat.le_of_ble_eq_true rfl) (Nat.le_of_ble_eq_true rfl) (o_X7 rfl) (m_close hB (fun o ho => ⟨by rw [u2_a _ _ _ _ (by decide)]; exact (hN o ho).1, (hN o ho).2⟩) hoc1 (fun h9 => ?_) (fun h9 => ?_))
          · refine aw_iconst (v := 1) (pc2 := 81) hk dX7_hear_80 rfl (by decide) ?_
            exact aw_iret hk dX7_hear_81 (Nat.le_of_ble_eq_true rfl) (Nat.le_of_ble_eq_true rfl) (hq4 j hop1 rfl hj2 c50 h9)
          · refine aw_iconst (v := 1) (pc2 := 81) hk dX7_hear_80 rfl (by decide) ?_
            exact aw_iret hk dX7_hear_81 (Nat.le_of_ble_eq_true rfl) (Nat.le_of_ble_eq_true rfl) (hq5 j hop1 rfl hj2 c50 h9)
        · refine aw_iconst (v := 3) (pc2 := 71) hk dX7_hear_70 rfl (by decide) ?_
          refine aw_goto (tgt := 75) hk dX7_hear_71 (by decide) ?_
          refine aw_top (if s = 0 then 2 else 3) (by first | exact (if_pos c67).symm | exact (if_neg c67).symm) ?_
          refine h_iast (pc2 := 76) hk dX7_hear_75 rfl rfl rfl (by omega) (by decide) ?_
          refine aw_aload_n (pc2 := 77) hk dX7_hear_76 rfl rfl ?_
          refine aw_cV (rm2 := rmX7_close) (pc2 := 80) hk veX7_close dX7_hear_77 rfl ml_X7_206 ⟨(Nat.le_of_ble_eq_true rfl), (Nat.le_of_ble_eq_true rfl)⟩ [] rfl rfl (Nat.le_of_ble_eq_true rfl) (Nat.le_of_ble_eq_true rfl) (Nat.le_of_ble_eq_true rfl) (o_X7 rfl) (m_close hB (fun o ho => ⟨by rw [u2_a _ _ _ _ (by decide)]; exact (hN o ho).1, (hN o ho).2⟩) hoc1 (fun h9 => ?_) (fun h9 => ?_))
          · refine aw_iconst (v := 1) (pc2 := 81) hk dX7_hear_80 rfl (by decide) ?_
            exact aw_iret hk dX7_hear_81 (Nat.le_of_ble_eq_true rfl) (Nat.le_of_ble_eq_true rfl) (hq4 j hop1 rfl hj2 c50 h9)
          · refine aw_iconst (v := 1) (pc2 := 81) hk dX7_hear_80 rfl (by decide) ?_
            exact aw_iret hk dX7_hear_81 (Nat.le_of_ble_eq_true rfl) (Nat.le_of_ble_eq_true rfl) (hq5 j hop1 rfl hj2 c50 h9)
      · refine aw_bipush (v := -103) (pc2 := 55) hk dX7_hear_53 rfl (by decide) ?_
        refine aw_iret hk dX7_hear_55 (Nat.le_of_ble_eq_true rfl) (Nat.le_of_ble_eq_true rfl) (hq3 j hop1 rfl hj2 c50)
    · refine aw_bipush (v := -101) (pc2 := 37) hk dX7_hear_35 rfl (by decide) ?_
      refine aw_iret hk dX7_hear_37 (Nat.le_of_ble_eq_true rfl) (Nat.le_of_ble_eq_true rfl) (hq2 hop1 (fun j h1 h2 => by subst h1; exact bi_no c32 (in_y (by omega) h2)))
  · refine aw_bipush (v := -103) (pc2 := 9) hk dX7_hear_7 rfl (by decide) ?_
    refine aw_iret hk dX7_hear_9 (Nat.le_of_ble_eq_true rfl) (Nat.le_of_ble_eq_true rfl) (hq1 (by rw [bi_ff c4]; decide))
set_option maxHeartbeats 800000 in
set_option maxRecDepth 100000 in
theorem m_mayEnter {n : Nat} {d : D2} {I : M2} {J : J2} {S : M2} {L : J2} {R : R2} {Q : QT} {o k : Nat} (ho : 12 * o + k < 720) (hq : Q (some (.int (bi (rdy (I 97 (12 * o + k)))))) n (H5 d I J S L R)) : Calls yX7_mayEnter cX7_mayEnter 3 (some .boolean) rmX7_mayEnter [.ref 78, .int (nI o), .int (nI k)] n (H5 d I J S L R) Q := by
  refine Calls.of (by decide) (Nat.le_of_ble_eq_true rfl) ?_
  intro K hk
  show AW K Q 0 0 0 [some (.ref 78), some (.int (nI o)), some (.int (nI k))] [] n (H5 d I J S L R)
  refine aw_aload_n (pc2 := 1) hk dX7_mayEnter_0 rfl rfl ?_
  refine aw_get (pc2 := 4) hk ckX7 26 dX7_mayEnter_1 rfl fl_X7_72 (by decide) (o_X7 rfl) rfl ?_
  refine aw_bipush (v := nI 12) (pc2 := 6) hk dX7_mayEnter_4 rfl (by decide) ?_
  refine aw_iload_n (pc2 := 7) hk dX7_mayEnter_6 rfl rfl ?_
  refine aw_imul (pc2 := 8) hk dX7_mayEnter_7 rfl ?_
  refine aw_iload_n (pc2 := 9) hk dX7_mayEnter_8 rfl rfl ?_
  refine aw_iadd (pc2 := 10) hk dX7_mayEnter_9 rfl ?_
  rw [mulN]
  refine h_iald (pc2 := 11) hk dX7_mayEnter_10 rfl rfl rfl (by omega) (by decide) ?_
  refine aw_if_eq (tgt := 29) (pc2 := 14) hk dX7_mayEnter_11 (by decide) rfl (fun c11 => ?_) (fun c11 => ?_)
  · refine aw_iconst (v := 1) (pc2 := 30) hk dX7_mayEnter_29 rfl (by decide) ?_
    refine aw_goto (tgt := 34) hk dX7_mayEnter_30 (by decide) ?_
    refine aw_zret (by first | exact Or.inl rfl | exact Or.inr rfl) hk dX7_mayEnter_34 (Nat.le_of_ble_eq_true rfl) (Nat.le_of_ble_eq_true rfl) (by first | (simpa [rdy, bi, *] using hq))
  · refine aw_aload_n (pc2 := 15) hk dX7_mayEnter_14 rfl rfl ?_
    refine aw_get (pc2 := 18) hk ckX7 26 dX7_mayEnter_15 rfl fl_X7_72 (by decide) (o_X7 rfl) rfl ?_
    refine aw_bipush (v := nI 12) (pc2 := 20) hk dX7_mayEnter_18 rfl (by decide) ?_
    refine aw_iload_n (pc2 := 21) hk dX7_mayEnter_20 rfl rfl ?_
    refine aw_imul (pc2 := 22) hk dX7_mayEnter_21 rfl ?_
    refine aw_iload_n (pc2 := 23) hk dX7_mayEnter_22 rfl rfl ?_
    refine aw_iadd (pc2 := 24) hk dX7_mayEnter_23 rfl ?_
    rw [mulN]
    refine h_iald (pc2 := 25) hk dX7_mayEnter_24 rfl rfl rfl (by omega) (by decide) ?_
    refine aw_iconst (v := 2) (pc2 := 26) hk dX7_mayEnter_25 rfl (by decide) ?_
    refine aw_icmp_ne (tgt := 33) (pc2 := 29) hk dX7_mayEnter_26 (by decide) rfl (fun c26 => ?_) (fun c26 => ?_)
    · refine aw_iconst (v := 0) (pc2 := 34) hk dX7_mayEnter_33 rfl (by decide) ?_
      refine aw_zret (by first | exact Or.inl rfl | exact Or.inr rfl) hk dX7_mayEnter_34 (Nat.le_of_ble_eq_true rfl) (Nat.le_of_ble_eq_true rfl) (by first | (simpa [rdy, bi, *] using hq))
    · refine aw_iconst (v := 1) (pc2 := 30) hk dX7_mayEnter_29 rfl (by decide) ?_
      refine aw_goto (tgt := 34) hk dX7_mayEnter_30 (by decide) ?_
      refine aw_zret (by first | exact Or.inl rfl | exact Or.inr rfl) hk dX7_mayEnter_34 (Nat.le_of_ble_eq_true rfl) (Nat.le_of_ble_eq_true rfl) (by first | (simpa [rdy, bi, *] using hq))
set_option maxHeartbeats 800000 in
set_option maxRecDepth 100000 in
theorem m_dueOf {n : Nat} {d : D2} {I : M2} {J : J2} {S : M2} {L : J2} {R : R2} {Q : QT} {k : Nat} (hk7 : k < 720) (hq : Q (some (.long (duM J k))) n (H5 d I J S L R)) : Calls yX7_dueOf cX7_dueOf 2 (some .long) rmX7_dueOf [.ref 78, .int (nI k)] n (H5 d I J S L R) Q := by
  refine Calls.of (by decide) (Nat.le_of_ble_eq_true rfl) ?_
  intro K hk
  show AW K Q 0 0 0 [some (.ref 78), some (.int (nI k))] [] n (H5 d I J S L R)
  refine aw_aload_n (pc2 := 1) hk dX7_dueOf_0 rfl rfl ?_
  refine aw_get (pc2 := 4) hk ckX7 30 dX7_dueOf_1 rfl fl_X7_84 (by decide) (o_X7 rfl) rfl ?_
  refine aw_iload_n (pc2 := 5) hk dX7_dueOf_4 rfl rfl ?_
  refine h_lald (pc2 := 6) hk dX7_dueOf_5 rfl rfl rfl hk7 (by decide) ?_
  refine aw_aload_n (pc2 := 7) hk dX7_dueOf_6 rfl rfl ?_
  refine aw_get (pc2 := 10) hk ckX7 31 dX7_dueOf_7 rfl fl_X7_88 (by decide) (o_X7 rfl) rfl ?_
  refine aw_iload_n (pc2 := 11) hk dX7_dueOf_10 rfl rfl ?_
  refine h_lald (pc2 := 12) hk dX7_dueOf_11 rfl rfl rfl hk7 (by decide) ?_
  refine aw_ladd (pc2 := 13) hk dX7_dueOf_12 rfl ?_
  refine aw_aload_n (pc2 := 14) hk dX7_dueOf_13 rfl rfl ?_
  refine aw_get (pc2 := 17) hk ckX7 32 dX7_dueOf_14 rfl fl_X7_91 (by decide) (o_X7 rfl) rfl ?_
  refine aw_iload_n (pc2 := 18) hk dX7_dueOf_17 rfl rfl ?_
  refine h_lald (pc2 := 19) hk dX7_dueOf_18 rfl rfl rfl hk7 (by decide) ?_
  refine aw_ladd (pc2 := 20) hk dX7_dueOf_19 rfl ?_
  refine aw_aload_n (pc2 := 21) hk dX7_dueOf_20 rfl rfl ?_
  refine aw_get (pc2 := 24) hk ckX7 33 dX7_dueOf_21 rfl fl_X7_94 (by decide) (o_X7 rfl) rfl ?_
  refine aw_iload_n (pc2 := 25) hk dX7_dueOf_24 rfl rfl ?_
  refine h_lald (pc2 := 26) hk dX7_dueOf_25 rfl rfl rfl hk7 (by decide) ?_
  refine aw_lsub (pc2 := 27) hk dX7_dueOf_26 rfl ?_
  refine aw_lret hk dX7_dueOf_27 (Nat.le_of_ble_eq_true rfl) (Nat.le_of_ble_eq_true rfl) hq
set_option maxHeartbeats 800000 in
set_option maxRecDepth 100000 in
theorem m_owed {n : Nat} {d : D2} {I : M2} {J : J2} {S : M2} {L : J2} {R : R2} {Q : QT} {k : Nat} (hk7 : k < 720) (hq : Q (some (.long (owM J k))) n (H5 d I J S L R)) : Calls yX7_owed cX7_owed 2 (some .long) rmX7_owed [.ref 78, .int (nI k)] n (H5 d I J S L R) Q := by
  refine Calls.of (by decide) (Nat.le_of_ble_eq_true rfl) ?_
  intro K hk
  show AW K Q 0 0 0 [some (.ref 78), some (.int (nI k))] [] n (H5 d I J S L R)
  refine aw_aload_n (pc2 := 1) hk dX7_owed_0 rfl rfl ?_
  refine aw_iload_n (pc2 := 2) hk dX7_owed_1 rfl rfl ?_
  refine aw_cV (rm2 := rmX7_dueOf) (pc2 := 5) hk veX7_dueOf dX7_owed_2 rfl ml_X7_234 ⟨(Nat.le_of_ble_eq_true rfl), (Nat.le_of_ble_eq_true rfl)⟩ [_] rfl rfl (Nat.le_of_ble_eq_true rfl) (Nat.le_of_ble_eq_true rfl) (Nat.le_of_ble_eq_true rfl) (o_X7 rfl) (m_dueOf hk7 ?_)
  refine aw_aload_n (pc2 := 6) hk dX7_owed_5 rfl rfl ?_
  refine aw_get (pc2 := 9) hk ckX7 34 dX7_owed_6 rfl fl_X7_97 (by decide) (o_X7 rfl) rfl ?_
  refine aw_iload_n (pc2 := 10) hk dX7_owed_9 rfl rfl ?_
  refine h_lald (pc2 := 11) hk dX7_owed_10 rfl rfl rfl hk7 (by decide) ?_
  refine aw_lsub (pc2 := 12) hk dX7_owed_11 rfl ?_
  refine aw_lret hk dX7_owed_12 (Nat.le_of_ble_eq_true rfl) (Nat.le_of_ble_eq_true rfl) hq
set_option maxHeartbeats 800000 in
set_option maxRecDepth 100000 in
theorem m_interestOf {n : Nat} {d : D2} {I : M2} {J : J2} {S : M2} {L : J2} {R : R2} {Q : QT} {k : Nat} (hk7 : k < 720) (hq : Q (some (.long (inM I J S k))) n (H5 d I J S L R)) : Calls yX7_interestOf cX7_interestOf 2 (some .long) rmX7_interestOf [.ref 78, .int (nI k)] n (H5 d I J S L R) Q := by
  refine Calls.of (by decide) (Nat.le_of_ble_eq_true rfl) ?_
  intro K hk
  show AW K Q 0 0 0 [some (.ref 78), some (.int (nI k))] [] n (H5 d I J S L R)
  refine aw_aload_n (pc2 := 1) hk dX7_interestOf_0 rfl rfl ?_
  refine aw_get (pc2 := 4) hk ckX7 26 dX7_interestOf_1 rfl fl_X7_72 (by decide) (o_X7 rfl) rfl ?_
  refine aw_iload_n (pc2 := 5) hk dX7_interestOf_4 rfl rfl ?_
  refine h_iald (pc2 := 6) hk dX7_interestOf_5 rfl rfl rfl hk7 (by decide) ?_
  refine aw_iconst (v := 4) (pc2 := 7) hk dX7_interestOf_6 rfl (by decide) ?_
  refine aw_icmp_eq (tgt := 12) (pc2 := 10) hk dX7_interestOf_7 (by decide) rfl (fun c7 => ?_) (fun c7 => ?_)
  · refine aw_aload_n (pc2 := 13) hk dX7_interestOf_12 rfl rfl ?_
    refine aw_get (pc2 := 16) hk ckX7 36 dX7_interestOf_13 rfl fl_X7_103 (by decide) (o_X7 rfl) rfl ?_
    refine aw_iload_n (pc2 := 17) hk dX7_interestOf_16 rfl rfl ?_
    refine h_lald (pc2 := 18) hk dX7_interestOf_17 rfl rfl rfl hk7 (by decide) ?_
    refine aw_aload_n (pc2 := 19) hk dX7_interestOf_18 rfl rfl ?_
    refine aw_iload_n (pc2 := 20) hk dX7_interestOf_19 rfl rfl ?_
    refine aw_cV (rm2 := rmX7_owed) (pc2 := 23) hk veX7_owed dX7_interestOf_20 rfl ml_X7_246 ⟨(Nat.le_of_ble_eq_true rfl), (Nat.le_of_ble_eq_true rfl)⟩ [_] rfl rfl (Nat.le_of_ble_eq_true rfl) (Nat.le_of_ble_eq_true rfl) (Nat.le_of_ble_eq_true rfl) (o_X7 rfl) (m_owed hk7 ?_)
    refine aw_aload_n (pc2 := 24) hk dX7_interestOf_23 rfl rfl ?_
    refine aw_get (pc2 := 27) hk ckX7 29 dX7_interestOf_24 rfl fl_X7_81 (by decide) (o_X7 rfl) rfl ?_
    refine aw_iload_n (pc2 := 28) hk dX7_interestOf_27 rfl rfl ?_
    refine h_iald (pc2 := 29) hk dX7_interestOf_28 rfl rfl rfl hk7 (by decide) ?_
    refine aw_i2l (pc2 := 30) hk dX7_interestOf_29 rfl ?_
    refine aw_lmul (pc2 := 31) hk dX7_interestOf_30 rfl ?_
    refine aw_aload_n (pc2 := 32) hk dX7_interestOf_31 rfl rfl ?_
    refine aw_get (pc2 := 35) hk ckX7 16 dX7_interestOf_32 rfl fl_X7_174 (by decide) (o_X7 rfl) rfl ?_
    refine aw_aload_n (pc2 := 36) hk dX7_interestOf_35 rfl rfl ?_
    refine aw_get (pc2 := 39) hk ckX7 37 dX7_interestOf_36 rfl fl_X7_106 (by decide) (o_X7 rfl) rfl ?_
    refine aw_iload_n (pc2 := 40) hk dX7_interestOf_39 rfl rfl ?_
    refine h_iald (pc2 := 41) hk dX7_interestOf_40 rfl rfl rfl hk7 (by decide) ?_
    refine aw_isub (pc2 := 42) hk dX7_interestOf_41 rfl ?_
    refine aw_i2l (pc2 := 43) hk dX7_interestOf_42 rfl ?_
    refine aw_lmul (pc2 := 44) hk dX7_interestOf_43 rfl ?_
    refine aw_ldc2 (pc2 := 47) hk dX7_interestOf_44 rfl kl_X7_159 ?_
    refine aw_ldiv (pc2 := 48) hk dX7_interestOf_47 rfl (by decide) ?_
    refine aw_ladd (pc2 := 49) hk dX7_interestOf_48 rfl ?_
    refine aw_lret hk dX7_interestOf_49 (Nat.le_of_ble_eq_true rfl) (Nat.le_of_ble_eq_true rfl) (by unfold inM at hq; rw [if_pos c7] at hq; exact hq)
  · refine aw_lconst (v := 0) (pc2 := 11) hk dX7_interestOf_10 rfl (by decide) ?_
    refine aw_lret hk dX7_interestOf_11 (Nat.le_of_ble_eq_true rfl) (Nat.le_of_ble_eq_true rfl) (by unfold inM at hq; rw [if_neg c7] at hq; exact hq)
set_option maxHeartbeats 800000 in
set_option maxRecDepth 100000 in
theorem m_toldOf {n : Nat} {d : D2} {I : M2} {J : J2} {S : M2} {L : J2} {R : R2} {Q : QT} {k j : Nat} (hk7 : k < 720) (hj : j < 14) (hq : Q (some (.long (tlM I J S k j))) n (H5 d I J S L R)) : Calls yX7_toldOf cX7_toldOf 4 (some .long) rmX7_toldOf [.ref 78, .int (nI k), .int (nI j)] n (H5 d I J S L R) Q := by
  refine Calls.of (by decide) (Nat.le_of_ble_eq_true rfl) ?_
  intro K hk
  show AW K Q 0 0 0 [some (.ref 78), some (.int (nI k)), some (.int (nI j)), none] [] n (H5 d I J S L R)
  refine aw_aload_n (pc2 := 1) hk dX7_toldOf_0 rfl rfl ?_
  refine aw_get (pc2 := 4) hk ckX7 25 dX7_toldOf_1 rfl fl_X7_69 (by decide) (o_X7 rfl) rfl ?_
  refine aw_iload_n (pc2 := 5) hk dX7_toldOf_4 rfl rfl ?_
  refine h_iald (pc2 := 6) hk dX7_toldOf_5 rfl rfl rfl hk7 (by decide) ?_
  refine aw_istore_n (pc2 := 7) hk dX7_toldOf_6 rfl (by decide) ?_
  show AW K Q _ _ 7 [_, _, _, _] _ _ _
  refine aw_iload_n (pc2 := 8) hk dX7_toldOf_7 rfl rfl ?_
  match j, hj with
  | 0, _ =>
    refine aw_tableIn (tgt := 76) (off := 68) hk dX7_toldOf_8 (by decide) (by decide) (by decide) (by decide) ?_
    refine aw_iload_n (pc2 := 77) hk dX7_toldOf_76 rfl rfl ?_
    refine aw_i2l (pc2 := 78) hk dX7_toldOf_77 rfl ?_
    refine aw_lret hk dX7_toldOf_78 (Nat.le_of_ble_eq_true rfl) (Nat.le_of_ble_eq_true rfl) hq
  | 1, _ =>
    refine aw_tableIn (tgt := 79) (off := 71) hk dX7_toldOf_8 (by decide) (by decide) (by decide) (by decide) ?_
    refine aw_aload_n (pc2 := 80) hk dX7_toldOf_79 rfl rfl ?_
    refine aw_get (pc2 := 83) hk ckX7 26 dX7_toldOf_80 rfl fl_X7_72 (by decide) (o_X7 rfl) rfl ?_
    refine aw_iload_n (pc2 := 84) hk dX7_toldOf_83 rfl rfl ?_
    refine h_iald (pc2 := 85) hk dX7_toldOf_84 rfl rfl rfl hk7 (by decide) ?_
    refine aw_i2l (pc2 := 86) hk dX7_toldOf_85 rfl ?_
    refine aw_lret hk dX7_toldOf_86 (Nat.le_of_ble_eq_true rfl) (Nat.le_of_ble_eq_true rfl) hq
  | 2, _ =>
    refine aw_tableIn (tgt := 87) (off := 79) hk dX7_toldOf_8 (by decide) (by decide) (by decide) (by decide) ?_
    refine aw_aload_n (pc2 := 88) hk dX7_toldOf_87 rfl rfl ?_
    refine aw_get (pc2 := 91) hk ckX7 28 dX7_toldOf_88 rfl fl_X7_78 (by decide) (o_X7 rfl) rfl ?_
    refine aw_iload_n (pc2 := 92) hk dX7_toldOf_91 rfl rfl ?_
    refine h_iald (pc2 := 93) hk dX7_toldOf_92 rfl rfl rfl hk7 (by decide) ?_
    refine aw_i2l (pc2 := 94) hk dX7_toldOf_93 rfl ?_
    refine aw_lret hk dX7_toldOf_94 (Nat.le_of_ble_eq_true rfl) (Nat.le_of_ble_eq_true rfl) hq
  | 3, _ =>
    refine aw_tableIn (tgt := 95) (off := 87) hk dX7_toldOf_8 (by decide) (by decide) (by decide) (by decide) ?_
    refine aw_aload_n (pc2 := 96) hk dX7_toldOf_95 rfl rfl ?_
    refine aw_get (pc2 := 99) hk ckX7 30 dX7_toldOf_96 rfl fl_X7_84 (by decide) (o_X7 rfl) rfl ?_
    refine aw_iload_n (pc2 := 100) hk dX7_toldOf_99 rfl rfl ?_
    refine h_lald (pc2 := 101) hk dX7_toldOf_100 rfl rfl rfl hk7 (by decide) ?_
    refine aw_lret hk dX7_toldOf_101 (Nat.le_of_ble_eq_true rfl) (Nat.le_of_ble_eq_true rfl) hq
  | 4, _ =>
    refine aw_tableIn (tgt := 102) (off := 94) hk dX7_toldOf_8 (by decide) (by decide) (by decide) (by decide) ?_
    refine aw_aload_n (pc2 := 103) hk dX7_toldOf_102 rfl rfl ?_
    refine aw_get (pc2 := 106) hk ckX7 31 dX7_toldOf_103 rfl fl_X7_88 (by decide) (o_X7 rfl) rfl ?_
    refine aw_iload_n (pc2 := 107) hk dX7_toldOf_106 rfl rfl ?_
    refine h_lald (pc2 := 108) hk dX7_toldOf_107 rfl rfl rfl hk7 (by decide) ?_
    refine aw_lret hk dX7_toldOf_108 (Nat.le_of_ble_eq_true rfl) (Nat.le_of_ble_eq_true rfl) hq
  | 5, _ =>
    refine aw_tableIn (tgt := 109) (off := 101) hk dX7_toldOf_8 (by decide) (by decide) (by decide) (by decide) ?_
    refine aw_aload_n (pc2 := 110) hk dX7_toldOf_109 rfl rfl ?_
    refine aw_get (pc2 := 113) hk ckX7 32 dX7_toldOf_110 rfl fl_X7_91 (by decide) (o_X7 rfl) rfl ?_
    refine aw_iload_n (pc2 := 114) hk dX7_toldOf_113 rfl rfl ?_
    refine h_lald (pc2 := 115) hk dX7_toldOf_114 rfl rfl rfl hk7 (by decide) ?_
    refine aw_lret hk dX7_toldOf_115 (Nat.le_of_ble_eq_true rfl) (Nat.le_of_ble_eq_true rfl) hq
  | 6, _ =>
    refine aw_tableIn (tgt := 116) (off := 108) hk dX7_toldOf_8 (by decide) (by decide) (by decide) (by decide) ?_
    refine aw_aload_n (pc2 := 117) hk dX7_toldOf_116 rfl rfl ?_
    refine aw_get (pc2 := 120) hk ckX7 33 dX7_toldOf_117 rfl fl_X7_94 (by decide) (o_X7 rfl) rfl ?_
    refine aw_iload_n (pc2 := 121) hk dX7_toldOf_120 rfl rfl ?_
    refine h_lald (pc2 := 122) hk dX7_toldOf_121 rfl rfl rfl hk7 (by decide) ?_
    refine aw_lret hk dX7_toldOf_122 (Nat.le_of_ble_eq_true rfl) (Nat.le_of_ble_eq_true rfl) hq
  | 7, _ =>
    refine aw_tableIn (tgt := 123) (off := 115) hk dX7_toldOf_8 (by decide) (by decide) (by decide) (by decide) ?_
    refine aw_aload_n (pc2 := 124) hk dX7_toldOf_123 rfl rfl ?_
    refine aw_iload_n (pc2 := 125) hk dX7_toldOf_124 rfl rfl ?_
    refine aw_cV (rm2 := rmX7_dueOf) (pc2 := 128) hk veX7_dueOf dX7_toldOf_125 rfl ml_X7_234 ⟨(Nat.le_of_ble_eq_true rfl), (Nat.le_of_ble_eq_true rfl)⟩ [_] rfl rfl (Nat.le_of_ble_eq_true rfl) (Nat.le_of_ble_eq_true rfl) (Nat.le_of_ble_eq_true rfl) (o_X7 rfl) (m_dueOf hk7 ?_)
    refine aw_lret hk dX7_toldOf_128 (Nat.le_of_ble_eq_true rfl) (Nat.le_of_ble_eq_true rfl) hq
  | 8, _ =>
    refine aw_tableIn (tgt := 129) (off := 121) hk dX7_toldOf_8 (by decide) (by decide) (by decide) (by decide) ?_
    refine aw_aload_n (pc2 := 130) hk dX7_toldOf_129 rfl rfl ?_
    refine aw_get (pc2 := 133) hk ckX7 34 dX7_toldOf_130 rfl fl_X7_97 (by decide) (o_X7 rfl) rfl ?_
    refine aw_iload_n (pc2 := 134) hk dX7_toldOf_133 rfl rfl ?_
    refine h_lald (pc2 := 135) hk dX7_toldOf_134 rfl rfl rfl hk7 (by decide) ?_
    refine aw_lret hk dX7_toldOf_135 (Nat.le_of_ble_eq_true rfl) (Nat.le_of_ble_eq_true rfl) hq
  | 9, _ =>
    refine aw_tableIn (tgt := 136) (off := 128) hk dX7_toldOf_8 (by decide) (by decide) (by decide) (by decide) ?_
    refine aw_aload_n (pc2 := 137) hk dX7_toldOf_136 rfl rfl ?_
    refine aw_iload_n (pc2 := 138) hk dX7_toldOf_137 rfl rfl ?_
    refine aw_cV (rm2 := rmX7_owed) (pc2 := 141) hk veX7_owed dX7_toldOf_138 rfl ml_X7_246 ⟨(Nat.le_of_ble_eq_true rfl), (Nat.le_of_ble_eq_true rfl)⟩ [_] rfl rfl (Nat.le_of_ble_eq_true rfl) (Nat.le_of_ble_eq_true rfl) (Nat.le_of_ble_eq_true rfl) (o_X7 rfl) (m_owed hk7 ?_)
    refine aw_lret hk dX7_toldOf_141 (Nat.le_of_ble_eq_true rfl) (Nat.le_of_ble_eq_true rfl) hq
  | 10, _ =>
    refine aw_tableIn (tgt := 142) (off := 134) hk dX7_toldOf_8 (by decide) (by decide) (by decide) (by decide) ?_
    refine aw_aload_n (pc2 := 143) hk dX7_toldOf_142 rfl rfl ?_
    refine aw_iload_n (pc2 := 144) hk dX7_toldOf_143 rfl rfl ?_
    refine aw_cV (rm2 := rmX7_interestOf) (pc2 := 147) hk veX7_interestOf dX7_toldOf_144 rfl ml_X7_258 ⟨(Nat.le_of_ble_eq_true rfl), (Nat.le_of_ble_eq_true rfl)⟩ [_] rfl rfl (Nat.le_of_ble_eq_true rfl) (Nat.le_of_ble_eq_true rfl) (Nat.le_of_ble_eq_true rfl) (o_X7 rfl) (m_interestOf hk7 ?_)
    refine aw_lret hk dX7_toldOf_147 (Nat.le_of_ble_eq_true rfl) (Nat.le_of_ble_eq_true rfl) hq
  | 11, _ =>
    refine aw_tableIn (tgt := 148) (off := 140) hk dX7_toldOf_8 (by decide) (by decide) (by decide) (by decide) ?_
    refine aw_aload_n (pc2 := 149) hk dX7_toldOf_148 rfl rfl ?_
    refine aw_get (pc2 := 152) hk ckX7 35 dX7_toldOf_149 rfl fl_X7_100 (by decide) (o_X7 rfl) rfl ?_
    refine aw_iload_n (pc2 := 153) hk dX7_toldOf_152 rfl rfl ?_
    refine h_lald (pc2 := 154) hk dX7_toldOf_153 rfl rfl rfl hk7 (by decide) ?_
    refine aw_lret hk dX7_toldOf_154 (Nat.le_of_ble_eq_true rfl) (Nat.le_of_ble_eq_true rfl) hq
  | 12, _ =>
    refine aw_tableIn (tgt := 155) (off := 147) hk dX7_toldOf_8 (by decide) (by decide) (by decide) (by decide) ?_
    refine aw_aload_n (pc2 := 156) hk dX7_toldOf_155 rfl rfl ?_
    refine aw_get (pc2 := 159) hk ckX7 27 dX7_toldOf_156 rfl fl_X7_75 (by decide) (o_X7 rfl) rfl ?_
    refine aw_iload_n (pc2 := 160) hk dX7_toldOf_159 rfl rfl ?_
    refine h_iald (pc2 := 161) hk dX7_toldOf_160 rfl rfl rfl hk7 (by decide) ?_
    refine aw_i2l (pc2 := 162) hk dX7_toldOf_161 rfl ?_
    refine aw_lret hk dX7_toldOf_162 (Nat.le_of_ble_eq_true rfl) (Nat.le_of_ble_eq_true rfl) hq
  | 13, _ =>
    refine aw_tableOut (tgt := 163) hk dX7_toldOf_8 (by decide) (by decide) ?_
    refine aw_aload_n (pc2 := 164) hk dX7_toldOf_163 rfl rfl ?_
    refine aw_iload_n (pc2 := 165) hk dX7_toldOf_164 rfl rfl ?_
    refine aw_cV (rm2 := rmX7_dueOf) (pc2 := 168) hk veX7_dueOf dX7_toldOf_165 rfl ml_X7_234 ⟨(Nat.le_of_ble_eq_true rfl), (Nat.le_of_ble_eq_true rfl)⟩ [_] rfl rfl (Nat.le_of_ble_eq_true rfl) (Nat.le_of_ble_eq_true rfl) (Nat.le_of_ble_eq_true rfl) (o_X7 rfl) (m_dueOf hk7 ?_)
    refine aw_aload_n (pc2 := 169) hk dX7_toldOf_168 rfl rfl ?_
    refine aw_get (pc2 := 172) hk ckX7 38 dX7_toldOf_169 rfl fl_X7_109 (by decide) (o_X7 rfl) rfl ?_
    refine aw_iconst (v := nI 4) (pc2 := 173) hk dX7_toldOf_172 rfl (by decide) ?_
    refine aw_iload_n (pc2 := 174) hk dX7_toldOf_173 rfl rfl ?_
    refine aw_imul (pc2 := 175) hk dX7_toldOf_174 rfl ?_
    rw [pk_mul]
    refine h_lald (pc2 := 176) hk dX7_toldOf_175 rfl rfl rfl (by omega) (by decide) ?_
    refine aw_lsub (pc2 := 177) hk dX7_toldOf_176 rfl ?_
    refine aw_aload_n (pc2 := 178) hk dX7_toldOf_177 rfl rfl ?_
    refine aw_get (pc2 := 181) hk ckX7 38 dX7_toldOf_178 rfl fl_X7_109 (by decide) (o_X7 rfl) rfl ?_
    refine aw_iconst (v := nI 4) (pc2 := 182) hk dX7_toldOf_181 rfl (by decide) ?_
    refine aw_iload_n (pc2 := 183) hk dX7_toldOf_182 rfl rfl ?_
    refine aw_imul (pc2 := 184) hk dX7_toldOf_183 rfl ?_
    refine aw_iconst (v := nI 1) (pc2 := 185) hk dX7_toldOf_184 rfl (by decide) ?_
    refine aw_iadd (pc2 := 186) hk dX7_toldOf_185 rfl ?_
    rw [mulN]
    refine h_lald (pc2 := 187) hk dX7_toldOf_186 rfl rfl rfl (by omega) (by decide) ?_
    refine aw_lsub (pc2 := 188) hk dX7_toldOf_187 rfl ?_
    refine aw_aload_n (pc2 := 189) hk dX7_toldOf_188 rfl rfl ?_
    refine aw_get (pc2 := 192) hk ckX7 38 dX7_toldOf_189 rfl fl_X7_109 (by decide) (o_X7 rfl) rfl ?_
    refine aw_iconst (v := nI 4) (pc2 := 193) hk dX7_toldOf_192 rfl (by decide) ?_
    refine aw_iload_n (pc2 := 194) hk dX7_toldOf_193 rfl rfl ?_
    refine aw_imul (pc2 := 195) hk dX7_toldOf_194 rfl ?_
    refine aw_iconst (v := nI 2) (pc2 := 196) hk dX7_toldOf_195 rfl (by decide) ?_
    refine aw_iadd (pc2 := 197) hk dX7_toldOf_196 rfl ?_
    rw [mulN]
    refine h_lald (pc2 := 198) hk dX7_toldOf_197 rfl rfl rfl (by omega) (by decide) ?_
    refine aw_lsub (pc2 := 199) hk dX7_toldOf_198 rfl ?_
    refine aw_aload_n (pc2 := 200) hk dX7_toldOf_199 rfl rfl ?_
    refine aw_get (pc2 := 203) hk ckX7 38 dX7_toldOf_200 rfl fl_X7_109 (by decide) (o_X7 rfl) rfl ?_
    refine aw_iconst (v := nI 4) (pc2 := 204) hk dX7_toldOf_203 rfl (by decide) ?_
    refine aw_iload_n (pc2 := 205) hk dX7_toldOf_204 rfl rfl ?_
    refine aw_imul (pc2 := 206) hk dX7_toldOf_205 rfl ?_
    refine aw_iconst (v := nI 3) (pc2 := 207) hk dX7_toldOf_206 rfl (by decide) ?_
    refine aw_iadd (pc2 := 208) hk dX7_toldOf_207 rfl ?_
    rw [mulN]
    refine h_lald (pc2 := 209) hk dX7_toldOf_208 rfl rfl rfl (by omega) (by decide) ?_
    refine aw_lsub (pc2 := 210) hk dX7_toldOf_209 rfl ?_
    refine aw_lret hk dX7_toldOf_210 (Nat.le_of_ble_eq_true rfl) (Nat.le_of_ble_eq_true rfl) hq
set_option maxHeartbeats 800000 in
set_option maxRecDepth 100000 in
theorem m_told {n : Nat} {d : D2} {I : M2} {J : J2} {S : M2} {L : J2} {R : R2} {Q : QT} {w g fc oc uc td : Nat} {md op : Bool} (hB : MB S w g fc oc uc td md op) {nc : Nat → Nat} (hN : OM I oc nc) {x y z : Int32} (hq1 : (∀ o k, x = nI o → y = nI k → ¬ (o < oc ∧ k < nc o)) → Q (some (.long (-101))) n (H5 d I J S L R)) (hq2 : ∀ o k, x = nI o → y = nI k → o < oc → k < nc o → (∀ j, z = nI j → ¬ j < 14) → Q (some (.long (-102))) n (H5 d I J S L R)) (hq3 : ∀ o k j, x = nI o → y = nI k → o < oc → k < nc o → z = nI j → j < 14 → Q (some (.long (tlM I J S (12 * o + k) j))) n (H5 d I J S L R)) : Calls yX7_told cX7_told 4 (some .long) rmX7_told [.ref 78, .int x, .int y, .int z] n (H5 d I J S L R) Q := by
  refine Calls.of (by decide) (Nat.le_of_ble_eq_true rfl) ?_
  intro K hk
  show AW K Q 0 0 0 [some (.ref 78), some (.int x), some (.int y), some (.int z)] [] n (H5 d I J S L R)
  obtain ⟨hw, hg, hw1, hw6, hg1, hg6, hfc, hfc2, hoc, hoc6, huc, huc5, htd, htd4, hmd, hop⟩ := id hB
  refine aw_aload_n (pc2 := 1) hk dX7_told_0 rfl rfl ?_
  refine aw_iload_n (pc2 := 2) hk dX7_told_1 rfl rfl ?_
  refine aw_iload_n (pc2 := 3) hk dX7_told_2 rfl rfl ?_
  refine aw_cV (rm2 := rmX7_isCase) (pc2 := 6) hk veX7_isCase dX7_told_3 rfl ml_X7_249 ⟨(Nat.le_of_ble_eq_true rfl), (Nat.le_of_ble_eq_true rfl)⟩ [_, _] rfl rfl (Nat.le_of_ble_eq_true rfl) (Nat.le_of_ble_eq_true rfl) (Nat.le_of_ble_eq_true rfl) (o_X7 rfl) (m_isCase hB hN (fun o k hx hy ho hk1 => ?_) (fun hno => ?_))
  · subst hx
    subst hy
    obtain ⟨hn1, hn2⟩ := hN o ho
    refine aw_if_ne (tgt := 13) (pc2 := 9) hk dX7_told_6 (by decide) rfl (fun c6 => ?_) (fun c6 => absurd c6 (by decide))
    refine aw_iload_n (pc2 := 14) hk dX7_told_13 rfl rfl ?_
    refine aw_i2l (pc2 := 15) hk dX7_told_14 rfl ?_
    refine aw_lconst (v := 0) (pc2 := 16) hk dX7_told_15 rfl (by decide) ?_
    refine aw_ldc2 (pc2 := 19) hk dX7_told_16 rfl kl_X7_261 ?_
    refine aw_cS (rm2 := rmX7_in) (pc2 := 22) hk seX7_in dX7_told_19 rfl ml_X7_133 ⟨(Nat.le_of_ble_eq_true rfl), (Nat.le_of_ble_eq_true rfl)⟩ [_, _, _] rfl rfl (Nat.le_of_ble_eq_true rfl) (Nat.le_of_ble_eq_true rfl) (Nat.le_of_ble_eq_true rfl) (m_in ?_)
    refine aw_if_eq (tgt := 39) (pc2 := 25) hk dX7_told_22 (by decide) rfl (fun c22 => ?_) (fun c22 => ?_)
    · have hnz : ∀ j, z = nI j → ¬ j < 14 := fun j h9 h8 => bi_no c22 (by subst h9; have h7 := nI_toInt (show j < 2 ^ 31 by omega); simp only [j_le, i64, k0, k13] at *; omega)
      refine aw_ldc2 (pc2 := 42) hk dX7_told_39 rfl kl_X7_256 ?_
      refine aw_lret hk dX7_told_42 (Nat.le_of_ble_eq_true rfl) (Nat.le_of_ble_eq_true rfl) (by first | exact hq3 o k j rfl rfl ho hk1 rfl hj1 | exact hq2 o k rfl rfl ho hk1 hnz)
    · have h1 := bi_ya c22
      obtain ⟨j, hj1, hj2⟩ : ∃ j, j < 14 ∧ z = nI j := ⟨z.toInt.toNat, by simp only [j_le, i64, k0, k13] at *; omega, i_eq (by simp only [j_le, i64, k0, k13] at *; omega)⟩
      subst hj2
      refine aw_aload_n (pc2 := 26) hk dX7_told_25 rfl rfl ?_
      refine aw_bipush (v := nI 12) (pc2 := 28) hk dX7_told_26 rfl (by decide) ?_
      refine aw_iload_n (pc2 := 29) hk dX7_told_28 rfl rfl ?_
      refine aw_imul (pc2 := 30) hk dX7_told_29 rfl ?_
      refine aw_iload_n (pc2 := 31) hk dX7_told_30 rfl rfl ?_
      refine aw_iadd (pc2 := 32) hk dX7_told_31 rfl ?_
      rw [mulN]
      refine aw_iload_n (pc2 := 33) hk dX7_told_32 rfl rfl ?_
      refine aw_cV (rm2 := rmX7_toldOf) (pc2 := 36) hk veX7_toldOf dX7_told_33 rfl ml_X7_263 ⟨(Nat.le_of_ble_eq_true rfl), (Nat.le_of_ble_eq_true rfl)⟩ [_, _] rfl rfl (Nat.le_of_ble_eq_true rfl) (Nat.le_of_ble_eq_true rfl) (Nat.le_of_ble_eq_true rfl) (o_X7 rfl) (m_toldOf (by omega) hj1 ?_)
      refine aw_goto (tgt := 42) hk dX7_told_36 (by decide) ?_
      refine aw_lret hk dX7_told_42 (Nat.le_of_ble_eq_true rfl) (Nat.le_of_ble_eq_true rfl) (by first | exact hq3 o k j rfl rfl ho hk1 rfl hj1 | exact hq2 o k rfl rfl ho hk1 hnz)
  · refine aw_if_ne (tgt := 13) (pc2 := 9) hk dX7_told_6 (by decide) rfl (fun c6 => absurd rfl c6) (fun c6 => ?_)
    refine aw_ldc2 (pc2 := 12) hk dX7_told_9 rfl kl_X7_252 ?_
    refine aw_lret hk dX7_told_12 (Nat.le_of_ble_eq_true rfl) (Nat.le_of_ble_eq_true rfl) (hq1 hno)
set_option maxHeartbeats 800000 in
set_option maxRecDepth 100000 in
theorem m_gets {n : Nat} {d : D2} {I : M2} {J : J2} {S : M2} {L : J2} {R : R2} {Q : QT} {w g fc oc uc td : Nat} {md op : Bool} (hB : MB S w g fc oc uc td md op) {nc : Nat → Nat} (hN : OM I oc nc) {x y z : Int32} (hcf : ∀ o k, o < oc → k < nc o → ∃ f, f < fc ∧ I 96 (12 * o + k) = nI f) (hrc : ∀ j, j < fc → ∃ rc, rc ≤ 4 ∧ I 85 j = nI rc) (hq1 : (∀ o k, x = nI o → y = nI k → ¬ (o < oc ∧ k < nc o)) → Q (some (.long (-101))) n (H5 d I J S L R)) (hq2 : ∀ o k f rc, x = nI o → y = nI k → o < oc → k < nc o → I 96 (12 * o + k) = nI f → I 85 f = nI rc → (∀ j, z = nI j → ¬ j < rc) → Q (some (.long (-101))) n (H5 d I J S L R)) (hq3 : ∀ o k f rc j, x = nI o → y = nI k → o < oc → k < nc o → I 96 (12 * o + k) = nI f → I 85 f = nI rc → z = nI j → j < rc → Q (some (.long (J 109 (4 * (12 * o + k) + j)))) n (H5 d I J S L R)) : Calls yX7_gets cX7_gets 4 (some .long) rmX7_gets [.ref 78, .int x, .int y, .int z] n (H5 d I J S L R) Q := by
  refine Calls.of (by decide) (Nat.le_of_ble_eq_true rfl) ?_
  intro K hk
  show AW K Q 0 0 0 [some (.ref 78), some (.int x), some (.int y), some (.int z)] [] n (H5 d I J S L R)
  obtain ⟨hw, hg, hw1, hw6, hg1, hg6, hfc, hfc2, hoc, hoc6, huc, huc5, htd, htd4, hmd, hop⟩ := id hB
  refine aw_aload_n (pc2 := 1) hk dX7_gets_0 rfl rfl ?_
  refine aw_iload_n (pc2 := 2) hk dX7_gets_1 rfl rfl ?_
  refine aw_iload_n (pc2 := 3) hk dX7_gets_2 rfl rfl ?_
  refine aw_cV (rm2 := rmX7_isCase) (pc2 := 6) hk veX7_isCase dX7_gets_3 rfl ml_X7_249 ⟨(Nat.le_of_ble_eq_true rfl), (Nat.le_of_ble_eq_true rfl)⟩ [_, _] rfl rfl (Nat.le_of_ble_eq_true rfl) (Nat.le_of_ble_eq_true rfl) (Nat.le_of_ble_eq_true rfl) (o_X7 rfl) (m_isCase hB hN (fun o k hx hy ho hk1 => ?_) (fun hno => ?_))
  · refine aw_if_eq (tgt := 37) (pc2 := 9) hk dX7_gets_6 (by decide) rfl (fun c6 => absurd c6 (by decide)) (fun c6 => ?_)
    subst hx
    subst hy
    obtain ⟨hn1, hn2⟩ := hN o ho
    obtain ⟨f, hf2, hf⟩ := hcf o k ho hk1
    obtain ⟨rc, hrc4, hrc⟩ := hrc f hf2
    refine aw_iload_n (pc2 := 10) hk dX7_gets_9 rfl rfl ?_
    refine aw_i2l (pc2 := 11) hk dX7_gets_10 rfl ?_
    refine aw_lconst (v := 0) (pc2 := 12) hk dX7_gets_11 rfl (by decide) ?_
    refine aw_aload_n (pc2 := 13) hk dX7_gets_12 rfl rfl ?_
    refine aw_get (pc2 := 16) hk ckX7 9 dX7_gets_13 rfl fl_X7_36 (by decide) (o_X7 rfl) rfl ?_
    refine aw_aload_n (pc2 := 17) hk dX7_gets_16 rfl rfl ?_
    refine aw_get (pc2 := 20) hk ckX7 25 dX7_gets_17 rfl fl_X7_69 (by decide) (o_X7 rfl) rfl ?_
    refine aw_bipush (v := nI 12) (pc2 := 22) hk dX7_gets_20 rfl (by decide) ?_
    refine aw_iload_n (pc2 := 23) hk dX7_gets_22 rfl rfl ?_
    refine aw_imul (pc2 := 24) hk dX7_gets_23 rfl ?_
    refine aw_iload_n (pc2 := 25) hk dX7_gets_24 rfl rfl ?_
    refine aw_iadd (pc2 := 26) hk dX7_gets_25 rfl ?_
    rw [mulN]
    refine h_iald (pc2 := 27) hk dX7_gets_26 rfl rfl rfl (by omega) (by decide) ?_
    rw [hf]
    refine h_iald (pc2 := 28) hk dX7_gets_27 rfl rfl rfl (by omega) (by decide) ?_
    refine aw_iconst (v := 1) (pc2 := 29) hk dX7_gets_28 rfl (by decide) ?_
    refine aw_isub (pc2 := 30) hk dX7_gets_29 rfl ?_
    refine aw_i2l (pc2 := 31) hk dX7_gets_30 rfl ?_
    rw [hrc]
    refine aw_cS (rm2 := rmX7_in) (pc2 := 34) hk seX7_in dX7_gets_31 rfl ml_X7_133 ⟨(Nat.le_of_ble_eq_true rfl), (Nat.le_of_ble_eq_true rfl)⟩ [_, _, _] rfl rfl (Nat.le_of_ble_eq_true rfl) (Nat.le_of_ble_eq_true rfl) (Nat.le_of_ble_eq_true rfl) (m_in ?_)
    refine aw_if_ne (tgt := 41) (pc2 := 37) hk dX7_gets_34 (by decide) rfl (fun c34 => ?_) (fun c34 => ?_)
    · obtain ⟨j, hj1, hj2⟩ := in_n (by omega) (bi_ya c34)
      subst hj1
      refine aw_aload_n (pc2 := 42) hk dX7_gets_41 rfl rfl ?_
      refine aw_get (pc2 := 45) hk ckX7 38 dX7_gets_42 rfl fl_X7_109 (by decide) (o_X7 rfl) rfl ?_
      refine aw_iconst (v := nI 4) (pc2 := 46) hk dX7_gets_45 rfl (by decide) ?_
      refine aw_bipush (v := nI 12) (pc2 := 48) hk dX7_gets_46 rfl (by decide) ?_
      refine aw_iload_n (pc2 := 49) hk dX7_gets_48 rfl rfl ?_
      refine aw_imul (pc2 := 50) hk dX7_gets_49 rfl ?_
      refine aw_iload_n (pc2 := 51) hk dX7_gets_50 rfl rfl ?_
      refine aw_iadd (pc2 := 52) hk dX7_gets_51 rfl ?_
      refine aw_imul (pc2 := 53) hk dX7_gets_52 rfl ?_
      refine aw_iload_n (pc2 := 54) hk dX7_gets_53 rfl rfl ?_
      refine aw_iadd (pc2 := 55) hk dX7_gets_54 rfl ?_
      rw [mulN, mulN]
      refine h_lald (pc2 := 56) hk dX7_gets_55 rfl rfl rfl (by omega) (by decide) ?_
      refine aw_lret hk dX7_gets_56 (Nat.le_of_ble_eq_true rfl) (Nat.le_of_ble_eq_true rfl) (hq3 o k f rc j rfl rfl ho hk1 hf hrc rfl hj2)
    · refine aw_ldc2 (pc2 := 40) hk dX7_gets_37 rfl kl_X7_252 ?_
      refine aw_lret hk dX7_gets_40 (Nat.le_of_ble_eq_true rfl) (Nat.le_of_ble_eq_true rfl) (hq2 o k f rc rfl rfl ho hk1 hf hrc (fun j h9 h8 => by subst h9; exact bi_no c34 (in_y (by omega) h8)))
  · refine aw_if_eq (tgt := 37) (pc2 := 9) hk dX7_gets_6 (by decide) rfl (fun c6 => ?_) (fun c6 => absurd rfl c6)
    refine aw_ldc2 (pc2 := 40) hk dX7_gets_37 rfl kl_X7_252 ?_
    refine aw_lret hk dX7_gets_40 (Nat.le_of_ble_eq_true rfl) (Nat.le_of_ble_eq_true rfl) (hq1 hno)
set_option maxHeartbeats 800000 in
set_option maxRecDepth 100000 in
theorem m_pay {n : Nat} {d : D2} {I : M2} {J : J2} {S : M2} {L : J2} {R : R2} {Q : QT} {w g fc oc uc td : Nat} {md op : Bool} (hB : MB S w g fc oc uc td md op) {nc : Nat → Nat} (hN : OM I oc nc) {x y : Int32} {v : Int64} (hq1 : (∀ o k, x = nI o → y = nI k → ¬ (o < oc ∧ k < nc o)) → Q (some (.long (-101))) n (H5 d I J S L R)) (hq2 : ∀ o k, x = nI o → y = nI k → o < oc → k < nc o → ¬ (1 ≤ v ∧ v ≤ 1000000000) → Q (some (.long (-102))) n (H5 d I J S L R)) (hq3 : ∀ o k, x = nI o → y = nI k → o < oc → k < nc o → (1 ≤ v ∧ v ≤ 1000000000) → ¬ I 97 (12 * o + k) = 4 → Q (some (.long (-103))) n (H5 d I J S L R)) (hq4 : ∀ o k, x = nI o → y = nI k → o < oc → k < nc o → (1 ≤ v ∧ v ≤ 1000000000) → I 97 (12 * o + k) = 4 → Q (some (.long ((mnL v (inM I J S (12 * o + k))) + (mnL (v - (mnL v (inM I J S (12 * o + k)))) (owM J (12 * o + k)))))) n (H5 d (u2 I 108 (12 * o + k) (S 78 16)) (u2 (u2 (u2 (u2 J 107 (12 * o + k) (inM I J S (12 * o + k))) 107 (12 * o + k) ((inM I J S (12 * o + k)) - (mnL v (inM I J S (12 * o + k))))) 106 (12 * o + k) (J 106 (12 * o + k) + (mnL v (inM I J S (12 * o + k))))) 105 (12 * o + k) (J 105 (12 * o + k) + (mnL (v - (mnL v (inM I J S (12 * o + k)))) (owM J (12 * o + k))))) S L R)) : Calls yX7_pay cX7_pay 10 (some .long) rmX7_pay [.ref 78, .int x, .int y, .long v] n (H5 d I J S L R) Q := by
  refine Calls.of (by decide) (Nat.le_of_ble_eq_true rfl) ?_
  intro K hk
  show AW K Q 0 0 0 [some (.ref 78), some (.int x), some (.int y), some (.long v), none, none, none, none, none, none] [] n (H5 d I J S L R)
  obtain ⟨hw, hg, hw1, hw6, hg1, hg6, hfc, hfc2, hoc, hoc6, huc, huc5, htd, htd4, hmd, hop⟩ := id hB
  refine aw_aload_n (pc2 := 1) hk dX7_pay_0 rfl rfl ?_
  refine aw_iload_n (pc2 := 2) hk dX7_pay_1 rfl rfl ?_
  refine aw_iload_n (pc2 := 3) hk dX7_pay_2 rfl rfl ?_
  refine aw_cV (rm2 := rmX7_isCase) (pc2 := 6) hk veX7_isCase dX7_pay_3 rfl ml_X7_249 ⟨(Nat.le_of_ble_eq_true rfl), (Nat.le_of_ble_eq_true rfl)⟩ [_, _] rfl rfl (Nat.le_of_ble_eq_true rfl) (Nat.le_of_ble_eq_true rfl) (Nat.le_of_ble_eq_true rfl) (o_X7 rfl) (m_isCase hB hN (fun o k hx hy ho hk1 => ?_) (fun hno => ?_))
  · subst hx
    subst hy
    obtain ⟨hn1, hn2⟩ := hN o ho
    refine aw_if_ne (tgt := 13) (pc2 := 9) hk dX7_pay_6 (by decide) rfl (fun c6 => ?_) (fun c6 => absurd c6 (by decide))
    refine aw_lload_n (pc2 := 14) hk dX7_pay_13 rfl rfl ?_
    refine aw_lconst (v := 1) (pc2 := 15) hk dX7_pay_14 rfl (by decide) ?_
    refine aw_ldc2 (pc2 := 18) hk dX7_pay_15 rfl kl_X7_254 ?_
    refine aw_cS (rm2 := rmX7_in) (pc2 := 21) hk seX7_in dX7_pay_18 rfl ml_X7_133 ⟨(Nat.le_of_ble_eq_true rfl), (Nat.le_of_ble_eq_true rfl)⟩ [_, _, _] rfl rfl (Nat.le_of_ble_eq_true rfl) (Nat.le_of_ble_eq_true rfl) (Nat.le_of_ble_eq_true rfl) (m_in ?_)
    refine aw_if_ne (tgt := 28) (pc2 := 24) hk dX7_pay_21 (by decide) rfl (fun c21 => ?_) (fun c21 => ?_)
    · have hv := bi_ya c21
      refine aw_bipush (v := nI 12) (pc2 := 30) hk dX7_pay_28 rfl (by decide) ?_
      refine aw_iload_n (pc2 := 31) hk dX7_pay_30 rfl rfl ?_
      refine aw_imul (pc2 := 32) hk dX7_pay_31 rfl ?_
      refine aw_iload_n (pc2 := 33) hk dX7_pay_32 rfl rfl ?_
      refine aw_iadd (pc2 := 34) hk dX7_pay_33 rfl ?_
      rw [mulN]
      refine aw_istore (pc2 := 36) hk dX7_pay_34 rfl (by decide) ?_
      show AW K Q _ _ 36 [_, _, _, _, _, _, _, _, _, _] _ _ _
      refine aw_aload_n (pc2 := 37) hk dX7_pay_36 rfl rfl ?_
      refine aw_get (pc2 := 40) hk ckX7 26 dX7_pay_37 rfl fl_X7_72 (by decide) (o_X7 rfl) rfl ?_
      refine aw_iload (pc2 := 42) hk dX7_pay_40 rfl rfl ?_
      refine h_iald (pc2 := 43) hk dX7_pay_42 rfl rfl rfl (by omega) (by decide) ?_
      refine aw_iconst (v := 4) (pc2 := 44) hk dX7_pay_43 rfl (by decide) ?_
      refine aw_icmp_eq (tgt := 51) (pc2 := 47) hk dX7_pay_44 (by decide) rfl (fun c44 => ?_) (fun c44 => ?_)
      · refine aw_aload_n (pc2 := 52) hk dX7_pay_51 rfl rfl ?_
        refine aw_get (pc2 := 55) hk ckX7 36 dX7_pay_52 rfl fl_X7_103 (by decide) (o_X7 rfl) rfl ?_
        refine aw_iload (pc2 := 57) hk dX7_pay_55 rfl rfl ?_
        refine aw_aload_n (pc2 := 58) hk dX7_pay_57 rfl rfl ?_
        refine aw_iload (pc2 := 60) hk dX7_pay_58 rfl rfl ?_
        refine aw_cV (rm2 := rmX7_interestOf) (pc2 := 63) hk veX7_interestOf dX7_pay_60 rfl ml_X7_258 ⟨(Nat.le_of_ble_eq_true rfl), (Nat.le_of_ble_eq_true rfl)⟩ [_] rfl rfl (Nat.le_of_ble_eq_true rfl) (Nat.le_of_ble_eq_true rfl) (Nat.le_of_ble_eq_true rfl) (o_X7 rfl) (m_interestOf (by omega) ?_)
        refine h_last (pc2 := 64) hk dX7_pay_63 rfl rfl rfl (by omega) (by decide) ?_
        refine aw_aload_n (pc2 := 65) hk dX7_pay_64 rfl rfl ?_
        refine aw_get (pc2 := 68) hk ckX7 37 dX7_pay_65 rfl fl_X7_106 (by decide) (o_X7 rfl) rfl ?_
        refine aw_iload (pc2 := 70) hk dX7_pay_68 rfl rfl ?_
        refine aw_aload_n (pc2 := 71) hk dX7_pay_70 rfl rfl ?_
        refine aw_get (pc2 := 74) hk ckX7 16 dX7_pay_71 rfl fl_X7_174 (by decide) (o_X7 rfl) rfl ?_
        refine h_iast (pc2 := 75) hk dX7_pay_74 rfl rfl rfl (by omega) (by decide) ?_
        refine aw_lload_n (pc2 := 76) hk dX7_pay_75 rfl rfl ?_
        refine aw_aload_n (pc2 := 77) hk dX7_pay_76 rfl rfl ?_
        refine aw_get (pc2 := 80) hk ckX7 36 dX7_pay_77 rfl fl_X7_103 (by decide) (o_X7 rfl) rfl ?_
        refine aw_iload (pc2 := 82) hk dX7_pay_80 rfl rfl ?_
        refine h_lald (pc2 := 83) hk dX7_pay_82 rfl rfl rfl (by omega) (by decide) ?_
        refine aw_lcmp (pc2 := 84) hk dX7_pay_83 rfl ?_
        refine aw_if_le (tgt := 97) (pc2 := 87) hk dX7_pay_84 (by decide) rfl (fun c84 => ?_) (fun c84 => ?_)
        · refine aw_lload_n (pc2 := 98) hk dX7_pay_97 rfl rfl ?_
          refine aw_topL (mnL v (inM I J S (12 * o + k))) (by first | exact mnL_le (by rw [lg_cmp_le, u2_s] at c84; exact c84) | (rw [u2_s]; exact mnL_gt (by rw [lg_cmp_le, u2_s] at c84; exact c84))) ?_
          refine aw_lstore (pc2 := 100) hk dX7_pay_98 rfl (by decide) ?_
          show AW K Q _ _ 100 [_, _, _, _, _, _, _, _, _, _] _ _ _
          refine aw_lload_n (pc2 := 101) hk dX7_pay_100 rfl rfl ?_
          refine aw_lload (pc2 := 103) hk dX7_pay_101 rfl rfl ?_
          refine aw_lsub (pc2 := 104) hk dX7_pay_103 rfl ?_
          have eo : owM (u2 J 107 (12 * o + k) (inM I J S (12 * o + k))) (12 * o + k) = owM J (12 * o + k) := by unfold owM duM; rw [u2_a _ _ _ _ (by decide), u2_a _ _ _ _ (by decide), u2_a _ _ _ _ (by decide), u2_a _ _ _ _ (by decide), u2_a _ _ _ _ (by decide)]
          refine aw_aload_n (pc2 := 105) hk dX7_pay_104 rfl rfl ?_
          refine aw_iload (pc2 := 107) hk dX7_pay_105 rfl rfl ?_
          refine aw_cV (rm2 := rmX7_owed) (pc2 := 110) hk veX7_owed dX7_pay_107 rfl ml_X7_246 ⟨(Nat.le_of_ble_eq_true rfl), (Nat.le_of_ble_eq_true rfl)⟩ [_] rfl rfl (Nat.le_of_ble_eq_true rfl) (Nat.le_of_ble_eq_true rfl) (Nat.le_of_ble_eq_true rfl) (o_X7 rfl) (m_owed (by omega) ?_)
          rw [eo]
          refine aw_lcmp (pc2 := 111) hk dX7_pay_110 rfl ?_
          refine aw_if_le (tgt := 123) (pc2 := 114) hk dX7_pay_111 (by decide) rfl (fun c111 => ?_) (fun c111 => ?_)
          · refine aw_lload_n (pc2 := 124) hk dX7_pay_123 rfl rfl ?_
            refine aw_lload (pc2 := 126) hk dX7_pay_124 rfl rfl ?_
            refine aw_lsub (pc2 := 127) hk dX7_pay_126 rfl ?_
            refine aw_topL (mnL (v - (mnL v (inM I J S (12 * o + k)))) (owM J (12 * o + k))) (by first | exact mnL_le (by rw [lg_cmp_le] at c111; exact c111) | exact mnL_gt (by rw [lg_cmp_le] at c111; exact c111)) ?_
            refine aw_lstore (pc2 := 129) hk dX7_pay_127 rfl (by decide) ?_
            show AW K Q _ _ 129 [_, _, _, _, _, _, _, _, _, _] _ _ _
            refine aw_aload_n (pc2 := 130) hk dX7_pay_129 rfl rfl ?_
            refine aw_get (pc2 := 133) hk ckX7 36 dX7_pay_130 rfl fl_X7_103 (by decide) (o_X7 rfl) rfl ?_
            refine aw_iload (pc2 := 135) hk dX7_pay_133 rfl rfl ?_
            refine aw_dup2_ir (pc2 := 136) hk dX7_pay_135 rfl ?_
            refine h_lald (pc2 := 137) hk dX7_pay_136 rfl rfl rfl (by omega) (by decide) ?_
            refine aw_lload (pc2 := 139) hk dX7_pay_137 rfl rfl ?_
            refine aw_lsub (pc2 := 140) hk dX7_pay_139 rfl ?_
            refine aw_topL ((inM I J S (12 * o + k)) - (mnL v (inM I J S (12 * o + k)))) (by rw [u2_s]) ?_
            refine h_last (pc2 := 141) hk dX7_pay_140 rfl rfl rfl (by omega) (by decide) ?_
            refine aw_aload_n (pc2 := 142) hk dX7_pay_141 rfl rfl ?_
            refine aw_get (pc2 := 145) hk ckX7 35 dX7_pay_142 rfl fl_X7_100 (by decide) (o_X7 rfl) rfl ?_
            refine aw_iload (pc2 := 147) hk dX7_pay_145 rfl rfl ?_
            refine aw_dup2_ir (pc2 := 148) hk dX7_pay_147 rfl ?_
            refine h_lald (pc2 := 149) hk dX7_pay_148 rfl rfl rfl (by omega) (by decide) ?_
            refine aw_lload (pc2 := 151) hk dX7_pay_149 rfl rfl ?_
            refine aw_ladd (pc2 := 152) hk dX7_pay_151 rfl ?_
            refine aw_topL (J 106 (12 * o + k) + (mnL v (inM I J S (12 * o + k)))) (by rw [u2_a _ _ _ _ (by decide), u2_a _ _ _ _ (by decide)]) ?_
            refine h_last (pc2 := 153) hk dX7_pay_152 rfl rfl rfl (by omega) (by decide) ?_
            refine aw_aload_n (pc2 := 154) hk dX7_pay_153 rfl rfl ?_
            refine aw_get (pc2 := 157) hk ckX7 34 dX7_pay_154 rfl fl_X7_97 (by decide) (o_X7 rfl) rfl ?_
            refine aw_iload (pc2 := 159) hk dX7_pay_157 rfl rfl ?_
            refine aw_dup2_ir (pc2 := 160) hk dX7_pay_159 rfl ?_
            refine h_lald (pc2 := 161) hk dX7_pay_160 rfl rfl rfl (by omega) (by decide) ?_
            refine aw_lload (pc2 := 163) hk dX7_pay_161 rfl rfl ?_
            refine aw_ladd (pc2 := 164) hk dX7_pay_163 rfl ?_
            refine aw_topL (J 105 (12 * o + k) + (mnL (v - (mnL v (inM I J S (12 * o + k)))) (owM J (12 * o + k)))) (by rw [u2_a _ _ _ _ (by decide), u2_a _ _ _ _ (by decide), u2_a _ _ _ _ (by decide)]) ?_
            refine h_last (pc2 := 165) hk dX7_pay_164 rfl rfl rfl (by omega) (by decide) ?_
            refine aw_lload (pc2 := 167) hk dX7_pay_165 rfl rfl ?_
            refine aw_lload (pc2 := 169) hk dX7_pay_167 rfl rfl ?_
            refine aw_ladd (pc2 := 170) hk dX7_pay_169 rfl ?_
            refine aw_lret hk dX7_pay_170 (Nat.le_of_ble_eq_true rfl) (Nat.le_of_ble_eq_true rfl) (hq4 o k rfl rfl ho hk1 hv c44)
          · refine aw_aload_n (pc2 := 115) hk dX7_pay_114 rfl rfl ?_
            refine aw_iload (pc2 := 117) hk dX7_pay_115 rfl rfl ?_
            refine aw_cV (rm2 := rmX7_owed) (pc2 := 120) hk veX7_owed dX7_pay_117 rfl ml_X7_246 ⟨(Nat.le_of_ble_eq_true rfl), (Nat.le_of_ble_eq_true rfl)⟩ [_] rfl rfl (Nat.le_of_ble_eq_true rfl) (Nat.le_of_ble_eq_true rfl) (Nat.le_of_ble_eq_true rfl) (o_X7 rfl) (m_owed (by omega) ?_)
            rw [eo]
            refine aw_goto (tgt := 127) hk dX7_pay_120 (by decide) ?_
            refine aw_topL (mnL (v - (mnL v (inM I J S (12 * o + k)))) (owM J (12 * o + k))) (by first | exact mnL_le (by rw [lg_cmp_le] at c111; exact c111) | exact mnL_gt (by rw [lg_cmp_le] at c111; exact c111)) ?_
            refine aw_lstore (pc2 := 129) hk dX7_pay_127 rfl (by decide) ?_
            show AW K Q _ _ 129 [_, _, _, _, _, _, _, _, _, _] _ _ _
            refine aw_aload_n (pc2 := 130) hk dX7_pay_129 rfl rfl ?_
            refine aw_get (pc2 := 133) hk ckX7 36 dX7_pay_130 rfl fl_X7_103 (by decide) (o_X7 rfl) rfl ?_
            refine aw_iload (pc2 := 135) hk dX7_pay_133 rfl rfl ?_
            refine aw_dup2_ir (pc2 := 136) hk dX7_pay_135 rfl ?_
            refine h_lald (pc2 := 137) hk dX7_pay_136 rfl rfl rfl (by omega) (by decide) ?_
            refine aw_lload (pc2 := 139) hk dX7_pay_137 rfl rfl ?_
            refine aw_lsub (pc2 := 140) hk dX7_pay_139 rfl ?_
            refine aw_topL ((inM I J S (12 * o + k)) - (mnL v (inM I J S (12 * o + k)))) (by rw [u2_s]) ?_
            refine h_last (pc2 := 141) hk dX7_pay_140 rfl rfl rfl (by omega) (by decide) ?_
            refine aw_aload_n (pc2 := 142) hk dX7_pay_141 rfl rfl ?_
            refine aw_get (pc2 := 145) hk ckX7 35 dX7_pay_142 rfl fl_X7_100 (by decide) (o_X7 rfl) rfl ?_
            refine aw_iload (pc2 := 147) hk dX7_pay_145 rfl rfl ?_
            refine aw_dup2_ir (pc2 := 148) hk dX7_pay_147 rfl ?_
            refine h_lald (pc2 := 149) hk dX7_pay_148 rfl rfl rfl (by omega) (by decide) ?_
            refine aw_lload (pc2 := 151) hk dX7_pay_149 rfl rfl ?_
            refine aw_ladd (pc2 := 152) hk dX7_pay_151 rfl ?_
            refine aw_topL (J 106 (12 * o + k) + (mnL v (inM I J S (12 * o + k)))) (by rw [u2_a _ _ _ _ (by decide), u2_a _ _ _ _ (by decide)]) ?_
            refine h_last (pc2 := 153) hk dX7_pay_152 rfl rfl rfl (by omega) (by decide) ?_
            refine aw_aload_n (pc2 := 154) hk dX7_pay_153 rfl rfl ?_
            refine aw_get (pc2 := 157) hk ckX7 34 dX7_pay_154 rfl fl_X7_97 (by decide) (o_X7 rfl) rfl ?_
            refine aw_iload (pc2 := 159) hk dX7_pay_157 rfl rfl ?_
            refine aw_dup2_ir (pc2 := 160) hk dX7_pay_159 rfl ?_
            refine h_lald (pc2 := 161) hk dX7_pay_160 rfl rfl rfl (by omega) (by decide) ?_
            refine aw_lload (pc2 := 163) hk dX7_pay_161 rfl rfl ?_
            refine aw_ladd (pc2 := 164) hk dX7_pay_163 rfl ?_
            refine aw_topL (J 105 (12 * o + k) + (mnL (v - (mnL v (inM I J S (12 * o + k)))) (owM J (12 * o + k)))) (by rw [u2_a _ _ _ _ (by decide), u2_a _ _ _ _ (by decide), u2_a _ _ _ _ (by decide)]) ?_
            refine h_last (pc2 := 165) hk dX7_pay_164 rfl rfl rfl (by omega) (by decide) ?_
            refine aw_lload (pc2 := 167) hk dX7_pay_165 rfl rfl ?_
            refine aw_lload (pc2 := 169) hk dX7_pay_167 rfl rfl ?_
            refine aw_ladd (pc2 := 170) hk dX7_pay_169 rfl ?_
            refine aw_lret hk dX7_pay_170 (Nat.le_of_ble_eq_true rfl) (Nat.le_of_ble_eq_true rfl) (hq4 o k rfl rfl ho hk1 hv c44)
        · refine aw_aload_n (pc2 := 88) hk dX7_pay_87 rfl rfl ?_
          refine aw_get (pc2 := 91) hk ckX7 36 dX7_pay_88 rfl fl_X7_103 (by decide) (o_X7 rfl) rfl ?_
          refine aw_iload (pc2 := 93) hk dX7_pay_91 rfl rfl ?_
          refine h_lald (pc2 := 94) hk dX7_pay_93 rfl rfl rfl (by omega) (by decide) ?_
          refine aw_goto (tgt := 98) hk dX7_pay_94 (by decide) ?_
          refine aw_topL (mnL v (inM I J S (12 * o + k))) (by first | exact mnL_le (by rw [lg_cmp_le, u2_s] at c84; exact c84) | (rw [u2_s]; exact mnL_gt (by rw [lg_cmp_le, u2_s] at c84; exact c84))) ?_
          refine aw_lstore (pc2 := 100) hk dX7_pay_98 rfl (by decide) ?_
          show AW K Q _ _ 100 [_, _, _, _, _, _, _, _, _, _] _ _ _
          refine aw_lload_n (pc2 := 101) hk dX7_pay_100 rfl rfl ?_
          refine aw_lload (pc2 := 103) hk dX7_pay_101 rfl rfl ?_
          refine aw_lsub (pc2 := 104) hk dX7_pay_103 rfl ?_
          have eo : owM (u2 J 107 (12 * o + k) (inM I J S (12 * o + k))) (12 * o + k) = owM J (12 * o + k) := by unfold owM duM; rw [u2_a _ _ _ _ (by decide), u2_a _ _ _ _ (by decide), u2_a _ _ _ _ (by decide), u2_a _ _ _ _ (by decide), u2_a _ _ _ _ (by decide)]
          refine aw_aload_n (pc2 := 105) hk dX7_pay_104 rfl rfl ?_
          refine aw_iload (pc2 := 107) hk dX7_pay_105 rfl rfl ?_
          refine aw_cV (rm2 := rmX7_owed) (pc2 := 110) hk veX7_owed dX7_pay_107 rfl ml_X7_246 ⟨(Nat.le_of_ble_eq_true rfl), (Nat.le_of_ble_eq_true rfl)⟩ [_] rfl rfl (Nat.le_of_ble_eq_true rfl) (Nat.le_of_ble_eq_true rfl) (Nat.le_of_ble_eq_true rfl) (o_X7 rfl) (m_owed (by omega) ?_)
          rw [eo]
          refine aw_lcmp (pc2 := 111) hk dX7_pay_110 rfl ?_
          refine aw_if_le (tgt := 123) (pc2 := 114) hk dX7_pay_111 (by decide) rfl (fun c111 => ?_) (fun c111 => ?_)
          · refine aw_lload_n (pc2 := 124) hk dX7_pay_123 rfl rfl ?_
            refine aw_lload (pc2 := 126) hk dX7_pay_124 rfl rfl ?_
            refine aw_lsub (pc2 := 127) hk dX7_pay_126 rfl ?_
            refine aw_topL (mnL (v - (mnL v (inM I J S (12 * o + k)))) (owM J (12 * o + k))) (by first | exact mnL_le (by rw [lg_cmp_le] at c111; exact c111) | exact mnL_gt (by rw [lg_cmp_le] at c111; exact c111)) ?_
            refine aw_lstore (pc2 := 129) hk dX7_pay_127 rfl (by decide) ?_
            show AW K Q _ _ 129 [_, _, _, _, _, _, _, _, _, _] _ _ _
            refine aw_aload_n (pc2 := 130) hk dX7_pay_129 rfl rfl ?_
            refine aw_get (pc2 := 133) hk ckX7 36 dX7_pay_130 rfl fl_X7_103 (by decide) (o_X7 rfl) rfl ?_
            refine aw_iload (pc2 := 135) hk dX7_pay_133 rfl rfl ?_
            refine aw_dup2_ir (pc2 := 136) hk dX7_pay_135 rfl ?_
            refine h_lald (pc2 := 137) hk dX7_pay_136 rfl rfl rfl (by omega) (by decide) ?_
            refine aw_lload (pc2 := 139) hk dX7_pay_137 rfl rfl ?_
            refine aw_lsub (pc2 := 140) hk dX7_pay_139 rfl ?_
            refine aw_topL ((inM I J S (12 * o + k)) - (mnL v (inM I J S (12 * o + k)))) (by rw [u2_s]) ?_
            refine h_last (pc2 := 141) hk dX7_pay_140 rfl rfl rfl (by omega) (by decide) ?_
            refine aw_aload_n (pc2 := 142) hk dX7_pay_141 rfl rfl ?_
            refine aw_get (pc2 := 145) hk ckX7 35 dX7_pay_142 rfl fl_X7_100 (by decide) (o_X7 rfl) rfl ?_
            refine aw_iload (pc2 := 147) hk dX7_pay_145 rfl rfl ?_
            refine aw_dup2_ir (pc2 := 148) hk dX7_pay_147 rfl ?_
            refine h_lald (pc2 := 149) hk dX7_pay_148 rfl rfl rfl (by omega) (by decide) ?_
            refine aw_lload (pc2 := 151) hk dX7_pay_149 rfl rfl ?_
            refine aw_ladd (pc2 := 152) hk dX7_pay_151 rfl ?_
            refine aw_topL (J 106 (12 * o + k) + (mnL v (inM I J S (12 * o + k)))) (by rw [u2_a _ _ _ _ (by decide), u2_a _ _ _ _ (by decide)]) ?_
            refine h_last (pc2 := 153) hk dX7_pay_152 rfl rfl rfl (by omega) (by decide) ?_
            refine aw_aload_n (pc2 := 154) hk dX7_pay_153 rfl rfl ?_
            refine aw_get (pc2 := 157) hk ckX7 34 dX7_pay_154 rfl fl_X7_97 (by decide) (o_X7 rfl) rfl ?_
            refine aw_iload (pc2 := 159) hk dX7_pay_157 rfl rfl ?_
            refine aw_dup2_ir (pc2 := 160) hk dX7_pay_159 rfl ?_
            refine h_lald (pc2 := 161) hk dX7_pay_160 rfl rfl rfl (by omega) (by decide) ?_
            refine aw_lload (pc2 := 163) hk dX7_pay_161 rfl rfl ?_
            refine aw_ladd (pc2 := 164) hk dX7_pay_163 rfl ?_
            refine aw_topL (J 105 (12 * o + k) + (mnL (v - (mnL v (inM I J S (12 * o + k)))) (owM J (12 * o + k)))) (by rw [u2_a _ _ _ _ (by decide), u2_a _ _ _ _ (by decide), u2_a _ _ _ _ (by decide)]) ?_
            refine h_last (pc2 := 165) hk dX7_pay_164 rfl rfl rfl (by omega) (by decide) ?_
            refine aw_lload (pc2 := 167) hk dX7_pay_165 rfl rfl ?_
            refine aw_lload (pc2 := 169) hk dX7_pay_167 rfl rfl ?_
            refine aw_ladd (pc2 := 170) hk dX7_pay_169 rfl ?_
            refine aw_lret hk dX7_pay_170 (Nat.le_of_ble_eq_true rfl) (Nat.le_of_ble_eq_true rfl) (hq4 o k rfl rfl ho hk1 hv c44)
          · refine aw_aload_n (pc2 := 115) hk dX7_pay_114 rfl rfl ?_
            refine aw_iload (pc2 := 117) hk dX7_pay_115 rfl rfl ?_
            refine aw_cV (rm2 := rmX7_owed) (pc2 := 120) hk veX7_owed dX7_pay_117 rfl ml_X7_246 ⟨(Nat.le_of_ble_eq_true rfl), (Nat.le_of_ble_eq_true rfl)⟩ [_] rfl rfl (Nat.le_of_ble_eq_true rfl) (Nat.le_of_ble_eq_true rfl) (Nat.le_of_ble_eq_true rfl) (o_X7 rfl) (m_owed (by omega) ?_)
            rw [eo]
            refine aw_goto (tgt := 127) hk dX7_pay_120 (by decide) ?_
            refine aw_topL (mnL (v - (mnL v (inM I J S (12 * o + k)))) (owM J (12 * o + k))) (by first | exact mnL_le (by rw [lg_cmp_le] at c111; exact c111) | exact mnL_gt (by rw [lg_cmp_le] at c111; exact c111)) ?_
            refine aw_lstore (pc2 := 129) hk dX7_pay_127 rfl (by decide) ?_
            show AW K Q _ _ 129 [_, _, _, _, _, _, _, _, _, _] _ _ _
            refine aw_aload_n (pc2 := 130) hk dX7_pay_129 rfl rfl ?_
            refine aw_get (pc2 := 133) hk ckX7 36 dX7_pay_130 rfl fl_X7_103 (by decide) (o_X7 rfl) rfl ?_
            refine aw_iload (pc2 := 135) hk dX7_pay_133 rfl rfl ?_
            refine aw_dup2_ir (pc2 := 136) hk dX7_pay_135 rfl ?_
            refine h_lald (pc2 := 137) hk dX7_pay_136 rfl rfl rfl (by omega) (by decide) ?_
            refine aw_lload (pc2 := 139) hk dX7_pay_137 rfl rfl ?_
            refine aw_lsub (pc2 := 140) hk dX7_pay_139 rfl ?_
            refine aw_topL ((inM I J S (12 * o + k)) - (mnL v (inM I J S (12 * o + k)))) (by rw [u2_s]) ?_
            refine h_last (pc2 := 141) hk dX7_pay_140 rfl rfl rfl (by omega) (by decide) ?_
            refine aw_aload_n (pc2 := 142) hk dX7_pay_141 rfl rfl ?_
            refine aw_get (pc2 := 145) hk ckX7 35 dX7_pay_142 rfl fl_X7_100 (by decide) (o_X7 rfl) rfl ?_
            refine aw_iload (pc2 := 147) hk dX7_pay_145 rfl rfl ?_
            refine aw_dup2_ir (pc2 := 148) hk dX7_pay_147 rfl ?_
            refine h_lald (pc2 := 149) hk dX7_pay_148 rfl rfl rfl (by omega) (by decide) ?_
            refine aw_lload (pc2 := 151) hk dX7_pay_149 rfl rfl ?_
            refine aw_ladd (pc2 := 152) hk dX7_pay_151 rfl ?_
            refine aw_topL (J 106 (12 * o + k) + (mnL v (inM I J S (12 * o + k)))) (by rw [u2_a _ _ _ _ (by decide), u2_a _ _ _ _ (by decide)]) ?_
            refine h_last (pc2 := 153) hk dX7_pay_152 rfl rfl rfl (by omega) (by decide) ?_
            refine aw_aload_n (pc2 := 154) hk dX7_pay_153 rfl rfl ?_
            refine aw_get (pc2 := 157) hk ckX7 34 dX7_pay_154 rfl fl_X7_97 (by decide) (o_X7 rfl) rfl ?_
            refine aw_iload (pc2 := 159) hk dX7_pay_157 rfl rfl ?_
            refine aw_dup2_ir (pc2 := 160) hk dX7_pay_159 rfl ?_
            refine h_lald (pc2 := 161) hk dX7_pay_160 rfl rfl rfl (by omega) (by decide) ?_
            refine aw_lload (pc2 := 163) hk dX7_pay_161 rfl rfl ?_
            refine aw_ladd (pc2 := 164) hk dX7_pay_163 rfl ?_
            refine aw_topL (J 105 (12 * o + k) + (mnL (v - (mnL v (inM I J S (12 * o + k)))) (owM J (12 * o + k)))) (by rw [u2_a _ _ _ _ (by decide), u2_a _ _ _ _ (by decide), u2_a _ _ _ _ (by decide)]) ?_
            refine h_last (pc2 := 165) hk dX7_pay_164 rfl rfl rfl (by omega) (by decide) ?_
            refine aw_lload (pc2 := 167) hk dX7_pay_165 rfl rfl ?_
            refine aw_lload (pc2 := 169) hk dX7_pay_167 rfl rfl ?_
            refine aw_ladd (pc2 := 170) hk dX7_pay_169 rfl ?_
            refine aw_lret hk dX7_pay_170 (Nat.le_of_ble_eq_true rfl) (Nat.le_of_ble_eq_true rfl) (hq4 o k rfl rfl ho hk1 hv c44)
      · refine aw_ldc2 (pc2 := 50) hk dX7_pay_47 rfl kl_X7_241 ?_
        refine aw_lret hk dX7_pay_50 (Nat.le_of_ble_eq_true rfl) (Nat.le_of_ble_eq_true rfl) (hq3 o k rfl rfl ho hk1 hv c44)
    · refine aw_ldc2 (pc2 := 27) hk dX7_pay_24 rfl kl_X7_256 ?_
      refine aw_lret hk dX7_pay_27 (Nat.le_of_ble_eq_true rfl) (Nat.le_of_ble_eq_true rfl) (hq2 o k rfl rfl ho hk1 (fun h9 => bi_no c21 h9))
  · refine aw_if_ne (tgt := 13) (pc2 := 9) hk dX7_pay_6 (by decide) rfl (fun c6 => absurd rfl c6) (fun c6 => ?_)
    refine aw_ldc2 (pc2 := 12) hk dX7_pay_9 rfl kl_X7_252 ?_
    refine aw_lret hk dX7_pay_12 (Nat.le_of_ble_eq_true rfl) (Nat.le_of_ble_eq_true rfl) (hq1 hno)
set_option maxHeartbeats 800000 in
set_option maxRecDepth 100000 in
theorem m_lookOf {n : Nat} {d : D2} {I : M2} {J : J2} {S : M2} {L : J2} {R : R2} {Q : QT} {c k : Nat} (hc6 : c < 256) (hk5 : k < 5) (hq : Q (some (.int (lkM I c k))) n (H5 d I J S L R)) : Calls yX7_lookOf cX7_lookOf 3 (some .int) rmX7_lookOf [.ref 78, .int (nI c), .int (nI k)] n (H5 d I J S L R) Q := by
  refine Calls.of (by decide) (Nat.le_of_ble_eq_true rfl) ?_
  intro K hk
  show AW K Q 0 0 0 [some (.ref 78), some (.int (nI c)), some (.int (nI k))] [] n (H5 d I J S L R)
  refine aw_iload_n (pc2 := 1) hk dX7_lookOf_0 rfl rfl ?_
  match k, hk5 with
  | 0, _ =>
    refine aw_tableIn (tgt := 32) (off := 31) hk dX7_lookOf_1 (by decide) (by decide) (by decide) (by decide) ?_
    refine aw_aload_n (pc2 := 33) hk dX7_lookOf_32 rfl rfl ?_
    refine aw_get (pc2 := 36) hk ckX7 2 dX7_lookOf_33 rfl fl_X7_16 (by decide) (o_X7 rfl) rfl ?_
    refine aw_iload_n (pc2 := 37) hk dX7_lookOf_36 rfl rfl ?_
    refine h_iald (pc2 := 38) hk dX7_lookOf_37 rfl rfl rfl hc6 (by decide) ?_
    refine aw_iret hk dX7_lookOf_38 (Nat.le_of_ble_eq_true rfl) (Nat.le_of_ble_eq_true rfl) hq
  | 1, _ =>
    refine aw_tableIn (tgt := 39) (off := 38) hk dX7_lookOf_1 (by decide) (by decide) (by decide) (by decide) ?_
    refine aw_aload_n (pc2 := 40) hk dX7_lookOf_39 rfl rfl ?_
    refine aw_get (pc2 := 43) hk ckX7 3 dX7_lookOf_40 rfl fl_X7_20 (by decide) (o_X7 rfl) rfl ?_
    refine aw_iload_n (pc2 := 44) hk dX7_lookOf_43 rfl rfl ?_
    refine h_iald (pc2 := 45) hk dX7_lookOf_44 rfl rfl rfl hc6 (by decide) ?_
    refine aw_iret hk dX7_lookOf_45 (Nat.le_of_ble_eq_true rfl) (Nat.le_of_ble_eq_true rfl) hq
  | 2, _ =>
    refine aw_tableIn (tgt := 46) (off := 45) hk dX7_lookOf_1 (by decide) (by decide) (by decide) (by decide) ?_
    refine aw_aload_n (pc2 := 47) hk dX7_lookOf_46 rfl rfl ?_
    refine aw_get (pc2 := 50) hk ckX7 4 dX7_lookOf_47 rfl fl_X7_23 (by decide) (o_X7 rfl) rfl ?_
    refine aw_iload_n (pc2 := 51) hk dX7_lookOf_50 rfl rfl ?_
    refine h_zald (pc2 := 52) hk dX7_lookOf_51 rfl rfl rfl hc6 (by decide) ?_
    refine aw_if_eq (tgt := 59) (pc2 := 55) hk dX7_lookOf_52 (by decide) rfl (fun c52 => ?_) (fun c52 => ?_)
    · refine aw_iconst (v := 0) (pc2 := 60) hk dX7_lookOf_59 rfl (by decide) ?_
      refine aw_iret hk dX7_lookOf_60 (Nat.le_of_ble_eq_true rfl) (Nat.le_of_ble_eq_true rfl) (by rw [show lkM I c 2 = bi (I 81 c != 0) from rfl] at hq; simpa [bi, c52] using hq)
    · refine aw_iconst (v := 1) (pc2 := 56) hk dX7_lookOf_55 rfl (by decide) ?_
      refine aw_goto (tgt := 60) hk dX7_lookOf_56 (by decide) ?_
      refine aw_iret hk dX7_lookOf_60 (Nat.le_of_ble_eq_true rfl) (Nat.le_of_ble_eq_true rfl) (by rw [show lkM I c 2 = bi (I 81 c != 0) from rfl] at hq; simpa [bi, c52] using hq)
  | 3, _ =>
    refine aw_tableIn (tgt := 61) (off := 60) hk dX7_lookOf_1 (by decide) (by decide) (by decide) (by decide) ?_
    refine aw_aload_n (pc2 := 62) hk dX7_lookOf_61 rfl rfl ?_
    refine aw_get (pc2 := 65) hk ckX7 6 dX7_lookOf_62 rfl fl_X7_30 (by decide) (o_X7 rfl) rfl ?_
    refine aw_iload_n (pc2 := 66) hk dX7_lookOf_65 rfl rfl ?_
    refine h_iald (pc2 := 67) hk dX7_lookOf_66 rfl rfl rfl hc6 (by decide) ?_
    refine aw_if_le (tgt := 74) (pc2 := 70) hk dX7_lookOf_67 (by decide) rfl (fun c67 => ?_) (fun c67 => ?_)
    · refine aw_iconst (v := 0) (pc2 := 75) hk dX7_lookOf_74 rfl (by decide) ?_
      refine aw_iret hk dX7_lookOf_75 (Nat.le_of_ble_eq_true rfl) (Nat.le_of_ble_eq_true rfl) (by rw [show lkM I c 3 = bi (tkM I c) from rfl] at hq; first | (rw [show tkM I c = false by unfold tkM; simp only [decide_eq_false_iff_not]; rw [i_lt, l0]; rw [i_le, l0] at c67; omega] at hq; exact hq) | (rw [show tkM I c = true by unfold tkM; simp only [decide_eq_true_eq]; rw [i_lt, l0]; rw [i_le, l0] at c67; omega] at hq; exact hq))
    · refine aw_iconst (v := 1) (pc2 := 71) hk dX7_lookOf_70 rfl (by decide) ?_
      refine aw_goto (tgt := 75) hk dX7_lookOf_71 (by decide) ?_
      refine aw_iret hk dX7_lookOf_75 (Nat.le_of_ble_eq_true rfl) (Nat.le_of_ble_eq_true rfl) (by rw [show lkM I c 3 = bi (tkM I c) from rfl] at hq; first | (rw [show tkM I c = false by unfold tkM; simp only [decide_eq_false_iff_not]; rw [i_lt, l0]; rw [i_le, l0] at c67; omega] at hq; exact hq) | (rw [show tkM I c = true by unfold tkM; simp only [decide_eq_true_eq]; rw [i_lt, l0]; rw [i_le, l0] at c67; omega] at hq; exact hq))
  | 4, _ =>
    refine aw_tableOut (tgt := 76) hk dX7_lookOf_1 (by decide) (by decide) ?_
    refine aw_aload_n (pc2 := 77) hk dX7_lookOf_76 rfl rfl ?_
    refine aw_get (pc2 := 80) hk ckX7 5 dX7_lookOf_77 rfl fl_X7_27 (by decide) (o_X7 rfl) rfl ?_
    refine aw_iload_n (pc2 := 81) hk dX7_lookOf_80 rfl rfl ?_
    refine h_zald (pc2 := 82) hk dX7_lookOf_81 rfl rfl rfl hc6 (by decide) ?_
    refine aw_if_eq (tgt := 89) (pc2 := 85) hk dX7_lookOf_82 (by decide) rfl (fun c82 => ?_) (fun c82 => ?_)
    · refine aw_iconst (v := 0) (pc2 := 90) hk dX7_lookOf_89 rfl (by decide) ?_
      refine aw_iret hk dX7_lookOf_90 (Nat.le_of_ble_eq_true rfl) (Nat.le_of_ble_eq_true rfl) (by rw [show lkM I c 4 = bi (I 82 c != 0) from rfl] at hq; simpa [bi, c82] using hq)
    · refine aw_iconst (v := 1) (pc2 := 86) hk dX7_lookOf_85 rfl (by decide) ?_
      refine aw_goto (tgt := 90) hk dX7_lookOf_86 (by decide) ?_
      refine aw_iret hk dX7_lookOf_90 (Nat.le_of_ble_eq_true rfl) (Nat.le_of_ble_eq_true rfl) (by rw [show lkM I c 4 = bi (I 82 c != 0) from rfl] at hq; simpa [bi, c82] using hq)
set_option maxHeartbeats 800000 in
set_option maxRecDepth 100000 in
theorem m_look {n : Nat} {d : D2} {I : M2} {J : J2} {S : M2} {L : J2} {R : R2} {Q : QT} {w g fc oc uc td : Nat} {md op : Bool} (hB : MB S w g fc oc uc td md op) {x y z : Int32} (hq1 : plc w g x y = none → Q (some (.int (-101))) n (H5 d I J S L R)) (hq2 : ∀ c, plc w g x y = some c → (∀ k, z = nI k → ¬ k < 5) → Q (some (.int (-102))) n (H5 d I J S L R)) (hq3 : ∀ c k, plc w g x y = some c → z = nI k → k < 5 → Q (some (.int (lkM I c k))) n (H5 d I J S L R)) : Calls yX7_look cX7_look 4 (some .int) rmX7_look [.ref 78, .int x, .int y, .int z] n (H5 d I J S L R) Q := by
  refine Calls.of (by decide) (Nat.le_of_ble_eq_true rfl) ?_
  intro K hk
  show AW K Q 0 0 0 [some (.ref 78), some (.int x), some (.int y), some (.int z)] [] n (H5 d I J S L R)
  obtain ⟨hw, hg, hw1, hw6, hg1, hg6, hfc, hfc2, hoc, hoc6, huc, huc5, htd, htd4, hmd, hop⟩ := id hB
  refine aw_aload_n (pc2 := 1) hk dX7_look_0 rfl rfl ?_
  refine aw_iload_n (pc2 := 2) hk dX7_look_1 rfl rfl ?_
  refine aw_iload_n (pc2 := 3) hk dX7_look_2 rfl rfl ?_
  refine aw_cV (rm2 := rmX7_isCell) (pc2 := 6) hk veX7_isCell dX7_look_3 rfl ml_X7_143 ⟨(Nat.le_of_ble_eq_true rfl), (Nat.le_of_ble_eq_true rfl)⟩ [_, _] rfl rfl (Nat.le_of_ble_eq_true rfl) (Nat.le_of_ble_eq_true rfl) (Nat.le_of_ble_eq_true rfl) (o_X7 rfl) (m_isCell hB ?_)
  refine aw_if_ne (tgt := 12) (pc2 := 9) hk dX7_look_6 (by decide) rfl (fun c6 => ?_) (fun c6 => ?_)
  · obtain ⟨c, hc1⟩ := isS c6
    have hc3 := plc_lt hw6 hg6 hc1
    refine aw_iload_n (pc2 := 13) hk dX7_look_12 rfl rfl ?_
    refine aw_i2l (pc2 := 14) hk dX7_look_13 rfl ?_
    refine aw_lconst (v := 0) (pc2 := 15) hk dX7_look_14 rfl (by decide) ?_
    refine aw_ldc2 (pc2 := 18) hk dX7_look_15 rfl kl_X7_171 ?_
    refine aw_cS (rm2 := rmX7_in) (pc2 := 21) hk seX7_in dX7_look_18 rfl ml_X7_133 ⟨(Nat.le_of_ble_eq_true rfl), (Nat.le_of_ble_eq_true rfl)⟩ [_, _, _] rfl rfl (Nat.le_of_ble_eq_true rfl) (Nat.le_of_ble_eq_true rfl) (Nat.le_of_ble_eq_true rfl) (m_in ?_)
    refine aw_if_eq (tgt := 38) (pc2 := 24) hk dX7_look_21 (by decide) rfl (fun c21 => ?_) (fun c21 => ?_)
    · have hnz : ∀ j, z = nI j → ¬ j < 5 := fun j h9 h8 => bi_no c21 (by subst h9; have h7 := nI_toInt (show j < 2 ^ 31 by omega); simp only [j_le, i64, k0, k4] at *; omega)
      refine aw_bipush (v := -102) (pc2 := 40) hk dX7_look_38 rfl (by decide) ?_
      refine aw_iret hk dX7_look_40 (Nat.le_of_ble_eq_true rfl) (Nat.le_of_ble_eq_true rfl) (by first | exact hq3 c j hc1 rfl hj1 | exact hq2 c hc1 hnz)
    · have h1 := bi_ya c21
      obtain ⟨j, hj1, hj2⟩ : ∃ j, j < 5 ∧ z = nI j := ⟨z.toInt.toNat, by simp only [j_le, i64, k0, k4] at *; omega, i_eq (by simp only [j_le, i64, k0, k4] at *; omega)⟩
      subst hj2
      refine aw_aload_n (pc2 := 25) hk dX7_look_24 rfl rfl ?_
      refine aw_bipush (v := nI 16) (pc2 := 27) hk dX7_look_25 rfl (by decide) ?_
      refine aw_iload_n (pc2 := 28) hk dX7_look_27 rfl rfl ?_
      refine aw_imul (pc2 := 29) hk dX7_look_28 rfl ?_
      refine aw_iload_n (pc2 := 30) hk dX7_look_29 rfl rfl ?_
      refine aw_iadd (pc2 := 31) hk dX7_look_30 rfl ?_
      rw [plc_val hc1]
      refine aw_iload_n (pc2 := 32) hk dX7_look_31 rfl rfl ?_
      refine aw_cV (rm2 := rmX7_lookOf) (pc2 := 35) hk veX7_lookOf dX7_look_32 rfl ml_X7_266 ⟨(Nat.le_of_ble_eq_true rfl), (Nat.le_of_ble_eq_true rfl)⟩ [_, _] rfl rfl (Nat.le_of_ble_eq_true rfl) (Nat.le_of_ble_eq_true rfl) (Nat.le_of_ble_eq_true rfl) (o_X7 rfl) (m_lookOf hc3 hj1 ?_)
      refine aw_goto (tgt := 40) hk dX7_look_35 (by decide) ?_
      refine aw_iret hk dX7_look_40 (Nat.le_of_ble_eq_true rfl) (Nat.le_of_ble_eq_true rfl) (by first | exact hq3 c j hc1 rfl hj1 | exact hq2 c hc1 hnz)
  · refine aw_bipush (v := -101) (pc2 := 11) hk dX7_look_9 rfl (by decide) ?_
    refine aw_iret hk dX7_look_11 (Nat.le_of_ble_eq_true rfl) (Nat.le_of_ble_eq_true rfl) (hq1 (isN c6))
