theorem CB.u2S {S : M2} {R : R2} {w g fc oc uc td : Nat} (h : CB S R w g fc oc uc td) {b : Nat} (j : Nat) (v : Int32) (h0 : b ≠ 0) (h1 : b ≠ 1) : CB (u2 S b j v) R w g fc oc uc td := by
  unfold CB at *
  rw [u2_a _ _ _ _ (Ne.symm h1), u2_a _ _ _ _ (Ne.symm h1), u2_a _ _ _ _ (Ne.symm h0), u2_a _ _ _ _ (Ne.symm h0), u2_a _ _ _ _ (Ne.symm h0), u2_a _ _ _ _ (Ne.symm h0)]
  exact h
def wD (D : DV) (pr : Nat → Int64) (i : Nat) : Int64 := sL (fun c => if D.2.1 c = some i then pr c else 0) 256
def mD (D : DV) (house : Int32) : Option Nat := if 0 ≤ house.toInt ∧ house.toInt < 256 ∧ D.2.1 house.toInt.toNat ≠ none then D.2.1 house.toInt.toNat else bst (fun j => nI (D.2.2.2.1 j)) D.1
def mW (D : DV) (house : Int32) : Bool := match mD D house with
  | some m => D.2.2.2.2 m
  | none => false
def lD (D : DV) (pr : Nat → Int64) (house r0 : Int32) : Nat → Int64 := fun i => if mD D house = some i then 0 else if (mW D house && !D.2.2.2.2 i) = true then wD D pr i else wD D pr i * r0.toInt64 / 1000
def wM (D : DV) (pr : Nat → Int64) (house : Int32) : Int64 := match mD D house with
  | some m => wD D pr m
  | none => 0
/-- a division's numbers are in range -/
def dOK (D : DV) : Prop := D.1 ≤ 256 ∧ ∀ x j, D.2.1 x = some j → j < D.1
theorem mD_lt {D : DV} (h : dOK D) {house : Int32} {m : Nat} (hm : mD D house = some m) : m < D.1 := by
  unfold mD at hm
  split at hm
  · exact h.2 _ _ hm
  · exact bst_lt _ _ _ hm
theorem FR.main {I I1 : M2} {D : DV} (h : FR I I1 D) (hd : dOK D) (hs : Int32) : mnC (I1 8) (I1 9) hs D.1 = opI (mD D hs) := by
  unfold mnC mD
  by_cases hc : 0 ≤ hs.toInt ∧ hs.toInt < 256
  · have e := h.2.1 hs.toInt.toNat (by omega)
    by_cases hp : D.2.1 hs.toInt.toNat = none
    · rw [if_neg (fun h9 => h9.2.2 (by rw [e, hp]; rfl)), if_neg (fun h9 => h9.2.2 hp)]
      rw [bst_eq D.1 (fun j hj => (h.2.2 j hj).1)]
    · have hne : I1 8 hs.toInt.toNat ≠ -1 := fun h9 => by
        obtain ⟨q, hq⟩ := Option.ne_none_iff_exists'.mp hp
        rw [e, hq] at h9
        exact nI_m1 (by have := hd.2 _ _ hq; have := hd.1; omega) h9
      rw [if_pos ⟨hc.1, hc.2, hne⟩, if_pos ⟨hc.1, hc.2, hp⟩, e]
  · rw [if_neg (fun h9 => hc ⟨h9.1, h9.2.1⟩), if_neg (fun h9 => hc ⟨h9.1, h9.2.1⟩)]
    rw [bst_eq D.1 (fun j hj => (h.2.2 j hj).1)]
theorem FR.wrt {I I1 : M2} {D : DV} (h : FR I I1 D) (hd : dOK D) {i a : Nat} (hi : i < D.1) (ha : a ≠ 8 ∧ a ≠ 9 ∧ a ≠ 10 ∧ a ≠ 11 ∧ a ≠ 12) : sL (fun c => if I1 8 c = nI i then (prI I1 a c).toInt64 else 0) 256 = wD D (fun c => (prI I a c).toInt64) i := by
  refine sL_eq 256 (fun c hc => ?_)
  have e1 : prI I1 a c = prI I a c := by unfold prI; rw [h.1 a ha.1 ha.2.1 ha.2.2.1 ha.2.2.2.1 ha.2.2.2.2, h.1 3 (by decide) (by decide) (by decide) (by decide) (by decide)]
  rw [e1, h.2.1 c hc]
  have e2 : (opI (D.2.1 c) = nI i) ↔ D.2.1 c = some i := by
    cases hp : D.2.1 c with
    | none => exact ⟨fun h9 => absurd h9.symm (nI_m1 (by have := hd.1; omega)), fun h9 => by cases h9⟩
    | some q =>
      have := hd.2 _ _ hp
      have := hd.1
      exact ⟨fun h9 => by rw [(nI_eq (by omega) (by omega)).mp h9], fun h9 => by cases h9; rfl⟩
  simp only [e2]
set_option maxHeartbeats 800000 in
set_option maxRecDepth 100000 in
theorem t_lop {n : Nat} {d : D2} {I : M2} {J : J2} {S : M2} {L : J2} {R : R2} {Q : QT} {I0 : M2} {D : DV} {hs : Int32} (hF : FR I0 I D) (hd : dOK D) (hk0 : S 7 0 = nI D.1) (hS71 : S 7 1 = opI (mD D hs)) (hso : ∀ p, p < 256 → ∃ k, k < 4 ∧ I 3 p = nI k) (hq : Q (some (.long (sL (lD D (fun c => (prI I0 75 c).toInt64) hs (I 76 0)) D.1))) n (H5 d I J S L R)) : Calls yX6_lossOfPieces cX6_lossOfPieces 8 (some .long) rmX6_lossOfPieces [.ref 0] n (H5 d I J S L R) Q := by
  refine Calls.of (by decide) (Nat.le_of_ble_eq_true rfl) ?_
  intro K hk
  show AW K Q 0 0 0 [some (.ref 0), none, none, none, none, none, none, none] [] n (H5 d I J S L R)
  have hd6 := hd.1
  cases hmm : mD D hs with
  | none =>
    have hmain : S 7 1 = -1 := by rw [hS71, hmm]; rfl
    have loop : ∀ (k i : Nat), i ≤ D.1 → D.1 + 1 ≤ i + k → AW K Q 0 0 20 [some (.ref 0), some (.int (0)), some (.long (sL (lD D (fun c => (prI I0 75 c).toInt64) hs (I 76 0)) i)), none, some (.int (nI i)), none, none, none] [] n (H5 d I J S L R) := by
      intro k
      induction k with
      | zero => intro i h1 h2; omega
      | succ k ih =>
        intro i hi hn
        refine aw_iload (pc2 := 22) hk dX6_lossOfPieces_20 rfl rfl ?_
        refine aw_aload_n (pc2 := 23) hk dX6_lossOfPieces_22 rfl rfl ?_
        refine aw_get (pc2 := 26) hk ckX6 1 dX6_lossOfPieces_23 rfl fl_X6_19 (by decide) (o_X6 rfl) rfl ?_
        refine aw_get (pc2 := 29) hk ckX5 0 dX6_lossOfPieces_26 rfl fl_X6_280 (by decide) (o_X5 rfl) rfl ?_
        refine aw_icN_ge (x := i) (y := D.1) (tgt := 119) (pc2 := 32) hk dX6_lossOfPieces_29 (by decide) rfl rfl hk0 (by omega) (by omega) (fun c29 => ?_) (fun c29 => ?_)
        · obtain rfl : i = D.1 := by omega
          refine aw_lload_n (pc2 := 120) hk dX6_lossOfPieces_119 rfl rfl ?_
          refine aw_lret hk dX6_lossOfPieces_120 (Nat.le_of_ble_eq_true rfl) (Nat.le_of_ble_eq_true rfl) hq
        · refine aw_iload (pc2 := 34) hk dX6_lossOfPieces_32 rfl rfl ?_
          refine aw_aload_n (pc2 := 35) hk dX6_lossOfPieces_34 rfl rfl ?_
          refine aw_get (pc2 := 38) hk ckX6 1 dX6_lossOfPieces_35 rfl fl_X6_19 (by decide) (o_X6 rfl) rfl ?_
          refine aw_get (pc2 := 41) hk ckX5 1 dX6_lossOfPieces_38 rfl fl_X6_259 (by decide) (o_X5 rfl) rfl ?_
          refine aw_icmp_eq (tgt := 113) (pc2 := 44) hk dX6_lossOfPieces_41 (by decide) rfl (fun c41 => absurd c41 (by rw [hmain]; exact nI_m1 (by omega))) (fun c41 => ?_)
          have hne : ¬ mD D hs = some i := by rw [hmm]; intro h9; cases h9
          refine aw_aload_n (pc2 := 45) hk dX6_lossOfPieces_44 rfl rfl ?_
          refine aw_get (pc2 := 48) hk ckX6 1 dX6_lossOfPieces_45 rfl fl_X6_19 (by decide) (o_X6 rfl) rfl ?_
          refine aw_iload (pc2 := 50) hk dX6_lossOfPieces_48 rfl rfl ?_
          refine aw_aload_n (pc2 := 51) hk dX6_lossOfPieces_50 rfl rfl ?_
          refine aw_get (pc2 := 54) hk ckX6 0 dX6_lossOfPieces_51 rfl fl_X6_12 (by decide) (o_X6 rfl) rfl ?_
          refine aw_aload_n (pc2 := 55) hk dX6_lossOfPieces_54 rfl rfl ?_
          refine aw_get (pc2 := 58) hk ckX6 5 dX6_lossOfPieces_55 rfl fl_X6_37 (by decide) (o_X6 rfl) rfl ?_
          refine aw_cV (rm2 := rmX5_worth) (pc2 := 61) hk veX5_worth dX6_lossOfPieces_58 rfl ml_X6_262 ⟨(Nat.le_of_ble_eq_true rfl), (Nat.le_of_ble_eq_true rfl)⟩ [_, _, _] rfl rfl (Nat.le_of_ble_eq_true rfl) (Nat.le_of_ble_eq_true rfl) (Nat.le_of_ble_eq_true rfl) (o_X5 rfl) (t_worth rfl (by omega) rfl hso ?_)
          rw [hF.wrt hd c29 (by decide)]
          refine aw_lstore (pc2 := 63) hk dX6_lossOfPieces_61 rfl (by decide) ?_
          show AW K Q _ _ 63 [_, _, _, _, _, _, _, _] _ _ _
          refine aw_iload_n (pc2 := 64) hk dX6_lossOfPieces_63 rfl rfl ?_
          refine aw_if_eq (tgt := 83) (pc2 := 67) hk dX6_lossOfPieces_64 (by decide) rfl (fun c64 => ?_) (fun c64 => absurd rfl c64)
          refine aw_iconst (v := 0) (pc2 := 84) hk dX6_lossOfPieces_83 rfl (by decide) ?_
          refine aw_top (bi (mW D hs && !D.2.2.2.2 i)) (by
            rw [show mW D hs = false by unfold mW; rw [hmm]]
            first
              | (rw [bi_ff c64]; rfl)
              | (rw [bi_tt c64]; first | (have h8 := bi_tt (b := bi (D.2.2.2.2 i) != 0) c76; rw [hbb2] at h8; rw [h8]; rfl) | (have h8 := bi_ff (b := bi (D.2.2.2.2 i) != 0) c76; rw [hbb2] at h8; rw [h8]; rfl))
              | rfl) ?_
          refine aw_istore (pc2 := 86) hk dX6_lossOfPieces_84 rfl (by decide) ?_
          show AW K Q _ _ 86 [_, _, _, _, _, _, _, _] _ _ _
          refine aw_lload_n (pc2 := 87) hk dX6_lossOfPieces_86 rfl rfl ?_
          refine aw_iload (pc2 := 89) hk dX6_lossOfPieces_87 rfl rfl ?_
          refine aw_if_eq (tgt := 97) (pc2 := 92) hk dX6_lossOfPieces_89 (by decide) rfl (fun c89 => ?_) (fun c89 => ?_)
          · have hway := bi_ff c89
            refine aw_lload (pc2 := 99) hk dX6_lossOfPieces_97 rfl rfl ?_
            refine aw_aload_n (pc2 := 100) hk dX6_lossOfPieces_99 rfl rfl ?_
            refine aw_get (pc2 := 103) hk ckX6 6 dX6_lossOfPieces_100 rfl fl_X6_41 (by decide) (o_X6 rfl) rfl ?_
            refine aw_iconst (v := 0) (pc2 := 104) hk dX6_lossOfPieces_103 rfl (by decide) ?_
            refine h_iald (pc2 := 105) hk dX6_lossOfPieces_104 rfl rfl (show (0 : Int32) = nI 0 from rfl) (by decide) (by decide) ?_
            refine aw_i2l (pc2 := 106) hk dX6_lossOfPieces_105 rfl ?_
            refine aw_lmul (pc2 := 107) hk dX6_lossOfPieces_106 rfl ?_
            refine aw_ldc2 (pc2 := 110) hk dX6_lossOfPieces_107 rfl kl_X6_266 ?_
            refine aw_ldiv (pc2 := 111) hk dX6_lossOfPieces_110 rfl (by decide) ?_
            refine aw_ladd (pc2 := 112) hk dX6_lossOfPieces_111 rfl ?_
            refine aw_topL (sL (lD D (fun c => (prI I0 75 c).toInt64) hs (I 76 0)) (i + 1)) (by
              show _ = _ + _
              first
                | rw [show (lD D (fun c => (prI I0 75 c).toInt64) hs (I 76 0)) i = wD D (fun c => (prI I0 75 c).toInt64) i by unfold lD; rw [if_neg hne, if_pos hway]]
                | rw [show (lD D (fun c => (prI I0 75 c).toInt64) hs (I 76 0)) i = wD D (fun c => (prI I0 75 c).toInt64) i * (I 76 0).toInt64 / 1000 by unfold lD; rw [if_neg hne, if_neg (by rw [hway]; decide)]]) ?_
            refine aw_lstore_n (pc2 := 113) hk dX6_lossOfPieces_112 rfl (by decide) ?_
            show AW K Q _ _ 113 [_, _, _, _, _, _, _, _] _ _ _
            refine aw_iinc1 (pc2 := 116) hk dX6_lossOfPieces_113 rfl rfl (by decide) ?_
            show AW K Q _ _ 116 [_, _, _, _, _, _, _, _] _ _ _
            refine aw_goto (tgt := 20) hk dX6_lossOfPieces_116 (by decide) ?_
            refine aw_fg 5 ?_
            refine aw_fg 7 ?_
            exact ih (i + 1) (by omega) (by omega)
          · have hway := bi_tt c89
            refine aw_lload (pc2 := 94) hk dX6_lossOfPieces_92 rfl rfl ?_
            refine aw_goto (tgt := 111) hk dX6_lossOfPieces_94 (by decide) ?_
            refine aw_ladd (pc2 := 112) hk dX6_lossOfPieces_111 rfl ?_
            refine aw_topL (sL (lD D (fun c => (prI I0 75 c).toInt64) hs (I 76 0)) (i + 1)) (by
              show _ = _ + _
              first
                | rw [show (lD D (fun c => (prI I0 75 c).toInt64) hs (I 76 0)) i = wD D (fun c => (prI I0 75 c).toInt64) i by unfold lD; rw [if_neg hne, if_pos hway]]
                | rw [show (lD D (fun c => (prI I0 75 c).toInt64) hs (I 76 0)) i = wD D (fun c => (prI I0 75 c).toInt64) i * (I 76 0).toInt64 / 1000 by unfold lD; rw [if_neg hne, if_neg (by rw [hway]; decide)]]) ?_
            refine aw_lstore_n (pc2 := 113) hk dX6_lossOfPieces_112 rfl (by decide) ?_
            show AW K Q _ _ 113 [_, _, _, _, _, _, _, _] _ _ _
            refine aw_iinc1 (pc2 := 116) hk dX6_lossOfPieces_113 rfl rfl (by decide) ?_
            show AW K Q _ _ 116 [_, _, _, _, _, _, _, _] _ _ _
            refine aw_goto (tgt := 20) hk dX6_lossOfPieces_116 (by decide) ?_
            refine aw_fg 5 ?_
            refine aw_fg 7 ?_
            exact ih (i + 1) (by omega) (by omega)
    refine aw_aload_n (pc2 := 1) hk dX6_lossOfPieces_0 rfl rfl ?_
    refine aw_get (pc2 := 4) hk ckX6 1 dX6_lossOfPieces_1 rfl fl_X6_19 (by decide) (o_X6 rfl) rfl ?_
    refine aw_aload_n (pc2 := 5) hk dX6_lossOfPieces_4 rfl rfl ?_
    refine aw_get (pc2 := 8) hk ckX6 1 dX6_lossOfPieces_5 rfl fl_X6_19 (by decide) (o_X6 rfl) rfl ?_
    refine aw_get (pc2 := 11) hk ckX5 1 dX6_lossOfPieces_8 rfl fl_X6_259 (by decide) (o_X5 rfl) rfl ?_
    rw [hmain]
    refine aw_cV (rm2 := rmX5_hasWay) (pc2 := 14) hk veX5_hasWay dX6_lossOfPieces_11 rfl ml_X6_277 ⟨(Nat.le_of_ble_eq_true rfl), (Nat.le_of_ble_eq_true rfl)⟩ [_] rfl rfl (Nat.le_of_ble_eq_true rfl) (Nat.le_of_ble_eq_true rfl) (Nat.le_of_ble_eq_true rfl) (o_X5 rfl) (t_hasWayN ?_)
    refine aw_istore_n (pc2 := 15) hk dX6_lossOfPieces_14 rfl (by decide) ?_
    show AW K Q _ _ 15 [_, _, _, _, _, _, _, _] _ _ _
    refine aw_lconst (v := 0) (pc2 := 16) hk dX6_lossOfPieces_15 rfl (by decide) ?_
    refine aw_lstore_n (pc2 := 17) hk dX6_lossOfPieces_16 rfl (by decide) ?_
    show AW K Q _ _ 17 [_, _, _, _, _, _, _, _] _ _ _
    refine aw_iconst (v := 0) (pc2 := 18) hk dX6_lossOfPieces_17 rfl (by decide) ?_
    refine aw_istore (pc2 := 20) hk dX6_lossOfPieces_18 rfl (by decide) ?_
    show AW K Q _ _ 20 [_, _, _, _, _, _, _, _] _ _ _
    exact loop (D.1 + 1) 0 (by omega) (by omega)
  | some mm =>
    have hmain : S 7 1 = nI mm := by rw [hS71, hmm]; rfl
    have hm1 : mm < D.1 := mD_lt hd hmm
    have hbb : bi (bi (D.2.2.2.2 mm) != 0) = bi (D.2.2.2.2 mm) := by cases D.2.2.2.2 mm <;> rfl
    have loop : ∀ (k i : Nat), i ≤ D.1 → D.1 + 1 ≤ i + k → AW K Q 0 0 20 [some (.ref 0), some (.int (bi (D.2.2.2.2 mm))), some (.long (sL (lD D (fun c => (prI I0 75 c).toInt64) hs (I 76 0)) i)), none, some (.int (nI i)), none, none, none] [] n (H5 d I J S L R) := by
      intro k
      induction k with
      | zero => intro i h1 h2; omega
      | succ k ih =>
        intro i hi hn
        have hbb2 : (bi (D.2.2.2.2 i) != 0) = D.2.2.2.2 i := by cases D.2.2.2.2 i <;> rfl
        refine aw_iload (pc2 := 22) hk dX6_lossOfPieces_20 rfl rfl ?_
        refine aw_aload_n (pc2 := 23) hk dX6_lossOfPieces_22 rfl rfl ?_
        refine aw_get (pc2 := 26) hk ckX6 1 dX6_lossOfPieces_23 rfl fl_X6_19 (by decide) (o_X6 rfl) rfl ?_
        refine aw_get (pc2 := 29) hk ckX5 0 dX6_lossOfPieces_26 rfl fl_X6_280 (by decide) (o_X5 rfl) rfl ?_
        refine aw_icN_ge (x := i) (y := D.1) (tgt := 119) (pc2 := 32) hk dX6_lossOfPieces_29 (by decide) rfl rfl hk0 (by omega) (by omega) (fun c29 => ?_) (fun c29 => ?_)
        · obtain rfl : i = D.1 := by omega
          refine aw_lload_n (pc2 := 120) hk dX6_lossOfPieces_119 rfl rfl ?_
          refine aw_lret hk dX6_lossOfPieces_120 (Nat.le_of_ble_eq_true rfl) (Nat.le_of_ble_eq_true rfl) hq
        · refine aw_iload (pc2 := 34) hk dX6_lossOfPieces_32 rfl rfl ?_
          refine aw_aload_n (pc2 := 35) hk dX6_lossOfPieces_34 rfl rfl ?_
          refine aw_get (pc2 := 38) hk ckX6 1 dX6_lossOfPieces_35 rfl fl_X6_19 (by decide) (o_X6 rfl) rfl ?_
          refine aw_get (pc2 := 41) hk ckX5 1 dX6_lossOfPieces_38 rfl fl_X6_259 (by decide) (o_X5 rfl) rfl ?_
          refine aw_icN_eq (x := i) (y := mm) (tgt := 113) (pc2 := 44) hk dX6_lossOfPieces_41 (by decide) rfl rfl hmain (by omega) (by omega) (fun c41 => ?_) (fun c41 => ?_)
          · first
              | (have e9 : (lD D (fun c => (prI I0 75 c).toInt64) hs (I 76 0)) i = 0 := if_pos (by rw [hmm, c41])
                 have e8 : sL (lD D (fun c => (prI I0 75 c).toInt64) hs (I 76 0)) i = sL (lD D (fun c => (prI I0 75 c).toInt64) hs (I 76 0)) (i + 1) := by (show _ = _ + _); rw [e9, Int64.add_zero]
                 rw [e8])
              | skip
            refine aw_iinc1 (pc2 := 116) hk dX6_lossOfPieces_113 rfl rfl (by decide) ?_
            show AW K Q _ _ 116 [_, _, _, _, _, _, _, _] _ _ _
            refine aw_goto (tgt := 20) hk dX6_lossOfPieces_116 (by decide) ?_
            refine aw_fg 5 ?_
            refine aw_fg 7 ?_
            exact ih (i + 1) (by omega) (by omega)
          · have hne : ¬ mD D hs = some i := by rw [hmm]; intro h9; cases h9; exact c41 rfl
            refine aw_aload_n (pc2 := 45) hk dX6_lossOfPieces_44 rfl rfl ?_
            refine aw_get (pc2 := 48) hk ckX6 1 dX6_lossOfPieces_45 rfl fl_X6_19 (by decide) (o_X6 rfl) rfl ?_
            refine aw_iload (pc2 := 50) hk dX6_lossOfPieces_48 rfl rfl ?_
            refine aw_aload_n (pc2 := 51) hk dX6_lossOfPieces_50 rfl rfl ?_
            refine aw_get (pc2 := 54) hk ckX6 0 dX6_lossOfPieces_51 rfl fl_X6_12 (by decide) (o_X6 rfl) rfl ?_
            refine aw_aload_n (pc2 := 55) hk dX6_lossOfPieces_54 rfl rfl ?_
            refine aw_get (pc2 := 58) hk ckX6 5 dX6_lossOfPieces_55 rfl fl_X6_37 (by decide) (o_X6 rfl) rfl ?_
            refine aw_cV (rm2 := rmX5_worth) (pc2 := 61) hk veX5_worth dX6_lossOfPieces_58 rfl ml_X6_262 ⟨(Nat.le_of_ble_eq_true rfl), (Nat.le_of_ble_eq_true rfl)⟩ [_, _, _] rfl rfl (Nat.le_of_ble_eq_true rfl) (Nat.le_of_ble_eq_true rfl) (Nat.le_of_ble_eq_true rfl) (o_X5 rfl) (t_worth rfl (by omega) rfl hso ?_)
            rw [hF.wrt hd c29 (by decide)]
            refine aw_lstore (pc2 := 63) hk dX6_lossOfPieces_61 rfl (by decide) ?_
            show AW K Q _ _ 63 [_, _, _, _, _, _, _, _] _ _ _
            refine aw_iload_n (pc2 := 64) hk dX6_lossOfPieces_63 rfl rfl ?_
            refine aw_if_eq (tgt := 83) (pc2 := 67) hk dX6_lossOfPieces_64 (by decide) rfl (fun c64 => ?_) (fun c64 => ?_)
            · refine aw_iconst (v := 0) (pc2 := 84) hk dX6_lossOfPieces_83 rfl (by decide) ?_
              refine aw_top (bi (mW D hs && !D.2.2.2.2 i)) (by
                rw [show mW D hs = D.2.2.2.2 mm by unfold mW; rw [hmm]]
                first
                  | (rw [bi_ff c64]; rfl)
                  | (rw [bi_tt c64]; first | (have h8 := bi_tt (b := bi (D.2.2.2.2 i) != 0) c76; rw [hbb2] at h8; rw [h8]; rfl) | (have h8 := bi_ff (b := bi (D.2.2.2.2 i) != 0) c76; rw [hbb2] at h8; rw [h8]; rfl))
                  | rfl) ?_
              refine aw_istore (pc2 := 86) hk dX6_lossOfPieces_84 rfl (by decide) ?_
              show AW K Q _ _ 86 [_, _, _, _, _, _, _, _] _ _ _
              refine aw_lload_n (pc2 := 87) hk dX6_lossOfPieces_86 rfl rfl ?_
              refine aw_iload (pc2 := 89) hk dX6_lossOfPieces_87 rfl rfl ?_
              refine aw_if_eq (tgt := 97) (pc2 := 92) hk dX6_lossOfPieces_89 (by decide) rfl (fun c89 => ?_) (fun c89 => ?_)
              · have hway := bi_ff c89
                refine aw_lload (pc2 := 99) hk dX6_lossOfPieces_97 rfl rfl ?_
                refine aw_aload_n (pc2 := 100) hk dX6_lossOfPieces_99 rfl rfl ?_
                refine aw_get (pc2 := 103) hk ckX6 6 dX6_lossOfPieces_100 rfl fl_X6_41 (by decide) (o_X6 rfl) rfl ?_
                refine aw_iconst (v := 0) (pc2 := 104) hk dX6_lossOfPieces_103 rfl (by decide) ?_
                refine h_iald (pc2 := 105) hk dX6_lossOfPieces_104 rfl rfl (show (0 : Int32) = nI 0 from rfl) (by decide) (by decide) ?_
                refine aw_i2l (pc2 := 106) hk dX6_lossOfPieces_105 rfl ?_
                refine aw_lmul (pc2 := 107) hk dX6_lossOfPieces_106 rfl ?_
                refine aw_ldc2 (pc2 := 110) hk dX6_lossOfPieces_107 rfl kl_X6_266 ?_
                refine aw_ldiv (pc2 := 111) hk dX6_lossOfPieces_110 rfl (by decide) ?_
                refine aw_ladd (pc2 := 112) hk dX6_lossOfPieces_111 rfl ?_
                refine aw_topL (sL (lD D (fun c => (prI I0 75 c).toInt64) hs (I 76 0)) (i + 1)) (by
                  show _ = _ + _
                  first
                    | rw [show (lD D (fun c => (prI I0 75 c).toInt64) hs (I 76 0)) i = wD D (fun c => (prI I0 75 c).toInt64) i by unfold lD; rw [if_neg hne, if_pos hway]]
                    | rw [show (lD D (fun c => (prI I0 75 c).toInt64) hs (I 76 0)) i = wD D (fun c => (prI I0 75 c).toInt64) i * (I 76 0).toInt64 / 1000 by unfold lD; rw [if_neg hne, if_neg (by rw [hway]; decide)]]) ?_
                refine aw_lstore_n (pc2 := 113) hk dX6_lossOfPieces_112 rfl (by decide) ?_
                show AW K Q _ _ 113 [_, _, _, _, _, _, _, _] _ _ _
                first
                  | (have e9 : (lD D (fun c => (prI I0 75 c).toInt64) hs (I 76 0)) i = 0 := if_pos (by rw [hmm, c41])
                     have e8 : sL (lD D (fun c => (prI I0 75 c).toInt64) hs (I 76 0)) i = sL (lD D (fun c => (prI I0 75 c).toInt64) hs (I 76 0)) (i + 1) := by (show _ = _ + _); rw [e9, Int64.add_zero]
                     rw [e8])
                  | skip
                refine aw_iinc1 (pc2 := 116) hk dX6_lossOfPieces_113 rfl rfl (by decide) ?_
                show AW K Q _ _ 116 [_, _, _, _, _, _, _, _] _ _ _
                refine aw_goto (tgt := 20) hk dX6_lossOfPieces_116 (by decide) ?_
                refine aw_fg 5 ?_
                refine aw_fg 7 ?_
                exact ih (i + 1) (by omega) (by omega)
              · have hway := bi_tt c89
                refine aw_lload (pc2 := 94) hk dX6_lossOfPieces_92 rfl rfl ?_
                refine aw_goto (tgt := 111) hk dX6_lossOfPieces_94 (by decide) ?_
                refine aw_ladd (pc2 := 112) hk dX6_lossOfPieces_111 rfl ?_
                refine aw_topL (sL (lD D (fun c => (prI I0 75 c).toInt64) hs (I 76 0)) (i + 1)) (by
                  show _ = _ + _
                  first
                    | rw [show (lD D (fun c => (prI I0 75 c).toInt64) hs (I 76 0)) i = wD D (fun c => (prI I0 75 c).toInt64) i by unfold lD; rw [if_neg hne, if_pos hway]]
                    | rw [show (lD D (fun c => (prI I0 75 c).toInt64) hs (I 76 0)) i = wD D (fun c => (prI I0 75 c).toInt64) i * (I 76 0).toInt64 / 1000 by unfold lD; rw [if_neg hne, if_neg (by rw [hway]; decide)]]) ?_
                refine aw_lstore_n (pc2 := 113) hk dX6_lossOfPieces_112 rfl (by decide) ?_
                show AW K Q _ _ 113 [_, _, _, _, _, _, _, _] _ _ _
                first
                  | (have e9 : (lD D (fun c => (prI I0 75 c).toInt64) hs (I 76 0)) i = 0 := if_pos (by rw [hmm, c41])
                     have e8 : sL (lD D (fun c => (prI I0 75 c).toInt64) hs (I 76 0)) i = sL (lD D (fun c => (prI I0 75 c).toInt64) hs (I 76 0)) (i + 1) := by (show _ = _ + _); rw [e9, Int64.add_zero]
                     rw [e8])
                  | skip
                refine aw_iinc1 (pc2 := 116) hk dX6_lossOfPieces_113 rfl rfl (by decide) ?_
                show AW K Q _ _ 116 [_, _, _, _, _, _, _, _] _ _ _
                refine aw_goto (tgt := 20) hk dX6_lossOfPieces_116 (by decide) ?_
                refine aw_fg 5 ?_
                refine aw_fg 7 ?_
                exact ih (i + 1) (by omega) (by omega)
            · refine aw_aload_n (pc2 := 68) hk dX6_lossOfPieces_67 rfl rfl ?_
              refine aw_get (pc2 := 71) hk ckX6 1 dX6_lossOfPieces_68 rfl fl_X6_19 (by decide) (o_X6 rfl) rfl ?_
              refine aw_iload (pc2 := 73) hk dX6_lossOfPieces_71 rfl rfl ?_
              refine aw_cV (rm2 := rmX5_hasWay) (pc2 := 76) hk veX5_hasWay dX6_lossOfPieces_73 rfl ml_X6_277 ⟨(Nat.le_of_ble_eq_true rfl), (Nat.le_of_ble_eq_true rfl)⟩ [_] rfl rfl (Nat.le_of_ble_eq_true rfl) (Nat.le_of_ble_eq_true rfl) (Nat.le_of_ble_eq_true rfl) (o_X5 rfl) (t_hasWay hk0 hd.1 rfl c29 ?_)
              rw [(hF.2.2 i c29).2.2]
              refine aw_if_ne (tgt := 83) (pc2 := 79) hk dX6_lossOfPieces_76 (by decide) rfl (fun c76 => ?_) (fun c76 => ?_)
              · refine aw_iconst (v := 0) (pc2 := 84) hk dX6_lossOfPieces_83 rfl (by decide) ?_
                refine aw_top (bi (mW D hs && !D.2.2.2.2 i)) (by
                  rw [show mW D hs = D.2.2.2.2 mm by unfold mW; rw [hmm]]
                  first
                    | (rw [bi_ff c64]; rfl)
                    | (rw [bi_tt c64]; first | (have h8 := bi_tt (b := bi (D.2.2.2.2 i) != 0) c76; rw [hbb2] at h8; rw [h8]; rfl) | (have h8 := bi_ff (b := bi (D.2.2.2.2 i) != 0) c76; rw [hbb2] at h8; rw [h8]; rfl))
                    | rfl) ?_
                refine aw_istore (pc2 := 86) hk dX6_lossOfPieces_84 rfl (by decide) ?_
                show AW K Q _ _ 86 [_, _, _, _, _, _, _, _] _ _ _
                refine aw_lload_n (pc2 := 87) hk dX6_lossOfPieces_86 rfl rfl ?_
                refine aw_iload (pc2 := 89) hk dX6_lossOfPieces_87 rfl rfl ?_
                refine aw_if_eq (tgt := 97) (pc2 := 92) hk dX6_lossOfPieces_89 (by decide) rfl (fun c89 => ?_) (fun c89 => ?_)
                · have hway := bi_ff c89
                  refine aw_lload (pc2 := 99) hk dX6_lossOfPieces_97 rfl rfl ?_
                  refine aw_aload_n (pc2 := 100) hk dX6_lossOfPieces_99 rfl rfl ?_
                  refine aw_get (pc2 := 103) hk ckX6 6 dX6_lossOfPieces_100 rfl fl_X6_41 (by decide) (o_X6 rfl) rfl ?_
                  refine aw_iconst (v := 0) (pc2 := 104) hk dX6_lossOfPieces_103 rfl (by decide) ?_
                  refine h_iald (pc2 := 105) hk dX6_lossOfPieces_104 rfl rfl (show (0 : Int32) = nI 0 from rfl) (by decide) (by decide) ?_
                  refine aw_i2l (pc2 := 106) hk dX6_lossOfPieces_105 rfl ?_
                  refine aw_lmul (pc2 := 107) hk dX6_lossOfPieces_106 rfl ?_
                  refine aw_ldc2 (pc2 := 110) hk dX6_lossOfPieces_107 rfl kl_X6_266 ?_
                  refine aw_ldiv (pc2 := 111) hk dX6_lossOfPieces_110 rfl (by decide) ?_
                  refine aw_ladd (pc2 := 112) hk dX6_lossOfPieces_111 rfl ?_
                  refine aw_topL (sL (lD D (fun c => (prI I0 75 c).toInt64) hs (I 76 0)) (i + 1)) (by
                    show _ = _ + _
                    first
                      | rw [show (lD D (fun c => (prI I0 75 c).toInt64) hs (I 76 0)) i = wD D (fun c => (prI I0 75 c).toInt64) i by unfold lD; rw [if_neg hne, if_pos hway]]
                      | rw [show (lD D (fun c => (prI I0 75 c).toInt64) hs (I 76 0)) i = wD D (fun c => (prI I0 75 c).toInt64) i * (I 76 0).toInt64 / 1000 by unfold lD; rw [if_neg hne, if_neg (by rw [hway]; decide)]]) ?_
                  refine aw_lstore_n (pc2 := 113) hk dX6_lossOfPieces_112 rfl (by decide) ?_
                  show AW K Q _ _ 113 [_, _, _, _, _, _, _, _] _ _ _
                  first
                    | (have e9 : (lD D (fun c => (prI I0 75 c).toInt64) hs (I 76 0)) i = 0 := if_pos (by rw [hmm, c41])
                       have e8 : sL (lD D (fun c => (prI I0 75 c).toInt64) hs (I 76 0)) i = sL (lD D (fun c => (prI I0 75 c).toInt64) hs (I 76 0)) (i + 1) := by (show _ = _ + _); rw [e9, Int64.add_zero]
                       rw [e8])
                    | skip
                  refine aw_iinc1 (pc2 := 116) hk dX6_lossOfPieces_113 rfl rfl (by decide) ?_
                  show AW K Q _ _ 116 [_, _, _, _, _, _, _, _] _ _ _
                  refine aw_goto (tgt := 20) hk dX6_lossOfPieces_116 (by decide) ?_
                  refine aw_fg 5 ?_
                  refine aw_fg 7 ?_
                  exact ih (i + 1) (by omega) (by omega)
                · have hway := bi_tt c89
                  refine aw_lload (pc2 := 94) hk dX6_lossOfPieces_92 rfl rfl ?_
                  refine aw_goto (tgt := 111) hk dX6_lossOfPieces_94 (by decide) ?_
                  refine aw_ladd (pc2 := 112) hk dX6_lossOfPieces_111 rfl ?_
                  refine aw_topL (sL (lD D (fun c => (prI I0 75 c).toInt64) hs (I 76 0)) (i + 1)) (by
                    show _ = _ + _
                    first
                      | rw [show (lD D (fun c => (prI I0 75 c).toInt64) hs (I 76 0)) i = wD D (fun c => (prI I0 75 c).toInt64) i by unfold lD; rw [if_neg hne, if_pos hway]]
                      | rw [show (lD D (fun c => (prI I0 75 c).toInt64) hs (I 76 0)) i = wD D (fun c => (prI I0 75 c).toInt64) i * (I 76 0).toInt64 / 1000 by unfold lD; rw [if_neg hne, if_neg (by rw [hway]; decide)]]) ?_
                  refine aw_lstore_n (pc2 := 113) hk dX6_lossOfPieces_112 rfl (by decide) ?_
                  show AW K Q _ _ 113 [_, _, _, _, _, _, _, _] _ _ _
                  first
                    | (have e9 : (lD D (fun c => (prI I0 75 c).toInt64) hs (I 76 0)) i = 0 := if_pos (by rw [hmm, c41])
                       have e8 : sL (lD D (fun c => (prI I0 75 c).toInt64) hs (I 76 0)) i = sL (lD D (fun c => (prI I0 75 c).toInt64) hs (I 76 0)) (i + 1) := by (show _ = _ + _); rw [e9, Int64.add_zero]
                       rw [e8])
                    | skip
                  refine aw_iinc1 (pc2 := 116) hk dX6_lossOfPieces_113 rfl rfl (by decide) ?_
                  show AW K Q _ _ 116 [_, _, _, _, _, _, _, _] _ _ _
                  refine aw_goto (tgt := 20) hk dX6_lossOfPieces_116 (by decide) ?_
                  refine aw_fg 5 ?_
                  refine aw_fg 7 ?_
                  exact ih (i + 1) (by omega) (by omega)
              · refine aw_iconst (v := 1) (pc2 := 80) hk dX6_lossOfPieces_79 rfl (by decide) ?_
                refine aw_goto (tgt := 84) hk dX6_lossOfPieces_80 (by decide) ?_
                refine aw_top (bi (mW D hs && !D.2.2.2.2 i)) (by
                  rw [show mW D hs = D.2.2.2.2 mm by unfold mW; rw [hmm]]
                  first
                    | (rw [bi_ff c64]; rfl)
                    | (rw [bi_tt c64]; first | (have h8 := bi_tt (b := bi (D.2.2.2.2 i) != 0) c76; rw [hbb2] at h8; rw [h8]; rfl) | (have h8 := bi_ff (b := bi (D.2.2.2.2 i) != 0) c76; rw [hbb2] at h8; rw [h8]; rfl))
                    | rfl) ?_
                refine aw_istore (pc2 := 86) hk dX6_lossOfPieces_84 rfl (by decide) ?_
                show AW K Q _ _ 86 [_, _, _, _, _, _, _, _] _ _ _
                refine aw_lload_n (pc2 := 87) hk dX6_lossOfPieces_86 rfl rfl ?_
                refine aw_iload (pc2 := 89) hk dX6_lossOfPieces_87 rfl rfl ?_
                refine aw_if_eq (tgt := 97) (pc2 := 92) hk dX6_lossOfPieces_89 (by decide) rfl (fun c89 => ?_) (fun c89 => ?_)
                · have hway := bi_ff c89
                  refine aw_lload (pc2 := 99) hk dX6_lossOfPieces_97 rfl rfl ?_
                  refine aw_aload_n (pc2 := 100) hk dX6_lossOfPieces_99 rfl rfl ?_
                  refine aw_get (pc2 := 103) hk ckX6 6 dX6_lossOfPieces_100 rfl fl_X6_41 (by decide) (o_X6 rfl) rfl ?_
                  refine aw_iconst (v := 0) (pc2 := 104) hk dX6_lossOfPieces_103 rfl (by decide) ?_
                  refine h_iald (pc2 := 105) hk dX6_lossOfPieces_104 rfl rfl (show (0 : Int32) = nI 0 from rfl) (by decide) (by decide) ?_
                  refine aw_i2l (pc2 := 106) hk dX6_lossOfPieces_105 rfl ?_
                  refine aw_lmul (pc2 := 107) hk dX6_lossOfPieces_106 rfl ?_
                  refine aw_ldc2 (pc2 := 110) hk dX6_lossOfPieces_107 rfl kl_X6_266 ?_
                  refine aw_ldiv (pc2 := 111) hk dX6_lossOfPieces_110 rfl (by decide) ?_
                  refine aw_ladd (pc2 := 112) hk dX6_lossOfPieces_111 rfl ?_
                  refine aw_topL (sL (lD D (fun c => (prI I0 75 c).toInt64) hs (I 76 0)) (i + 1)) (by
                    show _ = _ + _
                    first
                      | rw [show (lD D (fun c => (prI I0 75 c).toInt64) hs (I 76 0)) i = wD D (fun c => (prI I0 75 c).toInt64) i by unfold lD; rw [if_neg hne, if_pos hway]]
                      | rw [show (lD D (fun c => (prI I0 75 c).toInt64) hs (I 76 0)) i = wD D (fun c => (prI I0 75 c).toInt64) i * (I 76 0).toInt64 / 1000 by unfold lD; rw [if_neg hne, if_neg (by rw [hway]; decide)]]) ?_
                  refine aw_lstore_n (pc2 := 113) hk dX6_lossOfPieces_112 rfl (by decide) ?_
                  show AW K Q _ _ 113 [_, _, _, _, _, _, _, _] _ _ _
                  first
                    | (have e9 : (lD D (fun c => (prI I0 75 c).toInt64) hs (I 76 0)) i = 0 := if_pos (by rw [hmm, c41])
                       have e8 : sL (lD D (fun c => (prI I0 75 c).toInt64) hs (I 76 0)) i = sL (lD D (fun c => (prI I0 75 c).toInt64) hs (I 76 0)) (i + 1) := by (show _ = _ + _); rw [e9, Int64.add_zero]
                       rw [e8])
                    | skip
                  refine aw_iinc1 (pc2 := 116) hk dX6_lossOfPieces_113 rfl rfl (by decide) ?_
                  show AW K Q _ _ 116 [_, _, _, _, _, _, _, _] _ _ _
                  refine aw_goto (tgt := 20) hk dX6_lossOfPieces_116 (by decide) ?_
                  refine aw_fg 5 ?_
                  refine aw_fg 7 ?_
                  exact ih (i + 1) (by omega) (by omega)
                · have hway := bi_tt c89
                  refine aw_lload (pc2 := 94) hk dX6_lossOfPieces_92 rfl rfl ?_
                  refine aw_goto (tgt := 111) hk dX6_lossOfPieces_94 (by decide) ?_
                  refine aw_ladd (pc2 := 112) hk dX6_lossOfPieces_111 rfl ?_
                  refine aw_topL (sL (lD D (fun c => (prI I0 75 c).toInt64) hs (I 76 0)) (i + 1)) (by
                    show _ = _ + _
                    first
                      | rw [show (lD D (fun c => (prI I0 75 c).toInt64) hs (I 76 0)) i = wD D (fun c => (prI I0 75 c).toInt64) i by unfold lD; rw [if_neg hne, if_pos hway]]
                      | rw [show (lD D (fun c => (prI I0 75 c).toInt64) hs (I 76 0)) i = wD D (fun c => (prI I0 75 c).toInt64) i * (I 76 0).toInt64 / 1000 by unfold lD; rw [if_neg hne, if_neg (by rw [hway]; decide)]]) ?_
                  refine aw_lstore_n (pc2 := 113) hk dX6_lossOfPieces_112 rfl (by decide) ?_
                  show AW K Q _ _ 113 [_, _, _, _, _, _, _, _] _ _ _
                  first
                    | (have e9 : (lD D (fun c => (prI I0 75 c).toInt64) hs (I 76 0)) i = 0 := if_pos (by rw [hmm, c41])
                       have e8 : sL (lD D (fun c => (prI I0 75 c).toInt64) hs (I 76 0)) i = sL (lD D (fun c => (prI I0 75 c).toInt64) hs (I 76 0)) (i + 1) := by (show _ = _ + _); rw [e9, Int64.add_zero]
                       rw [e8])
                    | skip
                  refine aw_iinc1 (pc2 := 116) hk dX6_lossOfPieces_113 rfl rfl (by decide) ?_
                  show AW K Q _ _ 116 [_, _, _, _, _, _, _, _] _ _ _
                  refine aw_goto (tgt := 20) hk dX6_lossOfPieces_116 (by decide) ?_
                  refine aw_fg 5 ?_
                  refine aw_fg 7 ?_
                  exact ih (i + 1) (by omega) (by omega)
    refine aw_aload_n (pc2 := 1) hk dX6_lossOfPieces_0 rfl rfl ?_
    refine aw_get (pc2 := 4) hk ckX6 1 dX6_lossOfPieces_1 rfl fl_X6_19 (by decide) (o_X6 rfl) rfl ?_
    refine aw_aload_n (pc2 := 5) hk dX6_lossOfPieces_4 rfl rfl ?_
    refine aw_get (pc2 := 8) hk ckX6 1 dX6_lossOfPieces_5 rfl fl_X6_19 (by decide) (o_X6 rfl) rfl ?_
    refine aw_get (pc2 := 11) hk ckX5 1 dX6_lossOfPieces_8 rfl fl_X6_259 (by decide) (o_X5 rfl) rfl ?_
    refine aw_cV (rm2 := rmX5_hasWay) (pc2 := 14) hk veX5_hasWay dX6_lossOfPieces_11 rfl ml_X6_277 ⟨(Nat.le_of_ble_eq_true rfl), (Nat.le_of_ble_eq_true rfl)⟩ [_] rfl rfl (Nat.le_of_ble_eq_true rfl) (Nat.le_of_ble_eq_true rfl) (Nat.le_of_ble_eq_true rfl) (o_X5 rfl) (t_hasWay hk0 hd.1 hmain hm1 ?_)
    rw [(hF.2.2 mm hm1).2.2, hbb]
    refine aw_istore_n (pc2 := 15) hk dX6_lossOfPieces_14 rfl (by decide) ?_
    show AW K Q _ _ 15 [_, _, _, _, _, _, _, _] _ _ _
    refine aw_lconst (v := 0) (pc2 := 16) hk dX6_lossOfPieces_15 rfl (by decide) ?_
    refine aw_lstore_n (pc2 := 17) hk dX6_lossOfPieces_16 rfl (by decide) ?_
    show AW K Q _ _ 17 [_, _, _, _, _, _, _, _] _ _ _
    refine aw_iconst (v := 0) (pc2 := 18) hk dX6_lossOfPieces_17 rfl (by decide) ?_
    refine aw_istore (pc2 := 20) hk dX6_lossOfPieces_18 rfl (by decide) ?_
    show AW K Q _ _ 20 [_, _, _, _, _, _, _, _] _ _ _
    exact loop (D.1 + 1) 0 (by omega) (by omega)
