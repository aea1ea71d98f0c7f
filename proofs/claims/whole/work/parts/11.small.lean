set_option maxHeartbeats 800000 in
set_option maxRecDepth 100000 in
theorem t_caseBegin {n : Nat} {d : D2} {I : M2} {J : J2} {S : M2} {L : J2} {R : R2} {Q : QT} {a z : Nat} (ha : kd d a = (10, z)) (ha1 : kd d (a + 1) = (3, 4)) {f c : Int32} (hq : Q none n (H5 d I (rowU J (a + 1) 4 (fun _ => 0)) (u2 (u2 (u2 (u2 (u2 (u2 S a 0 f) a 1 c) a 2 0) a 3 0) a 4 0) a 5 0) (u2 (u2 (u2 (u2 (u2 (u2 (u2 (u2 (u2 L a 6 0) a 7 0) a 8 0) a 9 0) a 10 0) a 11 0) a 12 0) a 13 0) a 14 0) R)) : Calls yX0_begin cX0_begin 4 none rmX0_begin [.ref a, .int f, .int c] n (H5 d I J S L R) Q := by
  refine Calls.of (by decide) (Nat.le_of_ble_eq_true rfl) ?_
  intro K hk
  show AW K Q 0 0 0 [some (.ref a), some (.int f), some (.int c), none] [] n (H5 d I J S L R)
  have loop : ∀ (k i : Nat), i ≤ 4 → 4 + 1 ≤ i + k → AW K Q 0 0 77 [some (.ref a), some (.int f), some (.int c), some (.int (nI i))] [] n (H5 d I (rowU J (a + 1) i (fun _ => 0)) (u2 (u2 (u2 (u2 (u2 (u2 S a 0 f) a 1 c) a 2 0) a 3 0) a 4 0) a 5 0) (u2 (u2 (u2 (u2 (u2 (u2 (u2 (u2 (u2 L a 6 0) a 7 0) a 8 0) a 9 0) a 10 0) a 11 0) a 12 0) a 13 0) a 14 0) R) := by
    intro k
    induction k with
    | zero => intro i  hi hn; omega
    | succ k ih =>
      intro i  hi hn
      refine aw_iload_n (pc2 := 78) hk dX0_begin_77 rfl rfl ?_
      refine aw_iconst (v := 4) (pc2 := 79) hk dX0_begin_78 rfl (by decide) ?_
      refine aw_icN_ge (y := 4) (tgt := 95) (pc2 := 82) hk dX0_begin_79 (by decide) rfl rfl rfl (by omega) (by omega) (fun c79 => ?_) (fun c79 => ?_)
      · obtain rfl : i = 4 := by omega
        refine aw_vret hk dX0_begin_95 (Nat.le_of_ble_eq_true rfl) (Nat.le_of_ble_eq_true rfl) hq
      · refine aw_aload_n (pc2 := 83) hk dX0_begin_82 rfl rfl ?_
        refine aw_get (pc2 := 86) hk ckX0 15 dX0_begin_83 rfl fl_X0_9 (by decide) (o_X0 ha) rfl ?_
        refine aw_iload_n (pc2 := 87) hk dX0_begin_86 rfl rfl ?_
        refine aw_lconst (v := 0) (pc2 := 88) hk dX0_begin_87 rfl (by decide) ?_
        refine h_last (pc2 := 89) hk dX0_begin_88 rfl ha1 rfl (by omega) (by decide) ?_
        refine aw_Jm (rowU J (a + 1) (i + 1) (fun _ => 0)) (rowU_st J (a + 1) i _ rfl) ?_
        refine aw_iinc1 (pc2 := 92) hk dX0_begin_89 rfl rfl (by decide) ?_
        show AW K Q _ _ 92 [_, _, _, _] _ _ _
        refine aw_goto (tgt := 77) hk dX0_begin_92 (by decide) ?_
        exact ih (i + 1) (by omega) (by omega)
  refine aw_aload_n (pc2 := 1) hk dX0_begin_0 rfl rfl ?_
  refine aw_iload_n (pc2 := 2) hk dX0_begin_1 rfl rfl ?_
  refine aw_put (pc2 := 5) hk ckX0 0 dX0_begin_2 rfl fl_X0_15 (by decide) rfl (o_X0 ha) (fun _ => rfl) (fun _ => rfl) (Nat.le_of_ble_eq_true rfl) ?_
  rw [p_X0_0 ha]
  refine aw_aload_n (pc2 := 6) hk dX0_begin_5 rfl rfl ?_
  refine aw_iload_n (pc2 := 7) hk dX0_begin_6 rfl rfl ?_
  refine aw_put (pc2 := 10) hk ckX0 1 dX0_begin_7 rfl fl_X0_19 (by decide) rfl (o_X0 ha) (fun _ => rfl) (fun _ => rfl) (Nat.le_of_ble_eq_true rfl) ?_
  rw [p_X0_1 ha]
  refine aw_aload_n (pc2 := 11) hk dX0_begin_10 rfl rfl ?_
  refine aw_iconst (v := 0) (pc2 := 12) hk dX0_begin_11 rfl (by decide) ?_
  refine aw_put (pc2 := 15) hk ckX0 2 dX0_begin_12 rfl fl_X0_22 (by decide) rfl (o_X0 ha) (fun _ => rfl) (fun _ => rfl) (Nat.le_of_ble_eq_true rfl) ?_
  rw [p_X0_2 ha]
  refine aw_aload_n (pc2 := 16) hk dX0_begin_15 rfl rfl ?_
  refine aw_iconst (v := 0) (pc2 := 17) hk dX0_begin_16 rfl (by decide) ?_
  refine aw_put (pc2 := 20) hk ckX0 3 dX0_begin_17 rfl fl_X0_25 (by decide) rfl (o_X0 ha) (fun _ => rfl) (fun _ => rfl) (Nat.le_of_ble_eq_true rfl) ?_
  rw [p_X0_3 ha]
  refine aw_aload_n (pc2 := 21) hk dX0_begin_20 rfl rfl ?_
  refine aw_iconst (v := 0) (pc2 := 22) hk dX0_begin_21 rfl (by decide) ?_
  refine aw_put (pc2 := 25) hk ckX0 4 dX0_begin_22 rfl fl_X0_28 (by decide) rfl (o_X0 ha) (fun _ => rfl) (fun _ => rfl) (Nat.le_of_ble_eq_true rfl) ?_
  rw [p_X0_4 ha]
  refine aw_aload_n (pc2 := 26) hk dX0_begin_25 rfl rfl ?_
  refine aw_iconst (v := 0) (pc2 := 27) hk dX0_begin_26 rfl (by decide) ?_
  refine aw_put (pc2 := 30) hk ckX0 5 dX0_begin_27 rfl fl_X0_31 (by decide) rfl (o_X0 ha) (fun _ => rfl) (fun _ => rfl) (Nat.le_of_ble_eq_true rfl) ?_
  rw [p_X0_5 ha]
  refine aw_aload_n (pc2 := 31) hk dX0_begin_30 rfl rfl ?_
  refine aw_lconst (v := 0) (pc2 := 32) hk dX0_begin_31 rfl (by decide) ?_
  refine aw_put (pc2 := 35) hk ckX0 6 dX0_begin_32 rfl fl_X0_34 (by decide) rfl (o_X0 ha) (fun _ => rfl) (fun _ => rfl) (Nat.le_of_ble_eq_true rfl) ?_
  rw [p_X0_6 ha]
  refine aw_aload_n (pc2 := 36) hk dX0_begin_35 rfl rfl ?_
  refine aw_lconst (v := 0) (pc2 := 37) hk dX0_begin_36 rfl (by decide) ?_
  refine aw_put (pc2 := 40) hk ckX0 7 dX0_begin_37 rfl fl_X0_38 (by decide) rfl (o_X0 ha) (fun _ => rfl) (fun _ => rfl) (Nat.le_of_ble_eq_true rfl) ?_
  rw [p_X0_7 ha]
  refine aw_aload_n (pc2 := 41) hk dX0_begin_40 rfl rfl ?_
  refine aw_lconst (v := 0) (pc2 := 42) hk dX0_begin_41 rfl (by decide) ?_
  refine aw_put (pc2 := 45) hk ckX0 8 dX0_begin_42 rfl fl_X0_41 (by decide) rfl (o_X0 ha) (fun _ => rfl) (fun _ => rfl) (Nat.le_of_ble_eq_true rfl) ?_
  rw [p_X0_8 ha]
  refine aw_aload_n (pc2 := 46) hk dX0_begin_45 rfl rfl ?_
  refine aw_lconst (v := 0) (pc2 := 47) hk dX0_begin_46 rfl (by decide) ?_
  refine aw_put (pc2 := 50) hk ckX0 9 dX0_begin_47 rfl fl_X0_44 (by decide) rfl (o_X0 ha) (fun _ => rfl) (fun _ => rfl) (Nat.le_of_ble_eq_true rfl) ?_
  rw [p_X0_9 ha]
  refine aw_aload_n (pc2 := 51) hk dX0_begin_50 rfl rfl ?_
  refine aw_lconst (v := 0) (pc2 := 52) hk dX0_begin_51 rfl (by decide) ?_
  refine aw_put (pc2 := 55) hk ckX0 10 dX0_begin_52 rfl fl_X0_47 (by decide) rfl (o_X0 ha) (fun _ => rfl) (fun _ => rfl) (Nat.le_of_ble_eq_true rfl) ?_
  rw [p_X0_10 ha]
  refine aw_aload_n (pc2 := 56) hk dX0_begin_55 rfl rfl ?_
  refine aw_lconst (v := 0) (pc2 := 57) hk dX0_begin_56 rfl (by decide) ?_
  refine aw_put (pc2 := 60) hk ckX0 11 dX0_begin_57 rfl fl_X0_50 (by decide) rfl (o_X0 ha) (fun _ => rfl) (fun _ => rfl) (Nat.le_of_ble_eq_true rfl) ?_
  rw [p_X0_11 ha]
  refine aw_aload_n (pc2 := 61) hk dX0_begin_60 rfl rfl ?_
  refine aw_lconst (v := 0) (pc2 := 62) hk dX0_begin_61 rfl (by decide) ?_
  refine aw_put (pc2 := 65) hk ckX0 12 dX0_begin_62 rfl fl_X0_53 (by decide) rfl (o_X0 ha) (fun _ => rfl) (fun _ => rfl) (Nat.le_of_ble_eq_true rfl) ?_
  rw [p_X0_12 ha]
  refine aw_aload_n (pc2 := 66) hk dX0_begin_65 rfl rfl ?_
  refine aw_lconst (v := 0) (pc2 := 67) hk dX0_begin_66 rfl (by decide) ?_
  refine aw_put (pc2 := 70) hk ckX0 13 dX0_begin_67 rfl fl_X0_56 (by decide) rfl (o_X0 ha) (fun _ => rfl) (fun _ => rfl) (Nat.le_of_ble_eq_true rfl) ?_
  rw [p_X0_13 ha]
  refine aw_aload_n (pc2 := 71) hk dX0_begin_70 rfl rfl ?_
  refine aw_lconst (v := 0) (pc2 := 72) hk dX0_begin_71 rfl (by decide) ?_
  refine aw_put (pc2 := 75) hk ckX0 14 dX0_begin_72 rfl fl_X0_59 (by decide) rfl (o_X0 ha) (fun _ => rfl) (fun _ => rfl) (Nat.le_of_ble_eq_true rfl) ?_
  rw [p_X0_14 ha]
  refine aw_iconst (v := 0) (pc2 := 76) hk dX0_begin_75 rfl (by decide) ?_
  refine aw_istore_n (pc2 := 77) hk dX0_begin_76 rfl (by decide) ?_
  show AW K Q _ _ 77 [_, _, _, _] _ _ _
  refine aw_Jm (rowU J (a + 1) 0 (fun _ => 0)) (rowU_0 _ _ _).symm ?_
  exact loop 5 0 (by omega) (by omega)
def rdy (x : Int32) : Bool := x == 0 || x == 2
set_option maxHeartbeats 800000 in
set_option maxRecDepth 100000 in
theorem t_isReady {n : Nat} {d : D2} {I : M2} {J : J2} {S : M2} {L : J2} {R : R2} {Q : QT} {a z : Nat} (ha : kd d a = (10, z)) (hq : Q (some (.int (bi (rdy (S a 2))))) n (H5 d I J S L R)) : Calls yX0_isReady cX0_isReady 1 (some .boolean) rmX0_isReady [.ref a] n (H5 d I J S L R) Q := by
  refine Calls.of (by decide) (Nat.le_of_ble_eq_true rfl) ?_
  intro K hk
  show AW K Q 0 0 0 [some (.ref a)] [] n (H5 d I J S L R)
  refine aw_aload_n (pc2 := 1) hk dX0_isReady_0 rfl rfl ?_
  refine aw_get (pc2 := 4) hk ckX0 2 dX0_isReady_1 rfl fl_X0_22 (by decide) (o_X0 ha) rfl ?_
  refine aw_if_eq (tgt := 15) (pc2 := 7) hk dX0_isReady_4 (by decide) rfl (fun c4 => ?_) (fun c4 => ?_)
  · refine aw_iconst (v := 1) (pc2 := 16) hk dX0_isReady_15 rfl (by decide) ?_
    refine aw_goto (tgt := 20) hk dX0_isReady_16 (by decide) ?_
    refine aw_zret (by first | exact Or.inl rfl | exact Or.inr rfl) hk dX0_isReady_20 (Nat.le_of_ble_eq_true rfl) (Nat.le_of_ble_eq_true rfl) (by first | (simpa [rdy, bi, *] using hq))
  · refine aw_aload_n (pc2 := 8) hk dX0_isReady_7 rfl rfl ?_
    refine aw_get (pc2 := 11) hk ckX0 2 dX0_isReady_8 rfl fl_X0_22 (by decide) (o_X0 ha) rfl ?_
    refine aw_iconst (v := 2) (pc2 := 12) hk dX0_isReady_11 rfl (by decide) ?_
    refine aw_icmp_ne (tgt := 19) (pc2 := 15) hk dX0_isReady_12 (by decide) rfl (fun c12 => ?_) (fun c12 => ?_)
    · refine aw_iconst (v := 0) (pc2 := 20) hk dX0_isReady_19 rfl (by decide) ?_
      refine aw_zret (by first | exact Or.inl rfl | exact Or.inr rfl) hk dX0_isReady_20 (Nat.le_of_ble_eq_true rfl) (Nat.le_of_ble_eq_true rfl) (by first | (simpa [rdy, bi, *] using hq))
    · refine aw_iconst (v := 1) (pc2 := 16) hk dX0_isReady_15 rfl (by decide) ?_
      refine aw_goto (tgt := 20) hk dX0_isReady_16 (by decide) ?_
      refine aw_zret (by first | exact Or.inl rfl | exact Or.inr rfl) hk dX0_isReady_20 (Nat.le_of_ble_eq_true rfl) (Nat.le_of_ble_eq_true rfl) (by first | (simpa [rdy, bi, *] using hq))
set_option maxHeartbeats 800000 in
set_option maxRecDepth 100000 in
theorem t_enterOn {n : Nat} {d : D2} {I : M2} {J : J2} {S : M2} {L : J2} {R : R2} {Q : QT} {a z : Nat} (ha : kd d a = (10, z)) {x y : Int32} (hq : Q none n (H5 d I J (u2 (u2 (u2 (u2 S a 2 4) a 3 x) a 5 x) a 4 y) L R)) : Calls yX0_enterOn cX0_enterOn 3 none rmX0_enterOn [.ref a, .int x, .int y] n (H5 d I J S L R) Q := by
  refine Calls.of (by decide) (Nat.le_of_ble_eq_true rfl) ?_
  intro K hk
  show AW K Q 0 0 0 [some (.ref a), some (.int x), some (.int y)] [] n (H5 d I J S L R)
  refine aw_aload_n (pc2 := 1) hk dX0_enterOn_0 rfl rfl ?_
  refine aw_iconst (v := 4) (pc2 := 2) hk dX0_enterOn_1 rfl (by decide) ?_
  refine aw_put (pc2 := 5) hk ckX0 2 dX0_enterOn_2 rfl fl_X0_22 (by decide) rfl (o_X0 ha) (fun _ => rfl) (fun _ => rfl) (Nat.le_of_ble_eq_true rfl) ?_
  rw [p_X0_2 ha]
  refine aw_aload_n (pc2 := 6) hk dX0_enterOn_5 rfl rfl ?_
  refine aw_iload_n (pc2 := 7) hk dX0_enterOn_6 rfl rfl ?_
  refine aw_put (pc2 := 10) hk ckX0 3 dX0_enterOn_7 rfl fl_X0_25 (by decide) rfl (o_X0 ha) (fun _ => rfl) (fun _ => rfl) (Nat.le_of_ble_eq_true rfl) ?_
  rw [p_X0_3 ha]
  refine aw_aload_n (pc2 := 11) hk dX0_enterOn_10 rfl rfl ?_
  refine aw_iload_n (pc2 := 12) hk dX0_enterOn_11 rfl rfl ?_
  refine aw_put (pc2 := 15) hk ckX0 5 dX0_enterOn_12 rfl fl_X0_31 (by decide) rfl (o_X0 ha) (fun _ => rfl) (fun _ => rfl) (Nat.le_of_ble_eq_true rfl) ?_
  rw [p_X0_5 ha]
  refine aw_aload_n (pc2 := 16) hk dX0_enterOn_15 rfl rfl ?_
  refine aw_iload_n (pc2 := 17) hk dX0_enterOn_16 rfl rfl ?_
  refine aw_put (pc2 := 20) hk ckX0 4 dX0_enterOn_17 rfl fl_X0_28 (by decide) rfl (o_X0 ha) (fun _ => rfl) (fun _ => rfl) (Nat.le_of_ble_eq_true rfl) ?_
  rw [p_X0_4 ha]
  refine aw_vret hk dX0_enterOn_20 (Nat.le_of_ble_eq_true rfl) (Nat.le_of_ble_eq_true rfl) hq
set_option maxHeartbeats 800000 in
set_option maxRecDepth 100000 in
theorem t_owed {n : Nat} {d : D2} {I : M2} {J : J2} {S : M2} {L : J2} {R : R2} {Q : QT} {a z : Nat} (ha : kd d a = (10, z)) (hq : Q (some (.long (L a 10 - L a 11))) n (H5 d I J S L R)) : Calls yX0_owed cX0_owed 1 (some .long) rmX0_owed [.ref a] n (H5 d I J S L R) Q := by
  refine Calls.of (by decide) (Nat.le_of_ble_eq_true rfl) ?_
  intro K hk
  show AW K Q 0 0 0 [some (.ref a)] [] n (H5 d I J S L R)
  refine aw_aload_n (pc2 := 1) hk dX0_owed_0 rfl rfl ?_
  refine aw_get (pc2 := 4) hk ckX0 10 dX0_owed_1 rfl fl_X0_47 (by decide) (o_X0 ha) rfl ?_
  refine aw_aload_n (pc2 := 5) hk dX0_owed_4 rfl rfl ?_
  refine aw_get (pc2 := 8) hk ckX0 11 dX0_owed_5 rfl fl_X0_50 (by decide) (o_X0 ha) rfl ?_
  refine aw_lsub (pc2 := 9) hk dX0_owed_8 rfl ?_
  refine aw_lret hk dX0_owed_9 (Nat.le_of_ble_eq_true rfl) (Nat.le_of_ble_eq_true rfl) hq
def intr (S : M2) (L : J2) (a : Nat) (x : Int32) : Int64 := L a 12 + (L a 10 - L a 11) * (S a 4).toInt64 * (x - S a 5).toInt64 / 1000000
set_option maxHeartbeats 800000 in
set_option maxRecDepth 100000 in
theorem t_interestOn {n : Nat} {d : D2} {I : M2} {J : J2} {S : M2} {L : J2} {R : R2} {Q : QT} {a z : Nat} (ha : kd d a = (10, z)) {x : Int32} (hq : Q (some (.long (intr S L a x))) n (H5 d I J S L R)) : Calls yX0_interestOn cX0_interestOn 2 (some .long) rmX0_interestOn [.ref a, .int x] n (H5 d I J S L R) Q := by
  refine Calls.of (by decide) (Nat.le_of_ble_eq_true rfl) ?_
  intro K hk
  show AW K Q 0 0 0 [some (.ref a), some (.int x)] [] n (H5 d I J S L R)
  refine aw_aload_n (pc2 := 1) hk dX0_interestOn_0 rfl rfl ?_
  refine aw_get (pc2 := 4) hk ckX0 12 dX0_interestOn_1 rfl fl_X0_53 (by decide) (o_X0 ha) rfl ?_
  refine aw_aload_n (pc2 := 5) hk dX0_interestOn_4 rfl rfl ?_
  refine aw_cV (rm2 := rmX0_owed) (pc2 := 8) hk veX0_owed dX0_interestOn_5 rfl ml_X0_62 ⟨(Nat.le_of_ble_eq_true rfl), (Nat.le_of_ble_eq_true rfl)⟩ [] rfl rfl (Nat.le_of_ble_eq_true rfl) (Nat.le_of_ble_eq_true rfl) (Nat.le_of_ble_eq_true rfl) (o_X0 ha) (t_owed ha ?_)
  refine aw_aload_n (pc2 := 9) hk dX0_interestOn_8 rfl rfl ?_
  refine aw_get (pc2 := 12) hk ckX0 4 dX0_interestOn_9 rfl fl_X0_28 (by decide) (o_X0 ha) rfl ?_
  refine aw_i2l (pc2 := 13) hk dX0_interestOn_12 rfl ?_
  refine aw_lmul (pc2 := 14) hk dX0_interestOn_13 rfl ?_
  refine aw_iload_n (pc2 := 15) hk dX0_interestOn_14 rfl rfl ?_
  refine aw_aload_n (pc2 := 16) hk dX0_interestOn_15 rfl rfl ?_
  refine aw_get (pc2 := 19) hk ckX0 5 dX0_interestOn_16 rfl fl_X0_31 (by decide) (o_X0 ha) rfl ?_
  refine aw_isub (pc2 := 20) hk dX0_interestOn_19 rfl ?_
  refine aw_i2l (pc2 := 21) hk dX0_interestOn_20 rfl ?_
  refine aw_lmul (pc2 := 22) hk dX0_interestOn_21 rfl ?_
  refine aw_ldc2 (pc2 := 25) hk dX0_interestOn_22 rfl kl_X0_66 ?_
  refine aw_ldiv (pc2 := 26) hk dX0_interestOn_25 rfl (by decide) ?_
  refine aw_ladd (pc2 := 27) hk dX0_interestOn_26 rfl ?_
  refine aw_lret hk dX0_interestOn_27 (Nat.le_of_ble_eq_true rfl) (Nat.le_of_ble_eq_true rfl) hq
def rcvI (S : M2) (L : J2) (a : Nat) (v : Int64) (x : Int32) : Int64 := mnL v (intr S L a x)
def rcvD (S : M2) (L : J2) (a : Nat) (v : Int64) (x : Int32) : Int64 := mnL (v - rcvI S L a v x) (L a 10 - L a 11)
set_option maxHeartbeats 800000 in
set_option maxRecDepth 100000 in
theorem t_receive {n : Nat} {d : D2} {I : M2} {J : J2} {S : M2} {L : J2} {R : R2} {Q : QT} {a z : Nat} (ha : kd d a = (10, z)) {v : Int64} {x : Int32} (hq : Q (some (.long (rcvI S L a v x + rcvD S L a v x))) n (H5 d I J (u2 S a 5 x) (u2 (u2 (u2 L a 12 (intr S L a x - rcvI S L a v x)) a 13 (L a 13 + rcvI S L a v x)) a 11 (L a 11 + rcvD S L a v x)) R)) : Calls yX0_receive cX0_receive 10 (some .long) rmX0_receive [.ref a, .long v, .int x] n (H5 d I J S L R) Q := by
  refine Calls.of (by decide) (Nat.le_of_ble_eq_true rfl) ?_
  intro K hk
  show AW K Q 0 0 0 [some (.ref a), some (.long v), none, some (.int x), none, none, none, none, none, none] [] n (H5 d I J S L R)
  refine aw_aload_n (pc2 := 1) hk dX0_receive_0 rfl rfl ?_
  refine aw_iload_n (pc2 := 2) hk dX0_receive_1 rfl rfl ?_
  refine aw_cV (rm2 := rmX0_interestOn) (pc2 := 5) hk veX0_interestOn dX0_receive_2 rfl ml_X0_68 ⟨(Nat.le_of_ble_eq_true rfl), (Nat.le_of_ble_eq_true rfl)⟩ [_] rfl rfl (Nat.le_of_ble_eq_true rfl) (Nat.le_of_ble_eq_true rfl) (Nat.le_of_ble_eq_true rfl) (o_X0 ha) (t_interestOn ha ?_)
  refine aw_lstore (pc2 := 7) hk dX0_receive_5 rfl (by decide) ?_
  show AW K Q _ _ 7 [_, _, _, _, _, _, _, _, _, _] _ _ _
  refine aw_lload_n (pc2 := 8) hk dX0_receive_7 rfl rfl ?_
  refine aw_lload (pc2 := 10) hk dX0_receive_8 rfl rfl ?_
  refine aw_min (pc2 := 13) hk seJ9_min_f86c9 dX0_receive_10 rfl ml_X0_72 (Nat.le_of_ble_eq_true rfl) (Nat.le_of_ble_eq_true rfl) (Nat.le_of_ble_eq_true rfl) (Nat.le_of_ble_eq_true rfl) ?_
  refine aw_lstore (pc2 := 15) hk dX0_receive_13 rfl (by decide) ?_
  show AW K Q _ _ 15 [_, _, _, _, _, _, _, _, _, _] _ _ _
  refine aw_lload_n (pc2 := 16) hk dX0_receive_15 rfl rfl ?_
  refine aw_lload (pc2 := 18) hk dX0_receive_16 rfl rfl ?_
  refine aw_lsub (pc2 := 19) hk dX0_receive_18 rfl ?_
  refine aw_aload_n (pc2 := 20) hk dX0_receive_19 rfl rfl ?_
  refine aw_cV (rm2 := rmX0_owed) (pc2 := 23) hk veX0_owed dX0_receive_20 rfl ml_X0_62 ⟨(Nat.le_of_ble_eq_true rfl), (Nat.le_of_ble_eq_true rfl)⟩ [] rfl rfl (Nat.le_of_ble_eq_true rfl) (Nat.le_of_ble_eq_true rfl) (Nat.le_of_ble_eq_true rfl) (o_X0 ha) (t_owed ha ?_)
  refine aw_min (pc2 := 26) hk seJ9_min_f86c9 dX0_receive_23 rfl ml_X0_72 (Nat.le_of_ble_eq_true rfl) (Nat.le_of_ble_eq_true rfl) (Nat.le_of_ble_eq_true rfl) (Nat.le_of_ble_eq_true rfl) ?_
  refine aw_lstore (pc2 := 28) hk dX0_receive_26 rfl (by decide) ?_
  show AW K Q _ _ 28 [_, _, _, _, _, _, _, _, _, _] _ _ _
  refine aw_aload_n (pc2 := 29) hk dX0_receive_28 rfl rfl ?_
  refine aw_lload (pc2 := 31) hk dX0_receive_29 rfl rfl ?_
  refine aw_lload (pc2 := 33) hk dX0_receive_31 rfl rfl ?_
  refine aw_lsub (pc2 := 34) hk dX0_receive_33 rfl ?_
  refine aw_put (pc2 := 37) hk ckX0 12 dX0_receive_34 rfl fl_X0_53 (by decide) rfl (o_X0 ha) (fun _ => rfl) (fun _ => rfl) (Nat.le_of_ble_eq_true rfl) ?_
  rw [p_X0_12 ha]
  refine aw_aload_n (pc2 := 38) hk dX0_receive_37 rfl rfl ?_
  refine aw_iload_n (pc2 := 39) hk dX0_receive_38 rfl rfl ?_
  refine aw_put (pc2 := 42) hk ckX0 5 dX0_receive_39 rfl fl_X0_31 (by decide) rfl (o_X0 ha) (fun _ => rfl) (fun _ => rfl) (Nat.le_of_ble_eq_true rfl) ?_
  rw [p_X0_5 ha]
  refine aw_aload_n (pc2 := 43) hk dX0_receive_42 rfl rfl ?_
  refine aw_dup_r (pc2 := 44) hk dX0_receive_43 rfl ?_
  refine aw_get (pc2 := 47) hk ckX0 13 dX0_receive_44 rfl fl_X0_56 (by decide) (o_X0 ha) rfl ?_
  refine aw_lload (pc2 := 49) hk dX0_receive_47 rfl rfl ?_
  refine aw_ladd (pc2 := 50) hk dX0_receive_49 rfl ?_
  refine aw_topL (L a 13 + rcvI S L a v x) (by rw [u2_j _ _ _ _ (by decide)]; rfl) ?_
  refine aw_put (pc2 := 53) hk ckX0 13 dX0_receive_50 rfl fl_X0_56 (by decide) rfl (o_X0 ha) (fun _ => rfl) (fun _ => rfl) (Nat.le_of_ble_eq_true rfl) ?_
  rw [p_X0_13 ha]
  refine aw_aload_n (pc2 := 54) hk dX0_receive_53 rfl rfl ?_
  refine aw_dup_r (pc2 := 55) hk dX0_receive_54 rfl ?_
  refine aw_get (pc2 := 58) hk ckX0 11 dX0_receive_55 rfl fl_X0_50 (by decide) (o_X0 ha) rfl ?_
  refine aw_lload (pc2 := 60) hk dX0_receive_58 rfl rfl ?_
  refine aw_ladd (pc2 := 61) hk dX0_receive_60 rfl ?_
  refine aw_topL (L a 11 + rcvD S L a v x) (by rw [u2_j _ _ _ _ (by decide), u2_j _ _ _ _ (by decide)]; rfl) ?_
  refine aw_put (pc2 := 64) hk ckX0 11 dX0_receive_61 rfl fl_X0_50 (by decide) rfl (o_X0 ha) (fun _ => rfl) (fun _ => rfl) (Nat.le_of_ble_eq_true rfl) ?_
  rw [p_X0_11 ha]
  refine aw_lload (pc2 := 66) hk dX0_receive_64 rfl rfl ?_
  refine aw_lload (pc2 := 68) hk dX0_receive_66 rfl rfl ?_
  refine aw_ladd (pc2 := 69) hk dX0_receive_68 rfl ?_
  refine aw_lret hk dX0_receive_69 (Nat.le_of_ble_eq_true rfl) (Nat.le_of_ble_eq_true rfl) hq
def tell (S : M2) (L : J2) (a k : Nat) (x : Int32) : Int64 := match k with
  | 0 => (S a 0).toInt64
  | 1 => (S a 2).toInt64
  | 2 => (S a 3).toInt64
  | 3 => L a 6
  | 4 => L a 7
  | 5 => L a 8
  | 6 => L a 9
  | 7 => L a 10
  | 8 => L a 11
  | 9 => L a 10 - L a 11
  | 10 => intr S L a x
  | 11 => L a 13
  | 12 => (S a 1).toInt64
  | _ => L a 14
set_option maxHeartbeats 800000 in
set_option maxRecDepth 100000 in
theorem t_tell {n : Nat} {d : D2} {I : M2} {J : J2} {S : M2} {L : J2} {R : R2} {Q : QT} {a z : Nat} (ha : kd d a = (10, z)) {k : Nat} {x : Int32} (hk14 : k < 14) (hq : Q (some (.long (tell S L a k x))) n (H5 d I J S L R)) : Calls yX0_tell cX0_tell 3 (some .long) rmX0_tell [.ref a, .int (nI k), .int x] n (H5 d I J S L R) Q := by
  refine Calls.of (by decide) (Nat.le_of_ble_eq_true rfl) ?_
  intro K hk
  show AW K Q 0 0 0 [some (.ref a), some (.int (nI k)), some (.int x)] [] n (H5 d I J S L R)
  refine aw_iload_n (pc2 := 1) hk dX0_tell_0 rfl rfl ?_
  match k, hk14 with
  | 0, _ =>
    refine aw_tableIn (tgt := 68) (off := 67) hk dX0_tell_1 (by decide) (by decide) (by decide) (by decide) ?_
    refine aw_aload_n (pc2 := 69) hk dX0_tell_68 rfl rfl ?_
    refine aw_get (pc2 := 72) hk ckX0 0 dX0_tell_69 rfl fl_X0_15 (by decide) (o_X0 ha) rfl ?_
    refine aw_i2l (pc2 := 73) hk dX0_tell_72 rfl ?_
    refine aw_lret hk dX0_tell_73 (Nat.le_of_ble_eq_true rfl) (Nat.le_of_ble_eq_true rfl) hq
  | 1, _ =>
    refine aw_tableIn (tgt := 74) (off := 73) hk dX0_tell_1 (by decide) (by decide) (by decide) (by decide) ?_
    refine aw_aload_n (pc2 := 75) hk dX0_tell_74 rfl rfl ?_
    refine aw_get (pc2 := 78) hk ckX0 2 dX0_tell_75 rfl fl_X0_22 (by decide) (o_X0 ha) rfl ?_
    refine aw_i2l (pc2 := 79) hk dX0_tell_78 rfl ?_
    refine aw_lret hk dX0_tell_79 (Nat.le_of_ble_eq_true rfl) (Nat.le_of_ble_eq_true rfl) hq
  | 2, _ =>
    refine aw_tableIn (tgt := 80) (off := 79) hk dX0_tell_1 (by decide) (by decide) (by decide) (by decide) ?_
    refine aw_aload_n (pc2 := 81) hk dX0_tell_80 rfl rfl ?_
    refine aw_get (pc2 := 84) hk ckX0 3 dX0_tell_81 rfl fl_X0_25 (by decide) (o_X0 ha) rfl ?_
    refine aw_i2l (pc2 := 85) hk dX0_tell_84 rfl ?_
    refine aw_lret hk dX0_tell_85 (Nat.le_of_ble_eq_true rfl) (Nat.le_of_ble_eq_true rfl) hq
  | 3, _ =>
    refine aw_tableIn (tgt := 86) (off := 85) hk dX0_tell_1 (by decide) (by decide) (by decide) (by decide) ?_
    refine aw_aload_n (pc2 := 87) hk dX0_tell_86 rfl rfl ?_
    refine aw_get (pc2 := 90) hk ckX0 6 dX0_tell_87 rfl fl_X0_34 (by decide) (o_X0 ha) rfl ?_
    refine aw_lret hk dX0_tell_90 (Nat.le_of_ble_eq_true rfl) (Nat.le_of_ble_eq_true rfl) hq
  | 4, _ =>
    refine aw_tableIn (tgt := 91) (off := 90) hk dX0_tell_1 (by decide) (by decide) (by decide) (by decide) ?_
    refine aw_aload_n (pc2 := 92) hk dX0_tell_91 rfl rfl ?_
    refine aw_get (pc2 := 95) hk ckX0 7 dX0_tell_92 rfl fl_X0_38 (by decide) (o_X0 ha) rfl ?_
    refine aw_lret hk dX0_tell_95 (Nat.le_of_ble_eq_true rfl) (Nat.le_of_ble_eq_true rfl) hq
  | 5, _ =>
    refine aw_tableIn (tgt := 96) (off := 95) hk dX0_tell_1 (by decide) (by decide) (by decide) (by decide) ?_
    refine aw_aload_n (pc2 := 97) hk dX0_tell_96 rfl rfl ?_
    refine aw_get (pc2 := 100) hk ckX0 8 dX0_tell_97 rfl fl_X0_41 (by decide) (o_X0 ha) rfl ?_
    refine aw_lret hk dX0_tell_100 (Nat.le_of_ble_eq_true rfl) (Nat.le_of_ble_eq_true rfl) hq
  | 6, _ =>
    refine aw_tableIn (tgt := 101) (off := 100) hk dX0_tell_1 (by decide) (by decide) (by decide) (by decide) ?_
    refine aw_aload_n (pc2 := 102) hk dX0_tell_101 rfl rfl ?_
    refine aw_get (pc2 := 105) hk ckX0 9 dX0_tell_102 rfl fl_X0_44 (by decide) (o_X0 ha) rfl ?_
    refine aw_lret hk dX0_tell_105 (Nat.le_of_ble_eq_true rfl) (Nat.le_of_ble_eq_true rfl) hq
  | 7, _ =>
    refine aw_tableIn (tgt := 106) (off := 105) hk dX0_tell_1 (by decide) (by decide) (by decide) (by decide) ?_
    refine aw_aload_n (pc2 := 107) hk dX0_tell_106 rfl rfl ?_
    refine aw_get (pc2 := 110) hk ckX0 10 dX0_tell_107 rfl fl_X0_47 (by decide) (o_X0 ha) rfl ?_
    refine aw_lret hk dX0_tell_110 (Nat.le_of_ble_eq_true rfl) (Nat.le_of_ble_eq_true rfl) hq
  | 8, _ =>
    refine aw_tableIn (tgt := 111) (off := 110) hk dX0_tell_1 (by decide) (by decide) (by decide) (by decide) ?_
    refine aw_aload_n (pc2 := 112) hk dX0_tell_111 rfl rfl ?_
    refine aw_get (pc2 := 115) hk ckX0 11 dX0_tell_112 rfl fl_X0_50 (by decide) (o_X0 ha) rfl ?_
    refine aw_lret hk dX0_tell_115 (Nat.le_of_ble_eq_true rfl) (Nat.le_of_ble_eq_true rfl) hq
  | 9, _ =>
    refine aw_tableIn (tgt := 116) (off := 115) hk dX0_tell_1 (by decide) (by decide) (by decide) (by decide) ?_
    refine aw_aload_n (pc2 := 117) hk dX0_tell_116 rfl rfl ?_
    refine aw_cV (rm2 := rmX0_owed) (pc2 := 120) hk veX0_owed dX0_tell_117 rfl ml_X0_62 ⟨(Nat.le_of_ble_eq_true rfl), (Nat.le_of_ble_eq_true rfl)⟩ [] rfl rfl (Nat.le_of_ble_eq_true rfl) (Nat.le_of_ble_eq_true rfl) (Nat.le_of_ble_eq_true rfl) (o_X0 ha) (t_owed ha ?_)
    refine aw_lret hk dX0_tell_120 (Nat.le_of_ble_eq_true rfl) (Nat.le_of_ble_eq_true rfl) hq
  | 10, _ =>
    refine aw_tableIn (tgt := 121) (off := 120) hk dX0_tell_1 (by decide) (by decide) (by decide) (by decide) ?_
    refine aw_aload_n (pc2 := 122) hk dX0_tell_121 rfl rfl ?_
    refine aw_iload_n (pc2 := 123) hk dX0_tell_122 rfl rfl ?_
    refine aw_cV (rm2 := rmX0_interestOn) (pc2 := 126) hk veX0_interestOn dX0_tell_123 rfl ml_X0_68 ⟨(Nat.le_of_ble_eq_true rfl), (Nat.le_of_ble_eq_true rfl)⟩ [_] rfl rfl (Nat.le_of_ble_eq_true rfl) (Nat.le_of_ble_eq_true rfl) (Nat.le_of_ble_eq_true rfl) (o_X0 ha) (t_interestOn ha ?_)
    refine aw_lret hk dX0_tell_126 (Nat.le_of_ble_eq_true rfl) (Nat.le_of_ble_eq_true rfl) hq
  | 11, _ =>
    refine aw_tableIn (tgt := 127) (off := 126) hk dX0_tell_1 (by decide) (by decide) (by decide) (by decide) ?_
    refine aw_aload_n (pc2 := 128) hk dX0_tell_127 rfl rfl ?_
    refine aw_get (pc2 := 131) hk ckX0 13 dX0_tell_128 rfl fl_X0_56 (by decide) (o_X0 ha) rfl ?_
    refine aw_lret hk dX0_tell_131 (Nat.le_of_ble_eq_true rfl) (Nat.le_of_ble_eq_true rfl) hq
  | 12, _ =>
    refine aw_tableIn (tgt := 132) (off := 131) hk dX0_tell_1 (by decide) (by decide) (by decide) (by decide) ?_
    refine aw_aload_n (pc2 := 133) hk dX0_tell_132 rfl rfl ?_
    refine aw_get (pc2 := 136) hk ckX0 1 dX0_tell_133 rfl fl_X0_19 (by decide) (o_X0 ha) rfl ?_
    refine aw_i2l (pc2 := 137) hk dX0_tell_136 rfl ?_
    refine aw_lret hk dX0_tell_137 (Nat.le_of_ble_eq_true rfl) (Nat.le_of_ble_eq_true rfl) hq
  | 13, _ =>
    refine aw_tableOut (tgt := 138) hk dX0_tell_1 (by decide) (by decide) ?_
    refine aw_aload_n (pc2 := 139) hk dX0_tell_138 rfl rfl ?_
    refine aw_get (pc2 := 142) hk ckX0 14 dX0_tell_139 rfl fl_X0_59 (by decide) (o_X0 ha) rfl ?_
    refine aw_lret hk dX0_tell_142 (Nat.le_of_ble_eq_true rfl) (Nat.le_of_ble_eq_true rfl) hq
set_option maxHeartbeats 800000 in
set_option maxRecDepth 100000 in
theorem t_clear {n : Nat} {d : D2} {I : M2} {J : J2} {S : M2} {L : J2} {R : R2} {Q : QT} {a z : Nat} (ha : kd d a = (11, z)) (hq : Q none n (H5 d I J (u2 (u2 S a 0 (-1)) a 1 0) L R)) : Calls yX1_clear cX1_clear 1 none rmX1_clear [.ref a] n (H5 d I J S L R) Q := by
  refine Calls.of (by decide) (Nat.le_of_ble_eq_true rfl) ?_
  intro K hk
  show AW K Q 0 0 0 [some (.ref a)] [] n (H5 d I J S L R)
  refine aw_aload_n (pc2 := 1) hk dX1_clear_0 rfl rfl ?_
  refine aw_iconst (v := -1) (pc2 := 2) hk dX1_clear_1 rfl (by decide) ?_
  refine aw_put (pc2 := 5) hk ckX1 0 dX1_clear_2 rfl fl_X1_22 (by decide) rfl (o_X1 ha) (fun _ => rfl) (fun _ => rfl) (Nat.le_of_ble_eq_true rfl) ?_
  rw [p_X1_0 ha]
  refine aw_aload_n (pc2 := 6) hk dX1_clear_5 rfl rfl ?_
  refine aw_iconst (v := 0) (pc2 := 7) hk dX1_clear_6 rfl (by decide) ?_
  refine aw_put (pc2 := 10) hk ckX1 1 dX1_clear_7 rfl fl_X1_26 (by decide) rfl (o_X1 ha) (fun _ => rfl) (fun _ => rfl) (Nat.le_of_ble_eq_true rfl) ?_
  rw [p_X1_1 ha]
  refine aw_vret hk dX1_clear_10 (Nat.le_of_ble_eq_true rfl) (Nat.le_of_ble_eq_true rfl) hq
set_option maxHeartbeats 800000 in
set_option maxRecDepth 100000 in
theorem t_addRight {n : Nat} {d : D2} {I : M2} {J : J2} {S : M2} {L : J2} {R : R2} {Q : QT} {a z : Nat} (ha : kd d a = (11, z)) (ha1 : kd d (a + 1) = (1, 4)) (ha2 : kd d (a + 2) = (1, 4)) (ha3 : kd d (a + 3) = (3, 4)) {x y : Int32} {rc : Nat} (hrc : S a 1 = nI rc) (hrc4 : rc ≤ 4) (hq1 : rc = 4 → Q (some (.int (-104))) n (H5 d I J S L R)) (hq2 : rc < 4 → Q (some (.int (nI (rc + 1)))) n (H5 d (u2 (u2 I (a + 1) rc x) (a + 2) rc y) (u2 J (a + 3) rc y.toInt64) (u2 S a 1 (nI (rc + 1))) L R)) : Calls yX1_addRight cX1_addRight 3 (some .int) rmX1_addRight [.ref a, .int x, .int y] n (H5 d I J S L R) Q := by
  refine Calls.of (by decide) (Nat.le_of_ble_eq_true rfl) ?_
  intro K hk
  show AW K Q 0 0 0 [some (.ref a), some (.int x), some (.int y)] [] n (H5 d I J S L R)
  refine aw_aload_n (pc2 := 1) hk dX1_addRight_0 rfl rfl ?_
  refine aw_get (pc2 := 4) hk ckX1 1 dX1_addRight_1 rfl fl_X1_26 (by decide) (o_X1 ha) rfl ?_
  refine aw_iconst (v := 4) (pc2 := 5) hk dX1_addRight_4 rfl (by decide) ?_
  refine aw_icN_lt (x := rc) (y := 4) (tgt := 11) (pc2 := 8) hk dX1_addRight_5 (by decide) rfl hrc rfl (by omega) (by omega) (fun c5 => ?_) (fun c5 => ?_)
  · refine aw_aload_n (pc2 := 12) hk dX1_addRight_11 rfl rfl ?_
    refine aw_get (pc2 := 15) hk ckX1 2 dX1_addRight_12 rfl fl_X1_9 (by decide) (o_X1 ha) rfl ?_
    refine aw_aload_n (pc2 := 16) hk dX1_addRight_15 rfl rfl ?_
    refine aw_get (pc2 := 19) hk ckX1 1 dX1_addRight_16 rfl fl_X1_26 (by decide) (o_X1 ha) rfl ?_
    refine aw_iload_n (pc2 := 20) hk dX1_addRight_19 rfl rfl ?_
    refine h_iast (pc2 := 21) hk dX1_addRight_20 rfl ha1 hrc c5 (by decide) ?_
    refine aw_aload_n (pc2 := 22) hk dX1_addRight_21 rfl rfl ?_
    refine aw_get (pc2 := 25) hk ckX1 3 dX1_addRight_22 rfl fl_X1_15 (by decide) (o_X1 ha) rfl ?_
    refine aw_aload_n (pc2 := 26) hk dX1_addRight_25 rfl rfl ?_
    refine aw_get (pc2 := 29) hk ckX1 1 dX1_addRight_26 rfl fl_X1_26 (by decide) (o_X1 ha) rfl ?_
    refine aw_iload_n (pc2 := 30) hk dX1_addRight_29 rfl rfl ?_
    refine h_iast (pc2 := 31) hk dX1_addRight_30 rfl ha2 hrc c5 (by decide) ?_
    refine aw_aload_n (pc2 := 32) hk dX1_addRight_31 rfl rfl ?_
    refine aw_get (pc2 := 35) hk ckX1 4 dX1_addRight_32 rfl fl_X1_18 (by decide) (o_X1 ha) rfl ?_
    refine aw_aload_n (pc2 := 36) hk dX1_addRight_35 rfl rfl ?_
    refine aw_get (pc2 := 39) hk ckX1 1 dX1_addRight_36 rfl fl_X1_26 (by decide) (o_X1 ha) rfl ?_
    refine aw_iload_n (pc2 := 40) hk dX1_addRight_39 rfl rfl ?_
    refine aw_i2l (pc2 := 41) hk dX1_addRight_40 rfl ?_
    refine h_last (pc2 := 42) hk dX1_addRight_41 rfl ha3 hrc c5 (by decide) ?_
    refine aw_aload_n (pc2 := 43) hk dX1_addRight_42 rfl rfl ?_
    refine aw_dup_r (pc2 := 44) hk dX1_addRight_43 rfl ?_
    refine aw_get (pc2 := 47) hk ckX1 1 dX1_addRight_44 rfl fl_X1_26 (by decide) (o_X1 ha) rfl ?_
    refine aw_iconst (v := 1) (pc2 := 48) hk dX1_addRight_47 rfl (by decide) ?_
    refine aw_iadd (pc2 := 49) hk dX1_addRight_48 rfl ?_
    refine aw_top (nI (rc + 1)) (by rw [hrc]; exact nI_1 rc) ?_
    refine aw_put (pc2 := 52) hk ckX1 1 dX1_addRight_49 rfl fl_X1_26 (by decide) rfl (o_X1 ha) (fun _ => rfl) (fun _ => rfl) (Nat.le_of_ble_eq_true rfl) ?_
    rw [p_X1_1 ha]
    refine aw_aload_n (pc2 := 53) hk dX1_addRight_52 rfl rfl ?_
    refine aw_get (pc2 := 56) hk ckX1 1 dX1_addRight_53 rfl fl_X1_26 (by decide) (o_X1 ha) rfl ?_
    refine aw_top (nI (rc + 1)) (u2_s _ _ _ _) ?_
    refine aw_iret hk dX1_addRight_56 (Nat.le_of_ble_eq_true rfl) (Nat.le_of_ble_eq_true rfl) (hq2 c5)
  · refine aw_bipush (v := -104) (pc2 := 10) hk dX1_addRight_8 rfl (by decide) ?_
    refine aw_iret hk dX1_addRight_10 (Nat.le_of_ble_eq_true rfl) (Nat.le_of_ble_eq_true rfl) (hq1 (by omega))
set_option maxHeartbeats 800000 in
set_option maxRecDepth 100000 in
theorem t_put {n : Nat} {d : D2} {I : M2} {J : J2} {S : M2} {L : J2} {R : R2} {Q : QT} {a z : Nat} (ha : kd d a = (14, z)) (ha1 : kd d (a + 1) = (1, 20)) (ha2 : kd d (a + 2) = (1, 20)) {c : Nat} (hc : S a 0 = nI c) (hc20 : c ≤ 20) {x y : Int32} (hq1 : fndI (I (a + 1)) x c 0 < c → Q (some (.int (nI c))) n (H5 d (u2 I (a + 2) (fndI (I (a + 1)) x c 0) y) J S L R)) (hq2 : fndI (I (a + 1)) x c 0 = c → c = 20 → Q (some (.int (-104))) n (H5 d I J S L R)) (hq3 : fndI (I (a + 1)) x c 0 = c → c < 20 → Q (some (.int (nI (c + 1)))) n (H5 d (u2 (u2 I (a + 1) c x) (a + 2) c y) J (u2 S a 0 (nI (c + 1))) L R)) : Calls yX4_put cX4_put 4 (some .int) rmX4_put [.ref a, .int x, .int y] n (H5 d I J S L R) Q := by
  refine Calls.of (by decide) (Nat.le_of_ble_eq_true rfl) ?_
  intro K hk
  show AW K Q 0 0 0 [some (.ref a), some (.int x), some (.int y), none] [] n (H5 d I J S L R)
  have loop : ∀ (k i : Nat), i ≤ c → c + 1 ≤ i + k → fndI (I (a + 1)) x (c - i) i = fndI (I (a + 1)) x c 0 → AW K Q 0 0 2 [some (.ref a), some (.int x), some (.int y), some (.int (nI i))] [] n (H5 d I J S L R) := by
    intro k
    induction k with
    | zero => intro i  hi hn; omega
    | succ k ih =>
      intro i  hi hn hinv
      refine aw_iload_n (pc2 := 3) hk dX4_put_2 rfl rfl ?_
      refine aw_aload_n (pc2 := 4) hk dX4_put_3 rfl rfl ?_
      refine aw_get (pc2 := 7) hk ckX4 0 dX4_put_4 rfl fl_X4_18 (by decide) (o_X4 ha) rfl ?_
      refine aw_icN_ge (x := i) (y := c) (tgt := 44) (pc2 := 10) hk dX4_put_7 (by decide) rfl rfl hc (by omega) (by omega) (fun c7 => ?_) (fun c7 => ?_)
      · obtain rfl : i = c := by omega
        have hr : fndI (I (a + 1)) x i 0 = i := by rw [← hinv, Nat.sub_self]; rfl
        refine aw_aload_n (pc2 := 45) hk dX4_put_44 rfl rfl ?_
        refine aw_get (pc2 := 48) hk ckX4 0 dX4_put_45 rfl fl_X4_18 (by decide) (o_X4 ha) rfl ?_
        refine aw_bipush (v := 20) (pc2 := 50) hk dX4_put_48 rfl (by decide) ?_
        refine aw_icN_lt (x := i) (y := 20) (tgt := 56) (pc2 := 53) hk dX4_put_50 (by decide) rfl hc rfl (by omega) (by omega) (fun c50 => ?_) (fun c50 => ?_)
        · refine aw_aload_n (pc2 := 57) hk dX4_put_56 rfl rfl ?_
          refine aw_get (pc2 := 60) hk ckX4 1 dX4_put_57 rfl fl_X4_9 (by decide) (o_X4 ha) rfl ?_
          refine aw_aload_n (pc2 := 61) hk dX4_put_60 rfl rfl ?_
          refine aw_get (pc2 := 64) hk ckX4 0 dX4_put_61 rfl fl_X4_18 (by decide) (o_X4 ha) rfl ?_
          refine aw_iload_n (pc2 := 65) hk dX4_put_64 rfl rfl ?_
          refine h_iast (pc2 := 66) hk dX4_put_65 rfl ha1 hc (by omega) (by decide) ?_
          refine aw_aload_n (pc2 := 67) hk dX4_put_66 rfl rfl ?_
          refine aw_get (pc2 := 70) hk ckX4 2 dX4_put_67 rfl fl_X4_15 (by decide) (o_X4 ha) rfl ?_
          refine aw_aload_n (pc2 := 71) hk dX4_put_70 rfl rfl ?_
          refine aw_get (pc2 := 74) hk ckX4 0 dX4_put_71 rfl fl_X4_18 (by decide) (o_X4 ha) rfl ?_
          refine aw_iload_n (pc2 := 75) hk dX4_put_74 rfl rfl ?_
          refine h_iast (pc2 := 76) hk dX4_put_75 rfl ha2 hc (by omega) (by decide) ?_
          refine aw_aload_n (pc2 := 77) hk dX4_put_76 rfl rfl ?_
          refine aw_dup_r (pc2 := 78) hk dX4_put_77 rfl ?_
          refine aw_get (pc2 := 81) hk ckX4 0 dX4_put_78 rfl fl_X4_18 (by decide) (o_X4 ha) rfl ?_
          refine aw_iconst (v := 1) (pc2 := 82) hk dX4_put_81 rfl (by decide) ?_
          refine aw_iadd (pc2 := 83) hk dX4_put_82 rfl ?_
          refine aw_top (nI (i + 1)) (by rw [hc]; exact nI_1 i) ?_
          refine aw_put (pc2 := 86) hk ckX4 0 dX4_put_83 rfl fl_X4_18 (by decide) rfl (o_X4 ha) (fun _ => rfl) (fun _ => rfl) (Nat.le_of_ble_eq_true rfl) ?_
          rw [p_X4_0 ha]
          refine aw_aload_n (pc2 := 87) hk dX4_put_86 rfl rfl ?_
          refine aw_get (pc2 := 90) hk ckX4 0 dX4_put_87 rfl fl_X4_18 (by decide) (o_X4 ha) rfl ?_
          refine aw_top (nI (i + 1)) (u2_s _ _ _ _) ?_
          refine aw_iret hk dX4_put_90 (Nat.le_of_ble_eq_true rfl) (Nat.le_of_ble_eq_true rfl) (hq3 hr (by omega))
        · refine aw_bipush (v := -104) (pc2 := 55) hk dX4_put_53 rfl (by decide) ?_
          refine aw_iret hk dX4_put_55 (Nat.le_of_ble_eq_true rfl) (Nat.le_of_ble_eq_true rfl) (hq2 hr (by omega))
      · refine aw_iload_n (pc2 := 11) hk dX4_put_10 rfl rfl ?_
        refine aw_bipush (v := 20) (pc2 := 13) hk dX4_put_11 rfl (by decide) ?_
        refine aw_icN_ge (x := i) (y := 20) (tgt := 44) (pc2 := 16) hk dX4_put_13 (by decide) rfl rfl rfl (by omega) (by omega) (fun c13 => absurd c13 (by omega)) (fun c13 => ?_)
        refine aw_aload_n (pc2 := 17) hk dX4_put_16 rfl rfl ?_
        refine aw_get (pc2 := 20) hk ckX4 1 dX4_put_17 rfl fl_X4_9 (by decide) (o_X4 ha) rfl ?_
        refine aw_iload_n (pc2 := 21) hk dX4_put_20 rfl rfl ?_
        refine h_iald (pc2 := 22) hk dX4_put_21 rfl ha1 rfl (by omega) (by decide) ?_
        refine aw_iload_n (pc2 := 23) hk dX4_put_22 rfl rfl ?_
        refine aw_icmp_ne (tgt := 38) (pc2 := 26) hk dX4_put_23 (by decide) rfl (fun c23 => ?_) (fun c23 => ?_)
        · refine aw_iinc1 (pc2 := 41) hk dX4_put_38 rfl rfl (by decide) ?_
          show AW K Q _ _ 41 [_, _, _, _] _ _ _
          refine aw_goto (tgt := 2) hk dX4_put_41 (by decide) ?_
          exact ih (i + 1) (by omega) (by omega) (by rw [← hinv, show c - i = c - (i + 1) + 1 by omega]; exact (if_neg c23).symm)
        · have hr : fndI (I (a + 1)) x c 0 = i := by rw [← hinv, show c - i = c - i - 1 + 1 by omega]; unfold fndI; rw [if_pos c23]
          refine aw_aload_n (pc2 := 27) hk dX4_put_26 rfl rfl ?_
          refine aw_get (pc2 := 30) hk ckX4 2 dX4_put_27 rfl fl_X4_15 (by decide) (o_X4 ha) rfl ?_
          refine aw_iload_n (pc2 := 31) hk dX4_put_30 rfl rfl ?_
          refine aw_iload_n (pc2 := 32) hk dX4_put_31 rfl rfl ?_
          refine h_iast (pc2 := 33) hk dX4_put_32 rfl ha2 rfl (by omega) (by decide) ?_
          refine aw_aload_n (pc2 := 34) hk dX4_put_33 rfl rfl ?_
          refine aw_get (pc2 := 37) hk ckX4 0 dX4_put_34 rfl fl_X4_18 (by decide) (o_X4 ha) rfl ?_
          refine aw_top (nI c) hc ?_
          refine aw_iret hk dX4_put_37 (Nat.le_of_ble_eq_true rfl) (Nat.le_of_ble_eq_true rfl) (by subst hr; exact hq1 (by omega))
  refine aw_iconst (v := 0) (pc2 := 1) hk dX4_put_0 rfl (by decide) ?_
  refine aw_istore_n (pc2 := 2) hk dX4_put_1 rfl (by decide) ?_
  show AW K Q _ _ 2 [_, _, _, _] _ _ _
  exact loop (c + 1) 0 (by omega) (by omega) rfl
set_option maxHeartbeats 800000 in
set_option maxRecDepth 100000 in
theorem t_on {n : Nat} {d : D2} {I : M2} {J : J2} {S : M2} {L : J2} {R : R2} {Q : QT} {a z : Nat} (ha : kd d a = (14, z)) (ha1 : kd d (a + 1) = (1, 20)) (ha2 : kd d (a + 2) = (1, 20)) {c : Nat} (hc : S a 0 = nI c) (hc20 : c ≤ 20) {x : Int32} (hq : Q (some (.int (onS (I (a + 1)) (I (a + 2)) x c).2)) n (H5 d I J S L R)) : Calls yX4_on cX4_on 5 (some .int) rmX4_on [.ref a, .int x] n (H5 d I J S L R) Q := by
  refine Calls.of (by decide) (Nat.le_of_ble_eq_true rfl) ?_
  intro K hk
  show AW K Q 0 0 0 [some (.ref a), some (.int x), none, none, none] [] n (H5 d I J S L R)
  have loop : ∀ (k i : Nat), i ≤ c → c + 1 ≤ i + k → AW K Q 0 0 7 [some (.ref a), some (.int x), some (.int (onS (I (a + 1)) (I (a + 2)) x i).1), some (.int (onS (I (a + 1)) (I (a + 2)) x i).2), some (.int (nI i))] [] n (H5 d I J S L R) := by
    intro k
    induction k with
    | zero => intro i  hi hn; omega
    | succ k ih =>
      intro i  hi hn
      refine aw_iload (pc2 := 9) hk dX4_on_7 rfl rfl ?_
      refine aw_aload_n (pc2 := 10) hk dX4_on_9 rfl rfl ?_
      refine aw_get (pc2 := 13) hk ckX4 0 dX4_on_10 rfl fl_X4_18 (by decide) (o_X4 ha) rfl ?_
      refine aw_icN_ge (x := i) (y := c) (tgt := 67) (pc2 := 16) hk dX4_on_13 (by decide) rfl rfl hc (by omega) (by omega) (fun c13 => ?_) (fun c13 => ?_)
      · obtain rfl : i = c := by omega
        refine aw_iload_n (pc2 := 68) hk dX4_on_67 rfl rfl ?_
        refine aw_iret hk dX4_on_68 (Nat.le_of_ble_eq_true rfl) (Nat.le_of_ble_eq_true rfl) hq
      · refine aw_iload (pc2 := 18) hk dX4_on_16 rfl rfl ?_
        refine aw_bipush (v := 20) (pc2 := 20) hk dX4_on_18 rfl (by decide) ?_
        refine aw_icN_ge (x := i) (y := 20) (tgt := 67) (pc2 := 23) hk dX4_on_20 (by decide) rfl rfl rfl (by omega) (by omega) (fun c20 => absurd c20 (by omega)) (fun c20 => ?_)
        refine aw_aload_n (pc2 := 24) hk dX4_on_23 rfl rfl ?_
        refine aw_get (pc2 := 27) hk ckX4 1 dX4_on_24 rfl fl_X4_9 (by decide) (o_X4 ha) rfl ?_
        refine aw_iload (pc2 := 29) hk dX4_on_27 rfl rfl ?_
        refine h_iald (pc2 := 30) hk dX4_on_29 rfl ha1 rfl (by omega) (by decide) ?_
        refine aw_iload_n (pc2 := 31) hk dX4_on_30 rfl rfl ?_
        refine aw_icmp_gt (tgt := 61) (pc2 := 34) hk dX4_on_31 (by decide) rfl (fun c31 => ?_) (fun c31 => ?_)
        · first
            | (have e9 : onS (I (a + 1)) (I (a + 2)) x (i + 1) = onS (I (a + 1)) (I (a + 2)) x i := by (conv => lhs; unfold onS); rw [if_neg (fun h9 => by have h8 := h9.1; rw [i_le] at h8; rw [i_lt] at c31; omega)]
               rw [← e9])
            | (have e9 : onS (I (a + 1)) (I (a + 2)) x (i + 1) = onS (I (a + 1)) (I (a + 2)) x i := by (conv => lhs; unfold onS); rw [if_neg (fun h9 => by have h8 := h9.2; rw [i_lt] at h8; rw [i_le] at c42; omega)]
               rw [← e9])
            | (have e9 : onS (I (a + 1)) (I (a + 2)) x (i + 1) = (I (a + 1) i, I (a + 2) i) := by (conv => lhs; unfold onS); rw [if_pos ⟨by rw [i_le]; rw [i_lt] at c31; omega, by rw [i_lt]; rw [i_le] at c42; omega⟩]
               rw [show I (a + 1) i = (onS (I (a + 1)) (I (a + 2)) x (i + 1)).1 by rw [e9], show I (a + 2) i = (onS (I (a + 1)) (I (a + 2)) x (i + 1)).2 by rw [e9]])
          refine aw_iinc1 (pc2 := 64) hk dX4_on_61 rfl rfl (by decide) ?_
          show AW K Q _ _ 64 [_, _, _, _, _] _ _ _
          refine aw_goto (tgt := 7) hk dX4_on_64 (by decide) ?_
          exact ih (i + 1) (by omega) (by omega)
        · refine aw_aload_n (pc2 := 35) hk dX4_on_34 rfl rfl ?_
          refine aw_get (pc2 := 38) hk ckX4 1 dX4_on_35 rfl fl_X4_9 (by decide) (o_X4 ha) rfl ?_
          refine aw_iload (pc2 := 40) hk dX4_on_38 rfl rfl ?_
          refine h_iald (pc2 := 41) hk dX4_on_40 rfl ha1 rfl (by omega) (by decide) ?_
          refine aw_iload_n (pc2 := 42) hk dX4_on_41 rfl rfl ?_
          refine aw_icmp_le (tgt := 61) (pc2 := 45) hk dX4_on_42 (by decide) rfl (fun c42 => ?_) (fun c42 => ?_)
          · first
              | (have e9 : onS (I (a + 1)) (I (a + 2)) x (i + 1) = onS (I (a + 1)) (I (a + 2)) x i := by (conv => lhs; unfold onS); rw [if_neg (fun h9 => by have h8 := h9.1; rw [i_le] at h8; rw [i_lt] at c31; omega)]
                 rw [← e9])
              | (have e9 : onS (I (a + 1)) (I (a + 2)) x (i + 1) = onS (I (a + 1)) (I (a + 2)) x i := by (conv => lhs; unfold onS); rw [if_neg (fun h9 => by have h8 := h9.2; rw [i_lt] at h8; rw [i_le] at c42; omega)]
                 rw [← e9])
              | (have e9 : onS (I (a + 1)) (I (a + 2)) x (i + 1) = (I (a + 1) i, I (a + 2) i) := by (conv => lhs; unfold onS); rw [if_pos ⟨by rw [i_le]; rw [i_lt] at c31; omega, by rw [i_lt]; rw [i_le] at c42; omega⟩]
                 rw [show I (a + 1) i = (onS (I (a + 1)) (I (a + 2)) x (i + 1)).1 by rw [e9], show I (a + 2) i = (onS (I (a + 1)) (I (a + 2)) x (i + 1)).2 by rw [e9]])
            refine aw_iinc1 (pc2 := 64) hk dX4_on_61 rfl rfl (by decide) ?_
            show AW K Q _ _ 64 [_, _, _, _, _] _ _ _
            refine aw_goto (tgt := 7) hk dX4_on_64 (by decide) ?_
            exact ih (i + 1) (by omega) (by omega)
          · refine aw_aload_n (pc2 := 46) hk dX4_on_45 rfl rfl ?_
            refine aw_get (pc2 := 49) hk ckX4 1 dX4_on_46 rfl fl_X4_9 (by decide) (o_X4 ha) rfl ?_
            refine aw_iload (pc2 := 51) hk dX4_on_49 rfl rfl ?_
            refine h_iald (pc2 := 52) hk dX4_on_51 rfl ha1 rfl (by omega) (by decide) ?_
            refine aw_istore_n (pc2 := 53) hk dX4_on_52 rfl (by decide) ?_
            show AW K Q _ _ 53 [_, _, _, _, _] _ _ _
            refine aw_aload_n (pc2 := 54) hk dX4_on_53 rfl rfl ?_
            refine aw_get (pc2 := 57) hk ckX4 2 dX4_on_54 rfl fl_X4_15 (by decide) (o_X4 ha) rfl ?_
            refine aw_iload (pc2 := 59) hk dX4_on_57 rfl rfl ?_
            refine h_iald (pc2 := 60) hk dX4_on_59 rfl ha2 rfl (by omega) (by decide) ?_
            refine aw_istore_n (pc2 := 61) hk dX4_on_60 rfl (by decide) ?_
            show AW K Q _ _ 61 [_, _, _, _, _] _ _ _
            first
              | (have e9 : onS (I (a + 1)) (I (a + 2)) x (i + 1) = onS (I (a + 1)) (I (a + 2)) x i := by (conv => lhs; unfold onS); rw [if_neg (fun h9 => by have h8 := h9.1; rw [i_le] at h8; rw [i_lt] at c31; omega)]
                 rw [← e9])
              | (have e9 : onS (I (a + 1)) (I (a + 2)) x (i + 1) = onS (I (a + 1)) (I (a + 2)) x i := by (conv => lhs; unfold onS); rw [if_neg (fun h9 => by have h8 := h9.2; rw [i_lt] at h8; rw [i_le] at c42; omega)]
                 rw [← e9])
              | (have e9 : onS (I (a + 1)) (I (a + 2)) x (i + 1) = (I (a + 1) i, I (a + 2) i) := by (conv => lhs; unfold onS); rw [if_pos ⟨by rw [i_le]; rw [i_lt] at c31; omega, by rw [i_lt]; rw [i_le] at c42; omega⟩]
                 rw [show I (a + 1) i = (onS (I (a + 1)) (I (a + 2)) x (i + 1)).1 by rw [e9], show I (a + 2) i = (onS (I (a + 1)) (I (a + 2)) x (i + 1)).2 by rw [e9]])
            refine aw_iinc1 (pc2 := 64) hk dX4_on_61 rfl rfl (by decide) ?_
            show AW K Q _ _ 64 [_, _, _, _, _] _ _ _
            refine aw_goto (tgt := 7) hk dX4_on_64 (by decide) ?_
            exact ih (i + 1) (by omega) (by omega)
  refine aw_iconst (v := -1) (pc2 := 1) hk dX4_on_0 rfl (by decide) ?_
  refine aw_istore_n (pc2 := 2) hk dX4_on_1 rfl (by decide) ?_
  show AW K Q _ _ 2 [_, _, _, _, _] _ _ _
  refine aw_iconst (v := 0) (pc2 := 3) hk dX4_on_2 rfl (by decide) ?_
  refine aw_istore_n (pc2 := 4) hk dX4_on_3 rfl (by decide) ?_
  show AW K Q _ _ 4 [_, _, _, _, _] _ _ _
  refine aw_iconst (v := 0) (pc2 := 5) hk dX4_on_4 rfl (by decide) ?_
  refine aw_istore (pc2 := 7) hk dX4_on_5 rfl (by decide) ?_
  show AW K Q _ _ 7 [_, _, _, _, _] _ _ _
  exact loop (c + 1) 0 (by omega) (by omega)
