def kM : List (Nat × Nat) := [(1, 256), (1, 256), (2, 256), (2, 256), (1, 256), (1, 12), (1, 12), (1, 48), (1, 48), (1, 4), (1, 80), (1, 80), (1, 5), (1, 60), (1, 60), (1, 60), (2, 60), (1, 720), (1, 720), (1, 720), (1, 720), (1, 720), (3, 720), (3, 720), (3, 720), (3, 720), (3, 720), (3, 720), (3, 720), (1, 720), (3, 2880), (1, 256), (1, 256), (1, 256), (1, 256), (2, 256)]
theorem kM_1 : ∀ j, j < 36 → kd dz (79 + j) = kM.getD j (0, 0) := by decide
theorem kM_2 : ∀ j, j < 36 → ((kM.getD j (0, 0)).1 = 1 ∨ (kM.getD j (0, 0)).1 = 2 ∨ (kM.getD j (0, 0)).1 = 3) := by decide
abbrev aM : Nat → HE := fun q => zc (kM.getD q (0, 0))
def sB : M2 := u2 (u2 sA 78 0 1) 78 1 1
def iB : M2 := u2 (rw5 iA 79 256 (fun b => if b = 79 then -1 else 0)) 91 4 28
theorem iA_z {a : Nat} (h : 79 ≤ a) : iA a = fun _ => 0 := by
  unfold iA
  rw [rw5_ne _ _ _ _ (by omega), u2_row _ _ _ (by omega)]
theorem kd_z {a : Nat} (h : 115 ≤ a) {I : M2} {S : M2} {R : R2} : H5z I S R a = none := by
  unfold H5z H5
  rw [kd_dyn h]
  rfl
set_option maxRecDepth 100000 in
theorem H5_all {h : HP} (hh : h = hset (GH [.ref 1, .ref 7, .ref 13, .int 0, .ref 62, .ref 75, .ref 76, .int 0, .ref 77, .int 0, .int 0] 78 iA sA rA) 78 (.inr (7, zfX7))) : (AL h 78 79 (.inr (7, [.int 1, .int 1, .ref 79, .ref 80, .ref 81, .ref 82, .ref 83, .int 0, .ref 84, .ref 85, .ref 86, .ref 87, .ref 88, .ref 89, .ref 90, .ref 91, .int 0, .int 0, .int 0, .int 0, .int 0, .ref 92, .ref 93, .ref 94, .ref 95, .ref 96, .ref 97, .ref 98, .ref 99, .ref 100, .ref 101, .ref 102, .ref 103, .ref 104, .ref 105, .ref 106, .ref 107, .ref 108, .ref 109, .ref 110, .ref 111, .int 0, .ref 112, .ref 113, .ref 114, .long 0])) aM 36) = H5z iA sB rA := by
  funext i
  unfold AL
  by_cases h78 : i = 78
  · subst h78
    rw [if_pos rfl]
    rfl
  · rw [if_neg h78]
    by_cases h1 : 79 ≤ i ∧ i < 79 + 36
    · rw [if_pos h1]
      have e := H5z_z (S := sB) (R := rA) (I := iA) (kM_1 (i - 79) (by omega)) (kM_2 (i - 79) (by omega)) (iA_z (by omega))
      rw [show 79 + (i - 79) = i by omega] at e
      exact e.symm
    · rw [if_neg h1, hh]
      unfold hset
      rw [if_neg h78]
      unfold GH
      by_cases h0 : i = 0
      · subst h0
        rw [if_pos rfl]
        rfl
      · rw [if_neg h0]
        by_cases hl : i < 78
        · rw [if_pos hl]
          exact (cellK_eq rfl rfl (by unfold sB; rw [u2_row _ _ _ h78, u2_row _ _ _ h78]) rfl rfl).symm
        · rw [if_neg hl, kd_z (by omega)]
set_option maxHeartbeats 3200000 in
set_option maxRecDepth 100000 in
theorem i_X7 {h : HP} {Q : QT} (hh : h = hset (GH [.ref 1, .ref 7, .ref 13, .int 0, .ref 62, .ref 75, .ref 76, .int 0, .ref 77, .int 0, .int 0] 78 iA sA rA) 78 (.inr (7, zfX7))) (hq : Q none 115 (H5z iB (u2 sB 78 7 0) rA)) : Calls yX7_init cX7_init 1 none rmX7_init [.ref 78] 79 h Q := by
  refine Calls.of (by decide) (Nat.le_of_ble_eq_true rfl) ?_
  intro K hk
  show AW K Q 0 0 0 [some (.ref 78)] [] 79 h
  refine aw_hp (AL h 78 79 (.inr (7, [.int 0, .int 0, .null, .null, .null, .null, .null, .int 0, .null, .null, .null, .null, .null, .null, .null, .null, .int 0, .int 0, .int 0, .int 0, .int 0, .null, .null, .null, .null, .null, .null, .null, .null, .null, .null, .null, .null, .null, .null, .null, .null, .null, .null, .null, .null, .int 0, .null, .null, .null, .long 0])) aM 0) (AL_0 79 aM (by rw [hh]; exact if_pos rfl)) ?_
  refine aw_aload_n (pc2 := 1) hk dX7_init_0 rfl rfl ?_
  refine aw_objInit (pc2 := 4) hk dX7_init_1 rfl ml_X7_1 im_obj co_obj (Nat.le_of_ble_eq_true rfl) (Nat.le_of_ble_eq_true rfl) ?_
  refine aw_aload_n (pc2 := 5) hk dX7_init_4 rfl rfl ?_
  refine aw_iconst (v := 1) (pc2 := 6) hk dX7_init_5 rfl (by decide) ?_
  refine aw_put (pc2 := 9) hk ckX7 0 dX7_init_6 rfl fl_X7_7 (by decide) rfl (AL_at _ _ _ _ _ _) (fun _ => rfl) (fun _ => rfl) (Nat.le_of_ble_eq_true rfl) ?_
  refine aw_hp (AL h 78 79 (.inr (7, [.int 1, .int 0, .null, .null, .null, .null, .null, .int 0, .null, .null, .null, .null, .null, .null, .null, .null, .int 0, .int 0, .int 0, .int 0, .int 0, .null, .null, .null, .null, .null, .null, .null, .null, .null, .null, .null, .null, .null, .null, .null, .null, .null, .null, .null, .null, .int 0, .null, .null, .null, .long 0])) aM 0) AL_put ?_
  refine aw_aload_n (pc2 := 10) hk dX7_init_9 rfl rfl ?_
  refine aw_iconst (v := 1) (pc2 := 11) hk dX7_init_10 rfl (by decide) ?_
  refine aw_put (pc2 := 14) hk ckX7 1 dX7_init_11 rfl fl_X7_13 (by decide) rfl (AL_at _ _ _ _ _ _) (fun _ => rfl) (fun _ => rfl) (Nat.le_of_ble_eq_true rfl) ?_
  refine aw_hp (AL h 78 79 (.inr (7, [.int 1, .int 1, .null, .null, .null, .null, .null, .int 0, .null, .null, .null, .null, .null, .null, .null, .null, .int 0, .int 0, .int 0, .int 0, .int 0, .null, .null, .null, .null, .null, .null, .null, .null, .null, .null, .null, .null, .null, .null, .null, .null, .null, .null, .null, .null, .int 0, .null, .null, .null, .long 0])) aM 0) AL_put ?_
  refine aw_aload_n (pc2 := 15) hk dX7_init_14 rfl rfl ?_
  refine aw_sipush (v := nI 256) (pc2 := 18) hk dX7_init_15 rfl (by decide) ?_
  refine aw_newi (pc2 := 20) hk dX7_init_18 rfl ar_int (by decide) (Nat.le_of_ble_eq_true rfl) (Nat.le_of_ble_eq_true rfl) ?_
  refine aw_hp (AL h 78 79 (.inr (7, [.int 1, .int 1, .null, .null, .null, .null, .null, .int 0, .null, .null, .null, .null, .null, .null, .null, .null, .int 0, .int 0, .int 0, .int 0, .int 0, .null, .null, .null, .null, .null, .null, .null, .null, .null, .null, .null, .null, .null, .null, .null, .null, .null, .null, .null, .null, .int 0, .null, .null, .null, .long 0])) aM 1) (AL_new 0 (by decide) rfl) ?_
  refine aw_putF (pc2 := 23) hk ckX7 2 dX7_init_20 rfl fl_X7_16 (by decide) rfl rfl rfl (AL_at _ _ _ _ _ _) (fun _ => rfl) (fun _ => rfl) (Nat.le_of_ble_eq_true rfl) ?_
  refine aw_hp (AL h 78 79 (.inr (7, [.int 1, .int 1, .ref 79, .null, .null, .null, .null, .int 0, .null, .null, .null, .null, .null, .null, .null, .null, .int 0, .int 0, .int 0, .int 0, .int 0, .null, .null, .null, .null, .null, .null, .null, .null, .null, .null, .null, .null, .null, .null, .null, .null, .null, .null, .null, .null, .int 0, .null, .null, .null, .long 0])) aM 1) AL_put ?_
  refine aw_aload_n (pc2 := 24) hk dX7_init_23 rfl rfl ?_
  refine aw_sipush (v := nI 256) (pc2 := 27) hk dX7_init_24 rfl (by decide) ?_
  refine aw_newi (pc2 := 29) hk dX7_init_27 rfl ar_int (by decide) (Nat.le_of_ble_eq_true rfl) (Nat.le_of_ble_eq_true rfl) ?_
  refine aw_hp (AL h 78 79 (.inr (7, [.int 1, .int 1, .ref 79, .null, .null, .null, .null, .int 0, .null, .null, .null, .null, .null, .null, .null, .null, .int 0, .int 0, .int 0, .int 0, .int 0, .null, .null, .null, .null, .null, .null, .null, .null, .null, .null, .null, .null, .null, .null, .null, .null, .null, .null, .null, .null, .int 0, .null, .null, .null, .long 0])) aM 2) (AL_new 1 (by decide) rfl) ?_
  refine aw_putF (pc2 := 32) hk ckX7 3 dX7_init_29 rfl fl_X7_20 (by decide) rfl rfl rfl (AL_at _ _ _ _ _ _) (fun _ => rfl) (fun _ => rfl) (Nat.le_of_ble_eq_true rfl) ?_
  refine aw_hp (AL h 78 79 (.inr (7, [.int 1, .int 1, .ref 79, .ref 80, .null, .null, .null, .int 0, .null, .null, .null, .null, .null, .null, .null, .null, .int 0, .int 0, .int 0, .int 0, .int 0, .null, .null, .null, .null, .null, .null, .null, .null, .null, .null, .null, .null, .null, .null, .null, .null, .null, .null, .null, .null, .int 0, .null, .null, .null, .long 0])) aM 2) AL_put ?_
  refine aw_aload_n (pc2 := 33) hk dX7_init_32 rfl rfl ?_
  refine aw_sipush (v := nI 256) (pc2 := 36) hk dX7_init_33 rfl (by decide) ?_
  refine aw_newz (pc2 := 38) hk dX7_init_36 rfl ar_boolean (by decide) (Nat.le_of_ble_eq_true rfl) (Nat.le_of_ble_eq_true rfl) ?_
  refine aw_hp (AL h 78 79 (.inr (7, [.int 1, .int 1, .ref 79, .ref 80, .null, .null, .null, .int 0, .null, .null, .null, .null, .null, .null, .null, .null, .int 0, .int 0, .int 0, .int 0, .int 0, .null, .null, .null, .null, .null, .null, .null, .null, .null, .null, .null, .null, .null, .null, .null, .null, .null, .null, .null, .null, .int 0, .null, .null, .null, .long 0])) aM 3) (AL_new 2 (by decide) rfl) ?_
  refine aw_putF (pc2 := 41) hk ckX7 4 dX7_init_38 rfl fl_X7_23 (by decide) rfl rfl rfl (AL_at _ _ _ _ _ _) (fun _ => rfl) (fun _ => rfl) (Nat.le_of_ble_eq_true rfl) ?_
  refine aw_hp (AL h 78 79 (.inr (7, [.int 1, .int 1, .ref 79, .ref 80, .ref 81, .null, .null, .int 0, .null, .null, .null, .null, .null, .null, .null, .null, .int 0, .int 0, .int 0, .int 0, .int 0, .null, .null, .null, .null, .null, .null, .null, .null, .null, .null, .null, .null, .null, .null, .null, .null, .null, .null, .null, .null, .int 0, .null, .null, .null, .long 0])) aM 3) AL_put ?_
  refine aw_aload_n (pc2 := 42) hk dX7_init_41 rfl rfl ?_
  refine aw_sipush (v := nI 256) (pc2 := 45) hk dX7_init_42 rfl (by decide) ?_
  refine aw_newz (pc2 := 47) hk dX7_init_45 rfl ar_boolean (by decide) (Nat.le_of_ble_eq_true rfl) (Nat.le_of_ble_eq_true rfl) ?_
  refine aw_hp (AL h 78 79 (.inr (7, [.int 1, .int 1, .ref 79, .ref 80, .ref 81, .null, .null, .int 0, .null, .null, .null, .null, .null, .null, .null, .null, .int 0, .int 0, .int 0, .int 0, .int 0, .null, .null, .null, .null, .null, .null, .null, .null, .null, .null, .null, .null, .null, .null, .null, .null, .null, .null, .null, .null, .int 0, .null, .null, .null, .long 0])) aM 4) (AL_new 3 (by decide) rfl) ?_
  refine aw_putF (pc2 := 50) hk ckX7 5 dX7_init_47 rfl fl_X7_27 (by decide) rfl rfl rfl (AL_at _ _ _ _ _ _) (fun _ => rfl) (fun _ => rfl) (Nat.le_of_ble_eq_true rfl) ?_
  refine aw_hp (AL h 78 79 (.inr (7, [.int 1, .int 1, .ref 79, .ref 80, .ref 81, .ref 82, .null, .int 0, .null, .null, .null, .null, .null, .null, .null, .null, .int 0, .int 0, .int 0, .int 0, .int 0, .null, .null, .null, .null, .null, .null, .null, .null, .null, .null, .null, .null, .null, .null, .null, .null, .null, .null, .null, .null, .int 0, .null, .null, .null, .long 0])) aM 4) AL_put ?_
  refine aw_aload_n (pc2 := 51) hk dX7_init_50 rfl rfl ?_
  refine aw_sipush (v := nI 256) (pc2 := 54) hk dX7_init_51 rfl (by decide) ?_
  refine aw_newi (pc2 := 56) hk dX7_init_54 rfl ar_int (by decide) (Nat.le_of_ble_eq_true rfl) (Nat.le_of_ble_eq_true rfl) ?_
  refine aw_hp (AL h 78 79 (.inr (7, [.int 1, .int 1, .ref 79, .ref 80, .ref 81, .ref 82, .null, .int 0, .null, .null, .null, .null, .null, .null, .null, .null, .int 0, .int 0, .int 0, .int 0, .int 0, .null, .null, .null, .null, .null, .null, .null, .null, .null, .null, .null, .null, .null, .null, .null, .null, .null, .null, .null, .null, .int 0, .null, .null, .null, .long 0])) aM 5) (AL_new 4 (by decide) rfl) ?_
  refine aw_putF (pc2 := 59) hk ckX7 6 dX7_init_56 rfl fl_X7_30 (by decide) rfl rfl rfl (AL_at _ _ _ _ _ _) (fun _ => rfl) (fun _ => rfl) (Nat.le_of_ble_eq_true rfl) ?_
  refine aw_hp (AL h 78 79 (.inr (7, [.int 1, .int 1, .ref 79, .ref 80, .ref 81, .ref 82, .ref 83, .int 0, .null, .null, .null, .null, .null, .null, .null, .null, .int 0, .int 0, .int 0, .int 0, .int 0, .null, .null, .null, .null, .null, .null, .null, .null, .null, .null, .null, .null, .null, .null, .null, .null, .null, .null, .null, .null, .int 0, .null, .null, .null, .long 0])) aM 5) AL_put ?_
  refine aw_aload_n (pc2 := 60) hk dX7_init_59 rfl rfl ?_
  refine aw_bipush (v := nI 12) (pc2 := 62) hk dX7_init_60 rfl (by decide) ?_
  refine aw_newi (pc2 := 64) hk dX7_init_62 rfl ar_int (by decide) (Nat.le_of_ble_eq_true rfl) (Nat.le_of_ble_eq_true rfl) ?_
  refine aw_hp (AL h 78 79 (.inr (7, [.int 1, .int 1, .ref 79, .ref 80, .ref 81, .ref 82, .ref 83, .int 0, .null, .null, .null, .null, .null, .null, .null, .null, .int 0, .int 0, .int 0, .int 0, .int 0, .null, .null, .null, .null, .null, .null, .null, .null, .null, .null, .null, .null, .null, .null, .null, .null, .null, .null, .null, .null, .int 0, .null, .null, .null, .long 0])) aM 6) (AL_new 5 (by decide) rfl) ?_
  refine aw_putF (pc2 := 67) hk ckX7 8 dX7_init_64 rfl fl_X7_33 (by decide) rfl rfl rfl (AL_at _ _ _ _ _ _) (fun _ => rfl) (fun _ => rfl) (Nat.le_of_ble_eq_true rfl) ?_
  refine aw_hp (AL h 78 79 (.inr (7, [.int 1, .int 1, .ref 79, .ref 80, .ref 81, .ref 82, .ref 83, .int 0, .ref 84, .null, .null, .null, .null, .null, .null, .null, .int 0, .int 0, .int 0, .int 0, .int 0, .null, .null, .null, .null, .null, .null, .null, .null, .null, .null, .null, .null, .null, .null, .null, .null, .null, .null, .null, .null, .int 0, .null, .null, .null, .long 0])) aM 6) AL_put ?_
  refine aw_aload_n (pc2 := 68) hk dX7_init_67 rfl rfl ?_
  refine aw_bipush (v := nI 12) (pc2 := 70) hk dX7_init_68 rfl (by decide) ?_
  refine aw_newi (pc2 := 72) hk dX7_init_70 rfl ar_int (by decide) (Nat.le_of_ble_eq_true rfl) (Nat.le_of_ble_eq_true rfl) ?_
  refine aw_hp (AL h 78 79 (.inr (7, [.int 1, .int 1, .ref 79, .ref 80, .ref 81, .ref 82, .ref 83, .int 0, .ref 84, .null, .null, .null, .null, .null, .null, .null, .int 0, .int 0, .int 0, .int 0, .int 0, .null, .null, .null, .null, .null, .null, .null, .null, .null, .null, .null, .null, .null, .null, .null, .null, .null, .null, .null, .null, .int 0, .null, .null, .null, .long 0])) aM 7) (AL_new 6 (by decide) rfl) ?_
  refine aw_putF (pc2 := 75) hk ckX7 9 dX7_init_72 rfl fl_X7_36 (by decide) rfl rfl rfl (AL_at _ _ _ _ _ _) (fun _ => rfl) (fun _ => rfl) (Nat.le_of_ble_eq_true rfl) ?_
  refine aw_hp (AL h 78 79 (.inr (7, [.int 1, .int 1, .ref 79, .ref 80, .ref 81, .ref 82, .ref 83, .int 0, .ref 84, .ref 85, .null, .null, .null, .null, .null, .null, .int 0, .int 0, .int 0, .int 0, .int 0, .null, .null, .null, .null, .null, .null, .null, .null, .null, .null, .null, .null, .null, .null, .null, .null, .null, .null, .null, .null, .int 0, .null, .null, .null, .long 0])) aM 7) AL_put ?_
  refine aw_aload_n (pc2 := 76) hk dX7_init_75 rfl rfl ?_
  refine aw_bipush (v := nI 48) (pc2 := 78) hk dX7_init_76 rfl (by decide) ?_
  refine aw_newi (pc2 := 80) hk dX7_init_78 rfl ar_int (by decide) (Nat.le_of_ble_eq_true rfl) (Nat.le_of_ble_eq_true rfl) ?_
  refine aw_hp (AL h 78 79 (.inr (7, [.int 1, .int 1, .ref 79, .ref 80, .ref 81, .ref 82, .ref 83, .int 0, .ref 84, .ref 85, .null, .null, .null, .null, .null, .null, .int 0, .int 0, .int 0, .int 0, .int 0, .null, .null, .null, .null, .null, .null, .null, .null, .null, .null, .null, .null, .null, .null, .null, .null, .null, .null, .null, .null, .int 0, .null, .null, .null, .long 0])) aM 8) (AL_new 7 (by decide) rfl) ?_
  refine aw_putF (pc2 := 83) hk ckX7 10 dX7_init_80 rfl fl_X7_39 (by decide) rfl rfl rfl (AL_at _ _ _ _ _ _) (fun _ => rfl) (fun _ => rfl) (Nat.le_of_ble_eq_true rfl) ?_
  refine aw_hp (AL h 78 79 (.inr (7, [.int 1, .int 1, .ref 79, .ref 80, .ref 81, .ref 82, .ref 83, .int 0, .ref 84, .ref 85, .ref 86, .null, .null, .null, .null, .null, .int 0, .int 0, .int 0, .int 0, .int 0, .null, .null, .null, .null, .null, .null, .null, .null, .null, .null, .null, .null, .null, .null, .null, .null, .null, .null, .null, .null, .int 0, .null, .null, .null, .long 0])) aM 8) AL_put ?_
  refine aw_aload_n (pc2 := 84) hk dX7_init_83 rfl rfl ?_
  refine aw_bipush (v := nI 48) (pc2 := 86) hk dX7_init_84 rfl (by decide) ?_
  refine aw_newi (pc2 := 88) hk dX7_init_86 rfl ar_int (by decide) (Nat.le_of_ble_eq_true rfl) (Nat.le_of_ble_eq_true rfl) ?_
  refine aw_hp (AL h 78 79 (.inr (7, [.int 1, .int 1, .ref 79, .ref 80, .ref 81, .ref 82, .ref 83, .int 0, .ref 84, .ref 85, .ref 86, .null, .null, .null, .null, .null, .int 0, .int 0, .int 0, .int 0, .int 0, .null, .null, .null, .null, .null, .null, .null, .null, .null, .null, .null, .null, .null, .null, .null, .null, .null, .null, .null, .null, .int 0, .null, .null, .null, .long 0])) aM 9) (AL_new 8 (by decide) rfl) ?_
  refine aw_putF (pc2 := 91) hk ckX7 11 dX7_init_88 rfl fl_X7_42 (by decide) rfl rfl rfl (AL_at _ _ _ _ _ _) (fun _ => rfl) (fun _ => rfl) (Nat.le_of_ble_eq_true rfl) ?_
  refine aw_hp (AL h 78 79 (.inr (7, [.int 1, .int 1, .ref 79, .ref 80, .ref 81, .ref 82, .ref 83, .int 0, .ref 84, .ref 85, .ref 86, .ref 87, .null, .null, .null, .null, .int 0, .int 0, .int 0, .int 0, .int 0, .null, .null, .null, .null, .null, .null, .null, .null, .null, .null, .null, .null, .null, .null, .null, .null, .null, .null, .null, .null, .int 0, .null, .null, .null, .long 0])) aM 9) AL_put ?_
  refine aw_aload_n (pc2 := 92) hk dX7_init_91 rfl rfl ?_
  refine aw_iconst (v := nI 4) (pc2 := 93) hk dX7_init_92 rfl (by decide) ?_
  refine aw_newi (pc2 := 95) hk dX7_init_93 rfl ar_int (by decide) (Nat.le_of_ble_eq_true rfl) (Nat.le_of_ble_eq_true rfl) ?_
  refine aw_hp (AL h 78 79 (.inr (7, [.int 1, .int 1, .ref 79, .ref 80, .ref 81, .ref 82, .ref 83, .int 0, .ref 84, .ref 85, .ref 86, .ref 87, .null, .null, .null, .null, .int 0, .int 0, .int 0, .int 0, .int 0, .null, .null, .null, .null, .null, .null, .null, .null, .null, .null, .null, .null, .null, .null, .null, .null, .null, .null, .null, .null, .int 0, .null, .null, .null, .long 0])) aM 10) (AL_new 9 (by decide) rfl) ?_
  refine aw_putF (pc2 := 98) hk ckX7 12 dX7_init_95 rfl fl_X7_45 (by decide) rfl rfl rfl (AL_at _ _ _ _ _ _) (fun _ => rfl) (fun _ => rfl) (Nat.le_of_ble_eq_true rfl) ?_
  refine aw_hp (AL h 78 79 (.inr (7, [.int 1, .int 1, .ref 79, .ref 80, .ref 81, .ref 82, .ref 83, .int 0, .ref 84, .ref 85, .ref 86, .ref 87, .ref 88, .null, .null, .null, .int 0, .int 0, .int 0, .int 0, .int 0, .null, .null, .null, .null, .null, .null, .null, .null, .null, .null, .null, .null, .null, .null, .null, .null, .null, .null, .null, .null, .int 0, .null, .null, .null, .long 0])) aM 10) AL_put ?_
  refine aw_aload_n (pc2 := 99) hk dX7_init_98 rfl rfl ?_
  refine aw_bipush (v := nI 80) (pc2 := 101) hk dX7_init_99 rfl (by decide) ?_
  refine aw_newi (pc2 := 103) hk dX7_init_101 rfl ar_int (by decide) (Nat.le_of_ble_eq_true rfl) (Nat.le_of_ble_eq_true rfl) ?_
  refine aw_hp (AL h 78 79 (.inr (7, [.int 1, .int 1, .ref 79, .ref 80, .ref 81, .ref 82, .ref 83, .int 0, .ref 84, .ref 85, .ref 86, .ref 87, .ref 88, .null, .null, .null, .int 0, .int 0, .int 0, .int 0, .int 0, .null, .null, .null, .null, .null, .null, .null, .null, .null, .null, .null, .null, .null, .null, .null, .null, .null, .null, .null, .null, .int 0, .null, .null, .null, .long 0])) aM 11) (AL_new 10 (by decide) rfl) ?_
  refine aw_putF (pc2 := 106) hk ckX7 13 dX7_init_103 rfl fl_X7_48 (by decide) rfl rfl rfl (AL_at _ _ _ _ _ _) (fun _ => rfl) (fun _ => rfl) (Nat.le_of_ble_eq_true rfl) ?_
  refine aw_hp (AL h 78 79 (.inr (7, [.int 1, .int 1, .ref 79, .ref 80, .ref 81, .ref 82, .ref 83, .int 0, .ref 84, .ref 85, .ref 86, .ref 87, .ref 88, .ref 89, .null, .null, .int 0, .int 0, .int 0, .int 0, .int 0, .null, .null, .null, .null, .null, .null, .null, .null, .null, .null, .null, .null, .null, .null, .null, .null, .null, .null, .null, .null, .int 0, .null, .null, .null, .long 0])) aM 11) AL_put ?_
  refine aw_aload_n (pc2 := 107) hk dX7_init_106 rfl rfl ?_
  refine aw_bipush (v := nI 80) (pc2 := 109) hk dX7_init_107 rfl (by decide) ?_
  refine aw_newi (pc2 := 111) hk dX7_init_109 rfl ar_int (by decide) (Nat.le_of_ble_eq_true rfl) (Nat.le_of_ble_eq_true rfl) ?_
  refine aw_hp (AL h 78 79 (.inr (7, [.int 1, .int 1, .ref 79, .ref 80, .ref 81, .ref 82, .ref 83, .int 0, .ref 84, .ref 85, .ref 86, .ref 87, .ref 88, .ref 89, .null, .null, .int 0, .int 0, .int 0, .int 0, .int 0, .null, .null, .null, .null, .null, .null, .null, .null, .null, .null, .null, .null, .null, .null, .null, .null, .null, .null, .null, .null, .int 0, .null, .null, .null, .long 0])) aM 12) (AL_new 11 (by decide) rfl) ?_
  refine aw_putF (pc2 := 114) hk ckX7 14 dX7_init_111 rfl fl_X7_51 (by decide) rfl rfl rfl (AL_at _ _ _ _ _ _) (fun _ => rfl) (fun _ => rfl) (Nat.le_of_ble_eq_true rfl) ?_
  refine aw_hp (AL h 78 79 (.inr (7, [.int 1, .int 1, .ref 79, .ref 80, .ref 81, .ref 82, .ref 83, .int 0, .ref 84, .ref 85, .ref 86, .ref 87, .ref 88, .ref 89, .ref 90, .null, .int 0, .int 0, .int 0, .int 0, .int 0, .null, .null, .null, .null, .null, .null, .null, .null, .null, .null, .null, .null, .null, .null, .null, .null, .null, .null, .null, .null, .int 0, .null, .null, .null, .long 0])) aM 12) AL_put ?_
  refine aw_aload_n (pc2 := 115) hk dX7_init_114 rfl rfl ?_
  refine aw_iconst (v := nI 5) (pc2 := 116) hk dX7_init_115 rfl (by decide) ?_
  refine aw_newi (pc2 := 118) hk dX7_init_116 rfl ar_int (by decide) (Nat.le_of_ble_eq_true rfl) (Nat.le_of_ble_eq_true rfl) ?_
  refine aw_hp (AL h 78 79 (.inr (7, [.int 1, .int 1, .ref 79, .ref 80, .ref 81, .ref 82, .ref 83, .int 0, .ref 84, .ref 85, .ref 86, .ref 87, .ref 88, .ref 89, .ref 90, .null, .int 0, .int 0, .int 0, .int 0, .int 0, .null, .null, .null, .null, .null, .null, .null, .null, .null, .null, .null, .null, .null, .null, .null, .null, .null, .null, .null, .null, .int 0, .null, .null, .null, .long 0])) aM 13) (AL_new 12 (by decide) rfl) ?_
  refine aw_putF (pc2 := 121) hk ckX7 15 dX7_init_118 rfl fl_X7_54 (by decide) rfl rfl rfl (AL_at _ _ _ _ _ _) (fun _ => rfl) (fun _ => rfl) (Nat.le_of_ble_eq_true rfl) ?_
  refine aw_hp (AL h 78 79 (.inr (7, [.int 1, .int 1, .ref 79, .ref 80, .ref 81, .ref 82, .ref 83, .int 0, .ref 84, .ref 85, .ref 86, .ref 87, .ref 88, .ref 89, .ref 90, .ref 91, .int 0, .int 0, .int 0, .int 0, .int 0, .null, .null, .null, .null, .null, .null, .null, .null, .null, .null, .null, .null, .null, .null, .null, .null, .null, .null, .null, .null, .int 0, .null, .null, .null, .long 0])) aM 13) AL_put ?_
  refine aw_aload_n (pc2 := 122) hk dX7_init_121 rfl rfl ?_
  refine aw_bipush (v := nI 60) (pc2 := 124) hk dX7_init_122 rfl (by decide) ?_
  refine aw_newi (pc2 := 126) hk dX7_init_124 rfl ar_int (by decide) (Nat.le_of_ble_eq_true rfl) (Nat.le_of_ble_eq_true rfl) ?_
  refine aw_hp (AL h 78 79 (.inr (7, [.int 1, .int 1, .ref 79, .ref 80, .ref 81, .ref 82, .ref 83, .int 0, .ref 84, .ref 85, .ref 86, .ref 87, .ref 88, .ref 89, .ref 90, .ref 91, .int 0, .int 0, .int 0, .int 0, .int 0, .null, .null, .null, .null, .null, .null, .null, .null, .null, .null, .null, .null, .null, .null, .null, .null, .null, .null, .null, .null, .int 0, .null, .null, .null, .long 0])) aM 14) (AL_new 13 (by decide) rfl) ?_
  refine aw_putF (pc2 := 129) hk ckX7 21 dX7_init_126 rfl fl_X7_57 (by decide) rfl rfl rfl (AL_at _ _ _ _ _ _) (fun _ => rfl) (fun _ => rfl) (Nat.le_of_ble_eq_true rfl) ?_
  refine aw_hp (AL h 78 79 (.inr (7, [.int 1, .int 1, .ref 79, .ref 80, .ref 81, .ref 82, .ref 83, .int 0, .ref 84, .ref 85, .ref 86, .ref 87, .ref 88, .ref 89, .ref 90, .ref 91, .int 0, .int 0, .int 0, .int 0, .int 0, .ref 92, .null, .null, .null, .null, .null, .null, .null, .null, .null, .null, .null, .null, .null, .null, .null, .null, .null, .null, .null, .int 0, .null, .null, .null, .long 0])) aM 14) AL_put ?_
  refine aw_aload_n (pc2 := 130) hk dX7_init_129 rfl rfl ?_
  refine aw_bipush (v := nI 60) (pc2 := 132) hk dX7_init_130 rfl (by decide) ?_
  refine aw_newi (pc2 := 134) hk dX7_init_132 rfl ar_int (by decide) (Nat.le_of_ble_eq_true rfl) (Nat.le_of_ble_eq_true rfl) ?_
  refine aw_hp (AL h 78 79 (.inr (7, [.int 1, .int 1, .ref 79, .ref 80, .ref 81, .ref 82, .ref 83, .int 0, .ref 84, .ref 85, .ref 86, .ref 87, .ref 88, .ref 89, .ref 90, .ref 91, .int 0, .int 0, .int 0, .int 0, .int 0, .ref 92, .null, .null, .null, .null, .null, .null, .null, .null, .null, .null, .null, .null, .null, .null, .null, .null, .null, .null, .null, .int 0, .null, .null, .null, .long 0])) aM 15) (AL_new 14 (by decide) rfl) ?_
  refine aw_putF (pc2 := 137) hk ckX7 22 dX7_init_134 rfl fl_X7_60 (by decide) rfl rfl rfl (AL_at _ _ _ _ _ _) (fun _ => rfl) (fun _ => rfl) (Nat.le_of_ble_eq_true rfl) ?_
  refine aw_hp (AL h 78 79 (.inr (7, [.int 1, .int 1, .ref 79, .ref 80, .ref 81, .ref 82, .ref 83, .int 0, .ref 84, .ref 85, .ref 86, .ref 87, .ref 88, .ref 89, .ref 90, .ref 91, .int 0, .int 0, .int 0, .int 0, .int 0, .ref 92, .ref 93, .null, .null, .null, .null, .null, .null, .null, .null, .null, .null, .null, .null, .null, .null, .null, .null, .null, .null, .int 0, .null, .null, .null, .long 0])) aM 15) AL_put ?_
  refine aw_aload_n (pc2 := 138) hk dX7_init_137 rfl rfl ?_
  refine aw_bipush (v := nI 60) (pc2 := 140) hk dX7_init_138 rfl (by decide) ?_
  refine aw_newi (pc2 := 142) hk dX7_init_140 rfl ar_int (by decide) (Nat.le_of_ble_eq_true rfl) (Nat.le_of_ble_eq_true rfl) ?_
  refine aw_hp (AL h 78 79 (.inr (7, [.int 1, .int 1, .ref 79, .ref 80, .ref 81, .ref 82, .ref 83, .int 0, .ref 84, .ref 85, .ref 86, .ref 87, .ref 88, .ref 89, .ref 90, .ref 91, .int 0, .int 0, .int 0, .int 0, .int 0, .ref 92, .ref 93, .null, .null, .null, .null, .null, .null, .null, .null, .null, .null, .null, .null, .null, .null, .null, .null, .null, .null, .int 0, .null, .null, .null, .long 0])) aM 16) (AL_new 15 (by decide) rfl) ?_
  refine aw_putF (pc2 := 145) hk ckX7 23 dX7_init_142 rfl fl_X7_63 (by decide) rfl rfl rfl (AL_at _ _ _ _ _ _) (fun _ => rfl) (fun _ => rfl) (Nat.le_of_ble_eq_true rfl) ?_
  refine aw_hp (AL h 78 79 (.inr (7, [.int 1, .int 1, .ref 79, .ref 80, .ref 81, .ref 82, .ref 83, .int 0, .ref 84, .ref 85, .ref 86, .ref 87, .ref 88, .ref 89, .ref 90, .ref 91, .int 0, .int 0, .int 0, .int 0, .int 0, .ref 92, .ref 93, .ref 94, .null, .null, .null, .null, .null, .null, .null, .null, .null, .null, .null, .null, .null, .null, .null, .null, .null, .int 0, .null, .null, .null, .long 0])) aM 16) AL_put ?_
  refine aw_aload_n (pc2 := 146) hk dX7_init_145 rfl rfl ?_
  refine aw_bipush (v := nI 60) (pc2 := 148) hk dX7_init_146 rfl (by decide) ?_
  refine aw_newz (pc2 := 150) hk dX7_init_148 rfl ar_boolean (by decide) (Nat.le_of_ble_eq_true rfl) (Nat.le_of_ble_eq_true rfl) ?_
  refine aw_hp (AL h 78 79 (.inr (7, [.int 1, .int 1, .ref 79, .ref 80, .ref 81, .ref 82, .ref 83, .int 0, .ref 84, .ref 85, .ref 86, .ref 87, .ref 88, .ref 89, .ref 90, .ref 91, .int 0, .int 0, .int 0, .int 0, .int 0, .ref 92, .ref 93, .ref 94, .null, .null, .null, .null, .null, .null, .null, .null, .null, .null, .null, .null, .null, .null, .null, .null, .null, .int 0, .null, .null, .null, .long 0])) aM 17) (AL_new 16 (by decide) rfl) ?_
  refine aw_putF (pc2 := 153) hk ckX7 24 dX7_init_150 rfl fl_X7_66 (by decide) rfl rfl rfl (AL_at _ _ _ _ _ _) (fun _ => rfl) (fun _ => rfl) (Nat.le_of_ble_eq_true rfl) ?_
  refine aw_hp (AL h 78 79 (.inr (7, [.int 1, .int 1, .ref 79, .ref 80, .ref 81, .ref 82, .ref 83, .int 0, .ref 84, .ref 85, .ref 86, .ref 87, .ref 88, .ref 89, .ref 90, .ref 91, .int 0, .int 0, .int 0, .int 0, .int 0, .ref 92, .ref 93, .ref 94, .ref 95, .null, .null, .null, .null, .null, .null, .null, .null, .null, .null, .null, .null, .null, .null, .null, .null, .int 0, .null, .null, .null, .long 0])) aM 17) AL_put ?_
  refine aw_aload_n (pc2 := 154) hk dX7_init_153 rfl rfl ?_
  refine aw_sipush (v := nI 720) (pc2 := 157) hk dX7_init_154 rfl (by decide) ?_
  refine aw_newi (pc2 := 159) hk dX7_init_157 rfl ar_int (by decide) (Nat.le_of_ble_eq_true rfl) (Nat.le_of_ble_eq_true rfl) ?_
  refine aw_hp (AL h 78 79 (.inr (7, [.int 1, .int 1, .ref 79, .ref 80, .ref 81, .ref 82, .ref 83, .int 0, .ref 84, .ref 85, .ref 86, .ref 87, .ref 88, .ref 89, .ref 90, .ref 91, .int 0, .int 0, .int 0, .int 0, .int 0, .ref 92, .ref 93, .ref 94, .ref 95, .null, .null, .null, .null, .null, .null, .null, .null, .null, .null, .null, .null, .null, .null, .null, .null, .int 0, .null, .null, .null, .long 0])) aM 18) (AL_new 17 (by decide) rfl) ?_
  refine aw_putF (pc2 := 162) hk ckX7 25 dX7_init_159 rfl fl_X7_69 (by decide) rfl rfl rfl (AL_at _ _ _ _ _ _) (fun _ => rfl) (fun _ => rfl) (Nat.le_of_ble_eq_true rfl) ?_
  refine aw_hp (AL h 78 79 (.inr (7, [.int 1, .int 1, .ref 79, .ref 80, .ref 81, .ref 82, .ref 83, .int 0, .ref 84, .ref 85, .ref 86, .ref 87, .ref 88, .ref 89, .ref 90, .ref 91, .int 0, .int 0, .int 0, .int 0, .int 0, .ref 92, .ref 93, .ref 94, .ref 95, .ref 96, .null, .null, .null, .null, .null, .null, .null, .null, .null, .null, .null, .null, .null, .null, .null, .int 0, .null, .null, .null, .long 0])) aM 18) AL_put ?_
  refine aw_aload_n (pc2 := 163) hk dX7_init_162 rfl rfl ?_
  refine aw_sipush (v := nI 720) (pc2 := 166) hk dX7_init_163 rfl (by decide) ?_
  refine aw_newi (pc2 := 168) hk dX7_init_166 rfl ar_int (by decide) (Nat.le_of_ble_eq_true rfl) (Nat.le_of_ble_eq_true rfl) ?_
  refine aw_hp (AL h 78 79 (.inr (7, [.int 1, .int 1, .ref 79, .ref 80, .ref 81, .ref 82, .ref 83, .int 0, .ref 84, .ref 85, .ref 86, .ref 87, .ref 88, .ref 89, .ref 90, .ref 91, .int 0, .int 0, .int 0, .int 0, .int 0, .ref 92, .ref 93, .ref 94, .ref 95, .ref 96, .null, .null, .null, .null, .null, .null, .null, .null, .null, .null, .null, .null, .null, .null, .null, .int 0, .null, .null, .null, .long 0])) aM 19) (AL_new 18 (by decide) rfl) ?_
  refine aw_putF (pc2 := 171) hk ckX7 26 dX7_init_168 rfl fl_X7_72 (by decide) rfl rfl rfl (AL_at _ _ _ _ _ _) (fun _ => rfl) (fun _ => rfl) (Nat.le_of_ble_eq_true rfl) ?_
  refine aw_hp (AL h 78 79 (.inr (7, [.int 1, .int 1, .ref 79, .ref 80, .ref 81, .ref 82, .ref 83, .int 0, .ref 84, .ref 85, .ref 86, .ref 87, .ref 88, .ref 89, .ref 90, .ref 91, .int 0, .int 0, .int 0, .int 0, .int 0, .ref 92, .ref 93, .ref 94, .ref 95, .ref 96, .ref 97, .null, .null, .null, .null, .null, .null, .null, .null, .null, .null, .null, .null, .null, .null, .int 0, .null, .null, .null, .long 0])) aM 19) AL_put ?_
  refine aw_aload_n (pc2 := 172) hk dX7_init_171 rfl rfl ?_
  refine aw_sipush (v := nI 720) (pc2 := 175) hk dX7_init_172 rfl (by decide) ?_
  refine aw_newi (pc2 := 177) hk dX7_init_175 rfl ar_int (by decide) (Nat.le_of_ble_eq_true rfl) (Nat.le_of_ble_eq_true rfl) ?_
  refine aw_hp (AL h 78 79 (.inr (7, [.int 1, .int 1, .ref 79, .ref 80, .ref 81, .ref 82, .ref 83, .int 0, .ref 84, .ref 85, .ref 86, .ref 87, .ref 88, .ref 89, .ref 90, .ref 91, .int 0, .int 0, .int 0, .int 0, .int 0, .ref 92, .ref 93, .ref 94, .ref 95, .ref 96, .ref 97, .null, .null, .null, .null, .null, .null, .null, .null, .null, .null, .null, .null, .null, .null, .int 0, .null, .null, .null, .long 0])) aM 20) (AL_new 19 (by decide) rfl) ?_
  refine aw_putF (pc2 := 180) hk ckX7 27 dX7_init_177 rfl fl_X7_75 (by decide) rfl rfl rfl (AL_at _ _ _ _ _ _) (fun _ => rfl) (fun _ => rfl) (Nat.le_of_ble_eq_true rfl) ?_
  refine aw_hp (AL h 78 79 (.inr (7, [.int 1, .int 1, .ref 79, .ref 80, .ref 81, .ref 82, .ref 83, .int 0, .ref 84, .ref 85, .ref 86, .ref 87, .ref 88, .ref 89, .ref 90, .ref 91, .int 0, .int 0, .int 0, .int 0, .int 0, .ref 92, .ref 93, .ref 94, .ref 95, .ref 96, .ref 97, .ref 98, .null, .null, .null, .null, .null, .null, .null, .null, .null, .null, .null, .null, .null, .int 0, .null, .null, .null, .long 0])) aM 20) AL_put ?_
  refine aw_aload_n (pc2 := 181) hk dX7_init_180 rfl rfl ?_
  refine aw_sipush (v := nI 720) (pc2 := 184) hk dX7_init_181 rfl (by decide) ?_
  refine aw_newi (pc2 := 186) hk dX7_init_184 rfl ar_int (by decide) (Nat.le_of_ble_eq_true rfl) (Nat.le_of_ble_eq_true rfl) ?_
  refine aw_hp (AL h 78 79 (.inr (7, [.int 1, .int 1, .ref 79, .ref 80, .ref 81, .ref 82, .ref 83, .int 0, .ref 84, .ref 85, .ref 86, .ref 87, .ref 88, .ref 89, .ref 90, .ref 91, .int 0, .int 0, .int 0, .int 0, .int 0, .ref 92, .ref 93, .ref 94, .ref 95, .ref 96, .ref 97, .ref 98, .null, .null, .null, .null, .null, .null, .null, .null, .null, .null, .null, .null, .null, .int 0, .null, .null, .null, .long 0])) aM 21) (AL_new 20 (by decide) rfl) ?_
  refine aw_putF (pc2 := 189) hk ckX7 28 dX7_init_186 rfl fl_X7_78 (by decide) rfl rfl rfl (AL_at _ _ _ _ _ _) (fun _ => rfl) (fun _ => rfl) (Nat.le_of_ble_eq_true rfl) ?_
  refine aw_hp (AL h 78 79 (.inr (7, [.int 1, .int 1, .ref 79, .ref 80, .ref 81, .ref 82, .ref 83, .int 0, .ref 84, .ref 85, .ref 86, .ref 87, .ref 88, .ref 89, .ref 90, .ref 91, .int 0, .int 0, .int 0, .int 0, .int 0, .ref 92, .ref 93, .ref 94, .ref 95, .ref 96, .ref 97, .ref 98, .ref 99, .null, .null, .null, .null, .null, .null, .null, .null, .null, .null, .null, .null, .int 0, .null, .null, .null, .long 0])) aM 21) AL_put ?_
  refine aw_aload_n (pc2 := 190) hk dX7_init_189 rfl rfl ?_
  refine aw_sipush (v := nI 720) (pc2 := 193) hk dX7_init_190 rfl (by decide) ?_
  refine aw_newi (pc2 := 195) hk dX7_init_193 rfl ar_int (by decide) (Nat.le_of_ble_eq_true rfl) (Nat.le_of_ble_eq_true rfl) ?_
  refine aw_hp (AL h 78 79 (.inr (7, [.int 1, .int 1, .ref 79, .ref 80, .ref 81, .ref 82, .ref 83, .int 0, .ref 84, .ref 85, .ref 86, .ref 87, .ref 88, .ref 89, .ref 90, .ref 91, .int 0, .int 0, .int 0, .int 0, .int 0, .ref 92, .ref 93, .ref 94, .ref 95, .ref 96, .ref 97, .ref 98, .ref 99, .null, .null, .null, .null, .null, .null, .null, .null, .null, .null, .null, .null, .int 0, .null, .null, .null, .long 0])) aM 22) (AL_new 21 (by decide) rfl) ?_
  refine aw_putF (pc2 := 198) hk ckX7 29 dX7_init_195 rfl fl_X7_81 (by decide) rfl rfl rfl (AL_at _ _ _ _ _ _) (fun _ => rfl) (fun _ => rfl) (Nat.le_of_ble_eq_true rfl) ?_
  refine aw_hp (AL h 78 79 (.inr (7, [.int 1, .int 1, .ref 79, .ref 80, .ref 81, .ref 82, .ref 83, .int 0, .ref 84, .ref 85, .ref 86, .ref 87, .ref 88, .ref 89, .ref 90, .ref 91, .int 0, .int 0, .int 0, .int 0, .int 0, .ref 92, .ref 93, .ref 94, .ref 95, .ref 96, .ref 97, .ref 98, .ref 99, .ref 100, .null, .null, .null, .null, .null, .null, .null, .null, .null, .null, .null, .int 0, .null, .null, .null, .long 0])) aM 22) AL_put ?_
  refine aw_aload_n (pc2 := 199) hk dX7_init_198 rfl rfl ?_
  refine aw_sipush (v := nI 720) (pc2 := 202) hk dX7_init_199 rfl (by decide) ?_
  refine aw_newl (pc2 := 204) hk dX7_init_202 rfl ar_long (by decide) (Nat.le_of_ble_eq_true rfl) (Nat.le_of_ble_eq_true rfl) ?_
  refine aw_hp (AL h 78 79 (.inr (7, [.int 1, .int 1, .ref 79, .ref 80, .ref 81, .ref 82, .ref 83, .int 0, .ref 84, .ref 85, .ref 86, .ref 87, .ref 88, .ref 89, .ref 90, .ref 91, .int 0, .int 0, .int 0, .int 0, .int 0, .ref 92, .ref 93, .ref 94, .ref 95, .ref 96, .ref 97, .ref 98, .ref 99, .ref 100, .null, .null, .null, .null, .null, .null, .null, .null, .null, .null, .null, .int 0, .null, .null, .null, .long 0])) aM 23) (AL_new 22 (by decide) rfl) ?_
  refine aw_putF (pc2 := 207) hk ckX7 30 dX7_init_204 rfl fl_X7_84 (by decide) rfl rfl rfl (AL_at _ _ _ _ _ _) (fun _ => rfl) (fun _ => rfl) (Nat.le_of_ble_eq_true rfl) ?_
  refine aw_hp (AL h 78 79 (.inr (7, [.int 1, .int 1, .ref 79, .ref 80, .ref 81, .ref 82, .ref 83, .int 0, .ref 84, .ref 85, .ref 86, .ref 87, .ref 88, .ref 89, .ref 90, .ref 91, .int 0, .int 0, .int 0, .int 0, .int 0, .ref 92, .ref 93, .ref 94, .ref 95, .ref 96, .ref 97, .ref 98, .ref 99, .ref 100, .ref 101, .null, .null, .null, .null, .null, .null, .null, .null, .null, .null, .int 0, .null, .null, .null, .long 0])) aM 23) AL_put ?_
  refine aw_aload_n (pc2 := 208) hk dX7_init_207 rfl rfl ?_
  refine aw_sipush (v := nI 720) (pc2 := 211) hk dX7_init_208 rfl (by decide) ?_
  refine aw_newl (pc2 := 213) hk dX7_init_211 rfl ar_long (by decide) (Nat.le_of_ble_eq_true rfl) (Nat.le_of_ble_eq_true rfl) ?_
  refine aw_hp (AL h 78 79 (.inr (7, [.int 1, .int 1, .ref 79, .ref 80, .ref 81, .ref 82, .ref 83, .int 0, .ref 84, .ref 85, .ref 86, .ref 87, .ref 88, .ref 89, .ref 90, .ref 91, .int 0, .int 0, .int 0, .int 0, .int 0, .ref 92, .ref 93, .ref 94, .ref 95, .ref 96, .ref 97, .ref 98, .ref 99, .ref 100, .ref 101, .null, .null, .null, .null, .null, .null, .null, .null, .null, .null, .int 0, .null, .null, .null, .long 0])) aM 24) (AL_new 23 (by decide) rfl) ?_
  refine aw_putF (pc2 := 216) hk ckX7 31 dX7_init_213 rfl fl_X7_88 (by decide) rfl rfl rfl (AL_at _ _ _ _ _ _) (fun _ => rfl) (fun _ => rfl) (Nat.le_of_ble_eq_true rfl) ?_
  refine aw_hp (AL h 78 79 (.inr (7, [.int 1, .int 1, .ref 79, .ref 80, .ref 81, .ref 82, .ref 83, .int 0, .ref 84, .ref 85, .ref 86, .ref 87, .ref 88, .ref 89, .ref 90, .ref 91, .int 0, .int 0, .int 0, .int 0, .int 0, .ref 92, .ref 93, .ref 94, .ref 95, .ref 96, .ref 97, .ref 98, .ref 99, .ref 100, .ref 101, .ref 102, .null, .null, .null, .null, .null, .null, .null, .null, .null, .int 0, .null, .null, .null, .long 0])) aM 24) AL_put ?_
  refine aw_aload_n (pc2 := 217) hk dX7_init_216 rfl rfl ?_
  refine aw_sipush (v := nI 720) (pc2 := 220) hk dX7_init_217 rfl (by decide) ?_
  refine aw_newl (pc2 := 222) hk dX7_init_220 rfl ar_long (by decide) (Nat.le_of_ble_eq_true rfl) (Nat.le_of_ble_eq_true rfl) ?_
  refine aw_hp (AL h 78 79 (.inr (7, [.int 1, .int 1, .ref 79, .ref 80, .ref 81, .ref 82, .ref 83, .int 0, .ref 84, .ref 85, .ref 86, .ref 87, .ref 88, .ref 89, .ref 90, .ref 91, .int 0, .int 0, .int 0, .int 0, .int 0, .ref 92, .ref 93, .ref 94, .ref 95, .ref 96, .ref 97, .ref 98, .ref 99, .ref 100, .ref 101, .ref 102, .null, .null, .null, .null, .null, .null, .null, .null, .null, .int 0, .null, .null, .null, .long 0])) aM 25) (AL_new 24 (by decide) rfl) ?_
  refine aw_putF (pc2 := 225) hk ckX7 32 dX7_init_222 rfl fl_X7_91 (by decide) rfl rfl rfl (AL_at _ _ _ _ _ _) (fun _ => rfl) (fun _ => rfl) (Nat.le_of_ble_eq_true rfl) ?_
  refine aw_hp (AL h 78 79 (.inr (7, [.int 1, .int 1, .ref 79, .ref 80, .ref 81, .ref 82, .ref 83, .int 0, .ref 84, .ref 85, .ref 86, .ref 87, .ref 88, .ref 89, .ref 90, .ref 91, .int 0, .int 0, .int 0, .int 0, .int 0, .ref 92, .ref 93, .ref 94, .ref 95, .ref 96, .ref 97, .ref 98, .ref 99, .ref 100, .ref 101, .ref 102, .ref 103, .null, .null, .null, .null, .null, .null, .null, .null, .int 0, .null, .null, .null, .long 0])) aM 25) AL_put ?_
  refine aw_aload_n (pc2 := 226) hk dX7_init_225 rfl rfl ?_
  refine aw_sipush (v := nI 720) (pc2 := 229) hk dX7_init_226 rfl (by decide) ?_
  refine aw_newl (pc2 := 231) hk dX7_init_229 rfl ar_long (by decide) (Nat.le_of_ble_eq_true rfl) (Nat.le_of_ble_eq_true rfl) ?_
  refine aw_hp (AL h 78 79 (.inr (7, [.int 1, .int 1, .ref 79, .ref 80, .ref 81, .ref 82, .ref 83, .int 0, .ref 84, .ref 85, .ref 86, .ref 87, .ref 88, .ref 89, .ref 90, .ref 91, .int 0, .int 0, .int 0, .int 0, .int 0, .ref 92, .ref 93, .ref 94, .ref 95, .ref 96, .ref 97, .ref 98, .ref 99, .ref 100, .ref 101, .ref 102, .ref 103, .null, .null, .null, .null, .null, .null, .null, .null, .int 0, .null, .null, .null, .long 0])) aM 26) (AL_new 25 (by decide) rfl) ?_
  refine aw_putF (pc2 := 234) hk ckX7 33 dX7_init_231 rfl fl_X7_94 (by decide) rfl rfl rfl (AL_at _ _ _ _ _ _) (fun _ => rfl) (fun _ => rfl) (Nat.le_of_ble_eq_true rfl) ?_
  refine aw_hp (AL h 78 79 (.inr (7, [.int 1, .int 1, .ref 79, .ref 80, .ref 81, .ref 82, .ref 83, .int 0, .ref 84, .ref 85, .ref 86, .ref 87, .ref 88, .ref 89, .ref 90, .ref 91, .int 0, .int 0, .int 0, .int 0, .int 0, .ref 92, .ref 93, .ref 94, .ref 95, .ref 96, .ref 97, .ref 98, .ref 99, .ref 100, .ref 101, .ref 102, .ref 103, .ref 104, .null, .null, .null, .null, .null, .null, .null, .int 0, .null, .null, .null, .long 0])) aM 26) AL_put ?_
  refine aw_aload_n (pc2 := 235) hk dX7_init_234 rfl rfl ?_
  refine aw_sipush (v := nI 720) (pc2 := 238) hk dX7_init_235 rfl (by decide) ?_
  refine aw_newl (pc2 := 240) hk dX7_init_238 rfl ar_long (by decide) (Nat.le_of_ble_eq_true rfl) (Nat.le_of_ble_eq_true rfl) ?_
  refine aw_hp (AL h 78 79 (.inr (7, [.int 1, .int 1, .ref 79, .ref 80, .ref 81, .ref 82, .ref 83, .int 0, .ref 84, .ref 85, .ref 86, .ref 87, .ref 88, .ref 89, .ref 90, .ref 91, .int 0, .int 0, .int 0, .int 0, .int 0, .ref 92, .ref 93, .ref 94, .ref 95, .ref 96, .ref 97, .ref 98, .ref 99, .ref 100, .ref 101, .ref 102, .ref 103, .ref 104, .null, .null, .null, .null, .null, .null, .null, .int 0, .null, .null, .null, .long 0])) aM 27) (AL_new 26 (by decide) rfl) ?_
  refine aw_putF (pc2 := 243) hk ckX7 34 dX7_init_240 rfl fl_X7_97 (by decide) rfl rfl rfl (AL_at _ _ _ _ _ _) (fun _ => rfl) (fun _ => rfl) (Nat.le_of_ble_eq_true rfl) ?_
  refine aw_hp (AL h 78 79 (.inr (7, [.int 1, .int 1, .ref 79, .ref 80, .ref 81, .ref 82, .ref 83, .int 0, .ref 84, .ref 85, .ref 86, .ref 87, .ref 88, .ref 89, .ref 90, .ref 91, .int 0, .int 0, .int 0, .int 0, .int 0, .ref 92, .ref 93, .ref 94, .ref 95, .ref 96, .ref 97, .ref 98, .ref 99, .ref 100, .ref 101, .ref 102, .ref 103, .ref 104, .ref 105, .null, .null, .null, .null, .null, .null, .int 0, .null, .null, .null, .long 0])) aM 27) AL_put ?_
  refine aw_aload_n (pc2 := 244) hk dX7_init_243 rfl rfl ?_
  refine aw_sipush (v := nI 720) (pc2 := 247) hk dX7_init_244 rfl (by decide) ?_
  refine aw_newl (pc2 := 249) hk dX7_init_247 rfl ar_long (by decide) (Nat.le_of_ble_eq_true rfl) (Nat.le_of_ble_eq_true rfl) ?_
  refine aw_hp (AL h 78 79 (.inr (7, [.int 1, .int 1, .ref 79, .ref 80, .ref 81, .ref 82, .ref 83, .int 0, .ref 84, .ref 85, .ref 86, .ref 87, .ref 88, .ref 89, .ref 90, .ref 91, .int 0, .int 0, .int 0, .int 0, .int 0, .ref 92, .ref 93, .ref 94, .ref 95, .ref 96, .ref 97, .ref 98, .ref 99, .ref 100, .ref 101, .ref 102, .ref 103, .ref 104, .ref 105, .null, .null, .null, .null, .null, .null, .int 0, .null, .null, .null, .long 0])) aM 28) (AL_new 27 (by decide) rfl) ?_
  refine aw_putF (pc2 := 252) hk ckX7 35 dX7_init_249 rfl fl_X7_100 (by decide) rfl rfl rfl (AL_at _ _ _ _ _ _) (fun _ => rfl) (fun _ => rfl) (Nat.le_of_ble_eq_true rfl) ?_
  refine aw_hp (AL h 78 79 (.inr (7, [.int 1, .int 1, .ref 79, .ref 80, .ref 81, .ref 82, .ref 83, .int 0, .ref 84, .ref 85, .ref 86, .ref 87, .ref 88, .ref 89, .ref 90, .ref 91, .int 0, .int 0, .int 0, .int 0, .int 0, .ref 92, .ref 93, .ref 94, .ref 95, .ref 96, .ref 97, .ref 98, .ref 99, .ref 100, .ref 101, .ref 102, .ref 103, .ref 104, .ref 105, .ref 106, .null, .null, .null, .null, .null, .int 0, .null, .null, .null, .long 0])) aM 28) AL_put ?_
  refine aw_aload_n (pc2 := 253) hk dX7_init_252 rfl rfl ?_
  refine aw_sipush (v := nI 720) (pc2 := 256) hk dX7_init_253 rfl (by decide) ?_
  refine aw_newl (pc2 := 258) hk dX7_init_256 rfl ar_long (by decide) (Nat.le_of_ble_eq_true rfl) (Nat.le_of_ble_eq_true rfl) ?_
  refine aw_hp (AL h 78 79 (.inr (7, [.int 1, .int 1, .ref 79, .ref 80, .ref 81, .ref 82, .ref 83, .int 0, .ref 84, .ref 85, .ref 86, .ref 87, .ref 88, .ref 89, .ref 90, .ref 91, .int 0, .int 0, .int 0, .int 0, .int 0, .ref 92, .ref 93, .ref 94, .ref 95, .ref 96, .ref 97, .ref 98, .ref 99, .ref 100, .ref 101, .ref 102, .ref 103, .ref 104, .ref 105, .ref 106, .null, .null, .null, .null, .null, .int 0, .null, .null, .null, .long 0])) aM 29) (AL_new 28 (by decide) rfl) ?_
  refine aw_putF (pc2 := 261) hk ckX7 36 dX7_init_258 rfl fl_X7_103 (by decide) rfl rfl rfl (AL_at _ _ _ _ _ _) (fun _ => rfl) (fun _ => rfl) (Nat.le_of_ble_eq_true rfl) ?_
  refine aw_hp (AL h 78 79 (.inr (7, [.int 1, .int 1, .ref 79, .ref 80, .ref 81, .ref 82, .ref 83, .int 0, .ref 84, .ref 85, .ref 86, .ref 87, .ref 88, .ref 89, .ref 90, .ref 91, .int 0, .int 0, .int 0, .int 0, .int 0, .ref 92, .ref 93, .ref 94, .ref 95, .ref 96, .ref 97, .ref 98, .ref 99, .ref 100, .ref 101, .ref 102, .ref 103, .ref 104, .ref 105, .ref 106, .ref 107, .null, .null, .null, .null, .int 0, .null, .null, .null, .long 0])) aM 29) AL_put ?_
  refine aw_aload_n (pc2 := 262) hk dX7_init_261 rfl rfl ?_
  refine aw_sipush (v := nI 720) (pc2 := 265) hk dX7_init_262 rfl (by decide) ?_
  refine aw_newi (pc2 := 267) hk dX7_init_265 rfl ar_int (by decide) (Nat.le_of_ble_eq_true rfl) (Nat.le_of_ble_eq_true rfl) ?_
  refine aw_hp (AL h 78 79 (.inr (7, [.int 1, .int 1, .ref 79, .ref 80, .ref 81, .ref 82, .ref 83, .int 0, .ref 84, .ref 85, .ref 86, .ref 87, .ref 88, .ref 89, .ref 90, .ref 91, .int 0, .int 0, .int 0, .int 0, .int 0, .ref 92, .ref 93, .ref 94, .ref 95, .ref 96, .ref 97, .ref 98, .ref 99, .ref 100, .ref 101, .ref 102, .ref 103, .ref 104, .ref 105, .ref 106, .ref 107, .null, .null, .null, .null, .int 0, .null, .null, .null, .long 0])) aM 30) (AL_new 29 (by decide) rfl) ?_
  refine aw_putF (pc2 := 270) hk ckX7 37 dX7_init_267 rfl fl_X7_106 (by decide) rfl rfl rfl (AL_at _ _ _ _ _ _) (fun _ => rfl) (fun _ => rfl) (Nat.le_of_ble_eq_true rfl) ?_
  refine aw_hp (AL h 78 79 (.inr (7, [.int 1, .int 1, .ref 79, .ref 80, .ref 81, .ref 82, .ref 83, .int 0, .ref 84, .ref 85, .ref 86, .ref 87, .ref 88, .ref 89, .ref 90, .ref 91, .int 0, .int 0, .int 0, .int 0, .int 0, .ref 92, .ref 93, .ref 94, .ref 95, .ref 96, .ref 97, .ref 98, .ref 99, .ref 100, .ref 101, .ref 102, .ref 103, .ref 104, .ref 105, .ref 106, .ref 107, .ref 108, .null, .null, .null, .int 0, .null, .null, .null, .long 0])) aM 30) AL_put ?_
  refine aw_aload_n (pc2 := 271) hk dX7_init_270 rfl rfl ?_
  refine aw_sipush (v := nI 2880) (pc2 := 274) hk dX7_init_271 rfl (by decide) ?_
  refine aw_newl (pc2 := 276) hk dX7_init_274 rfl ar_long (by decide) (Nat.le_of_ble_eq_true rfl) (Nat.le_of_ble_eq_true rfl) ?_
  refine aw_hp (AL h 78 79 (.inr (7, [.int 1, .int 1, .ref 79, .ref 80, .ref 81, .ref 82, .ref 83, .int 0, .ref 84, .ref 85, .ref 86, .ref 87, .ref 88, .ref 89, .ref 90, .ref 91, .int 0, .int 0, .int 0, .int 0, .int 0, .ref 92, .ref 93, .ref 94, .ref 95, .ref 96, .ref 97, .ref 98, .ref 99, .ref 100, .ref 101, .ref 102, .ref 103, .ref 104, .ref 105, .ref 106, .ref 107, .ref 108, .null, .null, .null, .int 0, .null, .null, .null, .long 0])) aM 31) (AL_new 30 (by decide) rfl) ?_
  refine aw_putF (pc2 := 279) hk ckX7 38 dX7_init_276 rfl fl_X7_109 (by decide) rfl rfl rfl (AL_at _ _ _ _ _ _) (fun _ => rfl) (fun _ => rfl) (Nat.le_of_ble_eq_true rfl) ?_
  refine aw_hp (AL h 78 79 (.inr (7, [.int 1, .int 1, .ref 79, .ref 80, .ref 81, .ref 82, .ref 83, .int 0, .ref 84, .ref 85, .ref 86, .ref 87, .ref 88, .ref 89, .ref 90, .ref 91, .int 0, .int 0, .int 0, .int 0, .int 0, .ref 92, .ref 93, .ref 94, .ref 95, .ref 96, .ref 97, .ref 98, .ref 99, .ref 100, .ref 101, .ref 102, .ref 103, .ref 104, .ref 105, .ref 106, .ref 107, .ref 108, .ref 109, .null, .null, .int 0, .null, .null, .null, .long 0])) aM 31) AL_put ?_
  refine aw_aload_n (pc2 := 280) hk dX7_init_279 rfl rfl ?_
  refine aw_sipush (v := nI 256) (pc2 := 283) hk dX7_init_280 rfl (by decide) ?_
  refine aw_newi (pc2 := 285) hk dX7_init_283 rfl ar_int (by decide) (Nat.le_of_ble_eq_true rfl) (Nat.le_of_ble_eq_true rfl) ?_
  refine aw_hp (AL h 78 79 (.inr (7, [.int 1, .int 1, .ref 79, .ref 80, .ref 81, .ref 82, .ref 83, .int 0, .ref 84, .ref 85, .ref 86, .ref 87, .ref 88, .ref 89, .ref 90, .ref 91, .int 0, .int 0, .int 0, .int 0, .int 0, .ref 92, .ref 93, .ref 94, .ref 95, .ref 96, .ref 97, .ref 98, .ref 99, .ref 100, .ref 101, .ref 102, .ref 103, .ref 104, .ref 105, .ref 106, .ref 107, .ref 108, .ref 109, .null, .null, .int 0, .null, .null, .null, .long 0])) aM 32) (AL_new 31 (by decide) rfl) ?_
  refine aw_putF (pc2 := 288) hk ckX7 39 dX7_init_285 rfl fl_X7_112 (by decide) rfl rfl rfl (AL_at _ _ _ _ _ _) (fun _ => rfl) (fun _ => rfl) (Nat.le_of_ble_eq_true rfl) ?_
  refine aw_hp (AL h 78 79 (.inr (7, [.int 1, .int 1, .ref 79, .ref 80, .ref 81, .ref 82, .ref 83, .int 0, .ref 84, .ref 85, .ref 86, .ref 87, .ref 88, .ref 89, .ref 90, .ref 91, .int 0, .int 0, .int 0, .int 0, .int 0, .ref 92, .ref 93, .ref 94, .ref 95, .ref 96, .ref 97, .ref 98, .ref 99, .ref 100, .ref 101, .ref 102, .ref 103, .ref 104, .ref 105, .ref 106, .ref 107, .ref 108, .ref 109, .ref 110, .null, .int 0, .null, .null, .null, .long 0])) aM 32) AL_put ?_
  refine aw_aload_n (pc2 := 289) hk dX7_init_288 rfl rfl ?_
  refine aw_sipush (v := nI 256) (pc2 := 292) hk dX7_init_289 rfl (by decide) ?_
  refine aw_newi (pc2 := 294) hk dX7_init_292 rfl ar_int (by decide) (Nat.le_of_ble_eq_true rfl) (Nat.le_of_ble_eq_true rfl) ?_
  refine aw_hp (AL h 78 79 (.inr (7, [.int 1, .int 1, .ref 79, .ref 80, .ref 81, .ref 82, .ref 83, .int 0, .ref 84, .ref 85, .ref 86, .ref 87, .ref 88, .ref 89, .ref 90, .ref 91, .int 0, .int 0, .int 0, .int 0, .int 0, .ref 92, .ref 93, .ref 94, .ref 95, .ref 96, .ref 97, .ref 98, .ref 99, .ref 100, .ref 101, .ref 102, .ref 103, .ref 104, .ref 105, .ref 106, .ref 107, .ref 108, .ref 109, .ref 110, .null, .int 0, .null, .null, .null, .long 0])) aM 33) (AL_new 32 (by decide) rfl) ?_
  refine aw_putF (pc2 := 297) hk ckX7 40 dX7_init_294 rfl fl_X7_115 (by decide) rfl rfl rfl (AL_at _ _ _ _ _ _) (fun _ => rfl) (fun _ => rfl) (Nat.le_of_ble_eq_true rfl) ?_
  refine aw_hp (AL h 78 79 (.inr (7, [.int 1, .int 1, .ref 79, .ref 80, .ref 81, .ref 82, .ref 83, .int 0, .ref 84, .ref 85, .ref 86, .ref 87, .ref 88, .ref 89, .ref 90, .ref 91, .int 0, .int 0, .int 0, .int 0, .int 0, .ref 92, .ref 93, .ref 94, .ref 95, .ref 96, .ref 97, .ref 98, .ref 99, .ref 100, .ref 101, .ref 102, .ref 103, .ref 104, .ref 105, .ref 106, .ref 107, .ref 108, .ref 109, .ref 110, .ref 111, .int 0, .null, .null, .null, .long 0])) aM 33) AL_put ?_
  refine aw_aload_n (pc2 := 298) hk dX7_init_297 rfl rfl ?_
  refine aw_sipush (v := nI 256) (pc2 := 301) hk dX7_init_298 rfl (by decide) ?_
  refine aw_newi (pc2 := 303) hk dX7_init_301 rfl ar_int (by decide) (Nat.le_of_ble_eq_true rfl) (Nat.le_of_ble_eq_true rfl) ?_
  refine aw_hp (AL h 78 79 (.inr (7, [.int 1, .int 1, .ref 79, .ref 80, .ref 81, .ref 82, .ref 83, .int 0, .ref 84, .ref 85, .ref 86, .ref 87, .ref 88, .ref 89, .ref 90, .ref 91, .int 0, .int 0, .int 0, .int 0, .int 0, .ref 92, .ref 93, .ref 94, .ref 95, .ref 96, .ref 97, .ref 98, .ref 99, .ref 100, .ref 101, .ref 102, .ref 103, .ref 104, .ref 105, .ref 106, .ref 107, .ref 108, .ref 109, .ref 110, .ref 111, .int 0, .null, .null, .null, .long 0])) aM 34) (AL_new 33 (by decide) rfl) ?_
  refine aw_putF (pc2 := 306) hk ckX7 42 dX7_init_303 rfl fl_X7_118 (by decide) rfl rfl rfl (AL_at _ _ _ _ _ _) (fun _ => rfl) (fun _ => rfl) (Nat.le_of_ble_eq_true rfl) ?_
  refine aw_hp (AL h 78 79 (.inr (7, [.int 1, .int 1, .ref 79, .ref 80, .ref 81, .ref 82, .ref 83, .int 0, .ref 84, .ref 85, .ref 86, .ref 87, .ref 88, .ref 89, .ref 90, .ref 91, .int 0, .int 0, .int 0, .int 0, .int 0, .ref 92, .ref 93, .ref 94, .ref 95, .ref 96, .ref 97, .ref 98, .ref 99, .ref 100, .ref 101, .ref 102, .ref 103, .ref 104, .ref 105, .ref 106, .ref 107, .ref 108, .ref 109, .ref 110, .ref 111, .int 0, .ref 112, .null, .null, .long 0])) aM 34) AL_put ?_
  refine aw_aload_n (pc2 := 307) hk dX7_init_306 rfl rfl ?_
  refine aw_sipush (v := nI 256) (pc2 := 310) hk dX7_init_307 rfl (by decide) ?_
  refine aw_newi (pc2 := 312) hk dX7_init_310 rfl ar_int (by decide) (Nat.le_of_ble_eq_true rfl) (Nat.le_of_ble_eq_true rfl) ?_
  refine aw_hp (AL h 78 79 (.inr (7, [.int 1, .int 1, .ref 79, .ref 80, .ref 81, .ref 82, .ref 83, .int 0, .ref 84, .ref 85, .ref 86, .ref 87, .ref 88, .ref 89, .ref 90, .ref 91, .int 0, .int 0, .int 0, .int 0, .int 0, .ref 92, .ref 93, .ref 94, .ref 95, .ref 96, .ref 97, .ref 98, .ref 99, .ref 100, .ref 101, .ref 102, .ref 103, .ref 104, .ref 105, .ref 106, .ref 107, .ref 108, .ref 109, .ref 110, .ref 111, .int 0, .ref 112, .null, .null, .long 0])) aM 35) (AL_new 34 (by decide) rfl) ?_
  refine aw_putF (pc2 := 315) hk ckX7 43 dX7_init_312 rfl fl_X7_121 (by decide) rfl rfl rfl (AL_at _ _ _ _ _ _) (fun _ => rfl) (fun _ => rfl) (Nat.le_of_ble_eq_true rfl) ?_
  refine aw_hp (AL h 78 79 (.inr (7, [.int 1, .int 1, .ref 79, .ref 80, .ref 81, .ref 82, .ref 83, .int 0, .ref 84, .ref 85, .ref 86, .ref 87, .ref 88, .ref 89, .ref 90, .ref 91, .int 0, .int 0, .int 0, .int 0, .int 0, .ref 92, .ref 93, .ref 94, .ref 95, .ref 96, .ref 97, .ref 98, .ref 99, .ref 100, .ref 101, .ref 102, .ref 103, .ref 104, .ref 105, .ref 106, .ref 107, .ref 108, .ref 109, .ref 110, .ref 111, .int 0, .ref 112, .ref 113, .null, .long 0])) aM 35) AL_put ?_
  refine aw_aload_n (pc2 := 316) hk dX7_init_315 rfl rfl ?_
  refine aw_sipush (v := nI 256) (pc2 := 319) hk dX7_init_316 rfl (by decide) ?_
  refine aw_newz (pc2 := 321) hk dX7_init_319 rfl ar_boolean (by decide) (Nat.le_of_ble_eq_true rfl) (Nat.le_of_ble_eq_true rfl) ?_
  refine aw_hp (AL h 78 79 (.inr (7, [.int 1, .int 1, .ref 79, .ref 80, .ref 81, .ref 82, .ref 83, .int 0, .ref 84, .ref 85, .ref 86, .ref 87, .ref 88, .ref 89, .ref 90, .ref 91, .int 0, .int 0, .int 0, .int 0, .int 0, .ref 92, .ref 93, .ref 94, .ref 95, .ref 96, .ref 97, .ref 98, .ref 99, .ref 100, .ref 101, .ref 102, .ref 103, .ref 104, .ref 105, .ref 106, .ref 107, .ref 108, .ref 109, .ref 110, .ref 111, .int 0, .ref 112, .ref 113, .null, .long 0])) aM 36) (AL_new 35 (by decide) rfl) ?_
  refine aw_putF (pc2 := 324) hk ckX7 44 dX7_init_321 rfl fl_X7_124 (by decide) rfl rfl rfl (AL_at _ _ _ _ _ _) (fun _ => rfl) (fun _ => rfl) (Nat.le_of_ble_eq_true rfl) ?_
  refine aw_hp (AL h 78 79 (.inr (7, [.int 1, .int 1, .ref 79, .ref 80, .ref 81, .ref 82, .ref 83, .int 0, .ref 84, .ref 85, .ref 86, .ref 87, .ref 88, .ref 89, .ref 90, .ref 91, .int 0, .int 0, .int 0, .int 0, .int 0, .ref 92, .ref 93, .ref 94, .ref 95, .ref 96, .ref 97, .ref 98, .ref 99, .ref 100, .ref 101, .ref 102, .ref 103, .ref 104, .ref 105, .ref 106, .ref 107, .ref 108, .ref 109, .ref 110, .ref 111, .int 0, .ref 112, .ref 113, .ref 114, .long 0])) aM 36) AL_put ?_
  refine aw_hp (H5z iA sB rA) (H5_all hh) ?_
  refine aw_aload_n (pc2 := 325) hk dX7_init_324 rfl rfl ?_
  refine aw_cV (rm2 := rmX7_fresh) (pc2 := 328) hk veX7_fresh dX7_init_325 rfl ml_X7_127 ⟨(Nat.le_of_ble_eq_true rfl), (Nat.le_of_ble_eq_true rfl)⟩ [] rfl rfl (Nat.le_of_ble_eq_true rfl) (Nat.le_of_ble_eq_true rfl) (Nat.le_of_ble_eq_true rfl) (o_X7 rfl) (m_fresh ?_)
  refine aw_aload_n (pc2 := 329) hk dX7_init_328 rfl rfl ?_
  refine aw_get (v := .ref 91) (pc2 := 332) hk ckX7 15 dX7_init_329 rfl fl_X7_54 (by decide) (o_X7 rfl) rfl ?_
  refine aw_iconst (v := 4) (pc2 := 333) hk dX7_init_332 rfl (by decide) ?_
  refine aw_bipush (v := 28) (pc2 := 335) hk dX7_init_333 rfl (by decide) ?_
  refine h_iast (j := 4) (pc2 := 336) hk dX7_init_335 rfl rfl rfl (by decide) (by decide) ?_
  exact aw_vret hk dX7_init_336 (Nat.le_of_ble_eq_true rfl) (Nat.le_of_ble_eq_true rfl) hq
theorem iB_at {b c : Nat} : iB b c = if b = 91 ∧ c = 4 then 28 else if (79 ≤ b ∧ b ≤ 83) ∧ c < 256 then (if b = 79 then -1 else 0) else if (2 ≤ b ∧ b ≤ 6) ∧ c < 256 then (if b = 2 ∨ b = 6 then -1 else 0) else if b = 76 ∧ c = 4 then 28 else 0 := rfl
theorem sB_at {b j : Nat} : u2 sB 78 7 0 b j = if b = 78 ∧ j = 7 then 0 else if b = 78 ∧ j = 1 then 1 else if b = 78 ∧ j = 0 then 1 else if b = 1 ∧ j = 1 then 1 else if b = 1 ∧ j = 0 then 1 else 0 := rfl
theorem rA_at {b c : Nat} : rA b c = if b = 62 ∧ c < 4 then some (63 + 3 * c) else if b = 13 ∧ c < 12 then some (14 + 4 * c) else none := rfl
theorem sim_0 : SIM 0 115 (H5z iB (u2 sB 78 7 0) rA) := by
  refine SM.sim (?_ : SM 1 1 0 0 0 0 0 false false (fun _ => 0) (fun _ => 0) (fun _ _ => 0) 115 dz iB Jz (u2 sB 78 7 0) Lz rA)
  refine ⟨?_, ?_, OrdB.z, OM.z, ⟨by omega, rfl, ⟨fun h => absurd h (by decide), fun h => absurd h.1 (by omega)⟩, fun o ho => absurd ho (by omega), by omega, fun o ho => Or.inl ?_⟩, ⟨fun c hc => ?_, fun c hc => Or.inl ?_, fun c hc => ?_⟩, fun f hf => absurd hf (Nat.not_lt_zero f), fun s hs => ⟨0, by omega, ?_, ?_, fun i hi => absurd hi (Nat.not_lt_zero i)⟩, fun k hk => ?_, SmO.z, fun _ c hc h5 => ?_, fun h => absurd h (by decide)⟩
  · exact ⟨rfl, rfl, by omega, by omega, by omega, by omega, rfl, by omega, rfl, by omega, rfl, by omega, rfl, by omega, fun f hf => by rw [rA_at, if_neg (by omega), if_pos ⟨rfl, hf⟩], fun s hs => by rw [rA_at, if_pos ⟨rfl, hs⟩]⟩
  · exact ⟨rfl, rfl, by omega, by omega, by omega, by omega, rfl, by omega, rfl, by omega, rfl, by omega, rfl, by omega, rfl, rfl⟩
  · rw [rA_at, if_neg (by omega), if_neg (by omega)]
  · rw [iB_at, iB_at, iB_at, iB_at, iB_at, iB_at, iB_at, iB_at]
    simp [hc]
  · rw [iB_at, iB_at]
    simp [hc]
  · refine ⟨Or.inl ?_, ⟨0, by omega, ?_⟩, fun _ => ?_, fun _ => ?_⟩
    · rw [iB_at]; simp [hc]
    · rw [iB_at]; simp [hc]; rfl
    · rw [iB_at]; simp [hc]
    · rw [iB_at]; simp [hc]
  · rw [sB_at, if_neg (by omega), if_neg (by omega), if_neg (by omega), if_neg (by omega), if_neg (by omega)]; rfl
  · rw [iB_at, if_neg (by omega), if_neg (by omega), if_neg (by omega), if_neg (by omega)]; rfl
  · rw [iB_at, iB_at]
    by_cases h : k = 4
    · simp [h]
    · simp [h]
  · exact absurd (by rw [iB_at]; simp [hc]) h5
