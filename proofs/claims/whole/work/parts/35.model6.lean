theorem tk_f {I : M2} {c : Nat} (h : I 83 c ≤ 0) : tkM I c = false := by unfold tkM; simp only [decide_eq_false_iff_not]; rw [i_lt, l0]; rw [i_le, l0] at h; omega
theorem tk_t {I : M2} {c : Nat} (h : ¬ I 83 c ≤ 0) : tkM I c = true := by unfold tkM; simp only [decide_eq_true_eq]; rw [i_lt, l0]; rw [i_le, l0] at h; omega
def cntM (I S : M2) (oc : Nat) (nc : Nat → Nat) (k : Nat) : Int32 := match k with
  | 0 => S 78 7
  | 1 => sI (fun c => bi (tkM I c)) 256
  | 2 => sI (fun c => bi (I 82 c != 0)) 256
  | 3 => S 78 19
  | 4 => if 0 < oc then nI (nc (oc - 1)) else 0
  | 5 => S 78 16
  | 6 => S 78 20
  | _ => S 78 18
set_option maxHeartbeats 800000 in
set_option maxRecDepth 100000 in
theorem m_count {n : Nat} {d : D2} {I : M2} {J : J2} {S : M2} {L : J2} {R : R2} {Q : QT} {w g fc oc uc td : Nat} {md op : Bool} (hB : MB S w g fc oc uc td md op) {nc : Nat → Nat} (hN : OM I oc nc) {x : Int32} (hq1 : (∀ k, x = nI k → ¬ k < 8) → Q (some (.int (-102))) n (H5 d I J S L R)) (hq2 : ∀ k, x = nI k → k < 8 → Q (some (.int (cntM I S oc nc k))) n (H5 d I J S L R)) : Calls yX7_count cX7_count 4 (some .int) rmX7_count [.ref 78, .int x] n (H5 d I J S L R) Q := by
  refine Calls.of (by decide) (Nat.le_of_ble_eq_true rfl) ?_
  intro K hk
  show AW K Q 0 0 0 [some (.ref 78), some (.int x), none, none] [] n (H5 d I J S L R)
  obtain ⟨hw, hg, hw1, hw6, hg1, hg6, hfc, hfc2, hoc, hoc6, huc, huc5, htd, htd4, hmd, hop⟩ := id hB
  have loop : ∀ (k i : Nat), i ≤ 256 → 256 + 1 ≤ i + k → AW K Q 0 0 4 [some (.ref 78), some (.int x), some (.int (sI (fun c => if x = 1 then bi (tkM I c) else bi (I 82 c != 0)) i)), some (.int (nI i))] [] n (H5 d I J S L R) := by
    intro k
    induction k with
    | zero => intro i  hi hn; omega
    | succ k ih =>
      intro i  hi hn
      refine aw_iload_n (pc2 := 5) hk dX7_count_4 rfl rfl ?_
      refine aw_sipush (v := 256) (pc2 := 8) hk dX7_count_5 rfl (by decide) ?_
      refine aw_icN_ge (y := 256) (tgt := 56) (pc2 := 11) hk dX7_count_8 (by decide) rfl rfl rfl (by omega) (by omega) (fun c8 => ?_) (fun c8 => ?_)
      · obtain rfl : i = 256 := by omega
        refine aw_iload_n (pc2 := 57) hk dX7_count_56 rfl rfl ?_
        by_cases h5 : ∃ k, x = nI k ∧ k < 8
        · obtain ⟨k, h6, h7⟩ := h5
          subst h6
          match k, h7 with
          | 0, _ =>
            refine aw_tableIn (tgt := 104) (off := 47) hk dX7_count_57 (by decide) (by decide) (by decide) (by decide) ?_
            refine aw_aload_n (pc2 := 105) hk dX7_count_104 rfl rfl ?_
            refine aw_get (pc2 := 108) hk ckX7 7 dX7_count_105 rfl fl_X7_130 (by decide) (o_X7 rfl) rfl ?_
            refine aw_iret hk dX7_count_108 (Nat.le_of_ble_eq_true rfl) (Nat.le_of_ble_eq_true rfl) (hq2 0 rfl (by decide))
          | 1, _ =>
            refine aw_tableIn (tgt := 109) (off := 52) hk dX7_count_57 (by decide) (by decide) (by decide) (by decide) ?_
            refine aw_iload_n (pc2 := 110) hk dX7_count_109 rfl rfl ?_
            refine aw_iret hk dX7_count_110 (Nat.le_of_ble_eq_true rfl) (Nat.le_of_ble_eq_true rfl) (by have h9 := hq2 1 rfl (by decide); rw [show cntM I S oc nc 1 = _ from (sI_eq (g := (fun c => if nI 1 = 1 then bi (tkM I c) else bi (I 82 c != 0))) 256 (fun c _ => if_pos rfl)).symm] at h9; exact h9)
          | 2, _ =>
            refine aw_tableIn (tgt := 109) (off := 52) hk dX7_count_57 (by decide) (by decide) (by decide) (by decide) ?_
            refine aw_iload_n (pc2 := 110) hk dX7_count_109 rfl rfl ?_
            refine aw_iret hk dX7_count_110 (Nat.le_of_ble_eq_true rfl) (Nat.le_of_ble_eq_true rfl) (by have h9 := hq2 2 rfl (by decide); rw [show cntM I S oc nc 2 = _ from (sI_eq (g := (fun c => if nI 2 = 1 then bi (tkM I c) else bi (I 82 c != 0))) 256 (fun c _ => if_neg (by decide))).symm] at h9; exact h9)
          | 3, _ =>
            refine aw_tableIn (tgt := 111) (off := 54) hk dX7_count_57 (by decide) (by decide) (by decide) (by decide) ?_
            refine aw_aload_n (pc2 := 112) hk dX7_count_111 rfl rfl ?_
            refine aw_get (pc2 := 115) hk ckX7 19 dX7_count_112 rfl fl_X7_197 (by decide) (o_X7 rfl) rfl ?_
            refine aw_iret hk dX7_count_115 (Nat.le_of_ble_eq_true rfl) (Nat.le_of_ble_eq_true rfl) (hq2 3 rfl (by decide))
          | 4, _ =>
            refine aw_tableIn (tgt := 116) (off := 59) hk dX7_count_57 (by decide) (by decide) (by decide) (by decide) ?_
            refine aw_aload_n (pc2 := 117) hk dX7_count_116 rfl rfl ?_
            refine aw_get (pc2 := 120) hk ckX7 19 dX7_count_117 rfl fl_X7_197 (by decide) (o_X7 rfl) rfl ?_
            rw [hoc]
            refine aw_if_ne (tgt := 127) (pc2 := 123) hk dX7_count_120 (by decide) rfl (fun c120 => ?_) (fun c120 => ?_)
            · refine aw_aload_n (pc2 := 128) hk dX7_count_127 rfl rfl ?_
              refine aw_get (pc2 := 131) hk ckX7 23 dX7_count_128 rfl fl_X7_63 (by decide) (o_X7 rfl) rfl ?_
              refine aw_aload_n (pc2 := 132) hk dX7_count_131 rfl rfl ?_
              refine aw_get (pc2 := 135) hk ckX7 19 dX7_count_132 rfl fl_X7_197 (by decide) (o_X7 rfl) rfl ?_
              refine aw_iconst (v := 1) (pc2 := 136) hk dX7_count_135 rfl (by decide) ?_
              refine aw_isub (pc2 := 137) hk dX7_count_136 rfl ?_
              have hoc1 : 0 < oc := by rcases Nat.eq_zero_or_pos oc with h | h; subst h; exact absurd rfl c120; exact h
              refine aw_top (nI (oc - 1)) (by rw [hoc]; exact pk_sub (a := oc) (b := 1) (by omega)) ?_
              refine h_iald (pc2 := 138) hk dX7_count_137 rfl rfl rfl (by omega) (by decide) ?_
              refine aw_iret hk dX7_count_138 (Nat.le_of_ble_eq_true rfl) (Nat.le_of_ble_eq_true rfl) (by
          have h9 := hq2 4 rfl (by decide)
          first
            | (rw [show cntM I S oc nc 4 = nI (nc (oc - 1)) from if_pos hoc1, ← (hN (oc - 1) (by omega)).1] at h9; exact h9)
            | (have hoc1 : oc = 0 := by rcases Nat.eq_zero_or_pos oc with h | h; exact h; exact absurd c120 (nI_ne0 h (by omega))
               rw [show cntM I S oc nc 4 = 0 from if_neg (by omega)] at h9; exact h9))
            · refine aw_iconst (v := 0) (pc2 := 124) hk dX7_count_123 rfl (by decide) ?_
              refine aw_goto (tgt := 138) hk dX7_count_124 (by decide) ?_
              refine aw_iret hk dX7_count_138 (Nat.le_of_ble_eq_true rfl) (Nat.le_of_ble_eq_true rfl) (by
          have h9 := hq2 4 rfl (by decide)
          first
            | (rw [show cntM I S oc nc 4 = nI (nc (oc - 1)) from if_pos hoc1, ← (hN (oc - 1) (by omega)).1] at h9; exact h9)
            | (have hoc1 : oc = 0 := by rcases Nat.eq_zero_or_pos oc with h | h; exact h; exact absurd c120 (nI_ne0 h (by omega))
               rw [show cntM I S oc nc 4 = 0 from if_neg (by omega)] at h9; exact h9))
          | 5, _ =>
            refine aw_tableIn (tgt := 139) (off := 82) hk dX7_count_57 (by decide) (by decide) (by decide) (by decide) ?_
            refine aw_aload_n (pc2 := 140) hk dX7_count_139 rfl rfl ?_
            refine aw_get (pc2 := 143) hk ckX7 16 dX7_count_140 rfl fl_X7_174 (by decide) (o_X7 rfl) rfl ?_
            refine aw_iret hk dX7_count_143 (Nat.le_of_ble_eq_true rfl) (Nat.le_of_ble_eq_true rfl) (hq2 5 rfl (by decide))
          | 6, _ =>
            refine aw_tableIn (tgt := 144) (off := 87) hk dX7_count_57 (by decide) (by decide) (by decide) (by decide) ?_
            refine aw_aload_n (pc2 := 145) hk dX7_count_144 rfl rfl ?_
            refine aw_get (pc2 := 148) hk ckX7 20 dX7_count_145 rfl fl_X7_200 (by decide) (o_X7 rfl) rfl ?_
            rw [hop]
            refine aw_if_eq (tgt := 155) (pc2 := 151) hk dX7_count_148 (by decide) rfl (fun c148 => ?_) (fun c148 => ?_)
            · refine aw_iconst (v := 0) (pc2 := 156) hk dX7_count_155 rfl (by decide) ?_
              refine aw_iret hk dX7_count_156 (Nat.le_of_ble_eq_true rfl) (Nat.le_of_ble_eq_true rfl) (by have h9 := hq2 6 rfl (by decide); rw [show cntM I S oc nc 6 = bi op from hop] at h9; first | (rw [c148] at h9; exact h9) | (rw [bi_t c148] at h9; exact h9))
            · refine aw_iconst (v := 1) (pc2 := 152) hk dX7_count_151 rfl (by decide) ?_
              refine aw_goto (tgt := 156) hk dX7_count_152 (by decide) ?_
              refine aw_iret hk dX7_count_156 (Nat.le_of_ble_eq_true rfl) (Nat.le_of_ble_eq_true rfl) (by have h9 := hq2 6 rfl (by decide); rw [show cntM I S oc nc 6 = bi op from hop] at h9; first | (rw [c148] at h9; exact h9) | (rw [bi_t c148] at h9; exact h9))
          | 7, _ =>
            refine aw_tableIn (tgt := 157) (off := 100) hk dX7_count_57 (by decide) (by decide) (by decide) (by decide) ?_
            refine aw_aload_n (pc2 := 158) hk dX7_count_157 rfl rfl ?_
            refine aw_get (pc2 := 161) hk ckX7 18 dX7_count_158 rfl fl_X7_243 (by decide) (o_X7 rfl) rfl ?_
            refine aw_iret hk dX7_count_161 (Nat.le_of_ble_eq_true rfl) (Nat.le_of_ble_eq_true rfl) (hq2 7 rfl (by decide))
        · refine aw_tableOut (tgt := 162) hk dX7_count_57 (by rcases Int.lt_or_le x.toInt 0 with q | q; exact Or.inl q; exact Or.inr (by rcases Int.lt_or_le 7 x.toInt with q2 | q2; exact q2; exact absurd ⟨x.toInt.toNat, i_eq (by omega), by omega⟩ h5)) (by decide) ?_
          refine aw_bipush (v := -102) (pc2 := 164) hk dX7_count_162 rfl (by decide) ?_
          refine aw_iret hk dX7_count_164 (Nat.le_of_ble_eq_true rfl) (Nat.le_of_ble_eq_true rfl) (hq1 (fun k h8 h9 => h5 ⟨k, h8, h9⟩))
      · refine aw_iload_n (pc2 := 12) hk dX7_count_11 rfl rfl ?_
        refine aw_iload_n (pc2 := 13) hk dX7_count_12 rfl rfl ?_
        refine aw_iconst (v := 1) (pc2 := 14) hk dX7_count_13 rfl (by decide) ?_
        refine aw_icmp_ne (tgt := 34) (pc2 := 17) hk dX7_count_14 (by decide) rfl (fun c14 => ?_) (fun c14 => ?_)
        · refine aw_aload_n (pc2 := 35) hk dX7_count_34 rfl rfl ?_
          refine aw_get (pc2 := 38) hk ckX7 5 dX7_count_35 rfl fl_X7_27 (by decide) (o_X7 rfl) rfl ?_
          refine aw_iload_n (pc2 := 39) hk dX7_count_38 rfl rfl ?_
          refine h_zald (pc2 := 40) hk dX7_count_39 rfl rfl rfl (by omega) (by decide) ?_
          refine aw_if_eq (tgt := 47) (pc2 := 43) hk dX7_count_40 (by decide) rfl (fun c40 => ?_) (fun c40 => ?_)
          · refine aw_iconst (v := 0) (pc2 := 48) hk dX7_count_47 rfl (by decide) ?_
            refine aw_iadd (pc2 := 49) hk dX7_count_48 rfl ?_
            refine aw_top (sI (fun c => if x = 1 then bi (tkM I c) else bi (I 82 c != 0)) (i + 1)) (by
              show _ + _ = _ + (if x = 1 then bi (tkM I i) else bi (I 82 i != 0))
              first
                | (have e : tkM I i = false := tk_f c23; rw [if_pos c14, e]; rfl)
                | (have e : tkM I i = true := tk_t c23; rw [if_pos c14, e]; rfl)
                | (rw [if_neg c14]; simp [c40, bi]; done)) ?_
            refine aw_istore_n (pc2 := 50) hk dX7_count_49 rfl (by decide) ?_
            show AW K Q _ _ 50 [_, _, _, _] _ _ _
            refine aw_iinc1 (pc2 := 53) hk dX7_count_50 rfl rfl (by decide) ?_
            show AW K Q _ _ 53 [_, _, _, _] _ _ _
            refine aw_goto (tgt := 4) hk dX7_count_53 (by decide) ?_
            exact ih (i + 1) (by omega) (by omega)
          · refine aw_iconst (v := 1) (pc2 := 44) hk dX7_count_43 rfl (by decide) ?_
            refine aw_goto (tgt := 48) hk dX7_count_44 (by decide) ?_
            refine aw_iadd (pc2 := 49) hk dX7_count_48 rfl ?_
            refine aw_top (sI (fun c => if x = 1 then bi (tkM I c) else bi (I 82 c != 0)) (i + 1)) (by
              show _ + _ = _ + (if x = 1 then bi (tkM I i) else bi (I 82 i != 0))
              first
                | (have e : tkM I i = false := tk_f c23; rw [if_pos c14, e]; rfl)
                | (have e : tkM I i = true := tk_t c23; rw [if_pos c14, e]; rfl)
                | (rw [if_neg c14]; simp [c40, bi]; done)) ?_
            refine aw_istore_n (pc2 := 50) hk dX7_count_49 rfl (by decide) ?_
            show AW K Q _ _ 50 [_, _, _, _] _ _ _
            refine aw_iinc1 (pc2 := 53) hk dX7_count_50 rfl rfl (by decide) ?_
            show AW K Q _ _ 53 [_, _, _, _] _ _ _
            refine aw_goto (tgt := 4) hk dX7_count_53 (by decide) ?_
            exact ih (i + 1) (by omega) (by omega)
        · refine aw_aload_n (pc2 := 18) hk dX7_count_17 rfl rfl ?_
          refine aw_get (pc2 := 21) hk ckX7 6 dX7_count_18 rfl fl_X7_30 (by decide) (o_X7 rfl) rfl ?_
          refine aw_iload_n (pc2 := 22) hk dX7_count_21 rfl rfl ?_
          refine h_iald (pc2 := 23) hk dX7_count_22 rfl rfl rfl (by omega) (by decide) ?_
          refine aw_if_le (tgt := 30) (pc2 := 26) hk dX7_count_23 (by decide) rfl (fun c23 => ?_) (fun c23 => ?_)
          · refine aw_iconst (v := 0) (pc2 := 31) hk dX7_count_30 rfl (by decide) ?_
            refine aw_goto (tgt := 48) hk dX7_count_31 (by decide) ?_
            refine aw_iadd (pc2 := 49) hk dX7_count_48 rfl ?_
            refine aw_top (sI (fun c => if x = 1 then bi (tkM I c) else bi (I 82 c != 0)) (i + 1)) (by
              show _ + _ = _ + (if x = 1 then bi (tkM I i) else bi (I 82 i != 0))
              first
                | (have e : tkM I i = false := tk_f c23; rw [if_pos c14, e]; rfl)
                | (have e : tkM I i = true := tk_t c23; rw [if_pos c14, e]; rfl)
                | (rw [if_neg c14]; simp [c40, bi]; done)) ?_
            refine aw_istore_n (pc2 := 50) hk dX7_count_49 rfl (by decide) ?_
            show AW K Q _ _ 50 [_, _, _, _] _ _ _
            refine aw_iinc1 (pc2 := 53) hk dX7_count_50 rfl rfl (by decide) ?_
            show AW K Q _ _ 53 [_, _, _, _] _ _ _
            refine aw_goto (tgt := 4) hk dX7_count_53 (by decide) ?_
            exact ih (i + 1) (by omega) (by omega)
          · refine aw_iconst (v := 1) (pc2 := 27) hk dX7_count_26 rfl (by decide) ?_
            refine aw_goto (tgt := 48) hk dX7_count_27 (by decide) ?_
            refine aw_iadd (pc2 := 49) hk dX7_count_48 rfl ?_
            refine aw_top (sI (fun c => if x = 1 then bi (tkM I c) else bi (I 82 c != 0)) (i + 1)) (by
              show _ + _ = _ + (if x = 1 then bi (tkM I i) else bi (I 82 i != 0))
              first
                | (have e : tkM I i = false := tk_f c23; rw [if_pos c14, e]; rfl)
                | (have e : tkM I i = true := tk_t c23; rw [if_pos c14, e]; rfl)
                | (rw [if_neg c14]; simp [c40, bi]; done)) ?_
            refine aw_istore_n (pc2 := 50) hk dX7_count_49 rfl (by decide) ?_
            show AW K Q _ _ 50 [_, _, _, _] _ _ _
            refine aw_iinc1 (pc2 := 53) hk dX7_count_50 rfl rfl (by decide) ?_
            show AW K Q _ _ 53 [_, _, _, _] _ _ _
            refine aw_goto (tgt := 4) hk dX7_count_53 (by decide) ?_
            exact ih (i + 1) (by omega) (by omega)
  refine aw_iconst (v := 0) (pc2 := 1) hk dX7_count_0 rfl (by decide) ?_
  refine aw_istore_n (pc2 := 2) hk dX7_count_1 rfl (by decide) ?_
  show AW K Q _ _ 2 [_, _, _, _] _ _ _
  refine aw_iconst (v := 0) (pc2 := 3) hk dX7_count_2 rfl (by decide) ?_
  refine aw_istore_n (pc2 := 4) hk dX7_count_3 rfl (by decide) ?_
  show AW K Q _ _ 4 [_, _, _, _] _ _ _
  exact loop 257 0 (by omega) (by omega)
set_option maxHeartbeats 800000 in
set_option maxRecDepth 100000 in
theorem m_mix {n : Nat} {d : D2} {I : M2} {J : J2} {S : M2} {L : J2} {R : R2} {Q : QT} {V v : Int64} (hq : Q none n (H5 d I J S (u2 L 78 45 (mx V v)) R)) : Calls yX7_mix cX7_mix 3 none rmX7_mix [.ref 78, .long v] n (H5 d I J S (u2 L 78 45 V) R) Q := by
  refine Calls.of (by decide) (Nat.le_of_ble_eq_true rfl) ?_
  intro K hk
  show AW K Q 0 0 0 [some (.ref 78), some (.long v), none] [] n (H5 d I J S (u2 L 78 45 V) R)
  refine aw_aload_n (pc2 := 1) hk dX7_mix_0 rfl rfl ?_
  refine aw_ldc2 (pc2 := 4) hk dX7_mix_1 rfl kl_X7_269 ?_
  refine aw_aload_n (pc2 := 5) hk dX7_mix_4 rfl rfl ?_
  refine aw_get (pc2 := 8) hk ckX7 45 dX7_mix_5 rfl fl_X7_271 (by decide) (o_X7 rfl) rfl ?_
  refine aw_lmul (pc2 := 9) hk dX7_mix_8 rfl ?_
  refine aw_lload_n (pc2 := 10) hk dX7_mix_9 rfl rfl ?_
  rw [u2_s]
  refine aw_ladd (pc2 := 11) hk dX7_mix_10 rfl ?_
  refine aw_put (pc2 := 14) hk ckX7 45 dX7_mix_11 rfl fl_X7_271 (by decide) rfl (o_X7 rfl) (fun _ => rfl) (fun _ => rfl) (Nat.le_of_ble_eq_true rfl) ?_
  rw [p_X7_45 rfl]
  rw [u2_u2]
  refine aw_vret hk dX7_mix_14 (Nat.le_of_ble_eq_true rfl) (Nat.le_of_ble_eq_true rfl) hq
set_option maxHeartbeats 800000 in
set_option maxRecDepth 100000 in
theorem m_undo {n : Nat} {d : D2} {I : M2} {J : J2} {S : M2} {L : J2} {R : R2} {Q : QT} {w g fc oc uc td : Nat} {md op : Bool} (hB : MB S w g fc oc uc td md op) {nc : Nat → Nat} (hN : OM I oc nc) (hq1 : ¬ (0 < oc ∧ op = false) → Q (some (.long (-103))) n (H5 d I J S L R)) (hq2 : (0 < oc ∧ op = false) → Q (some (.long (sL (fun k => J 105 (12 * (oc - 1) + k) + J 106 (12 * (oc - 1) + k)) (nc (oc - 1))))) n (H5 d (rowU I 83 256 (fun c => if I 83 c = nI oc then 0 else I 83 c)) J (u2 (u2 S 78 19 (nI (oc - 1))) 78 18 (nI (uc + 1))) L R)) : Calls yX7_undo cX7_undo 5 (some .long) rmX7_undo [.ref 78] n (H5 d I J S L R) Q := by
  refine Calls.of (by decide) (Nat.le_of_ble_eq_true rfl) ?_
  intro K hk
  show AW K Q 0 0 0 [some (.ref 78), none, none, none, none] [] n (H5 d I J S L R)
  obtain ⟨hw, hg, hw1, hw6, hg1, hg6, hfc, hfc2, hoc, hoc6, huc, huc5, htd, htd4, hmd, hop⟩ := id hB
  refine aw_aload_n (pc2 := 1) hk dX7_undo_0 rfl rfl ?_
  refine aw_get (pc2 := 4) hk ckX7 19 dX7_undo_1 rfl fl_X7_197 (by decide) (o_X7 rfl) rfl ?_
  rw [hoc]
  refine aw_if_eq (tgt := 14) (pc2 := 7) hk dX7_undo_4 (by decide) rfl (fun c4 => ?_) (fun c4 => ?_)
  · refine aw_ldc2 (pc2 := 17) hk dX7_undo_14 rfl kl_X7_241 ?_
    refine aw_lret hk dX7_undo_17 (Nat.le_of_ble_eq_true rfl) (Nat.le_of_ble_eq_true rfl) (by
  first
    | exact hq1 (fun h9 => by rw [h9.2] at c11; exact c11 rfl)
    | exact hq1 (fun h9 => nI_ne0 h9.1 (by omega) c4))
  · refine aw_aload_n (pc2 := 8) hk dX7_undo_7 rfl rfl ?_
    refine aw_get (pc2 := 11) hk ckX7 20 dX7_undo_8 rfl fl_X7_200 (by decide) (o_X7 rfl) rfl ?_
    rw [hop]
    refine aw_if_eq (tgt := 18) (pc2 := 14) hk dX7_undo_11 (by decide) rfl (fun c11 => ?_) (fun c11 => ?_)
    · refine aw_aload_n (pc2 := 19) hk dX7_undo_18 rfl rfl ?_
      refine aw_get (pc2 := 22) hk ckX7 19 dX7_undo_19 rfl fl_X7_197 (by decide) (o_X7 rfl) rfl ?_
      refine aw_iconst (v := 1) (pc2 := 23) hk dX7_undo_22 rfl (by decide) ?_
      refine aw_isub (pc2 := 24) hk dX7_undo_23 rfl ?_
      have hoc1 : 0 < oc := by rcases Nat.eq_zero_or_pos oc with h | h; subst h; exact absurd rfl c4; exact h
      have hop1 := bi_ff c11
      obtain ⟨hn1, hn2⟩ := hN (oc - 1) (by omega)
      refine aw_top (nI (oc - 1)) (by rw [hoc]; exact pk_sub (a := oc) (b := 1) (by omega)) ?_
      refine aw_istore_n (pc2 := 25) hk dX7_undo_24 rfl (by decide) ?_
      show AW K Q _ _ 25 [_, _, _, _, _] _ _ _
      have loop2 : ∀ (k2 q : Nat), q ≤ 256 → 257 ≤ q + k2 → AW K Q 0 0 76 [some (.ref 78), some (.int (nI (oc - 1))), some (.long (sL (fun k => J 105 (12 * (oc - 1) + k) + J 106 (12 * (oc - 1) + k)) (nc (oc - 1)))), none, some (.int (nI q))] [] n (H5 d (rowU I 83 q (fun c => if I 83 c = nI oc then 0 else I 83 c)) J S L R) := by
        intro k2
        induction k2 with
        | zero => intro q h1 h2; omega
        | succ k2 ih2 =>
          intro q hqa hqb
          refine aw_iload (pc2 := 78) hk dX7_undo_76 rfl rfl ?_
          refine aw_sipush (v := 256) (pc2 := 81) hk dX7_undo_78 rfl (by decide) ?_
          refine aw_icN_ge (x := q) (y := 256) (tgt := 121) (pc2 := 84) hk dX7_undo_81 (by decide) rfl rfl rfl (by omega) (by omega) (fun c81 => ?_) (fun c81 => ?_)
          · obtain rfl : q = 256 := by omega
            have hq := hq2 ⟨hoc1, hop1⟩
            refine aw_aload_n (pc2 := 122) hk dX7_undo_121 rfl rfl ?_
            refine aw_dup_r (pc2 := 123) hk dX7_undo_122 rfl ?_
            refine aw_get (pc2 := 126) hk ckX7 19 dX7_undo_123 rfl fl_X7_197 (by decide) (o_X7 rfl) rfl ?_
            refine aw_iconst (v := 1) (pc2 := 127) hk dX7_undo_126 rfl (by decide) ?_
            refine aw_isub (pc2 := 128) hk dX7_undo_127 rfl ?_
            refine aw_top (nI (oc - 1)) (by rw [hoc]; exact pk_sub (a := oc) (b := 1) (by omega)) ?_
            refine aw_put (pc2 := 131) hk ckX7 19 dX7_undo_128 rfl fl_X7_197 (by decide) rfl (o_X7 rfl) (fun _ => rfl) (fun _ => rfl) (Nat.le_of_ble_eq_true rfl) ?_
            rw [p_X7_19 rfl]
            refine aw_aload_n (pc2 := 132) hk dX7_undo_131 rfl rfl ?_
            refine aw_dup_r (pc2 := 133) hk dX7_undo_132 rfl ?_
            refine aw_get (pc2 := 136) hk ckX7 18 dX7_undo_133 rfl fl_X7_243 (by decide) (o_X7 rfl) rfl ?_
            refine aw_iconst (v := 1) (pc2 := 137) hk dX7_undo_136 rfl (by decide) ?_
            refine aw_iadd (pc2 := 138) hk dX7_undo_137 rfl ?_
            refine aw_top (nI (uc + 1)) (by rw [u2_j _ _ _ _ (by decide), huc]; exact nI_1 uc) ?_
            refine aw_put (pc2 := 141) hk ckX7 18 dX7_undo_138 rfl fl_X7_243 (by decide) rfl (o_X7 rfl) (fun _ => rfl) (fun _ => rfl) (Nat.le_of_ble_eq_true rfl) ?_
            rw [p_X7_18 rfl]
            refine aw_lload_n (pc2 := 142) hk dX7_undo_141 rfl rfl ?_
            refine aw_lret hk dX7_undo_142 (Nat.le_of_ble_eq_true rfl) (Nat.le_of_ble_eq_true rfl) hq
          · refine aw_aload_n (pc2 := 85) hk dX7_undo_84 rfl rfl ?_
            refine aw_get (pc2 := 88) hk ckX7 6 dX7_undo_85 rfl fl_X7_30 (by decide) (o_X7 rfl) rfl ?_
            refine aw_iload (pc2 := 90) hk dX7_undo_88 rfl rfl ?_
            refine aw_aload_n (pc2 := 91) hk dX7_undo_90 rfl rfl ?_
            refine aw_get (pc2 := 94) hk ckX7 6 dX7_undo_91 rfl fl_X7_30 (by decide) (o_X7 rfl) rfl ?_
            refine aw_iload (pc2 := 96) hk dX7_undo_94 rfl rfl ?_
            refine h_iald (pc2 := 97) hk dX7_undo_96 rfl rfl rfl (by omega) (by decide) ?_
            refine aw_iload_n (pc2 := 98) hk dX7_undo_97 rfl rfl ?_
            refine aw_iconst (v := 1) (pc2 := 99) hk dX7_undo_98 rfl (by decide) ?_
            refine aw_iadd (pc2 := 100) hk dX7_undo_99 rfl ?_
            refine aw_top (nI oc) (by rw [nI_1, show oc - 1 + 1 = oc by omega]) ?_
            have e9 : rowU I 83 q (fun c => if I 83 c = nI oc then 0 else I 83 c) 83 q = I 83 q := rowU_out I 83 _ (by omega)
            refine aw_icmp_ne (tgt := 107) (pc2 := 103) hk dX7_undo_100 (by decide) rfl (fun c100 => ?_) (fun c100 => ?_)
            · refine aw_aload_n (pc2 := 108) hk dX7_undo_107 rfl rfl ?_
              refine aw_get (pc2 := 111) hk ckX7 6 dX7_undo_108 rfl fl_X7_30 (by decide) (o_X7 rfl) rfl ?_
              refine aw_iload (pc2 := 113) hk dX7_undo_111 rfl rfl ?_
              refine h_iald (pc2 := 114) hk dX7_undo_113 rfl rfl rfl (by omega) (by decide) ?_
              refine h_iast (pc2 := 115) hk dX7_undo_114 rfl rfl rfl (by omega) (by decide) ?_
              rw [e9] at c100
              refine aw_I (rowU I 83 (q + 1) (fun c => if I 83 c = nI oc then 0 else I 83 c)) (rowU_st I 83 q _ (by first | exact (if_pos c100).symm | exact e9.trans (if_neg c100).symm)) ?_
              refine aw_iinc1 (pc2 := 118) hk dX7_undo_115 rfl rfl (by decide) ?_
              show AW K Q _ _ 118 [_, _, _, _, _] _ _ _
              refine aw_goto (tgt := 76) hk dX7_undo_118 (by decide) ?_
              exact ih2 (q + 1) (by omega) (by omega)
            · refine aw_iconst (v := 0) (pc2 := 104) hk dX7_undo_103 rfl (by decide) ?_
              refine aw_goto (tgt := 114) hk dX7_undo_104 (by decide) ?_
              refine h_iast (pc2 := 115) hk dX7_undo_114 rfl rfl rfl (by omega) (by decide) ?_
              rw [e9] at c100
              refine aw_I (rowU I 83 (q + 1) (fun c => if I 83 c = nI oc then 0 else I 83 c)) (rowU_st I 83 q _ (by first | exact (if_pos c100).symm | exact e9.trans (if_neg c100).symm)) ?_
              refine aw_iinc1 (pc2 := 118) hk dX7_undo_115 rfl rfl (by decide) ?_
              show AW K Q _ _ 118 [_, _, _, _, _] _ _ _
              refine aw_goto (tgt := 76) hk dX7_undo_118 (by decide) ?_
              exact ih2 (q + 1) (by omega) (by omega)
      have loop : ∀ (k i : Nat), i ≤ nc (oc - 1) → nc (oc - 1) + 1 ≤ i + k → AW K Q 0 0 33 [some (.ref 78), some (.int (nI (oc - 1))), some (.long (sL (fun k => J 105 (12 * (oc - 1) + k) + J 106 (12 * (oc - 1) + k)) i)), none, some (.int (nI (12 * (oc - 1) + i)))] [] n (H5 d I J S L R) := by
        intro k
        induction k with
        | zero => intro i h1 h2; omega
        | succ k ih =>
          intro i hi hn
          refine aw_iload (pc2 := 35) hk dX7_undo_33 rfl rfl ?_
          refine aw_bipush (v := nI 12) (pc2 := 37) hk dX7_undo_35 rfl (by decide) ?_
          refine aw_iload_n (pc2 := 38) hk dX7_undo_37 rfl rfl ?_
          refine aw_imul (pc2 := 39) hk dX7_undo_38 rfl ?_
          refine aw_aload_n (pc2 := 40) hk dX7_undo_39 rfl rfl ?_
          refine aw_get (pc2 := 43) hk ckX7 23 dX7_undo_40 rfl fl_X7_63 (by decide) (o_X7 rfl) rfl ?_
          refine aw_iload_n (pc2 := 44) hk dX7_undo_43 rfl rfl ?_
          refine h_iald (pc2 := 45) hk dX7_undo_44 rfl rfl rfl (by omega) (by decide) ?_
          refine aw_iadd (pc2 := 46) hk dX7_undo_45 rfl ?_
          refine aw_icN_ge (x := 12 * (oc - 1) + i) (y := 12 * (oc - 1) + nc (oc - 1)) (tgt := 73) (pc2 := 49) hk dX7_undo_46 (by decide) rfl rfl (by rw [hn1]; exact mulN 12 (oc - 1) _) (by omega) (by omega) (fun c46 => ?_) (fun c46 => ?_)
          · have ei : i = nc (oc - 1) := by omega
            subst ei
            refine aw_iconst (v := 0) (pc2 := 74) hk dX7_undo_73 rfl (by decide) ?_
            refine aw_istore (pc2 := 76) hk dX7_undo_74 rfl (by decide) ?_
            show AW K Q _ _ 76 [_, _, _, _, _] _ _ _
            refine aw_I (rowU I 83 0 (fun c => if I 83 c = nI oc then 0 else I 83 c)) (rowU_0 _ _ _).symm ?_
            exact loop2 257 0 (by omega) (by omega)
          · refine aw_lload_n (pc2 := 50) hk dX7_undo_49 rfl rfl ?_
            refine aw_aload_n (pc2 := 51) hk dX7_undo_50 rfl rfl ?_
            refine aw_get (pc2 := 54) hk ckX7 34 dX7_undo_51 rfl fl_X7_97 (by decide) (o_X7 rfl) rfl ?_
            refine aw_iload (pc2 := 56) hk dX7_undo_54 rfl rfl ?_
            refine h_lald (pc2 := 57) hk dX7_undo_56 rfl rfl rfl (by omega) (by decide) ?_
            refine aw_aload_n (pc2 := 58) hk dX7_undo_57 rfl rfl ?_
            refine aw_get (pc2 := 61) hk ckX7 35 dX7_undo_58 rfl fl_X7_100 (by decide) (o_X7 rfl) rfl ?_
            refine aw_iload (pc2 := 63) hk dX7_undo_61 rfl rfl ?_
            refine h_lald (pc2 := 64) hk dX7_undo_63 rfl rfl rfl (by omega) (by decide) ?_
            refine aw_ladd (pc2 := 65) hk dX7_undo_64 rfl ?_
            refine aw_ladd (pc2 := 66) hk dX7_undo_65 rfl ?_
            refine aw_lstore_n (pc2 := 67) hk dX7_undo_66 rfl (by decide) ?_
            show AW K Q _ _ 67 [_, _, _, _, _] _ _ _
            refine aw_iinc1 (pc2 := 70) hk dX7_undo_67 rfl rfl (by decide) ?_
            show AW K Q _ _ 70 [_, _, _, _, _] _ _ _
            refine aw_goto (tgt := 33) hk dX7_undo_70 (by decide) ?_
            exact ih (i + 1) (by omega) (by omega)
      refine aw_lconst (v := 0) (pc2 := 26) hk dX7_undo_25 rfl (by decide) ?_
      refine aw_lstore_n (pc2 := 27) hk dX7_undo_26 rfl (by decide) ?_
      show AW K Q _ _ 27 [_, _, _, _, _] _ _ _
      refine aw_bipush (v := nI 12) (pc2 := 29) hk dX7_undo_27 rfl (by decide) ?_
      refine aw_iload_n (pc2 := 30) hk dX7_undo_29 rfl rfl ?_
      refine aw_imul (pc2 := 31) hk dX7_undo_30 rfl ?_
      rw [pk_mul]
      refine aw_istore (pc2 := 33) hk dX7_undo_31 rfl (by decide) ?_
      show AW K Q _ _ 33 [_, _, _, _, _] _ _ _
      exact loop (nc (oc - 1) + 1) 0 (by omega) (by omega)
    · refine aw_ldc2 (pc2 := 17) hk dX7_undo_14 rfl kl_X7_241 ?_
      refine aw_lret hk dX7_undo_17 (Nat.le_of_ble_eq_true rfl) (Nat.le_of_ble_eq_true rfl) (by
  first
    | exact hq1 (fun h9 => by rw [h9.2] at c11; exact c11 rfl)
    | exact hq1 (fun h9 => nI_ne0 h9.1 (by omega) c4))
set_option maxHeartbeats 800000 in
set_option maxRecDepth 100000 in
theorem m_lossBefore {n : Nat} {d : D2} {I : M2} {J : J2} {S : M2} {L : J2} {R : R2} {Q : QT} {w g fc oc uc td : Nat} {md op : Bool} (hB : MB S w g fc oc uc td md op) {nc : Nat → Nat} (hN : OM I oc nc) {k : Nat} (hk7 : k < 720) (h0 : 0 < oc) (hq : Q (some (.long (sL (fun o => sL (fun j => if I 96 (12 * o + j) = I 96 k then J 102 (12 * o + j) else 0) (nc o)) (oc - 1)))) n (H5 d I J S L R)) : Calls yX7_lossBefore cX7_lossBefore 6 (some .long) rmX7_lossBefore [.ref 78, .int (nI k)] n (H5 d I J S L R) Q := by
  refine Calls.of (by decide) (Nat.le_of_ble_eq_true rfl) ?_
  intro K hk
  show AW K Q 0 0 0 [some (.ref 78), some (.int (nI k)), none, none, none, none] [] n (H5 d I J S L R)
  obtain ⟨hw, hg, hw1, hw6, hg1, hg6, hfc, hfc2, hoc, hoc6, huc, huc5, htd, htd4, hmd, hop⟩ := id hB
  have loop : ∀ (k1 o : Nat), o ≤ oc - 1 → oc - 1 + 1 ≤ o + k1 → AW K Q 0 0 5 [some (.ref 78), some (.int (nI k)), some (.long (sL (fun o => sL (fun j => if I 96 (12 * o + j) = I 96 k then J 102 (12 * o + j) else 0) (nc o)) o)), none, some (.int (nI o)), none] [] n (H5 d I J S L R) := by
    intro k1
    induction k1 with
    | zero => intro o h1 h2; omega
    | succ k1 ih =>
      intro o hi hn
      refine aw_iload (pc2 := 7) hk dX7_lossBefore_5 rfl rfl ?_
      refine aw_aload_n (pc2 := 8) hk dX7_lossBefore_7 rfl rfl ?_
      refine aw_get (pc2 := 11) hk ckX7 19 dX7_lossBefore_8 rfl fl_X7_197 (by decide) (o_X7 rfl) rfl ?_
      refine aw_iconst (v := 1) (pc2 := 12) hk dX7_lossBefore_11 rfl (by decide) ?_
      refine aw_isub (pc2 := 13) hk dX7_lossBefore_12 rfl ?_
      refine aw_top (nI (oc - 1)) (by rw [hoc]; exact pk_sub (a := oc) (b := 1) (by omega)) ?_
      refine aw_icN_ge (x := o) (y := oc - 1) (tgt := 83) (pc2 := 16) hk dX7_lossBefore_13 (by decide) rfl rfl rfl (by omega) (by omega) (fun c13 => ?_) (fun c13 => ?_)
      · obtain rfl : o = oc - 1 := by omega
        refine aw_lload_n (pc2 := 84) hk dX7_lossBefore_83 rfl rfl ?_
        refine aw_lret hk dX7_lossBefore_84 (Nat.le_of_ble_eq_true rfl) (Nat.le_of_ble_eq_true rfl) hq
      · obtain ⟨hn1, hn2⟩ := hN o (by omega)
        have loop2 : ∀ (k2 j : Nat), j ≤ nc o → nc o + 1 ≤ j + k2 → AW K Q 0 0 23 [some (.ref 78), some (.int (nI k)), some (.long (sL (fun o => sL (fun j => if I 96 (12 * o + j) = I 96 k then J 102 (12 * o + j) else 0) (nc o)) o + sL (fun j => if I 96 (12 * o + j) = I 96 k then J 102 (12 * o + j) else 0) j)), none, some (.int (nI o)), some (.int (nI (12 * o + j)))] [] n (H5 d I J S L R) := by
          intro k2
          induction k2 with
          | zero => intro j h1 h2; omega
          | succ k2 ih2 =>
            intro j hj hn2
            refine aw_iload (pc2 := 25) hk dX7_lossBefore_23 rfl rfl ?_
            refine aw_bipush (v := nI 12) (pc2 := 27) hk dX7_lossBefore_25 rfl (by decide) ?_
            refine aw_iload (pc2 := 29) hk dX7_lossBefore_27 rfl rfl ?_
            refine aw_imul (pc2 := 30) hk dX7_lossBefore_29 rfl ?_
            refine aw_aload_n (pc2 := 31) hk dX7_lossBefore_30 rfl rfl ?_
            refine aw_get (pc2 := 34) hk ckX7 23 dX7_lossBefore_31 rfl fl_X7_63 (by decide) (o_X7 rfl) rfl ?_
            refine aw_iload (pc2 := 36) hk dX7_lossBefore_34 rfl rfl ?_
            refine h_iald (pc2 := 37) hk dX7_lossBefore_36 rfl rfl rfl (by omega) (by decide) ?_
            refine aw_iadd (pc2 := 38) hk dX7_lossBefore_37 rfl ?_
            refine aw_icN_ge (x := 12 * o + j) (y := 12 * o + nc o) (tgt := 77) (pc2 := 41) hk dX7_lossBefore_38 (by decide) rfl rfl (by rw [hn1]; exact mulN 12 o _) (by omega) (by omega) (fun c38 => ?_) (fun c38 => ?_)
            · obtain rfl : j = nc o := by omega
              refine aw_iinc1 (pc2 := 80) hk dX7_lossBefore_77 rfl rfl (by decide) ?_
              show AW K Q _ _ 80 [_, _, _, _, _, _] _ _ _
              refine aw_goto (tgt := 5) hk dX7_lossBefore_80 (by decide) ?_
              refine aw_fg 5 ?_
              exact ih (o + 1) (by omega) (by omega)
            · refine aw_lload_n (pc2 := 42) hk dX7_lossBefore_41 rfl rfl ?_
              refine aw_aload_n (pc2 := 43) hk dX7_lossBefore_42 rfl rfl ?_
              refine aw_get (pc2 := 46) hk ckX7 25 dX7_lossBefore_43 rfl fl_X7_69 (by decide) (o_X7 rfl) rfl ?_
              refine aw_iload (pc2 := 48) hk dX7_lossBefore_46 rfl rfl ?_
              refine h_iald (pc2 := 49) hk dX7_lossBefore_48 rfl rfl rfl (by omega) (by decide) ?_
              refine aw_aload_n (pc2 := 50) hk dX7_lossBefore_49 rfl rfl ?_
              refine aw_get (pc2 := 53) hk ckX7 25 dX7_lossBefore_50 rfl fl_X7_69 (by decide) (o_X7 rfl) rfl ?_
              refine aw_iload_n (pc2 := 54) hk dX7_lossBefore_53 rfl rfl ?_
              refine h_iald (pc2 := 55) hk dX7_lossBefore_54 rfl rfl rfl hk7 (by decide) ?_
              refine aw_icmp_ne (tgt := 68) (pc2 := 58) hk dX7_lossBefore_55 (by decide) rfl (fun c55 => ?_) (fun c55 => ?_)
              · refine aw_lconst (v := 0) (pc2 := 69) hk dX7_lossBefore_68 rfl (by decide) ?_
                refine aw_ladd (pc2 := 70) hk dX7_lossBefore_69 rfl ?_
                refine aw_topL (sL (fun o => sL (fun j => if I 96 (12 * o + j) = I 96 k then J 102 (12 * o + j) else 0) (nc o)) o + sL (fun j => if I 96 (12 * o + j) = I 96 k then J 102 (12 * o + j) else 0) (j + 1)) (by show sL (fun o => sL (fun j => if I 96 (12 * o + j) = I 96 k then J 102 (12 * o + j) else 0) (nc o)) o + sL (fun j => if I 96 (12 * o + j) = I 96 k then J 102 (12 * o + j) else 0) j + _ = sL (fun o => sL (fun j => if I 96 (12 * o + j) = I 96 k then J 102 (12 * o + j) else 0) (nc o)) o + (sL (fun j => if I 96 (12 * o + j) = I 96 k then J 102 (12 * o + j) else 0) j + (if I 96 (12 * o + j) = I 96 k then J 102 (12 * o + j) else 0)); rw [Int64.add_assoc]; first | rw [if_pos c55] | rw [if_neg c55]) ?_
                refine aw_lstore_n (pc2 := 71) hk dX7_lossBefore_70 rfl (by decide) ?_
                show AW K Q _ _ 71 [_, _, _, _, _, _] _ _ _
                refine aw_iinc1 (pc2 := 74) hk dX7_lossBefore_71 rfl rfl (by decide) ?_
                show AW K Q _ _ 74 [_, _, _, _, _, _] _ _ _
                refine aw_goto (tgt := 23) hk dX7_lossBefore_74 (by decide) ?_
                exact ih2 (j + 1) (by omega) (by omega)
              · refine aw_aload_n (pc2 := 59) hk dX7_lossBefore_58 rfl rfl ?_
                refine aw_get (pc2 := 62) hk ckX7 31 dX7_lossBefore_59 rfl fl_X7_88 (by decide) (o_X7 rfl) rfl ?_
                refine aw_iload (pc2 := 64) hk dX7_lossBefore_62 rfl rfl ?_
                refine h_lald (pc2 := 65) hk dX7_lossBefore_64 rfl rfl rfl (by omega) (by decide) ?_
                refine aw_goto (tgt := 69) hk dX7_lossBefore_65 (by decide) ?_
                refine aw_ladd (pc2 := 70) hk dX7_lossBefore_69 rfl ?_
                refine aw_topL (sL (fun o => sL (fun j => if I 96 (12 * o + j) = I 96 k then J 102 (12 * o + j) else 0) (nc o)) o + sL (fun j => if I 96 (12 * o + j) = I 96 k then J 102 (12 * o + j) else 0) (j + 1)) (by show sL (fun o => sL (fun j => if I 96 (12 * o + j) = I 96 k then J 102 (12 * o + j) else 0) (nc o)) o + sL (fun j => if I 96 (12 * o + j) = I 96 k then J 102 (12 * o + j) else 0) j + _ = sL (fun o => sL (fun j => if I 96 (12 * o + j) = I 96 k then J 102 (12 * o + j) else 0) (nc o)) o + (sL (fun j => if I 96 (12 * o + j) = I 96 k then J 102 (12 * o + j) else 0) j + (if I 96 (12 * o + j) = I 96 k then J 102 (12 * o + j) else 0)); rw [Int64.add_assoc]; first | rw [if_pos c55] | rw [if_neg c55]) ?_
                refine aw_lstore_n (pc2 := 71) hk dX7_lossBefore_70 rfl (by decide) ?_
                show AW K Q _ _ 71 [_, _, _, _, _, _] _ _ _
                refine aw_iinc1 (pc2 := 74) hk dX7_lossBefore_71 rfl rfl (by decide) ?_
                show AW K Q _ _ 74 [_, _, _, _, _, _] _ _ _
                refine aw_goto (tgt := 23) hk dX7_lossBefore_74 (by decide) ?_
                exact ih2 (j + 1) (by omega) (by omega)
        refine aw_bipush (v := nI 12) (pc2 := 18) hk dX7_lossBefore_16 rfl (by decide) ?_
        refine aw_iload (pc2 := 20) hk dX7_lossBefore_18 rfl rfl ?_
        refine aw_imul (pc2 := 21) hk dX7_lossBefore_20 rfl ?_
        rw [pk_mul]
        refine aw_istore (pc2 := 23) hk dX7_lossBefore_21 rfl (by decide) ?_
        show AW K Q _ _ 23 [_, _, _, _, _, _] _ _ _
        refine aw_lv [some (.ref 78), some (.int (nI k)), some (.long (sL (fun o => sL (fun j => if I 96 (12 * o + j) = I 96 k then J 102 (12 * o + j) else 0) (nc o)) o + sL (fun j => if I 96 (12 * o + j) = I 96 k then J 102 (12 * o + j) else 0) 0)), none, some (.int (nI o)), some (.int (nI (12 * o + 0)))] (by show _ = [_, _, some (Value.long (_ + 0)), _, _, _]; rw [Int64.add_zero]; rfl) ?_
        exact loop2 (nc o + 1) 0 (by omega) (by omega)
  refine aw_lconst (v := 0) (pc2 := 1) hk dX7_lossBefore_0 rfl (by decide) ?_
  refine aw_lstore_n (pc2 := 2) hk dX7_lossBefore_1 rfl (by decide) ?_
  show AW K Q _ _ 2 [_, _, _, _, _, _] _ _ _
  refine aw_iconst (v := 0) (pc2 := 3) hk dX7_lossBefore_2 rfl (by decide) ?_
  refine aw_istore (pc2 := 5) hk dX7_lossBefore_3 rfl (by decide) ?_
  show AW K Q _ _ 5 [_, _, _, _, _, _] _ _ _
  exact loop oc 0 (by omega) (by omega)
theorem j_sub1 (a b c x : Int64) : a - (b + c) - x = a - (b + (c + x)) := by
  simp only [Int64.sub_eq_add_neg, Int64.add_assoc, Int64.neg_add]
set_option maxHeartbeats 800000 in
set_option maxRecDepth 100000 in
theorem m_debtLeft {n : Nat} {d : D2} {I : M2} {J : J2} {S : M2} {L : J2} {R : R2} {Q : QT} {w g fc oc uc td : Nat} {md op : Bool} (hB : MB S w g fc oc uc td md op) {nc : Nat → Nat} (hN : OM I oc nc) {f r : Nat} (hf : f < 12) (hr : r < 4) (hq : Q (some (.long ((I 87 (4 * f + r)).toInt64 - sL (fun o => sL (fun j => if I 96 (12 * o + j) = nI f then J 109 (4 * (12 * o + j) + r) else 0) (nc o)) oc))) n (H5 d I J S L R)) : Calls yX7_debtLeft cX7_debtLeft 7 (some .long) rmX7_debtLeft [.ref 78, .int (nI f), .int (nI r)] n (H5 d I J S L R) Q := by
  refine Calls.of (by decide) (Nat.le_of_ble_eq_true rfl) ?_
  intro K hk
  show AW K Q 0 0 0 [some (.ref 78), some (.int (nI f)), some (.int (nI r)), none, none, none, none] [] n (H5 d I J S L R)
  obtain ⟨hw, hg, hw1, hw6, hg1, hg6, hfc, hfc2, hoc, hoc6, huc, huc5, htd, htd4, hmd, hop⟩ := id hB
  have loop : ∀ (k1 o : Nat), o ≤ oc → oc + 1 ≤ o + k1 → AW K Q 0 0 15 [some (.ref 78), some (.int (nI f)), some (.int (nI r)), some (.long ((I 87 (4 * f + r)).toInt64 - sL (fun o => sL (fun j => if I 96 (12 * o + j) = nI f then J 109 (4 * (12 * o + j) + r) else 0) (nc o)) o)), none, some (.int (nI o)), none] [] n (H5 d I J S L R) := by
    intro k1
    induction k1 with
    | zero => intro o h1 h2; omega
    | succ k1 ih =>
      intro o hi hn
      refine aw_iload (pc2 := 17) hk dX7_debtLeft_15 rfl rfl ?_
      refine aw_aload_n (pc2 := 18) hk dX7_debtLeft_17 rfl rfl ?_
      refine aw_get (pc2 := 21) hk ckX7 19 dX7_debtLeft_18 rfl fl_X7_197 (by decide) (o_X7 rfl) rfl ?_
      refine aw_icN_ge (x := o) (y := oc) (tgt := 90) (pc2 := 24) hk dX7_debtLeft_21 (by decide) rfl rfl hoc (by omega) (by omega) (fun c21 => ?_) (fun c21 => ?_)
      · obtain rfl : o = oc := by omega
        refine aw_lload_n (pc2 := 91) hk dX7_debtLeft_90 rfl rfl ?_
        refine aw_lret hk dX7_debtLeft_91 (Nat.le_of_ble_eq_true rfl) (Nat.le_of_ble_eq_true rfl) hq
      · obtain ⟨hn1, hn2⟩ := hN o (by omega)
        have loop2 : ∀ (k2 j : Nat), j ≤ nc o → nc o + 1 ≤ j + k2 → AW K Q 0 0 31 [some (.ref 78), some (.int (nI f)), some (.int (nI r)), some (.long ((I 87 (4 * f + r)).toInt64 - (sL (fun o => sL (fun j => if I 96 (12 * o + j) = nI f then J 109 (4 * (12 * o + j) + r) else 0) (nc o)) o + sL (fun j => if I 96 (12 * o + j) = nI f then J 109 (4 * (12 * o + j) + r) else 0) j))), none, some (.int (nI o)), some (.int (nI (12 * o + j)))] [] n (H5 d I J S L R) := by
          intro k2
          induction k2 with
          | zero => intro j h1 h2; omega
          | succ k2 ih2 =>
            intro j hj hn2
            refine aw_iload (pc2 := 33) hk dX7_debtLeft_31 rfl rfl ?_
            refine aw_bipush (v := nI 12) (pc2 := 35) hk dX7_debtLeft_33 rfl (by decide) ?_
            refine aw_iload (pc2 := 37) hk dX7_debtLeft_35 rfl rfl ?_
            refine aw_imul (pc2 := 38) hk dX7_debtLeft_37 rfl ?_
            refine aw_aload_n (pc2 := 39) hk dX7_debtLeft_38 rfl rfl ?_
            refine aw_get (pc2 := 42) hk ckX7 23 dX7_debtLeft_39 rfl fl_X7_63 (by decide) (o_X7 rfl) rfl ?_
            refine aw_iload (pc2 := 44) hk dX7_debtLeft_42 rfl rfl ?_
            refine h_iald (pc2 := 45) hk dX7_debtLeft_44 rfl rfl rfl (by omega) (by decide) ?_
            refine aw_iadd (pc2 := 46) hk dX7_debtLeft_45 rfl ?_
            refine aw_icN_ge (x := 12 * o + j) (y := 12 * o + nc o) (tgt := 84) (pc2 := 49) hk dX7_debtLeft_46 (by decide) rfl rfl (by rw [hn1]; exact mulN 12 o _) (by omega) (by omega) (fun c46 => ?_) (fun c46 => ?_)
            · obtain rfl : j = nc o := by omega
              refine aw_iinc1 (pc2 := 87) hk dX7_debtLeft_84 rfl rfl (by decide) ?_
              show AW K Q _ _ 87 [_, _, _, _, _, _, _] _ _ _
              refine aw_goto (tgt := 15) hk dX7_debtLeft_87 (by decide) ?_
              refine aw_fg 6 ?_
              exact ih (o + 1) (by omega) (by omega)
            · refine aw_lload_n (pc2 := 50) hk dX7_debtLeft_49 rfl rfl ?_
              refine aw_aload_n (pc2 := 51) hk dX7_debtLeft_50 rfl rfl ?_
              refine aw_get (pc2 := 54) hk ckX7 25 dX7_debtLeft_51 rfl fl_X7_69 (by decide) (o_X7 rfl) rfl ?_
              refine aw_iload (pc2 := 56) hk dX7_debtLeft_54 rfl rfl ?_
              refine h_iald (pc2 := 57) hk dX7_debtLeft_56 rfl rfl rfl (by omega) (by decide) ?_
              refine aw_iload_n (pc2 := 58) hk dX7_debtLeft_57 rfl rfl ?_
              refine aw_icmp_ne (tgt := 75) (pc2 := 61) hk dX7_debtLeft_58 (by decide) rfl (fun c58 => ?_) (fun c58 => ?_)
              · refine aw_lconst (v := 0) (pc2 := 76) hk dX7_debtLeft_75 rfl (by decide) ?_
                refine aw_lsub (pc2 := 77) hk dX7_debtLeft_76 rfl ?_
                refine aw_topL ((I 87 (4 * f + r)).toInt64 - (sL (fun o => sL (fun j => if I 96 (12 * o + j) = nI f then J 109 (4 * (12 * o + j) + r) else 0) (nc o)) o + sL (fun j => if I 96 (12 * o + j) = nI f then J 109 (4 * (12 * o + j) + r) else 0) (j + 1))) (by rw [show sL (fun j => if I 96 (12 * o + j) = nI f then J 109 (4 * (12 * o + j) + r) else 0) (j + 1) = sL (fun j => if I 96 (12 * o + j) = nI f then J 109 (4 * (12 * o + j) + r) else 0) j + (if I 96 (12 * o + j) = nI f then J 109 (4 * (12 * o + j) + r) else 0) from rfl, ← j_sub1]; first | rw [if_pos c58] | rw [if_neg c58]) ?_
                refine aw_lstore_n (pc2 := 78) hk dX7_debtLeft_77 rfl (by decide) ?_
                show AW K Q _ _ 78 [_, _, _, _, _, _, _] _ _ _
                refine aw_iinc1 (pc2 := 81) hk dX7_debtLeft_78 rfl rfl (by decide) ?_
                show AW K Q _ _ 81 [_, _, _, _, _, _, _] _ _ _
                refine aw_goto (tgt := 31) hk dX7_debtLeft_81 (by decide) ?_
                exact ih2 (j + 1) (by omega) (by omega)
              · refine aw_aload_n (pc2 := 62) hk dX7_debtLeft_61 rfl rfl ?_
                refine aw_get (pc2 := 65) hk ckX7 38 dX7_debtLeft_62 rfl fl_X7_109 (by decide) (o_X7 rfl) rfl ?_
                refine aw_iconst (v := nI 4) (pc2 := 66) hk dX7_debtLeft_65 rfl (by decide) ?_
                refine aw_iload (pc2 := 68) hk dX7_debtLeft_66 rfl rfl ?_
                refine aw_imul (pc2 := 69) hk dX7_debtLeft_68 rfl ?_
                refine aw_iload_n (pc2 := 70) hk dX7_debtLeft_69 rfl rfl ?_
                refine aw_iadd (pc2 := 71) hk dX7_debtLeft_70 rfl ?_
                rw [mulN]
                refine h_lald (pc2 := 72) hk dX7_debtLeft_71 rfl rfl rfl (by omega) (by decide) ?_
                refine aw_goto (tgt := 76) hk dX7_debtLeft_72 (by decide) ?_
                refine aw_lsub (pc2 := 77) hk dX7_debtLeft_76 rfl ?_
                refine aw_topL ((I 87 (4 * f + r)).toInt64 - (sL (fun o => sL (fun j => if I 96 (12 * o + j) = nI f then J 109 (4 * (12 * o + j) + r) else 0) (nc o)) o + sL (fun j => if I 96 (12 * o + j) = nI f then J 109 (4 * (12 * o + j) + r) else 0) (j + 1))) (by rw [show sL (fun j => if I 96 (12 * o + j) = nI f then J 109 (4 * (12 * o + j) + r) else 0) (j + 1) = sL (fun j => if I 96 (12 * o + j) = nI f then J 109 (4 * (12 * o + j) + r) else 0) j + (if I 96 (12 * o + j) = nI f then J 109 (4 * (12 * o + j) + r) else 0) from rfl, ← j_sub1]; first | rw [if_pos c58] | rw [if_neg c58]) ?_
                refine aw_lstore_n (pc2 := 78) hk dX7_debtLeft_77 rfl (by decide) ?_
                show AW K Q _ _ 78 [_, _, _, _, _, _, _] _ _ _
                refine aw_iinc1 (pc2 := 81) hk dX7_debtLeft_78 rfl rfl (by decide) ?_
                show AW K Q _ _ 81 [_, _, _, _, _, _, _] _ _ _
                refine aw_goto (tgt := 31) hk dX7_debtLeft_81 (by decide) ?_
                exact ih2 (j + 1) (by omega) (by omega)
        refine aw_bipush (v := nI 12) (pc2 := 26) hk dX7_debtLeft_24 rfl (by decide) ?_
        refine aw_iload (pc2 := 28) hk dX7_debtLeft_26 rfl rfl ?_
        refine aw_imul (pc2 := 29) hk dX7_debtLeft_28 rfl ?_
        rw [pk_mul]
        refine aw_istore (pc2 := 31) hk dX7_debtLeft_29 rfl (by decide) ?_
        show AW K Q _ _ 31 [_, _, _, _, _, _, _] _ _ _
        refine aw_lv [some (.ref 78), some (.int (nI f)), some (.int (nI r)), some (.long ((I 87 (4 * f + r)).toInt64 - (sL (fun o => sL (fun j => if I 96 (12 * o + j) = nI f then J 109 (4 * (12 * o + j) + r) else 0) (nc o)) o + sL (fun j => if I 96 (12 * o + j) = nI f then J 109 (4 * (12 * o + j) + r) else 0) 0))), none, some (.int (nI o)), some (.int (nI (12 * o + 0)))] (by show _ = [_, _, _, some (Value.long (_ - (_ + 0))), _, _, _]; rw [Int64.add_zero]; rfl) ?_
        exact loop2 (nc o + 1) 0 (by omega) (by omega)
  refine aw_aload_n (pc2 := 1) hk dX7_debtLeft_0 rfl rfl ?_
  refine aw_get (pc2 := 4) hk ckX7 11 dX7_debtLeft_1 rfl fl_X7_42 (by decide) (o_X7 rfl) rfl ?_
  refine aw_iconst (v := nI 4) (pc2 := 5) hk dX7_debtLeft_4 rfl (by decide) ?_
  refine aw_iload_n (pc2 := 6) hk dX7_debtLeft_5 rfl rfl ?_
  refine aw_imul (pc2 := 7) hk dX7_debtLeft_6 rfl ?_
  refine aw_iload_n (pc2 := 8) hk dX7_debtLeft_7 rfl rfl ?_
  refine aw_iadd (pc2 := 9) hk dX7_debtLeft_8 rfl ?_
  rw [mulN]
  refine h_iald (pc2 := 10) hk dX7_debtLeft_9 rfl rfl rfl (by omega) (by decide) ?_
  refine aw_i2l (pc2 := 11) hk dX7_debtLeft_10 rfl ?_
  refine aw_lstore_n (pc2 := 12) hk dX7_debtLeft_11 rfl (by decide) ?_
  show AW K Q _ _ 12 [_, _, _, _, _, _, _] _ _ _
  refine aw_iconst (v := 0) (pc2 := 13) hk dX7_debtLeft_12 rfl (by decide) ?_
  refine aw_istore (pc2 := 15) hk dX7_debtLeft_13 rfl (by decide) ?_
  show AW K Q _ _ 15 [_, _, _, _, _, _, _] _ _ _
  refine aw_lv [some (.ref 78), some (.int (nI f)), some (.int (nI r)), some (.long ((I 87 (4 * f + r)).toInt64 - sL (fun o => sL (fun j => if I 96 (12 * o + j) = nI f then J 109 (4 * (12 * o + j) + r) else 0) (nc o)) 0)), none, some (.int (nI 0)), none] (by show _ = [_, _, _, some (Value.long (_ - 0)), _, _, _]; rw [Int64.sub_zero]; rfl) ?_
  exact loop (oc + 1) 0 (by omega) (by omega)
