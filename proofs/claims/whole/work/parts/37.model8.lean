theorem mnL_c (x y : Int64) : mnL x y = mnL y x := by
  unfold mnL
  by_cases h1 : y < x
  · rw [if_pos h1, if_neg (by rw [j_lt] at *; omega)]
  · rw [if_neg h1]
    by_cases h2 : x < y
    · rw [if_pos h2]
    · rw [if_neg h2]
      apply Int64.toInt_inj.mp
      rw [j_lt] at *
      omega
theorem u2_cm {α : Type} (M : Nat → Nat → α) {a a' : Nat} (j j' : Nat) (x y : α) (h : a ≠ a') : u2 (u2 M a j x) a' j' y = u2 (u2 M a' j' y) a j x := by
  funext b c
  simp only [u2]
  by_cases hb : b = a'
  · subst hb
    have : ¬ (b = a) := fun e => h e.symm
    simp [this]
  · simp [hb]
theorem u2_id {α : Type} (M : Nat → Nat → α) (a j : Nat) {x : α} (h : M a j = x) : u2 M a j x = M := by
  funext b c
  simp only [u2]
  split
  · rename_i hc; rw [hc.1, hc.2]; exact h.symm
  · rfl
def gt4 (J : J2) (k r : Nat) (p : Nat → Int64) : J2 := fun b c => if b = 109 ∧ 4 * k ≤ c ∧ c < 4 * k + r then p (c - 4 * k) else J b c
theorem gt4_0 (J : J2) (k : Nat) (p : Nat → Int64) : gt4 J k 0 p = J := by
  funext b c
  unfold gt4
  exact if_neg (by omega)
theorem gt4_st (J : J2) (k r : Nat) (p : Nat → Int64) {x : Int64} (hx : x = p r) : u2 (gt4 J k r p) 109 (4 * k + r) x = gt4 J k (r + 1) p := by
  subst hx
  funext b c
  simp only [u2, gt4]
  by_cases hb : b = 109
  · by_cases hc : c = 4 * k + r
    · subst hc
      rw [if_pos ⟨hb, rfl⟩, if_pos ⟨hb, by omega, by omega⟩, Nat.add_sub_cancel_left]
    · rw [if_neg (fun h => hc h.2)]
      by_cases hl : 4 * k ≤ c ∧ c < 4 * k + r
      · rw [if_pos ⟨hb, hl⟩, if_pos ⟨hb, hl.1, by omega⟩]
      · rw [if_neg (fun h => hl h.2), if_neg (fun h => hl ⟨h.2.1, by omega⟩)]
  · rw [if_neg (fun h => hb h.1), if_neg (fun h => hb h.1), if_neg (fun h => hb h.1)]
theorem gt4_ne (J : J2) (k r : Nat) (p : Nat → Int64) {b : Nat} (h : b ≠ 109) : gt4 J k r p b = J b := by
  funext c
  unfold gt4
  exact if_neg (fun h9 => h h9.1)
theorem gt4_o (J : J2) (k r : Nat) (p : Nat → Int64) {m t : Nat} (ht : t < 4) (h : m ≠ k ∨ r ≤ t) (hr : r ≤ 4) : gt4 J k r p 109 (4 * m + t) = J 109 (4 * m + t) := by
  unfold gt4
  exact if_neg (by omega)
theorem gt4_i (J : J2) (k r : Nat) (p : Nat → Int64) {t : Nat} (ht : t < r) : gt4 J k r p 109 (4 * k + t) = p t := by
  unfold gt4
  rw [if_pos ⟨rfl, by omega, by omega⟩, Nat.add_sub_cancel_left]
def dbM (I : M2) (J : J2) (oc : Nat) (nc : Nat → Nat) (f r : Nat) : Int64 := (I 87 (4 * f + r)).toInt64 - sL (fun o => sL (fun j => if I 96 (12 * o + j) = nI f then J 109 (4 * (12 * o + j) + r) else 0) (nc o)) oc
def smP (I : M2) (J : J2) (oc : Nat) (nc : Nat → Nat) (due : Int64) (f r : Nat) (rest : Int64) : Int64 := mnL rest (if I 86 (4 * f + r) = 2 then due * (I 87 (4 * f + r)).toInt64 / 1000 else dbM I J oc nc f r)
def smR (I : M2) (J : J2) (oc : Nat) (nc : Nat → Nat) (due : Int64) (f : Nat) : Nat → Int64
  | 0 => due
  | r + 1 => smR I J oc nc due f r - smP I J oc nc due f r (smR I J oc nc due f r)
theorem smR_0 (I : M2) (J : J2) (oc : Nat) (nc : Nat → Nat) (due : Int64) (f : Nat) : smR I J oc nc due f 0 = due := rfl
theorem smR_1 (I : M2) (J : J2) (oc : Nat) (nc : Nat → Nat) (due : Int64) (f r : Nat) : smR I J oc nc due f (r + 1) = smR I J oc nc due f r - smP I J oc nc due f r (smR I J oc nc due f r) := rfl
def smG (I : M2) (J : J2) (oc : Nat) (nc : Nat → Nat) (due : Int64) (f : Nat) : Nat → Int64 := fun r => smP I J oc nc due f r (smR I J oc nc due f r)
set_option maxHeartbeats 800000 in
set_option maxRecDepth 100000 in
theorem m_share {n : Nat} {d : D2} {I : M2} {J : J2} {S : M2} {L : J2} {R : R2} {Q : QT} {w g fc oc uc td : Nat} {md op : Bool} (hB : MB S w g fc oc uc td md op) {nc : Nat → Nat} (hN : OM I oc nc) {k f rc : Nat} (hk7 : k < 720) (hf : I 96 k = nI f) (hf2 : f < 12) (hrc : I 85 f = nI rc) (hrc4 : rc ≤ 4) (hq : Q none n (H5 d I (gt4 J k rc (smG I J oc nc (duM J k) f)) S L R)) : Calls yX7_share cX7_share 10 none rmX7_share [.ref 78, .int (nI k)] n (H5 d I J S L R) Q := by
  refine Calls.of (by decide) (Nat.le_of_ble_eq_true rfl) ?_
  intro K hk
  show AW K Q 0 0 0 [some (.ref 78), some (.int (nI k)), none, none, none, none, none, none, none, none] [] n (H5 d I J S L R)
  obtain ⟨hw, hg, hw1, hw6, hg1, hg6, hfc, hfc2, hoc, hoc6, huc, huc5, htd, htd4, hmd, hop⟩ := id hB
  have loop : ∀ (k9 i : Nat), i ≤ rc → rc + 1 ≤ i + k9 → AW K Q 0 0 19 [some (.ref 78), some (.int (nI k)), some (.int (nI f)), some (.long (duM J k)), none, some (.long (smR I J oc nc (duM J k) f i)), none, some (.int (nI i)), none, none] [] n (H5 d I (gt4 J k i (smG I J oc nc (duM J k) f)) S L R) := by
    intro k9
    induction k9 with
    | zero => intro i h1 h2; omega
    | succ k9 ih =>
      intro i hi hn
      refine aw_iload (pc2 := 21) hk dX7_share_19 rfl rfl ?_
      refine aw_aload_n (pc2 := 22) hk dX7_share_21 rfl rfl ?_
      refine aw_get (pc2 := 25) hk ckX7 9 dX7_share_22 rfl fl_X7_36 (by decide) (o_X7 rfl) rfl ?_
      refine aw_iload_n (pc2 := 26) hk dX7_share_25 rfl rfl ?_
      refine h_iald (pc2 := 27) hk dX7_share_26 rfl rfl rfl (by omega) (by decide) ?_
      refine aw_icN_ge (x := i) (y := rc) (tgt := 123) (pc2 := 30) hk dX7_share_27 (by decide) rfl rfl hrc (by omega) (by omega) (fun c27 => ?_) (fun c27 => ?_)
      · obtain rfl : i = rc := by omega
        refine aw_vret hk dX7_share_123 (Nat.le_of_ble_eq_true rfl) (Nat.le_of_ble_eq_true rfl) hq
      · refine aw_aload_n (pc2 := 31) hk dX7_share_30 rfl rfl ?_
        refine aw_get (pc2 := 34) hk ckX7 10 dX7_share_31 rfl fl_X7_39 (by decide) (o_X7 rfl) rfl ?_
        refine aw_iconst (v := nI 4) (pc2 := 35) hk dX7_share_34 rfl (by decide) ?_
        refine aw_iload_n (pc2 := 36) hk dX7_share_35 rfl rfl ?_
        refine aw_imul (pc2 := 37) hk dX7_share_36 rfl ?_
        refine aw_iload (pc2 := 39) hk dX7_share_37 rfl rfl ?_
        refine aw_iadd (pc2 := 40) hk dX7_share_39 rfl ?_
        rw [mulN]
        refine h_iald (pc2 := 41) hk dX7_share_40 rfl rfl rfl (by omega) (by decide) ?_
        refine aw_iconst (v := 2) (pc2 := 42) hk dX7_share_41 rfl (by decide) ?_
        refine aw_icmp_ne (tgt := 66) (pc2 := 45) hk dX7_share_42 (by decide) rfl (fun c42 => ?_) (fun c42 => ?_)
        · refine aw_aload_n (pc2 := 67) hk dX7_share_66 rfl rfl ?_
          refine aw_iload_n (pc2 := 68) hk dX7_share_67 rfl rfl ?_
          refine aw_iload (pc2 := 70) hk dX7_share_68 rfl rfl ?_
          refine aw_cV (rm2 := rmX7_debtLeft) (pc2 := 73) hk veX7_debtLeft dX7_share_70 rfl ml_X7_237 ⟨(Nat.le_of_ble_eq_true rfl), (Nat.le_of_ble_eq_true rfl)⟩ [_, _] rfl rfl (Nat.le_of_ble_eq_true rfl) (Nat.le_of_ble_eq_true rfl) (Nat.le_of_ble_eq_true rfl) (o_X7 rfl) (m_debtLeft hB hN (by omega) (by omega) ?_)
          refine aw_topL (dbM I J oc nc f i) (by
            unfold dbM
            congr 1
            refine sL_eq _ (fun o ho => sL_eq _ (fun j hj => ?_))
            rw [gt4_o _ _ _ _ (by omega) (Or.inr (Nat.le_refl i)) (by omega)]) ?_
          refine aw_topL (if I 86 (4 * f + i) = 2 then (duM J k) * (I 87 (4 * f + i)).toInt64 / 1000 else dbM I J oc nc f i) (by first | exact (if_pos c42).symm | exact (if_neg c42).symm) ?_
          refine aw_lstore (pc2 := 75) hk dX7_share_73 rfl (by decide) ?_
          show AW K Q _ _ 75 [_, _, _, _, _, _, _, _, _, _] _ _ _
          refine aw_aload_n (pc2 := 76) hk dX7_share_75 rfl rfl ?_
          refine aw_get (pc2 := 79) hk ckX7 38 dX7_share_76 rfl fl_X7_109 (by decide) (o_X7 rfl) rfl ?_
          refine aw_iconst (v := nI 4) (pc2 := 80) hk dX7_share_79 rfl (by decide) ?_
          refine aw_iload_n (pc2 := 81) hk dX7_share_80 rfl rfl ?_
          refine aw_imul (pc2 := 82) hk dX7_share_81 rfl ?_
          refine aw_iload (pc2 := 84) hk dX7_share_82 rfl rfl ?_
          refine aw_iadd (pc2 := 85) hk dX7_share_84 rfl ?_
          rw [mulN]
          refine aw_lload (pc2 := 87) hk dX7_share_85 rfl rfl ?_
          refine aw_lload (pc2 := 89) hk dX7_share_87 rfl rfl ?_
          refine aw_lcmp (pc2 := 90) hk dX7_share_89 rfl ?_
          refine aw_if_le (tgt := 98) (pc2 := 93) hk dX7_share_90 (by decide) rfl (fun c90 => ?_) (fun c90 => ?_)
          · refine aw_lload (pc2 := 100) hk dX7_share_98 rfl rfl ?_
            refine aw_topL ((smG I J oc nc (duM J k) f) i) (by
              have h9 := c90
              rw [lg_cmp_le] at h9
              show _ = mnL _ _
              rw [mnL_c]
              first
                | exact mnL_le h9
                | exact mnL_gt h9) ?_
            refine h_last (pc2 := 101) hk dX7_share_100 rfl rfl rfl (by omega) (by decide) ?_
            rw [gt4_st J k i (smG I J oc nc (duM J k) f) rfl]
            refine aw_lload (pc2 := 103) hk dX7_share_101 rfl rfl ?_
            refine aw_aload_n (pc2 := 104) hk dX7_share_103 rfl rfl ?_
            refine aw_get (pc2 := 107) hk ckX7 38 dX7_share_104 rfl fl_X7_109 (by decide) (o_X7 rfl) rfl ?_
            refine aw_iconst (v := nI 4) (pc2 := 108) hk dX7_share_107 rfl (by decide) ?_
            refine aw_iload_n (pc2 := 109) hk dX7_share_108 rfl rfl ?_
            refine aw_imul (pc2 := 110) hk dX7_share_109 rfl ?_
            refine aw_iload (pc2 := 112) hk dX7_share_110 rfl rfl ?_
            refine aw_iadd (pc2 := 113) hk dX7_share_112 rfl ?_
            rw [mulN]
            refine h_lald (pc2 := 114) hk dX7_share_113 rfl rfl rfl (by omega) (by decide) ?_
            refine aw_lsub (pc2 := 115) hk dX7_share_114 rfl ?_
            refine aw_topL (smR I J oc nc (duM J k) f (i + 1)) (by rw [gt4_i _ _ _ _ (Nat.lt_succ_self i)]; rfl) ?_
            refine aw_lstore (pc2 := 117) hk dX7_share_115 rfl (by decide) ?_
            show AW K Q _ _ 117 [_, _, _, _, _, _, _, _, _, _] _ _ _
            refine aw_iinc1 (pc2 := 120) hk dX7_share_117 rfl rfl (by decide) ?_
            show AW K Q _ _ 120 [_, _, _, _, _, _, _, _, _, _] _ _ _
            refine aw_goto (tgt := 19) hk dX7_share_120 (by decide) ?_
            refine aw_fg 8 ?_
            exact ih (i + 1) (by omega) (by omega)
          · refine aw_lload (pc2 := 95) hk dX7_share_93 rfl rfl ?_
            refine aw_goto (tgt := 100) hk dX7_share_95 (by decide) ?_
            refine aw_topL ((smG I J oc nc (duM J k) f) i) (by
              have h9 := c90
              rw [lg_cmp_le] at h9
              show _ = mnL _ _
              rw [mnL_c]
              first
                | exact mnL_le h9
                | exact mnL_gt h9) ?_
            refine h_last (pc2 := 101) hk dX7_share_100 rfl rfl rfl (by omega) (by decide) ?_
            rw [gt4_st J k i (smG I J oc nc (duM J k) f) rfl]
            refine aw_lload (pc2 := 103) hk dX7_share_101 rfl rfl ?_
            refine aw_aload_n (pc2 := 104) hk dX7_share_103 rfl rfl ?_
            refine aw_get (pc2 := 107) hk ckX7 38 dX7_share_104 rfl fl_X7_109 (by decide) (o_X7 rfl) rfl ?_
            refine aw_iconst (v := nI 4) (pc2 := 108) hk dX7_share_107 rfl (by decide) ?_
            refine aw_iload_n (pc2 := 109) hk dX7_share_108 rfl rfl ?_
            refine aw_imul (pc2 := 110) hk dX7_share_109 rfl ?_
            refine aw_iload (pc2 := 112) hk dX7_share_110 rfl rfl ?_
            refine aw_iadd (pc2 := 113) hk dX7_share_112 rfl ?_
            rw [mulN]
            refine h_lald (pc2 := 114) hk dX7_share_113 rfl rfl rfl (by omega) (by decide) ?_
            refine aw_lsub (pc2 := 115) hk dX7_share_114 rfl ?_
            refine aw_topL (smR I J oc nc (duM J k) f (i + 1)) (by rw [gt4_i _ _ _ _ (Nat.lt_succ_self i)]; rfl) ?_
            refine aw_lstore (pc2 := 117) hk dX7_share_115 rfl (by decide) ?_
            show AW K Q _ _ 117 [_, _, _, _, _, _, _, _, _, _] _ _ _
            refine aw_iinc1 (pc2 := 120) hk dX7_share_117 rfl rfl (by decide) ?_
            show AW K Q _ _ 120 [_, _, _, _, _, _, _, _, _, _] _ _ _
            refine aw_goto (tgt := 19) hk dX7_share_120 (by decide) ?_
            refine aw_fg 8 ?_
            exact ih (i + 1) (by omega) (by omega)
        · refine aw_lload_n (pc2 := 46) hk dX7_share_45 rfl rfl ?_
          refine aw_aload_n (pc2 := 47) hk dX7_share_46 rfl rfl ?_
          refine aw_get (pc2 := 50) hk ckX7 11 dX7_share_47 rfl fl_X7_42 (by decide) (o_X7 rfl) rfl ?_
          refine aw_iconst (v := nI 4) (pc2 := 51) hk dX7_share_50 rfl (by decide) ?_
          refine aw_iload_n (pc2 := 52) hk dX7_share_51 rfl rfl ?_
          refine aw_imul (pc2 := 53) hk dX7_share_52 rfl ?_
          refine aw_iload (pc2 := 55) hk dX7_share_53 rfl rfl ?_
          refine aw_iadd (pc2 := 56) hk dX7_share_55 rfl ?_
          rw [mulN]
          refine h_iald (pc2 := 57) hk dX7_share_56 rfl rfl rfl (by omega) (by decide) ?_
          refine aw_i2l (pc2 := 58) hk dX7_share_57 rfl ?_
          refine aw_lmul (pc2 := 59) hk dX7_share_58 rfl ?_
          refine aw_ldc2 (pc2 := 62) hk dX7_share_59 rfl kl_X7_161 ?_
          refine aw_ldiv (pc2 := 63) hk dX7_share_62 rfl (by decide) ?_
          refine aw_goto (tgt := 73) hk dX7_share_63 (by decide) ?_
          refine aw_topL (if I 86 (4 * f + i) = 2 then (duM J k) * (I 87 (4 * f + i)).toInt64 / 1000 else dbM I J oc nc f i) (by first | exact (if_pos c42).symm | exact (if_neg c42).symm) ?_
          refine aw_lstore (pc2 := 75) hk dX7_share_73 rfl (by decide) ?_
          show AW K Q _ _ 75 [_, _, _, _, _, _, _, _, _, _] _ _ _
          refine aw_aload_n (pc2 := 76) hk dX7_share_75 rfl rfl ?_
          refine aw_get (pc2 := 79) hk ckX7 38 dX7_share_76 rfl fl_X7_109 (by decide) (o_X7 rfl) rfl ?_
          refine aw_iconst (v := nI 4) (pc2 := 80) hk dX7_share_79 rfl (by decide) ?_
          refine aw_iload_n (pc2 := 81) hk dX7_share_80 rfl rfl ?_
          refine aw_imul (pc2 := 82) hk dX7_share_81 rfl ?_
          refine aw_iload (pc2 := 84) hk dX7_share_82 rfl rfl ?_
          refine aw_iadd (pc2 := 85) hk dX7_share_84 rfl ?_
          rw [mulN]
          refine aw_lload (pc2 := 87) hk dX7_share_85 rfl rfl ?_
          refine aw_lload (pc2 := 89) hk dX7_share_87 rfl rfl ?_
          refine aw_lcmp (pc2 := 90) hk dX7_share_89 rfl ?_
          refine aw_if_le (tgt := 98) (pc2 := 93) hk dX7_share_90 (by decide) rfl (fun c90 => ?_) (fun c90 => ?_)
          · refine aw_lload (pc2 := 100) hk dX7_share_98 rfl rfl ?_
            refine aw_topL ((smG I J oc nc (duM J k) f) i) (by
              have h9 := c90
              rw [lg_cmp_le] at h9
              show _ = mnL _ _
              rw [mnL_c]
              first
                | exact mnL_le h9
                | exact mnL_gt h9) ?_
            refine h_last (pc2 := 101) hk dX7_share_100 rfl rfl rfl (by omega) (by decide) ?_
            rw [gt4_st J k i (smG I J oc nc (duM J k) f) rfl]
            refine aw_lload (pc2 := 103) hk dX7_share_101 rfl rfl ?_
            refine aw_aload_n (pc2 := 104) hk dX7_share_103 rfl rfl ?_
            refine aw_get (pc2 := 107) hk ckX7 38 dX7_share_104 rfl fl_X7_109 (by decide) (o_X7 rfl) rfl ?_
            refine aw_iconst (v := nI 4) (pc2 := 108) hk dX7_share_107 rfl (by decide) ?_
            refine aw_iload_n (pc2 := 109) hk dX7_share_108 rfl rfl ?_
            refine aw_imul (pc2 := 110) hk dX7_share_109 rfl ?_
            refine aw_iload (pc2 := 112) hk dX7_share_110 rfl rfl ?_
            refine aw_iadd (pc2 := 113) hk dX7_share_112 rfl ?_
            rw [mulN]
            refine h_lald (pc2 := 114) hk dX7_share_113 rfl rfl rfl (by omega) (by decide) ?_
            refine aw_lsub (pc2 := 115) hk dX7_share_114 rfl ?_
            refine aw_topL (smR I J oc nc (duM J k) f (i + 1)) (by rw [gt4_i _ _ _ _ (Nat.lt_succ_self i)]; rfl) ?_
            refine aw_lstore (pc2 := 117) hk dX7_share_115 rfl (by decide) ?_
            show AW K Q _ _ 117 [_, _, _, _, _, _, _, _, _, _] _ _ _
            refine aw_iinc1 (pc2 := 120) hk dX7_share_117 rfl rfl (by decide) ?_
            show AW K Q _ _ 120 [_, _, _, _, _, _, _, _, _, _] _ _ _
            refine aw_goto (tgt := 19) hk dX7_share_120 (by decide) ?_
            refine aw_fg 8 ?_
            exact ih (i + 1) (by omega) (by omega)
          · refine aw_lload (pc2 := 95) hk dX7_share_93 rfl rfl ?_
            refine aw_goto (tgt := 100) hk dX7_share_95 (by decide) ?_
            refine aw_topL ((smG I J oc nc (duM J k) f) i) (by
              have h9 := c90
              rw [lg_cmp_le] at h9
              show _ = mnL _ _
              rw [mnL_c]
              first
                | exact mnL_le h9
                | exact mnL_gt h9) ?_
            refine h_last (pc2 := 101) hk dX7_share_100 rfl rfl rfl (by omega) (by decide) ?_
            rw [gt4_st J k i (smG I J oc nc (duM J k) f) rfl]
            refine aw_lload (pc2 := 103) hk dX7_share_101 rfl rfl ?_
            refine aw_aload_n (pc2 := 104) hk dX7_share_103 rfl rfl ?_
            refine aw_get (pc2 := 107) hk ckX7 38 dX7_share_104 rfl fl_X7_109 (by decide) (o_X7 rfl) rfl ?_
            refine aw_iconst (v := nI 4) (pc2 := 108) hk dX7_share_107 rfl (by decide) ?_
            refine aw_iload_n (pc2 := 109) hk dX7_share_108 rfl rfl ?_
            refine aw_imul (pc2 := 110) hk dX7_share_109 rfl ?_
            refine aw_iload (pc2 := 112) hk dX7_share_110 rfl rfl ?_
            refine aw_iadd (pc2 := 113) hk dX7_share_112 rfl ?_
            rw [mulN]
            refine h_lald (pc2 := 114) hk dX7_share_113 rfl rfl rfl (by omega) (by decide) ?_
            refine aw_lsub (pc2 := 115) hk dX7_share_114 rfl ?_
            refine aw_topL (smR I J oc nc (duM J k) f (i + 1)) (by rw [gt4_i _ _ _ _ (Nat.lt_succ_self i)]; rfl) ?_
            refine aw_lstore (pc2 := 117) hk dX7_share_115 rfl (by decide) ?_
            show AW K Q _ _ 117 [_, _, _, _, _, _, _, _, _, _] _ _ _
            refine aw_iinc1 (pc2 := 120) hk dX7_share_117 rfl rfl (by decide) ?_
            show AW K Q _ _ 120 [_, _, _, _, _, _, _, _, _, _] _ _ _
            refine aw_goto (tgt := 19) hk dX7_share_120 (by decide) ?_
            refine aw_fg 8 ?_
            exact ih (i + 1) (by omega) (by omega)
  refine aw_aload_n (pc2 := 1) hk dX7_share_0 rfl rfl ?_
  refine aw_get (pc2 := 4) hk ckX7 25 dX7_share_1 rfl fl_X7_69 (by decide) (o_X7 rfl) rfl ?_
  refine aw_iload_n (pc2 := 5) hk dX7_share_4 rfl rfl ?_
  refine h_iald (pc2 := 6) hk dX7_share_5 rfl rfl rfl hk7 (by decide) ?_
  rw [hf]
  refine aw_istore_n (pc2 := 7) hk dX7_share_6 rfl (by decide) ?_
  show AW K Q _ _ 7 [_, _, _, _, _, _, _, _, _, _] _ _ _
  refine aw_aload_n (pc2 := 8) hk dX7_share_7 rfl rfl ?_
  refine aw_iload_n (pc2 := 9) hk dX7_share_8 rfl rfl ?_
  refine aw_cV (rm2 := rmX7_dueOf) (pc2 := 12) hk veX7_dueOf dX7_share_9 rfl ml_X7_234 ⟨(Nat.le_of_ble_eq_true rfl), (Nat.le_of_ble_eq_true rfl)⟩ [_] rfl rfl (Nat.le_of_ble_eq_true rfl) (Nat.le_of_ble_eq_true rfl) (Nat.le_of_ble_eq_true rfl) (o_X7 rfl) (m_dueOf hk7 ?_)
  refine aw_lstore_n (pc2 := 13) hk dX7_share_12 rfl (by decide) ?_
  show AW K Q _ _ 13 [_, _, _, _, _, _, _, _, _, _] _ _ _
  refine aw_lload_n (pc2 := 14) hk dX7_share_13 rfl rfl ?_
  refine aw_lstore (pc2 := 16) hk dX7_share_14 rfl (by decide) ?_
  show AW K Q _ _ 16 [_, _, _, _, _, _, _, _, _, _] _ _ _
  refine aw_iconst (v := 0) (pc2 := 17) hk dX7_share_16 rfl (by decide) ?_
  refine aw_istore (pc2 := 19) hk dX7_share_17 rfl (by decide) ?_
  show AW K Q _ _ 19 [_, _, _, _, _, _, _, _, _, _] _ _ _
  refine aw_Jm (gt4 J k 0 (smG I J oc nc (duM J k) f)) (gt4_0 _ _ _).symm ?_
  exact loop (rc + 1) 0 (by omega) (by omega)
def kxM (I : M2) (w g c f s : Nat) : Bool := match nbM w g c s with
  | some b => lft I b (nI f)
  | none => false
theorem kx_s {I : M2} {w g c f s b : Nat} (h : nbM w g c s = some b) : kxM I w g c f s = lft I b (nI f) := by unfold kxM; rw [h]
theorem kx_n {I : M2} {w g c f s : Nat} (h : nbM w g c s = none) : kxM I w g c f s = false := by unfold kxM; rw [h]
theorem lft_eq {I I1 : M2} (h1 : I1 79 = I 79) (h2 : I1 83 = I 83) (c : Nat) (f : Int32) : lft I1 c f = lft I c f := by unfold lft; rw [h1, h2]
theorem vl_eq {I I1 : M2} (h1 : I1 79 = I 79) (h2 : I1 83 = I 83) (f : Int32) : vl I1 f = vl I f := by funext c; unfold vl lft; rw [h1, h2]
theorem opM_eq {I I1 : M2} (h1 : I1 81 = I 81) (h2 : I1 83 = I 83) : opM I1 = opM I := by funext c; unfold opM; rw [h1, h2]
theorem prM_eq {I I1 : M2} (S : M2) (h1 : I1 80 = I 80) (h2 : I1 88 = I 88) (h3 : I1 89 = I 89) (h4 : I1 90 = I 90) (c : Nat) : prM I1 S c = prM I S c := by unfold prM; rw [h1, h2, h3, h4]
theorem bst_some (s : Nat → Int32) : ∀ k, 0 < k → ∃ m, bst s k = some m := by
  intro k hk
  cases k with
  | zero => omega
  | succ k =>
    unfold bst
    cases bst s k with
    | none => exact ⟨k, rfl⟩
    | some b =>
      simp only []
      split
      · exact ⟨k, rfl⟩
      · exact ⟨b, rfl⟩
theorem mD_some {D : DV} {house : Int32} (h : 0 < D.1) : ∃ m, mD D house = some m := by
  unfold mD
  split
  · rename_i hc
    exact Option.ne_none_iff_exists'.mp hc.2.2
  · exact bst_some _ _ h
theorem mxL_0 (x : Int64) : (if x < 0 then 0 else x) = mxL 0 x := rfl
theorem z_div : (0 : Int64) / 1000 = 0 := by decide
set_option maxHeartbeats 800000 in
set_option maxRecDepth 100000 in
theorem m_work {n : Nat} {d : D2} {I : M2} {J : J2} {S : M2} {L : J2} {R : R2} {Q : QT} {w g fc oc uc td : Nat} {md op : Bool} (hB : MB S w g fc oc uc td md op) {nc : Nat → Nat} (hN : OM I oc nc) {k f rc : Nat} (hk7 : k < 720) (h0 : 0 < oc) (hf : I 96 k = nI f) (hf2 : f < 12) (hrc : I 85 f = nI rc) (hrc4 : rc ≤ 4) (hho : lt256 (I 84 f)) (hpc : ∀ j, j < 4 → ∃ c, c ≤ 20 ∧ I 88 j = nI c ∧ ∀ i, i < c → 0 ≤ (I 89 (20 * j + i)).toInt) (hso : ∀ p, p < 256 → ∃ k, k < 4 ∧ I 80 p = nI k) (hout : ∀ c, c < 256 → (w ≤ c % 16 ∨ g ≤ c / 16) → I 79 c = -1) (h101 : J 101 k = 0) (h103 : J 103 k = 0) {vl0 vlo vf vb : Int64} (hvl : vl0 = sL (fun c => if I 114 c ≠ 0 ∧ I 79 c = nI f then (prM I S c).toInt64 else 0) 256) (hvf : vf = sL (fun c => if I 114 c ≠ 0 ∧ I 79 c = nI f then sL (fun s => if kxM I w g c f s = true then (I 91 1).toInt64 else 0) 4 else 0) 256) (hvlo : vlo = mxL 0 (sL (lD (dvS (vl I (nI f)) (adM w g) (opM I) 256) (fun c => (prM I S c).toInt64) (I 84 f) (I 91 0)) (dvS (vl I (nI f)) (adM w g) (opM I) 256).1 - sL (fun o => sL (fun j => if I 96 (12 * o + j) = nI f then J 102 (12 * o + j) else 0) (nc o)) (oc - 1))) (hvb : vb = mnL (vl0 + vlo + vf) (wM (dvS (vl I (nI f)) (adM w g) (opM I) 256) (fun c => (prM I S c).toInt64) (I 84 f) * (I 91 2).toInt64 / 1000)) (hq : ∀ I2 : M2, MR (u2 (u2 (u2 I 99 k (S 78 16)) 108 k (S 78 16)) 100 k (I 91 3)) I2 (dvS (vl I (nI f)) (adM w g) (opM I) 256) → Q none n (H5 d I2 (gt4 (u2 (u2 (u2 (u2 J 101 k vl0) 103 k vf) 102 k vlo) 104 k vb) k rc (smG I2 (u2 (u2 (u2 (u2 J 101 k vl0) 103 k vf) 102 k vlo) 104 k vb) oc nc (duM (u2 (u2 (u2 (u2 J 101 k vl0) 103 k vf) 102 k vlo) 104 k vb) k) f)) (u2 S 78 41 (nI (dvS (vl I (nI f)) (adM w g) (opM I) 256).1)) L R)) : Calls yX7_work cX7_work 10 none rmX7_work [.ref 78, .int (nI k)] n (H5 d I J S L R) Q := by
  refine Calls.of (by decide) (Nat.le_of_ble_eq_true rfl) ?_
  intro K hk
  show AW K Q 0 0 0 [some (.ref 78), some (.int (nI k)), none, none, none, none, none, none, none, none] [] n (H5 d I J S L R)
  obtain ⟨hw, hg, hw1, hw6, hg1, hg6, hfc, hfc2, hoc, hoc6, huc, huc5, htd, htd4, hmd, hop⟩ := id hB
  refine aw_aload_n (pc2 := 1) hk dX7_work_0 rfl rfl ?_
  refine aw_get (pc2 := 4) hk ckX7 25 dX7_work_1 rfl fl_X7_69 (by decide) (o_X7 rfl) rfl ?_
  refine aw_iload_n (pc2 := 5) hk dX7_work_4 rfl rfl ?_
  refine h_iald (pc2 := 6) hk dX7_work_5 rfl rfl rfl hk7 (by decide) ?_
  rw [hf]
  refine aw_istore_n (pc2 := 7) hk dX7_work_6 rfl (by decide) ?_
  show AW K Q _ _ 7 [_, _, _, _, _, _, _, _, _, _] _ _ _
  refine aw_aload_n (pc2 := 8) hk dX7_work_7 rfl rfl ?_
  refine aw_get (pc2 := 11) hk ckX7 28 dX7_work_8 rfl fl_X7_78 (by decide) (o_X7 rfl) rfl ?_
  refine aw_iload_n (pc2 := 12) hk dX7_work_11 rfl rfl ?_
  refine aw_aload_n (pc2 := 13) hk dX7_work_12 rfl rfl ?_
  refine aw_get (pc2 := 16) hk ckX7 16 dX7_work_13 rfl fl_X7_174 (by decide) (o_X7 rfl) rfl ?_
  refine h_iast (pc2 := 17) hk dX7_work_16 rfl rfl rfl hk7 (by decide) ?_
  refine aw_aload_n (pc2 := 18) hk dX7_work_17 rfl rfl ?_
  refine aw_get (pc2 := 21) hk ckX7 37 dX7_work_18 rfl fl_X7_106 (by decide) (o_X7 rfl) rfl ?_
  refine aw_iload_n (pc2 := 22) hk dX7_work_21 rfl rfl ?_
  refine aw_aload_n (pc2 := 23) hk dX7_work_22 rfl rfl ?_
  refine aw_get (pc2 := 26) hk ckX7 16 dX7_work_23 rfl fl_X7_174 (by decide) (o_X7 rfl) rfl ?_
  refine h_iast (pc2 := 27) hk dX7_work_26 rfl rfl rfl hk7 (by decide) ?_
  refine aw_aload_n (pc2 := 28) hk dX7_work_27 rfl rfl ?_
  refine aw_get (pc2 := 31) hk ckX7 29 dX7_work_28 rfl fl_X7_81 (by decide) (o_X7 rfl) rfl ?_
  refine aw_iload_n (pc2 := 32) hk dX7_work_31 rfl rfl ?_
  refine aw_aload_n (pc2 := 33) hk dX7_work_32 rfl rfl ?_
  refine aw_get (pc2 := 36) hk ckX7 15 dX7_work_33 rfl fl_X7_54 (by decide) (o_X7 rfl) rfl ?_
  refine aw_iconst (v := 3) (pc2 := 37) hk dX7_work_36 rfl (by decide) ?_
  refine h_iald (pc2 := 38) hk dX7_work_37 rfl rfl (show (3 : Int32) = nI 3 from rfl) (by decide) (by decide) ?_
  refine aw_top (I 91 3) (by rw [u2_a _ _ _ _ (by decide), u2_a _ _ _ _ (by decide)]) ?_
  refine h_iast (pc2 := 39) hk dX7_work_38 rfl rfl rfl hk7 (by decide) ?_
  have r1 : ∀ b, b ≠ 99 → b ≠ 108 → b ≠ 100 → (u2 (u2 (u2 I 99 k (S 78 16)) 108 k (S 78 16)) 100 k (I 91 3)) b = I b := fun b h1 h2 h3 => by rw [u2_row _ _ _ h3, u2_row _ _ _ h2, u2_row _ _ _ h1]
  have e79 : (u2 (u2 (u2 I 99 k (S 78 16)) 108 k (S 78 16)) 100 k (I 91 3)) 79 = I 79 := r1 79 (by decide) (by decide) (by decide)
  have e80 : (u2 (u2 (u2 I 99 k (S 78 16)) 108 k (S 78 16)) 100 k (I 91 3)) 80 = I 80 := r1 80 (by decide) (by decide) (by decide)
  have e81 : (u2 (u2 (u2 I 99 k (S 78 16)) 108 k (S 78 16)) 100 k (I 91 3)) 81 = I 81 := r1 81 (by decide) (by decide) (by decide)
  have e83 : (u2 (u2 (u2 I 99 k (S 78 16)) 108 k (S 78 16)) 100 k (I 91 3)) 83 = I 83 := r1 83 (by decide) (by decide) (by decide)
  have e84 : (u2 (u2 (u2 I 99 k (S 78 16)) 108 k (S 78 16)) 100 k (I 91 3)) 84 = I 84 := r1 84 (by decide) (by decide) (by decide)
  have e88 : (u2 (u2 (u2 I 99 k (S 78 16)) 108 k (S 78 16)) 100 k (I 91 3)) 88 = I 88 := r1 88 (by decide) (by decide) (by decide)
  have e89 : (u2 (u2 (u2 I 99 k (S 78 16)) 108 k (S 78 16)) 100 k (I 91 3)) 89 = I 89 := r1 89 (by decide) (by decide) (by decide)
  have e90 : (u2 (u2 (u2 I 99 k (S 78 16)) 108 k (S 78 16)) 100 k (I 91 3)) 90 = I 90 := r1 90 (by decide) (by decide) (by decide)
  have e91 : (u2 (u2 (u2 I 99 k (S 78 16)) 108 k (S 78 16)) 100 k (I 91 3)) 91 = I 91 := r1 91 (by decide) (by decide) (by decide)
  have e94 : (u2 (u2 (u2 I 99 k (S 78 16)) 108 k (S 78 16)) 100 k (I 91 3)) 94 = I 94 := r1 94 (by decide) (by decide) (by decide)
  have e96 : (u2 (u2 (u2 I 99 k (S 78 16)) 108 k (S 78 16)) 100 k (I 91 3)) 96 = I 96 := r1 96 (by decide) (by decide) (by decide)
  have e114 : (u2 (u2 (u2 I 99 k (S 78 16)) 108 k (S 78 16)) 100 k (I 91 3)) 114 = I 114 := r1 114 (by decide) (by decide) (by decide)
  generalize (u2 (u2 (u2 I 99 k (S 78 16)) 108 k (S 78 16)) 100 k (I 91 3)) = I1 at *
  have hway : ∀ {I2 : M2} {J9 : J2} {L9 : J2} {R9 : R2} {Q : QT} {n : Nat} {i : Nat} (hF : MR I1 I2 (dvS (vl I (nI f)) (adM w g) (opM I) 256)) (hi : i < (dvS (vl I (nI f)) (adM w g) (opM I) 256).1) (hq : Q (some (.int (bi ((dvS (vl I (nI f)) (adM w g) (opM I) 256).2.2.2.2 i)))) n (H5 d I2 J9 (u2 S 78 41 (nI (dvS (vl I (nI f)) (adM w g) (opM I) 256).1)) L9 R9)), Calls yX7_hasWay cX7_hasWay 5 (some .boolean) rmX7_hasWay [.ref 78, .int (nI i)] n (H5 d I2 J9 (u2 S 78 41 (nI (dvS (vl I (nI f)) (adM w g) (opM I) 256).1)) L9 R9) Q := by
    intro I2 J9 L9 R9 Q n i hF hi hq
    have e := opM_eq e81 e83
    rw [← e] at hF hi hq ⊢
    exact m_hasWay (hB.u2S (b := 78) (j := 41) _ (Or.inr (by decide))) hF hi hq
  have P2 : AW K Q 0 0 157 [some (.ref 78), some (.int (nI k)), some (.int (nI f)), some (.int (nI 256)), none, none, none, none, none, none] [] n (H5 d I1 (u2 (u2 J 101 k (sL (fun c => if I 114 c ≠ 0 ∧ I 79 c = nI f then (prM I S c).toInt64 else 0) 256)) 103 k (sL (fun c => if I 114 c ≠ 0 ∧ I 79 c = nI f then sL (fun s => if kxM I w g c f s = true then (I 91 1).toInt64 else 0) 4 else 0) 256)) S L R) := by
    rw [← hvl, ← hvf]
    refine aw_fg 3 ?_
    refine aw_aload_n (pc2 := 158) hk dX7_work_157 rfl rfl ?_
    refine aw_iload_n (pc2 := 159) hk dX7_work_158 rfl rfl ?_
    refine aw_cV (rm2 := rmX7_divide) (pc2 := 162) hk veX7_divide dX7_work_159 rfl ml_X7_215 ⟨(Nat.le_of_ble_eq_true rfl), (Nat.le_of_ble_eq_true rfl)⟩ [_] rfl rfl (Nat.le_of_ble_eq_true rfl) (Nat.le_of_ble_eq_true rfl) (Nat.le_of_ble_eq_true rfl) (o_X7 rfl) (m_divide hB (by omega) (by rw [e79]; exact hout) (fun I2 hF => ?_))
    rw [vl_eq e79 e83, opM_eq e81 e83] at hF
    rw [vl_eq e79 e83, opM_eq e81 e83]
    have hd := dvS_ok (vl I (nI f)) (adM w g) (opM I)
    have hd1 := hd.1
    have r2 : ∀ b, b ≠ 110 → b ≠ 111 → b ≠ 112 → b ≠ 113 → I2 b = I1 b := hF.1
    have f84 : I2 84 = I 84 := (r2 84 (by decide) (by decide) (by decide) (by decide)).trans e84
    have f88 : I2 88 = I 88 := (r2 88 (by decide) (by decide) (by decide) (by decide)).trans e88
    have f89 : I2 89 = I 89 := (r2 89 (by decide) (by decide) (by decide) (by decide)).trans e89
    have f80 : I2 80 = I 80 := (r2 80 (by decide) (by decide) (by decide) (by decide)).trans e80
    have f91 : I2 91 = I 91 := (r2 91 (by decide) (by decide) (by decide) (by decide)).trans e91
    have f94 : I2 94 = I 94 := (r2 94 (by decide) (by decide) (by decide) (by decide)).trans e94
    have f96 : I2 96 = I 96 := (r2 96 (by decide) (by decide) (by decide) (by decide)).trans e96
    have f85 : I2 85 = I 85 := (r2 85 (by decide) (by decide) (by decide) (by decide)).trans (r1 85 (by decide) (by decide) (by decide))
    have hB2 := hB.u2S (b := 78) (j := 41) (nI (dvS (vl I (nI f)) (adM w g) (opM I) 256).1) (Or.inr (by decide))
    have hN2 : OM I2 oc nc := fun o ho => by rw [f94]; exact hN o ho
    have hpc2 : ∀ j, j < 4 → ∃ c, c ≤ 20 ∧ I2 88 j = nI c ∧ ∀ i, i < c → 0 ≤ (I2 89 (20 * j + i)).toInt := by rw [f88, f89]; exact hpc
    have hso2 : ∀ p, p < 256 → ∃ k, k < 4 ∧ I2 80 p = nI k := by rw [f80]; exact hso
    have epr : (fun c => (prM I1 (u2 S 78 41 (nI (dvS (vl I (nI f)) (adM w g) (opM I) 256).1)) c).toInt64) = (fun c => (prM I S c).toInt64) := by funext c; rw [prM_eq _ e80 e88 e89 e90]; unfold prM; rw [u2_j _ _ _ _ (by decide)]
    have hop2 : ∀ {i : Nat}, i < (dvS (vl I (nI f)) (adM w g) (opM I) 256).1 → MR I1 I2 (dvS (vl I (nI f)) (adM w g) (opM I1) 256) := fun _ => by rw [opM_eq e81 e83]; exact hF
    refine aw_aload_n (pc2 := 163) hk dX7_work_162 rfl rfl ?_
    refine aw_iload_n (pc2 := 164) hk dX7_work_163 rfl rfl ?_
    refine aw_cV (rm2 := rmX7_mainOf) (pc2 := 167) hk veX7_mainOf dX7_work_164 rfl ml_X7_218 ⟨(Nat.le_of_ble_eq_true rfl), (Nat.le_of_ble_eq_true rfl)⟩ [_] rfl rfl (Nat.le_of_ble_eq_true rfl) (Nat.le_of_ble_eq_true rfl) (Nat.le_of_ble_eq_true rfl) (o_X7 rfl) (m_mainOf (by omega) hF hd (u2_s _ _ _ _) (by rw [f84]; exact hho) ?_)
    rw [f84]
    refine aw_istore_n (pc2 := 168) hk dX7_work_167 rfl (by decide) ?_
    show AW K Q _ _ 168 [_, _, _, _, _, _, _, _, _, _] _ _ _
    have loop : ∀ (k9 i : Nat), i ≤ (dvS (vl I (nI f)) (adM w g) (opM I) 256).1 → (dvS (vl I (nI f)) (adM w g) (opM I) 256).1 + 1 ≤ i + k9 → AW K Q 0 0 174 [some (.ref 78), some (.int (nI k)), some (.int (nI f)), some (.int (opI (mD (dvS (vl I (nI f)) (adM w g) (opM I) 256) (I 84 f)))), some (.long (sL (lD (dvS (vl I (nI f)) (adM w g) (opM I) 256) (fun c => (prM I S c).toInt64) (I 84 f) (I 91 0)) i)), none, some (.int (nI i)), none, none, none] [] n (H5 d I2 (u2 (u2 J 101 k (vl0)) 103 k (vf)) (u2 S 78 41 (nI (dvS (vl I (nI f)) (adM w g) (opM I) 256).1)) L R) := by
      intro k9
      induction k9 with
      | zero => intro i h1 h2; omega
      | succ k9 ih =>
        intro i hi hn
        refine aw_iload (pc2 := 176) hk dX7_work_174 rfl rfl ?_
        refine aw_aload_n (pc2 := 177) hk dX7_work_176 rfl rfl ?_
        refine aw_get (pc2 := 180) hk ckX7 41 dX7_work_177 rfl fl_X7_184 (by decide) (o_X7 rfl) rfl ?_
        refine aw_icN_ge (x := i) (y := (dvS (vl I (nI f)) (adM w g) (opM I) 256).1) (tgt := 244) (pc2 := 183) hk dX7_work_180 (by decide) rfl rfl (u2_s _ _ _ _) (by omega) (by omega) (fun c180 => ?_) (fun c180 => ?_)
        · obtain ei : i = (dvS (vl I (nI f)) (adM w g) (opM I) 256).1 := by omega
          rw [ei]
          refine aw_lload (pc2 := 246) hk dX7_work_244 rfl rfl ?_
          refine aw_aload_n (pc2 := 247) hk dX7_work_246 rfl rfl ?_
          refine aw_iload_n (pc2 := 248) hk dX7_work_247 rfl rfl ?_
          refine aw_cV (rm2 := rmX7_lossBefore) (pc2 := 251) hk veX7_lossBefore dX7_work_248 rfl ml_X7_228 ⟨(Nat.le_of_ble_eq_true rfl), (Nat.le_of_ble_eq_true rfl)⟩ [_] rfl rfl (Nat.le_of_ble_eq_true rfl) (Nat.le_of_ble_eq_true rfl) (Nat.le_of_ble_eq_true rfl) (o_X7 rfl) (m_lossBefore hB2 hN2 hk7 h0 ?_)
          rw [f96, hf]
          refine aw_topL (sL (fun o => sL (fun j => if I 96 (12 * o + j) = nI f then J 102 (12 * o + j) else 0) (nc o)) (oc - 1)) (sL_eq _ (fun o ho => sL_eq _ (fun j hj => by rw [u2_a _ _ _ _ (by decide), u2_a _ _ _ _ (by decide)]))) ?_
          refine aw_lsub (pc2 := 252) hk dX7_work_251 rfl ?_
          refine aw_lstore (pc2 := 254) hk dX7_work_252 rfl (by decide) ?_
          show AW K Q _ _ 254 [_, _, _, _, _, _, _, _, _, _] _ _ _
          refine aw_aload_n (pc2 := 255) hk dX7_work_254 rfl rfl ?_
          refine aw_get (pc2 := 258) hk ckX7 31 dX7_work_255 rfl fl_X7_88 (by decide) (o_X7 rfl) rfl ?_
          refine aw_iload_n (pc2 := 259) hk dX7_work_258 rfl rfl ?_
          refine aw_lload (pc2 := 261) hk dX7_work_259 rfl rfl ?_
          refine aw_lconst (v := 0) (pc2 := 262) hk dX7_work_261 rfl (by decide) ?_
          refine aw_lcmp (pc2 := 263) hk dX7_work_262 rfl ?_
          refine aw_if_ge (tgt := 270) (pc2 := 266) hk dX7_work_263 (by decide) rfl (fun c263 => ?_) (fun c263 => ?_)
          · refine aw_lload (pc2 := 272) hk dX7_work_270 rfl rfl ?_
            refine aw_topL vlo (by
              rw [hvlo, ← mxL_0]
              have h9 := c263
              rw [lg_cmp_ge] at h9
              first
                | (rw [if_neg (by rw [j_lt]; rw [j_le] at h9; omega)]; done)
                | (rw [if_pos (by rw [j_lt]; rw [j_le] at h9; omega)]; done)) ?_
            refine h_last (pc2 := 273) hk dX7_work_272 rfl rfl rfl hk7 (by decide) ?_
            refine aw_aload_n (pc2 := 274) hk dX7_work_273 rfl rfl ?_
            refine aw_get (pc2 := 277) hk ckX7 30 dX7_work_274 rfl fl_X7_84 (by decide) (o_X7 rfl) rfl ?_
            refine aw_iload_n (pc2 := 278) hk dX7_work_277 rfl rfl ?_
            refine h_lald (pc2 := 279) hk dX7_work_278 rfl rfl rfl hk7 (by decide) ?_
            refine aw_aload_n (pc2 := 280) hk dX7_work_279 rfl rfl ?_
            refine aw_get (pc2 := 283) hk ckX7 31 dX7_work_280 rfl fl_X7_88 (by decide) (o_X7 rfl) rfl ?_
            refine aw_iload_n (pc2 := 284) hk dX7_work_283 rfl rfl ?_
            refine h_lald (pc2 := 285) hk dX7_work_284 rfl rfl rfl hk7 (by decide) ?_
            refine aw_ladd (pc2 := 286) hk dX7_work_285 rfl ?_
            refine aw_aload_n (pc2 := 287) hk dX7_work_286 rfl rfl ?_
            refine aw_get (pc2 := 290) hk ckX7 32 dX7_work_287 rfl fl_X7_91 (by decide) (o_X7 rfl) rfl ?_
            refine aw_iload_n (pc2 := 291) hk dX7_work_290 rfl rfl ?_
            refine h_lald (pc2 := 292) hk dX7_work_291 rfl rfl rfl hk7 (by decide) ?_
            refine aw_ladd (pc2 := 293) hk dX7_work_292 rfl ?_
            refine aw_topL (vl0 + vlo + vf) (by rw [u2_a _ _ _ _ (by decide), u2_a _ _ _ _ (by decide), u2_s, u2_s, u2_a _ _ _ _ (by decide), u2_s]) ?_
            refine aw_lstore (pc2 := 295) hk dX7_work_293 rfl (by decide) ?_
            show AW K Q _ _ 295 [_, _, _, _, _, _, _, _, _, _] _ _ _
            refine aw_iload_n (pc2 := 296) hk dX7_work_295 rfl rfl ?_
            refine aw_iconst (v := -1) (pc2 := 297) hk dX7_work_296 rfl (by decide) ?_
            refine aw_icmp_ne (tgt := 304) (pc2 := 300) hk dX7_work_297 (by decide) rfl (fun c297 => ?_) (fun c297 => ?_)
            · obtain ⟨m0, hm0, hm2⟩ := opI_some c297
              have hm1 := mD_lt hd hm0
              refine aw_lv [some (.ref 78), some (.int (nI k)), some (.int (nI f)), some (.int (nI m0)), some (.long (sL (lD (dvS (vl I (nI f)) (adM w g) (opM I) 256) (fun c => (prM I S c).toInt64) (I 84 f) (I 91 0)) (dvS (vl I (nI f)) (adM w g) (opM I) 256).1 - sL (fun o => sL (fun j => if I 96 (12 * o + j) = nI f then J 102 (12 * o + j) else 0) (nc o)) (oc - 1))), none, some (.long (vl0 + vlo + vf)), none, none, none] (by rw [hm0]; rfl) ?_
              refine aw_aload_n (pc2 := 305) hk dX7_work_304 rfl rfl ?_
              refine aw_iload_n (pc2 := 306) hk dX7_work_305 rfl rfl ?_
              refine aw_cV (rm2 := rmX7_pricesOf) (pc2 := 309) hk veX7_pricesOf dX7_work_306 rfl ml_X7_221 ⟨(Nat.le_of_ble_eq_true rfl), (Nat.le_of_ble_eq_true rfl)⟩ [_] rfl rfl (Nat.le_of_ble_eq_true rfl) (Nat.le_of_ble_eq_true rfl) (Nat.le_of_ble_eq_true rfl) (o_X7 rfl) (m_pricesOf hF hd hm1 hpc2 hso2 ?_)
              rw [epr]
              refine aw_aload_n (pc2 := 310) hk dX7_work_309 rfl rfl ?_
              refine aw_get (pc2 := 313) hk ckX7 15 dX7_work_310 rfl fl_X7_54 (by decide) (o_X7 rfl) rfl ?_
              refine aw_iconst (v := 2) (pc2 := 314) hk dX7_work_313 rfl (by decide) ?_
              refine h_iald (pc2 := 315) hk dX7_work_314 rfl rfl (show (2 : Int32) = nI 2 from rfl) (by decide) (by decide) ?_
              rw [f91]
              refine aw_i2l (pc2 := 316) hk dX7_work_315 rfl ?_
              refine aw_lmul (pc2 := 317) hk dX7_work_316 rfl ?_
              refine aw_ldc2 (pc2 := 320) hk dX7_work_317 rfl kl_X7_161 ?_
              refine aw_ldiv (pc2 := 321) hk dX7_work_320 rfl (by decide) ?_
              refine aw_topL (wM (dvS (vl I (nI f)) (adM w g) (opM I) 256) (fun c => (prM I S c).toInt64) (I 84 f) * (I 91 2).toInt64 / 1000) (by
                unfold wM
                first
                  | (rw [hm0]; done)
                  | (rw [opI_none c297 (fun q h => by have := mD_lt hd h; omega)]; show _ = (0 : Int64) * _ / 1000; rw [Int64.zero_mul, z_div])) ?_
              refine aw_lstore (pc2 := 323) hk dX7_work_321 rfl (by decide) ?_
              show AW K Q _ _ 323 [_, _, _, _, _, _, _, _, _, _] _ _ _
              refine aw_aload_n (pc2 := 324) hk dX7_work_323 rfl rfl ?_
              refine aw_get (pc2 := 327) hk ckX7 33 dX7_work_324 rfl fl_X7_94 (by decide) (o_X7 rfl) rfl ?_
              refine aw_iload_n (pc2 := 328) hk dX7_work_327 rfl rfl ?_
              refine aw_lload (pc2 := 330) hk dX7_work_328 rfl rfl ?_
              refine aw_lload (pc2 := 332) hk dX7_work_330 rfl rfl ?_
              refine aw_lcmp (pc2 := 333) hk dX7_work_332 rfl ?_
              refine aw_if_le (tgt := 341) (pc2 := 336) hk dX7_work_333 (by decide) rfl (fun c333 => ?_) (fun c333 => ?_)
              · refine aw_lload (pc2 := 343) hk dX7_work_341 rfl rfl ?_
                refine aw_topL vb (by
                  rw [hvb, mnL_c]
                  have h9 := c333
                  rw [lg_cmp_le] at h9
                  first
                    | exact mnL_le h9
                    | exact mnL_gt h9) ?_
                refine h_last (pc2 := 344) hk dX7_work_343 rfl rfl rfl hk7 (by decide) ?_
                refine aw_aload_n (pc2 := 345) hk dX7_work_344 rfl rfl ?_
                refine aw_iload_n (pc2 := 346) hk dX7_work_345 rfl rfl ?_
                refine aw_cV (rm2 := rmX7_share) (pc2 := 349) hk veX7_share dX7_work_346 rfl ml_X7_231 ⟨(Nat.le_of_ble_eq_true rfl), (Nat.le_of_ble_eq_true rfl)⟩ [_] rfl rfl (Nat.le_of_ble_eq_true rfl) (Nat.le_of_ble_eq_true rfl) (Nat.le_of_ble_eq_true rfl) (o_X7 rfl) (m_share hB2 hN2 hk7 (by rw [f96]; exact hf) hf2 (by rw [f85]; exact hrc) hrc4 ?_)
                refine aw_vret hk dX7_work_349 (Nat.le_of_ble_eq_true rfl) (Nat.le_of_ble_eq_true rfl) (hq I2 hF)
              · refine aw_lload (pc2 := 338) hk dX7_work_336 rfl rfl ?_
                refine aw_goto (tgt := 343) hk dX7_work_338 (by decide) ?_
                refine aw_topL vb (by
                  rw [hvb, mnL_c]
                  have h9 := c333
                  rw [lg_cmp_le] at h9
                  first
                    | exact mnL_le h9
                    | exact mnL_gt h9) ?_
                refine h_last (pc2 := 344) hk dX7_work_343 rfl rfl rfl hk7 (by decide) ?_
                refine aw_aload_n (pc2 := 345) hk dX7_work_344 rfl rfl ?_
                refine aw_iload_n (pc2 := 346) hk dX7_work_345 rfl rfl ?_
                refine aw_cV (rm2 := rmX7_share) (pc2 := 349) hk veX7_share dX7_work_346 rfl ml_X7_231 ⟨(Nat.le_of_ble_eq_true rfl), (Nat.le_of_ble_eq_true rfl)⟩ [_] rfl rfl (Nat.le_of_ble_eq_true rfl) (Nat.le_of_ble_eq_true rfl) (Nat.le_of_ble_eq_true rfl) (o_X7 rfl) (m_share hB2 hN2 hk7 (by rw [f96]; exact hf) hf2 (by rw [f85]; exact hrc) hrc4 ?_)
                refine aw_vret hk dX7_work_349 (Nat.le_of_ble_eq_true rfl) (Nat.le_of_ble_eq_true rfl) (hq I2 hF)
            · refine aw_lconst (v := 0) (pc2 := 301) hk dX7_work_300 rfl (by decide) ?_
              refine aw_goto (tgt := 321) hk dX7_work_301 (by decide) ?_
              refine aw_topL (wM (dvS (vl I (nI f)) (adM w g) (opM I) 256) (fun c => (prM I S c).toInt64) (I 84 f) * (I 91 2).toInt64 / 1000) (by
                unfold wM
                first
                  | (rw [hm0]; done)
                  | (rw [opI_none c297 (fun q h => by have := mD_lt hd h; omega)]; show _ = (0 : Int64) * _ / 1000; rw [Int64.zero_mul, z_div])) ?_
              refine aw_lstore (pc2 := 323) hk dX7_work_321 rfl (by decide) ?_
              show AW K Q _ _ 323 [_, _, _, _, _, _, _, _, _, _] _ _ _
              refine aw_aload_n (pc2 := 324) hk dX7_work_323 rfl rfl ?_
              refine aw_get (pc2 := 327) hk ckX7 33 dX7_work_324 rfl fl_X7_94 (by decide) (o_X7 rfl) rfl ?_
              refine aw_iload_n (pc2 := 328) hk dX7_work_327 rfl rfl ?_
              refine aw_lload (pc2 := 330) hk dX7_work_328 rfl rfl ?_
              refine aw_lload (pc2 := 332) hk dX7_work_330 rfl rfl ?_
              refine aw_lcmp (pc2 := 333) hk dX7_work_332 rfl ?_
              refine aw_if_le (tgt := 341) (pc2 := 336) hk dX7_work_333 (by decide) rfl (fun c333 => ?_) (fun c333 => ?_)
              · refine aw_lload (pc2 := 343) hk dX7_work_341 rfl rfl ?_
                refine aw_topL vb (by
                  rw [hvb, mnL_c]
                  have h9 := c333
                  rw [lg_cmp_le] at h9
                  first
                    | exact mnL_le h9
                    | exact mnL_gt h9) ?_
                refine h_last (pc2 := 344) hk dX7_work_343 rfl rfl rfl hk7 (by decide) ?_
                refine aw_aload_n (pc2 := 345) hk dX7_work_344 rfl rfl ?_
                refine aw_iload_n (pc2 := 346) hk dX7_work_345 rfl rfl ?_
                refine aw_cV (rm2 := rmX7_share) (pc2 := 349) hk veX7_share dX7_work_346 rfl ml_X7_231 ⟨(Nat.le_of_ble_eq_true rfl), (Nat.le_of_ble_eq_true rfl)⟩ [_] rfl rfl (Nat.le_of_ble_eq_true rfl) (Nat.le_of_ble_eq_true rfl) (Nat.le_of_ble_eq_true rfl) (o_X7 rfl) (m_share hB2 hN2 hk7 (by rw [f96]; exact hf) hf2 (by rw [f85]; exact hrc) hrc4 ?_)
                refine aw_vret hk dX7_work_349 (Nat.le_of_ble_eq_true rfl) (Nat.le_of_ble_eq_true rfl) (hq I2 hF)
              · refine aw_lload (pc2 := 338) hk dX7_work_336 rfl rfl ?_
                refine aw_goto (tgt := 343) hk dX7_work_338 (by decide) ?_
                refine aw_topL vb (by
                  rw [hvb, mnL_c]
                  have h9 := c333
                  rw [lg_cmp_le] at h9
                  first
                    | exact mnL_le h9
                    | exact mnL_gt h9) ?_
                refine h_last (pc2 := 344) hk dX7_work_343 rfl rfl rfl hk7 (by decide) ?_
                refine aw_aload_n (pc2 := 345) hk dX7_work_344 rfl rfl ?_
                refine aw_iload_n (pc2 := 346) hk dX7_work_345 rfl rfl ?_
                refine aw_cV (rm2 := rmX7_share) (pc2 := 349) hk veX7_share dX7_work_346 rfl ml_X7_231 ⟨(Nat.le_of_ble_eq_true rfl), (Nat.le_of_ble_eq_true rfl)⟩ [_] rfl rfl (Nat.le_of_ble_eq_true rfl) (Nat.le_of_ble_eq_true rfl) (Nat.le_of_ble_eq_true rfl) (o_X7 rfl) (m_share hB2 hN2 hk7 (by rw [f96]; exact hf) hf2 (by rw [f85]; exact hrc) hrc4 ?_)
                refine aw_vret hk dX7_work_349 (Nat.le_of_ble_eq_true rfl) (Nat.le_of_ble_eq_true rfl) (hq I2 hF)
          · refine aw_lconst (v := 0) (pc2 := 267) hk dX7_work_266 rfl (by decide) ?_
            refine aw_goto (tgt := 272) hk dX7_work_267 (by decide) ?_
            refine aw_topL vlo (by
              rw [hvlo, ← mxL_0]
              have h9 := c263
              rw [lg_cmp_ge] at h9
              first
                | (rw [if_neg (by rw [j_lt]; rw [j_le] at h9; omega)]; done)
                | (rw [if_pos (by rw [j_lt]; rw [j_le] at h9; omega)]; done)) ?_
            refine h_last (pc2 := 273) hk dX7_work_272 rfl rfl rfl hk7 (by decide) ?_
            refine aw_aload_n (pc2 := 274) hk dX7_work_273 rfl rfl ?_
            refine aw_get (pc2 := 277) hk ckX7 30 dX7_work_274 rfl fl_X7_84 (by decide) (o_X7 rfl) rfl ?_
            refine aw_iload_n (pc2 := 278) hk dX7_work_277 rfl rfl ?_
            refine h_lald (pc2 := 279) hk dX7_work_278 rfl rfl rfl hk7 (by decide) ?_
            refine aw_aload_n (pc2 := 280) hk dX7_work_279 rfl rfl ?_
            refine aw_get (pc2 := 283) hk ckX7 31 dX7_work_280 rfl fl_X7_88 (by decide) (o_X7 rfl) rfl ?_
            refine aw_iload_n (pc2 := 284) hk dX7_work_283 rfl rfl ?_
            refine h_lald (pc2 := 285) hk dX7_work_284 rfl rfl rfl hk7 (by decide) ?_
            refine aw_ladd (pc2 := 286) hk dX7_work_285 rfl ?_
            refine aw_aload_n (pc2 := 287) hk dX7_work_286 rfl rfl ?_
            refine aw_get (pc2 := 290) hk ckX7 32 dX7_work_287 rfl fl_X7_91 (by decide) (o_X7 rfl) rfl ?_
            refine aw_iload_n (pc2 := 291) hk dX7_work_290 rfl rfl ?_
            refine h_lald (pc2 := 292) hk dX7_work_291 rfl rfl rfl hk7 (by decide) ?_
            refine aw_ladd (pc2 := 293) hk dX7_work_292 rfl ?_
            refine aw_topL (vl0 + vlo + vf) (by rw [u2_a _ _ _ _ (by decide), u2_a _ _ _ _ (by decide), u2_s, u2_s, u2_a _ _ _ _ (by decide), u2_s]) ?_
            refine aw_lstore (pc2 := 295) hk dX7_work_293 rfl (by decide) ?_
            show AW K Q _ _ 295 [_, _, _, _, _, _, _, _, _, _] _ _ _
            refine aw_iload_n (pc2 := 296) hk dX7_work_295 rfl rfl ?_
            refine aw_iconst (v := -1) (pc2 := 297) hk dX7_work_296 rfl (by decide) ?_
            refine aw_icmp_ne (tgt := 304) (pc2 := 300) hk dX7_work_297 (by decide) rfl (fun c297 => ?_) (fun c297 => ?_)
            · obtain ⟨m0, hm0, hm2⟩ := opI_some c297
              have hm1 := mD_lt hd hm0
              refine aw_lv [some (.ref 78), some (.int (nI k)), some (.int (nI f)), some (.int (nI m0)), some (.long (sL (lD (dvS (vl I (nI f)) (adM w g) (opM I) 256) (fun c => (prM I S c).toInt64) (I 84 f) (I 91 0)) (dvS (vl I (nI f)) (adM w g) (opM I) 256).1 - sL (fun o => sL (fun j => if I 96 (12 * o + j) = nI f then J 102 (12 * o + j) else 0) (nc o)) (oc - 1))), none, some (.long (vl0 + vlo + vf)), none, none, none] (by rw [hm0]; rfl) ?_
              refine aw_aload_n (pc2 := 305) hk dX7_work_304 rfl rfl ?_
              refine aw_iload_n (pc2 := 306) hk dX7_work_305 rfl rfl ?_
              refine aw_cV (rm2 := rmX7_pricesOf) (pc2 := 309) hk veX7_pricesOf dX7_work_306 rfl ml_X7_221 ⟨(Nat.le_of_ble_eq_true rfl), (Nat.le_of_ble_eq_true rfl)⟩ [_] rfl rfl (Nat.le_of_ble_eq_true rfl) (Nat.le_of_ble_eq_true rfl) (Nat.le_of_ble_eq_true rfl) (o_X7 rfl) (m_pricesOf hF hd hm1 hpc2 hso2 ?_)
              rw [epr]
              refine aw_aload_n (pc2 := 310) hk dX7_work_309 rfl rfl ?_
              refine aw_get (pc2 := 313) hk ckX7 15 dX7_work_310 rfl fl_X7_54 (by decide) (o_X7 rfl) rfl ?_
              refine aw_iconst (v := 2) (pc2 := 314) hk dX7_work_313 rfl (by decide) ?_
              refine h_iald (pc2 := 315) hk dX7_work_314 rfl rfl (show (2 : Int32) = nI 2 from rfl) (by decide) (by decide) ?_
              rw [f91]
              refine aw_i2l (pc2 := 316) hk dX7_work_315 rfl ?_
              refine aw_lmul (pc2 := 317) hk dX7_work_316 rfl ?_
              refine aw_ldc2 (pc2 := 320) hk dX7_work_317 rfl kl_X7_161 ?_
              refine aw_ldiv (pc2 := 321) hk dX7_work_320 rfl (by decide) ?_
              refine aw_topL (wM (dvS (vl I (nI f)) (adM w g) (opM I) 256) (fun c => (prM I S c).toInt64) (I 84 f) * (I 91 2).toInt64 / 1000) (by
                unfold wM
                first
                  | (rw [hm0]; done)
                  | (rw [opI_none c297 (fun q h => by have := mD_lt hd h; omega)]; show _ = (0 : Int64) * _ / 1000; rw [Int64.zero_mul, z_div])) ?_
              refine aw_lstore (pc2 := 323) hk dX7_work_321 rfl (by decide) ?_
              show AW K Q _ _ 323 [_, _, _, _, _, _, _, _, _, _] _ _ _
              refine aw_aload_n (pc2 := 324) hk dX7_work_323 rfl rfl ?_
              refine aw_get (pc2 := 327) hk ckX7 33 dX7_work_324 rfl fl_X7_94 (by decide) (o_X7 rfl) rfl ?_
              refine aw_iload_n (pc2 := 328) hk dX7_work_327 rfl rfl ?_
              refine aw_lload (pc2 := 330) hk dX7_work_328 rfl rfl ?_
              refine aw_lload (pc2 := 332) hk dX7_work_330 rfl rfl ?_
              refine aw_lcmp (pc2 := 333) hk dX7_work_332 rfl ?_
              refine aw_if_le (tgt := 341) (pc2 := 336) hk dX7_work_333 (by decide) rfl (fun c333 => ?_) (fun c333 => ?_)
              · refine aw_lload (pc2 := 343) hk dX7_work_341 rfl rfl ?_
                refine aw_topL vb (by
                  rw [hvb, mnL_c]
                  have h9 := c333
                  rw [lg_cmp_le] at h9
                  first
                    | exact mnL_le h9
                    | exact mnL_gt h9) ?_
                refine h_last (pc2 := 344) hk dX7_work_343 rfl rfl rfl hk7 (by decide) ?_
                refine aw_aload_n (pc2 := 345) hk dX7_work_344 rfl rfl ?_
                refine aw_iload_n (pc2 := 346) hk dX7_work_345 rfl rfl ?_
                refine aw_cV (rm2 := rmX7_share) (pc2 := 349) hk veX7_share dX7_work_346 rfl ml_X7_231 ⟨(Nat.le_of_ble_eq_true rfl), (Nat.le_of_ble_eq_true rfl)⟩ [_] rfl rfl (Nat.le_of_ble_eq_true rfl) (Nat.le_of_ble_eq_true rfl) (Nat.le_of_ble_eq_true rfl) (o_X7 rfl) (m_share hB2 hN2 hk7 (by rw [f96]; exact hf) hf2 (by rw [f85]; exact hrc) hrc4 ?_)
                refine aw_vret hk dX7_work_349 (Nat.le_of_ble_eq_true rfl) (Nat.le_of_ble_eq_true rfl) (hq I2 hF)
              · refine aw_lload (pc2 := 338) hk dX7_work_336 rfl rfl ?_
                refine aw_goto (tgt := 343) hk dX7_work_338 (by decide) ?_
                refine aw_topL vb (by
                  rw [hvb, mnL_c]
                  have h9 := c333
                  rw [lg_cmp_le] at h9
                  first
                    | exact mnL_le h9
                    | exact mnL_gt h9) ?_
                refine h_last (pc2 := 344) hk dX7_work_343 rfl rfl rfl hk7 (by decide) ?_
                refine aw_aload_n (pc2 := 345) hk dX7_work_344 rfl rfl ?_
                refine aw_iload_n (pc2 := 346) hk dX7_work_345 rfl rfl ?_
                refine aw_cV (rm2 := rmX7_share) (pc2 := 349) hk veX7_share dX7_work_346 rfl ml_X7_231 ⟨(Nat.le_of_ble_eq_true rfl), (Nat.le_of_ble_eq_true rfl)⟩ [_] rfl rfl (Nat.le_of_ble_eq_true rfl) (Nat.le_of_ble_eq_true rfl) (Nat.le_of_ble_eq_true rfl) (o_X7 rfl) (m_share hB2 hN2 hk7 (by rw [f96]; exact hf) hf2 (by rw [f85]; exact hrc) hrc4 ?_)
                refine aw_vret hk dX7_work_349 (Nat.le_of_ble_eq_true rfl) (Nat.le_of_ble_eq_true rfl) (hq I2 hF)
            · refine aw_lconst (v := 0) (pc2 := 301) hk dX7_work_300 rfl (by decide) ?_
              refine aw_goto (tgt := 321) hk dX7_work_301 (by decide) ?_
              refine aw_topL (wM (dvS (vl I (nI f)) (adM w g) (opM I) 256) (fun c => (prM I S c).toInt64) (I 84 f) * (I 91 2).toInt64 / 1000) (by
                unfold wM
                first
                  | (rw [hm0]; done)
                  | (rw [opI_none c297 (fun q h => by have := mD_lt hd h; omega)]; show _ = (0 : Int64) * _ / 1000; rw [Int64.zero_mul, z_div])) ?_
              refine aw_lstore (pc2 := 323) hk dX7_work_321 rfl (by decide) ?_
              show AW K Q _ _ 323 [_, _, _, _, _, _, _, _, _, _] _ _ _
              refine aw_aload_n (pc2 := 324) hk dX7_work_323 rfl rfl ?_
              refine aw_get (pc2 := 327) hk ckX7 33 dX7_work_324 rfl fl_X7_94 (by decide) (o_X7 rfl) rfl ?_
              refine aw_iload_n (pc2 := 328) hk dX7_work_327 rfl rfl ?_
              refine aw_lload (pc2 := 330) hk dX7_work_328 rfl rfl ?_
              refine aw_lload (pc2 := 332) hk dX7_work_330 rfl rfl ?_
              refine aw_lcmp (pc2 := 333) hk dX7_work_332 rfl ?_
              refine aw_if_le (tgt := 341) (pc2 := 336) hk dX7_work_333 (by decide) rfl (fun c333 => ?_) (fun c333 => ?_)
              · refine aw_lload (pc2 := 343) hk dX7_work_341 rfl rfl ?_
                refine aw_topL vb (by
                  rw [hvb, mnL_c]
                  have h9 := c333
                  rw [lg_cmp_le] at h9
                  first
                    | exact mnL_le h9
                    | exact mnL_gt h9) ?_
                refine h_last (pc2 := 344) hk dX7_work_343 rfl rfl rfl hk7 (by decide) ?_
                refine aw_aload_n (pc2 := 345) hk dX7_work_344 rfl rfl ?_
                refine aw_iload_n (pc2 := 346) hk dX7_work_345 rfl rfl ?_
                refine aw_cV (rm2 := rmX7_share) (pc2 := 349) hk veX7_share dX7_work_346 rfl ml_X7_231 ⟨(Nat.le_of_ble_eq_true rfl), (Nat.le_of_ble_eq_true rfl)⟩ [_] rfl rfl (Nat.le_of_ble_eq_true rfl) (Nat.le_of_ble_eq_true rfl) (Nat.le_of_ble_eq_true rfl) (o_X7 rfl) (m_share hB2 hN2 hk7 (by rw [f96]; exact hf) hf2 (by rw [f85]; exact hrc) hrc4 ?_)
                refine aw_vret hk dX7_work_349 (Nat.le_of_ble_eq_true rfl) (Nat.le_of_ble_eq_true rfl) (hq I2 hF)
              · refine aw_lload (pc2 := 338) hk dX7_work_336 rfl rfl ?_
                refine aw_goto (tgt := 343) hk dX7_work_338 (by decide) ?_
                refine aw_topL vb (by
                  rw [hvb, mnL_c]
                  have h9 := c333
                  rw [lg_cmp_le] at h9
                  first
                    | exact mnL_le h9
                    | exact mnL_gt h9) ?_
                refine h_last (pc2 := 344) hk dX7_work_343 rfl rfl rfl hk7 (by decide) ?_
                refine aw_aload_n (pc2 := 345) hk dX7_work_344 rfl rfl ?_
                refine aw_iload_n (pc2 := 346) hk dX7_work_345 rfl rfl ?_
                refine aw_cV (rm2 := rmX7_share) (pc2 := 349) hk veX7_share dX7_work_346 rfl ml_X7_231 ⟨(Nat.le_of_ble_eq_true rfl), (Nat.le_of_ble_eq_true rfl)⟩ [_] rfl rfl (Nat.le_of_ble_eq_true rfl) (Nat.le_of_ble_eq_true rfl) (Nat.le_of_ble_eq_true rfl) (o_X7 rfl) (m_share hB2 hN2 hk7 (by rw [f96]; exact hf) hf2 (by rw [f85]; exact hrc) hrc4 ?_)
                refine aw_vret hk dX7_work_349 (Nat.le_of_ble_eq_true rfl) (Nat.le_of_ble_eq_true rfl) (hq I2 hF)
        · refine aw_iload (pc2 := 185) hk dX7_work_183 rfl rfl ?_
          refine aw_iload_n (pc2 := 186) hk dX7_work_185 rfl rfl ?_
          obtain ⟨m0, hm0⟩ := mD_some (D := (dvS (vl I (nI f)) (adM w g) (opM I) 256)) (house := (I 84 f)) (by omega)
          have hm1 := mD_lt hd hm0
          refine aw_icmp_eq (tgt := 238) (pc2 := 189) hk dX7_work_186 (by decide) rfl (fun c186 => ?_) (fun c186 => ?_)
          · refine aw_iinc1 (pc2 := 241) hk dX7_work_238 rfl rfl (by decide) ?_
            show AW K Q _ _ 241 [_, _, _, _, _, _, _, _, _, _] _ _ _
            refine aw_goto (tgt := 174) hk dX7_work_241 (by decide) ?_
            refine aw_fg 7 ?_
            refine aw_lv [some (.ref 78), some (.int (nI k)), some (.int (nI f)), some (.int (opI (mD (dvS (vl I (nI f)) (adM w g) (opM I) 256) (I 84 f)))), some (.long (sL (lD (dvS (vl I (nI f)) (adM w g) (opM I) 256) (fun c => (prM I S c).toInt64) (I 84 f) (I 91 0)) (i + 1))), none, some (.int (nI (i + 1))), none, none, none] (by
              first
                | rfl
                | (rw [hm0]; rfl)
                | (have em : mD (dvS (vl I (nI f)) (adM w g) (opM I) 256) (I 84 f) = some i := by rw [hm0] at c186 ⊢; rw [(nI_eq (by omega) (by omega)).mp c186]
                   have e : sL (lD (dvS (vl I (nI f)) (adM w g) (opM I) 256) (fun c => (prM I S c).toInt64) (I 84 f) (I 91 0)) (i + 1) = sL (lD (dvS (vl I (nI f)) (adM w g) (opM I) 256) (fun c => (prM I S c).toInt64) (I 84 f) (I 91 0)) i := by show _ + (if mD _ _ = some i then 0 else _) = _; rw [if_pos em, Int64.add_zero]
                   rw [e]; rfl)) ?_
            exact ih (i + 1) (by omega) (by omega)
          · refine aw_aload_n (pc2 := 190) hk dX7_work_189 rfl rfl ?_
            refine aw_iload (pc2 := 192) hk dX7_work_190 rfl rfl ?_
            refine aw_cV (rm2 := rmX7_pricesOf) (pc2 := 195) hk veX7_pricesOf dX7_work_192 rfl ml_X7_221 ⟨(Nat.le_of_ble_eq_true rfl), (Nat.le_of_ble_eq_true rfl)⟩ [_] rfl rfl (Nat.le_of_ble_eq_true rfl) (Nat.le_of_ble_eq_true rfl) (Nat.le_of_ble_eq_true rfl) (o_X7 rfl) (m_pricesOf hF hd c180 hpc2 hso2 ?_)
            rw [epr]
            refine aw_lstore (pc2 := 197) hk dX7_work_195 rfl (by decide) ?_
            show AW K Q _ _ 197 [_, _, _, _, _, _, _, _, _, _] _ _ _
            refine aw_lload (pc2 := 199) hk dX7_work_197 rfl rfl ?_
            refine aw_aload_n (pc2 := 200) hk dX7_work_199 rfl rfl ?_
            refine aw_iload (pc2 := 202) hk dX7_work_200 rfl rfl ?_
            refine aw_cV (rm2 := rmX7_hasWay) (pc2 := 205) hk veX7_hasWay dX7_work_202 rfl ml_X7_225 ⟨(Nat.le_of_ble_eq_true rfl), (Nat.le_of_ble_eq_true rfl)⟩ [_] rfl rfl (Nat.le_of_ble_eq_true rfl) (Nat.le_of_ble_eq_true rfl) (Nat.le_of_ble_eq_true rfl) (o_X7 rfl) (hway hF c180 ?_)
            refine aw_if_ne (tgt := 221) (pc2 := 208) hk dX7_work_205 (by decide) rfl (fun c205 => ?_) (fun c205 => ?_)
            · refine aw_lload (pc2 := 223) hk dX7_work_221 rfl rfl ?_
              refine aw_aload_n (pc2 := 224) hk dX7_work_223 rfl rfl ?_
              refine aw_get (pc2 := 227) hk ckX7 15 dX7_work_224 rfl fl_X7_54 (by decide) (o_X7 rfl) rfl ?_
              refine aw_iconst (v := 0) (pc2 := 228) hk dX7_work_227 rfl (by decide) ?_
              refine h_iald (pc2 := 229) hk dX7_work_228 rfl rfl (show (0 : Int32) = nI 0 from rfl) (by decide) (by decide) ?_
              rw [f91]
              refine aw_i2l (pc2 := 230) hk dX7_work_229 rfl ?_
              refine aw_lmul (pc2 := 231) hk dX7_work_230 rfl ?_
              refine aw_ldc2 (pc2 := 234) hk dX7_work_231 rfl kl_X7_161 ?_
              refine aw_ldiv (pc2 := 235) hk dX7_work_234 rfl (by decide) ?_
              refine aw_ladd (pc2 := 236) hk dX7_work_235 rfl ?_
              refine aw_topL (sL (lD (dvS (vl I (nI f)) (adM w g) (opM I) 256) (fun c => (prM I S c).toInt64) (I 84 f) (I 91 0)) (i + 1)) (by
                show _ + _ = _ + (if mD (dvS (vl I (nI f)) (adM w g) (opM I) 256) (I 84 f) = some i then 0 else if (mW (dvS (vl I (nI f)) (adM w g) (opM I) 256) (I 84 f) && !(dvS (vl I (nI f)) (adM w g) (opM I) 256).2.2.2.2 i) = true then wD (dvS (vl I (nI f)) (adM w g) (opM I) 256) (fun c => (prM I S c).toInt64) i else wD (dvS (vl I (nI f)) (adM w g) (opM I) 256) (fun c => (prM I S c).toInt64) i * (I 91 0).toInt64 / 1000)
                have hne : ¬ mD (dvS (vl I (nI f)) (adM w g) (opM I) 256) (I 84 f) = some i := fun h9 => c186 (by rw [h9]; rfl)
                rw [if_neg hne, show mW (dvS (vl I (nI f)) (adM w g) (opM I) 256) (I 84 f) = (dvS (vl I (nI f)) (adM w g) (opM I) 256).2.2.2.2 m0 by unfold mW; rw [hm0]]
                first
                  | (rw [bi_ff c205, bi_tt c213]; rfl)
                  | (rw [bi_ff c205, bi_ff c213]; rfl)
                  | (rw [bi_tt c205, Bool.not_true, Bool.and_false]; rfl)) ?_
              refine aw_lstore (pc2 := 238) hk dX7_work_236 rfl (by decide) ?_
              show AW K Q _ _ 238 [_, _, _, _, _, _, _, _, _, _] _ _ _
              refine aw_iinc1 (pc2 := 241) hk dX7_work_238 rfl rfl (by decide) ?_
              show AW K Q _ _ 241 [_, _, _, _, _, _, _, _, _, _] _ _ _
              refine aw_goto (tgt := 174) hk dX7_work_241 (by decide) ?_
              refine aw_fg 7 ?_
              refine aw_lv [some (.ref 78), some (.int (nI k)), some (.int (nI f)), some (.int (opI (mD (dvS (vl I (nI f)) (adM w g) (opM I) 256) (I 84 f)))), some (.long (sL (lD (dvS (vl I (nI f)) (adM w g) (opM I) 256) (fun c => (prM I S c).toInt64) (I 84 f) (I 91 0)) (i + 1))), none, some (.int (nI (i + 1))), none, none, none] (by
                first
                  | rfl
                  | (rw [hm0]; rfl)
                  | (have em : mD (dvS (vl I (nI f)) (adM w g) (opM I) 256) (I 84 f) = some i := by rw [hm0] at c186 ⊢; rw [(nI_eq (by omega) (by omega)).mp c186]
                     have e : sL (lD (dvS (vl I (nI f)) (adM w g) (opM I) 256) (fun c => (prM I S c).toInt64) (I 84 f) (I 91 0)) (i + 1) = sL (lD (dvS (vl I (nI f)) (adM w g) (opM I) 256) (fun c => (prM I S c).toInt64) (I 84 f) (I 91 0)) i := by show _ + (if mD _ _ = some i then 0 else _) = _; rw [if_pos em, Int64.add_zero]
                     rw [e]; rfl)) ?_
              exact ih (i + 1) (by omega) (by omega)
            · refine aw_lv [some (.ref 78), some (.int (nI k)), some (.int (nI f)), some (.int (nI m0)), some (.long (sL (lD (dvS (vl I (nI f)) (adM w g) (opM I) 256) (fun c => (prM I S c).toInt64) (I 84 f) (I 91 0)) i)), none, some (.int (nI i)), some (.long (wD (dvS (vl I (nI f)) (adM w g) (opM I) 256) (fun c => (prM I S c).toInt64) i)), none, none] (by rw [hm0]; rfl) ?_
              refine aw_aload_n (pc2 := 209) hk dX7_work_208 rfl rfl ?_
              refine aw_iload_n (pc2 := 210) hk dX7_work_209 rfl rfl ?_
              refine aw_cV (rm2 := rmX7_hasWay) (pc2 := 213) hk veX7_hasWay dX7_work_210 rfl ml_X7_225 ⟨(Nat.le_of_ble_eq_true rfl), (Nat.le_of_ble_eq_true rfl)⟩ [_] rfl rfl (Nat.le_of_ble_eq_true rfl) (Nat.le_of_ble_eq_true rfl) (Nat.le_of_ble_eq_true rfl) (o_X7 rfl) (hway hF hm1 ?_)
              refine aw_if_eq (tgt := 221) (pc2 := 216) hk dX7_work_213 (by decide) rfl (fun c213 => ?_) (fun c213 => ?_)
              · refine aw_lload (pc2 := 223) hk dX7_work_221 rfl rfl ?_
                refine aw_aload_n (pc2 := 224) hk dX7_work_223 rfl rfl ?_
                refine aw_get (pc2 := 227) hk ckX7 15 dX7_work_224 rfl fl_X7_54 (by decide) (o_X7 rfl) rfl ?_
                refine aw_iconst (v := 0) (pc2 := 228) hk dX7_work_227 rfl (by decide) ?_
                refine h_iald (pc2 := 229) hk dX7_work_228 rfl rfl (show (0 : Int32) = nI 0 from rfl) (by decide) (by decide) ?_
                rw [f91]
                refine aw_i2l (pc2 := 230) hk dX7_work_229 rfl ?_
                refine aw_lmul (pc2 := 231) hk dX7_work_230 rfl ?_
                refine aw_ldc2 (pc2 := 234) hk dX7_work_231 rfl kl_X7_161 ?_
                refine aw_ldiv (pc2 := 235) hk dX7_work_234 rfl (by decide) ?_
                refine aw_ladd (pc2 := 236) hk dX7_work_235 rfl ?_
                refine aw_topL (sL (lD (dvS (vl I (nI f)) (adM w g) (opM I) 256) (fun c => (prM I S c).toInt64) (I 84 f) (I 91 0)) (i + 1)) (by
                  show _ + _ = _ + (if mD (dvS (vl I (nI f)) (adM w g) (opM I) 256) (I 84 f) = some i then 0 else if (mW (dvS (vl I (nI f)) (adM w g) (opM I) 256) (I 84 f) && !(dvS (vl I (nI f)) (adM w g) (opM I) 256).2.2.2.2 i) = true then wD (dvS (vl I (nI f)) (adM w g) (opM I) 256) (fun c => (prM I S c).toInt64) i else wD (dvS (vl I (nI f)) (adM w g) (opM I) 256) (fun c => (prM I S c).toInt64) i * (I 91 0).toInt64 / 1000)
                  have hne : ¬ mD (dvS (vl I (nI f)) (adM w g) (opM I) 256) (I 84 f) = some i := fun h9 => c186 (by rw [h9]; rfl)
                  rw [if_neg hne, show mW (dvS (vl I (nI f)) (adM w g) (opM I) 256) (I 84 f) = (dvS (vl I (nI f)) (adM w g) (opM I) 256).2.2.2.2 m0 by unfold mW; rw [hm0]]
                  first
                    | (rw [bi_ff c205, bi_tt c213]; rfl)
                    | (rw [bi_ff c205, bi_ff c213]; rfl)
                    | (rw [bi_tt c205, Bool.not_true, Bool.and_false]; rfl)) ?_
                refine aw_lstore (pc2 := 238) hk dX7_work_236 rfl (by decide) ?_
                show AW K Q _ _ 238 [_, _, _, _, _, _, _, _, _, _] _ _ _
                refine aw_iinc1 (pc2 := 241) hk dX7_work_238 rfl rfl (by decide) ?_
                show AW K Q _ _ 241 [_, _, _, _, _, _, _, _, _, _] _ _ _
                refine aw_goto (tgt := 174) hk dX7_work_241 (by decide) ?_
                refine aw_fg 7 ?_
                refine aw_lv [some (.ref 78), some (.int (nI k)), some (.int (nI f)), some (.int (opI (mD (dvS (vl I (nI f)) (adM w g) (opM I) 256) (I 84 f)))), some (.long (sL (lD (dvS (vl I (nI f)) (adM w g) (opM I) 256) (fun c => (prM I S c).toInt64) (I 84 f) (I 91 0)) (i + 1))), none, some (.int (nI (i + 1))), none, none, none] (by
                  first
                    | rfl
                    | (rw [hm0]; rfl)
                    | (have em : mD (dvS (vl I (nI f)) (adM w g) (opM I) 256) (I 84 f) = some i := by rw [hm0] at c186 ⊢; rw [(nI_eq (by omega) (by omega)).mp c186]
                       have e : sL (lD (dvS (vl I (nI f)) (adM w g) (opM I) 256) (fun c => (prM I S c).toInt64) (I 84 f) (I 91 0)) (i + 1) = sL (lD (dvS (vl I (nI f)) (adM w g) (opM I) 256) (fun c => (prM I S c).toInt64) (I 84 f) (I 91 0)) i := by show _ + (if mD _ _ = some i then 0 else _) = _; rw [if_pos em, Int64.add_zero]
                       rw [e]; rfl)) ?_
                exact ih (i + 1) (by omega) (by omega)
              · refine aw_lload (pc2 := 218) hk dX7_work_216 rfl rfl ?_
                refine aw_goto (tgt := 235) hk dX7_work_218 (by decide) ?_
                refine aw_ladd (pc2 := 236) hk dX7_work_235 rfl ?_
                refine aw_topL (sL (lD (dvS (vl I (nI f)) (adM w g) (opM I) 256) (fun c => (prM I S c).toInt64) (I 84 f) (I 91 0)) (i + 1)) (by
                  show _ + _ = _ + (if mD (dvS (vl I (nI f)) (adM w g) (opM I) 256) (I 84 f) = some i then 0 else if (mW (dvS (vl I (nI f)) (adM w g) (opM I) 256) (I 84 f) && !(dvS (vl I (nI f)) (adM w g) (opM I) 256).2.2.2.2 i) = true then wD (dvS (vl I (nI f)) (adM w g) (opM I) 256) (fun c => (prM I S c).toInt64) i else wD (dvS (vl I (nI f)) (adM w g) (opM I) 256) (fun c => (prM I S c).toInt64) i * (I 91 0).toInt64 / 1000)
                  have hne : ¬ mD (dvS (vl I (nI f)) (adM w g) (opM I) 256) (I 84 f) = some i := fun h9 => c186 (by rw [h9]; rfl)
                  rw [if_neg hne, show mW (dvS (vl I (nI f)) (adM w g) (opM I) 256) (I 84 f) = (dvS (vl I (nI f)) (adM w g) (opM I) 256).2.2.2.2 m0 by unfold mW; rw [hm0]]
                  first
                    | (rw [bi_ff c205, bi_tt c213]; rfl)
                    | (rw [bi_ff c205, bi_ff c213]; rfl)
                    | (rw [bi_tt c205, Bool.not_true, Bool.and_false]; rfl)) ?_
                refine aw_lstore (pc2 := 238) hk dX7_work_236 rfl (by decide) ?_
                show AW K Q _ _ 238 [_, _, _, _, _, _, _, _, _, _] _ _ _
                refine aw_iinc1 (pc2 := 241) hk dX7_work_238 rfl rfl (by decide) ?_
                show AW K Q _ _ 241 [_, _, _, _, _, _, _, _, _, _] _ _ _
                refine aw_goto (tgt := 174) hk dX7_work_241 (by decide) ?_
                refine aw_fg 7 ?_
                refine aw_lv [some (.ref 78), some (.int (nI k)), some (.int (nI f)), some (.int (opI (mD (dvS (vl I (nI f)) (adM w g) (opM I) 256) (I 84 f)))), some (.long (sL (lD (dvS (vl I (nI f)) (adM w g) (opM I) 256) (fun c => (prM I S c).toInt64) (I 84 f) (I 91 0)) (i + 1))), none, some (.int (nI (i + 1))), none, none, none] (by
                  first
                    | rfl
                    | (rw [hm0]; rfl)
                    | (have em : mD (dvS (vl I (nI f)) (adM w g) (opM I) 256) (I 84 f) = some i := by rw [hm0] at c186 ⊢; rw [(nI_eq (by omega) (by omega)).mp c186]
                       have e : sL (lD (dvS (vl I (nI f)) (adM w g) (opM I) 256) (fun c => (prM I S c).toInt64) (I 84 f) (I 91 0)) (i + 1) = sL (lD (dvS (vl I (nI f)) (adM w g) (opM I) 256) (fun c => (prM I S c).toInt64) (I 84 f) (I 91 0)) i := by show _ + (if mD _ _ = some i then 0 else _) = _; rw [if_pos em, Int64.add_zero]
                       rw [e]; rfl)) ?_
                exact ih (i + 1) (by omega) (by omega)
    refine aw_lconst (v := 0) (pc2 := 169) hk dX7_work_168 rfl (by decide) ?_
    refine aw_lstore (pc2 := 171) hk dX7_work_169 rfl (by decide) ?_
    show AW K Q _ _ 171 [_, _, _, _, _, _, _, _, _, _] _ _ _
    refine aw_iconst (v := 0) (pc2 := 172) hk dX7_work_171 rfl (by decide) ?_
    refine aw_istore (pc2 := 174) hk dX7_work_172 rfl (by decide) ?_
    show AW K Q _ _ 174 [_, _, _, _, _, _, _, _, _, _] _ _ _
    exact loop ((dvS (vl I (nI f)) (adM w g) (opM I) 256).1 + 1) 0 (by omega) (by omega)
  have loop : ∀ (k9 c : Nat), c ≤ 256 → 257 ≤ c + k9 → AW K Q 0 0 41 [some (.ref 78), some (.int (nI k)), some (.int (nI f)), some (.int (nI c)), none, none, none, none, none, none] [] n (H5 d I1 (u2 (u2 J 101 k (sL (fun c => if I 114 c ≠ 0 ∧ I 79 c = nI f then (prM I S c).toInt64 else 0) c)) 103 k (sL (fun c => if I 114 c ≠ 0 ∧ I 79 c = nI f then sL (fun s => if kxM I w g c f s = true then (I 91 1).toInt64 else 0) 4 else 0) c)) S L R) := by
    intro k9
    induction k9 with
    | zero => intro c h1 h2; omega
    | succ k9 ih =>
      intro c hc hn
      refine aw_iload_n (pc2 := 42) hk dX7_work_41 rfl rfl ?_
      refine aw_sipush (v := 256) (pc2 := 45) hk dX7_work_42 rfl (by decide) ?_
      refine aw_icN_ge (x := c) (y := 256) (tgt := 157) (pc2 := 48) hk dX7_work_45 (by decide) rfl rfl rfl (by omega) (by omega) (fun c45 => ?_) (fun c45 => ?_)
      · obtain rfl : c = 256 := by omega
        exact P2
      · refine aw_aload_n (pc2 := 49) hk dX7_work_48 rfl rfl ?_
        refine aw_get (pc2 := 52) hk ckX7 44 dX7_work_49 rfl fl_X7_124 (by decide) (o_X7 rfl) rfl ?_
        refine aw_iload_n (pc2 := 53) hk dX7_work_52 rfl rfl ?_
        refine h_zald (pc2 := 54) hk dX7_work_53 rfl rfl rfl (by omega) (by decide) ?_
        rw [e114]
        refine aw_if_eq (tgt := 151) (pc2 := 57) hk dX7_work_54 (by decide) rfl (fun c54 => ?_) (fun c54 => ?_)
        · refine aw_Jm (u2 (u2 J 101 k (sL (fun c => if I 114 c ≠ 0 ∧ I 79 c = nI f then (prM I S c).toInt64 else 0) (c + 1))) 103 k (sL (fun c => if I 114 c ≠ 0 ∧ I 79 c = nI f then sL (fun s => if kxM I w g c f s = true then (I 91 1).toInt64 else 0) 4 else 0) (c + 1))) (by
            have hcc : ¬ (I 114 c ≠ 0 ∧ I 79 c = nI f) := fun h => h.1 c54
            rw [show sL (fun c => if I 114 c ≠ 0 ∧ I 79 c = nI f then (prM I S c).toInt64 else 0) (c + 1) = sL (fun c => if I 114 c ≠ 0 ∧ I 79 c = nI f then (prM I S c).toInt64 else 0) c from (show sL (fun c => if I 114 c ≠ 0 ∧ I 79 c = nI f then (prM I S c).toInt64 else 0) c + (if _ then _ else _) = _ by rw [if_neg hcc, Int64.add_zero]), show sL (fun c => if I 114 c ≠ 0 ∧ I 79 c = nI f then sL (fun s => if kxM I w g c f s = true then (I 91 1).toInt64 else 0) 4 else 0) (c + 1) = sL (fun c => if I 114 c ≠ 0 ∧ I 79 c = nI f then sL (fun s => if kxM I w g c f s = true then (I 91 1).toInt64 else 0) 4 else 0) c from (show sL (fun c => if I 114 c ≠ 0 ∧ I 79 c = nI f then sL (fun s => if kxM I w g c f s = true then (I 91 1).toInt64 else 0) 4 else 0) c + (if _ then _ else _) = _ by rw [if_neg hcc, Int64.add_zero])]) ?_
          refine aw_iinc1 (pc2 := 154) hk dX7_work_151 rfl rfl (by decide) ?_
          refine aw_goto (tgt := 41) hk dX7_work_154 (by decide) ?_
          refine aw_fg 4 ?_
          refine aw_fg 5 ?_
          exact ih (c + 1) (by omega) (by omega)
        · refine aw_aload_n (pc2 := 58) hk dX7_work_57 rfl rfl ?_
          refine aw_get (pc2 := 61) hk ckX7 2 dX7_work_58 rfl fl_X7_16 (by decide) (o_X7 rfl) rfl ?_
          refine aw_iload_n (pc2 := 62) hk dX7_work_61 rfl rfl ?_
          refine h_iald (pc2 := 63) hk dX7_work_62 rfl rfl rfl (by omega) (by decide) ?_
          rw [e79]
          refine aw_iload_n (pc2 := 64) hk dX7_work_63 rfl rfl ?_
          refine aw_icmp_ne (tgt := 151) (pc2 := 67) hk dX7_work_64 (by decide) rfl (fun c64 => ?_) (fun c64 => ?_)
          · refine aw_Jm (u2 (u2 J 101 k (sL (fun c => if I 114 c ≠ 0 ∧ I 79 c = nI f then (prM I S c).toInt64 else 0) (c + 1))) 103 k (sL (fun c => if I 114 c ≠ 0 ∧ I 79 c = nI f then sL (fun s => if kxM I w g c f s = true then (I 91 1).toInt64 else 0) 4 else 0) (c + 1))) (by
              have hcc : ¬ (I 114 c ≠ 0 ∧ I 79 c = nI f) := fun h => c64 h.2
              rw [show sL (fun c => if I 114 c ≠ 0 ∧ I 79 c = nI f then (prM I S c).toInt64 else 0) (c + 1) = sL (fun c => if I 114 c ≠ 0 ∧ I 79 c = nI f then (prM I S c).toInt64 else 0) c from (show sL (fun c => if I 114 c ≠ 0 ∧ I 79 c = nI f then (prM I S c).toInt64 else 0) c + (if _ then _ else _) = _ by rw [if_neg hcc, Int64.add_zero]), show sL (fun c => if I 114 c ≠ 0 ∧ I 79 c = nI f then sL (fun s => if kxM I w g c f s = true then (I 91 1).toInt64 else 0) 4 else 0) (c + 1) = sL (fun c => if I 114 c ≠ 0 ∧ I 79 c = nI f then sL (fun s => if kxM I w g c f s = true then (I 91 1).toInt64 else 0) 4 else 0) c from (show sL (fun c => if I 114 c ≠ 0 ∧ I 79 c = nI f then sL (fun s => if kxM I w g c f s = true then (I 91 1).toInt64 else 0) 4 else 0) c + (if _ then _ else _) = _ by rw [if_neg hcc, Int64.add_zero])]) ?_
            refine aw_iinc1 (pc2 := 154) hk dX7_work_151 rfl rfl (by decide) ?_
            refine aw_goto (tgt := 41) hk dX7_work_154 (by decide) ?_
            refine aw_fg 4 ?_
            refine aw_fg 5 ?_
            exact ih (c + 1) (by omega) (by omega)
          · have hcc : I 114 c ≠ 0 ∧ I 79 c = nI f := ⟨c54, c64⟩
            obtain ⟨s9, hs4, hs⟩ := hso c (by omega)
            obtain ⟨pc0, hp20, hp, hpos⟩ := hpc s9 hs4
            refine aw_aload_n (pc2 := 68) hk dX7_work_67 rfl rfl ?_
            refine aw_get (pc2 := 71) hk ckX7 30 dX7_work_68 rfl fl_X7_84 (by decide) (o_X7 rfl) rfl ?_
            refine aw_iload_n (pc2 := 72) hk dX7_work_71 rfl rfl ?_
            refine aw_dup2_ir (pc2 := 73) hk dX7_work_72 rfl ?_
            refine h_lald (pc2 := 74) hk dX7_work_73 rfl rfl rfl hk7 (by decide) ?_
            refine aw_aload_n (pc2 := 75) hk dX7_work_74 rfl rfl ?_
            refine aw_aload_n (pc2 := 76) hk dX7_work_75 rfl rfl ?_
            refine aw_get (pc2 := 79) hk ckX7 3 dX7_work_76 rfl fl_X7_20 (by decide) (o_X7 rfl) rfl ?_
            refine aw_iload_n (pc2 := 80) hk dX7_work_79 rfl rfl ?_
            refine h_iald (pc2 := 81) hk dX7_work_80 rfl rfl rfl (by omega) (by decide) ?_
            rw [e80, hs]
            refine aw_aload_n (pc2 := 82) hk dX7_work_81 rfl rfl ?_
            refine aw_get (pc2 := 85) hk ckX7 16 dX7_work_82 rfl fl_X7_174 (by decide) (o_X7 rfl) rfl ?_
            refine aw_cV (rm2 := rmX7_costOf) (pc2 := 88) hk veX7_costOf dX7_work_85 rfl ml_X7_167 ⟨(Nat.le_of_ble_eq_true rfl), (Nat.le_of_ble_eq_true rfl)⟩ [_, _] rfl rfl (Nat.le_of_ble_eq_true rfl) (Nat.le_of_ble_eq_true rfl) (Nat.le_of_ble_eq_true rfl) (o_X7 rfl) (m_costOf hs4 (by rw [e88]; exact hp) hp20 (by rw [e89]; exact hpos) ?_)
            have ep : (onS (fun q => I1 89 (20 * s9 + q)) (fun q => I1 90 (20 * s9 + q)) (S 78 16) pc0).2 = prM I S c := by unfold prM; rw [hs, nI_clamp (by omega), hp, nI_clamp (by omega), e89, e90]
            rw [ep]
            refine aw_i2l (pc2 := 89) hk dX7_work_88 rfl ?_
            refine aw_ladd (pc2 := 90) hk dX7_work_89 rfl ?_
            refine aw_topL (sL (fun c => if I 114 c ≠ 0 ∧ I 79 c = nI f then (prM I S c).toInt64 else 0) (c + 1)) (by rw [u2_a _ _ _ _ (by decide), u2_s]; show _ + _ = _ + (if _ then _ else _); rw [if_pos hcc]) ?_
            refine h_last (pc2 := 91) hk dX7_work_90 rfl rfl rfl hk7 (by decide) ?_
            refine aw_Jm (u2 (u2 J 101 k (sL (fun c => if I 114 c ≠ 0 ∧ I 79 c = nI f then (prM I S c).toInt64 else 0) (c + 1))) 103 k (sL (fun c => if I 114 c ≠ 0 ∧ I 79 c = nI f then sL (fun s => if kxM I w g c f s = true then (I 91 1).toInt64 else 0) 4 else 0) c + sL (fun s => if kxM I w g c f s = true then (I 91 1).toInt64 else 0) 0)) (by rw [← u2_cm _ _ _ _ _ (show (101 : Nat) ≠ 103 by decide), u2_u2]; show _ = u2 _ 103 k (_ + 0); rw [Int64.add_zero]) ?_
            have loop2 : ∀ (k2 s : Nat), s ≤ 4 → 5 ≤ s + k2 → AW K Q 0 0 94 [some (.ref 78), some (.int (nI k)), some (.int (nI f)), some (.int (nI c)), some (.int (nI s)), none, none, none, none, none] [] n (H5 d I1 (u2 (u2 J 101 k (sL (fun c => if I 114 c ≠ 0 ∧ I 79 c = nI f then (prM I S c).toInt64 else 0) (c + 1))) 103 k (sL (fun c => if I 114 c ≠ 0 ∧ I 79 c = nI f then sL (fun s => if kxM I w g c f s = true then (I 91 1).toInt64 else 0) 4 else 0) c + sL (fun s => if kxM I w g c f s = true then (I 91 1).toInt64 else 0) s)) S L R) := by
              intro k2
              induction k2 with
              | zero => intro s h1 h2; omega
              | succ k2 ih2 =>
                intro s hs5 hn2
                refine aw_iload (pc2 := 96) hk dX7_work_94 rfl rfl ?_
                refine aw_iconst (v := 4) (pc2 := 97) hk dX7_work_96 rfl (by decide) ?_
                refine aw_icN_ge (x := s) (y := 4) (tgt := 151) (pc2 := 100) hk dX7_work_97 (by decide) rfl rfl rfl (by omega) (by omega) (fun c97 => ?_) (fun c97 => ?_)
                · obtain rfl : s = 4 := by omega
                  refine aw_Jm (u2 (u2 J 101 k (sL (fun c => if I 114 c ≠ 0 ∧ I 79 c = nI f then (prM I S c).toInt64 else 0) (c + 1))) 103 k (sL (fun c => if I 114 c ≠ 0 ∧ I 79 c = nI f then sL (fun s => if kxM I w g c f s = true then (I 91 1).toInt64 else 0) 4 else 0) (c + 1))) (by rw [show sL (fun c => if I 114 c ≠ 0 ∧ I 79 c = nI f then sL (fun s => if kxM I w g c f s = true then (I 91 1).toInt64 else 0) 4 else 0) (c + 1) = sL (fun c => if I 114 c ≠ 0 ∧ I 79 c = nI f then sL (fun s => if kxM I w g c f s = true then (I 91 1).toInt64 else 0) 4 else 0) c + sL (fun s => if kxM I w g c f s = true then (I 91 1).toInt64 else 0) 4 from (show sL (fun c => if I 114 c ≠ 0 ∧ I 79 c = nI f then sL (fun s => if kxM I w g c f s = true then (I 91 1).toInt64 else 0) 4 else 0) c + (if _ then _ else _) = _ by rw [if_pos hcc])]) ?_
                  refine aw_iinc1 (pc2 := 154) hk dX7_work_151 rfl rfl (by decide) ?_
                  refine aw_goto (tgt := 41) hk dX7_work_154 (by decide) ?_
                  refine aw_fg 4 ?_
                  refine aw_fg 5 ?_
                  exact ih (c + 1) (by omega) (by omega)
                · refine aw_aload_n (pc2 := 101) hk dX7_work_100 rfl rfl ?_
                  refine aw_iload_n (pc2 := 102) hk dX7_work_101 rfl rfl ?_
                  refine aw_iload (pc2 := 104) hk dX7_work_102 rfl rfl ?_
                  refine aw_cV (rm2 := rmX7_beside) (pc2 := 107) hk veX7_beside dX7_work_104 rfl ml_X7_187 ⟨(Nat.le_of_ble_eq_true rfl), (Nat.le_of_ble_eq_true rfl)⟩ [_, _] rfl rfl (Nat.le_of_ble_eq_true rfl) (Nat.le_of_ble_eq_true rfl) (Nat.le_of_ble_eq_true rfl) (o_X7 rfl) (m_beside hB (by omega) (by omega) ?_)
                  refine aw_istore (pc2 := 109) hk dX7_work_107 rfl (by decide) ?_
                  show AW K Q _ _ 109 [_, _, _, _, _, _, _, _, _, _] _ _ _
                  refine aw_aload_n (pc2 := 110) hk dX7_work_109 rfl rfl ?_
                  refine aw_get (pc2 := 113) hk ckX7 32 dX7_work_110 rfl fl_X7_91 (by decide) (o_X7 rfl) rfl ?_
                  refine aw_iload_n (pc2 := 114) hk dX7_work_113 rfl rfl ?_
                  refine aw_dup2_ir (pc2 := 115) hk dX7_work_114 rfl ?_
                  refine h_lald (pc2 := 116) hk dX7_work_115 rfl rfl rfl hk7 (by decide) ?_
                  refine aw_iload (pc2 := 118) hk dX7_work_116 rfl rfl ?_
                  refine aw_iconst (v := -1) (pc2 := 119) hk dX7_work_118 rfl (by decide) ?_
                  refine aw_icmp_eq (tgt := 142) (pc2 := 122) hk dX7_work_119 (by decide) rfl (fun c119 => ?_) (fun c119 => ?_)
                  · refine aw_lconst (v := 0) (pc2 := 143) hk dX7_work_142 rfl (by decide) ?_
                    refine aw_ladd (pc2 := 144) hk dX7_work_143 rfl ?_
                    refine aw_topL (sL (fun c => if I 114 c ≠ 0 ∧ I 79 c = nI f then sL (fun s => if kxM I w g c f s = true then (I 91 1).toInt64 else 0) 4 else 0) c + sL (fun s => if kxM I w g c f s = true then (I 91 1).toInt64 else 0) (s + 1)) (by
                      rw [u2_s]
                      show sL (fun c => if I 114 c ≠ 0 ∧ I 79 c = nI f then sL (fun s => if kxM I w g c f s = true then (I 91 1).toInt64 else 0) 4 else 0) c + sL (fun s => if kxM I w g c f s = true then (I 91 1).toInt64 else 0) s + _ = sL (fun c => if I 114 c ≠ 0 ∧ I 79 c = nI f then sL (fun s => if kxM I w g c f s = true then (I 91 1).toInt64 else 0) 4 else 0) c + (sL (fun s => if kxM I w g c f s = true then (I 91 1).toInt64 else 0) s + (if kxM I w g c f s = true then (I 91 1).toInt64 else 0))
                      rw [Int64.add_assoc]
                      first
                        | (rw [kx_s hb1, if_pos (bi_tt c129)]; done)
                        | (rw [kx_s hb1, bi_ff c129]; rfl)
                        | (rw [kx_n (opI_none c119 (fun q h => plc_lt hw6 hg6 h))]; rfl)) ?_
                    refine h_last (pc2 := 145) hk dX7_work_144 rfl rfl rfl hk7 (by decide) ?_
                    rw [u2_u2]
                    refine aw_iinc1 (pc2 := 148) hk dX7_work_145 rfl rfl (by decide) ?_
                    show AW K Q _ _ 148 [_, _, _, _, _, _, _, _, _, _] _ _ _
                    refine aw_goto (tgt := 94) hk dX7_work_148 (by decide) ?_
                    refine aw_fg 5 ?_
                    exact ih2 (s + 1) (by omega) (by omega)
                  · obtain ⟨b, hb1, hb2⟩ := opI_some c119
                    have hb3 : b < 256 := plc_lt hw6 hg6 hb1
                    refine aw_aload_n (pc2 := 123) hk dX7_work_122 rfl rfl ?_
                    refine aw_iload (pc2 := 125) hk dX7_work_123 rfl rfl ?_
                    refine aw_iload_n (pc2 := 126) hk dX7_work_125 rfl rfl ?_
                    refine aw_cV (rm2 := rmX7_isLeft) (pc2 := 129) hk veX7_isLeft dX7_work_126 rfl ml_X7_190 ⟨(Nat.le_of_ble_eq_true rfl), (Nat.le_of_ble_eq_true rfl)⟩ [_, _] rfl rfl (Nat.le_of_ble_eq_true rfl) (Nat.le_of_ble_eq_true rfl) (Nat.le_of_ble_eq_true rfl) (o_X7 rfl) (m_isLeft hb2 hb3 ?_)
                    rw [lft_eq e79 e83]
                    refine aw_if_eq (tgt := 142) (pc2 := 132) hk dX7_work_129 (by decide) rfl (fun c129 => ?_) (fun c129 => ?_)
                    · refine aw_lconst (v := 0) (pc2 := 143) hk dX7_work_142 rfl (by decide) ?_
                      refine aw_ladd (pc2 := 144) hk dX7_work_143 rfl ?_
                      refine aw_topL (sL (fun c => if I 114 c ≠ 0 ∧ I 79 c = nI f then sL (fun s => if kxM I w g c f s = true then (I 91 1).toInt64 else 0) 4 else 0) c + sL (fun s => if kxM I w g c f s = true then (I 91 1).toInt64 else 0) (s + 1)) (by
                        rw [u2_s]
                        show sL (fun c => if I 114 c ≠ 0 ∧ I 79 c = nI f then sL (fun s => if kxM I w g c f s = true then (I 91 1).toInt64 else 0) 4 else 0) c + sL (fun s => if kxM I w g c f s = true then (I 91 1).toInt64 else 0) s + _ = sL (fun c => if I 114 c ≠ 0 ∧ I 79 c = nI f then sL (fun s => if kxM I w g c f s = true then (I 91 1).toInt64 else 0) 4 else 0) c + (sL (fun s => if kxM I w g c f s = true then (I 91 1).toInt64 else 0) s + (if kxM I w g c f s = true then (I 91 1).toInt64 else 0))
                        rw [Int64.add_assoc]
                        first
                          | (rw [kx_s hb1, if_pos (bi_tt c129)]; done)
                          | (rw [kx_s hb1, bi_ff c129]; rfl)
                          | (rw [kx_n (opI_none c119 (fun q h => plc_lt hw6 hg6 h))]; rfl)) ?_
                      refine h_last (pc2 := 145) hk dX7_work_144 rfl rfl rfl hk7 (by decide) ?_
                      rw [u2_u2]
                      refine aw_iinc1 (pc2 := 148) hk dX7_work_145 rfl rfl (by decide) ?_
                      show AW K Q _ _ 148 [_, _, _, _, _, _, _, _, _, _] _ _ _
                      refine aw_goto (tgt := 94) hk dX7_work_148 (by decide) ?_
                      refine aw_fg 5 ?_
                      exact ih2 (s + 1) (by omega) (by omega)
                    · refine aw_aload_n (pc2 := 133) hk dX7_work_132 rfl rfl ?_
                      refine aw_get (pc2 := 136) hk ckX7 15 dX7_work_133 rfl fl_X7_54 (by decide) (o_X7 rfl) rfl ?_
                      refine aw_iconst (v := 1) (pc2 := 137) hk dX7_work_136 rfl (by decide) ?_
                      refine h_iald (pc2 := 138) hk dX7_work_137 rfl rfl (show (1 : Int32) = nI 1 from rfl) (by decide) (by decide) ?_
                      rw [e91]
                      refine aw_i2l (pc2 := 139) hk dX7_work_138 rfl ?_
                      refine aw_goto (tgt := 143) hk dX7_work_139 (by decide) ?_
                      refine aw_ladd (pc2 := 144) hk dX7_work_143 rfl ?_
                      refine aw_topL (sL (fun c => if I 114 c ≠ 0 ∧ I 79 c = nI f then sL (fun s => if kxM I w g c f s = true then (I 91 1).toInt64 else 0) 4 else 0) c + sL (fun s => if kxM I w g c f s = true then (I 91 1).toInt64 else 0) (s + 1)) (by
                        rw [u2_s]
                        show sL (fun c => if I 114 c ≠ 0 ∧ I 79 c = nI f then sL (fun s => if kxM I w g c f s = true then (I 91 1).toInt64 else 0) 4 else 0) c + sL (fun s => if kxM I w g c f s = true then (I 91 1).toInt64 else 0) s + _ = sL (fun c => if I 114 c ≠ 0 ∧ I 79 c = nI f then sL (fun s => if kxM I w g c f s = true then (I 91 1).toInt64 else 0) 4 else 0) c + (sL (fun s => if kxM I w g c f s = true then (I 91 1).toInt64 else 0) s + (if kxM I w g c f s = true then (I 91 1).toInt64 else 0))
                        rw [Int64.add_assoc]
                        first
                          | (rw [kx_s hb1, if_pos (bi_tt c129)]; done)
                          | (rw [kx_s hb1, bi_ff c129]; rfl)
                          | (rw [kx_n (opI_none c119 (fun q h => plc_lt hw6 hg6 h))]; rfl)) ?_
                      refine h_last (pc2 := 145) hk dX7_work_144 rfl rfl rfl hk7 (by decide) ?_
                      rw [u2_u2]
                      refine aw_iinc1 (pc2 := 148) hk dX7_work_145 rfl rfl (by decide) ?_
                      show AW K Q _ _ 148 [_, _, _, _, _, _, _, _, _, _] _ _ _
                      refine aw_goto (tgt := 94) hk dX7_work_148 (by decide) ?_
                      refine aw_fg 5 ?_
                      exact ih2 (s + 1) (by omega) (by omega)
            refine aw_iconst (v := 0) (pc2 := 92) hk dX7_work_91 rfl (by decide) ?_
            refine aw_istore (pc2 := 94) hk dX7_work_92 rfl (by decide) ?_
            show AW K Q _ _ 94 [_, _, _, _, _, _, _, _, _, _] _ _ _
            exact loop2 5 0 (by omega) (by omega)
  refine aw_iconst (v := 0) (pc2 := 40) hk dX7_work_39 rfl (by decide) ?_
  refine aw_istore_n (pc2 := 41) hk dX7_work_40 rfl (by decide) ?_
  show AW K Q _ _ 41 [_, _, _, _, _, _, _, _, _, _] _ _ _
  refine aw_Jm (u2 (u2 J 101 k (sL (fun c => if I 114 c ≠ 0 ∧ I 79 c = nI f then (prM I S c).toInt64 else 0) 0)) 103 k (sL (fun c => if I 114 c ≠ 0 ∧ I 79 c = nI f then sL (fun s => if kxM I w g c f s = true then (I 91 1).toInt64 else 0) 4 else 0) 0)) (by show _ = u2 (u2 J 101 k 0) 103 k 0; rw [u2_id (u2 J 101 k 0) 103 k (by rw [u2_a _ _ _ _ (by decide)]; exact h103), u2_id J 101 k h101]) ?_
  exact loop 257 0 (by omega) (by omega)
