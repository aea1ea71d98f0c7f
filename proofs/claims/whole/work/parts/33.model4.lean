theorem dvS_skips {V : Nat → Bool} {A : Nat → Nat → Prop} {o : Nat → Bool} (a : Nat) : ∀ k, (∀ c, a ≤ c → c < a + k → V c = false) → dvS V A o (a + k) = dvS V A o a := by
  intro k
  induction k with
  | zero => intro _; rfl
  | succ k ih =>
    intro h
    rw [show a + (k + 1) = a + k + 1 by omega, dvS_skip (fun h9 => by rw [h (a + k) (by omega) (by omega)] at h9; cases h9.1)]
    exact ih (fun c h1 h2 => h c h1 (by omega))
def MR (I I1 : M2) (D : DV) : Prop := (∀ b, b ≠ 110 → b ≠ 111 → b ≠ 112 → b ≠ 113 → I1 b = I b) ∧ (∀ x, x < 256 → I1 110 x = opJ (D.2.1 x)) ∧ ∀ j, j < D.1 → I1 113 j = nI (D.2.2.2.1 j) ∧ I1 112 j = nI (D.2.2.1 j)
theorem MR.k1 {I I1 : M2} {D : DV} (h : MR I I1 D) (x : Nat) (f : Int32) : lft I1 x f = lft I x f := by unfold lft; rw [h.1 79 (by decide) (by decide) (by decide) (by decide), h.1 83 (by decide) (by decide) (by decide) (by decide)]
theorem opJ_0 {o : Option Nat} (h : opJ o = 0) (hb : ∀ q, o = some q → q < 2 ^ 30) : o = none := by
  cases o with
  | none => rfl
  | some q => exact absurd h (nI_ne0 (by omega) (by have := hb q rfl; omega))
set_option maxHeartbeats 800000 in
set_option maxRecDepth 100000 in
theorem m_divide {n : Nat} {d : D2} {I : M2} {J : J2} {S : M2} {L : J2} {R : R2} {Q : QT} {w g fc oc uc td : Nat} {md op : Bool} (hB : MB S w g fc oc uc td md op) {fn : Nat} (hfn : fn < 12) (hout : ∀ c, c < 256 → (w ≤ c % 16 ∨ g ≤ c / 16) → I 79 c = -1) (hq : ∀ I1 : M2, MR I I1 (dvS (vl I (nI fn)) (adM w g) (opM I) 256) → Q none n (H5 d I1 J (u2 S 78 41 (nI (dvS (vl I (nI fn)) (adM w g) (opM I) 256).1)) L R)) : Calls yX7_divide cX7_divide 5 none rmX7_divide [.ref 78, .int (nI fn)] n (H5 d I J S L R) Q := by
  refine Calls.of (by decide) (Nat.le_of_ble_eq_true rfl) ?_
  intro K hk
  show AW K Q 0 0 0 [some (.ref 78), some (.int (nI fn)), none, none, none] [] n (H5 d I J S L R)
  obtain ⟨hw, hg, hw1, hw6, hg1, hg6, hfc, hfc2, hoc, hoc6, huc, huc5, htd, htd4, hmd, hop⟩ := id hB
  have loop : ∀ (k y : Nat) (I1 : M2), y ≤ g → g + 1 ≤ y + k → MR I I1 (dvS (vl I (nI fn)) (adM w g) (opM I) (16 * y)) → AW K Q 0 0 29 [some (.ref 78), some (.int (nI fn)), some (.int (nI y)), none, none] [] n (H5 d I1 J (u2 S 78 41 (nI (dvS (vl I (nI fn)) (adM w g) (opM I) (16 * y)).1)) L R) := by
    intro k
    induction k with
    | zero => intro y I1 h1 h2; omega
    | succ k ih =>
      intro y I1 hy hn hF
      have loop2 : y < g → ∀ (k2 x : Nat) (I1 : M2), x ≤ w → w + 1 ≤ x + k2 → MR I I1 (dvS (vl I (nI fn)) (adM w g) (opM I) (16 * y + x)) → AW K Q 0 0 39 [some (.ref 78), some (.int (nI fn)), some (.int (nI y)), some (.int (nI x)), none] [] n (H5 d I1 J (u2 S 78 41 (nI (dvS (vl I (nI fn)) (adM w g) (opM I) (16 * y + x)).1)) L R) := by
        intro hyg k2
        induction k2 with
        | zero => intro x I1 h1 h2; omega
        | succ k2 ih2 =>
          intro x I1 hx hn2 hF
          have hle := (dvS_le (vl I (nI fn)) (adM w g) (opM I) (16 * y + x)).1
          refine aw_iload_n (pc2 := 40) hk dX7_divide_39 rfl rfl ?_
          refine aw_aload_n (pc2 := 41) hk dX7_divide_40 rfl rfl ?_
          refine aw_get (pc2 := 44) hk ckX7 0 dX7_divide_41 rfl fl_X7_7 (by decide) (o_X7 rfl) rfl ?_
          refine aw_icN_ge (x := x) (y := w) (tgt := 109) (pc2 := 47) hk dX7_divide_44 (by decide) rfl rfl (by rw [u2_j _ _ _ _ (by decide)]; exact hw) (by omega) (by omega) (fun c44 => ?_) (fun c44 => ?_)
          · have hrow : (dvS (vl I (nI fn)) (adM w g) (opM I) (16 * (y + 1))) = (dvS (vl I (nI fn)) (adM w g) (opM I) (16 * y + x)) := by
              have h9 := dvS_skips (V := vl I (nI fn)) (A := adM w g) (o := opM I) (16 * y + x) (16 - x) (fun c9 h1 h2 => by
                have h3 := hout c9 (by omega) (Or.inl (by omega))
                unfold vl lft
                rw [h3]
                have h4 : ¬ (-1 : Int32) = nI fn := fun h => nI_m1 (by omega) h.symm
                simp [h4])
              rw [show 16 * (y + 1) = (16 * y + x) + (16 - x) by omega]
              exact h9
            refine aw_iinc1 (pc2 := 112) hk dX7_divide_109 rfl rfl (by decide) ?_
            refine aw_goto (tgt := 29) hk dX7_divide_112 (by decide) ?_
            refine aw_fg 3 ?_
            refine aw_S (u2 S 78 41 (nI (dvS (vl I (nI fn)) (adM w g) (opM I) (16 * (y + 1))).1)) (by rw [hrow]) ?_
            exact ih (y + 1) I1 (by omega) (by omega) (by rw [hrow]; exact hF)
          · refine aw_bipush (v := nI 16) (pc2 := 49) hk dX7_divide_47 rfl (by decide) ?_
            refine aw_iload_n (pc2 := 50) hk dX7_divide_49 rfl rfl ?_
            refine aw_imul (pc2 := 51) hk dX7_divide_50 rfl ?_
            refine aw_iload_n (pc2 := 52) hk dX7_divide_51 rfl rfl ?_
            refine aw_iadd (pc2 := 53) hk dX7_divide_52 rfl ?_
            rw [mulN]
            refine aw_istore (pc2 := 55) hk dX7_divide_53 rfl (by decide) ?_
            show AW K Q _ _ 55 [_, _, _, _, _] _ _ _
            refine aw_aload_n (pc2 := 56) hk dX7_divide_55 rfl rfl ?_
            refine aw_iload (pc2 := 58) hk dX7_divide_56 rfl rfl ?_
            refine aw_iload_n (pc2 := 59) hk dX7_divide_58 rfl rfl ?_
            refine aw_cV (rm2 := rmX7_isLeft) (pc2 := 62) hk veX7_isLeft dX7_divide_59 rfl ml_X7_190 ⟨(Nat.le_of_ble_eq_true rfl), (Nat.le_of_ble_eq_true rfl)⟩ [_, _] rfl rfl (Nat.le_of_ble_eq_true rfl) (Nat.le_of_ble_eq_true rfl) (Nat.le_of_ble_eq_true rfl) (o_X7 rfl) (m_isLeft rfl (by omega) ?_)
            refine aw_if_eq (tgt := 103) (pc2 := 65) hk dX7_divide_62 (by decide) rfl (fun c62 => ?_) (fun c62 => ?_)
            · have hsk : (dvS (vl I (nI fn)) (adM w g) (opM I) (16 * y + (x + 1))) = (dvS (vl I (nI fn)) (adM w g) (opM I) (16 * y + x)) := by rw [show 16 * y + (x + 1) = (16 * y + x) + 1 by omega]; exact dvS_skip (fun h9 => by have h8 := h9.1; unfold vl at h8; rw [← hF.k1 (16 * y + x) (nI fn), bi_ff c62] at h8; simp at h8)
              refine aw_iinc1 (pc2 := 106) hk dX7_divide_103 rfl rfl (by decide) ?_
              refine aw_goto (tgt := 39) hk dX7_divide_106 (by decide) ?_
              refine aw_fg 4 ?_
              refine aw_S (u2 S 78 41 (nI (dvS (vl I (nI fn)) (adM w g) (opM I) (16 * y + (x + 1))).1)) (by rw [hsk]) ?_
              exact ih2 (x + 1) I1 (by omega) (by omega) (by rw [hsk]; exact hF)
            · refine aw_aload_n (pc2 := 66) hk dX7_divide_65 rfl rfl ?_
              refine aw_get (pc2 := 69) hk ckX7 39 dX7_divide_66 rfl fl_X7_112 (by decide) (o_X7 rfl) rfl ?_
              refine aw_iload (pc2 := 71) hk dX7_divide_69 rfl rfl ?_
              refine h_iald (pc2 := 72) hk dX7_divide_71 rfl rfl rfl (by omega) (by decide) ?_
              refine aw_if_ne (tgt := 103) (pc2 := 75) hk dX7_divide_72 (by decide) rfl (fun c72 => ?_) (fun c72 => ?_)
              · have hsk : (dvS (vl I (nI fn)) (adM w g) (opM I) (16 * y + (x + 1))) = (dvS (vl I (nI fn)) (adM w g) (opM I) (16 * y + x)) := by rw [show 16 * y + (x + 1) = (16 * y + x) + 1 by omega]; exact dvS_skip (fun h9 => c72 (by rw [hF.2.1 (16 * y + x) (by omega), h9.2]; rfl))
                refine aw_iinc1 (pc2 := 106) hk dX7_divide_103 rfl rfl (by decide) ?_
                refine aw_goto (tgt := 39) hk dX7_divide_106 (by decide) ?_
                refine aw_fg 4 ?_
                refine aw_S (u2 S 78 41 (nI (dvS (vl I (nI fn)) (adM w g) (opM I) (16 * y + (x + 1))).1)) (by rw [hsk]) ?_
                exact ih2 (x + 1) I1 (by omega) (by omega) (by rw [hsk]; exact hF)
              · have hpn : (dvS (vl I (nI fn)) (adM w g) (opM I) (16 * y + x)).2.1 (16 * y + x) = none := opJ_0 ((hF.2.1 (16 * y + x) (by omega)).symm.trans c72) (fun q h => by have := (dvS_le (vl I (nI fn)) (adM w g) (opM I) (16 * y + x)).2 (16 * y + x) q h; omega)
                have hvi : vl I (nI fn) (16 * y + x) = true := by unfold vl; rw [← hF.k1 (16 * y + x) (nI fn), bi_tt c62]; simp; omega
                have hnew := dvS_new (op := opM I) ⟨hvi, hpn⟩
                refine aw_aload_n (pc2 := 76) hk dX7_divide_75 rfl rfl ?_
                refine aw_get (pc2 := 79) hk ckX7 42 dX7_divide_76 rfl fl_X7_118 (by decide) (o_X7 rfl) rfl ?_
                refine aw_aload_n (pc2 := 80) hk dX7_divide_79 rfl rfl ?_
                refine aw_get (pc2 := 83) hk ckX7 41 dX7_divide_80 rfl fl_X7_184 (by decide) (o_X7 rfl) rfl ?_
                refine aw_iload (pc2 := 85) hk dX7_divide_83 rfl rfl ?_
                refine h_iast (pc2 := 86) hk dX7_divide_85 rfl rfl (u2_s _ _ _ _) (by omega) (by decide) ?_
                refine aw_aload_n (pc2 := 87) hk dX7_divide_86 rfl rfl ?_
                refine aw_dup_r (pc2 := 88) hk dX7_divide_87 rfl ?_
                refine aw_get (pc2 := 91) hk ckX7 41 dX7_divide_88 rfl fl_X7_184 (by decide) (o_X7 rfl) rfl ?_
                refine aw_iconst (v := 1) (pc2 := 92) hk dX7_divide_91 rfl (by decide) ?_
                refine aw_iadd (pc2 := 93) hk dX7_divide_92 rfl ?_
                refine aw_top (nI ((dvS (vl I (nI fn)) (adM w g) (opM I) (16 * y + x)).1 + 1)) (by rw [u2_s]; exact nI_1 _) ?_
                refine aw_put (pc2 := 96) hk ckX7 41 dX7_divide_93 rfl fl_X7_184 (by decide) rfl (o_X7 rfl) (fun _ => rfl) (fun _ => rfl) (Nat.le_of_ble_eq_true rfl) ?_
                rw [p_X7_41 rfl]
                rw [u2_u2]
                have hVe : (fun q => vl (u2 I1 112 (dvS (vl I (nI fn)) (adM w g) (opM I) (16 * y + x)).1 (nI (16 * y + x))) (nI fn) q && ((u2 I1 112 (dvS (vl I (nI fn)) (adM w g) (opM I) (16 * y + x)).1 (nI (16 * y + x))) 110 q == 0)) = (fun q => vl I (nI fn) q && ((dvS (vl I (nI fn)) (adM w g) (opM I) (16 * y + x)).2.1 q).isNone) := by
                  funext q
                  have e1 : vl (u2 I1 112 (dvS (vl I (nI fn)) (adM w g) (opM I) (16 * y + x)).1 (nI (16 * y + x))) (nI fn) q = vl I (nI fn) q := by unfold vl lft; rw [u2_row _ _ _ (by decide), u2_row _ _ _ (by decide), hF.1 79 (by decide) (by decide) (by decide) (by decide), hF.1 83 (by decide) (by decide) (by decide) (by decide)]
                  rw [e1, u2_a _ _ _ _ (by decide)]
                  by_cases hy : q < 256
                  · rw [hF.2.1 q hy]
                    cases hp : (dvS (vl I (nI fn)) (adM w g) (opM I) (16 * y + x)).2.1 q with
                    | none => rfl
                    | some r =>
                      have := (dvS_le (vl I (nI fn)) (adM w g) (opM I) (16 * y + x)).2 q r hp
                      have h9 : ¬ nI (r + 1) = 0 := nI_ne0 (by omega) (by omega)
                      simp [opJ, h9]
                  · simp [vl, hy]
                refine aw_aload_n (pc2 := 97) hk dX7_divide_96 rfl rfl ?_
                refine aw_iload (pc2 := 99) hk dX7_divide_97 rfl rfl ?_
                refine aw_iload_n (pc2 := 100) hk dX7_divide_99 rfl rfl ?_
                refine aw_cV (rm2 := rmX7_spread) (pc2 := 103) hk veX7_spread dX7_divide_100 rfl ml_X7_193 ⟨(Nat.le_of_ble_eq_true rfl), (Nat.le_of_ble_eq_true rfl)⟩ [_, _] rfl rfl (Nat.le_of_ble_eq_true rfl) (Nat.le_of_ble_eq_true rfl) (Nat.le_of_ble_eq_true rfl) (o_X7 rfl) (m_spread (kk := (dvS (vl I (nI fn)) (adM w g) (opM I) (16 * y + x)).1) (hB.u2S _ (Or.inr (by decide))) (by omega) (by omega) (u2_s _ _ _ _) (fun I2 g1 g2 g3 g4 => ?_))
                rw [hVe] at g2 g4
                have hF2 : MR I I2 (dvS (vl I (nI fn)) (adM w g) (opM I) (16 * y + (x + 1))) := by
                  rw [show 16 * y + (x + 1) = (16 * y + x) + 1 by omega, hnew]
                  refine ⟨fun b h1 h2 h3 h4 => by rw [g1 b h1 h2 h4, u2_row _ _ _ h3]; exact hF.1 b h1 h2 h3 h4, fun q hx => ?_, fun j hj => ?_⟩
                  · show I2 110 q = opJ (if _ then _ else _)
                    by_cases hc : Rch (fun r => vl I (nI fn) r && ((dvS (vl I (nI fn)) (adM w g) (opM I) (16 * y + x)).2.1 r).isNone) (adM w g) (16 * y + x) q
                    · rw [if_pos (cdec_t.mpr ⟨hx, hc⟩)]
                      exact (g2 q hx).1 hc
                    · rw [if_neg (fun h9 => hc (cdec_t.mp h9).2), (g2 q hx).2 hc, u2_a _ _ _ _ (by decide)]
                      exact hF.2.1 q hx
                  · by_cases hj2 : j = (dvS (vl I (nI fn)) (adM w g) (opM I) (16 * y + x)).1
                    · subst hj2
                      simp only [va_up_self]
                      exact ⟨g4, by rw [g1 112 (by decide) (by decide) (by decide), u2_s]⟩
                    · simp only [va_up_ne _ _ hj2]
                      have h4 := hF.2.2 j (by simp only at hj; omega)
                      rw [g3 j hj2, u2_a _ _ _ _ (by decide), g1 112 (by decide) (by decide) (by decide), u2_j _ _ _ _ hj2]
                      exact h4
                refine aw_S (u2 S 78 41 (nI (dvS (vl I (nI fn)) (adM w g) (opM I) (16 * y + (x + 1))).1)) (by rw [show 16 * y + (x + 1) = (16 * y + x) + 1 by omega, hnew]) ?_
                refine aw_iinc1 (pc2 := 106) hk dX7_divide_103 rfl rfl (by decide) ?_
                refine aw_goto (tgt := 39) hk dX7_divide_106 (by decide) ?_
                refine aw_fg 4 ?_
                exact ih2 (x + 1) I2 (by omega) (by omega) hF2
      refine aw_iload_n (pc2 := 30) hk dX7_divide_29 rfl rfl ?_
      refine aw_aload_n (pc2 := 31) hk dX7_divide_30 rfl rfl ?_
      refine aw_get (pc2 := 34) hk ckX7 1 dX7_divide_31 rfl fl_X7_13 (by decide) (o_X7 rfl) rfl ?_
      refine aw_icN_ge (x := y) (y := g) (tgt := 115) (pc2 := 37) hk dX7_divide_34 (by decide) rfl rfl (by rw [u2_j _ _ _ _ (by decide)]; exact hg) (by omega) (by omega) (fun c34 => ?_) (fun c34 => ?_)
      · obtain rfl : y = g := by omega
        have hrow : (dvS (vl I (nI fn)) (adM w y) (opM I) 256) = (dvS (vl I (nI fn)) (adM w y) (opM I) (16 * y)) := by
          have h9 := dvS_skips (V := vl I (nI fn)) (A := adM w y) (o := opM I) (16 * y) (256 - 16 * y) (fun c9 h1 h2 => by
            have h3 := hout c9 (by omega) (Or.inr (by omega))
            unfold vl lft
            rw [h3]
            have h4 : ¬ (-1 : Int32) = nI fn := fun h => nI_m1 (by omega) h.symm
            simp [h4])
          rw [show (16 * y) + (256 - 16 * y) = 256 by omega] at h9
          exact h9
        refine aw_vret hk dX7_divide_115 (Nat.le_of_ble_eq_true rfl) (Nat.le_of_ble_eq_true rfl) (by have h9 := hq I1 (by rw [hrow]; exact hF); rw [hrow] at h9; exact h9)
      · refine aw_iconst (v := 0) (pc2 := 38) hk dX7_divide_37 rfl (by decide) ?_
        refine aw_istore_n (pc2 := 39) hk dX7_divide_38 rfl (by decide) ?_
        show AW K Q _ _ 39 [_, _, _, _, _] _ _ _
        exact loop2 c34 (w + 1) 0 I1 (by omega) (by omega) hF
  have loop1 : ∀ (k i : Nat), i ≤ 256 → 256 + 1 ≤ i + k → AW K Q 0 0 7 [some (.ref 78), some (.int (nI fn)), some (.int (nI i)), none, none] [] n (H5 d (rowU I 110 i (fun _ => 0)) J (u2 S 78 41 0) L R) := by
    intro k
    induction k with
    | zero => intro i  hi hn; omega
    | succ k ih =>
      intro i  hi hn
      refine aw_iload_n (pc2 := 8) hk dX7_divide_7 rfl rfl ?_
      refine aw_sipush (v := 256) (pc2 := 11) hk dX7_divide_8 rfl (by decide) ?_
      refine aw_icN_ge (y := 256) (tgt := 27) (pc2 := 14) hk dX7_divide_11 (by decide) rfl rfl rfl (by omega) (by omega) (fun c11 => ?_) (fun c11 => ?_)
      · obtain rfl : i = 256 := by omega
        refine aw_iconst (v := 0) (pc2 := 28) hk dX7_divide_27 rfl (by decide) ?_
        refine aw_istore_n (pc2 := 29) hk dX7_divide_28 rfl (by decide) ?_
        show AW K Q _ _ 29 [_, _, _, _, _] _ _ _
        refine aw_lv [some (.ref 78), some (.int (nI fn)), some (.int (nI 0)), none, none] rfl ?_
        exact loop (g + 1) 0 (rowU I 110 256 (fun _ => 0)) (by omega) (by omega) ⟨fun b h1 _ _ _ => rowU_ne _ _ _ h1, fun x hx => rowU_in _ _ _ hx, fun j hj => absurd hj (Nat.not_lt_zero _)⟩
      · refine aw_aload_n (pc2 := 15) hk dX7_divide_14 rfl rfl ?_
        refine aw_get (pc2 := 18) hk ckX7 39 dX7_divide_15 rfl fl_X7_112 (by decide) (o_X7 rfl) rfl ?_
        refine aw_iload_n (pc2 := 19) hk dX7_divide_18 rfl rfl ?_
        refine aw_iconst (v := 0) (pc2 := 20) hk dX7_divide_19 rfl (by decide) ?_
        refine h_iast (pc2 := 21) hk dX7_divide_20 rfl rfl rfl (by omega) (by decide) ?_
        refine aw_I (rowU I 110 (i + 1) (fun _ => 0)) (rowU_st I 110 i _ rfl) ?_
        refine aw_iinc1 (pc2 := 24) hk dX7_divide_21 rfl rfl (by decide) ?_
        show AW K Q _ _ 24 [_, _, _, _, _] _ _ _
        refine aw_goto (tgt := 7) hk dX7_divide_24 (by decide) ?_
        exact ih (i + 1) (by omega) (by omega)
  refine aw_aload_n (pc2 := 1) hk dX7_divide_0 rfl rfl ?_
  refine aw_iconst (v := 0) (pc2 := 2) hk dX7_divide_1 rfl (by decide) ?_
  refine aw_put (pc2 := 5) hk ckX7 41 dX7_divide_2 rfl fl_X7_184 (by decide) rfl (o_X7 rfl) (fun _ => rfl) (fun _ => rfl) (Nat.le_of_ble_eq_true rfl) ?_
  rw [p_X7_41 rfl]
  refine aw_iconst (v := 0) (pc2 := 6) hk dX7_divide_5 rfl (by decide) ?_
  refine aw_istore_n (pc2 := 7) hk dX7_divide_6 rfl (by decide) ?_
  show AW K Q _ _ 7 [_, _, _, _, _] _ _ _
  refine aw_I (rowU I 110 0 (fun _ => 0)) (rowU_0 _ _ _).symm ?_
  exact loop1 257 0 (by omega) (by omega)
def lt256 (x : Int32) : Prop := x = -1 ∨ ∃ c, c < 256 ∧ x = nI c
set_option maxHeartbeats 800000 in
set_option maxRecDepth 100000 in
theorem m_mainOf {n : Nat} {d : D2} {I : M2} {J : J2} {S : M2} {L : J2} {R : R2} {Q : QT} {I0 : M2} {D : DV} {fn : Nat} (hfn : fn < 12) (hF : MR I0 I D) (hd : dOK D) (hk0 : S 78 41 = nI D.1) (hho : lt256 (I 84 fn)) (hq : Q (some (.int (opI (mD D (I 84 fn))))) n (H5 d I J S L R)) : Calls yX7_mainOf cX7_mainOf 5 (some .int) rmX7_mainOf [.ref 78, .int (nI fn)] n (H5 d I J S L R) Q := by
  refine Calls.of (by decide) (Nat.le_of_ble_eq_true rfl) ?_
  intro K hk
  show AW K Q 0 0 0 [some (.ref 78), some (.int (nI fn)), none, none, none] [] n (H5 d I J S L R)
  have hd6 := hd.1
  have hN : ¬ (0 ≤ (I 84 fn).toInt ∧ (I 84 fn).toInt < 256 ∧ D.2.1 (I 84 fn).toInt.toNat ≠ none) → AW K Q 0 0 30 [some (.ref 78), some (.int (nI fn)), some (.int (I 84 fn)), none, none] [] n (H5 d I J S L R) := by
    intro hno
    have hq2 : Q (some (.int (opI (bst (I 113) D.1)))) n (H5 d I J S L R) := by rw [show mD D (I 84 fn) = bst (fun j => nI (D.2.2.2.1 j)) D.1 from if_neg hno, ← bst_eq D.1 (fun j hj => (hF.2.2 j hj).1)] at hq; exact hq
    have loop : ∀ (k i : Nat), i ≤ D.1 → D.1 + 1 ≤ i + k → AW K Q 0 0 35 [some (.ref 78), some (.int (nI fn)), some (.int (I 84 fn)), some (.int (opI (bst (I 113) i))), some (.int (nI i))] [] n (H5 d I J S L R) := by
      intro k
      induction k with
      | zero => intro i  hi hn; omega
      | succ k ih =>
        intro i  hi hn
        refine aw_iload (pc2 := 37) hk dX7_mainOf_35 rfl rfl ?_
        refine aw_aload_n (pc2 := 38) hk dX7_mainOf_37 rfl rfl ?_
        refine aw_get (pc2 := 41) hk ckX7 41 dX7_mainOf_38 rfl fl_X7_184 (by decide) (o_X7 rfl) rfl ?_
        refine aw_icN_ge (x := i) (y := D.1) (tgt := 78) (pc2 := 44) hk dX7_mainOf_41 (by decide) rfl rfl hk0 (by omega) (by omega) (fun c41 => ?_) (fun c41 => ?_)
        · obtain rfl : i = D.1 := by omega
          refine aw_iload_n (pc2 := 79) hk dX7_mainOf_78 rfl rfl ?_
          refine aw_iret hk dX7_mainOf_79 (Nat.le_of_ble_eq_true rfl) (Nat.le_of_ble_eq_true rfl) hq2
        · refine aw_iload_n (pc2 := 45) hk dX7_mainOf_44 rfl rfl ?_
          refine aw_iconst (v := -1) (pc2 := 46) hk dX7_mainOf_45 rfl (by decide) ?_
          refine aw_icmp_eq (tgt := 65) (pc2 := 49) hk dX7_mainOf_46 (by decide) rfl (fun c46 => ?_) (fun c46 => ?_)
          · refine aw_iload (pc2 := 67) hk dX7_mainOf_65 rfl rfl ?_
            refine aw_goto (tgt := 71) hk dX7_mainOf_67 (by decide) ?_
            first
              | (refine aw_top (opI (bst (I 113) (i + 1))) (by
                   (conv => rhs; unfold bst); rw [hq1]; simp only []; rw [if_neg (fun h9 => by rw [i_lt] at h9; rw [i_le] at c62; omega)]; try (rw [← hq1])) ?_)
              | (refine aw_top (opI (bst (I 113) (i + 1))) (by
                   (conv => rhs; unfold bst); rw [hq1]; simp only []; rw [if_pos (by rw [i_lt]; rw [i_le] at c62; omega)]; rfl) ?_)
              | (refine aw_top (opI (bst (I 113) (i + 1))) (by
                   (conv => rhs; unfold bst); rw [opI_none c46 (fun q h => by have := bst_lt _ _ _ h; omega)]; rfl) ?_)
            refine aw_istore_n (pc2 := 72) hk dX7_mainOf_71 rfl (by decide) ?_
            show AW K Q _ _ 72 [_, _, _, _, _] _ _ _
            refine aw_iinc1 (pc2 := 75) hk dX7_mainOf_72 rfl rfl (by decide) ?_
            show AW K Q _ _ 75 [_, _, _, _, _] _ _ _
            refine aw_goto (tgt := 35) hk dX7_mainOf_75 (by decide) ?_
            exact ih (i + 1) (by omega) (by omega)
          · obtain ⟨q, hq1, hq2⟩ := opI_some c46
            have hq3 := bst_lt _ _ _ hq1
            refine aw_aload_n (pc2 := 50) hk dX7_mainOf_49 rfl rfl ?_
            refine aw_get (pc2 := 53) hk ckX7 43 dX7_mainOf_50 rfl fl_X7_121 (by decide) (o_X7 rfl) rfl ?_
            refine aw_iload (pc2 := 55) hk dX7_mainOf_53 rfl rfl ?_
            refine h_iald (pc2 := 56) hk dX7_mainOf_55 rfl rfl rfl (by omega) (by decide) ?_
            refine aw_aload_n (pc2 := 57) hk dX7_mainOf_56 rfl rfl ?_
            refine aw_get (pc2 := 60) hk ckX7 43 dX7_mainOf_57 rfl fl_X7_121 (by decide) (o_X7 rfl) rfl ?_
            refine aw_iload_n (pc2 := 61) hk dX7_mainOf_60 rfl rfl ?_
            refine h_iald (pc2 := 62) hk dX7_mainOf_61 rfl rfl hq2 (by omega) (by decide) ?_
            refine aw_icmp_le (tgt := 70) (pc2 := 65) hk dX7_mainOf_62 (by decide) rfl (fun c62 => ?_) (fun c62 => ?_)
            · refine aw_iload_n (pc2 := 71) hk dX7_mainOf_70 rfl rfl ?_
              first
                | (refine aw_top (opI (bst (I 113) (i + 1))) (by
                     (conv => rhs; unfold bst); rw [hq1]; simp only []; rw [if_neg (fun h9 => by rw [i_lt] at h9; rw [i_le] at c62; omega)]; try (rw [← hq1])) ?_)
                | (refine aw_top (opI (bst (I 113) (i + 1))) (by
                     (conv => rhs; unfold bst); rw [hq1]; simp only []; rw [if_pos (by rw [i_lt]; rw [i_le] at c62; omega)]; rfl) ?_)
                | (refine aw_top (opI (bst (I 113) (i + 1))) (by
                     (conv => rhs; unfold bst); rw [opI_none c46 (fun q h => by have := bst_lt _ _ _ h; omega)]; rfl) ?_)
              refine aw_istore_n (pc2 := 72) hk dX7_mainOf_71 rfl (by decide) ?_
              show AW K Q _ _ 72 [_, _, _, _, _] _ _ _
              refine aw_iinc1 (pc2 := 75) hk dX7_mainOf_72 rfl rfl (by decide) ?_
              show AW K Q _ _ 75 [_, _, _, _, _] _ _ _
              refine aw_goto (tgt := 35) hk dX7_mainOf_75 (by decide) ?_
              exact ih (i + 1) (by omega) (by omega)
            · refine aw_iload (pc2 := 67) hk dX7_mainOf_65 rfl rfl ?_
              refine aw_goto (tgt := 71) hk dX7_mainOf_67 (by decide) ?_
              first
                | (refine aw_top (opI (bst (I 113) (i + 1))) (by
                     (conv => rhs; unfold bst); rw [hq1]; simp only []; rw [if_neg (fun h9 => by rw [i_lt] at h9; rw [i_le] at c62; omega)]; try (rw [← hq1])) ?_)
                | (refine aw_top (opI (bst (I 113) (i + 1))) (by
                     (conv => rhs; unfold bst); rw [hq1]; simp only []; rw [if_pos (by rw [i_lt]; rw [i_le] at c62; omega)]; rfl) ?_)
                | (refine aw_top (opI (bst (I 113) (i + 1))) (by
                     (conv => rhs; unfold bst); rw [opI_none c46 (fun q h => by have := bst_lt _ _ _ h; omega)]; rfl) ?_)
              refine aw_istore_n (pc2 := 72) hk dX7_mainOf_71 rfl (by decide) ?_
              show AW K Q _ _ 72 [_, _, _, _, _] _ _ _
              refine aw_iinc1 (pc2 := 75) hk dX7_mainOf_72 rfl rfl (by decide) ?_
              show AW K Q _ _ 75 [_, _, _, _, _] _ _ _
              refine aw_goto (tgt := 35) hk dX7_mainOf_75 (by decide) ?_
              exact ih (i + 1) (by omega) (by omega)
    refine aw_iconst (v := -1) (pc2 := 31) hk dX7_mainOf_30 rfl (by decide) ?_
    refine aw_istore_n (pc2 := 32) hk dX7_mainOf_31 rfl (by decide) ?_
    show AW K Q _ _ 32 [_, _, _, _, _] _ _ _
    refine aw_iconst (v := 0) (pc2 := 33) hk dX7_mainOf_32 rfl (by decide) ?_
    refine aw_istore (pc2 := 35) hk dX7_mainOf_33 rfl (by decide) ?_
    show AW K Q _ _ 35 [_, _, _, _, _] _ _ _
    exact loop (D.1 + 1) 0 (by omega) (by omega)
  refine aw_aload_n (pc2 := 1) hk dX7_mainOf_0 rfl rfl ?_
  refine aw_get (pc2 := 4) hk ckX7 8 dX7_mainOf_1 rfl fl_X7_33 (by decide) (o_X7 rfl) rfl ?_
  refine aw_iload_n (pc2 := 5) hk dX7_mainOf_4 rfl rfl ?_
  refine h_iald (pc2 := 6) hk dX7_mainOf_5 rfl rfl rfl hfn (by decide) ?_
  refine aw_istore_n (pc2 := 7) hk dX7_mainOf_6 rfl (by decide) ?_
  show AW K Q _ _ 7 [_, _, _, _, _] _ _ _
  refine aw_iload_n (pc2 := 8) hk dX7_mainOf_7 rfl rfl ?_
  refine aw_iconst (v := -1) (pc2 := 9) hk dX7_mainOf_8 rfl (by decide) ?_
  refine aw_icmp_eq (tgt := 30) (pc2 := 12) hk dX7_mainOf_9 (by decide) rfl (fun c9 => ?_) (fun c9 => ?_)
  · first
      | exact hN (fun h9 => by rw [c9] at h9; exact absurd h9.1 (by decide))
      | (refine hN (fun h9 => ?_)
         obtain ⟨q, hq1⟩ := Option.ne_none_iff_exists'.mp h9.2.2
         rw [hc4] at hq1
         rw [hq1] at c18
         have h8 := hd.2 _ _ hq1
         have h7 := hd.1
         exact absurd c18 (nI_nle (by omega) (by omega)))
  · obtain ⟨c, hc1, hc2⟩ := hho.resolve_left c9
    have hc3 : (I 84 fn).toInt = c := by rw [hc2]; exact nI_toInt (by omega)
    have hc4 : (I 84 fn).toInt.toNat = c := by omega
    refine aw_aload_n (pc2 := 13) hk dX7_mainOf_12 rfl rfl ?_
    refine aw_get (pc2 := 16) hk ckX7 39 dX7_mainOf_13 rfl fl_X7_112 (by decide) (o_X7 rfl) rfl ?_
    refine aw_iload_n (pc2 := 17) hk dX7_mainOf_16 rfl rfl ?_
    refine h_iald (pc2 := 18) hk dX7_mainOf_17 rfl rfl hc2 hc1 (by decide) ?_
    rw [hF.2.1 c hc1]
    refine aw_if_le (tgt := 30) (pc2 := 21) hk dX7_mainOf_18 (by decide) rfl (fun c18 => ?_) (fun c18 => ?_)
    · first
        | exact hN (fun h9 => by rw [c9] at h9; exact absurd h9.1 (by decide))
        | (refine hN (fun h9 => ?_)
           obtain ⟨q, hq1⟩ := Option.ne_none_iff_exists'.mp h9.2.2
           rw [hc4] at hq1
           rw [hq1] at c18
           have h8 := hd.2 _ _ hq1
           have h7 := hd.1
           exact absurd c18 (nI_nle (by omega) (by omega)))
    · obtain ⟨q, hq1⟩ : ∃ q, D.2.1 c = some q := by
        cases hp : D.2.1 c with
        | none => rw [hp] at c18; exact absurd (show opJ none ≤ 0 by decide) c18
        | some q => exact ⟨q, rfl⟩
      refine aw_aload_n (pc2 := 22) hk dX7_mainOf_21 rfl rfl ?_
      refine aw_get (pc2 := 25) hk ckX7 39 dX7_mainOf_22 rfl fl_X7_112 (by decide) (o_X7 rfl) rfl ?_
      refine aw_iload_n (pc2 := 26) hk dX7_mainOf_25 rfl rfl ?_
      refine h_iald (pc2 := 27) hk dX7_mainOf_26 rfl rfl hc2 hc1 (by decide) ?_
      refine aw_iconst (v := 1) (pc2 := 28) hk dX7_mainOf_27 rfl (by decide) ?_
      refine aw_isub (pc2 := 29) hk dX7_mainOf_28 rfl ?_
      rw [hF.2.1 c hc1, hq1]
      refine aw_top (nI q) (nI_pred q) ?_
      refine aw_iret hk dX7_mainOf_29 (Nat.le_of_ble_eq_true rfl) (Nat.le_of_ble_eq_true rfl) (by rw [show mD D (I 84 fn) = some q by unfold mD; rw [hc4, if_pos ⟨by omega, by omega, by rw [hq1]; exact fun h => by cases h⟩]; exact hq1] at hq; exact hq)
