theorem u2_u2 {α : Type} (M : Nat → Nat → α) (a j : Nat) (x y : α) : u2 (u2 M a j x) a j y = u2 M a j y := by
  funext b c
  simp only [u2]
  split <;> rfl
theorem dvS_skip {V : Nat → Bool} {A : Nat → Nat → Prop} {op : Nat → Bool} {c : Nat} (h : ¬ (V c = true ∧ (dvS V A op c).2.1 c = none)) : dvS V A op (c + 1) = dvS V A op c := by
  conv => lhs; unfold dvS
  exact if_neg h
theorem dvS_new {V : Nat → Bool} {A : Nat → Nat → Prop} {op : Nat → Bool} {c : Nat} (h : V c = true ∧ (dvS V A op c).2.1 c = none) : dvS V A op (c + 1) = ((dvS V A op c).1 + 1, fun x => if cdec (x < 256 ∧ Rch (fun y => V y && ((dvS V A op c).2.1 y).isNone) A c x) then some (dvS V A op c).1 else (dvS V A op c).2.1 x, va_up (dvS V A op c).2.2.1 (dvS V A op c).1 c, va_up (dvS V A op c).2.2.2.1 (dvS V A op c).1 (cntB (fun x => cdec (x < 256 ∧ Rch (fun y => V y && ((dvS V A op c).2.1 y).isNone) A c x)) 256), va_up (dvS V A op c).2.2.2.2 (dvS V A op c).1 (cdec (∃ x b, (x < 256 ∧ Rch (fun y => V y && ((dvS V A op c).2.1 y).isNone) A c x) ∧ A x b ∧ op b = true))) := by
  conv => lhs; unfold dvS
  exact if_pos h
/-- the class's rows of pieces hold a division -/
def FR (I I1 : M2) (D : DV) : Prop := (∀ b, b ≠ 8 → b ≠ 9 → b ≠ 10 → b ≠ 11 → b ≠ 12 → I1 b = I b) ∧ (∀ x, x < 256 → I1 8 x = opI (D.2.1 x)) ∧ ∀ j, j < D.1 → I1 9 j = nI (D.2.2.2.1 j) ∧ I1 10 j = nI (D.2.2.1 j) ∧ I1 11 j = bi (D.2.2.2.2 j)
theorem FR.k1 {I I1 : M2} {D : DV} (h : FR I I1 D) (f : Int32) (x : Nat) : vk I1 f x = vk I f x := by unfold vk kpt; rw [h.1 2 (by decide) (by decide) (by decide) (by decide) (by decide), h.1 6 (by decide) (by decide) (by decide) (by decide) (by decide)]
theorem FR.k2 {I I1 : M2} {D : DV} (h : FR I I1 D) (x : Nat) : opl I1 x = opl I x := by unfold opl; rw [h.1 4 (by decide) (by decide) (by decide) (by decide) (by decide), h.1 6 (by decide) (by decide) (by decide) (by decide) (by decide)]
theorem FR.k3 {I I1 : M2} {D : DV} (h : FR I I1 D) (x : Nat) (f : Int32) : kpt I1 x f = kpt I x f := by unfold kpt; rw [h.1 2 (by decide) (by decide) (by decide) (by decide) (by decide), h.1 6 (by decide) (by decide) (by decide) (by decide) (by decide)]
set_option maxHeartbeats 800000 in
set_option maxRecDepth 100000 in
theorem t_find {n : Nat} {d : D2} {I : M2} {J : J2} {S : M2} {L : J2} {R : R2} {Q : QT} {w g : Nat} (hw : S 1 0 = nI w) (hg : S 1 1 = nI g) (hw6 : w ≤ 16) (hg6 : g ≤ 16) {f hs : Int32} (hlane : ∀ b, b < 256 → opl I b = true → kpt I b f = false) (hq : ∀ I1 : M2, FR I I1 (dvS (vk I f) (adC w g) (opl I) 256) → Q none n (H5 d I1 J (u2 (u2 S 7 0 (nI (dvS (vk I f) (adC w g) (opl I) 256).1)) 7 1 (mnC (I1 8) (I1 9) hs (dvS (vk I f) (adC w g) (opl I) 256).1)) L R)) : Calls yX5_find cX5_find 5 none rmX5_find [.ref 7, .ref 1, .int f, .int hs] n (H5 d I J S L R) Q := by
  refine Calls.of (by decide) (Nat.le_of_ble_eq_true rfl) ?_
  intro K hk
  show AW K Q 0 0 0 [some (.ref 7), some (.ref 1), some (.int f), some (.int hs), none] [] n (H5 d I J S L R)
  have fin : ∀ I1 : M2, FR I I1 (dvS (vk I f) (adC w g) (opl I) 256) → AW K Q 0 0 86 [some (.ref 7), some (.ref 1), some (.int f), some (.int hs), some (.int (nI 256))] [] n (H5 d I1 J (u2 S 7 0 (nI (dvS (vk I f) (adC w g) (opl I) 256).1)) L R) := by
    intro I1 hF
    refine aw_aload_n (pc2 := 87) hk dX5_find_86 rfl rfl ?_
    refine aw_aload_n (pc2 := 88) hk dX5_find_87 rfl rfl ?_
    refine aw_iload_n (pc2 := 89) hk dX5_find_88 rfl rfl ?_
    refine aw_cV (rm2 := rmX5_chosenMain) (pc2 := 92) hk veX5_chosenMain dX5_find_89 rfl ml_X5_42 ⟨(Nat.le_of_ble_eq_true rfl), (Nat.le_of_ble_eq_true rfl)⟩ [_] rfl rfl (Nat.le_of_ble_eq_true rfl) (Nat.le_of_ble_eq_true rfl) (Nat.le_of_ble_eq_true rfl) (o_X5 rfl) (t_chosenMain (np := (dvS (vk I f) (adC w g) (opl I) 256).1) (u2_s _ _ _ _) (by have := (dvS_le (vk I f) (adC w g) (opl I) 256).1; omega) ?_)
    refine aw_put (pc2 := 95) hk ckX5 1 dX5_find_92 rfl fl_X5_46 (by decide) rfl (o_X5 rfl) (fun _ => rfl) (fun _ => rfl) (Nat.le_of_ble_eq_true rfl) ?_
    rw [p_X5_1 rfl]
    refine aw_vret hk dX5_find_95 (Nat.le_of_ble_eq_true rfl) (Nat.le_of_ble_eq_true rfl) (hq I1 hF)
  have loop2 : ∀ (k2 i : Nat) (I1 : M2), i ≤ 256 → 257 ≤ i + k2 → FR I I1 (dvS (vk I f) (adC w g) (opl I) i) → AW K Q 0 0 33 [some (.ref 7), some (.ref 1), some (.int f), some (.int hs), some (.int (nI i))] [] n (H5 d I1 J (u2 S 7 0 (nI (dvS (vk I f) (adC w g) (opl I) i).1)) L R) := by
    intro k2
    induction k2 with
    | zero => intro i I1 h1 h2; omega
    | succ k2 ih2 =>
      intro i I1 hi hn hF
      have hle := (dvS_le (vk I f) (adC w g) (opl I) i).1
      refine aw_iload (pc2 := 35) hk dX5_find_33 rfl rfl ?_
      refine aw_sipush (v := 256) (pc2 := 38) hk dX5_find_35 rfl (by decide) ?_
      refine aw_icN_ge (x := i) (y := 256) (tgt := 86) (pc2 := 41) hk dX5_find_38 (by decide) rfl rfl rfl (by omega) (by omega) (fun c38 => ?_) (fun c38 => ?_)
      · obtain rfl : i = 256 := by omega
        exact fin I1 hF
      · refine aw_aload_n (pc2 := 42) hk dX5_find_41 rfl rfl ?_
        refine aw_get (pc2 := 45) hk ckX5 0 dX5_find_42 rfl fl_X5_28 (by decide) (o_X5 rfl) rfl ?_
        refine aw_sipush (v := 256) (pc2 := 48) hk dX5_find_45 rfl (by decide) ?_
        refine aw_icN_ge (x := (dvS (vk I f) (adC w g) (opl I) i).1) (y := 256) (tgt := 80) (pc2 := 51) hk dX5_find_48 (by decide) rfl (u2_s _ _ _ _) rfl (by omega) (by omega) (fun c48 => absurd c48 (by omega)) (fun c48 => ?_)
        refine aw_aload_n (pc2 := 52) hk dX5_find_51 rfl rfl ?_
        refine aw_get (v := .ref 8) (pc2 := 55) hk ckX5 2 dX5_find_52 rfl fl_X5_9 (by decide) (o_X5 rfl) rfl ?_
        refine aw_iload (pc2 := 57) hk dX5_find_55 rfl rfl ?_
        refine h_iald (pc2 := 58) hk dX5_find_57 rfl rfl rfl (by omega) (by decide) ?_
        refine aw_iconst (v := -1) (pc2 := 59) hk dX5_find_58 rfl (by decide) ?_
        refine aw_icmp_ne (tgt := 80) (pc2 := 62) hk dX5_find_59 (by decide) rfl (fun c59 => ?_) (fun c59 => ?_)
        · have hsk := dvS_skip (V := vk I f) (A := adC w g) (op := opl I) (c := i) (fun h9 => c59 (by rw [hF.2.1 i (by omega), h9.2]; rfl))
          refine aw_iinc1 (pc2 := 83) hk dX5_find_80 rfl rfl (by decide) ?_
          refine aw_goto (tgt := 33) hk dX5_find_83 (by decide) ?_
          refine aw_S (u2 S 7 0 (nI (dvS (vk I f) (adC w g) (opl I) (i + 1)).1)) (by rw [hsk]) ?_
          exact ih2 (i + 1) I1 (by omega) (by omega) (by rw [hsk]; exact hF)
        · have hpn : (dvS (vk I f) (adC w g) (opl I) i).2.1 i = none := opI_none ((hF.2.1 i (by omega)).symm.trans c59) (fun q h => by have := (dvS_le (vk I f) (adC w g) (opl I) i).2 i q h; omega)
          refine aw_aload_n (pc2 := 63) hk dX5_find_62 rfl rfl ?_
          refine aw_iload (pc2 := 65) hk dX5_find_63 rfl rfl ?_
          refine aw_iload_n (pc2 := 66) hk dX5_find_65 rfl rfl ?_
          refine aw_cV (rm2 := rmX2_isKept) (pc2 := 69) hk veX2_isKept dX5_find_66 rfl ml_X5_32 ⟨(Nat.le_of_ble_eq_true rfl), (Nat.le_of_ble_eq_true rfl)⟩ [_, _] rfl rfl (Nat.le_of_ble_eq_true rfl) (Nat.le_of_ble_eq_true rfl) (Nat.le_of_ble_eq_true rfl) (o_X2 rfl) (t_isKept rfl (by omega) ?_)
          refine aw_if_eq (tgt := 80) (pc2 := 72) hk dX5_find_69 (by decide) rfl (fun c69 => ?_) (fun c69 => ?_)
          · have hsk := dvS_skip (V := vk I f) (A := adC w g) (op := opl I) (c := i) (fun h9 => by have h8 := h9.1; rw [← hF.k1 f i] at h8; unfold vk at h8; rw [bi_ff c69] at h8; simp at h8)
            refine aw_iinc1 (pc2 := 83) hk dX5_find_80 rfl rfl (by decide) ?_
            refine aw_goto (tgt := 33) hk dX5_find_83 (by decide) ?_
            refine aw_S (u2 S 7 0 (nI (dvS (vk I f) (adC w g) (opl I) (i + 1)).1)) (by rw [hsk]) ?_
            exact ih2 (i + 1) I1 (by omega) (by omega) (by rw [hsk]; exact hF)
          · have hvi : vk I f i = true := by rw [← hF.k1 f i]; unfold vk; rw [bi_tt c69]; simp; omega
            have hnew := dvS_new (op := opl I) ⟨hvi, hpn⟩
            have hVe : (fun y => vk I1 f y && (I1 8 y == -1)) = (fun y => vk I f y && ((dvS (vk I f) (adC w g) (opl I) i).2.1 y).isNone) := by
              funext y
              rw [hF.k1 f y]
              by_cases hy : y < 256
              · rw [hF.2.1 y hy]
                cases hp : (dvS (vk I f) (adC w g) (opl I) i).2.1 y with
                | none => rfl
                | some q =>
                  have := (dvS_le (vk I f) (adC w g) (opl I) i).2 y q hp
                  have h9 : ¬ nI q = -1 := nI_m1 (by omega)
                  simp [opI, h9]
              · simp [vk, hy]
            refine aw_aload_n (pc2 := 73) hk dX5_find_72 rfl rfl ?_
            refine aw_aload_n (pc2 := 74) hk dX5_find_73 rfl rfl ?_
            refine aw_iload_n (pc2 := 75) hk dX5_find_74 rfl rfl ?_
            refine aw_iload (pc2 := 77) hk dX5_find_75 rfl rfl ?_
            refine aw_cV (rm2 := rmX5_spread) (pc2 := 80) hk veX5_spread dX5_find_77 rfl ml_X5_38 ⟨(Nat.le_of_ble_eq_true rfl), (Nat.le_of_ble_eq_true rfl)⟩ [_, _, _] rfl rfl (Nat.le_of_ble_eq_true rfl) (Nat.le_of_ble_eq_true rfl) (Nat.le_of_ble_eq_true rfl) (o_X5 rfl) (t_spread (kk := (dvS (vk I f) (adC w g) (opl I) i).1) (by rw [u2_a _ _ _ _ (by decide)]; exact hw) (by rw [u2_a _ _ _ _ (by decide)]; exact hg) hw6 hg6 (by omega) (by omega) (u2_s _ _ _ _) (fun x hx h9 => by
  rw [hF.2.1 x hx] at h9
  cases hp : (dvS (vk I f) (adC w g) (opl I) i).2.1 x with
  | none => rw [hp] at h9; exact nI_m1 (by omega) h9.symm
  | some q => rw [hp] at h9; have h8 := (dvS_le (vk I f) (adC w g) (opl I) i).2 x q hp; have h7 := (nI_eq (by omega) (by omega)).mp h9; omega) (fun b hb h9 => by rw [hF.k3 b f]; exact hlane b hb (by rw [← hF.k2 b]; exact h9)) (fun I2 g1 g2 g3 g4 g5 g6 g7 => ?_))
            rw [u2_u2]
            rw [hVe] at g2 g4 g7
            have hF2 : FR I I2 (dvS (vk I f) (adC w g) (opl I) (i + 1)) := by
              rw [hnew]
              refine ⟨fun b h1 h2 h3 h4 h5 => (g1 b h1 h2 h3 h4 h5).trans (hF.1 b h1 h2 h3 h4 h5), fun x hx => ?_, fun j hj => ?_⟩
              · by_cases hc : Rch (fun y => vk I f y && ((dvS (vk I f) (adC w g) (opl I) i).2.1 y).isNone) (adC w g) i x
                · show I2 8 x = opI (if _ then _ else _)
                  rw [if_pos (cdec_t.mpr ⟨hx, hc⟩)]
                  exact (g2 x hx).1 hc
                · show I2 8 x = opI (if _ then _ else _)
                  rw [if_neg (fun h9 => hc (cdec_t.mp h9).2)]
                  exact ((g2 x hx).2 hc).trans (hF.2.1 x hx)
              · by_cases hj2 : j = (dvS (vk I f) (adC w g) (opl I) i).1
                · subst hj2
                  simp only [va_up_self]
                  refine ⟨g4, g5, ?_⟩
                  cases hcd : cdec (∃ x b, (x < 256 ∧ Rch (fun y => vk I f y && ((dvS (vk I f) (adC w g) (opl I) i).2.1 y).isNone) (adC w g) i x) ∧ adC w g x b ∧ opl I b = true) with
                  | true =>
                    obtain ⟨x, b, h1, h2, h3⟩ := cdec_t.mp hcd
                    exact g7.mpr ⟨x, b, h1, h2, by rw [hF.k2 b]; exact h3⟩
                  | false =>
                    refine g6.resolve_right (fun h9 => ?_)
                    obtain ⟨x, b, h1, h2, h3⟩ := g7.mp h9
                    exact cdec_f.mp hcd ⟨x, b, h1, h2, by rw [← hF.k2 b]; exact h3⟩
                · simp only [va_up_ne _ _ hj2]
                  have h3 := g3 j hj2
                  have h4 := hF.2.2 j (by simp only at hj; omega)
                  rw [h3.1, h3.2.1, h3.2.2]
                  exact h4
            refine aw_S (u2 S 7 0 (nI (dvS (vk I f) (adC w g) (opl I) (i + 1)).1)) (by rw [hnew]) ?_
            refine aw_iinc1 (pc2 := 83) hk dX5_find_80 rfl rfl (by decide) ?_
            refine aw_goto (tgt := 33) hk dX5_find_83 (by decide) ?_
            exact ih2 (i + 1) I2 (by omega) (by omega) hF2
  have loop : ∀ (k i : Nat), i ≤ 256 → 256 + 1 ≤ i + k → AW K Q 0 0 8 [some (.ref 7), some (.ref 1), some (.int f), some (.int hs), some (.int (nI i))] [] n (H5 d (rowU I 8 i (fun _ => -1)) J (u2 S 7 0 0) L R) := by
    intro k
    induction k with
    | zero => intro i  hi hn; omega
    | succ k ih =>
      intro i  hi hn
      refine aw_iload (pc2 := 10) hk dX5_find_8 rfl rfl ?_
      refine aw_sipush (v := 256) (pc2 := 13) hk dX5_find_10 rfl (by decide) ?_
      refine aw_icN_ge (y := 256) (tgt := 30) (pc2 := 16) hk dX5_find_13 (by decide) rfl rfl rfl (by omega) (by omega) (fun c13 => ?_) (fun c13 => ?_)
      · obtain rfl : i = 256 := by omega
        refine aw_iconst (v := 0) (pc2 := 31) hk dX5_find_30 rfl (by decide) ?_
        refine aw_istore (pc2 := 33) hk dX5_find_31 rfl (by decide) ?_
        show AW K Q _ _ 33 [_, _, _, _, _] _ _ _
        refine aw_lv [some (.ref 7), some (.ref 1), some (.int f), some (.int hs), some (.int (nI 0))] rfl ?_
        exact loop2 257 0 (rowU I 8 256 (fun _ => -1)) (by omega) (by omega) ⟨fun b h1 _ _ _ _ => rowU_ne _ _ _ h1, fun x hx => rowU_in _ _ _ hx, fun j hj => absurd hj (Nat.not_lt_zero _)⟩
      · refine aw_aload_n (pc2 := 17) hk dX5_find_16 rfl rfl ?_
        refine aw_get (v := .ref 8) (pc2 := 20) hk ckX5 2 dX5_find_17 rfl fl_X5_9 (by decide) (o_X5 rfl) rfl ?_
        refine aw_iload (pc2 := 22) hk dX5_find_20 rfl rfl ?_
        refine aw_iconst (v := -1) (pc2 := 23) hk dX5_find_22 rfl (by decide) ?_
        refine h_iast (pc2 := 24) hk dX5_find_23 rfl rfl rfl (by omega) (by decide) ?_
        refine aw_I (rowU I 8 (i + 1) (fun _ => -1)) (rowU_st I 8 i _ rfl) ?_
        refine aw_iinc1 (pc2 := 27) hk dX5_find_24 rfl rfl (by decide) ?_
        show AW K Q _ _ 27 [_, _, _, _, _] _ _ _
        refine aw_goto (tgt := 8) hk dX5_find_27 (by decide) ?_
        exact ih (i + 1) (by omega) (by omega)
  refine aw_aload_n (pc2 := 1) hk dX5_find_0 rfl rfl ?_
  refine aw_iconst (v := 0) (pc2 := 2) hk dX5_find_1 rfl (by decide) ?_
  refine aw_put (pc2 := 5) hk ckX5 0 dX5_find_2 rfl fl_X5_28 (by decide) rfl (o_X5 rfl) (fun _ => rfl) (fun _ => rfl) (Nat.le_of_ble_eq_true rfl) ?_
  rw [p_X5_0 rfl]
  refine aw_iconst (v := 0) (pc2 := 6) hk dX5_find_5 rfl (by decide) ?_
  refine aw_istore (pc2 := 8) hk dX5_find_6 rfl (by decide) ?_
  show AW K Q _ _ 8 [_, _, _, _, _] _ _ _
  refine aw_I (rowU I 8 0 (fun _ => -1)) (rowU_0 _ _ _).symm ?_
  exact loop 257 0 (by omega) (by omega)
set_option maxHeartbeats 800000 in
set_option maxRecDepth 100000 in
theorem t_pieces {n : Nat} {d : D2} {I : M2} {J : J2} {S : M2} {L : J2} {R : R2} {Q : QT} {w g fc oc uc td : Nat} (hB : CB S R w g fc oc uc td) {f : Int32} (hlane : ∀ j b, j < 12 → b < 256 → opl I b = true → kpt I b (nI j) = false) (hq1 : ¬ (0 ≤ f.toInt ∧ f.toInt < fc) → Q (some (.int (-101))) n (H5 d I J S L R)) (hq2 : ∀ j I1, f = nI j → j < fc → FR I I1 (dvS (vk I (nI j)) (adC w g) (opl I) 256) → Q (some (.int (nI (dvS (vk I (nI j)) (adC w g) (opl I) 256).1))) n (H5 d I1 J (u2 (u2 S 7 0 (nI (dvS (vk I (nI j)) (adC w g) (opl I) 256).1)) 7 1 (mnC (I1 8) (I1 9) (S (14 + 4 * j) 0) (dvS (vk I (nI j)) (adC w g) (opl I) 256).1)) L R)) : Calls yX6_pieces cX6_pieces 2 (some .int) rmX6_pieces [.ref 0, .int f] n (H5 d I J S L R) Q := by
  refine Calls.of (by decide) (Nat.le_of_ble_eq_true rfl) ?_
  intro K hk
  show AW K Q 0 0 0 [some (.ref 0), some (.int f)] [] n (H5 d I J S L R)
  obtain ⟨hw, hg, hw1, hw6, hg1, hg6, hfc, hfc2, hoc, hoc6, huc, huc5, htd, htd4, hR13, hR62⟩ := id hB
  refine aw_aload_n (pc2 := 1) hk dX6_pieces_0 rfl rfl ?_
  refine aw_iload_n (pc2 := 2) hk dX6_pieces_1 rfl rfl ?_
  refine aw_cV (rm2 := rmX6_isField) (pc2 := 5) hk veX6_isField dX6_pieces_2 rfl ml_X6_69 ⟨(Nat.le_of_ble_eq_true rfl), (Nat.le_of_ble_eq_true rfl)⟩ [_] rfl rfl (Nat.le_of_ble_eq_true rfl) (Nat.le_of_ble_eq_true rfl) (Nat.le_of_ble_eq_true rfl) (o_X6 rfl) (t_isField hB ?_)
  refine aw_if_ne (tgt := 11) (pc2 := 8) hk dX6_pieces_5 (by decide) rfl (fun c5 => ?_) (fun c5 => ?_)
  · obtain ⟨j, hj1, hj2⟩ := fok_of (bi_ya c5) hfc2
    subst hj2
    refine aw_aload_n (pc2 := 12) hk dX6_pieces_11 rfl rfl ?_
    refine aw_get (pc2 := 15) hk ckX6 1 dX6_pieces_12 rfl fl_X6_19 (by decide) (o_X6 rfl) rfl ?_
    refine aw_aload_n (pc2 := 16) hk dX6_pieces_15 rfl rfl ?_
    refine aw_get (pc2 := 19) hk ckX6 0 dX6_pieces_16 rfl fl_X6_12 (by decide) (o_X6 rfl) rfl ?_
    refine aw_iload_n (pc2 := 20) hk dX6_pieces_19 rfl rfl ?_
    refine aw_aload_n (pc2 := 21) hk dX6_pieces_20 rfl rfl ?_
    refine aw_get (pc2 := 24) hk ckX6 2 dX6_pieces_21 rfl fl_X6_25 (by decide) (o_X6 rfl) rfl ?_
    refine aw_iload_n (pc2 := 25) hk dX6_pieces_24 rfl rfl ?_
    refine h_aald (pc2 := 26) hk dX6_pieces_25 rfl (Or.inl rfl) rfl rfl (by omega) (by decide) (by rw [hR13 j (by omega)]) ?_
    refine aw_get (pc2 := 29) hk ckX1 0 dX6_pieces_26 rfl fl_X6_90 (by decide) (o_X1 (kdF d (show j < 12 by omega)).1) rfl ?_
    refine aw_cV (rm2 := rmX5_find) (pc2 := 32) hk veX5_find dX6_pieces_29 rfl ml_X6_225 ⟨(Nat.le_of_ble_eq_true rfl), (Nat.le_of_ble_eq_true rfl)⟩ [_, _, _] rfl rfl (Nat.le_of_ble_eq_true rfl) (Nat.le_of_ble_eq_true rfl) (Nat.le_of_ble_eq_true rfl) (o_X5 rfl) (t_find hw hg hw6 hg6 (fun b hb h9 => hlane j b (by omega) hb h9) (fun I1 hF => ?_))
    refine aw_aload_n (pc2 := 33) hk dX6_pieces_32 rfl rfl ?_
    refine aw_get (pc2 := 36) hk ckX6 1 dX6_pieces_33 rfl fl_X6_19 (by decide) (o_X6 rfl) rfl ?_
    refine aw_get (pc2 := 39) hk ckX5 0 dX6_pieces_36 rfl fl_X6_280 (by decide) (o_X5 rfl) rfl ?_
    refine aw_top (nI (dvS (vk I (nI j)) (adC w g) (opl I) 256).1) (by rw [u2_j _ _ _ _ (by decide), u2_s]) ?_
    refine aw_iret hk dX6_pieces_39 (Nat.le_of_ble_eq_true rfl) (Nat.le_of_ble_eq_true rfl) (hq2 j I1 rfl hj1 hF)
  · refine aw_bipush (v := -101) (pc2 := 10) hk dX6_pieces_8 rfl (by decide) ?_
    refine aw_iret hk dX6_pieces_10 (Nat.le_of_ble_eq_true rfl) (Nat.le_of_ble_eq_true rfl) (hq1 (bi_no c5))
set_option maxHeartbeats 800000 in
set_option maxRecDepth 100000 in
theorem t_piece {n : Nat} {d : D2} {I : M2} {J : J2} {S : M2} {L : J2} {R : R2} {Q : QT} {w g fc oc uc td : Nat} (hB : CB S R w g fc oc uc td) {f x y : Int32} (hlane : ∀ j b, j < 12 → b < 256 → opl I b = true → kpt I b (nI j) = false) (hq1 : ¬ (0 ≤ f.toInt ∧ f.toInt < fc) → Q (some (.int (-101))) n (H5 d I J S L R)) (hq2 : ∀ j I1, f = nI j → j < fc → FR I I1 (dvS (vk I (nI j)) (adC w g) (opl I) 256) → (∀ i, x = nI i → ¬ i < (dvS (vk I (nI j)) (adC w g) (opl I) 256).1) → Q (some (.int (-101))) n (H5 d I1 J (u2 (u2 S 7 0 (nI (dvS (vk I (nI j)) (adC w g) (opl I) 256).1)) 7 1 (mnC (I1 8) (I1 9) (S (14 + 4 * j) 0) (dvS (vk I (nI j)) (adC w g) (opl I) 256).1)) L R)) (hq3 : ∀ j i I1, f = nI j → j < fc → FR I I1 (dvS (vk I (nI j)) (adC w g) (opl I) 256) → x = nI i → i < (dvS (vk I (nI j)) (adC w g) (opl I) 256).1 → (∀ k, y = nI k → ¬ k < 4) → Q (some (.int (-102))) n (H5 d I1 J (u2 (u2 S 7 0 (nI (dvS (vk I (nI j)) (adC w g) (opl I) 256).1)) 7 1 (mnC (I1 8) (I1 9) (S (14 + 4 * j) 0) (dvS (vk I (nI j)) (adC w g) (opl I) 256).1)) L R)) (hq4 : ∀ j i k I1, f = nI j → j < fc → FR I I1 (dvS (vk I (nI j)) (adC w g) (opl I) 256) → x = nI i → i < (dvS (vk I (nI j)) (adC w g) (opl I) 256).1 → y = nI k → k < 4 → Q (some (.int (ptl I1 (u2 (u2 S 7 0 (nI (dvS (vk I (nI j)) (adC w g) (opl I) 256).1)) 7 1 (mnC (I1 8) (I1 9) (S (14 + 4 * j) 0) (dvS (vk I (nI j)) (adC w g) (opl I) 256).1)) i k))) n (H5 d I1 J (u2 (u2 S 7 0 (nI (dvS (vk I (nI j)) (adC w g) (opl I) 256).1)) 7 1 (mnC (I1 8) (I1 9) (S (14 + 4 * j) 0) (dvS (vk I (nI j)) (adC w g) (opl I) 256).1)) L R)) : Calls yX6_piece cX6_piece 4 (some .int) rmX6_piece [.ref 0, .int f, .int x, .int y] n (H5 d I J S L R) Q := by
  refine Calls.of (by decide) (Nat.le_of_ble_eq_true rfl) ?_
  intro K hk
  show AW K Q 0 0 0 [some (.ref 0), some (.int f), some (.int x), some (.int y)] [] n (H5 d I J S L R)
  obtain ⟨hw, hg, hw1, hw6, hg1, hg6, hfc, hfc2, hoc, hoc6, huc, huc5, htd, htd4, hR13, hR62⟩ := id hB
  refine aw_aload_n (pc2 := 1) hk dX6_piece_0 rfl rfl ?_
  refine aw_iload_n (pc2 := 2) hk dX6_piece_1 rfl rfl ?_
  refine aw_cV (rm2 := rmX6_isField) (pc2 := 5) hk veX6_isField dX6_piece_2 rfl ml_X6_69 ⟨(Nat.le_of_ble_eq_true rfl), (Nat.le_of_ble_eq_true rfl)⟩ [_] rfl rfl (Nat.le_of_ble_eq_true rfl) (Nat.le_of_ble_eq_true rfl) (Nat.le_of_ble_eq_true rfl) (o_X6 rfl) (t_isField hB ?_)
  refine aw_if_ne (tgt := 11) (pc2 := 8) hk dX6_piece_5 (by decide) rfl (fun c5 => ?_) (fun c5 => ?_)
  · obtain ⟨j, hj1, hj2⟩ := fok_of (bi_ya c5) hfc2
    subst hj2
    have hle := (dvS_le (vk I (nI j)) (adC w g) (opl I) 256).1
    refine aw_aload_n (pc2 := 12) hk dX6_piece_11 rfl rfl ?_
    refine aw_get (pc2 := 15) hk ckX6 1 dX6_piece_12 rfl fl_X6_19 (by decide) (o_X6 rfl) rfl ?_
    refine aw_aload_n (pc2 := 16) hk dX6_piece_15 rfl rfl ?_
    refine aw_get (pc2 := 19) hk ckX6 0 dX6_piece_16 rfl fl_X6_12 (by decide) (o_X6 rfl) rfl ?_
    refine aw_iload_n (pc2 := 20) hk dX6_piece_19 rfl rfl ?_
    refine aw_aload_n (pc2 := 21) hk dX6_piece_20 rfl rfl ?_
    refine aw_get (pc2 := 24) hk ckX6 2 dX6_piece_21 rfl fl_X6_25 (by decide) (o_X6 rfl) rfl ?_
    refine aw_iload_n (pc2 := 25) hk dX6_piece_24 rfl rfl ?_
    refine h_aald (pc2 := 26) hk dX6_piece_25 rfl (Or.inl rfl) rfl rfl (by omega) (by decide) (by rw [hR13 j (by omega)]) ?_
    refine aw_get (pc2 := 29) hk ckX1 0 dX6_piece_26 rfl fl_X6_90 (by decide) (o_X1 (kdF d (show j < 12 by omega)).1) rfl ?_
    refine aw_cV (rm2 := rmX5_find) (pc2 := 32) hk veX5_find dX6_piece_29 rfl ml_X6_225 ⟨(Nat.le_of_ble_eq_true rfl), (Nat.le_of_ble_eq_true rfl)⟩ [_, _, _] rfl rfl (Nat.le_of_ble_eq_true rfl) (Nat.le_of_ble_eq_true rfl) (Nat.le_of_ble_eq_true rfl) (o_X5 rfl) (t_find hw hg hw6 hg6 (fun b hb h9 => hlane j b (by omega) hb h9) (fun I1 hF => ?_))
    refine aw_iload_n (pc2 := 33) hk dX6_piece_32 rfl rfl ?_
    refine aw_if_lt (tgt := 47) (pc2 := 36) hk dX6_piece_33 (by decide) rfl (fun c33 => ?_) (fun c33 => ?_)
    · refine aw_bipush (v := -101) (pc2 := 49) hk dX6_piece_47 rfl (by decide) ?_
      refine aw_iret hk dX6_piece_49 (Nat.le_of_ble_eq_true rfl) (Nat.le_of_ble_eq_true rfl) (hq2 j I1 rfl hj1 hF (fun i h9 h8 => by subst h9; simp only [i_lt, i_le, l0, nI_toInt (show i < 2 ^ 31 by omega), nI_toInt (show (dvS (vk I (nI j)) (adC w g) (opl I) 256).1 < 2 ^ 31 by omega)] at *; omega))
    · refine aw_iload_n (pc2 := 37) hk dX6_piece_36 rfl rfl ?_
      refine aw_aload_n (pc2 := 38) hk dX6_piece_37 rfl rfl ?_
      refine aw_get (pc2 := 41) hk ckX6 1 dX6_piece_38 rfl fl_X6_19 (by decide) (o_X6 rfl) rfl ?_
      refine aw_get (pc2 := 44) hk ckX5 0 dX6_piece_41 rfl fl_X6_280 (by decide) (o_X5 rfl) rfl ?_
      refine aw_top (nI (dvS (vk I (nI j)) (adC w g) (opl I) 256).1) (by rw [u2_j _ _ _ _ (by decide), u2_s]) ?_
      refine aw_icmp_lt (tgt := 50) (pc2 := 47) hk dX6_piece_44 (by decide) rfl (fun c44 => ?_) (fun c44 => ?_)
      · obtain ⟨i, hi1, hi2⟩ : ∃ i, i < (dvS (vk I (nI j)) (adC w g) (opl I) 256).1 ∧ x = nI i := ⟨x.toInt.toNat, by simp only [i_lt, i_le, l0, nI_toInt (show (dvS (vk I (nI j)) (adC w g) (opl I) 256).1 < 2 ^ 31 by omega)] at *; omega, i_eq (by simp only [i_lt, i_le, l0] at *; omega)⟩
        subst hi2
        refine aw_iload_n (pc2 := 51) hk dX6_piece_50 rfl rfl ?_
        refine aw_if_lt (tgt := 59) (pc2 := 54) hk dX6_piece_51 (by decide) rfl (fun c51 => ?_) (fun c51 => ?_)
        · refine aw_bipush (v := -102) (pc2 := 61) hk dX6_piece_59 rfl (by decide) ?_
          refine aw_iret hk dX6_piece_61 (Nat.le_of_ble_eq_true rfl) (Nat.le_of_ble_eq_true rfl) (hq3 j i I1 rfl hj1 hF rfl hi1 (fun k h9 h8 => by subst h9; simp only [i_lt, i_le, l0, l4, nI_toInt (show k < 2 ^ 31 by omega)] at *; omega))
        · refine aw_iload_n (pc2 := 55) hk dX6_piece_54 rfl rfl ?_
          refine aw_iconst (v := 4) (pc2 := 56) hk dX6_piece_55 rfl (by decide) ?_
          refine aw_icmp_lt (tgt := 62) (pc2 := 59) hk dX6_piece_56 (by decide) rfl (fun c56 => ?_) (fun c56 => ?_)
          · obtain ⟨k, hk1, hk2⟩ : ∃ k, k < 4 ∧ y = nI k := ⟨y.toInt.toNat, by simp only [i_lt, i_le, l0, l4] at *; omega, i_eq (by simp only [i_lt, i_le, l0] at *; omega)⟩
            subst hk2
            refine aw_aload_n (pc2 := 63) hk dX6_piece_62 rfl rfl ?_
            refine aw_get (pc2 := 66) hk ckX6 1 dX6_piece_63 rfl fl_X6_19 (by decide) (o_X6 rfl) rfl ?_
            refine aw_iload_n (pc2 := 67) hk dX6_piece_66 rfl rfl ?_
            refine aw_iload_n (pc2 := 68) hk dX6_piece_67 rfl rfl ?_
            refine aw_cV (rm2 := rmX5_tell) (pc2 := 71) hk veX5_tell dX6_piece_68 rfl ml_X6_323 ⟨(Nat.le_of_ble_eq_true rfl), (Nat.le_of_ble_eq_true rfl)⟩ [_, _] rfl rfl (Nat.le_of_ble_eq_true rfl) (Nat.le_of_ble_eq_true rfl) (Nat.le_of_ble_eq_true rfl) (o_X5 rfl) (t_ptell (by omega) hk1 ?_)
            refine aw_iret hk dX6_piece_71 (Nat.le_of_ble_eq_true rfl) (Nat.le_of_ble_eq_true rfl) (hq4 j i k I1 rfl hj1 hF rfl hi1 rfl hk1)
          · refine aw_bipush (v := -102) (pc2 := 61) hk dX6_piece_59 rfl (by decide) ?_
            refine aw_iret hk dX6_piece_61 (Nat.le_of_ble_eq_true rfl) (Nat.le_of_ble_eq_true rfl) (hq3 j i I1 rfl hj1 hF rfl hi1 (fun k h9 h8 => by subst h9; simp only [i_lt, i_le, l0, l4, nI_toInt (show k < 2 ^ 31 by omega)] at *; omega))
      · refine aw_bipush (v := -101) (pc2 := 49) hk dX6_piece_47 rfl (by decide) ?_
        refine aw_iret hk dX6_piece_49 (Nat.le_of_ble_eq_true rfl) (Nat.le_of_ble_eq_true rfl) (hq2 j I1 rfl hj1 hF (fun i h9 h8 => by subst h9; simp only [i_lt, i_le, l0, nI_toInt (show i < 2 ^ 31 by omega), nI_toInt (show (dvS (vk I (nI j)) (adC w g) (opl I) 256).1 < 2 ^ 31 by omega)] at *; omega))
  · refine aw_bipush (v := -101) (pc2 := 10) hk dX6_piece_8 rfl (by decide) ?_
    refine aw_iret hk dX6_piece_10 (Nat.le_of_ble_eq_true rfl) (Nat.le_of_ble_eq_true rfl) (hq1 (bi_no c5))
