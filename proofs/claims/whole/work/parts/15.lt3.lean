def mx (h v : Int64) : Int64 := 31 * h + v
def foldN (f : Nat → Int64 → Int64) : Nat → Int64 → Int64
  | 0, h => h
  | n + 1, h => f n (foldN f n h)
theorem foldN_0 (f : Nat → Int64 → Int64) (h : Int64) : foldN f 0 h = h := rfl
theorem foldN_s (f : Nat → Int64 → Int64) (n : Nat) (h : Int64) : foldN f (n + 1) h = f n (foldN f n h) := rfl
theorem foldN_eq {f f' : Nat → Int64 → Int64} : ∀ n h, (∀ i, i < n → ∀ h, f i h = f' i h) → foldN f n h = foldN f' n h := by
  intro n
  induction n with
  | zero => intro h _; rfl
  | succ n ih => intro h hh; show f n (foldN f n h) = f' n (foldN f' n h); rw [ih h (fun i hi => hh i (by omega)), hh n (by omega)]
set_option maxHeartbeats 800000 in
set_option maxRecDepth 100000 in
theorem t_mixed {n : Nat} {h : HP} {Q : QT} {x y : Int64} (hq : Q (some (.long (mx x y))) n h) : Calls yX6_mixed cX6_mixed 4 (some .long) rmX6_mixed [.long x, .long y] n (h) Q := by
  refine Calls.of (by decide) (Nat.le_of_ble_eq_true rfl) ?_
  intro K hk
  show AW K Q 0 0 0 [some (.long x), none, some (.long y), none] [] n (h)
  refine aw_ldc2 (pc2 := 3) hk dX6_mixed_0 rfl kl_X6_358 ?_
  refine aw_lload_n (pc2 := 4) hk dX6_mixed_3 rfl rfl ?_
  refine aw_lmul (pc2 := 5) hk dX6_mixed_4 rfl ?_
  refine aw_lload_n (pc2 := 6) hk dX6_mixed_5 rfl rfl ?_
  refine aw_ladd (pc2 := 7) hk dX6_mixed_6 rfl ?_
  refine aw_lret hk dX6_mixed_7 (Nat.le_of_ble_eq_true rfl) (Nat.le_of_ble_eq_true rfl) hq
set_option maxHeartbeats 800000 in
set_option maxRecDepth 100000 in
theorem t_mixedCells {n : Nat} {d : D2} {I : M2} {J : J2} {S : M2} {L : J2} {R : R2} {Q : QT} {w g fc oc uc td : Nat} (hB : CB S R w g fc oc uc td) {h0 : Int64} (hq : Q (some (.long (foldN (fun y h => foldN (fun x h => foldN (fun k h => mx h (lok I (16 * y + x) k).toInt64) 5 h) w h) g h0))) n (H5 d I J S L R)) : Calls yX6_mixedCells cX6_mixedCells 8 (some .long) rmX6_mixedCells [.ref 0, .long h0] n (H5 d I J S L R) Q := by
  refine Calls.of (by decide) (Nat.le_of_ble_eq_true rfl) ?_
  intro K hk
  show AW K Q 0 0 0 [some (.ref 0), some (.long h0), none, none, none, none, none, none] [] n (H5 d I J S L R)
  obtain ⟨hw, hg, hw1, hw6, hg1, hg6, hfc, hfc2, hoc, hoc6, huc, huc5, htd, htd4, hR13, hR62⟩ := id hB
  have loop : ∀ (k y : Nat), y ≤ g → g + 1 ≤ y + k → AW K Q 0 0 5 [some (.ref 0), some (.long h0), none, some (.long (foldN (fun y h => foldN (fun x h => foldN (fun k h => mx h (lok I (16 * y + x) k).toInt64) 5 h) w h) y h0)), none, some (.int (nI y)), none, none] [] n (H5 d I J S L R) := by
    intro k
    induction k with
    | zero => intro y  hiy hny; omega
    | succ k ih =>
      intro y  hiy hny
      refine aw_iload (pc2 := 7) hk dX6_mixedCells_5 rfl rfl ?_
      refine aw_aload_n (pc2 := 8) hk dX6_mixedCells_7 rfl rfl ?_
      refine aw_get (pc2 := 11) hk ckX6 0 dX6_mixedCells_8 rfl fl_X6_12 (by decide) (o_X6 rfl) rfl ?_
      refine aw_get (pc2 := 14) hk ckX2 1 dX6_mixedCells_11 rfl fl_X6_342 (by decide) (o_X2 rfl) rfl ?_
      refine aw_icN_ge (x := y) (y := g) (tgt := 75) (pc2 := 17) hk dX6_mixedCells_14 (by decide) rfl rfl hg (by omega) (by omega) (fun c14 => ?_) (fun c14 => ?_)
      · obtain rfl : y = g := by omega
        refine aw_lload_n (pc2 := 76) hk dX6_mixedCells_75 rfl rfl ?_
        refine aw_lret hk dX6_mixedCells_76 (Nat.le_of_ble_eq_true rfl) (Nat.le_of_ble_eq_true rfl) hq
      · have loop2 : ∀ (k2 x : Nat), x ≤ w → w + 1 ≤ x + k2 → AW K Q 0 0 20 [some (.ref 0), some (.long h0), none, some (.long (foldN (fun x h => foldN (fun k h => mx h (lok I (16 * y + x) k).toInt64) 5 h) x (foldN (fun y h => foldN (fun x h => foldN (fun k h => mx h (lok I (16 * y + x) k).toInt64) 5 h) w h) y h0))), none, some (.int (nI y)), some (.int (nI x)), none] [] n (H5 d I J S L R) := by
          intro k2
          induction k2 with
          | zero => intro x  hix hnx; omega
          | succ k2 ih2 =>
            intro x  hix hnx
            refine aw_iload (pc2 := 22) hk dX6_mixedCells_20 rfl rfl ?_
            refine aw_aload_n (pc2 := 23) hk dX6_mixedCells_22 rfl rfl ?_
            refine aw_get (pc2 := 26) hk ckX6 0 dX6_mixedCells_23 rfl fl_X6_12 (by decide) (o_X6 rfl) rfl ?_
            refine aw_get (pc2 := 29) hk ckX2 0 dX6_mixedCells_26 rfl fl_X6_336 (by decide) (o_X2 rfl) rfl ?_
            refine aw_icN_ge (x := x) (y := w) (tgt := 69) (pc2 := 32) hk dX6_mixedCells_29 (by decide) rfl rfl hw (by omega) (by omega) (fun c29 => ?_) (fun c29 => ?_)
            · obtain rfl : x = w := by omega
              refine aw_iinc1 (pc2 := 72) hk dX6_mixedCells_69 rfl rfl (by decide) ?_
              show AW K Q _ _ 72 [_, _, _, _, _, _, _, _] _ _ _
              refine aw_goto (tgt := 5) hk dX6_mixedCells_72 (by decide) ?_
              refine aw_fg 6 ?_
              refine aw_fg 7 ?_
              exact ih (y + 1) (by omega) (by omega)
            · have hp : plc w g (nI x) (nI y) = some (16 * y + x) := plc_in (by omega) (by omega) hw6 hg6
              have loop3 : ∀ (k3 z : Nat), z ≤ 5 → 5 + 1 ≤ z + k3 → AW K Q 0 0 35 [some (.ref 0), some (.long h0), none, some (.long (foldN (fun k h => mx h (lok I (16 * y + x) k).toInt64) z (foldN (fun x h => foldN (fun k h => mx h (lok I (16 * y + x) k).toInt64) 5 h) x (foldN (fun y h => foldN (fun x h => foldN (fun k h => mx h (lok I (16 * y + x) k).toInt64) 5 h) w h) y h0)))), none, some (.int (nI y)), some (.int (nI x)), some (.int (nI z))] [] n (H5 d I J S L R) := by
                intro k3
                induction k3 with
                | zero => intro z  hiz hnz; omega
                | succ k3 ih3 =>
                  intro z  hiz hnz
                  refine aw_iload (pc2 := 37) hk dX6_mixedCells_35 rfl rfl ?_
                  refine aw_iconst (v := 5) (pc2 := 38) hk dX6_mixedCells_37 rfl (by decide) ?_
                  refine aw_icN_ge (y := 5) (tgt := 63) (pc2 := 41) hk dX6_mixedCells_38 (by decide) rfl rfl rfl (by omega) (by omega) (fun c38 => ?_) (fun c38 => ?_)
                  · obtain rfl : z = 5 := by omega
                    refine aw_iinc1 (pc2 := 66) hk dX6_mixedCells_63 rfl rfl (by decide) ?_
                    show AW K Q _ _ 66 [_, _, _, _, _, _, _, _] _ _ _
                    refine aw_goto (tgt := 20) hk dX6_mixedCells_66 (by decide) ?_
                    refine aw_fg 7 ?_
                    exact ih2 (x + 1) (by omega) (by omega)
                  · refine aw_lload_n (pc2 := 42) hk dX6_mixedCells_41 rfl rfl ?_
                    refine aw_aload_n (pc2 := 43) hk dX6_mixedCells_42 rfl rfl ?_
                    refine aw_iload (pc2 := 45) hk dX6_mixedCells_43 rfl rfl ?_
                    refine aw_iload (pc2 := 47) hk dX6_mixedCells_45 rfl rfl ?_
                    refine aw_iload (pc2 := 49) hk dX6_mixedCells_47 rfl rfl ?_
                    refine aw_cV (rm2 := rmX6_look) (pc2 := 52) hk veX6_look dX6_mixedCells_49 rfl ml_X6_360 ⟨(Nat.le_of_ble_eq_true rfl), (Nat.le_of_ble_eq_true rfl)⟩ [_, _, _] rfl rfl (Nat.le_of_ble_eq_true rfl) (Nat.le_of_ble_eq_true rfl) (Nat.le_of_ble_eq_true rfl) (o_X6 rfl) (t_look hB (fun h9 => absurd h9 (by rw [hp]; exact fun h => by cases h)) (fun c h9 h8 => absurd (show z < 5 by omega) (h8 z rfl)) (fun c k h9 h8 h7 => ?_))
                    obtain rfl : 16 * y + x = c := Option.some.inj (hp.symm.trans h9)
                    obtain rfl : z = k := (nI_eq (by omega) (by omega)).mp h8
                    refine aw_i2l (pc2 := 53) hk dX6_mixedCells_52 rfl ?_
                    refine aw_cS (rm2 := rmX6_mixed) (pc2 := 56) hk seX6_mixed dX6_mixedCells_53 rfl ml_X6_339 ⟨(Nat.le_of_ble_eq_true rfl), (Nat.le_of_ble_eq_true rfl)⟩ [_, _] rfl rfl (Nat.le_of_ble_eq_true rfl) (Nat.le_of_ble_eq_true rfl) (Nat.le_of_ble_eq_true rfl) (t_mixed ?_)
                    refine aw_lstore_n (pc2 := 57) hk dX6_mixedCells_56 rfl (by decide) ?_
                    show AW K Q _ _ 57 [_, _, _, _, _, _, _, _] _ _ _
                    refine aw_iinc1 (pc2 := 60) hk dX6_mixedCells_57 rfl rfl (by decide) ?_
                    show AW K Q _ _ 60 [_, _, _, _, _, _, _, _] _ _ _
                    refine aw_goto (tgt := 35) hk dX6_mixedCells_60 (by decide) ?_
                    exact ih3 (z + 1) (by omega) (by omega)
              refine aw_iconst (v := 0) (pc2 := 33) hk dX6_mixedCells_32 rfl (by decide) ?_
              refine aw_istore (pc2 := 35) hk dX6_mixedCells_33 rfl (by decide) ?_
              show AW K Q _ _ 35 [_, _, _, _, _, _, _, _] _ _ _
              exact loop3 6 0 (by omega) (by omega)
        refine aw_iconst (v := 0) (pc2 := 18) hk dX6_mixedCells_17 rfl (by decide) ?_
        refine aw_istore (pc2 := 20) hk dX6_mixedCells_18 rfl (by decide) ?_
        show AW K Q _ _ 20 [_, _, _, _, _, _, _, _] _ _ _
        exact loop2 (w + 1) 0 (by omega) (by omega)
  refine aw_lload_n (pc2 := 1) hk dX6_mixedCells_0 rfl rfl ?_
  refine aw_lstore_n (pc2 := 2) hk dX6_mixedCells_1 rfl (by decide) ?_
  show AW K Q _ _ 2 [_, _, _, _, _, _, _, _] _ _ _
  refine aw_iconst (v := 0) (pc2 := 3) hk dX6_mixedCells_2 rfl (by decide) ?_
  refine aw_istore (pc2 := 5) hk dX6_mixedCells_3 rfl (by decide) ?_
  show AW K Q _ _ 5 [_, _, _, _, _, _, _, _] _ _ _
  exact loop (g + 1) 0 (by omega) (by omega)
set_option maxHeartbeats 800000 in
set_option maxRecDepth 100000 in
theorem t_mixedFields {n : Nat} {d : D2} {I : M2} {J : J2} {S : M2} {L : J2} {R : R2} {Q : QT} {w g fc oc uc td : Nat} (hB : CB S R w g fc oc uc td) (hrc : ∀ j, j < fc → ∃ rc, rc ≤ 4 ∧ S (14 + 4 * j) 1 = nI rc) {h0 : Int64} (hq : Q (some (.long (foldN (fun f h => foldN (fun r h => mx (mx h (I (14 + 4 * f + 1) r).toInt64) (I (14 + 4 * f + 2) r).toInt64) (S (14 + 4 * f) 1).toNatClampNeg (mx h (S (14 + 4 * f) 0).toInt64)) fc h0))) n (H5 d I J S L R)) : Calls yX6_mixedFields cX6_mixedFields 8 (some .long) rmX6_mixedFields [.ref 0, .long h0] n (H5 d I J S L R) Q := by
  refine Calls.of (by decide) (Nat.le_of_ble_eq_true rfl) ?_
  intro K hk
  show AW K Q 0 0 0 [some (.ref 0), some (.long h0), none, none, none, none, none, none] [] n (H5 d I J S L R)
  obtain ⟨hw, hg, hw1, hw6, hg1, hg6, hfc, hfc2, hoc, hoc6, huc, huc5, htd, htd4, hR13, hR62⟩ := id hB
  have loop : ∀ (k f : Nat), f ≤ fc → fc + 1 ≤ f + k → AW K Q 0 0 5 [some (.ref 0), some (.long h0), none, some (.long (foldN (fun f h => foldN (fun r h => mx (mx h (I (14 + 4 * f + 1) r).toInt64) (I (14 + 4 * f + 2) r).toInt64) (S (14 + 4 * f) 1).toNatClampNeg (mx h (S (14 + 4 * f) 0).toInt64)) f h0)), none, some (.int (nI f)), none, none] [] n (H5 d I J S L R) := by
    intro k
    induction k with
    | zero => intro f  hif hnf; omega
    | succ k ih =>
      intro f  hif hnf
      refine aw_iload (pc2 := 7) hk dX6_mixedFields_5 rfl rfl ?_
      refine aw_aload_n (pc2 := 8) hk dX6_mixedFields_7 rfl rfl ?_
      refine aw_get (pc2 := 11) hk ckX6 3 dX6_mixedFields_8 rfl fl_X6_58 (by decide) (o_X6 rfl) rfl ?_
      refine aw_icN_ge (x := f) (y := fc) (tgt := 100) (pc2 := 14) hk dX6_mixedFields_11 (by decide) rfl rfl hfc (by omega) (by omega) (fun c11 => ?_) (fun c11 => ?_)
      · obtain rfl : f = fc := by omega
        refine aw_lload_n (pc2 := 101) hk dX6_mixedFields_100 rfl rfl ?_
        refine aw_lret hk dX6_mixedFields_101 (Nat.le_of_ble_eq_true rfl) (Nat.le_of_ble_eq_true rfl) hq
      · refine aw_iload (pc2 := 16) hk dX6_mixedFields_14 rfl rfl ?_
        refine aw_bipush (v := 12) (pc2 := 18) hk dX6_mixedFields_16 rfl (by decide) ?_
        refine aw_icN_ge (x := f) (y := 12) (tgt := 100) (pc2 := 21) hk dX6_mixedFields_18 (by decide) rfl rfl rfl (by omega) (by omega) (fun c18 => absurd c18 (by omega)) (fun c18 => ?_)
        refine aw_aload_n (pc2 := 22) hk dX6_mixedFields_21 rfl rfl ?_
        refine aw_get (pc2 := 25) hk ckX6 2 dX6_mixedFields_22 rfl fl_X6_25 (by decide) (o_X6 rfl) rfl ?_
        refine aw_iload (pc2 := 27) hk dX6_mixedFields_25 rfl rfl ?_
        refine h_aald (pc2 := 28) hk dX6_mixedFields_27 rfl (Or.inl rfl) rfl rfl (by omega) (by decide) (by rw [hR13 f (by omega)]) ?_
        refine aw_astore (pc2 := 30) hk dX6_mixedFields_28 rfl (by decide) ?_
        show AW K Q _ _ 30 [_, _, _, _, _, _, _, _] _ _ _
        refine aw_lload_n (pc2 := 31) hk dX6_mixedFields_30 rfl rfl ?_
        refine aw_aload (pc2 := 33) hk dX6_mixedFields_31 rfl rfl ?_
        refine aw_get (pc2 := 36) hk ckX1 0 dX6_mixedFields_33 rfl fl_X6_90 (by decide) (o_X1 (kdF d (show f < 12 by omega)).1) rfl ?_
        refine aw_i2l (pc2 := 37) hk dX6_mixedFields_36 rfl ?_
        refine aw_cS (rm2 := rmX6_mixed) (pc2 := 40) hk seX6_mixed dX6_mixedFields_37 rfl ml_X6_339 ⟨(Nat.le_of_ble_eq_true rfl), (Nat.le_of_ble_eq_true rfl)⟩ [_, _] rfl rfl (Nat.le_of_ble_eq_true rfl) (Nat.le_of_ble_eq_true rfl) (Nat.le_of_ble_eq_true rfl) (t_mixed ?_)
        refine aw_lstore_n (pc2 := 41) hk dX6_mixedFields_40 rfl (by decide) ?_
        show AW K Q _ _ 41 [_, _, _, _, _, _, _, _] _ _ _
        obtain ⟨rc, hrc4, hrc2⟩ := hrc f (by omega)
        have loop2 : ∀ (k2 r : Nat), r ≤ rc → rc + 1 ≤ r + k2 → AW K Q 0 0 44 [some (.ref 0), some (.long h0), none, some (.long (foldN (fun r h => mx (mx h (I (14 + 4 * f + 1) r).toInt64) (I (14 + 4 * f + 2) r).toInt64) r (mx (foldN (fun f h => foldN (fun r h => mx (mx h (I (14 + 4 * f + 1) r).toInt64) (I (14 + 4 * f + 2) r).toInt64) (S (14 + 4 * f) 1).toNatClampNeg (mx h (S (14 + 4 * f) 0).toInt64)) f h0) (S (14 + 4 * f) 0).toInt64))), none, some (.int (nI f)), some (.ref (14 + 4 * f)), some (.int (nI r))] [] n (H5 d I J S L R) := by
          intro k2
          induction k2 with
          | zero => intro r  hir hnr; omega
          | succ k2 ih2 =>
            intro r  hir hnr
            refine aw_iload (pc2 := 46) hk dX6_mixedFields_44 rfl rfl ?_
            refine aw_aload (pc2 := 48) hk dX6_mixedFields_46 rfl rfl ?_
            refine aw_get (pc2 := 51) hk ckX1 1 dX6_mixedFields_48 rfl fl_X6_286 (by decide) (o_X1 (kdF d (show f < 12 by omega)).1) rfl ?_
            refine aw_icN_ge (x := r) (y := rc) (tgt := 94) (pc2 := 54) hk dX6_mixedFields_51 (by decide) rfl rfl hrc2 (by omega) (by omega) (fun c51 => ?_) (fun c51 => ?_)
            · obtain rfl : r = rc := by omega
              refine aw_lv [some (.ref 0), some (.long h0), none, some (.long (foldN (fun f h => foldN (fun r h => mx (mx h (I (14 + 4 * f + 1) r).toInt64) (I (14 + 4 * f + 2) r).toInt64) (S (14 + 4 * f) 1).toNatClampNeg (mx h (S (14 + 4 * f) 0).toInt64)) (f + 1) h0)), none, some (.int (nI f)), some (.ref (14 + 4 * f)), some (.int (nI r))] (by show _ = [_, _, _, some (Value.long (foldN _ (S (14 + 4 * f) 1).toNatClampNeg _)), _, _, _, _]; rw [hrc2, nI_clamp (by omega)]) ?_
              refine aw_iinc1 (pc2 := 97) hk dX6_mixedFields_94 rfl rfl (by decide) ?_
              show AW K Q _ _ 97 [_, _, _, _, _, _, _, _] _ _ _
              refine aw_goto (tgt := 5) hk dX6_mixedFields_97 (by decide) ?_
              refine aw_fg 6 ?_
              refine aw_fg 7 ?_
              exact ih (f + 1) (by omega) (by omega)
            · refine aw_iload (pc2 := 56) hk dX6_mixedFields_54 rfl rfl ?_
              refine aw_iconst (v := 4) (pc2 := 57) hk dX6_mixedFields_56 rfl (by decide) ?_
              refine aw_icN_ge (x := r) (y := 4) (tgt := 94) (pc2 := 60) hk dX6_mixedFields_57 (by decide) rfl rfl rfl (by omega) (by omega) (fun c57 => absurd c57 (by omega)) (fun c57 => ?_)
              refine aw_lload_n (pc2 := 61) hk dX6_mixedFields_60 rfl rfl ?_
              refine aw_aload (pc2 := 63) hk dX6_mixedFields_61 rfl rfl ?_
              refine aw_get (pc2 := 66) hk ckX1 2 dX6_mixedFields_63 rfl fl_X6_289 (by decide) (o_X1 (kdF d (show f < 12 by omega)).1) rfl ?_
              refine aw_iload (pc2 := 68) hk dX6_mixedFields_66 rfl rfl ?_
              refine h_iald (pc2 := 69) hk dX6_mixedFields_68 rfl (kdF d (show f < 12 by omega)).2.1 rfl (by omega) (by decide) ?_
              refine aw_i2l (pc2 := 70) hk dX6_mixedFields_69 rfl ?_
              refine aw_cS (rm2 := rmX6_mixed) (pc2 := 73) hk seX6_mixed dX6_mixedFields_70 rfl ml_X6_339 ⟨(Nat.le_of_ble_eq_true rfl), (Nat.le_of_ble_eq_true rfl)⟩ [_, _] rfl rfl (Nat.le_of_ble_eq_true rfl) (Nat.le_of_ble_eq_true rfl) (Nat.le_of_ble_eq_true rfl) (t_mixed ?_)
              refine aw_lstore_n (pc2 := 74) hk dX6_mixedFields_73 rfl (by decide) ?_
              show AW K Q _ _ 74 [_, _, _, _, _, _, _, _] _ _ _
              refine aw_lload_n (pc2 := 75) hk dX6_mixedFields_74 rfl rfl ?_
              refine aw_aload (pc2 := 77) hk dX6_mixedFields_75 rfl rfl ?_
              refine aw_get (pc2 := 80) hk ckX1 3 dX6_mixedFields_77 rfl fl_X6_296 (by decide) (o_X1 (kdF d (show f < 12 by omega)).1) rfl ?_
              refine aw_iload (pc2 := 82) hk dX6_mixedFields_80 rfl rfl ?_
              refine h_iald (pc2 := 83) hk dX6_mixedFields_82 rfl (kdF d (show f < 12 by omega)).2.2.1 rfl (by omega) (by decide) ?_
              refine aw_i2l (pc2 := 84) hk dX6_mixedFields_83 rfl ?_
              refine aw_cS (rm2 := rmX6_mixed) (pc2 := 87) hk seX6_mixed dX6_mixedFields_84 rfl ml_X6_339 ⟨(Nat.le_of_ble_eq_true rfl), (Nat.le_of_ble_eq_true rfl)⟩ [_, _] rfl rfl (Nat.le_of_ble_eq_true rfl) (Nat.le_of_ble_eq_true rfl) (Nat.le_of_ble_eq_true rfl) (t_mixed ?_)
              refine aw_lstore_n (pc2 := 88) hk dX6_mixedFields_87 rfl (by decide) ?_
              show AW K Q _ _ 88 [_, _, _, _, _, _, _, _] _ _ _
              refine aw_iinc1 (pc2 := 91) hk dX6_mixedFields_88 rfl rfl (by decide) ?_
              show AW K Q _ _ 91 [_, _, _, _, _, _, _, _] _ _ _
              refine aw_goto (tgt := 44) hk dX6_mixedFields_91 (by decide) ?_
              exact ih2 (r + 1) (by omega) (by omega)
        refine aw_iconst (v := 0) (pc2 := 42) hk dX6_mixedFields_41 rfl (by decide) ?_
        refine aw_istore (pc2 := 44) hk dX6_mixedFields_42 rfl (by decide) ?_
        show AW K Q _ _ 44 [_, _, _, _, _, _, _, _] _ _ _
        exact loop2 (rc + 1) 0 (by omega) (by omega)
  refine aw_lload_n (pc2 := 1) hk dX6_mixedFields_0 rfl rfl ?_
  refine aw_lstore_n (pc2 := 2) hk dX6_mixedFields_1 rfl (by decide) ?_
  show AW K Q _ _ 2 [_, _, _, _, _, _, _, _] _ _ _
  refine aw_iconst (v := 0) (pc2 := 3) hk dX6_mixedFields_2 rfl (by decide) ?_
  refine aw_istore (pc2 := 5) hk dX6_mixedFields_3 rfl (by decide) ?_
  show AW K Q _ _ 5 [_, _, _, _, _, _, _, _] _ _ _
  exact loop (fc + 1) 0 (by omega) (by omega)
set_option maxHeartbeats 800000 in
set_option maxRecDepth 100000 in
theorem t_mixedOrders {n : Nat} {d : D2} {I : M2} {J : J2} {S : M2} {L : J2} {R : R2} {Q : QT} {w g fc oc uc td : Nat} (hB : CB S R w g fc oc uc td) {oa nc : Nat → Nat} {ca : Nat → Nat → Nat} (hO : OrdB d S R oc oa nc ca) {h0 : Int64} (hq : Q (some (.long (foldN (fun o h => foldN (fun q h => foldN (fun j h => mx h (tell S L (ca o q) j (S 0 7))) 14 h) (nc o) (mx h (S (oa o) 0).toInt64)) oc h0))) n (H5 d I J S L R)) : Calls yX6_mixedOrders cX6_mixedOrders 9 (some .long) rmX6_mixedOrders [.ref 0, .long h0] n (H5 d I J S L R) Q := by
  refine Calls.of (by decide) (Nat.le_of_ble_eq_true rfl) ?_
  intro K hk
  show AW K Q 0 0 0 [some (.ref 0), some (.long h0), none, none, none, none, none, none, none] [] n (H5 d I J S L R)
  obtain ⟨hw, hg, hw1, hw6, hg1, hg6, hfc, hfc2, hoc, hoc6, huc, huc5, htd, htd4, hR13, hR62⟩ := id hB
  have loop : ∀ (k o : Nat), o ≤ oc → oc + 1 ≤ o + k → AW K Q 0 0 5 [some (.ref 0), some (.long h0), none, some (.long (foldN (fun o h => foldN (fun q h => foldN (fun j h => mx h (tell S L (ca o q) j (S 0 7))) 14 h) (nc o) (mx h (S (oa o) 0).toInt64)) o h0)), none, some (.int (nI o)), none, none, none] [] n (H5 d I J S L R) := by
    intro k
    induction k with
    | zero => intro o  hio hno; omega
    | succ k ih =>
      intro o  hio hno
      refine aw_iload (pc2 := 7) hk dX6_mixedOrders_5 rfl rfl ?_
      refine aw_aload_n (pc2 := 8) hk dX6_mixedOrders_7 rfl rfl ?_
      refine aw_get (pc2 := 11) hk ckX6 9 dX6_mixedOrders_8 rfl fl_X6_100 (by decide) (o_X6 rfl) rfl ?_
      refine aw_icN_ge (x := o) (y := oc) (tgt := 94) (pc2 := 14) hk dX6_mixedOrders_11 (by decide) rfl rfl hoc (by omega) (by omega) (fun c11 => ?_) (fun c11 => ?_)
      · obtain rfl : o = oc := by omega
        refine aw_lload_n (pc2 := 95) hk dX6_mixedOrders_94 rfl rfl ?_
        refine aw_lret hk dX6_mixedOrders_95 (Nat.le_of_ble_eq_true rfl) (Nat.le_of_ble_eq_true rfl) hq
      · refine aw_aload_n (pc2 := 15) hk dX6_mixedOrders_14 rfl rfl ?_
        refine aw_iload (pc2 := 17) hk dX6_mixedOrders_15 rfl rfl ?_
        refine aw_cV (rm2 := rmX6_orderAt) (pc2 := 20) hk veX6_orderAt dX6_mixedOrders_17 rfl ml_X6_199 ⟨(Nat.le_of_ble_eq_true rfl), (Nat.le_of_ble_eq_true rfl)⟩ [_] rfl rfl (Nat.le_of_ble_eq_true rfl) (Nat.le_of_ble_eq_true rfl) (Nat.le_of_ble_eq_true rfl) (o_X6 rfl) (t_orderAt hB hO rfl (by omega) ?_)
        refine aw_astore (pc2 := 22) hk dX6_mixedOrders_20 rfl (by decide) ?_
        show AW K Q _ _ 22 [_, _, _, _, _, _, _, _, _] _ _ _
        refine aw_aload (pc2 := 24) hk dX6_mixedOrders_22 rfl rfl ?_
        refine aw_ifnull_r (pc2 := 27) hk dX6_mixedOrders_24 rfl ?_
        refine aw_lload_n (pc2 := 28) hk dX6_mixedOrders_27 rfl rfl ?_
        refine aw_aload (pc2 := 30) hk dX6_mixedOrders_28 rfl rfl ?_
        refine aw_get (pc2 := 33) hk ckX3 0 dX6_mixedOrders_30 rfl fl_X6_364 (by decide) (o_X3 (hO o (by omega)).2.1) rfl ?_
        refine aw_i2l (pc2 := 34) hk dX6_mixedOrders_33 rfl ?_
        refine aw_cS (rm2 := rmX6_mixed) (pc2 := 37) hk seX6_mixed dX6_mixedOrders_34 rfl ml_X6_339 ⟨(Nat.le_of_ble_eq_true rfl), (Nat.le_of_ble_eq_true rfl)⟩ [_, _] rfl rfl (Nat.le_of_ble_eq_true rfl) (Nat.le_of_ble_eq_true rfl) (Nat.le_of_ble_eq_true rfl) (t_mixed ?_)
        refine aw_lstore_n (pc2 := 38) hk dX6_mixedOrders_37 rfl (by decide) ?_
        show AW K Q _ _ 38 [_, _, _, _, _, _, _, _, _] _ _ _
        have hm12 := (hO o (by omega)).2.2.2.1
        have loop2 : ∀ (k2 q : Nat), q ≤ nc o → nc o + 1 ≤ q + k2 → AW K Q 0 0 41 [some (.ref 0), some (.long h0), none, some (.long (foldN (fun q h => foldN (fun j h => mx h (tell S L (ca o q) j (S 0 7))) 14 h) q (mx (foldN (fun o h => foldN (fun q h => foldN (fun j h => mx h (tell S L (ca o q) j (S 0 7))) 14 h) (nc o) (mx h (S (oa o) 0).toInt64)) o h0) (S (oa o) 0).toInt64))), none, some (.int (nI o)), some (.ref (oa o)), some (.int (nI q)), none] [] n (H5 d I J S L R) := by
          intro k2
          induction k2 with
          | zero => intro q  hiq hnq; omega
          | succ k2 ih2 =>
            intro q  hiq hnq
            refine aw_iload (pc2 := 43) hk dX6_mixedOrders_41 rfl rfl ?_
            refine aw_aload (pc2 := 45) hk dX6_mixedOrders_43 rfl rfl ?_
            refine aw_get (pc2 := 48) hk ckX3 2 dX6_mixedOrders_45 rfl fl_X6_147 (by decide) (o_X3 (hO o (by omega)).2.1) rfl ?_
            refine aw_icN_ge (x := q) (y := nc o) (tgt := 88) (pc2 := 51) hk dX6_mixedOrders_48 (by decide) rfl rfl (hO o (by omega)).2.2.2.2.1 (by omega) (by omega) (fun c48 => ?_) (fun c48 => ?_)
            · obtain rfl : q = nc o := by omega
              refine aw_iinc1 (pc2 := 91) hk dX6_mixedOrders_88 rfl rfl (by decide) ?_
              show AW K Q _ _ 91 [_, _, _, _, _, _, _, _, _] _ _ _
              refine aw_goto (tgt := 5) hk dX6_mixedOrders_91 (by decide) ?_
              refine aw_fg 6 ?_
              refine aw_fg 7 ?_
              refine aw_fg 8 ?_
              exact ih (o + 1) (by omega) (by omega)
            · have loop3 : ∀ (k3 j : Nat), j ≤ 14 → 14 + 1 ≤ j + k3 → AW K Q 0 0 54 [some (.ref 0), some (.long h0), none, some (.long (foldN (fun j h => mx h (tell S L (ca o q) j (S 0 7))) j (foldN (fun q h => foldN (fun j h => mx h (tell S L (ca o q) j (S 0 7))) 14 h) q (mx (foldN (fun o h => foldN (fun q h => foldN (fun j h => mx h (tell S L (ca o q) j (S 0 7))) 14 h) (nc o) (mx h (S (oa o) 0).toInt64)) o h0) (S (oa o) 0).toInt64)))), none, some (.int (nI o)), some (.ref (oa o)), some (.int (nI q)), some (.int (nI j))] [] n (H5 d I J S L R) := by
                intro k3
                induction k3 with
                | zero => intro j  hij hnj; omega
                | succ k3 ih3 =>
                  intro j  hij hnj
                  refine aw_iload (pc2 := 56) hk dX6_mixedOrders_54 rfl rfl ?_
                  refine aw_bipush (v := 14) (pc2 := 58) hk dX6_mixedOrders_56 rfl (by decide) ?_
                  refine aw_icN_ge (y := 14) (tgt := 82) (pc2 := 61) hk dX6_mixedOrders_58 (by decide) rfl rfl rfl (by omega) (by omega) (fun c58 => ?_) (fun c58 => ?_)
                  · obtain rfl : j = 14 := by omega
                    refine aw_iinc1 (pc2 := 85) hk dX6_mixedOrders_82 rfl rfl (by decide) ?_
                    show AW K Q _ _ 85 [_, _, _, _, _, _, _, _, _] _ _ _
                    refine aw_goto (tgt := 41) hk dX6_mixedOrders_85 (by decide) ?_
                    refine aw_fg 8 ?_
                    exact ih2 (q + 1) (by omega) (by omega)
                  · refine aw_lload_n (pc2 := 62) hk dX6_mixedOrders_61 rfl rfl ?_
                    refine aw_aload_n (pc2 := 63) hk dX6_mixedOrders_62 rfl rfl ?_
                    refine aw_iload (pc2 := 65) hk dX6_mixedOrders_63 rfl rfl ?_
                    refine aw_iload (pc2 := 67) hk dX6_mixedOrders_65 rfl rfl ?_
                    refine aw_iload (pc2 := 69) hk dX6_mixedOrders_67 rfl rfl ?_
                    refine aw_cV (rm2 := rmX6_told) (pc2 := 72) hk veX6_told dX6_mixedOrders_69 rfl ml_X6_367 ⟨(Nat.le_of_ble_eq_true rfl), (Nat.le_of_ble_eq_true rfl)⟩ [_, _, _] rfl rfl (Nat.le_of_ble_eq_true rfl) (Nat.le_of_ble_eq_true rfl) (Nat.le_of_ble_eq_true rfl) (o_X6 rfl) (t_told hB hO (fun h9 => absurd ⟨show o < oc by omega, show q < nc o by omega⟩ (h9 o q rfl rfl)) (fun o2 q2 h9 h8 h7 h6 h5 => absurd (show j < 14 by omega) (h5 j rfl)) (fun o2 q2 j2 h9 h8 h7 h6 h5 h4 => ?_))
                    obtain rfl : o = o2 := (nI_eq (by omega) (by omega)).mp h9
                    obtain rfl : q = q2 := (nI_eq (by omega) (by omega)).mp h8
                    obtain rfl : j = j2 := (nI_eq (by omega) (by omega)).mp h5
                    refine aw_cS (rm2 := rmX6_mixed) (pc2 := 75) hk seX6_mixed dX6_mixedOrders_72 rfl ml_X6_339 ⟨(Nat.le_of_ble_eq_true rfl), (Nat.le_of_ble_eq_true rfl)⟩ [_, _] rfl rfl (Nat.le_of_ble_eq_true rfl) (Nat.le_of_ble_eq_true rfl) (Nat.le_of_ble_eq_true rfl) (t_mixed ?_)
                    refine aw_lstore_n (pc2 := 76) hk dX6_mixedOrders_75 rfl (by decide) ?_
                    show AW K Q _ _ 76 [_, _, _, _, _, _, _, _, _] _ _ _
                    refine aw_iinc1 (pc2 := 79) hk dX6_mixedOrders_76 rfl rfl (by decide) ?_
                    show AW K Q _ _ 79 [_, _, _, _, _, _, _, _, _] _ _ _
                    refine aw_goto (tgt := 54) hk dX6_mixedOrders_79 (by decide) ?_
                    exact ih3 (j + 1) (by omega) (by omega)
              refine aw_iconst (v := 0) (pc2 := 52) hk dX6_mixedOrders_51 rfl (by decide) ?_
              refine aw_istore (pc2 := 54) hk dX6_mixedOrders_52 rfl (by decide) ?_
              show AW K Q _ _ 54 [_, _, _, _, _, _, _, _, _] _ _ _
              exact loop3 15 0 (by omega) (by omega)
        refine aw_iconst (v := 0) (pc2 := 39) hk dX6_mixedOrders_38 rfl (by decide) ?_
        refine aw_istore (pc2 := 41) hk dX6_mixedOrders_39 rfl (by decide) ?_
        show AW K Q _ _ 41 [_, _, _, _, _, _, _, _, _] _ _ _
        exact loop2 (nc o + 1) 0 (by omega) (by omega)
  refine aw_lload_n (pc2 := 1) hk dX6_mixedOrders_0 rfl rfl ?_
  refine aw_lstore_n (pc2 := 2) hk dX6_mixedOrders_1 rfl (by decide) ?_
  show AW K Q _ _ 2 [_, _, _, _, _, _, _, _, _] _ _ _
  refine aw_iconst (v := 0) (pc2 := 3) hk dX6_mixedOrders_2 rfl (by decide) ?_
  refine aw_istore (pc2 := 5) hk dX6_mixedOrders_3 rfl (by decide) ?_
  show AW K Q _ _ 5 [_, _, _, _, _, _, _, _, _] _ _ _
  exact loop (oc + 1) 0 (by omega) (by omega)
def dgC (I S : M2) (w g fc : Nat) : Int64 := foldN (fun f h => foldN (fun r h => mx (mx h (I (14 + 4 * f + 1) r).toInt64) (I (14 + 4 * f + 2) r).toInt64) (S (14 + 4 * f) 1).toNatClampNeg (mx h (S (14 + 4 * f) 0).toInt64)) fc (foldN (fun y h => foldN (fun x h => foldN (fun k h => mx h (lok I (16 * y + x) k).toInt64) 5 h) w h) g (mx (mx 127 (S 1 0).toInt64) (S 1 1).toInt64))
def dgO (S : M2) (L : J2) (oc : Nat) (oa nc : Nat → Nat) (ca : Nat → Nat → Nat) (h0 : Int64) : Int64 := foldN (fun o h => foldN (fun q h => foldN (fun j h => mx h (tell S L (ca o q) j (S 0 7))) 14 h) (nc o) (mx h (S (oa o) 0).toInt64)) oc h0
def dgR (I : M2) (a : Nat) (h0 : Int64) : Int64 := foldN (fun k h => mx h (I a k).toInt64) 5 h0
def dgE (I S : M2) (oc : Nat) (nc : Nat → Nat) (ca : Nat → Nat → Nat) (h0 : Int64) : Int64 := foldN (fun k h => mx h (cnt8 I S oc nc ca (k + 5)).toInt64) 3 h0
set_option maxHeartbeats 800000 in
set_option maxRecDepth 100000 in
theorem t_digest {n : Nat} {d : D2} {I : M2} {J : J2} {S : M2} {L : J2} {R : R2} {Q : QT} {w g fc oc uc td : Nat} (hB : CB S R w g fc oc uc td) {oa nc : Nat → Nat} {ca : Nat → Nat → Nat} (hO : OrdB d S R oc oa nc ca) (hrc : ∀ j, j < fc → ∃ rc, rc ≤ 4 ∧ S (14 + 4 * j) 1 = nI rc) (hq : Q (some (.long (dgE I S oc nc ca (dgR I 76 (dgO S L oc oa nc ca (dgC I S w g fc)))))) n (H5 d I J S L R)) : Calls yX6_digest cX6_digest 4 (some .long) rmX6_digest [.ref 0] n (H5 d I J S L R) Q := by
  refine Calls.of (by decide) (Nat.le_of_ble_eq_true rfl) ?_
  intro K hk
  show AW K Q 0 0 0 [some (.ref 0), none, none, none] [] n (H5 d I J S L R)
  obtain ⟨hw, hg, hw1, hw6, hg1, hg6, hfc, hfc2, hoc, hoc6, huc, huc5, htd, htd4, hR13, hR62⟩ := id hB
  have hq : Q (some (.long (foldN (fun k h => mx h (cnt8 I S oc nc ca (k + 5)).toInt64) 3 (dgR I 76 (dgO S L oc oa nc ca (dgC I S w g fc)))))) n (H5 d I J S L R) := hq
  have loop2 : ∀ (h1 : Int64), Q (some (.long (foldN (fun k h => mx h (cnt8 I S oc nc ca (k + 5)).toInt64) 3 h1))) n (H5 d I J S L R) → ∀ (k2 z : Nat) (V : Int64), 5 ≤ z → z ≤ 8 → 8 + 1 ≤ z + k2 → V = foldN (fun k h => mx h (cnt8 I S oc nc ca (k + 5)).toInt64) (z - 5) h1 → AW K Q 0 0 75 [some (.ref 0), some (.long V), none, some (.int (nI z))] [] n (H5 d I J S L R) := by
    intro h1 hq k2
    induction k2 with
    | zero => intro z V h1 h2 h3; omega
    | succ k2 ih2 =>
      intro z V hz5 hiz hnz hV
      refine aw_iload_n (pc2 := 76) hk dX6_digest_75 rfl rfl ?_
      refine aw_bipush (v := 8) (pc2 := 78) hk dX6_digest_76 rfl (by decide) ?_
      refine aw_icN_ge (y := 8) (tgt := 98) (pc2 := 81) hk dX6_digest_78 (by decide) rfl rfl rfl (by omega) (by omega) (fun c78 => ?_) (fun c78 => ?_)
      · obtain rfl : z = 8 := by omega
        subst hV
        refine aw_lload_n (pc2 := 99) hk dX6_digest_98 rfl rfl ?_
        refine aw_lret hk dX6_digest_99 (Nat.le_of_ble_eq_true rfl) (Nat.le_of_ble_eq_true rfl) hq
      · refine aw_lload_n (pc2 := 82) hk dX6_digest_81 rfl rfl ?_
        refine aw_aload_n (pc2 := 83) hk dX6_digest_82 rfl rfl ?_
        refine aw_iload_n (pc2 := 84) hk dX6_digest_83 rfl rfl ?_
        refine aw_cV (rm2 := rmX6_count) (pc2 := 87) hk veX6_count dX6_digest_84 rfl ml_X6_355 ⟨(Nat.le_of_ble_eq_true rfl), (Nat.le_of_ble_eq_true rfl)⟩ [_] rfl rfl (Nat.le_of_ble_eq_true rfl) (Nat.le_of_ble_eq_true rfl) (Nat.le_of_ble_eq_true rfl) (o_X6 rfl) (t_count hB hO (fun h9 => absurd (show z < 8 by omega) (h9 z rfl)) (fun k h9 h8 => ?_))
        obtain rfl : z = k := (nI_eq (by omega) (by omega)).mp h9
        refine aw_i2l (pc2 := 88) hk dX6_digest_87 rfl ?_
        refine aw_cS (rm2 := rmX6_mixed) (pc2 := 91) hk seX6_mixed dX6_digest_88 rfl ml_X6_339 ⟨(Nat.le_of_ble_eq_true rfl), (Nat.le_of_ble_eq_true rfl)⟩ [_, _] rfl rfl (Nat.le_of_ble_eq_true rfl) (Nat.le_of_ble_eq_true rfl) (Nat.le_of_ble_eq_true rfl) (t_mixed ?_)
        refine aw_lstore_n (pc2 := 92) hk dX6_digest_91 rfl (by decide) ?_
        show AW K Q _ _ 92 [_, _, _, _] _ _ _
        refine aw_iinc1 (pc2 := 95) hk dX6_digest_92 rfl rfl (by decide) ?_
        show AW K Q _ _ 95 [_, _, _, _] _ _ _
        refine aw_goto (tgt := 75) hk dX6_digest_95 (by decide) ?_
        refine ih2 (z + 1) _ (by omega) (by omega) (by omega) ?_
        rw [hV, show z + 1 - 5 = (z - 5) + 1 by omega, foldN_s, show z - 5 + 5 = z by omega]
  have loop : ∀ (h1 : Int64), Q (some (.long (foldN (fun k h => mx h (cnt8 I S oc nc ca (k + 5)).toInt64) 3 (dgR I 76 h1)))) n (H5 d I J S L R) → ∀ (k i : Nat) (V : Int64), i ≤ 5 → 5 + 1 ≤ i + k → V = foldN (fun k h => mx h (I 76 k).toInt64) i h1 → AW K Q 0 0 50 [some (.ref 0), some (.long V), none, some (.int (nI i))] [] n (H5 d I J S L R) := by
    intro h1 hq k
    induction k with
    | zero => intro i V h1 h2; omega
    | succ k ih =>
      intro i V hi hn hV
      refine aw_iload_n (pc2 := 51) hk dX6_digest_50 rfl rfl ?_
      refine aw_iconst (v := 5) (pc2 := 52) hk dX6_digest_51 rfl (by decide) ?_
      refine aw_icN_ge (y := 5) (tgt := 73) (pc2 := 55) hk dX6_digest_52 (by decide) rfl rfl rfl (by omega) (by omega) (fun c52 => ?_) (fun c52 => ?_)
      · obtain rfl : i = 5 := by omega
        have hV2 : V = dgR I 76 h1 := hV
        refine aw_iconst (v := 5) (pc2 := 74) hk dX6_digest_73 rfl (by decide) ?_
        refine aw_istore_n (pc2 := 75) hk dX6_digest_74 rfl (by decide) ?_
        show AW K Q _ _ 75 [_, _, _, _] _ _ _
        exact loop2 (dgR I 76 h1) hq 4 5 V (by omega) (by omega) (by omega) (by rw [hV2]; exact (foldN_0 _ _).symm)
      · refine aw_lload_n (pc2 := 56) hk dX6_digest_55 rfl rfl ?_
        refine aw_aload_n (pc2 := 57) hk dX6_digest_56 rfl rfl ?_
        refine aw_get (pc2 := 60) hk ckX6 6 dX6_digest_57 rfl fl_X6_41 (by decide) (o_X6 rfl) rfl ?_
        refine aw_iload_n (pc2 := 61) hk dX6_digest_60 rfl rfl ?_
        refine h_iald (pc2 := 62) hk dX6_digest_61 rfl rfl rfl (by omega) (by decide) ?_
        refine aw_i2l (pc2 := 63) hk dX6_digest_62 rfl ?_
        refine aw_cS (rm2 := rmX6_mixed) (pc2 := 66) hk seX6_mixed dX6_digest_63 rfl ml_X6_339 ⟨(Nat.le_of_ble_eq_true rfl), (Nat.le_of_ble_eq_true rfl)⟩ [_, _] rfl rfl (Nat.le_of_ble_eq_true rfl) (Nat.le_of_ble_eq_true rfl) (Nat.le_of_ble_eq_true rfl) (t_mixed ?_)
        refine aw_lstore_n (pc2 := 67) hk dX6_digest_66 rfl (by decide) ?_
        show AW K Q _ _ 67 [_, _, _, _] _ _ _
        refine aw_iinc1 (pc2 := 70) hk dX6_digest_67 rfl rfl (by decide) ?_
        show AW K Q _ _ 70 [_, _, _, _] _ _ _
        refine aw_goto (tgt := 50) hk dX6_digest_70 (by decide) ?_
        exact ih (i + 1) _ (by omega) (by omega) (by rw [hV, foldN_s])
  refine aw_ldc2 (pc2 := 3) hk dX6_digest_0 rfl kl_X6_334 ?_
  refine aw_lstore_n (pc2 := 4) hk dX6_digest_3 rfl (by decide) ?_
  show AW K Q _ _ 4 [_, _, _, _] _ _ _
  refine aw_lload_n (pc2 := 5) hk dX6_digest_4 rfl rfl ?_
  refine aw_aload_n (pc2 := 6) hk dX6_digest_5 rfl rfl ?_
  refine aw_get (pc2 := 9) hk ckX6 0 dX6_digest_6 rfl fl_X6_12 (by decide) (o_X6 rfl) rfl ?_
  refine aw_get (pc2 := 12) hk ckX2 0 dX6_digest_9 rfl fl_X6_336 (by decide) (o_X2 rfl) rfl ?_
  refine aw_i2l (pc2 := 13) hk dX6_digest_12 rfl ?_
  refine aw_cS (rm2 := rmX6_mixed) (pc2 := 16) hk seX6_mixed dX6_digest_13 rfl ml_X6_339 ⟨(Nat.le_of_ble_eq_true rfl), (Nat.le_of_ble_eq_true rfl)⟩ [_, _] rfl rfl (Nat.le_of_ble_eq_true rfl) (Nat.le_of_ble_eq_true rfl) (Nat.le_of_ble_eq_true rfl) (t_mixed ?_)
  refine aw_lstore_n (pc2 := 17) hk dX6_digest_16 rfl (by decide) ?_
  show AW K Q _ _ 17 [_, _, _, _] _ _ _
  refine aw_lload_n (pc2 := 18) hk dX6_digest_17 rfl rfl ?_
  refine aw_aload_n (pc2 := 19) hk dX6_digest_18 rfl rfl ?_
  refine aw_get (pc2 := 22) hk ckX6 0 dX6_digest_19 rfl fl_X6_12 (by decide) (o_X6 rfl) rfl ?_
  refine aw_get (pc2 := 25) hk ckX2 1 dX6_digest_22 rfl fl_X6_342 (by decide) (o_X2 rfl) rfl ?_
  refine aw_i2l (pc2 := 26) hk dX6_digest_25 rfl ?_
  refine aw_cS (rm2 := rmX6_mixed) (pc2 := 29) hk seX6_mixed dX6_digest_26 rfl ml_X6_339 ⟨(Nat.le_of_ble_eq_true rfl), (Nat.le_of_ble_eq_true rfl)⟩ [_, _] rfl rfl (Nat.le_of_ble_eq_true rfl) (Nat.le_of_ble_eq_true rfl) (Nat.le_of_ble_eq_true rfl) (t_mixed ?_)
  refine aw_lstore_n (pc2 := 30) hk dX6_digest_29 rfl (by decide) ?_
  show AW K Q _ _ 30 [_, _, _, _] _ _ _
  refine aw_aload_n (pc2 := 31) hk dX6_digest_30 rfl rfl ?_
  refine aw_lload_n (pc2 := 32) hk dX6_digest_31 rfl rfl ?_
  refine aw_cV (rm2 := rmX6_mixedCells) (pc2 := 35) hk veX6_mixedCells dX6_digest_32 rfl ml_X6_345 ⟨(Nat.le_of_ble_eq_true rfl), (Nat.le_of_ble_eq_true rfl)⟩ [_] rfl rfl (Nat.le_of_ble_eq_true rfl) (Nat.le_of_ble_eq_true rfl) (Nat.le_of_ble_eq_true rfl) (o_X6 rfl) (t_mixedCells hB ?_)
  refine aw_lstore_n (pc2 := 36) hk dX6_digest_35 rfl (by decide) ?_
  show AW K Q _ _ 36 [_, _, _, _] _ _ _
  refine aw_aload_n (pc2 := 37) hk dX6_digest_36 rfl rfl ?_
  refine aw_lload_n (pc2 := 38) hk dX6_digest_37 rfl rfl ?_
  refine aw_cV (rm2 := rmX6_mixedFields) (pc2 := 41) hk veX6_mixedFields dX6_digest_38 rfl ml_X6_349 ⟨(Nat.le_of_ble_eq_true rfl), (Nat.le_of_ble_eq_true rfl)⟩ [_] rfl rfl (Nat.le_of_ble_eq_true rfl) (Nat.le_of_ble_eq_true rfl) (Nat.le_of_ble_eq_true rfl) (o_X6 rfl) (t_mixedFields hB hrc ?_)
  refine aw_lstore_n (pc2 := 42) hk dX6_digest_41 rfl (by decide) ?_
  show AW K Q _ _ 42 [_, _, _, _] _ _ _
  refine aw_aload_n (pc2 := 43) hk dX6_digest_42 rfl rfl ?_
  refine aw_lload_n (pc2 := 44) hk dX6_digest_43 rfl rfl ?_
  refine aw_cV (rm2 := rmX6_mixedOrders) (pc2 := 47) hk veX6_mixedOrders dX6_digest_44 rfl ml_X6_352 ⟨(Nat.le_of_ble_eq_true rfl), (Nat.le_of_ble_eq_true rfl)⟩ [_] rfl rfl (Nat.le_of_ble_eq_true rfl) (Nat.le_of_ble_eq_true rfl) (Nat.le_of_ble_eq_true rfl) (o_X6 rfl) (t_mixedOrders hB hO ?_)
  refine aw_lstore_n (pc2 := 48) hk dX6_digest_47 rfl (by decide) ?_
  show AW K Q _ _ 48 [_, _, _, _] _ _ _
  refine aw_iconst (v := 0) (pc2 := 49) hk dX6_digest_48 rfl (by decide) ?_
  refine aw_istore_n (pc2 := 50) hk dX6_digest_49 rfl (by decide) ?_
  show AW K Q _ _ 50 [_, _, _, _] _ _ _
  refine aw_lv [some (.ref 0), some (.long (dgO S L oc oa nc ca (dgC I S w g fc))), none, some (.int (nI 0))] rfl ?_
  exact loop (dgO S L oc oa nc ca (dgC I S w g fc)) hq 6 0 _ (by omega) (by omega) (foldN_0 _ _).symm
set_option maxHeartbeats 800000 in
set_option maxRecDepth 100000 in
theorem t_lossBefore {n : Nat} {d : D2} {I : M2} {J : J2} {S : M2} {L : J2} {R : R2} {Q : QT} {w g fc oc uc td : Nat} (hB : CB S R w g fc oc uc td) {oa nc : Nat → Nat} {ca : Nat → Nat → Nat} (hO : OrdB d S R oc oa nc ca) {f : Int32} (h0 : 0 < oc) (hq : Q (some (.long (sL (fun o => sL (fun k => if S (ca o k) 0 = f then L (ca o k) 7 else 0) (nc o)) (oc - 1)))) n (H5 d I J S L R)) : Calls yX6_lossBefore cX6_lossBefore 6 (some .long) rmX6_lossBefore [.ref 0, .int f] n (H5 d I J S L R) Q := by
  refine Calls.of (by decide) (Nat.le_of_ble_eq_true rfl) ?_
  intro K hk
  show AW K Q 0 0 0 [some (.ref 0), some (.int f), none, none, none, none] [] n (H5 d I J S L R)
  obtain ⟨hw, hg, hw1, hw6, hg1, hg6, hfc, hfc2, hoc, hoc6, huc, huc5, htd, htd4, hR13, hR62⟩ := id hB
  have loop : ∀ (k i : Nat), i ≤ (oc - 1) → (oc - 1) + 1 ≤ i + k → AW K Q 0 0 5 [some (.ref 0), some (.int f), some (.long (sL (fun o => sL (fun k => if S (ca o k) 0 = f then L (ca o k) 7 else 0) (nc o)) i)), none, some (.int (nI i)), none] [] n (H5 d I J S L R) := by
    intro k
    induction k with
    | zero => intro i  hi hn; omega
    | succ k ih =>
      intro i  hi hn
      refine aw_iload (pc2 := 7) hk dX6_lossBefore_5 rfl rfl ?_
      refine aw_aload_n (pc2 := 8) hk dX6_lossBefore_7 rfl rfl ?_
      refine aw_get (pc2 := 11) hk ckX6 9 dX6_lossBefore_8 rfl fl_X6_100 (by decide) (o_X6 rfl) rfl ?_
      refine aw_iconst (v := 1) (pc2 := 12) hk dX6_lossBefore_11 rfl (by decide) ?_
      refine aw_isub (pc2 := 13) hk dX6_lossBefore_12 rfl ?_
      refine aw_top (nI (oc - 1)) (by rw [hoc]; exact pk_sub (a := oc) (b := 1) (by omega)) ?_
      refine aw_icN_ge (x := i) (y := oc - 1) (tgt := 44) (pc2 := 16) hk dX6_lossBefore_13 (by decide) rfl rfl rfl (by omega) (by omega) (fun c13 => ?_) (fun c13 => ?_)
      · obtain rfl : i = (oc - 1) := by omega
        refine aw_lload_n (pc2 := 45) hk dX6_lossBefore_44 rfl rfl ?_
        refine aw_lret hk dX6_lossBefore_45 (Nat.le_of_ble_eq_true rfl) (Nat.le_of_ble_eq_true rfl) hq
      · refine aw_aload_n (pc2 := 17) hk dX6_lossBefore_16 rfl rfl ?_
        refine aw_iload (pc2 := 19) hk dX6_lossBefore_17 rfl rfl ?_
        refine aw_cV (rm2 := rmX6_orderAt) (pc2 := 22) hk veX6_orderAt dX6_lossBefore_19 rfl ml_X6_199 ⟨(Nat.le_of_ble_eq_true rfl), (Nat.le_of_ble_eq_true rfl)⟩ [_] rfl rfl (Nat.le_of_ble_eq_true rfl) (Nat.le_of_ble_eq_true rfl) (Nat.le_of_ble_eq_true rfl) (o_X6 rfl) (t_orderAt hB hO rfl (by omega) ?_)
        refine aw_astore (pc2 := 24) hk dX6_lossBefore_22 rfl (by decide) ?_
        show AW K Q _ _ 24 [_, _, _, _, _, _] _ _ _
        refine aw_aload (pc2 := 26) hk dX6_lossBefore_24 rfl rfl ?_
        refine aw_ifnull_r (pc2 := 29) hk dX6_lossBefore_26 rfl ?_
        refine aw_lload_n (pc2 := 30) hk dX6_lossBefore_29 rfl rfl ?_
        refine aw_aload (pc2 := 32) hk dX6_lossBefore_30 rfl rfl ?_
        refine aw_iload_n (pc2 := 33) hk dX6_lossBefore_32 rfl rfl ?_
        refine aw_cV (rm2 := rmX3_lossOf) (pc2 := 36) hk veX3_lossOf dX6_lossBefore_33 rfl ml_X6_283 ⟨(Nat.le_of_ble_eq_true rfl), (Nat.le_of_ble_eq_true rfl)⟩ [_] rfl rfl (Nat.le_of_ble_eq_true rfl) (Nat.le_of_ble_eq_true rfl) (Nat.le_of_ble_eq_true rfl) (o_X3 (hO i (by omega)).2.1) (t_lossOf (hO i (by omega)).2 ?_)
        refine aw_ladd (pc2 := 37) hk dX6_lossBefore_36 rfl ?_
        refine aw_lstore_n (pc2 := 38) hk dX6_lossBefore_37 rfl (by decide) ?_
        show AW K Q _ _ 38 [_, _, _, _, _, _] _ _ _
        refine aw_iinc1 (pc2 := 41) hk dX6_lossBefore_38 rfl rfl (by decide) ?_
        show AW K Q _ _ 41 [_, _, _, _, _, _] _ _ _
        refine aw_goto (tgt := 5) hk dX6_lossBefore_41 (by decide) ?_
        refine aw_fg 5 ?_
        exact ih (i + 1) (by omega) (by omega)
  refine aw_lconst (v := 0) (pc2 := 1) hk dX6_lossBefore_0 rfl (by decide) ?_
  refine aw_lstore_n (pc2 := 2) hk dX6_lossBefore_1 rfl (by decide) ?_
  show AW K Q _ _ 2 [_, _, _, _, _, _] _ _ _
  refine aw_iconst (v := 0) (pc2 := 3) hk dX6_lossBefore_2 rfl (by decide) ?_
  refine aw_istore (pc2 := 5) hk dX6_lossBefore_3 rfl (by decide) ?_
  show AW K Q _ _ 5 [_, _, _, _, _, _] _ _ _
  exact loop oc 0 (by omega) (by omega)
/-- a field's debts with what they got of a case added again -/
def owe (I : M2) (J : J2) (f b rc : Nat) : J2 := rowU J (14 + 4 * f + 3) rc (fun r => if I (14 + 4 * f + 1) r = 1 then J (14 + 4 * f + 3) r + J (b + 1) r else J (14 + 4 * f + 3) r)
set_option maxHeartbeats 800000 in
set_option maxRecDepth 100000 in
theorem t_owe {n : Nat} {d : D2} {I : M2} {J : J2} {S : M2} {L : J2} {R : R2} {Q : QT} {w g fc oc uc td : Nat} (hB : CB S R w g fc oc uc td) {b t f rc : Nat} (hb : kd d b = (10, t)) (hb1 : kd d (b + 1) = (3, 4)) (hf2 : f < fc) (hf : S b 0 = nI f) (hrc4 : rc ≤ 4) (hrc : S (14 + 4 * f) 1 = nI rc) (hq : Q none n (H5 d I (owe I J f b rc) S L R)) : Calls yX6_oweDebtsAgain cX6_oweDebtsAgain 4 none rmX6_oweDebtsAgain [.ref 0, .ref b] n (H5 d I J S L R) Q := by
  refine Calls.of (by decide) (Nat.le_of_ble_eq_true rfl) ?_
  intro K hk
  show AW K Q 0 0 0 [some (.ref 0), some (.ref b), none, none] [] n (H5 d I J S L R)
  obtain ⟨hw, hg, hw1, hw6, hg1, hg6, hfc, hfc2, hoc, hoc6, huc, huc5, htd, htd4, hR13, hR62⟩ := id hB
  have loop : ∀ (k i : Nat), i ≤ rc → rc + 1 ≤ i + k → AW K Q 0 0 24 [some (.ref 0), some (.ref b), some (.ref (14 + 4 * f)), some (.int (nI i))] [] n (H5 d I (rowU J (14 + 4 * f + 3) i (fun r => if I (14 + 4 * f + 1) r = 1 then J (14 + 4 * f + 3) r + J (b + 1) r else J (14 + 4 * f + 3) r)) S L R) := by
    intro k
    induction k with
    | zero => intro i  hi hn; omega
    | succ k ih =>
      intro i  hi hn
      refine aw_iload_n (pc2 := 25) hk dX6_oweDebtsAgain_24 rfl rfl ?_
      refine aw_aload_n (pc2 := 26) hk dX6_oweDebtsAgain_25 rfl rfl ?_
      refine aw_get (pc2 := 29) hk ckX1 1 dX6_oweDebtsAgain_26 rfl fl_X6_286 (by decide) (o_X1 (kdF d (show f < 12 by omega)).1) rfl ?_
      refine aw_icN_ge (x := i) (y := rc) (tgt := 68) (pc2 := 32) hk dX6_oweDebtsAgain_29 (by decide) rfl rfl hrc (by omega) (by omega) (fun c29 => ?_) (fun c29 => ?_)
      · obtain rfl : i = rc := by omega
        refine aw_vret hk dX6_oweDebtsAgain_68 (Nat.le_of_ble_eq_true rfl) (Nat.le_of_ble_eq_true rfl) hq
      · refine aw_iload_n (pc2 := 33) hk dX6_oweDebtsAgain_32 rfl rfl ?_
        refine aw_iconst (v := 4) (pc2 := 34) hk dX6_oweDebtsAgain_33 rfl (by decide) ?_
        refine aw_icN_ge (x := i) (y := 4) (tgt := 68) (pc2 := 37) hk dX6_oweDebtsAgain_34 (by decide) rfl rfl rfl (by omega) (by omega) (fun c34 => absurd c34 (by omega)) (fun c34 => ?_)
        refine aw_aload_n (pc2 := 38) hk dX6_oweDebtsAgain_37 rfl rfl ?_
        refine aw_get (pc2 := 41) hk ckX1 2 dX6_oweDebtsAgain_38 rfl fl_X6_289 (by decide) (o_X1 (kdF d (show f < 12 by omega)).1) rfl ?_
        refine aw_iload_n (pc2 := 42) hk dX6_oweDebtsAgain_41 rfl rfl ?_
        refine h_iald (pc2 := 43) hk dX6_oweDebtsAgain_42 rfl (kdF d (show f < 12 by omega)).2.1 rfl (by omega) (by decide) ?_
        refine aw_iconst (v := 1) (pc2 := 44) hk dX6_oweDebtsAgain_43 rfl (by decide) ?_
        refine aw_icmp_ne (tgt := 62) (pc2 := 47) hk dX6_oweDebtsAgain_44 (by decide) rfl (fun c44 => ?_) (fun c44 => ?_)
        · first
            | refine aw_Jm (rowU J (14 + 4 * f + 3) (i + 1) (fun r => if I (14 + 4 * f + 1) r = 1 then J (14 + 4 * f + 3) r + J (b + 1) r else J (14 + 4 * f + 3) r)) (rowU_st J (14 + 4 * f + 3) i _ rfl) ?_
            | refine aw_Jm (rowU J (14 + 4 * f + 3) (i + 1) (fun r => if I (14 + 4 * f + 1) r = 1 then J (14 + 4 * f + 3) r + J (b + 1) r else J (14 + 4 * f + 3) r)) (rowU_sk J (14 + 4 * f + 3) i _ (if_neg c44).symm) ?_
          refine aw_iinc1 (pc2 := 65) hk dX6_oweDebtsAgain_62 rfl rfl (by decide) ?_
          show AW K Q _ _ 65 [_, _, _, _] _ _ _
          refine aw_goto (tgt := 24) hk dX6_oweDebtsAgain_65 (by decide) ?_
          exact ih (i + 1) (by omega) (by omega)
        · refine aw_aload_n (pc2 := 48) hk dX6_oweDebtsAgain_47 rfl rfl ?_
          refine aw_get (pc2 := 51) hk ckX1 4 dX6_oweDebtsAgain_48 rfl fl_X6_292 (by decide) (o_X1 (kdF d (show f < 12 by omega)).1) rfl ?_
          refine aw_iload_n (pc2 := 52) hk dX6_oweDebtsAgain_51 rfl rfl ?_
          refine aw_dup2_ir (pc2 := 53) hk dX6_oweDebtsAgain_52 rfl ?_
          refine h_lald (pc2 := 54) hk dX6_oweDebtsAgain_53 rfl (kdF d (show f < 12 by omega)).2.2.2 rfl (by omega) (by decide) ?_
          refine aw_aload_n (pc2 := 55) hk dX6_oweDebtsAgain_54 rfl rfl ?_
          refine aw_get (pc2 := 58) hk ckX0 15 dX6_oweDebtsAgain_55 rfl fl_X6_299 (by decide) (o_X0 hb) rfl ?_
          refine aw_iload_n (pc2 := 59) hk dX6_oweDebtsAgain_58 rfl rfl ?_
          refine h_lald (pc2 := 60) hk dX6_oweDebtsAgain_59 rfl hb1 rfl (by omega) (by decide) ?_
          refine aw_ladd (pc2 := 61) hk dX6_oweDebtsAgain_60 rfl ?_
          have hb9 : b + 1 ≠ 14 + 4 * f + 3 := by have := kd_ge hb (Or.inl rfl); omega
          refine aw_topL ((fun r => if I (14 + 4 * f + 1) r = 1 then J (14 + 4 * f + 3) r + J (b + 1) r else J (14 + 4 * f + 3) r) i) (by rw [rowU_out _ _ _ (by omega), rowU_ne _ _ _ hb9]; exact (if_pos c44).symm) ?_
          refine h_last (pc2 := 62) hk dX6_oweDebtsAgain_61 rfl (kdF d (show f < 12 by omega)).2.2.2 rfl (by omega) (by decide) ?_
          first
            | refine aw_Jm (rowU J (14 + 4 * f + 3) (i + 1) (fun r => if I (14 + 4 * f + 1) r = 1 then J (14 + 4 * f + 3) r + J (b + 1) r else J (14 + 4 * f + 3) r)) (rowU_st J (14 + 4 * f + 3) i _ rfl) ?_
            | refine aw_Jm (rowU J (14 + 4 * f + 3) (i + 1) (fun r => if I (14 + 4 * f + 1) r = 1 then J (14 + 4 * f + 3) r + J (b + 1) r else J (14 + 4 * f + 3) r)) (rowU_sk J (14 + 4 * f + 3) i _ (if_neg c44).symm) ?_
          refine aw_iinc1 (pc2 := 65) hk dX6_oweDebtsAgain_62 rfl rfl (by decide) ?_
          show AW K Q _ _ 65 [_, _, _, _] _ _ _
          refine aw_goto (tgt := 24) hk dX6_oweDebtsAgain_65 (by decide) ?_
          exact ih (i + 1) (by omega) (by omega)
  refine aw_aload_n (pc2 := 1) hk dX6_oweDebtsAgain_0 rfl rfl ?_
  refine aw_aload_n (pc2 := 2) hk dX6_oweDebtsAgain_1 rfl rfl ?_
  refine aw_get (pc2 := 5) hk ckX0 0 dX6_oweDebtsAgain_2 rfl fl_X6_212 (by decide) (o_X0 hb) rfl ?_
  refine aw_cV (rm2 := rmX6_isField) (pc2 := 8) hk veX6_isField dX6_oweDebtsAgain_5 rfl ml_X6_69 ⟨(Nat.le_of_ble_eq_true rfl), (Nat.le_of_ble_eq_true rfl)⟩ [_] rfl rfl (Nat.le_of_ble_eq_true rfl) (Nat.le_of_ble_eq_true rfl) (Nat.le_of_ble_eq_true rfl) (o_X6 rfl) (t_isField hB ?_)
  refine aw_if_ne (tgt := 12) (pc2 := 11) hk dX6_oweDebtsAgain_8 (by decide) rfl (fun c8 => ?_) (fun c8 => absurd c8 (fun e => bi_no e (by rw [hf, nI_toInt (by omega)]; omega)))
  refine aw_aload_n (pc2 := 13) hk dX6_oweDebtsAgain_12 rfl rfl ?_
  refine aw_get (pc2 := 16) hk ckX6 2 dX6_oweDebtsAgain_13 rfl fl_X6_25 (by decide) (o_X6 rfl) rfl ?_
  refine aw_aload_n (pc2 := 17) hk dX6_oweDebtsAgain_16 rfl rfl ?_
  refine aw_get (pc2 := 20) hk ckX0 0 dX6_oweDebtsAgain_17 rfl fl_X6_212 (by decide) (o_X0 hb) rfl ?_
  refine h_aald (pc2 := 21) hk dX6_oweDebtsAgain_20 rfl (Or.inl rfl) rfl hf (by omega) (by decide) (by rw [hR13 f (by omega)]) ?_
  refine aw_astore_n (pc2 := 22) hk dX6_oweDebtsAgain_21 rfl (by decide) ?_
  show AW K Q _ _ 22 [_, _, _, _] _ _ _
  refine aw_iconst (v := 0) (pc2 := 23) hk dX6_oweDebtsAgain_22 rfl (by decide) ?_
  refine aw_istore_n (pc2 := 24) hk dX6_oweDebtsAgain_23 rfl (by decide) ?_
  show AW K Q _ _ 24 [_, _, _, _] _ _ _
  refine aw_Jm (rowU J (14 + 4 * f + 3) 0 (fun r => if I (14 + 4 * f + 1) r = 1 then J (14 + 4 * f + 3) r + J (b + 1) r else J (14 + 4 * f + 3) r)) (rowU_0 _ _ _).symm ?_
  exact loop (rc + 1) 0 (by omega) (by omega)
/-- all cases of an order: their debts owed again -/
def oweA (I S : M2) (ca : Nat → Nat) : Nat → J2 → J2
  | 0, J => J
  | k + 1, J => owe I (oweA I S ca k J) (S (ca k) 0).toNatClampNeg (ca k) (S (14 + 4 * (S (ca k) 0).toNatClampNeg) 1).toNatClampNeg
set_option maxHeartbeats 800000 in
set_option maxRecDepth 100000 in
theorem t_undo {n : Nat} {d : D2} {I : M2} {J : J2} {S : M2} {L : J2} {R : R2} {Q : QT} {w g fc oc uc td : Nat} (hB : CB S R w g fc oc uc td) {oa nc : Nat → Nat} {ca : Nat → Nat → Nat} (hO : OrdB d S R oc oa nc ca) (hcf : ∀ o k, o < oc → k < nc o → ∃ f, f < fc ∧ S (ca o k) 0 = nI f) (hrc : ∀ j, j < fc → ∃ rc, rc ≤ 4 ∧ S (14 + 4 * j) 1 = nI rc) (hq1 : ¬ (0 < oc ∧ dn S nc ca (oc - 1) = true) → Q (some (.long (-103))) n (H5 d I J S L R)) (hq2 : (0 < oc ∧ dn S nc ca (oc - 1) = true) → Q (some (.long (sL (fun k => L (ca (oc - 1) k) 11 + L (ca (oc - 1) k) 13) (nc (oc - 1))))) n (H5 d (rowU I 6 256 (fun c => if I 6 c = nI (oc - 1) then -1 else I 6 c)) (oweA I S (ca (oc - 1)) (nc (oc - 1)) J) (u2 (u2 S 0 9 (nI (oc - 1))) 0 10 (nI (uc + 1))) L R)) : Calls yX6_undo cX6_undo 6 (some .long) rmX6_undo [.ref 0] n (H5 d I J S L R) Q := by
  refine Calls.of (by decide) (Nat.le_of_ble_eq_true rfl) ?_
  intro K hk
  show AW K Q 0 0 0 [some (.ref 0), none, none, none, none, none] [] n (H5 d I J S L R)
  obtain ⟨hw, hg, hw1, hw6, hg1, hg6, hfc, hfc2, hoc, hoc6, huc, huc5, htd, htd4, hR13, hR62⟩ := id hB
  by_cases h1 : 0 < oc
  · have hl := hO (oc - 1) (by omega)
    refine aw_aload_n (pc2 := 1) hk dX6_undo_0 rfl rfl ?_
    refine aw_cV (rm2 := rmX6_latestOrder) (pc2 := 4) hk veX6_latestOrder dX6_undo_1 rfl ml_X6_177 ⟨(Nat.le_of_ble_eq_true rfl), (Nat.le_of_ble_eq_true rfl)⟩ [] rfl rfl (Nat.le_of_ble_eq_true rfl) (Nat.le_of_ble_eq_true rfl) (Nat.le_of_ble_eq_true rfl) (o_X6 rfl) (t_latest hB hO h1 ?_)
    refine aw_astore_n (pc2 := 5) hk dX6_undo_4 rfl (by decide) ?_
    show AW K Q _ _ 5 [_, _, _, _, _, _] _ _ _
    refine aw_aload_n (pc2 := 6) hk dX6_undo_5 rfl rfl ?_
    refine aw_ifnull_r (pc2 := 9) hk dX6_undo_6 rfl ?_
    refine aw_aload_n (pc2 := 10) hk dX6_undo_9 rfl rfl ?_
    refine aw_cV (rm2 := rmX3_isDone) (pc2 := 13) hk veX3_isDone dX6_undo_10 rfl ml_X6_180 ⟨(Nat.le_of_ble_eq_true rfl), (Nat.le_of_ble_eq_true rfl)⟩ [] rfl rfl (Nat.le_of_ble_eq_true rfl) (Nat.le_of_ble_eq_true rfl) (Nat.le_of_ble_eq_true rfl) (o_X3 hl.2.1) (t_isDone hl.2 ?_)
    refine aw_if_ne (tgt := 20) (pc2 := 16) hk dX6_undo_13 (by decide) rfl (fun c13 => ?_) (fun c13 => ?_)
    · have hm12 := hl.2.2.2.1
      have loop : ∀ (k i : Nat), i ≤ nc (oc - 1) → nc (oc - 1) + 1 ≤ i + k → AW K Q 0 0 25 [some (.ref 0), some (.ref (oa (oc - 1))), some (.long (sL (fun k => L (ca (oc - 1) k) 11 + L (ca (oc - 1) k) 13) i)), none, some (.int (nI i)), none] [] n (H5 d I (oweA I S (ca (oc - 1)) i J) S L R) := by
        intro k
        induction k with
        | zero => intro i  hi hn; omega
        | succ k ih =>
          intro i  hi hn
          refine aw_iload (pc2 := 27) hk dX6_undo_25 rfl rfl ?_
          refine aw_aload_n (pc2 := 28) hk dX6_undo_27 rfl rfl ?_
          refine aw_get (pc2 := 31) hk ckX3 2 dX6_undo_28 rfl fl_X6_147 (by decide) (o_X3 hl.2.1) rfl ?_
          refine aw_icN_ge (x := i) (y := nc (oc - 1)) (tgt := 73) (pc2 := 34) hk dX6_undo_31 (by decide) rfl rfl hl.2.2.2.2.1 (by omega) (by omega) (fun c31 => ?_) (fun c31 => ?_)
          · have ei : i = nc (oc - 1) := by omega
            rw [ei]
            refine aw_aload_n (pc2 := 74) hk dX6_undo_73 rfl rfl ?_
            refine aw_dup_r (pc2 := 75) hk dX6_undo_74 rfl ?_
            refine aw_get (pc2 := 78) hk ckX6 9 dX6_undo_75 rfl fl_X6_100 (by decide) (o_X6 rfl) rfl ?_
            refine aw_iconst (v := 1) (pc2 := 79) hk dX6_undo_78 rfl (by decide) ?_
            refine aw_isub (pc2 := 80) hk dX6_undo_79 rfl ?_
            refine aw_top (nI (oc - 1)) (by rw [hoc]; exact pk_sub (a := oc) (b := 1) (by omega)) ?_
            refine aw_put (pc2 := 83) hk ckX6 9 dX6_undo_80 rfl fl_X6_100 (by decide) rfl (o_X6 rfl) (fun _ => rfl) (fun _ => rfl) (Nat.le_of_ble_eq_true rfl) ?_
            rw [p_X6_9 rfl]
            refine aw_aload_n (pc2 := 84) hk dX6_undo_83 rfl rfl ?_
            refine aw_dup_r (pc2 := 85) hk dX6_undo_84 rfl ?_
            refine aw_get (pc2 := 88) hk ckX6 10 dX6_undo_85 rfl fl_X6_103 (by decide) (o_X6 rfl) rfl ?_
            refine aw_iconst (v := 1) (pc2 := 89) hk dX6_undo_88 rfl (by decide) ?_
            refine aw_iadd (pc2 := 90) hk dX6_undo_89 rfl ?_
            refine aw_top (nI (uc + 1)) (by rw [u2_j _ _ _ _ (by decide), huc]; exact nI_1 uc) ?_
            refine aw_put (pc2 := 93) hk ckX6 10 dX6_undo_90 rfl fl_X6_103 (by decide) rfl (o_X6 rfl) (fun _ => rfl) (fun _ => rfl) (Nat.le_of_ble_eq_true rfl) ?_
            rw [p_X6_10 rfl]
            refine aw_aload_n (pc2 := 94) hk dX6_undo_93 rfl rfl ?_
            refine aw_get (pc2 := 97) hk ckX6 0 dX6_undo_94 rfl fl_X6_12 (by decide) (o_X6 rfl) rfl ?_
            refine aw_aload_n (pc2 := 98) hk dX6_undo_97 rfl rfl ?_
            refine aw_get (pc2 := 101) hk ckX6 9 dX6_undo_98 rfl fl_X6_100 (by decide) (o_X6 rfl) rfl ?_
            refine aw_top (nI (oc - 1)) (by rw [u2_j _ _ _ _ (by decide), u2_s]) ?_
            refine aw_cV (rm2 := rmX2_giveBack) (pc2 := 104) hk veX2_giveBack dX6_undo_101 rfl ml_X6_196 ⟨(Nat.le_of_ble_eq_true rfl), (Nat.le_of_ble_eq_true rfl)⟩ [_] rfl rfl (Nat.le_of_ble_eq_true rfl) (Nat.le_of_ble_eq_true rfl) (Nat.le_of_ble_eq_true rfl) (o_X2 rfl) (t_giveBack ?_)
            refine aw_lload_n (pc2 := 105) hk dX6_undo_104 rfl rfl ?_
            refine aw_lret hk dX6_undo_105 (Nat.le_of_ble_eq_true rfl) (Nat.le_of_ble_eq_true rfl) (hq2 ⟨h1, bi_tt c13⟩)
          · refine aw_aload_n (pc2 := 35) hk dX6_undo_34 rfl rfl ?_
            refine aw_iload (pc2 := 37) hk dX6_undo_35 rfl rfl ?_
            refine aw_cV (rm2 := rmX3_caseAt) (pc2 := 40) hk veX3_caseAt dX6_undo_37 rfl ml_X6_150 ⟨(Nat.le_of_ble_eq_true rfl), (Nat.le_of_ble_eq_true rfl)⟩ [_] rfl rfl (Nat.le_of_ble_eq_true rfl) (Nat.le_of_ble_eq_true rfl) (Nat.le_of_ble_eq_true rfl) (o_X3 hl.2.1) (t_caseAt hl.2 rfl (by omega) ?_)
            refine aw_astore (pc2 := 42) hk dX6_undo_40 rfl (by decide) ?_
            show AW K Q _ _ 42 [_, _, _, _, _, _] _ _ _
            refine aw_aload (pc2 := 44) hk dX6_undo_42 rfl rfl ?_
            refine aw_ifnull_r (pc2 := 47) hk dX6_undo_44 rfl ?_
            refine aw_lload_n (pc2 := 48) hk dX6_undo_47 rfl rfl ?_
            refine aw_aload (pc2 := 50) hk dX6_undo_48 rfl rfl ?_
            refine aw_get (pc2 := 53) hk ckX0 11 dX6_undo_50 rfl fl_X6_185 (by decide) (o_X0 (hl.2.2.2.2.2 i c31).2.1) rfl ?_
            refine aw_aload (pc2 := 55) hk dX6_undo_53 rfl rfl ?_
            refine aw_get (pc2 := 58) hk ckX0 13 dX6_undo_55 rfl fl_X6_189 (by decide) (o_X0 (hl.2.2.2.2.2 i c31).2.1) rfl ?_
            refine aw_ladd (pc2 := 59) hk dX6_undo_58 rfl ?_
            refine aw_ladd (pc2 := 60) hk dX6_undo_59 rfl ?_
            refine aw_lstore_n (pc2 := 61) hk dX6_undo_60 rfl (by decide) ?_
            show AW K Q _ _ 61 [_, _, _, _, _, _] _ _ _
            obtain ⟨f, hf2, hf⟩ := hcf (oc - 1) i (by omega) c31
            obtain ⟨rc, hrc4, hrc2⟩ := hrc f hf2
            refine aw_aload_n (pc2 := 62) hk dX6_undo_61 rfl rfl ?_
            refine aw_aload (pc2 := 64) hk dX6_undo_62 rfl rfl ?_
            refine aw_cV (rm2 := rmX6_oweDebtsAgain) (pc2 := 67) hk veX6_oweDebtsAgain dX6_undo_64 rfl ml_X6_192 ⟨(Nat.le_of_ble_eq_true rfl), (Nat.le_of_ble_eq_true rfl)⟩ [_] rfl rfl (Nat.le_of_ble_eq_true rfl) (Nat.le_of_ble_eq_true rfl) (Nat.le_of_ble_eq_true rfl) (o_X6 rfl) (t_owe hB (hl.2.2.2.2.2 i c31).2.1 (hl.2.2.2.2.2 i c31).2.2 hf2 hf hrc4 hrc2 ?_)
            refine aw_Jm (oweA I S (ca (oc - 1)) (i + 1) J) (by show _ = owe _ _ _ _ _; rw [hf, nI_clamp (by omega), hrc2, nI_clamp (by omega)]) ?_
            refine aw_iinc1 (pc2 := 70) hk dX6_undo_67 rfl rfl (by decide) ?_
            show AW K Q _ _ 70 [_, _, _, _, _, _] _ _ _
            refine aw_goto (tgt := 25) hk dX6_undo_70 (by decide) ?_
            refine aw_fg 5 ?_
            exact ih (i + 1) (by omega) (by omega)
      refine aw_lconst (v := 0) (pc2 := 21) hk dX6_undo_20 rfl (by decide) ?_
      refine aw_lstore_n (pc2 := 22) hk dX6_undo_21 rfl (by decide) ?_
      show AW K Q _ _ 22 [_, _, _, _, _, _] _ _ _
      refine aw_iconst (v := 0) (pc2 := 23) hk dX6_undo_22 rfl (by decide) ?_
      refine aw_istore (pc2 := 25) hk dX6_undo_23 rfl (by decide) ?_
      show AW K Q _ _ 25 [_, _, _, _, _, _] _ _ _
      exact loop (nc (oc - 1) + 1) 0 (by omega) (by omega)
    · refine aw_ldc2 (pc2 := 19) hk dX6_undo_16 rfl kl_X6_183 ?_
      refine aw_lret hk dX6_undo_19 (Nat.le_of_ble_eq_true rfl) (Nat.le_of_ble_eq_true rfl) (hq1 (fun h9 => by have h8 := h9.2; rw [show dn S nc ca (oc - 1) = false from bi_ff c13] at h8; cases h8))
  · refine aw_aload_n (pc2 := 1) hk dX6_undo_0 rfl rfl ?_
    refine aw_cV (rm2 := rmX6_latestOrder) (pc2 := 4) hk veX6_latestOrder dX6_undo_1 rfl ml_X6_177 ⟨(Nat.le_of_ble_eq_true rfl), (Nat.le_of_ble_eq_true rfl)⟩ [] rfl rfl (Nat.le_of_ble_eq_true rfl) (Nat.le_of_ble_eq_true rfl) (Nat.le_of_ble_eq_true rfl) (o_X6 rfl) (t_latestN hB (by omega) ?_)
    refine aw_astore_nN (pc2 := 5) hk dX6_undo_4 rfl (by decide) ?_
    show AW K Q _ _ 5 [_, _, _, _, _, _] _ _ _
    refine aw_aload_nN (pc2 := 6) hk dX6_undo_5 rfl rfl ?_
    refine aw_ifnull_n (tgt := 16) hk dX6_undo_6 (by decide) ?_
    refine aw_ldc2 (pc2 := 19) hk dX6_undo_16 rfl kl_X6_183 ?_
    refine aw_lret hk dX6_undo_19 (Nat.le_of_ble_eq_true rfl) (Nat.le_of_ble_eq_true rfl) (hq1 (fun h9 => h1 h9.1))
def cil (I : M2) (f : Nat) : Int32 := sI (fun c => bi (inl I c (nI f))) 256
set_option maxHeartbeats 800000 in
set_option maxRecDepth 100000 in
theorem t_touches {n : Nat} {d : D2} {I : M2} {J : J2} {S : M2} {L : J2} {R : R2} {Q : QT} {w g fc oc uc td : Nat} (hB : CB S R w g fc oc uc td) (hq : Q (some (.int (bi (anyB (fun f => decide (0 < cil I f)) fc)))) n (H5 d I J S L R)) : Calls yX6_touchesField cX6_touchesField 2 (some .boolean) rmX6_touchesField [.ref 0] n (H5 d I J S L R) Q := by
  refine Calls.of (by decide) (Nat.le_of_ble_eq_true rfl) ?_
  intro K hk
  show AW K Q 0 0 0 [some (.ref 0), none] [] n (H5 d I J S L R)
  obtain ⟨hw, hg, hw1, hw6, hg1, hg6, hfc, hfc2, hoc, hoc6, huc, huc5, htd, htd4, hR13, hR62⟩ := id hB
  have loop : ∀ (k i : Nat), i ≤ fc → fc + 1 ≤ i + k → (∀ j, j < i → ¬ 0 < cil I j) → AW K Q 0 0 2 [some (.ref 0), some (.int (nI i))] [] n (H5 d I J S L R) := by
    intro k
    induction k with
    | zero => intro i  hi hn; omega
    | succ k ih =>
      intro i  hi hn hno
      refine aw_iload_n (pc2 := 3) hk dX6_touchesField_2 rfl rfl ?_
      refine aw_aload_n (pc2 := 4) hk dX6_touchesField_3 rfl rfl ?_
      refine aw_get (pc2 := 7) hk ckX6 3 dX6_touchesField_4 rfl fl_X6_58 (by decide) (o_X6 rfl) rfl ?_
      refine aw_icN_ge (x := i) (y := fc) (tgt := 29) (pc2 := 10) hk dX6_touchesField_7 (by decide) rfl rfl hfc (by omega) (by omega) (fun c7 => ?_) (fun c7 => ?_)
      · obtain rfl : i = fc := by omega
        have hff : anyB (fun f => decide (0 < cil I f)) i = false := by
          apply Bool.eq_false_iff.mpr
          intro hh9
          obtain ⟨j, h1, h2⟩ := (anyB_t _).mp hh9
          have h3 := hno j h1
          simp only [decide_eq_true_eq] at h2
          exact h3 h2
        refine aw_iconst (v := 0) (pc2 := 30) hk dX6_touchesField_29 rfl (by decide) ?_
        refine aw_zret (by first | exact Or.inl rfl | exact Or.inr rfl) hk dX6_touchesField_30 (Nat.le_of_ble_eq_true rfl) (Nat.le_of_ble_eq_true rfl) (by rw [hff] at hq; exact hq)
      · refine aw_aload_n (pc2 := 11) hk dX6_touchesField_10 rfl rfl ?_
        refine aw_get (pc2 := 14) hk ckX6 0 dX6_touchesField_11 rfl fl_X6_12 (by decide) (o_X6 rfl) rfl ?_
        refine aw_iload_n (pc2 := 15) hk dX6_touchesField_14 rfl rfl ?_
        refine aw_cV (rm2 := rmX2_cellsInLine) (pc2 := 18) hk veX2_cellsInLine dX6_touchesField_15 rfl ml_X6_141 ⟨(Nat.le_of_ble_eq_true rfl), (Nat.le_of_ble_eq_true rfl)⟩ [_] rfl rfl (Nat.le_of_ble_eq_true rfl) (Nat.le_of_ble_eq_true rfl) (Nat.le_of_ble_eq_true rfl) (o_X2 rfl) (t_cellsInLine ?_)
        refine aw_if_le (tgt := 23) (pc2 := 21) hk dX6_touchesField_18 (by decide) rfl (fun c18 => ?_) (fun c18 => ?_)
        · refine aw_iinc1 (pc2 := 26) hk dX6_touchesField_23 rfl rfl (by decide) ?_
          show AW K Q _ _ 26 [_, _] _ _ _
          refine aw_goto (tgt := 2) hk dX6_touchesField_26 (by decide) ?_
          exact ih (i + 1) (by omega) (by omega) (fun j hj => by by_cases h9 : j = i; (subst h9; exact fun h8 => by rw [i_lt, l0] at h8; rw [i_le, l0] at c18; exact absurd c18 (Int.not_le.mpr h8)); exact hno j (by omega))
        · refine aw_iconst (v := 1) (pc2 := 22) hk dX6_touchesField_21 rfl (by decide) ?_
          refine aw_zret (by first | exact Or.inl rfl | exact Or.inr rfl) hk dX6_touchesField_22 (Nat.le_of_ble_eq_true rfl) (Nat.le_of_ble_eq_true rfl) (by rw [show anyB (fun f => decide (0 < cil I f)) fc = true from (anyB_t fc).mpr ⟨i, c7, by simp only [decide_eq_true_eq]; rw [i_lt, l0]; rw [i_le, l0] at c18; exact Int.not_le.mp c18⟩] at hq; exact hq)
  refine aw_iconst (v := 0) (pc2 := 1) hk dX6_touchesField_0 rfl (by decide) ?_
  refine aw_istore_n (pc2 := 2) hk dX6_touchesField_1 rfl (by decide) ?_
  show AW K Q _ _ 2 [_, _] _ _ _
  exact loop (fc + 1) 0 (by omega) (by omega) (fun j hj => absurd hj (by omega))
