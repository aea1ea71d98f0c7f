theorem dvS_ok (V : Nat → Bool) (A : Nat → Nat → Prop) (op : Nat → Bool) : dOK (dvS V A op 256) := ⟨(dvS_le V A op 256).1, (dvS_le V A op 256).2⟩
theorem t_worthM {n : Nat} {d : D2} {I : M2} {J : J2} {S : M2} {L : J2} {R : R2} {Q : QT} {I0 : M2} {D : DV} {hs x : Int32} (hF : FR I0 I D) (hd : dOK D) (hx : x = opI (mD D hs)) (hso : ∀ p, p < 256 → ∃ k, k < 4 ∧ I 3 p = nI k) (hq : Q (some (.long (wM D (fun c => (prI I0 75 c).toInt64) hs))) n (H5 d I J S L R)) : Calls yX5_worth cX5_worth 7 (some .long) rmX5_worth [.ref 7, .int x, .ref 1, .ref 75] n (H5 d I J S L R) Q := by
  cases hm : mD D hs with
  | none =>
    rw [hm] at hx
    subst hx
    refine t_worthN ?_
    unfold wM at hq
    rw [hm] at hq
    exact hq
  | some m =>
    rw [hm] at hx
    have h1 := mD_lt hd hm
    refine t_worth (j := m) hx (by have := hd.1; omega) rfl hso ?_
    rw [hF.wrt hd h1 (by decide)]
    unfold wM at hq
    rw [hm] at hq
    exact hq
def vLand (I : M2) (fn : Nat) : Int64 := sL (fun c => if inl I c (nI fn) then (prI I 75 c).toInt64 else 0) 256
def vLbf (S : M2) (L : J2) (oc : Nat) (nc : Nat → Nat) (ca : Nat → Nat → Nat) (fn : Nat) : Int64 := sL (fun o => sL (fun k => if S (ca o k) 0 = nI fn then L (ca o k) 7 else 0) (nc o)) (oc - 1)
def vFnc (I : M2) (w g fn : Nat) : Int32 := sI (fun c => if inl I c (nI fn) then sI (fun s => bi (ksd I w g c (nI fn) s)) 4 else 0) 256
set_option maxHeartbeats 800000 in
set_option maxRecDepth 100000 in
theorem t_assess {n : Nat} {d : D2} {I : M2} {J : J2} {S : M2} {L : J2} {R : R2} {Q : QT} {w g fc oc uc td : Nat} (hB : CB S R w g fc oc uc td) {oa nc : Nat → Nat} {ca : Nat → Nat → Nat} (hO : OrdB d S R oc oa nc ca) {b t fn : Nat} (hb : kd d b = (10, t)) (h0 : 0 < oc) (hf : S b 0 = nI fn) (hfn : fn < fc) (hso : ∀ p, p < 256 → ∃ k, k < 4 ∧ I 3 p = nI k) (hlane : ∀ b, b < 256 → opl I b = true → kpt I b (nI fn) = false) {vl vlo vf vb : Int64} (h1 : vl = vLand I fn) (h2 : vlo = mxL 0 (sL (lD (dvS (vk I (nI fn)) (adC w g) (opl I) 256) (fun c => (prI I 75 c).toInt64) (S (14 + 4 * fn) 0) (I 76 0)) (dvS (vk I (nI fn)) (adC w g) (opl I) 256).1 - vLbf S L oc nc ca fn)) (h3 : vf = (I 76 1).toInt64 * (vFnc I w g fn).toInt64) (h4 : vb = mnL (vl + vlo + vf) (wM (dvS (vk I (nI fn)) (adC w g) (opl I) 256) (fun c => (prI I 75 c).toInt64) (S (14 + 4 * fn) 0) * (I 76 2).toInt64 / 1000)) (hq : ∀ I1 : M2, FR I I1 (dvS (vk I (nI fn)) (adC w g) (opl I) 256) → Q none n (H5 d I1 J (u2 (u2 S 7 0 (nI (dvS (vk I (nI fn)) (adC w g) (opl I) 256).1)) 7 1 (opI (mD (dvS (vk I (nI fn)) (adC w g) (opl I) 256) (S (14 + 4 * fn) 0)))) (u2 (u2 (u2 (u2 (u2 L b 6 vl) b 7 vlo) b 8 vf) b 9 vb) b 10 (vl + vlo + vf - vb)) R)) : Calls yX6_assess cX6_assess 6 none rmX6_assess [.ref 0, .ref b, .ref (14 + 4 * fn)] n (H5 d I J S L R) Q := by
  refine Calls.of (by decide) (Nat.le_of_ble_eq_true rfl) ?_
  intro K hk
  show AW K Q 0 0 0 [some (.ref 0), some (.ref b), some (.ref (14 + 4 * fn)), none, none, none] [] n (H5 d I J S L R)
  obtain ⟨hw, hg, hw1, hw6, hg1, hg6, hfc, hfc2, hoc, hoc6, huc, huc5, htd, htd4, hR13, hR62⟩ := id hB
  refine aw_aload_n (pc2 := 1) hk dX6_assess_0 rfl rfl ?_
  refine aw_get (pc2 := 4) hk ckX0 0 dX6_assess_1 rfl fl_X6_212 (by decide) (o_X0 hb) rfl ?_
  rw [hf]
  refine aw_istore_n (pc2 := 5) hk dX6_assess_4 rfl (by decide) ?_
  show AW K Q _ _ 5 [_, _, _, _, _, _] _ _ _
  refine aw_aload_n (pc2 := 6) hk dX6_assess_5 rfl rfl ?_
  refine aw_get (pc2 := 9) hk ckX6 1 dX6_assess_6 rfl fl_X6_19 (by decide) (o_X6 rfl) rfl ?_
  refine aw_aload_n (pc2 := 10) hk dX6_assess_9 rfl rfl ?_
  refine aw_get (pc2 := 13) hk ckX6 0 dX6_assess_10 rfl fl_X6_12 (by decide) (o_X6 rfl) rfl ?_
  refine aw_iload_n (pc2 := 14) hk dX6_assess_13 rfl rfl ?_
  refine aw_aload_n (pc2 := 15) hk dX6_assess_14 rfl rfl ?_
  refine aw_get (pc2 := 18) hk ckX1 0 dX6_assess_15 rfl fl_X6_90 (by decide) (o_X1 (kdF d (show fn < 12 by omega)).1) rfl ?_
  refine aw_cV (rm2 := rmX5_find) (pc2 := 21) hk veX5_find dX6_assess_18 rfl ml_X6_225 ⟨(Nat.le_of_ble_eq_true rfl), (Nat.le_of_ble_eq_true rfl)⟩ [_, _, _] rfl rfl (Nat.le_of_ble_eq_true rfl) (Nat.le_of_ble_eq_true rfl) (Nat.le_of_ble_eq_true rfl) (o_X5 rfl) (t_find hw hg hw6 hg6 (fun b hb h9 => hlane b hb h9) (fun I1 hF => ?_))
  have hd := dvS_ok (vk I (nI fn)) (adC w g) (opl I)
  rw [hF.main hd (S (14 + 4 * fn) 0)]
  have hr : ∀ b, b ≠ 8 → b ≠ 9 → b ≠ 10 → b ≠ 11 → b ≠ 12 → I1 b = I b := hF.1
  have hso1 : ∀ p, p < 256 → ∃ k, k < 4 ∧ I1 3 p = nI k := fun p hp => by rw [hr 3 (by decide) (by decide) (by decide) (by decide) (by decide)]; exact hso p hp
  have hB1 := (hB.u2S (b := 7) 0 (nI (dvS (vk I (nI fn)) (adC w g) (opl I) 256).1) (by decide) (by decide)).u2S (b := 7) 1 (opI (mD (dvS (vk I (nI fn)) (adC w g) (opl I) 256) (S (14 + 4 * fn) 0))) (by decide) (by decide)
  have h7 : ∀ o, o < oc → oa o ≠ 7 := fun o ho => by have := kd_ge (hO o ho).2.1 (Or.inr (Or.inl rfl)); omega
  have hO1 := (hO.u2S (b := 7) 0 (nI (dvS (vk I (nI fn)) (adC w g) (opl I) 256).1) h7).u2S (b := 7) 1 (opI (mD (dvS (vk I (nI fn)) (adC w g) (opl I) 256) (S (14 + 4 * fn) 0))) h7
  have hb15 := kd_ge hb (Or.inl rfl)
  have einl : ∀ c, inl I1 c (nI fn) = inl I c (nI fn) := fun c => by unfold inl; rw [hr 5 (by decide) (by decide) (by decide) (by decide) (by decide), hr 2 (by decide) (by decide) (by decide) (by decide) (by decide)]
  have eprI : ∀ c, prI I1 75 c = prI I 75 c := fun c => by unfold prI; rw [hr 75 (by decide) (by decide) (by decide) (by decide) (by decide), hr 3 (by decide) (by decide) (by decide) (by decide) (by decide)]
  have eksd : ∀ c s, ksd I1 w g c (nI fn) s = ksd I w g c (nI fn) s := fun c s => by unfold ksd kpt; rw [hr 2 (by decide) (by decide) (by decide) (by decide) (by decide), hr 6 (by decide) (by decide) (by decide) (by decide) (by decide)]
  have e76 : I1 76 = I 76 := hr 76 (by decide) (by decide) (by decide) (by decide) (by decide)
  refine aw_aload_n (pc2 := 22) hk dX6_assess_21 rfl rfl ?_
  refine aw_aload_n (pc2 := 23) hk dX6_assess_22 rfl rfl ?_
  refine aw_get (pc2 := 26) hk ckX6 0 dX6_assess_23 rfl fl_X6_12 (by decide) (o_X6 rfl) rfl ?_
  refine aw_iload_n (pc2 := 27) hk dX6_assess_26 rfl rfl ?_
  refine aw_aload_n (pc2 := 28) hk dX6_assess_27 rfl rfl ?_
  refine aw_get (pc2 := 31) hk ckX6 5 dX6_assess_28 rfl fl_X6_37 (by decide) (o_X6 rfl) rfl ?_
  refine aw_cV (rm2 := rmX2_worthInLine) (pc2 := 34) hk veX2_worthInLine dX6_assess_31 rfl ml_X6_229 ⟨(Nat.le_of_ble_eq_true rfl), (Nat.le_of_ble_eq_true rfl)⟩ [_, _] rfl rfl (Nat.le_of_ble_eq_true rfl) (Nat.le_of_ble_eq_true rfl) (Nat.le_of_ble_eq_true rfl) (o_X2 rfl) (t_worthInLine rfl hso1 ?_)
  simp only [einl, eprI]
  refine aw_topL vl h1.symm ?_
  refine aw_put (pc2 := 37) hk ckX0 6 dX6_assess_34 rfl fl_X6_233 (by decide) rfl (o_X0 hb) (fun _ => rfl) (fun _ => rfl) (Nat.le_of_ble_eq_true rfl) ?_
  rw [p_X0_6 hb]
  refine aw_aload_n (pc2 := 38) hk dX6_assess_37 rfl rfl ?_
  refine aw_lconst (v := 0) (pc2 := 39) hk dX6_assess_38 rfl (by decide) ?_
  refine aw_aload_n (pc2 := 40) hk dX6_assess_39 rfl rfl ?_
  refine aw_cV (rm2 := rmX6_lossOfPieces) (pc2 := 43) hk veX6_lossOfPieces dX6_assess_40 rfl ml_X6_236 ⟨(Nat.le_of_ble_eq_true rfl), (Nat.le_of_ble_eq_true rfl)⟩ [] rfl rfl (Nat.le_of_ble_eq_true rfl) (Nat.le_of_ble_eq_true rfl) (Nat.le_of_ble_eq_true rfl) (o_X6 rfl) (t_lop hF hd (by rw [u2_j _ _ _ _ (by decide), u2_s]) (u2_s _ _ _ _) hso1 ?_)
  rw [e76]
  refine aw_aload_n (pc2 := 44) hk dX6_assess_43 rfl rfl ?_
  refine aw_iload_n (pc2 := 45) hk dX6_assess_44 rfl rfl ?_
  refine aw_cV (rm2 := rmX6_lossBefore) (pc2 := 48) hk veX6_lossBefore dX6_assess_45 rfl ml_X6_240 ⟨(Nat.le_of_ble_eq_true rfl), (Nat.le_of_ble_eq_true rfl)⟩ [_] rfl rfl (Nat.le_of_ble_eq_true rfl) (Nat.le_of_ble_eq_true rfl) (Nat.le_of_ble_eq_true rfl) (o_X6 rfl) (t_lossBefore hB1 hO1 h0 ?_)
  refine aw_lsub (pc2 := 49) hk dX6_assess_48 rfl ?_
  refine aw_max (pc2 := 52) hk seJ9_max_f86c9 dX6_assess_49 rfl ml_X6_244 (Nat.le_of_ble_eq_true rfl) (Nat.le_of_ble_eq_true rfl) (Nat.le_of_ble_eq_true rfl) (Nat.le_of_ble_eq_true rfl) ?_
  refine aw_topL vlo (by
    rw [h2]
    congr 2
    unfold vLbf
    refine sL_eq _ (fun o ho => sL_eq _ (fun k hk => ?_))
    have h9 := kd_ge ((hO o (by omega)).2.2.2.2.2 k hk).2.1 (Or.inl rfl)
    simp only [u2_j _ _ _ _ (show (7 : Nat) ≠ 6 by decide), u2_a _ _ _ _ (show ca o k ≠ 7 by omega)]) ?_
  refine aw_put (pc2 := 55) hk ckX0 7 dX6_assess_52 rfl fl_X6_250 (by decide) rfl (o_X0 hb) (fun _ => rfl) (fun _ => rfl) (Nat.le_of_ble_eq_true rfl) ?_
  rw [p_X0_7 hb]
  refine aw_aload_n (pc2 := 56) hk dX6_assess_55 rfl rfl ?_
  refine aw_aload_n (pc2 := 57) hk dX6_assess_56 rfl rfl ?_
  refine aw_get (pc2 := 60) hk ckX6 6 dX6_assess_57 rfl fl_X6_41 (by decide) (o_X6 rfl) rfl ?_
  refine aw_iconst (v := 1) (pc2 := 61) hk dX6_assess_60 rfl (by decide) ?_
  refine h_iald (pc2 := 62) hk dX6_assess_61 rfl rfl (show (1 : Int32) = nI 1 from rfl) (by decide) (by decide) ?_
  refine aw_i2l (pc2 := 63) hk dX6_assess_62 rfl ?_
  refine aw_aload_n (pc2 := 64) hk dX6_assess_63 rfl rfl ?_
  refine aw_get (pc2 := 67) hk ckX6 0 dX6_assess_64 rfl fl_X6_12 (by decide) (o_X6 rfl) rfl ?_
  refine aw_iload_n (pc2 := 68) hk dX6_assess_67 rfl rfl ?_
  refine aw_cV (rm2 := rmX2_fenceSides) (pc2 := 71) hk veX2_fenceSides dX6_assess_68 rfl ml_X6_253 ⟨(Nat.le_of_ble_eq_true rfl), (Nat.le_of_ble_eq_true rfl)⟩ [_] rfl rfl (Nat.le_of_ble_eq_true rfl) (Nat.le_of_ble_eq_true rfl) (Nat.le_of_ble_eq_true rfl) (o_X2 rfl) (t_fenceSides (w := w) (g := g) (by rw [u2_a _ _ _ _ (by decide), u2_a _ _ _ _ (by decide)]; exact hw) (by rw [u2_a _ _ _ _ (by decide), u2_a _ _ _ _ (by decide)]; exact hg) hw6 hg6 ?_)
  simp only [einl, eksd]
  rw [e76]
  refine aw_i2l (pc2 := 72) hk dX6_assess_71 rfl ?_
  refine aw_lmul (pc2 := 73) hk dX6_assess_72 rfl ?_
  refine aw_topL vf h3.symm ?_
  refine aw_put (pc2 := 76) hk ckX0 8 dX6_assess_73 rfl fl_X6_256 (by decide) rfl (o_X0 hb) (fun _ => rfl) (fun _ => rfl) (Nat.le_of_ble_eq_true rfl) ?_
  rw [p_X0_8 hb]
  refine aw_aload_n (pc2 := 77) hk dX6_assess_76 rfl rfl ?_
  refine aw_get (pc2 := 80) hk ckX0 6 dX6_assess_77 rfl fl_X6_233 (by decide) (o_X0 hb) rfl ?_
  refine aw_aload_n (pc2 := 81) hk dX6_assess_80 rfl rfl ?_
  refine aw_get (pc2 := 84) hk ckX0 7 dX6_assess_81 rfl fl_X6_250 (by decide) (o_X0 hb) rfl ?_
  refine aw_ladd (pc2 := 85) hk dX6_assess_84 rfl ?_
  refine aw_aload_n (pc2 := 86) hk dX6_assess_85 rfl rfl ?_
  refine aw_get (pc2 := 89) hk ckX0 8 dX6_assess_86 rfl fl_X6_256 (by decide) (o_X0 hb) rfl ?_
  refine aw_ladd (pc2 := 90) hk dX6_assess_89 rfl ?_
  refine aw_topL (vl + vlo + vf) (by rw [u2_j _ _ _ _ (by decide), u2_j _ _ _ _ (by decide), u2_s, u2_j _ _ _ _ (by decide), u2_s, u2_s]) ?_
  refine aw_lstore (pc2 := 92) hk dX6_assess_90 rfl (by decide) ?_
  show AW K Q _ _ 92 [_, _, _, _, _, _] _ _ _
  refine aw_aload_n (pc2 := 93) hk dX6_assess_92 rfl rfl ?_
  refine aw_lload (pc2 := 95) hk dX6_assess_93 rfl rfl ?_
  refine aw_aload_n (pc2 := 96) hk dX6_assess_95 rfl rfl ?_
  refine aw_get (pc2 := 99) hk ckX6 1 dX6_assess_96 rfl fl_X6_19 (by decide) (o_X6 rfl) rfl ?_
  refine aw_aload_n (pc2 := 100) hk dX6_assess_99 rfl rfl ?_
  refine aw_get (pc2 := 103) hk ckX6 1 dX6_assess_100 rfl fl_X6_19 (by decide) (o_X6 rfl) rfl ?_
  refine aw_get (pc2 := 106) hk ckX5 1 dX6_assess_103 rfl fl_X6_259 (by decide) (o_X5 rfl) rfl ?_
  refine aw_aload_n (pc2 := 107) hk dX6_assess_106 rfl rfl ?_
  refine aw_get (pc2 := 110) hk ckX6 0 dX6_assess_107 rfl fl_X6_12 (by decide) (o_X6 rfl) rfl ?_
  refine aw_aload_n (pc2 := 111) hk dX6_assess_110 rfl rfl ?_
  refine aw_get (pc2 := 114) hk ckX6 5 dX6_assess_111 rfl fl_X6_37 (by decide) (o_X6 rfl) rfl ?_
  refine aw_cV (rm2 := rmX5_worth) (pc2 := 117) hk veX5_worth dX6_assess_114 rfl ml_X6_262 ⟨(Nat.le_of_ble_eq_true rfl), (Nat.le_of_ble_eq_true rfl)⟩ [_, _, _] rfl rfl (Nat.le_of_ble_eq_true rfl) (Nat.le_of_ble_eq_true rfl) (Nat.le_of_ble_eq_true rfl) (o_X5 rfl) (t_worthM (hs := (S (14 + 4 * fn) 0)) hF hd (u2_s _ _ _ _) hso1 ?_)
  refine aw_aload_n (pc2 := 118) hk dX6_assess_117 rfl rfl ?_
  refine aw_get (pc2 := 121) hk ckX6 6 dX6_assess_118 rfl fl_X6_41 (by decide) (o_X6 rfl) rfl ?_
  refine aw_iconst (v := 2) (pc2 := 122) hk dX6_assess_121 rfl (by decide) ?_
  refine h_iald (pc2 := 123) hk dX6_assess_122 rfl rfl (show (2 : Int32) = nI 2 from rfl) (by decide) (by decide) ?_
  refine aw_i2l (pc2 := 124) hk dX6_assess_123 rfl ?_
  refine aw_lmul (pc2 := 125) hk dX6_assess_124 rfl ?_
  refine aw_ldc2 (pc2 := 128) hk dX6_assess_125 rfl kl_X6_266 ?_
  refine aw_ldiv (pc2 := 129) hk dX6_assess_128 rfl (by decide) ?_
  refine aw_min (pc2 := 132) hk seJ9_min_f86c9 dX6_assess_129 rfl ml_X6_268 (Nat.le_of_ble_eq_true rfl) (Nat.le_of_ble_eq_true rfl) (Nat.le_of_ble_eq_true rfl) (Nat.le_of_ble_eq_true rfl) ?_
  rw [e76]
  refine aw_topL vb h4.symm ?_
  refine aw_put (pc2 := 135) hk ckX0 9 dX6_assess_132 rfl fl_X6_271 (by decide) rfl (o_X0 hb) (fun _ => rfl) (fun _ => rfl) (Nat.le_of_ble_eq_true rfl) ?_
  rw [p_X0_9 hb]
  refine aw_aload_n (pc2 := 136) hk dX6_assess_135 rfl rfl ?_
  refine aw_lload (pc2 := 138) hk dX6_assess_136 rfl rfl ?_
  refine aw_aload_n (pc2 := 139) hk dX6_assess_138 rfl rfl ?_
  refine aw_get (pc2 := 142) hk ckX0 9 dX6_assess_139 rfl fl_X6_271 (by decide) (o_X0 hb) rfl ?_
  refine aw_lsub (pc2 := 143) hk dX6_assess_142 rfl ?_
  refine aw_topL (vl + vlo + vf - vb) (by rw [u2_s]) ?_
  refine aw_put (pc2 := 146) hk ckX0 10 dX6_assess_143 rfl fl_X6_274 (by decide) rfl (o_X0 hb) (fun _ => rfl) (fun _ => rfl) (Nat.le_of_ble_eq_true rfl) ?_
  rw [p_X0_10 hb]
  refine aw_vret hk dX6_assess_146 (Nat.le_of_ble_eq_true rfl) (Nat.le_of_ble_eq_true rfl) (hq I1 hF)
def shP (I : M2) (L : J2) (f b r : Nat) (rest : Int64) (J : J2) : Int64 := mnL rest (if I (14 + 4 * f + 1) r = 1 then J (14 + 4 * f + 3) r else L b 10 * (I (14 + 4 * f + 2) r).toInt64 / 1000)
def shS (I : M2) (L : J2) (f b : Nat) (J : J2) : Nat → Int64 × J2
  | 0 => (L b 10, J)
  | r + 1 => ((shS I L f b J r).1 - shP I L f b r (shS I L f b J r).1 (shS I L f b J r).2, u2 (if I (14 + 4 * f + 1) r = 1 then u2 (shS I L f b J r).2 (14 + 4 * f + 3) r ((shS I L f b J r).2 (14 + 4 * f + 3) r - shP I L f b r (shS I L f b J r).1 (shS I L f b J r).2) else (shS I L f b J r).2) (b + 1) r (shP I L f b r (shS I L f b J r).1 (shS I L f b J r).2))
theorem shS_1 (I : M2) (L : J2) (f b : Nat) (J : J2) (r : Nat) : (shS I L f b J (r + 1)).1 = (shS I L f b J r).1 - shP I L f b r (shS I L f b J r).1 (shS I L f b J r).2 := rfl
theorem shS_2 (I : M2) (L : J2) (f b : Nat) (J : J2) (r : Nat) : (shS I L f b J (r + 1)).2 = u2 (if I (14 + 4 * f + 1) r = 1 then u2 (shS I L f b J r).2 (14 + 4 * f + 3) r ((shS I L f b J r).2 (14 + 4 * f + 3) r - shP I L f b r (shS I L f b J r).1 (shS I L f b J r).2) else (shS I L f b J r).2) (b + 1) r (shP I L f b r (shS I L f b J r).1 (shS I L f b J r).2) := rfl
set_option maxHeartbeats 800000 in
set_option maxRecDepth 100000 in
theorem t_share {n : Nat} {d : D2} {I : M2} {J : J2} {S : M2} {L : J2} {R : R2} {Q : QT} {b t fn rc : Nat} (hb : kd d b = (10, t)) (hb1 : kd d (b + 1) = (3, 4)) (hfn : fn < 12) (hrc : S (14 + 4 * fn) 1 = nI rc) (hrc4 : rc ≤ 4) (hq : Q none n (H5 d I (shS I L fn b J rc).2 S (u2 L b 14 (shS I L fn b J rc).1) R)) : Calls yX6_share cX6_share 11 none rmX6_share [.ref 0, .ref b, .ref (14 + 4 * fn)] n (H5 d I J S L R) Q := by
  refine Calls.of (by decide) (Nat.le_of_ble_eq_true rfl) ?_
  intro K hk
  show AW K Q 0 0 0 [some (.ref 0), some (.ref b), some (.ref (14 + 4 * fn)), none, none, none, none, none, none, none, none] [] n (H5 d I J S L R)
  obtain ⟨k1, k2, k3, k4⟩ := kdF d hfn
  have loop : ∀ (k i : Nat), i ≤ rc → rc + 1 ≤ i + k → AW K Q 0 0 8 [some (.ref 0), some (.ref b), some (.ref (14 + 4 * fn)), some (.long (shS I L fn b J i).1), none, some (.int (nI i)), none, none, none, none, none] [] n (H5 d I (shS I L fn b J i).2 S L R) := by
    intro k
    induction k with
    | zero => intro i h1 h2; omega
    | succ k ih =>
      intro i hi hn
      refine aw_iload (pc2 := 10) hk dX6_share_8 rfl rfl ?_
      refine aw_aload_n (pc2 := 11) hk dX6_share_10 rfl rfl ?_
      refine aw_get (pc2 := 14) hk ckX1 1 dX6_share_11 rfl fl_X6_286 (by decide) (o_X1 k1) rfl ?_
      refine aw_icN_ge (x := i) (y := rc) (tgt := 120) (pc2 := 17) hk dX6_share_14 (by decide) rfl rfl hrc (by omega) (by omega) (fun c14 => ?_) (fun c14 => ?_)
      · obtain rfl : i = rc := by omega
        refine aw_aload_n (pc2 := 121) hk dX6_share_120 rfl rfl ?_
        refine aw_lload_n (pc2 := 122) hk dX6_share_121 rfl rfl ?_
        refine aw_put (pc2 := 125) hk ckX0 14 dX6_share_122 rfl fl_X6_302 (by decide) rfl (o_X0 hb) (fun _ => rfl) (fun _ => rfl) (Nat.le_of_ble_eq_true rfl) ?_
        rw [p_X0_14 hb]
        refine aw_vret hk dX6_share_125 (Nat.le_of_ble_eq_true rfl) (Nat.le_of_ble_eq_true rfl) hq
      · refine aw_iload (pc2 := 19) hk dX6_share_17 rfl rfl ?_
        refine aw_iconst (v := 4) (pc2 := 20) hk dX6_share_19 rfl (by decide) ?_
        refine aw_icN_ge (x := i) (y := 4) (tgt := 120) (pc2 := 23) hk dX6_share_20 (by decide) rfl rfl rfl (by omega) (by omega) (fun c20 => absurd c20 (by omega)) (fun c20 => ?_)
        refine aw_aload_n (pc2 := 24) hk dX6_share_23 rfl rfl ?_
        refine aw_get (pc2 := 27) hk ckX1 2 dX6_share_24 rfl fl_X6_289 (by decide) (o_X1 k1) rfl ?_
        refine aw_iload (pc2 := 29) hk dX6_share_27 rfl rfl ?_
        refine h_iald (pc2 := 30) hk dX6_share_29 rfl k2 rfl (by omega) (by decide) ?_
        refine aw_iconst (v := 1) (pc2 := 31) hk dX6_share_30 rfl (by decide) ?_
        refine aw_icmp_ne (tgt := 38) (pc2 := 34) hk dX6_share_31 (by decide) rfl (fun c31 => ?_) (fun c31 => ?_)
        · refine aw_iconst (v := 0) (pc2 := 39) hk dX6_share_38 rfl (by decide) ?_
          refine aw_top (bi (decide (I (14 + 4 * fn + 1) i = 1))) (by simp [bi, c31]) ?_
          refine aw_istore (pc2 := 41) hk dX6_share_39 rfl (by decide) ?_
          show AW K Q _ _ 41 [_, _, _, _, _, _, _, _, _, _, _] _ _ _
          refine aw_iload (pc2 := 43) hk dX6_share_41 rfl rfl ?_
          refine aw_if_eq (tgt := 56) (pc2 := 46) hk dX6_share_43 (by decide) rfl (fun c43 => ?_) (fun c43 => ?_)
          · refine aw_aload_n (pc2 := 57) hk dX6_share_56 rfl rfl ?_
            refine aw_get (pc2 := 60) hk ckX0 10 dX6_share_57 rfl fl_X6_274 (by decide) (o_X0 hb) rfl ?_
            refine aw_aload_n (pc2 := 61) hk dX6_share_60 rfl rfl ?_
            refine aw_get (pc2 := 64) hk ckX1 3 dX6_share_61 rfl fl_X6_296 (by decide) (o_X1 k1) rfl ?_
            refine aw_iload (pc2 := 66) hk dX6_share_64 rfl rfl ?_
            refine h_iald (pc2 := 67) hk dX6_share_66 rfl k3 rfl (by omega) (by decide) ?_
            refine aw_i2l (pc2 := 68) hk dX6_share_67 rfl ?_
            refine aw_lmul (pc2 := 69) hk dX6_share_68 rfl ?_
            refine aw_ldc2 (pc2 := 72) hk dX6_share_69 rfl kl_X6_266 ?_
            refine aw_ldiv (pc2 := 73) hk dX6_share_72 rfl (by decide) ?_
            refine aw_lstore (pc2 := 75) hk dX6_share_73 rfl (by decide) ?_
            show AW K Q _ _ 75 [_, _, _, _, _, _, _, _, _, _, _] _ _ _
            refine aw_lload_n (pc2 := 76) hk dX6_share_75 rfl rfl ?_
            refine aw_lload (pc2 := 78) hk dX6_share_76 rfl rfl ?_
            refine aw_min (pc2 := 81) hk seJ9_min_f86c9 dX6_share_78 rfl ml_X6_268 (Nat.le_of_ble_eq_true rfl) (Nat.le_of_ble_eq_true rfl) (Nat.le_of_ble_eq_true rfl) (Nat.le_of_ble_eq_true rfl) ?_
            refine aw_lstore (pc2 := 83) hk dX6_share_81 rfl (by decide) ?_
            show AW K Q _ _ 83 [_, _, _, _, _, _, _, _, _, _, _] _ _ _
            have hk1 : ¬ I (14 + 4 * fn + 1) i = 1 := bi_no c43
            have ep : mnL (shS I L fn b J i).1 (L b 10 * (I (14 + 4 * fn + 2) i).toInt64 / 1000) = (shP I L fn b i (shS I L fn b J i).1 (shS I L fn b J i).2) := by unfold shP; rw [if_neg hk1]
            rw [ep]
            refine aw_iload (pc2 := 85) hk dX6_share_83 rfl rfl ?_
            refine aw_if_eq (tgt := 100) (pc2 := 88) hk dX6_share_85 (by decide) rfl (fun c85 => ?_) (fun c85 => absurd c43 c85)
            refine aw_aload_n (pc2 := 101) hk dX6_share_100 rfl rfl ?_
            refine aw_get (pc2 := 104) hk ckX0 15 dX6_share_101 rfl fl_X6_299 (by decide) (o_X0 hb) rfl ?_
            refine aw_iload (pc2 := 106) hk dX6_share_104 rfl rfl ?_
            refine aw_lload (pc2 := 108) hk dX6_share_106 rfl rfl ?_
            refine h_last (pc2 := 109) hk dX6_share_108 rfl hb1 rfl (by omega) (by decide) ?_
            refine aw_Jm (shS I L fn b J (i + 1)).2 (by rw [shS_2]; rw [if_neg hk1]) ?_
            refine aw_lload_n (pc2 := 110) hk dX6_share_109 rfl rfl ?_
            refine aw_lload (pc2 := 112) hk dX6_share_110 rfl rfl ?_
            refine aw_lsub (pc2 := 113) hk dX6_share_112 rfl ?_
            refine aw_topL (shS I L fn b J (i + 1)).1 (shS_1 I L fn b J i).symm ?_
            refine aw_lstore_n (pc2 := 114) hk dX6_share_113 rfl (by decide) ?_
            show AW K Q _ _ 114 [_, _, _, _, _, _, _, _, _, _, _] _ _ _
            refine aw_iinc1 (pc2 := 117) hk dX6_share_114 rfl rfl (by decide) ?_
            show AW K Q _ _ 117 [_, _, _, _, _, _, _, _, _, _, _] _ _ _
            refine aw_goto (tgt := 8) hk dX6_share_117 (by decide) ?_
            refine aw_fg 6 ?_
            refine aw_fg 7 ?_
            refine aw_fg 9 ?_
            exact ih (i + 1) (by omega) (by omega)
          · refine aw_aload_n (pc2 := 47) hk dX6_share_46 rfl rfl ?_
            refine aw_get (pc2 := 50) hk ckX1 4 dX6_share_47 rfl fl_X6_292 (by decide) (o_X1 k1) rfl ?_
            refine aw_iload (pc2 := 52) hk dX6_share_50 rfl rfl ?_
            refine h_lald (pc2 := 53) hk dX6_share_52 rfl k4 rfl (by omega) (by decide) ?_
            refine aw_goto (tgt := 73) hk dX6_share_53 (by decide) ?_
            refine aw_lstore (pc2 := 75) hk dX6_share_73 rfl (by decide) ?_
            show AW K Q _ _ 75 [_, _, _, _, _, _, _, _, _, _, _] _ _ _
            refine aw_lload_n (pc2 := 76) hk dX6_share_75 rfl rfl ?_
            refine aw_lload (pc2 := 78) hk dX6_share_76 rfl rfl ?_
            refine aw_min (pc2 := 81) hk seJ9_min_f86c9 dX6_share_78 rfl ml_X6_268 (Nat.le_of_ble_eq_true rfl) (Nat.le_of_ble_eq_true rfl) (Nat.le_of_ble_eq_true rfl) (Nat.le_of_ble_eq_true rfl) ?_
            refine aw_lstore (pc2 := 83) hk dX6_share_81 rfl (by decide) ?_
            show AW K Q _ _ 83 [_, _, _, _, _, _, _, _, _, _, _] _ _ _
            have hk1 : I (14 + 4 * fn + 1) i = 1 := bi_ya c43
            have ep : mnL (shS I L fn b J i).1 ((shS I L fn b J i).2 (14 + 4 * fn + 3) i) = (shP I L fn b i (shS I L fn b J i).1 (shS I L fn b J i).2) := by unfold shP; rw [if_pos hk1]
            rw [ep]
            refine aw_iload (pc2 := 85) hk dX6_share_83 rfl rfl ?_
            refine aw_if_eq (tgt := 100) (pc2 := 88) hk dX6_share_85 (by decide) rfl (fun c85 => absurd c85 c43) (fun c85 => ?_)
            refine aw_aload_n (pc2 := 89) hk dX6_share_88 rfl rfl ?_
            refine aw_get (pc2 := 92) hk ckX1 4 dX6_share_89 rfl fl_X6_292 (by decide) (o_X1 k1) rfl ?_
            refine aw_iload (pc2 := 94) hk dX6_share_92 rfl rfl ?_
            refine aw_dup2_ir (pc2 := 95) hk dX6_share_94 rfl ?_
            refine h_lald (pc2 := 96) hk dX6_share_95 rfl k4 rfl (by omega) (by decide) ?_
            refine aw_lload (pc2 := 98) hk dX6_share_96 rfl rfl ?_
            refine aw_lsub (pc2 := 99) hk dX6_share_98 rfl ?_
            refine h_last (pc2 := 100) hk dX6_share_99 rfl k4 rfl (by omega) (by decide) ?_
            refine aw_aload_n (pc2 := 101) hk dX6_share_100 rfl rfl ?_
            refine aw_get (pc2 := 104) hk ckX0 15 dX6_share_101 rfl fl_X6_299 (by decide) (o_X0 hb) rfl ?_
            refine aw_iload (pc2 := 106) hk dX6_share_104 rfl rfl ?_
            refine aw_lload (pc2 := 108) hk dX6_share_106 rfl rfl ?_
            refine h_last (pc2 := 109) hk dX6_share_108 rfl hb1 rfl (by omega) (by decide) ?_
            refine aw_Jm (shS I L fn b J (i + 1)).2 (by rw [shS_2]; rw [if_pos hk1]) ?_
            refine aw_lload_n (pc2 := 110) hk dX6_share_109 rfl rfl ?_
            refine aw_lload (pc2 := 112) hk dX6_share_110 rfl rfl ?_
            refine aw_lsub (pc2 := 113) hk dX6_share_112 rfl ?_
            refine aw_topL (shS I L fn b J (i + 1)).1 (shS_1 I L fn b J i).symm ?_
            refine aw_lstore_n (pc2 := 114) hk dX6_share_113 rfl (by decide) ?_
            show AW K Q _ _ 114 [_, _, _, _, _, _, _, _, _, _, _] _ _ _
            refine aw_iinc1 (pc2 := 117) hk dX6_share_114 rfl rfl (by decide) ?_
            show AW K Q _ _ 117 [_, _, _, _, _, _, _, _, _, _, _] _ _ _
            refine aw_goto (tgt := 8) hk dX6_share_117 (by decide) ?_
            refine aw_fg 6 ?_
            refine aw_fg 7 ?_
            refine aw_fg 9 ?_
            exact ih (i + 1) (by omega) (by omega)
        · refine aw_iconst (v := 1) (pc2 := 35) hk dX6_share_34 rfl (by decide) ?_
          refine aw_goto (tgt := 39) hk dX6_share_35 (by decide) ?_
          refine aw_top (bi (decide (I (14 + 4 * fn + 1) i = 1))) (by simp [bi, c31]) ?_
          refine aw_istore (pc2 := 41) hk dX6_share_39 rfl (by decide) ?_
          show AW K Q _ _ 41 [_, _, _, _, _, _, _, _, _, _, _] _ _ _
          refine aw_iload (pc2 := 43) hk dX6_share_41 rfl rfl ?_
          refine aw_if_eq (tgt := 56) (pc2 := 46) hk dX6_share_43 (by decide) rfl (fun c43 => ?_) (fun c43 => ?_)
          · refine aw_aload_n (pc2 := 57) hk dX6_share_56 rfl rfl ?_
            refine aw_get (pc2 := 60) hk ckX0 10 dX6_share_57 rfl fl_X6_274 (by decide) (o_X0 hb) rfl ?_
            refine aw_aload_n (pc2 := 61) hk dX6_share_60 rfl rfl ?_
            refine aw_get (pc2 := 64) hk ckX1 3 dX6_share_61 rfl fl_X6_296 (by decide) (o_X1 k1) rfl ?_
            refine aw_iload (pc2 := 66) hk dX6_share_64 rfl rfl ?_
            refine h_iald (pc2 := 67) hk dX6_share_66 rfl k3 rfl (by omega) (by decide) ?_
            refine aw_i2l (pc2 := 68) hk dX6_share_67 rfl ?_
            refine aw_lmul (pc2 := 69) hk dX6_share_68 rfl ?_
            refine aw_ldc2 (pc2 := 72) hk dX6_share_69 rfl kl_X6_266 ?_
            refine aw_ldiv (pc2 := 73) hk dX6_share_72 rfl (by decide) ?_
            refine aw_lstore (pc2 := 75) hk dX6_share_73 rfl (by decide) ?_
            show AW K Q _ _ 75 [_, _, _, _, _, _, _, _, _, _, _] _ _ _
            refine aw_lload_n (pc2 := 76) hk dX6_share_75 rfl rfl ?_
            refine aw_lload (pc2 := 78) hk dX6_share_76 rfl rfl ?_
            refine aw_min (pc2 := 81) hk seJ9_min_f86c9 dX6_share_78 rfl ml_X6_268 (Nat.le_of_ble_eq_true rfl) (Nat.le_of_ble_eq_true rfl) (Nat.le_of_ble_eq_true rfl) (Nat.le_of_ble_eq_true rfl) ?_
            refine aw_lstore (pc2 := 83) hk dX6_share_81 rfl (by decide) ?_
            show AW K Q _ _ 83 [_, _, _, _, _, _, _, _, _, _, _] _ _ _
            have hk1 : ¬ I (14 + 4 * fn + 1) i = 1 := bi_no c43
            have ep : mnL (shS I L fn b J i).1 (L b 10 * (I (14 + 4 * fn + 2) i).toInt64 / 1000) = (shP I L fn b i (shS I L fn b J i).1 (shS I L fn b J i).2) := by unfold shP; rw [if_neg hk1]
            rw [ep]
            refine aw_iload (pc2 := 85) hk dX6_share_83 rfl rfl ?_
            refine aw_if_eq (tgt := 100) (pc2 := 88) hk dX6_share_85 (by decide) rfl (fun c85 => ?_) (fun c85 => absurd c43 c85)
            refine aw_aload_n (pc2 := 101) hk dX6_share_100 rfl rfl ?_
            refine aw_get (pc2 := 104) hk ckX0 15 dX6_share_101 rfl fl_X6_299 (by decide) (o_X0 hb) rfl ?_
            refine aw_iload (pc2 := 106) hk dX6_share_104 rfl rfl ?_
            refine aw_lload (pc2 := 108) hk dX6_share_106 rfl rfl ?_
            refine h_last (pc2 := 109) hk dX6_share_108 rfl hb1 rfl (by omega) (by decide) ?_
            refine aw_Jm (shS I L fn b J (i + 1)).2 (by rw [shS_2]; rw [if_neg hk1]) ?_
            refine aw_lload_n (pc2 := 110) hk dX6_share_109 rfl rfl ?_
            refine aw_lload (pc2 := 112) hk dX6_share_110 rfl rfl ?_
            refine aw_lsub (pc2 := 113) hk dX6_share_112 rfl ?_
            refine aw_topL (shS I L fn b J (i + 1)).1 (shS_1 I L fn b J i).symm ?_
            refine aw_lstore_n (pc2 := 114) hk dX6_share_113 rfl (by decide) ?_
            show AW K Q _ _ 114 [_, _, _, _, _, _, _, _, _, _, _] _ _ _
            refine aw_iinc1 (pc2 := 117) hk dX6_share_114 rfl rfl (by decide) ?_
            show AW K Q _ _ 117 [_, _, _, _, _, _, _, _, _, _, _] _ _ _
            refine aw_goto (tgt := 8) hk dX6_share_117 (by decide) ?_
            refine aw_fg 6 ?_
            refine aw_fg 7 ?_
            refine aw_fg 9 ?_
            exact ih (i + 1) (by omega) (by omega)
          · refine aw_aload_n (pc2 := 47) hk dX6_share_46 rfl rfl ?_
            refine aw_get (pc2 := 50) hk ckX1 4 dX6_share_47 rfl fl_X6_292 (by decide) (o_X1 k1) rfl ?_
            refine aw_iload (pc2 := 52) hk dX6_share_50 rfl rfl ?_
            refine h_lald (pc2 := 53) hk dX6_share_52 rfl k4 rfl (by omega) (by decide) ?_
            refine aw_goto (tgt := 73) hk dX6_share_53 (by decide) ?_
            refine aw_lstore (pc2 := 75) hk dX6_share_73 rfl (by decide) ?_
            show AW K Q _ _ 75 [_, _, _, _, _, _, _, _, _, _, _] _ _ _
            refine aw_lload_n (pc2 := 76) hk dX6_share_75 rfl rfl ?_
            refine aw_lload (pc2 := 78) hk dX6_share_76 rfl rfl ?_
            refine aw_min (pc2 := 81) hk seJ9_min_f86c9 dX6_share_78 rfl ml_X6_268 (Nat.le_of_ble_eq_true rfl) (Nat.le_of_ble_eq_true rfl) (Nat.le_of_ble_eq_true rfl) (Nat.le_of_ble_eq_true rfl) ?_
            refine aw_lstore (pc2 := 83) hk dX6_share_81 rfl (by decide) ?_
            show AW K Q _ _ 83 [_, _, _, _, _, _, _, _, _, _, _] _ _ _
            have hk1 : I (14 + 4 * fn + 1) i = 1 := bi_ya c43
            have ep : mnL (shS I L fn b J i).1 ((shS I L fn b J i).2 (14 + 4 * fn + 3) i) = (shP I L fn b i (shS I L fn b J i).1 (shS I L fn b J i).2) := by unfold shP; rw [if_pos hk1]
            rw [ep]
            refine aw_iload (pc2 := 85) hk dX6_share_83 rfl rfl ?_
            refine aw_if_eq (tgt := 100) (pc2 := 88) hk dX6_share_85 (by decide) rfl (fun c85 => absurd c85 c43) (fun c85 => ?_)
            refine aw_aload_n (pc2 := 89) hk dX6_share_88 rfl rfl ?_
            refine aw_get (pc2 := 92) hk ckX1 4 dX6_share_89 rfl fl_X6_292 (by decide) (o_X1 k1) rfl ?_
            refine aw_iload (pc2 := 94) hk dX6_share_92 rfl rfl ?_
            refine aw_dup2_ir (pc2 := 95) hk dX6_share_94 rfl ?_
            refine h_lald (pc2 := 96) hk dX6_share_95 rfl k4 rfl (by omega) (by decide) ?_
            refine aw_lload (pc2 := 98) hk dX6_share_96 rfl rfl ?_
            refine aw_lsub (pc2 := 99) hk dX6_share_98 rfl ?_
            refine h_last (pc2 := 100) hk dX6_share_99 rfl k4 rfl (by omega) (by decide) ?_
            refine aw_aload_n (pc2 := 101) hk dX6_share_100 rfl rfl ?_
            refine aw_get (pc2 := 104) hk ckX0 15 dX6_share_101 rfl fl_X6_299 (by decide) (o_X0 hb) rfl ?_
            refine aw_iload (pc2 := 106) hk dX6_share_104 rfl rfl ?_
            refine aw_lload (pc2 := 108) hk dX6_share_106 rfl rfl ?_
            refine h_last (pc2 := 109) hk dX6_share_108 rfl hb1 rfl (by omega) (by decide) ?_
            refine aw_Jm (shS I L fn b J (i + 1)).2 (by rw [shS_2]; rw [if_pos hk1]) ?_
            refine aw_lload_n (pc2 := 110) hk dX6_share_109 rfl rfl ?_
            refine aw_lload (pc2 := 112) hk dX6_share_110 rfl rfl ?_
            refine aw_lsub (pc2 := 113) hk dX6_share_112 rfl ?_
            refine aw_topL (shS I L fn b J (i + 1)).1 (shS_1 I L fn b J i).symm ?_
            refine aw_lstore_n (pc2 := 114) hk dX6_share_113 rfl (by decide) ?_
            show AW K Q _ _ 114 [_, _, _, _, _, _, _, _, _, _, _] _ _ _
            refine aw_iinc1 (pc2 := 117) hk dX6_share_114 rfl rfl (by decide) ?_
            show AW K Q _ _ 117 [_, _, _, _, _, _, _, _, _, _, _] _ _ _
            refine aw_goto (tgt := 8) hk dX6_share_117 (by decide) ?_
            refine aw_fg 6 ?_
            refine aw_fg 7 ?_
            refine aw_fg 9 ?_
            exact ih (i + 1) (by omega) (by omega)
  refine aw_aload_n (pc2 := 1) hk dX6_share_0 rfl rfl ?_
  refine aw_get (pc2 := 4) hk ckX0 10 dX6_share_1 rfl fl_X6_274 (by decide) (o_X0 hb) rfl ?_
  refine aw_lstore_n (pc2 := 5) hk dX6_share_4 rfl (by decide) ?_
  show AW K Q _ _ 5 [_, _, _, _, _, _, _, _, _, _, _] _ _ _
  refine aw_iconst (v := 0) (pc2 := 6) hk dX6_share_5 rfl (by decide) ?_
  refine aw_istore (pc2 := 8) hk dX6_share_6 rfl (by decide) ?_
  show AW K Q _ _ 8 [_, _, _, _, _, _, _, _, _, _, _] _ _ _
  exact loop (rc + 1) 0 (by omega) (by omega)
