theorem MB.u2S {S : M2} {w g fc oc uc td : Nat} {md op : Bool} (h : MB S w g fc oc uc td md op) {b j : Nat} (v : Int32) (hj : b ≠ 78 ∨ (j ≠ 0 ∧ j ≠ 1 ∧ j ≠ 7 ∧ j ≠ 19 ∧ j ≠ 18 ∧ j ≠ 16 ∧ j ≠ 17 ∧ j ≠ 20)) : MB (u2 S b j v) w g fc oc uc td md op := by
  unfold MB at *
  have e : ∀ k, (k = 0 ∨ k = 1 ∨ k = 7 ∨ k = 19 ∨ k = 18 ∨ k = 16 ∨ k = 17 ∨ k = 20) → u2 S b j v 78 k = S 78 k := fun k hk => by
    simp only [u2]
    exact if_neg (by omega)
  rw [e 0 (by decide), e 1 (by decide), e 7 (by decide), e 19 (by decide), e 18 (by decide), e 16 (by decide), e 17 (by decide), e 20 (by decide)]
  exact h
def vl (I : M2) (f : Int32) (x : Nat) : Bool := decide (x < 256) && lft I x f
def adM (w g : Nat) (a b : Nat) : Prop := ∃ t, t < 4 ∧ nbM w g a t = some b
def opM (I : M2) (p : Nat) : Bool := I 81 p != 0 && I 83 p == 0
def opJ (o : Option Nat) : Int32 := match o with
  | some j => nI (j + 1)
  | none => 0
def MpR (I0 I : M2) (kk : Nat) (mk : Nat → Bool) (qu : Nat → Nat) (e : Nat) : Prop :=
  (∀ b, b ≠ 110 → b ≠ 111 → I b = I0 b) ∧ (∀ x, x < 256 → mk x = true → I 110 x = nI (kk + 1)) ∧ (∀ x, x < 256 → mk x = false → I 110 x = I0 110 x) ∧ (∀ j, j < e → I 111 j = nI (qu j))
theorem lft_of {I0 I : M2} {kk : Nat} {mk : Nat → Bool} {qu : Nat → Nat} {e : Nat} (h : MpR I0 I kk mk qu e) (x : Nat) (f : Int32) : lft I x f = lft I0 x f := by unfold lft; rw [h.1 79 (by decide) (by decide), h.1 83 (by decide) (by decide)]
set_option maxHeartbeats 800000 in
set_option maxRecDepth 100000 in
theorem m_spread {n : Nat} {d : D2} {I : M2} {J : J2} {S : M2} {L : J2} {R : R2} {Q : QT} {w g fc oc uc td : Nat} {md op : Bool} (hB : MB S w g fc oc uc td md op) {f : Int32} {st kk : Nat} (hst : st < 256) (hkk : kk < 256) (hS41 : S 78 41 = nI (kk + 1)) (hq : ∀ I2 : M2, (∀ b, b ≠ 110 → b ≠ 111 → b ≠ 113 → I2 b = I b) → (∀ x, x < 256 → (Rch (fun y => vl I f y && (I 110 y == 0)) (adM w g) st x → I2 110 x = nI (kk + 1)) ∧ (¬ Rch (fun y => vl I f y && (I 110 y == 0)) (adM w g) st x → I2 110 x = I 110 x)) → (∀ j, j ≠ kk → I2 113 j = I 113 j) → I2 113 kk = nI (cntB (fun x => cdec (x < 256 ∧ Rch (fun y => vl I f y && (I 110 y == 0)) (adM w g) st x)) 256) → Q none n (H5 d I2 J S L R)) : Calls yX7_spread cX7_spread 7 none rmX7_spread [.ref 78, .int (nI st), .int f] n (H5 d I J S L R) Q := by
  refine Calls.of (by decide) (Nat.le_of_ble_eq_true rfl) ?_
  intro K hk
  show AW K Q 0 0 0 [some (.ref 78), some (.int (nI st)), some (.int f), none, none, none, none] [] n (H5 d I J S L R)
  obtain ⟨hw, hg, hw1, hw6, hg1, hg6, hfc, hfc2, hoc, hoc6, huc, huc5, htd, htd4, hmd, hop⟩ := id hB
  have fin : ∀ (mk : Nat → Bool) (qu : Nat → Nat) (e : Nat) (I1 : M2) (p : Nat), e ≤ p → BF (fun y => vl I f y && (I 110 y == 0)) (nbM w g) st mk qu e p 0 → MpR I I1 kk mk qu e → AW K Q 0 0 112 [some (.ref 78), some (.int (nI st)), some (.int f), some (.int (nI e)), some (.int (nI p)), none, none] [] n (H5 d I1 J S L R) := by
    intro mk qu e I1 p hep hbf hr
    refine aw_aload_n (pc2 := 113) hk dX7_spread_112 rfl rfl ?_
    refine aw_get (pc2 := 116) hk ckX7 43 dX7_spread_113 rfl fl_X7_121 (by decide) (o_X7 rfl) rfl ?_
    refine aw_aload_n (pc2 := 117) hk dX7_spread_116 rfl rfl ?_
    refine aw_get (pc2 := 120) hk ckX7 41 dX7_spread_117 rfl fl_X7_184 (by decide) (o_X7 rfl) rfl ?_
    refine aw_iconst (v := 1) (pc2 := 121) hk dX7_spread_120 rfl (by decide) ?_
    refine aw_isub (pc2 := 122) hk dX7_spread_121 rfl ?_
    rw [hS41]
    refine aw_top (nI kk) (nI_pred kk) ?_
    refine aw_iload_n (pc2 := 123) hk dX7_spread_122 rfl rfl ?_
    refine h_iast (pc2 := 124) hk dX7_spread_123 rfl rfl rfl hkk (by decide) ?_
    refine aw_vret hk dX7_spread_124 (Nat.le_of_ble_eq_true rfl) (Nat.le_of_ble_eq_true rfl) ?_
    have hd := fun x => hbf.done hep x
    have e8 : ∀ x, u2 I1 113 kk (nI e) 110 x = I1 110 x := fun x => u2_a _ _ _ _ (by decide)
    refine hq (u2 I1 113 kk (nI e)) (fun b h1 h2 h3 => by rw [u2_row _ _ _ h3]; exact hr.1 b h1 h2) (fun x hx => ⟨fun h => by rw [e8]; exact hr.2.1 x hx ((hd x).mpr h), fun h => by rw [e8]; exact hr.2.2.1 x hx (by cases hm : mk x with | false => rfl | true => exact absurd ((hd x).mp hm) h)⟩) (fun j hj => by rw [u2_j _ _ _ _ hj, hr.1 113 (by decide) (by decide)]) ?_
    rw [u2_s, hbf.2.2.2.1]
    congr 1
    refine cntB_eq 256 (fun x hx => ?_)
    cases hm : mk x with
    | true => exact (cdec_t.mpr ⟨hx, (hd x).mp hm⟩).symm
    | false => exact (cdec_f.mpr (fun h => by rw [(hd x).mpr h.2] at hm; cases hm)).symm
  have loop : ∀ (k p : Nat) (mk : Nat → Bool) (qu : Nat → Nat) (e : Nat) (I1 : M2), p ≤ e → 257 ≤ p + k → BF (fun y => vl I f y && (I 110 y == 0)) (nbM w g) st mk qu e p 0 → MpR I I1 kk mk qu e → AW K Q 0 0 22 [some (.ref 78), some (.int (nI st)), some (.int f), some (.int (nI e)), some (.int (nI p)), none, none] [] n (H5 d I1 J S L R) := by
    intro k
    induction k with
    | zero =>
      intro p mk qu e I1 h1 h2 hbf hr
      have h3 : e ≤ 256 := by rw [hbf.2.2.2.1]; exact cntB_le _ _
      omega
    | succ k ih =>
      intro p mk qu e I1 hpe0 hpk hbf hr
      have he6 : e ≤ 256 := by rw [hbf.2.2.2.1]; exact cntB_le _ _
      have loop2 : ∀ (k2 s : Nat) (mk : Nat → Bool) (qu : Nat → Nat) (e : Nat) (I1 : M2), s ≤ 4 → 5 ≤ s + k2 → p < e → BF (fun y => vl I f y && (I 110 y == 0)) (nbM w g) st mk qu e p s → MpR I I1 kk mk qu e → AW K Q 0 0 31 [some (.ref 78), some (.int (nI st)), some (.int f), some (.int (nI e)), some (.int (nI p)), some (.int (nI s)), none] [] n (H5 d I1 J S L R) := by
        intro k2
        induction k2 with
        | zero => intro s mk qu e I1 h1 h2; omega
        | succ k2 ih2 =>
          intro s mk qu e I1 hs4 hsk4 hpe hbf hr
          have he6 : e ≤ 256 := by rw [hbf.2.2.2.1]; exact cntB_le _ _
          have hp6 : p < 256 := by omega
          have hq6 : qu p < 256 := (hbf.1 _ (hbf.2.1 p hpe)).1
          refine aw_iload (pc2 := 33) hk dX7_spread_31 rfl rfl ?_
          refine aw_iconst (v := 4) (pc2 := 34) hk dX7_spread_33 rfl (by decide) ?_
          refine aw_icN_ge (x := s) (y := 4) (tgt := 106) (pc2 := 37) hk dX7_spread_34 (by decide) rfl rfl rfl (by omega) (by omega) (fun c34 => ?_) (fun c34 => ?_)
          · obtain rfl : s = 4 := by omega
            refine aw_iinc1 (pc2 := 109) hk dX7_spread_106 rfl rfl (by decide) ?_
            refine aw_goto (tgt := 22) hk dX7_spread_109 (by decide) ?_
            refine aw_fg 5 ?_
            exact ih (p + 1) mk qu e I1 (by omega) (by omega) hbf.next hr
          · refine aw_aload_n (pc2 := 38) hk dX7_spread_37 rfl rfl ?_
            refine aw_aload_n (pc2 := 39) hk dX7_spread_38 rfl rfl ?_
            refine aw_get (pc2 := 42) hk ckX7 40 dX7_spread_39 rfl fl_X7_115 (by decide) (o_X7 rfl) rfl ?_
            refine aw_iload (pc2 := 44) hk dX7_spread_42 rfl rfl ?_
            refine h_iald (pc2 := 45) hk dX7_spread_44 rfl rfl rfl hp6 (by decide) ?_
            rw [hr.2.2.2 p hpe]
            refine aw_iload (pc2 := 47) hk dX7_spread_45 rfl rfl ?_
            refine aw_cV (rm2 := rmX7_beside) (pc2 := 50) hk veX7_beside dX7_spread_47 rfl ml_X7_187 ⟨(Nat.le_of_ble_eq_true rfl), (Nat.le_of_ble_eq_true rfl)⟩ [_, _] rfl rfl (Nat.le_of_ble_eq_true rfl) (Nat.le_of_ble_eq_true rfl) (Nat.le_of_ble_eq_true rfl) (o_X7 rfl) (m_beside hB hq6 (by omega) ?_)
            refine aw_istore (pc2 := 52) hk dX7_spread_50 rfl (by decide) ?_
            show AW K Q _ _ 52 [_, _, _, _, _, _, _] _ _ _
            refine aw_iload (pc2 := 54) hk dX7_spread_52 rfl rfl ?_
            refine aw_iconst (v := -1) (pc2 := 55) hk dX7_spread_54 rfl (by decide) ?_
            refine aw_icmp_eq (tgt := 100) (pc2 := 58) hk dX7_spread_55 (by decide) rfl (fun c55 => ?_) (fun c55 => ?_)
            · have hnb : nbM w g (qu p) s = none := opI_none c55 (fun q h => plc_lt hw6 hg6 h)
              refine aw_iinc1 (pc2 := 103) hk dX7_spread_100 rfl rfl (by decide) ?_
              refine aw_goto (tgt := 31) hk dX7_spread_103 (by decide) ?_
              refine aw_fg 6 ?_
              exact ih2 (s + 1) mk qu e I1 (by omega) (by omega) hpe (hbf.skip (fun b h1 _ => by rw [hnb] at h1; cases h1)) hr
            · obtain ⟨b, hb1, hb2⟩ := opI_some c55
              have hb3 : b < 256 := plc_lt hw6 hg6 hb1
              refine aw_aload_n (pc2 := 59) hk dX7_spread_58 rfl rfl ?_
              refine aw_iload (pc2 := 61) hk dX7_spread_59 rfl rfl ?_
              refine aw_iload_n (pc2 := 62) hk dX7_spread_61 rfl rfl ?_
              refine aw_cV (rm2 := rmX7_isLeft) (pc2 := 65) hk veX7_isLeft dX7_spread_62 rfl ml_X7_190 ⟨(Nat.le_of_ble_eq_true rfl), (Nat.le_of_ble_eq_true rfl)⟩ [_, _] rfl rfl (Nat.le_of_ble_eq_true rfl) (Nat.le_of_ble_eq_true rfl) (Nat.le_of_ble_eq_true rfl) (o_X7 rfl) (m_isLeft hb2 hb3 ?_)
              refine aw_if_eq (tgt := 100) (pc2 := 68) hk dX7_spread_65 (by decide) rfl (fun c65 => ?_) (fun c65 => ?_)
              · have hsk : (vl I f b && (I 110 b == 0)) = true → mk b = true := fun hv => by
                  exfalso
                  have hlb : lft I b f = false := by rw [← lft_of hr b f]; exact bi_ff c65
                  simp [vl, hlb] at hv
                refine aw_iinc1 (pc2 := 103) hk dX7_spread_100 rfl rfl (by decide) ?_
                refine aw_goto (tgt := 31) hk dX7_spread_103 (by decide) ?_
                refine aw_fg 6 ?_
                exact ih2 (s + 1) mk qu e I1 (by omega) (by omega) hpe (hbf.skip (fun b2 h1 h2 => by
                  obtain rfl : b = b2 := Option.some.inj (hb1.symm.trans h1)
                  exact hsk h2)) hr
              · refine aw_aload_n (pc2 := 69) hk dX7_spread_68 rfl rfl ?_
                refine aw_get (pc2 := 72) hk ckX7 39 dX7_spread_69 rfl fl_X7_112 (by decide) (o_X7 rfl) rfl ?_
                refine aw_iload (pc2 := 74) hk dX7_spread_72 rfl rfl ?_
                refine h_iald (pc2 := 75) hk dX7_spread_74 rfl rfl hb2 hb3 (by decide) ?_
                refine aw_if_ne (tgt := 100) (pc2 := 78) hk dX7_spread_75 (by decide) rfl (fun c75 => ?_) (fun c75 => ?_)
                · have hsk : (vl I f b && (I 110 b == 0)) = true → mk b = true := fun hv => by
                    cases hm : mk b with
                    | true => rfl
                    | false =>
                      exfalso
                      rw [hr.2.2.1 b hb3 hm] at c75
                      simp at hv
                      exact c75 hv.2
                  refine aw_iinc1 (pc2 := 103) hk dX7_spread_100 rfl rfl (by decide) ?_
                  refine aw_goto (tgt := 31) hk dX7_spread_103 (by decide) ?_
                  refine aw_fg 6 ?_
                  exact ih2 (s + 1) mk qu e I1 (by omega) (by omega) hpe (hbf.skip (fun b2 h1 h2 => by
                    obtain rfl : b = b2 := Option.some.inj (hb1.symm.trans h1)
                    exact hsk h2)) hr
                · have hlb : lft I b f = true := by rw [← lft_of hr b f]; exact bi_tt c65
                  have hmf : mk b = false := by
                    cases hm : mk b with
                    | false => rfl
                    | true => exact absurd ((hr.2.1 b hb3 hm).symm.trans c75) (nI_ne0 (by omega) (by omega))
                  have hI0 : I 110 b = 0 := by rw [← hr.2.2.1 b hb3 hmf]; exact c75
                  have hvb : (vl I f b && (I 110 b == 0)) = true := by simp [vl, hb3, hlb, hI0]
                  obtain ⟨he6b, hbf2⟩ := hbf.mark (qu' := fun j => if j = e then b else qu j) hpe c34 hb1 hb3 hvb hmf (if_pos rfl) (fun j hj => if_neg (by omega))
                  refine aw_aload_n (pc2 := 79) hk dX7_spread_78 rfl rfl ?_
                  refine aw_get (pc2 := 82) hk ckX7 39 dX7_spread_79 rfl fl_X7_112 (by decide) (o_X7 rfl) rfl ?_
                  refine aw_iload (pc2 := 84) hk dX7_spread_82 rfl rfl ?_
                  refine aw_aload_n (pc2 := 85) hk dX7_spread_84 rfl rfl ?_
                  refine aw_get (pc2 := 88) hk ckX7 41 dX7_spread_85 rfl fl_X7_184 (by decide) (o_X7 rfl) rfl ?_
                  rw [hS41]
                  refine h_iast (pc2 := 89) hk dX7_spread_88 rfl rfl hb2 hb3 (by decide) ?_
                  rw [hb2]
                  refine aw_aload_n (pc2 := 90) hk dX7_spread_89 rfl rfl ?_
                  refine aw_get (pc2 := 93) hk ckX7 40 dX7_spread_90 rfl fl_X7_115 (by decide) (o_X7 rfl) rfl ?_
                  refine aw_iload_n (pc2 := 94) hk dX7_spread_93 rfl rfl ?_
                  refine aw_iload (pc2 := 96) hk dX7_spread_94 rfl rfl ?_
                  refine h_iast (pc2 := 97) hk dX7_spread_96 rfl rfl rfl (by omega) (by decide) ?_
                  have hr2 : MpR I (u2 (u2 I1 110 b (nI (kk + 1))) 111 e (nI b)) kk (fun x => x == b || mk x) (fun j => if j = e then b else qu j) (e + 1) := by
                    refine ⟨fun c h1 h2 => by rw [u2_row _ _ _ h2, u2_row _ _ _ h1]; exact hr.1 c h1 h2, fun x hx h => ?_, fun x hx h => ?_, fun j hj => ?_⟩
                    · rw [u2_a _ _ _ _ (by decide)]
                      by_cases hxb : x = b
                      · subst hxb; exact u2_s _ _ _ _
                      · rw [u2_j _ _ _ _ hxb]; exact hr.2.1 x hx (by simpa [hxb] using h)
                    · have hxb : x ≠ b := by intro h9; subst h9; simp at h
                      rw [u2_a _ _ _ _ (by decide), u2_j _ _ _ _ hxb]
                      exact hr.2.2.1 x hx (by simpa [hxb] using h)
                    · by_cases hje : j = e
                      · subst hje; rw [u2_s]; simp
                      · rw [u2_j _ _ _ _ hje, u2_a _ _ _ _ (by decide)]; simp only [hje, if_false]; exact hr.2.2.2 j (by omega)
                  refine aw_iinc1 (pc2 := 100) hk dX7_spread_97 rfl rfl (by decide) ?_
                  refine aw_iinc1 (pc2 := 103) hk dX7_spread_100 rfl rfl (by decide) ?_
                  refine aw_goto (tgt := 31) hk dX7_spread_103 (by decide) ?_
                  refine aw_fg 6 ?_
                  exact ih2 (s + 1) _ _ (e + 1) _ (by omega) (by omega) (by omega) hbf2 hr2
      refine aw_iload (pc2 := 24) hk dX7_spread_22 rfl rfl ?_
      refine aw_iload_n (pc2 := 25) hk dX7_spread_24 rfl rfl ?_
      refine aw_icN_ge (x := p) (y := e) (tgt := 112) (pc2 := 28) hk dX7_spread_25 (by decide) rfl rfl rfl (by omega) (by omega) (fun c25 => ?_) (fun c25 => ?_)
      · exact fin mk qu e I1 p c25 hbf hr
      · refine aw_iconst (v := 0) (pc2 := 29) hk dX7_spread_28 rfl (by decide) ?_
        refine aw_istore (pc2 := 31) hk dX7_spread_29 rfl (by decide) ?_
        show AW K Q _ _ 31 [_, _, _, _, _, _, _] _ _ _
        exact loop2 5 0 mk qu e I1 (by omega) (by omega) c25 hbf hr
  refine aw_iconst (v := 1) (pc2 := 1) hk dX7_spread_0 rfl (by decide) ?_
  refine aw_istore_n (pc2 := 2) hk dX7_spread_1 rfl (by decide) ?_
  show AW K Q _ _ 2 [_, _, _, _, _, _, _] _ _ _
  refine aw_aload_n (pc2 := 3) hk dX7_spread_2 rfl rfl ?_
  refine aw_get (pc2 := 6) hk ckX7 40 dX7_spread_3 rfl fl_X7_115 (by decide) (o_X7 rfl) rfl ?_
  refine aw_iconst (v := nI 0) (pc2 := 7) hk dX7_spread_6 rfl (by decide) ?_
  refine aw_iload_n (pc2 := 8) hk dX7_spread_7 rfl rfl ?_
  refine h_iast (pc2 := 9) hk dX7_spread_8 rfl rfl rfl (by omega) (by decide) ?_
  refine aw_aload_n (pc2 := 10) hk dX7_spread_9 rfl rfl ?_
  refine aw_get (pc2 := 13) hk ckX7 39 dX7_spread_10 rfl fl_X7_112 (by decide) (o_X7 rfl) rfl ?_
  refine aw_iload_n (pc2 := 14) hk dX7_spread_13 rfl rfl ?_
  refine aw_aload_n (pc2 := 15) hk dX7_spread_14 rfl rfl ?_
  refine aw_get (pc2 := 18) hk ckX7 41 dX7_spread_15 rfl fl_X7_184 (by decide) (o_X7 rfl) rfl ?_
  rw [hS41]
  refine h_iast (pc2 := 19) hk dX7_spread_18 rfl rfl rfl hst (by decide) ?_
  refine aw_iconst (v := 0) (pc2 := 20) hk dX7_spread_19 rfl (by decide) ?_
  refine aw_istore (pc2 := 22) hk dX7_spread_20 rfl (by decide) ?_
  show AW K Q _ _ 22 [_, _, _, _, _, _, _] _ _ _
  refine aw_lv [some (.ref 78), some (.int (nI st)), some (.int f), some (.int (nI 1)), some (.int (nI 0)), none, none] rfl ?_
  refine loop 257 0 (fun x => x == st) (fun _ => st) 1 (u2 (u2 I 111 0 (nI st)) 110 st (nI (kk + 1))) (by omega) (by omega) (BF.init hst rfl) ⟨fun b h1 h2 => by rw [u2_row _ _ _ h1, u2_row _ _ _ h2], fun x hx h => ?_, fun x hx h => ?_, fun j hj => by rw [show j = 0 by omega, u2_a _ _ _ _ (by decide), u2_s]⟩
  · have h9 : x = st := by simpa using h
    rw [h9, u2_s]
  · have h9 : x ≠ st := by simpa using h
    rw [u2_j _ _ _ _ h9, u2_a _ _ _ _ (by decide)]
