/-- cells of a field that are left, as a set -/
def vk (I : M2) (f : Int32) (x : Nat) : Bool := decide (x < 256) && kpt I x f
def adC (w g : Nat) (a b : Nat) : Prop := ∃ t, t < 4 ∧ nbC w g a t = some b
def SpR (I0 I : M2) (kk st : Nat) (mk : Nat → Bool) (qu : Nat → Nat) (e : Nat) : Prop :=
  (∀ b, b ≠ 8 → b ≠ 10 → b ≠ 11 → b ≠ 12 → I b = I0 b) ∧ (∀ j, j ≠ kk → I 10 j = I0 10 j ∧ I 11 j = I0 11 j) ∧ I 10 kk = nI st ∧
  (∀ x, x < 256 → mk x = true → I 8 x = nI kk) ∧ (∀ x, x < 256 → mk x = false → I 8 x = I0 8 x) ∧ (∀ j, j < e → I 12 j = nI (qu j))
def SpW (I0 I : M2) (kk w g : Nat) (qu : Nat → Nat) (e p s : Nat) : Prop := (I 11 kk = 0 ∨ I 11 kk = 1) ∧ (I 11 kk = 1 ↔ WY (opl I0) (nbC w g) qu e p s)
theorem opl_of {I0 I : M2} {kk st : Nat} {mk : Nat → Bool} {qu : Nat → Nat} {e : Nat} (h : SpR I0 I kk st mk qu e) (x : Nat) : opl I x = opl I0 x := by unfold opl; rw [h.1 4 (by decide) (by decide) (by decide) (by decide), h.1 6 (by decide) (by decide) (by decide) (by decide)]
theorem kpt_of {I0 I : M2} {kk st : Nat} {mk : Nat → Bool} {qu : Nat → Nat} {e : Nat} (h : SpR I0 I kk st mk qu e) (x : Nat) (f : Int32) : kpt I x f = kpt I0 x f := by unfold kpt; rw [h.1 2 (by decide) (by decide) (by decide) (by decide), h.1 6 (by decide) (by decide) (by decide) (by decide)]
theorem SpW.skip {I0 I : M2} {kk w g : Nat} {qu : Nat → Nat} {e p s : Nat} (h : SpW I0 I kk w g qu e p s) (hb : ∀ b, nbC w g (qu p) s = some b → opl I0 b = false) : SpW I0 I kk w g qu e p (s + 1) := by
  refine ⟨h.1, h.2.trans ⟨fun ⟨j, t, b, h1, h2⟩ => ⟨j, t, b, by omega, h2⟩, fun ⟨j, t, b, h1, h2, h3, h4, h5⟩ => ?_⟩⟩
  by_cases hc : j = p ∧ t = s
  · obtain ⟨rfl, rfl⟩ := hc
    rw [hb b h4] at h5
    cases h5
  · exact ⟨j, t, b, by omega, h2, h3, h4, h5⟩
theorem SpW.next {I0 I : M2} {kk w g : Nat} {qu : Nat → Nat} {e p : Nat} (h : SpW I0 I kk w g qu e p 4) : SpW I0 I kk w g qu e (p + 1) 0 :=
  ⟨h.1, h.2.trans ⟨fun ⟨j, t, b, h1, h2⟩ => ⟨j, t, b, by omega, h2⟩, fun ⟨j, t, b, h1, h2, h3, h4⟩ => ⟨j, t, b, by omega, h2, h3, h4⟩⟩⟩
theorem SpW.grow {I0 I I' : M2} {kk w g : Nat} {qu qu' : Nat → Nat} {e p s : Nat} (h : SpW I0 I kk w g qu e p s) (hp : p < e) (hI : I' 11 kk = I 11 kk) (hq : ∀ j, j < e → qu' j = qu j) : SpW I0 I' kk w g qu' (e + 1) p s := by
  refine ⟨by rw [hI]; exact h.1, by rw [hI]; exact h.2.trans ⟨fun ⟨j, t, b, h1, h2, h3, h4, h5⟩ => ⟨j, t, b, h1, by omega, h3, by rw [hq j h2]; exact h4, h5⟩, fun ⟨j, t, b, h1, h2, h3, h4, h5⟩ => ⟨j, t, b, h1, by omega, h3, by rw [hq j (by omega)] at h4; exact h4, h5⟩⟩⟩
set_option maxHeartbeats 800000 in
set_option maxRecDepth 100000 in
theorem t_spread {n : Nat} {d : D2} {I : M2} {J : J2} {S : M2} {L : J2} {R : R2} {Q : QT} {w g : Nat} (hw : S 1 0 = nI w) (hg : S 1 1 = nI g) (hw6 : w ≤ 16) (hg6 : g ≤ 16) {f : Int32} {st kk : Nat} (hst : st < 256) (hkk : kk < 256) (hkk0 : S 7 0 = nI kk) (hpa : ∀ x, x < 256 → ¬ I 8 x = nI kk) (hlane : ∀ b, b < 256 → opl I b = true → kpt I b f = false) (hq : ∀ I2 : M2, (∀ b, b ≠ 8 → b ≠ 9 → b ≠ 10 → b ≠ 11 → b ≠ 12 → I2 b = I b) → (∀ x, x < 256 → (Rch (fun y => vk I f y && (I 8 y == -1)) (adC w g) st x → I2 8 x = nI kk) ∧ (¬ Rch (fun y => vk I f y && (I 8 y == -1)) (adC w g) st x → I2 8 x = I 8 x)) → (∀ j, j ≠ kk → I2 9 j = I 9 j ∧ I2 10 j = I 10 j ∧ I2 11 j = I 11 j) → I2 9 kk = nI (cntB (fun x => cdec (x < 256 ∧ Rch (fun y => vk I f y && (I 8 y == -1)) (adC w g) st x)) 256) → I2 10 kk = nI st → (I2 11 kk = 0 ∨ I2 11 kk = 1) → (I2 11 kk = 1 ↔ ∃ x b, (x < 256 ∧ Rch (fun y => vk I f y && (I 8 y == -1)) (adC w g) st x) ∧ adC w g x b ∧ opl I b = true) → Q none n (H5 d I2 J (u2 S 7 0 (nI (kk + 1))) L R)) : Calls yX5_spread cX5_spread 9 none rmX5_spread [.ref 7, .ref 1, .int f, .int (nI st)] n (H5 d I J S L R) Q := by
  refine Calls.of (by decide) (Nat.le_of_ble_eq_true rfl) ?_
  intro K hk
  show AW K Q 0 0 0 [some (.ref 7), some (.ref 1), some (.int f), some (.int (nI st)), none, none, none, none, none] [] n (H5 d I J S L R)
  have fin : ∀ (mk : Nat → Bool) (qu : Nat → Nat) (e : Nat) (I1 : M2) (p : Nat), e ≤ p → BF (fun y => vk I f y && (I 8 y == -1)) (nbC w g) st mk qu e p 0 → SpR I I1 kk st mk qu e → SpW I I1 kk w g qu e p 0 → AW K Q 0 0 186 [some (.ref 7), some (.ref 1), some (.int f), some (.int (nI st)), some (.int (nI kk)), some (.int (nI e)), some (.int (nI p)), none, none] [] n (H5 d I1 J (u2 S 7 0 (nI (kk + 1))) L R) := by
    intro mk qu e I1 p hep hbf hr hwy
    refine aw_aload_n (pc2 := 187) hk dX5_spread_186 rfl rfl ?_
    refine aw_get (v := .ref 9) (pc2 := 190) hk ckX5 3 dX5_spread_187 rfl fl_X5_15 (by decide) (o_X5 rfl) rfl ?_
    refine aw_iload (pc2 := 192) hk dX5_spread_190 rfl rfl ?_
    refine aw_iload (pc2 := 194) hk dX5_spread_192 rfl rfl ?_
    refine h_iast (pc2 := 195) hk dX5_spread_194 rfl rfl rfl hkk (by decide) ?_
    refine aw_vret hk dX5_spread_195 (Nat.le_of_ble_eq_true rfl) (Nat.le_of_ble_eq_true rfl) ?_
    have hd := fun x => hbf.done hep x
    have e8 : ∀ x, u2 I1 9 kk (nI e) 8 x = I1 8 x := fun x => u2_a _ _ _ _ (by decide)
    have hmk : ∀ x, x < 256 → (mk x = true ↔ I1 8 x = nI kk) := fun x hx => ⟨fun h => hr.2.2.2.1 x hx h, fun h => by
      cases hm : mk x with
      | true => rfl
      | false => exact absurd ((hr.2.2.2.2.1 x hx hm).symm.trans h) (hpa x hx)⟩
    refine hq (u2 I1 9 kk (nI e)) (fun b h1 h2 h3 h4 h5 => by rw [u2_row _ _ _ h2]; exact hr.1 b h1 h3 h4 h5) (fun x hx => ⟨fun h => by rw [e8]; exact hr.2.2.2.1 x hx ((hd x).mpr h), fun h => by rw [e8]; exact hr.2.2.2.2.1 x hx (by cases hm : mk x with | false => rfl | true => exact absurd ((hd x).mp hm) h)⟩) (fun j hj => ⟨by rw [u2_j _ _ _ _ hj, hr.1 9 (by decide) (by decide) (by decide) (by decide)], by rw [u2_a _ _ _ _ (by decide)]; exact (hr.2.1 j hj).1, by rw [u2_a _ _ _ _ (by decide)]; exact (hr.2.1 j hj).2⟩) ?_ (by rw [u2_a _ _ _ _ (by decide)]; exact hr.2.2.1) (by rw [u2_a _ _ _ _ (by decide)]; exact hwy.1) ?_
    · rw [u2_s, hbf.2.2.2.1]
      congr 1
      refine cntB_eq 256 (fun x hx => ?_)
      cases hm : mk x with
      | true => exact (cdec_t.mpr ⟨hx, (hd x).mp hm⟩).symm
      | false => exact (cdec_f.mpr (fun h => by rw [(hd x).mpr h.2] at hm; cases hm)).symm
    · rw [u2_a _ _ _ _ (by decide)]
      refine hwy.2.trans ⟨fun ⟨j, t, b, h1, h2, h3, h4, h5⟩ => ⟨qu j, b, ⟨(hbf.1 _ (hbf.2.1 j h2)).1, (hd _).mp (hbf.2.1 j h2)⟩, ⟨t, h3, h4⟩, h5⟩, fun ⟨x, b, h1, ⟨t, h3, h4⟩, h5⟩ => ?_⟩
      obtain ⟨j, g1, g2⟩ := hbf.2.2.1 x ((hd x).mpr h1.2)
      exact ⟨j, t, b, by omega, g1, h3, by rw [g2]; exact h4, h5⟩
  have loop : ∀ (k p : Nat) (mk : Nat → Bool) (qu : Nat → Nat) (e : Nat) (I1 : M2), p ≤ e → 257 ≤ p + k → BF (fun y => vk I f y && (I 8 y == -1)) (nbC w g) st mk qu e p 0 → SpR I I1 kk st mk qu e → SpW I I1 kk w g qu e p 0 → AW K Q 0 0 53 [some (.ref 7), some (.ref 1), some (.int f), some (.int (nI st)), some (.int (nI kk)), some (.int (nI e)), some (.int (nI p)), none, none] [] n (H5 d I1 J (u2 S 7 0 (nI (kk + 1))) L R) := by
    intro k
    induction k with
    | zero =>
      intro p mk qu e I1 h1 h2 hbf hr hwy
      have h3 : e ≤ 256 := by rw [hbf.2.2.2.1]; exact cntB_le _ _
      omega
    | succ k ih =>
      intro p mk qu e I1 hpe0 hpk hbf hr hwy
      have he6 : e ≤ 256 := by rw [hbf.2.2.2.1]; exact cntB_le _ _
      have loop2 : ∀ (k2 s : Nat) (mk : Nat → Bool) (qu : Nat → Nat) (e : Nat) (I1 : M2), s ≤ 4 → 5 ≤ s + k2 → p < e → BF (fun y => vk I f y && (I 8 y == -1)) (nbC w g) st mk qu e p s → SpR I I1 kk st mk qu e → SpW I I1 kk w g qu e p s → AW K Q 0 0 71 [some (.ref 7), some (.ref 1), some (.int f), some (.int (nI st)), some (.int (nI kk)), some (.int (nI e)), some (.int (nI p)), some (.int (nI s)), none] [] n (H5 d I1 J (u2 S 7 0 (nI (kk + 1))) L R) := by
        intro k2
        induction k2 with
        | zero => intro s mk qu e I1 h1 h2; omega
        | succ k2 ih2 =>
          intro s mk qu e I1 hs4 hsk hpe hbf hr hwy
          have he6 : e ≤ 256 := by rw [hbf.2.2.2.1]; exact cntB_le _ _
          have hp6 : p < 256 := by omega
          have hq6 : qu p < 256 := (hbf.1 _ (hbf.2.1 p hpe)).1
          refine aw_iload (pc2 := 73) hk dX5_spread_71 rfl rfl ?_
          refine aw_iconst (v := 4) (pc2 := 74) hk dX5_spread_73 rfl (by decide) ?_
          refine aw_icN_ge (x := s) (y := 4) (tgt := 180) (pc2 := 77) hk dX5_spread_74 (by decide) rfl rfl rfl (by omega) (by omega) (fun c74 => ?_) (fun c74 => ?_)
          · obtain rfl : s = 4 := by omega
            refine aw_iinc1 (pc2 := 183) hk dX5_spread_180 rfl rfl (by decide) ?_
            refine aw_goto (tgt := 53) hk dX5_spread_183 (by decide) ?_
            refine aw_fg 7 ?_
            exact ih (p + 1) mk qu e I1 (by omega) (by omega) hbf.next hr hwy.next
          · refine aw_aload_n (pc2 := 78) hk dX5_spread_77 rfl rfl ?_
            refine aw_aload_n (pc2 := 79) hk dX5_spread_78 rfl rfl ?_
            refine aw_get (v := .ref 12) (pc2 := 82) hk ckX5 6 dX5_spread_79 rfl fl_X5_25 (by decide) (o_X5 rfl) rfl ?_
            refine aw_iload (pc2 := 84) hk dX5_spread_82 rfl rfl ?_
            refine h_iald (pc2 := 85) hk dX5_spread_84 rfl rfl rfl hp6 (by decide) ?_
            rw [hr.2.2.2.2.2 p hpe]
            refine aw_iload (pc2 := 87) hk dX5_spread_85 rfl rfl ?_
            refine aw_cV (rm2 := rmX2_beside) (pc2 := 90) hk veX2_beside dX5_spread_87 rfl ml_X5_49 ⟨(Nat.le_of_ble_eq_true rfl), (Nat.le_of_ble_eq_true rfl)⟩ [_, _] rfl rfl (Nat.le_of_ble_eq_true rfl) (Nat.le_of_ble_eq_true rfl) (Nat.le_of_ble_eq_true rfl) (o_X2 rfl) (t_beside (by rw [u2_a _ _ _ _ (by decide)]; exact hw) (by rw [u2_a _ _ _ _ (by decide)]; exact hg) hw6 hg6 hq6 (by omega) ?_)
            refine aw_istore (pc2 := 92) hk dX5_spread_90 rfl (by decide) ?_
            show AW K Q _ _ 92 [_, _, _, _, _, _, _, _, _] _ _ _
            refine aw_iload (pc2 := 94) hk dX5_spread_92 rfl rfl ?_
            refine aw_iconst (v := -1) (pc2 := 95) hk dX5_spread_94 rfl (by decide) ?_
            refine aw_icmp_eq (tgt := 118) (pc2 := 98) hk dX5_spread_95 (by decide) rfl (fun c95 => ?_) (fun c95 => ?_)
            · refine aw_iload (pc2 := 120) hk dX5_spread_118 rfl rfl ?_
              refine aw_iconst (v := -1) (pc2 := 121) hk dX5_spread_120 rfl (by decide) ?_
              refine aw_icmp_eq (tgt := 174) (pc2 := 124) hk dX5_spread_121 (by decide) rfl (fun c121 => ?_) (fun c121 => absurd c95 c121)
              have hnb : nbC w g (qu p) s = none := opI_none c95 (fun q h => plc_lt hw6 hg6 h)
              refine aw_iinc1 (pc2 := 177) hk dX5_spread_174 rfl rfl (by decide) ?_
              refine aw_goto (tgt := 71) hk dX5_spread_177 (by decide) ?_
              refine aw_fg 8 ?_
              exact ih2 (s + 1) mk qu e I1 (by omega) (by omega) hpe (hbf.skip (fun b h1 _ => by rw [hnb] at h1; cases h1)) hr (hwy.skip (fun b h1 => by rw [hnb] at h1; cases h1))
            · obtain ⟨b, hb1, hb2⟩ := opI_some c95
              have hb3 : b < 256 := plc_lt hw6 hg6 hb1
              refine aw_aload_n (pc2 := 99) hk dX5_spread_98 rfl rfl ?_
              refine aw_iload (pc2 := 101) hk dX5_spread_99 rfl rfl ?_
              refine aw_cV (rm2 := rmX2_isOpenLane) (pc2 := 104) hk veX2_isOpenLane dX5_spread_101 rfl ml_X5_53 ⟨(Nat.le_of_ble_eq_true rfl), (Nat.le_of_ble_eq_true rfl)⟩ [_] rfl rfl (Nat.le_of_ble_eq_true rfl) (Nat.le_of_ble_eq_true rfl) (Nat.le_of_ble_eq_true rfl) (o_X2 rfl) (t_isOpenLane hb2 hb3 ?_)
              refine aw_if_eq (tgt := 118) (pc2 := 107) hk dX5_spread_104 (by decide) rfl (fun c104 => ?_) (fun c104 => ?_)
              · refine aw_iload (pc2 := 120) hk dX5_spread_118 rfl rfl ?_
                refine aw_iconst (v := -1) (pc2 := 121) hk dX5_spread_120 rfl (by decide) ?_
                refine aw_icmp_eq (tgt := 174) (pc2 := 124) hk dX5_spread_121 (by decide) rfl (fun c121 => absurd c121 c95) (fun c121 => ?_)
                have hop : opl I b = false := by rw [← opl_of hr b]; exact bi_ff c104
                refine aw_aload_n (pc2 := 125) hk dX5_spread_124 rfl rfl ?_
                refine aw_get (v := .ref 8) (pc2 := 128) hk ckX5 2 dX5_spread_125 rfl fl_X5_9 (by decide) (o_X5 rfl) rfl ?_
                refine aw_iload (pc2 := 130) hk dX5_spread_128 rfl rfl ?_
                refine h_iald (pc2 := 131) hk dX5_spread_130 rfl rfl hb2 hb3 (by decide) ?_
                refine aw_iconst (v := -1) (pc2 := 132) hk dX5_spread_131 rfl (by decide) ?_
                refine aw_icmp_ne (tgt := 174) (pc2 := 135) hk dX5_spread_132 (by decide) rfl (fun c132 => ?_) (fun c132 => ?_)
                · have hsk : (vk I f b && (I 8 b == -1)) = true → mk b = true := fun hv => by
                    first
                      | (cases hm : mk b with
                         | true => rfl
                         | false =>
                           exfalso
                           rw [hr.2.2.2.2.1 b hb3 hm] at c132
                           simp at hv
                           exact c132 hv.2)
                      | (exfalso
                         have hkb : kpt I b f = false := by rw [← kpt_of hr b f]; exact bi_ff c142
                         simp [vk, hkb] at hv)
                  refine aw_iinc1 (pc2 := 177) hk dX5_spread_174 rfl rfl (by decide) ?_
                  refine aw_goto (tgt := 71) hk dX5_spread_177 (by decide) ?_
                  refine aw_fg 8 ?_
                  exact ih2 (s + 1) mk qu e I1 (by omega) (by omega) hpe (hbf.skip (fun b2 h1 h2 => by
                    obtain rfl : b = b2 := Option.some.inj (hb1.symm.trans h1)
                    exact hsk h2)) hr (hwy.skip (fun b2 h1 => by
                    obtain rfl : b = b2 := Option.some.inj (hb1.symm.trans h1)
                    exact hop))
                · refine aw_aload_n (pc2 := 136) hk dX5_spread_135 rfl rfl ?_
                  refine aw_iload (pc2 := 138) hk dX5_spread_136 rfl rfl ?_
                  refine aw_iload_n (pc2 := 139) hk dX5_spread_138 rfl rfl ?_
                  refine aw_cV (rm2 := rmX2_isKept) (pc2 := 142) hk veX2_isKept dX5_spread_139 rfl ml_X5_32 ⟨(Nat.le_of_ble_eq_true rfl), (Nat.le_of_ble_eq_true rfl)⟩ [_, _] rfl rfl (Nat.le_of_ble_eq_true rfl) (Nat.le_of_ble_eq_true rfl) (Nat.le_of_ble_eq_true rfl) (o_X2 rfl) (t_isKept hb2 hb3 ?_)
                  refine aw_if_eq (tgt := 174) (pc2 := 145) hk dX5_spread_142 (by decide) rfl (fun c142 => ?_) (fun c142 => ?_)
                  · have hsk : (vk I f b && (I 8 b == -1)) = true → mk b = true := fun hv => by
                      first
                        | (cases hm : mk b with
                           | true => rfl
                           | false =>
                             exfalso
                             rw [hr.2.2.2.2.1 b hb3 hm] at c132
                             simp at hv
                             exact c132 hv.2)
                        | (exfalso
                           have hkb : kpt I b f = false := by rw [← kpt_of hr b f]; exact bi_ff c142
                           simp [vk, hkb] at hv)
                    refine aw_iinc1 (pc2 := 177) hk dX5_spread_174 rfl rfl (by decide) ?_
                    refine aw_goto (tgt := 71) hk dX5_spread_177 (by decide) ?_
                    refine aw_fg 8 ?_
                    exact ih2 (s + 1) mk qu e I1 (by omega) (by omega) hpe (hbf.skip (fun b2 h1 h2 => by
                      obtain rfl : b = b2 := Option.some.inj (hb1.symm.trans h1)
                      exact hsk h2)) hr (hwy.skip (fun b2 h1 => by
                      obtain rfl : b = b2 := Option.some.inj (hb1.symm.trans h1)
                      exact hop))
                  · have hkb : kpt I b f = true := by rw [← kpt_of hr b f]; exact bi_tt c142
                    have hmf : mk b = false := by
                      cases hm : mk b with
                      | false => rfl
                      | true => exact absurd ((hr.2.2.2.1 b hb3 hm).symm.trans c132) (nI_m1 (by omega))
                    have hI8 : I 8 b = -1 := by rw [← hr.2.2.2.2.1 b hb3 hmf]; exact c132
                    have hvb : (vk I f b && (I 8 b == -1)) = true := by simp [vk, hb3, hkb, hI8]
                    obtain ⟨he6, hbf2⟩ := hbf.mark (qu' := fun j => if j = e then b else qu j) hpe c74 hb1 hb3 hvb hmf (if_pos rfl) (fun j hj => if_neg (by omega))
                    refine aw_iload (pc2 := 147) hk dX5_spread_145 rfl rfl ?_
                    refine aw_sipush (v := 256) (pc2 := 150) hk dX5_spread_147 rfl (by decide) ?_
                    refine aw_icN_ge (x := e) (y := 256) (tgt := 174) (pc2 := 153) hk dX5_spread_150 (by decide) rfl rfl rfl (by omega) (by omega) (fun c150 => absurd c150 (by omega)) (fun c150 => ?_)
                    refine aw_aload_n (pc2 := 154) hk dX5_spread_153 rfl rfl ?_
                    refine aw_get (v := .ref 8) (pc2 := 157) hk ckX5 2 dX5_spread_154 rfl fl_X5_9 (by decide) (o_X5 rfl) rfl ?_
                    refine aw_iload (pc2 := 159) hk dX5_spread_157 rfl rfl ?_
                    refine aw_iload (pc2 := 161) hk dX5_spread_159 rfl rfl ?_
                    refine h_iast (pc2 := 162) hk dX5_spread_161 rfl rfl hb2 hb3 (by decide) ?_
                    rw [hb2]
                    refine aw_aload_n (pc2 := 163) hk dX5_spread_162 rfl rfl ?_
                    refine aw_get (v := .ref 12) (pc2 := 166) hk ckX5 6 dX5_spread_163 rfl fl_X5_25 (by decide) (o_X5 rfl) rfl ?_
                    refine aw_iload (pc2 := 168) hk dX5_spread_166 rfl rfl ?_
                    refine aw_iload (pc2 := 170) hk dX5_spread_168 rfl rfl ?_
                    skip
                    refine h_iast (pc2 := 171) hk dX5_spread_170 rfl rfl rfl (by omega) (by decide) ?_
                    have hr2 : SpR I (u2 (u2 I1 8 b (nI kk)) 12 e (nI b)) kk st (fun x => x == b || mk x) (fun j => if j = e then b else qu j) (e + 1) := by
                      refine ⟨fun c h1 h2 h3 h4 => by rw [u2_row _ _ _ h4, u2_row _ _ _ h1]; exact hr.1 c h1 h2 h3 h4, fun j hj => ⟨by rw [u2_a _ _ _ _ (by decide), u2_a _ _ _ _ (by decide)]; exact (hr.2.1 j hj).1, by rw [u2_a _ _ _ _ (by decide), u2_a _ _ _ _ (by decide)]; exact (hr.2.1 j hj).2⟩, by rw [u2_a _ _ _ _ (by decide), u2_a _ _ _ _ (by decide)]; exact hr.2.2.1, fun x hx h => ?_, fun x hx h => ?_, fun j hj => ?_⟩
                      · rw [u2_a _ _ _ _ (by decide)]
                        by_cases hxb : x = b
                        · subst hxb; exact u2_s _ _ _ _
                        · rw [u2_j _ _ _ _ hxb]; exact hr.2.2.2.1 x hx (by simpa [hxb] using h)
                      · have hxb : x ≠ b := by intro h9; subst h9; simp at h
                        rw [u2_a _ _ _ _ (by decide), u2_j _ _ _ _ hxb]
                        exact hr.2.2.2.2.1 x hx (by simpa [hxb] using h)
                      · by_cases hje : j = e
                        · subst hje; rw [u2_s]; simp
                        · rw [u2_j _ _ _ _ hje, u2_a _ _ _ _ (by decide)]; simp only [hje, if_false]; exact hr.2.2.2.2.2 j (by omega)
                    have hw2 : SpW I (u2 (u2 I1 8 b (nI kk)) 12 e (nI b)) kk w g (fun j => if j = e then b else qu j) (e + 1) p (s + 1) := (hwy.grow hpe (by rw [u2_a _ _ _ _ (by decide), u2_a _ _ _ _ (by decide)]) (fun j hj => if_neg (by omega))).skip (fun b2 h1 => by
                      have h1 : nbC w g (if p = e then b else qu p) s = some b2 := h1
                      rw [if_neg (by omega)] at h1
                      obtain rfl : b = b2 := Option.some.inj (hb1.symm.trans h1)
                      exact hop)
                    refine aw_iinc1 (pc2 := 174) hk dX5_spread_171 rfl rfl (by decide) ?_
                    refine aw_iinc1 (pc2 := 177) hk dX5_spread_174 rfl rfl (by decide) ?_
                    refine aw_goto (tgt := 71) hk dX5_spread_177 (by decide) ?_
                    refine aw_fg 8 ?_
                    exact ih2 (s + 1) _ _ (e + 1) _ (by omega) (by omega) (by omega) hbf2 hr2 hw2
              · refine aw_aload_n (pc2 := 108) hk dX5_spread_107 rfl rfl ?_
                refine aw_get (v := .ref 11) (pc2 := 111) hk ckX5 5 dX5_spread_108 rfl fl_X5_21 (by decide) (o_X5 rfl) rfl ?_
                refine aw_iload (pc2 := 113) hk dX5_spread_111 rfl rfl ?_
                refine aw_iconst (v := 1) (pc2 := 114) hk dX5_spread_113 rfl (by decide) ?_
                refine h_zast (pc2 := 115) hk dX5_spread_114 rfl rfl rfl (by omega) (by decide) (Or.inr rfl) ?_
                have hop : opl I b = true := by rw [← opl_of hr b]; exact bi_tt c104
                have hkb : kpt I b f = false := hlane b hb3 hop
                have hr2 : SpR I (u2 I1 11 kk 1) kk st mk qu e := ⟨fun c h1 h2 h3 h4 => by rw [u2_row _ _ _ h3]; exact hr.1 c h1 h2 h3 h4, fun j hj => ⟨by rw [u2_a _ _ _ _ (by decide)]; exact (hr.2.1 j hj).1, by rw [u2_j _ _ _ _ hj]; exact (hr.2.1 j hj).2⟩, by rw [u2_a _ _ _ _ (by decide)]; exact hr.2.2.1, fun x hx h => by rw [u2_a _ _ _ _ (by decide)]; exact hr.2.2.2.1 x hx h, fun x hx h => by rw [u2_a _ _ _ _ (by decide)]; exact hr.2.2.2.2.1 x hx h, fun j hj => by rw [u2_a _ _ _ _ (by decide)]; exact hr.2.2.2.2.2 j hj⟩
                have hw2 : SpW I (u2 I1 11 kk 1) kk w g qu e p (s + 1) := ⟨Or.inr (u2_s _ _ _ _), ⟨fun _ => ⟨p, s, b, by omega, hpe, by omega, hb1, hop⟩, fun _ => u2_s _ _ _ _⟩⟩
                refine aw_goto (tgt := 174) hk dX5_spread_115 (by decide) ?_
                refine aw_iinc1 (pc2 := 177) hk dX5_spread_174 rfl rfl (by decide) ?_
                refine aw_goto (tgt := 71) hk dX5_spread_177 (by decide) ?_
                refine aw_fg 8 ?_
                exact ih2 (s + 1) mk qu e (u2 I1 11 kk 1) (by omega) (by omega) hpe (hbf.skip (fun b2 h1 h2 => by obtain rfl : b = b2 := Option.some.inj (hb1.symm.trans h1); simp [vk, hkb] at h2)) hr2 hw2
      refine aw_iload (pc2 := 55) hk dX5_spread_53 rfl rfl ?_
      refine aw_iload (pc2 := 57) hk dX5_spread_55 rfl rfl ?_
      refine aw_icN_ge (x := p) (y := e) (tgt := 186) (pc2 := 60) hk dX5_spread_57 (by decide) rfl rfl rfl (by omega) (by omega) (fun c57 => ?_) (fun c57 => ?_)
      · exact fin mk qu e I1 p c57 hbf hr hwy
      · refine aw_iload (pc2 := 62) hk dX5_spread_60 rfl rfl ?_
        refine aw_sipush (v := 256) (pc2 := 65) hk dX5_spread_62 rfl (by decide) ?_
        refine aw_icN_ge (x := p) (y := 256) (tgt := 186) (pc2 := 68) hk dX5_spread_65 (by decide) rfl rfl rfl (by omega) (by omega) (fun c65 => absurd c65 (by omega)) (fun c65 => ?_)
        refine aw_iconst (v := 0) (pc2 := 69) hk dX5_spread_68 rfl (by decide) ?_
        refine aw_istore (pc2 := 71) hk dX5_spread_69 rfl (by decide) ?_
        show AW K Q _ _ 71 [_, _, _, _, _, _, _, _, _] _ _ _
        exact loop2 5 0 mk qu e I1 (by omega) (by omega) c57 hbf hr hwy
  refine aw_aload_n (pc2 := 1) hk dX5_spread_0 rfl rfl ?_
  refine aw_get (pc2 := 4) hk ckX5 0 dX5_spread_1 rfl fl_X5_28 (by decide) (o_X5 rfl) rfl ?_
  rw [hkk0]
  refine aw_istore (pc2 := 6) hk dX5_spread_4 rfl (by decide) ?_
  show AW K Q _ _ 6 [_, _, _, _, _, _, _, _, _] _ _ _
  refine aw_aload_n (pc2 := 7) hk dX5_spread_6 rfl rfl ?_
  refine aw_dup_r (pc2 := 8) hk dX5_spread_7 rfl ?_
  refine aw_get (pc2 := 11) hk ckX5 0 dX5_spread_8 rfl fl_X5_28 (by decide) (o_X5 rfl) rfl ?_
  refine aw_iconst (v := 1) (pc2 := 12) hk dX5_spread_11 rfl (by decide) ?_
  refine aw_iadd (pc2 := 13) hk dX5_spread_12 rfl ?_
  refine aw_top (nI (kk + 1)) (by rw [hkk0]; exact nI_1 kk) ?_
  refine aw_put (pc2 := 16) hk ckX5 0 dX5_spread_13 rfl fl_X5_28 (by decide) rfl (o_X5 rfl) (fun _ => rfl) (fun _ => rfl) (Nat.le_of_ble_eq_true rfl) ?_
  rw [p_X5_0 rfl]
  refine aw_aload_n (pc2 := 17) hk dX5_spread_16 rfl rfl ?_
  refine aw_get (v := .ref 10) (pc2 := 20) hk ckX5 4 dX5_spread_17 rfl fl_X5_18 (by decide) (o_X5 rfl) rfl ?_
  refine aw_iload (pc2 := 22) hk dX5_spread_20 rfl rfl ?_
  refine aw_iload_n (pc2 := 23) hk dX5_spread_22 rfl rfl ?_
  refine h_iast (pc2 := 24) hk dX5_spread_23 rfl rfl rfl hkk (by decide) ?_
  refine aw_aload_n (pc2 := 25) hk dX5_spread_24 rfl rfl ?_
  refine aw_get (v := .ref 11) (pc2 := 28) hk ckX5 5 dX5_spread_25 rfl fl_X5_21 (by decide) (o_X5 rfl) rfl ?_
  refine aw_iload (pc2 := 30) hk dX5_spread_28 rfl rfl ?_
  refine aw_iconst (v := 0) (pc2 := 31) hk dX5_spread_30 rfl (by decide) ?_
  refine h_zast (pc2 := 32) hk dX5_spread_31 rfl rfl rfl hkk (by decide) (by first | exact Or.inl rfl | exact Or.inr rfl) ?_
  refine aw_aload_n (pc2 := 33) hk dX5_spread_32 rfl rfl ?_
  refine aw_get (v := .ref 8) (pc2 := 36) hk ckX5 2 dX5_spread_33 rfl fl_X5_9 (by decide) (o_X5 rfl) rfl ?_
  refine aw_iload_n (pc2 := 37) hk dX5_spread_36 rfl rfl ?_
  refine aw_iload (pc2 := 39) hk dX5_spread_37 rfl rfl ?_
  refine h_iast (pc2 := 40) hk dX5_spread_39 rfl rfl rfl hst (by decide) ?_
  refine aw_aload_n (pc2 := 41) hk dX5_spread_40 rfl rfl ?_
  refine aw_get (v := .ref 12) (pc2 := 44) hk ckX5 6 dX5_spread_41 rfl fl_X5_25 (by decide) (o_X5 rfl) rfl ?_
  refine aw_iconst (v := nI 0) (pc2 := 45) hk dX5_spread_44 rfl (by decide) ?_
  refine aw_iload_n (pc2 := 46) hk dX5_spread_45 rfl rfl ?_
  refine h_iast (pc2 := 47) hk dX5_spread_46 rfl rfl rfl (by omega) (by decide) ?_
  refine aw_iconst (v := 1) (pc2 := 48) hk dX5_spread_47 rfl (by decide) ?_
  refine aw_istore (pc2 := 50) hk dX5_spread_48 rfl (by decide) ?_
  show AW K Q _ _ 50 [_, _, _, _, _, _, _, _, _] _ _ _
  refine aw_iconst (v := 0) (pc2 := 51) hk dX5_spread_50 rfl (by decide) ?_
  refine aw_istore (pc2 := 53) hk dX5_spread_51 rfl (by decide) ?_
  show AW K Q _ _ 53 [_, _, _, _, _, _, _, _, _] _ _ _
  refine aw_lv [some (.ref 7), some (.ref 1), some (.int f), some (.int (nI st)), some (.int (nI kk)), some (.int (nI 1)), some (.int (nI 0)), none, none] rfl ?_
  refine loop 257 0 (fun x => x == st) (fun _ => st) 1 (u2 (u2 (u2 (u2 I 10 kk (nI st)) 11 kk 0) 8 st (nI kk)) 12 0 (nI st)) (by omega) (by omega) (BF.init hst rfl) ⟨fun b h1 h2 h3 h4 => by rw [u2_row _ _ _ h4, u2_row _ _ _ h1, u2_row _ _ _ h3, u2_row _ _ _ h2], fun j hj => ⟨by rw [u2_a _ _ _ _ (by decide), u2_a _ _ _ _ (by decide), u2_a _ _ _ _ (by decide), u2_j _ _ _ _ hj], by rw [u2_a _ _ _ _ (by decide), u2_a _ _ _ _ (by decide), u2_j _ _ _ _ hj, u2_a _ _ _ _ (by decide)]⟩, by rw [u2_a _ _ _ _ (by decide), u2_a _ _ _ _ (by decide), u2_a _ _ _ _ (by decide), u2_s], fun x hx h => ?_, fun x hx h => ?_, fun j hj => by rw [show j = 0 by omega, u2_s]⟩ ⟨Or.inl ?_, ⟨fun h => ?_, fun ⟨j, t, b, h1, _⟩ => by omega⟩⟩
  · have h9 : x = st := by simpa using h
    rw [h9, u2_a _ _ _ _ (by decide), u2_s]
  · have h9 : x ≠ st := by simpa using h
    rw [u2_a _ _ _ _ (by decide), u2_j _ _ _ _ h9, u2_a _ _ _ _ (by decide), u2_a _ _ _ _ (by decide)]
  · rw [u2_a _ _ _ _ (by decide), u2_a _ _ _ _ (by decide), u2_s]
  · rw [u2_a _ _ _ _ (by decide), u2_a _ _ _ _ (by decide), u2_s] at h; exact absurd h (by decide)
