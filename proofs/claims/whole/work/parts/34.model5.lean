theorem dvS_wy (V : Nat → Bool) (A : Nat → Nat → Prop) (o : Nat → Bool) : ∀ c i, i < (dvS V A o c).1 → ((dvS V A o c).2.2.2.2 i = true ↔ ∃ x b, (x < 256 ∧ (dvS V A o c).2.1 x = some i) ∧ A x b ∧ o b = true) := by
  intro c
  induction c with
  | zero => intro i hi; exact absurd hi (Nat.not_lt_zero _)
  | succ c ih =>
    intro i hi
    by_cases h : V c = true ∧ (dvS V A o c).2.1 c = none
    · rw [dvS_new h] at hi ⊢
      have hle := (dvS_le V A o c).2
      generalize dvS V A o c = D at *
      obtain ⟨k, pa, fi, sz, wy⟩ := D
      simp only at hi ⊢ h hle ih
      have hr : ∀ x, Rch (fun y => V y && (pa y).isNone) A c x → pa x = none := fun x hx => hx (fun y => pa y = none) h.2 (fun a b _ _ hv => by
        have := hv
        simp at this
        exact this.2)
      have hpa : ∀ x, x < 256 → ((if cdec (x < 256 ∧ Rch (fun y => V y && (pa y).isNone) A c x) = true then some k else pa x) = some i ↔ (i = k ∧ Rch (fun y => V y && (pa y).isNone) A c x) ∨ (i ≠ k ∧ pa x = some i)) := fun x hx => by
        by_cases hc : Rch (fun y => V y && (pa y).isNone) A c x
        · rw [if_pos (cdec_t.mpr ⟨hx, hc⟩)]
          constructor
          · intro e; cases e; exact Or.inl ⟨rfl, hc⟩
          · rintro (⟨rfl, _⟩ | ⟨_, h2⟩)
            · rfl
            · rw [hr x hc] at h2; cases h2
        · rw [if_neg (fun h9 => hc (cdec_t.mp h9).2)]
          constructor
          · intro e
            have := hle x i e
            exact Or.inr ⟨by omega, e⟩
          · rintro (⟨_, h2⟩ | ⟨_, h2⟩)
            · exact absurd h2 hc
            · exact h2
      by_cases hik : i = k
      · subst hik
        rw [va_up_self, cdec_t]
        constructor
        · rintro ⟨x, b, h1, h2, h3⟩
          exact ⟨x, b, ⟨h1.1, (hpa x h1.1).mpr (Or.inl ⟨rfl, h1.2⟩)⟩, h2, h3⟩
        · rintro ⟨x, b, h1, h2, h3⟩
          rcases (hpa x h1.1).mp h1.2 with h4 | h4
          · exact ⟨x, b, ⟨h1.1, h4.2⟩, h2, h3⟩
          · exact absurd rfl h4.1
      · rw [va_up_ne _ _ hik, ih i (by omega)]
        constructor
        · rintro ⟨x, b, h1, h2, h3⟩
          exact ⟨x, b, ⟨h1.1, (hpa x h1.1).mpr (Or.inr ⟨hik, h1.2⟩)⟩, h2, h3⟩
        · rintro ⟨x, b, h1, h2, h3⟩
          rcases (hpa x h1.1).mp h1.2 with h4 | h4
          · exact absurd h4.1 hik
          · exact ⟨x, b, ⟨h1.1, h4.2⟩, h2, h3⟩
    · rw [dvS_skip h] at hi ⊢
      exact ih i hi
set_option maxHeartbeats 800000 in
set_option maxRecDepth 100000 in
theorem m_hasWay0 {n : Nat} {d : D2} {I : M2} {J : J2} {S : M2} {L : J2} {R : R2} {Q : QT} {w g fc oc uc td : Nat} {md op : Bool} (hB : MB S w g fc oc uc td md op) {i : Nat} (hi : i < 256) (hq1 : (∃ x t b, x < 256 ∧ t < 4 ∧ I 110 x = nI (i + 1) ∧ nbM w g x t = some b ∧ opM I b = true) → Q (some (.int 1)) n (H5 d I J S L R)) (hq2 : ¬ (∃ x t b, x < 256 ∧ t < 4 ∧ I 110 x = nI (i + 1) ∧ nbM w g x t = some b ∧ opM I b = true) → Q (some (.int 0)) n (H5 d I J S L R)) : Calls yX7_hasWay cX7_hasWay 5 (some .boolean) rmX7_hasWay [.ref 78, .int (nI i)] n (H5 d I J S L R) Q := by
  refine Calls.of (by decide) (Nat.le_of_ble_eq_true rfl) ?_
  intro K hk
  show AW K Q 0 0 0 [some (.ref 78), some (.int (nI i)), none, none, none] [] n (H5 d I J S L R)
  obtain ⟨hw, hg, hw1, hw6, hg1, hg6, hfc, hfc2, hoc, hoc6, huc, huc5, htd, htd4, hmd, hop⟩ := id hB
  have loop : ∀ (k c : Nat), c ≤ 256 → 257 ≤ c + k → (∀ x t b, x < c → t < 4 → I 110 x = nI (i + 1) → nbM w g x t = some b → opM I b = false) → AW K Q 0 0 2 [some (.ref 78), some (.int (nI i)), some (.int (nI c)), none, none] [] n (H5 d I J S L R) := by
    intro k
    induction k with
    | zero => intro c h1 h2; omega
    | succ k ih =>
      intro c hc hn hno
      have loop2 : c < 256 → ∀ (k2 t : Nat), t ≤ 4 → 5 ≤ t + k2 → (∀ t2 b, t2 < t → I 110 c = nI (i + 1) → nbM w g c t2 = some b → opM I b = false) → AW K Q 0 0 11 [some (.ref 78), some (.int (nI i)), some (.int (nI c)), some (.int (nI t)), none] [] n (H5 d I J S L R) := by
        intro hc6 k2
        induction k2 with
        | zero => intro t h1 h2; omega
        | succ k2 ih2 =>
          intro t ht hn2 hno2
          refine aw_iload_n (pc2 := 12) hk dX7_hasWay_11 rfl rfl ?_
          refine aw_iconst (v := 4) (pc2 := 13) hk dX7_hasWay_12 rfl (by decide) ?_
          refine aw_icN_ge (x := t) (y := 4) (tgt := 70) (pc2 := 16) hk dX7_hasWay_13 (by decide) rfl rfl rfl (by omega) (by omega) (fun c13 => ?_) (fun c13 => ?_)
          · refine aw_iinc1 (pc2 := 73) hk dX7_hasWay_70 rfl rfl (by decide) ?_
            refine aw_goto (tgt := 2) hk dX7_hasWay_73 (by decide) ?_
            refine aw_fg 3 ?_
            exact ih (c + 1) (by omega) (by omega) (fun x t2 b2 h1 h2 h3 h4 => by
              by_cases h9 : x = c
              · subst h9
                exact hno2 t2 b2 (by omega) h3 h4
              · exact hno x t2 b2 (by omega) h2 h3 h4)
          · refine aw_aload_n (pc2 := 17) hk dX7_hasWay_16 rfl rfl ?_
            refine aw_get (pc2 := 20) hk ckX7 39 dX7_hasWay_17 rfl fl_X7_112 (by decide) (o_X7 rfl) rfl ?_
            refine aw_iload_n (pc2 := 21) hk dX7_hasWay_20 rfl rfl ?_
            refine h_iald (pc2 := 22) hk dX7_hasWay_21 rfl rfl rfl (by omega) (by decide) ?_
            refine aw_iload_n (pc2 := 23) hk dX7_hasWay_22 rfl rfl ?_
            refine aw_iconst (v := 1) (pc2 := 24) hk dX7_hasWay_23 rfl (by decide) ?_
            refine aw_iadd (pc2 := 25) hk dX7_hasWay_24 rfl ?_
            refine aw_top (nI (i + 1)) (nI_1 i) ?_
            refine aw_icmp_ne (tgt := 70) (pc2 := 28) hk dX7_hasWay_25 (by decide) rfl (fun c25 => ?_) (fun c25 => ?_)
            · refine aw_iinc1 (pc2 := 73) hk dX7_hasWay_70 rfl rfl (by decide) ?_
              refine aw_goto (tgt := 2) hk dX7_hasWay_73 (by decide) ?_
              refine aw_fg 3 ?_
              exact ih (c + 1) (by omega) (by omega) (fun x t2 b2 h1 h2 h3 h4 => by
                by_cases h9 : x = c
                · subst h9
                  exact absurd h3 c25
                · exact hno x t2 b2 (by omega) h2 h3 h4)
            · refine aw_aload_n (pc2 := 29) hk dX7_hasWay_28 rfl rfl ?_
              refine aw_iload_n (pc2 := 30) hk dX7_hasWay_29 rfl rfl ?_
              refine aw_iload_n (pc2 := 31) hk dX7_hasWay_30 rfl rfl ?_
              refine aw_cV (rm2 := rmX7_beside) (pc2 := 34) hk veX7_beside dX7_hasWay_31 rfl ml_X7_187 ⟨(Nat.le_of_ble_eq_true rfl), (Nat.le_of_ble_eq_true rfl)⟩ [_, _] rfl rfl (Nat.le_of_ble_eq_true rfl) (Nat.le_of_ble_eq_true rfl) (Nat.le_of_ble_eq_true rfl) (o_X7 rfl) (m_beside hB (by omega) (by omega) ?_)
              refine aw_istore (pc2 := 36) hk dX7_hasWay_34 rfl (by decide) ?_
              show AW K Q _ _ 36 [_, _, _, _, _] _ _ _
              refine aw_iload (pc2 := 38) hk dX7_hasWay_36 rfl rfl ?_
              refine aw_iconst (v := -1) (pc2 := 39) hk dX7_hasWay_38 rfl (by decide) ?_
              refine aw_icmp_eq (tgt := 64) (pc2 := 42) hk dX7_hasWay_39 (by decide) rfl (fun c39 => ?_) (fun c39 => ?_)
              · refine aw_iinc1 (pc2 := 67) hk dX7_hasWay_64 rfl rfl (by decide) ?_
                refine aw_goto (tgt := 11) hk dX7_hasWay_67 (by decide) ?_
                refine aw_fg 4 ?_
                exact ih2 (t + 1) (by omega) (by omega) (fun t2 b2 h1 h2 h3 => by
                  by_cases h9 : t2 = t
                  · subst h9
                    rw [opI_none c39 (fun q h => plc_lt hw6 hg6 h)] at h3; cases h3
                  · exact hno2 t2 b2 (by omega) h2 h3)
              · obtain ⟨b, hb1, hb2⟩ := opI_some c39
                have hb3 : b < 256 := plc_lt hw6 hg6 hb1
                refine aw_aload_n (pc2 := 43) hk dX7_hasWay_42 rfl rfl ?_
                refine aw_get (pc2 := 46) hk ckX7 4 dX7_hasWay_43 rfl fl_X7_23 (by decide) (o_X7 rfl) rfl ?_
                refine aw_iload (pc2 := 48) hk dX7_hasWay_46 rfl rfl ?_
                refine h_zald (pc2 := 49) hk dX7_hasWay_48 rfl rfl hb2 hb3 (by decide) ?_
                refine aw_if_eq (tgt := 64) (pc2 := 52) hk dX7_hasWay_49 (by decide) rfl (fun c49 => ?_) (fun c49 => ?_)
                · refine aw_iinc1 (pc2 := 67) hk dX7_hasWay_64 rfl rfl (by decide) ?_
                  refine aw_goto (tgt := 11) hk dX7_hasWay_67 (by decide) ?_
                  refine aw_fg 4 ?_
                  exact ih2 (t + 1) (by omega) (by omega) (fun t2 b2 h1 h2 h3 => by
                    by_cases h9 : t2 = t
                    · subst h9
                      obtain rfl : b = b2 := Option.some.inj (hb1.symm.trans h3); simp [opM, c49]
                    · exact hno2 t2 b2 (by omega) h2 h3)
                · refine aw_aload_n (pc2 := 53) hk dX7_hasWay_52 rfl rfl ?_
                  refine aw_get (pc2 := 56) hk ckX7 6 dX7_hasWay_53 rfl fl_X7_30 (by decide) (o_X7 rfl) rfl ?_
                  refine aw_iload (pc2 := 58) hk dX7_hasWay_56 rfl rfl ?_
                  refine h_iald (pc2 := 59) hk dX7_hasWay_58 rfl rfl hb2 hb3 (by decide) ?_
                  refine aw_if_ne (tgt := 64) (pc2 := 62) hk dX7_hasWay_59 (by decide) rfl (fun c59 => ?_) (fun c59 => ?_)
                  · refine aw_iinc1 (pc2 := 67) hk dX7_hasWay_64 rfl rfl (by decide) ?_
                    refine aw_goto (tgt := 11) hk dX7_hasWay_67 (by decide) ?_
                    refine aw_fg 4 ?_
                    exact ih2 (t + 1) (by omega) (by omega) (fun t2 b2 h1 h2 h3 => by
                      by_cases h9 : t2 = t
                      · subst h9
                        obtain rfl : b = b2 := Option.some.inj (hb1.symm.trans h3); simp [opM, c59]
                      · exact hno2 t2 b2 (by omega) h2 h3)
                  · refine aw_iconst (v := 1) (pc2 := 63) hk dX7_hasWay_62 rfl (by decide) ?_
                    refine aw_zret (by first | exact Or.inl rfl | exact Or.inr rfl) hk dX7_hasWay_63 (Nat.le_of_ble_eq_true rfl) (Nat.le_of_ble_eq_true rfl) (hq1 ⟨c, t, b, by omega, c13, c25, hb1, by simp [opM, c49, c59]⟩)
      refine aw_iload_n (pc2 := 3) hk dX7_hasWay_2 rfl rfl ?_
      refine aw_sipush (v := 256) (pc2 := 6) hk dX7_hasWay_3 rfl (by decide) ?_
      refine aw_icN_ge (x := c) (y := 256) (tgt := 76) (pc2 := 9) hk dX7_hasWay_6 (by decide) rfl rfl rfl (by omega) (by omega) (fun c6 => ?_) (fun c6 => ?_)
      · refine aw_iconst (v := 0) (pc2 := 77) hk dX7_hasWay_76 rfl (by decide) ?_
        refine aw_zret (by first | exact Or.inl rfl | exact Or.inr rfl) hk dX7_hasWay_77 (Nat.le_of_ble_eq_true rfl) (Nat.le_of_ble_eq_true rfl) (hq2 (fun ⟨x, t, b, h1, h2, h3, h4, h5⟩ => by have h9 := hno x t b (by omega) h2 h3 h4; rw [h9] at h5; cases h5))
      · refine aw_iconst (v := 0) (pc2 := 10) hk dX7_hasWay_9 rfl (by decide) ?_
        refine aw_istore_n (pc2 := 11) hk dX7_hasWay_10 rfl (by decide) ?_
        show AW K Q _ _ 11 [_, _, _, _, _] _ _ _
        exact loop2 c6 5 0 (by omega) (by omega) (fun t2 b h => absurd h (Nat.not_lt_zero _))
  refine aw_iconst (v := 0) (pc2 := 1) hk dX7_hasWay_0 rfl (by decide) ?_
  refine aw_istore_n (pc2 := 2) hk dX7_hasWay_1 rfl (by decide) ?_
  show AW K Q _ _ 2 [_, _, _, _, _] _ _ _
  exact loop 257 0 (by omega) (by omega) (fun x t b h => absurd h (Nat.not_lt_zero _))
theorem opJ_i {o : Option Nat} {i : Nat} (hi : i < 2 ^ 30) (hb : ∀ q, o = some q → q < 2 ^ 30) : opJ o = nI (i + 1) ↔ o = some i := by
  cases o with
  | none => exact ⟨fun h => absurd h.symm (nI_ne0 (by omega) (by omega)), fun h => by cases h⟩
  | some q =>
    have := hb q rfl
    exact ⟨fun h => by have h9 := (nI_eq (show q + 1 < 2 ^ 31 by omega) (show i + 1 < 2 ^ 31 by omega)).mp h; rw [show q = i by omega], fun h => by cases h; rfl⟩
theorem m_hasWay {n : Nat} {d : D2} {I : M2} {J : J2} {S : M2} {L : J2} {R : R2} {Q : QT} {w g fc oc uc td : Nat} {md op : Bool} (hB : MB S w g fc oc uc td md op) {I0 : M2} {V : Nat → Bool} {i : Nat} (hF : MR I0 I (dvS V (adM w g) (opM I0) 256)) (hi : i < (dvS V (adM w g) (opM I0) 256).1) (hq : Q (some (.int (bi ((dvS V (adM w g) (opM I0) 256).2.2.2.2 i)))) n (H5 d I J S L R)) : Calls yX7_hasWay cX7_hasWay 5 (some .boolean) rmX7_hasWay [.ref 78, .int (nI i)] n (H5 d I J S L R) Q := by
  have hd := dvS_ok V (adM w g) (opM I0)
  have hd1 := hd.1
  have hwy := dvS_wy V (adM w g) (opM I0) 256 i hi
  have eo : ∀ b, opM I b = opM I0 b := fun b => by unfold opM; rw [hF.1 81 (by decide) (by decide) (by decide) (by decide), hF.1 83 (by decide) (by decide) (by decide) (by decide)]
  have ei : ∀ x, x < 256 → (I 110 x = nI (i + 1) ↔ (dvS V (adM w g) (opM I0) 256).2.1 x = some i) := fun x hx => by
    rw [hF.2.1 x hx]
    exact opJ_i (by omega) (fun q h => by have := hd.2 _ _ h; omega)
  refine m_hasWay0 hB (by omega) (fun ⟨x, t, b, h1, h2, h3, h4, h5⟩ => ?_) (fun hno => ?_)
  · rw [show (dvS V (adM w g) (opM I0) 256).2.2.2.2 i = true from hwy.mpr ⟨x, b, ⟨h1, (ei x h1).mp h3⟩, ⟨t, h2, h4⟩, by rw [← eo]; exact h5⟩] at hq
    exact hq
  · rw [show (dvS V (adM w g) (opM I0) 256).2.2.2.2 i = false from Bool.eq_false_iff.mpr (fun h9 => hno (by
      obtain ⟨x, b, h1, ⟨t, h2, h3⟩, h4⟩ := hwy.mp h9
      exact ⟨x, t, b, h1.1, h2, (ei x h1.1).mpr h1.2, h3, by rw [eo]; exact h4⟩))] at hq
    exact hq
def prM (I S : M2) (c : Nat) : Int32 := (onS (fun q => I 89 (20 * (I 80 c).toNatClampNeg + q)) (fun q => I 90 (20 * (I 80 c).toNatClampNeg + q)) (S 78 16) (I 88 (I 80 c).toNatClampNeg).toNatClampNeg).2
set_option maxHeartbeats 800000 in
set_option maxRecDepth 100000 in
theorem m_pricesOf0 {n : Nat} {d : D2} {I : M2} {J : J2} {S : M2} {L : J2} {R : R2} {Q : QT} {i : Nat} (hi : i < 256) (hpc : ∀ j, j < 4 → ∃ c, c ≤ 20 ∧ I 88 j = nI c ∧ ∀ i, i < c → 0 ≤ (I 89 (20 * j + i)).toInt) (hso : ∀ p, p < 256 → ∃ k, k < 4 ∧ I 80 p = nI k) (hq : Q (some (.long (sL (fun c => if I 110 c = nI (i + 1) then (prM I S c).toInt64 else 0) 256))) n (H5 d I J S L R)) : Calls yX7_pricesOf cX7_pricesOf 5 (some .long) rmX7_pricesOf [.ref 78, .int (nI i)] n (H5 d I J S L R) Q := by
  refine Calls.of (by decide) (Nat.le_of_ble_eq_true rfl) ?_
  intro K hk
  show AW K Q 0 0 0 [some (.ref 78), some (.int (nI i)), none, none, none] [] n (H5 d I J S L R)
  have loop : ∀ (k c : Nat), c ≤ 256 → 257 ≤ c + k → AW K Q 0 0 5 [some (.ref 78), some (.int (nI i)), some (.long (sL (fun c => if I 110 c = nI (i + 1) then (prM I S c).toInt64 else 0) c)), none, some (.int (nI c))] [] n (H5 d I J S L R) := by
    intro k
    induction k with
    | zero => intro c h1 h2; omega
    | succ k ih =>
      intro c hc hn
      refine aw_iload (pc2 := 7) hk dX7_pricesOf_5 rfl rfl ?_
      refine aw_sipush (v := 256) (pc2 := 10) hk dX7_pricesOf_7 rfl (by decide) ?_
      refine aw_icN_ge (x := c) (y := 256) (tgt := 55) (pc2 := 13) hk dX7_pricesOf_10 (by decide) rfl rfl rfl (by omega) (by omega) (fun c10 => ?_) (fun c10 => ?_)
      · obtain rfl : c = 256 := by omega
        refine aw_lload_n (pc2 := 56) hk dX7_pricesOf_55 rfl rfl ?_
        refine aw_lret hk dX7_pricesOf_56 (Nat.le_of_ble_eq_true rfl) (Nat.le_of_ble_eq_true rfl) hq
      · refine aw_lload_n (pc2 := 14) hk dX7_pricesOf_13 rfl rfl ?_
        refine aw_aload_n (pc2 := 15) hk dX7_pricesOf_14 rfl rfl ?_
        refine aw_get (pc2 := 18) hk ckX7 39 dX7_pricesOf_15 rfl fl_X7_112 (by decide) (o_X7 rfl) rfl ?_
        refine aw_iload (pc2 := 20) hk dX7_pricesOf_18 rfl rfl ?_
        refine h_iald (pc2 := 21) hk dX7_pricesOf_20 rfl rfl rfl (by omega) (by decide) ?_
        refine aw_iload_n (pc2 := 22) hk dX7_pricesOf_21 rfl rfl ?_
        refine aw_iconst (v := 1) (pc2 := 23) hk dX7_pricesOf_22 rfl (by decide) ?_
        refine aw_iadd (pc2 := 24) hk dX7_pricesOf_23 rfl ?_
        refine aw_top (nI (i + 1)) (nI_1 i) ?_
        refine aw_icmp_ne (tgt := 46) (pc2 := 27) hk dX7_pricesOf_24 (by decide) rfl (fun c24 => ?_) (fun c24 => ?_)
        · refine aw_lconst (v := 0) (pc2 := 47) hk dX7_pricesOf_46 rfl (by decide) ?_
          refine aw_ladd (pc2 := 48) hk dX7_pricesOf_47 rfl ?_
          refine aw_topL (sL (fun c => if I 110 c = nI (i + 1) then (prM I S c).toInt64 else 0) (c + 1)) (show _ + _ = _ + (if _ then _ else _) by first | rw [if_pos c24] | rw [if_neg c24]) ?_
          refine aw_lstore_n (pc2 := 49) hk dX7_pricesOf_48 rfl (by decide) ?_
          show AW K Q _ _ 49 [_, _, _, _, _] _ _ _
          refine aw_iinc1 (pc2 := 52) hk dX7_pricesOf_49 rfl rfl (by decide) ?_
          show AW K Q _ _ 52 [_, _, _, _, _] _ _ _
          refine aw_goto (tgt := 5) hk dX7_pricesOf_52 (by decide) ?_
          exact ih (c + 1) (by omega) (by omega)
        · refine aw_aload_n (pc2 := 28) hk dX7_pricesOf_27 rfl rfl ?_
          refine aw_aload_n (pc2 := 29) hk dX7_pricesOf_28 rfl rfl ?_
          refine aw_get (pc2 := 32) hk ckX7 3 dX7_pricesOf_29 rfl fl_X7_20 (by decide) (o_X7 rfl) rfl ?_
          refine aw_iload (pc2 := 34) hk dX7_pricesOf_32 rfl rfl ?_
          refine h_iald (pc2 := 35) hk dX7_pricesOf_34 rfl rfl rfl (by omega) (by decide) ?_
          obtain ⟨s, hs4, hs⟩ := hso c (by omega)
          obtain ⟨pc0, hp20, hp, hpos⟩ := hpc s hs4
          rw [hs]
          refine aw_aload_n (pc2 := 36) hk dX7_pricesOf_35 rfl rfl ?_
          refine aw_get (pc2 := 39) hk ckX7 16 dX7_pricesOf_36 rfl fl_X7_174 (by decide) (o_X7 rfl) rfl ?_
          refine aw_cV (rm2 := rmX7_costOf) (pc2 := 42) hk veX7_costOf dX7_pricesOf_39 rfl ml_X7_167 ⟨(Nat.le_of_ble_eq_true rfl), (Nat.le_of_ble_eq_true rfl)⟩ [_, _] rfl rfl (Nat.le_of_ble_eq_true rfl) (Nat.le_of_ble_eq_true rfl) (Nat.le_of_ble_eq_true rfl) (o_X7 rfl) (m_costOf hs4 hp hp20 hpos ?_)
          have ep : prM I S c = (onS (fun q => I 89 (20 * s + q)) (fun q => I 90 (20 * s + q)) (S 78 16) pc0).2 := by unfold prM; rw [hs, nI_clamp (by omega), hp, nI_clamp (by omega)]
          rw [← ep]
          refine aw_i2l (pc2 := 43) hk dX7_pricesOf_42 rfl ?_
          refine aw_goto (tgt := 47) hk dX7_pricesOf_43 (by decide) ?_
          refine aw_ladd (pc2 := 48) hk dX7_pricesOf_47 rfl ?_
          refine aw_topL (sL (fun c => if I 110 c = nI (i + 1) then (prM I S c).toInt64 else 0) (c + 1)) (show _ + _ = _ + (if _ then _ else _) by first | rw [if_pos c24] | rw [if_neg c24]) ?_
          refine aw_lstore_n (pc2 := 49) hk dX7_pricesOf_48 rfl (by decide) ?_
          show AW K Q _ _ 49 [_, _, _, _, _] _ _ _
          refine aw_iinc1 (pc2 := 52) hk dX7_pricesOf_49 rfl rfl (by decide) ?_
          show AW K Q _ _ 52 [_, _, _, _, _] _ _ _
          refine aw_goto (tgt := 5) hk dX7_pricesOf_52 (by decide) ?_
          exact ih (c + 1) (by omega) (by omega)
  refine aw_lconst (v := 0) (pc2 := 1) hk dX7_pricesOf_0 rfl (by decide) ?_
  refine aw_lstore_n (pc2 := 2) hk dX7_pricesOf_1 rfl (by decide) ?_
  show AW K Q _ _ 2 [_, _, _, _, _] _ _ _
  refine aw_iconst (v := 0) (pc2 := 3) hk dX7_pricesOf_2 rfl (by decide) ?_
  refine aw_istore (pc2 := 5) hk dX7_pricesOf_3 rfl (by decide) ?_
  show AW K Q _ _ 5 [_, _, _, _, _] _ _ _
  exact loop 257 0 (by omega) (by omega)
theorem MR.pr9 {I I1 : M2} {D : DV} (h : MR I I1 D) (S : M2) (c : Nat) : prM I1 S c = prM I S c := by
  have e : ∀ b, b < 110 → I1 b = I b := fun b hb => h.1 b (by omega) (by omega) (by omega) (by omega)
  unfold prM; simp only [e 80 (by decide), e 88 (by decide), e 89 (by decide), e 90 (by decide)]
theorem m_pricesOf {n : Nat} {d : D2} {I : M2} {J : J2} {S : M2} {L : J2} {R : R2} {Q : QT} {I0 : M2} {D : DV} {i : Nat} (hF : MR I0 I D) (hd : dOK D) (hi : i < D.1) (hpc : ∀ j, j < 4 → ∃ c, c ≤ 20 ∧ I 88 j = nI c ∧ ∀ i, i < c → 0 ≤ (I 89 (20 * j + i)).toInt) (hso : ∀ p, p < 256 → ∃ k, k < 4 ∧ I 80 p = nI k) (hq : Q (some (.long (wD D (fun c => (prM I0 S c).toInt64) i))) n (H5 d I J S L R)) : Calls yX7_pricesOf cX7_pricesOf 5 (some .long) rmX7_pricesOf [.ref 78, .int (nI i)] n (H5 d I J S L R) Q := by
  have hd1 := hd.1
  refine m_pricesOf0 (by omega) hpc hso ?_
  rw [show sL (fun c => if I 110 c = nI (i + 1) then (prM I S c).toInt64 else 0) 256 = wD D (fun c => (prM I0 S c).toInt64) i from sL_eq 256 (fun c hc => ?_)]
  · exact hq
  · rw [hF.pr9 S c, hF.2.1 c hc]
    have e9 := opJ_i (o := D.2.1 c) (i := i) (by omega) (fun q h => by have := hd.2 _ _ h; omega)
    simp only [e9]
set_option maxHeartbeats 800000 in
set_option maxRecDepth 100000 in
theorem m_pieces {n : Nat} {d : D2} {I : M2} {J : J2} {S : M2} {L : J2} {R : R2} {Q : QT} {w g fc oc uc td : Nat} {md op : Bool} (hB : MB S w g fc oc uc td md op) {f : Int32} (hout : ∀ c, c < 256 → (w ≤ c % 16 ∨ g ≤ c / 16) → I 79 c = -1) (hq1 : ¬ (0 ≤ f.toInt ∧ f.toInt < fc) → Q (some (.int (-101))) n (H5 d I J S L R)) (hq2 : ∀ j I1, f = nI j → j < fc → MR I I1 (dvS (vl I (nI j)) (adM w g) (opM I) 256) → Q (some (.int (nI (dvS (vl I (nI j)) (adM w g) (opM I) 256).1))) n (H5 d I1 J (u2 S 78 41 (nI (dvS (vl I (nI j)) (adM w g) (opM I) 256).1)) L R)) : Calls yX7_pieces cX7_pieces 2 (some .int) rmX7_pieces [.ref 78, .int f] n (H5 d I J S L R) Q := by
  refine Calls.of (by decide) (Nat.le_of_ble_eq_true rfl) ?_
  intro K hk
  show AW K Q 0 0 0 [some (.ref 78), some (.int f)] [] n (H5 d I J S L R)
  obtain ⟨hw, hg, hw1, hw6, hg1, hg6, hfc, hfc2, hoc, hoc6, huc, huc5, htd, htd4, hmd, hop⟩ := id hB
  refine aw_aload_n (pc2 := 1) hk dX7_pieces_0 rfl rfl ?_
  refine aw_iload_n (pc2 := 2) hk dX7_pieces_1 rfl rfl ?_
  refine aw_cV (rm2 := rmX7_isField) (pc2 := 5) hk veX7_isField dX7_pieces_2 rfl ml_X7_147 ⟨(Nat.le_of_ble_eq_true rfl), (Nat.le_of_ble_eq_true rfl)⟩ [_] rfl rfl (Nat.le_of_ble_eq_true rfl) (Nat.le_of_ble_eq_true rfl) (Nat.le_of_ble_eq_true rfl) (o_X7 rfl) (m_isField hB ?_)
  refine aw_if_ne (tgt := 11) (pc2 := 8) hk dX7_pieces_5 (by decide) rfl (fun c5 => ?_) (fun c5 => ?_)
  · obtain ⟨j, hj1, hj2⟩ := fok_of (bi_ya c5) hfc2
    subst hj2
    refine aw_aload_n (pc2 := 12) hk dX7_pieces_11 rfl rfl ?_
    refine aw_iload_n (pc2 := 13) hk dX7_pieces_12 rfl rfl ?_
    refine aw_cV (rm2 := rmX7_divide) (pc2 := 16) hk veX7_divide dX7_pieces_13 rfl ml_X7_215 ⟨(Nat.le_of_ble_eq_true rfl), (Nat.le_of_ble_eq_true rfl)⟩ [_] rfl rfl (Nat.le_of_ble_eq_true rfl) (Nat.le_of_ble_eq_true rfl) (Nat.le_of_ble_eq_true rfl) (o_X7 rfl) (m_divide hB (by omega) hout (fun I1 hF => ?_))
    refine aw_aload_n (pc2 := 17) hk dX7_pieces_16 rfl rfl ?_
    refine aw_get (pc2 := 20) hk ckX7 41 dX7_pieces_17 rfl fl_X7_184 (by decide) (o_X7 rfl) rfl ?_
    refine aw_top (nI (dvS (vl I (nI j)) (adM w g) (opM I) 256).1) (u2_s _ _ _ _) ?_
    refine aw_iret hk dX7_pieces_20 (Nat.le_of_ble_eq_true rfl) (Nat.le_of_ble_eq_true rfl) (hq2 j I1 rfl hj1 hF)
  · refine aw_bipush (v := -101) (pc2 := 10) hk dX7_pieces_8 rfl (by decide) ?_
    refine aw_iret hk dX7_pieces_10 (Nat.le_of_ble_eq_true rfl) (Nat.le_of_ble_eq_true rfl) (hq1 (bi_no c5))
def plM (D : DV) (house : Int32) (i k : Nat) : Int32 := match k with
  | 0 => nI (D.2.2.2.1 i)
  | 1 => nI (D.2.2.1 i)
  | 2 => if opI (mD D house) = nI i then 1 else 0
  | _ => bi (D.2.2.2.2 i)
set_option maxHeartbeats 800000 in
set_option maxRecDepth 100000 in
theorem m_piece {n : Nat} {d : D2} {I : M2} {J : J2} {S : M2} {L : J2} {R : R2} {Q : QT} {w g fc oc uc td : Nat} {md op : Bool} (hB : MB S w g fc oc uc td md op) {f x y : Int32} (hout : ∀ c, c < 256 → (w ≤ c % 16 ∨ g ≤ c / 16) → I 79 c = -1) (hho : ∀ j, j < fc → lt256 (I 84 j)) (hq1 : ¬ (0 ≤ f.toInt ∧ f.toInt < fc) → Q (some (.int (-101))) n (H5 d I J S L R)) (hq2 : ∀ j I1, f = nI j → j < fc → MR I I1 (dvS (vl I (nI j)) (adM w g) (opM I) 256) → (∀ i, x = nI i → ¬ i < (dvS (vl I (nI j)) (adM w g) (opM I) 256).1) → Q (some (.int (-101))) n (H5 d I1 J (u2 S 78 41 (nI (dvS (vl I (nI j)) (adM w g) (opM I) 256).1)) L R)) (hq3 : ∀ j i I1, f = nI j → j < fc → MR I I1 (dvS (vl I (nI j)) (adM w g) (opM I) 256) → x = nI i → i < (dvS (vl I (nI j)) (adM w g) (opM I) 256).1 → (∀ k, y = nI k → ¬ k < 4) → Q (some (.int (-102))) n (H5 d I1 J (u2 S 78 41 (nI (dvS (vl I (nI j)) (adM w g) (opM I) 256).1)) L R)) (hq4 : ∀ j i k I1, f = nI j → j < fc → MR I I1 (dvS (vl I (nI j)) (adM w g) (opM I) 256) → x = nI i → i < (dvS (vl I (nI j)) (adM w g) (opM I) 256).1 → y = nI k → k < 4 → Q (some (.int (plM (dvS (vl I (nI j)) (adM w g) (opM I) 256) (I 84 j) i k))) n (H5 d I1 J (u2 S 78 41 (nI (dvS (vl I (nI j)) (adM w g) (opM I) 256).1)) L R)) : Calls yX7_piece cX7_piece 4 (some .int) rmX7_piece [.ref 78, .int f, .int x, .int y] n (H5 d I J S L R) Q := by
  refine Calls.of (by decide) (Nat.le_of_ble_eq_true rfl) ?_
  intro K hk
  show AW K Q 0 0 0 [some (.ref 78), some (.int f), some (.int x), some (.int y)] [] n (H5 d I J S L R)
  obtain ⟨hw, hg, hw1, hw6, hg1, hg6, hfc, hfc2, hoc, hoc6, huc, huc5, htd, htd4, hmd, hop⟩ := id hB
  refine aw_aload_n (pc2 := 1) hk dX7_piece_0 rfl rfl ?_
  refine aw_iload_n (pc2 := 2) hk dX7_piece_1 rfl rfl ?_
  refine aw_cV (rm2 := rmX7_isField) (pc2 := 5) hk veX7_isField dX7_piece_2 rfl ml_X7_147 ⟨(Nat.le_of_ble_eq_true rfl), (Nat.le_of_ble_eq_true rfl)⟩ [_] rfl rfl (Nat.le_of_ble_eq_true rfl) (Nat.le_of_ble_eq_true rfl) (Nat.le_of_ble_eq_true rfl) (o_X7 rfl) (m_isField hB ?_)
  refine aw_if_ne (tgt := 11) (pc2 := 8) hk dX7_piece_5 (by decide) rfl (fun c5 => ?_) (fun c5 => ?_)
  · obtain ⟨j, hj1, hj2⟩ := fok_of (bi_ya c5) hfc2
    subst hj2
    have hd := dvS_ok (vl I (nI j)) (adM w g) (opM I)
    have hd1 := hd.1
    refine aw_aload_n (pc2 := 12) hk dX7_piece_11 rfl rfl ?_
    refine aw_iload_n (pc2 := 13) hk dX7_piece_12 rfl rfl ?_
    refine aw_cV (rm2 := rmX7_divide) (pc2 := 16) hk veX7_divide dX7_piece_13 rfl ml_X7_215 ⟨(Nat.le_of_ble_eq_true rfl), (Nat.le_of_ble_eq_true rfl)⟩ [_] rfl rfl (Nat.le_of_ble_eq_true rfl) (Nat.le_of_ble_eq_true rfl) (Nat.le_of_ble_eq_true rfl) (o_X7 rfl) (m_divide hB (by omega) hout (fun I1 hF => ?_))
    refine aw_iload_n (pc2 := 17) hk dX7_piece_16 rfl rfl ?_
    refine aw_i2l (pc2 := 18) hk dX7_piece_17 rfl ?_
    refine aw_lconst (v := 0) (pc2 := 19) hk dX7_piece_18 rfl (by decide) ?_
    refine aw_aload_n (pc2 := 20) hk dX7_piece_19 rfl rfl ?_
    refine aw_get (pc2 := 23) hk ckX7 41 dX7_piece_20 rfl fl_X7_184 (by decide) (o_X7 rfl) rfl ?_
    refine aw_iconst (v := 1) (pc2 := 24) hk dX7_piece_23 rfl (by decide) ?_
    refine aw_isub (pc2 := 25) hk dX7_piece_24 rfl ?_
    refine aw_i2l (pc2 := 26) hk dX7_piece_25 rfl ?_
    rw [u2_s]
    refine aw_cS (rm2 := rmX7_in) (pc2 := 29) hk seX7_in dX7_piece_26 rfl ml_X7_133 ⟨(Nat.le_of_ble_eq_true rfl), (Nat.le_of_ble_eq_true rfl)⟩ [_, _, _] rfl rfl (Nat.le_of_ble_eq_true rfl) (Nat.le_of_ble_eq_true rfl) (Nat.le_of_ble_eq_true rfl) (m_in ?_)
    refine aw_if_ne (tgt := 35) (pc2 := 32) hk dX7_piece_29 (by decide) rfl (fun c29 => ?_) (fun c29 => ?_)
    · obtain ⟨i, hi2, hi1⟩ := in_n (show (dvS (vl I (nI j)) (adM w g) (opM I) 256).1 < 2 ^ 30 by omega) (bi_ya c29)
      subst hi2
      have hB1 := hB.u2S (b := 78) (j := 41) (nI (dvS (vl I (nI j)) (adM w g) (opM I) 256).1) (Or.inr (by decide))
      refine aw_iload_n (pc2 := 36) hk dX7_piece_35 rfl rfl ?_
      by_cases h5 : ∃ k, y = nI k ∧ k < 4
      · obtain ⟨k, h6, h7⟩ := h5
        subst h6
        match k, h7 with
        | 0, _ =>
          refine aw_tableIn (tgt := 68) (off := 32) hk dX7_piece_36 (by decide) (by decide) (by decide) (by decide) ?_
          refine aw_aload_n (pc2 := 69) hk dX7_piece_68 rfl rfl ?_
          refine aw_get (pc2 := 72) hk ckX7 43 dX7_piece_69 rfl fl_X7_121 (by decide) (o_X7 rfl) rfl ?_
          refine aw_iload_n (pc2 := 73) hk dX7_piece_72 rfl rfl ?_
          refine h_iald (pc2 := 74) hk dX7_piece_73 rfl rfl rfl (by omega) (by decide) ?_
          refine aw_iret hk dX7_piece_74 (Nat.le_of_ble_eq_true rfl) (Nat.le_of_ble_eq_true rfl) (by have h9 := hq4 j i 0 I1 rfl hj1 hF rfl hi1 rfl (by decide); rw [(hF.2.2 i hi1).1]; exact h9)
        | 1, _ =>
          refine aw_tableIn (tgt := 75) (off := 39) hk dX7_piece_36 (by decide) (by decide) (by decide) (by decide) ?_
          refine aw_aload_n (pc2 := 76) hk dX7_piece_75 rfl rfl ?_
          refine aw_get (pc2 := 79) hk ckX7 42 dX7_piece_76 rfl fl_X7_118 (by decide) (o_X7 rfl) rfl ?_
          refine aw_iload_n (pc2 := 80) hk dX7_piece_79 rfl rfl ?_
          refine h_iald (pc2 := 81) hk dX7_piece_80 rfl rfl rfl (by omega) (by decide) ?_
          refine aw_iret hk dX7_piece_81 (Nat.le_of_ble_eq_true rfl) (Nat.le_of_ble_eq_true rfl) (by have h9 := hq4 j i 1 I1 rfl hj1 hF rfl hi1 rfl (by decide); rw [(hF.2.2 i hi1).2]; exact h9)
        | 2, _ =>
          refine aw_tableIn (tgt := 82) (off := 46) hk dX7_piece_36 (by decide) (by decide) (by decide) (by decide) ?_
          have e84 : I1 84 = I 84 := hF.1 84 (by decide) (by decide) (by decide) (by decide)
          refine aw_aload_n (pc2 := 83) hk dX7_piece_82 rfl rfl ?_
          refine aw_iload_n (pc2 := 84) hk dX7_piece_83 rfl rfl ?_
          refine aw_cV (rm2 := rmX7_mainOf) (pc2 := 87) hk veX7_mainOf dX7_piece_84 rfl ml_X7_218 ⟨(Nat.le_of_ble_eq_true rfl), (Nat.le_of_ble_eq_true rfl)⟩ [_] rfl rfl (Nat.le_of_ble_eq_true rfl) (Nat.le_of_ble_eq_true rfl) (Nat.le_of_ble_eq_true rfl) (o_X7 rfl) (m_mainOf (by omega) hF hd (u2_s _ _ _ _) (by rw [e84]; exact hho j hj1) ?_)
          refine aw_iload_n (pc2 := 88) hk dX7_piece_87 rfl rfl ?_
          rw [e84]
          refine aw_icmp_ne (tgt := 95) (pc2 := 91) hk dX7_piece_88 (by decide) rfl (fun c88 => ?_) (fun c88 => ?_)
          · refine aw_iconst (v := 0) (pc2 := 96) hk dX7_piece_95 rfl (by decide) ?_
            refine aw_iret hk dX7_piece_96 (Nat.le_of_ble_eq_true rfl) (Nat.le_of_ble_eq_true rfl) (by have h9 := hq4 j i 2 I1 rfl hj1 hF rfl hi1 rfl (by decide); rw [show plM (dvS (vl I (nI j)) (adM w g) (opM I) 256) (I 84 j) i 2 = (if opI (mD (dvS (vl I (nI j)) (adM w g) (opM I) 256) (I 84 j)) = nI i then 1 else 0) from rfl] at h9; first | (rw [if_pos c88] at h9; exact h9) | (rw [if_neg c88] at h9; exact h9))
          · refine aw_iconst (v := 1) (pc2 := 92) hk dX7_piece_91 rfl (by decide) ?_
            refine aw_goto (tgt := 96) hk dX7_piece_92 (by decide) ?_
            refine aw_iret hk dX7_piece_96 (Nat.le_of_ble_eq_true rfl) (Nat.le_of_ble_eq_true rfl) (by have h9 := hq4 j i 2 I1 rfl hj1 hF rfl hi1 rfl (by decide); rw [show plM (dvS (vl I (nI j)) (adM w g) (opM I) 256) (I 84 j) i 2 = (if opI (mD (dvS (vl I (nI j)) (adM w g) (opM I) 256) (I 84 j)) = nI i then 1 else 0) from rfl] at h9; first | (rw [if_pos c88] at h9; exact h9) | (rw [if_neg c88] at h9; exact h9))
        | 3, _ =>
          refine aw_tableIn (tgt := 97) (off := 61) hk dX7_piece_36 (by decide) (by decide) (by decide) (by decide) ?_
          refine aw_aload_n (pc2 := 98) hk dX7_piece_97 rfl rfl ?_
          refine aw_iload_n (pc2 := 99) hk dX7_piece_98 rfl rfl ?_
          refine aw_cV (rm2 := rmX7_hasWay) (pc2 := 102) hk veX7_hasWay dX7_piece_99 rfl ml_X7_225 ⟨(Nat.le_of_ble_eq_true rfl), (Nat.le_of_ble_eq_true rfl)⟩ [_] rfl rfl (Nat.le_of_ble_eq_true rfl) (Nat.le_of_ble_eq_true rfl) (Nat.le_of_ble_eq_true rfl) (o_X7 rfl) (m_hasWay hB1 hF hi1 ?_)
          refine aw_if_eq (tgt := 109) (pc2 := 105) hk dX7_piece_102 (by decide) rfl (fun c102 => ?_) (fun c102 => ?_)
          · refine aw_iconst (v := 0) (pc2 := 110) hk dX7_piece_109 rfl (by decide) ?_
            refine aw_iret hk dX7_piece_110 (Nat.le_of_ble_eq_true rfl) (Nat.le_of_ble_eq_true rfl) (by have h9 := hq4 j i 3 I1 rfl hj1 hF rfl hi1 rfl (by decide); rw [show plM (dvS (vl I (nI j)) (adM w g) (opM I) 256) (I 84 j) i 3 = bi ((dvS (vl I (nI j)) (adM w g) (opM I) 256).2.2.2.2 i) from rfl] at h9; first | (rw [c102] at h9; exact h9) | (rw [bi_t c102] at h9; exact h9))
          · refine aw_iconst (v := 1) (pc2 := 106) hk dX7_piece_105 rfl (by decide) ?_
            refine aw_goto (tgt := 110) hk dX7_piece_106 (by decide) ?_
            refine aw_iret hk dX7_piece_110 (Nat.le_of_ble_eq_true rfl) (Nat.le_of_ble_eq_true rfl) (by have h9 := hq4 j i 3 I1 rfl hj1 hF rfl hi1 rfl (by decide); rw [show plM (dvS (vl I (nI j)) (adM w g) (opM I) 256) (I 84 j) i 3 = bi ((dvS (vl I (nI j)) (adM w g) (opM I) 256).2.2.2.2 i) from rfl] at h9; first | (rw [c102] at h9; exact h9) | (rw [bi_t c102] at h9; exact h9))
      · refine aw_tableOut (tgt := 111) hk dX7_piece_36 (by rcases Int.lt_or_le y.toInt 0 with q | q; exact Or.inl q; exact Or.inr (by rcases Int.lt_or_le 3 y.toInt with q2 | q2; exact q2; exact absurd ⟨y.toInt.toNat, i_eq (by omega), by omega⟩ h5)) (by decide) ?_
        refine aw_bipush (v := -102) (pc2 := 113) hk dX7_piece_111 rfl (by decide) ?_
        refine aw_iret hk dX7_piece_113 (Nat.le_of_ble_eq_true rfl) (Nat.le_of_ble_eq_true rfl) (hq3 j i I1 rfl hj1 hF rfl hi1 (fun k h8 h9 => h5 ⟨k, h8, h9⟩))
    · refine aw_bipush (v := -101) (pc2 := 34) hk dX7_piece_32 rfl (by decide) ?_
      refine aw_iret hk dX7_piece_34 (Nat.le_of_ble_eq_true rfl) (Nat.le_of_ble_eq_true rfl) (hq2 j I1 rfl hj1 hF (fun i h9 h8 => by subst h9; exact bi_no c29 (in_y (by omega) h8)))
  · refine aw_bipush (v := -101) (pc2 := 10) hk dX7_piece_8 rfl (by decide) ?_
    refine aw_iret hk dX7_piece_10 (Nat.le_of_ble_eq_true rfl) (Nat.le_of_ble_eq_true rfl) (hq1 (bi_no c5))
