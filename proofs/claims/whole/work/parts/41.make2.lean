def pk (I : M2) (f : Nat) : Bool := decide (0 < cil I f)
/-- the orders' cells, those of undone ones too -/
def Lay (n : Nat) (d : D2) (R : R2) : Prop := ∀ o, o < 60 → R 77 o = none ∨ ∃ a, R 77 o = some a ∧ 115 ≤ a ∧ a + 1 < n ∧ kd d a = (13, o) ∧ kd d (a + 1) = (7, 12) ∧ ∀ k, k < 12 → R (a + 1) k = none ∨ ∃ c, R (a + 1) k = some c ∧ 115 ≤ c ∧ c + 1 < n ∧ kd d c = (10, 12 * o + k) ∧ kd d (c + 1) = (3, 4)
/-- a case as it begins -/
def csZ (I : M2) (J : J2) (S : M2) (L : J2) (c fl : Nat) : Prop := S c 0 = nI fl ∧ S c 1 = cil I fl ∧ S c 2 = 0 ∧ S c 3 = 0 ∧ S c 4 = 0 ∧ S c 5 = 0 ∧ L c 6 = 0 ∧ L c 7 = 0 ∧ L c 8 = 0 ∧ L c 9 = 0 ∧ L c 10 = 0 ∧ L c 11 = 0 ∧ L c 12 = 0 ∧ L c 13 = 0 ∧ L c 14 = 0 ∧ ∀ r, r < 4 → J (c + 1) r = 0
theorem csZ.eq {I : M2} {J J' : J2} {S S' : M2} {L L' : J2} {c fl : Nat} (h : csZ I J S L c fl) (hS : S' c = S c) (hL : L' c = L c) (hJ : J' (c + 1) = J (c + 1)) : csZ I J' S' L' c fl := by
  unfold csZ at *
  rw [hS, hL, hJ]
  exact h
/-- what stays, while order oc is made at a: kinds, rows, numbers -/
def MkF (a oc n0 : Nat) (d0 : D2) (J0 : J2) (S0 : M2) (L0 : J2) (R0 : R2) (n : Nat) (d : D2) (J : J2) (S : M2) (L : J2) (R : R2) : Prop :=
  n0 ≤ n ∧ (∀ b, b < n0 → kd d b = kd d0 b) ∧ (∀ o, o ≠ oc → R 77 o = R0 77 o) ∧ (∀ b, b < n0 → b ≠ 77 → b ≠ a + 1 → R b = R0 b) ∧
  (∀ b, b < n0 → b ≠ 0 → b ≠ a → (∀ k, k < 12 → kd d0 b ≠ (10, 12 * oc + k)) → S b = S0 b) ∧ (∀ j, j ≠ 9 → S 0 j = S0 0 j) ∧ S 0 9 = nI (oc + 1) ∧
  (∀ b, b < n0 → (∀ k, k < 12 → kd d0 b ≠ (10, 12 * oc + k)) → L b = L0 b) ∧ (∀ b, b < n0 → (∀ c k, k < 12 → b = c + 1 → kd d0 c ≠ (10, 12 * oc + k)) → J b = J0 b)
def MkA (a oc n : Nat) (d : D2) (R : R2) : Prop := 115 ≤ a ∧ a + 1 < n ∧ kd d a = (13, oc) ∧ kd d (a + 1) = (7, 12) ∧ R 77 oc = some a ∧ Lay n d R
def MkD (I : M2) (a oc f : Nat) (d : D2) (J : J2) (S : M2) (L : J2) (R : R2) : Prop := S a 2 = nI (cntB (pk I) f) ∧ ∀ k, k < cntB (pk I) f → ∃ c fl, R (a + 1) k = some c ∧ fl < f ∧ pk I fl = true ∧ cntB (pk I) fl = k ∧ csZ I J S L c fl
def MkC (I : M2) (a oc f : Nat) (x y : Int32) (n0 : Nat) (d0 : D2) (J0 : J2) (S0 : M2) (L0 : J2) (R0 : R2) (n : Nat) (d : D2) (J : J2) (S : M2) (L : J2) (R : R2) : Prop :=
  MkF a oc n0 d0 J0 S0 L0 R0 n d J S L R ∧ MkA a oc n d R ∧ (S a 0 = x ∧ S a 1 = y) ∧ MkD I a oc f d J S L R
theorem Lay.new {n : Nat} {d : D2} {R : R2} {oc : Nat} (hn : 115 ≤ n) (h : Lay n d R) : Lay (n + 2) (dX d n (13, oc) (7, 12)) (u2 (zr R (n + 1) none) 77 oc (some n)) := by
  intro o ho
  by_cases e : o = oc
  · subst e
    refine Or.inr ⟨n, u2_s _ _ _ _, hn, by omega, dX_0 hn, dX_1 hn, fun k hk => Or.inl ?_⟩
    rw [u2_a _ _ _ _ (by omega), zr_s]
  · rw [u2_j _ _ _ _ e, zr_ne _ _ (show (77 : Nat) ≠ n + 1 by omega)]
    rcases h o ho with h | ⟨a, h1, h2, h3, h4, h5, h6⟩
    · exact Or.inl h
    · refine Or.inr ⟨a, h1, h2, by omega, (dX_n (by omega) (by omega)).trans h4, (dX_n (by omega) (by omega)).trans h5, fun k hk => ?_⟩
      rw [u2_a _ _ _ _ (by omega), zr_ne _ _ (by omega)]
      rcases h6 k hk with h | ⟨c, g1, g2, g3, g4, g5⟩
      · exact Or.inl h
      · exact Or.inr ⟨c, g1, g2, by omega, (dX_n (by omega) (by omega)).trans g4, (dX_n (by omega) (by omega)).trans g5⟩
theorem Lay.add {n : Nat} {d : D2} {R : R2} {a oc m : Nat} (hn : 115 ≤ n) (ha : R 77 oc = some a) (h15 : 115 ≤ a) (hk : kd d a = (13, oc)) (h : Lay n d R) : Lay (n + 2) (dX d n (10, 12 * oc + m) (3, 4)) (u2 R (a + 1) m (some n)) := by
  intro o ho
  rw [u2_a _ _ _ _ (show (77 : Nat) ≠ a + 1 by omega)]
  rcases h o ho with h | ⟨b, h1, h2, h3, h4, h5, h6⟩
  · exact Or.inl h
  · refine Or.inr ⟨b, h1, h2, by omega, (dX_n (by omega) (by omega)).trans h4, (dX_n (by omega) (by omega)).trans h5, fun k hk2 => ?_⟩
    by_cases e : o = oc ∧ k = m
    · obtain ⟨rfl, rfl⟩ := e
      rw [ha] at h1
      cases h1
      exact Or.inr ⟨n, u2_s _ _ _ _, hn, by omega, dX_0 hn, dX_1 hn⟩
    · have e2 : u2 R (a + 1) m (some n) (b + 1) k = R (b + 1) k := by
        by_cases e3 : k = m
        · refine u2_a _ _ _ _ (fun e4 => ?_)
          have e5 : b = a := by omega
          subst e5
          rw [hk] at h4
          have : oc = o := congrArg Prod.snd h4
          omega
        · exact u2_j _ _ _ _ e3
      rw [e2]
      rcases h6 k hk2 with h | ⟨c, g1, g2, g3, g4, g5⟩
      · exact Or.inl h
      · exact Or.inr ⟨c, g1, g2, by omega, (dX_n (by omega) (by omega)).trans g4, (dX_n (by omega) (by omega)).trans g5⟩
theorem MkC.old {I : M2} {n : Nat} {d : D2} {J : J2} {S : M2} {L : J2} {R : R2} {a oc : Nat} (ho : oc < 60) (x y : Int32) (hL : Lay n d R) (ha : R 77 oc = some a) : MkC I a oc 0 x y n d J S L R n d J (u2 (u2 (u2 (u2 S 0 9 (nI (oc + 1))) a 0 x) a 1 y) a 2 0) L R := by
  rcases hL oc ho with h | ⟨b, h1, h2, h3, h4, h5, h6⟩
  · rw [ha] at h; cases h
  · rw [ha] at h1
    cases h1
    have hne : (0 : Nat) ≠ a := by omega
    refine ⟨⟨Nat.le_refl _, fun _ _ => rfl, fun _ _ => rfl, fun _ _ _ _ => rfl, fun b hb h0 hba _ => ?_, fun j hj => ?_, ?_, fun _ _ _ => rfl, fun _ _ _ => rfl⟩, ⟨h2, h3, h4, h5, ha, hL⟩, ⟨?_, ?_⟩, ?_, fun k hk => absurd hk (Nat.not_lt_zero k)⟩
    · rw [u2_row _ _ _ hba, u2_row _ _ _ hba, u2_row _ _ _ hba, u2_row _ _ _ h0]
    · rw [u2_a _ _ _ _ hne, u2_a _ _ _ _ hne, u2_a _ _ _ _ hne, u2_j _ _ _ _ hj]
    · rw [u2_a _ _ _ _ hne, u2_a _ _ _ _ hne, u2_a _ _ _ _ hne, u2_s]
    · rw [u2_j _ _ _ _ (by decide), u2_j _ _ _ _ (by decide), u2_s]
    · rw [u2_j _ _ _ _ (by decide), u2_s]
    · rw [u2_s]; rfl
theorem MkC.new {I : M2} {n : Nat} {d : D2} {J : J2} {S : M2} {L : J2} {R : R2} {oc : Nat} (hn : 115 ≤ n) (x y : Int32) (hL : Lay n d R) : MkC I n oc 0 x y n d J S L R (n + 2) (dX d n (13, oc) (7, 12)) J (u2 (u2 (u2 (u2 (zr S n 0) 0 9 (nI (oc + 1))) n 0 x) n 1 y) n 2 0) L (u2 (zr R (n + 1) none) 77 oc (some n)) := by
  have hne : (0 : Nat) ≠ n := by omega
  refine ⟨⟨by omega, fun b hb => dX_n (by omega) (by omega), fun o ho => ?_, fun b hb h7 _ => ?_, fun b hb h0 hba _ => ?_, fun j hj => ?_, ?_, fun _ _ _ => rfl, fun _ _ _ => rfl⟩, ⟨hn, by omega, dX_0 hn, dX_1 hn, u2_s _ _ _ _, hL.new hn⟩, ⟨?_, ?_⟩, ?_, fun k hk => absurd hk (Nat.not_lt_zero k)⟩
  · rw [u2_j _ _ _ _ ho, zr_ne _ _ (by omega)]
  · rw [u2_row _ _ _ h7, zr_ne _ _ (by omega)]
  · rw [u2_row _ _ _ hba, u2_row _ _ _ hba, u2_row _ _ _ hba, u2_row _ _ _ h0, zr_ne _ _ hba]
  · rw [u2_a _ _ _ _ hne, u2_a _ _ _ _ hne, u2_a _ _ _ _ hne, u2_j _ _ _ _ hj, zr_ne _ _ hne]
  · rw [u2_a _ _ _ _ hne, u2_a _ _ _ _ hne, u2_a _ _ _ _ hne, u2_s]
  · rw [u2_j _ _ _ _ (by decide), u2_j _ _ _ _ (by decide), u2_s]
  · rw [u2_j _ _ _ _ (by decide), u2_s]
  · rw [u2_s]; rfl
theorem MkC.skip {I : M2} {a oc f : Nat} {x y : Int32} {n0 : Nat} {d0 : D2} {J0 : J2} {S0 : M2} {L0 : J2} {R0 : R2} {n : Nat} {d : D2} {J : J2} {S : M2} {L : J2} {R : R2} (h : MkC I a oc f x y n0 d0 J0 S0 L0 R0 n d J S L R) (hp : pk I f = false) : MkC I a oc (f + 1) x y n0 d0 J0 S0 L0 R0 n d J S L R := by
  obtain ⟨h1, h2, h3, h4, h5⟩ := h
  have e : cntB (pk I) (f + 1) = cntB (pk I) f := by
    conv => lhs; unfold cntB
    rw [hp]
    rfl
  refine ⟨h1, h2, h3, by rw [e]; exact h4, fun k hk => ?_⟩
  rw [e] at hk
  obtain ⟨c, fl, g1, g2, g3⟩ := h5 k hk
  exact ⟨c, fl, g1, by omega, g3⟩
theorem bgS_ne (S : M2) {a b : Nat} (f c : Int32) (h : b ≠ a) : bgS S a f c b = S b := by unfold bgS; rw [u2_row _ _ _ h, u2_row _ _ _ h, u2_row _ _ _ h, u2_row _ _ _ h, u2_row _ _ _ h, u2_row _ _ _ h]
theorem bgL_ne (L : J2) {a b : Nat} (h : b ≠ a) : bgL L a b = L b := by unfold bgL; rw [u2_row _ _ _ h, u2_row _ _ _ h, u2_row _ _ _ h, u2_row _ _ _ h, u2_row _ _ _ h, u2_row _ _ _ h, u2_row _ _ _ h, u2_row _ _ _ h, u2_row _ _ _ h]
theorem csZ.beg (I : M2) (J : J2) (S : M2) (L : J2) (c fl : Nat) : csZ I (rowU J (c + 1) 4 (fun _ => 0)) (bgS S c (nI fl) (cil I fl)) (bgL L c) c fl := by
  refine ⟨?_, ?_, ?_, ?_, ?_, ?_, ?_, ?_, ?_, ?_, ?_, ?_, ?_, ?_, ?_, fun r hr => rowU_in _ _ _ hr⟩ <;> simp [bgS, bgL, u2]
theorem MkC.add {I : M2} {a oc f : Nat} {x y : Int32} {n0 : Nat} {d0 : D2} {J0 : J2} {S0 : M2} {L0 : J2} {R0 : R2} {n : Nat} {d : D2} {J : J2} {S : M2} {L : J2} {R : R2} {n' : Nat} {d' : D2} {J' : J2} {S' : M2} {L' : J2} {R' : R2} (hn0 : 115 ≤ n0) (ho : oc < 60) (hf : f < 12) (h : MkC I a oc f x y n0 d0 J0 S0 L0 R0 n d J S L R) (hp : pk I f = true) (hA : AdR a oc (cntB (pk I) f) (nI f) (cil I f) n d J S L R n' d' J' S' L' R') : MkC I a oc (f + 1) x y n0 d0 J0 S0 L0 R0 n' d' J' S' L' R' := by
  obtain ⟨⟨f1, f2, f3, f4, f5, f6, f7, f8, f9⟩, ⟨a1, a2, a3, a4, a5, a6⟩, ⟨b1, b2⟩, c1, c2⟩ := h
  have e : cntB (pk I) (f + 1) = cntB (pk I) f + 1 := by
    conv => lhs; unfold cntB
    rw [hp]
    rfl
  have hm : cntB (pk I) f < 12 := Nat.lt_of_le_of_lt (cntB_le _ _) hf
  have hck : ∀ k c, k < 12 → R (a + 1) k = some c → 115 ≤ c ∧ c + 1 < n ∧ kd d c = (10, 12 * oc + k) ∧ kd d (c + 1) = (3, 4) := fun k c hk hc => by
    rcases a6 oc ho with h | ⟨b, h1, h2, h3, h4, h5, h6⟩
    · rw [a5] at h; cases h
    · rw [a5] at h1
      cases h1
      rcases h6 k hk with h | ⟨c', g1, g2⟩
      · rw [hc] at h; cases h
      · rw [hc] at g1
        cases g1
        exact g2
  rcases hA with ⟨c, hc, k1, k2, rfl, rfl, rfl, rfl, rfl, rfl⟩ | ⟨hc, rfl, rfl, rfl, rfl, rfl, rfl⟩
  · have hc15 := (hck _ _ hm hc).1
    have hac : a ≠ c := fun e9 => by rw [e9] at a3; rw [a3] at k1; cases k1
    have h0c : (0 : Nat) ≠ c := by omega
    have h0a : (0 : Nat) ≠ a := by omega
    have hbc : ∀ b, b < n0 → (∀ k, k < 12 → kd d0 b ≠ (10, 12 * oc + k)) → b ≠ c := fun b hb h9 e9 => by
      subst e9
      exact h9 _ hm (by rw [← f2 b hb]; exact k1)
    refine ⟨⟨f1, f2, f3, f4, fun b hb h0 hba h9 => ?_, fun j hj => ?_, ?_, fun b hb h9 => ?_, fun b hb h9 => ?_⟩, ⟨a1, a2, a3, a4, a5, a6⟩, ⟨?_, ?_⟩, ?_, fun k hk => ?_⟩
    · rw [bgS_ne _ _ _ (hbc b hb h9), u2_row _ _ _ hba]; exact f5 b hb h0 hba h9
    · rw [bgS_ne _ _ _ h0c, u2_row _ _ _ h0a]; exact f6 j hj
    · rw [bgS_ne _ _ _ h0c, u2_row _ _ _ h0a]; exact f7
    · rw [bgL_ne _ (hbc b hb h9)]; exact f8 b hb h9
    · rw [rowU_ne _ _ _ (fun e9 => h9 c _ hm e9 (by rw [← f2 c (by omega)]; exact k1))]; exact f9 b hb h9
    · rw [bgS_ne _ _ _ hac, u2_j _ _ _ _ (by decide)]; exact b1
    · rw [bgS_ne _ _ _ hac, u2_j _ _ _ _ (by decide)]; exact b2
    · rw [bgS_ne _ _ _ hac, u2_s, e]
    · rw [e] at hk
      by_cases hkm : k = cntB (pk I) f
      · subst hkm
        exact ⟨c, f, hc, by omega, hp, rfl, csZ.beg I J _ L c f⟩
      · obtain ⟨ck, fl, g1, g2, g3, g4, g5⟩ := c2 k (by omega)
        have hk2 := hck k ck (by omega) g1
        have hcc : ck ≠ c := fun e9 => by
          subst e9
          have h8 := hk2.2.2.1
          rw [k1] at h8
          have h7 : 12 * oc + cntB (pk I) f = 12 * oc + k := congrArg Prod.snd h8
          omega
        have hca : ck ≠ a := fun e9 => by
          subst e9
          have h8 := hk2.2.2.1
          rw [a3] at h8
          cases h8
        exact ⟨ck, fl, g1, by omega, g3, g4, g5.eq (by rw [bgS_ne _ _ _ hcc, u2_row _ _ _ hca]) (bgL_ne _ hcc) (rowU_ne _ _ _ (by omega))⟩
  · have hn : 115 ≤ n := by omega
    have han : a ≠ n := by omega
    have h0n : (0 : Nat) ≠ n := by omega
    have h0a : (0 : Nat) ≠ a := by omega
    refine ⟨⟨by omega, fun b hb => (dX_n (by omega) (by omega)).trans (f2 b hb), fun o h9 => ?_, fun b hb h7 h8 => ?_, fun b hb h0 hba h9 => ?_, fun j hj => ?_, ?_, fun b hb h9 => ?_, fun b hb h9 => ?_⟩, ⟨a1, by omega, (dX_n (by omega) (by omega)).trans a3, (dX_n (by omega) (by omega)).trans a4, ?_, a6.add hn a5 a1 a3⟩, ⟨?_, ?_⟩, ?_, fun k hk => ?_⟩
    · rw [u2_a _ _ _ _ (by omega)]; exact f3 o h9
    · rw [u2_row _ _ _ h8]; exact f4 b hb h7 h8
    · rw [bgS_ne _ _ _ (by omega), u2_row _ _ _ hba, zr_ne _ _ (by omega)]; exact f5 b hb h0 hba h9
    · rw [bgS_ne _ _ _ h0n, u2_row _ _ _ h0a, zr_ne _ _ h0n]; exact f6 j hj
    · rw [bgS_ne _ _ _ h0n, u2_row _ _ _ h0a, zr_ne _ _ h0n]; exact f7
    · rw [bgL_ne _ (by omega), zr_ne _ _ (by omega)]; exact f8 b hb h9
    · rw [rowU_ne _ _ _ (by omega), zr_ne _ _ (by omega)]; exact f9 b hb h9
    · rw [u2_a _ _ _ _ (by omega)]; exact a5
    · rw [bgS_ne _ _ _ han, u2_j _ _ _ _ (by decide), zr_ne _ _ han]; exact b1
    · rw [bgS_ne _ _ _ han, u2_j _ _ _ _ (by decide), zr_ne _ _ han]; exact b2
    · rw [bgS_ne _ _ _ han, u2_s, e]
    · rw [e] at hk
      by_cases hkm : k = cntB (pk I) f
      · subst hkm
        exact ⟨n, f, u2_s _ _ _ _, by omega, hp, rfl, csZ.beg I _ _ _ n f⟩
      · obtain ⟨ck, fl, g1, g2, g3, g4, g5⟩ := c2 k (by omega)
        have hk2 := hck k ck (by omega) g1
        have hca : ck ≠ a := fun e9 => by
          subst e9
          have h8 := hk2.2.2.1
          rw [a3] at h8
          cases h8
        have h1n : ck ≠ n := by omega
        exact ⟨ck, fl, by rw [u2_j _ _ _ _ hkm]; exact g1, by omega, g3, g4, g5.eq (by rw [bgS_ne _ _ _ h1n, u2_row _ _ _ hca, zr_ne _ _ h1n]) (by rw [bgL_ne _ h1n, zr_ne _ _ h1n]) (by rw [rowU_ne _ _ _ (by omega), zr_ne _ _ (by omega)])⟩
theorem pk_t {I : M2} {f : Nat} (h : ¬ cil I f ≤ 0) : pk I f = true := by unfold pk; rw [decide_eq_true_eq, i_lt, l0]; rw [i_le, l0] at h; omega
theorem pk_f {I : M2} {f : Nat} (h : cil I f ≤ 0) : pk I f = false := by unfold pk; rw [decide_eq_false_iff_not, i_lt, l0]; rw [i_le, l0] at h; omega
set_option maxHeartbeats 800000 in
set_option maxRecDepth 100000 in
theorem t_make {n : Nat} {d : D2} {I : M2} {J : J2} {S : M2} {L : J2} {R : R2} {Q : QT} {w g fc oc uc td : Nat} (hB : CB S R w g fc oc uc td) {oa nc : Nat → Nat} {ca : Nat → Nat → Nat} (hO : OrdB d S R oc oa nc ca) (hn : 115 ≤ n) (hLay : Lay n d R) (hq1 : opn S oc nc ca → Q (some (.int (-103))) n (H5 d I J S L R)) (hq2 : ¬ opn S oc nc ca → anyB (fun f => decide (0 < cil I f)) fc = false → Q (some (.int (-102))) n (H5 d I J S L R)) (hq3 : ¬ opn S oc nc ca → anyB (fun f => decide (0 < cil I f)) fc = true → oc = 60 → Q (some (.int (-104))) n (H5 d I J S L R)) (hq4 : ¬ opn S oc nc ca → anyB (fun f => decide (0 < cil I f)) fc = true → oc < 60 → ∀ a n' d' J' S' L' R', MkC I a oc fc (S 0 7) (I 76 4) n d J S L R n' d' J' S' L' R' → Q (some (.int (nI (cntB (pk I) fc)))) n' (H5 d' I J' S' L' R')) : Calls yX6_make cX6_make 4 (some .int) rmX6_make [.ref 0] n (H5 d I J S L R) Q := by
  refine Calls.of (by decide) (Nat.le_of_ble_eq_true rfl) ?_
  intro K hk
  show AW K Q 0 0 0 [some (.ref 0), none, none, none] [] n (H5 d I J S L R)
  obtain ⟨hw, hg, hw1, hw6, hg1, hg6, hfc, hfc2, hoc, hoc6, huc, huc5, htd, htd4, hR13, hR62⟩ := id hB
  by_cases h1 : opn S oc nc ca
  · refine aw_aload_n (pc2 := 1) hk dX6_make_0 rfl rfl ?_
    refine aw_cV (rm2 := rmX6_openOrder) (pc2 := 4) hk veX6_openOrder dX6_make_1 rfl ml_X6_124 ⟨(Nat.le_of_ble_eq_true rfl), (Nat.le_of_ble_eq_true rfl)⟩ [] rfl rfl (Nat.le_of_ble_eq_true rfl) (Nat.le_of_ble_eq_true rfl) (Nat.le_of_ble_eq_true rfl) (o_X6 rfl) (t_open hB hO h1 ?_)
    refine aw_ifnull_r (pc2 := 7) hk dX6_make_4 rfl ?_
    refine aw_bipush (v := -103) (pc2 := 9) hk dX6_make_7 rfl (by decide) ?_
    refine aw_iret hk dX6_make_9 (Nat.le_of_ble_eq_true rfl) (Nat.le_of_ble_eq_true rfl) (hq1 h1)
  · refine aw_aload_n (pc2 := 1) hk dX6_make_0 rfl rfl ?_
    refine aw_cV (rm2 := rmX6_openOrder) (pc2 := 4) hk veX6_openOrder dX6_make_1 rfl ml_X6_124 ⟨(Nat.le_of_ble_eq_true rfl), (Nat.le_of_ble_eq_true rfl)⟩ [] rfl rfl (Nat.le_of_ble_eq_true rfl) (Nat.le_of_ble_eq_true rfl) (Nat.le_of_ble_eq_true rfl) (o_X6 rfl) (t_openN hB hO h1 ?_)
    refine aw_ifnull_n (tgt := 10) hk dX6_make_4 (by decide) ?_
    refine aw_aload_n (pc2 := 11) hk dX6_make_10 rfl rfl ?_
    refine aw_cV (rm2 := rmX6_touchesField) (pc2 := 14) hk veX6_touchesField dX6_make_11 rfl ml_X6_134 ⟨(Nat.le_of_ble_eq_true rfl), (Nat.le_of_ble_eq_true rfl)⟩ [] rfl rfl (Nat.le_of_ble_eq_true rfl) (Nat.le_of_ble_eq_true rfl) (Nat.le_of_ble_eq_true rfl) (o_X6 rfl) (t_touches hB ?_)
    refine aw_if_ne (tgt := 20) (pc2 := 17) hk dX6_make_14 (by decide) rfl (fun c14 => ?_) (fun c14 => ?_)
    · refine aw_aload_n (pc2 := 21) hk dX6_make_20 rfl rfl ?_
      refine aw_get (pc2 := 24) hk ckX6 9 dX6_make_21 rfl fl_X6_100 (by decide) (o_X6 rfl) rfl ?_
      refine aw_bipush (v := 60) (pc2 := 26) hk dX6_make_24 rfl (by decide) ?_
      refine aw_icN_lt (x := oc) (y := 60) (tgt := 32) (pc2 := 29) hk dX6_make_26 (by decide) rfl hoc rfl (by omega) (by omega) (fun c26 => ?_) (fun c26 => ?_)
      · have hoc60 : oc < 60 := c26
        have h2 := bi_tt c14
        have loop : ∀ (a k f : Nat) (n' : Nat) (d' : D2) (J' : J2) (S' : M2) (L' : J2) (R' : R2), f ≤ fc → fc + 1 ≤ f + k → MkC I a oc f (S 0 7) (I 76 4) n d J S L R n' d' J' S' L' R' → AW K Q (2 + 2 * f) (16 + 20 * f) 90 [some (.ref 0), some (.ref a), some (.int (nI f)), none] [] n' (H5 d' I J' S' L' R') := by
          intro a k
          induction k with
          | zero => intro f n' d' J' S' L' R' g1 g2; omega
          | succ k ih =>
            intro f n' d' J' S' L' R' hi hn9 hC
            obtain ⟨hF, hA, hX, hD⟩ := id hC
            have hfc9 : S' 0 3 = nI fc := (hF.2.2.2.2.2.1 3 (by decide)).trans hfc
            refine aw_iload_n (pc2 := 91) hk dX6_make_90 rfl rfl ?_
            refine aw_aload_n (pc2 := 92) hk dX6_make_91 rfl rfl ?_
            refine aw_get (pc2 := 95) hk ckX6 3 dX6_make_92 rfl fl_X6_58 (by decide) (o_X6 rfl) rfl ?_
            refine aw_icN_ge (x := f) (y := fc) (tgt := 123) (pc2 := 98) hk dX6_make_95 (by decide) rfl rfl hfc9 (by omega) (by omega) (fun c95 => ?_) (fun c95 => ?_)
            · have ef : f = fc := by omega
              rw [ef] at hC hD
              refine aw_aload_n (pc2 := 124) hk dX6_make_123 rfl rfl ?_
              refine aw_get (pc2 := 127) hk ckX3 2 dX6_make_124 rfl fl_X6_147 (by decide) (o_X3 hA.2.2.1) rfl ?_
              exact aw_iret hk dX6_make_127 (by show 2 + 2 * f ≤ 26; omega) (by show 16 + 20 * f ≤ 256; omega) (by rw [hD.1]; exact hq4 h1 h2 hoc60 a _ _ _ _ _ _ hC)
            · have hrow : R' (a + 1) (cntB (pk I) f) = none ∨ ∃ c, R' (a + 1) (cntB (pk I) f) = some c ∧ kd d' c = (10, 12 * oc + cntB (pk I) f) ∧ kd d' (c + 1) = (3, 4) := by
                have hle := cntB_le (pk I) f
                rcases hA.2.2.2.2.2 oc hoc60 with h | ⟨b, g1, g2, g3, g4, g5, g6⟩
                · rw [hA.2.2.2.2.1] at h; cases h
                · rw [hA.2.2.2.2.1] at g1
                  cases g1
                  by_cases h12 : cntB (pk I) f < 12
                  · rcases g6 _ h12 with h | ⟨c, e1, e2, e3, e4, e5⟩
                    · exact Or.inl h
                    · exact Or.inr ⟨c, e1, e4, e5⟩
                  · exact absurd hle (by omega)
              refine aw_aload_n (pc2 := 99) hk dX6_make_98 rfl rfl ?_
              refine aw_get (pc2 := 102) hk ckX6 0 dX6_make_99 rfl fl_X6_12 (by decide) (o_X6 rfl) rfl ?_
              refine aw_iload_n (pc2 := 103) hk dX6_make_102 rfl rfl ?_
              refine aw_cV (rm2 := rmX2_cellsInLine) (pc2 := 106) hk veX2_cellsInLine dX6_make_103 rfl ml_X6_141 ⟨(Nat.le_of_ble_eq_true rfl), (Nat.le_of_ble_eq_true rfl)⟩ [_] rfl rfl (Nat.le_of_ble_eq_true rfl) (by show 2 + 2 * f + 0 ≤ 26; omega) (by show 16 + 20 * f + 0 ≤ 256; omega) (o_X2 rfl) (t_cellsInLine ?_)
              refine aw_istore_n (pc2 := 107) hk dX6_make_106 rfl (by decide) ?_
              show AW K Q _ _ 107 [_, _, _, _] _ _ _
              refine aw_iload_n (pc2 := 108) hk dX6_make_107 rfl rfl ?_
              refine aw_if_le (tgt := 117) (pc2 := 111) hk dX6_make_108 (by decide) rfl (fun c108 => ?_) (fun c108 => ?_)
              · refine aw_iinc1 (pc2 := 120) hk dX6_make_117 rfl rfl (by decide) ?_
                show AW K Q _ _ 120 [_, _, _, _] _ _ _
                refine aw_goto (tgt := 90) hk dX6_make_120 (by decide) ?_
                refine aw_fg 3 ?_
                first
                  | exact aw_widen (by show 2 + 2 * f + 0 + 2 ≤ 2 + 2 * (f + 1); omega) (by show 16 + 20 * f + 0 + 20 ≤ 16 + 20 * (f + 1); omega) (ih (f + 1) _ _ _ _ _ _ (by omega) (by omega) hC2)
                  | exact aw_widen (by show 2 + 2 * f + 0 ≤ 2 + 2 * (f + 1); omega) (by show 16 + 20 * f + 0 ≤ 16 + 20 * (f + 1); omega) (ih (f + 1) _ _ _ _ _ _ (by omega) (by omega) (hC.skip (pk_f c108)))
              · refine aw_aload_n (pc2 := 112) hk dX6_make_111 rfl rfl ?_
                refine aw_iload_n (pc2 := 113) hk dX6_make_112 rfl rfl ?_
                refine aw_iload_n (pc2 := 114) hk dX6_make_113 rfl rfl ?_
                refine aw_cV (rm2 := rmX3_addCase) (pc2 := 117) hk veX3_addCase dX6_make_114 rfl ml_X6_144 ⟨(Nat.le_of_ble_eq_true rfl), (Nat.le_of_ble_eq_true rfl)⟩ [_, _] rfl rfl (Nat.le_of_ble_eq_true rfl) (by show 2 + 2 * f + 0 + 2 ≤ 26; omega) (by show 16 + 20 * f + 0 + 20 ≤ 256; omega) (o_X3 hA.2.2.1) (t_addCase (m := cntB (pk I) f) (by have := hF.1; omega) hA.2.1 hA.2.2.1 hA.2.2.2.1 hD.1 (Nat.lt_of_le_of_lt (cntB_le _ _) (by omega)) hrow (fun n9 d9 J9 S9 L9 R9 h9 => ?_))
                have hC2 := hC.add hn hoc60 (by omega) (pk_t c108) h9
                refine aw_iinc1 (pc2 := 120) hk dX6_make_117 rfl rfl (by decide) ?_
                show AW K Q _ _ 120 [_, _, _, _] _ _ _
                refine aw_goto (tgt := 90) hk dX6_make_120 (by decide) ?_
                refine aw_fg 3 ?_
                first
                  | exact aw_widen (by show 2 + 2 * f + 0 + 2 ≤ 2 + 2 * (f + 1); omega) (by show 16 + 20 * f + 0 + 20 ≤ 16 + 20 * (f + 1); omega) (ih (f + 1) _ _ _ _ _ _ (by omega) (by omega) hC2)
                  | exact aw_widen (by show 2 + 2 * f + 0 ≤ 2 + 2 * (f + 1); omega) (by show 16 + 20 * f + 0 ≤ 16 + 20 * (f + 1); omega) (ih (f + 1) _ _ _ _ _ _ (by omega) (by omega) (hC.skip (pk_f c108)))
        rcases hLay oc hoc60 with hc | ⟨a, ha, ha15, han, hka, hka1, hrw⟩
        · refine aw_aload_n (pc2 := 33) hk dX6_make_32 rfl rfl ?_
          refine aw_get (pc2 := 36) hk ckX6 8 dX6_make_33 rfl fl_X6_46 (by decide) (o_X6 rfl) rfl ?_
          refine aw_aload_n (pc2 := 37) hk dX6_make_36 rfl rfl ?_
          refine aw_get (pc2 := 40) hk ckX6 9 dX6_make_37 rfl fl_X6_100 (by decide) (o_X6 rfl) rfl ?_
          refine h_aald (pc2 := 41) hk dX6_make_40 rfl (Or.inr (Or.inr (Or.inl rfl))) rfl hoc (by omega) (by decide) (by rw [hc]) ?_
          refine aw_astore_nN (pc2 := 42) hk dX6_make_41 rfl (by decide) ?_
          show AW K Q _ _ 42 [_, _, _, _] _ _ _
          refine aw_aload_nN (pc2 := 43) hk dX6_make_42 rfl rfl ?_
          refine aw_ifnonnull_n (pc2 := 46) hk dX6_make_43 rfl ?_
          refine aw_new (pc2 := 49) hk ckX3 zfX3 dX6_make_46 rfl cl_X6_44 in_X3 ini_X3 zdX3 znX3 (Nat.le_of_ble_eq_true rfl) (Nat.le_of_ble_eq_true rfl) ?_
          refine aw_dup_r (pc2 := 50) hk dX6_make_49 rfl ?_
          refine aw_cIN (rm2 := rmX3_init) (pc2 := 53) hk ieX3_init dX6_make_50 rfl mn_X6_137 ⟨(Nat.le_of_ble_eq_true rfl), (Nat.le_of_ble_eq_true rfl)⟩ [] rfl rfl (Nat.le_of_ble_eq_true rfl) (Nat.le_of_ble_eq_true rfl) (Nat.le_of_ble_eq_true rfl) (i_X3 (Nat.lt_succ_self n) (if_pos rfl) ?_)
          rw [H5_order (t := oc) hn]
          have hkn := dX_0 (d := d) (k1 := (13, oc)) (k2 := (7, 12)) hn
          have hkn1 := dX_1 (d := d) (k1 := (13, oc)) (k2 := (7, 12)) hn
          have hoc9 : zr S n 0 0 9 = nI oc := by rw [zr_ne _ _ (by omega)]; exact hoc
          refine aw_astore_n (pc2 := 54) hk dX6_make_53 rfl (by decide) ?_
          show AW K Q _ _ 54 [_, _, _, _] _ _ _
          refine aw_aload_n (pc2 := 55) hk dX6_make_54 rfl rfl ?_
          refine aw_get (pc2 := 58) hk ckX6 8 dX6_make_55 rfl fl_X6_46 (by decide) (o_X6 rfl) rfl ?_
          refine aw_aload_n (pc2 := 59) hk dX6_make_58 rfl rfl ?_
          refine aw_get (pc2 := 62) hk ckX6 9 dX6_make_59 rfl fl_X6_100 (by decide) (o_X6 rfl) rfl ?_
          refine aw_aload_n (pc2 := 63) hk dX6_make_62 rfl rfl ?_
          refine h_aast (pc2 := 64) hk (Or.inl ⟨rfl, rfl⟩) dX6_make_63 rfl rfl hoc9 (by omega) (by decide) (o_X3 hkn) ?_
          refine aw_aload_n (pc2 := 65) hk dX6_make_64 rfl rfl ?_
          refine aw_dup_r (pc2 := 66) hk dX6_make_65 rfl ?_
          refine aw_get (pc2 := 69) hk ckX6 9 dX6_make_66 rfl fl_X6_100 (by decide) (o_X6 rfl) rfl ?_
          refine aw_iconst (v := 1) (pc2 := 70) hk dX6_make_69 rfl (by decide) ?_
          refine aw_iadd (pc2 := 71) hk dX6_make_70 rfl ?_
          refine aw_top (nI (oc + 1)) (by rw [hoc9]; exact nI_1 oc) ?_
          refine aw_put (pc2 := 74) hk ckX6 9 dX6_make_71 rfl fl_X6_100 (by decide) rfl (o_X6 rfl) (fun _ => rfl) (fun _ => rfl) (Nat.le_of_ble_eq_true rfl) ?_
          rw [p_X6_9 rfl]
          refine aw_aload_n (pc2 := 75) hk dX6_make_74 rfl rfl ?_
          refine aw_aload_n (pc2 := 76) hk dX6_make_75 rfl rfl ?_
          refine aw_get (pc2 := 79) hk ckX6 7 dX6_make_76 rfl fl_X6_121 (by decide) (o_X6 rfl) rfl ?_
          refine aw_aload_n (pc2 := 80) hk dX6_make_79 rfl rfl ?_
          refine aw_get (pc2 := 83) hk ckX6 6 dX6_make_80 rfl fl_X6_41 (by decide) (o_X6 rfl) rfl ?_
          refine aw_iconst (v := 4) (pc2 := 84) hk dX6_make_83 rfl (by decide) ?_
          refine h_iald (pc2 := 85) hk dX6_make_84 rfl rfl (show (4 : Int32) = nI 4 from rfl) (by decide) (by decide) ?_
          refine aw_cV (rm2 := rmX3_begin) (pc2 := 88) hk veX3_begin dX6_make_85 rfl ml_X6_138 ⟨(Nat.le_of_ble_eq_true rfl), (Nat.le_of_ble_eq_true rfl)⟩ [_, _] rfl rfl (Nat.le_of_ble_eq_true rfl) (Nat.le_of_ble_eq_true rfl) (Nat.le_of_ble_eq_true rfl) (o_X3 hkn) (t_ordBegin hkn ?_)
          refine aw_iconst (v := 0) (pc2 := 89) hk dX6_make_88 rfl (by decide) ?_
          refine aw_istore_n (pc2 := 90) hk dX6_make_89 rfl (by decide) ?_
          show AW K Q _ _ 90 [_, _, _, _] _ _ _
          rw [u2_j _ _ _ _ (show (7 : Nat) ≠ 9 by decide), zr_ne _ _ (show (0 : Nat) ≠ n by omega)]
          refine aw_fg 3 ?_
          exact loop n (fc + 1) 0 _ _ _ _ _ _ (by omega) (by omega) (MkC.new hn (S 0 7) (I 76 4) hLay)
        · refine aw_aload_n (pc2 := 33) hk dX6_make_32 rfl rfl ?_
          refine aw_get (pc2 := 36) hk ckX6 8 dX6_make_33 rfl fl_X6_46 (by decide) (o_X6 rfl) rfl ?_
          refine aw_aload_n (pc2 := 37) hk dX6_make_36 rfl rfl ?_
          refine aw_get (pc2 := 40) hk ckX6 9 dX6_make_37 rfl fl_X6_100 (by decide) (o_X6 rfl) rfl ?_
          refine h_aald (pc2 := 41) hk dX6_make_40 rfl (Or.inr (Or.inr (Or.inl rfl))) rfl hoc (by omega) (by decide) (by rw [ha]) ?_
          refine aw_astore_n (pc2 := 42) hk dX6_make_41 rfl (by decide) ?_
          show AW K Q _ _ 42 [_, _, _, _] _ _ _
          refine aw_aload_n (pc2 := 43) hk dX6_make_42 rfl rfl ?_
          refine aw_ifnonnull_r (tgt := 64) hk dX6_make_43 (by decide) ?_
          have hoc9 : S 0 9 = nI oc := hoc
          refine aw_aload_n (pc2 := 65) hk dX6_make_64 rfl rfl ?_
          refine aw_dup_r (pc2 := 66) hk dX6_make_65 rfl ?_
          refine aw_get (pc2 := 69) hk ckX6 9 dX6_make_66 rfl fl_X6_100 (by decide) (o_X6 rfl) rfl ?_
          refine aw_iconst (v := 1) (pc2 := 70) hk dX6_make_69 rfl (by decide) ?_
          refine aw_iadd (pc2 := 71) hk dX6_make_70 rfl ?_
          refine aw_top (nI (oc + 1)) (by rw [hoc9]; exact nI_1 oc) ?_
          refine aw_put (pc2 := 74) hk ckX6 9 dX6_make_71 rfl fl_X6_100 (by decide) rfl (o_X6 rfl) (fun _ => rfl) (fun _ => rfl) (Nat.le_of_ble_eq_true rfl) ?_
          rw [p_X6_9 rfl]
          refine aw_aload_n (pc2 := 75) hk dX6_make_74 rfl rfl ?_
          refine aw_aload_n (pc2 := 76) hk dX6_make_75 rfl rfl ?_
          refine aw_get (pc2 := 79) hk ckX6 7 dX6_make_76 rfl fl_X6_121 (by decide) (o_X6 rfl) rfl ?_
          refine aw_aload_n (pc2 := 80) hk dX6_make_79 rfl rfl ?_
          refine aw_get (pc2 := 83) hk ckX6 6 dX6_make_80 rfl fl_X6_41 (by decide) (o_X6 rfl) rfl ?_
          refine aw_iconst (v := 4) (pc2 := 84) hk dX6_make_83 rfl (by decide) ?_
          refine h_iald (pc2 := 85) hk dX6_make_84 rfl rfl (show (4 : Int32) = nI 4 from rfl) (by decide) (by decide) ?_
          refine aw_cV (rm2 := rmX3_begin) (pc2 := 88) hk veX3_begin dX6_make_85 rfl ml_X6_138 ⟨(Nat.le_of_ble_eq_true rfl), (Nat.le_of_ble_eq_true rfl)⟩ [_, _] rfl rfl (Nat.le_of_ble_eq_true rfl) (Nat.le_of_ble_eq_true rfl) (Nat.le_of_ble_eq_true rfl) (o_X3 hka) (t_ordBegin hka ?_)
          refine aw_iconst (v := 0) (pc2 := 89) hk dX6_make_88 rfl (by decide) ?_
          refine aw_istore_n (pc2 := 90) hk dX6_make_89 rfl (by decide) ?_
          show AW K Q _ _ 90 [_, _, _, _] _ _ _
          rw [u2_j _ _ _ _ (show (7 : Nat) ≠ 9 by decide)]
          refine aw_fg 3 ?_
          exact aw_widen (Nat.le_of_ble_eq_true rfl) (Nat.le_of_ble_eq_true rfl) (loop a (fc + 1) 0 _ _ _ _ _ _ (by omega) (by omega) (MkC.old hoc60 (S 0 7) (I 76 4) hLay ha))
      · refine aw_bipush (v := -104) (pc2 := 31) hk dX6_make_29 rfl (by decide) ?_
        refine aw_iret hk dX6_make_31 (Nat.le_of_ble_eq_true rfl) (Nat.le_of_ble_eq_true rfl) (hq3 h1 (bi_tt c14) (by omega))
    · refine aw_bipush (v := -102) (pc2 := 19) hk dX6_make_17 rfl (by decide) ?_
      refine aw_iret hk dX6_make_19 (Nat.le_of_ble_eq_true rfl) (Nat.le_of_ble_eq_true rfl) (hq2 h1 (bi_ff c14))
