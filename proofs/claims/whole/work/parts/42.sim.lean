/-! the class's state and the reference's, side by side -/
def SmA (I : M2) : Prop := ∀ c, c < 256 → I 79 c = I 2 c ∧ I 80 c = I 3 c ∧ I 81 c = I 4 c ∧ I 82 c = I 5 c
def SmT (I : M2) (oc : Nat) : Prop := ∀ c, c < 256 → (I 6 c = -1 ∧ I 83 c = 0) ∨ ∃ o, o < oc ∧ I 6 c = nI o ∧ I 83 c = nI (o + 1)
def SmV (I : M2) (w g fc : Nat) : Prop := ∀ c, c < 256 → (I 2 c = -1 ∨ ∃ f, f < fc ∧ I 2 c = nI f) ∧ (∃ k, k < 4 ∧ I 3 c = nI k) ∧ (I 4 c ≠ 0 → I 2 c = -1) ∧ ((w ≤ c % 16 ∨ g ≤ c / 16) → I 2 c = -1)
def SmF (I : M2) (J : J2) (S : M2) (fc oc : Nat) (nc : Nat → Nat) : Prop := ∀ f, f < fc → I 84 f = S (14 + 4 * f) 0 ∧ lt256 (I 84 f) ∧ ∃ rc, rc ≤ 4 ∧ S (14 + 4 * f) 1 = nI rc ∧ I 85 f = nI rc ∧ ∀ r, r < rc → I 86 (4 * f + r) = I (14 + 4 * f + 1) r ∧ I 87 (4 * f + r) = I (14 + 4 * f + 2) r ∧ (I 86 (4 * f + r) = 1 ∨ I 86 (4 * f + r) = 2) ∧ (I 86 (4 * f + r) = 1 → J (14 + 4 * f + 3) r = dbM I J oc nc f r)
def SmP (I S : M2) : Prop := ∀ s, s < 4 → ∃ c, c ≤ 20 ∧ S (63 + 3 * s) 0 = nI c ∧ I 88 s = nI c ∧ ∀ i, i < c → I 89 (20 * s + i) = I (63 + 3 * s + 1) i ∧ I 90 (20 * s + i) = I (63 + 3 * s + 2) i ∧ 0 ≤ (I 89 (20 * s + i)).toInt
def SmR (I : M2) : Prop := ∀ k, k < 5 → I 91 k = I 76 k
def csE (I : M2) (J : J2) (S : M2) (L : J2) (a q fc : Nat) : Prop :=
  (I 96 q = S a 0 ∧ (∃ f, f < fc ∧ S a 0 = nI f) ∧ I 98 q = S a 1 ∧ I 97 q = S a 2 ∧ I 99 q = S a 3) ∧
  (J 101 q = L a 6 ∧ J 102 q = L a 7 ∧ J 103 q = L a 8 ∧ J 104 q = L a 9 ∧ L a 10 = duM J q ∧ J 105 q = L a 11 ∧ J 106 q = L a 13 ∧ J 107 q = L a 12 ∧
  L a 14 = duM J q - J 109 (4 * q) - J 109 (4 * q + 1) - J 109 (4 * q + 2) - J 109 (4 * q + 3) ∧ ∀ r, r < 4 → J 109 (4 * q + r) = J (a + 1) r) ∧
  (S a 2 = 4 → I 100 q = S a 4 ∧ I 108 q = S a 5) ∧
  (S a 2 ≠ 4 → L a 6 = 0 ∧ L a 7 = 0 ∧ L a 8 = 0 ∧ L a 9 = 0 ∧ L a 11 = 0 ∧ L a 12 = 0 ∧ L a 13 = 0 ∧ ∀ r, r < 4 → J (a + 1) r = 0)
def SmO (I : M2) (J : J2) (S : M2) (L : J2) (fc oc : Nat) (oa nc : Nat → Nat) (ca : Nat → Nat → Nat) : Prop := ∀ o, o < oc → I 92 o = S (oa o) 0 ∧ I 93 o = S (oa o) 1 ∧ ∀ k, k < nc o → csE I J S L (ca o k) (12 * o + k) fc
def lnO (I S : M2) (o m : Nat) (cb : Nat → Nat) (c : Nat) : Prop := (I 2 c = -1 ∧ ((I 95 o = 0 ∧ I 6 c = -1) ∨ (I 95 o ≠ 0 ∧ I 6 c = nI o))) ∨ ∃ k, k < m ∧ I 2 c = S (cb k) 0 ∧ (S (cb k) 2 = 4 → I 6 c = nI o) ∧ (S (cb k) 2 ≠ 4 → I 6 c = -1)
def SmL (I S : M2) (oc : Nat) (nc : Nat → Nat) (ca : Nat → Nat → Nat) (op : Bool) : Prop :=
  (op = false → ∀ c, c < 256 → I 5 c ≠ 0 → I 6 c = -1) ∧
  (op = true → (∀ k k', k < nc (oc - 1) → k' < nc (oc - 1) → S (ca (oc - 1) k) 0 = S (ca (oc - 1) k') 0 → k = k') ∧ ∀ c, c < 256 → I 5 c ≠ 0 → lnO I S (oc - 1) (nc (oc - 1)) (ca (oc - 1)) c)
def SmN (S : M2) (oc uc t n : Nat) (nc : Nat → Nat) (ca : Nat → Nat → Nat) (d : D2) (R : R2) (md op : Bool) : Prop := uc ≤ t ∧ md = decide (0 < oc ∨ 0 < uc) ∧ (op = true ↔ opn S oc nc ca) ∧ (∀ o, o + 1 < oc → dn S nc ca o = true) ∧ 115 ≤ n ∧ Lay n d R
def SM (w g fc oc uc td t : Nat) (md op : Bool) (oa nc : Nat → Nat) (ca : Nat → Nat → Nat) (n : Nat) (d : D2) (I : M2) (J : J2) (S : M2) (L : J2) (R : R2) : Prop :=
  CB S R w g fc oc uc td ∧ MB S w g fc oc uc td md op ∧ OrdB d S R oc oa nc ca ∧ OM I oc nc ∧ SmN S oc uc t n nc ca d R md op ∧ (SmA I ∧ SmT I oc ∧ SmV I w g fc) ∧ SmF I J S fc oc nc ∧ SmP I S ∧ SmR I ∧ SmO I J S L fc oc oa nc ca ∧ SmL I S oc nc ca op
def Sim (t n : Nat) (d : D2) (I : M2) (J : J2) (S : M2) (L : J2) (R : R2) : Prop := ∃ w g fc oc uc td md op oa nc ca, SM w g fc oc uc td t md op oa nc ca n d I J S L R
def SIM (t n : Nat) (h : HP) : Prop := ∃ d I J S L R, h = H5 d I J S L R ∧ Sim t n d I J S L R
/-- both answer alike: behind the class's answer v the reference's is v too, and they stand side by side again -/
def P2 (t : Nat) (C2 : Nat → HP → QT → Prop) : QT := fun r n1 h1 => ∃ x : Int32, r = some (.int x) ∧ (∃ fs, h1 78 = some (.inr (7, fs))) ∧ C2 n1 h1 (fun r2 n2 h2 => r2 = some (.int x) ∧ SIM (t + 1) n2 h2)
def P2L (t : Nat) (C2 : Nat → HP → QT → Prop) : QT := fun r n1 h1 => ∃ x : Int64, r = some (.long x) ∧ (∃ fs, h1 78 = some (.inr (7, fs))) ∧ C2 n1 h1 (fun r2 n2 h2 => r2 = some (.long x) ∧ SIM (t + 1) n2 h2)
/-! what each piece rests on -/
theorem MB.eq {S S' : M2} {w g fc oc uc td : Nat} {md op : Bool} (h : MB S w g fc oc uc td md op) (e : ∀ j, j ≠ 41 → S' 78 j = S 78 j) : MB S' w g fc oc uc td md op := by
  unfold MB at *
  rw [e 0 (by decide), e 1 (by decide), e 7 (by decide), e 19 (by decide), e 18 (by decide), e 16 (by decide), e 17 (by decide), e 20 (by decide)]
  exact h
theorem OM.eq {I I' : M2} {oc : Nat} {nc : Nat → Nat} (h : OM I oc nc) (e : I' 94 = I 94) : OM I' oc nc := by unfold OM at *; rw [e]; exact h
theorem SmA.eq {I I' : M2} (h : SmA I) (e : ∀ b, (2 ≤ b ∧ b ≤ 6) ∨ (79 ≤ b ∧ b ≤ 83) → I' b = I b) : SmA I' := by
  unfold SmA at *
  rw [e 2 (by decide), e 3 (by decide), e 4 (by decide), e 5 (by decide), e 79 (by decide), e 80 (by decide), e 81 (by decide), e 82 (by decide)]
  exact h
theorem SmT.eq {I I' : M2} {oc : Nat} (h : SmT I oc) (e6 : I' 6 = I 6) (e83 : I' 83 = I 83) : SmT I' oc := by unfold SmT at *; rw [e6, e83]; exact h
theorem SmV.eq {I I' : M2} {w g fc : Nat} (h : SmV I w g fc) (e2 : I' 2 = I 2) (e3 : I' 3 = I 3) (e4 : I' 4 = I 4) : SmV I' w g fc := by unfold SmV at *; rw [e2, e3, e4]; exact h
theorem dbM_eq {I I' : M2} {J J' : J2} {oc : Nat} {nc : Nat → Nat} (e1 : I' 87 = I 87) (e2 : I' 96 = I 96) (e3 : J' 109 = J 109) (f r : Nat) : dbM I' J' oc nc f r = dbM I J oc nc f r := by unfold dbM; rw [e1, e2, e3]
theorem SmF.eq {I I' : M2} {J J' : J2} {S S' : M2} {fc oc : Nat} {nc : Nat → Nat} (h : SmF I J S fc oc nc) (hf : fc ≤ 12) (eI : ∀ b, (14 ≤ b ∧ b ≤ 61) ∨ (84 ≤ b ∧ b ≤ 87) ∨ b = 96 → I' b = I b) (eS : ∀ b, 14 ≤ b ∧ b ≤ 61 → S' b = S b) (eJ : ∀ b, (14 ≤ b ∧ b ≤ 61) ∨ b = 109 → J' b = J b) : SmF I' J' S' fc oc nc := by
  intro f hfc
  rw [eI 84 (by omega), eI 85 (by omega), eI 86 (by omega), eI 87 (by omega), eI (14 + 4 * f + 1) (by omega), eI (14 + 4 * f + 2) (by omega), eS (14 + 4 * f) (by omega), eJ (14 + 4 * f + 3) (by omega)]
  obtain ⟨h1, h2, rc, h3, h4, h5, h6⟩ := h f hfc
  refine ⟨h1, h2, rc, h3, h4, h5, fun r hr => ?_⟩
  rw [dbM_eq (eI 87 (by omega)) (eI 96 (by omega)) (eJ 109 (by omega))]
  exact h6 r hr
theorem SmP.eq {I I' S S' : M2} (h : SmP I S) (eI : ∀ b, (63 ≤ b ∧ b ≤ 74) ∨ (88 ≤ b ∧ b ≤ 90) → I' b = I b) (eS : ∀ b, 63 ≤ b ∧ b ≤ 74 → S' b = S b) : SmP I' S' := by
  intro s hs
  rw [eI 88 (by omega), eI 89 (by omega), eI 90 (by omega), eI (63 + 3 * s + 1) (by omega), eI (63 + 3 * s + 2) (by omega), eS (63 + 3 * s) (by omega)]
  exact h s hs
theorem SmR.eq {I I' : M2} (h : SmR I) (e1 : I' 91 = I 91) (e2 : I' 76 = I 76) : SmR I' := by unfold SmR at *; rw [e1, e2]; exact h
theorem duM_eq {J J' : J2} {q : Nat} (e1 : J' 101 q = J 101 q) (e2 : J' 102 q = J 102 q) (e3 : J' 103 q = J 103 q) (e4 : J' 104 q = J 104 q) : duM J' q = duM J q := by unfold duM; rw [e1, e2, e3, e4]
theorem csE.eq {I I' : M2} {J J' : J2} {S S' : M2} {L L' : J2} {a q fc : Nat} (h : csE I J S L a q fc) (eI : ∀ b, (96 ≤ b ∧ b ≤ 100) ∨ b = 108 → I' b q = I b q) (eJ : ∀ b, 101 ≤ b ∧ b ≤ 107 → J' b q = J b q) (eJ9 : ∀ r, r < 4 → J' 109 (4 * q + r) = J 109 (4 * q + r)) (eJa : ∀ r, r < 4 → J' (a + 1) r = J (a + 1) r) (eS : S' a = S a) (eL : L' a = L a) : csE I' J' S' L' a q fc := by
  unfold csE at *
  have e9 : (∀ r, r < 4 → J' 109 (4 * q + r) = J' (a + 1) r) ↔ (∀ r, r < 4 → J 109 (4 * q + r) = J (a + 1) r) := ⟨fun h r hr => by rw [← eJ9 r hr, ← eJa r hr]; exact h r hr, fun h r hr => by rw [eJ9 r hr, eJa r hr]; exact h r hr⟩
  have e8 : (∀ r, r < 4 → J' (a + 1) r = 0) ↔ (∀ r, r < 4 → J (a + 1) r = 0) := ⟨fun h r hr => by rw [← eJa r hr]; exact h r hr, fun h r hr => by rw [eJa r hr]; exact h r hr⟩
  rw [e9, e8, duM_eq (eJ 101 (by omega)) (eJ 102 (by omega)) (eJ 103 (by omega)) (eJ 104 (by omega)), eI 96 (by omega), eI 97 (by omega), eI 98 (by omega), eI 99 (by omega), eI 100 (by omega), eI 108 (by omega), eJ 101 (by omega), eJ 102 (by omega), eJ 103 (by omega), eJ 104 (by omega), eJ 105 (by omega), eJ 106 (by omega), eJ 107 (by omega), show J' 109 (4 * q) = J 109 (4 * q) from eJ9 0 (by omega), eJ9 1 (by omega), eJ9 2 (by omega), eJ9 3 (by omega), eS, eL]
  exact h
theorem SmO.eq {I I' : M2} {J J' : J2} {S S' : M2} {L L' : J2} {fc oc : Nat} {oa nc : Nat → Nat} {ca : Nat → Nat → Nat} {d : D2} {R : R2} (h : SmO I J S L fc oc oa nc ca) (hO : OrdB d S R oc oa nc ca) (eI : ∀ b, b = 92 ∨ b = 93 ∨ (96 ≤ b ∧ b ≤ 100) ∨ b = 108 → I' b = I b) (eJ : ∀ b, (101 ≤ b ∧ b ≤ 107) ∨ b = 109 ∨ 115 ≤ b → J' b = J b) (eS : ∀ b, 115 ≤ b → S' b = S b) (eL : ∀ b, 115 ≤ b → L' b = L b) : SmO I' J' S' L' fc oc oa nc ca := by
  intro o ho
  have hl := (hO o ho).2
  have h1 := kd_ge hl.1 (Or.inr (Or.inl rfl))
  rw [eI 92 (by omega), eI 93 (by omega), eS (oa o) h1]
  obtain ⟨g1, g2, g3⟩ := h o ho
  refine ⟨g1, g2, fun k hk => ?_⟩
  have h2 := kd_ge (hl.2.2.2.2 k hk).2.1 (Or.inl rfl)
  exact (g3 k hk).eq (fun b hb => by rw [eI b (by omega)]) (fun b hb => by rw [eJ b (by omega)]) (fun r _ => by rw [eJ 109 (by omega)]) (fun r _ => by rw [eJ _ (by omega)]) (eS _ h2) (eL _ h2)
theorem lnO.eq {I I' S S' : M2} {o m : Nat} {cb : Nat → Nat} {c : Nat} (h : lnO I S o m cb c) (e2 : I' 2 c = I 2 c) (e6 : I' 6 c = I 6 c) (e95 : I' 95 o = I 95 o) (eS : ∀ k, k < m → S' (cb k) 0 = S (cb k) 0 ∧ (S' (cb k) 2 = 4 ↔ S (cb k) 2 = 4)) : lnO I' S' o m cb c := by
  unfold lnO at *
  rw [e2, e6, e95]
  rcases h with h | ⟨k, h1, h2, h3, h4⟩
  · exact Or.inl h
  · exact Or.inr ⟨k, h1, h2.trans (eS k h1).1.symm, fun h => h3 ((eS k h1).2.mp h), fun h => h4 (fun h9 => h ((eS k h1).2.mpr h9))⟩
theorem SmL.eq {I I' S S' : M2} {oc : Nat} {oa nc : Nat → Nat} {ca : Nat → Nat → Nat} {op : Bool} {d : D2} {R : R2} (h : SmL I S oc nc ca op) (ho : op = true → 0 < oc) (hO : OrdB d S R oc oa nc ca) (eI : ∀ b, b = 2 ∨ b = 5 ∨ b = 6 ∨ b = 95 → I' b = I b) (eS : ∀ b, 115 ≤ b → S' b = S b) : SmL I' S' oc nc ca op := by
  unfold SmL at *
  rw [eI 5 (by omega)]
  refine ⟨fun h9 c hc h5 => by rw [eI 6 (by omega)]; exact h.1 h9 c hc h5, fun h9 => ?_⟩
  have hge : ∀ k, k < nc (oc - 1) → S' (ca (oc - 1) k) = S (ca (oc - 1) k) := fun k hk => eS _ (kd_ge ((hO (oc - 1) (by have := ho h9; omega)).2.2.2.2.2 k hk).2.1 (Or.inl rfl))
  refine ⟨fun k k' hk hk' e => (h.2 h9).1 k k' hk hk' (by rw [← hge k hk, ← hge k' hk']; exact e), fun c hc h5 => ((h.2 h9).2 c hc h5).eq (by rw [eI 2 (by omega)]) (by rw [eI 6 (by omega)]) (by rw [eI 95 (by omega)]) (fun k hk => ?_)⟩
  rw [hge k hk]
  exact ⟨rfl, Iff.rfl⟩
theorem dn_eq {S S' : M2} {nc : Nat → Nat} {ca : Nat → Nat → Nat} {o : Nat} (e : ∀ k, k < nc o → S' (ca o k) 2 = S (ca o k) 2) : dn S' nc ca o = dn S nc ca o := allB_eq _ (fun k hk => by rw [e k hk])
theorem opn_eq {S S' : M2} {oc : Nat} {nc : Nat → Nat} {ca : Nat → Nat → Nat} (e : 0 < oc → ∀ k, k < nc (oc - 1) → S' (ca (oc - 1) k) 2 = S (ca (oc - 1) k) 2) : opn S' oc nc ca ↔ opn S oc nc ca := by
  unfold opn
  constructor
  · rintro ⟨h1, h2⟩
    exact ⟨h1, by rw [← h2]; exact (dn_eq (e h1)).symm⟩
  · rintro ⟨h1, h2⟩
    exact ⟨h1, by rw [← h2]; exact dn_eq (e h1)⟩
theorem SmN.eq {S S' : M2} {oc uc t n : Nat} {nc oa : Nat → Nat} {ca : Nat → Nat → Nat} {d : D2} {R : R2} {md op : Bool} (h : SmN S oc uc t n nc ca d R md op) (hO : OrdB d S R oc oa nc ca) (eS : ∀ b, 115 ≤ b → S' b 2 = S b 2) : SmN S' oc uc (t + 1) n nc ca d R md op := by
  obtain ⟨h1, h2, h3, h4, h5, h6⟩ := h
  have hge : ∀ o, o < oc → ∀ k, k < nc o → S' (ca o k) 2 = S (ca o k) 2 := fun o ho k hk => eS _ (kd_ge ((hO o ho).2.2.2.2.2 k hk).2.1 (Or.inl rfl))
  exact ⟨by omega, h2, h3.trans (opn_eq (fun h => hge (oc - 1) (by omega))).symm, fun o ho => (dn_eq (hge o (by omega))).trans (h4 o ho), h5, h6⟩
theorem OrdB.eq2 {d : D2} {S S' : M2} {R : R2} {oc : Nat} {oa nc : Nat → Nat} {ca : Nat → Nat → Nat} (hO : OrdB d S R oc oa nc ca) (eS : ∀ b, 115 ≤ b → S' b 2 = S b 2) : OrdB d S' R oc oa nc ca := hO.eq (fun o ho => eS _ (kd_ge (hO o ho).2.1 (Or.inr (Or.inl rfl))))
/-- numbers that no answer rests on may change -/
theorem SM.scr {w g fc oc uc td t : Nat} {md op : Bool} {oa nc : Nat → Nat} {ca : Nat → Nat → Nat} {n : Nat} {d : D2} {I I' : M2} {J : J2} {S S' : M2} {L L' : J2} {R : R2} (h : SM w g fc oc uc td t md op oa nc ca n d I J S L R) (eI : ∀ b, ¬ (7 ≤ b ∧ b ≤ 13) → b ≠ 75 → ¬ (110 ≤ b ∧ b ≤ 114) → I' b = I b) (eS : ∀ b, b ≠ 7 → b ≠ 78 → S' b = S b) (e78 : ∀ j, j ≠ 41 → S' 78 j = S 78 j) (eL : ∀ b, b ≠ 78 → L' b = L b) : SM w g fc oc uc td (t + 1) md op oa nc ca n d I' J S' L' R := by
  obtain ⟨hB, hM, hO, hN, hX, ⟨hA, hT, hV⟩, hF, hP, hR, hOr, hL⟩ := h
  have eS5 : ∀ b, 115 ≤ b → S' b = S b := fun b hb => eS b (by omega) (by omega)
  have eS2 : ∀ b, 115 ≤ b → S' b 2 = S b 2 := fun b hb => by rw [eS5 b hb]
  exact ⟨hB.eq (eS 0 (by decide) (by decide)) (eS 1 (by decide) (by decide)), hM.eq e78, hO.eq2 eS2, hN.eq (eI 94 (by decide) (by decide) (by decide)), hX.eq hO eS2, ⟨hA.eq (fun b hb => eI b (by omega) (by omega) (by omega)), hT.eq (eI 6 (by decide) (by decide) (by decide)) (eI 83 (by decide) (by decide) (by decide)), hV.eq (eI 2 (by decide) (by decide) (by decide)) (eI 3 (by decide) (by decide) (by decide)) (eI 4 (by decide) (by decide) (by decide))⟩,
    hF.eq hB.2.2.2.2.2.2.2.1 (fun b hb => eI b (by omega) (by omega) (by omega)) (fun b hb => eS b (by omega) (by omega)) (fun _ _ => rfl), hP.eq (fun b hb => eI b (by omega) (by omega) (by omega)) (fun b hb => eS b (by omega) (by omega)), hR.eq (eI 91 (by decide) (by decide) (by decide)) (eI 76 (by decide) (by decide) (by decide)), hOr.eq hO (fun b hb => eI b (by omega) (by omega) (by omega)) (fun _ _ => rfl) eS5 (fun b hb => eL b (by omega)), hL.eq (fun h9 => (hX.2.2.1.mp h9).1) hO (fun b hb => eI b (by omega) (by omega) (by omega)) eS5⟩
theorem SM.same {w g fc oc uc td t : Nat} {md op : Bool} {oa nc : Nat → Nat} {ca : Nat → Nat → Nat} {n : Nat} {d : D2} {I : M2} {J : J2} {S : M2} {L : J2} {R : R2} (h : SM w g fc oc uc td t md op oa nc ca n d I J S L R) : SIM (t + 1) n (H5 d I J S L R) := ⟨d, I, J, S, L, R, rfl, w, g, fc, oc, uc, td, md, op, oa, nc, ca, h.scr (fun _ _ _ _ => rfl) (fun _ _ _ => rfl) (fun _ _ => rfl) (fun _ _ => rfl)⟩
theorem SM.sim {w g fc oc uc td t : Nat} {md op : Bool} {oa nc : Nat → Nat} {ca : Nat → Nat → Nat} {n : Nat} {d : D2} {I : M2} {J : J2} {S : M2} {L : J2} {R : R2} (h : SM w g fc oc uc td t md op oa nc ca n d I J S L R) : SIM t n (H5 d I J S L R) := ⟨d, I, J, S, L, R, rfl, w, g, fc, oc, uc, td, md, op, oa, nc, ca, h⟩
