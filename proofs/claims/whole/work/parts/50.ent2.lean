/-! entry: both runs over the cases, side by side -/
def csX (I : M2) (J : J2) (S : M2) (L K : J2) (a q fc : Nat) : Prop :=
  (I 96 q = S a 0 ∧ (∃ f, f < fc ∧ S a 0 = nI f) ∧ I 98 q = S a 1 ∧ I 97 q = S a 2 ∧ I 99 q = S a 3) ∧
  (J 101 q = L a 6 ∧ J 102 q = L a 7 ∧ J 103 q = L a 8 ∧ J 104 q = L a 9 ∧ L a 10 = duM J q ∧ J 105 q = L a 11 ∧ J 106 q = L a 13 ∧ J 107 q = L a 12 ∧
  L a 14 = duM J q - J 109 (4 * q) - J 109 (4 * q + 1) - J 109 (4 * q + 2) - J 109 (4 * q + 3) ∧ ∀ r, r < 4 → J 109 (4 * q + r) = K (a + 1) r) ∧
  (S a 2 = 4 → I 100 q = S a 4 ∧ I 108 q = S a 5) ∧
  (S a 2 ≠ 4 → L a 6 = 0 ∧ L a 7 = 0 ∧ L a 8 = 0 ∧ L a 9 = 0 ∧ L a 11 = 0 ∧ L a 12 = 0 ∧ L a 13 = 0 ∧ ∀ r, r < 4 → K (a + 1) r = 0)
theorem csE.x {I : M2} {J : J2} {S : M2} {L : J2} {a q fc : Nat} (h : csE I J S L a q fc) : csX I J S L J a q fc := h
theorem csX.e {I : M2} {J : J2} {S : M2} {L : J2} {a q fc : Nat} (h : csX I J S L J a q fc) : csE I J S L a q fc := h
theorem csX.eq {I I' : M2} {J J' : J2} {S S' : M2} {L L' K K' : J2} {a q fc : Nat} (h : csX I J S L K a q fc) (eI : ∀ b, (96 ≤ b ∧ b ≤ 100) ∨ b = 108 → I' b q = I b q) (eJ : ∀ b, 101 ≤ b ∧ b ≤ 107 → J' b q = J b q) (eJ9 : ∀ r, r < 4 → J' 109 (4 * q + r) = J 109 (4 * q + r)) (eK : ∀ r, r < 4 → K' (a + 1) r = K (a + 1) r) (eS : S' a = S a) (eL : L' a = L a) : csX I' J' S' L' K' a q fc := by
  unfold csX at *
  have e9 : (∀ r, r < 4 → J' 109 (4 * q + r) = K' (a + 1) r) ↔ (∀ r, r < 4 → J 109 (4 * q + r) = K (a + 1) r) := ⟨fun h r hr => by rw [← eJ9 r hr, ← eK r hr]; exact h r hr, fun h r hr => by rw [eJ9 r hr, eK r hr]; exact h r hr⟩
  have e8 : (∀ r, r < 4 → K' (a + 1) r = 0) ↔ (∀ r, r < 4 → K (a + 1) r = 0) := ⟨fun h r hr => by rw [← eK r hr]; exact h r hr, fun h r hr => by rw [eK r hr]; exact h r hr⟩
  rw [e9, e8, duM_eq (eJ 101 (by omega)) (eJ 102 (by omega)) (eJ 103 (by omega)) (eJ 104 (by omega)), eI 96 (by omega), eI 97 (by omega), eI 98 (by omega), eI 99 (by omega), eI 100 (by omega), eI 108 (by omega), eJ 101 (by omega), eJ 102 (by omega), eJ 103 (by omega), eJ 104 (by omega), eJ 105 (by omega), eJ 106 (by omega), eJ 107 (by omega), show J' 109 (4 * q) = J 109 (4 * q) from eJ9 0 (by omega), eJ9 1 (by omega), eJ9 2 (by omega), eJ9 3 (by omega), eS, eL]
  exact h
theorem shS_row (I : M2) (L : J2) (f b : Nat) (J : J2) {c : Nat} (c1 : c ≠ 14 + 4 * f + 3) (c2 : c ≠ b + 1) : ∀ r, (shS I L f b J r).2 c = J c := by
  intro r
  induction r with
  | zero => rfl
  | succ r ih =>
    rw [shS_2, u2_row _ _ _ c2]
    split
    · rw [u2_row _ _ _ c1]; exact ih
    · exact ih
theorem RunC.kp2 {w g oc : Nat} {nc : Nat → Nat} {ca : Nat → Nat → Nat} {I : M2} {J : J2} {S : M2} {L : J2} : ∀ (i : Nat) (I' : M2) (J' : J2) (S' : M2) (L' : J2), RunC w g oc nc ca I J S L i I' J' S' L' → (∀ b, (∀ j, j < i → b ≠ ca (oc - 1) j) → L' b = L b) ∧ (∀ b, ¬ (14 ≤ b ∧ b ≤ 61) → (∀ j, j < i → b ≠ ca (oc - 1) j + 1) → J' b = J b) := by
  intro i
  induction i with
  | zero =>
    rintro I' J' S' L' ⟨rfl, rfl, rfl, rfl⟩
    exact ⟨fun _ _ => rfl, fun _ _ _ => rfl⟩
  | succ i ih =>
    rintro I2 J2 S2 L2 ⟨I', J', S', L', hr, h | h⟩
    · obtain ⟨hrd, f, rc, vl0, vlo, vf, vb, e1, e2, e3, e4, e5, e6, e7, e8, hF, hJ, hL, hS⟩ := h
      obtain ⟨k1, k2⟩ := ih I' J' S' L' hr
      refine ⟨fun b hb => ?_, fun b h1 hb => ?_⟩
      · have hne := hb i (by omega)
        rw [hL, u2_row _ _ _ hne, u2_row _ _ _ hne, u2_row _ _ _ hne, u2_row _ _ _ hne, u2_row _ _ _ hne, u2_row _ _ _ hne]
        exact k1 b (fun j hj => hb j (by omega))
      · rw [hJ, shS_row _ _ _ _ _ (by omega) (hb i (by omega))]
        exact k2 b h1 (fun j hj => hb j (by omega))
    · obtain ⟨hrd, rfl, rfl, rfl, rfl⟩ := h
      obtain ⟨k1, k2⟩ := ih _ _ _ _ hr
      exact ⟨fun b hb => k1 b (fun j hj => hb j (by omega)), fun b h1 hb => k2 b h1 (fun j hj => hb j (by omega))⟩
theorem db_step {I I' : M2} {J J' : J2} {oc : Nat} {nc : Nat → Nat} {f r i : Nat} (h0 : 0 < oc) (hi : i < nc (oc - 1)) (hnc : ∀ o, o < oc → nc o ≤ 12) (e87 : I' 87 (4 * f + r) = I 87 (4 * f + r)) (eT : ∀ q, q ≠ 12 * (oc - 1) + i → I' 96 q = I 96 q ∧ J' 109 (4 * q + r) = J 109 (4 * q + r)) (hz : J 109 (4 * (12 * (oc - 1) + i) + r) = 0) : dbM I' J' oc nc f r = dbM I J oc nc f r - (if I' 96 (12 * (oc - 1) + i) = nI f then J' 109 (4 * (12 * (oc - 1) + i) + r) else 0) := by
  obtain ⟨m, rfl⟩ : ∃ m, oc = m + 1 := ⟨oc - 1, by omega⟩
  rw [show m + 1 - 1 = m by omega] at *
  unfold dbM
  rw [e87]
  have hi12 := hnc m (by omega)
  have e1 : sL (fun j => if I' 96 (12 * m + j) = nI f then J' 109 (4 * (12 * m + j) + r) else 0) (nc m) = sL (fun j => if I 96 (12 * m + j) = nI f then J 109 (4 * (12 * m + j) + r) else 0) (nc m) + (if I' 96 (12 * m + i) = nI f then J' 109 (4 * (12 * m + i) + r) else 0) := by
    have h9 := sL_one (F := fun j => if I 96 (12 * m + j) = nI f then J 109 (4 * (12 * m + j) + r) else 0) (F' := fun j => if I' 96 (12 * m + j) = nI f then J' 109 (4 * (12 * m + j) + r) else 0) (i := i) (nc m) (fun j hj hji => by
      obtain ⟨a1, a2⟩ := eT (12 * m + j) (by omega)
      show (if _ then _ else _) = (if _ then _ else _)
      rw [a1, a2]) (by
      show (if _ then _ else _) = _
      rw [hz]
      split <;> rfl)
    rw [if_pos hi] at h9
    exact h9
  have e2 : sL (fun o => sL (fun j => if I' 96 (12 * o + j) = nI f then J' 109 (4 * (12 * o + j) + r) else 0) (nc o)) m = sL (fun o => sL (fun j => if I 96 (12 * o + j) = nI f then J 109 (4 * (12 * o + j) + r) else 0) (nc o)) m := sL_eq m (fun o ho => sL_eq _ (fun j hj => by
    have := hnc o (by omega)
    obtain ⟨a1, a2⟩ := eT (12 * o + j) (by omega)
    rw [a1, a2]))
  show _ - (sL _ m + sL _ (nc m)) = _ - (sL _ m + sL _ (nc m)) - _
  rw [e1, e2, j_sub1]
theorem smR_4 {I : M2} {J : J2} {oc : Nat} {nc : Nat → Nat} {due : Int64} {f rc : Nat} (h : rc ≤ 4) {g : Nat → Int64} (h1 : ∀ r, r < rc → g r = smG I J oc nc due f r) (h2 : ∀ r, r < 4 → rc ≤ r → g r = 0) : smR I J oc nc due f rc = due - g 0 - g 1 - g 2 - g 3 := by
  have hs : ∀ r, smR I J oc nc due f (r + 1) = smR I J oc nc due f r - smG I J oc nc due f r := fun r => rfl
  have h5 : rc = 0 ∨ rc = 1 ∨ rc = 2 ∨ rc = 3 ∨ rc = 4 := by omega
  rcases h5 with rfl | rfl | rfl | rfl | rfl
  · rw [h2 0 (by omega) (by omega), h2 1 (by omega) (by omega), h2 2 (by omega) (by omega), h2 3 (by omega) (by omega), Int64.sub_zero, Int64.sub_zero, Int64.sub_zero, Int64.sub_zero]; rfl
  · rw [h1 0 (by omega), h2 1 (by omega) (by omega), h2 2 (by omega) (by omega), h2 3 (by omega) (by omega), Int64.sub_zero, Int64.sub_zero, Int64.sub_zero]; rfl
  · rw [h1 0 (by omega), h1 1 (by omega), h2 2 (by omega) (by omega), h2 3 (by omega) (by omega), Int64.sub_zero, Int64.sub_zero]; rfl
  · rw [h1 0 (by omega), h1 1 (by omega), h1 2 (by omega), h2 3 (by omega) (by omega), Int64.sub_zero]; rfl
  · rw [h1 0 (by omega), h1 1 (by omega), h1 2 (by omega), h1 3 (by omega)]; rfl
def JR (oc fc i : Nat) (nc : Nat → Nat) (cb : Nat → Nat) (I S : M2) (J1 : J2) (Im0 : M2) (Jc : J2) (Sc : M2) (Lc : J2) (Im : M2) (Jm : J2) : Prop :=
  ((∀ b, ¬ (101 ≤ b ∧ b ≤ 104) → b ≠ 109 → Jm b = J1 b) ∧ (∀ b q, b = 99 ∨ b = 100 ∨ b = 108 → (q < 12 * (oc - 1) ∨ 12 * (oc - 1) + i ≤ q) → Im b q = Im0 b q) ∧ (∀ b q, 101 ≤ b ∧ b ≤ 104 → (q < 12 * (oc - 1) ∨ 12 * (oc - 1) + i ≤ q) → Jm b q = J1 b q) ∧ (∀ q r, r < 4 → (q < 12 * (oc - 1) ∨ 12 * (oc - 1) + i ≤ q) → Jm 109 (4 * q + r) = J1 109 (4 * q + r))) ∧
  (∀ k, k < nc (oc - 1) → csX Im Jm Sc Lc Jc (cb k) (12 * (oc - 1) + k) fc) ∧
  (∀ f rc r, f < fc → rc ≤ 4 → I 85 f = nI rc → r < rc → I 86 (4 * f + r) = 1 → Jc (14 + 4 * f + 3) r = dbM Im Jm oc nc f r) ∧
  (∀ k, k < nc (oc - 1) → Sc (cb k) 2 = if k < i ∧ rdy (S (cb k) 2) = true then 4 else S (cb k) 2)
def Ic0 (I S : M2) (oc : Nat) (nc : Nat → Nat) (ca : Nat → Nat → Nat) : M2 := tcI (rowU I 75 4 (prD I S)) S (ca (oc - 1)) (nI (oc - 1)) (nc (oc - 1))
theorem Ic0_at {I S : M2} {oc : Nat} {nc : Nat → Nat} {ca : Nat → Nat → Nat} {b : Nat} (h6 : b ≠ 6) (h75 : b ≠ 75) : Ic0 I S oc nc ca b = I b := by unfold Ic0; rw [tcI_row _ _ _ _ _ h6, rowU_ne _ _ _ h75]
theorem Ic0_6 {I S : M2} {oc : Nat} {nc : Nat → Nat} {ca : Nat → Nat → Nat} {c : Nat} (hc : c < 256) : Ic0 I S oc nc ca 6 c = if tcB I S (ca (oc - 1)) (nc (oc - 1)) c = true then nI (oc - 1) else I 6 c := by
  unfold Ic0 tcI
  rw [rowU_in _ _ _ hc]
  have e : tcB (rowU I 75 4 (prD I S)) S (ca (oc - 1)) (nc (oc - 1)) c = tcB I S (ca (oc - 1)) (nc (oc - 1)) c := by
    unfold tcB
    rw [rowU_ne _ _ _ (by decide), rowU_ne _ _ _ (by decide)]
  rw [e, rowU_ne _ _ _ (by decide)]
theorem Ic0_75 {I S : M2} {oc : Nat} {nc : Nat → Nat} {ca : Nat → Nat → Nat} {s : Nat} (hs : s < 4) : Ic0 I S oc nc ca 75 s = prD I S s := by
  unfold Ic0
  rw [tcI_row _ _ _ _ _ (by decide), rowU_in _ _ _ hs]
theorem enI_at {I : M2} {o m b : Nat} (h1 : b ≠ 114) (h2 : b ≠ 83) (h3 : b ≠ 95) : enI I o m b = I b := by unfold enI; rw [u2_row _ _ _ h3, rowU_ne _ _ _ h2, rowU_ne _ _ _ h1]
theorem enI_83 {I : M2} {o m c : Nat} (hc : c < 256) : enI I o m 83 c = if tkB I o m c = true then nI (o + 1) else I 83 c := by unfold enI; rw [u2_a _ _ _ _ (by decide), rowU_in _ _ _ hc]
theorem enI_114 {I : M2} {o m c : Nat} (hc : c < 256) : enI I o m 114 c = bi (tkB I o m c) := by unfold enI; rw [u2_a _ _ _ _ (by decide), rowU_ne _ _ _ (by decide), rowU_in _ _ _ hc]
