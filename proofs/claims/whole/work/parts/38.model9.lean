/-- what work does of a case -/
def WkM (w g oc : Nat) (nc : Nat → Nat) (k : Nat) (I : M2) (J : J2) (S : M2) (I' : M2) (J' : J2) (S' : M2) : Prop := ∃ f rc vl0 vlo vf vb, I 96 k = nI f ∧ f < 12 ∧ I 85 f = nI rc ∧ rc ≤ 4 ∧ vl0 = sL (fun c => if I 114 c ≠ 0 ∧ I 79 c = nI f then (prM I S c).toInt64 else 0) 256 ∧ vf = sL (fun c => if I 114 c ≠ 0 ∧ I 79 c = nI f then sL (fun s => if kxM I w g c f s = true then (I 91 1).toInt64 else 0) 4 else 0) 256 ∧ vlo = mxL 0 (sL (lD (dvS (vl I (nI f)) (adM w g) (opM I) 256) (fun c => (prM I S c).toInt64) (I 84 f) (I 91 0)) (dvS (vl I (nI f)) (adM w g) (opM I) 256).1 - sL (fun o => sL (fun j => if I 96 (12 * o + j) = nI f then J 102 (12 * o + j) else 0) (nc o)) (oc - 1)) ∧ vb = mnL (vl0 + vlo + vf) (wM (dvS (vl I (nI f)) (adM w g) (opM I) 256) (fun c => (prM I S c).toInt64) (I 84 f) * (I 91 2).toInt64 / 1000) ∧ MR (u2 (u2 (u2 I 99 k (S 78 16)) 108 k (S 78 16)) 100 k (I 91 3)) I' (dvS (vl I (nI f)) (adM w g) (opM I) 256) ∧ J' = gt4 (u2 (u2 (u2 (u2 J 101 k vl0) 103 k vf) 102 k vlo) 104 k vb) k rc (smG I' (u2 (u2 (u2 (u2 J 101 k vl0) 103 k vf) 102 k vlo) 104 k vb) oc nc (duM (u2 (u2 (u2 (u2 J 101 k vl0) 103 k vf) 102 k vlo) 104 k vb) k) f) ∧ S' = u2 S 78 41 (nI (dvS (vl I (nI f)) (adM w g) (opM I) 256).1)
/-- the first i cases of the open order: the ready ones worked -/
def RunM (w g oc : Nat) (nc : Nat → Nat) (I : M2) (J : J2) (S : M2) : Nat → M2 → J2 → M2 → Prop
  | 0, I', J', S' => I' = I ∧ J' = J ∧ S' = S
  | i + 1, I2, J2, S2 => ∃ I' J' S', RunM w g oc nc I J S i I' J' S' ∧ ((rdy (I' 97 (12 * (oc - 1) + i)) = true ∧ WkM w g oc nc (12 * (oc - 1) + i) (u2 I' 97 (12 * (oc - 1) + i) 4) J' S' I2 J2 S2) ∨ (rdy (I' 97 (12 * (oc - 1) + i)) = false ∧ I2 = I' ∧ J2 = J' ∧ S2 = S'))
def KpM (o i : Nat) (I : M2) (J : J2) (S : M2) (I' : M2) (J' : J2) (S' : M2) : Prop := (∀ b, b ≠ 97 → b ≠ 99 → b ≠ 100 → b ≠ 108 → b ≠ 110 → b ≠ 111 → b ≠ 112 → b ≠ 113 → I' b = I b) ∧ (∀ c, (c < 12 * o ∨ 12 * o + i ≤ c) → I' 97 c = I 97 c ∧ J' 101 c = J 101 c ∧ J' 103 c = J 103 c) ∧ (∃ v, S' = u2 S 78 41 v)
theorem RunM.kp {w g oc : Nat} {nc : Nat → Nat} {I : M2} {J : J2} {S : M2} : ∀ (i : Nat) (I' : M2) (J' : J2) (S' : M2), RunM w g oc nc I J S i I' J' S' → KpM (oc - 1) i I J S I' J' S' := by
  intro i
  induction i with
  | zero =>
    rintro I' J' S' ⟨rfl, rfl, rfl⟩
    exact ⟨fun b _ _ _ _ _ _ _ _ => rfl, fun c _ => ⟨rfl, rfl, rfl⟩, ⟨S' 78 41, (u2_id S' 78 41 rfl).symm⟩⟩
  | succ i ih =>
    rintro I2 J2 S2 ⟨I', J', S', hr, h | h⟩
    · obtain ⟨hrd, f, rc, vl0, vlo, vf, vb, e1, e2, e3, e4, e5, e6, e7, e8, hM, hJ, hS⟩ := h
      obtain ⟨k1, k2, v, k3⟩ := ih I' J' S' hr
      refine ⟨fun b h1 h2 h3 h4 h5 h6 h7 h8 => ?_, fun c hc => ⟨?_, ?_, ?_⟩, ?_⟩
      · rw [hM.1 b h5 h6 h7 h8, u2_row _ _ _ h3, u2_row _ _ _ h4, u2_row _ _ _ h2, u2_row _ _ _ h1]
        exact k1 b h1 h2 h3 h4 h5 h6 h7 h8
      · rw [hM.1 97 (by decide) (by decide) (by decide) (by decide), u2_row _ _ _ (by decide), u2_row _ _ _ (by decide), u2_row _ _ _ (by decide), u2_j _ _ _ _ (by omega)]
        exact (k2 c (by omega)).1
      · rw [hJ, gt4_ne _ _ _ _ (by decide), u2_a _ _ _ _ (by decide), u2_a _ _ _ _ (by decide), u2_a _ _ _ _ (by decide), u2_j _ _ _ _ (by omega)]
        exact (k2 c (by omega)).2.1
      · rw [hJ, gt4_ne _ _ _ _ (by decide), u2_a _ _ _ _ (by decide), u2_a _ _ _ _ (by decide), u2_j _ _ _ _ (by omega), u2_a _ _ _ _ (by decide)]
        exact (k2 c (by omega)).2.2
      · exact ⟨_, by rw [hS, k3, u2_u2]⟩
    · obtain ⟨hrd, rfl, rfl, rfl⟩ := h
      obtain ⟨k1, k2, k3⟩ := ih _ _ _ hr
      exact ⟨k1, fun c hc => k2 c (by omega), k3⟩
/-- is the cell taken now -/
def tkB (I : M2) (o m c : Nat) : Bool := (I 82 c != 0 && I 83 c == 0) && ((I 79 c == -1 && I 95 o == 0) || anyB (fun k => rdy (I 97 (12 * o + k)) && I 79 c == I 96 (12 * o + k)) m)
def enI (I : M2) (o m : Nat) : M2 := u2 (rowU (rowU I 114 256 (fun c => bi (tkB I o m c))) 83 256 (fun c => if tkB I o m c then nI (o + 1) else I 83 c)) 95 o 1
def rdN (I : M2) (o m : Nat) : Int32 := sI (fun k => bi (rdy (I 97 (12 * o + k)))) m
theorem aw_IJS {K : CX} {Q : QT} {cs sl pc n : Nat} {lv : List (Option Value)} {st : List Value} {d : D2} {I : M2} {J : J2} {S : M2} {L : J2} {R : R2} (I' : M2) (e : I = I') (kk : AW K Q cs sl pc lv st n (H5 d I' J S L R)) : AW K Q cs sl pc lv st n (H5 d I J S L R) := e ▸ kk
set_option maxHeartbeats 800000 in
set_option maxRecDepth 100000 in
theorem m_enter {n : Nat} {d : D2} {I : M2} {J : J2} {S : M2} {L : J2} {R : R2} {Q : QT} {w g fc oc uc td : Nat} {md op : Bool} (hB : MB S w g fc oc uc td md op) {nc : Nat → Nat} (hN : OM I oc nc) (ho0 : op = true → 0 < oc) (hcf : ∀ o k, o < oc → k < nc o → ∃ f, f < fc ∧ I 96 (12 * o + k) = nI f) (hrc : ∀ j, j < fc → ∃ rc, rc ≤ 4 ∧ I 85 j = nI rc) (hho : ∀ j, j < fc → lt256 (I 84 j)) (hpc : ∀ j, j < 4 → ∃ c, c ≤ 20 ∧ I 88 j = nI c ∧ ∀ i, i < c → 0 ≤ (I 89 (20 * j + i)).toInt) (hso : ∀ p, p < 256 → ∃ k, k < 4 ∧ I 80 p = nI k) (hout : ∀ c, c < 256 → (w ≤ c % 16 ∨ g ≤ c / 16) → I 79 c = -1) (hz : ∀ i, i < (nc (oc - 1)) → rdy (I 97 (12 * (oc - 1) + i)) = true → J 101 (12 * (oc - 1) + i) = 0 ∧ J 103 (12 * (oc - 1) + i) = 0) (hq1 : ¬ op = true → Q (some (.int (-103))) n (H5 d I J S L R)) (hq2 : op = true → ¬ (¬ rdN I (oc - 1) (nc (oc - 1)) = 0 ∧ I 92 (oc - 1) + I 93 (oc - 1) ≤ S 78 16) → Q (some (.int (-103))) n (H5 d I J S L R)) (hq3 : op = true → (¬ rdN I (oc - 1) (nc (oc - 1)) = 0 ∧ I 92 (oc - 1) + I 93 (oc - 1) ≤ S 78 16) → ∀ I' J' S', RunM w g oc nc (enI I (oc - 1) (nc (oc - 1))) J S (nc (oc - 1)) I' J' S' → allB (fun k => dnS (I' 97 (12 * (oc - 1) + k))) (nc (oc - 1)) = true → Q (some (.int (rdN I (oc - 1) (nc (oc - 1))))) n (H5 d (rowU I' 82 256 (fun _ => 0)) J' (u2 S' 78 20 0) L R)) (hq4 : op = true → (¬ rdN I (oc - 1) (nc (oc - 1)) = 0 ∧ I 92 (oc - 1) + I 93 (oc - 1) ≤ S 78 16) → ∀ I' J' S', RunM w g oc nc (enI I (oc - 1) (nc (oc - 1))) J S (nc (oc - 1)) I' J' S' → allB (fun k => dnS (I' 97 (12 * (oc - 1) + k))) (nc (oc - 1)) = false → Q (some (.int (rdN I (oc - 1) (nc (oc - 1))))) n (H5 d I' J' S' L R)) : Calls yX7_enter cX7_enter 6 (some .int) rmX7_enter [.ref 78] n (H5 d I J S L R) Q := by
  refine Calls.of (by decide) (Nat.le_of_ble_eq_true rfl) ?_
  intro K hk
  show AW K Q 0 0 0 [some (.ref 78), none, none, none, none, none] [] n (H5 d I J S L R)
  obtain ⟨hw, hg, hw1, hw6, hg1, hg6, hfc, hfc2, hoc, hoc6, huc, huc5, htd, htd4, hmd, hop⟩ := id hB
  refine aw_aload_n (pc2 := 1) hk dX7_enter_0 rfl rfl ?_
  refine aw_get (pc2 := 4) hk ckX7 20 dX7_enter_1 rfl fl_X7_200 (by decide) (o_X7 rfl) rfl ?_
  rw [hop]
  refine aw_if_ne (tgt := 10) (pc2 := 7) hk dX7_enter_4 (by decide) rfl (fun c4 => ?_) (fun c4 => ?_)
  · refine aw_aload_n (pc2 := 11) hk dX7_enter_10 rfl rfl ?_
    refine aw_get (pc2 := 14) hk ckX7 19 dX7_enter_11 rfl fl_X7_197 (by decide) (o_X7 rfl) rfl ?_
    refine aw_iconst (v := 1) (pc2 := 15) hk dX7_enter_14 rfl (by decide) ?_
    refine aw_isub (pc2 := 16) hk dX7_enter_15 rfl ?_
    have hop1 := bi_tt c4
    have hoc1 := ho0 hop1
    refine aw_top (nI (oc - 1)) (by rw [hoc]; exact pk_sub (a := oc) (b := 1) (by omega)) ?_
    obtain ⟨hn1, hn2⟩ := hN (oc - 1) (by omega)
    have loopA : ∀ (k i : Nat), i ≤ (nc (oc - 1)) → (nc (oc - 1)) + 1 ≤ i + k → AW K Q 0 0 21 [some (.ref 78), some (.int (nI (oc - 1))), some (.int (rdN I (oc - 1) i)), some (.int (nI i)), none, none] [] n (H5 d I J S L R) := by
      intro k
      induction k with
      | zero => intro i h1 h2; omega
      | succ k ih =>
        intro i hi hn
        refine aw_iload_n (pc2 := 22) hk dX7_enter_21 rfl rfl ?_
        refine aw_aload_n (pc2 := 23) hk dX7_enter_22 rfl rfl ?_
        refine aw_get (pc2 := 26) hk ckX7 23 dX7_enter_23 rfl fl_X7_63 (by decide) (o_X7 rfl) rfl ?_
        refine aw_iload_n (pc2 := 27) hk dX7_enter_26 rfl rfl ?_
        refine h_iald (pc2 := 28) hk dX7_enter_27 rfl rfl rfl (by omega) (by decide) ?_
        refine aw_icN_ge (x := i) (y := (nc (oc - 1))) (tgt := 54) (pc2 := 31) hk dX7_enter_28 (by decide) rfl rfl hn1 (by omega) (by omega) (fun c28 => ?_) (fun c28 => ?_)
        · have ei : i = (nc (oc - 1)) := by omega
          rw [ei]
          refine aw_iload_n (pc2 := 55) hk dX7_enter_54 rfl rfl ?_
          refine aw_if_eq (tgt := 78) (pc2 := 58) hk dX7_enter_55 (by decide) rfl (fun c55 => ?_) (fun c55 => ?_)
          · refine aw_bipush (v := -103) (pc2 := 80) hk dX7_enter_78 rfl (by decide) ?_
            refine aw_iret hk dX7_enter_80 (Nat.le_of_ble_eq_true rfl) (Nat.le_of_ble_eq_true rfl) (by first | exact hq2 hop1 (fun h9 => c75 h9.2) | exact hq2 hop1 (fun h9 => h9.1 c55))
          · refine aw_aload_n (pc2 := 59) hk dX7_enter_58 rfl rfl ?_
            refine aw_get (pc2 := 62) hk ckX7 16 dX7_enter_59 rfl fl_X7_174 (by decide) (o_X7 rfl) rfl ?_
            refine aw_aload_n (pc2 := 63) hk dX7_enter_62 rfl rfl ?_
            refine aw_get (pc2 := 66) hk ckX7 21 dX7_enter_63 rfl fl_X7_57 (by decide) (o_X7 rfl) rfl ?_
            refine aw_iload_n (pc2 := 67) hk dX7_enter_66 rfl rfl ?_
            refine h_iald (pc2 := 68) hk dX7_enter_67 rfl rfl rfl (by omega) (by decide) ?_
            refine aw_aload_n (pc2 := 69) hk dX7_enter_68 rfl rfl ?_
            refine aw_get (pc2 := 72) hk ckX7 22 dX7_enter_69 rfl fl_X7_60 (by decide) (o_X7 rfl) rfl ?_
            refine aw_iload_n (pc2 := 73) hk dX7_enter_72 rfl rfl ?_
            refine h_iald (pc2 := 74) hk dX7_enter_73 rfl rfl rfl (by omega) (by decide) ?_
            refine aw_iadd (pc2 := 75) hk dX7_enter_74 rfl ?_
            refine aw_icmp_ge (tgt := 81) (pc2 := 78) hk dX7_enter_75 (by decide) rfl (fun c75 => ?_) (fun c75 => ?_)
            · have hcnd : (¬ rdN I (oc - 1) (nc (oc - 1)) = 0 ∧ I 92 (oc - 1) + I 93 (oc - 1) ≤ S 78 16) := ⟨c55, c75⟩
              have PD : AW K Q 0 0 260 [some (.ref 78), some (.int (nI (oc - 1))), some (.int (rdN I (oc - 1) (nc (oc - 1)))), some (.int (nI 256)), none, none] [] n (H5 d (rowU (rowU I 114 256 (fun c => bi (tkB I (oc - 1) (nc (oc - 1)) c))) 83 256 (fun c => if tkB I (oc - 1) (nc (oc - 1)) c then nI (oc - 1 + 1) else I 83 c)) J S L R) := by
                have eE : ∀ b, b ≠ 83 → b ≠ 114 → b ≠ 95 → (enI I (oc - 1) (nc (oc - 1))) b = I b := fun b h1 h2 h3 => by unfold enI; rw [u2_row _ _ _ h3, rowU_ne _ _ _ h1, rowU_ne _ _ _ h2]
                have loopD : ∀ (k i : Nat) (I' : M2) (J' : J2) (S' : M2), i ≤ (nc (oc - 1)) → (nc (oc - 1)) + 1 ≤ i + k → RunM w g oc nc (enI I (oc - 1) (nc (oc - 1))) J S i I' J' S' → AW K Q 0 0 269 [some (.ref 78), some (.int (nI (oc - 1))), some (.int (rdN I (oc - 1) (nc (oc - 1)))), some (.int (nI i)), none, none] [] n (H5 d I' J' S' L R) := by
                  intro k
                  induction k with
                  | zero => intro i I' J' S' h1 h2; omega
                  | succ k ih =>
                    intro i I' J' S' hi hn hr
                    obtain ⟨kA, kB, v, kS⟩ := RunM.kp i I' J' S' hr
                    have hB1 : MB S' w g fc oc uc td md op := by rw [kS]; exact hB.u2S (b := 78) (j := 41) v (Or.inr (by decide))
                    refine aw_iload_n (pc2 := 270) hk dX7_enter_269 rfl rfl ?_
                    refine aw_aload_n (pc2 := 271) hk dX7_enter_270 rfl rfl ?_
                    refine aw_get (pc2 := 274) hk ckX7 23 dX7_enter_271 rfl fl_X7_63 (by decide) (o_X7 rfl) rfl ?_
                    refine aw_iload_n (pc2 := 275) hk dX7_enter_274 rfl rfl ?_
                    refine h_iald (pc2 := 276) hk dX7_enter_275 rfl rfl rfl (by omega) (by decide) ?_
                    refine aw_icN_ge (x := i) (y := (nc (oc - 1))) (tgt := 316) (pc2 := 279) hk dX7_enter_276 (by decide) rfl rfl (by rw [kA 94 (by decide) (by decide) (by decide) (by decide) (by decide) (by decide) (by decide) (by decide), eE 94 (by decide) (by decide) (by decide)]; exact hn1) (by omega) (by omega) (fun c276 => ?_) (fun c276 => ?_)
                    · have ei : i = (nc (oc - 1)) := by omega
                      rw [ei] at hr
                      have hN3 : OM I' oc nc := fun o ho => by rw [((kA 94 (by decide) (by decide) (by decide) (by decide) (by decide) (by decide) (by decide) (by decide)).trans (eE 94 (by decide) (by decide) (by decide)))]; exact hN o ho
                      refine aw_aload_n (pc2 := 317) hk dX7_enter_316 rfl rfl ?_
                      refine aw_cV (rm2 := rmX7_close) (pc2 := 320) hk veX7_close dX7_enter_317 rfl ml_X7_206 ⟨(Nat.le_of_ble_eq_true rfl), (Nat.le_of_ble_eq_true rfl)⟩ [] rfl rfl (Nat.le_of_ble_eq_true rfl) (Nat.le_of_ble_eq_true rfl) (Nat.le_of_ble_eq_true rfl) (o_X7 rfl) (m_close hB1 hN3 hoc1 (fun h9 => ?_) (fun h9 => ?_))
                      · refine aw_iload_n (pc2 := 321) hk dX7_enter_320 rfl rfl ?_
                        exact aw_iret hk dX7_enter_321 (Nat.le_of_ble_eq_true rfl) (Nat.le_of_ble_eq_true rfl) (hq3 hop1 hcnd I' J' S' hr h9)
                      · refine aw_iload_n (pc2 := 321) hk dX7_enter_320 rfl rfl ?_
                        exact aw_iret hk dX7_enter_321 (Nat.le_of_ble_eq_true rfl) (Nat.le_of_ble_eq_true rfl) (hq4 hop1 hcnd I' J' S' hr h9)
                    · refine aw_aload_n (pc2 := 280) hk dX7_enter_279 rfl rfl ?_
                      refine aw_iload_n (pc2 := 281) hk dX7_enter_280 rfl rfl ?_
                      refine aw_iload_n (pc2 := 282) hk dX7_enter_281 rfl rfl ?_
                      refine aw_cV (rm2 := rmX7_mayEnter) (pc2 := 285) hk veX7_mayEnter dX7_enter_282 rfl ml_X7_209 ⟨(Nat.le_of_ble_eq_true rfl), (Nat.le_of_ble_eq_true rfl)⟩ [_, _] rfl rfl (Nat.le_of_ble_eq_true rfl) (Nat.le_of_ble_eq_true rfl) (Nat.le_of_ble_eq_true rfl) (o_X7 rfl) (m_mayEnter (by omega) ?_)
                      refine aw_if_eq (tgt := 310) (pc2 := 288) hk dX7_enter_285 (by decide) rfl (fun c285 => ?_) (fun c285 => ?_)
                      · refine aw_iinc1 (pc2 := 313) hk dX7_enter_310 rfl rfl (by decide) ?_
                        show AW K Q _ _ 313 [_, _, _, _, _, _] _ _ _
                        refine aw_goto (tgt := 269) hk dX7_enter_313 (by decide) ?_
                        first
                          | exact ih (i + 1) _ _ _ (by omega) (by omega) hr2
                          | exact ih (i + 1) I' J' S' (by omega) (by omega) ⟨I', J', S', hr, Or.inr ⟨bi_ff c285, rfl, rfl, rfl⟩⟩
                      · refine aw_aload_n (pc2 := 289) hk dX7_enter_288 rfl rfl ?_
                        refine aw_get (pc2 := 292) hk ckX7 26 dX7_enter_289 rfl fl_X7_72 (by decide) (o_X7 rfl) rfl ?_
                        refine aw_bipush (v := nI 12) (pc2 := 294) hk dX7_enter_292 rfl (by decide) ?_
                        refine aw_iload_n (pc2 := 295) hk dX7_enter_294 rfl rfl ?_
                        refine aw_imul (pc2 := 296) hk dX7_enter_295 rfl ?_
                        refine aw_iload_n (pc2 := 297) hk dX7_enter_296 rfl rfl ?_
                        refine aw_iadd (pc2 := 298) hk dX7_enter_297 rfl ?_
                        rw [mulN]
                        refine aw_iconst (v := 4) (pc2 := 299) hk dX7_enter_298 rfl (by decide) ?_
                        refine h_iast (pc2 := 300) hk dX7_enter_299 rfl rfl rfl (by omega) (by decide) ?_
                        obtain ⟨f, hf2, hf⟩ := hcf (oc - 1) i (by omega) c276
                        obtain ⟨rc, hrc4, hrc⟩ := hrc f hf2
                        have g79 : u2 I' 97 (12 * (oc - 1) + i) 4 79 = I 79 := ((u2_row _ _ _ (show (79 : Nat) ≠ 97 by decide)).trans ((kA 79 (by decide) (by decide) (by decide) (by decide) (by decide) (by decide) (by decide) (by decide)).trans (eE 79 (by decide) (by decide) (by decide))))
                        have g80 : u2 I' 97 (12 * (oc - 1) + i) 4 80 = I 80 := ((u2_row _ _ _ (show (80 : Nat) ≠ 97 by decide)).trans ((kA 80 (by decide) (by decide) (by decide) (by decide) (by decide) (by decide) (by decide) (by decide)).trans (eE 80 (by decide) (by decide) (by decide))))
                        have g84 : u2 I' 97 (12 * (oc - 1) + i) 4 84 = I 84 := ((u2_row _ _ _ (show (84 : Nat) ≠ 97 by decide)).trans ((kA 84 (by decide) (by decide) (by decide) (by decide) (by decide) (by decide) (by decide) (by decide)).trans (eE 84 (by decide) (by decide) (by decide))))
                        have g85 : u2 I' 97 (12 * (oc - 1) + i) 4 85 = I 85 := ((u2_row _ _ _ (show (85 : Nat) ≠ 97 by decide)).trans ((kA 85 (by decide) (by decide) (by decide) (by decide) (by decide) (by decide) (by decide) (by decide)).trans (eE 85 (by decide) (by decide) (by decide))))
                        have g88 : u2 I' 97 (12 * (oc - 1) + i) 4 88 = I 88 := ((u2_row _ _ _ (show (88 : Nat) ≠ 97 by decide)).trans ((kA 88 (by decide) (by decide) (by decide) (by decide) (by decide) (by decide) (by decide) (by decide)).trans (eE 88 (by decide) (by decide) (by decide))))
                        have g89 : u2 I' 97 (12 * (oc - 1) + i) 4 89 = I 89 := ((u2_row _ _ _ (show (89 : Nat) ≠ 97 by decide)).trans ((kA 89 (by decide) (by decide) (by decide) (by decide) (by decide) (by decide) (by decide) (by decide)).trans (eE 89 (by decide) (by decide) (by decide))))
                        have g94 : u2 I' 97 (12 * (oc - 1) + i) 4 94 = I 94 := ((u2_row _ _ _ (show (94 : Nat) ≠ 97 by decide)).trans ((kA 94 (by decide) (by decide) (by decide) (by decide) (by decide) (by decide) (by decide) (by decide)).trans (eE 94 (by decide) (by decide) (by decide))))
                        have g96 : u2 I' 97 (12 * (oc - 1) + i) 4 96 = I 96 := ((u2_row _ _ _ (show (96 : Nat) ≠ 97 by decide)).trans ((kA 96 (by decide) (by decide) (by decide) (by decide) (by decide) (by decide) (by decide) (by decide)).trans (eE 96 (by decide) (by decide) (by decide))))
                        have hrd : rdy (I' 97 (12 * (oc - 1) + i)) = true := bi_tt c285
                        have hrd2 : rdy (I 97 (12 * (oc - 1) + i)) = true := by rw [(kB (12 * (oc - 1) + i) (by omega)).1, eE 97 (by decide) (by decide) (by decide)] at hrd; exact hrd
                        have hz := hz i c276 hrd2
                        refine aw_aload_n (pc2 := 301) hk dX7_enter_300 rfl rfl ?_
                        refine aw_bipush (v := nI 12) (pc2 := 303) hk dX7_enter_301 rfl (by decide) ?_
                        refine aw_iload_n (pc2 := 304) hk dX7_enter_303 rfl rfl ?_
                        refine aw_imul (pc2 := 305) hk dX7_enter_304 rfl ?_
                        refine aw_iload_n (pc2 := 306) hk dX7_enter_305 rfl rfl ?_
                        refine aw_iadd (pc2 := 307) hk dX7_enter_306 rfl ?_
                        rw [mulN]
                        refine aw_cV (rm2 := rmX7_work) (pc2 := 310) hk veX7_work dX7_enter_307 rfl ml_X7_212 ⟨(Nat.le_of_ble_eq_true rfl), (Nat.le_of_ble_eq_true rfl)⟩ [_] rfl rfl (Nat.le_of_ble_eq_true rfl) (Nat.le_of_ble_eq_true rfl) (Nat.le_of_ble_eq_true rfl) (o_X7 rfl) (m_work hB1 (fun o ho => by rw [g94]; exact hN o ho) (by omega) hoc1 (by rw [g96]; exact hf) (by omega) (by rw [g85]; exact hrc) hrc4 (by rw [g84]; exact hho f hf2) (by rw [g88, g89]; exact hpc) (by rw [g80]; exact hso) (by rw [g79]; exact hout) ((kB (12 * (oc - 1) + i) (by omega)).2.1.trans hz.1) ((kB (12 * (oc - 1) + i) (by omega)).2.2.trans hz.2) rfl rfl rfl rfl (fun I2 hM => ?_))
                        have hr2 : RunM w g oc nc (enI I (oc - 1) (nc (oc - 1))) J S (i + 1) I2 _ _ := ⟨I', J', S', hr, Or.inl ⟨hrd, f, rc, _, _, _, _, g96 ▸ hf, by omega, g85 ▸ hrc, hrc4, rfl, rfl, rfl, rfl, hM, rfl, rfl⟩⟩
                        refine aw_iinc1 (pc2 := 313) hk dX7_enter_310 rfl rfl (by decide) ?_
                        show AW K Q _ _ 313 [_, _, _, _, _, _] _ _ _
                        refine aw_goto (tgt := 269) hk dX7_enter_313 (by decide) ?_
                        first
                          | exact ih (i + 1) _ _ _ (by omega) (by omega) hr2
                          | exact ih (i + 1) I' J' S' (by omega) (by omega) ⟨I', J', S', hr, Or.inr ⟨bi_ff c285, rfl, rfl, rfl⟩⟩
                refine aw_aload_n (pc2 := 261) hk dX7_enter_260 rfl rfl ?_
                refine aw_get (pc2 := 264) hk ckX7 24 dX7_enter_261 rfl fl_X7_66 (by decide) (o_X7 rfl) rfl ?_
                refine aw_iload_n (pc2 := 265) hk dX7_enter_264 rfl rfl ?_
                refine aw_iconst (v := 1) (pc2 := 266) hk dX7_enter_265 rfl (by decide) ?_
                refine h_zast (pc2 := 267) hk dX7_enter_266 rfl rfl rfl (by omega) (by decide) (by first | exact Or.inl rfl | exact Or.inr rfl) ?_
                show AW K Q _ _ _ _ _ _ (H5 d (enI I (oc - 1) (nc (oc - 1))) J S L R)
                refine aw_iconst (v := 0) (pc2 := 268) hk dX7_enter_267 rfl (by decide) ?_
                refine aw_istore_n (pc2 := 269) hk dX7_enter_268 rfl (by decide) ?_
                show AW K Q _ _ 269 [_, _, _, _, _, _] _ _ _
                exact loopD ((nc (oc - 1)) + 1) 0 (enI I (oc - 1) (nc (oc - 1))) J S (by omega) (by omega) ⟨rfl, rfl, rfl⟩
              have PC : AW K Q 0 0 218 [some (.ref 78), some (.int (nI (oc - 1))), some (.int (rdN I (oc - 1) (nc (oc - 1)))), some (.int (nI 256)), none, none] [] n (H5 d (rowU I 114 256 (fun c => bi (tkB I (oc - 1) (nc (oc - 1)) c))) J S L R) := by
                have loopC : ∀ (k c : Nat), c ≤ 256 → 257 ≤ c + k → AW K Q 0 0 220 [some (.ref 78), some (.int (nI (oc - 1))), some (.int (rdN I (oc - 1) (nc (oc - 1)))), some (.int (nI c)), none, none] [] n (H5 d (rowU (rowU I 114 256 (fun c => bi (tkB I (oc - 1) (nc (oc - 1)) c))) 83 c (fun c => if tkB I (oc - 1) (nc (oc - 1)) c then nI (oc - 1 + 1) else I 83 c)) J S L R) := by
                  intro k
                  induction k with
                  | zero => intro c h1 h2; omega
                  | succ k ih =>
                    intro c hc hn
                    refine aw_iload_n (pc2 := 221) hk dX7_enter_220 rfl rfl ?_
                    refine aw_sipush (v := 256) (pc2 := 224) hk dX7_enter_221 rfl (by decide) ?_
                    refine aw_icN_ge (x := c) (y := 256) (tgt := 260) (pc2 := 227) hk dX7_enter_224 (by decide) rfl rfl rfl (by omega) (by omega) (fun c224 => ?_) (fun c224 => ?_)
                    · obtain rfl : c = 256 := by omega
                      exact PD
                    · refine aw_aload_n (pc2 := 228) hk dX7_enter_227 rfl rfl ?_
                      refine aw_get (pc2 := 231) hk ckX7 6 dX7_enter_228 rfl fl_X7_30 (by decide) (o_X7 rfl) rfl ?_
                      refine aw_iload_n (pc2 := 232) hk dX7_enter_231 rfl rfl ?_
                      refine aw_aload_n (pc2 := 233) hk dX7_enter_232 rfl rfl ?_
                      refine aw_get (pc2 := 236) hk ckX7 44 dX7_enter_233 rfl fl_X7_124 (by decide) (o_X7 rfl) rfl ?_
                      refine aw_iload_n (pc2 := 237) hk dX7_enter_236 rfl rfl ?_
                      refine h_zald (pc2 := 238) hk dX7_enter_237 rfl rfl rfl (by omega) (by decide) ?_
                      rw [rowU_ne _ _ _ (show (114 : Nat) ≠ 83 by decide), rowU_in _ _ _ (show c < 256 by omega)]
                      refine aw_if_eq (tgt := 247) (pc2 := 241) hk dX7_enter_238 (by decide) rfl (fun c238 => ?_) (fun c238 => ?_)
                      · refine aw_aload_n (pc2 := 248) hk dX7_enter_247 rfl rfl ?_
                        refine aw_get (pc2 := 251) hk ckX7 6 dX7_enter_248 rfl fl_X7_30 (by decide) (o_X7 rfl) rfl ?_
                        refine aw_iload_n (pc2 := 252) hk dX7_enter_251 rfl rfl ?_
                        refine h_iald (pc2 := 253) hk dX7_enter_252 rfl rfl rfl (by omega) (by decide) ?_
                        refine h_iast (pc2 := 254) hk dX7_enter_253 rfl rfl rfl (by omega) (by decide) ?_
                        refine aw_I (rowU (rowU I 114 256 (fun c => bi (tkB I (oc - 1) (nc (oc - 1)) c))) 83 (c + 1) (fun c => if tkB I (oc - 1) (nc (oc - 1)) c then nI (oc - 1 + 1) else I 83 c)) (rowU_st (rowU I 114 256 (fun c => bi (tkB I (oc - 1) (nc (oc - 1)) c))) 83 c _ (by
                          first
                            | (rw [bi_tt c238, if_pos rfl]; exact nI_1 _)
                            | (rw [bi_ff c238, rowU_out _ _ _ (Nat.lt_irrefl c), rowU_ne _ _ _ (show (83 : Nat) ≠ 114 by decide)]; rfl))) ?_
                        refine aw_iinc1 (pc2 := 257) hk dX7_enter_254 rfl rfl (by decide) ?_
                        show AW K Q _ _ 257 [_, _, _, _, _, _] _ _ _
                        refine aw_goto (tgt := 220) hk dX7_enter_257 (by decide) ?_
                        exact ih (c + 1) (by omega) (by omega)
                      · refine aw_iload_n (pc2 := 242) hk dX7_enter_241 rfl rfl ?_
                        refine aw_iconst (v := 1) (pc2 := 243) hk dX7_enter_242 rfl (by decide) ?_
                        refine aw_iadd (pc2 := 244) hk dX7_enter_243 rfl ?_
                        refine aw_goto (tgt := 253) hk dX7_enter_244 (by decide) ?_
                        refine h_iast (pc2 := 254) hk dX7_enter_253 rfl rfl rfl (by omega) (by decide) ?_
                        refine aw_I (rowU (rowU I 114 256 (fun c => bi (tkB I (oc - 1) (nc (oc - 1)) c))) 83 (c + 1) (fun c => if tkB I (oc - 1) (nc (oc - 1)) c then nI (oc - 1 + 1) else I 83 c)) (rowU_st (rowU I 114 256 (fun c => bi (tkB I (oc - 1) (nc (oc - 1)) c))) 83 c _ (by
                          first
                            | (rw [bi_tt c238, if_pos rfl]; exact nI_1 _)
                            | (rw [bi_ff c238, rowU_out _ _ _ (Nat.lt_irrefl c), rowU_ne _ _ _ (show (83 : Nat) ≠ 114 by decide)]; rfl))) ?_
                        refine aw_iinc1 (pc2 := 257) hk dX7_enter_254 rfl rfl (by decide) ?_
                        show AW K Q _ _ 257 [_, _, _, _, _, _] _ _ _
                        refine aw_goto (tgt := 220) hk dX7_enter_257 (by decide) ?_
                        exact ih (c + 1) (by omega) (by omega)
                refine aw_iconst (v := 0) (pc2 := 219) hk dX7_enter_218 rfl (by decide) ?_
                refine aw_istore_n (pc2 := 220) hk dX7_enter_219 rfl (by decide) ?_
                show AW K Q _ _ 220 [_, _, _, _, _, _] _ _ _
                refine aw_I (rowU (rowU I 114 256 (fun c => bi (tkB I (oc - 1) (nc (oc - 1)) c))) 83 0 (fun c => if tkB I (oc - 1) (nc (oc - 1)) c then nI (oc - 1 + 1) else I 83 c)) (rowU_0 _ _ _).symm ?_
                exact loopC 257 0 (by omega) (by omega)
              have loopB : ∀ (k c : Nat), c ≤ 256 → 257 ≤ c + k → AW K Q 0 0 83 [some (.ref 78), some (.int (nI (oc - 1))), some (.int (rdN I (oc - 1) (nc (oc - 1)))), some (.int (nI c)), none, none] [] n (H5 d (rowU I 114 c (fun c => bi (tkB I (oc - 1) (nc (oc - 1)) c))) J S L R) := by
                intro k
                induction k with
                | zero => intro c h1 h2; omega
                | succ k ih =>
                  intro c hc hn
                  refine aw_iload_n (pc2 := 84) hk dX7_enter_83 rfl rfl ?_
                  refine aw_sipush (v := 256) (pc2 := 87) hk dX7_enter_84 rfl (by decide) ?_
                  refine aw_icN_ge (x := c) (y := 256) (tgt := 218) (pc2 := 90) hk dX7_enter_87 (by decide) rfl rfl rfl (by omega) (by omega) (fun c87 => ?_) (fun c87 => ?_)
                  · obtain rfl : c = 256 := by omega
                    exact PC
                  · refine aw_aload_n (pc2 := 91) hk dX7_enter_90 rfl rfl ?_
                    refine aw_get (pc2 := 94) hk ckX7 44 dX7_enter_91 rfl fl_X7_124 (by decide) (o_X7 rfl) rfl ?_
                    refine aw_iload_n (pc2 := 95) hk dX7_enter_94 rfl rfl ?_
                    refine aw_iconst (v := 0) (pc2 := 96) hk dX7_enter_95 rfl (by decide) ?_
                    refine h_zast (pc2 := 97) hk dX7_enter_96 rfl rfl rfl (by omega) (by decide) (by first | exact Or.inl rfl | exact Or.inr rfl) ?_
                    have r1 : ∀ b, b ≠ 114 → (u2 (rowU I 114 c (fun c => bi (tkB I (oc - 1) (nc (oc - 1)) c))) 114 c 0) b = I b := fun b h => by rw [u2_row _ _ _ h, rowU_ne _ _ _ h]
                    have hN1 : OM (u2 (rowU I 114 c (fun c => bi (tkB I (oc - 1) (nc (oc - 1)) c))) 114 c 0) oc nc := fun o ho => by rw [r1 94 (by decide)]; exact hN o ho
                    have e79 := r1 79 (by decide)
                    have e82 := r1 82 (by decide)
                    have e83 := r1 83 (by decide)
                    have e94 := r1 94 (by decide)
                    have e95 := r1 95 (by decide)
                    have e96 := r1 96 (by decide)
                    have e97 := r1 97 (by decide)
                    have hst : ∀ x, x = bi (tkB I (oc - 1) (nc (oc - 1)) c) → u2 (u2 (rowU I 114 c (fun c => bi (tkB I (oc - 1) (nc (oc - 1)) c))) 114 c 0) 114 c x = (rowU I 114 (c + 1) (fun c => bi (tkB I (oc - 1) (nc (oc - 1)) c))) := fun x hx => by rw [u2_u2]; exact rowU_st I 114 c _ hx
                    have hst0 : tkB I (oc - 1) (nc (oc - 1)) c = false → (u2 (rowU I 114 c (fun c => bi (tkB I (oc - 1) (nc (oc - 1)) c))) 114 c 0) = (rowU I 114 (c + 1) (fun c => bi (tkB I (oc - 1) (nc (oc - 1)) c))) := fun hx => rowU_st I 114 c _ (by rw [hx]; rfl)
                    generalize (u2 (rowU I 114 c (fun c => bi (tkB I (oc - 1) (nc (oc - 1)) c))) 114 c 0) = IX at *
                    refine aw_aload_n (pc2 := 98) hk dX7_enter_97 rfl rfl ?_
                    refine aw_get (pc2 := 101) hk ckX7 5 dX7_enter_98 rfl fl_X7_27 (by decide) (o_X7 rfl) rfl ?_
                    refine aw_iload_n (pc2 := 102) hk dX7_enter_101 rfl rfl ?_
                    refine h_zald (pc2 := 103) hk dX7_enter_102 rfl rfl rfl (by omega) (by decide) ?_
                    rw [e82]
                    refine aw_if_eq (tgt := 212) (pc2 := 106) hk dX7_enter_103 (by decide) rfl (fun c103 => ?_) (fun c103 => ?_)
                    · first
                        | rw [hst _ (by unfold tkB; rw [show (I 82 c != 0 && I 83 c == 0) = true by simp [hin]]; rfl)]
                        | (have h9 : ¬ I 83 c = 0 := c112
                           rw [hst0 (by unfold tkB; rw [show (I 82 c != 0 && I 83 c == 0) = false by simp [h9]]; rfl)])
                        | (have h9 : I 82 c = 0 := c103
                           rw [hst0 (by unfold tkB; rw [show (I 82 c != 0 && I 83 c == 0) = false by simp [h9]]; rfl)])
                      refine aw_iinc1 (pc2 := 215) hk dX7_enter_212 rfl rfl (by decide) ?_
                      show AW K Q _ _ 215 [_, _, _, _, _, _] _ _ _
                      refine aw_goto (tgt := 83) hk dX7_enter_215 (by decide) ?_
                      refine aw_fg 4 ?_
                      refine aw_fg 5 ?_
                      exact ih (c + 1) (by omega) (by omega)
                    · refine aw_aload_n (pc2 := 107) hk dX7_enter_106 rfl rfl ?_
                      refine aw_get (pc2 := 110) hk ckX7 6 dX7_enter_107 rfl fl_X7_30 (by decide) (o_X7 rfl) rfl ?_
                      refine aw_iload_n (pc2 := 111) hk dX7_enter_110 rfl rfl ?_
                      refine h_iald (pc2 := 112) hk dX7_enter_111 rfl rfl rfl (by omega) (by decide) ?_
                      rw [e83]
                      refine aw_if_ne (tgt := 212) (pc2 := 115) hk dX7_enter_112 (by decide) rfl (fun c112 => ?_) (fun c112 => ?_)
                      · first
                          | rw [hst _ (by unfold tkB; rw [show (I 82 c != 0 && I 83 c == 0) = true by simp [hin]]; rfl)]
                          | (have h9 : ¬ I 83 c = 0 := c112
                             rw [hst0 (by unfold tkB; rw [show (I 82 c != 0 && I 83 c == 0) = false by simp [h9]]; rfl)])
                          | (have h9 : I 82 c = 0 := c103
                             rw [hst0 (by unfold tkB; rw [show (I 82 c != 0 && I 83 c == 0) = false by simp [h9]]; rfl)])
                        refine aw_iinc1 (pc2 := 215) hk dX7_enter_212 rfl rfl (by decide) ?_
                        show AW K Q _ _ 215 [_, _, _, _, _, _] _ _ _
                        refine aw_goto (tgt := 83) hk dX7_enter_215 (by decide) ?_
                        refine aw_fg 4 ?_
                        refine aw_fg 5 ?_
                        exact ih (c + 1) (by omega) (by omega)
                      · refine aw_aload_n (pc2 := 116) hk dX7_enter_115 rfl rfl ?_
                        refine aw_get (pc2 := 119) hk ckX7 2 dX7_enter_116 rfl fl_X7_16 (by decide) (o_X7 rfl) rfl ?_
                        refine aw_iload_n (pc2 := 120) hk dX7_enter_119 rfl rfl ?_
                        refine h_iald (pc2 := 121) hk dX7_enter_120 rfl rfl rfl (by omega) (by decide) ?_
                        rw [e79]
                        refine aw_iconst (v := -1) (pc2 := 122) hk dX7_enter_121 rfl (by decide) ?_
                        refine aw_icmp_ne (tgt := 138) (pc2 := 125) hk dX7_enter_122 (by decide) rfl (fun c122 => ?_) (fun c122 => ?_)
                        · refine aw_iconst (v := 0) (pc2 := 139) hk dX7_enter_138 rfl (by decide) ?_
                          refine aw_top (bi ((I 79 c == -1 && I 95 (oc - 1) == 0) || anyB (fun k => rdy (I 97 (12 * (oc - 1) + k)) && I 79 c == I 96 (12 * (oc - 1) + k)) 0)) (by
                            show _ = bi ((I 79 c == -1 && I 95 (oc - 1) == 0) || false)
                            rw [Bool.or_false]
                            first
                              | (have h9 : I 79 c = -1 := c122; have h8 : I 95 (oc - 1) = 0 := c131; rw [h9, h8]; rfl)
                              | (have h9 : I 79 c = -1 := c122; have h8 : ¬ I 95 (oc - 1) = 0 := c131; simp [bi, h8]; done)
                              | (have h9 : ¬ I 79 c = -1 := c122; simp [bi, h9]; done)) ?_
                          refine aw_istore (pc2 := 141) hk dX7_enter_139 rfl (by decide) ?_
                          show AW K Q _ _ 141 [_, _, _, _, _, _] _ _ _
                          have loop2 : ∀ (k2 j : Nat), j ≤ (nc (oc - 1)) → (nc (oc - 1)) + 1 ≤ j + k2 → AW K Q 0 0 144 [some (.ref 78), some (.int (nI (oc - 1))), some (.int (rdN I (oc - 1) (nc (oc - 1)))), some (.int (nI c)), some (.int (bi ((I 79 c == -1 && I 95 (oc - 1) == 0) || anyB (fun k => rdy (I 97 (12 * (oc - 1) + k)) && I 79 c == I 96 (12 * (oc - 1) + k)) j))), some (.int (nI j))] [] n (H5 d IX J S L R) := by
                            intro k2
                            induction k2 with
                            | zero => intro j h1 h2; omega
                            | succ k2 ih2 =>
                              intro j hj hn2
                              refine aw_iload (pc2 := 146) hk dX7_enter_144 rfl rfl ?_
                              refine aw_aload_n (pc2 := 147) hk dX7_enter_146 rfl rfl ?_
                              refine aw_get (pc2 := 150) hk ckX7 23 dX7_enter_147 rfl fl_X7_63 (by decide) (o_X7 rfl) rfl ?_
                              refine aw_iload_n (pc2 := 151) hk dX7_enter_150 rfl rfl ?_
                              refine h_iald (pc2 := 152) hk dX7_enter_151 rfl rfl rfl (by omega) (by decide) ?_
                              refine aw_icN_ge (x := j) (y := (nc (oc - 1))) (tgt := 204) (pc2 := 155) hk dX7_enter_152 (by decide) rfl rfl (by rw [e94]; exact hn1) (by omega) (by omega) (fun c152 => ?_) (fun c152 => ?_)
                              · have ej : j = (nc (oc - 1)) := by omega
                                have hin : I 82 c ≠ 0 ∧ I 83 c = 0 := ⟨c103, c112⟩
                                rw [ej]
                                refine aw_aload_n (pc2 := 205) hk dX7_enter_204 rfl rfl ?_
                                refine aw_get (pc2 := 208) hk ckX7 44 dX7_enter_205 rfl fl_X7_124 (by decide) (o_X7 rfl) rfl ?_
                                refine aw_iload_n (pc2 := 209) hk dX7_enter_208 rfl rfl ?_
                                refine aw_iload (pc2 := 211) hk dX7_enter_209 rfl rfl ?_
                                refine h_zast (pc2 := 212) hk dX7_enter_211 rfl rfl rfl (by omega) (by decide) (bi_01 _) ?_
                                first
                                  | rw [hst _ (by unfold tkB; rw [show (I 82 c != 0 && I 83 c == 0) = true by simp [hin]]; rfl)]
                                  | (have h9 : ¬ I 83 c = 0 := c112
                                     rw [hst0 (by unfold tkB; rw [show (I 82 c != 0 && I 83 c == 0) = false by simp [h9]]; rfl)])
                                  | (have h9 : I 82 c = 0 := c103
                                     rw [hst0 (by unfold tkB; rw [show (I 82 c != 0 && I 83 c == 0) = false by simp [h9]]; rfl)])
                                refine aw_iinc1 (pc2 := 215) hk dX7_enter_212 rfl rfl (by decide) ?_
                                show AW K Q _ _ 215 [_, _, _, _, _, _] _ _ _
                                refine aw_goto (tgt := 83) hk dX7_enter_215 (by decide) ?_
                                refine aw_fg 4 ?_
                                refine aw_fg 5 ?_
                                exact ih (c + 1) (by omega) (by omega)
                              · refine aw_iload (pc2 := 157) hk dX7_enter_155 rfl rfl ?_
                                refine aw_if_ne (tgt := 191) (pc2 := 160) hk dX7_enter_157 (by decide) rfl (fun c157 => ?_) (fun c157 => ?_)
                                · refine aw_iconst (v := 1) (pc2 := 192) hk dX7_enter_191 rfl (by decide) ?_
                                  refine aw_goto (tgt := 196) hk dX7_enter_192 (by decide) ?_
                                  refine aw_top (bi ((I 79 c == -1 && I 95 (oc - 1) == 0) || anyB (fun k => rdy (I 97 (12 * (oc - 1) + k)) && I 79 c == I 96 (12 * (oc - 1) + k)) (j + 1))) (by
                                    show _ = bi ((I 79 c == -1 && I 95 (oc - 1) == 0) || (anyB (fun k => rdy (I 97 (12 * (oc - 1) + k)) && I 79 c == I 96 (12 * (oc - 1) + k)) j || (fun k => rdy (I 97 (12 * (oc - 1) + k)) && I 79 c == I 96 (12 * (oc - 1) + k)) j))
                                    rw [← Bool.or_assoc]
                                    first
                                      | (rw [bi_tt c157]; rfl)
                                      | (rw [bi_ff c157, show (fun k => rdy (I 97 (12 * (oc - 1) + k)) && I 79 c == I 96 (12 * (oc - 1) + k)) j = true by show (_ && _) = true; rw [bi_tt c167, Bool.true_and]; simp [c188]]; rfl)
                                      | (rw [bi_ff c157, show (fun k => rdy (I 97 (12 * (oc - 1) + k)) && I 79 c == I 96 (12 * (oc - 1) + k)) j = false by show (_ && _) = false; rw [bi_tt c167, Bool.true_and]; simp [c188]]; rfl)
                                      | (rw [bi_ff c157, show (fun k => rdy (I 97 (12 * (oc - 1) + k)) && I 79 c == I 96 (12 * (oc - 1) + k)) j = false by show (_ && _) = false; rw [bi_ff c167, Bool.false_and]]; rfl)) ?_
                                  refine aw_istore (pc2 := 198) hk dX7_enter_196 rfl (by decide) ?_
                                  show AW K Q _ _ 198 [_, _, _, _, _, _] _ _ _
                                  refine aw_iinc1 (pc2 := 201) hk dX7_enter_198 rfl rfl (by decide) ?_
                                  show AW K Q _ _ 201 [_, _, _, _, _, _] _ _ _
                                  refine aw_goto (tgt := 144) hk dX7_enter_201 (by decide) ?_
                                  exact ih2 (j + 1) (by omega) (by omega)
                                · refine aw_aload_n (pc2 := 161) hk dX7_enter_160 rfl rfl ?_
                                  refine aw_iload_n (pc2 := 162) hk dX7_enter_161 rfl rfl ?_
                                  refine aw_iload (pc2 := 164) hk dX7_enter_162 rfl rfl ?_
                                  refine aw_cV (rm2 := rmX7_mayEnter) (pc2 := 167) hk veX7_mayEnter dX7_enter_164 rfl ml_X7_209 ⟨(Nat.le_of_ble_eq_true rfl), (Nat.le_of_ble_eq_true rfl)⟩ [_, _] rfl rfl (Nat.le_of_ble_eq_true rfl) (Nat.le_of_ble_eq_true rfl) (Nat.le_of_ble_eq_true rfl) (o_X7 rfl) (m_mayEnter (by omega) ?_)
                                  rw [e97]
                                  refine aw_if_eq (tgt := 195) (pc2 := 170) hk dX7_enter_167 (by decide) rfl (fun c167 => ?_) (fun c167 => ?_)
                                  · refine aw_iconst (v := 0) (pc2 := 196) hk dX7_enter_195 rfl (by decide) ?_
                                    refine aw_top (bi ((I 79 c == -1 && I 95 (oc - 1) == 0) || anyB (fun k => rdy (I 97 (12 * (oc - 1) + k)) && I 79 c == I 96 (12 * (oc - 1) + k)) (j + 1))) (by
                                      show _ = bi ((I 79 c == -1 && I 95 (oc - 1) == 0) || (anyB (fun k => rdy (I 97 (12 * (oc - 1) + k)) && I 79 c == I 96 (12 * (oc - 1) + k)) j || (fun k => rdy (I 97 (12 * (oc - 1) + k)) && I 79 c == I 96 (12 * (oc - 1) + k)) j))
                                      rw [← Bool.or_assoc]
                                      first
                                        | (rw [bi_tt c157]; rfl)
                                        | (rw [bi_ff c157, show (fun k => rdy (I 97 (12 * (oc - 1) + k)) && I 79 c == I 96 (12 * (oc - 1) + k)) j = true by show (_ && _) = true; rw [bi_tt c167, Bool.true_and]; simp [c188]]; rfl)
                                        | (rw [bi_ff c157, show (fun k => rdy (I 97 (12 * (oc - 1) + k)) && I 79 c == I 96 (12 * (oc - 1) + k)) j = false by show (_ && _) = false; rw [bi_tt c167, Bool.true_and]; simp [c188]]; rfl)
                                        | (rw [bi_ff c157, show (fun k => rdy (I 97 (12 * (oc - 1) + k)) && I 79 c == I 96 (12 * (oc - 1) + k)) j = false by show (_ && _) = false; rw [bi_ff c167, Bool.false_and]]; rfl)) ?_
                                    refine aw_istore (pc2 := 198) hk dX7_enter_196 rfl (by decide) ?_
                                    show AW K Q _ _ 198 [_, _, _, _, _, _] _ _ _
                                    refine aw_iinc1 (pc2 := 201) hk dX7_enter_198 rfl rfl (by decide) ?_
                                    show AW K Q _ _ 201 [_, _, _, _, _, _] _ _ _
                                    refine aw_goto (tgt := 144) hk dX7_enter_201 (by decide) ?_
                                    exact ih2 (j + 1) (by omega) (by omega)
                                  · refine aw_aload_n (pc2 := 171) hk dX7_enter_170 rfl rfl ?_
                                    refine aw_get (pc2 := 174) hk ckX7 2 dX7_enter_171 rfl fl_X7_16 (by decide) (o_X7 rfl) rfl ?_
                                    refine aw_iload_n (pc2 := 175) hk dX7_enter_174 rfl rfl ?_
                                    refine h_iald (pc2 := 176) hk dX7_enter_175 rfl rfl rfl (by omega) (by decide) ?_
                                    refine aw_aload_n (pc2 := 177) hk dX7_enter_176 rfl rfl ?_
                                    refine aw_get (pc2 := 180) hk ckX7 25 dX7_enter_177 rfl fl_X7_69 (by decide) (o_X7 rfl) rfl ?_
                                    refine aw_bipush (v := nI 12) (pc2 := 182) hk dX7_enter_180 rfl (by decide) ?_
                                    refine aw_iload_n (pc2 := 183) hk dX7_enter_182 rfl rfl ?_
                                    refine aw_imul (pc2 := 184) hk dX7_enter_183 rfl ?_
                                    refine aw_iload (pc2 := 186) hk dX7_enter_184 rfl rfl ?_
                                    refine aw_iadd (pc2 := 187) hk dX7_enter_186 rfl ?_
                                    rw [mulN]
                                    refine h_iald (pc2 := 188) hk dX7_enter_187 rfl rfl rfl (by omega) (by decide) ?_
                                    rw [e79, e96]
                                    refine aw_icmp_ne (tgt := 195) (pc2 := 191) hk dX7_enter_188 (by decide) rfl (fun c188 => ?_) (fun c188 => ?_)
                                    · refine aw_iconst (v := 0) (pc2 := 196) hk dX7_enter_195 rfl (by decide) ?_
                                      refine aw_top (bi ((I 79 c == -1 && I 95 (oc - 1) == 0) || anyB (fun k => rdy (I 97 (12 * (oc - 1) + k)) && I 79 c == I 96 (12 * (oc - 1) + k)) (j + 1))) (by
                                        show _ = bi ((I 79 c == -1 && I 95 (oc - 1) == 0) || (anyB (fun k => rdy (I 97 (12 * (oc - 1) + k)) && I 79 c == I 96 (12 * (oc - 1) + k)) j || (fun k => rdy (I 97 (12 * (oc - 1) + k)) && I 79 c == I 96 (12 * (oc - 1) + k)) j))
                                        rw [← Bool.or_assoc]
                                        first
                                          | (rw [bi_tt c157]; rfl)
                                          | (rw [bi_ff c157, show (fun k => rdy (I 97 (12 * (oc - 1) + k)) && I 79 c == I 96 (12 * (oc - 1) + k)) j = true by show (_ && _) = true; rw [bi_tt c167, Bool.true_and]; simp [c188]]; rfl)
                                          | (rw [bi_ff c157, show (fun k => rdy (I 97 (12 * (oc - 1) + k)) && I 79 c == I 96 (12 * (oc - 1) + k)) j = false by show (_ && _) = false; rw [bi_tt c167, Bool.true_and]; simp [c188]]; rfl)
                                          | (rw [bi_ff c157, show (fun k => rdy (I 97 (12 * (oc - 1) + k)) && I 79 c == I 96 (12 * (oc - 1) + k)) j = false by show (_ && _) = false; rw [bi_ff c167, Bool.false_and]]; rfl)) ?_
                                      refine aw_istore (pc2 := 198) hk dX7_enter_196 rfl (by decide) ?_
                                      show AW K Q _ _ 198 [_, _, _, _, _, _] _ _ _
                                      refine aw_iinc1 (pc2 := 201) hk dX7_enter_198 rfl rfl (by decide) ?_
                                      show AW K Q _ _ 201 [_, _, _, _, _, _] _ _ _
                                      refine aw_goto (tgt := 144) hk dX7_enter_201 (by decide) ?_
                                      exact ih2 (j + 1) (by omega) (by omega)
                                    · refine aw_iconst (v := 1) (pc2 := 192) hk dX7_enter_191 rfl (by decide) ?_
                                      refine aw_goto (tgt := 196) hk dX7_enter_192 (by decide) ?_
                                      refine aw_top (bi ((I 79 c == -1 && I 95 (oc - 1) == 0) || anyB (fun k => rdy (I 97 (12 * (oc - 1) + k)) && I 79 c == I 96 (12 * (oc - 1) + k)) (j + 1))) (by
                                        show _ = bi ((I 79 c == -1 && I 95 (oc - 1) == 0) || (anyB (fun k => rdy (I 97 (12 * (oc - 1) + k)) && I 79 c == I 96 (12 * (oc - 1) + k)) j || (fun k => rdy (I 97 (12 * (oc - 1) + k)) && I 79 c == I 96 (12 * (oc - 1) + k)) j))
                                        rw [← Bool.or_assoc]
                                        first
                                          | (rw [bi_tt c157]; rfl)
                                          | (rw [bi_ff c157, show (fun k => rdy (I 97 (12 * (oc - 1) + k)) && I 79 c == I 96 (12 * (oc - 1) + k)) j = true by show (_ && _) = true; rw [bi_tt c167, Bool.true_and]; simp [c188]]; rfl)
                                          | (rw [bi_ff c157, show (fun k => rdy (I 97 (12 * (oc - 1) + k)) && I 79 c == I 96 (12 * (oc - 1) + k)) j = false by show (_ && _) = false; rw [bi_tt c167, Bool.true_and]; simp [c188]]; rfl)
                                          | (rw [bi_ff c157, show (fun k => rdy (I 97 (12 * (oc - 1) + k)) && I 79 c == I 96 (12 * (oc - 1) + k)) j = false by show (_ && _) = false; rw [bi_ff c167, Bool.false_and]]; rfl)) ?_
                                      refine aw_istore (pc2 := 198) hk dX7_enter_196 rfl (by decide) ?_
                                      show AW K Q _ _ 198 [_, _, _, _, _, _] _ _ _
                                      refine aw_iinc1 (pc2 := 201) hk dX7_enter_198 rfl rfl (by decide) ?_
                                      show AW K Q _ _ 201 [_, _, _, _, _, _] _ _ _
                                      refine aw_goto (tgt := 144) hk dX7_enter_201 (by decide) ?_
                                      exact ih2 (j + 1) (by omega) (by omega)
                          refine aw_iconst (v := 0) (pc2 := 142) hk dX7_enter_141 rfl (by decide) ?_
                          refine aw_istore (pc2 := 144) hk dX7_enter_142 rfl (by decide) ?_
                          show AW K Q _ _ 144 [_, _, _, _, _, _] _ _ _
                          exact loop2 ((nc (oc - 1)) + 1) 0 (by omega) (by omega)
                        · refine aw_aload_n (pc2 := 126) hk dX7_enter_125 rfl rfl ?_
                          refine aw_get (pc2 := 129) hk ckX7 24 dX7_enter_126 rfl fl_X7_66 (by decide) (o_X7 rfl) rfl ?_
                          refine aw_iload_n (pc2 := 130) hk dX7_enter_129 rfl rfl ?_
                          refine h_zald (pc2 := 131) hk dX7_enter_130 rfl rfl rfl (by omega) (by decide) ?_
                          rw [e95]
                          refine aw_if_ne (tgt := 138) (pc2 := 134) hk dX7_enter_131 (by decide) rfl (fun c131 => ?_) (fun c131 => ?_)
                          · refine aw_iconst (v := 0) (pc2 := 139) hk dX7_enter_138 rfl (by decide) ?_
                            refine aw_top (bi ((I 79 c == -1 && I 95 (oc - 1) == 0) || anyB (fun k => rdy (I 97 (12 * (oc - 1) + k)) && I 79 c == I 96 (12 * (oc - 1) + k)) 0)) (by
                              show _ = bi ((I 79 c == -1 && I 95 (oc - 1) == 0) || false)
                              rw [Bool.or_false]
                              first
                                | (have h9 : I 79 c = -1 := c122; have h8 : I 95 (oc - 1) = 0 := c131; rw [h9, h8]; rfl)
                                | (have h9 : I 79 c = -1 := c122; have h8 : ¬ I 95 (oc - 1) = 0 := c131; simp [bi, h8]; done)
                                | (have h9 : ¬ I 79 c = -1 := c122; simp [bi, h9]; done)) ?_
                            refine aw_istore (pc2 := 141) hk dX7_enter_139 rfl (by decide) ?_
                            show AW K Q _ _ 141 [_, _, _, _, _, _] _ _ _
                            have loop2 : ∀ (k2 j : Nat), j ≤ (nc (oc - 1)) → (nc (oc - 1)) + 1 ≤ j + k2 → AW K Q 0 0 144 [some (.ref 78), some (.int (nI (oc - 1))), some (.int (rdN I (oc - 1) (nc (oc - 1)))), some (.int (nI c)), some (.int (bi ((I 79 c == -1 && I 95 (oc - 1) == 0) || anyB (fun k => rdy (I 97 (12 * (oc - 1) + k)) && I 79 c == I 96 (12 * (oc - 1) + k)) j))), some (.int (nI j))] [] n (H5 d IX J S L R) := by
                              intro k2
                              induction k2 with
                              | zero => intro j h1 h2; omega
                              | succ k2 ih2 =>
                                intro j hj hn2
                                refine aw_iload (pc2 := 146) hk dX7_enter_144 rfl rfl ?_
                                refine aw_aload_n (pc2 := 147) hk dX7_enter_146 rfl rfl ?_
                                refine aw_get (pc2 := 150) hk ckX7 23 dX7_enter_147 rfl fl_X7_63 (by decide) (o_X7 rfl) rfl ?_
                                refine aw_iload_n (pc2 := 151) hk dX7_enter_150 rfl rfl ?_
                                refine h_iald (pc2 := 152) hk dX7_enter_151 rfl rfl rfl (by omega) (by decide) ?_
                                refine aw_icN_ge (x := j) (y := (nc (oc - 1))) (tgt := 204) (pc2 := 155) hk dX7_enter_152 (by decide) rfl rfl (by rw [e94]; exact hn1) (by omega) (by omega) (fun c152 => ?_) (fun c152 => ?_)
                                · have ej : j = (nc (oc - 1)) := by omega
                                  have hin : I 82 c ≠ 0 ∧ I 83 c = 0 := ⟨c103, c112⟩
                                  rw [ej]
                                  refine aw_aload_n (pc2 := 205) hk dX7_enter_204 rfl rfl ?_
                                  refine aw_get (pc2 := 208) hk ckX7 44 dX7_enter_205 rfl fl_X7_124 (by decide) (o_X7 rfl) rfl ?_
                                  refine aw_iload_n (pc2 := 209) hk dX7_enter_208 rfl rfl ?_
                                  refine aw_iload (pc2 := 211) hk dX7_enter_209 rfl rfl ?_
                                  refine h_zast (pc2 := 212) hk dX7_enter_211 rfl rfl rfl (by omega) (by decide) (bi_01 _) ?_
                                  first
                                    | rw [hst _ (by unfold tkB; rw [show (I 82 c != 0 && I 83 c == 0) = true by simp [hin]]; rfl)]
                                    | (have h9 : ¬ I 83 c = 0 := c112
                                       rw [hst0 (by unfold tkB; rw [show (I 82 c != 0 && I 83 c == 0) = false by simp [h9]]; rfl)])
                                    | (have h9 : I 82 c = 0 := c103
                                       rw [hst0 (by unfold tkB; rw [show (I 82 c != 0 && I 83 c == 0) = false by simp [h9]]; rfl)])
                                  refine aw_iinc1 (pc2 := 215) hk dX7_enter_212 rfl rfl (by decide) ?_
                                  show AW K Q _ _ 215 [_, _, _, _, _, _] _ _ _
                                  refine aw_goto (tgt := 83) hk dX7_enter_215 (by decide) ?_
                                  refine aw_fg 4 ?_
                                  refine aw_fg 5 ?_
                                  exact ih (c + 1) (by omega) (by omega)
                                · refine aw_iload (pc2 := 157) hk dX7_enter_155 rfl rfl ?_
                                  refine aw_if_ne (tgt := 191) (pc2 := 160) hk dX7_enter_157 (by decide) rfl (fun c157 => ?_) (fun c157 => ?_)
                                  · refine aw_iconst (v := 1) (pc2 := 192) hk dX7_enter_191 rfl (by decide) ?_
                                    refine aw_goto (tgt := 196) hk dX7_enter_192 (by decide) ?_
                                    refine aw_top (bi ((I 79 c == -1 && I 95 (oc - 1) == 0) || anyB (fun k => rdy (I 97 (12 * (oc - 1) + k)) && I 79 c == I 96 (12 * (oc - 1) + k)) (j + 1))) (by
                                      show _ = bi ((I 79 c == -1 && I 95 (oc - 1) == 0) || (anyB (fun k => rdy (I 97 (12 * (oc - 1) + k)) && I 79 c == I 96 (12 * (oc - 1) + k)) j || (fun k => rdy (I 97 (12 * (oc - 1) + k)) && I 79 c == I 96 (12 * (oc - 1) + k)) j))
                                      rw [← Bool.or_assoc]
                                      first
                                        | (rw [bi_tt c157]; rfl)
                                        | (rw [bi_ff c157, show (fun k => rdy (I 97 (12 * (oc - 1) + k)) && I 79 c == I 96 (12 * (oc - 1) + k)) j = true by show (_ && _) = true; rw [bi_tt c167, Bool.true_and]; simp [c188]]; rfl)
                                        | (rw [bi_ff c157, show (fun k => rdy (I 97 (12 * (oc - 1) + k)) && I 79 c == I 96 (12 * (oc - 1) + k)) j = false by show (_ && _) = false; rw [bi_tt c167, Bool.true_and]; simp [c188]]; rfl)
                                        | (rw [bi_ff c157, show (fun k => rdy (I 97 (12 * (oc - 1) + k)) && I 79 c == I 96 (12 * (oc - 1) + k)) j = false by show (_ && _) = false; rw [bi_ff c167, Bool.false_and]]; rfl)) ?_
                                    refine aw_istore (pc2 := 198) hk dX7_enter_196 rfl (by decide) ?_
                                    show AW K Q _ _ 198 [_, _, _, _, _, _] _ _ _
                                    refine aw_iinc1 (pc2 := 201) hk dX7_enter_198 rfl rfl (by decide) ?_
                                    show AW K Q _ _ 201 [_, _, _, _, _, _] _ _ _
                                    refine aw_goto (tgt := 144) hk dX7_enter_201 (by decide) ?_
                                    exact ih2 (j + 1) (by omega) (by omega)
                                  · refine aw_aload_n (pc2 := 161) hk dX7_enter_160 rfl rfl ?_
                                    refine aw_iload_n (pc2 := 162) hk dX7_enter_161 rfl rfl ?_
                                    refine aw_iload (pc2 := 164) hk dX7_enter_162 rfl rfl ?_
                                    refine aw_cV (rm2 := rmX7_mayEnter) (pc2 := 167) hk veX7_mayEnter dX7_enter_164 rfl ml_X7_209 ⟨(Nat.le_of_ble_eq_true rfl), (Nat.le_of_ble_eq_true rfl)⟩ [_, _] rfl rfl (Nat.le_of_ble_eq_true rfl) (Nat.le_of_ble_eq_true rfl) (Nat.le_of_ble_eq_true rfl) (o_X7 rfl) (m_mayEnter (by omega) ?_)
                                    rw [e97]
                                    refine aw_if_eq (tgt := 195) (pc2 := 170) hk dX7_enter_167 (by decide) rfl (fun c167 => ?_) (fun c167 => ?_)
                                    · refine aw_iconst (v := 0) (pc2 := 196) hk dX7_enter_195 rfl (by decide) ?_
                                      refine aw_top (bi ((I 79 c == -1 && I 95 (oc - 1) == 0) || anyB (fun k => rdy (I 97 (12 * (oc - 1) + k)) && I 79 c == I 96 (12 * (oc - 1) + k)) (j + 1))) (by
                                        show _ = bi ((I 79 c == -1 && I 95 (oc - 1) == 0) || (anyB (fun k => rdy (I 97 (12 * (oc - 1) + k)) && I 79 c == I 96 (12 * (oc - 1) + k)) j || (fun k => rdy (I 97 (12 * (oc - 1) + k)) && I 79 c == I 96 (12 * (oc - 1) + k)) j))
                                        rw [← Bool.or_assoc]
                                        first
                                          | (rw [bi_tt c157]; rfl)
                                          | (rw [bi_ff c157, show (fun k => rdy (I 97 (12 * (oc - 1) + k)) && I 79 c == I 96 (12 * (oc - 1) + k)) j = true by show (_ && _) = true; rw [bi_tt c167, Bool.true_and]; simp [c188]]; rfl)
                                          | (rw [bi_ff c157, show (fun k => rdy (I 97 (12 * (oc - 1) + k)) && I 79 c == I 96 (12 * (oc - 1) + k)) j = false by show (_ && _) = false; rw [bi_tt c167, Bool.true_and]; simp [c188]]; rfl)
                                          | (rw [bi_ff c157, show (fun k => rdy (I 97 (12 * (oc - 1) + k)) && I 79 c == I 96 (12 * (oc - 1) + k)) j = false by show (_ && _) = false; rw [bi_ff c167, Bool.false_and]]; rfl)) ?_
                                      refine aw_istore (pc2 := 198) hk dX7_enter_196 rfl (by decide) ?_
                                      show AW K Q _ _ 198 [_, _, _, _, _, _] _ _ _
                                      refine aw_iinc1 (pc2 := 201) hk dX7_enter_198 rfl rfl (by decide) ?_
                                      show AW K Q _ _ 201 [_, _, _, _, _, _] _ _ _
                                      refine aw_goto (tgt := 144) hk dX7_enter_201 (by decide) ?_
                                      exact ih2 (j + 1) (by omega) (by omega)
                                    · refine aw_aload_n (pc2 := 171) hk dX7_enter_170 rfl rfl ?_
                                      refine aw_get (pc2 := 174) hk ckX7 2 dX7_enter_171 rfl fl_X7_16 (by decide) (o_X7 rfl) rfl ?_
                                      refine aw_iload_n (pc2 := 175) hk dX7_enter_174 rfl rfl ?_
                                      refine h_iald (pc2 := 176) hk dX7_enter_175 rfl rfl rfl (by omega) (by decide) ?_
                                      refine aw_aload_n (pc2 := 177) hk dX7_enter_176 rfl rfl ?_
                                      refine aw_get (pc2 := 180) hk ckX7 25 dX7_enter_177 rfl fl_X7_69 (by decide) (o_X7 rfl) rfl ?_
                                      refine aw_bipush (v := nI 12) (pc2 := 182) hk dX7_enter_180 rfl (by decide) ?_
                                      refine aw_iload_n (pc2 := 183) hk dX7_enter_182 rfl rfl ?_
                                      refine aw_imul (pc2 := 184) hk dX7_enter_183 rfl ?_
                                      refine aw_iload (pc2 := 186) hk dX7_enter_184 rfl rfl ?_
                                      refine aw_iadd (pc2 := 187) hk dX7_enter_186 rfl ?_
                                      rw [mulN]
                                      refine h_iald (pc2 := 188) hk dX7_enter_187 rfl rfl rfl (by omega) (by decide) ?_
                                      rw [e79, e96]
                                      refine aw_icmp_ne (tgt := 195) (pc2 := 191) hk dX7_enter_188 (by decide) rfl (fun c188 => ?_) (fun c188 => ?_)
                                      · refine aw_iconst (v := 0) (pc2 := 196) hk dX7_enter_195 rfl (by decide) ?_
                                        refine aw_top (bi ((I 79 c == -1 && I 95 (oc - 1) == 0) || anyB (fun k => rdy (I 97 (12 * (oc - 1) + k)) && I 79 c == I 96 (12 * (oc - 1) + k)) (j + 1))) (by
                                          show _ = bi ((I 79 c == -1 && I 95 (oc - 1) == 0) || (anyB (fun k => rdy (I 97 (12 * (oc - 1) + k)) && I 79 c == I 96 (12 * (oc - 1) + k)) j || (fun k => rdy (I 97 (12 * (oc - 1) + k)) && I 79 c == I 96 (12 * (oc - 1) + k)) j))
                                          rw [← Bool.or_assoc]
                                          first
                                            | (rw [bi_tt c157]; rfl)
                                            | (rw [bi_ff c157, show (fun k => rdy (I 97 (12 * (oc - 1) + k)) && I 79 c == I 96 (12 * (oc - 1) + k)) j = true by show (_ && _) = true; rw [bi_tt c167, Bool.true_and]; simp [c188]]; rfl)
                                            | (rw [bi_ff c157, show (fun k => rdy (I 97 (12 * (oc - 1) + k)) && I 79 c == I 96 (12 * (oc - 1) + k)) j = false by show (_ && _) = false; rw [bi_tt c167, Bool.true_and]; simp [c188]]; rfl)
                                            | (rw [bi_ff c157, show (fun k => rdy (I 97 (12 * (oc - 1) + k)) && I 79 c == I 96 (12 * (oc - 1) + k)) j = false by show (_ && _) = false; rw [bi_ff c167, Bool.false_and]]; rfl)) ?_
                                        refine aw_istore (pc2 := 198) hk dX7_enter_196 rfl (by decide) ?_
                                        show AW K Q _ _ 198 [_, _, _, _, _, _] _ _ _
                                        refine aw_iinc1 (pc2 := 201) hk dX7_enter_198 rfl rfl (by decide) ?_
                                        show AW K Q _ _ 201 [_, _, _, _, _, _] _ _ _
                                        refine aw_goto (tgt := 144) hk dX7_enter_201 (by decide) ?_
                                        exact ih2 (j + 1) (by omega) (by omega)
                                      · refine aw_iconst (v := 1) (pc2 := 192) hk dX7_enter_191 rfl (by decide) ?_
                                        refine aw_goto (tgt := 196) hk dX7_enter_192 (by decide) ?_
                                        refine aw_top (bi ((I 79 c == -1 && I 95 (oc - 1) == 0) || anyB (fun k => rdy (I 97 (12 * (oc - 1) + k)) && I 79 c == I 96 (12 * (oc - 1) + k)) (j + 1))) (by
                                          show _ = bi ((I 79 c == -1 && I 95 (oc - 1) == 0) || (anyB (fun k => rdy (I 97 (12 * (oc - 1) + k)) && I 79 c == I 96 (12 * (oc - 1) + k)) j || (fun k => rdy (I 97 (12 * (oc - 1) + k)) && I 79 c == I 96 (12 * (oc - 1) + k)) j))
                                          rw [← Bool.or_assoc]
                                          first
                                            | (rw [bi_tt c157]; rfl)
                                            | (rw [bi_ff c157, show (fun k => rdy (I 97 (12 * (oc - 1) + k)) && I 79 c == I 96 (12 * (oc - 1) + k)) j = true by show (_ && _) = true; rw [bi_tt c167, Bool.true_and]; simp [c188]]; rfl)
                                            | (rw [bi_ff c157, show (fun k => rdy (I 97 (12 * (oc - 1) + k)) && I 79 c == I 96 (12 * (oc - 1) + k)) j = false by show (_ && _) = false; rw [bi_tt c167, Bool.true_and]; simp [c188]]; rfl)
                                            | (rw [bi_ff c157, show (fun k => rdy (I 97 (12 * (oc - 1) + k)) && I 79 c == I 96 (12 * (oc - 1) + k)) j = false by show (_ && _) = false; rw [bi_ff c167, Bool.false_and]]; rfl)) ?_
                                        refine aw_istore (pc2 := 198) hk dX7_enter_196 rfl (by decide) ?_
                                        show AW K Q _ _ 198 [_, _, _, _, _, _] _ _ _
                                        refine aw_iinc1 (pc2 := 201) hk dX7_enter_198 rfl rfl (by decide) ?_
                                        show AW K Q _ _ 201 [_, _, _, _, _, _] _ _ _
                                        refine aw_goto (tgt := 144) hk dX7_enter_201 (by decide) ?_
                                        exact ih2 (j + 1) (by omega) (by omega)
                            refine aw_iconst (v := 0) (pc2 := 142) hk dX7_enter_141 rfl (by decide) ?_
                            refine aw_istore (pc2 := 144) hk dX7_enter_142 rfl (by decide) ?_
                            show AW K Q _ _ 144 [_, _, _, _, _, _] _ _ _
                            exact loop2 ((nc (oc - 1)) + 1) 0 (by omega) (by omega)
                          · refine aw_iconst (v := 1) (pc2 := 135) hk dX7_enter_134 rfl (by decide) ?_
                            refine aw_goto (tgt := 139) hk dX7_enter_135 (by decide) ?_
                            refine aw_top (bi ((I 79 c == -1 && I 95 (oc - 1) == 0) || anyB (fun k => rdy (I 97 (12 * (oc - 1) + k)) && I 79 c == I 96 (12 * (oc - 1) + k)) 0)) (by
                              show _ = bi ((I 79 c == -1 && I 95 (oc - 1) == 0) || false)
                              rw [Bool.or_false]
                              first
                                | (have h9 : I 79 c = -1 := c122; have h8 : I 95 (oc - 1) = 0 := c131; rw [h9, h8]; rfl)
                                | (have h9 : I 79 c = -1 := c122; have h8 : ¬ I 95 (oc - 1) = 0 := c131; simp [bi, h8]; done)
                                | (have h9 : ¬ I 79 c = -1 := c122; simp [bi, h9]; done)) ?_
                            refine aw_istore (pc2 := 141) hk dX7_enter_139 rfl (by decide) ?_
                            show AW K Q _ _ 141 [_, _, _, _, _, _] _ _ _
                            have loop2 : ∀ (k2 j : Nat), j ≤ (nc (oc - 1)) → (nc (oc - 1)) + 1 ≤ j + k2 → AW K Q 0 0 144 [some (.ref 78), some (.int (nI (oc - 1))), some (.int (rdN I (oc - 1) (nc (oc - 1)))), some (.int (nI c)), some (.int (bi ((I 79 c == -1 && I 95 (oc - 1) == 0) || anyB (fun k => rdy (I 97 (12 * (oc - 1) + k)) && I 79 c == I 96 (12 * (oc - 1) + k)) j))), some (.int (nI j))] [] n (H5 d IX J S L R) := by
                              intro k2
                              induction k2 with
                              | zero => intro j h1 h2; omega
                              | succ k2 ih2 =>
                                intro j hj hn2
                                refine aw_iload (pc2 := 146) hk dX7_enter_144 rfl rfl ?_
                                refine aw_aload_n (pc2 := 147) hk dX7_enter_146 rfl rfl ?_
                                refine aw_get (pc2 := 150) hk ckX7 23 dX7_enter_147 rfl fl_X7_63 (by decide) (o_X7 rfl) rfl ?_
                                refine aw_iload_n (pc2 := 151) hk dX7_enter_150 rfl rfl ?_
                                refine h_iald (pc2 := 152) hk dX7_enter_151 rfl rfl rfl (by omega) (by decide) ?_
                                refine aw_icN_ge (x := j) (y := (nc (oc - 1))) (tgt := 204) (pc2 := 155) hk dX7_enter_152 (by decide) rfl rfl (by rw [e94]; exact hn1) (by omega) (by omega) (fun c152 => ?_) (fun c152 => ?_)
                                · have ej : j = (nc (oc - 1)) := by omega
                                  have hin : I 82 c ≠ 0 ∧ I 83 c = 0 := ⟨c103, c112⟩
                                  rw [ej]
                                  refine aw_aload_n (pc2 := 205) hk dX7_enter_204 rfl rfl ?_
                                  refine aw_get (pc2 := 208) hk ckX7 44 dX7_enter_205 rfl fl_X7_124 (by decide) (o_X7 rfl) rfl ?_
                                  refine aw_iload_n (pc2 := 209) hk dX7_enter_208 rfl rfl ?_
                                  refine aw_iload (pc2 := 211) hk dX7_enter_209 rfl rfl ?_
                                  refine h_zast (pc2 := 212) hk dX7_enter_211 rfl rfl rfl (by omega) (by decide) (bi_01 _) ?_
                                  first
                                    | rw [hst _ (by unfold tkB; rw [show (I 82 c != 0 && I 83 c == 0) = true by simp [hin]]; rfl)]
                                    | (have h9 : ¬ I 83 c = 0 := c112
                                       rw [hst0 (by unfold tkB; rw [show (I 82 c != 0 && I 83 c == 0) = false by simp [h9]]; rfl)])
                                    | (have h9 : I 82 c = 0 := c103
                                       rw [hst0 (by unfold tkB; rw [show (I 82 c != 0 && I 83 c == 0) = false by simp [h9]]; rfl)])
                                  refine aw_iinc1 (pc2 := 215) hk dX7_enter_212 rfl rfl (by decide) ?_
                                  show AW K Q _ _ 215 [_, _, _, _, _, _] _ _ _
                                  refine aw_goto (tgt := 83) hk dX7_enter_215 (by decide) ?_
                                  refine aw_fg 4 ?_
                                  refine aw_fg 5 ?_
                                  exact ih (c + 1) (by omega) (by omega)
                                · refine aw_iload (pc2 := 157) hk dX7_enter_155 rfl rfl ?_
                                  refine aw_if_ne (tgt := 191) (pc2 := 160) hk dX7_enter_157 (by decide) rfl (fun c157 => ?_) (fun c157 => ?_)
                                  · refine aw_iconst (v := 1) (pc2 := 192) hk dX7_enter_191 rfl (by decide) ?_
                                    refine aw_goto (tgt := 196) hk dX7_enter_192 (by decide) ?_
                                    refine aw_top (bi ((I 79 c == -1 && I 95 (oc - 1) == 0) || anyB (fun k => rdy (I 97 (12 * (oc - 1) + k)) && I 79 c == I 96 (12 * (oc - 1) + k)) (j + 1))) (by
                                      show _ = bi ((I 79 c == -1 && I 95 (oc - 1) == 0) || (anyB (fun k => rdy (I 97 (12 * (oc - 1) + k)) && I 79 c == I 96 (12 * (oc - 1) + k)) j || (fun k => rdy (I 97 (12 * (oc - 1) + k)) && I 79 c == I 96 (12 * (oc - 1) + k)) j))
                                      rw [← Bool.or_assoc]
                                      first
                                        | (rw [bi_tt c157]; rfl)
                                        | (rw [bi_ff c157, show (fun k => rdy (I 97 (12 * (oc - 1) + k)) && I 79 c == I 96 (12 * (oc - 1) + k)) j = true by show (_ && _) = true; rw [bi_tt c167, Bool.true_and]; simp [c188]]; rfl)
                                        | (rw [bi_ff c157, show (fun k => rdy (I 97 (12 * (oc - 1) + k)) && I 79 c == I 96 (12 * (oc - 1) + k)) j = false by show (_ && _) = false; rw [bi_tt c167, Bool.true_and]; simp [c188]]; rfl)
                                        | (rw [bi_ff c157, show (fun k => rdy (I 97 (12 * (oc - 1) + k)) && I 79 c == I 96 (12 * (oc - 1) + k)) j = false by show (_ && _) = false; rw [bi_ff c167, Bool.false_and]]; rfl)) ?_
                                    refine aw_istore (pc2 := 198) hk dX7_enter_196 rfl (by decide) ?_
                                    show AW K Q _ _ 198 [_, _, _, _, _, _] _ _ _
                                    refine aw_iinc1 (pc2 := 201) hk dX7_enter_198 rfl rfl (by decide) ?_
                                    show AW K Q _ _ 201 [_, _, _, _, _, _] _ _ _
                                    refine aw_goto (tgt := 144) hk dX7_enter_201 (by decide) ?_
                                    exact ih2 (j + 1) (by omega) (by omega)
                                  · refine aw_aload_n (pc2 := 161) hk dX7_enter_160 rfl rfl ?_
                                    refine aw_iload_n (pc2 := 162) hk dX7_enter_161 rfl rfl ?_
                                    refine aw_iload (pc2 := 164) hk dX7_enter_162 rfl rfl ?_
                                    refine aw_cV (rm2 := rmX7_mayEnter) (pc2 := 167) hk veX7_mayEnter dX7_enter_164 rfl ml_X7_209 ⟨(Nat.le_of_ble_eq_true rfl), (Nat.le_of_ble_eq_true rfl)⟩ [_, _] rfl rfl (Nat.le_of_ble_eq_true rfl) (Nat.le_of_ble_eq_true rfl) (Nat.le_of_ble_eq_true rfl) (o_X7 rfl) (m_mayEnter (by omega) ?_)
                                    rw [e97]
                                    refine aw_if_eq (tgt := 195) (pc2 := 170) hk dX7_enter_167 (by decide) rfl (fun c167 => ?_) (fun c167 => ?_)
                                    · refine aw_iconst (v := 0) (pc2 := 196) hk dX7_enter_195 rfl (by decide) ?_
                                      refine aw_top (bi ((I 79 c == -1 && I 95 (oc - 1) == 0) || anyB (fun k => rdy (I 97 (12 * (oc - 1) + k)) && I 79 c == I 96 (12 * (oc - 1) + k)) (j + 1))) (by
                                        show _ = bi ((I 79 c == -1 && I 95 (oc - 1) == 0) || (anyB (fun k => rdy (I 97 (12 * (oc - 1) + k)) && I 79 c == I 96 (12 * (oc - 1) + k)) j || (fun k => rdy (I 97 (12 * (oc - 1) + k)) && I 79 c == I 96 (12 * (oc - 1) + k)) j))
                                        rw [← Bool.or_assoc]
                                        first
                                          | (rw [bi_tt c157]; rfl)
                                          | (rw [bi_ff c157, show (fun k => rdy (I 97 (12 * (oc - 1) + k)) && I 79 c == I 96 (12 * (oc - 1) + k)) j = true by show (_ && _) = true; rw [bi_tt c167, Bool.true_and]; simp [c188]]; rfl)
                                          | (rw [bi_ff c157, show (fun k => rdy (I 97 (12 * (oc - 1) + k)) && I 79 c == I 96 (12 * (oc - 1) + k)) j = false by show (_ && _) = false; rw [bi_tt c167, Bool.true_and]; simp [c188]]; rfl)
                                          | (rw [bi_ff c157, show (fun k => rdy (I 97 (12 * (oc - 1) + k)) && I 79 c == I 96 (12 * (oc - 1) + k)) j = false by show (_ && _) = false; rw [bi_ff c167, Bool.false_and]]; rfl)) ?_
                                      refine aw_istore (pc2 := 198) hk dX7_enter_196 rfl (by decide) ?_
                                      show AW K Q _ _ 198 [_, _, _, _, _, _] _ _ _
                                      refine aw_iinc1 (pc2 := 201) hk dX7_enter_198 rfl rfl (by decide) ?_
                                      show AW K Q _ _ 201 [_, _, _, _, _, _] _ _ _
                                      refine aw_goto (tgt := 144) hk dX7_enter_201 (by decide) ?_
                                      exact ih2 (j + 1) (by omega) (by omega)
                                    · refine aw_aload_n (pc2 := 171) hk dX7_enter_170 rfl rfl ?_
                                      refine aw_get (pc2 := 174) hk ckX7 2 dX7_enter_171 rfl fl_X7_16 (by decide) (o_X7 rfl) rfl ?_
                                      refine aw_iload_n (pc2 := 175) hk dX7_enter_174 rfl rfl ?_
                                      refine h_iald (pc2 := 176) hk dX7_enter_175 rfl rfl rfl (by omega) (by decide) ?_
                                      refine aw_aload_n (pc2 := 177) hk dX7_enter_176 rfl rfl ?_
                                      refine aw_get (pc2 := 180) hk ckX7 25 dX7_enter_177 rfl fl_X7_69 (by decide) (o_X7 rfl) rfl ?_
                                      refine aw_bipush (v := nI 12) (pc2 := 182) hk dX7_enter_180 rfl (by decide) ?_
                                      refine aw_iload_n (pc2 := 183) hk dX7_enter_182 rfl rfl ?_
                                      refine aw_imul (pc2 := 184) hk dX7_enter_183 rfl ?_
                                      refine aw_iload (pc2 := 186) hk dX7_enter_184 rfl rfl ?_
                                      refine aw_iadd (pc2 := 187) hk dX7_enter_186 rfl ?_
                                      rw [mulN]
                                      refine h_iald (pc2 := 188) hk dX7_enter_187 rfl rfl rfl (by omega) (by decide) ?_
                                      rw [e79, e96]
                                      refine aw_icmp_ne (tgt := 195) (pc2 := 191) hk dX7_enter_188 (by decide) rfl (fun c188 => ?_) (fun c188 => ?_)
                                      · refine aw_iconst (v := 0) (pc2 := 196) hk dX7_enter_195 rfl (by decide) ?_
                                        refine aw_top (bi ((I 79 c == -1 && I 95 (oc - 1) == 0) || anyB (fun k => rdy (I 97 (12 * (oc - 1) + k)) && I 79 c == I 96 (12 * (oc - 1) + k)) (j + 1))) (by
                                          show _ = bi ((I 79 c == -1 && I 95 (oc - 1) == 0) || (anyB (fun k => rdy (I 97 (12 * (oc - 1) + k)) && I 79 c == I 96 (12 * (oc - 1) + k)) j || (fun k => rdy (I 97 (12 * (oc - 1) + k)) && I 79 c == I 96 (12 * (oc - 1) + k)) j))
                                          rw [← Bool.or_assoc]
                                          first
                                            | (rw [bi_tt c157]; rfl)
                                            | (rw [bi_ff c157, show (fun k => rdy (I 97 (12 * (oc - 1) + k)) && I 79 c == I 96 (12 * (oc - 1) + k)) j = true by show (_ && _) = true; rw [bi_tt c167, Bool.true_and]; simp [c188]]; rfl)
                                            | (rw [bi_ff c157, show (fun k => rdy (I 97 (12 * (oc - 1) + k)) && I 79 c == I 96 (12 * (oc - 1) + k)) j = false by show (_ && _) = false; rw [bi_tt c167, Bool.true_and]; simp [c188]]; rfl)
                                            | (rw [bi_ff c157, show (fun k => rdy (I 97 (12 * (oc - 1) + k)) && I 79 c == I 96 (12 * (oc - 1) + k)) j = false by show (_ && _) = false; rw [bi_ff c167, Bool.false_and]]; rfl)) ?_
                                        refine aw_istore (pc2 := 198) hk dX7_enter_196 rfl (by decide) ?_
                                        show AW K Q _ _ 198 [_, _, _, _, _, _] _ _ _
                                        refine aw_iinc1 (pc2 := 201) hk dX7_enter_198 rfl rfl (by decide) ?_
                                        show AW K Q _ _ 201 [_, _, _, _, _, _] _ _ _
                                        refine aw_goto (tgt := 144) hk dX7_enter_201 (by decide) ?_
                                        exact ih2 (j + 1) (by omega) (by omega)
                                      · refine aw_iconst (v := 1) (pc2 := 192) hk dX7_enter_191 rfl (by decide) ?_
                                        refine aw_goto (tgt := 196) hk dX7_enter_192 (by decide) ?_
                                        refine aw_top (bi ((I 79 c == -1 && I 95 (oc - 1) == 0) || anyB (fun k => rdy (I 97 (12 * (oc - 1) + k)) && I 79 c == I 96 (12 * (oc - 1) + k)) (j + 1))) (by
                                          show _ = bi ((I 79 c == -1 && I 95 (oc - 1) == 0) || (anyB (fun k => rdy (I 97 (12 * (oc - 1) + k)) && I 79 c == I 96 (12 * (oc - 1) + k)) j || (fun k => rdy (I 97 (12 * (oc - 1) + k)) && I 79 c == I 96 (12 * (oc - 1) + k)) j))
                                          rw [← Bool.or_assoc]
                                          first
                                            | (rw [bi_tt c157]; rfl)
                                            | (rw [bi_ff c157, show (fun k => rdy (I 97 (12 * (oc - 1) + k)) && I 79 c == I 96 (12 * (oc - 1) + k)) j = true by show (_ && _) = true; rw [bi_tt c167, Bool.true_and]; simp [c188]]; rfl)
                                            | (rw [bi_ff c157, show (fun k => rdy (I 97 (12 * (oc - 1) + k)) && I 79 c == I 96 (12 * (oc - 1) + k)) j = false by show (_ && _) = false; rw [bi_tt c167, Bool.true_and]; simp [c188]]; rfl)
                                            | (rw [bi_ff c157, show (fun k => rdy (I 97 (12 * (oc - 1) + k)) && I 79 c == I 96 (12 * (oc - 1) + k)) j = false by show (_ && _) = false; rw [bi_ff c167, Bool.false_and]]; rfl)) ?_
                                        refine aw_istore (pc2 := 198) hk dX7_enter_196 rfl (by decide) ?_
                                        show AW K Q _ _ 198 [_, _, _, _, _, _] _ _ _
                                        refine aw_iinc1 (pc2 := 201) hk dX7_enter_198 rfl rfl (by decide) ?_
                                        show AW K Q _ _ 201 [_, _, _, _, _, _] _ _ _
                                        refine aw_goto (tgt := 144) hk dX7_enter_201 (by decide) ?_
                                        exact ih2 (j + 1) (by omega) (by omega)
                            refine aw_iconst (v := 0) (pc2 := 142) hk dX7_enter_141 rfl (by decide) ?_
                            refine aw_istore (pc2 := 144) hk dX7_enter_142 rfl (by decide) ?_
                            show AW K Q _ _ 144 [_, _, _, _, _, _] _ _ _
                            exact loop2 ((nc (oc - 1)) + 1) 0 (by omega) (by omega)
              refine aw_iconst (v := 0) (pc2 := 82) hk dX7_enter_81 rfl (by decide) ?_
              refine aw_istore_n (pc2 := 83) hk dX7_enter_82 rfl (by decide) ?_
              show AW K Q _ _ 83 [_, _, _, _, _, _] _ _ _
              refine aw_I (rowU I 114 0 (fun c => bi (tkB I (oc - 1) (nc (oc - 1)) c))) (rowU_0 _ _ _).symm ?_
              exact loopB 257 0 (by omega) (by omega)
            · refine aw_bipush (v := -103) (pc2 := 80) hk dX7_enter_78 rfl (by decide) ?_
              refine aw_iret hk dX7_enter_80 (Nat.le_of_ble_eq_true rfl) (Nat.le_of_ble_eq_true rfl) (by first | exact hq2 hop1 (fun h9 => c75 h9.2) | exact hq2 hop1 (fun h9 => h9.1 c55))
        · refine aw_iload_n (pc2 := 32) hk dX7_enter_31 rfl rfl ?_
          refine aw_aload_n (pc2 := 33) hk dX7_enter_32 rfl rfl ?_
          refine aw_iload_n (pc2 := 34) hk dX7_enter_33 rfl rfl ?_
          refine aw_iload_n (pc2 := 35) hk dX7_enter_34 rfl rfl ?_
          refine aw_cV (rm2 := rmX7_mayEnter) (pc2 := 38) hk veX7_mayEnter dX7_enter_35 rfl ml_X7_209 ⟨(Nat.le_of_ble_eq_true rfl), (Nat.le_of_ble_eq_true rfl)⟩ [_, _] rfl rfl (Nat.le_of_ble_eq_true rfl) (Nat.le_of_ble_eq_true rfl) (Nat.le_of_ble_eq_true rfl) (o_X7 rfl) (m_mayEnter (by omega) ?_)
          refine aw_if_eq (tgt := 45) (pc2 := 41) hk dX7_enter_38 (by decide) rfl (fun c38 => ?_) (fun c38 => ?_)
          · refine aw_iconst (v := 0) (pc2 := 46) hk dX7_enter_45 rfl (by decide) ?_
            refine aw_iadd (pc2 := 47) hk dX7_enter_46 rfl ?_
            refine aw_top (rdN I (oc - 1) (i + 1)) (show _ + _ = sI _ i + bi _ by first | (rw [bi_tt c38]; rfl) | (rw [bi_ff c38]; rfl)) ?_
            refine aw_istore_n (pc2 := 48) hk dX7_enter_47 rfl (by decide) ?_
            show AW K Q _ _ 48 [_, _, _, _, _, _] _ _ _
            refine aw_iinc1 (pc2 := 51) hk dX7_enter_48 rfl rfl (by decide) ?_
            show AW K Q _ _ 51 [_, _, _, _, _, _] _ _ _
            refine aw_goto (tgt := 21) hk dX7_enter_51 (by decide) ?_
            exact ih (i + 1) (by omega) (by omega)
          · refine aw_iconst (v := 1) (pc2 := 42) hk dX7_enter_41 rfl (by decide) ?_
            refine aw_goto (tgt := 46) hk dX7_enter_42 (by decide) ?_
            refine aw_iadd (pc2 := 47) hk dX7_enter_46 rfl ?_
            refine aw_top (rdN I (oc - 1) (i + 1)) (show _ + _ = sI _ i + bi _ by first | (rw [bi_tt c38]; rfl) | (rw [bi_ff c38]; rfl)) ?_
            refine aw_istore_n (pc2 := 48) hk dX7_enter_47 rfl (by decide) ?_
            show AW K Q _ _ 48 [_, _, _, _, _, _] _ _ _
            refine aw_iinc1 (pc2 := 51) hk dX7_enter_48 rfl rfl (by decide) ?_
            show AW K Q _ _ 51 [_, _, _, _, _, _] _ _ _
            refine aw_goto (tgt := 21) hk dX7_enter_51 (by decide) ?_
            exact ih (i + 1) (by omega) (by omega)
    refine aw_istore_n (pc2 := 17) hk dX7_enter_16 rfl (by decide) ?_
    show AW K Q _ _ 17 [_, _, _, _, _, _] _ _ _
    refine aw_iconst (v := 0) (pc2 := 18) hk dX7_enter_17 rfl (by decide) ?_
    refine aw_istore_n (pc2 := 19) hk dX7_enter_18 rfl (by decide) ?_
    show AW K Q _ _ 19 [_, _, _, _, _, _] _ _ _
    refine aw_iconst (v := 0) (pc2 := 20) hk dX7_enter_19 rfl (by decide) ?_
    refine aw_istore_n (pc2 := 21) hk dX7_enter_20 rfl (by decide) ?_
    show AW K Q _ _ 21 [_, _, _, _, _, _] _ _ _
    exact loopA ((nc (oc - 1)) + 1) 0 (by omega) (by omega)
  · refine aw_bipush (v := -103) (pc2 := 9) hk dX7_enter_7 rfl (by decide) ?_
    refine aw_iret hk dX7_enter_9 (Nat.le_of_ble_eq_true rfl) (Nat.le_of_ble_eq_true rfl) (hq1 (by rw [bi_ff c4]; decide))
