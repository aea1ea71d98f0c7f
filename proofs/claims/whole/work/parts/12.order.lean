def anyB (g : Nat → Bool) : Nat → Bool
  | 0 => false
  | n + 1 => anyB g n || g n
def allB (g : Nat → Bool) : Nat → Bool
  | 0 => true
  | n + 1 => allB g n && g n
theorem anyB_t {g : Nat → Bool} : ∀ n, anyB g n = true ↔ ∃ j, j < n ∧ g j = true := by
  intro n
  induction n with
  | zero => simp [anyB]
  | succ n ih =>
    unfold anyB
    rw [Bool.or_eq_true, ih]
    constructor
    · rintro (⟨j, h1, h2⟩ | h)
      · exact ⟨j, by omega, h2⟩
      · exact ⟨n, by omega, h⟩
    · rintro ⟨j, h1, h2⟩
      by_cases h : j = n
      · subst h; exact Or.inr h2
      · exact Or.inl ⟨j, by omega, h2⟩
theorem allB_t {g : Nat → Bool} : ∀ n, allB g n = true ↔ ∀ j, j < n → g j = true := by
  intro n
  induction n with
  | zero => simp [allB]
  | succ n ih =>
    unfold allB
    rw [Bool.and_eq_true, ih]
    constructor
    · rintro ⟨h1, h2⟩ j hj
      by_cases h : j = n
      · subst h; exact h2
      · exact h1 j (by omega)
    · intro h
      exact ⟨fun j hj => h j (by omega), h n (by omega)⟩
theorem anyB_eq {g g' : Nat → Bool} (n : Nat) (h : ∀ i, i < n → g i = g' i) : anyB g n = anyB g' n := by
  induction n with
  | zero => rfl
  | succ n ih => unfold anyB; rw [ih (fun i hi => h i (by omega)), h n (by omega)]
theorem allB_eq {g g' : Nat → Bool} (n : Nat) (h : ∀ i, i < n → g i = g' i) : allB g n = allB g' n := by
  induction n with
  | zero => rfl
  | succ n ih => unfold allB; rw [ih (fun i hi => h i (by omega)), h n (by omega)]
/-- an order's cells: its object at a, m cases at the cells ca k -/
def ordOK (d : D2) (S : M2) (R : R2) (o a m : Nat) (ca : Nat → Nat) : Prop := kd d a = (13, o) ∧ kd d (a + 1) = (7, 12) ∧ m ≤ 12 ∧ S a 2 = nI m ∧ ∀ k, k < m → R (a + 1) k = some (ca k) ∧ kd d (ca k) = (10, 12 * o + k) ∧ kd d (ca k + 1) = (3, 4)
def dnS (x : Int32) : Bool := x == 4 || x == 3
set_option maxHeartbeats 800000 in
set_option maxRecDepth 100000 in
theorem t_ordBegin {n : Nat} {d : D2} {I : M2} {J : J2} {S : M2} {L : J2} {R : R2} {Q : QT} {a z : Nat} (ha : kd d a = (13, z)) {x y : Int32} (hq : Q none n (H5 d I J (u2 (u2 (u2 S a 0 x) a 1 y) a 2 0) L R)) : Calls yX3_begin cX3_begin 3 none rmX3_begin [.ref a, .int x, .int y] n (H5 d I J S L R) Q := by
  refine Calls.of (by decide) (Nat.le_of_ble_eq_true rfl) ?_
  intro K hk
  show AW K Q 0 0 0 [some (.ref a), some (.int x), some (.int y)] [] n (H5 d I J S L R)
  refine aw_aload_n (pc2 := 1) hk dX3_begin_0 rfl rfl ?_
  refine aw_iload_n (pc2 := 2) hk dX3_begin_1 rfl rfl ?_
  refine aw_put (pc2 := 5) hk ckX3 0 dX3_begin_2 rfl fl_X3_17 (by decide) rfl (o_X3 ha) (fun _ => rfl) (fun _ => rfl) (Nat.le_of_ble_eq_true rfl) ?_
  rw [p_X3_0 ha]
  refine aw_aload_n (pc2 := 6) hk dX3_begin_5 rfl rfl ?_
  refine aw_iload_n (pc2 := 7) hk dX3_begin_6 rfl rfl ?_
  refine aw_put (pc2 := 10) hk ckX3 1 dX3_begin_7 rfl fl_X3_21 (by decide) rfl (o_X3 ha) (fun _ => rfl) (fun _ => rfl) (Nat.le_of_ble_eq_true rfl) ?_
  rw [p_X3_1 ha]
  refine aw_aload_n (pc2 := 11) hk dX3_begin_10 rfl rfl ?_
  refine aw_iconst (v := 0) (pc2 := 12) hk dX3_begin_11 rfl (by decide) ?_
  refine aw_put (pc2 := 15) hk ckX3 2 dX3_begin_12 rfl fl_X3_24 (by decide) rfl (o_X3 ha) (fun _ => rfl) (fun _ => rfl) (Nat.le_of_ble_eq_true rfl) ?_
  rw [p_X3_2 ha]
  refine aw_vret hk dX3_begin_15 (Nat.le_of_ble_eq_true rfl) (Nat.le_of_ble_eq_true rfl) hq
set_option maxHeartbeats 800000 in
set_option maxRecDepth 100000 in
theorem t_noticeEnd {n : Nat} {d : D2} {I : M2} {J : J2} {S : M2} {L : J2} {R : R2} {Q : QT} {a z : Nat} (ha : kd d a = (13, z)) (hq : Q (some (.int (S a 0 + S a 1))) n (H5 d I J S L R)) : Calls yX3_noticeEnd cX3_noticeEnd 1 (some .int) rmX3_noticeEnd [.ref a] n (H5 d I J S L R) Q := by
  refine Calls.of (by decide) (Nat.le_of_ble_eq_true rfl) ?_
  intro K hk
  show AW K Q 0 0 0 [some (.ref a)] [] n (H5 d I J S L R)
  refine aw_aload_n (pc2 := 1) hk dX3_noticeEnd_0 rfl rfl ?_
  refine aw_get (pc2 := 4) hk ckX3 0 dX3_noticeEnd_1 rfl fl_X3_17 (by decide) (o_X3 ha) rfl ?_
  refine aw_aload_n (pc2 := 5) hk dX3_noticeEnd_4 rfl rfl ?_
  refine aw_get (pc2 := 8) hk ckX3 1 dX3_noticeEnd_5 rfl fl_X3_21 (by decide) (o_X3 ha) rfl ?_
  refine aw_iadd (pc2 := 9) hk dX3_noticeEnd_8 rfl ?_
  refine aw_iret hk dX3_noticeEnd_9 (Nat.le_of_ble_eq_true rfl) (Nat.le_of_ble_eq_true rfl) hq
set_option maxHeartbeats 800000 in
set_option maxRecDepth 100000 in
theorem t_caseAt {n : Nat} {d : D2} {I : M2} {J : J2} {S : M2} {L : J2} {R : R2} {Q : QT} {o a m : Nat} {ca : Nat → Nat} (ho : ordOK d S R o a m ca) {x : Int32} {j : Nat} (hx : x = nI j) (hj : j < m) (hq : Q (some (.ref (ca j))) n (H5 d I J S L R)) : Calls yX3_caseAt cX3_caseAt 2 (some (.object "LandTaken$Case")) rmX3_caseAt [.ref a, .int x] n (H5 d I J S L R) Q := by
  refine Calls.of (by decide) (Nat.le_of_ble_eq_true rfl) ?_
  intro K hk
  show AW K Q 0 0 0 [some (.ref a), some (.int x)] [] n (H5 d I J S L R)
  obtain ⟨ha, ha1, hm12, hm, hca⟩ := id ho
  refine aw_iload_n (pc2 := 1) hk dX3_caseAt_0 rfl rfl ?_
  refine aw_if_lt (tgt := 27) (pc2 := 4) hk dX3_caseAt_1 (by decide) rfl (fun c1 => absurd c1 (by rw [hx]; exact nI_pos (by omega))) (fun c1 => ?_)
  refine aw_iload_n (pc2 := 5) hk dX3_caseAt_4 rfl rfl ?_
  refine aw_aload_n (pc2 := 6) hk dX3_caseAt_5 rfl rfl ?_
  refine aw_get (pc2 := 9) hk ckX3 2 dX3_caseAt_6 rfl fl_X3_24 (by decide) (o_X3 ha) rfl ?_
  refine aw_icN_ge (x := j) (y := m) (tgt := 27) (pc2 := 12) hk dX3_caseAt_9 (by decide) rfl hx hm (by omega) (by omega) (fun c9 => absurd c9 (by omega)) (fun c9 => ?_)
  refine aw_iload_n (pc2 := 13) hk dX3_caseAt_12 rfl rfl ?_
  refine aw_bipush (v := 12) (pc2 := 15) hk dX3_caseAt_13 rfl (by decide) ?_
  refine aw_icN_ge (x := j) (y := 12) (tgt := 27) (pc2 := 18) hk dX3_caseAt_15 (by decide) rfl hx rfl (by omega) (by omega) (fun c15 => absurd c15 (by omega)) (fun c15 => ?_)
  refine aw_aload_n (pc2 := 19) hk dX3_caseAt_18 rfl rfl ?_
  refine aw_get (pc2 := 22) hk ckX3 3 dX3_caseAt_19 rfl fl_X3_11 (by decide) (o_X3 ha) rfl ?_
  refine aw_iload_n (pc2 := 23) hk dX3_caseAt_22 rfl rfl ?_
  refine h_aald (pc2 := 24) hk dX3_caseAt_23 rfl (Or.inr (Or.inr (Or.inr rfl))) ha1 hx (by omega) (by decide) (by rw [(hca j hj).1]) ?_
  refine aw_goto (tgt := 28) hk dX3_caseAt_24 (by decide) ?_
  refine aw_aret hk dX3_caseAt_28 (Nat.le_of_ble_eq_true rfl) (Nat.le_of_ble_eq_true rfl) hq
set_option maxHeartbeats 800000 in
set_option maxRecDepth 100000 in
theorem t_caseAtN {n : Nat} {d : D2} {I : M2} {J : J2} {S : M2} {L : J2} {R : R2} {Q : QT} {o a m : Nat} {ca : Nat → Nat} (ho : ordOK d S R o a m ca) {x : Int32} (hx : ∀ j, x = nI j → ¬ j < m) (hq : Q (some .null) n (H5 d I J S L R)) : Calls yX3_caseAt cX3_caseAt 2 (some (.object "LandTaken$Case")) rmX3_caseAt [.ref a, .int x] n (H5 d I J S L R) Q := by
  refine Calls.of (by decide) (Nat.le_of_ble_eq_true rfl) ?_
  intro K hk
  show AW K Q 0 0 0 [some (.ref a), some (.int x)] [] n (H5 d I J S L R)
  obtain ⟨ha, ha1, hm12, hm, hca⟩ := id ho
  refine aw_iload_n (pc2 := 1) hk dX3_caseAt_0 rfl rfl ?_
  refine aw_if_lt (tgt := 27) (pc2 := 4) hk dX3_caseAt_1 (by decide) rfl (fun c1 => ?_) (fun c1 => ?_)
  · refine aw_null (pc2 := 28) hk dX3_caseAt_27 rfl ?_
    refine aw_aretN hk dX3_caseAt_28 (Nat.le_of_ble_eq_true rfl) (Nat.le_of_ble_eq_true rfl) hq
  · refine aw_iload_n (pc2 := 5) hk dX3_caseAt_4 rfl rfl ?_
    refine aw_aload_n (pc2 := 6) hk dX3_caseAt_5 rfl rfl ?_
    refine aw_get (pc2 := 9) hk ckX3 2 dX3_caseAt_6 rfl fl_X3_24 (by decide) (o_X3 ha) rfl ?_
    refine aw_icmp_ge (tgt := 27) (pc2 := 12) hk dX3_caseAt_9 (by decide) rfl (fun c9 => ?_) (fun c9 => ?_)
    · refine aw_null (pc2 := 28) hk dX3_caseAt_27 rfl ?_
      refine aw_aretN hk dX3_caseAt_28 (Nat.le_of_ble_eq_true rfl) (Nat.le_of_ble_eq_true rfl) hq
    · refine aw_iload_n (pc2 := 13) hk dX3_caseAt_12 rfl rfl ?_
      refine aw_bipush (v := 12) (pc2 := 15) hk dX3_caseAt_13 rfl (by decide) ?_
      refine aw_icmp_ge (tgt := 27) (pc2 := 18) hk dX3_caseAt_15 (by decide) rfl (fun c15 => absurd c15 (by rw [i_le, l12]; rw [hm, i_le, nI_toInt (by omega)] at c9; omega)) (fun c15 => ?_)
      exfalso
      rw [i_lt, l0] at c1
      rw [hm, i_le, nI_toInt (by omega)] at c9
      exact hx x.toInt.toNat (i_eq (by omega)) (by omega)
      
set_option maxHeartbeats 800000 in
set_option maxRecDepth 100000 in
theorem t_hasReady {n : Nat} {d : D2} {I : M2} {J : J2} {S : M2} {L : J2} {R : R2} {Q : QT} {o a m : Nat} {ca : Nat → Nat} (ho : ordOK d S R o a m ca) (hq : Q (some (.int (bi (anyB (fun k => rdy (S (ca k) 2)) m)))) n (H5 d I J S L R)) : Calls yX3_hasReady cX3_hasReady 3 (some .boolean) rmX3_hasReady [.ref a] n (H5 d I J S L R) Q := by
  refine Calls.of (by decide) (Nat.le_of_ble_eq_true rfl) ?_
  intro K hk
  show AW K Q 0 0 0 [some (.ref a), none, none] [] n (H5 d I J S L R)
  obtain ⟨ha, ha1, hm12, hm, hca⟩ := id ho
  have loop : ∀ (k i : Nat), i ≤ m → m + 1 ≤ i + k → (∀ j, j < i → rdy (S (ca j) 2) = false) → AW K Q 0 0 2 [some (.ref a), some (.int (nI i)), none] [] n (H5 d I J S L R) := by
    intro k
    induction k with
    | zero => intro i  hi hn; omega
    | succ k ih =>
      intro i  hi hn hno
      refine aw_iload_n (pc2 := 3) hk dX3_hasReady_2 rfl rfl ?_
      refine aw_aload_n (pc2 := 4) hk dX3_hasReady_3 rfl rfl ?_
      refine aw_get (pc2 := 7) hk ckX3 2 dX3_hasReady_4 rfl fl_X3_24 (by decide) (o_X3 ha) rfl ?_
      refine aw_icN_ge (x := i) (y := m) (tgt := 35) (pc2 := 10) hk dX3_hasReady_7 (by decide) rfl rfl hm (by omega) (by omega) (fun c7 => ?_) (fun c7 => ?_)
      · obtain rfl : i = m := by omega
        have hff : anyB (fun k => rdy (S (ca k) 2)) i = false := by
          apply Bool.eq_false_iff.mpr
          intro hh9
          obtain ⟨j, h1, h2⟩ := (anyB_t _).mp hh9
          rw [hno j h1] at h2
          cases h2
        refine aw_iconst (v := 0) (pc2 := 36) hk dX3_hasReady_35 rfl (by decide) ?_
        refine aw_zret (by first | exact Or.inl rfl | exact Or.inr rfl) hk dX3_hasReady_36 (Nat.le_of_ble_eq_true rfl) (Nat.le_of_ble_eq_true rfl) (by rw [hff] at hq; exact hq)
      · refine aw_aload_n (pc2 := 11) hk dX3_hasReady_10 rfl rfl ?_
        refine aw_iload_n (pc2 := 12) hk dX3_hasReady_11 rfl rfl ?_
        refine aw_cV (rm2 := rmX3_caseAt) (pc2 := 15) hk veX3_caseAt dX3_hasReady_12 rfl ml_X3_32 ⟨(Nat.le_of_ble_eq_true rfl), (Nat.le_of_ble_eq_true rfl)⟩ [_] rfl rfl (Nat.le_of_ble_eq_true rfl) (Nat.le_of_ble_eq_true rfl) (Nat.le_of_ble_eq_true rfl) (o_X3 ha) (t_caseAt ho rfl (by omega) ?_)
        refine aw_astore_n (pc2 := 16) hk dX3_hasReady_15 rfl (by decide) ?_
        show AW K Q _ _ 16 [_, _, _] _ _ _
        refine aw_aload_n (pc2 := 17) hk dX3_hasReady_16 rfl rfl ?_
        refine aw_ifnull_r (pc2 := 20) hk dX3_hasReady_17 rfl ?_
        refine aw_aload_n (pc2 := 21) hk dX3_hasReady_20 rfl rfl ?_
        refine aw_cV (rm2 := rmX0_isReady) (pc2 := 24) hk veX0_isReady dX3_hasReady_21 rfl ml_X3_36 ⟨(Nat.le_of_ble_eq_true rfl), (Nat.le_of_ble_eq_true rfl)⟩ [] rfl rfl (Nat.le_of_ble_eq_true rfl) (Nat.le_of_ble_eq_true rfl) (Nat.le_of_ble_eq_true rfl) (o_X0 (hca i c7).2.1) (t_isReady (hca i c7).2.1 ?_)
        refine aw_if_eq (tgt := 29) (pc2 := 27) hk dX3_hasReady_24 (by decide) rfl (fun c24 => ?_) (fun c24 => ?_)
        · refine aw_iinc1 (pc2 := 32) hk dX3_hasReady_29 rfl rfl (by decide) ?_
          show AW K Q _ _ 32 [_, _, _] _ _ _
          refine aw_goto (tgt := 2) hk dX3_hasReady_32 (by decide) ?_
          refine aw_fg 2 ?_
          exact ih (i + 1) (by omega) (by omega) (fun j hj => by by_cases h9 : j = i; (subst h9; exact bi_ff c24); exact hno j (by omega))
        · refine aw_iconst (v := 1) (pc2 := 28) hk dX3_hasReady_27 rfl (by decide) ?_
          refine aw_zret (by first | exact Or.inl rfl | exact Or.inr rfl) hk dX3_hasReady_28 (Nat.le_of_ble_eq_true rfl) (Nat.le_of_ble_eq_true rfl) (by rw [show anyB (fun k => rdy (S (ca k) 2)) m = true from (anyB_t m).mpr ⟨i, c7, bi_tt c24⟩] at hq; exact hq)
  refine aw_iconst (v := 0) (pc2 := 1) hk dX3_hasReady_0 rfl (by decide) ?_
  refine aw_istore_n (pc2 := 2) hk dX3_hasReady_1 rfl (by decide) ?_
  show AW K Q _ _ 2 [_, _, _] _ _ _
  exact loop (m + 1) 0 (by omega) (by omega) (fun j hj => absurd hj (by omega))
set_option maxHeartbeats 800000 in
set_option maxRecDepth 100000 in
theorem t_isDone {n : Nat} {d : D2} {I : M2} {J : J2} {S : M2} {L : J2} {R : R2} {Q : QT} {o a m : Nat} {ca : Nat → Nat} (ho : ordOK d S R o a m ca) (hq : Q (some (.int (bi (allB (fun k => dnS (S (ca k) 2)) m)))) n (H5 d I J S L R)) : Calls yX3_isDone cX3_isDone 3 (some .boolean) rmX3_isDone [.ref a] n (H5 d I J S L R) Q := by
  refine Calls.of (by decide) (Nat.le_of_ble_eq_true rfl) ?_
  intro K hk
  show AW K Q 0 0 0 [some (.ref a), none, none] [] n (H5 d I J S L R)
  obtain ⟨ha, ha1, hm12, hm, hca⟩ := id ho
  have loop : ∀ (k i : Nat), i ≤ m → m + 1 ≤ i + k → (∀ j, j < i → dnS (S (ca j) 2) = true) → AW K Q 0 0 2 [some (.ref a), some (.int (nI i)), none] [] n (H5 d I J S L R) := by
    intro k
    induction k with
    | zero => intro i  hi hn; omega
    | succ k ih =>
      intro i  hi hn hyes
      refine aw_iload_n (pc2 := 3) hk dX3_isDone_2 rfl rfl ?_
      refine aw_aload_n (pc2 := 4) hk dX3_isDone_3 rfl rfl ?_
      refine aw_get (pc2 := 7) hk ckX3 2 dX3_isDone_4 rfl fl_X3_24 (by decide) (o_X3 ha) rfl ?_
      refine aw_icN_ge (x := i) (y := m) (tgt := 44) (pc2 := 10) hk dX3_isDone_7 (by decide) rfl rfl hm (by omega) (by omega) (fun c7 => ?_) (fun c7 => ?_)
      · obtain rfl : i = m := by omega
        refine aw_iconst (v := 1) (pc2 := 45) hk dX3_isDone_44 rfl (by decide) ?_
        refine aw_zret (by first | exact Or.inl rfl | exact Or.inr rfl) hk dX3_isDone_45 (Nat.le_of_ble_eq_true rfl) (Nat.le_of_ble_eq_true rfl) (by rw [(allB_t i).mpr hyes] at hq; exact hq)
      · refine aw_aload_n (pc2 := 11) hk dX3_isDone_10 rfl rfl ?_
        refine aw_iload_n (pc2 := 12) hk dX3_isDone_11 rfl rfl ?_
        refine aw_cV (rm2 := rmX3_caseAt) (pc2 := 15) hk veX3_caseAt dX3_isDone_12 rfl ml_X3_32 ⟨(Nat.le_of_ble_eq_true rfl), (Nat.le_of_ble_eq_true rfl)⟩ [_] rfl rfl (Nat.le_of_ble_eq_true rfl) (Nat.le_of_ble_eq_true rfl) (Nat.le_of_ble_eq_true rfl) (o_X3 ha) (t_caseAt ho rfl (by omega) ?_)
        refine aw_astore_n (pc2 := 16) hk dX3_isDone_15 rfl (by decide) ?_
        show AW K Q _ _ 16 [_, _, _] _ _ _
        refine aw_aload_n (pc2 := 17) hk dX3_isDone_16 rfl rfl ?_
        refine aw_ifnull_r (pc2 := 20) hk dX3_isDone_17 rfl ?_
        refine aw_aload_n (pc2 := 21) hk dX3_isDone_20 rfl rfl ?_
        refine aw_get (pc2 := 24) hk ckX0 2 dX3_isDone_21 rfl fl_X3_40 (by decide) (o_X0 (hca i c7).2.1) rfl ?_
        refine aw_iconst (v := 4) (pc2 := 25) hk dX3_isDone_24 rfl (by decide) ?_
        refine aw_icmp_eq (tgt := 38) (pc2 := 28) hk dX3_isDone_25 (by decide) rfl (fun c25 => ?_) (fun c25 => ?_)
        · refine aw_iinc1 (pc2 := 41) hk dX3_isDone_38 rfl rfl (by decide) ?_
          show AW K Q _ _ 41 [_, _, _] _ _ _
          refine aw_goto (tgt := 2) hk dX3_isDone_41 (by decide) ?_
          refine aw_fg 2 ?_
          exact ih (i + 1) (by omega) (by omega) (fun j hj => by by_cases h9 : j = i; (subst h9; simp [dnS, *]); exact hyes j (by omega))
        · refine aw_aload_n (pc2 := 29) hk dX3_isDone_28 rfl rfl ?_
          refine aw_get (pc2 := 32) hk ckX0 2 dX3_isDone_29 rfl fl_X3_40 (by decide) (o_X0 (hca i c7).2.1) rfl ?_
          refine aw_iconst (v := 3) (pc2 := 33) hk dX3_isDone_32 rfl (by decide) ?_
          refine aw_icmp_eq (tgt := 38) (pc2 := 36) hk dX3_isDone_33 (by decide) rfl (fun c33 => ?_) (fun c33 => ?_)
          · refine aw_iinc1 (pc2 := 41) hk dX3_isDone_38 rfl rfl (by decide) ?_
            show AW K Q _ _ 41 [_, _, _] _ _ _
            refine aw_goto (tgt := 2) hk dX3_isDone_41 (by decide) ?_
            refine aw_fg 2 ?_
            exact ih (i + 1) (by omega) (by omega) (fun j hj => by by_cases h9 : j = i; (subst h9; simp [dnS, *]); exact hyes j (by omega))
          · have hff : allB (fun k => dnS (S (ca k) 2)) m = false := by
              apply Bool.eq_false_iff.mpr
              intro h9
              have := (allB_t m).mp h9 i c7
              simp [dnS, c25, c33] at this
            refine aw_iconst (v := 0) (pc2 := 37) hk dX3_isDone_36 rfl (by decide) ?_
            refine aw_zret (by first | exact Or.inl rfl | exact Or.inr rfl) hk dX3_isDone_37 (Nat.le_of_ble_eq_true rfl) (Nat.le_of_ble_eq_true rfl) (by rw [hff] at hq; exact hq)
  refine aw_iconst (v := 0) (pc2 := 1) hk dX3_isDone_0 rfl (by decide) ?_
  refine aw_istore_n (pc2 := 2) hk dX3_isDone_1 rfl (by decide) ?_
  show AW K Q _ _ 2 [_, _, _] _ _ _
  exact loop (m + 1) 0 (by omega) (by omega) (fun j hj => absurd hj (by omega))
set_option maxHeartbeats 800000 in
set_option maxRecDepth 100000 in
theorem t_lossOf {n : Nat} {d : D2} {I : M2} {J : J2} {S : M2} {L : J2} {R : R2} {Q : QT} {o a m : Nat} {ca : Nat → Nat} (ho : ordOK d S R o a m ca) {f : Int32} (hq : Q (some (.long (sL (fun k => if S (ca k) 0 = f then L (ca k) 7 else 0) m))) n (H5 d I J S L R)) : Calls yX3_lossOf cX3_lossOf 6 (some .long) rmX3_lossOf [.ref a, .int f] n (H5 d I J S L R) Q := by
  refine Calls.of (by decide) (Nat.le_of_ble_eq_true rfl) ?_
  intro K hk
  show AW K Q 0 0 0 [some (.ref a), some (.int f), none, none, none, none] [] n (H5 d I J S L R)
  obtain ⟨ha, ha1, hm12, hm, hca⟩ := id ho
  have loop : ∀ (k i : Nat), i ≤ m → m + 1 ≤ i + k → AW K Q 0 0 5 [some (.ref a), some (.int f), some (.long (sL (fun k => if S (ca k) 0 = f then L (ca k) 7 else 0) i)), none, some (.int (nI i)), none] [] n (H5 d I J S L R) := by
    intro k
    induction k with
    | zero => intro i  hi hn; omega
    | succ k ih =>
      intro i  hi hn
      refine aw_iload (pc2 := 7) hk dX3_lossOf_5 rfl rfl ?_
      refine aw_aload_n (pc2 := 8) hk dX3_lossOf_7 rfl rfl ?_
      refine aw_get (pc2 := 11) hk ckX3 2 dX3_lossOf_8 rfl fl_X3_24 (by decide) (o_X3 ha) rfl ?_
      refine aw_icN_ge (x := i) (y := m) (tgt := 50) (pc2 := 14) hk dX3_lossOf_11 (by decide) rfl rfl hm (by omega) (by omega) (fun c11 => ?_) (fun c11 => ?_)
      · obtain rfl : i = m := by omega
        refine aw_lload_n (pc2 := 51) hk dX3_lossOf_50 rfl rfl ?_
        refine aw_lret hk dX3_lossOf_51 (Nat.le_of_ble_eq_true rfl) (Nat.le_of_ble_eq_true rfl) hq
      · refine aw_aload_n (pc2 := 15) hk dX3_lossOf_14 rfl rfl ?_
        refine aw_iload (pc2 := 17) hk dX3_lossOf_15 rfl rfl ?_
        refine aw_cV (rm2 := rmX3_caseAt) (pc2 := 20) hk veX3_caseAt dX3_lossOf_17 rfl ml_X3_32 ⟨(Nat.le_of_ble_eq_true rfl), (Nat.le_of_ble_eq_true rfl)⟩ [_] rfl rfl (Nat.le_of_ble_eq_true rfl) (Nat.le_of_ble_eq_true rfl) (Nat.le_of_ble_eq_true rfl) (o_X3 ha) (t_caseAt ho rfl (by omega) ?_)
        refine aw_astore (pc2 := 22) hk dX3_lossOf_20 rfl (by decide) ?_
        show AW K Q _ _ 22 [_, _, _, _, _, _] _ _ _
        refine aw_aload (pc2 := 24) hk dX3_lossOf_22 rfl rfl ?_
        refine aw_ifnull_r (pc2 := 27) hk dX3_lossOf_24 rfl ?_
        refine aw_aload (pc2 := 29) hk dX3_lossOf_27 rfl rfl ?_
        refine aw_get (pc2 := 32) hk ckX0 0 dX3_lossOf_29 rfl fl_X3_43 (by decide) (o_X0 (hca i c11).2.1) rfl ?_
        refine aw_iload_n (pc2 := 33) hk dX3_lossOf_32 rfl rfl ?_
        refine aw_icmp_ne (tgt := 44) (pc2 := 36) hk dX3_lossOf_33 (by decide) rfl (fun c33 => ?_) (fun c33 => ?_)
        · first
            | (have e9 : sL (fun k => if S (ca k) 0 = f then L (ca k) 7 else 0) i = sL (fun k => if S (ca k) 0 = f then L (ca k) 7 else 0) (i + 1) := by (show _ = _ + (if _ then _ else _)); rw [if_neg c33]; exact (Int64.add_zero _).symm
               rw [e9])
            | (have e9 : sL (fun k => if S (ca k) 0 = f then L (ca k) 7 else 0) i + L (ca i) 7 = sL (fun k => if S (ca k) 0 = f then L (ca k) 7 else 0) (i + 1) := by (show _ = _ + (if _ then _ else _)); rw [if_pos c33]
               rw [e9])
          refine aw_iinc1 (pc2 := 47) hk dX3_lossOf_44 rfl rfl (by decide) ?_
          show AW K Q _ _ 47 [_, _, _, _, _, _] _ _ _
          refine aw_goto (tgt := 5) hk dX3_lossOf_47 (by decide) ?_
          refine aw_fg 5 ?_
          exact ih (i + 1) (by omega) (by omega)
        · refine aw_lload_n (pc2 := 37) hk dX3_lossOf_36 rfl rfl ?_
          refine aw_aload (pc2 := 39) hk dX3_lossOf_37 rfl rfl ?_
          refine aw_get (pc2 := 42) hk ckX0 7 dX3_lossOf_39 rfl fl_X3_46 (by decide) (o_X0 (hca i c11).2.1) rfl ?_
          refine aw_ladd (pc2 := 43) hk dX3_lossOf_42 rfl ?_
          refine aw_lstore_n (pc2 := 44) hk dX3_lossOf_43 rfl (by decide) ?_
          show AW K Q _ _ 44 [_, _, _, _, _, _] _ _ _
          first
            | (have e9 : sL (fun k => if S (ca k) 0 = f then L (ca k) 7 else 0) i = sL (fun k => if S (ca k) 0 = f then L (ca k) 7 else 0) (i + 1) := by (show _ = _ + (if _ then _ else _)); rw [if_neg c33]; exact (Int64.add_zero _).symm
               rw [e9])
            | (have e9 : sL (fun k => if S (ca k) 0 = f then L (ca k) 7 else 0) i + L (ca i) 7 = sL (fun k => if S (ca k) 0 = f then L (ca k) 7 else 0) (i + 1) := by (show _ = _ + (if _ then _ else _)); rw [if_pos c33]
               rw [e9])
          refine aw_iinc1 (pc2 := 47) hk dX3_lossOf_44 rfl rfl (by decide) ?_
          show AW K Q _ _ 47 [_, _, _, _, _, _] _ _ _
          refine aw_goto (tgt := 5) hk dX3_lossOf_47 (by decide) ?_
          refine aw_fg 5 ?_
          exact ih (i + 1) (by omega) (by omega)
  refine aw_lconst (v := 0) (pc2 := 1) hk dX3_lossOf_0 rfl (by decide) ?_
  refine aw_lstore_n (pc2 := 2) hk dX3_lossOf_1 rfl (by decide) ?_
  show AW K Q _ _ 2 [_, _, _, _, _, _] _ _ _
  refine aw_iconst (v := 0) (pc2 := 3) hk dX3_lossOf_2 rfl (by decide) ?_
  refine aw_istore (pc2 := 5) hk dX3_lossOf_3 rfl (by decide) ?_
  show AW K Q _ _ 5 [_, _, _, _, _, _] _ _ _
  exact loop (m + 1) 0 (by omega) (by omega)
/-- the number of the largest piece, of like ones the first, by their sizes s -/
def bst (s : Nat → Int32) : Nat → Option Nat
  | 0 => none
  | k + 1 => match bst s k with
    | none => some k
    | some b => if s b < s k then some k else some b
theorem bst_lt (s : Nat → Int32) : ∀ k b, bst s k = some b → b < k := by
  intro k
  induction k with
  | zero => intro b h; cases h
  | succ k ih =>
    intro b h
    unfold bst at h
    split at h
    · cases h; omega
    · rename_i c hc
      have := ih c hc
      split at h <;> cases h <;> omega
theorem bst_eq {s s' : Nat → Int32} : ∀ k, (∀ j, j < k → s j = s' j) → bst s k = bst s' k := by
  intro k
  induction k with
  | zero => intro _; rfl
  | succ k ih =>
    intro h
    unfold bst
    rw [ih (fun j hj => h j (by omega))]
    split
    · rfl
    · rename_i b hb
      rw [h k (by omega), h b (by have := bst_lt s' k b hb; omega)]
/-- MAIN: by the house's place, else the largest -/
def mnC (pa s : Nat → Int32) (house : Int32) (k : Nat) : Int32 := if 0 ≤ house.toInt ∧ house.toInt < 256 ∧ pa house.toInt.toNat ≠ -1 then pa house.toInt.toNat else opI (bst s k)
set_option maxHeartbeats 800000 in
set_option maxRecDepth 100000 in
theorem t_chosenMain {n : Nat} {d : D2} {I : M2} {J : J2} {S : M2} {L : J2} {R : R2} {Q : QT} {np : Nat} (hk0 : S 7 0 = nI np) (hk6 : np ≤ 256) {x : Int32} (hq : Q (some (.int (mnC (I 8) (I 9) x np))) n (H5 d I J S L R)) : Calls yX5_chosenMain cX5_chosenMain 4 (some .int) rmX5_chosenMain [.ref 7, .int x] n (H5 d I J S L R) Q := by
  refine Calls.of (by decide) (Nat.le_of_ble_eq_true rfl) ?_
  intro K hk
  show AW K Q 0 0 0 [some (.ref 7), some (.int x), none, none] [] n (H5 d I J S L R)
  have hN : ¬ (0 ≤ x.toInt ∧ x.toInt < 256 ∧ I 8 x.toInt.toNat ≠ -1) → AW K Q 0 0 28 [some (.ref 7), some (.int x), none, none] [] n (H5 d I J S L R) := by
    intro hno
    have hq2 : Q (some (.int (opI (bst (I 9) np)))) n (H5 d I J S L R) := by rw [show mnC (I 8) (I 9) x np = opI (bst (I 9) np) from if_neg hno] at hq; exact hq
    have loop : ∀ (k i : Nat), i ≤ np → np + 1 ≤ i + k → AW K Q 0 0 32 [some (.ref 7), some (.int x), some (.int (opI (bst (I 9) i))), some (.int (nI i))] [] n (H5 d I J S L R) := by
      intro k
      induction k with
      | zero => intro i  hi hn; omega
      | succ k ih =>
        intro i  hi hn
        refine aw_iload_n (pc2 := 33) hk dX5_chosenMain_32 rfl rfl ?_
        refine aw_aload_n (pc2 := 34) hk dX5_chosenMain_33 rfl rfl ?_
        refine aw_get (pc2 := 37) hk ckX5 0 dX5_chosenMain_34 rfl fl_X5_28 (by decide) (o_X5 rfl) rfl ?_
        refine aw_icN_ge (x := i) (y := np) (tgt := 68) (pc2 := 40) hk dX5_chosenMain_37 (by decide) rfl rfl hk0 (by omega) (by omega) (fun c37 => ?_) (fun c37 => ?_)
        · obtain rfl : i = np := by omega
          refine aw_iload_n (pc2 := 69) hk dX5_chosenMain_68 rfl rfl ?_
          refine aw_iret hk dX5_chosenMain_69 (Nat.le_of_ble_eq_true rfl) (Nat.le_of_ble_eq_true rfl) hq2
        · refine aw_iload_n (pc2 := 41) hk dX5_chosenMain_40 rfl rfl ?_
          refine aw_iconst (v := -1) (pc2 := 42) hk dX5_chosenMain_41 rfl (by decide) ?_
          refine aw_icmp_eq (tgt := 60) (pc2 := 45) hk dX5_chosenMain_42 (by decide) rfl (fun c42 => ?_) (fun c42 => ?_)
          · refine aw_iload_n (pc2 := 61) hk dX5_chosenMain_60 rfl rfl ?_
            refine aw_istore_n (pc2 := 62) hk dX5_chosenMain_61 rfl (by decide) ?_
            show AW K Q _ _ 62 [_, _, _, _] _ _ _
            first
              | (have e9 : opI (bst (I 9) i) = opI (bst (I 9) (i + 1)) := by (conv => rhs; unfold bst); rw [hq1]; simp only []; rw [if_neg (fun h9 => by rw [i_lt] at h9; rw [i_le] at c57; omega)]
                 rw [e9])
              | (have e9 : nI i = opI (bst (I 9) (i + 1)) := by (conv => rhs; unfold bst); rw [hq1]; simp only []; rw [if_pos (by rw [i_lt]; rw [i_le] at c57; omega)]; rfl
                 refine aw_lv [some (Value.ref 7), some (Value.int x), some (Value.int (opI (bst (I 9) (i + 1)))), some (Value.int (nI i))] (by rw [← e9] <;> rfl) ?_)
              | (have e9 : nI i = opI (bst (I 9) (i + 1)) := by (conv => rhs; unfold bst); rw [opI_none c42 (fun q h => by have := bst_lt _ _ _ h; omega)]; rfl
                 refine aw_lv [some (Value.ref 7), some (Value.int x), some (Value.int (opI (bst (I 9) (i + 1)))), some (Value.int (nI i))] (by rw [← e9] <;> rfl) ?_)
            refine aw_iinc1 (pc2 := 65) hk dX5_chosenMain_62 rfl rfl (by decide) ?_
            show AW K Q _ _ 65 [_, _, _, _] _ _ _
            refine aw_goto (tgt := 32) hk dX5_chosenMain_65 (by decide) ?_
            exact ih (i + 1) (by omega) (by omega)
          · obtain ⟨q, hq1, hq2⟩ := opI_some c42
            have hq3 := bst_lt _ _ _ hq1
            refine aw_aload_n (pc2 := 46) hk dX5_chosenMain_45 rfl rfl ?_
            refine aw_get (v := .ref 9) (pc2 := 49) hk ckX5 3 dX5_chosenMain_46 rfl fl_X5_15 (by decide) (o_X5 rfl) rfl ?_
            refine aw_iload_n (pc2 := 50) hk dX5_chosenMain_49 rfl rfl ?_
            refine h_iald (pc2 := 51) hk dX5_chosenMain_50 rfl rfl rfl (by omega) (by decide) ?_
            refine aw_aload_n (pc2 := 52) hk dX5_chosenMain_51 rfl rfl ?_
            refine aw_get (v := .ref 9) (pc2 := 55) hk ckX5 3 dX5_chosenMain_52 rfl fl_X5_15 (by decide) (o_X5 rfl) rfl ?_
            refine aw_iload_n (pc2 := 56) hk dX5_chosenMain_55 rfl rfl ?_
            refine h_iald (pc2 := 57) hk dX5_chosenMain_56 rfl rfl hq2 (by omega) (by decide) ?_
            refine aw_icmp_le (tgt := 62) (pc2 := 60) hk dX5_chosenMain_57 (by decide) rfl (fun c57 => ?_) (fun c57 => ?_)
            · first
                | (have e9 : opI (bst (I 9) i) = opI (bst (I 9) (i + 1)) := by (conv => rhs; unfold bst); rw [hq1]; simp only []; rw [if_neg (fun h9 => by rw [i_lt] at h9; rw [i_le] at c57; omega)]
                   rw [e9])
                | (have e9 : nI i = opI (bst (I 9) (i + 1)) := by (conv => rhs; unfold bst); rw [hq1]; simp only []; rw [if_pos (by rw [i_lt]; rw [i_le] at c57; omega)]; rfl
                   refine aw_lv [some (Value.ref 7), some (Value.int x), some (Value.int (opI (bst (I 9) (i + 1)))), some (Value.int (nI i))] (by rw [← e9] <;> rfl) ?_)
                | (have e9 : nI i = opI (bst (I 9) (i + 1)) := by (conv => rhs; unfold bst); rw [opI_none c42 (fun q h => by have := bst_lt _ _ _ h; omega)]; rfl
                   refine aw_lv [some (Value.ref 7), some (Value.int x), some (Value.int (opI (bst (I 9) (i + 1)))), some (Value.int (nI i))] (by rw [← e9] <;> rfl) ?_)
              refine aw_iinc1 (pc2 := 65) hk dX5_chosenMain_62 rfl rfl (by decide) ?_
              show AW K Q _ _ 65 [_, _, _, _] _ _ _
              refine aw_goto (tgt := 32) hk dX5_chosenMain_65 (by decide) ?_
              exact ih (i + 1) (by omega) (by omega)
            · refine aw_iload_n (pc2 := 61) hk dX5_chosenMain_60 rfl rfl ?_
              refine aw_istore_n (pc2 := 62) hk dX5_chosenMain_61 rfl (by decide) ?_
              show AW K Q _ _ 62 [_, _, _, _] _ _ _
              first
                | (have e9 : opI (bst (I 9) i) = opI (bst (I 9) (i + 1)) := by (conv => rhs; unfold bst); rw [hq1]; simp only []; rw [if_neg (fun h9 => by rw [i_lt] at h9; rw [i_le] at c57; omega)]
                   rw [e9])
                | (have e9 : nI i = opI (bst (I 9) (i + 1)) := by (conv => rhs; unfold bst); rw [hq1]; simp only []; rw [if_pos (by rw [i_lt]; rw [i_le] at c57; omega)]; rfl
                   refine aw_lv [some (Value.ref 7), some (Value.int x), some (Value.int (opI (bst (I 9) (i + 1)))), some (Value.int (nI i))] (by rw [← e9] <;> rfl) ?_)
                | (have e9 : nI i = opI (bst (I 9) (i + 1)) := by (conv => rhs; unfold bst); rw [opI_none c42 (fun q h => by have := bst_lt _ _ _ h; omega)]; rfl
                   refine aw_lv [some (Value.ref 7), some (Value.int x), some (Value.int (opI (bst (I 9) (i + 1)))), some (Value.int (nI i))] (by rw [← e9] <;> rfl) ?_)
              refine aw_iinc1 (pc2 := 65) hk dX5_chosenMain_62 rfl rfl (by decide) ?_
              show AW K Q _ _ 65 [_, _, _, _] _ _ _
              refine aw_goto (tgt := 32) hk dX5_chosenMain_65 (by decide) ?_
              exact ih (i + 1) (by omega) (by omega)
    refine aw_iconst (v := -1) (pc2 := 29) hk dX5_chosenMain_28 rfl (by decide) ?_
    refine aw_istore_n (pc2 := 30) hk dX5_chosenMain_29 rfl (by decide) ?_
    show AW K Q _ _ 30 [_, _, _, _] _ _ _
    refine aw_iconst (v := 0) (pc2 := 31) hk dX5_chosenMain_30 rfl (by decide) ?_
    refine aw_istore_n (pc2 := 32) hk dX5_chosenMain_31 rfl (by decide) ?_
    show AW K Q _ _ 32 [_, _, _, _] _ _ _
    exact loop (np + 1) 0 (by omega) (by omega)
  refine aw_iload_n (pc2 := 1) hk dX5_chosenMain_0 rfl rfl ?_
  refine aw_if_lt (tgt := 28) (pc2 := 4) hk dX5_chosenMain_1 (by decide) rfl (fun c1 => ?_) (fun c1 => ?_)
  · first
      | exact hN (fun h9 => by simp only [i_lt, i_le, l0, l256] at *; omega)
      | exact hN (fun h9 => h9.2.2 c18)
  · refine aw_iload_n (pc2 := 5) hk dX5_chosenMain_4 rfl rfl ?_
    refine aw_sipush (v := 256) (pc2 := 8) hk dX5_chosenMain_5 rfl (by decide) ?_
    refine aw_icmp_ge (tgt := 28) (pc2 := 11) hk dX5_chosenMain_8 (by decide) rfl (fun c8 => ?_) (fun c8 => ?_)
    · first
        | exact hN (fun h9 => by simp only [i_lt, i_le, l0, l256] at *; omega)
        | exact hN (fun h9 => h9.2.2 c18)
    · have hin : 0 ≤ x.toInt ∧ x.toInt < 256 := by simp only [i_lt, i_le, l0, l256] at *; omega
      have ex : x = nI x.toInt.toNat := i_eq (by omega)
      refine aw_aload_n (pc2 := 12) hk dX5_chosenMain_11 rfl rfl ?_
      refine aw_get (v := .ref 8) (pc2 := 15) hk ckX5 2 dX5_chosenMain_12 rfl fl_X5_9 (by decide) (o_X5 rfl) rfl ?_
      refine aw_iload_n (pc2 := 16) hk dX5_chosenMain_15 rfl rfl ?_
      refine h_iald (pc2 := 17) hk dX5_chosenMain_16 rfl rfl ex (by omega) (by decide) ?_
      refine aw_iconst (v := -1) (pc2 := 18) hk dX5_chosenMain_17 rfl (by decide) ?_
      refine aw_icmp_eq (tgt := 28) (pc2 := 21) hk dX5_chosenMain_18 (by decide) rfl (fun c18 => ?_) (fun c18 => ?_)
      · first
          | exact hN (fun h9 => by simp only [i_lt, i_le, l0, l256] at *; omega)
          | exact hN (fun h9 => h9.2.2 c18)
      · refine aw_aload_n (pc2 := 22) hk dX5_chosenMain_21 rfl rfl ?_
        refine aw_get (v := .ref 8) (pc2 := 25) hk ckX5 2 dX5_chosenMain_22 rfl fl_X5_9 (by decide) (o_X5 rfl) rfl ?_
        refine aw_iload_n (pc2 := 26) hk dX5_chosenMain_25 rfl rfl ?_
        refine h_iald (pc2 := 27) hk dX5_chosenMain_26 rfl rfl ex (by omega) (by decide) ?_
        refine aw_iret hk dX5_chosenMain_27 (Nat.le_of_ble_eq_true rfl) (Nat.le_of_ble_eq_true rfl) (by rw [show mnC (I 8) (I 9) x np = I 8 x.toInt.toNat from if_pos ⟨hin.1, hin.2, c18⟩] at hq; exact hq)
set_option maxHeartbeats 800000 in
set_option maxRecDepth 100000 in
theorem t_hasWay {n : Nat} {d : D2} {I : M2} {J : J2} {S : M2} {L : J2} {R : R2} {Q : QT} {np : Nat} (hk0 : S 7 0 = nI np) (hk6 : np ≤ 256) {x : Int32} {j : Nat} (hx : x = nI j) (hj : j < np) (hq : Q (some (.int (bi (I 11 j != 0)))) n (H5 d I J S L R)) : Calls yX5_hasWay cX5_hasWay 2 (some .boolean) rmX5_hasWay [.ref 7, .int x] n (H5 d I J S L R) Q := by
  refine Calls.of (by decide) (Nat.le_of_ble_eq_true rfl) ?_
  intro K hk
  show AW K Q 0 0 0 [some (.ref 7), some (.int x)] [] n (H5 d I J S L R)
  refine aw_iload_n (pc2 := 1) hk dX5_hasWay_0 rfl rfl ?_
  refine aw_if_lt (tgt := 25) (pc2 := 4) hk dX5_hasWay_1 (by decide) rfl (fun c1 => absurd c1 (by rw [hx]; exact nI_pos (by omega))) (fun c1 => ?_)
  refine aw_iload_n (pc2 := 5) hk dX5_hasWay_4 rfl rfl ?_
  refine aw_aload_n (pc2 := 6) hk dX5_hasWay_5 rfl rfl ?_
  refine aw_get (pc2 := 9) hk ckX5 0 dX5_hasWay_6 rfl fl_X5_28 (by decide) (o_X5 rfl) rfl ?_
  refine aw_icN_ge (x := j) (y := np) (tgt := 25) (pc2 := 12) hk dX5_hasWay_9 (by decide) rfl hx hk0 (by omega) (by omega) (fun c9 => absurd c9 (by omega)) (fun c9 => ?_)
  refine aw_aload_n (pc2 := 13) hk dX5_hasWay_12 rfl rfl ?_
  refine aw_get (v := .ref 11) (pc2 := 16) hk ckX5 5 dX5_hasWay_13 rfl fl_X5_21 (by decide) (o_X5 rfl) rfl ?_
  refine aw_iload_n (pc2 := 17) hk dX5_hasWay_16 rfl rfl ?_
  refine h_zald (pc2 := 18) hk dX5_hasWay_17 rfl rfl hx (by omega) (by decide) ?_
  refine aw_if_eq (tgt := 25) (pc2 := 21) hk dX5_hasWay_18 (by decide) rfl (fun c18 => ?_) (fun c18 => ?_)
  · refine aw_iconst (v := 0) (pc2 := 26) hk dX5_hasWay_25 rfl (by decide) ?_
    refine aw_zret (by first | exact Or.inl rfl | exact Or.inr rfl) hk dX5_hasWay_26 (Nat.le_of_ble_eq_true rfl) (Nat.le_of_ble_eq_true rfl) (by simpa [bi, c18] using hq)
  · refine aw_iconst (v := 1) (pc2 := 22) hk dX5_hasWay_21 rfl (by decide) ?_
    refine aw_goto (tgt := 26) hk dX5_hasWay_22 (by decide) ?_
    refine aw_zret (by first | exact Or.inl rfl | exact Or.inr rfl) hk dX5_hasWay_26 (Nat.le_of_ble_eq_true rfl) (Nat.le_of_ble_eq_true rfl) (by simpa [bi, c18] using hq)
set_option maxHeartbeats 800000 in
set_option maxRecDepth 100000 in
theorem t_hasWayN {n : Nat} {d : D2} {I : M2} {J : J2} {S : M2} {L : J2} {R : R2} {Q : QT} (hq : Q (some (.int 0)) n (H5 d I J S L R)) : Calls yX5_hasWay cX5_hasWay 2 (some .boolean) rmX5_hasWay [.ref 7, .int (-1)] n (H5 d I J S L R) Q := by
  refine Calls.of (by decide) (Nat.le_of_ble_eq_true rfl) ?_
  intro K hk
  show AW K Q 0 0 0 [some (.ref 7), some (.int (-1))] [] n (H5 d I J S L R)
  refine aw_iload_n (pc2 := 1) hk dX5_hasWay_0 rfl rfl ?_
  refine aw_if_lt (tgt := 25) (pc2 := 4) hk dX5_hasWay_1 (by decide) rfl (fun c1 => ?_) (fun c1 => absurd (by decide) c1)
  refine aw_iconst (v := 0) (pc2 := 26) hk dX5_hasWay_25 rfl (by decide) ?_
  refine aw_zret (by first | exact Or.inl rfl | exact Or.inr rfl) hk dX5_hasWay_26 (Nat.le_of_ble_eq_true rfl) (Nat.le_of_ble_eq_true rfl) hq
set_option maxHeartbeats 800000 in
set_option maxRecDepth 100000 in
theorem t_worth {n : Nat} {d : D2} {I : M2} {J : J2} {S : M2} {L : J2} {R : R2} {Q : QT} {x : Int32} {j a : Nat} (hx : x = nI j) (hj : j < 256) (ha : kd d a = (1, 4)) (hso : ∀ p, p < 256 → ∃ k, k < 4 ∧ I 3 p = nI k) (hq : Q (some (.long (sL (fun c => if I 8 c = nI j then (prI I a c).toInt64 else 0) 256))) n (H5 d I J S L R)) : Calls yX5_worth cX5_worth 7 (some .long) rmX5_worth [.ref 7, .int x, .ref 1, .ref a] n (H5 d I J S L R) Q := by
  refine Calls.of (by decide) (Nat.le_of_ble_eq_true rfl) ?_
  intro K hk
  show AW K Q 0 0 0 [some (.ref 7), some (.int x), some (.ref 1), some (.ref a), none, none, none] [] n (H5 d I J S L R)
  subst hx
  have loop : ∀ (k i : Nat), i ≤ 256 → 256 + 1 ≤ i + k → AW K Q 0 0 13 [some (.ref 7), some (.int (nI j)), some (.ref 1), some (.ref a), some (.long (sL (fun c => if I 8 c = nI j then (prI I a c).toInt64 else 0) i)), none, some (.int (nI i))] [] n (H5 d I J S L R) := by
    intro k
    induction k with
    | zero => intro i  hi hn; omega
    | succ k ih =>
      intro i  hi hn
      refine aw_iload (pc2 := 15) hk dX5_worth_13 rfl rfl ?_
      refine aw_sipush (v := 256) (pc2 := 18) hk dX5_worth_15 rfl (by decide) ?_
      refine aw_icN_ge (y := 256) (tgt := 51) (pc2 := 21) hk dX5_worth_18 (by decide) rfl rfl rfl (by omega) (by omega) (fun c18 => ?_) (fun c18 => ?_)
      · obtain rfl : i = 256 := by omega
        refine aw_lload (pc2 := 53) hk dX5_worth_51 rfl rfl ?_
        refine aw_lret hk dX5_worth_53 (Nat.le_of_ble_eq_true rfl) (Nat.le_of_ble_eq_true rfl) hq
      · refine aw_aload_n (pc2 := 22) hk dX5_worth_21 rfl rfl ?_
        refine aw_get (v := .ref 8) (pc2 := 25) hk ckX5 2 dX5_worth_22 rfl fl_X5_9 (by decide) (o_X5 rfl) rfl ?_
        refine aw_iload (pc2 := 27) hk dX5_worth_25 rfl rfl ?_
        refine h_iald (pc2 := 28) hk dX5_worth_27 rfl rfl rfl (by omega) (by decide) ?_
        refine aw_iload_n (pc2 := 29) hk dX5_worth_28 rfl rfl ?_
        refine aw_icmp_ne (tgt := 45) (pc2 := 32) hk dX5_worth_29 (by decide) rfl (fun c29 => ?_) (fun c29 => ?_)
        · first
            | (have e9 : sL (fun c => if I 8 c = nI j then (prI I a c).toInt64 else 0) i = sL (fun c => if I 8 c = nI j then (prI I a c).toInt64 else 0) (i + 1) := by (show _ = _ + (if _ then _ else _)); rw [if_neg c29]; exact (Int64.add_zero _).symm
               rw [e9])
            | (have e9 : sL (fun c => if I 8 c = nI j then (prI I a c).toInt64 else 0) i + (prI I a i).toInt64 = sL (fun c => if I 8 c = nI j then (prI I a c).toInt64 else 0) (i + 1) := by (show _ = _ + (if _ then _ else _)); rw [if_pos c29]
               rw [e9])
          refine aw_iinc1 (pc2 := 48) hk dX5_worth_45 rfl rfl (by decide) ?_
          show AW K Q _ _ 48 [_, _, _, _, _, _, _] _ _ _
          refine aw_goto (tgt := 13) hk dX5_worth_48 (by decide) ?_
          exact ih (i + 1) (by omega) (by omega)
        · refine aw_lload (pc2 := 34) hk dX5_worth_32 rfl rfl ?_
          refine aw_aload_n (pc2 := 35) hk dX5_worth_34 rfl rfl ?_
          refine aw_iload (pc2 := 37) hk dX5_worth_35 rfl rfl ?_
          refine aw_aload_n (pc2 := 38) hk dX5_worth_37 rfl rfl ?_
          refine aw_cV (rm2 := rmX2_priceAt) (pc2 := 41) hk veX2_priceAt dX5_worth_38 rfl ml_X5_57 ⟨(Nat.le_of_ble_eq_true rfl), (Nat.le_of_ble_eq_true rfl)⟩ [_, _] rfl rfl (Nat.le_of_ble_eq_true rfl) (Nat.le_of_ble_eq_true rfl) (Nat.le_of_ble_eq_true rfl) (o_X2 rfl) (t_priceAt (by omega) ha (hso i (by omega)) ?_)
          refine aw_i2l (pc2 := 42) hk dX5_worth_41 rfl ?_
          refine aw_ladd (pc2 := 43) hk dX5_worth_42 rfl ?_
          refine aw_lstore (pc2 := 45) hk dX5_worth_43 rfl (by decide) ?_
          show AW K Q _ _ 45 [_, _, _, _, _, _, _] _ _ _
          first
            | (have e9 : sL (fun c => if I 8 c = nI j then (prI I a c).toInt64 else 0) i = sL (fun c => if I 8 c = nI j then (prI I a c).toInt64 else 0) (i + 1) := by (show _ = _ + (if _ then _ else _)); rw [if_neg c29]; exact (Int64.add_zero _).symm
               rw [e9])
            | (have e9 : sL (fun c => if I 8 c = nI j then (prI I a c).toInt64 else 0) i + (prI I a i).toInt64 = sL (fun c => if I 8 c = nI j then (prI I a c).toInt64 else 0) (i + 1) := by (show _ = _ + (if _ then _ else _)); rw [if_pos c29]
               rw [e9])
          refine aw_iinc1 (pc2 := 48) hk dX5_worth_45 rfl rfl (by decide) ?_
          show AW K Q _ _ 48 [_, _, _, _, _, _, _] _ _ _
          refine aw_goto (tgt := 13) hk dX5_worth_48 (by decide) ?_
          exact ih (i + 1) (by omega) (by omega)
  refine aw_iload_n (pc2 := 1) hk dX5_worth_0 rfl rfl ?_
  refine aw_iconst (v := -1) (pc2 := 2) hk dX5_worth_1 rfl (by decide) ?_
  refine aw_icmp_ne (tgt := 7) (pc2 := 5) hk dX5_worth_2 (by decide) rfl (fun c2 => ?_) (fun c2 => absurd c2 (nI_m1 (by omega)))
  refine aw_lconst (v := 0) (pc2 := 8) hk dX5_worth_7 rfl (by decide) ?_
  refine aw_lstore (pc2 := 10) hk dX5_worth_8 rfl (by decide) ?_
  show AW K Q _ _ 10 [_, _, _, _, _, _, _] _ _ _
  refine aw_iconst (v := 0) (pc2 := 11) hk dX5_worth_10 rfl (by decide) ?_
  refine aw_istore (pc2 := 13) hk dX5_worth_11 rfl (by decide) ?_
  show AW K Q _ _ 13 [_, _, _, _, _, _, _] _ _ _
  exact loop 257 0 (by omega) (by omega)
set_option maxHeartbeats 800000 in
set_option maxRecDepth 100000 in
theorem t_worthN {n : Nat} {d : D2} {I : M2} {J : J2} {S : M2} {L : J2} {R : R2} {Q : QT} {a : Nat} (hq : Q (some (.long 0)) n (H5 d I J S L R)) : Calls yX5_worth cX5_worth 7 (some .long) rmX5_worth [.ref 7, .int (-1), .ref 1, .ref a] n (H5 d I J S L R) Q := by
  refine Calls.of (by decide) (Nat.le_of_ble_eq_true rfl) ?_
  intro K hk
  show AW K Q 0 0 0 [some (.ref 7), some (.int (-1)), some (.ref 1), some (.ref a), none, none, none] [] n (H5 d I J S L R)
  refine aw_iload_n (pc2 := 1) hk dX5_worth_0 rfl rfl ?_
  refine aw_iconst (v := -1) (pc2 := 2) hk dX5_worth_1 rfl (by decide) ?_
  refine aw_icmp_ne (tgt := 7) (pc2 := 5) hk dX5_worth_2 (by decide) rfl (fun c2 => absurd rfl c2) (fun c2 => ?_)
  refine aw_lconst (v := 0) (pc2 := 6) hk dX5_worth_5 rfl (by decide) ?_
  refine aw_lret hk dX5_worth_6 (Nat.le_of_ble_eq_true rfl) (Nat.le_of_ble_eq_true rfl) hq
def ptl (I S : M2) (i k : Nat) : Int32 := match k with
  | 0 => I 9 i
  | 1 => I 10 i
  | 2 => if nI i = S 7 1 then 1 else 0
  | _ => bi (I 11 i != 0)
set_option maxHeartbeats 800000 in
set_option maxRecDepth 100000 in
theorem t_ptell {n : Nat} {d : D2} {I : M2} {J : J2} {S : M2} {L : J2} {R : R2} {Q : QT} {i k : Nat} (hi : i < 256) (hk4 : k < 4) (hq : Q (some (.int (ptl I S i k))) n (H5 d I J S L R)) : Calls yX5_tell cX5_tell 3 (some .int) rmX5_tell [.ref 7, .int (nI i), .int (nI k)] n (H5 d I J S L R) Q := by
  refine Calls.of (by decide) (Nat.le_of_ble_eq_true rfl) ?_
  intro K hk
  show AW K Q 0 0 0 [some (.ref 7), some (.int (nI i)), some (.int (nI k))] [] n (H5 d I J S L R)
  refine aw_iload_n (pc2 := 1) hk dX5_tell_0 rfl rfl ?_
  match k, hk4 with
  | 0, _ =>
    refine aw_tableIn (tgt := 28) (off := 27) hk dX5_tell_1 (by decide) (by decide) (by decide) (by decide) ?_
    refine aw_aload_n (pc2 := 29) hk dX5_tell_28 rfl rfl ?_
    refine aw_get (v := .ref 9) (pc2 := 32) hk ckX5 3 dX5_tell_29 rfl fl_X5_15 (by decide) (o_X5 rfl) rfl ?_
    refine aw_iload_n (pc2 := 33) hk dX5_tell_32 rfl rfl ?_
    refine h_iald (pc2 := 34) hk dX5_tell_33 rfl rfl rfl hi (by decide) ?_
    refine aw_iret hk dX5_tell_34 (Nat.le_of_ble_eq_true rfl) (Nat.le_of_ble_eq_true rfl) hq
  | 1, _ =>
    refine aw_tableIn (tgt := 35) (off := 34) hk dX5_tell_1 (by decide) (by decide) (by decide) (by decide) ?_
    refine aw_aload_n (pc2 := 36) hk dX5_tell_35 rfl rfl ?_
    refine aw_get (v := .ref 10) (pc2 := 39) hk ckX5 4 dX5_tell_36 rfl fl_X5_18 (by decide) (o_X5 rfl) rfl ?_
    refine aw_iload_n (pc2 := 40) hk dX5_tell_39 rfl rfl ?_
    refine h_iald (pc2 := 41) hk dX5_tell_40 rfl rfl rfl hi (by decide) ?_
    refine aw_iret hk dX5_tell_41 (Nat.le_of_ble_eq_true rfl) (Nat.le_of_ble_eq_true rfl) hq
  | 2, _ =>
    refine aw_tableIn (tgt := 42) (off := 41) hk dX5_tell_1 (by decide) (by decide) (by decide) (by decide) ?_
    refine aw_iload_n (pc2 := 43) hk dX5_tell_42 rfl rfl ?_
    refine aw_aload_n (pc2 := 44) hk dX5_tell_43 rfl rfl ?_
    refine aw_get (pc2 := 47) hk ckX5 1 dX5_tell_44 rfl fl_X5_46 (by decide) (o_X5 rfl) rfl ?_
    refine aw_icmp_ne (tgt := 54) (pc2 := 50) hk dX5_tell_47 (by decide) rfl (fun c47 => ?_) (fun c47 => ?_)
    · refine aw_iconst (v := 0) (pc2 := 55) hk dX5_tell_54 rfl (by decide) ?_
      refine aw_iret hk dX5_tell_55 (Nat.le_of_ble_eq_true rfl) (Nat.le_of_ble_eq_true rfl) (by first | (rw [show ptl I S i 2 = 1 from if_pos c47] at hq; exact hq) | (rw [show ptl I S i 2 = 0 from if_neg c47] at hq; exact hq))
    · refine aw_iconst (v := 1) (pc2 := 51) hk dX5_tell_50 rfl (by decide) ?_
      refine aw_goto (tgt := 55) hk dX5_tell_51 (by decide) ?_
      refine aw_iret hk dX5_tell_55 (Nat.le_of_ble_eq_true rfl) (Nat.le_of_ble_eq_true rfl) (by first | (rw [show ptl I S i 2 = 1 from if_pos c47] at hq; exact hq) | (rw [show ptl I S i 2 = 0 from if_neg c47] at hq; exact hq))
  | 3, _ =>
    refine aw_tableOut (tgt := 56) hk dX5_tell_1 (by decide) (by decide) ?_
    refine aw_aload_n (pc2 := 57) hk dX5_tell_56 rfl rfl ?_
    refine aw_get (v := .ref 11) (pc2 := 60) hk ckX5 5 dX5_tell_57 rfl fl_X5_21 (by decide) (o_X5 rfl) rfl ?_
    refine aw_iload_n (pc2 := 61) hk dX5_tell_60 rfl rfl ?_
    refine h_zald (pc2 := 62) hk dX5_tell_61 rfl rfl rfl hi (by decide) ?_
    refine aw_if_eq (tgt := 69) (pc2 := 65) hk dX5_tell_62 (by decide) rfl (fun c62 => ?_) (fun c62 => ?_)
    · refine aw_iconst (v := 0) (pc2 := 70) hk dX5_tell_69 rfl (by decide) ?_
      refine aw_iret hk dX5_tell_70 (Nat.le_of_ble_eq_true rfl) (Nat.le_of_ble_eq_true rfl) (by rw [show ptl I S i 3 = bi (I 11 i != 0) from rfl] at hq; simpa [bi, c62] using hq)
    · refine aw_iconst (v := 1) (pc2 := 66) hk dX5_tell_65 rfl (by decide) ?_
      refine aw_goto (tgt := 70) hk dX5_tell_66 (by decide) ?_
      refine aw_iret hk dX5_tell_70 (Nat.le_of_ble_eq_true rfl) (Nat.le_of_ble_eq_true rfl) (by rw [show ptl I S i 3 = bi (I 11 i != 0) from rfl] at hq; simpa [bi, c62] using hq)
