def MB (S : M2) (w g fc oc uc td : Nat) (md op : Bool) : Prop := S 78 0 = nI w ∧ S 78 1 = nI g ∧ 1 ≤ w ∧ w ≤ 16 ∧ 1 ≤ g ∧ g ≤ 16 ∧ S 78 7 = nI fc ∧ fc ≤ 12 ∧ S 78 19 = nI oc ∧ oc ≤ 60 ∧ S 78 18 = nI uc ∧ uc ≤ 512 ∧ S 78 16 = nI td ∧ td ≤ 10000 ∧ S 78 17 = bi md ∧ S 78 20 = bi op
theorem i64 (x : Int32) : x.toInt64.toInt = x.toInt := Int32.toInt_toInt64 x
theorem k0 : (0 : Int64).toInt = 0 := rfl
theorem k1 : (1 : Int64).toInt = 1 := rfl
theorem k2 : (2 : Int64).toInt = 2 := rfl
theorem k3 : (3 : Int64).toInt = 3 := rfl
theorem k4 : (4 : Int64).toInt = 4 := rfl
theorem k13 : (13 : Int64).toInt = 13 := rfl
theorem k16 : (16 : Int64).toInt = 16 := rfl
theorem k1000 : (1000 : Int64).toInt = 1000 := rfl
theorem k10000 : (10000 : Int64).toInt = 10000 := rfl
theorem k100000 : (100000 : Int64).toInt = 100000 := rfl
theorem k1000000 : (1000000 : Int64).toInt = 1000000 := rfl
theorem nI_m (a : Nat) (h : a < 2 ^ 30) : (nI a - 1).toInt = (a : Int) - 1 := pk_sub_toInt (a := a) (b := 1) h (by decide)
theorem mulN (k a b : Nat) : nI k * nI a + nI b = nI (k * a + b) := by rw [pk_mul, nI_add]
def lft (I : M2) (c : Nat) (f : Int32) : Bool := I 79 c == f && I 83 c == 0
def ovX : Nat → Int32 := fun s => match s with
  | 0 => -1
  | 1 => 1
  | _ => 0
def ovY : Nat → Int32 := fun s => match s with
  | 2 => -1
  | 3 => 1
  | _ => 0
def nbM (w g c s : Nat) : Option Nat := plc w g (nI (c % 16) + ovX s) (nI (c / 16) + ovY s)
theorem plc_val {w g : Nat} {x y : Int32} {c : Nat} (h : plc w g x y = some c) : nI 16 * y + x = nI c := by
  unfold plc at h
  split at h
  · rename_i hc
    cases h
    have ex : x = nI x.toInt.toNat := i_eq (by omega)
    have ey : y = nI y.toInt.toNat := i_eq (by omega)
    conv => lhs; rw [ex, ey]
    exact mulN _ _ _
  · cases h
theorem isS {o : Option Nat} (h : ¬ bi o.isSome = 0) : ∃ c, o = some c := Option.isSome_iff_exists.mp (bi_tt h)
theorem isN {o : Option Nat} (h : bi o.isSome = 0) : o = none := by
  have := bi_ff h
  cases o with
  | none => rfl
  | some c => cases this
/-- the place of the latest day told up to a day -/
def bO (f : Nat → Int32) (day : Int32) : Nat → Option Nat
  | 0 => none
  | k + 1 => if f k ≤ day ∧ (match bO f day k with | none => true | some b => decide (f b < f k)) = true then some k else bO f day k
theorem bO_t {f : Nat → Int32} {day : Int32} {k : Nat} (h1 : f k ≤ day) (h2 : ∀ b, bO f day k = some b → f b < f k) : bO f day (k + 1) = some k := by
  refine if_pos ⟨h1, ?_⟩
  cases h : bO f day k with
  | none => rfl
  | some b => simp [h2 b h]
theorem bO_f1 {f : Nat → Int32} {day : Int32} {k : Nat} (h1 : ¬ f k ≤ day) : bO f day (k + 1) = bO f day k := if_neg (fun h => h1 h.1)
theorem bO_f2 {f : Nat → Int32} {day : Int32} {k b : Nat} (h : bO f day k = some b) (h1 : ¬ f b < f k) : bO f day (k + 1) = bO f day k := if_neg (fun h9 => by have h8 := h9.2; rw [h] at h8; exact h1 (by simpa using h8))
theorem bO_lt (f : Nat → Int32) (day : Int32) : ∀ k b, bO f day k = some b → b < k := by
  intro k
  induction k with
  | zero => intro b h; cases h
  | succ k ih =>
    intro b h
    by_cases h1 : f k ≤ day
    · by_cases h2 : ∀ c, bO f day k = some c → f c < f k
      · rw [bO_t h1 h2] at h; cases h; omega
      · obtain ⟨c, hc⟩ := Classical.not_forall.mp h2
        obtain ⟨hc1, hc2⟩ := Classical.not_imp.mp hc
        rw [bO_f2 hc1 hc2] at h; have := ih b h; omega
    · rw [bO_f1 h1] at h; have := ih b h; omega
theorem bO_on {f v : Nat → Int32} {day : Int32} : ∀ k, (∀ j, j < k → 0 ≤ (f j).toInt) → onS f v day k = match bO f day k with | none => (-1, 0) | some b => (f b, v b) := by
  intro k
  induction k with
  | zero => intro _; rfl
  | succ k ih =>
    intro h
    have e := ih (fun j hj => h j (by omega))
    unfold onS bO
    rw [e]
    cases hb : bO f day k with
    | none =>
      have : (-1 : Int32) < f k := by rw [i_lt, lm1]; have := h k (by omega); omega
      by_cases hc : f k ≤ day
      · rw [if_pos ⟨hc, this⟩, if_pos ⟨hc, rfl⟩]
      · rw [if_neg (fun h9 => hc h9.1), if_neg (fun h9 => hc h9.1)]
    | some b =>
      by_cases hc : f k ≤ day ∧ f b < f k
      · rw [if_pos hc, if_pos ⟨hc.1, by simp [hc.2]⟩]
      · rw [if_neg hc, if_neg (fun h9 => hc ⟨h9.1, by simpa using h9.2⟩)]
set_option maxHeartbeats 800000 in
set_option maxRecDepth 100000 in
theorem m_in {n : Nat} {h : HP} {Q : QT} {v a b : Int64} (hq : Q (some (.int (bi (decide (a ≤ v ∧ v ≤ b))))) n h) : Calls yX7_in cX7_in 6 (some .boolean) rmX7_in [.long v, .long a, .long b] n (h) Q := by
  refine Calls.of (by decide) (Nat.le_of_ble_eq_true rfl) ?_
  intro K hk
  show AW K Q 0 0 0 [some (.long v), none, some (.long a), none, some (.long b), none] [] n (h)
  refine aw_lload_n (pc2 := 1) hk dX7_in_0 rfl rfl ?_
  refine aw_lload_n (pc2 := 2) hk dX7_in_1 rfl rfl ?_
  refine aw_lcmp (pc2 := 3) hk dX7_in_2 rfl ?_
  refine aw_if_lt (tgt := 17) (pc2 := 6) hk dX7_in_3 (by decide) rfl (fun c3 => ?_) (fun c3 => ?_)
  · refine aw_iconst (v := 0) (pc2 := 18) hk dX7_in_17 rfl (by decide) ?_
    refine aw_zret (by first | exact Or.inl rfl | exact Or.inr rfl) hk dX7_in_18 (Nat.le_of_ble_eq_true rfl) (Nat.le_of_ble_eq_true rfl) (by first | (rw [(bi_d _).1 (by simp only [lg_cmp_lt, lg_cmp_gt, j_lt, j_le] at *; omega)] at hq; exact hq) | (rw [(bi_d _).2 (by simp only [lg_cmp_lt, lg_cmp_gt, j_lt, j_le] at *; omega)] at hq; exact hq))
  · refine aw_lload_n (pc2 := 7) hk dX7_in_6 rfl rfl ?_
    refine aw_lload (pc2 := 9) hk dX7_in_7 rfl rfl ?_
    refine aw_lcmp (pc2 := 10) hk dX7_in_9 rfl ?_
    refine aw_if_gt (tgt := 17) (pc2 := 13) hk dX7_in_10 (by decide) rfl (fun c10 => ?_) (fun c10 => ?_)
    · refine aw_iconst (v := 0) (pc2 := 18) hk dX7_in_17 rfl (by decide) ?_
      refine aw_zret (by first | exact Or.inl rfl | exact Or.inr rfl) hk dX7_in_18 (Nat.le_of_ble_eq_true rfl) (Nat.le_of_ble_eq_true rfl) (by first | (rw [(bi_d _).1 (by simp only [lg_cmp_lt, lg_cmp_gt, j_lt, j_le] at *; omega)] at hq; exact hq) | (rw [(bi_d _).2 (by simp only [lg_cmp_lt, lg_cmp_gt, j_lt, j_le] at *; omega)] at hq; exact hq))
    · refine aw_iconst (v := 1) (pc2 := 14) hk dX7_in_13 rfl (by decide) ?_
      refine aw_goto (tgt := 18) hk dX7_in_14 (by decide) ?_
      refine aw_zret (by first | exact Or.inl rfl | exact Or.inr rfl) hk dX7_in_18 (Nat.le_of_ble_eq_true rfl) (Nat.le_of_ble_eq_true rfl) (by first | (rw [(bi_d _).1 (by simp only [lg_cmp_lt, lg_cmp_gt, j_lt, j_le] at *; omega)] at hq; exact hq) | (rw [(bi_d _).2 (by simp only [lg_cmp_lt, lg_cmp_gt, j_lt, j_le] at *; omega)] at hq; exact hq))
set_option maxHeartbeats 800000 in
set_option maxRecDepth 100000 in
theorem m_isCell {n : Nat} {d : D2} {I : M2} {J : J2} {S : M2} {L : J2} {R : R2} {Q : QT} {w g fc oc uc td : Nat} {md op : Bool} (hB : MB S w g fc oc uc td md op) {x y : Int32} (hq : Q (some (.int (bi (plc w g x y).isSome))) n (H5 d I J S L R)) : Calls yX7_isCell cX7_isCell 3 (some .boolean) rmX7_isCell [.ref 78, .int x, .int y] n (H5 d I J S L R) Q := by
  refine Calls.of (by decide) (Nat.le_of_ble_eq_true rfl) ?_
  intro K hk
  show AW K Q 0 0 0 [some (.ref 78), some (.int x), some (.int y)] [] n (H5 d I J S L R)
  obtain ⟨hw, hg, hw1, hw6, hg1, hg6, hfc, hfc2, hoc, hoc6, huc, huc5, htd, htd4, hmd, hop⟩ := id hB
  refine aw_iload_n (pc2 := 1) hk dX7_isCell_0 rfl rfl ?_
  refine aw_i2l (pc2 := 2) hk dX7_isCell_1 rfl ?_
  refine aw_lconst (v := 0) (pc2 := 3) hk dX7_isCell_2 rfl (by decide) ?_
  refine aw_aload_n (pc2 := 4) hk dX7_isCell_3 rfl rfl ?_
  refine aw_get (pc2 := 7) hk ckX7 0 dX7_isCell_4 rfl fl_X7_7 (by decide) (o_X7 rfl) rfl ?_
  refine aw_iconst (v := 1) (pc2 := 8) hk dX7_isCell_7 rfl (by decide) ?_
  refine aw_isub (pc2 := 9) hk dX7_isCell_8 rfl ?_
  refine aw_i2l (pc2 := 10) hk dX7_isCell_9 rfl ?_
  refine aw_cS (rm2 := rmX7_in) (pc2 := 13) hk seX7_in dX7_isCell_10 rfl ml_X7_133 ⟨(Nat.le_of_ble_eq_true rfl), (Nat.le_of_ble_eq_true rfl)⟩ [_, _, _] rfl rfl (Nat.le_of_ble_eq_true rfl) (Nat.le_of_ble_eq_true rfl) (Nat.le_of_ble_eq_true rfl) (m_in ?_)
  refine aw_if_eq (tgt := 36) (pc2 := 16) hk dX7_isCell_13 (by decide) rfl (fun c13 => ?_) (fun c13 => ?_)
  · have hno : plc w g x y = none := by
      unfold plc
      refine if_neg (fun h9 => ?_)
      first
        | exact bi_no c29 (by simp only [i_lt, i_le, j_le, i64, k0, k1, k2, k3, k4, k13, k16, k1000, k10000, k100000, k1000000, hw, hg, hfc, hoc, nI_m w (by omega), nI_m g (by omega), nI_m fc (by omega), nI_m oc (by omega)] at *; omega)
        | exact bi_no c13 (by simp only [i_lt, i_le, j_le, i64, k0, k1, k2, k3, k4, k13, k16, k1000, k10000, k100000, k1000000, hw, hg, hfc, hoc, nI_m w (by omega), nI_m g (by omega), nI_m fc (by omega), nI_m oc (by omega)] at *; omega)
    rw [hno] at hq
    refine aw_iconst (v := 0) (pc2 := 37) hk dX7_isCell_36 rfl (by decide) ?_
    refine aw_zret (by first | exact Or.inl rfl | exact Or.inr rfl) hk dX7_isCell_37 (Nat.le_of_ble_eq_true rfl) (Nat.le_of_ble_eq_true rfl) hq
  · have h1 := bi_ya c13
    refine aw_iload_n (pc2 := 17) hk dX7_isCell_16 rfl rfl ?_
    refine aw_i2l (pc2 := 18) hk dX7_isCell_17 rfl ?_
    refine aw_lconst (v := 0) (pc2 := 19) hk dX7_isCell_18 rfl (by decide) ?_
    refine aw_aload_n (pc2 := 20) hk dX7_isCell_19 rfl rfl ?_
    refine aw_get (pc2 := 23) hk ckX7 1 dX7_isCell_20 rfl fl_X7_13 (by decide) (o_X7 rfl) rfl ?_
    refine aw_iconst (v := 1) (pc2 := 24) hk dX7_isCell_23 rfl (by decide) ?_
    refine aw_isub (pc2 := 25) hk dX7_isCell_24 rfl ?_
    refine aw_i2l (pc2 := 26) hk dX7_isCell_25 rfl ?_
    refine aw_cS (rm2 := rmX7_in) (pc2 := 29) hk seX7_in dX7_isCell_26 rfl ml_X7_133 ⟨(Nat.le_of_ble_eq_true rfl), (Nat.le_of_ble_eq_true rfl)⟩ [_, _, _] rfl rfl (Nat.le_of_ble_eq_true rfl) (Nat.le_of_ble_eq_true rfl) (Nat.le_of_ble_eq_true rfl) (m_in ?_)
    refine aw_if_eq (tgt := 36) (pc2 := 32) hk dX7_isCell_29 (by decide) rfl (fun c29 => ?_) (fun c29 => ?_)
    · have hno : plc w g x y = none := by
        unfold plc
        refine if_neg (fun h9 => ?_)
        first
          | exact bi_no c29 (by simp only [i_lt, i_le, j_le, i64, k0, k1, k2, k3, k4, k13, k16, k1000, k10000, k100000, k1000000, hw, hg, hfc, hoc, nI_m w (by omega), nI_m g (by omega), nI_m fc (by omega), nI_m oc (by omega)] at *; omega)
          | exact bi_no c13 (by simp only [i_lt, i_le, j_le, i64, k0, k1, k2, k3, k4, k13, k16, k1000, k10000, k100000, k1000000, hw, hg, hfc, hoc, nI_m w (by omega), nI_m g (by omega), nI_m fc (by omega), nI_m oc (by omega)] at *; omega)
      rw [hno] at hq
      refine aw_iconst (v := 0) (pc2 := 37) hk dX7_isCell_36 rfl (by decide) ?_
      refine aw_zret (by first | exact Or.inl rfl | exact Or.inr rfl) hk dX7_isCell_37 (Nat.le_of_ble_eq_true rfl) (Nat.le_of_ble_eq_true rfl) hq
    · have h2 := bi_ya c29
      have hyes : plc w g x y = some (16 * y.toInt.toNat + x.toInt.toNat) := by
        unfold plc
        exact if_pos (by simp only [i_lt, i_le, j_le, i64, k0, k1, k2, k3, k4, k13, k16, k1000, k10000, k100000, k1000000, hw, hg, hfc, hoc, nI_m w (by omega), nI_m g (by omega), nI_m fc (by omega), nI_m oc (by omega)] at *; omega)
      rw [hyes] at hq
      refine aw_iconst (v := 1) (pc2 := 33) hk dX7_isCell_32 rfl (by decide) ?_
      refine aw_goto (tgt := 37) hk dX7_isCell_33 (by decide) ?_
      refine aw_zret (by first | exact Or.inl rfl | exact Or.inr rfl) hk dX7_isCell_37 (Nat.le_of_ble_eq_true rfl) (Nat.le_of_ble_eq_true rfl) hq
set_option maxHeartbeats 800000 in
set_option maxRecDepth 100000 in
theorem m_isField {n : Nat} {d : D2} {I : M2} {J : J2} {S : M2} {L : J2} {R : R2} {Q : QT} {w g fc oc uc td : Nat} {md op : Bool} (hB : MB S w g fc oc uc td md op) {f : Int32} (hq : Q (some (.int (bi (decide (0 ≤ f.toInt ∧ f.toInt < fc))))) n (H5 d I J S L R)) : Calls yX7_isField cX7_isField 2 (some .boolean) rmX7_isField [.ref 78, .int f] n (H5 d I J S L R) Q := by
  refine Calls.of (by decide) (Nat.le_of_ble_eq_true rfl) ?_
  intro K hk
  show AW K Q 0 0 0 [some (.ref 78), some (.int f)] [] n (H5 d I J S L R)
  obtain ⟨hw, hg, hw1, hw6, hg1, hg6, hfc, hfc2, hoc, hoc6, huc, huc5, htd, htd4, hmd, hop⟩ := id hB
  refine aw_iload_n (pc2 := 1) hk dX7_isField_0 rfl rfl ?_
  refine aw_i2l (pc2 := 2) hk dX7_isField_1 rfl ?_
  refine aw_lconst (v := 0) (pc2 := 3) hk dX7_isField_2 rfl (by decide) ?_
  refine aw_aload_n (pc2 := 4) hk dX7_isField_3 rfl rfl ?_
  refine aw_get (pc2 := 7) hk ckX7 7 dX7_isField_4 rfl fl_X7_130 (by decide) (o_X7 rfl) rfl ?_
  refine aw_iconst (v := 1) (pc2 := 8) hk dX7_isField_7 rfl (by decide) ?_
  refine aw_isub (pc2 := 9) hk dX7_isField_8 rfl ?_
  refine aw_i2l (pc2 := 10) hk dX7_isField_9 rfl ?_
  refine aw_cS (rm2 := rmX7_in) (pc2 := 13) hk seX7_in dX7_isField_10 rfl ml_X7_133 ⟨(Nat.le_of_ble_eq_true rfl), (Nat.le_of_ble_eq_true rfl)⟩ [_, _, _] rfl rfl (Nat.le_of_ble_eq_true rfl) (Nat.le_of_ble_eq_true rfl) (Nat.le_of_ble_eq_true rfl) (m_in ?_)
  refine aw_top (bi (decide (0 ≤ f.toInt ∧ f.toInt < fc))) (by congr 1; apply decide_eq_decide.mpr; simp only [i_lt, i_le, j_le, i64, k0, k1, k2, k3, k4, k13, k16, k1000, k10000, k100000, k1000000, hw, hg, hfc, hoc, nI_m w (by omega), nI_m g (by omega), nI_m fc (by omega), nI_m oc (by omega)] at *; omega) ?_
  refine aw_zret (bi_01 _) hk dX7_isField_13 (Nat.le_of_ble_eq_true rfl) (Nat.le_of_ble_eq_true rfl) hq
set_option maxHeartbeats 800000 in
set_option maxRecDepth 100000 in
theorem m_fresh {n : Nat} {d : D2} {I : M2} {J : J2} {S : M2} {L : J2} {R : R2} {Q : QT} (hq : Q none n (H5 d (rw5 I 79 256 (fun b => if b = 79 then -1 else 0)) J (u2 S 78 7 0) L R)) : Calls yX7_fresh cX7_fresh 2 none rmX7_fresh [.ref 78] n (H5 d I J S L R) Q := by
  refine Calls.of (by decide) (Nat.le_of_ble_eq_true rfl) ?_
  intro K hk
  show AW K Q 0 0 0 [some (.ref 78), none] [] n (H5 d I J S L R)
  have loop : ∀ (k i : Nat), i ≤ 256 → 256 + 1 ≤ i + k → AW K Q 0 0 2 [some (.ref 78), some (.int (nI i))] [] n (H5 d (rw5 I 79 i (fun b => if b = 79 then -1 else 0)) J S L R) := by
    intro k
    induction k with
    | zero => intro i  hi hn; omega
    | succ k ih =>
      intro i  hi hn
      refine aw_iload_n (pc2 := 3) hk dX7_fresh_2 rfl rfl ?_
      refine aw_sipush (v := 256) (pc2 := 6) hk dX7_fresh_3 rfl (by decide) ?_
      refine aw_icN_ge (y := 256) (tgt := 50) (pc2 := 9) hk dX7_fresh_6 (by decide) rfl rfl rfl (by omega) (by omega) (fun c6 => ?_) (fun c6 => ?_)
      · obtain rfl : i = 256 := by omega
        refine aw_aload_n (pc2 := 51) hk dX7_fresh_50 rfl rfl ?_
        refine aw_iconst (v := 0) (pc2 := 52) hk dX7_fresh_51 rfl (by decide) ?_
        refine aw_put (pc2 := 55) hk ckX7 7 dX7_fresh_52 rfl fl_X7_130 (by decide) rfl (o_X7 rfl) (fun _ => rfl) (fun _ => rfl) (Nat.le_of_ble_eq_true rfl) ?_
        rw [p_X7_7 rfl]
        refine aw_vret hk dX7_fresh_55 (Nat.le_of_ble_eq_true rfl) (Nat.le_of_ble_eq_true rfl) hq
      · refine aw_aload_n (pc2 := 10) hk dX7_fresh_9 rfl rfl ?_
        refine aw_get (pc2 := 13) hk ckX7 2 dX7_fresh_10 rfl fl_X7_16 (by decide) (o_X7 rfl) rfl ?_
        refine aw_iload_n (pc2 := 14) hk dX7_fresh_13 rfl rfl ?_
        refine aw_iconst (v := -1) (pc2 := 15) hk dX7_fresh_14 rfl (by decide) ?_
        refine h_iast (pc2 := 16) hk dX7_fresh_15 rfl rfl rfl (by omega) (by decide) ?_
        refine aw_aload_n (pc2 := 17) hk dX7_fresh_16 rfl rfl ?_
        refine aw_get (pc2 := 20) hk ckX7 3 dX7_fresh_17 rfl fl_X7_20 (by decide) (o_X7 rfl) rfl ?_
        refine aw_iload_n (pc2 := 21) hk dX7_fresh_20 rfl rfl ?_
        refine aw_iconst (v := 0) (pc2 := 22) hk dX7_fresh_21 rfl (by decide) ?_
        refine h_iast (pc2 := 23) hk dX7_fresh_22 rfl rfl rfl (by omega) (by decide) ?_
        refine aw_aload_n (pc2 := 24) hk dX7_fresh_23 rfl rfl ?_
        refine aw_get (pc2 := 27) hk ckX7 4 dX7_fresh_24 rfl fl_X7_23 (by decide) (o_X7 rfl) rfl ?_
        refine aw_iload_n (pc2 := 28) hk dX7_fresh_27 rfl rfl ?_
        refine aw_iconst (v := 0) (pc2 := 29) hk dX7_fresh_28 rfl (by decide) ?_
        refine h_zast (pc2 := 30) hk dX7_fresh_29 rfl rfl rfl (by omega) (by decide) (by first | exact Or.inl rfl | exact Or.inr rfl) ?_
        refine aw_aload_n (pc2 := 31) hk dX7_fresh_30 rfl rfl ?_
        refine aw_get (pc2 := 34) hk ckX7 5 dX7_fresh_31 rfl fl_X7_27 (by decide) (o_X7 rfl) rfl ?_
        refine aw_iload_n (pc2 := 35) hk dX7_fresh_34 rfl rfl ?_
        refine aw_iconst (v := 0) (pc2 := 36) hk dX7_fresh_35 rfl (by decide) ?_
        refine h_zast (pc2 := 37) hk dX7_fresh_36 rfl rfl rfl (by omega) (by decide) (by first | exact Or.inl rfl | exact Or.inr rfl) ?_
        refine aw_aload_n (pc2 := 38) hk dX7_fresh_37 rfl rfl ?_
        refine aw_get (pc2 := 41) hk ckX7 6 dX7_fresh_38 rfl fl_X7_30 (by decide) (o_X7 rfl) rfl ?_
        refine aw_iload_n (pc2 := 42) hk dX7_fresh_41 rfl rfl ?_
        refine aw_iconst (v := 0) (pc2 := 43) hk dX7_fresh_42 rfl (by decide) ?_
        refine h_iast (pc2 := 44) hk dX7_fresh_43 rfl rfl rfl (by omega) (by decide) ?_
        refine aw_I (rw5 I 79 (i + 1) (fun b => if b = 79 then -1 else 0)) (rw5_st I 79 i _ rfl rfl rfl rfl rfl rfl rfl rfl rfl) ?_
        refine aw_iinc1 (pc2 := 47) hk dX7_fresh_44 rfl rfl (by decide) ?_
        show AW K Q _ _ 47 [_, _] _ _ _
        refine aw_goto (tgt := 2) hk dX7_fresh_47 (by decide) ?_
        exact ih (i + 1) (by omega) (by omega)
  refine aw_iconst (v := 0) (pc2 := 1) hk dX7_fresh_0 rfl (by decide) ?_
  refine aw_istore_n (pc2 := 2) hk dX7_fresh_1 rfl (by decide) ?_
  show AW K Q _ _ 2 [_, _] _ _ _
  refine aw_I (rw5 I 79 0 (fun b => if b = 79 then -1 else 0)) (rw5_0 _ _ _).symm ?_
  exact loop 257 0 (by omega) (by omega)
set_option maxHeartbeats 800000 in
set_option maxRecDepth 100000 in
theorem m_map {n : Nat} {d : D2} {I : M2} {J : J2} {S : M2} {L : J2} {R : R2} {Q : QT} {w g fc oc uc td : Nat} {md op : Bool} (hB : MB S w g fc oc uc td md op) {x y : Int32} (hq1 : ¬ (rng x 1 16 ∧ rng y 1 16) → Q (some (.int (-102))) n (H5 d I J S L R)) (hq2 : (rng x 1 16 ∧ rng y 1 16) → md = true → Q (some (.int (-103))) n (H5 d I J S L R)) (hq3 : (rng x 1 16 ∧ rng y 1 16) → md = false → Q (some (.int (x * y))) n (H5 d (rw5 I 79 256 (fun b => if b = 79 then -1 else 0)) J (u2 (u2 (u2 S 78 0 x) 78 1 y) 78 7 0) L R)) : Calls yX7_map cX7_map 3 (some .int) rmX7_map [.ref 78, .int x, .int y] n (H5 d I J S L R) Q := by
  refine Calls.of (by decide) (Nat.le_of_ble_eq_true rfl) ?_
  intro K hk
  show AW K Q 0 0 0 [some (.ref 78), some (.int x), some (.int y)] [] n (H5 d I J S L R)
  obtain ⟨hw, hg, hw1, hw6, hg1, hg6, hfc, hfc2, hoc, hoc6, huc, huc5, htd, htd4, hmd, hop⟩ := id hB
  refine aw_iload_n (pc2 := 1) hk dX7_map_0 rfl rfl ?_
  refine aw_i2l (pc2 := 2) hk dX7_map_1 rfl ?_
  refine aw_lconst (v := 1) (pc2 := 3) hk dX7_map_2 rfl (by decide) ?_
  refine aw_ldc2 (pc2 := 6) hk dX7_map_3 rfl kl_X7_137 ?_
  refine aw_cS (rm2 := rmX7_in) (pc2 := 9) hk seX7_in dX7_map_6 rfl ml_X7_133 ⟨(Nat.le_of_ble_eq_true rfl), (Nat.le_of_ble_eq_true rfl)⟩ [_, _, _] rfl rfl (Nat.le_of_ble_eq_true rfl) (Nat.le_of_ble_eq_true rfl) (Nat.le_of_ble_eq_true rfl) (m_in ?_)
  refine aw_if_eq (tgt := 24) (pc2 := 12) hk dX7_map_9 (by decide) rfl (fun c9 => ?_) (fun c9 => ?_)
  · refine aw_bipush (v := -102) (pc2 := 26) hk dX7_map_24 rfl (by decide) ?_
    refine aw_iret hk dX7_map_26 (Nat.le_of_ble_eq_true rfl) (Nat.le_of_ble_eq_true rfl) (hq1 (fun h9 => by unfold rng at h9; first | exact bi_no c9 (by simp only [i_lt, i_le, j_le, i64, k0, k1, k2, k3, k4, k13, k16, k1000, k10000, k100000, k1000000, hw, hg, hfc, hoc, nI_m w (by omega), nI_m g (by omega), nI_m fc (by omega), nI_m oc (by omega)] at *; omega) | exact bi_no c21 (by simp only [i_lt, i_le, j_le, i64, k0, k1, k2, k3, k4, k13, k16, k1000, k10000, k100000, k1000000, hw, hg, hfc, hoc, nI_m w (by omega), nI_m g (by omega), nI_m fc (by omega), nI_m oc (by omega)] at *; omega)))
  · refine aw_iload_n (pc2 := 13) hk dX7_map_12 rfl rfl ?_
    refine aw_i2l (pc2 := 14) hk dX7_map_13 rfl ?_
    refine aw_lconst (v := 1) (pc2 := 15) hk dX7_map_14 rfl (by decide) ?_
    refine aw_ldc2 (pc2 := 18) hk dX7_map_15 rfl kl_X7_137 ?_
    refine aw_cS (rm2 := rmX7_in) (pc2 := 21) hk seX7_in dX7_map_18 rfl ml_X7_133 ⟨(Nat.le_of_ble_eq_true rfl), (Nat.le_of_ble_eq_true rfl)⟩ [_, _, _] rfl rfl (Nat.le_of_ble_eq_true rfl) (Nat.le_of_ble_eq_true rfl) (Nat.le_of_ble_eq_true rfl) (m_in ?_)
    refine aw_if_ne (tgt := 27) (pc2 := 24) hk dX7_map_21 (by decide) rfl (fun c21 => ?_) (fun c21 => ?_)
    · have h1 := bi_ya c9
      have h2 := bi_ya c21
      have hin : rng x 1 16 ∧ rng y 1 16 := by unfold rng; simp only [i_lt, i_le, j_le, i64, k0, k1, k2, k3, k4, k13, k16, k1000, k10000, k100000, k1000000, hw, hg, hfc, hoc, nI_m w (by omega), nI_m g (by omega), nI_m fc (by omega), nI_m oc (by omega)] at *; omega
      refine aw_aload_n (pc2 := 28) hk dX7_map_27 rfl rfl ?_
      refine aw_get (pc2 := 31) hk ckX7 17 dX7_map_28 rfl fl_X7_139 (by decide) (o_X7 rfl) rfl ?_
      rw [hmd]
      refine aw_if_eq (tgt := 37) (pc2 := 34) hk dX7_map_31 (by decide) rfl (fun c31 => ?_) (fun c31 => ?_)
      · refine aw_aload_n (pc2 := 38) hk dX7_map_37 rfl rfl ?_
        refine aw_iload_n (pc2 := 39) hk dX7_map_38 rfl rfl ?_
        refine aw_put (pc2 := 42) hk ckX7 0 dX7_map_39 rfl fl_X7_7 (by decide) rfl (o_X7 rfl) (fun _ => rfl) (fun _ => rfl) (Nat.le_of_ble_eq_true rfl) ?_
        rw [p_X7_0 rfl]
        refine aw_aload_n (pc2 := 43) hk dX7_map_42 rfl rfl ?_
        refine aw_iload_n (pc2 := 44) hk dX7_map_43 rfl rfl ?_
        refine aw_put (pc2 := 47) hk ckX7 1 dX7_map_44 rfl fl_X7_13 (by decide) rfl (o_X7 rfl) (fun _ => rfl) (fun _ => rfl) (Nat.le_of_ble_eq_true rfl) ?_
        rw [p_X7_1 rfl]
        refine aw_aload_n (pc2 := 48) hk dX7_map_47 rfl rfl ?_
        refine aw_cV (rm2 := rmX7_fresh) (pc2 := 51) hk veX7_fresh dX7_map_48 rfl ml_X7_127 ⟨(Nat.le_of_ble_eq_true rfl), (Nat.le_of_ble_eq_true rfl)⟩ [] rfl rfl (Nat.le_of_ble_eq_true rfl) (Nat.le_of_ble_eq_true rfl) (Nat.le_of_ble_eq_true rfl) (o_X7 rfl) (m_fresh ?_)
        refine aw_iload_n (pc2 := 52) hk dX7_map_51 rfl rfl ?_
        refine aw_iload_n (pc2 := 53) hk dX7_map_52 rfl rfl ?_
        refine aw_imul (pc2 := 54) hk dX7_map_53 rfl ?_
        refine aw_iret hk dX7_map_54 (Nat.le_of_ble_eq_true rfl) (Nat.le_of_ble_eq_true rfl) (hq3 hin (bi_ff c31))
      · refine aw_bipush (v := -103) (pc2 := 36) hk dX7_map_34 rfl (by decide) ?_
        refine aw_iret hk dX7_map_36 (Nat.le_of_ble_eq_true rfl) (Nat.le_of_ble_eq_true rfl) (hq2 hin (bi_tt c31))
    · refine aw_bipush (v := -102) (pc2 := 26) hk dX7_map_24 rfl (by decide) ?_
      refine aw_iret hk dX7_map_26 (Nat.le_of_ble_eq_true rfl) (Nat.le_of_ble_eq_true rfl) (hq1 (fun h9 => by unfold rng at h9; first | exact bi_no c9 (by simp only [i_lt, i_le, j_le, i64, k0, k1, k2, k3, k4, k13, k16, k1000, k10000, k100000, k1000000, hw, hg, hfc, hoc, nI_m w (by omega), nI_m g (by omega), nI_m fc (by omega), nI_m oc (by omega)] at *; omega) | exact bi_no c21 (by simp only [i_lt, i_le, j_le, i64, k0, k1, k2, k3, k4, k13, k16, k1000, k10000, k100000, k1000000, hw, hg, hfc, hoc, nI_m w (by omega), nI_m g (by omega), nI_m fc (by omega), nI_m oc (by omega)] at *; omega)))
set_option maxHeartbeats 800000 in
set_option maxRecDepth 100000 in
theorem m_field {n : Nat} {d : D2} {I : M2} {J : J2} {S : M2} {L : J2} {R : R2} {Q : QT} {w g fc oc uc td : Nat} {md op : Bool} (hB : MB S w g fc oc uc td md op) (hq1 : md = true → Q (some (.int (-103))) n (H5 d I J S L R)) (hq2 : md = false → fc = 12 → Q (some (.int (-104))) n (H5 d I J S L R)) (hq3 : md = false → fc < 12 → Q (some (.int (nI fc))) n (H5 d (u2 (u2 I 84 fc (-1)) 85 fc 0) J (u2 S 78 7 (nI (fc + 1))) L R)) : Calls yX7_field cX7_field 1 (some .int) rmX7_field [.ref 78] n (H5 d I J S L R) Q := by
  refine Calls.of (by decide) (Nat.le_of_ble_eq_true rfl) ?_
  intro K hk
  show AW K Q 0 0 0 [some (.ref 78)] [] n (H5 d I J S L R)
  obtain ⟨hw, hg, hw1, hw6, hg1, hg6, hfc, hfc2, hoc, hoc6, huc, huc5, htd, htd4, hmd, hop⟩ := id hB
  refine aw_aload_n (pc2 := 1) hk dX7_field_0 rfl rfl ?_
  refine aw_get (pc2 := 4) hk ckX7 17 dX7_field_1 rfl fl_X7_139 (by decide) (o_X7 rfl) rfl ?_
  rw [hmd]
  refine aw_if_eq (tgt := 10) (pc2 := 7) hk dX7_field_4 (by decide) rfl (fun c4 => ?_) (fun c4 => ?_)
  · refine aw_aload_n (pc2 := 11) hk dX7_field_10 rfl rfl ?_
    refine aw_get (pc2 := 14) hk ckX7 7 dX7_field_11 rfl fl_X7_130 (by decide) (o_X7 rfl) rfl ?_
    refine aw_bipush (v := 12) (pc2 := 16) hk dX7_field_14 rfl (by decide) ?_
    refine aw_icN_ne (x := fc) (y := 12) (tgt := 22) (pc2 := 19) hk dX7_field_16 (by decide) rfl hfc rfl (by omega) (by omega) (fun c16 => ?_) (fun c16 => ?_)
    · refine aw_aload_n (pc2 := 23) hk dX7_field_22 rfl rfl ?_
      refine aw_get (pc2 := 26) hk ckX7 8 dX7_field_23 rfl fl_X7_33 (by decide) (o_X7 rfl) rfl ?_
      refine aw_aload_n (pc2 := 27) hk dX7_field_26 rfl rfl ?_
      refine aw_get (pc2 := 30) hk ckX7 7 dX7_field_27 rfl fl_X7_130 (by decide) (o_X7 rfl) rfl ?_
      refine aw_iconst (v := -1) (pc2 := 31) hk dX7_field_30 rfl (by decide) ?_
      refine h_iast (pc2 := 32) hk dX7_field_31 rfl rfl hfc (by omega) (by decide) ?_
      refine aw_aload_n (pc2 := 33) hk dX7_field_32 rfl rfl ?_
      refine aw_get (pc2 := 36) hk ckX7 9 dX7_field_33 rfl fl_X7_36 (by decide) (o_X7 rfl) rfl ?_
      refine aw_aload_n (pc2 := 37) hk dX7_field_36 rfl rfl ?_
      refine aw_get (pc2 := 40) hk ckX7 7 dX7_field_37 rfl fl_X7_130 (by decide) (o_X7 rfl) rfl ?_
      refine aw_iconst (v := 0) (pc2 := 41) hk dX7_field_40 rfl (by decide) ?_
      refine h_iast (pc2 := 42) hk dX7_field_41 rfl rfl hfc (by omega) (by decide) ?_
      refine aw_aload_n (pc2 := 43) hk dX7_field_42 rfl rfl ?_
      refine aw_dup_r (pc2 := 44) hk dX7_field_43 rfl ?_
      refine aw_get (pc2 := 47) hk ckX7 7 dX7_field_44 rfl fl_X7_130 (by decide) (o_X7 rfl) rfl ?_
      refine aw_iconst (v := 1) (pc2 := 48) hk dX7_field_47 rfl (by decide) ?_
      refine aw_iadd (pc2 := 49) hk dX7_field_48 rfl ?_
      refine aw_top (nI (fc + 1)) (by rw [hfc]; exact nI_1 fc) ?_
      refine aw_put (pc2 := 52) hk ckX7 7 dX7_field_49 rfl fl_X7_130 (by decide) rfl (o_X7 rfl) (fun _ => rfl) (fun _ => rfl) (Nat.le_of_ble_eq_true rfl) ?_
      rw [p_X7_7 rfl]
      refine aw_aload_n (pc2 := 53) hk dX7_field_52 rfl rfl ?_
      refine aw_get (pc2 := 56) hk ckX7 7 dX7_field_53 rfl fl_X7_130 (by decide) (o_X7 rfl) rfl ?_
      refine aw_iconst (v := 1) (pc2 := 57) hk dX7_field_56 rfl (by decide) ?_
      refine aw_isub (pc2 := 58) hk dX7_field_57 rfl ?_
      refine aw_top (nI fc) (by rw [u2_s]; exact nI_pred fc) ?_
      refine aw_iret hk dX7_field_58 (Nat.le_of_ble_eq_true rfl) (Nat.le_of_ble_eq_true rfl) (hq3 (bi_ff c4) (by omega))
    · refine aw_bipush (v := -104) (pc2 := 21) hk dX7_field_19 rfl (by decide) ?_
      refine aw_iret hk dX7_field_21 (Nat.le_of_ble_eq_true rfl) (Nat.le_of_ble_eq_true rfl) (hq2 (bi_ff c4) c16)
  · refine aw_bipush (v := -103) (pc2 := 9) hk dX7_field_7 rfl (by decide) ?_
    refine aw_iret hk dX7_field_9 (Nat.le_of_ble_eq_true rfl) (Nat.le_of_ble_eq_true rfl) (hq1 (bi_tt c4))
set_option maxHeartbeats 800000 in
set_option maxRecDepth 100000 in
theorem m_clearHouse {n : Nat} {d : D2} {I : M2} {J : J2} {S : M2} {L : J2} {R : R2} {Q : QT} {w g fc oc uc td : Nat} {md op : Bool} (hB : MB S w g fc oc uc td md op) {c : Int32} (hq : Q none n (H5 d (rowU I 84 fc (fun f => if I 84 f = c then -1 else I 84 f)) J S L R)) : Calls yX7_clearHouse cX7_clearHouse 3 none rmX7_clearHouse [.ref 78, .int c] n (H5 d I J S L R) Q := by
  refine Calls.of (by decide) (Nat.le_of_ble_eq_true rfl) ?_
  intro K hk
  show AW K Q 0 0 0 [some (.ref 78), some (.int c), none] [] n (H5 d I J S L R)
  obtain ⟨hw, hg, hw1, hw6, hg1, hg6, hfc, hfc2, hoc, hoc6, huc, huc5, htd, htd4, hmd, hop⟩ := id hB
  have loop : ∀ (k i : Nat), i ≤ fc → fc + 1 ≤ i + k → AW K Q 0 0 2 [some (.ref 78), some (.int c), some (.int (nI i))] [] n (H5 d (rowU I 84 i (fun f => if I 84 f = c then -1 else I 84 f)) J S L R) := by
    intro k
    induction k with
    | zero => intro i  hi hn; omega
    | succ k ih =>
      intro i  hi hn
      refine aw_iload_n (pc2 := 3) hk dX7_clearHouse_2 rfl rfl ?_
      refine aw_aload_n (pc2 := 4) hk dX7_clearHouse_3 rfl rfl ?_
      refine aw_get (pc2 := 7) hk ckX7 7 dX7_clearHouse_4 rfl fl_X7_130 (by decide) (o_X7 rfl) rfl ?_
      refine aw_icN_ge (x := i) (y := fc) (tgt := 42) (pc2 := 10) hk dX7_clearHouse_7 (by decide) rfl rfl hfc (by omega) (by omega) (fun c7 => ?_) (fun c7 => ?_)
      · obtain rfl : i = fc := by omega
        refine aw_vret hk dX7_clearHouse_42 (Nat.le_of_ble_eq_true rfl) (Nat.le_of_ble_eq_true rfl) hq
      · refine aw_aload_n (pc2 := 11) hk dX7_clearHouse_10 rfl rfl ?_
        refine aw_get (pc2 := 14) hk ckX7 8 dX7_clearHouse_11 rfl fl_X7_33 (by decide) (o_X7 rfl) rfl ?_
        refine aw_iload_n (pc2 := 15) hk dX7_clearHouse_14 rfl rfl ?_
        refine aw_aload_n (pc2 := 16) hk dX7_clearHouse_15 rfl rfl ?_
        refine aw_get (pc2 := 19) hk ckX7 8 dX7_clearHouse_16 rfl fl_X7_33 (by decide) (o_X7 rfl) rfl ?_
        refine aw_iload_n (pc2 := 20) hk dX7_clearHouse_19 rfl rfl ?_
        refine h_iald (pc2 := 21) hk dX7_clearHouse_20 rfl rfl rfl (by omega) (by decide) ?_
        refine aw_iload_n (pc2 := 22) hk dX7_clearHouse_21 rfl rfl ?_
        have e9 : rowU I 84 i (fun f => if I 84 f = c then -1 else I 84 f) 84 i = I 84 i := rowU_out I 84 _ (by omega)
        refine aw_icmp_ne (tgt := 29) (pc2 := 25) hk dX7_clearHouse_22 (by decide) rfl (fun c22 => ?_) (fun c22 => ?_)
        · refine aw_aload_n (pc2 := 30) hk dX7_clearHouse_29 rfl rfl ?_
          refine aw_get (pc2 := 33) hk ckX7 8 dX7_clearHouse_30 rfl fl_X7_33 (by decide) (o_X7 rfl) rfl ?_
          refine aw_iload_n (pc2 := 34) hk dX7_clearHouse_33 rfl rfl ?_
          refine h_iald (pc2 := 35) hk dX7_clearHouse_34 rfl rfl rfl (by omega) (by decide) ?_
          refine h_iast (pc2 := 36) hk dX7_clearHouse_35 rfl rfl rfl (by omega) (by decide) ?_
          rw [e9] at c22
          refine aw_I (rowU I 84 (i + 1) (fun f => if I 84 f = c then -1 else I 84 f)) (rowU_st I 84 i _ (by first | exact (if_pos c22).symm | exact e9.trans (if_neg c22).symm)) ?_
          refine aw_iinc1 (pc2 := 39) hk dX7_clearHouse_36 rfl rfl (by decide) ?_
          show AW K Q _ _ 39 [_, _, _] _ _ _
          refine aw_goto (tgt := 2) hk dX7_clearHouse_39 (by decide) ?_
          exact ih (i + 1) (by omega) (by omega)
        · refine aw_iconst (v := -1) (pc2 := 26) hk dX7_clearHouse_25 rfl (by decide) ?_
          refine aw_goto (tgt := 35) hk dX7_clearHouse_26 (by decide) ?_
          refine h_iast (pc2 := 36) hk dX7_clearHouse_35 rfl rfl rfl (by omega) (by decide) ?_
          rw [e9] at c22
          refine aw_I (rowU I 84 (i + 1) (fun f => if I 84 f = c then -1 else I 84 f)) (rowU_st I 84 i _ (by first | exact (if_pos c22).symm | exact e9.trans (if_neg c22).symm)) ?_
          refine aw_iinc1 (pc2 := 39) hk dX7_clearHouse_36 rfl rfl (by decide) ?_
          show AW K Q _ _ 39 [_, _, _] _ _ _
          refine aw_goto (tgt := 2) hk dX7_clearHouse_39 (by decide) ?_
          exact ih (i + 1) (by omega) (by omega)
  refine aw_iconst (v := 0) (pc2 := 1) hk dX7_clearHouse_0 rfl (by decide) ?_
  refine aw_istore_n (pc2 := 2) hk dX7_clearHouse_1 rfl (by decide) ?_
  show AW K Q _ _ 2 [_, _, _] _ _ _
  refine aw_I (rowU I 84 0 (fun f => if I 84 f = c then -1 else I 84 f)) (rowU_0 _ _ _).symm ?_
  exact loop (fc + 1) 0 (by omega) (by omega)
set_option maxHeartbeats 800000 in
set_option maxRecDepth 100000 in
theorem m_cell {n : Nat} {d : D2} {I : M2} {J : J2} {S : M2} {L : J2} {R : R2} {Q : QT} {w g fc oc uc td : Nat} {md op : Bool} (hB : MB S w g fc oc uc td md op) {x y f s : Int32} (hq1 : (plc w g x y = none ∨ (¬ f = -1 ∧ ¬ (0 ≤ f.toInt ∧ f.toInt < fc))) → Q (some (.int (-101))) n (H5 d I J S L R)) (hq2 : ∀ c, plc w g x y = some c → (f = -1 ∨ (0 ≤ f.toInt ∧ f.toInt < fc)) → ¬ (0 ≤ s.toInt ∧ s.toInt ≤ 3) → Q (some (.int (-102))) n (H5 d I J S L R)) (hq3 : ∀ c, plc w g x y = some c → (f = -1 ∨ (0 ≤ f.toInt ∧ f.toInt < fc)) → (0 ≤ s.toInt ∧ s.toInt ≤ 3) → md = true → Q (some (.int (-103))) n (H5 d I J S L R)) (hq4 : ∀ c, plc w g x y = some c → (f = -1 ∨ (0 ≤ f.toInt ∧ f.toInt < fc)) → (0 ≤ s.toInt ∧ s.toInt ≤ 3) → md = false → Q (some (.int 1)) n (H5 d (rowU (u2 (u2 (u2 I 79 c f) 80 c s) 81 c 0) 84 fc (fun q => if (u2 (u2 (u2 I 79 c f) 80 c s) 81 c 0) 84 q = nI c then -1 else (u2 (u2 (u2 I 79 c f) 80 c s) 81 c 0) 84 q)) J S L R)) : Calls yX7_cell cX7_cell 6 (some .int) rmX7_cell [.ref 78, .int x, .int y, .int f, .int s] n (H5 d I J S L R) Q := by
  refine Calls.of (by decide) (Nat.le_of_ble_eq_true rfl) ?_
  intro K hk
  show AW K Q 0 0 0 [some (.ref 78), some (.int x), some (.int y), some (.int f), some (.int s), none] [] n (H5 d I J S L R)
  obtain ⟨hw, hg, hw1, hw6, hg1, hg6, hfc, hfc2, hoc, hoc6, huc, huc5, htd, htd4, hmd, hop⟩ := id hB
  refine aw_aload_n (pc2 := 1) hk dX7_cell_0 rfl rfl ?_
  refine aw_iload_n (pc2 := 2) hk dX7_cell_1 rfl rfl ?_
  refine aw_iload_n (pc2 := 3) hk dX7_cell_2 rfl rfl ?_
  refine aw_cV (rm2 := rmX7_isCell) (pc2 := 6) hk veX7_isCell dX7_cell_3 rfl ml_X7_143 ⟨(Nat.le_of_ble_eq_true rfl), (Nat.le_of_ble_eq_true rfl)⟩ [_, _] rfl rfl (Nat.le_of_ble_eq_true rfl) (Nat.le_of_ble_eq_true rfl) (Nat.le_of_ble_eq_true rfl) (o_X7 rfl) (m_isCell hB ?_)
  refine aw_if_eq (tgt := 22) (pc2 := 9) hk dX7_cell_6 (by decide) rfl (fun c6 => ?_) (fun c6 => ?_)
  · refine aw_bipush (v := -101) (pc2 := 24) hk dX7_cell_22 rfl (by decide) ?_
    refine aw_iret hk dX7_cell_24 (Nat.le_of_ble_eq_true rfl) (Nat.le_of_ble_eq_true rfl) (hq1 (by first | exact Or.inl (isN c6) | exact Or.inr ⟨c11, bi_no c19⟩))
  · obtain ⟨c, hc1⟩ := isS c6
    have hc3 := plc_lt hw6 hg6 hc1
    refine aw_iload_n (pc2 := 10) hk dX7_cell_9 rfl rfl ?_
    refine aw_iconst (v := -1) (pc2 := 11) hk dX7_cell_10 rfl (by decide) ?_
    refine aw_icmp_eq (tgt := 25) (pc2 := 14) hk dX7_cell_11 (by decide) rfl (fun c11 => ?_) (fun c11 => ?_)
    · have hf : f = -1 ∨ (0 ≤ f.toInt ∧ f.toInt < fc) := by first | exact Or.inl c11 | exact Or.inr (bi_ya c19)
      refine aw_iload (pc2 := 27) hk dX7_cell_25 rfl rfl ?_
      refine aw_i2l (pc2 := 28) hk dX7_cell_27 rfl ?_
      refine aw_lconst (v := 0) (pc2 := 29) hk dX7_cell_28 rfl (by decide) ?_
      refine aw_ldc2 (pc2 := 32) hk dX7_cell_29 rfl kl_X7_151 ?_
      refine aw_cS (rm2 := rmX7_in) (pc2 := 35) hk seX7_in dX7_cell_32 rfl ml_X7_133 ⟨(Nat.le_of_ble_eq_true rfl), (Nat.le_of_ble_eq_true rfl)⟩ [_, _, _] rfl rfl (Nat.le_of_ble_eq_true rfl) (Nat.le_of_ble_eq_true rfl) (Nat.le_of_ble_eq_true rfl) (m_in ?_)
      refine aw_if_ne (tgt := 41) (pc2 := 38) hk dX7_cell_35 (by decide) rfl (fun c35 => ?_) (fun c35 => ?_)
      · have h1 := bi_ya c35
        have hsk : (0 ≤ s.toInt ∧ s.toInt ≤ 3) := by simp only [i_lt, i_le, j_le, i64, k0, k1, k2, k3, k4, k13, k16, k1000, k10000, k100000, k1000000, hw, hg, hfc, hoc, nI_m w (by omega), nI_m g (by omega), nI_m fc (by omega), nI_m oc (by omega)] at *; omega
        refine aw_aload_n (pc2 := 42) hk dX7_cell_41 rfl rfl ?_
        refine aw_get (pc2 := 45) hk ckX7 17 dX7_cell_42 rfl fl_X7_139 (by decide) (o_X7 rfl) rfl ?_
        rw [hmd]
        refine aw_if_eq (tgt := 51) (pc2 := 48) hk dX7_cell_45 (by decide) rfl (fun c45 => ?_) (fun c45 => ?_)
        · refine aw_bipush (v := nI 16) (pc2 := 53) hk dX7_cell_51 rfl (by decide) ?_
          refine aw_iload_n (pc2 := 54) hk dX7_cell_53 rfl rfl ?_
          refine aw_imul (pc2 := 55) hk dX7_cell_54 rfl ?_
          refine aw_iload_n (pc2 := 56) hk dX7_cell_55 rfl rfl ?_
          refine aw_iadd (pc2 := 57) hk dX7_cell_56 rfl ?_
          rw [plc_val hc1]
          refine aw_istore (pc2 := 59) hk dX7_cell_57 rfl (by decide) ?_
          show AW K Q _ _ 59 [_, _, _, _, _, _] _ _ _
          refine aw_aload_n (pc2 := 60) hk dX7_cell_59 rfl rfl ?_
          refine aw_get (pc2 := 63) hk ckX7 2 dX7_cell_60 rfl fl_X7_16 (by decide) (o_X7 rfl) rfl ?_
          refine aw_iload (pc2 := 65) hk dX7_cell_63 rfl rfl ?_
          refine aw_iload_n (pc2 := 66) hk dX7_cell_65 rfl rfl ?_
          refine h_iast (pc2 := 67) hk dX7_cell_66 rfl rfl rfl hc3 (by decide) ?_
          refine aw_aload_n (pc2 := 68) hk dX7_cell_67 rfl rfl ?_
          refine aw_get (pc2 := 71) hk ckX7 3 dX7_cell_68 rfl fl_X7_20 (by decide) (o_X7 rfl) rfl ?_
          refine aw_iload (pc2 := 73) hk dX7_cell_71 rfl rfl ?_
          refine aw_iload (pc2 := 75) hk dX7_cell_73 rfl rfl ?_
          refine h_iast (pc2 := 76) hk dX7_cell_75 rfl rfl rfl hc3 (by decide) ?_
          refine aw_aload_n (pc2 := 77) hk dX7_cell_76 rfl rfl ?_
          refine aw_get (pc2 := 80) hk ckX7 4 dX7_cell_77 rfl fl_X7_23 (by decide) (o_X7 rfl) rfl ?_
          refine aw_iload (pc2 := 82) hk dX7_cell_80 rfl rfl ?_
          refine aw_iconst (v := 0) (pc2 := 83) hk dX7_cell_82 rfl (by decide) ?_
          refine h_zast (pc2 := 84) hk dX7_cell_83 rfl rfl rfl hc3 (by decide) (by first | exact Or.inl rfl | exact Or.inr rfl) ?_
          refine aw_aload_n (pc2 := 85) hk dX7_cell_84 rfl rfl ?_
          refine aw_iload (pc2 := 87) hk dX7_cell_85 rfl rfl ?_
          refine aw_cV (rm2 := rmX7_clearHouse) (pc2 := 90) hk veX7_clearHouse dX7_cell_87 rfl ml_X7_153 ⟨(Nat.le_of_ble_eq_true rfl), (Nat.le_of_ble_eq_true rfl)⟩ [_] rfl rfl (Nat.le_of_ble_eq_true rfl) (Nat.le_of_ble_eq_true rfl) (Nat.le_of_ble_eq_true rfl) (o_X7 rfl) (m_clearHouse hB ?_)
          refine aw_iconst (v := 1) (pc2 := 91) hk dX7_cell_90 rfl (by decide) ?_
          refine aw_iret hk dX7_cell_91 (Nat.le_of_ble_eq_true rfl) (Nat.le_of_ble_eq_true rfl) (hq4 c hc1 hf hsk (bi_ff c45))
        · refine aw_bipush (v := -103) (pc2 := 50) hk dX7_cell_48 rfl (by decide) ?_
          refine aw_iret hk dX7_cell_50 (Nat.le_of_ble_eq_true rfl) (Nat.le_of_ble_eq_true rfl) (hq3 c hc1 hf hsk (bi_tt c45))
      · refine aw_bipush (v := -102) (pc2 := 40) hk dX7_cell_38 rfl (by decide) ?_
        refine aw_iret hk dX7_cell_40 (Nat.le_of_ble_eq_true rfl) (Nat.le_of_ble_eq_true rfl) (hq2 c hc1 hf (fun h9 => bi_no c35 (by simp only [i_lt, i_le, j_le, i64, k0, k1, k2, k3, k4, k13, k16, k1000, k10000, k100000, k1000000, hw, hg, hfc, hoc, nI_m w (by omega), nI_m g (by omega), nI_m fc (by omega), nI_m oc (by omega)] at *; omega)))
    · refine aw_aload_n (pc2 := 15) hk dX7_cell_14 rfl rfl ?_
      refine aw_iload_n (pc2 := 16) hk dX7_cell_15 rfl rfl ?_
      refine aw_cV (rm2 := rmX7_isField) (pc2 := 19) hk veX7_isField dX7_cell_16 rfl ml_X7_147 ⟨(Nat.le_of_ble_eq_true rfl), (Nat.le_of_ble_eq_true rfl)⟩ [_] rfl rfl (Nat.le_of_ble_eq_true rfl) (Nat.le_of_ble_eq_true rfl) (Nat.le_of_ble_eq_true rfl) (o_X7 rfl) (m_isField hB ?_)
      refine aw_if_ne (tgt := 25) (pc2 := 22) hk dX7_cell_19 (by decide) rfl (fun c19 => ?_) (fun c19 => ?_)
      · have hf : f = -1 ∨ (0 ≤ f.toInt ∧ f.toInt < fc) := by first | exact Or.inl c11 | exact Or.inr (bi_ya c19)
        refine aw_iload (pc2 := 27) hk dX7_cell_25 rfl rfl ?_
        refine aw_i2l (pc2 := 28) hk dX7_cell_27 rfl ?_
        refine aw_lconst (v := 0) (pc2 := 29) hk dX7_cell_28 rfl (by decide) ?_
        refine aw_ldc2 (pc2 := 32) hk dX7_cell_29 rfl kl_X7_151 ?_
        refine aw_cS (rm2 := rmX7_in) (pc2 := 35) hk seX7_in dX7_cell_32 rfl ml_X7_133 ⟨(Nat.le_of_ble_eq_true rfl), (Nat.le_of_ble_eq_true rfl)⟩ [_, _, _] rfl rfl (Nat.le_of_ble_eq_true rfl) (Nat.le_of_ble_eq_true rfl) (Nat.le_of_ble_eq_true rfl) (m_in ?_)
        refine aw_if_ne (tgt := 41) (pc2 := 38) hk dX7_cell_35 (by decide) rfl (fun c35 => ?_) (fun c35 => ?_)
        · have h1 := bi_ya c35
          have hsk : (0 ≤ s.toInt ∧ s.toInt ≤ 3) := by simp only [i_lt, i_le, j_le, i64, k0, k1, k2, k3, k4, k13, k16, k1000, k10000, k100000, k1000000, hw, hg, hfc, hoc, nI_m w (by omega), nI_m g (by omega), nI_m fc (by omega), nI_m oc (by omega)] at *; omega
          refine aw_aload_n (pc2 := 42) hk dX7_cell_41 rfl rfl ?_
          refine aw_get (pc2 := 45) hk ckX7 17 dX7_cell_42 rfl fl_X7_139 (by decide) (o_X7 rfl) rfl ?_
          rw [hmd]
          refine aw_if_eq (tgt := 51) (pc2 := 48) hk dX7_cell_45 (by decide) rfl (fun c45 => ?_) (fun c45 => ?_)
          · refine aw_bipush (v := nI 16) (pc2 := 53) hk dX7_cell_51 rfl (by decide) ?_
            refine aw_iload_n (pc2 := 54) hk dX7_cell_53 rfl rfl ?_
            refine aw_imul (pc2 := 55) hk dX7_cell_54 rfl ?_
            refine aw_iload_n (pc2 := 56) hk dX7_cell_55 rfl rfl ?_
            refine aw_iadd (pc2 := 57) hk dX7_cell_56 rfl ?_
            rw [plc_val hc1]
            refine aw_istore (pc2 := 59) hk dX7_cell_57 rfl (by decide) ?_
            show AW K Q _ _ 59 [_, _, _, _, _, _] _ _ _
            refine aw_aload_n (pc2 := 60) hk dX7_cell_59 rfl rfl ?_
            refine aw_get (pc2 := 63) hk ckX7 2 dX7_cell_60 rfl fl_X7_16 (by decide) (o_X7 rfl) rfl ?_
            refine aw_iload (pc2 := 65) hk dX7_cell_63 rfl rfl ?_
            refine aw_iload_n (pc2 := 66) hk dX7_cell_65 rfl rfl ?_
            refine h_iast (pc2 := 67) hk dX7_cell_66 rfl rfl rfl hc3 (by decide) ?_
            refine aw_aload_n (pc2 := 68) hk dX7_cell_67 rfl rfl ?_
            refine aw_get (pc2 := 71) hk ckX7 3 dX7_cell_68 rfl fl_X7_20 (by decide) (o_X7 rfl) rfl ?_
            refine aw_iload (pc2 := 73) hk dX7_cell_71 rfl rfl ?_
            refine aw_iload (pc2 := 75) hk dX7_cell_73 rfl rfl ?_
            refine h_iast (pc2 := 76) hk dX7_cell_75 rfl rfl rfl hc3 (by decide) ?_
            refine aw_aload_n (pc2 := 77) hk dX7_cell_76 rfl rfl ?_
            refine aw_get (pc2 := 80) hk ckX7 4 dX7_cell_77 rfl fl_X7_23 (by decide) (o_X7 rfl) rfl ?_
            refine aw_iload (pc2 := 82) hk dX7_cell_80 rfl rfl ?_
            refine aw_iconst (v := 0) (pc2 := 83) hk dX7_cell_82 rfl (by decide) ?_
            refine h_zast (pc2 := 84) hk dX7_cell_83 rfl rfl rfl hc3 (by decide) (by first | exact Or.inl rfl | exact Or.inr rfl) ?_
            refine aw_aload_n (pc2 := 85) hk dX7_cell_84 rfl rfl ?_
            refine aw_iload (pc2 := 87) hk dX7_cell_85 rfl rfl ?_
            refine aw_cV (rm2 := rmX7_clearHouse) (pc2 := 90) hk veX7_clearHouse dX7_cell_87 rfl ml_X7_153 ⟨(Nat.le_of_ble_eq_true rfl), (Nat.le_of_ble_eq_true rfl)⟩ [_] rfl rfl (Nat.le_of_ble_eq_true rfl) (Nat.le_of_ble_eq_true rfl) (Nat.le_of_ble_eq_true rfl) (o_X7 rfl) (m_clearHouse hB ?_)
            refine aw_iconst (v := 1) (pc2 := 91) hk dX7_cell_90 rfl (by decide) ?_
            refine aw_iret hk dX7_cell_91 (Nat.le_of_ble_eq_true rfl) (Nat.le_of_ble_eq_true rfl) (hq4 c hc1 hf hsk (bi_ff c45))
          · refine aw_bipush (v := -103) (pc2 := 50) hk dX7_cell_48 rfl (by decide) ?_
            refine aw_iret hk dX7_cell_50 (Nat.le_of_ble_eq_true rfl) (Nat.le_of_ble_eq_true rfl) (hq3 c hc1 hf hsk (bi_tt c45))
        · refine aw_bipush (v := -102) (pc2 := 40) hk dX7_cell_38 rfl (by decide) ?_
          refine aw_iret hk dX7_cell_40 (Nat.le_of_ble_eq_true rfl) (Nat.le_of_ble_eq_true rfl) (hq2 c hc1 hf (fun h9 => bi_no c35 (by simp only [i_lt, i_le, j_le, i64, k0, k1, k2, k3, k4, k13, k16, k1000, k10000, k100000, k1000000, hw, hg, hfc, hoc, nI_m w (by omega), nI_m g (by omega), nI_m fc (by omega), nI_m oc (by omega)] at *; omega)))
      · refine aw_bipush (v := -101) (pc2 := 24) hk dX7_cell_22 rfl (by decide) ?_
        refine aw_iret hk dX7_cell_24 (Nat.le_of_ble_eq_true rfl) (Nat.le_of_ble_eq_true rfl) (hq1 (by first | exact Or.inl (isN c6) | exact Or.inr ⟨c11, bi_no c19⟩))
set_option maxHeartbeats 800000 in
set_option maxRecDepth 100000 in
theorem m_lane {n : Nat} {d : D2} {I : M2} {J : J2} {S : M2} {L : J2} {R : R2} {Q : QT} {w g fc oc uc td : Nat} {md op : Bool} (hB : MB S w g fc oc uc td md op) {x y : Int32} (hq1 : plc w g x y = none → Q (some (.int (-101))) n (H5 d I J S L R)) (hq2 : ∀ c, plc w g x y = some c → md = true → Q (some (.int (-103))) n (H5 d I J S L R)) (hq3 : ∀ c, plc w g x y = some c → md = false → Q (some (.int 1)) n (H5 d (rowU (u2 (u2 I 79 c (-1)) 81 c 1) 84 fc (fun q => if (u2 (u2 I 79 c (-1)) 81 c 1) 84 q = nI c then -1 else (u2 (u2 I 79 c (-1)) 81 c 1) 84 q)) J S L R)) : Calls yX7_lane cX7_lane 4 (some .int) rmX7_lane [.ref 78, .int x, .int y] n (H5 d I J S L R) Q := by
  refine Calls.of (by decide) (Nat.le_of_ble_eq_true rfl) ?_
  intro K hk
  show AW K Q 0 0 0 [some (.ref 78), some (.int x), some (.int y), none] [] n (H5 d I J S L R)
  obtain ⟨hw, hg, hw1, hw6, hg1, hg6, hfc, hfc2, hoc, hoc6, huc, huc5, htd, htd4, hmd, hop⟩ := id hB
  refine aw_aload_n (pc2 := 1) hk dX7_lane_0 rfl rfl ?_
  refine aw_iload_n (pc2 := 2) hk dX7_lane_1 rfl rfl ?_
  refine aw_iload_n (pc2 := 3) hk dX7_lane_2 rfl rfl ?_
  refine aw_cV (rm2 := rmX7_isCell) (pc2 := 6) hk veX7_isCell dX7_lane_3 rfl ml_X7_143 ⟨(Nat.le_of_ble_eq_true rfl), (Nat.le_of_ble_eq_true rfl)⟩ [_, _] rfl rfl (Nat.le_of_ble_eq_true rfl) (Nat.le_of_ble_eq_true rfl) (Nat.le_of_ble_eq_true rfl) (o_X7 rfl) (m_isCell hB ?_)
  refine aw_if_ne (tgt := 12) (pc2 := 9) hk dX7_lane_6 (by decide) rfl (fun c6 => ?_) (fun c6 => ?_)
  · obtain ⟨c, hc1⟩ := isS c6
    have hc3 := plc_lt hw6 hg6 hc1
    refine aw_aload_n (pc2 := 13) hk dX7_lane_12 rfl rfl ?_
    refine aw_get (pc2 := 16) hk ckX7 17 dX7_lane_13 rfl fl_X7_139 (by decide) (o_X7 rfl) rfl ?_
    rw [hmd]
    refine aw_if_eq (tgt := 22) (pc2 := 19) hk dX7_lane_16 (by decide) rfl (fun c16 => ?_) (fun c16 => ?_)
    · refine aw_bipush (v := nI 16) (pc2 := 24) hk dX7_lane_22 rfl (by decide) ?_
      refine aw_iload_n (pc2 := 25) hk dX7_lane_24 rfl rfl ?_
      refine aw_imul (pc2 := 26) hk dX7_lane_25 rfl ?_
      refine aw_iload_n (pc2 := 27) hk dX7_lane_26 rfl rfl ?_
      refine aw_iadd (pc2 := 28) hk dX7_lane_27 rfl ?_
      rw [plc_val hc1]
      refine aw_istore_n (pc2 := 29) hk dX7_lane_28 rfl (by decide) ?_
      show AW K Q _ _ 29 [_, _, _, _] _ _ _
      refine aw_aload_n (pc2 := 30) hk dX7_lane_29 rfl rfl ?_
      refine aw_get (pc2 := 33) hk ckX7 2 dX7_lane_30 rfl fl_X7_16 (by decide) (o_X7 rfl) rfl ?_
      refine aw_iload_n (pc2 := 34) hk dX7_lane_33 rfl rfl ?_
      refine aw_iconst (v := -1) (pc2 := 35) hk dX7_lane_34 rfl (by decide) ?_
      refine h_iast (pc2 := 36) hk dX7_lane_35 rfl rfl rfl hc3 (by decide) ?_
      refine aw_aload_n (pc2 := 37) hk dX7_lane_36 rfl rfl ?_
      refine aw_get (pc2 := 40) hk ckX7 4 dX7_lane_37 rfl fl_X7_23 (by decide) (o_X7 rfl) rfl ?_
      refine aw_iload_n (pc2 := 41) hk dX7_lane_40 rfl rfl ?_
      refine aw_iconst (v := 1) (pc2 := 42) hk dX7_lane_41 rfl (by decide) ?_
      refine h_zast (pc2 := 43) hk dX7_lane_42 rfl rfl rfl hc3 (by decide) (by first | exact Or.inl rfl | exact Or.inr rfl) ?_
      refine aw_aload_n (pc2 := 44) hk dX7_lane_43 rfl rfl ?_
      refine aw_iload_n (pc2 := 45) hk dX7_lane_44 rfl rfl ?_
      refine aw_cV (rm2 := rmX7_clearHouse) (pc2 := 48) hk veX7_clearHouse dX7_lane_45 rfl ml_X7_153 ⟨(Nat.le_of_ble_eq_true rfl), (Nat.le_of_ble_eq_true rfl)⟩ [_] rfl rfl (Nat.le_of_ble_eq_true rfl) (Nat.le_of_ble_eq_true rfl) (Nat.le_of_ble_eq_true rfl) (o_X7 rfl) (m_clearHouse hB ?_)
      refine aw_iconst (v := 1) (pc2 := 49) hk dX7_lane_48 rfl (by decide) ?_
      refine aw_iret hk dX7_lane_49 (Nat.le_of_ble_eq_true rfl) (Nat.le_of_ble_eq_true rfl) (hq3 c hc1 (bi_ff c16))
    · refine aw_bipush (v := -103) (pc2 := 21) hk dX7_lane_19 rfl (by decide) ?_
      refine aw_iret hk dX7_lane_21 (Nat.le_of_ble_eq_true rfl) (Nat.le_of_ble_eq_true rfl) (hq2 c hc1 (bi_tt c16))
  · refine aw_bipush (v := -101) (pc2 := 11) hk dX7_lane_9 rfl (by decide) ?_
    refine aw_iret hk dX7_lane_11 (Nat.le_of_ble_eq_true rfl) (Nat.le_of_ble_eq_true rfl) (hq1 (isN c6))
set_option maxHeartbeats 800000 in
set_option maxRecDepth 100000 in
theorem m_house {n : Nat} {d : D2} {I : M2} {J : J2} {S : M2} {L : J2} {R : R2} {Q : QT} {w g fc oc uc td : Nat} {md op : Bool} (hB : MB S w g fc oc uc td md op) {x y f : Int32} (hq1 : (¬ (0 ≤ f.toInt ∧ f.toInt < fc) ∨ plc w g x y = none) → Q (some (.int (-101))) n (H5 d I J S L R)) (hq2 : ∀ c, plc w g x y = some c → (0 ≤ f.toInt ∧ f.toInt < fc) → ¬ I 79 c = f → Q (some (.int (-102))) n (H5 d I J S L R)) (hq3 : ∀ c, plc w g x y = some c → (0 ≤ f.toInt ∧ f.toInt < fc) → I 79 c = f → md = true → Q (some (.int (-103))) n (H5 d I J S L R)) (hq4 : ∀ c j, plc w g x y = some c → f = nI j → j < fc → I 79 c = f → md = false → Q (some (.int 1)) n (H5 d (u2 I 84 j (nI c)) J S L R)) : Calls yX7_house cX7_house 4 (some .int) rmX7_house [.ref 78, .int f, .int x, .int y] n (H5 d I J S L R) Q := by
  refine Calls.of (by decide) (Nat.le_of_ble_eq_true rfl) ?_
  intro K hk
  show AW K Q 0 0 0 [some (.ref 78), some (.int f), some (.int x), some (.int y)] [] n (H5 d I J S L R)
  obtain ⟨hw, hg, hw1, hw6, hg1, hg6, hfc, hfc2, hoc, hoc6, huc, huc5, htd, htd4, hmd, hop⟩ := id hB
  refine aw_aload_n (pc2 := 1) hk dX7_house_0 rfl rfl ?_
  refine aw_iload_n (pc2 := 2) hk dX7_house_1 rfl rfl ?_
  refine aw_cV (rm2 := rmX7_isField) (pc2 := 5) hk veX7_isField dX7_house_2 rfl ml_X7_147 ⟨(Nat.le_of_ble_eq_true rfl), (Nat.le_of_ble_eq_true rfl)⟩ [_] rfl rfl (Nat.le_of_ble_eq_true rfl) (Nat.le_of_ble_eq_true rfl) (Nat.le_of_ble_eq_true rfl) (o_X7 rfl) (m_isField hB ?_)
  refine aw_if_eq (tgt := 17) (pc2 := 8) hk dX7_house_5 (by decide) rfl (fun c5 => ?_) (fun c5 => ?_)
  · refine aw_bipush (v := -101) (pc2 := 19) hk dX7_house_17 rfl (by decide) ?_
    refine aw_iret hk dX7_house_19 (Nat.le_of_ble_eq_true rfl) (Nat.le_of_ble_eq_true rfl) (hq1 (by first | exact Or.inl (bi_no c5) | exact Or.inr (isN c14)))
  · refine aw_aload_n (pc2 := 9) hk dX7_house_8 rfl rfl ?_
    refine aw_iload_n (pc2 := 10) hk dX7_house_9 rfl rfl ?_
    refine aw_iload_n (pc2 := 11) hk dX7_house_10 rfl rfl ?_
    refine aw_cV (rm2 := rmX7_isCell) (pc2 := 14) hk veX7_isCell dX7_house_11 rfl ml_X7_143 ⟨(Nat.le_of_ble_eq_true rfl), (Nat.le_of_ble_eq_true rfl)⟩ [_, _] rfl rfl (Nat.le_of_ble_eq_true rfl) (Nat.le_of_ble_eq_true rfl) (Nat.le_of_ble_eq_true rfl) (o_X7 rfl) (m_isCell hB ?_)
    refine aw_if_ne (tgt := 20) (pc2 := 17) hk dX7_house_14 (by decide) rfl (fun c14 => ?_) (fun c14 => ?_)
    · obtain ⟨c, hc1⟩ := isS c14
      have hc3 := plc_lt hw6 hg6 hc1
      obtain ⟨j, hj1, hj2⟩ := fok_of (bi_ya c5) hfc2
      refine aw_aload_n (pc2 := 21) hk dX7_house_20 rfl rfl ?_
      refine aw_get (pc2 := 24) hk ckX7 2 dX7_house_21 rfl fl_X7_16 (by decide) (o_X7 rfl) rfl ?_
      refine aw_bipush (v := nI 16) (pc2 := 26) hk dX7_house_24 rfl (by decide) ?_
      refine aw_iload_n (pc2 := 27) hk dX7_house_26 rfl rfl ?_
      refine aw_imul (pc2 := 28) hk dX7_house_27 rfl ?_
      refine aw_iload_n (pc2 := 29) hk dX7_house_28 rfl rfl ?_
      refine aw_iadd (pc2 := 30) hk dX7_house_29 rfl ?_
      rw [plc_val hc1]
      refine h_iald (pc2 := 31) hk dX7_house_30 rfl rfl rfl hc3 (by decide) ?_
      refine aw_iload_n (pc2 := 32) hk dX7_house_31 rfl rfl ?_
      refine aw_icmp_eq (tgt := 38) (pc2 := 35) hk dX7_house_32 (by decide) rfl (fun c32 => ?_) (fun c32 => ?_)
      · refine aw_aload_n (pc2 := 39) hk dX7_house_38 rfl rfl ?_
        refine aw_get (pc2 := 42) hk ckX7 17 dX7_house_39 rfl fl_X7_139 (by decide) (o_X7 rfl) rfl ?_
        rw [hmd]
        refine aw_if_eq (tgt := 48) (pc2 := 45) hk dX7_house_42 (by decide) rfl (fun c42 => ?_) (fun c42 => ?_)
        · refine aw_aload_n (pc2 := 49) hk dX7_house_48 rfl rfl ?_
          refine aw_get (pc2 := 52) hk ckX7 8 dX7_house_49 rfl fl_X7_33 (by decide) (o_X7 rfl) rfl ?_
          refine aw_iload_n (pc2 := 53) hk dX7_house_52 rfl rfl ?_
          refine aw_bipush (v := nI 16) (pc2 := 55) hk dX7_house_53 rfl (by decide) ?_
          refine aw_iload_n (pc2 := 56) hk dX7_house_55 rfl rfl ?_
          refine aw_imul (pc2 := 57) hk dX7_house_56 rfl ?_
          refine aw_iload_n (pc2 := 58) hk dX7_house_57 rfl rfl ?_
          refine aw_iadd (pc2 := 59) hk dX7_house_58 rfl ?_
          rw [plc_val hc1]
          refine h_iast (pc2 := 60) hk dX7_house_59 rfl rfl hj2 (by omega) (by decide) ?_
          refine aw_iconst (v := 1) (pc2 := 61) hk dX7_house_60 rfl (by decide) ?_
          refine aw_iret hk dX7_house_61 (Nat.le_of_ble_eq_true rfl) (Nat.le_of_ble_eq_true rfl) (hq4 c j hc1 hj2 hj1 c32 (bi_ff c42))
        · refine aw_bipush (v := -103) (pc2 := 47) hk dX7_house_45 rfl (by decide) ?_
          refine aw_iret hk dX7_house_47 (Nat.le_of_ble_eq_true rfl) (Nat.le_of_ble_eq_true rfl) (hq3 c hc1 (bi_ya c5) c32 (bi_tt c42))
      · refine aw_bipush (v := -102) (pc2 := 37) hk dX7_house_35 rfl (by decide) ?_
        refine aw_iret hk dX7_house_37 (Nat.le_of_ble_eq_true rfl) (Nat.le_of_ble_eq_true rfl) (hq2 c hc1 (bi_ya c5) c32)
    · refine aw_bipush (v := -101) (pc2 := 19) hk dX7_house_17 rfl (by decide) ?_
      refine aw_iret hk dX7_house_19 (Nat.le_of_ble_eq_true rfl) (Nat.le_of_ble_eq_true rfl) (hq1 (by first | exact Or.inl (bi_no c5) | exact Or.inr (isN c14)))
set_option maxHeartbeats 800000 in
set_option maxRecDepth 100000 in
theorem m_right {n : Nat} {d : D2} {I : M2} {J : J2} {S : M2} {L : J2} {R : R2} {Q : QT} {w g fc oc uc td : Nat} {md op : Bool} (hB : MB S w g fc oc uc td md op) {f k a : Int32} (hrc : ∀ j, j < fc → ∃ rc, rc ≤ 4 ∧ I 85 j = nI rc) (hq1 : ¬ (0 ≤ f.toInt ∧ f.toInt < fc) → Q (some (.int (-101))) n (H5 d I J S L R)) (hq2 : (0 ≤ f.toInt ∧ f.toInt < fc) → ¬ ((k.toInt = 1 ∧ 0 ≤ a.toInt ∧ a.toInt ≤ 1000000) ∨ (k.toInt = 2 ∧ 0 ≤ a.toInt ∧ a.toInt ≤ 1000)) → Q (some (.int (-102))) n (H5 d I J S L R)) (hq3 : (0 ≤ f.toInt ∧ f.toInt < fc) → ((k.toInt = 1 ∧ 0 ≤ a.toInt ∧ a.toInt ≤ 1000000) ∨ (k.toInt = 2 ∧ 0 ≤ a.toInt ∧ a.toInt ≤ 1000)) → md = true → Q (some (.int (-103))) n (H5 d I J S L R)) (hq4 : ∀ j rc, f = nI j → j < fc → I 85 j = nI rc → rc = 4 → ((k.toInt = 1 ∧ 0 ≤ a.toInt ∧ a.toInt ≤ 1000000) ∨ (k.toInt = 2 ∧ 0 ≤ a.toInt ∧ a.toInt ≤ 1000)) → md = false → Q (some (.int (-104))) n (H5 d I J S L R)) (hq5 : ∀ j rc, f = nI j → j < fc → I 85 j = nI rc → rc < 4 → ((k.toInt = 1 ∧ 0 ≤ a.toInt ∧ a.toInt ≤ 1000000) ∨ (k.toInt = 2 ∧ 0 ≤ a.toInt ∧ a.toInt ≤ 1000)) → md = false → Q (some (.int (nI (rc + 1)))) n (H5 d (u2 (u2 (u2 I 86 (4 * j + rc) k) 87 (4 * j + rc) a) 85 j (nI (rc + 1))) J S L R)) : Calls yX7_right cX7_right 4 (some .int) rmX7_right [.ref 78, .int f, .int k, .int a] n (H5 d I J S L R) Q := by
  refine Calls.of (by decide) (Nat.le_of_ble_eq_true rfl) ?_
  intro K hk
  show AW K Q 0 0 0 [some (.ref 78), some (.int f), some (.int k), some (.int a)] [] n (H5 d I J S L R)
  obtain ⟨hw, hg, hw1, hw6, hg1, hg6, hfc, hfc2, hoc, hoc6, huc, huc5, htd, htd4, hmd, hop⟩ := id hB
  refine aw_aload_n (pc2 := 1) hk dX7_right_0 rfl rfl ?_
  refine aw_iload_n (pc2 := 2) hk dX7_right_1 rfl rfl ?_
  refine aw_cV (rm2 := rmX7_isField) (pc2 := 5) hk veX7_isField dX7_right_2 rfl ml_X7_147 ⟨(Nat.le_of_ble_eq_true rfl), (Nat.le_of_ble_eq_true rfl)⟩ [_] rfl rfl (Nat.le_of_ble_eq_true rfl) (Nat.le_of_ble_eq_true rfl) (Nat.le_of_ble_eq_true rfl) (o_X7 rfl) (m_isField hB ?_)
  refine aw_if_ne (tgt := 11) (pc2 := 8) hk dX7_right_5 (by decide) rfl (fun c5 => ?_) (fun c5 => ?_)
  · refine aw_iload_n (pc2 := 12) hk dX7_right_11 rfl rfl ?_
    refine aw_i2l (pc2 := 13) hk dX7_right_12 rfl ?_
    refine aw_lconst (v := 1) (pc2 := 14) hk dX7_right_13 rfl (by decide) ?_
    refine aw_ldc2 (pc2 := 17) hk dX7_right_14 rfl kl_X7_157 ?_
    refine aw_cS (rm2 := rmX7_in) (pc2 := 20) hk seX7_in dX7_right_17 rfl ml_X7_133 ⟨(Nat.le_of_ble_eq_true rfl), (Nat.le_of_ble_eq_true rfl)⟩ [_, _, _] rfl rfl (Nat.le_of_ble_eq_true rfl) (Nat.le_of_ble_eq_true rfl) (Nat.le_of_ble_eq_true rfl) (m_in ?_)
    refine aw_if_eq (tgt := 46) (pc2 := 23) hk dX7_right_20 (by decide) rfl (fun c20 => ?_) (fun c20 => ?_)
    · refine aw_bipush (v := -102) (pc2 := 48) hk dX7_right_46 rfl (by decide) ?_
      refine aw_iret hk dX7_right_48 (Nat.le_of_ble_eq_true rfl) (Nat.le_of_ble_eq_true rfl) (hq2 (bi_ya c5) (fun h9 => by first | exact bi_no c43 (by simp only [i_lt, i_le, i_eqI, j_le, i64, k0, k1, k2, k1000, k1000000, l1] at *; omega) | exact bi_no c20 (by simp only [i_lt, i_le, i_eqI, j_le, i64, k0, k1, k2, k1000, k1000000, l1] at *; omega)))
    · refine aw_iload_n (pc2 := 24) hk dX7_right_23 rfl rfl ?_
      refine aw_i2l (pc2 := 25) hk dX7_right_24 rfl ?_
      refine aw_lconst (v := 0) (pc2 := 26) hk dX7_right_25 rfl (by decide) ?_
      refine aw_iload_n (pc2 := 27) hk dX7_right_26 rfl rfl ?_
      refine aw_iconst (v := 1) (pc2 := 28) hk dX7_right_27 rfl (by decide) ?_
      refine aw_icmp_ne (tgt := 37) (pc2 := 31) hk dX7_right_28 (by decide) rfl (fun c28 => ?_) (fun c28 => ?_)
      · refine aw_ldc2 (pc2 := 40) hk dX7_right_37 rfl kl_X7_161 ?_
        refine aw_cS (rm2 := rmX7_in) (pc2 := 43) hk seX7_in dX7_right_40 rfl ml_X7_133 ⟨(Nat.le_of_ble_eq_true rfl), (Nat.le_of_ble_eq_true rfl)⟩ [_, _, _] rfl rfl (Nat.le_of_ble_eq_true rfl) (Nat.le_of_ble_eq_true rfl) (Nat.le_of_ble_eq_true rfl) (m_in ?_)
        refine aw_if_ne (tgt := 49) (pc2 := 46) hk dX7_right_43 (by decide) rfl (fun c43 => ?_) (fun c43 => ?_)
        · have h1 := bi_ya c20
          have h2 := bi_ya c43
          have ham : (k.toInt = 1 ∧ 0 ≤ a.toInt ∧ a.toInt ≤ 1000000) ∨ (k.toInt = 2 ∧ 0 ≤ a.toInt ∧ a.toInt ≤ 1000) := by simp only [i_lt, i_le, i_eqI, j_le, i64, k0, k1, k2, k1000, k1000000, l1] at *; omega
          obtain ⟨j, hj1, hj2⟩ := fok_of (bi_ya c5) hfc2
          subst hj2
          obtain ⟨rc, hrc4, hrc⟩ := hrc j hj1
          refine aw_aload_n (pc2 := 50) hk dX7_right_49 rfl rfl ?_
          refine aw_get (pc2 := 53) hk ckX7 17 dX7_right_50 rfl fl_X7_139 (by decide) (o_X7 rfl) rfl ?_
          rw [hmd]
          refine aw_if_eq (tgt := 59) (pc2 := 56) hk dX7_right_53 (by decide) rfl (fun c53 => ?_) (fun c53 => ?_)
          · refine aw_aload_n (pc2 := 60) hk dX7_right_59 rfl rfl ?_
            refine aw_get (pc2 := 63) hk ckX7 9 dX7_right_60 rfl fl_X7_36 (by decide) (o_X7 rfl) rfl ?_
            refine aw_iload_n (pc2 := 64) hk dX7_right_63 rfl rfl ?_
            refine h_iald (pc2 := 65) hk dX7_right_64 rfl rfl rfl (by omega) (by decide) ?_
            refine aw_iconst (v := 4) (pc2 := 66) hk dX7_right_65 rfl (by decide) ?_
            refine aw_icN_ne (x := rc) (y := 4) (tgt := 72) (pc2 := 69) hk dX7_right_66 (by decide) rfl hrc rfl (by omega) (by omega) (fun c66 => ?_) (fun c66 => ?_)
            · refine aw_aload_n (pc2 := 73) hk dX7_right_72 rfl rfl ?_
              refine aw_get (pc2 := 76) hk ckX7 10 dX7_right_73 rfl fl_X7_39 (by decide) (o_X7 rfl) rfl ?_
              refine aw_iconst (v := nI 4) (pc2 := 77) hk dX7_right_76 rfl (by decide) ?_
              refine aw_iload_n (pc2 := 78) hk dX7_right_77 rfl rfl ?_
              refine aw_imul (pc2 := 79) hk dX7_right_78 rfl ?_
              refine aw_aload_n (pc2 := 80) hk dX7_right_79 rfl rfl ?_
              refine aw_get (pc2 := 83) hk ckX7 9 dX7_right_80 rfl fl_X7_36 (by decide) (o_X7 rfl) rfl ?_
              refine aw_iload_n (pc2 := 84) hk dX7_right_83 rfl rfl ?_
              refine h_iald (pc2 := 85) hk dX7_right_84 rfl rfl rfl (by omega) (by decide) ?_
              refine aw_iadd (pc2 := 86) hk dX7_right_85 rfl ?_
              rw [hrc, mulN]
              refine aw_iload_n (pc2 := 87) hk dX7_right_86 rfl rfl ?_
              refine h_iast (pc2 := 88) hk dX7_right_87 rfl rfl rfl (by omega) (by decide) ?_
              refine aw_aload_n (pc2 := 89) hk dX7_right_88 rfl rfl ?_
              refine aw_get (pc2 := 92) hk ckX7 11 dX7_right_89 rfl fl_X7_42 (by decide) (o_X7 rfl) rfl ?_
              refine aw_iconst (v := nI 4) (pc2 := 93) hk dX7_right_92 rfl (by decide) ?_
              refine aw_iload_n (pc2 := 94) hk dX7_right_93 rfl rfl ?_
              refine aw_imul (pc2 := 95) hk dX7_right_94 rfl ?_
              refine aw_aload_n (pc2 := 96) hk dX7_right_95 rfl rfl ?_
              refine aw_get (pc2 := 99) hk ckX7 9 dX7_right_96 rfl fl_X7_36 (by decide) (o_X7 rfl) rfl ?_
              refine aw_iload_n (pc2 := 100) hk dX7_right_99 rfl rfl ?_
              refine h_iald (pc2 := 101) hk dX7_right_100 rfl rfl rfl (by omega) (by decide) ?_
              refine aw_iadd (pc2 := 102) hk dX7_right_101 rfl ?_
              rw [u2_a _ _ _ _ (by decide), hrc, mulN]
              refine aw_iload_n (pc2 := 103) hk dX7_right_102 rfl rfl ?_
              refine h_iast (pc2 := 104) hk dX7_right_103 rfl rfl rfl (by omega) (by decide) ?_
              refine aw_aload_n (pc2 := 105) hk dX7_right_104 rfl rfl ?_
              refine aw_get (pc2 := 108) hk ckX7 9 dX7_right_105 rfl fl_X7_36 (by decide) (o_X7 rfl) rfl ?_
              refine aw_iload_n (pc2 := 109) hk dX7_right_108 rfl rfl ?_
              refine aw_dup2_ir (pc2 := 110) hk dX7_right_109 rfl ?_
              refine h_iald (pc2 := 111) hk dX7_right_110 rfl rfl rfl (by omega) (by decide) ?_
              refine aw_iconst (v := 1) (pc2 := 112) hk dX7_right_111 rfl (by decide) ?_
              refine aw_iadd (pc2 := 113) hk dX7_right_112 rfl ?_
              refine aw_top (nI (rc + 1)) (by rw [u2_a _ _ _ _ (by decide), u2_a _ _ _ _ (by decide), hrc]; exact nI_1 rc) ?_
              refine h_iast (pc2 := 114) hk dX7_right_113 rfl rfl rfl (by omega) (by decide) ?_
              refine aw_aload_n (pc2 := 115) hk dX7_right_114 rfl rfl ?_
              refine aw_get (pc2 := 118) hk ckX7 9 dX7_right_115 rfl fl_X7_36 (by decide) (o_X7 rfl) rfl ?_
              refine aw_iload_n (pc2 := 119) hk dX7_right_118 rfl rfl ?_
              refine h_iald (pc2 := 120) hk dX7_right_119 rfl rfl rfl (by omega) (by decide) ?_
              refine aw_top (nI (rc + 1)) (u2_s _ _ _ _) ?_
              refine aw_iret hk dX7_right_120 (Nat.le_of_ble_eq_true rfl) (Nat.le_of_ble_eq_true rfl) (hq5 j rc rfl hj1 hrc (by omega) ham (bi_ff c53))
            · refine aw_bipush (v := -104) (pc2 := 71) hk dX7_right_69 rfl (by decide) ?_
              refine aw_iret hk dX7_right_71 (Nat.le_of_ble_eq_true rfl) (Nat.le_of_ble_eq_true rfl) (hq4 j rc rfl hj1 hrc c66 ham (bi_ff c53))
          · refine aw_bipush (v := -103) (pc2 := 58) hk dX7_right_56 rfl (by decide) ?_
            refine aw_iret hk dX7_right_58 (Nat.le_of_ble_eq_true rfl) (Nat.le_of_ble_eq_true rfl) (hq3 (bi_ya c5) ham (bi_tt c53))
        · refine aw_bipush (v := -102) (pc2 := 48) hk dX7_right_46 rfl (by decide) ?_
          refine aw_iret hk dX7_right_48 (Nat.le_of_ble_eq_true rfl) (Nat.le_of_ble_eq_true rfl) (hq2 (bi_ya c5) (fun h9 => by first | exact bi_no c43 (by simp only [i_lt, i_le, i_eqI, j_le, i64, k0, k1, k2, k1000, k1000000, l1] at *; omega) | exact bi_no c20 (by simp only [i_lt, i_le, i_eqI, j_le, i64, k0, k1, k2, k1000, k1000000, l1] at *; omega)))
      · refine aw_ldc2 (pc2 := 34) hk dX7_right_31 rfl kl_X7_159 ?_
        refine aw_goto (tgt := 40) hk dX7_right_34 (by decide) ?_
        refine aw_cS (rm2 := rmX7_in) (pc2 := 43) hk seX7_in dX7_right_40 rfl ml_X7_133 ⟨(Nat.le_of_ble_eq_true rfl), (Nat.le_of_ble_eq_true rfl)⟩ [_, _, _] rfl rfl (Nat.le_of_ble_eq_true rfl) (Nat.le_of_ble_eq_true rfl) (Nat.le_of_ble_eq_true rfl) (m_in ?_)
        refine aw_if_ne (tgt := 49) (pc2 := 46) hk dX7_right_43 (by decide) rfl (fun c43 => ?_) (fun c43 => ?_)
        · have h1 := bi_ya c20
          have h2 := bi_ya c43
          have ham : (k.toInt = 1 ∧ 0 ≤ a.toInt ∧ a.toInt ≤ 1000000) ∨ (k.toInt = 2 ∧ 0 ≤ a.toInt ∧ a.toInt ≤ 1000) := by simp only [i_lt, i_le, i_eqI, j_le, i64, k0, k1, k2, k1000, k1000000, l1] at *; omega
          obtain ⟨j, hj1, hj2⟩ := fok_of (bi_ya c5) hfc2
          subst hj2
          obtain ⟨rc, hrc4, hrc⟩ := hrc j hj1
          refine aw_aload_n (pc2 := 50) hk dX7_right_49 rfl rfl ?_
          refine aw_get (pc2 := 53) hk ckX7 17 dX7_right_50 rfl fl_X7_139 (by decide) (o_X7 rfl) rfl ?_
          rw [hmd]
          refine aw_if_eq (tgt := 59) (pc2 := 56) hk dX7_right_53 (by decide) rfl (fun c53 => ?_) (fun c53 => ?_)
          · refine aw_aload_n (pc2 := 60) hk dX7_right_59 rfl rfl ?_
            refine aw_get (pc2 := 63) hk ckX7 9 dX7_right_60 rfl fl_X7_36 (by decide) (o_X7 rfl) rfl ?_
            refine aw_iload_n (pc2 := 64) hk dX7_right_63 rfl rfl ?_
            refine h_iald (pc2 := 65) hk dX7_right_64 rfl rfl rfl (by omega) (by decide) ?_
            refine aw_iconst (v := 4) (pc2 := 66) hk dX7_right_65 rfl (by decide) ?_
            refine aw_icN_ne (x := rc) (y := 4) (tgt := 72) (pc2 := 69) hk dX7_right_66 (by decide) rfl hrc rfl (by omega) (by omega) (fun c66 => ?_) (fun c66 => ?_)
            · refine aw_aload_n (pc2 := 73) hk dX7_right_72 rfl rfl ?_
              refine aw_get (pc2 := 76) hk ckX7 10 dX7_right_73 rfl fl_X7_39 (by decide) (o_X7 rfl) rfl ?_
              refine aw_iconst (v := nI 4) (pc2 := 77) hk dX7_right_76 rfl (by decide) ?_
              refine aw_iload_n (pc2 := 78) hk dX7_right_77 rfl rfl ?_
              refine aw_imul (pc2 := 79) hk dX7_right_78 rfl ?_
              refine aw_aload_n (pc2 := 80) hk dX7_right_79 rfl rfl ?_
              refine aw_get (pc2 := 83) hk ckX7 9 dX7_right_80 rfl fl_X7_36 (by decide) (o_X7 rfl) rfl ?_
              refine aw_iload_n (pc2 := 84) hk dX7_right_83 rfl rfl ?_
              refine h_iald (pc2 := 85) hk dX7_right_84 rfl rfl rfl (by omega) (by decide) ?_
              refine aw_iadd (pc2 := 86) hk dX7_right_85 rfl ?_
              rw [hrc, mulN]
              refine aw_iload_n (pc2 := 87) hk dX7_right_86 rfl rfl ?_
              refine h_iast (pc2 := 88) hk dX7_right_87 rfl rfl rfl (by omega) (by decide) ?_
              refine aw_aload_n (pc2 := 89) hk dX7_right_88 rfl rfl ?_
              refine aw_get (pc2 := 92) hk ckX7 11 dX7_right_89 rfl fl_X7_42 (by decide) (o_X7 rfl) rfl ?_
              refine aw_iconst (v := nI 4) (pc2 := 93) hk dX7_right_92 rfl (by decide) ?_
              refine aw_iload_n (pc2 := 94) hk dX7_right_93 rfl rfl ?_
              refine aw_imul (pc2 := 95) hk dX7_right_94 rfl ?_
              refine aw_aload_n (pc2 := 96) hk dX7_right_95 rfl rfl ?_
              refine aw_get (pc2 := 99) hk ckX7 9 dX7_right_96 rfl fl_X7_36 (by decide) (o_X7 rfl) rfl ?_
              refine aw_iload_n (pc2 := 100) hk dX7_right_99 rfl rfl ?_
              refine h_iald (pc2 := 101) hk dX7_right_100 rfl rfl rfl (by omega) (by decide) ?_
              refine aw_iadd (pc2 := 102) hk dX7_right_101 rfl ?_
              rw [u2_a _ _ _ _ (by decide), hrc, mulN]
              refine aw_iload_n (pc2 := 103) hk dX7_right_102 rfl rfl ?_
              refine h_iast (pc2 := 104) hk dX7_right_103 rfl rfl rfl (by omega) (by decide) ?_
              refine aw_aload_n (pc2 := 105) hk dX7_right_104 rfl rfl ?_
              refine aw_get (pc2 := 108) hk ckX7 9 dX7_right_105 rfl fl_X7_36 (by decide) (o_X7 rfl) rfl ?_
              refine aw_iload_n (pc2 := 109) hk dX7_right_108 rfl rfl ?_
              refine aw_dup2_ir (pc2 := 110) hk dX7_right_109 rfl ?_
              refine h_iald (pc2 := 111) hk dX7_right_110 rfl rfl rfl (by omega) (by decide) ?_
              refine aw_iconst (v := 1) (pc2 := 112) hk dX7_right_111 rfl (by decide) ?_
              refine aw_iadd (pc2 := 113) hk dX7_right_112 rfl ?_
              refine aw_top (nI (rc + 1)) (by rw [u2_a _ _ _ _ (by decide), u2_a _ _ _ _ (by decide), hrc]; exact nI_1 rc) ?_
              refine h_iast (pc2 := 114) hk dX7_right_113 rfl rfl rfl (by omega) (by decide) ?_
              refine aw_aload_n (pc2 := 115) hk dX7_right_114 rfl rfl ?_
              refine aw_get (pc2 := 118) hk ckX7 9 dX7_right_115 rfl fl_X7_36 (by decide) (o_X7 rfl) rfl ?_
              refine aw_iload_n (pc2 := 119) hk dX7_right_118 rfl rfl ?_
              refine h_iald (pc2 := 120) hk dX7_right_119 rfl rfl rfl (by omega) (by decide) ?_
              refine aw_top (nI (rc + 1)) (u2_s _ _ _ _) ?_
              refine aw_iret hk dX7_right_120 (Nat.le_of_ble_eq_true rfl) (Nat.le_of_ble_eq_true rfl) (hq5 j rc rfl hj1 hrc (by omega) ham (bi_ff c53))
            · refine aw_bipush (v := -104) (pc2 := 71) hk dX7_right_69 rfl (by decide) ?_
              refine aw_iret hk dX7_right_71 (Nat.le_of_ble_eq_true rfl) (Nat.le_of_ble_eq_true rfl) (hq4 j rc rfl hj1 hrc c66 ham (bi_ff c53))
          · refine aw_bipush (v := -103) (pc2 := 58) hk dX7_right_56 rfl (by decide) ?_
            refine aw_iret hk dX7_right_58 (Nat.le_of_ble_eq_true rfl) (Nat.le_of_ble_eq_true rfl) (hq3 (bi_ya c5) ham (bi_tt c53))
        · refine aw_bipush (v := -102) (pc2 := 48) hk dX7_right_46 rfl (by decide) ?_
          refine aw_iret hk dX7_right_48 (Nat.le_of_ble_eq_true rfl) (Nat.le_of_ble_eq_true rfl) (hq2 (bi_ya c5) (fun h9 => by first | exact bi_no c43 (by simp only [i_lt, i_le, i_eqI, j_le, i64, k0, k1, k2, k1000, k1000000, l1] at *; omega) | exact bi_no c20 (by simp only [i_lt, i_le, i_eqI, j_le, i64, k0, k1, k2, k1000, k1000000, l1] at *; omega)))
  · refine aw_bipush (v := -101) (pc2 := 10) hk dX7_right_8 rfl (by decide) ?_
    refine aw_iret hk dX7_right_10 (Nat.le_of_ble_eq_true rfl) (Nat.le_of_ble_eq_true rfl) (hq1 (bi_no c5))
set_option maxHeartbeats 800000 in
set_option maxRecDepth 100000 in
theorem m_costOf {n : Nat} {d : D2} {I : M2} {J : J2} {S : M2} {L : J2} {R : R2} {Q : QT} {s c : Nat} (hs4 : s < 4) (hc : I 88 s = nI c) (hc20 : c ≤ 20) (hpos : ∀ j, j < c → 0 ≤ (I 89 (20 * s + j)).toInt) {x : Int32} (hq : Q (some (.int (onS (fun i => I 89 (20 * s + i)) (fun i => I 90 (20 * s + i)) x c).2)) n (H5 d I J S L R)) : Calls yX7_costOf cX7_costOf 6 (some .int) rmX7_costOf [.ref 78, .int (nI s), .int x] n (H5 d I J S L R) Q := by
  refine Calls.of (by decide) (Nat.le_of_ble_eq_true rfl) ?_
  intro K hk
  show AW K Q 0 0 0 [some (.ref 78), some (.int (nI s)), some (.int x), none, none, none] [] n (H5 d I J S L R)
  have loop : ∀ (k i : Nat), i ≤ c → c + 1 ≤ i + k → AW K Q 0 0 5 [some (.ref 78), some (.int (nI s)), some (.int x), some (.int (opI (bO (fun i => I 89 (20 * s + i)) x i))), some (.int (nI i)), none] [] n (H5 d I J S L R) := by
    intro k
    induction k with
    | zero => intro i  hi hn; omega
    | succ k ih =>
      intro i  hi hn
      refine aw_iload (pc2 := 7) hk dX7_costOf_5 rfl rfl ?_
      refine aw_aload_n (pc2 := 8) hk dX7_costOf_7 rfl rfl ?_
      refine aw_get (pc2 := 11) hk ckX7 12 dX7_costOf_8 rfl fl_X7_45 (by decide) (o_X7 rfl) rfl ?_
      refine aw_iload_n (pc2 := 12) hk dX7_costOf_11 rfl rfl ?_
      refine h_iald (pc2 := 13) hk dX7_costOf_12 rfl rfl rfl (by omega) (by decide) ?_
      refine aw_icN_ge (x := i) (y := c) (tgt := 66) (pc2 := 16) hk dX7_costOf_13 (by decide) rfl rfl hc (by omega) (by omega) (fun c13 => ?_) (fun c13 => ?_)
      · obtain rfl : i = c := by omega
        have hon := bO_on (f := fun i => I 89 (20 * s + i)) (v := fun i => I 90 (20 * s + i)) (day := x) i hpos
        refine aw_iload_n (pc2 := 67) hk dX7_costOf_66 rfl rfl ?_
        refine aw_iconst (v := -1) (pc2 := 68) hk dX7_costOf_67 rfl (by decide) ?_
        refine aw_icmp_ne (tgt := 75) (pc2 := 71) hk dX7_costOf_68 (by decide) rfl (fun c68 => ?_) (fun c68 => ?_)
        · obtain ⟨q, hq1, hq2⟩ := opI_some c68
          have hq3 := bO_lt _ _ _ _ hq1
          rw [hq1] at hon
          refine aw_aload_n (pc2 := 76) hk dX7_costOf_75 rfl rfl ?_
          refine aw_get (pc2 := 79) hk ckX7 14 dX7_costOf_76 rfl fl_X7_51 (by decide) (o_X7 rfl) rfl ?_
          refine aw_bipush (v := nI 20) (pc2 := 81) hk dX7_costOf_79 rfl (by decide) ?_
          refine aw_iload_n (pc2 := 82) hk dX7_costOf_81 rfl rfl ?_
          refine aw_imul (pc2 := 83) hk dX7_costOf_82 rfl ?_
          refine aw_iload_n (pc2 := 84) hk dX7_costOf_83 rfl rfl ?_
          refine aw_iadd (pc2 := 85) hk dX7_costOf_84 rfl ?_
          rw [hq2, mulN]
          refine h_iald (pc2 := 86) hk dX7_costOf_85 rfl rfl rfl (by omega) (by decide) ?_
          refine aw_iret hk dX7_costOf_86 (Nat.le_of_ble_eq_true rfl) (Nat.le_of_ble_eq_true rfl) (by rw [hon] at hq; exact hq)
        · have hno := opI_none c68 (fun q h => by have := bO_lt _ _ _ _ h; omega)
          rw [hno] at hon
          refine aw_iconst (v := 0) (pc2 := 72) hk dX7_costOf_71 rfl (by decide) ?_
          refine aw_goto (tgt := 86) hk dX7_costOf_72 (by decide) ?_
          refine aw_iret hk dX7_costOf_86 (Nat.le_of_ble_eq_true rfl) (Nat.le_of_ble_eq_true rfl) (by rw [hon] at hq; exact hq)
      · refine aw_aload_n (pc2 := 17) hk dX7_costOf_16 rfl rfl ?_
        refine aw_get (pc2 := 20) hk ckX7 13 dX7_costOf_17 rfl fl_X7_48 (by decide) (o_X7 rfl) rfl ?_
        refine aw_bipush (v := nI 20) (pc2 := 22) hk dX7_costOf_20 rfl (by decide) ?_
        refine aw_iload_n (pc2 := 23) hk dX7_costOf_22 rfl rfl ?_
        refine aw_imul (pc2 := 24) hk dX7_costOf_23 rfl ?_
        refine aw_iload (pc2 := 26) hk dX7_costOf_24 rfl rfl ?_
        refine aw_iadd (pc2 := 27) hk dX7_costOf_26 rfl ?_
        rw [mulN]
        refine h_iald (pc2 := 28) hk dX7_costOf_27 rfl rfl rfl (by omega) (by decide) ?_
        refine aw_istore (pc2 := 30) hk dX7_costOf_28 rfl (by decide) ?_
        show AW K Q _ _ 30 [_, _, _, _, _, _] _ _ _
        refine aw_iload (pc2 := 32) hk dX7_costOf_30 rfl rfl ?_
        refine aw_iload_n (pc2 := 33) hk dX7_costOf_32 rfl rfl ?_
        refine aw_icmp_gt (tgt := 60) (pc2 := 36) hk dX7_costOf_33 (by decide) rfl (fun c33 => ?_) (fun c33 => ?_)
        · first
            | (have e9 : (bO (fun i => I 89 (20 * s + i)) x (i + 1)) = (bO (fun i => I 89 (20 * s + i)) x i) := bO_f1 (fun h8 => by rw [i_le] at h8; rw [i_lt] at c33; omega)
               rw [← e9])
            | (have e9 : (bO (fun i => I 89 (20 * s + i)) x (i + 1)) = (bO (fun i => I 89 (20 * s + i)) x i) := bO_f2 hq1 (fun h8 => by rw [i_lt] at h8; rw [i_le] at c54; omega)
               rw [← hq2, ← e9])
            | (have e9 : (bO (fun i => I 89 (20 * s + i)) x (i + 1)) = some i := bO_t (by rw [i_le]; rw [i_lt] at c33; omega) (fun b h8 => by obtain rfl : q = b := Option.some.inj (hq1.symm.trans h8); rw [i_lt]; rw [i_le] at c54; omega)
               refine aw_lv [some (.ref 78), some (.int (nI s)), some (.int x), some (.int (opI (bO (fun i => I 89 (20 * s + i)) x (i + 1)))), some (.int (nI i)), some (.int (I 89 (20 * s + i)))] (by rw [e9]; rfl) ?_)
            | (have e9 : (bO (fun i => I 89 (20 * s + i)) x (i + 1)) = some i := bO_t (by rw [i_le]; rw [i_lt] at c33; omega) (fun b h8 => by rw [opI_none c38 (fun q h => by have := bO_lt _ _ _ _ h; omega)] at h8; cases h8)
               refine aw_lv [some (.ref 78), some (.int (nI s)), some (.int x), some (.int (opI (bO (fun i => I 89 (20 * s + i)) x (i + 1)))), some (.int (nI i)), some (.int (I 89 (20 * s + i)))] (by rw [e9]; rfl) ?_)
          refine aw_iinc1 (pc2 := 63) hk dX7_costOf_60 rfl rfl (by decide) ?_
          show AW K Q _ _ 63 [_, _, _, _, _, _] _ _ _
          refine aw_goto (tgt := 5) hk dX7_costOf_63 (by decide) ?_
          refine aw_fg 5 ?_
          exact ih (i + 1) (by omega) (by omega)
        · refine aw_iload_n (pc2 := 37) hk dX7_costOf_36 rfl rfl ?_
          refine aw_iconst (v := -1) (pc2 := 38) hk dX7_costOf_37 rfl (by decide) ?_
          refine aw_icmp_eq (tgt := 57) (pc2 := 41) hk dX7_costOf_38 (by decide) rfl (fun c38 => ?_) (fun c38 => ?_)
          · refine aw_iload (pc2 := 59) hk dX7_costOf_57 rfl rfl ?_
            refine aw_istore_n (pc2 := 60) hk dX7_costOf_59 rfl (by decide) ?_
            show AW K Q _ _ 60 [_, _, _, _, _, _] _ _ _
            first
              | (have e9 : (bO (fun i => I 89 (20 * s + i)) x (i + 1)) = (bO (fun i => I 89 (20 * s + i)) x i) := bO_f1 (fun h8 => by rw [i_le] at h8; rw [i_lt] at c33; omega)
                 rw [← e9])
              | (have e9 : (bO (fun i => I 89 (20 * s + i)) x (i + 1)) = (bO (fun i => I 89 (20 * s + i)) x i) := bO_f2 hq1 (fun h8 => by rw [i_lt] at h8; rw [i_le] at c54; omega)
                 rw [← hq2, ← e9])
              | (have e9 : (bO (fun i => I 89 (20 * s + i)) x (i + 1)) = some i := bO_t (by rw [i_le]; rw [i_lt] at c33; omega) (fun b h8 => by obtain rfl : q = b := Option.some.inj (hq1.symm.trans h8); rw [i_lt]; rw [i_le] at c54; omega)
                 refine aw_lv [some (.ref 78), some (.int (nI s)), some (.int x), some (.int (opI (bO (fun i => I 89 (20 * s + i)) x (i + 1)))), some (.int (nI i)), some (.int (I 89 (20 * s + i)))] (by rw [e9]; rfl) ?_)
              | (have e9 : (bO (fun i => I 89 (20 * s + i)) x (i + 1)) = some i := bO_t (by rw [i_le]; rw [i_lt] at c33; omega) (fun b h8 => by rw [opI_none c38 (fun q h => by have := bO_lt _ _ _ _ h; omega)] at h8; cases h8)
                 refine aw_lv [some (.ref 78), some (.int (nI s)), some (.int x), some (.int (opI (bO (fun i => I 89 (20 * s + i)) x (i + 1)))), some (.int (nI i)), some (.int (I 89 (20 * s + i)))] (by rw [e9]; rfl) ?_)
            refine aw_iinc1 (pc2 := 63) hk dX7_costOf_60 rfl rfl (by decide) ?_
            show AW K Q _ _ 63 [_, _, _, _, _, _] _ _ _
            refine aw_goto (tgt := 5) hk dX7_costOf_63 (by decide) ?_
            refine aw_fg 5 ?_
            exact ih (i + 1) (by omega) (by omega)
          · obtain ⟨q, hq1, hq2⟩ := opI_some c38
            have hq3 := bO_lt _ _ _ _ hq1
            refine aw_iload (pc2 := 43) hk dX7_costOf_41 rfl rfl ?_
            refine aw_aload_n (pc2 := 44) hk dX7_costOf_43 rfl rfl ?_
            refine aw_get (pc2 := 47) hk ckX7 13 dX7_costOf_44 rfl fl_X7_48 (by decide) (o_X7 rfl) rfl ?_
            refine aw_bipush (v := nI 20) (pc2 := 49) hk dX7_costOf_47 rfl (by decide) ?_
            refine aw_iload_n (pc2 := 50) hk dX7_costOf_49 rfl rfl ?_
            refine aw_imul (pc2 := 51) hk dX7_costOf_50 rfl ?_
            refine aw_iload_n (pc2 := 52) hk dX7_costOf_51 rfl rfl ?_
            refine aw_iadd (pc2 := 53) hk dX7_costOf_52 rfl ?_
            rw [hq2, mulN]
            refine h_iald (pc2 := 54) hk dX7_costOf_53 rfl rfl rfl (by omega) (by decide) ?_
            refine aw_icmp_le (tgt := 60) (pc2 := 57) hk dX7_costOf_54 (by decide) rfl (fun c54 => ?_) (fun c54 => ?_)
            · first
                | (have e9 : (bO (fun i => I 89 (20 * s + i)) x (i + 1)) = (bO (fun i => I 89 (20 * s + i)) x i) := bO_f1 (fun h8 => by rw [i_le] at h8; rw [i_lt] at c33; omega)
                   rw [← e9])
                | (have e9 : (bO (fun i => I 89 (20 * s + i)) x (i + 1)) = (bO (fun i => I 89 (20 * s + i)) x i) := bO_f2 hq1 (fun h8 => by rw [i_lt] at h8; rw [i_le] at c54; omega)
                   rw [← hq2, ← e9])
                | (have e9 : (bO (fun i => I 89 (20 * s + i)) x (i + 1)) = some i := bO_t (by rw [i_le]; rw [i_lt] at c33; omega) (fun b h8 => by obtain rfl : q = b := Option.some.inj (hq1.symm.trans h8); rw [i_lt]; rw [i_le] at c54; omega)
                   refine aw_lv [some (.ref 78), some (.int (nI s)), some (.int x), some (.int (opI (bO (fun i => I 89 (20 * s + i)) x (i + 1)))), some (.int (nI i)), some (.int (I 89 (20 * s + i)))] (by rw [e9]; rfl) ?_)
                | (have e9 : (bO (fun i => I 89 (20 * s + i)) x (i + 1)) = some i := bO_t (by rw [i_le]; rw [i_lt] at c33; omega) (fun b h8 => by rw [opI_none c38 (fun q h => by have := bO_lt _ _ _ _ h; omega)] at h8; cases h8)
                   refine aw_lv [some (.ref 78), some (.int (nI s)), some (.int x), some (.int (opI (bO (fun i => I 89 (20 * s + i)) x (i + 1)))), some (.int (nI i)), some (.int (I 89 (20 * s + i)))] (by rw [e9]; rfl) ?_)
              refine aw_iinc1 (pc2 := 63) hk dX7_costOf_60 rfl rfl (by decide) ?_
              show AW K Q _ _ 63 [_, _, _, _, _, _] _ _ _
              refine aw_goto (tgt := 5) hk dX7_costOf_63 (by decide) ?_
              refine aw_fg 5 ?_
              exact ih (i + 1) (by omega) (by omega)
            · refine aw_iload (pc2 := 59) hk dX7_costOf_57 rfl rfl ?_
              refine aw_istore_n (pc2 := 60) hk dX7_costOf_59 rfl (by decide) ?_
              show AW K Q _ _ 60 [_, _, _, _, _, _] _ _ _
              first
                | (have e9 : (bO (fun i => I 89 (20 * s + i)) x (i + 1)) = (bO (fun i => I 89 (20 * s + i)) x i) := bO_f1 (fun h8 => by rw [i_le] at h8; rw [i_lt] at c33; omega)
                   rw [← e9])
                | (have e9 : (bO (fun i => I 89 (20 * s + i)) x (i + 1)) = (bO (fun i => I 89 (20 * s + i)) x i) := bO_f2 hq1 (fun h8 => by rw [i_lt] at h8; rw [i_le] at c54; omega)
                   rw [← hq2, ← e9])
                | (have e9 : (bO (fun i => I 89 (20 * s + i)) x (i + 1)) = some i := bO_t (by rw [i_le]; rw [i_lt] at c33; omega) (fun b h8 => by obtain rfl : q = b := Option.some.inj (hq1.symm.trans h8); rw [i_lt]; rw [i_le] at c54; omega)
                   refine aw_lv [some (.ref 78), some (.int (nI s)), some (.int x), some (.int (opI (bO (fun i => I 89 (20 * s + i)) x (i + 1)))), some (.int (nI i)), some (.int (I 89 (20 * s + i)))] (by rw [e9]; rfl) ?_)
                | (have e9 : (bO (fun i => I 89 (20 * s + i)) x (i + 1)) = some i := bO_t (by rw [i_le]; rw [i_lt] at c33; omega) (fun b h8 => by rw [opI_none c38 (fun q h => by have := bO_lt _ _ _ _ h; omega)] at h8; cases h8)
                   refine aw_lv [some (.ref 78), some (.int (nI s)), some (.int x), some (.int (opI (bO (fun i => I 89 (20 * s + i)) x (i + 1)))), some (.int (nI i)), some (.int (I 89 (20 * s + i)))] (by rw [e9]; rfl) ?_)
              refine aw_iinc1 (pc2 := 63) hk dX7_costOf_60 rfl rfl (by decide) ?_
              show AW K Q _ _ 63 [_, _, _, _, _, _] _ _ _
              refine aw_goto (tgt := 5) hk dX7_costOf_63 (by decide) ?_
              refine aw_fg 5 ?_
              exact ih (i + 1) (by omega) (by omega)
  refine aw_iconst (v := -1) (pc2 := 1) hk dX7_costOf_0 rfl (by decide) ?_
  refine aw_istore_n (pc2 := 2) hk dX7_costOf_1 rfl (by decide) ?_
  show AW K Q _ _ 2 [_, _, _, _, _, _] _ _ _
  refine aw_iconst (v := 0) (pc2 := 3) hk dX7_costOf_2 rfl (by decide) ?_
  refine aw_istore (pc2 := 5) hk dX7_costOf_3 rfl (by decide) ?_
  show AW K Q _ _ 5 [_, _, _, _, _, _] _ _ _
  exact loop (c + 1) 0 (by omega) (by omega)
set_option maxHeartbeats 800000 in
set_option maxRecDepth 100000 in
theorem m_costs {n : Nat} {d : D2} {I : M2} {J : J2} {S : M2} {L : J2} {R : R2} {Q : QT} {x y : Int32} (hpc : ∀ j, j < 4 → ∃ c, c ≤ 20 ∧ I 88 j = nI c ∧ ∀ i, i < c → 0 ≤ (I 89 (20 * j + i)).toInt) (hq1 : ¬ (0 ≤ x.toInt ∧ x.toInt ≤ 3) → Q (some (.int (-101))) n (H5 d I J S L R)) (hq2 : (0 ≤ x.toInt ∧ x.toInt ≤ 3) → ¬ (0 ≤ y.toInt ∧ y.toInt ≤ 10000) → Q (some (.int (-102))) n (H5 d I J S L R)) (hq3 : ∀ j c, x = nI j → j < 4 → I 88 j = nI c → (0 ≤ y.toInt ∧ y.toInt ≤ 10000) → Q (some (.int (onS (fun i => I 89 (20 * j + i)) (fun i => I 90 (20 * j + i)) y c).2)) n (H5 d I J S L R)) : Calls yX7_costs cX7_costs 3 (some .int) rmX7_costs [.ref 78, .int x, .int y] n (H5 d I J S L R) Q := by
  refine Calls.of (by decide) (Nat.le_of_ble_eq_true rfl) ?_
  intro K hk
  show AW K Q 0 0 0 [some (.ref 78), some (.int x), some (.int y)] [] n (H5 d I J S L R)
  refine aw_iload_n (pc2 := 1) hk dX7_costs_0 rfl rfl ?_
  refine aw_i2l (pc2 := 2) hk dX7_costs_1 rfl ?_
  refine aw_lconst (v := 0) (pc2 := 3) hk dX7_costs_2 rfl (by decide) ?_
  refine aw_ldc2 (pc2 := 6) hk dX7_costs_3 rfl kl_X7_151 ?_
  refine aw_cS (rm2 := rmX7_in) (pc2 := 9) hk seX7_in dX7_costs_6 rfl ml_X7_133 ⟨(Nat.le_of_ble_eq_true rfl), (Nat.le_of_ble_eq_true rfl)⟩ [_, _, _] rfl rfl (Nat.le_of_ble_eq_true rfl) (Nat.le_of_ble_eq_true rfl) (Nat.le_of_ble_eq_true rfl) (m_in ?_)
  refine aw_if_ne (tgt := 15) (pc2 := 12) hk dX7_costs_9 (by decide) rfl (fun c9 => ?_) (fun c9 => ?_)
  · have h1 := bi_ya c9
    obtain ⟨j, hj1, hj2⟩ := fok_of (fc := 4) (f := x) (by unfold fok; simp only [j_le, i64, k0, k3, k10000, k100000] at *; omega) (by decide)
    subst hj2
    obtain ⟨c, hc20, hc, hpos⟩ := hpc j hj1
    have hps : 0 ≤ (nI j).toInt ∧ (nI j).toInt ≤ 3 := by simp only [j_le, i64, k0, k3, k10000, k100000] at *; omega
    refine aw_iload_n (pc2 := 16) hk dX7_costs_15 rfl rfl ?_
    refine aw_i2l (pc2 := 17) hk dX7_costs_16 rfl ?_
    refine aw_lconst (v := 0) (pc2 := 18) hk dX7_costs_17 rfl (by decide) ?_
    refine aw_ldc2 (pc2 := 21) hk dX7_costs_18 rfl kl_X7_163 ?_
    refine aw_cS (rm2 := rmX7_in) (pc2 := 24) hk seX7_in dX7_costs_21 rfl ml_X7_133 ⟨(Nat.le_of_ble_eq_true rfl), (Nat.le_of_ble_eq_true rfl)⟩ [_, _, _] rfl rfl (Nat.le_of_ble_eq_true rfl) (Nat.le_of_ble_eq_true rfl) (Nat.le_of_ble_eq_true rfl) (m_in ?_)
    refine aw_if_eq (tgt := 36) (pc2 := 27) hk dX7_costs_24 (by decide) rfl (fun c24 => ?_) (fun c24 => ?_)
    · have hnd : ¬ (0 ≤ y.toInt ∧ y.toInt ≤ 10000) := fun h9 => bi_no c24 (by simp only [j_le, i64, k0, k3, k10000, k100000] at *; omega)
      refine aw_bipush (v := -102) (pc2 := 38) hk dX7_costs_36 rfl (by decide) ?_
      refine aw_iret hk dX7_costs_38 (Nat.le_of_ble_eq_true rfl) (Nat.le_of_ble_eq_true rfl) (by first | exact hq3 j c rfl hj1 hc hd | exact hq2 hps hnd)
    · have h2 := bi_ya c24
      have hd : (0 ≤ y.toInt ∧ y.toInt ≤ 10000) := by simp only [j_le, i64, k0, k3, k10000, k100000] at *; omega
      refine aw_aload_n (pc2 := 28) hk dX7_costs_27 rfl rfl ?_
      refine aw_iload_n (pc2 := 29) hk dX7_costs_28 rfl rfl ?_
      refine aw_iload_n (pc2 := 30) hk dX7_costs_29 rfl rfl ?_
      refine aw_cV (rm2 := rmX7_costOf) (pc2 := 33) hk veX7_costOf dX7_costs_30 rfl ml_X7_167 ⟨(Nat.le_of_ble_eq_true rfl), (Nat.le_of_ble_eq_true rfl)⟩ [_, _] rfl rfl (Nat.le_of_ble_eq_true rfl) (Nat.le_of_ble_eq_true rfl) (Nat.le_of_ble_eq_true rfl) (o_X7 rfl) (m_costOf hj1 hc hc20 hpos ?_)
      refine aw_goto (tgt := 38) hk dX7_costs_33 (by decide) ?_
      refine aw_iret hk dX7_costs_38 (Nat.le_of_ble_eq_true rfl) (Nat.le_of_ble_eq_true rfl) (by first | exact hq3 j c rfl hj1 hc hd | exact hq2 hps hnd)
  · refine aw_bipush (v := -101) (pc2 := 14) hk dX7_costs_12 rfl (by decide) ?_
    refine aw_iret hk dX7_costs_14 (Nat.le_of_ble_eq_true rfl) (Nat.le_of_ble_eq_true rfl) (hq1 (fun h9 => bi_no c9 (by simp only [j_le, i64, k0, k3, k10000, k100000] at *; omega)))
set_option maxHeartbeats 800000 in
set_option maxRecDepth 100000 in
theorem m_price {n : Nat} {d : D2} {I : M2} {J : J2} {S : M2} {L : J2} {R : R2} {Q : QT} {x y z : Int32} (hpc : ∀ j, j < 4 → ∃ c, c ≤ 20 ∧ I 88 j = nI c ∧ ∀ i, i < c → 0 ≤ (I 89 (20 * j + i)).toInt) (hq1 : ¬ (0 ≤ x.toInt ∧ x.toInt ≤ 3) → Q (some (.int (-101))) n (H5 d I J S L R)) (hq2 : (0 ≤ x.toInt ∧ x.toInt ≤ 3) → ¬ ((0 ≤ y.toInt ∧ y.toInt ≤ 10000) ∧ rng z 0 100000) → Q (some (.int (-102))) n (H5 d I J S L R)) (hq3 : ∀ j c, x = nI j → j < 4 → I 88 j = nI c → ((0 ≤ y.toInt ∧ y.toInt ≤ 10000) ∧ rng z 0 100000) → fndI (fun i => I 89 (20 * j + i)) y c 0 < c → Q (some (.int (nI c))) n (H5 d (u2 (u2 I 89 (20 * j + fndI (fun i => I 89 (20 * j + i)) y c 0) y) 90 (20 * j + fndI (fun i => I 89 (20 * j + i)) y c 0) z) J S L R)) (hq4 : ∀ j c, x = nI j → j < 4 → I 88 j = nI c → ((0 ≤ y.toInt ∧ y.toInt ≤ 10000) ∧ rng z 0 100000) → fndI (fun i => I 89 (20 * j + i)) y c 0 = c → c = 20 → Q (some (.int (-104))) n (H5 d I J S L R)) (hq5 : ∀ j c, x = nI j → j < 4 → I 88 j = nI c → ((0 ≤ y.toInt ∧ y.toInt ≤ 10000) ∧ rng z 0 100000) → fndI (fun i => I 89 (20 * j + i)) y c 0 = c → c < 20 → Q (some (.int (nI (c + 1)))) n (H5 d (u2 (u2 (u2 I 88 j (nI (c + 1))) 89 (20 * j + c) y) 90 (20 * j + c) z) J S L R)) : Calls yX7_price cX7_price 5 (some .int) rmX7_price [.ref 78, .int x, .int y, .int z] n (H5 d I J S L R) Q := by
  refine Calls.of (by decide) (Nat.le_of_ble_eq_true rfl) ?_
  intro K hk
  show AW K Q 0 0 0 [some (.ref 78), some (.int x), some (.int y), some (.int z), none] [] n (H5 d I J S L R)
  refine aw_iload_n (pc2 := 1) hk dX7_price_0 rfl rfl ?_
  refine aw_i2l (pc2 := 2) hk dX7_price_1 rfl ?_
  refine aw_lconst (v := 0) (pc2 := 3) hk dX7_price_2 rfl (by decide) ?_
  refine aw_ldc2 (pc2 := 6) hk dX7_price_3 rfl kl_X7_151 ?_
  refine aw_cS (rm2 := rmX7_in) (pc2 := 9) hk seX7_in dX7_price_6 rfl ml_X7_133 ⟨(Nat.le_of_ble_eq_true rfl), (Nat.le_of_ble_eq_true rfl)⟩ [_, _, _] rfl rfl (Nat.le_of_ble_eq_true rfl) (Nat.le_of_ble_eq_true rfl) (Nat.le_of_ble_eq_true rfl) (m_in ?_)
  refine aw_if_ne (tgt := 15) (pc2 := 12) hk dX7_price_9 (by decide) rfl (fun c9 => ?_) (fun c9 => ?_)
  · have h1 := bi_ya c9
    obtain ⟨j, hj1, hj2⟩ := fok_of (fc := 4) (f := x) (by unfold fok; simp only [j_le, i64, k0, k3, k10000, k100000] at *; omega) (by decide)
    subst hj2
    obtain ⟨c, hc20, hc, hpos⟩ := hpc j hj1
    have hps : 0 ≤ (nI j).toInt ∧ (nI j).toInt ≤ 3 := by simp only [j_le, i64, k0, k3, k10000, k100000] at *; omega
    refine aw_iload_n (pc2 := 16) hk dX7_price_15 rfl rfl ?_
    refine aw_i2l (pc2 := 17) hk dX7_price_16 rfl ?_
    refine aw_lconst (v := 0) (pc2 := 18) hk dX7_price_17 rfl (by decide) ?_
    refine aw_ldc2 (pc2 := 21) hk dX7_price_18 rfl kl_X7_163 ?_
    refine aw_cS (rm2 := rmX7_in) (pc2 := 24) hk seX7_in dX7_price_21 rfl ml_X7_133 ⟨(Nat.le_of_ble_eq_true rfl), (Nat.le_of_ble_eq_true rfl)⟩ [_, _, _] rfl rfl (Nat.le_of_ble_eq_true rfl) (Nat.le_of_ble_eq_true rfl) (Nat.le_of_ble_eq_true rfl) (m_in ?_)
    refine aw_if_eq (tgt := 39) (pc2 := 27) hk dX7_price_24 (by decide) rfl (fun c24 => ?_) (fun c24 => ?_)
    · refine aw_bipush (v := -102) (pc2 := 41) hk dX7_price_39 rfl (by decide) ?_
      refine aw_iret hk dX7_price_41 (Nat.le_of_ble_eq_true rfl) (Nat.le_of_ble_eq_true rfl) (hq2 hps (fun h9 => by unfold rng at h9; first | exact bi_no c36 (by simp only [j_le, i64, k0, k3, k10000, k100000] at *; omega) | exact bi_no c24 (by simp only [j_le, i64, k0, k3, k10000, k100000] at *; omega)))
    · refine aw_iload_n (pc2 := 28) hk dX7_price_27 rfl rfl ?_
      refine aw_i2l (pc2 := 29) hk dX7_price_28 rfl ?_
      refine aw_lconst (v := 0) (pc2 := 30) hk dX7_price_29 rfl (by decide) ?_
      refine aw_ldc2 (pc2 := 33) hk dX7_price_30 rfl kl_X7_165 ?_
      refine aw_cS (rm2 := rmX7_in) (pc2 := 36) hk seX7_in dX7_price_33 rfl ml_X7_133 ⟨(Nat.le_of_ble_eq_true rfl), (Nat.le_of_ble_eq_true rfl)⟩ [_, _, _] rfl rfl (Nat.le_of_ble_eq_true rfl) (Nat.le_of_ble_eq_true rfl) (Nat.le_of_ble_eq_true rfl) (m_in ?_)
      refine aw_if_ne (tgt := 42) (pc2 := 39) hk dX7_price_36 (by decide) rfl (fun c36 => ?_) (fun c36 => ?_)
      · have h2 := bi_ya c24
        have h3 := bi_ya c36
        have hin : (0 ≤ y.toInt ∧ y.toInt ≤ 10000) ∧ rng z 0 100000 := by unfold rng; simp only [j_le, i64, k0, k3, k10000, k100000] at *; omega
        have loop : ∀ (k i : Nat), i ≤ c → c + 1 ≤ i + k → fndI (fun i => I 89 (20 * j + i)) y (c - i) i = fndI (fun i => I 89 (20 * j + i)) y c 0 → AW K Q 0 0 45 [some (.ref 78), some (.int (nI j)), some (.int y), some (.int z), some (.int (nI i))] [] n (H5 d I J S L R) := by
          intro k
          induction k with
          | zero => intro i h1 h2; omega
          | succ k ih =>
            intro i hi hn hinv
            refine aw_iload (pc2 := 47) hk dX7_price_45 rfl rfl ?_
            refine aw_aload_n (pc2 := 48) hk dX7_price_47 rfl rfl ?_
            refine aw_get (pc2 := 51) hk ckX7 12 dX7_price_48 rfl fl_X7_45 (by decide) (o_X7 rfl) rfl ?_
            refine aw_iload_n (pc2 := 52) hk dX7_price_51 rfl rfl ?_
            refine h_iald (pc2 := 53) hk dX7_price_52 rfl rfl rfl (by omega) (by decide) ?_
            refine aw_icN_ge (x := i) (y := c) (tgt := 78) (pc2 := 56) hk dX7_price_53 (by decide) rfl rfl hc (by omega) (by omega) (fun c53 => ?_) (fun c53 => ?_)
            · obtain rfl : i = c := by omega
              have hr : fndI (fun i => I 89 (20 * j + i)) y i 0 = i := by rw [← hinv, Nat.sub_self]; rfl
              refine aw_iload (pc2 := 80) hk dX7_price_78 rfl rfl ?_
              refine aw_bipush (v := 20) (pc2 := 82) hk dX7_price_80 rfl (by decide) ?_
              refine aw_icN_ne (x := i) (y := 20) (tgt := 88) (pc2 := 85) hk dX7_price_82 (by decide) rfl rfl rfl (by omega) (by omega) (fun c82 => ?_) (fun c82 => ?_)
              · refine aw_iload (pc2 := 90) hk dX7_price_88 rfl rfl ?_
                refine aw_aload_n (pc2 := 91) hk dX7_price_90 rfl rfl ?_
                refine aw_get (pc2 := 94) hk ckX7 12 dX7_price_91 rfl fl_X7_45 (by decide) (o_X7 rfl) rfl ?_
                refine aw_iload_n (pc2 := 95) hk dX7_price_94 rfl rfl ?_
                refine h_iald (pc2 := 96) hk dX7_price_95 rfl rfl rfl (by omega) (by decide) ?_
                refine aw_icN_ne (x := i) (y := i) (tgt := 109) (pc2 := 99) hk dX7_price_96 (by decide) rfl rfl hc (by omega) (by omega) (fun c96 => absurd c96 (by omega)) (fun c96 => ?_)
                refine aw_aload_n (pc2 := 100) hk dX7_price_99 rfl rfl ?_
                refine aw_get (pc2 := 103) hk ckX7 12 dX7_price_100 rfl fl_X7_45 (by decide) (o_X7 rfl) rfl ?_
                refine aw_iload_n (pc2 := 104) hk dX7_price_103 rfl rfl ?_
                refine aw_dup2_ir (pc2 := 105) hk dX7_price_104 rfl ?_
                refine h_iald (pc2 := 106) hk dX7_price_105 rfl rfl rfl (by omega) (by decide) ?_
                refine aw_iconst (v := 1) (pc2 := 107) hk dX7_price_106 rfl (by decide) ?_
                refine aw_iadd (pc2 := 108) hk dX7_price_107 rfl ?_
                refine aw_top (nI (i + 1)) (by rw [hc]; exact nI_1 i) ?_
                refine h_iast (pc2 := 109) hk dX7_price_108 rfl rfl rfl (by omega) (by decide) ?_
                refine aw_aload_n (pc2 := 110) hk dX7_price_109 rfl rfl ?_
                refine aw_get (pc2 := 113) hk ckX7 13 dX7_price_110 rfl fl_X7_48 (by decide) (o_X7 rfl) rfl ?_
                refine aw_bipush (v := nI 20) (pc2 := 115) hk dX7_price_113 rfl (by decide) ?_
                refine aw_iload_n (pc2 := 116) hk dX7_price_115 rfl rfl ?_
                refine aw_imul (pc2 := 117) hk dX7_price_116 rfl ?_
                refine aw_iload (pc2 := 119) hk dX7_price_117 rfl rfl ?_
                refine aw_iadd (pc2 := 120) hk dX7_price_119 rfl ?_
                refine aw_iload_n (pc2 := 121) hk dX7_price_120 rfl rfl ?_
                rw [mulN]
                refine h_iast (pc2 := 122) hk dX7_price_121 rfl rfl rfl (by omega) (by decide) ?_
                refine aw_aload_n (pc2 := 123) hk dX7_price_122 rfl rfl ?_
                refine aw_get (pc2 := 126) hk ckX7 14 dX7_price_123 rfl fl_X7_51 (by decide) (o_X7 rfl) rfl ?_
                refine aw_bipush (v := nI 20) (pc2 := 128) hk dX7_price_126 rfl (by decide) ?_
                refine aw_iload_n (pc2 := 129) hk dX7_price_128 rfl rfl ?_
                refine aw_imul (pc2 := 130) hk dX7_price_129 rfl ?_
                refine aw_iload (pc2 := 132) hk dX7_price_130 rfl rfl ?_
                refine aw_iadd (pc2 := 133) hk dX7_price_132 rfl ?_
                refine aw_iload_n (pc2 := 134) hk dX7_price_133 rfl rfl ?_
                rw [mulN]
                refine h_iast (pc2 := 135) hk dX7_price_134 rfl rfl rfl (by omega) (by decide) ?_
                refine aw_aload_n (pc2 := 136) hk dX7_price_135 rfl rfl ?_
                refine aw_get (pc2 := 139) hk ckX7 12 dX7_price_136 rfl fl_X7_45 (by decide) (o_X7 rfl) rfl ?_
                refine aw_iload_n (pc2 := 140) hk dX7_price_139 rfl rfl ?_
                refine h_iald (pc2 := 141) hk dX7_price_140 rfl rfl rfl (by omega) (by decide) ?_
                refine aw_top (nI (i + 1)) (by rw [u2_a _ _ _ _ (by decide), u2_a _ _ _ _ (by decide), u2_s]) ?_
                refine aw_iret hk dX7_price_141 (Nat.le_of_ble_eq_true rfl) (Nat.le_of_ble_eq_true rfl) (hq5 j i rfl hj1 hc hin hr (by omega))
              · refine aw_bipush (v := -104) (pc2 := 87) hk dX7_price_85 rfl (by decide) ?_
                refine aw_iret hk dX7_price_87 (Nat.le_of_ble_eq_true rfl) (Nat.le_of_ble_eq_true rfl) (hq4 j i rfl hj1 hc hin hr c82)
            · refine aw_aload_n (pc2 := 57) hk dX7_price_56 rfl rfl ?_
              refine aw_get (pc2 := 60) hk ckX7 13 dX7_price_57 rfl fl_X7_48 (by decide) (o_X7 rfl) rfl ?_
              refine aw_bipush (v := nI 20) (pc2 := 62) hk dX7_price_60 rfl (by decide) ?_
              refine aw_iload_n (pc2 := 63) hk dX7_price_62 rfl rfl ?_
              refine aw_imul (pc2 := 64) hk dX7_price_63 rfl ?_
              refine aw_iload (pc2 := 66) hk dX7_price_64 rfl rfl ?_
              refine aw_iadd (pc2 := 67) hk dX7_price_66 rfl ?_
              rw [mulN]
              refine h_iald (pc2 := 68) hk dX7_price_67 rfl rfl rfl (by omega) (by decide) ?_
              refine aw_iload_n (pc2 := 69) hk dX7_price_68 rfl rfl ?_
              refine aw_icmp_eq (tgt := 78) (pc2 := 72) hk dX7_price_69 (by decide) rfl (fun c69 => ?_) (fun c69 => ?_)
              · have hr : fndI (fun i => I 89 (20 * j + i)) y c 0 = i := by rw [← hinv, show c - i = c - i - 1 + 1 by omega]; unfold fndI; rw [if_pos c69]
                refine aw_iload (pc2 := 80) hk dX7_price_78 rfl rfl ?_
                refine aw_bipush (v := 20) (pc2 := 82) hk dX7_price_80 rfl (by decide) ?_
                refine aw_icN_ne (x := i) (y := 20) (tgt := 88) (pc2 := 85) hk dX7_price_82 (by decide) rfl rfl rfl (by omega) (by omega) (fun c82 => ?_) (fun c82 => absurd c82 (by omega))
                refine aw_iload (pc2 := 90) hk dX7_price_88 rfl rfl ?_
                refine aw_aload_n (pc2 := 91) hk dX7_price_90 rfl rfl ?_
                refine aw_get (pc2 := 94) hk ckX7 12 dX7_price_91 rfl fl_X7_45 (by decide) (o_X7 rfl) rfl ?_
                refine aw_iload_n (pc2 := 95) hk dX7_price_94 rfl rfl ?_
                refine h_iald (pc2 := 96) hk dX7_price_95 rfl rfl rfl (by omega) (by decide) ?_
                refine aw_icN_ne (x := i) (y := c) (tgt := 109) (pc2 := 99) hk dX7_price_96 (by decide) rfl rfl hc (by omega) (by omega) (fun c96 => ?_) (fun c96 => absurd c96 (by omega))
                refine aw_aload_n (pc2 := 110) hk dX7_price_109 rfl rfl ?_
                refine aw_get (pc2 := 113) hk ckX7 13 dX7_price_110 rfl fl_X7_48 (by decide) (o_X7 rfl) rfl ?_
                refine aw_bipush (v := nI 20) (pc2 := 115) hk dX7_price_113 rfl (by decide) ?_
                refine aw_iload_n (pc2 := 116) hk dX7_price_115 rfl rfl ?_
                refine aw_imul (pc2 := 117) hk dX7_price_116 rfl ?_
                refine aw_iload (pc2 := 119) hk dX7_price_117 rfl rfl ?_
                refine aw_iadd (pc2 := 120) hk dX7_price_119 rfl ?_
                refine aw_iload_n (pc2 := 121) hk dX7_price_120 rfl rfl ?_
                rw [mulN]
                refine h_iast (pc2 := 122) hk dX7_price_121 rfl rfl rfl (by omega) (by decide) ?_
                refine aw_aload_n (pc2 := 123) hk dX7_price_122 rfl rfl ?_
                refine aw_get (pc2 := 126) hk ckX7 14 dX7_price_123 rfl fl_X7_51 (by decide) (o_X7 rfl) rfl ?_
                refine aw_bipush (v := nI 20) (pc2 := 128) hk dX7_price_126 rfl (by decide) ?_
                refine aw_iload_n (pc2 := 129) hk dX7_price_128 rfl rfl ?_
                refine aw_imul (pc2 := 130) hk dX7_price_129 rfl ?_
                refine aw_iload (pc2 := 132) hk dX7_price_130 rfl rfl ?_
                refine aw_iadd (pc2 := 133) hk dX7_price_132 rfl ?_
                refine aw_iload_n (pc2 := 134) hk dX7_price_133 rfl rfl ?_
                rw [mulN]
                refine h_iast (pc2 := 135) hk dX7_price_134 rfl rfl rfl (by omega) (by decide) ?_
                refine aw_aload_n (pc2 := 136) hk dX7_price_135 rfl rfl ?_
                refine aw_get (pc2 := 139) hk ckX7 12 dX7_price_136 rfl fl_X7_45 (by decide) (o_X7 rfl) rfl ?_
                refine aw_iload_n (pc2 := 140) hk dX7_price_139 rfl rfl ?_
                refine h_iald (pc2 := 141) hk dX7_price_140 rfl rfl rfl (by omega) (by decide) ?_
                refine aw_top (nI c) (by rw [u2_a _ _ _ _ (by decide), u2_a _ _ _ _ (by decide)]; exact hc) ?_
                refine aw_iret hk dX7_price_141 (Nat.le_of_ble_eq_true rfl) (Nat.le_of_ble_eq_true rfl) (by have h9 := hq3 j c rfl hj1 hc hin (by rw [hr]; exact c53); rw [hr] at h9; exact h9)
              · refine aw_iinc1 (pc2 := 75) hk dX7_price_72 rfl rfl (by decide) ?_
                show AW K Q _ _ 75 [_, _, _, _, _] _ _ _
                refine aw_goto (tgt := 45) hk dX7_price_75 (by decide) ?_
                exact ih (i + 1) (by omega) (by omega) (by rw [← hinv, show c - i = c - (i + 1) + 1 by omega]; exact (if_neg c69).symm)
        refine aw_iconst (v := 0) (pc2 := 43) hk dX7_price_42 rfl (by decide) ?_
        refine aw_istore (pc2 := 45) hk dX7_price_43 rfl (by decide) ?_
        show AW K Q _ _ 45 [_, _, _, _, _] _ _ _
        exact loop (c + 1) 0 (by omega) (by omega) rfl
      · refine aw_bipush (v := -102) (pc2 := 41) hk dX7_price_39 rfl (by decide) ?_
        refine aw_iret hk dX7_price_41 (Nat.le_of_ble_eq_true rfl) (Nat.le_of_ble_eq_true rfl) (hq2 hps (fun h9 => by unfold rng at h9; first | exact bi_no c36 (by simp only [j_le, i64, k0, k3, k10000, k100000] at *; omega) | exact bi_no c24 (by simp only [j_le, i64, k0, k3, k10000, k100000] at *; omega)))
  · refine aw_bipush (v := -101) (pc2 := 14) hk dX7_price_12 rfl (by decide) ?_
    refine aw_iret hk dX7_price_14 (Nat.le_of_ble_eq_true rfl) (Nat.le_of_ble_eq_true rfl) (hq1 (fun h9 => bi_no c9 (by simp only [j_le, i64, k0, k3, k10000, k100000] at *; omega)))
set_option maxHeartbeats 800000 in
set_option maxRecDepth 100000 in
theorem m_rate {n : Nat} {d : D2} {I : M2} {J : J2} {S : M2} {L : J2} {R : R2} {Q : QT} {x y : Int32} (hq1 : ¬ (0 ≤ x.toInt ∧ x.toInt ≤ 4) → Q (some (.int (-101))) n (H5 d I J S L R)) (hq2 : ∀ j, x = nI j → j < 5 → ¬ (0 ≤ y.toInt ∧ y.toInt ≤ (xsR j).toInt) → Q (some (.int (-102))) n (H5 d I J S L R)) (hq3 : ∀ j, x = nI j → j < 5 → (0 ≤ y.toInt ∧ y.toInt ≤ (xsR j).toInt) → Q (some (.int (I 91 j))) n (H5 d (u2 I 91 j y) J S L R)) : Calls yX7_rate cX7_rate 5 (some .int) rmX7_rate [.ref 78, .int x, .int y] n (H5 d I J S L R) Q := by
  refine Calls.of (by decide) (Nat.le_of_ble_eq_true rfl) ?_
  intro K hk
  show AW K Q 0 0 0 [some (.ref 78), some (.int x), some (.int y), none, none] [] n (H5 d I J S L R)
  refine aw_iload_n (pc2 := 1) hk dX7_rate_0 rfl rfl ?_
  refine aw_i2l (pc2 := 2) hk dX7_rate_1 rfl ?_
  refine aw_lconst (v := 0) (pc2 := 3) hk dX7_rate_2 rfl (by decide) ?_
  refine aw_ldc2 (pc2 := 6) hk dX7_rate_3 rfl kl_X7_171 ?_
  refine aw_cS (rm2 := rmX7_in) (pc2 := 9) hk seX7_in dX7_rate_6 rfl ml_X7_133 ⟨(Nat.le_of_ble_eq_true rfl), (Nat.le_of_ble_eq_true rfl)⟩ [_, _, _] rfl rfl (Nat.le_of_ble_eq_true rfl) (Nat.le_of_ble_eq_true rfl) (Nat.le_of_ble_eq_true rfl) (m_in ?_)
  refine aw_if_ne (tgt := 15) (pc2 := 12) hk dX7_rate_9 (by decide) rfl (fun c9 => ?_) (fun c9 => ?_)
  · have h1 := bi_ya c9
    obtain ⟨j, hj1, hj2⟩ := fok_of (fc := 5) (f := x) (by unfold fok; simp only [j_le, i64, k0, k4] at *; omega) (by decide)
    subst hj2
    refine aw_iload_n (pc2 := 16) hk dX7_rate_15 rfl rfl ?_
    refine aw_if_eq (tgt := 29) (pc2 := 19) hk dX7_rate_16 (by decide) rfl (fun c16 => ?_) (fun c16 => ?_)
    · refine aw_sipush (v := 1000) (pc2 := 32) hk dX7_rate_29 rfl (by decide) ?_
      refine aw_goto (tgt := 48) hk dX7_rate_32 (by decide) ?_
      refine aw_top (xsR j) (by
        match j, hj1 with
        | 0, _ => first | rfl | exact absurd rfl c16 | exact absurd c26 (by decide) | exact absurd c37 (by decide)
        | 1, _ => first | rfl | exact absurd c16 (by decide) | exact absurd c21 (by decide) | exact absurd c26 (by decide) | exact absurd rfl c37
        | 2, _ => first | rfl | exact absurd rfl c21 | exact absurd c37 (by decide)
        | 3, _ => first | rfl | exact absurd c16 (by decide) | exact absurd c21 (by decide) | exact absurd c26 (by decide) | exact absurd c37 (by decide)
        | 4, _ => first | rfl | exact absurd rfl c26 | exact absurd c37 (by decide)) ?_
      refine aw_istore_n (pc2 := 49) hk dX7_rate_48 rfl (by decide) ?_
      show AW K Q _ _ 49 [_, _, _, _, _] _ _ _
      refine aw_iload_n (pc2 := 50) hk dX7_rate_49 rfl rfl ?_
      refine aw_i2l (pc2 := 51) hk dX7_rate_50 rfl ?_
      refine aw_lconst (v := 0) (pc2 := 52) hk dX7_rate_51 rfl (by decide) ?_
      refine aw_iload_n (pc2 := 53) hk dX7_rate_52 rfl rfl ?_
      refine aw_i2l (pc2 := 54) hk dX7_rate_53 rfl ?_
      refine aw_cS (rm2 := rmX7_in) (pc2 := 57) hk seX7_in dX7_rate_54 rfl ml_X7_133 ⟨(Nat.le_of_ble_eq_true rfl), (Nat.le_of_ble_eq_true rfl)⟩ [_, _, _] rfl rfl (Nat.le_of_ble_eq_true rfl) (Nat.le_of_ble_eq_true rfl) (Nat.le_of_ble_eq_true rfl) (m_in ?_)
      refine aw_if_ne (tgt := 63) (pc2 := 60) hk dX7_rate_57 (by decide) rfl (fun c57 => ?_) (fun c57 => ?_)
      · have h2 := bi_ya c57
        refine aw_aload_n (pc2 := 64) hk dX7_rate_63 rfl rfl ?_
        refine aw_get (pc2 := 67) hk ckX7 15 dX7_rate_64 rfl fl_X7_54 (by decide) (o_X7 rfl) rfl ?_
        refine aw_iload_n (pc2 := 68) hk dX7_rate_67 rfl rfl ?_
        refine h_iald (pc2 := 69) hk dX7_rate_68 rfl rfl rfl hj1 (by decide) ?_
        refine aw_istore (pc2 := 71) hk dX7_rate_69 rfl (by decide) ?_
        show AW K Q _ _ 71 [_, _, _, _, _] _ _ _
        refine aw_aload_n (pc2 := 72) hk dX7_rate_71 rfl rfl ?_
        refine aw_get (pc2 := 75) hk ckX7 15 dX7_rate_72 rfl fl_X7_54 (by decide) (o_X7 rfl) rfl ?_
        refine aw_iload_n (pc2 := 76) hk dX7_rate_75 rfl rfl ?_
        refine aw_iload_n (pc2 := 77) hk dX7_rate_76 rfl rfl ?_
        refine h_iast (pc2 := 78) hk dX7_rate_77 rfl rfl rfl hj1 (by decide) ?_
        refine aw_iload (pc2 := 80) hk dX7_rate_78 rfl rfl ?_
        refine aw_iret hk dX7_rate_80 (Nat.le_of_ble_eq_true rfl) (Nat.le_of_ble_eq_true rfl) (hq3 j rfl hj1 (by simp only [j_le, i64, k0] at *; omega))
      · refine aw_bipush (v := -102) (pc2 := 62) hk dX7_rate_60 rfl (by decide) ?_
        refine aw_iret hk dX7_rate_62 (Nat.le_of_ble_eq_true rfl) (Nat.le_of_ble_eq_true rfl) (hq2 j rfl hj1 (fun h9 => bi_no c57 (by simp only [j_le, i64, k0] at *; omega)))
    · refine aw_iload_n (pc2 := 20) hk dX7_rate_19 rfl rfl ?_
      refine aw_iconst (v := 2) (pc2 := 21) hk dX7_rate_20 rfl (by decide) ?_
      refine aw_icmp_eq (tgt := 29) (pc2 := 24) hk dX7_rate_21 (by decide) rfl (fun c21 => ?_) (fun c21 => ?_)
      · refine aw_sipush (v := 1000) (pc2 := 32) hk dX7_rate_29 rfl (by decide) ?_
        refine aw_goto (tgt := 48) hk dX7_rate_32 (by decide) ?_
        refine aw_top (xsR j) (by
          match j, hj1 with
          | 0, _ => first | rfl | exact absurd rfl c16 | exact absurd c26 (by decide) | exact absurd c37 (by decide)
          | 1, _ => first | rfl | exact absurd c16 (by decide) | exact absurd c21 (by decide) | exact absurd c26 (by decide) | exact absurd rfl c37
          | 2, _ => first | rfl | exact absurd rfl c21 | exact absurd c37 (by decide)
          | 3, _ => first | rfl | exact absurd c16 (by decide) | exact absurd c21 (by decide) | exact absurd c26 (by decide) | exact absurd c37 (by decide)
          | 4, _ => first | rfl | exact absurd rfl c26 | exact absurd c37 (by decide)) ?_
        refine aw_istore_n (pc2 := 49) hk dX7_rate_48 rfl (by decide) ?_
        show AW K Q _ _ 49 [_, _, _, _, _] _ _ _
        refine aw_iload_n (pc2 := 50) hk dX7_rate_49 rfl rfl ?_
        refine aw_i2l (pc2 := 51) hk dX7_rate_50 rfl ?_
        refine aw_lconst (v := 0) (pc2 := 52) hk dX7_rate_51 rfl (by decide) ?_
        refine aw_iload_n (pc2 := 53) hk dX7_rate_52 rfl rfl ?_
        refine aw_i2l (pc2 := 54) hk dX7_rate_53 rfl ?_
        refine aw_cS (rm2 := rmX7_in) (pc2 := 57) hk seX7_in dX7_rate_54 rfl ml_X7_133 ⟨(Nat.le_of_ble_eq_true rfl), (Nat.le_of_ble_eq_true rfl)⟩ [_, _, _] rfl rfl (Nat.le_of_ble_eq_true rfl) (Nat.le_of_ble_eq_true rfl) (Nat.le_of_ble_eq_true rfl) (m_in ?_)
        refine aw_if_ne (tgt := 63) (pc2 := 60) hk dX7_rate_57 (by decide) rfl (fun c57 => ?_) (fun c57 => ?_)
        · have h2 := bi_ya c57
          refine aw_aload_n (pc2 := 64) hk dX7_rate_63 rfl rfl ?_
          refine aw_get (pc2 := 67) hk ckX7 15 dX7_rate_64 rfl fl_X7_54 (by decide) (o_X7 rfl) rfl ?_
          refine aw_iload_n (pc2 := 68) hk dX7_rate_67 rfl rfl ?_
          refine h_iald (pc2 := 69) hk dX7_rate_68 rfl rfl rfl hj1 (by decide) ?_
          refine aw_istore (pc2 := 71) hk dX7_rate_69 rfl (by decide) ?_
          show AW K Q _ _ 71 [_, _, _, _, _] _ _ _
          refine aw_aload_n (pc2 := 72) hk dX7_rate_71 rfl rfl ?_
          refine aw_get (pc2 := 75) hk ckX7 15 dX7_rate_72 rfl fl_X7_54 (by decide) (o_X7 rfl) rfl ?_
          refine aw_iload_n (pc2 := 76) hk dX7_rate_75 rfl rfl ?_
          refine aw_iload_n (pc2 := 77) hk dX7_rate_76 rfl rfl ?_
          refine h_iast (pc2 := 78) hk dX7_rate_77 rfl rfl rfl hj1 (by decide) ?_
          refine aw_iload (pc2 := 80) hk dX7_rate_78 rfl rfl ?_
          refine aw_iret hk dX7_rate_80 (Nat.le_of_ble_eq_true rfl) (Nat.le_of_ble_eq_true rfl) (hq3 j rfl hj1 (by simp only [j_le, i64, k0] at *; omega))
        · refine aw_bipush (v := -102) (pc2 := 62) hk dX7_rate_60 rfl (by decide) ?_
          refine aw_iret hk dX7_rate_62 (Nat.le_of_ble_eq_true rfl) (Nat.le_of_ble_eq_true rfl) (hq2 j rfl hj1 (fun h9 => bi_no c57 (by simp only [j_le, i64, k0] at *; omega)))
      · refine aw_iload_n (pc2 := 25) hk dX7_rate_24 rfl rfl ?_
        refine aw_iconst (v := 4) (pc2 := 26) hk dX7_rate_25 rfl (by decide) ?_
        refine aw_icmp_ne (tgt := 35) (pc2 := 29) hk dX7_rate_26 (by decide) rfl (fun c26 => ?_) (fun c26 => ?_)
        · refine aw_iload_n (pc2 := 36) hk dX7_rate_35 rfl rfl ?_
          refine aw_iconst (v := 1) (pc2 := 37) hk dX7_rate_36 rfl (by decide) ?_
          refine aw_icmp_ne (tgt := 45) (pc2 := 40) hk dX7_rate_37 (by decide) rfl (fun c37 => ?_) (fun c37 => ?_)
          · refine aw_sipush (v := 10000) (pc2 := 48) hk dX7_rate_45 rfl (by decide) ?_
            refine aw_top (xsR j) (by
              match j, hj1 with
              | 0, _ => first | rfl | exact absurd rfl c16 | exact absurd c26 (by decide) | exact absurd c37 (by decide)
              | 1, _ => first | rfl | exact absurd c16 (by decide) | exact absurd c21 (by decide) | exact absurd c26 (by decide) | exact absurd rfl c37
              | 2, _ => first | rfl | exact absurd rfl c21 | exact absurd c37 (by decide)
              | 3, _ => first | rfl | exact absurd c16 (by decide) | exact absurd c21 (by decide) | exact absurd c26 (by decide) | exact absurd c37 (by decide)
              | 4, _ => first | rfl | exact absurd rfl c26 | exact absurd c37 (by decide)) ?_
            refine aw_istore_n (pc2 := 49) hk dX7_rate_48 rfl (by decide) ?_
            show AW K Q _ _ 49 [_, _, _, _, _] _ _ _
            refine aw_iload_n (pc2 := 50) hk dX7_rate_49 rfl rfl ?_
            refine aw_i2l (pc2 := 51) hk dX7_rate_50 rfl ?_
            refine aw_lconst (v := 0) (pc2 := 52) hk dX7_rate_51 rfl (by decide) ?_
            refine aw_iload_n (pc2 := 53) hk dX7_rate_52 rfl rfl ?_
            refine aw_i2l (pc2 := 54) hk dX7_rate_53 rfl ?_
            refine aw_cS (rm2 := rmX7_in) (pc2 := 57) hk seX7_in dX7_rate_54 rfl ml_X7_133 ⟨(Nat.le_of_ble_eq_true rfl), (Nat.le_of_ble_eq_true rfl)⟩ [_, _, _] rfl rfl (Nat.le_of_ble_eq_true rfl) (Nat.le_of_ble_eq_true rfl) (Nat.le_of_ble_eq_true rfl) (m_in ?_)
            refine aw_if_ne (tgt := 63) (pc2 := 60) hk dX7_rate_57 (by decide) rfl (fun c57 => ?_) (fun c57 => ?_)
            · have h2 := bi_ya c57
              refine aw_aload_n (pc2 := 64) hk dX7_rate_63 rfl rfl ?_
              refine aw_get (pc2 := 67) hk ckX7 15 dX7_rate_64 rfl fl_X7_54 (by decide) (o_X7 rfl) rfl ?_
              refine aw_iload_n (pc2 := 68) hk dX7_rate_67 rfl rfl ?_
              refine h_iald (pc2 := 69) hk dX7_rate_68 rfl rfl rfl hj1 (by decide) ?_
              refine aw_istore (pc2 := 71) hk dX7_rate_69 rfl (by decide) ?_
              show AW K Q _ _ 71 [_, _, _, _, _] _ _ _
              refine aw_aload_n (pc2 := 72) hk dX7_rate_71 rfl rfl ?_
              refine aw_get (pc2 := 75) hk ckX7 15 dX7_rate_72 rfl fl_X7_54 (by decide) (o_X7 rfl) rfl ?_
              refine aw_iload_n (pc2 := 76) hk dX7_rate_75 rfl rfl ?_
              refine aw_iload_n (pc2 := 77) hk dX7_rate_76 rfl rfl ?_
              refine h_iast (pc2 := 78) hk dX7_rate_77 rfl rfl rfl hj1 (by decide) ?_
              refine aw_iload (pc2 := 80) hk dX7_rate_78 rfl rfl ?_
              refine aw_iret hk dX7_rate_80 (Nat.le_of_ble_eq_true rfl) (Nat.le_of_ble_eq_true rfl) (hq3 j rfl hj1 (by simp only [j_le, i64, k0] at *; omega))
            · refine aw_bipush (v := -102) (pc2 := 62) hk dX7_rate_60 rfl (by decide) ?_
              refine aw_iret hk dX7_rate_62 (Nat.le_of_ble_eq_true rfl) (Nat.le_of_ble_eq_true rfl) (hq2 j rfl hj1 (fun h9 => bi_no c57 (by simp only [j_le, i64, k0] at *; omega)))
          · refine aw_ldc (pc2 := 42) hk dX7_rate_40 rfl ki_X7_173 ?_
            refine aw_goto (tgt := 48) hk dX7_rate_42 (by decide) ?_
            refine aw_top (xsR j) (by
              match j, hj1 with
              | 0, _ => first | rfl | exact absurd rfl c16 | exact absurd c26 (by decide) | exact absurd c37 (by decide)
              | 1, _ => first | rfl | exact absurd c16 (by decide) | exact absurd c21 (by decide) | exact absurd c26 (by decide) | exact absurd rfl c37
              | 2, _ => first | rfl | exact absurd rfl c21 | exact absurd c37 (by decide)
              | 3, _ => first | rfl | exact absurd c16 (by decide) | exact absurd c21 (by decide) | exact absurd c26 (by decide) | exact absurd c37 (by decide)
              | 4, _ => first | rfl | exact absurd rfl c26 | exact absurd c37 (by decide)) ?_
            refine aw_istore_n (pc2 := 49) hk dX7_rate_48 rfl (by decide) ?_
            show AW K Q _ _ 49 [_, _, _, _, _] _ _ _
            refine aw_iload_n (pc2 := 50) hk dX7_rate_49 rfl rfl ?_
            refine aw_i2l (pc2 := 51) hk dX7_rate_50 rfl ?_
            refine aw_lconst (v := 0) (pc2 := 52) hk dX7_rate_51 rfl (by decide) ?_
            refine aw_iload_n (pc2 := 53) hk dX7_rate_52 rfl rfl ?_
            refine aw_i2l (pc2 := 54) hk dX7_rate_53 rfl ?_
            refine aw_cS (rm2 := rmX7_in) (pc2 := 57) hk seX7_in dX7_rate_54 rfl ml_X7_133 ⟨(Nat.le_of_ble_eq_true rfl), (Nat.le_of_ble_eq_true rfl)⟩ [_, _, _] rfl rfl (Nat.le_of_ble_eq_true rfl) (Nat.le_of_ble_eq_true rfl) (Nat.le_of_ble_eq_true rfl) (m_in ?_)
            refine aw_if_ne (tgt := 63) (pc2 := 60) hk dX7_rate_57 (by decide) rfl (fun c57 => ?_) (fun c57 => ?_)
            · have h2 := bi_ya c57
              refine aw_aload_n (pc2 := 64) hk dX7_rate_63 rfl rfl ?_
              refine aw_get (pc2 := 67) hk ckX7 15 dX7_rate_64 rfl fl_X7_54 (by decide) (o_X7 rfl) rfl ?_
              refine aw_iload_n (pc2 := 68) hk dX7_rate_67 rfl rfl ?_
              refine h_iald (pc2 := 69) hk dX7_rate_68 rfl rfl rfl hj1 (by decide) ?_
              refine aw_istore (pc2 := 71) hk dX7_rate_69 rfl (by decide) ?_
              show AW K Q _ _ 71 [_, _, _, _, _] _ _ _
              refine aw_aload_n (pc2 := 72) hk dX7_rate_71 rfl rfl ?_
              refine aw_get (pc2 := 75) hk ckX7 15 dX7_rate_72 rfl fl_X7_54 (by decide) (o_X7 rfl) rfl ?_
              refine aw_iload_n (pc2 := 76) hk dX7_rate_75 rfl rfl ?_
              refine aw_iload_n (pc2 := 77) hk dX7_rate_76 rfl rfl ?_
              refine h_iast (pc2 := 78) hk dX7_rate_77 rfl rfl rfl hj1 (by decide) ?_
              refine aw_iload (pc2 := 80) hk dX7_rate_78 rfl rfl ?_
              refine aw_iret hk dX7_rate_80 (Nat.le_of_ble_eq_true rfl) (Nat.le_of_ble_eq_true rfl) (hq3 j rfl hj1 (by simp only [j_le, i64, k0] at *; omega))
            · refine aw_bipush (v := -102) (pc2 := 62) hk dX7_rate_60 rfl (by decide) ?_
              refine aw_iret hk dX7_rate_62 (Nat.le_of_ble_eq_true rfl) (Nat.le_of_ble_eq_true rfl) (hq2 j rfl hj1 (fun h9 => bi_no c57 (by simp only [j_le, i64, k0] at *; omega)))
        · refine aw_sipush (v := 1000) (pc2 := 32) hk dX7_rate_29 rfl (by decide) ?_
          refine aw_goto (tgt := 48) hk dX7_rate_32 (by decide) ?_
          refine aw_top (xsR j) (by
            match j, hj1 with
            | 0, _ => first | rfl | exact absurd rfl c16 | exact absurd c26 (by decide) | exact absurd c37 (by decide)
            | 1, _ => first | rfl | exact absurd c16 (by decide) | exact absurd c21 (by decide) | exact absurd c26 (by decide) | exact absurd rfl c37
            | 2, _ => first | rfl | exact absurd rfl c21 | exact absurd c37 (by decide)
            | 3, _ => first | rfl | exact absurd c16 (by decide) | exact absurd c21 (by decide) | exact absurd c26 (by decide) | exact absurd c37 (by decide)
            | 4, _ => first | rfl | exact absurd rfl c26 | exact absurd c37 (by decide)) ?_
          refine aw_istore_n (pc2 := 49) hk dX7_rate_48 rfl (by decide) ?_
          show AW K Q _ _ 49 [_, _, _, _, _] _ _ _
          refine aw_iload_n (pc2 := 50) hk dX7_rate_49 rfl rfl ?_
          refine aw_i2l (pc2 := 51) hk dX7_rate_50 rfl ?_
          refine aw_lconst (v := 0) (pc2 := 52) hk dX7_rate_51 rfl (by decide) ?_
          refine aw_iload_n (pc2 := 53) hk dX7_rate_52 rfl rfl ?_
          refine aw_i2l (pc2 := 54) hk dX7_rate_53 rfl ?_
          refine aw_cS (rm2 := rmX7_in) (pc2 := 57) hk seX7_in dX7_rate_54 rfl ml_X7_133 ⟨(Nat.le_of_ble_eq_true rfl), (Nat.le_of_ble_eq_true rfl)⟩ [_, _, _] rfl rfl (Nat.le_of_ble_eq_true rfl) (Nat.le_of_ble_eq_true rfl) (Nat.le_of_ble_eq_true rfl) (m_in ?_)
          refine aw_if_ne (tgt := 63) (pc2 := 60) hk dX7_rate_57 (by decide) rfl (fun c57 => ?_) (fun c57 => ?_)
          · have h2 := bi_ya c57
            refine aw_aload_n (pc2 := 64) hk dX7_rate_63 rfl rfl ?_
            refine aw_get (pc2 := 67) hk ckX7 15 dX7_rate_64 rfl fl_X7_54 (by decide) (o_X7 rfl) rfl ?_
            refine aw_iload_n (pc2 := 68) hk dX7_rate_67 rfl rfl ?_
            refine h_iald (pc2 := 69) hk dX7_rate_68 rfl rfl rfl hj1 (by decide) ?_
            refine aw_istore (pc2 := 71) hk dX7_rate_69 rfl (by decide) ?_
            show AW K Q _ _ 71 [_, _, _, _, _] _ _ _
            refine aw_aload_n (pc2 := 72) hk dX7_rate_71 rfl rfl ?_
            refine aw_get (pc2 := 75) hk ckX7 15 dX7_rate_72 rfl fl_X7_54 (by decide) (o_X7 rfl) rfl ?_
            refine aw_iload_n (pc2 := 76) hk dX7_rate_75 rfl rfl ?_
            refine aw_iload_n (pc2 := 77) hk dX7_rate_76 rfl rfl ?_
            refine h_iast (pc2 := 78) hk dX7_rate_77 rfl rfl rfl hj1 (by decide) ?_
            refine aw_iload (pc2 := 80) hk dX7_rate_78 rfl rfl ?_
            refine aw_iret hk dX7_rate_80 (Nat.le_of_ble_eq_true rfl) (Nat.le_of_ble_eq_true rfl) (hq3 j rfl hj1 (by simp only [j_le, i64, k0] at *; omega))
          · refine aw_bipush (v := -102) (pc2 := 62) hk dX7_rate_60 rfl (by decide) ?_
            refine aw_iret hk dX7_rate_62 (Nat.le_of_ble_eq_true rfl) (Nat.le_of_ble_eq_true rfl) (hq2 j rfl hj1 (fun h9 => bi_no c57 (by simp only [j_le, i64, k0] at *; omega)))
  · refine aw_bipush (v := -101) (pc2 := 14) hk dX7_rate_12 rfl (by decide) ?_
    refine aw_iret hk dX7_rate_14 (Nat.le_of_ble_eq_true rfl) (Nat.le_of_ble_eq_true rfl) (hq1 (fun h9 => bi_no c9 (by simp only [j_le, i64, k0, k4] at *; omega)))
set_option maxHeartbeats 800000 in
set_option maxRecDepth 100000 in
theorem m_days {n : Nat} {d : D2} {I : M2} {J : J2} {S : M2} {L : J2} {R : R2} {Q : QT} {w g fc oc uc td : Nat} {md op : Bool} (hB : MB S w g fc oc uc td md op) {x : Int32} (hq1 : (∀ j, x = nI j → ¬ ((1 ≤ j ∧ j ≤ 1000) ∧ td + j ≤ 10000)) → Q (some (.int (-102))) n (H5 d I J S L R)) (hq2 : ∀ j, x = nI j → (1 ≤ j ∧ j ≤ 1000) → td + j ≤ 10000 → Q (some (.int (nI (td + j)))) n (H5 d I J (u2 S 78 16 (nI (td + j))) L R)) : Calls yX7_days cX7_days 2 (some .int) rmX7_days [.ref 78, .int x] n (H5 d I J S L R) Q := by
  refine Calls.of (by decide) (Nat.le_of_ble_eq_true rfl) ?_
  intro K hk
  show AW K Q 0 0 0 [some (.ref 78), some (.int x)] [] n (H5 d I J S L R)
  obtain ⟨hw, hg, hw1, hw6, hg1, hg6, hfc, hfc2, hoc, hoc6, huc, huc5, htd, htd4, hmd, hop⟩ := id hB
  refine aw_iload_n (pc2 := 1) hk dX7_days_0 rfl rfl ?_
  refine aw_i2l (pc2 := 2) hk dX7_days_1 rfl ?_
  refine aw_lconst (v := 1) (pc2 := 3) hk dX7_days_2 rfl (by decide) ?_
  refine aw_ldc2 (pc2 := 6) hk dX7_days_3 rfl kl_X7_161 ?_
  refine aw_cS (rm2 := rmX7_in) (pc2 := 9) hk seX7_in dX7_days_6 rfl ml_X7_133 ⟨(Nat.le_of_ble_eq_true rfl), (Nat.le_of_ble_eq_true rfl)⟩ [_, _, _] rfl rfl (Nat.le_of_ble_eq_true rfl) (Nat.le_of_ble_eq_true rfl) (Nat.le_of_ble_eq_true rfl) (m_in ?_)
  refine aw_if_eq (tgt := 24) (pc2 := 12) hk dX7_days_9 (by decide) rfl (fun c9 => ?_) (fun c9 => ?_)
  · refine aw_bipush (v := -102) (pc2 := 26) hk dX7_days_24 rfl (by decide) ?_
    refine aw_iret hk dX7_days_26 (Nat.le_of_ble_eq_true rfl) (Nat.le_of_ble_eq_true rfl) (by first | exact hq1 (fun j h9 h8 => by subst h9; refine bi_no c9 ?_; have h7 := nI_toInt (show j < 2 ^ 31 by omega); simp only [j_le, i64, k1, k1000] at *; omega) | exact hq1 (fun j2 h9 h8 => by have e8 : j = j2 := (nI_eq (by omega) (by omega)).mp h9; omega))
  · have h1 := bi_ya c9
    have hr : 1 ≤ x.toInt ∧ x.toInt ≤ 1000 := by simp only [j_le, i64, k1, k1000] at *; omega
    obtain ⟨j, hj1, hj2⟩ : ∃ j, (1 ≤ j ∧ j ≤ 1000) ∧ x = nI j := ⟨x.toInt.toNat, by omega, i_eq (by omega)⟩
    subst hj2
    refine aw_aload_n (pc2 := 13) hk dX7_days_12 rfl rfl ?_
    refine aw_get (pc2 := 16) hk ckX7 16 dX7_days_13 rfl fl_X7_174 (by decide) (o_X7 rfl) rfl ?_
    refine aw_iload_n (pc2 := 17) hk dX7_days_16 rfl rfl ?_
    refine aw_iadd (pc2 := 18) hk dX7_days_17 rfl ?_
    refine aw_top (nI (td + j)) (by rw [htd]; exact nI_add _ _) ?_
    refine aw_sipush (v := 10000) (pc2 := 21) hk dX7_days_18 rfl (by decide) ?_
    refine aw_icN_le (x := td + j) (y := 10000) (tgt := 27) (pc2 := 24) hk dX7_days_21 (by decide) rfl rfl rfl (by omega) (by omega) (fun c21 => ?_) (fun c21 => ?_)
    · refine aw_aload_n (pc2 := 28) hk dX7_days_27 rfl rfl ?_
      refine aw_dup_r (pc2 := 29) hk dX7_days_28 rfl ?_
      refine aw_get (pc2 := 32) hk ckX7 16 dX7_days_29 rfl fl_X7_174 (by decide) (o_X7 rfl) rfl ?_
      refine aw_iload_n (pc2 := 33) hk dX7_days_32 rfl rfl ?_
      refine aw_iadd (pc2 := 34) hk dX7_days_33 rfl ?_
      refine aw_top (nI (td + j)) (by rw [htd]; exact nI_add _ _) ?_
      refine aw_put (pc2 := 37) hk ckX7 16 dX7_days_34 rfl fl_X7_174 (by decide) rfl (o_X7 rfl) (fun _ => rfl) (fun _ => rfl) (Nat.le_of_ble_eq_true rfl) ?_
      rw [p_X7_16 rfl]
      refine aw_aload_n (pc2 := 38) hk dX7_days_37 rfl rfl ?_
      refine aw_get (pc2 := 41) hk ckX7 16 dX7_days_38 rfl fl_X7_174 (by decide) (o_X7 rfl) rfl ?_
      refine aw_top (nI (td + j)) (u2_s _ _ _ _) ?_
      refine aw_iret hk dX7_days_41 (Nat.le_of_ble_eq_true rfl) (Nat.le_of_ble_eq_true rfl) (hq2 j rfl hj1 c21)
    · refine aw_bipush (v := -102) (pc2 := 26) hk dX7_days_24 rfl (by decide) ?_
      refine aw_iret hk dX7_days_26 (Nat.le_of_ble_eq_true rfl) (Nat.le_of_ble_eq_true rfl) (by first | exact hq1 (fun j h9 h8 => by subst h9; refine bi_no c9 ?_; have h7 := nI_toInt (show j < 2 ^ 31 by omega); simp only [j_le, i64, k1, k1000] at *; omega) | exact hq1 (fun j2 h9 h8 => by have e8 : j = j2 := (nI_eq (by omega) (by omega)).mp h9; omega))
set_option maxHeartbeats 800000 in
set_option maxRecDepth 100000 in
theorem m_overX {n : Nat} {h : HP} {Q : QT} {s : Nat} (hs : s < 4) (hq : Q (some (.int (ovX s))) n h) : Calls yX7_overX cX7_overX 1 (some .int) rmX7_overX [.int (nI s)] n (h) Q := by
  refine Calls.of (by decide) (Nat.le_of_ble_eq_true rfl) ?_
  intro K hk
  show AW K Q 0 0 0 [some (.int (nI s))] [] n (h)
  refine aw_iload_n (pc2 := 1) hk dX7_overX_0 rfl rfl ?_
  refine aw_if_ne (tgt := 8) (pc2 := 4) hk dX7_overX_1 (by decide) rfl (fun c1 => ?_) (fun c1 => ?_)
  · refine aw_iload_n (pc2 := 9) hk dX7_overX_8 rfl rfl ?_
    refine aw_iconst (v := 1) (pc2 := 10) hk dX7_overX_9 rfl (by decide) ?_
    refine aw_icmp_ne (tgt := 17) (pc2 := 13) hk dX7_overX_10 (by decide) rfl (fun c10 => ?_) (fun c10 => ?_)
    · refine aw_iconst (v := 0) (pc2 := 18) hk dX7_overX_17 rfl (by decide) ?_
      refine aw_iret hk dX7_overX_18 (Nat.le_of_ble_eq_true rfl) (Nat.le_of_ble_eq_true rfl) (by
  match s, hs with
  | 0, _ => first | exact hq | exact absurd c1 (by decide) | exact absurd c10 (by decide) | exact absurd rfl c1 | exact absurd rfl c10
  | 1, _ => first | exact hq | exact absurd c1 (by decide) | exact absurd c10 (by decide) | exact absurd rfl c1 | exact absurd rfl c10
  | 2, _ => first | exact hq | exact absurd c1 (by decide) | exact absurd c10 (by decide) | exact absurd rfl c1 | exact absurd rfl c10
  | 3, _ => first | exact hq | exact absurd c1 (by decide) | exact absurd c10 (by decide) | exact absurd rfl c1 | exact absurd rfl c10)
    · refine aw_iconst (v := 1) (pc2 := 14) hk dX7_overX_13 rfl (by decide) ?_
      refine aw_goto (tgt := 18) hk dX7_overX_14 (by decide) ?_
      refine aw_iret hk dX7_overX_18 (Nat.le_of_ble_eq_true rfl) (Nat.le_of_ble_eq_true rfl) (by
  match s, hs with
  | 0, _ => first | exact hq | exact absurd c1 (by decide) | exact absurd c10 (by decide) | exact absurd rfl c1 | exact absurd rfl c10
  | 1, _ => first | exact hq | exact absurd c1 (by decide) | exact absurd c10 (by decide) | exact absurd rfl c1 | exact absurd rfl c10
  | 2, _ => first | exact hq | exact absurd c1 (by decide) | exact absurd c10 (by decide) | exact absurd rfl c1 | exact absurd rfl c10
  | 3, _ => first | exact hq | exact absurd c1 (by decide) | exact absurd c10 (by decide) | exact absurd rfl c1 | exact absurd rfl c10)
  · refine aw_iconst (v := -1) (pc2 := 5) hk dX7_overX_4 rfl (by decide) ?_
    refine aw_goto (tgt := 18) hk dX7_overX_5 (by decide) ?_
    refine aw_iret hk dX7_overX_18 (Nat.le_of_ble_eq_true rfl) (Nat.le_of_ble_eq_true rfl) (by
  match s, hs with
  | 0, _ => first | exact hq | exact absurd c1 (by decide) | exact absurd c10 (by decide) | exact absurd rfl c1 | exact absurd rfl c10
  | 1, _ => first | exact hq | exact absurd c1 (by decide) | exact absurd c10 (by decide) | exact absurd rfl c1 | exact absurd rfl c10
  | 2, _ => first | exact hq | exact absurd c1 (by decide) | exact absurd c10 (by decide) | exact absurd rfl c1 | exact absurd rfl c10
  | 3, _ => first | exact hq | exact absurd c1 (by decide) | exact absurd c10 (by decide) | exact absurd rfl c1 | exact absurd rfl c10)
set_option maxHeartbeats 800000 in
set_option maxRecDepth 100000 in
theorem m_overY {n : Nat} {h : HP} {Q : QT} {s : Nat} (hs : s < 4) (hq : Q (some (.int (ovY s))) n h) : Calls yX7_overY cX7_overY 1 (some .int) rmX7_overY [.int (nI s)] n (h) Q := by
  refine Calls.of (by decide) (Nat.le_of_ble_eq_true rfl) ?_
  intro K hk
  show AW K Q 0 0 0 [some (.int (nI s))] [] n (h)
  refine aw_iload_n (pc2 := 1) hk dX7_overY_0 rfl rfl ?_
  refine aw_iconst (v := 2) (pc2 := 2) hk dX7_overY_1 rfl (by decide) ?_
  refine aw_icmp_ne (tgt := 9) (pc2 := 5) hk dX7_overY_2 (by decide) rfl (fun c2 => ?_) (fun c2 => ?_)
  · refine aw_iload_n (pc2 := 10) hk dX7_overY_9 rfl rfl ?_
    refine aw_iconst (v := 3) (pc2 := 11) hk dX7_overY_10 rfl (by decide) ?_
    refine aw_icmp_ne (tgt := 18) (pc2 := 14) hk dX7_overY_11 (by decide) rfl (fun c11 => ?_) (fun c11 => ?_)
    · refine aw_iconst (v := 0) (pc2 := 19) hk dX7_overY_18 rfl (by decide) ?_
      refine aw_iret hk dX7_overY_19 (Nat.le_of_ble_eq_true rfl) (Nat.le_of_ble_eq_true rfl) (by
  match s, hs with
  | 0, _ => first | exact hq | exact absurd c2 (by decide) | exact absurd c11 (by decide) | exact absurd rfl c2 | exact absurd rfl c11
  | 1, _ => first | exact hq | exact absurd c2 (by decide) | exact absurd c11 (by decide) | exact absurd rfl c2 | exact absurd rfl c11
  | 2, _ => first | exact hq | exact absurd c2 (by decide) | exact absurd c11 (by decide) | exact absurd rfl c2 | exact absurd rfl c11
  | 3, _ => first | exact hq | exact absurd c2 (by decide) | exact absurd c11 (by decide) | exact absurd rfl c2 | exact absurd rfl c11)
    · refine aw_iconst (v := 1) (pc2 := 15) hk dX7_overY_14 rfl (by decide) ?_
      refine aw_goto (tgt := 19) hk dX7_overY_15 (by decide) ?_
      refine aw_iret hk dX7_overY_19 (Nat.le_of_ble_eq_true rfl) (Nat.le_of_ble_eq_true rfl) (by
  match s, hs with
  | 0, _ => first | exact hq | exact absurd c2 (by decide) | exact absurd c11 (by decide) | exact absurd rfl c2 | exact absurd rfl c11
  | 1, _ => first | exact hq | exact absurd c2 (by decide) | exact absurd c11 (by decide) | exact absurd rfl c2 | exact absurd rfl c11
  | 2, _ => first | exact hq | exact absurd c2 (by decide) | exact absurd c11 (by decide) | exact absurd rfl c2 | exact absurd rfl c11
  | 3, _ => first | exact hq | exact absurd c2 (by decide) | exact absurd c11 (by decide) | exact absurd rfl c2 | exact absurd rfl c11)
  · refine aw_iconst (v := -1) (pc2 := 6) hk dX7_overY_5 rfl (by decide) ?_
    refine aw_goto (tgt := 19) hk dX7_overY_6 (by decide) ?_
    refine aw_iret hk dX7_overY_19 (Nat.le_of_ble_eq_true rfl) (Nat.le_of_ble_eq_true rfl) (by
  match s, hs with
  | 0, _ => first | exact hq | exact absurd c2 (by decide) | exact absurd c11 (by decide) | exact absurd rfl c2 | exact absurd rfl c11
  | 1, _ => first | exact hq | exact absurd c2 (by decide) | exact absurd c11 (by decide) | exact absurd rfl c2 | exact absurd rfl c11
  | 2, _ => first | exact hq | exact absurd c2 (by decide) | exact absurd c11 (by decide) | exact absurd rfl c2 | exact absurd rfl c11
  | 3, _ => first | exact hq | exact absurd c2 (by decide) | exact absurd c11 (by decide) | exact absurd rfl c2 | exact absurd rfl c11)
set_option maxHeartbeats 800000 in
set_option maxRecDepth 100000 in
theorem m_beside {n : Nat} {d : D2} {I : M2} {J : J2} {S : M2} {L : J2} {R : R2} {Q : QT} {w g fc oc uc td : Nat} {md op : Bool} (hB : MB S w g fc oc uc td md op) {p s : Nat} (hp : p < 256) (hs : s < 4) (hq : Q (some (.int (opI (nbM w g p s)))) n (H5 d I J S L R)) : Calls yX7_beside cX7_beside 5 (some .int) rmX7_beside [.ref 78, .int (nI p), .int (nI s)] n (H5 d I J S L R) Q := by
  refine Calls.of (by decide) (Nat.le_of_ble_eq_true rfl) ?_
  intro K hk
  show AW K Q 0 0 0 [some (.ref 78), some (.int (nI p)), some (.int (nI s)), none, none] [] n (H5 d I J S L R)
  obtain ⟨hw, hg, hw1, hw6, hg1, hg6, hfc, hfc2, hoc, hoc6, huc, huc5, htd, htd4, hmd, hop⟩ := id hB
  refine aw_iload_n (pc2 := 1) hk dX7_beside_0 rfl rfl ?_
  refine aw_bipush (v := 16) (pc2 := 3) hk dX7_beside_1 rfl (by decide) ?_
  refine aw_irem (pc2 := 4) hk dX7_beside_3 rfl (by decide) ?_
  refine aw_top (nI (p % 16)) (i_rem16 (by omega)) ?_
  refine aw_iload_n (pc2 := 5) hk dX7_beside_4 rfl rfl ?_
  refine aw_cS (rm2 := rmX7_overX) (pc2 := 8) hk seX7_overX dX7_beside_5 rfl ml_X7_177 ⟨(Nat.le_of_ble_eq_true rfl), (Nat.le_of_ble_eq_true rfl)⟩ [_] rfl rfl (Nat.le_of_ble_eq_true rfl) (Nat.le_of_ble_eq_true rfl) (Nat.le_of_ble_eq_true rfl) (m_overX hs ?_)
  refine aw_iadd (pc2 := 9) hk dX7_beside_8 rfl ?_
  refine aw_istore_n (pc2 := 10) hk dX7_beside_9 rfl (by decide) ?_
  show AW K Q _ _ 10 [_, _, _, _, _] _ _ _
  refine aw_iload_n (pc2 := 11) hk dX7_beside_10 rfl rfl ?_
  refine aw_bipush (v := 16) (pc2 := 13) hk dX7_beside_11 rfl (by decide) ?_
  refine aw_idiv (pc2 := 14) hk dX7_beside_13 rfl (by decide) ?_
  refine aw_top (nI (p / 16)) (i_div16 (by omega)) ?_
  refine aw_iload_n (pc2 := 15) hk dX7_beside_14 rfl rfl ?_
  refine aw_cS (rm2 := rmX7_overY) (pc2 := 18) hk seX7_overY dX7_beside_15 rfl ml_X7_181 ⟨(Nat.le_of_ble_eq_true rfl), (Nat.le_of_ble_eq_true rfl)⟩ [_] rfl rfl (Nat.le_of_ble_eq_true rfl) (Nat.le_of_ble_eq_true rfl) (Nat.le_of_ble_eq_true rfl) (m_overY hs ?_)
  refine aw_iadd (pc2 := 19) hk dX7_beside_18 rfl ?_
  refine aw_istore (pc2 := 21) hk dX7_beside_19 rfl (by decide) ?_
  show AW K Q _ _ 21 [_, _, _, _, _] _ _ _
  refine aw_aload_n (pc2 := 22) hk dX7_beside_21 rfl rfl ?_
  refine aw_iload_n (pc2 := 23) hk dX7_beside_22 rfl rfl ?_
  refine aw_iload (pc2 := 25) hk dX7_beside_23 rfl rfl ?_
  refine aw_cV (rm2 := rmX7_isCell) (pc2 := 28) hk veX7_isCell dX7_beside_25 rfl ml_X7_143 ⟨(Nat.le_of_ble_eq_true rfl), (Nat.le_of_ble_eq_true rfl)⟩ [_, _] rfl rfl (Nat.le_of_ble_eq_true rfl) (Nat.le_of_ble_eq_true rfl) (Nat.le_of_ble_eq_true rfl) (o_X7 rfl) (m_isCell hB ?_)
  refine aw_if_eq (tgt := 41) (pc2 := 31) hk dX7_beside_28 (by decide) rfl (fun c28 => ?_) (fun c28 => ?_)
  · have hc2 : nbM w g p s = none := isN c28
    rw [hc2] at hq
    refine aw_iconst (v := -1) (pc2 := 42) hk dX7_beside_41 rfl (by decide) ?_
    refine aw_iret hk dX7_beside_42 (Nat.le_of_ble_eq_true rfl) (Nat.le_of_ble_eq_true rfl) hq
  · obtain ⟨c, hc1⟩ := isS c28
    refine aw_bipush (v := nI 16) (pc2 := 33) hk dX7_beside_31 rfl (by decide) ?_
    refine aw_iload (pc2 := 35) hk dX7_beside_33 rfl rfl ?_
    refine aw_imul (pc2 := 36) hk dX7_beside_35 rfl ?_
    refine aw_iload_n (pc2 := 37) hk dX7_beside_36 rfl rfl ?_
    refine aw_iadd (pc2 := 38) hk dX7_beside_37 rfl ?_
    rw [plc_val hc1]
    have hc2 : nbM w g p s = some c := hc1
    rw [hc2] at hq
    refine aw_goto (tgt := 42) hk dX7_beside_38 (by decide) ?_
    refine aw_iret hk dX7_beside_42 (Nat.le_of_ble_eq_true rfl) (Nat.le_of_ble_eq_true rfl) hq
set_option maxHeartbeats 800000 in
set_option maxRecDepth 100000 in
theorem m_isLeft {n : Nat} {d : D2} {I : M2} {J : J2} {S : M2} {L : J2} {R : R2} {Q : QT} {p : Nat} {x f : Int32} (hx : x = nI p) (hp : p < 256) (hq : Q (some (.int (bi (lft I p f)))) n (H5 d I J S L R)) : Calls yX7_isLeft cX7_isLeft 3 (some .boolean) rmX7_isLeft [.ref 78, .int x, .int f] n (H5 d I J S L R) Q := by
  refine Calls.of (by decide) (Nat.le_of_ble_eq_true rfl) ?_
  intro K hk
  show AW K Q 0 0 0 [some (.ref 78), some (.int x), some (.int f)] [] n (H5 d I J S L R)
  refine aw_aload_n (pc2 := 1) hk dX7_isLeft_0 rfl rfl ?_
  refine aw_get (pc2 := 4) hk ckX7 2 dX7_isLeft_1 rfl fl_X7_16 (by decide) (o_X7 rfl) rfl ?_
  refine aw_iload_n (pc2 := 5) hk dX7_isLeft_4 rfl rfl ?_
  refine h_iald (pc2 := 6) hk dX7_isLeft_5 rfl rfl hx hp (by decide) ?_
  refine aw_iload_n (pc2 := 7) hk dX7_isLeft_6 rfl rfl ?_
  refine aw_icmp_ne (tgt := 23) (pc2 := 10) hk dX7_isLeft_7 (by decide) rfl (fun c7 => ?_) (fun c7 => ?_)
  · refine aw_iconst (v := 0) (pc2 := 24) hk dX7_isLeft_23 rfl (by decide) ?_
    refine aw_zret (by first | exact Or.inl rfl | exact Or.inr rfl) hk dX7_isLeft_24 (Nat.le_of_ble_eq_true rfl) (Nat.le_of_ble_eq_true rfl) (by first | (simpa [lft, bi, *] using hq))
  · refine aw_aload_n (pc2 := 11) hk dX7_isLeft_10 rfl rfl ?_
    refine aw_get (pc2 := 14) hk ckX7 6 dX7_isLeft_11 rfl fl_X7_30 (by decide) (o_X7 rfl) rfl ?_
    refine aw_iload_n (pc2 := 15) hk dX7_isLeft_14 rfl rfl ?_
    refine h_iald (pc2 := 16) hk dX7_isLeft_15 rfl rfl hx hp (by decide) ?_
    refine aw_if_ne (tgt := 23) (pc2 := 19) hk dX7_isLeft_16 (by decide) rfl (fun c16 => ?_) (fun c16 => ?_)
    · refine aw_iconst (v := 0) (pc2 := 24) hk dX7_isLeft_23 rfl (by decide) ?_
      refine aw_zret (by first | exact Or.inl rfl | exact Or.inr rfl) hk dX7_isLeft_24 (Nat.le_of_ble_eq_true rfl) (Nat.le_of_ble_eq_true rfl) (by first | (simpa [lft, bi, *] using hq))
    · refine aw_iconst (v := 1) (pc2 := 20) hk dX7_isLeft_19 rfl (by decide) ?_
      refine aw_goto (tgt := 24) hk dX7_isLeft_20 (by decide) ?_
      refine aw_zret (by first | exact Or.inl rfl | exact Or.inr rfl) hk dX7_isLeft_24 (Nat.le_of_ble_eq_true rfl) (Nat.le_of_ble_eq_true rfl) (by first | (simpa [lft, bi, *] using hq))
