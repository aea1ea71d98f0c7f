abbrev dz : D2 := fun _ => (0, 0)
abbrev Jz : J2 := fun _ _ => 0
abbrev Lz : J2 := fun _ _ => 0
abbrev H5z (I S : M2) (R : R2) : HP := H5 dz I Jz S Lz R
/-- while the class is made: its own object, and the cells below N as they will be -/
def GH (fs : List Value) (N : Nat) (I S : M2) (R : R2) : HP := fun a => if a = 0 then some (.inr (6, fs)) else if a < N then H5z I S R a else none
theorem g_0 {fs : List Value} {N : Nat} {I S : M2} {R : R2} : GH fs N I S R 0 = some (.inr (6, fs)) := if_pos rfl
theorem g_o {fs : List Value} {N : Nat} {I S : M2} {R : R2} {a : Nat} (h : a ≠ 0 ∧ a < N) : GH fs N I S R a = H5z I S R a := by unfold GH; rw [if_neg h.1, if_pos h.2]
theorem GH_set {fs : List Value} {N : Nat} {I S I' S' : M2} {R R' : R2} {a : Nat} {x : HE} (h : a ≠ 0 ∧ a < N) (e : hset (H5z I S R) a x = H5z I' S' R') : hset (GH fs N I S R) a x = GH fs N I' S' R' := by
  funext i
  have e9 := congrFun e i
  unfold hset at e9 ⊢
  unfold GH
  by_cases hi : i = a
  · subst hi
    rw [if_pos rfl] at e9
    rw [if_pos rfl, if_neg h.1, if_pos h.2, e9]
  · rw [if_neg hi] at e9
    rw [if_neg hi, e9]
theorem GH_put {fs fs' : List Value} {N : Nat} {I S : M2} {R : R2} : hset (GH fs N I S R) 0 (.inr (6, fs')) = GH fs' N I S R := by
  funext i
  unfold hset GH
  by_cases hi : i = 0
  · rw [if_pos hi, if_pos hi]
  · rw [if_neg hi, if_neg hi, if_neg hi]
theorem GH_one {fs : List Value} {N : Nat} {I S : M2} {R : R2} {e : HE} (hN : 0 < N) (he : H5z I S R N = some e) : hset (GH fs N I S R) N e = GH fs (N + 1) I S R := by
  funext i
  unfold hset GH
  by_cases hi : i = N
  · subst hi
    rw [if_pos rfl, if_neg (by omega), if_pos (by omega), he]
  · rw [if_neg hi]
    by_cases h0 : i = 0
    · rw [if_pos h0, if_pos h0]
    · rw [if_neg h0, if_neg h0]
      by_cases hl : i < N
      · rw [if_pos hl, if_pos (by omega)]
      · rw [if_neg hl, if_neg (by omega)]
theorem GH_obj {fs : List Value} {N k : Nat} {I S : M2} {R : R2} {x ob : HE} {arr : Nat → HE} (hN : 0 < N) (hob : H5z I S R N = some ob) (harr : ∀ j, j < k → H5z I S R (N + 1 + j) = some (arr j)) : AL (hset (GH fs N I S R) N x) N (N + 1) ob arr k = GH fs (N + 1 + k) I S R := by
  funext i
  unfold AL hset GH
  by_cases hi : i = N
  · subst hi
    rw [if_pos rfl, if_neg (by omega), if_pos (by omega), hob]
  · rw [if_neg hi]
    by_cases h1 : N + 1 ≤ i ∧ i < N + 1 + k
    · have h9 := harr (i - (N + 1)) (by omega)
      rw [show N + 1 + (i - (N + 1)) = i by omega] at h9
      rw [if_pos h1, if_neg (by omega), if_pos (by omega), h9]
    · rw [if_neg h1, if_neg hi]
      by_cases h0 : i = 0
      · rw [if_pos h0, if_pos h0]
      · rw [if_neg h0, if_neg h0]
        by_cases hl : i < N
        · rw [if_pos hl, if_pos (by omega)]
        · rw [if_neg hl, if_neg (by omega)]
theorem cellK_z {k : Nat × Nat} {a : Nat} {I : M2} {J : J2} {S : M2} {L : J2} {R : R2} (h : k.1 = 1 ∨ k.1 = 2 ∨ k.1 = 3) (hI : I a = fun _ => 0) (hJ : J a = fun _ => 0) : cellK k a I J S L R = some (zc k) := by
  unfold cellK zc
  rcases h with h | h | h
  · rw [h, hI]; rfl
  · rw [h, hI]; rfl
  · rw [h, hJ]; rfl
theorem H5z_z {I S : M2} {R : R2} {a : Nat} {k : Nat × Nat} (hk : kd dz a = k) (h : k.1 = 1 ∨ k.1 = 2 ∨ k.1 = 3) (hI : I a = fun _ => 0) : H5z I S R a = some (zc k) := by
  unfold H5z H5
  rw [hk]
  exact cellK_z h hI rfl
section GHR
variable {K : CX} {Q : QT} {cs sl pc pc2 n : Nat} {lv : List (Option Value)} {st : List Value} {y0 : MethodName} {cc : ByteArray} {nL : Nat} {rt : Option FieldType} {rm : Room} {fs : List Value} {N : Nat} {I S : M2} {R : R2} {a j len : Nat}
theorem aw_gI (I' : M2) (e : I = I') (kk : AW K Q cs sl pc lv st n (GH fs N I' S R)) : AW K Q cs sl pc lv st n (GH fs N I S R) := e ▸ kk
theorem aw_gR (R' : R2) (e : R = R') (kk : AW K Q cs sl pc lv st n (GH fs N I S R')) : AW K Q cs sl pc lv st n (GH fs N I S R) := e ▸ kk
theorem g_iast (hk : OK K y0 cc nL rt rm) {x v : Int32} (hd : decode cc pc = .ok (.iastore, 1)) (hp : pc + 1 = pc2) (ha : kd dz a = (1, len)) (hx : x = nI j) (hj : j < len) (hN : len < 2 ^ 31) (h2 : a ≠ 0 ∧ a < N) (kk : AW K Q cs sl pc2 lv st n (GH fs N (u2 I a j v) S R)) : AW K Q cs sl pc lv (.int v :: .int x :: .ref a :: st) n (GH fs N I S R) := by
  subst hx
  refine aw_iastN hk hd hp ((g_o h2).trans (H5_i ha)) hj hN ?_
  rw [GH_set h2 (hset_i (Or.inl ⟨rfl, ha⟩))]
  exact kk
theorem g_zast (hk : OK K y0 cc nL rt rm) {x v : Int32} (hd : decode cc pc = .ok (.bastore, 1)) (hp : pc + 1 = pc2) (ha : kd dz a = (2, len)) (hx : x = nI j) (hj : j < len) (hN : len < 2 ^ 31) (hv : v = 0 ∨ v = 1) (h2 : a ≠ 0 ∧ a < N) (kk : AW K Q cs sl pc2 lv st n (GH fs N (u2 I a j v) S R)) : AW K Q cs sl pc lv (.int v :: .int x :: .ref a :: st) n (GH fs N I S R) := by
  subst hx
  refine aw_zastN hk hd hp ((g_o h2).trans (H5_z ha)) hj hN ?_
  have e : vp_nar .boolean v = v := by rcases hv with rfl | rfl <;> rfl
  rw [e, GH_set h2 (hset_i (Or.inr ⟨rfl, ha⟩))]
  exact kk
theorem g_aast (hk : OK K y0 cc nL rt rm) {x : Int32} {v t k : Nat} {vs : List Value} (ht : (t = 3 ∧ k = 4) ∨ (t = 4 ∧ k = 5)) (hd : decode cc pc = .ok (.aastore, 1)) (hp : pc + 1 = pc2) (ha : kd dz a = (k, len)) (hx : x = nI j) (hj : j < len) (hN : len < 2 ^ 31) (h2 : a ≠ 0 ∧ a < N) (hv : GH fs N I S R v = some (.inr (raC t, vs))) (kk : AW K Q cs sl pc2 lv st n (GH fs N I S (u2 R a j (some v)))) : AW K Q cs sl pc lv (.ref v :: .int x :: .ref a :: st) n (GH fs N I S R) := by
  subst hx
  rcases ht with ⟨rfl, rfl⟩ | ⟨rfl, rfl⟩
  · refine aw_aastN hk (Or.inl rfl) hd hp ((g_o h2).trans (H5_r3 ha)) hv hj hN ?_
    rw [GH_set h2 (hset_r (Or.inl ⟨rfl, ha⟩))]
    exact kk
  · refine aw_aastN hk (Or.inr (Or.inl rfl)) hd hp ((g_o h2).trans (H5_r4 ha)) hv hj hN ?_
    rw [GH_set h2 (hset_r (Or.inr (Or.inl ⟨rfl, ha⟩)))]
    exact kk
end GHR
set_option maxHeartbeats 800000 in
set_option maxRecDepth 100000 in
theorem g_renew {n : Nat} {fs : List Value} {I S : M2} {R : R2} {Q : QT} {x y : Int32} (hq : Q none n (GH fs 78 (rw5 I 2 256 (fun b => if b = 2 ∨ b = 6 then -1 else 0)) (u2 (u2 S 1 0 x) 1 1 y) R)) : Calls yX2_renew cX2_renew 4 none rmX2_renew [.ref 1, .int x, .int y] n (GH fs 78 I S R) Q := by
  refine Calls.of (by decide) (Nat.le_of_ble_eq_true rfl) ?_
  intro K hk
  show AW K Q 0 0 0 [some (.ref 1), some (.int x), some (.int y), none] [] n (GH fs 78 I S R)
  have loop : ∀ (k i : Nat), i ≤ 256 → 256 + 1 ≤ i + k → AW K Q 0 0 12 [some (.ref 1), some (.int x), some (.int y), some (.int (nI i))] [] n (GH fs 78 (rw5 I 2 i (fun b => if b = 2 ∨ b = 6 then -1 else 0)) (u2 (u2 S 1 0 x) 1 1 y) R) := by
    intro k
    induction k with
    | zero => intro i  hi hn; omega
    | succ k ih =>
      intro i  hi hn
      refine aw_iload_n (pc2 := 13) hk dX2_renew_12 rfl rfl ?_
      refine aw_sipush (v := 256) (pc2 := 16) hk dX2_renew_13 rfl (by decide) ?_
      refine aw_icN_ge (y := 256) (tgt := 60) (pc2 := 19) hk dX2_renew_16 (by decide) rfl rfl rfl (by omega) (by omega) (fun c16 => ?_) (fun c16 => ?_)
      · obtain rfl : i = 256 := by omega
        refine aw_vret hk dX2_renew_60 (Nat.le_of_ble_eq_true rfl) (Nat.le_of_ble_eq_true rfl) hq
      · refine aw_aload_n (pc2 := 20) hk dX2_renew_19 rfl rfl ?_
        refine aw_get (v := .ref 2) (pc2 := 23) hk ckX2 2 dX2_renew_20 rfl fl_X2_9 (by decide) ((g_o (by decide)).trans (o_X2 rfl)) rfl ?_
        refine aw_iload_n (pc2 := 24) hk dX2_renew_23 rfl rfl ?_
        refine aw_iconst (v := -1) (pc2 := 25) hk dX2_renew_24 rfl (by decide) ?_
        refine g_iast (pc2 := 26) hk dX2_renew_25 rfl rfl rfl (by omega) (by decide) (by decide) ?_
        refine aw_aload_n (pc2 := 27) hk dX2_renew_26 rfl rfl ?_
        refine aw_get (v := .ref 3) (pc2 := 30) hk ckX2 3 dX2_renew_27 rfl fl_X2_15 (by decide) ((g_o (by decide)).trans (o_X2 rfl)) rfl ?_
        refine aw_iload_n (pc2 := 31) hk dX2_renew_30 rfl rfl ?_
        refine aw_iconst (v := 0) (pc2 := 32) hk dX2_renew_31 rfl (by decide) ?_
        refine g_iast (pc2 := 33) hk dX2_renew_32 rfl rfl rfl (by omega) (by decide) (by decide) ?_
        refine aw_aload_n (pc2 := 34) hk dX2_renew_33 rfl rfl ?_
        refine aw_get (v := .ref 4) (pc2 := 37) hk ckX2 4 dX2_renew_34 rfl fl_X2_18 (by decide) ((g_o (by decide)).trans (o_X2 rfl)) rfl ?_
        refine aw_iload_n (pc2 := 38) hk dX2_renew_37 rfl rfl ?_
        refine aw_iconst (v := 0) (pc2 := 39) hk dX2_renew_38 rfl (by decide) ?_
        refine g_zast (pc2 := 40) hk dX2_renew_39 rfl rfl rfl (by omega) (by decide) (by first | exact Or.inl rfl | exact Or.inr rfl) (by decide) ?_
        refine aw_aload_n (pc2 := 41) hk dX2_renew_40 rfl rfl ?_
        refine aw_get (v := .ref 5) (pc2 := 44) hk ckX2 5 dX2_renew_41 rfl fl_X2_22 (by decide) ((g_o (by decide)).trans (o_X2 rfl)) rfl ?_
        refine aw_iload_n (pc2 := 45) hk dX2_renew_44 rfl rfl ?_
        refine aw_iconst (v := 0) (pc2 := 46) hk dX2_renew_45 rfl (by decide) ?_
        refine g_zast (pc2 := 47) hk dX2_renew_46 rfl rfl rfl (by omega) (by decide) (by first | exact Or.inl rfl | exact Or.inr rfl) (by decide) ?_
        refine aw_aload_n (pc2 := 48) hk dX2_renew_47 rfl rfl ?_
        refine aw_get (v := .ref 6) (pc2 := 51) hk ckX2 6 dX2_renew_48 rfl fl_X2_25 (by decide) ((g_o (by decide)).trans (o_X2 rfl)) rfl ?_
        refine aw_iload_n (pc2 := 52) hk dX2_renew_51 rfl rfl ?_
        refine aw_iconst (v := -1) (pc2 := 53) hk dX2_renew_52 rfl (by decide) ?_
        refine g_iast (pc2 := 54) hk dX2_renew_53 rfl rfl rfl (by omega) (by decide) (by decide) ?_
        refine aw_gI (rw5 I 2 (i + 1) (fun b => if b = 2 ∨ b = 6 then -1 else 0)) (rw5_st I 2 i _ rfl rfl rfl rfl rfl rfl rfl rfl rfl) ?_
        refine aw_iinc1 (pc2 := 57) hk dX2_renew_54 rfl rfl (by decide) ?_
        show AW K Q _ _ 57 [_, _, _, _] _ _ _
        refine aw_goto (tgt := 12) hk dX2_renew_57 (by decide) ?_
        exact ih (i + 1) (by omega) (by omega)
  refine aw_aload_n (pc2 := 1) hk dX2_renew_0 rfl rfl ?_
  refine aw_iload_n (pc2 := 2) hk dX2_renew_1 rfl rfl ?_
  refine aw_put (pc2 := 5) hk ckX2 0 dX2_renew_2 rfl fl_X2_28 (by decide) rfl ((g_o (by decide)).trans (o_X2 rfl)) (fun _ => rfl) (fun _ => rfl) (Nat.le_of_ble_eq_true rfl) ?_
  rw [GH_set (by decide) (p_X2_0 rfl)]
  refine aw_aload_n (pc2 := 6) hk dX2_renew_5 rfl rfl ?_
  refine aw_iload_n (pc2 := 7) hk dX2_renew_6 rfl rfl ?_
  refine aw_put (pc2 := 10) hk ckX2 1 dX2_renew_7 rfl fl_X2_32 (by decide) rfl ((g_o (by decide)).trans (o_X2 rfl)) (fun _ => rfl) (fun _ => rfl) (Nat.le_of_ble_eq_true rfl) ?_
  rw [GH_set (by decide) (p_X2_1 rfl)]
  refine aw_iconst (v := 0) (pc2 := 11) hk dX2_renew_10 rfl (by decide) ?_
  refine aw_istore_n (pc2 := 12) hk dX2_renew_11 rfl (by decide) ?_
  show AW K Q _ _ 12 [_, _, _, _] _ _ _
  refine aw_gI (rw5 I 2 0 (fun b => if b = 2 ∨ b = 6 then -1 else 0)) (rw5_0 _ _ _).symm ?_
  exact loop 257 0 (by omega) (by omega)
def iA : M2 := rw5 (u2 (fun _ _ => 0) 76 4 28) 2 256 (fun b => if b = 2 ∨ b = 6 then -1 else 0)
def sA : M2 := u2 (u2 (fun _ _ => 0) 1 0 1) 1 1 1
def rA : R2 := (rowU (rowU (fun _ _ => none) 13 12 (fun c => some (14 + 4 * c))) 62 4 (fun c => some (63 + 3 * c)))
set_option maxHeartbeats 1600000 in
set_option maxRecDepth 100000 in
theorem i_X6 {h : HP} {Q : QT} (hh0 : h = (GH [.null, .null, .null, .int 0, .null, .null, .null, .int 0, .null, .int 0, .int 0] 1 (fun _ _ => 0) (fun _ _ => 0) (fun _ _ => none))) (hq : Q none 78 (GH [.ref 1, .ref 7, .ref 13, .int 0, .ref 62, .ref 75, .ref 76, .int 0, .ref 77, .int 0, .int 0] 78 iA sA rA)) : Calls yX6_init cX6_init 2 none rmX6_init [.ref 0] 1 h Q := by
  refine Calls.of (by decide) (Nat.le_of_ble_eq_true rfl) ?_
  intro K hk
  show AW K Q 0 0 0 [some (.ref 0), none] [] 1 h
  have P96 : AW K Q (62 + 3 * 4) (2794 + 43 * 4) 96 [some (.ref 0), none] [] (63 + 3 * 4) (GH [.ref 1, .ref 7, .ref 13, .int 0, .ref 62, .null, .null, .int 0, .null, .int 0, .int 0] (63 + 3 * 4) (fun _ _ => 0) (fun _ _ => 0) (rowU (rowU (fun _ _ => none) 13 12 (fun c => some (14 + 4 * c))) 62 4 (fun c => some (63 + 3 * c)))) := by
    refine aw_aload_n (pc2 := 97) hk dX6_init_96 rfl rfl ?_
    refine aw_iconst (v := nI 4) (pc2 := 98) hk dX6_init_97 rfl (by decide) ?_
    refine aw_newi (pc2 := 100) hk dX6_init_98 rfl ar_int (by decide) (Nat.le_of_ble_eq_true rfl) (Nat.le_of_ble_eq_true rfl) ?_
    refine aw_hp (GH [.ref 1, .ref 7, .ref 13, .int 0, .ref 62, .null, .null, .int 0, .null, .int 0, .int 0] 76 (fun _ _ => 0) (fun _ _ => 0) (rowU (rowU (fun _ _ => none) 13 12 (fun c => some (14 + 4 * c))) 62 4 (fun c => some (63 + 3 * c)))) (GH_one (by decide) rfl) ?_
    refine aw_putF (pc2 := 103) hk ckX6 5 dX6_init_100 rfl fl_X6_37 (by decide) rfl rfl rfl g_0 (fun _ => rfl) (fun _ => rfl) (Nat.le_of_ble_eq_true rfl) ?_
    refine aw_hp (GH [.ref 1, .ref 7, .ref 13, .int 0, .ref 62, .ref 75, .null, .int 0, .null, .int 0, .int 0] 76 (fun _ _ => 0) (fun _ _ => 0) (rowU (rowU (fun _ _ => none) 13 12 (fun c => some (14 + 4 * c))) 62 4 (fun c => some (63 + 3 * c)))) GH_put ?_
    refine aw_aload_n (pc2 := 104) hk dX6_init_103 rfl rfl ?_
    refine aw_iconst (v := nI 5) (pc2 := 105) hk dX6_init_104 rfl (by decide) ?_
    refine aw_newi (pc2 := 107) hk dX6_init_105 rfl ar_int (by decide) (Nat.le_of_ble_eq_true rfl) (Nat.le_of_ble_eq_true rfl) ?_
    refine aw_hp (GH [.ref 1, .ref 7, .ref 13, .int 0, .ref 62, .ref 75, .null, .int 0, .null, .int 0, .int 0] 77 (fun _ _ => 0) (fun _ _ => 0) (rowU (rowU (fun _ _ => none) 13 12 (fun c => some (14 + 4 * c))) 62 4 (fun c => some (63 + 3 * c)))) (GH_one (by decide) rfl) ?_
    refine aw_putF (pc2 := 110) hk ckX6 6 dX6_init_107 rfl fl_X6_41 (by decide) rfl rfl rfl g_0 (fun _ => rfl) (fun _ => rfl) (Nat.le_of_ble_eq_true rfl) ?_
    refine aw_hp (GH [.ref 1, .ref 7, .ref 13, .int 0, .ref 62, .ref 75, .ref 76, .int 0, .null, .int 0, .int 0] 77 (fun _ _ => 0) (fun _ _ => 0) (rowU (rowU (fun _ _ => none) 13 12 (fun c => some (14 + 4 * c))) 62 4 (fun c => some (63 + 3 * c)))) GH_put ?_
    refine aw_aload_n (pc2 := 111) hk dX6_init_110 rfl rfl ?_
    refine aw_get (v := .ref 76) (pc2 := 114) hk ckX6 6 dX6_init_111 rfl fl_X6_41 (by decide) g_0 rfl ?_
    refine aw_iconst (v := 4) (pc2 := 115) hk dX6_init_114 rfl (by decide) ?_
    refine aw_bipush (v := 28) (pc2 := 117) hk dX6_init_115 rfl (by decide) ?_
    refine g_iast (j := 4) (pc2 := 118) hk dX6_init_117 rfl rfl rfl (by decide) (by decide) (by decide) ?_
    refine aw_aload_n (pc2 := 119) hk dX6_init_118 rfl rfl ?_
    refine aw_bipush (v := nI 60) (pc2 := 121) hk dX6_init_119 rfl (by decide) ?_
    refine aw_newq (t := 5) (pc2 := 124) hk (fun _ => rfl) dX6_init_121 rfl cl_X6_44 ao_X3 (by decide) (Nat.le_of_ble_eq_true rfl) (Nat.le_of_ble_eq_true rfl) ?_
    refine aw_hp (GH [.ref 1, .ref 7, .ref 13, .int 0, .ref 62, .ref 75, .ref 76, .int 0, .null, .int 0, .int 0] 78 (u2 (fun _ _ => 0) 76 4 28) (fun _ _ => 0) (rowU (rowU (fun _ _ => none) 13 12 (fun c => some (14 + 4 * c))) 62 4 (fun c => some (63 + 3 * c)))) (GH_one (by decide) rfl) ?_
    refine aw_putF (pc2 := 127) hk ckX6 8 dX6_init_124 rfl fl_X6_46 (by decide) rfl rfl rfl g_0 (fun _ => rfl) (fun _ => rfl) (Nat.le_of_ble_eq_true rfl) ?_
    refine aw_hp (GH [.ref 1, .ref 7, .ref 13, .int 0, .ref 62, .ref 75, .ref 76, .int 0, .ref 77, .int 0, .int 0] 78 (u2 (fun _ _ => 0) 76 4 28) (fun _ _ => 0) (rowU (rowU (fun _ _ => none) 13 12 (fun c => some (14 + 4 * c))) 62 4 (fun c => some (63 + 3 * c)))) GH_put ?_
    refine aw_aload_n (pc2 := 128) hk dX6_init_127 rfl rfl ?_
    refine aw_get (v := .ref 1) (pc2 := 131) hk ckX6 0 dX6_init_128 rfl fl_X6_12 (by decide) g_0 rfl ?_
    refine aw_iconst (v := 1) (pc2 := 132) hk dX6_init_131 rfl (by decide) ?_
    refine aw_iconst (v := 1) (pc2 := 133) hk dX6_init_132 rfl (by decide) ?_
    refine aw_cV (rm2 := rmX2_renew) (pc2 := 136) hk veX2_renew dX6_init_133 rfl ml_X6_50 ⟨(Nat.le_of_ble_eq_true rfl), (Nat.le_of_ble_eq_true rfl)⟩ [_, _] rfl rfl (Nat.le_of_ble_eq_true rfl) (Nat.le_of_ble_eq_true rfl) (Nat.le_of_ble_eq_true rfl) ((g_o (by decide)).trans (o_X2 rfl)) (g_renew ?_)
    exact aw_vret hk dX6_init_136 (Nat.le_of_ble_eq_true rfl) (Nat.le_of_ble_eq_true rfl) hq
  have loop2 : ∀ (k s : Nat), s ≤ 4 → 5 ≤ s + k → AW K Q (62 + 3 * s) (2794 + 43 * s) 72 [some (.ref 0), some (.int (nI s))] [] (63 + 3 * s) (GH [.ref 1, .ref 7, .ref 13, .int 0, .ref 62, .null, .null, .int 0, .null, .int 0, .int 0] (63 + 3 * s) (fun _ _ => 0) (fun _ _ => 0) (rowU (rowU (fun _ _ => none) 13 12 (fun c => some (14 + 4 * c))) 62 s (fun c => some (63 + 3 * c)))) := by
    intro k
    induction k with
    | zero => intro s h1 h2; omega
    | succ k ih =>
      intro s hs hn
      refine aw_iload_n (pc2 := 73) hk dX6_init_72 rfl rfl ?_
      refine aw_iconst (v := 4) (pc2 := 74) hk dX6_init_73 rfl (by decide) ?_
      refine aw_icN_ge (x := s) (y := 4) (tgt := 96) (pc2 := 77) hk dX6_init_74 (by decide) rfl rfl rfl (by omega) (by omega) (fun c74 => ?_) (fun c74 => ?_)
      · obtain rfl : s = 4 := by omega
        exact aw_fg 1 P96
      · obtain ⟨kf0, kf1, kf2⟩ := kdP dz c74
        refine aw_aload_n (pc2 := 78) hk dX6_init_77 rfl rfl ?_
        refine aw_get (v := .ref 62) (pc2 := 81) hk ckX6 4 dX6_init_78 rfl fl_X6_32 (by decide) g_0 rfl ?_
        refine aw_iload_n (pc2 := 82) hk dX6_init_81 rfl rfl ?_
        refine aw_new (pc2 := 85) hk ckX4 zfX4 dX6_init_82 rfl cl_X6_30 in_X4 ini_X4 zdX4 znX4 (by show 62 + 3 * s + 1 ≤ 77; omega) (by show 2794 + 43 * s + 3 ≤ 3035; omega) ?_
        refine aw_dup_r (pc2 := 86) hk dX6_init_85 rfl ?_
        refine aw_cIN (rm2 := rmX4_init) (pc2 := 89) hk ieX4_init dX6_init_86 rfl mn_X6_36 ⟨(Nat.le_of_ble_eq_true rfl), (Nat.le_of_ble_eq_true rfl)⟩ [] rfl rfl (Nat.le_of_ble_eq_true rfl) (by show 62 + 3 * s + 1 + 2 ≤ 77; omega) (by show 2794 + 43 * s + 3 + 40 ≤ 3035; omega) (i_X4 (Nat.lt_succ_self _) (if_pos rfl) ?_)
        refine aw_hp (GH [.ref 1, .ref 7, .ref 13, .int 0, .ref 62, .null, .null, .int 0, .null, .int 0, .int 0] (63 + 3 * s + 1 + 2) (fun _ _ => 0) (fun _ _ => 0) (rowU (rowU (fun _ _ => none) 13 12 (fun c => some (14 + 4 * c))) 62 s (fun c => some (63 + 3 * c)))) (GH_obj (by omega) (o_X4 kf0) (fun j hj => ?_)) ?_
        · have h5 : j = 0 ∨ j = 1 := by omega
          rcases h5 with rfl | rfl
          · exact H5z_z kf1 (Or.inl rfl) rfl
          · exact H5z_z kf2 (Or.inl rfl) rfl
        refine g_aast (pc2 := 90) hk (Or.inr ⟨rfl, rfl⟩) dX6_init_89 rfl rfl rfl c74 (by decide) ⟨by decide, by omega⟩ ((g_o ⟨by omega, by omega⟩).trans (o_X4 kf0)) ?_
        refine aw_gR (rowU (rowU (fun _ _ => none) 13 12 (fun c => some (14 + 4 * c))) 62 (s + 1) (fun c => some (63 + 3 * c))) (rowU_st _ 62 s _ rfl) ?_
        refine aw_iinc1 (pc2 := 93) hk dX6_init_90 rfl rfl (by decide) ?_
        show AW K Q _ _ 93 [_, _] _ _ _
        refine aw_goto (tgt := 72) hk dX6_init_93 (by decide) ?_
        exact aw_widen (by show 62 + 3 * s + 1 + 2 ≤ 62 + 3 * (s + 1); omega) (by show 2794 + 43 * s + 3 + 40 ≤ 2794 + 43 * (s + 1); omega) (ih (s + 1) (by omega) (by omega))
  have P62 : AW K Q (13 + 4 * 12) (2586 + 17 * 12) 62 [some (.ref 0), none] [] (14 + 4 * 12) (GH [.ref 1, .ref 7, .ref 13, .int 0, .null, .null, .null, .int 0, .null, .int 0, .int 0] (14 + 4 * 12) (fun _ _ => 0) (fun _ _ => 0) (rowU (fun _ _ => none) 13 12 (fun c => some (14 + 4 * c)))) := by
    refine aw_aload_n (pc2 := 63) hk dX6_init_62 rfl rfl ?_
    refine aw_iconst (v := nI 4) (pc2 := 64) hk dX6_init_63 rfl (by decide) ?_
    refine aw_newq (t := 4) (pc2 := 67) hk (fun _ => rfl) dX6_init_64 rfl cl_X6_30 ao_X4 (by decide) (Nat.le_of_ble_eq_true rfl) (Nat.le_of_ble_eq_true rfl) ?_
    refine aw_hp (GH [.ref 1, .ref 7, .ref 13, .int 0, .null, .null, .null, .int 0, .null, .int 0, .int 0] 63 (fun _ _ => 0) (fun _ _ => 0) (rowU (fun _ _ => none) 13 12 (fun c => some (14 + 4 * c)))) (GH_one (by decide) rfl) ?_
    refine aw_putF (pc2 := 70) hk ckX6 4 dX6_init_67 rfl fl_X6_32 (by decide) rfl rfl rfl g_0 (fun _ => rfl) (fun _ => rfl) (Nat.le_of_ble_eq_true rfl) ?_
    refine aw_hp (GH [.ref 1, .ref 7, .ref 13, .int 0, .ref 62, .null, .null, .int 0, .null, .int 0, .int 0] 63 (fun _ _ => 0) (fun _ _ => 0) (rowU (fun _ _ => none) 13 12 (fun c => some (14 + 4 * c)))) GH_put ?_
    refine aw_iconst (v := 0) (pc2 := 71) hk dX6_init_70 rfl (by decide) ?_
    refine aw_istore_n (pc2 := 72) hk dX6_init_71 rfl (by decide) ?_
    show AW K Q _ _ 72 [_, _] _ _ _
    refine aw_hp (GH [.ref 1, .ref 7, .ref 13, .int 0, .ref 62, .null, .null, .int 0, .null, .int 0, .int 0] (63 + 3 * 0) (fun _ _ => 0) (fun _ _ => 0) (rowU (rowU (fun _ _ => none) 13 12 (fun c => some (14 + 4 * c))) 62 0 (fun c => some (63 + 3 * c)))) (by rw [rowU_0]) ?_
    exact loop2 5 0 (by omega) (by omega)
  have loop1 : ∀ (k f : Nat), f ≤ 12 → 13 ≤ f + k → AW K Q (13 + 4 * f) (2586 + 17 * f) 37 [some (.ref 0), some (.int (nI f))] [] (14 + 4 * f) (GH [.ref 1, .ref 7, .ref 13, .int 0, .null, .null, .null, .int 0, .null, .int 0, .int 0] (14 + 4 * f) (fun _ _ => 0) (fun _ _ => 0) (rowU (fun _ _ => none) 13 f (fun c => some (14 + 4 * c)))) := by
    intro k
    induction k with
    | zero => intro f h1 h2; omega
    | succ k ih =>
      intro f hf hn
      refine aw_iload_n (pc2 := 38) hk dX6_init_37 rfl rfl ?_
      refine aw_bipush (v := 12) (pc2 := 40) hk dX6_init_38 rfl (by decide) ?_
      refine aw_icN_ge (x := f) (y := 12) (tgt := 62) (pc2 := 43) hk dX6_init_40 (by decide) rfl rfl rfl (by omega) (by omega) (fun c40 => ?_) (fun c40 => ?_)
      · obtain rfl : f = 12 := by omega
        exact aw_fg 1 P62
      · obtain ⟨kf0, kf1, kf2, kf3⟩ := kdF dz c40
        refine aw_aload_n (pc2 := 44) hk dX6_init_43 rfl rfl ?_
        refine aw_get (v := .ref 13) (pc2 := 47) hk ckX6 2 dX6_init_44 rfl fl_X6_25 (by decide) g_0 rfl ?_
        refine aw_iload_n (pc2 := 48) hk dX6_init_47 rfl rfl ?_
        refine aw_new (pc2 := 51) hk ckX1 zfX1 dX6_init_48 rfl cl_X6_23 in_X1 ini_X1 zdX1 znX1 (by show 13 + 4 * f + 1 ≤ 77; omega) (by show 2586 + 17 * f + 5 ≤ 3035; omega) ?_
        refine aw_dup_r (pc2 := 52) hk dX6_init_51 rfl ?_
        refine aw_cIN (rm2 := rmX1_init) (pc2 := 55) hk ieX1_init dX6_init_52 rfl mn_X6_29 ⟨(Nat.le_of_ble_eq_true rfl), (Nat.le_of_ble_eq_true rfl)⟩ [] rfl rfl (Nat.le_of_ble_eq_true rfl) (by show 13 + 4 * f + 1 + 3 ≤ 77; omega) (by show 2586 + 17 * f + 5 + 12 ≤ 3035; omega) (i_X1 (Nat.lt_succ_self _) (if_pos rfl) ?_)
        refine aw_hp (GH [.ref 1, .ref 7, .ref 13, .int 0, .null, .null, .null, .int 0, .null, .int 0, .int 0] (14 + 4 * f + 1 + 3) (fun _ _ => 0) (fun _ _ => 0) (rowU (fun _ _ => none) 13 f (fun c => some (14 + 4 * c)))) (GH_obj (by omega) (o_X1 kf0) (fun j hj => ?_)) ?_
        · have h5 : j = 0 ∨ j = 1 ∨ j = 2 := by omega
          rcases h5 with rfl | rfl | rfl
          · exact H5z_z kf1 (Or.inl rfl) rfl
          · exact H5z_z kf2 (Or.inl rfl) rfl
          · exact H5z_z kf3 (Or.inr (Or.inr rfl)) rfl
        refine g_aast (pc2 := 56) hk (Or.inl ⟨rfl, rfl⟩) dX6_init_55 rfl rfl rfl c40 (by decide) ⟨by decide, by omega⟩ ((g_o ⟨by omega, by omega⟩).trans (o_X1 kf0)) ?_
        refine aw_gR (rowU (fun _ _ => none) 13 (f + 1) (fun c => some (14 + 4 * c))) (rowU_st _ 13 f _ rfl) ?_
        refine aw_iinc1 (pc2 := 59) hk dX6_init_56 rfl rfl (by decide) ?_
        show AW K Q _ _ 59 [_, _] _ _ _
        refine aw_goto (tgt := 37) hk dX6_init_59 (by decide) ?_
        exact aw_widen (by show 13 + 4 * f + 1 + 3 ≤ 13 + 4 * (f + 1); omega) (by show 2586 + 17 * f + 5 + 12 ≤ 2586 + 17 * (f + 1); omega) (ih (f + 1) (by omega) (by omega))
  refine aw_hp (GH [.null, .null, .null, .int 0, .null, .null, .null, .int 0, .null, .int 0, .int 0] 1 (fun _ _ => 0) (fun _ _ => 0) (fun _ _ => none)) hh0 ?_
  refine aw_aload_n (pc2 := 1) hk dX6_init_0 rfl rfl ?_
  refine aw_objInit (pc2 := 4) hk dX6_init_1 rfl ml_X6_3 im_obj co_obj (Nat.le_of_ble_eq_true rfl) (Nat.le_of_ble_eq_true rfl) ?_
  refine aw_aload_n (pc2 := 5) hk dX6_init_4 rfl rfl ?_
  refine aw_new (pc2 := 8) hk ckX2 zfX2 dX6_init_5 rfl cl_X6_9 in_X2 ini_X2 zdX2 znX2 (Nat.le_of_ble_eq_true rfl) (Nat.le_of_ble_eq_true rfl) ?_
  refine aw_dup_r (pc2 := 9) hk dX6_init_8 rfl ?_
  refine aw_cIN (rm2 := rmX2_init) (pc2 := 12) hk ieX2_init dX6_init_9 rfl mn_X6_11 ⟨(Nat.le_of_ble_eq_true rfl), (Nat.le_of_ble_eq_true rfl)⟩ [] rfl rfl (Nat.le_of_ble_eq_true rfl) (Nat.le_of_ble_eq_true rfl) (Nat.le_of_ble_eq_true rfl) (i_X2 (Nat.lt_succ_self 1) (if_pos rfl) ?_)
  refine aw_hp (GH [.null, .null, .null, .int 0, .null, .null, .null, .int 0, .null, .int 0, .int 0] 7 (fun _ _ => 0) (fun _ _ => 0) (fun _ _ => none)) (GH_obj (by decide) rfl (fun j hj => ?_)) ?_
  · have h5 : j = 0 ∨ j = 1 ∨ j = 2 ∨ j = 3 ∨ j = 4 := by omega
    rcases h5 with rfl | rfl | rfl | rfl | rfl <;> exact H5z_z rfl (by decide) rfl
  refine aw_putF (pc2 := 15) hk ckX6 0 dX6_init_12 rfl fl_X6_12 (by decide) rfl rfl rfl g_0 (fun _ => rfl) (fun _ => rfl) (Nat.le_of_ble_eq_true rfl) ?_
  refine aw_hp (GH [.ref 1, .null, .null, .int 0, .null, .null, .null, .int 0, .null, .int 0, .int 0] 7 (fun _ _ => 0) (fun _ _ => 0) (fun _ _ => none)) GH_put ?_
  refine aw_aload_n (pc2 := 16) hk dX6_init_15 rfl rfl ?_
  refine aw_new (pc2 := 19) hk ckX5 zfX5 dX6_init_16 rfl cl_X6_16 in_X5 ini_X5 zdX5 znX5 (Nat.le_of_ble_eq_true rfl) (Nat.le_of_ble_eq_true rfl) ?_
  refine aw_dup_r (pc2 := 20) hk dX6_init_19 rfl ?_
  refine aw_cIN (rm2 := rmX5_init) (pc2 := 23) hk ieX5_init dX6_init_20 rfl mn_X6_18 ⟨(Nat.le_of_ble_eq_true rfl), (Nat.le_of_ble_eq_true rfl)⟩ [] rfl rfl (Nat.le_of_ble_eq_true rfl) (Nat.le_of_ble_eq_true rfl) (Nat.le_of_ble_eq_true rfl) (i_X5 (Nat.lt_succ_self 7) (if_pos rfl) ?_)
  refine aw_hp (GH [.ref 1, .null, .null, .int 0, .null, .null, .null, .int 0, .null, .int 0, .int 0] 13 (fun _ _ => 0) (fun _ _ => 0) (fun _ _ => none)) (GH_obj (by decide) rfl (fun j hj => ?_)) ?_
  · have h5 : j = 0 ∨ j = 1 ∨ j = 2 ∨ j = 3 ∨ j = 4 := by omega
    rcases h5 with rfl | rfl | rfl | rfl | rfl <;> exact H5z_z rfl (by decide) rfl
  refine aw_putF (pc2 := 26) hk ckX6 1 dX6_init_23 rfl fl_X6_19 (by decide) rfl rfl rfl g_0 (fun _ => rfl) (fun _ => rfl) (Nat.le_of_ble_eq_true rfl) ?_
  refine aw_hp (GH [.ref 1, .ref 7, .null, .int 0, .null, .null, .null, .int 0, .null, .int 0, .int 0] 13 (fun _ _ => 0) (fun _ _ => 0) (fun _ _ => none)) GH_put ?_
  refine aw_aload_n (pc2 := 27) hk dX6_init_26 rfl rfl ?_
  refine aw_bipush (v := nI 12) (pc2 := 29) hk dX6_init_27 rfl (by decide) ?_
  refine aw_newq (t := 3) (pc2 := 32) hk (fun _ => rfl) dX6_init_29 rfl cl_X6_23 ao_X1 (by decide) (Nat.le_of_ble_eq_true rfl) (Nat.le_of_ble_eq_true rfl) ?_
  refine aw_hp (GH [.ref 1, .ref 7, .null, .int 0, .null, .null, .null, .int 0, .null, .int 0, .int 0] 14 (fun _ _ => 0) (fun _ _ => 0) (fun _ _ => none)) (GH_one (by decide) rfl) ?_
  refine aw_putF (pc2 := 35) hk ckX6 2 dX6_init_32 rfl fl_X6_25 (by decide) rfl rfl rfl g_0 (fun _ => rfl) (fun _ => rfl) (Nat.le_of_ble_eq_true rfl) ?_
  refine aw_hp (GH [.ref 1, .ref 7, .ref 13, .int 0, .null, .null, .null, .int 0, .null, .int 0, .int 0] 14 (fun _ _ => 0) (fun _ _ => 0) (fun _ _ => none)) GH_put ?_
  refine aw_iconst (v := 0) (pc2 := 36) hk dX6_init_35 rfl (by decide) ?_
  refine aw_istore_n (pc2 := 37) hk dX6_init_36 rfl (by decide) ?_
  show AW K Q _ _ 37 [_, _] _ _ _
  refine aw_hp (GH [.ref 1, .ref 7, .ref 13, .int 0, .null, .null, .null, .int 0, .null, .int 0, .int 0] (14 + 4 * 0) (fun _ _ => 0) (fun _ _ => 0) (rowU (fun _ _ => none) 13 0 (fun c => some (14 + 4 * c)))) (by rw [rowU_0]) ?_
  exact loop1 13 0 (by omega) (by omega)
