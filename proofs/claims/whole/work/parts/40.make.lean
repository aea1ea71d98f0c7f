section AWC3
variable {K : CX} {Q : QT} {cs sl pc pc2 n : Nat} {lv : List (Option Value)} {st : List Value} {h : HP} {y0 : MethodName} {cc : ByteArray} {nL : Nat} {rt : Option FieldType} {rm : Room}
theorem aw_cIN (hk : OK K y0 cc nL rt rm) {y : MethodName} {cc2 : ByteArray} {nL2 ix a na : Nat} {rm2 : Room} {host : String} (hc : IE y cc2 nL2 na) (hd : decode cc pc = .ok (.invokespecial ix, 3)) (hp : pc + 3 = pc2) (hl1 : Cond.methodLinkNest y0.cls ix y host ∈ w_tbl) (hf : fitR rm2 rm nL2) (As : List Value) (hna : As.length = na) {stk : List Value} (hstk : stk = As.reverse ++ .ref a :: st) (hcat : (st.map fun v => v.category).sum ≤ 8) (hcs : cs + rm2.cells ≤ rm.cells) (hsl : sl + rm2.slots ≤ rm.slots) (hC : Calls y cc2 nL2 none rm2 (.ref a :: As) n h (fun r n2 h2 => AW K Q (cs + rm2.cells) (sl + rm2.slots) pc2 lv (r.toList ++ st) n2 h2)) : AW K Q cs sl pc lv stk n h := aw_callIN hk hc.1 hd hp hl1 hc.2.1 hc.2.2 hf As hna hcat hcs hsl hC hstk
theorem aw_cI (hk : OK K y0 cc nL rt rm) {y : MethodName} {cc2 : ByteArray} {nL2 ix a na : Nat} {rm2 : Room} (hc : IE y cc2 nL2 na) (hd : decode cc pc = .ok (.invokespecial ix, 3)) (hp : pc + 3 = pc2) (hl1 : Cond.methodLink y0.cls ix y ∈ w_tbl) (hf : fitR rm2 rm nL2) (As : List Value) (hna : As.length = na) {stk : List Value} (hstk : stk = As.reverse ++ .ref a :: st) (hcat : (st.map fun v => v.category).sum ≤ 8) (hcs : cs + rm2.cells ≤ rm.cells) (hsl : sl + rm2.slots ≤ rm.slots) (hC : Calls y cc2 nL2 none rm2 (.ref a :: As) n h (fun r n2 h2 => AW K Q (cs + rm2.cells) (sl + rm2.slots) pc2 lv (r.toList ++ st) n2 h2)) : AW K Q cs sl pc lv stk n h := aw_callI hk hc.1 hd hp hl1 hc.2.1 hc.2.2 hf As hna hcat hcs hsl hC hstk
end AWC3
/-- an object at a and the first j of its rows, from n on, over a heap -/
def AL (h : HP) (a n : Nat) (ob : HE) (arr : Nat → HE) (j : Nat) : HP := fun i => if i = a then some ob else if n ≤ i ∧ i < n + j then some (arr (i - n)) else h i
theorem AL_0 {h : HP} {a : Nat} (n : Nat) {ob : HE} (arr : Nat → HE) (ha : h a = some ob) : h = AL h a n ob arr 0 := by
  funext i
  unfold AL
  by_cases hi : i = a
  · rw [if_pos hi, hi, ha]
  · rw [if_neg hi, if_neg (by omega)]
theorem AL_at (h : HP) (a n : Nat) (ob : HE) (arr : Nat → HE) (j : Nat) : AL h a n ob arr j a = some ob := if_pos rfl
theorem AL_new {h : HP} {a n : Nat} {ob : HE} {arr : Nat → HE} (j : Nat) {e : HE} (han : a < n) (he : e = arr j) : hset (AL h a n ob arr j) (n + j) e = AL h a n ob arr (j + 1) := by
  funext i
  unfold hset AL
  by_cases hi : i = n + j
  · subst hi
    rw [if_pos rfl, if_neg (by omega), if_pos (by omega), he, Nat.add_sub_cancel_left]
  · rw [if_neg hi]
    by_cases ha : i = a
    · rw [if_pos ha, if_pos ha]
    · rw [if_neg ha, if_neg ha]
      by_cases hl : n ≤ i ∧ i < n + j
      · rw [if_pos hl, if_pos (by omega)]
      · rw [if_neg hl, if_neg (by omega)]
theorem AL_put {h : HP} {a n : Nat} {ob ob' : HE} {arr : Nat → HE} {j : Nat} : hset (AL h a n ob arr j) a ob' = AL h a n ob' arr j := by
  funext i
  unfold hset AL
  by_cases ha : i = a
  · rw [if_pos ha, if_pos ha]
  · rw [if_neg ha, if_neg ha, if_neg ha]
def zc (k : Nat × Nat) : HE := match k.1 with
  | 1 => .inl (0, k.2, .inl (fun _ => 0))
  | 2 => .inl (2, k.2, .inl (fun _ => 0))
  | 3 => .inl (1, k.2, .inr (.inl (fun _ => 0)))
  | 4 => .inl (3, k.2, rfs (fun _ => none))
  | 5 => .inl (4, k.2, rfs (fun _ => none))
  | 6 => .inl (5, k.2, rfs (fun _ => none))
  | _ => .inl (6, k.2, rfs (fun _ => none))
theorem vpV_nr (fs : List Value) (h : ∀ v ∈ fs, ∀ B, tv B v = v) : ∀ B j, tv B (vp_V fs j) = vp_V fs j := by
  intro B j
  unfold vp_V
  rw [List.getD_eq_getElem?_getD]
  cases hj : fs[j]? with
  | none => rfl
  | some v => exact h v (List.mem_of_getElem? hj) B
def zfX0 : List Value := [.int 0, .int 0, .int 0, .int 0, .int 0, .int 0, .long 0, .long 0, .long 0, .long 0, .long 0, .long 0, .long 0, .long 0, .long 0, .null]
theorem zdX0 : ∀ j, j < 16 → defaultValue (tyX0 j) = vp_V zfX0 j := fun j hj => by
  match j, hj with
  | 0, _ => rfl
  | 1, _ => rfl
  | 2, _ => rfl
  | 3, _ => rfl
  | 4, _ => rfl
  | 5, _ => rfl
  | 6, _ => rfl
  | 7, _ => rfl
  | 8, _ => rfl
  | 9, _ => rfl
  | 10, _ => rfl
  | 11, _ => rfl
  | 12, _ => rfl
  | 13, _ => rfl
  | 14, _ => rfl
  | 15, _ => rfl
  | (k + 16), h9 => exact absurd h9 (by omega)
theorem znX0 : ∀ B j, tv B (vp_V zfX0 j) = vp_V zfX0 j := vpV_nr _ (fun v hv B => by
  unfold zfX0 at hv
  simp only [List.mem_cons, List.not_mem_nil, or_false] at hv
  rcases hv with rfl | rfl | rfl | rfl | rfl | rfl | rfl | rfl | rfl | rfl | rfl | rfl | rfl | rfl | rfl | rfl <;> rfl)
def zfX1 : List Value := [.int 0, .int 0, .null, .null, .null]
theorem zdX1 : ∀ j, j < 5 → defaultValue (tyX1 j) = vp_V zfX1 j := fun j hj => by
  match j, hj with
  | 0, _ => rfl
  | 1, _ => rfl
  | 2, _ => rfl
  | 3, _ => rfl
  | 4, _ => rfl
theorem znX1 : ∀ B j, tv B (vp_V zfX1 j) = vp_V zfX1 j := vpV_nr _ (fun v hv B => by
  unfold zfX1 at hv
  simp only [List.mem_cons, List.not_mem_nil, or_false] at hv
  rcases hv with rfl | rfl | rfl | rfl | rfl <;> rfl)
def zfX2 : List Value := [.int 0, .int 0, .null, .null, .null, .null, .null]
theorem zdX2 : ∀ j, j < 7 → defaultValue (tyX2 j) = vp_V zfX2 j := fun j hj => by
  match j, hj with
  | 0, _ => rfl
  | 1, _ => rfl
  | 2, _ => rfl
  | 3, _ => rfl
  | 4, _ => rfl
  | 5, _ => rfl
  | 6, _ => rfl
theorem znX2 : ∀ B j, tv B (vp_V zfX2 j) = vp_V zfX2 j := vpV_nr _ (fun v hv B => by
  unfold zfX2 at hv
  simp only [List.mem_cons, List.not_mem_nil, or_false] at hv
  rcases hv with rfl | rfl | rfl | rfl | rfl | rfl | rfl <;> rfl)
def zfX3 : List Value := [.int 0, .int 0, .int 0, .null]
theorem zdX3 : ∀ j, j < 4 → defaultValue (tyX3 j) = vp_V zfX3 j := fun j hj => by
  match j, hj with
  | 0, _ => rfl
  | 1, _ => rfl
  | 2, _ => rfl
  | 3, _ => rfl
theorem znX3 : ∀ B j, tv B (vp_V zfX3 j) = vp_V zfX3 j := vpV_nr _ (fun v hv B => by
  unfold zfX3 at hv
  simp only [List.mem_cons, List.not_mem_nil, or_false] at hv
  rcases hv with rfl | rfl | rfl | rfl <;> rfl)
def zfX4 : List Value := [.int 0, .null, .null]
theorem zdX4 : ∀ j, j < 3 → defaultValue (tyX4 j) = vp_V zfX4 j := fun j hj => by
  match j, hj with
  | 0, _ => rfl
  | 1, _ => rfl
  | 2, _ => rfl
theorem znX4 : ∀ B j, tv B (vp_V zfX4 j) = vp_V zfX4 j := vpV_nr _ (fun v hv B => by
  unfold zfX4 at hv
  simp only [List.mem_cons, List.not_mem_nil, or_false] at hv
  rcases hv with rfl | rfl | rfl <;> rfl)
def zfX5 : List Value := [.int 0, .int 0, .null, .null, .null, .null, .null]
theorem zdX5 : ∀ j, j < 7 → defaultValue (tyX5 j) = vp_V zfX5 j := fun j hj => by
  match j, hj with
  | 0, _ => rfl
  | 1, _ => rfl
  | 2, _ => rfl
  | 3, _ => rfl
  | 4, _ => rfl
  | 5, _ => rfl
  | 6, _ => rfl
theorem znX5 : ∀ B j, tv B (vp_V zfX5 j) = vp_V zfX5 j := vpV_nr _ (fun v hv B => by
  unfold zfX5 at hv
  simp only [List.mem_cons, List.not_mem_nil, or_false] at hv
  rcases hv with rfl | rfl | rfl | rfl | rfl | rfl | rfl <;> rfl)
def zfX6 : List Value := [.null, .null, .null, .int 0, .null, .null, .null, .int 0, .null, .int 0, .int 0]
theorem zdX6 : ∀ j, j < 11 → defaultValue (tyX6 j) = vp_V zfX6 j := fun j hj => by
  match j, hj with
  | 0, _ => rfl
  | 1, _ => rfl
  | 2, _ => rfl
  | 3, _ => rfl
  | 4, _ => rfl
  | 5, _ => rfl
  | 6, _ => rfl
  | 7, _ => rfl
  | 8, _ => rfl
  | 9, _ => rfl
  | 10, _ => rfl
theorem znX6 : ∀ B j, tv B (vp_V zfX6 j) = vp_V zfX6 j := vpV_nr _ (fun v hv B => by
  unfold zfX6 at hv
  simp only [List.mem_cons, List.not_mem_nil, or_false] at hv
  rcases hv with rfl | rfl | rfl | rfl | rfl | rfl | rfl | rfl | rfl | rfl | rfl <;> rfl)
def zfX7 : List Value := [.int 0, .int 0, .null, .null, .null, .null, .null, .int 0, .null, .null, .null, .null, .null, .null, .null, .null, .int 0, .int 0, .int 0, .int 0, .int 0, .null, .null, .null, .null, .null, .null, .null, .null, .null, .null, .null, .null, .null, .null, .null, .null, .null, .null, .null, .null, .int 0, .null, .null, .null, .long 0]
theorem zdX7 : ∀ j, j < 46 → defaultValue (tyX7 j) = vp_V zfX7 j := fun j hj => by
  match j, hj with
  | 0, _ => rfl
  | 1, _ => rfl
  | 2, _ => rfl
  | 3, _ => rfl
  | 4, _ => rfl
  | 5, _ => rfl
  | 6, _ => rfl
  | 7, _ => rfl
  | 8, _ => rfl
  | 9, _ => rfl
  | 10, _ => rfl
  | 11, _ => rfl
  | 12, _ => rfl
  | 13, _ => rfl
  | 14, _ => rfl
  | 15, _ => rfl
  | 16, _ => rfl
  | 17, _ => rfl
  | 18, _ => rfl
  | 19, _ => rfl
  | 20, _ => rfl
  | 21, _ => rfl
  | 22, _ => rfl
  | 23, _ => rfl
  | 24, _ => rfl
  | 25, _ => rfl
  | 26, _ => rfl
  | 27, _ => rfl
  | 28, _ => rfl
  | 29, _ => rfl
  | 30, _ => rfl
  | 31, _ => rfl
  | 32, _ => rfl
  | 33, _ => rfl
  | 34, _ => rfl
  | 35, _ => rfl
  | 36, _ => rfl
  | 37, _ => rfl
  | 38, _ => rfl
  | 39, _ => rfl
  | 40, _ => rfl
  | 41, _ => rfl
  | 42, _ => rfl
  | 43, _ => rfl
  | 44, _ => rfl
  | 45, _ => rfl
  | (k + 46), h9 => exact absurd h9 (by omega)
theorem znX7 : ∀ B j, tv B (vp_V zfX7 j) = vp_V zfX7 j := vpV_nr _ (fun v hv B => by
  unfold zfX7 at hv
  simp only [List.mem_cons, List.not_mem_nil, or_false] at hv
  rcases hv with rfl | rfl | rfl | rfl | rfl | rfl | rfl | rfl | rfl | rfl | rfl | rfl | rfl | rfl | rfl | rfl | rfl | rfl | rfl | rfl | rfl | rfl | rfl | rfl | rfl | rfl | rfl | rfl | rfl | rfl | rfl | rfl | rfl | rfl | rfl | rfl | rfl | rfl | rfl | rfl | rfl | rfl | rfl | rfl | rfl | rfl <;> rfl)
theorem AL_eq {h : HP} {a n : Nat} {ob ob' : HE} {arr : Nat → HE} {j : Nat} (e : ob = ob') : AL h a n ob arr j = AL h a n ob' arr j := by rw [e]
theorem aw_hp {K : CX} {Q : QT} {cs sl pc n : Nat} {lv : List (Option Value)} {st : List Value} {h : HP} (h2 : HP) (e : h = h2) (kk : AW K Q cs sl pc lv st n h2) : AW K Q cs sl pc lv st n h := e ▸ kk
set_option maxHeartbeats 800000 in
set_option maxRecDepth 100000 in
theorem i_X0 {n a : Nat} {h : HP} {Q : QT} (han : a < n) (ha : h a = some (.inr (0, zfX0))) (hq : Q none (n + 1) (AL h a n (.inr (0, [.int 0, .int 0, .int 0, .int 0, .int 0, .int 0, .long 0, .long 0, .long 0, .long 0, .long 0, .long 0, .long 0, .long 0, .long 0, .ref (n + 0)])) (fun q => zc ([(3, 4)].getD q (0, 0))) 1)) : Calls yX0_init cX0_init 1 none rmX0_init [.ref a] n (h) Q := by
  refine Calls.of (by decide) (Nat.le_of_ble_eq_true rfl) ?_
  intro K hk
  show AW K Q 0 0 0 [some (.ref a)] [] n (h)
  refine aw_aload_n (pc2 := 1) hk dX0_init_0 rfl rfl ?_
  refine aw_objInit (pc2 := 4) hk dX0_init_1 rfl ml_X0_3 im_obj co_obj (Nat.le_of_ble_eq_true rfl) (Nat.le_of_ble_eq_true rfl) ?_
  refine aw_hp (AL h a n (.inr (0, zfX0)) (fun q => zc ([(3, 4)].getD q (0, 0))) 0) (AL_0 n _ ha) ?_
  refine aw_aload_n (pc2 := 5) hk dX0_init_4 rfl rfl ?_
  refine aw_iconst (v := nI 4) (pc2 := 6) hk dX0_init_5 rfl (by decide) ?_
  refine aw_newl (pc2 := 8) hk dX0_init_6 rfl ar_long (by decide) (Nat.le_of_ble_eq_true rfl) (Nat.le_of_ble_eq_true rfl) ?_
  refine aw_hp (AL h a n (.inr (0, zfX0)) (fun q => zc ([(3, 4)].getD q (0, 0))) 1) (AL_new 0 han rfl) ?_
  refine aw_putF (pc2 := 11) hk ckX0 15 dX0_init_8 rfl fl_X0_9 (by decide) rfl rfl rfl (AL_at _ _ _ _ _ _) (fun _ => rfl) (fun _ => rfl) (Nat.le_of_ble_eq_true rfl) ?_
  refine aw_hp (AL h a n (.inr (0, (zfX0).set 15 (.ref (n + 0)))) (fun q => zc ([(3, 4)].getD q (0, 0))) 1) AL_put ?_
  exact aw_vret hk dX0_init_11 (Nat.le_of_ble_eq_true rfl) (Nat.le_of_ble_eq_true rfl) hq
set_option maxHeartbeats 800000 in
set_option maxRecDepth 100000 in
theorem i_X1 {n a : Nat} {h : HP} {Q : QT} (han : a < n) (ha : h a = some (.inr (1, zfX1))) (hq : Q none (n + 3) (AL h a n (.inr (1, [.int 0, .int 0, .ref (n + 0), .ref (n + 1), .ref (n + 2)])) (fun q => zc ([(1, 4), (1, 4), (3, 4)].getD q (0, 0))) 3)) : Calls yX1_init cX1_init 1 none rmX1_init [.ref a] n (h) Q := by
  refine Calls.of (by decide) (Nat.le_of_ble_eq_true rfl) ?_
  intro K hk
  show AW K Q 0 0 0 [some (.ref a)] [] n (h)
  refine aw_aload_n (pc2 := 1) hk dX1_init_0 rfl rfl ?_
  refine aw_objInit (pc2 := 4) hk dX1_init_1 rfl ml_X1_3 im_obj co_obj (Nat.le_of_ble_eq_true rfl) (Nat.le_of_ble_eq_true rfl) ?_
  refine aw_hp (AL h a n (.inr (1, zfX1)) (fun q => zc ([(1, 4), (1, 4), (3, 4)].getD q (0, 0))) 0) (AL_0 n _ ha) ?_
  refine aw_aload_n (pc2 := 5) hk dX1_init_4 rfl rfl ?_
  refine aw_iconst (v := nI 4) (pc2 := 6) hk dX1_init_5 rfl (by decide) ?_
  refine aw_newi (pc2 := 8) hk dX1_init_6 rfl ar_int (by decide) (Nat.le_of_ble_eq_true rfl) (Nat.le_of_ble_eq_true rfl) ?_
  refine aw_hp (AL h a n (.inr (1, zfX1)) (fun q => zc ([(1, 4), (1, 4), (3, 4)].getD q (0, 0))) 1) (AL_new 0 han rfl) ?_
  refine aw_putF (pc2 := 11) hk ckX1 2 dX1_init_8 rfl fl_X1_9 (by decide) rfl rfl rfl (AL_at _ _ _ _ _ _) (fun _ => rfl) (fun _ => rfl) (Nat.le_of_ble_eq_true rfl) ?_
  refine aw_hp (AL h a n (.inr (1, (zfX1).set 2 (.ref (n + 0)))) (fun q => zc ([(1, 4), (1, 4), (3, 4)].getD q (0, 0))) 1) AL_put ?_
  refine aw_aload_n (pc2 := 12) hk dX1_init_11 rfl rfl ?_
  refine aw_iconst (v := nI 4) (pc2 := 13) hk dX1_init_12 rfl (by decide) ?_
  refine aw_newi (pc2 := 15) hk dX1_init_13 rfl ar_int (by decide) (Nat.le_of_ble_eq_true rfl) (Nat.le_of_ble_eq_true rfl) ?_
  refine aw_hp (AL h a n (.inr (1, (zfX1).set 2 (.ref (n + 0)))) (fun q => zc ([(1, 4), (1, 4), (3, 4)].getD q (0, 0))) 2) (AL_new 1 han rfl) ?_
  refine aw_putF (pc2 := 18) hk ckX1 3 dX1_init_15 rfl fl_X1_15 (by decide) rfl rfl rfl (AL_at _ _ _ _ _ _) (fun _ => rfl) (fun _ => rfl) (Nat.le_of_ble_eq_true rfl) ?_
  refine aw_hp (AL h a n (.inr (1, ((zfX1).set 2 (.ref (n + 0))).set 3 (.ref (n + 1)))) (fun q => zc ([(1, 4), (1, 4), (3, 4)].getD q (0, 0))) 2) AL_put ?_
  refine aw_aload_n (pc2 := 19) hk dX1_init_18 rfl rfl ?_
  refine aw_iconst (v := nI 4) (pc2 := 20) hk dX1_init_19 rfl (by decide) ?_
  refine aw_newl (pc2 := 22) hk dX1_init_20 rfl ar_long (by decide) (Nat.le_of_ble_eq_true rfl) (Nat.le_of_ble_eq_true rfl) ?_
  refine aw_hp (AL h a n (.inr (1, ((zfX1).set 2 (.ref (n + 0))).set 3 (.ref (n + 1)))) (fun q => zc ([(1, 4), (1, 4), (3, 4)].getD q (0, 0))) 3) (AL_new 2 han rfl) ?_
  refine aw_putF (pc2 := 25) hk ckX1 4 dX1_init_22 rfl fl_X1_18 (by decide) rfl rfl rfl (AL_at _ _ _ _ _ _) (fun _ => rfl) (fun _ => rfl) (Nat.le_of_ble_eq_true rfl) ?_
  refine aw_hp (AL h a n (.inr (1, (((zfX1).set 2 (.ref (n + 0))).set 3 (.ref (n + 1))).set 4 (.ref (n + 2)))) (fun q => zc ([(1, 4), (1, 4), (3, 4)].getD q (0, 0))) 3) AL_put ?_
  exact aw_vret hk dX1_init_25 (Nat.le_of_ble_eq_true rfl) (Nat.le_of_ble_eq_true rfl) hq
set_option maxHeartbeats 800000 in
set_option maxRecDepth 100000 in
theorem i_X2 {n a : Nat} {h : HP} {Q : QT} (han : a < n) (ha : h a = some (.inr (2, zfX2))) (hq : Q none (n + 5) (AL h a n (.inr (2, [.int 0, .int 0, .ref (n + 0), .ref (n + 1), .ref (n + 2), .ref (n + 3), .ref (n + 4)])) (fun q => zc ([(1, 256), (1, 256), (2, 256), (2, 256), (1, 256)].getD q (0, 0))) 5)) : Calls yX2_init cX2_init 1 none rmX2_init [.ref a] n (h) Q := by
  refine Calls.of (by decide) (Nat.le_of_ble_eq_true rfl) ?_
  intro K hk
  show AW K Q 0 0 0 [some (.ref a)] [] n (h)
  refine aw_aload_n (pc2 := 1) hk dX2_init_0 rfl rfl ?_
  refine aw_objInit (pc2 := 4) hk dX2_init_1 rfl ml_X2_3 im_obj co_obj (Nat.le_of_ble_eq_true rfl) (Nat.le_of_ble_eq_true rfl) ?_
  refine aw_hp (AL h a n (.inr (2, zfX2)) (fun q => zc ([(1, 256), (1, 256), (2, 256), (2, 256), (1, 256)].getD q (0, 0))) 0) (AL_0 n _ ha) ?_
  refine aw_aload_n (pc2 := 5) hk dX2_init_4 rfl rfl ?_
  refine aw_sipush (v := nI 256) (pc2 := 8) hk dX2_init_5 rfl (by decide) ?_
  refine aw_newi (pc2 := 10) hk dX2_init_8 rfl ar_int (by decide) (Nat.le_of_ble_eq_true rfl) (Nat.le_of_ble_eq_true rfl) ?_
  refine aw_hp (AL h a n (.inr (2, zfX2)) (fun q => zc ([(1, 256), (1, 256), (2, 256), (2, 256), (1, 256)].getD q (0, 0))) 1) (AL_new 0 han rfl) ?_
  refine aw_putF (pc2 := 13) hk ckX2 2 dX2_init_10 rfl fl_X2_9 (by decide) rfl rfl rfl (AL_at _ _ _ _ _ _) (fun _ => rfl) (fun _ => rfl) (Nat.le_of_ble_eq_true rfl) ?_
  refine aw_hp (AL h a n (.inr (2, (zfX2).set 2 (.ref (n + 0)))) (fun q => zc ([(1, 256), (1, 256), (2, 256), (2, 256), (1, 256)].getD q (0, 0))) 1) AL_put ?_
  refine aw_aload_n (pc2 := 14) hk dX2_init_13 rfl rfl ?_
  refine aw_sipush (v := nI 256) (pc2 := 17) hk dX2_init_14 rfl (by decide) ?_
  refine aw_newi (pc2 := 19) hk dX2_init_17 rfl ar_int (by decide) (Nat.le_of_ble_eq_true rfl) (Nat.le_of_ble_eq_true rfl) ?_
  refine aw_hp (AL h a n (.inr (2, (zfX2).set 2 (.ref (n + 0)))) (fun q => zc ([(1, 256), (1, 256), (2, 256), (2, 256), (1, 256)].getD q (0, 0))) 2) (AL_new 1 han rfl) ?_
  refine aw_putF (pc2 := 22) hk ckX2 3 dX2_init_19 rfl fl_X2_15 (by decide) rfl rfl rfl (AL_at _ _ _ _ _ _) (fun _ => rfl) (fun _ => rfl) (Nat.le_of_ble_eq_true rfl) ?_
  refine aw_hp (AL h a n (.inr (2, ((zfX2).set 2 (.ref (n + 0))).set 3 (.ref (n + 1)))) (fun q => zc ([(1, 256), (1, 256), (2, 256), (2, 256), (1, 256)].getD q (0, 0))) 2) AL_put ?_
  refine aw_aload_n (pc2 := 23) hk dX2_init_22 rfl rfl ?_
  refine aw_sipush (v := nI 256) (pc2 := 26) hk dX2_init_23 rfl (by decide) ?_
  refine aw_newz (pc2 := 28) hk dX2_init_26 rfl ar_boolean (by decide) (Nat.le_of_ble_eq_true rfl) (Nat.le_of_ble_eq_true rfl) ?_
  refine aw_hp (AL h a n (.inr (2, ((zfX2).set 2 (.ref (n + 0))).set 3 (.ref (n + 1)))) (fun q => zc ([(1, 256), (1, 256), (2, 256), (2, 256), (1, 256)].getD q (0, 0))) 3) (AL_new 2 han rfl) ?_
  refine aw_putF (pc2 := 31) hk ckX2 4 dX2_init_28 rfl fl_X2_18 (by decide) rfl rfl rfl (AL_at _ _ _ _ _ _) (fun _ => rfl) (fun _ => rfl) (Nat.le_of_ble_eq_true rfl) ?_
  refine aw_hp (AL h a n (.inr (2, (((zfX2).set 2 (.ref (n + 0))).set 3 (.ref (n + 1))).set 4 (.ref (n + 2)))) (fun q => zc ([(1, 256), (1, 256), (2, 256), (2, 256), (1, 256)].getD q (0, 0))) 3) AL_put ?_
  refine aw_aload_n (pc2 := 32) hk dX2_init_31 rfl rfl ?_
  refine aw_sipush (v := nI 256) (pc2 := 35) hk dX2_init_32 rfl (by decide) ?_
  refine aw_newz (pc2 := 37) hk dX2_init_35 rfl ar_boolean (by decide) (Nat.le_of_ble_eq_true rfl) (Nat.le_of_ble_eq_true rfl) ?_
  refine aw_hp (AL h a n (.inr (2, (((zfX2).set 2 (.ref (n + 0))).set 3 (.ref (n + 1))).set 4 (.ref (n + 2)))) (fun q => zc ([(1, 256), (1, 256), (2, 256), (2, 256), (1, 256)].getD q (0, 0))) 4) (AL_new 3 han rfl) ?_
  refine aw_putF (pc2 := 40) hk ckX2 5 dX2_init_37 rfl fl_X2_22 (by decide) rfl rfl rfl (AL_at _ _ _ _ _ _) (fun _ => rfl) (fun _ => rfl) (Nat.le_of_ble_eq_true rfl) ?_
  refine aw_hp (AL h a n (.inr (2, ((((zfX2).set 2 (.ref (n + 0))).set 3 (.ref (n + 1))).set 4 (.ref (n + 2))).set 5 (.ref (n + 3)))) (fun q => zc ([(1, 256), (1, 256), (2, 256), (2, 256), (1, 256)].getD q (0, 0))) 4) AL_put ?_
  refine aw_aload_n (pc2 := 41) hk dX2_init_40 rfl rfl ?_
  refine aw_sipush (v := nI 256) (pc2 := 44) hk dX2_init_41 rfl (by decide) ?_
  refine aw_newi (pc2 := 46) hk dX2_init_44 rfl ar_int (by decide) (Nat.le_of_ble_eq_true rfl) (Nat.le_of_ble_eq_true rfl) ?_
  refine aw_hp (AL h a n (.inr (2, ((((zfX2).set 2 (.ref (n + 0))).set 3 (.ref (n + 1))).set 4 (.ref (n + 2))).set 5 (.ref (n + 3)))) (fun q => zc ([(1, 256), (1, 256), (2, 256), (2, 256), (1, 256)].getD q (0, 0))) 5) (AL_new 4 han rfl) ?_
  refine aw_putF (pc2 := 49) hk ckX2 6 dX2_init_46 rfl fl_X2_25 (by decide) rfl rfl rfl (AL_at _ _ _ _ _ _) (fun _ => rfl) (fun _ => rfl) (Nat.le_of_ble_eq_true rfl) ?_
  refine aw_hp (AL h a n (.inr (2, (((((zfX2).set 2 (.ref (n + 0))).set 3 (.ref (n + 1))).set 4 (.ref (n + 2))).set 5 (.ref (n + 3))).set 6 (.ref (n + 4)))) (fun q => zc ([(1, 256), (1, 256), (2, 256), (2, 256), (1, 256)].getD q (0, 0))) 5) AL_put ?_
  exact aw_vret hk dX2_init_49 (Nat.le_of_ble_eq_true rfl) (Nat.le_of_ble_eq_true rfl) hq
set_option maxHeartbeats 800000 in
set_option maxRecDepth 100000 in
theorem i_X3 {n a : Nat} {h : HP} {Q : QT} (han : a < n) (ha : h a = some (.inr (3, zfX3))) (hq : Q none (n + 1) (AL h a n (.inr (3, [.int 0, .int 0, .int 0, .ref (n + 0)])) (fun q => zc ([(7, 12)].getD q (0, 0))) 1)) : Calls yX3_init cX3_init 1 none rmX3_init [.ref a] n (h) Q := by
  refine Calls.of (by decide) (Nat.le_of_ble_eq_true rfl) ?_
  intro K hk
  show AW K Q 0 0 0 [some (.ref a)] [] n (h)
  refine aw_aload_n (pc2 := 1) hk dX3_init_0 rfl rfl ?_
  refine aw_objInit (pc2 := 4) hk dX3_init_1 rfl ml_X3_3 im_obj co_obj (Nat.le_of_ble_eq_true rfl) (Nat.le_of_ble_eq_true rfl) ?_
  refine aw_hp (AL h a n (.inr (3, zfX3)) (fun q => zc ([(7, 12)].getD q (0, 0))) 0) (AL_0 n _ ha) ?_
  refine aw_aload_n (pc2 := 5) hk dX3_init_4 rfl rfl ?_
  refine aw_bipush (v := nI 12) (pc2 := 7) hk dX3_init_5 rfl (by decide) ?_
  refine aw_newq (t := 6) (pc2 := 10) hk (fun _ => rfl) dX3_init_7 rfl cl_X3_9 ao_X0 (by decide) (Nat.le_of_ble_eq_true rfl) (Nat.le_of_ble_eq_true rfl) ?_
  refine aw_hp (AL h a n (.inr (3, zfX3)) (fun q => zc ([(7, 12)].getD q (0, 0))) 1) (AL_new 0 han rfl) ?_
  refine aw_putF (pc2 := 13) hk ckX3 3 dX3_init_10 rfl fl_X3_11 (by decide) rfl rfl rfl (AL_at _ _ _ _ _ _) (fun _ => rfl) (fun _ => rfl) (Nat.le_of_ble_eq_true rfl) ?_
  refine aw_hp (AL h a n (.inr (3, (zfX3).set 3 (.ref (n + 0)))) (fun q => zc ([(7, 12)].getD q (0, 0))) 1) AL_put ?_
  exact aw_vret hk dX3_init_13 (Nat.le_of_ble_eq_true rfl) (Nat.le_of_ble_eq_true rfl) hq
set_option maxHeartbeats 800000 in
set_option maxRecDepth 100000 in
theorem i_X4 {n a : Nat} {h : HP} {Q : QT} (han : a < n) (ha : h a = some (.inr (4, zfX4))) (hq : Q none (n + 2) (AL h a n (.inr (4, [.int 0, .ref (n + 0), .ref (n + 1)])) (fun q => zc ([(1, 20), (1, 20)].getD q (0, 0))) 2)) : Calls yX4_init cX4_init 1 none rmX4_init [.ref a] n (h) Q := by
  refine Calls.of (by decide) (Nat.le_of_ble_eq_true rfl) ?_
  intro K hk
  show AW K Q 0 0 0 [some (.ref a)] [] n (h)
  refine aw_aload_n (pc2 := 1) hk dX4_init_0 rfl rfl ?_
  refine aw_objInit (pc2 := 4) hk dX4_init_1 rfl ml_X4_3 im_obj co_obj (Nat.le_of_ble_eq_true rfl) (Nat.le_of_ble_eq_true rfl) ?_
  refine aw_hp (AL h a n (.inr (4, zfX4)) (fun q => zc ([(1, 20), (1, 20)].getD q (0, 0))) 0) (AL_0 n _ ha) ?_
  refine aw_aload_n (pc2 := 5) hk dX4_init_4 rfl rfl ?_
  refine aw_bipush (v := nI 20) (pc2 := 7) hk dX4_init_5 rfl (by decide) ?_
  refine aw_newi (pc2 := 9) hk dX4_init_7 rfl ar_int (by decide) (Nat.le_of_ble_eq_true rfl) (Nat.le_of_ble_eq_true rfl) ?_
  refine aw_hp (AL h a n (.inr (4, zfX4)) (fun q => zc ([(1, 20), (1, 20)].getD q (0, 0))) 1) (AL_new 0 han rfl) ?_
  refine aw_putF (pc2 := 12) hk ckX4 1 dX4_init_9 rfl fl_X4_9 (by decide) rfl rfl rfl (AL_at _ _ _ _ _ _) (fun _ => rfl) (fun _ => rfl) (Nat.le_of_ble_eq_true rfl) ?_
  refine aw_hp (AL h a n (.inr (4, (zfX4).set 1 (.ref (n + 0)))) (fun q => zc ([(1, 20), (1, 20)].getD q (0, 0))) 1) AL_put ?_
  refine aw_aload_n (pc2 := 13) hk dX4_init_12 rfl rfl ?_
  refine aw_bipush (v := nI 20) (pc2 := 15) hk dX4_init_13 rfl (by decide) ?_
  refine aw_newi (pc2 := 17) hk dX4_init_15 rfl ar_int (by decide) (Nat.le_of_ble_eq_true rfl) (Nat.le_of_ble_eq_true rfl) ?_
  refine aw_hp (AL h a n (.inr (4, (zfX4).set 1 (.ref (n + 0)))) (fun q => zc ([(1, 20), (1, 20)].getD q (0, 0))) 2) (AL_new 1 han rfl) ?_
  refine aw_putF (pc2 := 20) hk ckX4 2 dX4_init_17 rfl fl_X4_15 (by decide) rfl rfl rfl (AL_at _ _ _ _ _ _) (fun _ => rfl) (fun _ => rfl) (Nat.le_of_ble_eq_true rfl) ?_
  refine aw_hp (AL h a n (.inr (4, ((zfX4).set 1 (.ref (n + 0))).set 2 (.ref (n + 1)))) (fun q => zc ([(1, 20), (1, 20)].getD q (0, 0))) 2) AL_put ?_
  exact aw_vret hk dX4_init_20 (Nat.le_of_ble_eq_true rfl) (Nat.le_of_ble_eq_true rfl) hq
set_option maxHeartbeats 800000 in
set_option maxRecDepth 100000 in
theorem i_X5 {n a : Nat} {h : HP} {Q : QT} (han : a < n) (ha : h a = some (.inr (5, zfX5))) (hq : Q none (n + 5) (AL h a n (.inr (5, [.int 0, .int 0, .ref (n + 0), .ref (n + 1), .ref (n + 2), .ref (n + 3), .ref (n + 4)])) (fun q => zc ([(1, 256), (1, 256), (1, 256), (2, 256), (1, 256)].getD q (0, 0))) 5)) : Calls yX5_init cX5_init 1 none rmX5_init [.ref a] n (h) Q := by
  refine Calls.of (by decide) (Nat.le_of_ble_eq_true rfl) ?_
  intro K hk
  show AW K Q 0 0 0 [some (.ref a)] [] n (h)
  refine aw_aload_n (pc2 := 1) hk dX5_init_0 rfl rfl ?_
  refine aw_objInit (pc2 := 4) hk dX5_init_1 rfl ml_X5_3 im_obj co_obj (Nat.le_of_ble_eq_true rfl) (Nat.le_of_ble_eq_true rfl) ?_
  refine aw_hp (AL h a n (.inr (5, zfX5)) (fun q => zc ([(1, 256), (1, 256), (1, 256), (2, 256), (1, 256)].getD q (0, 0))) 0) (AL_0 n _ ha) ?_
  refine aw_aload_n (pc2 := 5) hk dX5_init_4 rfl rfl ?_
  refine aw_sipush (v := nI 256) (pc2 := 8) hk dX5_init_5 rfl (by decide) ?_
  refine aw_newi (pc2 := 10) hk dX5_init_8 rfl ar_int (by decide) (Nat.le_of_ble_eq_true rfl) (Nat.le_of_ble_eq_true rfl) ?_
  refine aw_hp (AL h a n (.inr (5, zfX5)) (fun q => zc ([(1, 256), (1, 256), (1, 256), (2, 256), (1, 256)].getD q (0, 0))) 1) (AL_new 0 han rfl) ?_
  refine aw_putF (pc2 := 13) hk ckX5 2 dX5_init_10 rfl fl_X5_9 (by decide) rfl rfl rfl (AL_at _ _ _ _ _ _) (fun _ => rfl) (fun _ => rfl) (Nat.le_of_ble_eq_true rfl) ?_
  refine aw_hp (AL h a n (.inr (5, (zfX5).set 2 (.ref (n + 0)))) (fun q => zc ([(1, 256), (1, 256), (1, 256), (2, 256), (1, 256)].getD q (0, 0))) 1) AL_put ?_
  refine aw_aload_n (pc2 := 14) hk dX5_init_13 rfl rfl ?_
  refine aw_sipush (v := nI 256) (pc2 := 17) hk dX5_init_14 rfl (by decide) ?_
  refine aw_newi (pc2 := 19) hk dX5_init_17 rfl ar_int (by decide) (Nat.le_of_ble_eq_true rfl) (Nat.le_of_ble_eq_true rfl) ?_
  refine aw_hp (AL h a n (.inr (5, (zfX5).set 2 (.ref (n + 0)))) (fun q => zc ([(1, 256), (1, 256), (1, 256), (2, 256), (1, 256)].getD q (0, 0))) 2) (AL_new 1 han rfl) ?_
  refine aw_putF (pc2 := 22) hk ckX5 3 dX5_init_19 rfl fl_X5_15 (by decide) rfl rfl rfl (AL_at _ _ _ _ _ _) (fun _ => rfl) (fun _ => rfl) (Nat.le_of_ble_eq_true rfl) ?_
  refine aw_hp (AL h a n (.inr (5, ((zfX5).set 2 (.ref (n + 0))).set 3 (.ref (n + 1)))) (fun q => zc ([(1, 256), (1, 256), (1, 256), (2, 256), (1, 256)].getD q (0, 0))) 2) AL_put ?_
  refine aw_aload_n (pc2 := 23) hk dX5_init_22 rfl rfl ?_
  refine aw_sipush (v := nI 256) (pc2 := 26) hk dX5_init_23 rfl (by decide) ?_
  refine aw_newi (pc2 := 28) hk dX5_init_26 rfl ar_int (by decide) (Nat.le_of_ble_eq_true rfl) (Nat.le_of_ble_eq_true rfl) ?_
  refine aw_hp (AL h a n (.inr (5, ((zfX5).set 2 (.ref (n + 0))).set 3 (.ref (n + 1)))) (fun q => zc ([(1, 256), (1, 256), (1, 256), (2, 256), (1, 256)].getD q (0, 0))) 3) (AL_new 2 han rfl) ?_
  refine aw_putF (pc2 := 31) hk ckX5 4 dX5_init_28 rfl fl_X5_18 (by decide) rfl rfl rfl (AL_at _ _ _ _ _ _) (fun _ => rfl) (fun _ => rfl) (Nat.le_of_ble_eq_true rfl) ?_
  refine aw_hp (AL h a n (.inr (5, (((zfX5).set 2 (.ref (n + 0))).set 3 (.ref (n + 1))).set 4 (.ref (n + 2)))) (fun q => zc ([(1, 256), (1, 256), (1, 256), (2, 256), (1, 256)].getD q (0, 0))) 3) AL_put ?_
  refine aw_aload_n (pc2 := 32) hk dX5_init_31 rfl rfl ?_
  refine aw_sipush (v := nI 256) (pc2 := 35) hk dX5_init_32 rfl (by decide) ?_
  refine aw_newz (pc2 := 37) hk dX5_init_35 rfl ar_boolean (by decide) (Nat.le_of_ble_eq_true rfl) (Nat.le_of_ble_eq_true rfl) ?_
  refine aw_hp (AL h a n (.inr (5, (((zfX5).set 2 (.ref (n + 0))).set 3 (.ref (n + 1))).set 4 (.ref (n + 2)))) (fun q => zc ([(1, 256), (1, 256), (1, 256), (2, 256), (1, 256)].getD q (0, 0))) 4) (AL_new 3 han rfl) ?_
  refine aw_putF (pc2 := 40) hk ckX5 5 dX5_init_37 rfl fl_X5_21 (by decide) rfl rfl rfl (AL_at _ _ _ _ _ _) (fun _ => rfl) (fun _ => rfl) (Nat.le_of_ble_eq_true rfl) ?_
  refine aw_hp (AL h a n (.inr (5, ((((zfX5).set 2 (.ref (n + 0))).set 3 (.ref (n + 1))).set 4 (.ref (n + 2))).set 5 (.ref (n + 3)))) (fun q => zc ([(1, 256), (1, 256), (1, 256), (2, 256), (1, 256)].getD q (0, 0))) 4) AL_put ?_
  refine aw_aload_n (pc2 := 41) hk dX5_init_40 rfl rfl ?_
  refine aw_sipush (v := nI 256) (pc2 := 44) hk dX5_init_41 rfl (by decide) ?_
  refine aw_newi (pc2 := 46) hk dX5_init_44 rfl ar_int (by decide) (Nat.le_of_ble_eq_true rfl) (Nat.le_of_ble_eq_true rfl) ?_
  refine aw_hp (AL h a n (.inr (5, ((((zfX5).set 2 (.ref (n + 0))).set 3 (.ref (n + 1))).set 4 (.ref (n + 2))).set 5 (.ref (n + 3)))) (fun q => zc ([(1, 256), (1, 256), (1, 256), (2, 256), (1, 256)].getD q (0, 0))) 5) (AL_new 4 han rfl) ?_
  refine aw_putF (pc2 := 49) hk ckX5 6 dX5_init_46 rfl fl_X5_25 (by decide) rfl rfl rfl (AL_at _ _ _ _ _ _) (fun _ => rfl) (fun _ => rfl) (Nat.le_of_ble_eq_true rfl) ?_
  refine aw_hp (AL h a n (.inr (5, (((((zfX5).set 2 (.ref (n + 0))).set 3 (.ref (n + 1))).set 4 (.ref (n + 2))).set 5 (.ref (n + 3))).set 6 (.ref (n + 4)))) (fun q => zc ([(1, 256), (1, 256), (1, 256), (2, 256), (1, 256)].getD q (0, 0))) 5) AL_put ?_
  exact aw_vret hk dX5_init_49 (Nat.le_of_ble_eq_true rfl) (Nat.le_of_ble_eq_true rfl) hq
def zr {α : Type} (M : Nat → Nat → α) (a : Nat) (x : α) : Nat → Nat → α := fun b c => if b = a then x else M b c
theorem zr_ne {α : Type} (M : Nat → Nat → α) {a b : Nat} (x : α) (h : b ≠ a) : zr M a x b = M b := by funext c; simp [zr, h]
theorem zr_s {α : Type} (M : Nat → Nat → α) (a : Nat) (x : α) (c : Nat) : zr M a x a c = x := by simp [zr]
def dX (d : D2) (n : Nat) (k1 k2 : Nat × Nat) : D2 := fun a => if a = n then k1 else if a = n + 1 then k2 else d a
theorem dX_0 {d : D2} {n : Nat} {k1 k2 : Nat × Nat} (hn : 115 ≤ n) : kd (dX d n k1 k2) n = k1 := by rw [kd_dyn hn]; exact if_pos rfl
theorem dX_1 {d : D2} {n : Nat} {k1 k2 : Nat × Nat} (hn : 115 ≤ n) : kd (dX d n k1 k2) (n + 1) = k2 := by
  rw [kd_dyn (by omega)]
  unfold dX
  rw [if_neg (by omega), if_pos rfl]
theorem dX_n {d : D2} {n a : Nat} {k1 k2 : Nat × Nat} (h0 : a ≠ n) (h1 : a ≠ n + 1) : kd (dX d n k1 k2) a = kd d a := by
  unfold kd dX
  rw [if_neg h0, if_neg h1]
theorem H5_case {d : D2} {I : M2} {J : J2} {S : M2} {L : J2} {R : R2} {n t : Nat} {x : HE} (hn : 115 ≤ n) : AL (hset (H5 d I J S L R) n x) n (n + 1) (.inr (0, [.int 0, .int 0, .int 0, .int 0, .int 0, .int 0, .long 0, .long 0, .long 0, .long 0, .long 0, .long 0, .long 0, .long 0, .long 0, .ref (n + 1 + 0)])) (fun q => zc ([(3, 4)].getD q (0, 0))) 1 = H5 (dX d n (10, t) (3, 4)) I (zr J (n + 1) 0) (zr S n 0) (zr L n 0) R := by
  funext i
  unfold AL hset
  by_cases h0 : i = n
  · subst h0
    rw [if_pos rfl, o_X0 (dX_0 hn)]
    simp [zr]
  · rw [if_neg h0]
    by_cases h1 : i = n + 1
    · subst h1
      rw [if_pos (by omega), H5_l (dX_1 hn), Nat.sub_self]
      have e : zr J (n + 1) 0 (n + 1) = fun _ => 0 := by funext c; simp [zr]
      rw [e]
      rfl
    · rw [if_neg (by omega), if_neg h0]
      unfold H5
      rw [dX_n h0 h1]
      exact (cellK_eq rfl (zr_ne J 0 h1) (zr_ne S 0 h0) (zr_ne L 0 h0) rfl).symm
theorem H5_order {d : D2} {I : M2} {J : J2} {S : M2} {L : J2} {R : R2} {n t : Nat} {x : HE} (hn : 115 ≤ n) : AL (hset (H5 d I J S L R) n x) n (n + 1) (.inr (3, [.int 0, .int 0, .int 0, .ref (n + 1 + 0)])) (fun q => zc ([(7, 12)].getD q (0, 0))) 1 = H5 (dX d n (13, t) (7, 12)) I J (zr S n 0) L (zr R (n + 1) none) := by
  funext i
  unfold AL hset
  by_cases h0 : i = n
  · subst h0
    rw [if_pos rfl, o_X3 (dX_0 hn)]
    simp [zr]
  · rw [if_neg h0]
    by_cases h1 : i = n + 1
    · subst h1
      rw [if_pos (by omega), H5_r6 (dX_1 hn), Nat.sub_self]
      have e : zr R (n + 1) none (n + 1) = fun _ => none := by funext c; simp [zr]
      rw [e]
      rfl
    · rw [if_neg (by omega), if_neg h0]
      unfold H5
      rw [dX_n h0 h1]
      exact (cellK_eq rfl rfl (zr_ne S 0 h0) rfl (zr_ne R none h1)).symm
theorem h_aast {K : CX} {Q : QT} {cs sl pc pc2 n : Nat} {lv : List (Option Value)} {st : List Value} {y0 : MethodName} {cc : ByteArray} {nL : Nat} {rt : Option FieldType} {rm : Room} {d : D2} {I : M2} {J : J2} {S : M2} {L : J2} {R : R2} {a v j len t k : Nat} (hk : OK K y0 cc nL rt rm) {x : Int32} {vs : List Value} (ht : (t = 5 ∧ k = 6) ∨ (t = 6 ∧ k = 7)) (hd : decode cc pc = .ok (.aastore, 1)) (hp : pc + 1 = pc2) (ha : kd d a = (k, len)) (hx : x = nI j) (hj : j < len) (hN : len < 2 ^ 31) (hv : H5 d I J S L R v = some (.inr (raC t, vs))) (kk : AW K Q cs sl pc2 lv st n (H5 d I J S L (u2 R a j (some v)))) : AW K Q cs sl pc lv (.ref v :: .int x :: .ref a :: st) n (H5 d I J S L R) := by
  subst hx
  rcases ht with ⟨rfl, rfl⟩ | ⟨rfl, rfl⟩
  · refine aw_aastN hk (Or.inr (Or.inr (Or.inl rfl))) hd hp (H5_r5 ha) hv hj hN ?_
    rw [hset_r (Or.inr (Or.inr (Or.inl ⟨rfl, ha⟩)))]
    exact kk
  · refine aw_aastN hk (Or.inr (Or.inr (Or.inr rfl))) hd hp (H5_r6 ha) hv hj hN ?_
    rw [hset_r (Or.inr (Or.inr (Or.inr ⟨rfl, ha⟩)))]
    exact kk
def bgS (S : M2) (a : Nat) (f c : Int32) : M2 := u2 (u2 (u2 (u2 (u2 (u2 S a 0 f) a 1 c) a 2 0) a 3 0) a 4 0) a 5 0
def bgL (L : J2) (a : Nat) : J2 := u2 (u2 (u2 (u2 (u2 (u2 (u2 (u2 (u2 L a 6 0) a 7 0) a 8 0) a 9 0) a 10 0) a 11 0) a 12 0) a 13 0) a 14 0
/-- what addCase does: the row's case is used again, or a new one is made -/
def AdR (a o m : Nat) (f x : Int32) (n : Nat) (d : D2) (J : J2) (S : M2) (L : J2) (R : R2) (n' : Nat) (d' : D2) (J' : J2) (S' : M2) (L' : J2) (R' : R2) : Prop :=
  (∃ c, R (a + 1) m = some c ∧ kd d c = (10, 12 * o + m) ∧ kd d (c + 1) = (3, 4) ∧ n' = n ∧ d' = d ∧ R' = R ∧ J' = rowU J (c + 1) 4 (fun _ => 0) ∧ S' = bgS (u2 S a 2 (nI (m + 1))) c f x ∧ L' = bgL L c) ∨
  (R (a + 1) m = none ∧ n' = n + 2 ∧ d' = dX d n (10, 12 * o + m) (3, 4) ∧ R' = u2 R (a + 1) m (some n) ∧ J' = rowU (zr J (n + 1) 0) (n + 1) 4 (fun _ => 0) ∧ S' = bgS (u2 (zr S n 0) a 2 (nI (m + 1))) n f x ∧ L' = bgL (zr L n 0) n)
set_option maxHeartbeats 800000 in
set_option maxRecDepth 100000 in
theorem t_addCase {n : Nat} {d : D2} {I : M2} {J : J2} {S : M2} {L : J2} {R : R2} {Q : QT} {a o m : Nat} {f x : Int32} (hn : 115 ≤ n) (han : a + 1 < n) (ha : kd d a = (13, o)) (ha1 : kd d (a + 1) = (7, 12)) (hS2 : S a 2 = nI m) (hm : m < 12) (hrow : R (a + 1) m = none ∨ ∃ c, R (a + 1) m = some c ∧ kd d c = (10, 12 * o + m) ∧ kd d (c + 1) = (3, 4)) (hq : ∀ n' d' J' S' L' R', AdR a o m f x n d J S L R n' d' J' S' L' R' → Q none n' (H5 d' I J' S' L' R')) : Calls yX3_addCase cX3_addCase 4 none rmX3_addCase [.ref a, .int f, .int x] n (H5 d I J S L R) Q := by
  refine Calls.of (by decide) (Nat.le_of_ble_eq_true rfl) ?_
  intro K hk
  show AW K Q 0 0 0 [some (.ref a), some (.int f), some (.int x), none] [] n (H5 d I J S L R)
  rcases hrow with hc | ⟨c, hc, hc1, hc2⟩
  · refine aw_aload_n (pc2 := 1) hk dX3_addCase_0 rfl rfl ?_
    refine aw_get (pc2 := 4) hk ckX3 2 dX3_addCase_1 rfl fl_X3_24 (by decide) (o_X3 ha) rfl ?_
    refine aw_bipush (v := 12) (pc2 := 6) hk dX3_addCase_4 rfl (by decide) ?_
    refine aw_icN_lt (x := m) (y := 12) (tgt := 10) (pc2 := 9) hk dX3_addCase_6 (by decide) rfl hS2 rfl (by omega) (by omega) (fun c6 => ?_) (fun c6 => absurd c6 (by omega))
    refine aw_aload_n (pc2 := 11) hk dX3_addCase_10 rfl rfl ?_
    refine aw_get (pc2 := 14) hk ckX3 3 dX3_addCase_11 rfl fl_X3_11 (by decide) (o_X3 ha) rfl ?_
    refine aw_aload_n (pc2 := 15) hk dX3_addCase_14 rfl rfl ?_
    refine aw_get (pc2 := 18) hk ckX3 2 dX3_addCase_15 rfl fl_X3_24 (by decide) (o_X3 ha) rfl ?_
    refine h_aald (pc2 := 19) hk dX3_addCase_18 rfl (Or.inr (Or.inr (Or.inr rfl))) ha1 hS2 (by omega) (by decide) (by rw [hc]) ?_
    refine aw_astore_nN (pc2 := 20) hk dX3_addCase_19 rfl (by decide) ?_
    show AW K Q _ _ 20 [_, _, _, _] _ _ _
    refine aw_aload_nN (pc2 := 21) hk dX3_addCase_20 rfl rfl ?_
    refine aw_ifnonnull_n (pc2 := 24) hk dX3_addCase_21 rfl ?_
    refine aw_new (pc2 := 27) hk ckX0 zfX0 dX3_addCase_24 rfl cl_X3_9 in_X0 ini_X0 zdX0 znX0 (Nat.le_of_ble_eq_true rfl) (Nat.le_of_ble_eq_true rfl) ?_
    refine aw_dup_r (pc2 := 28) hk dX3_addCase_27 rfl ?_
    refine aw_cIN (rm2 := rmX0_init) (pc2 := 31) hk ieX0_init dX3_addCase_28 rfl mn_X3_27 ⟨(Nat.le_of_ble_eq_true rfl), (Nat.le_of_ble_eq_true rfl)⟩ [] rfl rfl (Nat.le_of_ble_eq_true rfl) (Nat.le_of_ble_eq_true rfl) (Nat.le_of_ble_eq_true rfl) (i_X0 (Nat.lt_succ_self n) (if_pos rfl) ?_)
    rw [H5_case (t := 12 * o + m) hn]
    have hkn := dX_0 (d := d) (k1 := (10, 12 * o + m)) (k2 := (3, 4)) hn
    have hkn1 := dX_1 (d := d) (k1 := (10, 12 * o + m)) (k2 := (3, 4)) hn
    have ha' : kd (dX d n (10, 12 * o + m) (3, 4)) a = (13, o) := (dX_n (by omega) (by omega)).trans ha
    have ha1' : kd (dX d n (10, 12 * o + m) (3, 4)) (a + 1) = (7, 12) := (dX_n (by omega) (by omega)).trans ha1
    have hS2' : zr S n 0 a 2 = nI m := by rw [zr_ne _ _ (by omega)]; exact hS2
    refine aw_astore_n (pc2 := 32) hk dX3_addCase_31 rfl (by decide) ?_
    show AW K Q _ _ 32 [_, _, _, _] _ _ _
    refine aw_aload_n (pc2 := 33) hk dX3_addCase_32 rfl rfl ?_
    refine aw_get (pc2 := 36) hk ckX3 3 dX3_addCase_33 rfl fl_X3_11 (by decide) (o_X3 ha') rfl ?_
    refine aw_aload_n (pc2 := 37) hk dX3_addCase_36 rfl rfl ?_
    refine aw_get (pc2 := 40) hk ckX3 2 dX3_addCase_37 rfl fl_X3_24 (by decide) (o_X3 ha') rfl ?_
    refine aw_aload_n (pc2 := 41) hk dX3_addCase_40 rfl rfl ?_
    refine h_aast (pc2 := 42) hk (Or.inr ⟨rfl, rfl⟩) dX3_addCase_41 rfl ha1' hS2' (by omega) (by decide) (o_X0 hkn) ?_
    refine aw_aload_n (pc2 := 43) hk dX3_addCase_42 rfl rfl ?_
    refine aw_dup_r (pc2 := 44) hk dX3_addCase_43 rfl ?_
    refine aw_get (pc2 := 47) hk ckX3 2 dX3_addCase_44 rfl fl_X3_24 (by decide) (o_X3 ha') rfl ?_
    refine aw_iconst (v := 1) (pc2 := 48) hk dX3_addCase_47 rfl (by decide) ?_
    refine aw_iadd (pc2 := 49) hk dX3_addCase_48 rfl ?_
    refine aw_top (nI (m + 1)) (by rw [hS2']; exact nI_1 m) ?_
    refine aw_put (pc2 := 52) hk ckX3 2 dX3_addCase_49 rfl fl_X3_24 (by decide) rfl (o_X3 ha') (fun _ => rfl) (fun _ => rfl) (Nat.le_of_ble_eq_true rfl) ?_
    rw [p_X3_2 ha']
    refine aw_aload_n (pc2 := 53) hk dX3_addCase_52 rfl rfl ?_
    refine aw_iload_n (pc2 := 54) hk dX3_addCase_53 rfl rfl ?_
    refine aw_iload_n (pc2 := 55) hk dX3_addCase_54 rfl rfl ?_
    refine aw_cV (rm2 := rmX0_begin) (pc2 := 58) hk veX0_begin dX3_addCase_55 rfl ml_X3_28 ⟨(Nat.le_of_ble_eq_true rfl), (Nat.le_of_ble_eq_true rfl)⟩ [_, _] rfl rfl (Nat.le_of_ble_eq_true rfl) (Nat.le_of_ble_eq_true rfl) (Nat.le_of_ble_eq_true rfl) (o_X0 hkn) (t_caseBegin hkn hkn1 ?_)
    refine aw_vret hk dX3_addCase_58 (Nat.le_of_ble_eq_true rfl) (Nat.le_of_ble_eq_true rfl) (hq (n + 2) _ _ _ _ _ (Or.inr ⟨hc, rfl, rfl, rfl, rfl, rfl, rfl⟩))
  · refine aw_aload_n (pc2 := 1) hk dX3_addCase_0 rfl rfl ?_
    refine aw_get (pc2 := 4) hk ckX3 2 dX3_addCase_1 rfl fl_X3_24 (by decide) (o_X3 ha) rfl ?_
    refine aw_bipush (v := 12) (pc2 := 6) hk dX3_addCase_4 rfl (by decide) ?_
    refine aw_icN_lt (x := m) (y := 12) (tgt := 10) (pc2 := 9) hk dX3_addCase_6 (by decide) rfl hS2 rfl (by omega) (by omega) (fun c6 => ?_) (fun c6 => absurd c6 (by omega))
    refine aw_aload_n (pc2 := 11) hk dX3_addCase_10 rfl rfl ?_
    refine aw_get (pc2 := 14) hk ckX3 3 dX3_addCase_11 rfl fl_X3_11 (by decide) (o_X3 ha) rfl ?_
    refine aw_aload_n (pc2 := 15) hk dX3_addCase_14 rfl rfl ?_
    refine aw_get (pc2 := 18) hk ckX3 2 dX3_addCase_15 rfl fl_X3_24 (by decide) (o_X3 ha) rfl ?_
    refine h_aald (pc2 := 19) hk dX3_addCase_18 rfl (Or.inr (Or.inr (Or.inr rfl))) ha1 hS2 (by omega) (by decide) (by rw [hc]) ?_
    refine aw_astore_n (pc2 := 20) hk dX3_addCase_19 rfl (by decide) ?_
    show AW K Q _ _ 20 [_, _, _, _] _ _ _
    refine aw_aload_n (pc2 := 21) hk dX3_addCase_20 rfl rfl ?_
    refine aw_ifnonnull_r (tgt := 42) hk dX3_addCase_21 (by decide) ?_
    refine aw_aload_n (pc2 := 43) hk dX3_addCase_42 rfl rfl ?_
    refine aw_dup_r (pc2 := 44) hk dX3_addCase_43 rfl ?_
    refine aw_get (pc2 := 47) hk ckX3 2 dX3_addCase_44 rfl fl_X3_24 (by decide) (o_X3 ha) rfl ?_
    refine aw_iconst (v := 1) (pc2 := 48) hk dX3_addCase_47 rfl (by decide) ?_
    refine aw_iadd (pc2 := 49) hk dX3_addCase_48 rfl ?_
    refine aw_top (nI (m + 1)) (by rw [hS2]; exact nI_1 m) ?_
    refine aw_put (pc2 := 52) hk ckX3 2 dX3_addCase_49 rfl fl_X3_24 (by decide) rfl (o_X3 ha) (fun _ => rfl) (fun _ => rfl) (Nat.le_of_ble_eq_true rfl) ?_
    rw [p_X3_2 ha]
    refine aw_aload_n (pc2 := 53) hk dX3_addCase_52 rfl rfl ?_
    refine aw_iload_n (pc2 := 54) hk dX3_addCase_53 rfl rfl ?_
    refine aw_iload_n (pc2 := 55) hk dX3_addCase_54 rfl rfl ?_
    refine aw_cV (rm2 := rmX0_begin) (pc2 := 58) hk veX0_begin dX3_addCase_55 rfl ml_X3_28 ⟨(Nat.le_of_ble_eq_true rfl), (Nat.le_of_ble_eq_true rfl)⟩ [_, _] rfl rfl (Nat.le_of_ble_eq_true rfl) (Nat.le_of_ble_eq_true rfl) (Nat.le_of_ble_eq_true rfl) (o_X0 hc1) (t_caseBegin hc1 hc2 ?_)
    refine aw_vret hk dX3_addCase_58 (Nat.le_of_ble_eq_true rfl) (Nat.le_of_ble_eq_true rfl) (hq n d _ _ _ R (Or.inl ⟨c, hc, hc1, hc2, rfl, rfl, rfl, rfl, rfl, rfl⟩))
