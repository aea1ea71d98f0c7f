abbrev M2 : Type := Nat → Nat → Int32
abbrev J2 : Type := Nat → Nat → Int64
abbrev R2 : Type := Nat → Nat → Option Nat
abbrev D2 : Type := Nat → Nat × Nat
def u2 {α : Type} (M : Nat → Nat → α) (a j : Nat) (x : α) : Nat → Nat → α := fun b c => if b = a ∧ c = j then x else M b c
theorem u2_s {α : Type} (M : Nat → Nat → α) (a j : Nat) (x : α) : u2 M a j x a j = x := by simp [u2]
theorem u2_a {α : Type} (M : Nat → Nat → α) {a b : Nat} (j c : Nat) (x : α) (h : b ≠ a) : u2 M a j x b c = M b c := by simp [u2, h]
theorem u2_j {α : Type} (M : Nat → Nat → α) (a b : Nat) {j c : Nat} (x : α) (h : c ≠ j) : u2 M a j x b c = M b c := by simp [u2, h]
abbrev rfs (f : Nat → Option Nat) : (Nat → Int32) ⊕ (Nat → Int64) ⊕ (Nat → UInt32) ⊕ (Nat → UInt64) ⊕ (Nat → Option Nat) := .inr (.inr (.inr (.inr f)))
abbrev fsX0 (a : Nat) (S : M2) (L : J2) : List Value := [.int (S a 0), .int (S a 1), .int (S a 2), .int (S a 3), .int (S a 4), .int (S a 5), .long (L a 6), .long (L a 7), .long (L a 8), .long (L a 9), .long (L a 10), .long (L a 11), .long (L a 12), .long (L a 13), .long (L a 14), .ref (a + 1)]
abbrev fsX1 (a : Nat) (S : M2) (L : J2) : List Value := [.int (S a 0), .int (S a 1), .ref (a + 1), .ref (a + 2), .ref (a + 3)]
abbrev fsX2 (a : Nat) (S : M2) (L : J2) : List Value := [.int (S a 0), .int (S a 1), .ref (a + 1), .ref (a + 2), .ref (a + 3), .ref (a + 4), .ref (a + 5)]
abbrev fsX3 (a : Nat) (S : M2) (L : J2) : List Value := [.int (S a 0), .int (S a 1), .int (S a 2), .ref (a + 1)]
abbrev fsX4 (a : Nat) (S : M2) (L : J2) : List Value := [.int (S a 0), .ref (a + 1), .ref (a + 2)]
abbrev fsX5 (a : Nat) (S : M2) (L : J2) : List Value := [.int (S a 0), .int (S a 1), .ref (a + 1), .ref (a + 2), .ref (a + 3), .ref (a + 4), .ref (a + 5)]
abbrev fsX6 (a : Nat) (S : M2) (L : J2) : List Value := [.ref 1, .ref 7, .ref 13, .int (S a 3), .ref 62, .ref 75, .ref 76, .int (S a 7), .ref 77, .int (S a 9), .int (S a 10)]
abbrev fsX7 (a : Nat) (S : M2) (L : J2) : List Value := [.int (S a 0), .int (S a 1), .ref 79, .ref 80, .ref 81, .ref 82, .ref 83, .int (S a 7), .ref 84, .ref 85, .ref 86, .ref 87, .ref 88, .ref 89, .ref 90, .ref 91, .int (S a 16), .int (S a 17), .int (S a 18), .int (S a 19), .int (S a 20), .ref 92, .ref 93, .ref 94, .ref 95, .ref 96, .ref 97, .ref 98, .ref 99, .ref 100, .ref 101, .ref 102, .ref 103, .ref 104, .ref 105, .ref 106, .ref 107, .ref 108, .ref 109, .ref 110, .ref 111, .int (S a 41), .ref 112, .ref 113, .ref 114, .long (L a 45)]
def kL : List (Nat × Nat) := [(16, 0), (12, 0), (1, 256), (1, 256), (2, 256), (2, 256), (1, 256), (15, 0), (1, 256), (1, 256), (1, 256), (2, 256), (1, 256), (4, 12), (11, 0), (1, 4), (1, 4), (3, 4), (11, 0), (1, 4), (1, 4), (3, 4), (11, 0), (1, 4), (1, 4), (3, 4), (11, 0), (1, 4), (1, 4), (3, 4), (11, 0), (1, 4), (1, 4), (3, 4), (11, 0), (1, 4), (1, 4), (3, 4), (11, 0), (1, 4), (1, 4), (3, 4), (11, 0), (1, 4), (1, 4), (3, 4), (11, 0), (1, 4), (1, 4), (3, 4), (11, 0), (1, 4), (1, 4), (3, 4), (11, 0), (1, 4), (1, 4), (3, 4), (11, 0), (1, 4), (1, 4), (3, 4), (5, 4), (14, 0), (1, 20), (1, 20), (14, 0), (1, 20), (1, 20), (14, 0), (1, 20), (1, 20), (14, 0), (1, 20), (1, 20), (1, 4), (1, 5), (6, 60), (17, 0), (1, 256), (1, 256), (2, 256), (2, 256), (1, 256), (1, 12), (1, 12), (1, 48), (1, 48), (1, 4), (1, 80), (1, 80), (1, 5), (1, 60), (1, 60), (1, 60), (2, 60), (1, 720), (1, 720), (1, 720), (1, 720), (1, 720), (3, 720), (3, 720), (3, 720), (3, 720), (3, 720), (3, 720), (3, 720), (1, 720), (3, 2880), (1, 256), (1, 256), (1, 256), (1, 256), (2, 256)]
def kd (d : D2) (a : Nat) : Nat × Nat := if a < 115 then kL.getD a (0, 0) else d a
def cellK (k : Nat × Nat) (a : Nat) (I : M2) (J : J2) (S : M2) (L : J2) (R : R2) : Option HE := match k.1 with
  | 1 => some (.inl (0, k.2, .inl (I a)))
  | 2 => some (.inl (2, k.2, .inl (I a)))
  | 3 => some (.inl (1, k.2, .inr (.inl (J a))))
  | 4 => some (.inl (3, k.2, rfs (R a)))
  | 5 => some (.inl (4, k.2, rfs (R a)))
  | 6 => some (.inl (5, k.2, rfs (R a)))
  | 7 => some (.inl (6, k.2, rfs (R a)))
  | 10 => some (.inr (0, fsX0 a S L))
  | 11 => some (.inr (1, fsX1 a S L))
  | 12 => some (.inr (2, fsX2 a S L))
  | 13 => some (.inr (3, fsX3 a S L))
  | 14 => some (.inr (4, fsX4 a S L))
  | 15 => some (.inr (5, fsX5 a S L))
  | 16 => some (.inr (6, fsX6 a S L))
  | 17 => some (.inr (7, fsX7 a S L))
  | _ => none
def H5 (d : D2) (I : M2) (J : J2) (S : M2) (L : J2) (R : R2) : HP := fun a => cellK (kd d a) a I J S L R
theorem cellK_eq {k : Nat × Nat} {a : Nat} {I I' : M2} {J J' : J2} {S S' : M2} {L L' : J2} {R R' : R2} (hI : I' a = I a) (hJ : J' a = J a) (hS : S' a = S a) (hL : L' a = L a) (hR : R' a = R a) : cellK k a I' J' S' L' R' = cellK k a I J S L R := by
  simp only [cellK, fsX0, fsX1, fsX2, fsX3, fsX4, fsX5, fsX6, fsX7, hI, hJ, hS, hL, hR]
theorem kd_dyn {d : D2} {a : Nat} (h : 115 ≤ a) : kd d a = d a := if_neg (by omega)
section MEM
variable {d : D2} {I : M2} {J : J2} {S : M2} {L : J2} {R : R2} {a j len : Nat}
theorem H5_i (hk : kd d a = (1, len)) : H5 d I J S L R a = some (.inl (0, len, .inl (I a))) := by unfold H5; rw [hk]; rfl
theorem H5_z (hk : kd d a = (2, len)) : H5 d I J S L R a = some (.inl (2, len, .inl (I a))) := by unfold H5; rw [hk]; rfl
theorem H5_l (hk : kd d a = (3, len)) : H5 d I J S L R a = some (.inl (1, len, .inr (.inl (J a)))) := by unfold H5; rw [hk]; rfl
theorem H5_r3 (hk : kd d a = (4, len)) : H5 d I J S L R a = some (.inl (3, len, rfs (R a))) := by unfold H5; rw [hk]; rfl
theorem H5_r4 (hk : kd d a = (5, len)) : H5 d I J S L R a = some (.inl (4, len, rfs (R a))) := by unfold H5; rw [hk]; rfl
theorem H5_r5 (hk : kd d a = (6, len)) : H5 d I J S L R a = some (.inl (5, len, rfs (R a))) := by unfold H5; rw [hk]; rfl
theorem H5_r6 (hk : kd d a = (7, len)) : H5 d I J S L R a = some (.inl (6, len, rfs (R a))) := by unfold H5; rw [hk]; rfl
theorem o_X0 (hk : kd d a = (10, len)) : H5 d I J S L R a = some (.inr (0, fsX0 a S L)) := by unfold H5; rw [hk]; rfl
theorem o_X1 (hk : kd d a = (11, len)) : H5 d I J S L R a = some (.inr (1, fsX1 a S L)) := by unfold H5; rw [hk]; rfl
theorem o_X2 (hk : kd d a = (12, len)) : H5 d I J S L R a = some (.inr (2, fsX2 a S L)) := by unfold H5; rw [hk]; rfl
theorem o_X3 (hk : kd d a = (13, len)) : H5 d I J S L R a = some (.inr (3, fsX3 a S L)) := by unfold H5; rw [hk]; rfl
theorem o_X4 (hk : kd d a = (14, len)) : H5 d I J S L R a = some (.inr (4, fsX4 a S L)) := by unfold H5; rw [hk]; rfl
theorem o_X5 (hk : kd d a = (15, len)) : H5 d I J S L R a = some (.inr (5, fsX5 a S L)) := by unfold H5; rw [hk]; rfl
theorem o_X6 (hk : kd d a = (16, len)) : H5 d I J S L R a = some (.inr (6, fsX6 a S L)) := by unfold H5; rw [hk]; rfl
theorem o_X7 (hk : kd d a = (17, len)) : H5 d I J S L R a = some (.inr (7, fsX7 a S L)) := by unfold H5; rw [hk]; rfl
theorem u2_row {α : Type} (M : Nat → Nat → α) {a i : Nat} (j : Nat) (x : α) (h : i ≠ a) : u2 M a j x i = M i := by funext c; simp [u2, h]
theorem hset_i {t : Nat} (ht : (t = 0 ∧ kd d a = (1, len)) ∨ (t = 2 ∧ kd d a = (2, len))) {x : Int32} : hset (H5 d I J S L R) a (.inl (t, len, .inl (upd (I a) j x))) = H5 d (u2 I a j x) J S L R := by
  funext i
  unfold hset
  by_cases h : i = a
  · subst h
    rw [if_pos rfl]
    have e : upd (I i) j x = u2 I i j x i := by funext c; simp [upd, u2]
    rcases ht with ⟨rfl, hk⟩ | ⟨rfl, hk⟩
    · rw [H5_i hk, e]
    · rw [H5_z hk, e]
  · rw [if_neg h]
    exact (cellK_eq (u2_row I j x h) rfl rfl rfl rfl).symm
theorem hset_l (hk : kd d a = (3, len)) {x : Int64} : hset (H5 d I J S L R) a (.inl (1, len, .inr (.inl (vp_updL (J a) j x)))) = H5 d I (u2 J a j x) S L R := by
  funext i
  unfold hset
  by_cases h : i = a
  · subst h
    rw [if_pos rfl]
    have e : vp_updL (J i) j x = u2 J i j x i := by funext c; simp [vp_updL, u2]
    rw [H5_l hk, e]
  · rw [if_neg h]
    exact (cellK_eq rfl (u2_row J j x h) rfl rfl rfl).symm
theorem hset_r {t : Nat} (ht : (t = 3 ∧ kd d a = (4, len)) ∨ (t = 4 ∧ kd d a = (5, len)) ∨ (t = 5 ∧ kd d a = (6, len)) ∨ (t = 6 ∧ kd d a = (7, len))) {v : Option Nat} : hset (H5 d I J S L R) a (.inl (t, len, rfs (va_up (R a) j v))) = H5 d I J S L (u2 R a j v) := by
  funext i
  unfold hset
  by_cases h : i = a
  · subst h
    rw [if_pos rfl]
    have e : va_up (R i) j v = u2 R i j v i := by funext c; simp [va_up, u2]
    rcases ht with ⟨rfl, hk⟩ | ⟨rfl, hk⟩ | ⟨rfl, hk⟩ | ⟨rfl, hk⟩
    · rw [H5_r3 hk, e]
    · rw [H5_r4 hk, e]
    · rw [H5_r5 hk, e]
    · rw [H5_r6 hk, e]
  · rw [if_neg h]
    exact (cellK_eq rfl rfl rfl rfl (u2_row R j v h)).symm
theorem p_X0_0 (hk : kd d a = (10, len)) {v : Int32} : hset (H5 d I J S L R) a (.inr (0, (fsX0 a S L).set 0 (.int v))) = H5 d I J (u2 S a 0 v) L R := by
  funext i
  unfold hset
  by_cases h : i = a
  · subst h
    rw [if_pos rfl, o_X0 hk]
    simp [u2]
  · rw [if_neg h]
    exact (cellK_eq rfl rfl (u2_row S 0 v h) rfl rfl).symm
theorem p_X0_1 (hk : kd d a = (10, len)) {v : Int32} : hset (H5 d I J S L R) a (.inr (0, (fsX0 a S L).set 1 (.int v))) = H5 d I J (u2 S a 1 v) L R := by
  funext i
  unfold hset
  by_cases h : i = a
  · subst h
    rw [if_pos rfl, o_X0 hk]
    simp [u2]
  · rw [if_neg h]
    exact (cellK_eq rfl rfl (u2_row S 1 v h) rfl rfl).symm
theorem p_X0_2 (hk : kd d a = (10, len)) {v : Int32} : hset (H5 d I J S L R) a (.inr (0, (fsX0 a S L).set 2 (.int v))) = H5 d I J (u2 S a 2 v) L R := by
  funext i
  unfold hset
  by_cases h : i = a
  · subst h
    rw [if_pos rfl, o_X0 hk]
    simp [u2]
  · rw [if_neg h]
    exact (cellK_eq rfl rfl (u2_row S 2 v h) rfl rfl).symm
theorem p_X0_3 (hk : kd d a = (10, len)) {v : Int32} : hset (H5 d I J S L R) a (.inr (0, (fsX0 a S L).set 3 (.int v))) = H5 d I J (u2 S a 3 v) L R := by
  funext i
  unfold hset
  by_cases h : i = a
  · subst h
    rw [if_pos rfl, o_X0 hk]
    simp [u2]
  · rw [if_neg h]
    exact (cellK_eq rfl rfl (u2_row S 3 v h) rfl rfl).symm
theorem p_X0_4 (hk : kd d a = (10, len)) {v : Int32} : hset (H5 d I J S L R) a (.inr (0, (fsX0 a S L).set 4 (.int v))) = H5 d I J (u2 S a 4 v) L R := by
  funext i
  unfold hset
  by_cases h : i = a
  · subst h
    rw [if_pos rfl, o_X0 hk]
    simp [u2]
  · rw [if_neg h]
    exact (cellK_eq rfl rfl (u2_row S 4 v h) rfl rfl).symm
theorem p_X0_5 (hk : kd d a = (10, len)) {v : Int32} : hset (H5 d I J S L R) a (.inr (0, (fsX0 a S L).set 5 (.int v))) = H5 d I J (u2 S a 5 v) L R := by
  funext i
  unfold hset
  by_cases h : i = a
  · subst h
    rw [if_pos rfl, o_X0 hk]
    simp [u2]
  · rw [if_neg h]
    exact (cellK_eq rfl rfl (u2_row S 5 v h) rfl rfl).symm
theorem p_X0_6 (hk : kd d a = (10, len)) {v : Int64} : hset (H5 d I J S L R) a (.inr (0, (fsX0 a S L).set 6 (.long v))) = H5 d I J S (u2 L a 6 v) R := by
  funext i
  unfold hset
  by_cases h : i = a
  · subst h
    rw [if_pos rfl, o_X0 hk]
    simp [u2]
  · rw [if_neg h]
    exact (cellK_eq rfl rfl rfl (u2_row L 6 v h) rfl).symm
theorem p_X0_7 (hk : kd d a = (10, len)) {v : Int64} : hset (H5 d I J S L R) a (.inr (0, (fsX0 a S L).set 7 (.long v))) = H5 d I J S (u2 L a 7 v) R := by
  funext i
  unfold hset
  by_cases h : i = a
  · subst h
    rw [if_pos rfl, o_X0 hk]
    simp [u2]
  · rw [if_neg h]
    exact (cellK_eq rfl rfl rfl (u2_row L 7 v h) rfl).symm
theorem p_X0_8 (hk : kd d a = (10, len)) {v : Int64} : hset (H5 d I J S L R) a (.inr (0, (fsX0 a S L).set 8 (.long v))) = H5 d I J S (u2 L a 8 v) R := by
  funext i
  unfold hset
  by_cases h : i = a
  · subst h
    rw [if_pos rfl, o_X0 hk]
    simp [u2]
  · rw [if_neg h]
    exact (cellK_eq rfl rfl rfl (u2_row L 8 v h) rfl).symm
theorem p_X0_9 (hk : kd d a = (10, len)) {v : Int64} : hset (H5 d I J S L R) a (.inr (0, (fsX0 a S L).set 9 (.long v))) = H5 d I J S (u2 L a 9 v) R := by
  funext i
  unfold hset
  by_cases h : i = a
  · subst h
    rw [if_pos rfl, o_X0 hk]
    simp [u2]
  · rw [if_neg h]
    exact (cellK_eq rfl rfl rfl (u2_row L 9 v h) rfl).symm
theorem p_X0_10 (hk : kd d a = (10, len)) {v : Int64} : hset (H5 d I J S L R) a (.inr (0, (fsX0 a S L).set 10 (.long v))) = H5 d I J S (u2 L a 10 v) R := by
  funext i
  unfold hset
  by_cases h : i = a
  · subst h
    rw [if_pos rfl, o_X0 hk]
    simp [u2]
  · rw [if_neg h]
    exact (cellK_eq rfl rfl rfl (u2_row L 10 v h) rfl).symm
theorem p_X0_11 (hk : kd d a = (10, len)) {v : Int64} : hset (H5 d I J S L R) a (.inr (0, (fsX0 a S L).set 11 (.long v))) = H5 d I J S (u2 L a 11 v) R := by
  funext i
  unfold hset
  by_cases h : i = a
  · subst h
    rw [if_pos rfl, o_X0 hk]
    simp [u2]
  · rw [if_neg h]
    exact (cellK_eq rfl rfl rfl (u2_row L 11 v h) rfl).symm
theorem p_X0_12 (hk : kd d a = (10, len)) {v : Int64} : hset (H5 d I J S L R) a (.inr (0, (fsX0 a S L).set 12 (.long v))) = H5 d I J S (u2 L a 12 v) R := by
  funext i
  unfold hset
  by_cases h : i = a
  · subst h
    rw [if_pos rfl, o_X0 hk]
    simp [u2]
  · rw [if_neg h]
    exact (cellK_eq rfl rfl rfl (u2_row L 12 v h) rfl).symm
theorem p_X0_13 (hk : kd d a = (10, len)) {v : Int64} : hset (H5 d I J S L R) a (.inr (0, (fsX0 a S L).set 13 (.long v))) = H5 d I J S (u2 L a 13 v) R := by
  funext i
  unfold hset
  by_cases h : i = a
  · subst h
    rw [if_pos rfl, o_X0 hk]
    simp [u2]
  · rw [if_neg h]
    exact (cellK_eq rfl rfl rfl (u2_row L 13 v h) rfl).symm
theorem p_X0_14 (hk : kd d a = (10, len)) {v : Int64} : hset (H5 d I J S L R) a (.inr (0, (fsX0 a S L).set 14 (.long v))) = H5 d I J S (u2 L a 14 v) R := by
  funext i
  unfold hset
  by_cases h : i = a
  · subst h
    rw [if_pos rfl, o_X0 hk]
    simp [u2]
  · rw [if_neg h]
    exact (cellK_eq rfl rfl rfl (u2_row L 14 v h) rfl).symm
theorem p_X1_0 (hk : kd d a = (11, len)) {v : Int32} : hset (H5 d I J S L R) a (.inr (1, (fsX1 a S L).set 0 (.int v))) = H5 d I J (u2 S a 0 v) L R := by
  funext i
  unfold hset
  by_cases h : i = a
  · subst h
    rw [if_pos rfl, o_X1 hk]
    simp [u2]
  · rw [if_neg h]
    exact (cellK_eq rfl rfl (u2_row S 0 v h) rfl rfl).symm
theorem p_X1_1 (hk : kd d a = (11, len)) {v : Int32} : hset (H5 d I J S L R) a (.inr (1, (fsX1 a S L).set 1 (.int v))) = H5 d I J (u2 S a 1 v) L R := by
  funext i
  unfold hset
  by_cases h : i = a
  · subst h
    rw [if_pos rfl, o_X1 hk]
    simp [u2]
  · rw [if_neg h]
    exact (cellK_eq rfl rfl (u2_row S 1 v h) rfl rfl).symm
theorem p_X2_0 (hk : kd d a = (12, len)) {v : Int32} : hset (H5 d I J S L R) a (.inr (2, (fsX2 a S L).set 0 (.int v))) = H5 d I J (u2 S a 0 v) L R := by
  funext i
  unfold hset
  by_cases h : i = a
  · subst h
    rw [if_pos rfl, o_X2 hk]
    simp [u2]
  · rw [if_neg h]
    exact (cellK_eq rfl rfl (u2_row S 0 v h) rfl rfl).symm
theorem p_X2_1 (hk : kd d a = (12, len)) {v : Int32} : hset (H5 d I J S L R) a (.inr (2, (fsX2 a S L).set 1 (.int v))) = H5 d I J (u2 S a 1 v) L R := by
  funext i
  unfold hset
  by_cases h : i = a
  · subst h
    rw [if_pos rfl, o_X2 hk]
    simp [u2]
  · rw [if_neg h]
    exact (cellK_eq rfl rfl (u2_row S 1 v h) rfl rfl).symm
theorem p_X3_0 (hk : kd d a = (13, len)) {v : Int32} : hset (H5 d I J S L R) a (.inr (3, (fsX3 a S L).set 0 (.int v))) = H5 d I J (u2 S a 0 v) L R := by
  funext i
  unfold hset
  by_cases h : i = a
  · subst h
    rw [if_pos rfl, o_X3 hk]
    simp [u2]
  · rw [if_neg h]
    exact (cellK_eq rfl rfl (u2_row S 0 v h) rfl rfl).symm
theorem p_X3_1 (hk : kd d a = (13, len)) {v : Int32} : hset (H5 d I J S L R) a (.inr (3, (fsX3 a S L).set 1 (.int v))) = H5 d I J (u2 S a 1 v) L R := by
  funext i
  unfold hset
  by_cases h : i = a
  · subst h
    rw [if_pos rfl, o_X3 hk]
    simp [u2]
  · rw [if_neg h]
    exact (cellK_eq rfl rfl (u2_row S 1 v h) rfl rfl).symm
theorem p_X3_2 (hk : kd d a = (13, len)) {v : Int32} : hset (H5 d I J S L R) a (.inr (3, (fsX3 a S L).set 2 (.int v))) = H5 d I J (u2 S a 2 v) L R := by
  funext i
  unfold hset
  by_cases h : i = a
  · subst h
    rw [if_pos rfl, o_X3 hk]
    simp [u2]
  · rw [if_neg h]
    exact (cellK_eq rfl rfl (u2_row S 2 v h) rfl rfl).symm
theorem p_X4_0 (hk : kd d a = (14, len)) {v : Int32} : hset (H5 d I J S L R) a (.inr (4, (fsX4 a S L).set 0 (.int v))) = H5 d I J (u2 S a 0 v) L R := by
  funext i
  unfold hset
  by_cases h : i = a
  · subst h
    rw [if_pos rfl, o_X4 hk]
    simp [u2]
  · rw [if_neg h]
    exact (cellK_eq rfl rfl (u2_row S 0 v h) rfl rfl).symm
theorem p_X5_0 (hk : kd d a = (15, len)) {v : Int32} : hset (H5 d I J S L R) a (.inr (5, (fsX5 a S L).set 0 (.int v))) = H5 d I J (u2 S a 0 v) L R := by
  funext i
  unfold hset
  by_cases h : i = a
  · subst h
    rw [if_pos rfl, o_X5 hk]
    simp [u2]
  · rw [if_neg h]
    exact (cellK_eq rfl rfl (u2_row S 0 v h) rfl rfl).symm
theorem p_X5_1 (hk : kd d a = (15, len)) {v : Int32} : hset (H5 d I J S L R) a (.inr (5, (fsX5 a S L).set 1 (.int v))) = H5 d I J (u2 S a 1 v) L R := by
  funext i
  unfold hset
  by_cases h : i = a
  · subst h
    rw [if_pos rfl, o_X5 hk]
    simp [u2]
  · rw [if_neg h]
    exact (cellK_eq rfl rfl (u2_row S 1 v h) rfl rfl).symm
theorem p_X6_3 (hk : kd d a = (16, len)) {v : Int32} : hset (H5 d I J S L R) a (.inr (6, (fsX6 a S L).set 3 (.int v))) = H5 d I J (u2 S a 3 v) L R := by
  funext i
  unfold hset
  by_cases h : i = a
  · subst h
    rw [if_pos rfl, o_X6 hk]
    simp [u2]
  · rw [if_neg h]
    exact (cellK_eq rfl rfl (u2_row S 3 v h) rfl rfl).symm
theorem p_X6_7 (hk : kd d a = (16, len)) {v : Int32} : hset (H5 d I J S L R) a (.inr (6, (fsX6 a S L).set 7 (.int v))) = H5 d I J (u2 S a 7 v) L R := by
  funext i
  unfold hset
  by_cases h : i = a
  · subst h
    rw [if_pos rfl, o_X6 hk]
    simp [u2]
  · rw [if_neg h]
    exact (cellK_eq rfl rfl (u2_row S 7 v h) rfl rfl).symm
theorem p_X6_9 (hk : kd d a = (16, len)) {v : Int32} : hset (H5 d I J S L R) a (.inr (6, (fsX6 a S L).set 9 (.int v))) = H5 d I J (u2 S a 9 v) L R := by
  funext i
  unfold hset
  by_cases h : i = a
  · subst h
    rw [if_pos rfl, o_X6 hk]
    simp [u2]
  · rw [if_neg h]
    exact (cellK_eq rfl rfl (u2_row S 9 v h) rfl rfl).symm
theorem p_X6_10 (hk : kd d a = (16, len)) {v : Int32} : hset (H5 d I J S L R) a (.inr (6, (fsX6 a S L).set 10 (.int v))) = H5 d I J (u2 S a 10 v) L R := by
  funext i
  unfold hset
  by_cases h : i = a
  · subst h
    rw [if_pos rfl, o_X6 hk]
    simp [u2]
  · rw [if_neg h]
    exact (cellK_eq rfl rfl (u2_row S 10 v h) rfl rfl).symm
theorem p_X7_0 (hk : kd d a = (17, len)) {v : Int32} : hset (H5 d I J S L R) a (.inr (7, (fsX7 a S L).set 0 (.int v))) = H5 d I J (u2 S a 0 v) L R := by
  funext i
  unfold hset
  by_cases h : i = a
  · subst h
    rw [if_pos rfl, o_X7 hk]
    simp [u2]
  · rw [if_neg h]
    exact (cellK_eq rfl rfl (u2_row S 0 v h) rfl rfl).symm
theorem p_X7_1 (hk : kd d a = (17, len)) {v : Int32} : hset (H5 d I J S L R) a (.inr (7, (fsX7 a S L).set 1 (.int v))) = H5 d I J (u2 S a 1 v) L R := by
  funext i
  unfold hset
  by_cases h : i = a
  · subst h
    rw [if_pos rfl, o_X7 hk]
    simp [u2]
  · rw [if_neg h]
    exact (cellK_eq rfl rfl (u2_row S 1 v h) rfl rfl).symm
theorem p_X7_7 (hk : kd d a = (17, len)) {v : Int32} : hset (H5 d I J S L R) a (.inr (7, (fsX7 a S L).set 7 (.int v))) = H5 d I J (u2 S a 7 v) L R := by
  funext i
  unfold hset
  by_cases h : i = a
  · subst h
    rw [if_pos rfl, o_X7 hk]
    simp [u2]
  · rw [if_neg h]
    exact (cellK_eq rfl rfl (u2_row S 7 v h) rfl rfl).symm
theorem p_X7_16 (hk : kd d a = (17, len)) {v : Int32} : hset (H5 d I J S L R) a (.inr (7, (fsX7 a S L).set 16 (.int v))) = H5 d I J (u2 S a 16 v) L R := by
  funext i
  unfold hset
  by_cases h : i = a
  · subst h
    rw [if_pos rfl, o_X7 hk]
    simp [u2]
  · rw [if_neg h]
    exact (cellK_eq rfl rfl (u2_row S 16 v h) rfl rfl).symm
theorem p_X7_17 (hk : kd d a = (17, len)) {v : Int32} : hset (H5 d I J S L R) a (.inr (7, (fsX7 a S L).set 17 (.int v))) = H5 d I J (u2 S a 17 v) L R := by
  funext i
  unfold hset
  by_cases h : i = a
  · subst h
    rw [if_pos rfl, o_X7 hk]
    simp [u2]
  · rw [if_neg h]
    exact (cellK_eq rfl rfl (u2_row S 17 v h) rfl rfl).symm
theorem p_X7_18 (hk : kd d a = (17, len)) {v : Int32} : hset (H5 d I J S L R) a (.inr (7, (fsX7 a S L).set 18 (.int v))) = H5 d I J (u2 S a 18 v) L R := by
  funext i
  unfold hset
  by_cases h : i = a
  · subst h
    rw [if_pos rfl, o_X7 hk]
    simp [u2]
  · rw [if_neg h]
    exact (cellK_eq rfl rfl (u2_row S 18 v h) rfl rfl).symm
theorem p_X7_19 (hk : kd d a = (17, len)) {v : Int32} : hset (H5 d I J S L R) a (.inr (7, (fsX7 a S L).set 19 (.int v))) = H5 d I J (u2 S a 19 v) L R := by
  funext i
  unfold hset
  by_cases h : i = a
  · subst h
    rw [if_pos rfl, o_X7 hk]
    simp [u2]
  · rw [if_neg h]
    exact (cellK_eq rfl rfl (u2_row S 19 v h) rfl rfl).symm
theorem p_X7_20 (hk : kd d a = (17, len)) {v : Int32} : hset (H5 d I J S L R) a (.inr (7, (fsX7 a S L).set 20 (.int v))) = H5 d I J (u2 S a 20 v) L R := by
  funext i
  unfold hset
  by_cases h : i = a
  · subst h
    rw [if_pos rfl, o_X7 hk]
    simp [u2]
  · rw [if_neg h]
    exact (cellK_eq rfl rfl (u2_row S 20 v h) rfl rfl).symm
theorem p_X7_41 (hk : kd d a = (17, len)) {v : Int32} : hset (H5 d I J S L R) a (.inr (7, (fsX7 a S L).set 41 (.int v))) = H5 d I J (u2 S a 41 v) L R := by
  funext i
  unfold hset
  by_cases h : i = a
  · subst h
    rw [if_pos rfl, o_X7 hk]
    simp [u2]
  · rw [if_neg h]
    exact (cellK_eq rfl rfl (u2_row S 41 v h) rfl rfl).symm
theorem p_X7_45 (hk : kd d a = (17, len)) {v : Int64} : hset (H5 d I J S L R) a (.inr (7, (fsX7 a S L).set 45 (.long v))) = H5 d I J S (u2 L a 45 v) R := by
  funext i
  unfold hset
  by_cases h : i = a
  · subst h
    rw [if_pos rfl, o_X7 hk]
    simp [u2]
  · rw [if_neg h]
    exact (cellK_eq rfl rfl rfl (u2_row L 45 v h) rfl).symm
variable {K : CX} {Q : QT} {cs sl pc pc2 n : Nat} {lv : List (Option Value)} {st : List Value} {y0 : MethodName} {cc : ByteArray} {nL : Nat} {rt : Option FieldType} {rm : Room}
theorem h_iald (hk : OK K y0 cc nL rt rm) {x : Int32} (hd : decode cc pc = .ok (.iaload, 1)) (hp : pc + 1 = pc2) (ha : kd d a = (1, len)) (hx : x = nI j) (hj : j < len) (hN : len < 2 ^ 31) (kk : AW K Q cs sl pc2 lv (.int (I a j) :: st) n (H5 d I J S L R)) : AW K Q cs sl pc lv (.int x :: .ref a :: st) n (H5 d I J S L R) := by
  subst hx
  exact aw_ialdN hk hd hp (H5_i ha) hj hN kk
theorem h_zald (hk : OK K y0 cc nL rt rm) {x : Int32} (hd : decode cc pc = .ok (.baload, 1)) (hp : pc + 1 = pc2) (ha : kd d a = (2, len)) (hx : x = nI j) (hj : j < len) (hN : len < 2 ^ 31) (kk : AW K Q cs sl pc2 lv (.int (I a j) :: st) n (H5 d I J S L R)) : AW K Q cs sl pc lv (.int x :: .ref a :: st) n (H5 d I J S L R) := by
  subst hx
  exact aw_zaldN hk hd hp (H5_z ha) hj hN kk
theorem h_lald (hk : OK K y0 cc nL rt rm) {x : Int32} (hd : decode cc pc = .ok (.laload, 1)) (hp : pc + 1 = pc2) (ha : kd d a = (3, len)) (hx : x = nI j) (hj : j < len) (hN : len < 2 ^ 31) (kk : AW K Q cs sl pc2 lv (.long (J a j) :: st) n (H5 d I J S L R)) : AW K Q cs sl pc lv (.int x :: .ref a :: st) n (H5 d I J S L R) := by
  subst hx
  exact aw_laldN hk hd hp (H5_l ha) hj hN kk
theorem h_iast (hk : OK K y0 cc nL rt rm) {x v : Int32} (hd : decode cc pc = .ok (.iastore, 1)) (hp : pc + 1 = pc2) (ha : kd d a = (1, len)) (hx : x = nI j) (hj : j < len) (hN : len < 2 ^ 31) (kk : AW K Q cs sl pc2 lv st n (H5 d (u2 I a j v) J S L R)) : AW K Q cs sl pc lv (.int v :: .int x :: .ref a :: st) n (H5 d I J S L R) := by
  subst hx
  refine aw_iastN hk hd hp (H5_i ha) hj hN ?_
  rw [hset_i (Or.inl ⟨rfl, ha⟩)]
  exact kk
theorem h_zast (hk : OK K y0 cc nL rt rm) {x v : Int32} (hd : decode cc pc = .ok (.bastore, 1)) (hp : pc + 1 = pc2) (ha : kd d a = (2, len)) (hx : x = nI j) (hj : j < len) (hN : len < 2 ^ 31) (hv : v = 0 ∨ v = 1) (kk : AW K Q cs sl pc2 lv st n (H5 d (u2 I a j v) J S L R)) : AW K Q cs sl pc lv (.int v :: .int x :: .ref a :: st) n (H5 d I J S L R) := by
  subst hx
  refine aw_zastN hk hd hp (H5_z ha) hj hN ?_
  have e : vp_nar .boolean v = v := by rcases hv with rfl | rfl <;> rfl
  rw [e, hset_i (Or.inr ⟨rfl, ha⟩)]
  exact kk
theorem h_last (hk : OK K y0 cc nL rt rm) {x : Int32} {v : Int64} (hd : decode cc pc = .ok (.lastore, 1)) (hp : pc + 1 = pc2) (ha : kd d a = (3, len)) (hx : x = nI j) (hj : j < len) (hN : len < 2 ^ 31) (kk : AW K Q cs sl pc2 lv st n (H5 d I (u2 J a j v) S L R)) : AW K Q cs sl pc lv (.long v :: .int x :: .ref a :: st) n (H5 d I J S L R) := by
  subst hx
  refine aw_lastN hk hd hp (H5_l ha) hj hN ?_
  rw [hset_l ha]
  exact kk
def isRK (t : Nat) : Prop := t = 4 ∨ t = 5 ∨ t = 6 ∨ t = 7
theorem h_aald (hk : OK K y0 cc nL rt rm) {x : Int32} {t : Nat} (hd : decode cc pc = .ok (.aaload, 1)) (hp : pc + 1 = pc2) (ht : isRK t) (ha : kd d a = (t, len)) (hx : x = nI j) (hj : j < len) (hN : len < 2 ^ 31) {v : Value} (hv : va_rf (R a j) = v) (kk : AW K Q cs sl pc2 lv (v :: st) n (H5 d I J S L R)) : AW K Q cs sl pc lv (.int x :: .ref a :: st) n (H5 d I J S L R) := by
  subst hx
  rcases ht with rfl | rfl | rfl | rfl
  · exact aw_aaldN hk (Or.inl rfl) hd hp (H5_r3 ha) hj hN hv kk
  · exact aw_aaldN hk (Or.inr (Or.inl rfl)) hd hp (H5_r4 ha) hj hN hv kk
  · exact aw_aaldN hk (Or.inr (Or.inr (Or.inl rfl))) hd hp (H5_r5 ha) hj hN hv kk
  · exact aw_aaldN hk (Or.inr (Or.inr (Or.inr rfl))) hd hp (H5_r6 ha) hj hN hv kk
theorem h_alen (hk : OK K y0 cc nL rt rm) (hd : decode cc pc = .ok (.arraylength, 1)) (hp : pc + 1 = pc2) (ha : kd d a = (1, len)) (kk : AW K Q cs sl pc2 lv (.int (nI len) :: st) n (H5 d I J S L R)) : AW K Q cs sl pc lv (.ref a :: st) n (H5 d I J S L R) := aw_alen hk hd hp (H5_i ha) kk
theorem aw_iinc1 {h : HP} (hk : OK K y0 cc nL rt rm) {k i : Nat} (hd : decode cc pc = .ok (.iinc k 1, 3)) (hp : pc + 3 = pc2) (hx0 : lv[k]? = some (some (.int (nI i)))) (hn : k < nL) (kk : AW K Q cs sl pc2 (sv1 lv k (.int (nI (i + 1)))) st n h) : AW K Q cs sl pc lv st n h := aw_iinc hk hd hp hx0 (nI_1 i) hn kk
theorem aw_icN_ge {h : HP} (hk : OK K y0 cc nL rt rm) {x y : Nat} {X Y : Int32} {off : Int} {tgt : Nat} (hd : decode cc pc = .ok (.if_icmp .ge off, 3)) (ht : (pc : Int) + off = (tgt : Int)) (hp : pc + 3 = pc2) (hX : X = nI x) (hY : Y = nI y) (hx : x < 2 ^ 31) (hy : y < 2 ^ 31) (kt : y ≤ x → AW K Q cs sl tgt lv st n h) (kf : x < y → AW K Q cs sl pc2 lv st n h) : AW K Q cs sl pc lv (.int Y :: .int X :: st) n h := by
  subst hX; subst hY
  exact aw_icmp_ge hk hd ht hp (fun c => kt ((nI_leI hy hx).mp c)) (fun c => kf (by rcases Nat.lt_or_ge x y with q | q; exact q; exact absurd ((nI_leI hy hx).mpr q) c))
end MEM
theorem nI_lit (n : Nat) : (OfNat.ofNat n : Int32) = nI n := rfl
