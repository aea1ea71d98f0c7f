/-! small mathematics: truth as a number, sums, places on the map, rows of memory -/
def bi (b : Bool) : Int32 := if b then 1 else 0
theorem bi_01 (b : Bool) : bi b = 0 ∨ bi b = 1 := by cases b; exact Or.inl rfl; exact Or.inr rfl
theorem bi_t {b : Bool} (h : ¬ bi b = 0) : bi b = 1 := (bi_01 b).resolve_left h
theorem bi_tt {b : Bool} (h : ¬ bi b = 0) : b = true := by cases b; exact absurd rfl h; rfl
theorem bi_ff {b : Bool} (h : bi b = 0) : b = false := by cases b; rfl; exact absurd h (by decide)
def sI (g : Nat → Int32) : Nat → Int32
  | 0 => 0
  | n + 1 => sI g n + g n
def sL (g : Nat → Int64) : Nat → Int64
  | 0 => 0
  | n + 1 => sL g n + g n
theorem sI_eq {g g' : Nat → Int32} : ∀ n, (∀ i, i < n → g i = g' i) → sI g n = sI g' n := by
  intro n
  induction n with
  | zero => intro _; rfl
  | succ n ih => intro h; show sI g n + g n = sI g' n + g' n; rw [ih (fun i hi => h i (by omega)), h n (by omega)]
theorem sL_eq {g g' : Nat → Int64} : ∀ n, (∀ i, i < n → g i = g' i) → sL g n = sL g' n := by
  intro n
  induction n with
  | zero => intro _; rfl
  | succ n ih => intro h; show sL g n + g n = sL g' n + g' n; rw [ih (fun i hi => h i (by omega)), h n (by omega)]
theorem aw_top {K : CX} {Q : QT} {cs sl pc n : Nat} {lv : List (Option Value)} {st : List Value} {h : HP} {x : Int32} (y : Int32) (e : x = y) (kk : AW K Q cs sl pc lv (.int y :: st) n h) : AW K Q cs sl pc lv (.int x :: st) n h := e ▸ kk
theorem aw_topL {K : CX} {Q : QT} {cs sl pc n : Nat} {lv : List (Option Value)} {st : List Value} {h : HP} {x : Int64} (y : Int64) (e : x = y) (kk : AW K Q cs sl pc lv (.long y :: st) n h) : AW K Q cs sl pc lv (.long x :: st) n h := e ▸ kk
theorem aw_I {K : CX} {Q : QT} {cs sl pc n : Nat} {lv : List (Option Value)} {st : List Value} {d : D2} {I : M2} {J : J2} {S : M2} {L : J2} {R : R2} (I' : M2) (e : I = I') (kk : AW K Q cs sl pc lv st n (H5 d I' J S L R)) : AW K Q cs sl pc lv st n (H5 d I J S L R) := e ▸ kk
theorem aw_Jm {K : CX} {Q : QT} {cs sl pc n : Nat} {lv : List (Option Value)} {st : List Value} {d : D2} {I : M2} {J : J2} {S : M2} {L : J2} {R : R2} (J' : J2) (e : J = J') (kk : AW K Q cs sl pc lv st n (H5 d I J' S L R)) : AW K Q cs sl pc lv st n (H5 d I J S L R) := e ▸ kk
theorem aw_S {K : CX} {Q : QT} {cs sl pc n : Nat} {lv : List (Option Value)} {st : List Value} {d : D2} {I : M2} {J : J2} {S : M2} {L : J2} {R : R2} (S' : M2) (e : S = S') (kk : AW K Q cs sl pc lv st n (H5 d I J S' L R)) : AW K Q cs sl pc lv st n (H5 d I J S L R) := e ▸ kk
/-- a row's first i places are g -/
def rowU {α : Type} (I : Nat → Nat → α) (a i : Nat) (g : Nat → α) : Nat → Nat → α := fun b c => if b = a ∧ c < i then g c else I b c
theorem rowU_0 {α : Type} (I : Nat → Nat → α) (a : Nat) (g : Nat → α) : rowU I a 0 g = I := by funext b c; simp [rowU]
theorem rowU_st {α : Type} (I : Nat → Nat → α) (a i : Nat) (g : Nat → α) {x : α} (hx : x = g i) : u2 (rowU I a i g) a i x = rowU I a (i + 1) g := by
  subst hx
  funext b c
  simp only [u2, rowU]
  by_cases hb : b = a
  · by_cases hc : c = i
    · subst hc; simp [hb]
    · by_cases hl : c < i
      · have : c < i + 1 := by omega
        simp [hb, hc, hl, this]
      · have : ¬ c < i + 1 := by omega
        simp [hc, hl, this]
  · simp [hb]
theorem rowU_sk {α : Type} (I : Nat → Nat → α) (a i : Nat) (g : Nat → α) (hx : I a i = g i) : rowU I a i g = rowU I a (i + 1) g := by
  funext b c
  simp only [rowU]
  by_cases hb : b = a
  · by_cases hc : c = i
    · subst hc; simp [hb, hx]
    · have : (c < i + 1) = (c < i) := by simp; omega
      simp [this]
  · simp [hb]
theorem rowU_ne {α : Type} (I : Nat → Nat → α) {a b : Nat} (i : Nat) (g : Nat → α) (h : b ≠ a) : rowU I a i g b = I b := by funext c; simp [rowU, h]
theorem rowU_in {α : Type} (I : Nat → Nat → α) (a : Nat) {i c : Nat} (g : Nat → α) (h : c < i) : rowU I a i g a c = g c := by simp [rowU, h]
theorem rowU_out {α : Type} (I : Nat → Nat → α) (a : Nat) {i c : Nat} (g : Nat → α) (h : ¬ c < i) : rowU I a i g a c = I a c := by simp [rowU, h]
/-- the place of a cell of a map of w by g -/
def plc (w g : Nat) (x y : Int32) : Option Nat := if 0 ≤ x.toInt ∧ x.toInt < w ∧ 0 ≤ y.toInt ∧ y.toInt < g then some (16 * y.toInt.toNat + x.toInt.toNat) else none
def opI (o : Option Nat) : Int32 := match o with
  | some c => nI c
  | none => -1
theorem i_lt (x y : Int32) : x < y ↔ x.toInt < y.toInt := Int32.lt_iff_toInt_lt
theorem i_le (x y : Int32) : x ≤ y ↔ x.toInt ≤ y.toInt := Int32.le_iff_toInt_le
theorem i_eq {x : Int32} {k : Nat} (h : x.toInt = k) : x = nI k := by
  apply Int32.toInt_inj.mp
  rw [h, nI_toInt (by have := Int32.toInt_lt x; omega)]
theorem plc_lt {w g : Nat} (hw : w ≤ 16) (hg : g ≤ 16) {x y : Int32} {c : Nat} (h : plc w g x y = some c) : c < 256 := by
  unfold plc at h
  split at h
  · cases h; omega
  · cases h
theorem plc_in {w g : Nat} {a b : Nat} (ha : a < w) (hb : b < g) (hw : w ≤ 16) (hg : g ≤ 16) : plc w g (nI a) (nI b) = some (16 * b + a) := by
  unfold plc
  rw [nI_toInt (by omega), nI_toInt (by omega), if_pos (by omega)]
  simp
theorem aw_fg {K : CX} {Q : QT} {cs sl pc n : Nat} {lv : List (Option Value)} {st : List Value} {h : HP} (k : Nat) (kk : AW K Q cs sl pc (lv.set k none) st n h) : AW K Q cs sl pc lv st n h := by
  refine aw_sub (fun i v hi => ?_) kk
  by_cases hik : k = i
  · subst hik
    rw [List.getElem?_set] at hi
    simp at hi
  · rwa [List.getElem?_set_ne hik] at hi
theorem opI_some {o : Option Nat} (h : ¬ opI o = -1) : ∃ q, o = some q ∧ opI o = nI q := by
  cases o with
  | none => exact absurd rfl h
  | some q => exact ⟨q, rfl, rfl⟩
theorem nI_m1 {q : Nat} (h : q < 2 ^ 31) : ¬ nI q = -1 := fun e => by
  have := congrArg Int32.toInt e
  rw [nI_toInt h] at this
  have e2 : (-1 : Int32).toInt = -1 := rfl
  omega
theorem opI_none {o : Option Nat} (h : opI o = -1) (hb : ∀ q, o = some q → q < 256) : o = none := by
  cases o with
  | none => rfl
  | some q => exact absurd h (nI_m1 (by have := hb q rfl; omega))
def nbC (w g c s : Nat) : Option Nat := plc w g (nI (c % 16) + xsX s) (nI (c / 16) + xsY s)
theorem i_div16 {c : Nat} (h : c < 2 ^ 31) : nI c / 16 = nI (c / 16) := pk_div (d := 16) h (by decide) (by decide)
theorem i_rem16 {c : Nat} (h : c < 2 ^ 31) : nI c - nI c / 16 * 16 = nI (c % 16) := pk_rem (d := 16) h (by decide) (by decide)
theorem l0 : (0 : Int32).toInt = 0 := rfl
theorem l1 : (1 : Int32).toInt = 1 := rfl
theorem lm1 : (-1 : Int32).toInt = -1 := rfl
theorem l3 : (3 : Int32).toInt = 3 := rfl
theorem l4 : (4 : Int32).toInt = 4 := rfl
theorem l5 : (5 : Int32).toInt = 5 := rfl
theorem l12 : (12 : Int32).toInt = 12 := rfl
theorem l16 : (16 : Int32).toInt = 16 := rfl
theorem l20 : (20 : Int32).toInt = 20 := rfl
theorem l60 : (60 : Int32).toInt = 60 := rfl
theorem l256 : (256 : Int32).toInt = 256 := rfl
theorem l1000 : (1000 : Int32).toInt = 1000 := rfl
theorem l10000 : (10000 : Int32).toInt = 10000 := rfl
theorem l100000 : (100000 : Int32).toInt = 100000 := rfl
theorem l1000000 : (1000000 : Int32).toInt = 1000000 := rfl
