section CMPN
variable {K : CX} {Q : QT} {cs sl pc pc2 n : Nat} {lv : List (Option Value)} {st : List Value} {h : HP} {y0 : MethodName} {cc : ByteArray} {nL : Nat} {rt : Option FieldType} {rm : Room}
theorem aw_icN_lt (hk : OK K y0 cc nL rt rm) {x y : Nat} {X Y : Int32} {off : Int} {tgt : Nat} (hd : decode cc pc = .ok (.if_icmp .lt off, 3)) (ht : (pc : Int) + off = (tgt : Int)) (hp : pc + 3 = pc2) (hX : X = nI x) (hY : Y = nI y) (hx : x < 2 ^ 31) (hy : y < 2 ^ 31) (kt : x < y → AW K Q cs sl tgt lv st n h) (kf : y ≤ x → AW K Q cs sl pc2 lv st n h) : AW K Q cs sl pc lv (.int Y :: .int X :: st) n h := by
  subst hX; subst hY
  exact aw_icmp_lt hk hd ht hp (fun c => kt ((nI_ltI hx hy).mp c)) (fun c => kf (by have := mt (nI_ltI hx hy).mpr c; omega))
theorem aw_icN_gt (hk : OK K y0 cc nL rt rm) {x y : Nat} {X Y : Int32} {off : Int} {tgt : Nat} (hd : decode cc pc = .ok (.if_icmp .gt off, 3)) (ht : (pc : Int) + off = (tgt : Int)) (hp : pc + 3 = pc2) (hX : X = nI x) (hY : Y = nI y) (hx : x < 2 ^ 31) (hy : y < 2 ^ 31) (kt : y < x → AW K Q cs sl tgt lv st n h) (kf : x ≤ y → AW K Q cs sl pc2 lv st n h) : AW K Q cs sl pc lv (.int Y :: .int X :: st) n h := by
  subst hX; subst hY
  exact aw_icmp_gt hk hd ht hp (fun c => kt ((nI_ltI hy hx).mp c)) (fun c => kf (by have := mt (nI_ltI hy hx).mpr c; omega))
theorem aw_icN_le (hk : OK K y0 cc nL rt rm) {x y : Nat} {X Y : Int32} {off : Int} {tgt : Nat} (hd : decode cc pc = .ok (.if_icmp .le off, 3)) (ht : (pc : Int) + off = (tgt : Int)) (hp : pc + 3 = pc2) (hX : X = nI x) (hY : Y = nI y) (hx : x < 2 ^ 31) (hy : y < 2 ^ 31) (kt : x ≤ y → AW K Q cs sl tgt lv st n h) (kf : y < x → AW K Q cs sl pc2 lv st n h) : AW K Q cs sl pc lv (.int Y :: .int X :: st) n h := by
  subst hX; subst hY
  exact aw_icmp_le hk hd ht hp (fun c => kt ((nI_leI hx hy).mp c)) (fun c => kf (by have := mt (nI_leI hx hy).mpr c; omega))
theorem aw_icN_eq (hk : OK K y0 cc nL rt rm) {x y : Nat} {X Y : Int32} {off : Int} {tgt : Nat} (hd : decode cc pc = .ok (.if_icmp .eq off, 3)) (ht : (pc : Int) + off = (tgt : Int)) (hp : pc + 3 = pc2) (hX : X = nI x) (hY : Y = nI y) (hx : x < 2 ^ 31) (hy : y < 2 ^ 31) (kt : x = y → AW K Q cs sl tgt lv st n h) (kf : x ≠ y → AW K Q cs sl pc2 lv st n h) : AW K Q cs sl pc lv (.int Y :: .int X :: st) n h := by
  subst hX; subst hY
  exact aw_icmp_eq hk hd ht hp (fun c => kt ((nI_eq hx hy).mp c)) (fun c => kf (by have := mt (nI_eq hx hy).mpr c; omega))
theorem aw_icN_ne (hk : OK K y0 cc nL rt rm) {x y : Nat} {X Y : Int32} {off : Int} {tgt : Nat} (hd : decode cc pc = .ok (.if_icmp .ne off, 3)) (ht : (pc : Int) + off = (tgt : Int)) (hp : pc + 3 = pc2) (hX : X = nI x) (hY : Y = nI y) (hx : x < 2 ^ 31) (hy : y < 2 ^ 31) (kt : x ≠ y → AW K Q cs sl tgt lv st n h) (kf : x = y → AW K Q cs sl pc2 lv st n h) : AW K Q cs sl pc lv (.int Y :: .int X :: st) n h := by
  subst hX; subst hY
  exact aw_icmp_ne hk hd ht hp (fun c => kt (mt (nI_eq hx hy).mpr c)) (fun c => kf ((nI_eq hx hy).mp c))
theorem aw_lv (lv' : List (Option Value)) (e : lv = lv') (kk : AW K Q cs sl pc lv' st n h) : AW K Q cs sl pc lv st n h := e ▸ kk
end CMPN
/-- rows lo to lo + 4: their first i places are v of the row -/
def rw5 (I : M2) (lo i : Nat) (v : Nat → Int32) : M2 := fun b c => if (lo ≤ b ∧ b ≤ lo + 4) ∧ c < i then v b else I b c
theorem rw5_0 (I : M2) (lo : Nat) (v : Nat → Int32) : rw5 I lo 0 v = I := by funext b c; simp [rw5]
theorem rw5_st (I : M2) (lo i : Nat) (v : Nat → Int32) {a1 a2 a3 a4 : Nat} {x0 x1 x2 x3 x4 : Int32} (e1 : a1 = lo + 1) (e2 : a2 = lo + 2) (e3 : a3 = lo + 3) (e4 : a4 = lo + 4) (h0 : x0 = v lo) (h1 : x1 = v a1) (h2 : x2 = v a2) (h3 : x3 = v a3) (h4 : x4 = v a4) :
    u2 (u2 (u2 (u2 (u2 (rw5 I lo i v) lo i x0) a1 i x1) a2 i x2) a3 i x3) a4 i x4 = rw5 I lo (i + 1) v := by
  subst e1 e2 e3 e4 h0 h1 h2 h3 h4
  funext b c
  simp only [u2, rw5]
  by_cases hc : c = i
  · subst hc
    by_cases b4 : b = lo + 4
    · subst b4; simp
    by_cases b3 : b = lo + 3
    · subst b3; simp
    by_cases b2 : b = lo + 2
    · subst b2; simp
    by_cases b1 : b = lo + 1
    · subst b1; simp
    by_cases b0 : b = lo
    · subst b0; simp
    have : ¬ (lo ≤ b ∧ b ≤ lo + 4) := by omega
    simp [b0, b1, b2, b3, b4, this]
  · have e : (c < i + 1) = (c < i) := by simp; omega
    simp [hc, e]
theorem rw5_in (I : M2) (lo : Nat) {i b c : Nat} (v : Nat → Int32) (hb : lo ≤ b ∧ b ≤ lo + 4) (hc : c < i) : rw5 I lo i v b c = v b := by simp [rw5, hb, hc]
theorem rw5_ne (I : M2) (lo i : Nat) {b : Nat} (v : Nat → Int32) (hb : ¬ (lo ≤ b ∧ b ≤ lo + 4)) : rw5 I lo i v b = I b := by funext c; simp only [rw5]; rw [if_neg (fun h => hb h.1)]
/-- the first place from i on, of k, that holds x; else the place behind -/
def fndI (f : Nat → Int32) (x : Int32) : Nat → Nat → Nat
  | 0, i => i
  | k + 1, i => if f i = x then i else fndI f x k (i + 1)
theorem fndI_le (f : Nat → Int32) (x : Int32) : ∀ k i, i ≤ fndI f x k i ∧ fndI f x k i ≤ i + k := by
  intro k
  induction k with
  | zero => intro i; simp [fndI]
  | succ k ih => intro i; unfold fndI; split; omega; have := ih (i + 1); omega
theorem fndI_eq {f f' : Nat → Int32} {x : Int32} : ∀ k i, (∀ j, j < i + k → f j = f' j) → fndI f x k i = fndI f' x k i := by
  intro k
  induction k with
  | zero => intro i _; rfl
  | succ k ih => intro i h; unfold fndI; rw [h i (by omega), ih (i + 1) (fun j hj => h j (by omega))]
/-- the latest day told up to a day, and its price -/
def onS (f v : Nat → Int32) (day : Int32) : Nat → Int32 × Int32
  | 0 => (-1, 0)
  | k + 1 => if f k ≤ day ∧ (onS f v day k).1 < f k then (f k, v k) else onS f v day k
theorem onS_eq {f f' v v' : Nat → Int32} {day : Int32} : ∀ k, (∀ j, j < k → f j = f' j ∧ v j = v' j) → onS f v day k = onS f' v' day k := by
  intro k
  induction k with
  | zero => intro _; rfl
  | succ k ih => intro h; unfold onS; rw [ih (fun j hj => h j (by omega)), (h k (by omega)).1, (h k (by omega)).2]
def mxL (x y : Int64) : Int64 := if y < x then x else y
def mnL (x y : Int64) : Int64 := if y < x then y else x
theorem aw_max {K : CX} {Q : QT} {cs sl pc pc2 n : Nat} {lv : List (Option Value)} {st : List Value} {h : HP} {y0 : MethodName} {cc : ByteArray} {nL : Nat} {rt : Option FieldType} {rm : Room} (hk : OK K y0 cc nL rt rm) {ix : Nat} {x y : Int64} (hc : SE yJ9_max_f86c9 cJ9_max_f86c9 4 (some .long) 2) (hd : decode cc pc = .ok (.invokestatic ix, 3)) (hp : pc + 3 = pc2) (hl1 : Cond.methodLink y0.cls ix yJ9_max_f86c9 ∈ w_tbl) (hf : 1 ≤ rm.frames) (hlo : (st.map fun v => v.category).sum + 15 ≤ rm.locals) (hcs : cs ≤ rm.cells) (hsl : sl ≤ rm.slots) (kk : AW K Q cs sl pc2 lv (.long (mxL x y) :: st) n h) : AW K Q cs sl pc lv (.long y :: .long x :: st) n h := by
  obtain ⟨p, l, e, R, s, m, args, below, meth, c, D, B, ac⟩ := K
  obtain ⟨hx, hb, hml, hown, hr, hnm, hlk, hRm, hE⟩ := hk
  subst hp
  intro H locs ls hh hS hl
  subst hRm
  have k2 := kk H locs ls hh hS hl
  exact va_mmax_long hx hb hl.1.symm hown (hE.1 args _ hl1) (hE.1 args _ hc.2) (hE.1 args _ hc.1.2.1) (hE.1 args _ hc.1.1) hf (by rw [catL]; exact hlo) hcs hsl hd k2
theorem aw_min {K : CX} {Q : QT} {cs sl pc pc2 n : Nat} {lv : List (Option Value)} {st : List Value} {h : HP} {y0 : MethodName} {cc : ByteArray} {nL : Nat} {rt : Option FieldType} {rm : Room} (hk : OK K y0 cc nL rt rm) {ix : Nat} {x y : Int64} (hc : SE yJ9_min_f86c9 cJ9_min_f86c9 4 (some .long) 2) (hd : decode cc pc = .ok (.invokestatic ix, 3)) (hp : pc + 3 = pc2) (hl1 : Cond.methodLink y0.cls ix yJ9_min_f86c9 ∈ w_tbl) (hf : 1 ≤ rm.frames) (hlo : (st.map fun v => v.category).sum + 15 ≤ rm.locals) (hcs : cs ≤ rm.cells) (hsl : sl ≤ rm.slots) (kk : AW K Q cs sl pc2 lv (.long (mnL x y) :: st) n h) : AW K Q cs sl pc lv (.long y :: .long x :: st) n h := by
  obtain ⟨p, l, e, R, s, m, args, below, meth, c, D, B, ac⟩ := K
  obtain ⟨hx, hb, hml, hown, hr, hnm, hlk, hRm, hE⟩ := hk
  subst hp
  intro H locs ls hh hS hl
  subst hRm
  have k2 := kk H locs ls hh hS hl
  exact va_mmin_long hx hb hl.1.symm hown (hE.1 args _ hl1) (hE.1 args _ hc.2) (hE.1 args _ hc.1.2.1) (hE.1 args _ hc.1.1) hf (by rw [catL]; exact hlo) hcs hsl hd k2
