/-! abstract cells: numbers from the base on; a reference in an abstract value is the number of a cell -/
abbrev HE : Type := (Nat × vp_A) ⊕ (Nat × List Value)
abbrev HP : Type := Nat → Option HE
abbrev CX : Type := Program × Launch × Env × Room × State × MethodId × Array Value × List Frame × Method × Code × va_G × Nat × (Nat → ClassId)
abbrev QT : Type := Option Value → Nat → HP → Prop
def tv (B : Nat) (v : Value) : Value := match v with
  | .ref a => .ref (B + a)
  | v => v
def ta (B : Nat) (a : vp_A) : vp_A := match a with
  | (n, .inr (.inr (.inr (.inr f)))) => (n, .inr (.inr (.inr (.inr (fun j => (f j).map (fun a => B + a))))))
  | a => a
def te (B : Nat) (ac : Nat → ClassId) (e : HE) : va_E := match e with
  | .inl (t, a) => .inl (ac t, ta B a)
  | .inr (c, fs) => .inr (c, fs.map (tv B))
def tyl (ac : Nat → ClassId) : List (ClassId × FieldType) := [(ac 0, .int), (ac 1, .long), (ac 2, .boolean), (ac 3, .object RX1), (ac 4, .object RX4), (ac 5, .object RX3), (ac 6, .object RX0)]
def hR (D : va_G) (B : Nat) (ac : Nat → ClassId) (n : Nat) (h : HP) (H : Heap) : Prop := H.size = B + n ∧ ∀ (i : Nat) (e : HE), h i = some e → i < n ∧ va_at D vwCl (B + i, te B ac e) H
def hset (h : HP) (a : Nat) (e : HE) : HP := fun i => if i = a then some e else h i
def LV (B nL : Nat) (ls : Array Slot) (lv : List (Option Value)) : Prop := ls.size = nL ∧ lv_wf ls ∧ ∀ (i : Nat) (v : Value), lv[i]? = some (some v) → ls[i]? = some (.val (tv B v))
def kill (lv : List (Option Value)) (i : Nat) : List (Option Value) := match i with
  | 0 => lv
  | j + 1 => match lv[j]? with
    | some (some w) => if w.category = 2 then lv.set j none else lv
    | _ => lv
def sv1 (lv : List (Option Value)) (i : Nat) (v : Value) : List (Option Value) := (kill lv i).set i (some v)
def sv2 (lv : List (Option Value)) (i : Nat) (v : Value) : List (Option Value) := ((kill lv i).set i (some v)).set (i + 1) none
def xsR : Nat → Int32 := fun j => match j with
  | 0 => 1000
  | 1 => 100000
  | 2 => 1000
  | 3 => 10000
  | _ => 1000
def xsX : Nat → Int32 := fun j => match j with
  | 0 => 0
  | 1 => 1
  | 2 => 0
  | _ => -1
def xsY : Nat → Int32 := fun j => match j with
  | 0 => -1
  | 1 => 0
  | 2 => 1
  | _ => 0
def okw (w : Cond) : Bool := match w with
  | .arrayOver (.object _) => true
  | .fieldLinkNest _ _ _ _ _ _ => true
  | .methodLinkNest _ _ _ _ => true
  | w => goodWord w
def w_tbl : List Cond := lw_tbl.filter okw
def TB (U : State) : Prop := ∀ (A : Array Value), ∀ w ∈ w_tbl, w.before A U = true
def SA (f : String) (L : Nat) (xs : Nat → Int32) (B : Nat) (U : State) (H : Heap) : Prop := ∃ b : Nat, b < B ∧ va_Z "LandTaken" f "[I" (.ref b) (fun q => B ≤ q) U H ∧ va_X b L xs U H
def ENV (D : va_G) (B : Nat) (ac : Nat → ClassId) (U : State) : Prop := TB U ∧ va_K D vwCl (tyl ac) U ∧ B ≤ U.heap.size ∧ SA "MOST_RATE" 5 xsR B U U.heap ∧ SA "STEP_X" 4 xsX B U U.heap ∧ SA "STEP_Y" 4 xsY B U U.heap
def QcA (D : va_G) (B : Nat) (ac : Nat → ClassId) (Q : QT) : Array Value → State → Outcome → State → Prop := fun _ st oc t => (∃ (r : Option Value) (n : Nat) (h : HP), oc = .returned (r.map (tv B)) ∧ Q r n h ∧ hR D B ac n h t.heap) ∧ va_F (fun q => B ≤ q) st t
def AW (K : CX) (Q : QT) (cs sl pc : Nat) (lv : List (Option Value)) (st : List Value) (n : Nat) (h : HP) : Prop := match K with
  | (p, l, e, R, s, m, args, below, meth, c, D, B, ac) => ∀ (H : Heap) (locs : List Loc) (ls : Array Slot), hR D B ac n h H → va_S (fun q => B ≤ q) s.heap H locs → LV B c.maxLocals ls lv → W p l e R s m args below meth c H locs cs sl (MQ below (QcA D B ac Q) args s R.cells R.slots (fun q => B ≤ q)) (F0 m pc ls (st.map (tv B)))
def OK (K : CX) (y : MethodName) (cc : ByteArray) (nL : Nat) (rt : Option FieldType) (rm : Room) : Prop := match K with
  | (p, l, e, R, s, m, args, below, meth, c, D, B, ac) => p.tables.exec = Jvm.exec ∧ c.code = cc ∧ c.maxLocals = nL ∧ s.vm.findClass y.cls = some m.cls ∧ meth.sig.returnType = rt ∧ meth.name = y.name ∧ meth.locks = false ∧ R = rm ∧ ENV D B ac s
def Calls (y : MethodName) (cc : ByteArray) (nL : Nat) (rt : Option FieldType) (rm : Room) (av : List Value) (n : Nat) (h : HP) (Q : QT) : Prop := ∀ (l : Launch) (D : va_G) (B : Nat) (ac : Nat → ClassId), Met l y [.code y cc nL rt] rm (va_Pc (av.map (tv B)) (fun U => hR D B ac n h U.heap ∧ ENV D B ac U)) (QcA D B ac Q) rm.cells rm.slots (fun q => B ≤ q)
/-! words: they hold along a warmed machine -/
theorem w_in {w : Cond} (h : w ∈ lw_tbl) (ho : okw w = true) : w ∈ w_tbl := List.mem_filter.mpr ⟨h, ho⟩
theorem okw_warm {w : Cond} (ho : okw w = true) {A A' : Array Value} {s U : State} (hW : s.WarmedH U.vm) (h : w.before A s = true) : w.before A' U = true := by
  unfold okw at ho
  split at ho
  · exact va_AO.use (va_AO.moved hW.alike (va_AO.of h))
  · exact va_Nw.use rfl (va_Nw.warmF hW (va_Nw.of rfl h))
  · exact va_Nw.use rfl (va_Nw.warmM hW (va_Nw.of rfl h))
  · exact word_at hW (good_of_word ho) h
theorem TB.warm {s U : State} (hW : s.WarmedH U.vm) {A : Array Value} (h : ∀ w ∈ w_tbl, w.before A s = true) : TB U := fun A' w hw => okw_warm (List.mem_filter.mp hw).2 hW (h w hw)
theorem SA.to {f : String} {L : Nat} {xs : Nat → Int32} {B : Nat} {s U : State} (hB : B ≤ s.heap.size) (hvm : s.vm.Alike U.vm) (h : SA f L xs B s s.heap) (hq : ∀ a : Nat, a < s.heap.size → ¬ B ≤ a → U.heap[a]? = s.heap[a]?) : SA f L xs B U U.heap := by
  obtain ⟨b, h1, h2, h3⟩ := h
  exact ⟨b, h1, (h2.moved hvm).kept hq, (h3.moved hvm).kept (hq b (by omega) (by omega))⟩
theorem ENV.to {D : va_G} {B : Nat} {ac : Nat → ClassId} {s U : State} (hE : ENV D B ac s) (hW : s.WarmedH U.vm) {H : Heap} {locs : List Loc} (hU : U.heap = H) (hS : va_S (fun q => B ≤ q) s.heap H locs) : ENV D B ac U := by
  obtain ⟨h1, h2, h3, h4, h5, h6⟩ := hE
  subst hU
  exact ⟨TB.warm hW (h1 #[]), h2.moved hW.alike, Nat.le_trans h3 hS.1, h4.to h3 hW.alike hS.2.1, h5.to h3 hW.alike hS.2.1, h6.to h3 hW.alike hS.2.1⟩
theorem ENV.blind {D : va_G} {B : Nat} {ac : Nat → ClassId} {U : State} {g : JFrame} {mk : MethodId} {a : Array Value} (h : ENV D B ac U) : ENV D B ac (U.calling g mk a) := by
  obtain ⟨h1, h2, h3, h4, h5, h6⟩ := h
  have hs : ∀ {f : String} {L : Nat} {xs : Nat → Int32}, SA f L xs B U U.heap → SA f L xs B (U.calling g mk a) (U.calling g mk a).heap := fun h => SA.to h3 (Vm.Alike.refl U.vm) h (fun _ _ _ => rfl)
  exact ⟨TB.warm (U := U.calling g mk a) (State.WarmedH.refl U) (h1 #[]), va_K.moved (u := U) (U := U.calling g mk a) (Vm.Alike.refl U.vm) h2, h3, hs h4, hs h5, hs h6⟩
theorem tv_cat (B : Nat) (v : Value) : (tv B v).category = v.category := by cases v <;> rfl
/-! locals -/
def lvE : List Value → List (Option Value)
  | [] => []
  | v :: vs => if v.category = 2 then some v :: none :: lvE vs else some v :: lvE vs
theorem lvE_mem (B : Nat) : ∀ (vs : List Value) (k i : Nat) (v : Value), (lvE vs)[i]? = some (some v) → (k + i, tv B v) ∈ lv_args k (vs.map (tv B)) := by
  intro vs
  induction vs with
  | nil => intro k i v h; simp [lvE] at h
  | cons w vs ih =>
    intro k i v h
    unfold lvE at h
    show (k + i, tv B v) ∈ lv_args k (tv B w :: vs.map (tv B))
    unfold lv_args
    rw [tv_cat]
    split at h
    · rename_i hc
      match i, h with
      | 0, h => simp at h; subst h; exact List.mem_cons_self
      | 1, h => simp at h
      | i + 2, h =>
        simp only [List.getElem?_cons_succ] at h
        refine List.mem_cons_of_mem _ ?_
        have := ih (k + 2) i v h
        simpa [hc, Nat.add_assoc, Nat.add_comm 2 i] using this
    · rename_i hc
      match i, h with
      | 0, h => simp at h; subst h; exact List.mem_cons_self
      | i + 1, h =>
        simp only [List.getElem?_cons_succ] at h
        refine List.mem_cons_of_mem _ ?_
        have := ih (k + 1) i v h
        have hc1 : w.category = 1 := (lv_cat w).resolve_right hc
        simpa [hc, hc1, Nat.add_assoc, Nat.add_comm 1 i] using this
def padL (n : Nat) (l : List (Option Value)) : List (Option Value) := l ++ List.replicate (n - l.length) none
theorem padL_get {n : Nat} {l : List (Option Value)} {i : Nat} {v : Value} (h : (padL n l)[i]? = some (some v)) : l[i]? = some (some v) := by
  unfold padL at h
  by_cases hl : i < l.length
  · rwa [List.getElem?_append_left hl] at h
  · rw [List.getElem?_append_right (by omega), List.getElem?_replicate] at h
    split at h <;> simp at h
/-! stores into locals -/
theorem LV.pick {B nL : Nat} {ls : Array Slot} {lv : List (Option Value)} (hl : LV B nL ls lv) : ∀ (l : List (Nat × Value)), (∀ q ∈ l, ∃ v, q.2 = tv B v ∧ lv[q.1]? = some (some v)) → lv_has ls nL l := fun l h => ⟨hl.1, hl.2.1, fun q hq => by
  obtain ⟨v, h1, h2⟩ := h q hq
  rw [h1]
  exact hl.2.2 _ _ h2⟩
def prs (B : Nat) (lv : List (Option Value)) : List (Nat × Value) := (List.range lv.length).filterMap (fun i => match lv[i]? with
  | some (some v) => some (i, tv B v)
  | _ => none)
theorem prs_mem {B : Nat} {lv : List (Option Value)} {i : Nat} {v : Value} (h : lv[i]? = some (some v)) : (i, tv B v) ∈ prs B lv := by
  refine List.mem_filterMap.mpr ⟨i, List.mem_range.mpr (List.getElem?_eq_some_iff.mp h).1, ?_⟩
  rw [h]
theorem prs_of {B : Nat} {lv : List (Option Value)} {q : Nat × Value} (h : q ∈ prs B lv) : ∃ v, q.2 = tv B v ∧ lv[q.1]? = some (some v) := by
  obtain ⟨i, -, hi⟩ := List.mem_filterMap.mp h
  split at hi
  · rename_i v hv
    cases hi
    exact ⟨v, rfl, hv⟩
  · cases hi
theorem LV.pairs {B nL : Nat} {ls : Array Slot} {lv : List (Option Value)} (hl : LV B nL ls lv) : lv_has ls nL (prs B lv) := hl.pick _ (fun _ h => prs_of h)
theorem kill_get {lv : List (Option Value)} {i j : Nat} {w : Value} (h : (kill lv i)[j]? = some (some w)) : lv[j]? = some (some w) ∧ ¬ (j + 1 = i ∧ w.category = 2) := by
  unfold kill at h
  split at h
  · exact ⟨h, by omega⟩
  · rename_i k
    split at h
    · rename_i x hx
      split at h
      · rename_i hc
        by_cases hjk : k = j
        · subst hjk
          rw [List.getElem?_set] at h
          simp at h
        · rw [List.getElem?_set_ne hjk] at h
          exact ⟨h, by omega⟩
      · rename_i hc
        refine ⟨h, fun ⟨e1, e2⟩ => ?_⟩
        have : j = k := by omega
        subst this
        rw [hx] at h
        cases h
        exact hc e2
    · rename_i hx
      refine ⟨h, fun ⟨e1, e2⟩ => ?_⟩
      have : j = k := by omega
      subst this
      exact hx _ h
theorem LV.st1 {B nL : Nat} {ls' : Array Slot} {lv : List (Option Value)} {i : Nat} {v : Value} (h : lv_has ls' nL ((i, tv B v) :: (prs B lv).filter (fun q => !(q.1 == i) && !(q.1 + 1 == i && q.2.category == 2)))) : LV B nL ls' (sv1 lv i v) := by
  refine ⟨h.1, h.2.1, fun j w hj => ?_⟩
  unfold sv1 at hj
  by_cases hji : i = j
  · subst hji
    rw [List.getElem?_set] at hj
    simp at hj
    obtain ⟨-, rfl⟩ := hj
    exact h.2.2 (i, tv B v) List.mem_cons_self
  · rw [List.getElem?_set_ne hji] at hj
    obtain ⟨h1, h2⟩ := kill_get hj
    refine h.2.2 (j, tv B w) (List.mem_cons_of_mem _ (List.mem_filter.mpr ⟨prs_mem h1, ?_⟩))
    have e1 : (j == i) = false := by simp; omega
    simp only [e1, Bool.not_false, Bool.true_and, Bool.not_eq_true', Bool.and_eq_false_iff, beq_eq_false_iff_ne, ne_eq]
    rw [tv_cat]
    by_cases q : j + 1 = i
    · exact Or.inr (fun c => h2 ⟨q, c⟩)
    · exact Or.inl q
theorem LV.st2 {B nL : Nat} {ls' : Array Slot} {lv : List (Option Value)} {i : Nat} {v : Value} (h : lv_has ls' nL ((i, tv B v) :: (prs B lv).filter (fun q => !(q.1 == i) && (!(q.1 == i + 1) && !(q.1 + 1 == i && q.2.category == 2))))) : LV B nL ls' (sv2 lv i v) := by
  refine ⟨h.1, h.2.1, fun j w hj => ?_⟩
  unfold sv2 at hj
  by_cases hj1 : i + 1 = j
  · subst hj1
    rw [List.getElem?_set] at hj
    simp at hj
  rw [List.getElem?_set_ne hj1] at hj
  by_cases hji : i = j
  · subst hji
    rw [List.getElem?_set] at hj
    simp at hj
    obtain ⟨-, rfl⟩ := hj
    exact h.2.2 (i, tv B v) List.mem_cons_self
  · rw [List.getElem?_set_ne hji] at hj
    obtain ⟨h1, h2⟩ := kill_get hj
    refine h.2.2 (j, tv B w) (List.mem_cons_of_mem _ (List.mem_filter.mpr ⟨prs_mem h1, ?_⟩))
    have e1 : (j == i) = false := by simp; omega
    have e2 : (j == i + 1) = false := by simp; omega
    simp only [e1, e2, Bool.not_false, Bool.true_and, Bool.not_eq_true', Bool.and_eq_false_iff, beq_eq_false_iff_ne, ne_eq]
    rw [tv_cat]
    by_cases q : j + 1 = i
    · exact Or.inr (fun c => h2 ⟨q, c⟩)
    · exact Or.inl q
/-! the heap relation -/
theorem hR.sing {D : va_G} {B : Nat} {ac : Nat → ClassId} {n : Nat} {h : HP} {H : Heap} (hr : hR D B ac n h H) {a : Nat} {e : HE} (ha : h a = some e) : va_P D vwCl [(B + a, te B ac e)] H := by
  intro k q hk
  match k, hk with
  | 0, hk => cases hk; exact (hr.2 a e ha).2
  | k + 1, hk => simp at hk
theorem hR.lt {D : va_G} {B : Nat} {ac : Nat → ClassId} {n : Nat} {h : HP} {H : Heap} (hr : hR D B ac n h H) {a : Nat} {e : HE} (ha : h a = some e) : a < n := (hr.2 a e ha).1
theorem hR.set {D : va_G} {B : Nat} {ac : Nat → ClassId} {n : Nat} {h : HP} {H H1 : Heap} (hr : hR D B ac n h H) {a : Nat} {e0 e : HE} (ha : h a = some e0) (z : H1.size = H.size) (he : va_at D vwCl (B + a, te B ac e) H1) (oq : ∀ q : Nat, q ≠ B + a → H1[q]? = H[q]?) : hR D B ac n (hset h a e) H1 := by
  refine ⟨z.trans hr.1, fun i x hi => ?_⟩
  unfold hset at hi
  split at hi
  · rename_i hia
    subst hia
    cases hi
    exact ⟨hr.lt ha, he⟩
  · rename_i hia
    obtain ⟨h1, h2⟩ := hr.2 i x hi
    exact ⟨h1, h2.kept (oq _ (by show B + i ≠ B + a; omega))⟩
theorem hR.push {D : va_G} {B : Nat} {ac : Nat → ClassId} {n : Nat} {h : HP} {H H1 : Heap} (hr : hR D B ac n h H) {e : HE} (z : H1.size = H.size + 1) (he : va_at D vwCl (B + n, te B ac e) H1) (oq : ∀ q : Nat, q < H.size → H1[q]? = H[q]?) : hR D B ac (n + 1) (hset h n e) H1 := by
  refine ⟨by rw [z, hr.1]; omega, fun i x hi => ?_⟩
  unfold hset at hi
  split at hi
  · rename_i hia
    subst hia
    cases hi
    exact ⟨by omega, he⟩
  · obtain ⟨h1, h2⟩ := hr.2 i x hi
    exact ⟨by omega, h2.kept (oq _ (by show B + i < H.size; rw [hr.1]; omega))⟩
theorem vpV_map (B : Nat) (fs : List Value) (k : Nat) (v : Value) (h : fs[k]? = some v) : (fs.map (tv B))[k]? = some (tv B v) := by rw [List.getElem?_map, h]; rfl

section AWR
variable {K : CX} {Q : QT} {cs sl pc pc2 n : Nat} {lv : List (Option Value)} {st : List Value} {h : HP} {y0 : MethodName} {cc : ByteArray} {nL : Nat} {rt : Option FieldType} {rm : Room}
theorem aw_iadd (hk : OK K y0 cc nL rt rm) {x y : Int32} (hd : decode cc pc = .ok (.iadd, 1)) (hp : pc + 1 = pc2)  (kk : AW K Q cs sl pc2 lv (.int (x + y) :: st) n h) : AW K Q cs sl pc lv (.int y :: .int x :: st) n h := by
  obtain ⟨p, l, e, R, s, m, args, below, meth, c, D, B, ac⟩ := K
  obtain ⟨hx, hb, hml, hown, hr, hnm, hlk, hRm, hE⟩ := hk
  subst hp
  intro H locs ls hh hS hl
  exact lv_iadd hx hb hd  (kk H locs ls hh hS hl)
theorem aw_isub (hk : OK K y0 cc nL rt rm) {x y : Int32} (hd : decode cc pc = .ok (.isub, 1)) (hp : pc + 1 = pc2)  (kk : AW K Q cs sl pc2 lv (.int (x - y) :: st) n h) : AW K Q cs sl pc lv (.int y :: .int x :: st) n h := by
  obtain ⟨p, l, e, R, s, m, args, below, meth, c, D, B, ac⟩ := K
  obtain ⟨hx, hb, hml, hown, hr, hnm, hlk, hRm, hE⟩ := hk
  subst hp
  intro H locs ls hh hS hl
  exact lv_isub hx hb hd  (kk H locs ls hh hS hl)
theorem aw_imul (hk : OK K y0 cc nL rt rm) {x y : Int32} (hd : decode cc pc = .ok (.imul, 1)) (hp : pc + 1 = pc2)  (kk : AW K Q cs sl pc2 lv (.int (x * y) :: st) n h) : AW K Q cs sl pc lv (.int y :: .int x :: st) n h := by
  obtain ⟨p, l, e, R, s, m, args, below, meth, c, D, B, ac⟩ := K
  obtain ⟨hx, hb, hml, hown, hr, hnm, hlk, hRm, hE⟩ := hk
  subst hp
  intro H locs ls hh hS hl
  exact lv_imul hx hb hd  (kk H locs ls hh hS hl)
theorem aw_iand (hk : OK K y0 cc nL rt rm) {x y : Int32} (hd : decode cc pc = .ok (.iand, 1)) (hp : pc + 1 = pc2)  (kk : AW K Q cs sl pc2 lv (.int (x &&& y) :: st) n h) : AW K Q cs sl pc lv (.int y :: .int x :: st) n h := by
  obtain ⟨p, l, e, R, s, m, args, below, meth, c, D, B, ac⟩ := K
  obtain ⟨hx, hb, hml, hown, hr, hnm, hlk, hRm, hE⟩ := hk
  subst hp
  intro H locs ls hh hS hl
  exact lv_iand hx hb hd  (kk H locs ls hh hS hl)
theorem aw_idiv (hk : OK K y0 cc nL rt rm) {x y : Int32} (hd : decode cc pc = .ok (.idiv, 1)) (hp : pc + 1 = pc2) (hne : ¬ y = 0) (kk : AW K Q cs sl pc2 lv (.int (x / y) :: st) n h) : AW K Q cs sl pc lv (.int y :: .int x :: st) n h := by
  obtain ⟨p, l, e, R, s, m, args, below, meth, c, D, B, ac⟩ := K
  obtain ⟨hx, hb, hml, hown, hr, hnm, hlk, hRm, hE⟩ := hk
  subst hp
  intro H locs ls hh hS hl
  exact lv_idiv hx hb hd hne (kk H locs ls hh hS hl)
theorem aw_irem (hk : OK K y0 cc nL rt rm) {x y : Int32} (hd : decode cc pc = .ok (.irem, 1)) (hp : pc + 1 = pc2) (hne : ¬ y = 0) (kk : AW K Q cs sl pc2 lv (.int (x - x / y * y) :: st) n h) : AW K Q cs sl pc lv (.int y :: .int x :: st) n h := by
  obtain ⟨p, l, e, R, s, m, args, below, meth, c, D, B, ac⟩ := K
  obtain ⟨hx, hb, hml, hown, hr, hnm, hlk, hRm, hE⟩ := hk
  subst hp
  intro H locs ls hh hS hl
  exact lv_irem hx hb hd hne (kk H locs ls hh hS hl)
theorem aw_ladd (hk : OK K y0 cc nL rt rm) {x y : Int64} (hd : decode cc pc = .ok (.ladd, 1)) (hp : pc + 1 = pc2)  (kk : AW K Q cs sl pc2 lv (.long (x + y) :: st) n h) : AW K Q cs sl pc lv (.long y :: .long x :: st) n h := by
  obtain ⟨p, l, e, R, s, m, args, below, meth, c, D, B, ac⟩ := K
  obtain ⟨hx, hb, hml, hown, hr, hnm, hlk, hRm, hE⟩ := hk
  subst hp
  intro H locs ls hh hS hl
  exact lv_ladd hx hb hd  (kk H locs ls hh hS hl)
theorem aw_lsub (hk : OK K y0 cc nL rt rm) {x y : Int64} (hd : decode cc pc = .ok (.lsub, 1)) (hp : pc + 1 = pc2)  (kk : AW K Q cs sl pc2 lv (.long (x - y) :: st) n h) : AW K Q cs sl pc lv (.long y :: .long x :: st) n h := by
  obtain ⟨p, l, e, R, s, m, args, below, meth, c, D, B, ac⟩ := K
  obtain ⟨hx, hb, hml, hown, hr, hnm, hlk, hRm, hE⟩ := hk
  subst hp
  intro H locs ls hh hS hl
  exact lv_lsub hx hb hd  (kk H locs ls hh hS hl)
theorem aw_lmul (hk : OK K y0 cc nL rt rm) {x y : Int64} (hd : decode cc pc = .ok (.lmul, 1)) (hp : pc + 1 = pc2)  (kk : AW K Q cs sl pc2 lv (.long (x * y) :: st) n h) : AW K Q cs sl pc lv (.long y :: .long x :: st) n h := by
  obtain ⟨p, l, e, R, s, m, args, below, meth, c, D, B, ac⟩ := K
  obtain ⟨hx, hb, hml, hown, hr, hnm, hlk, hRm, hE⟩ := hk
  subst hp
  intro H locs ls hh hS hl
  exact lv_lmul hx hb hd  (kk H locs ls hh hS hl)
theorem aw_land (hk : OK K y0 cc nL rt rm) {x y : Int64} (hd : decode cc pc = .ok (.land, 1)) (hp : pc + 1 = pc2)  (kk : AW K Q cs sl pc2 lv (.long (x &&& y) :: st) n h) : AW K Q cs sl pc lv (.long y :: .long x :: st) n h := by
  obtain ⟨p, l, e, R, s, m, args, below, meth, c, D, B, ac⟩ := K
  obtain ⟨hx, hb, hml, hown, hr, hnm, hlk, hRm, hE⟩ := hk
  subst hp
  intro H locs ls hh hS hl
  exact lv_land hx hb hd  (kk H locs ls hh hS hl)
theorem aw_lor (hk : OK K y0 cc nL rt rm) {x y : Int64} (hd : decode cc pc = .ok (.lor, 1)) (hp : pc + 1 = pc2)  (kk : AW K Q cs sl pc2 lv (.long (x ||| y) :: st) n h) : AW K Q cs sl pc lv (.long y :: .long x :: st) n h := by
  obtain ⟨p, l, e, R, s, m, args, below, meth, c, D, B, ac⟩ := K
  obtain ⟨hx, hb, hml, hown, hr, hnm, hlk, hRm, hE⟩ := hk
  subst hp
  intro H locs ls hh hS hl
  exact lv_lor hx hb hd  (kk H locs ls hh hS hl)
theorem aw_ldiv (hk : OK K y0 cc nL rt rm) {x y : Int64} (hd : decode cc pc = .ok (.ldiv, 1)) (hp : pc + 1 = pc2) (hne : ¬ y = 0) (kk : AW K Q cs sl pc2 lv (.long (x / y) :: st) n h) : AW K Q cs sl pc lv (.long y :: .long x :: st) n h := by
  obtain ⟨p, l, e, R, s, m, args, below, meth, c, D, B, ac⟩ := K
  obtain ⟨hx, hb, hml, hown, hr, hnm, hlk, hRm, hE⟩ := hk
  subst hp
  intro H locs ls hh hS hl
  exact lv_ldiv hx hb hd hne (kk H locs ls hh hS hl)
theorem aw_i2l (hk : OK K y0 cc nL rt rm) {x : Int32} (hd : decode cc pc = .ok (.i2l, 1)) (hp : pc + 1 = pc2)  (kk : AW K Q cs sl pc2 lv (.long x.toInt64 :: st) n h) : AW K Q cs sl pc lv (.int x :: st) n h := by
  obtain ⟨p, l, e, R, s, m, args, below, meth, c, D, B, ac⟩ := K
  obtain ⟨hx, hb, hml, hown, hr, hnm, hlk, hRm, hE⟩ := hk
  subst hp
  intro H locs ls hh hS hl
  exact lv_i2l hx hb hd rfl (kk H locs ls hh hS hl)
theorem aw_lshl (hk : OK K y0 cc nL rt rm) {x : Int64} {y : Int32} (hd : decode cc pc = .ok (.lshl, 1)) (hp : pc + 1 = pc2)  (kk : AW K Q cs sl pc2 lv (.long (x <<< (y.toInt64 &&& 63)) :: st) n h) : AW K Q cs sl pc lv (.int y :: .long x :: st) n h := by
  obtain ⟨p, l, e, R, s, m, args, below, meth, c, D, B, ac⟩ := K
  obtain ⟨hx, hb, hml, hown, hr, hnm, hlk, hRm, hE⟩ := hk
  subst hp
  intro H locs ls hh hS hl
  exact lv_lshl hx hb hd rfl (kk H locs ls hh hS hl)
theorem aw_lcmp (hk : OK K y0 cc nL rt rm) {x y : Int64} (hd : decode cc pc = .ok (.lcmp, 1)) (hp : pc + 1 = pc2)  (kk : AW K Q cs sl pc2 lv (.int (lg_cmp x y) :: st) n h) : AW K Q cs sl pc lv (.long y :: .long x :: st) n h := by
  obtain ⟨p, l, e, R, s, m, args, below, meth, c, D, B, ac⟩ := K
  obtain ⟨hx, hb, hml, hown, hr, hnm, hlk, hRm, hE⟩ := hk
  subst hp
  intro H locs ls hh hS hl
  exact W.lcmp hx hb hd  (kk H locs ls hh hS hl)
theorem aw_dup_r (hk : OK K y0 cc nL rt rm) {x : Nat} (hd : decode cc pc = .ok (.dup, 1)) (hp : pc + 1 = pc2)  (kk : AW K Q cs sl pc2 lv (.ref x :: .ref x :: st) n h) : AW K Q cs sl pc lv (.ref x :: st) n h := by
  obtain ⟨p, l, e, R, s, m, args, below, meth, c, D, B, ac⟩ := K
  obtain ⟨hx, hb, hml, hown, hr, hnm, hlk, hRm, hE⟩ := hk
  subst hp
  intro H locs ls hh hS hl
  exact lv_dup hx hb hd rfl (kk H locs ls hh hS hl)
theorem aw_dup_i (hk : OK K y0 cc nL rt rm) {x : Int32} (hd : decode cc pc = .ok (.dup, 1)) (hp : pc + 1 = pc2)  (kk : AW K Q cs sl pc2 lv (.int x :: .int x :: st) n h) : AW K Q cs sl pc lv (.int x :: st) n h := by
  obtain ⟨p, l, e, R, s, m, args, below, meth, c, D, B, ac⟩ := K
  obtain ⟨hx, hb, hml, hown, hr, hnm, hlk, hRm, hE⟩ := hk
  subst hp
  intro H locs ls hh hS hl
  exact lv_dup hx hb hd rfl (kk H locs ls hh hS hl)
theorem aw_dup2_ir (hk : OK K y0 cc nL rt rm) {x : Int32} {a : Nat} (hd : decode cc pc = .ok (.dup2, 1)) (hp : pc + 1 = pc2)  (kk : AW K Q cs sl pc2 lv (.int x :: .ref a :: .int x :: .ref a :: st) n h) : AW K Q cs sl pc lv (.int x :: .ref a :: st) n h := by
  obtain ⟨p, l, e, R, s, m, args, below, meth, c, D, B, ac⟩ := K
  obtain ⟨hx, hb, hml, hown, hr, hnm, hlk, hRm, hE⟩ := hk
  subst hp
  intro H locs ls hh hS hl
  exact lv_dup2_11 hx hb hd rfl rfl (kk H locs ls hh hS hl)
theorem aw_iconst (hk : OK K y0 cc nL rt rm) {k : Int} {v : Int32} (hd : decode cc pc = .ok (.iconst k, 1)) (hp : pc + 1 = pc2) (hv : Int32.ofInt k = v) (kk : AW K Q cs sl pc2 lv (.int v :: st) n h) : AW K Q cs sl pc lv (st) n h := by
  obtain ⟨p, l, e, R, s, m, args, below, meth, c, D, B, ac⟩ := K
  obtain ⟨hx, hb, hml, hown, hr, hnm, hlk, hRm, hE⟩ := hk
  subst hp
  intro H locs ls hh hS hl
  exact lv_iconst hx hb hd hv (kk H locs ls hh hS hl)
theorem aw_bipush (hk : OK K y0 cc nL rt rm) {k : Int} {v : Int32} (hd : decode cc pc = .ok (.bipush k, 2)) (hp : pc + 2 = pc2) (hv : (Int8.ofInt k).toInt32 = v) (kk : AW K Q cs sl pc2 lv (.int v :: st) n h) : AW K Q cs sl pc lv (st) n h := by
  obtain ⟨p, l, e, R, s, m, args, below, meth, c, D, B, ac⟩ := K
  obtain ⟨hx, hb, hml, hown, hr, hnm, hlk, hRm, hE⟩ := hk
  subst hp
  intro H locs ls hh hS hl
  exact lv_bipush hx hb hd hv (kk H locs ls hh hS hl)
theorem aw_sipush (hk : OK K y0 cc nL rt rm) {k : Int} {v : Int32} (hd : decode cc pc = .ok (.sipush k, 3)) (hp : pc + 3 = pc2) (hv : (Int16.ofInt k).toInt32 = v) (kk : AW K Q cs sl pc2 lv (.int v :: st) n h) : AW K Q cs sl pc lv (st) n h := by
  obtain ⟨p, l, e, R, s, m, args, below, meth, c, D, B, ac⟩ := K
  obtain ⟨hx, hb, hml, hown, hr, hnm, hlk, hRm, hE⟩ := hk
  subst hp
  intro H locs ls hh hS hl
  exact lv_sipush hx hb hd hv (kk H locs ls hh hS hl)
theorem aw_lconst (hk : OK K y0 cc nL rt rm) {k : Fin 2} {v : Int64} (hd : decode cc pc = .ok (.lconst k, 1)) (hp : pc + 1 = pc2) (hv : Int64.ofNat (k : Nat) = v) (kk : AW K Q cs sl pc2 lv (.long v :: st) n h) : AW K Q cs sl pc lv (st) n h := by
  obtain ⟨p, l, e, R, s, m, args, below, meth, c, D, B, ac⟩ := K
  obtain ⟨hx, hb, hml, hown, hr, hnm, hlk, hRm, hE⟩ := hk
  subst hp
  intro H locs ls hh hS hl
  exact lv_lconst hx hb hd hv (kk H locs ls hh hS hl)
theorem aw_null (hk : OK K y0 cc nL rt rm)  (hd : decode cc pc = .ok (.aconst_null, 1)) (hp : pc + 1 = pc2)  (kk : AW K Q cs sl pc2 lv (.null :: st) n h) : AW K Q cs sl pc lv (st) n h := by
  obtain ⟨p, l, e, R, s, m, args, below, meth, c, D, B, ac⟩ := K
  obtain ⟨hx, hb, hml, hown, hr, hnm, hlk, hRm, hE⟩ := hk
  subst hp
  intro H locs ls hh hS hl
  exact lv_null hx hb hd  (kk H locs ls hh hS hl)
theorem aw_ldc (hk : OK K y0 cc nL rt rm) {ix : Nat} {v : Int32} (hd : decode cc pc = .ok (.ldc ix, 2)) (hp : pc + 2 = pc2) (hc : Cond.constant y0.cls ix v ∈ w_tbl) (kk : AW K Q cs sl pc2 lv (.int v :: st) n h) : AW K Q cs sl pc lv st n h := by
  obtain ⟨p, l, e, R, s, m, args, below, meth, c, D, B, ac⟩ := K
  obtain ⟨hx, hb, hml, hown, hr, hnm, hlk, hRm, hE⟩ := hk
  subst hp
  intro H locs ls hh hS hl
  exact lv_ldc hx hb hown (hE.1 args _ hc) hd (kk H locs ls hh hS hl)
theorem aw_ldc2 (hk : OK K y0 cc nL rt rm) {ix : Nat} {v : Int64} (hd : decode cc pc = .ok (.ldc2_w ix, 3)) (hp : pc + 3 = pc2) (hc : Cond.constantLong y0.cls ix v ∈ w_tbl) (kk : AW K Q cs sl pc2 lv (.long v :: st) n h) : AW K Q cs sl pc lv st n h := by
  obtain ⟨p, l, e, R, s, m, args, below, meth, c, D, B, ac⟩ := K
  obtain ⟨hx, hb, hml, hown, hr, hnm, hlk, hRm, hE⟩ := hk
  subst hp
  intro H locs ls hh hS hl
  exact lv_ldc2 hx hb hown (hE.1 args _ hc) hd (kk H locs ls hh hS hl)
theorem aw_iload_n (hk : OK K y0 cc nL rt rm) {k : Fin 4} {x : Int32} (hd : decode cc pc = .ok (.iload_n k, 1)) (hp : pc + 1 = pc2) (hv : lv[(k : Nat)]? = some (some (.int x))) (kk : AW K Q cs sl pc2 lv (.int x :: st) n h) : AW K Q cs sl pc lv st n h := by
  obtain ⟨p, l, e, R, s, m, args, below, meth, c, D, B, ac⟩ := K
  obtain ⟨hx, hb, hml, hown, hr, hnm, hlk, hRm, hE⟩ := hk
  subst hp
  intro H locs ls hh hS hl
  exact lv_iload_n hx hb hd rfl (hl.2.2 _ _ hv) (kk H locs ls hh hS hl)
theorem aw_iload (hk : OK K y0 cc nL rt rm) {k : Nat} {x : Int32} (hd : decode cc pc = .ok (.iload k, 2)) (hp : pc + 2 = pc2) (hv : lv[k]? = some (some (.int x))) (kk : AW K Q cs sl pc2 lv (.int x :: st) n h) : AW K Q cs sl pc lv st n h := by
  obtain ⟨p, l, e, R, s, m, args, below, meth, c, D, B, ac⟩ := K
  obtain ⟨hx, hb, hml, hown, hr, hnm, hlk, hRm, hE⟩ := hk
  subst hp
  intro H locs ls hh hS hl
  exact lv_iload hx hb hd (hl.2.2 _ _ hv) (kk H locs ls hh hS hl)
theorem aw_lload_n (hk : OK K y0 cc nL rt rm) {k : Fin 4} {x : Int64} (hd : decode cc pc = .ok (.lload_n k, 1)) (hp : pc + 1 = pc2) (hv : lv[(k : Nat)]? = some (some (.long x))) (kk : AW K Q cs sl pc2 lv (.long x :: st) n h) : AW K Q cs sl pc lv st n h := by
  obtain ⟨p, l, e, R, s, m, args, below, meth, c, D, B, ac⟩ := K
  obtain ⟨hx, hb, hml, hown, hr, hnm, hlk, hRm, hE⟩ := hk
  subst hp
  intro H locs ls hh hS hl
  exact lv_lload_n hx hb hd rfl (hl.2.2 _ _ hv) (kk H locs ls hh hS hl)
theorem aw_lload (hk : OK K y0 cc nL rt rm) {k : Nat} {x : Int64} (hd : decode cc pc = .ok (.lload k, 2)) (hp : pc + 2 = pc2) (hv : lv[k]? = some (some (.long x))) (kk : AW K Q cs sl pc2 lv (.long x :: st) n h) : AW K Q cs sl pc lv st n h := by
  obtain ⟨p, l, e, R, s, m, args, below, meth, c, D, B, ac⟩ := K
  obtain ⟨hx, hb, hml, hown, hr, hnm, hlk, hRm, hE⟩ := hk
  subst hp
  intro H locs ls hh hS hl
  exact lv_lload hx hb hd (hl.2.2 _ _ hv) (kk H locs ls hh hS hl)
theorem aw_aload_n (hk : OK K y0 cc nL rt rm) {k : Fin 4} {x : Nat} (hd : decode cc pc = .ok (.aload_n k, 1)) (hp : pc + 1 = pc2) (hv : lv[(k : Nat)]? = some (some (.ref x))) (kk : AW K Q cs sl pc2 lv (.ref x :: st) n h) : AW K Q cs sl pc lv st n h := by
  obtain ⟨p, l, e, R, s, m, args, below, meth, c, D, B, ac⟩ := K
  obtain ⟨hx, hb, hml, hown, hr, hnm, hlk, hRm, hE⟩ := hk
  subst hp
  intro H locs ls hh hS hl
  exact lv_aload_n hx hb hd rfl (hl.2.2 _ _ hv) (kk H locs ls hh hS hl)
theorem aw_aload (hk : OK K y0 cc nL rt rm) {k : Nat} {x : Nat} (hd : decode cc pc = .ok (.aload k, 2)) (hp : pc + 2 = pc2) (hv : lv[k]? = some (some (.ref x))) (kk : AW K Q cs sl pc2 lv (.ref x :: st) n h) : AW K Q cs sl pc lv st n h := by
  obtain ⟨p, l, e, R, s, m, args, below, meth, c, D, B, ac⟩ := K
  obtain ⟨hx, hb, hml, hown, hr, hnm, hlk, hRm, hE⟩ := hk
  subst hp
  intro H locs ls hh hS hl
  exact lv_aload hx hb hd (hl.2.2 _ _ hv) (kk H locs ls hh hS hl)
theorem aw_aload_nN (hk : OK K y0 cc nL rt rm) {k : Fin 4} (hd : decode cc pc = .ok (.aload_n k, 1)) (hp : pc + 1 = pc2) (hv : lv[(k : Nat)]? = some (some .null)) (kk : AW K Q cs sl pc2 lv (.null :: st) n h) : AW K Q cs sl pc lv st n h := by
  obtain ⟨p, l, e, R, s, m, args, below, meth, c, D, B, ac⟩ := K
  obtain ⟨hx, hb, hml, hown, hr, hnm, hlk, hRm, hE⟩ := hk
  subst hp
  intro H locs ls hh hS hl
  exact lv_aload_nN hx hb hd rfl (hl.2.2 _ _ hv) (kk H locs ls hh hS hl)
theorem aw_aloadN (hk : OK K y0 cc nL rt rm) {k : Nat} (hd : decode cc pc = .ok (.aload k, 2)) (hp : pc + 2 = pc2) (hv : lv[k]? = some (some .null)) (kk : AW K Q cs sl pc2 lv (.null :: st) n h) : AW K Q cs sl pc lv st n h := by
  obtain ⟨p, l, e, R, s, m, args, below, meth, c, D, B, ac⟩ := K
  obtain ⟨hx, hb, hml, hown, hr, hnm, hlk, hRm, hE⟩ := hk
  subst hp
  intro H locs ls hh hS hl
  exact lv_aloadN hx hb hd (hl.2.2 _ _ hv) (kk H locs ls hh hS hl)
theorem aw_istore_n (hk : OK K y0 cc nL rt rm) {j : Fin 4} {x : Int32} (hd : decode cc pc = .ok (.istore_n j, 1)) (hp : pc + 1 = pc2) (hn : (j : Nat) < nL) (kk : AW K Q cs sl pc2 (sv1 lv (j : Nat) (.int x)) st n h) : AW K Q cs sl pc lv (.int x :: st) n h := by
  obtain ⟨p, l, e, R, s, m, args, below, meth, c, D, B, ac⟩ := K
  obtain ⟨hx, hb, hml, hown, hr, hnm, hlk, hRm, hE⟩ := hk
  subst hp
  intro H locs ls hh hS hl
  subst hml
  exact lv_istore_n hx hb hd rfl hl.pairs hn rfl (fun ls' hl' => kk H locs ls' hh hS (LV.st1 hl'))
theorem aw_istore (hk : OK K y0 cc nL rt rm) {k : Nat} {x : Int32} (hd : decode cc pc = .ok (.istore k, 2)) (hp : pc + 2 = pc2) (hn : k < nL) (kk : AW K Q cs sl pc2 (sv1 lv k (.int x)) st n h) : AW K Q cs sl pc lv (.int x :: st) n h := by
  obtain ⟨p, l, e, R, s, m, args, below, meth, c, D, B, ac⟩ := K
  obtain ⟨hx, hb, hml, hown, hr, hnm, hlk, hRm, hE⟩ := hk
  subst hp
  intro H locs ls hh hS hl
  subst hml
  exact lv_istore hx hb hd hl.pairs hn rfl (fun ls' hl' => kk H locs ls' hh hS (LV.st1 hl'))
theorem aw_lstore_n (hk : OK K y0 cc nL rt rm) {j : Fin 4} {x : Int64} (hd : decode cc pc = .ok (.lstore_n j, 1)) (hp : pc + 1 = pc2) (hn : (j : Nat) + 1 < nL) (kk : AW K Q cs sl pc2 (sv2 lv (j : Nat) (.long x)) st n h) : AW K Q cs sl pc lv (.long x :: st) n h := by
  obtain ⟨p, l, e, R, s, m, args, below, meth, c, D, B, ac⟩ := K
  obtain ⟨hx, hb, hml, hown, hr, hnm, hlk, hRm, hE⟩ := hk
  subst hp
  intro H locs ls hh hS hl
  subst hml
  exact lv_lstore_n hx hb hd rfl hl.pairs hn rfl (fun ls' hl' => kk H locs ls' hh hS (LV.st2 hl'))
theorem aw_lstore (hk : OK K y0 cc nL rt rm) {k : Nat} {x : Int64} (hd : decode cc pc = .ok (.lstore k, 2)) (hp : pc + 2 = pc2) (hn : k + 1 < nL) (kk : AW K Q cs sl pc2 (sv2 lv k (.long x)) st n h) : AW K Q cs sl pc lv (.long x :: st) n h := by
  obtain ⟨p, l, e, R, s, m, args, below, meth, c, D, B, ac⟩ := K
  obtain ⟨hx, hb, hml, hown, hr, hnm, hlk, hRm, hE⟩ := hk
  subst hp
  intro H locs ls hh hS hl
  subst hml
  exact lv_lstore hx hb hd hl.pairs hn rfl (fun ls' hl' => kk H locs ls' hh hS (LV.st2 hl'))
theorem aw_astore_n (hk : OK K y0 cc nL rt rm) {j : Fin 4} {x : Nat} (hd : decode cc pc = .ok (.astore_n j, 1)) (hp : pc + 1 = pc2) (hn : (j : Nat) < nL) (kk : AW K Q cs sl pc2 (sv1 lv (j : Nat) (.ref x)) st n h) : AW K Q cs sl pc lv (.ref x :: st) n h := by
  obtain ⟨p, l, e, R, s, m, args, below, meth, c, D, B, ac⟩ := K
  obtain ⟨hx, hb, hml, hown, hr, hnm, hlk, hRm, hE⟩ := hk
  subst hp
  intro H locs ls hh hS hl
  subst hml
  exact lv_astore_n hx hb hd rfl hl.pairs hn rfl (fun ls' hl' => kk H locs ls' hh hS (LV.st1 hl'))
theorem aw_astore (hk : OK K y0 cc nL rt rm) {k : Nat} {x : Nat} (hd : decode cc pc = .ok (.astore k, 2)) (hp : pc + 2 = pc2) (hn : k < nL) (kk : AW K Q cs sl pc2 (sv1 lv k (.ref x)) st n h) : AW K Q cs sl pc lv (.ref x :: st) n h := by
  obtain ⟨p, l, e, R, s, m, args, below, meth, c, D, B, ac⟩ := K
  obtain ⟨hx, hb, hml, hown, hr, hnm, hlk, hRm, hE⟩ := hk
  subst hp
  intro H locs ls hh hS hl
  subst hml
  exact lv_astore hx hb hd hl.pairs hn rfl (fun ls' hl' => kk H locs ls' hh hS (LV.st1 hl'))
theorem aw_astore_nN (hk : OK K y0 cc nL rt rm) {j : Fin 4} (hd : decode cc pc = .ok (.astore_n j, 1)) (hp : pc + 1 = pc2) (hn : (j : Nat) < nL) (kk : AW K Q cs sl pc2 (sv1 lv (j : Nat) .null) st n h) : AW K Q cs sl pc lv (.null :: st) n h := by
  obtain ⟨p, l, e, R, s, m, args, below, meth, c, D, B, ac⟩ := K
  obtain ⟨hx, hb, hml, hown, hr, hnm, hlk, hRm, hE⟩ := hk
  subst hp
  intro H locs ls hh hS hl
  subst hml
  exact lv_astore_nN hx hb hd rfl hl.pairs hn rfl (fun ls' hl' => kk H locs ls' hh hS (LV.st1 (v := .null) hl'))
theorem aw_astoreN (hk : OK K y0 cc nL rt rm) {k : Nat} (hd : decode cc pc = .ok (.astore k, 2)) (hp : pc + 2 = pc2) (hn : k < nL) (kk : AW K Q cs sl pc2 (sv1 lv k .null) st n h) : AW K Q cs sl pc lv (.null :: st) n h := by
  obtain ⟨p, l, e, R, s, m, args, below, meth, c, D, B, ac⟩ := K
  obtain ⟨hx, hb, hml, hown, hr, hnm, hlk, hRm, hE⟩ := hk
  subst hp
  intro H locs ls hh hS hl
  subst hml
  exact lv_astoreN hx hb hd hl.pairs hn rfl (fun ls' hl' => kk H locs ls' hh hS (LV.st1 (v := .null) hl'))
theorem aw_iinc (hk : OK K y0 cc nL rt rm) {k : Nat} {i : Int} {x v : Int32} (hd : decode cc pc = .ok (.iinc k i, 3)) (hp : pc + 3 = pc2) (hx0 : lv[k]? = some (some (.int x))) (hv : x + Int32.ofInt i = v) (hn : k < nL) (kk : AW K Q cs sl pc2 (sv1 lv k (.int v)) st n h) : AW K Q cs sl pc lv st n h := by
  obtain ⟨p, l, e, R, s, m, args, below, meth, c, D, B, ac⟩ := K
  obtain ⟨hx, hb, hml, hown, hr, hnm, hlk, hRm, hE⟩ := hk
  subst hp
  intro H locs ls hh hS hl
  subst hml
  obtain ⟨j, hj⟩ := List.getElem?_of_mem (prs_mem (B := B) hx0)
  exact lv_iinc hx hb hd hl.pairs hj hv hn rfl (fun ls' hl' => kk H locs ls' hh hS (LV.st1 (v := .int v) hl'))
theorem aw_if_eq (hk : OK K y0 cc nL rt rm) {x : Int32} {off : Int} {tgt : Nat} (hd : decode cc pc = .ok (.ifCond .eq off, 3)) (ht : (pc : Int) + off = (tgt : Int)) (hp : pc + 3 = pc2) (kt : x = 0 → AW K Q cs sl tgt lv st n h) (kf : ¬ (x = 0) → AW K Q cs sl pc2 lv st n h) : AW K Q cs sl pc lv (.int x :: st) n h := by
  obtain ⟨p, l, e, R, s, m, args, below, meth, c, D, B, ac⟩ := K
  obtain ⟨hx, hb, hml, hown, hr, hnm, hlk, hRm, hE⟩ := hk
  subst hp
  intro H locs ls hh hS hl
  exact lv_if_eq hx hb hd ht (fun q => kt q H locs ls hh hS hl) (fun q => kf q H locs ls hh hS hl)
theorem aw_if_ne (hk : OK K y0 cc nL rt rm) {x : Int32} {off : Int} {tgt : Nat} (hd : decode cc pc = .ok (.ifCond .ne off, 3)) (ht : (pc : Int) + off = (tgt : Int)) (hp : pc + 3 = pc2) (kt : ¬ x = 0 → AW K Q cs sl tgt lv st n h) (kf : x = 0 → AW K Q cs sl pc2 lv st n h) : AW K Q cs sl pc lv (.int x :: st) n h := by
  obtain ⟨p, l, e, R, s, m, args, below, meth, c, D, B, ac⟩ := K
  obtain ⟨hx, hb, hml, hown, hr, hnm, hlk, hRm, hE⟩ := hk
  subst hp
  intro H locs ls hh hS hl
  exact lv_if_ne hx hb hd ht (fun q => kt q H locs ls hh hS hl) (fun q => kf q H locs ls hh hS hl)
theorem aw_if_lt (hk : OK K y0 cc nL rt rm) {x : Int32} {off : Int} {tgt : Nat} (hd : decode cc pc = .ok (.ifCond .lt off, 3)) (ht : (pc : Int) + off = (tgt : Int)) (hp : pc + 3 = pc2) (kt : x < 0 → AW K Q cs sl tgt lv st n h) (kf : ¬ (x < 0) → AW K Q cs sl pc2 lv st n h) : AW K Q cs sl pc lv (.int x :: st) n h := by
  obtain ⟨p, l, e, R, s, m, args, below, meth, c, D, B, ac⟩ := K
  obtain ⟨hx, hb, hml, hown, hr, hnm, hlk, hRm, hE⟩ := hk
  subst hp
  intro H locs ls hh hS hl
  exact lv_if_lt hx hb hd ht (fun q => kt q H locs ls hh hS hl) (fun q => kf q H locs ls hh hS hl)
theorem aw_if_ge (hk : OK K y0 cc nL rt rm) {x : Int32} {off : Int} {tgt : Nat} (hd : decode cc pc = .ok (.ifCond .ge off, 3)) (ht : (pc : Int) + off = (tgt : Int)) (hp : pc + 3 = pc2) (kt : 0 ≤ x → AW K Q cs sl tgt lv st n h) (kf : ¬ (0 ≤ x) → AW K Q cs sl pc2 lv st n h) : AW K Q cs sl pc lv (.int x :: st) n h := by
  obtain ⟨p, l, e, R, s, m, args, below, meth, c, D, B, ac⟩ := K
  obtain ⟨hx, hb, hml, hown, hr, hnm, hlk, hRm, hE⟩ := hk
  subst hp
  intro H locs ls hh hS hl
  exact lv_if_ge hx hb hd ht (fun q => kt q H locs ls hh hS hl) (fun q => kf q H locs ls hh hS hl)
theorem aw_if_gt (hk : OK K y0 cc nL rt rm) {x : Int32} {off : Int} {tgt : Nat} (hd : decode cc pc = .ok (.ifCond .gt off, 3)) (ht : (pc : Int) + off = (tgt : Int)) (hp : pc + 3 = pc2) (kt : 0 < x → AW K Q cs sl tgt lv st n h) (kf : ¬ (0 < x) → AW K Q cs sl pc2 lv st n h) : AW K Q cs sl pc lv (.int x :: st) n h := by
  obtain ⟨p, l, e, R, s, m, args, below, meth, c, D, B, ac⟩ := K
  obtain ⟨hx, hb, hml, hown, hr, hnm, hlk, hRm, hE⟩ := hk
  subst hp
  intro H locs ls hh hS hl
  exact lv_if_gt hx hb hd ht (fun q => kt q H locs ls hh hS hl) (fun q => kf q H locs ls hh hS hl)
theorem aw_if_le (hk : OK K y0 cc nL rt rm) {x : Int32} {off : Int} {tgt : Nat} (hd : decode cc pc = .ok (.ifCond .le off, 3)) (ht : (pc : Int) + off = (tgt : Int)) (hp : pc + 3 = pc2) (kt : x ≤ 0 → AW K Q cs sl tgt lv st n h) (kf : ¬ (x ≤ 0) → AW K Q cs sl pc2 lv st n h) : AW K Q cs sl pc lv (.int x :: st) n h := by
  obtain ⟨p, l, e, R, s, m, args, below, meth, c, D, B, ac⟩ := K
  obtain ⟨hx, hb, hml, hown, hr, hnm, hlk, hRm, hE⟩ := hk
  subst hp
  intro H locs ls hh hS hl
  exact lv_if_le hx hb hd ht (fun q => kt q H locs ls hh hS hl) (fun q => kf q H locs ls hh hS hl)
theorem aw_icmp_eq (hk : OK K y0 cc nL rt rm) {x y : Int32} {off : Int} {tgt : Nat} (hd : decode cc pc = .ok (.if_icmp .eq off, 3)) (ht : (pc : Int) + off = (tgt : Int)) (hp : pc + 3 = pc2) (kt : x = y → AW K Q cs sl tgt lv st n h) (kf : ¬ (x = y) → AW K Q cs sl pc2 lv st n h) : AW K Q cs sl pc lv (.int y :: .int x :: st) n h := by
  obtain ⟨p, l, e, R, s, m, args, below, meth, c, D, B, ac⟩ := K
  obtain ⟨hx, hb, hml, hown, hr, hnm, hlk, hRm, hE⟩ := hk
  subst hp
  intro H locs ls hh hS hl
  exact lv_icmp_eq hx hb hd ht (fun q => kt q H locs ls hh hS hl) (fun q => kf q H locs ls hh hS hl)
theorem aw_icmp_ne (hk : OK K y0 cc nL rt rm) {x y : Int32} {off : Int} {tgt : Nat} (hd : decode cc pc = .ok (.if_icmp .ne off, 3)) (ht : (pc : Int) + off = (tgt : Int)) (hp : pc + 3 = pc2) (kt : ¬ x = y → AW K Q cs sl tgt lv st n h) (kf : x = y → AW K Q cs sl pc2 lv st n h) : AW K Q cs sl pc lv (.int y :: .int x :: st) n h := by
  obtain ⟨p, l, e, R, s, m, args, below, meth, c, D, B, ac⟩ := K
  obtain ⟨hx, hb, hml, hown, hr, hnm, hlk, hRm, hE⟩ := hk
  subst hp
  intro H locs ls hh hS hl
  exact lv_icmp_ne hx hb hd ht (fun q => kt q H locs ls hh hS hl) (fun q => kf q H locs ls hh hS hl)
theorem aw_icmp_lt (hk : OK K y0 cc nL rt rm) {x y : Int32} {off : Int} {tgt : Nat} (hd : decode cc pc = .ok (.if_icmp .lt off, 3)) (ht : (pc : Int) + off = (tgt : Int)) (hp : pc + 3 = pc2) (kt : x < y → AW K Q cs sl tgt lv st n h) (kf : ¬ (x < y) → AW K Q cs sl pc2 lv st n h) : AW K Q cs sl pc lv (.int y :: .int x :: st) n h := by
  obtain ⟨p, l, e, R, s, m, args, below, meth, c, D, B, ac⟩ := K
  obtain ⟨hx, hb, hml, hown, hr, hnm, hlk, hRm, hE⟩ := hk
  subst hp
  intro H locs ls hh hS hl
  exact lv_icmp_lt hx hb hd ht (fun q => kt q H locs ls hh hS hl) (fun q => kf q H locs ls hh hS hl)
theorem aw_icmp_ge (hk : OK K y0 cc nL rt rm) {x y : Int32} {off : Int} {tgt : Nat} (hd : decode cc pc = .ok (.if_icmp .ge off, 3)) (ht : (pc : Int) + off = (tgt : Int)) (hp : pc + 3 = pc2) (kt : y ≤ x → AW K Q cs sl tgt lv st n h) (kf : ¬ (y ≤ x) → AW K Q cs sl pc2 lv st n h) : AW K Q cs sl pc lv (.int y :: .int x :: st) n h := by
  obtain ⟨p, l, e, R, s, m, args, below, meth, c, D, B, ac⟩ := K
  obtain ⟨hx, hb, hml, hown, hr, hnm, hlk, hRm, hE⟩ := hk
  subst hp
  intro H locs ls hh hS hl
  exact lv_icmp_ge hx hb hd ht (fun q => kt q H locs ls hh hS hl) (fun q => kf q H locs ls hh hS hl)
theorem aw_icmp_gt (hk : OK K y0 cc nL rt rm) {x y : Int32} {off : Int} {tgt : Nat} (hd : decode cc pc = .ok (.if_icmp .gt off, 3)) (ht : (pc : Int) + off = (tgt : Int)) (hp : pc + 3 = pc2) (kt : y < x → AW K Q cs sl tgt lv st n h) (kf : ¬ (y < x) → AW K Q cs sl pc2 lv st n h) : AW K Q cs sl pc lv (.int y :: .int x :: st) n h := by
  obtain ⟨p, l, e, R, s, m, args, below, meth, c, D, B, ac⟩ := K
  obtain ⟨hx, hb, hml, hown, hr, hnm, hlk, hRm, hE⟩ := hk
  subst hp
  intro H locs ls hh hS hl
  exact lv_icmp_gt hx hb hd ht (fun q => kt q H locs ls hh hS hl) (fun q => kf q H locs ls hh hS hl)
theorem aw_icmp_le (hk : OK K y0 cc nL rt rm) {x y : Int32} {off : Int} {tgt : Nat} (hd : decode cc pc = .ok (.if_icmp .le off, 3)) (ht : (pc : Int) + off = (tgt : Int)) (hp : pc + 3 = pc2) (kt : x ≤ y → AW K Q cs sl tgt lv st n h) (kf : ¬ (x ≤ y) → AW K Q cs sl pc2 lv st n h) : AW K Q cs sl pc lv (.int y :: .int x :: st) n h := by
  obtain ⟨p, l, e, R, s, m, args, below, meth, c, D, B, ac⟩ := K
  obtain ⟨hx, hb, hml, hown, hr, hnm, hlk, hRm, hE⟩ := hk
  subst hp
  intro H locs ls hh hS hl
  exact lv_icmp_le hx hb hd ht (fun q => kt q H locs ls hh hS hl) (fun q => kf q H locs ls hh hS hl)
theorem aw_goto (hk : OK K y0 cc nL rt rm) {off : Int} {tgt : Nat} (hd : decode cc pc = .ok (.goto off, 3)) (ht : (pc : Int) + off = (tgt : Int)) (kk : AW K Q cs sl tgt lv st n h) : AW K Q cs sl pc lv st n h := by
  obtain ⟨p, l, e, R, s, m, args, below, meth, c, D, B, ac⟩ := K
  obtain ⟨hx, hb, hml, hown, hr, hnm, hlk, hRm, hE⟩ := hk
  intro H locs ls hh hS hl
  exact lv_goto hx hb hd ht (kk H locs ls hh hS hl)
theorem aw_ifnull_r (hk : OK K y0 cc nL rt rm) {x : Nat} {off : Int} (hd : decode cc pc = .ok (.ifnull off, 3)) (hp : pc + 3 = pc2) (kk : AW K Q cs sl pc2 lv st n h) : AW K Q cs sl pc lv (.ref x :: st) n h := by
  obtain ⟨p, l, e, R, s, m, args, below, meth, c, D, B, ac⟩ := K
  obtain ⟨hx, hb, hml, hown, hr, hnm, hlk, hRm, hE⟩ := hk
  subst hp
  intro H locs ls hh hS hl
  exact lv_ifnull hx hb hd (kk H locs ls hh hS hl)
theorem aw_ifnull_n (hk : OK K y0 cc nL rt rm) {off : Int} {tgt : Nat} (hd : decode cc pc = .ok (.ifnull off, 3)) (ht : (pc : Int) + off = (tgt : Int)) (kk : AW K Q cs sl tgt lv st n h) : AW K Q cs sl pc lv (.null :: st) n h := by
  obtain ⟨p, l, e, R, s, m, args, below, meth, c, D, B, ac⟩ := K
  obtain ⟨hx, hb, hml, hown, hr, hnm, hlk, hRm, hE⟩ := hk
  intro H locs ls hh hS hl
  exact lv_ifnullN hx hb hd ht (kk H locs ls hh hS hl)
theorem aw_ifnonnull_r (hk : OK K y0 cc nL rt rm) {x : Nat} {off : Int} {tgt : Nat} (hd : decode cc pc = .ok (.ifnonnull off, 3)) (ht : (pc : Int) + off = (tgt : Int)) (kk : AW K Q cs sl tgt lv st n h) : AW K Q cs sl pc lv (.ref x :: st) n h := by
  obtain ⟨p, l, e, R, s, m, args, below, meth, c, D, B, ac⟩ := K
  obtain ⟨hx, hb, hml, hown, hr, hnm, hlk, hRm, hE⟩ := hk
  intro H locs ls hh hS hl
  exact lv_ifnonnull hx hb hd ht (kk H locs ls hh hS hl)
theorem aw_ifnonnull_n (hk : OK K y0 cc nL rt rm) {off : Int} (hd : decode cc pc = .ok (.ifnonnull off, 3)) (hp : pc + 3 = pc2) (kk : AW K Q cs sl pc2 lv st n h) : AW K Q cs sl pc lv (.null :: st) n h := by
  obtain ⟨p, l, e, R, s, m, args, below, meth, c, D, B, ac⟩ := K
  obtain ⟨hx, hb, hml, hown, hr, hnm, hlk, hRm, hE⟩ := hk
  subst hp
  intro H locs ls hh hS hl
  exact lv_ifnonnullN hx hb hd (kk H locs ls hh hS hl)
theorem aw_tableIn (hk : OK K y0 cc nL rt rm) {dflt lo hi : Int} {offs : Array Int} {len : Nat} {x : Int32} {off : Int} {tgt : Nat} (hd : decode cc pc = .ok (.tableswitch dflt lo hi offs, len)) (h1 : ¬ x.toInt < lo) (h2 : ¬ hi < x.toInt) (ho : offs[(x.toInt - lo).toNat]? = some off) (ht : (pc : Int) + off = (tgt : Int)) (kk : AW K Q cs sl tgt lv st n h) : AW K Q cs sl pc lv (.int x :: st) n h := by
  obtain ⟨p, l, e, R, s, m, args, below, meth, c, D, B, ac⟩ := K
  obtain ⟨hx, hb, hml, hown, hr, hnm, hlk, hRm, hE⟩ := hk
  intro H locs ls hh hS hl
  exact lv_tableIn hx hb hd h1 h2 ho ht (kk H locs ls hh hS hl)
theorem aw_tableOut (hk : OK K y0 cc nL rt rm) {dflt lo hi : Int} {offs : Array Int} {len : Nat} {x : Int32} {tgt : Nat} (hd : decode cc pc = .ok (.tableswitch dflt lo hi offs, len)) (h0 : x.toInt < lo ∨ hi < x.toInt) (ht : (pc : Int) + dflt = (tgt : Int)) (kk : AW K Q cs sl tgt lv st n h) : AW K Q cs sl pc lv (.int x :: st) n h := by
  obtain ⟨p, l, e, R, s, m, args, below, meth, c, D, B, ac⟩ := K
  obtain ⟨hx, hb, hml, hown, hr, hnm, hlk, hRm, hE⟩ := hk
  intro H locs ls hh hS hl
  exact lv_tableOut hx hb hd h0 ht (kk H locs ls hh hS hl)
theorem aw_sub {lv2 : List (Option Value)} (hs : ∀ (i : Nat) (v : Value), lv2[i]? = some (some v) → lv[i]? = some (some v)) (kk : AW K Q cs sl pc lv2 st n h) : AW K Q cs sl pc lv st n h := by
  obtain ⟨p, l, e, R, s, m, args, below, meth, c, D, B, ac⟩ := K
  intro H locs ls hh hS hl
  exact kk H locs ls hh hS ⟨hl.1, hl.2.1, fun i v hi => hl.2.2 i v (hs i v hi)⟩
theorem aw_widen {cs2 sl2 : Nat} (h1 : cs ≤ cs2) (h2 : sl ≤ sl2) (kk : AW K Q cs2 sl2 pc lv st n h) : AW K Q cs sl pc lv st n h := by
  obtain ⟨p, l, e, R, s, m, args, below, meth, c, D, B, ac⟩ := K
  intro H locs ls hh hS hl
  exact W.widen h1 h2 (kk H locs ls hh hS hl)
theorem aw_iret {v : Int32} (hk : OK K y0 cc nL (some .int) rm) (hd : decode cc pc = .ok (.ireturn, 1)) (h1 : cs ≤ rm.cells) (h2 : sl ≤ rm.slots) (hq : Q (some (.int v)) n h) : AW K Q cs sl pc lv [.int v] n h := by
  obtain ⟨p, l, e, R, s, m, args, below, meth, c, D, B, ac⟩ := K
  obtain ⟨hx, hb, hml, hown, hr, hnm, hlk, hRm, hE⟩ := hk
  intro H locs ls hh hS hl
  subst hRm
  refine W.widen h1 h2 ?_
  exact W.iret hx hb hr  (fun t ht hW => ⟨⟨some (.int v), n, h, rfl, hq, by rw [ht]; exact hh⟩, hS.F ht⟩) hS.2.2 hd hlk
theorem aw_zret {v : Int32} (hz : v = 0 ∨ v = 1) (hk : OK K y0 cc nL (some .boolean) rm) (hd : decode cc pc = .ok (.ireturn, 1)) (h1 : cs ≤ rm.cells) (h2 : sl ≤ rm.slots) (hq : Q (some (.int v)) n h) : AW K Q cs sl pc lv [.int v] n h := by
  obtain ⟨p, l, e, R, s, m, args, below, meth, c, D, B, ac⟩ := K
  obtain ⟨hx, hb, hml, hown, hr, hnm, hlk, hRm, hE⟩ := hk
  intro H locs ls hh hS hl
  subst hRm
  refine W.widen h1 h2 ?_
  exact W.zret hx hb hr (by rcases hz with rfl | rfl <;> rfl) (fun t ht hW => ⟨⟨some (.int v), n, h, rfl, hq, by rw [ht]; exact hh⟩, hS.F ht⟩) hS.2.2 hd hlk
theorem aw_lret {v : Int64} (hk : OK K y0 cc nL (some .long) rm) (hd : decode cc pc = .ok (.lreturn, 1)) (h1 : cs ≤ rm.cells) (h2 : sl ≤ rm.slots) (hq : Q (some (.long v)) n h) : AW K Q cs sl pc lv [.long v] n h := by
  obtain ⟨p, l, e, R, s, m, args, below, meth, c, D, B, ac⟩ := K
  obtain ⟨hx, hb, hml, hown, hr, hnm, hlk, hRm, hE⟩ := hk
  intro H locs ls hh hS hl
  subst hRm
  refine W.widen h1 h2 ?_
  exact W.lret hx hb hr  (fun t ht hW => ⟨⟨some (.long v), n, h, rfl, hq, by rw [ht]; exact hh⟩, hS.F ht⟩) hS.2.2 hd hlk
theorem aw_vret  (hk : OK K y0 cc nL none rm) (hd : decode cc pc = .ok (.return_, 1)) (h1 : cs ≤ rm.cells) (h2 : sl ≤ rm.slots) (hq : Q (none) n h) : AW K Q cs sl pc lv [] n h := by
  obtain ⟨p, l, e, R, s, m, args, below, meth, c, D, B, ac⟩ := K
  obtain ⟨hx, hb, hml, hown, hr, hnm, hlk, hRm, hE⟩ := hk
  intro H locs ls hh hS hl
  subst hRm
  refine W.widen h1 h2 ?_
  exact W.vret hx hb hr  (fun t ht hW => ⟨⟨none, n, h, rfl, hq, by rw [ht]; exact hh⟩, hS.F ht⟩) hS.2.2 hd hlk
theorem aw_aret {oc : String} {v : Nat} (hk : OK K y0 cc nL (some (.object oc)) rm) (hd : decode cc pc = .ok (.areturn, 1)) (h1 : cs ≤ rm.cells) (h2 : sl ≤ rm.slots) (hq : Q (some (.ref v)) n h) : AW K Q cs sl pc lv [.ref v] n h := by
  obtain ⟨p, l, e, R, s, m, args, below, meth, c, D, B, ac⟩ := K
  obtain ⟨hx, hb, hml, hown, hr, hnm, hlk, hRm, hE⟩ := hk
  intro H locs ls hh hS hl
  subst hRm
  refine W.widen h1 h2 ?_
  exact W.aret hx hb hr (Or.inl ⟨_, rfl⟩) (Or.inr ⟨_, rfl⟩) (fun t ht hW => ⟨⟨some (.ref v), n, h, rfl, hq, by rw [ht]; exact hh⟩, hS.F ht⟩) hS.2.2 hd hlk
theorem aw_aretN {oc : String} (hk : OK K y0 cc nL (some (.object oc)) rm) (hd : decode cc pc = .ok (.areturn, 1)) (h1 : cs ≤ rm.cells) (h2 : sl ≤ rm.slots) (hq : Q (some .null) n h) : AW K Q cs sl pc lv [.null] n h := by
  obtain ⟨p, l, e, R, s, m, args, below, meth, c, D, B, ac⟩ := K
  obtain ⟨hx, hb, hml, hown, hr, hnm, hlk, hRm, hE⟩ := hk
  intro H locs ls hh hS hl
  subst hRm
  refine W.widen h1 h2 ?_
  exact W.aret hx hb hr (Or.inl ⟨_, rfl⟩) (Or.inl rfl) (fun t ht hW => ⟨⟨some .null, n, h, rfl, hq, by rw [ht]; exact hh⟩, hS.F ht⟩) hS.2.2 hd hlk
end AWR
