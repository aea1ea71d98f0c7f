/-- what the rows need of a class: its number, its words, its fields' types, their names apart -/
def CK (ci : Nat) (C : String) (T : u_T) (N : Nat) (ty : Nat → FieldType) : Prop := vwCl[ci]? = some (C, T, N) ∧ (∀ w ∈ u_ws C T N, w ∈ w_tbl) ∧ (∀ k, k < N → parseFieldDescriptor (T k).2.2.1 = some (ty k)) ∧ ∀ a, a < N → ∀ b, b < N → a ≠ b → (T a).2.1 ≠ (T b).2.1
theorem vpV_tv (B : Nat) (fs : List Value) (j : Nat) : vp_V (fs.map (tv B)) j = tv B (vp_V fs j) := by
  unfold vp_V
  rw [List.getD_eq_getElem?_getD, List.getD_eq_getElem?_getD, List.getElem?_map]
  cases fs[j]? <;> rfl
theorem ta_i (B n : Nat) (f : Nat → Int32) : ta B (n, .inl f) = (n, .inl f) := rfl
theorem tv_rf (B : Nat) (o : Option Nat) : tv B (va_rf o) = va_rf (o.map (fun a => B + a)) := by cases o <;> rfl
section AWH
variable {K : CX} {Q : QT} {cs sl pc pc2 n : Nat} {lv : List (Option Value)} {st : List Value} {h : HP} {y0 : MethodName} {cc : ByteArray} {nL : Nat} {rt : Option FieldType} {rm : Room}
theorem aw_get (hk : OK K y0 cc nL rt rm) {ci a ix : Nat} {C : String} {T : u_T} {N : Nat} {ty : Nat → FieldType} (hc : CK ci C T N ty) (k : Nat) (hd : decode cc pc = .ok (.getfield ix, 3)) (hp : pc + 3 = pc2) (hlink : Cond.fieldLink y0.cls ix (T k).1 (T k).2.1 (T k).2.2.1 ∈ w_tbl) (hN : k < N) {fs : List Value} (ha : h a = some (.inr (ci, fs))) {v : Value} (hv : fs[k]? = some v) (kk : AW K Q cs sl pc2 lv (v :: st) n h) : AW K Q cs sl pc lv (.ref a :: st) n h := by
  obtain ⟨p, l, e, R, s, m, args, below, meth, c, D, B, ac⟩ := K
  obtain ⟨hx, hb, hml, hown, hr, hnm, hlk, hRm, hE⟩ := hk
  subst hp
  intro H locs ls hh hS hl
  exact va_get (D := D) (ci := ci) hx hb (hE.1 args) hc.2.1 hown hE.2.1 (hh.sing ha) 0 rfl hc.1 k hN (hE.1 args _ hlink) (fun _ h9 => h9) (vpV_map B fs k v hv) hd (kk H locs ls hh hS hl)
theorem aw_put (hk : OK K y0 cc nL rt rm) {ci a ix : Nat} {C : String} {T : u_T} {N : Nat} {ty : Nat → FieldType} (hc : CK ci C T N ty) (k : Nat) (hd : decode cc pc = .ok (.putfield ix, 3)) (hp : pc + 3 = pc2) (hlink : Cond.fieldLink y0.cls ix (T k).1 (T k).2.1 (T k).2.2.1 ∈ w_tbl) (hN : k < N) (hfin : (T k).2.2.2 = false) {fs : List Value} (ha : h a = some (.inr (ci, fs))) {v : Value} (hnar : ∀ B, narrow (ty k) (tv B v) = tv B v) (hfit : ∀ B, fits (ty k) (tv B v) = true) (hlen : k < fs.length) (kk : AW K Q cs sl pc2 lv st n (hset h a (.inr (ci, fs.set k v)))) : AW K Q cs sl pc lv (v :: .ref a :: st) n h := by
  obtain ⟨p, l, e, R, s, m, args, below, meth, c, D, B, ac⟩ := K
  obtain ⟨hx, hb, hml, hown, hr, hnm, hlk, hRm, hE⟩ := hk
  subst hp
  intro H locs ls hh hS hl
  have hts := hE.1 args
  have hK := hE.2.1
  have hap := va_apart (own := y0.cls) hts hc.2.1 ty hc.2.2.1 hc.2.2.2 hK hc.1
  obtain ⟨r0, h1, cell, q1, q2, q3, q4⟩ := (hh.2 a _ ha).2
  have hr0 : r0 = (C, T, N) := Option.some.inj (h1.symm.trans hc.1)
  subst hr0
  obtain ⟨hSl, hfc, kC, hkC, hkind⟩ := hK.1 ci _ hc.1
  obtain ⟨cf, kf, fi, f, hi, hsl⟩ := hSl k hN
  have hlay := hts _ (hc.2.1 _ (u_in_lay hN))
  unfold u_lay at hlay
  rw [if_neg (by rw [hfin]; decide)] at hlay
  have hst := (u_facts hfc hkC (u_lays hts hc.2.1 hN) hi).1
  have h6 := u_store hfc hkC hkind hlay hi (hc.2.2.1 k hN) (hnar B) (hfit B)
  refine W.putK hx hb (f := f) ⟨hown, hts _ hlink, ⟨_, _, _, hi⟩, hst⟩ (by rw [q2]; exact h6) q1 q3 (by rw [hsl]; exact k2_hasslot (q4 k hN)) rfl rfl hd fun H1 e1 e2 e3 => ?_
  rw [hsl] at e1 ⊢
  refine kk H1 _ ls (hh.set ha e2 ?_ e3) (hS.put e2 e3 (Nat.le_add_right B a)) hl
  refine ⟨_, hc.1, t_OB.to (V := updV (vp_V (fs.map (tv B))) k (tv B v)) ⟨_, e1, q2, q3, t_set q4 hap hN (tv B v)⟩ (fun j _ => ?_)⟩
  rw [vp_updV_set (by rw [List.length_map]; exact hlen), ← List.map_set]
theorem aw_putF (hk : OK K y0 cc nL rt rm) {ci a ix : Nat} {C : String} {T : u_T} {N : Nat} {ty : Nat → FieldType} (hc : CK ci C T N ty) (k : Nat) (hd : decode cc pc = .ok (.putfield ix, 3)) (hp : pc + 3 = pc2) (hlink : Cond.fieldLink y0.cls ix (T k).1 (T k).2.1 (T k).2.2.1 ∈ w_tbl) (hN : k < N) (hfin : (T k).2.2.2 = true) (hini : y0.name = "<init>") (hdecl : (T k).1 = y0.cls) {fs : List Value} (ha : h a = some (.inr (ci, fs))) {v : Value} (hnar : ∀ B, narrow (ty k) (tv B v) = tv B v) (hfit : ∀ B, fits (ty k) (tv B v) = true) (hlen : k < fs.length) (kk : AW K Q cs sl pc2 lv st n (hset h a (.inr (ci, fs.set k v)))) : AW K Q cs sl pc lv (v :: .ref a :: st) n h := by
  obtain ⟨p, l, e, R, s, m, args, below, meth, c, D, B, ac⟩ := K
  obtain ⟨hx, hb, hml, hown, hr, hnm, hlk, hRm, hE⟩ := hk
  subst hp
  intro H locs ls hh hS hl
  have hts := hE.1 args
  have hK := hE.2.1
  have hap := va_apart (own := y0.cls) hts hc.2.1 ty hc.2.2.1 hc.2.2.2 hK hc.1
  obtain ⟨r0, h1, cell, q1, q2, q3, q4⟩ := (hh.2 a _ ha).2
  have hr0 : r0 = (C, T, N) := Option.some.inj (h1.symm.trans hc.1)
  subst hr0
  obtain ⟨hSl, hfc, kC, hkC, hkind⟩ := hK.1 ci _ hc.1
  obtain ⟨cf, kf, fi, f, hi, hsl⟩ := hSl k hN
  have hlay := hts _ (hc.2.1 _ (u_in_lay hN))
  unfold u_lay at hlay
  rw [if_pos hfin] at hlay
  have hst := (u_facts hfc hkC (u_lays hts hc.2.1 hN) hi).1
  have hcf : m.cls = cf := by
    obtain ⟨_, _, c', _, _, _, -, -, hf', -, -, -, hown2, -⟩ := Cond.laysFinal_spec hlay
    have e1 : c' = cf := by have := hi.symm.trans hf'; simp at this; exact this.1.symm
    rw [hdecl] at hown2
    rw [← e1]; exact Option.some.inj (hown.symm.trans hown2)
  have h6 := u_fits hfc hkC hkind (Or.inr hlay) hi (hc.2.2.1 k hN) (hnar B) (hfit B)
  refine W.putFinK hx hb hown (hts _ hlink) hi hst hcf (hnm.trans hini) (by rw [q2]; exact h6) q1 q3 (by rw [hsl]; exact k2_hasslot (q4 k hN)) rfl rfl hd fun H1 e1 e2 e3 => ?_
  rw [hsl] at e1 ⊢
  refine kk H1 _ ls (hh.set ha e2 ?_ e3) (hS.put e2 e3 (Nat.le_add_right B a)) hl
  refine ⟨_, hc.1, t_OB.to (V := updV (vp_V (fs.map (tv B))) k (tv B v)) ⟨_, e1, q2, q3, t_set q4 hap hN (tv B v)⟩ (fun j _ => ?_)⟩
  rw [vp_updV_set (by rw [List.length_map]; exact hlen), ← List.map_set]
theorem aw_iald (hk : OK K y0 cc nL rt rm) {a N : Nat} {f : Nat → Int32} {i : Int32} (hd : decode cc pc = .ok (.iaload, 1)) (hp : pc + 1 = pc2) (ha : h a = some (.inl (0, N, .inl f))) (hin : vp_in i N) (kk : AW K Q cs sl pc2 lv (.int (f i.toNatClampNeg) :: st) n h) : AW K Q cs sl pc lv (.int i :: .ref a :: st) n h := by
  obtain ⟨p, l, e, R, s, m, args, below, meth, c, D, B, ac⟩ := K
  obtain ⟨hx, hb, hml, hown, hr, hnm, hlk, hRm, hE⟩ := hk
  subst hp
  intro H locs ls hh hS hl
  exact va_iald hx hb hE.2.1 (hh.sing ha) 0 0 rfl rfl hin hd (kk H locs ls hh hS hl)
theorem aw_ialdN (hk : OK K y0 cc nL rt rm) {a N j : Nat} {f : Nat → Int32} (hd : decode cc pc = .ok (.iaload, 1)) (hp : pc + 1 = pc2) (ha : h a = some (.inl (0, N, .inl f))) (hj : j < N) (hN : N < 2 ^ 31) (kk : AW K Q cs sl pc2 lv (.int (f j) :: st) n h) : AW K Q cs sl pc lv (.int (nI j) :: .ref a :: st) n h := by
  refine aw_iald hk hd hp ha (vp_in_nI hj hN) ?_
  rw [nI_clamp (by omega)]
  exact kk
theorem aw_zald (hk : OK K y0 cc nL rt rm) {a N : Nat} {f : Nat → Int32} {i : Int32} (hd : decode cc pc = .ok (.baload, 1)) (hp : pc + 1 = pc2) (ha : h a = some (.inl (2, N, .inl f))) (hin : vp_in i N) (kk : AW K Q cs sl pc2 lv (.int (f i.toNatClampNeg) :: st) n h) : AW K Q cs sl pc lv (.int i :: .ref a :: st) n h := by
  obtain ⟨p, l, e, R, s, m, args, below, meth, c, D, B, ac⟩ := K
  obtain ⟨hx, hb, hml, hown, hr, hnm, hlk, hRm, hE⟩ := hk
  subst hp
  intro H locs ls hh hS hl
  exact va_zald hx hb hE.2.1 (hh.sing ha) 0 2 rfl rfl hin hd (kk H locs ls hh hS hl)
theorem aw_zaldN (hk : OK K y0 cc nL rt rm) {a N j : Nat} {f : Nat → Int32} (hd : decode cc pc = .ok (.baload, 1)) (hp : pc + 1 = pc2) (ha : h a = some (.inl (2, N, .inl f))) (hj : j < N) (hN : N < 2 ^ 31) (kk : AW K Q cs sl pc2 lv (.int (f j) :: st) n h) : AW K Q cs sl pc lv (.int (nI j) :: .ref a :: st) n h := by
  refine aw_zald hk hd hp ha (vp_in_nI hj hN) ?_
  rw [nI_clamp (by omega)]
  exact kk
theorem aw_lald (hk : OK K y0 cc nL rt rm) {a N : Nat} {f : Nat → Int64} {i : Int32} (hd : decode cc pc = .ok (.laload, 1)) (hp : pc + 1 = pc2) (ha : h a = some (.inl (1, N, .inr (.inl f)))) (hin : vp_in i N) (kk : AW K Q cs sl pc2 lv (.long (f i.toNatClampNeg) :: st) n h) : AW K Q cs sl pc lv (.int i :: .ref a :: st) n h := by
  obtain ⟨p, l, e, R, s, m, args, below, meth, c, D, B, ac⟩ := K
  obtain ⟨hx, hb, hml, hown, hr, hnm, hlk, hRm, hE⟩ := hk
  subst hp
  intro H locs ls hh hS hl
  exact va_lald hx hb hE.2.1 (hh.sing ha) 0 1 rfl rfl hin hd (kk H locs ls hh hS hl)
theorem aw_laldN (hk : OK K y0 cc nL rt rm) {a N j : Nat} {f : Nat → Int64} (hd : decode cc pc = .ok (.laload, 1)) (hp : pc + 1 = pc2) (ha : h a = some (.inl (1, N, .inr (.inl f)))) (hj : j < N) (hN : N < 2 ^ 31) (kk : AW K Q cs sl pc2 lv (.long (f j) :: st) n h) : AW K Q cs sl pc lv (.int (nI j) :: .ref a :: st) n h := by
  refine aw_lald hk hd hp ha (vp_in_nI hj hN) ?_
  rw [nI_clamp (by omega)]
  exact kk
def isRA (t : Nat) : Prop := t = 3 ∨ t = 4 ∨ t = 5 ∨ t = 6
theorem aw_aald (hk : OK K y0 cc nL rt rm) {a N t : Nat} {f : Nat → Option Nat} {i : Int32} (ht : isRA t) (hd : decode cc pc = .ok (.aaload, 1)) (hp : pc + 1 = pc2) (ha : h a = some (.inl (t, N, .inr (.inr (.inr (.inr f)))))) (hin : vp_in i N) (kk : AW K Q cs sl pc2 lv (va_rf (f i.toNatClampNeg) :: st) n h) : AW K Q cs sl pc lv (.int i :: .ref a :: st) n h := by
  obtain ⟨p, l, e, R, s, m, args, below, meth, c, D, B, ac⟩ := K
  obtain ⟨hx, hb, hml, hown, hr, hnm, hlk, hRm, hE⟩ := hk
  subst hp
  intro H locs ls hh hS hl
  have k2 := kk H locs ls hh hS hl
  rw [List.map_cons, tv_rf] at k2
  rcases ht with rfl | rfl | rfl | rfl
  · exact va_aldq hx hb hE.2.1 (hh.sing ha) 0 3 rfl rfl hin hd k2
  · exact va_aldq hx hb hE.2.1 (hh.sing ha) 0 4 rfl rfl hin hd k2
  · exact va_aldq hx hb hE.2.1 (hh.sing ha) 0 5 rfl rfl hin hd k2
  · exact va_aldq hx hb hE.2.1 (hh.sing ha) 0 6 rfl rfl hin hd k2
theorem aw_aaldN (hk : OK K y0 cc nL rt rm) {a N t j : Nat} {f : Nat → Option Nat} (ht : isRA t) (hd : decode cc pc = .ok (.aaload, 1)) (hp : pc + 1 = pc2) (ha : h a = some (.inl (t, N, .inr (.inr (.inr (.inr f)))))) (hj : j < N) (hN : N < 2 ^ 31) {v : Value} (hv : va_rf (f j) = v) (kk : AW K Q cs sl pc2 lv (v :: st) n h) : AW K Q cs sl pc lv (.int (nI j) :: .ref a :: st) n h := by
  refine aw_aald hk ht hd hp ha (vp_in_nI hj hN) ?_
  rw [nI_clamp (by omega), hv]
  exact kk
theorem aw_iast (hk : OK K y0 cc nL rt rm) {a N : Nat} {f : Nat → Int32} {i : Int32} {x : Int32} (hd : decode cc pc = .ok (.iastore, 1)) (hp : pc + 1 = pc2) (ha : h a = some (.inl (0, N, .inl f))) (hin : vp_in i N) (kk : AW K Q cs sl pc2 lv st n (hset h a (.inl (0, N, .inl (upd f i.toNatClampNeg x))))) : AW K Q cs sl pc lv (.int x :: .int i :: .ref a :: st) n h := by
  obtain ⟨p, l, e, R, s, m, args, below, meth, c, D, B, ac⟩ := K
  obtain ⟨hx, hb, hml, hown, hr, hnm, hlk, hRm, hE⟩ := hk
  subst hp
  intro H locs ls hh hS hl
  refine W.iast hx hb (hh.2 a _ ha).2 ((hE.2.1.2 0 _ rfl).1 N (fun j => .int (f j))) (fun q => by cases q) (by show ¬ (i < 0 ∨ (arrV _ _ _).slots.size ≤ _); rw [arrV_size]; exact hin) rfl rfl hd fun H1 e1 z oq => ?_
  refine kk H1 _ ls (hh.set ha z ?_ oq) (hS.put z oq (Nat.le_add_right B a)) hl
  show H1[B + a]? = some (vp_cell (ac 0) (ta B (N, .inl (upd f i.toNatClampNeg x))))
  rw [e1]
  show some ((vp_cell (ac 0) (N, .inl f)).setSlot _ _) = some (vp_cell (ac 0) (N, .inl (upd f i.toNatClampNeg x)))
  rw [vp_cell_i, vp_cell_i, arrV_store]
  congr 2
  funext q
  by_cases hq : q = i.toNatClampNeg
  · subst hq
    simp [updV, upd]
    try rfl
  · simp [updV, upd, hq]
theorem aw_iastN (hk : OK K y0 cc nL rt rm) {a N j : Nat} {f : Nat → Int32} {x : Int32} (hd : decode cc pc = .ok (.iastore, 1)) (hp : pc + 1 = pc2) (ha : h a = some (.inl (0, N, .inl f))) (hj : j < N) (hN : N < 2 ^ 31) (kk : AW K Q cs sl pc2 lv st n (hset h a (.inl (0, N, .inl (upd f j x))))) : AW K Q cs sl pc lv (.int x :: .int (nI j) :: .ref a :: st) n h := by
  refine aw_iast hk hd hp ha (vp_in_nI hj hN) ?_
  rw [nI_clamp (by omega)]
  exact kk
theorem aw_zast (hk : OK K y0 cc nL rt rm) {a N : Nat} {f : Nat → Int32} {i : Int32} {x : Int32} (hd : decode cc pc = .ok (.bastore, 1)) (hp : pc + 1 = pc2) (ha : h a = some (.inl (2, N, .inl f))) (hin : vp_in i N) (kk : AW K Q cs sl pc2 lv st n (hset h a (.inl (2, N, .inl (upd f i.toNatClampNeg (vp_nar .boolean x)))))) : AW K Q cs sl pc lv (.int x :: .int i :: .ref a :: st) n h := by
  obtain ⟨p, l, e, R, s, m, args, below, meth, c, D, B, ac⟩ := K
  obtain ⟨hx, hb, hml, hown, hr, hnm, hlk, hRm, hE⟩ := hk
  subst hp
  intro H locs ls hh hS hl
  refine W.zast hx hb (hh.2 a _ ha).2 ((hE.2.1.2 2 _ rfl).1 N (fun j => .int (f j))) (fun q => by cases q) (by show ¬ (i < 0 ∨ (arrV _ _ _).slots.size ≤ _); rw [arrV_size]; exact hin) rfl rfl hd fun H1 e1 z oq => ?_
  refine kk H1 _ ls (hh.set ha z ?_ oq) (hS.put z oq (Nat.le_add_right B a)) hl
  show H1[B + a]? = some (vp_cell (ac 2) (ta B (N, .inl (upd f i.toNatClampNeg (vp_nar .boolean x)))))
  rw [e1]
  show some ((vp_cell (ac 2) (N, .inl f)).setSlot _ _) = some (vp_cell (ac 2) (N, .inl (upd f i.toNatClampNeg (vp_nar .boolean x))))
  rw [vp_cell_i, vp_cell_i, arrV_store]
  congr 2
  funext q
  by_cases hq : q = i.toNatClampNeg
  · subst hq
    simp [updV, upd, vp_nar]
    try rfl
  · simp [updV, upd, vp_nar, hq]
theorem aw_zastN (hk : OK K y0 cc nL rt rm) {a N j : Nat} {f : Nat → Int32} {x : Int32} (hd : decode cc pc = .ok (.bastore, 1)) (hp : pc + 1 = pc2) (ha : h a = some (.inl (2, N, .inl f))) (hj : j < N) (hN : N < 2 ^ 31) (kk : AW K Q cs sl pc2 lv st n (hset h a (.inl (2, N, .inl (upd f j (vp_nar .boolean x)))))) : AW K Q cs sl pc lv (.int x :: .int (nI j) :: .ref a :: st) n h := by
  refine aw_zast hk hd hp ha (vp_in_nI hj hN) ?_
  rw [nI_clamp (by omega)]
  exact kk
theorem aw_last (hk : OK K y0 cc nL rt rm) {a N : Nat} {f : Nat → Int64} {i : Int32} {x : Int64} (hd : decode cc pc = .ok (.lastore, 1)) (hp : pc + 1 = pc2) (ha : h a = some (.inl (1, N, .inr (.inl f)))) (hin : vp_in i N) (kk : AW K Q cs sl pc2 lv st n (hset h a (.inl (1, N, .inr (.inl (vp_updL f i.toNatClampNeg x)))))) : AW K Q cs sl pc lv (.long x :: .int i :: .ref a :: st) n h := by
  obtain ⟨p, l, e, R, s, m, args, below, meth, c, D, B, ac⟩ := K
  obtain ⟨hx, hb, hml, hown, hr, hnm, hlk, hRm, hE⟩ := hk
  subst hp
  intro H locs ls hh hS hl
  refine W.last hx hb (hh.2 a _ ha).2 ((hE.2.1.2 1 _ rfl).1 N (fun j => .long (f j))) (fun q => by cases q) (by show ¬ (i < 0 ∨ (arrV _ _ _).slots.size ≤ _); rw [arrV_size]; exact hin) rfl rfl hd fun H1 e1 z oq => ?_
  refine kk H1 _ ls (hh.set ha z ?_ oq) (hS.put z oq (Nat.le_add_right B a)) hl
  show H1[B + a]? = some (vp_cell (ac 1) (ta B (N, .inr (.inl (vp_updL f i.toNatClampNeg x)))))
  rw [e1]
  show some ((vp_cell (ac 1) (N, .inr (.inl f))).setSlot _ _) = some (vp_cell (ac 1) (N, .inr (.inl (vp_updL f i.toNatClampNeg x))))
  rw [vp_cell_l, vp_cell_l, arrV_store]
  congr 2
  funext q
  by_cases hq : q = i.toNatClampNeg
  · subst hq
    simp [updV, vp_updL]
    try rfl
  · simp [updV, vp_updL, hq]
theorem aw_lastN (hk : OK K y0 cc nL rt rm) {a N j : Nat} {f : Nat → Int64} {x : Int64} (hd : decode cc pc = .ok (.lastore, 1)) (hp : pc + 1 = pc2) (ha : h a = some (.inl (1, N, .inr (.inl f)))) (hj : j < N) (hN : N < 2 ^ 31) (kk : AW K Q cs sl pc2 lv st n (hset h a (.inl (1, N, .inr (.inl (vp_updL f j x)))))) : AW K Q cs sl pc lv (.long x :: .int (nI j) :: .ref a :: st) n h := by
  refine aw_last hk hd hp ha (vp_in_nI hj hN) ?_
  rw [nI_clamp (by omega)]
  exact kk
def raC (t : Nat) : Nat := match t with
  | 3 => 1
  | 4 => 4
  | 5 => 3
  | _ => 0
theorem aw_aast (hk : OK K y0 cc nL rt rm) {a N t v : Nat} {f : Nat → Option Nat} {i : Int32} (ht : isRA t) (hd : decode cc pc = .ok (.aastore, 1)) (hp : pc + 1 = pc2) (ha : h a = some (.inl (t, N, .inr (.inr (.inr (.inr f)))))) {vs : List Value} (hv : h v = some (.inr (raC t, vs))) (hin : vp_in i N) (kk : AW K Q cs sl pc2 lv st n (hset h a (.inl (t, N, .inr (.inr (.inr (.inr (va_up f i.toNatClampNeg (some v)))))))) ) : AW K Q cs sl pc lv (.ref v :: .int i :: .ref a :: st) n h := by
  obtain ⟨p, l, e, R, s, m, args, below, meth, c, D, B, ac⟩ := K
  obtain ⟨hx, hb, hml, hown, hr, hnm, hlk, hRm, hE⟩ := hk
  subst hp
  intro H locs ls hh hS hl
  have hlt : i.toNatClampNeg < N := Nat.not_le.mp fun q => hin (Or.inr q)
  have h0 : ¬ i < 0 := fun q => hin (Or.inl q)
  obtain ⟨r', hr', cellV, g1, g2, g3, -⟩ := (hh.2 v _ hv).2
  have hA : ∃ r : vw_C, vwCl[raC t]? = some r ∧ (tyl ac)[t]? = some (ac t, .object r.1) := by
    rcases ht with rfl | rfl | rfl | rfl <;> exact ⟨_, rfl, rfl⟩
  obtain ⟨r, hc, htt⟩ := hA
  have hcls := (hE.2.1.1 (raC t) r hc).2
  obtain ⟨kA, comp, k1, k2, k3, -⟩ := (hE.2.1.2 t _ htt).2
  have hcomp : comp = D.1 (raC t) := Option.some.inj (k3.symm.trans hcls.1)
  subst hcomp
  obtain ⟨kC, hkC, -⟩ := hcls.2
  refine W.aast hx hb (hh.2 a _ ha).2 (fun q h => by cases h) (fun h => by cases h) k1 k2 rfl hkC ⟨h0, by show _ < (arrV _ _ _).slots.size; rw [arrV_size]; exact hlt⟩ g1 (fun q h => by rw [g3] at h; cases h) (by rw [g2]; exact hkC) (by rw [g2]; exact va_assign hcls) rfl rfl hd fun H1 e1 z oq => ?_
  refine kk H1 _ ls (hh.set ha z ?_ oq) (hS.put z oq (Nat.le_add_right B a)) hl
  show H1[B + a]? = some (vp_cell (ac t) (ta B (N, .inr (.inr (.inr (.inr (va_up f i.toNatClampNeg (some v))))))))
  rw [e1]
  show some ((vp_cell (ac t) (N, .inr (.inr (.inr (.inr (fun j => (f j).map (fun a => B + a))))))).setSlot _ _) = some (vp_cell (ac t) (N, .inr (.inr (.inr (.inr (fun j => (va_up f i.toNatClampNeg (some v) j).map (fun a => B + a)))))))
  rw [vp_cell_q, vp_cell_q, arrV_store]
  congr 2
  funext q
  by_cases hq : q = i.toNatClampNeg
  · subst hq
    simp [updV, va_up, va_rf]
  · simp [updV, va_up, hq]
theorem aw_aastN (hk : OK K y0 cc nL rt rm) {a N t v j : Nat} {f : Nat → Option Nat} (ht : isRA t) (hd : decode cc pc = .ok (.aastore, 1)) (hp : pc + 1 = pc2) (ha : h a = some (.inl (t, N, .inr (.inr (.inr (.inr f)))))) {vs : List Value} (hv : h v = some (.inr (raC t, vs))) (hj : j < N) (hN : N < 2 ^ 31) (kk : AW K Q cs sl pc2 lv st n (hset h a (.inl (t, N, .inr (.inr (.inr (.inr (va_up f j (some v)))))))) ) : AW K Q cs sl pc lv (.ref v :: .int (nI j) :: .ref a :: st) n h := by
  refine aw_aast hk ht hd hp ha hv (vp_in_nI hj hN) ?_
  rw [nI_clamp (by omega)]
  exact kk
theorem aw_alen (hk : OK K y0 cc nL rt rm) {a N : Nat} {f : Nat → Int32} (hd : decode cc pc = .ok (.arraylength, 1)) (hp : pc + 1 = pc2) (ha : h a = some (.inl (0, N, .inl f))) (kk : AW K Q cs sl pc2 lv (.int (nI N) :: st) n h) : AW K Q cs sl pc lv (.ref a :: st) n h := by
  obtain ⟨p, l, e, R, s, m, args, below, meth, c, D, B, ac⟩ := K
  obtain ⟨hx, hb, hml, hown, hr, hnm, hlk, hRm, hE⟩ := hk
  subst hp
  intro H locs ls hh hS hl
  exact va_alen hx hb hE.2.1 (hh.sing ha) 0 0 rfl rfl rfl hd (kk H locs ls hh hS hl)
theorem aw_new (hk : OK K y0 cc nL rt rm) {ci ix : Nat} {C : String} {T : u_T} {N : Nat} {ty : Nat → FieldType} (hc : CK ci C T N ty) (fs : List Value) (hd : decode cc pc = .ok (.new ix, 3)) (hp : pc + 3 = pc2) (hl1 : Cond.classLink y0.cls ix C ∈ w_tbl) (hl2 : Cond.instantiable C N ∈ w_tbl) (hl3 : Cond.initialized C ∈ w_tbl) (hfs : ∀ j, j < N → defaultValue (ty j) = vp_V fs j) (hnr : ∀ B j, tv B (vp_V fs j) = vp_V fs j) (hcs : cs + 1 ≤ rm.cells) (hsl : sl + N ≤ rm.slots) (kk : AW K Q (cs + 1) (sl + N) pc2 lv (.ref n :: st) (n + 1) (hset h n (.inr (ci, fs)))) : AW K Q cs sl pc lv st n h := by
  obtain ⟨p, l, e, R, s, m, args, below, meth, c, D, B, ac⟩ := K
  obtain ⟨hx, hb, hml, hown, hr, hnm, hlk, hRm, hE⟩ := hk
  subst hp
  intro H locs ls hh hS hl
  subst hRm
  have hts := hE.1 args
  have hKn := hE.2.1.1 ci _ hc.1
  refine W.newcK hx hb hown (hts _ hl1) (hts _ hl2) (hts _ hl3) rfl hd hcs hsl hKn.2.1 hh.1 fun H1 kC hkC e1 z1 o1 => ?_
  refine kk H1 locs ls (hh.push (by rw [z1, hh.1]) ⟨_, hc.1, (u_born ty hts hc.2.1 hKn hkC e1 hc.2.2.1).to (fun j hj => ?_)⟩ (fun q hq => o1 q (by rw [← hh.1]; exact hq))) ⟨Nat.le_trans hS.1 (by rw [z1, hh.1]; omega), fun x h1 h2 => (o1 x (by have := hS.1; rw [hh.1] at this; omega)).trans (hS.2.1 x h1 h2), hS.2.2⟩ hl
  rw [hfs j hj, vpV_tv, hnr]
theorem aw_newi (hk : OK K y0 cc nL rt rm) {N : Nat} (hd : decode cc pc = .ok (.newarray .int, 2)) (hp : pc + 2 = pc2) (hcl : Cond.arrayClass .int ∈ w_tbl) (hN : N < 4096) (hcs : cs + 1 ≤ rm.cells) (hsl : sl + N ≤ rm.slots) (kk : AW K Q (cs + 1) (sl + N) pc2 lv (.ref n :: st) (n + 1) (hset h n (.inl (0, N, .inl (fun _ => 0))))) : AW K Q cs sl pc lv (.int (nI N) :: st) n h := by
  obtain ⟨p, l, e, R, s, m, args, below, meth, c, D, B, ac⟩ := K
  obtain ⟨hx, hb, hml, hown, hr, hnm, hlk, hRm, hE⟩ := hk
  subst hp
  intro H locs ls hh hS hl
  subst hRm
  have hts := hE.1 args
  refine va_newaK (atype := .int) hx hb (hts _ hcl) rfl hd rfl (nI_pos (by omega)) (nI_clamp (by omega)) (by show N * componentBytes .int ≤ _; simp [componentBytes]; omega) hcs hsl hh.1 fun H1 cA e1 z1 o1 hAr hNm => ?_
  have hcA : cA = ac 0 := by
    have := (hE.2.1.2 0 _ rfl).2
    exact Option.some.inj (hNm.symm.trans this)
  subst hcA
  exact kk H1 locs ls (hh.push (by rw [z1, hh.1]) e1 (fun q hq => o1 q (by rw [← hh.1]; exact hq))) ⟨Nat.le_trans hS.1 (by rw [z1, hh.1]; omega), fun x h1 h2 => (o1 x (by have := hS.1; rw [hh.1] at this; omega)).trans (hS.2.1 x h1 h2), hS.2.2⟩ hl
theorem aw_newl (hk : OK K y0 cc nL rt rm) {N : Nat} (hd : decode cc pc = .ok (.newarray .long, 2)) (hp : pc + 2 = pc2) (hcl : Cond.arrayClass .long ∈ w_tbl) (hN : N < 4096) (hcs : cs + 1 ≤ rm.cells) (hsl : sl + N ≤ rm.slots) (kk : AW K Q (cs + 1) (sl + N) pc2 lv (.ref n :: st) (n + 1) (hset h n (.inl (1, N, .inr (.inl (fun _ => 0)))))) : AW K Q cs sl pc lv (.int (nI N) :: st) n h := by
  obtain ⟨p, l, e, R, s, m, args, below, meth, c, D, B, ac⟩ := K
  obtain ⟨hx, hb, hml, hown, hr, hnm, hlk, hRm, hE⟩ := hk
  subst hp
  intro H locs ls hh hS hl
  subst hRm
  have hts := hE.1 args
  refine va_newaK (atype := .long) hx hb (hts _ hcl) rfl hd rfl (nI_pos (by omega)) (nI_clamp (by omega)) (by show N * componentBytes .long ≤ _; simp [componentBytes]; omega) hcs hsl hh.1 fun H1 cA e1 z1 o1 hAr hNm => ?_
  have hcA : cA = ac 1 := by
    have := (hE.2.1.2 1 _ rfl).2
    exact Option.some.inj (hNm.symm.trans this)
  subst hcA
  exact kk H1 locs ls (hh.push (by rw [z1, hh.1]) e1 (fun q hq => o1 q (by rw [← hh.1]; exact hq))) ⟨Nat.le_trans hS.1 (by rw [z1, hh.1]; omega), fun x h1 h2 => (o1 x (by have := hS.1; rw [hh.1] at this; omega)).trans (hS.2.1 x h1 h2), hS.2.2⟩ hl
theorem aw_newz (hk : OK K y0 cc nL rt rm) {N : Nat} (hd : decode cc pc = .ok (.newarray .boolean, 2)) (hp : pc + 2 = pc2) (hcl : Cond.arrayClass .boolean ∈ w_tbl) (hN : N < 4096) (hcs : cs + 1 ≤ rm.cells) (hsl : sl + N ≤ rm.slots) (kk : AW K Q (cs + 1) (sl + N) pc2 lv (.ref n :: st) (n + 1) (hset h n (.inl (2, N, .inl (fun _ => 0))))) : AW K Q cs sl pc lv (.int (nI N) :: st) n h := by
  obtain ⟨p, l, e, R, s, m, args, below, meth, c, D, B, ac⟩ := K
  obtain ⟨hx, hb, hml, hown, hr, hnm, hlk, hRm, hE⟩ := hk
  subst hp
  intro H locs ls hh hS hl
  subst hRm
  have hts := hE.1 args
  refine va_newaK (atype := .boolean) hx hb (hts _ hcl) rfl hd rfl (nI_pos (by omega)) (nI_clamp (by omega)) (by show N * componentBytes .boolean ≤ _; simp [componentBytes]; omega) hcs hsl hh.1 fun H1 cA e1 z1 o1 hAr hNm => ?_
  have hcA : cA = ac 2 := by
    have := (hE.2.1.2 2 _ rfl).2
    exact Option.some.inj (hNm.symm.trans this)
  subst hcA
  exact kk H1 locs ls (hh.push (by rw [z1, hh.1]) e1 (fun q hq => o1 q (by rw [← hh.1]; exact hq))) ⟨Nat.le_trans hS.1 (by rw [z1, hh.1]; omega), fun x h1 h2 => (o1 x (by have := hS.1; rw [hh.1] at this; omega)).trans (hS.2.1 x h1 h2), hS.2.2⟩ hl
theorem aw_newq (hk : OK K y0 cc nL rt rm) {N ix t : Nat} {C : String} (htt : ∀ ac, (tyl ac)[t]? = some (ac t, .object C)) (hd : decode cc pc = .ok (.anewarray ix, 3)) (hp : pc + 3 = pc2) (hl1 : Cond.classLink y0.cls ix C ∈ w_tbl) (hov : Cond.arrayOver (.object C) ∈ w_tbl) (hN : N < 4096) (hcs : cs + 1 ≤ rm.cells) (hsl : sl + N ≤ rm.slots) (kk : AW K Q (cs + 1) (sl + N) pc2 lv (.ref n :: st) (n + 1) (hset h n (.inl (t, N, .inr (.inr (.inr (.inr (fun _ => none)))))))) : AW K Q cs sl pc lv (.int (nI N) :: st) n h := by
  obtain ⟨p, l, e, R, s, m, args, below, meth, c, D, B, ac⟩ := K
  obtain ⟨hx, hb, hml, hown, hr, hnm, hlk, hRm, hE⟩ := hk
  subst hp
  intro H locs ls hh hS hl
  subst hRm
  have hts := hE.1 args
  have hcl0 : (nI N).toNatClampNeg = N := nI_clamp (by omega)
  refine W.anew hx hb hown (hts _ hl1) (hts _ hov) rfl hd rfl (nI_pos (by omega)) (by rw [hcl0]; omega) hcs (by rw [hcl0]; exact hsl) fun cA kA comp f1 f2 f3 f4 => ?_
  rw [hcl0]
  obtain ⟨kA', comp', g1, g2, g3, g4⟩ := (hE.2.1.2 t _ (htt ac)).2
  have hcA : cA = ac t := Option.some.inj (f1.symm.trans g4)
  subst hcA
  generalize hH1 : H.push ({ cls := ac t, slots := Array.replicate N .null, vm := .none } : Cell) = H1
  have z1 : H1.size = H.size + 1 := by rw [← hH1, Array.size_push]
  have e1 : H1[H.size]? = some (arrV (ac t) N (fun _ => .null)) := by rw [← hH1, Array.getElem?_push_size, ← arrV_new]
  have o1 : ∀ q : Nat, q < H.size → H1[q]? = H[q]? := fun q hq => by rw [← hH1, Array.getElem?_push, if_neg (Nat.ne_of_lt hq)]
  have k2 := kk H1 locs ls (hh.push z1 (by rw [hh.1] at e1; exact e1) o1) ⟨Nat.le_trans hS.1 (by rw [z1]; omega), fun x h1 h2 => (o1 x (Nat.lt_of_lt_of_le h1 hS.1)).trans (hS.2.1 x h1 h2), hS.2.2⟩ hl
  rw [hh.1]
  exact k2
theorem aw_objInit (hk : OK K y0 cc nL rt rm) {ix a : Nat} (hd : decode cc pc = .ok (.invokespecial ix, 3)) (hp : pc + 3 = pc2) (hl1 : Cond.methodLink y0.cls ix Lib.objectInit ∈ w_tbl) (hl2 : Cond.instanceMethod Lib.objectInit ∈ w_tbl) (hl3 : Cond.code Lib.objectInit ⟨#[0xb1]⟩ 1 none ∈ w_tbl) (hf : 1 ≤ rm.frames) (hlo : 12 ≤ rm.locals) (kk : AW K Q cs sl pc2 lv [] n h) : AW K Q cs sl pc lv [.ref a] n h := by
  obtain ⟨p, l, e, R, s, m, args, below, meth, c, D, B, ac⟩ := K
  obtain ⟨hx, hb, hml, hown, hr, hnm, hlk, hRm, hE⟩ := hk
  subst hp
  intro H locs ls hh hS hl
  subst hRm
  exact W.objInit hx hb hown (hE.1 args _ hl1) (hE.1 args _ hl2) (hE.1 args _ hl3) rfl hl.1 rfl hd hf (by show 2 * _ + 0 + 12 ≤ _; simpa [JFrame.monitorRoom] using hlo) (kk H locs ls hh hS hl)
theorem aw_rate (hk : OK K y0 cc nL rt rm) {ix j : Nat} {k : Fin 4} (hd : decode cc pc = .ok (.getstatic ix, 3)) (hd2 : decode cc (pc + 3) = .ok (.iload_n k, 1)) (hd3 : decode cc (pc + 3 + 1) = .ok (.iaload, 1)) (hp : pc + 3 + 1 + 1 = pc2) (hlink : Cond.fieldLink y0.cls ix "LandTaken" "MOST_RATE" "[I" ∈ w_tbl) (hv : lv[(k : Nat)]? = some (some (.int (nI j)))) (hj : j < 5) (kk : AW K Q cs sl pc2 lv (.int (xsR j) :: st) n h) : AW K Q cs sl pc lv st n h := by
  obtain ⟨p, l, e, R, s, m, args, below, meth, c, D, B, ac⟩ := K
  obtain ⟨hx, hb, hml, hown, hr, hnm, hlk, hRm, hE⟩ := hk
  subst hp
  intro H locs ls hh hS hl
  obtain ⟨b, hb1, hZ, hX⟩ := hE.2.2.2.1
  refine va_gets hx hb hZ hS hown (hE.1 args _ hlink) (fun _ h9 => h9) hd ?_
  refine lv_iload_n hx hb hd2 rfl (hl.2.2 _ _ hv) ?_
  refine va_sld hx hb hX (Nat.lt_of_lt_of_le hb1 hE.2.2.1) (by show ¬ B ≤ b; omega) hS (vp_in_nI hj (by decide)) hd3 ?_
  rw [nI_clamp (by omega)]
  exact kk H locs ls hh hS hl
theorem aw_stx (hk : OK K y0 cc nL rt rm) {ix j : Nat} {k : Fin 4} (hd : decode cc pc = .ok (.getstatic ix, 3)) (hd2 : decode cc (pc + 3) = .ok (.iload_n k, 1)) (hd3 : decode cc (pc + 3 + 1) = .ok (.iaload, 1)) (hp : pc + 3 + 1 + 1 = pc2) (hlink : Cond.fieldLinkNest y0.cls ix "LandTaken" "STEP_X" "[I" "LandTaken" ∈ w_tbl) (hv : lv[(k : Nat)]? = some (some (.int (nI j)))) (hj : j < 4) (kk : AW K Q cs sl pc2 lv (.int (xsX j) :: st) n h) : AW K Q cs sl pc lv st n h := by
  obtain ⟨p, l, e, R, s, m, args, below, meth, c, D, B, ac⟩ := K
  obtain ⟨hx, hb, hml, hown, hr, hnm, hlk, hRm, hE⟩ := hk
  subst hp
  intro H locs ls hh hS hl
  obtain ⟨b, hb1, hZ, hX⟩ := hE.2.2.2.2.1
  refine va_getsN hx hb hZ hS hown (hE.1 args _ hlink) (fun _ h9 => h9) hd ?_
  refine lv_iload_n hx hb hd2 rfl (hl.2.2 _ _ hv) ?_
  refine va_sld hx hb hX (Nat.lt_of_lt_of_le hb1 hE.2.2.1) (by show ¬ B ≤ b; omega) hS (vp_in_nI hj (by decide)) hd3 ?_
  rw [nI_clamp (by omega)]
  exact kk H locs ls hh hS hl
theorem aw_sty (hk : OK K y0 cc nL rt rm) {ix j : Nat} {k : Fin 4} (hd : decode cc pc = .ok (.getstatic ix, 3)) (hd2 : decode cc (pc + 3) = .ok (.iload_n k, 1)) (hd3 : decode cc (pc + 3 + 1) = .ok (.iaload, 1)) (hp : pc + 3 + 1 + 1 = pc2) (hlink : Cond.fieldLinkNest y0.cls ix "LandTaken" "STEP_Y" "[I" "LandTaken" ∈ w_tbl) (hv : lv[(k : Nat)]? = some (some (.int (nI j)))) (hj : j < 4) (kk : AW K Q cs sl pc2 lv (.int (xsY j) :: st) n h) : AW K Q cs sl pc lv st n h := by
  obtain ⟨p, l, e, R, s, m, args, below, meth, c, D, B, ac⟩ := K
  obtain ⟨hx, hb, hml, hown, hr, hnm, hlk, hRm, hE⟩ := hk
  subst hp
  intro H locs ls hh hS hl
  obtain ⟨b, hb1, hZ, hX⟩ := hE.2.2.2.2.2
  refine va_getsN hx hb hZ hS hown (hE.1 args _ hlink) (fun _ h9 => h9) hd ?_
  refine lv_iload_n hx hb hd2 rfl (hl.2.2 _ _ hv) ?_
  refine va_sld hx hb hX (Nat.lt_of_lt_of_le hb1 hE.2.2.1) (by show ¬ B ≤ b; omega) hS (vp_in_nI hj (by decide)) hd3 ?_
  rw [nI_clamp (by omega)]
  exact kk H locs ls hh hS hl
end AWH
/-- what a call needs of its callee, apart from the link -/
def CE (y : MethodName) (cc : ByteArray) (nL : Nat) (rt : Option FieldType) (na : Nat) : Prop := Cond.code y cc nL rt ∈ w_tbl ∧ Cond.initialized y.cls ∈ w_tbl ∧ (y.cls ≠ "java/lang/invoke/MethodHandle" ∧ y.cls ≠ "java/lang/invoke/VarHandle" ∧ (parseMethodDescriptor y.desc).map (fun d => d.parameters.length) = some na)
def fitR (rm2 rm : Room) (nL2 : Nat) : Prop := rm2.frames + 1 ≤ rm.frames ∧ 8 + (nL2 + 11) + rm2.locals ≤ rm.locals
theorem ce_ws {y : MethodName} {cc : ByteArray} {nL : Nat} {rt : Option FieldType} {na : Nat} (hc : CE y cc nL rt na) {s : State} (hE : TB s) : ∀ w ∈ [Cond.code y cc nL rt], ∀ (a' : Array Value) (U : State), s.WarmedH U.vm → w.before a' U = true := fun w hw a' U hW => TB.warm hW (hE #[]) a' w (by rw [List.mem_singleton.mp hw]; exact hc.1)
theorem ce_b {y : MethodName} {cc : ByteArray} {nL : Nat} {rt : Option FieldType} {na : Nat} (hc : CE y cc nL rt na) {s : State} (hE : TB s) {args : Array Value} {own : String} {ix : Nat} (hl : Cond.methodLink own ix y ∈ w_tbl) {rm rm2 : Room} (hf : fitR rm2 rm nL) : CallB rm s args own ix y cc nL rt [.code y cc nL rt] rm2 rm2.cells rm2.slots na := by
  refine ⟨rfl, rfl, hf.1, hf.2, ce_ws hc hE, List.mem_cons_self, hE args _ hc.1, hE args _ hc.2.1, ⟨hc.2.2.1, hc.2.2.2.1⟩, fun sig hg => ?_, hE args _ hl⟩
  have h2 := hc.2.2.2.2
  rw [hg] at h2
  exact (Option.some.inj h2).symm
theorem ce_n {y : MethodName} {cc : ByteArray} {nL : Nat} {rt : Option FieldType} {na : Nat} (hc : CE y cc nL rt na) {s : State} (hE : TB s) {args : Array Value} {own host : String} {ix : Nat} (hl : Cond.methodLinkNest own ix y host ∈ w_tbl) {rm rm2 : Room} (hf : fitR rm2 rm nL) : va_CN rm s args own ix y host cc nL rt [.code y cc nL rt] rm2 rm2.cells rm2.slots na := by
  refine ⟨⟨rfl, rfl, hf.1, hf.2, ce_ws hc hE, List.mem_cons_self⟩, hE args _ hc.1, hE args _ hc.2.1, ⟨hc.2.2.1, hc.2.2.2.1⟩, fun sig hg => ?_, hE args _ hl⟩
  have h2 := hc.2.2.2.2
  rw [hg] at h2
  exact (Option.some.inj h2).symm
theorem catL (B : Nat) : ∀ st : List Value, ((st.map (tv B)).map fun v => v.category).sum = (st.map fun v => v.category).sum := by
  intro st
  induction st with
  | nil => rfl
  | cons v st ih => simp only [List.map_cons, List.sum_cons, tv_cat, ih]
section AWC
variable {K : CX} {Q : QT} {cs sl pc pc2 n : Nat} {lv : List (Option Value)} {st : List Value} {h : HP} {y0 : MethodName} {cc : ByteArray} {nL : Nat} {rt : Option FieldType} {rm : Room}
/-- behind a call -/
theorem aw_back {p : Program} {l : Launch} {e : Env} {R : Room} {s : State} {m : MethodId} {args : Array Value} {below : List Frame} {meth : Method} {c : Code} {D : va_G} {B : Nat} {ac : Nat → ClassId} {H : Heap} {locs : List Loc} {ls : Array Slot} {g0 : List Value} {a : Array Value} {mc ms : Nat} (hS : va_S (fun q => B ≤ q) s.heap H locs) (hl : LV B c.maxLocals ls lv)
    (hrun : va_Run p l e R s m args below meth c H locs cs sl mc ms (F0 m pc ls g0) (st.map (tv B)) (QcA D B ac (fun r n2 h2 => AW (p, l, e, R, s, m, args, below, meth, c, D, B, ac) Q (cs + mc) (sl + ms) (pc + 3) lv (r.toList ++ st) n2 h2) a) (fun q => B ≤ q)) : W p l e R s m args below meth c H locs cs sl (MQ below (QcA D B ac Q) args s R.cells R.slots (fun q => B ≤ q)) (F0 m pc ls g0) := by
  intro T hT X
  obtain ⟨v, st0, t, T', L, h0, X', hL, e1, e2, ⟨⟨r, n2, h2, hv, hw, hr2⟩, hz, hkq⟩, stp⟩ := hrun T hT X
  rw [h0] at hz hkq
  have hS2 : va_S (fun q => B ≤ q) s.heap T'.heap (locs ++ L) := ⟨Nat.le_trans hS.1 (by rw [e1]; exact hz), fun q h1 h2 => by rw [e1, hkq q (Nat.lt_of_lt_of_le h1 hS.1) h2]; exact hS.2.1 q h1 h2, fun q hq => by
    rcases List.mem_append.mp hq with h | h
    · exact hS.2.2 q h
    · exact hL q h⟩
  obtain ⟨t2, a1, b1⟩ := hw T'.heap (locs ++ L) ls (by rw [e1]; exact hr2) hS2 hl T' rfl X'
  refine ⟨t2, stp t2 ?_, b1⟩
  have hv' : v = r.map (tv B) := by simpa using hv
  subst hv'
  have : (Option.map (tv B) r).toList ++ st.map (tv B) = (r.toList ++ st).map (tv B) := by cases r <;> simp
  rw [show ({ (F0 m pc ls g0) with pc := (F0 m pc ls g0).pc + 3, stack := (Option.map (tv B) r).toList ++ st.map (tv B) } : JFrame) = F0 m (pc + 3) ls ((r.toList ++ st).map (tv B)) by rw [← this]]
  exact a1
theorem aw_callV (hk : OK K y0 cc nL rt rm) {y : MethodName} {cc2 : ByteArray} {nL2 ix a ci na : Nat} {rt2 : Option FieldType} {rm2 : Room} (hc : CE y cc2 nL2 rt2 na) (hd : decode cc pc = .ok (.invokevirtual ix, 3)) (hp : pc + 3 = pc2) (hl1 : Cond.methodLink y0.cls ix y ∈ w_tbl) (hl2 : Cond.instanceMethod y ∈ w_tbl) (hl3 : Cond.selects y.cls y y ∈ w_tbl) (hf : fitR rm2 rm nL2) (As : List Value) (hna : As.length = na) (hcat : (st.map fun v => v.category).sum ≤ 8) (hcs : cs + rm2.cells ≤ rm.cells) (hsl : sl + rm2.slots ≤ rm.slots) {fs : List Value} (ha : h a = some (.inr (ci, fs))) {T : u_T} {N : Nat} (hci : vwCl[ci]? = some (y.cls, T, N)) (hC : Calls y cc2 nL2 rt2 rm2 (.ref a :: As) n h (fun r n2 h2 => AW K Q (cs + rm2.cells) (sl + rm2.slots) pc2 lv (r.toList ++ st) n2 h2)) {stk : List Value} (hstk : stk = As.reverse ++ .ref a :: st) : AW K Q cs sl pc lv stk n h := by
  obtain ⟨p, l, e, R, s, m, args, below, meth, c, D, B, ac⟩ := K
  obtain ⟨hx, hb, hml, hown, hr, hnm, hlk, hRm, hE⟩ := hk
  subst hp
  intro H locs ls hh hS hl
  subst hRm
  subst hstk
  refine aw_back (st := st) (mc := rm2.cells) (ms := rm2.slots) (a := (Value.ref (B + a) :: As.map (tv B)).toArray) hS hl ?_
  refine va_runV (As := As.map (tv B)) (rest := st.map (tv B)) (C := y.cls) ⟨hx, hb, rfl, hown, hE.1 args⟩ (hC l D B ac) ⟨ce_b hc hE.1 hl1 hf, hE.1 args _ hl2, hE.1 args _ hl3⟩ ⟨fun aa U g mk q => ⟨q.1, q.2.1, q.2.2.blind⟩, va_recv hE.2.1 (hh.sing ha) (ci := ci) (q0 := 0) hci rfl, fun U hU hW => ⟨rfl, by rw [hU]; exact hh, hE.to hW hU hS⟩⟩ rfl (by rw [List.length_map]; exact hna) hl.1 (by simp [tv]) (by rw [catL]; simpa [JFrame.monitorRoom] using hcat) hd ⟨hcs, hsl⟩
theorem aw_callS (hk : OK K y0 cc nL rt rm) {y : MethodName} {cc2 : ByteArray} {nL2 ix na : Nat} {rt2 : Option FieldType} {rm2 : Room} (hc : CE y cc2 nL2 rt2 na) (hd : decode cc pc = .ok (.invokestatic ix, 3)) (hp : pc + 3 = pc2) (hl1 : Cond.methodLink y0.cls ix y ∈ w_tbl) (hl2 : Cond.static y ∈ w_tbl) (hf : fitR rm2 rm nL2) (As : List Value) (hna : As.length = na) (hcat : (st.map fun v => v.category).sum ≤ 8) (hcs : cs + rm2.cells ≤ rm.cells) (hsl : sl + rm2.slots ≤ rm.slots) (hC : Calls y cc2 nL2 rt2 rm2 As n h (fun r n2 h2 => AW K Q (cs + rm2.cells) (sl + rm2.slots) pc2 lv (r.toList ++ st) n2 h2)) {stk : List Value} (hstk : stk = As.reverse ++ st) : AW K Q cs sl pc lv stk n h := by
  obtain ⟨p, l, e, R, s, m, args, below, meth, c, D, B, ac⟩ := K
  obtain ⟨hx, hb, hml, hown, hr, hnm, hlk, hRm, hE⟩ := hk
  subst hp
  intro H locs ls hh hS hl
  subst hRm
  subst hstk
  refine aw_back (st := st) (mc := rm2.cells) (ms := rm2.slots) (a := (As.map (tv B)).toArray) hS hl ?_
  refine va_runS (As := As.map (tv B)) (rest := st.map (tv B)) ⟨hx, hb, rfl, hown, hE.1 args⟩ (hC l D B ac) ⟨ce_b hc hE.1 hl1 hf, hE.1 args _ hl2⟩ ⟨fun aa U g mk q => ⟨q.1, q.2.1, q.2.2.blind⟩, fun U hU hW => ⟨rfl, by rw [hU]; exact hh, hE.to hW hU hS⟩⟩ rfl (by rw [List.length_map]; exact hna) hl.1 (by simp) (by rw [catL]; simpa [JFrame.monitorRoom] using hcat) hd ⟨hcs, hsl⟩
theorem aw_callI (hk : OK K y0 cc nL rt rm) {y : MethodName} {cc2 : ByteArray} {nL2 ix a na : Nat} {rm2 : Room} (hc : CE y cc2 nL2 none na) (hd : decode cc pc = .ok (.invokespecial ix, 3)) (hp : pc + 3 = pc2) (hl1 : Cond.methodLink y0.cls ix y ∈ w_tbl) (hl2 : Cond.instanceMethod y ∈ w_tbl) (hnm2 : y.name = "<init>") (hf : fitR rm2 rm nL2) (As : List Value) (hna : As.length = na) (hcat : (st.map fun v => v.category).sum ≤ 8) (hcs : cs + rm2.cells ≤ rm.cells) (hsl : sl + rm2.slots ≤ rm.slots) (hC : Calls y cc2 nL2 none rm2 (.ref a :: As) n h (fun r n2 h2 => AW K Q (cs + rm2.cells) (sl + rm2.slots) pc2 lv (r.toList ++ st) n2 h2)) {stk : List Value} (hstk : stk = As.reverse ++ .ref a :: st) : AW K Q cs sl pc lv stk n h := by
  obtain ⟨p, l, e, R, s, m, args, below, meth, c, D, B, ac⟩ := K
  obtain ⟨hx, hb, hml, hown, hr, hnm, hlk, hRm, hE⟩ := hk
  subst hp
  intro H locs ls hh hS hl
  subst hRm
  subst hstk
  refine aw_back (st := st) (mc := rm2.cells) (ms := rm2.slots) (a := (Value.ref (B + a) :: As.map (tv B)).toArray) hS hl ?_
  refine va_runI (As := As.map (tv B)) (rest := st.map (tv B)) ⟨hx, hb, rfl, hown, hE.1 args⟩ (hC l D B ac) ⟨ce_b hc hE.1 hl1 hf, hnm2, hE.1 args _ hl2⟩ ⟨fun aa U g mk q => ⟨q.1, q.2.1, q.2.2.blind⟩, fun U hU hW => ⟨rfl, by rw [hU]; exact hh, hE.to hW hU hS⟩⟩ rfl (by rw [List.length_map]; exact hna) hl.1 (by simp [tv]) (by rw [catL]; simpa [JFrame.monitorRoom] using hcat) hd ⟨hcs, hsl⟩
theorem aw_callIN (hk : OK K y0 cc nL rt rm) {y : MethodName} {cc2 : ByteArray} {nL2 ix a na : Nat} {rm2 : Room} {host : String} (hc : CE y cc2 nL2 none na) (hd : decode cc pc = .ok (.invokespecial ix, 3)) (hp : pc + 3 = pc2) (hl1 : Cond.methodLinkNest y0.cls ix y host ∈ w_tbl) (hl2 : Cond.instanceMethod y ∈ w_tbl) (hnm2 : y.name = "<init>") (hf : fitR rm2 rm nL2) (As : List Value) (hna : As.length = na) (hcat : (st.map fun v => v.category).sum ≤ 8) (hcs : cs + rm2.cells ≤ rm.cells) (hsl : sl + rm2.slots ≤ rm.slots) (hC : Calls y cc2 nL2 none rm2 (.ref a :: As) n h (fun r n2 h2 => AW K Q (cs + rm2.cells) (sl + rm2.slots) pc2 lv (r.toList ++ st) n2 h2)) {stk : List Value} (hstk : stk = As.reverse ++ .ref a :: st) : AW K Q cs sl pc lv stk n h := by
  obtain ⟨p, l, e, R, s, m, args, below, meth, c, D, B, ac⟩ := K
  obtain ⟨hx, hb, hml, hown, hr, hnm, hlk, hRm, hE⟩ := hk
  subst hp
  intro H locs ls hh hS hl
  subst hRm
  subst hstk
  refine aw_back (st := st) (mc := rm2.cells) (ms := rm2.slots) (a := (Value.ref (B + a) :: As.map (tv B)).toArray) hS hl ?_
  refine va_runIN (As := As.map (tv B)) (rest := st.map (tv B)) ⟨hx, hb, rfl, hown, hE.1 args⟩ (hC l D B ac) ⟨ce_n hc hE.1 hl1 hf, hnm2, hE.1 args _ hl2⟩ ⟨fun aa U g mk q => ⟨q.1, q.2.1, q.2.2.blind⟩, fun U hU hW => ⟨rfl, by rw [hU]; exact hh, hE.to hW hU hS⟩⟩ rfl (by rw [List.length_map]; exact hna) hl.1 (by simp [tv]) (by rw [catL]; simpa [JFrame.monitorRoom] using hcat) hd ⟨hcs, hsl⟩
end AWC
theorem Calls.of {y : MethodName} {cc : ByteArray} {nL : Nat} {rt : Option FieldType} {rm : Room} {av : List Value} {n : Nat} {h : HP} {Q : QT} (hy : plainName y.cls = true) (hav : (lg_sl av).length ≤ nL) (body : ∀ K : CX, OK K y cc nL rt rm → AW K Q 0 0 0 (padL nL (lvE av)) [] n h) : Calls y cc nL rt rm av n h Q := by
  intro l D B ac
  refine Met.ofW (cc := cc) (maxL := nL) (ret := rt) hy rfl ?_
  intro p e s m args below meth c s₁ X hml hv
  obtain ⟨rfl, hh, hE⟩ := hv
  have hOK : OK (p, l, e, rm, s, m, (av.map (tv B)).toArray, below, meth, c, D, B, ac) y cc nL rt rm := ⟨X.exec, X.bytes, hml, findClass_of_methodNamed X.named, X.returns, (name_of_methodNamed X.named X.method).1, X.notSynchronized, rfl, hE⟩
  have hlen : (lg_sl (av.map (tv B))).length ≤ nL := by
    have : ∀ l : List Value, (lg_sl (l.map (tv B))).length = (lg_sl l).length := by
      intro l
      induction l with
      | nil => rfl
      | cons v l ih =>
        have e1 : lg_sl ((v :: l).map (tv B)) = (if (tv B v).category = 2 then [Slot.val (tv B v), .second] else [.val (tv B v)]) ++ lg_sl (l.map (tv B)) := by simp [lg_sl]
        have e2 : lg_sl (v :: l) = (if v.category = 2 then [Slot.val v, .second] else [.val v]) ++ lg_sl l := by simp [lg_sl]
        rw [e1, e2, List.length_append, List.length_append, ih, tv_cat]
        split <;> rfl
    rw [this]; exact hav
  have hl := lv_entry (av.map (tv B)) (n := nL) hlen
  rw [lg_entry_eq]
  generalize (lg_sl (av.map (tv B)) ++ List.replicate (nL - (lg_sl (av.map (tv B))).length) Slot.unset).toArray = ls at hl ⊢
  have hLV : LV B c.maxLocals ls (padL nL (lvE av)) := ⟨by rw [hml]; exact hl.1, hl.2.1, fun i v hi => by
    have h1 := lvE_mem B av 0 i v (padL_get hi)
    rw [Nat.zero_add] at h1
    exact hl.2.2 _ h1⟩
  exact body _ hOK s.heap [] ls hh va_S.rf hLV
theorem Calls.to {y : MethodName} {cc : ByteArray} {nL : Nat} {rt : Option FieldType} {rm : Room} {av : List Value} {n n' : Nat} {h h' : HP} {Q : QT} (hn : n = n') (hh : h = h') (k : Calls y cc nL rt rm av n h Q) : Calls y cc nL rt rm av n' h' Q := by
  subst hn; subst hh; exact k

