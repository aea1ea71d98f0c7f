def R_law : String := "LandTakenLaw"
def lw_P (b : Addr) (xs : List Int32) (args : Array Value) (s : State) : Prop := args = #[.ref b] ∧ s.IntsAt b xs ∧ xs.length ≤ 2560 ∧ (Jvm.Cond.and given_1 narrow_1).before args s = true
def lw_Q (_ : Array Value) (s : State) (o : Outcome) (t : State) : Prop := o = .returned (some (.int 1)) ∧ Framed s o t [] 600000 7302250
def lw_Z (below : List Frame) (a : Array Value) (s : State) : State → Prop := fun t => ∃ o, t.status = .running ∧ Ended t below o ∧ lw_Q a s o t
/-- the law's own end, with 1 on the stack, nothing written that was there before, its room as the claim has it -/
theorem lw_ret {p : Program} {l : Launch} {e : Env} {s : State} {m : MethodId} {below : List Frame} {meth : Method} {c : Code} {b : Nat} (hx : p.tables.exec = Jvm.exec) (hb : c.code = code) (hr : meth.sig.returnType = ret) (hlocks : meth.locks = false) {pc : Nat} {H : Heap} {ls : Array Slot} (hdg : decode code pc = .ok (.ireturn, 1)) : W p l e room_1 s m #[Value.ref b] below meth c H [] 600000 7302250 (lw_Z below #[Value.ref b] s) (F0 m pc ls [.int 1]) := by
  intro T hT X
  obtain ⟨fs, hret, hrun, hended, hW, hframe⟩ := X.leave (v := some (.int 1)) (hlocks := hlocks) (fun h => by rw [hr] at h; cases h)
  have hmeth' : T.vm.method? m = some meth := X.method'
  refine ⟨T.setFrames fs, ?_, .returned (some (.int 1)), hrun, hended, rfl, ⟨_, rfl⟩, hW, hframe⟩
  jvm_step X.here [X.here.top, hx, hb, hdg, hmeth', hr, ret, narrow_b1]
  (try refine ⟨rfl, ?_⟩); (try refine ⟨rfl, ?_⟩)
  first | (intro acts; rw [hret _ acts rfl rfl rfl]) | rw [hret _ _ rfl rfl rfl]
  exact Steps.refl _
/-- what holds at the law's entry: the machine, the code, the tables' words (any of lw_tbl by 'hts w (by decide +kernel)'), the script of L ints xs at the cell b, what the Statement gives of the start (any of its parts by flat_of_before) -/
def lw_At (p : Program) (s : State) (m : MethodId) (meth : Method) (c : Code) (b L : Nat) (xs : Nat → Int32) : Prop :=
  p.tables.exec = Jvm.exec ∧ c.code = code ∧ meth.sig.returnType = ret ∧ c.maxLocals = 4 ∧ s.vm.findClass R_law = some m.cls ∧ (∀ w ∈ lw_tbl, w.before #[Value.ref b] s = true) ∧ va_X b L xs s s.heap ∧ b < s.heap.size ∧ meth.locks = false ∧ (Jvm.Cond.and given_1 narrow_1).before #[Value.ref b] s = true
theorem Calls.mono {y : MethodName} {cc : ByteArray} {nL : Nat} {rt : Option FieldType} {rm : Room} {av : List Value} {n : Nat} {h : HP} {Q Q' : QT} (k : Calls y cc nL rt rm av n h Q) (hq : ∀ r n2 h2, Q r n2 h2 → Q' r n2 h2) : Calls y cc nL rt rm av n h Q' := by
  intro l D B ac p e ha hc hk s m args below hf happ hP hK
  obtain ⟨n9, o, h1, h2, h3, ⟨⟨⟨r, n2, h9, e1, e2, e3⟩, h5⟩, h4⟩⟩ := k l D B ac p e ha hc hk s m args below hf happ hP hK
  exact ⟨n9, o, h1, h2, h3, ⟨⟨⟨r, n2, h9, e1, hq r n2 h9 e2, e3⟩, h5⟩, h4⟩⟩
/-- as AW, for the law itself: its local 0 is the script, below the base -/
def AZ (K : CX) (b cs sl pc : Nat) (lv : List (Option Value)) (st : List Value) (n : Nat) (h : HP) : Prop := match K with
  | (p, l, e, R, s, m, args, below, meth, c, D, B, ac) => ∀ (H : Heap) (locs : List Loc) (ls : Array Slot), hR D B ac n h H → va_S (fun q => B ≤ q) s.heap H locs → LV B c.maxLocals ls lv → ls[0]? = some (.val (.ref b)) → W p l e R s m args below meth c H locs cs sl (lw_Z below args s) (F0 m pc ls (st.map (tv B)))
def OKZ (K : CX) (y : MethodName) (cc : ByteArray) (nL : Nat) (rm : Room) : Prop := match K with
  | (p, l, e, R, s, m, args, below, meth, c, D, B, ac) => p.tables.exec = Jvm.exec ∧ c.code = cc ∧ c.maxLocals = nL ∧ s.vm.findClass y.cls = some m.cls ∧ meth.locks = false ∧ R = rm ∧ ENV D B ac s
def XZ (K : CX) (b L : Nat) (xs : Nat → Int32) : Prop := match K with
  | (p, l, e, R, s, m, args, below, meth, c, D, B, ac) => va_X b L xs s s.heap ∧ b < s.heap.size ∧ b < B ∧ B = s.heap.size ∧ args = #[Value.ref b] ∧ meth.sig.returnType = ret ∧ R = room_1 ∧ c.code = code ∧ p.tables.exec = Jvm.exec ∧ meth.locks = false
section AZR
variable {K : CX} {b cs sl pc pc2 n : Nat} {lv : List (Option Value)} {st : List Value} {h : HP} {y0 : MethodName} {cc : ByteArray} {nL : Nat} {rm : Room}
theorem az_iadd (hk : OKZ K y0 cc nL rm) {x y : Int32} (hd : decode cc pc = .ok (.iadd, 1)) (hp : pc + 1 = pc2)  (kk : AZ K b cs sl pc2 lv (.int (x + y) :: st) n h) : AZ K b cs sl pc lv (.int y :: .int x :: st) n h := by
  obtain ⟨p, l, e, R, s, m, args, below, meth, c, D, B, ac⟩ := K
  obtain ⟨hx, hb, hml, hown, hlk, hRm, hE⟩ := hk
  subst hp
  intro H locs ls hh hS hl hz0
  exact lv_iadd hx hb hd  (kk H locs ls hh hS hl hz0)
theorem az_isub (hk : OKZ K y0 cc nL rm) {x y : Int32} (hd : decode cc pc = .ok (.isub, 1)) (hp : pc + 1 = pc2)  (kk : AZ K b cs sl pc2 lv (.int (x - y) :: st) n h) : AZ K b cs sl pc lv (.int y :: .int x :: st) n h := by
  obtain ⟨p, l, e, R, s, m, args, below, meth, c, D, B, ac⟩ := K
  obtain ⟨hx, hb, hml, hown, hlk, hRm, hE⟩ := hk
  subst hp
  intro H locs ls hh hS hl hz0
  exact lv_isub hx hb hd  (kk H locs ls hh hS hl hz0)
theorem az_iand (hk : OKZ K y0 cc nL rm) {x y : Int32} (hd : decode cc pc = .ok (.iand, 1)) (hp : pc + 1 = pc2)  (kk : AZ K b cs sl pc2 lv (.int (x &&& y) :: st) n h) : AZ K b cs sl pc lv (.int y :: .int x :: st) n h := by
  obtain ⟨p, l, e, R, s, m, args, below, meth, c, D, B, ac⟩ := K
  obtain ⟨hx, hb, hml, hown, hlk, hRm, hE⟩ := hk
  subst hp
  intro H locs ls hh hS hl hz0
  exact lv_iand hx hb hd  (kk H locs ls hh hS hl hz0)
theorem az_i2l (hk : OKZ K y0 cc nL rm) {x : Int32} (hd : decode cc pc = .ok (.i2l, 1)) (hp : pc + 1 = pc2)  (kk : AZ K b cs sl pc2 lv (.long x.toInt64 :: st) n h) : AZ K b cs sl pc lv (.int x :: st) n h := by
  obtain ⟨p, l, e, R, s, m, args, below, meth, c, D, B, ac⟩ := K
  obtain ⟨hx, hb, hml, hown, hlk, hRm, hE⟩ := hk
  subst hp
  intro H locs ls hh hS hl hz0
  exact lv_i2l hx hb hd rfl (kk H locs ls hh hS hl hz0)
theorem az_lshl (hk : OKZ K y0 cc nL rm) {x : Int64} {y : Int32} (hd : decode cc pc = .ok (.lshl, 1)) (hp : pc + 1 = pc2)  (kk : AZ K b cs sl pc2 lv (.long (x <<< (y.toInt64 &&& 63)) :: st) n h) : AZ K b cs sl pc lv (.int y :: .long x :: st) n h := by
  obtain ⟨p, l, e, R, s, m, args, below, meth, c, D, B, ac⟩ := K
  obtain ⟨hx, hb, hml, hown, hlk, hRm, hE⟩ := hk
  subst hp
  intro H locs ls hh hS hl hz0
  exact lv_lshl hx hb hd rfl (kk H locs ls hh hS hl hz0)
theorem az_land (hk : OKZ K y0 cc nL rm) {x y : Int64} (hd : decode cc pc = .ok (.land, 1)) (hp : pc + 1 = pc2)  (kk : AZ K b cs sl pc2 lv (.long (x &&& y) :: st) n h) : AZ K b cs sl pc lv (.long y :: .long x :: st) n h := by
  obtain ⟨p, l, e, R, s, m, args, below, meth, c, D, B, ac⟩ := K
  obtain ⟨hx, hb, hml, hown, hlk, hRm, hE⟩ := hk
  subst hp
  intro H locs ls hh hS hl hz0
  exact lv_land hx hb hd  (kk H locs ls hh hS hl hz0)
theorem az_lor (hk : OKZ K y0 cc nL rm) {x y : Int64} (hd : decode cc pc = .ok (.lor, 1)) (hp : pc + 1 = pc2)  (kk : AZ K b cs sl pc2 lv (.long (x ||| y) :: st) n h) : AZ K b cs sl pc lv (.long y :: .long x :: st) n h := by
  obtain ⟨p, l, e, R, s, m, args, below, meth, c, D, B, ac⟩ := K
  obtain ⟨hx, hb, hml, hown, hlk, hRm, hE⟩ := hk
  subst hp
  intro H locs ls hh hS hl hz0
  exact lv_lor hx hb hd  (kk H locs ls hh hS hl hz0)
theorem az_lcmp (hk : OKZ K y0 cc nL rm) {x y : Int64} (hd : decode cc pc = .ok (.lcmp, 1)) (hp : pc + 1 = pc2)  (kk : AZ K b cs sl pc2 lv (.int (lg_cmp x y) :: st) n h) : AZ K b cs sl pc lv (.long y :: .long x :: st) n h := by
  obtain ⟨p, l, e, R, s, m, args, below, meth, c, D, B, ac⟩ := K
  obtain ⟨hx, hb, hml, hown, hlk, hRm, hE⟩ := hk
  subst hp
  intro H locs ls hh hS hl hz0
  exact W.lcmp hx hb hd  (kk H locs ls hh hS hl hz0)
theorem az_dup_r (hk : OKZ K y0 cc nL rm) {x : Nat} (hd : decode cc pc = .ok (.dup, 1)) (hp : pc + 1 = pc2)  (kk : AZ K b cs sl pc2 lv (.ref x :: .ref x :: st) n h) : AZ K b cs sl pc lv (.ref x :: st) n h := by
  obtain ⟨p, l, e, R, s, m, args, below, meth, c, D, B, ac⟩ := K
  obtain ⟨hx, hb, hml, hown, hlk, hRm, hE⟩ := hk
  subst hp
  intro H locs ls hh hS hl hz0
  exact lv_dup hx hb hd rfl (kk H locs ls hh hS hl hz0)
theorem az_iconst (hk : OKZ K y0 cc nL rm) {k : Int} {v : Int32} (hd : decode cc pc = .ok (.iconst k, 1)) (hp : pc + 1 = pc2) (hv : Int32.ofInt k = v) (kk : AZ K b cs sl pc2 lv (.int v :: st) n h) : AZ K b cs sl pc lv (st) n h := by
  obtain ⟨p, l, e, R, s, m, args, below, meth, c, D, B, ac⟩ := K
  obtain ⟨hx, hb, hml, hown, hlk, hRm, hE⟩ := hk
  subst hp
  intro H locs ls hh hS hl hz0
  exact lv_iconst hx hb hd hv (kk H locs ls hh hS hl hz0)
theorem az_bipush (hk : OKZ K y0 cc nL rm) {k : Int} {v : Int32} (hd : decode cc pc = .ok (.bipush k, 2)) (hp : pc + 2 = pc2) (hv : (Int8.ofInt k).toInt32 = v) (kk : AZ K b cs sl pc2 lv (.int v :: st) n h) : AZ K b cs sl pc lv (st) n h := by
  obtain ⟨p, l, e, R, s, m, args, below, meth, c, D, B, ac⟩ := K
  obtain ⟨hx, hb, hml, hown, hlk, hRm, hE⟩ := hk
  subst hp
  intro H locs ls hh hS hl hz0
  exact lv_bipush hx hb hd hv (kk H locs ls hh hS hl hz0)
theorem az_ldc2 (hk : OKZ K y0 cc nL rm) {ix : Nat} {v : Int64} (hd : decode cc pc = .ok (.ldc2_w ix, 3)) (hp : pc + 3 = pc2) (hc : Cond.constantLong y0.cls ix v ∈ w_tbl) (kk : AZ K b cs sl pc2 lv (.long v :: st) n h) : AZ K b cs sl pc lv st n h := by
  obtain ⟨p, l, e, R, s, m, args, below, meth, c, D, B, ac⟩ := K
  obtain ⟨hx, hb, hml, hown, hlk, hRm, hE⟩ := hk
  subst hp
  intro H locs ls hh hS hl hz0
  exact lv_ldc2 hx hb hown (hE.1 args _ hc) hd (kk H locs ls hh hS hl hz0)
theorem az_iload_n (hk : OKZ K y0 cc nL rm) {k : Fin 4} {x : Int32} (hd : decode cc pc = .ok (.iload_n k, 1)) (hp : pc + 1 = pc2) (hv : lv[(k : Nat)]? = some (some (.int x))) (kk : AZ K b cs sl pc2 lv (.int x :: st) n h) : AZ K b cs sl pc lv st n h := by
  obtain ⟨p, l, e, R, s, m, args, below, meth, c, D, B, ac⟩ := K
  obtain ⟨hx, hb, hml, hown, hlk, hRm, hE⟩ := hk
  subst hp
  intro H locs ls hh hS hl hz0
  exact lv_iload_n hx hb hd rfl (hl.2.2 _ _ hv) (kk H locs ls hh hS hl hz0)
theorem az_aload_n (hk : OKZ K y0 cc nL rm) {k : Fin 4} {x : Nat} (hd : decode cc pc = .ok (.aload_n k, 1)) (hp : pc + 1 = pc2) (hv : lv[(k : Nat)]? = some (some (.ref x))) (kk : AZ K b cs sl pc2 lv (.ref x :: st) n h) : AZ K b cs sl pc lv st n h := by
  obtain ⟨p, l, e, R, s, m, args, below, meth, c, D, B, ac⟩ := K
  obtain ⟨hx, hb, hml, hown, hlk, hRm, hE⟩ := hk
  subst hp
  intro H locs ls hh hS hl hz0
  exact lv_aload_n hx hb hd rfl (hl.2.2 _ _ hv) (kk H locs ls hh hS hl hz0)
theorem az_if_eq (hk : OKZ K y0 cc nL rm) {x : Int32} {off : Int} {tgt : Nat} (hd : decode cc pc = .ok (.ifCond .eq off, 3)) (ht : (pc : Int) + off = (tgt : Int)) (hp : pc + 3 = pc2) (kt : x = 0 → AZ K b cs sl tgt lv st n h) (kf : ¬ (x = 0) → AZ K b cs sl pc2 lv st n h) : AZ K b cs sl pc lv (.int x :: st) n h := by
  obtain ⟨p, l, e, R, s, m, args, below, meth, c, D, B, ac⟩ := K
  obtain ⟨hx, hb, hml, hown, hlk, hRm, hE⟩ := hk
  subst hp
  intro H locs ls hh hS hl hz0
  exact lv_if_eq hx hb hd ht (fun q => kt q H locs ls hh hS hl hz0) (fun q => kf q H locs ls hh hS hl hz0)
theorem az_icmp_gt (hk : OKZ K y0 cc nL rm) {x y : Int32} {off : Int} {tgt : Nat} (hd : decode cc pc = .ok (.if_icmp .gt off, 3)) (ht : (pc : Int) + off = (tgt : Int)) (hp : pc + 3 = pc2) (kt : y < x → AZ K b cs sl tgt lv st n h) (kf : ¬ (y < x) → AZ K b cs sl pc2 lv st n h) : AZ K b cs sl pc lv (.int y :: .int x :: st) n h := by
  obtain ⟨p, l, e, R, s, m, args, below, meth, c, D, B, ac⟩ := K
  obtain ⟨hx, hb, hml, hown, hlk, hRm, hE⟩ := hk
  subst hp
  intro H locs ls hh hS hl hz0
  exact lv_icmp_gt hx hb hd ht (fun q => kt q H locs ls hh hS hl hz0) (fun q => kf q H locs ls hh hS hl hz0)
theorem az_icmp_eq (hk : OKZ K y0 cc nL rm) {x y : Int32} {off : Int} {tgt : Nat} (hd : decode cc pc = .ok (.if_icmp .eq off, 3)) (ht : (pc : Int) + off = (tgt : Int)) (hp : pc + 3 = pc2) (kt : x = y → AZ K b cs sl tgt lv st n h) (kf : ¬ (x = y) → AZ K b cs sl pc2 lv st n h) : AZ K b cs sl pc lv (.int y :: .int x :: st) n h := by
  obtain ⟨p, l, e, R, s, m, args, below, meth, c, D, B, ac⟩ := K
  obtain ⟨hx, hb, hml, hown, hlk, hRm, hE⟩ := hk
  subst hp
  intro H locs ls hh hS hl hz0
  exact lv_icmp_eq hx hb hd ht (fun q => kt q H locs ls hh hS hl hz0) (fun q => kf q H locs ls hh hS hl hz0)
theorem az_goto (hk : OKZ K y0 cc nL rm) {off : Int} {tgt : Nat} (hd : decode cc pc = .ok (.goto off, 3)) (ht : (pc : Int) + off = (tgt : Int)) (kk : AZ K b cs sl tgt lv st n h) : AZ K b cs sl pc lv st n h := by
  obtain ⟨p, l, e, R, s, m, args, below, meth, c, D, B, ac⟩ := K
  obtain ⟨hx, hb, hml, hown, hlk, hRm, hE⟩ := hk
  intro H locs ls hh hS hl hz0
  exact lv_goto hx hb hd ht (kk H locs ls hh hS hl hz0)
theorem az_tableIn (hk : OKZ K y0 cc nL rm) {dflt lo hi : Int} {offs : Array Int} {len : Nat} {x : Int32} {off : Int} {tgt : Nat} (hd : decode cc pc = .ok (.tableswitch dflt lo hi offs, len)) (h1 : ¬ x.toInt < lo) (h2 : ¬ hi < x.toInt) (ho : offs[(x.toInt - lo).toNat]? = some off) (ht : (pc : Int) + off = (tgt : Int)) (kk : AZ K b cs sl tgt lv st n h) : AZ K b cs sl pc lv (.int x :: st) n h := by
  obtain ⟨p, l, e, R, s, m, args, below, meth, c, D, B, ac⟩ := K
  obtain ⟨hx, hb, hml, hown, hlk, hRm, hE⟩ := hk
  intro H locs ls hh hS hl hz0
  exact lv_tableIn hx hb hd h1 h2 ho ht (kk H locs ls hh hS hl hz0)
theorem az_tableOut (hk : OKZ K y0 cc nL rm) {dflt lo hi : Int} {offs : Array Int} {len : Nat} {x : Int32} {tgt : Nat} (hd : decode cc pc = .ok (.tableswitch dflt lo hi offs, len)) (h0 : x.toInt < lo ∨ hi < x.toInt) (ht : (pc : Int) + dflt = (tgt : Int)) (kk : AZ K b cs sl tgt lv st n h) : AZ K b cs sl pc lv (.int x :: st) n h := by
  obtain ⟨p, l, e, R, s, m, args, below, meth, c, D, B, ac⟩ := K
  obtain ⟨hx, hb, hml, hown, hlk, hRm, hE⟩ := hk
  intro H locs ls hh hS hl hz0
  exact lv_tableOut hx hb hd h0 ht (kk H locs ls hh hS hl hz0)
theorem az_widen {cs2 sl2 : Nat} (h1 : cs ≤ cs2) (h2 : sl ≤ sl2) (kk : AZ K b cs2 sl2 pc lv st n h) : AZ K b cs sl pc lv st n h := by
  obtain ⟨p, l, e, R, s, m, args, below, meth, c, D, B, ac⟩ := K
  intro H locs ls hh hS hl hz0
  exact W.widen h1 h2 (kk H locs ls hh hS hl hz0)
theorem az_new (hk : OKZ K y0 cc nL rm) {ci ix : Nat} {C : String} {T : u_T} {N : Nat} {ty : Nat → FieldType} (hc : CK ci C T N ty) (fs : List Value) (hd : decode cc pc = .ok (.new ix, 3)) (hp : pc + 3 = pc2) (hl1 : Cond.classLink y0.cls ix C ∈ w_tbl) (hl2 : Cond.instantiable C N ∈ w_tbl) (hl3 : Cond.initialized C ∈ w_tbl) (hfs : ∀ j, j < N → defaultValue (ty j) = vp_V fs j) (hnr : ∀ B j, tv B (vp_V fs j) = vp_V fs j) (hcs : cs + 1 ≤ rm.cells) (hsl : sl + N ≤ rm.slots) (kk : AZ K b (cs + 1) (sl + N) pc2 lv (.ref n :: st) (n + 1) (hset h n (.inr (ci, fs)))) : AZ K b cs sl pc lv st n h := by
  obtain ⟨p, l, e, R, s, m, args, below, meth, c, D, B, ac⟩ := K
  obtain ⟨hx, hb, hml, hown, hlk, hRm, hE⟩ := hk
  subst hp
  intro H locs ls hh hS hl hz0
  subst hRm
  have hts := hE.1 args
  have hKn := hE.2.1.1 ci _ hc.1
  refine W.newcK hx hb hown (hts _ hl1) (hts _ hl2) (hts _ hl3) rfl hd hcs hsl hKn.2.1 hh.1 fun H1 kC hkC e1 z1 o1 => ?_
  refine kk H1 locs ls (hh.push (by rw [z1, hh.1]) ⟨_, hc.1, (u_born ty hts hc.2.1 hKn hkC e1 hc.2.2.1).to (fun j hj => ?_)⟩ (fun q hq => o1 q (by rw [← hh.1]; exact hq))) ⟨Nat.le_trans hS.1 (by rw [z1, hh.1]; omega), fun x h1 h2 => (o1 x (by have := hS.1; rw [hh.1] at this; omega)).trans (hS.2.1 x h1 h2), hS.2.2⟩ hl hz0
  rw [hfs j hj, vpV_tv, hnr]
theorem q0_has {B nL : Nat} {ls : Array Slot} {lv : List (Option Value)} {b : Nat} (hl : LV B nL ls lv) (h0 : ls[0]? = some (.val (.ref b))) : lv_has ls nL ((0, .ref b) :: prs B lv) := ⟨hl.1, hl.2.1, fun q hq => by
  rcases List.mem_cons.mp hq with e | e
  · rw [e]; exact h0
  · exact hl.pairs.2.2 q e⟩
theorem q0_back {nL : Nat} {ls' : Array Slot} {b j : Nat} {v : Value} {l : List (Nat × Value)} {P : Nat × Value → Bool} (h : lv_has ls' nL ((j, v) :: ((0, .ref b) :: l).filter P)) : lv_has ls' nL ((j, v) :: l.filter P) := ⟨h.1, h.2.1, fun q hq => h.2.2 q (by
  rcases List.mem_cons.mp hq with e | e
  · rw [e]; exact List.mem_cons_self
  · exact List.mem_cons_of_mem _ (List.mem_filter.mpr ⟨List.mem_cons_of_mem _ (List.mem_filter.mp e).1, (List.mem_filter.mp e).2⟩))⟩
theorem q0_zero {nL : Nat} {ls' : Array Slot} {b j : Nat} {v : Value} {l : List (Nat × Value)} {P : Nat × Value → Bool} (h : lv_has ls' nL ((j, v) :: ((0, .ref b) :: l).filter P)) (hP : P (0, .ref b) = true) : ls'[0]? = some (.val (.ref b)) := h.2.2 (0, .ref b) (List.mem_cons_of_mem _ (List.mem_filter.mpr ⟨List.mem_cons_self, hP⟩))
theorem az_istore_n (hk : OKZ K y0 cc nL rm) {j : Fin 4} {x : Int32} (hd : decode cc pc = .ok (.istore_n j, 1)) (hp : pc + 1 = pc2) (hn : (j : Nat) < nL) (hP : (!((0 : Nat) == (j : Nat)) && !((0 : Nat) + 1 == (j : Nat) && (Value.ref b).category == 2)) = true) (kk : AZ K b cs sl pc2 (sv1 lv (j : Nat) (.int x)) st n h) : AZ K b cs sl pc lv (.int x :: st) n h := by
  obtain ⟨p, l, e, R, s, m, args, below, meth, c, D, B, ac⟩ := K
  obtain ⟨hx, hb, hml, hown, hlk, hRm, hE⟩ := hk
  subst hp
  intro H locs ls hh hS hl hz0
  subst hml
  exact lv_istore_n hx hb hd rfl (q0_has hl hz0) hn rfl (fun ls' hl' => kk H locs ls' hh hS (LV.st1 (v := .int x) (q0_back hl')) (q0_zero hl' hP))
theorem az_astore_n (hk : OKZ K y0 cc nL rm) {j : Fin 4} {x : Nat} (hd : decode cc pc = .ok (.astore_n j, 1)) (hp : pc + 1 = pc2) (hn : (j : Nat) < nL) (hP : (!((0 : Nat) == (j : Nat)) && !((0 : Nat) + 1 == (j : Nat) && (Value.ref b).category == 2)) = true) (kk : AZ K b cs sl pc2 (sv1 lv (j : Nat) (.ref x)) st n h) : AZ K b cs sl pc lv (.ref x :: st) n h := by
  obtain ⟨p, l, e, R, s, m, args, below, meth, c, D, B, ac⟩ := K
  obtain ⟨hx, hb, hml, hown, hlk, hRm, hE⟩ := hk
  subst hp
  intro H locs ls hh hS hl hz0
  subst hml
  exact lv_astore_n hx hb hd rfl (q0_has hl hz0) hn rfl (fun ls' hl' => kk H locs ls' hh hS (LV.st1 (v := .ref x) (q0_back hl')) (q0_zero hl' hP))
theorem az_iinc (hk : OKZ K y0 cc nL rm) {k : Nat} {i : Int} {x v : Int32} (hd : decode cc pc = .ok (.iinc k i, 3)) (hp : pc + 3 = pc2) (hx0 : lv[k]? = some (some (.int x))) (hv : x + Int32.ofInt i = v) (hn : k < nL) (hP : (!((0 : Nat) == k) && !((0 : Nat) + 1 == k && (Value.ref b).category == 2)) = true) (kk : AZ K b cs sl pc2 (sv1 lv k (.int v)) st n h) : AZ K b cs sl pc lv st n h := by
  obtain ⟨p, l, e, R, s, m, args, below, meth, c, D, B, ac⟩ := K
  obtain ⟨hx, hb, hml, hown, hlk, hRm, hE⟩ := hk
  subst hp
  intro H locs ls hh hS hl hz0
  subst hml
  obtain ⟨j, hj⟩ := List.getElem?_of_mem (List.mem_cons_of_mem (0, Value.ref b) (prs_mem (B := B) hx0))
  exact lv_iinc hx hb hd (q0_has hl hz0) hj hv hn rfl (fun ls' hl' => kk H locs ls' hh hS (LV.st1 (v := .int v) (q0_back hl')) (q0_zero hl' hP))
theorem az_lv (lv' : List (Option Value)) (e : lv = lv') (kk : AZ K b cs sl pc lv' st n h) : AZ K b cs sl pc lv st n h := e ▸ kk
theorem az_top {x : Int32} (y : Int32) (e : x = y) (kk : AZ K b cs sl pc lv (.int y :: st) n h) : AZ K b cs sl pc lv (.int x :: st) n h := e ▸ kk
theorem az_hp (h2 : HP) (e : h = h2) (kk : AZ K b cs sl pc lv st n h2) : AZ K b cs sl pc lv st n h := e ▸ kk
/-- the script's element i + k -/
theorem az_el (hk : OKZ K y0 cc nL rm) {L i k : Nat} {xs : Nat → Int32} (hX : XZ K b L xs) {kc : Int} (d0 : decode cc pc = .ok (.aload_n 0, 1)) (d1 : decode cc (pc + 1) = .ok (.iload_n 3, 1)) (d2 : decode cc (pc + 1 + 1) = .ok (.iconst kc, 1)) (d3 : decode cc (pc + 1 + 1 + 1) = .ok (.iadd, 1)) (d4 : decode cc (pc + 1 + 1 + 1 + 1) = .ok (.iaload, 1)) (hp : pc + 1 + 1 + 1 + 1 + 1 = pc2) (hkc : Int32.ofInt kc = nI k) (hv : lv[3]? = some (some (.int (nI i)))) (hi : i + k < L) (hL : L ≤ 2560) (kk : AZ K b cs sl pc2 lv (.int (xs (i + k)) :: st) n h) : AZ K b cs sl pc lv st n h := by
  obtain ⟨p, l, e, R, s, m, args, below, meth, c, D, B, ac⟩ := K
  obtain ⟨hx, hb, hml, hown, hlk, hRm, hE⟩ := hk
  obtain ⟨x1, x2, x3, -⟩ := hX
  subst hp
  intro H locs ls hh hS hl hz0
  refine lv_aload_n hx hb d0 rfl hz0 ?_
  refine lv_iload_n hx hb d1 rfl (hl.2.2 _ _ hv) ?_
  refine lv_iconst (v := nI k) hx hb d2 hkc ?_
  refine lv_iadd hx hb d3 ?_
  show W _ _ _ _ _ _ _ _ _ _ _ _ _ _ _ (F0 _ _ _ (.int (nI i + nI k) :: .ref b :: st.map (tv B)))
  rw [nI_add]
  refine va_sld hx hb x1 x2 (Nat.not_le.mpr x3) hS (nI_in hi (by omega)) d4 ?_
  rw [nI_clamp (by omega)]
  exact kk H locs ls hh hS hl hz0
theorem az_el0 (hk : OKZ K y0 cc nL rm) {L i : Nat} {xs : Nat → Int32} (hX : XZ K b L xs) (d0 : decode cc pc = .ok (.aload_n 0, 1)) (d1 : decode cc (pc + 1) = .ok (.iload_n 3, 1)) (d4 : decode cc (pc + 1 + 1) = .ok (.iaload, 1)) (hp : pc + 1 + 1 + 1 = pc2) (hv : lv[3]? = some (some (.int (nI i)))) (hi : i < L) (hL : L ≤ 2560) (kk : AZ K b cs sl pc2 lv (.int (xs i) :: st) n h) : AZ K b cs sl pc lv st n h := by
  obtain ⟨p, l, e, R, s, m, args, below, meth, c, D, B, ac⟩ := K
  obtain ⟨hx, hb, hml, hown, hlk, hRm, hE⟩ := hk
  obtain ⟨x1, x2, x3, -⟩ := hX
  subst hp
  intro H locs ls hh hS hl hz0
  refine lv_aload_n hx hb d0 rfl hz0 ?_
  refine lv_iload_n hx hb d1 rfl (hl.2.2 _ _ hv) ?_
  show W _ _ _ _ _ _ _ _ _ _ _ _ _ _ _ (F0 _ _ _ (.int (nI i) :: .ref b :: st.map (tv B)))
  refine va_sld hx hb x1 x2 (Nat.not_le.mpr x3) hS (nI_in hi (by omega)) d4 ?_
  rw [nI_clamp (by omega)]
  exact kk H locs ls hh hS hl hz0
theorem az_len (hk : OKZ K y0 cc nL rm) {L : Nat} {xs : Nat → Int32} (hX : XZ K b L xs) (d0 : decode cc pc = .ok (.aload_n 0, 1)) (d1 : decode cc (pc + 1) = .ok (.arraylength, 1)) (hp : pc + 1 + 1 = pc2) (kk : AZ K b cs sl pc2 lv (.int (nI L) :: st) n h) : AZ K b cs sl pc lv st n h := by
  obtain ⟨p, l, e, R, s, m, args, below, meth, c, D, B, ac⟩ := K
  obtain ⟨hx, hb, hml, hown, hlk, hRm, hE⟩ := hk
  obtain ⟨x1, x2, x3, -⟩ := hX
  subst hp
  intro H locs ls hh hS hl hz0
  refine lv_aload_n hx hb d0 rfl hz0 ?_
  exact va_slen hx hb x1 x2 (Nat.not_le.mpr x3) hS d1 (kk H locs ls hh hS hl hz0)
/-- x != 0, as javac writes it -/
theorem az_nz (hk : OKZ K y0 cc nL rm) {x : Int32} {off off2 : Int} {t1 t2 : Nat} (d0 : decode cc pc = .ok (.ifCond .eq off, 3)) (e0 : (pc : Int) + off = (t1 : Int)) (d1 : decode cc (pc + 3) = .ok (.iconst 1, 1)) (d2 : decode cc (pc + 3 + 1) = .ok (.goto off2, 3)) (e2 : ((pc + 3 + 1 : Nat) : Int) + off2 = (t2 : Int)) (d3 : decode cc t1 = .ok (.iconst 0, 1)) (e3 : t1 + 1 = t2) (kk : AZ K b cs sl t2 lv (.int (bi (decide (x ≠ 0))) :: st) n h) : AZ K b cs sl pc lv (.int x :: st) n h := by
  refine az_if_eq (pc2 := pc + 3) hk d0 e0 rfl (fun c => ?_) (fun c => ?_)
  · refine az_iconst (v := 0) (pc2 := t2) hk d3 e3 (by decide) ?_
    rw [show bi (decide (x ≠ 0)) = 0 by rw [decide_eq_false (fun h9 => h9 c)]; rfl] at kk
    exact kk
  · refine az_iconst (v := 1) (pc2 := pc + 3 + 1) hk d1 rfl (by decide) ?_
    refine az_goto hk d2 e2 ?_
    rw [show bi (decide (x ≠ 0)) = 1 by rw [decide_eq_true c]; rfl] at kk
    exact kk
theorem az_ret {L : Nat} {xs : Nat → Int32} (hX : XZ K b L xs) (hd : decode code pc = .ok (.ireturn, 1)) (h1 : cs ≤ 600000) (h2 : sl ≤ 7302250) : AZ K b cs sl pc lv [.int 1] n h := by
  obtain ⟨p, l, e, R, s, m, args, below, meth, c, D, B, ac⟩ := K
  obtain ⟨x1, x2, x3, rfl, rfl, x6, rfl, x8, x9, x10⟩ := hX
  intro H locs ls hh hS hl hz0
  refine va_forget (fun q hq => hS.2.2 q hq) ?_
  refine W.widen h1 h2 ?_
  exact lw_ret x9 x8 x6 x10 hd
theorem az_back {p : Program} {l : Launch} {e : Env} {R : Room} {s : State} {m : MethodId} {args : Array Value} {below : List Frame} {meth : Method} {c : Code} {D : va_G} {B : Nat} {ac : Nat → ClassId} {H : Heap} {locs : List Loc} {ls : Array Slot} {g0 : List Value} {a : Array Value} {mc ms : Nat} (hS : va_S (fun q => B ≤ q) s.heap H locs) (hl : LV B c.maxLocals ls lv) (hz0 : ls[0]? = some (.val (.ref b)))
    (hrun : va_Run p l e R s m args below meth c H locs cs sl mc ms (F0 m pc ls g0) (st.map (tv B)) (QcA D B ac (fun r n2 h2 => AZ (p, l, e, R, s, m, args, below, meth, c, D, B, ac) b (cs + mc) (sl + ms) (pc + 3) lv (r.toList ++ st) n2 h2) a) (fun q => B ≤ q)) : W p l e R s m args below meth c H locs cs sl (lw_Z below args s) (F0 m pc ls g0) := by
  intro T hT X
  obtain ⟨v, st0, t, T', L, h0, X', hL, e1, e2, ⟨⟨r, n2, h2, hv, hw, hr2⟩, hz, hkq⟩, stp⟩ := hrun T hT X
  rw [h0] at hz hkq
  have hS2 : va_S (fun q => B ≤ q) s.heap T'.heap (locs ++ L) := ⟨Nat.le_trans hS.1 (by rw [e1]; exact hz), fun q h1 h2 => by rw [e1, hkq q (Nat.lt_of_lt_of_le h1 hS.1) h2]; exact hS.2.1 q h1 h2, fun q hq => by
    rcases List.mem_append.mp hq with h | h
    · exact hS.2.2 q h
    · exact hL q h⟩
  obtain ⟨t2, a1, b1⟩ := hw T'.heap (locs ++ L) ls (by rw [e1]; exact hr2) hS2 hl hz0 T' rfl X'
  refine ⟨t2, stp t2 ?_, b1⟩
  have hv' : v = r.map (tv B) := by simpa using hv
  subst hv'
  have : (Option.map (tv B) r).toList ++ st.map (tv B) = (r.toList ++ st).map (tv B) := by cases r <;> simp
  rw [show ({ (F0 m pc ls g0) with pc := (F0 m pc ls g0).pc + 3, stack := (Option.map (tv B) r).toList ++ st.map (tv B) } : JFrame) = F0 m (pc + 3) ls ((r.toList ++ st).map (tv B)) by rw [← this]]
  exact a1
theorem az_callV (hk : OKZ K y0 cc nL rm) {y : MethodName} {cc2 : ByteArray} {nL2 ix a ci na : Nat} {rt2 : Option FieldType} {rm2 : Room} (hc : CE y cc2 nL2 rt2 na) (hd : decode cc pc = .ok (.invokevirtual ix, 3)) (hp : pc + 3 = pc2) (hl1 : Cond.methodLink y0.cls ix y ∈ w_tbl) (hl2 : Cond.instanceMethod y ∈ w_tbl) (hl3 : Cond.selects y.cls y y ∈ w_tbl) (hf : fitR rm2 rm nL2) (As : List Value) (hna : As.length = na) (hcat : (st.map fun v => v.category).sum ≤ 8) (hcs : cs + rm2.cells ≤ rm.cells) (hsl : sl + rm2.slots ≤ rm.slots) {fs : List Value} (ha : h a = some (.inr (ci, fs))) {T : u_T} {N : Nat} (hci : vwCl[ci]? = some (y.cls, T, N)) (hC : Calls y cc2 nL2 rt2 rm2 (.ref a :: As) n h (fun r n2 h2 => AZ K b (cs + rm2.cells) (sl + rm2.slots) pc2 lv (r.toList ++ st) n2 h2)) {stk : List Value} (hstk : stk = As.reverse ++ .ref a :: st) : AZ K b cs sl pc lv stk n h := by
  obtain ⟨p, l, e, R, s, m, args, below, meth, c, D, B, ac⟩ := K
  obtain ⟨hx, hb, hml, hown, hlk, hRm, hE⟩ := hk
  subst hp
  intro H locs ls hh hS hl hz0
  subst hRm
  subst hstk
  refine az_back (D := D) (ac := ac) (st := st) (mc := rm2.cells) (ms := rm2.slots) (a := (Value.ref (B + a) :: As.map (tv B)).toArray) hS hl hz0 ?_
  refine va_runV (As := As.map (tv B)) (rest := st.map (tv B)) (C := y.cls) ⟨hx, hb, rfl, hown, hE.1 args⟩ (hC l D B ac) ⟨ce_b hc hE.1 hl1 hf, hE.1 args _ hl2, hE.1 args _ hl3⟩ ⟨fun aa U g mk q => ⟨q.1, q.2.1, q.2.2.blind⟩, va_recv hE.2.1 (hh.sing ha) (ci := ci) (q0 := 0) hci rfl, fun U hU hW => ⟨rfl, by rw [hU]; exact hh, hE.to hW hU hS⟩⟩ rfl (by rw [List.length_map]; exact hna) hl.1 (by simp [tv]) (by rw [catL]; simpa [JFrame.monitorRoom] using hcat) hd ⟨hcs, hsl⟩
theorem az_callI (hk : OKZ K y0 cc nL rm) {y : MethodName} {cc2 : ByteArray} {nL2 ix a na : Nat} {rm2 : Room} (hc : CE y cc2 nL2 none na) (hd : decode cc pc = .ok (.invokespecial ix, 3)) (hp : pc + 3 = pc2) (hl1 : Cond.methodLink y0.cls ix y ∈ w_tbl) (hl2 : Cond.instanceMethod y ∈ w_tbl) (hnm2 : y.name = "<init>") (hf : fitR rm2 rm nL2) (As : List Value) (hna : As.length = na) (hcat : (st.map fun v => v.category).sum ≤ 8) (hcs : cs + rm2.cells ≤ rm.cells) (hsl : sl + rm2.slots ≤ rm.slots) (hC : Calls y cc2 nL2 none rm2 (.ref a :: As) n h (fun r n2 h2 => AZ K b (cs + rm2.cells) (sl + rm2.slots) pc2 lv (r.toList ++ st) n2 h2)) {stk : List Value} (hstk : stk = As.reverse ++ .ref a :: st) : AZ K b cs sl pc lv stk n h := by
  obtain ⟨p, l, e, R, s, m, args, below, meth, c, D, B, ac⟩ := K
  obtain ⟨hx, hb, hml, hown, hlk, hRm, hE⟩ := hk
  subst hp
  intro H locs ls hh hS hl hz0
  subst hRm
  subst hstk
  refine az_back (D := D) (ac := ac) (st := st) (mc := rm2.cells) (ms := rm2.slots) (a := (Value.ref (B + a) :: As.map (tv B)).toArray) hS hl hz0 ?_
  refine va_runI (As := As.map (tv B)) (rest := st.map (tv B)) ⟨hx, hb, rfl, hown, hE.1 args⟩ (hC l D B ac) ⟨ce_b hc hE.1 hl1 hf, hnm2, hE.1 args _ hl2⟩ ⟨fun aa U g mk q => ⟨q.1, q.2.1, q.2.2.blind⟩, fun U hU hW => ⟨rfl, by rw [hU]; exact hh, hE.to hW hU hS⟩⟩ rfl (by rw [List.length_map]; exact hna) hl.1 (by simp [tv]) (by rw [catL]; simpa [JFrame.monitorRoom] using hcat) hd ⟨hcs, hsl⟩
theorem az_cV (hk : OKZ K y0 cc nL rm) {y : MethodName} {cc2 : ByteArray} {nL2 ix a ci na : Nat} {rt2 : Option FieldType} {rm2 : Room} (hc : VE y cc2 nL2 rt2 na ci) (hd : decode cc pc = .ok (.invokevirtual ix, 3)) (hp : pc + 3 = pc2) (hl1 : Cond.methodLink y0.cls ix y ∈ w_tbl) (hf : fitR rm2 rm nL2) (As : List Value) (hna : As.length = na) {stk : List Value} (hstk : stk = As.reverse ++ .ref a :: st) (hcat : (st.map fun v => v.category).sum ≤ 8) (hcs : cs + rm2.cells ≤ rm.cells) (hsl : sl + rm2.slots ≤ rm.slots) {fs : List Value} (ha : h a = some (.inr (ci, fs))) (hC : Calls y cc2 nL2 rt2 rm2 (.ref a :: As) n h (fun r n2 h2 => AZ K b (cs + rm2.cells) (sl + rm2.slots) pc2 lv (r.toList ++ st) n2 h2)) : AZ K b cs sl pc lv stk n h := by
  obtain ⟨h1, h2, h3, T, N, h4⟩ := hc
  exact az_callV hk h1 hd hp hl1 h2 h3 hf As hna hcat hcs hsl ha h4 hC hstk
theorem az_cI (hk : OKZ K y0 cc nL rm) {y : MethodName} {cc2 : ByteArray} {nL2 ix a na : Nat} {rm2 : Room} (hc : IE y cc2 nL2 na) (hd : decode cc pc = .ok (.invokespecial ix, 3)) (hp : pc + 3 = pc2) (hl1 : Cond.methodLink y0.cls ix y ∈ w_tbl) (hf : fitR rm2 rm nL2) (As : List Value) (hna : As.length = na) {stk : List Value} (hstk : stk = As.reverse ++ .ref a :: st) (hcat : (st.map fun v => v.category).sum ≤ 8) (hcs : cs + rm2.cells ≤ rm.cells) (hsl : sl + rm2.slots ≤ rm.slots) (hC : Calls y cc2 nL2 none rm2 (.ref a :: As) n h (fun r n2 h2 => AZ K b (cs + rm2.cells) (sl + rm2.slots) pc2 lv (r.toList ++ st) n2 h2)) : AZ K b cs sl pc lv stk n h := az_callI hk hc.1 hd hp hl1 hc.2.1 hc.2.2 hf As hna hcat hcs hsl hC hstk
end AZR
theorem len_sz {args : Array Value} {s : State} {t : Term} {a : Addr} {cell : Cell} {v : Value} (ht : t.eval args s none [] s = some (.ref a)) (hc : s.arrayAt? a = some cell) (h : (Term.length t).eval args s none [] s = some v) : cell.slots.size < 2 ^ 31 := by
  simp only [Term.eval, Option.bind_eq_bind, ht, Option.bind_some, hc] at h
  by_cases hn : cell.slots.size < 2147483648
  · exact hn
  · simp [hn] at h
theorem SA_of {args : Array Value} {s : State} {f : String} {N : Nat} {xs : Nat → Int32} (hN : N < 2 ^ 31) (hl : (Cond.laysStatic "LandTaken" f "[I").before args s = true) (hini : (Cond.initialized "LandTaken").before args s = true) (harr : (Cond.arrayOf (.static "LandTaken" f "[I") .int).before args s = true) (hlen : (Cond.eq (.length (.static "LandTaken" f "[I")) (.int (Int32.ofNat N))).before args s = true) (hel : ∀ j, j < N → (Cond.eq (.elem (.static "LandTaken" f "[I") (.int (Int32.ofNat j))) (.int (xs j))).before args s = true) : SA f N xs s.heap.size s s.heap := by
  have hA : ∀ a : Nat, a < s.heap.size → ¬ (fun q : Nat => s.heap.size ≤ q) a := fun a ha => Nat.not_le.mpr ha
  obtain ⟨t, ht, cell, h1, h2, h3, h4, h5, h6, h7⟩ := va_Tof (A := fun q => s.heap.size ≤ q) (f := fun j => .int (xs j)) hN harr (va_eqt hlen) (fun j hj => va_eqt (hel j hj)) hA
  obtain ⟨t', cell', e1, e2, e3⟩ := Term.length_spec (va_eqt hlen)
  have e4 := len_sz e1 e2 (va_eqt hlen)
  obtain ⟨e5, -⟩ := State.arrayAt?_spec e2
  cases ht.symm.trans e1
  cases h1.symm.trans e5
  have hsz : cell.slots.size = N := (nI_eq (by omega) (by omega)).mp h5
  exact ⟨t, (Array.getElem?_eq_some_iff.mp h1).1, va_Zof hl hini ht hA, cell, h1, h2, h3, hsz, h6⟩
theorem arr_c {args : Array Value} {s : State} {ty : FieldType} (hty : ∀ C, ty ≠ .object C) (h : (Cond.arrayClass ty).before args s = true) : ∃ cA, ArrOfT s cA ty ∧ va_RA s cA ty := by
  obtain ⟨c, k, comp, h1, h2, h3⟩ := Cond.arrayClass_spec h
  refine ⟨c, fun n z => ⟨fun k h => (by cases h), k, h2, comp, h3⟩, ?_⟩
  cases ty with
  | object C => exact absurd rfl (hty C)
  | _ => exact h1
theorem arr_o {args : Array Value} {s : State} {C : String} (h : (Cond.arrayOver (.object C)).before args s = true) : ∃ cA, ArrOfT s cA (.object C) ∧ va_RA s cA (.object C) := by
  obtain ⟨comp, c, k, h1, h2, h3, h4, h5⟩ := Cond.arrayOver_spec h
  exact ⟨c, fun n z => ⟨fun k h => (by cases h), k, h3, comp, h4⟩, k, comp, h3, h4, h1, h5⟩
/-- what the law's start gives: the machine's words, the classes, the statics -/
theorem env_0 {p : Program} {s : State} {m : MethodId} {meth : Method} {c : Code} {b L : Nat} {xs : Nat → Int32} (C0 : lw_At p s m meth c b L xs) : ∃ D ac, ENV D s.heap.size ac s := by
  obtain ⟨hx, hb, hr, hml, hown, hts0, hX, hbl, hlocks, hgv⟩ := C0
  have hts : ∀ w ∈ w_tbl, w.before #[Value.ref b] s = true := fun w hw => hts0 w (List.mem_filter.mp hw).1
  have hTB : TB s := TB.warm (State.WarmedH.refl s) hts
  obtain ⟨c0, i0, k0⟩ := u_known (n := 16) hts ckX0.2.1 (hts _ in_X0)
  obtain ⟨c1, i1, k1⟩ := u_known (n := 5) hts ckX1.2.1 (hts _ in_X1)
  obtain ⟨c2, i2, k2⟩ := u_known (n := 7) hts ckX2.2.1 (hts _ in_X2)
  obtain ⟨c3, i3, k3⟩ := u_known (n := 4) hts ckX3.2.1 (hts _ in_X3)
  obtain ⟨c4, i4, k4⟩ := u_known (n := 3) hts ckX4.2.1 (hts _ in_X4)
  obtain ⟨c5, i5, k5⟩ := u_known (n := 7) hts ckX5.2.1 (hts _ in_X5)
  obtain ⟨c6, i6, k6⟩ := u_known (n := 11) hts ckX6.2.1 (hts _ in_X6)
  obtain ⟨c7, i7, k7⟩ := u_known (n := 46) hts ckX7.2.1 (hts _ in_X7)
  obtain ⟨a0, p0, q0⟩ := arr_c (fun C h => by cases h) (hts _ ar_int)
  obtain ⟨a1, p1, q1⟩ := arr_c (fun C h => by cases h) (hts _ ar_long)
  obtain ⟨a2, p2, q2⟩ := arr_c (fun C h => by cases h) (hts _ ar_boolean)
  obtain ⟨a3, p3, q3⟩ := arr_o (hts _ ao_X1)
  obtain ⟨a4, p4, q4⟩ := arr_o (hts _ ao_X4)
  obtain ⟨a5, p5, q5⟩ := arr_o (hts _ ao_X3)
  obtain ⟨a6, p6, q6⟩ := arr_o (hts _ ao_X0)
  have hs := flat_of_before _ hgv
  have hini : (Cond.initialized "LandTaken").before #[Value.ref b] s = true := hts _ ini_X6
  refine ⟨(fun k => [c0, c1, c2, c3, c4, c5, c6, c7].getD k c0, fun k => [i0, i1, i2, i3, i4, i5, i6, i7].getD k i0), fun k => [a0, a1, a2, a3, a4, a5, a6].getD k a0, hTB, ⟨fun k q hq => ?_, fun k q hq => ?_⟩, Nat.le_refl _, ?_, ?_, ?_⟩
  · match k, hq with
    | 0, hq => cases hq; exact k0
    | 1, hq => cases hq; exact k1
    | 2, hq => cases hq; exact k2
    | 3, hq => cases hq; exact k3
    | 4, hq => cases hq; exact k4
    | 5, hq => cases hq; exact k5
    | 6, hq => cases hq; exact k6
    | 7, hq => cases hq; exact k7
    | k + 8, hq => simp [vwCl] at hq
  · match k, hq with
    | 0, hq => cases hq; exact ⟨p0, q0⟩
    | 1, hq => cases hq; exact ⟨p1, q1⟩
    | 2, hq => cases hq; exact ⟨p2, q2⟩
    | 3, hq => cases hq; exact ⟨p3, q3⟩
    | 4, hq => cases hq; exact ⟨p4, q4⟩
    | 5, hq => cases hq; exact ⟨p5, q5⟩
    | 6, hq => cases hq; exact ⟨p6, q6⟩
    | k + 7, hq => simp [tyl] at hq
  · refine SA_of (by decide) (hts0 (.laysStatic "LandTaken" "MOST_RATE" "[I") (by decide +kernel)) hini (hs _ (by decide +kernel)) (hs (Cond.eq (.length (.static "LandTaken" "MOST_RATE" "[I")) (.int 5)) (by decide +kernel)) (fun j hj => ?_)
    have h5 : j = 0 ∨ j = 1 ∨ j = 2 ∨ j = 3 ∨ j = 4 := by omega
    rcases h5 with rfl | rfl | rfl | rfl | rfl
    · exact hs (Cond.eq (.elem (.static "LandTaken" "MOST_RATE" "[I") (.int 0)) (.int 1000)) (by decide +kernel)
    · exact hs (Cond.eq (.elem (.static "LandTaken" "MOST_RATE" "[I") (.int 1)) (.int 100000)) (by decide +kernel)
    · exact hs (Cond.eq (.elem (.static "LandTaken" "MOST_RATE" "[I") (.int 2)) (.int 1000)) (by decide +kernel)
    · exact hs (Cond.eq (.elem (.static "LandTaken" "MOST_RATE" "[I") (.int 3)) (.int 10000)) (by decide +kernel)
    · exact hs (Cond.eq (.elem (.static "LandTaken" "MOST_RATE" "[I") (.int 4)) (.int 1000)) (by decide +kernel)
  · refine SA_of (by decide) (hts0 (.laysStatic "LandTaken" "STEP_X" "[I") (by decide +kernel)) hini (hs _ (by decide +kernel)) (hs (Cond.eq (.length (.static "LandTaken" "STEP_X" "[I")) (.int 4)) (by decide +kernel)) (fun j hj => ?_)
    have h5 : j = 0 ∨ j = 1 ∨ j = 2 ∨ j = 3 := by omega
    rcases h5 with rfl | rfl | rfl | rfl
    · exact hs (Cond.eq (.elem (.static "LandTaken" "STEP_X" "[I") (.int 0)) (.int 0)) (by decide +kernel)
    · exact hs (Cond.eq (.elem (.static "LandTaken" "STEP_X" "[I") (.int 1)) (.int 1)) (by decide +kernel)
    · exact hs (Cond.eq (.elem (.static "LandTaken" "STEP_X" "[I") (.int 2)) (.int 0)) (by decide +kernel)
    · exact hs (Cond.eq (.elem (.static "LandTaken" "STEP_X" "[I") (.int 3)) (.int (-1))) (by decide +kernel)
  · refine SA_of (by decide) (hts0 (.laysStatic "LandTaken" "STEP_Y" "[I") (by decide +kernel)) hini (hs _ (by decide +kernel)) (hs (Cond.eq (.length (.static "LandTaken" "STEP_Y" "[I")) (.int 4)) (by decide +kernel)) (fun j hj => ?_)
    have h5 : j = 0 ∨ j = 1 ∨ j = 2 ∨ j = 3 := by omega
    rcases h5 with rfl | rfl | rfl | rfl
    · exact hs (Cond.eq (.elem (.static "LandTaken" "STEP_Y" "[I") (.int 0)) (.int (-1))) (by decide +kernel)
    · exact hs (Cond.eq (.elem (.static "LandTaken" "STEP_Y" "[I") (.int 1)) (.int 0)) (by decide +kernel)
    · exact hs (Cond.eq (.elem (.static "LandTaken" "STEP_Y" "[I") (.int 2)) (.int 1)) (by decide +kernel)
    · exact hs (Cond.eq (.elem (.static "LandTaken" "STEP_Y" "[I") (.int 3)) (.int 0)) (by decide +kernel)
