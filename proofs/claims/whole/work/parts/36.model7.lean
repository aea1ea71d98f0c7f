def dmC (I : M2) (w g : Nat) (h0 : Int64) : Int64 := foldN (fun y h => foldN (fun x h => foldN (fun k h => mx h (lkM I (16 * y + x) k).toInt64) 5 h) w h) g h0
def dmF (I : M2) (fc : Nat) (h0 : Int64) : Int64 := foldN (fun f h => foldN (fun r h => mx (mx h (I 86 (4 * f + r)).toInt64) (I 87 (4 * f + r)).toInt64) (I 85 f).toNatClampNeg (mx h (I 84 f).toInt64)) fc h0
def dmO (I : M2) (J : J2) (S : M2) (oc : Nat) (nc : Nat → Nat) (h0 : Int64) : Int64 := foldN (fun o h => foldN (fun q h => foldN (fun j h => mx h (tlM I J S (12 * o + q) j)) 14 h) (nc o) (mx h (I 92 o).toInt64)) oc h0
def dmE (I S : M2) (oc : Nat) (nc : Nat → Nat) (h0 : Int64) : Int64 := foldN (fun k h => mx h (cntM I S oc nc (k + 5)).toInt64) 3 h0
set_option maxHeartbeats 800000 in
set_option maxRecDepth 100000 in
theorem m_digest {n : Nat} {d : D2} {I : M2} {J : J2} {S : M2} {L : J2} {R : R2} {Q : QT} {w g fc oc uc td : Nat} {md op : Bool} (hB : MB S w g fc oc uc td md op) {nc : Nat → Nat} (hN : OM I oc nc) (hrc : ∀ j, j < fc → ∃ rc, rc ≤ 4 ∧ I 85 j = nI rc) (hq : Q (some (.long (dmE I S oc nc (dgR I 91 (dmO I J S oc nc (dmF I fc (dmC I w g (mx (mx 127 (S 78 0).toInt64) (S 78 1).toInt64)))))))) n (H5 d I J S (u2 L 78 45 (dmE I S oc nc (dgR I 91 (dmO I J S oc nc (dmF I fc (dmC I w g (mx (mx 127 (S 78 0).toInt64) (S 78 1).toInt64))))))) R)) : Calls yX7_digest cX7_digest 4 (some .long) rmX7_digest [.ref 78] n (H5 d I J S L R) Q := by
  refine Calls.of (by decide) (Nat.le_of_ble_eq_true rfl) ?_
  intro K hk
  show AW K Q 0 0 0 [some (.ref 78), none, none, none] [] n (H5 d I J S L R)
  obtain ⟨hw, hg, hw1, hw6, hg1, hg6, hfc, hfc2, hoc, hoc6, huc, huc5, htd, htd4, hmd, hop⟩ := id hB
  have pE : ∀ (h1 : Int64), Q (some (.long (dmE I S oc nc h1))) n (H5 d I J S (u2 L 78 45 (dmE I S oc nc h1)) R) → ∀ (k z : Nat) (V : Int64), 5 ≤ z → z ≤ 8 → 8 + 1 ≤ z + k → V = foldN (fun k h => mx h (cntM I S oc nc (k + 5)).toInt64) (z - 5) h1 → AW K Q 0 0 264 [some (.ref 78), some (.int (nI z)), none, none] [] n (H5 d I J S (u2 L 78 45 (V)) R) := by
    intro h1 hq k
    induction k with
    | zero => intro z V h1 h2 h3; omega
    | succ k ih =>
      intro z V hz5 hz8 hn hV
      refine aw_iload_n (pc2 := 265) hk dX7_digest_264 rfl rfl ?_
      refine aw_bipush (v := 8) (pc2 := 267) hk dX7_digest_265 rfl (by decide) ?_
      refine aw_icN_ge (x := z) (y := 8) (tgt := 286) (pc2 := 270) hk dX7_digest_267 (by decide) rfl rfl rfl (by omega) (by omega) (fun c267 => ?_) (fun c267 => ?_)
      · obtain rfl : z = 8 := by omega
        have hV2 : V = dmE I S oc nc h1 := hV
        subst hV2
        refine aw_aload_n (pc2 := 287) hk dX7_digest_286 rfl rfl ?_
        refine aw_get (pc2 := 290) hk ckX7 45 dX7_digest_287 rfl fl_X7_271 (by decide) (o_X7 rfl) rfl ?_
        rw [u2_s]
        refine aw_lret hk dX7_digest_290 (Nat.le_of_ble_eq_true rfl) (Nat.le_of_ble_eq_true rfl) hq
      · refine aw_aload_n (pc2 := 271) hk dX7_digest_270 rfl rfl ?_
        refine aw_aload_n (pc2 := 272) hk dX7_digest_271 rfl rfl ?_
        refine aw_iload_n (pc2 := 273) hk dX7_digest_272 rfl rfl ?_
        refine aw_cV (rm2 := rmX7_count) (pc2 := 276) hk veX7_count dX7_digest_273 rfl ml_X7_281 ⟨(Nat.le_of_ble_eq_true rfl), (Nat.le_of_ble_eq_true rfl)⟩ [_] rfl rfl (Nat.le_of_ble_eq_true rfl) (Nat.le_of_ble_eq_true rfl) (Nat.le_of_ble_eq_true rfl) (o_X7 rfl) (m_count hB hN (fun h9 => absurd (show z < 8 by omega) (h9 z rfl)) (fun k h9 h8 => ?_))
        obtain rfl : z = k := (nI_eq (by omega) (by omega)).mp h9
        refine aw_i2l (pc2 := 277) hk dX7_digest_276 rfl ?_
        refine aw_cV (rm2 := rmX7_mix) (pc2 := 280) hk veX7_mix dX7_digest_277 rfl ml_X7_277 ⟨(Nat.le_of_ble_eq_true rfl), (Nat.le_of_ble_eq_true rfl)⟩ [_] rfl rfl (Nat.le_of_ble_eq_true rfl) (Nat.le_of_ble_eq_true rfl) (Nat.le_of_ble_eq_true rfl) (o_X7 rfl) (m_mix ?_)
        refine aw_iinc1 (pc2 := 283) hk dX7_digest_280 rfl rfl (by decide) ?_
        show AW K Q _ _ 283 [_, _, _, _] _ _ _
        refine aw_goto (tgt := 264) hk dX7_digest_283 (by decide) ?_
        refine ih (z + 1) _ (by omega) (by omega) (by omega) ?_
        rw [hV, show z + 1 - 5 = (z - 5) + 1 by omega, foldN_s, show z - 5 + 5 = z by omega]
  have pR : ∀ (h1 : Int64), Q (some (.long (dmE I S oc nc (dgR I 91 h1)))) n (H5 d I J S (u2 L 78 45 (dmE I S oc nc (dgR I 91 h1))) R) → ∀ (k i : Nat) (V : Int64), i ≤ 5 → 5 + 1 ≤ i + k → V = foldN (fun k h => mx h (I 91 k).toInt64) i h1 → AW K Q 0 0 240 [some (.ref 78), some (.int (nI i)), none, none] [] n (H5 d I J S (u2 L 78 45 (V)) R) := by
    intro h1 hq k
    induction k with
    | zero => intro i V h1 h2; omega
    | succ k ih =>
      intro i V hi hn hV
      refine aw_iload_n (pc2 := 241) hk dX7_digest_240 rfl rfl ?_
      refine aw_iconst (v := 5) (pc2 := 242) hk dX7_digest_241 rfl (by decide) ?_
      refine aw_icN_ge (x := i) (y := 5) (tgt := 262) (pc2 := 245) hk dX7_digest_242 (by decide) rfl rfl rfl (by omega) (by omega) (fun c242 => ?_) (fun c242 => ?_)
      · obtain rfl : i = 5 := by omega
        have hV2 : V = dgR I 91 h1 := hV
        refine aw_iconst (v := 5) (pc2 := 263) hk dX7_digest_262 rfl (by decide) ?_
        refine aw_istore_n (pc2 := 264) hk dX7_digest_263 rfl (by decide) ?_
        show AW K Q _ _ 264 [_, _, _, _] _ _ _
        exact pE (dgR I 91 h1) hq 4 5 V (by omega) (by omega) (by omega) (by rw [hV2]; exact (foldN_0 _ _).symm)
      · refine aw_aload_n (pc2 := 246) hk dX7_digest_245 rfl rfl ?_
        refine aw_aload_n (pc2 := 247) hk dX7_digest_246 rfl rfl ?_
        refine aw_get (pc2 := 250) hk ckX7 15 dX7_digest_247 rfl fl_X7_54 (by decide) (o_X7 rfl) rfl ?_
        refine aw_iload_n (pc2 := 251) hk dX7_digest_250 rfl rfl ?_
        refine h_iald (pc2 := 252) hk dX7_digest_251 rfl rfl rfl (by omega) (by decide) ?_
        refine aw_i2l (pc2 := 253) hk dX7_digest_252 rfl ?_
        refine aw_cV (rm2 := rmX7_mix) (pc2 := 256) hk veX7_mix dX7_digest_253 rfl ml_X7_277 ⟨(Nat.le_of_ble_eq_true rfl), (Nat.le_of_ble_eq_true rfl)⟩ [_] rfl rfl (Nat.le_of_ble_eq_true rfl) (Nat.le_of_ble_eq_true rfl) (Nat.le_of_ble_eq_true rfl) (o_X7 rfl) (m_mix ?_)
        refine aw_iinc1 (pc2 := 259) hk dX7_digest_256 rfl rfl (by decide) ?_
        show AW K Q _ _ 259 [_, _, _, _] _ _ _
        refine aw_goto (tgt := 240) hk dX7_digest_259 (by decide) ?_
        exact ih (i + 1) _ (by omega) (by omega) (by rw [hV, foldN_s])
  have pO : ∀ (h1 : Int64), Q (some (.long (dmE I S oc nc (dgR I 91 (dmO I J S oc nc h1))))) n (H5 d I J S (u2 L 78 45 (dmE I S oc nc (dgR I 91 (dmO I J S oc nc h1)))) R) → ∀ (k o : Nat) (V : Int64), o ≤ oc → oc + 1 ≤ o + k → V = foldN (fun o h => foldN (fun q h => foldN (fun j h => mx h (tlM I J S (12 * o + q) j)) 14 h) (nc o) (mx h (I 92 o).toInt64)) o h1 → AW K Q 0 0 163 [some (.ref 78), some (.int (nI o)), none, none] [] n (H5 d I J S (u2 L 78 45 (V)) R) := by
    intro h1 hq k
    induction k with
    | zero => intro o V h1 h2; omega
    | succ k ih =>
      intro o V ho hn hV
      refine aw_iload_n (pc2 := 164) hk dX7_digest_163 rfl rfl ?_
      refine aw_aload_n (pc2 := 165) hk dX7_digest_164 rfl rfl ?_
      refine aw_get (pc2 := 168) hk ckX7 19 dX7_digest_165 rfl fl_X7_197 (by decide) (o_X7 rfl) rfl ?_
      refine aw_icN_ge (x := o) (y := oc) (tgt := 238) (pc2 := 171) hk dX7_digest_168 (by decide) rfl rfl hoc (by omega) (by omega) (fun c168 => ?_) (fun c168 => ?_)
      · obtain rfl : o = oc := by omega
        have hV2 : V = dmO I J S o nc h1 := hV
        refine aw_iconst (v := 0) (pc2 := 239) hk dX7_digest_238 rfl (by decide) ?_
        refine aw_istore_n (pc2 := 240) hk dX7_digest_239 rfl (by decide) ?_
        show AW K Q _ _ 240 [_, _, _, _] _ _ _
        exact pR (dmO I J S o nc h1) hq 6 0 V (by omega) (by omega) (by rw [hV2]; exact (foldN_0 _ _).symm)
      · refine aw_aload_n (pc2 := 172) hk dX7_digest_171 rfl rfl ?_
        refine aw_aload_n (pc2 := 173) hk dX7_digest_172 rfl rfl ?_
        refine aw_get (pc2 := 176) hk ckX7 21 dX7_digest_173 rfl fl_X7_57 (by decide) (o_X7 rfl) rfl ?_
        refine aw_iload_n (pc2 := 177) hk dX7_digest_176 rfl rfl ?_
        refine h_iald (pc2 := 178) hk dX7_digest_177 rfl rfl rfl (by omega) (by decide) ?_
        refine aw_i2l (pc2 := 179) hk dX7_digest_178 rfl ?_
        refine aw_cV (rm2 := rmX7_mix) (pc2 := 182) hk veX7_mix dX7_digest_179 rfl ml_X7_277 ⟨(Nat.le_of_ble_eq_true rfl), (Nat.le_of_ble_eq_true rfl)⟩ [_] rfl rfl (Nat.le_of_ble_eq_true rfl) (Nat.le_of_ble_eq_true rfl) (Nat.le_of_ble_eq_true rfl) (o_X7 rfl) (m_mix ?_)
        obtain ⟨hn1, hn2⟩ := hN o (by omega)
        obtain ⟨V2, hV2⟩ : ∃ V2, V2 = mx V (I 92 o).toInt64 := ⟨_, rfl⟩
        have loop2 : ∀ (k2 q : Nat) (V3 : Int64), q ≤ nc o → nc o + 1 ≤ q + k2 → V3 = foldN (fun q h => foldN (fun j h => mx h (tlM I J S (12 * o + q) j)) 14 h) q V2 → AW K Q 0 0 187 [some (.ref 78), some (.int (nI o)), some (.int (nI (12 * o + q))), none] [] n (H5 d I J S (u2 L 78 45 (V3)) R) := by
          intro k2
          induction k2 with
          | zero => intro q V3 h1 h2; omega
          | succ k2 ih2 =>
            intro q V3 hq2 hn2 hV3
            refine aw_iload_n (pc2 := 188) hk dX7_digest_187 rfl rfl ?_
            refine aw_bipush (v := nI 12) (pc2 := 190) hk dX7_digest_188 rfl (by decide) ?_
            refine aw_iload_n (pc2 := 191) hk dX7_digest_190 rfl rfl ?_
            refine aw_imul (pc2 := 192) hk dX7_digest_191 rfl ?_
            refine aw_aload_n (pc2 := 193) hk dX7_digest_192 rfl rfl ?_
            refine aw_get (pc2 := 196) hk ckX7 23 dX7_digest_193 rfl fl_X7_63 (by decide) (o_X7 rfl) rfl ?_
            refine aw_iload_n (pc2 := 197) hk dX7_digest_196 rfl rfl ?_
            refine h_iald (pc2 := 198) hk dX7_digest_197 rfl rfl rfl (by omega) (by decide) ?_
            refine aw_iadd (pc2 := 199) hk dX7_digest_198 rfl ?_
            refine aw_icN_ge (x := 12 * o + q) (y := 12 * o + nc o) (tgt := 232) (pc2 := 202) hk dX7_digest_199 (by decide) rfl rfl (by rw [hn1]; exact mulN 12 o _) (by omega) (by omega) (fun c199 => ?_) (fun c199 => ?_)
            · obtain rfl : q = nc o := by omega
              refine aw_iinc1 (pc2 := 235) hk dX7_digest_232 rfl rfl (by decide) ?_
              show AW K Q _ _ 235 [_, _, _, _] _ _ _
              refine aw_goto (tgt := 163) hk dX7_digest_235 (by decide) ?_
              refine aw_fg 2 ?_
              refine aw_fg 3 ?_
              exact ih (o + 1) _ (by omega) (by omega) (by rw [hV3, hV2, hV, foldN_s])
            · have loop3 : ∀ (k3 j : Nat) (V4 : Int64), j ≤ 14 → 15 ≤ j + k3 → V4 = foldN (fun j h => mx h (tlM I J S (12 * o + q) j)) j V3 → AW K Q 0 0 204 [some (.ref 78), some (.int (nI o)), some (.int (nI (12 * o + q))), some (.int (nI j))] [] n (H5 d I J S (u2 L 78 45 (V4)) R) := by
                intro k3
                induction k3 with
                | zero => intro j V4 h1 h2; omega
                | succ k3 ih3 =>
                  intro j V4 hj hn3 hV4
                  refine aw_iload_n (pc2 := 205) hk dX7_digest_204 rfl rfl ?_
                  refine aw_bipush (v := 14) (pc2 := 207) hk dX7_digest_205 rfl (by decide) ?_
                  refine aw_icN_ge (x := j) (y := 14) (tgt := 226) (pc2 := 210) hk dX7_digest_207 (by decide) rfl rfl rfl (by omega) (by omega) (fun c207 => ?_) (fun c207 => ?_)
                  · obtain rfl : j = 14 := by omega
                    refine aw_iinc1 (pc2 := 229) hk dX7_digest_226 rfl rfl (by decide) ?_
                    show AW K Q _ _ 229 [_, _, _, _] _ _ _
                    refine aw_goto (tgt := 187) hk dX7_digest_229 (by decide) ?_
                    refine aw_fg 3 ?_
                    exact ih2 (q + 1) _ (by omega) (by omega) (by rw [hV4, hV3]; exact (foldN_s _ _ _).symm)
                  · refine aw_aload_n (pc2 := 211) hk dX7_digest_210 rfl rfl ?_
                    refine aw_aload_n (pc2 := 212) hk dX7_digest_211 rfl rfl ?_
                    refine aw_iload_n (pc2 := 213) hk dX7_digest_212 rfl rfl ?_
                    refine aw_iload_n (pc2 := 214) hk dX7_digest_213 rfl rfl ?_
                    refine aw_cV (rm2 := rmX7_toldOf) (pc2 := 217) hk veX7_toldOf dX7_digest_214 rfl ml_X7_263 ⟨(Nat.le_of_ble_eq_true rfl), (Nat.le_of_ble_eq_true rfl)⟩ [_, _] rfl rfl (Nat.le_of_ble_eq_true rfl) (Nat.le_of_ble_eq_true rfl) (Nat.le_of_ble_eq_true rfl) (o_X7 rfl) (m_toldOf (by omega) (by omega) ?_)
                    refine aw_cV (rm2 := rmX7_mix) (pc2 := 220) hk veX7_mix dX7_digest_217 rfl ml_X7_277 ⟨(Nat.le_of_ble_eq_true rfl), (Nat.le_of_ble_eq_true rfl)⟩ [_] rfl rfl (Nat.le_of_ble_eq_true rfl) (Nat.le_of_ble_eq_true rfl) (Nat.le_of_ble_eq_true rfl) (o_X7 rfl) (m_mix ?_)
                    refine aw_iinc1 (pc2 := 223) hk dX7_digest_220 rfl rfl (by decide) ?_
                    show AW K Q _ _ 223 [_, _, _, _] _ _ _
                    refine aw_goto (tgt := 204) hk dX7_digest_223 (by decide) ?_
                    exact ih3 (j + 1) _ (by omega) (by omega) (by rw [hV4, foldN_s])
              refine aw_iconst (v := 0) (pc2 := 203) hk dX7_digest_202 rfl (by decide) ?_
              refine aw_istore_n (pc2 := 204) hk dX7_digest_203 rfl (by decide) ?_
              show AW K Q _ _ 204 [_, _, _, _] _ _ _
              exact loop3 15 0 V3 (by omega) (by omega) (foldN_0 _ _).symm
        refine aw_bipush (v := nI 12) (pc2 := 184) hk dX7_digest_182 rfl (by decide) ?_
        refine aw_iload_n (pc2 := 185) hk dX7_digest_184 rfl rfl ?_
        refine aw_imul (pc2 := 186) hk dX7_digest_185 rfl ?_
        rw [pk_mul]
        refine aw_istore_n (pc2 := 187) hk dX7_digest_186 rfl (by decide) ?_
        show AW K Q _ _ 187 [_, _, _, _] _ _ _
        refine aw_lv [some (.ref 78), some (.int (nI o)), some (.int (nI (12 * o + 0))), none] rfl ?_
        exact loop2 (nc o + 1) 0 _ (by omega) (by omega) (hV2.symm.trans (foldN_0 _ _).symm)
  have pF : ∀ (h1 : Int64), Q (some (.long (dmE I S oc nc (dgR I 91 (dmO I J S oc nc (dmF I fc h1)))))) n (H5 d I J S (u2 L 78 45 (dmE I S oc nc (dgR I 91 (dmO I J S oc nc (dmF I fc h1))))) R) → ∀ (k f : Nat) (V : Int64), f ≤ fc → fc + 1 ≤ f + k → V = foldN (fun f h => foldN (fun r h => mx (mx h (I 86 (4 * f + r)).toInt64) (I 87 (4 * f + r)).toInt64) (I 85 f).toNatClampNeg (mx h (I 84 f).toInt64)) f h1 → AW K Q 0 0 88 [some (.ref 78), some (.int (nI f)), none, none] [] n (H5 d I J S (u2 L 78 45 (V)) R) := by
    intro h1 hq k
    induction k with
    | zero => intro f V h1 h2; omega
    | succ k ih =>
      intro f V hf hn hV
      refine aw_iload_n (pc2 := 89) hk dX7_digest_88 rfl rfl ?_
      refine aw_aload_n (pc2 := 90) hk dX7_digest_89 rfl rfl ?_
      refine aw_get (pc2 := 93) hk ckX7 7 dX7_digest_90 rfl fl_X7_130 (by decide) (o_X7 rfl) rfl ?_
      refine aw_icN_ge (x := f) (y := fc) (tgt := 161) (pc2 := 96) hk dX7_digest_93 (by decide) rfl rfl hfc (by omega) (by omega) (fun c93 => ?_) (fun c93 => ?_)
      · obtain rfl : f = fc := by omega
        have hV2 : V = dmF I f h1 := hV
        refine aw_iconst (v := 0) (pc2 := 162) hk dX7_digest_161 rfl (by decide) ?_
        refine aw_istore_n (pc2 := 163) hk dX7_digest_162 rfl (by decide) ?_
        show AW K Q _ _ 163 [_, _, _, _] _ _ _
        exact pO (dmF I f h1) hq (oc + 1) 0 V (by omega) (by omega) (by rw [hV2]; exact (foldN_0 _ _).symm)
      · refine aw_aload_n (pc2 := 97) hk dX7_digest_96 rfl rfl ?_
        refine aw_aload_n (pc2 := 98) hk dX7_digest_97 rfl rfl ?_
        refine aw_get (pc2 := 101) hk ckX7 8 dX7_digest_98 rfl fl_X7_33 (by decide) (o_X7 rfl) rfl ?_
        refine aw_iload_n (pc2 := 102) hk dX7_digest_101 rfl rfl ?_
        refine h_iald (pc2 := 103) hk dX7_digest_102 rfl rfl rfl (by omega) (by decide) ?_
        refine aw_i2l (pc2 := 104) hk dX7_digest_103 rfl ?_
        refine aw_cV (rm2 := rmX7_mix) (pc2 := 107) hk veX7_mix dX7_digest_104 rfl ml_X7_277 ⟨(Nat.le_of_ble_eq_true rfl), (Nat.le_of_ble_eq_true rfl)⟩ [_] rfl rfl (Nat.le_of_ble_eq_true rfl) (Nat.le_of_ble_eq_true rfl) (Nat.le_of_ble_eq_true rfl) (o_X7 rfl) (m_mix ?_)
        obtain ⟨rc, hrc4, hrc2⟩ := hrc f (by omega)
        obtain ⟨V2, hV2⟩ : ∃ V2, V2 = mx V (I 84 f).toInt64 := ⟨_, rfl⟩
        have loop2 : ∀ (k2 r : Nat) (V3 : Int64), r ≤ rc → rc + 1 ≤ r + k2 → V3 = foldN (fun r h => mx (mx h (I 86 (4 * f + r)).toInt64) (I 87 (4 * f + r)).toInt64) r V2 → AW K Q 0 0 109 [some (.ref 78), some (.int (nI f)), some (.int (nI r)), none] [] n (H5 d I J S (u2 L 78 45 (V3)) R) := by
          intro k2
          induction k2 with
          | zero => intro r V3 h1 h2; omega
          | succ k2 ih2 =>
            intro r V3 hr hn2 hV3
            refine aw_iload_n (pc2 := 110) hk dX7_digest_109 rfl rfl ?_
            refine aw_aload_n (pc2 := 111) hk dX7_digest_110 rfl rfl ?_
            refine aw_get (pc2 := 114) hk ckX7 9 dX7_digest_111 rfl fl_X7_36 (by decide) (o_X7 rfl) rfl ?_
            refine aw_iload_n (pc2 := 115) hk dX7_digest_114 rfl rfl ?_
            refine h_iald (pc2 := 116) hk dX7_digest_115 rfl rfl rfl (by omega) (by decide) ?_
            refine aw_icN_ge (x := r) (y := rc) (tgt := 155) (pc2 := 119) hk dX7_digest_116 (by decide) rfl rfl hrc2 (by omega) (by omega) (fun c116 => ?_) (fun c116 => ?_)
            · obtain rfl : r = rc := by omega
              refine aw_iinc1 (pc2 := 158) hk dX7_digest_155 rfl rfl (by decide) ?_
              show AW K Q _ _ 158 [_, _, _, _] _ _ _
              refine aw_goto (tgt := 88) hk dX7_digest_158 (by decide) ?_
              refine aw_fg 2 ?_
              exact ih (f + 1) _ (by omega) (by omega) (by rw [hV3, hV2, hV, foldN_s, hrc2, nI_clamp (by omega)])
            · refine aw_aload_n (pc2 := 120) hk dX7_digest_119 rfl rfl ?_
              refine aw_aload_n (pc2 := 121) hk dX7_digest_120 rfl rfl ?_
              refine aw_get (pc2 := 124) hk ckX7 10 dX7_digest_121 rfl fl_X7_39 (by decide) (o_X7 rfl) rfl ?_
              refine aw_iconst (v := nI 4) (pc2 := 125) hk dX7_digest_124 rfl (by decide) ?_
              refine aw_iload_n (pc2 := 126) hk dX7_digest_125 rfl rfl ?_
              refine aw_imul (pc2 := 127) hk dX7_digest_126 rfl ?_
              refine aw_iload_n (pc2 := 128) hk dX7_digest_127 rfl rfl ?_
              refine aw_iadd (pc2 := 129) hk dX7_digest_128 rfl ?_
              rw [mulN]
              refine h_iald (pc2 := 130) hk dX7_digest_129 rfl rfl rfl (by omega) (by decide) ?_
              refine aw_i2l (pc2 := 131) hk dX7_digest_130 rfl ?_
              refine aw_cV (rm2 := rmX7_mix) (pc2 := 134) hk veX7_mix dX7_digest_131 rfl ml_X7_277 ⟨(Nat.le_of_ble_eq_true rfl), (Nat.le_of_ble_eq_true rfl)⟩ [_] rfl rfl (Nat.le_of_ble_eq_true rfl) (Nat.le_of_ble_eq_true rfl) (Nat.le_of_ble_eq_true rfl) (o_X7 rfl) (m_mix ?_)
              refine aw_aload_n (pc2 := 135) hk dX7_digest_134 rfl rfl ?_
              refine aw_aload_n (pc2 := 136) hk dX7_digest_135 rfl rfl ?_
              refine aw_get (pc2 := 139) hk ckX7 11 dX7_digest_136 rfl fl_X7_42 (by decide) (o_X7 rfl) rfl ?_
              refine aw_iconst (v := nI 4) (pc2 := 140) hk dX7_digest_139 rfl (by decide) ?_
              refine aw_iload_n (pc2 := 141) hk dX7_digest_140 rfl rfl ?_
              refine aw_imul (pc2 := 142) hk dX7_digest_141 rfl ?_
              refine aw_iload_n (pc2 := 143) hk dX7_digest_142 rfl rfl ?_
              refine aw_iadd (pc2 := 144) hk dX7_digest_143 rfl ?_
              rw [mulN]
              refine h_iald (pc2 := 145) hk dX7_digest_144 rfl rfl rfl (by omega) (by decide) ?_
              refine aw_i2l (pc2 := 146) hk dX7_digest_145 rfl ?_
              refine aw_cV (rm2 := rmX7_mix) (pc2 := 149) hk veX7_mix dX7_digest_146 rfl ml_X7_277 ⟨(Nat.le_of_ble_eq_true rfl), (Nat.le_of_ble_eq_true rfl)⟩ [_] rfl rfl (Nat.le_of_ble_eq_true rfl) (Nat.le_of_ble_eq_true rfl) (Nat.le_of_ble_eq_true rfl) (o_X7 rfl) (m_mix ?_)
              refine aw_iinc1 (pc2 := 152) hk dX7_digest_149 rfl rfl (by decide) ?_
              show AW K Q _ _ 152 [_, _, _, _] _ _ _
              refine aw_goto (tgt := 109) hk dX7_digest_152 (by decide) ?_
              exact ih2 (r + 1) _ (by omega) (by omega) (by rw [hV3, foldN_s])
        refine aw_iconst (v := 0) (pc2 := 108) hk dX7_digest_107 rfl (by decide) ?_
        refine aw_istore_n (pc2 := 109) hk dX7_digest_108 rfl (by decide) ?_
        show AW K Q _ _ 109 [_, _, _, _] _ _ _
        exact loop2 (rc + 1) 0 _ (by omega) (by omega) (hV2.symm.trans (foldN_0 _ _).symm)
  have pC : ∀ (h1 : Int64), Q (some (.long (dmE I S oc nc (dgR I 91 (dmO I J S oc nc (dmF I fc (dmC I w g h1))))))) n (H5 d I J S (u2 L 78 45 (dmE I S oc nc (dgR I 91 (dmO I J S oc nc (dmF I fc (dmC I w g h1)))))) R) → ∀ (k y : Nat) (V : Int64), y ≤ g → g + 1 ≤ y + k → V = foldN (fun y h => foldN (fun x h => foldN (fun k h => mx h (lkM I (16 * y + x) k).toInt64) 5 h) w h) y h1 → AW K Q 0 0 27 [some (.ref 78), some (.int (nI y)), none, none] [] n (H5 d I J S (u2 L 78 45 (V)) R) := by
    intro h1 hq k
    induction k with
    | zero => intro y V h1 h2; omega
    | succ k ih =>
      intro y V hy hn hV
      refine aw_iload_n (pc2 := 28) hk dX7_digest_27 rfl rfl ?_
      refine aw_aload_n (pc2 := 29) hk dX7_digest_28 rfl rfl ?_
      refine aw_get (pc2 := 32) hk ckX7 1 dX7_digest_29 rfl fl_X7_13 (by decide) (o_X7 rfl) rfl ?_
      refine aw_icN_ge (x := y) (y := g) (tgt := 86) (pc2 := 35) hk dX7_digest_32 (by decide) rfl rfl hg (by omega) (by omega) (fun c32 => ?_) (fun c32 => ?_)
      · obtain rfl : y = g := by omega
        have hV2 : V = dmC I w y h1 := hV
        refine aw_iconst (v := 0) (pc2 := 87) hk dX7_digest_86 rfl (by decide) ?_
        refine aw_istore_n (pc2 := 88) hk dX7_digest_87 rfl (by decide) ?_
        show AW K Q _ _ 88 [_, _, _, _] _ _ _
        exact pF (dmC I w y h1) hq (fc + 1) 0 V (by omega) (by omega) (by rw [hV2]; exact (foldN_0 _ _).symm)
      · have loop2 : ∀ (k2 x : Nat) (V3 : Int64), x ≤ w → w + 1 ≤ x + k2 → V3 = foldN (fun x h => foldN (fun k h => mx h (lkM I (16 * y + x) k).toInt64) 5 h) x V → AW K Q 0 0 37 [some (.ref 78), some (.int (nI y)), some (.int (nI x)), none] [] n (H5 d I J S (u2 L 78 45 (V3)) R) := by
          intro k2
          induction k2 with
          | zero => intro x V3 h1 h2; omega
          | succ k2 ih2 =>
            intro x V3 hx hn2 hV3
            refine aw_iload_n (pc2 := 38) hk dX7_digest_37 rfl rfl ?_
            refine aw_aload_n (pc2 := 39) hk dX7_digest_38 rfl rfl ?_
            refine aw_get (pc2 := 42) hk ckX7 0 dX7_digest_39 rfl fl_X7_7 (by decide) (o_X7 rfl) rfl ?_
            refine aw_icN_ge (x := x) (y := w) (tgt := 80) (pc2 := 45) hk dX7_digest_42 (by decide) rfl rfl hw (by omega) (by omega) (fun c42 => ?_) (fun c42 => ?_)
            · obtain rfl : x = w := by omega
              refine aw_iinc1 (pc2 := 83) hk dX7_digest_80 rfl rfl (by decide) ?_
              show AW K Q _ _ 83 [_, _, _, _] _ _ _
              refine aw_goto (tgt := 27) hk dX7_digest_83 (by decide) ?_
              refine aw_fg 2 ?_
              refine aw_fg 3 ?_
              exact ih (y + 1) _ (by omega) (by omega) (by rw [hV3, hV, foldN_s])
            · have loop3 : ∀ (k3 z : Nat) (V4 : Int64), z ≤ 5 → 6 ≤ z + k3 → V4 = foldN (fun k h => mx h (lkM I (16 * y + x) k).toInt64) z V3 → AW K Q 0 0 47 [some (.ref 78), some (.int (nI y)), some (.int (nI x)), some (.int (nI z))] [] n (H5 d I J S (u2 L 78 45 (V4)) R) := by
                intro k3
                induction k3 with
                | zero => intro z V4 h1 h2; omega
                | succ k3 ih3 =>
                  intro z V4 hz hn3 hV4
                  refine aw_iload_n (pc2 := 48) hk dX7_digest_47 rfl rfl ?_
                  refine aw_iconst (v := 5) (pc2 := 49) hk dX7_digest_48 rfl (by decide) ?_
                  refine aw_icN_ge (x := z) (y := 5) (tgt := 74) (pc2 := 52) hk dX7_digest_49 (by decide) rfl rfl rfl (by omega) (by omega) (fun c49 => ?_) (fun c49 => ?_)
                  · obtain rfl : z = 5 := by omega
                    refine aw_iinc1 (pc2 := 77) hk dX7_digest_74 rfl rfl (by decide) ?_
                    show AW K Q _ _ 77 [_, _, _, _] _ _ _
                    refine aw_goto (tgt := 37) hk dX7_digest_77 (by decide) ?_
                    refine aw_fg 3 ?_
                    exact ih2 (x + 1) _ (by omega) (by omega) (by rw [hV4, hV3]; exact (foldN_s _ _ _).symm)
                  · refine aw_aload_n (pc2 := 53) hk dX7_digest_52 rfl rfl ?_
                    refine aw_aload_n (pc2 := 54) hk dX7_digest_53 rfl rfl ?_
                    refine aw_bipush (v := nI 16) (pc2 := 56) hk dX7_digest_54 rfl (by decide) ?_
                    refine aw_iload_n (pc2 := 57) hk dX7_digest_56 rfl rfl ?_
                    refine aw_imul (pc2 := 58) hk dX7_digest_57 rfl ?_
                    refine aw_iload_n (pc2 := 59) hk dX7_digest_58 rfl rfl ?_
                    refine aw_iadd (pc2 := 60) hk dX7_digest_59 rfl ?_
                    rw [mulN]
                    refine aw_iload_n (pc2 := 61) hk dX7_digest_60 rfl rfl ?_
                    refine aw_cV (rm2 := rmX7_lookOf) (pc2 := 64) hk veX7_lookOf dX7_digest_61 rfl ml_X7_266 ⟨(Nat.le_of_ble_eq_true rfl), (Nat.le_of_ble_eq_true rfl)⟩ [_, _] rfl rfl (Nat.le_of_ble_eq_true rfl) (Nat.le_of_ble_eq_true rfl) (Nat.le_of_ble_eq_true rfl) (o_X7 rfl) (m_lookOf (by omega) (by omega) ?_)
                    refine aw_i2l (pc2 := 65) hk dX7_digest_64 rfl ?_
                    refine aw_cV (rm2 := rmX7_mix) (pc2 := 68) hk veX7_mix dX7_digest_65 rfl ml_X7_277 ⟨(Nat.le_of_ble_eq_true rfl), (Nat.le_of_ble_eq_true rfl)⟩ [_] rfl rfl (Nat.le_of_ble_eq_true rfl) (Nat.le_of_ble_eq_true rfl) (Nat.le_of_ble_eq_true rfl) (o_X7 rfl) (m_mix ?_)
                    refine aw_iinc1 (pc2 := 71) hk dX7_digest_68 rfl rfl (by decide) ?_
                    show AW K Q _ _ 71 [_, _, _, _] _ _ _
                    refine aw_goto (tgt := 47) hk dX7_digest_71 (by decide) ?_
                    exact ih3 (z + 1) _ (by omega) (by omega) (by rw [hV4, foldN_s])
              refine aw_iconst (v := 0) (pc2 := 46) hk dX7_digest_45 rfl (by decide) ?_
              refine aw_istore_n (pc2 := 47) hk dX7_digest_46 rfl (by decide) ?_
              show AW K Q _ _ 47 [_, _, _, _] _ _ _
              exact loop3 6 0 V3 (by omega) (by omega) (foldN_0 _ _).symm
        refine aw_iconst (v := 0) (pc2 := 36) hk dX7_digest_35 rfl (by decide) ?_
        refine aw_istore_n (pc2 := 37) hk dX7_digest_36 rfl (by decide) ?_
        show AW K Q _ _ 37 [_, _, _, _] _ _ _
        exact loop2 (w + 1) 0 V (by omega) (by omega) (foldN_0 _ _).symm
  refine aw_aload_n (pc2 := 1) hk dX7_digest_0 rfl rfl ?_
  refine aw_ldc2 (pc2 := 4) hk dX7_digest_1 rfl kl_X7_275 ?_
  refine aw_put (pc2 := 7) hk ckX7 45 dX7_digest_4 rfl fl_X7_271 (by decide) rfl (o_X7 rfl) (fun _ => rfl) (fun _ => rfl) (Nat.le_of_ble_eq_true rfl) ?_
  rw [p_X7_45 rfl]
  refine aw_aload_n (pc2 := 8) hk dX7_digest_7 rfl rfl ?_
  refine aw_aload_n (pc2 := 9) hk dX7_digest_8 rfl rfl ?_
  refine aw_get (pc2 := 12) hk ckX7 0 dX7_digest_9 rfl fl_X7_7 (by decide) (o_X7 rfl) rfl ?_
  refine aw_i2l (pc2 := 13) hk dX7_digest_12 rfl ?_
  refine aw_cV (rm2 := rmX7_mix) (pc2 := 16) hk veX7_mix dX7_digest_13 rfl ml_X7_277 ⟨(Nat.le_of_ble_eq_true rfl), (Nat.le_of_ble_eq_true rfl)⟩ [_] rfl rfl (Nat.le_of_ble_eq_true rfl) (Nat.le_of_ble_eq_true rfl) (Nat.le_of_ble_eq_true rfl) (o_X7 rfl) (m_mix ?_)
  refine aw_aload_n (pc2 := 17) hk dX7_digest_16 rfl rfl ?_
  refine aw_aload_n (pc2 := 18) hk dX7_digest_17 rfl rfl ?_
  refine aw_get (pc2 := 21) hk ckX7 1 dX7_digest_18 rfl fl_X7_13 (by decide) (o_X7 rfl) rfl ?_
  refine aw_i2l (pc2 := 22) hk dX7_digest_21 rfl ?_
  refine aw_cV (rm2 := rmX7_mix) (pc2 := 25) hk veX7_mix dX7_digest_22 rfl ml_X7_277 ⟨(Nat.le_of_ble_eq_true rfl), (Nat.le_of_ble_eq_true rfl)⟩ [_] rfl rfl (Nat.le_of_ble_eq_true rfl) (Nat.le_of_ble_eq_true rfl) (Nat.le_of_ble_eq_true rfl) (o_X7 rfl) (m_mix ?_)
  refine aw_iconst (v := 0) (pc2 := 26) hk dX7_digest_25 rfl (by decide) ?_
  refine aw_istore_n (pc2 := 27) hk dX7_digest_26 rfl (by decide) ?_
  show AW K Q _ _ 27 [_, _, _, _] _ _ _
  exact pC _ hq (g + 1) 0 _ (by omega) (by omega) (foldN_0 _ _).symm
