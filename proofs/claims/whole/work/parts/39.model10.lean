def wtd (I : M2) (f : Nat) : Int32 := sI (fun c => bi (I 82 c != 0 && lft I c (nI f))) 256
theorem wtd_eq {I I1 : M2} (h1 : I1 79 = I 79) (h2 : I1 83 = I 83) (h3 : I1 82 = I 82) (f : Nat) : wtd I1 f = wtd I f := sI_eq 256 (fun c _ => by rw [lft_eq h1 h2, h3])
def mkN (I : M2) (fc : Nat) : Int32 := sI (fun f => bi (decide (0 < wtd I f))) fc
def mkI (I S : M2) (oc : Nat) : M2 := (u2 (u2 (u2 (u2 I 94 oc 0) 92 oc (S 78 16)) 93 oc (I 91 4)) 95 oc 0)
def skI (I : M2) (oc m f : Nat) (x : Int32) : M2 := u2 (u2 (u2 (u2 (u2 I 96 (12 * oc + m) (nI f)) 97 (12 * oc + m) 0) 98 (12 * oc + m) x) 99 (12 * oc + m) 0) 94 oc (nI (m + 1))
def skJ (J : J2) (k : Nat) : J2 := gt4 (u2 (u2 (u2 (u2 (u2 (u2 (u2 J 101 k 0) 102 k 0) 103 k 0) 104 k 0) 105 k 0) 106 k 0) 107 k 0) k 4 (fun _ => 0)
/-- the cases of the fields before f -/
def RunK (I S : M2) (J : J2) (oc : Nat) : Nat → Nat → M2 → J2 → Prop
  | 0, m, I', J' => m = 0 ∧ I' = mkI I S oc ∧ J' = J
  | f + 1, m2, I2, J2 => ∃ m I' J', RunK I S J oc f m I' J' ∧ ((0 < wtd I f ∧ m2 = m + 1 ∧ I2 = skI I' oc m f (wtd I f) ∧ J2 = skJ J' (12 * oc + m)) ∨ (¬ 0 < wtd I f ∧ m2 = m ∧ I2 = I' ∧ J2 = J'))
theorem RunK.kp {I S : M2} {J : J2} {oc : Nat} : ∀ (f m : Nat) (I' : M2) (J' : J2), RunK I S J oc f m I' J' → (∀ b, b ≠ 94 → b ≠ 96 → b ≠ 97 → b ≠ 98 → b ≠ 99 → I' b = mkI I S oc b) ∧ I' 94 oc = nI m ∧ m ≤ f ∧ mkN I f = nI m := by
  intro f
  induction f with
  | zero =>
    rintro m I' J' ⟨rfl, rfl, rfl⟩
    refine ⟨fun b _ _ _ _ _ => rfl, ?_, Nat.le_refl _, rfl⟩
    unfold mkI
    rw [u2_a _ _ _ _ (by decide), u2_a _ _ _ _ (by decide), u2_a _ _ _ _ (by decide), u2_s]
    rfl
  | succ f ih =>
    rintro m2 I2 J2 ⟨m, I', J', hr, h | h⟩
    · obtain ⟨h1, rfl, rfl, rfl⟩ := h
      obtain ⟨k1, k2, k3, k4⟩ := ih m I' J' hr
      refine ⟨fun b h1 h2 h3 h4 h5 => ?_, ?_, by omega, ?_⟩
      · unfold skI
        rw [u2_row _ _ _ h1, u2_row _ _ _ h5, u2_row _ _ _ h4, u2_row _ _ _ h3, u2_row _ _ _ h2]
        exact k1 b h1 h2 h3 h4 h5
      · unfold skI; rw [u2_s]
      · show mkN I f + bi (decide (0 < wtd I f)) = _
        rw [k4, decide_eq_true h1]
        exact nI_1 m
    · obtain ⟨h1, rfl, rfl, rfl⟩ := h
      obtain ⟨k1, k2, k3, k4⟩ := ih _ _ _ hr
      refine ⟨k1, k2, by omega, ?_⟩
      show mkN I f + bi (decide (0 < wtd I f)) = _
      rw [k4, decide_eq_false h1]
      exact Int32.add_zero _
theorem wt_t {x : Int32} (h : ¬ x ≤ 0) : 0 < x := by rw [i_lt, l0]; rw [i_le, l0] at h; omega
theorem wt_f {x : Int32} (h : x ≤ 0) : ¬ 0 < x := by rw [i_lt, l0]; rw [i_le, l0] at h; omega
set_option maxHeartbeats 800000 in
set_option maxRecDepth 100000 in
theorem m_make {n : Nat} {d : D2} {I : M2} {J : J2} {S : M2} {L : J2} {R : R2} {Q : QT} {w g fc oc uc td : Nat} {md op : Bool} (hB : MB S w g fc oc uc td md op) (hq1 : op = true → Q (some (.int (-103))) n (H5 d I J S L R)) (hq2 : op = false → mkN I fc = 0 → Q (some (.int (-102))) n (H5 d I J S L R)) (hq3 : op = false → ¬ mkN I fc = 0 → oc = 60 → Q (some (.int (-104))) n (H5 d I J S L R)) (hq4 : op = false → ¬ mkN I fc = 0 → oc < 60 → ∀ m I' J', RunK I S J oc fc m I' J' → Q (some (.int (mkN I fc))) n (H5 d I' J' (u2 (u2 (u2 S 78 19 (nI (oc + 1))) 78 20 1) 78 17 1) L R)) : Calls yX7_make cX7_make 6 (some .int) rmX7_make [.ref 78] n (H5 d I J S L R) Q := by
  refine Calls.of (by decide) (Nat.le_of_ble_eq_true rfl) ?_
  intro K hk
  show AW K Q 0 0 0 [some (.ref 78), none, none, none, none, none] [] n (H5 d I J S L R)
  obtain ⟨hw, hg, hw1, hw6, hg1, hg6, hfc, hfc2, hoc, hoc6, huc, huc5, htd, htd4, hmd, hop⟩ := id hB
  refine aw_aload_n (pc2 := 1) hk dX7_make_0 rfl rfl ?_
  refine aw_get (pc2 := 4) hk ckX7 20 dX7_make_1 rfl fl_X7_200 (by decide) (o_X7 rfl) rfl ?_
  rw [hop]
  refine aw_if_eq (tgt := 10) (pc2 := 7) hk dX7_make_4 (by decide) rfl (fun c4 => ?_) (fun c4 => ?_)
  · have loopA : ∀ (k i : Nat), i ≤ fc → fc + 1 ≤ i + k → AW K Q 0 0 14 [some (.ref 78), some (.int (mkN I i)), some (.int (nI i)), none, none, none] [] n (H5 d I J S L R) := by
      intro k
      induction k with
      | zero => intro i h1 h2; omega
      | succ k ih =>
        intro i hi hn
        refine aw_iload_n (pc2 := 15) hk dX7_make_14 rfl rfl ?_
        refine aw_aload_n (pc2 := 16) hk dX7_make_15 rfl rfl ?_
        refine aw_get (pc2 := 19) hk ckX7 7 dX7_make_16 rfl fl_X7_130 (by decide) (o_X7 rfl) rfl ?_
        refine aw_icN_ge (x := i) (y := fc) (tgt := 44) (pc2 := 22) hk dX7_make_19 (by decide) rfl rfl hfc (by omega) (by omega) (fun c19 => ?_) (fun c19 => ?_)
        · have ei : i = fc := by omega
          rw [ei]
          refine aw_iload_n (pc2 := 45) hk dX7_make_44 rfl rfl ?_
          refine aw_if_ne (tgt := 51) (pc2 := 48) hk dX7_make_45 (by decide) rfl (fun c45 => ?_) (fun c45 => ?_)
          · refine aw_aload_n (pc2 := 52) hk dX7_make_51 rfl rfl ?_
            refine aw_get (pc2 := 55) hk ckX7 19 dX7_make_52 rfl fl_X7_197 (by decide) (o_X7 rfl) rfl ?_
            refine aw_bipush (v := 60) (pc2 := 57) hk dX7_make_55 rfl (by decide) ?_
            refine aw_icN_ne (x := oc) (y := 60) (tgt := 63) (pc2 := 60) hk dX7_make_57 (by decide) rfl hoc rfl (by omega) (by omega) (fun c57 => ?_) (fun c57 => ?_)
            · have loopB : ∀ (k f m : Nat) (I' : M2) (J' : J2), f ≤ fc → fc + 1 ≤ f + k → RunK I S J oc f m I' J' → AW K Q 0 0 106 [some (.ref 78), some (.int (mkN I fc)), some (.int (nI oc)), some (.int (nI f)), none, none] [] n (H5 d I' J' S L R) := by
                intro k
                induction k with
                | zero => intro f m I' J' h1 h2; omega
                | succ k ih =>
                  intro f m I' J' hf hn hr
                  obtain ⟨kA, kC, kD, _⟩ := RunK.kp f m I' J' hr
                  have e79 : I' 79 = I 79 := (kA 79 (by decide) (by decide) (by decide) (by decide) (by decide)).trans (by unfold mkI; rw [u2_row _ _ _ (by decide), u2_row _ _ _ (by decide), u2_row _ _ _ (by decide), u2_row _ _ _ (by decide)])
                  have e82 : I' 82 = I 82 := (kA 82 (by decide) (by decide) (by decide) (by decide) (by decide)).trans (by unfold mkI; rw [u2_row _ _ _ (by decide), u2_row _ _ _ (by decide), u2_row _ _ _ (by decide), u2_row _ _ _ (by decide)])
                  have e83 : I' 83 = I 83 := (kA 83 (by decide) (by decide) (by decide) (by decide) (by decide)).trans (by unfold mkI; rw [u2_row _ _ _ (by decide), u2_row _ _ _ (by decide), u2_row _ _ _ (by decide), u2_row _ _ _ (by decide)])
                  refine aw_iload_n (pc2 := 107) hk dX7_make_106 rfl rfl ?_
                  refine aw_aload_n (pc2 := 108) hk dX7_make_107 rfl rfl ?_
                  refine aw_get (pc2 := 111) hk ckX7 7 dX7_make_108 rfl fl_X7_130 (by decide) (o_X7 rfl) rfl ?_
                  refine aw_icN_ge (x := f) (y := fc) (tgt := 271) (pc2 := 114) hk dX7_make_111 (by decide) rfl rfl hfc (by omega) (by omega) (fun c111 => ?_) (fun c111 => ?_)
                  · obtain rfl : f = fc := by omega
                    have hq := hq4 (bi_ff c4) c45 (by omega) m I' J' hr
                    refine aw_aload_n (pc2 := 272) hk dX7_make_271 rfl rfl ?_
                    refine aw_dup_r (pc2 := 273) hk dX7_make_272 rfl ?_
                    refine aw_get (pc2 := 276) hk ckX7 19 dX7_make_273 rfl fl_X7_197 (by decide) (o_X7 rfl) rfl ?_
                    refine aw_iconst (v := 1) (pc2 := 277) hk dX7_make_276 rfl (by decide) ?_
                    refine aw_iadd (pc2 := 278) hk dX7_make_277 rfl ?_
                    refine aw_top (nI (oc + 1)) (by rw [hoc]; exact nI_1 oc) ?_
                    refine aw_put (pc2 := 281) hk ckX7 19 dX7_make_278 rfl fl_X7_197 (by decide) rfl (o_X7 rfl) (fun _ => rfl) (fun _ => rfl) (Nat.le_of_ble_eq_true rfl) ?_
                    rw [p_X7_19 rfl]
                    refine aw_aload_n (pc2 := 282) hk dX7_make_281 rfl rfl ?_
                    refine aw_iconst (v := 1) (pc2 := 283) hk dX7_make_282 rfl (by decide) ?_
                    refine aw_put (pc2 := 286) hk ckX7 20 dX7_make_283 rfl fl_X7_200 (by decide) rfl (o_X7 rfl) (fun _ => rfl) (fun _ => rfl) (Nat.le_of_ble_eq_true rfl) ?_
                    rw [p_X7_20 rfl]
                    refine aw_aload_n (pc2 := 287) hk dX7_make_286 rfl rfl ?_
                    refine aw_iconst (v := 1) (pc2 := 288) hk dX7_make_287 rfl (by decide) ?_
                    refine aw_put (pc2 := 291) hk ckX7 17 dX7_make_288 rfl fl_X7_139 (by decide) rfl (o_X7 rfl) (fun _ => rfl) (fun _ => rfl) (Nat.le_of_ble_eq_true rfl) ?_
                    rw [p_X7_17 rfl]
                    refine aw_iload_n (pc2 := 292) hk dX7_make_291 rfl rfl ?_
                    refine aw_iret hk dX7_make_292 (Nat.le_of_ble_eq_true rfl) (Nat.le_of_ble_eq_true rfl) hq
                  · refine aw_aload_n (pc2 := 115) hk dX7_make_114 rfl rfl ?_
                    refine aw_iload_n (pc2 := 116) hk dX7_make_115 rfl rfl ?_
                    refine aw_cV (rm2 := rmX7_wanted) (pc2 := 119) hk veX7_wanted dX7_make_116 rfl ml_X7_203 ⟨(Nat.le_of_ble_eq_true rfl), (Nat.le_of_ble_eq_true rfl)⟩ [_] rfl rfl (Nat.le_of_ble_eq_true rfl) (Nat.le_of_ble_eq_true rfl) (Nat.le_of_ble_eq_true rfl) (o_X7 rfl) (m_wanted ?_)
                    refine aw_top (wtd I f) (wtd_eq e79 e83 e82 f) ?_
                    refine aw_if_le (tgt := 265) (pc2 := 122) hk dX7_make_119 (by decide) rfl (fun c119 => ?_) (fun c119 => ?_)
                    · refine aw_iinc1 (pc2 := 268) hk dX7_make_265 rfl rfl (by decide) ?_
                      show AW K Q _ _ 268 [_, _, _, _, _, _] _ _ _
                      refine aw_goto (tgt := 106) hk dX7_make_268 (by decide) ?_
                      first
                        | (have h9 := wt_t c119
                           refine aw_fg 4 ?_
                           refine aw_fg 5 ?_
                           exact ih (f + 1) (m + 1) (skI I' oc m f (wtd I f)) (skJ J' (12 * oc + m)) (by omega) (by omega) ⟨m, I', J', hr, Or.inl ⟨h9, rfl, rfl, rfl⟩⟩)
                        | (have h9 := wt_f c119
                           exact ih (f + 1) m I' J' (by omega) (by omega) ⟨m, I', J', hr, Or.inr ⟨h9, rfl, rfl, rfl⟩⟩)
                    · refine aw_bipush (v := nI 12) (pc2 := 124) hk dX7_make_122 rfl (by decide) ?_
                      refine aw_iload_n (pc2 := 125) hk dX7_make_124 rfl rfl ?_
                      refine aw_imul (pc2 := 126) hk dX7_make_125 rfl ?_
                      refine aw_aload_n (pc2 := 127) hk dX7_make_126 rfl rfl ?_
                      refine aw_get (pc2 := 130) hk ckX7 23 dX7_make_127 rfl fl_X7_63 (by decide) (o_X7 rfl) rfl ?_
                      refine aw_iload_n (pc2 := 131) hk dX7_make_130 rfl rfl ?_
                      refine h_iald (pc2 := 132) hk dX7_make_131 rfl rfl rfl (by omega) (by decide) ?_
                      rw [kC]
                      refine aw_iadd (pc2 := 133) hk dX7_make_132 rfl ?_
                      rw [mulN]
                      refine aw_istore (pc2 := 135) hk dX7_make_133 rfl (by decide) ?_
                      show AW K Q _ _ 135 [_, _, _, _, _, _] _ _ _
                      refine aw_aload_n (pc2 := 136) hk dX7_make_135 rfl rfl ?_
                      refine aw_get (pc2 := 139) hk ckX7 25 dX7_make_136 rfl fl_X7_69 (by decide) (o_X7 rfl) rfl ?_
                      refine aw_iload (pc2 := 141) hk dX7_make_139 rfl rfl ?_
                      refine aw_iload_n (pc2 := 142) hk dX7_make_141 rfl rfl ?_
                      refine h_iast (pc2 := 143) hk dX7_make_142 rfl rfl rfl (by omega) (by decide) ?_
                      refine aw_aload_n (pc2 := 144) hk dX7_make_143 rfl rfl ?_
                      refine aw_get (pc2 := 147) hk ckX7 26 dX7_make_144 rfl fl_X7_72 (by decide) (o_X7 rfl) rfl ?_
                      refine aw_iload (pc2 := 149) hk dX7_make_147 rfl rfl ?_
                      refine aw_iconst (v := 0) (pc2 := 150) hk dX7_make_149 rfl (by decide) ?_
                      refine h_iast (pc2 := 151) hk dX7_make_150 rfl rfl rfl (by omega) (by decide) ?_
                      refine aw_aload_n (pc2 := 152) hk dX7_make_151 rfl rfl ?_
                      refine aw_get (pc2 := 155) hk ckX7 27 dX7_make_152 rfl fl_X7_75 (by decide) (o_X7 rfl) rfl ?_
                      refine aw_iload (pc2 := 157) hk dX7_make_155 rfl rfl ?_
                      refine aw_aload_n (pc2 := 158) hk dX7_make_157 rfl rfl ?_
                      refine aw_iload_n (pc2 := 159) hk dX7_make_158 rfl rfl ?_
                      refine aw_cV (rm2 := rmX7_wanted) (pc2 := 162) hk veX7_wanted dX7_make_159 rfl ml_X7_203 ⟨(Nat.le_of_ble_eq_true rfl), (Nat.le_of_ble_eq_true rfl)⟩ [_] rfl rfl (Nat.le_of_ble_eq_true rfl) (Nat.le_of_ble_eq_true rfl) (Nat.le_of_ble_eq_true rfl) (o_X7 rfl) (m_wanted ?_)
                      refine aw_top (wtd I f) (wtd_eq (I1 := (u2 (u2 I' 96 (12 * oc + m) (nI f)) 97 (12 * oc + m) 0)) (by rw [u2_row _ _ _ (by decide), u2_row _ _ _ (by decide)]; exact e79) (by rw [u2_row _ _ _ (by decide), u2_row _ _ _ (by decide)]; exact e83) (by rw [u2_row _ _ _ (by decide), u2_row _ _ _ (by decide)]; exact e82) f) ?_
                      refine h_iast (pc2 := 163) hk dX7_make_162 rfl rfl rfl (by omega) (by decide) ?_
                      refine aw_aload_n (pc2 := 164) hk dX7_make_163 rfl rfl ?_
                      refine aw_get (pc2 := 167) hk ckX7 28 dX7_make_164 rfl fl_X7_78 (by decide) (o_X7 rfl) rfl ?_
                      refine aw_iload (pc2 := 169) hk dX7_make_167 rfl rfl ?_
                      refine aw_iconst (v := 0) (pc2 := 170) hk dX7_make_169 rfl (by decide) ?_
                      refine h_iast (pc2 := 171) hk dX7_make_170 rfl rfl rfl (by omega) (by decide) ?_
                      refine aw_aload_n (pc2 := 172) hk dX7_make_171 rfl rfl ?_
                      refine aw_get (pc2 := 175) hk ckX7 30 dX7_make_172 rfl fl_X7_84 (by decide) (o_X7 rfl) rfl ?_
                      refine aw_iload (pc2 := 177) hk dX7_make_175 rfl rfl ?_
                      refine aw_lconst (v := 0) (pc2 := 178) hk dX7_make_177 rfl (by decide) ?_
                      refine h_last (pc2 := 179) hk dX7_make_178 rfl rfl rfl (by omega) (by decide) ?_
                      refine aw_aload_n (pc2 := 180) hk dX7_make_179 rfl rfl ?_
                      refine aw_get (pc2 := 183) hk ckX7 31 dX7_make_180 rfl fl_X7_88 (by decide) (o_X7 rfl) rfl ?_
                      refine aw_iload (pc2 := 185) hk dX7_make_183 rfl rfl ?_
                      refine aw_lconst (v := 0) (pc2 := 186) hk dX7_make_185 rfl (by decide) ?_
                      refine h_last (pc2 := 187) hk dX7_make_186 rfl rfl rfl (by omega) (by decide) ?_
                      refine aw_aload_n (pc2 := 188) hk dX7_make_187 rfl rfl ?_
                      refine aw_get (pc2 := 191) hk ckX7 32 dX7_make_188 rfl fl_X7_91 (by decide) (o_X7 rfl) rfl ?_
                      refine aw_iload (pc2 := 193) hk dX7_make_191 rfl rfl ?_
                      refine aw_lconst (v := 0) (pc2 := 194) hk dX7_make_193 rfl (by decide) ?_
                      refine h_last (pc2 := 195) hk dX7_make_194 rfl rfl rfl (by omega) (by decide) ?_
                      refine aw_aload_n (pc2 := 196) hk dX7_make_195 rfl rfl ?_
                      refine aw_get (pc2 := 199) hk ckX7 33 dX7_make_196 rfl fl_X7_94 (by decide) (o_X7 rfl) rfl ?_
                      refine aw_iload (pc2 := 201) hk dX7_make_199 rfl rfl ?_
                      refine aw_lconst (v := 0) (pc2 := 202) hk dX7_make_201 rfl (by decide) ?_
                      refine h_last (pc2 := 203) hk dX7_make_202 rfl rfl rfl (by omega) (by decide) ?_
                      refine aw_aload_n (pc2 := 204) hk dX7_make_203 rfl rfl ?_
                      refine aw_get (pc2 := 207) hk ckX7 34 dX7_make_204 rfl fl_X7_97 (by decide) (o_X7 rfl) rfl ?_
                      refine aw_iload (pc2 := 209) hk dX7_make_207 rfl rfl ?_
                      refine aw_lconst (v := 0) (pc2 := 210) hk dX7_make_209 rfl (by decide) ?_
                      refine h_last (pc2 := 211) hk dX7_make_210 rfl rfl rfl (by omega) (by decide) ?_
                      refine aw_aload_n (pc2 := 212) hk dX7_make_211 rfl rfl ?_
                      refine aw_get (pc2 := 215) hk ckX7 35 dX7_make_212 rfl fl_X7_100 (by decide) (o_X7 rfl) rfl ?_
                      refine aw_iload (pc2 := 217) hk dX7_make_215 rfl rfl ?_
                      refine aw_lconst (v := 0) (pc2 := 218) hk dX7_make_217 rfl (by decide) ?_
                      refine h_last (pc2 := 219) hk dX7_make_218 rfl rfl rfl (by omega) (by decide) ?_
                      refine aw_aload_n (pc2 := 220) hk dX7_make_219 rfl rfl ?_
                      refine aw_get (pc2 := 223) hk ckX7 36 dX7_make_220 rfl fl_X7_103 (by decide) (o_X7 rfl) rfl ?_
                      refine aw_iload (pc2 := 225) hk dX7_make_223 rfl rfl ?_
                      refine aw_lconst (v := 0) (pc2 := 226) hk dX7_make_225 rfl (by decide) ?_
                      refine h_last (pc2 := 227) hk dX7_make_226 rfl rfl rfl (by omega) (by decide) ?_
                      have loop2 : ∀ (k2 r : Nat), r ≤ 4 → 5 ≤ r + k2 → AW K Q 0 0 230 [some (.ref 78), some (.int (mkN I fc)), some (.int (nI oc)), some (.int (nI f)), some (.int (nI (12 * oc + m))), some (.int (nI r))] [] n (H5 d (u2 (u2 (u2 (u2 I' 96 (12 * oc + m) (nI f)) 97 (12 * oc + m) 0) 98 (12 * oc + m) (wtd I f)) 99 (12 * oc + m) 0) (gt4 (u2 (u2 (u2 (u2 (u2 (u2 (u2 J' 101 (12 * oc + m) 0) 102 (12 * oc + m) 0) 103 (12 * oc + m) 0) 104 (12 * oc + m) 0) 105 (12 * oc + m) 0) 106 (12 * oc + m) 0) 107 (12 * oc + m) 0) (12 * oc + m) r (fun _ => 0)) S L R) := by
                        intro k2
                        induction k2 with
                        | zero => intro r h1 h2; omega
                        | succ k2 ih2 =>
                          intro r hr5 hn2
                          refine aw_iload (pc2 := 232) hk dX7_make_230 rfl rfl ?_
                          refine aw_iconst (v := 4) (pc2 := 233) hk dX7_make_232 rfl (by decide) ?_
                          refine aw_icN_ge (x := r) (y := 4) (tgt := 255) (pc2 := 236) hk dX7_make_233 (by decide) rfl rfl rfl (by omega) (by omega) (fun c233 => ?_) (fun c233 => ?_)
                          · obtain rfl : r = 4 := by omega
                            refine aw_aload_n (pc2 := 256) hk dX7_make_255 rfl rfl ?_
                            refine aw_get (pc2 := 259) hk ckX7 23 dX7_make_256 rfl fl_X7_63 (by decide) (o_X7 rfl) rfl ?_
                            refine aw_iload_n (pc2 := 260) hk dX7_make_259 rfl rfl ?_
                            refine aw_dup2_ir (pc2 := 261) hk dX7_make_260 rfl ?_
                            refine h_iald (pc2 := 262) hk dX7_make_261 rfl rfl rfl (by omega) (by decide) ?_
                            refine aw_iconst (v := 1) (pc2 := 263) hk dX7_make_262 rfl (by decide) ?_
                            refine aw_iadd (pc2 := 264) hk dX7_make_263 rfl ?_
                            refine aw_top (nI (m + 1)) (by rw [u2_a _ _ _ _ (by decide), u2_a _ _ _ _ (by decide), u2_a _ _ _ _ (by decide), u2_a _ _ _ _ (by decide), kC]; exact nI_1 m) ?_
                            refine h_iast (pc2 := 265) hk dX7_make_264 rfl rfl rfl (by omega) (by decide) ?_
                            refine aw_iinc1 (pc2 := 268) hk dX7_make_265 rfl rfl (by decide) ?_
                            show AW K Q _ _ 268 [_, _, _, _, _, _] _ _ _
                            refine aw_goto (tgt := 106) hk dX7_make_268 (by decide) ?_
                            first
                              | (have h9 := wt_t c119
                                 refine aw_fg 4 ?_
                                 refine aw_fg 5 ?_
                                 exact ih (f + 1) (m + 1) (skI I' oc m f (wtd I f)) (skJ J' (12 * oc + m)) (by omega) (by omega) ⟨m, I', J', hr, Or.inl ⟨h9, rfl, rfl, rfl⟩⟩)
                              | (have h9 := wt_f c119
                                 exact ih (f + 1) m I' J' (by omega) (by omega) ⟨m, I', J', hr, Or.inr ⟨h9, rfl, rfl, rfl⟩⟩)
                          · refine aw_aload_n (pc2 := 237) hk dX7_make_236 rfl rfl ?_
                            refine aw_get (pc2 := 240) hk ckX7 38 dX7_make_237 rfl fl_X7_109 (by decide) (o_X7 rfl) rfl ?_
                            refine aw_iconst (v := nI 4) (pc2 := 241) hk dX7_make_240 rfl (by decide) ?_
                            refine aw_iload (pc2 := 243) hk dX7_make_241 rfl rfl ?_
                            refine aw_imul (pc2 := 244) hk dX7_make_243 rfl ?_
                            refine aw_iload (pc2 := 246) hk dX7_make_244 rfl rfl ?_
                            refine aw_iadd (pc2 := 247) hk dX7_make_246 rfl ?_
                            rw [mulN]
                            refine aw_lconst (v := 0) (pc2 := 248) hk dX7_make_247 rfl (by decide) ?_
                            refine h_last (pc2 := 249) hk dX7_make_248 rfl rfl rfl (by omega) (by decide) ?_
                            rw [gt4_st (u2 (u2 (u2 (u2 (u2 (u2 (u2 J' 101 (12 * oc + m) 0) 102 (12 * oc + m) 0) 103 (12 * oc + m) 0) 104 (12 * oc + m) 0) 105 (12 * oc + m) 0) 106 (12 * oc + m) 0) 107 (12 * oc + m) 0) (12 * oc + m) r (fun _ => 0) rfl]
                            refine aw_iinc1 (pc2 := 252) hk dX7_make_249 rfl rfl (by decide) ?_
                            show AW K Q _ _ 252 [_, _, _, _, _, _] _ _ _
                            refine aw_goto (tgt := 230) hk dX7_make_252 (by decide) ?_
                            exact ih2 (r + 1) (by omega) (by omega)
                      refine aw_iconst (v := 0) (pc2 := 228) hk dX7_make_227 rfl (by decide) ?_
                      refine aw_istore (pc2 := 230) hk dX7_make_228 rfl (by decide) ?_
                      show AW K Q _ _ 230 [_, _, _, _, _, _] _ _ _
                      refine aw_Jm (gt4 (u2 (u2 (u2 (u2 (u2 (u2 (u2 J' 101 (12 * oc + m) 0) 102 (12 * oc + m) 0) 103 (12 * oc + m) 0) 104 (12 * oc + m) 0) 105 (12 * oc + m) 0) 106 (12 * oc + m) 0) 107 (12 * oc + m) 0) (12 * oc + m) 0 (fun _ => 0)) (gt4_0 _ _ _).symm ?_
                      exact loop2 5 0 (by omega) (by omega)
              refine aw_aload_n (pc2 := 64) hk dX7_make_63 rfl rfl ?_
              refine aw_get (pc2 := 67) hk ckX7 19 dX7_make_64 rfl fl_X7_197 (by decide) (o_X7 rfl) rfl ?_
              rw [hoc]
              refine aw_istore_n (pc2 := 68) hk dX7_make_67 rfl (by decide) ?_
              show AW K Q _ _ 68 [_, _, _, _, _, _] _ _ _
              refine aw_aload_n (pc2 := 69) hk dX7_make_68 rfl rfl ?_
              refine aw_get (pc2 := 72) hk ckX7 23 dX7_make_69 rfl fl_X7_63 (by decide) (o_X7 rfl) rfl ?_
              refine aw_iload_n (pc2 := 73) hk dX7_make_72 rfl rfl ?_
              refine aw_iconst (v := 0) (pc2 := 74) hk dX7_make_73 rfl (by decide) ?_
              refine h_iast (pc2 := 75) hk dX7_make_74 rfl rfl rfl (by omega) (by decide) ?_
              refine aw_aload_n (pc2 := 76) hk dX7_make_75 rfl rfl ?_
              refine aw_get (pc2 := 79) hk ckX7 21 dX7_make_76 rfl fl_X7_57 (by decide) (o_X7 rfl) rfl ?_
              refine aw_iload_n (pc2 := 80) hk dX7_make_79 rfl rfl ?_
              refine aw_aload_n (pc2 := 81) hk dX7_make_80 rfl rfl ?_
              refine aw_get (pc2 := 84) hk ckX7 16 dX7_make_81 rfl fl_X7_174 (by decide) (o_X7 rfl) rfl ?_
              refine h_iast (pc2 := 85) hk dX7_make_84 rfl rfl rfl (by omega) (by decide) ?_
              refine aw_aload_n (pc2 := 86) hk dX7_make_85 rfl rfl ?_
              refine aw_get (pc2 := 89) hk ckX7 22 dX7_make_86 rfl fl_X7_60 (by decide) (o_X7 rfl) rfl ?_
              refine aw_iload_n (pc2 := 90) hk dX7_make_89 rfl rfl ?_
              refine aw_aload_n (pc2 := 91) hk dX7_make_90 rfl rfl ?_
              refine aw_get (pc2 := 94) hk ckX7 15 dX7_make_91 rfl fl_X7_54 (by decide) (o_X7 rfl) rfl ?_
              refine aw_iconst (v := 4) (pc2 := 95) hk dX7_make_94 rfl (by decide) ?_
              refine h_iald (pc2 := 96) hk dX7_make_95 rfl rfl (show (4 : Int32) = nI 4 from rfl) (by decide) (by decide) ?_
              refine aw_top (I 91 4) (by rw [u2_a _ _ _ _ (by decide), u2_a _ _ _ _ (by decide)]) ?_
              refine h_iast (pc2 := 97) hk dX7_make_96 rfl rfl rfl (by omega) (by decide) ?_
              refine aw_aload_n (pc2 := 98) hk dX7_make_97 rfl rfl ?_
              refine aw_get (pc2 := 101) hk ckX7 24 dX7_make_98 rfl fl_X7_66 (by decide) (o_X7 rfl) rfl ?_
              refine aw_iload_n (pc2 := 102) hk dX7_make_101 rfl rfl ?_
              refine aw_iconst (v := 0) (pc2 := 103) hk dX7_make_102 rfl (by decide) ?_
              refine h_zast (pc2 := 104) hk dX7_make_103 rfl rfl rfl (by omega) (by decide) (by first | exact Or.inl rfl | exact Or.inr rfl) ?_
              show AW K Q _ _ _ _ _ _ (H5 d (mkI I S oc) J S L R)
              refine aw_iconst (v := 0) (pc2 := 105) hk dX7_make_104 rfl (by decide) ?_
              refine aw_istore_n (pc2 := 106) hk dX7_make_105 rfl (by decide) ?_
              show AW K Q _ _ 106 [_, _, _, _, _, _] _ _ _
              exact loopB (fc + 1) 0 0 (mkI I S oc) J (by omega) (by omega) ⟨rfl, rfl, rfl⟩
            · refine aw_bipush (v := -104) (pc2 := 62) hk dX7_make_60 rfl (by decide) ?_
              refine aw_iret hk dX7_make_62 (Nat.le_of_ble_eq_true rfl) (Nat.le_of_ble_eq_true rfl) (hq3 (bi_ff c4) c45 c57)
          · refine aw_bipush (v := -102) (pc2 := 50) hk dX7_make_48 rfl (by decide) ?_
            refine aw_iret hk dX7_make_50 (Nat.le_of_ble_eq_true rfl) (Nat.le_of_ble_eq_true rfl) (hq2 (bi_ff c4) c45)
        · refine aw_iload_n (pc2 := 23) hk dX7_make_22 rfl rfl ?_
          refine aw_aload_n (pc2 := 24) hk dX7_make_23 rfl rfl ?_
          refine aw_iload_n (pc2 := 25) hk dX7_make_24 rfl rfl ?_
          refine aw_cV (rm2 := rmX7_wanted) (pc2 := 28) hk veX7_wanted dX7_make_25 rfl ml_X7_203 ⟨(Nat.le_of_ble_eq_true rfl), (Nat.le_of_ble_eq_true rfl)⟩ [_] rfl rfl (Nat.le_of_ble_eq_true rfl) (Nat.le_of_ble_eq_true rfl) (Nat.le_of_ble_eq_true rfl) (o_X7 rfl) (m_wanted ?_)
          show AW K Q _ _ _ _ (.int (wtd I i) :: _) _ _
          refine aw_if_le (tgt := 35) (pc2 := 31) hk dX7_make_28 (by decide) rfl (fun c28 => ?_) (fun c28 => ?_)
          · refine aw_iconst (v := 0) (pc2 := 36) hk dX7_make_35 rfl (by decide) ?_
            refine aw_iadd (pc2 := 37) hk dX7_make_36 rfl ?_
            refine aw_top (mkN I (i + 1)) (show _ + _ = sI _ i + bi (decide (0 < wtd I i)) by first | (rw [decide_eq_true (wt_t c28)]; rfl) | (rw [decide_eq_false (wt_f c28)]; rfl)) ?_
            refine aw_istore_n (pc2 := 38) hk dX7_make_37 rfl (by decide) ?_
            show AW K Q _ _ 38 [_, _, _, _, _, _] _ _ _
            refine aw_iinc1 (pc2 := 41) hk dX7_make_38 rfl rfl (by decide) ?_
            show AW K Q _ _ 41 [_, _, _, _, _, _] _ _ _
            refine aw_goto (tgt := 14) hk dX7_make_41 (by decide) ?_
            exact ih (i + 1) (by omega) (by omega)
          · refine aw_iconst (v := 1) (pc2 := 32) hk dX7_make_31 rfl (by decide) ?_
            refine aw_goto (tgt := 36) hk dX7_make_32 (by decide) ?_
            refine aw_iadd (pc2 := 37) hk dX7_make_36 rfl ?_
            refine aw_top (mkN I (i + 1)) (show _ + _ = sI _ i + bi (decide (0 < wtd I i)) by first | (rw [decide_eq_true (wt_t c28)]; rfl) | (rw [decide_eq_false (wt_f c28)]; rfl)) ?_
            refine aw_istore_n (pc2 := 38) hk dX7_make_37 rfl (by decide) ?_
            show AW K Q _ _ 38 [_, _, _, _, _, _] _ _ _
            refine aw_iinc1 (pc2 := 41) hk dX7_make_38 rfl rfl (by decide) ?_
            show AW K Q _ _ 41 [_, _, _, _, _, _] _ _ _
            refine aw_goto (tgt := 14) hk dX7_make_41 (by decide) ?_
            exact ih (i + 1) (by omega) (by omega)
    refine aw_iconst (v := 0) (pc2 := 11) hk dX7_make_10 rfl (by decide) ?_
    refine aw_istore_n (pc2 := 12) hk dX7_make_11 rfl (by decide) ?_
    show AW K Q _ _ 12 [_, _, _, _, _, _] _ _ _
    refine aw_iconst (v := 0) (pc2 := 13) hk dX7_make_12 rfl (by decide) ?_
    refine aw_istore_n (pc2 := 14) hk dX7_make_13 rfl (by decide) ?_
    show AW K Q _ _ 14 [_, _, _, _, _, _] _ _ _
    exact loopA (fc + 1) 0 (by omega) (by omega)
  · refine aw_bipush (v := -103) (pc2 := 9) hk dX7_make_7 rfl (by decide) ?_
    refine aw_iret hk dX7_make_9 (Nat.le_of_ble_eq_true rfl) (Nat.le_of_ble_eq_true rfl) (hq1 (bi_tt c4))
