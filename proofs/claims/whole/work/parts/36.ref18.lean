section
variable {d : Nat} {M : mH} {Q : Option Value → mH → Prop}
/-- each FILTER has at most ten steps -/
def WRg (r : RS) : Prop := ∀ n, n < 4 → ∃ s, s ≤ 10 ∧ r 36 n = nI s
/-- FILTER a is GOOD -/
abbrev goodX (r : RS) (a : Int32) : Prop := (nI 0 ≤ a ∧ a ≤ nI 3) ∧ good r a.toNatClampNeg (r 36 a.toNatClampNeg).toNatClampNeg
theorem c_isGood (hw : wf M) (hg : WRg (rg M)) {a : Int32} : Vc (d + 1) 64 [rf (some 145), .int a] M Q = if goodX (rg M) a then Q (some (.int (nI 1))) M else Q (some (.int (nI 0))) M := by
  by_cases h : nI 0 ≤ a ∧ a ≤ nI 3
  · obtain ⟨n, hn, rfl⟩ := in_nI (by decide) h
    have hn : n < 4 := by omega
    obtain ⟨s, hs, hsn⟩ := hg n hn
    rw [c_isGood_in hw hn hs hsn]
    have e1 : (nI n).toNatClampNeg = n := nI_clamp (by omega)
    have e2 : (rg M 36 n).toNatClampNeg = s := by rw [hsn, nI_clamp (by omega)]
    by_cases hgd : good (rg M) n s
    · rw [if_pos hgd, if_pos ⟨h, by rw [e1, e2]; exact hgd⟩]
    · rw [if_neg hgd, if_neg (fun z => hgd (by have := z.2; rw [e1, e2] at this; exact this))]
  · rw [c_isGood_out hw h, if_neg (fun z => h z.1)]
/-- the call FILTER -/
def filtR (r : RS) (p m : Nat) (a : Int32) : Int32 × RS := if goodX r a then (if m = 3 then (-5, r) else (nI 0, ru (ru r 29 p (nI (m + 1))) 30 (3 * p + m) a)) else (-3, r)
theorem c_filt (hw : wf M) (hg : WRg (rg M)) {p m : Nat} (hp : p < 16) (hm : m ≤ 3) (hpm : rg M 29 p = nI m) {a : Int32} {l2 l4 l5 l6 l7 : Option Value} : ∃ M', (∀ Q, V (d + 2) 93 243 [some (rf (some 145)), some (.int (nI p)), l2, some (.int a), l4, l5, l6, l7] [] M Q = Q (some (.int (filtR (rg M) p m a).1)) M') ∧ wf M' ∧ rg M' = (filtR (rg M) p m a).2 ∧ cg M' = cg M := by
  unfold filtR
  by_cases h : goodX (rg M) a
  · rw [if_pos h]
    by_cases h3 : m = 3
    · rw [if_pos h3]
      subst h3
      refine ⟨M, fun Q => ?_, hw, rfl, rfl⟩
      simp only [s_93_243, s_93_244, s_93_245 hw sh_145, c_isGood hw hg, if_pos h, s_93_248, s_93_254, s_93_255, s_93_258, s_93_259, s_93_260, s_93_261, s_93_264, s_93_266, eq_self, Nat.reduceLT, Nat.reduceLeDiff, Nat.reduceMod, Nat.reduceDiv, Nat.reduceAdd, Nat.reduceMul, Option.toList_some, Option.toList_none, List.cons_append, List.nil_append, List.append_nil, n10, n00, if_true, if_false, b0, b1, nI_add, true_and, and_true, and_self, sh_145, k_145_0, k_145_1, k_145_2, k_145_3, k_145_4, k_145_5, k_145_6, k_145_7, k_145_8, k_145_9, k_145_10, k_145_11, k_145_12, k_145_13, k_145_14, k_145_15, k_145_16, k_145_17, k_145_18, k_145_19, k_145_20, k_145_21, k_145_22, k_145_23, k_145_24, k_145_25, k_145_26, k_145_27, k_145_28, k_145_29, k_145_30, k_145_31, k_145_32, k_145_33, k_145_34, k_145_35, sh_146, sh_147, sh_148, sh_149, sh_150, sh_151, sh_152, sh_153, sh_154, sh_155, sh_156, sh_157, sh_158, sh_159, sh_160, sh_161, sh_162, sh_163, sh_164, sh_165, sh_166, sh_167, sh_168, sh_169, sh_170, sh_171, sh_172, sh_173, sh_174, sh_175, sh_176, sh_177, sh_178, sh_179, sh_180, sh_181, g_146, g_147, g_148, g_149, g_150, g_151, g_152, g_153, g_154, g_155, g_156, g_157, g_158, g_159, g_160, g_161, g_162, g_163, g_164, g_165, g_166, g_167, g_168, g_169, g_170, g_171, g_172, g_173, g_174, g_175, g_176, g_177, g_178, g_179, g_180, g_181, g_145_36, g_145_37, g_145_38, g_145_39, g_145_40, g_145_41, hw, hp, hpm]
    · rw [if_neg h3]
      have i1 : 3 * p + m < 48 := by omega
      have h3' : (nI m = nI 3) = False := eq_false (fun z => h3 ((nI_eq (by omega) (by decide)).mp z))
      have w1 := wm_174 hw hp (x := nI (m + 1))
      have w2 := wm_175 w1 i1 (x := a)
      refine ⟨_, fun Q => ?_, w2, by rw [rm_175 w1 i1, rm_174 hw hp], by rw [cm_175 w1 i1, cm_174 hw hp]⟩
      simp only [s_93_243, s_93_244, s_93_245 hw sh_145, c_isGood hw hg, if_pos h, s_93_248, s_93_254, s_93_255, s_93_258, s_93_259, s_93_260, s_93_261, h3', s_93_267, s_93_268, s_93_271, s_93_272, s_93_273, s_93_274, s_93_275, s_93_278, s_93_279, s_93_280, s_93_281, s_93_282, s_93_283, s_93_284, s_93_285, s_93_286, s_93_287, s_93_288, s_93_289, eq_self, Nat.reduceLT, Nat.reduceLeDiff, Nat.reduceMod, Nat.reduceDiv, Nat.reduceAdd, Nat.reduceMul, Option.toList_some, Option.toList_none, List.cons_append, List.nil_append, List.append_nil, n10, n00, if_true, if_false, b0, b1, nI_add, true_and, and_true, and_self, sh_145, k_145_0, k_145_1, k_145_2, k_145_3, k_145_4, k_145_5, k_145_6, k_145_7, k_145_8, k_145_9, k_145_10, k_145_11, k_145_12, k_145_13, k_145_14, k_145_15, k_145_16, k_145_17, k_145_18, k_145_19, k_145_20, k_145_21, k_145_22, k_145_23, k_145_24, k_145_25, k_145_26, k_145_27, k_145_28, k_145_29, k_145_30, k_145_31, k_145_32, k_145_33, k_145_34, k_145_35, sh_146, sh_147, sh_148, sh_149, sh_150, sh_151, sh_152, sh_153, sh_154, sh_155, sh_156, sh_157, sh_158, sh_159, sh_160, sh_161, sh_162, sh_163, sh_164, sh_165, sh_166, sh_167, sh_168, sh_169, sh_170, sh_171, sh_172, sh_173, sh_174, sh_175, sh_176, sh_177, sh_178, sh_179, sh_180, sh_181, g_146, g_147, g_148, g_149, g_150, g_151, g_152, g_153, g_154, g_155, g_156, g_157, g_158, g_159, g_160, g_161, g_162, g_163, g_164, g_165, g_166, g_167, g_168, g_169, g_170, g_171, g_172, g_173, g_174, g_175, g_176, g_177, g_178, g_179, g_180, g_181, g_145_36, g_145_37, g_145_38, g_145_39, g_145_40, g_145_41, hw, hp, hpm, pk_mul, w1, i1]
  · rw [if_neg h]
    refine ⟨M, fun Q => ?_, hw, rfl, rfl⟩
    simp only [s_93_243, s_93_244, s_93_245 hw sh_145, c_isGood hw hg, if_neg h, s_93_248, s_93_251, s_93_253, eq_self, Nat.reduceLT, Nat.reduceLeDiff, Nat.reduceMod, Nat.reduceDiv, Nat.reduceAdd, Nat.reduceMul, Option.toList_some, Option.toList_none, List.cons_append, List.nil_append, List.append_nil, n10, n00, if_true, if_false, b0, b1, nI_add, true_and, and_true, and_self]
/-- SEND and TAKE on queue q of size m -/
def sendR (r : RS) (q m : Nat) (b : Int32) : Int32 × RS := if m = 3 then (-5, r) else (nI 0, ru (ru r 15 q (nI (m + 1))) 16 (3 * q + m) b)
theorem c_send (hw : wf M) {q m : Nat} (hq : q < 8) (hm : m ≤ 3) (hqm : rg M 15 q = nI m) {b : Int32} {l1 l2 l3 l5 l7 l8 : Option Value} : ∃ M', (∀ Q, V d 85 147 [some (rf (some 145)), l1, l2, l3, some (.int b), l5, some (.int (nI q)), l7, l8] [] M Q = Q (some (.int (sendR (rg M) q m b).1)) M') ∧ wf M' ∧ rg M' = (sendR (rg M) q m b).2 ∧ cg M' = cg M := by
  unfold sendR
  by_cases h3 : m = 3
  · rw [if_pos h3]
    subst h3
    refine ⟨M, fun Q => ?_, hw, rfl, rfl⟩
    simp only [s_85_147, s_85_148, s_85_151, s_85_153, s_85_154, s_85_155, s_85_158, s_85_160, eq_self, Nat.reduceLT, Nat.reduceLeDiff, Nat.reduceMod, Nat.reduceDiv, Nat.reduceAdd, Nat.reduceMul, Option.toList_some, Option.toList_none, List.cons_append, List.nil_append, List.append_nil, n10, n00, if_true, if_false, b0, b1, nI_add, true_and, and_true, and_self, sh_145, k_145_0, k_145_1, k_145_2, k_145_3, k_145_4, k_145_5, k_145_6, k_145_7, k_145_8, k_145_9, k_145_10, k_145_11, k_145_12, k_145_13, k_145_14, k_145_15, k_145_16, k_145_17, k_145_18, k_145_19, k_145_20, k_145_21, k_145_22, k_145_23, k_145_24, k_145_25, k_145_26, k_145_27, k_145_28, k_145_29, k_145_30, k_145_31, k_145_32, k_145_33, k_145_34, k_145_35, sh_146, sh_147, sh_148, sh_149, sh_150, sh_151, sh_152, sh_153, sh_154, sh_155, sh_156, sh_157, sh_158, sh_159, sh_160, sh_161, sh_162, sh_163, sh_164, sh_165, sh_166, sh_167, sh_168, sh_169, sh_170, sh_171, sh_172, sh_173, sh_174, sh_175, sh_176, sh_177, sh_178, sh_179, sh_180, sh_181, g_146, g_147, g_148, g_149, g_150, g_151, g_152, g_153, g_154, g_155, g_156, g_157, g_158, g_159, g_160, g_161, g_162, g_163, g_164, g_165, g_166, g_167, g_168, g_169, g_170, g_171, g_172, g_173, g_174, g_175, g_176, g_177, g_178, g_179, g_180, g_181, g_145_36, g_145_37, g_145_38, g_145_39, g_145_40, g_145_41, hw, hq, hqm]
  · rw [if_neg h3]
    have i1 : 3 * q + m < 24 := by omega
    have h3' : (nI m = nI 3) = False := eq_false (fun z => h3 ((nI_eq (by omega) (by decide)).mp z))
    have w1 := wm_160 hw hq (x := nI (m + 1))
    have w2 := wm_161 w1 i1 (x := b)
    refine ⟨_, fun Q => ?_, w2, by rw [rm_161 w1 i1, rm_160 hw hq], by rw [cm_161 w1 i1, cm_160 hw hq]⟩
    simp only [s_85_147, s_85_148, s_85_151, s_85_153, s_85_154, s_85_155, h3', s_85_161, s_85_162, s_85_165, s_85_166, s_85_168, s_85_169, s_85_170, s_85_173, s_85_175, s_85_176, s_85_177, s_85_178, s_85_179, s_85_180, s_85_181, s_85_182, s_85_184, s_85_185, s_85_186, eq_self, Nat.reduceLT, Nat.reduceLeDiff, Nat.reduceMod, Nat.reduceDiv, Nat.reduceAdd, Nat.reduceMul, Option.toList_some, Option.toList_none, List.cons_append, List.nil_append, List.append_nil, n10, n00, if_true, if_false, b0, b1, nI_add, true_and, and_true, and_self, sh_145, k_145_0, k_145_1, k_145_2, k_145_3, k_145_4, k_145_5, k_145_6, k_145_7, k_145_8, k_145_9, k_145_10, k_145_11, k_145_12, k_145_13, k_145_14, k_145_15, k_145_16, k_145_17, k_145_18, k_145_19, k_145_20, k_145_21, k_145_22, k_145_23, k_145_24, k_145_25, k_145_26, k_145_27, k_145_28, k_145_29, k_145_30, k_145_31, k_145_32, k_145_33, k_145_34, k_145_35, sh_146, sh_147, sh_148, sh_149, sh_150, sh_151, sh_152, sh_153, sh_154, sh_155, sh_156, sh_157, sh_158, sh_159, sh_160, sh_161, sh_162, sh_163, sh_164, sh_165, sh_166, sh_167, sh_168, sh_169, sh_170, sh_171, sh_172, sh_173, sh_174, sh_175, sh_176, sh_177, sh_178, sh_179, sh_180, sh_181, g_146, g_147, g_148, g_149, g_150, g_151, g_152, g_153, g_154, g_155, g_156, g_157, g_158, g_159, g_160, g_161, g_162, g_163, g_164, g_165, g_166, g_167, g_168, g_169, g_170, g_171, g_172, g_173, g_174, g_175, g_176, g_177, g_178, g_179, g_180, g_181, g_145_36, g_145_37, g_145_38, g_145_39, g_145_40, g_145_41, hw, hq, hqm, pk_mul, w1, i1]
/-- the others move up -/
def mvq (q : Nat) : Nat → Nat → RS → RS
  | 0, _, r => r
  | k + 1, j, r => mvq q k (j + 1) (ru r 16 (3 * q + j) (r 16 (3 * q + j + 1)))
theorem c_mvq {q m : Nat} (hq : q < 8) (hm : m ≤ 2) {v : Int32} {l1 l2 l3 l4 l5 : Option Value} : ∀ k j M, wf M → rg M 15 q = nI m → j + k = m → ∃ M', (∀ Q, V d 85 237 [some (rf (some 145)), l1, l2, l3, l4, l5, some (.int (nI q)), some (.int v), some (.int (nI j))] [] M Q = Q (some (.int v)) M') ∧ wf M' ∧ rg M' = mvq q k j (rg M) ∧ cg M' = cg M := by
  intro k
  induction k with
  | zero =>
    intro j M hw hqm hj
    obtain rfl : j = m := by omega
    refine ⟨M, fun Q => ?_, hw, rfl, rfl⟩
    rw [s_85_237]
    simp only [s_85_239, s_85_240, s_85_243, s_85_245, s_85_246, s_85_281, s_85_283, eq_self, Nat.reduceLT, Nat.reduceLeDiff, Nat.reduceMod, Nat.reduceDiv, Nat.reduceAdd, Nat.reduceMul, Option.toList_some, Option.toList_none, List.cons_append, List.nil_append, List.append_nil, n10, n00, if_true, if_false, b0, b1, nI_add, true_and, and_true, and_self, sh_145, k_145_0, k_145_1, k_145_2, k_145_3, k_145_4, k_145_5, k_145_6, k_145_7, k_145_8, k_145_9, k_145_10, k_145_11, k_145_12, k_145_13, k_145_14, k_145_15, k_145_16, k_145_17, k_145_18, k_145_19, k_145_20, k_145_21, k_145_22, k_145_23, k_145_24, k_145_25, k_145_26, k_145_27, k_145_28, k_145_29, k_145_30, k_145_31, k_145_32, k_145_33, k_145_34, k_145_35, sh_146, sh_147, sh_148, sh_149, sh_150, sh_151, sh_152, sh_153, sh_154, sh_155, sh_156, sh_157, sh_158, sh_159, sh_160, sh_161, sh_162, sh_163, sh_164, sh_165, sh_166, sh_167, sh_168, sh_169, sh_170, sh_171, sh_172, sh_173, sh_174, sh_175, sh_176, sh_177, sh_178, sh_179, sh_180, sh_181, g_146, g_147, g_148, g_149, g_150, g_151, g_152, g_153, g_154, g_155, g_156, g_157, g_158, g_159, g_160, g_161, g_162, g_163, g_164, g_165, g_166, g_167, g_168, g_169, g_170, g_171, g_172, g_173, g_174, g_175, g_176, g_177, g_178, g_179, g_180, g_181, g_145_36, g_145_37, g_145_38, g_145_39, g_145_40, g_145_41, hw, hq, hqm, show nI j ≤ nI j from Int32.le_refl _]
  | succ k ih =>
    intro j M hw hqm hj
    have i1 : 3 * q + j < 24 := by omega
    have i2 : 3 * q + j + 1 < 24 := by omega
    have w1 := wm_161 hw i1 (x := rg M 16 (3 * q + j + 1))
    obtain ⟨M', g1, g2, g3, g4⟩ := ih (j + 1) _ w1 (by rw [rm_161 hw i1]; simp only [ru, Nat.reduceEqDiff, false_and, if_false]; exact hqm) (by omega)
    refine ⟨M', fun Q => ?_, g2, by rw [g3, rm_161 hw i1, mvq], by rw [g4, cm_161 hw i1]⟩
    rw [s_85_237]
    simp only [s_85_239, s_85_240, s_85_243, s_85_245, s_85_246, s_85_249, s_85_250, s_85_253, s_85_254, s_85_256, s_85_257, s_85_259, s_85_260, s_85_261, s_85_264, s_85_265, s_85_267, s_85_268, s_85_270, s_85_271, s_85_272, s_85_273, s_85_274, s_85_275, s_85_278, eq_self, Nat.reduceLT, Nat.reduceLeDiff, Nat.reduceMod, Nat.reduceDiv, Nat.reduceAdd, Nat.reduceMul, Option.toList_some, Option.toList_none, List.cons_append, List.nil_append, List.append_nil, n10, n00, if_true, if_false, b0, b1, nI_add, true_and, and_true, and_self, sh_145, k_145_0, k_145_1, k_145_2, k_145_3, k_145_4, k_145_5, k_145_6, k_145_7, k_145_8, k_145_9, k_145_10, k_145_11, k_145_12, k_145_13, k_145_14, k_145_15, k_145_16, k_145_17, k_145_18, k_145_19, k_145_20, k_145_21, k_145_22, k_145_23, k_145_24, k_145_25, k_145_26, k_145_27, k_145_28, k_145_29, k_145_30, k_145_31, k_145_32, k_145_33, k_145_34, k_145_35, sh_146, sh_147, sh_148, sh_149, sh_150, sh_151, sh_152, sh_153, sh_154, sh_155, sh_156, sh_157, sh_158, sh_159, sh_160, sh_161, sh_162, sh_163, sh_164, sh_165, sh_166, sh_167, sh_168, sh_169, sh_170, sh_171, sh_172, sh_173, sh_174, sh_175, sh_176, sh_177, sh_178, sh_179, sh_180, sh_181, g_146, g_147, g_148, g_149, g_150, g_151, g_152, g_153, g_154, g_155, g_156, g_157, g_158, g_159, g_160, g_161, g_162, g_163, g_164, g_165, g_166, g_167, g_168, g_169, g_170, g_171, g_172, g_173, g_174, g_175, g_176, g_177, g_178, g_179, g_180, g_181, g_145_36, g_145_37, g_145_38, g_145_39, g_145_40, g_145_41, hw, hq, hqm, nI_ge (show j < m by omega) (by omega), pk_mul, i1, i2]
    exact g1 Q
def takeR (r : RS) (q m : Nat) : Int32 × RS := if m = 0 then (-10, r) else (r 16 (3 * q), mvq q (m - 1) 0 (ru r 15 q (nI (m - 1))))
theorem c_take (hw : wf M) {q m : Nat} (hq : q < 8) (hm : m ≤ 3) (hqm : rg M 15 q = nI m) {l1 l2 l3 l4 l5 l7 l8 : Option Value} : ∃ M', (∀ Q, V d 85 199 [some (rf (some 145)), l1, l2, l3, l4, l5, some (.int (nI q)), l7, l8] [] M Q = Q (some (.int (takeR (rg M) q m).1)) M') ∧ wf M' ∧ rg M' = (takeR (rg M) q m).2 ∧ cg M' = cg M := by
  unfold takeR
  by_cases h0 : m = 0
  · rw [if_pos h0]
    subst h0
    refine ⟨M, fun Q => ?_, hw, rfl, rfl⟩
    simp only [s_85_199, s_85_200, s_85_203, s_85_205, s_85_206, s_85_209, s_85_211, eq_self, Nat.reduceLT, Nat.reduceLeDiff, Nat.reduceMod, Nat.reduceDiv, Nat.reduceAdd, Nat.reduceMul, Option.toList_some, Option.toList_none, List.cons_append, List.nil_append, List.append_nil, n10, n00, if_true, if_false, b0, b1, nI_add, true_and, and_true, and_self, sh_145, k_145_0, k_145_1, k_145_2, k_145_3, k_145_4, k_145_5, k_145_6, k_145_7, k_145_8, k_145_9, k_145_10, k_145_11, k_145_12, k_145_13, k_145_14, k_145_15, k_145_16, k_145_17, k_145_18, k_145_19, k_145_20, k_145_21, k_145_22, k_145_23, k_145_24, k_145_25, k_145_26, k_145_27, k_145_28, k_145_29, k_145_30, k_145_31, k_145_32, k_145_33, k_145_34, k_145_35, sh_146, sh_147, sh_148, sh_149, sh_150, sh_151, sh_152, sh_153, sh_154, sh_155, sh_156, sh_157, sh_158, sh_159, sh_160, sh_161, sh_162, sh_163, sh_164, sh_165, sh_166, sh_167, sh_168, sh_169, sh_170, sh_171, sh_172, sh_173, sh_174, sh_175, sh_176, sh_177, sh_178, sh_179, sh_180, sh_181, g_146, g_147, g_148, g_149, g_150, g_151, g_152, g_153, g_154, g_155, g_156, g_157, g_158, g_159, g_160, g_161, g_162, g_163, g_164, g_165, g_166, g_167, g_168, g_169, g_170, g_171, g_172, g_173, g_174, g_175, g_176, g_177, g_178, g_179, g_180, g_181, g_145_36, g_145_37, g_145_38, g_145_39, g_145_40, g_145_41, hw, hq, hqm]
  · rw [if_neg h0]
    have i0 : 3 * q < 24 := by omega
    have h0' : (nI m = 0) = False := eq_false (nI_ne0 (by omega) (by omega))
    have hsub : nI m - nI 1 = nI (m - 1) := pk_sub (by omega)
    have w1 := wm_160 hw hq (x := nI (m - 1))
    obtain ⟨M', g1, g2, g3, g4⟩ := c_mvq (d := d) hq (m := m - 1) (by omega) (v := rg M 16 (3 * q)) (l1 := l1) (l2 := l2) (l3 := l3) (l4 := l4) (l5 := l5) (m - 1) 0 _ w1 (by rw [rm_160 hw hq]; simp only [ru, and_self, if_true]) (by omega)
    refine ⟨M', fun Q => ?_, g2, by rw [g3, rm_160 hw hq], by rw [g4, cm_160 hw hq]⟩
    simp only [s_85_199, s_85_200, s_85_203, s_85_205, s_85_206, h0', s_85_212, s_85_213, s_85_216, s_85_217, s_85_219, s_85_220, s_85_221, s_85_223, s_85_224, s_85_227, s_85_229, s_85_230, s_85_231, s_85_232, s_85_233, s_85_234, s_85_235, eq_self, Nat.reduceLT, Nat.reduceLeDiff, Nat.reduceMod, Nat.reduceDiv, Nat.reduceAdd, Nat.reduceMul, Option.toList_some, Option.toList_none, List.cons_append, List.nil_append, List.append_nil, n10, n00, if_true, if_false, b0, b1, nI_add, true_and, and_true, and_self, sh_145, k_145_0, k_145_1, k_145_2, k_145_3, k_145_4, k_145_5, k_145_6, k_145_7, k_145_8, k_145_9, k_145_10, k_145_11, k_145_12, k_145_13, k_145_14, k_145_15, k_145_16, k_145_17, k_145_18, k_145_19, k_145_20, k_145_21, k_145_22, k_145_23, k_145_24, k_145_25, k_145_26, k_145_27, k_145_28, k_145_29, k_145_30, k_145_31, k_145_32, k_145_33, k_145_34, k_145_35, sh_146, sh_147, sh_148, sh_149, sh_150, sh_151, sh_152, sh_153, sh_154, sh_155, sh_156, sh_157, sh_158, sh_159, sh_160, sh_161, sh_162, sh_163, sh_164, sh_165, sh_166, sh_167, sh_168, sh_169, sh_170, sh_171, sh_172, sh_173, sh_174, sh_175, sh_176, sh_177, sh_178, sh_179, sh_180, sh_181, g_146, g_147, g_148, g_149, g_150, g_151, g_152, g_153, g_154, g_155, g_156, g_157, g_158, g_159, g_160, g_161, g_162, g_163, g_164, g_165, g_166, g_167, g_168, g_169, g_170, g_171, g_172, g_173, g_174, g_175, g_176, g_177, g_178, g_179, g_180, g_181, g_145_36, g_145_37, g_145_38, g_145_39, g_145_40, g_145_41, hw, hq, hqm, pk_mul, i0, hsub]
    exact g1 Q
/-! START -/
/-- the reference's started cage -/
def staM (M : mH) (p c : Nat) (pw f fl : Int32) : mH :=
  mu (mu (mu (mu (mu (mu (beginM (mu (mu M 162 c (.int (nI 1))) 159 c (.int (nI 0))) p c (nI 0) (-1)) 176 (4 * p) (.int pw)) 176 (4 * p + 1) (.int pw)) 176 (4 * p + 2) (.int (nI 0))) 176 (4 * p + 3) (.int pw)) 174 p (.int fl)) 175 (3 * p) (.int f)
def staR (r : RS) (p c : Nat) (pw f fl : Int32) : RS :=
  ru (ru (ru (ru (ru (ru (begR (ru (ru r 17 c (nI 1)) 14 c (nI 0)) p c (nI 0) (-1)) 31 (4 * p) pw) 31 (4 * p + 1) pw) 31 (4 * p + 2) (nI 0)) 31 (4 * p + 3) pw) 29 p fl) 30 (3 * p) f
theorem c_sta (hw : wf M) {p c : Nat} (hp : p < 16) (hc : c < 4) {pw f : Int32} : ∃ M', (∀ Q, V (d + 1) 71 72 [some (rf (some 145)), some (.int (nI c)), some (.int pw), some (.int f), some (.int (nI p)), none] [] M Q = Q (some (.int (nI p))) M') ∧ wf M' ∧ rg M' = staR (rg M) p c pw f (if 0 ≤ f then nI 1 else nI 0) ∧ cg M' = cg M := by
  have i0 : 4 * p < 64 := by omega
  have i1 : 4 * p + 1 < 64 := by omega
  have i2 : 4 * p + 2 < 64 := by omega
  have i3 : 4 * p + 3 < 64 := by omega
  have i4 : 3 * p < 48 := by omega
  have w1 := wm_162 hw hc b1
  have w2 := wm_159 w1 hc (x := nI 0)
  obtain ⟨w3, r3, c3⟩ := beginM_ok w2 hp hc (us := nI 0) (pa := -1)
  have w4 := wm_176 w3 i0 (x := pw)
  have w5 := wm_176 w4 i1 (x := pw)
  have w6 := wm_176 w5 i2 (x := nI 0)
  have w7 := wm_176 w6 i3 (x := pw)
  have w8 := wm_174 w7 hp (x := if 0 ≤ f then nI 1 else nI 0)
  have w9 := wm_175 w8 i4 (x := f)
  have q0 : (nI 4 ≤ nI 0) = False := eq_false (by decide)
  have q1 : (nI 4 ≤ nI 1) = False := eq_false (by decide)
  have q2 : (nI 4 ≤ nI 2) = False := eq_false (by decide)
  have q3 : (nI 4 ≤ nI 3) = False := eq_false (by decide)
  have q4 : (nI 4 ≤ nI 4) = True := eq_true (by decide)
  refine ⟨_, fun Q => ?_, w9, ?_, ?_⟩
  · simp only [s_71_72, s_71_73, s_71_76, s_71_77, s_71_78, s_71_79, s_71_80, s_71_83, s_71_84, s_71_85, s_71_86, s_71_87, s_71_89, s_71_90, s_71_91, s_71_92, s_71_95, s_71_96, s_71_98, s_71_100, s_71_101, s_71_104, s_71_105, s_71_108, s_71_109, s_71_111, s_71_112, s_71_114, s_71_115, s_71_117, s_71_118, s_71_121, s_71_122, s_71_125, s_71_126, s_71_127, s_71_130, eq_self, Nat.reduceLT, Nat.reduceLeDiff, Nat.reduceMod, Nat.reduceDiv, Nat.reduceAdd, Nat.reduceMul, Option.toList_some, Option.toList_none, List.cons_append, List.nil_append, List.append_nil, n10, n00, if_true, if_false, b0, b1, nI_add, true_and, and_true, and_self, nI_sm, Nat.reduceEqDiff, sh_145, k_145_0, k_145_1, k_145_2, k_145_3, k_145_4, k_145_5, k_145_6, k_145_7, k_145_8, k_145_9, k_145_10, k_145_11, k_145_12, k_145_13, k_145_14, k_145_15, k_145_16, k_145_17, k_145_18, k_145_19, k_145_20, k_145_21, k_145_22, k_145_23, k_145_24, k_145_25, k_145_26, k_145_27, k_145_28, k_145_29, k_145_30, k_145_31, k_145_32, k_145_33, k_145_34, k_145_35, sh_146, sh_147, sh_148, sh_149, sh_150, sh_151, sh_152, sh_153, sh_154, sh_155, sh_156, sh_157, sh_158, sh_159, sh_160, sh_161, sh_162, sh_163, sh_164, sh_165, sh_166, sh_167, sh_168, sh_169, sh_170, sh_171, sh_172, sh_173, sh_174, sh_175, sh_176, sh_177, sh_178, sh_179, sh_180, sh_181, g_146, g_147, g_148, g_149, g_150, g_151, g_152, g_153, g_154, g_155, g_156, g_157, g_158, g_159, g_160, g_161, g_162, g_163, g_164, g_165, g_166, g_167, g_168, g_169, g_170, g_171, g_172, g_173, g_174, g_175, g_176, g_177, g_178, g_179, g_180, g_181, g_145_36, g_145_37, g_145_38, g_145_39, g_145_40, g_145_41, hw, hc, hp, w1, w2, c_begin w2 hp hc, w3, w4, w5, w6, w7, q0, q1, q2, q3, q4, pk_mul, Nat.add_zero, i0, i1, i2, i3]
    by_cases hf : (0 : Int32) ≤ f
    · simp only [s_71_133, s_71_134, s_71_137, s_71_139, s_71_140, s_71_147, s_71_148, s_71_149, s_71_150, s_71_153, s_71_154, s_71_156, s_71_157, s_71_158, s_71_159, s_71_161, eq_self, Nat.reduceLT, Nat.reduceLeDiff, Nat.reduceMod, Nat.reduceDiv, Nat.reduceAdd, Nat.reduceMul, Option.toList_some, Option.toList_none, List.cons_append, List.nil_append, List.append_nil, n10, n00, if_true, if_false, b0, b1, nI_add, true_and, and_true, and_self, sh_145, k_145_0, k_145_1, k_145_2, k_145_3, k_145_4, k_145_5, k_145_6, k_145_7, k_145_8, k_145_9, k_145_10, k_145_11, k_145_12, k_145_13, k_145_14, k_145_15, k_145_16, k_145_17, k_145_18, k_145_19, k_145_20, k_145_21, k_145_22, k_145_23, k_145_24, k_145_25, k_145_26, k_145_27, k_145_28, k_145_29, k_145_30, k_145_31, k_145_32, k_145_33, k_145_34, k_145_35, sh_146, sh_147, sh_148, sh_149, sh_150, sh_151, sh_152, sh_153, sh_154, sh_155, sh_156, sh_157, sh_158, sh_159, sh_160, sh_161, sh_162, sh_163, sh_164, sh_165, sh_166, sh_167, sh_168, sh_169, sh_170, sh_171, sh_172, sh_173, sh_174, sh_175, sh_176, sh_177, sh_178, sh_179, sh_180, sh_181, g_146, g_147, g_148, g_149, g_150, g_151, g_152, g_153, g_154, g_155, g_156, g_157, g_158, g_159, g_160, g_161, g_162, g_163, g_164, g_165, g_166, g_167, g_168, g_169, g_170, g_171, g_172, g_173, g_174, g_175, g_176, g_177, g_178, g_179, g_180, g_181, g_145_36, g_145_37, g_145_38, g_145_39, g_145_40, g_145_41, hf, w7, hp, pk_mul, i4, wm_174 w7 hp]
    · simp only [s_71_133, s_71_134, s_71_137, s_71_139, s_71_140, s_71_143, s_71_144, s_71_148, s_71_149, s_71_150, s_71_153, s_71_154, s_71_156, s_71_157, s_71_158, s_71_159, s_71_161, eq_self, Nat.reduceLT, Nat.reduceLeDiff, Nat.reduceMod, Nat.reduceDiv, Nat.reduceAdd, Nat.reduceMul, Option.toList_some, Option.toList_none, List.cons_append, List.nil_append, List.append_nil, n10, n00, if_true, if_false, b0, b1, nI_add, true_and, and_true, and_self, sh_145, k_145_0, k_145_1, k_145_2, k_145_3, k_145_4, k_145_5, k_145_6, k_145_7, k_145_8, k_145_9, k_145_10, k_145_11, k_145_12, k_145_13, k_145_14, k_145_15, k_145_16, k_145_17, k_145_18, k_145_19, k_145_20, k_145_21, k_145_22, k_145_23, k_145_24, k_145_25, k_145_26, k_145_27, k_145_28, k_145_29, k_145_30, k_145_31, k_145_32, k_145_33, k_145_34, k_145_35, sh_146, sh_147, sh_148, sh_149, sh_150, sh_151, sh_152, sh_153, sh_154, sh_155, sh_156, sh_157, sh_158, sh_159, sh_160, sh_161, sh_162, sh_163, sh_164, sh_165, sh_166, sh_167, sh_168, sh_169, sh_170, sh_171, sh_172, sh_173, sh_174, sh_175, sh_176, sh_177, sh_178, sh_179, sh_180, sh_181, g_146, g_147, g_148, g_149, g_150, g_151, g_152, g_153, g_154, g_155, g_156, g_157, g_158, g_159, g_160, g_161, g_162, g_163, g_164, g_165, g_166, g_167, g_168, g_169, g_170, g_171, g_172, g_173, g_174, g_175, g_176, g_177, g_178, g_179, g_180, g_181, g_145_36, g_145_37, g_145_38, g_145_39, g_145_40, g_145_41, hf, w7, hp, pk_mul, i4, wm_174 w7 hp]
  · rw [rm_175 w8 i4, rm_174 w7 hp, rm_176 w6 i3, rm_176 w5 i2, rm_176 w4 i1, rm_176 w3 i0, r3, rm_159 w1 hc, rm_162 hw hc b1, staR]
  · rw [cm_175 w8 i4, cm_174 w7 hp, cm_176 w6 i3, cm_176 w5 i2, cm_176 w4 i1, cm_176 w3 i0, c3, cm_159 w1 hc, cm_162 hw hc b1]
end
