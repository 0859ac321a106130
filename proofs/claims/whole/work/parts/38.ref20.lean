section
variable {d : Nat} {M : mH} {Q : Option Value → mH → Prop}
def putR (r : RS) (n : Nat) (a nm kd ow mk : Int32) : RS := ru (ru (ru (ru (ru (ru (ru r 1 n (nI 1)) 2 n a) 3 n nm) 4 n kd) 5 n ow) 7 n mk) 6 n (nI 0)
theorem putM_ok (hw : wf M) {n : Nat} (hn : n < 32) {a nm kd ow mk : Int32} : wf (putM M n a nm kd ow mk) ∧ rg (putM M n a nm kd ow mk) = putR (rg M) n a nm kd ow mk ∧ cg (putM M n a nm kd ow mk) = cg M := by
  have w1 := wm_146 hw hn b1
  have w2 := wm_147 w1 hn (x := a)
  have w3 := wm_148 w2 hn (x := nm)
  have w4 := wm_149 w3 hn (x := kd)
  have w5 := wm_150 w4 hn (x := ow)
  have w6 := wm_152 w5 hn (x := mk)
  have w7 := wm_151 w6 hn (x := nI 0)
  refine ⟨w7, ?_, ?_⟩
  · rw [putM, rm_151 w6 hn, rm_152 w5 hn, rm_150 w4 hn, rm_149 w3 hn, rm_148 w2 hn, rm_147 w1 hn, rm_146 hw hn b1, putR]
  · rw [putM, cm_151 w6 hn, cm_152 w5 hn, cm_150 w4 hn, cm_149 w3 hn, cm_148 w2 hn, cm_147 w1 hn, cm_146 hw hn b1]
/-- what holds on the ways of PROCESS p of cage c -/
def wayOK (C p c N : Nat) (rk : Nat → Nat) (J : RS → Prop) : Prop := onWay c N rk J ∧ ∀ r, J r → WRo r C ∧ WRm r C ∧ WRp r C ∧ r 25 p = nI c ∧ r 0 36 = nI C
/-- MAKE behind the way -/
def make2 (w : RS) (p c : Nat) (nm b : Int32) : Int32 × RS := if w 4 (w 0 40).toNatClampNeg = 0 ∧ (nI 0 ≤ b ∧ b ≤ nI 1) then (match ffind (pFind w (w 0 40) nm) 1 31 with
    | some _ => (-8, w)
    | none => if mayR w p c (w 0 40).toNatClampNeg then (match ffind (pFree w) 1 31 with
        | none => (-5, w)
        | some n => if ovr w false 4 (some c) = true then (-6, w) else (nI n, putR w n (w 0 40) nm b (w 9 c + w 27 p) (nI c))) else (-4, w)) else (-3, w)
theorem c_make2 (hw : wf M) {C p c : Nat} (hC : C ≤ 4) (ho : WRo (rg M) C) (hm : WRm (rg M) C) (hpp : WRp (rg M) C) (hp : p < 16) (hc : c < C) (hpc : rg M 25 p = nI c) {at' : Nat} (ha : at' < 32) (hat : rg M 0 40 = nI at') {nm b : Int32} {l2 l4 : Option Value} : ∃ M', (∀ Q, V (d + 4) 89 55 [some (rf (some 145)), some (.int (nI p)), l2, some (.int b), l4, some (.int (nI c)), some (.int nm)] [] M Q = Q (some (.int (make2 (rg M) p c nm b).1)) M') ∧ wf M' ∧ rg M' = (make2 (rg M) p c nm b).2 ∧ cg M' = cg M := by
  have hc4 : c < 4 := by omega
  have hcl : (rg M 0 40).toNatClampNeg = at' := by rw [hat, nI_clamp (by omega)]
  unfold make2
  rw [hcl]
  by_cases h1 : rg M 4 at' = 0 ∧ (nI 0 ≤ b ∧ b ≤ nI 1)
  · rw [if_pos h1]
    have h1a := h1.1
    have h1b := h1.2
    cases hf : ffind (pFind (rg M) (rg M 0 40) nm) 1 31 with
    | some n =>
      obtain ⟨g1, g2, -⟩ := ffind_in hf
      rw [hat] at hf
      refine ⟨M, fun Q => ?_, hw, rfl, rfl⟩
      simp only [s_89_55, s_89_56, s_89_59, s_89_60, s_89_63, s_89_64, s_89_67, s_89_68, s_89_69, s_89_70, s_89_73, s_89_79, s_89_80, s_89_81, s_89_84, s_89_86, s_89_89, s_89_92, s_89_94, c_is, c_find hw, hf, oI, nIlt (show n < 2 ^ 31 by omega), eq_self, Nat.reduceLT, Nat.reduceLeDiff, Nat.reduceMod, Nat.reduceDiv, Nat.reduceAdd, Nat.reduceMul, Option.toList_some, Option.toList_none, List.cons_append, List.nil_append, List.append_nil, n10, n00, if_true, if_false, b0, b1, nI_add, true_and, and_true, and_self, sh_145, k_145_0, k_145_1, k_145_2, k_145_3, k_145_4, k_145_5, k_145_6, k_145_7, k_145_8, k_145_9, k_145_10, k_145_11, k_145_12, k_145_13, k_145_14, k_145_15, k_145_16, k_145_17, k_145_18, k_145_19, k_145_20, k_145_21, k_145_22, k_145_23, k_145_24, k_145_25, k_145_26, k_145_27, k_145_28, k_145_29, k_145_30, k_145_31, k_145_32, k_145_33, k_145_34, k_145_35, sh_146, sh_147, sh_148, sh_149, sh_150, sh_151, sh_152, sh_153, sh_154, sh_155, sh_156, sh_157, sh_158, sh_159, sh_160, sh_161, sh_162, sh_163, sh_164, sh_165, sh_166, sh_167, sh_168, sh_169, sh_170, sh_171, sh_172, sh_173, sh_174, sh_175, sh_176, sh_177, sh_178, sh_179, sh_180, sh_181, g_146, g_147, g_148, g_149, g_150, g_151, g_152, g_153, g_154, g_155, g_156, g_157, g_158, g_159, g_160, g_161, g_162, g_163, g_164, g_165, g_166, g_167, g_168, g_169, g_170, g_171, g_172, g_173, g_174, g_175, g_176, g_177, g_178, g_179, g_180, g_181, g_145_36, g_145_37, g_145_38, g_145_39, g_145_40, g_145_41, hw, ha, hat, h1a, h1b]
    | none =>
      rw [hat] at hf
      dsimp only
      by_cases h2 : mayR (rg M) p c at'
      · rw [if_pos h2]
        have hst : ∀ Q, V (d + 4) 89 55 [some (rf (some 145)), some (.int (nI p)), l2, some (.int b), l4, some (.int (nI c)), some (.int nm)] [] M Q = Vc (d + 3) 57 [rf (some 145), .int (nI at'), .int nm, .int b, .int (rg M 9 c + rg M 27 p), .int (nI c)] M Q := by
          intro Q
          simp only [s_89_55, s_89_56, s_89_59, s_89_60, s_89_63, s_89_64, s_89_67, s_89_68, s_89_69, s_89_70, s_89_73, s_89_79, s_89_80, s_89_81, s_89_84, s_89_86, s_89_89, s_89_95, s_89_96, s_89_97, s_89_98, s_89_101, s_89_104, s_89_110, s_89_111, s_89_112, s_89_115, s_89_117, s_89_118, s_89_119, s_89_120, s_89_123, s_89_125, c_is, c_find hw, hf, oI, m1lt, c_may hw hp hc4 ha hpc, if_pos h2, c_host hw hp hc4 hpc, eq_self, Nat.reduceLT, Nat.reduceLeDiff, Nat.reduceMod, Nat.reduceDiv, Nat.reduceAdd, Nat.reduceMul, Option.toList_some, Option.toList_none, List.cons_append, List.nil_append, List.append_nil, n10, n00, if_true, if_false, b0, b1, nI_add, true_and, and_true, and_self, sh_145, k_145_0, k_145_1, k_145_2, k_145_3, k_145_4, k_145_5, k_145_6, k_145_7, k_145_8, k_145_9, k_145_10, k_145_11, k_145_12, k_145_13, k_145_14, k_145_15, k_145_16, k_145_17, k_145_18, k_145_19, k_145_20, k_145_21, k_145_22, k_145_23, k_145_24, k_145_25, k_145_26, k_145_27, k_145_28, k_145_29, k_145_30, k_145_31, k_145_32, k_145_33, k_145_34, k_145_35, sh_146, sh_147, sh_148, sh_149, sh_150, sh_151, sh_152, sh_153, sh_154, sh_155, sh_156, sh_157, sh_158, sh_159, sh_160, sh_161, sh_162, sh_163, sh_164, sh_165, sh_166, sh_167, sh_168, sh_169, sh_170, sh_171, sh_172, sh_173, sh_174, sh_175, sh_176, sh_177, sh_178, sh_179, sh_180, sh_181, g_146, g_147, g_148, g_149, g_150, g_151, g_152, g_153, g_154, g_155, g_156, g_157, g_158, g_159, g_160, g_161, g_162, g_163, g_164, g_165, g_166, g_167, g_168, g_169, g_170, g_171, g_172, g_173, g_174, g_175, g_176, g_177, g_178, g_179, g_180, g_181, g_145_36, g_145_37, g_145_38, g_145_39, g_145_40, g_145_41, hw, ha, hat, h1a, h1b]
          simp only [c_put_cage hw hC ho hm hpp hc]
          cases ffind (pFree (rg M)) 1 31 with
          | none => simp only [s_89_128, eq_self, Nat.reduceLT, Nat.reduceLeDiff, Nat.reduceMod, Nat.reduceDiv, Nat.reduceAdd, Nat.reduceMul, Option.toList_some, Option.toList_none, List.cons_append, List.nil_append, List.append_nil, n10, n00, if_true, if_false, b0, b1, nI_add, true_and, and_true, and_self]
          | some n => simp only [s_89_128, eq_self, Nat.reduceLT, Nat.reduceLeDiff, Nat.reduceMod, Nat.reduceDiv, Nat.reduceAdd, Nat.reduceMul, Option.toList_some, Option.toList_none, List.cons_append, List.nil_append, List.append_nil, n10, n00, if_true, if_false, b0, b1, nI_add, true_and, and_true, and_self]
        cases hfr : ffind (pFree (rg M)) 1 31 with
        | none =>
          refine ⟨M, fun Q => ?_, hw, rfl, rfl⟩
          rw [hst, c_put_cage hw hC ho hm hpp hc, hfr]
        | some n =>
          obtain ⟨g1, g2, -⟩ := ffind_in hfr
          dsimp only
          by_cases hov : ovr (rg M) false 4 (some c) = true
          · rw [if_pos hov]
            refine ⟨M, fun Q => ?_, hw, rfl, rfl⟩
            rw [hst, c_put_cage hw hC ho hm hpp hc, hfr]
            simp only [hov, if_true]
          · rw [if_neg hov]
            obtain ⟨w, er, ec⟩ := putM_ok hw (show n < 32 by omega) (a := nI at') (nm := nm) (kd := b) (ow := rg M 9 c + rg M 27 p) (mk := nI c)
            refine ⟨_, fun Q => ?_, w, by rw [er, hat], ec⟩
            rw [hst, c_put_cage hw hC ho hm hpp hc, hfr]
            simp only [hov, if_false]
            rfl
      · rw [if_neg h2]
        refine ⟨M, fun Q => ?_, hw, rfl, rfl⟩
        simp only [s_89_55, s_89_56, s_89_59, s_89_60, s_89_63, s_89_64, s_89_67, s_89_68, s_89_69, s_89_70, s_89_73, s_89_79, s_89_80, s_89_81, s_89_84, s_89_86, s_89_89, s_89_95, s_89_96, s_89_97, s_89_98, s_89_101, s_89_104, s_89_107, s_89_109, c_is, c_find hw, hf, oI, m1lt, c_may hw hp hc4 ha hpc, if_neg h2, eq_self, Nat.reduceLT, Nat.reduceLeDiff, Nat.reduceMod, Nat.reduceDiv, Nat.reduceAdd, Nat.reduceMul, Option.toList_some, Option.toList_none, List.cons_append, List.nil_append, List.append_nil, n10, n00, if_true, if_false, b0, b1, nI_add, true_and, and_true, and_self, sh_145, k_145_0, k_145_1, k_145_2, k_145_3, k_145_4, k_145_5, k_145_6, k_145_7, k_145_8, k_145_9, k_145_10, k_145_11, k_145_12, k_145_13, k_145_14, k_145_15, k_145_16, k_145_17, k_145_18, k_145_19, k_145_20, k_145_21, k_145_22, k_145_23, k_145_24, k_145_25, k_145_26, k_145_27, k_145_28, k_145_29, k_145_30, k_145_31, k_145_32, k_145_33, k_145_34, k_145_35, sh_146, sh_147, sh_148, sh_149, sh_150, sh_151, sh_152, sh_153, sh_154, sh_155, sh_156, sh_157, sh_158, sh_159, sh_160, sh_161, sh_162, sh_163, sh_164, sh_165, sh_166, sh_167, sh_168, sh_169, sh_170, sh_171, sh_172, sh_173, sh_174, sh_175, sh_176, sh_177, sh_178, sh_179, sh_180, sh_181, g_146, g_147, g_148, g_149, g_150, g_151, g_152, g_153, g_154, g_155, g_156, g_157, g_158, g_159, g_160, g_161, g_162, g_163, g_164, g_165, g_166, g_167, g_168, g_169, g_170, g_171, g_172, g_173, g_174, g_175, g_176, g_177, g_178, g_179, g_180, g_181, g_145_36, g_145_37, g_145_38, g_145_39, g_145_40, g_145_41, hw, ha, hat, h1a, h1b]
  · rw [if_neg h1]
    refine ⟨M, fun Q => ?_, hw, rfl, rfl⟩
    simp only [s_89_55, s_89_56, s_89_59, s_89_60, s_89_63, s_89_64, s_89_67, s_89_68, s_89_69, s_89_70, s_89_73, s_89_76, s_89_78, c_is, eq_self, Nat.reduceLT, Nat.reduceLeDiff, Nat.reduceMod, Nat.reduceDiv, Nat.reduceAdd, Nat.reduceMul, Option.toList_some, Option.toList_none, List.cons_append, List.nil_append, List.append_nil, n10, n00, if_true, if_false, b0, b1, nI_add, true_and, and_true, and_self, sh_145, k_145_0, k_145_1, k_145_2, k_145_3, k_145_4, k_145_5, k_145_6, k_145_7, k_145_8, k_145_9, k_145_10, k_145_11, k_145_12, k_145_13, k_145_14, k_145_15, k_145_16, k_145_17, k_145_18, k_145_19, k_145_20, k_145_21, k_145_22, k_145_23, k_145_24, k_145_25, k_145_26, k_145_27, k_145_28, k_145_29, k_145_30, k_145_31, k_145_32, k_145_33, k_145_34, k_145_35, sh_146, sh_147, sh_148, sh_149, sh_150, sh_151, sh_152, sh_153, sh_154, sh_155, sh_156, sh_157, sh_158, sh_159, sh_160, sh_161, sh_162, sh_163, sh_164, sh_165, sh_166, sh_167, sh_168, sh_169, sh_170, sh_171, sh_172, sh_173, sh_174, sh_175, sh_176, sh_177, sh_178, sh_179, sh_180, sh_181, g_146, g_147, g_148, g_149, g_150, g_151, g_152, g_153, g_154, g_155, g_156, g_157, g_158, g_159, g_160, g_161, g_162, g_163, g_164, g_165, g_166, g_167, g_168, g_169, g_170, g_171, g_172, g_173, g_174, g_175, g_176, g_177, g_178, g_179, g_180, g_181, g_145_36, g_145_37, g_145_38, g_145_39, g_145_40, g_145_41, hw, ha, hat]
    by_cases h2 : rg M 4 at' = 0
    · have h3 : ¬ (nI 0 ≤ b ∧ b ≤ nI 1) := fun z => h1 ⟨h2, z⟩
      simp only [h2, h3, eq_self, Nat.reduceLT, Nat.reduceLeDiff, Nat.reduceMod, Nat.reduceDiv, Nat.reduceAdd, Nat.reduceMul, Option.toList_some, Option.toList_none, List.cons_append, List.nil_append, List.append_nil, n10, n00, if_true, if_false, b0, b1, nI_add, true_and, and_true, and_self]
    · simp only [h2, eq_self, Nat.reduceLT, Nat.reduceLeDiff, Nat.reduceMod, Nat.reduceDiv, Nat.reduceAdd, Nat.reduceMul, Option.toList_some, Option.toList_none, List.cons_append, List.nil_append, List.append_nil, n10, n00, if_true, if_false, b0, b1, nI_add, true_and, and_true, and_self]
def makeR (r : RS) (p c N : Nat) (a b : Int32) : Int32 × RS := if nms a = 0 ∨ nib a (nms a - 1) = nI 15 then (-2, r) else if (follR c N a (nms a - 1) r).1 = true then make2 (follR c N a (nms a - 1) r).2 p c (nib a (nms a - 1)) b else (-2, (follR c N a (nms a - 1) r).2)
theorem c_make (hw : wf M) {C p c N : Nat} {rk : Nat → Nat} {J : RS → Prop} (hC : C ≤ 4) (hp : p < 16) (hc : c < C) (hpc : rg M 25 p = nI c) (hJ : wayOK C p c N rk J) (hj : J (folS c (rg M))) {a b : Int32} : Den (d + 4) 89 [rf (some 145), .int (nI p), .int a, .int b, .int (nI (nms a))] M (some (.int (makeR (rg M) p c N a b).1)) (makeR (rg M) p c N a b).2 := by
  have hle := nms_le (p := a)
  have hc4 : c < 4 := by omega
  unfold makeR
  by_cases h0 : nms a = 0
  · rw [if_pos (Or.inl h0), h0]
    refine ⟨M, fun Q => ?_, hw, rfl, rfl⟩
    show V (d + 4) 89 0 [some (rf (some 145)), some (.int (nI p)), some (.int a), some (.int b), some (.int (nI 0)), none, none] [] M Q = _
    simp only [s_89_0, s_89_1, s_89_4, s_89_5, s_89_6, s_89_8, s_89_10, s_89_13, s_89_15, s_89_29, s_89_31, s_89_33, s_89_35, s_89_52, s_89_54, eq_self, Nat.reduceLT, Nat.reduceLeDiff, Nat.reduceMod, Nat.reduceDiv, Nat.reduceAdd, Nat.reduceMul, Option.toList_some, Option.toList_none, List.cons_append, List.nil_append, List.append_nil, n10, n00, if_true, if_false, b0, b1, nI_add, true_and, and_true, and_self, sh_145, k_145_0, k_145_1, k_145_2, k_145_3, k_145_4, k_145_5, k_145_6, k_145_7, k_145_8, k_145_9, k_145_10, k_145_11, k_145_12, k_145_13, k_145_14, k_145_15, k_145_16, k_145_17, k_145_18, k_145_19, k_145_20, k_145_21, k_145_22, k_145_23, k_145_24, k_145_25, k_145_26, k_145_27, k_145_28, k_145_29, k_145_30, k_145_31, k_145_32, k_145_33, k_145_34, k_145_35, sh_146, sh_147, sh_148, sh_149, sh_150, sh_151, sh_152, sh_153, sh_154, sh_155, sh_156, sh_157, sh_158, sh_159, sh_160, sh_161, sh_162, sh_163, sh_164, sh_165, sh_166, sh_167, sh_168, sh_169, sh_170, sh_171, sh_172, sh_173, sh_174, sh_175, sh_176, sh_177, sh_178, sh_179, sh_180, sh_181, g_146, g_147, g_148, g_149, g_150, g_151, g_152, g_153, g_154, g_155, g_156, g_157, g_158, g_159, g_160, g_161, g_162, g_163, g_164, g_165, g_166, g_167, g_168, g_169, g_170, g_171, g_172, g_173, g_174, g_175, g_176, g_177, g_178, g_179, g_180, g_181, g_145_36, g_145_37, g_145_38, g_145_39, g_145_40, g_145_41, hw, hp, hpc]
  · have h0' : (nI (nms a) = 0) = False := eq_false (nI_ne0 (by omega) (by omega))
    have hsub : nI (nms a) - nI 1 = nI (nms a - 1) := pk_sub (by omega)
    have hst : ∀ Q, Vc (d + 4) 89 [rf (some 145), .int (nI p), .int a, .int b, .int (nI (nms a))] M Q = if nib a (nms a - 1) = nI 15 then Q (some (.int (-2))) M else V (d + 4) 89 38 [some (rf (some 145)), some (.int (nI p)), some (.int a), some (.int b), some (.int (nI (nms a))), some (.int (nI c)), some (.int (nib a (nms a - 1)))] [] M Q := by
      intro Q
      show V (d + 4) 89 0 [some (rf (some 145)), some (.int (nI p)), some (.int a), some (.int b), some (.int (nI (nms a))), none, none] [] M Q = _
      simp only [s_89_0, s_89_1, s_89_4, s_89_5, s_89_6, s_89_8, s_89_10, h0', s_89_18, s_89_19, s_89_20, s_89_22, s_89_23, s_89_24, s_89_25, s_89_26, s_89_28, s_89_29, s_89_31, s_89_33, s_89_35, s_89_52, s_89_54, eq_self, Nat.reduceLT, Nat.reduceLeDiff, Nat.reduceMod, Nat.reduceDiv, Nat.reduceAdd, Nat.reduceMul, Option.toList_some, Option.toList_none, List.cons_append, List.nil_append, List.append_nil, n10, n00, if_true, if_false, b0, b1, nI_add, true_and, and_true, and_self, sh_145, k_145_0, k_145_1, k_145_2, k_145_3, k_145_4, k_145_5, k_145_6, k_145_7, k_145_8, k_145_9, k_145_10, k_145_11, k_145_12, k_145_13, k_145_14, k_145_15, k_145_16, k_145_17, k_145_18, k_145_19, k_145_20, k_145_21, k_145_22, k_145_23, k_145_24, k_145_25, k_145_26, k_145_27, k_145_28, k_145_29, k_145_30, k_145_31, k_145_32, k_145_33, k_145_34, k_145_35, sh_146, sh_147, sh_148, sh_149, sh_150, sh_151, sh_152, sh_153, sh_154, sh_155, sh_156, sh_157, sh_158, sh_159, sh_160, sh_161, sh_162, sh_163, sh_164, sh_165, sh_166, sh_167, sh_168, sh_169, sh_170, sh_171, sh_172, sh_173, sh_174, sh_175, sh_176, sh_177, sh_178, sh_179, sh_180, sh_181, g_146, g_147, g_148, g_149, g_150, g_151, g_152, g_153, g_154, g_155, g_156, g_157, g_158, g_159, g_160, g_161, g_162, g_163, g_164, g_165, g_166, g_167, g_168, g_169, g_170, g_171, g_172, g_173, g_174, g_175, g_176, g_177, g_178, g_179, g_180, g_181, g_145_36, g_145_37, g_145_38, g_145_39, g_145_40, g_145_41, hw, hp, hpc, hsub, pk_mul, nib]
      rfl
    by_cases h15 : nib a (nms a - 1) = nI 15
    · rw [if_pos (Or.inr h15)]
      refine ⟨M, fun Q => ?_, hw, rfl, rfl⟩
      rw [hst, if_pos h15]
    · rw [if_neg (fun z => z.elim h0 h15)]
      obtain ⟨M1, g1, g2, g3, g4⟩ := c_follow (d := d + 1) hw hc4 hJ.1 hj (p := a) (m := nms a - 1) (by omega)
      have hj1 := foll_J hJ.1 (p := a) (m := nms a - 1) hj
      obtain ⟨b', hb', hbv⟩ := foll_at hJ.1 (p := a) (m := nms a - 1) hj
      obtain ⟨ho1, hm1, hp1, hpc1, hC1⟩ := hJ.2 _ hj1
      rw [← g3] at ho1 hm1 hp1 hpc1 hbv
      have hgo : ∀ Q, V (d + 4) 89 38 [some (rf (some 145)), some (.int (nI p)), some (.int a), some (.int b), some (.int (nI (nms a))), some (.int (nI c)), some (.int (nib a (nms a - 1)))] [] M Q = if (follR c N a (nms a - 1) (rg M)).1 = true then V (d + 4) 89 55 [some (rf (some 145)), some (.int (nI p)), some (.int a), some (.int b), some (.int (nI (nms a))), some (.int (nI c)), some (.int (nib a (nms a - 1)))] [] M1 Q else Q (some (.int (-2))) M1 := by
        intro Q
        simp only [s_89_38, s_89_39, s_89_41, s_89_42, s_89_44, s_89_45, s_89_46 hw sh_145, hsub, g1, s_89_49, eq_self, Nat.reduceLT, Nat.reduceLeDiff, Nat.reduceMod, Nat.reduceDiv, Nat.reduceAdd, Nat.reduceMul, Option.toList_some, Option.toList_none, List.cons_append, List.nil_append, List.append_nil, n10, n00, if_true, if_false, b0, b1, nI_add, true_and, and_true, and_self, bI_0]
        cases (follR c N a (nms a - 1) (rg M)).1 with
        | true => simp only [Bool.true_eq_false, eq_self, Nat.reduceLT, Nat.reduceLeDiff, Nat.reduceMod, Nat.reduceDiv, Nat.reduceAdd, Nat.reduceMul, Option.toList_some, Option.toList_none, List.cons_append, List.nil_append, List.append_nil, n10, n00, if_true, if_false, b0, b1, nI_add, true_and, and_true, and_self]
        | false => simp only [Bool.false_eq_true, s_89_52, s_89_54, eq_self, Nat.reduceLT, Nat.reduceLeDiff, Nat.reduceMod, Nat.reduceDiv, Nat.reduceAdd, Nat.reduceMul, Option.toList_some, Option.toList_none, List.cons_append, List.nil_append, List.append_nil, n10, n00, if_true, if_false, b0, b1, nI_add, true_and, and_true, and_self]
      cases hok : (follR c N a (nms a - 1) (rg M)).1 with
      | true =>
        obtain ⟨M2, k1, k2, k3, k4⟩ := c_make2 (d := d) g2 hC ho1 hm1 hp1 hp hc hpc1 hb' hbv (nm := nib a (nms a - 1)) (b := b) (l2 := some (.int a)) (l4 := some (.int (nI (nms a))))
        rw [if_pos rfl, ← g3]
        refine ⟨M2, fun Q => ?_, k2, k3, k4.trans g4⟩
        rw [hst, if_neg h15, hgo, hok, if_pos rfl, k1]
      | false =>
        rw [if_neg (by decide), ← g3]
        refine ⟨M1, fun Q => ?_, g2, rfl, g4⟩
        rw [hst, if_neg h15, hgo, hok, if_neg (by decide)]
end
