section
variable {d : Nat} {M : mH} {Q : Option Value → mH → Prop}
def pFreeP (r : RS) (p : Nat) : Bool := decide (r 24 p = 0)
theorem c_freeProcess_l (hw : wf M) : ∀ k n, n + k = 16 → V d 69 2 [some (rf (some 145)), some (.int (nI n))] [] M Q = Q (some (.int (oI (ffind (pFreeP (rg M)) n k)))) M := by
  intro k
  induction k with
  | zero =>
    intro n hn
    obtain rfl : n = 16 := by omega
    rw [s_69_2]
    simp only [s_69_0, s_69_1, s_69_3, s_69_5, s_69_8, s_69_9, s_69_12, s_69_13, s_69_14, s_69_17, s_69_18, s_69_19, s_69_22, s_69_25, s_69_26, eq_self, Nat.reduceLT, Nat.reduceLeDiff, Nat.reduceMod, Nat.reduceDiv, Nat.reduceAdd, Nat.reduceMul, Option.toList_some, Option.toList_none, List.cons_append, List.nil_append, List.append_nil, n10, n00, if_true, if_false, b0, b1, nI_add, true_and, and_true, and_self, show nI 16 ≤ nI 16 from Int32.le_refl _, ffind, oI]
  | succ k ih =>
    intro n hn
    have h16 : n < 16 := by omega
    rw [s_69_2]
    simp only [s_69_0, s_69_1, s_69_3, s_69_5, s_69_8, s_69_9, s_69_12, s_69_13, s_69_14, s_69_17, s_69_18, s_69_19, s_69_22, s_69_25, s_69_26, eq_self, Nat.reduceLT, Nat.reduceLeDiff, Nat.reduceMod, Nat.reduceDiv, Nat.reduceAdd, Nat.reduceMul, Option.toList_some, Option.toList_none, List.cons_append, List.nil_append, List.append_nil, n10, n00, if_true, if_false, b0, b1, nI_add, true_and, and_true, and_self, sh_145, k_145_0, k_145_1, k_145_2, k_145_3, k_145_4, k_145_5, k_145_6, k_145_7, k_145_8, k_145_9, k_145_10, k_145_11, k_145_12, k_145_13, k_145_14, k_145_15, k_145_16, k_145_17, k_145_18, k_145_19, k_145_20, k_145_21, k_145_22, k_145_23, k_145_24, k_145_25, k_145_26, k_145_27, k_145_28, k_145_29, k_145_30, k_145_31, k_145_32, k_145_33, k_145_34, k_145_35, sh_146, sh_147, sh_148, sh_149, sh_150, sh_151, sh_152, sh_153, sh_154, sh_155, sh_156, sh_157, sh_158, sh_159, sh_160, sh_161, sh_162, sh_163, sh_164, sh_165, sh_166, sh_167, sh_168, sh_169, sh_170, sh_171, sh_172, sh_173, sh_174, sh_175, sh_176, sh_177, sh_178, sh_179, sh_180, sh_181, g_146, g_147, g_148, g_149, g_150, g_151, g_152, g_153, g_154, g_155, g_156, g_157, g_158, g_159, g_160, g_161, g_162, g_163, g_164, g_165, g_166, g_167, g_168, g_169, g_170, g_171, g_172, g_173, g_174, g_175, g_176, g_177, g_178, g_179, g_180, g_181, g_145_36, g_145_37, g_145_38, g_145_39, g_145_40, g_145_41, hw, h16, nI_ge h16 (by decide), ih (n + 1) (by omega), ffind, pFreeP]
    by_cases h1 : rg M 24 n = 0
    · simp only [h1, eq_self, Nat.reduceLT, Nat.reduceLeDiff, Nat.reduceMod, Nat.reduceDiv, Nat.reduceAdd, Nat.reduceMul, Option.toList_some, Option.toList_none, List.cons_append, List.nil_append, List.append_nil, n10, n00, if_true, if_false, b0, b1, nI_add, true_and, and_true, and_self, decide_true, cond_true, oI]
    · simp only [h1, eq_self, Nat.reduceLT, Nat.reduceLeDiff, Nat.reduceMod, Nat.reduceDiv, Nat.reduceAdd, Nat.reduceMul, Option.toList_some, Option.toList_none, List.cons_append, List.nil_append, List.append_nil, n10, n00, if_true, if_false, b0, b1, nI_add, true_and, and_true, and_self, decide_false, cond_false]
theorem c_freeProcess (hw : wf M) : Vc d 69 [rf (some 145)] M Q = Q (some (.int (oI (ffind (pFreeP (rg M)) 0 16)))) M := by
  show V d 69 0 [some (rf (some 145)), none] [] M Q = _
  rw [s_69_0, s_69_1, c_freeProcess_l hw 16 0 rfl]
/-- the reference's new PROCESS -/
def beginM (M : mH) (p c : Nat) (us pa : Int32) : mH := mu (mu (mu (mu (mu (mu (mu M 169 p (.int (nI 1))) 170 p (.int (nI c))) 159 c (.int (rg M 14 c + nI 1))) 171 p (.int (rg M 14 c + nI 1))) 172 p (.int us)) 173 p (.int pa)) 177 p (.int (nI 0))
theorem c_begin (hw : wf M) {p c : Nat} (hp : p < 16) (hc : c < 4) {us pa : Int32} : Vc d 70 [rf (some 145), .int (nI p), .int (nI c), .int us, .int pa] M Q = Q none (beginM M p c us pa) := by
  show V d 70 0 [some (rf (some 145)), some (.int (nI p)), some (.int (nI c)), some (.int us), some (.int pa)] [] M Q = _
  simp (maxDischargeDepth := 20) only [s_70_0, s_70_1, s_70_4, s_70_5, s_70_6, s_70_7, s_70_8, s_70_11, s_70_12, s_70_13, s_70_14, s_70_15, s_70_18, s_70_19, s_70_20, s_70_23, s_70_24, s_70_25, s_70_26, s_70_27, s_70_28, s_70_29, s_70_30, s_70_31, s_70_32, s_70_35, s_70_36, s_70_37, s_70_38, s_70_39, s_70_42, s_70_43, s_70_45, s_70_46, s_70_47, s_70_50, s_70_51, s_70_52, s_70_53, eq_self, Nat.reduceLT, Nat.reduceLeDiff, Nat.reduceMod, Nat.reduceDiv, Nat.reduceAdd, Nat.reduceMul, Option.toList_some, Option.toList_none, List.cons_append, List.nil_append, List.append_nil, n10, n00, if_true, if_false, b0, b1, nI_add, true_and, and_true, and_self, sh_145, k_145_0, k_145_1, k_145_2, k_145_3, k_145_4, k_145_5, k_145_6, k_145_7, k_145_8, k_145_9, k_145_10, k_145_11, k_145_12, k_145_13, k_145_14, k_145_15, k_145_16, k_145_17, k_145_18, k_145_19, k_145_20, k_145_21, k_145_22, k_145_23, k_145_24, k_145_25, k_145_26, k_145_27, k_145_28, k_145_29, k_145_30, k_145_31, k_145_32, k_145_33, k_145_34, k_145_35, sh_146, sh_147, sh_148, sh_149, sh_150, sh_151, sh_152, sh_153, sh_154, sh_155, sh_156, sh_157, sh_158, sh_159, sh_160, sh_161, sh_162, sh_163, sh_164, sh_165, sh_166, sh_167, sh_168, sh_169, sh_170, sh_171, sh_172, sh_173, sh_174, sh_175, sh_176, sh_177, sh_178, sh_179, sh_180, sh_181, g_146, g_147, g_148, g_149, g_150, g_151, g_152, g_153, g_154, g_155, g_156, g_157, g_158, g_159, g_160, g_161, g_162, g_163, g_164, g_165, g_166, g_167, g_168, g_169, g_170, g_171, g_172, g_173, g_174, g_175, g_176, g_177, g_178, g_179, g_180, g_181, g_145_36, g_145_37, g_145_38, g_145_39, g_145_40, g_145_41, hw, hp, hc, wm_146, wm_147, wm_148, wm_149, wm_150, wm_151, wm_152, wm_153, wm_154, wm_155, wm_156, wm_157, wm_158, wm_159, wm_160, wm_161, wm_162, wm_163, wm_164, wm_165, wm_166, wm_167, wm_168, wm_169, wm_170, wm_171, wm_172, wm_173, wm_174, wm_175, wm_176, wm_177, wm_178, wm_179, wm_180, wm_181, wm_145_36, wm_145_37, wm_145_38, wm_145_39, wm_145_40, wm_145_41, rm_146, rm_147, rm_148, rm_149, rm_150, rm_151, rm_152, rm_153, rm_154, rm_155, rm_156, rm_157, rm_158, rm_159, rm_160, rm_161, rm_162, rm_163, rm_164, rm_165, rm_166, rm_167, rm_168, rm_169, rm_170, rm_171, rm_172, rm_173, rm_174, rm_175, rm_176, rm_177, rm_178, rm_179, rm_180, rm_181, rm_145_36, rm_145_37, rm_145_38, rm_145_39, rm_145_40, rm_145_41, ru, beginM, Nat.reduceEqDiff, false_and]
def pInit (r : RS) (c : Int32) (p : Nat) : Bool := decide (¬ r 24 p = 0 ∧ r 25 p = c ∧ r 26 p = nI 1)
theorem c_init_l (hw : wf M) {c : Int32} : ∀ k n, n + k = 16 → V d 72 2 [some (rf (some 145)), some (.int c), some (.int (nI n))] [] M Q = Q (some (.int (oI (ffind (pInit (rg M) c) n k)))) M := by
  intro k
  induction k with
  | zero =>
    intro n hn
    obtain rfl : n = 16 := by omega
    rw [s_72_2]
    simp only [s_72_0, s_72_1, s_72_3, s_72_5, s_72_8, s_72_9, s_72_12, s_72_13, s_72_14, s_72_17, s_72_18, s_72_21, s_72_22, s_72_23, s_72_24, s_72_27, s_72_28, s_72_31, s_72_32, s_72_33, s_72_34, s_72_37, s_72_38, s_72_39, s_72_42, s_72_45, s_72_46, eq_self, Nat.reduceLT, Nat.reduceLeDiff, Nat.reduceMod, Nat.reduceDiv, Nat.reduceAdd, Nat.reduceMul, Option.toList_some, Option.toList_none, List.cons_append, List.nil_append, List.append_nil, n10, n00, if_true, if_false, b0, b1, nI_add, true_and, and_true, and_self, show nI 16 ≤ nI 16 from Int32.le_refl _, ffind, oI]
  | succ k ih =>
    intro n hn
    have h16 : n < 16 := by omega
    rw [s_72_2]
    simp only [s_72_0, s_72_1, s_72_3, s_72_5, s_72_8, s_72_9, s_72_12, s_72_13, s_72_14, s_72_17, s_72_18, s_72_21, s_72_22, s_72_23, s_72_24, s_72_27, s_72_28, s_72_31, s_72_32, s_72_33, s_72_34, s_72_37, s_72_38, s_72_39, s_72_42, s_72_45, s_72_46, eq_self, Nat.reduceLT, Nat.reduceLeDiff, Nat.reduceMod, Nat.reduceDiv, Nat.reduceAdd, Nat.reduceMul, Option.toList_some, Option.toList_none, List.cons_append, List.nil_append, List.append_nil, n10, n00, if_true, if_false, b0, b1, nI_add, true_and, and_true, and_self, sh_145, k_145_0, k_145_1, k_145_2, k_145_3, k_145_4, k_145_5, k_145_6, k_145_7, k_145_8, k_145_9, k_145_10, k_145_11, k_145_12, k_145_13, k_145_14, k_145_15, k_145_16, k_145_17, k_145_18, k_145_19, k_145_20, k_145_21, k_145_22, k_145_23, k_145_24, k_145_25, k_145_26, k_145_27, k_145_28, k_145_29, k_145_30, k_145_31, k_145_32, k_145_33, k_145_34, k_145_35, sh_146, sh_147, sh_148, sh_149, sh_150, sh_151, sh_152, sh_153, sh_154, sh_155, sh_156, sh_157, sh_158, sh_159, sh_160, sh_161, sh_162, sh_163, sh_164, sh_165, sh_166, sh_167, sh_168, sh_169, sh_170, sh_171, sh_172, sh_173, sh_174, sh_175, sh_176, sh_177, sh_178, sh_179, sh_180, sh_181, g_146, g_147, g_148, g_149, g_150, g_151, g_152, g_153, g_154, g_155, g_156, g_157, g_158, g_159, g_160, g_161, g_162, g_163, g_164, g_165, g_166, g_167, g_168, g_169, g_170, g_171, g_172, g_173, g_174, g_175, g_176, g_177, g_178, g_179, g_180, g_181, g_145_36, g_145_37, g_145_38, g_145_39, g_145_40, g_145_41, hw, h16, nI_ge h16 (by decide), ih (n + 1) (by omega), ffind]
    by_cases h1 : rg M 24 n = 0 <;> by_cases h2 : rg M 25 n = c <;> by_cases h3 : rg M 26 n = nI 1 <;> simp [pInit, h1, h2, h3, oI]
theorem c_init (hw : wf M) {c : Int32} : Vc d 72 [rf (some 145), .int c] M Q = Q (some (.int (oI (ffind (pInit (rg M) c) 0 16)))) M := by
  show V d 72 0 [some (rf (some 145)), some (.int c), none] [] M Q = _
  rw [s_72_0, s_72_1, c_init_l hw 16 0 rfl]
/-! ending -/
/-- its children have 'one' as their PARENT -/
def repar (pi one : Int32) : Nat → Nat → RS → RS
  | 0, _, r => r
  | k + 1, j, r => repar pi one k (j + 1) (if ¬ r 24 j = 0 ∧ r 28 j = pi then ru r 28 j one else r)
/-- all of cage c are gone -/
def clear (c : Int32) : Nat → Nat → RS → RS
  | 0, _, r => r
  | k + 1, j, r => clear c k (j + 1) (if ¬ r 24 j = 0 ∧ r 25 j = c then ru (ru r 24 j (nI 0)) 29 j (nI 0) else r)
theorem c_end_z (l3 : Option Value) {pi how : Int32} {one : Int32} : ∀ k j M, wf M → j + k = 16 → ∃ M', (∀ Q, V d 73 37 [some (rf (some 145)), some (.int pi), some (.int how), l3, some (.int one), some (.int (nI j))] [] M Q = Q none M') ∧ wf M' ∧ rg M' = repar pi one k j (rg M) ∧ cg M' = cg M := by
  intro k
  induction k with
  | zero =>
    intro j M hw hj
    obtain rfl : j = 16 := by omega
    refine ⟨M, fun Q => ?_, hw, rfl, rfl⟩
    rw [s_73_37]
    simp only [s_73_39, s_73_41, s_73_80, eq_self, Nat.reduceLT, Nat.reduceLeDiff, Nat.reduceMod, Nat.reduceDiv, Nat.reduceAdd, Nat.reduceMul, Option.toList_some, Option.toList_none, List.cons_append, List.nil_append, List.append_nil, n10, n00, if_true, if_false, b0, b1, nI_add, true_and, and_true, and_self, show nI 16 ≤ nI 16 from Int32.le_refl _]
  | succ k ih =>
    intro j M hw hj
    have h16 : j < 16 := by omega
    by_cases h1 : ¬ rg M 24 j = 0 ∧ rg M 28 j = pi
    · obtain ⟨M', h2, h3, h4, h5⟩ := ih (j + 1) (mu M 173 j (.int one)) (wm_173 hw h16) (by omega)
      refine ⟨M', fun Q => ?_, h3, ?_, ?_⟩
      · rw [s_73_37]
        simp only [s_73_39, s_73_41, s_73_44, s_73_45, s_73_48, s_73_50, s_73_51, s_73_54, s_73_55, s_73_58, s_73_60, s_73_61, s_73_62, s_73_65, s_73_66, s_73_69, s_73_71, s_73_73, s_73_74, s_73_77, eq_self, Nat.reduceLT, Nat.reduceLeDiff, Nat.reduceMod, Nat.reduceDiv, Nat.reduceAdd, Nat.reduceMul, Option.toList_some, Option.toList_none, List.cons_append, List.nil_append, List.append_nil, n10, n00, if_true, if_false, b0, b1, nI_add, true_and, and_true, and_self, sh_145, k_145_0, k_145_1, k_145_2, k_145_3, k_145_4, k_145_5, k_145_6, k_145_7, k_145_8, k_145_9, k_145_10, k_145_11, k_145_12, k_145_13, k_145_14, k_145_15, k_145_16, k_145_17, k_145_18, k_145_19, k_145_20, k_145_21, k_145_22, k_145_23, k_145_24, k_145_25, k_145_26, k_145_27, k_145_28, k_145_29, k_145_30, k_145_31, k_145_32, k_145_33, k_145_34, k_145_35, sh_146, sh_147, sh_148, sh_149, sh_150, sh_151, sh_152, sh_153, sh_154, sh_155, sh_156, sh_157, sh_158, sh_159, sh_160, sh_161, sh_162, sh_163, sh_164, sh_165, sh_166, sh_167, sh_168, sh_169, sh_170, sh_171, sh_172, sh_173, sh_174, sh_175, sh_176, sh_177, sh_178, sh_179, sh_180, sh_181, g_146, g_147, g_148, g_149, g_150, g_151, g_152, g_153, g_154, g_155, g_156, g_157, g_158, g_159, g_160, g_161, g_162, g_163, g_164, g_165, g_166, g_167, g_168, g_169, g_170, g_171, g_172, g_173, g_174, g_175, g_176, g_177, g_178, g_179, g_180, g_181, g_145_36, g_145_37, g_145_38, g_145_39, g_145_40, g_145_41, hw, h16, nI_ge h16 (by decide), h1, h2]
      · rw [h4, rm_173 hw h16, repar, if_pos h1]
      · rw [h5, cm_173 hw h16]
    · obtain ⟨M', h2, h3, h4, h5⟩ := ih (j + 1) M hw (by omega)
      refine ⟨M', fun Q => ?_, h3, ?_, h5⟩
      · rw [s_73_37]
        simp only [s_73_39, s_73_41, s_73_44, s_73_45, s_73_48, s_73_50, s_73_51, s_73_54, s_73_55, s_73_58, s_73_60, s_73_61, s_73_62, s_73_65, s_73_66, s_73_69, s_73_71, s_73_73, s_73_74, s_73_77, eq_self, Nat.reduceLT, Nat.reduceLeDiff, Nat.reduceMod, Nat.reduceDiv, Nat.reduceAdd, Nat.reduceMul, Option.toList_some, Option.toList_none, List.cons_append, List.nil_append, List.append_nil, n10, n00, if_true, if_false, b0, b1, nI_add, true_and, and_true, and_self, sh_145, k_145_0, k_145_1, k_145_2, k_145_3, k_145_4, k_145_5, k_145_6, k_145_7, k_145_8, k_145_9, k_145_10, k_145_11, k_145_12, k_145_13, k_145_14, k_145_15, k_145_16, k_145_17, k_145_18, k_145_19, k_145_20, k_145_21, k_145_22, k_145_23, k_145_24, k_145_25, k_145_26, k_145_27, k_145_28, k_145_29, k_145_30, k_145_31, k_145_32, k_145_33, k_145_34, k_145_35, sh_146, sh_147, sh_148, sh_149, sh_150, sh_151, sh_152, sh_153, sh_154, sh_155, sh_156, sh_157, sh_158, sh_159, sh_160, sh_161, sh_162, sh_163, sh_164, sh_165, sh_166, sh_167, sh_168, sh_169, sh_170, sh_171, sh_172, sh_173, sh_174, sh_175, sh_176, sh_177, sh_178, sh_179, sh_180, sh_181, g_146, g_147, g_148, g_149, g_150, g_151, g_152, g_153, g_154, g_155, g_156, g_157, g_158, g_159, g_160, g_161, g_162, g_163, g_164, g_165, g_166, g_167, g_168, g_169, g_170, g_171, g_172, g_173, g_174, g_175, g_176, g_177, g_178, g_179, g_180, g_181, g_145_36, g_145_37, g_145_38, g_145_39, g_145_40, g_145_41, hw, h16, nI_ge h16 (by decide), h2]
        by_cases h6 : rg M 24 j = 0
        · simp only [h6, eq_self, Nat.reduceLT, Nat.reduceLeDiff, Nat.reduceMod, Nat.reduceDiv, Nat.reduceAdd, Nat.reduceMul, Option.toList_some, Option.toList_none, List.cons_append, List.nil_append, List.append_nil, n10, n00, if_true, if_false, b0, b1, nI_add, true_and, and_true, and_self]
        · have h7 : ¬ rg M 28 j = pi := fun z => h1 ⟨h6, z⟩
          simp only [h6, h7, eq_self, Nat.reduceLT, Nat.reduceLeDiff, Nat.reduceMod, Nat.reduceDiv, Nat.reduceAdd, Nat.reduceMul, Option.toList_some, Option.toList_none, List.cons_append, List.nil_append, List.append_nil, n10, n00, if_true, if_false, b0, b1, nI_add, true_and, and_true, and_self]
      · rw [h4, repar, if_neg h1]
theorem c_end_c (l4 : Option Value) {pi how c : Int32} : ∀ k j M, wf M → j + k = 16 → ∃ M', (∀ Q, V d 73 84 [some (rf (some 145)), some (.int pi), some (.int how), some (.int c), l4, some (.int (nI j))] [] M Q = V d 73 134 [some (rf (some 145)), some (.int pi), some (.int how), some (.int c), l4, some (.int (nI 16))] [] M' Q) ∧ wf M' ∧ rg M' = clear c k j (rg M) ∧ cg M' = cg M := by
  intro k
  induction k with
  | zero =>
    intro j M hw hj
    obtain rfl : j = 16 := by omega
    refine ⟨M, fun Q => ?_, hw, rfl, rfl⟩
    rw [s_73_84]
    simp only [s_73_86, s_73_88, eq_self, Nat.reduceLT, Nat.reduceLeDiff, Nat.reduceMod, Nat.reduceDiv, Nat.reduceAdd, Nat.reduceMul, Option.toList_some, Option.toList_none, List.cons_append, List.nil_append, List.append_nil, n10, n00, if_true, if_false, b0, b1, nI_add, true_and, and_true, and_self, show nI 16 ≤ nI 16 from Int32.le_refl _]
  | succ k ih =>
    intro j M hw hj
    have h16 : j < 16 := by omega
    by_cases h1 : ¬ rg M 24 j = 0 ∧ rg M 25 j = c
    · obtain ⟨M', h2, h3, h4, h5⟩ := ih (j + 1) (mu (mu M 169 j (.int (nI 0))) 174 j (.int (nI 0))) (wm_174 (wm_169 hw h16) h16) (by omega)
      refine ⟨M', fun Q => ?_, h3, ?_, ?_⟩
      · rw [s_73_84]
        simp only [s_73_86, s_73_88, s_73_91, s_73_92, s_73_95, s_73_97, s_73_98, s_73_101, s_73_102, s_73_105, s_73_107, s_73_108, s_73_109, s_73_112, s_73_113, s_73_116, s_73_118, s_73_119, s_73_120, s_73_121, s_73_124, s_73_126, s_73_127, s_73_128, s_73_131, eq_self, Nat.reduceLT, Nat.reduceLeDiff, Nat.reduceMod, Nat.reduceDiv, Nat.reduceAdd, Nat.reduceMul, Option.toList_some, Option.toList_none, List.cons_append, List.nil_append, List.append_nil, n10, n00, if_true, if_false, b0, b1, nI_add, true_and, and_true, and_self, sh_145, k_145_0, k_145_1, k_145_2, k_145_3, k_145_4, k_145_5, k_145_6, k_145_7, k_145_8, k_145_9, k_145_10, k_145_11, k_145_12, k_145_13, k_145_14, k_145_15, k_145_16, k_145_17, k_145_18, k_145_19, k_145_20, k_145_21, k_145_22, k_145_23, k_145_24, k_145_25, k_145_26, k_145_27, k_145_28, k_145_29, k_145_30, k_145_31, k_145_32, k_145_33, k_145_34, k_145_35, sh_146, sh_147, sh_148, sh_149, sh_150, sh_151, sh_152, sh_153, sh_154, sh_155, sh_156, sh_157, sh_158, sh_159, sh_160, sh_161, sh_162, sh_163, sh_164, sh_165, sh_166, sh_167, sh_168, sh_169, sh_170, sh_171, sh_172, sh_173, sh_174, sh_175, sh_176, sh_177, sh_178, sh_179, sh_180, sh_181, g_146, g_147, g_148, g_149, g_150, g_151, g_152, g_153, g_154, g_155, g_156, g_157, g_158, g_159, g_160, g_161, g_162, g_163, g_164, g_165, g_166, g_167, g_168, g_169, g_170, g_171, g_172, g_173, g_174, g_175, g_176, g_177, g_178, g_179, g_180, g_181, g_145_36, g_145_37, g_145_38, g_145_39, g_145_40, g_145_41, wm_146, wm_147, wm_148, wm_149, wm_150, wm_151, wm_152, wm_153, wm_154, wm_155, wm_156, wm_157, wm_158, wm_159, wm_160, wm_161, wm_162, wm_163, wm_164, wm_165, wm_166, wm_167, wm_168, wm_169, wm_170, wm_171, wm_172, wm_173, wm_174, wm_175, wm_176, wm_177, wm_178, wm_179, wm_180, wm_181, wm_145_36, wm_145_37, wm_145_38, wm_145_39, wm_145_40, wm_145_41, hw, h16, nI_ge h16 (by decide), h1, h2]
      · rw [h4, rm_174 (wm_169 hw h16) h16, rm_169 hw h16, clear, if_pos h1]
      · rw [h5, cm_174 (wm_169 hw h16) h16, cm_169 hw h16]
    · obtain ⟨M', h2, h3, h4, h5⟩ := ih (j + 1) M hw (by omega)
      refine ⟨M', fun Q => ?_, h3, ?_, h5⟩
      · rw [s_73_84]
        simp only [s_73_86, s_73_88, s_73_91, s_73_92, s_73_95, s_73_97, s_73_98, s_73_101, s_73_102, s_73_105, s_73_107, s_73_108, s_73_109, s_73_112, s_73_113, s_73_116, s_73_118, s_73_119, s_73_120, s_73_121, s_73_124, s_73_126, s_73_127, s_73_128, s_73_131, eq_self, Nat.reduceLT, Nat.reduceLeDiff, Nat.reduceMod, Nat.reduceDiv, Nat.reduceAdd, Nat.reduceMul, Option.toList_some, Option.toList_none, List.cons_append, List.nil_append, List.append_nil, n10, n00, if_true, if_false, b0, b1, nI_add, true_and, and_true, and_self, sh_145, k_145_0, k_145_1, k_145_2, k_145_3, k_145_4, k_145_5, k_145_6, k_145_7, k_145_8, k_145_9, k_145_10, k_145_11, k_145_12, k_145_13, k_145_14, k_145_15, k_145_16, k_145_17, k_145_18, k_145_19, k_145_20, k_145_21, k_145_22, k_145_23, k_145_24, k_145_25, k_145_26, k_145_27, k_145_28, k_145_29, k_145_30, k_145_31, k_145_32, k_145_33, k_145_34, k_145_35, sh_146, sh_147, sh_148, sh_149, sh_150, sh_151, sh_152, sh_153, sh_154, sh_155, sh_156, sh_157, sh_158, sh_159, sh_160, sh_161, sh_162, sh_163, sh_164, sh_165, sh_166, sh_167, sh_168, sh_169, sh_170, sh_171, sh_172, sh_173, sh_174, sh_175, sh_176, sh_177, sh_178, sh_179, sh_180, sh_181, g_146, g_147, g_148, g_149, g_150, g_151, g_152, g_153, g_154, g_155, g_156, g_157, g_158, g_159, g_160, g_161, g_162, g_163, g_164, g_165, g_166, g_167, g_168, g_169, g_170, g_171, g_172, g_173, g_174, g_175, g_176, g_177, g_178, g_179, g_180, g_181, g_145_36, g_145_37, g_145_38, g_145_39, g_145_40, g_145_41, wm_146, wm_147, wm_148, wm_149, wm_150, wm_151, wm_152, wm_153, wm_154, wm_155, wm_156, wm_157, wm_158, wm_159, wm_160, wm_161, wm_162, wm_163, wm_164, wm_165, wm_166, wm_167, wm_168, wm_169, wm_170, wm_171, wm_172, wm_173, wm_174, wm_175, wm_176, wm_177, wm_178, wm_179, wm_180, wm_181, wm_145_36, wm_145_37, wm_145_38, wm_145_39, wm_145_40, wm_145_41, hw, h16, nI_ge h16 (by decide), h2]
        by_cases h6 : rg M 24 j = 0
        · simp only [h6, eq_self, Nat.reduceLT, Nat.reduceLeDiff, Nat.reduceMod, Nat.reduceDiv, Nat.reduceAdd, Nat.reduceMul, Option.toList_some, Option.toList_none, List.cons_append, List.nil_append, List.append_nil, n10, n00, if_true, if_false, b0, b1, nI_add, true_and, and_true, and_self]
        · have h7 : ¬ rg M 25 j = c := fun z => h1 ⟨h6, z⟩
          simp only [h6, h7, eq_self, Nat.reduceLT, Nat.reduceLeDiff, Nat.reduceMod, Nat.reduceDiv, Nat.reduceAdd, Nat.reduceMul, Option.toList_some, Option.toList_none, List.cons_append, List.nil_append, List.append_nil, n10, n00, if_true, if_false, b0, b1, nI_add, true_and, and_true, and_self]
      · rw [h4, clear, if_neg h1]
theorem n4s : ∀ k, k < 4 → (nI 4 ≤ nI k) = False := fun k h => eq_false (nI_ge h (by decide))
theorem cm40 : (nI 2 ≤ nI 0) = False := eq_false (by decide)
theorem cm41 : (nI 2 ≤ nI 1) = False := eq_false (by decide)
theorem cm42 : (nI 2 ≤ nI 2) = True := eq_true (by decide)
/-- the cage's MOUNTS are gone -/
def unmt (c : Nat) (r : RS) : RS := ru (ru (ru (ru (ru (ru (ru r 17 c (nI 0)) 15 (2 * c) (nI 0)) 15 (2 * c + 1) (nI 0)) 18 (4 * c) (nI 0)) 18 (4 * c + 1) (nI 0)) 18 (4 * c + 2) (nI 0)) 18 (4 * c + 3) (nI 0)
theorem c_end_q (l4 l5 : Option Value) {pi how : Int32} {c : Nat} (hc : c < 4) (hw : wf M) : ∃ M', (∀ Q, V d 73 134 [some (rf (some 145)), some (.int pi), some (.int how), some (.int (nI c)), l4, l5] [] M Q = Q none M') ∧ wf M' ∧ rg M' = unmt c (rg M) ∧ cg M' = cg M := by
  have i0 : 2 * c < 8 := by omega
  have i1 : 2 * c + 1 < 8 := by omega
  have j0 : 4 * c < 16 := by omega
  have j1 : 4 * c + 1 < 16 := by omega
  have j2 : 4 * c + 2 < 16 := by omega
  have j3 : 4 * c + 3 < 16 := by omega
  have e0 : (nI (4 * c + 4) ≤ nI (4 * c)) = False := eq_false (nI_ge (by omega) (by omega))
  have e1 : (nI (4 * c + 4) ≤ nI (4 * c + 1)) = False := eq_false (nI_ge (by omega) (by omega))
  have e2 : (nI (4 * c + 4) ≤ nI (4 * c + 2)) = False := eq_false (nI_ge (by omega) (by omega))
  have e3 : (nI (4 * c + 4) ≤ nI (4 * c + 3)) = False := eq_false (nI_ge (by omega) (by omega))
  have e4 : (nI (4 * c + 4) ≤ nI (4 * c + 4)) = True := eq_true (Int32.le_refl _)
  have w1 := wm_162 hw hc b0
  have w2 := wm_160 w1 i0 (x := nI 0)
  have w3 := wm_160 w2 i1 (x := nI 0)
  have w4 := wm_163 w3 j0 b0
  have w5 := wm_163 w4 j1 b0
  have w6 := wm_163 w5 j2 b0
  have w7 := wm_163 w6 j3 b0
  refine ⟨_, fun Q => ?_, w7, ?_, ?_⟩
  · simp only [s_73_134, s_73_135, s_73_138, s_73_139, s_73_140, s_73_141, s_73_142, s_73_144, s_73_146, s_73_147, s_73_150, s_73_151, s_73_154, s_73_155, s_73_156, s_73_157, s_73_159, s_73_160, s_73_161, s_73_162, s_73_165, eq_self, Nat.reduceLT, Nat.reduceLeDiff, Nat.reduceMod, Nat.reduceDiv, Nat.reduceAdd, Nat.reduceMul, Option.toList_some, Option.toList_none, List.cons_append, List.nil_append, List.append_nil, n10, n00, if_true, if_false, b0, b1, nI_add, true_and, and_true, and_self, sh_145, k_145_0, k_145_1, k_145_2, k_145_3, k_145_4, k_145_5, k_145_6, k_145_7, k_145_8, k_145_9, k_145_10, k_145_11, k_145_12, k_145_13, k_145_14, k_145_15, k_145_16, k_145_17, k_145_18, k_145_19, k_145_20, k_145_21, k_145_22, k_145_23, k_145_24, k_145_25, k_145_26, k_145_27, k_145_28, k_145_29, k_145_30, k_145_31, k_145_32, k_145_33, k_145_34, k_145_35, sh_146, sh_147, sh_148, sh_149, sh_150, sh_151, sh_152, sh_153, sh_154, sh_155, sh_156, sh_157, sh_158, sh_159, sh_160, sh_161, sh_162, sh_163, sh_164, sh_165, sh_166, sh_167, sh_168, sh_169, sh_170, sh_171, sh_172, sh_173, sh_174, sh_175, sh_176, sh_177, sh_178, sh_179, sh_180, sh_181, g_146, g_147, g_148, g_149, g_150, g_151, g_152, g_153, g_154, g_155, g_156, g_157, g_158, g_159, g_160, g_161, g_162, g_163, g_164, g_165, g_166, g_167, g_168, g_169, g_170, g_171, g_172, g_173, g_174, g_175, g_176, g_177, g_178, g_179, g_180, g_181, g_145_36, g_145_37, g_145_38, g_145_39, g_145_40, g_145_41, hw, hc, cm40, cm41, cm42, pk_mul, i0, i1, w1, w2, w3, Nat.add_zero, Nat.zero_add, s_73_168, s_73_169, s_73_170, s_73_171, s_73_173, s_73_175, s_73_176, s_73_177, s_73_178, s_73_179, s_73_180, s_73_183, s_73_184, s_73_187, s_73_189, s_73_190, s_73_191, s_73_194, s_73_197, e0, e1, e2, e3, e4, j0, j1, j2, j3, w4, w5, w6, Nat.add_assoc]
  · rw [rm_163 w6 j3 b0, rm_163 w5 j2 b0, rm_163 w4 j1 b0, rm_163 w3 j0 b0, rm_160 w2 i1, rm_160 w1 i0, rm_162 hw hc b0]
    rfl
  · rw [cm_163 w6 j3 b0, cm_163 w5 j2 b0, cm_163 w4 j1 b0, cm_163 w3 j0 b0, cm_160 w2 i1, cm_160 w1 i0, cm_162 hw hc b0]
/-- what the end of PROCESS p with a code does -/
def endR (r : RS) (p c : Nat) (how : Int32) : RS := if ffind (pInit r (nI c)) 0 16 = some p then unmt c (clear (nI c) 16 0 r) else repar (nI p) (oI (ffind (pInit r (nI c)) 0 16)) 16 0 (ru (ru r 24 p (nI 2)) 32 p how)
theorem c_end (hw : wf M) {p c : Nat} (hp : p < 16) (hc : c < 4) (hpc : rg M 25 p = nI c) {how : Int32} : ∃ M', (∀ Q, Vc (d + 1) 73 [rf (some 145), .int (nI p), .int how] M Q = Q none M') ∧ wf M' ∧ rg M' = endR (rg M) p c how ∧ cg M' = cg M := by
  have hstart : ∀ Q, Vc (d + 1) 73 [rf (some 145), .int (nI p), .int how] M Q = if nI p = oI (ffind (pInit (rg M) (nI c)) 0 16) then V (d + 1) 73 81 [some (rf (some 145)), some (.int (nI p)), some (.int how), some (.int (nI c)), some (.int (oI (ffind (pInit (rg M) (nI c)) 0 16))), none] [] M Q else V (d + 1) 73 20 [some (rf (some 145)), some (.int (nI p)), some (.int how), some (.int (nI c)), some (.int (oI (ffind (pInit (rg M) (nI c)) 0 16))), none] [] M Q := by
    intro Q
    show V (d + 1) 73 0 [some (rf (some 145)), some (.int (nI p)), some (.int how), none, none, none] [] M Q = _
    simp only [s_73_0, s_73_1, s_73_4, s_73_5, s_73_6, s_73_7, s_73_8, s_73_9, s_73_12, s_73_14, s_73_15, s_73_17, eq_self, Nat.reduceLT, Nat.reduceLeDiff, Nat.reduceMod, Nat.reduceDiv, Nat.reduceAdd, Nat.reduceMul, Option.toList_some, Option.toList_none, List.cons_append, List.nil_append, List.append_nil, n10, n00, if_true, if_false, b0, b1, nI_add, true_and, and_true, and_self, sh_145, k_145_0, k_145_1, k_145_2, k_145_3, k_145_4, k_145_5, k_145_6, k_145_7, k_145_8, k_145_9, k_145_10, k_145_11, k_145_12, k_145_13, k_145_14, k_145_15, k_145_16, k_145_17, k_145_18, k_145_19, k_145_20, k_145_21, k_145_22, k_145_23, k_145_24, k_145_25, k_145_26, k_145_27, k_145_28, k_145_29, k_145_30, k_145_31, k_145_32, k_145_33, k_145_34, k_145_35, sh_146, sh_147, sh_148, sh_149, sh_150, sh_151, sh_152, sh_153, sh_154, sh_155, sh_156, sh_157, sh_158, sh_159, sh_160, sh_161, sh_162, sh_163, sh_164, sh_165, sh_166, sh_167, sh_168, sh_169, sh_170, sh_171, sh_172, sh_173, sh_174, sh_175, sh_176, sh_177, sh_178, sh_179, sh_180, sh_181, g_146, g_147, g_148, g_149, g_150, g_151, g_152, g_153, g_154, g_155, g_156, g_157, g_158, g_159, g_160, g_161, g_162, g_163, g_164, g_165, g_166, g_167, g_168, g_169, g_170, g_171, g_172, g_173, g_174, g_175, g_176, g_177, g_178, g_179, g_180, g_181, g_145_36, g_145_37, g_145_38, g_145_39, g_145_40, g_145_41, hw, hp, hpc, c_init hw]
  by_cases h : ffind (pInit (rg M) (nI c)) 0 16 = some p
  · obtain ⟨M1, g1, g2, g3, g4⟩ := c_end_c (d := d + 1) (some (.int (oI (some p)))) (pi := nI p) (how := how) (c := nI c) 16 0 M hw rfl
    obtain ⟨M2, k1, k2, k3, k4⟩ := c_end_q (d := d + 1) (M := M1) (some (.int (oI (some p)))) (some (.int (nI 16))) (pi := nI p) (how := how) hc g2
    refine ⟨M2, fun Q => ?_, k2, ?_, k4.trans g4⟩
    · rw [hstart, h]
      simp only [oI, if_true, s_73_81, s_73_82]
      exact (g1 Q).trans (k1 Q)
    · rw [k3, g3, endR, if_pos h]
  · have hne : ¬ nI p = oI (ffind (pInit (rg M) (nI c)) 0 16) := by
      intro z
      cases h2 : ffind (pInit (rg M) (nI c)) 0 16 with
      | none =>
        rw [h2] at z
        have h9 := nI_pos (n := p) (by omega)
        rw [z] at h9
        exact h9 (by decide)
      | some m =>
        rw [h2] at z
        obtain ⟨-, g2, -⟩ := ffind_in h2
        have := (nI_eq (by omega) (by omega)).mp z
        subst this
        exact h h2
    obtain ⟨M1, g1, g2, g3, g4⟩ := c_end_z (d := d + 1) (some (.int (nI c))) (pi := nI p) (how := how) (one := oI (ffind (pInit (rg M) (nI c)) 0 16)) 16 0 (mu (mu M 169 p (.int (nI 2))) 177 p (.int how)) (wm_177 (wm_169 hw hp) hp) rfl
    refine ⟨M1, fun Q => ?_, g2, ?_, ?_⟩
    · rw [hstart, if_neg hne]
      simp only [s_73_20, s_73_21, s_73_24, s_73_25, s_73_26, s_73_27, s_73_28, s_73_31, s_73_32, s_73_33, s_73_34, s_73_35, eq_self, Nat.reduceLT, Nat.reduceLeDiff, Nat.reduceMod, Nat.reduceDiv, Nat.reduceAdd, Nat.reduceMul, Option.toList_some, Option.toList_none, List.cons_append, List.nil_append, List.append_nil, n10, n00, if_true, if_false, b0, b1, nI_add, true_and, and_true, and_self, sh_145, k_145_0, k_145_1, k_145_2, k_145_3, k_145_4, k_145_5, k_145_6, k_145_7, k_145_8, k_145_9, k_145_10, k_145_11, k_145_12, k_145_13, k_145_14, k_145_15, k_145_16, k_145_17, k_145_18, k_145_19, k_145_20, k_145_21, k_145_22, k_145_23, k_145_24, k_145_25, k_145_26, k_145_27, k_145_28, k_145_29, k_145_30, k_145_31, k_145_32, k_145_33, k_145_34, k_145_35, sh_146, sh_147, sh_148, sh_149, sh_150, sh_151, sh_152, sh_153, sh_154, sh_155, sh_156, sh_157, sh_158, sh_159, sh_160, sh_161, sh_162, sh_163, sh_164, sh_165, sh_166, sh_167, sh_168, sh_169, sh_170, sh_171, sh_172, sh_173, sh_174, sh_175, sh_176, sh_177, sh_178, sh_179, sh_180, sh_181, g_146, g_147, g_148, g_149, g_150, g_151, g_152, g_153, g_154, g_155, g_156, g_157, g_158, g_159, g_160, g_161, g_162, g_163, g_164, g_165, g_166, g_167, g_168, g_169, g_170, g_171, g_172, g_173, g_174, g_175, g_176, g_177, g_178, g_179, g_180, g_181, g_145_36, g_145_37, g_145_38, g_145_39, g_145_40, g_145_41, wm_146, wm_147, wm_148, wm_149, wm_150, wm_151, wm_152, wm_153, wm_154, wm_155, wm_156, wm_157, wm_158, wm_159, wm_160, wm_161, wm_162, wm_163, wm_164, wm_165, wm_166, wm_167, wm_168, wm_169, wm_170, wm_171, wm_172, wm_173, wm_174, wm_175, wm_176, wm_177, wm_178, wm_179, wm_180, wm_181, wm_145_36, wm_145_37, wm_145_38, wm_145_39, wm_145_40, wm_145_41, hw, hp, g1]
    · rw [g3, rm_177 (wm_169 hw hp) hp, rm_169 hw hp, endR, if_neg h]
    · rw [g4, cm_177 (wm_169 hw hp) hp, cm_169 hw hp]
theorem c_rkill_no (hw : wf M) {x : Int32} (h : ¬ ((nI 0 ≤ x ∧ x ≤ nI 15) ∧ rg M 24 x.toNatClampNeg = nI 1)) : Vc (d + 2) 74 [rf (some 145), .int x] M Q = Q (some (.int (nI 0))) M := by
  show V (d + 2) 74 0 [some (rf (some 145)), some (.int x)] [] M Q = _
  simp only [s_74_0, s_74_1, s_74_2, s_74_4, c_is]
  by_cases h1 : nI 0 ≤ x ∧ x ≤ nI 15
  · obtain ⟨n, hn, rfl⟩ := in_nI (by decide) h1
    have hn : n < 16 := by omega
    rw [nI_clamp (by omega)] at h
    have h2 : ¬ rg M 24 n = nI 1 := fun z => h ⟨h1, z⟩
    simp only [s_74_0, s_74_1, s_74_2, s_74_4, s_74_7, s_74_10, s_74_11, s_74_14, s_74_15, s_74_16, s_74_17, s_74_20, s_74_21, s_74_22, s_74_23, s_74_24, s_74_27, s_74_30, s_74_31, eq_self, Nat.reduceLT, Nat.reduceLeDiff, Nat.reduceMod, Nat.reduceDiv, Nat.reduceAdd, Nat.reduceMul, Option.toList_some, Option.toList_none, List.cons_append, List.nil_append, List.append_nil, n10, n00, if_true, if_false, b0, b1, nI_add, true_and, and_true, and_self, sh_145, k_145_0, k_145_1, k_145_2, k_145_3, k_145_4, k_145_5, k_145_6, k_145_7, k_145_8, k_145_9, k_145_10, k_145_11, k_145_12, k_145_13, k_145_14, k_145_15, k_145_16, k_145_17, k_145_18, k_145_19, k_145_20, k_145_21, k_145_22, k_145_23, k_145_24, k_145_25, k_145_26, k_145_27, k_145_28, k_145_29, k_145_30, k_145_31, k_145_32, k_145_33, k_145_34, k_145_35, sh_146, sh_147, sh_148, sh_149, sh_150, sh_151, sh_152, sh_153, sh_154, sh_155, sh_156, sh_157, sh_158, sh_159, sh_160, sh_161, sh_162, sh_163, sh_164, sh_165, sh_166, sh_167, sh_168, sh_169, sh_170, sh_171, sh_172, sh_173, sh_174, sh_175, sh_176, sh_177, sh_178, sh_179, sh_180, sh_181, g_146, g_147, g_148, g_149, g_150, g_151, g_152, g_153, g_154, g_155, g_156, g_157, g_158, g_159, g_160, g_161, g_162, g_163, g_164, g_165, g_166, g_167, g_168, g_169, g_170, g_171, g_172, g_173, g_174, g_175, g_176, g_177, g_178, g_179, g_180, g_181, g_145_36, g_145_37, g_145_38, g_145_39, g_145_40, g_145_41, h1, hw, hn, h2]
  · simp only [h1, s_74_0, s_74_1, s_74_2, s_74_4, s_74_7, s_74_10, s_74_11, s_74_14, s_74_15, s_74_16, s_74_17, s_74_20, s_74_21, s_74_22, s_74_23, s_74_24, s_74_27, s_74_30, s_74_31, eq_self, Nat.reduceLT, Nat.reduceLeDiff, Nat.reduceMod, Nat.reduceDiv, Nat.reduceAdd, Nat.reduceMul, Option.toList_some, Option.toList_none, List.cons_append, List.nil_append, List.append_nil, n10, n00, if_true, if_false, b0, b1, nI_add, true_and, and_true, and_self]
theorem c_rkill_in (hw : wf M) {p c : Nat} (hp : p < 16) (hc : c < 4) (hpc : rg M 25 p = nI c) (h : rg M 24 p = nI 1) : ∃ M', (∀ Q, Vc (d + 2) 74 [rf (some 145), .int (nI p)] M Q = Q (some (.int (nI 1))) M') ∧ wf M' ∧ rg M' = endR (rg M) p c (nI 137) ∧ cg M' = cg M := by
  obtain ⟨M', g1, g2, g3, g4⟩ := c_end (d := d) hw hp hc hpc (how := nI 137)
  refine ⟨M', fun Q => ?_, g2, g3, g4⟩
  have hin : nI 0 ≤ nI p ∧ nI p ≤ nI 15 := ⟨nI_le (Nat.zero_le _) (by omega), nI_le (by omega) (by decide)⟩
  show V (d + 2) 74 0 [some (rf (some 145)), some (.int (nI p))] [] M Q = _
  simp only [s_74_0, s_74_1, s_74_2, s_74_4, s_74_7, s_74_10, s_74_11, s_74_14, s_74_15, s_74_16, s_74_17, s_74_20, s_74_21, s_74_22, s_74_23, s_74_24, s_74_27, s_74_30, s_74_31, eq_self, Nat.reduceLT, Nat.reduceLeDiff, Nat.reduceMod, Nat.reduceDiv, Nat.reduceAdd, Nat.reduceMul, Option.toList_some, Option.toList_none, List.cons_append, List.nil_append, List.append_nil, n10, n00, if_true, if_false, b0, b1, nI_add, true_and, and_true, and_self, sh_145, k_145_0, k_145_1, k_145_2, k_145_3, k_145_4, k_145_5, k_145_6, k_145_7, k_145_8, k_145_9, k_145_10, k_145_11, k_145_12, k_145_13, k_145_14, k_145_15, k_145_16, k_145_17, k_145_18, k_145_19, k_145_20, k_145_21, k_145_22, k_145_23, k_145_24, k_145_25, k_145_26, k_145_27, k_145_28, k_145_29, k_145_30, k_145_31, k_145_32, k_145_33, k_145_34, k_145_35, sh_146, sh_147, sh_148, sh_149, sh_150, sh_151, sh_152, sh_153, sh_154, sh_155, sh_156, sh_157, sh_158, sh_159, sh_160, sh_161, sh_162, sh_163, sh_164, sh_165, sh_166, sh_167, sh_168, sh_169, sh_170, sh_171, sh_172, sh_173, sh_174, sh_175, sh_176, sh_177, sh_178, sh_179, sh_180, sh_181, g_146, g_147, g_148, g_149, g_150, g_151, g_152, g_153, g_154, g_155, g_156, g_157, g_158, g_159, g_160, g_161, g_162, g_163, g_164, g_165, g_166, g_167, g_168, g_169, g_170, g_171, g_172, g_173, g_174, g_175, g_176, g_177, g_178, g_179, g_180, g_181, g_145_36, g_145_37, g_145_38, g_145_39, g_145_40, g_145_41, c_is, hin, hw, hp, h, g1]
end
