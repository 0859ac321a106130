section
variable {d : Nat} {M : mH} {Q : Option Value → mH → Prop}
theorem or_bI (a b : Bool) : bI a ||| bI b = bI (a || b) := by cases a <;> cases b <;> decide
theorem bI_t : nI 1 = bI true := rfl
theorem bI_f : nI 0 = bI false := rfl
theorem bI_0 (b : Bool) : (bI b = 0) = (b = false) := by cases b <;> simp [bI] <;> decide
/-- a ROOT; the POINT of a MOUNT, or shown by one -/
def pRoot (r : RS) (n : Int32) (c : Nat) : Bool := decide (r 8 c = n)
def pMnt (r : RS) (n : Int32) (k : Nat) : Bool := decide (¬ r 18 k = 0 ∧ (r 19 k = n ∨ r 21 k = n))
theorem c_rem_r (hw : wf M) {C : Nat} (hC : C ≤ 4) (hCn : rg M 0 36 = nI C) {pi n : Int32} : ∀ k c b, c + k = C → V d 90 30 [some (rf (some 145)), some (.int pi), some (.int n), some (.int (bI b)), some (.int (nI c))] [] M Q = V d 90 64 [some (rf (some 145)), some (.int pi), some (.int n), some (.int (bI (b || (ffind (pRoot (rg M) n) c k).isSome))), some (.int (nI C))] [] M Q := by
  intro k
  induction k with
  | zero =>
    intro c b hc
    obtain rfl : c = C := by omega
    rw [s_90_30]
    simp only [s_90_32, s_90_33, s_90_36, eq_self, Nat.reduceLT, Nat.reduceLeDiff, Nat.reduceMod, Nat.reduceDiv, Nat.reduceAdd, Nat.reduceMul, Option.toList_some, Option.toList_none, List.cons_append, List.nil_append, List.append_nil, n10, n00, if_true, if_false, b0, b1, nI_add, true_and, and_true, and_self, sh_145, k_145_0, k_145_1, k_145_2, k_145_3, k_145_4, k_145_5, k_145_6, k_145_7, k_145_8, k_145_9, k_145_10, k_145_11, k_145_12, k_145_13, k_145_14, k_145_15, k_145_16, k_145_17, k_145_18, k_145_19, k_145_20, k_145_21, k_145_22, k_145_23, k_145_24, k_145_25, k_145_26, k_145_27, k_145_28, k_145_29, k_145_30, k_145_31, k_145_32, k_145_33, k_145_34, k_145_35, sh_146, sh_147, sh_148, sh_149, sh_150, sh_151, sh_152, sh_153, sh_154, sh_155, sh_156, sh_157, sh_158, sh_159, sh_160, sh_161, sh_162, sh_163, sh_164, sh_165, sh_166, sh_167, sh_168, sh_169, sh_170, sh_171, sh_172, sh_173, sh_174, sh_175, sh_176, sh_177, sh_178, sh_179, sh_180, sh_181, g_146, g_147, g_148, g_149, g_150, g_151, g_152, g_153, g_154, g_155, g_156, g_157, g_158, g_159, g_160, g_161, g_162, g_163, g_164, g_165, g_166, g_167, g_168, g_169, g_170, g_171, g_172, g_173, g_174, g_175, g_176, g_177, g_178, g_179, g_180, g_181, g_145_36, g_145_37, g_145_38, g_145_39, g_145_40, g_145_41, hw, hCn, show nI c ≤ nI c from Int32.le_refl _, ffind, Option.isSome_none, Bool.or_false]
  | succ k ih =>
    intro c b hc
    have h4 : c < 4 := by omega
    rw [s_90_30]
    simp only [s_90_32, s_90_33, s_90_36, s_90_39, s_90_40, s_90_41, s_90_44, s_90_46, s_90_47, s_90_48, s_90_51, s_90_52, s_90_55, s_90_56, s_90_57, s_90_58, s_90_61, eq_self, Nat.reduceLT, Nat.reduceLeDiff, Nat.reduceMod, Nat.reduceDiv, Nat.reduceAdd, Nat.reduceMul, Option.toList_some, Option.toList_none, List.cons_append, List.nil_append, List.append_nil, n10, n00, if_true, if_false, b0, b1, nI_add, true_and, and_true, and_self, sh_145, k_145_0, k_145_1, k_145_2, k_145_3, k_145_4, k_145_5, k_145_6, k_145_7, k_145_8, k_145_9, k_145_10, k_145_11, k_145_12, k_145_13, k_145_14, k_145_15, k_145_16, k_145_17, k_145_18, k_145_19, k_145_20, k_145_21, k_145_22, k_145_23, k_145_24, k_145_25, k_145_26, k_145_27, k_145_28, k_145_29, k_145_30, k_145_31, k_145_32, k_145_33, k_145_34, k_145_35, sh_146, sh_147, sh_148, sh_149, sh_150, sh_151, sh_152, sh_153, sh_154, sh_155, sh_156, sh_157, sh_158, sh_159, sh_160, sh_161, sh_162, sh_163, sh_164, sh_165, sh_166, sh_167, sh_168, sh_169, sh_170, sh_171, sh_172, sh_173, sh_174, sh_175, sh_176, sh_177, sh_178, sh_179, sh_180, sh_181, g_146, g_147, g_148, g_149, g_150, g_151, g_152, g_153, g_154, g_155, g_156, g_157, g_158, g_159, g_160, g_161, g_162, g_163, g_164, g_165, g_166, g_167, g_168, g_169, g_170, g_171, g_172, g_173, g_174, g_175, g_176, g_177, g_178, g_179, g_180, g_181, g_145_36, g_145_37, g_145_38, g_145_39, g_145_40, g_145_41, hw, hCn, h4, nI_ge (show c < C by omega) (by omega), ffind, pRoot]
    by_cases h1 : rg M 8 c = n
    · simp only [h1, eq_self, Nat.reduceLT, Nat.reduceLeDiff, Nat.reduceMod, Nat.reduceDiv, Nat.reduceAdd, Nat.reduceMul, Option.toList_some, Option.toList_none, List.cons_append, List.nil_append, List.append_nil, n10, n00, if_true, if_false, b0, b1, nI_add, true_and, and_true, and_self, decide_true, cond_true, Option.isSome_some, Bool.or_true]
      rw [show bI b ||| nI 1 = bI (b || true) from or_bI b true, Bool.or_true, ih (c + 1) true (by omega), Bool.true_or]
    · simp only [h1, eq_self, Nat.reduceLT, Nat.reduceLeDiff, Nat.reduceMod, Nat.reduceDiv, Nat.reduceAdd, Nat.reduceMul, Option.toList_some, Option.toList_none, List.cons_append, List.nil_append, List.append_nil, n10, n00, if_true, if_false, b0, b1, nI_add, true_and, and_true, and_self, decide_false, cond_false]
      rw [show bI b ||| nI 0 = bI (b || false) from or_bI b false, Bool.or_false, ih (c + 1) b (by omega)]
theorem c_rem_m (hw : wf M) {pi n : Int32} : ∀ k j b, j + k = 16 → V d 90 67 [some (rf (some 145)), some (.int pi), some (.int n), some (.int (bI b)), some (.int (nI j))] [] M Q = V d 90 120 [some (rf (some 145)), some (.int pi), some (.int n), some (.int (bI (b || (ffind (pMnt (rg M) n) j k).isSome))), some (.int (nI 16))] [] M Q := by
  intro k
  induction k with
  | zero =>
    intro j b hj
    obtain rfl : j = 16 := by omega
    rw [s_90_67]
    simp only [s_90_69, s_90_71, eq_self, Nat.reduceLT, Nat.reduceLeDiff, Nat.reduceMod, Nat.reduceDiv, Nat.reduceAdd, Nat.reduceMul, Option.toList_some, Option.toList_none, List.cons_append, List.nil_append, List.append_nil, n10, n00, if_true, if_false, b0, b1, nI_add, true_and, and_true, and_self, show nI 16 ≤ nI 16 from Int32.le_refl _, ffind, Option.isSome_none, Bool.or_false]
  | succ k ih =>
    intro j b hj
    have h16 : j < 16 := by omega
    have hT : bI b ||| nI 1 = bI true := by rw [show bI b ||| nI 1 = bI (b || true) from or_bI b true, Bool.or_true]
    have hF : bI b ||| nI 0 = bI b := by rw [show bI b ||| nI 0 = bI (b || false) from or_bI b false, Bool.or_false]
    rw [s_90_67]
    simp only [s_90_69, s_90_71, s_90_74, s_90_75, s_90_76, s_90_79, s_90_81, s_90_82, s_90_85, s_90_86, s_90_89, s_90_91, s_90_92, s_90_93, s_90_96, s_90_97, s_90_100, s_90_102, s_90_103, s_90_104, s_90_107, s_90_108, s_90_111, s_90_112, s_90_113, s_90_114, s_90_117, eq_self, Nat.reduceLT, Nat.reduceLeDiff, Nat.reduceMod, Nat.reduceDiv, Nat.reduceAdd, Nat.reduceMul, Option.toList_some, Option.toList_none, List.cons_append, List.nil_append, List.append_nil, n10, n00, if_true, if_false, b0, b1, nI_add, true_and, and_true, and_self, sh_145, k_145_0, k_145_1, k_145_2, k_145_3, k_145_4, k_145_5, k_145_6, k_145_7, k_145_8, k_145_9, k_145_10, k_145_11, k_145_12, k_145_13, k_145_14, k_145_15, k_145_16, k_145_17, k_145_18, k_145_19, k_145_20, k_145_21, k_145_22, k_145_23, k_145_24, k_145_25, k_145_26, k_145_27, k_145_28, k_145_29, k_145_30, k_145_31, k_145_32, k_145_33, k_145_34, k_145_35, sh_146, sh_147, sh_148, sh_149, sh_150, sh_151, sh_152, sh_153, sh_154, sh_155, sh_156, sh_157, sh_158, sh_159, sh_160, sh_161, sh_162, sh_163, sh_164, sh_165, sh_166, sh_167, sh_168, sh_169, sh_170, sh_171, sh_172, sh_173, sh_174, sh_175, sh_176, sh_177, sh_178, sh_179, sh_180, sh_181, g_146, g_147, g_148, g_149, g_150, g_151, g_152, g_153, g_154, g_155, g_156, g_157, g_158, g_159, g_160, g_161, g_162, g_163, g_164, g_165, g_166, g_167, g_168, g_169, g_170, g_171, g_172, g_173, g_174, g_175, g_176, g_177, g_178, g_179, g_180, g_181, g_145_36, g_145_37, g_145_38, g_145_39, g_145_40, g_145_41, hw, h16, nI_ge h16 (by decide), ffind, pMnt, hT, hF, ih (j + 1) _ (by omega)]
    by_cases h1 : rg M 18 j = 0
    · simp only [h1, eq_self, Nat.reduceLT, Nat.reduceLeDiff, Nat.reduceMod, Nat.reduceDiv, Nat.reduceAdd, Nat.reduceMul, Option.toList_some, Option.toList_none, List.cons_append, List.nil_append, List.append_nil, n10, n00, if_true, if_false, b0, b1, nI_add, true_and, and_true, and_self, not_true, false_and, decide_false, cond_false]
    · by_cases h2 : rg M 19 j = n
      · simp only [h1, h2, eq_self, Nat.reduceLT, Nat.reduceLeDiff, Nat.reduceMod, Nat.reduceDiv, Nat.reduceAdd, Nat.reduceMul, Option.toList_some, Option.toList_none, List.cons_append, List.nil_append, List.append_nil, n10, n00, if_true, if_false, b0, b1, nI_add, true_and, and_true, and_self, not_false_eq_true, true_or, decide_true, cond_true, Option.isSome_some, Bool.or_true, Bool.true_or]
      · by_cases h3 : rg M 21 j = n
        · simp only [h1, h2, h3, eq_self, Nat.reduceLT, Nat.reduceLeDiff, Nat.reduceMod, Nat.reduceDiv, Nat.reduceAdd, Nat.reduceMul, Option.toList_some, Option.toList_none, List.cons_append, List.nil_append, List.append_nil, n10, n00, if_true, if_false, b0, b1, nI_add, true_and, and_true, and_self, not_false_eq_true, or_true, decide_true, cond_true, Option.isSome_some, Bool.or_true, Bool.true_or]
        · simp only [h1, h2, h3, eq_self, Nat.reduceLT, Nat.reduceLeDiff, Nat.reduceMod, Nat.reduceDiv, Nat.reduceAdd, Nat.reduceMul, Option.toList_some, Option.toList_none, List.cons_append, List.nil_append, List.append_nil, n10, n00, if_true, if_false, b0, b1, nI_add, true_and, and_true, and_self, or_self, and_false, decide_false, cond_false]
/-- BUSY: NODE 0, not empty, a ROOT, at a MOUNT -/
def rmB (r : RS) (n C : Nat) : Bool := ((n == 0 || (decide (r 4 n = 0) && !(cnt (pEnt r (nI n)) 1 31 == 0))) || (ffind (pRoot r (nI n)) 0 C).isSome) || (ffind (pMnt r (nI n)) 0 16).isSome
theorem cnt_le {p : Nat → Bool} : ∀ k n, cnt p n k ≤ k := by
  intro k
  induction k with
  | zero => intro n; exact Nat.le_refl 0
  | succ k ih =>
    intro n
    have := ih (n + 1)
    simp only [cnt]
    cases p n <;> simp <;> omega
theorem c_remove (hw : wf M) {C : Nat} (hC : C ≤ 4) (hCn : rg M 0 36 = nI C) {p c n : Nat} (hp : p < 16) (hc : c < 4) (hpc : rg M 25 p = nI c) (hn : n < 32) {m : Nat} (hm : m < 32) (hnm : n = 0 ∨ rg M 2 n = nI m) : Vc (d + 2) 90 [rf (some 145), .int (nI p), .int (nI n)] M Q = if rmB (rg M) n C = true then Q (some (.int (-7))) M else if mayR (rg M) p c m then Q (some (.int (nI 0))) (mu M 146 n (.int (nI 0))) else Q (some (.int (-4))) M := by
  have hst : Vc (d + 2) 90 [rf (some 145), .int (nI p), .int (nI n)] M Q = V (d + 2) 90 30 [some (rf (some 145)), some (.int (nI p)), some (.int (nI n)), some (.int (bI (n == 0 || (decide (rg M 4 n = 0) && !(cnt (pEnt (rg M) (nI n)) 1 31 == 0))))), some (.int (nI 0))] [] M Q := by
    show V (d + 2) 90 0 [some (rf (some 145)), some (.int (nI p)), some (.int (nI n)), none, none] [] M Q = _
    by_cases h0 : n = 0
    · subst h0
      simp only [s_90_0, s_90_1, s_90_21, s_90_22, s_90_26, s_90_27, s_90_28, eq_self, Nat.reduceLT, Nat.reduceLeDiff, Nat.reduceMod, Nat.reduceDiv, Nat.reduceAdd, Nat.reduceMul, Option.toList_some, Option.toList_none, List.cons_append, List.nil_append, List.append_nil, n10, n00, if_true, if_false, b0, b1, nI_add, true_and, and_true, and_self, beq_self_eq_true, Bool.true_or]
      rfl
    · have h0' : (nI n = 0) = False := eq_false (nI_ne0 (by omega) (by omega))
      have hb : (n == 0) = false := beq_eq_false_iff_ne.mpr h0
      simp only [s_90_0, s_90_1, s_90_4, s_90_5, s_90_8, s_90_9, s_90_10, s_90_13, s_90_14, s_90_15 hw sh_145, s_90_18, s_90_21, s_90_22, s_90_25, s_90_26, s_90_27, s_90_28, eq_self, Nat.reduceLT, Nat.reduceLeDiff, Nat.reduceMod, Nat.reduceDiv, Nat.reduceAdd, Nat.reduceMul, Option.toList_some, Option.toList_none, List.cons_append, List.nil_append, List.append_nil, n10, n00, if_true, if_false, b0, b1, nI_add, true_and, and_true, and_self, sh_145, k_145_0, k_145_1, k_145_2, k_145_3, k_145_4, k_145_5, k_145_6, k_145_7, k_145_8, k_145_9, k_145_10, k_145_11, k_145_12, k_145_13, k_145_14, k_145_15, k_145_16, k_145_17, k_145_18, k_145_19, k_145_20, k_145_21, k_145_22, k_145_23, k_145_24, k_145_25, k_145_26, k_145_27, k_145_28, k_145_29, k_145_30, k_145_31, k_145_32, k_145_33, k_145_34, k_145_35, sh_146, sh_147, sh_148, sh_149, sh_150, sh_151, sh_152, sh_153, sh_154, sh_155, sh_156, sh_157, sh_158, sh_159, sh_160, sh_161, sh_162, sh_163, sh_164, sh_165, sh_166, sh_167, sh_168, sh_169, sh_170, sh_171, sh_172, sh_173, sh_174, sh_175, sh_176, sh_177, sh_178, sh_179, sh_180, sh_181, g_146, g_147, g_148, g_149, g_150, g_151, g_152, g_153, g_154, g_155, g_156, g_157, g_158, g_159, g_160, g_161, g_162, g_163, g_164, g_165, g_166, g_167, g_168, g_169, g_170, g_171, g_172, g_173, g_174, g_175, g_176, g_177, g_178, g_179, g_180, g_181, g_145_36, g_145_37, g_145_38, g_145_39, g_145_40, g_145_41, hw, hn, h0', hb, c_entries hw, Bool.false_or]
      by_cases h1 : rg M 4 n = 0
      · have hle := cnt_le (p := pEnt (rg M) (nI n)) 31 1
        by_cases h2 : cnt (pEnt (rg M) (nI n)) 1 31 = 0
        · simp only [h1, h2, eq_self, Nat.reduceLT, Nat.reduceLeDiff, Nat.reduceMod, Nat.reduceDiv, Nat.reduceAdd, Nat.reduceMul, Option.toList_some, Option.toList_none, List.cons_append, List.nil_append, List.append_nil, n10, n00, if_true, if_false, b0, b1, nI_add, true_and, and_true, and_self, show nI 0 ≤ 0 from by decide, decide_true, beq_self_eq_true, Bool.not_true, Bool.and_false]
          rfl
        · have h3 : ¬ nI (cnt (pEnt (rg M) (nI n)) 1 31) ≤ 0 := nI_nle (by omega) (by omega)
          have h4 : (cnt (pEnt (rg M) (nI n)) 1 31 == 0) = false := beq_eq_false_iff_ne.mpr h2
          simp only [h1, h3, h4, eq_self, Nat.reduceLT, Nat.reduceLeDiff, Nat.reduceMod, Nat.reduceDiv, Nat.reduceAdd, Nat.reduceMul, Option.toList_some, Option.toList_none, List.cons_append, List.nil_append, List.append_nil, n10, n00, if_true, if_false, b0, b1, nI_add, true_and, and_true, and_self, decide_true, Bool.not_false, Bool.and_self]
          rfl
      · simp only [h1, eq_self, Nat.reduceLT, Nat.reduceLeDiff, Nat.reduceMod, Nat.reduceDiv, Nat.reduceAdd, Nat.reduceMul, Option.toList_some, Option.toList_none, List.cons_append, List.nil_append, List.append_nil, n10, n00, if_true, if_false, b0, b1, nI_add, true_and, and_true, and_self, decide_false, Bool.false_and]
        rfl
  rw [hst, c_rem_r hw hC hCn C 0 _ (by omega), s_90_64, s_90_65, c_rem_m hw 16 0 _ rfl, s_90_120, s_90_121]
  simp only [bI_0]
  have hrm : (((n == 0 || (decide (rg M 4 n = 0) && !(cnt (pEnt (rg M) (nI n)) 1 31 == 0))) || (ffind (pRoot (rg M) (nI n)) 0 C).isSome) || (ffind (pMnt (rg M) (nI n)) 0 16).isSome) = rmB (rg M) n C := rfl
  rw [hrm]
  cases hb : rmB (rg M) n C with
  | true => simp only [s_90_124, s_90_126, eq_self, Nat.reduceLT, Nat.reduceLeDiff, Nat.reduceMod, Nat.reduceDiv, Nat.reduceAdd, Nat.reduceMul, Option.toList_some, Option.toList_none, List.cons_append, List.nil_append, List.append_nil, n10, n00, if_true, if_false, b0, b1, nI_add, true_and, and_true, and_self, Bool.true_eq_false]
  | false =>
    have hnm' : rg M 2 n = nI m := by
      rcases hnm with rfl | h
      · rw [← hrm] at hb
        simp at hb
      · exact h
    simp only [s_90_127, s_90_128, s_90_129, s_90_130, s_90_133, s_90_134, s_90_135 hw sh_145, c_may hw hp hc hm hpc, eq_self, Nat.reduceLT, Nat.reduceLeDiff, Nat.reduceMod, Nat.reduceDiv, Nat.reduceAdd, Nat.reduceMul, Option.toList_some, Option.toList_none, List.cons_append, List.nil_append, List.append_nil, n10, n00, if_true, if_false, b0, b1, nI_add, true_and, and_true, and_self, sh_145, k_145_0, k_145_1, k_145_2, k_145_3, k_145_4, k_145_5, k_145_6, k_145_7, k_145_8, k_145_9, k_145_10, k_145_11, k_145_12, k_145_13, k_145_14, k_145_15, k_145_16, k_145_17, k_145_18, k_145_19, k_145_20, k_145_21, k_145_22, k_145_23, k_145_24, k_145_25, k_145_26, k_145_27, k_145_28, k_145_29, k_145_30, k_145_31, k_145_32, k_145_33, k_145_34, k_145_35, sh_146, sh_147, sh_148, sh_149, sh_150, sh_151, sh_152, sh_153, sh_154, sh_155, sh_156, sh_157, sh_158, sh_159, sh_160, sh_161, sh_162, sh_163, sh_164, sh_165, sh_166, sh_167, sh_168, sh_169, sh_170, sh_171, sh_172, sh_173, sh_174, sh_175, sh_176, sh_177, sh_178, sh_179, sh_180, sh_181, g_146, g_147, g_148, g_149, g_150, g_151, g_152, g_153, g_154, g_155, g_156, g_157, g_158, g_159, g_160, g_161, g_162, g_163, g_164, g_165, g_166, g_167, g_168, g_169, g_170, g_171, g_172, g_173, g_174, g_175, g_176, g_177, g_178, g_179, g_180, g_181, g_145_36, g_145_37, g_145_38, g_145_39, g_145_40, g_145_41, hw, hn, hnm', Bool.false_eq_true]
    by_cases hmy : mayR (rg M) p c m
    · rw [if_pos hmy, if_pos hmy]
      simp only [s_90_138, s_90_144, s_90_145, s_90_148, s_90_149, s_90_150, s_90_151, s_90_152, eq_self, Nat.reduceLT, Nat.reduceLeDiff, Nat.reduceMod, Nat.reduceDiv, Nat.reduceAdd, Nat.reduceMul, Option.toList_some, Option.toList_none, List.cons_append, List.nil_append, List.append_nil, n10, n00, if_true, if_false, b0, b1, nI_add, true_and, and_true, and_self, sh_145, k_145_0, k_145_1, k_145_2, k_145_3, k_145_4, k_145_5, k_145_6, k_145_7, k_145_8, k_145_9, k_145_10, k_145_11, k_145_12, k_145_13, k_145_14, k_145_15, k_145_16, k_145_17, k_145_18, k_145_19, k_145_20, k_145_21, k_145_22, k_145_23, k_145_24, k_145_25, k_145_26, k_145_27, k_145_28, k_145_29, k_145_30, k_145_31, k_145_32, k_145_33, k_145_34, k_145_35, sh_146, sh_147, sh_148, sh_149, sh_150, sh_151, sh_152, sh_153, sh_154, sh_155, sh_156, sh_157, sh_158, sh_159, sh_160, sh_161, sh_162, sh_163, sh_164, sh_165, sh_166, sh_167, sh_168, sh_169, sh_170, sh_171, sh_172, sh_173, sh_174, sh_175, sh_176, sh_177, sh_178, sh_179, sh_180, sh_181, g_146, g_147, g_148, g_149, g_150, g_151, g_152, g_153, g_154, g_155, g_156, g_157, g_158, g_159, g_160, g_161, g_162, g_163, g_164, g_165, g_166, g_167, g_168, g_169, g_170, g_171, g_172, g_173, g_174, g_175, g_176, g_177, g_178, g_179, g_180, g_181, g_145_36, g_145_37, g_145_38, g_145_39, g_145_40, g_145_41, hw, hn]
    · rw [if_neg hmy, if_neg hmy]
      simp only [s_90_138, s_90_141, s_90_143, eq_self, Nat.reduceLT, Nat.reduceLeDiff, Nat.reduceMod, Nat.reduceDiv, Nat.reduceAdd, Nat.reduceMul, Option.toList_some, Option.toList_none, List.cons_append, List.nil_append, List.append_nil, n10, n00, if_true, if_false, b0, b1, nI_add, true_and, and_true, and_self]
end
