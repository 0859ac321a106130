section
variable {d : Nat} {M : mH} {Q : Option Value → mH → Prop}
/-! rights -/
theorem c_has (hw : wf M) {p : Nat} (hp : p < 16) {x : Int32} : Vc d 80 [rf (some 145), .int (nI p), .int x] M Q = if rg M 31 (4 * p) &&& x = 0 then Q (some (.int (nI 0))) M else Q (some (.int (nI 1))) M := by
  show V d 80 0 [some (rf (some 145)), some (.int (nI p)), some (.int x)] [] M Q = _
  have hi : 4 * p < 64 := by omega
  simp only [s_80_0, s_80_1, s_80_4, s_80_5, s_80_6, s_80_7, s_80_8, s_80_9, s_80_10, s_80_13, s_80_14, s_80_17, s_80_18, eq_self, Nat.reduceLT, Nat.reduceLeDiff, Nat.reduceMod, Nat.reduceDiv, Nat.reduceAdd, Nat.reduceMul, Option.toList_some, Option.toList_none, List.cons_append, List.nil_append, List.append_nil, n10, n00, if_true, if_false, b0, b1, nI_add, true_and, and_true, and_self, sh_145, k_145_0, k_145_1, k_145_2, k_145_3, k_145_4, k_145_5, k_145_6, k_145_7, k_145_8, k_145_9, k_145_10, k_145_11, k_145_12, k_145_13, k_145_14, k_145_15, k_145_16, k_145_17, k_145_18, k_145_19, k_145_20, k_145_21, k_145_22, k_145_23, k_145_24, k_145_25, k_145_26, k_145_27, k_145_28, k_145_29, k_145_30, k_145_31, k_145_32, k_145_33, k_145_34, k_145_35, sh_146, sh_147, sh_148, sh_149, sh_150, sh_151, sh_152, sh_153, sh_154, sh_155, sh_156, sh_157, sh_158, sh_159, sh_160, sh_161, sh_162, sh_163, sh_164, sh_165, sh_166, sh_167, sh_168, sh_169, sh_170, sh_171, sh_172, sh_173, sh_174, sh_175, sh_176, sh_177, sh_178, sh_179, sh_180, sh_181, g_146, g_147, g_148, g_149, g_150, g_151, g_152, g_153, g_154, g_155, g_156, g_157, g_158, g_159, g_160, g_161, g_162, g_163, g_164, g_165, g_166, g_167, g_168, g_169, g_170, g_171, g_172, g_173, g_174, g_175, g_176, g_177, g_178, g_179, g_180, g_181, g_145_36, g_145_37, g_145_38, g_145_39, g_145_40, g_145_41, hw, pk_mul, hi]
theorem c_host (hw : wf M) {p c : Nat} (hp : p < 16) (hc : c < 4) (hpc : rg M 25 p = nI c) : Vc d 81 [rf (some 145), .int (nI p)] M Q = Q (some (.int (rg M 9 c + rg M 27 p))) M := by
  show V d 81 0 [some (rf (some 145)), some (.int (nI p))] [] M Q = _
  simp only [s_81_0, s_81_1, s_81_4, s_81_5, s_81_8, s_81_9, s_81_10, s_81_11, s_81_12, s_81_15, s_81_16, s_81_17, s_81_18, eq_self, Nat.reduceLT, Nat.reduceLeDiff, Nat.reduceMod, Nat.reduceDiv, Nat.reduceAdd, Nat.reduceMul, Option.toList_some, Option.toList_none, List.cons_append, List.nil_append, List.append_nil, n10, n00, if_true, if_false, b0, b1, nI_add, true_and, and_true, and_self, sh_145, k_145_0, k_145_1, k_145_2, k_145_3, k_145_4, k_145_5, k_145_6, k_145_7, k_145_8, k_145_9, k_145_10, k_145_11, k_145_12, k_145_13, k_145_14, k_145_15, k_145_16, k_145_17, k_145_18, k_145_19, k_145_20, k_145_21, k_145_22, k_145_23, k_145_24, k_145_25, k_145_26, k_145_27, k_145_28, k_145_29, k_145_30, k_145_31, k_145_32, k_145_33, k_145_34, k_145_35, sh_146, sh_147, sh_148, sh_149, sh_150, sh_151, sh_152, sh_153, sh_154, sh_155, sh_156, sh_157, sh_158, sh_159, sh_160, sh_161, sh_162, sh_163, sh_164, sh_165, sh_166, sh_167, sh_168, sh_169, sh_170, sh_171, sh_172, sh_173, sh_174, sh_175, sh_176, sh_177, sh_178, sh_179, sh_180, sh_181, g_146, g_147, g_148, g_149, g_150, g_151, g_152, g_153, g_154, g_155, g_156, g_157, g_158, g_159, g_160, g_161, g_162, g_163, g_164, g_165, g_166, g_167, g_168, g_169, g_170, g_171, g_172, g_173, g_174, g_175, g_176, g_177, g_178, g_179, g_180, g_181, g_145_36, g_145_37, g_145_38, g_145_39, g_145_40, g_145_41, hw, hp, hc, hpc]
/-- the host user x has a number in cage c -/
abbrev usrOf (r : RS) (c : Nat) (x : Int32) : Prop := ¬ x < r 9 c ∧ ¬ r 9 c + r 10 c ≤ x
theorem c_isUserOf (hw : wf M) {c : Nat} (hc : c < 4) {x : Int32} : Vc d 82 [rf (some 145), .int (nI c), .int x] M Q = if usrOf (rg M) c x then Q (some (.int (nI 1))) M else Q (some (.int (nI 0))) M := by
  show V d 82 0 [some (rf (some 145)), some (.int (nI c)), some (.int x)] [] M Q = _
  simp only [s_82_0, s_82_1, s_82_2, s_82_5, s_82_6, s_82_7, s_82_10, s_82_11, s_82_12, s_82_15, s_82_16, s_82_17, s_82_18, s_82_21, s_82_22, s_82_23, s_82_24, s_82_27, s_82_28, s_82_31, s_82_32, eq_self, Nat.reduceLT, Nat.reduceLeDiff, Nat.reduceMod, Nat.reduceDiv, Nat.reduceAdd, Nat.reduceMul, Option.toList_some, Option.toList_none, List.cons_append, List.nil_append, List.append_nil, n10, n00, if_true, if_false, b0, b1, nI_add, true_and, and_true, and_self, sh_145, k_145_0, k_145_1, k_145_2, k_145_3, k_145_4, k_145_5, k_145_6, k_145_7, k_145_8, k_145_9, k_145_10, k_145_11, k_145_12, k_145_13, k_145_14, k_145_15, k_145_16, k_145_17, k_145_18, k_145_19, k_145_20, k_145_21, k_145_22, k_145_23, k_145_24, k_145_25, k_145_26, k_145_27, k_145_28, k_145_29, k_145_30, k_145_31, k_145_32, k_145_33, k_145_34, k_145_35, sh_146, sh_147, sh_148, sh_149, sh_150, sh_151, sh_152, sh_153, sh_154, sh_155, sh_156, sh_157, sh_158, sh_159, sh_160, sh_161, sh_162, sh_163, sh_164, sh_165, sh_166, sh_167, sh_168, sh_169, sh_170, sh_171, sh_172, sh_173, sh_174, sh_175, sh_176, sh_177, sh_178, sh_179, sh_180, sh_181, g_146, g_147, g_148, g_149, g_150, g_151, g_152, g_153, g_154, g_155, g_156, g_157, g_158, g_159, g_160, g_161, g_162, g_163, g_164, g_165, g_166, g_167, g_168, g_169, g_170, g_171, g_172, g_173, g_174, g_175, g_176, g_177, g_178, g_179, g_180, g_181, g_145_36, g_145_37, g_145_38, g_145_39, g_145_40, g_145_41, hw, hc, usrOf]
  by_cases h1 : x < rg M 9 c
  · simp only [h1, eq_self, Nat.reduceLT, Nat.reduceLeDiff, Nat.reduceMod, Nat.reduceDiv, Nat.reduceAdd, Nat.reduceMul, Option.toList_some, Option.toList_none, List.cons_append, List.nil_append, List.append_nil, n10, n00, if_true, if_false, b0, b1, nI_add, true_and, and_true, and_self, not_true, false_and]
  · by_cases h2 : rg M 9 c + rg M 10 c ≤ x
    · simp only [h1, h2, eq_self, Nat.reduceLT, Nat.reduceLeDiff, Nat.reduceMod, Nat.reduceDiv, Nat.reduceAdd, Nat.reduceMul, Option.toList_some, Option.toList_none, List.cons_append, List.nil_append, List.append_nil, n10, n00, if_true, if_false, b0, b1, nI_add, true_and, and_true, and_self, not_true, and_false]
    · simp only [h1, h2, eq_self, Nat.reduceLT, Nat.reduceLeDiff, Nat.reduceMod, Nat.reduceDiv, Nat.reduceAdd, Nat.reduceMul, Option.toList_some, Option.toList_none, List.cons_append, List.nil_append, List.append_nil, n10, n00, if_true, if_false, b0, b1, nI_add, true_and, and_true, and_self, not_false_eq_true]
/-- PROCESS p of cage c MAY change NODE n -/
abbrev mayR (r : RS) (p c n : Nat) : Prop := r 5 n = r 9 c + r 27 p ∨ (¬ r 31 (4 * p) &&& nI 1 = 0 ∧ usrOf r c (r 5 n))
theorem c_may (hw : wf M) {p c n : Nat} (hp : p < 16) (hc : c < 4) (hn : n < 32) (hpc : rg M 25 p = nI c) : Vc (d + 1) 83 [rf (some 145), .int (nI p), .int (nI n)] M Q = if mayR (rg M) p c n then Q (some (.int (nI 1))) M else Q (some (.int (nI 0))) M := by
  show V (d + 1) 83 0 [some (rf (some 145)), some (.int (nI p)), some (.int (nI n))] [] M Q = _
  simp only [s_83_0, s_83_1, s_83_4, s_83_5, s_83_6, s_83_7, s_83_8, s_83_11, s_83_14, s_83_15, s_83_16, s_83_17, s_83_20, s_83_23, s_83_24, s_83_25, s_83_28, s_83_29, s_83_30, s_83_31, s_83_34, s_83_35, s_83_36, s_83_39, s_83_42, s_83_43, s_83_46, s_83_47, eq_self, Nat.reduceLT, Nat.reduceLeDiff, Nat.reduceMod, Nat.reduceDiv, Nat.reduceAdd, Nat.reduceMul, Option.toList_some, Option.toList_none, List.cons_append, List.nil_append, List.append_nil, n10, n00, if_true, if_false, b0, b1, nI_add, true_and, and_true, and_self, sh_145, k_145_0, k_145_1, k_145_2, k_145_3, k_145_4, k_145_5, k_145_6, k_145_7, k_145_8, k_145_9, k_145_10, k_145_11, k_145_12, k_145_13, k_145_14, k_145_15, k_145_16, k_145_17, k_145_18, k_145_19, k_145_20, k_145_21, k_145_22, k_145_23, k_145_24, k_145_25, k_145_26, k_145_27, k_145_28, k_145_29, k_145_30, k_145_31, k_145_32, k_145_33, k_145_34, k_145_35, sh_146, sh_147, sh_148, sh_149, sh_150, sh_151, sh_152, sh_153, sh_154, sh_155, sh_156, sh_157, sh_158, sh_159, sh_160, sh_161, sh_162, sh_163, sh_164, sh_165, sh_166, sh_167, sh_168, sh_169, sh_170, sh_171, sh_172, sh_173, sh_174, sh_175, sh_176, sh_177, sh_178, sh_179, sh_180, sh_181, g_146, g_147, g_148, g_149, g_150, g_151, g_152, g_153, g_154, g_155, g_156, g_157, g_158, g_159, g_160, g_161, g_162, g_163, g_164, g_165, g_166, g_167, g_168, g_169, g_170, g_171, g_172, g_173, g_174, g_175, g_176, g_177, g_178, g_179, g_180, g_181, g_145_36, g_145_37, g_145_38, g_145_39, g_145_40, g_145_41, hw, hp, hn, hpc, c_host hw hp hc hpc, c_has hw hp, c_isUserOf hw hc, mayR]
  by_cases h1 : rg M 5 n = rg M 9 c + rg M 27 p
  · simp only [h1, eq_self, Nat.reduceLT, Nat.reduceLeDiff, Nat.reduceMod, Nat.reduceDiv, Nat.reduceAdd, Nat.reduceMul, Option.toList_some, Option.toList_none, List.cons_append, List.nil_append, List.append_nil, n10, n00, if_true, if_false, b0, b1, nI_add, true_and, and_true, and_self, true_or]
  · by_cases h2 : rg M 31 (4 * p) &&& nI 1 = 0
    · simp only [h1, h2, eq_self, Nat.reduceLT, Nat.reduceLeDiff, Nat.reduceMod, Nat.reduceDiv, Nat.reduceAdd, Nat.reduceMul, Option.toList_some, Option.toList_none, List.cons_append, List.nil_append, List.append_nil, n10, n00, if_true, if_false, b0, b1, nI_add, true_and, and_true, and_self, not_true, false_and, or_false]
    · by_cases h3 : usrOf (rg M) c (rg M 5 n)
      · simp only [h1, h2, eq_self, Nat.reduceLT, Nat.reduceLeDiff, Nat.reduceMod, Nat.reduceDiv, Nat.reduceAdd, Nat.reduceMul, Option.toList_some, Option.toList_none, List.cons_append, List.nil_append, List.append_nil, n10, n00, if_true, if_false, b0, b1, nI_add, true_and, and_true, and_self, not_false_eq_true, false_or]
      · simp only [h1, h2, eq_self, Nat.reduceLT, Nat.reduceLeDiff, Nat.reduceMod, Nat.reduceDiv, Nat.reduceAdd, Nat.reduceMul, Option.toList_some, Option.toList_none, List.cons_append, List.nil_append, List.append_nil, n10, n00, if_true, if_false, b0, b1, nI_add, true_and, and_true, and_self, not_false_eq_true, false_or]
/-! MOUNTS -/
/-- a later MOUNT than the best one so far -/
def mBet (r : RS) (best : Option Nat) (k : Nat) : Bool := match best with
  | none => true
  | some b => !decide (r 22 k ≤ r 22 b)
def mStep (r : RS) (best : Option Nat) (k : Nat) : Option Nat := bif decide (¬ r 18 k = 0 ∧ r 23 k = 0 ∧ r 19 k = r 0 40) && mBet r best k then some k else best
theorem c_mountAt_s (hw : wf M) {c k : Nat} (hc : c < 4) (hk : k < 4 * c + 4) {best : Option Nat} (hb : ∀ b, best = some b → b < 16) : V d 76 6 [some (rf (some 145)), some (.int (nI c)), some (.int (oI best)), some (.int (nI k))] [] M Q = V d 76 6 [some (rf (some 145)), some (.int (nI c)), some (.int (oI (mStep (rg M) best k))), some (.int (nI (k + 1)))] [] M Q := by
  have hk16 : k < 16 := by omega
  conv => lhs; rw [s_76_6]
  simp only [s_76_0, s_76_1, s_76_2, s_76_3, s_76_4, s_76_5, s_76_7, s_76_8, s_76_9, s_76_10, s_76_11, s_76_12, s_76_15, s_76_16, s_76_19, s_76_20, s_76_21, s_76_24, s_76_25, s_76_28, s_76_29, s_76_30, s_76_33, s_76_34, s_76_37, s_76_38, s_76_39, s_76_40, s_76_43, s_76_46, s_76_47, s_76_50, s_76_51, s_76_54, s_76_55, s_76_56, s_76_57, s_76_60, s_76_61, s_76_62, s_76_65, s_76_66, s_76_67, s_76_70, s_76_73, s_76_74, eq_self, Nat.reduceLT, Nat.reduceLeDiff, Nat.reduceMod, Nat.reduceDiv, Nat.reduceAdd, Nat.reduceMul, Option.toList_some, Option.toList_none, List.cons_append, List.nil_append, List.append_nil, n10, n00, if_true, if_false, b0, b1, nI_add, true_and, and_true, and_self, sh_145, k_145_0, k_145_1, k_145_2, k_145_3, k_145_4, k_145_5, k_145_6, k_145_7, k_145_8, k_145_9, k_145_10, k_145_11, k_145_12, k_145_13, k_145_14, k_145_15, k_145_16, k_145_17, k_145_18, k_145_19, k_145_20, k_145_21, k_145_22, k_145_23, k_145_24, k_145_25, k_145_26, k_145_27, k_145_28, k_145_29, k_145_30, k_145_31, k_145_32, k_145_33, k_145_34, k_145_35, sh_146, sh_147, sh_148, sh_149, sh_150, sh_151, sh_152, sh_153, sh_154, sh_155, sh_156, sh_157, sh_158, sh_159, sh_160, sh_161, sh_162, sh_163, sh_164, sh_165, sh_166, sh_167, sh_168, sh_169, sh_170, sh_171, sh_172, sh_173, sh_174, sh_175, sh_176, sh_177, sh_178, sh_179, sh_180, sh_181, g_146, g_147, g_148, g_149, g_150, g_151, g_152, g_153, g_154, g_155, g_156, g_157, g_158, g_159, g_160, g_161, g_162, g_163, g_164, g_165, g_166, g_167, g_168, g_169, g_170, g_171, g_172, g_173, g_174, g_175, g_176, g_177, g_178, g_179, g_180, g_181, g_145_36, g_145_37, g_145_38, g_145_39, g_145_40, g_145_41, hw, pk_mul, hk16, nI_ge hk (by omega), mStep]
  by_cases h1 : rg M 18 k = 0
  · simp only [h1, eq_self, Nat.reduceLT, Nat.reduceLeDiff, Nat.reduceMod, Nat.reduceDiv, Nat.reduceAdd, Nat.reduceMul, Option.toList_some, Option.toList_none, List.cons_append, List.nil_append, List.append_nil, n10, n00, if_true, if_false, b0, b1, nI_add, true_and, and_true, and_self, not_true, false_and, decide_false, Bool.false_and, cond_false]
  · by_cases h2 : rg M 23 k = 0
    · by_cases h3 : rg M 19 k = rg M 0 40
      · cases best with
        | none => simp only [h1, h2, h3, oI, m1lt, eq_self, Nat.reduceLT, Nat.reduceLeDiff, Nat.reduceMod, Nat.reduceDiv, Nat.reduceAdd, Nat.reduceMul, Option.toList_some, Option.toList_none, List.cons_append, List.nil_append, List.append_nil, n10, n00, if_true, if_false, b0, b1, nI_add, true_and, and_true, and_self, not_false_eq_true, decide_true, mBet, Bool.and_self, cond_true]
        | some b =>
          have hb16 := hb b rfl
          by_cases h5 : rg M 22 k ≤ rg M 22 b
          · simp only [s_76_0, s_76_1, s_76_2, s_76_3, s_76_4, s_76_5, s_76_7, s_76_8, s_76_9, s_76_10, s_76_11, s_76_12, s_76_15, s_76_16, s_76_19, s_76_20, s_76_21, s_76_24, s_76_25, s_76_28, s_76_29, s_76_30, s_76_33, s_76_34, s_76_37, s_76_38, s_76_39, s_76_40, s_76_43, s_76_46, s_76_47, s_76_50, s_76_51, s_76_54, s_76_55, s_76_56, s_76_57, s_76_60, s_76_61, s_76_62, s_76_65, s_76_66, s_76_67, s_76_70, s_76_73, s_76_74, sh_145, k_145_0, k_145_1, k_145_2, k_145_3, k_145_4, k_145_5, k_145_6, k_145_7, k_145_8, k_145_9, k_145_10, k_145_11, k_145_12, k_145_13, k_145_14, k_145_15, k_145_16, k_145_17, k_145_18, k_145_19, k_145_20, k_145_21, k_145_22, k_145_23, k_145_24, k_145_25, k_145_26, k_145_27, k_145_28, k_145_29, k_145_30, k_145_31, k_145_32, k_145_33, k_145_34, k_145_35, sh_146, sh_147, sh_148, sh_149, sh_150, sh_151, sh_152, sh_153, sh_154, sh_155, sh_156, sh_157, sh_158, sh_159, sh_160, sh_161, sh_162, sh_163, sh_164, sh_165, sh_166, sh_167, sh_168, sh_169, sh_170, sh_171, sh_172, sh_173, sh_174, sh_175, sh_176, sh_177, sh_178, sh_179, sh_180, sh_181, g_146, g_147, g_148, g_149, g_150, g_151, g_152, g_153, g_154, g_155, g_156, g_157, g_158, g_159, g_160, g_161, g_162, g_163, g_164, g_165, g_166, g_167, g_168, g_169, g_170, g_171, g_172, g_173, g_174, g_175, g_176, g_177, g_178, g_179, g_180, g_181, g_145_36, g_145_37, g_145_38, g_145_39, g_145_40, g_145_41, hw, h1, h2, h3, h5, oI, nIlt (show b < 2 ^ 31 by omega), hb16, eq_self, Nat.reduceLT, Nat.reduceLeDiff, Nat.reduceMod, Nat.reduceDiv, Nat.reduceAdd, Nat.reduceMul, Option.toList_some, Option.toList_none, List.cons_append, List.nil_append, List.append_nil, n10, n00, if_true, if_false, b0, b1, nI_add, true_and, and_true, and_self, not_false_eq_true, decide_true, mBet, Bool.not_true, Bool.and_false, cond_false]
          · simp only [s_76_0, s_76_1, s_76_2, s_76_3, s_76_4, s_76_5, s_76_7, s_76_8, s_76_9, s_76_10, s_76_11, s_76_12, s_76_15, s_76_16, s_76_19, s_76_20, s_76_21, s_76_24, s_76_25, s_76_28, s_76_29, s_76_30, s_76_33, s_76_34, s_76_37, s_76_38, s_76_39, s_76_40, s_76_43, s_76_46, s_76_47, s_76_50, s_76_51, s_76_54, s_76_55, s_76_56, s_76_57, s_76_60, s_76_61, s_76_62, s_76_65, s_76_66, s_76_67, s_76_70, s_76_73, s_76_74, sh_145, k_145_0, k_145_1, k_145_2, k_145_3, k_145_4, k_145_5, k_145_6, k_145_7, k_145_8, k_145_9, k_145_10, k_145_11, k_145_12, k_145_13, k_145_14, k_145_15, k_145_16, k_145_17, k_145_18, k_145_19, k_145_20, k_145_21, k_145_22, k_145_23, k_145_24, k_145_25, k_145_26, k_145_27, k_145_28, k_145_29, k_145_30, k_145_31, k_145_32, k_145_33, k_145_34, k_145_35, sh_146, sh_147, sh_148, sh_149, sh_150, sh_151, sh_152, sh_153, sh_154, sh_155, sh_156, sh_157, sh_158, sh_159, sh_160, sh_161, sh_162, sh_163, sh_164, sh_165, sh_166, sh_167, sh_168, sh_169, sh_170, sh_171, sh_172, sh_173, sh_174, sh_175, sh_176, sh_177, sh_178, sh_179, sh_180, sh_181, g_146, g_147, g_148, g_149, g_150, g_151, g_152, g_153, g_154, g_155, g_156, g_157, g_158, g_159, g_160, g_161, g_162, g_163, g_164, g_165, g_166, g_167, g_168, g_169, g_170, g_171, g_172, g_173, g_174, g_175, g_176, g_177, g_178, g_179, g_180, g_181, g_145_36, g_145_37, g_145_38, g_145_39, g_145_40, g_145_41, hw, h1, h2, h3, h5, oI, nIlt (show b < 2 ^ 31 by omega), hb16, eq_self, Nat.reduceLT, Nat.reduceLeDiff, Nat.reduceMod, Nat.reduceDiv, Nat.reduceAdd, Nat.reduceMul, Option.toList_some, Option.toList_none, List.cons_append, List.nil_append, List.append_nil, n10, n00, if_true, if_false, b0, b1, nI_add, true_and, and_true, and_self, not_false_eq_true, decide_true, decide_false, mBet, Bool.not_false, Bool.and_self, cond_true]
      · simp only [h1, h2, h3, eq_self, Nat.reduceLT, Nat.reduceLeDiff, Nat.reduceMod, Nat.reduceDiv, Nat.reduceAdd, Nat.reduceMul, Option.toList_some, Option.toList_none, List.cons_append, List.nil_append, List.append_nil, n10, n00, if_true, if_false, b0, b1, nI_add, true_and, and_true, and_self, false_and, and_false, decide_false, Bool.false_and, cond_false]
    · simp only [h1, h2, eq_self, Nat.reduceLT, Nat.reduceLeDiff, Nat.reduceMod, Nat.reduceDiv, Nat.reduceAdd, Nat.reduceMul, Option.toList_some, Option.toList_none, List.cons_append, List.nil_append, List.append_nil, n10, n00, if_true, if_false, b0, b1, nI_add, true_and, and_true, and_self, false_and, and_false, decide_false, Bool.false_and, cond_false]
theorem mStep_lt {r : RS} {best : Option Nat} {k : Nat} (hk : k < 16) (hb : ∀ b, best = some b → b < 16) : ∀ b, mStep r best k = some b → b < 16 := by
  intro b h
  unfold mStep at h
  cases hc : (decide (¬ r 18 k = 0 ∧ r 23 k = 0 ∧ r 19 k = r 0 40) && mBet r best k) with
  | true => rw [hc, cond_true] at h; cases h; exact hk
  | false => rw [hc, cond_false] at h; exact hb b h
/-- the latest MOUNT of cage c at 'at', of those not crossed yet -/
def mtAt (r : RS) (c : Nat) : Option Nat := mStep r (mStep r (mStep r (mStep r none (4 * c)) (4 * c + 1)) (4 * c + 2)) (4 * c + 3)
theorem mtAt_lt {r : RS} {c : Nat} (hc : c < 4) : ∀ b, mtAt r c = some b → b < 16 :=
  mStep_lt (by omega) (mStep_lt (by omega) (mStep_lt (by omega) (mStep_lt (by omega) (fun b z => by cases z))))
theorem c_mountAt (hw : wf M) {c : Nat} (hc : c < 4) : Vc d 76 [rf (some 145), .int (nI c)] M Q = Q (some (.int (oI (mtAt (rg M) c)))) M := by
  show V d 76 0 [some (rf (some 145)), some (.int (nI c)), none, none] [] M Q = _
  have e0 : ∀ b, (none : Option Nat) = some b → b < 16 := fun b z => by cases z
  have e1 := mStep_lt (r := rg M) (k := 4 * c) (by omega) e0
  have e2 := mStep_lt (r := rg M) (k := 4 * c + 1) (by omega) e1
  have e3 := mStep_lt (r := rg M) (k := 4 * c + 2) (by omega) e2
  simp only [s_76_0, s_76_1, s_76_2, s_76_3, s_76_4, s_76_5, pk_mul]
  rw [show (-1 : Int32) = oI none from rfl, c_mountAt_s hw hc (by omega) e0, c_mountAt_s hw hc (by omega) e1, c_mountAt_s hw hc (by omega) e2, c_mountAt_s hw hc (by omega) e3, s_76_6]
  simp only [s_76_0, s_76_1, s_76_2, s_76_3, s_76_4, s_76_5, s_76_7, s_76_8, s_76_9, s_76_10, s_76_11, s_76_12, s_76_15, s_76_16, s_76_19, s_76_20, s_76_21, s_76_24, s_76_25, s_76_28, s_76_29, s_76_30, s_76_33, s_76_34, s_76_37, s_76_38, s_76_39, s_76_40, s_76_43, s_76_46, s_76_47, s_76_50, s_76_51, s_76_54, s_76_55, s_76_56, s_76_57, s_76_60, s_76_61, s_76_62, s_76_65, s_76_66, s_76_67, s_76_70, s_76_73, s_76_74, eq_self, Nat.reduceLT, Nat.reduceLeDiff, Nat.reduceMod, Nat.reduceDiv, Nat.reduceAdd, Nat.reduceMul, Option.toList_some, Option.toList_none, List.cons_append, List.nil_append, List.append_nil, n10, n00, if_true, if_false, b0, b1, nI_add, true_and, and_true, and_self, pk_mul, show nI (4 * c + 4) ≤ nI (4 * c + 3 + 1) from Int32.le_refl _, mtAt]
theorem mStep_in {r : RS} {best : Option Nat} {k b : Nat} (h : mStep r best k = some b) : (b = k ∧ ¬ r 18 k = 0 ∧ r 23 k = 0 ∧ r 19 k = r 0 40) ∨ best = some b := by
  unfold mStep at h
  cases hc : (decide (¬ r 18 k = 0 ∧ r 23 k = 0 ∧ r 19 k = r 0 40) && mBet r best k) with
  | true =>
    rw [hc, cond_true] at h
    cases h
    simp only [Bool.and_eq_true, decide_eq_true_eq] at hc
    exact Or.inl ⟨rfl, hc.1⟩
  | false => rw [hc, cond_false] at h; exact Or.inr h
theorem mtAt_in {r : RS} {c b : Nat} (h : mtAt r c = some b) : (∃ j, j < 4 ∧ b = 4 * c + j) ∧ ¬ r 18 b = 0 ∧ r 23 b = 0 ∧ r 19 b = r 0 40 := by
  rcases mStep_in h with ⟨rfl, h1⟩ | h
  · exact ⟨⟨3, by omega, rfl⟩, h1⟩
  rcases mStep_in h with ⟨rfl, h1⟩ | h
  · exact ⟨⟨2, by omega, rfl⟩, h1⟩
  rcases mStep_in h with ⟨rfl, h1⟩ | h
  · exact ⟨⟨1, by omega, rfl⟩, h1⟩
  rcases mStep_in h with ⟨rfl, h1⟩ | h
  · exact ⟨⟨0, by omega, rfl⟩, h1⟩
  cases h
/-- one crossing -/
def crs1 (r : RS) (m : Nat) : RS := ru (ru (ru r 23 m (nI 1)) 0 40 (r 21 m)) 0 41 (nI m)
def crsL (c : Nat) : Nat → RS → RS
  | 0, r => r
  | f + 1, r => match mtAt r c with
    | none => r
    | some m => crsL c f (crs1 r m)
/-- how many of the cage's four rows are not crossed -/
def unc (r : RS) (c : Nat) : Nat := cnt (fun j => decide (r 23 (4 * c + j) = 0)) 0 4
theorem unc_lt {r : RS} {c m : Nat} (h : mtAt r c = some m) : unc (crs1 r m) c < unc r c := by
  obtain ⟨⟨j, hj, rfl⟩, -, h2, -⟩ := mtAt_in h
  have hne : ¬ nI 1 = 0 := by decide
  rcases (show j = 0 ∨ j = 1 ∨ j = 2 ∨ j = 3 by omega) with rfl | rfl | rfl | rfl
  all_goals
    simp only [unc, cnt, crs1, ru, Nat.reduceEqDiff, false_and, if_false, Nat.add_zero, Nat.zero_add, Nat.reduceAdd, true_and, Nat.add_left_cancel_iff, Nat.add_eq_left, Nat.left_eq_add, if_true, h2, hne, decide_true, decide_false, cond_true, cond_false] at h2 ⊢
    try simp only [h2, decide_true, cond_true]
    omega
end
