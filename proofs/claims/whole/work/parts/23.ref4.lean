theorem ffind_in {p : Nat → Bool} : ∀ {k n m : Nat}, ffind p n k = some m → n ≤ m ∧ m < n + k ∧ p m = true := by
  intro k
  induction k with
  | zero => intro n m h; cases h
  | succ k ih =>
    intro n m h
    simp only [ffind] at h
    cases hp : p n with
    | true => rw [hp, cond_true] at h; cases h; exact ⟨Nat.le_refl _, by omega, hp⟩
    | false =>
      rw [hp, cond_false] at h
      obtain ⟨h1, h2, h3⟩ := ih h
      exact ⟨by omega, by omega, h3⟩
section
variable {d : Nat} {M : mH} {Q : Option Value → mH → Prop}
def pFree (r : RS) (n : Nat) : Bool := decide (r 1 n = 0)
/-- the reference's new NODE -/
def putM (M : mH) (n : Nat) (a nm kd ow mk : Int32) : mH := mu (mu (mu (mu (mu (mu (mu M 146 n (.int (nI 1))) 147 n (.int a)) 148 n (.int nm)) 149 n (.int kd)) 150 n (.int ow)) 152 n (.int mk)) 151 n (.int (nI 0))
theorem c_put_l (hw : wf M) {a nm kd ow mk : Int32} : ∀ k n, n + k = 32 → V d 57 3 [some (rf (some 145)), some (.int a), some (.int nm), some (.int kd), some (.int ow), some (.int mk), some (.int (nI n))] [] M Q = V d 57 26 [some (rf (some 145)), some (.int a), some (.int nm), some (.int kd), some (.int ow), some (.int mk), some (.int (nI ((ffind (pFree (rg M)) n k).getD 32)))] [] M Q := by
  intro k
  induction k with
  | zero =>
    intro n hn
    obtain rfl : n = 32 := by omega
    simp only [s_57_3, s_57_5, s_57_7, show nI 32 ≤ nI 32 from Int32.le_refl _, ffind, Option.getD_none, if_true]
  | succ k ih =>
    intro n hn
    have h32 : n < 32 := by omega
    rw [s_57_3]
    simp only [s_57_5, s_57_7, s_57_10, s_57_11, s_57_14, s_57_16, s_57_17, s_57_20, s_57_23, eq_self, Nat.reduceLT, Nat.reduceLeDiff, Nat.reduceMod, Nat.reduceDiv, Nat.reduceAdd, Nat.reduceMul, Option.toList_some, Option.toList_none, List.cons_append, List.nil_append, List.append_nil, n10, n00, if_true, if_false, b0, b1, nI_add, true_and, and_true, and_self, sh_145, k_145_0, k_145_1, k_145_2, k_145_3, k_145_4, k_145_5, k_145_6, k_145_7, k_145_8, k_145_9, k_145_10, k_145_11, k_145_12, k_145_13, k_145_14, k_145_15, k_145_16, k_145_17, k_145_18, k_145_19, k_145_20, k_145_21, k_145_22, k_145_23, k_145_24, k_145_25, k_145_26, k_145_27, k_145_28, k_145_29, k_145_30, k_145_31, k_145_32, k_145_33, k_145_34, k_145_35, sh_146, sh_147, sh_148, sh_149, sh_150, sh_151, sh_152, sh_153, sh_154, sh_155, sh_156, sh_157, sh_158, sh_159, sh_160, sh_161, sh_162, sh_163, sh_164, sh_165, sh_166, sh_167, sh_168, sh_169, sh_170, sh_171, sh_172, sh_173, sh_174, sh_175, sh_176, sh_177, sh_178, sh_179, sh_180, sh_181, g_146, g_147, g_148, g_149, g_150, g_151, g_152, g_153, g_154, g_155, g_156, g_157, g_158, g_159, g_160, g_161, g_162, g_163, g_164, g_165, g_166, g_167, g_168, g_169, g_170, g_171, g_172, g_173, g_174, g_175, g_176, g_177, g_178, g_179, g_180, g_181, g_145_36, g_145_37, g_145_38, g_145_39, g_145_40, g_145_41, hw, h32, nI_ge h32 (by decide), ih (n + 1) (by omega), ffind, pFree]
    by_cases h1 : rg M 1 n = 0
    · simp only [h1, eq_self, Nat.reduceLT, Nat.reduceLeDiff, Nat.reduceMod, Nat.reduceDiv, Nat.reduceAdd, Nat.reduceMul, Option.toList_some, Option.toList_none, List.cons_append, List.nil_append, List.append_nil, n10, n00, if_true, if_false, b0, b1, nI_add, true_and, and_true, and_self, decide_true, cond_true, Option.getD_some]
    · simp only [h1, eq_self, Nat.reduceLT, Nat.reduceLeDiff, Nat.reduceMod, Nat.reduceDiv, Nat.reduceAdd, Nat.reduceMul, Option.toList_some, Option.toList_none, List.cons_append, List.nil_append, List.append_nil, n10, n00, if_true, if_false, b0, b1, nI_add, true_and, and_true, and_self, decide_false, cond_false]
theorem c_put_w (hw : wf M) {a nm kd ow mk : Int32} {n : Nat} (hn : n < 32) : V d 57 54 [some (rf (some 145)), some (.int a), some (.int nm), some (.int kd), some (.int ow), some (.int mk), some (.int (nI n))] [] M Q = Q (some (.int (nI n))) (putM M n a nm kd ow mk) := by
  simp (maxDischargeDepth := 20) only [s_57_0, s_57_1, s_57_5, s_57_7, s_57_10, s_57_11, s_57_14, s_57_16, s_57_17, s_57_20, s_57_23, s_57_26, s_57_28, s_57_30, s_57_33, s_57_35, s_57_36, s_57_38, s_57_41, s_57_42, s_57_44, s_57_45, s_57_48, s_57_51, s_57_53, s_57_54, s_57_55, s_57_58, s_57_60, s_57_61, s_57_62, s_57_63, s_57_66, s_57_68, s_57_69, s_57_70, s_57_71, s_57_74, s_57_76, s_57_77, s_57_78, s_57_79, s_57_82, s_57_84, s_57_85, s_57_86, s_57_87, s_57_90, s_57_92, s_57_94, s_57_95, s_57_96, s_57_99, s_57_101, s_57_103, s_57_104, s_57_105, s_57_108, s_57_110, s_57_111, s_57_112, s_57_114, eq_self, Nat.reduceLT, Nat.reduceLeDiff, Nat.reduceMod, Nat.reduceDiv, Nat.reduceAdd, Nat.reduceMul, Option.toList_some, Option.toList_none, List.cons_append, List.nil_append, List.append_nil, n10, n00, if_true, if_false, b0, b1, nI_add, true_and, and_true, and_self, sh_145, k_145_0, k_145_1, k_145_2, k_145_3, k_145_4, k_145_5, k_145_6, k_145_7, k_145_8, k_145_9, k_145_10, k_145_11, k_145_12, k_145_13, k_145_14, k_145_15, k_145_16, k_145_17, k_145_18, k_145_19, k_145_20, k_145_21, k_145_22, k_145_23, k_145_24, k_145_25, k_145_26, k_145_27, k_145_28, k_145_29, k_145_30, k_145_31, k_145_32, k_145_33, k_145_34, k_145_35, sh_146, sh_147, sh_148, sh_149, sh_150, sh_151, sh_152, sh_153, sh_154, sh_155, sh_156, sh_157, sh_158, sh_159, sh_160, sh_161, sh_162, sh_163, sh_164, sh_165, sh_166, sh_167, sh_168, sh_169, sh_170, sh_171, sh_172, sh_173, sh_174, sh_175, sh_176, sh_177, sh_178, sh_179, sh_180, sh_181, g_146, g_147, g_148, g_149, g_150, g_151, g_152, g_153, g_154, g_155, g_156, g_157, g_158, g_159, g_160, g_161, g_162, g_163, g_164, g_165, g_166, g_167, g_168, g_169, g_170, g_171, g_172, g_173, g_174, g_175, g_176, g_177, g_178, g_179, g_180, g_181, g_145_36, g_145_37, g_145_38, g_145_39, g_145_40, g_145_41, hw, hn, wm_146, wm_147, wm_148, wm_149, wm_150, wm_151, wm_152, wm_153, wm_154, wm_155, wm_156, wm_157, wm_158, wm_159, wm_160, wm_161, wm_162, wm_163, wm_164, wm_165, wm_166, wm_167, wm_168, wm_169, wm_170, wm_171, wm_172, wm_173, wm_174, wm_175, wm_176, wm_177, wm_178, wm_179, wm_180, wm_181, wm_145_36, wm_145_37, wm_145_38, wm_145_39, wm_145_40, wm_145_41, putM]
theorem c_put_host (hw : wf M) {a nm kd ow : Int32} : Vc d 57 [rf (some 145), .int a, .int nm, .int kd, .int ow, .int (-1)] M Q = match ffind (pFree (rg M)) 1 31 with
    | none => Q (some (.int (-5))) M
    | some n => Q (some (.int (nI n))) (putM M n a nm kd ow (-1)) := by
  show V d 57 0 [some (rf (some 145)), some (.int a), some (.int nm), some (.int kd), some (.int ow), some (.int (-1)), none] [] M Q = _
  rw [s_57_0, s_57_1, c_put_l hw 31 1 rfl]
  cases h : ffind (pFree (rg M)) 1 31 with
  | none => simp only [Option.getD_none, s_57_26, s_57_28, s_57_30, s_57_33, s_57_35, eq_self, Nat.reduceLT, Nat.reduceLeDiff, Nat.reduceMod, Nat.reduceDiv, Nat.reduceAdd, Nat.reduceMul, Option.toList_some, Option.toList_none, List.cons_append, List.nil_append, List.append_nil, n10, n00, if_true, if_false, b0, b1, nI_add, true_and, and_true, and_self]
  | some n =>
    obtain ⟨h1, h2, -⟩ := ffind_in h
    have hne : (nI n = nI 32) = False := eq_false (fun z => by have := (nI_eq (by omega) (by decide)).mp z; omega)
    simp only [Option.getD_some, s_57_26, s_57_28, s_57_30, hne, eq_self, Nat.reduceLT, Nat.reduceLeDiff, Nat.reduceMod, Nat.reduceDiv, Nat.reduceAdd, Nat.reduceMul, Option.toList_some, Option.toList_none, List.cons_append, List.nil_append, List.append_nil, n10, n00, if_true, if_false, b0, b1, nI_add, true_and, and_true, and_self, s_57_36, s_57_38, m1lt, c_put_w hw (show n < 32 by omega)]
theorem c_put_cage (hw : wf M) {C : Nat} (hC : C ≤ 4) (ho : WRo (rg M) C) (hm : WRm (rg M) C) (hp : WRp (rg M) C) {c : Nat} (hc : c < C) {a nm kd ow : Int32} : Vc (d + 3) 57 [rf (some 145), .int a, .int nm, .int kd, .int ow, .int (nI c)] M Q = match ffind (pFree (rg M)) 1 31 with
    | none => Q (some (.int (-5))) M
    | some n => if ovr (rg M) false 4 (some c) = true then Q (some (.int (-6))) M else Q (some (.int (nI n))) (putM M n a nm kd ow (nI c)) := by
  show V (d + 3) 57 0 [some (rf (some 145)), some (.int a), some (.int nm), some (.int kd), some (.int ow), some (.int (nI c)), none] [] M Q = _
  rw [s_57_0, s_57_1, c_put_l hw 31 1 rfl]
  have ho' := fun (Q : Option Value → mH → Prop) => c_isOver (d := d) (M := M) (Q := Q) hw hC ho hm hp (b := false) hc
  simp only [cond_false] at ho'
  cases h : ffind (pFree (rg M)) 1 31 with
  | none => simp only [Option.getD_none, s_57_26, s_57_28, s_57_30, s_57_33, s_57_35, eq_self, Nat.reduceLT, Nat.reduceLeDiff, Nat.reduceMod, Nat.reduceDiv, Nat.reduceAdd, Nat.reduceMul, Option.toList_some, Option.toList_none, List.cons_append, List.nil_append, List.append_nil, n10, n00, if_true, if_false, b0, b1, nI_add, true_and, and_true, and_self]
  | some n =>
    obtain ⟨h1, h2, -⟩ := ffind_in h
    have hne : (nI n = nI 32) = False := eq_false (fun z => by have := (nI_eq (by omega) (by decide)).mp z; omega)
    simp only [Option.getD_some, s_57_26, s_57_28, s_57_30, hne, eq_self, Nat.reduceLT, Nat.reduceLeDiff, Nat.reduceMod, Nat.reduceDiv, Nat.reduceAdd, Nat.reduceMul, Option.toList_some, Option.toList_none, List.cons_append, List.nil_append, List.append_nil, n10, n00, if_true, if_false, b0, b1, nI_add, true_and, and_true, and_self, s_57_36, s_57_38, nIlt (show c < 2 ^ 31 by omega), s_57_41, s_57_42, s_57_44, s_57_45 hw sh_145, ho', s_57_48, s_57_51, s_57_53, c_put_w hw (show n < 32 by omega)]
theorem c_rnode (hw : wf M) {a nm kd ow : Int32} : Vc (d + 3) 58 [rf (some 145), .int a, .int nm, .int kd, .int ow] M Q = if isDir (rg M) a ∧ (nI 1 ≤ nm ∧ nm ≤ nI 14) ∧ (nI 0 ≤ kd ∧ kd ≤ nI 1) ∧ (nI 0 ≤ ow ∧ ow ≤ nI 255) then (match ffind (pFind (rg M) a nm) 1 31 with
      | some _ => Q (some (.int (-8))) M
      | none => match ffind (pFree (rg M)) 1 31 with
        | none => Q (some (.int (-5))) M
        | some n => Q (some (.int (nI n))) (putM M n a nm kd ow (-1))) else Q (some (.int (-1))) M := by
  show V (d + 3) 58 0 [some (rf (some 145)), some (.int a), some (.int nm), some (.int kd), some (.int ow)] [] M Q = _
  simp only [s_58_0, s_58_1, s_58_2, s_58_5, s_58_8, s_58_9, s_58_10, s_58_12, s_58_15, s_58_18, s_58_19, s_58_20, s_58_21, s_58_24, s_58_27, s_58_29, s_58_30, s_58_33, s_58_36, s_58_39, s_58_40, s_58_41, s_58_42, s_58_43, s_58_44, s_58_47, s_58_50, s_58_52, s_58_55, s_58_56, s_58_57, s_58_58, s_58_59, s_58_61, s_58_62, s_58_65, eq_self, Nat.reduceLT, Nat.reduceLeDiff, Nat.reduceMod, Nat.reduceDiv, Nat.reduceAdd, Nat.reduceMul, Option.toList_some, Option.toList_none, List.cons_append, List.nil_append, List.append_nil, n10, n00, if_true, if_false, b0, b1, nI_add, true_and, and_true, and_self, sh_145, k_145_0, k_145_1, k_145_2, k_145_3, k_145_4, k_145_5, k_145_6, k_145_7, k_145_8, k_145_9, k_145_10, k_145_11, k_145_12, k_145_13, k_145_14, k_145_15, k_145_16, k_145_17, k_145_18, k_145_19, k_145_20, k_145_21, k_145_22, k_145_23, k_145_24, k_145_25, k_145_26, k_145_27, k_145_28, k_145_29, k_145_30, k_145_31, k_145_32, k_145_33, k_145_34, k_145_35, sh_146, sh_147, sh_148, sh_149, sh_150, sh_151, sh_152, sh_153, sh_154, sh_155, sh_156, sh_157, sh_158, sh_159, sh_160, sh_161, sh_162, sh_163, sh_164, sh_165, sh_166, sh_167, sh_168, sh_169, sh_170, sh_171, sh_172, sh_173, sh_174, sh_175, sh_176, sh_177, sh_178, sh_179, sh_180, sh_181, g_146, g_147, g_148, g_149, g_150, g_151, g_152, g_153, g_154, g_155, g_156, g_157, g_158, g_159, g_160, g_161, g_162, g_163, g_164, g_165, g_166, g_167, g_168, g_169, g_170, g_171, g_172, g_173, g_174, g_175, g_176, g_177, g_178, g_179, g_180, g_181, g_145_36, g_145_37, g_145_38, g_145_39, g_145_40, g_145_41, hw, c_isDirectory hw, c_is, c_find hw, c_put_host hw, isDir]
  by_cases h1 : ((nI 0 ≤ a ∧ a ≤ nI 31) ∧ ¬rg M 1 a.toNatClampNeg = 0) ∧ rg M 4 a.toNatClampNeg = 0
  · by_cases h2 : nI 1 ≤ nm ∧ nm ≤ nI 14
    · by_cases h3 : nI 0 ≤ kd ∧ kd ≤ nI 1
      · by_cases h4 : nI 0 ≤ ow ∧ ow ≤ nI 255
        · simp only [h1, h2, h3, h4, eq_self, Nat.reduceLT, Nat.reduceLeDiff, Nat.reduceMod, Nat.reduceDiv, Nat.reduceAdd, Nat.reduceMul, Option.toList_some, Option.toList_none, List.cons_append, List.nil_append, List.append_nil, n10, n00, if_true, if_false, b0, b1, nI_add, true_and, and_true, and_self, not_false_eq_true]
          cases h : ffind (pFind (rg M) a nm) 1 31 with
          | none => simp only [oI, m1lt, eq_self, Nat.reduceLT, Nat.reduceLeDiff, Nat.reduceMod, Nat.reduceDiv, Nat.reduceAdd, Nat.reduceMul, Option.toList_some, Option.toList_none, List.cons_append, List.nil_append, List.append_nil, n10, n00, if_true, if_false, b0, b1, nI_add, true_and, and_true, and_self, s_58_0, s_58_1, s_58_2, s_58_5, s_58_8, s_58_9, s_58_10, s_58_12, s_58_15, s_58_18, s_58_19, s_58_20, s_58_21, s_58_24, s_58_27, s_58_29, s_58_30, s_58_33, s_58_36, s_58_39, s_58_40, s_58_41, s_58_42, s_58_43, s_58_44, s_58_47, s_58_50, s_58_52, s_58_55, s_58_56, s_58_57, s_58_58, s_58_59, s_58_61, s_58_62, s_58_65]
          | some n =>
            obtain ⟨g1, g2, -⟩ := ffind_in h
            simp only [oI, nIlt (show n < 2 ^ 31 by omega), eq_self, Nat.reduceLT, Nat.reduceLeDiff, Nat.reduceMod, Nat.reduceDiv, Nat.reduceAdd, Nat.reduceMul, Option.toList_some, Option.toList_none, List.cons_append, List.nil_append, List.append_nil, n10, n00, if_true, if_false, b0, b1, nI_add, true_and, and_true, and_self, s_58_0, s_58_1, s_58_2, s_58_5, s_58_8, s_58_9, s_58_10, s_58_12, s_58_15, s_58_18, s_58_19, s_58_20, s_58_21, s_58_24, s_58_27, s_58_29, s_58_30, s_58_33, s_58_36, s_58_39, s_58_40, s_58_41, s_58_42, s_58_43, s_58_44, s_58_47, s_58_50, s_58_52, s_58_55, s_58_56, s_58_57, s_58_58, s_58_59, s_58_61, s_58_62, s_58_65]
        · simp only [h1, h2, h3, h4, eq_self, Nat.reduceLT, Nat.reduceLeDiff, Nat.reduceMod, Nat.reduceDiv, Nat.reduceAdd, Nat.reduceMul, Option.toList_some, Option.toList_none, List.cons_append, List.nil_append, List.append_nil, n10, n00, if_true, if_false, b0, b1, nI_add, true_and, and_true, and_self, not_false_eq_true, and_false]
      · simp only [h1, h2, h3, eq_self, Nat.reduceLT, Nat.reduceLeDiff, Nat.reduceMod, Nat.reduceDiv, Nat.reduceAdd, Nat.reduceMul, Option.toList_some, Option.toList_none, List.cons_append, List.nil_append, List.append_nil, n10, n00, if_true, if_false, b0, b1, nI_add, true_and, and_true, and_self, not_false_eq_true, and_false, false_and]
    · simp only [h1, h2, eq_self, Nat.reduceLT, Nat.reduceLeDiff, Nat.reduceMod, Nat.reduceDiv, Nat.reduceAdd, Nat.reduceMul, Option.toList_some, Option.toList_none, List.cons_append, List.nil_append, List.append_nil, n10, n00, if_true, if_false, b0, b1, nI_add, true_and, and_true, and_self, not_false_eq_true, and_false, false_and]
  · simp only [h1, eq_self, Nat.reduceLT, Nat.reduceLeDiff, Nat.reduceMod, Nat.reduceDiv, Nat.reduceAdd, Nat.reduceMul, Option.toList_some, Option.toList_none, List.cons_append, List.nil_append, List.append_nil, n10, n00, if_true, if_false, b0, b1, nI_add, true_and, and_true, and_self, false_and]
end
