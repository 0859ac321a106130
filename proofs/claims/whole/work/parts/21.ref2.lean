section
variable {d : Nat} {M : mH} {Q : Option Value → mH → Prop}
/-- a directory that is there -/
abbrev isDir (r : RS) (x : Int32) : Prop := ((nI 0 ≤ x ∧ x ≤ nI 31) ∧ ¬ r 1 x.toNatClampNeg = 0) ∧ r 4 x.toNatClampNeg = 0
theorem c_isDirectory (hw : wf M) {x : Int32} : Vc (d + 2) 53 [rf (some 145), .int x] M Q = if ((nI 0 ≤ x ∧ x ≤ nI 31) ∧ ¬ rg M 1 x.toNatClampNeg = 0) ∧ rg M 4 x.toNatClampNeg = 0 then Q (some (.int (nI 1))) M else Q (some (.int (nI 0))) M := by
  show V (d + 2) 53 0 [some (rf (some 145)), some (.int x)] [] M Q = _
  simp only [s_53_0, s_53_1, s_53_2 hw sh_145, c_isThere hw]
  by_cases h : (nI 0 ≤ x ∧ x ≤ nI 31) ∧ ¬ rg M 1 x.toNatClampNeg = 0
  · obtain ⟨n, hn, rfl⟩ := in_nI (by decide) h.1
    have hn : n < 32 := by omega
    simp only [nI_clamp (show n < 2 ^ 31 by omega)] at h ⊢
    simp only [s_53_0, s_53_1, s_53_2, s_53_5, s_53_8, s_53_9, s_53_12, s_53_13, s_53_14, s_53_17, s_53_18, s_53_21, s_53_22, eq_self, Nat.reduceLT, Nat.reduceLeDiff, Nat.reduceMod, Nat.reduceDiv, Nat.reduceAdd, Nat.reduceMul, Option.toList_some, Option.toList_none, List.cons_append, List.nil_append, List.append_nil, n10, n00, if_true, if_false, b0, b1, nI_add, true_and, and_true, and_self, sh_145, k_145_0, k_145_1, k_145_2, k_145_3, k_145_4, k_145_5, k_145_6, k_145_7, k_145_8, k_145_9, k_145_10, k_145_11, k_145_12, k_145_13, k_145_14, k_145_15, k_145_16, k_145_17, k_145_18, k_145_19, k_145_20, k_145_21, k_145_22, k_145_23, k_145_24, k_145_25, k_145_26, k_145_27, k_145_28, k_145_29, k_145_30, k_145_31, k_145_32, k_145_33, k_145_34, k_145_35, sh_146, sh_147, sh_148, sh_149, sh_150, sh_151, sh_152, sh_153, sh_154, sh_155, sh_156, sh_157, sh_158, sh_159, sh_160, sh_161, sh_162, sh_163, sh_164, sh_165, sh_166, sh_167, sh_168, sh_169, sh_170, sh_171, sh_172, sh_173, sh_174, sh_175, sh_176, sh_177, sh_178, sh_179, sh_180, sh_181, g_146, g_147, g_148, g_149, g_150, g_151, g_152, g_153, g_154, g_155, g_156, g_157, g_158, g_159, g_160, g_161, g_162, g_163, g_164, g_165, g_166, g_167, g_168, g_169, g_170, g_171, g_172, g_173, g_174, g_175, g_176, g_177, g_178, g_179, g_180, g_181, g_145_36, g_145_37, g_145_38, g_145_39, g_145_40, g_145_41, h, hw, hn, not_false_eq_true]
  · simp only [h, false_and, s_53_0, s_53_1, s_53_2, s_53_5, s_53_8, s_53_9, s_53_12, s_53_13, s_53_14, s_53_17, s_53_18, s_53_21, s_53_22, eq_self, Nat.reduceLT, Nat.reduceLeDiff, Nat.reduceMod, Nat.reduceDiv, Nat.reduceAdd, Nat.reduceMul, Option.toList_some, Option.toList_none, List.cons_append, List.nil_append, List.append_nil, n10, n00, if_true, if_false, b0, b1, nI_add, true_and, and_true, and_self]
theorem c_isCage (hw : wf M) {x : Int32} : Vc (d + 1) 54 [rf (some 145), .int x] M Q = if nI 0 ≤ x ∧ x ≤ rg M 0 36 - nI 1 then Q (some (.int (nI 1))) M else Q (some (.int (nI 0))) M := by
  show V (d + 1) 54 0 [some (rf (some 145)), some (.int x)] [] M Q = _
  simp only [s_54_0, s_54_1, s_54_2, s_54_3, s_54_6, s_54_7, s_54_8, s_54_11, eq_self, Nat.reduceLT, Nat.reduceLeDiff, Nat.reduceMod, Nat.reduceDiv, Nat.reduceAdd, Nat.reduceMul, Option.toList_some, Option.toList_none, List.cons_append, List.nil_append, List.append_nil, n10, n00, if_true, if_false, b0, b1, nI_add, true_and, and_true, and_self, sh_145, k_145_0, k_145_1, k_145_2, k_145_3, k_145_4, k_145_5, k_145_6, k_145_7, k_145_8, k_145_9, k_145_10, k_145_11, k_145_12, k_145_13, k_145_14, k_145_15, k_145_16, k_145_17, k_145_18, k_145_19, k_145_20, k_145_21, k_145_22, k_145_23, k_145_24, k_145_25, k_145_26, k_145_27, k_145_28, k_145_29, k_145_30, k_145_31, k_145_32, k_145_33, k_145_34, k_145_35, sh_146, sh_147, sh_148, sh_149, sh_150, sh_151, sh_152, sh_153, sh_154, sh_155, sh_156, sh_157, sh_158, sh_159, sh_160, sh_161, sh_162, sh_163, sh_164, sh_165, sh_166, sh_167, sh_168, sh_169, sh_170, sh_171, sh_172, sh_173, sh_174, sh_175, sh_176, sh_177, sh_178, sh_179, sh_180, sh_181, g_146, g_147, g_148, g_149, g_150, g_151, g_152, g_153, g_154, g_155, g_156, g_157, g_158, g_159, g_160, g_161, g_162, g_163, g_164, g_165, g_166, g_167, g_168, g_169, g_170, g_171, g_172, g_173, g_174, g_175, g_176, g_177, g_178, g_179, g_180, g_181, g_145_36, g_145_37, g_145_38, g_145_39, g_145_40, g_145_41, hw, c_is]
/-! cages within cages -/
/-- the outer cage's number -/
def outO (r : RS) (c : Nat) : Option Nat := if r 11 c < 0 then none else some (r 11 c).toNatClampNeg
/-- each cage's outer cage is an elder one -/
def WRo (r : RS) (C : Nat) : Prop := ∀ c, c < C → r 11 c = -1 ∨ ∃ c', c' < c ∧ r 11 c = nI c'
/-- is the cage o among c and those around it -/
def inn (r : RS) (o : Nat) : Nat → Option Nat → Bool
  | _, none => false
  | 0, some c => c == o
  | f + 1, some c => c == o || inn r o f (outO r c)
theorem outO_none {r : RS} {c : Nat} (h : r 11 c = -1) : outO r c = none := by unfold outO; rw [h]; rfl
theorem outO_some {r : RS} {c c' : Nat} (hc : c' < 2 ^ 31) (h : r 11 c = nI c') : outO r c = some c' := by
  unfold outO
  rw [h, if_neg (nI_pos hc), nI_clamp hc]
theorem m1lt : ((-1 : Int32) < 0) = True := eq_true (by decide)
theorem nIlt {n : Nat} (h : n < 2 ^ 31) : (nI n < 0) = False := eq_false (nI_pos h)
theorem c_isIn_l (hw : wf M) {C o : Nat} (hC : C ≤ 4) (ho : WRo (rg M) C) (hoC : o < 2 ^ 31) {x1 : Int32} : ∀ f (oc : Option Nat), (∀ c, oc = some c → c < C ∧ c ≤ f) → V d 59 2 [some (rf (some 145)), some (.int x1), some (.int (nI o)), some (.int (oI oc))] [] M Q = if inn (rg M) o f oc = true then Q (some (.int (nI 1))) M else Q (some (.int (nI 0))) M := by
  intro f
  induction f with
  | zero =>
    intro oc hoc
    cases oc with
    | none => rw [s_59_2]; simp only [oI, s_59_0, s_59_1, s_59_3, s_59_6, s_59_7, s_59_8, s_59_11, s_59_12, s_59_15, s_59_16, s_59_17, s_59_18, s_59_21, s_59_22, s_59_25, s_59_26, s_59_29, s_59_30, eq_self, Nat.reduceLT, Nat.reduceLeDiff, Nat.reduceMod, Nat.reduceDiv, Nat.reduceAdd, Nat.reduceMul, Option.toList_some, Option.toList_none, List.cons_append, List.nil_append, List.append_nil, n10, n00, if_true, if_false, b0, b1, nI_add, true_and, and_true, and_self, m1lt, inn, Bool.false_eq_true]
    | some c =>
      obtain ⟨h1, h2⟩ := hoc c rfl
      obtain rfl : c = 0 := by omega
      rw [s_59_2]
      simp only [oI, s_59_0, s_59_1, s_59_3, s_59_6, s_59_7, s_59_8, s_59_11, s_59_12, s_59_15, s_59_16, s_59_17, s_59_18, s_59_21, s_59_22, s_59_25, s_59_26, s_59_29, s_59_30, eq_self, Nat.reduceLT, Nat.reduceLeDiff, Nat.reduceMod, Nat.reduceDiv, Nat.reduceAdd, Nat.reduceMul, Option.toList_some, Option.toList_none, List.cons_append, List.nil_append, List.append_nil, n10, n00, if_true, if_false, b0, b1, nI_add, true_and, and_true, and_self, sh_145, k_145_0, k_145_1, k_145_2, k_145_3, k_145_4, k_145_5, k_145_6, k_145_7, k_145_8, k_145_9, k_145_10, k_145_11, k_145_12, k_145_13, k_145_14, k_145_15, k_145_16, k_145_17, k_145_18, k_145_19, k_145_20, k_145_21, k_145_22, k_145_23, k_145_24, k_145_25, k_145_26, k_145_27, k_145_28, k_145_29, k_145_30, k_145_31, k_145_32, k_145_33, k_145_34, k_145_35, sh_146, sh_147, sh_148, sh_149, sh_150, sh_151, sh_152, sh_153, sh_154, sh_155, sh_156, sh_157, sh_158, sh_159, sh_160, sh_161, sh_162, sh_163, sh_164, sh_165, sh_166, sh_167, sh_168, sh_169, sh_170, sh_171, sh_172, sh_173, sh_174, sh_175, sh_176, sh_177, sh_178, sh_179, sh_180, sh_181, g_146, g_147, g_148, g_149, g_150, g_151, g_152, g_153, g_154, g_155, g_156, g_157, g_158, g_159, g_160, g_161, g_162, g_163, g_164, g_165, g_166, g_167, g_168, g_169, g_170, g_171, g_172, g_173, g_174, g_175, g_176, g_177, g_178, g_179, g_180, g_181, g_145_36, g_145_37, g_145_38, g_145_39, g_145_40, g_145_41, hw, nIlt (show 0 < 2 ^ 31 by decide), inn]
      by_cases h : (0 : Nat) = o
      · subst h
        simp only [eq_self, Nat.reduceLT, Nat.reduceLeDiff, Nat.reduceMod, Nat.reduceDiv, Nat.reduceAdd, Nat.reduceMul, Option.toList_some, Option.toList_none, List.cons_append, List.nil_append, List.append_nil, n10, n00, if_true, if_false, b0, b1, nI_add, true_and, and_true, and_self, nIlt (show 0 < 2 ^ 31 by decide), beq_self_eq_true]
      · have h' : ¬ nI 0 = nI o := fun z => h ((nI_eq (by decide) hoC).mp z)
        have hb : ((0 : Nat) == o) = false := beq_eq_false_iff_ne.mpr h
        have h9 := ho 0 h1
        rcases h9 with h9 | ⟨c', hc', -⟩
        · simp only [h', h9, eq_self, Nat.reduceLT, Nat.reduceLeDiff, Nat.reduceMod, Nat.reduceDiv, Nat.reduceAdd, Nat.reduceMul, Option.toList_some, Option.toList_none, List.cons_append, List.nil_append, List.append_nil, n10, n00, if_true, if_false, b0, b1, nI_add, true_and, and_true, and_self, hb, Bool.false_eq_true]
          rw [s_59_2]
          simp only [s_59_0, s_59_1, s_59_3, s_59_6, s_59_7, s_59_8, s_59_11, s_59_12, s_59_15, s_59_16, s_59_17, s_59_18, s_59_21, s_59_22, s_59_25, s_59_26, s_59_29, s_59_30, eq_self, Nat.reduceLT, Nat.reduceLeDiff, Nat.reduceMod, Nat.reduceDiv, Nat.reduceAdd, Nat.reduceMul, Option.toList_some, Option.toList_none, List.cons_append, List.nil_append, List.append_nil, n10, n00, if_true, if_false, b0, b1, nI_add, true_and, and_true, and_self, m1lt]
        · omega
  | succ f ih =>
    intro oc hoc
    cases oc with
    | none => rw [s_59_2]; simp only [oI, s_59_0, s_59_1, s_59_3, s_59_6, s_59_7, s_59_8, s_59_11, s_59_12, s_59_15, s_59_16, s_59_17, s_59_18, s_59_21, s_59_22, s_59_25, s_59_26, s_59_29, s_59_30, eq_self, Nat.reduceLT, Nat.reduceLeDiff, Nat.reduceMod, Nat.reduceDiv, Nat.reduceAdd, Nat.reduceMul, Option.toList_some, Option.toList_none, List.cons_append, List.nil_append, List.append_nil, n10, n00, if_true, if_false, b0, b1, nI_add, true_and, and_true, and_self, m1lt, inn, Bool.false_eq_true]
    | some c =>
      obtain ⟨h1, h2⟩ := hoc c rfl
      have h31 : c < 2 ^ 31 := by omega
      have h4 : c < 4 := by omega
      rw [s_59_2]
      simp only [oI, s_59_0, s_59_1, s_59_3, s_59_6, s_59_7, s_59_8, s_59_11, s_59_12, s_59_15, s_59_16, s_59_17, s_59_18, s_59_21, s_59_22, s_59_25, s_59_26, s_59_29, s_59_30, eq_self, Nat.reduceLT, Nat.reduceLeDiff, Nat.reduceMod, Nat.reduceDiv, Nat.reduceAdd, Nat.reduceMul, Option.toList_some, Option.toList_none, List.cons_append, List.nil_append, List.append_nil, n10, n00, if_true, if_false, b0, b1, nI_add, true_and, and_true, and_self, sh_145, k_145_0, k_145_1, k_145_2, k_145_3, k_145_4, k_145_5, k_145_6, k_145_7, k_145_8, k_145_9, k_145_10, k_145_11, k_145_12, k_145_13, k_145_14, k_145_15, k_145_16, k_145_17, k_145_18, k_145_19, k_145_20, k_145_21, k_145_22, k_145_23, k_145_24, k_145_25, k_145_26, k_145_27, k_145_28, k_145_29, k_145_30, k_145_31, k_145_32, k_145_33, k_145_34, k_145_35, sh_146, sh_147, sh_148, sh_149, sh_150, sh_151, sh_152, sh_153, sh_154, sh_155, sh_156, sh_157, sh_158, sh_159, sh_160, sh_161, sh_162, sh_163, sh_164, sh_165, sh_166, sh_167, sh_168, sh_169, sh_170, sh_171, sh_172, sh_173, sh_174, sh_175, sh_176, sh_177, sh_178, sh_179, sh_180, sh_181, g_146, g_147, g_148, g_149, g_150, g_151, g_152, g_153, g_154, g_155, g_156, g_157, g_158, g_159, g_160, g_161, g_162, g_163, g_164, g_165, g_166, g_167, g_168, g_169, g_170, g_171, g_172, g_173, g_174, g_175, g_176, g_177, g_178, g_179, g_180, g_181, g_145_36, g_145_37, g_145_38, g_145_39, g_145_40, g_145_41, hw, h4, nIlt h31, inn]
      by_cases h : c = o
      · subst h
        simp only [eq_self, Nat.reduceLT, Nat.reduceLeDiff, Nat.reduceMod, Nat.reduceDiv, Nat.reduceAdd, Nat.reduceMul, Option.toList_some, Option.toList_none, List.cons_append, List.nil_append, List.append_nil, n10, n00, if_true, if_false, b0, b1, nI_add, true_and, and_true, and_self, nIlt h31, beq_self_eq_true, Bool.true_or]
      · have h' : ¬ nI c = nI o := fun z => h ((nI_eq h31 hoC).mp z)
        have hb : (c == o) = false := beq_eq_false_iff_ne.mpr h
        rcases ho c h1 with h9 | ⟨c', hc', h9⟩
        · have := ih none (fun _ z => by cases z)
          simp only [oI] at this
          simp only [h', h9, eq_self, Nat.reduceLT, Nat.reduceLeDiff, Nat.reduceMod, Nat.reduceDiv, Nat.reduceAdd, Nat.reduceMul, Option.toList_some, Option.toList_none, List.cons_append, List.nil_append, List.append_nil, n10, n00, if_true, if_false, b0, b1, nI_add, true_and, and_true, and_self, hb, Bool.false_or, outO_none h9, this]
        · have := ih (some c') (fun _ z => by cases z; omega)
          simp only [oI] at this
          simp only [h', h9, eq_self, Nat.reduceLT, Nat.reduceLeDiff, Nat.reduceMod, Nat.reduceDiv, Nat.reduceAdd, Nat.reduceMul, Option.toList_some, Option.toList_none, List.cons_append, List.nil_append, List.append_nil, n10, n00, if_true, if_false, b0, b1, nI_add, true_and, and_true, and_self, hb, Bool.false_or, outO_some (show c' < 2 ^ 31 by omega) h9, this]
theorem c_isIn (hw : wf M) {C o : Nat} (hC : C ≤ 4) (ho : WRo (rg M) C) (hoC : o < 2 ^ 31) {c : Nat} (hc : c < C) : Vc d 59 [rf (some 145), .int (nI c), .int (nI o)] M Q = if inn (rg M) o 4 (some c) = true then Q (some (.int (nI 1))) M else Q (some (.int (nI 0))) M := by
  show V d 59 0 [some (rf (some 145)), some (.int (nI c)), some (.int (nI o)), none] [] M Q = _
  rw [s_59_0, s_59_1]
  exact c_isIn_l hw hC ho hoC 4 (some c) (fun _ z => by cases z; omega)
end
