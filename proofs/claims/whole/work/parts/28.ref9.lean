section
variable {d : Nat} {M : mH} {Q : Option Value → mH → Prop}
theorem c_cross_l {c : Nat} (hc : c < 4) : ∀ f M, wf M → unc (rg M) c ≤ f → ∃ M', (∀ Q, V (d + 1) 75 32 [some (rf (some 145)), some (.int (nI c)), some (.int (oI (mtAt (rg M) c)))] [] M Q = Q none M') ∧ wf M' ∧ rg M' = crsL c f (rg M) ∧ cg M' = cg M := by
  intro f
  induction f with
  | zero =>
    intro M hw hu
    have hn : mtAt (rg M) c = none := by
      cases h : mtAt (rg M) c with
      | none => rfl
      | some m => have := unc_lt h; omega
    refine ⟨M, fun Q => ?_, hw, rfl, rfl⟩
    rw [hn, s_75_32]
    simp only [oI, s_75_33, s_75_67, m1lt, eq_self, Nat.reduceLT, Nat.reduceLeDiff, Nat.reduceMod, Nat.reduceDiv, Nat.reduceAdd, Nat.reduceMul, Option.toList_some, Option.toList_none, List.cons_append, List.nil_append, List.append_nil, n10, n00, if_true, if_false, b0, b1, nI_add, true_and, and_true, and_self]
  | succ f ih =>
    intro M hw hu
    cases h : mtAt (rg M) c with
    | none =>
      refine ⟨M, fun Q => ?_, hw, by simp only [crsL, h], rfl⟩
      rw [s_75_32]
      simp only [oI, s_75_33, s_75_67, m1lt, eq_self, Nat.reduceLT, Nat.reduceLeDiff, Nat.reduceMod, Nat.reduceDiv, Nat.reduceAdd, Nat.reduceMul, Option.toList_some, Option.toList_none, List.cons_append, List.nil_append, List.append_nil, n10, n00, if_true, if_false, b0, b1, nI_add, true_and, and_true, and_self]
    | some m =>
      have hm := mtAt_lt hc m h
      have w1 := wm_168 hw hm b1
      have w2 := wm_145_40 w1 (x := rg M 21 m)
      have w3 := wm_145_41 w2 (x := nI m)
      have e1 : rg (mu (mu (mu M 168 m (.int (nI 1))) 145 40 (.int (rg M 21 m))) 145 41 (.int (nI m))) = crs1 (rg M) m := by
        rw [rm_145_41 w2, rm_145_40 w1, rm_168 hw hm b1]
        rfl
      obtain ⟨M', g1, g2, g3, g4⟩ := ih (mu (mu (mu M 168 m (.int (nI 1))) 145 40 (.int (rg M 21 m))) 145 41 (.int (nI m))) w3 (by rw [e1]; have := unc_lt h; omega)
      refine ⟨M', fun Q => ?_, g2, by rw [g3, e1]; simp only [crsL, h], ?_⟩
      · rw [s_75_32]
        simp only [oI, s_75_33, nIlt (show m < 2 ^ 31 by omega), s_75_36, s_75_37, s_75_40, s_75_41, s_75_42, s_75_43, s_75_44, s_75_45, s_75_48, s_75_49, s_75_50, s_75_53, s_75_54, s_75_55, s_75_58, s_75_59, s_75_60, s_75_63, s_75_64, eq_self, Nat.reduceLT, Nat.reduceLeDiff, Nat.reduceMod, Nat.reduceDiv, Nat.reduceAdd, Nat.reduceMul, Option.toList_some, Option.toList_none, List.cons_append, List.nil_append, List.append_nil, n10, n00, if_true, if_false, b0, b1, nI_add, true_and, and_true, and_self, sh_145, k_145_0, k_145_1, k_145_2, k_145_3, k_145_4, k_145_5, k_145_6, k_145_7, k_145_8, k_145_9, k_145_10, k_145_11, k_145_12, k_145_13, k_145_14, k_145_15, k_145_16, k_145_17, k_145_18, k_145_19, k_145_20, k_145_21, k_145_22, k_145_23, k_145_24, k_145_25, k_145_26, k_145_27, k_145_28, k_145_29, k_145_30, k_145_31, k_145_32, k_145_33, k_145_34, k_145_35, sh_146, sh_147, sh_148, sh_149, sh_150, sh_151, sh_152, sh_153, sh_154, sh_155, sh_156, sh_157, sh_158, sh_159, sh_160, sh_161, sh_162, sh_163, sh_164, sh_165, sh_166, sh_167, sh_168, sh_169, sh_170, sh_171, sh_172, sh_173, sh_174, sh_175, sh_176, sh_177, sh_178, sh_179, sh_180, sh_181, g_146, g_147, g_148, g_149, g_150, g_151, g_152, g_153, g_154, g_155, g_156, g_157, g_158, g_159, g_160, g_161, g_162, g_163, g_164, g_165, g_166, g_167, g_168, g_169, g_170, g_171, g_172, g_173, g_174, g_175, g_176, g_177, g_178, g_179, g_180, g_181, g_145_36, g_145_37, g_145_38, g_145_39, g_145_40, g_145_41, hw, hm, w1, rm_168 hw hm b1, ru, Nat.reduceEqDiff, false_and, w2, w3, c_mountAt w3 hc]
        exact g1 Q
      · rw [g4, cm_145_41 w2, cm_145_40 w1, cm_168 hw hm b1]
/-- no row of the cage crossed -/
def clr (c : Nat) (r : RS) : RS := ru (ru (ru (ru r 23 (4 * c) (nI 0)) 23 (4 * c + 1) (nI 0)) 23 (4 * c + 2) (nI 0)) 23 (4 * c + 3) (nI 0)
def crossR (c : Nat) (r : RS) : RS := crsL c 4 (clr c r)
theorem unc4 {r : RS} {c : Nat} : unc r c ≤ 4 := by
  simp only [unc, cnt]
  cases decide (r 23 (4 * c + 0) = 0) <;> cases decide (r 23 (4 * c + (0 + 1)) = 0) <;> cases decide (r 23 (4 * c + (0 + 1 + 1)) = 0) <;> cases decide (r 23 (4 * c + (0 + 1 + 1 + 1)) = 0) <;> simp
theorem c_cross (hw : wf M) {c : Nat} (hc : c < 4) : ∃ M', (∀ Q, Vc (d + 1) 75 [rf (some 145), .int (nI c)] M Q = Q none M') ∧ wf M' ∧ rg M' = crossR c (rg M) ∧ cg M' = cg M := by
  have j0 : 4 * c < 16 := by omega
  have j1 : 4 * c + 1 < 16 := by omega
  have j2 : 4 * c + 2 < 16 := by omega
  have j3 : 4 * c + 3 < 16 := by omega
  have e0 : (nI (4 * c + 4) ≤ nI (4 * c)) = False := eq_false (nI_ge (by omega) (by omega))
  have e1 : (nI (4 * c + 4) ≤ nI (4 * c + 1)) = False := eq_false (nI_ge (by omega) (by omega))
  have e2 : (nI (4 * c + 4) ≤ nI (4 * c + 2)) = False := eq_false (nI_ge (by omega) (by omega))
  have e3 : (nI (4 * c + 4) ≤ nI (4 * c + 3)) = False := eq_false (nI_ge (by omega) (by omega))
  have e4 : (nI (4 * c + 4) ≤ nI (4 * c + 4)) = True := eq_true (Int32.le_refl _)
  have w4 := wm_168 hw j0 b0
  have w5 := wm_168 w4 j1 b0
  have w6 := wm_168 w5 j2 b0
  have w7 := wm_168 w6 j3 b0
  have er : rg (mu (mu (mu (mu M 168 (4 * c) (.int (nI 0))) 168 (4 * c + 1) (.int (nI 0))) 168 (4 * c + 2) (.int (nI 0))) 168 (4 * c + 3) (.int (nI 0))) = clr c (rg M) := by
    rw [rm_168 w6 j3 b0, rm_168 w5 j2 b0, rm_168 w4 j1 b0, rm_168 hw j0 b0]
    rfl
  obtain ⟨M', g1, g2, g3, g4⟩ := c_cross_l (d := d) hc 4 _ w7 unc4
  refine ⟨M', fun Q => ?_, g2, by rw [g3, er]; rfl, ?_⟩
  · show V (d + 1) 75 0 [some (rf (some 145)), some (.int (nI c)), none] [] M Q = _
    simp only [s_75_0, s_75_1, s_75_2, s_75_3, s_75_4, s_75_5, s_75_6, s_75_7, s_75_8, s_75_9, s_75_10, s_75_13, s_75_14, s_75_17, s_75_18, s_75_19, s_75_20, s_75_23, eq_self, Nat.reduceLT, Nat.reduceLeDiff, Nat.reduceMod, Nat.reduceDiv, Nat.reduceAdd, Nat.reduceMul, Option.toList_some, Option.toList_none, List.cons_append, List.nil_append, List.append_nil, n10, n00, if_true, if_false, b0, b1, nI_add, true_and, and_true, and_self, sh_145, k_145_0, k_145_1, k_145_2, k_145_3, k_145_4, k_145_5, k_145_6, k_145_7, k_145_8, k_145_9, k_145_10, k_145_11, k_145_12, k_145_13, k_145_14, k_145_15, k_145_16, k_145_17, k_145_18, k_145_19, k_145_20, k_145_21, k_145_22, k_145_23, k_145_24, k_145_25, k_145_26, k_145_27, k_145_28, k_145_29, k_145_30, k_145_31, k_145_32, k_145_33, k_145_34, k_145_35, sh_146, sh_147, sh_148, sh_149, sh_150, sh_151, sh_152, sh_153, sh_154, sh_155, sh_156, sh_157, sh_158, sh_159, sh_160, sh_161, sh_162, sh_163, sh_164, sh_165, sh_166, sh_167, sh_168, sh_169, sh_170, sh_171, sh_172, sh_173, sh_174, sh_175, sh_176, sh_177, sh_178, sh_179, sh_180, sh_181, g_146, g_147, g_148, g_149, g_150, g_151, g_152, g_153, g_154, g_155, g_156, g_157, g_158, g_159, g_160, g_161, g_162, g_163, g_164, g_165, g_166, g_167, g_168, g_169, g_170, g_171, g_172, g_173, g_174, g_175, g_176, g_177, g_178, g_179, g_180, g_181, g_145_36, g_145_37, g_145_38, g_145_39, g_145_40, g_145_41, pk_mul, hw, e0, e1, e2, e3, e4, j0, j1, j2, j3, w4, w5, w6, w7, Nat.add_assoc, s_75_26, s_75_27, s_75_28, s_75_31, c_mountAt w7 hc]
    exact g1 Q
  · rw [g4, cm_168 w6 j3 b0, cm_168 w5 j2 b0, cm_168 w4 j1 b0, cm_168 hw j0 b0]
/-! UP -/
def up1 (r : RS) : RS := ru (ru r 0 40 (r 19 (r 0 41).toNatClampNeg)) 0 41 (r 20 (r 0 41).toNatClampNeg)
def upL : Nat → RS → RS
  | 0, r => r
  | f + 1, r => if ¬ r 0 41 < 0 ∧ r 0 40 = r 21 (r 0 41).toNatClampNeg then upL f (up1 r) else r
/-- the MOUNTS' POINTS were come to by elder ones: a rank falls -/
def WRr (r : RS) (rk : Nat → Nat) : Prop := ∀ k, k < 16 → ¬ r 18 k = 0 → r 20 k = -1 ∨ ∃ k', k' < 16 ∧ r 20 k = nI k' ∧ ¬ r 18 k' = 0 ∧ rk k' < rk k
/-- one is at nothing's, or at a MOUNT's side of rank below n -/
def atBy (r : RS) (rk : Nat → Nat) (n : Nat) : Prop := r 0 41 = -1 ∨ ∃ k, k < 16 ∧ r 0 41 = nI k ∧ ¬ r 18 k = 0 ∧ rk k < n
theorem c_up_l {c : Nat} {rk : Nat → Nat} : ∀ n M, wf M → WRr (rg M) rk → atBy (rg M) rk n → ∃ M', (∀ Q, V d 77 0 [some (rf (some 145)), some (.int (nI c))] [] M Q = V d 77 52 [some (rf (some 145)), some (.int (nI c))] [] M' Q) ∧ wf M' ∧ rg M' = upL n (rg M) ∧ cg M' = cg M := by
  intro n
  induction n with
  | zero =>
    intro M hw hr hb
    rcases hb with hb | ⟨k, -, -, -, h⟩
    · refine ⟨M, fun Q => ?_, hw, rfl, rfl⟩
      rw [s_77_0]
      simp only [s_77_1, s_77_4, eq_self, Nat.reduceLT, Nat.reduceLeDiff, Nat.reduceMod, Nat.reduceDiv, Nat.reduceAdd, Nat.reduceMul, Option.toList_some, Option.toList_none, List.cons_append, List.nil_append, List.append_nil, n10, n00, if_true, if_false, b0, b1, nI_add, true_and, and_true, and_self, sh_145, k_145_0, k_145_1, k_145_2, k_145_3, k_145_4, k_145_5, k_145_6, k_145_7, k_145_8, k_145_9, k_145_10, k_145_11, k_145_12, k_145_13, k_145_14, k_145_15, k_145_16, k_145_17, k_145_18, k_145_19, k_145_20, k_145_21, k_145_22, k_145_23, k_145_24, k_145_25, k_145_26, k_145_27, k_145_28, k_145_29, k_145_30, k_145_31, k_145_32, k_145_33, k_145_34, k_145_35, sh_146, sh_147, sh_148, sh_149, sh_150, sh_151, sh_152, sh_153, sh_154, sh_155, sh_156, sh_157, sh_158, sh_159, sh_160, sh_161, sh_162, sh_163, sh_164, sh_165, sh_166, sh_167, sh_168, sh_169, sh_170, sh_171, sh_172, sh_173, sh_174, sh_175, sh_176, sh_177, sh_178, sh_179, sh_180, sh_181, g_146, g_147, g_148, g_149, g_150, g_151, g_152, g_153, g_154, g_155, g_156, g_157, g_158, g_159, g_160, g_161, g_162, g_163, g_164, g_165, g_166, g_167, g_168, g_169, g_170, g_171, g_172, g_173, g_174, g_175, g_176, g_177, g_178, g_179, g_180, g_181, g_145_36, g_145_37, g_145_38, g_145_39, g_145_40, g_145_41, hw, hb, m1lt]
    · omega
  | succ n ih =>
    intro M hw hr hb
    rcases hb with hb | ⟨k, hk, hbk, hmk, hrk⟩
    · refine ⟨M, fun Q => ?_, hw, ?_, rfl⟩
      · rw [s_77_0]
        simp only [s_77_1, s_77_4, eq_self, Nat.reduceLT, Nat.reduceLeDiff, Nat.reduceMod, Nat.reduceDiv, Nat.reduceAdd, Nat.reduceMul, Option.toList_some, Option.toList_none, List.cons_append, List.nil_append, List.append_nil, n10, n00, if_true, if_false, b0, b1, nI_add, true_and, and_true, and_self, sh_145, k_145_0, k_145_1, k_145_2, k_145_3, k_145_4, k_145_5, k_145_6, k_145_7, k_145_8, k_145_9, k_145_10, k_145_11, k_145_12, k_145_13, k_145_14, k_145_15, k_145_16, k_145_17, k_145_18, k_145_19, k_145_20, k_145_21, k_145_22, k_145_23, k_145_24, k_145_25, k_145_26, k_145_27, k_145_28, k_145_29, k_145_30, k_145_31, k_145_32, k_145_33, k_145_34, k_145_35, sh_146, sh_147, sh_148, sh_149, sh_150, sh_151, sh_152, sh_153, sh_154, sh_155, sh_156, sh_157, sh_158, sh_159, sh_160, sh_161, sh_162, sh_163, sh_164, sh_165, sh_166, sh_167, sh_168, sh_169, sh_170, sh_171, sh_172, sh_173, sh_174, sh_175, sh_176, sh_177, sh_178, sh_179, sh_180, sh_181, g_146, g_147, g_148, g_149, g_150, g_151, g_152, g_153, g_154, g_155, g_156, g_157, g_158, g_159, g_160, g_161, g_162, g_163, g_164, g_165, g_166, g_167, g_168, g_169, g_170, g_171, g_172, g_173, g_174, g_175, g_176, g_177, g_178, g_179, g_180, g_181, g_145_36, g_145_37, g_145_38, g_145_39, g_145_40, g_145_41, hw, hb, m1lt]
      · simp only [upL, hb, m1lt, not_true, false_and, if_false]
    · have h31 : k < 2 ^ 31 := by omega
      by_cases h1 : rg M 0 40 = rg M 21 k
      · have w1 := wm_145_40 hw (x := rg M 19 k)
        have w2 := wm_145_41 w1 (x := rg M 20 k)
        have er : rg (mu (mu M 145 40 (.int (rg M 19 k))) 145 41 (.int (rg M 20 k))) = up1 (rg M) := by
          rw [rm_145_41 w1, rm_145_40 hw, up1, hbk, nI_clamp h31]
        have hr' : WRr (up1 (rg M)) rk := fun j hj h => by
          simp only [up1, ru, Nat.reduceEqDiff, false_and, if_false] at h ⊢
          exact hr j hj h
        have hb' : atBy (up1 (rg M)) rk n := by
          rcases hr k hk hmk with h2 | ⟨k', h3, h4, h5, h6⟩
          · refine Or.inl ?_
            simp only [up1, ru, hbk, nI_clamp h31, h2, and_self, if_true]
          · refine Or.inr ⟨k', h3, ?_, ?_, by omega⟩
            · simp only [up1, ru, hbk, nI_clamp h31, h4, and_self, if_true]
            · simp only [up1, ru, Nat.reduceEqDiff, false_and, if_false]
              exact h5
        obtain ⟨M', g1, g2, g3, g4⟩ := ih _ w2 (by rw [er]; exact hr') (by rw [er]; exact hb')
        refine ⟨M', fun Q => ?_, g2, ?_, ?_⟩
        · rw [s_77_0]
          simp only [s_77_1, s_77_4, s_77_7, s_77_8, s_77_11, s_77_12, s_77_15, s_77_16, s_77_19, s_77_20, s_77_23, s_77_24, s_77_25, s_77_28, s_77_29, s_77_32, s_77_33, s_77_36, s_77_37, s_77_38, s_77_41, s_77_42, s_77_45, s_77_46, s_77_49, eq_self, Nat.reduceLT, Nat.reduceLeDiff, Nat.reduceMod, Nat.reduceDiv, Nat.reduceAdd, Nat.reduceMul, Option.toList_some, Option.toList_none, List.cons_append, List.nil_append, List.append_nil, n10, n00, if_true, if_false, b0, b1, nI_add, true_and, and_true, and_self, sh_145, k_145_0, k_145_1, k_145_2, k_145_3, k_145_4, k_145_5, k_145_6, k_145_7, k_145_8, k_145_9, k_145_10, k_145_11, k_145_12, k_145_13, k_145_14, k_145_15, k_145_16, k_145_17, k_145_18, k_145_19, k_145_20, k_145_21, k_145_22, k_145_23, k_145_24, k_145_25, k_145_26, k_145_27, k_145_28, k_145_29, k_145_30, k_145_31, k_145_32, k_145_33, k_145_34, k_145_35, sh_146, sh_147, sh_148, sh_149, sh_150, sh_151, sh_152, sh_153, sh_154, sh_155, sh_156, sh_157, sh_158, sh_159, sh_160, sh_161, sh_162, sh_163, sh_164, sh_165, sh_166, sh_167, sh_168, sh_169, sh_170, sh_171, sh_172, sh_173, sh_174, sh_175, sh_176, sh_177, sh_178, sh_179, sh_180, sh_181, g_146, g_147, g_148, g_149, g_150, g_151, g_152, g_153, g_154, g_155, g_156, g_157, g_158, g_159, g_160, g_161, g_162, g_163, g_164, g_165, g_166, g_167, g_168, g_169, g_170, g_171, g_172, g_173, g_174, g_175, g_176, g_177, g_178, g_179, g_180, g_181, g_145_36, g_145_37, g_145_38, g_145_39, g_145_40, g_145_41, hw, hk, hbk, h1, nIlt h31, w1, rm_145_40 hw, ru, Nat.reduceEqDiff, false_and, and_false]
          exact g1 Q
        · rw [g3, er, upL, if_pos ⟨by rw [hbk]; exact nI_pos h31, by rw [hbk, nI_clamp h31]; exact h1⟩]
        · rw [g4, cm_145_41 w1, cm_145_40 hw]
      · refine ⟨M, fun Q => ?_, hw, ?_, rfl⟩
        · rw [s_77_0]
          simp only [s_77_1, s_77_4, s_77_7, s_77_8, s_77_11, s_77_12, s_77_15, s_77_16, s_77_19, s_77_20, eq_self, Nat.reduceLT, Nat.reduceLeDiff, Nat.reduceMod, Nat.reduceDiv, Nat.reduceAdd, Nat.reduceMul, Option.toList_some, Option.toList_none, List.cons_append, List.nil_append, List.append_nil, n10, n00, if_true, if_false, b0, b1, nI_add, true_and, and_true, and_self, sh_145, k_145_0, k_145_1, k_145_2, k_145_3, k_145_4, k_145_5, k_145_6, k_145_7, k_145_8, k_145_9, k_145_10, k_145_11, k_145_12, k_145_13, k_145_14, k_145_15, k_145_16, k_145_17, k_145_18, k_145_19, k_145_20, k_145_21, k_145_22, k_145_23, k_145_24, k_145_25, k_145_26, k_145_27, k_145_28, k_145_29, k_145_30, k_145_31, k_145_32, k_145_33, k_145_34, k_145_35, sh_146, sh_147, sh_148, sh_149, sh_150, sh_151, sh_152, sh_153, sh_154, sh_155, sh_156, sh_157, sh_158, sh_159, sh_160, sh_161, sh_162, sh_163, sh_164, sh_165, sh_166, sh_167, sh_168, sh_169, sh_170, sh_171, sh_172, sh_173, sh_174, sh_175, sh_176, sh_177, sh_178, sh_179, sh_180, sh_181, g_146, g_147, g_148, g_149, g_150, g_151, g_152, g_153, g_154, g_155, g_156, g_157, g_158, g_159, g_160, g_161, g_162, g_163, g_164, g_165, g_166, g_167, g_168, g_169, g_170, g_171, g_172, g_173, g_174, g_175, g_176, g_177, g_178, g_179, g_180, g_181, g_145_36, g_145_37, g_145_38, g_145_39, g_145_40, g_145_41, hw, hk, hbk, h1, nIlt h31]
        · rw [upL, if_neg (fun z => h1 (by have := z.2; rw [hbk, nI_clamp h31] at this; exact this))]
/-- UP from where one is -/
def upR (c n : Nat) (r : RS) : RS := if (upL n r 0 41 < 0 ∧ upL n r 0 40 = upL n r 8 c) then upL n r else ru (upL n r) 0 40 (upL n r 2 (upL n r 0 40).toNatClampNeg)
theorem c_up (hw : wf M) {c : Nat} (hc : c < 4) {rk : Nat → Nat} {n : Nat} (hr : WRr (rg M) rk) (hb : atBy (rg M) rk n) (ha : ∃ a, a < 32 ∧ upL n (rg M) 0 40 = nI a) : ∃ M', (∀ Q, Vc d 77 [rf (some 145), .int (nI c)] M Q = Q none M') ∧ wf M' ∧ rg M' = upR c n (rg M) ∧ cg M' = cg M := by
  obtain ⟨M1, g1, g2, g3, g4⟩ := c_up_l (d := d) (c := c) n M hw hr hb
  obtain ⟨a, ha, hav⟩ := ha
  rw [← g3] at hav
  have hst : ∀ Q, Vc d 77 [rf (some 145), .int (nI c)] M Q = V d 77 52 [some (rf (some 145)), some (.int (nI c))] [] M1 Q := g1
  by_cases h : rg M1 0 41 < 0 ∧ rg M1 0 40 = rg M1 8 c
  · refine ⟨M1, fun Q => ?_, g2, ?_, g4⟩
    · have hge : ¬ (0 : Int32) ≤ rg M1 0 41 := by rw [Int32.not_le]; exact h.1
      rw [hst]
      simp only [s_77_52, s_77_53, s_77_56, s_77_59, s_77_60, s_77_63, s_77_64, s_77_67, s_77_68, s_77_69, s_77_85, eq_self, Nat.reduceLT, Nat.reduceLeDiff, Nat.reduceMod, Nat.reduceDiv, Nat.reduceAdd, Nat.reduceMul, Option.toList_some, Option.toList_none, List.cons_append, List.nil_append, List.append_nil, n10, n00, if_true, if_false, b0, b1, nI_add, true_and, and_true, and_self, sh_145, k_145_0, k_145_1, k_145_2, k_145_3, k_145_4, k_145_5, k_145_6, k_145_7, k_145_8, k_145_9, k_145_10, k_145_11, k_145_12, k_145_13, k_145_14, k_145_15, k_145_16, k_145_17, k_145_18, k_145_19, k_145_20, k_145_21, k_145_22, k_145_23, k_145_24, k_145_25, k_145_26, k_145_27, k_145_28, k_145_29, k_145_30, k_145_31, k_145_32, k_145_33, k_145_34, k_145_35, sh_146, sh_147, sh_148, sh_149, sh_150, sh_151, sh_152, sh_153, sh_154, sh_155, sh_156, sh_157, sh_158, sh_159, sh_160, sh_161, sh_162, sh_163, sh_164, sh_165, sh_166, sh_167, sh_168, sh_169, sh_170, sh_171, sh_172, sh_173, sh_174, sh_175, sh_176, sh_177, sh_178, sh_179, sh_180, sh_181, g_146, g_147, g_148, g_149, g_150, g_151, g_152, g_153, g_154, g_155, g_156, g_157, g_158, g_159, g_160, g_161, g_162, g_163, g_164, g_165, g_166, g_167, g_168, g_169, g_170, g_171, g_172, g_173, g_174, g_175, g_176, g_177, g_178, g_179, g_180, g_181, g_145_36, g_145_37, g_145_38, g_145_39, g_145_40, g_145_41, g2, hc, hge, h]
    · rw [upR, ← g3, if_pos h]
  · refine ⟨mu M1 145 40 (.int (rg M1 2 a)), fun Q => ?_, wm_145_40 g2, ?_, ?_⟩
    · rw [hst]
      simp only [s_77_52, s_77_53, s_77_56, s_77_59, s_77_60, s_77_63, s_77_64, s_77_67, s_77_68, s_77_69, s_77_72, s_77_73, s_77_74, s_77_77, s_77_78, s_77_81, s_77_82, s_77_85, eq_self, Nat.reduceLT, Nat.reduceLeDiff, Nat.reduceMod, Nat.reduceDiv, Nat.reduceAdd, Nat.reduceMul, Option.toList_some, Option.toList_none, List.cons_append, List.nil_append, List.append_nil, n10, n00, if_true, if_false, b0, b1, nI_add, true_and, and_true, and_self, sh_145, k_145_0, k_145_1, k_145_2, k_145_3, k_145_4, k_145_5, k_145_6, k_145_7, k_145_8, k_145_9, k_145_10, k_145_11, k_145_12, k_145_13, k_145_14, k_145_15, k_145_16, k_145_17, k_145_18, k_145_19, k_145_20, k_145_21, k_145_22, k_145_23, k_145_24, k_145_25, k_145_26, k_145_27, k_145_28, k_145_29, k_145_30, k_145_31, k_145_32, k_145_33, k_145_34, k_145_35, sh_146, sh_147, sh_148, sh_149, sh_150, sh_151, sh_152, sh_153, sh_154, sh_155, sh_156, sh_157, sh_158, sh_159, sh_160, sh_161, sh_162, sh_163, sh_164, sh_165, sh_166, sh_167, sh_168, sh_169, sh_170, sh_171, sh_172, sh_173, sh_174, sh_175, sh_176, sh_177, sh_178, sh_179, sh_180, sh_181, g_146, g_147, g_148, g_149, g_150, g_151, g_152, g_153, g_154, g_155, g_156, g_157, g_158, g_159, g_160, g_161, g_162, g_163, g_164, g_165, g_166, g_167, g_168, g_169, g_170, g_171, g_172, g_173, g_174, g_175, g_176, g_177, g_178, g_179, g_180, g_181, g_145_36, g_145_37, g_145_38, g_145_39, g_145_40, g_145_41, g2, hc, hav, ha]
      by_cases h1 : (0 : Int32) ≤ rg M1 0 41
      · simp only [h1, eq_self, Nat.reduceLT, Nat.reduceLeDiff, Nat.reduceMod, Nat.reduceDiv, Nat.reduceAdd, Nat.reduceMul, Option.toList_some, Option.toList_none, List.cons_append, List.nil_append, List.append_nil, n10, n00, if_true, if_false, b0, b1, nI_add, true_and, and_true, and_self]
      · have h2 : ¬ nI a = rg M1 8 c := fun z => h ⟨Int32.not_le.mp h1, by rw [hav]; exact z⟩
        simp only [h1, h2, eq_self, Nat.reduceLT, Nat.reduceLeDiff, Nat.reduceMod, Nat.reduceDiv, Nat.reduceAdd, Nat.reduceMul, Option.toList_some, Option.toList_none, List.cons_append, List.nil_append, List.append_nil, n10, n00, if_true, if_false, b0, b1, nI_add, true_and, and_true, and_self]
    · rw [rm_145_40 g2, upR, ← g3, if_neg h, hav, nI_clamp (by omega)]
    · rw [cm_145_40 g2, g4]
end
