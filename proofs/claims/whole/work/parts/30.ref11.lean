theorem ffind_none {p : Nat → Bool} : ∀ {k n : Nat}, ffind p n k = none → ∀ j, n ≤ j → j < n + k → p j = false := by
  intro k
  induction k with
  | zero => intro n _ j h1 h2; omega
  | succ k ih =>
    intro n h j h1 h2
    simp only [ffind] at h
    cases hp : p n with
    | true => rw [hp, cond_true] at h; cases h
    | false =>
      rw [hp, cond_false] at h
      by_cases hj : j = n
      · subst hj; exact hp
      · exact ih h j (by omega) (by omega)
section
variable {d : Nat} {M : mH} {Q : Option Value → mH → Prop}
/-- jumps are short -/
def WRs (r : RS) (n s : Nat) : Prop := ∀ k, k < s → (nI 4 ≤ r 33 (10 * n + k) ∧ r 33 (10 * n + k) ≤ nI 6) → ∃ b, b ≤ 9 ∧ r 35 (10 * n + k) = nI b
/-- what a FILTER gives -/
def jdg (r : RS) (n : Nat) (call a b : Int32) : Nat → Nat → Int32 → Int32
  | 0, _, _ => 0
  | f + 1, k, x => if r 33 (10 * n + k) = nI 7 then r 34 (10 * n + k) else if r 33 (10 * n + k) = 0 then jdg r n call a b f (k + 1) call else if r 33 (10 * n + k) = nI 1 then jdg r n call a b f (k + 1) a else if r 33 (10 * n + k) = nI 2 then jdg r n call a b f (k + 1) b else if r 33 (10 * n + k) = nI 3 then jdg r n call a b f (k + 1) (x &&& r 34 (10 * n + k)) else if r 33 (10 * n + k) = nI 6 ∨ (r 33 (10 * n + k) = nI 4 ∧ x = r 34 (10 * n + k)) ∨ (r 33 (10 * n + k) = nI 5 ∧ ¬ x ≤ r 34 (10 * n + k)) then jdg r n call a b f (k + (r 35 (10 * n + k)).toNatClampNeg + 1) x else jdg r n call a b f (k + 1) x
theorem c_judge_l (hw : wf M) {n s : Nat} (hn : n < 4) (hs : s ≤ 10) (hsn : rg M 36 n = nI s) (hg : good (rg M) n s) (hws : WRs (rg M) n s) {call a b : Int32} : ∀ f k x, k < s → s ≤ k + f → ∀ l7 l8, V d 68 9 [some (rf (some 145)), some (.int (nI n)), some (.int call), some (.int a), some (.int b), some (.int x), some (.int (nI (10 * n + k))), l7, l8] [] M Q = Q (some (.int (jdg (rg M) n call a b f k x))) M := by
  intro f
  induction f with
  | zero => intro k x h1 h2; omega
  | succ f ih =>
    intro k x hk hf l7 l8
    have hi : 10 * n + k < 40 := by omega
    by_cases h7 : rg M 33 (10 * n + k) = nI 7
    · rw [s_68_9]
      simp only [s_68_0, s_68_1, s_68_3, s_68_5, s_68_6, s_68_7, s_68_10, s_68_13, s_68_15, s_68_16, s_68_18, s_68_21, s_68_22, s_68_25, s_68_27, s_68_28, s_68_30, s_68_31, s_68_34, s_68_36, s_68_37, s_68_39, s_68_41, s_68_44, s_68_45, s_68_47, s_68_50, s_68_52, s_68_53, s_68_56, s_68_57, s_68_59, s_68_62, s_68_64, s_68_65, s_68_68, s_68_70, s_68_72, s_68_75, s_68_77, s_68_78, s_68_81, s_68_83, s_68_84, s_68_87, s_68_89, s_68_90, s_68_91, s_68_93, s_68_96, s_68_98, s_68_100, s_68_103, s_68_105, s_68_106, s_68_109, s_68_111, s_68_112, s_68_115, s_68_117, s_68_118, s_68_121, s_68_123, s_68_124, s_68_127, s_68_129, s_68_130, s_68_133, s_68_135, s_68_136, s_68_139, s_68_141, s_68_143, s_68_144, s_68_146, s_68_149, s_68_152, s_68_153, s_68_156, s_68_158, s_68_159, eq_self, Nat.reduceLT, Nat.reduceLeDiff, Nat.reduceMod, Nat.reduceDiv, Nat.reduceAdd, Nat.reduceMul, Option.toList_some, Option.toList_none, List.cons_append, List.nil_append, List.append_nil, n10, n00, if_true, if_false, b0, b1, nI_add, true_and, and_true, and_self, sh_145, k_145_0, k_145_1, k_145_2, k_145_3, k_145_4, k_145_5, k_145_6, k_145_7, k_145_8, k_145_9, k_145_10, k_145_11, k_145_12, k_145_13, k_145_14, k_145_15, k_145_16, k_145_17, k_145_18, k_145_19, k_145_20, k_145_21, k_145_22, k_145_23, k_145_24, k_145_25, k_145_26, k_145_27, k_145_28, k_145_29, k_145_30, k_145_31, k_145_32, k_145_33, k_145_34, k_145_35, sh_146, sh_147, sh_148, sh_149, sh_150, sh_151, sh_152, sh_153, sh_154, sh_155, sh_156, sh_157, sh_158, sh_159, sh_160, sh_161, sh_162, sh_163, sh_164, sh_165, sh_166, sh_167, sh_168, sh_169, sh_170, sh_171, sh_172, sh_173, sh_174, sh_175, sh_176, sh_177, sh_178, sh_179, sh_180, sh_181, g_146, g_147, g_148, g_149, g_150, g_151, g_152, g_153, g_154, g_155, g_156, g_157, g_158, g_159, g_160, g_161, g_162, g_163, g_164, g_165, g_166, g_167, g_168, g_169, g_170, g_171, g_172, g_173, g_174, g_175, g_176, g_177, g_178, g_179, g_180, g_181, g_145_36, g_145_37, g_145_38, g_145_39, g_145_40, g_145_41, hw, hi, h7, jdg]
    · have hlast : k + 1 < s := by
        by_cases hq : k + 1 < s
        · exact hq
        · exfalso
          have he : k = s - 1 := by omega
          rw [he] at h7
          exact h7 hg.2.1
      have hj : (nI 4 ≤ rg M 33 (10 * n + k) ∧ rg M 33 (10 * n + k) ≤ nI 6) → ∃ b', b' ≤ 9 ∧ rg M 35 (10 * n + k) = nI b' ∧ k + b' + 1 < s := by
        intro h46
        obtain ⟨b', h9, hb'⟩ := hws k hk h46
        refine ⟨b', h9, hb', ?_⟩
        have hbad := ffind_none hg.2.2 k (Nat.zero_le _) (by omega)
        simp only [badS, decide_eq_false_iff_not, h46, true_and, Classical.not_not] at hbad
        rw [hb', hsn, nI_add, nI_add, pk_sub (by omega), nI_leI (by omega) (by omega)] at hbad
        omega
      conv => lhs; rw [s_68_9]
      simp only [s_68_0, s_68_1, s_68_3, s_68_5, s_68_6, s_68_7, s_68_10, s_68_13, s_68_15, s_68_16, s_68_18, s_68_21, s_68_22, s_68_25, s_68_27, s_68_28, s_68_30, s_68_31, s_68_34, s_68_36, s_68_37, s_68_39, s_68_41, s_68_44, s_68_45, s_68_47, s_68_50, s_68_52, s_68_53, s_68_56, s_68_57, s_68_59, s_68_62, s_68_64, s_68_65, s_68_68, s_68_70, s_68_72, s_68_75, s_68_77, s_68_78, s_68_81, s_68_83, s_68_84, s_68_87, s_68_89, s_68_90, s_68_91, s_68_93, s_68_96, s_68_98, s_68_100, s_68_103, s_68_105, s_68_106, s_68_109, s_68_111, s_68_112, s_68_115, s_68_117, s_68_118, s_68_121, s_68_123, s_68_124, s_68_127, s_68_129, s_68_130, s_68_133, s_68_135, s_68_136, s_68_139, s_68_141, s_68_143, s_68_144, s_68_146, s_68_149, s_68_152, s_68_153, s_68_156, s_68_158, s_68_159, eq_self, Nat.reduceLT, Nat.reduceLeDiff, Nat.reduceMod, Nat.reduceDiv, Nat.reduceAdd, Nat.reduceMul, Option.toList_some, Option.toList_none, List.cons_append, List.nil_append, List.append_nil, n10, n00, if_true, if_false, b0, b1, nI_add, true_and, and_true, and_self, sh_145, k_145_0, k_145_1, k_145_2, k_145_3, k_145_4, k_145_5, k_145_6, k_145_7, k_145_8, k_145_9, k_145_10, k_145_11, k_145_12, k_145_13, k_145_14, k_145_15, k_145_16, k_145_17, k_145_18, k_145_19, k_145_20, k_145_21, k_145_22, k_145_23, k_145_24, k_145_25, k_145_26, k_145_27, k_145_28, k_145_29, k_145_30, k_145_31, k_145_32, k_145_33, k_145_34, k_145_35, sh_146, sh_147, sh_148, sh_149, sh_150, sh_151, sh_152, sh_153, sh_154, sh_155, sh_156, sh_157, sh_158, sh_159, sh_160, sh_161, sh_162, sh_163, sh_164, sh_165, sh_166, sh_167, sh_168, sh_169, sh_170, sh_171, sh_172, sh_173, sh_174, sh_175, sh_176, sh_177, sh_178, sh_179, sh_180, sh_181, g_146, g_147, g_148, g_149, g_150, g_151, g_152, g_153, g_154, g_155, g_156, g_157, g_158, g_159, g_160, g_161, g_162, g_163, g_164, g_165, g_166, g_167, g_168, g_169, g_170, g_171, g_172, g_173, g_174, g_175, g_176, g_177, g_178, g_179, g_180, g_181, g_145_36, g_145_37, g_145_38, g_145_39, g_145_40, g_145_41, hw, hi, h7, Nat.add_assoc]
      by_cases h0 : rg M 33 (10 * n + k) = 0
      · simp only [h0, eq_self, Nat.reduceLT, Nat.reduceLeDiff, Nat.reduceMod, Nat.reduceDiv, Nat.reduceAdd, Nat.reduceMul, Option.toList_some, Option.toList_none, List.cons_append, List.nil_append, List.append_nil, n10, n00, if_true, if_false, b0, b1, nI_add, true_and, and_true, and_self, jdg, show ¬ (0 : Int32) = nI 7 by decide]
        exact ih (k + 1) call (by omega) (by omega) _ _
      · by_cases h1 : rg M 33 (10 * n + k) = nI 1
        · simp only [h0, h1, eq_self, Nat.reduceLT, Nat.reduceLeDiff, Nat.reduceMod, Nat.reduceDiv, Nat.reduceAdd, Nat.reduceMul, Option.toList_some, Option.toList_none, List.cons_append, List.nil_append, List.append_nil, n10, n00, if_true, if_false, b0, b1, nI_add, true_and, and_true, and_self, jdg, show ¬ nI 1 = nI 7 by decide, show ¬ nI 1 = 0 by decide]
          exact ih (k + 1) a (by omega) (by omega) _ _
        · by_cases h2 : rg M 33 (10 * n + k) = nI 2
          · simp only [h0, h1, h2, eq_self, Nat.reduceLT, Nat.reduceLeDiff, Nat.reduceMod, Nat.reduceDiv, Nat.reduceAdd, Nat.reduceMul, Option.toList_some, Option.toList_none, List.cons_append, List.nil_append, List.append_nil, n10, n00, if_true, if_false, b0, b1, nI_add, true_and, and_true, and_self, jdg, show ¬ nI 2 = nI 7 by decide, show ¬ nI 2 = 0 by decide, show ¬ nI 2 = nI 1 by decide]
            exact ih (k + 1) b (by omega) (by omega) _ _
          · by_cases h3 : rg M 33 (10 * n + k) = nI 3
            · simp only [h0, h1, h2, h3, eq_self, Nat.reduceLT, Nat.reduceLeDiff, Nat.reduceMod, Nat.reduceDiv, Nat.reduceAdd, Nat.reduceMul, Option.toList_some, Option.toList_none, List.cons_append, List.nil_append, List.append_nil, n10, n00, if_true, if_false, b0, b1, nI_add, true_and, and_true, and_self, jdg, show ¬ nI 3 = nI 7 by decide, show ¬ nI 3 = 0 by decide, show ¬ nI 3 = nI 1 by decide, show ¬ nI 3 = nI 2 by decide]
              exact ih (k + 1) _ (by omega) (by omega) _ _
            · by_cases h6 : rg M 33 (10 * n + k) = nI 6
              · obtain ⟨b', g1, g2, g3⟩ := hj (by rw [h6]; exact ⟨by decide, by decide⟩)
                simp only [h6, g2, eq_self, Nat.reduceLT, Nat.reduceLeDiff, Nat.reduceMod, Nat.reduceDiv, Nat.reduceAdd, Nat.reduceMul, Option.toList_some, Option.toList_none, List.cons_append, List.nil_append, List.append_nil, n10, n00, if_true, if_false, b0, b1, nI_add, true_and, and_true, and_self, jdg, show ¬ nI 6 = nI 7 by decide, show ¬ nI 6 = 0 by decide, show ¬ nI 6 = nI 1 by decide, show ¬ nI 6 = nI 2 by decide, show ¬ nI 6 = nI 3 by decide, true_or, nI_clamp (show b' < 2 ^ 31 by omega), Nat.add_assoc]
                exact ih (k + (b' + 1)) x (by omega) (by omega) _ _
              · by_cases h4 : rg M 33 (10 * n + k) = nI 4
                · obtain ⟨b', g1, g2, g3⟩ := hj (by rw [h4]; exact ⟨by decide, by decide⟩)
                  by_cases hx : x = rg M 34 (10 * n + k)
                  · simp only [h4, g2, ← hx, eq_self, Nat.reduceLT, Nat.reduceLeDiff, Nat.reduceMod, Nat.reduceDiv, Nat.reduceAdd, Nat.reduceMul, Option.toList_some, Option.toList_none, List.cons_append, List.nil_append, List.append_nil, n10, n00, if_true, if_false, b0, b1, nI_add, true_and, and_true, and_self, jdg, show ¬ nI 4 = nI 7 by decide, show ¬ nI 4 = 0 by decide, show ¬ nI 4 = nI 1 by decide, show ¬ nI 4 = nI 2 by decide, show ¬ nI 4 = nI 3 by decide, show ¬ nI 4 = nI 6 by decide, true_or, or_true, nI_clamp (show b' < 2 ^ 31 by omega), Nat.add_assoc]
                    exact ih (k + (b' + 1)) x (by omega) (by omega) _ _
                  · simp only [h4, hx, eq_self, Nat.reduceLT, Nat.reduceLeDiff, Nat.reduceMod, Nat.reduceDiv, Nat.reduceAdd, Nat.reduceMul, Option.toList_some, Option.toList_none, List.cons_append, List.nil_append, List.append_nil, n10, n00, if_true, if_false, b0, b1, nI_add, true_and, and_true, and_self, jdg, show ¬ nI 4 = nI 7 by decide, show ¬ nI 4 = 0 by decide, show ¬ nI 4 = nI 1 by decide, show ¬ nI 4 = nI 2 by decide, show ¬ nI 4 = nI 3 by decide, show ¬ nI 4 = nI 6 by decide, show ¬ nI 4 = nI 5 by decide, false_and, and_false, or_self]
                    exact ih (k + 1) x (by omega) (by omega) _ _
                · by_cases h5 : rg M 33 (10 * n + k) = nI 5
                  · obtain ⟨b', g1, g2, g3⟩ := hj (by rw [h5]; exact ⟨by decide, by decide⟩)
                    by_cases hx : x ≤ rg M 34 (10 * n + k)
                    · simp only [h5, hx, eq_self, Nat.reduceLT, Nat.reduceLeDiff, Nat.reduceMod, Nat.reduceDiv, Nat.reduceAdd, Nat.reduceMul, Option.toList_some, Option.toList_none, List.cons_append, List.nil_append, List.append_nil, n10, n00, if_true, if_false, b0, b1, nI_add, true_and, and_true, and_self, jdg, show ¬ nI 5 = nI 7 by decide, show ¬ nI 5 = 0 by decide, show ¬ nI 5 = nI 1 by decide, show ¬ nI 5 = nI 2 by decide, show ¬ nI 5 = nI 3 by decide, show ¬ nI 5 = nI 6 by decide, show ¬ nI 5 = nI 4 by decide, not_true, false_and, and_false, or_self]
                      exact ih (k + 1) x (by omega) (by omega) _ _
                    · simp only [h5, g2, hx, eq_self, Nat.reduceLT, Nat.reduceLeDiff, Nat.reduceMod, Nat.reduceDiv, Nat.reduceAdd, Nat.reduceMul, Option.toList_some, Option.toList_none, List.cons_append, List.nil_append, List.append_nil, n10, n00, if_true, if_false, b0, b1, nI_add, true_and, and_true, and_self, jdg, show ¬ nI 5 = nI 7 by decide, show ¬ nI 5 = 0 by decide, show ¬ nI 5 = nI 1 by decide, show ¬ nI 5 = nI 2 by decide, show ¬ nI 5 = nI 3 by decide, show ¬ nI 5 = nI 6 by decide, show ¬ nI 5 = nI 4 by decide, not_false_eq_true, false_and, false_or, or_true, nI_clamp (show b' < 2 ^ 31 by omega), Nat.add_assoc]
                      exact ih (k + (b' + 1)) x (by omega) (by omega) _ _
                  · simp only [h0, h1, h2, h3, h4, h5, h6, h7, eq_self, Nat.reduceLT, Nat.reduceLeDiff, Nat.reduceMod, Nat.reduceDiv, Nat.reduceAdd, Nat.reduceMul, Option.toList_some, Option.toList_none, List.cons_append, List.nil_append, List.append_nil, n10, n00, if_true, if_false, b0, b1, nI_add, true_and, and_true, and_self, jdg, false_and, or_self]
                    exact ih (k + 1) x (by omega) (by omega) _ _
theorem c_judge (hw : wf M) {n s : Nat} (hn : n < 4) (hs : s ≤ 10) (hsn : rg M 36 n = nI s) (hg : good (rg M) n s) (hws : WRs (rg M) n s) {call a b : Int32} : Vc d 68 [rf (some 145), .int (nI n), .int call, .int a, .int b] M Q = Q (some (.int (jdg (rg M) n call a b 10 0 0))) M := by
  have hs0 : 0 < s := Nat.pos_of_ne_zero hg.1
  have h := c_judge_l (d := d) (Q := Q) hw hn hs hsn hg hws (call := call) (a := a) (b := b) 10 0 0 hs0 (by omega) none none
  show V d 68 0 [some (rf (some 145)), some (.int (nI n)), some (.int call), some (.int a), some (.int b), none, none, none, none] [] M Q = _
  simp only [s_68_0, s_68_1, s_68_3, s_68_5, s_68_6, s_68_7, pk_mul]
  rw [show nI 0 = 0 from by decide]
  exact h
end
