section
variable {d : Nat} {M : mH} {Q : Option Value → mH → Prop}
def start2 (r : RS) (c : Nat) (pw f : Int32) : Int32 × RS := if r 17 c = 0 then (match ffind (pFreeP r) 0 16 with
    | none => (-5, r)
    | some p => if ovr r true 4 (some c) = true then (-6, r) else (nI p, staR r p c pw f (if 0 ≤ f then nI 1 else nI 0))) else (-7, r)
theorem c_rstart_no (hw : wf M) (hg : WRg (rg M)) {c pw f : Int32} (h : ¬ ((nI 0 ≤ c ∧ c ≤ rg M 0 36 - nI 1) ∧ (nI 0 ≤ pw ∧ pw ≤ nI 255) ∧ (f = -1 ∨ goodX (rg M) f))) : Vc (d + 3) 71 [rf (some 145), .int c, .int pw, .int f] M Q = Q (some (.int (-1))) M := by
  show V (d + 3) 71 0 [some (rf (some 145)), some (.int c), some (.int pw), some (.int f), none, none] [] M Q = _
  simp only [s_71_0, s_71_1, s_71_2 hw sh_145, s_71_5, s_71_8, s_71_9, s_71_10, s_71_13, s_71_16, s_71_19, s_71_20, s_71_21, s_71_24, s_71_25, s_71_26 hw sh_145, s_71_29, s_71_32, s_71_33, c_isCage hw, c_is, c_isGood hw hg, eq_self, Nat.reduceLT, Nat.reduceLeDiff, Nat.reduceMod, Nat.reduceDiv, Nat.reduceAdd, Nat.reduceMul, Option.toList_some, Option.toList_none, List.cons_append, List.nil_append, List.append_nil, n10, n00, if_true, if_false, b0, b1, nI_add, true_and, and_true, and_self]
  by_cases h1 : nI 0 ≤ c ∧ c ≤ rg M 0 36 - nI 1
  · by_cases h2 : nI 0 ≤ pw ∧ pw ≤ nI 255
    · have h3 : ¬ f = -1 := fun z => h ⟨h1, h2, Or.inl z⟩
      have h4 : ¬ goodX (rg M) f := fun z => h ⟨h1, h2, Or.inr z⟩
      rw [if_pos h1, if_pos h2, if_neg h3, if_neg h4]
    · rw [if_pos h1, if_neg h2]
  · rw [if_neg h1]
theorem c_rstart_in (hw : wf M) (hg : WRg (rg M)) {C : Nat} (hC : C ≤ 4) (hCn : rg M 0 36 = nI C) (ho : WRo (rg M) C) (hm : WRm (rg M) C) (hpp : WRp (rg M) C) {c : Nat} (hc : c < C) {pw f : Int32} (h2 : nI 0 ≤ pw ∧ pw ≤ nI 255) (h3 : f = -1 ∨ goodX (rg M) f) : Den (d + 3) 71 [rf (some 145), .int (nI c), .int pw, .int f] M (some (.int (start2 (rg M) c pw f).1)) (start2 (rg M) c pw f).2 := by
  have hin : nI 0 ≤ nI c ∧ nI c ≤ nI C - nI 1 := ⟨nI_le (Nat.zero_le _) (by omega), by rw [pk_sub (by omega)]; exact nI_le (by omega) (by omega)⟩
  have hc4 : c < 4 := by omega
  have ho' := fun (Q : Option Value → mH → Prop) => c_isOver (d := d) (M := M) (Q := Q) hw hC ho hm hpp (b := true) hc
  simp only [cond_true] at ho'
  have hst : ∀ Q, Vc (d + 3) 71 [rf (some 145), .int (nI c), .int pw, .int f] M Q = V (d + 3) 71 34 [some (rf (some 145)), some (.int (nI c)), some (.int pw), some (.int f), none, none] [] M Q := by
    intro Q
    show V (d + 3) 71 0 [some (rf (some 145)), some (.int (nI c)), some (.int pw), some (.int f), none, none] [] M Q = _
    simp only [s_71_0, s_71_1, s_71_2 hw sh_145, s_71_5, s_71_8, s_71_9, s_71_10, s_71_13, s_71_16, s_71_19, s_71_20, s_71_21, s_71_24, s_71_25, s_71_26 hw sh_145, s_71_29, c_isCage hw, c_is, c_isGood hw hg, hCn, hin, h2, eq_self, Nat.reduceLT, Nat.reduceLeDiff, Nat.reduceMod, Nat.reduceDiv, Nat.reduceAdd, Nat.reduceMul, Option.toList_some, Option.toList_none, List.cons_append, List.nil_append, List.append_nil, n10, n00, if_true, if_false, b0, b1, nI_add, true_and, and_true, and_self]
    rcases h3 with h | h
    · rw [if_pos h]
    · rw [if_pos h, ite_self]
  unfold start2
  by_cases h17 : rg M 17 c = 0
  · rw [if_pos h17]
    cases hf : ffind (pFreeP (rg M)) 0 16 with
    | none =>
      refine ⟨M, fun Q => ?_, hw, rfl, rfl⟩
      rw [hst]
      simp only [s_71_34, s_71_35, s_71_38, s_71_39, s_71_40, s_71_46, s_71_47 hw sh_145, s_71_50, s_71_52, s_71_54, s_71_57, s_71_59, c_freeProcess hw, hf, oI, eq_self, Nat.reduceLT, Nat.reduceLeDiff, Nat.reduceMod, Nat.reduceDiv, Nat.reduceAdd, Nat.reduceMul, Option.toList_some, Option.toList_none, List.cons_append, List.nil_append, List.append_nil, n10, n00, if_true, if_false, b0, b1, nI_add, true_and, and_true, and_self, sh_145, k_145_0, k_145_1, k_145_2, k_145_3, k_145_4, k_145_5, k_145_6, k_145_7, k_145_8, k_145_9, k_145_10, k_145_11, k_145_12, k_145_13, k_145_14, k_145_15, k_145_16, k_145_17, k_145_18, k_145_19, k_145_20, k_145_21, k_145_22, k_145_23, k_145_24, k_145_25, k_145_26, k_145_27, k_145_28, k_145_29, k_145_30, k_145_31, k_145_32, k_145_33, k_145_34, k_145_35, sh_146, sh_147, sh_148, sh_149, sh_150, sh_151, sh_152, sh_153, sh_154, sh_155, sh_156, sh_157, sh_158, sh_159, sh_160, sh_161, sh_162, sh_163, sh_164, sh_165, sh_166, sh_167, sh_168, sh_169, sh_170, sh_171, sh_172, sh_173, sh_174, sh_175, sh_176, sh_177, sh_178, sh_179, sh_180, sh_181, g_146, g_147, g_148, g_149, g_150, g_151, g_152, g_153, g_154, g_155, g_156, g_157, g_158, g_159, g_160, g_161, g_162, g_163, g_164, g_165, g_166, g_167, g_168, g_169, g_170, g_171, g_172, g_173, g_174, g_175, g_176, g_177, g_178, g_179, g_180, g_181, g_145_36, g_145_37, g_145_38, g_145_39, g_145_40, g_145_41, hw, hc4, h17, show ¬ (0 : Int32) ≤ -1 by decide]
    | some p =>
      obtain ⟨-, hp, -⟩ := ffind_in hf
      have hp : p < 16 := by omega
      dsimp only
      by_cases hov : ovr (rg M) true 4 (some c) = true
      · rw [if_pos hov]
        refine ⟨M, fun Q => ?_, hw, rfl, rfl⟩
        rw [hst]
        simp only [s_71_34, s_71_35, s_71_38, s_71_39, s_71_40, s_71_46, s_71_47 hw sh_145, s_71_50, s_71_52, s_71_54, s_71_60, s_71_61, s_71_62, s_71_63 hw sh_145, s_71_66, s_71_69, s_71_71, c_freeProcess hw, hf, oI, ho', hov, nI_pos' (show p < 2 ^ 31 by omega), eq_self, Nat.reduceLT, Nat.reduceLeDiff, Nat.reduceMod, Nat.reduceDiv, Nat.reduceAdd, Nat.reduceMul, Option.toList_some, Option.toList_none, List.cons_append, List.nil_append, List.append_nil, n10, n00, if_true, if_false, b0, b1, nI_add, true_and, and_true, and_self, sh_145, k_145_0, k_145_1, k_145_2, k_145_3, k_145_4, k_145_5, k_145_6, k_145_7, k_145_8, k_145_9, k_145_10, k_145_11, k_145_12, k_145_13, k_145_14, k_145_15, k_145_16, k_145_17, k_145_18, k_145_19, k_145_20, k_145_21, k_145_22, k_145_23, k_145_24, k_145_25, k_145_26, k_145_27, k_145_28, k_145_29, k_145_30, k_145_31, k_145_32, k_145_33, k_145_34, k_145_35, sh_146, sh_147, sh_148, sh_149, sh_150, sh_151, sh_152, sh_153, sh_154, sh_155, sh_156, sh_157, sh_158, sh_159, sh_160, sh_161, sh_162, sh_163, sh_164, sh_165, sh_166, sh_167, sh_168, sh_169, sh_170, sh_171, sh_172, sh_173, sh_174, sh_175, sh_176, sh_177, sh_178, sh_179, sh_180, sh_181, g_146, g_147, g_148, g_149, g_150, g_151, g_152, g_153, g_154, g_155, g_156, g_157, g_158, g_159, g_160, g_161, g_162, g_163, g_164, g_165, g_166, g_167, g_168, g_169, g_170, g_171, g_172, g_173, g_174, g_175, g_176, g_177, g_178, g_179, g_180, g_181, g_145_36, g_145_37, g_145_38, g_145_39, g_145_40, g_145_41, hw, hc4, h17]
      · rw [if_neg hov]
        obtain ⟨M', g1, g2, g3, g4⟩ := c_sta (d := d + 2) hw hp hc4 (pw := pw) (f := f)
        refine ⟨M', fun Q => ?_, g2, g3, g4⟩
        rw [hst]
        simp only [s_71_34, s_71_35, s_71_38, s_71_39, s_71_40, s_71_46, s_71_47 hw sh_145, s_71_50, s_71_52, s_71_54, s_71_60, s_71_61, s_71_62, s_71_63 hw sh_145, s_71_66, c_freeProcess hw, hf, oI, ho', hov, nI_pos' (show p < 2 ^ 31 by omega), eq_self, Nat.reduceLT, Nat.reduceLeDiff, Nat.reduceMod, Nat.reduceDiv, Nat.reduceAdd, Nat.reduceMul, Option.toList_some, Option.toList_none, List.cons_append, List.nil_append, List.append_nil, n10, n00, if_true, if_false, b0, b1, nI_add, true_and, and_true, and_self, sh_145, k_145_0, k_145_1, k_145_2, k_145_3, k_145_4, k_145_5, k_145_6, k_145_7, k_145_8, k_145_9, k_145_10, k_145_11, k_145_12, k_145_13, k_145_14, k_145_15, k_145_16, k_145_17, k_145_18, k_145_19, k_145_20, k_145_21, k_145_22, k_145_23, k_145_24, k_145_25, k_145_26, k_145_27, k_145_28, k_145_29, k_145_30, k_145_31, k_145_32, k_145_33, k_145_34, k_145_35, sh_146, sh_147, sh_148, sh_149, sh_150, sh_151, sh_152, sh_153, sh_154, sh_155, sh_156, sh_157, sh_158, sh_159, sh_160, sh_161, sh_162, sh_163, sh_164, sh_165, sh_166, sh_167, sh_168, sh_169, sh_170, sh_171, sh_172, sh_173, sh_174, sh_175, sh_176, sh_177, sh_178, sh_179, sh_180, sh_181, g_146, g_147, g_148, g_149, g_150, g_151, g_152, g_153, g_154, g_155, g_156, g_157, g_158, g_159, g_160, g_161, g_162, g_163, g_164, g_165, g_166, g_167, g_168, g_169, g_170, g_171, g_172, g_173, g_174, g_175, g_176, g_177, g_178, g_179, g_180, g_181, g_145_36, g_145_37, g_145_38, g_145_39, g_145_40, g_145_41, hw, hc4, h17]
        exact g1 Q
  · rw [if_neg h17]
    refine ⟨M, fun Q => ?_, hw, rfl, rfl⟩
    rw [hst]
    simp only [s_71_34, s_71_35, s_71_38, s_71_39, s_71_40, s_71_43, s_71_45, eq_self, Nat.reduceLT, Nat.reduceLeDiff, Nat.reduceMod, Nat.reduceDiv, Nat.reduceAdd, Nat.reduceMul, Option.toList_some, Option.toList_none, List.cons_append, List.nil_append, List.append_nil, n10, n00, if_true, if_false, b0, b1, nI_add, true_and, and_true, and_self, sh_145, k_145_0, k_145_1, k_145_2, k_145_3, k_145_4, k_145_5, k_145_6, k_145_7, k_145_8, k_145_9, k_145_10, k_145_11, k_145_12, k_145_13, k_145_14, k_145_15, k_145_16, k_145_17, k_145_18, k_145_19, k_145_20, k_145_21, k_145_22, k_145_23, k_145_24, k_145_25, k_145_26, k_145_27, k_145_28, k_145_29, k_145_30, k_145_31, k_145_32, k_145_33, k_145_34, k_145_35, sh_146, sh_147, sh_148, sh_149, sh_150, sh_151, sh_152, sh_153, sh_154, sh_155, sh_156, sh_157, sh_158, sh_159, sh_160, sh_161, sh_162, sh_163, sh_164, sh_165, sh_166, sh_167, sh_168, sh_169, sh_170, sh_171, sh_172, sh_173, sh_174, sh_175, sh_176, sh_177, sh_178, sh_179, sh_180, sh_181, g_146, g_147, g_148, g_149, g_150, g_151, g_152, g_153, g_154, g_155, g_156, g_157, g_158, g_159, g_160, g_161, g_162, g_163, g_164, g_165, g_166, g_167, g_168, g_169, g_170, g_171, g_172, g_173, g_174, g_175, g_176, g_177, g_178, g_179, g_180, g_181, g_145_36, g_145_37, g_145_38, g_145_39, g_145_40, g_145_41, hw, hc4, h17]
/-! the calls with PATHS, over what one must know of the ways (J) -/
theorem fol_J {c N : Nat} {rk : Nat → Nat} {J : RS → Prop} (hJ : onWay c N rk J) {p : Int32} : ∀ f k r, J r → J (folR c N p f k r).2 := by
  intro f
  induction f with
  | zero => intro k r h; exact h
  | succ f ih =>
    intro k r h
    obtain ⟨-, -, -, -, hju, hjc⟩ := hJ r h
    by_cases h1 : nib p k = nI 15
    · rw [folR, if_pos h1]; exact ih _ _ hju
    · by_cases h2 : r 4 (r 0 40).toNatClampNeg = 0
      · cases h3 : ffind (pFind r (r 0 40) (nib p k)) 1 31 with
        | none => rw [folR, if_neg h1, if_pos h2, h3]; exact h
        | some n => rw [folR, if_neg h1, if_pos h2, h3]; exact ih _ _ (hjc _ n h2 h3)
      · rw [folR, if_neg h1, if_neg h2]; exact h
theorem foll_J {c N : Nat} {rk : Nat → Nat} {J : RS → Prop} (hJ : onWay c N rk J) {p : Int32} {m : Nat} {r : RS} (h : J (folS c r)) : J (follR c N p m r).2 := by
  unfold follR
  split
  · exact fol_J hJ _ _ _ h
  · exact h
theorem foll_at {c N : Nat} {rk : Nat → Nat} {J : RS → Prop} (hJ : onWay c N rk J) {p : Int32} {m : Nat} {r : RS} (h : J (folS c r)) : ∃ b, b < 32 ∧ (follR c N p m r).2 0 40 = nI b := (hJ _ (foll_J hJ h)).1
/-- LOOK -/
def lookP (w : RS) (c : Nat) : Int32 := (if usrOf w c (w 5 (w 0 40).toNatClampNeg) then w 5 (w 0 40).toNatClampNeg - w 9 c else nI 255) + nI 256 * w 4 (w 0 40).toNatClampNeg
def look17 (r : RS) (c N : Nat) (a : Int32) : Int32 × RS := if (follR c N a (nms a) r).1 = true then (lookP (follR c N a (nms a) r).2 c, (follR c N a (nms a) r).2) else (-2, (follR c N a (nms a) r).2)
theorem c_look17 (hw : wf M) {c N : Nat} (hc : c < 4) {rk : Nat → Nat} {J : RS → Prop} (hJ : onWay c N rk J) (hj : J (folS c (rg M))) {a : Int32} {l1 l2 l4 l6 l7 l8 : Option Value} : ∃ M', (∀ Q, V (d + 3) 85 284 [some (rf (some 145)), l1, l2, some (.int a), l4, some (.int (nI c)), l6, l7, l8] [] M Q = Q (some (.int (look17 (rg M) c N a).1)) M') ∧ wf M' ∧ rg M' = (look17 (rg M) c N a).2 ∧ cg M' = cg M := by
  obtain ⟨M1, g1, g2, g3, g4⟩ := c_follow (d := d) hw hc hJ hj (p := a) (m := nms a) (by have := nms_le (p := a); omega)
  obtain ⟨b, hb, hbv⟩ := foll_at hJ (p := a) (m := nms a) hj
  have hat : rg M1 0 40 = nI b := by rw [g3]; exact hbv
  have hcl : (rg M1 0 40).toNatClampNeg = b := by rw [hat, nI_clamp (by omega)]
  have hst : ∀ Q, V (d + 3) 85 284 [some (rf (some 145)), l1, l2, some (.int a), l4, some (.int (nI c)), l6, l7, l8] [] M Q = V (d + 3) 85 295 [some (rf (some 145)), l1, l2, some (.int a), l4, some (.int (nI c)), l6, l7, l8] [.int (bI (follR c N a (nms a) (rg M)).1)] M1 Q := by
    intro Q
    simp only [s_85_284, s_85_285, s_85_287, s_85_288, s_85_289, c_names, s_85_292 hw sh_145, g1, eq_self, Nat.reduceLT, Nat.reduceLeDiff, Nat.reduceMod, Nat.reduceDiv, Nat.reduceAdd, Nat.reduceMul, Option.toList_some, Option.toList_none, List.cons_append, List.nil_append, List.append_nil, n10, n00, if_true, if_false, b0, b1, nI_add, true_and, and_true, and_self]
  unfold look17
  cases hok : (follR c N a (nms a) (rg M)).1 with
  | false =>
    refine ⟨M1, fun Q => ?_, g2, by rw [g3]; rfl, g4⟩
    rw [hst, hok]
    simp only [bI, cond_false, s_85_295, s_85_298, s_85_300, eq_self, Nat.reduceLT, Nat.reduceLeDiff, Nat.reduceMod, Nat.reduceDiv, Nat.reduceAdd, Nat.reduceMul, Option.toList_some, Option.toList_none, List.cons_append, List.nil_append, List.append_nil, n10, n00, if_true, if_false, b0, b1, nI_add, true_and, and_true, and_self, Bool.false_eq_true]
  | true =>
    refine ⟨M1, fun Q => ?_, g2, by rw [g3]; rfl, g4⟩
    rw [hst, hok]
    simp only [bI, cond_true, s_85_295, s_85_301, s_85_302, s_85_304, s_85_305, s_85_308, s_85_309, s_85_312, s_85_313, s_85_316, s_85_319, s_85_320, s_85_323, s_85_324, s_85_327, s_85_328, s_85_329, s_85_332, s_85_334, s_85_335, s_85_336, s_85_339, s_85_342, s_85_345, s_85_346, s_85_349, s_85_350, s_85_353, s_85_354, s_85_355, s_85_356, c_isUserOf g2 hc, eq_self, Nat.reduceLT, Nat.reduceLeDiff, Nat.reduceMod, Nat.reduceDiv, Nat.reduceAdd, Nat.reduceMul, Option.toList_some, Option.toList_none, List.cons_append, List.nil_append, List.append_nil, n10, n00, if_true, if_false, b0, b1, nI_add, true_and, and_true, and_self, sh_145, k_145_0, k_145_1, k_145_2, k_145_3, k_145_4, k_145_5, k_145_6, k_145_7, k_145_8, k_145_9, k_145_10, k_145_11, k_145_12, k_145_13, k_145_14, k_145_15, k_145_16, k_145_17, k_145_18, k_145_19, k_145_20, k_145_21, k_145_22, k_145_23, k_145_24, k_145_25, k_145_26, k_145_27, k_145_28, k_145_29, k_145_30, k_145_31, k_145_32, k_145_33, k_145_34, k_145_35, sh_146, sh_147, sh_148, sh_149, sh_150, sh_151, sh_152, sh_153, sh_154, sh_155, sh_156, sh_157, sh_158, sh_159, sh_160, sh_161, sh_162, sh_163, sh_164, sh_165, sh_166, sh_167, sh_168, sh_169, sh_170, sh_171, sh_172, sh_173, sh_174, sh_175, sh_176, sh_177, sh_178, sh_179, sh_180, sh_181, g_146, g_147, g_148, g_149, g_150, g_151, g_152, g_153, g_154, g_155, g_156, g_157, g_158, g_159, g_160, g_161, g_162, g_163, g_164, g_165, g_166, g_167, g_168, g_169, g_170, g_171, g_172, g_173, g_174, g_175, g_176, g_177, g_178, g_179, g_180, g_181, g_145_36, g_145_37, g_145_38, g_145_39, g_145_40, g_145_41, g2, hat, hb, hc, lookP, ← g3, hcl, nI_clamp (show b < 2 ^ 31 by omega)]
    by_cases hu : usrOf (rg M1) c (rg M1 5 b)
    · rw [if_pos hu, if_pos hu]
    · rw [if_neg hu, if_neg hu]
end
