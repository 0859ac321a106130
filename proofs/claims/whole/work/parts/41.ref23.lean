section
variable {d : Nat} {M : mH} {Q : Option Value → mH → Prop}
def WRq (r : RS) : Prop := ∀ q, q < 8 → ∃ m, m ≤ 3 ∧ r 15 q = nI m
/-- the plain calls -/
def plainR (r : RS) (p c N : Nat) (call a b : Int32) : Int32 × RS := if call = nI 0 then (r 26 p, r) else if call = nI 1 then fForkR r p c else if call = nI 2 then (nI 0, endR r p c (a &&& nI 255)) else if call = nI 3 then awtR (nI p) 16 0 0 r else if call = nI 15 then (if nI 0 ≤ a ∧ a ≤ nI 1 then sendR r (2 * c + a.toNatClampNeg) (r 15 (2 * c + a.toNatClampNeg)).toNatClampNeg b else (-3, r)) else if call = nI 16 then (if nI 0 ≤ a ∧ a ≤ nI 1 then takeR r (2 * c + a.toNatClampNeg) (r 15 (2 * c + a.toNatClampNeg)).toNatClampNeg else (-3, r)) else if call = nI 17 then look17 r c N a else (-13, r)
theorem c_plain (hw : wf M) {C p c N : Nat} {rk : Nat → Nat} {J : RS → Prop} (hC : C ≤ 4) (ho : WRo (rg M) C) (hm : WRm (rg M) C) (hpp : WRp (rg M) C) (hq : WRq (rg M)) (hp : p < 16) (hc : c < C) (hpc : rg M 25 p = nI c) (hJ : onWay c N rk J) (hj : J (folS c (rg M))) {call a b : Int32} : Den (d + 4) 85 [rf (some 145), .int (nI p), .int call, .int a, .int b] M (some (.int (plainR (rg M) p c N call a b).1)) (plainR (rg M) p c N call a b).2 := by
  have hc4 : c < 4 := by omega
  have hst : ∀ Q, Vc (d + 4) 85 [rf (some 145), .int (nI p), .int call, .int a, .int b] M Q = V (d + 4) 85 17 [some (rf (some 145)), some (.int (nI p)), some (.int call), some (.int a), some (.int b), some (.int (nI c)), some (.int (nI (2 * c) + a)), none, none] [.int call] M Q := by
    intro Q
    show V (d + 4) 85 0 [some (rf (some 145)), some (.int (nI p)), some (.int call), some (.int a), some (.int b), none, none, none, none] [] M Q = _
    simp only [s_85_0, s_85_1, s_85_4, s_85_5, s_85_6, s_85_8, s_85_9, s_85_11, s_85_12, s_85_13, s_85_14, s_85_16, eq_self, Nat.reduceLT, Nat.reduceLeDiff, Nat.reduceMod, Nat.reduceDiv, Nat.reduceAdd, Nat.reduceMul, Option.toList_some, Option.toList_none, List.cons_append, List.nil_append, List.append_nil, n10, n00, if_true, if_false, b0, b1, nI_add, true_and, and_true, and_self, sh_145, k_145_0, k_145_1, k_145_2, k_145_3, k_145_4, k_145_5, k_145_6, k_145_7, k_145_8, k_145_9, k_145_10, k_145_11, k_145_12, k_145_13, k_145_14, k_145_15, k_145_16, k_145_17, k_145_18, k_145_19, k_145_20, k_145_21, k_145_22, k_145_23, k_145_24, k_145_25, k_145_26, k_145_27, k_145_28, k_145_29, k_145_30, k_145_31, k_145_32, k_145_33, k_145_34, k_145_35, sh_146, sh_147, sh_148, sh_149, sh_150, sh_151, sh_152, sh_153, sh_154, sh_155, sh_156, sh_157, sh_158, sh_159, sh_160, sh_161, sh_162, sh_163, sh_164, sh_165, sh_166, sh_167, sh_168, sh_169, sh_170, sh_171, sh_172, sh_173, sh_174, sh_175, sh_176, sh_177, sh_178, sh_179, sh_180, sh_181, g_146, g_147, g_148, g_149, g_150, g_151, g_152, g_153, g_154, g_155, g_156, g_157, g_158, g_159, g_160, g_161, g_162, g_163, g_164, g_165, g_166, g_167, g_168, g_169, g_170, g_171, g_172, g_173, g_174, g_175, g_176, g_177, g_178, g_179, g_180, g_181, g_145_36, g_145_37, g_145_38, g_145_39, g_145_40, g_145_41, hw, hp, hpc, pk_mul]
  unfold plainR
  by_cases h0 : call = nI 0
  · subst h0
    refine ⟨M, fun Q => ?_, hw, rfl, rfl⟩
    rw [hst]
    simp only [s_85_17, s_85_104, s_85_105, s_85_108, s_85_109, s_85_110, eq_self, Nat.reduceLT, Nat.reduceLeDiff, Nat.reduceMod, Nat.reduceDiv, Nat.reduceAdd, Nat.reduceMul, Option.toList_some, Option.toList_none, List.cons_append, List.nil_append, List.append_nil, n10, n00, if_true, if_false, b0, b1, nI_add, true_and, and_true, and_self, sh_145, k_145_0, k_145_1, k_145_2, k_145_3, k_145_4, k_145_5, k_145_6, k_145_7, k_145_8, k_145_9, k_145_10, k_145_11, k_145_12, k_145_13, k_145_14, k_145_15, k_145_16, k_145_17, k_145_18, k_145_19, k_145_20, k_145_21, k_145_22, k_145_23, k_145_24, k_145_25, k_145_26, k_145_27, k_145_28, k_145_29, k_145_30, k_145_31, k_145_32, k_145_33, k_145_34, k_145_35, sh_146, sh_147, sh_148, sh_149, sh_150, sh_151, sh_152, sh_153, sh_154, sh_155, sh_156, sh_157, sh_158, sh_159, sh_160, sh_161, sh_162, sh_163, sh_164, sh_165, sh_166, sh_167, sh_168, sh_169, sh_170, sh_171, sh_172, sh_173, sh_174, sh_175, sh_176, sh_177, sh_178, sh_179, sh_180, sh_181, g_146, g_147, g_148, g_149, g_150, g_151, g_152, g_153, g_154, g_155, g_156, g_157, g_158, g_159, g_160, g_161, g_162, g_163, g_164, g_165, g_166, g_167, g_168, g_169, g_170, g_171, g_172, g_173, g_174, g_175, g_176, g_177, g_178, g_179, g_180, g_181, g_145_36, g_145_37, g_145_38, g_145_39, g_145_40, g_145_41, hw, hp]
  · by_cases h1 : call = nI 1
    · subst h1
      obtain ⟨M', g1, g2, g3, g4⟩ := c_fork (d := d) hw hC ho hm hpp hp hc hpc
      simp only [nI_sm (show 1 < 64 by decide) (show 0 < 64 by decide), Nat.reduceEqDiff, if_false, if_true]
      refine ⟨M', fun Q => ?_, g2, g3, g4⟩
      rw [hst]
      simp only [s_85_17, s_85_111, s_85_112, s_85_113 hw sh_145, s_85_116, g1, eq_self, Nat.reduceLT, Nat.reduceLeDiff, Nat.reduceMod, Nat.reduceDiv, Nat.reduceAdd, Nat.reduceMul, Option.toList_some, Option.toList_none, List.cons_append, List.nil_append, List.append_nil, n10, n00, if_true, if_false, b0, b1, nI_add, true_and, and_true, and_self, nI_sm, Nat.reduceEqDiff]
    · by_cases h2 : call = nI 2
      · subst h2
        obtain ⟨M', g1, g2, g3, g4⟩ := c_end (d := d + 2) hw hp hc4 hpc (how := a &&& nI 255)
        simp only [nI_sm (show 2 < 64 by decide) (show 0 < 64 by decide), nI_sm (show 2 < 64 by decide) (show 1 < 64 by decide), Nat.reduceEqDiff, if_false, if_true]
        refine ⟨M', fun Q => ?_, g2, g3, g4⟩
        rw [hst]
        simp only [s_85_17, s_85_117, s_85_118, s_85_119, s_85_120, s_85_123, s_85_124 hw sh_145, s_85_127, s_85_128, g1, eq_self, Nat.reduceLT, Nat.reduceLeDiff, Nat.reduceMod, Nat.reduceDiv, Nat.reduceAdd, Nat.reduceMul, Option.toList_some, Option.toList_none, List.cons_append, List.nil_append, List.append_nil, n10, n00, if_true, if_false, b0, b1, nI_add, true_and, and_true, and_self, nI_sm, Nat.reduceEqDiff]
      · by_cases h3 : call = nI 3
        · subst h3
          obtain ⟨M', g1, g2, g3, g4⟩ := c_await (d := d + 3) hw (pi := nI p)
          simp only [h0, h1, h2, if_false, if_true]
          refine ⟨M', fun Q => ?_, g2, g3, g4⟩
          rw [hst]
          simp only [s_85_17, s_85_129, s_85_130, s_85_131 hw sh_145, s_85_134, g1, eq_self, Nat.reduceLT, Nat.reduceLeDiff, Nat.reduceMod, Nat.reduceDiv, Nat.reduceAdd, Nat.reduceMul, Option.toList_some, Option.toList_none, List.cons_append, List.nil_append, List.append_nil, n10, n00, if_true, if_false, b0, b1, nI_add, true_and, and_true, and_self, nI_sm, Nat.reduceEqDiff]
        · by_cases h15 : call = nI 15
          · subst h15
            simp only [h0, h1, h2, h3, if_false, if_true]
            by_cases ha : nI 0 ≤ a ∧ a ≤ nI 1
            · rw [if_pos ha]
              obtain ⟨j, hj1, rfl⟩ := in_nI (by decide) ha
              have hq8 : 2 * c + j < 8 := by omega
              obtain ⟨m, hm3, hqm⟩ := hq _ hq8
              have e1 : (nI j).toNatClampNeg = j := nI_clamp (by omega)
              rw [e1]
              have e2 : (rg M 15 (2 * c + j)).toNatClampNeg = m := by rw [hqm, nI_clamp (by omega)]
              rw [e2]
              obtain ⟨M', g1, g2, g3, g4⟩ := c_send (d := d + 4) hw hq8 hm3 hqm (b := b) (l1 := some (.int (nI p))) (l2 := some (.int (nI 15))) (l3 := some (.int (nI j))) (l5 := some (.int (nI c))) (l7 := none) (l8 := none)
              refine ⟨M', fun Q => ?_, g2, g3, g4⟩
              rw [hst]
              simp only [s_85_17, s_85_135, s_85_136, s_85_137, s_85_138, c_is, ha, s_85_141, eq_self, Nat.reduceLT, Nat.reduceLeDiff, Nat.reduceMod, Nat.reduceDiv, Nat.reduceAdd, Nat.reduceMul, Option.toList_some, Option.toList_none, List.cons_append, List.nil_append, List.append_nil, n10, n00, if_true, if_false, b0, b1, nI_add, true_and, and_true, and_self, nI_sm, Nat.reduceEqDiff]
              exact g1 Q
            · rw [if_neg ha]
              refine ⟨M, fun Q => ?_, hw, rfl, rfl⟩
              rw [hst]
              simp only [s_85_17, s_85_135, s_85_136, s_85_137, s_85_138, c_is, ha, s_85_141, s_85_144, s_85_146, eq_self, Nat.reduceLT, Nat.reduceLeDiff, Nat.reduceMod, Nat.reduceDiv, Nat.reduceAdd, Nat.reduceMul, Option.toList_some, Option.toList_none, List.cons_append, List.nil_append, List.append_nil, n10, n00, if_true, if_false, b0, b1, nI_add, true_and, and_true, and_self, nI_sm, Nat.reduceEqDiff]
          · by_cases h16 : call = nI 16
            · subst h16
              simp only [h0, h1, h2, h3, h15, if_false, if_true]
              by_cases ha : nI 0 ≤ a ∧ a ≤ nI 1
              · rw [if_pos ha]
                obtain ⟨j, hj1, rfl⟩ := in_nI (by decide) ha
                have hq8 : 2 * c + j < 8 := by omega
                obtain ⟨m, hm3, hqm⟩ := hq _ hq8
                have e1 : (nI j).toNatClampNeg = j := nI_clamp (by omega)
                rw [e1]
                have e2 : (rg M 15 (2 * c + j)).toNatClampNeg = m := by rw [hqm, nI_clamp (by omega)]
                rw [e2]
                obtain ⟨M', g1, g2, g3, g4⟩ := c_take (d := d + 4) hw hq8 hm3 hqm (l1 := some (.int (nI p))) (l2 := some (.int (nI 16))) (l3 := some (.int (nI j))) (l4 := some (.int b)) (l5 := some (.int (nI c))) (l7 := none) (l8 := none)
                refine ⟨M', fun Q => ?_, g2, g3, g4⟩
                rw [hst]
                simp only [s_85_17, s_85_187, s_85_188, s_85_189, s_85_190, c_is, ha, s_85_193, eq_self, Nat.reduceLT, Nat.reduceLeDiff, Nat.reduceMod, Nat.reduceDiv, Nat.reduceAdd, Nat.reduceMul, Option.toList_some, Option.toList_none, List.cons_append, List.nil_append, List.append_nil, n10, n00, if_true, if_false, b0, b1, nI_add, true_and, and_true, and_self, nI_sm, Nat.reduceEqDiff]
                exact g1 Q
              · rw [if_neg ha]
                refine ⟨M, fun Q => ?_, hw, rfl, rfl⟩
                rw [hst]
                simp only [s_85_17, s_85_187, s_85_188, s_85_189, s_85_190, c_is, ha, s_85_193, s_85_196, s_85_198, eq_self, Nat.reduceLT, Nat.reduceLeDiff, Nat.reduceMod, Nat.reduceDiv, Nat.reduceAdd, Nat.reduceMul, Option.toList_some, Option.toList_none, List.cons_append, List.nil_append, List.append_nil, n10, n00, if_true, if_false, b0, b1, nI_add, true_and, and_true, and_self, nI_sm, Nat.reduceEqDiff]
            · by_cases h17 : call = nI 17
              · subst h17
                simp only [h0, h1, h2, h3, h15, h16, if_false, if_true]
                obtain ⟨M', g1, g2, g3, g4⟩ := c_look17 (d := d + 1) hw hc4 hJ hj (a := a) (l1 := some (.int (nI p))) (l2 := some (.int (nI 17))) (l4 := some (.int b)) (l6 := some (.int (nI (2 * c) + a))) (l7 := none) (l8 := none)
                refine ⟨M', fun Q => ?_, g2, g3, g4⟩
                rw [hst]
                simp only [s_85_17, eq_self, Nat.reduceLT, Nat.reduceLeDiff, Nat.reduceMod, Nat.reduceDiv, Nat.reduceAdd, Nat.reduceMul, Option.toList_some, Option.toList_none, List.cons_append, List.nil_append, List.append_nil, n10, n00, if_true, if_false, b0, b1, nI_add, true_and, and_true, and_self, nI_sm, Nat.reduceEqDiff]
                exact g1 Q
              · simp only [h0, h1, h2, h3, h15, h16, h17, if_false]
                refine ⟨M, fun Q => ?_, hw, rfl, rfl⟩
                rw [hst]
                simp only [s_85_17, h0, h1, h2, h3, h15, h16, h17, s_85_357, s_85_359, if_false, ite_self]
/-- the calls of rights -/
def rightsR (r : RS) (p c k : Nat) (a b : Int32) : Int32 × RS := match k with
  | 9 => userR r p c a
  | 10 => if (nI 0 ≤ a ∧ a ≤ nI 3) ∧ (nI 0 ≤ b ∧ b ≤ nI 255) then powR r p a.toNatClampNeg b else (-3, r)
  | 11 => killR r p c a
  | _ => filtR r p (r 29 p).toNatClampNeg a
theorem c_rights (hw : wf M) (hg : WRg (rg M)) (hh : WRh (rg M)) {p c : Nat} (hp : p < 16) (hc : c < 4) (hpc : rg M 25 p = nI c) {k : Nat} (hk : k = 9 ∨ k = 10 ∨ k = 11 ∨ k = 14) {a b : Int32} : Den (d + 3) 93 [rf (some 145), .int (nI p), .int (nI k), .int a, .int b] M (some (.int (rightsR (rg M) p c k a b).1)) (rightsR (rg M) p c k a b).2 := by
  have hst : ∀ Q, Vc (d + 3) 93 [rf (some 145), .int (nI p), .int (nI k), .int a, .int b] M Q = V (d + 3) 93 14 [some (rf (some 145)), some (.int (nI p)), some (.int (nI k)), some (.int a), some (.int b), some (.int (nI c)), some (.int (nI (4 * p))), none] [.int (nI k)] M Q := by
    intro Q
    show V (d + 3) 93 0 [some (rf (some 145)), some (.int (nI p)), some (.int (nI k)), some (.int a), some (.int b), none, none, none] [] M Q = _
    simp only [s_93_0, s_93_1, s_93_4, s_93_5, s_93_6, s_93_8, s_93_9, s_93_10, s_93_11, s_93_13, eq_self, Nat.reduceLT, Nat.reduceLeDiff, Nat.reduceMod, Nat.reduceDiv, Nat.reduceAdd, Nat.reduceMul, Option.toList_some, Option.toList_none, List.cons_append, List.nil_append, List.append_nil, n10, n00, if_true, if_false, b0, b1, nI_add, true_and, and_true, and_self, sh_145, k_145_0, k_145_1, k_145_2, k_145_3, k_145_4, k_145_5, k_145_6, k_145_7, k_145_8, k_145_9, k_145_10, k_145_11, k_145_12, k_145_13, k_145_14, k_145_15, k_145_16, k_145_17, k_145_18, k_145_19, k_145_20, k_145_21, k_145_22, k_145_23, k_145_24, k_145_25, k_145_26, k_145_27, k_145_28, k_145_29, k_145_30, k_145_31, k_145_32, k_145_33, k_145_34, k_145_35, sh_146, sh_147, sh_148, sh_149, sh_150, sh_151, sh_152, sh_153, sh_154, sh_155, sh_156, sh_157, sh_158, sh_159, sh_160, sh_161, sh_162, sh_163, sh_164, sh_165, sh_166, sh_167, sh_168, sh_169, sh_170, sh_171, sh_172, sh_173, sh_174, sh_175, sh_176, sh_177, sh_178, sh_179, sh_180, sh_181, g_146, g_147, g_148, g_149, g_150, g_151, g_152, g_153, g_154, g_155, g_156, g_157, g_158, g_159, g_160, g_161, g_162, g_163, g_164, g_165, g_166, g_167, g_168, g_169, g_170, g_171, g_172, g_173, g_174, g_175, g_176, g_177, g_178, g_179, g_180, g_181, g_145_36, g_145_37, g_145_38, g_145_39, g_145_40, g_145_41, hw, hp, hpc, pk_mul]
  rcases hk with rfl | rfl | rfl | rfl
  · obtain ⟨M', g1, g2, g3, g4⟩ := c_user (d := d + 2) hw hp hc (a := a) (b := b) (l7 := none)
    refine ⟨M', fun Q => ?_, g2, g3, g4⟩
    rw [hst]
    simp only [s_93_14, eq_self, Nat.reduceLT, Nat.reduceLeDiff, Nat.reduceMod, Nat.reduceDiv, Nat.reduceAdd, Nat.reduceMul, Option.toList_some, Option.toList_none, List.cons_append, List.nil_append, List.append_nil, n10, n00, if_true, if_false, b0, b1, nI_add, true_and, and_true, and_self, nI_sm, Nat.reduceEqDiff]
    exact g1 Q
  · simp only [rightsR]
    by_cases h : (nI 0 ≤ a ∧ a ≤ nI 3) ∧ (nI 0 ≤ b ∧ b ≤ nI 255)
    · rw [if_pos h]
      obtain ⟨j, hj, rfl⟩ := in_nI (by decide) h.1
      rw [nI_clamp (show j < 2 ^ 31 by omega)]
      obtain ⟨M', g1, g2, g3, g4⟩ := c_pow_in (d := d + 1) hw hp (show j < 4 by omega) h.2
      refine ⟨M', fun Q => ?_, g2, g3, g4⟩
      rw [hst]
      simp only [s_93_14, s_93_129, s_93_130, s_93_132, s_93_133, s_93_135 hw sh_145, s_93_138, g1, eq_self, Nat.reduceLT, Nat.reduceLeDiff, Nat.reduceMod, Nat.reduceDiv, Nat.reduceAdd, Nat.reduceMul, Option.toList_some, Option.toList_none, List.cons_append, List.nil_append, List.append_nil, n10, n00, if_true, if_false, b0, b1, nI_add, true_and, and_true, and_self, nI_sm, Nat.reduceEqDiff]
    · rw [if_neg h]
      refine ⟨M, fun Q => ?_, hw, rfl, rfl⟩
      rw [hst]
      simp only [s_93_14, s_93_129, s_93_130, s_93_132, s_93_133, s_93_135 hw sh_145, s_93_138, c_pow_no hw h, eq_self, Nat.reduceLT, Nat.reduceLeDiff, Nat.reduceMod, Nat.reduceDiv, Nat.reduceAdd, Nat.reduceMul, Option.toList_some, Option.toList_none, List.cons_append, List.nil_append, List.append_nil, n10, n00, if_true, if_false, b0, b1, nI_add, true_and, and_true, and_self, nI_sm, Nat.reduceEqDiff]
  · obtain ⟨M', g1, g2, g3, g4⟩ := c_kill2 (d := d + 1) hw hp hc (a := a) (b := b) (l6 := some (.int (nI (4 * p)))) (l7 := none)
    refine ⟨M', fun Q => ?_, g2, g3, g4⟩
    rw [hst]
    simp only [s_93_14, eq_self, Nat.reduceLT, Nat.reduceLeDiff, Nat.reduceMod, Nat.reduceDiv, Nat.reduceAdd, Nat.reduceMul, Option.toList_some, Option.toList_none, List.cons_append, List.nil_append, List.append_nil, n10, n00, if_true, if_false, b0, b1, nI_add, true_and, and_true, and_self, nI_sm, Nat.reduceEqDiff]
    exact g1 Q
  · obtain ⟨m, hm, hpm⟩ := hh p hp
    simp only [rightsR]
    rw [hpm, nI_clamp (show m < 2 ^ 31 by omega)]
    obtain ⟨M', g1, g2, g3, g4⟩ := c_filt (d := d + 1) hw hg hp hm hpm (a := a) (l2 := some (.int (nI 14))) (l4 := some (.int b)) (l5 := some (.int (nI c))) (l6 := some (.int (nI (4 * p)))) (l7 := none)
    refine ⟨M', fun Q => ?_, g2, g3, g4⟩
    rw [hst]
    simp only [s_93_14, eq_self, Nat.reduceLT, Nat.reduceLeDiff, Nat.reduceMod, Nat.reduceDiv, Nat.reduceAdd, Nat.reduceMul, Option.toList_some, Option.toList_none, List.cons_append, List.nil_append, List.append_nil, n10, n00, if_true, if_false, b0, b1, nI_add, true_and, and_true, and_self, nI_sm, Nat.reduceEqDiff]
    exact g1 Q
end
