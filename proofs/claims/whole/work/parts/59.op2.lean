section
variable {d : Nat} {M : mH} {Q : Option Value → mH → Prop} {C t : Nat} {mp : MP} {I : CI} {O : CO} {r : RS}
theorem kb_cageAt (hw : wf M) {C' c : Nat} (h : ig M 0 0 6 = nI C') (hC : C' ≤ 4) (hc : c < C') : Vc d 32 [rf (some 1), .int (nI c)] M Q = Q (some (rf (some (37 + 10 * c)))) M := by
  show V d 32 0 [some (rf (some 1)), some (.int (nI c))] [] M Q = _
  have h4 : c < 4 := by omega
  simp only [s_32_0, s_32_1, s_32_4, s_32_5, s_32_6, s_32_9, s_32_12, s_32_13, s_32_14, s_32_17, s_32_18, s_32_21, s_32_22, s_32_23, s_32_26, s_32_27, eq_self, Nat.reduceLT, Nat.reduceLeDiff, Nat.reduceMod, Nat.reduceDiv, Nat.reduceAdd, Nat.reduceMul, Option.toList_some, Option.toList_none, List.cons_append, List.nil_append, List.append_nil, n10, n00, if_true, if_false, b0, b1, nI_add, true_and, and_true, and_self, sh_1, sh_2, sh_3, sh_36, sh_77, sh_126, k_1_0, k_1_1, k_1_2, k_1_3, k_1_4, k_1_5, k_2_0, sh_node, sh_cage, sh_cmts, sh_mrow, sh_que, sh_qv, sh_task, sh_tpow, sh_thld, sh_filt, sh_fop, sh_ffs, sh_fsc, sh_walk, ka_nodes, ka_cages, ka_tasks, ka_filts, kf_node_0, kf_cage_0, kf_cage_9, kf_task_0, kf_task_6, kf_task_7, kf_filt_0, kf_filt_1, kf_filt_2, kf_que, kf_cage_11, kf_cage_12, gi_K, gi_node1, gr_node, gi_cage1, gr_cage1, gr_cmts, gi_task1, gr_task1, gi_tpow, gr_thld, gi_filt, gi_fop, gi_ffs, gi_fsc, gr_walk, gr_mrow, gi_que, gi_qv, hw, h4, h, nIlt (show c < 2 ^ 31 by omega), nI_ge hc (by omega), nI_ge h4 (by decide)]
theorem kb_cageAt_m (hw : wf M) : Vc d 32 [rf (some 1), .int (-1)] M Q = Q (some (rf none)) M := by
  show V d 32 0 [some (rf (some 1)), some (.int (-1))] [] M Q = _
  simp only [s_32_0, s_32_1, s_32_26, s_32_27, m1lt, if_true]
def cagR (r : RS) (C : Nat) (rt lo us oc li : Int32) : RS := ru (ru (ru (ru (ru (ru (ru r 8 C rt) 9 C lo) 10 C us) 11 C oc) 12 C (li &&& nI 15)) 13 C (li >>> (nI 4 &&& 31))) 0 36 (nI (C + 1))
theorem cageM_ok (hw : wf M) {C : Nat} (hC : C < 4) {rt lo us oc li : Int32} : wf (cageM M C rt lo us oc li) ∧ rg (cageM M C rt lo us oc li) = cagR (rg M) C rt lo us oc li ∧ cg (cageM M C rt lo us oc li) = cg M := by
  have w1 := wm_153 hw hC (x := rt)
  have w2 := wm_154 w1 hC (x := lo)
  have w3 := wm_155 w2 hC (x := us)
  have w4 := wm_156 w3 hC (x := oc)
  have w5 := wm_157 w4 hC (x := li &&& nI 15)
  have w6 := wm_158 w5 hC (x := li >>> (nI 4 &&& 31))
  have w7 := wm_145_36 w6 (x := nI (C + 1))
  refine ⟨w7, ?_, ?_⟩
  · rw [cageM, rm_145_36 w6, rm_158 w5 hC, rm_157 w4 hC, rm_156 w3 hC, rm_155 w2 hC, rm_154 w1 hC, rm_153 hw hC]
    rfl
  · rw [cageM, cm_145_36 w6, cm_158 w5 hC, cm_157 w4 hC, cm_156 w3 hC, cm_155 w2 hC, cm_154 w1 hC, cm_153 hw hC]
def kcM (M : mH) (C : Nat) (rt : Option Nat) (lo us : Int32) (oc : Option Nat) (li : Int32) : mH := mu (mu (mu (mu (mu (mu (mu M 1 6 (.int (nI (C + 1)))) (37 + 10 * C) 1 (rf rt)) (37 + 10 * C) 2 (.int lo)) (37 + 10 * C) 3 (.int us)) (37 + 10 * C) 6 (rf oc)) (37 + 10 * C) 4 (.int (li &&& nI 15))) (37 + 10 * C) 5 (.int (li >>> (nI 4 &&& 31)))
def cgI (I : CI) (C : Nat) (lo us li : Int32) : CI := iu (iu (iu (iu (iu I 0 0 6 (nI (C + 1))) 2 C 2 lo) 2 C 3 us) 2 C 4 (li &&& nI 15)) 2 C 5 (li >>> (nI 4 &&& 31))
def cgOo (O : CO) (C : Nat) (rt u : Option Nat) : CO := ou (ou O 2 C 1 rt) 2 C 6 u
theorem kcM_ok (hw : wf M) {C : Nat} (hC : C < 4) {rt oc : Option Nat} {lo us li : Int32} : wf (kcM M C rt lo us oc li) ∧ rg (kcM M C rt lo us oc li) = rg M ∧ ig (kcM M C rt lo us oc li) = cgI (ig M) C lo us li ∧ og (kcM M C rt lo us oc li) = cgOo (og M) C rt oc := by
  have w1 := C_K_6 hw (x := nI (C + 1))
  have w2 := C_cage_1 w1.w hC (x := rt)
  have w3 := C_cage_2 w2.w hC (x := lo)
  have w4 := C_cage_3 w3.w hC (x := us)
  have w5 := C_cage_6 w4.w hC (x := oc)
  have w6 := C_cage_4 w5.w hC (x := li &&& nI 15)
  have w7 := C_cage_5 w6.w hC (x := li >>> (nI 4 &&& 31))
  refine ⟨w7.w, ?_, ?_, ?_⟩
  · rw [kcM, w7.r, w6.r, w5.r, w4.r, w3.r, w2.r, w1.r]
  · rw [kcM, w7.i, w6.i, w5.i, w4.i, w3.i, w2.i, w1.i]; rfl
  · rw [kcM, w7.o, w6.o, w5.o, w4.o, w3.o, w2.o, w1.o]; rfl
theorem k_cage_w (hw : wf M) (iv : IV (ig M) (og M) r C t mp) (hC : C < 4) {m : Nat} {rt lo us oc li : Int32} {o : Option Nat} (ho : (oc = -1 ∧ o = none) ∨ ∃ c, c < C ∧ oc = nI c ∧ o = some (37 + 10 * c)) : V (d + 1) 2 93 [some (rf (some 1)), some (.int rt), some (.int lo), some (.int us), some (.int oc), some (.int li), some (rf (some (4 + m))), none] [] M Q = Q (some (.int (nI C))) (kcM M C (some (4 + m)) lo us o li) := by
  have w1 := C_K_6 hw (x := nI (C + 1))
  have w2 := C_cage_1 w1.w hC (x := some (4 + m))
  have w3 := C_cage_2 w2.w hC (x := lo)
  have w4 := C_cage_3 w3.w hC (x := us)
  have w5 := C_cage_6 w4.w hC (x := o)
  have w6 := C_cage_4 w5.w hC (x := li &&& nI 15)
  have w7 := C_cage_5 w6.w hC (x := li >>> (nI 4 &&& 31))
  have hk : ig (mu (mu (mu (mu M 1 6 (.int (nI (C + 1)))) (37 + 10 * C) 1 (rf (some (4 + m)))) (37 + 10 * C) 2 (.int lo)) (37 + 10 * C) 3 (.int us)) 0 0 6 = nI (C + 1) := by
    rw [w4.i, w3.i, w2.i, w1.i]; simp only [ru, iu, ou, eq_self, Nat.reduceEqDiff, false_and, and_false, if_false, true_and, and_true, and_self, if_true]
  have hca : ∀ Q, Vc d 32 [rf (some 1), .int oc] (mu (mu (mu (mu M 1 6 (.int (nI (C + 1)))) (37 + 10 * C) 1 (rf (some (4 + m)))) (37 + 10 * C) 2 (.int lo)) (37 + 10 * C) 3 (.int us)) Q = Q (some (rf o)) (mu (mu (mu (mu M 1 6 (.int (nI (C + 1)))) (37 + 10 * C) 1 (rf (some (4 + m)))) (37 + 10 * C) 2 (.int lo)) (37 + 10 * C) 3 (.int us)) := by
    intro Q
    rcases ho with ⟨rfl, rfl⟩ | ⟨c, hc, rfl, rfl⟩
    · exact kb_cageAt_m w4.w
    · exact kb_cageAt w4.w hk (by omega) (by omega)
  simp only [s_2_93, s_2_94, s_2_97, s_2_98, s_2_101, s_2_102, s_2_104, s_2_105, s_2_106, s_2_109, s_2_110, s_2_111, s_2_114, s_2_116, s_2_118, s_2_121, s_2_123, s_2_124, s_2_127, s_2_129, s_2_130, s_2_133, s_2_135, s_2_136, s_2_138 w4.w sh_1, hca, s_2_141, s_2_144, s_2_146, s_2_148, s_2_150, s_2_151, s_2_154, s_2_156, s_2_158, s_2_159, s_2_160, s_2_163, s_2_165, s_2_168, eq_self, Nat.reduceLT, Nat.reduceLeDiff, Nat.reduceMod, Nat.reduceDiv, Nat.reduceAdd, Nat.reduceMul, Option.toList_some, Option.toList_none, List.cons_append, List.nil_append, List.append_nil, n10, n00, if_true, if_false, b0, b1, nI_add, true_and, and_true, and_self, sh_1, sh_2, sh_3, sh_36, sh_77, sh_126, k_1_0, k_1_1, k_1_2, k_1_3, k_1_4, k_1_5, k_2_0, sh_node, sh_cage, sh_cmts, sh_mrow, sh_que, sh_qv, sh_task, sh_tpow, sh_thld, sh_filt, sh_fop, sh_ffs, sh_fsc, sh_walk, ka_nodes, ka_cages, ka_tasks, ka_filts, kf_node_0, kf_cage_0, kf_cage_9, kf_task_0, kf_task_6, kf_task_7, kf_filt_0, kf_filt_1, kf_filt_2, kf_que, kf_cage_11, kf_cage_12, gi_K, gi_node1, gr_node, gi_cage1, gr_cage1, gr_cmts, gi_task1, gr_task1, gi_tpow, gr_thld, gi_filt, gi_fop, gi_ffs, gi_fsc, gr_walk, gr_mrow, gi_que, gi_qv, hw, hC, iv.k_6, w1.w, w2.w, w3.w, w4.w, w5.w, w6.w, w7.w, kcM]
theorem k_cage (hw : wf M) (iv : IV (ig M) (og M) r C t mp) {rt lo us oc li : Int32} : Vc (d + 1) 2 [rf (some 1), .int rt, .int lo, .int us, .int oc, .int li] M Q = if isDir r rt ∧ (nI 0 ≤ lo ∧ lo ≤ nI 255) ∧ (nI 1 ≤ us ∧ us ≤ nI 256 - lo) ∧ (oc = -1 ∨ (nI 0 ≤ oc ∧ oc ≤ nI C - nI 1)) ∧ (nI 0 ≤ li ∧ li ≤ nI 255) then (if C = 4 then Q (some (.int (-5))) M else Q (some (.int (nI C))) (kcM M C (some (4 + rt.toNatClampNeg)) lo us (if oc = -1 then none else some (37 + 10 * oc.toNatClampNeg)) li)) else Q (some (.int (-1))) M := by
  show V (d + 1) 2 0 [some (rf (some 1)), some (.int rt), some (.int lo), some (.int us), some (.int oc), some (.int li), none, none] [] M Q = _
  have hC4 := iv.C4
  by_cases h1 : isDir r rt
  · obtain ⟨m, hm, rfl⟩ := in_nI (by decide) h1.1.1
    have h31 : m < 2 ^ 31 := by omega
    have hm : m < 32 := by omega
    have g1 := h1.1.2
    have g4 := h1.2
    rw [nI_clamp h31] at g1 g4
    have hst : V (d + 1) 2 0 [some (rf (some 1)), some (.int (nI m)), some (.int lo), some (.int us), some (.int oc), some (.int li), none, none] [] M Q = V (d + 1) 2 23 [some (rf (some 1)), some (.int (nI m)), some (.int lo), some (.int us), some (.int oc), some (.int li), some (rf (some (4 + m))), none] [] M Q := by
      simp only [s_2_0, s_2_1, s_2_4, s_2_5, s_2_8, s_2_10, s_2_12, s_2_15, s_2_17, s_2_20, eq_self, Nat.reduceLT, Nat.reduceLeDiff, Nat.reduceMod, Nat.reduceDiv, Nat.reduceAdd, Nat.reduceMul, Option.toList_some, Option.toList_none, List.cons_append, List.nil_append, List.append_nil, n10, n00, if_true, if_false, b0, b1, nI_add, true_and, and_true, and_self, sh_1, sh_2, sh_3, sh_36, sh_77, sh_126, k_1_0, k_1_1, k_1_2, k_1_3, k_1_4, k_1_5, k_2_0, sh_node, sh_cage, sh_cmts, sh_mrow, sh_que, sh_qv, sh_task, sh_tpow, sh_thld, sh_filt, sh_fop, sh_ffs, sh_fsc, sh_walk, ka_nodes, ka_cages, ka_tasks, ka_filts, kf_node_0, kf_cage_0, kf_cage_9, kf_task_0, kf_task_6, kf_task_7, kf_filt_0, kf_filt_1, kf_filt_2, kf_que, kf_cage_11, kf_cage_12, gi_K, gi_node1, gr_node, gi_cage1, gr_cage1, gr_cmts, gi_task1, gr_task1, gi_tpow, gr_thld, gi_filt, gi_fop, gi_ffs, gi_fsc, gr_walk, gr_mrow, gi_que, gi_qv, iv.n_1, iv.n_2, iv.n_3, iv.n_4, iv.n_5, iv.k_6, iv.k_7, iv.k_8, iv.c_1, iv.c_2, iv.c_3, iv.c_4, iv.c_5, iv.c_6, iv.c_8, iv.c_10, iv.p_1, iv.p_2, iv.p_3, iv.p_4, iv.p_5, iv.p_8, iv.p_9, iv.w_k, iv.f_3, iv.f_o, iv.f_a, iv.f_b, hw, k_at_in hw iv hm, g1, g4, hm, so_no]
    rw [hst]
    by_cases h2 : nI 0 ≤ lo ∧ lo ≤ nI 255
    · by_cases h3 : nI 1 ≤ us ∧ us ≤ nI 256 - lo
      · by_cases h5 : nI 0 ≤ li ∧ li ≤ nI 255
        · have hst2 : V (d + 1) 2 23 [some (rf (some 1)), some (.int (nI m)), some (.int lo), some (.int us), some (.int oc), some (.int li), some (rf (some (4 + m))), none] [] M Q = V (d + 1) 2 65 [some (rf (some 1)), some (.int (nI m)), some (.int lo), some (.int us), some (.int oc), some (.int li), some (rf (some (4 + m))), none] [] M Q := by
            have h3' : ¬ nI 256 - lo < us := by rw [Int32.not_lt]; exact h3.2
            simp only [s_2_23, s_2_24, s_2_27, s_2_28, s_2_31, s_2_36, s_2_37, s_2_38, s_2_41, s_2_42, s_2_45, s_2_46, s_2_47, s_2_50, s_2_52, s_2_55, s_2_57, s_2_60, lt_z, lt1, lt256, h2, h3, h3', h5, not_true, if_false, if_true]
          rw [hst2]
          by_cases h4 : oc = -1 ∨ (nI 0 ≤ oc ∧ oc ≤ nI C - nI 1)
          · rw [if_pos ⟨h1, h2, h3, h4, h5⟩, nI_clamp h31]
            have ho : ∃ o, (if oc = -1 then none else some (37 + 10 * oc.toNatClampNeg)) = o ∧ ((oc = -1 ∧ o = none) ∨ ∃ c, c < C ∧ oc = nI c ∧ o = some (37 + 10 * c)) := by
              rcases h4 with h4 | h4
              · exact ⟨none, by rw [if_pos h4], Or.inl ⟨h4, rfl⟩⟩
              · obtain ⟨c, hc, rfl⟩ := lt_sub1 hC4 h4
                exact ⟨some (37 + 10 * c), by rw [if_neg (fun z => m1ne (show c < 2 ^ 31 by omega) z.symm), nI_clamp (by omega)], Or.inr ⟨c, hc, rfl, rfl⟩⟩
            obtain ⟨o, eo, ho⟩ := ho
            rw [eo]
            have hst3 : V (d + 1) 2 65 [some (rf (some 1)), some (.int (nI m)), some (.int lo), some (.int us), some (.int oc), some (.int li), some (rf (some (4 + m))), none] [] M Q = V (d + 1) 2 82 [some (rf (some 1)), some (.int (nI m)), some (.int lo), some (.int us), some (.int oc), some (.int li), some (rf (some (4 + m))), none] [] M Q := by
              rcases ho with ⟨rfl, rfl⟩ | ⟨c, hc, rfl, rfl⟩
              · simp only [s_2_65, s_2_67, s_2_68, if_true]
              · simp only [s_2_65, s_2_67, s_2_68, s_2_71, s_2_72, s_2_74 hw sh_1, k_cageAt_in hw iv hc, s_2_77, so_no, eq_self, Nat.reduceLT, Nat.reduceLeDiff, Nat.reduceMod, Nat.reduceDiv, Nat.reduceAdd, Nat.reduceMul, Option.toList_some, Option.toList_none, List.cons_append, List.nil_append, List.append_nil, n10, n00, if_true, if_false, b0, b1, nI_add, true_and, and_true, and_self, ite_self]
            rw [hst3]
            by_cases h6 : C = 4
            · subst h6
              simp only [s_2_82, s_2_83, s_2_86, s_2_87, s_2_90, s_2_92, eq_self, Nat.reduceLT, Nat.reduceLeDiff, Nat.reduceMod, Nat.reduceDiv, Nat.reduceAdd, Nat.reduceMul, Option.toList_some, Option.toList_none, List.cons_append, List.nil_append, List.append_nil, n10, n00, if_true, if_false, b0, b1, nI_add, true_and, and_true, and_self, sh_1, sh_2, sh_3, sh_36, sh_77, sh_126, k_1_0, k_1_1, k_1_2, k_1_3, k_1_4, k_1_5, k_2_0, sh_node, sh_cage, sh_cmts, sh_mrow, sh_que, sh_qv, sh_task, sh_tpow, sh_thld, sh_filt, sh_fop, sh_ffs, sh_fsc, sh_walk, ka_nodes, ka_cages, ka_tasks, ka_filts, kf_node_0, kf_cage_0, kf_cage_9, kf_task_0, kf_task_6, kf_task_7, kf_filt_0, kf_filt_1, kf_filt_2, kf_que, kf_cage_11, kf_cage_12, gi_K, gi_node1, gr_node, gi_cage1, gr_cage1, gr_cmts, gi_task1, gr_task1, gi_tpow, gr_thld, gi_filt, gi_fop, gi_ffs, gi_fsc, gr_walk, gr_mrow, gi_que, gi_qv, hw, iv.k_6, show ¬ nI 4 < nI 4 by decide]
            · rw [if_neg h6]
              have h7 : nI C < nI 4 := by rw [Int32.lt_iff_toInt_lt, nI_toInt (by omega), nI_toInt (by decide)]; omega
              simp only [s_2_82, s_2_83, s_2_86, s_2_87, eq_self, Nat.reduceLT, Nat.reduceLeDiff, Nat.reduceMod, Nat.reduceDiv, Nat.reduceAdd, Nat.reduceMul, Option.toList_some, Option.toList_none, List.cons_append, List.nil_append, List.append_nil, n10, n00, if_true, if_false, b0, b1, nI_add, true_and, and_true, and_self, sh_1, sh_2, sh_3, sh_36, sh_77, sh_126, k_1_0, k_1_1, k_1_2, k_1_3, k_1_4, k_1_5, k_2_0, sh_node, sh_cage, sh_cmts, sh_mrow, sh_que, sh_qv, sh_task, sh_tpow, sh_thld, sh_filt, sh_fop, sh_ffs, sh_fsc, sh_walk, ka_nodes, ka_cages, ka_tasks, ka_filts, kf_node_0, kf_cage_0, kf_cage_9, kf_task_0, kf_task_6, kf_task_7, kf_filt_0, kf_filt_1, kf_filt_2, kf_que, kf_cage_11, kf_cage_12, gi_K, gi_node1, gr_node, gi_cage1, gr_cage1, gr_cmts, gi_task1, gr_task1, gi_tpow, gr_thld, gi_filt, gi_fop, gi_ffs, gi_fsc, gr_walk, gr_mrow, gi_que, gi_qv, hw, iv.k_6, h7]
              exact k_cage_w hw iv (by omega) ho
          · rw [if_neg (fun z => h4 z.2.2.2.1)]
            have h4a : ¬ oc = -1 := fun z => h4 (Or.inl z)
            have h4b : ¬ (nI 0 ≤ oc ∧ oc ≤ nI C - nI 1) := fun z => h4 (Or.inr z)
            simp only [s_2_65, s_2_67, s_2_68, s_2_71, s_2_72, s_2_74 hw sh_1, k_cageAt_out hw iv h4b, s_2_77, s_2_80, s_2_81, h4a, eq_self, Nat.reduceLT, Nat.reduceLeDiff, Nat.reduceMod, Nat.reduceDiv, Nat.reduceAdd, Nat.reduceMul, Option.toList_some, Option.toList_none, List.cons_append, List.nil_append, List.append_nil, n10, n00, if_true, if_false, b0, b1, nI_add, true_and, and_true, and_self]
        · rw [if_neg (fun z => h5 z.2.2.2.2)]
          have h3' : ¬ nI 256 - lo < us := by rw [Int32.not_lt]; exact h3.2
          simp only [s_2_23, s_2_24, s_2_27, s_2_28, s_2_31, s_2_36, s_2_37, s_2_38, s_2_41, s_2_42, s_2_45, s_2_46, s_2_47, s_2_50, s_2_52, s_2_55, s_2_57, s_2_60, s_2_63, s_2_64, lt_z, lt1, lt256, h2, h3, h3', not_true, if_false, if_true]
          by_cases h6 : nI 0 ≤ li
          · have h7 : ¬ li ≤ nI 255 := fun z => h5 ⟨h6, z⟩
            simp only [h6, h7, not_true, if_false]
          · simp only [h6, not_false_eq_true, if_true]
      · rw [if_neg (fun z => h3 z.2.2.1)]
        simp only [s_2_23, s_2_24, s_2_27, s_2_28, s_2_31, s_2_36, s_2_37, s_2_38, s_2_41, s_2_42, s_2_45, s_2_46, s_2_47, s_2_63, s_2_64, lt_z, lt1, lt256, h2, not_true, if_false, if_true]
        by_cases h6 : nI 1 ≤ us
        · have h7 : nI 256 - lo < us := by rw [← Int32.not_le]; exact fun z => h3 ⟨h6, z⟩
          simp only [h6, h7, not_true, if_false, if_true]
        · simp only [h6, not_false_eq_true, if_true]
    · rw [if_neg (fun z => h2 z.2.1)]
      simp only [s_2_23, s_2_24, s_2_27, s_2_28, s_2_31, s_2_34, s_2_35, lt_z, lt256]
      by_cases h6 : nI 0 ≤ lo
      · have h7 : ¬ lo ≤ nI 255 := fun z => h2 ⟨h6, z⟩
        simp only [h6, h7, not_true, if_false]
      · simp only [h6, not_false_eq_true, if_true]
  · rw [if_neg (fun z => h1 z.1)]
    by_cases h2 : nI 0 ≤ rt ∧ rt ≤ nI 31
    · obtain ⟨m, hm, rfl⟩ := in_nI (by decide) h2
      have hm : m < 32 := by omega
      by_cases g1 : r 1 m = 0
      · simp only [s_2_0, s_2_1, s_2_4, s_2_5, s_2_8, s_2_10, s_2_12, s_2_34, s_2_35, eq_self, Nat.reduceLT, Nat.reduceLeDiff, Nat.reduceMod, Nat.reduceDiv, Nat.reduceAdd, Nat.reduceMul, Option.toList_some, Option.toList_none, List.cons_append, List.nil_append, List.append_nil, n10, n00, if_true, if_false, b0, b1, nI_add, true_and, and_true, and_self, sh_1, sh_2, sh_3, sh_36, sh_77, sh_126, k_1_0, k_1_1, k_1_2, k_1_3, k_1_4, k_1_5, k_2_0, sh_node, sh_cage, sh_cmts, sh_mrow, sh_que, sh_qv, sh_task, sh_tpow, sh_thld, sh_filt, sh_fop, sh_ffs, sh_fsc, sh_walk, ka_nodes, ka_cages, ka_tasks, ka_filts, kf_node_0, kf_cage_0, kf_cage_9, kf_task_0, kf_task_6, kf_task_7, kf_filt_0, kf_filt_1, kf_filt_2, kf_que, kf_cage_11, kf_cage_12, gi_K, gi_node1, gr_node, gi_cage1, gr_cage1, gr_cmts, gi_task1, gr_task1, gi_tpow, gr_thld, gi_filt, gi_fop, gi_ffs, gi_fsc, gr_walk, gr_mrow, gi_que, gi_qv, iv.n_1, iv.n_2, iv.n_3, iv.n_4, iv.n_5, iv.k_6, iv.k_7, iv.k_8, iv.c_1, iv.c_2, iv.c_3, iv.c_4, iv.c_5, iv.c_6, iv.c_8, iv.c_10, iv.p_1, iv.p_2, iv.p_3, iv.p_4, iv.p_5, iv.p_8, iv.p_9, iv.w_k, iv.f_3, iv.f_o, iv.f_a, iv.f_b, hw, k_at_in hw iv hm, g1]
      · have g4 : ¬ r 4 m = 0 := fun z => h1 ⟨⟨h2, by rw [nI_clamp (by omega)]; exact g1⟩, by rw [nI_clamp (by omega)]; exact z⟩
        simp only [s_2_0, s_2_1, s_2_4, s_2_5, s_2_8, s_2_10, s_2_12, s_2_15, s_2_17, s_2_20, s_2_34, s_2_35, eq_self, Nat.reduceLT, Nat.reduceLeDiff, Nat.reduceMod, Nat.reduceDiv, Nat.reduceAdd, Nat.reduceMul, Option.toList_some, Option.toList_none, List.cons_append, List.nil_append, List.append_nil, n10, n00, if_true, if_false, b0, b1, nI_add, true_and, and_true, and_self, sh_1, sh_2, sh_3, sh_36, sh_77, sh_126, k_1_0, k_1_1, k_1_2, k_1_3, k_1_4, k_1_5, k_2_0, sh_node, sh_cage, sh_cmts, sh_mrow, sh_que, sh_qv, sh_task, sh_tpow, sh_thld, sh_filt, sh_fop, sh_ffs, sh_fsc, sh_walk, ka_nodes, ka_cages, ka_tasks, ka_filts, kf_node_0, kf_cage_0, kf_cage_9, kf_task_0, kf_task_6, kf_task_7, kf_filt_0, kf_filt_1, kf_filt_2, kf_que, kf_cage_11, kf_cage_12, gi_K, gi_node1, gr_node, gi_cage1, gr_cage1, gr_cmts, gi_task1, gr_task1, gi_tpow, gr_thld, gi_filt, gi_fop, gi_ffs, gi_fsc, gr_walk, gr_mrow, gi_que, gi_qv, iv.n_1, iv.n_2, iv.n_3, iv.n_4, iv.n_5, iv.k_6, iv.k_7, iv.k_8, iv.c_1, iv.c_2, iv.c_3, iv.c_4, iv.c_5, iv.c_6, iv.c_8, iv.c_10, iv.p_1, iv.p_2, iv.p_3, iv.p_4, iv.p_5, iv.p_8, iv.p_9, iv.w_k, iv.f_3, iv.f_o, iv.f_a, iv.f_b, hw, k_at_in hw iv hm, g1, g4, hm, so_no]
    · simp only [s_2_0, s_2_1, s_2_4, s_2_5, s_2_8, s_2_10, s_2_12, s_2_34, s_2_35, eq_self, Nat.reduceLT, Nat.reduceLeDiff, Nat.reduceMod, Nat.reduceDiv, Nat.reduceAdd, Nat.reduceMul, Option.toList_some, Option.toList_none, List.cons_append, List.nil_append, List.append_nil, n10, n00, if_true, if_false, b0, b1, nI_add, true_and, and_true, and_self, sh_1, sh_2, sh_3, sh_36, sh_77, sh_126, k_1_0, k_1_1, k_1_2, k_1_3, k_1_4, k_1_5, k_2_0, sh_node, sh_cage, sh_cmts, sh_mrow, sh_que, sh_qv, sh_task, sh_tpow, sh_thld, sh_filt, sh_fop, sh_ffs, sh_fsc, sh_walk, ka_nodes, ka_cages, ka_tasks, ka_filts, kf_node_0, kf_cage_0, kf_cage_9, kf_task_0, kf_task_6, kf_task_7, kf_filt_0, kf_filt_1, kf_filt_2, kf_que, kf_cage_11, kf_cage_12, gi_K, gi_node1, gr_node, gi_cage1, gr_cage1, gr_cmts, gi_task1, gr_task1, gi_tpow, gr_thld, gi_filt, gi_fop, gi_ffs, gi_fsc, gr_walk, gr_mrow, gi_que, gi_qv, hw, k_at_out hw h2]
theorem iv_cage (iv : IV I O r C t mp) (hC : C < 4) {m lo us : Nat} {ot li : Int32} {o : Option Nat} (hm : m < 32) (hmd : ¬ r 1 m = 0 ∧ r 4 m = 0) (hus : 1 ≤ us ∧ lo + us ≤ 256) (ho : (ot = -1 ∧ o = none) ∨ ∃ c, c < C ∧ ot = nI c ∧ o = some (37 + 10 * c)) : IV (cgI I C (nI lo) (nI us) li) (cgOo O C (some (4 + m)) o) (cagR r C (nI m) (nI lo) (nI us) ot li) (C + 1) t mp := by
  have hne : ∀ c, c < C → ¬ c = C := fun c h z => by omega
  refine ⟨iv.n1.cg (by simp only [cagR, ru, iu, ou, eq_self, Nat.reduceEqDiff, false_and, and_false, if_false, true_and, and_true, and_self, implies_true]) (by simp only [cgI, ru, iu, ou, eq_self, Nat.reduceEqDiff, false_and, and_false, if_false, true_and, and_true, and_self, implies_true]), ?_, iv.n3.cg (by simp only [cagR, ru, iu, ou, eq_self, Nat.reduceEqDiff, false_and, and_false, if_false, true_and, and_true, and_self, implies_true]), ?_, ?_, iv.g.cg (by simp only [cagR, ru, iu, ou, eq_self, Nat.reduceEqDiff, false_and, and_false, if_false, true_and, and_true, and_self, implies_true]) (by simp only [cgI, ru, iu, ou, eq_self, Nat.reduceEqDiff, false_and, and_false, if_false, true_and, and_true, and_self, implies_true]), iv.p1.cg (by simp only [cagR, ru, iu, ou, eq_self, Nat.reduceEqDiff, false_and, and_false, if_false, true_and, and_true, and_self, implies_true]) (by simp only [cgI, cgOo, ru, iu, ou, eq_self, Nat.reduceEqDiff, false_and, and_false, if_false, true_and, and_true, and_self, implies_true]), iv.p2.cg (by simp only [cagR, ru, iu, ou, eq_self, Nat.reduceEqDiff, false_and, and_false, if_false, true_and, and_true, and_self, implies_true]) (by simp only [cgI, ru, iu, ou, eq_self, Nat.reduceEqDiff, false_and, and_false, if_false, true_and, and_true, and_self, implies_true]), ?_, iv.p4.cg (by simp only [cagR, ru, iu, ou, eq_self, Nat.reduceEqDiff, false_and, and_false, if_false, true_and, and_true, and_self, implies_true]), iv.i.cg (by simp only [cagR, ru, iu, ou, eq_self, Nat.reduceEqDiff, false_and, and_false, if_false, true_and, and_true, and_self, implies_true]) (by simp only [cgOo, ru, iu, ou, eq_self, Nat.reduceEqDiff, false_and, and_false, if_false, true_and, and_true, and_self, implies_true]), iv.h.cg (by simp only [cagR, ru, iu, ou, eq_self, Nat.reduceEqDiff, false_and, and_false, if_false, true_and, and_true, and_self, implies_true]) (by simp only [cgOo, ru, iu, ou, eq_self, Nat.reduceEqDiff, false_and, and_false, if_false, true_and, and_true, and_self, implies_true]), iv.f1.cg (by simp only [cagR, ru, iu, ou, eq_self, Nat.reduceEqDiff, false_and, and_false, if_false, true_and, and_true, and_self, implies_true]) (by simp only [cgI, ru, iu, ou, eq_self, Nat.reduceEqDiff, false_and, and_false, if_false, true_and, and_true, and_self, implies_true]) (by simp only [cgI, ru, iu, ou, eq_self, Nat.reduceEqDiff, false_and, and_false, if_false, true_and, and_true, and_self, implies_true]), iv.f2.cg (by simp only [cagR, ru, iu, ou, eq_self, Nat.reduceEqDiff, false_and, and_false, if_false, true_and, and_true, and_self, implies_true]), iv.q.cg (by simp only [cagR, ru, iu, ou, eq_self, Nat.reduceEqDiff, false_and, and_false, if_false, true_and, and_true, and_self, implies_true]) (by simp only [cgI, ru, iu, ou, eq_self, Nat.reduceEqDiff, false_and, and_false, if_false, true_and, and_true, and_self, implies_true]) (by simp only [cgI, ru, iu, ou, eq_self, Nat.reduceEqDiff, false_and, and_false, if_false, true_and, and_true, and_self, implies_true]), ?_, ?_, iv.m3.cg (by simp only [cagR, ru, iu, ou, eq_self, Nat.reduceEqDiff, false_and, and_false, if_false, true_and, and_true, and_self]) (by simp only [cagR, ru, iu, ou, eq_self, Nat.reduceEqDiff, false_and, and_false, if_false, true_and, and_true, and_self, implies_true]), iv.m4.cg (by simp only [cagR, ru, iu, ou, eq_self, Nat.reduceEqDiff, false_and, and_false, if_false, true_and, and_true, and_self, implies_true])⟩
  · have h : gN2 (cgOo O C (some (4 + m)) o) (cagR r C (nI m) (nI lo) (nI us) ot li) C := iv.n2.cg (by simp only [cagR, ru, iu, ou, eq_self, Nat.reduceEqDiff, false_and, and_false, if_false, true_and, and_true, and_self, implies_true]) (by simp only [cgOo, ru, iu, ou, eq_self, Nat.reduceEqDiff, false_and, and_false, if_false, true_and, and_true, and_self, implies_true])
    intro n hn hr
    obtain ⟨h1, h2, h3, h4, h5, h6⟩ := h n hn hr
    refine ⟨h1, h2, h3, h4, ?_, h6⟩
    rcases h5 with h5 | ⟨c, hc, h5⟩
    · exact Or.inl h5
    · exact Or.inr ⟨c, by omega, h5⟩
  · obtain ⟨h1, h2, h3, h4, h5⟩ := iv.k
    refine ⟨by omega, by simp only [cagR, ru, iu, ou, eq_self, Nat.reduceEqDiff, false_and, and_false, if_false, true_and, and_true, and_self, if_true], by simp only [cgI, ru, iu, ou, eq_self, Nat.reduceEqDiff, false_and, and_false, if_false, true_and, and_true, and_self, if_true], by simp only [cgI, cagR, ru, iu, ou, eq_self, Nat.reduceEqDiff, false_and, and_false, if_false, true_and, and_true, and_self]; exact h4, by simp only [cgI, cagR, ru, iu, ou, eq_self, Nat.reduceEqDiff, false_and, and_false, if_false, true_and, and_true, and_self]; exact h5⟩
  · intro c hc
    by_cases e : c = C
    · subst e
      refine ⟨by simp only [cgOo, cagR, ru, iu, ou, eq_self, Nat.reduceEqDiff, false_and, and_false, if_false, true_and, and_true, and_self, if_true]; exact (ndO_n (by omega)).symm, by simp only [cgI, cagR, ru, iu, ou, eq_self, Nat.reduceEqDiff, false_and, and_false, if_false, true_and, and_true, and_self, if_true], by simp only [cgI, cagR, ru, iu, ou, eq_self, Nat.reduceEqDiff, false_and, and_false, if_false, true_and, and_true, and_self, if_true], by simp only [cgI, cagR, ru, iu, ou, eq_self, Nat.reduceEqDiff, false_and, and_false, if_false, true_and, and_true, and_self, if_true], by simp only [cgI, cagR, ru, iu, ou, eq_self, Nat.reduceEqDiff, false_and, and_false, if_false, true_and, and_true, and_self, if_true], ?_, ⟨m, hm, by simp only [cagR, ru, iu, ou, eq_self, Nat.reduceEqDiff, false_and, and_false, if_false, true_and, and_true, and_self, if_true], by simp only [cagR, ru, iu, ou, eq_self, Nat.reduceEqDiff, false_and, and_false, if_false, true_and, and_true, and_self]; exact hmd.1, by simp only [cagR, ru, iu, ou, eq_self, Nat.reduceEqDiff, false_and, and_false, if_false, true_and, and_true, and_self]; exact hmd.2⟩, ⟨lo, us, by simp only [cagR, ru, iu, ou, eq_self, Nat.reduceEqDiff, false_and, and_false, if_false, true_and, and_true, and_self, if_true], by simp only [cagR, ru, iu, ou, eq_self, Nat.reduceEqDiff, false_and, and_false, if_false, true_and, and_true, and_self, if_true], hus⟩, ?_⟩
      · simp only [cgOo, cagR, ru, iu, ou, eq_self, Nat.reduceEqDiff, false_and, and_false, if_false, true_and, and_true, and_self, if_true]
        rcases ho with ⟨h1, h2⟩ | ⟨c', h0, h1, h2⟩
        · rw [h1, h2, cgO_m]
        · rw [h1, h2, cgO_n (by omega)]
      · simp only [cagR, ru, iu, ou, eq_self, Nat.reduceEqDiff, false_and, and_false, if_false, true_and, and_true, and_self, if_true]
        rcases ho with ⟨h1, h2⟩ | ⟨c', h0, h1, h2⟩
        · exact Or.inl h1
        · exact Or.inr ⟨c', h0, h1⟩
    · have h := iv.c c (by omega)
      simp only [cgI, cgOo, cagR, ru, iu, ou, eq_self, Nat.reduceEqDiff, false_and, and_false, if_false, true_and, and_true, and_self, e]
      exact h
  · intro p hp
    have h : gP3 r C := iv.p3
    obtain ⟨h1, h2, h3⟩ := h p hp
    simp only [cagR, ru, iu, ou, eq_self, Nat.reduceEqDiff, false_and, and_false, if_false, true_and, and_true, and_self]
    refine ⟨h1, h2, fun h4 => ?_⟩
    obtain ⟨c, g1, g2, g3, g4, g5, g6⟩ := h3 h4
    refine ⟨c, by omega, g2, g3, g4, ?_, g6⟩
    simp only [hne c g1, if_false]
    exact g5
  · intro c hc
    obtain ⟨h1, h2, h3, h4, h5⟩ := iv.m1 c hc
    exact ⟨h1, fun z => h2 (by omega), by simp only [cgI, ru, iu, ou, eq_self, Nat.reduceEqDiff, false_and, and_false, if_false, true_and, and_true, and_self]; exact h3, by simp only [cgOo, ru, iu, ou, eq_self, Nat.reduceEqDiff, false_and, and_false, if_false, true_and, and_true, and_self]; exact h4, h5⟩
  · intro c hc i hi
    have hcC : ¬ c = C := fun z => by
      have := (iv.m1 c hc).2.1 (by omega)
      omega
    have h := iv.m2 c hc i hi
    have hd : ∀ x y, Desc (cagR r C (nI m) (nI lo) (nI us) ot li) x y = Desc r x y := fun x y => Desc.eq (by simp only [cagR, ru, iu, ou, eq_self, Nat.reduceEqDiff, false_and, and_false, if_false, true_and, and_true, and_self, implies_true])
    simp only [hd]
    simp only [cgOo, cagR, ru, iu, ou, eq_self, Nat.reduceEqDiff, false_and, and_false, if_false, true_and, and_true, and_self, hcC]
    exact h
theorem j_cage (hw : wf M) (iv : IV (ig M) (og M) (rg M) C t mp) {rt lo us oc li : Int32} : Jt 2 63 [.int rt, .int lo, .int us, .int oc, .int li] M t := by
  by_cases h : isDir (rg M) rt ∧ (nI 0 ≤ lo ∧ lo ≤ nI 255) ∧ (nI 1 ≤ us ∧ us ≤ nI 256 - lo) ∧ (oc = -1 ∨ (nI 0 ≤ oc ∧ oc ≤ nI C - nI 1)) ∧ (nI 0 ≤ li ∧ li ≤ nI 255)
  · by_cases h4 : C = 4
    · exact Jt_same hw iv (fun Q => by rw [k_cage hw iv, if_pos h, if_pos h4]) (fun Q => by rw [c_rcage hw iv.C4 iv.Cn, if_pos h, if_pos h4])
    · have hC : C < 4 := by have := iv.C4; omega
      obtain ⟨m, hm, rfl⟩ := in_nI (by decide) h.1.1.1
      have had : ¬ rg M 1 m = 0 ∧ rg M 4 m = 0 := by
        have := h.1
        simp only [isDir, nI_clamp (show m < 2 ^ 31 by omega)] at this
        exact ⟨this.1.2, this.2⟩
      obtain ⟨l, hl, rfl⟩ := in_nI (by decide) h.2.1
      have h3 := h.2.2.1
      rw [pk_sub (by omega)] at h3
      obtain ⟨u, hu, rfl⟩ := in_nI (show 256 - l < 2 ^ 31 by omega) ⟨Int32.le_trans (by decide) h3.1, h3.2⟩
      have hu1 : 1 ≤ u := by
        have := h3.1
        rw [Int32.le_iff_toInt_le, nI_toInt (by decide), nI_toInt (by omega)] at this
        omega
      have ho : ∃ o, (if oc = -1 then none else some (37 + 10 * oc.toNatClampNeg)) = o ∧ ((oc = -1 ∧ o = none) ∨ ∃ c, c < C ∧ oc = nI c ∧ o = some (37 + 10 * c)) := by
        rcases h.2.2.2.1 with h4 | h4
        · exact ⟨none, by rw [if_pos h4], Or.inl ⟨h4, rfl⟩⟩
        · obtain ⟨c, hc, rfl⟩ := lt_sub1 iv.C4 h4
          exact ⟨some (37 + 10 * c), by rw [if_neg (fun z => m1ne (show c < 2 ^ 31 by omega) z.symm), nI_clamp (by omega)], Or.inr ⟨c, hc, rfl, rfl⟩⟩
      obtain ⟨o, eo, ho⟩ := ho
      obtain ⟨w1, r1, i1, o1⟩ := kcM_ok hw hC (rt := some (4 + m)) (oc := o) (lo := nI l) (us := nI u) (li := li)
      obtain ⟨w2, r2, c2⟩ := cageM_ok w1 hC (rt := nI m) (lo := nI l) (us := nI u) (oc := oc) (li := li)
      have hiv := iv_cage iv hC (li := li) (show m < 32 by omega) had (lo := l) (us := u) ⟨hu1, by omega⟩ ho
      refine ⟨kcM M C (some (4 + m)) (nI l) (nI u) o li, _, nI C, C + 1, mp, (fun Q => by rw [k_cage hw iv, if_pos h, if_neg h4, nI_clamp (show m < 2 ^ 31 by omega), eo]), (fun Q => by rw [c_rcage w1 iv.C4 (by rw [r1]; exact iv.Cn), r1, if_pos h, if_neg h4]), w2, ?_⟩
      rw [cg_ig c2, cg_og c2, r2, i1, o1, r1]
      exact hiv.le (by omega)
  · exact Jt_same hw iv (fun Q => by rw [k_cage hw iv, if_neg h]) (fun Q => by rw [c_rcage hw iv.C4 iv.Cn, if_neg h])
end
