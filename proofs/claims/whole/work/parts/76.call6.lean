section
variable {d : Nat} {M : mH} {Q : Option Value → mH → Prop} {C t c p n : Nat} {mp : MP} {I : CI} {O : CO} {r s : RS}
/-! MAKE -/
theorem IV.hu (iv : IV I O r C t mp) (hp : p < 16) (h24 : r 24 p = nI 1) (hpc : r 25 p = nI c) (hc : c < C) : ∃ o, o < 256 ∧ r 9 c + r 27 p = nI o := by
  have hC4 := iv.C4
  obtain ⟨lo, us, k1, k2, k3, k4⟩ := (iv.c c hc).2.2.2.2.2.2.2.1
  obtain ⟨c', p1, p2, p3, -, ⟨u0, us0, p8, p9, p10, p11⟩, -⟩ := (iv.p3 p hp).2.2 (by rw [h24]; decide)
  obtain rfl : c' = c := (nI_eq (by omega) (by omega)).1 (p2.symm.trans hpc)
  obtain rfl : us0 = us := (nI_eq (by omega) (by omega)).1 (p9.symm.trans k2)
  exact ⟨lo + u0, by omega, by rw [k1, p8, nI_add]⟩
theorem pj_6 (ht : t < 2 ^ 30) (hw : wf M) (iv : IV (ig M) (og M) r C t mp) (hp : p < 16) (h24 : r 24 p = nI 1) (hpc : r 25 p = nI c) (hc : c < C) {a b : Int32} : Pj p (nI 6) a b M r t := by
  have hC4 := iv.C4
  have hc4 : c < 4 := by omega
  have o2 := iv.live hp h24 hpc hc
  have hk : (6 : Nat) = 4 ∨ 6 = 5 ∨ 6 = 6 ∨ 6 = 7 ∨ 6 = 8 ∨ 6 = 12 ∨ 6 = 13 := Or.inr (Or.inr (Or.inl rfl))
  have hT0 : treeR r p c C 4 6 a b = makeR r p c 4 a b := by unfold treeR; rw [if_pos rfl]
  have h7 := nms_le (p := a)
  by_cases h0 : nms a = 0
  · have hT : treeR r p c C 4 6 a b = (-2, r) := by rw [hT0]; unfold makeR; rw [if_pos (Or.inl h0)]
    have kk : ∀ d Q, Vc (d + 2) 18 [rf (some 1), rf (some (78 + 3 * p)), .int a, .int b] M Q = Q (some (.int (-2))) M := fun d Q => by
      show V (d + 2) 18 0 [some (rf (some 1)), some (rf (some (78 + 3 * p))), some (.int a), some (.int b), none, none, none, none] [] M Q = _
      simp only [s_18_0, s_18_1, s_18_4, s_18_6, s_18_8, s_18_11, s_18_13, eq_self, Nat.reduceLT, Nat.reduceLeDiff, Nat.reduceMod, Nat.reduceDiv, Nat.reduceAdd, Nat.reduceMul, Option.toList_some, Option.toList_none, List.cons_append, List.nil_append, List.append_nil, n10, n00, if_true, if_false, b0, b1, nI_add, true_and, and_true, and_self, k_namesIn, h0]
    exact Pj_tr (M' := M) (mp' := mp) (C' := C) hk iv hp hc hpc (fun Q => by rw [hT]; exact pf_6 (d := 5) hw (kk 3)) hw rfl (by rw [hT]; exact iv.le (by omega))
  · have hz : ¬ nI (nms a) = 0 := nI_ne0 (by omega) (by omega)
    have es : nI (nms a) - nI 1 = nI (nms a - 1) := pk_sub (by omega)
    have hm7 : nms a - 1 < 7 := by omega
    by_cases h15 : nib a (nms a - 1) = nI 15
    · have hT : treeR r p c C 4 6 a b = (-2, r) := by rw [hT0]; unfold makeR; rw [if_pos (Or.inr h15)]
      have kk : ∀ d Q, Vc (d + 2) 18 [rf (some 1), rf (some (78 + 3 * p)), .int a, .int b] M Q = Q (some (.int (-2))) M := fun d Q => by
        show V (d + 2) 18 0 [some (rf (some 1)), some (rf (some (78 + 3 * p))), some (.int a), some (.int b), none, none, none, none] [] M Q = _
        simp only [s_18_0, s_18_1, s_18_4, s_18_6, s_18_8, s_18_14, s_18_15, s_18_17, s_18_18, s_18_19, s_18_22, s_18_24, s_18_26, s_18_28, s_18_54, s_18_56, eq_self, Nat.reduceLT, Nat.reduceLeDiff, Nat.reduceMod, Nat.reduceDiv, Nat.reduceAdd, Nat.reduceMul, Option.toList_some, Option.toList_none, List.cons_append, List.nil_append, List.append_nil, n10, n00, if_true, if_false, b0, b1, nI_add, true_and, and_true, and_self, k_namesIn, hz, es, k_nameAt hm7, h15]
      exact Pj_tr (M' := M) (mp' := mp) (C' := C) hk iv hp hc hpc (fun Q => by rw [hT]; exact pf_6 (d := 5) hw (kk 3)) hw rfl (by rw [hT]; exact iv.le (by omega))
    · obtain ⟨M1, h1, h2, h3⟩ := k_fol (d := 2) (w := 0) ht hw iv hc (by decide) (p := a) (m := nms a - 1) (by omega)
      have h1 : ∀ Q, Vc 4 141 [rf (some 143), rf (some 2), rf (some (37 + 10 * c)), .int a, .int (nI (nms a - 1))] M Q = Q (some (.int (bI (follR c 4 a (nms a - 1) r).1))) M1 := h1
      obtain ⟨ag, pv⟩ := foll_agr iv hc (p := a) (m := nms a - 1)
      have iv1 := iv_agr (h2.iv iv) ag
      have w1 := h2.1
      by_cases hf : (follR c 4 a (nms a - 1) r).1 = true
      · have hT1 : treeR r p c C 4 6 a b = make2 (follR c 4 a (nms a - 1) r).2 p c (nib a (nms a - 1)) b := by
          rw [hT0]; unfold makeR; rw [if_neg (fun z => z.elim h0 h15), if_pos hf]
        have hwk := h3 hf
        rw [hf] at h1
        generalize (follR c 4 a (nms a - 1) r).2 = s at hwk iv1 ag hT1
        obtain ⟨n, n1, n2, n3, n4⟩ := hwk.w0
        have s24 : s 24 p = nI 1 := by rw [ag.row (by decide) (by decide)]; exact h24
        have spc : s 25 p = nI c := by rw [ag.row (by decide) (by decide)]; exact hpc
        have so2 := iv1.live hp s24 spc hc
        have hhu : ∀ d Q, Vc d 128 [rf (some (78 + 3 * p))] M1 Q = Q (some (.int (s 9 c + s 27 p))) M1 := fun d Q => by
          show V d 128 0 [some (rf (some (78 + 3 * p)))] [] M1 Q = _
          simp only [s_128_0, s_128_1, s_128_4, s_128_7, s_128_8, s_128_11, s_128_12, eq_self, Nat.reduceLT, Nat.reduceLeDiff, Nat.reduceMod, Nat.reduceDiv, Nat.reduceAdd, Nat.reduceMul, Option.toList_some, Option.toList_none, List.cons_append, List.nil_append, List.append_nil, n10, n00, if_true, if_false, b0, b1, nI_add, true_and, and_true, and_self, sh_1, sh_2, sh_3, sh_36, sh_77, sh_126, k_1_0, k_1_1, k_1_2, k_1_3, k_1_4, k_1_5, k_2_0, sh_node, sh_cage, sh_cmts, sh_mrow, sh_que, sh_qv, sh_task, sh_tpow, sh_thld, sh_filt, sh_fop, sh_ffs, sh_fsc, sh_walk, ka_nodes, ka_cages, ka_tasks, ka_filts, kf_node_0, kf_cage_0, kf_cage_9, kf_task_0, kf_task_6, kf_task_7, kf_filt_0, kf_filt_1, kf_filt_2, kf_que, kf_cage_11, kf_cage_12, gi_K, gi_node1, gr_node, gi_cage1, gr_cage1, gr_cmts, gi_task1, gr_task1, gi_tpow, gr_thld, gi_filt, gi_fop, gi_ffs, gi_fsc, gr_walk, gr_mrow, gi_que, gi_qv, w1, hp, hc4, so2, iv1.c_2 hc, iv1.p_4 hp]
        unfold make2 at hT1
        rw [n2, nI_clamp (show n < 2 ^ 31 by omega)] at hT1
        have hgo : ∀ d, (∀ Q, Vc (d + 2) 141 [rf (some 143), rf (some 2), rf (some (37 + 10 * c)), .int a, .int (nI (nms a - 1))] M Q = Q (some (.int (bI true))) M1) → ∀ Q, Vc (d + 3) 18 [rf (some 1), rf (some (78 + 3 * p)), .int a, .int b] M Q = V (d + 3) 18 66 [some (rf (some 1)), some (rf (some (78 + 3 * p))), some (.int a), some (.int b), some (.int (nI (nms a))), some (.int (nib a (nms a - 1))), some (rf (some (4 + n))), none] [] M1 Q := fun d h Q => by
          show V (d + 3) 18 0 [some (rf (some 1)), some (rf (some (78 + 3 * p))), some (.int a), some (.int b), none, none, none, none] [] M Q = _
          simp only [s_18_0, s_18_1, s_18_4, s_18_6, s_18_8, s_18_14, s_18_15, s_18_17, s_18_18, s_18_19, s_18_22, s_18_24, s_18_26, s_18_28, s_18_31, s_18_32, s_18_35, s_18_36, s_18_39, s_18_40, s_18_43, s_18_44, s_18_46, s_18_47, s_18_48, s_18_51, s_18_57, s_18_58, s_18_61, s_18_64, eq_self, Nat.reduceLT, Nat.reduceLeDiff, Nat.reduceMod, Nat.reduceDiv, Nat.reduceAdd, Nat.reduceMul, Option.toList_some, Option.toList_none, List.cons_append, List.nil_append, List.append_nil, n10, n00, if_true, if_false, b0, b1, nI_add, true_and, and_true, and_self, sh_1, sh_2, sh_3, sh_36, sh_77, sh_126, k_1_0, k_1_1, k_1_2, k_1_3, k_1_4, k_1_5, k_2_0, sh_node, sh_cage, sh_cmts, sh_mrow, sh_que, sh_qv, sh_task, sh_tpow, sh_thld, sh_filt, sh_fop, sh_ffs, sh_fsc, sh_walk, ka_nodes, ka_cages, ka_tasks, ka_filts, kf_node_0, kf_cage_0, kf_cage_9, kf_task_0, kf_task_6, kf_task_7, kf_filt_0, kf_filt_1, kf_filt_2, kf_que, kf_cage_11, kf_cage_12, gi_K, gi_node1, gr_node, gi_cage1, gr_cage1, gr_cmts, gi_task1, gr_task1, gi_tpow, gr_thld, gi_filt, gi_fop, gi_ffs, gi_fsc, gr_walk, gr_mrow, gi_que, gi_qv, hw, hp, o2, sh_143, k_namesIn, hz, es, k_nameAt hm7, h15, h, bI, cond_true, w1, g143, n4]
        have hg4 := hgo 2 h1
        by_cases hkd : s 4 n = 0 ∧ (nI 0 ≤ b ∧ b ≤ nI 1)
        · rw [if_pos hkd] at hT1
          obtain ⟨hkd1, hkd2⟩ := hkd
          cases hch : ffind (pFind s (nI n) (nib a (nms a - 1))) 1 31 with
          | some x =>
            rw [hch] at hT1
            have kk : ∀ d Q, V (d + 3) 18 66 [some (rf (some 1)), some (rf (some (78 + 3 * p))), some (.int a), some (.int b), some (.int (nI (nms a))), some (.int (nib a (nms a - 1))), some (rf (some (4 + n))), none] [] M1 Q = Q (some (.int (-8))) M1 := fun d Q => by
              simp only [s_18_0, s_18_1, s_18_4, s_18_6, s_18_8, s_18_11, s_18_13, s_18_14, s_18_15, s_18_17, s_18_18, s_18_19, s_18_22, s_18_24, s_18_26, s_18_28, s_18_31, s_18_32, s_18_35, s_18_36, s_18_39, s_18_40, s_18_43, s_18_44, s_18_46, s_18_47, s_18_48, s_18_51, s_18_54, s_18_56, s_18_57, s_18_58, s_18_61, s_18_64, s_18_66, s_18_68, s_18_71, s_18_74, s_18_75, s_18_78, s_18_81, s_18_83, s_18_84, s_18_85, s_18_88, s_18_90, s_18_92, s_18_95, s_18_98, s_18_100, s_18_101, s_18_102, s_18_104, s_18_107, s_18_110, s_18_112, s_18_113, s_18_114, s_18_117, s_18_120, s_18_122, s_18_124, s_18_127, s_18_129, s_18_130, s_18_131, s_18_132, s_18_135, s_18_138, s_18_141, s_18_143, s_18_144, s_18_146, s_18_148, s_18_150, s_18_151, s_18_152, s_18_155, s_18_156, s_18_159, s_18_162, s_18_164, s_18_167, eq_self, Nat.reduceLT, Nat.reduceLeDiff, Nat.reduceMod, Nat.reduceDiv, Nat.reduceAdd, Nat.reduceMul, Option.toList_some, Option.toList_none, List.cons_append, List.nil_append, List.append_nil, n10, n00, if_true, if_false, b0, b1, nI_add, true_and, and_true, and_self, sh_1, sh_2, sh_3, sh_36, sh_77, sh_126, k_1_0, k_1_1, k_1_2, k_1_3, k_1_4, k_1_5, k_2_0, sh_node, sh_cage, sh_cmts, sh_mrow, sh_que, sh_qv, sh_task, sh_tpow, sh_thld, sh_filt, sh_fop, sh_ffs, sh_fsc, sh_walk, ka_nodes, ka_cages, ka_tasks, ka_filts, kf_node_0, kf_cage_0, kf_cage_9, kf_task_0, kf_task_6, kf_task_7, kf_filt_0, kf_filt_1, kf_filt_2, kf_que, kf_cage_11, kf_cage_12, gi_K, gi_node1, gr_node, gi_cage1, gr_cage1, gr_cmts, gi_task1, gr_task1, gi_tpow, gr_thld, gi_filt, gi_fop, gi_ffs, gi_fsc, gr_walk, gr_mrow, gi_que, gi_qv, w1, n1, iv1.n_2 n1, hkd1, k_isKind, hkd2, k_childOf w1 iv1 (show n < 2 ^ 31 by omega), hch, nO_s, so_no]
            exact Pj_tr (M' := M1) (mp' := mp) (C' := C) hk iv hp hc hpc (fun Q => by rw [hT1]; exact pf_6 (d := 5) hw (fun Q => (hg4 Q).trans (kk 2 Q))) w1 h2.2.1 (by rw [hT1]; exact iv1.le (by omega))
          | none =>
            rw [hch] at hT1
            dsimp only at hT1
            by_cases hma : mayR s p c n
            · rw [if_pos hma] at hT1
              have hfr : pFr s = pFree s := rfl
              cases hff : ffind (pFree s) 1 31 with
              | none =>
                rw [hff] at hT1
                have kk : ∀ d Q, V (d + 3) 18 66 [some (rf (some 1)), some (rf (some (78 + 3 * p))), some (.int a), some (.int b), some (.int (nI (nms a))), some (.int (nib a (nms a - 1))), some (rf (some (4 + n))), none] [] M1 Q = Q (some (.int (-5))) M1 := fun d Q => by
                  simp only [s_18_0, s_18_1, s_18_4, s_18_6, s_18_8, s_18_11, s_18_13, s_18_14, s_18_15, s_18_17, s_18_18, s_18_19, s_18_22, s_18_24, s_18_26, s_18_28, s_18_31, s_18_32, s_18_35, s_18_36, s_18_39, s_18_40, s_18_43, s_18_44, s_18_46, s_18_47, s_18_48, s_18_51, s_18_54, s_18_56, s_18_57, s_18_58, s_18_61, s_18_64, s_18_66, s_18_68, s_18_71, s_18_74, s_18_75, s_18_78, s_18_81, s_18_83, s_18_84, s_18_85, s_18_88, s_18_90, s_18_92, s_18_95, s_18_98, s_18_100, s_18_101, s_18_102, s_18_104, s_18_107, s_18_110, s_18_112, s_18_113, s_18_114, s_18_117, s_18_120, s_18_122, s_18_124, s_18_127, s_18_129, s_18_130, s_18_131, s_18_132, s_18_135, s_18_138, s_18_141, s_18_143, s_18_144, s_18_146, s_18_148, s_18_150, s_18_151, s_18_152, s_18_155, s_18_156, s_18_159, s_18_162, s_18_164, s_18_167, eq_self, Nat.reduceLT, Nat.reduceLeDiff, Nat.reduceMod, Nat.reduceDiv, Nat.reduceAdd, Nat.reduceMul, Option.toList_some, Option.toList_none, List.cons_append, List.nil_append, List.append_nil, n10, n00, if_true, if_false, b0, b1, nI_add, true_and, and_true, and_self, sh_1, sh_2, sh_3, sh_36, sh_77, sh_126, k_1_0, k_1_1, k_1_2, k_1_3, k_1_4, k_1_5, k_2_0, sh_node, sh_cage, sh_cmts, sh_mrow, sh_que, sh_qv, sh_task, sh_tpow, sh_thld, sh_filt, sh_fop, sh_ffs, sh_fsc, sh_walk, ka_nodes, ka_cages, ka_tasks, ka_filts, kf_node_0, kf_cage_0, kf_cage_9, kf_task_0, kf_task_6, kf_task_7, kf_filt_0, kf_filt_1, kf_filt_2, kf_que, kf_cage_11, kf_cage_12, gi_K, gi_node1, gr_node, gi_cage1, gr_cage1, gr_cmts, gi_task1, gr_task1, gi_tpow, gr_thld, gi_filt, gi_fop, gi_ffs, gi_fsc, gr_walk, gr_mrow, gi_que, gi_qv, w1, n1, iv1.n_2 n1, hkd1, k_isKind, hkd2, k_childOf w1 iv1 (show n < 2 ^ 31 by omega), hch, nO_z, k_may w1 iv1 hp s24 spc hc n1 n3, eq_true hma, hp, k_firstFree w1 iv1, hfr, hff]
                exact Pj_tr (M' := M1) (mp' := mp) (C' := C) hk iv hp hc hpc (fun Q => by rw [hT1]; exact pf_6 (d := 5) hw (fun Q => (hg4 Q).trans (kk 2 Q))) w1 h2.2.1 (by rw [hT1]; exact iv1.le (by omega))
              | some x =>
                rw [hff] at hT1
                dsimp only at hT1
                obtain ⟨x1, x2, x3⟩ := ffind_in hff
                have hx : x < 32 := by omega
                have hx0 : s 1 x = 0 := of_decide_eq_true x3
                by_cases hov : ovr s false 4 (some c) = true
                · rw [if_pos hov] at hT1
                  have kk : ∀ d Q, V (d + 3) 18 66 [some (rf (some 1)), some (rf (some (78 + 3 * p))), some (.int a), some (.int b), some (.int (nI (nms a))), some (.int (nib a (nms a - 1))), some (rf (some (4 + n))), none] [] M1 Q = Q (some (.int (-6))) M1 := fun d Q => by
                    simp only [s_18_0, s_18_1, s_18_4, s_18_6, s_18_8, s_18_11, s_18_13, s_18_14, s_18_15, s_18_17, s_18_18, s_18_19, s_18_22, s_18_24, s_18_26, s_18_28, s_18_31, s_18_32, s_18_35, s_18_36, s_18_39, s_18_40, s_18_43, s_18_44, s_18_46, s_18_47, s_18_48, s_18_51, s_18_54, s_18_56, s_18_57, s_18_58, s_18_61, s_18_64, s_18_66, s_18_68, s_18_71, s_18_74, s_18_75, s_18_78, s_18_81, s_18_83, s_18_84, s_18_85, s_18_88, s_18_90, s_18_92, s_18_95, s_18_98, s_18_100, s_18_101, s_18_102, s_18_104, s_18_107, s_18_110, s_18_112, s_18_113, s_18_114, s_18_117, s_18_120, s_18_122, s_18_124, s_18_127, s_18_129, s_18_130, s_18_131, s_18_132, s_18_135, s_18_138, s_18_141, s_18_143, s_18_144, s_18_146, s_18_148, s_18_150, s_18_151, s_18_152, s_18_155, s_18_156, s_18_159, s_18_162, s_18_164, s_18_167, eq_self, Nat.reduceLT, Nat.reduceLeDiff, Nat.reduceMod, Nat.reduceDiv, Nat.reduceAdd, Nat.reduceMul, Option.toList_some, Option.toList_none, List.cons_append, List.nil_append, List.append_nil, n10, n00, if_true, if_false, b0, b1, nI_add, true_and, and_true, and_self, sh_1, sh_2, sh_3, sh_36, sh_77, sh_126, k_1_0, k_1_1, k_1_2, k_1_3, k_1_4, k_1_5, k_2_0, sh_node, sh_cage, sh_cmts, sh_mrow, sh_que, sh_qv, sh_task, sh_tpow, sh_thld, sh_filt, sh_fop, sh_ffs, sh_fsc, sh_walk, ka_nodes, ka_cages, ka_tasks, ka_filts, kf_node_0, kf_cage_0, kf_cage_9, kf_task_0, kf_task_6, kf_task_7, kf_filt_0, kf_filt_1, kf_filt_2, kf_que, kf_cage_11, kf_cage_12, gi_K, gi_node1, gr_node, gi_cage1, gr_cage1, gr_cmts, gi_task1, gr_task1, gi_tpow, gr_thld, gi_filt, gi_fop, gi_ffs, gi_fsc, gr_walk, gr_mrow, gi_que, gi_qv, w1, n1, iv1.n_2 n1, hkd1, k_isKind, hkd2, k_childOf w1 iv1 (show n < 2 ^ 31 by omega), hch, nO_z, nO_s, so_no, k_may w1 iv1 hp s24 spc hc n1 n3, eq_true hma, hp, so2, k_firstFree w1 iv1, hfr, hff, k_nq w1 iv1 hc, hov]
                  exact Pj_tr (M' := M1) (mp' := mp) (C' := C) hk iv hp hc hpc (fun Q => by rw [hT1]; exact pf_6 (d := 5) hw (fun Q => (hg4 Q).trans (kk 2 Q))) w1 h2.2.1 (by rw [hT1]; exact iv1.le (by omega))
                · rw [if_neg hov] at hT1
                  obtain ⟨w2, r2, i2, o2'⟩ := setM_ok w1 hx (a := some (4 + n)) (mo := some (37 + 10 * c)) (nm := nib a (nms a - 1)) (kd := b) (ow := s 9 c + s 27 p)
                  obtain ⟨o, ho, eo⟩ := iv1.hu hp s24 spc hc
                  have hst := fun (d : Nat) (Q : Option Value → mH → Prop) => k_settle (d := d) (M := M1) (Q := Q) w1 hx (a := some (4 + n)) (mo := some (37 + 10 * c)) (nm := nib a (nms a - 1)) (kd := b) (ow := s 9 c + s 27 p)
                  have kk : ∀ d Q, V (d + 3) 18 66 [some (rf (some 1)), some (rf (some (78 + 3 * p))), some (.int a), some (.int b), some (.int (nI (nms a))), some (.int (nib a (nms a - 1))), some (rf (some (4 + n))), none] [] M1 Q = Q (some (.int (nI x))) (setM M1 x (some (4 + n)) (nib a (nms a - 1)) b (s 9 c + s 27 p) (some (37 + 10 * c))) := fun d Q => by
                    simp only [s_18_0, s_18_1, s_18_4, s_18_6, s_18_8, s_18_11, s_18_13, s_18_14, s_18_15, s_18_17, s_18_18, s_18_19, s_18_22, s_18_24, s_18_26, s_18_28, s_18_31, s_18_32, s_18_35, s_18_36, s_18_39, s_18_40, s_18_43, s_18_44, s_18_46, s_18_47, s_18_48, s_18_51, s_18_54, s_18_56, s_18_57, s_18_58, s_18_61, s_18_64, s_18_66, s_18_68, s_18_71, s_18_74, s_18_75, s_18_78, s_18_81, s_18_83, s_18_84, s_18_85, s_18_88, s_18_90, s_18_92, s_18_95, s_18_98, s_18_100, s_18_101, s_18_102, s_18_104, s_18_107, s_18_110, s_18_112, s_18_113, s_18_114, s_18_117, s_18_120, s_18_122, s_18_124, s_18_127, s_18_129, s_18_130, s_18_131, s_18_132, s_18_135, s_18_138, s_18_141, s_18_143, s_18_144, s_18_146, s_18_148, s_18_150, s_18_151, s_18_152, s_18_155, s_18_156, s_18_159, s_18_162, s_18_164, s_18_167, eq_self, Nat.reduceLT, Nat.reduceLeDiff, Nat.reduceMod, Nat.reduceDiv, Nat.reduceAdd, Nat.reduceMul, Option.toList_some, Option.toList_none, List.cons_append, List.nil_append, List.append_nil, n10, n00, if_true, if_false, b0, b1, nI_add, true_and, and_true, and_self, sh_1, sh_2, sh_3, sh_36, sh_77, sh_126, k_1_0, k_1_1, k_1_2, k_1_3, k_1_4, k_1_5, k_2_0, sh_node, sh_cage, sh_cmts, sh_mrow, sh_que, sh_qv, sh_task, sh_tpow, sh_thld, sh_filt, sh_fop, sh_ffs, sh_fsc, sh_walk, ka_nodes, ka_cages, ka_tasks, ka_filts, kf_node_0, kf_cage_0, kf_cage_9, kf_task_0, kf_task_6, kf_task_7, kf_filt_0, kf_filt_1, kf_filt_2, kf_que, kf_cage_11, kf_cage_12, gi_K, gi_node1, gr_node, gi_cage1, gr_cage1, gr_cmts, gi_task1, gr_task1, gi_tpow, gr_thld, gi_filt, gi_fop, gi_ffs, gi_fsc, gr_walk, gr_mrow, gi_que, gi_qv, w1, n1, iv1.n_2 n1, hkd1, k_isKind, hkd2, k_childOf w1 iv1 (show n < 2 ^ 31 by omega), hch, nO_z, nO_s, so_no, k_may w1 iv1 hp s24 spc hc n1 n3, eq_true hma, hp, so2, k_firstFree w1 iv1, hfr, hff, k_nq w1 iv1 hc, hov, Bool.false_eq_true, hhu, hx, hst, w2]
                  obtain ⟨kb, hkb, ekb⟩ := in_nI (by decide) hkd2
                  have iv2 := iv_put iv1 (n := x) (a := n) (nm := nib a (nms a - 1)) (kd := b) (ow := s 9 c + s 27 p) (mk := nI c) (mo := some (37 + 10 * c)) hx hx0 n1 ⟨n3, hkd1⟩ (by rw [ekb]; rcases (show kb = 0 ∨ kb = 1 by omega) with rfl | rfl; exact Or.inl rfl; exact Or.inr rfl) ⟨o, ho, eo⟩ (Or.inr ⟨c, hc, rfl⟩) (cgO_n (by omega)).symm
                  exact Pj_tr (mp' := mp) (C' := C) hk iv hp hc hpc (fun Q => by rw [hT1]; exact pf_6 (d := 5) hw (fun Q => (hg4 Q).trans (kk 2 Q))) w2 (r2.trans h2.2.1) (by rw [hT1, i2, o2']; exact iv2.le (by omega))
            · rw [if_neg hma] at hT1
              have kk : ∀ d Q, V (d + 3) 18 66 [some (rf (some 1)), some (rf (some (78 + 3 * p))), some (.int a), some (.int b), some (.int (nI (nms a))), some (.int (nib a (nms a - 1))), some (rf (some (4 + n))), none] [] M1 Q = Q (some (.int (-4))) M1 := fun d Q => by
                simp only [s_18_0, s_18_1, s_18_4, s_18_6, s_18_8, s_18_11, s_18_13, s_18_14, s_18_15, s_18_17, s_18_18, s_18_19, s_18_22, s_18_24, s_18_26, s_18_28, s_18_31, s_18_32, s_18_35, s_18_36, s_18_39, s_18_40, s_18_43, s_18_44, s_18_46, s_18_47, s_18_48, s_18_51, s_18_54, s_18_56, s_18_57, s_18_58, s_18_61, s_18_64, s_18_66, s_18_68, s_18_71, s_18_74, s_18_75, s_18_78, s_18_81, s_18_83, s_18_84, s_18_85, s_18_88, s_18_90, s_18_92, s_18_95, s_18_98, s_18_100, s_18_101, s_18_102, s_18_104, s_18_107, s_18_110, s_18_112, s_18_113, s_18_114, s_18_117, s_18_120, s_18_122, s_18_124, s_18_127, s_18_129, s_18_130, s_18_131, s_18_132, s_18_135, s_18_138, s_18_141, s_18_143, s_18_144, s_18_146, s_18_148, s_18_150, s_18_151, s_18_152, s_18_155, s_18_156, s_18_159, s_18_162, s_18_164, s_18_167, eq_self, Nat.reduceLT, Nat.reduceLeDiff, Nat.reduceMod, Nat.reduceDiv, Nat.reduceAdd, Nat.reduceMul, Option.toList_some, Option.toList_none, List.cons_append, List.nil_append, List.append_nil, n10, n00, if_true, if_false, b0, b1, nI_add, true_and, and_true, and_self, sh_1, sh_2, sh_3, sh_36, sh_77, sh_126, k_1_0, k_1_1, k_1_2, k_1_3, k_1_4, k_1_5, k_2_0, sh_node, sh_cage, sh_cmts, sh_mrow, sh_que, sh_qv, sh_task, sh_tpow, sh_thld, sh_filt, sh_fop, sh_ffs, sh_fsc, sh_walk, ka_nodes, ka_cages, ka_tasks, ka_filts, kf_node_0, kf_cage_0, kf_cage_9, kf_task_0, kf_task_6, kf_task_7, kf_filt_0, kf_filt_1, kf_filt_2, kf_que, kf_cage_11, kf_cage_12, gi_K, gi_node1, gr_node, gi_cage1, gr_cage1, gr_cmts, gi_task1, gr_task1, gi_tpow, gr_thld, gi_filt, gi_fop, gi_ffs, gi_fsc, gr_walk, gr_mrow, gi_que, gi_qv, w1, n1, iv1.n_2 n1, hkd1, k_isKind, hkd2, k_childOf w1 iv1 (show n < 2 ^ 31 by omega), hch, nO_z, hp, k_may w1 iv1 hp s24 spc hc n1 n3, eq_false hma]
              exact Pj_tr (M' := M1) (mp' := mp) (C' := C) hk iv hp hc hpc (fun Q => by rw [hT1]; exact pf_6 (d := 5) hw (fun Q => (hg4 Q).trans (kk 2 Q))) w1 h2.2.1 (by rw [hT1]; exact iv1.le (by omega))
        · rw [if_neg hkd] at hT1
          have kk : ∀ d Q, V (d + 3) 18 66 [some (rf (some 1)), some (rf (some (78 + 3 * p))), some (.int a), some (.int b), some (.int (nI (nms a))), some (.int (nib a (nms a - 1))), some (rf (some (4 + n))), none] [] M1 Q = Q (some (.int (-3))) M1 := fun d Q => by
            by_cases g1 : s 4 n = 0
            · have g2 : ¬ (nI 0 ≤ b ∧ b ≤ nI 1) := fun z => hkd ⟨g1, z⟩
              simp only [s_18_0, s_18_1, s_18_4, s_18_6, s_18_8, s_18_11, s_18_13, s_18_14, s_18_15, s_18_17, s_18_18, s_18_19, s_18_22, s_18_24, s_18_26, s_18_28, s_18_31, s_18_32, s_18_35, s_18_36, s_18_39, s_18_40, s_18_43, s_18_44, s_18_46, s_18_47, s_18_48, s_18_51, s_18_54, s_18_56, s_18_57, s_18_58, s_18_61, s_18_64, s_18_66, s_18_68, s_18_71, s_18_74, s_18_75, s_18_78, s_18_81, s_18_83, s_18_84, s_18_85, s_18_88, s_18_90, s_18_92, s_18_95, s_18_98, s_18_100, s_18_101, s_18_102, s_18_104, s_18_107, s_18_110, s_18_112, s_18_113, s_18_114, s_18_117, s_18_120, s_18_122, s_18_124, s_18_127, s_18_129, s_18_130, s_18_131, s_18_132, s_18_135, s_18_138, s_18_141, s_18_143, s_18_144, s_18_146, s_18_148, s_18_150, s_18_151, s_18_152, s_18_155, s_18_156, s_18_159, s_18_162, s_18_164, s_18_167, eq_self, Nat.reduceLT, Nat.reduceLeDiff, Nat.reduceMod, Nat.reduceDiv, Nat.reduceAdd, Nat.reduceMul, Option.toList_some, Option.toList_none, List.cons_append, List.nil_append, List.append_nil, n10, n00, if_true, if_false, b0, b1, nI_add, true_and, and_true, and_self, sh_1, sh_2, sh_3, sh_36, sh_77, sh_126, k_1_0, k_1_1, k_1_2, k_1_3, k_1_4, k_1_5, k_2_0, sh_node, sh_cage, sh_cmts, sh_mrow, sh_que, sh_qv, sh_task, sh_tpow, sh_thld, sh_filt, sh_fop, sh_ffs, sh_fsc, sh_walk, ka_nodes, ka_cages, ka_tasks, ka_filts, kf_node_0, kf_cage_0, kf_cage_9, kf_task_0, kf_task_6, kf_task_7, kf_filt_0, kf_filt_1, kf_filt_2, kf_que, kf_cage_11, kf_cage_12, gi_K, gi_node1, gr_node, gi_cage1, gr_cage1, gr_cmts, gi_task1, gr_task1, gi_tpow, gr_thld, gi_filt, gi_fop, gi_ffs, gi_fsc, gr_walk, gr_mrow, gi_que, gi_qv, w1, n1, iv1.n_2 n1, g1, k_isKind, eq_false g2]
            · simp only [s_18_0, s_18_1, s_18_4, s_18_6, s_18_8, s_18_11, s_18_13, s_18_14, s_18_15, s_18_17, s_18_18, s_18_19, s_18_22, s_18_24, s_18_26, s_18_28, s_18_31, s_18_32, s_18_35, s_18_36, s_18_39, s_18_40, s_18_43, s_18_44, s_18_46, s_18_47, s_18_48, s_18_51, s_18_54, s_18_56, s_18_57, s_18_58, s_18_61, s_18_64, s_18_66, s_18_68, s_18_71, s_18_74, s_18_75, s_18_78, s_18_81, s_18_83, s_18_84, s_18_85, s_18_88, s_18_90, s_18_92, s_18_95, s_18_98, s_18_100, s_18_101, s_18_102, s_18_104, s_18_107, s_18_110, s_18_112, s_18_113, s_18_114, s_18_117, s_18_120, s_18_122, s_18_124, s_18_127, s_18_129, s_18_130, s_18_131, s_18_132, s_18_135, s_18_138, s_18_141, s_18_143, s_18_144, s_18_146, s_18_148, s_18_150, s_18_151, s_18_152, s_18_155, s_18_156, s_18_159, s_18_162, s_18_164, s_18_167, eq_self, Nat.reduceLT, Nat.reduceLeDiff, Nat.reduceMod, Nat.reduceDiv, Nat.reduceAdd, Nat.reduceMul, Option.toList_some, Option.toList_none, List.cons_append, List.nil_append, List.append_nil, n10, n00, if_true, if_false, b0, b1, nI_add, true_and, and_true, and_self, sh_1, sh_2, sh_3, sh_36, sh_77, sh_126, k_1_0, k_1_1, k_1_2, k_1_3, k_1_4, k_1_5, k_2_0, sh_node, sh_cage, sh_cmts, sh_mrow, sh_que, sh_qv, sh_task, sh_tpow, sh_thld, sh_filt, sh_fop, sh_ffs, sh_fsc, sh_walk, ka_nodes, ka_cages, ka_tasks, ka_filts, kf_node_0, kf_cage_0, kf_cage_9, kf_task_0, kf_task_6, kf_task_7, kf_filt_0, kf_filt_1, kf_filt_2, kf_que, kf_cage_11, kf_cage_12, gi_K, gi_node1, gr_node, gi_cage1, gr_cage1, gr_cmts, gi_task1, gr_task1, gi_tpow, gr_thld, gi_filt, gi_fop, gi_ffs, gi_fsc, gr_walk, gr_mrow, gi_que, gi_qv, w1, n1, iv1.n_2 n1, g1]
          exact Pj_tr (M' := M1) (mp' := mp) (C' := C) hk iv hp hc hpc (fun Q => by rw [hT1]; exact pf_6 (d := 5) hw (fun Q => (hg4 Q).trans (kk 2 Q))) w1 h2.2.1 (by rw [hT1]; exact iv1.le (by omega))
      · have hT : treeR r p c C 4 6 a b = (-2, (follR c 4 a (nms a - 1) r).2) := by rw [hT0]; unfold makeR; rw [if_neg (fun z => z.elim h0 h15), if_neg hf]
        rw [Bool.eq_false_iff.2 hf] at h1
        have kk : ∀ d, (∀ Q, Vc (d + 1) 141 [rf (some 143), rf (some 2), rf (some (37 + 10 * c)), .int a, .int (nI (nms a - 1))] M Q = Q (some (.int (bI false))) M1) → ∀ Q, Vc (d + 2) 18 [rf (some 1), rf (some (78 + 3 * p)), .int a, .int b] M Q = Q (some (.int (-2))) M1 := fun d h Q => by
          show V (d + 2) 18 0 [some (rf (some 1)), some (rf (some (78 + 3 * p))), some (.int a), some (.int b), none, none, none, none] [] M Q = _
          simp only [s_18_0, s_18_1, s_18_4, s_18_6, s_18_8, s_18_14, s_18_15, s_18_17, s_18_18, s_18_19, s_18_22, s_18_24, s_18_26, s_18_28, s_18_31, s_18_32, s_18_35, s_18_36, s_18_39, s_18_40, s_18_43, s_18_44, s_18_46, s_18_47, s_18_48, s_18_51, s_18_54, s_18_56, eq_self, Nat.reduceLT, Nat.reduceLeDiff, Nat.reduceMod, Nat.reduceDiv, Nat.reduceAdd, Nat.reduceMul, Option.toList_some, Option.toList_none, List.cons_append, List.nil_append, List.append_nil, n10, n00, if_true, if_false, b0, b1, nI_add, true_and, and_true, and_self, sh_1, sh_2, sh_3, sh_36, sh_77, sh_126, k_1_0, k_1_1, k_1_2, k_1_3, k_1_4, k_1_5, k_2_0, sh_node, sh_cage, sh_cmts, sh_mrow, sh_que, sh_qv, sh_task, sh_tpow, sh_thld, sh_filt, sh_fop, sh_ffs, sh_fsc, sh_walk, ka_nodes, ka_cages, ka_tasks, ka_filts, kf_node_0, kf_cage_0, kf_cage_9, kf_task_0, kf_task_6, kf_task_7, kf_filt_0, kf_filt_1, kf_filt_2, kf_que, kf_cage_11, kf_cage_12, gi_K, gi_node1, gr_node, gi_cage1, gr_cage1, gr_cmts, gi_task1, gr_task1, gi_tpow, gr_thld, gi_filt, gi_fop, gi_ffs, gi_fsc, gr_walk, gr_mrow, gi_que, gi_qv, hw, hp, o2, sh_143, k_namesIn, hz, es, k_nameAt hm7, h15, h, bI, cond_false]
        exact Pj_tr (M' := M1) (mp' := mp) (C' := C) hk iv hp hc hpc (fun Q => by rw [hT]; exact pf_6 (d := 5) hw (kk 3 h1)) w1 h2.2.1 (by rw [hT]; exact iv1.le (by omega))
/-! REMOVE -/
theorem ffind_iff {q : Nat → Bool} {a k : Nat} : (ffind q a k).isSome = true ↔ ∃ j, a ≤ j ∧ j < a + k ∧ q j = true := by
  constructor
  · intro h
    obtain ⟨x, hx⟩ := Option.isSome_iff_exists.1 h
    obtain ⟨h1, h2, h3⟩ := ffind_in hx
    exact ⟨x, h1, h2, h3⟩
  · rintro ⟨j, h1, h2, h3⟩
    cases hf : ffind q a k with
    | some x => rfl
    | none =>
      have := ffind_none hf j h1 h2
      rw [h3] at this
      exact absurd this (by decide)
def qMn (r : RS) (mp : MP) (n c i : Nat) : Bool := decide (r 19 (mp.2.1 c i) = nI n ∨ r 21 (mp.2.1 c i) = nI n)
theorem k_hasM_l (hw : wf M) (iv : IV (ig M) (og M) r C t mp) (hc : c < 4) (hn : n < 32) : ∀ k i, i + k = mp.1 c → V d 107 2 [some (rf (some (37 + 10 * c))), some (rf (some (4 + n))), some (.int (nI i))] [] M Q = if (ffind (qMn r mp n c) i k).isSome = true then Q (some (.int (nI 1))) M else Q (some (.int (nI 0))) M := by
  have hn4 := (iv.m1 c hc).1
  intro k
  induction k with
  | zero =>
    intro i hi
    rw [s_107_2]
    simp only [s_107_0, s_107_1, s_107_3, s_107_4, s_107_7, s_107_10, s_107_11, s_107_12, s_107_15, s_107_16, s_107_19, s_107_20, s_107_21, s_107_24, s_107_25, s_107_28, s_107_29, s_107_32, s_107_33, s_107_34, s_107_37, s_107_38, s_107_41, s_107_42, s_107_43, s_107_46, s_107_49, s_107_50, eq_self, Nat.reduceLT, Nat.reduceLeDiff, Nat.reduceMod, Nat.reduceDiv, Nat.reduceAdd, Nat.reduceMul, Option.toList_some, Option.toList_none, List.cons_append, List.nil_append, List.append_nil, n10, n00, if_true, if_false, b0, b1, nI_add, true_and, and_true, and_self, sh_1, sh_2, sh_3, sh_36, sh_77, sh_126, k_1_0, k_1_1, k_1_2, k_1_3, k_1_4, k_1_5, k_2_0, sh_node, sh_cage, sh_cmts, sh_mrow, sh_que, sh_qv, sh_task, sh_tpow, sh_thld, sh_filt, sh_fop, sh_ffs, sh_fsc, sh_walk, ka_nodes, ka_cages, ka_tasks, ka_filts, kf_node_0, kf_cage_0, kf_cage_9, kf_task_0, kf_task_6, kf_task_7, kf_filt_0, kf_filt_1, kf_filt_2, kf_que, kf_cage_11, kf_cage_12, gi_K, gi_node1, gr_node, gi_cage1, gr_cage1, gr_cmts, gi_task1, gr_task1, gi_tpow, gr_thld, gi_filt, gi_fop, gi_ffs, gi_fsc, gr_walk, gr_mrow, gi_que, gi_qv, hw, hc, iv.c_10 hc, ← hi, Nat.add_zero, show nI i ≤ nI i from Int32.le_refl _, ffind, Option.isSome_none, Bool.false_eq_true]
  | succ k ih =>
    intro i hi
    have hlt : i < mp.1 c := by omega
    have h4 : i < 4 := by omega
    obtain ⟨hpi, ho3⟩ := (iv.m1 c hc).2.2.2.1 i h4
    obtain ⟨-, -, -, ⟨x, x1, x2, x3, x4, x5⟩, ⟨b, y1, y2, y3, y4, y5⟩, -⟩ := iv.m2 c hc i hlt
    have hq : qMn r mp n c i = decide (x = n ∨ b = n) := by
      unfold qMn
      rw [x2, y2]
      have e1 : (nI x = nI n) = (x = n) := propext (nI_eq (by omega) (by omega))
      have e2 : (nI b = nI n) = (b = n) := propext (nI_eq (by omega) (by omega))
      simp only [e1, e2]
    rw [s_107_2]
    simp only [s_107_0, s_107_1, s_107_3, s_107_4, s_107_7, s_107_10, s_107_11, s_107_12, s_107_15, s_107_16, s_107_19, s_107_20, s_107_21, s_107_24, s_107_25, s_107_28, s_107_29, s_107_32, s_107_33, s_107_34, s_107_37, s_107_38, s_107_41, s_107_42, s_107_43, s_107_46, s_107_49, s_107_50, eq_self, Nat.reduceLT, Nat.reduceLeDiff, Nat.reduceMod, Nat.reduceDiv, Nat.reduceAdd, Nat.reduceMul, Option.toList_some, Option.toList_none, List.cons_append, List.nil_append, List.append_nil, n10, n00, if_true, if_false, b0, b1, nI_add, true_and, and_true, and_self, sh_1, sh_2, sh_3, sh_36, sh_77, sh_126, k_1_0, k_1_1, k_1_2, k_1_3, k_1_4, k_1_5, k_2_0, sh_node, sh_cage, sh_cmts, sh_mrow, sh_que, sh_qv, sh_task, sh_tpow, sh_thld, sh_filt, sh_fop, sh_ffs, sh_fsc, sh_walk, ka_nodes, ka_cages, ka_tasks, ka_filts, kf_node_0, kf_cage_0, kf_cage_9, kf_task_0, kf_task_6, kf_task_7, kf_filt_0, kf_filt_1, kf_filt_2, kf_que, kf_cage_11, kf_cage_12, gi_K, gi_node1, gr_node, gi_cage1, gr_cage1, gr_cmts, gi_task1, gr_task1, gi_tpow, gr_thld, gi_filt, gi_fop, gi_ffs, gi_fsc, gr_walk, gr_mrow, gi_que, gi_qv, hw, hc, h4, hpi, iv.c_10 hc, nI_ge hlt (by omega), nI_ge h4 (by decide), ho3, x5, y5, nO_ne, ih (i + 1) (by omega), ffind, hq]
    by_cases e1 : x = n
    · simp only [e1, true_or, if_true, decide_true, cond_true, Option.isSome_some]
    · by_cases e2 : b = n
      · simp only [e1, e2, or_true, if_true, if_false, decide_true, cond_true, Option.isSome_some]
      · simp only [e1, e2, or_self, if_false, decide_false, cond_false]
theorem k_hasM (hw : wf M) (iv : IV (ig M) (og M) r C t mp) (hc : c < 4) (hn : n < 32) : Vc d 107 [rf (some (37 + 10 * c)), rf (some (4 + n))] M Q = if (ffind (qMn r mp n c) 0 (mp.1 c)).isSome = true then Q (some (.int (nI 1))) M else Q (some (.int (nI 0))) M := by
  show V d 107 0 [some (rf (some (37 + 10 * c))), some (rf (some (4 + n))), none] [] M Q = _
  rw [s_107_0, s_107_1, k_hasM_l hw iv hc hn (mp.1 c) 0 (by omega)]
def qIU (r : RS) (mp : MP) (n c : Nat) : Bool := pRoot r (nI n) c || (ffind (qMn r mp n c) 0 (mp.1 c)).isSome
theorem k_inUse_l (hw : wf M) (iv : IV (ig M) (og M) r C t mp) (hn : n < 32) : ∀ k i, i + k = C → V (d + 1) 43 2 [some (rf (some 1)), some (rf (some (4 + n))), some (.int (nI i))] [] M Q = if (ffind (qIU r mp n) i k).isSome = true then Q (some (.int (nI 1))) M else Q (some (.int (nI 0))) M := by
  have hC4 := iv.C4
  intro k
  induction k with
  | zero =>
    intro i hi
    obtain rfl : i = C := by omega
    rw [s_43_2]
    simp only [s_43_0, s_43_1, s_43_3, s_43_4, s_43_7, s_43_10, s_43_11, s_43_12, s_43_15, s_43_16, s_43_19, s_43_20, s_43_21, s_43_24, s_43_25, s_43_28, s_43_29, s_43_32, s_43_33, s_43_34, s_43_35, s_43_38, s_43_41, s_43_42, s_43_43, s_43_46, s_43_49, s_43_50, eq_self, Nat.reduceLT, Nat.reduceLeDiff, Nat.reduceMod, Nat.reduceDiv, Nat.reduceAdd, Nat.reduceMul, Option.toList_some, Option.toList_none, List.cons_append, List.nil_append, List.append_nil, n10, n00, if_true, if_false, b0, b1, nI_add, true_and, and_true, and_self, sh_1, sh_2, sh_3, sh_36, sh_77, sh_126, k_1_0, k_1_1, k_1_2, k_1_3, k_1_4, k_1_5, k_2_0, sh_node, sh_cage, sh_cmts, sh_mrow, sh_que, sh_qv, sh_task, sh_tpow, sh_thld, sh_filt, sh_fop, sh_ffs, sh_fsc, sh_walk, ka_nodes, ka_cages, ka_tasks, ka_filts, kf_node_0, kf_cage_0, kf_cage_9, kf_task_0, kf_task_6, kf_task_7, kf_filt_0, kf_filt_1, kf_filt_2, kf_que, kf_cage_11, kf_cage_12, gi_K, gi_node1, gr_node, gi_cage1, gr_cage1, gr_cmts, gi_task1, gr_task1, gi_tpow, gr_thld, gi_filt, gi_fop, gi_ffs, gi_fsc, gr_walk, gr_mrow, gi_que, gi_qv, hw, iv.k_6, show nI i ≤ nI i from Int32.le_refl _, ffind, Option.isSome_none, Bool.false_eq_true]
  | succ k ih =>
    intro i hi
    have hlt : i < C := by omega
    have h4 : i < 4 := by omega
    obtain ⟨b, y1, y2, -⟩ := (iv.c i hlt).2.2.2.2.2.2.1
    have hq : pRoot r (nI n) i = decide (b = n) := by
      unfold pRoot
      rw [y2]
      have e1 : (nI b = nI n) = (b = n) := propext (nI_eq (by omega) (by omega))
      simp only [e1]
    rw [s_43_2]
    simp only [s_43_0, s_43_1, s_43_3, s_43_4, s_43_7, s_43_10, s_43_11, s_43_12, s_43_15, s_43_16, s_43_19, s_43_20, s_43_21, s_43_24, s_43_25, s_43_28, s_43_29, s_43_32, s_43_33, s_43_34, s_43_35, s_43_38, s_43_41, s_43_42, s_43_43, s_43_46, s_43_49, s_43_50, eq_self, Nat.reduceLT, Nat.reduceLeDiff, Nat.reduceMod, Nat.reduceDiv, Nat.reduceAdd, Nat.reduceMul, Option.toList_some, Option.toList_none, List.cons_append, List.nil_append, List.append_nil, n10, n00, if_true, if_false, b0, b1, nI_add, true_and, and_true, and_self, sh_1, sh_2, sh_3, sh_36, sh_77, sh_126, k_1_0, k_1_1, k_1_2, k_1_3, k_1_4, k_1_5, k_2_0, sh_node, sh_cage, sh_cmts, sh_mrow, sh_que, sh_qv, sh_task, sh_tpow, sh_thld, sh_filt, sh_fop, sh_ffs, sh_fsc, sh_walk, ka_nodes, ka_cages, ka_tasks, ka_filts, kf_node_0, kf_cage_0, kf_cage_9, kf_task_0, kf_task_6, kf_task_7, kf_filt_0, kf_filt_1, kf_filt_2, kf_que, kf_cage_11, kf_cage_12, gi_K, gi_node1, gr_node, gi_cage1, gr_cage1, gr_cmts, gi_task1, gr_task1, gi_tpow, gr_thld, gi_filt, gi_fop, gi_ffs, gi_fsc, gr_walk, gr_mrow, gi_que, gi_qv, hw, h4, iv.k_6, nI_ge hlt (by omega), nI_ge h4 (by decide), iv.c_1 hlt, y2, ndO_n (show b < 2 ^ 31 by omega), nO_ne, k_hasM hw iv h4 hn, ih (i + 1) (by omega), ffind, qIU, hq]
    by_cases e1 : b = n
    · simp only [e1, if_true, decide_true, Bool.true_or, cond_true, Option.isSome_some]
    · by_cases e2 : (ffind (qMn r mp n i) 0 (mp.1 i)).isSome = true
      · simp only [e1, e2, if_true, if_false, decide_false, Bool.false_or, cond_true, Option.isSome_some]
      · simp only [e1, e2, Bool.eq_false_iff.2 e2, Bool.false_eq_true, if_false, decide_false, Bool.false_or, cond_false]
theorem k_inUse (hw : wf M) (iv : IV (ig M) (og M) r C t mp) (hn : n < 32) : Vc (d + 1) 43 [rf (some 1), rf (some (4 + n))] M Q = if (ffind (qIU r mp n) 0 C).isSome = true then Q (some (.int (nI 1))) M else Q (some (.int (nI 0))) M := by
  show V (d + 1) 43 0 [some (rf (some 1)), some (rf (some (4 + n))), none] [] M Q = _
  rw [s_43_0, s_43_1, k_inUse_l hw iv hn C 0 (by omega)]
theorem inUse_eq (iv : IV I O r C t mp) : (ffind (qIU r mp n) 0 C).isSome = ((ffind (pRoot r (nI n)) 0 C).isSome || (ffind (pMnt r (nI n)) 0 16).isSome) := by
  have hC4 := iv.C4
  rw [Bool.eq_iff_iff, Bool.or_eq_true, ffind_iff, ffind_iff, ffind_iff]
  constructor
  · rintro ⟨j, h1, h2, h3⟩
    unfold qIU at h3
    rw [Bool.or_eq_true] at h3
    rcases h3 with h3 | h3
    · exact Or.inl ⟨j, h1, h2, h3⟩
    · obtain ⟨i, i1, i2, i3⟩ := ffind_iff.1 h3
      have hi : i < mp.1 j := by omega
      have hlt := pos_lt iv.m2 (show j < 4 by omega) hi
      refine Or.inr ⟨mp.2.1 j i, by omega, by omega, decide_eq_true ⟨(iv.m2 j (by omega) i hi).2.1, of_decide_eq_true i3⟩⟩
  · rintro (⟨j, h1, h2, h3⟩ | ⟨k, h1, h2, h3⟩)
    · exact ⟨j, h1, h2, by unfold qIU; rw [h3, Bool.true_or]⟩
    · obtain ⟨k1, k2⟩ := of_decide_eq_true h3
      obtain ⟨c', i, g1, g2, g3⟩ := iv.m4 k (by omega) k1
      have hcC : c' < C := by
        by_cases z : c' < C
        · exact z
        · have := (iv.m1 c' g1).2.1 (by omega)
          omega
      refine ⟨c', by omega, by omega, ?_⟩
      unfold qIU
      rw [Bool.or_eq_true]
      refine Or.inr (ffind_iff.2 ⟨i, by omega, by omega, decide_eq_true ?_⟩)
      rw [g3]; exact k2
theorem no_ent (iv : IV I O r C t mp) (hn : n < 32) (h4 : ¬ r 4 n = 0) : cnt (pEnt r (nI n)) 1 31 = 0 := by
  have h : ∀ j, 1 ≤ j → j < 1 + 31 → pEnt r (nI n) j = (fun _ => false) j := fun j h1 h2 => by
    refine decide_eq_false (fun z => ?_)
    rcases (iv.n2 j (by omega) z.1).2.2.1 with e | ⟨m, m1, m2, m3, m4⟩
    · omega
    · rw [z.2] at m2
      exact h4 (by rw [(nI_eq (by omega) (by omega)).1 m2]; exact m4)
  rw [cnt_cg 31 1 h]
  have hz : ∀ k a, cnt (fun _ => false) a k = 0 := fun k => by
    induction k with
    | zero => intro a; rfl
    | succ k ih => intro a; simp only [cnt, ih, cond_false]
  exact hz 31 1
theorem cnt_no {q : Nat → Bool} : ∀ k a, cnt q a k = 0 → ∀ j, a ≤ j → j < a + k → q j = false := by
  intro k
  induction k with
  | zero => intro a _ j h1 h2; omega
  | succ k ih =>
    intro a h j h1 h2
    simp only [cnt] at h
    cases hq : q a with
    | true => rw [hq, cond_true] at h; omega
    | false =>
      rw [hq, cond_false] at h
      by_cases e : j = a
      · rw [e]; exact hq
      · exact ih (a + 1) (by omega) j (by omega) (by omega)
theorem iv_rem (iv : IV I O r C t mp) (hn : n < 32) (hn0 : ¬ n = 0) (hr : ∀ j, j < C → ¬ r 8 j = nI n) (hm : ∀ k, k < 16 → ¬ r 18 k = 0 → ¬ r 19 k = nI n ∧ ¬ r 21 k = nI n) (he : ∀ j, 1 ≤ j → j < 32 → ¬ r 1 j = 0 → ¬ r 2 j = nI n) : IV (iu I 1 n 1 (nI 0)) (ou (ou O 1 n 6 none) 1 n 7 none) (ru r 1 n (nI 0)) C t mp := by
  have hn0' : ¬ 0 = n := fun z => hn0 z.symm
  refine ⟨?_, ?_, ?_, iv.k.cg (by simp only [eq_self, ru, iu, ou, eq_self, Nat.reduceEqDiff, false_and, and_false, if_false, true_and, and_true, and_self, implies_true]) (by simp only [eq_self, ru, iu, ou, eq_self, Nat.reduceEqDiff, false_and, and_false, if_false, true_and, and_true, and_self, implies_true]), ?_, iv.g.cg (by simp only [eq_self, ru, iu, ou, eq_self, Nat.reduceEqDiff, false_and, and_false, if_false, true_and, and_true, and_self, implies_true]) (by simp only [eq_self, ru, iu, ou, eq_self, Nat.reduceEqDiff, false_and, and_false, if_false, true_and, and_true, and_self, implies_true]), iv.p1.cg (by simp only [eq_self, ru, iu, ou, eq_self, Nat.reduceEqDiff, false_and, and_false, if_false, true_and, and_true, and_self, implies_true]) (by simp only [eq_self, ru, iu, ou, eq_self, Nat.reduceEqDiff, false_and, and_false, if_false, true_and, and_true, and_self, implies_true]), iv.p2.cg (by simp only [eq_self, ru, iu, ou, eq_self, Nat.reduceEqDiff, false_and, and_false, if_false, true_and, and_true, and_self, implies_true]) (by simp only [eq_self, ru, iu, ou, eq_self, Nat.reduceEqDiff, false_and, and_false, if_false, true_and, and_true, and_self, implies_true]), iv.p3.cg (by simp only [eq_self, ru, iu, ou, eq_self, Nat.reduceEqDiff, false_and, and_false, if_false, true_and, and_true, and_self, implies_true]), iv.p4.cg (by simp only [eq_self, ru, iu, ou, eq_self, Nat.reduceEqDiff, false_and, and_false, if_false, true_and, and_true, and_self, implies_true]), iv.i.cg (by simp only [eq_self, ru, iu, ou, eq_self, Nat.reduceEqDiff, false_and, and_false, if_false, true_and, and_true, and_self, implies_true]) (by simp only [eq_self, ru, iu, ou, eq_self, Nat.reduceEqDiff, false_and, and_false, if_false, true_and, and_true, and_self, implies_true]), iv.h.cg (by simp only [eq_self, ru, iu, ou, eq_self, Nat.reduceEqDiff, false_and, and_false, if_false, true_and, and_true, and_self, implies_true]) (by simp only [eq_self, ru, iu, ou, eq_self, Nat.reduceEqDiff, false_and, and_false, if_false, true_and, and_true, and_self, implies_true]), iv.f1.cg (by simp only [eq_self, ru, iu, ou, eq_self, Nat.reduceEqDiff, false_and, and_false, if_false, true_and, and_true, and_self, implies_true]) (by simp only [eq_self, ru, iu, ou, eq_self, Nat.reduceEqDiff, false_and, and_false, if_false, true_and, and_true, and_self, implies_true]) (by simp only [eq_self, ru, iu, ou, eq_self, Nat.reduceEqDiff, false_and, and_false, if_false, true_and, and_true, and_self, implies_true]), iv.f2.cg (by simp only [eq_self, ru, iu, ou, eq_self, Nat.reduceEqDiff, false_and, and_false, if_false, true_and, and_true, and_self, implies_true]), iv.q.cg (by simp only [eq_self, ru, iu, ou, eq_self, Nat.reduceEqDiff, false_and, and_false, if_false, true_and, and_true, and_self, implies_true]) (by simp only [eq_self, ru, iu, ou, eq_self, Nat.reduceEqDiff, false_and, and_false, if_false, true_and, and_true, and_self, implies_true]) (by simp only [eq_self, ru, iu, ou, eq_self, Nat.reduceEqDiff, false_and, and_false, if_false, true_and, and_true, and_self, implies_true]), iv.m1.cg (by simp only [eq_self, ru, iu, ou, eq_self, Nat.reduceEqDiff, false_and, and_false, if_false, true_and, and_true, and_self, implies_true]) (by simp only [eq_self, ru, iu, ou, eq_self, Nat.reduceEqDiff, false_and, and_false, if_false, true_and, and_true, and_self, implies_true]), ?_, iv.m3.cg (by simp only [eq_self, ru, iu, ou, eq_self, Nat.reduceEqDiff, false_and, and_false, if_false, true_and, and_true, and_self, implies_true]) (by simp only [eq_self, ru, iu, ou, eq_self, Nat.reduceEqDiff, false_and, and_false, if_false, true_and, and_true, and_self, implies_true]), iv.m4.cg (by simp only [eq_self, ru, iu, ou, eq_self, Nat.reduceEqDiff, false_and, and_false, if_false, true_and, and_true, and_self, implies_true])⟩
  · intro k hk
    have h := iv.n1 k hk
    by_cases e : k = n
    · subst e; simp only [ru, iu, ou, eq_self, Nat.reduceEqDiff, false_and, and_false, if_false, true_and, and_true, and_self, if_true]; exact h.2
    · simp only [ru, iu, ou, eq_self, Nat.reduceEqDiff, false_and, and_false, if_false, true_and, and_true, and_self, e]; exact h
  · intro k hk h1
    by_cases e : k = n
    · subst e; simp only [ru, iu, ou, eq_self, Nat.reduceEqDiff, false_and, and_false, if_false, true_and, and_true, and_self, if_true, n00, not_true] at h1
    · simp only [ru, iu, ou, eq_self, Nat.reduceEqDiff, false_and, and_false, if_false, true_and, and_true, and_self, e] at h1
      obtain ⟨g1, g2, g3, g4, g5, g6⟩ := iv.n2 k hk h1
      simp only [ru, iu, ou, eq_self, Nat.reduceEqDiff, false_and, and_false, if_false, true_and, and_true, and_self, e]
      refine ⟨g1, g2, ?_, g4, g5, g6⟩
      rcases g3 with g3 | ⟨m, m1, m2, m3, m4⟩
      · exact Or.inl g3
      · by_cases k0 : k = 0
        · exact Or.inl k0
        · have em : ¬ m = n := fun z => he k (by omega) hk h1 (by rw [m2, z])
          exact Or.inr ⟨m, m1, m2, by simp only [em, if_false]; exact m3, m4⟩
  · simp only [gN3, ru, iu, ou, eq_self, Nat.reduceEqDiff, false_and, and_false, if_false, true_and, and_true, and_self, hn0']
    exact iv.n3
  · intro x hx
    obtain ⟨h1, h2, h3, h4, h5, h6, ⟨a, a1, a2, a3, a4⟩, h8, h9⟩ := iv.c x hx
    have ea : ¬ a = n := fun z => hr x hx (by rw [a2, z])
    simp only [ru, iu, ou, eq_self, Nat.reduceEqDiff, false_and, and_false, if_false, true_and, and_true, and_self]
    exact ⟨h1, h2, h3, h4, h5, h6, ⟨a, a1, a2, by simp only [ea, if_false]; exact a3, a4⟩, h8, h9⟩
  · intro x hx i hi
    obtain ⟨h1, h2, h3, ⟨a, a1, a2, a3, a4, a5⟩, ⟨b, b1, b2, b3, b4, b5⟩, h6⟩ := iv.m2 x hx i hi
    have hlt := pos_lt iv.m2 hx hi
    obtain ⟨q1, q2⟩ := hm _ (by omega) h2
    have ea : ¬ a = n := fun z => q1 (by rw [a2, z])
    have eb : ¬ b = n := fun z => q2 (by rw [b2, z])
    have hd : ∀ x y, Desc (ru r 1 n (nI 0)) x y = Desc r x y := fun x y => Desc.eq (fun k => by simp only [ru, iu, ou, eq_self, Nat.reduceEqDiff, false_and, and_false, if_false, true_and, and_true, and_self])
    simp only [hd, ru, iu, ou, eq_self, Nat.reduceEqDiff, false_and, and_false, if_false, true_and, and_true, and_self]
    exact ⟨h1, h2, h3, ⟨a, a1, a2, by simp only [ea, if_false]; exact a3, a4, a5⟩, ⟨b, b1, b2, by simp only [eb, if_false]; exact b3, b4, b5⟩, h6⟩
theorem k_nrel (hw : wf M) (hn : n < 32) : Vc d 117 [rf (some (4 + n))] M Q = Q none (mu (mu (mu M (4 + n) 1 (.int (nI 0))) (4 + n) 6 (rf none)) (4 + n) 7 (rf none)) := by
  have w1 := C_node_1 hw hn b0
  have w2 := C_node_6 w1.w hn (x := none)
  show V d 117 0 [some (rf (some (4 + n)))] [] M Q = _
  simp only [s_117_0, s_117_1, s_117_2, s_117_5, s_117_6, s_117_7, s_117_10, s_117_11, s_117_12, s_117_15, eq_self, Nat.reduceLT, Nat.reduceLeDiff, Nat.reduceMod, Nat.reduceDiv, Nat.reduceAdd, Nat.reduceMul, Option.toList_some, Option.toList_none, List.cons_append, List.nil_append, List.append_nil, n10, n00, if_true, if_false, b0, b1, nI_add, true_and, and_true, and_self, sh_1, sh_2, sh_3, sh_36, sh_77, sh_126, k_1_0, k_1_1, k_1_2, k_1_3, k_1_4, k_1_5, k_2_0, sh_node, sh_cage, sh_cmts, sh_mrow, sh_que, sh_qv, sh_task, sh_tpow, sh_thld, sh_filt, sh_fop, sh_ffs, sh_fsc, sh_walk, ka_nodes, ka_cages, ka_tasks, ka_filts, kf_node_0, kf_cage_0, kf_cage_9, kf_task_0, kf_task_6, kf_task_7, kf_filt_0, kf_filt_1, kf_filt_2, kf_que, kf_cage_11, kf_cage_12, gi_K, gi_node1, gr_node, gi_cage1, gr_cage1, gr_cmts, gi_task1, gr_task1, gi_tpow, gr_thld, gi_filt, gi_fop, gi_ffs, gi_fsc, gr_walk, gr_mrow, gi_que, gi_qv, hw, hn, w1.w, w2.w]
end
