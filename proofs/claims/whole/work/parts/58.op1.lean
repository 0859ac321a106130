section
variable {d : Nat} {M : mH} {Q : Option Value → mH → Prop} {C t : Nat} {mp : MP} {I : CI} {O : CO} {r : RS}
theorem le_sc {x : Int32} {m : Nat} (hm : m + 1 < 2 ^ 31) : (nI (m + 1) ≤ x) = ¬ (x ≤ nI m) := by
  refine propext ?_
  rw [Int32.le_iff_toInt_le, Int32.le_iff_toInt_le, nI_toInt hm, nI_toInt (by omega)]
  omega
theorem lt_sc {x : Int32} {m : Nat} (hm : m + 1 < 2 ^ 31) : (x < nI (m + 1)) = (x ≤ nI m) := by
  refine propext ?_
  rw [Int32.lt_iff_toInt_lt, Int32.le_iff_toInt_le, nI_toInt hm, nI_toInt (by omega)]
  omega
theorem lt_z {x : Int32} : (x < 0) = ¬ (nI 0 ≤ x) := by
  refine propext ?_
  rw [Int32.lt_iff_toInt_lt, Int32.le_iff_toInt_le]
  have e1 : (nI 0).toInt = 0 := by decide
  have e2 : (0 : Int32).toInt = 0 := by decide
  omega
theorem lt1 {x : Int32} : (x < nI 1) = ¬ (nI 1 ≤ x) := nlt_le
theorem le15 {x : Int32} : (nI 15 ≤ x) = ¬ (x ≤ nI 14) := le_sc (by decide)
theorem lt256 {x : Int32} : (x < nI 256) = (x ≤ nI 255) := lt_sc (by decide)
theorem lt10 {x : Int32} : (x < nI 10) = (x ≤ nI 9) := lt_sc (by decide)
theorem k_isKind {x : Int32} : Vc d 45 [.int x] M Q = if nI 0 ≤ x ∧ x ≤ nI 1 then Q (some (.int (nI 1))) M else Q (some (.int (nI 0))) M := by
  show V d 45 0 [some (.int x)] [] M Q = _
  by_cases h : nI 0 ≤ x ∧ x ≤ nI 1
  · obtain ⟨n, hn, rfl⟩ := in_nI (by decide) h
    rcases (show n = 0 ∨ n = 1 by omega) with rfl | rfl
    · simp only [s_45_0, s_45_1, s_45_4, s_45_5, s_45_6, s_45_9, s_45_10, s_45_13, s_45_14, eq_self, Nat.reduceLT, Nat.reduceLeDiff, Nat.reduceMod, Nat.reduceDiv, Nat.reduceAdd, Nat.reduceMul, Option.toList_some, Option.toList_none, List.cons_append, List.nil_append, List.append_nil, n10, n00, if_true, if_false, b0, b1, nI_add, true_and, and_true, and_self, h]
    · simp only [s_45_0, s_45_1, s_45_4, s_45_5, s_45_6, s_45_9, s_45_10, s_45_13, s_45_14, eq_self, Nat.reduceLT, Nat.reduceLeDiff, Nat.reduceMod, Nat.reduceDiv, Nat.reduceAdd, Nat.reduceMul, Option.toList_some, Option.toList_none, List.cons_append, List.nil_append, List.append_nil, n10, n00, if_true, if_false, b0, b1, nI_add, true_and, and_true, and_self, h]
  · have h0 : ¬ x = 0 := fun z => h (by rw [z]; decide)
    have h1 : ¬ x = nI 1 := fun z => h (by rw [z]; decide)
    simp only [s_45_0, s_45_1, s_45_4, s_45_5, s_45_6, s_45_9, s_45_10, s_45_13, s_45_14, eq_self, Nat.reduceLT, Nat.reduceLeDiff, Nat.reduceMod, Nat.reduceDiv, Nat.reduceAdd, Nat.reduceMul, Option.toList_some, Option.toList_none, List.cons_append, List.nil_append, List.append_nil, n10, n00, if_true, if_false, b0, b1, nI_add, true_and, and_true, and_self, h, h0, h1]
theorem k_node (hw : wf M) (iv : IV (ig M) (og M) r C t mp) {a nm kd ow : Int32} : Vc (d + 1) 1 [rf (some 1), .int a, .int nm, .int kd, .int ow] M Q = if isDir r a ∧ (nI 1 ≤ nm ∧ nm ≤ nI 14) ∧ (nI 0 ≤ kd ∧ kd ≤ nI 1) ∧ (nI 0 ≤ ow ∧ ow ≤ nI 255) then (match ffind (pFind r a nm) 1 31 with
      | some _ => Q (some (.int (-8))) M
      | none => match ffind (pFree r) 1 31 with
        | none => Q (some (.int (-5))) M
        | some n => Q (some (.int (nI n))) (setM M n (some (4 + a.toNatClampNeg)) nm kd ow none)) else Q (some (.int (-1))) M := by
  show V (d + 1) 1 0 [some (rf (some 1)), some (.int a), some (.int nm), some (.int kd), some (.int ow), none, none] [] M Q = _
  by_cases h1 : isDir r a
  · obtain ⟨m, hm, rfl⟩ := in_nI (by decide) h1.1.1
    have h31 : m < 2 ^ 31 := by omega
    have hm : m < 32 := by omega
    have g1 := h1.1.2
    have g4 := h1.2
    rw [nI_clamp h31] at g1 g4
    have hst : V (d + 1) 1 0 [some (rf (some 1)), some (.int (nI m)), some (.int nm), some (.int kd), some (.int ow), none, none] [] M Q = V (d + 1) 1 25 [some (rf (some 1)), some (.int (nI m)), some (.int nm), some (.int kd), some (.int ow), some (rf (some (4 + m))), none] [] M Q := by
      simp only [s_1_0, s_1_1, s_1_4, s_1_5, s_1_8, s_1_10, s_1_12, s_1_15, s_1_17, s_1_20, eq_self, Nat.reduceLT, Nat.reduceLeDiff, Nat.reduceMod, Nat.reduceDiv, Nat.reduceAdd, Nat.reduceMul, Option.toList_some, Option.toList_none, List.cons_append, List.nil_append, List.append_nil, n10, n00, if_true, if_false, b0, b1, nI_add, true_and, and_true, and_self, sh_1, sh_2, sh_3, sh_36, sh_77, sh_126, k_1_0, k_1_1, k_1_2, k_1_3, k_1_4, k_1_5, k_2_0, sh_node, sh_cage, sh_cmts, sh_mrow, sh_que, sh_qv, sh_task, sh_tpow, sh_thld, sh_filt, sh_fop, sh_ffs, sh_fsc, sh_walk, ka_nodes, ka_cages, ka_tasks, ka_filts, kf_node_0, kf_cage_0, kf_cage_9, kf_task_0, kf_task_6, kf_task_7, kf_filt_0, kf_filt_1, kf_filt_2, kf_que, kf_cage_11, kf_cage_12, gi_K, gi_node1, gr_node, gi_cage1, gr_cage1, gr_cmts, gi_task1, gr_task1, gi_tpow, gr_thld, gi_filt, gi_fop, gi_ffs, gi_fsc, gr_walk, gr_mrow, gi_que, gi_qv, iv.n_1, iv.n_2, iv.n_3, iv.n_4, iv.n_5, iv.k_6, iv.k_7, iv.k_8, iv.c_1, iv.c_2, iv.c_3, iv.c_4, iv.c_5, iv.c_6, iv.c_8, iv.c_10, iv.p_1, iv.p_2, iv.p_3, iv.p_4, iv.p_5, iv.p_8, iv.p_9, iv.w_k, iv.f_3, iv.f_o, iv.f_a, iv.f_b, hw, k_at_in hw iv hm, g1, g4, hm, so_no]
    rw [hst]
    by_cases h2 : nI 1 ≤ nm ∧ nm ≤ nI 14
    · by_cases h3 : nI 0 ≤ kd ∧ kd ≤ nI 1
      · by_cases h4 : nI 0 ≤ ow ∧ ow ≤ nI 255
        · rw [if_pos ⟨h1, h2, h3, h4⟩, nI_clamp h31]
          simp only [s_1_25, s_1_26, s_1_27, s_1_30, s_1_31, s_1_33, s_1_36, s_1_37, s_1_40, s_1_43, s_1_45, s_1_48, s_1_50, s_1_53, s_1_58, s_1_59, s_1_62, s_1_64, s_1_65, eq_self, Nat.reduceLT, Nat.reduceLeDiff, Nat.reduceMod, Nat.reduceDiv, Nat.reduceAdd, Nat.reduceMul, Option.toList_some, Option.toList_none, List.cons_append, List.nil_append, List.append_nil, n10, n00, if_true, if_false, b0, b1, nI_add, true_and, and_true, and_self, sh_1, sh_2, sh_3, sh_36, sh_77, sh_126, k_1_0, k_1_1, k_1_2, k_1_3, k_1_4, k_1_5, k_2_0, sh_node, sh_cage, sh_cmts, sh_mrow, sh_que, sh_qv, sh_task, sh_tpow, sh_thld, sh_filt, sh_fop, sh_ffs, sh_fsc, sh_walk, ka_nodes, ka_cages, ka_tasks, ka_filts, kf_node_0, kf_cage_0, kf_cage_9, kf_task_0, kf_task_6, kf_task_7, kf_filt_0, kf_filt_1, kf_filt_2, kf_que, kf_cage_11, kf_cage_12, gi_K, gi_node1, gr_node, gi_cage1, gr_cage1, gr_cmts, gi_task1, gr_task1, gi_tpow, gr_thld, gi_filt, gi_fop, gi_ffs, gi_fsc, gr_walk, gr_mrow, gi_que, gi_qv, hw, lt1, le15, lt256, h2, h3, h4, k_isKind, not_true, k_childOf hw iv h31, lt_z]
          cases hf : ffind (pFind r (nI m) nm) 1 31 with
          | some x => simp only [nO_s, s_1_68, s_1_71, s_1_73, so_no, if_false]
          | none =>
            simp only [nO_z, s_1_68, s_1_74, s_1_75, s_1_78, eq_self, Nat.reduceLT, Nat.reduceLeDiff, Nat.reduceMod, Nat.reduceDiv, Nat.reduceAdd, Nat.reduceMul, Option.toList_some, Option.toList_none, List.cons_append, List.nil_append, List.append_nil, n10, n00, if_true, if_false, b0, b1, nI_add, true_and, and_true, and_self, sh_1, sh_2, sh_3, sh_36, sh_77, sh_126, k_1_0, k_1_1, k_1_2, k_1_3, k_1_4, k_1_5, k_2_0, sh_node, sh_cage, sh_cmts, sh_mrow, sh_que, sh_qv, sh_task, sh_tpow, sh_thld, sh_filt, sh_fop, sh_ffs, sh_fsc, sh_walk, ka_nodes, ka_cages, ka_tasks, ka_filts, kf_node_0, kf_cage_0, kf_cage_9, kf_task_0, kf_task_6, kf_task_7, kf_filt_0, kf_filt_1, kf_filt_2, kf_que, kf_cage_11, kf_cage_12, gi_K, gi_node1, gr_node, gi_cage1, gr_cage1, gr_cmts, gi_task1, gr_task1, gi_tpow, gr_thld, gi_filt, gi_fop, gi_ffs, gi_fsc, gr_walk, gr_mrow, gi_que, gi_qv, hw, k_firstFree hw iv]
            have hpf : pFr r = pFree r := rfl
            rw [hpf]
            cases hg : ffind (pFree r) 1 31 with
            | none => simp only [nO_z, s_1_81, s_1_83, s_1_85, s_1_88, s_1_90, eq_self, Nat.reduceLT, Nat.reduceLeDiff, Nat.reduceMod, Nat.reduceDiv, Nat.reduceAdd, Nat.reduceMul, Option.toList_some, Option.toList_none, List.cons_append, List.nil_append, List.append_nil, n10, n00, if_true, if_false, b0, b1, nI_add, true_and, and_true, and_self]
            | some n =>
              obtain ⟨n1, n2, -⟩ := ffind_in hg
              have hn : n < 32 := by omega
              have hk := fun (Q : Option Value → mH → Prop) => k_settle (d := d) (M := M) (Q := Q) hw hn (a := some (4 + m)) (mo := none) (nm := nm) (kd := kd) (ow := ow)
              simp only [nO_s, s_1_81, s_1_83, s_1_85, s_1_91, s_1_93, s_1_95, s_1_96, s_1_97, s_1_99, s_1_100, s_1_103, s_1_105, s_1_108, so_no, eq_self, Nat.reduceLT, Nat.reduceLeDiff, Nat.reduceMod, Nat.reduceDiv, Nat.reduceAdd, Nat.reduceMul, Option.toList_some, Option.toList_none, List.cons_append, List.nil_append, List.append_nil, n10, n00, if_true, if_false, b0, b1, nI_add, true_and, and_true, and_self, sh_1, sh_2, sh_3, sh_36, sh_77, sh_126, k_1_0, k_1_1, k_1_2, k_1_3, k_1_4, k_1_5, k_2_0, sh_node, sh_cage, sh_cmts, sh_mrow, sh_que, sh_qv, sh_task, sh_tpow, sh_thld, sh_filt, sh_fop, sh_ffs, sh_fsc, sh_walk, ka_nodes, ka_cages, ka_tasks, ka_filts, kf_node_0, kf_cage_0, kf_cage_9, kf_task_0, kf_task_6, kf_task_7, kf_filt_0, kf_filt_1, kf_filt_2, kf_que, kf_cage_11, kf_cage_12, gi_K, gi_node1, gr_node, gi_cage1, gr_cage1, gr_cmts, gi_task1, gr_task1, gi_tpow, gr_thld, gi_filt, gi_fop, gi_ffs, gi_fsc, gr_walk, gr_mrow, gi_que, gi_qv, hw, hn, hk, (setM_ok hw hn (a := some (4 + m)) (mo := none) (nm := nm) (kd := kd) (ow := ow)).1]
        · rw [if_neg (fun z => h4 z.2.2.2)]
          simp only [s_1_25, s_1_26, s_1_27, s_1_30, s_1_31, s_1_33, s_1_36, s_1_37, s_1_40, s_1_43, s_1_45, s_1_48, s_1_50, s_1_53, s_1_56, s_1_57, eq_self, Nat.reduceLT, Nat.reduceLeDiff, Nat.reduceMod, Nat.reduceDiv, Nat.reduceAdd, Nat.reduceMul, Option.toList_some, Option.toList_none, List.cons_append, List.nil_append, List.append_nil, n10, n00, if_true, if_false, b0, b1, nI_add, true_and, and_true, and_self, lt1, le15, lt256, h2, h3, k_isKind, not_true, lt_z]
          by_cases h5 : nI 0 ≤ ow
          · have h6 : ¬ ow ≤ nI 255 := fun z => h4 ⟨h5, z⟩
            simp only [h5, h6, not_true, if_false]
          · simp only [h5, not_false_eq_true, if_true]
      · rw [if_neg (fun z => h3 z.2.2.1)]
        simp only [s_1_25, s_1_26, s_1_27, s_1_30, s_1_31, s_1_33, s_1_36, s_1_37, s_1_40, s_1_56, s_1_57, eq_self, Nat.reduceLT, Nat.reduceLeDiff, Nat.reduceMod, Nat.reduceDiv, Nat.reduceAdd, Nat.reduceMul, Option.toList_some, Option.toList_none, List.cons_append, List.nil_append, List.append_nil, n10, n00, if_true, if_false, b0, b1, nI_add, true_and, and_true, and_self, lt1, le15, lt256, h2, h3, k_isKind, not_true, lt_z]
    · rw [if_neg (fun z => h2 z.2.1)]
      simp only [s_1_25, s_1_26, s_1_27, s_1_30, s_1_31, s_1_33, s_1_56, s_1_57, eq_self, Nat.reduceLT, Nat.reduceLeDiff, Nat.reduceMod, Nat.reduceDiv, Nat.reduceAdd, Nat.reduceMul, Option.toList_some, Option.toList_none, List.cons_append, List.nil_append, List.append_nil, n10, n00, if_true, if_false, b0, b1, nI_add, true_and, and_true, and_self, lt1, le15]
      by_cases h5 : nI 1 ≤ nm
      · have h6 : ¬ nm ≤ nI 14 := fun z => h2 ⟨h5, z⟩
        simp only [h5, h6, not_true, not_false_eq_true, if_false, if_true]
      · simp only [h5, not_false_eq_true, if_true]
  · rw [if_neg (fun z => h1 z.1)]
    by_cases h2 : nI 0 ≤ a ∧ a ≤ nI 31
    · obtain ⟨m, hm, rfl⟩ := in_nI (by decide) h2
      have hm : m < 32 := by omega
      by_cases g1 : r 1 m = 0
      · simp only [s_1_0, s_1_1, s_1_4, s_1_5, s_1_8, s_1_10, s_1_12, s_1_23, s_1_24, eq_self, Nat.reduceLT, Nat.reduceLeDiff, Nat.reduceMod, Nat.reduceDiv, Nat.reduceAdd, Nat.reduceMul, Option.toList_some, Option.toList_none, List.cons_append, List.nil_append, List.append_nil, n10, n00, if_true, if_false, b0, b1, nI_add, true_and, and_true, and_self, sh_1, sh_2, sh_3, sh_36, sh_77, sh_126, k_1_0, k_1_1, k_1_2, k_1_3, k_1_4, k_1_5, k_2_0, sh_node, sh_cage, sh_cmts, sh_mrow, sh_que, sh_qv, sh_task, sh_tpow, sh_thld, sh_filt, sh_fop, sh_ffs, sh_fsc, sh_walk, ka_nodes, ka_cages, ka_tasks, ka_filts, kf_node_0, kf_cage_0, kf_cage_9, kf_task_0, kf_task_6, kf_task_7, kf_filt_0, kf_filt_1, kf_filt_2, kf_que, kf_cage_11, kf_cage_12, gi_K, gi_node1, gr_node, gi_cage1, gr_cage1, gr_cmts, gi_task1, gr_task1, gi_tpow, gr_thld, gi_filt, gi_fop, gi_ffs, gi_fsc, gr_walk, gr_mrow, gi_que, gi_qv, iv.n_1, iv.n_2, iv.n_3, iv.n_4, iv.n_5, iv.k_6, iv.k_7, iv.k_8, iv.c_1, iv.c_2, iv.c_3, iv.c_4, iv.c_5, iv.c_6, iv.c_8, iv.c_10, iv.p_1, iv.p_2, iv.p_3, iv.p_4, iv.p_5, iv.p_8, iv.p_9, iv.w_k, iv.f_3, iv.f_o, iv.f_a, iv.f_b, hw, k_at_in hw iv hm, g1]
      · have g4 : ¬ r 4 m = 0 := fun z => h1 ⟨⟨h2, by rw [nI_clamp (by omega)]; exact g1⟩, by rw [nI_clamp (by omega)]; exact z⟩
        simp only [s_1_0, s_1_1, s_1_4, s_1_5, s_1_8, s_1_10, s_1_12, s_1_15, s_1_17, s_1_20, s_1_23, s_1_24, eq_self, Nat.reduceLT, Nat.reduceLeDiff, Nat.reduceMod, Nat.reduceDiv, Nat.reduceAdd, Nat.reduceMul, Option.toList_some, Option.toList_none, List.cons_append, List.nil_append, List.append_nil, n10, n00, if_true, if_false, b0, b1, nI_add, true_and, and_true, and_self, sh_1, sh_2, sh_3, sh_36, sh_77, sh_126, k_1_0, k_1_1, k_1_2, k_1_3, k_1_4, k_1_5, k_2_0, sh_node, sh_cage, sh_cmts, sh_mrow, sh_que, sh_qv, sh_task, sh_tpow, sh_thld, sh_filt, sh_fop, sh_ffs, sh_fsc, sh_walk, ka_nodes, ka_cages, ka_tasks, ka_filts, kf_node_0, kf_cage_0, kf_cage_9, kf_task_0, kf_task_6, kf_task_7, kf_filt_0, kf_filt_1, kf_filt_2, kf_que, kf_cage_11, kf_cage_12, gi_K, gi_node1, gr_node, gi_cage1, gr_cage1, gr_cmts, gi_task1, gr_task1, gi_tpow, gr_thld, gi_filt, gi_fop, gi_ffs, gi_fsc, gr_walk, gr_mrow, gi_que, gi_qv, iv.n_1, iv.n_2, iv.n_3, iv.n_4, iv.n_5, iv.k_6, iv.k_7, iv.k_8, iv.c_1, iv.c_2, iv.c_3, iv.c_4, iv.c_5, iv.c_6, iv.c_8, iv.c_10, iv.p_1, iv.p_2, iv.p_3, iv.p_4, iv.p_5, iv.p_8, iv.p_9, iv.w_k, iv.f_3, iv.f_o, iv.f_a, iv.f_b, hw, k_at_in hw iv hm, g1, g4, hm, so_no]
    · simp only [s_1_0, s_1_1, s_1_4, s_1_5, s_1_8, s_1_10, s_1_12, s_1_23, s_1_24, eq_self, Nat.reduceLT, Nat.reduceLeDiff, Nat.reduceMod, Nat.reduceDiv, Nat.reduceAdd, Nat.reduceMul, Option.toList_some, Option.toList_none, List.cons_append, List.nil_append, List.append_nil, n10, n00, if_true, if_false, b0, b1, nI_add, true_and, and_true, and_self, sh_1, sh_2, sh_3, sh_36, sh_77, sh_126, k_1_0, k_1_1, k_1_2, k_1_3, k_1_4, k_1_5, k_2_0, sh_node, sh_cage, sh_cmts, sh_mrow, sh_que, sh_qv, sh_task, sh_tpow, sh_thld, sh_filt, sh_fop, sh_ffs, sh_fsc, sh_walk, ka_nodes, ka_cages, ka_tasks, ka_filts, kf_node_0, kf_cage_0, kf_cage_9, kf_task_0, kf_task_6, kf_task_7, kf_filt_0, kf_filt_1, kf_filt_2, kf_que, kf_cage_11, kf_cage_12, gi_K, gi_node1, gr_node, gi_cage1, gr_cage1, gr_cmts, gi_task1, gr_task1, gi_tpow, gr_thld, gi_filt, gi_fop, gi_ffs, gi_fsc, gr_walk, gr_mrow, gi_que, gi_qv, hw, k_at_out hw h2]
/-! ONE CALL of both: the same answer, and the invariant again -/
def Jt (y yr : Nat) (as : List Value) (M : mH) (t : Nat) : Prop := ∃ (M1 M2 : mH) (res : Int32) (C' : Nat) (mp' : MP), (∀ Q, Vc 7 y (rf (some 1) :: as) M Q = Q (some (.int res)) M1) ∧ (∀ Q, Vc 7 yr (rf (some 145) :: as) M1 Q = Q (some (.int res)) M2) ∧ wf M2 ∧ IV (ig M2) (og M2) (rg M2) C' (t + 1) mp'
theorem Jt_same {y yr : Nat} {as : List Value} (hw : wf M) (iv : IV (ig M) (og M) (rg M) C t mp) {res : Int32} (h1 : ∀ Q, Vc 7 y (rf (some 1) :: as) M Q = Q (some (.int res)) M) (h2 : ∀ Q, Vc 7 yr (rf (some 145) :: as) M Q = Q (some (.int res)) M) : Jt y yr as M t :=
  ⟨M, M, res, C, mp, h1, h2, hw, iv.le (by omega)⟩
theorem j_count (hw : wf M) (iv : IV (ig M) (og M) (rg M) C t mp) {x : Int32} : Jt 11 98 [.int x] M t := Jt_same hw iv (fun Q => k_count hw iv) (fun Q => c_rcount hw)
theorem j_file (hw : wf M) (iv : IV (ig M) (og M) (rg M) C t mp) {n x : Int32} : Jt 9 96 [.int n, .int x] M t := by
  by_cases h : (nI 0 ≤ n ∧ n ≤ nI 31) ∧ ¬ rg M 1 n.toNatClampNeg = 0
  · obtain ⟨m, hm, rfl⟩ := in_nI (by decide) h.1
    have h2 := h.2
    rw [nI_clamp (by omega)] at h2
    exact Jt_same hw iv (fun Q => k_file_in hw iv (by omega) h2) (fun Q => c_rfile_in hw (by omega) h2)
  · exact Jt_same hw iv (fun Q => k_file_no hw iv h) (fun Q => c_rfile_no hw h)
theorem j_process (hw : wf M) (iv : IV (ig M) (og M) (rg M) C t mp) {p x : Int32} : Jt 8 95 [.int p, .int x] M t := by
  by_cases h : (nI 0 ≤ p ∧ p ≤ nI 15) ∧ ¬ rg M 24 p.toNatClampNeg = 0 ∧ (nI 0 ≤ x ∧ x ≤ nI 10)
  · obtain ⟨m, hm, rfl⟩ := in_nI (by decide) h.1
    have h2 := h.2.1
    rw [nI_clamp (by omega)] at h2
    exact Jt_same hw iv (fun Q => k_process_in hw iv (by omega) h2 h.2.2) (fun Q => c_rprocess_in hw (by omega) h2 h.2.2)
  · exact Jt_same hw iv (fun Q => k_process_no hw iv h) (fun Q => c_rprocess_no hw h)
theorem j_look (hw : wf M) (iv : IV (ig M) (og M) (rg M) C t mp) {c x : Int32} : Jt 10 97 [.int c, .int x] M t := by
  by_cases h : nI 0 ≤ c ∧ c ≤ rg M 0 36 - nI 1
  · rw [iv.Cn] at h
    obtain ⟨m, hm, rfl⟩ := lt_sub1 iv.C4 h
    exact Jt_same hw iv (fun Q => k_look_in hw iv hm) (fun Q => c_rlook_in hw iv.C4 iv.Cn iv.wo iv.wm iv.wp hm)
  · exact Jt_same hw iv (fun Q => k_look_no hw iv h) (fun Q => c_rlook_no hw h)
theorem j_node (hw : wf M) (iv : IV (ig M) (og M) (rg M) C t mp) {a nm kd ow : Int32} : Jt 1 58 [.int a, .int nm, .int kd, .int ow] M t := by
  by_cases h : isDir (rg M) a ∧ (nI 1 ≤ nm ∧ nm ≤ nI 14) ∧ (nI 0 ≤ kd ∧ kd ≤ nI 1) ∧ (nI 0 ≤ ow ∧ ow ≤ nI 255)
  · cases hf : ffind (pFind (rg M) a nm) 1 31 with
    | some x => exact Jt_same hw iv (fun Q => by rw [k_node hw iv, if_pos h, hf]) (fun Q => by rw [c_rnode hw, if_pos h, hf])
    | none =>
      cases hg : ffind (pFree (rg M)) 1 31 with
      | none => exact Jt_same hw iv (fun Q => by rw [k_node hw iv, if_pos h, hf, hg]) (fun Q => by rw [c_rnode hw, if_pos h, hf, hg])
      | some n =>
        obtain ⟨n1, n2, n3⟩ := ffind_in hg
        have hn : n < 32 := by omega
        have hn0 : rg M 1 n = 0 := of_decide_eq_true n3
        obtain ⟨m, hm, rfl⟩ := in_nI (by decide) h.1.1.1
        have had : ¬ rg M 1 m = 0 ∧ rg M 4 m = 0 := by
          have := h.1
          simp only [isDir, nI_clamp (show m < 2 ^ 31 by omega)] at this
          exact ⟨this.1.2, this.2⟩
        obtain ⟨k, hk, rfl⟩ := in_nI (by decide) h.2.2.1
        obtain ⟨o, ho, rfl⟩ := in_nI (by decide) h.2.2.2
        obtain ⟨w1, r1, i1, o1⟩ := setM_ok hw hn (a := some (4 + m)) (mo := none) (nm := nm) (kd := nI k) (ow := nI o)
        obtain ⟨w2, r2, c2⟩ := putM_ok w1 hn (a := nI m) (nm := nm) (kd := nI k) (ow := nI o) (mk := -1)
        have hiv := iv_put iv (n := n) (a := m) (nm := nm) (kd := nI k) (ow := nI o) (mk := -1) (mo := none) hn hn0 (by omega) had (by rcases (show k = 0 ∨ k = 1 by omega) with rfl | rfl; exact Or.inl rfl; exact Or.inr rfl) ⟨o, by omega, rfl⟩ (Or.inl rfl) cgO_m.symm
        refine ⟨setM M n (some (4 + m)) nm (nI k) (nI o) none, _, nI n, C, mp, (fun Q => by rw [k_node hw iv, if_pos h, hf, hg, nI_clamp (show m < 2 ^ 31 by omega)]), (fun Q => by rw [c_rnode w1, r1, if_pos h, hf, hg]), w2, ?_⟩
        rw [cg_ig c2, cg_og c2, r2, i1, o1, r1]
        exact hiv.le (by omega)
  · exact Jt_same hw iv (fun Q => by rw [k_node hw iv, if_neg h]) (fun Q => by rw [c_rnode hw, if_neg h])
end
