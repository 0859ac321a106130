section
variable {d : Nat} {M : mH} {Q : Option Value → mH → Prop} {C t c p n : Nat} {mp : MP} {I : CI} {O : CO} {r s : RS}
theorem rmB_t (iv : IV I O r C t mp) (hn : n < 32) (h : n = 0 ∨ ¬ cnt (pEnt r (nI n)) 1 31 = 0 ∨ (ffind (qIU r mp n) 0 C).isSome = true) : rmB r n C = true := by
  unfold rmB
  rcases h with h | h | h
  · subst h; simp
  · have hd : r 4 n = 0 := by
      by_cases z : r 4 n = 0
      · exact z
      · exact absurd (no_ent iv hn z) h
    simp [hd, h]
  · rw [inUse_eq iv, Bool.or_eq_true] at h
    rcases h with h | h
    · simp [h]
    · simp [h]
theorem rmB_f (iv : IV I O r C t mp) (h0 : ¬ n = 0) (h1 : cnt (pEnt r (nI n)) 1 31 = 0) (h2 : ¬ (ffind (qIU r mp n) 0 C).isSome = true) : rmB r n C = false := by
  rw [inUse_eq iv, Bool.or_eq_true] at h2
  have g1 : (ffind (pRoot r (nI n)) 0 C).isSome = false := Bool.eq_false_iff.2 (fun z => h2 (Or.inl z))
  have g2 : (ffind (pMnt r (nI n)) 0 16).isSome = false := Bool.eq_false_iff.2 (fun z => h2 (Or.inr z))
  unfold rmB
  rw [g1, g2, h1]
  have g3 : (n == 0) = false := beq_eq_false_iff_ne.2 h0
  rw [g3]
  simp
theorem pj_7 (ht : t < 2 ^ 30) (hw : wf M) (iv : IV (ig M) (og M) r C t mp) (hp : p < 16) (h24 : r 24 p = nI 1) (hpc : r 25 p = nI c) (hc : c < C) {a b : Int32} : Pj p (nI 7) a b M r t := by
  have hC4 := iv.C4
  have hc4 : c < 4 := by omega
  have o2 := iv.live hp h24 hpc hc
  obtain ⟨M1, h1, h2, h3⟩ := k_follow (d := 1) (w := 0) ht hw iv hc (by decide) (p := a)
  have h1 : ∀ Q, Vc 4 140 [rf (some 143), rf (some 2), rf (some (37 + 10 * c)), .int a] M Q = Q (some (.int (bI (follR c 4 a (nms a) r).1))) M1 := h1
  obtain ⟨ag, pv⟩ := foll_agr iv hc (p := a) (m := nms a)
  have iv1 := iv_agr (h2.iv iv) ag
  have hk : (7 : Nat) = 4 ∨ 7 = 5 ∨ 7 = 6 ∨ 7 = 7 ∨ 7 = 8 ∨ 7 = 12 ∨ 7 = 13 := Or.inr (Or.inr (Or.inr (Or.inl rfl)))
  have w1 := h2.1
  by_cases hf : (follR c 4 a (nms a) r).1 = true
  · have hT0 : treeR r p c C 4 7 a b = rem2 (follR c 4 a (nms a) r).2 p c C := by
      unfold treeR; rw [if_neg (by decide), if_pos hf]; rfl
    have hwk := h3 hf
    rw [hf] at h1
    generalize (follR c 4 a (nms a) r).2 = s at hwk iv1 ag hT0
    obtain ⟨n, n1, n2, n3, n4⟩ := hwk.w0
    have s24 : s 24 p = nI 1 := by rw [ag.row (by decide) (by decide)]; exact h24
    have spc : s 25 p = nI c := by rw [ag.row (by decide) (by decide)]; exact hpc
    unfold rem2 at hT0
    rw [n2, nI_clamp (show n < 2 ^ 31 by omega)] at hT0
    have hgo : ∀ d, (∀ Q, Vc (d + 2) 140 [rf (some 143), rf (some 2), rf (some (37 + 10 * c)), .int a] M Q = Q (some (.int (bI true))) M1) → ∀ Q, Vc (d + 3) 19 [rf (some 1), rf (some (78 + 3 * p)), .int a] M Q = V (d + 3) 19 30 [some (rf (some 1)), some (rf (some (78 + 3 * p))), some (.int a), some (rf (some (4 + n)))] [] M1 Q := fun d h Q => by
      show V (d + 3) 19 0 [some (rf (some 1)), some (rf (some (78 + 3 * p))), some (.int a), none] [] M Q = _
      simp only [s_19_0, s_19_1, s_19_4, s_19_5, s_19_8, s_19_9, s_19_12, s_19_13, s_19_16, s_19_19, s_19_21, s_19_22, s_19_23, s_19_26, s_19_29, s_19_31, s_19_34, s_19_37, s_19_38, s_19_39, s_19_42, s_19_45, s_19_46, s_19_49, s_19_50, s_19_53, s_19_56, s_19_58, s_19_59, s_19_60, s_19_61, s_19_64, s_19_67, s_19_70, s_19_72, s_19_73, s_19_74, s_19_77, s_19_78, eq_self, Nat.reduceLT, Nat.reduceLeDiff, Nat.reduceMod, Nat.reduceDiv, Nat.reduceAdd, Nat.reduceMul, Option.toList_some, Option.toList_none, List.cons_append, List.nil_append, List.append_nil, n10, n00, if_true, if_false, b0, b1, nI_add, true_and, and_true, and_self, sh_1, sh_2, sh_3, sh_36, sh_77, sh_126, k_1_0, k_1_1, k_1_2, k_1_3, k_1_4, k_1_5, k_2_0, sh_node, sh_cage, sh_cmts, sh_mrow, sh_que, sh_qv, sh_task, sh_tpow, sh_thld, sh_filt, sh_fop, sh_ffs, sh_fsc, sh_walk, ka_nodes, ka_cages, ka_tasks, ka_filts, kf_node_0, kf_cage_0, kf_cage_9, kf_task_0, kf_task_6, kf_task_7, kf_filt_0, kf_filt_1, kf_filt_2, kf_que, kf_cage_11, kf_cage_12, gi_K, gi_node1, gr_node, gi_cage1, gr_cage1, gr_cmts, gi_task1, gr_task1, gi_tpow, gr_thld, gi_filt, gi_fop, gi_ffs, gi_fsc, gr_walk, gr_mrow, gi_que, gi_qv, hw, hp, o2, sh_143, h, bI, cond_true, w1, g143, n4]
    have hg4 := hgo 2 h1
    have fin7 : ∀ (_ : rmB s n C = true) (_ : ∀ d Q, V (d + 3) 19 30 [some (rf (some 1)), some (rf (some (78 + 3 * p))), some (.int a), some (rf (some (4 + n)))] [] M1 Q = Q (some (.int (-7))) M1), Pj p (nI 7) a b M r t := fun hB kk => by
      rw [if_pos hB] at hT0
      exact Pj_tr (M' := M1) (mp' := mp) (C' := C) hk iv hp hc hpc (fun Q => by rw [hT0]; exact pf_7 (d := 5) hw (fun Q => (hg4 Q).trans (kk 2 Q))) w1 h2.2.1 (by rw [hT0]; exact iv1.le (by omega))
    by_cases hn0 : n = 0
    · refine fin7 (rmB_t iv1 n1 (Or.inl hn0)) (fun d Q => ?_)
      have o6 : og M1 1 n 6 = none := by rw [iv1.n_6 n1 n3, hn0, iv1.n3.2.1]; rfl
      simp only [s_19_0, s_19_1, s_19_4, s_19_5, s_19_8, s_19_9, s_19_12, s_19_13, s_19_16, s_19_19, s_19_21, s_19_22, s_19_23, s_19_26, s_19_29, s_19_30, s_19_31, s_19_34, s_19_37, s_19_38, s_19_39, s_19_42, s_19_45, s_19_46, s_19_49, s_19_50, s_19_53, s_19_56, s_19_58, s_19_59, s_19_60, s_19_61, s_19_64, s_19_67, s_19_70, s_19_72, s_19_73, s_19_74, s_19_77, s_19_78, eq_self, Nat.reduceLT, Nat.reduceLeDiff, Nat.reduceMod, Nat.reduceDiv, Nat.reduceAdd, Nat.reduceMul, Option.toList_some, Option.toList_none, List.cons_append, List.nil_append, List.append_nil, n10, n00, if_true, if_false, b0, b1, nI_add, true_and, and_true, and_self, sh_1, sh_2, sh_3, sh_36, sh_77, sh_126, k_1_0, k_1_1, k_1_2, k_1_3, k_1_4, k_1_5, k_2_0, sh_node, sh_cage, sh_cmts, sh_mrow, sh_que, sh_qv, sh_task, sh_tpow, sh_thld, sh_filt, sh_fop, sh_ffs, sh_fsc, sh_walk, ka_nodes, ka_cages, ka_tasks, ka_filts, kf_node_0, kf_cage_0, kf_cage_9, kf_task_0, kf_task_6, kf_task_7, kf_filt_0, kf_filt_1, kf_filt_2, kf_que, kf_cage_11, kf_cage_12, gi_K, gi_node1, gr_node, gi_cage1, gr_cage1, gr_cmts, gi_task1, gr_task1, gi_tpow, gr_thld, gi_filt, gi_fop, gi_ffs, gi_fsc, gr_walk, gr_mrow, gi_que, gi_qv, w1, n1, o6]
    · obtain ⟨m, m1, m2, m3⟩ := (iv1.par n n1 n3).resolve_left hn0
      have o6 : og M1 1 n 6 = some (4 + m) := by rw [iv1.n_6 n1 n3, m2, ndO_n (by omega)]
      by_cases hu : (ffind (qIU s mp n) 0 C).isSome = true
      · refine fin7 (rmB_t iv1 n1 (Or.inr (Or.inr hu))) (fun d Q => ?_)
        simp only [s_19_0, s_19_1, s_19_4, s_19_5, s_19_8, s_19_9, s_19_12, s_19_13, s_19_16, s_19_19, s_19_21, s_19_22, s_19_23, s_19_26, s_19_29, s_19_30, s_19_31, s_19_34, s_19_37, s_19_38, s_19_39, s_19_42, s_19_45, s_19_46, s_19_49, s_19_50, s_19_53, s_19_56, s_19_58, s_19_59, s_19_60, s_19_61, s_19_64, s_19_67, s_19_70, s_19_72, s_19_73, s_19_74, s_19_77, s_19_78, eq_self, Nat.reduceLT, Nat.reduceLeDiff, Nat.reduceMod, Nat.reduceDiv, Nat.reduceAdd, Nat.reduceMul, Option.toList_some, Option.toList_none, List.cons_append, List.nil_append, List.append_nil, n10, n00, if_true, if_false, b0, b1, nI_add, true_and, and_true, and_self, sh_1, sh_2, sh_3, sh_36, sh_77, sh_126, k_1_0, k_1_1, k_1_2, k_1_3, k_1_4, k_1_5, k_2_0, sh_node, sh_cage, sh_cmts, sh_mrow, sh_que, sh_qv, sh_task, sh_tpow, sh_thld, sh_filt, sh_fop, sh_ffs, sh_fsc, sh_walk, ka_nodes, ka_cages, ka_tasks, ka_filts, kf_node_0, kf_cage_0, kf_cage_9, kf_task_0, kf_task_6, kf_task_7, kf_filt_0, kf_filt_1, kf_filt_2, kf_que, kf_cage_11, kf_cage_12, gi_K, gi_node1, gr_node, gi_cage1, gr_cage1, gr_cmts, gi_task1, gr_task1, gi_tpow, gr_thld, gi_filt, gi_fop, gi_ffs, gi_fsc, gr_walk, gr_mrow, gi_que, gi_qv, w1, n1, o6, so_no, k_inUse w1 iv1 n1, hu]
      · have hcl := cnt_le (p := pEnt s (nI n)) 31 1
        by_cases hct : cnt (pEnt s (nI n)) 1 31 = 0
        · have hB := rmB_f iv1 hn0 hct hu
          rw [hB, m2, nI_clamp (show m < 2 ^ 31 by omega)] at hT0
          simp only [Bool.false_eq_true, if_false] at hT0
          have hle : nI 0 ≤ 0 := by decide
          by_cases hma : mayR s p c m
          · rw [if_pos hma] at hT0
            have x1 := C_node_1 w1 n1 b0
            have x2 := C_node_6 x1.w n1 (x := none)
            have x3 := C_node_7 x2.w n1 (x := none)
            have kk : ∀ d Q, V (d + 3) 19 30 [some (rf (some 1)), some (rf (some (78 + 3 * p))), some (.int a), some (rf (some (4 + n)))] [] M1 Q = Q (some (.int (nI 0))) (mu (mu (mu M1 (4 + n) 1 (.int (nI 0))) (4 + n) 6 (rf none)) (4 + n) 7 (rf none)) := fun d Q => by
              simp only [s_19_0, s_19_1, s_19_4, s_19_5, s_19_8, s_19_9, s_19_12, s_19_13, s_19_16, s_19_19, s_19_21, s_19_22, s_19_23, s_19_26, s_19_29, s_19_30, s_19_31, s_19_34, s_19_37, s_19_38, s_19_39, s_19_42, s_19_45, s_19_46, s_19_49, s_19_50, s_19_53, s_19_56, s_19_58, s_19_59, s_19_60, s_19_61, s_19_64, s_19_67, s_19_70, s_19_72, s_19_73, s_19_74, s_19_77, s_19_78, eq_self, Nat.reduceLT, Nat.reduceLeDiff, Nat.reduceMod, Nat.reduceDiv, Nat.reduceAdd, Nat.reduceMul, Option.toList_some, Option.toList_none, List.cons_append, List.nil_append, List.append_nil, n10, n00, if_true, if_false, b0, b1, nI_add, true_and, and_true, and_self, sh_1, sh_2, sh_3, sh_36, sh_77, sh_126, k_1_0, k_1_1, k_1_2, k_1_3, k_1_4, k_1_5, k_2_0, sh_node, sh_cage, sh_cmts, sh_mrow, sh_que, sh_qv, sh_task, sh_tpow, sh_thld, sh_filt, sh_fop, sh_ffs, sh_fsc, sh_walk, ka_nodes, ka_cages, ka_tasks, ka_filts, kf_node_0, kf_cage_0, kf_cage_9, kf_task_0, kf_task_6, kf_task_7, kf_filt_0, kf_filt_1, kf_filt_2, kf_que, kf_cage_11, kf_cage_12, gi_K, gi_node1, gr_node, gi_cage1, gr_cage1, gr_cmts, gi_task1, gr_task1, gi_tpow, gr_thld, gi_filt, gi_fop, gi_ffs, gi_fsc, gr_walk, gr_mrow, gi_que, gi_qv, w1, n1, hp, o6, so_no, k_inUse w1 iv1 n1, hu, Bool.false_eq_true, k_sizeOf w1 iv1 (show n < 2 ^ 31 by omega), hct, hle, k_may w1 iv1 hp s24 spc hc m1 m3, eq_true hma, k_nrel w1 n1]
            have hu' := hu
            rw [inUse_eq iv1, Bool.or_eq_true] at hu'
            have iv2 := iv_rem iv1 n1 hn0 (fun j hj z => hu' (Or.inl (ffind_iff.2 ⟨j, by omega, by omega, decide_eq_true z⟩))) (fun k hk h18 => ⟨fun z => hu' (Or.inr (ffind_iff.2 ⟨k, by omega, by omega, decide_eq_true ⟨h18, Or.inl z⟩⟩)), fun z => hu' (Or.inr (ffind_iff.2 ⟨k, by omega, by omega, decide_eq_true ⟨h18, Or.inr z⟩⟩))⟩) (fun j h1 h2 h3 z => absurd ⟨h3, z⟩ (of_decide_eq_false (cnt_no 31 1 hct j h1 (by omega))))
            exact Pj_tr (mp' := mp) (C' := C) hk iv hp hc hpc (fun Q => by rw [hT0]; exact pf_7 (d := 5) hw (fun Q => (hg4 Q).trans (kk 2 Q))) x3.w (by rw [x3.r, x2.r, x1.r]; exact h2.2.1) (by rw [hT0, x3.i, x2.i, x1.i, x3.o, x2.o, x1.o]; exact iv2.le (by omega))
          · rw [if_neg hma] at hT0
            have kk : ∀ d Q, V (d + 3) 19 30 [some (rf (some 1)), some (rf (some (78 + 3 * p))), some (.int a), some (rf (some (4 + n)))] [] M1 Q = Q (some (.int (-4))) M1 := fun d Q => by
              simp only [s_19_0, s_19_1, s_19_4, s_19_5, s_19_8, s_19_9, s_19_12, s_19_13, s_19_16, s_19_19, s_19_21, s_19_22, s_19_23, s_19_26, s_19_29, s_19_30, s_19_31, s_19_34, s_19_37, s_19_38, s_19_39, s_19_42, s_19_45, s_19_46, s_19_49, s_19_50, s_19_53, s_19_56, s_19_58, s_19_59, s_19_60, s_19_61, s_19_64, s_19_67, s_19_70, s_19_72, s_19_73, s_19_74, s_19_77, s_19_78, eq_self, Nat.reduceLT, Nat.reduceLeDiff, Nat.reduceMod, Nat.reduceDiv, Nat.reduceAdd, Nat.reduceMul, Option.toList_some, Option.toList_none, List.cons_append, List.nil_append, List.append_nil, n10, n00, if_true, if_false, b0, b1, nI_add, true_and, and_true, and_self, sh_1, sh_2, sh_3, sh_36, sh_77, sh_126, k_1_0, k_1_1, k_1_2, k_1_3, k_1_4, k_1_5, k_2_0, sh_node, sh_cage, sh_cmts, sh_mrow, sh_que, sh_qv, sh_task, sh_tpow, sh_thld, sh_filt, sh_fop, sh_ffs, sh_fsc, sh_walk, ka_nodes, ka_cages, ka_tasks, ka_filts, kf_node_0, kf_cage_0, kf_cage_9, kf_task_0, kf_task_6, kf_task_7, kf_filt_0, kf_filt_1, kf_filt_2, kf_que, kf_cage_11, kf_cage_12, gi_K, gi_node1, gr_node, gi_cage1, gr_cage1, gr_cmts, gi_task1, gr_task1, gi_tpow, gr_thld, gi_filt, gi_fop, gi_ffs, gi_fsc, gr_walk, gr_mrow, gi_que, gi_qv, w1, n1, hp, o6, so_no, k_inUse w1 iv1 n1, hu, Bool.false_eq_true, k_sizeOf w1 iv1 (show n < 2 ^ 31 by omega), hct, hle, k_may w1 iv1 hp s24 spc hc m1 m3, eq_false hma]
            exact Pj_tr (M' := M1) (mp' := mp) (C' := C) hk iv hp hc hpc (fun Q => by rw [hT0]; exact pf_7 (d := 5) hw (fun Q => (hg4 Q).trans (kk 2 Q))) w1 h2.2.1 (by rw [hT0]; exact iv1.le (by omega))
        · refine fin7 (rmB_t iv1 n1 (Or.inr (Or.inl hct))) (fun d Q => ?_)
          have hle : ¬ nI (cnt (pEnt s (nI n)) 1 31) ≤ 0 := nI_ge (a := 0) (by omega) (by omega)
          simp only [s_19_0, s_19_1, s_19_4, s_19_5, s_19_8, s_19_9, s_19_12, s_19_13, s_19_16, s_19_19, s_19_21, s_19_22, s_19_23, s_19_26, s_19_29, s_19_30, s_19_31, s_19_34, s_19_37, s_19_38, s_19_39, s_19_42, s_19_45, s_19_46, s_19_49, s_19_50, s_19_53, s_19_56, s_19_58, s_19_59, s_19_60, s_19_61, s_19_64, s_19_67, s_19_70, s_19_72, s_19_73, s_19_74, s_19_77, s_19_78, eq_self, Nat.reduceLT, Nat.reduceLeDiff, Nat.reduceMod, Nat.reduceDiv, Nat.reduceAdd, Nat.reduceMul, Option.toList_some, Option.toList_none, List.cons_append, List.nil_append, List.append_nil, n10, n00, if_true, if_false, b0, b1, nI_add, true_and, and_true, and_self, sh_1, sh_2, sh_3, sh_36, sh_77, sh_126, k_1_0, k_1_1, k_1_2, k_1_3, k_1_4, k_1_5, k_2_0, sh_node, sh_cage, sh_cmts, sh_mrow, sh_que, sh_qv, sh_task, sh_tpow, sh_thld, sh_filt, sh_fop, sh_ffs, sh_fsc, sh_walk, ka_nodes, ka_cages, ka_tasks, ka_filts, kf_node_0, kf_cage_0, kf_cage_9, kf_task_0, kf_task_6, kf_task_7, kf_filt_0, kf_filt_1, kf_filt_2, kf_que, kf_cage_11, kf_cage_12, gi_K, gi_node1, gr_node, gi_cage1, gr_cage1, gr_cmts, gi_task1, gr_task1, gi_tpow, gr_thld, gi_filt, gi_fop, gi_ffs, gi_fsc, gr_walk, gr_mrow, gi_que, gi_qv, w1, n1, o6, so_no, k_inUse w1 iv1 n1, hu, Bool.false_eq_true, k_sizeOf w1 iv1 (show n < 2 ^ 31 by omega), hle]
  · have hT : treeR r p c C 4 7 a b = (-2, (follR c 4 a (nms a) r).2) := by unfold treeR; rw [if_neg (by decide), if_neg hf]
    rw [Bool.eq_false_iff.2 hf] at h1
    have kk : ∀ d, (∀ Q, Vc d 140 [rf (some 143), rf (some 2), rf (some (37 + 10 * c)), .int a] M Q = Q (some (.int (bI false))) M1) → ∀ Q, Vc (d + 1) 19 [rf (some 1), rf (some (78 + 3 * p)), .int a] M Q = Q (some (.int (-2))) M1 := fun d h Q => by
      show V (d + 1) 19 0 [some (rf (some 1)), some (rf (some (78 + 3 * p))), some (.int a), none] [] M Q = _
      simp only [s_19_0, s_19_1, s_19_4, s_19_5, s_19_8, s_19_9, s_19_12, s_19_13, s_19_16, s_19_19, s_19_21, s_19_22, s_19_23, s_19_26, s_19_29, s_19_30, s_19_31, s_19_34, s_19_37, s_19_38, s_19_39, s_19_42, s_19_45, s_19_46, s_19_49, s_19_50, s_19_53, s_19_56, s_19_58, s_19_59, s_19_60, s_19_61, s_19_64, s_19_67, s_19_70, s_19_72, s_19_73, s_19_74, s_19_77, s_19_78, eq_self, Nat.reduceLT, Nat.reduceLeDiff, Nat.reduceMod, Nat.reduceDiv, Nat.reduceAdd, Nat.reduceMul, Option.toList_some, Option.toList_none, List.cons_append, List.nil_append, List.append_nil, n10, n00, if_true, if_false, b0, b1, nI_add, true_and, and_true, and_self, sh_1, sh_2, sh_3, sh_36, sh_77, sh_126, k_1_0, k_1_1, k_1_2, k_1_3, k_1_4, k_1_5, k_2_0, sh_node, sh_cage, sh_cmts, sh_mrow, sh_que, sh_qv, sh_task, sh_tpow, sh_thld, sh_filt, sh_fop, sh_ffs, sh_fsc, sh_walk, ka_nodes, ka_cages, ka_tasks, ka_filts, kf_node_0, kf_cage_0, kf_cage_9, kf_task_0, kf_task_6, kf_task_7, kf_filt_0, kf_filt_1, kf_filt_2, kf_que, kf_cage_11, kf_cage_12, gi_K, gi_node1, gr_node, gi_cage1, gr_cage1, gr_cmts, gi_task1, gr_task1, gi_tpow, gr_thld, gi_filt, gi_fop, gi_ffs, gi_fsc, gr_walk, gr_mrow, gi_que, gi_qv, hw, hp, o2, sh_143, h, bI, cond_false]
    exact Pj_tr (M' := M1) (mp' := mp) (C' := C) hk iv hp hc hpc (fun Q => by rw [hT]; exact pf_7 (d := 5) hw (kk 4 h1)) w1 h2.2.1 (by rw [hT]; exact iv1.le (by omega))
/-! MOUNT -/
def mpA (mp : MP) (c k N : Nat) : MP := (fun x => if x = c then N + 1 else mp.1 x, fun x i => if x = c ∧ i = N then k else mp.2.1 x i, fun y => if y = k then N else mp.2.2.1 y, mp.2.2.2)
theorem iv_mount (iv : IV I O r C t mp) (ht : t < 2 ^ 30) (hc : c < C) {k a b N : Nat} {aBy : Int32} {ob : Option Nat} (hN : mp.1 c = N) (hN4 : N < 4) (hk1 : 4 * c ≤ k) (hk2 : k < 4 * c + 4) (hk0 : r 18 k = 0) (ha : a < 32 ∧ ¬ r 1 a = 0 ∧ r 4 a = 0) (hb : b < 32 ∧ r 0 40 = nI b ∧ ¬ r 1 b = 0 ∧ r 4 b = 0) (hby : (aBy = -1 ∧ ob = none ∧ Desc r (r 8 c) (nI a)) ∨ ∃ i', i' < N ∧ aBy = nI (mp.2.1 c i') ∧ ob = some (39 + 10 * c + mp.2.2.2 c i') ∧ Desc r (r 21 (mp.2.1 c i')) (nI a)) : IV (iu I 2 c 10 (nI (N + 1))) (ou (ou (ou O 4 (4 * c + mp.2.2.2 c N) 0 (some (4 + a))) 4 (4 * c + mp.2.2.2 c N) 1 ob) 4 (4 * c + mp.2.2.2 c N) 2 (some (4 + b))) (mntR r k (nI a) aBy) C (t + 1) (mpA mp c k N) := by
  have hC4 := iv.C4
  have hc4 : c < 4 := by omega
  have iv0 := iv
  have iv := iv.le (Nat.le_succ t)
  have hpi := (iv.m1 c hc4).2.2.2.1 N hN4
  have hinj := (iv.m1 c hc4).2.2.2.2
  have hsk : ∀ x i, x < 4 → i < mp.1 x → ¬ mp.2.1 x i = k := fun x i hx hi z => (iv.m2 x hx i hi).2.1 (by rw [z]; exact hk0)
  have hd : ∀ x y, Desc (mntR r k (nI a) aBy) x y = Desc r x y := fun x y => Desc.eq (fun j => by simp only [mntR, ru, iu, ou, eq_self, Nat.reduceEqDiff, false_and, and_false, if_false, true_and, and_true, and_self])
  have E1 : mntR r k (nI a) aBy 1 = r 1 := by funext j; simp only [mntR, ru, iu, ou, eq_self, Nat.reduceEqDiff, false_and, and_false, if_false, true_and, and_true, and_self]
  have E4 : mntR r k (nI a) aBy 4 = r 4 := by funext j; simp only [mntR, ru, iu, ou, eq_self, Nat.reduceEqDiff, false_and, and_false, if_false, true_and, and_true, and_self]
  have E8 : mntR r k (nI a) aBy 8 = r 8 := by funext j; simp only [mntR, ru, iu, ou, eq_self, Nat.reduceEqDiff, false_and, and_false, if_false, true_and, and_true, and_self]
  have e18 : mntR r k (nI a) aBy 18 k = nI 1 := by simp only [mntR, ru, iu, ou, eq_self, Nat.reduceEqDiff, false_and, and_false, if_false, true_and, and_true, and_self, if_true]
  have e19 : mntR r k (nI a) aBy 19 k = nI a := by simp only [mntR, ru, iu, ou, eq_self, Nat.reduceEqDiff, false_and, and_false, if_false, true_and, and_true, and_self, if_true]
  have e20 : mntR r k (nI a) aBy 20 k = aBy := by simp only [mntR, ru, iu, ou, eq_self, Nat.reduceEqDiff, false_and, and_false, if_false, true_and, and_true, and_self, if_true]
  have e21 : mntR r k (nI a) aBy 21 k = nI b := by rw [← hb.2.1]; simp only [mntR, ru, iu, ou, eq_self, Nat.reduceEqDiff, false_and, and_false, if_false, true_and, and_true, and_self, if_true]
  have e22 : mntR r k (nI a) aBy 22 k = r 0 37 + nI 1 := by simp only [mntR, ru, iu, ou, eq_self, Nat.reduceEqDiff, false_and, and_false, if_false, true_and, and_true, and_self, if_true]
  have N18 : ∀ y, ¬ y = k → mntR r k (nI a) aBy 18 y = r 18 y := fun y h => by simp only [mntR, ru, iu, ou, eq_self, Nat.reduceEqDiff, false_and, and_false, if_false, true_and, and_true, and_self, h]
  have N19 : ∀ y, ¬ y = k → mntR r k (nI a) aBy 19 y = r 19 y := fun y h => by simp only [mntR, ru, iu, ou, eq_self, Nat.reduceEqDiff, false_and, and_false, if_false, true_and, and_true, and_self, h]
  have N20 : ∀ y, ¬ y = k → mntR r k (nI a) aBy 20 y = r 20 y := fun y h => by simp only [mntR, ru, iu, ou, eq_self, Nat.reduceEqDiff, false_and, and_false, if_false, true_and, and_true, and_self, h]
  have N21 : ∀ y, ¬ y = k → mntR r k (nI a) aBy 21 y = r 21 y := fun y h => by simp only [mntR, ru, iu, ou, eq_self, Nat.reduceEqDiff, false_and, and_false, if_false, true_and, and_true, and_self, h]
  have N22 : ∀ y, ¬ y = k → mntR r k (nI a) aBy 22 y = r 22 y := fun y h => by simp only [mntR, ru, iu, ou, eq_self, Nat.reduceEqDiff, false_and, and_false, if_false, true_and, and_true, and_self, h]
  have A1 : ∀ x, ¬ x = c → (mpA mp c k N).1 x = mp.1 x := fun x h => by simp only [mpA, h, if_false]
  have A1c : (mpA mp c k N).1 c = N + 1 := by simp only [mpA, if_true]
  have A2 : ∀ x i, ¬ (x = c ∧ i = N) → (mpA mp c k N).2.1 x i = mp.2.1 x i := fun x i h => by simp only [mpA, h, if_false]
  have A2c : (mpA mp c k N).2.1 c N = k := by simp only [mpA, and_self, if_true]
  have A3 : ∀ y, ¬ y = k → (mpA mp c k N).2.2.1 y = mp.2.2.1 y := fun y h => by simp only [mpA, h, if_false]
  have A3k : (mpA mp c k N).2.2.1 k = N := by simp only [mpA, if_true]
  have A4 : (mpA mp c k N).2.2.2 = mp.2.2.2 := rfl
  refine ⟨iv.n1.cg (by simp only [mntR, ru, iu, ou, eq_self, Nat.reduceEqDiff, false_and, and_false, if_false, true_and, and_true, and_self, implies_true]) (by simp only [mntR, ru, iu, ou, eq_self, Nat.reduceEqDiff, false_and, and_false, if_false, true_and, and_true, and_self, implies_true]), iv.n2.cg (by simp only [mntR, ru, iu, ou, eq_self, Nat.reduceEqDiff, false_and, and_false, if_false, true_and, and_true, and_self, implies_true]) (by simp only [mntR, ru, iu, ou, eq_self, Nat.reduceEqDiff, false_and, and_false, if_false, true_and, and_true, and_self, implies_true]), iv.n3.cg (by simp only [mntR, ru, iu, ou, eq_self, Nat.reduceEqDiff, false_and, and_false, if_false, true_and, and_true, and_self, implies_true]), iv.k.cg (by simp only [mntR, ru, iu, ou, eq_self, Nat.reduceEqDiff, false_and, and_false, if_false, true_and, and_true, and_self, implies_true]) (by simp only [mntR, ru, iu, ou, eq_self, Nat.reduceEqDiff, false_and, and_false, if_false, true_and, and_true, and_self, implies_true]), iv.c.cg (by simp only [mntR, ru, iu, ou, eq_self, Nat.reduceEqDiff, false_and, and_false, if_false, true_and, and_true, and_self, implies_true]) (by simp only [mntR, ru, iu, ou, eq_self, Nat.reduceEqDiff, false_and, and_false, if_false, true_and, and_true, and_self, implies_true]), iv.g.cg (by simp only [mntR, ru, iu, ou, eq_self, Nat.reduceEqDiff, false_and, and_false, if_false, true_and, and_true, and_self, implies_true]) (by simp only [mntR, ru, iu, ou, eq_self, Nat.reduceEqDiff, false_and, and_false, if_false, true_and, and_true, and_self, implies_true]), iv.p1.cg (by simp only [mntR, ru, iu, ou, eq_self, Nat.reduceEqDiff, false_and, and_false, if_false, true_and, and_true, and_self, implies_true]) (by simp only [mntR, ru, iu, ou, eq_self, Nat.reduceEqDiff, false_and, and_false, if_false, true_and, and_true, and_self, implies_true]), iv.p2.cg (by simp only [mntR, ru, iu, ou, eq_self, Nat.reduceEqDiff, false_and, and_false, if_false, true_and, and_true, and_self, implies_true]) (by simp only [mntR, ru, iu, ou, eq_self, Nat.reduceEqDiff, false_and, and_false, if_false, true_and, and_true, and_self, implies_true]), iv.p3.cg (by simp only [mntR, ru, iu, ou, eq_self, Nat.reduceEqDiff, false_and, and_false, if_false, true_and, and_true, and_self, implies_true]), iv.p4.cg (by simp only [mntR, ru, iu, ou, eq_self, Nat.reduceEqDiff, false_and, and_false, if_false, true_and, and_true, and_self, implies_true]), iv.i.cg (by simp only [mntR, ru, iu, ou, eq_self, Nat.reduceEqDiff, false_and, and_false, if_false, true_and, and_true, and_self, implies_true]) (by simp only [mntR, ru, iu, ou, eq_self, Nat.reduceEqDiff, false_and, and_false, if_false, true_and, and_true, and_self, implies_true]), iv.h.cg (by simp only [mntR, ru, iu, ou, eq_self, Nat.reduceEqDiff, false_and, and_false, if_false, true_and, and_true, and_self, implies_true]) (by simp only [mntR, ru, iu, ou, eq_self, Nat.reduceEqDiff, false_and, and_false, if_false, true_and, and_true, and_self, implies_true]), iv.f1.cg (by simp only [mntR, ru, iu, ou, eq_self, Nat.reduceEqDiff, false_and, and_false, if_false, true_and, and_true, and_self, implies_true]) (by simp only [mntR, ru, iu, ou, eq_self, Nat.reduceEqDiff, false_and, and_false, if_false, true_and, and_true, and_self, implies_true]) (by simp only [mntR, ru, iu, ou, eq_self, Nat.reduceEqDiff, false_and, and_false, if_false, true_and, and_true, and_self, implies_true]), iv.f2.cg (by simp only [mntR, ru, iu, ou, eq_self, Nat.reduceEqDiff, false_and, and_false, if_false, true_and, and_true, and_self, implies_true]), iv.q.cg (by simp only [mntR, ru, iu, ou, eq_self, Nat.reduceEqDiff, false_and, and_false, if_false, true_and, and_true, and_self, implies_true]) (by simp only [mntR, ru, iu, ou, eq_self, Nat.reduceEqDiff, false_and, and_false, if_false, true_and, and_true, and_self, implies_true]) (by simp only [mntR, ru, iu, ou, eq_self, Nat.reduceEqDiff, false_and, and_false, if_false, true_and, and_true, and_self, implies_true]), ?_, ?_, ?_, ?_⟩
  · intro x hx
    obtain ⟨h1, h2, h3, h4, h5⟩ := iv.m1 x hx
    by_cases e : x = c
    · subst e
      rw [A1c, A4]
      exact ⟨by omega, fun z => by omega, by simp only [ru, iu, ou, eq_self, Nat.reduceEqDiff, false_and, and_false, if_false, true_and, and_true, and_self, if_true], by simp only [ru, iu, ou, eq_self, Nat.reduceEqDiff, false_and, and_false, if_false, true_and, and_true, and_self]; exact h4, h5⟩
    · rw [A1 x e, A4]
      exact ⟨h1, h2, by simp only [ru, iu, ou, eq_self, Nat.reduceEqDiff, false_and, and_false, if_false, true_and, and_true, and_self, e]; exact h3, by simp only [ru, iu, ou, eq_self, Nat.reduceEqDiff, false_and, and_false, if_false, true_and, and_true, and_self]; exact h4, h5⟩
  · intro x hx i hi
    by_cases e : x = c ∧ i = N
    · obtain ⟨rfl, rfl⟩ := e
      rw [A2c, A3k, A4, E1, E4, E8, e18, e19, e20, e21]
      refine ⟨⟨k - 4 * x, by omega, by omega⟩, by decide, rfl, ⟨a, ha.1, rfl, ha.2.1, ha.2.2, by simp only [ru, iu, ou, eq_self, Nat.reduceEqDiff, false_and, and_false, if_false, true_and, and_true, and_self, if_true]⟩, ⟨b, hb.1, rfl, hb.2.2.1, hb.2.2.2, by simp only [ru, iu, ou, eq_self, Nat.reduceEqDiff, false_and, and_false, if_false, true_and, and_true, and_self, if_true]⟩, ?_⟩
      rcases hby with ⟨z1, z2, z3⟩ | ⟨i', z1, z2, z3, z4⟩
      · exact Or.inl ⟨z1, by simp only [ru, iu, ou, eq_self, Nat.reduceEqDiff, false_and, and_false, if_false, true_and, and_true, and_self, if_true]; exact z2, by rw [hd]; exact z3⟩
      · have hne : ¬ (x = x ∧ i' = i) := fun z => by omega
        have hi' : i' < mp.1 x := by omega
        exact Or.inr ⟨i', z1, by rw [A2 x i' hne]; exact z2, by simp only [ru, iu, ou, eq_self, Nat.reduceEqDiff, false_and, and_false, if_false, true_and, and_true, and_self, if_true]; exact z3, by rw [hd, A2 x i' hne, N21 _ (hsk x i' hx hi')]; exact z4⟩
    · have hi' : i < mp.1 x := by
        by_cases ex : x = c
        · subst ex
          rw [A1c] at hi
          have : ¬ i = N := fun z => e ⟨rfl, z⟩
          omega
        · rw [A1 x ex] at hi; exact hi
      have hs := hsk x i hx hi'
      obtain ⟨h1, h2, h3, h4, h5, h6⟩ := iv.m2 x hx i hi'
      have hrow : ¬ 4 * x + mp.2.2.2 x i = 4 * c + mp.2.2.2 c N := fun z => by
        have hm4 := (iv.m1 x hx).1
        have hp1 := ((iv.m1 x hx).2.2.2.1 i (by omega)).1
        have hp2 := hpi.1
        have ex : x = c := by omega
        subst ex
        exact e ⟨rfl, hinj i N (by omega) hN4 (by omega)⟩
      rw [A2 x i e, A3 _ hs, A4, E1, E4, E8, N18 _ hs, N19 _ hs, N20 _ hs, N21 _ hs]
      simp only [hd, ru, iu, ou, eq_self, Nat.reduceEqDiff, false_and, and_false, if_false, true_and, and_true, and_self, hrow]
      refine ⟨h1, h2, h3, h4, h5, ?_⟩
      rcases h6 with h6 | ⟨i', z1, z2, z3, z4⟩
      · exact Or.inl h6
      · have hne : ¬ (x = c ∧ i' = N) := fun z => by rw [z.1, hN] at hi'; omega
        exact Or.inr ⟨i', z1, by rw [A2 x i' hne]; exact z2, z3, by rw [A2 x i' hne, N21 _ (hsk x i' hx (by omega))]; exact z4⟩
  · obtain ⟨g, h1, h2, h3⟩ := iv0.m3
    have e37 : r 0 37 + nI 1 = nI (g + 1) := by rw [h2, nI_add]
    refine ⟨g + 1, by omega, by rw [← e37]; simp only [mntR, ru, iu, ou, eq_self, Nat.reduceEqDiff, false_and, and_false, if_false, true_and, and_true, and_self, if_true], fun x hx i hi => ?_⟩
    by_cases e : x = c ∧ i = N
    · obtain ⟨rfl, rfl⟩ := e
      rw [A2c, e22, e37]
      refine ⟨g + 1, by omega, rfl, fun i' hi' => ?_⟩
      have hne : ¬ (x = x ∧ i' = i) := fun z => by omega
      have hi2 : i' < mp.1 x := by omega
      obtain ⟨a', q1, q2, -⟩ := h3 x hx i' hi2
      exact ⟨a', by omega, by rw [A2 x i' hne, N22 _ (hsk x i' hx hi2)]; exact q2⟩
    · have hi' : i < mp.1 x := by
        by_cases ex : x = c
        · subst ex
          rw [A1c] at hi
          have : ¬ i = N := fun z => e ⟨rfl, z⟩
          omega
        · rw [A1 x ex] at hi; exact hi
      obtain ⟨a', q1, q2, q3⟩ := h3 x hx i hi'
      rw [A2 x i e, N22 _ (hsk x i hx hi')]
      refine ⟨a', by omega, q2, fun i' hlt => ?_⟩
      have hne : ¬ (x = c ∧ i' = N) := fun z => by rw [z.1, hN] at hi'; omega
      obtain ⟨a'', q4, q5⟩ := q3 i' hlt
      exact ⟨a'', q4, by rw [A2 x i' hne, N22 _ (hsk x i' hx (by omega))]; exact q5⟩
  · intro y hy h
    by_cases e : y = k
    · exact ⟨c, N, hc4, by rw [A1c]; omega, by rw [A2c, e]⟩
    · rw [N18 y e] at h
      obtain ⟨x, i, g1, g2, g3⟩ := iv.m4 y hy h
      have hne : ¬ (x = c ∧ i = N) := fun z => by rw [z.1, z.2, hN] at g2; omega
      refine ⟨x, i, g1, ?_, by rw [A2 x i hne]; exact g3⟩
      by_cases ex : x = c
      · subst ex; rw [A1c]; omega
      · rw [A1 x ex]; exact g2
end
