section
variable {d : Nat} {M : mH} {Q : Option Value → mH → Prop} {C t c p n i : Nat} {mp : MP} {I : CI} {O : CO} {r s : RS}
def qPB (r : RS) (mp : MP) (c i u : Nat) : Bool := decide (r 20 (mp.2.1 c u) = nI (mp.2.1 c i))
theorem k_hasPB_l (hw : wf M) (iv : IV (ig M) (og M) r C t mp) (hc : c < 4) (hi : i < mp.1 c) : ∀ k u, u + k = mp.1 c → V d 106 2 [some (rf (some (37 + 10 * c))), some (rf (some (39 + 10 * c + mp.2.2.2 c i))), some (.int (nI u))] [] M Q = if (ffind (qPB r mp c i) u k).isSome = true then Q (some (.int (nI 1))) M else Q (some (.int (nI 0))) M := by
  obtain ⟨hn4, -, -, hpi, hinj⟩ := iv.m1 c hc
  intro k
  induction k with
  | zero =>
    intro u hu
    rw [s_106_2]
    simp only [s_106_0, s_106_1, s_106_3, s_106_4, s_106_7, s_106_10, s_106_11, s_106_12, s_106_15, s_106_16, s_106_19, s_106_20, s_106_21, s_106_24, s_106_25, s_106_28, s_106_29, s_106_30, s_106_33, s_106_36, s_106_37, eq_self, Nat.reduceLT, Nat.reduceLeDiff, Nat.reduceMod, Nat.reduceDiv, Nat.reduceAdd, Nat.reduceMul, Option.toList_some, Option.toList_none, List.cons_append, List.nil_append, List.append_nil, n10, n00, if_true, if_false, b0, b1, nI_add, true_and, and_true, and_self, sh_1, sh_2, sh_3, sh_36, sh_77, sh_126, k_1_0, k_1_1, k_1_2, k_1_3, k_1_4, k_1_5, k_2_0, sh_node, sh_cage, sh_cmts, sh_mrow, sh_que, sh_qv, sh_task, sh_tpow, sh_thld, sh_filt, sh_fop, sh_ffs, sh_fsc, sh_walk, ka_nodes, ka_cages, ka_tasks, ka_filts, kf_node_0, kf_cage_0, kf_cage_9, kf_task_0, kf_task_6, kf_task_7, kf_filt_0, kf_filt_1, kf_filt_2, kf_que, kf_cage_11, kf_cage_12, gi_K, gi_node1, gr_node, gi_cage1, gr_cage1, gr_cmts, gi_task1, gr_task1, gi_tpow, gr_thld, gi_filt, gi_fop, gi_ffs, gi_fsc, gr_walk, gr_mrow, gi_que, gi_qv, hw, hc, iv.c_10 hc, ← hu, Nat.add_zero, show nI u ≤ nI u from Int32.le_refl _, ffind, Option.isSome_none, Bool.false_eq_true]
  | succ k ih =>
    intro u hu
    have hlt : u < mp.1 c := by omega
    have h4 : u < 4 := by omega
    obtain ⟨hpu, ho3⟩ := hpi u h4
    obtain ⟨-, -, -, -, -, h6⟩ := iv.m2 c hc u hlt
    have l1 := pos_lt iv.m2 hc hi
    rw [s_106_2]
    rcases h6 with ⟨z1, z2, -⟩ | ⟨i', z1, z2, z3, -⟩
    · have hq : qPB r mp c i u = false := decide_eq_false (fun z => m1ne (show mp.2.1 c i < 2 ^ 31 by omega) (z1.symm.trans z))
      have hne : ¬ (none : Option Nat) = some (39 + 10 * c + mp.2.2.2 c i) := by simp
      simp only [s_106_0, s_106_1, s_106_3, s_106_4, s_106_7, s_106_10, s_106_11, s_106_12, s_106_15, s_106_16, s_106_19, s_106_20, s_106_21, s_106_24, s_106_25, s_106_28, s_106_29, s_106_30, s_106_33, s_106_36, s_106_37, eq_self, Nat.reduceLT, Nat.reduceLeDiff, Nat.reduceMod, Nat.reduceDiv, Nat.reduceAdd, Nat.reduceMul, Option.toList_some, Option.toList_none, List.cons_append, List.nil_append, List.append_nil, n10, n00, if_true, if_false, b0, b1, nI_add, true_and, and_true, and_self, sh_1, sh_2, sh_3, sh_36, sh_77, sh_126, k_1_0, k_1_1, k_1_2, k_1_3, k_1_4, k_1_5, k_2_0, sh_node, sh_cage, sh_cmts, sh_mrow, sh_que, sh_qv, sh_task, sh_tpow, sh_thld, sh_filt, sh_fop, sh_ffs, sh_fsc, sh_walk, ka_nodes, ka_cages, ka_tasks, ka_filts, kf_node_0, kf_cage_0, kf_cage_9, kf_task_0, kf_task_6, kf_task_7, kf_filt_0, kf_filt_1, kf_filt_2, kf_que, kf_cage_11, kf_cage_12, gi_K, gi_node1, gr_node, gi_cage1, gr_cage1, gr_cmts, gi_task1, gr_task1, gi_tpow, gr_thld, gi_filt, gi_fop, gi_ffs, gi_fsc, gr_walk, gr_mrow, gi_que, gi_qv, hw, hc, h4, hpu, iv.c_10 hc, nI_ge hlt (by omega), nI_ge h4 (by decide), ho3, z2, hne, ih (u + 1) (by omega), ffind, hq, cond_false]
    · have l2 := pos_lt iv.m2 hc (show i' < mp.1 c by omega)
      by_cases e : i' = i
      · subst e
        have hq : qPB r mp c i' u = true := decide_eq_true z2
        simp only [s_106_0, s_106_1, s_106_3, s_106_4, s_106_7, s_106_10, s_106_11, s_106_12, s_106_15, s_106_16, s_106_19, s_106_20, s_106_21, s_106_24, s_106_25, s_106_28, s_106_29, s_106_30, s_106_33, s_106_36, s_106_37, eq_self, Nat.reduceLT, Nat.reduceLeDiff, Nat.reduceMod, Nat.reduceDiv, Nat.reduceAdd, Nat.reduceMul, Option.toList_some, Option.toList_none, List.cons_append, List.nil_append, List.append_nil, n10, n00, if_true, if_false, b0, b1, nI_add, true_and, and_true, and_self, sh_1, sh_2, sh_3, sh_36, sh_77, sh_126, k_1_0, k_1_1, k_1_2, k_1_3, k_1_4, k_1_5, k_2_0, sh_node, sh_cage, sh_cmts, sh_mrow, sh_que, sh_qv, sh_task, sh_tpow, sh_thld, sh_filt, sh_fop, sh_ffs, sh_fsc, sh_walk, ka_nodes, ka_cages, ka_tasks, ka_filts, kf_node_0, kf_cage_0, kf_cage_9, kf_task_0, kf_task_6, kf_task_7, kf_filt_0, kf_filt_1, kf_filt_2, kf_que, kf_cage_11, kf_cage_12, gi_K, gi_node1, gr_node, gi_cage1, gr_cage1, gr_cmts, gi_task1, gr_task1, gi_tpow, gr_thld, gi_filt, gi_fop, gi_ffs, gi_fsc, gr_walk, gr_mrow, gi_que, gi_qv, hw, hc, h4, hpu, iv.c_10 hc, nI_ge hlt (by omega), nI_ge h4 (by decide), ho3, z3, ffind, hq, cond_true, Option.isSome_some]
      · have hq : qPB r mp c i u = false := decide_eq_false (fun z => e (pos_inj iv.m2 hc (by omega) hi ((nI_eq (by omega) (by omega)).1 (z2.symm.trans z))))
        have hne : ¬ some (39 + 10 * c + mp.2.2.2 c i') = some (39 + 10 * c + mp.2.2.2 c i) := fun z => e (hinj i' i (by omega) (by omega) (by have := Option.some.inj z; omega))
        simp only [s_106_0, s_106_1, s_106_3, s_106_4, s_106_7, s_106_10, s_106_11, s_106_12, s_106_15, s_106_16, s_106_19, s_106_20, s_106_21, s_106_24, s_106_25, s_106_28, s_106_29, s_106_30, s_106_33, s_106_36, s_106_37, eq_self, Nat.reduceLT, Nat.reduceLeDiff, Nat.reduceMod, Nat.reduceDiv, Nat.reduceAdd, Nat.reduceMul, Option.toList_some, Option.toList_none, List.cons_append, List.nil_append, List.append_nil, n10, n00, if_true, if_false, b0, b1, nI_add, true_and, and_true, and_self, sh_1, sh_2, sh_3, sh_36, sh_77, sh_126, k_1_0, k_1_1, k_1_2, k_1_3, k_1_4, k_1_5, k_2_0, sh_node, sh_cage, sh_cmts, sh_mrow, sh_que, sh_qv, sh_task, sh_tpow, sh_thld, sh_filt, sh_fop, sh_ffs, sh_fsc, sh_walk, ka_nodes, ka_cages, ka_tasks, ka_filts, kf_node_0, kf_cage_0, kf_cage_9, kf_task_0, kf_task_6, kf_task_7, kf_filt_0, kf_filt_1, kf_filt_2, kf_que, kf_cage_11, kf_cage_12, gi_K, gi_node1, gr_node, gi_cage1, gr_cage1, gr_cmts, gi_task1, gr_task1, gi_tpow, gr_thld, gi_filt, gi_fop, gi_ffs, gi_fsc, gr_walk, gr_mrow, gi_que, gi_qv, hw, hc, h4, hpu, iv.c_10 hc, nI_ge hlt (by omega), nI_ge h4 (by decide), ho3, z3, hne, ih (u + 1) (by omega), ffind, hq, cond_false]
theorem k_hasPB (hw : wf M) (iv : IV (ig M) (og M) r C t mp) (hc : c < 4) (hi : i < mp.1 c) : Vc d 106 [rf (some (37 + 10 * c)), rf (some (39 + 10 * c + mp.2.2.2 c i))] M Q = if (ffind (qPB r mp c i) 0 (mp.1 c)).isSome = true then Q (some (.int (nI 1))) M else Q (some (.int (nI 0))) M := by
  show V d 106 0 [some (rf (some (37 + 10 * c))), some (rf (some (39 + 10 * c + mp.2.2.2 c i))), none] [] M Q = _
  rw [s_106_0, s_106_1, k_hasPB_l hw iv hc hi (mp.1 c) 0 (by omega)]
theorem PB_eq (iv : IV I O r C t mp) (hc : c < 4) : (ffind (qPB r mp c i) 0 (mp.1 c)).isSome = (ffind (pBy r (nI (mp.2.1 c i))) (4 * c) 4).isSome := by
  rw [Bool.eq_iff_iff, ffind_iff, ffind_iff]
  constructor
  · rintro ⟨u, h1, h2, h3⟩
    have hu : u < mp.1 c := by omega
    have hlt := pos_lt iv.m2 hc hu
    exact ⟨mp.2.1 c u, by omega, by omega, decide_eq_true ⟨(iv.m2 c hc u hu).2.1, of_decide_eq_true h3⟩⟩
  · rintro ⟨k, h1, h2, h3⟩
    obtain ⟨k1, k2⟩ := of_decide_eq_true h3
    obtain ⟨x, u, g1, g2, g3⟩ := iv.m4 k (by omega) k1
    have hlt := pos_lt iv.m2 g1 g2
    obtain rfl : x = c := by omega
    exact ⟨u, by omega, by omega, decide_eq_true (by rw [g3]; exact k2)⟩
theorem pj_13 (ht : t < 2 ^ 30) (hw : wf M) (iv : IV (ig M) (og M) r C t mp) (hp : p < 16) (h24 : r 24 p = nI 1) (hpc : r 25 p = nI c) (hc : c < C) {a b : Int32} : Pj p (nI 13) a b M r t := by
  have hC4 := iv.C4
  have hc4 : c < 4 := by omega
  have o2 := iv.live hp h24 hpc hc
  obtain ⟨M1, h1, h2, h3⟩ := k_follow (d := 1) (w := 0) ht hw iv hc (by decide) (p := a)
  have h1 : ∀ Q, Vc 4 140 [rf (some 143), rf (some 2), rf (some (37 + 10 * c)), .int a] M Q = Q (some (.int (bI (follR c 4 a (nms a) r).1))) M1 := h1
  obtain ⟨ag, pv⟩ := foll_agr iv hc (p := a) (m := nms a)
  have iv1 := iv_agr (h2.iv iv) ag
  have hk : (13 : Nat) = 4 ∨ 13 = 5 ∨ 13 = 6 ∨ 13 = 7 ∨ 13 = 8 ∨ 13 = 12 ∨ 13 = 13 := Or.inr (Or.inr (Or.inr (Or.inr (Or.inr (Or.inr rfl)))))
  have w1 := h2.1
  by_cases hf : (follR c 4 a (nms a) r).1 = true
  · have hT0 : treeR r p c C 4 13 a b = unm2 (follR c 4 a (nms a) r).2 p c (byO (follR c 4 a (nms a) r).2) := by
      unfold treeR; rw [if_neg (by decide), if_pos hf]; rfl
    have hwk := h3 hf
    rw [hf] at h1
    generalize (follR c 4 a (nms a) r).2 = s at hwk iv1 ag hT0
    have s24 : s 24 p = nI 1 := by rw [ag.row (by decide) (by decide)]; exact h24
    have spc : s 25 p = nI c := by rw [ag.row (by decide) (by decide)]; exact hpc
    have so2 := iv1.live hp s24 spc hc
    have hsh : ∀ d Q, Vc d 143 [rf (some 143)] M1 Q = if ¬ s 0 41 < 0 ∧ s 0 40 = s 21 (s 0 41).toNatClampNeg then Q (some (.int (nI 1))) M1 else Q (some (.int (nI 0))) M1 := fun d Q => k_isAtShown (w := 0) w1 iv1 hc4 (by decide) hwk
    have hgo : ∀ d, (∀ Q, Vc d 140 [rf (some 143), rf (some 2), rf (some (37 + 10 * c)), .int a] M Q = Q (some (.int (bI true))) M1) → ∀ Q, Vc (d + 1) 25 [rf (some 1), rf (some (78 + 3 * p)), .int a] M Q = V (d + 1) 25 22 [some (rf (some 1)), some (rf (some (78 + 3 * p))), some (.int a)] [] M1 Q := fun d h Q => by
      show V (d + 1) 25 0 [some (rf (some 1)), some (rf (some (78 + 3 * p))), some (.int a)] [] M Q = _
      simp only [s_25_0, s_25_1, s_25_4, s_25_5, s_25_8, s_25_9, s_25_12, s_25_13, s_25_16, s_25_19, s_25_21, s_25_23, s_25_26, s_25_29, s_25_32, s_25_34, s_25_35, s_25_36, s_25_38, s_25_41, s_25_44, s_25_46, s_25_47, s_25_48, s_25_51, s_25_52, s_25_55, s_25_58, s_25_61, s_25_64, s_25_66, s_25_67, s_25_68, s_25_71, s_25_72, s_25_75, s_25_78, s_25_81, s_25_82, eq_self, Nat.reduceLT, Nat.reduceLeDiff, Nat.reduceMod, Nat.reduceDiv, Nat.reduceAdd, Nat.reduceMul, Option.toList_some, Option.toList_none, List.cons_append, List.nil_append, List.append_nil, n10, n00, if_true, if_false, b0, b1, nI_add, true_and, and_true, and_self, sh_1, sh_2, sh_3, sh_36, sh_77, sh_126, k_1_0, k_1_1, k_1_2, k_1_3, k_1_4, k_1_5, k_2_0, sh_node, sh_cage, sh_cmts, sh_mrow, sh_que, sh_qv, sh_task, sh_tpow, sh_thld, sh_filt, sh_fop, sh_ffs, sh_fsc, sh_walk, ka_nodes, ka_cages, ka_tasks, ka_filts, kf_node_0, kf_cage_0, kf_cage_9, kf_task_0, kf_task_6, kf_task_7, kf_filt_0, kf_filt_1, kf_filt_2, kf_que, kf_cage_11, kf_cage_12, gi_K, gi_node1, gr_node, gi_cage1, gr_cage1, gr_cmts, gi_task1, gr_task1, gi_tpow, gr_thld, gi_filt, gi_fop, gi_ffs, gi_fsc, gr_walk, gr_mrow, gi_que, gi_qv, hw, hp, o2, sh_143, h, bI, cond_true]
    have hg4 := hgo 4 h1
    have fin : ∀ (res : Int32) (_ : treeR r p c C 4 13 a b = (res, s)) (_ : ∀ d Q, V (d + 1) 25 22 [some (rf (some 1)), some (rf (some (78 + 3 * p))), some (.int a)] [] M1 Q = Q (some (.int res)) M1), Pj p (nI 13) a b M r t := fun res hT kk =>
      Pj_tr (M' := M1) (mp' := mp) (C' := C) hk iv hp hc hpc (fun Q => by rw [hT]; exact pf_13 (d := 5) hw (fun Q => (hg4 Q).trans (kk 4 Q))) w1 h2.2.1 (by rw [hT]; exact iv1.le (by omega))
    rcases hwk.w1 iv1 hc4 with ⟨v1, v2⟩ | ⟨i, v1, v2, v3, v4, v5, v6⟩
    · have hB : byO s = none := by unfold byO; rw [v1]; rfl
      rw [hB] at hT0
      have hcon : ¬ (¬ s 0 41 < 0 ∧ s 0 40 = s 21 (s 0 41).toNatClampNeg) := fun z => z.1 (by rw [v1]; decide)
      refine fin (-9) hT0 (fun d Q => ?_)
      simp only [s_25_0, s_25_1, s_25_4, s_25_5, s_25_8, s_25_9, s_25_12, s_25_13, s_25_16, s_25_19, s_25_21, s_25_22, s_25_23, s_25_26, s_25_29, s_25_32, s_25_34, s_25_35, s_25_36, s_25_38, s_25_41, s_25_44, s_25_46, s_25_47, s_25_48, s_25_51, s_25_52, s_25_55, s_25_58, s_25_61, s_25_64, s_25_66, s_25_67, s_25_68, s_25_71, s_25_72, s_25_75, s_25_78, s_25_81, s_25_82, eq_self, Nat.reduceLT, Nat.reduceLeDiff, Nat.reduceMod, Nat.reduceDiv, Nat.reduceAdd, Nat.reduceMul, Option.toList_some, Option.toList_none, List.cons_append, List.nil_append, List.append_nil, n10, n00, if_true, if_false, b0, b1, nI_add, true_and, and_true, and_self, sh_1, sh_2, sh_3, sh_36, sh_77, sh_126, k_1_0, k_1_1, k_1_2, k_1_3, k_1_4, k_1_5, k_2_0, sh_node, sh_cage, sh_cmts, sh_mrow, sh_que, sh_qv, sh_task, sh_tpow, sh_thld, sh_filt, sh_fop, sh_ffs, sh_fsc, sh_walk, ka_nodes, ka_cages, ka_tasks, ka_filts, kf_node_0, kf_cage_0, kf_cage_9, kf_task_0, kf_task_6, kf_task_7, kf_filt_0, kf_filt_1, kf_filt_2, kf_que, kf_cage_11, kf_cage_12, gi_K, gi_node1, gr_node, gi_cage1, gr_cage1, gr_cmts, gi_task1, gr_task1, gi_tpow, gr_thld, gi_filt, gi_fop, gi_ffs, gi_fsc, gr_walk, gr_mrow, gi_que, gi_qv, w1, sh_143, hsh, eq_false hcon]
    · have hlt := pos_lt iv1.m2 hc4 v1
      have hnn : ¬ s 0 41 < 0 := by rw [v3]; exact nI_pos (by omega)
      have hB : byO s = some (mp.2.1 c i) := by unfold byO; rw [if_neg hnn, v4]
      rw [hB] at hT0
      unfold unm2 at hT0
      dsimp only at hT0
      by_cases hs : s 21 (mp.2.1 c i) = s 0 40
      · rw [if_pos hs] at hT0
        have hcon : ¬ s 0 41 < 0 ∧ s 0 40 = s 21 (s 0 41).toNatClampNeg := ⟨hnn, by rw [v4]; exact hs.symm⟩
        by_cases hpw : s 31 (4 * p) &&& nI 8 = 0
        · rw [if_pos hpw] at hT0
          refine fin (-4) hT0 (fun d Q => ?_)
          simp only [s_25_0, s_25_1, s_25_4, s_25_5, s_25_8, s_25_9, s_25_12, s_25_13, s_25_16, s_25_19, s_25_21, s_25_22, s_25_23, s_25_26, s_25_29, s_25_32, s_25_34, s_25_35, s_25_36, s_25_38, s_25_41, s_25_44, s_25_46, s_25_47, s_25_48, s_25_51, s_25_52, s_25_55, s_25_58, s_25_61, s_25_64, s_25_66, s_25_67, s_25_68, s_25_71, s_25_72, s_25_75, s_25_78, s_25_81, s_25_82, eq_self, Nat.reduceLT, Nat.reduceLeDiff, Nat.reduceMod, Nat.reduceDiv, Nat.reduceAdd, Nat.reduceMul, Option.toList_some, Option.toList_none, List.cons_append, List.nil_append, List.append_nil, n10, n00, if_true, if_false, b0, b1, nI_add, true_and, and_true, and_self, sh_1, sh_2, sh_3, sh_36, sh_77, sh_126, k_1_0, k_1_1, k_1_2, k_1_3, k_1_4, k_1_5, k_2_0, sh_node, sh_cage, sh_cmts, sh_mrow, sh_que, sh_qv, sh_task, sh_tpow, sh_thld, sh_filt, sh_fop, sh_ffs, sh_fsc, sh_walk, ka_nodes, ka_cages, ka_tasks, ka_filts, kf_node_0, kf_cage_0, kf_cage_9, kf_task_0, kf_task_6, kf_task_7, kf_filt_0, kf_filt_1, kf_filt_2, kf_que, kf_cage_11, kf_cage_12, gi_K, gi_node1, gr_node, gi_cage1, gr_cage1, gr_cmts, gi_task1, gr_task1, gi_tpow, gr_thld, gi_filt, gi_fop, gi_ffs, gi_fsc, gr_walk, gr_mrow, gi_que, gi_qv, w1, hp, sh_143, hsh, eq_true hcon, k_hasPower w1 iv1 hp, hpw]
        · rw [if_neg hpw] at hT0
          have hPB := PB_eq iv1 hc4 (i := i)
          cases hfb : ffind (pBy s (nI (mp.2.1 c i))) (4 * c) 4 with
          | some x =>
            rw [hfb] at hT0 hPB
            have hpb : (ffind (qPB s mp c i) 0 (mp.1 c)).isSome = true := hPB
            refine fin (-7) hT0 (fun d Q => ?_)
            simp only [s_25_0, s_25_1, s_25_4, s_25_5, s_25_8, s_25_9, s_25_12, s_25_13, s_25_16, s_25_19, s_25_21, s_25_22, s_25_23, s_25_26, s_25_29, s_25_32, s_25_34, s_25_35, s_25_36, s_25_38, s_25_41, s_25_44, s_25_46, s_25_47, s_25_48, s_25_51, s_25_52, s_25_55, s_25_58, s_25_61, s_25_64, s_25_66, s_25_67, s_25_68, s_25_71, s_25_72, s_25_75, s_25_78, s_25_81, s_25_82, eq_self, Nat.reduceLT, Nat.reduceLeDiff, Nat.reduceMod, Nat.reduceDiv, Nat.reduceAdd, Nat.reduceMul, Option.toList_some, Option.toList_none, List.cons_append, List.nil_append, List.append_nil, n10, n00, if_true, if_false, b0, b1, nI_add, true_and, and_true, and_self, sh_1, sh_2, sh_3, sh_36, sh_77, sh_126, k_1_0, k_1_1, k_1_2, k_1_3, k_1_4, k_1_5, k_2_0, sh_node, sh_cage, sh_cmts, sh_mrow, sh_que, sh_qv, sh_task, sh_tpow, sh_thld, sh_filt, sh_fop, sh_ffs, sh_fsc, sh_walk, ka_nodes, ka_cages, ka_tasks, ka_filts, kf_node_0, kf_cage_0, kf_cage_9, kf_task_0, kf_task_6, kf_task_7, kf_filt_0, kf_filt_1, kf_filt_2, kf_que, kf_cage_11, kf_cage_12, gi_K, gi_node1, gr_node, gi_cage1, gr_cage1, gr_cmts, gi_task1, gr_task1, gi_tpow, gr_thld, gi_filt, gi_fop, gi_ffs, gi_fsc, gr_walk, gr_mrow, gi_que, gi_qv, w1, hp, hc4, so2, sh_143, g143, v5, hsh, eq_true hcon, k_hasPower w1 iv1 hp, hpw, k_hasPB w1 iv1 hc4 v1, hpb]
          | none =>
            rw [hfb] at hT0 hPB
            have hpb : (ffind (qPB s mp c i) 0 (mp.1 c)).isSome = false := hPB
            obtain ⟨hn4, -, h10, hpi, hinj⟩ := iv1.m1 c hc4
            obtain ⟨M2, k1, k2, k3, k4, k5, k6⟩ := k_drop (d := 4) w1 hc4 (f := mp.2.2.2 c) (fun l hl => (hpi l hl).1) hinj hn4 v1 (fun l hl => (hpi l hl).2) h10
            have kk : ∀ d, (∀ Q, Vc d 104 [rf (some (37 + 10 * c)), rf (some (39 + 10 * c + mp.2.2.2 c i))] M1 Q = Q none M2) → ∀ Q, V (d + 1) 25 22 [some (rf (some 1)), some (rf (some (78 + 3 * p))), some (.int a)] [] M1 Q = Q (some (.int (nI 0))) M2 := fun d h Q => by
              simp only [s_25_0, s_25_1, s_25_4, s_25_5, s_25_8, s_25_9, s_25_12, s_25_13, s_25_16, s_25_19, s_25_21, s_25_22, s_25_23, s_25_26, s_25_29, s_25_32, s_25_34, s_25_35, s_25_36, s_25_38, s_25_41, s_25_44, s_25_46, s_25_47, s_25_48, s_25_51, s_25_52, s_25_55, s_25_58, s_25_61, s_25_64, s_25_66, s_25_67, s_25_68, s_25_71, s_25_72, s_25_75, s_25_78, s_25_81, s_25_82, eq_self, Nat.reduceLT, Nat.reduceLeDiff, Nat.reduceMod, Nat.reduceDiv, Nat.reduceAdd, Nat.reduceMul, Option.toList_some, Option.toList_none, List.cons_append, List.nil_append, List.append_nil, n10, n00, if_true, if_false, b0, b1, nI_add, true_and, and_true, and_self, sh_1, sh_2, sh_3, sh_36, sh_77, sh_126, k_1_0, k_1_1, k_1_2, k_1_3, k_1_4, k_1_5, k_2_0, sh_node, sh_cage, sh_cmts, sh_mrow, sh_que, sh_qv, sh_task, sh_tpow, sh_thld, sh_filt, sh_fop, sh_ffs, sh_fsc, sh_walk, ka_nodes, ka_cages, ka_tasks, ka_filts, kf_node_0, kf_cage_0, kf_cage_9, kf_task_0, kf_task_6, kf_task_7, kf_filt_0, kf_filt_1, kf_filt_2, kf_que, kf_cage_11, kf_cage_12, gi_K, gi_node1, gr_node, gi_cage1, gr_cage1, gr_cmts, gi_task1, gr_task1, gi_tpow, gr_thld, gi_filt, gi_fop, gi_ffs, gi_fsc, gr_walk, gr_mrow, gi_que, gi_qv, w1, hp, hc4, so2, sh_143, g143, v5, hsh, eq_true hcon, k_hasPower w1 iv1 hp, hpw, k_hasPB w1 iv1 hc4 v1, hpb, Bool.false_eq_true, h]
            have ivu := iv_unm iv1 hc (O' := og M2) v1 (fun u hu z => by
              have : (ffind (qPB s mp c i) 0 (mp.1 c)).isSome = true := ffind_iff.2 ⟨u, by omega, by omega, decide_eq_true z⟩
              rw [hpb] at this
              exact absurd this (by decide)) k5 k6
            exact Pj_tr (M' := M2) (mp' := mpD mp c i) (C' := C) hk iv hp hc hpc (fun Q => by rw [hT0]; exact pf_13 (d := 5) hw (fun Q => (hg4 Q).trans (kk 4 k1 Q))) k2 (k3.trans h2.2.1) (by rw [hT0, k4]; exact ivu.le (by omega))
      · rw [if_neg hs] at hT0
        have hcon : ¬ (¬ s 0 41 < 0 ∧ s 0 40 = s 21 (s 0 41).toNatClampNeg) := fun z => hs (by rw [← v4]; exact z.2.symm)
        refine fin (-9) hT0 (fun d Q => ?_)
        simp only [s_25_0, s_25_1, s_25_4, s_25_5, s_25_8, s_25_9, s_25_12, s_25_13, s_25_16, s_25_19, s_25_21, s_25_22, s_25_23, s_25_26, s_25_29, s_25_32, s_25_34, s_25_35, s_25_36, s_25_38, s_25_41, s_25_44, s_25_46, s_25_47, s_25_48, s_25_51, s_25_52, s_25_55, s_25_58, s_25_61, s_25_64, s_25_66, s_25_67, s_25_68, s_25_71, s_25_72, s_25_75, s_25_78, s_25_81, s_25_82, eq_self, Nat.reduceLT, Nat.reduceLeDiff, Nat.reduceMod, Nat.reduceDiv, Nat.reduceAdd, Nat.reduceMul, Option.toList_some, Option.toList_none, List.cons_append, List.nil_append, List.append_nil, n10, n00, if_true, if_false, b0, b1, nI_add, true_and, and_true, and_self, sh_1, sh_2, sh_3, sh_36, sh_77, sh_126, k_1_0, k_1_1, k_1_2, k_1_3, k_1_4, k_1_5, k_2_0, sh_node, sh_cage, sh_cmts, sh_mrow, sh_que, sh_qv, sh_task, sh_tpow, sh_thld, sh_filt, sh_fop, sh_ffs, sh_fsc, sh_walk, ka_nodes, ka_cages, ka_tasks, ka_filts, kf_node_0, kf_cage_0, kf_cage_9, kf_task_0, kf_task_6, kf_task_7, kf_filt_0, kf_filt_1, kf_filt_2, kf_que, kf_cage_11, kf_cage_12, gi_K, gi_node1, gr_node, gi_cage1, gr_cage1, gr_cmts, gi_task1, gr_task1, gi_tpow, gr_thld, gi_filt, gi_fop, gi_ffs, gi_fsc, gr_walk, gr_mrow, gi_que, gi_qv, w1, sh_143, hsh, eq_false hcon]
  · have hT : treeR r p c C 4 13 a b = (-2, (follR c 4 a (nms a) r).2) := by unfold treeR; rw [if_neg (by decide), if_neg hf]
    rw [Bool.eq_false_iff.2 hf] at h1
    have kk : ∀ d, (∀ Q, Vc d 140 [rf (some 143), rf (some 2), rf (some (37 + 10 * c)), .int a] M Q = Q (some (.int (bI false))) M1) → ∀ Q, Vc (d + 1) 25 [rf (some 1), rf (some (78 + 3 * p)), .int a] M Q = Q (some (.int (-2))) M1 := fun d h Q => by
      show V (d + 1) 25 0 [some (rf (some 1)), some (rf (some (78 + 3 * p))), some (.int a)] [] M Q = _
      simp only [s_25_0, s_25_1, s_25_4, s_25_5, s_25_8, s_25_9, s_25_12, s_25_13, s_25_16, s_25_19, s_25_21, s_25_22, s_25_23, s_25_26, s_25_29, s_25_32, s_25_34, s_25_35, s_25_36, s_25_38, s_25_41, s_25_44, s_25_46, s_25_47, s_25_48, s_25_51, s_25_52, s_25_55, s_25_58, s_25_61, s_25_64, s_25_66, s_25_67, s_25_68, s_25_71, s_25_72, s_25_75, s_25_78, s_25_81, s_25_82, eq_self, Nat.reduceLT, Nat.reduceLeDiff, Nat.reduceMod, Nat.reduceDiv, Nat.reduceAdd, Nat.reduceMul, Option.toList_some, Option.toList_none, List.cons_append, List.nil_append, List.append_nil, n10, n00, if_true, if_false, b0, b1, nI_add, true_and, and_true, and_self, sh_1, sh_2, sh_3, sh_36, sh_77, sh_126, k_1_0, k_1_1, k_1_2, k_1_3, k_1_4, k_1_5, k_2_0, sh_node, sh_cage, sh_cmts, sh_mrow, sh_que, sh_qv, sh_task, sh_tpow, sh_thld, sh_filt, sh_fop, sh_ffs, sh_fsc, sh_walk, ka_nodes, ka_cages, ka_tasks, ka_filts, kf_node_0, kf_cage_0, kf_cage_9, kf_task_0, kf_task_6, kf_task_7, kf_filt_0, kf_filt_1, kf_filt_2, kf_que, kf_cage_11, kf_cage_12, gi_K, gi_node1, gr_node, gi_cage1, gr_cage1, gr_cmts, gi_task1, gr_task1, gi_tpow, gr_thld, gi_filt, gi_fop, gi_ffs, gi_fsc, gr_walk, gr_mrow, gi_que, gi_qv, hw, hp, o2, sh_143, h, bI, cond_false]
    exact Pj_tr (M' := M1) (mp' := mp) (C' := C) hk iv hp hc hpc (fun Q => by rw [hT]; exact pf_13 (d := 5) hw (kk 4 h1)) w1 h2.2.1 (by rw [hT]; exact iv1.le (by omega))
theorem pj_all (ht : t < 2 ^ 30) (hw : wf M) (iv : IV (ig M) (og M) r C t mp) (hp : p < 16) (h24 : r 24 p = nI 1) (hpc : r 25 p = nI c) (hc : c < C) {call a b : Int32} : Pj p call a b M r t := by
  by_cases h : ∀ k, k < 18 → ¬ call = nI k
  · exact pj_x hw iv hp hpc hc h
  · have : ∃ k, k < 18 ∧ call = nI k := by
      by_cases z : ∃ k, k < 18 ∧ call = nI k
      · exact z
      · exact absurd (fun k hk e => z ⟨k, hk, e⟩) h
    obtain ⟨k, hk, rfl⟩ := this
    rcases (show k = 0 ∨ k = 1 ∨ k = 2 ∨ k = 3 ∨ k = 4 ∨ k = 5 ∨ k = 6 ∨ k = 7 ∨ k = 8 ∨ k = 9 ∨ k = 10 ∨ k = 11 ∨ k = 12 ∨ k = 13 ∨ k = 14 ∨ k = 15 ∨ k = 16 ∨ k = 17 by omega) with rfl | rfl | rfl | rfl | rfl | rfl | rfl | rfl | rfl | rfl | rfl | rfl | rfl | rfl | rfl | rfl | rfl | rfl
    · exact pj_0 hw iv hp h24 hpc hc
    · exact pj_1 ht hw iv hp h24 hpc hc
    · exact pj_2 hw iv hp h24 hpc hc
    · exact pj_3 hw iv hp hpc hc
    · exact pj_4 ht hw iv hp h24 hpc hc
    · exact pj_5 ht hw iv hp h24 hpc hc
    · exact pj_6 ht hw iv hp h24 hpc hc
    · exact pj_7 ht hw iv hp h24 hpc hc
    · exact pj_8 ht hw iv hp h24 hpc hc
    · exact pj_9 hw iv hp h24 hpc hc
    · exact pj_10 hw iv hp hpc hc
    · exact pj_11 hw iv hp h24 hpc hc
    · exact pj_12 ht hw iv hp h24 hpc hc
    · exact pj_13 ht hw iv hp h24 hpc hc
    · exact pj_14 hw iv hp h24 hpc hc
    · exact pj_15 hw iv hp h24 hpc hc
    · exact pj_16 hw iv hp h24 hpc hc
    · exact pj_17 ht hw iv hp h24 hpc hc
theorem j_sys' (ht : t < 2 ^ 30) (hw : wf M) (iv : IV (ig M) (og M) (rg M) C t mp) {x call a b : Int32} : Jt 6 84 [.int x, .int call, .int a, .int b] M t := j_sys hw iv (fun p c M r hw iv hp h24 hpc hc => pj_all ht hw iv hp h24 hpc hc)
end
