section
variable {d : Nat} {M : mH} {Q : Option Value → mH → Prop} {C t : Nat} {mp : MP} {I : CI} {O : CO} {r : RS}
theorem ffind_cg {p q : Nat → Bool} : ∀ k n, (∀ j, n ≤ j → j < n + k → p j = q j) → ffind p n k = ffind q n k := by
  intro k
  induction k with
  | zero => intro n _; rfl
  | succ k ih =>
    intro n h
    simp only [ffind]
    rw [h n (by omega) (by omega), ih (n + 1) (fun j h1 h2 => h j (by omega) (by omega))]
theorem k_passesOver {x : Int32} : Vc d 47 [.int x] M Q = if nI 4 ≤ x ∧ x ≤ nI 6 then Q (some (.int (nI 1))) M else Q (some (.int (nI 0))) M := by
  show V d 47 0 [some (.int x)] [] M Q = _
  by_cases h : nI 4 ≤ x ∧ x ≤ nI 6
  · obtain ⟨n, hn, rfl⟩ := in_nI (m := 6) (by decide) ⟨Int32.le_trans (by decide) h.1, h.2⟩
    have h4 : 4 ≤ n := by
      have := h.1
      rw [Int32.le_iff_toInt_le, nI_toInt (by decide), nI_toInt (by omega)] at this
      omega
    rcases (show n = 4 ∨ n = 5 ∨ n = 6 by omega) with rfl | rfl | rfl
    · simp only [s_47_0, s_47_1, s_47_2, s_47_5, s_47_6, s_47_7, s_47_10, s_47_11, s_47_13, s_47_16, s_47_17, s_47_20, s_47_21, eq_self, Nat.reduceLT, Nat.reduceLeDiff, Nat.reduceMod, Nat.reduceDiv, Nat.reduceAdd, Nat.reduceMul, Option.toList_some, Option.toList_none, List.cons_append, List.nil_append, List.append_nil, n10, n00, if_true, if_false, b0, b1, nI_add, true_and, and_true, and_self, nI_sm, Nat.reduceEqDiff, h]
    · simp only [s_47_0, s_47_1, s_47_2, s_47_5, s_47_6, s_47_7, s_47_10, s_47_11, s_47_13, s_47_16, s_47_17, s_47_20, s_47_21, eq_self, Nat.reduceLT, Nat.reduceLeDiff, Nat.reduceMod, Nat.reduceDiv, Nat.reduceAdd, Nat.reduceMul, Option.toList_some, Option.toList_none, List.cons_append, List.nil_append, List.append_nil, n10, n00, if_true, if_false, b0, b1, nI_add, true_and, and_true, and_self, nI_sm, Nat.reduceEqDiff, h]
    · simp only [s_47_0, s_47_1, s_47_2, s_47_5, s_47_6, s_47_7, s_47_10, s_47_11, s_47_13, s_47_16, s_47_17, s_47_20, s_47_21, eq_self, Nat.reduceLT, Nat.reduceLeDiff, Nat.reduceMod, Nat.reduceDiv, Nat.reduceAdd, Nat.reduceMul, Option.toList_some, Option.toList_none, List.cons_append, List.nil_append, List.append_nil, n10, n00, if_true, if_false, b0, b1, nI_add, true_and, and_true, and_self, nI_sm, Nat.reduceEqDiff, h]
  · have h0 : ¬ x = nI 4 := fun z => h (by rw [z]; decide)
    have h1 : ¬ x = nI 5 := fun z => h (by rw [z]; decide)
    have h2 : ¬ x = nI 6 := fun z => h (by rw [z]; decide)
    simp only [s_47_0, s_47_1, s_47_2, s_47_5, s_47_6, s_47_7, s_47_10, s_47_11, s_47_13, s_47_16, s_47_17, s_47_20, s_47_21, eq_self, Nat.reduceLT, Nat.reduceLeDiff, Nat.reduceMod, Nat.reduceDiv, Nat.reduceAdd, Nat.reduceMul, Option.toList_some, Option.toList_none, List.cons_append, List.nil_append, List.append_nil, n10, n00, if_true, if_false, b0, b1, nI_add, true_and, and_true, and_self, h, h0, h1, h2]
theorem IV.hold (iv : IV I O r C t mp) {p : Nat} (hp : p < 16) : ∃ m, m ≤ 3 ∧ r 29 p = nI m ∧ (r 24 p = 0 → m = 0) ∧ ∀ k, k < m → ∃ g, g < 4 ∧ r 30 (3 * p + k) = nI g ∧ O 11 p k = some (127 + 4 * g) := by
  obtain ⟨m, h1, h2, h3, h4⟩ := iv.h p hp
  refine ⟨m, h1, h2, h3, fun k hk => ?_⟩
  obtain ⟨f, g1, g2, g3, -⟩ := h4 k hk
  exact ⟨f, g1, g2, g3⟩
theorem k_holds_l (hw : wf M) (iv : IV (ig M) (og M) r C t mp) {p f m : Nat} (hp : p < 16) (hf : f < 4) (hm : m ≤ 3) (hpm : r 29 p = nI m) (hh : ∀ k, k < m → ∃ g, g < 4 ∧ r 30 (3 * p + k) = nI g ∧ og M 11 p k = some (127 + 4 * g)) : ∀ k j, j + k = m → V d 126 2 [some (rf (some (78 + 3 * p))), some (rf (some (127 + 4 * f))), some (.int (nI j))] [] M Q = if (ffind (fun k => decide (r 30 (3 * p + k) = nI f)) j k).isSome = true then Q (some (.int (nI 1))) M else Q (some (.int (nI 0))) M := by
  intro k
  induction k with
  | zero =>
    intro j hj
    obtain rfl : j = m := by omega
    rw [s_126_2]
    simp only [s_126_0, s_126_1, s_126_3, s_126_4, s_126_7, s_126_10, s_126_11, s_126_12, s_126_15, s_126_16, s_126_19, s_126_20, s_126_21, s_126_22, s_126_25, s_126_26, s_126_27, s_126_30, s_126_33, s_126_34, eq_self, Nat.reduceLT, Nat.reduceLeDiff, Nat.reduceMod, Nat.reduceDiv, Nat.reduceAdd, Nat.reduceMul, Option.toList_some, Option.toList_none, List.cons_append, List.nil_append, List.append_nil, n10, n00, if_true, if_false, b0, b1, nI_add, true_and, and_true, and_self, sh_1, sh_2, sh_3, sh_36, sh_77, sh_126, k_1_0, k_1_1, k_1_2, k_1_3, k_1_4, k_1_5, k_2_0, sh_node, sh_cage, sh_cmts, sh_mrow, sh_que, sh_qv, sh_task, sh_tpow, sh_thld, sh_filt, sh_fop, sh_ffs, sh_fsc, sh_walk, ka_nodes, ka_cages, ka_tasks, ka_filts, kf_node_0, kf_cage_0, kf_cage_9, kf_task_0, kf_task_6, kf_task_7, kf_filt_0, kf_filt_1, kf_filt_2, kf_que, kf_cage_11, kf_cage_12, gi_K, gi_node1, gr_node, gi_cage1, gr_cage1, gr_cmts, gi_task1, gr_task1, gi_tpow, gr_thld, gi_filt, gi_fop, gi_ffs, gi_fsc, gr_walk, gr_mrow, gi_que, gi_qv, hw, hp, iv.p_8 hp, hpm, show nI j ≤ nI j from Int32.le_refl _, ffind, Option.isSome_none, Bool.false_eq_true]
  | succ k ih =>
    intro j hj
    have hlt : j < m := by omega
    have h3 : j < 3 := by omega
    obtain ⟨g, hg, e1, e2⟩ := hh j hlt
    have e3 : (nI g = nI f) = (g = f) := propext (nI_eq (by omega) (by omega))
    rw [s_126_2]
    simp only [s_126_0, s_126_1, s_126_3, s_126_4, s_126_7, s_126_10, s_126_11, s_126_12, s_126_15, s_126_16, s_126_19, s_126_20, s_126_21, s_126_22, s_126_25, s_126_26, s_126_27, s_126_30, s_126_33, s_126_34, eq_self, Nat.reduceLT, Nat.reduceLeDiff, Nat.reduceMod, Nat.reduceDiv, Nat.reduceAdd, Nat.reduceMul, Option.toList_some, Option.toList_none, List.cons_append, List.nil_append, List.append_nil, n10, n00, if_true, if_false, b0, b1, nI_add, true_and, and_true, and_self, sh_1, sh_2, sh_3, sh_36, sh_77, sh_126, k_1_0, k_1_1, k_1_2, k_1_3, k_1_4, k_1_5, k_2_0, sh_node, sh_cage, sh_cmts, sh_mrow, sh_que, sh_qv, sh_task, sh_tpow, sh_thld, sh_filt, sh_fop, sh_ffs, sh_fsc, sh_walk, ka_nodes, ka_cages, ka_tasks, ka_filts, kf_node_0, kf_cage_0, kf_cage_9, kf_task_0, kf_task_6, kf_task_7, kf_filt_0, kf_filt_1, kf_filt_2, kf_que, kf_cage_11, kf_cage_12, gi_K, gi_node1, gr_node, gi_cage1, gr_cage1, gr_cmts, gi_task1, gr_task1, gi_tpow, gr_thld, gi_filt, gi_fop, gi_ffs, gi_fsc, gr_walk, gr_mrow, gi_que, gi_qv, hw, hp, iv.p_8 hp, hpm, h3, nI_ge hlt (by omega), nI_ge h3 (by decide), e2, fO_ne, ih (j + 1) (by omega), ffind, e1, e3]
    by_cases h : g = f
    · simp only [h, if_true, decide_true, cond_true, Option.isSome_some]
    · simp only [h, if_false, decide_false, cond_false]
theorem k_holds (hw : wf M) (iv : IV (ig M) (og M) r C t mp) {p f : Nat} (hp : p < 16) (hf : f < 4) : Vc d 126 [rf (some (78 + 3 * p)), rf (some (127 + 4 * f))] M Q = if hadP r (nI f) p = true then Q (some (.int (nI 1))) M else Q (some (.int (nI 0))) M := by
  obtain ⟨m, h1, h2, h3, h4⟩ := iv.hold hp
  show V d 126 0 [some (rf (some (78 + 3 * p))), some (rf (some (127 + 4 * f))), none] [] M Q = _
  have e : hadP r (nI f) p = (ffind (fun k => decide (r 30 (3 * p + k) = nI f)) 0 m).isSome := by
    unfold hadP
    rw [h2, nI_clamp (by omega)]
    by_cases h24 : r 24 p = 0
    · rw [h3 h24]; simp [ffind]
    · simp only [h24, not_false_eq_true, decide_true, Bool.true_and]
  rw [s_126_0, s_126_1, k_holds_l hw iv hp hf h1 h2 h4 m 0 (by omega), e]
theorem k_isHeld_l (hw : wf M) (iv : IV (ig M) (og M) r C t mp) {f : Nat} (hf : f < 4) : ∀ k p, p + k = 16 → V (d + 1) 42 2 [some (rf (some 1)), some (rf (some (127 + 4 * f))), some (.int (nI p))] [] M Q = if (ffind (hadP r (nI f)) p k).isSome = true then Q (some (.int (nI 1))) M else Q (some (.int (nI 0))) M := by
  intro k
  induction k with
  | zero =>
    intro p hp
    obtain rfl : p = 16 := by omega
    rw [s_42_2]
    simp only [s_42_0, s_42_1, s_42_3, s_42_5, s_42_8, s_42_9, s_42_12, s_42_13, s_42_14, s_42_15, s_42_18, s_42_21, s_42_22, s_42_23, s_42_26, s_42_29, s_42_30, eq_self, Nat.reduceLT, Nat.reduceLeDiff, Nat.reduceMod, Nat.reduceDiv, Nat.reduceAdd, Nat.reduceMul, Option.toList_some, Option.toList_none, List.cons_append, List.nil_append, List.append_nil, n10, n00, if_true, if_false, b0, b1, nI_add, true_and, and_true, and_self, show nI 16 ≤ nI 16 from Int32.le_refl _, ffind, Option.isSome_none, Bool.false_eq_true]
  | succ k ih =>
    intro p hp
    have h16 : p < 16 := by omega
    rw [s_42_2]
    simp only [s_42_0, s_42_1, s_42_3, s_42_5, s_42_8, s_42_9, s_42_12, s_42_13, s_42_14, s_42_15, s_42_18, s_42_21, s_42_22, s_42_23, s_42_26, s_42_29, s_42_30, eq_self, Nat.reduceLT, Nat.reduceLeDiff, Nat.reduceMod, Nat.reduceDiv, Nat.reduceAdd, Nat.reduceMul, Option.toList_some, Option.toList_none, List.cons_append, List.nil_append, List.append_nil, n10, n00, if_true, if_false, b0, b1, nI_add, true_and, and_true, and_self, sh_1, sh_2, sh_3, sh_36, sh_77, sh_126, k_1_0, k_1_1, k_1_2, k_1_3, k_1_4, k_1_5, k_2_0, sh_node, sh_cage, sh_cmts, sh_mrow, sh_que, sh_qv, sh_task, sh_tpow, sh_thld, sh_filt, sh_fop, sh_ffs, sh_fsc, sh_walk, ka_nodes, ka_cages, ka_tasks, ka_filts, kf_node_0, kf_cage_0, kf_cage_9, kf_task_0, kf_task_6, kf_task_7, kf_filt_0, kf_filt_1, kf_filt_2, kf_que, kf_cage_11, kf_cage_12, gi_K, gi_node1, gr_node, gi_cage1, gr_cage1, gr_cmts, gi_task1, gr_task1, gi_tpow, gr_thld, gi_filt, gi_fop, gi_ffs, gi_fsc, gr_walk, gr_mrow, gi_que, gi_qv, hw, h16, nI_ge h16 (by decide), k_holds hw iv h16 hf, ih (p + 1) (by omega), ffind]
    by_cases h : hadP r (nI f) p = true
    · simp only [h, if_true, cond_true, Option.isSome_some]
    · simp only [h, Bool.eq_false_iff.2 h, Bool.false_eq_true, if_false, cond_false]
theorem k_isHeld (hw : wf M) (iv : IV (ig M) (og M) r C t mp) {f : Nat} (hf : f < 4) : Vc (d + 1) 42 [rf (some 1), rf (some (127 + 4 * f))] M Q = if had r (nI f) = true then Q (some (.int (nI 1))) M else Q (some (.int (nI 0))) M := by
  show V (d + 1) 42 0 [some (rf (some 1)), some (rf (some (127 + 4 * f))), none] [] M Q = _
  rw [s_42_0, s_42_1, k_isHeld_l hw iv hf 16 0 rfl]
  rfl
/-! a further step -/
def kaM (M : mH) (f s : Nat) (op a b : Int32) : mH := mu (mu (mu (mu M (128 + 4 * f) s (.int op)) (129 + 4 * f) s (.int a)) (130 + 4 * f) s (.int b)) (127 + 4 * f) 3 (.int (nI (s + 1)))
def kaI (I : CI) (f s : Nat) (op a b : Int32) : CI := iu (iu (iu (iu I 13 f s op) 14 f s a) 15 f s b) 12 f 3 (nI (s + 1))
theorem kaM_ok (hw : wf M) {f s : Nat} (hf : f < 4) (hs : s < 10) {op a b : Int32} : wf (kaM M f s op a b) ∧ rg (kaM M f s op a b) = rg M ∧ ig (kaM M f s op a b) = kaI (ig M) f s op a b ∧ og (kaM M f s op a b) = og M := by
  have w1 := C_fop hw hf hs (x := op)
  have w2 := C_ffs w1.w hf hs (x := a)
  have w3 := C_fsc w2.w hf hs (x := b)
  have w4 := C_filt_3 w3.w hf (x := nI (s + 1))
  refine ⟨w4.w, ?_, ?_, ?_⟩
  · rw [kaM, w4.r, w3.r, w2.r, w1.r]
  · rw [kaM, w4.i, w3.i, w2.i, w1.i]; rfl
  · rw [kaM, w4.o, w3.o, w2.o, w1.o]
theorem k_append (hw : wf M) {f s : Nat} (hf : f < 4) (hs : s < 10) (h3 : ig M 12 f 3 = nI s) {op a b : Int32} : Vc d 110 [rf (some (127 + 4 * f)), .int op, .int a, .int b] M Q = Q none (kaM M f s op a b) := by
  have w1 := C_fop hw hf hs (x := op)
  have w2 := C_ffs w1.w hf hs (x := a)
  have w3 := C_fsc w2.w hf hs (x := b)
  have e1 : ig (mu M (128 + 4 * f) s (.int op)) 12 f 3 = nI s := by rw [w1.i]; simp only [ru, iu, ou, eq_self, Nat.reduceEqDiff, false_and, and_false, if_false, true_and, and_true, and_self]; exact h3
  have e2 : ig (mu (mu M (128 + 4 * f) s (.int op)) (129 + 4 * f) s (.int a)) 12 f 3 = nI s := by rw [w2.i]; simp only [ru, iu, ou, eq_self, Nat.reduceEqDiff, false_and, and_false, if_false, true_and, and_true, and_self]; exact e1
  have e3 : ig (mu (mu (mu M (128 + 4 * f) s (.int op)) (129 + 4 * f) s (.int a)) (130 + 4 * f) s (.int b)) 12 f 3 = nI s := by rw [w3.i]; simp only [ru, iu, ou, eq_self, Nat.reduceEqDiff, false_and, and_false, if_false, true_and, and_true, and_self]; exact e2
  show V d 110 0 [some (rf (some (127 + 4 * f))), some (.int op), some (.int a), some (.int b)] [] M Q = _
  simp only [s_110_0, s_110_1, s_110_4, s_110_6, s_110_9, s_110_10, s_110_13, s_110_14, s_110_17, s_110_18, s_110_19, s_110_20, s_110_23, s_110_24, s_110_27, s_110_28, s_110_29, s_110_30, s_110_33, s_110_34, s_110_37, s_110_38, s_110_39, s_110_40, s_110_41, s_110_44, s_110_45, s_110_46, s_110_49, eq_self, Nat.reduceLT, Nat.reduceLeDiff, Nat.reduceMod, Nat.reduceDiv, Nat.reduceAdd, Nat.reduceMul, Option.toList_some, Option.toList_none, List.cons_append, List.nil_append, List.append_nil, n10, n00, if_true, if_false, b0, b1, nI_add, true_and, and_true, and_self, sh_1, sh_2, sh_3, sh_36, sh_77, sh_126, k_1_0, k_1_1, k_1_2, k_1_3, k_1_4, k_1_5, k_2_0, sh_node, sh_cage, sh_cmts, sh_mrow, sh_que, sh_qv, sh_task, sh_tpow, sh_thld, sh_filt, sh_fop, sh_ffs, sh_fsc, sh_walk, ka_nodes, ka_cages, ka_tasks, ka_filts, kf_node_0, kf_cage_0, kf_cage_9, kf_task_0, kf_task_6, kf_task_7, kf_filt_0, kf_filt_1, kf_filt_2, kf_que, kf_cage_11, kf_cage_12, gi_K, gi_node1, gr_node, gi_cage1, gr_cage1, gr_cmts, gi_task1, gr_task1, gi_tpow, gr_thld, gi_filt, gi_fop, gi_ffs, gi_fsc, gr_walk, gr_mrow, gi_que, gi_qv, hw, w1.w, w2.w, w3.w, hf, hs, h3, e1, e2, e3, nI_ge hs (by decide), kaM]
theorem k_step_no (hw : wf M) (iv : IV (ig M) (og M) r C t mp) {f op a b : Int32} (h : ¬ stepOk f op a b) : Vc (d + 2) 3 [rf (some 1), .int f, .int op, .int a, .int b] M Q = Q (some (.int (-1))) M := by
  show V (d + 2) 3 0 [some (rf (some 1)), some (.int f), some (.int op), some (.int a), some (.int b), none] [] M Q = _
  by_cases h1 : nI 0 ≤ f ∧ f ≤ nI 3
  · obtain ⟨n, hn, rfl⟩ := in_nI (by decide) h1
    have hn : n < 4 := by omega
    simp only [s_3_0, s_3_1, s_3_2, s_3_5, s_3_7, s_3_9, s_3_12, s_3_13, s_3_16, s_3_17, s_3_19, s_3_22, s_3_23, s_3_24, s_3_25, s_3_28, s_3_31, s_3_33, s_3_36, s_3_38, s_3_40, s_3_43, s_3_44, s_3_45, s_3_46, s_3_48, s_3_51, s_3_52, s_3_55, s_3_56, s_3_57, s_3_60, s_3_61, s_3_63, s_3_65, s_3_68, s_3_71, s_3_73, s_3_74, s_3_76, s_3_79, s_3_81, s_3_84, s_3_86, s_3_87, s_3_89, s_3_90, s_3_91, s_3_93, s_3_96, s_3_98, s_3_101, eq_self, Nat.reduceLT, Nat.reduceLeDiff, Nat.reduceMod, Nat.reduceDiv, Nat.reduceAdd, Nat.reduceMul, Option.toList_some, Option.toList_none, List.cons_append, List.nil_append, List.append_nil, n10, n00, if_true, if_false, b0, b1, nI_add, true_and, and_true, and_self, sh_1, sh_2, sh_3, sh_36, sh_77, sh_126, k_1_0, k_1_1, k_1_2, k_1_3, k_1_4, k_1_5, k_2_0, sh_node, sh_cage, sh_cmts, sh_mrow, sh_que, sh_qv, sh_task, sh_tpow, sh_thld, sh_filt, sh_fop, sh_ffs, sh_fsc, sh_walk, ka_nodes, ka_cages, ka_tasks, ka_filts, kf_node_0, kf_cage_0, kf_cage_9, kf_task_0, kf_task_6, kf_task_7, kf_filt_0, kf_filt_1, kf_filt_2, kf_que, kf_cage_11, kf_cage_12, gi_K, gi_node1, gr_node, gi_cage1, gr_cage1, gr_cmts, gi_task1, gr_task1, gi_tpow, gr_thld, gi_filt, gi_fop, gi_ffs, gi_fsc, gr_walk, gr_mrow, gi_que, gi_qv, hw, k_filterAt_in hw hn, so_no, lt_z, lt10, k_passesOver]
    by_cases h2 : nI 0 ≤ op
    · by_cases h2' : op ≤ nI 7
      · by_cases g1 : nI 4 ≤ op ∧ op ≤ nI 6
        · by_cases g3 : nI 0 ≤ b
          · by_cases g4 : b ≤ nI 9
            · exact absurd ⟨h1, ⟨h2, h2'⟩, fun _ => ⟨g3, g4⟩, fun z => absurd g1.2 (by rw [z]; decide)⟩ h
            · simp only [h2, h2', g1, g3, g4, not_true, if_false, if_true, and_self, eq_self, Nat.reduceLT, Nat.reduceLeDiff, Nat.reduceMod, Nat.reduceDiv, Nat.reduceAdd, Nat.reduceMul, Option.toList_some, Option.toList_none, List.cons_append, List.nil_append, List.append_nil, n10, n00, if_true, if_false, b0, b1, nI_add, true_and, and_true, and_self]
          · simp only [h2, h2', g1, g3, not_true, not_false_eq_true, if_false, if_true, and_self, eq_self, Nat.reduceLT, Nat.reduceLeDiff, Nat.reduceMod, Nat.reduceDiv, Nat.reduceAdd, Nat.reduceMul, Option.toList_some, Option.toList_none, List.cons_append, List.nil_append, List.append_nil, n10, n00, if_true, if_false, b0, b1, nI_add, true_and, and_true, and_self]
        · by_cases g2 : op = nI 7
          · by_cases g3 : nI 0 ≤ a
            · by_cases g4 : a ≤ nI 2
              · exact absurd ⟨h1, ⟨h2, h2'⟩, fun z => absurd z g1, fun _ => ⟨g3, g4⟩⟩ h
              · simp only [h2, h2', g1, eq_true g2, g3, g4, not_true, if_false, if_true, eq_self, Nat.reduceLT, Nat.reduceLeDiff, Nat.reduceMod, Nat.reduceDiv, Nat.reduceAdd, Nat.reduceMul, Option.toList_some, Option.toList_none, List.cons_append, List.nil_append, List.append_nil, n10, n00, if_true, if_false, b0, b1, nI_add, true_and, and_true, and_self]
            · simp only [h2, h2', g1, eq_true g2, g3, not_true, not_false_eq_true, if_false, if_true, eq_self, Nat.reduceLT, Nat.reduceLeDiff, Nat.reduceMod, Nat.reduceDiv, Nat.reduceAdd, Nat.reduceMul, Option.toList_some, Option.toList_none, List.cons_append, List.nil_append, List.append_nil, n10, n00, if_true, if_false, b0, b1, nI_add, true_and, and_true, and_self]
          · exact absurd ⟨h1, ⟨h2, h2'⟩, fun z => absurd z g1, fun z => absurd z g2⟩ h
      · simp only [h2, h2', not_true, if_false]
    · simp only [h2, not_false_eq_true, if_true]
  · simp only [s_3_0, s_3_1, s_3_2, s_3_5, s_3_7, s_3_9, s_3_22, s_3_23, eq_self, Nat.reduceLT, Nat.reduceLeDiff, Nat.reduceMod, Nat.reduceDiv, Nat.reduceAdd, Nat.reduceMul, Option.toList_some, Option.toList_none, List.cons_append, List.nil_append, List.append_nil, n10, n00, if_true, if_false, b0, b1, nI_add, true_and, and_true, and_self, sh_1, sh_2, sh_3, sh_36, sh_77, sh_126, k_1_0, k_1_1, k_1_2, k_1_3, k_1_4, k_1_5, k_2_0, sh_node, sh_cage, sh_cmts, sh_mrow, sh_que, sh_qv, sh_task, sh_tpow, sh_thld, sh_filt, sh_fop, sh_ffs, sh_fsc, sh_walk, ka_nodes, ka_cages, ka_tasks, ka_filts, kf_node_0, kf_cage_0, kf_cage_9, kf_task_0, kf_task_6, kf_task_7, kf_filt_0, kf_filt_1, kf_filt_2, kf_que, kf_cage_11, kf_cage_12, gi_K, gi_node1, gr_node, gi_cage1, gr_cage1, gr_cmts, gi_task1, gr_task1, gi_tpow, gr_thld, gi_filt, gi_fop, gi_ffs, gi_fsc, gr_walk, gr_mrow, gi_que, gi_qv, hw, k_filterAt_out hw h1]
theorem k_step_in (hw : wf M) (iv : IV (ig M) (og M) r C t mp) {n s : Nat} (hn : n < 4) (hs : s ≤ 10) (hsn : r 36 n = nI s) {op a b : Int32} (h : stepOk (nI n) op a b) : Vc (d + 2) 3 [rf (some 1), .int (nI n), .int op, .int a, .int b] M Q = if had r (nI n) = true then Q (some (.int (-7))) M else if s = 10 then Q (some (.int (-5))) M else Q (some (.int (nI (s + 1)))) (kaM M n s op a b) := by
  show V (d + 2) 3 0 [some (rf (some 1)), some (.int (nI n)), some (.int op), some (.int a), some (.int b), none] [] M Q = _
  obtain ⟨h1, h2, h3, h4⟩ := h
  have hst : V (d + 2) 3 0 [some (rf (some 1)), some (.int (nI n)), some (.int op), some (.int a), some (.int b), none] [] M Q = V (d + 2) 3 62 [some (rf (some 1)), some (.int (nI n)), some (.int op), some (.int a), some (.int b), some (rf (some (127 + 4 * n)))] [] M Q := by
    simp only [s_3_0, s_3_1, s_3_2, s_3_5, s_3_7, s_3_9, s_3_12, s_3_13, s_3_16, s_3_17, s_3_19, s_3_22, s_3_23, s_3_24, s_3_25, s_3_28, s_3_31, s_3_33, s_3_36, s_3_38, s_3_40, s_3_43, s_3_44, s_3_45, s_3_46, s_3_48, s_3_51, s_3_52, s_3_55, s_3_56, s_3_57, s_3_60, s_3_61, s_3_63, s_3_65, s_3_68, s_3_71, s_3_73, s_3_74, s_3_76, s_3_79, s_3_81, s_3_84, s_3_86, s_3_87, s_3_89, s_3_90, s_3_91, s_3_93, s_3_96, s_3_98, s_3_101, eq_self, Nat.reduceLT, Nat.reduceLeDiff, Nat.reduceMod, Nat.reduceDiv, Nat.reduceAdd, Nat.reduceMul, Option.toList_some, Option.toList_none, List.cons_append, List.nil_append, List.append_nil, n10, n00, if_true, if_false, b0, b1, nI_add, true_and, and_true, and_self, sh_1, sh_2, sh_3, sh_36, sh_77, sh_126, k_1_0, k_1_1, k_1_2, k_1_3, k_1_4, k_1_5, k_2_0, sh_node, sh_cage, sh_cmts, sh_mrow, sh_que, sh_qv, sh_task, sh_tpow, sh_thld, sh_filt, sh_fop, sh_ffs, sh_fsc, sh_walk, ka_nodes, ka_cages, ka_tasks, ka_filts, kf_node_0, kf_cage_0, kf_cage_9, kf_task_0, kf_task_6, kf_task_7, kf_filt_0, kf_filt_1, kf_filt_2, kf_que, kf_cage_11, kf_cage_12, gi_K, gi_node1, gr_node, gi_cage1, gr_cage1, gr_cmts, gi_task1, gr_task1, gi_tpow, gr_thld, gi_filt, gi_fop, gi_ffs, gi_fsc, gr_walk, gr_mrow, gi_que, gi_qv, hw, k_filterAt_in hw hn, so_no, lt_z, lt10, k_passesOver, h2, not_true]
    by_cases g1 : nI 4 ≤ op ∧ op ≤ nI 6
    · have g2 : ¬ op = nI 7 := fun z => absurd g1.2 (by rw [z]; decide)
      have g3 := h3 g1
      simp only [g1, g2, g3, not_true, if_true, if_false, and_self, eq_self, Nat.reduceLT, Nat.reduceLeDiff, Nat.reduceMod, Nat.reduceDiv, Nat.reduceAdd, Nat.reduceMul, Option.toList_some, Option.toList_none, List.cons_append, List.nil_append, List.append_nil, n10, n00, if_true, if_false, b0, b1, nI_add, true_and, and_true, and_self]
    · by_cases g2 : op = nI 7
      · have g3 := h4 g2
        simp only [g1, eq_true g2, g3, not_true, if_true, if_false, eq_self, Nat.reduceLT, Nat.reduceLeDiff, Nat.reduceMod, Nat.reduceDiv, Nat.reduceAdd, Nat.reduceMul, Option.toList_some, Option.toList_none, List.cons_append, List.nil_append, List.append_nil, n10, n00, if_true, if_false, b0, b1, nI_add, true_and, and_true, and_self]
      · simp only [g1, g2, if_false, eq_self, Nat.reduceLT, Nat.reduceLeDiff, Nat.reduceMod, Nat.reduceDiv, Nat.reduceAdd, Nat.reduceMul, Option.toList_some, Option.toList_none, List.cons_append, List.nil_append, List.append_nil, n10, n00, if_true, if_false, b0, b1, nI_add, true_and, and_true, and_self]
  rw [hst]
  by_cases hd : had r (nI n) = true
  · simp only [s_3_0, s_3_1, s_3_2, s_3_5, s_3_7, s_3_9, s_3_12, s_3_13, s_3_16, s_3_17, s_3_19, s_3_22, s_3_23, s_3_24, s_3_25, s_3_28, s_3_31, s_3_33, s_3_36, s_3_38, s_3_40, s_3_43, s_3_44, s_3_45, s_3_46, s_3_48, s_3_51, s_3_52, s_3_55, s_3_56, s_3_57, s_3_60, s_3_61, s_3_62, s_3_63, s_3_65, s_3_68, s_3_71, s_3_73, s_3_74, s_3_76, s_3_79, s_3_81, s_3_84, s_3_86, s_3_87, s_3_89, s_3_90, s_3_91, s_3_93, s_3_96, s_3_98, s_3_101, eq_self, Nat.reduceLT, Nat.reduceLeDiff, Nat.reduceMod, Nat.reduceDiv, Nat.reduceAdd, Nat.reduceMul, Option.toList_some, Option.toList_none, List.cons_append, List.nil_append, List.append_nil, n10, n00, if_true, if_false, b0, b1, nI_add, true_and, and_true, and_self, sh_1, sh_2, sh_3, sh_36, sh_77, sh_126, k_1_0, k_1_1, k_1_2, k_1_3, k_1_4, k_1_5, k_2_0, sh_node, sh_cage, sh_cmts, sh_mrow, sh_que, sh_qv, sh_task, sh_tpow, sh_thld, sh_filt, sh_fop, sh_ffs, sh_fsc, sh_walk, ka_nodes, ka_cages, ka_tasks, ka_filts, kf_node_0, kf_cage_0, kf_cage_9, kf_task_0, kf_task_6, kf_task_7, kf_filt_0, kf_filt_1, kf_filt_2, kf_que, kf_cage_11, kf_cage_12, gi_K, gi_node1, gr_node, gi_cage1, gr_cage1, gr_cmts, gi_task1, gr_task1, gi_tpow, gr_thld, gi_filt, gi_fop, gi_ffs, gi_fsc, gr_walk, gr_mrow, gi_que, gi_qv, hw, k_isHeld hw iv hn, hd]
  · by_cases hs10 : s = 10
    · subst hs10
      simp only [s_3_0, s_3_1, s_3_2, s_3_5, s_3_7, s_3_9, s_3_12, s_3_13, s_3_16, s_3_17, s_3_19, s_3_22, s_3_23, s_3_24, s_3_25, s_3_28, s_3_31, s_3_33, s_3_36, s_3_38, s_3_40, s_3_43, s_3_44, s_3_45, s_3_46, s_3_48, s_3_51, s_3_52, s_3_55, s_3_56, s_3_57, s_3_60, s_3_61, s_3_62, s_3_63, s_3_65, s_3_68, s_3_71, s_3_73, s_3_74, s_3_76, s_3_79, s_3_81, s_3_84, s_3_86, s_3_87, s_3_89, s_3_90, s_3_91, s_3_93, s_3_96, s_3_98, s_3_101, eq_self, Nat.reduceLT, Nat.reduceLeDiff, Nat.reduceMod, Nat.reduceDiv, Nat.reduceAdd, Nat.reduceMul, Option.toList_some, Option.toList_none, List.cons_append, List.nil_append, List.append_nil, n10, n00, if_true, if_false, b0, b1, nI_add, true_and, and_true, and_self, sh_1, sh_2, sh_3, sh_36, sh_77, sh_126, k_1_0, k_1_1, k_1_2, k_1_3, k_1_4, k_1_5, k_2_0, sh_node, sh_cage, sh_cmts, sh_mrow, sh_que, sh_qv, sh_task, sh_tpow, sh_thld, sh_filt, sh_fop, sh_ffs, sh_fsc, sh_walk, ka_nodes, ka_cages, ka_tasks, ka_filts, kf_node_0, kf_cage_0, kf_cage_9, kf_task_0, kf_task_6, kf_task_7, kf_filt_0, kf_filt_1, kf_filt_2, kf_que, kf_cage_11, kf_cage_12, gi_K, gi_node1, gr_node, gi_cage1, gr_cage1, gr_cmts, gi_task1, gr_task1, gi_tpow, gr_thld, gi_filt, gi_fop, gi_ffs, gi_fsc, gr_walk, gr_mrow, gi_que, gi_qv, hw, hn, k_isHeld hw iv hn, hd, iv.f_3 hn, hsn, show ¬ nI 10 < nI 10 by decide]
    · have hs' : s < 10 := by omega
      have hlt : nI s < nI 10 := by rw [Int32.lt_iff_toInt_lt, nI_toInt (by omega), nI_toInt (by decide)]; omega
      have e3 : ig M 12 n 3 = nI s := by rw [iv.f_3 hn, hsn]
      obtain ⟨w1, r1, i1, o1⟩ := kaM_ok hw hn hs' (op := op) (a := a) (b := b)
      have e4 : ig (kaM M n s op a b) 12 n 3 = nI (s + 1) := by rw [i1]; simp only [kaI, ru, iu, ou, eq_self, Nat.reduceEqDiff, false_and, and_false, if_false, true_and, and_true, and_self, if_true]
      simp only [s_3_0, s_3_1, s_3_2, s_3_5, s_3_7, s_3_9, s_3_12, s_3_13, s_3_16, s_3_17, s_3_19, s_3_22, s_3_23, s_3_24, s_3_25, s_3_28, s_3_31, s_3_33, s_3_36, s_3_38, s_3_40, s_3_43, s_3_44, s_3_45, s_3_46, s_3_48, s_3_51, s_3_52, s_3_55, s_3_56, s_3_57, s_3_60, s_3_61, s_3_62, s_3_63, s_3_65, s_3_68, s_3_71, s_3_73, s_3_74, s_3_76, s_3_79, s_3_81, s_3_84, s_3_86, s_3_87, s_3_89, s_3_90, s_3_91, s_3_93, s_3_96, s_3_98, s_3_101, eq_self, Nat.reduceLT, Nat.reduceLeDiff, Nat.reduceMod, Nat.reduceDiv, Nat.reduceAdd, Nat.reduceMul, Option.toList_some, Option.toList_none, List.cons_append, List.nil_append, List.append_nil, n10, n00, if_true, if_false, b0, b1, nI_add, true_and, and_true, and_self, sh_1, sh_2, sh_3, sh_36, sh_77, sh_126, k_1_0, k_1_1, k_1_2, k_1_3, k_1_4, k_1_5, k_2_0, sh_node, sh_cage, sh_cmts, sh_mrow, sh_que, sh_qv, sh_task, sh_tpow, sh_thld, sh_filt, sh_fop, sh_ffs, sh_fsc, sh_walk, ka_nodes, ka_cages, ka_tasks, ka_filts, kf_node_0, kf_cage_0, kf_cage_9, kf_task_0, kf_task_6, kf_task_7, kf_filt_0, kf_filt_1, kf_filt_2, kf_que, kf_cage_11, kf_cage_12, gi_K, gi_node1, gr_node, gi_cage1, gr_cage1, gr_cmts, gi_task1, gr_task1, gi_tpow, gr_thld, gi_filt, gi_fop, gi_ffs, gi_fsc, gr_walk, gr_mrow, gi_que, gi_qv, hw, hn, k_isHeld hw iv hn, hd, e3, hlt, hs10, k_append hw hn hs' e3, w1, e4]
/-! the reference's arrays -/
def stepR (r : RS) (n s : Nat) (op a b : Int32) : RS := ru (ru (ru (ru r 33 (10 * n + s) op) 34 (10 * n + s) a) 35 (10 * n + s) b) 36 n (nI (s + 1))
theorem stepM_ok (hw : wf M) {n s : Nat} (hn : n < 4) (hs : s < 10) {op a b : Int32} : wf (stepM M n s op a b) ∧ rg (stepM M n s op a b) = stepR (rg M) n s op a b ∧ cg (stepM M n s op a b) = cg M := by
  have hi : 10 * n + s < 40 := by omega
  have w1 := wm_178 hw hi (x := op)
  have w2 := wm_179 w1 hi (x := a)
  have w3 := wm_180 w2 hi (x := b)
  have w4 := wm_181 w3 hn (x := nI (s + 1))
  refine ⟨w4, ?_, ?_⟩
  · rw [stepM, rm_181 w3 hn, rm_180 w2 hi, rm_179 w1 hi, rm_178 hw hi]
    rfl
  · rw [stepM, cm_181 w3 hn, cm_180 w2 hi, cm_179 w1 hi, cm_178 hw hi]
theorem no_had {f : Int32} (h : had r f = false) {p m : Nat} (hp : p < 16) (h24 : ¬ r 24 p = 0) (hm : r 29 p = nI m) (hm3 : m ≤ 3) {k : Nat} (hk : k < m) : ¬ r 30 (3 * p + k) = f := by
  intro z
  have h1 : ffind (hadP r f) 0 16 = none := by
    unfold had at h
    cases hf : ffind (hadP r f) 0 16 with
    | none => rfl
    | some x => rw [hf] at h; exact absurd h (by simp)
  have h2 := ffind_none h1 p (by omega) (by omega)
  unfold hadP at h2
  rw [hm, nI_clamp (by omega)] at h2
  simp only [h24, not_false_eq_true, decide_true, Bool.true_and] at h2
  have h3 : ffind (fun k => decide (r 30 (3 * p + k) = f)) 0 m = none := by
    cases hf : ffind (fun k => decide (r 30 (3 * p + k) = f)) 0 m with
    | none => rfl
    | some x => rw [hf] at h2; exact absurd h2 (by simp)
  have h4 := ffind_none h3 k (by omega) (by omega)
  exact absurd z (of_decide_eq_false h4)
theorem good_ne {n s f s' : Nat} {op a b : Int32} (hfn : ¬ f = n) (hs : s < 10) (hs' : s' ≤ 10) (h : good r f s') : good (stepR r n s op a b) f s' := by
  have hx : ∀ k, k < 10 → ¬ 10 * f + k = 10 * n + s := fun k hk => by omega
  have h0 := h.1
  refine ⟨h.1, ?_, ?_⟩
  · simp only [stepR, ru, iu, ou, eq_self, Nat.reduceEqDiff, false_and, and_false, if_false, true_and, and_true, and_self, hx (s' - 1) (by omega)]; exact h.2.1
  · rw [← h.2.2]
    exact ffind_cg _ _ (fun j _ hj => by simp only [badS, stepR, ru, iu, ou, eq_self, Nat.reduceEqDiff, false_and, and_false, if_false, true_and, and_true, and_self, hx j (by omega), hfn])
theorem iv_step (iv : IV I O r C t mp) {n s : Nat} (hn : n < 4) (hs : s < 10) (hsn : r 36 n = nI s) {op a b : Int32} (h : stepOk (nI n) op a b) (hh : had r (nI n) = false) : IV (kaI I n s op a b) O (stepR r n s op a b) C t mp := by
  refine ⟨iv.n1.cg (by simp only [kaI, stepR, ru, iu, ou, eq_self, Nat.reduceEqDiff, false_and, and_false, if_false, true_and, and_true, and_self, implies_true]) (by simp only [kaI, stepR, ru, iu, ou, eq_self, Nat.reduceEqDiff, false_and, and_false, if_false, true_and, and_true, and_self, implies_true]), iv.n2.cg (by simp only [kaI, stepR, ru, iu, ou, eq_self, Nat.reduceEqDiff, false_and, and_false, if_false, true_and, and_true, and_self, implies_true]) (by simp only [kaI, stepR, ru, iu, ou, eq_self, Nat.reduceEqDiff, false_and, and_false, if_false, true_and, and_true, and_self, implies_true]), iv.n3.cg (by simp only [kaI, stepR, ru, iu, ou, eq_self, Nat.reduceEqDiff, false_and, and_false, if_false, true_and, and_true, and_self, implies_true]), iv.k.cg (by simp only [kaI, stepR, ru, iu, ou, eq_self, Nat.reduceEqDiff, false_and, and_false, if_false, true_and, and_true, and_self, implies_true]) (by simp only [kaI, stepR, ru, iu, ou, eq_self, Nat.reduceEqDiff, false_and, and_false, if_false, true_and, and_true, and_self, implies_true]), iv.c.cg (by simp only [kaI, stepR, ru, iu, ou, eq_self, Nat.reduceEqDiff, false_and, and_false, if_false, true_and, and_true, and_self, implies_true]) (by simp only [kaI, stepR, ru, iu, ou, eq_self, Nat.reduceEqDiff, false_and, and_false, if_false, true_and, and_true, and_self, implies_true]), iv.g.cg (by simp only [kaI, stepR, ru, iu, ou, eq_self, Nat.reduceEqDiff, false_and, and_false, if_false, true_and, and_true, and_self, implies_true]) (by simp only [kaI, stepR, ru, iu, ou, eq_self, Nat.reduceEqDiff, false_and, and_false, if_false, true_and, and_true, and_self, implies_true]), iv.p1.cg (by simp only [kaI, stepR, ru, iu, ou, eq_self, Nat.reduceEqDiff, false_and, and_false, if_false, true_and, and_true, and_self, implies_true]) (by simp only [kaI, stepR, ru, iu, ou, eq_self, Nat.reduceEqDiff, false_and, and_false, if_false, true_and, and_true, and_self, implies_true]), iv.p2.cg (by simp only [kaI, stepR, ru, iu, ou, eq_self, Nat.reduceEqDiff, false_and, and_false, if_false, true_and, and_true, and_self, implies_true]) (by simp only [kaI, stepR, ru, iu, ou, eq_self, Nat.reduceEqDiff, false_and, and_false, if_false, true_and, and_true, and_self, implies_true]), iv.p3.cg (by simp only [kaI, stepR, ru, iu, ou, eq_self, Nat.reduceEqDiff, false_and, and_false, if_false, true_and, and_true, and_self, implies_true]), iv.p4.cg (by simp only [kaI, stepR, ru, iu, ou, eq_self, Nat.reduceEqDiff, false_and, and_false, if_false, true_and, and_true, and_self, implies_true]), iv.i.cg (by simp only [kaI, stepR, ru, iu, ou, eq_self, Nat.reduceEqDiff, false_and, and_false, if_false, true_and, and_true, and_self, implies_true]) (by simp only [kaI, stepR, ru, iu, ou, eq_self, Nat.reduceEqDiff, false_and, and_false, if_false, true_and, and_true, and_self, implies_true]), ?_, ?_, ?_, iv.q.cg (by simp only [kaI, stepR, ru, iu, ou, eq_self, Nat.reduceEqDiff, false_and, and_false, if_false, true_and, and_true, and_self, implies_true]) (by simp only [kaI, stepR, ru, iu, ou, eq_self, Nat.reduceEqDiff, false_and, and_false, if_false, true_and, and_true, and_self, implies_true]) (by simp only [kaI, stepR, ru, iu, ou, eq_self, Nat.reduceEqDiff, false_and, and_false, if_false, true_and, and_true, and_self, implies_true]), iv.m1.cg (by simp only [kaI, stepR, ru, iu, ou, eq_self, Nat.reduceEqDiff, false_and, and_false, if_false, true_and, and_true, and_self, implies_true]) (by simp only [kaI, stepR, ru, iu, ou, eq_self, Nat.reduceEqDiff, false_and, and_false, if_false, true_and, and_true, and_self, implies_true]), iv.m2.cg (by simp only [kaI, stepR, ru, iu, ou, eq_self, Nat.reduceEqDiff, false_and, and_false, if_false, true_and, and_true, and_self, implies_true]) (by simp only [kaI, stepR, ru, iu, ou, eq_self, Nat.reduceEqDiff, false_and, and_false, if_false, true_and, and_true, and_self, implies_true]), iv.m3.cg (by simp only [kaI, stepR, ru, iu, ou, eq_self, Nat.reduceEqDiff, false_and, and_false, if_false, true_and, and_true, and_self, implies_true]) (by simp only [kaI, stepR, ru, iu, ou, eq_self, Nat.reduceEqDiff, false_and, and_false, if_false, true_and, and_true, and_self, implies_true]), iv.m4.cg (by simp only [kaI, stepR, ru, iu, ou, eq_self, Nat.reduceEqDiff, false_and, and_false, if_false, true_and, and_true, and_self, implies_true])⟩
  · intro p hp
    obtain ⟨m, h1, h2, h3, h4⟩ := iv.h p hp
    refine ⟨m, h1, by simp only [stepR, ru, iu, ou, eq_self, Nat.reduceEqDiff, false_and, and_false, if_false, true_and, and_true, and_self]; exact h2, by simp only [stepR, ru, iu, ou, eq_self, Nat.reduceEqDiff, false_and, and_false, if_false, true_and, and_true, and_self]; exact h3, fun k hk => ?_⟩
    obtain ⟨f, g1, g2, g3, s', g4, g5, g6⟩ := h4 k hk
    have h24 : ¬ r 24 p = 0 := fun z => by have := h3 z; omega
    have hfn : ¬ f = n := fun z => no_had hh hp h24 h2 (by omega) hk (by rw [g2, z])
    exact ⟨f, g1, by simp only [stepR, ru, iu, ou, eq_self, Nat.reduceEqDiff, false_and, and_false, if_false, true_and, and_true, and_self]; exact g2, g3, s', g4, by simp only [stepR, ru, iu, ou, eq_self, Nat.reduceEqDiff, false_and, and_false, if_false, true_and, and_true, and_self, hfn]; exact g5, good_ne hfn hs g4 g6⟩
  · intro f hf
    by_cases e : f = n
    · subst e
      refine ⟨by simp only [kaI, stepR, ru, iu, ou, eq_self, Nat.reduceEqDiff, false_and, and_false, if_false, true_and, and_true, and_self, if_true], fun k hk => ?_⟩
      by_cases e' : k = s
      · subst e'; simp only [kaI, stepR, ru, iu, ou, eq_self, Nat.reduceEqDiff, false_and, and_false, if_false, true_and, and_true, and_self, if_true]
      · have e2 : ¬ 10 * f + k = 10 * f + s := by omega
        have := (iv.f1 f hf).2 k hk
        simp only [kaI, stepR, ru, iu, ou, eq_self, Nat.reduceEqDiff, false_and, and_false, if_false, true_and, and_true, and_self, e', e2]; exact this
    · have e2 : ∀ k, k < 10 → ¬ 10 * f + k = 10 * n + s := fun k hk => by omega
      refine ⟨by simp only [kaI, stepR, ru, iu, ou, eq_self, Nat.reduceEqDiff, false_and, and_false, if_false, true_and, and_true, and_self, e]; exact (iv.f1 f hf).1, fun k hk => ?_⟩
      have := (iv.f1 f hf).2 k hk
      simp only [kaI, stepR, ru, iu, ou, eq_self, Nat.reduceEqDiff, false_and, and_false, if_false, true_and, and_true, and_self, e, e2 k hk]; exact this
  · intro f hf
    obtain ⟨s', q1, q2, q3, q4⟩ := iv.f2 f hf
    by_cases e : f = n
    · subst e
      have es : s' = s := (nI_eq (by omega) (by omega)).1 (q2.symm.trans hsn)
      subst es
      refine ⟨s' + 1, by omega, by simp only [stepR, ru, iu, ou, eq_self, Nat.reduceEqDiff, false_and, and_false, if_false, true_and, and_true, and_self, if_true], ?_, ?_⟩
      · intro k hk hk2
        by_cases e' : k = s'
        · subst e'
          simp only [stepR, ru, iu, ou, eq_self, Nat.reduceEqDiff, false_and, and_false, if_false, true_and, and_true, and_self, if_true] at hk2 ⊢
          obtain ⟨b', hb, e3⟩ := in_nI (by decide) (h.2.2.1 hk2)
          exact ⟨b', hb, e3⟩
        · have e2 : ¬ 10 * f + k = 10 * f + s' := by omega
          simp only [stepR, ru, iu, ou, eq_self, Nat.reduceEqDiff, false_and, and_false, if_false, true_and, and_true, and_self, e2] at hk2 ⊢
          exact q3 k (by omega) hk2
      · intro k hk
        by_cases e' : k = s'
        · subst e'
          simp only [stepR, ru, iu, ou, eq_self, Nat.reduceEqDiff, false_and, and_false, if_false, true_and, and_true, and_self, if_true]
          refine ⟨?_, fun z => ?_⟩
          · obtain ⟨o, ho, e3⟩ := in_nI (by decide) h.2.1
            exact ⟨o, by omega, e3⟩
          · obtain ⟨g, hg, e3⟩ := in_nI (by decide) (h.2.2.2 z)
            exact ⟨g, by omega, e3⟩
        · have e2 : ¬ 10 * f + k = 10 * f + s' := by omega
          have := q4 k (by omega)
          simp only [stepR, ru, iu, ou, eq_self, Nat.reduceEqDiff, false_and, and_false, if_false, true_and, and_true, and_self, e2]; exact this
    · have e2 : ∀ k, k < 10 → ¬ 10 * f + k = 10 * n + s := fun k hk => by omega
      refine ⟨s', q1, by simp only [stepR, ru, iu, ou, eq_self, Nat.reduceEqDiff, false_and, and_false, if_false, true_and, and_true, and_self, e]; exact q2, ?_, ?_⟩
      · intro k hk hk2
        simp only [stepR, ru, iu, ou, eq_self, Nat.reduceEqDiff, false_and, and_false, if_false, true_and, and_true, and_self, e2 k (by omega)] at hk2 ⊢
        exact q3 k hk hk2
      · intro k hk
        have := q4 k hk
        simp only [stepR, ru, iu, ou, eq_self, Nat.reduceEqDiff, false_and, and_false, if_false, true_and, and_true, and_self, e2 k (by omega)]; exact this
theorem j_step (hw : wf M) (iv : IV (ig M) (og M) (rg M) C t mp) {f op a b : Int32} : Jt 3 66 [.int f, .int op, .int a, .int b] M t := by
  by_cases h : stepOk f op a b
  · obtain ⟨n, hn, rfl⟩ := in_nI (by decide) h.1
    have hn : n < 4 := by omega
    obtain ⟨s, hs, hsn, -⟩ := iv.f2 n hn
    by_cases hd : had (rg M) (nI n) = true
    · exact Jt_same hw iv (fun Q => by rw [k_step_in hw iv hn hs hsn h, if_pos hd]) (fun Q => by rw [c_rstep_in hw iv.wh hn hs hsn h, if_pos hd])
    · by_cases h10 : s = 10
      · exact Jt_same hw iv (fun Q => by rw [k_step_in hw iv hn hs hsn h, if_neg hd, if_pos h10]) (fun Q => by rw [c_rstep_in hw iv.wh hn hs hsn h, if_neg hd, if_pos h10])
      · have hs' : s < 10 := by omega
        obtain ⟨w1, r1, i1, o1⟩ := kaM_ok hw hn hs' (op := op) (a := a) (b := b)
        obtain ⟨w2, r2, c2⟩ := stepM_ok w1 hn hs' (op := op) (a := a) (b := b)
        have hiv := iv_step iv hn hs' hsn h (Bool.eq_false_iff.2 hd)
        refine ⟨kaM M n s op a b, _, nI (s + 1), C, mp, (fun Q => by rw [k_step_in hw iv hn hs hsn h, if_neg hd, if_neg h10]), (fun Q => by rw [c_rstep_in w1 (by rw [r1]; exact iv.wh) hn hs (by rw [r1]; exact hsn) h, r1, if_neg hd, if_neg h10]), w2, ?_⟩
        rw [cg_ig c2, cg_og c2, r2, i1, o1, r1]
        exact hiv.le (by omega)
  · exact Jt_same hw iv (fun Q => k_step_no hw iv h) (fun Q => c_rstep_no hw h)
/-! wiping -/
theorem k_wipe_no (hw : wf M) {f : Int32} (h : ¬ (nI 0 ≤ f ∧ f ≤ nI 3)) : Vc (d + 2) 4 [rf (some 1), .int f] M Q = Q (some (.int (-1))) M := by
  show V (d + 2) 4 0 [some (rf (some 1)), some (.int f), none, none] [] M Q = _
  simp only [s_4_0, s_4_1, s_4_2, s_4_5, s_4_6, s_4_7, s_4_10, s_4_11, eq_self, Nat.reduceLT, Nat.reduceLeDiff, Nat.reduceMod, Nat.reduceDiv, Nat.reduceAdd, Nat.reduceMul, Option.toList_some, Option.toList_none, List.cons_append, List.nil_append, List.append_nil, n10, n00, if_true, if_false, b0, b1, nI_add, true_and, and_true, and_self, sh_1, sh_2, sh_3, sh_36, sh_77, sh_126, k_1_0, k_1_1, k_1_2, k_1_3, k_1_4, k_1_5, k_2_0, sh_node, sh_cage, sh_cmts, sh_mrow, sh_que, sh_qv, sh_task, sh_tpow, sh_thld, sh_filt, sh_fop, sh_ffs, sh_fsc, sh_walk, ka_nodes, ka_cages, ka_tasks, ka_filts, kf_node_0, kf_cage_0, kf_cage_9, kf_task_0, kf_task_6, kf_task_7, kf_filt_0, kf_filt_1, kf_filt_2, kf_que, kf_cage_11, kf_cage_12, gi_K, gi_node1, gr_node, gi_cage1, gr_cage1, gr_cmts, gi_task1, gr_task1, gi_tpow, gr_thld, gi_filt, gi_fop, gi_ffs, gi_fsc, gr_walk, gr_mrow, gi_que, gi_qv, hw, k_filterAt_out hw h]
theorem k_wipe_in (hw : wf M) (iv : IV (ig M) (og M) r C t mp) {n : Nat} (hn : n < 4) : Vc (d + 2) 4 [rf (some 1), .int (nI n)] M Q = if had r (nI n) = true then Q (some (.int (-7))) M else Q (some (.int (r 36 n))) (mu M (127 + 4 * n) 3 (.int (nI 0))) := by
  show V (d + 2) 4 0 [some (rf (some 1)), some (.int (nI n)), none, none] [] M Q = _
  by_cases hd : had r (nI n) = true
  · simp only [s_4_0, s_4_1, s_4_2, s_4_5, s_4_6, s_4_7, s_4_10, s_4_11, s_4_12, s_4_13, s_4_14, s_4_17, s_4_20, s_4_22, s_4_23, s_4_24, s_4_27, s_4_28, s_4_29, s_4_30, s_4_33, s_4_34, eq_self, Nat.reduceLT, Nat.reduceLeDiff, Nat.reduceMod, Nat.reduceDiv, Nat.reduceAdd, Nat.reduceMul, Option.toList_some, Option.toList_none, List.cons_append, List.nil_append, List.append_nil, n10, n00, if_true, if_false, b0, b1, nI_add, true_and, and_true, and_self, sh_1, sh_2, sh_3, sh_36, sh_77, sh_126, k_1_0, k_1_1, k_1_2, k_1_3, k_1_4, k_1_5, k_2_0, sh_node, sh_cage, sh_cmts, sh_mrow, sh_que, sh_qv, sh_task, sh_tpow, sh_thld, sh_filt, sh_fop, sh_ffs, sh_fsc, sh_walk, ka_nodes, ka_cages, ka_tasks, ka_filts, kf_node_0, kf_cage_0, kf_cage_9, kf_task_0, kf_task_6, kf_task_7, kf_filt_0, kf_filt_1, kf_filt_2, kf_que, kf_cage_11, kf_cage_12, gi_K, gi_node1, gr_node, gi_cage1, gr_cage1, gr_cmts, gi_task1, gr_task1, gi_tpow, gr_thld, gi_filt, gi_fop, gi_ffs, gi_fsc, gr_walk, gr_mrow, gi_que, gi_qv, hw, hn, k_filterAt_in hw hn, so_no, k_isHeld hw iv hn, hd]
  · simp only [s_4_0, s_4_1, s_4_2, s_4_5, s_4_6, s_4_7, s_4_10, s_4_11, s_4_12, s_4_13, s_4_14, s_4_17, s_4_20, s_4_22, s_4_23, s_4_24, s_4_27, s_4_28, s_4_29, s_4_30, s_4_33, s_4_34, eq_self, Nat.reduceLT, Nat.reduceLeDiff, Nat.reduceMod, Nat.reduceDiv, Nat.reduceAdd, Nat.reduceMul, Option.toList_some, Option.toList_none, List.cons_append, List.nil_append, List.append_nil, n10, n00, if_true, if_false, b0, b1, nI_add, true_and, and_true, and_self, sh_1, sh_2, sh_3, sh_36, sh_77, sh_126, k_1_0, k_1_1, k_1_2, k_1_3, k_1_4, k_1_5, k_2_0, sh_node, sh_cage, sh_cmts, sh_mrow, sh_que, sh_qv, sh_task, sh_tpow, sh_thld, sh_filt, sh_fop, sh_ffs, sh_fsc, sh_walk, ka_nodes, ka_cages, ka_tasks, ka_filts, kf_node_0, kf_cage_0, kf_cage_9, kf_task_0, kf_task_6, kf_task_7, kf_filt_0, kf_filt_1, kf_filt_2, kf_que, kf_cage_11, kf_cage_12, gi_K, gi_node1, gr_node, gi_cage1, gr_cage1, gr_cmts, gi_task1, gr_task1, gi_tpow, gr_thld, gi_filt, gi_fop, gi_ffs, gi_fsc, gr_walk, gr_mrow, gi_que, gi_qv, hw, hn, k_filterAt_in hw hn, so_no, k_isHeld hw iv hn, hd, iv.f_3 hn]
theorem iv_wipe (iv : IV I O r C t mp) {n : Nat} (hn : n < 4) (hh : had r (nI n) = false) : IV (iu I 12 n 3 (nI 0)) O (ru r 36 n (nI 0)) C t mp := by
  refine ⟨iv.n1.cg (by simp only [eq_self, ru, iu, ou, eq_self, Nat.reduceEqDiff, false_and, and_false, if_false, true_and, and_true, and_self, implies_true]) (by simp only [eq_self, ru, iu, ou, eq_self, Nat.reduceEqDiff, false_and, and_false, if_false, true_and, and_true, and_self, implies_true]), iv.n2.cg (by simp only [eq_self, ru, iu, ou, eq_self, Nat.reduceEqDiff, false_and, and_false, if_false, true_and, and_true, and_self, implies_true]) (by simp only [eq_self, ru, iu, ou, eq_self, Nat.reduceEqDiff, false_and, and_false, if_false, true_and, and_true, and_self, implies_true]), iv.n3.cg (by simp only [eq_self, ru, iu, ou, eq_self, Nat.reduceEqDiff, false_and, and_false, if_false, true_and, and_true, and_self, implies_true]), iv.k.cg (by simp only [eq_self, ru, iu, ou, eq_self, Nat.reduceEqDiff, false_and, and_false, if_false, true_and, and_true, and_self, implies_true]) (by simp only [eq_self, ru, iu, ou, eq_self, Nat.reduceEqDiff, false_and, and_false, if_false, true_and, and_true, and_self, implies_true]), iv.c.cg (by simp only [eq_self, ru, iu, ou, eq_self, Nat.reduceEqDiff, false_and, and_false, if_false, true_and, and_true, and_self, implies_true]) (by simp only [eq_self, ru, iu, ou, eq_self, Nat.reduceEqDiff, false_and, and_false, if_false, true_and, and_true, and_self, implies_true]), iv.g.cg (by simp only [eq_self, ru, iu, ou, eq_self, Nat.reduceEqDiff, false_and, and_false, if_false, true_and, and_true, and_self, implies_true]) (by simp only [eq_self, ru, iu, ou, eq_self, Nat.reduceEqDiff, false_and, and_false, if_false, true_and, and_true, and_self, implies_true]), iv.p1.cg (by simp only [eq_self, ru, iu, ou, eq_self, Nat.reduceEqDiff, false_and, and_false, if_false, true_and, and_true, and_self, implies_true]) (by simp only [eq_self, ru, iu, ou, eq_self, Nat.reduceEqDiff, false_and, and_false, if_false, true_and, and_true, and_self, implies_true]), iv.p2.cg (by simp only [eq_self, ru, iu, ou, eq_self, Nat.reduceEqDiff, false_and, and_false, if_false, true_and, and_true, and_self, implies_true]) (by simp only [eq_self, ru, iu, ou, eq_self, Nat.reduceEqDiff, false_and, and_false, if_false, true_and, and_true, and_self, implies_true]), iv.p3.cg (by simp only [eq_self, ru, iu, ou, eq_self, Nat.reduceEqDiff, false_and, and_false, if_false, true_and, and_true, and_self, implies_true]), iv.p4.cg (by simp only [eq_self, ru, iu, ou, eq_self, Nat.reduceEqDiff, false_and, and_false, if_false, true_and, and_true, and_self, implies_true]), iv.i.cg (by simp only [eq_self, ru, iu, ou, eq_self, Nat.reduceEqDiff, false_and, and_false, if_false, true_and, and_true, and_self, implies_true]) (by simp only [eq_self, ru, iu, ou, eq_self, Nat.reduceEqDiff, false_and, and_false, if_false, true_and, and_true, and_self, implies_true]), ?_, ?_, ?_, iv.q.cg (by simp only [eq_self, ru, iu, ou, eq_self, Nat.reduceEqDiff, false_and, and_false, if_false, true_and, and_true, and_self, implies_true]) (by simp only [eq_self, ru, iu, ou, eq_self, Nat.reduceEqDiff, false_and, and_false, if_false, true_and, and_true, and_self, implies_true]) (by simp only [eq_self, ru, iu, ou, eq_self, Nat.reduceEqDiff, false_and, and_false, if_false, true_and, and_true, and_self, implies_true]), iv.m1.cg (by simp only [eq_self, ru, iu, ou, eq_self, Nat.reduceEqDiff, false_and, and_false, if_false, true_and, and_true, and_self, implies_true]) (by simp only [eq_self, ru, iu, ou, eq_self, Nat.reduceEqDiff, false_and, and_false, if_false, true_and, and_true, and_self, implies_true]), iv.m2.cg (by simp only [eq_self, ru, iu, ou, eq_self, Nat.reduceEqDiff, false_and, and_false, if_false, true_and, and_true, and_self, implies_true]) (by simp only [eq_self, ru, iu, ou, eq_self, Nat.reduceEqDiff, false_and, and_false, if_false, true_and, and_true, and_self, implies_true]), iv.m3.cg (by simp only [eq_self, ru, iu, ou, eq_self, Nat.reduceEqDiff, false_and, and_false, if_false, true_and, and_true, and_self, implies_true]) (by simp only [eq_self, ru, iu, ou, eq_self, Nat.reduceEqDiff, false_and, and_false, if_false, true_and, and_true, and_self, implies_true]), iv.m4.cg (by simp only [eq_self, ru, iu, ou, eq_self, Nat.reduceEqDiff, false_and, and_false, if_false, true_and, and_true, and_self, implies_true])⟩
  · intro p hp
    obtain ⟨m, h1, h2, h3, h4⟩ := iv.h p hp
    refine ⟨m, h1, by simp only [ru, iu, ou, eq_self, Nat.reduceEqDiff, false_and, and_false, if_false, true_and, and_true, and_self]; exact h2, by simp only [ru, iu, ou, eq_self, Nat.reduceEqDiff, false_and, and_false, if_false, true_and, and_true, and_self]; exact h3, fun k hk => ?_⟩
    obtain ⟨f, g1, g2, g3, s', g4, g5, g6⟩ := h4 k hk
    have h24 : ¬ r 24 p = 0 := fun z => by have := h3 z; omega
    have hfn : ¬ f = n := fun z => no_had hh hp h24 h2 (by omega) hk (by rw [g2, z])
    refine ⟨f, g1, by simp only [ru, iu, ou, eq_self, Nat.reduceEqDiff, false_and, and_false, if_false, true_and, and_true, and_self]; exact g2, g3, s', g4, by simp only [ru, iu, ou, eq_self, Nat.reduceEqDiff, false_and, and_false, if_false, true_and, and_true, and_self, hfn]; exact g5, g6.1, by simp only [ru, iu, ou, eq_self, Nat.reduceEqDiff, false_and, and_false, if_false, true_and, and_true, and_self]; exact g6.2.1, ?_⟩
    rw [← g6.2.2]
    exact ffind_cg _ _ (fun j _ hj => by simp only [badS, ru, iu, ou, eq_self, Nat.reduceEqDiff, false_and, and_false, if_false, true_and, and_true, and_self, hfn])
  · intro f hf
    have := iv.f1 f hf
    by_cases e : f = n
    · simp only [ru, iu, ou, eq_self, Nat.reduceEqDiff, false_and, and_false, if_false, true_and, and_true, and_self, e, if_true] at this ⊢; exact this.2
    · simp only [ru, iu, ou, eq_self, Nat.reduceEqDiff, false_and, and_false, if_false, true_and, and_true, and_self, e] at this ⊢; exact this
  · intro f hf
    obtain ⟨s', q1, q2, q3, q4⟩ := iv.f2 f hf
    by_cases e : f = n
    · exact ⟨0, by omega, by simp only [ru, iu, ou, eq_self, Nat.reduceEqDiff, false_and, and_false, if_false, true_and, and_true, and_self, e, if_true], fun k hk => absurd hk (by omega), fun k hk => absurd hk (by omega)⟩
    · refine ⟨s', q1, by simp only [ru, iu, ou, eq_self, Nat.reduceEqDiff, false_and, and_false, if_false, true_and, and_true, and_self, e]; exact q2, ?_, ?_⟩
      · intro k hk hk2
        simp only [ru, iu, ou, eq_self, Nat.reduceEqDiff, false_and, and_false, if_false, true_and, and_true, and_self] at hk2 ⊢
        exact q3 k hk hk2
      · intro k hk
        have := q4 k hk
        simp only [ru, iu, ou, eq_self, Nat.reduceEqDiff, false_and, and_false, if_false, true_and, and_true, and_self]; exact this
theorem j_wipe (hw : wf M) (iv : IV (ig M) (og M) (rg M) C t mp) {f : Int32} : Jt 4 67 [.int f] M t := by
  by_cases h : nI 0 ≤ f ∧ f ≤ nI 3
  · obtain ⟨n, hn, rfl⟩ := in_nI (by decide) h
    have hn : n < 4 := by omega
    by_cases hd : had (rg M) (nI n) = true
    · exact Jt_same hw iv (fun Q => by rw [k_wipe_in hw iv hn, if_pos hd]) (fun Q => by rw [c_rwipe_in hw iv.wh hn, if_pos hd])
    · have w := C_filt_3 hw hn (x := nI 0)
      have w2 := wm_181 w.w hn (x := nI 0)
      have hiv := iv_wipe iv hn (Bool.eq_false_iff.2 hd)
      refine ⟨mu M (127 + 4 * n) 3 (.int (nI 0)), _, rg M 36 n, C, mp, (fun Q => by rw [k_wipe_in hw iv hn, if_neg hd]), (fun Q => by rw [c_rwipe_in w.w (by rw [w.r]; exact iv.wh) hn, w.r, if_neg hd]), w2, ?_⟩
      rw [cg_ig (cm_181 w.w hn), cg_og (cm_181 w.w hn), rm_181 w.w hn, w.i, w.o, w.r]
      exact hiv.le (by omega)
  · exact Jt_same hw iv (fun Q => k_wipe_no hw h) (fun Q => c_rwipe_no hw h)
end
