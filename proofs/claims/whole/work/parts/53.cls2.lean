section
variable {d : Nat} {M : mH} {Q : Option Value → mH → Prop} {C t : Nat} {mp : MP} {r : RS}
theorem cO_s {n : Nat} : cO (some n) = some (37 + 10 * n) := rfl
theorem cO_z : cO none = none := rfl
theorem tO_s {n : Nat} : tO (some n) = some (78 + 3 * n) := rfl
theorem tO_z : tO none = none := rfl
theorem nO_s {n : Nat} : nO (some n) = some (4 + n) := rfl
theorem nO_z : nO none = none := rfl
theorem cO_ne {c o : Nat} : (some (37 + 10 * c) = some (37 + 10 * o)) = (c = o) := propext ⟨fun h => by have := Option.some.inj h; omega, fun h => by rw [h]⟩
theorem tO_ne {c o : Nat} : (some (78 + 3 * c) = some (78 + 3 * o)) = (c = o) := propext ⟨fun h => by have := Option.some.inj h; omega, fun h => by rw [h]⟩
theorem nO_ne {c o : Nat} : (some (4 + c) = some (4 + o)) = (c = o) := propext ⟨fun h => by have := Option.some.inj h; omega, fun h => by rw [h]⟩
theorem fO_ne {c o : Nat} : (some (127 + 4 * c) = some (127 + 4 * o)) = (c = o) := propext ⟨fun h => by have := Option.some.inj h; omega, fun h => by rw [h]⟩
theorem so_no {x : Nat} : (some x = (none : Option Nat)) = False := by simp
theorem IV.outO (iv : IV (ig M) (og M) r C t mp) {c : Nat} (hc : c < C) : og M 2 c 6 = cO (outO r c) ∧ ∀ c', outO r c = some c' → c' < c := by
  rw [iv.c_6 hc]
  have hC := iv.C4
  rcases iv.wo c hc with h | ⟨c', h1, h2⟩
  · rw [outO_none h, h, cgO_m]
    exact ⟨rfl, fun _ z => by cases z⟩
  · rw [outO_some (by omega) h2, h2, cgO_n (by omega)]
    exact ⟨rfl, fun _ z => by cases z; exact h1⟩
theorem k_isWithin_l (hw : wf M) (iv : IV (ig M) (og M) r C t mp) {o : Nat} {l0 : Option Value} : ∀ f (oc : Option Nat), (∀ c, oc = some c → c < C ∧ c < f) → V d 44 2 [l0, some (rf (some (37 + 10 * o))), some (rf (cO oc))] [] M Q = if inn r o f oc = true then Q (some (.int (nI 1))) M else Q (some (.int (nI 0))) M := by
  intro f
  have hC := iv.C4
  induction f with
  | zero =>
    intro oc hoc
    cases oc with
    | none => rw [s_44_2]; simp only [cO_s, cO_z, s_44_0, s_44_1, s_44_3, s_44_6, s_44_7, s_44_8, s_44_11, s_44_12, s_44_13, s_44_14, s_44_17, s_44_18, s_44_21, s_44_22, eq_self, Nat.reduceLT, Nat.reduceLeDiff, Nat.reduceMod, Nat.reduceDiv, Nat.reduceAdd, Nat.reduceMul, Option.toList_some, Option.toList_none, List.cons_append, List.nil_append, List.append_nil, n10, n00, if_true, if_false, b0, b1, nI_add, true_and, and_true, and_self, inn, Bool.false_eq_true]
    | some c => have := (hoc c rfl).2; omega
  | succ f ih =>
    intro oc hoc
    cases oc with
    | none => rw [s_44_2]; simp only [cO_s, cO_z, s_44_0, s_44_1, s_44_3, s_44_6, s_44_7, s_44_8, s_44_11, s_44_12, s_44_13, s_44_14, s_44_17, s_44_18, s_44_21, s_44_22, eq_self, Nat.reduceLT, Nat.reduceLeDiff, Nat.reduceMod, Nat.reduceDiv, Nat.reduceAdd, Nat.reduceMul, Option.toList_some, Option.toList_none, List.cons_append, List.nil_append, List.append_nil, n10, n00, if_true, if_false, b0, b1, nI_add, true_and, and_true, and_self, inn, Bool.false_eq_true]
    | some c =>
      obtain ⟨h1, h2⟩ := hoc c rfl
      have h4 : c < 4 := by omega
      obtain ⟨e1, e2⟩ := iv.outO h1
      rw [s_44_2]
      simp only [cO_s, cO_z, s_44_0, s_44_1, s_44_3, s_44_6, s_44_7, s_44_8, s_44_11, s_44_12, s_44_13, s_44_14, s_44_17, s_44_18, s_44_21, s_44_22, eq_self, Nat.reduceLT, Nat.reduceLeDiff, Nat.reduceMod, Nat.reduceDiv, Nat.reduceAdd, Nat.reduceMul, Option.toList_some, Option.toList_none, List.cons_append, List.nil_append, List.append_nil, n10, n00, if_true, if_false, b0, b1, nI_add, true_and, and_true, and_self, sh_1, sh_2, sh_3, sh_36, sh_77, sh_126, k_1_0, k_1_1, k_1_2, k_1_3, k_1_4, k_1_5, k_2_0, sh_node, sh_cage, sh_cmts, sh_mrow, sh_que, sh_qv, sh_task, sh_tpow, sh_thld, sh_filt, sh_fop, sh_ffs, sh_fsc, sh_walk, ka_nodes, ka_cages, ka_tasks, ka_filts, kf_node_0, kf_cage_0, kf_cage_9, kf_task_0, kf_task_6, kf_task_7, kf_filt_0, kf_filt_1, kf_filt_2, kf_que, kf_cage_11, kf_cage_12, gi_K, gi_node1, gr_node, gi_cage1, gr_cage1, gr_cmts, gi_task1, gr_task1, gi_tpow, gr_thld, gi_filt, gi_fop, gi_ffs, gi_fsc, gr_walk, gr_mrow, gi_que, gi_qv, hw, h4, inn, so_no, cO_ne, e1, ih _ (fun c' hc' => ⟨by have := e2 c' hc'; omega, by have := e2 c' hc'; omega⟩)]
      by_cases h : c = o
      · subst h; simp only [eq_self, Nat.reduceLT, Nat.reduceLeDiff, Nat.reduceMod, Nat.reduceDiv, Nat.reduceAdd, Nat.reduceMul, Option.toList_some, Option.toList_none, List.cons_append, List.nil_append, List.append_nil, n10, n00, if_true, if_false, b0, b1, nI_add, true_and, and_true, and_self, beq_self_eq_true, Bool.true_or]
      · simp only [h, eq_self, Nat.reduceLT, Nat.reduceLeDiff, Nat.reduceMod, Nat.reduceDiv, Nat.reduceAdd, Nat.reduceMul, Option.toList_some, Option.toList_none, List.cons_append, List.nil_append, List.append_nil, n10, n00, if_true, if_false, b0, b1, nI_add, true_and, and_true, and_self, beq_eq_false_iff_ne.mpr h, Bool.false_or]
theorem k_isWithin (hw : wf M) (iv : IV (ig M) (og M) r C t mp) {o : Nat} {oc : Option Nat} (hoc : ∀ c, oc = some c → c < C) : Vc d 44 [rf (cO oc), rf (some (37 + 10 * o))] M Q = if inn r o 4 oc = true then Q (some (.int (nI 1))) M else Q (some (.int (nI 0))) M := by
  show V d 44 0 [some (rf (cO oc)), some (rf (some (37 + 10 * o))), none] [] M Q = _
  rw [s_44_0, s_44_1]
  have hC := iv.C4
  exact k_isWithin_l hw iv 4 oc (fun c h => ⟨hoc c h, by have := hoc c h; omega⟩)
theorem IV.makO (iv : IV (ig M) (og M) r C t mp) {n : Nat} (hn : n < 32) (hr : ¬ r 1 n = 0) : og M 1 n 7 = cO (makO r n) ∧ ∀ c', makO r n = some c' → c' < C := by
  rw [iv.n_7 hn hr]
  have hC := iv.C4
  rcases iv.wm n hn hr with h | ⟨c', h1, h2⟩
  · rw [makO_none h, h, cgO_m]
    exact ⟨rfl, fun _ z => by cases z⟩
  · rw [makO_some (by omega) h2, h2, cgO_n (by omega)]
    exact ⟨rfl, fun _ z => by cases z; exact h1⟩
theorem k_usedBy_l (hw : wf M) (iv : IV (ig M) (og M) r C t mp) {o : Nat} : ∀ k n c, n + k = 32 → V (d + 1) 137 4 [some (rf (some 2)), some (rf (some (37 + 10 * o))), some (.int (nI c)), some (.int (nI n))] [] M Q = Q (some (.int (nI (c + cnt (pUN r o) n k)))) M := by
  intro k
  induction k with
  | zero =>
    intro n c hn
    obtain rfl : n = 32 := by omega
    rw [s_137_4]
    simp only [s_137_0, s_137_1, s_137_2, s_137_3, s_137_5, s_137_7, s_137_10, s_137_11, s_137_14, s_137_15, s_137_16, s_137_19, s_137_22, s_137_23, s_137_26, s_137_27, s_137_28, s_137_31, s_137_32, s_137_35, s_137_38, s_137_41, s_137_44, s_137_47, s_137_48, eq_self, Nat.reduceLT, Nat.reduceLeDiff, Nat.reduceMod, Nat.reduceDiv, Nat.reduceAdd, Nat.reduceMul, Option.toList_some, Option.toList_none, List.cons_append, List.nil_append, List.append_nil, n10, n00, if_true, if_false, b0, b1, nI_add, true_and, and_true, and_self, show nI 32 ≤ nI 32 from Int32.le_refl _, cnt, Nat.add_zero]
  | succ k ih =>
    intro n c hn
    have h32 : n < 32 := by omega
    rw [s_137_4]
    by_cases h1 : r 1 n = 0
    · simp only [s_137_0, s_137_1, s_137_2, s_137_3, s_137_5, s_137_7, s_137_10, s_137_11, s_137_14, s_137_15, s_137_16, s_137_19, s_137_22, s_137_23, s_137_26, s_137_27, s_137_28, s_137_31, s_137_32, s_137_35, s_137_38, s_137_41, s_137_44, s_137_47, s_137_48, eq_self, Nat.reduceLT, Nat.reduceLeDiff, Nat.reduceMod, Nat.reduceDiv, Nat.reduceAdd, Nat.reduceMul, Option.toList_some, Option.toList_none, List.cons_append, List.nil_append, List.append_nil, n10, n00, if_true, if_false, b0, b1, nI_add, true_and, and_true, and_self, sh_1, sh_2, sh_3, sh_36, sh_77, sh_126, k_1_0, k_1_1, k_1_2, k_1_3, k_1_4, k_1_5, k_2_0, sh_node, sh_cage, sh_cmts, sh_mrow, sh_que, sh_qv, sh_task, sh_tpow, sh_thld, sh_filt, sh_fop, sh_ffs, sh_fsc, sh_walk, ka_nodes, ka_cages, ka_tasks, ka_filts, kf_node_0, kf_cage_0, kf_cage_9, kf_task_0, kf_task_6, kf_task_7, kf_filt_0, kf_filt_1, kf_filt_2, kf_que, kf_cage_11, kf_cage_12, gi_K, gi_node1, gr_node, gi_cage1, gr_cage1, gr_cmts, gi_task1, gr_task1, gi_tpow, gr_thld, gi_filt, gi_fop, gi_ffs, gi_fsc, gr_walk, gr_mrow, gi_que, gi_qv, iv.n_1, iv.n_2, iv.n_3, iv.n_4, iv.n_5, iv.k_6, iv.k_7, iv.k_8, iv.c_1, iv.c_2, iv.c_3, iv.c_4, iv.c_5, iv.c_6, iv.c_8, iv.c_10, iv.p_1, iv.p_2, iv.p_3, iv.p_4, iv.p_5, iv.p_8, iv.p_9, iv.w_k, iv.f_3, iv.f_o, iv.f_a, iv.f_b, hw, h32, nI_ge h32 (by decide), ih (n + 1) _ (by omega), cnt, h1]
      simp [pUN, h1]
    · obtain ⟨e1, e2⟩ := iv.makO h32 h1
      simp only [s_137_0, s_137_1, s_137_2, s_137_3, s_137_5, s_137_7, s_137_10, s_137_11, s_137_14, s_137_15, s_137_16, s_137_19, s_137_22, s_137_23, s_137_26, s_137_27, s_137_28, s_137_31, s_137_32, s_137_35, s_137_38, s_137_41, s_137_44, s_137_47, s_137_48, eq_self, Nat.reduceLT, Nat.reduceLeDiff, Nat.reduceMod, Nat.reduceDiv, Nat.reduceAdd, Nat.reduceMul, Option.toList_some, Option.toList_none, List.cons_append, List.nil_append, List.append_nil, n10, n00, if_true, if_false, b0, b1, nI_add, true_and, and_true, and_self, sh_1, sh_2, sh_3, sh_36, sh_77, sh_126, k_1_0, k_1_1, k_1_2, k_1_3, k_1_4, k_1_5, k_2_0, sh_node, sh_cage, sh_cmts, sh_mrow, sh_que, sh_qv, sh_task, sh_tpow, sh_thld, sh_filt, sh_fop, sh_ffs, sh_fsc, sh_walk, ka_nodes, ka_cages, ka_tasks, ka_filts, kf_node_0, kf_cage_0, kf_cage_9, kf_task_0, kf_task_6, kf_task_7, kf_filt_0, kf_filt_1, kf_filt_2, kf_que, kf_cage_11, kf_cage_12, gi_K, gi_node1, gr_node, gi_cage1, gr_cage1, gr_cmts, gi_task1, gr_task1, gi_tpow, gr_thld, gi_filt, gi_fop, gi_ffs, gi_fsc, gr_walk, gr_mrow, gi_que, gi_qv, iv.n_1, iv.n_2, iv.n_3, iv.n_4, iv.n_5, iv.k_6, iv.k_7, iv.k_8, iv.c_1, iv.c_2, iv.c_3, iv.c_4, iv.c_5, iv.c_6, iv.c_8, iv.c_10, iv.p_1, iv.p_2, iv.p_3, iv.p_4, iv.p_5, iv.p_8, iv.p_9, iv.w_k, iv.f_3, iv.f_o, iv.f_a, iv.f_b, hw, h32, nI_ge h32 (by decide), ih (n + 1) _ (by omega), cnt, h1, e1, k_isWithin hw iv e2, pUN, not_false_eq_true, decide_true, Bool.true_and]
      cases inn r o 4 (makO r n) <;> simp [s_137_35, s_137_38, s_137_41, s_137_44, n10, n00, nI_add, ih (n + 1) _ (show n + 1 + k = 32 by omega), Nat.add_assoc]
theorem k_usedBy (hw : wf M) (iv : IV (ig M) (og M) r C t mp) {o : Nat} : Vc (d + 1) 137 [rf (some 2), rf (some (37 + 10 * o))] M Q = Q (some (.int (nI (cnt (pUN r o) 1 31)))) M := by
  show V (d + 1) 137 0 [some (rf (some 2)), some (rf (some (37 + 10 * o))), none, none] [] M Q = _
  rw [s_137_0, s_137_1, s_137_2, s_137_3, k_usedBy_l hw iv 32 0 0 rfl]
  have : pUN r o 0 = false := by simp only [pUN, makO_none iv.n3.2.2.1, inn, Bool.and_false]
  conv => lhs; rw [cnt, this, cond_false, Nat.zero_add, Nat.zero_add]
theorem IV.cageP (iv : IV (ig M) (og M) r C t mp) {p : Nat} (hp : p < 16) (hr : ¬ r 24 p = 0) : og M 9 p 2 = cO (some (r 25 p).toNatClampNeg) ∧ (r 25 p).toNatClampNeg < C ∧ r 25 p = nI (r 25 p).toNatClampNeg := by
  have hC := iv.C4
  obtain ⟨c, h1, h2⟩ := iv.wp p hp hr
  rw [iv.p_2 hp, if_neg hr, h2, cgO_n (by omega), nI_clamp (by omega)]
  exact ⟨rfl, h1, rfl⟩
theorem k_tasksUsedBy_l (hw : wf M) (iv : IV (ig M) (og M) r C t mp) {o : Nat} : ∀ k n c, n + k = 16 → V (d + 1) 39 4 [some (rf (some 1)), some (rf (some (37 + 10 * o))), some (.int (nI c)), some (.int (nI n))] [] M Q = Q (some (.int (nI (c + cnt (pUP r o) n k)))) M := by
  intro k
  induction k with
  | zero =>
    intro n c hn
    obtain rfl : n = 16 := by omega
    rw [s_39_4]
    simp only [s_39_0, s_39_1, s_39_2, s_39_3, s_39_5, s_39_7, s_39_10, s_39_11, s_39_14, s_39_15, s_39_16, s_39_19, s_39_22, s_39_23, s_39_26, s_39_27, s_39_28, s_39_31, s_39_32, s_39_35, s_39_38, s_39_41, s_39_44, s_39_47, s_39_48, eq_self, Nat.reduceLT, Nat.reduceLeDiff, Nat.reduceMod, Nat.reduceDiv, Nat.reduceAdd, Nat.reduceMul, Option.toList_some, Option.toList_none, List.cons_append, List.nil_append, List.append_nil, n10, n00, if_true, if_false, b0, b1, nI_add, true_and, and_true, and_self, show nI 16 ≤ nI 16 from Int32.le_refl _, cnt, Nat.add_zero]
  | succ k ih =>
    intro n c hn
    have h16 : n < 16 := by omega
    rw [s_39_4]
    by_cases h1 : r 24 n = 0
    · simp only [s_39_0, s_39_1, s_39_2, s_39_3, s_39_5, s_39_7, s_39_10, s_39_11, s_39_14, s_39_15, s_39_16, s_39_19, s_39_22, s_39_23, s_39_26, s_39_27, s_39_28, s_39_31, s_39_32, s_39_35, s_39_38, s_39_41, s_39_44, s_39_47, s_39_48, eq_self, Nat.reduceLT, Nat.reduceLeDiff, Nat.reduceMod, Nat.reduceDiv, Nat.reduceAdd, Nat.reduceMul, Option.toList_some, Option.toList_none, List.cons_append, List.nil_append, List.append_nil, n10, n00, if_true, if_false, b0, b1, nI_add, true_and, and_true, and_self, sh_1, sh_2, sh_3, sh_36, sh_77, sh_126, k_1_0, k_1_1, k_1_2, k_1_3, k_1_4, k_1_5, k_2_0, sh_node, sh_cage, sh_cmts, sh_mrow, sh_que, sh_qv, sh_task, sh_tpow, sh_thld, sh_filt, sh_fop, sh_ffs, sh_fsc, sh_walk, ka_nodes, ka_cages, ka_tasks, ka_filts, kf_node_0, kf_cage_0, kf_cage_9, kf_task_0, kf_task_6, kf_task_7, kf_filt_0, kf_filt_1, kf_filt_2, kf_que, kf_cage_11, kf_cage_12, gi_K, gi_node1, gr_node, gi_cage1, gr_cage1, gr_cmts, gi_task1, gr_task1, gi_tpow, gr_thld, gi_filt, gi_fop, gi_ffs, gi_fsc, gr_walk, gr_mrow, gi_que, gi_qv, iv.p_1, hw, h16, nI_ge h16 (by decide), ih (n + 1) _ (by omega), cnt, h1]
      simp [pUP, h1]
    · obtain ⟨e1, e2, -⟩ := iv.cageP h16 h1
      simp only [s_39_0, s_39_1, s_39_2, s_39_3, s_39_5, s_39_7, s_39_10, s_39_11, s_39_14, s_39_15, s_39_16, s_39_19, s_39_22, s_39_23, s_39_26, s_39_27, s_39_28, s_39_31, s_39_32, s_39_35, s_39_38, s_39_41, s_39_44, s_39_47, s_39_48, eq_self, Nat.reduceLT, Nat.reduceLeDiff, Nat.reduceMod, Nat.reduceDiv, Nat.reduceAdd, Nat.reduceMul, Option.toList_some, Option.toList_none, List.cons_append, List.nil_append, List.append_nil, n10, n00, if_true, if_false, b0, b1, nI_add, true_and, and_true, and_self, sh_1, sh_2, sh_3, sh_36, sh_77, sh_126, k_1_0, k_1_1, k_1_2, k_1_3, k_1_4, k_1_5, k_2_0, sh_node, sh_cage, sh_cmts, sh_mrow, sh_que, sh_qv, sh_task, sh_tpow, sh_thld, sh_filt, sh_fop, sh_ffs, sh_fsc, sh_walk, ka_nodes, ka_cages, ka_tasks, ka_filts, kf_node_0, kf_cage_0, kf_cage_9, kf_task_0, kf_task_6, kf_task_7, kf_filt_0, kf_filt_1, kf_filt_2, kf_que, kf_cage_11, kf_cage_12, gi_K, gi_node1, gr_node, gi_cage1, gr_cage1, gr_cmts, gi_task1, gr_task1, gi_tpow, gr_thld, gi_filt, gi_fop, gi_ffs, gi_fsc, gr_walk, gr_mrow, gi_que, gi_qv, iv.p_1, hw, h16, nI_ge h16 (by decide), ih (n + 1) _ (by omega), cnt, h1, e1, k_isWithin hw iv (oc := some (r 25 n).toNatClampNeg) (fun _ z => by cases z; exact e2), pUP, not_false_eq_true, decide_true, Bool.true_and]
      cases inn r o 4 (some (r 25 n).toNatClampNeg) <;> simp [s_39_35, s_39_38, s_39_41, s_39_44, n10, n00, nI_add, ih (n + 1) _ (show n + 1 + k = 16 by omega), Nat.add_assoc]
theorem k_tasksUsedBy (hw : wf M) (iv : IV (ig M) (og M) r C t mp) {o : Nat} : Vc (d + 1) 39 [rf (some 1), rf (some (37 + 10 * o))] M Q = Q (some (.int (nI (cnt (pUP r o) 0 16)))) M := by
  show V (d + 1) 39 0 [some (rf (some 1)), some (rf (some (37 + 10 * o))), none, none] [] M Q = _
  rw [s_39_0, s_39_1, s_39_2, s_39_3, k_tasksUsedBy_l hw iv 16 0 0 rfl, Nat.zero_add]
theorem k_tq_l (hw : wf M) (iv : IV (ig M) (og M) r C t mp) {l1 : Option Value} : ∀ f (oc : Option Nat), (∀ c, oc = some c → c < C ∧ c < f) → V (d + 2) 40 2 [some (rf (some 1)), l1, some (rf (cO oc))] [] M Q = if ovr r true f oc = true then Q (some (.int (nI 1))) M else Q (some (.int (nI 0))) M := by
  intro f
  have hC := iv.C4
  induction f with
  | zero =>
    intro oc hoc
    cases oc with
    | none => rw [s_40_2]; simp only [cO_s, cO_z, s_40_0, s_40_1, s_40_3, s_40_6, s_40_7, s_40_8, s_40_11, s_40_12, s_40_15, s_40_18, s_40_19, s_40_20, s_40_21, s_40_24, s_40_25, s_40_28, s_40_29, eq_self, Nat.reduceLT, Nat.reduceLeDiff, Nat.reduceMod, Nat.reduceDiv, Nat.reduceAdd, Nat.reduceMul, Option.toList_some, Option.toList_none, List.cons_append, List.nil_append, List.append_nil, n10, n00, if_true, if_false, b0, b1, nI_add, true_and, and_true, and_self, ovr, Bool.false_eq_true]
    | some c => have := (hoc c rfl).2; omega
  | succ f ih =>
    intro oc hoc
    cases oc with
    | none => rw [s_40_2]; simp only [cO_s, cO_z, s_40_0, s_40_1, s_40_3, s_40_6, s_40_7, s_40_8, s_40_11, s_40_12, s_40_15, s_40_18, s_40_19, s_40_20, s_40_21, s_40_24, s_40_25, s_40_28, s_40_29, eq_self, Nat.reduceLT, Nat.reduceLeDiff, Nat.reduceMod, Nat.reduceDiv, Nat.reduceAdd, Nat.reduceMul, Option.toList_some, Option.toList_none, List.cons_append, List.nil_append, List.append_nil, n10, n00, if_true, if_false, b0, b1, nI_add, true_and, and_true, and_self, ovr, Bool.false_eq_true]
    | some c =>
      obtain ⟨h1, h2⟩ := hoc c rfl
      have h4 : c < 4 := by omega
      obtain ⟨e1, e2⟩ := iv.outO h1
      rw [s_40_2]
      simp only [cO_s, cO_z, s_40_0, s_40_1, s_40_3, s_40_6, s_40_7, s_40_8, s_40_11, s_40_12, s_40_15, s_40_18, s_40_19, s_40_20, s_40_21, s_40_24, s_40_25, s_40_28, s_40_29, eq_self, Nat.reduceLT, Nat.reduceLeDiff, Nat.reduceMod, Nat.reduceDiv, Nat.reduceAdd, Nat.reduceMul, Option.toList_some, Option.toList_none, List.cons_append, List.nil_append, List.append_nil, n10, n00, if_true, if_false, b0, b1, nI_add, true_and, and_true, and_self, sh_1, sh_2, sh_3, sh_36, sh_77, sh_126, k_1_0, k_1_1, k_1_2, k_1_3, k_1_4, k_1_5, k_2_0, sh_node, sh_cage, sh_cmts, sh_mrow, sh_que, sh_qv, sh_task, sh_tpow, sh_thld, sh_filt, sh_fop, sh_ffs, sh_fsc, sh_walk, ka_nodes, ka_cages, ka_tasks, ka_filts, kf_node_0, kf_cage_0, kf_cage_9, kf_task_0, kf_task_6, kf_task_7, kf_filt_0, kf_filt_1, kf_filt_2, kf_que, kf_cage_11, kf_cage_12, gi_K, gi_node1, gr_node, gi_cage1, gr_cage1, gr_cmts, gi_task1, gr_task1, gi_tpow, gr_thld, gi_filt, gi_fop, gi_ffs, gi_fsc, gr_walk, gr_mrow, gi_que, gi_qv, hw, h4, ovr, so_no, k_tasksUsedBy hw iv, iv.c_5 h1, e1, ih _ (fun c' hc' => ⟨by have := e2 c' hc'; omega, by have := e2 c' hc'; omega⟩), lim, cond_true]
      by_cases h : r 13 c ≤ nI (cnt (pUP r c) 0 16)
      · have h' : ¬ nI (cnt (pUP r c) 0 16) < r 13 c := by rw [Int32.not_lt]; exact h
        simp only [h, h', eq_self, Nat.reduceLT, Nat.reduceLeDiff, Nat.reduceMod, Nat.reduceDiv, Nat.reduceAdd, Nat.reduceMul, Option.toList_some, Option.toList_none, List.cons_append, List.nil_append, List.append_nil, n10, n00, if_true, if_false, b0, b1, nI_add, true_and, and_true, and_self, decide_true, Bool.true_or]
      · have h' : nI (cnt (pUP r c) 0 16) < r 13 c := Int32.not_le.mp h
        simp only [h, h', eq_self, Nat.reduceLT, Nat.reduceLeDiff, Nat.reduceMod, Nat.reduceDiv, Nat.reduceAdd, Nat.reduceMul, Option.toList_some, Option.toList_none, List.cons_append, List.nil_append, List.append_nil, n10, n00, if_true, if_false, b0, b1, nI_add, true_and, and_true, and_self, decide_false, Bool.false_or]
theorem k_tq (hw : wf M) (iv : IV (ig M) (og M) r C t mp) {c : Nat} (hc : c < C) : Vc (d + 2) 40 [rf (some 1), rf (some (37 + 10 * c))] M Q = if ovr r true 4 (some c) = true then Q (some (.int (nI 1))) M else Q (some (.int (nI 0))) M := by
  show V (d + 2) 40 0 [some (rf (some 1)), some (rf (some (37 + 10 * c))), none] [] M Q = _
  have hC := iv.C4
  have := k_tq_l (d := d) (Q := Q) hw iv (l1 := some (rf (some (37 + 10 * c)))) 4 (some c) (fun c' h => by cases h; omega)
  rw [s_40_0, s_40_1]
  exact this
theorem k_nq_l (hw : wf M) (iv : IV (ig M) (og M) r C t mp) {l1 : Option Value} : ∀ f (oc : Option Nat), (∀ c, oc = some c → c < C ∧ c < f) → V (d + 2) 41 2 [some (rf (some 1)), l1, some (rf (cO oc))] [] M Q = if ovr r false f oc = true then Q (some (.int (nI 1))) M else Q (some (.int (nI 0))) M := by
  intro f
  have hC := iv.C4
  induction f with
  | zero =>
    intro oc hoc
    cases oc with
    | none => rw [s_41_2]; simp only [cO_s, cO_z, s_41_0, s_41_1, s_41_3, s_41_6, s_41_7, s_41_10, s_41_11, s_41_14, s_41_15, s_41_18, s_41_21, s_41_22, s_41_23, s_41_24, s_41_27, s_41_28, s_41_31, s_41_32, eq_self, Nat.reduceLT, Nat.reduceLeDiff, Nat.reduceMod, Nat.reduceDiv, Nat.reduceAdd, Nat.reduceMul, Option.toList_some, Option.toList_none, List.cons_append, List.nil_append, List.append_nil, n10, n00, if_true, if_false, b0, b1, nI_add, true_and, and_true, and_self, ovr, Bool.false_eq_true]
    | some c => have := (hoc c rfl).2; omega
  | succ f ih =>
    intro oc hoc
    cases oc with
    | none => rw [s_41_2]; simp only [cO_s, cO_z, s_41_0, s_41_1, s_41_3, s_41_6, s_41_7, s_41_10, s_41_11, s_41_14, s_41_15, s_41_18, s_41_21, s_41_22, s_41_23, s_41_24, s_41_27, s_41_28, s_41_31, s_41_32, eq_self, Nat.reduceLT, Nat.reduceLeDiff, Nat.reduceMod, Nat.reduceDiv, Nat.reduceAdd, Nat.reduceMul, Option.toList_some, Option.toList_none, List.cons_append, List.nil_append, List.append_nil, n10, n00, if_true, if_false, b0, b1, nI_add, true_and, and_true, and_self, ovr, Bool.false_eq_true]
    | some c =>
      obtain ⟨h1, h2⟩ := hoc c rfl
      have h4 : c < 4 := by omega
      obtain ⟨e1, e2⟩ := iv.outO h1
      rw [s_41_2]
      simp only [cO_s, cO_z, s_41_0, s_41_1, s_41_3, s_41_6, s_41_7, s_41_10, s_41_11, s_41_14, s_41_15, s_41_18, s_41_21, s_41_22, s_41_23, s_41_24, s_41_27, s_41_28, s_41_31, s_41_32, eq_self, Nat.reduceLT, Nat.reduceLeDiff, Nat.reduceMod, Nat.reduceDiv, Nat.reduceAdd, Nat.reduceMul, Option.toList_some, Option.toList_none, List.cons_append, List.nil_append, List.append_nil, n10, n00, if_true, if_false, b0, b1, nI_add, true_and, and_true, and_self, sh_1, sh_2, sh_3, sh_36, sh_77, sh_126, k_1_0, k_1_1, k_1_2, k_1_3, k_1_4, k_1_5, k_2_0, sh_node, sh_cage, sh_cmts, sh_mrow, sh_que, sh_qv, sh_task, sh_tpow, sh_thld, sh_filt, sh_fop, sh_ffs, sh_fsc, sh_walk, ka_nodes, ka_cages, ka_tasks, ka_filts, kf_node_0, kf_cage_0, kf_cage_9, kf_task_0, kf_task_6, kf_task_7, kf_filt_0, kf_filt_1, kf_filt_2, kf_que, kf_cage_11, kf_cage_12, gi_K, gi_node1, gr_node, gi_cage1, gr_cage1, gr_cmts, gi_task1, gr_task1, gi_tpow, gr_thld, gi_filt, gi_fop, gi_ffs, gi_fsc, gr_walk, gr_mrow, gi_que, gi_qv, hw, h4, ovr, so_no, k_usedBy hw iv, iv.c_4 h1, e1, ih _ (fun c' hc' => ⟨by have := e2 c' hc'; omega, by have := e2 c' hc'; omega⟩), lim, cond_false]
      by_cases h : r 12 c ≤ nI (cnt (pUN r c) 1 31)
      · have h' : ¬ nI (cnt (pUN r c) 1 31) < r 12 c := by rw [Int32.not_lt]; exact h
        simp only [h, h', eq_self, Nat.reduceLT, Nat.reduceLeDiff, Nat.reduceMod, Nat.reduceDiv, Nat.reduceAdd, Nat.reduceMul, Option.toList_some, Option.toList_none, List.cons_append, List.nil_append, List.append_nil, n10, n00, if_true, if_false, b0, b1, nI_add, true_and, and_true, and_self, decide_true, Bool.true_or]
      · have h' : nI (cnt (pUN r c) 1 31) < r 12 c := Int32.not_le.mp h
        simp only [h, h', eq_self, Nat.reduceLT, Nat.reduceLeDiff, Nat.reduceMod, Nat.reduceDiv, Nat.reduceAdd, Nat.reduceMul, Option.toList_some, Option.toList_none, List.cons_append, List.nil_append, List.append_nil, n10, n00, if_true, if_false, b0, b1, nI_add, true_and, and_true, and_self, decide_false, Bool.false_or]
theorem k_nq (hw : wf M) (iv : IV (ig M) (og M) r C t mp) {c : Nat} (hc : c < C) : Vc (d + 2) 41 [rf (some 1), rf (some (37 + 10 * c))] M Q = if ovr r false 4 (some c) = true then Q (some (.int (nI 1))) M else Q (some (.int (nI 0))) M := by
  show V (d + 2) 41 0 [some (rf (some 1)), some (rf (some (37 + 10 * c))), none] [] M Q = _
  have hC := iv.C4
  have := k_nq_l (d := d) (Q := Q) hw iv (l1 := some (rf (some (37 + 10 * c)))) 4 (some c) (fun c' h => by cases h; omega)
  rw [s_41_0, s_41_1]
  exact this
/-! rows by number -/
theorem k_cageAt_in (hw : wf M) (iv : IV (ig M) (og M) r C t mp) {c : Nat} (hc : c < C) : Vc d 32 [rf (some 1), .int (nI c)] M Q = Q (some (rf (some (37 + 10 * c)))) M := by
  show V d 32 0 [some (rf (some 1)), some (.int (nI c))] [] M Q = _
  have hC := iv.C4
  have h4 : c < 4 := by omega
  simp only [s_32_0, s_32_1, s_32_4, s_32_5, s_32_6, s_32_9, s_32_12, s_32_13, s_32_14, s_32_17, s_32_18, s_32_21, s_32_22, s_32_23, s_32_26, s_32_27, eq_self, Nat.reduceLT, Nat.reduceLeDiff, Nat.reduceMod, Nat.reduceDiv, Nat.reduceAdd, Nat.reduceMul, Option.toList_some, Option.toList_none, List.cons_append, List.nil_append, List.append_nil, n10, n00, if_true, if_false, b0, b1, nI_add, true_and, and_true, and_self, sh_1, sh_2, sh_3, sh_36, sh_77, sh_126, k_1_0, k_1_1, k_1_2, k_1_3, k_1_4, k_1_5, k_2_0, sh_node, sh_cage, sh_cmts, sh_mrow, sh_que, sh_qv, sh_task, sh_tpow, sh_thld, sh_filt, sh_fop, sh_ffs, sh_fsc, sh_walk, ka_nodes, ka_cages, ka_tasks, ka_filts, kf_node_0, kf_cage_0, kf_cage_9, kf_task_0, kf_task_6, kf_task_7, kf_filt_0, kf_filt_1, kf_filt_2, kf_que, kf_cage_11, kf_cage_12, gi_K, gi_node1, gr_node, gi_cage1, gr_cage1, gr_cmts, gi_task1, gr_task1, gi_tpow, gr_thld, gi_filt, gi_fop, gi_ffs, gi_fsc, gr_walk, gr_mrow, gi_que, gi_qv, hw, h4, iv.k_6, nIlt (show c < 2 ^ 31 by omega), nI_ge hc (by omega), nI_ge h4 (by decide)]
theorem le_sub1 {x : Int32} {C : Nat} (hC : C ≤ 4) (hx : ¬ (nI 0 ≤ x ∧ x ≤ nI C - nI 1)) : x < 0 ∨ nI C ≤ x := by
  by_cases h0 : C = 0
  · subst h0
    by_cases h1 : x < 0
    · exact Or.inl h1
    · exact Or.inr (by rw [Int32.le_iff_toInt_le]; rw [Int32.lt_iff_toInt_lt] at h1; exact Int.not_lt.mp h1)
  · rw [pk_sub (by omega)] at hx
    have := out_of (by omega) hx
    rwa [show C - 1 + 1 = C by omega] at this
theorem lt_sub1 {x : Int32} {C : Nat} (hC : C ≤ 4) (hx : nI 0 ≤ x ∧ x ≤ nI C - nI 1) : ∃ c, c < C ∧ x = nI c := by
  by_cases h0 : C = 0
  · subst h0
    exfalso
    have h1 := hx.1
    have h2 := hx.2
    rw [Int32.le_iff_toInt_le] at h1 h2
    have e1 : (nI 0).toInt = 0 := by decide
    have e2 : (nI 0 - nI 1).toInt = -1 := by decide
    omega
  · rw [pk_sub (by omega)] at hx
    obtain ⟨c, h1, h2⟩ := in_nI (by omega) hx
    exact ⟨c, by omega, h2⟩
theorem k_cageAt_out (hw : wf M) (iv : IV (ig M) (og M) r C t mp) {x : Int32} (hx : ¬ (nI 0 ≤ x ∧ x ≤ nI C - nI 1)) : Vc d 32 [rf (some 1), .int x] M Q = Q (some (rf none)) M := by
  show V d 32 0 [some (rf (some 1)), some (.int x)] [] M Q = _
  rcases le_sub1 iv.C4 hx with h | h
  · simp only [s_32_0, s_32_1, s_32_26, s_32_27, h, if_true]
  · simp only [s_32_0, s_32_1, s_32_4, s_32_5, s_32_6, s_32_9, s_32_26, s_32_27, h, if_true, ite_self, hw, sh_1, gi_K, iv.k_6]
theorem k_filterAt_in (hw : wf M) {f : Nat} (hf : f < 4) : Vc d 33 [rf (some 1), .int (nI f)] M Q = Q (some (rf (some (127 + 4 * f)))) M := by
  show V d 33 0 [some (rf (some 1)), some (.int (nI f))] [] M Q = _
  simp only [s_33_0, s_33_1, s_33_4, s_33_5, s_33_6, s_33_9, s_33_10, s_33_13, s_33_14, s_33_15, s_33_18, s_33_19, eq_self, Nat.reduceLT, Nat.reduceLeDiff, Nat.reduceMod, Nat.reduceDiv, Nat.reduceAdd, Nat.reduceMul, Option.toList_some, Option.toList_none, List.cons_append, List.nil_append, List.append_nil, n10, n00, if_true, if_false, b0, b1, nI_add, true_and, and_true, and_self, sh_1, sh_2, sh_3, sh_36, sh_77, sh_126, k_1_0, k_1_1, k_1_2, k_1_3, k_1_4, k_1_5, k_2_0, sh_node, sh_cage, sh_cmts, sh_mrow, sh_que, sh_qv, sh_task, sh_tpow, sh_thld, sh_filt, sh_fop, sh_ffs, sh_fsc, sh_walk, ka_nodes, ka_cages, ka_tasks, ka_filts, kf_node_0, kf_cage_0, kf_cage_9, kf_task_0, kf_task_6, kf_task_7, kf_filt_0, kf_filt_1, kf_filt_2, kf_que, kf_cage_11, kf_cage_12, gi_K, gi_node1, gr_node, gi_cage1, gr_cage1, gr_cmts, gi_task1, gr_task1, gi_tpow, gr_thld, gi_filt, gi_fop, gi_ffs, gi_fsc, gr_walk, gr_mrow, gi_que, gi_qv, hw, hf, nIlt (show f < 2 ^ 31 by omega), nI_ge hf (by decide)]
theorem k_filterAt_out (hw : wf M) {x : Int32} (hx : ¬ (nI 0 ≤ x ∧ x ≤ nI 3)) : Vc d 33 [rf (some 1), .int x] M Q = Q (some (rf none)) M := by
  show V d 33 0 [some (rf (some 1)), some (.int x)] [] M Q = _
  rcases out_of (by decide) hx with h | h
  · simp only [s_33_0, s_33_1, s_33_18, s_33_19, h, if_true]
  · simp only [s_33_0, s_33_1, s_33_4, s_33_5, s_33_6, s_33_18, s_33_19, h, if_true, ite_self]
theorem k_taskAt_in (hw : wf M) (iv : IV (ig M) (og M) r C t mp) {p : Nat} (hp : p < 16) : Vc d 34 [rf (some 1), .int (nI p)] M Q = if r 24 p = 0 then Q (some (rf none)) M else Q (some (rf (some (78 + 3 * p)))) M := by
  show V d 34 0 [some (rf (some 1)), some (.int (nI p))] [] M Q = _
  simp only [s_34_0, s_34_1, s_34_4, s_34_5, s_34_7, s_34_10, s_34_11, s_34_14, s_34_15, s_34_16, s_34_19, s_34_22, s_34_23, s_34_26, s_34_27, s_34_28, s_34_31, s_34_32, eq_self, Nat.reduceLT, Nat.reduceLeDiff, Nat.reduceMod, Nat.reduceDiv, Nat.reduceAdd, Nat.reduceMul, Option.toList_some, Option.toList_none, List.cons_append, List.nil_append, List.append_nil, n10, n00, if_true, if_false, b0, b1, nI_add, true_and, and_true, and_self, sh_1, sh_2, sh_3, sh_36, sh_77, sh_126, k_1_0, k_1_1, k_1_2, k_1_3, k_1_4, k_1_5, k_2_0, sh_node, sh_cage, sh_cmts, sh_mrow, sh_que, sh_qv, sh_task, sh_tpow, sh_thld, sh_filt, sh_fop, sh_ffs, sh_fsc, sh_walk, ka_nodes, ka_cages, ka_tasks, ka_filts, kf_node_0, kf_cage_0, kf_cage_9, kf_task_0, kf_task_6, kf_task_7, kf_filt_0, kf_filt_1, kf_filt_2, kf_que, kf_cage_11, kf_cage_12, gi_K, gi_node1, gr_node, gi_cage1, gr_cage1, gr_cmts, gi_task1, gr_task1, gi_tpow, gr_thld, gi_filt, gi_fop, gi_ffs, gi_fsc, gr_walk, gr_mrow, gi_que, gi_qv, iv.p_1, hw, hp, nIlt (show p < 2 ^ 31 by omega), nI_ge hp (by decide)]
theorem k_taskAt_out (hw : wf M) {x : Int32} (hx : ¬ (nI 0 ≤ x ∧ x ≤ nI 15)) : Vc d 34 [rf (some 1), .int x] M Q = Q (some (rf none)) M := by
  show V d 34 0 [some (rf (some 1)), some (.int x)] [] M Q = _
  rcases out_of (by decide) hx with h | h
  · simp only [s_34_0, s_34_1, s_34_31, s_34_32, h, if_true]
  · simp only [s_34_0, s_34_1, s_34_4, s_34_5, s_34_7, s_34_31, s_34_32, h, if_true, ite_self]
theorem k_liveTask_in (hw : wf M) (iv : IV (ig M) (og M) r C t mp) {p : Nat} (hp : p < 16) : Vc (d + 1) 35 [rf (some 1), .int (nI p)] M Q = if r 24 p = nI 1 then Q (some (rf (some (78 + 3 * p)))) M else Q (some (rf none)) M := by
  show V (d + 1) 35 0 [some (rf (some 1)), some (.int (nI p)), none] [] M Q = _
  simp only [s_35_0, s_35_1, s_35_2 hw sh_1, k_taskAt_in hw iv hp]
  by_cases h0 : r 24 p = 0
  · have h1 : ¬ r 24 p = nI 1 := by rw [h0]; decide
    simp only [s_35_0, s_35_1, s_35_2, s_35_5, s_35_6, s_35_7, s_35_10, s_35_11, s_35_14, s_35_15, s_35_18, s_35_19, s_35_22, s_35_23, eq_self, Nat.reduceLT, Nat.reduceLeDiff, Nat.reduceMod, Nat.reduceDiv, Nat.reduceAdd, Nat.reduceMul, Option.toList_some, Option.toList_none, List.cons_append, List.nil_append, List.append_nil, n10, n00, if_true, if_false, b0, b1, nI_add, true_and, and_true, and_self, h0, show ¬ (0 : Int32) = nI 1 by decide]
  · simp only [s_35_0, s_35_1, s_35_2, s_35_5, s_35_6, s_35_7, s_35_10, s_35_11, s_35_14, s_35_15, s_35_18, s_35_19, s_35_22, s_35_23, eq_self, Nat.reduceLT, Nat.reduceLeDiff, Nat.reduceMod, Nat.reduceDiv, Nat.reduceAdd, Nat.reduceMul, Option.toList_some, Option.toList_none, List.cons_append, List.nil_append, List.append_nil, n10, n00, if_true, if_false, b0, b1, nI_add, true_and, and_true, and_self, sh_1, sh_2, sh_3, sh_36, sh_77, sh_126, k_1_0, k_1_1, k_1_2, k_1_3, k_1_4, k_1_5, k_2_0, sh_node, sh_cage, sh_cmts, sh_mrow, sh_que, sh_qv, sh_task, sh_tpow, sh_thld, sh_filt, sh_fop, sh_ffs, sh_fsc, sh_walk, ka_nodes, ka_cages, ka_tasks, ka_filts, kf_node_0, kf_cage_0, kf_cage_9, kf_task_0, kf_task_6, kf_task_7, kf_filt_0, kf_filt_1, kf_filt_2, kf_que, kf_cage_11, kf_cage_12, gi_K, gi_node1, gr_node, gi_cage1, gr_cage1, gr_cmts, gi_task1, gr_task1, gi_tpow, gr_thld, gi_filt, gi_fop, gi_ffs, gi_fsc, gr_walk, gr_mrow, gi_que, gi_qv, iv.p_1, hw, hp, h0, so_no]
theorem k_liveTask_out (hw : wf M) {x : Int32} (hx : ¬ (nI 0 ≤ x ∧ x ≤ nI 15)) : Vc (d + 1) 35 [rf (some 1), .int x] M Q = Q (some (rf none)) M := by
  show V (d + 1) 35 0 [some (rf (some 1)), some (.int x), none] [] M Q = _
  simp only [s_35_0, s_35_1, s_35_2 hw sh_1, k_taskAt_out hw hx, s_35_0, s_35_1, s_35_2, s_35_5, s_35_6, s_35_7, s_35_10, s_35_11, s_35_14, s_35_15, s_35_18, s_35_19, s_35_22, s_35_23, eq_self, Nat.reduceLT, Nat.reduceLeDiff, Nat.reduceMod, Nat.reduceDiv, Nat.reduceAdd, Nat.reduceMul, Option.toList_some, Option.toList_none, List.cons_append, List.nil_append, List.append_nil, n10, n00, if_true, if_false, b0, b1, nI_add, true_and, and_true, and_self]
theorem k_firstFreeTask_l (hw : wf M) (iv : IV (ig M) (og M) r C t mp) : ∀ k n, n + k = 16 → V d 37 2 [some (rf (some 1)), some (.int (nI n))] [] M Q = Q (some (rf (tO (ffind (pFreeP r) n k)))) M := by
  intro k
  induction k with
  | zero =>
    intro n hn
    obtain rfl : n = 16 := by omega
    rw [s_37_2]
    simp only [s_37_0, s_37_1, s_37_3, s_37_5, s_37_8, s_37_9, s_37_12, s_37_13, s_37_14, s_37_17, s_37_20, s_37_21, s_37_24, s_37_25, s_37_26, s_37_27, s_37_30, s_37_33, s_37_34, eq_self, Nat.reduceLT, Nat.reduceLeDiff, Nat.reduceMod, Nat.reduceDiv, Nat.reduceAdd, Nat.reduceMul, Option.toList_some, Option.toList_none, List.cons_append, List.nil_append, List.append_nil, n10, n00, if_true, if_false, b0, b1, nI_add, true_and, and_true, and_self, show nI 16 ≤ nI 16 from Int32.le_refl _, ffind, tO]
  | succ k ih =>
    intro n hn
    have h16 : n < 16 := by omega
    rw [s_37_2]
    simp only [s_37_0, s_37_1, s_37_3, s_37_5, s_37_8, s_37_9, s_37_12, s_37_13, s_37_14, s_37_17, s_37_20, s_37_21, s_37_24, s_37_25, s_37_26, s_37_27, s_37_30, s_37_33, s_37_34, eq_self, Nat.reduceLT, Nat.reduceLeDiff, Nat.reduceMod, Nat.reduceDiv, Nat.reduceAdd, Nat.reduceMul, Option.toList_some, Option.toList_none, List.cons_append, List.nil_append, List.append_nil, n10, n00, if_true, if_false, b0, b1, nI_add, true_and, and_true, and_self, sh_1, sh_2, sh_3, sh_36, sh_77, sh_126, k_1_0, k_1_1, k_1_2, k_1_3, k_1_4, k_1_5, k_2_0, sh_node, sh_cage, sh_cmts, sh_mrow, sh_que, sh_qv, sh_task, sh_tpow, sh_thld, sh_filt, sh_fop, sh_ffs, sh_fsc, sh_walk, ka_nodes, ka_cages, ka_tasks, ka_filts, kf_node_0, kf_cage_0, kf_cage_9, kf_task_0, kf_task_6, kf_task_7, kf_filt_0, kf_filt_1, kf_filt_2, kf_que, kf_cage_11, kf_cage_12, gi_K, gi_node1, gr_node, gi_cage1, gr_cage1, gr_cmts, gi_task1, gr_task1, gi_tpow, gr_thld, gi_filt, gi_fop, gi_ffs, gi_fsc, gr_walk, gr_mrow, gi_que, gi_qv, iv.p_1, hw, h16, nI_ge h16 (by decide), ih (n + 1) (by omega), ffind]
    by_cases h1 : r 24 n = 0 <;> simp [pFreeP, h1, tO]
theorem k_firstFreeTask (hw : wf M) (iv : IV (ig M) (og M) r C t mp) : Vc d 37 [rf (some 1)] M Q = Q (some (rf (tO (ffind (pFreeP r) 0 16)))) M := by
  show V d 37 0 [some (rf (some 1)), none] [] M Q = _
  rw [s_37_0, s_37_1, k_firstFreeTask_l hw iv 16 0 rfl]
theorem k_tasksIn_l (hw : wf M) (iv : IV (ig M) (og M) r C t mp) {s : Int32} : ∀ k n c, n + k = 16 → V d 38 4 [some (rf (some 1)), some (.int s), some (.int (nI c)), some (.int (nI n))] [] M Q = Q (some (.int (nI (c + cnt (pSt r s) n k)))) M := by
  intro k
  induction k with
  | zero =>
    intro n c hn
    obtain rfl : n = 16 := by omega
    rw [s_38_4]
    simp only [s_38_0, s_38_1, s_38_2, s_38_3, s_38_5, s_38_7, s_38_10, s_38_11, s_38_14, s_38_15, s_38_16, s_38_19, s_38_20, s_38_23, s_38_26, s_38_29, s_38_32, s_38_33, eq_self, Nat.reduceLT, Nat.reduceLeDiff, Nat.reduceMod, Nat.reduceDiv, Nat.reduceAdd, Nat.reduceMul, Option.toList_some, Option.toList_none, List.cons_append, List.nil_append, List.append_nil, n10, n00, if_true, if_false, b0, b1, nI_add, true_and, and_true, and_self, show nI 16 ≤ nI 16 from Int32.le_refl _, cnt, Nat.add_zero]
  | succ k ih =>
    intro n c hn
    have h16 : n < 16 := by omega
    rw [s_38_4]
    simp only [s_38_0, s_38_1, s_38_2, s_38_3, s_38_5, s_38_7, s_38_10, s_38_11, s_38_14, s_38_15, s_38_16, s_38_19, s_38_20, s_38_23, s_38_26, s_38_29, s_38_32, s_38_33, eq_self, Nat.reduceLT, Nat.reduceLeDiff, Nat.reduceMod, Nat.reduceDiv, Nat.reduceAdd, Nat.reduceMul, Option.toList_some, Option.toList_none, List.cons_append, List.nil_append, List.append_nil, n10, n00, if_true, if_false, b0, b1, nI_add, true_and, and_true, and_self, sh_1, sh_2, sh_3, sh_36, sh_77, sh_126, k_1_0, k_1_1, k_1_2, k_1_3, k_1_4, k_1_5, k_2_0, sh_node, sh_cage, sh_cmts, sh_mrow, sh_que, sh_qv, sh_task, sh_tpow, sh_thld, sh_filt, sh_fop, sh_ffs, sh_fsc, sh_walk, ka_nodes, ka_cages, ka_tasks, ka_filts, kf_node_0, kf_cage_0, kf_cage_9, kf_task_0, kf_task_6, kf_task_7, kf_filt_0, kf_filt_1, kf_filt_2, kf_que, kf_cage_11, kf_cage_12, gi_K, gi_node1, gr_node, gi_cage1, gr_cage1, gr_cmts, gi_task1, gr_task1, gi_tpow, gr_thld, gi_filt, gi_fop, gi_ffs, gi_fsc, gr_walk, gr_mrow, gi_que, gi_qv, iv.p_1, hw, h16, nI_ge h16 (by decide), ih (n + 1) _ (by omega), cnt]
    by_cases h1 : r 24 n = s <;> simp [pSt, h1, Nat.add_assoc]
theorem k_tasksIn (hw : wf M) (iv : IV (ig M) (og M) r C t mp) {s : Int32} : Vc d 38 [rf (some 1), .int s] M Q = Q (some (.int (nI (cnt (pSt r s) 0 16)))) M := by
  show V d 38 0 [some (rf (some 1)), some (.int s), none, none] [] M Q = _
  rw [s_38_0, s_38_1, s_38_2, s_38_3, k_tasksIn_l hw iv 16 0 0 rfl, Nat.zero_add]
end
