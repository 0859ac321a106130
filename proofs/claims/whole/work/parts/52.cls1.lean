/-! THE CLASS, method by method: the same answers, by the reference's arrays -/
theorem gi_node1 {M : mH} {i k : Nat} (hi : i < 32) (hk : 0 < k) : gi M (4 + i) k = ig M 1 i k := gi_node hi
theorem gi_cage1 {M : mH} {i k : Nat} (hi : i < 4) (hk : 0 < k) : gi M (37 + 10 * i) k = ig M 2 i k := gi_cage hi
theorem gr_cage1 {M : mH} {i k : Nat} (hi : i < 4) (hk : k < 9) : gr M (37 + 10 * i) k = og M 2 i k := gr_cage hi
theorem gi_task1 {M : mH} {i k : Nat} (hi : i < 16) (hk : 0 < k) : gi M (78 + 3 * i) k = ig M 9 i k := gi_task hi
theorem gr_task1 {M : mH} {i k : Nat} (hi : i < 16) (hk : k < 6) : gr M (78 + 3 * i) k = og M 9 i k := gr_task hi
def nO (o : Option Nat) : Option Nat := match o with
  | some n => some (4 + n)
  | none => none
def cO (o : Option Nat) : Option Nat := match o with
  | some n => some (37 + 10 * n)
  | none => none
def tO (o : Option Nat) : Option Nat := match o with
  | some n => some (78 + 3 * n)
  | none => none
theorem nI_back {x : Int32} (h : ¬ x < 0) : x = nI x.toNatClampNeg := by
  apply Int32.toInt_inj.mp
  have h1 : ¬ x.toInt < 0 := by rw [Int32.lt_iff_toInt_lt] at h; exact h
  have h2 : x.toNatClampNeg < 2 ^ 31 := by
    have := x.toInt_lt
    show x.toInt.toNat < 2 ^ 31
    omega
  rw [nI_toInt h2]
  show x.toInt = ((x.toInt.toNat : Nat) : Int)
  omega
theorem ndO_iff {x : Int32} {a : Nat} (ha : a < 2 ^ 31) : (ndO x = some (4 + a)) = (x = nI a) := by
  refine propext ⟨fun h => ?_, fun h => by rw [h]; exact ndO_n ha⟩
  unfold ndO at h
  by_cases h0 : x < 0
  · rw [if_pos h0] at h; cases h
  · rw [if_neg h0] at h
    rw [nI_back h0]
    congr 1
    have := Option.some.inj h
    omega
theorem cgO_iff {x : Int32} {a : Nat} (ha : a < 2 ^ 31) : (cgO x = some (37 + 10 * a)) = (x = nI a) := by
  refine propext ⟨fun h => ?_, fun h => by rw [h]; exact cgO_n ha⟩
  unfold cgO at h
  by_cases h0 : x < 0
  · rw [if_pos h0] at h; cases h
  · rw [if_neg h0] at h
    rw [nI_back h0]
    congr 1
    have := Option.some.inj h
    omega
theorem tkO_iff {x : Int32} {a : Nat} (ha : a < 2 ^ 31) : (tkO x = some (78 + 3 * a)) = (x = nI a) := by
  refine propext ⟨fun h => ?_, fun h => by rw [h]; exact tkO_n ha⟩
  unfold tkO at h
  by_cases h0 : x < 0
  · rw [if_pos h0] at h; cases h
  · rw [if_neg h0] at h
    rw [nI_back h0]
    congr 1
    have := Option.some.inj h
    omega
theorem out_of {x : Int32} {m : Nat} (hm : m + 1 < 2 ^ 31) (h : ¬ (nI 0 ≤ x ∧ x ≤ nI m)) : x < 0 ∨ nI (m + 1) ≤ x := by
  by_cases h0 : x < 0
  · exact Or.inl h0
  · refine Or.inr ?_
    rw [Int32.le_iff_toInt_le, nI_toInt hm]
    have h1 : ¬ x.toInt < 0 := by rw [Int32.lt_iff_toInt_lt] at h0; exact h0
    by_cases h2 : x ≤ nI m
    · exact absurd ⟨by rw [Int32.le_iff_toInt_le, nI_toInt (by decide)]; omega, h2⟩ h
    · rw [Int32.le_iff_toInt_le, nI_toInt (by omega)] at h2
      omega
theorem in_nI' {n m : Nat} (h : n ≤ m) (hm : m < 2 ^ 31) : nI 0 ≤ nI n ∧ nI n ≤ nI m := ⟨nI_le (Nat.zero_le _) (by omega), nI_le h hm⟩
section
variable {d : Nat} {M : mH} {Q : Option Value → mH → Prop} {C t : Nat} {mp : MP} {r : RS}
theorem k_at_in (hw : wf M) (iv : IV (ig M) (og M) r C t mp) {n : Nat} (hn : n < 32) : Vc d 133 [rf (some 2), .int (nI n)] M Q = if r 1 n = 0 then Q (some (rf none)) M else Q (some (rf (some (4 + n)))) M := by
  show V d 133 0 [some (rf (some 2)), some (.int (nI n))] [] M Q = _
  simp only [s_133_0, s_133_1, s_133_4, s_133_5, s_133_7, s_133_10, s_133_11, s_133_14, s_133_15, s_133_16, s_133_19, s_133_22, s_133_23, s_133_26, s_133_27, s_133_28, s_133_31, s_133_32, eq_self, Nat.reduceLT, Nat.reduceLeDiff, Nat.reduceMod, Nat.reduceDiv, Nat.reduceAdd, Nat.reduceMul, Option.toList_some, Option.toList_none, List.cons_append, List.nil_append, List.append_nil, n10, n00, if_true, if_false, b0, b1, nI_add, true_and, and_true, and_self, sh_1, sh_2, sh_3, sh_36, sh_77, sh_126, k_1_0, k_1_1, k_1_2, k_1_3, k_1_4, k_1_5, k_2_0, sh_node, sh_cage, sh_cmts, sh_mrow, sh_que, sh_qv, sh_task, sh_tpow, sh_thld, sh_filt, sh_fop, sh_ffs, sh_fsc, sh_walk, ka_nodes, ka_cages, ka_tasks, ka_filts, kf_node_0, kf_cage_0, kf_cage_9, kf_task_0, kf_task_6, kf_task_7, kf_filt_0, kf_filt_1, kf_filt_2, kf_que, kf_cage_11, kf_cage_12, gi_K, gi_node1, gr_node, gi_cage1, gr_cage1, gr_cmts, gi_task1, gr_task1, gi_tpow, gr_thld, gi_filt, gi_fop, gi_ffs, gi_fsc, gr_walk, gr_mrow, gi_que, gi_qv, iv.n_1, iv.n_2, iv.n_3, iv.n_4, iv.n_5, iv.k_6, iv.k_7, iv.k_8, iv.c_1, iv.c_2, iv.c_3, iv.c_4, iv.c_5, iv.c_6, iv.c_8, iv.c_10, iv.p_1, iv.p_2, iv.p_3, iv.p_4, iv.p_5, iv.p_8, iv.p_9, iv.w_k, iv.f_3, iv.f_o, iv.f_a, iv.f_b, hw, hn, nIlt (show n < 2 ^ 31 by omega), nI_ge hn (by decide)]
theorem k_at_out (hw : wf M) {x : Int32} (hx : ¬ (nI 0 ≤ x ∧ x ≤ nI 31)) : Vc d 133 [rf (some 2), .int x] M Q = Q (some (rf none)) M := by
  show V d 133 0 [some (rf (some 2)), some (.int x)] [] M Q = _
  rcases out_of (by decide) hx with h | h
  · simp only [s_133_0, s_133_1, s_133_4, s_133_5, s_133_7, s_133_10, s_133_11, s_133_14, s_133_15, s_133_16, s_133_19, s_133_22, s_133_23, s_133_26, s_133_27, s_133_28, s_133_31, s_133_32, eq_self, Nat.reduceLT, Nat.reduceLeDiff, Nat.reduceMod, Nat.reduceDiv, Nat.reduceAdd, Nat.reduceMul, Option.toList_some, Option.toList_none, List.cons_append, List.nil_append, List.append_nil, n10, n00, if_true, if_false, b0, b1, nI_add, true_and, and_true, and_self, h]
  · simp only [s_133_0, s_133_1, s_133_4, s_133_5, s_133_7, s_133_31, s_133_32, h, if_true, ite_self]
def pFr (r : RS) (n : Nat) : Bool := decide (r 1 n = 0)
theorem k_firstFree_l (hw : wf M) (iv : IV (ig M) (og M) r C t mp) : ∀ k n, n + k = 32 → V d 134 2 [some (rf (some 2)), some (.int (nI n))] [] M Q = Q (some (rf (nO (ffind (pFr r) n k)))) M := by
  intro k
  induction k with
  | zero =>
    intro n hn
    obtain rfl : n = 32 := by omega
    rw [s_134_2]
    simp only [s_134_0, s_134_1, s_134_3, s_134_5, s_134_8, s_134_9, s_134_12, s_134_13, s_134_14, s_134_17, s_134_20, s_134_21, s_134_24, s_134_25, s_134_26, s_134_27, s_134_30, s_134_33, s_134_34, eq_self, Nat.reduceLT, Nat.reduceLeDiff, Nat.reduceMod, Nat.reduceDiv, Nat.reduceAdd, Nat.reduceMul, Option.toList_some, Option.toList_none, List.cons_append, List.nil_append, List.append_nil, n10, n00, if_true, if_false, b0, b1, nI_add, true_and, and_true, and_self, show nI 32 ≤ nI 32 from Int32.le_refl _, ffind, nO]
  | succ k ih =>
    intro n hn
    have h32 : n < 32 := by omega
    rw [s_134_2]
    simp only [s_134_0, s_134_1, s_134_3, s_134_5, s_134_8, s_134_9, s_134_12, s_134_13, s_134_14, s_134_17, s_134_20, s_134_21, s_134_24, s_134_25, s_134_26, s_134_27, s_134_30, s_134_33, s_134_34, eq_self, Nat.reduceLT, Nat.reduceLeDiff, Nat.reduceMod, Nat.reduceDiv, Nat.reduceAdd, Nat.reduceMul, Option.toList_some, Option.toList_none, List.cons_append, List.nil_append, List.append_nil, n10, n00, if_true, if_false, b0, b1, nI_add, true_and, and_true, and_self, sh_1, sh_2, sh_3, sh_36, sh_77, sh_126, k_1_0, k_1_1, k_1_2, k_1_3, k_1_4, k_1_5, k_2_0, sh_node, sh_cage, sh_cmts, sh_mrow, sh_que, sh_qv, sh_task, sh_tpow, sh_thld, sh_filt, sh_fop, sh_ffs, sh_fsc, sh_walk, ka_nodes, ka_cages, ka_tasks, ka_filts, kf_node_0, kf_cage_0, kf_cage_9, kf_task_0, kf_task_6, kf_task_7, kf_filt_0, kf_filt_1, kf_filt_2, kf_que, kf_cage_11, kf_cage_12, gi_K, gi_node1, gr_node, gi_cage1, gr_cage1, gr_cmts, gi_task1, gr_task1, gi_tpow, gr_thld, gi_filt, gi_fop, gi_ffs, gi_fsc, gr_walk, gr_mrow, gi_que, gi_qv, iv.n_1, iv.n_2, iv.n_3, iv.n_4, iv.n_5, iv.k_6, iv.k_7, iv.k_8, iv.c_1, iv.c_2, iv.c_3, iv.c_4, iv.c_5, iv.c_6, iv.c_8, iv.c_10, iv.p_1, iv.p_2, iv.p_3, iv.p_4, iv.p_5, iv.p_8, iv.p_9, iv.w_k, iv.f_3, iv.f_o, iv.f_a, iv.f_b, hw, h32, nI_ge h32 (by decide), ih (n + 1) (by omega), ffind]
    by_cases h1 : r 1 n = 0 <;> simp [pFr, h1, nO]
theorem k_firstFree (hw : wf M) (iv : IV (ig M) (og M) r C t mp) : Vc d 134 [rf (some 2)] M Q = Q (some (rf (nO (ffind (pFr r) 1 31)))) M := by
  show V d 134 0 [some (rf (some 2)), none] [] M Q = _
  rw [s_134_0, s_134_1, k_firstFree_l hw iv 32 0 rfl]
  have : pFr r 0 = false := decide_eq_false iv.n3.1
  simp only [ffind, this, cond_false]
theorem IV.n_6 {I : CI} {O : CO} {r : RS} (h : IV I O r C t mp) {n : Nat} (hn : n < 32) (hr : ¬ r 1 n = 0) : O 1 n 6 = ndO (r 2 n) := (h.n2 n hn hr).1
theorem IV.n_7 {I : CI} {O : CO} {r : RS} (h : IV I O r C t mp) {n : Nat} (hn : n < 32) (hr : ¬ r 1 n = 0) : O 1 n 7 = cgO (r 7 n) := (h.n2 n hn hr).2.1
theorem k_childOf_l (hw : wf M) (iv : IV (ig M) (og M) r C t mp) {a : Nat} (ha : a < 2 ^ 31) {nm : Int32} : ∀ k n, n + k = 32 → V d 135 2 [some (rf (some 2)), some (rf (some (4 + a))), some (.int nm), some (.int (nI n))] [] M Q = Q (some (rf (nO (ffind (pFind r (nI a) nm) n k)))) M := by
  intro k
  induction k with
  | zero =>
    intro n hn
    obtain rfl : n = 32 := by omega
    rw [s_135_2]
    simp only [s_135_0, s_135_1, s_135_3, s_135_5, s_135_8, s_135_9, s_135_12, s_135_13, s_135_14, s_135_17, s_135_20, s_135_21, s_135_24, s_135_25, s_135_26, s_135_29, s_135_30, s_135_33, s_135_34, s_135_37, s_135_38, s_135_39, s_135_42, s_135_43, s_135_46, s_135_47, s_135_50, s_135_51, s_135_52, s_135_53, s_135_56, s_135_59, s_135_60, eq_self, Nat.reduceLT, Nat.reduceLeDiff, Nat.reduceMod, Nat.reduceDiv, Nat.reduceAdd, Nat.reduceMul, Option.toList_some, Option.toList_none, List.cons_append, List.nil_append, List.append_nil, n10, n00, if_true, if_false, b0, b1, nI_add, true_and, and_true, and_self, show nI 32 ≤ nI 32 from Int32.le_refl _, ffind, nO]
  | succ k ih =>
    intro n hn
    have h32 : n < 32 := by omega
    rw [s_135_2]
    by_cases h1 : r 1 n = 0
    · simp only [s_135_0, s_135_1, s_135_3, s_135_5, s_135_8, s_135_9, s_135_12, s_135_13, s_135_14, s_135_17, s_135_20, s_135_21, s_135_24, s_135_25, s_135_26, s_135_29, s_135_30, s_135_33, s_135_34, s_135_37, s_135_38, s_135_39, s_135_42, s_135_43, s_135_46, s_135_47, s_135_50, s_135_51, s_135_52, s_135_53, s_135_56, s_135_59, s_135_60, eq_self, Nat.reduceLT, Nat.reduceLeDiff, Nat.reduceMod, Nat.reduceDiv, Nat.reduceAdd, Nat.reduceMul, Option.toList_some, Option.toList_none, List.cons_append, List.nil_append, List.append_nil, n10, n00, if_true, if_false, b0, b1, nI_add, true_and, and_true, and_self, sh_1, sh_2, sh_3, sh_36, sh_77, sh_126, k_1_0, k_1_1, k_1_2, k_1_3, k_1_4, k_1_5, k_2_0, sh_node, sh_cage, sh_cmts, sh_mrow, sh_que, sh_qv, sh_task, sh_tpow, sh_thld, sh_filt, sh_fop, sh_ffs, sh_fsc, sh_walk, ka_nodes, ka_cages, ka_tasks, ka_filts, kf_node_0, kf_cage_0, kf_cage_9, kf_task_0, kf_task_6, kf_task_7, kf_filt_0, kf_filt_1, kf_filt_2, kf_que, kf_cage_11, kf_cage_12, gi_K, gi_node1, gr_node, gi_cage1, gr_cage1, gr_cmts, gi_task1, gr_task1, gi_tpow, gr_thld, gi_filt, gi_fop, gi_ffs, gi_fsc, gr_walk, gr_mrow, gi_que, gi_qv, iv.n_1, iv.n_2, iv.n_3, iv.n_4, iv.n_5, iv.k_6, iv.k_7, iv.k_8, iv.c_1, iv.c_2, iv.c_3, iv.c_4, iv.c_5, iv.c_6, iv.c_8, iv.c_10, iv.p_1, iv.p_2, iv.p_3, iv.p_4, iv.p_5, iv.p_8, iv.p_9, iv.w_k, iv.f_3, iv.f_o, iv.f_a, iv.f_b, hw, h32, nI_ge h32 (by decide), ih (n + 1) (by omega), ffind, h1]
      simp [pFind, h1]
    · simp only [s_135_0, s_135_1, s_135_3, s_135_5, s_135_8, s_135_9, s_135_12, s_135_13, s_135_14, s_135_17, s_135_20, s_135_21, s_135_24, s_135_25, s_135_26, s_135_29, s_135_30, s_135_33, s_135_34, s_135_37, s_135_38, s_135_39, s_135_42, s_135_43, s_135_46, s_135_47, s_135_50, s_135_51, s_135_52, s_135_53, s_135_56, s_135_59, s_135_60, eq_self, Nat.reduceLT, Nat.reduceLeDiff, Nat.reduceMod, Nat.reduceDiv, Nat.reduceAdd, Nat.reduceMul, Option.toList_some, Option.toList_none, List.cons_append, List.nil_append, List.append_nil, n10, n00, if_true, if_false, b0, b1, nI_add, true_and, and_true, and_self, sh_1, sh_2, sh_3, sh_36, sh_77, sh_126, k_1_0, k_1_1, k_1_2, k_1_3, k_1_4, k_1_5, k_2_0, sh_node, sh_cage, sh_cmts, sh_mrow, sh_que, sh_qv, sh_task, sh_tpow, sh_thld, sh_filt, sh_fop, sh_ffs, sh_fsc, sh_walk, ka_nodes, ka_cages, ka_tasks, ka_filts, kf_node_0, kf_cage_0, kf_cage_9, kf_task_0, kf_task_6, kf_task_7, kf_filt_0, kf_filt_1, kf_filt_2, kf_que, kf_cage_11, kf_cage_12, gi_K, gi_node1, gr_node, gi_cage1, gr_cage1, gr_cmts, gi_task1, gr_task1, gi_tpow, gr_thld, gi_filt, gi_fop, gi_ffs, gi_fsc, gr_walk, gr_mrow, gi_que, gi_qv, iv.n_1, iv.n_2, iv.n_3, iv.n_4, iv.n_5, iv.k_6, iv.k_7, iv.k_8, iv.c_1, iv.c_2, iv.c_3, iv.c_4, iv.c_5, iv.c_6, iv.c_8, iv.c_10, iv.p_1, iv.p_2, iv.p_3, iv.p_4, iv.p_5, iv.p_8, iv.p_9, iv.w_k, iv.f_3, iv.f_o, iv.f_a, iv.f_b, hw, h32, nI_ge h32 (by decide), ih (n + 1) (by omega), ffind, h1, iv.n_6 h32 h1, ndO_iff ha]
      by_cases h2 : r 2 n = nI a <;> by_cases h3 : r 3 n = nm <;> simp [pFind, h1, h2, h3, nO]
theorem m1ne {a : Nat} (ha : a < 2 ^ 31) : ¬ (-1 : Int32) = nI a := fun h => by have := nI_pos ha; rw [← h] at this; exact this (by decide)
theorem k_childOf (hw : wf M) (iv : IV (ig M) (og M) r C t mp) {a : Nat} (ha : a < 2 ^ 31) {nm : Int32} : Vc d 135 [rf (some 2), rf (some (4 + a)), .int nm] M Q = Q (some (rf (nO (ffind (pFind r (nI a) nm) 1 31)))) M := by
  show V d 135 0 [some (rf (some 2)), some (rf (some (4 + a))), some (.int nm), none] [] M Q = _
  rw [s_135_0, s_135_1, k_childOf_l hw iv ha 32 0 rfl]
  have : pFind r (nI a) nm 0 = false := decide_eq_false (fun z => m1ne ha (iv.n3.2.1.symm.trans z.2.1))
  conv => lhs; rw [ffind, this, cond_false]
theorem k_sizeOf_l (hw : wf M) (iv : IV (ig M) (og M) r C t mp) {a : Nat} (ha : a < 2 ^ 31) : ∀ k n c, n + k = 32 → V d 136 4 [some (rf (some 2)), some (rf (some (4 + a))), some (.int (nI c)), some (.int (nI n))] [] M Q = Q (some (.int (nI (c + cnt (pEnt r (nI a)) n k)))) M := by
  intro k
  induction k with
  | zero =>
    intro n c hn
    obtain rfl : n = 32 := by omega
    rw [s_136_4]
    simp only [s_136_0, s_136_1, s_136_2, s_136_3, s_136_5, s_136_7, s_136_10, s_136_11, s_136_14, s_136_15, s_136_16, s_136_19, s_136_22, s_136_23, s_136_26, s_136_27, s_136_28, s_136_31, s_136_32, s_136_35, s_136_38, s_136_41, s_136_44, s_136_45, eq_self, Nat.reduceLT, Nat.reduceLeDiff, Nat.reduceMod, Nat.reduceDiv, Nat.reduceAdd, Nat.reduceMul, Option.toList_some, Option.toList_none, List.cons_append, List.nil_append, List.append_nil, n10, n00, if_true, if_false, b0, b1, nI_add, true_and, and_true, and_self, show nI 32 ≤ nI 32 from Int32.le_refl _, cnt, Nat.add_zero]
  | succ k ih =>
    intro n c hn
    have h32 : n < 32 := by omega
    rw [s_136_4]
    by_cases h1 : r 1 n = 0
    · simp only [s_136_0, s_136_1, s_136_2, s_136_3, s_136_5, s_136_7, s_136_10, s_136_11, s_136_14, s_136_15, s_136_16, s_136_19, s_136_22, s_136_23, s_136_26, s_136_27, s_136_28, s_136_31, s_136_32, s_136_35, s_136_38, s_136_41, s_136_44, s_136_45, eq_self, Nat.reduceLT, Nat.reduceLeDiff, Nat.reduceMod, Nat.reduceDiv, Nat.reduceAdd, Nat.reduceMul, Option.toList_some, Option.toList_none, List.cons_append, List.nil_append, List.append_nil, n10, n00, if_true, if_false, b0, b1, nI_add, true_and, and_true, and_self, sh_1, sh_2, sh_3, sh_36, sh_77, sh_126, k_1_0, k_1_1, k_1_2, k_1_3, k_1_4, k_1_5, k_2_0, sh_node, sh_cage, sh_cmts, sh_mrow, sh_que, sh_qv, sh_task, sh_tpow, sh_thld, sh_filt, sh_fop, sh_ffs, sh_fsc, sh_walk, ka_nodes, ka_cages, ka_tasks, ka_filts, kf_node_0, kf_cage_0, kf_cage_9, kf_task_0, kf_task_6, kf_task_7, kf_filt_0, kf_filt_1, kf_filt_2, kf_que, kf_cage_11, kf_cage_12, gi_K, gi_node1, gr_node, gi_cage1, gr_cage1, gr_cmts, gi_task1, gr_task1, gi_tpow, gr_thld, gi_filt, gi_fop, gi_ffs, gi_fsc, gr_walk, gr_mrow, gi_que, gi_qv, iv.n_1, iv.n_2, iv.n_3, iv.n_4, iv.n_5, iv.k_6, iv.k_7, iv.k_8, iv.c_1, iv.c_2, iv.c_3, iv.c_4, iv.c_5, iv.c_6, iv.c_8, iv.c_10, iv.p_1, iv.p_2, iv.p_3, iv.p_4, iv.p_5, iv.p_8, iv.p_9, iv.w_k, iv.f_3, iv.f_o, iv.f_a, iv.f_b, hw, h32, nI_ge h32 (by decide), ih (n + 1) _ (by omega), cnt, h1]
      simp [pEnt, h1]
    · simp only [s_136_0, s_136_1, s_136_2, s_136_3, s_136_5, s_136_7, s_136_10, s_136_11, s_136_14, s_136_15, s_136_16, s_136_19, s_136_22, s_136_23, s_136_26, s_136_27, s_136_28, s_136_31, s_136_32, s_136_35, s_136_38, s_136_41, s_136_44, s_136_45, eq_self, Nat.reduceLT, Nat.reduceLeDiff, Nat.reduceMod, Nat.reduceDiv, Nat.reduceAdd, Nat.reduceMul, Option.toList_some, Option.toList_none, List.cons_append, List.nil_append, List.append_nil, n10, n00, if_true, if_false, b0, b1, nI_add, true_and, and_true, and_self, sh_1, sh_2, sh_3, sh_36, sh_77, sh_126, k_1_0, k_1_1, k_1_2, k_1_3, k_1_4, k_1_5, k_2_0, sh_node, sh_cage, sh_cmts, sh_mrow, sh_que, sh_qv, sh_task, sh_tpow, sh_thld, sh_filt, sh_fop, sh_ffs, sh_fsc, sh_walk, ka_nodes, ka_cages, ka_tasks, ka_filts, kf_node_0, kf_cage_0, kf_cage_9, kf_task_0, kf_task_6, kf_task_7, kf_filt_0, kf_filt_1, kf_filt_2, kf_que, kf_cage_11, kf_cage_12, gi_K, gi_node1, gr_node, gi_cage1, gr_cage1, gr_cmts, gi_task1, gr_task1, gi_tpow, gr_thld, gi_filt, gi_fop, gi_ffs, gi_fsc, gr_walk, gr_mrow, gi_que, gi_qv, iv.n_1, iv.n_2, iv.n_3, iv.n_4, iv.n_5, iv.k_6, iv.k_7, iv.k_8, iv.c_1, iv.c_2, iv.c_3, iv.c_4, iv.c_5, iv.c_6, iv.c_8, iv.c_10, iv.p_1, iv.p_2, iv.p_3, iv.p_4, iv.p_5, iv.p_8, iv.p_9, iv.w_k, iv.f_3, iv.f_o, iv.f_a, iv.f_b, hw, h32, nI_ge h32 (by decide), ih (n + 1) _ (by omega), cnt, h1, iv.n_6 h32 h1, ndO_iff ha]
      by_cases h2 : r 2 n = nI a <;> simp [pEnt, h1, h2, Nat.add_assoc]
theorem k_sizeOf (hw : wf M) (iv : IV (ig M) (og M) r C t mp) {a : Nat} (ha : a < 2 ^ 31) : Vc d 136 [rf (some 2), rf (some (4 + a))] M Q = Q (some (.int (nI (cnt (pEnt r (nI a)) 1 31)))) M := by
  show V d 136 0 [some (rf (some 2)), some (rf (some (4 + a))), none, none] [] M Q = _
  rw [s_136_0, s_136_1, s_136_2, s_136_3, k_sizeOf_l hw iv ha 32 0 0 rfl]
  have : pEnt r (nI a) 0 = false := decide_eq_false (fun z => m1ne ha (iv.n3.2.1.symm.trans z.2))
  conv => lhs; rw [cnt, this, cond_false, Nat.zero_add, Nat.zero_add]
theorem k_total_l (hw : wf M) (iv : IV (ig M) (og M) r C t mp) : ∀ k n c, n + k = 32 → V d 138 4 [some (rf (some 2)), some (.int (nI c)), some (.int (nI n))] [] M Q = Q (some (.int (nI (c + cnt (pIsN r) n k)))) M := by
  intro k
  induction k with
  | zero =>
    intro n c hn
    obtain rfl : n = 32 := by omega
    rw [s_138_4]
    simp only [s_138_0, s_138_1, s_138_2, s_138_3, s_138_5, s_138_7, s_138_10, s_138_11, s_138_14, s_138_15, s_138_16, s_138_19, s_138_22, s_138_25, s_138_28, s_138_31, s_138_32, eq_self, Nat.reduceLT, Nat.reduceLeDiff, Nat.reduceMod, Nat.reduceDiv, Nat.reduceAdd, Nat.reduceMul, Option.toList_some, Option.toList_none, List.cons_append, List.nil_append, List.append_nil, n10, n00, if_true, if_false, b0, b1, nI_add, true_and, and_true, and_self, show nI 32 ≤ nI 32 from Int32.le_refl _, cnt, Nat.add_zero]
  | succ k ih =>
    intro n c hn
    have h32 : n < 32 := by omega
    rw [s_138_4]
    simp only [s_138_0, s_138_1, s_138_2, s_138_3, s_138_5, s_138_7, s_138_10, s_138_11, s_138_14, s_138_15, s_138_16, s_138_19, s_138_22, s_138_25, s_138_28, s_138_31, s_138_32, eq_self, Nat.reduceLT, Nat.reduceLeDiff, Nat.reduceMod, Nat.reduceDiv, Nat.reduceAdd, Nat.reduceMul, Option.toList_some, Option.toList_none, List.cons_append, List.nil_append, List.append_nil, n10, n00, if_true, if_false, b0, b1, nI_add, true_and, and_true, and_self, sh_1, sh_2, sh_3, sh_36, sh_77, sh_126, k_1_0, k_1_1, k_1_2, k_1_3, k_1_4, k_1_5, k_2_0, sh_node, sh_cage, sh_cmts, sh_mrow, sh_que, sh_qv, sh_task, sh_tpow, sh_thld, sh_filt, sh_fop, sh_ffs, sh_fsc, sh_walk, ka_nodes, ka_cages, ka_tasks, ka_filts, kf_node_0, kf_cage_0, kf_cage_9, kf_task_0, kf_task_6, kf_task_7, kf_filt_0, kf_filt_1, kf_filt_2, kf_que, kf_cage_11, kf_cage_12, gi_K, gi_node1, gr_node, gi_cage1, gr_cage1, gr_cmts, gi_task1, gr_task1, gi_tpow, gr_thld, gi_filt, gi_fop, gi_ffs, gi_fsc, gr_walk, gr_mrow, gi_que, gi_qv, iv.n_1, iv.n_2, iv.n_3, iv.n_4, iv.n_5, iv.k_6, iv.k_7, iv.k_8, iv.c_1, iv.c_2, iv.c_3, iv.c_4, iv.c_5, iv.c_6, iv.c_8, iv.c_10, iv.p_1, iv.p_2, iv.p_3, iv.p_4, iv.p_5, iv.p_8, iv.p_9, iv.w_k, iv.f_3, iv.f_o, iv.f_a, iv.f_b, hw, h32, nI_ge h32 (by decide), ih (n + 1) _ (by omega), cnt]
    by_cases h1 : r 1 n = 0 <;> simp [pIsN, h1, Nat.add_assoc]
theorem k_total (hw : wf M) (iv : IV (ig M) (og M) r C t mp) : Vc d 138 [rf (some 2)] M Q = Q (some (.int (nI (cnt (pIsN r) 0 32)))) M := by
  show V d 138 0 [some (rf (some 2)), none, none] [] M Q = _
  rw [s_138_0, s_138_1, s_138_2, s_138_3, k_total_l hw iv 32 0 0 rfl, Nat.zero_add]
end
