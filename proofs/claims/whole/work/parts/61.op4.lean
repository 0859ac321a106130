section
variable {d : Nat} {M : mH} {Q : Option Value → mH → Prop} {C t : Nat} {mp : MP} {I : CI} {O : CO} {r : RS}
/-! the ending, all rows at once -/
theorem repar_eq {pi one : Int32} : ∀ k j r, repar pi one k j r = fun a i => if a = 28 ∧ (j ≤ i ∧ i < j + k) ∧ ¬ r 24 i = 0 ∧ r 28 i = pi then one else r a i := by
  intro k
  induction k with
  | zero => intro j r; funext a i; rw [if_neg (fun z => by have := z.2.1; omega)]; rfl
  | succ k ih =>
    intro j r
    show repar pi one k (j + 1) (if ¬ r 24 j = 0 ∧ r 28 j = pi then ru r 28 j one else r) = _
    rw [ih]
    funext a i
    by_cases hi : i = j
    · subst hi
      rw [if_neg (fun z => by have := z.2.1; omega)]
      by_cases hc : ¬ r 24 i = 0 ∧ r 28 i = pi
      · rw [if_pos hc]
        by_cases ha : a = 28
        · rw [if_pos ⟨ha, by omega, hc⟩, ha]; simp only [ru, and_self, if_true]
        · rw [if_neg (fun z => ha z.1)]; simp only [ru, ha, false_and, if_false]
      · rw [if_neg hc, if_neg (fun z => hc z.2.2)]
    · have e : ∀ a, (if ¬ r 24 j = 0 ∧ r 28 j = pi then ru r 28 j one else r) a i = r a i := fun a => by split <;> simp only [ru, hi, and_false, if_false]
      have e2 : (j + 1 ≤ i ∧ i < j + 1 + k) = (j ≤ i ∧ i < j + (k + 1)) := propext (by omega)
      simp only [e, e2]
theorem clear_eq {c : Int32} : ∀ k j r, clear c k j r = fun a i => if (a = 24 ∨ a = 29) ∧ (j ≤ i ∧ i < j + k) ∧ ¬ r 24 i = 0 ∧ r 25 i = c then nI 0 else r a i := by
  intro k
  induction k with
  | zero => intro j r; funext a i; rw [if_neg (fun z => by have := z.2.1; omega)]; rfl
  | succ k ih =>
    intro j r
    show clear c k (j + 1) (if ¬ r 24 j = 0 ∧ r 25 j = c then ru (ru r 24 j (nI 0)) 29 j (nI 0) else r) = _
    rw [ih]
    funext a i
    by_cases hi : i = j
    · subst hi
      rw [if_neg (fun z => by have := z.2.1; omega)]
      by_cases hc : ¬ r 24 i = 0 ∧ r 25 i = c
      · rw [if_pos hc]
        by_cases ha : a = 24 ∨ a = 29
        · rw [if_pos ⟨ha, by omega, hc⟩]
          rcases ha with rfl | rfl <;> simp only [ru, and_self, if_true, Nat.reduceEqDiff, false_and, if_false]
        · rw [if_neg (fun z => ha z.1)]
          have h1 : ¬ a = 24 := fun z => ha (Or.inl z)
          have h2 : ¬ a = 29 := fun z => ha (Or.inr z)
          simp only [ru, h1, h2, false_and, if_false]
      · rw [if_neg hc, if_neg (fun z => hc z.2.2)]
    · have e : ∀ a, (if ¬ r 24 j = 0 ∧ r 25 j = c then ru (ru r 24 j (nI 0)) 29 j (nI 0) else r) a i = r a i := fun a => by split <;> simp only [ru, hi, and_false, if_false]
      have e2 : (j + 1 ≤ i ∧ i < j + 1 + k) = (j ≤ i ∧ i < j + (k + 1)) := propext (by omega)
      simp only [e, e2]
theorem init_find (iv : IV I O r C t mp) {c p : Nat} (hp : p < 16) (h24 : ¬ r 24 p = 0) (h25 : r 25 p = nI c) (h26 : r 26 p = nI 1) : ffind (pInit r (nI c)) 0 16 = some p := by
  cases hf : ffind (pInit r (nI c)) 0 16 with
  | none =>
    have := ffind_none hf p (by omega) (by omega)
    exact absurd ⟨h24, h25, h26⟩ (of_decide_eq_false this)
  | some x =>
    obtain ⟨-, h2, h3⟩ := ffind_in hf
    obtain ⟨g1, g2, g3⟩ := of_decide_eq_true h3
    rw [iv.p4 x p (by omega) hp g1 h24 (by rw [g2, h25]) (by rw [g3, h26])]
/-! the class's rows -/
def krM (M : mH) (p : Nat) : mH := mu (mu (mu (mu M (78 + 3 * p) 1 (.int (nI 0))) (78 + 3 * p) 2 (rf none)) (78 + 3 * p) 5 (rf none)) (78 + 3 * p) 8 (.int (nI 0))
theorem krM_ok (hw : wf M) {p : Nat} (hp : p < 16) : wf (krM M p) ∧ rg (krM M p) = rg M ∧ ig (krM M p) = iu (iu (ig M) 9 p 1 (nI 0)) 9 p 8 (nI 0) ∧ og (krM M p) = ou (ou (og M) 9 p 2 none) 9 p 5 none := by
  have w1 := C_task_1 hw hp (x := nI 0)
  have w2 := C_task_2 w1.w hp (x := none)
  have w3 := C_task_5 w2.w hp (x := none)
  have w4 := C_task_8 w3.w hp (x := nI 0)
  refine ⟨w4.w, ?_, ?_, ?_⟩
  · rw [krM, w4.r, w3.r, w2.r, w1.r]
  · rw [krM, w4.i, w3.i, w2.i, w1.i]
  · rw [krM, w4.o, w3.o, w2.o, w1.o]
theorem k_release (hw : wf M) {p : Nat} (hp : p < 16) : Vc d 124 [rf (some (78 + 3 * p))] M Q = Q none (krM M p) := by
  have w1 := C_task_1 hw hp (x := nI 0)
  have w2 := C_task_2 w1.w hp (x := none)
  have w3 := C_task_5 w2.w hp (x := none)
  show V d 124 0 [some (rf (some (78 + 3 * p)))] [] M Q = _
  simp only [s_124_0, s_124_1, s_124_2, s_124_5, s_124_6, s_124_7, s_124_10, s_124_11, s_124_12, s_124_15, s_124_16, s_124_17, s_124_20, eq_self, Nat.reduceLT, Nat.reduceLeDiff, Nat.reduceMod, Nat.reduceDiv, Nat.reduceAdd, Nat.reduceMul, Option.toList_some, Option.toList_none, List.cons_append, List.nil_append, List.append_nil, n10, n00, if_true, if_false, b0, b1, nI_add, true_and, and_true, and_self, sh_1, sh_2, sh_3, sh_36, sh_77, sh_126, k_1_0, k_1_1, k_1_2, k_1_3, k_1_4, k_1_5, k_2_0, sh_node, sh_cage, sh_cmts, sh_mrow, sh_que, sh_qv, sh_task, sh_tpow, sh_thld, sh_filt, sh_fop, sh_ffs, sh_fsc, sh_walk, ka_nodes, ka_cages, ka_tasks, ka_filts, kf_node_0, kf_cage_0, kf_cage_9, kf_task_0, kf_task_6, kf_task_7, kf_filt_0, kf_filt_1, kf_filt_2, kf_que, kf_cage_11, kf_cage_12, gi_K, gi_node1, gr_node, gi_cage1, gr_cage1, gr_cmts, gi_task1, gr_task1, gi_tpow, gr_thld, gi_filt, gi_fop, gi_ffs, gi_fsc, gr_walk, gr_mrow, gi_que, gi_qv, hw, w1.w, w2.w, w3.w, hp, krM]
theorem C_q0 (hw : wf M) {c : Nat} (hc : c < 4) {x : Int32} : Wi M (mu M (43 + 10 * c) 1 (.int x)) 5 (2 * c) 1 x := C_que hw hc (j := 0) (by decide)
theorem C_q1 (hw : wf M) {c : Nat} (hc : c < 4) {x : Int32} : Wi M (mu M (45 + 10 * c) 1 (.int x)) 5 (2 * c + 1) 1 x := by
  have h := C_que hw hc (j := 1) (by decide) (x := x)
  rw [show 43 + 10 * c + 2 * 1 = 45 + 10 * c by omega] at h
  exact h
def kzM (M : mH) (c : Nat) : mH := mu (mu (mu (mu M (37 + 10 * c) 7 (rf none)) (37 + 10 * c) 10 (.int (nI 0))) (43 + 10 * c) 1 (.int (nI 0))) (45 + 10 * c) 1 (.int (nI 0))
theorem kzM_ok (hw : wf M) {c : Nat} (hc : c < 4) : wf (kzM M c) ∧ rg (kzM M c) = rg M ∧ ig (kzM M c) = iu (iu (iu (ig M) 2 c 10 (nI 0)) 5 (2 * c) 1 (nI 0)) 5 (2 * c + 1) 1 (nI 0) ∧ og (kzM M c) = ou (og M) 2 c 7 none := by
  have w1 := C_cage_7 hw hc (x := none)
  have w2 := C_cage_10 w1.w hc (x := nI 0)
  have w3 := C_q0 w2.w hc (x := nI 0)
  have w4 := C_q1 w3.w hc (x := nI 0)
  refine ⟨w4.w, ?_, ?_, ?_⟩
  · rw [kzM, w4.r, w3.r, w2.r, w1.r]
  · rw [kzM, w4.i, w3.i, w2.i, w1.i]
  · rw [kzM, w4.o, w3.o, w2.o, w1.o]
theorem k_close (hw : wf M) {c : Nat} (hc : c < 4) : Vc d 108 [rf (some (37 + 10 * c))] M Q = Q none (kzM M c) := by
  have w1 := C_cage_7 hw hc (x := none)
  have w2 := C_cage_10 w1.w hc (x := nI 0)
  have w3 := C_q0 w2.w hc (x := nI 0)
  show V d 108 0 [some (rf (some (37 + 10 * c)))] [] M Q = _
  simp only [s_108_0, s_108_1, s_108_2, s_108_5, s_108_6, s_108_7, s_108_10, s_108_11, s_108_14, s_108_15, s_108_18, s_108_19, s_108_22, s_108_23, s_108_26, eq_self, Nat.reduceLT, Nat.reduceLeDiff, Nat.reduceMod, Nat.reduceDiv, Nat.reduceAdd, Nat.reduceMul, Option.toList_some, Option.toList_none, List.cons_append, List.nil_append, List.append_nil, n10, n00, if_true, if_false, b0, b1, nI_add, true_and, and_true, and_self, sh_1, sh_2, sh_3, sh_36, sh_77, sh_126, k_1_0, k_1_1, k_1_2, k_1_3, k_1_4, k_1_5, k_2_0, sh_node, sh_cage, sh_cmts, sh_mrow, sh_que, sh_qv, sh_task, sh_tpow, sh_thld, sh_filt, sh_fop, sh_ffs, sh_fsc, sh_walk, ka_nodes, ka_cages, ka_tasks, ka_filts, kf_node_0, kf_cage_0, kf_cage_9, kf_task_0, kf_task_6, kf_task_7, kf_filt_0, kf_filt_1, kf_filt_2, kf_que, kf_cage_11, kf_cage_12, gi_K, gi_node1, gr_node, gi_cage1, gr_cage1, gr_cmts, gi_task1, gr_task1, gi_tpow, gr_thld, gi_filt, gi_fop, gi_ffs, gi_fsc, gr_walk, gr_mrow, gi_que, gi_qv, sh_q1, sh_q2, hw, w1.w, w2.w, w3.w, hc, kzM]
theorem k_closeCage_l {c : Nat} (hc : c < 4) : ∀ k j M, wf M → j + k = 16 → ∃ M', (∀ Q, V (d + 1) 31 2 [some (rf (some 1)), some (rf (some (37 + 10 * c))), some (.int (nI j))] [] M Q = V (d + 1) 31 36 [some (rf (some 1)), some (rf (some (37 + 10 * c))), some (.int (nI 16))] [] M' Q) ∧ wf M' ∧ rg M' = rg M ∧ ig M' = (fun f i l => if (f = 9 ∧ (l = 1 ∨ l = 8)) ∧ (j ≤ i ∧ i < j + k) ∧ og M 9 i 2 = some (37 + 10 * c) then nI 0 else ig M f i l) ∧ og M' = (fun f i l => if (f = 9 ∧ (l = 2 ∨ l = 5)) ∧ (j ≤ i ∧ i < j + k) ∧ og M 9 i 2 = some (37 + 10 * c) then none else og M f i l) := by
  intro k
  induction k with
  | zero =>
    intro j M hw hj
    obtain rfl : j = 16 := by omega
    refine ⟨M, fun Q => ?_, hw, rfl, ?_, ?_⟩
    · rw [s_31_2]
      simp only [s_31_3, s_31_5, show nI 16 ≤ nI 16 from Int32.le_refl _, if_true]
    · funext f i l; rw [if_neg (fun z => by have := z.2.1; omega)]
    · funext f i l; rw [if_neg (fun z => by have := z.2.1; omega)]
  | succ k ih =>
    intro j M hw hj
    have h16 : j < 16 := by omega
    have hrange : ∀ i, ¬ i = j → (j + 1 ≤ i ∧ i < j + 1 + k) = (j ≤ i ∧ i < j + (k + 1)) := fun i hi => propext (by omega)
    by_cases hco : og M 9 j 2 = some (37 + 10 * c)
    · obtain ⟨w1, r1, i1, o1⟩ := krM_ok hw h16
      obtain ⟨M', h1, h2, h3, h4, h5⟩ := ih (j + 1) (krM M j) w1 (by omega)
      refine ⟨M', fun Q => ?_, h2, h3.trans r1, h4.trans ?_, h5.trans ?_⟩
      · rw [s_31_2]
        simp only [s_31_0, s_31_1, s_31_3, s_31_5, s_31_8, s_31_9, s_31_12, s_31_13, s_31_14, s_31_17, s_31_18, s_31_21, s_31_22, s_31_25, s_31_26, s_31_27, s_31_30, s_31_33, s_31_37, s_31_40, eq_self, Nat.reduceLT, Nat.reduceLeDiff, Nat.reduceMod, Nat.reduceDiv, Nat.reduceAdd, Nat.reduceMul, Option.toList_some, Option.toList_none, List.cons_append, List.nil_append, List.append_nil, n10, n00, if_true, if_false, b0, b1, nI_add, true_and, and_true, and_self, sh_1, sh_2, sh_3, sh_36, sh_77, sh_126, k_1_0, k_1_1, k_1_2, k_1_3, k_1_4, k_1_5, k_2_0, sh_node, sh_cage, sh_cmts, sh_mrow, sh_que, sh_qv, sh_task, sh_tpow, sh_thld, sh_filt, sh_fop, sh_ffs, sh_fsc, sh_walk, ka_nodes, ka_cages, ka_tasks, ka_filts, kf_node_0, kf_cage_0, kf_cage_9, kf_task_0, kf_task_6, kf_task_7, kf_filt_0, kf_filt_1, kf_filt_2, kf_que, kf_cage_11, kf_cage_12, gi_K, gi_node1, gr_node, gi_cage1, gr_cage1, gr_cmts, gi_task1, gr_task1, gi_tpow, gr_thld, gi_filt, gi_fop, gi_ffs, gi_fsc, gr_walk, gr_mrow, gi_que, gi_qv, hw, h16, nI_ge h16 (by decide), hco, k_release hw h16, h1]
      · funext f i l
        rw [o1, i1]
        by_cases hi : i = j
        · subst hi
          rw [if_neg (fun z => by have := z.2.1; omega)]
          by_cases hf : f = 9 ∧ (l = 1 ∨ l = 8)
          · rw [if_pos ⟨hf, by omega, hco⟩]
            obtain ⟨rfl, rfl | rfl⟩ := hf <;> simp only [ru, iu, ou, eq_self, Nat.reduceEqDiff, false_and, and_false, if_false, true_and, and_true, and_self, if_true]
          · rw [if_neg (fun z => hf z.1)]
            have e1 : ¬ (f = 9 ∧ l = 1) := fun z => hf ⟨z.1, Or.inl z.2⟩
            have e2 : ¬ (f = 9 ∧ l = 8) := fun z => hf ⟨z.1, Or.inr z.2⟩
            simp only [ru, iu, ou, eq_self, Nat.reduceEqDiff, false_and, and_false, if_false, true_and, and_true, and_self, e1, e2]
        · simp only [ru, iu, ou, eq_self, Nat.reduceEqDiff, false_and, and_false, if_false, true_and, and_true, and_self, hi, hrange i hi]
      · funext f i l
        rw [o1]
        by_cases hi : i = j
        · subst hi
          rw [if_neg (fun z => by have := z.2.1; omega)]
          by_cases hf : f = 9 ∧ (l = 2 ∨ l = 5)
          · rw [if_pos ⟨hf, by omega, hco⟩]
            obtain ⟨rfl, rfl | rfl⟩ := hf <;> simp only [ru, iu, ou, eq_self, Nat.reduceEqDiff, false_and, and_false, if_false, true_and, and_true, and_self, if_true]
          · rw [if_neg (fun z => hf z.1)]
            have e1 : ¬ (f = 9 ∧ l = 2) := fun z => hf ⟨z.1, Or.inl z.2⟩
            have e2 : ¬ (f = 9 ∧ l = 5) := fun z => hf ⟨z.1, Or.inr z.2⟩
            simp only [ru, iu, ou, eq_self, Nat.reduceEqDiff, false_and, and_false, if_false, true_and, and_true, and_self, e1, e2]
        · simp only [ru, iu, ou, eq_self, Nat.reduceEqDiff, false_and, and_false, if_false, true_and, and_true, and_self, hi, hrange i hi]
    · obtain ⟨M', h1, h2, h3, h4, h5⟩ := ih (j + 1) M hw (by omega)
      have hre : ∀ i, ((j + 1 ≤ i ∧ i < j + 1 + k) ∧ og M 9 i 2 = some (37 + 10 * c)) = ((j ≤ i ∧ i < j + (k + 1)) ∧ og M 9 i 2 = some (37 + 10 * c)) := fun i => by
        by_cases hi : i = j
        · subst hi; simp only [hco, and_false]
        · rw [hrange i hi]
      refine ⟨M', fun Q => ?_, h2, h3, h4.trans ?_, h5.trans ?_⟩
      · rw [s_31_2]
        simp only [s_31_0, s_31_1, s_31_3, s_31_5, s_31_8, s_31_9, s_31_12, s_31_13, s_31_14, s_31_17, s_31_18, s_31_21, s_31_22, s_31_25, s_31_26, s_31_27, s_31_30, s_31_33, s_31_37, s_31_40, eq_self, Nat.reduceLT, Nat.reduceLeDiff, Nat.reduceMod, Nat.reduceDiv, Nat.reduceAdd, Nat.reduceMul, Option.toList_some, Option.toList_none, List.cons_append, List.nil_append, List.append_nil, n10, n00, if_true, if_false, b0, b1, nI_add, true_and, and_true, and_self, sh_1, sh_2, sh_3, sh_36, sh_77, sh_126, k_1_0, k_1_1, k_1_2, k_1_3, k_1_4, k_1_5, k_2_0, sh_node, sh_cage, sh_cmts, sh_mrow, sh_que, sh_qv, sh_task, sh_tpow, sh_thld, sh_filt, sh_fop, sh_ffs, sh_fsc, sh_walk, ka_nodes, ka_cages, ka_tasks, ka_filts, kf_node_0, kf_cage_0, kf_cage_9, kf_task_0, kf_task_6, kf_task_7, kf_filt_0, kf_filt_1, kf_filt_2, kf_que, kf_cage_11, kf_cage_12, gi_K, gi_node1, gr_node, gi_cage1, gr_cage1, gr_cmts, gi_task1, gr_task1, gi_tpow, gr_thld, gi_filt, gi_fop, gi_ffs, gi_fsc, gr_walk, gr_mrow, gi_que, gi_qv, hw, h16, nI_ge h16 (by decide), hco, h1]
      · funext f i l; simp only [hre i]
      · funext f i l; simp only [hre i]
theorem k_closeCage (hw : wf M) {c : Nat} (hc : c < 4) : ∃ M', (∀ Q, Vc (d + 1) 31 [rf (some 1), rf (some (37 + 10 * c))] M Q = Q none M') ∧ wf M' ∧ rg M' = rg M ∧ ig M' = iu (iu (iu (fun f i l => if (f = 9 ∧ (l = 1 ∨ l = 8)) ∧ (0 ≤ i ∧ i < 0 + 16) ∧ og M 9 i 2 = some (37 + 10 * c) then nI 0 else ig M f i l) 2 c 10 (nI 0)) 5 (2 * c) 1 (nI 0)) 5 (2 * c + 1) 1 (nI 0) ∧ og M' = ou (fun f i l => if (f = 9 ∧ (l = 2 ∨ l = 5)) ∧ (0 ≤ i ∧ i < 0 + 16) ∧ og M 9 i 2 = some (37 + 10 * c) then none else og M f i l) 2 c 7 none := by
  obtain ⟨M1, h1, h2, h3, h4, h5⟩ := k_closeCage_l (d := d) hc 16 0 M hw rfl
  obtain ⟨w1, r1, i1, o1⟩ := kzM_ok h2 hc
  refine ⟨kzM M1 c, fun Q => ?_, w1, r1.trans h3, by rw [i1, h4], by rw [o1, h5]⟩
  show V (d + 1) 31 0 [some (rf (some 1)), some (rf (some (37 + 10 * c))), none] [] M Q = _
  rw [s_31_0, s_31_1, h1]
  simp only [s_31_36, s_31_37 h2 (sh_cage c hc), k_close h2 hc, s_31_40, eq_self, Nat.reduceLT, Nat.reduceLeDiff, Nat.reduceMod, Nat.reduceDiv, Nat.reduceAdd, Nat.reduceMul, Option.toList_some, Option.toList_none, List.cons_append, List.nil_append, List.append_nil, n10, n00, if_true, if_false, b0, b1, nI_add, true_and, and_true, and_self]
theorem k_zombie_l {p c : Nat} {o : Option Nat} (hp : p < 16) (hc : c < 4) {code : Int32} : ∀ k j M, wf M → j + k = 16 → og M 9 p 2 = some (37 + 10 * c) → og M 2 c 7 = o → ∃ M', (∀ Q, V d 30 28 [some (rf (some 1)), some (rf (some (78 + 3 * p))), some (.int code), some (.int (nI j))] [] M Q = Q none M') ∧ wf M' ∧ rg M' = rg M ∧ ig M' = ig M ∧ og M' = (fun f i l => if (f = 9 ∧ l = 5) ∧ (j ≤ i ∧ i < j + k) ∧ og M 9 i 5 = some (78 + 3 * p) then o else og M f i l) := by
  intro k
  induction k with
  | zero =>
    intro j M hw hj h2 h7
    obtain rfl : j = 16 := by omega
    refine ⟨M, fun Q => ?_, hw, rfl, rfl, ?_⟩
    · rw [s_30_28]
      simp only [s_30_29, s_30_31, s_30_69, show nI 16 ≤ nI 16 from Int32.le_refl _, if_true]
    · funext f i l; rw [if_neg (fun z => by have := z.2.1; omega)]
  | succ k ih =>
    intro j M hw hj h2 h7
    have h16 : j < 16 := by omega
    have hrange : ∀ i, ¬ i = j → (j + 1 ≤ i ∧ i < j + 1 + k) = (j ≤ i ∧ i < j + (k + 1)) := fun i hi => propext (by omega)
    by_cases hco : og M 9 j 5 = some (78 + 3 * p)
    · have w := C_task_5 hw h16 (x := o)
      obtain ⟨M', h1, g2, h3, h4, h5⟩ := ih (j + 1) (mu M (78 + 3 * j) 5 (rf o)) w.w (by omega) (by rw [w.o]; simp only [ru, iu, ou, eq_self, Nat.reduceEqDiff, false_and, and_false, if_false, true_and, and_true, and_self]; exact h2) (by rw [w.o]; simp only [ru, iu, ou, eq_self, Nat.reduceEqDiff, false_and, and_false, if_false, true_and, and_true, and_self]; exact h7)
      refine ⟨M', fun Q => ?_, g2, h3.trans w.r, h4.trans w.i, h5.trans ?_⟩
      · rw [s_30_28]
        simp only [s_30_0, s_30_1, s_30_4, s_30_7, s_30_8, s_30_9, s_30_12, s_30_15, s_30_16, s_30_17, s_30_18, s_30_21, s_30_22, s_30_23, s_30_26, s_30_27, s_30_29, s_30_31, s_30_34, s_30_35, s_30_38, s_30_39, s_30_40, s_30_43, s_30_44, s_30_47, s_30_48, s_30_51, s_30_52, s_30_53, s_30_54, s_30_57, s_30_60, s_30_63, s_30_66, s_30_69, eq_self, Nat.reduceLT, Nat.reduceLeDiff, Nat.reduceMod, Nat.reduceDiv, Nat.reduceAdd, Nat.reduceMul, Option.toList_some, Option.toList_none, List.cons_append, List.nil_append, List.append_nil, n10, n00, if_true, if_false, b0, b1, nI_add, true_and, and_true, and_self, sh_1, sh_2, sh_3, sh_36, sh_77, sh_126, k_1_0, k_1_1, k_1_2, k_1_3, k_1_4, k_1_5, k_2_0, sh_node, sh_cage, sh_cmts, sh_mrow, sh_que, sh_qv, sh_task, sh_tpow, sh_thld, sh_filt, sh_fop, sh_ffs, sh_fsc, sh_walk, ka_nodes, ka_cages, ka_tasks, ka_filts, kf_node_0, kf_cage_0, kf_cage_9, kf_task_0, kf_task_6, kf_task_7, kf_filt_0, kf_filt_1, kf_filt_2, kf_que, kf_cage_11, kf_cage_12, gi_K, gi_node1, gr_node, gi_cage1, gr_cage1, gr_cmts, gi_task1, gr_task1, gi_tpow, gr_thld, gi_filt, gi_fop, gi_ffs, gi_fsc, gr_walk, gr_mrow, gi_que, gi_qv, hw, h16, hp, hc, nI_ge h16 (by decide), hco, h2, h7, h1]
      · funext f i l
        rw [w.o]
        by_cases hi : i = j
        · subst hi
          rw [if_neg (fun z => by have := z.2.1; omega)]
          by_cases hf : f = 9 ∧ l = 5
          · rw [if_pos ⟨hf, by omega, hco⟩]
            obtain ⟨rfl, rfl⟩ := hf; simp only [ru, iu, ou, eq_self, Nat.reduceEqDiff, false_and, and_false, if_false, true_and, and_true, and_self, if_true]
          · rw [if_neg (fun z => hf z.1)]
            simp only [ru, iu, ou, eq_self, Nat.reduceEqDiff, false_and, and_false, if_false, true_and, and_true, and_self, hf]
        · simp only [ru, iu, ou, eq_self, Nat.reduceEqDiff, false_and, and_false, if_false, true_and, and_true, and_self, hi, hrange i hi]
    · obtain ⟨M', h1, g2, h3, h4, h5⟩ := ih (j + 1) M hw (by omega) h2 h7
      have hre : ∀ i, ((j + 1 ≤ i ∧ i < j + 1 + k) ∧ og M 9 i 5 = some (78 + 3 * p)) = ((j ≤ i ∧ i < j + (k + 1)) ∧ og M 9 i 5 = some (78 + 3 * p)) := fun i => by
        by_cases hi : i = j
        · subst hi; simp only [hco, and_false]
        · rw [hrange i hi]
      refine ⟨M', fun Q => ?_, g2, h3, h4, h5.trans ?_⟩
      · rw [s_30_28]
        simp only [s_30_0, s_30_1, s_30_4, s_30_7, s_30_8, s_30_9, s_30_12, s_30_15, s_30_16, s_30_17, s_30_18, s_30_21, s_30_22, s_30_23, s_30_26, s_30_27, s_30_29, s_30_31, s_30_34, s_30_35, s_30_38, s_30_39, s_30_40, s_30_43, s_30_44, s_30_47, s_30_48, s_30_51, s_30_52, s_30_53, s_30_54, s_30_57, s_30_60, s_30_63, s_30_66, s_30_69, eq_self, Nat.reduceLT, Nat.reduceLeDiff, Nat.reduceMod, Nat.reduceDiv, Nat.reduceAdd, Nat.reduceMul, Option.toList_some, Option.toList_none, List.cons_append, List.nil_append, List.append_nil, n10, n00, if_true, if_false, b0, b1, nI_add, true_and, and_true, and_self, sh_1, sh_2, sh_3, sh_36, sh_77, sh_126, k_1_0, k_1_1, k_1_2, k_1_3, k_1_4, k_1_5, k_2_0, sh_node, sh_cage, sh_cmts, sh_mrow, sh_que, sh_qv, sh_task, sh_tpow, sh_thld, sh_filt, sh_fop, sh_ffs, sh_fsc, sh_walk, ka_nodes, ka_cages, ka_tasks, ka_filts, kf_node_0, kf_cage_0, kf_cage_9, kf_task_0, kf_task_6, kf_task_7, kf_filt_0, kf_filt_1, kf_filt_2, kf_que, kf_cage_11, kf_cage_12, gi_K, gi_node1, gr_node, gi_cage1, gr_cage1, gr_cmts, gi_task1, gr_task1, gi_tpow, gr_thld, gi_filt, gi_fop, gi_ffs, gi_fsc, gr_walk, gr_mrow, gi_que, gi_qv, hw, h16, hp, nI_ge h16 (by decide), hco, h1]
      · funext f i l; simp only [hre i]
end
