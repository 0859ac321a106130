section
variable {d : Nat} {M : mH} {Q : Option Value → mH → Prop} {C t c p q m : Nat} {mp : MP} {I : CI} {O : CO} {r : RS}
/-! FORK -/
theorem k_inh1 (hp : p < 16) (hq : q < 16) (hpq : ¬ q = p) : ∀ k j (M : mH), wf M → j + k = 4 → ∃ M', (∀ Q, V d 123 2 [some (rf (some (78 + 3 * q))), some (rf (some (78 + 3 * p))), some (.int (nI j))] [] M Q = V d 123 25 [some (rf (some (78 + 3 * q))), some (rf (some (78 + 3 * p))), some (.int (nI 4))] [] M' Q) ∧ wf M' ∧ rg M' = rg M ∧ ig M' = (fun f i l => if (f = 10 ∧ i = q) ∧ (j ≤ l ∧ l < j + k) then ig M 10 p l else ig M f i l) ∧ og M' = og M := by
  have hpq' : ¬ p = q := fun z => hpq z.symm
  intro k
  induction k with
  | zero =>
    intro j M hw hj
    obtain rfl : j = 4 := by omega
    refine ⟨M, fun Q => ?_, hw, rfl, ?_, rfl⟩
    · rw [s_123_2]
      simp only [s_123_3, s_123_4, show nI 4 ≤ nI 4 from Int32.le_refl _, if_true]
    · funext f i l; rw [if_neg (fun z => by have := z.2; omega)]
  | succ k ih =>
    intro j M hw hj
    have h4 : j < 4 := by omega
    have w := C_tpow hw hq h4 (x := ig M 10 p j)
    obtain ⟨M', k1, k2, k3, k4, k5⟩ := ih (j + 1) _ w.w (by omega)
    refine ⟨M', fun Q => ?_, k2, k3.trans w.r, k4.trans ?_, k5.trans w.o⟩
    · rw [s_123_2]
      simp only [s_123_0, s_123_1, s_123_3, s_123_4, s_123_7, s_123_8, s_123_11, s_123_12, s_123_13, s_123_16, s_123_17, s_123_18, s_123_19, s_123_22, s_123_26, s_123_28, s_123_29, s_123_32, s_123_35, s_123_36, s_123_37, s_123_40, s_123_41, s_123_42, s_123_45, s_123_46, s_123_47, s_123_50, s_123_53, s_123_56, eq_self, Nat.reduceLT, Nat.reduceLeDiff, Nat.reduceMod, Nat.reduceDiv, Nat.reduceAdd, Nat.reduceMul, Option.toList_some, Option.toList_none, List.cons_append, List.nil_append, List.append_nil, n10, n00, if_true, if_false, b0, b1, nI_add, true_and, and_true, and_self, sh_1, sh_2, sh_3, sh_36, sh_77, sh_126, k_1_0, k_1_1, k_1_2, k_1_3, k_1_4, k_1_5, k_2_0, sh_node, sh_cage, sh_cmts, sh_mrow, sh_que, sh_qv, sh_task, sh_tpow, sh_thld, sh_filt, sh_fop, sh_ffs, sh_fsc, sh_walk, ka_nodes, ka_cages, ka_tasks, ka_filts, kf_node_0, kf_cage_0, kf_cage_9, kf_task_0, kf_task_6, kf_task_7, kf_filt_0, kf_filt_1, kf_filt_2, kf_que, kf_cage_11, kf_cage_12, gi_K, gi_node1, gr_node, gi_cage1, gr_cage1, gr_cmts, gi_task1, gr_task1, gi_tpow, gr_thld, gi_filt, gi_fop, gi_ffs, gi_fsc, gr_walk, gr_mrow, gi_que, gi_qv, hw, hp, hq, h4, nI_ge h4 (by decide), k1]
    · funext f i l
      rw [w.i]
      by_cases hf : f = 10 ∧ i = q
      · obtain ⟨rfl, rfl⟩ := hf
        by_cases hl : l = j
        · subst hl
          rw [if_neg (fun z => by have := z.2; omega), if_pos ⟨⟨rfl, rfl⟩, by omega⟩]
          simp only [ru, iu, ou, eq_self, Nat.reduceEqDiff, false_and, and_false, if_false, true_and, and_true, and_self, if_true]
        · have e : (j + 1 ≤ l ∧ l < j + 1 + k) = (j ≤ l ∧ l < j + (k + 1)) := propext (by omega)
          simp only [ru, iu, ou, eq_self, Nat.reduceEqDiff, false_and, and_false, if_false, true_and, and_true, and_self, hl, hpq', e]
      · simp only [iu, hf, hpq', false_and, and_false, if_false]
        have hf' : ¬ (f = 10 ∧ i = q ∧ l = j) := fun z => hf ⟨z.1, z.2.1⟩
        simp only [hf', if_false]
theorem k_inh2 (hp : p < 16) (hq : q < 16) (hpq : ¬ q = p) (hm : m ≤ 3) : ∀ k j (M : mH), wf M → j + k = m → ig M 9 p 8 = nI m → ig M 9 q 8 = nI j → (∀ l, l < m → ∃ g, g < 4 ∧ og M 11 p l = some (127 + 4 * g)) → ∃ M', (∀ Q, V (d + 1) 123 27 [some (rf (some (78 + 3 * q))), some (rf (some (78 + 3 * p))), some (.int (nI j))] [] M Q = Q none M') ∧ wf M' ∧ rg M' = rg M ∧ ig M' = iu (ig M) 9 q 8 (nI m) ∧ og M' = (fun f i l => if (f = 11 ∧ i = q) ∧ (j ≤ l ∧ l < m) then og M 11 p l else og M f i l) := by
  have hpq' : ¬ p = q := fun z => hpq z.symm
  intro k
  induction k with
  | zero =>
    intro j M hw hj h1 h2 h3
    obtain rfl : j = m := by omega
    refine ⟨M, fun Q => ?_, hw, rfl, ?_, ?_⟩
    · rw [s_123_27]
      simp only [s_123_28, s_123_29, s_123_32, s_123_56, eq_self, Nat.reduceLT, Nat.reduceLeDiff, Nat.reduceMod, Nat.reduceDiv, Nat.reduceAdd, Nat.reduceMul, Option.toList_some, Option.toList_none, List.cons_append, List.nil_append, List.append_nil, n10, n00, if_true, if_false, b0, b1, nI_add, true_and, and_true, and_self, sh_1, sh_2, sh_3, sh_36, sh_77, sh_126, k_1_0, k_1_1, k_1_2, k_1_3, k_1_4, k_1_5, k_2_0, sh_node, sh_cage, sh_cmts, sh_mrow, sh_que, sh_qv, sh_task, sh_tpow, sh_thld, sh_filt, sh_fop, sh_ffs, sh_fsc, sh_walk, ka_nodes, ka_cages, ka_tasks, ka_filts, kf_node_0, kf_cage_0, kf_cage_9, kf_task_0, kf_task_6, kf_task_7, kf_filt_0, kf_filt_1, kf_filt_2, kf_que, kf_cage_11, kf_cage_12, gi_K, gi_node1, gr_node, gi_cage1, gr_cage1, gr_cmts, gi_task1, gr_task1, gi_tpow, gr_thld, gi_filt, gi_fop, gi_ffs, gi_fsc, gr_walk, gr_mrow, gi_que, gi_qv, hw, hp, h1, show nI j ≤ nI j from Int32.le_refl _]
    · funext f i l
      by_cases e : f = 9 ∧ i = q ∧ l = 8
      · obtain ⟨rfl, rfl, rfl⟩ := e
        simp only [ru, iu, ou, eq_self, Nat.reduceEqDiff, false_and, and_false, if_false, true_and, and_true, and_self, if_true]; exact h2
      · simp only [iu, e, if_false]
    · funext f i l; rw [if_neg (fun z => by have := z.2; omega)]
  | succ k ih =>
    intro j M hw hj h1 h2 h3
    have hlt : j < m := by omega
    have h3' : j < 3 := by omega
    obtain ⟨g, hg, eg⟩ := h3 j hlt
    obtain ⟨w1, r1, i1, o1⟩ := thM_ok hw hq h3' (f := g)
    obtain ⟨M', k1, k2, k3, k4, k5⟩ := ih (j + 1) (thM M q j g) w1 (by omega) (by rw [i1]; simp only [ru, iu, ou, eq_self, Nat.reduceEqDiff, false_and, and_false, if_false, true_and, and_true, and_self, hpq']; exact h1) (by rw [i1]; simp only [ru, iu, ou, eq_self, Nat.reduceEqDiff, false_and, and_false, if_false, true_and, and_true, and_self, if_true]) (fun l hl => by rw [o1]; simp only [ru, iu, ou, eq_self, Nat.reduceEqDiff, false_and, and_false, if_false, true_and, and_true, and_self, hpq']; exact h3 l hl)
    refine ⟨M', fun Q => ?_, k2, k3.trans r1, k4.trans ?_, k5.trans ?_⟩
    · rw [s_123_27]
      simp only [s_123_0, s_123_1, s_123_3, s_123_4, s_123_7, s_123_8, s_123_11, s_123_12, s_123_13, s_123_16, s_123_17, s_123_18, s_123_19, s_123_22, s_123_26, s_123_28, s_123_29, s_123_32, s_123_35, s_123_36, s_123_37, s_123_40, s_123_41, s_123_42, s_123_45, s_123_46, s_123_47, s_123_50, s_123_53, s_123_56, eq_self, Nat.reduceLT, Nat.reduceLeDiff, Nat.reduceMod, Nat.reduceDiv, Nat.reduceAdd, Nat.reduceMul, Option.toList_some, Option.toList_none, List.cons_append, List.nil_append, List.append_nil, n10, n00, if_true, if_false, b0, b1, nI_add, true_and, and_true, and_self, sh_1, sh_2, sh_3, sh_36, sh_77, sh_126, k_1_0, k_1_1, k_1_2, k_1_3, k_1_4, k_1_5, k_2_0, sh_node, sh_cage, sh_cmts, sh_mrow, sh_que, sh_qv, sh_task, sh_tpow, sh_thld, sh_filt, sh_fop, sh_ffs, sh_fsc, sh_walk, ka_nodes, ka_cages, ka_tasks, ka_filts, kf_node_0, kf_cage_0, kf_cage_9, kf_task_0, kf_task_6, kf_task_7, kf_filt_0, kf_filt_1, kf_filt_2, kf_que, kf_cage_11, kf_cage_12, gi_K, gi_node1, gr_node, gi_cage1, gr_cage1, gr_cmts, gi_task1, gr_task1, gi_tpow, gr_thld, gi_filt, gi_fop, gi_ffs, gi_fsc, gr_walk, gr_mrow, gi_que, gi_qv, hw, hp, hq, h3', h1, nI_ge hlt (by omega), nI_ge h3' (by decide), eg, k_hold hw hq h3' hg h2, k1]
    · rw [i1]
      funext f i l
      by_cases e : f = 9 ∧ i = q ∧ l = 8
      · simp only [iu, e, and_self, if_true]
      · simp only [iu, e, if_false]
    · funext f i l
      rw [o1]
      by_cases hf : f = 11 ∧ i = q
      · obtain ⟨rfl, rfl⟩ := hf
        by_cases hl : l = j
        · subst hl
          rw [if_neg (fun z => by have := z.2; omega), if_pos ⟨⟨rfl, rfl⟩, by omega⟩]
          simp only [ru, iu, ou, eq_self, Nat.reduceEqDiff, false_and, and_false, if_false, true_and, and_true, and_self, if_true]; exact eg.symm
        · have e : (j + 1 ≤ l ∧ l < m) = (j ≤ l ∧ l < m) := propext (by omega)
          simp only [ru, iu, ou, eq_self, Nat.reduceEqDiff, false_and, and_false, if_false, true_and, and_true, and_self, hl, hpq', e]
      · have hf' : ¬ (f = 11 ∧ i = q ∧ l = j) := fun z => hf ⟨z.1, z.2.1⟩
        simp only [ou, hf, hf', false_and, if_false]
def frI (I : CI) (p q c m : Nat) (x us : Int32) : CI := iu (fun f i l => if (f = 10 ∧ i = q) ∧ (0 ≤ l ∧ l < 0 + 4) then tsI I q c x us 10 p l else tsI I q c x us f i l) 9 q 8 (nI m)
def frO (O : CO) (p q c m : Nat) : CO := fun f i l => if (f = 11 ∧ i = q) ∧ (0 ≤ l ∧ l < m) then tsO O q c (some (78 + 3 * p)) 11 p l else tsO O q c (some (78 + 3 * p)) f i l
theorem k_frk (hw : wf M) (iv : IV (ig M) (og M) r C t mp) (hp : p < 16) (hq : q < 16) (hpq : ¬ q = p) (h24 : r 24 p = nI 1) (hpc : r 25 p = nI c) (hc : c < C) (hm : m ≤ 3) (hpm : r 29 p = nI m) {y : Int32} (hy : r 14 c = y) : ∃ M', (∀ Q, V (d + 2) 13 26 [some (rf (some 1)), some (rf (some (78 + 3 * p))), some (rf (some (78 + 3 * q)))] [] M Q = Q (some (.int (y + nI 1))) M') ∧ wf M' ∧ rg M' = rg M ∧ ig M' = frI (ig M) p q c m (y + nI 1) (r 27 p) ∧ og M' = frO (og M) p q c m := by
  have hC4 := iv.C4
  have hc4 : c < 4 := by omega
  have hpq' : ¬ p = q := fun z => hpq z.symm
  have o2 := iv.live hp h24 hpc hc
  have hy' : ig M 2 c 8 = y := by rw [iv.c_8 hc4]; exact hy
  obtain ⟨w1, r1, i1, o1⟩ := tsM_ok hw hq hc4 (x := y + nI 1) (us := r 27 p) (pa := some (78 + 3 * p))
  obtain ⟨M2, a1, a2, a3, a4, a5⟩ := k_inh1 (d := d + 1) hp hq hpq 4 0 _ w1 rfl
  obtain ⟨m', g1, g2, g3, g4⟩ := iv.hold hp
  obtain rfl : m' = m := (nI_eq (by omega) (by omega)).1 (g2.symm.trans hpm)
  obtain ⟨M3, b1, b2, b3, b4, b5⟩ := k_inh2 (d := d) hp hq hpq hm m' 0 M2 a2 (by omega) (by rw [a4, i1]; simp only [tsI, ru, iu, ou, eq_self, Nat.reduceEqDiff, false_and, and_false, if_false, true_and, and_true, and_self, hpq']; rw [iv.p_8 hp]; exact hpm) (by rw [a4, i1]; simp only [tsI, ru, iu, ou, eq_self, Nat.reduceEqDiff, false_and, and_false, if_false, true_and, and_true, and_self, if_true]) (fun l hl => by
    rw [a5, o1]; simp only [tsO, ru, iu, ou, eq_self, Nat.reduceEqDiff, false_and, and_false, if_false, true_and, and_true, and_self]
    obtain ⟨g, k1, -, k2⟩ := g4 l hl
    exact ⟨g, k1, k2⟩)
  have hin : ∀ Q, Vc (d + 1) 123 [rf (some (78 + 3 * q)), rf (some (78 + 3 * p))] (tsM M q c (y + nI 1) (some (78 + 3 * p)) (r 27 p)) Q = Q none M3 := fun Q => by
    show V (d + 1) 123 0 [some (rf (some (78 + 3 * q))), some (rf (some (78 + 3 * p))), none] [] (tsM M q c (y + nI 1) (some (78 + 3 * p)) (r 27 p)) Q = _
    rw [s_123_0, s_123_1, a1, s_123_25, s_123_26, b1]
  have e3 : ig M3 9 q 3 = y + nI 1 := by rw [b4, a4, i1]; simp only [tsI, ru, iu, ou, eq_self, Nat.reduceEqDiff, false_and, and_false, if_false, true_and, and_true, and_self, if_true]
  refine ⟨M3, fun Q => ?_, b2, by rw [b3, a3, r1], by rw [b4, a4, i1]; rfl, by rw [b5, a5, o1]; rfl⟩
  simp only [s_13_26, s_13_27, s_13_28, s_13_31, s_13_32, s_13_33, s_13_36, s_13_39, s_13_40, s_13_41, s_13_44, s_13_45, s_13_48, eq_self, Nat.reduceLT, Nat.reduceLeDiff, Nat.reduceMod, Nat.reduceDiv, Nat.reduceAdd, Nat.reduceMul, Option.toList_some, Option.toList_none, List.cons_append, List.nil_append, List.append_nil, n10, n00, if_true, if_false, b0, b1, nI_add, true_and, and_true, and_self, sh_1, sh_2, sh_3, sh_36, sh_77, sh_126, k_1_0, k_1_1, k_1_2, k_1_3, k_1_4, k_1_5, k_2_0, sh_node, sh_cage, sh_cmts, sh_mrow, sh_que, sh_qv, sh_task, sh_tpow, sh_thld, sh_filt, sh_fop, sh_ffs, sh_fsc, sh_walk, ka_nodes, ka_cages, ka_tasks, ka_filts, kf_node_0, kf_cage_0, kf_cage_9, kf_task_0, kf_task_6, kf_task_7, kf_filt_0, kf_filt_1, kf_filt_2, kf_que, kf_cage_11, kf_cage_12, gi_K, gi_node1, gr_node, gi_cage1, gr_cage1, gr_cmts, gi_task1, gr_task1, gi_tpow, gr_thld, gi_filt, gi_fop, gi_ffs, gi_fsc, gr_walk, gr_mrow, gi_que, gi_qv, hw, hp, hq, o2, iv.p_4 hp, k_tsettle hw hq hc4 hy', w1, hin, b2, e3]
theorem fR31 (hpq : ¬ q = p) {k : Nat} (hk : k < 4) : forkR r p q c 31 (4 * q + k) = r 31 (4 * p + k) := by
  rcases (show k = 0 ∨ k = 1 ∨ k = 2 ∨ k = 3 by omega) with rfl | rfl | rfl | rfl
  · simp only [forkR, fk1, fk2, cpP, cpF, begR, ru, iu, ou, eq_self, Nat.reduceEqDiff, false_and, and_false, if_false, true_and, and_true, and_self, if_true, show ¬ 4 * p + 0 = 4 * q + 0 by omega, show ¬ 4 * p + 0 = 4 * q + 1 by omega, show ¬ 4 * p + 0 = 4 * q + 2 by omega, show ¬ 4 * p + 0 = 4 * q + 3 by omega, show ¬ 4 * p + 1 = 4 * q + 0 by omega, show ¬ 4 * p + 1 = 4 * q + 1 by omega, show ¬ 4 * p + 1 = 4 * q + 2 by omega, show ¬ 4 * p + 1 = 4 * q + 3 by omega, show ¬ 4 * p + 2 = 4 * q + 0 by omega, show ¬ 4 * p + 2 = 4 * q + 1 by omega, show ¬ 4 * p + 2 = 4 * q + 2 by omega, show ¬ 4 * p + 2 = 4 * q + 3 by omega, show ¬ 4 * p + 3 = 4 * q + 0 by omega, show ¬ 4 * p + 3 = 4 * q + 1 by omega, show ¬ 4 * p + 3 = 4 * q + 2 by omega, show ¬ 4 * p + 3 = 4 * q + 3 by omega, show ¬ 4 * q + 0 = 4 * q + 1 by omega, show ¬ 4 * q + 0 = 4 * q + 2 by omega, show ¬ 4 * q + 0 = 4 * q + 3 by omega, show ¬ 4 * q + 1 = 4 * q + 0 by omega, show ¬ 4 * q + 1 = 4 * q + 2 by omega, show ¬ 4 * q + 1 = 4 * q + 3 by omega, show ¬ 4 * q + 2 = 4 * q + 0 by omega, show ¬ 4 * q + 2 = 4 * q + 1 by omega, show ¬ 4 * q + 2 = 4 * q + 3 by omega, show ¬ 4 * q + 3 = 4 * q + 0 by omega, show ¬ 4 * q + 3 = 4 * q + 1 by omega, show ¬ 4 * q + 3 = 4 * q + 2 by omega]
  · simp only [forkR, fk1, fk2, cpP, cpF, begR, ru, iu, ou, eq_self, Nat.reduceEqDiff, false_and, and_false, if_false, true_and, and_true, and_self, if_true, show ¬ 4 * p + 0 = 4 * q + 0 by omega, show ¬ 4 * p + 0 = 4 * q + 1 by omega, show ¬ 4 * p + 0 = 4 * q + 2 by omega, show ¬ 4 * p + 0 = 4 * q + 3 by omega, show ¬ 4 * p + 1 = 4 * q + 0 by omega, show ¬ 4 * p + 1 = 4 * q + 1 by omega, show ¬ 4 * p + 1 = 4 * q + 2 by omega, show ¬ 4 * p + 1 = 4 * q + 3 by omega, show ¬ 4 * p + 2 = 4 * q + 0 by omega, show ¬ 4 * p + 2 = 4 * q + 1 by omega, show ¬ 4 * p + 2 = 4 * q + 2 by omega, show ¬ 4 * p + 2 = 4 * q + 3 by omega, show ¬ 4 * p + 3 = 4 * q + 0 by omega, show ¬ 4 * p + 3 = 4 * q + 1 by omega, show ¬ 4 * p + 3 = 4 * q + 2 by omega, show ¬ 4 * p + 3 = 4 * q + 3 by omega, show ¬ 4 * q + 0 = 4 * q + 1 by omega, show ¬ 4 * q + 0 = 4 * q + 2 by omega, show ¬ 4 * q + 0 = 4 * q + 3 by omega, show ¬ 4 * q + 1 = 4 * q + 0 by omega, show ¬ 4 * q + 1 = 4 * q + 2 by omega, show ¬ 4 * q + 1 = 4 * q + 3 by omega, show ¬ 4 * q + 2 = 4 * q + 0 by omega, show ¬ 4 * q + 2 = 4 * q + 1 by omega, show ¬ 4 * q + 2 = 4 * q + 3 by omega, show ¬ 4 * q + 3 = 4 * q + 0 by omega, show ¬ 4 * q + 3 = 4 * q + 1 by omega, show ¬ 4 * q + 3 = 4 * q + 2 by omega]
  · simp only [forkR, fk1, fk2, cpP, cpF, begR, ru, iu, ou, eq_self, Nat.reduceEqDiff, false_and, and_false, if_false, true_and, and_true, and_self, if_true, show ¬ 4 * p + 0 = 4 * q + 0 by omega, show ¬ 4 * p + 0 = 4 * q + 1 by omega, show ¬ 4 * p + 0 = 4 * q + 2 by omega, show ¬ 4 * p + 0 = 4 * q + 3 by omega, show ¬ 4 * p + 1 = 4 * q + 0 by omega, show ¬ 4 * p + 1 = 4 * q + 1 by omega, show ¬ 4 * p + 1 = 4 * q + 2 by omega, show ¬ 4 * p + 1 = 4 * q + 3 by omega, show ¬ 4 * p + 2 = 4 * q + 0 by omega, show ¬ 4 * p + 2 = 4 * q + 1 by omega, show ¬ 4 * p + 2 = 4 * q + 2 by omega, show ¬ 4 * p + 2 = 4 * q + 3 by omega, show ¬ 4 * p + 3 = 4 * q + 0 by omega, show ¬ 4 * p + 3 = 4 * q + 1 by omega, show ¬ 4 * p + 3 = 4 * q + 2 by omega, show ¬ 4 * p + 3 = 4 * q + 3 by omega, show ¬ 4 * q + 0 = 4 * q + 1 by omega, show ¬ 4 * q + 0 = 4 * q + 2 by omega, show ¬ 4 * q + 0 = 4 * q + 3 by omega, show ¬ 4 * q + 1 = 4 * q + 0 by omega, show ¬ 4 * q + 1 = 4 * q + 2 by omega, show ¬ 4 * q + 1 = 4 * q + 3 by omega, show ¬ 4 * q + 2 = 4 * q + 0 by omega, show ¬ 4 * q + 2 = 4 * q + 1 by omega, show ¬ 4 * q + 2 = 4 * q + 3 by omega, show ¬ 4 * q + 3 = 4 * q + 0 by omega, show ¬ 4 * q + 3 = 4 * q + 1 by omega, show ¬ 4 * q + 3 = 4 * q + 2 by omega]
  · simp only [forkR, fk1, fk2, cpP, cpF, begR, ru, iu, ou, eq_self, Nat.reduceEqDiff, false_and, and_false, if_false, true_and, and_true, and_self, if_true, show ¬ 4 * p + 0 = 4 * q + 0 by omega, show ¬ 4 * p + 0 = 4 * q + 1 by omega, show ¬ 4 * p + 0 = 4 * q + 2 by omega, show ¬ 4 * p + 0 = 4 * q + 3 by omega, show ¬ 4 * p + 1 = 4 * q + 0 by omega, show ¬ 4 * p + 1 = 4 * q + 1 by omega, show ¬ 4 * p + 1 = 4 * q + 2 by omega, show ¬ 4 * p + 1 = 4 * q + 3 by omega, show ¬ 4 * p + 2 = 4 * q + 0 by omega, show ¬ 4 * p + 2 = 4 * q + 1 by omega, show ¬ 4 * p + 2 = 4 * q + 2 by omega, show ¬ 4 * p + 2 = 4 * q + 3 by omega, show ¬ 4 * p + 3 = 4 * q + 0 by omega, show ¬ 4 * p + 3 = 4 * q + 1 by omega, show ¬ 4 * p + 3 = 4 * q + 2 by omega, show ¬ 4 * p + 3 = 4 * q + 3 by omega, show ¬ 4 * q + 0 = 4 * q + 1 by omega, show ¬ 4 * q + 0 = 4 * q + 2 by omega, show ¬ 4 * q + 0 = 4 * q + 3 by omega, show ¬ 4 * q + 1 = 4 * q + 0 by omega, show ¬ 4 * q + 1 = 4 * q + 2 by omega, show ¬ 4 * q + 1 = 4 * q + 3 by omega, show ¬ 4 * q + 2 = 4 * q + 0 by omega, show ¬ 4 * q + 2 = 4 * q + 1 by omega, show ¬ 4 * q + 2 = 4 * q + 3 by omega, show ¬ 4 * q + 3 = 4 * q + 0 by omega, show ¬ 4 * q + 3 = 4 * q + 1 by omega, show ¬ 4 * q + 3 = 4 * q + 2 by omega]
theorem fR30 (hpq : ¬ q = p) {k : Nat} (hk : k < 3) : forkR r p q c 30 (3 * q + k) = r 30 (3 * p + k) := by
  rcases (show k = 0 ∨ k = 1 ∨ k = 2 by omega) with rfl | rfl | rfl
  · simp only [forkR, fk1, fk2, cpP, cpF, begR, ru, iu, ou, eq_self, Nat.reduceEqDiff, false_and, and_false, if_false, true_and, and_true, and_self, if_true, show ¬ 3 * p + 0 = 3 * q + 0 by omega, show ¬ 3 * p + 0 = 3 * q + 1 by omega, show ¬ 3 * p + 0 = 3 * q + 2 by omega, show ¬ 3 * p + 1 = 3 * q + 0 by omega, show ¬ 3 * p + 1 = 3 * q + 1 by omega, show ¬ 3 * p + 1 = 3 * q + 2 by omega, show ¬ 3 * p + 2 = 3 * q + 0 by omega, show ¬ 3 * p + 2 = 3 * q + 1 by omega, show ¬ 3 * p + 2 = 3 * q + 2 by omega, show ¬ 3 * q + 0 = 3 * q + 1 by omega, show ¬ 3 * q + 0 = 3 * q + 2 by omega, show ¬ 3 * q + 1 = 3 * q + 0 by omega, show ¬ 3 * q + 1 = 3 * q + 2 by omega, show ¬ 3 * q + 2 = 3 * q + 0 by omega, show ¬ 3 * q + 2 = 3 * q + 1 by omega]
  · simp only [forkR, fk1, fk2, cpP, cpF, begR, ru, iu, ou, eq_self, Nat.reduceEqDiff, false_and, and_false, if_false, true_and, and_true, and_self, if_true, show ¬ 3 * p + 0 = 3 * q + 0 by omega, show ¬ 3 * p + 0 = 3 * q + 1 by omega, show ¬ 3 * p + 0 = 3 * q + 2 by omega, show ¬ 3 * p + 1 = 3 * q + 0 by omega, show ¬ 3 * p + 1 = 3 * q + 1 by omega, show ¬ 3 * p + 1 = 3 * q + 2 by omega, show ¬ 3 * p + 2 = 3 * q + 0 by omega, show ¬ 3 * p + 2 = 3 * q + 1 by omega, show ¬ 3 * p + 2 = 3 * q + 2 by omega, show ¬ 3 * q + 0 = 3 * q + 1 by omega, show ¬ 3 * q + 0 = 3 * q + 2 by omega, show ¬ 3 * q + 1 = 3 * q + 0 by omega, show ¬ 3 * q + 1 = 3 * q + 2 by omega, show ¬ 3 * q + 2 = 3 * q + 0 by omega, show ¬ 3 * q + 2 = 3 * q + 1 by omega]
  · simp only [forkR, fk1, fk2, cpP, cpF, begR, ru, iu, ou, eq_self, Nat.reduceEqDiff, false_and, and_false, if_false, true_and, and_true, and_self, if_true, show ¬ 3 * p + 0 = 3 * q + 0 by omega, show ¬ 3 * p + 0 = 3 * q + 1 by omega, show ¬ 3 * p + 0 = 3 * q + 2 by omega, show ¬ 3 * p + 1 = 3 * q + 0 by omega, show ¬ 3 * p + 1 = 3 * q + 1 by omega, show ¬ 3 * p + 1 = 3 * q + 2 by omega, show ¬ 3 * p + 2 = 3 * q + 0 by omega, show ¬ 3 * p + 2 = 3 * q + 1 by omega, show ¬ 3 * p + 2 = 3 * q + 2 by omega, show ¬ 3 * q + 0 = 3 * q + 1 by omega, show ¬ 3 * q + 0 = 3 * q + 2 by omega, show ¬ 3 * q + 1 = 3 * q + 0 by omega, show ¬ 3 * q + 1 = 3 * q + 2 by omega, show ¬ 3 * q + 2 = 3 * q + 0 by omega, show ¬ 3 * q + 2 = 3 * q + 1 by omega]
theorem iv_fork (iv : IV I O r C t mp) (ht : t < 2 ^ 30) (hp : p < 16) (hq : q < 16) (h24 : r 24 p = nI 1) (hpc : r 25 p = nI c) (hc : c < C) (hq24 : r 24 q = 0) (hpm : r 29 p = nI m) (hm : m ≤ 3) : IV (frI I p q c m (r 14 c + nI 1) (r 27 p)) (frO O p q c m) (forkR r p q c) C (t + 1) mp := by
  have hC4 := iv.C4
  have hc4 : c < 4 := by omega
  have hpq : ¬ q = p := fun z => by rw [z, h24] at hq24; exact absurd hq24 (by decide)
  have hpq' : ¬ p = q := fun z => hpq z.symm
  have iv0 := iv
  have iv := iv.le (Nat.le_succ t)
  obtain ⟨c', p1, p2, p3, ⟨x0, g0, p4, p5, p6, p7, p7'⟩, ⟨u0, us0, p8, p9, p10⟩, -⟩ := (iv.p3 p hp).2.2 (by rw [h24]; decide)
  obtain rfl : c' = c := (nI_eq (by omega) (by omega)).1 (p2.symm.trans hpc)
  obtain ⟨mm, q1, q2, q3, q4⟩ := iv.h p hp
  obtain rfl : mm = m := (nI_eq (by omega) (by omega)).1 (q2.symm.trans hpm)
  obtain ⟨gg, h1, h2⟩ := (iv0.g c' hc4).2
  obtain rfl : gg = g0 := (nI_eq (by omega) p7').1 (h2.symm.trans p5)
  have es : r 14 c' + nI 1 = nI (gg + 1) := by rw [p5, nI_add]
  have e14 : forkR r p q c' 14 c' = nI (gg + 1) := by rw [← es]; simp only [forkR, fk1, fk2, cpP, cpF, begR, ru, iu, ou, eq_self, Nat.reduceEqDiff, false_and, and_false, if_false, true_and, and_true, and_self, if_true]
  have e24 : forkR r p q c' 24 q = nI 1 := by simp only [forkR, fk1, fk2, cpP, cpF, begR, ru, iu, ou, eq_self, Nat.reduceEqDiff, false_and, and_false, if_false, true_and, and_true, and_self, if_true]
  have e25 : forkR r p q c' 25 q = nI c' := by simp only [forkR, fk1, fk2, cpP, cpF, begR, ru, iu, ou, eq_self, Nat.reduceEqDiff, false_and, and_false, if_false, true_and, and_true, and_self, if_true]
  have e26 : forkR r p q c' 26 q = nI (gg + 1) := by rw [← es]; simp only [forkR, fk1, fk2, cpP, cpF, begR, ru, iu, ou, eq_self, Nat.reduceEqDiff, false_and, and_false, if_false, true_and, and_true, and_self, if_true]
  have e27 : forkR r p q c' 27 q = r 27 p := by simp only [forkR, fk1, fk2, cpP, cpF, begR, ru, iu, ou, eq_self, Nat.reduceEqDiff, false_and, and_false, if_false, true_and, and_true, and_self, if_true]
  have e28 : forkR r p q c' 28 q = nI p := by simp only [forkR, fk1, fk2, cpP, cpF, begR, ru, iu, ou, eq_self, Nat.reduceEqDiff, false_and, and_false, if_false, true_and, and_true, and_self, if_true]
  have e29 : forkR r p q c' 29 q = nI mm := by rw [← hpm]; simp only [forkR, fk1, fk2, cpP, cpF, begR, ru, iu, ou, eq_self, Nat.reduceEqDiff, false_and, and_false, if_false, true_and, and_true, and_self, if_true]
  have e32 : forkR r p q c' 32 q = nI 0 := by simp only [forkR, fk1, fk2, cpP, cpF, begR, ru, iu, ou, eq_self, Nat.reduceEqDiff, false_and, and_false, if_false, true_and, and_true, and_self, if_true]
  have N : ∀ a x, ¬ x = q → ¬ a = 14 → ¬ a = 30 → ¬ a = 31 → forkR r p q c' a x = r a x := fun a x h1 h2 h3 h4 => by
    simp only [forkR, fk1, fk2, cpP, cpF, begR, ru, h1, h2, h3, h4, and_false, false_and, if_false]
  have N14 : ∀ x, ¬ x = c' → forkR r p q c' 14 x = r 14 x := fun x h => by simp only [forkR, fk1, fk2, cpP, cpF, begR, ru, iu, ou, eq_self, Nat.reduceEqDiff, false_and, and_false, if_false, true_and, and_true, and_self, h]
  have N30 : ∀ x k, ¬ x = q → k < 3 → forkR r p q c' 30 (3 * x + k) = r 30 (3 * x + k) := fun x k h hk => by
    simp only [forkR, fk1, fk2, cpP, cpF, begR, ru, iu, ou, eq_self, Nat.reduceEqDiff, false_and, and_false, if_false, true_and, and_true, and_self, show ¬ 3 * x + k = 3 * q + 0 by omega, show ¬ 3 * x + k = 3 * q + 1 by omega, show ¬ 3 * x + k = 3 * q + 2 by omega]
  have N31 : ∀ x k, ¬ x = q → k < 4 → forkR r p q c' 31 (4 * x + k) = r 31 (4 * x + k) := fun x k h hk => by
    simp only [forkR, fk1, fk2, cpP, cpF, begR, ru, iu, ou, eq_self, Nat.reduceEqDiff, false_and, and_false, if_false, true_and, and_true, and_self, show ¬ 4 * x + k = 4 * q + 0 by omega, show ¬ 4 * x + k = 4 * q + 1 by omega, show ¬ 4 * x + k = 4 * q + 2 by omega, show ¬ 4 * x + k = 4 * q + 3 by omega]
  have E10 : forkR r p q c' 10 = r 10 := by funext i; simp only [forkR, fk1, fk2, cpP, cpF, begR, ru, iu, ou, eq_self, Nat.reduceEqDiff, false_and, and_false, if_false, true_and, and_true, and_self]
  have E17 : forkR r p q c' 17 = r 17 := by funext i; simp only [forkR, fk1, fk2, cpP, cpF, begR, ru, iu, ou, eq_self, Nat.reduceEqDiff, false_and, and_false, if_false, true_and, and_true, and_self]
  have E36 : forkR r p q c' 36 = r 36 := by funext i; simp only [forkR, fk1, fk2, cpP, cpF, begR, ru, iu, ou, eq_self, Nat.reduceEqDiff, false_and, and_false, if_false, true_and, and_true, and_self]
  have hge : ∀ g s', good (forkR r p q c') g s' = good r g s' := fun g s' => good.eq (fun k => by simp only [forkR, fk1, fk2, cpP, cpF, begR, ru, iu, ou, eq_self, Nat.reduceEqDiff, false_and, and_false, if_false, true_and, and_true, and_self])
  rw [es]
  refine ⟨iv.n1.cg (by simp only [frI, frO, tsI, tsO, forkR, fk1, fk2, cpP, cpF, begR, ru, iu, ou, eq_self, Nat.reduceEqDiff, false_and, and_false, if_false, true_and, and_true, and_self, implies_true]) (by simp only [frI, frO, tsI, tsO, forkR, fk1, fk2, cpP, cpF, begR, ru, iu, ou, eq_self, Nat.reduceEqDiff, false_and, and_false, if_false, true_and, and_true, and_self, implies_true]), iv.n2.cg (by simp only [frI, frO, tsI, tsO, forkR, fk1, fk2, cpP, cpF, begR, ru, iu, ou, eq_self, Nat.reduceEqDiff, false_and, and_false, if_false, true_and, and_true, and_self, implies_true]) (by simp only [frI, frO, tsI, tsO, forkR, fk1, fk2, cpP, cpF, begR, ru, iu, ou, eq_self, Nat.reduceEqDiff, false_and, and_false, if_false, true_and, and_true, and_self, implies_true]), iv.n3.cg (by simp only [frI, frO, tsI, tsO, forkR, fk1, fk2, cpP, cpF, begR, ru, iu, ou, eq_self, Nat.reduceEqDiff, false_and, and_false, if_false, true_and, and_true, and_self, implies_true]), iv.k.cg (by simp only [frI, frO, tsI, tsO, forkR, fk1, fk2, cpP, cpF, begR, ru, iu, ou, eq_self, Nat.reduceEqDiff, false_and, and_false, if_false, true_and, and_true, and_self, implies_true]) (by simp only [frI, frO, tsI, tsO, forkR, fk1, fk2, cpP, cpF, begR, ru, iu, ou, eq_self, Nat.reduceEqDiff, false_and, and_false, if_false, true_and, and_true, and_self, implies_true]), iv.c.cg (by simp only [frI, frO, tsI, tsO, forkR, fk1, fk2, cpP, cpF, begR, ru, iu, ou, eq_self, Nat.reduceEqDiff, false_and, and_false, if_false, true_and, and_true, and_self, implies_true]) (by simp only [frI, frO, tsI, tsO, forkR, fk1, fk2, cpP, cpF, begR, ru, iu, ou, eq_self, Nat.reduceEqDiff, false_and, and_false, if_false, true_and, and_true, and_self, implies_true]), ?_, ?_, ?_, ?_, ?_, ?_, ?_, iv.f1.cg (by simp only [frI, frO, tsI, tsO, forkR, fk1, fk2, cpP, cpF, begR, ru, iu, ou, eq_self, Nat.reduceEqDiff, false_and, and_false, if_false, true_and, and_true, and_self, implies_true]) (by simp only [frI, frO, tsI, tsO, forkR, fk1, fk2, cpP, cpF, begR, ru, iu, ou, eq_self, Nat.reduceEqDiff, false_and, and_false, if_false, true_and, and_true, and_self, implies_true]) (by simp only [frI, frO, tsI, tsO, forkR, fk1, fk2, cpP, cpF, begR, ru, iu, ou, eq_self, Nat.reduceEqDiff, false_and, and_false, if_false, true_and, and_true, and_self, implies_true]), iv.f2.cg (by simp only [frI, frO, tsI, tsO, forkR, fk1, fk2, cpP, cpF, begR, ru, iu, ou, eq_self, Nat.reduceEqDiff, false_and, and_false, if_false, true_and, and_true, and_self, implies_true]), iv.q.cg (by simp only [frI, frO, tsI, tsO, forkR, fk1, fk2, cpP, cpF, begR, ru, iu, ou, eq_self, Nat.reduceEqDiff, false_and, and_false, if_false, true_and, and_true, and_self, implies_true]) (by simp only [frI, frO, tsI, tsO, forkR, fk1, fk2, cpP, cpF, begR, ru, iu, ou, eq_self, Nat.reduceEqDiff, false_and, and_false, if_false, true_and, and_true, and_self, implies_true]) (by simp only [frI, frO, tsI, tsO, forkR, fk1, fk2, cpP, cpF, begR, ru, iu, ou, eq_self, Nat.reduceEqDiff, false_and, and_false, if_false, true_and, and_true, and_self, implies_true]), iv.m1.cg (by simp only [frI, frO, tsI, tsO, forkR, fk1, fk2, cpP, cpF, begR, ru, iu, ou, eq_self, Nat.reduceEqDiff, false_and, and_false, if_false, true_and, and_true, and_self, implies_true]) (by simp only [frI, frO, tsI, tsO, forkR, fk1, fk2, cpP, cpF, begR, ru, iu, ou, eq_self, Nat.reduceEqDiff, false_and, and_false, if_false, true_and, and_true, and_self, implies_true]), iv.m2.cg (by simp only [frI, frO, tsI, tsO, forkR, fk1, fk2, cpP, cpF, begR, ru, iu, ou, eq_self, Nat.reduceEqDiff, false_and, and_false, if_false, true_and, and_true, and_self, implies_true]) (by simp only [frI, frO, tsI, tsO, forkR, fk1, fk2, cpP, cpF, begR, ru, iu, ou, eq_self, Nat.reduceEqDiff, false_and, and_false, if_false, true_and, and_true, and_self, implies_true]), iv.m3.cg (by simp only [frI, frO, tsI, tsO, forkR, fk1, fk2, cpP, cpF, begR, ru, iu, ou, eq_self, Nat.reduceEqDiff, false_and, and_false, if_false, true_and, and_true, and_self, implies_true]) (by simp only [frI, frO, tsI, tsO, forkR, fk1, fk2, cpP, cpF, begR, ru, iu, ou, eq_self, Nat.reduceEqDiff, false_and, and_false, if_false, true_and, and_true, and_self, implies_true]), iv.m4.cg (by simp only [frI, frO, tsI, tsO, forkR, fk1, fk2, cpP, cpF, begR, ru, iu, ou, eq_self, Nat.reduceEqDiff, false_and, and_false, if_false, true_and, and_true, and_self, implies_true])⟩
  · intro x hx
    by_cases e : x = c'
    · subst e
      rw [e14]
      exact ⟨by simp only [frI, tsI, ru, iu, ou, eq_self, Nat.reduceEqDiff, false_and, and_false, if_false, true_and, and_true, and_self, if_true], gg + 1, by omega, rfl⟩
    · rw [N14 x e]
      have h := iv.g x hx
      simp only [frI, tsI, ru, iu, ou, eq_self, Nat.reduceEqDiff, false_and, and_false, if_false, true_and, and_true, and_self, e]
      exact h
  · intro x hx
    have h := iv.p1 x hx
    by_cases e : x = q
    · subst e
      rw [e24, e25, e26, e27, e28, e29, e32]
      simp only [frI, frO, tsI, tsO, ru, iu, ou, eq_self, Nat.reduceEqDiff, false_and, and_false, if_false, true_and, and_true, and_self, if_true, n10, cgO_n (show c' < 2 ^ 31 by omega), tkO_n (show p < 2 ^ 31 by omega)]
    · rw [N 24 x e (by decide) (by decide) (by decide), N 25 x e (by decide) (by decide) (by decide), N 26 x e (by decide) (by decide) (by decide), N 27 x e (by decide) (by decide) (by decide), N 28 x e (by decide) (by decide) (by decide), N 29 x e (by decide) (by decide) (by decide), N 32 x e (by decide) (by decide) (by decide)]
      simp only [frI, frO, tsI, tsO, ru, iu, ou, eq_self, Nat.reduceEqDiff, false_and, and_false, if_false, true_and, and_true, and_self, e]
      exact h
  · intro x hx k hk
    have h := iv.p2 x hx k hk
    by_cases e : x = q
    · subst e
      rw [fR31 hpq hk]
      have hr4 : (0 ≤ k ∧ k < 0 + 4) = True := eq_true (by omega)
      simp only [frI, tsI, ru, iu, ou, eq_self, Nat.reduceEqDiff, false_and, and_false, if_false, true_and, and_true, and_self, hr4, if_true]
      exact iv.p2 p hp k hk
    · rw [N31 x k e hk]
      simp only [frI, tsI, ru, iu, ou, eq_self, Nat.reduceEqDiff, false_and, and_false, if_false, true_and, and_true, and_self, e]
      exact h
  · intro x hx
    by_cases e : x = q
    · subst e
      refine ⟨Or.inr (Or.inl e24), fun _ => by rw [e32]; decide, fun _ => ⟨c', hc, e25, by rw [E17]; exact p3, ⟨gg + 1, gg + 1, e26, e14, by omega, by omega, by omega⟩, ⟨u0, us0, by rw [e27]; exact p8, by rw [E10]; exact p9, p10⟩, Or.inr ⟨?_, p, hp, e28⟩⟩⟩
      rw [e26]
      exact fun z => by have := (nI_eq (by omega) (by omega)).1 z; omega
    · obtain ⟨h1, h2, h3⟩ := iv.p3 x hx
      rw [N 24 x e (by decide) (by decide) (by decide), N 25 x e (by decide) (by decide) (by decide), N 26 x e (by decide) (by decide) (by decide), N 27 x e (by decide) (by decide) (by decide), N 28 x e (by decide) (by decide) (by decide), N 32 x e (by decide) (by decide) (by decide), E10, E17]
      refine ⟨h1, h2, fun h4 => ?_⟩
      obtain ⟨c1, g1, g2, g3, ⟨y, g, k1, k2, k3, k4, k5⟩, g5, g6⟩ := h3 h4
      refine ⟨c1, g1, g2, g3, ?_, g5, g6⟩
      by_cases ec : c1 = c'
      · subst ec
        obtain rfl : g = gg := (nI_eq k5 (by omega)).1 (k2.symm.trans p5)
        exact ⟨y, g + 1, k1, e14, k3, by omega, by omega⟩
      · exact ⟨y, g, k1, by rw [N14 c1 ec]; exact k2, k3, k4, k5⟩
  · have key : ∀ x, x < 16 → ¬ x = q → ¬ forkR r p q c' 24 x = 0 → forkR r p q c' 25 x = nI c' → ¬ forkR r p q c' 26 x = nI (gg + 1) := fun x hx e h1 h2 z => by
      rw [N 24 x e (by decide) (by decide) (by decide)] at h1
      rw [N 25 x e (by decide) (by decide) (by decide)] at h2
      rw [N 26 x e (by decide) (by decide) (by decide)] at z
      obtain ⟨c1, g1, g2, g3, ⟨y, g, k1, k2, k3, k4, k5⟩, -⟩ := (iv.p3 x hx).2.2 h1
      obtain rfl : c1 = c' := (nI_eq (by omega) (by omega)).1 (g2.symm.trans h2)
      obtain rfl : g = gg := (nI_eq k5 (by omega)).1 (k2.symm.trans p5)
      have := (nI_eq (by omega) (by omega)).1 (k1.symm.trans z)
      omega
    intro x y hx hy h1 h2 h3 h4
    by_cases ex : x = q
    · by_cases ey : y = q
      · rw [ex, ey]
      · rw [ex, e25] at h3
        rw [ex, e26] at h4
        exact absurd h4.symm (key y hy ey h2 h3.symm)
    · by_cases ey : y = q
      · rw [ey, e25] at h3
        rw [ey, e26] at h4
        exact absurd h4 (key x hx ex h1 h3)
      · rw [N 24 _ ex (by decide) (by decide) (by decide)] at h1
        rw [N 24 _ ey (by decide) (by decide) (by decide)] at h2
        rw [N 25 _ ex (by decide) (by decide) (by decide), N 25 _ ey (by decide) (by decide) (by decide)] at h3
        rw [N 26 _ ex (by decide) (by decide) (by decide), N 26 _ ey (by decide) (by decide) (by decide)] at h4
        exact iv.p4 x y hx hy h1 h2 h3 h4
  · intro x hx
    rw [E17]
    have ho : frO O p q c' mm 2 x 7 = O 2 x 7 := by simp only [frO, tsO, ru, iu, ou, eq_self, Nat.reduceEqDiff, false_and, and_false, if_false, true_and, and_true, and_self]
    rw [ho]
    rcases iv.i x hx with h | ⟨h1, y, h2, h3, h4, h5, h6⟩
    · exact Or.inl h
    · have ey : ¬ y = q := fun z => by rw [z, hq24] at h4; exact absurd h4 (by decide)
      exact Or.inr ⟨h1, y, h2, h3, by rw [N 24 y ey (by decide) (by decide) (by decide)]; exact h4, by rw [N 25 y ey (by decide) (by decide) (by decide)]; exact h5, by rw [N 26 y ey (by decide) (by decide) (by decide)]; exact h6⟩
  · intro x hx
    by_cases e : x = q
    · subst e
      refine ⟨mm, q1, e29, fun z => absurd (e24.symm.trans z) (by decide), fun k hk => ?_⟩
      obtain ⟨g, g1, g2, g3, s', g4, g5, g6⟩ := q4 k hk
      have hrm : (0 ≤ k ∧ k < mm) = True := eq_true (by omega)
      exact ⟨g, g1, by rw [fR30 hpq (by omega)]; exact g2, by simp only [frO, tsO, ru, iu, ou, eq_self, Nat.reduceEqDiff, false_and, and_false, if_false, true_and, and_true, and_self, hrm, if_true]; exact g3, s', g4, by rw [E36]; exact g5, by rw [hge]; exact g6⟩
    · obtain ⟨m', h1, h2, h3, h4⟩ := iv.h x hx
      refine ⟨m', h1, by rw [N 29 x e (by decide) (by decide) (by decide)]; exact h2, by rw [N 24 x e (by decide) (by decide) (by decide)]; exact h3, fun k hk => ?_⟩
      obtain ⟨g, g1, g2, g3, s', g4, g5, g6⟩ := h4 k hk
      exact ⟨g, g1, by rw [N30 x k e (by omega)]; exact g2, by simp only [frO, tsO, ru, iu, ou, eq_self, Nat.reduceEqDiff, false_and, and_false, if_false, true_and, and_true, and_self, e]; exact g3, s', g4, by rw [E36]; exact g5, by rw [hge]; exact g6⟩
theorem pj_1 (ht : t < 2 ^ 30) (hw : wf M) (iv : IV (ig M) (og M) r C t mp) (hp : p < 16) (h24 : r 24 p = nI 1) (hpc : r 25 p = nI c) (hc : c < C) {a b : Int32} : Pj p (nI 1) a b M r t := by
  have hC4 := iv.C4
  have hc4 : c < 4 := by omega
  have o2 := iv.live hp h24 hpc hc
  cases hf : ffind (pFreeP r) 0 16 with
  | none =>
    have hR : fForkR r p c = (-5, r) := by unfold fForkR; rw [hf]
    have k : ∀ d Q, Vc (d + 3) 13 [rf (some 1), rf (some (78 + 3 * p))] M Q = Q (some (.int (-5))) M := fun d Q => by
      show V (d + 3) 13 0 [some (rf (some 1)), some (rf (some (78 + 3 * p))), none] [] M Q = _
      simp only [s_13_0, s_13_1, s_13_4, s_13_5, s_13_6, s_13_9, s_13_11, eq_self, Nat.reduceLT, Nat.reduceLeDiff, Nat.reduceMod, Nat.reduceDiv, Nat.reduceAdd, Nat.reduceMul, Option.toList_some, Option.toList_none, List.cons_append, List.nil_append, List.append_nil, n10, n00, if_true, if_false, b0, b1, nI_add, true_and, and_true, and_self, sh_1, sh_2, sh_3, sh_36, sh_77, sh_126, k_1_0, k_1_1, k_1_2, k_1_3, k_1_4, k_1_5, k_2_0, sh_node, sh_cage, sh_cmts, sh_mrow, sh_que, sh_qv, sh_task, sh_tpow, sh_thld, sh_filt, sh_fop, sh_ffs, sh_fsc, sh_walk, ka_nodes, ka_cages, ka_tasks, ka_filts, kf_node_0, kf_cage_0, kf_cage_9, kf_task_0, kf_task_6, kf_task_7, kf_filt_0, kf_filt_1, kf_filt_2, kf_que, kf_cage_11, kf_cage_12, gi_K, gi_node1, gr_node, gi_cage1, gr_cage1, gr_cmts, gi_task1, gr_task1, gi_tpow, gr_thld, gi_filt, gi_fop, gi_ffs, gi_fsc, gr_walk, gr_mrow, gi_que, gi_qv, hw, k_firstFreeTask hw iv, hf, tO_z]
    exact Pj_pl (M' := M) (mp' := mp) (C' := C) (by decide) iv hp hc hpc (fun Q => by rw [pR1, hR]; exact pf_1 (d := 5) hw (k 2)) hw rfl (by rw [pR1, hR]; exact iv.le (by omega))
  | some q =>
    obtain ⟨-, hq, hq24⟩ := ffind_in hf
    have hq : q < 16 := by omega
    have hq24 : r 24 q = 0 := of_decide_eq_true hq24
    by_cases hov : ovr r true 4 (some c) = true
    · have hR : fForkR r p c = (-6, r) := by unfold fForkR; rw [hf]; exact if_pos hov
      have k : ∀ d Q, Vc (d + 3) 13 [rf (some 1), rf (some (78 + 3 * p))] M Q = Q (some (.int (-6))) M := fun d Q => by
        show V (d + 3) 13 0 [some (rf (some 1)), some (rf (some (78 + 3 * p))), none] [] M Q = _
        simp only [s_13_0, s_13_1, s_13_4, s_13_5, s_13_6, s_13_12, s_13_13, s_13_14, s_13_17, s_13_20, s_13_23, s_13_25, eq_self, Nat.reduceLT, Nat.reduceLeDiff, Nat.reduceMod, Nat.reduceDiv, Nat.reduceAdd, Nat.reduceMul, Option.toList_some, Option.toList_none, List.cons_append, List.nil_append, List.append_nil, n10, n00, if_true, if_false, b0, b1, nI_add, true_and, and_true, and_self, sh_1, sh_2, sh_3, sh_36, sh_77, sh_126, k_1_0, k_1_1, k_1_2, k_1_3, k_1_4, k_1_5, k_2_0, sh_node, sh_cage, sh_cmts, sh_mrow, sh_que, sh_qv, sh_task, sh_tpow, sh_thld, sh_filt, sh_fop, sh_ffs, sh_fsc, sh_walk, ka_nodes, ka_cages, ka_tasks, ka_filts, kf_node_0, kf_cage_0, kf_cage_9, kf_task_0, kf_task_6, kf_task_7, kf_filt_0, kf_filt_1, kf_filt_2, kf_que, kf_cage_11, kf_cage_12, gi_K, gi_node1, gr_node, gi_cage1, gr_cage1, gr_cmts, gi_task1, gr_task1, gi_tpow, gr_thld, gi_filt, gi_fop, gi_ffs, gi_fsc, gr_walk, gr_mrow, gi_que, gi_qv, hw, hp, o2, k_firstFreeTask hw iv, hf, tO_s, so_no, k_tq hw iv hc, hov]
      exact Pj_pl (M' := M) (mp' := mp) (C' := C) (by decide) iv hp hc hpc (fun Q => by rw [pR1, hR]; exact pf_1 (d := 5) hw (k 2)) hw rfl (by rw [pR1, hR]; exact iv.le (by omega))
    · obtain ⟨m, m1, m2, -⟩ := iv.hold hp
      have hpq : ¬ q = p := fun z => by rw [z, h24] at hq24; exact absurd hq24 (by decide)
      have e26 : forkR r p q c 26 q = r 14 c + nI 1 := by simp only [forkR, fk1, fk2, cpP, cpF, begR, ru, iu, ou, eq_self, Nat.reduceEqDiff, false_and, and_false, if_false, true_and, and_true, and_self, if_true]
      have hR : fForkR r p c = (r 14 c + nI 1, forkR r p q c) := by unfold fForkR; rw [hf]; rw [← e26]; exact if_neg hov
      obtain ⟨M', a1, a2, a3, a4, a5⟩ := k_frk (d := 3) hw iv hp hq hpq h24 hpc hc m1 m2 (y := r 14 c) rfl
      have k : ∀ d, (∀ Q, V (d + 3) 13 26 [some (rf (some 1)), some (rf (some (78 + 3 * p))), some (rf (some (78 + 3 * q)))] [] M Q = Q (some (.int (r 14 c + nI 1))) M') → ∀ Q, Vc (d + 3) 13 [rf (some 1), rf (some (78 + 3 * p))] M Q = Q (some (.int (r 14 c + nI 1))) M' := fun d h Q => by
        show V (d + 3) 13 0 [some (rf (some 1)), some (rf (some (78 + 3 * p))), none] [] M Q = _
        simp only [s_13_0, s_13_1, s_13_4, s_13_5, s_13_6, s_13_12, s_13_13, s_13_14, s_13_17, s_13_20, eq_self, Nat.reduceLT, Nat.reduceLeDiff, Nat.reduceMod, Nat.reduceDiv, Nat.reduceAdd, Nat.reduceMul, Option.toList_some, Option.toList_none, List.cons_append, List.nil_append, List.append_nil, n10, n00, if_true, if_false, b0, b1, nI_add, true_and, and_true, and_self, sh_1, sh_2, sh_3, sh_36, sh_77, sh_126, k_1_0, k_1_1, k_1_2, k_1_3, k_1_4, k_1_5, k_2_0, sh_node, sh_cage, sh_cmts, sh_mrow, sh_que, sh_qv, sh_task, sh_tpow, sh_thld, sh_filt, sh_fop, sh_ffs, sh_fsc, sh_walk, ka_nodes, ka_cages, ka_tasks, ka_filts, kf_node_0, kf_cage_0, kf_cage_9, kf_task_0, kf_task_6, kf_task_7, kf_filt_0, kf_filt_1, kf_filt_2, kf_que, kf_cage_11, kf_cage_12, gi_K, gi_node1, gr_node, gi_cage1, gr_cage1, gr_cmts, gi_task1, gr_task1, gi_tpow, gr_thld, gi_filt, gi_fop, gi_ffs, gi_fsc, gr_walk, gr_mrow, gi_que, gi_qv, hw, hp, o2, k_firstFreeTask hw iv, hf, tO_s, so_no, k_tq hw iv hc, hov, h, Bool.false_eq_true]
      exact Pj_pl (M' := M') (mp' := mp) (C' := C) (by decide) iv hp hc hpc (fun Q => by rw [pR1, hR]; exact pf_1 (d := 5) hw (k 2 a1)) a2 a3 (by rw [pR1, hR, a4, a5]; exact iv_fork iv ht hp hq h24 hpc hc hq24 m2 m1)
end
