section
variable {d : Nat} {M : mH} {Q : Option Value → mH → Prop} {C t c p n i e : Nat} {mp : MP} {I : CI} {O : CO} {r s : RS}
/-! UNMOUNT -/
/-- which place's row is at place l once the row of place i has gone to place e -/
def sg (i e l : Nat) : Nat := if l < i then l else if l < e then l + 1 else if l = e then i else l
theorem sg_lt (hi : i ≤ e) (he : e < 4) {l : Nat} (hl : l < 4) : sg i e l < 4 := by
  unfold sg; split
  · omega
  · split
    · omega
    · split
      · omega
      · omega
theorem sg_inj (hi : i ≤ e) {l l' : Nat} (h : sg i e l = sg i e l') : l = l' := by
  unfold sg at h
  by_cases a1 : l < i
  · rw [if_pos a1] at h
    by_cases a2 : l' < i
    · rw [if_pos a2] at h; exact h
    · rw [if_neg a2] at h
      by_cases a3 : l' < e
      · rw [if_pos a3] at h; omega
      · rw [if_neg a3] at h
        by_cases a4 : l' = e
        · rw [if_pos a4] at h; omega
        · rw [if_neg a4] at h; omega
  · rw [if_neg a1] at h
    by_cases b1 : l < e
    · rw [if_pos b1] at h
      by_cases a2 : l' < i
      · rw [if_pos a2] at h; omega
      · rw [if_neg a2] at h
        by_cases a3 : l' < e
        · rw [if_pos a3] at h; omega
        · rw [if_neg a3] at h
          by_cases a4 : l' = e
          · rw [if_pos a4] at h; omega
          · rw [if_neg a4] at h; omega
    · rw [if_neg b1] at h
      by_cases b2 : l = e
      · rw [if_pos b2] at h
        by_cases a2 : l' < i
        · rw [if_pos a2] at h; omega
        · rw [if_neg a2] at h
          by_cases a3 : l' < e
          · rw [if_pos a3] at h; omega
          · rw [if_neg a3] at h
            by_cases a4 : l' = e
            · omega
            · rw [if_neg a4] at h; omega
      · rw [if_neg b2] at h
        by_cases a2 : l' < i
        · rw [if_pos a2] at h; omega
        · rw [if_neg a2] at h
          by_cases a3 : l' < e
          · rw [if_pos a3] at h; omega
          · rw [if_neg a3] at h
            by_cases a4 : l' = e
            · rw [if_pos a4] at h; omega
            · rw [if_neg a4] at h; exact h
theorem sg_i (l : Nat) : sg i i l = l := by
  unfold sg
  by_cases a : l < i
  · rw [if_pos a]
  · rw [if_neg a, if_neg a]
    by_cases b : l = i
    · rw [if_pos b, b]
    · rw [if_neg b]
/-- before the row's place the loop changes nothing -/
def sgj (i j l : Nat) : Nat := if j ≤ i then l else sg i j l
theorem k_drop_l (hc : c < 4) {n e : Nat} {f : Nat → Nat} (hf : ∀ l, l < 4 → f l < 4) (hfi : ∀ l l', l < 4 → l' < 4 → f l = f l' → l = l') (hn : n ≤ 4) (he : e = if n < 4 then n else 3) (hi : i < n) : ∀ k j (M : mH), wf M → j + k = e → (∀ l, l < 4 → og M 3 c l = some (39 + 10 * c + f (sgj i j l))) → ig M 2 c 10 = nI n → ∃ M', (∀ Q, V d 104 2 [some (rf (some (37 + 10 * c))), some (rf (some (39 + 10 * c + f i))), some (.int (nI j))] [] M Q = V d 104 54 [some (rf (some (37 + 10 * c))), some (rf (some (39 + 10 * c + f i))), some (.int (nI e))] [] M' Q) ∧ wf M' ∧ rg M' = rg M ∧ ig M' = ig M ∧ (∀ l, l < 4 → og M' 3 c l = some (39 + 10 * c + f (sgj i e l))) ∧ ∀ g x l, ¬ (g = 3 ∧ x = c) → og M' g x l = og M g x l := by
  have he3 : e ≤ 3 := by rw [he]; split <;> omega
  have hen : e ≤ n := by rw [he]; split <;> omega
  have hie : i ≤ e := by rw [he]; split <;> omega
  have hi4 : i < 4 := by omega
  intro k
  induction k with
  | zero =>
    intro j M hw hj hA h10
    obtain rfl : j = e := by omega
    refine ⟨M, fun Q => ?_, hw, rfl, rfl, hA, fun _ _ _ _ => rfl⟩
    rw [s_104_2]
    by_cases h4 : n < 4
    · rw [if_pos h4] at he
      subst he
      simp only [s_104_3, s_104_4, s_104_7, eq_self, Nat.reduceLT, Nat.reduceLeDiff, Nat.reduceMod, Nat.reduceDiv, Nat.reduceAdd, Nat.reduceMul, Option.toList_some, Option.toList_none, List.cons_append, List.nil_append, List.append_nil, n10, n00, if_true, if_false, b0, b1, nI_add, true_and, and_true, and_self, sh_1, sh_2, sh_3, sh_36, sh_77, sh_126, k_1_0, k_1_1, k_1_2, k_1_3, k_1_4, k_1_5, k_2_0, sh_node, sh_cage, sh_cmts, sh_mrow, sh_que, sh_qv, sh_task, sh_tpow, sh_thld, sh_filt, sh_fop, sh_ffs, sh_fsc, sh_walk, ka_nodes, ka_cages, ka_tasks, ka_filts, kf_node_0, kf_cage_0, kf_cage_9, kf_task_0, kf_task_6, kf_task_7, kf_filt_0, kf_filt_1, kf_filt_2, kf_que, kf_cage_11, kf_cage_12, gi_K, gi_node1, gr_node, gi_cage1, gr_cage1, gr_cmts, gi_task1, gr_task1, gi_tpow, gr_thld, gi_filt, gi_fop, gi_ffs, gi_fsc, gr_walk, gr_mrow, gi_que, gi_qv, hw, hc, h10, show nI j ≤ nI j from Int32.le_refl _]
    · rw [if_neg h4] at he
      subst he
      obtain rfl : n = 4 := by omega
      simp only [s_104_3, s_104_4, s_104_7, s_104_10, s_104_11, s_104_12, eq_self, Nat.reduceLT, Nat.reduceLeDiff, Nat.reduceMod, Nat.reduceDiv, Nat.reduceAdd, Nat.reduceMul, Option.toList_some, Option.toList_none, List.cons_append, List.nil_append, List.append_nil, n10, n00, if_true, if_false, b0, b1, nI_add, true_and, and_true, and_self, sh_1, sh_2, sh_3, sh_36, sh_77, sh_126, k_1_0, k_1_1, k_1_2, k_1_3, k_1_4, k_1_5, k_2_0, sh_node, sh_cage, sh_cmts, sh_mrow, sh_que, sh_qv, sh_task, sh_tpow, sh_thld, sh_filt, sh_fop, sh_ffs, sh_fsc, sh_walk, ka_nodes, ka_cages, ka_tasks, ka_filts, kf_node_0, kf_cage_0, kf_cage_9, kf_task_0, kf_task_6, kf_task_7, kf_filt_0, kf_filt_1, kf_filt_2, kf_que, kf_cage_11, kf_cage_12, gi_K, gi_node1, gr_node, gi_cage1, gr_cage1, gr_cmts, gi_task1, gr_task1, gi_tpow, gr_thld, gi_filt, gi_fop, gi_ffs, gi_fsc, gr_walk, gr_mrow, gi_que, gi_qv, hw, hc, h10, show ¬ nI 4 ≤ nI 3 by decide, show nI 3 ≤ nI 3 by decide]
  | succ k ih =>
    intro j M hw hj hA h10
    have hj3 : j < 3 := by omega
    have hjn : j < n := by omega
    have hj4 : j < 4 := by omega
    have hj14 : j + 1 < 4 := by omega
    have eA := hA j hj4
    have eB := hA (j + 1) hj14
    by_cases hji : j < i
    · have e1 : sgj i j j = j := by unfold sgj; rw [if_pos (by omega)]
      have hne : ¬ (39 + 10 * c + f (sgj i j j)) = 39 + 10 * c + f i := fun z => by
        rw [e1] at z
        have := hfi j i hj4 hi4 (by omega)
        omega
      have hne' : ¬ some (39 + 10 * c + f (sgj i j j)) = some (39 + 10 * c + f i) := fun z => hne (Option.some.inj z)
      obtain ⟨M', k1, k2, k3, k4, k5, k6⟩ := ih (j + 1) M hw (by omega) (fun l hl => by
        rw [hA l hl]
        have : sgj i (j + 1) l = sgj i j l := by unfold sgj; rw [if_pos (by omega), if_pos (by omega)]
        rw [this]) h10
      refine ⟨M', fun Q => ?_, k2, k3, k4, k5, k6⟩
      rw [s_104_2]
      simp only [s_104_0, s_104_1, s_104_3, s_104_4, s_104_7, s_104_10, s_104_11, s_104_12, s_104_15, s_104_16, s_104_19, s_104_20, s_104_21, s_104_22, s_104_25, s_104_26, s_104_29, s_104_30, s_104_31, s_104_34, s_104_35, s_104_36, s_104_37, s_104_38, s_104_39, s_104_40, s_104_43, s_104_44, s_104_45, s_104_46, s_104_47, s_104_48, s_104_51, s_104_55, s_104_58, s_104_61, s_104_62, s_104_63, s_104_66, s_104_67, s_104_68, s_104_71, eq_self, Nat.reduceLT, Nat.reduceLeDiff, Nat.reduceMod, Nat.reduceDiv, Nat.reduceAdd, Nat.reduceMul, Option.toList_some, Option.toList_none, List.cons_append, List.nil_append, List.append_nil, n10, n00, if_true, if_false, b0, b1, nI_add, true_and, and_true, and_self, sh_1, sh_2, sh_3, sh_36, sh_77, sh_126, k_1_0, k_1_1, k_1_2, k_1_3, k_1_4, k_1_5, k_2_0, sh_node, sh_cage, sh_cmts, sh_mrow, sh_que, sh_qv, sh_task, sh_tpow, sh_thld, sh_filt, sh_fop, sh_ffs, sh_fsc, sh_walk, ka_nodes, ka_cages, ka_tasks, ka_filts, kf_node_0, kf_cage_0, kf_cage_9, kf_task_0, kf_task_6, kf_task_7, kf_filt_0, kf_filt_1, kf_filt_2, kf_que, kf_cage_11, kf_cage_12, gi_K, gi_node1, gr_node, gi_cage1, gr_cage1, gr_cmts, gi_task1, gr_task1, gi_tpow, gr_thld, gi_filt, gi_fop, gi_ffs, gi_fsc, gr_walk, gr_mrow, gi_que, gi_qv, hw, hc, hj4, h10, nI_ge hjn (by omega), nI_ge hj3 (by decide), eA, hne', k1]
    · have e1 : sgj i j j = i := by
        unfold sgj
        by_cases z : j ≤ i
        · rw [if_pos z]; omega
        · rw [if_neg z]; unfold sg; rw [if_neg (by omega), if_neg (by omega), if_pos rfl]
      have e2 : sgj i j (j + 1) = j + 1 := by
        unfold sgj
        by_cases z : j ≤ i
        · rw [if_pos z]
        · rw [if_neg z]; unfold sg; rw [if_neg (by omega), if_neg (by omega), if_neg (by omega)]
      rw [e1] at eA
      rw [e2] at eB
      have hf1 := hf (j + 1) hj14
      have hfi4 := hf i hi4
      have w1 := C_cmts hw hc hj4 (x := some (39 + 10 * c + f (j + 1)))
      have w2 := C_cmts w1.w hc hj14 (x := some (39 + 10 * c + f i))
      have st1 := fun (Q : Option Value → mH → Prop) (L : mL) (st : List Value) => s_104_38 (d := d) (Q := Q) (L := L) (st := st) (a := 38 + 10 * c) (v := 39 + 10 * c + f (j + 1)) (j := j) hw (by rw [sh_cmts c hc]; decide) (by rw [sh_cmts c hc, sh_mrow c hc _ hf1]; rfl) (by rw [sh_cmts c hc]; exact hj4)
      have st2 := fun (Q : Option Value → mH → Prop) (L : mL) (st : List Value) => s_104_47 (d := d) (Q := Q) (L := L) (st := st) (a := 38 + 10 * c) (v := 39 + 10 * c + f i) (j := j + 1) w1.w (by rw [sh_cmts c hc]; decide) (by rw [sh_cmts c hc, sh_mrow c hc _ hfi4]; rfl) (by rw [sh_cmts c hc]; exact hj14)
      obtain ⟨M', k1, k2, k3, k4, k5, k6⟩ := ih (j + 1) _ w2.w (by omega) (fun l hl => by
        rw [w2.o, w1.o]
        by_cases l1 : l = j + 1
        · subst l1
          simp only [ru, iu, ou, eq_self, Nat.reduceEqDiff, false_and, and_false, if_false, true_and, and_true, and_self, if_true]
          have : sgj i (j + 1) (j + 1) = i := by unfold sgj; rw [if_neg (by omega)]; unfold sg; rw [if_neg (by omega), if_neg (by omega), if_pos rfl]
          rw [this]
        · by_cases l2 : l = j
          · subst l2
            simp only [ru, iu, ou, eq_self, Nat.reduceEqDiff, false_and, and_false, if_false, true_and, and_true, and_self, l1, if_true]
            have : sgj i (l + 1) l = l + 1 := by unfold sgj; rw [if_neg (by omega)]; unfold sg; rw [if_neg (by omega), if_pos (by omega)]
            rw [this]
          · simp only [ru, iu, ou, eq_self, Nat.reduceEqDiff, false_and, and_false, if_false, true_and, and_true, and_self, l1, l2]
            rw [hA l hl]
            have : sgj i (j + 1) l = sgj i j l := by
              unfold sgj
              rw [if_neg (show ¬ j + 1 ≤ i by omega)]
              by_cases z : j ≤ i
              · obtain rfl : j = i := by omega
                rw [if_pos (Nat.le_refl _)]
                unfold sg
                by_cases a1 : l < j
                · rw [if_pos a1]
                · rw [if_neg a1, if_neg (by omega), if_neg (by omega)]
              · rw [if_neg z]
                unfold sg
                by_cases a1 : l < i
                · rw [if_pos a1, if_pos a1]
                · rw [if_neg a1, if_neg a1]
                  by_cases a2 : l < j
                  · rw [if_pos (by omega), if_pos a2]
                  · rw [if_neg (by omega), if_neg (by omega), if_neg a2, if_neg (by omega)]
            rw [this]) (by rw [w2.i, w1.i]; exact h10)
      refine ⟨M', fun Q => ?_, k2, by rw [k3, w2.r, w1.r], by rw [k4, w2.i, w1.i], k5, fun g x l z => ?_⟩
      · rw [s_104_2]
        simp only [s_104_0, s_104_1, s_104_3, s_104_4, s_104_7, s_104_10, s_104_11, s_104_12, s_104_15, s_104_16, s_104_19, s_104_20, s_104_21, s_104_22, s_104_25, s_104_26, s_104_29, s_104_30, s_104_31, s_104_34, s_104_35, s_104_36, s_104_37, s_104_39, s_104_40, s_104_43, s_104_44, s_104_45, s_104_46, s_104_48, s_104_51, s_104_55, s_104_58, s_104_61, s_104_62, s_104_63, s_104_66, s_104_67, s_104_68, s_104_71, st1, st2, eq_self, Nat.reduceLT, Nat.reduceLeDiff, Nat.reduceMod, Nat.reduceDiv, Nat.reduceAdd, Nat.reduceMul, Option.toList_some, Option.toList_none, List.cons_append, List.nil_append, List.append_nil, n10, n00, if_true, if_false, b0, b1, nI_add, true_and, and_true, and_self, sh_1, sh_2, sh_3, sh_36, sh_77, sh_126, k_1_0, k_1_1, k_1_2, k_1_3, k_1_4, k_1_5, k_2_0, sh_node, sh_cage, sh_cmts, sh_mrow, sh_que, sh_qv, sh_task, sh_tpow, sh_thld, sh_filt, sh_fop, sh_ffs, sh_fsc, sh_walk, ka_nodes, ka_cages, ka_tasks, ka_filts, kf_node_0, kf_cage_0, kf_cage_9, kf_task_0, kf_task_6, kf_task_7, kf_filt_0, kf_filt_1, kf_filt_2, kf_que, kf_cage_11, kf_cage_12, gi_K, gi_node1, gr_node, gi_cage1, gr_cage1, gr_cmts, gi_task1, gr_task1, gi_tpow, gr_thld, gi_filt, gi_fop, gi_ffs, gi_fsc, gr_walk, gr_mrow, gi_que, gi_qv, hw, w1.w, hc, hj4, hj14, h10, nI_ge hjn (by omega), nI_ge hj3 (by decide), eA, eB, k1]
      · rw [k6 g x l z, w2.o, w1.o]
        have z1 : ¬ (g = 3 ∧ x = c ∧ l = j + 1) := fun y => z ⟨y.1, y.2.1⟩
        have z2 : ¬ (g = 3 ∧ x = c ∧ l = j) := fun y => z ⟨y.1, y.2.1⟩
        simp only [ou, z1, z2, if_false]
theorem k_drop (hw : wf M) (hc : c < 4) {f : Nat → Nat} (hf : ∀ l, l < 4 → f l < 4) (hfi : ∀ l l', l < 4 → l' < 4 → f l = f l' → l = l') (hn : n ≤ 4) (hi : i < n) (hA : ∀ l, l < 4 → og M 3 c l = some (39 + 10 * c + f l)) (h10 : ig M 2 c 10 = nI n) : ∃ M', (∀ Q, Vc d 104 [rf (some (37 + 10 * c)), rf (some (39 + 10 * c + f i))] M Q = Q none M') ∧ wf M' ∧ rg M' = rg M ∧ ig M' = iu (ig M) 2 c 10 (nI (n - 1)) ∧ (∀ l, l < 4 → og M' 3 c l = some (39 + 10 * c + f (sg i (if n < 4 then n else 3) l))) ∧ ∀ g x l, ¬ (g = 3 ∧ x = c) → og M' g x l = og M g x l := by
  have hie : i ≤ (if n < 4 then n else 3) := by split <;> omega
  obtain ⟨M1, k1, k2, k3, k4, k5, k6⟩ := k_drop_l (d := d) hc hf hfi hn rfl hi (if n < 4 then n else 3) 0 M hw (by omega) (fun l hl => by rw [hA l hl]; unfold sgj; rw [if_pos (by omega)]) h10
  have w := C_cage_10 k2 hc (x := nI (n - 1))
  have h10' : ig M1 2 c 10 = nI n := by rw [k4]; exact h10
  have hs : nI n - nI 1 = nI (n - 1) := pk_sub (by omega)
  have hpos : ¬ nI n ≤ 0 := nI_ge (a := 0) (by omega) (by omega)
  refine ⟨mu M1 (37 + 10 * c) 10 (.int (nI (n - 1))), fun Q => ?_, w.w, w.r.trans k3, by rw [w.i, k4], fun l hl => ?_, fun g x l z => by rw [w.o]; exact k6 g x l z⟩
  · show V d 104 0 [some (rf (some (37 + 10 * c))), some (rf (some (39 + 10 * c + f i))), none] [] M Q = _
    rw [s_104_0, s_104_1, k1]
    simp only [s_104_54, s_104_55, s_104_58, s_104_61, s_104_62, s_104_63, s_104_66, s_104_67, s_104_68, s_104_71, eq_self, Nat.reduceLT, Nat.reduceLeDiff, Nat.reduceMod, Nat.reduceDiv, Nat.reduceAdd, Nat.reduceMul, Option.toList_some, Option.toList_none, List.cons_append, List.nil_append, List.append_nil, n10, n00, if_true, if_false, b0, b1, nI_add, true_and, and_true, and_self, sh_1, sh_2, sh_3, sh_36, sh_77, sh_126, k_1_0, k_1_1, k_1_2, k_1_3, k_1_4, k_1_5, k_2_0, sh_node, sh_cage, sh_cmts, sh_mrow, sh_que, sh_qv, sh_task, sh_tpow, sh_thld, sh_filt, sh_fop, sh_ffs, sh_fsc, sh_walk, ka_nodes, ka_cages, ka_tasks, ka_filts, kf_node_0, kf_cage_0, kf_cage_9, kf_task_0, kf_task_6, kf_task_7, kf_filt_0, kf_filt_1, kf_filt_2, kf_que, kf_cage_11, kf_cage_12, gi_K, gi_node1, gr_node, gi_cage1, gr_cage1, gr_cmts, gi_task1, gr_task1, gi_tpow, gr_thld, gi_filt, gi_fop, gi_ffs, gi_fsc, gr_walk, gr_mrow, gi_que, gi_qv, k2, hc, h10', hpos, hs]
  · rw [w.o, k5 l hl]
    by_cases z : (if n < 4 then n else 3) ≤ i
    · have : (if n < 4 then n else 3) = i := by omega
      unfold sgj
      rw [if_pos z, this, sg_i]
    · unfold sgj; rw [if_neg z]
/-- the place that is at place j once place i is gone; and back -/
def upP (i j : Nat) : Nat := if j < i then j else j + 1
def dnP (i j : Nat) : Nat := if j < i then j else j - 1
def mpD (mp : MP) (c i : Nat) : MP := (fun x => if x = c then mp.1 c - 1 else mp.1 x, fun x j => if x = c then mp.2.1 c (upP i j) else mp.2.1 x j, fun y => if (4 * c ≤ y ∧ y < 4 * c + 4) then dnP i (mp.2.2.1 y) else mp.2.2.1 y, fun x l => if x = c then mp.2.2.2 c (sg i (if mp.1 c < 4 then mp.1 c else 3) l) else mp.2.2.2 x l)
theorem iv_unm (iv : IV I O r C t mp) (hc : c < C) {O' : CO} (hi : i < mp.1 c) (hnb : ∀ u, u < mp.1 c → ¬ r 20 (mp.2.1 c u) = nI (mp.2.1 c i)) (h3 : ∀ l, l < 4 → O' 3 c l = some (39 + 10 * c + mp.2.2.2 c (sg i (if mp.1 c < 4 then mp.1 c else 3) l))) (hO : ∀ g x l, ¬ (g = 3 ∧ x = c) → O' g x l = O g x l) : IV (iu I 2 c 10 (nI (mp.1 c - 1))) O' (ru r 18 (mp.2.1 c i) (nI 0)) C t (mpD mp c i) := by
  have hC4 := iv.C4
  have hc4 : c < 4 := by omega
  obtain ⟨hn4, -, -, hpi, hinj⟩ := iv.m1 c hc4
  have hie : i ≤ (if mp.1 c < 4 then mp.1 c else 3) := by split <;> omega
  have he3 : (if mp.1 c < 4 then mp.1 c else 3) < 4 := by split <;> omega
  have hne1 : mp.1 c - 1 ≤ (if mp.1 c < 4 then mp.1 c else 3) := by split <;> omega
  have H : ∀ f, ¬ f = 3 → O' f = O f := fun f hf => by funext x l; exact hO f x l (fun z => hf z.1)
  have H1 := H 1 (by decide)
  have H2 := H 2 (by decide)
  have H4 := H 4 (by decide)
  have H9 := H 9 (by decide)
  have H11 := H 11 (by decide)
  have hd : ∀ x y, Desc (ru r 18 (mp.2.1 c i) (nI 0)) x y = Desc r x y := fun x y => Desc.eq (fun j => by simp only [ru, iu, ou, eq_self, Nat.reduceEqDiff, false_and, and_false, if_false, true_and, and_true, and_self])
  have A1 : ∀ x, ¬ x = c → (mpD mp c i).1 x = mp.1 x := fun x h => by simp only [mpD, h, if_false]
  have A1c : (mpD mp c i).1 c = mp.1 c - 1 := by simp only [mpD, if_true]
  have A2 : ∀ x j, ¬ x = c → (mpD mp c i).2.1 x j = mp.2.1 x j := fun x j h => by simp only [mpD, h, if_false]
  have A2c : ∀ j, (mpD mp c i).2.1 c j = mp.2.1 c (upP i j) := fun j => by simp only [mpD, if_true]
  have A4 : ∀ x l, ¬ x = c → (mpD mp c i).2.2.2 x l = mp.2.2.2 x l := fun x l h => by simp only [mpD, h, if_false]
  have A4c : ∀ l, (mpD mp c i).2.2.2 c l = mp.2.2.2 c (sg i (if mp.1 c < 4 then mp.1 c else 3) l) := fun l => by simp only [mpD, if_true]
  have A4p : ∀ j, j < mp.1 c - 1 → (mpD mp c i).2.2.2 c j = mp.2.2.2 c (upP i j) := fun j hj => by
    rw [A4c]
    have : sg i (if mp.1 c < 4 then mp.1 c else 3) j = upP i j := by
      unfold sg upP
      by_cases z : j < i
      · rw [if_pos z, if_pos z]
      · rw [if_neg z, if_neg z, if_pos (by omega)]
    rw [this]
  have up_lt : ∀ j, j < mp.1 c - 1 → upP i j < mp.1 c ∧ ¬ upP i j = i := fun j hj => by
    unfold upP; split <;> omega
  have up_dn : ∀ u, u < mp.1 c → ¬ u = i → upP i (dnP i u) = u ∧ dnP i u < mp.1 c - 1 := fun u hu hne => by
    unfold upP dnP
    by_cases z : u < i
    · rw [if_pos z, if_pos z]; omega
    · rw [if_neg z, if_neg (by omega)]; omega
  have dn_up : ∀ j, dnP i (upP i j) = j := fun j => by
    unfold upP dnP
    by_cases z : j < i
    · rw [if_pos z, if_pos z]
    · rw [if_neg z, if_neg (by omega)]; omega
  have hsk : ∀ x u, x < 4 → u < mp.1 x → ¬ (x = c ∧ u = i) → ¬ mp.2.1 x u = mp.2.1 c i := fun x u hx hu hne z => by
    have q1 := pos_lt iv.m2 hx hu
    have q2 := pos_lt iv.m2 hc4 hi
    have ex : x = c := by omega
    subst ex
    exact hne ⟨rfl, pos_inj iv.m2 hx hu hi z⟩
  refine ⟨iv.n1.cg (by simp only [H1, H2, H4, H9, H11, ru, iu, ou, eq_self, Nat.reduceEqDiff, false_and, and_false, if_false, true_and, and_true, and_self, implies_true]) (by simp only [H1, H2, H4, H9, H11, ru, iu, ou, eq_self, Nat.reduceEqDiff, false_and, and_false, if_false, true_and, and_true, and_self, implies_true]), iv.n2.cg (by simp only [H1, H2, H4, H9, H11, ru, iu, ou, eq_self, Nat.reduceEqDiff, false_and, and_false, if_false, true_and, and_true, and_self, implies_true]) (by simp only [H1, H2, H4, H9, H11, ru, iu, ou, eq_self, Nat.reduceEqDiff, false_and, and_false, if_false, true_and, and_true, and_self, implies_true]), iv.n3.cg (by simp only [H1, H2, H4, H9, H11, ru, iu, ou, eq_self, Nat.reduceEqDiff, false_and, and_false, if_false, true_and, and_true, and_self, implies_true]), iv.k.cg (by simp only [H1, H2, H4, H9, H11, ru, iu, ou, eq_self, Nat.reduceEqDiff, false_and, and_false, if_false, true_and, and_true, and_self, implies_true]) (by simp only [H1, H2, H4, H9, H11, ru, iu, ou, eq_self, Nat.reduceEqDiff, false_and, and_false, if_false, true_and, and_true, and_self, implies_true]), iv.c.cg (by simp only [H1, H2, H4, H9, H11, ru, iu, ou, eq_self, Nat.reduceEqDiff, false_and, and_false, if_false, true_and, and_true, and_self, implies_true]) (by simp only [H1, H2, H4, H9, H11, ru, iu, ou, eq_self, Nat.reduceEqDiff, false_and, and_false, if_false, true_and, and_true, and_self, implies_true]), iv.g.cg (by simp only [H1, H2, H4, H9, H11, ru, iu, ou, eq_self, Nat.reduceEqDiff, false_and, and_false, if_false, true_and, and_true, and_self, implies_true]) (by simp only [H1, H2, H4, H9, H11, ru, iu, ou, eq_self, Nat.reduceEqDiff, false_and, and_false, if_false, true_and, and_true, and_self, implies_true]), iv.p1.cg (by simp only [H1, H2, H4, H9, H11, ru, iu, ou, eq_self, Nat.reduceEqDiff, false_and, and_false, if_false, true_and, and_true, and_self, implies_true]) (by simp only [H1, H2, H4, H9, H11, ru, iu, ou, eq_self, Nat.reduceEqDiff, false_and, and_false, if_false, true_and, and_true, and_self, implies_true]), iv.p2.cg (by simp only [H1, H2, H4, H9, H11, ru, iu, ou, eq_self, Nat.reduceEqDiff, false_and, and_false, if_false, true_and, and_true, and_self, implies_true]) (by simp only [H1, H2, H4, H9, H11, ru, iu, ou, eq_self, Nat.reduceEqDiff, false_and, and_false, if_false, true_and, and_true, and_self, implies_true]), iv.p3.cg (by simp only [H1, H2, H4, H9, H11, ru, iu, ou, eq_self, Nat.reduceEqDiff, false_and, and_false, if_false, true_and, and_true, and_self, implies_true]), iv.p4.cg (by simp only [H1, H2, H4, H9, H11, ru, iu, ou, eq_self, Nat.reduceEqDiff, false_and, and_false, if_false, true_and, and_true, and_self, implies_true]), iv.i.cg (by simp only [H1, H2, H4, H9, H11, ru, iu, ou, eq_self, Nat.reduceEqDiff, false_and, and_false, if_false, true_and, and_true, and_self, implies_true]) (by simp only [H1, H2, H4, H9, H11, ru, iu, ou, eq_self, Nat.reduceEqDiff, false_and, and_false, if_false, true_and, and_true, and_self, implies_true]), iv.h.cg (by simp only [H1, H2, H4, H9, H11, ru, iu, ou, eq_self, Nat.reduceEqDiff, false_and, and_false, if_false, true_and, and_true, and_self, implies_true]) (by simp only [H1, H2, H4, H9, H11, ru, iu, ou, eq_self, Nat.reduceEqDiff, false_and, and_false, if_false, true_and, and_true, and_self, implies_true]), iv.f1.cg (by simp only [H1, H2, H4, H9, H11, ru, iu, ou, eq_self, Nat.reduceEqDiff, false_and, and_false, if_false, true_and, and_true, and_self, implies_true]) (by simp only [H1, H2, H4, H9, H11, ru, iu, ou, eq_self, Nat.reduceEqDiff, false_and, and_false, if_false, true_and, and_true, and_self, implies_true]) (by simp only [H1, H2, H4, H9, H11, ru, iu, ou, eq_self, Nat.reduceEqDiff, false_and, and_false, if_false, true_and, and_true, and_self, implies_true]), iv.f2.cg (by simp only [H1, H2, H4, H9, H11, ru, iu, ou, eq_self, Nat.reduceEqDiff, false_and, and_false, if_false, true_and, and_true, and_self, implies_true]), iv.q.cg (by simp only [H1, H2, H4, H9, H11, ru, iu, ou, eq_self, Nat.reduceEqDiff, false_and, and_false, if_false, true_and, and_true, and_self, implies_true]) (by simp only [H1, H2, H4, H9, H11, ru, iu, ou, eq_self, Nat.reduceEqDiff, false_and, and_false, if_false, true_and, and_true, and_self, implies_true]) (by simp only [H1, H2, H4, H9, H11, ru, iu, ou, eq_self, Nat.reduceEqDiff, false_and, and_false, if_false, true_and, and_true, and_self, implies_true]), ?_, ?_, ?_, ?_⟩
  · intro x hx
    obtain ⟨h1, h2, h3', h4, h5⟩ := iv.m1 x hx
    by_cases e : x = c
    · subst e
      rw [A1c]
      refine ⟨by omega, fun z => by omega, by simp only [ru, iu, ou, eq_self, Nat.reduceEqDiff, false_and, and_false, if_false, true_and, and_true, and_self, if_true], fun l hl => ?_, fun l l' hl hl' z => ?_⟩
      · rw [A4c]
        exact ⟨(hpi _ (sg_lt hie he3 hl)).1, h3 l hl⟩
      · rw [A4c, A4c] at z
        exact sg_inj hie (hinj _ _ (sg_lt hie he3 hl) (sg_lt hie he3 hl') z)
    · rw [A1 x e]
      refine ⟨h1, h2, by simp only [ru, iu, ou, eq_self, Nat.reduceEqDiff, false_and, and_false, if_false, true_and, and_true, and_self, e]; exact h3', fun l hl => ?_, fun l l' hl hl' z => ?_⟩
      · rw [A4 x l e, hO 3 x l (fun z => e z.2)]; exact h4 l hl
      · rw [A4 x l e, A4 x l' e] at z; exact h5 l l' hl hl' z
  · intro x hx j hj
    by_cases e : x = c
    · subst e
      rw [A1c] at hj
      obtain ⟨u1, u2⟩ := up_lt j hj
      have hs := hsk x (upP i j) hx u1 (fun z => u2 z.2)
      obtain ⟨h1, h2, h3', h4, h5, h6⟩ := iv.m2 x hx (upP i j) u1
      have hlt := pos_lt iv.m2 hx u1
      have A3 : (mpD mp x i).2.2.1 (mp.2.1 x (upP i j)) = j := by
        have : (4 * x ≤ mp.2.1 x (upP i j) ∧ mp.2.1 x (upP i j) < 4 * x + 4) = True := eq_true (by omega)
        simp only [mpD, this, if_true, h3', dn_up]
      rw [A2c, A3, A4p j hj, H4]
      simp only [hd, ru, iu, ou, eq_self, Nat.reduceEqDiff, false_and, and_false, if_false, true_and, and_true, and_self, hs]
      refine ⟨h1, h2, h4, h5, ?_⟩
      rcases h6 with h6 | ⟨i', z1, z2, z3, z4⟩
      · exact Or.inl h6
      · have hi' : i' < mp.1 x := by omega
        have hne : ¬ i' = i := fun z => hnb _ u1 (by rw [z2, z])
        obtain ⟨d1, d2⟩ := up_dn i' hi' hne
        refine Or.inr ⟨dnP i i', ?_, ?_, ?_, ?_⟩
        · have := dn_up j
          unfold upP at z1 this
          unfold dnP
          split
          · split at z1 <;> omega
          · split at z1 <;> omega
        · rw [A2c, d1]; exact z2
        · rw [A4p _ d2, d1]; exact z3
        · rw [A2c, d1]; exact z4
    · rw [A1 x e] at hj
      have hs := hsk x j hx hj (fun z => e z.1)
      obtain ⟨h1, h2, h3', h4, h5, h6⟩ := iv.m2 x hx j hj
      have hlt := pos_lt iv.m2 hx hj
      have A3 : (mpD mp c i).2.2.1 (mp.2.1 x j) = j := by
        have : (4 * c ≤ mp.2.1 x j ∧ mp.2.1 x j < 4 * c + 4) = False := eq_false (by omega)
        simp only [mpD, this, if_false, h3']
      rw [A2 x j e, A3, A4 x j e, H4]
      simp only [hd, ru, iu, ou, eq_self, Nat.reduceEqDiff, false_and, and_false, if_false, true_and, and_true, and_self, hs]
      refine ⟨h1, h2, h4, h5, ?_⟩
      rcases h6 with h6 | ⟨i', z1, z2, z3, z4⟩
      · exact Or.inl h6
      · exact Or.inr ⟨i', z1, by rw [A2 x i' e]; exact z2, by rw [A4 x i' e]; exact z3, by rw [A2 x i' e]; exact z4⟩
  · obtain ⟨g, h1, h2, h3'⟩ := iv.m3
    refine ⟨g, h1, by simp only [ru, iu, ou, eq_self, Nat.reduceEqDiff, false_and, and_false, if_false, true_and, and_true, and_self]; exact h2, fun x hx j hj => ?_⟩
    simp only [ru, iu, ou, eq_self, Nat.reduceEqDiff, false_and, and_false, if_false, true_and, and_true, and_self]
    by_cases e : x = c
    · subst e
      rw [A1c] at hj
      obtain ⟨u1, u2⟩ := up_lt j hj
      obtain ⟨a, q1, q2, q3⟩ := h3' x hx (upP i j) u1
      refine ⟨a, q1, by rw [A2c]; exact q2, fun j' hj' => ?_⟩
      obtain ⟨a', q4, q5⟩ := q3 (upP i j') (by unfold upP; split <;> split <;> omega)
      exact ⟨a', q4, by rw [A2c]; exact q5⟩
    · rw [A1 x e] at hj
      obtain ⟨a, q1, q2, q3⟩ := h3' x hx j hj
      refine ⟨a, q1, by rw [A2 x j e]; exact q2, fun j' hj' => ?_⟩
      obtain ⟨a', q4, q5⟩ := q3 j' hj'
      exact ⟨a', q4, by rw [A2 x j' e]; exact q5⟩
  · intro y hy h
    by_cases ey : y = mp.2.1 c i
    · subst ey
      simp only [ru, iu, ou, eq_self, Nat.reduceEqDiff, false_and, and_false, if_false, true_and, and_true, and_self, if_true, n00, not_true] at h
    · simp only [ru, iu, ou, eq_self, Nat.reduceEqDiff, false_and, and_false, if_false, true_and, and_true, and_self, ey] at h
      obtain ⟨x, u, g1, g2, g3⟩ := iv.m4 y hy h
      by_cases e : x = c
      · subst e
        have hne : ¬ u = i := fun z => ey (by rw [← g3, z])
        obtain ⟨d1, d2⟩ := up_dn u g2 hne
        exact ⟨x, dnP i u, g1, by rw [A1c]; exact d2, by rw [A2c, d1]; exact g3⟩
      · exact ⟨x, u, g1, by rw [A1 x e]; exact g2, by rw [A2 x u e]; exact g3⟩
end
