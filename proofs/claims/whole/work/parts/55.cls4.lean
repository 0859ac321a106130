/-! how many MOUNTS -/
theorem cnt_cg {p q : Nat → Bool} : ∀ k n, (∀ j, n ≤ j → j < n + k → p j = q j) → cnt p n k = cnt q n k := by
  intro k
  induction k with
  | zero => intro n _; rfl
  | succ k ih =>
    intro n h
    simp only [cnt]
    rw [h n (Nat.le_refl _) (by omega), ih (n + 1) (fun j h1 h2 => h j (by omega) (by omega))]
theorem cnt_one {p q : Nat → Bool} {x : Nat} (hx : p x = false) (hq : q x = true) : ∀ k n, n ≤ x → x < n + k → (∀ j, n ≤ j → j < n + k → j ≠ x → p j = q j) → cnt q n k = cnt p n k + 1 := by
  intro k
  induction k with
  | zero => intro n h1 h2; omega
  | succ k ih =>
    intro n h1 h2 h
    simp only [cnt]
    by_cases e : n = x
    · subst e
      rw [hx, hq, cnt_cg k (n + 1) (p := q) (q := p) (fun j h3 h4 => (h j (by omega) (by omega) (by omega)).symm), cond_true, cond_false]
      omega
    · rw [h n (Nat.le_refl _) (by omega) e, ih (n + 1) (by omega) (by omega) (fun j h3 h4 => h j (by omega) (by omega))]
      omega
theorem cnt_im {K : Nat} {g : Nat → Nat} : ∀ n (p : Nat → Bool), (∀ i, i < n → g i < K) → (∀ i i', i < n → i' < n → g i = g i' → i = i') → (∀ j, j < K → (p j = true ↔ ∃ i, i < n ∧ g i = j)) → cnt p 0 K = n := by
  intro n
  induction n with
  | zero =>
    intro p _ _ h
    have hz : ∀ k m, m + k ≤ K → cnt p m k = 0 := by
      intro k
      induction k with
      | zero => intro m _; rfl
      | succ k ih =>
        intro m hm
        simp only [cnt]
        have : p m = false := by
          cases hp : p m with
          | false => rfl
          | true => obtain ⟨i, hi, -⟩ := (h m (by omega)).mp hp; omega
        rw [this, ih (m + 1) (by omega), cond_false]
    exact hz K 0 (by omega)
  | succ n ih =>
    intro p h1 h2 h3
    have h4 := ih (fun j => p j && !(j == g n)) (fun i hi => h1 i (by omega)) (fun i i' hi hi' => h2 i i' (by omega) (by omega)) (fun j hj => by
      constructor
      · intro hp
        simp only [Bool.and_eq_true, Bool.not_eq_true', beq_eq_false_iff_ne] at hp
        obtain ⟨i, hi, e⟩ := (h3 j hj).mp hp.1
        refine ⟨i, ?_, e⟩
        rcases Nat.lt_or_ge i n with h | h
        · exact h
        · exact absurd (by rw [← e, show i = n by omega]) hp.2
      · rintro ⟨i, hi, e⟩
        simp only [Bool.and_eq_true, Bool.not_eq_true', beq_eq_false_iff_ne]
        refine ⟨(h3 j hj).mpr ⟨i, by omega, e⟩, fun z => ?_⟩
        have := h2 i n (by omega) (by omega) (e.trans z)
        omega)
    rw [cnt_one (p := fun j => p j && !(j == g n)) (q := p) (x := g n) (by simp) ((h3 _ (h1 n (by omega))).mpr ⟨n, by omega, rfl⟩) K 0 (Nat.zero_le _) (by have := h1 n (by omega); omega) (fun j _ _ hj => by simp [beq_eq_false_iff_ne.mpr hj]), h4]
section
variable {d : Nat} {M : mH} {Q : Option Value → mH → Prop} {C t : Nat} {mp : MP} {I : CI} {O : CO} {r : RS}
theorem pos_lt (h2 : gM2 O r mp) {c i : Nat} (hc : c < 4) (hi : i < mp.1 c) : mp.2.1 c i < 16 ∧ 4 * c ≤ mp.2.1 c i ∧ mp.2.1 c i < 4 * c + 4 := by
  obtain ⟨⟨j, hj, e⟩, -⟩ := h2 c hc i hi
  omega
theorem mt_iff (h2 : gM2 O r mp) (h4 : gM4 r mp) {c j : Nat} (hc : c < 4) (hj : j < 4) : ¬ r 18 (4 * c + j) = 0 ↔ ∃ i, i < mp.1 c ∧ mp.2.1 c i - 4 * c = j := by
  constructor
  · intro h
    obtain ⟨c', i, hc', hi, e⟩ := h4 (4 * c + j) (by omega) h
    have := pos_lt h2 hc' hi
    obtain rfl : c' = c := by omega
    exact ⟨i, hi, by omega⟩
  · rintro ⟨i, hi, e⟩
    have h5 := pos_lt h2 hc hi
    have := (h2 c hc i hi).2.1
    rwa [show mp.2.1 c i = 4 * c + j by omega] at this
theorem pos_inj (h2 : gM2 O r mp) {c i i' : Nat} (hc : c < 4) (hi : i < mp.1 c) (hi' : i' < mp.1 c) (e : mp.2.1 c i = mp.2.1 c i') : i = i' := by
  have h1 := (h2 c hc i hi).2.2.1
  have h3 := (h2 c hc i' hi').2.2.1
  rw [e] at h1
  omega
theorem mt_cnt (h2 : gM2 O r mp) (h4 : gM4 r mp) {c : Nat} (hc : c < 4) : cnt (pMt r c) 0 4 = mp.1 c := by
  refine cnt_im (g := fun i => mp.2.1 c i - 4 * c) (mp.1 c) (pMt r c) (fun i hi => ?_) (fun i i' hi hi' e => ?_) (fun j hj => ?_)
  · have := pos_lt h2 hc hi
    show mp.2.1 c i - 4 * c < 4
    omega
  · have h5 := pos_lt h2 hc hi
    have h6 := pos_lt h2 hc hi'
    have e' : mp.2.1 c i - 4 * c = mp.2.1 c i' - 4 * c := e
    exact pos_inj h2 hc hi hi' (by omega)
  · simp only [pMt, decide_eq_true_eq]
    exact mt_iff h2 h4 hc hj
theorem k_look_in (hw : wf M) (iv : IV (ig M) (og M) r C t mp) {c : Nat} (hc : c < C) {x : Int32} : Vc (d + 2) 10 [rf (some 1), .int (nI c), .int x] M Q = Q (some (.int (lookR r c x))) M := by
  show V (d + 2) 10 0 [some (rf (some 1)), some (.int (nI c)), some (.int x), none] [] M Q = _
  have hC := iv.C4
  have h4 : c < 4 := by omega
  have e7 : (if og M 2 c 7 = none then Q (some (.int (nI 0))) M else Q (some (.int (nI 1))) M) = Q (some (.int (if r 17 c = 0 then nI 0 else nI 1))) M := by
    rcases iv.i c h4 with ⟨h0, h1⟩ | ⟨h0, p, -, h1, -⟩
    · rw [h1, if_pos rfl, if_pos h0]
    · rw [h1, if_neg (by simp), if_neg h0]
  have e6 : (if og M 2 c 6 = none then Q (some (.int (-1))) M else V (d + 2) 10 125 [some (rf (some 1)), some (.int (nI c)), some (.int x), some (rf (some (37 + 10 * c)))] [] M Q) = Q (some (.int (r 11 c))) M := by
    rw [iv.c_6 hc]
    rcases iv.wo c hc with h0 | ⟨m, hm, h0⟩
    · rw [h0, cgO_m, if_pos rfl]
    · have hm4 : m < 4 := by omega
      simp only [s_10_125, s_10_126, s_10_129, s_10_132, eq_self, Nat.reduceLT, Nat.reduceLeDiff, Nat.reduceMod, Nat.reduceDiv, Nat.reduceAdd, Nat.reduceMul, Option.toList_some, Option.toList_none, List.cons_append, List.nil_append, List.append_nil, n10, n00, if_true, if_false, b0, b1, nI_add, true_and, and_true, and_self, sh_1, sh_2, sh_3, sh_36, sh_77, sh_126, k_1_0, k_1_1, k_1_2, k_1_3, k_1_4, k_1_5, k_2_0, sh_node, sh_cage, sh_cmts, sh_mrow, sh_que, sh_qv, sh_task, sh_tpow, sh_thld, sh_filt, sh_fop, sh_ffs, sh_fsc, sh_walk, ka_nodes, ka_cages, ka_tasks, ka_filts, kf_node_0, kf_cage_0, kf_cage_9, kf_task_0, kf_task_6, kf_task_7, kf_filt_0, kf_filt_1, kf_filt_2, kf_que, kf_cage_11, kf_cage_12, gi_K, gi_node1, gr_node, gi_cage1, gr_cage1, gr_cmts, gi_task1, gr_task1, gi_tpow, gr_thld, gi_filt, gi_fop, gi_ffs, gi_fsc, gr_walk, gr_mrow, gi_que, gi_qv, hw, h4, hm4, iv.c_6 hc, h0, cgO_n (show m < 2 ^ 31 by omega), so_no]
  obtain ⟨m0, -, q0, i0, -⟩ := iv.q (2 * c) (by omega)
  obtain ⟨m1, -, q1, i1, -⟩ := iv.q (2 * c + 1) (by omega)
  have f0 : gi M (43 + 10 * c) 1 = r 15 (2 * c) := by
    have := gi_que (M := M) (k := 1) h4 (show 0 < 2 by decide)
    simp only [Nat.mul_zero, Nat.add_zero] at this
    rw [this, i0, q0]
  have f1 : gi M (45 + 10 * c) 1 = r 15 (2 * c + 1) := by
    have := gi_que (M := M) (k := 1) h4 (show 1 < 2 by decide)
    rw [show 43 + 10 * c + 2 * 1 = 45 + 10 * c by omega] at this
    rw [this, i1, q1]
  simp only [s_10_0, s_10_1, s_10_2, s_10_5, s_10_6, s_10_7, s_10_10, s_10_11, s_10_12, s_10_13, s_10_60, s_10_61, s_10_64, s_10_67, s_10_68, s_10_71, s_10_72, s_10_73, s_10_74, s_10_77, s_10_78, s_10_81, s_10_82, s_10_83, s_10_84, s_10_87, s_10_88, s_10_89, s_10_92, s_10_93, s_10_94, s_10_97, s_10_100, s_10_101, s_10_102, s_10_105, s_10_108, s_10_109, s_10_110, s_10_113, s_10_114, s_10_115, s_10_118, s_10_121, s_10_122, s_10_126, s_10_129, s_10_132, s_10_133, s_10_134, eq_self, Nat.reduceLT, Nat.reduceLeDiff, Nat.reduceMod, Nat.reduceDiv, Nat.reduceAdd, Nat.reduceMul, Option.toList_some, Option.toList_none, List.cons_append, List.nil_append, List.append_nil, n10, n00, if_true, if_false, b0, b1, nI_add, true_and, and_true, and_self, sh_1, sh_2, sh_3, sh_36, sh_77, sh_126, k_1_0, k_1_1, k_1_2, k_1_3, k_1_4, k_1_5, k_2_0, sh_node, sh_cage, sh_cmts, sh_mrow, sh_que, sh_qv, sh_task, sh_tpow, sh_thld, sh_filt, sh_fop, sh_ffs, sh_fsc, sh_walk, ka_nodes, ka_cages, ka_tasks, ka_filts, kf_node_0, kf_cage_0, kf_cage_9, kf_task_0, kf_task_6, kf_task_7, kf_filt_0, kf_filt_1, kf_filt_2, kf_que, kf_cage_11, kf_cage_12, gi_K, gi_node1, gr_node, gi_cage1, gr_cage1, gr_cmts, gi_task1, gr_task1, gi_tpow, gr_thld, gi_filt, gi_fop, gi_ffs, gi_fsc, gr_walk, gr_mrow, gi_que, gi_qv, sh_q1, sh_q2, hw, k_cageAt_in hw iv hc, k_usedBy hw iv, k_tasksUsedBy hw iv, h4, hc, so_no, e6, e7, f0, f1, iv.c_10, iv.c_8, ← mt_cnt iv.m2 iv.m4 h4, lookR, Q_ite Q M]
end
