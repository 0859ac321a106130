section
variable {d : Nat} {M : mH} {Q : Option Value → mH → Prop} {C t c p n j N : Nat} {mp : MP} {I : CI} {O : CO} {r s : RS}
def kmM (M : mH) (c j N : Nat) (pt pb sh : Option Nat) : mH := mu (mu (mu (mu M (39 + 10 * c + j) 0 (rf pt)) (39 + 10 * c + j) 1 (rf pb)) (39 + 10 * c + j) 2 (rf sh)) (37 + 10 * c) 10 (.int (nI (N + 1)))
theorem kmM_ok (hw : wf M) (hc : c < 4) (hj : j < 4) {pt pb sh : Option Nat} : wf (kmM M c j N pt pb sh) ∧ rg (kmM M c j N pt pb sh) = rg M ∧ ig (kmM M c j N pt pb sh) = iu (ig M) 2 c 10 (nI (N + 1)) ∧ og (kmM M c j N pt pb sh) = ou (ou (ou (og M) 4 (4 * c + j) 0 pt) 4 (4 * c + j) 1 pb) 4 (4 * c + j) 2 sh := by
  have w1 := C_mrow_0 hw hc hj (x := pt)
  have w2 := C_mrow_1 w1.w hc hj (x := pb)
  have w3 := C_mrow_2 w2.w hc hj (x := sh)
  have w4 := C_cage_10 w3.w hc (x := nI (N + 1))
  refine ⟨w4.w, ?_, ?_, ?_⟩
  · rw [kmM, w4.r, w3.r, w2.r, w1.r]
  · rw [kmM, w4.i, w3.i, w2.i, w1.i]
  · rw [kmM, w4.o, w3.o, w2.o, w1.o]
theorem k_addMount (hw : wf M) (hc : c < 4) (hj : j < 4) (hN : N < 4) (h10 : ig M 2 c 10 = nI N) (h3 : og M 3 c N = some (39 + 10 * c + j)) {pt pb sh : Option Nat} : Vc d 103 [rf (some (37 + 10 * c)), rf pt, rf pb, rf sh] M Q = Q none (kmM M c j N pt pb sh) := by
  have w1 := C_mrow_0 hw hc hj (x := pt)
  have w2 := C_mrow_1 w1.w hc hj (x := pb)
  have w3 := C_mrow_2 w2.w hc hj (x := sh)
  have e3 : ig (mu (mu (mu M (39 + 10 * c + j) 0 (rf pt)) (39 + 10 * c + j) 1 (rf pb)) (39 + 10 * c + j) 2 (rf sh)) 2 c 10 = nI N := by rw [w3.i, w2.i, w1.i]; exact h10
  show V d 103 0 [some (rf (some (37 + 10 * c))), some (rf pt), some (rf pb), some (rf sh), none] [] M Q = _
  simp only [s_103_0, s_103_1, s_103_4, s_103_5, s_103_8, s_103_9, s_103_12, s_103_13, s_103_16, s_103_17, s_103_19, s_103_21, s_103_22, s_103_25, s_103_27, s_103_28, s_103_31, s_103_33, s_103_34, s_103_37, s_103_38, s_103_39, s_103_42, s_103_43, s_103_44, s_103_47, eq_self, Nat.reduceLT, Nat.reduceLeDiff, Nat.reduceMod, Nat.reduceDiv, Nat.reduceAdd, Nat.reduceMul, Option.toList_some, Option.toList_none, List.cons_append, List.nil_append, List.append_nil, n10, n00, if_true, if_false, b0, b1, nI_add, true_and, and_true, and_self, sh_1, sh_2, sh_3, sh_36, sh_77, sh_126, k_1_0, k_1_1, k_1_2, k_1_3, k_1_4, k_1_5, k_2_0, sh_node, sh_cage, sh_cmts, sh_mrow, sh_que, sh_qv, sh_task, sh_tpow, sh_thld, sh_filt, sh_fop, sh_ffs, sh_fsc, sh_walk, ka_nodes, ka_cages, ka_tasks, ka_filts, kf_node_0, kf_cage_0, kf_cage_9, kf_task_0, kf_task_6, kf_task_7, kf_filt_0, kf_filt_1, kf_filt_2, kf_que, kf_cage_11, kf_cage_12, gi_K, gi_node1, gr_node, gi_cage1, gr_cage1, gr_cmts, gi_task1, gr_task1, gi_tpow, gr_thld, gi_filt, gi_fop, gi_ffs, gi_fsc, gr_walk, gr_mrow, gi_que, gi_qv, hw, hc, hj, hN, h10, h3, e3, nI_ge hN (by decide), w1.w, w2.w, w3.w, kmM]
theorem cnt_full {q : Nat → Bool} : ∀ k a, cnt q a k = k → ∀ j, a ≤ j → j < a + k → q j = true := by
  intro k
  induction k with
  | zero => intro a _ j h1 h2; omega
  | succ k ih =>
    intro a h j h1 h2
    have hle := cnt_le (p := q) k (a + 1)
    simp only [cnt] at h
    cases hq : q a with
    | false => rw [hq, cond_false] at h; omega
    | true =>
      rw [hq, cond_true] at h
      by_cases e : j = a
      · rw [e]; exact hq
      · exact ih (a + 1) (by omega) j (by omega) (by omega)
theorem full_iff (iv : IV I O r C t mp) (hc : c < 4) : ffind (pNoM r) (4 * c) 4 = none ↔ mp.1 c = 4 := by
  have hcn := mt_cnt iv.m2 iv.m4 hc
  constructor
  · intro h
    rw [← hcn]
    have : ∀ j, 0 ≤ j → j < 0 + 4 → pMt r c j = (fun _ => true) j := fun j h1 h2 => by
      have := ffind_none h (4 * c + j) (by omega) (by omega)
      exact decide_eq_true (of_decide_eq_false this)
    rw [cnt_cg 4 0 this]
    rfl
  · intro h
    cases hf : ffind (pNoM r) (4 * c) 4 with
    | none => rfl
    | some k =>
      obtain ⟨k1, k2, k3⟩ := ffind_in hf
      rw [h] at hcn
      have := cnt_full 4 0 hcn (k - 4 * c) (by omega) (by omega)
      have h18 : r 18 k = 0 := of_decide_eq_true k3
      have h18' := of_decide_eq_true this
      rw [show 4 * c + (k - 4 * c) = k by omega] at h18'
      exact absurd h18 h18'
theorem pj_12 (ht : t < 2 ^ 30) (hw : wf M) (iv : IV (ig M) (og M) r C t mp) (hp : p < 16) (h24 : r 24 p = nI 1) (hpc : r 25 p = nI c) (hc : c < C) {a b : Int32} : Pj p (nI 12) a b M r t := by
  have hC4 := iv.C4
  have hc4 : c < 4 := by omega
  have o2 := iv.live hp h24 hpc hc
  obtain ⟨M1, h1, h2, h3⟩ := k_follow (d := 1) (w := 0) ht hw iv hc (by decide) (p := a)
  have h1 : ∀ Q, Vc 4 140 [rf (some 143), rf (some 2), rf (some (37 + 10 * c)), .int a] M Q = Q (some (.int (bI (follR c 4 a (nms a) r).1))) M1 := h1
  obtain ⟨ag, pv⟩ := foll_agr iv hc (p := a) (m := nms a)
  have iv1 := iv_agr (h2.iv iv) ag
  have hk : (12 : Nat) = 4 ∨ 12 = 5 ∨ 12 = 6 ∨ 12 = 7 ∨ 12 = 8 ∨ 12 = 12 ∨ 12 = 13 := Or.inr (Or.inr (Or.inr (Or.inr (Or.inr (Or.inl rfl)))))
  have w1 := h2.1
  by_cases hf : (follR c 4 a (nms a) r).1 = true
  · have hT0 : treeR r p c C 4 12 a b = mountR (follR c 4 a (nms a) r).2 p c 4 b := by
      unfold treeR; rw [if_neg (by decide), if_pos hf]; rfl
    have hwk := h3 hf
    rw [hf] at h1
    generalize (follR c 4 a (nms a) r).2 = s at hwk iv1 ag hT0
    obtain ⟨n, n1, n2, n3, n4⟩ := hwk.w0
    obtain ⟨M2, g1, g2, g3⟩ := k_follow (d := 1) (w := 1) ht w1 iv1 hc (by decide) (p := b)
    have g1 : ∀ Q, Vc 4 140 [rf (some 144), rf (some 2), rf (some (37 + 10 * c)), .int b] M1 Q = Q (some (.int (bI (follR c 4 b (nms b) s).1))) M2 := g1
    obtain ⟨ag2, pv2⟩ := foll_agr iv1 hc (p := b) (m := nms b)
    have iv2 := iv_agr (g2.iv iv1) ag2
    have iv2' := g2.iv iv1
    have w2 := g2.1
    have r2 : rg M2 = rg M := g2.2.1.trans h2.2.1
    by_cases hf2 : (follR c 4 b (nms b) s).1 = true
    · have hT1 : treeR r p c C 4 12 a b = mount2 (follR c 4 b (nms b) s).2 p c n (s 0 41) := by
        rw [hT0]; unfold mountR; rw [if_pos hf2, n2, nI_clamp (by omega)]
      have hwk2 := g3 hf2
      rw [hf2] at g1
      generalize (follR c 4 b (nms b) s).2 = s2 at hwk2 iv2 ag2 hT1
      obtain ⟨x, x1, x2, x3, x4⟩ := hwk2.w0
      have ag' : Agr s2 r := ag2.trans ag
      have s24 : s2 24 p = nI 1 := by rw [ag'.row (by decide) (by decide)]; exact h24
      have spc : s2 25 p = nI c := by rw [ag'.row (by decide) (by decide)]; exact hpc
      have m4' : og M2 16 0 0 = some (4 + n) := by rw [g2.2.2.2 16 0 0 (by decide)]; exact n4
      have hwk0 : wk 0 (og M2) s c mp := ⟨hwk.1, by rw [g2.2.2.2 16 0 0 (by decide)]; exact hwk.2.1, by rw [g2.2.2.2 16 0 1 (by decide)]; exact hwk.2.2⟩
      have hrt : ∀ d Q, Vc d 142 [rf (some 143), rf (some (37 + 10 * c))] M2 Q = if s 0 41 < 0 ∧ s 0 40 = s 8 c then Q (some (.int (nI 1))) M2 else Q (some (.int (nI 0))) M2 := fun d Q => k_isAtRoot (w := 0) w2 iv2' hc (by decide) hwk0
      have e8 : (s 0 41 < 0 ∧ s 0 40 = s 8 c) = (nI n = s2 8 c ∧ s 0 41 < 0) := by
        rw [n2, ag2.row (a := 8) (by decide) (by decide)]
        exact propext ⟨fun z => ⟨z.2, z.1⟩, fun z => ⟨z.2, z.1⟩⟩
      unfold mount2 at hT1
      rw [x2, nI_clamp (show x < 2 ^ 31 by omega)] at hT1
      have hgo : ∀ d, (∀ Q, Vc (d + 1) 140 [rf (some 143), rf (some 2), rf (some (37 + 10 * c)), .int a] M Q = Q (some (.int (bI true))) M1) → (∀ Q, Vc (d + 1) 140 [rf (some 144), rf (some 2), rf (some (37 + 10 * c)), .int b] M1 Q = Q (some (.int (bI true))) M2) → ∀ Q, Vc (d + 2) 24 [rf (some 1), rf (some (78 + 3 * p)), .int a, .int b] M Q = V (d + 2) 24 43 [some (rf (some 1)), some (rf (some (78 + 3 * p))), some (.int a), some (.int b), some (rf (some (37 + 10 * c)))] [] M2 Q := fun d h h' Q => by
        show V (d + 2) 24 0 [some (rf (some 1)), some (rf (some (78 + 3 * p))), some (.int a), some (.int b), none] [] M Q = _
        simp only [s_24_0, s_24_1, s_24_4, s_24_6, s_24_7, s_24_10, s_24_11, s_24_14, s_24_16, s_24_17, s_24_20, s_24_23, s_24_24, s_24_27, s_24_28, s_24_31, s_24_33, s_24_34, s_24_37, s_24_40, s_24_42, s_24_44, s_24_47, s_24_50, s_24_53, s_24_56, s_24_57, s_24_60, s_24_63, s_24_66, s_24_69, s_24_71, s_24_72, s_24_73, s_24_75, s_24_78, s_24_81, s_24_83, s_24_84, s_24_85, s_24_88, s_24_90, s_24_93, s_24_96, s_24_98, s_24_99, s_24_101, s_24_104, s_24_105, s_24_108, s_24_110, s_24_111, s_24_113, s_24_114, s_24_117, s_24_120, s_24_121, s_24_124, s_24_127, s_24_128, s_24_131, s_24_134, s_24_137, s_24_138, eq_self, Nat.reduceLT, Nat.reduceLeDiff, Nat.reduceMod, Nat.reduceDiv, Nat.reduceAdd, Nat.reduceMul, Option.toList_some, Option.toList_none, List.cons_append, List.nil_append, List.append_nil, n10, n00, if_true, if_false, b0, b1, nI_add, true_and, and_true, and_self, sh_1, sh_2, sh_3, sh_36, sh_77, sh_126, k_1_0, k_1_1, k_1_2, k_1_3, k_1_4, k_1_5, k_2_0, sh_node, sh_cage, sh_cmts, sh_mrow, sh_que, sh_qv, sh_task, sh_tpow, sh_thld, sh_filt, sh_fop, sh_ffs, sh_fsc, sh_walk, ka_nodes, ka_cages, ka_tasks, ka_filts, kf_node_0, kf_cage_0, kf_cage_9, kf_task_0, kf_task_6, kf_task_7, kf_filt_0, kf_filt_1, kf_filt_2, kf_que, kf_cage_11, kf_cage_12, gi_K, gi_node1, gr_node, gi_cage1, gr_cage1, gr_cmts, gi_task1, gr_task1, gi_tpow, gr_thld, gi_filt, gi_fop, gi_ffs, gi_fsc, gr_walk, gr_mrow, gi_que, gi_qv, hw, hp, o2, sh_143, sh_144, h, h', bI, cond_true, w1]
      have hg4 := hgo 3 h1 g1
      have fin : ∀ (res : Int32) (_ : treeR r p c C 4 12 a b = (res, s2)) (_ : ∀ d Q, V (d + 2) 24 43 [some (rf (some 1)), some (rf (some (78 + 3 * p))), some (.int a), some (.int b), some (rf (some (37 + 10 * c)))] [] M2 Q = Q (some (.int res)) M2), Pj p (nI 12) a b M r t := fun res hT kk =>
        Pj_tr (M' := M2) (mp' := mp) (C' := C) hk iv hp hc hpc (fun Q => by rw [hT]; exact pf_12 (d := 5) hw (fun Q => (hg4 Q).trans (kk 3 Q))) w2 r2 (by rw [hT]; exact iv2.le (by omega))
      by_cases hkd : s2 4 n = 0 ∧ s2 4 x = 0
      · rw [if_pos hkd] at hT1
        obtain ⟨kd1, kd2⟩ := hkd
        by_cases hpw : s2 31 (4 * p) &&& nI 8 = 0
        · rw [if_pos hpw] at hT1
          refine fin (-4) hT1 (fun d Q => ?_)
          simp only [s_24_0, s_24_1, s_24_4, s_24_6, s_24_7, s_24_10, s_24_11, s_24_14, s_24_16, s_24_17, s_24_20, s_24_23, s_24_24, s_24_27, s_24_28, s_24_31, s_24_33, s_24_34, s_24_37, s_24_40, s_24_42, s_24_43, s_24_44, s_24_47, s_24_50, s_24_53, s_24_56, s_24_57, s_24_60, s_24_63, s_24_66, s_24_69, s_24_71, s_24_72, s_24_73, s_24_75, s_24_78, s_24_81, s_24_83, s_24_84, s_24_85, s_24_88, s_24_90, s_24_93, s_24_96, s_24_98, s_24_99, s_24_101, s_24_104, s_24_105, s_24_108, s_24_110, s_24_111, s_24_113, s_24_114, s_24_117, s_24_120, s_24_121, s_24_124, s_24_127, s_24_128, s_24_131, s_24_134, s_24_137, s_24_138, eq_self, Nat.reduceLT, Nat.reduceLeDiff, Nat.reduceMod, Nat.reduceDiv, Nat.reduceAdd, Nat.reduceMul, Option.toList_some, Option.toList_none, List.cons_append, List.nil_append, List.append_nil, n10, n00, if_true, if_false, b0, b1, nI_add, true_and, and_true, and_self, sh_1, sh_2, sh_3, sh_36, sh_77, sh_126, k_1_0, k_1_1, k_1_2, k_1_3, k_1_4, k_1_5, k_2_0, sh_node, sh_cage, sh_cmts, sh_mrow, sh_que, sh_qv, sh_task, sh_tpow, sh_thld, sh_filt, sh_fop, sh_ffs, sh_fsc, sh_walk, ka_nodes, ka_cages, ka_tasks, ka_filts, kf_node_0, kf_cage_0, kf_cage_9, kf_task_0, kf_task_6, kf_task_7, kf_filt_0, kf_filt_1, kf_filt_2, kf_que, kf_cage_11, kf_cage_12, gi_K, gi_node1, gr_node, gi_cage1, gr_cage1, gr_cmts, gi_task1, gr_task1, gi_tpow, gr_thld, gi_filt, gi_fop, gi_ffs, gi_fsc, gr_walk, gr_mrow, gi_que, gi_qv, w2, hp, sh_143, sh_144, g143, g144, m4', x4, n1, x1, iv2.n_2 n1, iv2.n_2 x1, kd1, kd2, k_hasPower w2 iv2 hp, hpw]
        · rw [if_neg hpw] at hT1
          by_cases hro : nI n = s2 8 c ∧ s 0 41 < 0
          · rw [if_pos hro] at hT1
            refine fin (-7) hT1 (fun d Q => ?_)
            have hro' := hro
            rw [← e8] at hro'
            simp only [s_24_0, s_24_1, s_24_4, s_24_6, s_24_7, s_24_10, s_24_11, s_24_14, s_24_16, s_24_17, s_24_20, s_24_23, s_24_24, s_24_27, s_24_28, s_24_31, s_24_33, s_24_34, s_24_37, s_24_40, s_24_42, s_24_43, s_24_44, s_24_47, s_24_50, s_24_53, s_24_56, s_24_57, s_24_60, s_24_63, s_24_66, s_24_69, s_24_71, s_24_72, s_24_73, s_24_75, s_24_78, s_24_81, s_24_83, s_24_84, s_24_85, s_24_88, s_24_90, s_24_93, s_24_96, s_24_98, s_24_99, s_24_101, s_24_104, s_24_105, s_24_108, s_24_110, s_24_111, s_24_113, s_24_114, s_24_117, s_24_120, s_24_121, s_24_124, s_24_127, s_24_128, s_24_131, s_24_134, s_24_137, s_24_138, eq_self, Nat.reduceLT, Nat.reduceLeDiff, Nat.reduceMod, Nat.reduceDiv, Nat.reduceAdd, Nat.reduceMul, Option.toList_some, Option.toList_none, List.cons_append, List.nil_append, List.append_nil, n10, n00, if_true, if_false, b0, b1, nI_add, true_and, and_true, and_self, sh_1, sh_2, sh_3, sh_36, sh_77, sh_126, k_1_0, k_1_1, k_1_2, k_1_3, k_1_4, k_1_5, k_2_0, sh_node, sh_cage, sh_cmts, sh_mrow, sh_que, sh_qv, sh_task, sh_tpow, sh_thld, sh_filt, sh_fop, sh_ffs, sh_fsc, sh_walk, ka_nodes, ka_cages, ka_tasks, ka_filts, kf_node_0, kf_cage_0, kf_cage_9, kf_task_0, kf_task_6, kf_task_7, kf_filt_0, kf_filt_1, kf_filt_2, kf_que, kf_cage_11, kf_cage_12, gi_K, gi_node1, gr_node, gi_cage1, gr_cage1, gr_cmts, gi_task1, gr_task1, gi_tpow, gr_thld, gi_filt, gi_fop, gi_ffs, gi_fsc, gr_walk, gr_mrow, gi_que, gi_qv, w2, hp, sh_143, sh_144, g143, g144, m4', x4, n1, x1, iv2.n_2 n1, iv2.n_2 x1, kd1, kd2, k_hasPower w2 iv2 hp, hpw, hrt, eq_true hro']
          · rw [if_neg hro] at hT1
            have hro' := hro
            rw [← e8] at hro'
            cases hfr : ffind (pNoM s2) (4 * c) 4 with
            | none =>
              rw [hfr] at hT1
              have h10 : ig M2 2 c 10 = nI 4 := by rw [iv2.c_10 hc4, (full_iff iv2 hc4).1 hfr]
              refine fin (-5) hT1 (fun d Q => ?_)
              simp only [s_24_0, s_24_1, s_24_4, s_24_6, s_24_7, s_24_10, s_24_11, s_24_14, s_24_16, s_24_17, s_24_20, s_24_23, s_24_24, s_24_27, s_24_28, s_24_31, s_24_33, s_24_34, s_24_37, s_24_40, s_24_42, s_24_43, s_24_44, s_24_47, s_24_50, s_24_53, s_24_56, s_24_57, s_24_60, s_24_63, s_24_66, s_24_69, s_24_71, s_24_72, s_24_73, s_24_75, s_24_78, s_24_81, s_24_83, s_24_84, s_24_85, s_24_88, s_24_90, s_24_93, s_24_96, s_24_98, s_24_99, s_24_101, s_24_104, s_24_105, s_24_108, s_24_110, s_24_111, s_24_113, s_24_114, s_24_117, s_24_120, s_24_121, s_24_124, s_24_127, s_24_128, s_24_131, s_24_134, s_24_137, s_24_138, eq_self, Nat.reduceLT, Nat.reduceLeDiff, Nat.reduceMod, Nat.reduceDiv, Nat.reduceAdd, Nat.reduceMul, Option.toList_some, Option.toList_none, List.cons_append, List.nil_append, List.append_nil, n10, n00, if_true, if_false, b0, b1, nI_add, true_and, and_true, and_self, sh_1, sh_2, sh_3, sh_36, sh_77, sh_126, k_1_0, k_1_1, k_1_2, k_1_3, k_1_4, k_1_5, k_2_0, sh_node, sh_cage, sh_cmts, sh_mrow, sh_que, sh_qv, sh_task, sh_tpow, sh_thld, sh_filt, sh_fop, sh_ffs, sh_fsc, sh_walk, ka_nodes, ka_cages, ka_tasks, ka_filts, kf_node_0, kf_cage_0, kf_cage_9, kf_task_0, kf_task_6, kf_task_7, kf_filt_0, kf_filt_1, kf_filt_2, kf_que, kf_cage_11, kf_cage_12, gi_K, gi_node1, gr_node, gi_cage1, gr_cage1, gr_cmts, gi_task1, gr_task1, gi_tpow, gr_thld, gi_filt, gi_fop, gi_ffs, gi_fsc, gr_walk, gr_mrow, gi_que, gi_qv, w2, hp, hc4, sh_143, sh_144, g143, g144, m4', x4, n1, x1, iv2.n_2 n1, iv2.n_2 x1, kd1, kd2, k_hasPower w2 iv2 hp, hpw, hrt, eq_false hro', h10, show ¬ nI 4 < nI 4 by decide]
            | some k =>
              rw [hfr] at hT1
              obtain ⟨k1, k2, k3⟩ := ffind_in hfr
              have hN4 : mp.1 c < 4 := by
                have h4 := (iv2.m1 c hc4).1
                by_cases z : mp.1 c = 4
                · rw [(full_iff iv2 hc4).2 z] at hfr; exact absurd hfr (by simp)
                · omega
              have h10 : ig M2 2 c 10 = nI (mp.1 c) := iv2.c_10 hc4
              obtain ⟨hpi, ho3⟩ := (iv2.m1 c hc4).2.2.2.1 (mp.1 c) hN4
              have m5' : og M2 16 0 1 = mtO mp c (s 0 41) := hwk0.2.2
              obtain ⟨w3, r3, i3, o3⟩ := kmM_ok w2 hc4 hpi (N := mp.1 c) (pt := some (4 + n)) (pb := mtO mp c (s 0 41)) (sh := some (4 + x))
              have kk : ∀ d Q, V (d + 2) 24 43 [some (rf (some 1)), some (rf (some (78 + 3 * p))), some (.int a), some (.int b), some (rf (some (37 + 10 * c)))] [] M2 Q = Q (some (.int (nI 0))) (kmM M2 c (mp.2.2.2 c (mp.1 c)) (mp.1 c) (some (4 + n)) (mtO mp c (s 0 41)) (some (4 + x))) := fun d Q => by
                simp only [s_24_0, s_24_1, s_24_4, s_24_6, s_24_7, s_24_10, s_24_11, s_24_14, s_24_16, s_24_17, s_24_20, s_24_23, s_24_24, s_24_27, s_24_28, s_24_31, s_24_33, s_24_34, s_24_37, s_24_40, s_24_42, s_24_43, s_24_44, s_24_47, s_24_50, s_24_53, s_24_56, s_24_57, s_24_60, s_24_63, s_24_66, s_24_69, s_24_71, s_24_72, s_24_73, s_24_75, s_24_78, s_24_81, s_24_83, s_24_84, s_24_85, s_24_88, s_24_90, s_24_93, s_24_96, s_24_98, s_24_99, s_24_101, s_24_104, s_24_105, s_24_108, s_24_110, s_24_111, s_24_113, s_24_114, s_24_117, s_24_120, s_24_121, s_24_124, s_24_127, s_24_128, s_24_131, s_24_134, s_24_137, s_24_138, eq_self, Nat.reduceLT, Nat.reduceLeDiff, Nat.reduceMod, Nat.reduceDiv, Nat.reduceAdd, Nat.reduceMul, Option.toList_some, Option.toList_none, List.cons_append, List.nil_append, List.append_nil, n10, n00, if_true, if_false, b0, b1, nI_add, true_and, and_true, and_self, sh_1, sh_2, sh_3, sh_36, sh_77, sh_126, k_1_0, k_1_1, k_1_2, k_1_3, k_1_4, k_1_5, k_2_0, sh_node, sh_cage, sh_cmts, sh_mrow, sh_que, sh_qv, sh_task, sh_tpow, sh_thld, sh_filt, sh_fop, sh_ffs, sh_fsc, sh_walk, ka_nodes, ka_cages, ka_tasks, ka_filts, kf_node_0, kf_cage_0, kf_cage_9, kf_task_0, kf_task_6, kf_task_7, kf_filt_0, kf_filt_1, kf_filt_2, kf_que, kf_cage_11, kf_cage_12, gi_K, gi_node1, gr_node, gi_cage1, gr_cage1, gr_cmts, gi_task1, gr_task1, gi_tpow, gr_thld, gi_filt, gi_fop, gi_ffs, gi_fsc, gr_walk, gr_mrow, gi_que, gi_qv, w2, hp, hc4, sh_143, sh_144, g143, g144, m4', m5', x4, n1, x1, iv2.n_2 n1, iv2.n_2 x1, kd1, kd2, k_hasPower w2 iv2 hp, hpw, hrt, eq_false hro', h10, nI_lt hN4 (by decide), k_addMount w2 hc4 hpi hN4 h10 ho3]
              have hdd : ∀ x y, Desc s2 x y = Desc s x y := fun x y => Desc.eq (fun j => by rw [ag2.row (by decide) (by decide)])
              have hby : (s 0 41 = -1 ∧ mtO mp c (s 0 41) = none ∧ Desc s2 (s2 8 c) (nI n)) ∨ ∃ i', i' < mp.1 c ∧ s 0 41 = nI (mp.2.1 c i') ∧ mtO mp c (s 0 41) = some (39 + 10 * c + mp.2.2.2 c i') ∧ Desc s2 (s2 21 (mp.2.1 c i')) (nI n) := by
                obtain ⟨n', q1, q2, q3, q4⟩ := hwk.1
                obtain rfl : n' = n := (nI_eq (by omega) (by omega)).1 (q2.symm.trans n2)
                rw [ag2.row (a := 8) (by decide) (by decide), ag2.row (a := 21) (by decide) (by decide)]
                simp only [hdd]
                rcases q4 with ⟨q4, q5⟩ | ⟨i, q4, q5, q6⟩
                · exact Or.inl ⟨q4, by rw [q4]; rfl, q5⟩
                · exact Or.inr ⟨i, q4, q5, by rw [q5, mtO_n iv2 hc4 q4], q6⟩
              have ivm := iv_mount iv2 ht hc (k := k) (a := n) (b := x) rfl hN4 k1 (by omega) (of_decide_eq_true k3) ⟨n1, by rw [ag2.row (by decide) (by decide)]; exact n3, kd1⟩ ⟨x1, x2, x3, kd2⟩ hby
              exact Pj_tr (mp' := mpA mp c k (mp.1 c)) (C' := C) hk iv hp hc hpc (fun Q => by rw [hT1]; exact pf_12 (d := 5) hw (fun Q => (hg4 Q).trans (kk 3 Q))) w3 (r3.trans r2) (by rw [hT1, i3, o3]; exact ivm)
      · rw [if_neg hkd] at hT1
        refine fin (-3) hT1 (fun d Q => ?_)
        by_cases g1 : s2 4 n = 0
        · have g2 : ¬ s2 4 x = 0 := fun z => hkd ⟨g1, z⟩
          simp only [s_24_0, s_24_1, s_24_4, s_24_6, s_24_7, s_24_10, s_24_11, s_24_14, s_24_16, s_24_17, s_24_20, s_24_23, s_24_24, s_24_27, s_24_28, s_24_31, s_24_33, s_24_34, s_24_37, s_24_40, s_24_42, s_24_43, s_24_44, s_24_47, s_24_50, s_24_53, s_24_56, s_24_57, s_24_60, s_24_63, s_24_66, s_24_69, s_24_71, s_24_72, s_24_73, s_24_75, s_24_78, s_24_81, s_24_83, s_24_84, s_24_85, s_24_88, s_24_90, s_24_93, s_24_96, s_24_98, s_24_99, s_24_101, s_24_104, s_24_105, s_24_108, s_24_110, s_24_111, s_24_113, s_24_114, s_24_117, s_24_120, s_24_121, s_24_124, s_24_127, s_24_128, s_24_131, s_24_134, s_24_137, s_24_138, eq_self, Nat.reduceLT, Nat.reduceLeDiff, Nat.reduceMod, Nat.reduceDiv, Nat.reduceAdd, Nat.reduceMul, Option.toList_some, Option.toList_none, List.cons_append, List.nil_append, List.append_nil, n10, n00, if_true, if_false, b0, b1, nI_add, true_and, and_true, and_self, sh_1, sh_2, sh_3, sh_36, sh_77, sh_126, k_1_0, k_1_1, k_1_2, k_1_3, k_1_4, k_1_5, k_2_0, sh_node, sh_cage, sh_cmts, sh_mrow, sh_que, sh_qv, sh_task, sh_tpow, sh_thld, sh_filt, sh_fop, sh_ffs, sh_fsc, sh_walk, ka_nodes, ka_cages, ka_tasks, ka_filts, kf_node_0, kf_cage_0, kf_cage_9, kf_task_0, kf_task_6, kf_task_7, kf_filt_0, kf_filt_1, kf_filt_2, kf_que, kf_cage_11, kf_cage_12, gi_K, gi_node1, gr_node, gi_cage1, gr_cage1, gr_cmts, gi_task1, gr_task1, gi_tpow, gr_thld, gi_filt, gi_fop, gi_ffs, gi_fsc, gr_walk, gr_mrow, gi_que, gi_qv, w2, hp, sh_143, sh_144, g143, g144, m4', x4, n1, x1, iv2.n_2 n1, iv2.n_2 x1, g1, g2]
        · simp only [s_24_0, s_24_1, s_24_4, s_24_6, s_24_7, s_24_10, s_24_11, s_24_14, s_24_16, s_24_17, s_24_20, s_24_23, s_24_24, s_24_27, s_24_28, s_24_31, s_24_33, s_24_34, s_24_37, s_24_40, s_24_42, s_24_43, s_24_44, s_24_47, s_24_50, s_24_53, s_24_56, s_24_57, s_24_60, s_24_63, s_24_66, s_24_69, s_24_71, s_24_72, s_24_73, s_24_75, s_24_78, s_24_81, s_24_83, s_24_84, s_24_85, s_24_88, s_24_90, s_24_93, s_24_96, s_24_98, s_24_99, s_24_101, s_24_104, s_24_105, s_24_108, s_24_110, s_24_111, s_24_113, s_24_114, s_24_117, s_24_120, s_24_121, s_24_124, s_24_127, s_24_128, s_24_131, s_24_134, s_24_137, s_24_138, eq_self, Nat.reduceLT, Nat.reduceLeDiff, Nat.reduceMod, Nat.reduceDiv, Nat.reduceAdd, Nat.reduceMul, Option.toList_some, Option.toList_none, List.cons_append, List.nil_append, List.append_nil, n10, n00, if_true, if_false, b0, b1, nI_add, true_and, and_true, and_self, sh_1, sh_2, sh_3, sh_36, sh_77, sh_126, k_1_0, k_1_1, k_1_2, k_1_3, k_1_4, k_1_5, k_2_0, sh_node, sh_cage, sh_cmts, sh_mrow, sh_que, sh_qv, sh_task, sh_tpow, sh_thld, sh_filt, sh_fop, sh_ffs, sh_fsc, sh_walk, ka_nodes, ka_cages, ka_tasks, ka_filts, kf_node_0, kf_cage_0, kf_cage_9, kf_task_0, kf_task_6, kf_task_7, kf_filt_0, kf_filt_1, kf_filt_2, kf_que, kf_cage_11, kf_cage_12, gi_K, gi_node1, gr_node, gi_cage1, gr_cage1, gr_cmts, gi_task1, gr_task1, gi_tpow, gr_thld, gi_filt, gi_fop, gi_ffs, gi_fsc, gr_walk, gr_mrow, gi_que, gi_qv, w2, hp, sh_143, sh_144, g143, g144, m4', x4, n1, x1, iv2.n_2 n1, g1]
    · have hT1 : treeR r p c C 4 12 a b = (-2, (follR c 4 b (nms b) s).2) := by
        rw [hT0]; unfold mountR; rw [if_neg hf2]
      rw [Bool.eq_false_iff.2 hf2] at g1
      have kk : ∀ d, (∀ Q, Vc d 140 [rf (some 143), rf (some 2), rf (some (37 + 10 * c)), .int a] M Q = Q (some (.int (bI true))) M1) → (∀ Q, Vc d 140 [rf (some 144), rf (some 2), rf (some (37 + 10 * c)), .int b] M1 Q = Q (some (.int (bI false))) M2) → ∀ Q, Vc (d + 1) 24 [rf (some 1), rf (some (78 + 3 * p)), .int a, .int b] M Q = Q (some (.int (-2))) M2 := fun d h h' Q => by
        show V (d + 1) 24 0 [some (rf (some 1)), some (rf (some (78 + 3 * p))), some (.int a), some (.int b), none] [] M Q = _
        simp only [s_24_0, s_24_1, s_24_4, s_24_6, s_24_7, s_24_10, s_24_11, s_24_14, s_24_16, s_24_17, s_24_20, s_24_23, s_24_24, s_24_27, s_24_28, s_24_31, s_24_33, s_24_34, s_24_37, s_24_40, s_24_42, s_24_44, s_24_47, s_24_50, s_24_53, s_24_56, s_24_57, s_24_60, s_24_63, s_24_66, s_24_69, s_24_71, s_24_72, s_24_73, s_24_75, s_24_78, s_24_81, s_24_83, s_24_84, s_24_85, s_24_88, s_24_90, s_24_93, s_24_96, s_24_98, s_24_99, s_24_101, s_24_104, s_24_105, s_24_108, s_24_110, s_24_111, s_24_113, s_24_114, s_24_117, s_24_120, s_24_121, s_24_124, s_24_127, s_24_128, s_24_131, s_24_134, s_24_137, s_24_138, eq_self, Nat.reduceLT, Nat.reduceLeDiff, Nat.reduceMod, Nat.reduceDiv, Nat.reduceAdd, Nat.reduceMul, Option.toList_some, Option.toList_none, List.cons_append, List.nil_append, List.append_nil, n10, n00, if_true, if_false, b0, b1, nI_add, true_and, and_true, and_self, sh_1, sh_2, sh_3, sh_36, sh_77, sh_126, k_1_0, k_1_1, k_1_2, k_1_3, k_1_4, k_1_5, k_2_0, sh_node, sh_cage, sh_cmts, sh_mrow, sh_que, sh_qv, sh_task, sh_tpow, sh_thld, sh_filt, sh_fop, sh_ffs, sh_fsc, sh_walk, ka_nodes, ka_cages, ka_tasks, ka_filts, kf_node_0, kf_cage_0, kf_cage_9, kf_task_0, kf_task_6, kf_task_7, kf_filt_0, kf_filt_1, kf_filt_2, kf_que, kf_cage_11, kf_cage_12, gi_K, gi_node1, gr_node, gi_cage1, gr_cage1, gr_cmts, gi_task1, gr_task1, gi_tpow, gr_thld, gi_filt, gi_fop, gi_ffs, gi_fsc, gr_walk, gr_mrow, gi_que, gi_qv, hw, hp, o2, sh_143, sh_144, h, h', bI, cond_true, cond_false, w1]
      exact Pj_tr (M' := M2) (mp' := mp) (C' := C) hk iv hp hc hpc (fun Q => by rw [hT1]; exact pf_12 (d := 5) hw (kk 4 h1 g1)) w2 r2 (by rw [hT1]; exact iv2.le (by omega))
  · have hT : treeR r p c C 4 12 a b = (-2, (follR c 4 a (nms a) r).2) := by unfold treeR; rw [if_neg (by decide), if_neg hf]
    rw [Bool.eq_false_iff.2 hf] at h1
    have kk : ∀ d, (∀ Q, Vc d 140 [rf (some 143), rf (some 2), rf (some (37 + 10 * c)), .int a] M Q = Q (some (.int (bI false))) M1) → ∀ Q, Vc (d + 1) 24 [rf (some 1), rf (some (78 + 3 * p)), .int a, .int b] M Q = Q (some (.int (-2))) M1 := fun d h Q => by
      show V (d + 1) 24 0 [some (rf (some 1)), some (rf (some (78 + 3 * p))), some (.int a), some (.int b), none] [] M Q = _
      simp only [s_24_0, s_24_1, s_24_4, s_24_6, s_24_7, s_24_10, s_24_11, s_24_14, s_24_16, s_24_17, s_24_20, s_24_23, s_24_24, s_24_27, s_24_28, s_24_31, s_24_33, s_24_34, s_24_37, s_24_40, s_24_42, s_24_44, s_24_47, s_24_50, s_24_53, s_24_56, s_24_57, s_24_60, s_24_63, s_24_66, s_24_69, s_24_71, s_24_72, s_24_73, s_24_75, s_24_78, s_24_81, s_24_83, s_24_84, s_24_85, s_24_88, s_24_90, s_24_93, s_24_96, s_24_98, s_24_99, s_24_101, s_24_104, s_24_105, s_24_108, s_24_110, s_24_111, s_24_113, s_24_114, s_24_117, s_24_120, s_24_121, s_24_124, s_24_127, s_24_128, s_24_131, s_24_134, s_24_137, s_24_138, eq_self, Nat.reduceLT, Nat.reduceLeDiff, Nat.reduceMod, Nat.reduceDiv, Nat.reduceAdd, Nat.reduceMul, Option.toList_some, Option.toList_none, List.cons_append, List.nil_append, List.append_nil, n10, n00, if_true, if_false, b0, b1, nI_add, true_and, and_true, and_self, sh_1, sh_2, sh_3, sh_36, sh_77, sh_126, k_1_0, k_1_1, k_1_2, k_1_3, k_1_4, k_1_5, k_2_0, sh_node, sh_cage, sh_cmts, sh_mrow, sh_que, sh_qv, sh_task, sh_tpow, sh_thld, sh_filt, sh_fop, sh_ffs, sh_fsc, sh_walk, ka_nodes, ka_cages, ka_tasks, ka_filts, kf_node_0, kf_cage_0, kf_cage_9, kf_task_0, kf_task_6, kf_task_7, kf_filt_0, kf_filt_1, kf_filt_2, kf_que, kf_cage_11, kf_cage_12, gi_K, gi_node1, gr_node, gi_cage1, gr_cage1, gr_cmts, gi_task1, gr_task1, gi_tpow, gr_thld, gi_filt, gi_fop, gi_ffs, gi_fsc, gr_walk, gr_mrow, gi_que, gi_qv, hw, hp, o2, sh_143, h, bI, cond_false]
    exact Pj_tr (M' := M1) (mp' := mp) (C' := C) hk iv hp hc hpc (fun Q => by rw [hT]; exact pf_12 (d := 5) hw (kk 4 h1)) w1 h2.2.1 (by rw [hT]; exact iv1.le (by omega))
end
