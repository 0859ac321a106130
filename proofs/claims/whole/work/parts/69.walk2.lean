section
variable {d : Nat} {M : mH} {Q : Option Value → mH → Prop} {C t c w : Nat} {mp : MP} {I : CI} {O : CO} {r : RS}
theorem k_goUp_l (hc : c < 4) (hw2 : w < 2) : ∀ k j (M : mH) (r : RS), wf M → IV (ig M) (og M) r C t mp → wk w (og M) r c mp → j + k = 4 → ∃ M' l2, (∀ Q, V (d + 1) 145 2 [some (rf (some (143 + w))), some (rf (some (37 + 10 * c))), some (.int (nI j))] [] M Q = V (d + 1) 145 42 [some (rf (some (143 + w))), some (rf (some (37 + 10 * c))), l2] [] M' Q) ∧ Wst M M' w ∧ wk w (og M') (upL k r) c mp := by
  intro k
  induction k with
  | zero =>
    intro j M r hw iv h hj
    obtain rfl : j = 4 := by omega
    refine ⟨M, some (.int (nI 4)), fun Q => ?_, Wst.refl hw, h⟩
    rw [s_145_2]
    simp only [s_145_3, s_145_4, show nI 4 ≤ nI 4 from Int32.le_refl _, if_true]
  | succ k ih =>
    intro j M r hw iv h hj
    have h4 : j < 4 := by omega
    by_cases hs : ¬ r 0 41 < 0 ∧ r 0 40 = r 21 (r 0 41).toNatClampNeg
    · have e : upL (k + 1) r = upL k (up1 r) := by rw [upL, if_pos hs]
      rcases h.w1 iv hc with ⟨v1, v2⟩ | ⟨i, v1, v2, v3, v4, v5, v6⟩
      · exact absurd (show r 0 41 < 0 by rw [v1]; decide) hs.1
      · obtain ⟨-, -, -, ⟨x, x1, x2, x3, x4, x5⟩, -, h6⟩ := iv.m2 c hc i v1
        have hoo : ∃ oo, og M 4 (4 * c + mp.2.2.2 c i) 1 = oo ∧ oo = mtO mp c (r 20 (mp.2.1 c i)) := by
          refine ⟨_, rfl, ?_⟩
          rcases h6 with ⟨z1, z2, z3⟩ | ⟨i', z1, z2, z3, z4⟩
          · rw [z1, z2]; rfl
          · rw [z2, z3, mtO_n iv hc (by omega)]
        obtain ⟨oo, o1, o2⟩ := hoo
        have w1 := C_walk_0 hw hw2 (x := some (4 + x))
        have w2 := C_walk_1 w1.w hw2 (x := oo)
        have g1 : og (mu M (143 + w) 0 (rf (some (4 + x)))) 16 w 1 = some (39 + 10 * c + mp.2.2.2 c i) := by rw [w1.o]; simp only [ru, iu, ou, eq_self, Nat.reduceEqDiff, false_and, and_false, if_false, true_and, and_true, and_self]; exact v5
        have g2 : og (mu M (143 + w) 0 (rf (some (4 + x)))) 4 (4 * c + mp.2.2.2 c i) 1 = oo := by rw [w1.o]; simp only [ru, iu, ou, eq_self, Nat.reduceEqDiff, false_and, and_false, if_false, true_and, and_true, and_self]; exact o1
        have hW := (Wst.of w1).trans (Wst.of w2)
        have iv' : IV (ig (mu (mu M (143 + w) 0 (rf (some (4 + x)))) (143 + w) 1 (rf oo))) (og (mu (mu M (143 + w) 0 (rf (some (4 + x)))) (143 + w) 1 (rf oo))) (up1 r) C t mp := iv_agr (hW.iv iv) Agr.up1
        have hwk : wk w (og (mu (mu M (143 + w) 0 (rf (some (4 + x)))) (143 + w) 1 (rf oo))) (up1 r) c mp := by
          refine ⟨(posV_up1 iv hc v1 v3).1, ?_, ?_⟩
          · have e40 : up1 r 0 40 = nI x := by simp only [up1, ru, iu, ou, eq_self, Nat.reduceEqDiff, false_and, and_false, if_false, true_and, and_true, and_self, v4, if_true]; exact x2
            rw [e40, ndO_n (by omega), w2.o, w1.o]; simp only [ru, iu, ou, eq_self, Nat.reduceEqDiff, false_and, and_false, if_false, true_and, and_true, and_self, if_true]
          · have e41 : up1 r 0 41 = r 20 (mp.2.1 c i) := by simp only [up1, ru, iu, ou, eq_self, Nat.reduceEqDiff, false_and, and_false, if_false, true_and, and_true, and_self, v4, if_true]
            rw [e41, ← o2, w2.o]; simp only [ru, iu, ou, eq_self, Nat.reduceEqDiff, false_and, and_false, if_false, true_and, and_true, and_self, if_true]
        obtain ⟨M', l2, k1, k2, k3⟩ := ih (j + 1) _ (up1 r) w2.w iv' hwk (by omega)
        refine ⟨M', l2, fun Q => ?_, hW.trans k2, by rw [e]; exact k3⟩
        rw [s_145_2]
        simp only [s_145_0, s_145_1, s_145_3, s_145_4, s_145_7, s_145_8, s_145_11, s_145_14, s_145_15, s_145_16, s_145_19, s_145_22, s_145_25, s_145_26, s_145_27, s_145_30, s_145_33, s_145_36, s_145_39, s_145_43, s_145_44, s_145_47, s_145_50, s_145_51, s_145_54, s_145_57, s_145_60, s_145_61, s_145_62, s_145_65, s_145_68, s_145_71, eq_self, Nat.reduceLT, Nat.reduceLeDiff, Nat.reduceMod, Nat.reduceDiv, Nat.reduceAdd, Nat.reduceMul, Option.toList_some, Option.toList_none, List.cons_append, List.nil_append, List.append_nil, n10, n00, if_true, if_false, b0, b1, nI_add, true_and, and_true, and_self, sh_1, sh_2, sh_3, sh_36, sh_77, sh_126, k_1_0, k_1_1, k_1_2, k_1_3, k_1_4, k_1_5, k_2_0, sh_node, sh_cage, sh_cmts, sh_mrow, sh_que, sh_qv, sh_task, sh_tpow, sh_thld, sh_filt, sh_fop, sh_ffs, sh_fsc, sh_walk, ka_nodes, ka_cages, ka_tasks, ka_filts, kf_node_0, kf_cage_0, kf_cage_9, kf_task_0, kf_task_6, kf_task_7, kf_filt_0, kf_filt_1, kf_filt_2, kf_que, kf_cage_11, kf_cage_12, gi_K, gi_node1, gr_node, gi_cage1, gr_cage1, gr_cmts, gi_task1, gr_task1, gi_tpow, gr_thld, gi_filt, gi_fop, gi_ffs, gi_fsc, gr_walk, gr_mrow, gi_que, gi_qv, hw, hw2, hc, nI_ge h4 (by decide), k_isAtShown hw iv hc hw2 h, eq_true hs, v5, v6, x5, w1.w, g1, g2, k1]
    · have e : upL (k + 1) r = r := by rw [upL, if_neg hs]
      refine ⟨M, some (.int (nI j)), fun Q => ?_, Wst.refl hw, by rw [e]; exact h⟩
      rw [s_145_2]
      simp only [s_145_0, s_145_1, s_145_3, s_145_4, s_145_7, s_145_8, s_145_11, s_145_14, s_145_15, s_145_16, s_145_19, s_145_22, s_145_25, s_145_26, s_145_27, s_145_30, s_145_33, s_145_36, s_145_39, s_145_43, s_145_44, s_145_47, s_145_50, s_145_51, s_145_54, s_145_57, s_145_60, s_145_61, s_145_62, s_145_65, s_145_68, s_145_71, eq_self, Nat.reduceLT, Nat.reduceLeDiff, Nat.reduceMod, Nat.reduceDiv, Nat.reduceAdd, Nat.reduceMul, Option.toList_some, Option.toList_none, List.cons_append, List.nil_append, List.append_nil, n10, n00, if_true, if_false, b0, b1, nI_add, true_and, and_true, and_self, sh_1, sh_2, sh_3, sh_36, sh_77, sh_126, k_1_0, k_1_1, k_1_2, k_1_3, k_1_4, k_1_5, k_2_0, sh_node, sh_cage, sh_cmts, sh_mrow, sh_que, sh_qv, sh_task, sh_tpow, sh_thld, sh_filt, sh_fop, sh_ffs, sh_fsc, sh_walk, ka_nodes, ka_cages, ka_tasks, ka_filts, kf_node_0, kf_cage_0, kf_cage_9, kf_task_0, kf_task_6, kf_task_7, kf_filt_0, kf_filt_1, kf_filt_2, kf_que, kf_cage_11, kf_cage_12, gi_K, gi_node1, gr_node, gi_cage1, gr_cage1, gr_cmts, gi_task1, gr_task1, gi_tpow, gr_thld, gi_filt, gi_fop, gi_ffs, gi_fsc, gr_walk, gr_mrow, gi_que, gi_qv, hw, hw2, nI_ge h4 (by decide), k_isAtShown hw iv hc hw2 h, eq_false hs]
theorem k_goUp (hw : wf M) (iv : IV (ig M) (og M) r C t mp) (hc : c < C) (hw2 : w < 2) (h : wk w (og M) r c mp) : ∃ M', (∀ Q, Vc (d + 1) 145 [rf (some (143 + w)), rf (some (37 + 10 * c))] M Q = Q none M') ∧ Wst M M' w ∧ wk w (og M') (upR c 4 r) c mp := by
  have hC4 := iv.C4
  have hc4 : c < 4 := by omega
  obtain ⟨M1, l2, k1, k2, k3⟩ := k_goUp_l (d := d) hc4 hw2 4 0 M r hw iv h rfl
  obtain ⟨u1, u2, u3⟩ := posV_upR iv hc Agr.refl h.1
  have iv1 : IV (ig M1) (og M1) (upL 4 r) C t mp := iv_agr (k2.iv iv) (posV_upL iv hc4 4 r Agr.refl h.1).1.2
  have hst : ∀ Q, Vc (d + 1) 145 [rf (some (143 + w)), rf (some (37 + 10 * c))] M Q = V (d + 1) 145 42 [some (rf (some (143 + w))), some (rf (some (37 + 10 * c))), l2] [] M1 Q := fun Q => by
    show V (d + 1) 145 0 [some (rf (some (143 + w))), some (rf (some (37 + 10 * c))), none] [] M Q = _
    rw [s_145_0, s_145_1, k1]
  unfold upR at u1 ⊢
  by_cases hs : upL 4 r 0 41 < 0 ∧ upL 4 r 0 40 = upL 4 r 8 c
  · rw [if_pos hs]
    refine ⟨M1, fun Q => ?_, k2, k3⟩
    rw [hst]
    simp only [s_145_42, s_145_43, s_145_44, s_145_47, s_145_71, eq_self, Nat.reduceLT, Nat.reduceLeDiff, Nat.reduceMod, Nat.reduceDiv, Nat.reduceAdd, Nat.reduceMul, Option.toList_some, Option.toList_none, List.cons_append, List.nil_append, List.append_nil, n10, n00, if_true, if_false, b0, b1, nI_add, true_and, and_true, and_self, sh_1, sh_2, sh_3, sh_36, sh_77, sh_126, k_1_0, k_1_1, k_1_2, k_1_3, k_1_4, k_1_5, k_2_0, sh_node, sh_cage, sh_cmts, sh_mrow, sh_que, sh_qv, sh_task, sh_tpow, sh_thld, sh_filt, sh_fop, sh_ffs, sh_fsc, sh_walk, ka_nodes, ka_cages, ka_tasks, ka_filts, kf_node_0, kf_cage_0, kf_cage_9, kf_task_0, kf_task_6, kf_task_7, kf_filt_0, kf_filt_1, kf_filt_2, kf_que, kf_cage_11, kf_cage_12, gi_K, gi_node1, gr_node, gi_cage1, gr_cage1, gr_cmts, gi_task1, gr_task1, gi_tpow, gr_thld, gi_filt, gi_fop, gi_ffs, gi_fsc, gr_walk, gr_mrow, gi_que, gi_qv, k2.1, hw2, k_isAtRoot k2.1 iv1 hc hw2 k3, eq_true hs]
  · rw [if_neg hs] at u1 ⊢
    obtain ⟨a, m, a1, m1, a2, m2, a3⟩ := u3 hs
    have hcl : (upL 4 r 0 40).toNatClampNeg = a := by rw [a2, nI_clamp (by omega)]
    rw [hcl] at u1 ⊢
    have o0 : og M1 16 w 0 = some (4 + a) := by rw [k3.2.1, a2, ndO_n (by omega)]
    have o6 : og M1 1 a 6 = some (4 + m) := by rw [iv1.n_6 a1 a3, m2, ndO_n (by omega)]
    have w1 := C_walk_0 k2.1 hw2 (x := some (4 + m))
    refine ⟨mu M1 (143 + w) 0 (rf (some (4 + m))), fun Q => ?_, k2.trans (Wst.of w1), u1, ?_, ?_⟩
    · rw [hst]
      simp only [s_145_42, s_145_43, s_145_44, s_145_47, s_145_50, s_145_51, s_145_54, s_145_57, s_145_60, s_145_61, s_145_62, s_145_65, s_145_68, s_145_71, eq_self, Nat.reduceLT, Nat.reduceLeDiff, Nat.reduceMod, Nat.reduceDiv, Nat.reduceAdd, Nat.reduceMul, Option.toList_some, Option.toList_none, List.cons_append, List.nil_append, List.append_nil, n10, n00, if_true, if_false, b0, b1, nI_add, true_and, and_true, and_self, sh_1, sh_2, sh_3, sh_36, sh_77, sh_126, k_1_0, k_1_1, k_1_2, k_1_3, k_1_4, k_1_5, k_2_0, sh_node, sh_cage, sh_cmts, sh_mrow, sh_que, sh_qv, sh_task, sh_tpow, sh_thld, sh_filt, sh_fop, sh_ffs, sh_fsc, sh_walk, ka_nodes, ka_cages, ka_tasks, ka_filts, kf_node_0, kf_cage_0, kf_cage_9, kf_task_0, kf_task_6, kf_task_7, kf_filt_0, kf_filt_1, kf_filt_2, kf_que, kf_cage_11, kf_cage_12, gi_K, gi_node1, gr_node, gi_cage1, gr_cage1, gr_cmts, gi_task1, gr_task1, gi_tpow, gr_thld, gi_filt, gi_fop, gi_ffs, gi_fsc, gr_walk, gr_mrow, gi_que, gi_qv, k2.1, hw2, a1, k_isAtRoot k2.1 iv1 hc hw2 k3, eq_false hs, o0, o6, so_no]
    · rw [w1.o]; simp only [ru, iu, ou, eq_self, Nat.reduceEqDiff, false_and, and_false, if_false, true_and, and_true, and_self, if_true]; rw [m2, ndO_n (by omega)]
    · rw [w1.o]; simp only [ru, iu, ou, eq_self, Nat.reduceEqDiff, false_and, and_false, if_false, true_and, and_true, and_self]; exact k3.2.2
theorem tk_crs (iv : IV I O r C t mp) (hc : c < 4) {T i : Nat} (hT : tkOK r c mp T) (hi : i < mp.1 c) (h4 : i < 4) : tkOK (crs1 r (mp.2.1 c i)) c mp (T ||| 2 ^ i) := by
  obtain ⟨-, t2, t3⟩ := tb2 T hT.1 i h4
  have hn4 := (iv.m1 c hc).1
  refine ⟨t2, fun j hj => ?_⟩
  rw [t3 j (by omega), hT.2 j hj]
  by_cases e : j = i
  · subst e
    simp only [crs1, ru, iu, ou, eq_self, Nat.reduceEqDiff, false_and, and_false, if_false, true_and, and_true, and_self, if_true, n10, not_false_eq_true, decide_true, Bool.or_true]
  · have e2 : ¬ mp.2.1 c j = mp.2.1 c i := fun z => e (pos_inj iv.m2 hc hj hi z)
    simp only [crs1, ru, iu, ou, eq_self, Nat.reduceEqDiff, false_and, and_false, if_false, true_and, and_true, and_self, e2, e, decide_false, Bool.or_false]
theorem k_cross_l (ht : t < 2 ^ 30) (hc : c < 4) (hw2 : w < 2) : ∀ k j T (l4 : Option Value) (M : mH) (r : RS), wf M → IV (ig M) (og M) r C t mp → wk w (og M) r c mp → tkOK r c mp T → j + k = 4 → ∃ M', (∀ Q, V (d + 1) 144 4 [some (rf (some (143 + w))), some (rf (some (37 + 10 * c))), some (.int (nI T)), some (.int (nI j)), l4] [] M Q = Q none M') ∧ Wst M M' w ∧ wk w (og M') (crsL c k r) c mp := by
  intro k
  induction k with
  | zero =>
    intro j T l4 M r hw iv h hT hj
    obtain rfl : j = 4 := by omega
    refine ⟨M, fun Q => ?_, Wst.refl hw, h⟩
    rw [s_144_4]
    simp only [s_144_5, s_144_6, s_144_61, show nI 4 ≤ nI 4 from Int32.le_refl _, if_true]
  | succ k ih =>
    intro j T l4 M r hw iv h hT hj
    have h4 : j < 4 := by omega
    obtain ⟨a, a1, a2, a3, a4⟩ := h.w0
    have hmt := mt_fdn iv ht hc a2 hT
    have hla := fun (Q : Option Value → mH → Prop) => k_latest (d := d) (Q := Q) hw iv hc a1 hT.1
    cases hf : fdn (qM r c mp a T) 4 with
    | none =>
      rw [hf] at hmt
      have hmt : mtAt r c = none := hmt
      refine ⟨M, fun Q => ?_, Wst.refl hw, by simp only [crsL, hmt]; exact h⟩
      rw [s_144_4]
      simp only [s_144_0, s_144_1, s_144_2, s_144_3, s_144_5, s_144_6, s_144_9, s_144_10, s_144_11, s_144_14, s_144_15, s_144_18, s_144_20, s_144_22, s_144_25, s_144_26, s_144_27, s_144_28, s_144_30, s_144_31, s_144_32, s_144_33, s_144_34, s_144_35, s_144_38, s_144_40, s_144_41, s_144_44, s_144_45, s_144_46, s_144_49, s_144_52, s_144_55, s_144_58, s_144_61, eq_self, Nat.reduceLT, Nat.reduceLeDiff, Nat.reduceMod, Nat.reduceDiv, Nat.reduceAdd, Nat.reduceMul, Option.toList_some, Option.toList_none, List.cons_append, List.nil_append, List.append_nil, n10, n00, if_true, if_false, b0, b1, nI_add, true_and, and_true, and_self, sh_1, sh_2, sh_3, sh_36, sh_77, sh_126, k_1_0, k_1_1, k_1_2, k_1_3, k_1_4, k_1_5, k_2_0, sh_node, sh_cage, sh_cmts, sh_mrow, sh_que, sh_qv, sh_task, sh_tpow, sh_thld, sh_filt, sh_fop, sh_ffs, sh_fsc, sh_walk, ka_nodes, ka_cages, ka_tasks, ka_filts, kf_node_0, kf_cage_0, kf_cage_9, kf_task_0, kf_task_6, kf_task_7, kf_filt_0, kf_filt_1, kf_filt_2, kf_que, kf_cage_11, kf_cage_12, gi_K, gi_node1, gr_node, gi_cage1, gr_cage1, gr_cmts, gi_task1, gr_task1, gi_tpow, gr_thld, gi_filt, gi_fop, gi_ffs, gi_fsc, gr_walk, gr_mrow, gi_que, gi_qv, hw, hw2, hc, nI_ge h4 (by decide), a4, hla, hf, oI, show ¬ (0 : Int32) ≤ -1 by decide]
    | some i =>
      rw [hf] at hmt
      have hmt : mtAt r c = some (mp.2.1 c i) := hmt
      obtain ⟨f1, f2, -⟩ := fdn_some hf
      have hi : i < mp.1 c := by
        unfold qM at f2
        exact (of_decide_eq_true (Bool.and_eq_true_iff.1 f2).1).1
      obtain ⟨hpi, ho3⟩ := (iv.m1 c hc).2.2.2.1 i f1
      obtain ⟨-, -, -, -, ⟨b, y1, y2, y3, y4, y5⟩, -⟩ := iv.m2 c hc i hi
      obtain ⟨t1, -, -⟩ := tb2 T hT.1 i f1
      have w1 := C_walk_1 hw hw2 (x := some (39 + 10 * c + mp.2.2.2 c i))
      have w2 := C_walk_0 w1.w hw2 (x := some (4 + b))
      have g1 : og (mu M (143 + w) 1 (rf (some (39 + 10 * c + mp.2.2.2 c i)))) 16 w 1 = some (39 + 10 * c + mp.2.2.2 c i) := by rw [w1.o]; simp only [ru, iu, ou, eq_self, Nat.reduceEqDiff, false_and, and_false, if_false, true_and, and_true, and_self, if_true]
      have g2 : og (mu M (143 + w) 1 (rf (some (39 + 10 * c + mp.2.2.2 c i)))) 4 (4 * c + mp.2.2.2 c i) 2 = some (4 + b) := by rw [w1.o]; simp only [ru, iu, ou, eq_self, Nat.reduceEqDiff, false_and, and_false, if_false, true_and, and_true, and_self]; exact y5
      have hW := (Wst.of w1).trans (Wst.of w2)
      have hlt := pos_lt iv.m2 hc hi
      have iv' : IV (ig (mu (mu M (143 + w) 1 (rf (some (39 + 10 * c + mp.2.2.2 c i)))) (143 + w) 0 (rf (some (4 + b))))) (og (mu (mu M (143 + w) 1 (rf (some (39 + 10 * c + mp.2.2.2 c i)))) (143 + w) 0 (rf (some (4 + b))))) (crs1 r (mp.2.1 c i)) C t mp := iv_agr (hW.iv iv) Agr.crs1
      have hwk : wk w (og (mu (mu M (143 + w) 1 (rf (some (39 + 10 * c + mp.2.2.2 c i)))) (143 + w) 0 (rf (some (4 + b))))) (crs1 r (mp.2.1 c i)) c mp := by
        refine ⟨posV_crs1 iv hc hmt, ?_, ?_⟩
        · have e40 : crs1 r (mp.2.1 c i) 0 40 = nI b := by simp only [crs1, ru, iu, ou, eq_self, Nat.reduceEqDiff, false_and, and_false, if_false, true_and, and_true, and_self, if_true]; exact y2
          rw [e40, ndO_n (by omega), w2.o]; simp only [ru, iu, ou, eq_self, Nat.reduceEqDiff, false_and, and_false, if_false, true_and, and_true, and_self, if_true]
        · have e41 : crs1 r (mp.2.1 c i) 0 41 = nI (mp.2.1 c i) := by simp only [crs1, ru, iu, ou, eq_self, Nat.reduceEqDiff, false_and, and_false, if_false, true_and, and_true, and_self, if_true]
          rw [e41, mtO_n iv hc hi, w2.o]; simp only [ru, iu, ou, eq_self, Nat.reduceEqDiff, false_and, and_false, if_false, true_and, and_true, and_self]; exact g1
      obtain ⟨M', k1, k2, k3⟩ := ih (j + 1) (T ||| 2 ^ i) (some (.int (nI i))) _ _ w2.w iv' hwk (tk_crs iv hc hT hi f1) (by omega)
      have h0 : (0 : Int32) ≤ nI i := nI_le (a := 0) (Nat.zero_le _) (by omega)
      refine ⟨M', fun Q => ?_, hW.trans k2, by simp only [crsL, hmt]; exact k3⟩
      rw [s_144_4]
      simp only [s_144_0, s_144_1, s_144_2, s_144_3, s_144_5, s_144_6, s_144_9, s_144_10, s_144_11, s_144_14, s_144_15, s_144_18, s_144_20, s_144_22, s_144_25, s_144_26, s_144_27, s_144_28, s_144_30, s_144_31, s_144_32, s_144_33, s_144_34, s_144_35, s_144_38, s_144_40, s_144_41, s_144_44, s_144_45, s_144_46, s_144_49, s_144_52, s_144_55, s_144_58, s_144_61, eq_self, Nat.reduceLT, Nat.reduceLeDiff, Nat.reduceMod, Nat.reduceDiv, Nat.reduceAdd, Nat.reduceMul, Option.toList_some, Option.toList_none, List.cons_append, List.nil_append, List.append_nil, n10, n00, if_true, if_false, b0, b1, nI_add, true_and, and_true, and_self, sh_1, sh_2, sh_3, sh_36, sh_77, sh_126, k_1_0, k_1_1, k_1_2, k_1_3, k_1_4, k_1_5, k_2_0, sh_node, sh_cage, sh_cmts, sh_mrow, sh_que, sh_qv, sh_task, sh_tpow, sh_thld, sh_filt, sh_fop, sh_ffs, sh_fsc, sh_walk, ka_nodes, ka_cages, ka_tasks, ka_filts, kf_node_0, kf_cage_0, kf_cage_9, kf_task_0, kf_task_6, kf_task_7, kf_filt_0, kf_filt_1, kf_filt_2, kf_que, kf_cage_11, kf_cage_12, gi_K, gi_node1, gr_node, gi_cage1, gr_cage1, gr_cmts, gi_task1, gr_task1, gi_tpow, gr_thld, gi_filt, gi_fop, gi_ffs, gi_fsc, gr_walk, gr_mrow, gi_que, gi_qv, hw, hw2, hc, f1, hpi, nI_ge h4 (by decide), a4, hla, hf, oI, h0, t1, ho3, w1.w, g1, g2, k1]
theorem k_cross (ht : t < 2 ^ 30) (hw : wf M) (iv : IV (ig M) (og M) r C t mp) (hc : c < 4) (hw2 : w < 2) (h : wk w (og M) r c mp) : ∃ M', (∀ Q, Vc (d + 1) 144 [rf (some (143 + w)), rf (some (37 + 10 * c))] M Q = Q none M') ∧ Wst M M' w ∧ wk w (og M') (crossR c r) c mp := by
  have h' : wk w (og M) (clr c r) c mp := ⟨posV_clr h.1, by simp only [clr, ru, iu, ou, eq_self, Nat.reduceEqDiff, false_and, and_false, if_false, true_and, and_true, and_self]; exact h.2.1, by simp only [clr, ru, iu, ou, eq_self, Nat.reduceEqDiff, false_and, and_false, if_false, true_and, and_true, and_self]; exact h.2.2⟩
  have hT : tkOK (clr c r) c mp 0 := by
    refine ⟨by omega, fun i hi => ?_⟩
    have e : clr c r 23 (mp.2.1 c i) = nI 0 := by
      obtain ⟨j, hj, hj2⟩ := (iv.m2 c hc i hi).1
      rw [hj2]
      rcases (show j = 0 ∨ j = 1 ∨ j = 2 ∨ j = 3 by omega) with rfl | rfl | rfl | rfl
      · simp only [clr, ru, iu, ou, eq_self, Nat.reduceEqDiff, false_and, and_false, if_false, true_and, and_true, and_self, if_true, Nat.add_zero, ite_self]
      · simp only [clr, ru, iu, ou, eq_self, Nat.reduceEqDiff, false_and, and_false, if_false, true_and, and_true, and_self, if_true, ite_self]
      · simp only [clr, ru, iu, ou, eq_self, Nat.reduceEqDiff, false_and, and_false, if_false, true_and, and_true, and_self, if_true, ite_self]
      · simp only [clr, ru, iu, ou, eq_self, Nat.reduceEqDiff, false_and, and_false, if_false, true_and, and_true, and_self, if_true]
    simp only [e, n00, not_true, decide_false, Nat.zero_testBit]
  obtain ⟨M', k1, k2, k3⟩ := k_cross_l (d := d) ht hc hw2 4 0 0 none M (clr c r) hw (iv_agr iv Agr.clr) h' hT rfl
  refine ⟨M', fun Q => ?_, k2, k3⟩
  show V (d + 1) 144 0 [some (rf (some (143 + w))), some (rf (some (37 + 10 * c))), none, none, none] [] M Q = _
  rw [s_144_0, s_144_1, s_144_2, s_144_3, k1]
theorem no_child (iv : IV I O r C t mp) {a : Nat} {nm : Int32} (ha : a < 32) (h4 : ¬ r 4 a = 0) : ffind (pFind r (nI a) nm) 1 31 = none := by
  cases h : ffind (pFind r (nI a) nm) 1 31 with
  | none => rfl
  | some n =>
    obtain ⟨n1, n2, n3⟩ := ffind_in h
    obtain ⟨k1, k2, -⟩ := of_decide_eq_true n3
    rcases (iv.n2 n (by omega) k1).2.2.1 with e | ⟨m, m1, m2, m3, m4⟩
    · omega
    · rw [k2] at m2
      exact absurd (show r 4 a = 0 by rw [(nI_eq (by omega) (by omega)).1 m2]; exact m4) h4
theorem k_fol_l (ht : t < 2 ^ 30) (hc : c < C) (hw2 : w < 2) {p : Int32} : ∀ f k (l6 l7 : Option Value) (M : mH) (r : RS), wf M → IV (ig M) (og M) r C t mp → wk w (og M) r c mp → k + f ≤ 7 → ∃ M', (∀ Q, V (d + 2) 141 25 [some (rf (some (143 + w))), some (rf (some 2)), some (rf (some (37 + 10 * c))), some (.int p), some (.int (nI (k + f))), some (.int (nI k)), l6, l7] [] M Q = Q (some (.int (bI (folR c 4 p f k r).1))) M') ∧ Wst M M' w ∧ ((folR c 4 p f k r).1 = true → wk w (og M') (folR c 4 p f k r).2 c mp) := by
  intro f
  induction f with
  | zero =>
    intro k l6 l7 M r hw iv h hk
    refine ⟨M, fun Q => ?_, Wst.refl hw, fun _ => h⟩
    rw [s_141_25]
    simp only [s_141_27, s_141_29, s_141_98, s_141_99, Nat.add_zero, show nI k ≤ nI k from Int32.le_refl _, if_true, folR, bI, cond_true, b1]
  | succ f ih =>
    intro k l6 l7 M r hw iv h hk
    have hC4 := iv.C4
    have hc4 : c < 4 := by omega
    have h7 : k < 7 := by omega
    have ekf : k + (f + 1) = k + 1 + f := by omega
    have hlt : ¬ nI (k + 1 + f) ≤ nI k := nI_ge (by omega) (by omega)
    rw [ekf]
    by_cases hu : nib p k = nI 15
    · obtain ⟨M1, u1, u2, u3⟩ := k_goUp (d := d) hw iv hc hw2 h
      have iv1 : IV (ig M1) (og M1) (upR c 4 r) C t mp := iv_agr (u2.iv iv) (posV_upR iv hc Agr.refl h.1).2.1
      obtain ⟨M', k1, k2, k3⟩ := ih (k + 1) (some (.int (nI 15))) l7 M1 (upR c 4 r) u2.1 iv1 u3 (by omega)
      have e : folR c 4 p (f + 1) k r = folR c 4 p f (k + 1) (upR c 4 r) := by rw [folR, if_pos hu]
      rw [e]
      refine ⟨M', fun Q => ?_, u2.trans k2, k3⟩
      rw [s_141_25]
      simp only [s_141_0, s_141_1, s_141_2, s_141_5, s_141_8, s_141_9, s_141_10, s_141_13, s_141_14, s_141_16, s_141_17, s_141_20, s_141_21, s_141_22, s_141_23, s_141_27, s_141_29, s_141_32, s_141_34, s_141_36, s_141_39, s_141_40, s_141_42, s_141_45, s_141_47, s_141_49, s_141_51, s_141_54, s_141_55, s_141_56, s_141_59, s_141_62, s_141_63, s_141_64, s_141_67, s_141_69, s_141_72, s_141_74, s_141_76, s_141_79, s_141_80, s_141_81, s_141_82, s_141_84, s_141_87, s_141_88, s_141_89, s_141_92, s_141_95, s_141_98, s_141_99, eq_self, Nat.reduceLT, Nat.reduceLeDiff, Nat.reduceMod, Nat.reduceDiv, Nat.reduceAdd, Nat.reduceMul, Option.toList_some, Option.toList_none, List.cons_append, List.nil_append, List.append_nil, n10, n00, if_true, if_false, b0, b1, nI_add, true_and, and_true, and_self, sh_1, sh_2, sh_3, sh_36, sh_77, sh_126, k_1_0, k_1_1, k_1_2, k_1_3, k_1_4, k_1_5, k_2_0, sh_node, sh_cage, sh_cmts, sh_mrow, sh_que, sh_qv, sh_task, sh_tpow, sh_thld, sh_filt, sh_fop, sh_ffs, sh_fsc, sh_walk, ka_nodes, ka_cages, ka_tasks, ka_filts, kf_node_0, kf_cage_0, kf_cage_9, kf_task_0, kf_task_6, kf_task_7, kf_filt_0, kf_filt_1, kf_filt_2, kf_que, kf_cage_11, kf_cage_12, gi_K, gi_node1, gr_node, gi_cage1, gr_cage1, gr_cmts, gi_task1, gr_task1, gi_tpow, gr_thld, gi_filt, gi_fop, gi_ffs, gi_fsc, gr_walk, gr_mrow, gi_que, gi_qv, hw, hw2, hlt, nI_ge h7 (by decide), k_nameAt h7, hu, u1, k1]
    · obtain ⟨a, a1, a2, a3, a4⟩ := h.w0
      have hch := fun (Q : Option Value → mH → Prop) => k_childOf (d := d + 1) (Q := Q) hw iv (show a < 2 ^ 31 by omega) (nm := nib p k)
      cases hf : ffind (pFind r (nI a) (nib p k)) 1 31 with
      | none =>
        have e : folR c 4 p (f + 1) k r = (false, r) := by
          rw [folR, if_neg hu, a2, nI_clamp (by omega), hf]
          split <;> rfl
        rw [e]
        refine ⟨M, fun Q => ?_, Wst.refl hw, fun z => absurd z Bool.false_ne_true⟩
        rw [s_141_25]
        simp only [s_141_0, s_141_1, s_141_2, s_141_5, s_141_8, s_141_9, s_141_10, s_141_13, s_141_14, s_141_16, s_141_17, s_141_20, s_141_21, s_141_22, s_141_23, s_141_27, s_141_29, s_141_32, s_141_34, s_141_36, s_141_39, s_141_40, s_141_42, s_141_45, s_141_47, s_141_49, s_141_51, s_141_54, s_141_55, s_141_56, s_141_59, s_141_62, s_141_63, s_141_64, s_141_67, s_141_69, s_141_72, s_141_74, s_141_76, s_141_79, s_141_80, s_141_81, s_141_82, s_141_84, s_141_87, s_141_88, s_141_89, s_141_92, s_141_95, s_141_98, s_141_99, eq_self, Nat.reduceLT, Nat.reduceLeDiff, Nat.reduceMod, Nat.reduceDiv, Nat.reduceAdd, Nat.reduceMul, Option.toList_some, Option.toList_none, List.cons_append, List.nil_append, List.append_nil, n10, n00, if_true, if_false, b0, b1, nI_add, true_and, and_true, and_self, sh_1, sh_2, sh_3, sh_36, sh_77, sh_126, k_1_0, k_1_1, k_1_2, k_1_3, k_1_4, k_1_5, k_2_0, sh_node, sh_cage, sh_cmts, sh_mrow, sh_que, sh_qv, sh_task, sh_tpow, sh_thld, sh_filt, sh_fop, sh_ffs, sh_fsc, sh_walk, ka_nodes, ka_cages, ka_tasks, ka_filts, kf_node_0, kf_cage_0, kf_cage_9, kf_task_0, kf_task_6, kf_task_7, kf_filt_0, kf_filt_1, kf_filt_2, kf_que, kf_cage_11, kf_cage_12, gi_K, gi_node1, gr_node, gi_cage1, gr_cage1, gr_cmts, gi_task1, gr_task1, gi_tpow, gr_thld, gi_filt, gi_fop, gi_ffs, gi_fsc, gr_walk, gr_mrow, gi_que, gi_qv, hw, hw2, hlt, nI_ge h7 (by decide), k_nameAt h7, hu, a4, hch, hf, nO_z, bI, cond_false]
      | some n =>
        obtain ⟨n1, n2, n3⟩ := ffind_in hf
        have hdir : r 4 a = 0 := by
          by_cases z : r 4 a = 0
          · exact z
          · rw [no_child iv a1 z] at hf; exact absurd hf (by simp)
        have hf' : ffind (pFind r (r 0 40) (nib p k)) 1 31 = some n := by rw [a2]; exact hf
        have w1 := C_walk_0 hw hw2 (x := some (4 + n))
        have iv1 : IV (ig (mu M (143 + w) 0 (rf (some (4 + n))))) (og (mu M (143 + w) 0 (rf (some (4 + n))))) (ru r 0 40 (nI n)) C t mp := iv_agr ((Wst.of w1).iv iv) Agr.a40
        have hwk1 : wk w (og (mu M (143 + w) 0 (rf (some (4 + n))))) (ru r 0 40 (nI n)) c mp := by
          refine ⟨posV_child h.1 hf', ?_, ?_⟩
          · rw [w1.o]; simp only [ru, iu, ou, eq_self, Nat.reduceEqDiff, false_and, and_false, if_false, true_and, and_true, and_self, if_true]; exact (ndO_n (by omega)).symm
          · rw [w1.o]; simp only [ru, iu, ou, eq_self, Nat.reduceEqDiff, false_and, and_false, if_false, true_and, and_true, and_self]; exact h.2.2
        obtain ⟨M2, u1, u2, u3⟩ := k_cross (d := d) ht w1.w iv1 hc4 hw2 hwk1
        have iv2 : IV (ig M2) (og M2) (crossR c (ru r 0 40 (nI n))) C t mp := iv_agr (u2.iv iv1) (posV_cross iv1 hc4 Agr.refl hwk1.1).2
        obtain ⟨M', k1, k2, k3⟩ := ih (k + 1) (some (.int (nib p k))) (some (rf (some (4 + n)))) M2 _ u2.1 iv2 u3 (by omega)
        have e : folR c 4 p (f + 1) k r = folR c 4 p f (k + 1) (crossR c (ru r 0 40 (nI n))) := by
          rw [folR, if_neg hu, a2, nI_clamp (by omega), if_pos hdir, hf]
        rw [e]
        refine ⟨M', fun Q => ?_, (Wst.of w1).trans (u2.trans k2), k3⟩
        rw [s_141_25]
        simp only [s_141_0, s_141_1, s_141_2, s_141_5, s_141_8, s_141_9, s_141_10, s_141_13, s_141_14, s_141_16, s_141_17, s_141_20, s_141_21, s_141_22, s_141_23, s_141_27, s_141_29, s_141_32, s_141_34, s_141_36, s_141_39, s_141_40, s_141_42, s_141_45, s_141_47, s_141_49, s_141_51, s_141_54, s_141_55, s_141_56, s_141_59, s_141_62, s_141_63, s_141_64, s_141_67, s_141_69, s_141_72, s_141_74, s_141_76, s_141_79, s_141_80, s_141_81, s_141_82, s_141_84, s_141_87, s_141_88, s_141_89, s_141_92, s_141_95, s_141_98, s_141_99, eq_self, Nat.reduceLT, Nat.reduceLeDiff, Nat.reduceMod, Nat.reduceDiv, Nat.reduceAdd, Nat.reduceMul, Option.toList_some, Option.toList_none, List.cons_append, List.nil_append, List.append_nil, n10, n00, if_true, if_false, b0, b1, nI_add, true_and, and_true, and_self, sh_1, sh_2, sh_3, sh_36, sh_77, sh_126, k_1_0, k_1_1, k_1_2, k_1_3, k_1_4, k_1_5, k_2_0, sh_node, sh_cage, sh_cmts, sh_mrow, sh_que, sh_qv, sh_task, sh_tpow, sh_thld, sh_filt, sh_fop, sh_ffs, sh_fsc, sh_walk, ka_nodes, ka_cages, ka_tasks, ka_filts, kf_node_0, kf_cage_0, kf_cage_9, kf_task_0, kf_task_6, kf_task_7, kf_filt_0, kf_filt_1, kf_filt_2, kf_que, kf_cage_11, kf_cage_12, gi_K, gi_node1, gr_node, gi_cage1, gr_cage1, gr_cmts, gi_task1, gr_task1, gi_tpow, gr_thld, gi_filt, gi_fop, gi_ffs, gi_fsc, gr_walk, gr_mrow, gi_que, gi_qv, hw, hw2, hlt, nI_ge h7 (by decide), k_nameAt h7, hu, a4, hch, hf, nO_s, so_no, w1.w, u1, k1]
theorem k_fol (ht : t < 2 ^ 30) (hw : wf M) (iv : IV (ig M) (og M) r C t mp) (hc : c < C) (hw2 : w < 2) {p : Int32} {m : Nat} (hm : m ≤ 7) : ∃ M', (∀ Q, Vc (d + 2) 141 [rf (some (143 + w)), rf (some 2), rf (some (37 + 10 * c)), .int p, .int (nI m)] M Q = Q (some (.int (bI (follR c 4 p m r).1))) M') ∧ Wst M M' w ∧ ((follR c 4 p m r).1 = true → wk w (og M') (follR c 4 p m r).2 c mp) := by
  have hC4 := iv.C4
  have hc4 : c < 4 := by omega
  obtain ⟨b, y1, y2, -⟩ := (iv.c c hc).2.2.2.2.2.2.1
  have o1 : og M 2 c 1 = some (4 + b) := by rw [iv.c_1 hc, y2, ndO_n (by omega)]
  have w1 := C_walk_0 hw hw2 (x := some (4 + b))
  have w2 := C_walk_1 w1.w hw2 (x := none)
  have hW := (Wst.of w1).trans (Wst.of w2)
  have iv2 : IV (ig (mu (mu M (143 + w) 0 (rf (some (4 + b)))) (143 + w) 1 (rf none))) (og (mu (mu M (143 + w) 0 (rf (some (4 + b)))) (143 + w) 1 (rf none))) (folS c r) C t mp := iv_agr (hW.iv iv) Agr.S
  have hwk : wk w (og (mu (mu M (143 + w) 0 (rf (some (4 + b)))) (143 + w) 1 (rf none))) (folS c r) c mp := by
    refine ⟨posV_S iv hc, ?_, ?_⟩
    · have e40 : folS c r 0 40 = nI b := by simp only [folS, ru, iu, ou, eq_self, Nat.reduceEqDiff, false_and, and_false, if_false, true_and, and_true, and_self, if_true]; exact y2
      rw [e40, ndO_n (by omega), w2.o, w1.o]; simp only [ru, iu, ou, eq_self, Nat.reduceEqDiff, false_and, and_false, if_false, true_and, and_true, and_self, if_true]
    · have e41 : folS c r 0 41 = -1 := by simp only [folS, ru, iu, ou, eq_self, Nat.reduceEqDiff, false_and, and_false, if_false, true_and, and_true, and_self, if_true]
      rw [e41, w2.o]; simp only [ru, iu, ou, eq_self, Nat.reduceEqDiff, false_and, and_false, if_false, true_and, and_true, and_self, if_true]; rfl
  by_cases hb : hiB p = 0
  · obtain ⟨M', k1, k2, k3⟩ := k_fol_l (d := d) ht hc hw2 (p := p) m 0 none none _ _ w2.w iv2 hwk (by omega)
    have e : follR c 4 p m r = folR c 4 p m 0 (folS c r) := by rw [follR, if_pos hb]
    rw [e]
    refine ⟨M', fun Q => ?_, hW.trans k2, k3⟩
    refine Eq.trans ?_ (k1 Q)
    rw [Nat.zero_add]
    show V (d + 2) 141 0 [some (rf (some (143 + w))), some (rf (some 2)), some (rf (some (37 + 10 * c))), some (.int p), some (.int (nI m)), none, none, none] [] M Q = _
    unfold hiB at hb
    simp only [s_141_0, s_141_1, s_141_2, s_141_5, s_141_8, s_141_9, s_141_10, s_141_13, s_141_14, s_141_16, s_141_17, s_141_22, s_141_23, eq_self, Nat.reduceLT, Nat.reduceLeDiff, Nat.reduceMod, Nat.reduceDiv, Nat.reduceAdd, Nat.reduceMul, Option.toList_some, Option.toList_none, List.cons_append, List.nil_append, List.append_nil, n10, n00, if_true, if_false, b0, b1, nI_add, true_and, and_true, and_self, sh_1, sh_2, sh_3, sh_36, sh_77, sh_126, k_1_0, k_1_1, k_1_2, k_1_3, k_1_4, k_1_5, k_2_0, sh_node, sh_cage, sh_cmts, sh_mrow, sh_que, sh_qv, sh_task, sh_tpow, sh_thld, sh_filt, sh_fop, sh_ffs, sh_fsc, sh_walk, ka_nodes, ka_cages, ka_tasks, ka_filts, kf_node_0, kf_cage_0, kf_cage_9, kf_task_0, kf_task_6, kf_task_7, kf_filt_0, kf_filt_1, kf_filt_2, kf_que, kf_cage_11, kf_cage_12, gi_K, gi_node1, gr_node, gi_cage1, gr_cage1, gr_cmts, gi_task1, gr_task1, gi_tpow, gr_thld, gi_filt, gi_fop, gi_ffs, gi_fsc, gr_walk, gr_mrow, gi_que, gi_qv, hw, hw2, hc4, o1, w1.w, hb]
  · have e : follR c 4 p m r = (false, folS c r) := by rw [follR, if_neg hb]
    rw [e]
    refine ⟨_, fun Q => ?_, hW, fun z => absurd z Bool.false_ne_true⟩
    show V (d + 2) 141 0 [some (rf (some (143 + w))), some (rf (some 2)), some (rf (some (37 + 10 * c))), some (.int p), some (.int (nI m)), none, none, none] [] M Q = _
    unfold hiB at hb
    simp only [s_141_0, s_141_1, s_141_2, s_141_5, s_141_8, s_141_9, s_141_10, s_141_13, s_141_14, s_141_16, s_141_17, s_141_20, s_141_21, eq_self, Nat.reduceLT, Nat.reduceLeDiff, Nat.reduceMod, Nat.reduceDiv, Nat.reduceAdd, Nat.reduceMul, Option.toList_some, Option.toList_none, List.cons_append, List.nil_append, List.append_nil, n10, n00, if_true, if_false, b0, b1, nI_add, true_and, and_true, and_self, sh_1, sh_2, sh_3, sh_36, sh_77, sh_126, k_1_0, k_1_1, k_1_2, k_1_3, k_1_4, k_1_5, k_2_0, sh_node, sh_cage, sh_cmts, sh_mrow, sh_que, sh_qv, sh_task, sh_tpow, sh_thld, sh_filt, sh_fop, sh_ffs, sh_fsc, sh_walk, ka_nodes, ka_cages, ka_tasks, ka_filts, kf_node_0, kf_cage_0, kf_cage_9, kf_task_0, kf_task_6, kf_task_7, kf_filt_0, kf_filt_1, kf_filt_2, kf_que, kf_cage_11, kf_cage_12, gi_K, gi_node1, gr_node, gi_cage1, gr_cage1, gr_cmts, gi_task1, gr_task1, gi_tpow, gr_thld, gi_filt, gi_fop, gi_ffs, gi_fsc, gr_walk, gr_mrow, gi_que, gi_qv, hw, hw2, hc4, o1, w1.w, hb, bI, cond_false]
theorem k_follow (ht : t < 2 ^ 30) (hw : wf M) (iv : IV (ig M) (og M) r C t mp) (hc : c < C) (hw2 : w < 2) {p : Int32} : ∃ M', (∀ Q, Vc (d + 3) 140 [rf (some (143 + w)), rf (some 2), rf (some (37 + 10 * c)), .int p] M Q = Q (some (.int (bI (follR c 4 p (nms p) r).1))) M') ∧ Wst M M' w ∧ ((follR c 4 p (nms p) r).1 = true → wk w (og M') (follR c 4 p (nms p) r).2 c mp) := by
  obtain ⟨M', k1, k2, k3⟩ := k_fol (d := d) ht hw iv hc hw2 (p := p) (m := nms p) nms_le
  refine ⟨M', fun Q => ?_, k2, k3⟩
  have hbb : (bI (follR c 4 p (nms p) r).1 == 0 || bI (follR c 4 p (nms p) r).1 == 1) = true := by cases (follR c 4 p (nms p) r).1 <;> rfl
  show V (d + 3) 140 0 [some (rf (some (143 + w))), some (rf (some 2)), some (rf (some (37 + 10 * c))), some (.int p)] [] M Q = _
  simp only [s_140_0, s_140_1, s_140_2, s_140_3, s_140_4, s_140_5, s_140_8, s_140_11, eq_self, Nat.reduceLT, Nat.reduceLeDiff, Nat.reduceMod, Nat.reduceDiv, Nat.reduceAdd, Nat.reduceMul, Option.toList_some, Option.toList_none, List.cons_append, List.nil_append, List.append_nil, n10, n00, if_true, if_false, b0, b1, nI_add, true_and, and_true, and_self, sh_1, sh_2, sh_3, sh_36, sh_77, sh_126, k_1_0, k_1_1, k_1_2, k_1_3, k_1_4, k_1_5, k_2_0, sh_node, sh_cage, sh_cmts, sh_mrow, sh_que, sh_qv, sh_task, sh_tpow, sh_thld, sh_filt, sh_fop, sh_ffs, sh_fsc, sh_walk, ka_nodes, ka_cages, ka_tasks, ka_filts, kf_node_0, kf_cage_0, kf_cage_9, kf_task_0, kf_task_6, kf_task_7, kf_filt_0, kf_filt_1, kf_filt_2, kf_que, kf_cage_11, kf_cage_12, gi_K, gi_node1, gr_node, gi_cage1, gr_cage1, gr_cmts, gi_task1, gr_task1, gi_tpow, gr_thld, gi_filt, gi_fop, gi_ffs, gi_fsc, gr_walk, gr_mrow, gi_que, gi_qv, hw, hw2, k_namesIn, k1, hbb]
/-- where the way has led: all but where one is, is as it was -/
theorem foll_agr (iv : IV I O r C t mp) (hc : c < C) {p : Int32} {m : Nat} : Agr (follR c 4 p m r).2 r ∧ posV (follR c 4 p m r).2 c mp := by
  have h := foll_J (Jw_on iv hc) (p := p) (m := m) (Jw_S iv hc Agr.refl)
  exact ⟨h.1, h.2⟩
end
