section
variable {d : Nat} {M : mH} {Q : Option Value → mH → Prop}
/-- MOUNT: the second way begins where the first one ended -/
def mountR (w : RS) (p c N : Nat) (b : Int32) : Int32 × RS := if (follR c N b (nms b) w).1 = true then mount2 (follR c N b (nms b) w).2 p c (w 0 40).toNatClampNeg (w 0 41) else (-2, (follR c N b (nms b) w).2)
/-- the MOUNT by which one came -/
def byO (w : RS) : Option Nat := if w 0 41 < 0 then none else some (w 0 41).toNatClampNeg
/-- the calls at the end of a way -/
def tree2 (w : RS) (p c C N k : Nat) (b : Int32) : Int32 × RS := match k with
  | 4 => read2 w
  | 5 => write2 w p c b
  | 7 => rem2 w p c C
  | 8 => give2 w p c b
  | 12 => mountR w p c N b
  | _ => unm2 w p c (byO w)
def treeR (r : RS) (p c C N k : Nat) (a b : Int32) : Int32 × RS := if k = 6 then makeR r p c N a b else if (follR c N a (nms a) r).1 = true then tree2 (follR c N a (nms a) r).2 p c C N k b else (-2, (follR c N a (nms a) r).2)
/-- more of the ways: places are NODES in NODES, a way begins anywhere, one comes by a row of MOUNTS -/
def wayOK2 (C p c N : Nat) (rk : Nat → Nat) (J : RS → Prop) : Prop := wayOK C p c N rk J ∧ ∀ r, J r → atN r ∧ J (folS c r)
theorem atBy_oI {r : RS} {rk : Nat → Nat} {n : Nat} (h : atBy r rk n) : r 0 41 = oI (byO r) ∧ ∀ k, byO r = some k → k < 16 := by
  rcases h with h | ⟨k, hk, h, -, -⟩
  · have e : byO r = none := by unfold byO; rw [h]; rfl
    rw [e]
    exact ⟨h, fun k z => by cases z⟩
  · have e : byO r = some k := by unfold byO; rw [h, if_neg (nI_pos (by omega)), nI_clamp (by omega)]
    rw [e]
    exact ⟨h, fun k' z => by cases z; exact hk⟩
theorem c_mount (hw : wf M) {C p c N : Nat} {rk : Nat → Nat} {J : RS → Prop} (hC : C ≤ 4) (hp : p < 16) (hc : c < C) (hJ : wayOK2 C p c N rk J) (hj : J (rg M)) {a : Nat} (ha : a < 32) (hat : rg M 0 40 = nI a) {b : Int32} : Den (d + 3) 91 [rf (some 145), .int (nI p), .int (nI c), .int (nI a), .int (rg M 0 41), .int b] M (some (.int (mountR (rg M) p c N b).1)) (mountR (rg M) p c N b).2 := by
  have hc4 : c < 4 := by omega
  have hcl : (rg M 0 40).toNatClampNeg = a := by rw [hat, nI_clamp (by omega)]
  have hj0 := (hJ.2 _ hj).2
  obtain ⟨M1, g1, g2, g3, g4⟩ := c_follow (d := d) hw hc4 hJ.1.1 hj0 (p := b) (m := nms b) (by have := nms_le (p := b); omega)
  obtain ⟨b', hb', hbv⟩ := foll_at hJ.1.1 (p := b) (m := nms b) hj0
  rw [← g3] at hbv
  have hst : ∀ Q, Vc (d + 3) 91 [rf (some 145), .int (nI p), .int (nI c), .int (nI a), .int (rg M 0 41), .int b] M Q = if (follR c N b (nms b) (rg M)).1 = true then V (d + 3) 91 18 [some (rf (some 145)), some (.int (nI p)), some (.int (nI c)), some (.int (nI a)), some (.int (rg M 0 41)), some (.int b), none] [] M1 Q else Q (some (.int (-2))) M1 := by
    intro Q
    show V (d + 3) 91 0 [some (rf (some 145)), some (.int (nI p)), some (.int (nI c)), some (.int (nI a)), some (.int (rg M 0 41)), some (.int b), none] [] M Q = _
    simp only [s_91_0, s_91_1, s_91_2, s_91_4, s_91_6, c_names, s_91_9 hw sh_145, g1, s_91_12, eq_self, Nat.reduceLT, Nat.reduceLeDiff, Nat.reduceMod, Nat.reduceDiv, Nat.reduceAdd, Nat.reduceMul, Option.toList_some, Option.toList_none, List.cons_append, List.nil_append, List.append_nil, n10, n00, if_true, if_false, b0, b1, nI_add, true_and, and_true, and_self, bI_0]
    cases (follR c N b (nms b) (rg M)).1 with
    | true => simp only [Bool.true_eq_false, eq_self, Nat.reduceLT, Nat.reduceLeDiff, Nat.reduceMod, Nat.reduceDiv, Nat.reduceAdd, Nat.reduceMul, Option.toList_some, Option.toList_none, List.cons_append, List.nil_append, List.append_nil, n10, n00, if_true, if_false, b0, b1, nI_add, true_and, and_true, and_self]
    | false => simp only [Bool.false_eq_true, s_91_15, s_91_17, eq_self, Nat.reduceLT, Nat.reduceLeDiff, Nat.reduceMod, Nat.reduceDiv, Nat.reduceAdd, Nat.reduceMul, Option.toList_some, Option.toList_none, List.cons_append, List.nil_append, List.append_nil, n10, n00, if_true, if_false, b0, b1, nI_add, true_and, and_true, and_self]
  unfold mountR
  rw [hcl]
  cases hok : (follR c N b (nms b) (rg M)).1 with
  | true =>
    obtain ⟨M2, k1, k2, k3, k4⟩ := c_mount2 (d := d + 2) g2 hp hc4 ha hb' hbv (aBy := rg M 0 41) (l5 := b)
    rw [if_pos rfl, ← g3]
    refine ⟨M2, fun Q => ?_, k2, k3, k4.trans g4⟩
    rw [hst, hok, if_pos rfl, k1]
  | false =>
    rw [if_neg (by decide), ← g3]
    refine ⟨M1, fun Q => ?_, g2, rfl, g4⟩
    rw [hst, hok, if_neg (by decide)]
theorem c_tree (hw : wf M) {C p c N : Nat} {rk : Nat → Nat} {J : RS → Prop} (hC : C ≤ 4) (hp : p < 16) (hc : c < C) (hpc : rg M 25 p = nI c) (hJ : wayOK2 C p c N rk J) (hj : J (folS c (rg M))) {k : Nat} (hk : k = 4 ∨ k = 5 ∨ k = 6 ∨ k = 7 ∨ k = 8 ∨ k = 12 ∨ k = 13) {a b : Int32} : Den (d + 5) 88 [rf (some 145), .int (nI p), .int (nI k), .int a, .int b] M (some (.int (treeR (rg M) p c C N k a b).1)) (treeR (rg M) p c C N k a b).2 := by
  have hc4 : c < 4 := by omega
  unfold treeR
  by_cases h6 : k = 6
  · rw [if_pos h6]
    subst h6
    obtain ⟨M', g1, g2, g3, g4⟩ := c_make (d := d) hw hC hp hc hpc hJ.1 hj (a := a) (b := b)
    refine ⟨M', fun Q => ?_, g2, g3, g4⟩
    show V (d + 5) 88 0 [some (rf (some 145)), some (.int (nI p)), some (.int (nI 6)), some (.int a), some (.int b), none, none, none] [] M Q = _
    simp only [s_88_0, s_88_1, s_88_4, s_88_5, s_88_6, s_88_8, s_88_9, s_88_12, s_88_14, s_88_15, s_88_17, s_88_20, s_88_21, s_88_22, s_88_23, s_88_25, s_88_27 hw sh_145, s_88_30, c_names, g1, eq_self, Nat.reduceLT, Nat.reduceLeDiff, Nat.reduceMod, Nat.reduceDiv, Nat.reduceAdd, Nat.reduceMul, Option.toList_some, Option.toList_none, List.cons_append, List.nil_append, List.append_nil, n10, n00, if_true, if_false, b0, b1, nI_add, true_and, and_true, and_self, sh_145, k_145_0, k_145_1, k_145_2, k_145_3, k_145_4, k_145_5, k_145_6, k_145_7, k_145_8, k_145_9, k_145_10, k_145_11, k_145_12, k_145_13, k_145_14, k_145_15, k_145_16, k_145_17, k_145_18, k_145_19, k_145_20, k_145_21, k_145_22, k_145_23, k_145_24, k_145_25, k_145_26, k_145_27, k_145_28, k_145_29, k_145_30, k_145_31, k_145_32, k_145_33, k_145_34, k_145_35, sh_146, sh_147, sh_148, sh_149, sh_150, sh_151, sh_152, sh_153, sh_154, sh_155, sh_156, sh_157, sh_158, sh_159, sh_160, sh_161, sh_162, sh_163, sh_164, sh_165, sh_166, sh_167, sh_168, sh_169, sh_170, sh_171, sh_172, sh_173, sh_174, sh_175, sh_176, sh_177, sh_178, sh_179, sh_180, sh_181, g_146, g_147, g_148, g_149, g_150, g_151, g_152, g_153, g_154, g_155, g_156, g_157, g_158, g_159, g_160, g_161, g_162, g_163, g_164, g_165, g_166, g_167, g_168, g_169, g_170, g_171, g_172, g_173, g_174, g_175, g_176, g_177, g_178, g_179, g_180, g_181, g_145_36, g_145_37, g_145_38, g_145_39, g_145_40, g_145_41, hw, hp, hpc]
  · rw [if_neg h6]
    have h6' : (nI k = nI 6) = False := eq_false (fun z => h6 ((nI_eq (by omega) (by decide)).mp z))
    obtain ⟨M1, g1, g2, g3, g4⟩ := c_follow (d := d + 2) hw hc4 hJ.1.1 hj (p := a) (m := nms a) (by have := nms_le (p := a); omega)
    have hj1 := foll_J hJ.1.1 (p := a) (m := nms a) hj
    obtain ⟨ho1, hm1, hp1, hpc1, hC1⟩ := hJ.1.2 _ hj1
    obtain ⟨⟨at', ha, hat, hin⟩, hjs⟩ := hJ.2 _ hj1
    obtain ⟨-, -, hby, -⟩ := hJ.1.1 _ hj1
    rw [← g3] at hj1 hpc1 hC1 hat hin hby
    have hst : ∀ Q, Vc (d + 5) 88 [rf (some 145), .int (nI p), .int (nI k), .int a, .int b] M Q = if (follR c N a (nms a) (rg M)).1 = true then V (d + 5) 88 53 [some (rf (some 145)), some (.int (nI p)), some (.int (nI k)), some (.int a), some (.int b), some (.int (nI c)), some (.int (nI (nms a))), some (.int (nI at'))] [.int (nI k)] M1 Q else Q (some (.int (-2))) M1 := by
      intro Q
      show V (d + 5) 88 0 [some (rf (some 145)), some (.int (nI p)), some (.int (nI k)), some (.int a), some (.int b), none, none, none] [] M Q = _
      simp only [s_88_0, s_88_1, s_88_4, s_88_5, s_88_6, s_88_8, s_88_9, s_88_12, s_88_14, s_88_15, s_88_17, h6', s_88_31, s_88_32, s_88_34, s_88_35, s_88_37 hw sh_145, c_names, g1, s_88_40, eq_self, Nat.reduceLT, Nat.reduceLeDiff, Nat.reduceMod, Nat.reduceDiv, Nat.reduceAdd, Nat.reduceMul, Option.toList_some, Option.toList_none, List.cons_append, List.nil_append, List.append_nil, n10, n00, if_true, if_false, b0, b1, nI_add, true_and, and_true, and_self, sh_145, k_145_0, k_145_1, k_145_2, k_145_3, k_145_4, k_145_5, k_145_6, k_145_7, k_145_8, k_145_9, k_145_10, k_145_11, k_145_12, k_145_13, k_145_14, k_145_15, k_145_16, k_145_17, k_145_18, k_145_19, k_145_20, k_145_21, k_145_22, k_145_23, k_145_24, k_145_25, k_145_26, k_145_27, k_145_28, k_145_29, k_145_30, k_145_31, k_145_32, k_145_33, k_145_34, k_145_35, sh_146, sh_147, sh_148, sh_149, sh_150, sh_151, sh_152, sh_153, sh_154, sh_155, sh_156, sh_157, sh_158, sh_159, sh_160, sh_161, sh_162, sh_163, sh_164, sh_165, sh_166, sh_167, sh_168, sh_169, sh_170, sh_171, sh_172, sh_173, sh_174, sh_175, sh_176, sh_177, sh_178, sh_179, sh_180, sh_181, g_146, g_147, g_148, g_149, g_150, g_151, g_152, g_153, g_154, g_155, g_156, g_157, g_158, g_159, g_160, g_161, g_162, g_163, g_164, g_165, g_166, g_167, g_168, g_169, g_170, g_171, g_172, g_173, g_174, g_175, g_176, g_177, g_178, g_179, g_180, g_181, g_145_36, g_145_37, g_145_38, g_145_39, g_145_40, g_145_41, hw, hp, hpc, bI_0]
      cases (follR c N a (nms a) (rg M)).1 with
      | true => simp only [Bool.true_eq_false, s_88_46, s_88_47, s_88_50, s_88_52, eq_self, Nat.reduceLT, Nat.reduceLeDiff, Nat.reduceMod, Nat.reduceDiv, Nat.reduceAdd, Nat.reduceMul, Option.toList_some, Option.toList_none, List.cons_append, List.nil_append, List.append_nil, n10, n00, if_true, if_false, b0, b1, nI_add, true_and, and_true, and_self, sh_145, k_145_0, k_145_1, k_145_2, k_145_3, k_145_4, k_145_5, k_145_6, k_145_7, k_145_8, k_145_9, k_145_10, k_145_11, k_145_12, k_145_13, k_145_14, k_145_15, k_145_16, k_145_17, k_145_18, k_145_19, k_145_20, k_145_21, k_145_22, k_145_23, k_145_24, k_145_25, k_145_26, k_145_27, k_145_28, k_145_29, k_145_30, k_145_31, k_145_32, k_145_33, k_145_34, k_145_35, sh_146, sh_147, sh_148, sh_149, sh_150, sh_151, sh_152, sh_153, sh_154, sh_155, sh_156, sh_157, sh_158, sh_159, sh_160, sh_161, sh_162, sh_163, sh_164, sh_165, sh_166, sh_167, sh_168, sh_169, sh_170, sh_171, sh_172, sh_173, sh_174, sh_175, sh_176, sh_177, sh_178, sh_179, sh_180, sh_181, g_146, g_147, g_148, g_149, g_150, g_151, g_152, g_153, g_154, g_155, g_156, g_157, g_158, g_159, g_160, g_161, g_162, g_163, g_164, g_165, g_166, g_167, g_168, g_169, g_170, g_171, g_172, g_173, g_174, g_175, g_176, g_177, g_178, g_179, g_180, g_181, g_145_36, g_145_37, g_145_38, g_145_39, g_145_40, g_145_41, g2, hat]
      | false => simp only [Bool.false_eq_true, s_88_43, s_88_45, eq_self, Nat.reduceLT, Nat.reduceLeDiff, Nat.reduceMod, Nat.reduceDiv, Nat.reduceAdd, Nat.reduceMul, Option.toList_some, Option.toList_none, List.cons_append, List.nil_append, List.append_nil, n10, n00, if_true, if_false, b0, b1, nI_add, true_and, and_true, and_self]
    cases hok : (follR c N a (nms a) (rg M)).1 with
    | false =>
      rw [if_neg (by decide), ← g3]
      refine ⟨M1, fun Q => ?_, g2, rfl, g4⟩
      rw [hst, hok, if_neg (by decide)]
    | true =>
      rw [if_pos rfl, ← g3]
      have hgo : ∀ {M2 : mH} {res : Int32} {r' : RS}, (∀ Q, V (d + 5) 88 53 [some (rf (some 145)), some (.int (nI p)), some (.int (nI k)), some (.int a), some (.int b), some (.int (nI c)), some (.int (nI (nms a))), some (.int (nI at'))] [.int (nI k)] M1 Q = Q (some (.int res)) M2) → wf M2 → rg M2 = r' → cg M2 = cg M1 → Den (d + 5) 88 [rf (some 145), .int (nI p), .int (nI k), .int a, .int b] M (some (.int res)) r' := by
        intro M2 res r' e1 e2 e3 e4
        exact ⟨M2, fun Q => by rw [hst, hok, if_pos rfl, e1], e2, e3, e4.trans g4⟩
      rcases hk with rfl | rfl | rfl | rfl | rfl | rfl | rfl
      · exact hgo (fun Q => by simp only [s_88_53, eq_self, Nat.reduceLT, Nat.reduceLeDiff, Nat.reduceMod, Nat.reduceDiv, Nat.reduceAdd, Nat.reduceMul, Option.toList_some, Option.toList_none, List.cons_append, List.nil_append, List.append_nil, n10, n00, if_true, if_false, b0, b1, nI_add, true_and, and_true, and_self, nI_sm, Nat.reduceEqDiff]; exact c_read2 g2 ha hat) g2 rfl rfl
      · obtain ⟨M2, e1, e2, e3, e4⟩ := c_write2 (d := d + 3) g2 hp hc4 hpc1 ha hat (b := b) (l2 := some (.int (nI 5))) (l3 := some (.int a)) (l5 := some (.int (nI c))) (l6 := some (.int (nI (nms a))))
        exact hgo (fun Q => by simp only [s_88_53, eq_self, Nat.reduceLT, Nat.reduceLeDiff, Nat.reduceMod, Nat.reduceDiv, Nat.reduceAdd, Nat.reduceMul, Option.toList_some, Option.toList_none, List.cons_append, List.nil_append, List.append_nil, n10, n00, if_true, if_false, b0, b1, nI_add, true_and, and_true, and_self, nI_sm, Nat.reduceEqDiff]; exact e1 Q) e2 e3 e4
      · exact absurd rfl h6
      · obtain ⟨M2, e1, e2, e3, e4⟩ := c_rem2 (d := d + 2) g2 hC hC1 hp hc4 hpc1 ha hat hin (l2 := some (.int (nI 7))) (l3 := some (.int a)) (l4 := some (.int b)) (l5 := some (.int (nI c))) (l6 := some (.int (nI (nms a))))
        exact hgo (fun Q => by simp only [s_88_53, eq_self, Nat.reduceLT, Nat.reduceLeDiff, Nat.reduceMod, Nat.reduceDiv, Nat.reduceAdd, Nat.reduceMul, Option.toList_some, Option.toList_none, List.cons_append, List.nil_append, List.append_nil, n10, n00, if_true, if_false, b0, b1, nI_add, true_and, and_true, and_self, nI_sm, Nat.reduceEqDiff]; exact e1 Q) e2 e3 e4
      · obtain ⟨M2, e1, e2, e3, e4⟩ := c_give2 (d := d + 4) g2 hp hc4 ha hat (b := b) (l2 := some (.int (nI 8))) (l3 := some (.int a)) (l6 := some (.int (nI (nms a))))
        exact hgo (fun Q => by simp only [s_88_53, eq_self, Nat.reduceLT, Nat.reduceLeDiff, Nat.reduceMod, Nat.reduceDiv, Nat.reduceAdd, Nat.reduceMul, Option.toList_some, Option.toList_none, List.cons_append, List.nil_append, List.append_nil, n10, n00, if_true, if_false, b0, b1, nI_add, true_and, and_true, and_self, nI_sm, Nat.reduceEqDiff]; exact e1 Q) e2 e3 e4
      · obtain ⟨M2, e1, e2, e3, e4⟩ := c_mount (d := d + 1) g2 hC hp hc hJ hj1 ha hat (b := b)
        refine hgo (fun Q => ?_) e2 e3 e4
        simp only [s_88_53, eq_self, Nat.reduceLT, Nat.reduceLeDiff, Nat.reduceMod, Nat.reduceDiv, Nat.reduceAdd, Nat.reduceMul, Option.toList_some, Option.toList_none, List.cons_append, List.nil_append, List.append_nil, n10, n00, if_true, if_false, b0, b1, nI_add, true_and, and_true, and_self, nI_sm, Nat.reduceEqDiff, s_88_237, s_88_238, s_88_239, s_88_241, s_88_243, s_88_244, s_88_247, s_88_249 g2 sh_145, s_88_252, sh_145, k_145_0, k_145_1, k_145_2, k_145_3, k_145_4, k_145_5, k_145_6, k_145_7, k_145_8, k_145_9, k_145_10, k_145_11, k_145_12, k_145_13, k_145_14, k_145_15, k_145_16, k_145_17, k_145_18, k_145_19, k_145_20, k_145_21, k_145_22, k_145_23, k_145_24, k_145_25, k_145_26, k_145_27, k_145_28, k_145_29, k_145_30, k_145_31, k_145_32, k_145_33, k_145_34, k_145_35, sh_146, sh_147, sh_148, sh_149, sh_150, sh_151, sh_152, sh_153, sh_154, sh_155, sh_156, sh_157, sh_158, sh_159, sh_160, sh_161, sh_162, sh_163, sh_164, sh_165, sh_166, sh_167, sh_168, sh_169, sh_170, sh_171, sh_172, sh_173, sh_174, sh_175, sh_176, sh_177, sh_178, sh_179, sh_180, sh_181, g_146, g_147, g_148, g_149, g_150, g_151, g_152, g_153, g_154, g_155, g_156, g_157, g_158, g_159, g_160, g_161, g_162, g_163, g_164, g_165, g_166, g_167, g_168, g_169, g_170, g_171, g_172, g_173, g_174, g_175, g_176, g_177, g_178, g_179, g_180, g_181, g_145_36, g_145_37, g_145_38, g_145_39, g_145_40, g_145_41, g2, e1]
        rfl
      · obtain ⟨hb1, hb2⟩ := atBy_oI hby
        obtain ⟨M2, e1, e2, e3, e4⟩ := c_unmount (d := d + 3) g2 hp hc4 hb2 hb1
        refine hgo (fun Q => ?_) e2 e3 e4
        simp only [s_88_53, eq_self, Nat.reduceLT, Nat.reduceLeDiff, Nat.reduceMod, Nat.reduceDiv, Nat.reduceAdd, Nat.reduceMul, Option.toList_some, Option.toList_none, List.cons_append, List.nil_append, List.append_nil, n10, n00, if_true, if_false, b0, b1, nI_add, true_and, and_true, and_self, nI_sm, Nat.reduceEqDiff, s_88_253, s_88_254, s_88_255, s_88_257 g2 sh_145, s_88_260, e1]
        rfl
end
