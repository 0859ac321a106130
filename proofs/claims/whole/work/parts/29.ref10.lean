section
variable {d : Nat} {M : mH} {Q : Option Value → mH → Prop}
/-- the NAMES of a PATH -/
def nib (p : Int32) (n : Nat) : Int32 := (p >>> (nI (4 * n) &&& 31)) &&& nI 15
def pNib (p : Int32) (n : Nat) : Bool := decide (nib p n = 0)
def nms (p : Int32) : Nat := (ffind (pNib p) 0 7).getD 7
theorem c_names_l {p : Int32} : ∀ k n, n + k = 7 → V d 78 2 [some (.int p), some (.int (nI n))] [] M Q = Q (some (.int (nI ((ffind (pNib p) n k).getD 7)))) M := by
  intro k
  induction k with
  | zero =>
    intro n hn
    obtain rfl : n = 7 := by omega
    rw [s_78_2]
    simp only [s_78_0, s_78_1, s_78_3, s_78_5, s_78_8, s_78_9, s_78_10, s_78_11, s_78_12, s_78_13, s_78_15, s_78_16, s_78_19, s_78_22, s_78_25, s_78_26, eq_self, Nat.reduceLT, Nat.reduceLeDiff, Nat.reduceMod, Nat.reduceDiv, Nat.reduceAdd, Nat.reduceMul, Option.toList_some, Option.toList_none, List.cons_append, List.nil_append, List.append_nil, n10, n00, if_true, if_false, b0, b1, nI_add, true_and, and_true, and_self, show nI 7 ≤ nI 7 from Int32.le_refl _, ffind, Option.getD_none]
  | succ k ih =>
    intro n hn
    have h7 : n < 7 := by omega
    rw [s_78_2]
    simp only [s_78_0, s_78_1, s_78_3, s_78_5, s_78_8, s_78_9, s_78_10, s_78_11, s_78_12, s_78_13, s_78_15, s_78_16, s_78_19, s_78_22, s_78_25, s_78_26, eq_self, Nat.reduceLT, Nat.reduceLeDiff, Nat.reduceMod, Nat.reduceDiv, Nat.reduceAdd, Nat.reduceMul, Option.toList_some, Option.toList_none, List.cons_append, List.nil_append, List.append_nil, n10, n00, if_true, if_false, b0, b1, nI_add, true_and, and_true, and_self, pk_mul, nI_ge h7 (by decide), ih (n + 1) (by omega), ffind, pNib, nib]
    by_cases h1 : p >>> (nI (4 * n) &&& 31) &&& nI 15 = 0
    · simp only [h1, eq_self, Nat.reduceLT, Nat.reduceLeDiff, Nat.reduceMod, Nat.reduceDiv, Nat.reduceAdd, Nat.reduceMul, Option.toList_some, Option.toList_none, List.cons_append, List.nil_append, List.append_nil, n10, n00, if_true, if_false, b0, b1, nI_add, true_and, and_true, and_self, decide_true, cond_true, Option.getD_some]
    · simp only [h1, eq_self, Nat.reduceLT, Nat.reduceLeDiff, Nat.reduceMod, Nat.reduceDiv, Nat.reduceAdd, Nat.reduceMul, Option.toList_some, Option.toList_none, List.cons_append, List.nil_append, List.append_nil, n10, n00, if_true, if_false, b0, b1, nI_add, true_and, and_true, and_self, decide_false, cond_false]
theorem c_names {p : Int32} : Vc d 78 [.int p] M Q = Q (some (.int (nI (nms p)))) M := by
  show V d 78 0 [some (.int p), none] [] M Q = _
  rw [s_78_0, s_78_1, c_names_l 7 0 rfl]
  rfl
theorem nms_le {p : Int32} : nms p ≤ 7 := by
  unfold nms
  cases h : ffind (pNib p) 0 7 with
  | none => simp
  | some m => have := (ffind_in h).2.1; simp; omega
/-- along a PATH: is there such a thing; where one is then -/
def folR (c N : Nat) (p : Int32) : Nat → Nat → RS → Bool × RS
  | 0, _, r => (true, r)
  | f + 1, k, r => if nib p k = nI 15 then folR c N p f (k + 1) (upR c N r) else if r 4 (r 0 40).toNatClampNeg = 0 then (match ffind (pFind r (r 0 40) (nib p k)) 1 31 with
      | none => (false, r)
      | some n => folR c N p f (k + 1) (crossR c (ru r 0 40 (nI n)))) else (false, r)
/-- what one must know of a place on the way -/
def onWay (c N : Nat) (rk : Nat → Nat) (J : RS → Prop) : Prop := ∀ r, J r → (∃ a, a < 32 ∧ r 0 40 = nI a) ∧ WRr r rk ∧ atBy r rk N ∧ (∃ a, a < 32 ∧ upL N r 0 40 = nI a) ∧ J (upR c N r) ∧ ∀ nm n, r 4 (r 0 40).toNatClampNeg = 0 → ffind (pFind r (r 0 40) nm) 1 31 = some n → J (crossR c (ru r 0 40 (nI n)))
def bI (b : Bool) : Int32 := bif b then nI 1 else nI 0
theorem c_follow_l {c N : Nat} (hc : c < 4) {rk : Nat → Nat} {J : RS → Prop} (hJ : onWay c N rk J) {p : Int32} : ∀ f k M, wf M → J (rg M) → k + f < 100 → ∀ l5 l6, ∃ M', (∀ Q, V (d + 2) 79 27 [some (rf (some 145)), some (.int (nI c)), some (.int p), some (.int (nI (k + f))), some (.int (nI k)), l5, l6] [] M Q = Q (some (.int (bI (folR c N p f k (rg M)).1))) M') ∧ wf M' ∧ rg M' = (folR c N p f k (rg M)).2 ∧ cg M' = cg M := by
  intro f
  induction f with
  | zero =>
    intro k M hw hj hkf l5 l6
    refine ⟨M, fun Q => ?_, hw, rfl, rfl⟩
    rw [s_79_27]
    simp only [Nat.add_zero, s_79_29, s_79_30, show nI k ≤ nI k from Int32.le_refl _, s_79_111, s_79_112, eq_self, Nat.reduceLT, Nat.reduceLeDiff, Nat.reduceMod, Nat.reduceDiv, Nat.reduceAdd, Nat.reduceMul, Option.toList_some, Option.toList_none, List.cons_append, List.nil_append, List.append_nil, n10, n00, if_true, if_false, b0, b1, nI_add, true_and, and_true, and_self, folR, bI, cond_true]
  | succ f ih =>
    intro k M hw hj hkf l5 l6
    obtain ⟨⟨a, ha, hat⟩, hr, hb, hu, hju, hjc⟩ := hJ _ hj
    have hlt : (nI (k + (f + 1)) ≤ nI k) = False := eq_false (nI_ge (by omega) (by omega))
    have hkk : k + (f + 1) = (k + 1) + f := by omega
    by_cases h1 : nib p k = nI 15
    · obtain ⟨M1, g1, g2, g3, g4⟩ := c_up (d := d + 1) hw hc hr hb hu
      obtain ⟨M', k1, k2, k3, k4⟩ := ih (k + 1) M1 g2 (by rw [g3]; exact hju) (by omega) (some (.int (nI 15))) l6
      refine ⟨M', fun Q => ?_, k2, ?_, k4.trans g4⟩
      · have h1' : p >>> (nI (4 * k) &&& 31) &&& nI 15 = nI 15 := h1
        rw [s_79_27]
        simp only [s_79_29, s_79_30, hlt, s_79_33, s_79_34, s_79_35, s_79_37, s_79_38, s_79_39, s_79_41, s_79_42, s_79_44, s_79_46, s_79_48, s_79_51, s_79_52, s_79_53 hw sh_145, s_79_56, s_79_105, s_79_108, eq_self, Nat.reduceLT, Nat.reduceLeDiff, Nat.reduceMod, Nat.reduceDiv, Nat.reduceAdd, Nat.reduceMul, Option.toList_some, Option.toList_none, List.cons_append, List.nil_append, List.append_nil, n10, n00, if_true, if_false, b0, b1, nI_add, true_and, and_true, and_self, pk_mul, h1', g1]
        rw [hkk, k1, g3, folR, if_pos h1]
      · rw [k3, g3, folR, if_pos h1]
    · have h1' : ¬ p >>> (nI (4 * k) &&& 31) &&& nI 15 = nI 15 := h1
      by_cases h2 : rg M 4 a = 0
      · have h2' : rg M 4 (rg M 0 40).toNatClampNeg = 0 := by rw [hat, nI_clamp (by omega)]; exact h2
        cases h3 : ffind (pFind (rg M) (rg M 0 40) (nib p k)) 1 31 with
        | none =>
          refine ⟨M, fun Q => ?_, hw, by rw [folR, if_neg h1, if_pos h2', h3], rfl⟩
          rw [hat] at h3
          have h3' : ffind (pFind (rg M) (nI a) (p >>> (nI (4 * k) &&& 31) &&& nI 15)) 1 31 = none := h3
          rw [s_79_27]
          simp only [s_79_29, s_79_30, hlt, s_79_33, s_79_34, s_79_35, s_79_37, s_79_38, s_79_39, s_79_41, s_79_42, s_79_44, s_79_46, s_79_48, s_79_59, s_79_60, s_79_63, s_79_64, s_79_67, s_79_68, s_79_71, s_79_72, s_79_73, s_79_76, s_79_78, s_79_81, s_79_85, s_79_87, s_79_89, s_79_92, s_79_93, eq_self, Nat.reduceLT, Nat.reduceLeDiff, Nat.reduceMod, Nat.reduceDiv, Nat.reduceAdd, Nat.reduceMul, Option.toList_some, Option.toList_none, List.cons_append, List.nil_append, List.append_nil, n10, n00, if_true, if_false, b0, b1, nI_add, true_and, and_true, and_self, sh_145, k_145_0, k_145_1, k_145_2, k_145_3, k_145_4, k_145_5, k_145_6, k_145_7, k_145_8, k_145_9, k_145_10, k_145_11, k_145_12, k_145_13, k_145_14, k_145_15, k_145_16, k_145_17, k_145_18, k_145_19, k_145_20, k_145_21, k_145_22, k_145_23, k_145_24, k_145_25, k_145_26, k_145_27, k_145_28, k_145_29, k_145_30, k_145_31, k_145_32, k_145_33, k_145_34, k_145_35, sh_146, sh_147, sh_148, sh_149, sh_150, sh_151, sh_152, sh_153, sh_154, sh_155, sh_156, sh_157, sh_158, sh_159, sh_160, sh_161, sh_162, sh_163, sh_164, sh_165, sh_166, sh_167, sh_168, sh_169, sh_170, sh_171, sh_172, sh_173, sh_174, sh_175, sh_176, sh_177, sh_178, sh_179, sh_180, sh_181, g_146, g_147, g_148, g_149, g_150, g_151, g_152, g_153, g_154, g_155, g_156, g_157, g_158, g_159, g_160, g_161, g_162, g_163, g_164, g_165, g_166, g_167, g_168, g_169, g_170, g_171, g_172, g_173, g_174, g_175, g_176, g_177, g_178, g_179, g_180, g_181, g_145_36, g_145_37, g_145_38, g_145_39, g_145_40, g_145_41, pk_mul, h1', hw, ha, hat, h2, c_find hw, h3', oI, show ¬ (0 : Int32) ≤ -1 by decide]
          rw [folR, if_neg h1, if_pos h2', hat, h3]
          rfl
        | some n =>
          obtain ⟨n1, n2, -⟩ := ffind_in h3
          have w1 := wm_145_40 hw (x := nI n)
          have er : rg (mu M 145 40 (.int (nI n))) = ru (rg M) 0 40 (nI n) := rm_145_40 hw
          obtain ⟨M1, g1, g2, g3, g4⟩ := c_cross (d := d) w1 hc
          rw [er] at g3
          obtain ⟨M', k1, k2, k3, k4⟩ := ih (k + 1) M1 g2 (by rw [g3]; exact hjc _ n h2' h3) (by omega) (some (.int (p >>> (nI (4 * k) &&& 31) &&& nI 15))) (some (.int (nI n)))
          refine ⟨M', fun Q => ?_, k2, ?_, by rw [k4, g4, cm_145_40 hw]⟩
          · have hfo : folR c N p (f + 1) k (rg M) = folR c N p f (k + 1) (rg M1) := by
              rw [g3]; conv => lhs; rw [folR, if_neg h1, if_pos h2', h3]
            rw [hfo]
            rw [hat] at h3
            have h3' : ffind (pFind (rg M) (nI a) (p >>> (nI (4 * k) &&& 31) &&& nI 15)) 1 31 = some n := h3
            rw [s_79_27]
            simp only [s_79_29, s_79_30, hlt, s_79_33, s_79_34, s_79_35, s_79_37, s_79_38, s_79_39, s_79_41, s_79_42, s_79_44, s_79_46, s_79_48, s_79_59, s_79_60, s_79_63, s_79_64, s_79_67, s_79_68, s_79_71, s_79_72, s_79_73, s_79_76, s_79_78, s_79_81, s_79_85, s_79_87, s_79_89, s_79_94, s_79_95, s_79_97, s_79_100, s_79_101, s_79_102 w1 sh_145, s_79_105, s_79_108, eq_self, Nat.reduceLT, Nat.reduceLeDiff, Nat.reduceMod, Nat.reduceDiv, Nat.reduceAdd, Nat.reduceMul, Option.toList_some, Option.toList_none, List.cons_append, List.nil_append, List.append_nil, n10, n00, if_true, if_false, b0, b1, nI_add, true_and, and_true, and_self, sh_145, k_145_0, k_145_1, k_145_2, k_145_3, k_145_4, k_145_5, k_145_6, k_145_7, k_145_8, k_145_9, k_145_10, k_145_11, k_145_12, k_145_13, k_145_14, k_145_15, k_145_16, k_145_17, k_145_18, k_145_19, k_145_20, k_145_21, k_145_22, k_145_23, k_145_24, k_145_25, k_145_26, k_145_27, k_145_28, k_145_29, k_145_30, k_145_31, k_145_32, k_145_33, k_145_34, k_145_35, sh_146, sh_147, sh_148, sh_149, sh_150, sh_151, sh_152, sh_153, sh_154, sh_155, sh_156, sh_157, sh_158, sh_159, sh_160, sh_161, sh_162, sh_163, sh_164, sh_165, sh_166, sh_167, sh_168, sh_169, sh_170, sh_171, sh_172, sh_173, sh_174, sh_175, sh_176, sh_177, sh_178, sh_179, sh_180, sh_181, g_146, g_147, g_148, g_149, g_150, g_151, g_152, g_153, g_154, g_155, g_156, g_157, g_158, g_159, g_160, g_161, g_162, g_163, g_164, g_165, g_166, g_167, g_168, g_169, g_170, g_171, g_172, g_173, g_174, g_175, g_176, g_177, g_178, g_179, g_180, g_181, g_145_36, g_145_37, g_145_38, g_145_39, g_145_40, g_145_41, pk_mul, h1', hw, ha, hat, h2, c_find hw, h3', oI, nI_pos' (show n < 2 ^ 31 by omega), g1]
            rw [hkk]
            exact k1 Q
          · rw [k3, g3]; conv => rhs; rw [folR, if_neg h1, if_pos h2', h3]
      · have h2' : ¬ rg M 4 (rg M 0 40).toNatClampNeg = 0 := by rw [hat, nI_clamp (by omega)]; exact h2
        refine ⟨M, fun Q => ?_, hw, by rw [folR, if_neg h1, if_neg h2'], rfl⟩
        rw [s_79_27]
        simp only [s_79_29, s_79_30, hlt, s_79_33, s_79_34, s_79_35, s_79_37, s_79_38, s_79_39, s_79_41, s_79_42, s_79_44, s_79_46, s_79_48, s_79_59, s_79_60, s_79_63, s_79_64, s_79_67, s_79_68, s_79_84, s_79_85, s_79_87, s_79_89, s_79_92, s_79_93, eq_self, Nat.reduceLT, Nat.reduceLeDiff, Nat.reduceMod, Nat.reduceDiv, Nat.reduceAdd, Nat.reduceMul, Option.toList_some, Option.toList_none, List.cons_append, List.nil_append, List.append_nil, n10, n00, if_true, if_false, b0, b1, nI_add, true_and, and_true, and_self, sh_145, k_145_0, k_145_1, k_145_2, k_145_3, k_145_4, k_145_5, k_145_6, k_145_7, k_145_8, k_145_9, k_145_10, k_145_11, k_145_12, k_145_13, k_145_14, k_145_15, k_145_16, k_145_17, k_145_18, k_145_19, k_145_20, k_145_21, k_145_22, k_145_23, k_145_24, k_145_25, k_145_26, k_145_27, k_145_28, k_145_29, k_145_30, k_145_31, k_145_32, k_145_33, k_145_34, k_145_35, sh_146, sh_147, sh_148, sh_149, sh_150, sh_151, sh_152, sh_153, sh_154, sh_155, sh_156, sh_157, sh_158, sh_159, sh_160, sh_161, sh_162, sh_163, sh_164, sh_165, sh_166, sh_167, sh_168, sh_169, sh_170, sh_171, sh_172, sh_173, sh_174, sh_175, sh_176, sh_177, sh_178, sh_179, sh_180, sh_181, g_146, g_147, g_148, g_149, g_150, g_151, g_152, g_153, g_154, g_155, g_156, g_157, g_158, g_159, g_160, g_161, g_162, g_163, g_164, g_165, g_166, g_167, g_168, g_169, g_170, g_171, g_172, g_173, g_174, g_175, g_176, g_177, g_178, g_179, g_180, g_181, g_145_36, g_145_37, g_145_38, g_145_39, g_145_40, g_145_41, pk_mul, h1', hw, ha, hat, h2, show ¬ (0 : Int32) ≤ -1 by decide]
        rw [folR, if_neg h1, if_neg h2']
        rfl
/-- the start of a way -/
def folS (c : Nat) (r : RS) : RS := ru (ru r 0 40 (r 8 c)) 0 41 (-1)
def hiB (p : Int32) : Int32 := (p.toUInt32 >>> ((nI 28).toUInt32 &&& Int32.toUInt32 31)).toInt32
def follR (c N : Nat) (p : Int32) (m : Nat) (r : RS) : Bool × RS := if hiB p = 0 then folR c N p m 0 (folS c r) else (false, folS c r)
theorem c_follow (hw : wf M) {c N : Nat} (hc : c < 4) {rk : Nat → Nat} {J : RS → Prop} (hJ : onWay c N rk J) (hj : J (folS c (rg M))) {p : Int32} {m : Nat} (hm : m < 100) : ∃ M', (∀ Q, Vc (d + 2) 79 [rf (some 145), .int (nI c), .int p, .int (nI m)] M Q = Q (some (.int (bI (follR c N p m (rg M)).1))) M') ∧ wf M' ∧ rg M' = (follR c N p m (rg M)).2 ∧ cg M' = cg M := by
  have w1 := wm_145_40 hw (x := rg M 8 c)
  have w2 := wm_145_41 w1 (x := -1)
  have er : rg (mu (mu M 145 40 (.int (rg M 8 c))) 145 41 (.int (-1))) = folS c (rg M) := by
    rw [rm_145_41 w1, rm_145_40 hw]
    rfl
  have ec : cg (mu (mu M 145 40 (.int (rg M 8 c))) 145 41 (.int (-1))) = cg M := by rw [cm_145_41 w1, cm_145_40 hw]
  by_cases h : hiB p = 0
  · obtain ⟨M', k1, k2, k3, k4⟩ := c_follow_l (d := d) hc hJ (p := p) m 0 _ w2 (by rw [er]; exact hj) (by omega) none none
    rw [er] at k1 k3
    refine ⟨M', fun Q => ?_, k2, by rw [k3, follR, if_pos h], k4.trans ec⟩
    rw [follR, if_pos h]
    show V (d + 2) 79 0 [some (rf (some 145)), some (.int (nI c)), some (.int p), some (.int (nI m)), none, none, none] [] M Q = _
    have h' : (p.toUInt32 >>> ((nI 28).toUInt32 &&& Int32.toUInt32 31)).toInt32 = 0 := h
    simp only [s_79_0, s_79_1, s_79_2, s_79_5, s_79_6, s_79_7, s_79_10, s_79_11, s_79_12, s_79_15, s_79_16, s_79_18, s_79_19, s_79_24, s_79_25, eq_self, Nat.reduceLT, Nat.reduceLeDiff, Nat.reduceMod, Nat.reduceDiv, Nat.reduceAdd, Nat.reduceMul, Option.toList_some, Option.toList_none, List.cons_append, List.nil_append, List.append_nil, n10, n00, if_true, if_false, b0, b1, nI_add, true_and, and_true, and_self, sh_145, k_145_0, k_145_1, k_145_2, k_145_3, k_145_4, k_145_5, k_145_6, k_145_7, k_145_8, k_145_9, k_145_10, k_145_11, k_145_12, k_145_13, k_145_14, k_145_15, k_145_16, k_145_17, k_145_18, k_145_19, k_145_20, k_145_21, k_145_22, k_145_23, k_145_24, k_145_25, k_145_26, k_145_27, k_145_28, k_145_29, k_145_30, k_145_31, k_145_32, k_145_33, k_145_34, k_145_35, sh_146, sh_147, sh_148, sh_149, sh_150, sh_151, sh_152, sh_153, sh_154, sh_155, sh_156, sh_157, sh_158, sh_159, sh_160, sh_161, sh_162, sh_163, sh_164, sh_165, sh_166, sh_167, sh_168, sh_169, sh_170, sh_171, sh_172, sh_173, sh_174, sh_175, sh_176, sh_177, sh_178, sh_179, sh_180, sh_181, g_146, g_147, g_148, g_149, g_150, g_151, g_152, g_153, g_154, g_155, g_156, g_157, g_158, g_159, g_160, g_161, g_162, g_163, g_164, g_165, g_166, g_167, g_168, g_169, g_170, g_171, g_172, g_173, g_174, g_175, g_176, g_177, g_178, g_179, g_180, g_181, g_145_36, g_145_37, g_145_38, g_145_39, g_145_40, g_145_41, hw, hc, w1, h']
    rw [Nat.zero_add] at k1
    exact k1 Q
  · refine ⟨_, fun Q => ?_, w2, by rw [er, follR, if_neg h], ec⟩
    rw [follR, if_neg h]
    show V (d + 2) 79 0 [some (rf (some 145)), some (.int (nI c)), some (.int p), some (.int (nI m)), none, none, none] [] M Q = _
    have h' : ¬ (p.toUInt32 >>> ((nI 28).toUInt32 &&& Int32.toUInt32 31)).toInt32 = 0 := h
    simp only [s_79_0, s_79_1, s_79_2, s_79_5, s_79_6, s_79_7, s_79_10, s_79_11, s_79_12, s_79_15, s_79_16, s_79_18, s_79_19, s_79_22, s_79_23, eq_self, Nat.reduceLT, Nat.reduceLeDiff, Nat.reduceMod, Nat.reduceDiv, Nat.reduceAdd, Nat.reduceMul, Option.toList_some, Option.toList_none, List.cons_append, List.nil_append, List.append_nil, n10, n00, if_true, if_false, b0, b1, nI_add, true_and, and_true, and_self, sh_145, k_145_0, k_145_1, k_145_2, k_145_3, k_145_4, k_145_5, k_145_6, k_145_7, k_145_8, k_145_9, k_145_10, k_145_11, k_145_12, k_145_13, k_145_14, k_145_15, k_145_16, k_145_17, k_145_18, k_145_19, k_145_20, k_145_21, k_145_22, k_145_23, k_145_24, k_145_25, k_145_26, k_145_27, k_145_28, k_145_29, k_145_30, k_145_31, k_145_32, k_145_33, k_145_34, k_145_35, sh_146, sh_147, sh_148, sh_149, sh_150, sh_151, sh_152, sh_153, sh_154, sh_155, sh_156, sh_157, sh_158, sh_159, sh_160, sh_161, sh_162, sh_163, sh_164, sh_165, sh_166, sh_167, sh_168, sh_169, sh_170, sh_171, sh_172, sh_173, sh_174, sh_175, sh_176, sh_177, sh_178, sh_179, sh_180, sh_181, g_146, g_147, g_148, g_149, g_150, g_151, g_152, g_153, g_154, g_155, g_156, g_157, g_158, g_159, g_160, g_161, g_162, g_163, g_164, g_165, g_166, g_167, g_168, g_169, g_170, g_171, g_172, g_173, g_174, g_175, g_176, g_177, g_178, g_179, g_180, g_181, g_145_36, g_145_37, g_145_38, g_145_39, g_145_40, g_145_41, hw, hc, w1, h', bI, cond_false]
end
