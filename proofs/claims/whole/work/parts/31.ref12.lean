section
variable {d : Nat} {M : mH} {Q : Option Value → mH → Prop}
/-- the reference's own run: the answer, the arrays behind it; the class's cells stay -/
def Den (d y : Nat) (as : List Value) (M : mH) (res : Option Value) (r' : RS) : Prop := ∃ M', (∀ Q, Vc d y as M Q = Q res M') ∧ wf M' ∧ rg M' = r' ∧ cg M' = cg M
def begR (r : RS) (p c : Nat) (us pa : Int32) : RS := ru (ru (ru (ru (ru (ru (ru r 24 p (nI 1)) 25 p (nI c)) 14 c (r 14 c + nI 1)) 26 p (r 14 c + nI 1)) 27 p us) 28 p pa) 32 p (nI 0)
theorem beginM_ok (hw : wf M) {p c : Nat} (hp : p < 16) (hc : c < 4) {us pa : Int32} : wf (beginM M p c us pa) ∧ rg (beginM M p c us pa) = begR (rg M) p c us pa ∧ cg (beginM M p c us pa) = cg M := by
  have w1 := wm_169 hw hp (x := nI 1)
  have w2 := wm_170 w1 hp (x := nI c)
  have w3 := wm_159 w2 hc (x := rg M 14 c + nI 1)
  have w4 := wm_171 w3 hp (x := rg M 14 c + nI 1)
  have w5 := wm_172 w4 hp (x := us)
  have w6 := wm_173 w5 hp (x := pa)
  have w7 := wm_177 w6 hp (x := nI 0)
  refine ⟨w7, ?_, ?_⟩
  · rw [beginM, rm_177 w6 hp, rm_173 w5 hp, rm_172 w4 hp, rm_171 w3 hp, rm_159 w2 hc, rm_170 w1 hp, rm_169 hw hp]
    rfl
  · rw [beginM, cm_177 w6 hp, cm_173 w5 hp, cm_172 w4 hp, cm_171 w3 hp, cm_159 w2 hc, cm_170 w1 hp, cm_169 hw hp]
/-- POWERS and FILTERS go to the child -/
def cpP (p q k : Nat) (r : RS) : RS := ru r 31 (4 * q + k) (r 31 (4 * p + k))
def cpF (p q k : Nat) (r : RS) : RS := ru r 30 (3 * q + k) (r 30 (3 * p + k))
def cpPM (p q k : Nat) (M : mH) : mH := mu M 176 (4 * q + k) (.int (rg M 31 (4 * p + k)))
def cpFM (p q k : Nat) (M : mH) : mH := mu M 175 (3 * q + k) (.int (rg M 30 (3 * p + k)))
theorem cpPM_ok (hw : wf M) {p q k : Nat} (hq : q < 16) (hk : k < 4) : wf (cpPM p q k M) ∧ rg (cpPM p q k M) = cpP p q k (rg M) ∧ cg (cpPM p q k M) = cg M :=
  ⟨wm_176 hw (by omega), rm_176 hw (by omega), cm_176 hw (by omega)⟩
theorem cpFM_ok (hw : wf M) {p q k : Nat} (hq : q < 16) (hk : k < 3) : wf (cpFM p q k M) ∧ rg (cpFM p q k M) = cpF p q k (rg M) ∧ cg (cpFM p q k M) = cg M :=
  ⟨wm_175 hw (by omega), rm_175 hw (by omega), cm_175 hw (by omega)⟩
theorem c_fork_p (hw : wf M) {p q k : Nat} (hp : p < 16) (hq : q < 16) (hk : k < 4) {l3 : Option Value} : V d 86 47 [some (rf (some 145)), some (.int (nI p)), some (.int (nI q)), l3, some (.int (nI k))] [] M Q = V d 86 47 [some (rf (some 145)), some (.int (nI p)), some (.int (nI q)), l3, some (.int (nI (k + 1)))] [] (cpPM p q k M) Q := by
  have i1 : 4 * q + k < 64 := by omega
  have i2 : 4 * p + k < 64 := by omega
  conv => lhs; rw [s_86_47]
  simp only [s_86_49, s_86_50, s_86_53, s_86_54, s_86_57, s_86_58, s_86_59, s_86_60, s_86_62, s_86_63, s_86_64, s_86_67, s_86_68, s_86_69, s_86_70, s_86_72, s_86_73, s_86_74, s_86_75, s_86_78, eq_self, Nat.reduceLT, Nat.reduceLeDiff, Nat.reduceMod, Nat.reduceDiv, Nat.reduceAdd, Nat.reduceMul, Option.toList_some, Option.toList_none, List.cons_append, List.nil_append, List.append_nil, n10, n00, if_true, if_false, b0, b1, nI_add, true_and, and_true, and_self, sh_145, k_145_0, k_145_1, k_145_2, k_145_3, k_145_4, k_145_5, k_145_6, k_145_7, k_145_8, k_145_9, k_145_10, k_145_11, k_145_12, k_145_13, k_145_14, k_145_15, k_145_16, k_145_17, k_145_18, k_145_19, k_145_20, k_145_21, k_145_22, k_145_23, k_145_24, k_145_25, k_145_26, k_145_27, k_145_28, k_145_29, k_145_30, k_145_31, k_145_32, k_145_33, k_145_34, k_145_35, sh_146, sh_147, sh_148, sh_149, sh_150, sh_151, sh_152, sh_153, sh_154, sh_155, sh_156, sh_157, sh_158, sh_159, sh_160, sh_161, sh_162, sh_163, sh_164, sh_165, sh_166, sh_167, sh_168, sh_169, sh_170, sh_171, sh_172, sh_173, sh_174, sh_175, sh_176, sh_177, sh_178, sh_179, sh_180, sh_181, g_146, g_147, g_148, g_149, g_150, g_151, g_152, g_153, g_154, g_155, g_156, g_157, g_158, g_159, g_160, g_161, g_162, g_163, g_164, g_165, g_166, g_167, g_168, g_169, g_170, g_171, g_172, g_173, g_174, g_175, g_176, g_177, g_178, g_179, g_180, g_181, g_145_36, g_145_37, g_145_38, g_145_39, g_145_40, g_145_41, hw, pk_mul, i1, i2, nI_ge hk (by decide), cpPM]
theorem c_fork_f (hw : wf M) {p q k : Nat} (hp : p < 16) (hq : q < 16) (hk : k < 3) {l3 : Option Value} : V d 86 96 [some (rf (some 145)), some (.int (nI p)), some (.int (nI q)), l3, some (.int (nI k))] [] M Q = V d 86 96 [some (rf (some 145)), some (.int (nI p)), some (.int (nI q)), l3, some (.int (nI (k + 1)))] [] (cpFM p q k M) Q := by
  have i1 : 3 * q + k < 48 := by omega
  have i2 : 3 * p + k < 48 := by omega
  conv => lhs; rw [s_86_96]
  simp only [s_86_98, s_86_99, s_86_102, s_86_103, s_86_106, s_86_107, s_86_108, s_86_109, s_86_111, s_86_112, s_86_113, s_86_116, s_86_117, s_86_118, s_86_119, s_86_121, s_86_122, s_86_123, s_86_124, s_86_127, eq_self, Nat.reduceLT, Nat.reduceLeDiff, Nat.reduceMod, Nat.reduceDiv, Nat.reduceAdd, Nat.reduceMul, Option.toList_some, Option.toList_none, List.cons_append, List.nil_append, List.append_nil, n10, n00, if_true, if_false, b0, b1, nI_add, true_and, and_true, and_self, sh_145, k_145_0, k_145_1, k_145_2, k_145_3, k_145_4, k_145_5, k_145_6, k_145_7, k_145_8, k_145_9, k_145_10, k_145_11, k_145_12, k_145_13, k_145_14, k_145_15, k_145_16, k_145_17, k_145_18, k_145_19, k_145_20, k_145_21, k_145_22, k_145_23, k_145_24, k_145_25, k_145_26, k_145_27, k_145_28, k_145_29, k_145_30, k_145_31, k_145_32, k_145_33, k_145_34, k_145_35, sh_146, sh_147, sh_148, sh_149, sh_150, sh_151, sh_152, sh_153, sh_154, sh_155, sh_156, sh_157, sh_158, sh_159, sh_160, sh_161, sh_162, sh_163, sh_164, sh_165, sh_166, sh_167, sh_168, sh_169, sh_170, sh_171, sh_172, sh_173, sh_174, sh_175, sh_176, sh_177, sh_178, sh_179, sh_180, sh_181, g_146, g_147, g_148, g_149, g_150, g_151, g_152, g_153, g_154, g_155, g_156, g_157, g_158, g_159, g_160, g_161, g_162, g_163, g_164, g_165, g_166, g_167, g_168, g_169, g_170, g_171, g_172, g_173, g_174, g_175, g_176, g_177, g_178, g_179, g_180, g_181, g_145_36, g_145_37, g_145_38, g_145_39, g_145_40, g_145_41, hw, pk_mul, i1, i2, nI_ge hk (by decide), cpFM]
/-- FORK -/
def fk1 (r : RS) (p q c : Nat) : RS := cpP p q 3 (cpP p q 2 (cpP p q 1 (cpP p q 0 (begR r q c (r 27 p) (nI p)))))
def fk2 (p q : Nat) (r1 : RS) : RS := cpF p q 2 (cpF p q 1 (cpF p q 0 (ru r1 29 q (r1 29 p))))
def forkR (r : RS) (p q c : Nat) : RS := fk2 p q (fk1 r p q c)
def fForkR (r : RS) (p c : Nat) : Int32 × RS := match ffind (pFreeP r) 0 16 with
  | none => (-5, r)
  | some q => if ovr r true 4 (some c) = true then (-6, r) else (forkR r p q c 26 q, forkR r p q c)
theorem c_fork (hw : wf M) {C : Nat} (hC : C ≤ 4) (ho : WRo (rg M) C) (hm : WRm (rg M) C) (hpp : WRp (rg M) C) {p c : Nat} (hp : p < 16) (hc : c < C) (hpc : rg M 25 p = nI c) : Den (d + 3) 86 [rf (some 145), .int (nI p)] M (some (.int (fForkR (rg M) p c).1)) (fForkR (rg M) p c).2 := by
  have ho' := fun (Q : Option Value → mH → Prop) => c_isOver (d := d) (M := M) (Q := Q) hw hC ho hm hpp (b := true) hc
  simp only [cond_true] at ho'
  have hc4 : c < 4 := by omega
  have hst : ∀ Q, Vc (d + 3) 86 [rf (some 145), .int (nI p)] M Q = V (d + 3) 86 12 [some (rf (some 145)), some (.int (nI p)), some (.int (oI (ffind (pFreeP (rg M)) 0 16))), some (.int (nI c)), none] [] M Q := by
    intro Q
    show V (d + 3) 86 0 [some (rf (some 145)), some (.int (nI p)), none, none, none] [] M Q = _
    simp only [s_86_0, s_86_1, s_86_4, s_86_5, s_86_6, s_86_9, s_86_10, s_86_11, eq_self, Nat.reduceLT, Nat.reduceLeDiff, Nat.reduceMod, Nat.reduceDiv, Nat.reduceAdd, Nat.reduceMul, Option.toList_some, Option.toList_none, List.cons_append, List.nil_append, List.append_nil, n10, n00, if_true, if_false, b0, b1, nI_add, true_and, and_true, and_self, sh_145, k_145_0, k_145_1, k_145_2, k_145_3, k_145_4, k_145_5, k_145_6, k_145_7, k_145_8, k_145_9, k_145_10, k_145_11, k_145_12, k_145_13, k_145_14, k_145_15, k_145_16, k_145_17, k_145_18, k_145_19, k_145_20, k_145_21, k_145_22, k_145_23, k_145_24, k_145_25, k_145_26, k_145_27, k_145_28, k_145_29, k_145_30, k_145_31, k_145_32, k_145_33, k_145_34, k_145_35, sh_146, sh_147, sh_148, sh_149, sh_150, sh_151, sh_152, sh_153, sh_154, sh_155, sh_156, sh_157, sh_158, sh_159, sh_160, sh_161, sh_162, sh_163, sh_164, sh_165, sh_166, sh_167, sh_168, sh_169, sh_170, sh_171, sh_172, sh_173, sh_174, sh_175, sh_176, sh_177, sh_178, sh_179, sh_180, sh_181, g_146, g_147, g_148, g_149, g_150, g_151, g_152, g_153, g_154, g_155, g_156, g_157, g_158, g_159, g_160, g_161, g_162, g_163, g_164, g_165, g_166, g_167, g_168, g_169, g_170, g_171, g_172, g_173, g_174, g_175, g_176, g_177, g_178, g_179, g_180, g_181, g_145_36, g_145_37, g_145_38, g_145_39, g_145_40, g_145_41, hw, hp, hpc, c_freeProcess hw]
  unfold fForkR
  cases hf : ffind (pFreeP (rg M)) 0 16 with
  | none =>
    refine ⟨M, fun Q => ?_, hw, rfl, rfl⟩
    rw [hst, hf]
    simp only [oI, s_86_12, s_86_13, s_86_16, s_86_18, eq_self, Nat.reduceLT, Nat.reduceLeDiff, Nat.reduceMod, Nat.reduceDiv, Nat.reduceAdd, Nat.reduceMul, Option.toList_some, Option.toList_none, List.cons_append, List.nil_append, List.append_nil, n10, n00, if_true, if_false, b0, b1, nI_add, true_and, and_true, and_self, show ¬ (0 : Int32) ≤ -1 by decide]
  | some q =>
    obtain ⟨-, hq, -⟩ := ffind_in hf
    have hq : q < 16 := by omega
    dsimp only
    by_cases hov : ovr (rg M) true 4 (some c) = true
    · refine ⟨M, fun Q => ?_, hw, by rw [if_pos hov], rfl⟩
      rw [hst, hf]
      simp only [oI, s_86_12, s_86_13, nI_pos' (show q < 2 ^ 31 by omega), s_86_19, s_86_20, s_86_21, s_86_22 hw sh_145, ho', hov, s_86_25, s_86_28, s_86_30, eq_self, Nat.reduceLT, Nat.reduceLeDiff, Nat.reduceMod, Nat.reduceDiv, Nat.reduceAdd, Nat.reduceMul, Option.toList_some, Option.toList_none, List.cons_append, List.nil_append, List.append_nil, n10, n00, if_true, if_false, b0, b1, nI_add, true_and, and_true, and_self]
    · rw [if_neg hov]
      dsimp only
      obtain ⟨w1, r1, c1⟩ := beginM_ok hw hq hc4 (us := rg M 27 p) (pa := nI p)
      obtain ⟨w2, r2, c2⟩ := cpPM_ok w1 (p := p) hq (show 0 < 4 by omega)
      obtain ⟨w3, r3, c3⟩ := cpPM_ok w2 (p := p) hq (show 1 < 4 by omega)
      obtain ⟨w4, r4, c4⟩ := cpPM_ok w3 (p := p) hq (show 2 < 4 by omega)
      obtain ⟨w5, r5, c5⟩ := cpPM_ok w4 (p := p) hq (show 3 < 4 by omega)
      have w6 := wm_174 w5 hq (x := rg (cpPM p q 3 (cpPM p q 2 (cpPM p q 1 (cpPM p q 0 (beginM M q c (rg M 27 p) (nI p)))))) 29 p)
      obtain ⟨w7, r7, c7⟩ := cpFM_ok w6 (p := p) hq (show 0 < 3 by omega)
      obtain ⟨w8, r8, c8⟩ := cpFM_ok w7 (p := p) hq (show 1 < 3 by omega)
      obtain ⟨w9, r9, c9⟩ := cpFM_ok w8 (p := p) hq (show 2 < 3 by omega)
      have er5 : rg (cpPM p q 3 (cpPM p q 2 (cpPM p q 1 (cpPM p q 0 (beginM M q c (rg M 27 p) (nI p)))))) = fk1 (rg M) p q c := by rw [r5, r4, r3, r2, r1, fk1]
      have er := r9.trans (show _ = forkR (rg M) p q c by rw [r8, r7, rm_174 w5 hq, er5, forkR, fk2])
      refine ⟨_, fun Q => ?_, w9, er, ?_⟩
      · rw [hst, hf]
        simp only [oI, s_86_12, s_86_13, nI_pos' (show q < 2 ^ 31 by omega), s_86_19, s_86_20, s_86_21, s_86_22 hw sh_145, ho', hov, s_86_25, s_86_31, s_86_32, s_86_33, s_86_34, s_86_35, s_86_38, s_86_39, s_86_40, s_86_41 hw sh_145, c_begin hw hq hc4, s_86_44, s_86_45, eq_self, Nat.reduceLT, Nat.reduceLeDiff, Nat.reduceMod, Nat.reduceDiv, Nat.reduceAdd, Nat.reduceMul, Option.toList_some, Option.toList_none, List.cons_append, List.nil_append, List.append_nil, n10, n00, if_true, if_false, b0, b1, nI_add, true_and, and_true, and_self, sh_145, k_145_0, k_145_1, k_145_2, k_145_3, k_145_4, k_145_5, k_145_6, k_145_7, k_145_8, k_145_9, k_145_10, k_145_11, k_145_12, k_145_13, k_145_14, k_145_15, k_145_16, k_145_17, k_145_18, k_145_19, k_145_20, k_145_21, k_145_22, k_145_23, k_145_24, k_145_25, k_145_26, k_145_27, k_145_28, k_145_29, k_145_30, k_145_31, k_145_32, k_145_33, k_145_34, k_145_35, sh_146, sh_147, sh_148, sh_149, sh_150, sh_151, sh_152, sh_153, sh_154, sh_155, sh_156, sh_157, sh_158, sh_159, sh_160, sh_161, sh_162, sh_163, sh_164, sh_165, sh_166, sh_167, sh_168, sh_169, sh_170, sh_171, sh_172, sh_173, sh_174, sh_175, sh_176, sh_177, sh_178, sh_179, sh_180, sh_181, g_146, g_147, g_148, g_149, g_150, g_151, g_152, g_153, g_154, g_155, g_156, g_157, g_158, g_159, g_160, g_161, g_162, g_163, g_164, g_165, g_166, g_167, g_168, g_169, g_170, g_171, g_172, g_173, g_174, g_175, g_176, g_177, g_178, g_179, g_180, g_181, g_145_36, g_145_37, g_145_38, g_145_39, g_145_40, g_145_41, hw, hp]
        rw [c_fork_p w1 hp hq (show 0 < 4 by omega), c_fork_p w2 hp hq (show 1 < 4 by omega), c_fork_p w3 hp hq (show 2 < 4 by omega), c_fork_p w4 hp hq (show 3 < 4 by omega), s_86_47]
        simp only [s_86_49, s_86_50, s_86_81, s_86_82, s_86_85, s_86_86, s_86_87, s_86_90, s_86_91, s_86_92, s_86_93, s_86_94, eq_self, Nat.reduceLT, Nat.reduceLeDiff, Nat.reduceMod, Nat.reduceDiv, Nat.reduceAdd, Nat.reduceMul, Option.toList_some, Option.toList_none, List.cons_append, List.nil_append, List.append_nil, n10, n00, if_true, if_false, b0, b1, nI_add, true_and, and_true, and_self, sh_145, k_145_0, k_145_1, k_145_2, k_145_3, k_145_4, k_145_5, k_145_6, k_145_7, k_145_8, k_145_9, k_145_10, k_145_11, k_145_12, k_145_13, k_145_14, k_145_15, k_145_16, k_145_17, k_145_18, k_145_19, k_145_20, k_145_21, k_145_22, k_145_23, k_145_24, k_145_25, k_145_26, k_145_27, k_145_28, k_145_29, k_145_30, k_145_31, k_145_32, k_145_33, k_145_34, k_145_35, sh_146, sh_147, sh_148, sh_149, sh_150, sh_151, sh_152, sh_153, sh_154, sh_155, sh_156, sh_157, sh_158, sh_159, sh_160, sh_161, sh_162, sh_163, sh_164, sh_165, sh_166, sh_167, sh_168, sh_169, sh_170, sh_171, sh_172, sh_173, sh_174, sh_175, sh_176, sh_177, sh_178, sh_179, sh_180, sh_181, g_146, g_147, g_148, g_149, g_150, g_151, g_152, g_153, g_154, g_155, g_156, g_157, g_158, g_159, g_160, g_161, g_162, g_163, g_164, g_165, g_166, g_167, g_168, g_169, g_170, g_171, g_172, g_173, g_174, g_175, g_176, g_177, g_178, g_179, g_180, g_181, g_145_36, g_145_37, g_145_38, g_145_39, g_145_40, g_145_41, w5, hp, hq, show nI 4 ≤ nI (3 + 1) from Int32.le_refl _]
        rw [c_fork_f w6 hp hq (show 0 < 3 by omega), c_fork_f w7 hp hq (show 1 < 3 by omega), c_fork_f w8 hp hq (show 2 < 3 by omega), s_86_96]
        simp only [s_86_98, s_86_99, s_86_130, s_86_131, s_86_134, s_86_135, s_86_136, eq_self, Nat.reduceLT, Nat.reduceLeDiff, Nat.reduceMod, Nat.reduceDiv, Nat.reduceAdd, Nat.reduceMul, Option.toList_some, Option.toList_none, List.cons_append, List.nil_append, List.append_nil, n10, n00, if_true, if_false, b0, b1, nI_add, true_and, and_true, and_self, sh_145, k_145_0, k_145_1, k_145_2, k_145_3, k_145_4, k_145_5, k_145_6, k_145_7, k_145_8, k_145_9, k_145_10, k_145_11, k_145_12, k_145_13, k_145_14, k_145_15, k_145_16, k_145_17, k_145_18, k_145_19, k_145_20, k_145_21, k_145_22, k_145_23, k_145_24, k_145_25, k_145_26, k_145_27, k_145_28, k_145_29, k_145_30, k_145_31, k_145_32, k_145_33, k_145_34, k_145_35, sh_146, sh_147, sh_148, sh_149, sh_150, sh_151, sh_152, sh_153, sh_154, sh_155, sh_156, sh_157, sh_158, sh_159, sh_160, sh_161, sh_162, sh_163, sh_164, sh_165, sh_166, sh_167, sh_168, sh_169, sh_170, sh_171, sh_172, sh_173, sh_174, sh_175, sh_176, sh_177, sh_178, sh_179, sh_180, sh_181, g_146, g_147, g_148, g_149, g_150, g_151, g_152, g_153, g_154, g_155, g_156, g_157, g_158, g_159, g_160, g_161, g_162, g_163, g_164, g_165, g_166, g_167, g_168, g_169, g_170, g_171, g_172, g_173, g_174, g_175, g_176, g_177, g_178, g_179, g_180, g_181, g_145_36, g_145_37, g_145_38, g_145_39, g_145_40, g_145_41, w9, hq, show nI 3 ≤ nI (2 + 1) from Int32.le_refl _, er]
        rfl
      · rw [c9, c8, c7, cm_174 w5 hq, c5, c4, c3, c2, c1]
/-- WAIT: the loop from j on -/
def awtR (pi : Int32) : Nat → Nat → Int32 → RS → Int32 × RS
  | 0, _, ch, r => (if ch = 0 then -9 else -10, r)
  | k + 1, j, ch, r => if ¬ r 24 j = 0 ∧ r 28 j = pi then (if r 24 j = nI 2 then (nI 256 * r 26 j + r 32 j, ru (ru r 24 j (nI 0)) 29 j (nI 0)) else awtR pi k (j + 1) (nI 1) r) else awtR pi k (j + 1) ch r
theorem c_await_l (hw : wf M) {pi : Int32} : ∀ k j ch, j + k = 16 → ∃ M', (∀ Q, V d 87 4 [some (rf (some 145)), some (.int pi), some (.int ch), some (.int (nI j))] [] M Q = Q (some (.int (awtR pi k j ch (rg M)).1)) M') ∧ wf M' ∧ rg M' = (awtR pi k j ch (rg M)).2 ∧ cg M' = cg M := by
  intro k
  induction k with
  | zero =>
    intro j ch hj
    obtain rfl : j = 16 := by omega
    refine ⟨M, fun Q => ?_, hw, rfl, rfl⟩
    rw [s_87_4]
    simp only [s_87_5, s_87_7, s_87_85, s_87_86, s_87_89, s_87_91, s_87_94, s_87_96, eq_self, Nat.reduceLT, Nat.reduceLeDiff, Nat.reduceMod, Nat.reduceDiv, Nat.reduceAdd, Nat.reduceMul, Option.toList_some, Option.toList_none, List.cons_append, List.nil_append, List.append_nil, n10, n00, if_true, if_false, b0, b1, nI_add, true_and, and_true, and_self, show nI 16 ≤ nI 16 from Int32.le_refl _, awtR]
    by_cases h : ch = 0
    · simp only [h, eq_self, Nat.reduceLT, Nat.reduceLeDiff, Nat.reduceMod, Nat.reduceDiv, Nat.reduceAdd, Nat.reduceMul, Option.toList_some, Option.toList_none, List.cons_append, List.nil_append, List.append_nil, n10, n00, if_true, if_false, b0, b1, nI_add, true_and, and_true, and_self]
    · simp only [h, eq_self, Nat.reduceLT, Nat.reduceLeDiff, Nat.reduceMod, Nat.reduceDiv, Nat.reduceAdd, Nat.reduceMul, Option.toList_some, Option.toList_none, List.cons_append, List.nil_append, List.append_nil, n10, n00, if_true, if_false, b0, b1, nI_add, true_and, and_true, and_self]
  | succ k ih =>
    intro j ch hj
    have h16 : j < 16 := by omega
    by_cases h1 : ¬ rg M 24 j = 0 ∧ rg M 28 j = pi
    · by_cases h2 : rg M 24 j = nI 2
      · have w1 := wm_169 hw h16 (x := nI 0)
        have w2 := wm_174 w1 h16 (x := nI 0)
        have er : rg (mu (mu M 169 j (.int (nI 0))) 174 j (.int (nI 0))) = ru (ru (rg M) 24 j (nI 0)) 29 j (nI 0) := by rw [rm_174 w1 h16, rm_169 hw h16]
        refine ⟨_, fun Q => ?_, w2, by rw [er, awtR, if_pos h1, if_pos h2], by rw [cm_174 w1 h16, cm_169 hw h16]⟩
        have h28 := h1.2
        rw [s_87_4]
        simp only [s_87_0, s_87_1, s_87_2, s_87_3, s_87_5, s_87_7, s_87_10, s_87_11, s_87_14, s_87_15, s_87_16, s_87_19, s_87_20, s_87_23, s_87_24, s_87_25, s_87_26, s_87_29, s_87_32, s_87_33, s_87_34, s_87_35, s_87_38, s_87_39, s_87_40, s_87_41, s_87_44, s_87_47, s_87_48, s_87_51, s_87_52, s_87_53, s_87_54, s_87_55, s_87_58, s_87_59, s_87_60, s_87_61, s_87_64, s_87_65, s_87_68, s_87_69, s_87_70, s_87_71, s_87_72, s_87_75, s_87_76, s_87_77, s_87_78, s_87_79, s_87_82, s_87_85, s_87_86, s_87_89, s_87_91, s_87_94, s_87_96, eq_self, Nat.reduceLT, Nat.reduceLeDiff, Nat.reduceMod, Nat.reduceDiv, Nat.reduceAdd, Nat.reduceMul, Option.toList_some, Option.toList_none, List.cons_append, List.nil_append, List.append_nil, n10, n00, if_true, if_false, b0, b1, nI_add, true_and, and_true, and_self, sh_145, k_145_0, k_145_1, k_145_2, k_145_3, k_145_4, k_145_5, k_145_6, k_145_7, k_145_8, k_145_9, k_145_10, k_145_11, k_145_12, k_145_13, k_145_14, k_145_15, k_145_16, k_145_17, k_145_18, k_145_19, k_145_20, k_145_21, k_145_22, k_145_23, k_145_24, k_145_25, k_145_26, k_145_27, k_145_28, k_145_29, k_145_30, k_145_31, k_145_32, k_145_33, k_145_34, k_145_35, sh_146, sh_147, sh_148, sh_149, sh_150, sh_151, sh_152, sh_153, sh_154, sh_155, sh_156, sh_157, sh_158, sh_159, sh_160, sh_161, sh_162, sh_163, sh_164, sh_165, sh_166, sh_167, sh_168, sh_169, sh_170, sh_171, sh_172, sh_173, sh_174, sh_175, sh_176, sh_177, sh_178, sh_179, sh_180, sh_181, g_146, g_147, g_148, g_149, g_150, g_151, g_152, g_153, g_154, g_155, g_156, g_157, g_158, g_159, g_160, g_161, g_162, g_163, g_164, g_165, g_166, g_167, g_168, g_169, g_170, g_171, g_172, g_173, g_174, g_175, g_176, g_177, g_178, g_179, g_180, g_181, g_145_36, g_145_37, g_145_38, g_145_39, g_145_40, g_145_41, hw, h16, nI_ge h16 (by decide), h2, h28, show ¬ nI 2 = 0 by decide, w1, w2, er, awtR, if_pos h1, ru, Nat.reduceEqDiff, false_and, not_false_eq_true]
      · obtain ⟨M', g1, g2, g3, g4⟩ := ih (j + 1) (nI 1) (by omega)
        refine ⟨M', fun Q => ?_, g2, by rw [g3, awtR, if_pos h1, if_neg h2], g4⟩
        rw [s_87_4]
        simp only [s_87_0, s_87_1, s_87_2, s_87_3, s_87_5, s_87_7, s_87_10, s_87_11, s_87_14, s_87_15, s_87_16, s_87_19, s_87_20, s_87_23, s_87_24, s_87_25, s_87_26, s_87_29, s_87_32, s_87_33, s_87_34, s_87_35, s_87_38, s_87_39, s_87_40, s_87_41, s_87_44, s_87_47, s_87_48, s_87_51, s_87_52, s_87_53, s_87_54, s_87_55, s_87_58, s_87_59, s_87_60, s_87_61, s_87_64, s_87_65, s_87_68, s_87_69, s_87_70, s_87_71, s_87_72, s_87_75, s_87_76, s_87_77, s_87_78, s_87_79, s_87_82, s_87_85, s_87_86, s_87_89, s_87_91, s_87_94, s_87_96, eq_self, Nat.reduceLT, Nat.reduceLeDiff, Nat.reduceMod, Nat.reduceDiv, Nat.reduceAdd, Nat.reduceMul, Option.toList_some, Option.toList_none, List.cons_append, List.nil_append, List.append_nil, n10, n00, if_true, if_false, b0, b1, nI_add, true_and, and_true, and_self, sh_145, k_145_0, k_145_1, k_145_2, k_145_3, k_145_4, k_145_5, k_145_6, k_145_7, k_145_8, k_145_9, k_145_10, k_145_11, k_145_12, k_145_13, k_145_14, k_145_15, k_145_16, k_145_17, k_145_18, k_145_19, k_145_20, k_145_21, k_145_22, k_145_23, k_145_24, k_145_25, k_145_26, k_145_27, k_145_28, k_145_29, k_145_30, k_145_31, k_145_32, k_145_33, k_145_34, k_145_35, sh_146, sh_147, sh_148, sh_149, sh_150, sh_151, sh_152, sh_153, sh_154, sh_155, sh_156, sh_157, sh_158, sh_159, sh_160, sh_161, sh_162, sh_163, sh_164, sh_165, sh_166, sh_167, sh_168, sh_169, sh_170, sh_171, sh_172, sh_173, sh_174, sh_175, sh_176, sh_177, sh_178, sh_179, sh_180, sh_181, g_146, g_147, g_148, g_149, g_150, g_151, g_152, g_153, g_154, g_155, g_156, g_157, g_158, g_159, g_160, g_161, g_162, g_163, g_164, g_165, g_166, g_167, g_168, g_169, g_170, g_171, g_172, g_173, g_174, g_175, g_176, g_177, g_178, g_179, g_180, g_181, g_145_36, g_145_37, g_145_38, g_145_39, g_145_40, g_145_41, hw, h16, nI_ge h16 (by decide), h1.1, h1.2, h2, g1, awtR, not_false_eq_true]
    · obtain ⟨M', g1, g2, g3, g4⟩ := ih (j + 1) ch (by omega)
      refine ⟨M', fun Q => ?_, g2, by rw [g3, awtR, if_neg h1], g4⟩
      rw [s_87_4]
      simp only [s_87_0, s_87_1, s_87_2, s_87_3, s_87_5, s_87_7, s_87_10, s_87_11, s_87_14, s_87_15, s_87_16, s_87_19, s_87_20, s_87_23, s_87_24, s_87_25, s_87_26, s_87_29, s_87_32, s_87_33, s_87_34, s_87_35, s_87_38, s_87_39, s_87_40, s_87_41, s_87_44, s_87_47, s_87_48, s_87_51, s_87_52, s_87_53, s_87_54, s_87_55, s_87_58, s_87_59, s_87_60, s_87_61, s_87_64, s_87_65, s_87_68, s_87_69, s_87_70, s_87_71, s_87_72, s_87_75, s_87_76, s_87_77, s_87_78, s_87_79, s_87_82, s_87_85, s_87_86, s_87_89, s_87_91, s_87_94, s_87_96, eq_self, Nat.reduceLT, Nat.reduceLeDiff, Nat.reduceMod, Nat.reduceDiv, Nat.reduceAdd, Nat.reduceMul, Option.toList_some, Option.toList_none, List.cons_append, List.nil_append, List.append_nil, n10, n00, if_true, if_false, b0, b1, nI_add, true_and, and_true, and_self, sh_145, k_145_0, k_145_1, k_145_2, k_145_3, k_145_4, k_145_5, k_145_6, k_145_7, k_145_8, k_145_9, k_145_10, k_145_11, k_145_12, k_145_13, k_145_14, k_145_15, k_145_16, k_145_17, k_145_18, k_145_19, k_145_20, k_145_21, k_145_22, k_145_23, k_145_24, k_145_25, k_145_26, k_145_27, k_145_28, k_145_29, k_145_30, k_145_31, k_145_32, k_145_33, k_145_34, k_145_35, sh_146, sh_147, sh_148, sh_149, sh_150, sh_151, sh_152, sh_153, sh_154, sh_155, sh_156, sh_157, sh_158, sh_159, sh_160, sh_161, sh_162, sh_163, sh_164, sh_165, sh_166, sh_167, sh_168, sh_169, sh_170, sh_171, sh_172, sh_173, sh_174, sh_175, sh_176, sh_177, sh_178, sh_179, sh_180, sh_181, g_146, g_147, g_148, g_149, g_150, g_151, g_152, g_153, g_154, g_155, g_156, g_157, g_158, g_159, g_160, g_161, g_162, g_163, g_164, g_165, g_166, g_167, g_168, g_169, g_170, g_171, g_172, g_173, g_174, g_175, g_176, g_177, g_178, g_179, g_180, g_181, g_145_36, g_145_37, g_145_38, g_145_39, g_145_40, g_145_41, hw, h16, nI_ge h16 (by decide), g1, awtR, if_neg h1]
      by_cases h3 : rg M 24 j = 0
      · simp only [h3, eq_self, Nat.reduceLT, Nat.reduceLeDiff, Nat.reduceMod, Nat.reduceDiv, Nat.reduceAdd, Nat.reduceMul, Option.toList_some, Option.toList_none, List.cons_append, List.nil_append, List.append_nil, n10, n00, if_true, if_false, b0, b1, nI_add, true_and, and_true, and_self]
      · have h4 : ¬ rg M 28 j = pi := fun z => h1 ⟨h3, z⟩
        simp only [h3, h4, eq_self, Nat.reduceLT, Nat.reduceLeDiff, Nat.reduceMod, Nat.reduceDiv, Nat.reduceAdd, Nat.reduceMul, Option.toList_some, Option.toList_none, List.cons_append, List.nil_append, List.append_nil, n10, n00, if_true, if_false, b0, b1, nI_add, true_and, and_true, and_self]
theorem c_await (hw : wf M) {pi : Int32} : Den d 87 [rf (some 145), .int pi] M (some (.int (awtR pi 16 0 0 (rg M)).1)) (awtR pi 16 0 0 (rg M)).2 := by
  obtain ⟨M', g1, g2, g3, g4⟩ := c_await_l (d := d) hw (pi := pi) 16 0 0 rfl
  refine ⟨M', fun Q => ?_, g2, g3, g4⟩
  show V d 87 0 [some (rf (some 145)), some (.int pi), none, none] [] M Q = _
  rw [s_87_0, s_87_1, s_87_2, s_87_3, show (.int (nI 0) : Value) = .int 0 from by decide]
  exact g1 Q
end
