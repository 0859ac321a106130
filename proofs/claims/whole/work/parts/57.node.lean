section
variable {d : Nat} {M : mH} {Q : Option Value → mH → Prop} {C t : Nat} {mp : MP} {I : CI} {O : CO} {r : RS}
def pI (I : CI) (n : Nat) (nm kd ow : Int32) : CI := iu (iu (iu (iu (iu I 1 n 1 (nI 1)) 1 n 3 nm) 1 n 2 kd) 1 n 4 ow) 1 n 5 (nI 0)
def pO (O : CO) (n : Nat) (a mo : Option Nat) : CO := ou (ou O 1 n 6 a) 1 n 7 mo
theorem dsc_put {n : Nat} {r' : RS} (h2 : ∀ m, m < 32 → ¬ r 1 m = 0 → m = 0 ∨ ∃ m', m' < 32 ∧ r 2 m = nI m' ∧ ¬ r 1 m' = 0) (h0 : r 2 0 = -1) (e : ∀ k, ¬ r 1 k = 0 → r' 2 k = r 2 k) (hz : ¬ r 1 0 = 0) : ∀ f x y, (y = -1 ∨ ∃ b, b < 32 ∧ y = nI b ∧ ¬ r 1 b = 0) → dsc r f x y → dsc r' f x y := by
  intro f
  induction f with
  | zero => intro x y _ h; exact h
  | succ f ih =>
    intro x y hy h
    rcases h with h | h
    · exact Or.inl h
    · refine Or.inr ?_
      rcases hy with rfl | ⟨b, hb, rfl, hrb⟩
      · have e1 : ((-1 : Int32)).toNatClampNeg = 0 := by decide
        rw [e1] at h ⊢
        rw [e 0 hz]
        exact ih x _ (Or.inl h0) h
      · rw [nI_clamp (by omega)] at h ⊢
        rw [e b hrb]
        rcases h2 b hb hrb with rfl | ⟨m', h3, h4, h5⟩
        · exact ih x _ (Or.inl h0) h
        · exact ih x _ (Or.inr ⟨m', h3, h4, h5⟩) h
theorem IV.par (iv : IV I O r C t mp) : ∀ m, m < 32 → ¬ r 1 m = 0 → m = 0 ∨ ∃ m', m' < 32 ∧ r 2 m = nI m' ∧ ¬ r 1 m' = 0 := fun m hm hr => by
  rcases (iv.n2 m hm hr).2.2.1 with h | ⟨m', h1, h2, h3, -⟩
  · exact Or.inl h
  · exact Or.inr ⟨m', h1, h2, h3⟩
theorem iv_put (iv : IV I O r C t mp) {n a : Nat} {nm kd ow mk : Int32} {mo : Option Nat} (hn : n < 32) (hn0 : r 1 n = 0) (ha : a < 32) (had : ¬ r 1 a = 0 ∧ r 4 a = 0) (hkd : kd = 0 ∨ kd = nI 1) (how : ∃ o, o < 256 ∧ ow = nI o) (hmk : mk = -1 ∨ ∃ c, c < C ∧ mk = nI c) (hmo : mo = cgO mk) : IV (pI I n nm kd ow) (pO O n (some (4 + a)) mo) (putR r n (nI a) nm kd ow mk) C t mp := by
  have hnn : ∀ m, ¬ r 1 m = 0 → ¬ m = n := fun m h z => h (by rw [z]; exact hn0)
  have h00 := hnn 0 iv.n3.1
  have r1 : ∀ m, ¬ r 1 m = 0 → putR r n (nI a) nm kd ow mk 1 m = r 1 m := fun m h => by simp only [putR, ru, iu, ou, eq_self, Nat.reduceEqDiff, false_and, and_false, if_false, true_and, and_true, and_self, hnn m h]
  have r4 : ∀ m, ¬ r 1 m = 0 → putR r n (nI a) nm kd ow mk 4 m = r 4 m := fun m h => by simp only [putR, ru, iu, ou, eq_self, Nat.reduceEqDiff, false_and, and_false, if_false, true_and, and_true, and_self, hnn m h]
  have r2 : ∀ m, ¬ r 1 m = 0 → putR r n (nI a) nm kd ow mk 2 m = r 2 m := fun m h => by simp only [putR, ru, iu, ou, eq_self, Nat.reduceEqDiff, false_and, and_false, if_false, true_and, and_true, and_self, hnn m h]
  have r7 : ∀ m, ¬ r 1 m = 0 → putR r n (nI a) nm kd ow mk 7 m = r 7 m := fun m h => by simp only [putR, ru, iu, ou, eq_self, Nat.reduceEqDiff, false_and, and_false, if_false, true_and, and_true, and_self, hnn m h]
  have hD : ∀ m, ¬ r 1 m = 0 → r 4 m = 0 → ¬ putR r n (nI a) nm kd ow mk 1 m = 0 ∧ putR r n (nI a) nm kd ow mk 4 m = 0 := fun m h h' => by
    rw [r1 m h, r4 m h]; exact ⟨h, h'⟩
  have hDe : ∀ x y, (∃ b, b < 32 ∧ y = nI b ∧ ¬ r 1 b = 0) → Desc r x y → Desc (putR r n (nI a) nm kd ow mk) x y := fun x y hy h => by
    obtain ⟨f, h⟩ := h
    exact ⟨f, dsc_put (n := n) iv.par iv.n3.2.1 r2 iv.n3.1 f x y (Or.inr hy) h⟩
  refine ⟨?_, ?_, ?_, iv.k.cg (by simp only [putR, ru, iu, ou, eq_self, Nat.reduceEqDiff, false_and, and_false, if_false, true_and, and_true, and_self]) (by simp only [pI, ru, iu, ou, eq_self, Nat.reduceEqDiff, false_and, and_false, if_false, true_and, and_true, and_self]), ?_, iv.g.cg (by simp only [putR, ru, iu, ou, eq_self, Nat.reduceEqDiff, false_and, and_false, if_false, true_and, and_true, and_self, implies_true]) (by simp only [pI, ru, iu, ou, eq_self, Nat.reduceEqDiff, false_and, and_false, if_false, true_and, and_true, and_self, implies_true]), iv.p1.cg (by simp only [putR, ru, iu, ou, eq_self, Nat.reduceEqDiff, false_and, and_false, if_false, true_and, and_true, and_self, implies_true]) (by simp only [pI, pO, ru, iu, ou, eq_self, Nat.reduceEqDiff, false_and, and_false, if_false, true_and, and_true, and_self, implies_true]), iv.p2.cg (by simp only [putR, ru, iu, ou, eq_self, Nat.reduceEqDiff, false_and, and_false, if_false, true_and, and_true, and_self, implies_true]) (by simp only [pI, ru, iu, ou, eq_self, Nat.reduceEqDiff, false_and, and_false, if_false, true_and, and_true, and_self, implies_true]), iv.p3.cg (by simp only [putR, ru, iu, ou, eq_self, Nat.reduceEqDiff, false_and, and_false, if_false, true_and, and_true, and_self, implies_true]), iv.p4.cg (by simp only [putR, ru, iu, ou, eq_self, Nat.reduceEqDiff, false_and, and_false, if_false, true_and, and_true, and_self, implies_true]), iv.i.cg (by simp only [putR, ru, iu, ou, eq_self, Nat.reduceEqDiff, false_and, and_false, if_false, true_and, and_true, and_self, implies_true]) (by simp only [pO, ru, iu, ou, eq_self, Nat.reduceEqDiff, false_and, and_false, if_false, true_and, and_true, and_self, implies_true]), iv.h.cg (by simp only [putR, ru, iu, ou, eq_self, Nat.reduceEqDiff, false_and, and_false, if_false, true_and, and_true, and_self, implies_true]) (by simp only [pO, ru, iu, ou, eq_self, Nat.reduceEqDiff, false_and, and_false, if_false, true_and, and_true, and_self, implies_true]), iv.f1.cg (by simp only [putR, ru, iu, ou, eq_self, Nat.reduceEqDiff, false_and, and_false, if_false, true_and, and_true, and_self, implies_true]) (by simp only [pI, ru, iu, ou, eq_self, Nat.reduceEqDiff, false_and, and_false, if_false, true_and, and_true, and_self, implies_true]) (by simp only [pI, ru, iu, ou, eq_self, Nat.reduceEqDiff, false_and, and_false, if_false, true_and, and_true, and_self, implies_true]), iv.f2.cg (by simp only [putR, ru, iu, ou, eq_self, Nat.reduceEqDiff, false_and, and_false, if_false, true_and, and_true, and_self, implies_true]), iv.q.cg (by simp only [putR, ru, iu, ou, eq_self, Nat.reduceEqDiff, false_and, and_false, if_false, true_and, and_true, and_self, implies_true]) (by simp only [pI, ru, iu, ou, eq_self, Nat.reduceEqDiff, false_and, and_false, if_false, true_and, and_true, and_self, implies_true]) (by simp only [pI, ru, iu, ou, eq_self, Nat.reduceEqDiff, false_and, and_false, if_false, true_and, and_true, and_self, implies_true]), iv.m1.cg (by simp only [pI, ru, iu, ou, eq_self, Nat.reduceEqDiff, false_and, and_false, if_false, true_and, and_true, and_self, implies_true]) (by simp only [pO, ru, iu, ou, eq_self, Nat.reduceEqDiff, false_and, and_false, if_false, true_and, and_true, and_self, implies_true]), ?_, iv.m3.cg (by simp only [putR, ru, iu, ou, eq_self, Nat.reduceEqDiff, false_and, and_false, if_false, true_and, and_true, and_self]) (by simp only [putR, ru, iu, ou, eq_self, Nat.reduceEqDiff, false_and, and_false, if_false, true_and, and_true, and_self, implies_true]), iv.m4.cg (by simp only [putR, ru, iu, ou, eq_self, Nat.reduceEqDiff, false_and, and_false, if_false, true_and, and_true, and_self, implies_true])⟩
  · intro m hm
    by_cases e : m = n
    · subst e; simp only [pI, putR, ru, iu, ou, eq_self, Nat.reduceEqDiff, false_and, and_false, if_false, true_and, and_true, and_self, if_true]
    · simp only [pI, putR, ru, iu, ou, eq_self, Nat.reduceEqDiff, false_and, and_false, if_false, true_and, and_true, and_self, e]; exact iv.n1 m hm
  · intro m hm hr
    by_cases e : m = n
    · subst e
      have e1 : putR r m (nI a) nm kd ow mk 2 m = nI a := by simp only [putR, ru, iu, ou, eq_self, Nat.reduceEqDiff, false_and, and_false, if_false, true_and, and_true, and_self, if_true]
      have e2 : putR r m (nI a) nm kd ow mk 7 m = mk := by simp only [putR, ru, iu, ou, eq_self, Nat.reduceEqDiff, false_and, and_false, if_false, true_and, and_true, and_self, if_true]
      have e3 : putR r m (nI a) nm kd ow mk 4 m = kd := by simp only [putR, ru, iu, ou, eq_self, Nat.reduceEqDiff, false_and, and_false, if_false, true_and, and_true, and_self, if_true]
      have e4 : putR r m (nI a) nm kd ow mk 5 m = ow := by simp only [putR, ru, iu, ou, eq_self, Nat.reduceEqDiff, false_and, and_false, if_false, true_and, and_true, and_self, if_true]
      rw [e1, e2, e3, e4, ndO_n (by omega)]
      refine ⟨by simp only [pO, ru, iu, ou, eq_self, Nat.reduceEqDiff, false_and, and_false, if_false, true_and, and_true, and_self, if_true], by simp only [pO, ru, iu, ou, eq_self, Nat.reduceEqDiff, false_and, and_false, if_false, true_and, and_true, and_self, if_true]; exact hmo, Or.inr ⟨a, ha, rfl, hD a had.1 had.2⟩, hkd, hmk, how⟩
    · have hr' : ¬ r 1 m = 0 := by simp only [putR, ru, iu, ou, eq_self, Nat.reduceEqDiff, false_and, and_false, if_false, true_and, and_true, and_self, e] at hr; exact hr
      obtain ⟨h1, h2, h3, h4, h5, h6⟩ := iv.n2 m hm hr'
      have e5 : putR r n (nI a) nm kd ow mk 5 m = r 5 m := by simp only [putR, ru, iu, ou, eq_self, Nat.reduceEqDiff, false_and, and_false, if_false, true_and, and_true, and_self, e]
      rw [r2 m hr', r7 m hr', r4 m hr', e5]
      refine ⟨by simp only [pO, ru, iu, ou, eq_self, Nat.reduceEqDiff, false_and, and_false, if_false, true_and, and_true, and_self, e]; exact h1, by simp only [pO, ru, iu, ou, eq_self, Nat.reduceEqDiff, false_and, and_false, if_false, true_and, and_true, and_self, e]; exact h2, ?_, h4, h5, h6⟩
      rcases h3 with h3 | ⟨m', g1, g2, g3, g4⟩
      · exact Or.inl h3
      · exact Or.inr ⟨m', g1, g2, hD m' g3 g4⟩
  · simp only [gN3, r1 0 iv.n3.1, r2 0 iv.n3.1, r7 0 iv.n3.1, r4 0 iv.n3.1]
    exact iv.n3
  · intro c hc
    obtain ⟨h1, h2, h3, h4, h5, h6, ⟨a', g1, g2, g3, g4⟩, h8⟩ := iv.c c hc
    refine ⟨by simp only [putR, pO, ru, iu, ou, eq_self, Nat.reduceEqDiff, false_and, and_false, if_false, true_and, and_true, and_self]; exact h1, by simp only [putR, pI, ru, iu, ou, eq_self, Nat.reduceEqDiff, false_and, and_false, if_false, true_and, and_true, and_self]; exact h2, by simp only [putR, pI, ru, iu, ou, eq_self, Nat.reduceEqDiff, false_and, and_false, if_false, true_and, and_true, and_self]; exact h3, by simp only [putR, pI, ru, iu, ou, eq_self, Nat.reduceEqDiff, false_and, and_false, if_false, true_and, and_true, and_self]; exact h4, by simp only [putR, pI, ru, iu, ou, eq_self, Nat.reduceEqDiff, false_and, and_false, if_false, true_and, and_true, and_self]; exact h5, by simp only [putR, pO, ru, iu, ou, eq_self, Nat.reduceEqDiff, false_and, and_false, if_false, true_and, and_true, and_self]; exact h6, ⟨a', g1, by simp only [putR, ru, iu, ou, eq_self, Nat.reduceEqDiff, false_and, and_false, if_false, true_and, and_true, and_self]; exact g2, hD a' g3 g4⟩, by simp only [putR, ru, iu, ou, eq_self, Nat.reduceEqDiff, false_and, and_false, if_false, true_and, and_true, and_self]; exact h8⟩
  · intro c hc i hi
    obtain ⟨h1, h2, h3, ⟨x, x1, x2, x3, x4, x5⟩, ⟨b, y1, y2, y3, y4, y5⟩, h6⟩ := iv.m2 c hc i hi
    refine ⟨h1, by simp only [putR, ru, iu, ou, eq_self, Nat.reduceEqDiff, false_and, and_false, if_false, true_and, and_true, and_self]; exact h2, h3, ⟨x, x1, by simp only [putR, ru, iu, ou, eq_self, Nat.reduceEqDiff, false_and, and_false, if_false, true_and, and_true, and_self]; exact x2, (hD x x3 x4).1, (hD x x3 x4).2, by simp only [pO, ru, iu, ou, eq_self, Nat.reduceEqDiff, false_and, and_false, if_false, true_and, and_true, and_self]; exact x5⟩, ⟨b, y1, by simp only [putR, ru, iu, ou, eq_self, Nat.reduceEqDiff, false_and, and_false, if_false, true_and, and_true, and_self]; exact y2, (hD b y3 y4).1, (hD b y3 y4).2, by simp only [pO, ru, iu, ou, eq_self, Nat.reduceEqDiff, false_and, and_false, if_false, true_and, and_true, and_self]; exact y5⟩, ?_⟩
    have e19 : putR r n (nI a) nm kd ow mk 19 = r 19 := by funext k; simp only [putR, ru, iu, ou, eq_self, Nat.reduceEqDiff, false_and, and_false, if_false, true_and, and_true, and_self]
    have e20 : putR r n (nI a) nm kd ow mk 20 = r 20 := by funext k; simp only [putR, ru, iu, ou, eq_self, Nat.reduceEqDiff, false_and, and_false, if_false, true_and, and_true, and_self]
    have e21 : putR r n (nI a) nm kd ow mk 21 = r 21 := by funext k; simp only [putR, ru, iu, ou, eq_self, Nat.reduceEqDiff, false_and, and_false, if_false, true_and, and_true, and_self]
    have e8 : putR r n (nI a) nm kd ow mk 8 = r 8 := by funext k; simp only [putR, ru, iu, ou, eq_self, Nat.reduceEqDiff, false_and, and_false, if_false, true_and, and_true, and_self]
    rw [e19, e20, e21, e8]
    rcases h6 with ⟨z1, z2, z3⟩ | ⟨i', z1, z2, z3, z4⟩
    · exact Or.inl ⟨z1, by simp only [pO, ru, iu, ou, eq_self, Nat.reduceEqDiff, false_and, and_false, if_false, true_and, and_true, and_self]; exact z2, hDe _ _ ⟨x, x1, x2, x3⟩ z3⟩
    · exact Or.inr ⟨i', z1, z2, by simp only [pO, ru, iu, ou, eq_self, Nat.reduceEqDiff, false_and, and_false, if_false, true_and, and_true, and_self]; exact z3, hDe _ _ ⟨x, x1, x2, x3⟩ z4⟩
/-! the class's row -/
def setM (M : mH) (n : Nat) (a : Option Nat) (nm kd ow : Int32) (mo : Option Nat) : mH := mu (mu (mu (mu (mu (mu (mu M (4 + n) 1 (.int (nI 1))) (4 + n) 6 (rf a)) (4 + n) 3 (.int nm)) (4 + n) 2 (.int kd)) (4 + n) 4 (.int ow)) (4 + n) 7 (rf mo)) (4 + n) 5 (.int (nI 0))
theorem setM_ok (hw : wf M) {n : Nat} (hn : n < 32) {a mo : Option Nat} {nm kd ow : Int32} : wf (setM M n a nm kd ow mo) ∧ rg (setM M n a nm kd ow mo) = rg M ∧ ig (setM M n a nm kd ow mo) = pI (ig M) n nm kd ow ∧ og (setM M n a nm kd ow mo) = pO (og M) n a mo := by
  have w1 := C_node_1 hw hn b1
  have w2 := C_node_6 w1.w hn (x := a)
  have w3 := C_node_3 w2.w hn (x := nm)
  have w4 := C_node_2 w3.w hn (x := kd)
  have w5 := C_node_4 w4.w hn (x := ow)
  have w6 := C_node_7 w5.w hn (x := mo)
  have w7 := C_node_5 w6.w hn (x := nI 0)
  refine ⟨w7.w, ?_, ?_, ?_⟩
  · rw [setM, w7.r, w6.r, w5.r, w4.r, w3.r, w2.r, w1.r]
  · rw [setM, w7.i, w6.i, w5.i, w4.i, w3.i, w2.i, w1.i]; rfl
  · rw [setM, w7.o, w6.o, w5.o, w4.o, w3.o, w2.o, w1.o]; rfl
theorem k_settle (hw : wf M) {n : Nat} (hn : n < 32) {a mo : Option Nat} {nm kd ow : Int32} : Vc d 116 [rf (some (4 + n)), rf a, .int nm, .int kd, .int ow, rf mo] M Q = Q none (setM M n a nm kd ow mo) := by
  have w1 := C_node_1 hw hn b1
  have w2 := C_node_6 w1.w hn (x := a)
  have w3 := C_node_3 w2.w hn (x := nm)
  have w4 := C_node_2 w3.w hn (x := kd)
  have w5 := C_node_4 w4.w hn (x := ow)
  have w6 := C_node_7 w5.w hn (x := mo)
  show V d 116 0 [some (rf (some (4 + n))), some (rf a), some (.int nm), some (.int kd), some (.int ow), some (rf mo)] [] M Q = _
  simp only [s_116_0, s_116_1, s_116_2, s_116_5, s_116_6, s_116_7, s_116_10, s_116_11, s_116_12, s_116_15, s_116_16, s_116_17, s_116_20, s_116_21, s_116_23, s_116_26, s_116_27, s_116_29, s_116_32, s_116_33, s_116_34, s_116_37, hw, w1.w, w2.w, w3.w, w4.w, w5.w, w6.w, sh_node, hn, b1, setM]
end
