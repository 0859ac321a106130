section
variable {d : Nat} {M : mH} {Q : Option Value → mH → Prop} {C t : Nat} {mp : MP} {I : CI} {O : CO} {r : RS}
theorem iv_hold (iv : IV I O r C t mp) {p m f s : Nat} (hp : p < 16) (h24 : ¬ r 24 p = 0) (hm : m < 3) (h29 : r 29 p = nI m) (hf : f < 4) (hs : s ≤ 10) (hsn : r 36 f = nI s) (hg : good r f s) : IV (iu I 9 p 8 (nI (m + 1))) (ou O 11 p m (some (127 + 4 * f))) (ru (ru r 29 p (nI (m + 1))) 30 (3 * p + m) (nI f)) C t mp := by
  have hge : ∀ g s', good (ru (ru r 29 p (nI (m + 1))) 30 (3 * p + m) (nI f)) g s' = good r g s' := fun g s' => good.eq (fun k => by simp only [ru, iu, ou, eq_self, Nat.reduceEqDiff, false_and, and_false, if_false, true_and, and_true, and_self])
  refine ⟨iv.n1.cg (by simp only [eq_self, ru, iu, ou, eq_self, Nat.reduceEqDiff, false_and, and_false, if_false, true_and, and_true, and_self, implies_true]) (by simp only [eq_self, ru, iu, ou, eq_self, Nat.reduceEqDiff, false_and, and_false, if_false, true_and, and_true, and_self, implies_true]), iv.n2.cg (by simp only [eq_self, ru, iu, ou, eq_self, Nat.reduceEqDiff, false_and, and_false, if_false, true_and, and_true, and_self, implies_true]) (by simp only [eq_self, ru, iu, ou, eq_self, Nat.reduceEqDiff, false_and, and_false, if_false, true_and, and_true, and_self, implies_true]), iv.n3.cg (by simp only [eq_self, ru, iu, ou, eq_self, Nat.reduceEqDiff, false_and, and_false, if_false, true_and, and_true, and_self, implies_true]), iv.k.cg (by simp only [eq_self, ru, iu, ou, eq_self, Nat.reduceEqDiff, false_and, and_false, if_false, true_and, and_true, and_self, implies_true]) (by simp only [eq_self, ru, iu, ou, eq_self, Nat.reduceEqDiff, false_and, and_false, if_false, true_and, and_true, and_self, implies_true]), iv.c.cg (by simp only [eq_self, ru, iu, ou, eq_self, Nat.reduceEqDiff, false_and, and_false, if_false, true_and, and_true, and_self, implies_true]) (by simp only [eq_self, ru, iu, ou, eq_self, Nat.reduceEqDiff, false_and, and_false, if_false, true_and, and_true, and_self, implies_true]), iv.g.cg (by simp only [eq_self, ru, iu, ou, eq_self, Nat.reduceEqDiff, false_and, and_false, if_false, true_and, and_true, and_self, implies_true]) (by simp only [eq_self, ru, iu, ou, eq_self, Nat.reduceEqDiff, false_and, and_false, if_false, true_and, and_true, and_self, implies_true]), ?_, iv.p2.cg (by simp only [eq_self, ru, iu, ou, eq_self, Nat.reduceEqDiff, false_and, and_false, if_false, true_and, and_true, and_self, implies_true]) (by simp only [eq_self, ru, iu, ou, eq_self, Nat.reduceEqDiff, false_and, and_false, if_false, true_and, and_true, and_self, implies_true]), iv.p3.cg (by simp only [eq_self, ru, iu, ou, eq_self, Nat.reduceEqDiff, false_and, and_false, if_false, true_and, and_true, and_self, implies_true]), iv.p4.cg (by simp only [eq_self, ru, iu, ou, eq_self, Nat.reduceEqDiff, false_and, and_false, if_false, true_and, and_true, and_self, implies_true]), iv.i.cg (by simp only [eq_self, ru, iu, ou, eq_self, Nat.reduceEqDiff, false_and, and_false, if_false, true_and, and_true, and_self, implies_true]) (by simp only [eq_self, ru, iu, ou, eq_self, Nat.reduceEqDiff, false_and, and_false, if_false, true_and, and_true, and_self, implies_true]), ?_, iv.f1.cg (by simp only [eq_self, ru, iu, ou, eq_self, Nat.reduceEqDiff, false_and, and_false, if_false, true_and, and_true, and_self, implies_true]) (by simp only [eq_self, ru, iu, ou, eq_self, Nat.reduceEqDiff, false_and, and_false, if_false, true_and, and_true, and_self, implies_true]) (by simp only [eq_self, ru, iu, ou, eq_self, Nat.reduceEqDiff, false_and, and_false, if_false, true_and, and_true, and_self, implies_true]), iv.f2.cg (by simp only [eq_self, ru, iu, ou, eq_self, Nat.reduceEqDiff, false_and, and_false, if_false, true_and, and_true, and_self, implies_true]), iv.q.cg (by simp only [eq_self, ru, iu, ou, eq_self, Nat.reduceEqDiff, false_and, and_false, if_false, true_and, and_true, and_self, implies_true]) (by simp only [eq_self, ru, iu, ou, eq_self, Nat.reduceEqDiff, false_and, and_false, if_false, true_and, and_true, and_self, implies_true]) (by simp only [eq_self, ru, iu, ou, eq_self, Nat.reduceEqDiff, false_and, and_false, if_false, true_and, and_true, and_self, implies_true]), iv.m1.cg (by simp only [eq_self, ru, iu, ou, eq_self, Nat.reduceEqDiff, false_and, and_false, if_false, true_and, and_true, and_self, implies_true]) (by simp only [eq_self, ru, iu, ou, eq_self, Nat.reduceEqDiff, false_and, and_false, if_false, true_and, and_true, and_self, implies_true]), iv.m2.cg (by simp only [eq_self, ru, iu, ou, eq_self, Nat.reduceEqDiff, false_and, and_false, if_false, true_and, and_true, and_self, implies_true]) (by simp only [eq_self, ru, iu, ou, eq_self, Nat.reduceEqDiff, false_and, and_false, if_false, true_and, and_true, and_self, implies_true]), iv.m3.cg (by simp only [eq_self, ru, iu, ou, eq_self, Nat.reduceEqDiff, false_and, and_false, if_false, true_and, and_true, and_self, implies_true]) (by simp only [eq_self, ru, iu, ou, eq_self, Nat.reduceEqDiff, false_and, and_false, if_false, true_and, and_true, and_self, implies_true]), iv.m4.cg (by simp only [eq_self, ru, iu, ou, eq_self, Nat.reduceEqDiff, false_and, and_false, if_false, true_and, and_true, and_self, implies_true])⟩
  · intro q hq
    have h := iv.p1 q hq
    by_cases e : q = p
    · subst e; simp only [ru, iu, ou, eq_self, Nat.reduceEqDiff, false_and, and_false, if_false, true_and, and_true, and_self, if_true]; exact ⟨h.1, h.2.1, h.2.2.1, h.2.2.2.2⟩
    · simp only [ru, iu, ou, eq_self, Nat.reduceEqDiff, false_and, and_false, if_false, true_and, and_true, and_self, e]; exact h
  · intro q hq
    obtain ⟨m', h1, h2, h3, h4⟩ := iv.h q hq
    by_cases e : q = p
    · subst e
      obtain rfl : m' = m := (nI_eq (by omega) (by omega)).1 (h2.symm.trans h29)
      refine ⟨m' + 1, by omega, by simp only [ru, iu, ou, eq_self, Nat.reduceEqDiff, false_and, and_false, if_false, true_and, and_true, and_self, if_true], by simp only [ru, iu, ou, eq_self, Nat.reduceEqDiff, false_and, and_false, if_false, true_and, and_true, and_self]; exact fun z => absurd z h24, fun k hk => ?_⟩
      by_cases ek : k = m'
      · subst ek
        exact ⟨f, hf, by simp only [ru, iu, ou, eq_self, Nat.reduceEqDiff, false_and, and_false, if_false, true_and, and_true, and_self, if_true], by simp only [ru, iu, ou, eq_self, Nat.reduceEqDiff, false_and, and_false, if_false, true_and, and_true, and_self, if_true], s, hs, by simp only [ru, iu, ou, eq_self, Nat.reduceEqDiff, false_and, and_false, if_false, true_and, and_true, and_self]; exact hsn, by rw [hge]; exact hg⟩
      · obtain ⟨g, g1, g2, g3, s', g4, g5, g6⟩ := h4 k (by omega)
        have e3 : ¬ 3 * q + k = 3 * q + m' := by omega
        exact ⟨g, g1, by simp only [ru, iu, ou, eq_self, Nat.reduceEqDiff, false_and, and_false, if_false, true_and, and_true, and_self, e3]; exact g2, by simp only [ru, iu, ou, eq_self, Nat.reduceEqDiff, false_and, and_false, if_false, true_and, and_true, and_self, ek]; exact g3, s', g4, by simp only [ru, iu, ou, eq_self, Nat.reduceEqDiff, false_and, and_false, if_false, true_and, and_true, and_self]; exact g5, by rw [hge]; exact g6⟩
    · refine ⟨m', h1, by simp only [ru, iu, ou, eq_self, Nat.reduceEqDiff, false_and, and_false, if_false, true_and, and_true, and_self, e]; exact h2, by simp only [ru, iu, ou, eq_self, Nat.reduceEqDiff, false_and, and_false, if_false, true_and, and_true, and_self]; exact h3, fun k hk => ?_⟩
      obtain ⟨g, g1, g2, g3, s', g4, g5, g6⟩ := h4 k hk
      have e3 : ¬ 3 * q + k = 3 * p + m := by omega
      exact ⟨g, g1, by simp only [ru, iu, ou, eq_self, Nat.reduceEqDiff, false_and, and_false, if_false, true_and, and_true, and_self, e3]; exact g2, by simp only [ru, iu, ou, eq_self, Nat.reduceEqDiff, false_and, and_false, if_false, true_and, and_true, and_self, e]; exact g3, s', g4, by simp only [ru, iu, ou, eq_self, Nat.reduceEqDiff, false_and, and_false, if_false, true_and, and_true, and_self]; exact g5, by rw [hge]; exact g6⟩
theorem IV.oth (iv : IV I O r C t mp) {c q : Nat} (h17 : r 17 c = 0) (hq : q < 16) (h24 : ¬ r 24 q = 0) : ∃ c', c' < C ∧ r 25 q = nI c' ∧ ¬ c' = c := by
  obtain ⟨c', g1, g2, g3, -⟩ := (iv.p3 q hq).2.2 h24
  exact ⟨c', g1, g2, fun z => g3 (by rw [z]; exact h17)⟩
theorem iv_sta0 (iv : IV I O r C t mp) {p c : Nat} {pw f : Int32} (hp : p < 16) (hc : c < C) (h24 : r 24 p = 0) (h17 : r 17 c = 0) : IV (stI I p c pw) (stO O p c) (staR r p c pw f (nI 0)) C (t + 1) mp := by
  have hC4 := iv.C4
  have iv := iv.le (Nat.le_succ t)
  have e24 : staR r p c pw f (nI 0) 24 p = nI 1 := by simp only [staR, begR, ru, iu, ou, eq_self, Nat.reduceEqDiff, false_and, and_false, if_false, true_and, and_true, and_self, if_true]
  have e25 : staR r p c pw f (nI 0) 25 p = nI c := by simp only [staR, begR, ru, iu, ou, eq_self, Nat.reduceEqDiff, false_and, and_false, if_false, true_and, and_true, and_self, if_true]
  have e26 : staR r p c pw f (nI 0) 26 p = nI 1 := by simp only [staR, begR, ru, iu, ou, eq_self, Nat.reduceEqDiff, false_and, and_false, if_false, true_and, and_true, and_self, if_true, nI_add, Nat.reduceAdd]
  have e27 : staR r p c pw f (nI 0) 27 p = nI 0 := by simp only [staR, begR, ru, iu, ou, eq_self, Nat.reduceEqDiff, false_and, and_false, if_false, true_and, and_true, and_self, if_true]
  have e28 : staR r p c pw f (nI 0) 28 p = -1 := by simp only [staR, begR, ru, iu, ou, eq_self, Nat.reduceEqDiff, false_and, and_false, if_false, true_and, and_true, and_self, if_true]
  have e29 : staR r p c pw f (nI 0) 29 p = nI 0 := by simp only [staR, begR, ru, iu, ou, eq_self, Nat.reduceEqDiff, false_and, and_false, if_false, true_and, and_true, and_self, if_true]
  have e32 : staR r p c pw f (nI 0) 32 p = nI 0 := by simp only [staR, begR, ru, iu, ou, eq_self, Nat.reduceEqDiff, false_and, and_false, if_false, true_and, and_true, and_self, if_true]
  have e14 : staR r p c pw f (nI 0) 14 c = nI 1 := by simp only [staR, begR, ru, iu, ou, eq_self, Nat.reduceEqDiff, false_and, and_false, if_false, true_and, and_true, and_self, if_true, nI_add, Nat.reduceAdd]
  have e17 : staR r p c pw f (nI 0) 17 c = nI 1 := by simp only [staR, begR, ru, iu, ou, eq_self, Nat.reduceEqDiff, false_and, and_false, if_false, true_and, and_true, and_self, if_true]
  have N : ∀ a q, ¬ q = p → ¬ a = 14 → ¬ a = 17 → ¬ a = 30 → ¬ a = 31 → staR r p c pw f (nI 0) a q = r a q := fun a q h1 h2 h3 h4 h5 => by
    simp only [staR, begR, ru, h1, h2, h3, h4, h5, and_false, false_and, if_false]
  have N14 : ∀ x, ¬ x = c → staR r p c pw f (nI 0) 14 x = r 14 x := fun x h => by simp only [staR, begR, ru, iu, ou, eq_self, Nat.reduceEqDiff, false_and, and_false, if_false, true_and, and_true, and_self, h]
  have N17 : ∀ x, ¬ x = c → staR r p c pw f (nI 0) 17 x = r 17 x := fun x h => by simp only [staR, begR, ru, iu, ou, eq_self, Nat.reduceEqDiff, false_and, and_false, if_false, true_and, and_true, and_self, h]
  have N30 : ∀ x, ¬ x = 3 * p → staR r p c pw f (nI 0) 30 x = r 30 x := fun x h => by simp only [staR, begR, ru, iu, ou, eq_self, Nat.reduceEqDiff, false_and, and_false, if_false, true_and, and_true, and_self, h]
  have E10 : staR r p c pw f (nI 0) 10 = r 10 := by funext i; simp only [staR, begR, ru, iu, ou, eq_self, Nat.reduceEqDiff, false_and, and_false, if_false, true_and, and_true, and_self]
  have E36 : staR r p c pw f (nI 0) 36 = r 36 := by funext i; simp only [staR, begR, ru, iu, ou, eq_self, Nat.reduceEqDiff, false_and, and_false, if_false, true_and, and_true, and_self]
  have hge : ∀ g s', good (staR r p c pw f (nI 0)) g s' = good r g s' := fun g s' => good.eq (fun k => by simp only [staR, begR, ru, iu, ou, eq_self, Nat.reduceEqDiff, false_and, and_false, if_false, true_and, and_true, and_self])
  refine ⟨iv.n1.cg (by simp only [stI, stO, tsI, tsO, staR, begR, ru, iu, ou, eq_self, Nat.reduceEqDiff, false_and, and_false, if_false, true_and, and_true, and_self, implies_true]) (by simp only [stI, stO, tsI, tsO, staR, begR, ru, iu, ou, eq_self, Nat.reduceEqDiff, false_and, and_false, if_false, true_and, and_true, and_self, implies_true]), iv.n2.cg (by simp only [stI, stO, tsI, tsO, staR, begR, ru, iu, ou, eq_self, Nat.reduceEqDiff, false_and, and_false, if_false, true_and, and_true, and_self, implies_true]) (by simp only [stI, stO, tsI, tsO, staR, begR, ru, iu, ou, eq_self, Nat.reduceEqDiff, false_and, and_false, if_false, true_and, and_true, and_self, implies_true]), iv.n3.cg (by simp only [stI, stO, tsI, tsO, staR, begR, ru, iu, ou, eq_self, Nat.reduceEqDiff, false_and, and_false, if_false, true_and, and_true, and_self, implies_true]), iv.k.cg (by simp only [stI, stO, tsI, tsO, staR, begR, ru, iu, ou, eq_self, Nat.reduceEqDiff, false_and, and_false, if_false, true_and, and_true, and_self, implies_true]) (by simp only [stI, stO, tsI, tsO, staR, begR, ru, iu, ou, eq_self, Nat.reduceEqDiff, false_and, and_false, if_false, true_and, and_true, and_self, implies_true]), iv.c.cg (by simp only [stI, stO, tsI, tsO, staR, begR, ru, iu, ou, eq_self, Nat.reduceEqDiff, false_and, and_false, if_false, true_and, and_true, and_self, implies_true]) (by simp only [stI, stO, tsI, tsO, staR, begR, ru, iu, ou, eq_self, Nat.reduceEqDiff, false_and, and_false, if_false, true_and, and_true, and_self, implies_true]), ?_, ?_, ?_, ?_, ?_, ?_, ?_, iv.f1.cg (by simp only [stI, stO, tsI, tsO, staR, begR, ru, iu, ou, eq_self, Nat.reduceEqDiff, false_and, and_false, if_false, true_and, and_true, and_self, implies_true]) (by simp only [stI, stO, tsI, tsO, staR, begR, ru, iu, ou, eq_self, Nat.reduceEqDiff, false_and, and_false, if_false, true_and, and_true, and_self, implies_true]) (by simp only [stI, stO, tsI, tsO, staR, begR, ru, iu, ou, eq_self, Nat.reduceEqDiff, false_and, and_false, if_false, true_and, and_true, and_self, implies_true]), iv.f2.cg (by simp only [stI, stO, tsI, tsO, staR, begR, ru, iu, ou, eq_self, Nat.reduceEqDiff, false_and, and_false, if_false, true_and, and_true, and_self, implies_true]), iv.q.cg (by simp only [stI, stO, tsI, tsO, staR, begR, ru, iu, ou, eq_self, Nat.reduceEqDiff, false_and, and_false, if_false, true_and, and_true, and_self, implies_true]) (by simp only [stI, stO, tsI, tsO, staR, begR, ru, iu, ou, eq_self, Nat.reduceEqDiff, false_and, and_false, if_false, true_and, and_true, and_self, implies_true]) (by simp only [stI, stO, tsI, tsO, staR, begR, ru, iu, ou, eq_self, Nat.reduceEqDiff, false_and, and_false, if_false, true_and, and_true, and_self, implies_true]), iv.m1.cg (by simp only [stI, stO, tsI, tsO, staR, begR, ru, iu, ou, eq_self, Nat.reduceEqDiff, false_and, and_false, if_false, true_and, and_true, and_self, implies_true]) (by simp only [stI, stO, tsI, tsO, staR, begR, ru, iu, ou, eq_self, Nat.reduceEqDiff, false_and, and_false, if_false, true_and, and_true, and_self, implies_true]), iv.m2.cg (by simp only [stI, stO, tsI, tsO, staR, begR, ru, iu, ou, eq_self, Nat.reduceEqDiff, false_and, and_false, if_false, true_and, and_true, and_self, implies_true]) (by simp only [stI, stO, tsI, tsO, staR, begR, ru, iu, ou, eq_self, Nat.reduceEqDiff, false_and, and_false, if_false, true_and, and_true, and_self, implies_true]), iv.m3.cg (by simp only [stI, stO, tsI, tsO, staR, begR, ru, iu, ou, eq_self, Nat.reduceEqDiff, false_and, and_false, if_false, true_and, and_true, and_self, implies_true]) (by simp only [stI, stO, tsI, tsO, staR, begR, ru, iu, ou, eq_self, Nat.reduceEqDiff, false_and, and_false, if_false, true_and, and_true, and_self, implies_true]), iv.m4.cg (by simp only [stI, stO, tsI, tsO, staR, begR, ru, iu, ou, eq_self, Nat.reduceEqDiff, false_and, and_false, if_false, true_and, and_true, and_self, implies_true])⟩
  · intro x hx
    by_cases e : x = c
    · subst e
      rw [e14]
      exact ⟨by simp only [stI, tsI, ru, iu, ou, eq_self, Nat.reduceEqDiff, false_and, and_false, if_false, true_and, and_true, and_self, if_true], 1, by omega, rfl⟩
    · rw [N14 x e]
      have h := iv.g x hx
      simp only [stI, tsI, ru, iu, ou, eq_self, Nat.reduceEqDiff, false_and, and_false, if_false, true_and, and_true, and_self, e]
      exact h
  · intro q hq
    have h := iv.p1 q hq
    by_cases e : q = p
    · subst e
      rw [e24, e25, e26, e27, e28, e29, e32]
      simp only [stI, stO, tsI, tsO, ru, iu, ou, eq_self, Nat.reduceEqDiff, false_and, and_false, if_false, true_and, and_true, and_self, if_true, n10, cgO_n (show c < 2 ^ 31 by omega), tkO_m]
    · rw [N 24 q e (by decide) (by decide) (by decide) (by decide), N 25 q e (by decide) (by decide) (by decide) (by decide), N 26 q e (by decide) (by decide) (by decide) (by decide), N 27 q e (by decide) (by decide) (by decide) (by decide), N 28 q e (by decide) (by decide) (by decide) (by decide), N 29 q e (by decide) (by decide) (by decide) (by decide), N 32 q e (by decide) (by decide) (by decide) (by decide)]
      simp only [stI, stO, tsI, tsO, ru, iu, ou, eq_self, Nat.reduceEqDiff, false_and, and_false, if_false, true_and, and_true, and_self, e]
      exact h
  · intro q hq k hk
    have h := iv.p2 q hq k hk
    by_cases e : q = p
    · subst e
      rcases (show k = 0 ∨ k = 1 ∨ k = 2 ∨ k = 3 by omega) with rfl | rfl | rfl | rfl
      · simp only [stI, tsI, staR, begR, ru, iu, ou, eq_self, Nat.reduceEqDiff, false_and, and_false, if_false, true_and, and_true, and_self, if_true, Nat.add_zero, Nat.add_eq_left, Nat.left_eq_add, Nat.succ_ne_zero]
      · simp only [stI, tsI, staR, begR, ru, iu, ou, eq_self, Nat.reduceEqDiff, false_and, and_false, if_false, true_and, and_true, and_self, if_true, Nat.add_left_cancel_iff, Nat.add_eq_left, Nat.succ_ne_zero]
      · simp only [stI, tsI, staR, begR, ru, iu, ou, eq_self, Nat.reduceEqDiff, false_and, and_false, if_false, true_and, and_true, and_self, if_true, Nat.add_left_cancel_iff, Nat.add_eq_left, Nat.succ_ne_zero]
      · simp only [stI, tsI, staR, begR, ru, iu, ou, eq_self, Nat.reduceEqDiff, false_and, and_false, if_false, true_and, and_true, and_self, if_true, Nat.add_left_cancel_iff, Nat.add_eq_left, Nat.succ_ne_zero]
    · have h0 : ¬ 4 * q + k = 4 * p := by omega
      have h1 : ¬ 4 * q + k = 4 * p + 1 := by omega
      have h2 : ¬ 4 * q + k = 4 * p + 2 := by omega
      have h3 : ¬ 4 * q + k = 4 * p + 3 := by omega
      simp only [stI, tsI, staR, begR, ru, iu, ou, eq_self, Nat.reduceEqDiff, false_and, and_false, if_false, true_and, and_true, and_self, e, h0, h1, h2, h3]
      exact h
  · intro q hq
    by_cases e : q = p
    · subst e
      obtain ⟨lo, us, -, g2, g3, g4⟩ := (iv.c c hc).2.2.2.2.2.2.2.1
      refine ⟨Or.inr (Or.inl e24), fun _ => by rw [e32]; decide, fun _ => ⟨c, hc, e25, by rw [e17]; decide, ⟨1, 1, e26, e14, by omega, by omega, by omega⟩, ⟨0, us, e27, by rw [E10]; exact g2, by omega, by omega⟩, Or.inl ⟨e26, e28⟩⟩⟩
    · obtain ⟨h1, h2, h3⟩ := iv.p3 q hq
      rw [N 24 q e (by decide) (by decide) (by decide) (by decide), N 25 q e (by decide) (by decide) (by decide) (by decide), N 26 q e (by decide) (by decide) (by decide) (by decide), N 27 q e (by decide) (by decide) (by decide) (by decide), N 28 q e (by decide) (by decide) (by decide) (by decide), N 32 q e (by decide) (by decide) (by decide) (by decide), E10]
      refine ⟨h1, h2, fun h4 => ?_⟩
      obtain ⟨c', g1, g2, g3, g4⟩ := h3 h4
      have hcc : ¬ c' = c := fun z => g3 (by rw [z]; exact h17)
      exact ⟨c', g1, g2, by rw [N17 c' hcc]; exact g3, by rw [N14 c' hcc]; exact g4⟩
  · have key : ∀ q, q < 16 → ¬ q = p → ¬ staR r p c pw f (nI 0) 24 q = 0 → ¬ staR r p c pw f (nI 0) 25 q = nI c := fun q hq e h z => by
      rw [N 24 q e (by decide) (by decide) (by decide) (by decide)] at h
      rw [N 25 q e (by decide) (by decide) (by decide) (by decide)] at z
      obtain ⟨c', g1, g2, g3⟩ := iv.oth h17 hq h
      exact g3 ((nI_eq (by omega) (by omega)).1 (g2.symm.trans z))
    intro x q hx hq h1 h2 h3 h4
    by_cases ex : x = p
    · by_cases eq : q = p
      · rw [ex, eq]
      · rw [ex, e25] at h3
        exact absurd h3.symm (key q hq eq h2)
    · by_cases eq : q = p
      · rw [eq, e25] at h3
        exact absurd h3 (key x hx ex h1)
      · rw [N 24 _ ex (by decide) (by decide) (by decide) (by decide)] at h1
        rw [N 24 _ eq (by decide) (by decide) (by decide) (by decide)] at h2
        rw [N 25 _ ex (by decide) (by decide) (by decide) (by decide), N 25 _ eq (by decide) (by decide) (by decide) (by decide)] at h3
        rw [N 26 _ ex (by decide) (by decide) (by decide) (by decide), N 26 _ eq (by decide) (by decide) (by decide) (by decide)] at h4
        exact iv.p4 x q hx hq h1 h2 h3 h4
  · intro x hx
    by_cases e : x = c
    · subst e
      exact Or.inr ⟨by rw [e17]; decide, p, hp, by simp only [stO, tsO, ru, iu, ou, eq_self, Nat.reduceEqDiff, false_and, and_false, if_false, true_and, and_true, and_self, if_true], e24, e25, e26⟩
    · rw [N17 x e]
      have ho : stO O p c 2 x 7 = O 2 x 7 := by simp only [stO, tsO, ru, iu, ou, eq_self, Nat.reduceEqDiff, false_and, and_false, if_false, true_and, and_true, and_self, e]
      rw [ho]
      rcases iv.i x hx with h | ⟨h1, q, h2, h3, h4, h5, h6⟩
      · exact Or.inl h
      · have eq : ¬ q = p := fun z => by rw [z, h24] at h4; exact absurd h4 (by decide)
        exact Or.inr ⟨h1, q, h2, h3, by rw [N 24 q eq (by decide) (by decide) (by decide) (by decide)]; exact h4, by rw [N 25 q eq (by decide) (by decide) (by decide) (by decide)]; exact h5, by rw [N 26 q eq (by decide) (by decide) (by decide) (by decide)]; exact h6⟩
  · intro q hq
    by_cases e : q = p
    · subst e
      exact ⟨0, by omega, e29, fun _ => rfl, fun k hk => absurd hk (by omega)⟩
    · obtain ⟨m, h1, h2, h3, h4⟩ := iv.h q hq
      refine ⟨m, h1, by rw [N 29 q e (by decide) (by decide) (by decide) (by decide)]; exact h2, by rw [N 24 q e (by decide) (by decide) (by decide) (by decide)]; exact h3, fun k hk => ?_⟩
      obtain ⟨g, g1, g2, g3, s', g4, g5, g6⟩ := h4 k hk
      exact ⟨g, g1, by rw [N30 _ (by omega)]; exact g2, by simp only [stO, tsO, ru, iu, ou, eq_self, Nat.reduceEqDiff, false_and, and_false, if_false, true_and, and_true, and_self]; exact g3, s', g4, by rw [E36]; exact g5, by rw [hge]; exact g6⟩
theorem staR_h {p c n : Nat} {pw : Int32} : ru (ru (staR r p c pw (nI n) (nI 0)) 29 p (nI (0 + 1))) 30 (3 * p + 0) (nI n) = staR r p c pw (nI n) (nI 1) := by
  funext a i
  simp only [staR, ru, Nat.zero_add, Nat.add_zero]
  by_cases h1 : a = 30 ∧ i = 3 * p
  · simp only [h1, and_self, if_true]
  · by_cases h2 : a = 29 ∧ i = p
    · simp only [h2, and_self, if_true]
    · simp only [h1, h2, if_false]
theorem iv_start (iv : IV I O r C t mp) {p c : Nat} {pw f : Int32} {fo : Option Nat} (hp : p < 16) (hc : c < C) (h24 : r 24 p = 0) (h17 : r 17 c = 0) (h3 : (f = -1 ∧ fo = none) ∨ ∃ n s, n < 4 ∧ f = nI n ∧ fo = some n ∧ s ≤ 10 ∧ r 36 n = nI s ∧ WRs r n s ∧ good r n s) : IV (stI' I p c pw fo) (stO' O p c fo) (staR r p c pw f (if 0 ≤ f then nI 1 else nI 0)) C (t + 1) mp := by
  rcases h3 with ⟨rfl, rfl⟩ | ⟨n, s, hn, rfl, rfl, hs, hsn, hws, hg⟩
  · rw [if_neg (by decide)]
    exact iv_sta0 iv hp hc h24 h17
  · have h0 : (0 : Int32) ≤ nI n := nI_le (a := 0) (Nat.zero_le _) (by omega)
    rw [if_pos h0, ← staR_h]
    refine iv_hold (m := 0) (iv_sta0 iv hp hc h24 h17) hp ?_ (by decide) ?_ hn hs ?_ ?_
    · simp only [staR, begR, ru, iu, ou, eq_self, Nat.reduceEqDiff, false_and, and_false, if_false, true_and, and_true, and_self, if_true, n10, not_false_eq_true]
    · simp only [staR, begR, ru, iu, ou, eq_self, Nat.reduceEqDiff, false_and, and_false, if_false, true_and, and_true, and_self, if_true]
    · simp only [staR, begR, ru, iu, ou, eq_self, Nat.reduceEqDiff, false_and, and_false, if_false, true_and, and_true, and_self]; exact hsn
    · rw [good.eq (r' := staR r p c pw (nI n) (nI 0)) (r := r) (fun k => by simp only [staR, begR, ru, iu, ou, eq_self, Nat.reduceEqDiff, false_and, and_false, if_false, true_and, and_true, and_self])]; exact hg
theorem IV.gx (iv : IV I O r C t mp) {f : Int32} (h : f = -1 ∨ goodX r f) : ∃ fo, (f = -1 ∧ fo = none) ∨ ∃ n s, n < 4 ∧ f = nI n ∧ fo = some n ∧ s ≤ 10 ∧ r 36 n = nI s ∧ WRs r n s ∧ good r n s := by
  rcases h with h | h
  · exact ⟨none, Or.inl ⟨h, rfl⟩⟩
  · obtain ⟨n, hn, rfl⟩ := in_nI (by decide) h.1
    have hn : n < 4 := by omega
    obtain ⟨s, hs, hsn, hws, -⟩ := iv.f2 n hn
    have hg := h.2
    rw [nI_clamp (by omega), hsn, nI_clamp (by omega)] at hg
    exact ⟨some n, Or.inr ⟨n, s, hn, rfl, rfl, hs, hsn, hws, hg⟩⟩
theorem j_start (hw : wf M) (iv : IV (ig M) (og M) (rg M) C t mp) {c pw f : Int32} : Jt 5 71 [.int c, .int pw, .int f] M t := by
  by_cases h : (nI 0 ≤ c ∧ c ≤ nI C - nI 1) ∧ (nI 0 ≤ pw ∧ pw ≤ nI 255) ∧ (f = -1 ∨ goodX (rg M) f)
  · obtain ⟨c, hc, rfl⟩ := lt_sub1 iv.C4 h.1
    obtain ⟨fo, h3⟩ := iv.gx h.2.2
    obtain ⟨M1, a1, a2, a3, a4⟩ := k_start_in (d := 4) hw iv hc h.2.1 h3
    obtain ⟨M2, b1, b2, b3, b4⟩ := c_rstart_in (d := 4) (M := M1) a2 (by rw [a3]; exact iv.wg) iv.C4 (by rw [a3]; exact iv.Cn) (by rw [a3]; exact iv.wo) (by rw [a3]; exact iv.wm) (by rw [a3]; exact iv.wp) hc h.2.1 (by rw [a3]; exact h.2.2)
    rw [a3] at b1 b3
    refine ⟨M1, M2, _, C, mp, a1, b1, b2, ?_⟩
    rw [cg_ig b4, cg_og b4, b3]
    rcases a4 with ⟨rfl, e⟩ | ⟨p, g1, g2, g3, g4, g5, g6⟩
    · rw [e]; exact iv.le (by omega)
    · rw [g4, g5, g6]; exact iv_start iv g2 hc g3 g1 h3
  · exact Jt_same hw iv (fun Q => k_start_no hw iv h) (fun Q => c_rstart_no hw iv.wg (by rw [iv.Cn]; exact h))
end
