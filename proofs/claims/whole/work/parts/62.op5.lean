section
variable {d : Nat} {M : mH} {Q : Option Value → mH → Prop} {C t : Nat} {mp : MP} {I : CI} {O : CO} {r : RS}
/-! INIT ends: the cage is closed -/
def clI (I : CI) (O : CO) (c : Nat) : CI := iu (iu (iu (fun f i l => if (f = 9 ∧ (l = 1 ∨ l = 8)) ∧ (0 ≤ i ∧ i < 0 + 16) ∧ O 9 i 2 = some (37 + 10 * c) then nI 0 else I f i l) 2 c 10 (nI 0)) 5 (2 * c) 1 (nI 0)) 5 (2 * c + 1) 1 (nI 0)
def clO (O : CO) (c : Nat) : CO := ou (fun f i l => if (f = 9 ∧ (l = 2 ∨ l = 5)) ∧ (0 ≤ i ∧ i < 0 + 16) ∧ O 9 i 2 = some (37 + 10 * c) then none else O f i l) 2 c 7 none
def clR (r : RS) (c : Nat) : RS := unmt c (fun a i => if (a = 24 ∨ a = 29) ∧ (0 ≤ i ∧ i < 0 + 16) ∧ ¬ r 24 i = 0 ∧ r 25 i = nI c then nI 0 else r a i)
def clP (mp : MP) (c : Nat) : MP := (fun x => if x = c then 0 else mp.1 x, mp.2.1, mp.2.2.1, mp.2.2.2)
theorem IV.inC (iv : IV I O r C t mp) {c q : Nat} (hc : c < 4) (hq : q < 16) : (O 9 q 2 = some (37 + 10 * c)) = (¬ r 24 q = 0 ∧ r 25 q = nI c) := by
  rw [iv.p_2 hq]
  by_cases h : r 24 q = 0
  · rw [if_pos h]
    exact propext ⟨fun z => absurd z (by simp), fun z => absurd h z.1⟩
  · rw [if_neg h, cgO_iff (by omega)]
    exact propext ⟨fun z => ⟨h, z⟩, fun z => z.2⟩
theorem iv_close (iv : IV I O r C t mp) {c : Nat} (hc : c < C) : IV (clI I O c) (clO O c) (clR r c) C t (clP mp c) := by
  have hC4 := iv.C4
  have hc4 : c < 4 := by omega
  have E : ∀ a, ¬ a = 15 → ¬ a = 17 → ¬ a = 18 → ¬ a = 24 → ¬ a = 29 → clR r c a = r a := fun a h1 h2 h3 h4 h5 => by
    funext i; simp only [clR, unmt, ru, h1, h2, h3, h4, h5, false_and, or_self, if_false]
  have hr16 : ∀ q, q < 16 → (0 ≤ q ∧ q < 0 + 16) = True := fun q hq => eq_true (by omega)
  have e24k : ∀ q, q < 16 → (¬ r 24 q = 0 ∧ r 25 q = nI c) → clR r c 24 q = nI 0 := fun q hq k => by
    simp only [clR, unmt, ru, iu, ou, eq_self, Nat.reduceEqDiff, false_and, and_false, if_false, true_and, and_true, and_self, hr16 q hq, eq_true k, true_or, if_true]
  have e24n : ∀ q, q < 16 → ¬ (¬ r 24 q = 0 ∧ r 25 q = nI c) → clR r c 24 q = r 24 q := fun q hq k => by
    simp only [clR, unmt, ru, iu, ou, eq_self, Nat.reduceEqDiff, false_and, and_false, if_false, true_and, and_true, and_self, eq_false k]
  have e29k : ∀ q, q < 16 → (¬ r 24 q = 0 ∧ r 25 q = nI c) → clR r c 29 q = nI 0 := fun q hq k => by
    simp only [clR, unmt, ru, iu, ou, eq_self, Nat.reduceEqDiff, false_and, and_false, if_false, true_and, and_true, and_self, hr16 q hq, eq_true k, or_true, if_true]
  have e29n : ∀ q, q < 16 → ¬ (¬ r 24 q = 0 ∧ r 25 q = nI c) → clR r c 29 q = r 29 q := fun q hq k => by
    simp only [clR, unmt, ru, iu, ou, eq_self, Nat.reduceEqDiff, false_and, and_false, if_false, true_and, and_true, and_self, eq_false k]
  have L24 : ∀ q, q < 16 → ¬ clR r c 24 q = 0 → ¬ r 24 q = 0 ∧ ¬ (¬ r 24 q = 0 ∧ r 25 q = nI c) := fun q hq h => by
    by_cases k : ¬ r 24 q = 0 ∧ r 25 q = nI c
    · exact absurd (by rw [e24k q hq k]; decide) h
    · rw [e24n q hq k] at h; exact ⟨h, k⟩
  have e17 : ∀ x, ¬ x = c → clR r c 17 x = r 17 x := fun x h => by simp only [clR, unmt, ru, iu, ou, eq_self, Nat.reduceEqDiff, false_and, and_false, if_false, true_and, and_true, and_self, h, or_self]
  have e18 : ∀ c' j, ¬ c' = c → j < 4 → clR r c 18 (4 * c' + j) = r 18 (4 * c' + j) := fun c' j h hj => by
    have h1 : ¬ 4 * c' + j = 4 * c := by omega
    have h2 : ¬ 4 * c' + j = 4 * c + 1 := by omega
    have h3 : ¬ 4 * c' + j = 4 * c + 2 := by omega
    have h4 : ¬ 4 * c' + j = 4 * c + 3 := by omega
    simp only [clR, unmt, ru, iu, ou, eq_self, Nat.reduceEqDiff, false_and, and_false, if_false, true_and, and_true, and_self, h1, h2, h3, h4, or_self]
  have E1 := E 1 (by decide) (by decide) (by decide) (by decide) (by decide)
  have E2 := E 2 (by decide) (by decide) (by decide) (by decide) (by decide)
  have E4 := E 4 (by decide) (by decide) (by decide) (by decide) (by decide)
  have E8 := E 8 (by decide) (by decide) (by decide) (by decide) (by decide)
  have E10 := E 10 (by decide) (by decide) (by decide) (by decide) (by decide)
  have E14 := E 14 (by decide) (by decide) (by decide) (by decide) (by decide)
  have E16 := E 16 (by decide) (by decide) (by decide) (by decide) (by decide)
  have E19 := E 19 (by decide) (by decide) (by decide) (by decide) (by decide)
  have E20 := E 20 (by decide) (by decide) (by decide) (by decide) (by decide)
  have E21 := E 21 (by decide) (by decide) (by decide) (by decide) (by decide)
  have E22 := E 22 (by decide) (by decide) (by decide) (by decide) (by decide)
  have E25 := E 25 (by decide) (by decide) (by decide) (by decide) (by decide)
  have E26 := E 26 (by decide) (by decide) (by decide) (by decide) (by decide)
  have E27 := E 27 (by decide) (by decide) (by decide) (by decide) (by decide)
  have E28 := E 28 (by decide) (by decide) (by decide) (by decide) (by decide)
  have E30 := E 30 (by decide) (by decide) (by decide) (by decide) (by decide)
  have E32 := E 32 (by decide) (by decide) (by decide) (by decide) (by decide)
  have E33 := E 33 (by decide) (by decide) (by decide) (by decide) (by decide)
  have E35 := E 35 (by decide) (by decide) (by decide) (by decide) (by decide)
  have E36 := E 36 (by decide) (by decide) (by decide) (by decide) (by decide)
  have E0 := E 0 (by decide) (by decide) (by decide) (by decide) (by decide)
  refine ⟨iv.n1.cg (by simp only [clI, clO, clR, unmt, or_self, ru, iu, ou, eq_self, Nat.reduceEqDiff, false_and, and_false, if_false, true_and, and_true, and_self, implies_true]) (by simp only [clI, clO, clR, unmt, or_self, ru, iu, ou, eq_self, Nat.reduceEqDiff, false_and, and_false, if_false, true_and, and_true, and_self, implies_true]), iv.n2.cg (by simp only [clI, clO, clR, unmt, or_self, ru, iu, ou, eq_self, Nat.reduceEqDiff, false_and, and_false, if_false, true_and, and_true, and_self, implies_true]) (by simp only [clI, clO, clR, unmt, or_self, ru, iu, ou, eq_self, Nat.reduceEqDiff, false_and, and_false, if_false, true_and, and_true, and_self, implies_true]), iv.n3.cg (by simp only [clI, clO, clR, unmt, or_self, ru, iu, ou, eq_self, Nat.reduceEqDiff, false_and, and_false, if_false, true_and, and_true, and_self, implies_true]), iv.k.cg (by simp only [clI, clO, clR, unmt, or_self, ru, iu, ou, eq_self, Nat.reduceEqDiff, false_and, and_false, if_false, true_and, and_true, and_self, implies_true]) (by simp only [clI, clO, clR, unmt, or_self, ru, iu, ou, eq_self, Nat.reduceEqDiff, false_and, and_false, if_false, true_and, and_true, and_self, implies_true]), iv.c.cg (by simp only [clI, clO, clR, unmt, or_self, ru, iu, ou, eq_self, Nat.reduceEqDiff, false_and, and_false, if_false, true_and, and_true, and_self, implies_true]) (by simp only [clI, clO, clR, unmt, or_self, ru, iu, ou, eq_self, Nat.reduceEqDiff, false_and, and_false, if_false, true_and, and_true, and_self, implies_true]), iv.g.cg (by simp only [clI, clO, clR, unmt, or_self, ru, iu, ou, eq_self, Nat.reduceEqDiff, false_and, and_false, if_false, true_and, and_true, and_self, implies_true]) (by simp only [clI, clO, clR, unmt, or_self, ru, iu, ou, eq_self, Nat.reduceEqDiff, false_and, and_false, if_false, true_and, and_true, and_self, implies_true]), ?_, iv.p2.cg (by simp only [clI, clO, clR, unmt, or_self, ru, iu, ou, eq_self, Nat.reduceEqDiff, false_and, and_false, if_false, true_and, and_true, and_self, implies_true]) (by simp only [clI, clO, clR, unmt, or_self, ru, iu, ou, eq_self, Nat.reduceEqDiff, false_and, and_false, if_false, true_and, and_true, and_self, implies_true]), ?_, ?_, ?_, ?_, iv.f1.cg (by simp only [clI, clO, clR, unmt, or_self, ru, iu, ou, eq_self, Nat.reduceEqDiff, false_and, and_false, if_false, true_and, and_true, and_self, implies_true]) (by simp only [clI, clO, clR, unmt, or_self, ru, iu, ou, eq_self, Nat.reduceEqDiff, false_and, and_false, if_false, true_and, and_true, and_self, implies_true]) (by simp only [clI, clO, clR, unmt, or_self, ru, iu, ou, eq_self, Nat.reduceEqDiff, false_and, and_false, if_false, true_and, and_true, and_self, implies_true]), iv.f2.cg (by simp only [clI, clO, clR, unmt, or_self, ru, iu, ou, eq_self, Nat.reduceEqDiff, false_and, and_false, if_false, true_and, and_true, and_self, implies_true]), ?_, ?_, ?_, ?_, ?_⟩
  · intro q hq
    have h := iv.p1 q hq
    by_cases k : ¬ r 24 q = 0 ∧ r 25 q = nI c
    · rw [e24k q hq k, e29k q hq k, E26, E27, E32]
      simp only [clI, clO, ru, iu, ou, eq_self, Nat.reduceEqDiff, false_and, and_false, if_false, true_and, and_true, and_self, iv.inC hc4 hq, eq_true k, hr16 q hq, true_or, or_true, or_self, if_true, n00]
      exact ⟨h.2.1, h.2.2.1, h.2.2.2.2.1⟩
    · rw [e24n q hq k, e29n q hq k, E25, E26, E27, E28, E32]
      simp only [clI, clO, ru, iu, ou, eq_self, Nat.reduceEqDiff, false_and, and_false, if_false, true_and, and_true, and_self, iv.inC hc4 hq, eq_false k]
      exact h
  · intro q hq
    obtain ⟨h1, h2, h3⟩ := iv.p3 q hq
    by_cases k : ¬ r 24 q = 0 ∧ r 25 q = nI c
    · have e24 := e24k q hq k
      exact ⟨Or.inl (by rw [e24]; decide), fun z => absurd (e24.symm.trans z) (by decide), fun z => absurd (show clR r c 24 q = 0 by rw [e24]; decide) z⟩
    · simp only [e24n q hq k, E10, E14, E25, E26, E27, E28, E32]
      refine ⟨h1, h2, fun h4 => ?_⟩
      obtain ⟨c', g1, g2, g3, g4⟩ := h3 h4
      have hcc : ¬ c' = c := fun z => k ⟨h4, by rw [g2, z]⟩
      exact ⟨c', g1, g2, by rw [e17 c' hcc]; exact g3, g4⟩
  · intro p q hp hq h1 h2 h3 h4
    rw [E25] at h3
    rw [E26] at h4
    exact iv.p4 p q hp hq (L24 p hp h1).1 (L24 q hq h2).1 h3 h4
  · intro x hx
    by_cases e : x = c
    · subst e
      refine Or.inl ⟨?_, ?_⟩
      · simp only [clR, unmt, ru, iu, ou, eq_self, Nat.reduceEqDiff, false_and, and_false, if_false, true_and, and_true, and_self, if_true, n00]
      · simp only [clO, ru, iu, ou, eq_self, Nat.reduceEqDiff, false_and, and_false, if_false, true_and, and_true, and_self, if_true]
    · rcases iv.i x hx with ⟨h1, h2⟩ | ⟨h1, p, h2, h3, h4, h5, h6⟩
      · exact Or.inl ⟨by rw [e17 x e]; exact h1, by simp only [clO, ru, iu, ou, eq_self, Nat.reduceEqDiff, false_and, and_false, if_false, true_and, and_true, and_self, e]; exact h2⟩
      · have k : ¬ (¬ r 24 p = 0 ∧ r 25 p = nI c) := fun z => e ((nI_eq (by omega) (by omega)).1 (h5.symm.trans z.2))
        exact Or.inr ⟨by rw [e17 x e]; exact h1, p, h2, by simp only [clO, ru, iu, ou, eq_self, Nat.reduceEqDiff, false_and, and_false, if_false, true_and, and_true, and_self, e]; exact h3, by rw [e24n p h2 k]; exact h4, by rw [E25]; exact h5, by rw [E26]; exact h6⟩
  · intro q hq
    by_cases k : ¬ r 24 q = 0 ∧ r 25 q = nI c
    · exact ⟨0, by omega, e29k q hq k, fun _ => rfl, fun j hj => absurd hj (by omega)⟩
    · obtain ⟨m, h1, h2, h3, h4⟩ := iv.h q hq
      have hg : ∀ f s, good (clR r c) f s = good r f s := fun f s => good.eq (fun j => by rw [E33, E35, E36]; exact ⟨rfl, rfl, rfl⟩)
      refine ⟨m, h1, by rw [e29n q hq k]; exact h2, by rw [e24n q hq k]; exact h3, fun j hj => ?_⟩
      obtain ⟨f, g1, g2, g3, s, g4, g5, g6⟩ := h4 j hj
      exact ⟨f, g1, by rw [E30]; exact g2, by simp only [clO, ru, iu, ou, eq_self, Nat.reduceEqDiff, false_and, and_false, if_false, true_and, and_true, and_self, or_self]; exact g3, s, g4, by rw [E36]; exact g5, by rw [hg]; exact g6⟩
  · intro q hq
    by_cases e : q = 2 * c ∨ q = 2 * c + 1
    · refine ⟨0, by omega, ?_, ?_, fun j hj => absurd hj (by omega)⟩
      · rcases e with rfl | rfl
        · simp only [clR, unmt, ru, iu, ou, eq_self, Nat.reduceEqDiff, false_and, and_false, if_false, true_and, and_true, and_self, if_true, ite_self]
        · simp only [clR, unmt, ru, iu, ou, eq_self, Nat.reduceEqDiff, false_and, and_false, if_false, true_and, and_true, and_self, if_true]
      · rcases e with rfl | rfl
        · simp only [clI, ru, iu, ou, eq_self, Nat.reduceEqDiff, false_and, and_false, if_false, true_and, and_true, and_self, if_true, ite_self]
        · simp only [clI, ru, iu, ou, eq_self, Nat.reduceEqDiff, false_and, and_false, if_false, true_and, and_true, and_self, if_true]
    · have e1 : ¬ q = 2 * c := fun z => e (Or.inl z)
      have e2 : ¬ q = 2 * c + 1 := fun z => e (Or.inr z)
      obtain ⟨m, h1, h2, h3, h4⟩ := iv.q q hq
      refine ⟨m, h1, ?_, ?_, fun j hj => ?_⟩
      · simp only [clR, unmt, ru, iu, ou, eq_self, Nat.reduceEqDiff, false_and, and_false, if_false, true_and, and_true, and_self, e1, e2, or_self]; exact h2
      · simp only [clI, ru, iu, ou, eq_self, Nat.reduceEqDiff, false_and, and_false, if_false, true_and, and_true, and_self, e1, e2]; exact h3
      · rw [E16]; simp only [clI, ru, iu, ou, eq_self, Nat.reduceEqDiff, false_and, and_false, if_false, true_and, and_true, and_self]; exact h4 j hj
  · intro x hx
    obtain ⟨h1, h2, h3, h4, h5⟩ := iv.m1 x hx
    by_cases e : x = c
    · subst e
      refine ⟨by simp only [clP, if_true]; omega, fun _ => by simp only [clP, if_true], ?_, ?_, h5⟩
      · simp only [clI, clP, ru, iu, ou, eq_self, Nat.reduceEqDiff, false_and, and_false, if_false, true_and, and_true, and_self, if_true]
      · simp only [clO, ru, iu, ou, eq_self, Nat.reduceEqDiff, false_and, and_false, if_false, true_and, and_true, and_self]; exact h4
    · have ep : (clP mp c).1 x = mp.1 x := by simp only [clP, e, if_false]
      rw [ep]
      refine ⟨h1, h2, ?_, ?_, h5⟩
      · simp only [clI, ru, iu, ou, eq_self, Nat.reduceEqDiff, false_and, and_false, if_false, true_and, and_true, and_self, e]; exact h3
      · simp only [clO, ru, iu, ou, eq_self, Nat.reduceEqDiff, false_and, and_false, if_false, true_and, and_true, and_self]; exact h4
  · intro x hx i hi
    have e : ¬ x = c := fun z => by simp only [clP, z, if_true] at hi; omega
    have ep : (clP mp c).1 x = mp.1 x := by simp only [clP, e, if_false]
    rw [ep] at hi
    obtain ⟨⟨j, hj, hj2⟩, h2, h3⟩ := iv.m2 x hx i hi
    have hd : ∀ a b, Desc (clR r c) a b = Desc r a b := fun a b => Desc.eq (fun k => by rw [E2])
    have hm2 : (clP mp c).2.1 x i = mp.2.1 x i := rfl
    simp only [E1, E4, E8, E19, E20, E21, hd]
    refine ⟨⟨j, hj, hj2⟩, ?_, ?_⟩
    · rw [hm2, hj2, e18 x j e hj, ← hj2]; exact h2
    · simp only [clO, ru, iu, ou, eq_self, Nat.reduceEqDiff, false_and, and_false, if_false, true_and, and_true, and_self]; exact h3
  · obtain ⟨g, h1, h2, h3⟩ := iv.m3
    refine ⟨g, h1, by rw [E0]; exact h2, fun x hx i hi => ?_⟩
    have e : ¬ x = c := fun z => by simp only [clP, z, if_true] at hi; omega
    have ep : (clP mp c).1 x = mp.1 x := by simp only [clP, e, if_false]
    rw [ep] at hi
    rw [E22]
    exact h3 x hx i hi
  · intro s hs h
    by_cases e : s / 4 = c
    · refine absurd ?_ h
      have h0 : s = 4 * c ∨ s = 4 * c + 1 ∨ s = 4 * c + 2 ∨ s = 4 * c + 3 := by omega
      rcases h0 with h0 | h0 | h0 | h0
      · subst h0
        simp only [clR, unmt, ru, iu, ou, eq_self, Nat.reduceEqDiff, false_and, and_false, if_false, true_and, and_true, and_self, if_true, ite_self, n00]
      · subst h0
        simp only [clR, unmt, ru, iu, ou, eq_self, Nat.reduceEqDiff, false_and, and_false, if_false, true_and, and_true, and_self, if_true, ite_self, n00]
      · subst h0
        simp only [clR, unmt, ru, iu, ou, eq_self, Nat.reduceEqDiff, false_and, and_false, if_false, true_and, and_true, and_self, if_true, ite_self, n00]
      · subst h0
        simp only [clR, unmt, ru, iu, ou, eq_self, Nat.reduceEqDiff, false_and, and_false, if_false, true_and, and_true, and_self, if_true, n00]
    · have hs4 : s = 4 * (s / 4) + s % 4 := by omega
      rw [hs4, e18 (s / 4) (s % 4) e (by omega), ← hs4] at h
      obtain ⟨x, i, h1, h2, h3⟩ := iv.m4 s hs h
      have hx := pos_lt iv.m2 h1 h2
      have e' : ¬ x = c := fun z => by omega
      exact ⟨x, i, h1, by simp only [clP, e', if_false]; exact h2, h3⟩
/-! another ends -/
def zoI (I : CI) (p : Nat) (how : Int32) : CI := iu (iu I 9 p 1 (nI 2)) 9 p 9 how
def zoO (O : CO) (p : Nat) (o : Option Nat) : CO := fun f i l => if (f = 9 ∧ l = 5) ∧ (0 ≤ i ∧ i < 0 + 16) ∧ O 9 i 5 = some (78 + 3 * p) then o else O f i l
def zo1 (r : RS) (p : Nat) (how : Int32) : RS := ru (ru r 24 p (nI 2)) 32 p how
def zoR (r : RS) (p : Nat) (one how : Int32) : RS := fun a i => if a = 28 ∧ (0 ≤ i ∧ i < 0 + 16) ∧ ¬ zo1 r p how 24 i = 0 ∧ zo1 r p how 28 i = nI p then one else zo1 r p how a i
theorem iv_zombie (iv : IV I O r C t mp) {p p0 : Nat} {how : Int32} (hp : p < 16) (h24 : r 24 p = nI 1) (h26 : ¬ r 26 p = nI 1) (hp0 : p0 < 16) : IV (zoI I p how) (zoO O p (some (78 + 3 * p0))) (zoR r p (nI p0) how) C t mp := by
  have hr16 : ∀ q, q < 16 → (0 ≤ q ∧ q < 0 + 16) = True := fun q hq => eq_true (by omega)
  have z24 : ∀ q, (zoR r p (nI p0) how 24 q = 0) = (r 24 q = 0) := fun q => by
    by_cases e : q = p
    · subst e
      simp only [zoR, zo1, ru, iu, ou, eq_self, Nat.reduceEqDiff, false_and, and_false, if_false, true_and, and_true, and_self, if_true, h24]
      exact propext ⟨fun z => absurd z (by decide), fun z => absurd z (by decide)⟩
    · simp only [zoR, zo1, ru, iu, ou, eq_self, Nat.reduceEqDiff, false_and, and_false, if_false, true_and, and_true, and_self, e]
  have w24 : ∀ q, (zo1 r p how 24 q = 0) = (r 24 q = 0) := fun q => by
    by_cases e : q = p
    · subst e
      simp only [zo1, ru, iu, ou, eq_self, Nat.reduceEqDiff, false_and, and_false, if_false, true_and, and_true, and_self, if_true, h24]
      exact propext ⟨fun z => absurd z (by decide), fun z => absurd z (by decide)⟩
    · simp only [zo1, ru, iu, ou, eq_self, Nat.reduceEqDiff, false_and, and_false, if_false, true_and, and_true, and_self, e]
  have w28 : ∀ q, zo1 r p how 28 q = r 28 q := fun q => by simp only [zo1, ru, iu, ou, eq_self, Nat.reduceEqDiff, false_and, and_false, if_false, true_and, and_true, and_self]
  have e24 : ∀ q, ¬ q = p → zoR r p (nI p0) how 24 q = r 24 q := fun q e => by simp only [zoR, zo1, ru, iu, ou, eq_self, Nat.reduceEqDiff, false_and, and_false, if_false, true_and, and_true, and_self, e]
  have e32 : ∀ q, ¬ q = p → zoR r p (nI p0) how 32 q = r 32 q := fun q e => by simp only [zoR, zo1, ru, iu, ou, eq_self, Nat.reduceEqDiff, false_and, and_false, if_false, true_and, and_true, and_self, e]
  have E : ∀ a, ¬ a = 28 → ¬ a = 24 → ¬ a = 32 → zoR r p (nI p0) how a = r a := fun a h1 h2 h3 => by
    funext i; simp only [zoR, zo1, ru, h1, h2, h3, false_and, if_false]
  have E10 := E 10 (by decide) (by decide) (by decide)
  have E14 := E 14 (by decide) (by decide) (by decide)
  have E17 := E 17 (by decide) (by decide) (by decide)
  have E25 := E 25 (by decide) (by decide) (by decide)
  have E26 := E 26 (by decide) (by decide) (by decide)
  have E27 := E 27 (by decide) (by decide) (by decide)
  have E29 := E 29 (by decide) (by decide) (by decide)
  have E30 := E 30 (by decide) (by decide) (by decide)
  have E33 := E 33 (by decide) (by decide) (by decide)
  have E35 := E 35 (by decide) (by decide) (by decide)
  have E36 := E 36 (by decide) (by decide) (by decide)
  have k28 : ∀ q, q < 16 → (¬ r 24 q = 0 ∧ r 28 q = nI p) → zoR r p (nI p0) how 28 q = nI p0 := fun q hq k => by
    simp only [zoR, w24, w28, hr16 q hq, eq_true k, and_self, if_true]
  have n28 : ∀ q, q < 16 → ¬ (¬ r 24 q = 0 ∧ r 28 q = nI p) → zoR r p (nI p0) how 28 q = r 28 q := fun q hq k => by
    simp only [zoR, w24, w28, eq_false k, and_false, if_false]
  have o5 : ∀ q, q < 16 → (O 9 q 5 = some (78 + 3 * p)) = (¬ r 24 q = 0 ∧ r 28 q = nI p) := fun q hq => by
    rw [iv.p_5 hq]
    by_cases h : r 24 q = 0
    · rw [if_pos h]
      exact propext ⟨fun z => absurd z (by simp), fun z => absurd h z.1⟩
    · rw [if_neg h, tkO_iff (by omega)]
      exact propext ⟨fun z => ⟨h, z⟩, fun z => z.2⟩
  refine ⟨iv.n1.cg (by simp only [zoI, zoO, zoR, zo1, ru, iu, ou, eq_self, Nat.reduceEqDiff, false_and, and_false, if_false, true_and, and_true, and_self, implies_true]) (by simp only [zoI, zoO, zoR, zo1, ru, iu, ou, eq_self, Nat.reduceEqDiff, false_and, and_false, if_false, true_and, and_true, and_self, implies_true]), iv.n2.cg (by simp only [zoI, zoO, zoR, zo1, ru, iu, ou, eq_self, Nat.reduceEqDiff, false_and, and_false, if_false, true_and, and_true, and_self, implies_true]) (by simp only [zoI, zoO, zoR, zo1, ru, iu, ou, eq_self, Nat.reduceEqDiff, false_and, and_false, if_false, true_and, and_true, and_self, implies_true]), iv.n3.cg (by simp only [zoI, zoO, zoR, zo1, ru, iu, ou, eq_self, Nat.reduceEqDiff, false_and, and_false, if_false, true_and, and_true, and_self, implies_true]), iv.k.cg (by simp only [zoI, zoO, zoR, zo1, ru, iu, ou, eq_self, Nat.reduceEqDiff, false_and, and_false, if_false, true_and, and_true, and_self, implies_true]) (by simp only [zoI, zoO, zoR, zo1, ru, iu, ou, eq_self, Nat.reduceEqDiff, false_and, and_false, if_false, true_and, and_true, and_self, implies_true]), iv.c.cg (by simp only [zoI, zoO, zoR, zo1, ru, iu, ou, eq_self, Nat.reduceEqDiff, false_and, and_false, if_false, true_and, and_true, and_self, implies_true]) (by simp only [zoI, zoO, zoR, zo1, ru, iu, ou, eq_self, Nat.reduceEqDiff, false_and, and_false, if_false, true_and, and_true, and_self, implies_true]), iv.g.cg (by simp only [zoI, zoO, zoR, zo1, ru, iu, ou, eq_self, Nat.reduceEqDiff, false_and, and_false, if_false, true_and, and_true, and_self, implies_true]) (by simp only [zoI, zoO, zoR, zo1, ru, iu, ou, eq_self, Nat.reduceEqDiff, false_and, and_false, if_false, true_and, and_true, and_self, implies_true]), ?_, iv.p2.cg (by simp only [zoI, zoO, zoR, zo1, ru, iu, ou, eq_self, Nat.reduceEqDiff, false_and, and_false, if_false, true_and, and_true, and_self, implies_true]) (by simp only [zoI, zoO, zoR, zo1, ru, iu, ou, eq_self, Nat.reduceEqDiff, false_and, and_false, if_false, true_and, and_true, and_self, implies_true]), ?_, ?_, ?_, ?_, iv.f1.cg (by simp only [zoI, zoO, zoR, zo1, ru, iu, ou, eq_self, Nat.reduceEqDiff, false_and, and_false, if_false, true_and, and_true, and_self, implies_true]) (by simp only [zoI, zoO, zoR, zo1, ru, iu, ou, eq_self, Nat.reduceEqDiff, false_and, and_false, if_false, true_and, and_true, and_self, implies_true]) (by simp only [zoI, zoO, zoR, zo1, ru, iu, ou, eq_self, Nat.reduceEqDiff, false_and, and_false, if_false, true_and, and_true, and_self, implies_true]), iv.f2.cg (by simp only [zoI, zoO, zoR, zo1, ru, iu, ou, eq_self, Nat.reduceEqDiff, false_and, and_false, if_false, true_and, and_true, and_self, implies_true]), iv.q.cg (by simp only [zoI, zoO, zoR, zo1, ru, iu, ou, eq_self, Nat.reduceEqDiff, false_and, and_false, if_false, true_and, and_true, and_self, implies_true]) (by simp only [zoI, zoO, zoR, zo1, ru, iu, ou, eq_self, Nat.reduceEqDiff, false_and, and_false, if_false, true_and, and_true, and_self, implies_true]) (by simp only [zoI, zoO, zoR, zo1, ru, iu, ou, eq_self, Nat.reduceEqDiff, false_and, and_false, if_false, true_and, and_true, and_self, implies_true]), iv.m1.cg (by simp only [zoI, zoO, zoR, zo1, ru, iu, ou, eq_self, Nat.reduceEqDiff, false_and, and_false, if_false, true_and, and_true, and_self, implies_true]) (by simp only [zoI, zoO, zoR, zo1, ru, iu, ou, eq_self, Nat.reduceEqDiff, false_and, and_false, if_false, true_and, and_true, and_self, implies_true]), iv.m2.cg (by simp only [zoI, zoO, zoR, zo1, ru, iu, ou, eq_self, Nat.reduceEqDiff, false_and, and_false, if_false, true_and, and_true, and_self, implies_true]) (by simp only [zoI, zoO, zoR, zo1, ru, iu, ou, eq_self, Nat.reduceEqDiff, false_and, and_false, if_false, true_and, and_true, and_self, implies_true]), iv.m3.cg (by simp only [zoI, zoO, zoR, zo1, ru, iu, ou, eq_self, Nat.reduceEqDiff, false_and, and_false, if_false, true_and, and_true, and_self, implies_true]) (by simp only [zoI, zoO, zoR, zo1, ru, iu, ou, eq_self, Nat.reduceEqDiff, false_and, and_false, if_false, true_and, and_true, and_self, implies_true]), iv.m4.cg (by simp only [zoI, zoO, zoR, zo1, ru, iu, ou, eq_self, Nat.reduceEqDiff, false_and, and_false, if_false, true_and, and_true, and_self, implies_true])⟩
  · intro q hq
    obtain ⟨h1, h2, h3, h4, h5, h6, h7⟩ := iv.p1 q hq
    simp only [z24, E25, E26, E27, E29]
    refine ⟨?_, by simp only [zoI, ru, iu, ou, eq_self, Nat.reduceEqDiff, false_and, and_false, if_false, true_and, and_true, and_self]; exact h2, by simp only [zoI, ru, iu, ou, eq_self, Nat.reduceEqDiff, false_and, and_false, if_false, true_and, and_true, and_self]; exact h3, by simp only [zoI, ru, iu, ou, eq_self, Nat.reduceEqDiff, false_and, and_false, if_false, true_and, and_true, and_self]; exact h4, ?_, by simp only [zoO, ru, iu, ou, eq_self, Nat.reduceEqDiff, false_and, and_false, if_false, true_and, and_true, and_self]; exact h6, ?_⟩
    · by_cases e : q = p
      · subst e; simp only [zoI, zoR, zo1, ru, iu, ou, eq_self, Nat.reduceEqDiff, false_and, and_false, if_false, true_and, and_true, and_self, if_true]
      · rw [e24 q e]; simp only [zoI, ru, iu, ou, eq_self, Nat.reduceEqDiff, false_and, and_false, if_false, true_and, and_true, and_self, e]; exact h1
    · by_cases e : q = p
      · subst e; simp only [zoI, zoR, zo1, ru, iu, ou, eq_self, Nat.reduceEqDiff, false_and, and_false, if_false, true_and, and_true, and_self, if_true]
      · rw [e32 q e]; simp only [zoI, ru, iu, ou, eq_self, Nat.reduceEqDiff, false_and, and_false, if_false, true_and, and_true, and_self, e]; exact h5
    · by_cases k : ¬ r 24 q = 0 ∧ r 28 q = nI p
      · rw [k28 q hq k, if_neg k.1, tkO_n (by omega)]
        simp only [zoO, o5 q hq, eq_true k, hr16 q hq, and_self, if_true]
      · rw [n28 q hq k]
        simp only [zoO, o5 q hq, eq_false k, and_false, if_false]
        exact h7
  · intro q hq
    obtain ⟨h1, h2, h3⟩ := iv.p3 q hq
    simp only [z24, E10, E14, E17, E25, E26, E27]
    refine ⟨?_, ?_, fun h4 => ?_⟩
    · by_cases e : q = p
      · subst e; exact Or.inr (Or.inr (by simp only [zoR, zo1, ru, iu, ou, eq_self, Nat.reduceEqDiff, false_and, and_false, if_false, true_and, and_true, and_self, if_true]))
      · rw [e24 q e]; exact h1
    · by_cases e : q = p
      · subst e; exact fun z => absurd (show nI 2 = nI 1 by simp only [zoR, zo1, ru, iu, ou, eq_self, Nat.reduceEqDiff, false_and, and_false, if_false, true_and, and_true, and_self, if_true] at z; exact z) (by decide)
      · rw [e24 q e, e32 q e]; exact h2
    · obtain ⟨c, g1, g2, g3, g4, g5, g6⟩ := h3 h4
      refine ⟨c, g1, g2, g3, g4, g5, ?_⟩
      by_cases k : ¬ r 24 q = 0 ∧ r 28 q = nI p
      · rw [k28 q hq k]
        rcases g6 with ⟨-, g6⟩ | ⟨g6, -⟩
        · exact absurd (g6.symm.trans k.2) (m1ne (by omega))
        · exact Or.inr ⟨g6, p0, hp0, rfl⟩
      · rw [n28 q hq k]; exact g6
  · intro x q hx hq h1 h2 h3 h4
    rw [z24] at h1 h2
    rw [E25] at h3
    rw [E26] at h4
    exact iv.p4 x q hx hq h1 h2 h3 h4
  · intro x hx
    rw [E17]
    have ho : zoO O p (some (78 + 3 * p0)) 2 x 7 = O 2 x 7 := by simp only [zoO, ru, iu, ou, eq_self, Nat.reduceEqDiff, false_and, and_false, if_false, true_and, and_true, and_self]
    rw [ho]
    rcases iv.i x hx with h | ⟨h1, q, h2, h3, h4, h5, h6⟩
    · exact Or.inl h
    · have e : ¬ q = p := fun z => h26 (by rw [← z]; exact h6)
      exact Or.inr ⟨h1, q, h2, h3, by rw [e24 q e]; exact h4, by rw [E25]; exact h5, by rw [E26]; exact h6⟩
  · intro q hq
    obtain ⟨m, h1, h2, h3, h4⟩ := iv.h q hq
    have hg : ∀ f s, good (zoR r p (nI p0) how) f s = good r f s := fun f s => good.eq (fun j => by rw [E33, E35, E36]; exact ⟨rfl, rfl, rfl⟩)
    refine ⟨m, h1, by rw [E29]; exact h2, by rw [z24]; exact h3, fun j hj => ?_⟩
    obtain ⟨f, g1, g2, g3, s, g4, g5, g6⟩ := h4 j hj
    exact ⟨f, g1, by rw [E30]; exact g2, by simp only [zoO, ru, iu, ou, eq_self, Nat.reduceEqDiff, false_and, and_false, if_false, true_and, and_true, and_self]; exact g3, s, g4, by rw [E36]; exact g5, by rw [hg]; exact g6⟩
theorem k_finish (hw : wf M) (iv : IV (ig M) (og M) r C t mp) {p c : Nat} {code : Int32} (hp : p < 16) (h24 : r 24 p = nI 1) (hpc : r 25 p = nI c) (hc : c < C) : ∃ M' mp', (∀ Q, Vc (d + 2) 30 [rf (some 1), rf (some (78 + 3 * p)), .int code] M Q = Q none M') ∧ wf M' ∧ rg M' = rg M ∧ IV (ig M') (og M') (endR r p c code) C t mp' := by
  have hC4 := iv.C4
  have hc4 : c < 4 := by omega
  have hn : ¬ r 24 p = 0 := by rw [h24]; decide
  obtain ⟨c', g1, g2, g3, g4, g5, g6⟩ := (iv.p3 p hp).2.2 hn
  obtain rfl : c' = c := (nI_eq (by omega) (by omega)).1 (g2.symm.trans hpc)
  have o2 : og M 9 p 2 = some (37 + 10 * c') := by rw [iv.p_2 hp, if_neg hn, hpc, cgO_n (by omega)]
  rcases g6 with ⟨k1, k2⟩ | ⟨k1, q, k2, k3⟩
  · have o5 : og M 9 p 5 = none := by rw [iv.p_5 hp, if_neg hn, k2, tkO_m]
    obtain ⟨M', a1, a2, a3, a4, a5⟩ := k_closeCage (d := d) hw hc4
    refine ⟨M', clP mp c', fun Q => ?_, a2, a3, ?_⟩
    · show V (d + 2) 30 0 [some (rf (some 1)), some (rf (some (78 + 3 * p))), some (.int code), none] [] M Q = _
      simp only [s_30_0, s_30_1, s_30_4, s_30_7, s_30_8, s_30_9, s_30_12, s_30_15, eq_self, Nat.reduceLT, Nat.reduceLeDiff, Nat.reduceMod, Nat.reduceDiv, Nat.reduceAdd, Nat.reduceMul, Option.toList_some, Option.toList_none, List.cons_append, List.nil_append, List.append_nil, n10, n00, if_true, if_false, b0, b1, nI_add, true_and, and_true, and_self, sh_1, sh_2, sh_3, sh_36, sh_77, sh_126, k_1_0, k_1_1, k_1_2, k_1_3, k_1_4, k_1_5, k_2_0, sh_node, sh_cage, sh_cmts, sh_mrow, sh_que, sh_qv, sh_task, sh_tpow, sh_thld, sh_filt, sh_fop, sh_ffs, sh_fsc, sh_walk, ka_nodes, ka_cages, ka_tasks, ka_filts, kf_node_0, kf_cage_0, kf_cage_9, kf_task_0, kf_task_6, kf_task_7, kf_filt_0, kf_filt_1, kf_filt_2, kf_que, kf_cage_11, kf_cage_12, gi_K, gi_node1, gr_node, gi_cage1, gr_cage1, gr_cmts, gi_task1, gr_task1, gi_tpow, gr_thld, gi_filt, gi_fop, gi_ffs, gi_fsc, gr_walk, gr_mrow, gi_que, gi_qv, hw, hp, o5, o2, a1]
    · have e : endR r p c' code = clR r c' := by
        unfold endR; rw [init_find iv hp hn hpc k1, if_pos rfl, clear_eq]; rfl
      rw [e, a4, a5]
      exact iv_close iv hc
  · have o5 : og M 9 p 5 = some (78 + 3 * q) := by rw [iv.p_5 hp, if_neg hn, k3, tkO_n (by omega)]
    rcases iv.i c' hc4 with ⟨i1, -⟩ | ⟨-, p0, i2, i3, i4, i5, i6⟩
    · exact absurd i1 g3
    · have w1 := C_task_1 hw hp (x := nI 2)
      have w2 := C_task_9 w1.w hp (x := code)
      obtain ⟨M', a1, a2, a3, a4, a5⟩ := k_zombie_l (d := d + 2) hp hc4 (o := some (78 + 3 * p0)) (code := code) 16 0 _ w2.w rfl (by rw [w2.o, w1.o]; exact o2) (by rw [w2.o, w1.o]; exact i3)
      refine ⟨M', mp, fun Q => ?_, a2, by rw [a3, w2.r, w1.r], ?_⟩
      · show V (d + 2) 30 0 [some (rf (some 1)), some (rf (some (78 + 3 * p))), some (.int code), none] [] M Q = _
        simp only [s_30_0, s_30_1, s_30_4, s_30_16, s_30_17, s_30_18, s_30_21, s_30_22, s_30_23, s_30_26, s_30_27, eq_self, Nat.reduceLT, Nat.reduceLeDiff, Nat.reduceMod, Nat.reduceDiv, Nat.reduceAdd, Nat.reduceMul, Option.toList_some, Option.toList_none, List.cons_append, List.nil_append, List.append_nil, n10, n00, if_true, if_false, b0, b1, nI_add, true_and, and_true, and_self, sh_1, sh_2, sh_3, sh_36, sh_77, sh_126, k_1_0, k_1_1, k_1_2, k_1_3, k_1_4, k_1_5, k_2_0, sh_node, sh_cage, sh_cmts, sh_mrow, sh_que, sh_qv, sh_task, sh_tpow, sh_thld, sh_filt, sh_fop, sh_ffs, sh_fsc, sh_walk, ka_nodes, ka_cages, ka_tasks, ka_filts, kf_node_0, kf_cage_0, kf_cage_9, kf_task_0, kf_task_6, kf_task_7, kf_filt_0, kf_filt_1, kf_filt_2, kf_que, kf_cage_11, kf_cage_12, gi_K, gi_node1, gr_node, gi_cage1, gr_cage1, gr_cmts, gi_task1, gr_task1, gi_tpow, gr_thld, gi_filt, gi_fop, gi_ffs, gi_fsc, gr_walk, gr_mrow, gi_que, gi_qv, hw, hp, o5, so_no, w1.w, a1]
      · have e : endR r p c' code = zoR r p (nI p0) code := by
          have hi := init_find iv i2 (by rw [i4]; decide) i5 i6
          have hne : ¬ p0 = p := fun z => k1 (by rw [← z]; exact i6)
          unfold endR
          rw [hi, if_neg (fun z => hne (Option.some.inj z)), repar_eq]
          rfl
        rw [e, a4, a5, w2.i, w1.i, w2.o, w1.o]
        exact iv_zombie iv hp h24 k1 i2
theorem k_kill_no (hw : wf M) (iv : IV (ig M) (og M) r C t mp) {x : Int32} (h : ¬ ((nI 0 ≤ x ∧ x ≤ nI 15) ∧ r 24 x.toNatClampNeg = nI 1)) : Vc (d + 2) 7 [rf (some 1), .int x] M Q = Q (some (.int (nI 0))) M := by
  show V (d + 2) 7 0 [some (rf (some 1)), some (.int x), none] [] M Q = _
  by_cases h1 : nI 0 ≤ x ∧ x ≤ nI 15
  · obtain ⟨n, hn, rfl⟩ := in_nI (by decide) h1
    have h2 : ¬ r 24 n = nI 1 := fun z => h ⟨h1, by rw [nI_clamp (by omega)]; exact z⟩
    simp only [s_7_0, s_7_1, s_7_2, s_7_5, s_7_6, s_7_7, s_7_10, s_7_11, eq_self, Nat.reduceLT, Nat.reduceLeDiff, Nat.reduceMod, Nat.reduceDiv, Nat.reduceAdd, Nat.reduceMul, Option.toList_some, Option.toList_none, List.cons_append, List.nil_append, List.append_nil, n10, n00, if_true, if_false, b0, b1, nI_add, true_and, and_true, and_self, sh_1, sh_2, sh_3, sh_36, sh_77, sh_126, k_1_0, k_1_1, k_1_2, k_1_3, k_1_4, k_1_5, k_2_0, sh_node, sh_cage, sh_cmts, sh_mrow, sh_que, sh_qv, sh_task, sh_tpow, sh_thld, sh_filt, sh_fop, sh_ffs, sh_fsc, sh_walk, ka_nodes, ka_cages, ka_tasks, ka_filts, kf_node_0, kf_cage_0, kf_cage_9, kf_task_0, kf_task_6, kf_task_7, kf_filt_0, kf_filt_1, kf_filt_2, kf_que, kf_cage_11, kf_cage_12, gi_K, gi_node1, gr_node, gi_cage1, gr_cage1, gr_cmts, gi_task1, gr_task1, gi_tpow, gr_thld, gi_filt, gi_fop, gi_ffs, gi_fsc, gr_walk, gr_mrow, gi_que, gi_qv, hw, k_liveTask_in hw iv (show n < 16 by omega), h2]
  · simp only [s_7_0, s_7_1, s_7_2, s_7_5, s_7_6, s_7_7, s_7_10, s_7_11, eq_self, Nat.reduceLT, Nat.reduceLeDiff, Nat.reduceMod, Nat.reduceDiv, Nat.reduceAdd, Nat.reduceMul, Option.toList_some, Option.toList_none, List.cons_append, List.nil_append, List.append_nil, n10, n00, if_true, if_false, b0, b1, nI_add, true_and, and_true, and_self, sh_1, sh_2, sh_3, sh_36, sh_77, sh_126, k_1_0, k_1_1, k_1_2, k_1_3, k_1_4, k_1_5, k_2_0, sh_node, sh_cage, sh_cmts, sh_mrow, sh_que, sh_qv, sh_task, sh_tpow, sh_thld, sh_filt, sh_fop, sh_ffs, sh_fsc, sh_walk, ka_nodes, ka_cages, ka_tasks, ka_filts, kf_node_0, kf_cage_0, kf_cage_9, kf_task_0, kf_task_6, kf_task_7, kf_filt_0, kf_filt_1, kf_filt_2, kf_que, kf_cage_11, kf_cage_12, gi_K, gi_node1, gr_node, gi_cage1, gr_cage1, gr_cmts, gi_task1, gr_task1, gi_tpow, gr_thld, gi_filt, gi_fop, gi_ffs, gi_fsc, gr_walk, gr_mrow, gi_que, gi_qv, hw, k_liveTask_out hw h1]
theorem k_kill_in (hw : wf M) (iv : IV (ig M) (og M) r C t mp) {p : Nat} (hp : p < 16) (h24 : r 24 p = nI 1) {M1 : mH} (h : ∀ Q, Vc (d + 2) 30 [rf (some 1), rf (some (78 + 3 * p)), .int (nI 137)] M Q = Q none M1) : Vc (d + 3) 7 [rf (some 1), .int (nI p)] M Q = Q (some (.int (nI 1))) M1 := by
  show V (d + 3) 7 0 [some (rf (some 1)), some (.int (nI p)), none] [] M Q = _
  simp only [s_7_0, s_7_1, s_7_2, s_7_5, s_7_6, s_7_7, s_7_12, s_7_13, s_7_14, s_7_17, s_7_20, s_7_21, eq_self, Nat.reduceLT, Nat.reduceLeDiff, Nat.reduceMod, Nat.reduceDiv, Nat.reduceAdd, Nat.reduceMul, Option.toList_some, Option.toList_none, List.cons_append, List.nil_append, List.append_nil, n10, n00, if_true, if_false, b0, b1, nI_add, true_and, and_true, and_self, sh_1, sh_2, sh_3, sh_36, sh_77, sh_126, k_1_0, k_1_1, k_1_2, k_1_3, k_1_4, k_1_5, k_2_0, sh_node, sh_cage, sh_cmts, sh_mrow, sh_que, sh_qv, sh_task, sh_tpow, sh_thld, sh_filt, sh_fop, sh_ffs, sh_fsc, sh_walk, ka_nodes, ka_cages, ka_tasks, ka_filts, kf_node_0, kf_cage_0, kf_cage_9, kf_task_0, kf_task_6, kf_task_7, kf_filt_0, kf_filt_1, kf_filt_2, kf_que, kf_cage_11, kf_cage_12, gi_K, gi_node1, gr_node, gi_cage1, gr_cage1, gr_cmts, gi_task1, gr_task1, gi_tpow, gr_thld, gi_filt, gi_fop, gi_ffs, gi_fsc, gr_walk, gr_mrow, gi_que, gi_qv, hw, k_liveTask_in hw iv hp, h24, so_no, h]
theorem j_kill (hw : wf M) (iv : IV (ig M) (og M) (rg M) C t mp) {x : Int32} : Jt 7 74 [.int x] M t := by
  by_cases h : (nI 0 ≤ x ∧ x ≤ nI 15) ∧ rg M 24 x.toNatClampNeg = nI 1
  · obtain ⟨p, hp, rfl⟩ := in_nI (by decide) h.1
    have hp : p < 16 := by omega
    have h24 := h.2
    rw [nI_clamp (by omega)] at h24
    have hn : ¬ rg M 24 p = 0 := by rw [h24]; decide
    obtain ⟨c, g1, g2, -⟩ := (iv.p3 p hp).2.2 hn
    have hC4 := iv.C4
    obtain ⟨M1, mp', a1, a2, a3, a4⟩ := k_finish (d := 4) (code := nI 137) hw iv hp h24 g2 g1
    obtain ⟨M2, b1, b2, b3, b4⟩ := c_rkill_in (d := 5) a2 hp (show c < 4 by omega) (by rw [a3]; exact g2) (by rw [a3]; exact h24)
    refine ⟨M1, M2, nI 1, C, mp', fun Q => k_kill_in (d := 4) hw iv hp h24 a1, b1, b2, ?_⟩
    rw [cg_ig b4, cg_og b4, b3, a3]
    exact a4.le (by omega)
  · exact Jt_same hw iv (fun Q => k_kill_no hw iv h) (fun Q => c_rkill_no hw h)
end
