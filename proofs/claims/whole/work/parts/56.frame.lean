/-! a group of the invariant reads these rows alone -/
section
variable {I I' : CI} {O O' : CO} {r r' : RS} {C t : Nat} {mp : MP}
theorem gN1.cg (h : gN1 I r) (e : ∀ k, r' 1 k = r 1 k ∧ r' 4 k = r 4 k ∧ r' 3 k = r 3 k ∧ r' 5 k = r 5 k ∧ r' 6 k = r 6 k) (f : ∀ i, I' 1 i 1 = I 1 i 1 ∧ I' 1 i 2 = I 1 i 2 ∧ I' 1 i 3 = I 1 i 3 ∧ I' 1 i 4 = I 1 i 4 ∧ I' 1 i 5 = I 1 i 5) : gN1 I' r' := by
  unfold gN1
  simp only [e, f]
  exact h
theorem gN2.cg (h : gN2 O r C) (e : ∀ k, r' 1 k = r 1 k ∧ r' 2 k = r 2 k ∧ r' 4 k = r 4 k ∧ r' 5 k = r 5 k ∧ r' 7 k = r 7 k) (f : ∀ i, O' 1 i 6 = O 1 i 6 ∧ O' 1 i 7 = O 1 i 7) : gN2 O' r' C := by
  unfold gN2
  simp only [e, f]
  exact h
theorem gN3.cg (h : gN3 r) (e : ∀ k, r' 1 k = r 1 k ∧ r' 2 k = r 2 k ∧ r' 4 k = r 4 k ∧ r' 7 k = r 7 k) : gN3 r' := by
  unfold gN3
  simp only [e]
  exact h
theorem gC.cg (h : gC I O r C) (e : ∀ k, r' 8 k = r 8 k ∧ r' 9 k = r 9 k ∧ r' 10 k = r 10 k ∧ r' 11 k = r 11 k ∧ r' 12 k = r 12 k ∧ r' 13 k = r 13 k ∧ r' 1 k = r 1 k ∧ r' 4 k = r 4 k) (f : ∀ i, I' 2 i 2 = I 2 i 2 ∧ I' 2 i 3 = I 2 i 3 ∧ I' 2 i 4 = I 2 i 4 ∧ I' 2 i 5 = I 2 i 5 ∧ O' 2 i 1 = O 2 i 1 ∧ O' 2 i 6 = O 2 i 6) : gC I' O' r' C := by
  unfold gC
  simp only [e, f]
  exact h
theorem gG.cg (h : gG I r t) (e : ∀ k, r' 14 k = r 14 k) (f : ∀ i, I' 2 i 8 = I 2 i 8) : gG I' r' t := by
  unfold gG
  simp only [e, f]
  exact h
theorem gP1.cg (h : gP1 I O r) (e : ∀ k, r' 24 k = r 24 k ∧ r' 25 k = r 25 k ∧ r' 26 k = r 26 k ∧ r' 27 k = r 27 k ∧ r' 28 k = r 28 k ∧ r' 29 k = r 29 k ∧ r' 32 k = r 32 k) (f : ∀ i, I' 9 i 1 = I 9 i 1 ∧ I' 9 i 3 = I 9 i 3 ∧ I' 9 i 4 = I 9 i 4 ∧ I' 9 i 8 = I 9 i 8 ∧ I' 9 i 9 = I 9 i 9 ∧ O' 9 i 2 = O 9 i 2 ∧ O' 9 i 5 = O 9 i 5) : gP1 I' O' r' := by
  unfold gP1
  simp only [e, f]
  exact h
theorem gP2.cg (h : gP2 I r) (e : ∀ k, r' 31 k = r 31 k) (g : ∀ i k, I' 10 i k = I 10 i k) : gP2 I' r' := by
  unfold gP2
  simp only [e, g]
  exact h
theorem gP3.cg (h : gP3 r C) (e : ∀ k, r' 24 k = r 24 k ∧ r' 25 k = r 25 k ∧ r' 26 k = r 26 k ∧ r' 27 k = r 27 k ∧ r' 28 k = r 28 k ∧ r' 32 k = r 32 k ∧ r' 17 k = r 17 k ∧ r' 14 k = r 14 k ∧ r' 10 k = r 10 k) : gP3 r' C := by
  unfold gP3
  simp only [e]
  exact h
theorem gP4.cg (h : gP4 r) (e : ∀ k, r' 24 k = r 24 k ∧ r' 25 k = r 25 k ∧ r' 26 k = r 26 k) : gP4 r' := by
  unfold gP4
  simp only [e]
  exact h
theorem gI.cg (h : gI O r) (e : ∀ k, r' 17 k = r 17 k ∧ r' 24 k = r 24 k ∧ r' 25 k = r 25 k ∧ r' 26 k = r 26 k) (f : ∀ i, O' 2 i 7 = O 2 i 7) : gI O' r' := by
  unfold gI
  simp only [e, f]
  exact h
theorem gF1.cg (h : gF1 I r) (e : ∀ k, r' 36 k = r 36 k ∧ r' 33 k = r 33 k ∧ r' 34 k = r 34 k ∧ r' 35 k = r 35 k) (f : ∀ i, I' 12 i 3 = I 12 i 3) (g : ∀ i k, I' 13 i k = I 13 i k ∧ I' 14 i k = I 14 i k ∧ I' 15 i k = I 15 i k) : gF1 I' r' := by
  unfold gF1
  simp only [e, f, g]
  exact h
theorem gQ.cg (h : gQ I r) (e : ∀ k, r' 15 k = r 15 k ∧ r' 16 k = r 16 k) (f : ∀ i, I' 5 i 1 = I 5 i 1) (g : ∀ i k, I' 6 i k = I 6 i k) : gQ I' r' := by
  unfold gQ
  simp only [e, f, g]
  exact h
theorem gM4.cg (h : gM4 r mp) (e : ∀ k, r' 18 k = r 18 k) : gM4 r' mp := by
  unfold gM4
  simp only [e]
  exact h
theorem gK.cg (h : gK I r C) (e : r' 0 36 = r 0 36 ∧ r' 0 38 = r 0 38 ∧ r' 0 39 = r 0 39) (f : I' 0 0 6 = I 0 0 6 ∧ I' 0 0 7 = I 0 0 7 ∧ I' 0 0 8 = I 0 0 8) : gK I' r' C := by
  unfold gK
  simp only [e, f]
  exact h
theorem dsc.cg (e : ∀ k, r' 2 k = r 2 k) : ∀ n x y, dsc r n x y → dsc r' n x y := by
  intro n
  induction n with
  | zero => intro x y h; exact h
  | succ n ih =>
    intro x y h
    rcases h with h | h
    · exact Or.inl h
    · refine Or.inr ?_
      rw [e]
      exact ih _ _ h
theorem Desc.cg (e : ∀ k, r' 2 k = r 2 k) {x y : Int32} (h : Desc r x y) : Desc r' x y := by
  obtain ⟨n, h⟩ := h
  exact ⟨n, dsc.cg e n x y h⟩
theorem Desc.eq (e : ∀ k, r' 2 k = r 2 k) {x y : Int32} : Desc r' x y = Desc r x y := propext ⟨fun h => Desc.cg (fun k => (e k).symm) h, fun h => Desc.cg e h⟩
theorem badS.eq (e : ∀ k, r' 33 k = r 33 k ∧ r' 35 k = r 35 k ∧ r' 36 k = r 36 k) {n : Nat} : badS r' n = badS r n := by
  funext k
  simp only [badS, e]
theorem good.eq (e : ∀ k, r' 33 k = r 33 k ∧ r' 35 k = r 35 k ∧ r' 36 k = r 36 k) {n s : Nat} : good r' n s = good r n s := by
  unfold good
  simp only [e, badS.eq e]
theorem gH.cg (h : gH O r) (e : ∀ k, r' 29 k = r 29 k ∧ r' 24 k = r 24 k ∧ r' 30 k = r 30 k ∧ r' 36 k = r 36 k ∧ r' 33 k = r 33 k ∧ r' 35 k = r 35 k) (f : ∀ i k, O' 11 i k = O 11 i k) : gH O' r' := by
  unfold gH
  simp only [e, f, good.eq (r' := r') (r := r) (fun k => ⟨(e k).2.2.2.2.1, (e k).2.2.2.2.2, (e k).2.2.2.1⟩)]
  exact h
theorem WRs.eq (e : ∀ k, r' 33 k = r 33 k ∧ r' 35 k = r 35 k) {n s : Nat} : WRs r' n s = WRs r n s := by
  unfold WRs
  simp only [e]
theorem gF2.cg (h : gF2 r) (e : ∀ k, r' 33 k = r 33 k ∧ r' 34 k = r 34 k ∧ r' 35 k = r 35 k ∧ r' 36 k = r 36 k) : gF2 r' := by
  unfold gF2
  simp only [e, WRs.eq (r' := r') (r := r) (fun k => ⟨(e k).1, (e k).2.2.1⟩)]
  exact h
theorem gM1.cg (h : gM1 I O C mp) (f : ∀ i, I' 2 i 10 = I 2 i 10) (g : ∀ i k, O' 3 i k = O 3 i k) : gM1 I' O' C mp := by
  unfold gM1
  simp only [f, g]
  exact h
theorem gM2.cg (h : gM2 O r mp) (e : ∀ k, r' 18 k = r 18 k ∧ r' 19 k = r 19 k ∧ r' 20 k = r 20 k ∧ r' 21 k = r 21 k ∧ r' 1 k = r 1 k ∧ r' 4 k = r 4 k ∧ r' 8 k = r 8 k ∧ r' 2 k = r 2 k) (f : ∀ i, O' 4 i 0 = O 4 i 0 ∧ O' 4 i 1 = O 4 i 1 ∧ O' 4 i 2 = O 4 i 2) : gM2 O' r' mp := by
  unfold gM2
  simp only [e, f, Desc.eq (r' := r') (r := r) (fun k => (e k).2.2.2.2.2.2.2)]
  exact h
theorem gM3.cg (h : gM3 r mp t) (e0 : r' 0 37 = r 0 37) (e : ∀ k, r' 22 k = r 22 k) : gM3 r' mp t := by
  unfold gM3
  simp only [e, e0]
  exact h
theorem gM3.le {t' : Nat} (h : gM3 r mp t) (ht : t ≤ t') : gM3 r mp t' := by
  obtain ⟨g, h1, h2⟩ := h
  exact ⟨g, by omega, h2⟩
theorem gG.le {t' : Nat} (h : gG I r t) (ht : t ≤ t') : gG I r t' := fun c hc => by
  obtain ⟨h1, g, h2, h3⟩ := h c hc
  exact ⟨h1, g, by omega, h3⟩
theorem IV.le {t' : Nat} (h : IV I O r C t mp) (ht : t ≤ t') : IV I O r C t' mp :=
  ⟨h.n1, h.n2, h.n3, h.k, h.c, h.g.le ht, h.p1, h.p2, h.p3, h.p4, h.i, h.h, h.f1, h.f2, h.q, h.m1, h.m2, h.m3.le ht, h.m4⟩
end
