/-! the heap behind the constructors -/
theorem ct1 : mrunN 5000 7 0 0 (mentry 0 [.ref 1]) [] [.inr (7, []), .inl (0, mBlank 0)] = some (none, .inr (7, []) :: R0.take 144) := by decide +kernel
theorem ct2 : mrunN 5000 7 50 0 (mentry 50 [.ref 145]) [] ((.inr (7, []) :: R0.take 144) ++ [.inl (9, mBlank 9)]) = some (none, .inr (7, []) :: R0) := by decide +kernel
theorem wR_len : R0.length = 181 := by decide +kernel
theorem wR_tag : ∀ a, a < 181 → (R0[a]?).map ctag = some (shp (a + 1)) := by decide +kernel
def vkb (n : Nat) (v : Value) : Bool := match n with
  | 0 => (match v with | .int _ => true | _ => false)
  | 1 => (v == .int 0 || v == .int 1)
  | _ => (match v with | .null => true | .ref _ => true | _ => false)
theorem vkb_ok {n : Nat} {v : Value} (h : vkb n v = true) : vk n v := by
  match n with
  | 0 =>
    cases v <;> first | exact ⟨_, rfl⟩ | cases h
  | 1 =>
    simp only [vkb, Bool.or_eq_true, beq_iff_eq] at h
    exact h
  | n + 2 =>
    cases v <;> first | exact Or.inl rfl | exact Or.inr ⟨_, rfl⟩ | cases h
theorem wR_kind : ∀ a, a < 181 → ∀ k, k < (shp (a + 1)).2 → vkb (tkind (shp (a + 1)).1 k) (mv R0 a k) = true := by decide +kernel
theorem wR_cst : CST.all (fun q => Nat.blt 0 q.1 && decide (mv R0 (q.1 - 1) q.2.1 = q.2.2)) = true := by decide +kernel
theorem mv_cons {c : mC} {M : mH} {a k : Nat} : mv (c :: M) (a + 1) k = mv M a k := by
  unfold mv; rw [List.getElem?_cons_succ]
theorem wf_0 {xs : List Int32} (hl : xs.length ≤ 3072) : wf (.inr (7, xs.map .int) :: R0) := by
  refine ⟨by rw [List.length_cons, wR_len], ⟨xs, rfl, hl⟩, fun a h1 h2 => ?_, fun a k h1 h2 h3 => ?_, fun q hq => ?_⟩
  · obtain ⟨b, rfl⟩ : ∃ b, a = b + 1 := ⟨a - 1, by omega⟩
    rw [List.getElem?_cons_succ]
    have h := wR_tag b (by omega)
    cases hR : R0[b]? with
    | none => rw [hR] at h; cases h
    | some c => rw [hR] at h; exact ⟨c, rfl, Option.some.inj h⟩
  · obtain ⟨b, rfl⟩ : ∃ b, a = b + 1 := ⟨a - 1, by omega⟩
    rw [mv_cons]
    exact vkb_ok (wR_kind b (by omega) k h3)
  · have h := List.all_eq_true.1 wR_cst q hq
    simp only [Bool.and_eq_true] at h
    have h1 : 0 < q.1 := Nat.lt_of_lt_of_eq (Nat.le_of_ble_eq_true h.1) rfl
    obtain ⟨b, hb⟩ : ∃ b, q.1 = b + 1 := ⟨q.1 - 1, by omega⟩
    have h2 := of_decide_eq_true h.2
    rw [hb, mv_cons]
    rw [hb, Nat.add_sub_cancel] at h2
    exact h2
/-! the invariant at the beginning -/
def ig0 : CI := fun f i k => if i < vaS f then mvi (mv R0 (ad f i - 1) k) else 0
def og0 : CO := fun f i k => if i < vaS f then vrf (mv R0 (ad f i - 1) k) else none
def rg0 : RS := fun a k => mvi (mv R0 (144 + a) k)
theorem ad_pos : ∀ f, f < 17 → ∀ i, i < vaS f → 0 < ad f i := by decide +kernel
theorem ig_0 {c : mC} : ig (c :: R0) = ig0 := by
  funext f i k
  unfold ig ig0
  by_cases h : i < vaS f
  · rw [if_pos h, if_pos h]
    have hp := ad_pos f (vaS_f h) i h
    obtain ⟨b, hb⟩ : ∃ b, ad f i = b + 1 := ⟨ad f i - 1, by omega⟩
    unfold gi
    rw [hb, mv_cons, Nat.add_sub_cancel]
  · rw [if_neg h, if_neg h]
theorem og_0 {c : mC} : og (c :: R0) = og0 := by
  funext f i k
  unfold og og0
  by_cases h : i < vaS f
  · rw [if_pos h, if_pos h]
    have hp := ad_pos f (vaS_f h) i h
    obtain ⟨b, hb⟩ : ∃ b, ad f i = b + 1 := ⟨ad f i - 1, by omega⟩
    rw [gr_eq, hb, mv_cons, Nat.add_sub_cancel]
  · rw [if_neg h, if_neg h]
theorem rg_0 {c : mC} : rg (c :: R0) = rg0 := by
  funext a k
  unfold rg rg0 gi
  rw [show 145 + a = 144 + a + 1 by omega, mv_cons]
def mp0 : MP := (fun _ => 0, fun _ _ => 0, fun _ => 0, fun _ i => i)
theorem z_n1 : ∀ n, n < 32 → ig0 1 n 1 = rg0 1 n ∧ ig0 1 n 2 = rg0 4 n ∧ ig0 1 n 3 = rg0 3 n ∧ ig0 1 n 4 = rg0 5 n ∧ ig0 1 n 5 = rg0 6 n := by decide +kernel
theorem z_n2 : ∀ n, n < 32 → ¬ rg0 1 n = 0 → n = 0 := by decide +kernel
theorem z_n0 : ¬ rg0 1 0 = 0 ∧ rg0 2 0 = -1 ∧ rg0 7 0 = -1 ∧ rg0 4 0 = 0 ∧ og0 1 0 6 = none ∧ og0 1 0 7 = none ∧ rg0 5 0 = nI 0 := by decide +kernel
theorem z_k : rg0 0 36 = nI 0 ∧ ig0 0 0 6 = nI 0 ∧ ig0 0 0 7 = rg0 0 38 ∧ ig0 0 0 8 = rg0 0 39 ∧ rg0 0 37 = nI 0 := by decide +kernel
theorem z_g : ∀ c, c < 4 → ig0 2 c 8 = rg0 14 c ∧ rg0 14 c = nI 0 ∧ rg0 17 c = 0 ∧ og0 2 c 7 = none ∧ ig0 2 c 10 = nI 0 := by decide +kernel
theorem z_p1 : ∀ p, p < 16 → ig0 9 p 1 = rg0 24 p ∧ ig0 9 p 3 = rg0 26 p ∧ ig0 9 p 4 = rg0 27 p ∧ ig0 9 p 8 = rg0 29 p ∧ ig0 9 p 9 = rg0 32 p ∧ og0 9 p 2 = none ∧ og0 9 p 5 = none := by decide +kernel
theorem z_p2 : ∀ p, p < 16 → ∀ k, k < 4 → ig0 10 p k = rg0 31 (4 * p + k) := by decide +kernel
theorem z_p3 : ∀ p, p < 16 → rg0 24 p = 0 ∧ rg0 29 p = nI 0 := by decide +kernel
theorem z_f1 : ∀ f, f < 4 → ig0 12 f 3 = rg0 36 f ∧ rg0 36 f = nI 0 ∧ ∀ k, k < 10 → ig0 13 f k = rg0 33 (10 * f + k) ∧ ig0 14 f k = rg0 34 (10 * f + k) ∧ ig0 15 f k = rg0 35 (10 * f + k) := by decide +kernel
theorem z_q : ∀ q, q < 8 → rg0 15 q = nI 0 ∧ ig0 5 q 1 = nI 0 := by decide +kernel
theorem z_m1 : ∀ c, c < 4 → ∀ i, i < 4 → og0 3 c i = some (39 + 10 * c + i) := by decide +kernel
theorem z_m4 : ∀ s, s < 16 → rg0 18 s = 0 := by decide +kernel
theorem iv_0 : IV ig0 og0 rg0 0 0 mp0 := by
  obtain ⟨a1, a2, a3, a4, a5, a6, a7⟩ := z_n0
  obtain ⟨k1, k2, k3, k4, k5⟩ := z_k
  refine ⟨z_n1, ?_, ⟨a1, a2, a3, a4⟩, ⟨by omega, k1, k2, k3, k4⟩, fun c hc => absurd hc (by omega), fun c hc => ⟨(z_g c hc).1, 0, Nat.le_refl _, (z_g c hc).2.1⟩, ?_, z_p2, ?_, ?_, fun c hc => Or.inl ⟨(z_g c hc).2.2.1, (z_g c hc).2.2.2.1⟩, ?_, fun f hf => ⟨(z_f1 f hf).1, (z_f1 f hf).2.2⟩, ?_, ?_, ?_, fun c hc i hi => absurd hi (Nat.not_lt_zero _), ⟨0, Nat.le_refl _, k5, fun c hc i hi => absurd hi (Nat.not_lt_zero _)⟩, fun s hs h => absurd (z_m4 s hs) h⟩
  · intro n hn h
    obtain rfl := z_n2 n hn h
    refine ⟨by rw [a2, a5]; rfl, by rw [a3, a6]; rfl, Or.inl rfl, Or.inl a4, Or.inl a3, 0, by omega, a7⟩
  · intro p hp
    obtain ⟨h1, h2, h3, h4, h5, h6, h7⟩ := z_p1 p hp
    have h0 := (z_p3 p hp).1
    exact ⟨h1, h2, h3, h4, h5, by rw [if_pos h0]; exact h6, by rw [if_pos h0]; exact h7⟩
  · intro p hp
    have h0 := (z_p3 p hp).1
    exact ⟨Or.inl h0, fun z => absurd (h0.symm.trans z) (by decide), fun z => absurd h0 z⟩
  · intro p q hp hq h1
    exact absurd (z_p3 p hp).1 h1
  · intro p hp
    exact ⟨0, by omega, (z_p3 p hp).2, fun _ => rfl, fun k hk => absurd hk (Nat.not_lt_zero _)⟩
  · intro f hf
    exact ⟨0, by omega, (z_f1 f hf).2.1, fun k hk => absurd hk (Nat.not_lt_zero _), fun k hk => absurd hk (Nat.not_lt_zero _)⟩
  · intro q hq
    exact ⟨0, by omega, (z_q q hq).1, (z_q q hq).2, fun k hk => absurd hk (Nat.not_lt_zero _)⟩
  · intro c hc
    exact ⟨by show 0 ≤ 4; omega, fun _ => rfl, (z_g c hc).2.2.2.2, fun i hi => ⟨hi, z_m1 c hc i hi⟩, fun i i' _ _ h => h⟩
