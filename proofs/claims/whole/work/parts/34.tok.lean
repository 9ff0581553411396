def VQ (x y : Int32) : Prop := (∃ k : Nat, k ≤ 99 ∧ x = nI k ∧ y = nI k) ∨ (x = nI 100 ∧ ∃ k : Nat, 100 ≤ k ∧ k ≤ 999 ∧ y = nI k)
theorem dg_nat {c : Int32} (h : dg c) : ∃ d : Nat, d ≤ 9 ∧ c = nI (48 + d) := by
  have h0 : ¬ c < 0 := by
    intro q
    apply h.1
    rw [Int32.lt_iff_toInt_lt] at q ⊢
    rw [nI_toInt (by decide)]
    have hz : (0 : Int32).toInt = 0 := rfl
    omega
  obtain ⟨j, hj, rfl⟩ := nI_of h0
  have h1 := h.1
  have h2 := h.2
  rw [nI_ltI hj (by decide)] at h1
  rw [nI_ltI (by decide) hj] at h2
  exact ⟨j - 48, by omega, congrArg nI (by omega)⟩
theorem VQ_step {x y c : Int32} (h : VQ x y) (hc : dg c) : VQ (mn (nI 100) (x * nI 10 + c - nI 48)) (if y ≤ nI 99 then nI 10 * y + c - nI 48 else y) := by
  obtain ⟨d, hd, rfl⟩ := dg_nat hc
  rcases h with ⟨k, hk, rfl, rfl⟩ | ⟨rfl, k, hk1, hk2, rfl⟩
  · have e1 : nI k * nI 10 + nI (48 + d) - nI 48 = nI (10 * k + d) := by
      rw [pk_mul, nI_add, pk_sub (by omega)]
      exact congrArg nI (by omega)
    have e2 : nI 10 * nI k + nI (48 + d) - nI 48 = nI (10 * k + d) := by
      rw [pk_mul, nI_add, pk_sub (by omega)]
      exact congrArg nI (by omega)
    rw [e1, e2, if_pos (nI_le hk (by decide))]
    unfold mn
    by_cases c : 10 * k + d < 100
    · rw [if_pos (nI_lt c (by decide))]
      exact Or.inl ⟨_, by omega, rfl, rfl⟩
    · rw [if_neg (nI_nlt (by omega) (by omega))]
      exact Or.inr ⟨rfl, _, by omega, by omega, rfl⟩
  · rw [if_neg (nI_ge (by omega) (by omega))]
    have e1 : nI 100 * nI 10 + nI (48 + d) - nI 48 = nI (1000 + d) := by
      rw [pk_mul, nI_add, pk_sub (by omega)]
      exact congrArg nI (by omega)
    rw [e1]
    unfold mn
    rw [if_neg (nI_nlt (by omega) (by omega))]
    exact Or.inr ⟨rfl, k, hk1, hk2, rfl⟩
theorem VQ_W (f : Nat → Int32) (n : Nat) : ∀ (w a : Nat) (x y : Int32), VQ x y → VQ (vcW f n w a x) (vmW f n w a y) := by
  intro w
  induction w with
  | zero => exact fun a x y h => h
  | succ w ih =>
    intro a x y h
    simp only [vcW, vmW]
    by_cases c : a < n ∧ dg (f a)
    · rw [if_pos c, if_pos c]
      exact ih _ _ _ (VQ_step h c.2)
    · rw [if_neg c, if_neg c]
      exact h
theorem VQ_v (f : Nat → Int32) (n a : Nat) : VQ (vc f n a (nI 0)) (vm f n a (nI 0)) := VQ_W f n (n - a) a _ _ (Or.inl ⟨0, by decide, rfl, rfl⟩)
theorem VQ_99 {x y : Int32} (h : VQ x y) : (nI 99 < x ↔ nI 99 < y) ∧ (¬ nI 99 < x → x = y) := by
  rcases h with ⟨k, hk, rfl, rfl⟩ | ⟨rfl, k, hk1, hk2, rfl⟩
  · exact ⟨Iff.rfl, fun _ => rfl⟩
  · refine ⟨⟨fun _ => nI_lt (by omega) (by omega), fun _ => by decide⟩, fun q => absurd (by decide) q⟩
theorem tk_NM (f : Nat → Int32) (n a : Nat) : (tkN f n a = nI 256 ↔ tkM f n a = 2) ∧ (tkN f n a = nI 256 → vc f n a (nI 0) = vm f n a (nI 0)) ∧ (tkN f n a = nI 257 ∨ tkN f n a = nI 256) ∧ (tkM f n a = 4 ∨ tkM f n a = 2) := by
  have h := VQ_99 (VQ_v f n a)
  unfold tkN tkM
  by_cases c : nI 99 < vc f n a (nI 0) ∨ (f a = nI 48 ∧ 1 < de f n a - a)
  · have c2 : nI 99 < vm f n a (nI 0) ∨ (f a = nI 48 ∧ 1 < de f n a - a) := c.elim (fun q => Or.inl (h.1.mp q)) Or.inr
    rw [if_pos c, if_pos c2]
    exact ⟨⟨fun q => absurd q (by decide), fun q => absurd q (by decide)⟩, fun q => absurd q (by decide), Or.inl rfl, Or.inl rfl⟩
  · have c2 : ¬ (nI 99 < vm f n a (nI 0) ∨ (f a = nI 48 ∧ 1 < de f n a - a)) := fun q => c (q.elim (fun q => Or.inl (h.1.mpr q)) Or.inr)
    rw [if_neg c, if_neg c2]
    exact ⟨⟨fun _ => rfl, fun _ => rfl⟩, fun _ => h.2 (fun q => c (Or.inl q)), Or.inr rfl, Or.inr rfl⟩
theorem tok_all (f : Nat → Int32) (n a : Nat) (u v : Int32) : (tc f n a = nI 258 ↔ tkd f n a = 0) ∧ (tc f n a = nI 256 ↔ tkd f n a = 2) ∧ (tc f n a = nI 256 → nu f n a u = vl f n a v) ∧ (tc f n a = nI 59 ↔ tkd f n a = 3) ∧ ((tc f n a = nI 107 ∨ tc f n a = nI 120 ∨ tc f n a = nI 112) ↔ tkd f n a = 1) ∧ (tkd f n a = 1 → tc f n a = vl f n a v) := by
  unfold tc tkd nu vl
  by_cases c1 : n ≤ sk f n a
  · rw [if_pos c1, if_pos c1, if_pos c1, if_pos c1]
    refine ⟨⟨fun _ => rfl, fun _ => rfl⟩, ⟨fun q => absurd q (by decide), fun q => absurd q (by decide)⟩, fun q => absurd q (by decide), ⟨fun q => absurd q (by decide), fun q => absurd q (by decide)⟩, ⟨fun q => absurd q (by decide), fun q => absurd q (by decide)⟩, fun q => absurd q (by decide)⟩
  · rw [if_neg c1, if_neg c1, if_neg c1, if_neg c1]
    by_cases c2 : dg (f (sk f n a))
    · rw [if_pos c2, if_pos c2, if_pos c2, if_pos c2]
      obtain ⟨h1, h2, h3, h4⟩ := tk_NM f n (sk f n a)
      refine ⟨⟨fun q => ?_, fun q => ?_⟩, h1, h2, ⟨fun q => ?_, fun q => ?_⟩, ⟨fun q => ?_, fun q => ?_⟩, fun q => ?_⟩
      · rcases h3 with h3 | h3 <;> rw [h3] at q <;> exact absurd q (by decide)
      · rcases h4 with h4 | h4 <;> rw [h4] at q <;> exact absurd q (by decide)
      · rcases h3 with h3 | h3 <;> rw [h3] at q <;> exact absurd q (by decide)
      · rcases h4 with h4 | h4 <;> rw [h4] at q <;> exact absurd q (by decide)
      · rcases h3 with h3 | h3 <;> rw [h3] at q <;> exact absurd q (by decide)
      · rcases h4 with h4 | h4 <;> rw [h4] at q <;> exact absurd q (by decide)
      · rcases h4 with h4 | h4 <;> rw [h4] at q <;> exact absurd q (by decide)
    · rw [if_neg c2, if_neg c2, if_neg c2, if_neg c2]
      by_cases c3 : f (sk f n a) = nI 59
      · rw [if_pos c3, if_pos (Or.inr (Or.inr (Or.inr c3))), c3]
        refine ⟨⟨fun q => absurd q (by decide), fun q => absurd q (by decide)⟩, ⟨fun q => absurd q (by decide), fun q => absurd q (by decide)⟩, fun q => absurd q (by decide), ⟨fun _ => rfl, fun _ => rfl⟩, ⟨fun q => absurd q (by decide), fun q => absurd q (by decide)⟩, fun q => absurd q (by decide)⟩
      · rw [if_neg c3]
        by_cases c4 : f (sk f n a) = nI 107 ∨ f (sk f n a) = nI 120 ∨ f (sk f n a) = nI 112
        · have c5 : f (sk f n a) = nI 107 ∨ f (sk f n a) = nI 120 ∨ f (sk f n a) = nI 112 ∨ f (sk f n a) = nI 59 := c4.elim Or.inl (fun q => Or.inr (q.elim Or.inl (fun q => Or.inr (Or.inl q))))
          rw [if_pos c4, if_pos c5]
          refine ⟨⟨fun q => ?_, fun q => absurd q (by decide)⟩, ⟨fun q => ?_, fun q => absurd q (by decide)⟩, fun q => ?_, ⟨fun q => absurd q c3, fun q => absurd q (by decide)⟩, ⟨fun _ => rfl, fun _ => c4⟩, fun _ => rfl⟩
          · rw [q] at c4; exact absurd c4 (by decide)
          · rw [q] at c4; exact absurd c4 (by decide)
          · rw [q] at c4; exact absurd c4 (by decide)
        · have c5 : ¬ (f (sk f n a) = nI 107 ∨ f (sk f n a) = nI 120 ∨ f (sk f n a) = nI 112 ∨ f (sk f n a) = nI 59) := fun q => q.elim (fun q => c4 (Or.inl q)) (fun q => q.elim (fun q => c4 (Or.inr (Or.inl q))) (fun q => q.elim (fun q => c4 (Or.inr (Or.inr q))) c3))
          rw [if_neg c4, if_neg c5]
          refine ⟨⟨fun q => absurd q (by decide), fun q => absurd q (by decide)⟩, ⟨fun q => absurd q (by decide), fun q => absurd q (by decide)⟩, fun q => absurd q (by decide), ⟨fun q => absurd q (by decide), fun q => absurd q (by decide)⟩, ⟨fun q => absurd q (by decide), fun q => absurd q (by decide)⟩, fun q => absurd q (by decide)⟩
/-- the model's scanner, one token ahead of place a, well -/
def GA (f : Nat → Int32) (n a : Nat) (G : SG) : Prop := ∃ v, G = (tn f n a, tkd f n a, nI (sk f n a), vl f n a v, -1)
theorem m1lt0 : (-1 : Int32) < 0 := by decide
theorem GA_w {f : Nat → Int32} {n a : Nat} {G : SG} (h : GA f n a G) : G.2.2.2.2 < 0 := by
  obtain ⟨v, rfl⟩ := h
  exact m1lt0
theorem aF_e (f : Nat → Int32) (n : Nat) (g : CG) : aF f n g = (tn f n g.1, nI (sk f n g.1), tc f n g.1, nu f n g.1 g.2.2.2) := by
  unfold aF
  exact Eq.refl _
theorem aF_1 (f : Nat → Int32) (n : Nat) (g : CG) : (aF f n g).1 = tn f n g.1 := by rw [aF_e]
theorem aF_2 (f : Nat → Int32) (n : Nat) (g : CG) : (aF f n g).2.1 = nI (sk f n g.1) := by rw [aF_e]
theorem aF_3 (f : Nat → Int32) (n : Nat) (g : CG) : (aF f n g).2.2.1 = tc f n g.1 := by rw [aF_e]
theorem aF_4 (f : Nat → Int32) (n : Nat) (g : CG) : (aF f n g).2.2.2 = nu f n g.1 g.2.2.2 := by rw [aF_e]
theorem NF_e (f : Nat → Int32) (n : Nat) (G : SG) (lo hi : Int32) : NF f n G lo hi = if G.2.2.2.2 < 0 then (if G.2.1 = 2 ∧ ¬ G.2.2.2.1 < lo ∧ ¬ hi < G.2.2.2.1 then (G.2.2.2.1, (tn f n G.1, tkd f n G.1, nI (sk f n G.1), vl f n G.1 G.2.2.2.1, G.2.2.2.2)) else (nI 0, (G.1, G.2.1, G.2.2.1, G.2.2.2.1, G.2.2.1))) else (nI 0, G) := by
  unfold NF
  exact Eq.refl _
theorem NF_q {f : Nat → Int32} {n : Nat} {g : CG} {G : SG} (h : GA f n g.1 G) {lo hi : Int32} (hq : nQ (aF f n g) lo hi) : (NF f n G lo hi).1 = (aF f n g).2.2.2 ∧ GA f n (aF f n g).1 (NF f n G lo hi).2 := by
  obtain ⟨v, rfl⟩ := h
  unfold nQ at hq
  rw [aF_3, aF_4] at hq
  have ht := tok_all f n g.1 g.2.2.2 v
  have e1 := ht.2.1.mp hq.1
  have e2 := ht.2.2.1 hq.1
  rw [e2] at hq
  rw [NF_e, aF_1, aF_4]
  dsimp only
  rw [if_pos m1lt0, if_pos ⟨e1, hq.2.1, hq.2.2⟩]
  exact ⟨e2.symm, vl f n g.1 v, rfl⟩
theorem NF_nq {f : Nat → Int32} {n : Nat} {g : CG} {G : SG} (h : GA f n g.1 G) {lo hi : Int32} (hq : ¬ nQ (aF f n g) lo hi) : (NF f n G lo hi).2.2.2.2.2 = (aF f n g).2.1 := by
  obtain ⟨v, rfl⟩ := h
  unfold nQ at hq
  rw [aF_3, aF_4] at hq
  have ht := tok_all f n g.1 g.2.2.2 v
  rw [NF_e, aF_2]
  dsimp only
  rw [if_pos m1lt0, if_neg]
  intro q
  have e1 := ht.2.1.mpr q.1
  have e2 := ht.2.2.1 e1
  exact hq ⟨e1, by rw [e2]; exact q.2.1, by rw [e2]; exact q.2.2⟩
theorem NF_no {f : Nat → Int32} {n : Nat} {G : SG} {lo hi : Int32} (h : ¬ G.2.2.2.2 < 0) : NF f n G lo hi = (nI 0, G) := by
  rw [NF_e, if_neg h]
theorem rpF_s (f : Nat → Int32) (n P : Nat) (M : Mem) (g : SG) (i : Nat) : rpF f n P M g (i + 1) = (up2 (rpF f n P M g i).1 4 (5 + 4 * P + i) (NF f n (rpF f n P M g i).2 (nI 0) (nI 9)).1, (NF f n (rpF f n P M g i).2 (nI 0) (nI 9)).2) := by
  simp only [rpF]
theorem rpF_bad {f : Nat → Int32} {n P : Nat} {M : Mem} {g : SG} {i : Nat} (h : ¬ (rpF f n P M g i).2.2.2.2.2 < 0) (j : Nat) : (rpF f n P M g (i + j)).2 = (rpF f n P M g i).2 := by
  induction j with
  | zero => rfl
  | succ j ih =>
    rw [← Nat.add_assoc, rpF_s, snd_mk, ih, NF_no h, snd_mk]
theorem sk_nn {f : Nat → Int32} {n a : Nat} (hn : n ≤ 150) (h : a ≤ n) : ¬ nI (sk f n a) < 0 := nI_pos (by have := (sk_le (f := f) h).2; omega)
