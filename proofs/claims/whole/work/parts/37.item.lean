theorem DF.up1 {M M1 : Mem} (h : DF M M1) {j : Nat} (v : Int32) (hj : 1 ≠ j) : DF M (up2 M1 1 j v) := ⟨fun i h1 h2 => (up2_ne _ _ h1).trans (h.1 i h1 h2), (up2_no _ _ _ hj).trans h.2⟩
theorem TF_ga {f : Nat → Int32} {n : Nat} {g : CG} {G : SG} (h : GA f n g.1 G) : GA f n (aF f n g).1 (TF f n G 1).2 ∧ (TF f n G 1).1 = G.2.2.2.1 := by
  rw [TF_1 (GA_w h), aF_1]
  obtain ⟨v, rfl⟩ := h
  exact ⟨⟨vl f n g.1 v, rfl⟩, rfl⟩
theorem TF_gb {f : Nat → Int32} {n : Nat} {g : CG} {G : SG} (h : GA f n g.1 G) : (TF f n G 0).2.2.2.2.2 = (aF f n g).2.1 := by
  rw [TF_0 (GA_w h), aF_2]
  obtain ⟨v, rfl⟩ := h
  rfl
theorem it1_e (f : Nat → Int32) (n : Nat) (s : Mem × SG) : it1 f n s = TF f n s.2 (if s.2.2.1 = 1 ∧ mbQ (kN (s.1 2 5)) (s.1 0 9) s.2.2.2.2.1 then 1 else 0) := by
  unfold it1
  exact Eq.refl _
theorem it2_y {f : Nat → Int32} {n : Nat} {g : CG} {s : Mem × SG} (h : GA f n g.1 s.2) (hc : s.2.2.1 = 1 ∧ mbQ (kN (s.1 2 5)) (s.1 0 9) s.2.2.2.2.1) : GA f n (aF f n g).1 (it1 f n s).2 ∧ it2 f n s = rdI f n s.1 (it1 f n s).2 s.2.2.2.2.1 := by
  have e : it1 f n s = TF f n s.2 1 := by rw [it1_e, if_pos hc]
  have h1 := TF_ga h
  have h2 : GA f n (aF f n g).1 (it1 f n s).2 := by rw [e]; exact h1.1
  refine ⟨h2, ?_⟩
  rw [it2_p (GA_w h2), e, h1.2]
theorem it2_z {f : Nat → Int32} {n : Nat} {g : CG} {s : Mem × SG} (hn : n ≤ 150) (hg : g.1 ≤ n) (h : GA f n g.1 s.2) (hc : ¬ (s.2.2.1 = 1 ∧ mbQ (kN (s.1 2 5)) (s.1 0 9) s.2.2.2.2.1)) : (it2 f n s).2.2.2.2.2 = (aF f n g).2.1 := by
  have e : it1 f n s = TF f n s.2 0 := by rw [it1_e, if_neg hc]
  have h1 := TF_gb h
  have h2 : (it1 f n s).2.2.2.2.2 = (aF f n g).2.1 := by rw [e]; exact h1
  rw [it2_n (by rw [h2]; exact aF_nn hn hg), snd_mk]
  exact h2
theorem ga_tok {f : Nat → Int32} {n : Nat} {g : CG} {G : SG} (h : GA f n g.1 G) : G.2.1 = tkd f n g.1 ∧ ((aF f n g).2.2.1 = nI 258 ↔ G.2.1 = 0) ∧ ((aF f n g).2.2.1 = nI 59 ↔ G.2.1 = 3) ∧ (((aF f n g).2.2.1 = nI 107 ∨ (aF f n g).2.2.1 = nI 120 ∨ (aF f n g).2.2.1 = nI 112) ↔ G.2.1 = 1) ∧ (G.2.1 = 1 → (aF f n g).2.2.1 = G.2.2.2.1) := by
  rw [aF_3]
  obtain ⟨v, rfl⟩ := h
  have ht := tok_all f n g.1 g.2.2.2 v
  exact ⟨rfl, ht.1, ht.2.2.2.1, ht.2.2.2.2.1, ht.2.2.2.2.2⟩
theorem mb_k {P b1 b2 : Nat} (h1 : b1 < 2) (h2 : b2 < 2) : mbQ P (nI (b1 + 2 * b2)) (nI 107) ↔ P = 0 ∧ b1 = 0 := by
  have e : (nI (b1 + 2 * b2) &&& nI 1 = 0) ↔ b1 = 0 := by
    rcases (show b1 = 0 ∨ b1 = 1 by omega) with rfl | rfl <;> rcases (show b2 = 0 ∨ b2 = 1 by omega) with rfl | rfl <;> decide
  unfold mbQ
  rw [if_pos rfl, e]
  refine ⟨fun h => h.elim (fun q => absurd q.1 (by decide)) (fun q => q.2), fun h => Or.inr ⟨by decide, h⟩⟩
theorem mb_x {P b1 b2 : Nat} (h1 : b1 < 2) (h2 : b2 < 2) : mbQ P (nI (b1 + 2 * b2)) (nI 120) ↔ P = 0 ∧ b2 = 0 := by
  have e : (nI (b1 + 2 * b2) &&& nI 2 = 0) ↔ b2 = 0 := by
    rcases (show b1 = 0 ∨ b1 = 1 by omega) with rfl | rfl <;> rcases (show b2 = 0 ∨ b2 = 1 by omega) with rfl | rfl <;> decide
  unfold mbQ
  rw [if_neg (by decide), e]
  refine ⟨fun h => h.elim (fun q => absurd q.1 (by decide)) (fun q => q.2), fun h => Or.inr ⟨by decide, h⟩⟩
theorem mb_p {P : Nat} {t : Int32} : mbQ P t (nI 112) ↔ P < 5 := ⟨fun h => h.elim (fun q => q.2) (fun q => absurd rfl q.1), fun h => Or.inl ⟨rfl, h⟩⟩
theorem or_1 {b1 b2 : Nat} (h1 : b1 = 0) (h2 : b2 < 2) : nI (b1 + 2 * b2) ||| nI 1 = nI (1 + 2 * b2) := by
  subst h1
  rcases (show b2 = 0 ∨ b2 = 1 by omega) with rfl | rfl <;> decide
theorem or_2 {b1 b2 : Nat} (h1 : b1 < 2) (h2 : b2 = 0) : nI (b1 + 2 * b2) ||| nI 2 = nI (b1 + 2 * 1) := by
  subst h2
  rcases (show b1 = 0 ∨ b1 = 1 by omega) with rfl | rfl <;> decide
theorem nQ_14 {g : CG} (hq : nQ g (nI 1) (nI 4)) : ∃ k : Nat, 1 ≤ k ∧ k ≤ 4 ∧ g.2.2.2 = nI k := by
  have h0 : ¬ g.2.2.2 < 0 := fun q => hq.2.1 (Int32.lt_of_lt_of_le q (by decide))
  obtain ⟨j, hj, e⟩ := nI_of h0
  have h1 := hq.2.1
  have h2 := hq.2.2
  rw [e, nI_ltI hj (by omega)] at h1
  rw [e, nI_ltI (by omega) hj] at h2
  exact ⟨j, by omega, by omega, e⟩
theorem DR_k {M Mm : Mem} {K X b1 b2 : Nat} (hD : DR M Mm K X 0) (h1 : Mm 0 9 = nI (b1 + 2 * b2)) (h2 : M 1 5 = nI b2) (hb1 : b1 = 0) (hb2 : b2 < 2) {k : Nat} (hk1 : 1 ≤ k) (hk4 : k ≤ 4) : DR (up2 (up2 M 1 4 (nI 1)) 3 0 (nI k)) (up2 (up2 Mm 2 3 (nI k)) 0 9 (Mm 0 9 ||| nI 1)) k X 0 := by
  obtain ⟨⟨hK1, hK4, hX1, hX4, hP5⟩, d1, d2, d3, d4, d5, d6, d7, d8, d9, d10, d11⟩ := hD
  refine ⟨⟨hk1, hk4, hX1, hX4, hP5⟩, up2_at _ _ _ _, ?_, ?_, ?_, ?_, ?_, ⟨1, b2, by decide, hb2, ?_, ?_, ?_⟩, fun p hp => absurd hp (Nat.not_lt_zero _), ?_, ?_, ?_⟩
  · rw [up2_ne _ _ (by decide)]; exact up2_at _ _ _ _
  · rw [up2_no _ _ _ (by decide), up2_ne _ _ (by decide)]; exact d3
  · rw [up2_ne _ _ (by decide), up2_no _ _ _ (by decide)]; exact d4
  · rw [up2_no _ _ _ (by decide), up2_ne _ _ (by decide)]; exact d5
  · rw [up2_ne _ _ (by decide), up2_no _ _ _ (by decide)]; exact d6
  · rw [up2_at, h1]; exact or_1 hb1 hb2
  · rw [up2_ne _ _ (by decide)]; exact up2_at _ _ _ _
  · rw [up2_ne _ _ (by decide), up2_no _ _ _ (by decide)]; exact h2
  · rw [up2_ne _ _ (show (4 : Nat) ≠ 0 by decide), up2_ne _ _ (show (4 : Nat) ≠ 2 by decide)]
    exact NR_mem d9 (fun i hi hi2 => (up2_ne _ _ (by omega)).trans (up2_ne _ _ (by omega)))
  · rw [up2_ne _ _ (show (4 : Nat) ≠ 0 by decide), up2_ne _ _ (show (4 : Nat) ≠ 2 by decide)]
    exact d10
  · rw [up2_ne _ _ (show (4 : Nat) ≠ 0 by decide), up2_ne _ _ (show (4 : Nat) ≠ 2 by decide)]
    exact d11
theorem DR_x {M Mm : Mem} {K X b1 b2 : Nat} (hD : DR M Mm K X 0) (h1 : Mm 0 9 = nI (b1 + 2 * b2)) (h2 : M 1 4 = nI b1) (hb1 : b1 < 2) (hb2 : b2 = 0) {k : Nat} (hk1 : 1 ≤ k) (hk4 : k ≤ 4) : DR (up2 (up2 M 1 5 (nI 1)) 3 1 (nI k)) (up2 (up2 Mm 2 4 (nI k)) 0 9 (Mm 0 9 ||| nI 2)) K k 0 := by
  obtain ⟨⟨hK1, hK4, hX1, hX4, hP5⟩, d1, d2, d3, d4, d5, d6, d7, d8, d9, d10, d11⟩ := hD
  refine ⟨⟨hK1, hK4, hk1, hk4, hP5⟩, ?_, ?_, up2_at _ _ _ _, ?_, ?_, ?_, ⟨b1, 1, hb1, by decide, ?_, ?_, ?_⟩, fun p hp => absurd hp (Nat.not_lt_zero _), ?_, ?_, ?_⟩
  · rw [up2_no _ _ _ (by decide), up2_ne _ _ (by decide)]; exact d1
  · rw [up2_ne _ _ (by decide), up2_no _ _ _ (by decide)]; exact d2
  · rw [up2_ne _ _ (by decide)]; exact up2_at _ _ _ _
  · rw [up2_no _ _ _ (by decide), up2_ne _ _ (by decide)]; exact d5
  · rw [up2_ne _ _ (by decide), up2_no _ _ _ (by decide)]; exact d6
  · rw [up2_at, h1]; exact or_2 hb1 hb2
  · rw [up2_ne _ _ (by decide), up2_no _ _ _ (by decide)]; exact h2
  · rw [up2_ne _ _ (by decide)]; exact up2_at _ _ _ _
  · rw [up2_ne _ _ (show (4 : Nat) ≠ 0 by decide), up2_ne _ _ (show (4 : Nat) ≠ 2 by decide)]
    exact NR_mem d9 (fun i hi hi2 => (up2_ne _ _ (by omega)).trans (up2_ne _ _ (by omega)))
  · rw [up2_ne _ _ (show (4 : Nat) ≠ 0 by decide), up2_ne _ _ (show (4 : Nat) ≠ 2 by decide)]
    exact ⟨d10.1, d10.2.1, d10.2.2.1, fun p hp => absurd hp (Nat.not_lt_zero _)⟩
  · rw [up2_ne _ _ (show (4 : Nat) ≠ 0 by decide), up2_ne _ _ (show (4 : Nat) ≠ 2 by decide)]
    exact d11
theorem nI_b0 {b : Nat} (h : b < 2 ^ 31) : nI b = 0 ↔ b = 0 := by
  rw [← nI_0]; exact nI_eq h (by decide)
theorem nI_p0 {b : Nat} (h : b < 2 ^ 31) : ¬ 0 < nI b ↔ b = 0 := by
  rw [← nI_0, nI_ltI (by decide) h]; omega
theorem IQ_no {f : Nat → Int32} {n : Nat} {g : CG} {s : Mem × SG} {M : Mem} (hn : n ≤ 150) (hg : g.1 ≤ n) (h : GA f n g.1 s.2) (hc : ¬ (s.2.2.1 = 1 ∧ mbQ (kN (s.1 2 5)) (s.1 0 9) s.2.2.2.2.1)) : IQ f n M (aF f n g) (it2 f n s) (nI 0) M (aF f n g) :=
  ⟨⟨aF_ok hg, Nat.le_refl _, DF.rf M⟩, Or.inr ⟨rfl, it2_z hn hg h hc, aF_nq hn hg⟩⟩
theorem rI_k {f : Nat → Int32} {n K X P : Nat} {g : CG} {s : Mem × SG} {M : Mem} (hn : n ≤ 150) (hg : g.1 ≤ n) (h : GA f n g.1 s.2) (hD : DR M s.1 K X P) (ht : (aF f n g).2.2.1 = nI 107) : ∃ (M2 : Mem) (g2 : CG), (if M 1 4 = 0 ∧ ¬ 0 < M 3 2 then (if nQ (aF f n (aF f n g)) (nI 1) (nI 4) then txS (up2 (up2 M 1 4 (nI 1)) 3 0 (aF f n (aF f n g)).2.2.2) (aF f n (aF f n g)) else txS M (aF f n (aF f n g))) else txS M (aF f n g)) = txS M2 g2 ∧ IQ f n M (aF f n g) (it2 f n s) (bI (M 1 4 = 0 ∧ ¬ 0 < M 3 2 ∧ nQ (aF f n (aF f n g)) (nI 1) (nI 4))) M2 g2 := by
  have hD0 := hD
  obtain ⟨⟨hK1, hK4, hX1, hX4, hP5⟩, d1, d2, d3, d4, d5, d6, ⟨b1, b2, hb1, hb2, t1, t2, t3⟩, d8, d9, d10, d11⟩ := hD
  have hk := ga_tok h
  have h1 : s.2.2.1 = 1 := hk.2.2.2.1.mp (Or.inl ht)
  have hv : s.2.2.2.2.1 = nI 107 := (hk.2.2.2.2 h1).symm.trans ht
  have hmb : mbQ (kN (s.1 2 5)) (s.1 0 9) s.2.2.2.2.1 ↔ P = 0 ∧ b1 = 0 := by
    rw [hv, t1, d6, kN_nI (by omega)]
    exact mb_k hb1 hb2
  have hcc : (M 1 4 = 0 ∧ ¬ 0 < M 3 2) ↔ P = 0 ∧ b1 = 0 := by
    rw [t2, d5, nI_b0 (by omega), nI_p0 (by omega)]
    exact And.comm
  by_cases c : P = 0 ∧ b1 = 0
  · rw [if_pos (hcc.mpr c)]
    obtain ⟨hG1, he⟩ := it2_y h ⟨h1, hmb.mpr c⟩
    have hg1 : (aF f n g).1 ≤ n := aF_ok hg
    rw [he, hv, rdI_k]
    by_cases cq : nQ (aF f n (aF f n g)) (nI 1) (nI 4)
    · rw [if_pos cq, bI_t ⟨(hcc.mpr c).1, (hcc.mpr c).2, cq⟩]
      obtain ⟨e1, e2⟩ := NF_q hG1 cq
      obtain ⟨k, hk1, hk4, ek⟩ := nQ_14 cq
      refine ⟨_, _, rfl, ⟨aF_ok hg1, aF_ge hg1, DF.up (DF.up1 (DF.rf M) _ (by decide)) _ _ (by decide) (by decide)⟩, Or.inl ⟨rfl, ?_, k, X, 0, ?_⟩⟩
      · rw [snd_mk]; exact e2
      · rw [fst_mk, e1, ek]
        obtain ⟨rfl, hb0⟩ := c
        exact DR_k hD0 t1 t3 hb0 hb2 hk1 hk4
    · rw [if_neg cq, bI_f (fun q => cq q.2.2)]
      refine ⟨_, _, rfl, ⟨aF_ok hg1, aF_ge hg1, DF.rf M⟩, Or.inr ⟨rfl, ?_, aF_nq hn hg1⟩⟩
      rw [snd_mk]
      exact NF_nq hG1 cq
  · rw [if_neg (fun q => c (hcc.mp q)), bI_f (fun q => c (hcc.mp ⟨q.1, q.2.1⟩))]
    exact ⟨_, _, rfl, IQ_no hn hg h (fun q => c (hmb.mp q.2))⟩
theorem rI_x {f : Nat → Int32} {n K X P : Nat} {g : CG} {s : Mem × SG} {M : Mem} (hn : n ≤ 150) (hg : g.1 ≤ n) (h : GA f n g.1 s.2) (hD : DR M s.1 K X P) (ht : (aF f n g).2.2.1 = nI 120) : ∃ (M2 : Mem) (g2 : CG), (if M 1 5 = 0 ∧ ¬ 0 < M 3 2 then (if nQ (aF f n (aF f n g)) (nI 1) (nI 4) then txS (up2 (up2 M 1 5 (nI 1)) 3 1 (aF f n (aF f n g)).2.2.2) (aF f n (aF f n g)) else txS M (aF f n (aF f n g))) else txS M (aF f n g)) = txS M2 g2 ∧ IQ f n M (aF f n g) (it2 f n s) (bI (M 1 5 = 0 ∧ ¬ 0 < M 3 2 ∧ nQ (aF f n (aF f n g)) (nI 1) (nI 4))) M2 g2 := by
  have hD0 := hD
  obtain ⟨⟨hK1, hK4, hX1, hX4, hP5⟩, d1, d2, d3, d4, d5, d6, ⟨b1, b2, hb1, hb2, t1, t2, t3⟩, d8, d9, d10, d11⟩ := hD
  have hk := ga_tok h
  have h1 : s.2.2.1 = 1 := hk.2.2.2.1.mp (Or.inr (Or.inl ht))
  have hv : s.2.2.2.2.1 = nI 120 := (hk.2.2.2.2 h1).symm.trans ht
  have hmb : mbQ (kN (s.1 2 5)) (s.1 0 9) s.2.2.2.2.1 ↔ P = 0 ∧ b2 = 0 := by
    rw [hv, t1, d6, kN_nI (by omega)]
    exact mb_x hb1 hb2
  have hcc : (M 1 5 = 0 ∧ ¬ 0 < M 3 2) ↔ P = 0 ∧ b2 = 0 := by
    rw [t3, d5, nI_b0 (by omega), nI_p0 (by omega)]
    exact And.comm
  by_cases c : P = 0 ∧ b2 = 0
  · rw [if_pos (hcc.mpr c)]
    obtain ⟨hG1, he⟩ := it2_y h ⟨h1, hmb.mpr c⟩
    have hg1 : (aF f n g).1 ≤ n := aF_ok hg
    rw [he, hv, rdI_x]
    by_cases cq : nQ (aF f n (aF f n g)) (nI 1) (nI 4)
    · rw [if_pos cq, bI_t ⟨(hcc.mpr c).1, (hcc.mpr c).2, cq⟩]
      obtain ⟨e1, e2⟩ := NF_q hG1 cq
      obtain ⟨k, hk1, hk4, ek⟩ := nQ_14 cq
      refine ⟨_, _, rfl, ⟨aF_ok hg1, aF_ge hg1, DF.up (DF.up1 (DF.rf M) _ (by decide)) _ _ (by decide) (by decide)⟩, Or.inl ⟨rfl, ?_, K, k, 0, ?_⟩⟩
      · rw [snd_mk]; exact e2
      · rw [fst_mk, e1, ek]
        obtain ⟨rfl, hb0⟩ := c
        exact DR_x hD0 t1 t2 hb1 hb0 hk1 hk4
    · rw [if_neg cq, bI_f (fun q => cq q.2.2)]
      refine ⟨_, _, rfl, ⟨aF_ok hg1, aF_ge hg1, DF.rf M⟩, Or.inr ⟨rfl, ?_, aF_nq hn hg1⟩⟩
      rw [snd_mk]
      exact NF_nq hG1 cq
  · rw [if_neg (fun q => c (hcc.mp q)), bI_f (fun q => c (hcc.mp ⟨q.1, q.2.1⟩))]
    exact ⟨_, _, rfl, IQ_no hn hg h (fun q => c (hmb.mp q.2))⟩
theorem rI_p {f : Nat → Int32} {n K X P : Nat} {g : CG} {s : Mem × SG} {M : Mem} (h : GA f n g.1 s.2) (hD : DR M s.1 K X P) (ht : (aF f n g).2.2.1 = nI 112) (hP : P < 5) : GA f n (aF f n g).1 (it1 f n s).2 ∧ it2 f n s = rdI f n s.1 (it1 f n s).2 (nI 112) := by
  have hk := ga_tok h
  have h1 : s.2.2.1 = 1 := hk.2.2.2.1.mp (Or.inr (Or.inr ht))
  have hv : s.2.2.2.2.1 = nI 112 := (hk.2.2.2.2 h1).symm.trans ht
  have h2 := it2_y h ⟨h1, by rw [hv]; exact mb_p.mpr (by rw [hD.2.2.2.2.2.2.1, kN_nI (by omega)]; exact hP)⟩
  rw [hv] at h2
  exact h2
theorem rI_p5 {f : Nat → Int32} {n K X : Nat} {g : CG} {s : Mem × SG} {M : Mem} (hn : n ≤ 150) (hg : g.1 ≤ n) (h : GA f n g.1 s.2) (hD : DR M s.1 K X 5) (ht : (aF f n g).2.2.1 = nI 112) : IQ f n M (aF f n g) (it2 f n s) (nI 0) M (aF f n g) := by
  have hk := ga_tok h
  have h1 : s.2.2.1 = 1 := hk.2.2.2.1.mp (Or.inr (Or.inr ht))
  have hv : s.2.2.2.2.1 = nI 112 := (hk.2.2.2.2 h1).symm.trans ht
  refine IQ_no hn hg h (fun q => ?_)
  have := q.2
  rw [hv, mb_p, hD.2.2.2.2.2.2.1, kN_nI (by decide)] at this
  exact absurd this (by decide)
theorem rI_o {f : Nat → Int32} {n : Nat} {g : CG} {s : Mem × SG} {M : Mem} (hn : n ≤ 150) (hg : g.1 ≤ n) (h : GA f n g.1 s.2) (ht : ¬ ((aF f n g).2.2.1 = nI 107 ∨ (aF f n g).2.2.1 = nI 120 ∨ (aF f n g).2.2.1 = nI 112)) : IQ f n M (aF f n g) (it2 f n s) (nI 0) M (aF f n g) :=
  IQ_no hn hg h (fun q => ht ((ga_tok h).2.2.2.1.mpr q.1))
theorem IQ_nar {f : Nat → Int32} {n : Nat} {M : Mem} {g : CG} {S : Mem × SG} {rz : Int32} {M2 : Mem} {g2 : CG} (h : IQ f n M g S rz M2 g2) : narrow .boolean (.int rz) = .int rz := by
  rcases h.2 with ⟨rfl, -⟩ | ⟨rfl, -⟩ <;> rfl
theorem look_o {x : Int32} (h : ¬ (x = nI 107 ∨ x = nI 120 ∨ x = nI 112)) : Op.lookupswitch.offset [(107, 36), (112, 46), (120, 41)] 51 x.toInt = 51 := by
  have hk : ∀ k : Nat, k < 2 ^ 31 → ¬ x = nI k → ¬ (k : Int) = x.toInt := fun k hk hx e => hx (by rw [← Int32.toInt_inj, nI_toInt hk]; exact e.symm)
  rw [Op.lookupswitch.offset_cons, if_neg (show ¬ (107 : Int) = x.toInt from hk 107 (by decide) (fun e => h (Or.inl e))), Op.lookupswitch.offset_cons, if_neg (show ¬ (112 : Int) = x.toInt from hk 112 (by decide) (fun e => h (Or.inr (Or.inr e)))), Op.lookupswitch.offset_cons, if_neg (show ¬ (120 : Int) = x.toInt from hk 120 (by decide) (fun e => h (Or.inr (Or.inl e)))), Op.lookupswitch.offset_nil]
