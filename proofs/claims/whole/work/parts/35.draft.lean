def RW (X P : Nat) (row : Nat → Int32) : Prop := WR row ∧ row 30 = nI 0 ∧ (∀ p, p < 5 → row (25 + p) = nI 0) ∧ (∀ p, p < P → ∃ x : Nat, x < X ∧ row p = nI x)
/-- the two drafts hold the same -/
def DR (M Mm : Mem) (K X P : Nat) : Prop := (1 ≤ K ∧ K ≤ 4 ∧ 1 ≤ X ∧ X ≤ 4 ∧ P ≤ 5) ∧ M 3 0 = nI K ∧ Mm 2 3 = nI K ∧ M 3 1 = nI X ∧ Mm 2 4 = nI X ∧ M 3 2 = nI P ∧ Mm 2 5 = nI P ∧ (∃ b1 b2 : Nat, b1 < 2 ∧ b2 < 2 ∧ Mm 0 9 = nI (b1 + 2 * b2) ∧ M 1 4 = nI b1 ∧ M 1 5 = nI b2) ∧ (∀ p, p < P → M 4 p = Mm 3 (5 + p)) ∧ NR M 5 (Mm 4) ∧ RW X P (Mm 4) ∧ (∀ p, P ≤ p → p < 5 → ∀ k, k < 4 → Mm 4 (5 + 4 * p + k) = nI 0)
def DF (M M1 : Mem) : Prop := (∀ c, c ≠ 1 → (c < 3 ∨ 9 < c) → M1 c = M c) ∧ M1 1 1 = M 1 1
theorem DF.rf (M : Mem) : DF M M := ⟨fun _ _ _ => rfl, rfl⟩
theorem DF.up {M M1 : Mem} (h : DF M M1) {c : Nat} (j : Nat) (v : Int32) (hc : 3 ≤ c) (hc2 : c ≤ 9) : DF M (up2 M1 c j v) := ⟨fun i h1 h2 => (up2_ne _ _ (by omega)).trans (h.1 i h1 h2), (congrFun (up2_ne _ _ (by omega)) 1).trans h.2⟩
theorem DF.ad {M M1 : Mem} (h : DF M M1) (p k : Nat) (t : Int32) : DF M (adS M1 5 p k t) := by
  unfold adS
  exact DF.up (DF.up h _ _ (by decide) (by decide)) _ _ (by decide) (by decide)
theorem DF.tr {M M1 M2 : Mem} (h : DF M M1) (h2 : DF M1 M2) : DF M M2 := ⟨fun c a b => (h2.1 c a b).trans (h.1 c a b), h2.2.trans h.2⟩
theorem NR_place {M : Mem} {a p : Nat} {row : Nat → Int32} {v : Int32} (h : NR M a row) (hp : p < 5) : NR (up2 M (a + 1) p v) a (upd row p v) := by
  refine ⟨fun q hq => ?_, fun q hq => ?_, fun q hq k hk => ?_, fun q hq => ?_, ?_⟩
  · rw [up2_self]
    by_cases e : q = p
    · subst e; rw [pk_us, pk_us]
    · rw [pk_un e, pk_un e]; exact h.1 q hq
  · rw [up2_ne _ _ (by omega), pk_un (by omega)]
    exact h.2.1 q hq
  · rw [up2_ne _ _ (by omega), pk_un (by omega)]
    exact h.2.2.1 q hq k hk
  · rw [up2_ne _ _ (by omega), aS_upd (by omega) hq]
    exact h.2.2.2.1 q hq
  · rw [up2_ne _ _ (by omega), moR_upd (by omega)]
    exact h.2.2.2.2
theorem NR_mem {M M1 : Mem} {a : Nat} {row : Nat → Int32} (h : NR M a row) (h1 : ∀ i, a ≤ i → i < a + 5 → M1 i = M i) : NR M1 a row := NR.to h h1
def qa (f : Nat → Int32) (n : Nat) (G : SG) : Int32 × SG := NF f n G (nI 0) (nI 99)
def qb (f : Nat → Int32) (n : Nat) (G : SG) (X : Nat) : Int32 × SG := NF f n (qa f n G).2 (nI 0) (nI X - nI 1)
def qM (f : Nat → Int32) (n : Nat) (Mm : Mem) (G : SG) (X P : Nat) : Mem := up2 (up2 Mm 3 (5 + P) (qa f n G).1) 4 P (qb f n G X).1
def qR (f : Nat → Int32) (n : Nat) (Mm : Mem) (G : SG) (X P i : Nat) : Mem × SG := rpF f n P (qM f n Mm G X P) (qb f n G X).2 i
theorem rdI_q {f : Nat → Int32} {n K X P : Nat} {Mm : Mem} {G : SG} (hK : Mm 2 3 = nI K) (hX : Mm 2 4 = nI X) (hP : Mm 2 5 = nI P) (hK4 : K ≤ 4) (hP4 : P ≤ 5) : rdI f n Mm G (nI 112) = (up2 (qR f n Mm G X P K).1 2 5 (nI (P + 1)), (qR f n Mm G X P K).2) := by
  unfold qR qM qb qa
  exact rdI_p hK hX hP hK4 hP4
/-- inside a person, behind i kinds -/
def LR (M M2 R : Mem) (X P i : Nat) : Prop := M2 3 = M 3 ∧ (M2 1 4 = M 1 4 ∧ M2 1 5 = M 1 5) ∧ (∀ p, p ≤ P → M2 4 p = R 3 (5 + p)) ∧ NR M2 5 (R 4) ∧ RW X (P + 1) (R 4) ∧ (∀ q k, P ≤ q → q < 5 → k < 4 → (q = P → i ≤ k) → R 4 (5 + 4 * q + k) = nI 0)
def PI (f : Nat → Int32) (n : Nat) (M : Mem) (g : CG) (Mm : Mem) (G : SG) (X P i : Nat) (M2 : Mem) (g2 : CG) : Prop := g2.1 ≤ n ∧ g.1 ≤ g2.1 ∧ DF M M2 ∧ GA f n g2.1 (qR f n Mm G X P i).2 ∧ LR M M2 (qR f n Mm G X P i).1 X P i
theorem aF_ge {f : Nat → Int32} {n : Nat} {g : CG} (h : g.1 ≤ n) : g.1 ≤ (aF f n g).1 := by rw [aF_1]; exact (tn_le h).1
theorem nQ_nat {g : CG} {hi : Nat} (h : hi < 1000) (hq : nQ g (nI 0) (nI hi)) : ∃ k : Nat, k ≤ hi ∧ g.2.2.2 = nI k := by
  obtain ⟨j, hj, e⟩ := nI_of (x := g.2.2.2) (by rw [← nI_0]; exact hq.2.1)
  have h2 := hq.2.2
  rw [e, nI_ltI (by omega) hj] at h2
  exact ⟨j, by omega, e⟩
theorem qb_ok {f : Nat → Int32} {n X : Nat} {g : CG} {G : SG} (hG : GA f n g.1 G) (c20 : nQ (aF f n g) (nI 0) (nI 99)) (c52 : nQ (aF f n (aF f n g)) (nI 0) (nI X - nI 1)) : (qa f n G).1 = (aF f n g).2.2.2 ∧ (qb f n G X).1 = (aF f n (aF f n g)).2.2.2 ∧ GA f n (aF f n (aF f n g)).1 (qb f n G X).2 := by
  unfold qb qa
  have h1 := NF_q hG c20
  have h2 := NF_q h1.2 c52
  exact ⟨h1.1, h2.1, h2.2⟩
theorem PI_0 {f : Nat → Int32} {n K X P : Nat} {M Mm : Mem} {g : CG} {G : SG} (hG : GA f n g.1 G) (hD : DR M Mm K X P) (hg : g.1 ≤ n) (hP4 : P < 5) (c20 : nQ (aF f n g) (nI 0) (nI 99)) (c52 : nQ (aF f n (aF f n g)) (nI 0) (nI X - nI 1)) : PI f n M g Mm G X P 0 (up2 (up2 M 4 P (aF f n g).2.2.2) 6 P (aF f n (aF f n g)).2.2.2) (aF f n (aF f n g)) := by
  obtain ⟨h1, h2, h3⟩ := qb_ok hG c20 c52
  obtain ⟨⟨hK1, hK4, hX1, hX4, hP5⟩, d1, d2, d3, d4, d5, d6, d7, d8, d9, d10, d11⟩ := hD
  have hg1 : (aF f n g).1 ≤ n := aF_ok hg
  have eR : qR f n Mm G X P 0 = (up2 (up2 Mm 3 (5 + P) (aF f n g).2.2.2) 4 P (aF f n (aF f n g)).2.2.2, (qb f n G X).2) := by
    unfold qR qM
    rw [h1, h2]
    simp only [rpF]
  refine ⟨aF_ok hg1, Nat.le_trans (aF_ge hg) (aF_ge hg1), DF.up (DF.up (DF.rf M) _ _ (by decide) (by decide)) _ _ (by decide) (by decide), ?_, ?_⟩
  · rw [eR, snd_mk]
    exact h3
  · rw [eR, fst_mk]
    have hx : ∃ x : Nat, x < X ∧ (aF f n (aF f n g)).2.2.2 = nI x := by
      rw [pk_sub hX1] at c52
      obtain ⟨x, hx, e⟩ := nQ_nat (by omega) c52
      exact ⟨x, by omega, e⟩
    have e4 : up2 (up2 Mm 3 (5 + P) (aF f n g).2.2.2) 4 P (aF f n (aF f n g)).2.2.2 4 = upd (Mm 4) P (aF f n (aF f n g)).2.2.2 := by
      rw [up2_self, up2_ne _ _ (by decide)]
    refine ⟨?_, ⟨?_, ?_⟩, ?_, ?_, ?_, ?_⟩
    · rw [up2_ne _ _ (by decide), up2_ne _ _ (by decide)]
    · rw [up2_ne _ _ (by decide), up2_ne _ _ (by decide)]
    · rw [up2_ne _ _ (by decide), up2_ne _ _ (by decide)]
    · intro p hp
      rw [up2_ne _ _ (by decide), up2_self, up2_ne _ _ (by decide), up2_self]
      by_cases e : p = P
      · subst e; rw [pk_us, pk_us]
      · rw [pk_un e, pk_un (by omega)]
        exact d8 p (by omega)
    · rw [e4]
      refine NR_place (a := 5) (NR_mem d9 (fun i hi hi2 => up2_ne _ _ (by omega))) hP4
    · rw [e4]
      refine ⟨WR_upd d10.1 (Or.inl (by omega)), ?_, ?_, ?_⟩
      · rw [pk_un (by omega)]; exact d10.2.1
      · intro p hp
        rw [pk_un (by omega)]; exact d10.2.2.1 p hp
      · intro p hp
        by_cases e : p = P
        · subst e; rw [pk_us]; exact hx
        · rw [pk_un e]; exact d10.2.2.2 p (by omega)
    · intro q k hq hq5 hk _
      rw [e4, pk_un (by omega)]
      exact d11 q hq hq5 k hk
theorem qR_s (f : Nat → Int32) (n : Nat) (Mm : Mem) (G : SG) (X P i : Nat) : qR f n Mm G X P (i + 1) = (up2 (qR f n Mm G X P i).1 4 (5 + 4 * P + i) (NF f n (qR f n Mm G X P i).2 (nI 0) (nI 9)).1, (NF f n (qR f n Mm G X P i).2 (nI 0) (nI 9)).2) := by
  unfold qR
  exact rpF_s _ _ _ _ _ _
theorem PI_s {f : Nat → Int32} {n X P i : Nat} {M Mm M2 : Mem} {g g2 : CG} {G : SG} (h : PI f n M g Mm G X P i M2 g2) (hP4 : P < 5) (hi : i < 4) (c90 : nQ (aF f n g2) (nI 0) (nI 9)) : PI f n M g Mm G X P (i + 1) (adS M2 5 P i (aF f n g2).2.2.2) (aF f n g2) := by
  obtain ⟨h1, h2, h3, h4, l1, l2, l3, l4, l5, l6⟩ := h
  obtain ⟨e1, e2⟩ := NF_q h4 c90
  have hz := l6 P i (Nat.le_refl P) hP4 hi (fun _ => Nat.le_refl i)
  have e4 : up2 (qR f n Mm G X P i).1 4 (5 + 4 * P + i) (aF f n g2).2.2.2 4 = upd ((qR f n Mm G X P i).1 4) (5 + 4 * P + i) (aF f n g2).2.2.2 := up2_self _ _ _ _
  refine ⟨aF_ok h1, Nat.le_trans h2 (aF_ge h1), DF.ad h3 _ _ _, ?_, ?_⟩
  · rw [qR_s, snd_mk]
    exact e2
  · rw [qR_s, fst_mk, e1]
    refine ⟨?_, ⟨?_, ?_⟩, ?_, ?_, ?_, ?_⟩
    · rw [adS_fr _ _ _ _ _ (by omega)]; exact l1
    · rw [adS_fr _ _ _ _ _ (by omega)]; exact l2.1
    · rw [adS_fr _ _ _ _ _ (by omega)]; exact l2.2
    · intro p hp
      rw [adS_fr _ _ _ _ _ (by omega), up2_ne _ _ (by decide)]
      exact l3 p hp
    · rw [e4]
      have h5 := adS_NR l4 hP4 hi (aF f n g2).2.2.2
      rw [hz, nI_0, Int32.zero_add] at h5
      exact h5
    · rw [e4]
      obtain ⟨k, hk, ek⟩ := nQ_nat (by decide) c90
      refine ⟨WR_upd l5.1 (Or.inr ⟨k, by omega, ek⟩), ?_, ?_, ?_⟩
      · rw [pk_un (by omega)]; exact l5.2.1
      · intro p hp
        rw [pk_un (by omega)]; exact l5.2.2.1 p hp
      · intro p hp
        rw [pk_un (by omega)]; exact l5.2.2.2 p hp
    · intro q k hq hq5 hk hqk
      rw [e4, pk_un (by omega)]
      exact l6 q k hq hq5 hk (fun e => by have := hqk e; omega)
/-- what reading an item leaves -/
def IQ (f : Nat → Int32) (n : Nat) (M : Mem) (g : CG) (S : Mem × SG) (rz : Int32) (M2 : Mem) (g2 : CG) : Prop := (g2.1 ≤ n ∧ g.1 ≤ g2.1 ∧ DF M M2) ∧ ((rz = nI 1 ∧ GA f n g2.1 S.2 ∧ ∃ K X P, DR M2 S.1 K X P) ∨ (rz = nI 0 ∧ S.2.2.2.2.2 = g2.2.1 ∧ ∃ q : Nat, q ≤ 150 ∧ g2.2.1 = nI q))
theorem aF_nn {f : Nat → Int32} {n : Nat} {g : CG} (hn : n ≤ 150) (h : g.1 ≤ n) : ¬ (aF f n g).2.1 < 0 := by rw [aF_2]; exact sk_nn hn h
theorem aF_nq {f : Nat → Int32} {n : Nat} {g : CG} (hn : n ≤ 150) (h : g.1 ≤ n) : ∃ q : Nat, q ≤ 150 ∧ (aF f n g).2.1 = nI q := ⟨sk f n g.1, by have := (sk_le (f := f) h).2; omega, aF_2 f n g⟩
theorem nn_of {x : Int32} (h : ∃ q : Nat, q ≤ 150 ∧ x = nI q) : ¬ x < 0 := by
  obtain ⟨q, hq, rfl⟩ := h
  exact nI_pos (by omega)
theorem qR_bad {f : Nat → Int32} {n : Nat} {Mm : Mem} {G : SG} {X P i : Nat} (h : ¬ (qR f n Mm G X P i).2.2.2.2.2 < 0) (j : Nat) : (qR f n Mm G X P (i + j)).2 = (qR f n Mm G X P i).2 := by
  unfold qR at h ⊢
  exact rpF_bad h j
theorem qR_0 (f : Nat → Int32) (n : Nat) (Mm : Mem) (G : SG) (X P : Nat) : (qR f n Mm G X P 0).2 = (qb f n G X).2 := by
  unfold qR
  simp only [rpF]
theorem IQ_f {f : Nat → Int32} {n K X P i : Nat} {M Mm : Mem} {g g2 : CG} {G : SG} (hD : DR M Mm K X P) (hn : n ≤ 150) (hi : i ≤ K) {M2 : Mem} (h1 : g2.1 ≤ n ∧ g.1 ≤ g2.1) (h2 : DF M M2) (h3 : (qR f n Mm G X P i).2.2.2.2.2 = g2.2.1) (h4 : ∃ q : Nat, q ≤ 150 ∧ g2.2.1 = nI q) : IQ f n M g (rdI f n Mm G (nI 112)) (nI 0) M2 g2 := by
  obtain ⟨⟨hK1, hK4, hX1, hX4, hP5⟩, d1, d2, d3, d4, d5, d6, d7, d8, d9, d10, d11⟩ := hD
  refine ⟨⟨h1.1, h1.2, h2⟩, Or.inr ⟨rfl, ?_, h4⟩⟩
  rw [rdI_q d2 d4 d6 hK4 hP5, snd_mk]
  have e := qR_bad (f := f) (n := n) (Mm := Mm) (G := G) (X := X) (P := P) (i := i) (by rw [h3]; exact nn_of h4) (K - i)
  rw [show i + (K - i) = K by omega] at e
  rw [e]
  exact h3
theorem IQ_1 {f : Nat → Int32} {n K X P : Nat} {M Mm : Mem} {g : CG} {G : SG} (hG : GA f n g.1 G) (hD : DR M Mm K X P) (hn : n ≤ 150) (hg : g.1 ≤ n) (c20 : ¬ nQ (aF f n g) (nI 0) (nI 99)) : IQ f n M g (rdI f n Mm G (nI 112)) (nI 0) M (aF f n g) := by
  refine IQ_f (i := 0) hD hn (Nat.zero_le _) ⟨aF_ok hg, aF_ge hg⟩ (DF.rf M) ?_ (aF_nq hn hg)
  have e := NF_nq hG c20
  have e2 : (qa f n G).2.2.2.2.2 = (aF f n g).2.1 := by unfold qa; exact e
  rw [qR_0]
  unfold qb
  rw [NF_no (by rw [e2]; exact aF_nn hn hg), snd_mk]
  exact e2
theorem IQ_2 {f : Nat → Int32} {n K X P : Nat} {M Mm : Mem} {g : CG} {G : SG} (hG : GA f n g.1 G) (hD : DR M Mm K X P) (hn : n ≤ 150) (hg : g.1 ≤ n) (v : Int32) (c20 : nQ (aF f n g) (nI 0) (nI 99)) (c52 : ¬ nQ (aF f n (aF f n g)) (nI 0) (nI X - nI 1)) : IQ f n M g (rdI f n Mm G (nI 112)) (nI 0) (up2 M 4 P v) (aF f n (aF f n g)) := by
  have hg1 : (aF f n g).1 ≤ n := aF_ok hg
  refine IQ_f (i := 0) hD hn (Nat.zero_le _) ⟨aF_ok hg1, Nat.le_trans (aF_ge hg) (aF_ge hg1)⟩ (DF.up (DF.rf M) _ _ (by decide) (by decide)) ?_ (aF_nq hn hg1)
  rw [qR_0]
  unfold qb qa
  exact NF_nq (NF_q hG c20).2 c52
theorem IQ_3 {f : Nat → Int32} {n K X P i : Nat} {M Mm M2 : Mem} {g g2 : CG} {G : SG} (hD : DR M Mm K X P) (hn : n ≤ 150) (h : PI f n M g Mm G X P i M2 g2) (hi : i < K) (c90 : ¬ nQ (aF f n g2) (nI 0) (nI 9)) : IQ f n M g (rdI f n Mm G (nI 112)) (nI 0) M2 (aF f n g2) := by
  obtain ⟨h1, h2, h3, h4, hl⟩ := h
  refine IQ_f (i := i + 1) hD hn hi ⟨aF_ok h1, Nat.le_trans h2 (aF_ge h1)⟩ h3 ?_ (aF_nq hn h1)
  rw [qR_s, snd_mk]
  exact NF_nq h4 c90
theorem IQ_4 {f : Nat → Int32} {n K X P : Nat} {M Mm M2 : Mem} {g g2 : CG} {G : SG} (hD : DR M Mm K X P) (hP4 : P < 5) (h : PI f n M g Mm G X P K M2 g2) : IQ f n M g (rdI f n Mm G (nI 112)) (nI 1) (up2 M2 3 2 (nI (P + 1))) g2 := by
  obtain ⟨h1, h2, h3, h4, l1, l2, l3, l4, l5, l6⟩ := h
  obtain ⟨⟨hK1, hK4, hX1, hX4, hP5⟩, d1, d2, d3, d4, d5, d6, ⟨b1, b2, hb1, hb2, t1, t2, t3⟩, d8, d9, d10, d11⟩ := hD
  refine ⟨⟨h1, h2, DF.up h3 _ _ (by decide) (by decide)⟩, Or.inl ⟨rfl, ?_, K, X, P + 1, ?_⟩⟩
  · rw [rdI_q d2 d4 d6 hK4 hP5, snd_mk]
    exact h4
  · rw [rdI_q d2 d4 d6 hK4 hP5, fst_mk]
    have hq : ∀ c, c ≠ 3 → c ≠ 4 → (qR f n Mm G X P K).1 c = Mm c := fun c hc3 hc4 => by
      unfold qR
      rw [rpF_fr _ _ _ _ _ _ hc4]
      unfold qM
      rw [up2_ne _ _ hc4, up2_ne _ _ hc3]
    refine ⟨⟨hK1, hK4, hX1, hX4, hP4⟩, ?_, ?_, ?_, ?_, up2_at _ _ _ _, up2_at _ _ _ _, ⟨b1, b2, hb1, hb2, ?_, ?_, ?_⟩, ?_, ?_, ?_, ?_⟩
    · rw [up2_no _ _ _ (by decide), l1]; exact d1
    · rw [up2_no _ _ _ (by decide), hq 2 (by decide) (by decide)]; exact d2
    · rw [up2_no _ _ _ (by decide), l1]; exact d3
    · rw [up2_no _ _ _ (by decide), hq 2 (by decide) (by decide)]; exact d4
    · rw [up2_ne _ _ (by decide), hq 0 (by decide) (by decide)]; exact t1
    · rw [up2_ne _ _ (by decide), l2.1]; exact t2
    · rw [up2_ne _ _ (by decide), l2.2]; exact t3
    · intro p hp
      rw [up2_ne _ _ (by decide), up2_ne _ _ (by decide)]
      exact l3 p (by omega)
    · rw [up2_ne _ _ (show (4 : Nat) ≠ 2 by decide)]
      exact NR_mem l4 (fun i hi hi2 => up2_ne _ _ (by omega))
    · rw [up2_ne _ _ (by decide)]
      exact l5
    · intro p hp hp5 k hk
      rw [up2_ne _ _ (by decide)]
      exact l6 p k (by omega) hp5 hk (fun e => absurd e (by omega))
theorem txS_ad (M : Mem) (g : CG) (p k : Nat) (t : Int32) : adS (txS M g) 5 p k t = txS (adS M 5 p k t) g := by
  unfold adS
  rw [txS_ne _ _ (show (5 + 3 : Nat) ≠ 1 by decide), txS_ne _ _ (show (5 + 4 : Nat) ≠ 1 by decide), txS_up _ _ _ _ (by decide), txS_up _ _ _ _ (by decide)]
