theorem rdI_f2 (f : Nat → Int32) (n : Nat) (M : Mem) (g : SG) (v : Int32) {j : Nat} (h : j < 3) : (rdI f n M g v).1 2 j = M 2 j := by
  unfold rdI
  split
  · rw [fst_mk, up2_no _ _ _ (by omega), rdP_fr f n M g (by decide) (by decide)]
  · split
    · rw [fst_mk, up2_ne _ _ (by decide), up2_no _ _ _ (by omega)]
    · rw [fst_mk, up2_ne _ _ (by decide), up2_no _ _ _ (by omega)]
theorem rdP_f3 (f : Nat → Int32) (n : Nat) (M : Mem) (g : SG) {j : Nat} (h : j < 5) : (rdP f n M g).1 3 j = M 3 j := by
  unfold rdP
  rw [rpF_fr _ _ _ _ _ _ (by decide)]
  unfold pnM
  rw [up2_ne _ _ (by decide), up2_no _ _ _ (by omega)]
theorem rdI_f3 (f : Nat → Int32) (n : Nat) (M : Mem) (g : SG) (v : Int32) {j : Nat} (h : j < 5) : (rdI f n M g v).1 3 j = M 3 j := by
  unfold rdI
  split
  · rw [fst_mk, up2_ne _ _ (by decide), rdP_f3 f n M g h]
  · split
    · rw [fst_mk, up2_ne _ _ (by decide), up2_ne _ _ (by decide)]
    · rw [fst_mk, up2_ne _ _ (by decide), up2_ne _ _ (by decide)]
theorem itM_f2 (f : Nat → Int32) (n : Nat) (s : Mem × SG) {j : Nat} (h : j < 3) : (itM f n s).1 2 j = s.1 2 j := by
  rw [itM_1]
  unfold it2
  split
  · exact rdI_f2 _ _ _ _ _ h
  · rfl
theorem itM_f3 (f : Nat → Int32) (n : Nat) (s : Mem × SG) {j : Nat} (h : j < 5) : (itM f n s).1 3 j = s.1 3 j := by
  rw [itM_1]
  unfold it2
  split
  · exact rdI_f3 _ _ _ _ _ h
  · rfl
theorem itN_f2 (f : Nat → Int32) (n : Nat) (s : Mem × SG) (i : Nat) {j : Nat} (h : j < 3) : (itN f n s i).1 2 j = s.1 2 j := by
  induction i with
  | zero => rfl
  | succ i ih => exact (itM_f2 f n _ h).trans ih
theorem itN_f3 (f : Nat → Int32) (n : Nat) (s : Mem × SG) (i : Nat) {j : Nat} (h : j < 5) : (itN f n s i).1 3 j = s.1 3 j := by
  induction i with
  | zero => rfl
  | succ i ih => exact (itM_f3 f n _ h).trans ih
theorem tB_fr (M : Mem) {c : Nat} (h0 : c ≠ 0) (h2 : c ≠ 2) (h4 : c ≠ 4) : tB M c = M c := by
  unfold tB bg0
  rw [setR_ne _ _ h4, up2_ne _ _ h2, up2_ne _ _ h2, up2_ne _ _ h2, up2_ne _ _ h0, up2_ne _ _ h0, up2_ne _ _ h0]
theorem tB_0 (M : Mem) {j : Nat} (h : j ≠ 4 ∧ j ≠ 8 ∧ j ≠ 9) : tB M 0 j = M 0 j := by
  unfold tB bg0
  rw [setR_ne _ _ (by decide), up2_ne _ _ (by decide), up2_ne _ _ (by decide), up2_ne _ _ (by decide), up2_no _ _ _ h.2.2, up2_no _ _ _ h.1, up2_no _ _ _ h.2.1]
theorem tB_2 (M : Mem) {j : Nat} (h : j < 3) : tB M 2 j = M 2 j := by
  unfold tB bg0
  rw [setR_ne _ _ (by decide), up2_no _ _ _ (by omega), up2_no _ _ _ (by omega), up2_no _ _ _ (by omega), up2_ne _ _ (by decide), up2_ne _ _ (by decide), up2_ne _ _ (by decide)]
section TW
variable {l : Launch} {D : DX} {B Bm : Nat} {T : Int64} {M : Mem} {Tm : Int64} {Mm : Mem}
theorem S_fr (f : Nat → Int32) (n j : Nat) (Mm : Mem) {c : Nat} (h0 : c ≠ 0) (h2 : c ≠ 2) (h3 : c ≠ 3) (h4 : c ≠ 4) : tyS (itN f n (s0 Mm n) j).1 (itN f n (s0 Mm n) j).2 c = Mm c := by
  rw [tyS_ne _ _ h0, itN_fr f n _ j h0 h2 h3 h4, s0_e, fst_mk, tB_fr Mm h0 h2 h4]
theorem S_0 (f : Nat → Int32) (n j : Nat) (Mm : Mem) {i : Nat} (h : i < 4 ∨ 9 < i) : tyS (itN f n (s0 Mm n) j).1 (itN f n (s0 Mm n) j).2 0 i = Mm 0 i := by
  rw [tyS_o _ _ (by omega), itN_f0 f n _ j (by omega), s0_e, fst_mk, tB_0 Mm (by omega)]
theorem S_2 (f : Nat → Int32) (n j : Nat) (Mm : Mem) {i : Nat} (h : i < 3) : tyS (itN f n (s0 Mm n) j).1 (itN f n (s0 Mm n) j).2 2 i = Mm 2 i := by
  rw [tyS_ne _ _ (by decide), itN_f2 f n _ j h, s0_e, fst_mk, tB_2 Mm h]
theorem S_3 (f : Nat → Int32) (n j : Nat) (Mm : Mem) {i : Nat} (h : i < 5) : tyS (itN f n (s0 Mm n) j).1 (itN f n (s0 Mm n) j).2 3 i = Mm 3 i := by
  rw [tyS_ne _ _ (by decide), itN_f3 f n _ j h, s0_e, fst_mk, tB_fr Mm (by decide) (by decide) (by decide)]
theorem town_no {f : Nat → Int32} {n j : Nat} {M2 : Mem} {g2 : CG} (h : Rel T M Tm Mm) (hF : DF M M2) : Rel T (txS M2 g2) Tm (tyS (itN f n (s0 Mm n) j).1 (itN f n (s0 Mm n) j).2) := by
  obtain ⟨hT, h0, K, X, P, a1, a2, a3, a4, a5, a6⟩ := h
  have e : ∀ c, c ≠ 1 → (c < 3 ∨ 9 < c) → txS M2 g2 c = M c := fun c q1 q2 => (txS_ne _ _ q1).trans (hF.1 c q1 q2)
  refine ⟨hT, (S_0 f n j Mm (by decide)).trans h0, K, X, P, ?_, ?_, ?_, ?_, ?_, ?_⟩
  · exact a1.to (e 10 (by decide) (by decide)) (e 11 (by decide) (by decide)) (fun i hi => S_2 f n j Mm hi) (fun i hi => S_3 f n j Mm hi)
  · exact a2.to (fun c q1 q2 => e c (by omega) (by omega)) (S_fr f n j Mm (by decide) (by decide) (by decide) (by decide))
  · exact a3.to ((txS_o _ _ (by decide)).trans hF.2) (e 2 (by decide) (by decide)) (S_0 f n j Mm (by decide)) (S_fr f n j Mm (by decide) (by decide) (by decide) (by decide))
  · exact a4.to (by rw [e 92 (by decide) (by decide)]) (e 93 (by decide) (by decide)) (e 94 (by decide) (by decide)) (e 95 (by decide) (by decide)) (S_0 f n j Mm (by decide)) (S_fr f n j Mm (by decide) (by decide) (by decide) (by decide)) (S_fr f n j Mm (by decide) (by decide) (by decide) (by decide)) (S_fr f n j Mm (by decide) (by decide) (by decide) (by decide))
  · exact a5.to (by rw [e 17 (by decide) (by decide)]) (by rw [e 17 (by decide) (by decide)]) (fun c q1 q2 => e c (by omega) (by omega)) (S_0 f n j Mm (by decide)) (S_fr f n j Mm (by decide) (by decide) (by decide) (by decide))
  · exact a6.to (e 107 (by decide) (by decide)) (fun c q1 q2 => e c (by omega) (by omega)) (S_fr f n j Mm (by decide) (by decide) (by decide) (by decide)) (S_fr f n j Mm (by decide) (by decide) (by decide) (by decide))
theorem seM_0 (M : Mem) {j : Nat} (h : j ≠ 3 ∧ j ≠ 18 ∧ j ≠ 22) : seM M 0 j = M 0 j := by
  unfold seM
  rw [up2_ne _ _ (by decide), up2_ne _ _ (by decide), up2_no _ _ _ h.2.1, up2_no _ _ _ h.2.2, up2_no _ _ _ h.1, setR_ne _ _ (by decide), setR_ne _ _ (by decide), setR_ne _ _ (by decide)]
theorem seM_1 (M : Mem) : seM M 1 = M 1 := by
  unfold seM
  rw [up2_ne _ _ (by decide), up2_ne _ _ (by decide), up2_ne _ _ (by decide), up2_ne _ _ (by decide), up2_ne _ _ (by decide), setR_ne _ _ (by decide), setR_ne _ _ (by decide), setR_ne _ _ (by decide)]
theorem seM_2 (M : Mem) {j : Nat} (h : j < 3) : seM M 2 j = M 2 (3 + j) := by
  unfold seM
  rw [up2_ne _ _ (by decide), up2_ne _ _ (by decide), up2_ne _ _ (by decide), up2_ne _ _ (by decide), up2_ne _ _ (by decide), setR_ne _ _ (by decide), setR_ne _ _ (by decide), setR_self, cpR_in _ _ h]
theorem seM_3 (M : Mem) {j : Nat} (h : j < 5) : seM M 3 j = M 3 (5 + j) := by
  unfold seM
  rw [up2_ne _ _ (by decide), up2_ne _ _ (by decide), up2_ne _ _ (by decide), up2_ne _ _ (by decide), up2_ne _ _ (by decide), setR_ne _ _ (by decide), setR_self, cpR_in _ _ h]
theorem seM_5 (M : Mem) : seM M 5 = M 4 := by
  unfold seM
  rw [up2_ne _ _ (by decide), up2_ne _ _ (by decide), up2_ne _ _ (by decide), up2_ne _ _ (by decide), up2_ne _ _ (by decide), setR_self]
theorem twM_fr (N : Mem) {c : Nat} (h : c ≠ 1 ∧ c ≠ 17 ∧ c ≠ 92 ∧ c ≠ 107) (h2 : c < 12 ∨ 17 ≤ c) : twM N c = cpT N c := by
  unfold twM
  rw [up2_ne _ _ h.2.2.2, up2_ne _ _ h.2.2.2, up2_ne _ _ h.2.2.1, up2_ne _ _ h.2.1, up2_ne _ _ h.1, cpN_fr _ _ _ (by omega)]
theorem cpT_fr (N : Mem) {c : Nat} (h : c ≠ 10) (h2 : c ≠ 11) : cpT N c = N c := by
  unfold cpT
  rw [setR_ne _ _ h2, up2_ne _ _ h, up2_ne _ _ h, up2_ne _ _ h]
theorem cpT_10 (N : Mem) : cpT N 10 0 = N 3 0 ∧ cpT N 10 1 = N 3 1 ∧ cpT N 10 2 = N 3 2 := by
  unfold cpT
  rw [setR_ne _ _ (by decide)]
  exact ⟨by rw [up2_no _ _ _ (by decide), up2_no _ _ _ (by decide), up2_at], by rw [up2_no _ _ _ (by decide), up2_at], up2_at _ _ _ _⟩
theorem cpT_11 (N : Mem) : cpT N 11 = N 4 := by
  unfold cpT
  exact setR_self _ _ _
theorem town_ok {n : Nat} {M2 Sm : Mem} {g2 : CG} {G2 : SG} {K X P : Nat} (hL : ∀ j, inR (Mm 1 j) 256) (hf : M 2 = Mm 1) (hT : Tm = T) (h0 : Mm 0 0 = nI 0) (nx : Nat) (hnx : nx < 10) (h17 : M 17 1 = nI nx) (hF : DF M M2) (hD : DR M2 Sm K X P) (hS0 : tyS Sm G2 0 0 = Mm 0 0) (hS1 : tyS Sm G2 1 = Mm 1) : Rel T (twM (txS M2 g2)) Tm (seM (tyS Sm G2)) := by
  obtain ⟨⟨hK1, hK4, hX1, hX4, hP5⟩, d1, d2, d3, d4, d5, d6, d7, d8, d9, d10, d11⟩ := hD
  have e10 : twM (txS M2 g2) 10 = cpT (txS M2 g2) 10 := twM_fr _ (by decide) (by decide)
  have e11 : twM (txS M2 g2) 11 = M2 4 := by rw [twM_fr _ (by decide) (by decide), cpT_11, txS_ne _ _ (by decide)]
  have e3 : txS M2 g2 3 = M2 3 := txS_ne _ _ (by decide)
  have es2 : tyS Sm G2 2 = Sm 2 := tyS_ne _ _ (by decide)
  have es3 : tyS Sm G2 3 = Sm 3 := tyS_ne _ _ (by decide)
  have es4 : tyS Sm G2 4 = Sm 4 := tyS_ne _ _ (by decide)
  have hc := cpT_10 (txS M2 g2)
  rw [e3] at hc
  refine ⟨hT, ?_, K, X, P, ⟨⟨hK1, hK4⟩, ⟨hX1, hX4⟩, hP5, ?_, ?_, ?_, ?_, ?_, ?_, fun p hp => ?_⟩, ⟨?_, ?_⟩, ⟨0, by decide, ?_, ?_, ?_, ?_⟩, ⟨0, by decide, ?_, ?_, fun i hi => absurd hi (Nat.not_lt_zero _)⟩, ⟨nx, 0, hnx, by decide, ?_, ?_, ?_, fun i hi => absurd hi (Nat.not_lt_zero _)⟩, fun g hg => ?_⟩
  · rw [seM_0 _ (by decide), hS0]; exact h0
  · rw [e10, hc.1]; exact d1
  · rw [seM_2 _ (by decide), es2]; exact d2
  · rw [e10, hc.2.1]; exact d3
  · rw [seM_2 _ (by decide), es2]; exact d4
  · rw [e10, hc.2.2]; exact d5
  · rw [seM_2 _ (by decide), es2]; exact d6
  · rw [e11, seM_3 _ (by omega), es3]; exact d8 p hp
  · rw [seM_5, es4]
    refine NR_mem (M := cpN (cpT (txS M2 g2)) 12 5) (cpN_NR (NR_mem d9 (fun i q1 q2 => ?_))) (fun i q1 q2 => ?_)
    · rw [cpT_fr _ (by omega) (by omega), txS_ne _ _ (by omega)]
    · unfold twM
      rw [up2_ne _ _ (by omega), up2_ne _ _ (by omega), up2_ne _ _ (by omega), up2_ne _ _ (by omega), up2_ne _ _ (by omega)]
  · rw [seM_5, es4]
    exact ⟨d10.1, ⟨0, Nat.zero_le _, d10.2.1⟩, d10.2.2.2, fun p _ hp5 => d10.2.2.1 p hp5⟩
  · unfold twM
    rw [up2_ne _ _ (by decide), up2_ne _ _ (by decide), up2_ne _ _ (by decide), up2_ne _ _ (by decide), up2_at]
  · unfold seM
    rw [up2_ne _ _ (by decide), up2_ne _ _ (by decide), up2_no _ _ _ (by decide), up2_no _ _ _ (by decide), up2_at]
  · rw [twM_fr _ (by decide) (by decide), cpT_fr _ (by decide) (by decide), txS_ne _ _ (by decide), hF.1 2 (by decide) (by decide), seM_1, hS1]; exact hf
  · rw [seM_1, hS1]; exact hL
  · unfold twM
    rw [up2_ne _ _ (by decide), up2_ne _ _ (by decide), up2_at]
  · unfold seM
    rw [up2_ne _ _ (by decide), up2_ne _ _ (by decide), up2_no _ _ _ (by decide), up2_at]
  · unfold twM
    rw [up2_ne _ _ (by decide), up2_ne _ _ (by decide), up2_ne _ _ (by decide), up2_no _ _ _ (by decide), up2_ne _ _ (by decide), cpN_fr _ _ _ (by decide), cpT_fr _ (by decide) (by decide), txS_ne _ _ (by decide), hF.1 17 (by decide) (by decide)]; exact h17
  · unfold twM
    rw [up2_ne _ _ (by decide), up2_ne _ _ (by decide), up2_ne _ _ (by decide), up2_at]
  · unfold seM
    rw [up2_ne _ _ (by decide), up2_ne _ _ (by decide), up2_at]
  · have g1 : twM (txS M2 g2) 107 g = nI 0 := by
      unfold twM
      rcases (show g = 0 ∨ g = 1 by omega) with rfl | rfl
      · rw [up2_no _ _ _ (by decide), up2_at]
      · rw [up2_at]
    have g2 : seM (tyS Sm G2) 8 g = nI 0 := by
      unfold seM
      rcases (show g = 0 ∨ g = 1 by omega) with rfl | rfl
      · rw [up2_no _ _ _ (by decide), up2_at]
      · rw [up2_at]
    exact ⟨g1.trans g2.symm, Or.inl g2⟩
theorem sub_sub32 (x y z : Int32) : x - y - z = x - (y + z) := by rw [Int32.sub_eq_add_neg (x - y), Int32.sub_eq_add_neg x y, Int32.sub_eq_add_neg x, Int32.neg_add, Int32.sub_eq_add_neg (-y), Int32.add_assoc]
theorem m10_neg {q : Nat} (h : q ≤ 150) : (-10 : Int32) - nI q < 0 := by
  rw [show (-10 : Int32) = nI 0 - nI 10 by decide, sub_sub32, nI_add]
  exact pk_sneg (by omega) (by omega)
theorem ag_town (h : Rel T M Tm Mm) : AgI l D B Bm yX6_town cX6_town 2 7 yX7_town cX7_town 3 6 [] T M Tm Mm := by
  have hR := h
  obtain ⟨hT, h0, K, X, P, a1, a2, ⟨ty, t1, t2, t3, t4, t5⟩, a4, ⟨nx, U, u1, u2, u3, u4, u5, u6⟩, a6⟩ := h
  refine ⟨_, _, k_X6_town l D B T M (Mm 1) ty t4 t2 t1 Mm rfl, k_X7_town l D Bm Tm Mm h0 ty t3 t1 (fun j _ => t5 j), ?_⟩
  intro r T1 M1 r1 Tm1 Mm1 q1 q2
  obtain ⟨e1, M2, g2, hM, hF, j, hE, hq⟩ := q1
  obtain ⟨j2, hE2, e2, hq2⟩ := q2
  have hj : j2 = j := by
    rcases Nat.lt_trichotomy j2 j with c | c | c
    · have h1 := hE j2 c
      rcases hq2 with ⟨h2, -⟩ | ⟨-, h2, -⟩
      · exact absurd h1.1 h2
      · exact absurd h2 h1.2
    · exact c
    · have h1 := hE2 j c
      rcases hq with ⟨q, hq, h2, -⟩ | ⟨-, h2, -⟩
      · rw [h2] at h1
        exact absurd h1.1 (nI_pos (by omega))
      · exact absurd h2 h1.2
  subst hj
  subst e1
  subst e2
  rcases hq with ⟨q, hq, h1, h2⟩ | ⟨h1, h2, h3, h4, h5⟩
  · rcases hq2 with ⟨h6, h7, h8⟩ | ⟨h6, -⟩
    · have hr : r < 0 := by rw [h2]; exact m10_neg hq
      rcases hM with ⟨-, rfl⟩ | ⟨c, -⟩
      · refine ⟨by rw [h2, h7, h1], ?_⟩
        rw [h8]
        exact town_no hR hF
      · exact absurd hr c
    · rw [h1] at h6
      exact absurd h6 (nI_pos (by omega))
  · rcases hq2 with ⟨h6, -⟩ | ⟨-, -, h7, h8⟩
    · exact absurd h1 h6
    · have hr : ¬ r < 0 := by rw [h3]; exact nI_pos (by omega)
      rcases hM with ⟨c, -⟩ | ⟨-, rfl⟩
      · exact absurd c hr
      · obtain ⟨K2, X2, P2, hD⟩ := h5
        refine ⟨by rw [h3, h7], ?_⟩
        rw [h8]
        exact town_ok (n := ty) t5 t4 hT h0 nx u1 u3 hF hD (S_0 (Mm 1) ty _ Mm (by decide)) (S_fr (Mm 1) ty _ Mm (by decide) (by decide) (by decide) (by decide))
theorem ag_trace (h : Rel T M Tm Mm) : ∃ (pc pm : Int64 → Int64 → Mem → Prop), Cl l D B 108 (celC D B) yX6_trace cX6_trace 1 (some .long) 0 [.ref (B + 0)] T M pc ∧ Cl l D Bm 14 (celM D Bm) yX7_trace cX7_trace 1 (some .long) 0 [.ref (Bm + 0)] Tm Mm pm ∧ ∀ r T1 M1 r1 Tm1 Mm1, pc r T1 M1 → pm r1 Tm1 Mm1 → r = r1 ∧ Rel T1 M1 Tm1 Mm1 :=
  ⟨_, _, k_X6_trace l D B T M, k_X7_trace l D Bm Tm Mm h.2.1, fun _ _ _ _ _ _ q1 q2 => by
    obtain ⟨rfl, rfl, rfl⟩ := q1
    obtain ⟨rfl, rfl, rfl⟩ := q2
    exact ⟨h.1.symm, h⟩⟩
end TW
