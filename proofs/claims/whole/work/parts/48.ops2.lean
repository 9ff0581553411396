section AG2
variable {l : Launch} {D : DX} {B Bm : Nat} {T : Int64} {M : Mem} {Tm : Int64} {Mm : Mem}
theorem ag_who (h : Rel T M Tm Mm) (k x : Int32) : AgI l D B Bm yX6_who cX6_who 3 2 yX7_who cX7_who 3 3 [.int k, .int x] T M Tm Mm := by
  have hR := h
  obtain ⟨hT, h0, K, X, P, a1, a2, a3, a4, a5, a6⟩ := h
  obtain ⟨b1, b2, b3, b4, b5, b6, b7, b8, b9, b10⟩ := a1
  by_cases hb : inR k K ∧ inR x X
  · obtain ⟨k, hk, rfl⟩ := inR_nat (by omega) hb.1
    obtain ⟨x, hx, rfl⟩ := inR_nat (by omega) hb.2
    refine ⟨_, _, k_X6_who l D B T M P b8 b3 K b4 b1.1 b1.2 X b6 b2.1 b2.2 k x hk hx, k_X7_who l D Bm Tm Mm h0 P b9 b3 K b5 b1.1 b1.2 X b7 b2.1 b2.2 k x hk hx a2.2.1, ?_⟩
    intro r T1 M1 r1 Tm1 Mm1 q1 q2
    obtain ⟨rfl, rfl, rfl⟩ := q1
    obtain ⟨rfl, rfl, q4⟩ := q2
    refine ⟨?_, hR.ss (fun _ _ => rfl) q4⟩
    rw [b5]
    exact myb_mo a2.1 a2.2.1 (a2.2.mw b3) b4 b1.1 b1.2 (by omega) (nI x) b3 b10
  · exact Ag_f (k_X6_who_bad l D B T M K b4 b1.1 b1.2 X b6 b2.1 b2.2 k x hb) (k_X7_who_bad l D Bm Tm Mm h0 K b5 b1.1 b1.2 X b7 b2.1 b2.2 k x hb) rfl hR
theorem m1_cases {k : Int32} (h : ¬ k < -1 ∧ ¬ nI 2 < k) : k = -1 ∨ ∃ j : Nat, j < 3 ∧ k = nI j := by
  by_cases c : k < 0
  · left
    have h1 := h.1
    rw [Int32.lt_iff_toInt_lt] at c h1
    rw [← Int32.toInt_inj]
    have e1 : (-1 : Int32).toInt = -1 := by decide
    have e2 : (0 : Int32).toInt = 0 := by decide
    omega
  · right
    obtain ⟨j, hj, rfl⟩ := nI_of c
    have h2 := h.2
    rw [nI_ltI (by decide) hj] at h2
    exact ⟨j, by omega, rfl⟩
theorem ag_plan (h : Rel T M Tm Mm) (p k : Int32) : AgI l D B Bm yX6_plan cX6_plan 4 9 yX7_plan cX7_plan 5 4 [.int p, .int k] T M Tm Mm := by
  have hR := h
  obtain ⟨hT, h0, K, X, P, a1, a2, a3, a4, a5, a6⟩ := h
  obtain ⟨b1, b2, b3, b4, b5, b6, b7, b8, b9, b10⟩ := a1
  by_cases hb : inR p P ∧ (¬ k < -1 ∧ ¬ nI 2 < k)
  · obtain ⟨p, hp, rfl⟩ := inR_nat (by omega) hb.1
    obtain ⟨x0, hx0, hrow⟩ := a2.2.2.2.1 p hp
    rcases m1_cases hb.2 with rfl | ⟨k, hk, rfl⟩
    · refine ⟨_, _, k_X6_plan_m1 l D B T M P b8 b3 K b4 b1.1 b1.2 (Mm 5) (Mm 3) a2.1 a2.2.1 (a2.2.mw b3) b10 p hp, k_X7_plan_m1 l D Bm Tm Mm h0 K X b5 b7 b1.1 b1.2 b2.1 b2.2 P b9 b3 a2.2.1 p hp, ?_⟩
      intro r T1 M1 r1 Tm1 Mm1 q1 q2
      obtain ⟨q1, rfl, q3⟩ := q1
      obtain ⟨q2, rfl, q4⟩ := q2
      rw [b5] at q2
      exact ⟨plan_m1_eq b3 b1.2 b2.1 b2.2 hp hx0 hrow q1 q2, hR.ss q3 q4⟩
    · refine ⟨_, _, k_X6_plan l D B T M P b8 b3 K b4 b1.1 b1.2 (Mm 5) (Mm 3) a2.1 a2.2.1 (a2.2.mw b3) b10 p hp k hk, k_X7_plan l D Bm Tm Mm h0 K X b5 b7 b1.1 b1.2 b2.1 b2.2 P b9 b3 a2.2.1 p hp k hk, ?_⟩
      intro r T1 M1 r1 Tm1 Mm1 q1 q2
      obtain ⟨q1, rfl, q3⟩ := q1
      obtain ⟨q2, rfl, q4⟩ := q2
      rw [b5] at q2
      exact ⟨plan_k_eq (g := fun j => M1 71 j) b3 b1.2 b2.1 b2.2 hp hx0 hrow q1 q2, hR.ss q3 q4⟩
  · exact Ag_f (k_X6_plan_bad l D B T M P b8 b3 p k hb) (k_X7_plan_bad l D Bm Tm Mm h0 P b9 b3 p k hb) rfl hR
theorem duel_v (nv : Nat → Int32) (Kv : Int32) {K X : Nat} (hX : 1 ≤ X) (P p : Nat) (s : Nat → Int32) (n : Nat) : VV (K * X) (fun r => decide (moR (mbR nv Kv K X P s r n n) = nI p)) n 0 0 = fB nv Kv K X P p n true s := by
  rw [VV_fB nv Kv hX P p s n 0 n 0 (by omega)]
  simp only [mbR]
  rfl
theorem duel_o (nv : Nat → Int32) (Kv : Int32) {K X : Nat} (hX : 1 ≤ X) (P p : Nat) (s : Nat → Int32) (n : Nat) {rz : Int32} (ho : opQ K X (fun k x => fB nv Kv K X P p n false (evR nv Kv s k (nI x) P)) rz) : rz = (if n + 1 = 0 then -9 else fsD (fun e => VV (K * X) (fun r => decide (moR (mbR nv Kv K X P s r (n + 1) (n + 1)) = nI p)) (n + 1 - 1) 1 e) (K * X) X (K * X)) := by
  rw [if_neg (by omega)]
  refine op_fs hX (fun e he => ?_) ho
  rw [show n + 1 - 1 = n by omega, VV_fB nv Kv hX P p s n 1 (n + 1) e (by omega), mbR_1 nv Kv K X P s he]
  rfl
theorem ag_duel (h : Rel T M Tm Mm) (p n w : Int32) : AgI l D B Bm yX6_duel cX6_duel 6 10 yX7_duel cX7_duel 12 4 [.int p, .int n, .int w] T M Tm Mm := by
  have hR := h
  obtain ⟨hT, h0, K, X, P, a1, a2, a3, a4, a5, a6⟩ := h
  obtain ⟨b1, b2, b3, b4, b5, b6, b7, b8, b9, b10⟩ := a1
  by_cases hb : inR p P ∧ inR n 4 ∧ inR w 2
  · obtain ⟨p, hp, rfl⟩ := inR_nat (by omega) hb.1
    obtain ⟨n, hn, rfl⟩ := inR_nat (by omega) hb.2.1
    obtain ⟨w, hw, rfl⟩ := inR_nat (by omega) hb.2.2
    have hM := a2.2.mw b3
    rcases (show w = 0 ∨ w = 1 by omega) with rfl | rfl
    · have hm := k_X7_duel_0 l D Bm Tm Mm h0 K X b5 b7 b1.1 b1.2 b2.1 b2.2 P b9 b3 a2.2.1 p n hp (by omega)
      rw [duel_v (Mm 3) (Mm 2 0) b2.1 P p (Mm 5) n, b5] at hm
      rcases (show n = 0 ∨ n = 1 ∨ n = 2 ∨ n = 3 by omega) with rfl | rfl | rfl | rfl
      · refine ⟨_, _, k_X6_duel_0_0 l D B T M P b8 b3 K b4 b1.1 b1.2 X b6 b2.1 b2.2 (Mm 5) (Mm 3) a2.1 a2.2.1 hM b10 p hp, hm, ?_⟩
        intro r T1 M1 r1 Tm1 Mm1 q1 q2
        obtain ⟨rfl, rfl, rfl⟩ := q1
        obtain ⟨rfl, rfl, q4⟩ := q2
        refine ⟨?_, hR.ss (fun _ _ => rfl) q4⟩
        simp only [fB, decide_eq_true_eq]
      · refine ⟨_, _, k_X6_duel_1_0 l D B T M P b8 b3 K b4 b1.1 b1.2 X b6 b2.1 b2.2 (Mm 5) (Mm 3) a2.1 a2.2.1 hM b10 p hp, hm, ?_⟩
        intro r T1 M1 r1 Tm1 Mm1 q1 q2
        obtain ⟨rfl, rfl, q3⟩ := q1
        obtain ⟨rfl, rfl, q4⟩ := q2
        exact ⟨rfl, hR.ss q3 q4⟩
      · refine ⟨_, _, k_X6_duel_2_0 l D B T M P b8 b3 K b4 b1.1 b1.2 X b6 b2.1 b2.2 (Mm 5) (Mm 3) a2.1 a2.2.1 hM b10 p hp, hm, ?_⟩
        intro r T1 M1 r1 Tm1 Mm1 q1 q2
        obtain ⟨rfl, rfl, q3⟩ := q1
        obtain ⟨rfl, rfl, q4⟩ := q2
        exact ⟨rfl, hR.ss q3 q4⟩
      · refine ⟨_, _, k_X6_duel_3_0 l D B T M P b8 b3 K b4 b1.1 b1.2 X b6 b2.1 b2.2 (Mm 5) (Mm 3) a2.1 a2.2.1 hM b10 p hp, hm, ?_⟩
        intro r T1 M1 r1 Tm1 Mm1 q1 q2
        obtain ⟨rfl, rfl, q3⟩ := q1
        obtain ⟨rfl, rfl, q4⟩ := q2
        exact ⟨rfl, hR.ss q3 q4⟩
    · have hm := k_X7_duel_1 l D Bm Tm Mm h0 K X b5 b7 b1.1 b1.2 b2.1 b2.2 P b9 b3 a2.2.1 p n hp (by omega)
      rw [b5] at hm
      rcases (show n = 0 ∨ n = 1 ∨ n = 2 ∨ n = 3 by omega) with rfl | rfl | rfl | rfl
      · refine ⟨_, _, k_X6_duel_0_1 l D B T M P b8 b3 K b4 b1.1 b1.2 X b6 b2.1 b2.2 (Mm 5) (Mm 3) a2.1 a2.2.1 hM b10 p hp, hm, ?_⟩
        intro r T1 M1 r1 Tm1 Mm1 q1 q2
        obtain ⟨rfl, rfl, rfl⟩ := q1
        obtain ⟨rfl, rfl, q4⟩ := q2
        exact ⟨(if_pos rfl).symm, hR.ss (fun _ _ => rfl) q4⟩
      · refine ⟨_, _, k_X6_duel_1_1 l D B T M P b8 b3 K b4 b1.1 b1.2 X b6 b2.1 b2.2 (Mm 5) (Mm 3) a2.1 a2.2.1 hM b10 p hp, hm, ?_⟩
        intro r T1 M1 r1 Tm1 Mm1 q1 q2
        obtain ⟨q1, rfl, q3⟩ := q1
        obtain ⟨rfl, rfl, q4⟩ := q2
        exact ⟨duel_o (Mm 3) (nI K) b2.1 P p (Mm 5) 0 q1, hR.ss q3 q4⟩
      · refine ⟨_, _, k_X6_duel_2_1 l D B T M P b8 b3 K b4 b1.1 b1.2 X b6 b2.1 b2.2 (Mm 5) (Mm 3) a2.1 a2.2.1 hM b10 p hp, hm, ?_⟩
        intro r T1 M1 r1 Tm1 Mm1 q1 q2
        obtain ⟨q1, rfl, q3⟩ := q1
        obtain ⟨rfl, rfl, q4⟩ := q2
        exact ⟨duel_o (Mm 3) (nI K) b2.1 P p (Mm 5) 1 q1, hR.ss q3 q4⟩
      · refine ⟨_, _, k_X6_duel_3_1 l D B T M P b8 b3 K b4 b1.1 b1.2 X b6 b2.1 b2.2 (Mm 5) (Mm 3) a2.1 a2.2.1 hM b10 p hp, hm, ?_⟩
        intro r T1 M1 r1 Tm1 Mm1 q1 q2
        obtain ⟨q1, rfl, q3⟩ := q1
        obtain ⟨rfl, rfl, q4⟩ := q2
        exact ⟨duel_o (Mm 3) (nI K) b2.1 P p (Mm 5) 2 q1, hR.ss q3 q4⟩
  · exact Ag_f (k_X6_duel_bad l D B T M P b8 b3 p n w hb) (k_X7_duel_bad l D Bm Tm Mm h0 P b9 b3 p n w hb) rfl hR
theorem ag_stale (h : Rel T M Tm Mm) (k x : Int32) : AgI l D B Bm yX6_stale cX6_stale 3 4 yX7_stale cX7_stale 4 3 [.int k, .int x] T M Tm Mm := by
  have hR := h
  obtain ⟨hT, h0, K, X, P, a1, a2, a3, a4, a5, a6⟩ := h
  obtain ⟨b1, b2, b3, b4, b5, b6, b7, b8, b9, b10⟩ := a1
  by_cases hb : inR k K ∧ inR x X
  · obtain ⟨k, hk, rfl⟩ := inR_nat (by omega) hb.1
    obtain ⟨x, hx, rfl⟩ := inR_nat (by omega) hb.2
    refine ⟨_, _, k_X6_stale l D B T M P b8 b3 K b4 b1.1 b1.2 X b6 b2.1 b2.2 (Mm 5) (Mm 3) a2.1 a2.2.1 (a2.2.mw b3) b10 k x hk hx, k_X7_stale l D Bm Tm Mm h0 P b9 b3 K b5 b1.1 b1.2 X b7 b2.1 b2.2 k x hk hx a2.2.1, ?_⟩
    intro r T1 M1 r1 Tm1 Mm1 q1 q2
    obtain ⟨rfl, rfl, q3⟩ := q1
    obtain ⟨rfl, rfl, q4⟩ := q2
    exact ⟨by rw [b5], hR.ss q3 q4⟩
  · exact Ag_f (k_X6_stale_bad l D B T M K b4 b1.1 b1.2 X b6 b2.1 b2.2 k x hb) (k_X7_stale_bad l D Bm Tm Mm h0 K b5 b1.1 b1.2 X b7 b2.1 b2.2 k x hb) rfl hR
theorem ag_odds (h : Rel T M Tm Mm) (p x n w : Int32) : AgI l D B Bm yX6_odds cX6_odds 8 10 yX7_odds cX7_odds 10 3 [.int p, .int x, .int n, .int w] T M Tm Mm := by
  have hR := h
  obtain ⟨hT, h0, K, X, P, a1, a2, a3, a4, a5, a6⟩ := h
  obtain ⟨b1, b2, b3, b4, b5, b6, b7, b8, b9, b10⟩ := a1
  by_cases hb : inR p P ∧ inR x X ∧ inR n 5 ∧ inR w 2
  · obtain ⟨p, hp, rfl⟩ := inR_nat (by omega) hb.1
    obtain ⟨x, hx, rfl⟩ := inR_nat (by omega) hb.2.1
    obtain ⟨n, hn, rfl⟩ := inR_nat (by omega) hb.2.2.1
    obtain ⟨w, hw, rfl⟩ := inR_nat (by omega) hb.2.2.2
    have hM := a2.2.mw b3
    rcases (show w = 0 ∨ w = 1 by omega) with rfl | rfl
    · have hm := k_X7_odds_0 l D Bm Tm Mm h0 P b9 b3 K b5 b1.1 b1.2 X b7 b2.1 b2.2 a2.2.1 p x n hp hx (by omega)
      rw [b5, ← odds_eq (Mm 3) (nI K) b1.1 (nI x) P (nI p) n (Mm 5)] at hm
      rcases (show n = 0 ∨ n = 1 ∨ n = 2 ∨ n = 3 ∨ n = 4 by omega) with rfl | rfl | rfl | rfl | rfl
      · refine ⟨_, _, k_X6_odds_0_0 l D B T M P b8 b3 K b4 b1.1 b1.2 X b6 b2.1 b2.2 (Mm 5) (Mm 3) a2.1 a2.2.1 hM b10 p x hp hx, hm, ?_⟩
        intro r T1 M1 r1 Tm1 Mm1 q1 q2
        obtain ⟨rfl, rfl, q3⟩ := q1
        obtain ⟨rfl, rfl, q4⟩ := q2
        exact ⟨rfl, hR.ss q3 q4⟩
      · refine ⟨_, _, k_X6_odds_1_0 l D B T M P b8 b3 K b4 b1.1 b1.2 X b6 b2.1 b2.2 (Mm 5) (Mm 3) a2.1 a2.2.1 hM b10 p x hp hx, hm, ?_⟩
        intro r T1 M1 r1 Tm1 Mm1 q1 q2
        obtain ⟨rfl, rfl, q3⟩ := q1
        obtain ⟨rfl, rfl, q4⟩ := q2
        exact ⟨rfl, hR.ss q3 q4⟩
      · refine ⟨_, _, k_X6_odds_2_0 l D B T M P b8 b3 K b4 b1.1 b1.2 X b6 b2.1 b2.2 (Mm 5) (Mm 3) a2.1 a2.2.1 hM b10 p x hp hx, hm, ?_⟩
        intro r T1 M1 r1 Tm1 Mm1 q1 q2
        obtain ⟨rfl, rfl, q3⟩ := q1
        obtain ⟨rfl, rfl, q4⟩ := q2
        exact ⟨rfl, hR.ss q3 q4⟩
      · refine ⟨_, _, k_X6_odds_3_0 l D B T M P b8 b3 K b4 b1.1 b1.2 X b6 b2.1 b2.2 (Mm 5) (Mm 3) a2.1 a2.2.1 hM b10 p x hp hx, hm, ?_⟩
        intro r T1 M1 r1 Tm1 Mm1 q1 q2
        obtain ⟨rfl, rfl, q3⟩ := q1
        obtain ⟨rfl, rfl, q4⟩ := q2
        exact ⟨rfl, hR.ss q3 q4⟩
      · refine ⟨_, _, k_X6_odds_4_0 l D B T M P b8 b3 K b4 b1.1 b1.2 X b6 b2.1 b2.2 (Mm 5) (Mm 3) a2.1 a2.2.1 hM b10 p x hp hx, hm, ?_⟩
        intro r T1 M1 r1 Tm1 Mm1 q1 q2
        obtain ⟨rfl, rfl, q3⟩ := q1
        obtain ⟨rfl, rfl, q4⟩ := q2
        exact ⟨rfl, hR.ss q3 q4⟩
    · have hm := k_X7_odds_1 l D Bm Tm Mm h0 P b9 b3 K b5 b1.1 b1.2 X b7 b2.1 b2.2 a2.2.1 p x n hp hx (by omega)
      rw [b5, ← odds_eq (Mm 3) (nI K) b1.1 (nI x) P (nI p) n (Mm 5)] at hm
      rcases (show n = 0 ∨ n = 1 ∨ n = 2 ∨ n = 3 ∨ n = 4 by omega) with rfl | rfl | rfl | rfl | rfl
      · refine ⟨_, _, k_X6_odds_0_1 l D B T M P b8 b3 K b4 b1.1 b1.2 X b6 b2.1 b2.2 (Mm 5) (Mm 3) a2.1 a2.2.1 hM b10 p x hp hx, hm, ?_⟩
        intro r T1 M1 r1 Tm1 Mm1 q1 q2
        obtain ⟨rfl, rfl, q3⟩ := q1
        obtain ⟨rfl, rfl, q4⟩ := q2
        exact ⟨rfl, hR.ss q3 q4⟩
      · refine ⟨_, _, k_X6_odds_1_1 l D B T M P b8 b3 K b4 b1.1 b1.2 X b6 b2.1 b2.2 (Mm 5) (Mm 3) a2.1 a2.2.1 hM b10 p x hp hx, hm, ?_⟩
        intro r T1 M1 r1 Tm1 Mm1 q1 q2
        obtain ⟨rfl, rfl, q3⟩ := q1
        obtain ⟨rfl, rfl, q4⟩ := q2
        exact ⟨rfl, hR.ss q3 q4⟩
      · refine ⟨_, _, k_X6_odds_2_1 l D B T M P b8 b3 K b4 b1.1 b1.2 X b6 b2.1 b2.2 (Mm 5) (Mm 3) a2.1 a2.2.1 hM b10 p x hp hx, hm, ?_⟩
        intro r T1 M1 r1 Tm1 Mm1 q1 q2
        obtain ⟨rfl, rfl, q3⟩ := q1
        obtain ⟨rfl, rfl, q4⟩ := q2
        exact ⟨rfl, hR.ss q3 q4⟩
      · refine ⟨_, _, k_X6_odds_3_1 l D B T M P b8 b3 K b4 b1.1 b1.2 X b6 b2.1 b2.2 (Mm 5) (Mm 3) a2.1 a2.2.1 hM b10 p x hp hx, hm, ?_⟩
        intro r T1 M1 r1 Tm1 Mm1 q1 q2
        obtain ⟨rfl, rfl, q3⟩ := q1
        obtain ⟨rfl, rfl, q4⟩ := q2
        exact ⟨rfl, hR.ss q3 q4⟩
      · refine ⟨_, _, k_X6_odds_4_1 l D B T M P b8 b3 K b4 b1.1 b1.2 X b6 b2.1 b2.2 (Mm 5) (Mm 3) a2.1 a2.2.1 hM b10 p x hp hx, hm, ?_⟩
        intro r T1 M1 r1 Tm1 Mm1 q1 q2
        obtain ⟨rfl, rfl, q3⟩ := q1
        obtain ⟨rfl, rfl, q4⟩ := q2
        exact ⟨rfl, hR.ss q3 q4⟩
  · exact Ag_f (k_X6_odds_bad l D B T M P b8 b3 X b6 b2.1 b2.2 p x n w hb) (k_X7_odds_bad l D Bm Tm Mm h0 P b9 b3 X b7 b2.1 b2.2 p x n w hb) rfl hR
theorem ag_notes (h : Rel T M Tm Mm) (p k j : Int32) : AgI l D B Bm yX6_notes cX6_notes 4 1 yX7_notes cX7_notes 4 2 [.int p, .int k, .int j] T M Tm Mm := by
  have hR := h
  obtain ⟨hT, h0, K, X, P, a1, a2, a3, ⟨nn, n1, n2, n3, n4⟩, a5, a6⟩ := h
  have a1' := a1
  obtain ⟨b1, b2, b3, b4, b5, b6, b7, b8, b9, b10⟩ := a1
  by_cases hb : inR p P ∧ inR k K ∧ inR j 2
  · obtain ⟨p, hp, rfl⟩ := inR_nat (by omega) hb.1
    obtain ⟨k, hk, rfl⟩ := inR_nat (by omega) hb.2.1
    obtain ⟨j, hj, rfl⟩ := inR_nat (by omega) hb.2.2
    by_cases c : nn = 6
    · subst c
      exact Ag_f (k_X6_notes_full l D B T M P b8 b3 K b4 b1.1 b1.2 n2 p k j hp hk hj) (k_X7_notes_full l D Bm Tm Mm h0 P b9 b3 K b5 b1.1 b1.2 n3 p k j hp hk hj) rfl hR
    · have hc : Ci l D B 108 (celC D B) yX6_notes cX6_notes 4 (some .int) 1 [.ref (B + 0), .int (nI p), .int (nI k), .int (nI j)] T M (fun r T1 M1 => r = nI (nn + 1) ∧ T1 = T ∧ M1 = up2 (up2 (up2 (up2 M 93 nn (nI p)) 94 nn (nI k)) 95 nn (nI j)) 92 3 (nI (nn + 1))) := by
        rcases (show j = 0 ∨ j = 1 by omega) with rfl | rfl
        · exact k_X6_notes_0 l D B T M P b8 b3 K b4 b1.1 b1.2 nn n2 (by omega) p k hp hk
        · exact k_X6_notes_1 l D B T M P b8 b3 K b4 b1.1 b1.2 nn n2 (by omega) p k hp hk
      refine Ag_f hc (k_X7_notes l D Bm Tm Mm h0 P b9 b3 K b5 b1.1 b1.2 nn n3 (by omega) p k j hp hk hj) rfl ?_
      refine Rel.nt hT h0 a1' a2 a3 a5 a6 (fun c q => by rw [up2_ne _ _ (by omega), up2_ne _ _ (by omega), up2_ne _ _ (by omega), up2_ne _ _ (by omega)]) (fun c q1 q2 => by rw [up2_ne _ _ (by omega), up2_ne _ _ (by omega), up2_ne _ _ (by omega), up2_ne _ _ (by omega)]) (fun j hj => by rw [up2_no _ _ _ hj, up2_ne _ _ (by decide), up2_ne _ _ (by decide), up2_ne _ _ (by decide)]) ⟨nn + 1, by omega, up2_at _ _ _ _, up2_at _ _ _ _, fun i hi => ?_⟩
      rw [up2_ne _ _ (show (93 : Nat) ≠ 92 by decide), up2_ne _ _ (show (93 : Nat) ≠ 95 by decide), up2_ne _ _ (show (93 : Nat) ≠ 94 by decide), up2_self, up2_ne _ _ (show (94 : Nat) ≠ 92 by decide), up2_ne _ _ (show (94 : Nat) ≠ 95 by decide), up2_self, up2_ne _ _ (show (94 : Nat) ≠ 93 by decide), up2_ne _ _ (show (95 : Nat) ≠ 92 by decide), up2_self, up2_ne _ _ (show (95 : Nat) ≠ 94 by decide), up2_ne _ _ (show (95 : Nat) ≠ 93 by decide)]
      rw [up2_ne _ _ (show (10 : Nat) ≠ 0 by decide), up2_ne _ _ (show (10 : Nat) ≠ 12 by decide), up2_ne _ _ (show (10 : Nat) ≠ 11 by decide), up2_self, up2_ne _ _ (show (11 : Nat) ≠ 0 by decide), up2_ne _ _ (show (11 : Nat) ≠ 12 by decide), up2_self, up2_ne _ _ (show (11 : Nat) ≠ 10 by decide), up2_ne _ _ (show (12 : Nat) ≠ 0 by decide), up2_self, up2_ne _ _ (show (12 : Nat) ≠ 11 by decide), up2_ne _ _ (show (12 : Nat) ≠ 10 by decide)]
      by_cases e : i = nn
      · subst e
        simp only [pk_us]
        exact ⟨trivial, trivial, trivial, ⟨k, by omega, rfl⟩, by rcases (show j = 0 ∨ j = 1 by omega) with rfl | rfl; exact Or.inl rfl; exact Or.inr rfl⟩
      · simp only [pk_un e]
        exact n4 i (by omega)
  · exact Ag_f (k_X6_notes_bad l D B T M P b8 b3 K b4 b1.1 b1.2 p k j hb) (k_X7_notes_bad l D Bm Tm Mm h0 P b9 b3 K b5 b1.1 b1.2 p k j hb) rfl hR
theorem Rel.wg (h : Rel T M Tm Mm) (p nn : Nat) : Rel T (wgM M p nn) Tm Mm := h.sc (fun c q _ => wgM_fr M p nn q) (by unfold wgM; rw [up2_no _ _ _ (by decide), up2_no _ _ _ (by decide)]) (Sm.rf Mm)
theorem NN.k4 {of_ by_ nt : Nat → Int32} {nn : Nat} (h : NN M of_ by_ nt nn) : (∀ i, i < nn → ∃ k : Nat, k < 4 ∧ M 94 i = nI k) ∧ (∀ i, i < nn → ∃ k : Nat, k < 4 ∧ by_ i = nI k) := by
  refine ⟨fun i hi => ?_, fun i hi => (h i hi).2.2.2.1⟩
  rw [(h i hi).2.1]
  exact (h i hi).2.2.2.1
theorem ag_nerves (h : Rel T M Tm Mm) (p w : Int32) : AgI l D B Bm yX6_nerves cX6_nerves 3 2 yX7_nerves cX7_nerves 7 3 [.int p, .int w] T M Tm Mm := by
  have hR := h
  obtain ⟨hT, h0, K, X, P, a1, a2, a3, ⟨nn, n1, n2, n3, n4⟩, a5, a6⟩ := h
  obtain ⟨b1, b2, b3, b4, b5, b6, b7, b8, b9, b10⟩ := a1
  by_cases hb : inR p P ∧ inR w 3
  · obtain ⟨p, hp, rfl⟩ := inR_nat (by omega) hb.1
    obtain ⟨w, hw, rfl⟩ := inR_nat (by omega) hb.2
    have e := nerves_eq a2.1 a2.2.1 b4 b1.1 b1.2 (p := p) (by omega) n4
    rcases (show w = 0 ∨ w = 1 ∨ w = 2 by omega) with rfl | rfl | rfl
    · exact Ag_f (k_X6_nerves_0 l D B T M P b8 b3 nn n2 n1 n4.k4.1 p hp) (k_X7_nerves_0 l D Bm Tm Mm h0 P b9 b3 K b5 b1.1 b1.2 nn n3 n1 n4.k4.2 a2.2.1 p hp) (by rw [b5]; exact e.1) (hR.wg p nn)
    · exact Ag_f (k_X6_nerves_1 l D B T M P b8 b3 nn n2 n1 n4.k4.1 p hp) (k_X7_nerves_1 l D Bm Tm Mm h0 P b9 b3 K b5 b1.1 b1.2 nn n3 n1 n4.k4.2 a2.2.1 p hp) (by rw [b5]; exact e.2.1) (hR.wg p nn)
    · exact Ag_f (k_X6_nerves_2 l D B T M P b8 b3 nn n2 n1 n4.k4.1 p hp) (k_X7_nerves_2 l D Bm Tm Mm h0 P b9 b3 K b5 b1.1 b1.2 nn n3 n1 n4.k4.2 a2.2.1 p hp) (by rw [b5]; exact e.2.2) (hR.wg p nn)
  · exact Ag_f (k_X6_nerves_bad l D B T M P b8 b3 p w hb) (k_X7_nerves_bad l D Bm Tm Mm h0 P b9 b3 p w hb) rfl hR
theorem ag_test (h : Rel T M Tm Mm) (p : Int32) : AgI l D B Bm yX6_test cX6_test 2 3 yX7_test cX7_test 8 3 [.int p] T M Tm Mm := by
  have hR := h
  obtain ⟨hT, h0, K, X, P, a1, a2, a3, ⟨nn, n1, n2, n3, n4⟩, a5, a6⟩ := h
  obtain ⟨b1, b2, b3, b4, b5, b6, b7, b8, b9, b10⟩ := a1
  by_cases hb : inR p P
  · obtain ⟨p, hp, rfl⟩ := inR_nat (by omega) hb
    exact Ag_f (k_X6_test l D B T M P b8 b3 K b4 b1.1 b1.2 nn n2 n1 n4.k4.1 p hp) (k_X7_test l D Bm Tm Mm h0 P b9 b3 K b5 b1.1 b1.2 nn n3 n1 n4.k4.2 a2.2.1 p hp) (by rw [b5]; exact test_eq a2.1 a2.2.1 b4 b1.1 b1.2 (by omega) n4) (hR.wg p nn)
  · exact Ag_f (k_X6_test_bad l D B T M P b8 b3 p hb) (k_X7_test_bad l D Bm Tm Mm h0 P b9 b3 p hb) rfl hR
theorem Rel.tr {T1 Tm1 : Int64} (h : Rel T M Tm Mm) (e : Tm1 = T1) : Rel T1 M Tm1 Mm := ⟨e, h.2⟩
theorem ag_rate (h : Rel T M Tm Mm) (w p : Int32) : AgI l D B Bm yX6_rate cX6_rate 3 3 yX7_rate cX7_rate 6 2 [.int w, .int p] T M Tm Mm := by
  have hR := h
  obtain ⟨rfl, h0, K, X, P, a1, a2, a3, a4, a5, a6⟩ := h
  obtain ⟨b1, b2, b3, b4, b5, b6, b7, b8, b9, b10⟩ := a1
  by_cases hb : inR w 6 ∧ inR p P
  · obtain ⟨p, hp, rfl⟩ := inR_nat (by omega) hb.2
    obtain ⟨w, hw, rfl⟩ := inR_nat (by omega) hb.1
    have e1 := b10 p hp
    have e2 := a2.1.1 p (by omega)
    have e3 := a2.1.2.1 p (by omega)
    have e4 := a2.1.2.2.2.1 p (by omega)
    rcases (show w = 0 ∨ w = 1 ∨ w = 2 ∨ w = 3 ∨ w = 4 ∨ w = 5 by omega) with rfl | rfl | rfl | rfl | rfl | rfl
    · exact Ag_f (k_X6_rate_0 l D B _ M P b8 b3 p hp) (k_X7_rate_0 l D Bm _ Mm h0 P b9 b3 p hp) e1 (hR.tr rfl)
    · exact Ag_f (k_X6_rate_1 l D B _ M P b8 b3 p hp) (k_X7_rate_1 l D Bm _ Mm h0 P b9 b3 p hp) (by rw [e1, e3]) (hR.tr (by rw [Int64.add_assoc]; rfl))
    · exact Ag_f (k_X6_rate_2 l D B _ M P b8 b3 p hp) (k_X7_rate_2 l D Bm _ Mm h0 P b9 b3 p hp) (by rw [e1, e4]) (hR.tr (by rw [Int64.add_assoc]; rfl))
    · exact Ag_f (k_X6_rate_3 l D B _ M P b8 b3 p hp) (k_X7_rate_3 l D Bm _ Mm h0 P b9 b3 p hp) (by rw [e1, e3]) (hR.tr (by rw [Int64.add_assoc, Int64.add_assoc]; rfl))
    · exact Ag_f (k_X6_rate_4 l D B _ M P b8 b3 p hp) (k_X7_rate_4 l D Bm _ Mm h0 P b9 b3 p hp) (by rw [e1, e4]) (hR.tr (by rw [Int64.add_assoc, Int64.add_assoc]; rfl))
    · exact Ag_f (k_X6_rate_5 l D B _ M P b8 b3 p hp) (k_X7_rate_5 l D Bm _ Mm h0 P b9 b3 p hp) (by rw [e1, e2]) (hR.tr (by rw [Int64.add_assoc]; rfl))
  · exact Ag_f (k_X6_rate_bad l D B _ M P b8 b3 w p hb) (k_X7_rate_bad l D Bm _ Mm h0 P b9 b3 w p hb) rfl hR
theorem ag_keep (h : Rel T M Tm Mm) (g : Int32) : AgI l D B Bm yX6_keep cX6_keep 2 3 yX7_keep cX7_keep 3 1 [.int g] T M Tm Mm := by
  have hR := h
  obtain ⟨hT, h0, K, X, P, a1, a2, a3, a4, a5, a6⟩ := h
  have a1' := a1
  obtain ⟨b1, b2, b3, b4, b5, b6, b7, b8, b9, b10⟩ := a1
  by_cases hb : inR g 2
  · obtain ⟨g, hg, rfl⟩ := inR_nat (by omega) hb
    refine Ag_f (k_X6_keep l D B T M g hg) (k_X7_keep l D Bm Tm Mm h0 P b9 b3 g hg) (congrArg nI (cnt_z a2.1 a2.2 b3)) ?_
    refine Rel.kp hT h0 a1' a2 a3 a4 a5 (fun c q => by rw [up2_ne _ _ (by omega), cpN_fr _ _ _ (by omega)]) (fun c q1 q2 => by rw [up2_ne _ _ q2, setR_ne _ _ q1]) (fun i hi => ?_)
    have e8 : up2 (setR Mm 7 (putn (Mm 7) (Mm 5) (31 * g) 31)) 8 g (nI 1) 8 = upd (Mm 8) g (nI 1) := by rw [up2_self, setR_ne _ _ (by decide)]
    have e7 : up2 (setR Mm 7 (putn (Mm 7) (Mm 5) (31 * g) 31)) 8 g (nI 1) 7 = putn (Mm 7) (Mm 5) (31 * g) 31 := by rw [up2_ne _ _ (by decide), setR_self]
    have e107 : up2 (cpN M (97 + 5 * g) 12) 107 g (nI 1) 107 = upd (M 107) g (nI 1) := by rw [up2_self, cpN_fr _ _ _ (by omega)]
    rw [e8, e7, e107]
    by_cases c : i = g
    · subst c
      rw [pk_us, pk_us]
      have er : ∀ j, j < 31 → Mm 5 j = putn (Mm 7) (Mm 5) (31 * i) 31 (31 * i + j) := fun j hj => by
        unfold putn
        rw [if_pos (by omega), show 31 * i + j - 31 * i = j by omega]
      exact ⟨rfl, Or.inr ⟨rfl, NR_ext (NR_mem (cpN_NR a2.1) (fun q q1 q2 => up2_ne _ _ (by omega))) er, RG_ext b3 a2.2 er⟩⟩
    · rw [pk_un c, pk_un c]
      obtain ⟨g1, g2⟩ := a6 i hi
      have er : ∀ j, j < 31 → Mm 7 (31 * i + j) = putn (Mm 7) (Mm 5) (31 * g) 31 (31 * i + j) := fun j hj => by
        unfold putn
        rw [if_neg (by omega)]
      refine ⟨g1, g2.elim Or.inl (fun q => Or.inr ⟨q.1, NR_ext (NR_mem q.2.1 (fun q q1 q2 => ?_)) er, RG_ext b3 q.2.2 er⟩)⟩
      rw [up2_ne _ _ (by omega), cpN_fr _ _ _ (by omega)]
  · exact Ag_f (k_X6_keep_bad l D B T M g hb) (k_X7_keep_bad l D Bm Tm Mm h0 g hb) rfl hR
theorem ag_back (h : Rel T M Tm Mm) (g : Int32) : AgI l D B Bm yX6_back cX6_back 2 3 yX7_back cX7_back 3 1 [.int g] T M Tm Mm := by
  have hR := h
  obtain ⟨hT, h0, K, X, P, a1, a2, a3, a4, a5, a6⟩ := h
  have a1' := a1
  obtain ⟨b1, b2, b3, b4, b5, b6, b7, b8, b9, b10⟩ := a1
  by_cases hb : inR g 2
  · obtain ⟨g, hg, rfl⟩ := inR_nat (by omega) hb
    obtain ⟨g1, g2⟩ := a6 g hg
    rcases g2 with g2 | ⟨g2, g3, g4⟩
    · exact Ag_f (k_X6_back_state l D B T M g hg (g1.trans g2)) (k_X7_back_state l D Bm Tm Mm h0 g hg g2) rfl hR
    · refine Ag_f (k_X6_back l D B T M g hg (g1.trans g2)) (k_X7_back l D Bm Tm Mm h0 P b9 b3 g hg g2) (congrArg nI (cnt_z g3 g4 b3)) ?_
      obtain ⟨nx, U, u1, u2, u3, u4, u5, u6⟩ := a5
      refine Rel.ub hT h0 a1' a3 a4 a6 (fun c q => by rw [up2_ne _ _ (by omega), cpN_fr _ _ _ (by omega)]) (fun c q1 q2 => by rw [up2_ne _ _ q1, setR_ne _ _ q2]) (fun j hj => by rw [up2_no _ _ _ hj, setR_ne _ _ (by decide)]) ⟨?_, ?_⟩ ⟨nx, 0, u1, by omega, ?_, up2_at _ _ _ _, up2_at _ _ _ _, fun i hi => absurd hi (Nat.not_lt_zero _)⟩
      · rw [up2_ne _ _ (show (5 : Nat) ≠ 0 by decide), setR_self]
        exact NR_mem (cpN_NR g3) (fun q q1 q2 => up2_ne _ _ (by omega))
      · rw [up2_ne _ _ (show (5 : Nat) ≠ 0 by decide), setR_self]
        exact g4
      · rw [up2_no _ _ _ (by decide), cpN_fr _ _ _ (by omega)]
        exact u3
  · exact Ag_f (k_X6_back_bad l D B T M g hb) (k_X7_back_bad l D Bm Tm Mm h0 g hb) rfl hR
end AG2
