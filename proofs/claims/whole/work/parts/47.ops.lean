def AgI (l : Launch) (D : DX) (B Bm : Nat) (yc : MethodName) (ccc : ByteArray) (nc dc : Nat) (ym : MethodName) (ccm : ByteArray) (nm dm : Nat) (as : List Value) (T : Int64) (M : Mem) (Tm : Int64) (Mm : Mem) : Prop := ∃ (pc pm : Int32 → Int64 → Mem → Prop), Ci l D B 108 (celC D B) yc ccc nc (some .int) dc (.ref (B + 0) :: as) T M pc ∧ Ci l D Bm 14 (celM D Bm) ym ccm nm (some .int) dm (.ref (Bm + 0) :: as) Tm Mm pm ∧ ∀ r T1 M1 r1 Tm1 Mm1, pc r T1 M1 → pm r1 Tm1 Mm1 → r = r1 ∧ Rel T1 M1 Tm1 Mm1
theorem Ag_f {l : Launch} {D : DX} {B Bm : Nat} {yc : MethodName} {ccc : ByteArray} {nc dc : Nat} {ym : MethodName} {ccm : ByteArray} {nm dm : Nat} {as : List Value} {T T2 : Int64} {M M2 : Mem} {Tm Tm2 : Int64} {Mm Mm2 : Mem} {a b : Int32} (h1 : Ci l D B 108 (celC D B) yc ccc nc (some .int) dc (.ref (B + 0) :: as) T M (fun r T1 M1 => r = a ∧ T1 = T2 ∧ M1 = M2)) (h2 : Ci l D Bm 14 (celM D Bm) ym ccm nm (some .int) dm (.ref (Bm + 0) :: as) Tm Mm (fun r T1 M1 => r = b ∧ T1 = Tm2 ∧ M1 = Mm2)) (e : a = b) (hR : Rel T2 M2 Tm2 Mm2) : AgI l D B Bm yc ccc nc dc ym ccm nm dm as T M Tm Mm :=
  ⟨_, _, h1, h2, fun _ _ _ _ _ _ q1 q2 => by
    obtain ⟨rfl, rfl, rfl⟩ := q1
    obtain ⟨rfl, rfl, rfl⟩ := q2
    exact ⟨e, hR⟩⟩
theorem inR_nat {v : Int32} {n : Nat} (hn : n < 2 ^ 31) (h : inR v n) : ∃ j : Nat, j < n ∧ v = nI j := nI_of4 hn h.1 h.2
section AG
variable {l : Launch} {D : DX} {B Bm : Nat} {T : Int64} {M : Mem} {Tm : Int64} {Mm : Mem}
theorem Rel.tx {M2 Mm2 : Mem} {K X P : Nat} (hT : Tm = T) (h0 : Mm 0 0 = nI 0) (a1 : aT M Mm K X P) (a2 : aN M Mm X P) (a4 : aB M Mm) (a5 : aU M Mm X P) (a6 : aG M Mm X P) (e : ∀ c, c ≠ 1 → c ≠ 2 → M2 c = M c) (em : ∀ c, c ≠ 0 → c ≠ 1 → Mm2 c = Mm c) (em0 : ∀ j, j ≠ 3 → Mm2 0 j = Mm 0 j) (a3 : aX M2 Mm2) : Rel T M2 Tm Mm2 := by
  refine ⟨hT, (em0 0 (by decide)).trans h0, K, X, P, ?_, ?_, a3, ?_, ?_, ?_⟩
  · exact a1.to (e 10 (by decide) (by decide)) (e 11 (by decide) (by decide)) (fun j _ => by rw [em 2 (by decide) (by decide)]) (fun j _ => by rw [em 3 (by decide) (by decide)])
  · exact a2.to (fun c q1 q2 => e c (by omega) (by omega)) (em 5 (by decide) (by decide))
  · exact a4.to (by rw [e 92 (by decide) (by decide)]) (e 93 (by decide) (by decide)) (e 94 (by decide) (by decide)) (e 95 (by decide) (by decide)) (em0 22 (by decide)) (em 10 (by decide) (by decide)) (em 11 (by decide) (by decide)) (em 12 (by decide) (by decide))
  · exact a5.to (by rw [e 17 (by decide) (by decide)]) (by rw [e 17 (by decide) (by decide)]) (fun c q1 q2 => e c (by omega) (by omega)) (em0 18 (by decide)) (em 9 (by decide) (by decide))
  · exact a6.to (e 107 (by decide) (by decide)) (fun c q1 q2 => e c (by omega) (by omega)) (em 8 (by decide) (by decide)) (em 7 (by decide) (by decide))
theorem Rel.nt {M2 Mm2 : Mem} {K X P : Nat} (hT : Tm = T) (h0 : Mm 0 0 = nI 0) (a1 : aT M Mm K X P) (a2 : aN M Mm X P) (a3 : aX M Mm) (a5 : aU M Mm X P) (a6 : aG M Mm X P) (e : ∀ c, c < 92 ∨ 95 < c → M2 c = M c) (em : ∀ c, c ≠ 0 → c < 10 → Mm2 c = Mm c) (em0 : ∀ j, j ≠ 22 → Mm2 0 j = Mm 0 j) (a4 : aB M2 Mm2) : Rel T M2 Tm Mm2 := by
  refine ⟨hT, (em0 0 (by decide)).trans h0, K, X, P, ?_, ?_, ?_, a4, ?_, ?_⟩
  · exact a1.to (e 10 (by decide)) (e 11 (by decide)) (fun j _ => by rw [em 2 (by decide) (by decide)]) (fun j _ => by rw [em 3 (by decide) (by decide)])
  · exact a2.to (fun c q1 q2 => e c (by omega)) (em 5 (by decide) (by decide))
  · exact a3.to (by rw [e 1 (by decide)]) (e 2 (by decide)) (em0 3 (by decide)) (em 1 (by decide) (by decide))
  · exact a5.to (by rw [e 17 (by decide)]) (by rw [e 17 (by decide)]) (fun c q1 q2 => e c (by omega)) (em0 18 (by decide)) (em 9 (by decide) (by decide))
  · exact a6.to (e 107 (by decide)) (fun c q1 q2 => e c (by omega)) (em 8 (by decide) (by decide)) (em 7 (by decide) (by decide))
theorem Rel.ub {M2 Mm2 : Mem} {K X P : Nat} (hT : Tm = T) (h0 : Mm 0 0 = nI 0) (a1 : aT M Mm K X P) (a3 : aX M Mm) (a4 : aB M Mm) (a6 : aG M Mm X P) (e : ∀ c, c < 12 ∨ 17 < c → M2 c = M c) (em : ∀ c, c ≠ 0 → c ≠ 5 → Mm2 c = Mm c) (em0 : ∀ j, j ≠ 18 → Mm2 0 j = Mm 0 j) (a2 : aN M2 Mm2 X P) (a5 : aU M2 Mm2 X P) : Rel T M2 Tm Mm2 := by
  refine ⟨hT, (em0 0 (by decide)).trans h0, K, X, P, ?_, a2, ?_, ?_, a5, ?_⟩
  · exact a1.to (e 10 (by decide)) (e 11 (by decide)) (fun j _ => by rw [em 2 (by decide) (by decide)]) (fun j _ => by rw [em 3 (by decide) (by decide)])
  · exact a3.to (by rw [e 1 (by decide)]) (e 2 (by decide)) (em0 3 (by decide)) (em 1 (by decide) (by decide))
  · exact a4.to (by rw [e 92 (by decide)]) (e 93 (by decide)) (e 94 (by decide)) (e 95 (by decide)) (em0 22 (by decide)) (em 10 (by decide) (by decide)) (em 11 (by decide) (by decide)) (em 12 (by decide) (by decide))
  · exact a6.to (e 107 (by decide)) (fun c q1 q2 => e c (by omega)) (em 8 (by decide) (by decide)) (em 7 (by decide) (by decide))
theorem Rel.kp {M2 Mm2 : Mem} {K X P : Nat} (hT : Tm = T) (h0 : Mm 0 0 = nI 0) (a1 : aT M Mm K X P) (a2 : aN M Mm X P) (a3 : aX M Mm) (a4 : aB M Mm) (a5 : aU M Mm X P) (e : ∀ c, c < 97 → M2 c = M c) (em : ∀ c, c ≠ 7 → c ≠ 8 → Mm2 c = Mm c) (a6 : aG M2 Mm2 X P) : Rel T M2 Tm Mm2 := by
  refine ⟨hT, by rw [em 0 (by decide) (by decide)]; exact h0, K, X, P, ?_, ?_, ?_, ?_, ?_, a6⟩
  · exact a1.to (e 10 (by decide)) (e 11 (by decide)) (fun j _ => by rw [em 2 (by decide) (by decide)]) (fun j _ => by rw [em 3 (by decide) (by decide)])
  · exact a2.to (fun c q1 q2 => e c (by omega)) (em 5 (by decide) (by decide))
  · exact a3.to (by rw [e 1 (by decide)]) (e 2 (by decide)) (by rw [em 0 (by decide) (by decide)]) (em 1 (by decide) (by decide))
  · exact a4.to (by rw [e 92 (by decide)]) (e 93 (by decide)) (e 94 (by decide)) (e 95 (by decide)) (by rw [em 0 (by decide) (by decide)]) (em 10 (by decide) (by decide)) (em 11 (by decide) (by decide)) (em 12 (by decide) (by decide))
  · exact a5.to (by rw [e 17 (by decide)]) (by rw [e 17 (by decide)]) (fun c q1 q2 => e c (by omega)) (by rw [em 0 (by decide) (by decide)]) (em 9 (by decide) (by decide))
theorem ag_type (h : Rel T M Tm Mm) (v : Int32) : AgI l D B Bm yX6_type cX6_type 2 0 yX7_type cX7_type 2 1 [.int v] T M Tm Mm := by
  have hR := h
  obtain ⟨hT, h0, K, X, P, a1, a2, ⟨ty, t1, t2, t3, t4, t5⟩, a4, a5, a6⟩ := h
  by_cases hv : inR v 256
  · by_cases c : ty = 150
    · subst c
      exact Ag_f (k_X6_type_full l D B T M v hv t2) (k_X7_type_full l D Bm Tm Mm h0 v hv t3) rfl hR
    · refine Ag_f (k_X6_type l D B T M v hv ty t2 t1 (by omega)) (k_X7_type l D Bm Tm Mm h0 v hv ty t3 t1 (by omega)) rfl ?_
      refine Rel.tx hT h0 a1 a2 a4 a5 a6 (fun c q1 q2 => (up2_ne _ _ q1).trans (up2_ne _ _ q2)) (fun c q1 q2 => (up2_ne _ _ q1).trans (up2_ne _ _ q2)) (fun j hj => (up2_no _ _ _ hj).trans (congrFun (up2_ne _ _ (by decide)) j)) ⟨ty + 1, by omega, up2_at _ _ _ _, up2_at _ _ _ _, ?_, ?_⟩
      · rw [up2_ne _ _ (by decide), up2_self, up2_ne _ _ (by decide), up2_self, t4]
      · intro j
        rw [up2_ne _ _ (by decide), up2_self]
        by_cases e : j = ty
        · subst e; rw [pk_us]; exact hv
        · rw [pk_un e]; exact t5 j
  · exact Ag_f (k_X6_type_bad l D B T M v hv) (k_X7_type_bad l D Bm Tm Mm h0 v hv) rfl hR
theorem ag_clear (h : Rel T M Tm Mm) : AgI l D B Bm yX6_clear cX6_clear 2 0 yX7_clear cX7_clear 2 0 [] T M Tm Mm := by
  obtain ⟨hT, h0, K, X, P, a1, a2, ⟨ty, t1, t2, t3, t4, t5⟩, a4, a5, a6⟩ := h
  refine Ag_f (k_X6_clear l D B T M) (k_X7_clear l D Bm Tm Mm h0) (t2.trans t3.symm) ?_
  refine Rel.tx hT h0 a1 a2 a4 a5 a6 (fun c q1 q2 => up2_ne _ _ q1) (fun c q1 q2 => up2_ne _ _ q1) (fun j hj => up2_no _ _ _ hj) ⟨0, by omega, up2_at _ _ _ _, up2_at _ _ _ _, ?_, ?_⟩
  · rw [up2_ne _ _ (by decide), up2_ne _ _ (by decide), t4]
  · rw [up2_ne _ _ (by decide)]; exact t5
theorem ag_forget (h : Rel T M Tm Mm) : AgI l D B Bm yX6_forget cX6_forget 2 0 yX7_forget cX7_forget 2 0 [] T M Tm Mm := by
  obtain ⟨hT, h0, K, X, P, a1, a2, a3, ⟨nn, n1, n2, n3, n4⟩, a5, a6⟩ := h
  refine Ag_f (k_X6_forget l D B T M) (k_X7_forget l D Bm Tm Mm h0) (n2.trans n3.symm) ?_
  exact Rel.nt hT h0 a1 a2 a3 a5 a6 (fun c q => up2_ne _ _ (by omega)) (fun c q1 q2 => up2_ne _ _ q1) (fun j hj => up2_no _ _ _ hj) ⟨0, by omega, up2_at _ _ _ _, up2_at _ _ _ _, fun i hi => absurd hi (Nat.not_lt_zero _)⟩
theorem ag_person (h : Rel T M Tm Mm) (p w : Int32) : AgI l D B Bm yX6_person cX6_person 3 1 yX7_person cX7_person 3 2 [.int p, .int w] T M Tm Mm := by
  have hR := h
  obtain ⟨hT, h0, K, X, P, a1, a2, a3, a4, a5, a6⟩ := h
  obtain ⟨b1, b2, b3, b4, b5, b6, b7, b8, b9, b10⟩ := a1
  by_cases hb : inR p P ∧ inR w 4
  · obtain ⟨q, hq, rfl⟩ := inR_nat (by omega) hb.1
    obtain ⟨j, hj, rfl⟩ := inR_nat (by omega) hb.2
    rcases (show j = 0 ∨ j = 1 ∨ j = 2 ∨ j = 3 by omega) with rfl | rfl | rfl | rfl
    · exact Ag_f (k_X6_person_0 l D B T M P b8 b3 q hq) (k_X7_person_0 l D Bm Tm Mm h0 P b9 b3 q hq) (b10 q hq) hR
    · exact Ag_f (k_X6_person_1 l D B T M P b8 b3 q hq) (k_X7_person_1 l D Bm Tm Mm h0 P b9 b3 q hq) (a2.1.1 q (by omega)) hR
    · exact Ag_f (k_X6_person_2 l D B T M P b8 b3 q hq) (k_X7_person_2 l D Bm Tm Mm h0 P b9 b3 q hq) (a2.1.2.1 q (by omega)) hR
    · exact Ag_f (k_X6_person_3 l D B T M P b8 b3 q hq) (k_X7_person_3 l D Bm Tm Mm h0 P b9 b3 q hq) (a2.1.2.2.2.1 q (by omega)) hR
  · exact Ag_f (k_X6_person_bad l D B T M P b8 b3 p w hb) (k_X7_person_bad l D Bm Tm Mm h0 P b9 b3 p w hb) rfl hR
theorem ag_seen (h : Rel T M Tm Mm) (p k : Int32) : AgI l D B Bm yX6_seen cX6_seen 3 1 yX7_seen cX7_seen 3 2 [.int p, .int k] T M Tm Mm := by
  have hR := h
  obtain ⟨hT, h0, K, X, P, a1, a2, a3, a4, a5, a6⟩ := h
  obtain ⟨b1, b2, b3, b4, b5, b6, b7, b8, b9, b10⟩ := a1
  by_cases hb : inR p P ∧ inR k K
  · obtain ⟨q, hq, rfl⟩ := inR_nat (by omega) hb.1
    obtain ⟨j, hj, rfl⟩ := inR_nat (by omega) hb.2
    exact Ag_f (k_X6_seen l D B T M P b8 b3 K b4 b1.1 b1.2 q j hq hj) (k_X7_seen l D Bm Tm Mm h0 P b9 b3 K b5 b1.1 b1.2 q j hq hj) (a2.1.2.2.1 q (by omega) j (by omega)) hR
  · exact Ag_f (k_X6_seen_bad l D B T M P b8 b3 K b4 b1.1 b1.2 p k hb) (k_X7_seen_bad l D Bm Tm Mm h0 P b9 b3 K b5 b1.1 b1.2 p k hb) rfl hR
theorem ag_surprise (h : Rel T M Tm Mm) (p k : Int32) : AgI l D B Bm yX6_surprise cX6_surprise 3 1 yX7_surprise cX7_surprise 3 3 [.int p, .int k] T M Tm Mm := by
  have hR := h
  obtain ⟨hT, h0, K, X, P, a1, a2, a3, a4, a5, a6⟩ := h
  obtain ⟨b1, b2, b3, b4, b5, b6, b7, b8, b9, b10⟩ := a1
  by_cases hb : inR p P ∧ inR k K
  · obtain ⟨q, hq, rfl⟩ := inR_nat (by omega) hb.1
    obtain ⟨j, hj, rfl⟩ := inR_nat (by omega) hb.2
    exact Ag_f (k_X6_surprise l D B T M P b8 b3 K b4 b1.1 b1.2 q j hq hj) (k_X7_surprise l D Bm Tm Mm h0 P b9 b3 K b5 b1.1 b1.2 q j hq hj a2.2.1) (by rw [b5]; exact shk_NR a2.1 a2.2.1 b4 b1.1 b1.2 (by omega) (by omega)) hR
  · exact Ag_f (k_X6_surprise_bad l D B T M P b8 b3 K b4 b1.1 b1.2 p k hb) (k_X7_surprise_bad l D Bm Tm Mm h0 P b9 b3 K b5 b1.1 b1.2 p k hb) rfl hR
theorem terms_sum {X P : Nat} (h : aN M Mm X P) (hP : P ≤ 5) : nSum (M 14) 5 = nSum (fun j => Mm 5 (25 + j)) P := by
  rw [nSum_ext (g := fun j => Mm 5 (25 + j)) (fun j hj => h.1.2.1 j hj)]
  have e := nSum_z (f := fun j => Mm 5 (25 + j)) (P := P) (5 - P) (fun j q1 q2 => h.2.2.2.2 j q1 (by omega))
  rwa [show P + (5 - P) = 5 by omega] at e
theorem cnt_z {X P : Nat} {row : Nat → Int32} {a : Nat} (h : NR M a row) (h2 : RG X P row) (hP : P ≤ 5) : nCnt (M (a + 2)) 5 = nCnt (fun j => row (25 + j)) P := by
  rw [nCnt_ext (g := fun j => row (25 + j)) (fun j hj => h.2.1 j hj)]
  have e := nCnt_z (f := fun j => row (25 + j)) (P := P) (5 - P) (fun j q1 q2 => h2.2.2.2 j q1 (by omega))
  rwa [show P + (5 - P) = 5 by omega] at e
theorem ag_now (h : Rel T M Tm Mm) (w : Int32) : AgI l D B Bm yX6_now cX6_now 2 2 yX7_now cX7_now 2 3 [.int w] T M Tm Mm := by
  have hR := h
  obtain ⟨hT, h0, K, X, P, a1, a2, a3, a4, a5, a6⟩ := h
  obtain ⟨b1, b2, b3, b4, b5, b6, b7, b8, b9, b10⟩ := a1
  by_cases hb : inR w 4
  · obtain ⟨j, hj, rfl⟩ := inR_nat (by omega) hb
    rcases (show j = 0 ∨ j = 1 ∨ j = 2 ∨ j = 3 by omega) with rfl | rfl | rfl | rfl
    · exact Ag_f (k_X6_now_0 l D B T M) (k_X7_now_0 l D Bm Tm Mm h0) a2.1.2.2.2.2 hR
    · exact Ag_f (k_X6_now_1 l D B T M) (k_X7_now_1 l D Bm Tm Mm h0 P b9 b3) (terms_sum a2 b3) hR
    · exact Ag_f (k_X6_now_2 l D B T M P b8 b3 K b4 b1.1 b1.2) (k_X7_now_2 l D Bm Tm Mm h0 P b9 b3 K b5 b1.1 b1.2 a2.2.1) (by rw [b5]; exact gsh_NR a2.1 a2.2.1 b4 b1.1 b1.2 P b3) hR
    · obtain ⟨nx, U, u1, u2, u3, u4, u5, u6⟩ := a5
      exact Ag_f (k_X6_now_3 l D B T M) (k_X7_now_3 l D Bm Tm Mm h0) (u4.trans u5.symm) hR
  · exact Ag_f (k_X6_now_bad l D B T M w hb) (k_X7_now_bad l D Bm Tm Mm h0 w hb) rfl hR
theorem ag_count (h : Rel T M Tm Mm) (w : Int32) : AgI l D B Bm yX6_count cX6_count 2 0 yX7_count cX7_count 2 1 [.int w] T M Tm Mm := by
  have hR := h
  obtain ⟨hT, h0, K, X, P, a1, a2, a3, a4, a5, a6⟩ := h
  obtain ⟨b1, b2, b3, b4, b5, b6, b7, b8, b9, b10⟩ := a1
  by_cases hb : inR w 5
  · obtain ⟨j, hj, rfl⟩ := inR_nat (by omega) hb
    rcases (show j = 0 ∨ j = 1 ∨ j = 2 ∨ j = 3 ∨ j = 4 by omega) with rfl | rfl | rfl | rfl | rfl
    · exact Ag_f (k_X6_count_0 l D B T M) (k_X7_count_0 l D Bm Tm Mm h0) (b4.trans b5.symm) hR
    · exact Ag_f (k_X6_count_1 l D B T M) (k_X7_count_1 l D Bm Tm Mm h0) (b6.trans b7.symm) hR
    · exact Ag_f (k_X6_count_2 l D B T M) (k_X7_count_2 l D Bm Tm Mm h0) (b8.trans b9.symm) hR
    · obtain ⟨nn, n1, n2, n3, n4⟩ := a4
      exact Ag_f (k_X6_count_3 l D B T M) (k_X7_count_3 l D Bm Tm Mm h0) (n2.trans n3.symm) hR
    · obtain ⟨ty, t1, t2, t3, t4, t5⟩ := a3
      exact Ag_f (k_X6_count_4 l D B T M) (k_X7_count_4 l D Bm Tm Mm h0) (t2.trans t3.symm) hR
  · exact Ag_f (k_X6_count_bad l D B T M w hb) (k_X7_count_bad l D Bm Tm Mm h0 w hb) rfl hR
theorem ag_happens (h : Rel T M Tm Mm) (k x : Int32) : AgI l D B Bm yX6_happens cX6_happens 3 4 yX7_happens cX7_happens 3 3 [.int k, .int x] T M Tm Mm := by
  have hR := h
  obtain ⟨hT, h0, K, X, P, a1, a2, a3, a4, ⟨nx, U, u1, u2, u3, u4, u5, u6⟩, a6⟩ := h
  have a1' := a1
  obtain ⟨b1, b2, b3, b4, b5, b6, b7, b8, b9, b10⟩ := a1
  by_cases hb : inR k K ∧ inR x X
  · obtain ⟨k, hk, rfl⟩ := inR_nat (by omega) hb.1
    obtain ⟨x, hx, rfl⟩ := inR_nat (by omega) hb.2
    have hN2 : NR (rmM M nx U) 12 (Mm 5) := NR_mem a2.1 (fun i q1 q2 => rmM_ne M (by omega) (by omega))
    have e10 : rmM M nx U 10 0 = nI K := (congrFun (rmM_ne M (by decide) (by omega)) 0).trans b4
    have hv : ∀ p, p < P → rmM M nx U 11 p = Mm 3 p := fun p hp => (congrFun (rmM_ne M (by decide) (by omega)) p).trans (b10 p hp)
    refine Ag_f (k_X6_happens l D B T M P b8 b3 K b4 b1.1 b1.2 X b6 b2.1 b2.2 nx U u3 u4 u1 u2 k x hk hx) (k_X7_happens l D Bm Tm Mm h0 P b9 b3 K b5 b1.1 b1.2 X b7 b2.1 b2.2 k x hk hx a2.2.1 U u5 u2) ?_ ?_
    · rw [b5]
      exact (jmp_NR hN2 a2.2.1 e10 b1.1 b1.2 (by omega) (nI x) P b3 hv).1
    · refine Rel.push h0 hT a1' a2 a3 a4 a6 u1 u2 u3 u4 u5 u6 (fun c q => hpM_fr _ _ _ _ _ (by omega)) (fun c q => setR_ne _ _ q) ⟨?_, ?_⟩
      · rw [setR_self, b5]
        exact hp_NR hN2 a2.2.1 (a2.2.mw b3) e10 b1.1 b1.2 (by omega) (nI x) b3 hv
      · rw [setR_self]
        exact evR_RG b3 a2.2 (by omega) _
  · exact Ag_f (k_X6_happens_bad l D B T M K b4 b1.1 b1.2 X b6 b2.1 b2.2 k x hb) (k_X7_happens_bad l D Bm Tm Mm h0 K b5 b1.1 b1.2 X b7 b2.1 b2.2 k x hb) rfl hR
theorem ag_walks (h : Rel T M Tm Mm) (p x : Int32) : AgI l D B Bm yX6_walks cX6_walks 4 4 yX7_walks cX7_walks 4 2 [.int p, .int x] T M Tm Mm := by
  have hR := h
  obtain ⟨hT, h0, K, X, P, a1, a2, a3, a4, ⟨nx, U, u1, u2, u3, u4, u5, u6⟩, a6⟩ := h
  have a1' := a1
  obtain ⟨b1, b2, b3, b4, b5, b6, b7, b8, b9, b10⟩ := a1
  by_cases hb : inR p P ∧ inR x X
  · obtain ⟨p, hp, rfl⟩ := inR_nat (by omega) hb.1
    obtain ⟨x, hx, rfl⟩ := inR_nat (by omega) hb.2
    have e : M 13 p = Mm 5 p := a2.1.1 p (by omega)
    have hN2 : NR (rmM M nx U) 12 (Mm 5) := NR_mem a2.1 (fun i q1 q2 => rmM_ne M (by omega) (by omega))
    by_cases c : M 13 p = nI x
    · exact Ag_f (k_X6_walks_state l D B T M P b8 b3 X b6 b2.1 b2.2 p x hp hx c) (k_X7_walks_state l D Bm Tm Mm h0 P b9 b3 X b7 b2.1 b2.2 p x hp hx (e ▸ c)) rfl hR
    · refine Ag_f (k_X6_walks l D B T M P b8 b3 X b6 b2.1 b2.2 nx U u3 u4 u1 u2 p x hp hx c) (k_X7_walks l D Bm Tm Mm h0 P b9 b3 X b7 b2.1 b2.2 p x hp hx (e ▸ c) U u5 u2) e ?_
      refine Rel.push h0 hT a1' a2 a3 a4 a6 u1 u2 u3 u4 u5 u6 (fun c q => up2_ne _ _ (by omega)) (fun c q => up2_ne _ _ q) ⟨?_, ?_⟩
      · rw [up2_self, kb_ne _ _ (by decide) (by decide)]
        exact NR_place (a := 12) hN2 (by omega)
      · rw [up2_self, kb_ne _ _ (by decide) (by decide)]
        obtain ⟨r1, ⟨m, hm, r2⟩, r3, r4⟩ := a2.2
        refine ⟨WR_upd r1 (Or.inl (by omega)), ⟨m, hm, by rw [pk_un (by omega)]; exact r2⟩, fun q hq => ?_, fun q hq hq5 => by rw [pk_un (by omega)]; exact r4 q hq hq5⟩
        by_cases c : q = p
        · subst c; rw [pk_us]; exact ⟨x, hx, rfl⟩
        · rw [pk_un c]; exact r3 q hq
  · exact Ag_f (k_X6_walks_bad l D B T M P b8 b3 X b6 b2.1 b2.2 p x hb) (k_X7_walks_bad l D Bm Tm Mm h0 P b9 b3 X b7 b2.1 b2.2 p x hb) rfl hR
theorem tl_WR {row : Nat → Int32} (h : WR row) {p k : Nat} (hp : p < 5) (hk : k < 4) : ∃ s : Nat, s ≤ 999 ∧ row (5 + 4 * p + k) + (if row (5 + 4 * p + k) < nI 999 then nI 1 else nI 0) = nI s := by
  obtain ⟨s, hs, e⟩ := h (4 * p + k) (by omega)
  rw [← Nat.add_assoc] at e
  rw [e]
  by_cases c : s < 999
  · rw [if_pos (nI_lt c (by decide)), nI_add]; exact ⟨s + 1, by omega, rfl⟩
  · rw [if_neg (nI_nlt (by omega) (by omega)), nI_add]; exact ⟨s + 0, by omega, rfl⟩
theorem ag_tells (h : Rel T M Tm Mm) (p k : Int32) : AgI l D B Bm yX6_tells cX6_tells 3 4 yX7_tells cX7_tells 4 2 [.int p, .int k] T M Tm Mm := by
  have hR := h
  obtain ⟨hT, h0, K, X, P, a1, a2, a3, a4, ⟨nx, U, u1, u2, u3, u4, u5, u6⟩, a6⟩ := h
  have a1' := a1
  obtain ⟨b1, b2, b3, b4, b5, b6, b7, b8, b9, b10⟩ := a1
  by_cases hb : inR p P ∧ inR k K
  · obtain ⟨p, hp, rfl⟩ := inR_nat (by omega) hb.1
    obtain ⟨k, hk, rfl⟩ := inR_nat (by omega) hb.2
    have hN2 : NR (rmM M nx U) 12 (Mm 5) := NR_mem a2.1 (fun i q1 q2 => rmM_ne M (by omega) (by omega))
    have hN3 : NR (seeS (rmM M nx U) 12 p k) 12 (tlR (Mm 5) p k) := by
      have h1 := see_NR hN2 (n := p) (k := k) (by omega) (by omega) True
      simp only [if_true, true_and] at h1
      unfold tlR
      exact h1
    refine Ag_f (k_X6_tells l D B T M P b8 b3 K b4 b1.1 b1.2 nx U u3 u4 u1 u2 p k hp hk) (k_X7_tells l D Bm Tm Mm h0 P b9 b3 K b5 b1.1 b1.2 p k hp hk U u5 u2) (hN3.2.2.1 p (by omega) k (by omega)) ?_
    refine Rel.push h0 hT a1' a2 a3 a4 a6 u1 u2 u3 u4 u5 u6 (fun c q => ?_) (fun c q => setR_ne _ _ q) ⟨?_, ?_⟩
    · unfold seeS
      split
      · exact adS_fr _ _ _ _ _ (by omega)
      · rfl
    · rw [setR_self]; exact hN3
    · rw [setR_self]
      obtain ⟨r1, ⟨m, hm, r2⟩, r3, r4⟩ := a2.2
      unfold tlR
      exact ⟨WR_upd r1 (Or.inr (tl_WR r1 (by omega) (by omega))), ⟨m, hm, by rw [pk_un (by omega)]; exact r2⟩, fun q hq => by rw [pk_un (by omega)]; exact r3 q hq, fun q hq hq5 => by rw [pk_un (by omega)]; exact r4 q hq hq5⟩
  · exact Ag_f (k_X6_tells_bad l D B T M P b8 b3 K b4 b1.1 b1.2 p k hb) (k_X7_tells_bad l D Bm Tm Mm h0 P b9 b3 K b5 b1.1 b1.2 p k hb) rfl hR
theorem ag_abdicates (h : Rel T M Tm Mm) : AgI l D B Bm yX6_abdicates cX6_abdicates 2 4 yX7_abdicates cX7_abdicates 2 1 [] T M Tm Mm := by
  have hR := h
  obtain ⟨hT, h0, K, X, P, a1, a2, a3, a4, ⟨nx, U, u1, u2, u3, u4, u5, u6⟩, a6⟩ := h
  have a1' := a1
  obtain ⟨b1, b2, b3, b4, b5, b6, b7, b8, b9, b10⟩ := a1
  obtain ⟨r1, ⟨m, hm, r2⟩, r3, r4⟩ := a2.2
  have hN2 : NR (rmM M nx U) 12 (Mm 5) := NR_mem a2.1 (fun i q1 q2 => rmM_ne M (by omega) (by omega))
  have e0 := a2.1.2.2.2.2
  cases m with
  | zero =>
    exact Ag_f (k_X6_abdicates_state l D B T M (e0.trans (moR_zero r2))) (k_X7_abdicates_state l D Bm Tm Mm h0 r2) rfl hR
  | succ m =>
    have e1 : M 12 0 = nI m := e0.trans (moR_pos r2 (by omega))
    refine Ag_f (k_X6_abdicates l D B T M nx U u3 u4 u1 u2 (by rw [e1]; exact nI_ne9 (by omega))) (k_X7_abdicates l D Bm Tm Mm h0 U u5 u2 m r2 (by omega)) e1 ?_
    refine Rel.push h0 hT a1' a2 a3 a4 a6 u1 u2 u3 u4 u5 u6 (fun c q => up2_ne _ _ (by omega)) (fun c q => up2_ne _ _ q) ⟨?_, ?_⟩
    · rw [up2_self, kb_ne _ _ (by decide) (by decide)]
      refine ⟨fun p hp => ?_, fun p hp => ?_, fun p hp k hk => ?_, fun p hp => ?_, ?_⟩
      · rw [up2_ne _ _ (by decide), pk_un (by omega)]; exact hN2.1 p hp
      · rw [up2_ne _ _ (by decide), pk_un (by omega)]; exact hN2.2.1 p hp
      · rw [up2_ne _ _ (by decide), pk_un (by omega)]; exact hN2.2.2.1 p hp k hk
      · rw [up2_ne _ _ (by decide), aS_upd (by omega) hp]; exact hN2.2.2.2.1 p hp
      · rw [up2_at, moR_zero pk_us]
    · rw [up2_self, kb_ne _ _ (by decide) (by decide)]
      exact ⟨WR_upd r1 (Or.inl (by omega)), ⟨0, by omega, pk_us⟩, fun q hq => by rw [pk_un (by omega)]; exact r3 q hq, fun q hq hq5 => by rw [pk_un (by omega)]; exact r4 q hq hq5⟩
theorem ag_undo (h : Rel T M Tm Mm) : AgI l D B Bm yX6_undo cX6_undo 1 4 yX7_undo cX7_undo 2 0 [] T M Tm Mm := by
  have hR := h
  obtain ⟨hT, h0, K, X, P, a1, a2, a3, a4, ⟨nx, U, u1, u2, u3, u4, u5, u6⟩, a6⟩ := h
  have b3 := a1.2.2.1
  cases U with
  | zero => exact Ag_f (k_X6_undo_state l D B T M u4) (k_X7_undo_state l D Bm Tm Mm h0 u5) rfl hR
  | succ U =>
    refine Ag_f (k_X6_undo l D B T M nx U u3 u4 u1 (by omega)) (k_X7_undo l D Bm Tm Mm h0 U u5 (by omega)) rfl ?_
    have e : ∀ c, c < 12 ∨ 17 < c → cpN (up2 (up2 M 17 1 (nI ((nx + 9) % 10))) 17 2 (nI U)) 12 (19 + 5 * ((nx + 9) % 10)) c = M c := fun c q => by
      rw [cpN_fr _ _ _ (by omega), up2_ne _ _ (by omega), up2_ne _ _ (by omega)]
    obtain ⟨o1, o2⟩ := u6 U (by omega)
    rw [show (nx + 10 - (U + 1) + U) % 10 = (nx + 9) % 10 by omega] at o1
    refine Rel.ub hT h0 a1 a3 a4 a6 e (fun c q1 q2 => by rw [setR_ne _ _ q2, up2_ne _ _ q1]) (fun j hj => by rw [setR_ne _ _ (by decide), up2_no _ _ _ hj]) ⟨?_, ?_⟩ ⟨(nx + 9) % 10, U, by omega, by omega, ?_, ?_, ?_, fun i hi => ?_⟩
    · rw [setR_self]
      exact cpN_NR (NR_mem o1 (fun i q1 q2 => by rw [up2_ne _ _ (by omega), up2_ne _ _ (by omega)]))
    · rw [setR_self]; exact o2
    · rw [cpN_fr _ _ _ (by omega), up2_no _ _ _ (by decide), up2_at]
    · rw [cpN_fr _ _ _ (by omega), up2_at]
    · rw [setR_ne _ _ (by decide), up2_at]
    · obtain ⟨o3, o4⟩ := u6 i (by omega)
      rw [show (nx + 10 - (U + 1) + i) % 10 = ((nx + 9) % 10 + 10 - U + i) % 10 by omega] at o3
      rw [setR_ne _ _ (show (9 : Nat) ≠ 5 by decide), up2_ne _ _ (show (9 : Nat) ≠ 0 by decide)]
      exact ⟨NR_mem o3 (fun i q1 q2 => e i (by omega)), o4⟩
end AG
