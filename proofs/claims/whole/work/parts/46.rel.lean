def RG (X P : Nat) (row : Nat → Int32) : Prop := WR row ∧ (∃ m : Nat, m ≤ P ∧ row 30 = nI m) ∧ (∀ p, p < P → ∃ x : Nat, x < X ∧ row p = nI x) ∧ (∀ p, P ≤ p → p < 5 → row (25 + p) = nI 0)
theorem RG.mw {X P : Nat} {row : Nat → Int32} (h : RG X P row) (hP : P ≤ 5) : MW row := by
  obtain ⟨m, hm, e⟩ := h.2.1
  exact ⟨m, by omega, e⟩
theorem NR_ext {M : Mem} {a : Nat} {row row1 : Nat → Int32} (h : NR M a row) (he : ∀ j, j < 31 → row j = row1 j) : NR M a row1 := by
  refine ⟨fun p hp => ?_, fun p hp => ?_, fun p hp k hk => ?_, fun p hp => ?_, ?_⟩
  · rw [← he p (by omega)]; exact h.1 p hp
  · rw [← he (25 + p) (by omega)]; exact h.2.1 p hp
  · rw [← he (5 + 4 * p + k) (by omega)]; exact h.2.2.1 p hp k hk
  · rw [h.2.2.2.1 p hp]
    unfold aS
    exact nSum_ext (fun j hj => he _ (by omega))
  · rw [h.2.2.2.2]
    unfold moR
    rw [he 30 (by omega)]
theorem RG_ext {X P : Nat} {row row1 : Nat → Int32} (hP : P ≤ 5) (h : RG X P row) (he : ∀ j, j < 31 → row j = row1 j) : RG X P row1 := by
  refine ⟨fun j hj => ?_, ?_, fun p hp => ?_, fun p hp hp5 => ?_⟩
  · rw [← he _ (by omega)]; exact h.1 j hj
  · rw [← he 30 (by omega)]; exact h.2.1
  · rw [← he p (by omega)]; exact h.2.2.1 p hp
  · rw [← he _ (by omega)]; exact h.2.2.2 p hp hp5
theorem evR_RG {X P : Nat} {row nv : Nat → Int32} {Kv : Int32} (hP : P ≤ 5) (h : RG X P row) {k : Nat} (hk : k < 4) (x : Int32) : RG X P (evR nv Kv row k x P) := by
  obtain ⟨h1, ⟨m, hm, em⟩, h3, h4⟩ := h
  have hlo : ∀ j, j < 5 ∨ 25 ≤ j → evR nv Kv row k x P j = e1 row (eF nv Kv row k x P).2.1 j := fun j hj => by
    unfold evR
    exact e2_lo hj hP hk
  refine ⟨evR_WR h1 hk, ?_, fun p hp => ?_, fun p hp hp5 => ?_⟩
  · rw [hlo 30 (by omega)]
    unfold e1
    split
    · exact ⟨m, hm, em⟩
    · rename_i c
      obtain ⟨q, hq, e⟩ := eF_first (fun e => c (Or.inl e))
      rw [e, nI_clamp (by omega), nI_add, pk_un (by omega), pk_us]
      exact ⟨q + 1, by omega, rfl⟩
  · rw [evR_pl hk x hP (by omega)]
    exact h3 p hp
  · rw [hlo _ (by omega)]
    unfold e1
    split
    · exact h4 p hp hp5
    · rename_i c
      obtain ⟨q, hq, e⟩ := eF_first (fun e => c (Or.inl e))
      rw [e, nI_clamp (by omega), pk_un (by omega), pk_un (by omega)]
      exact h4 p hp hp5
def aT (M Mm : Mem) (K X P : Nat) : Prop := (1 ≤ K ∧ K ≤ 4) ∧ (1 ≤ X ∧ X ≤ 4) ∧ P ≤ 5 ∧ M 10 0 = nI K ∧ Mm 2 0 = nI K ∧ M 10 1 = nI X ∧ Mm 2 1 = nI X ∧ M 10 2 = nI P ∧ Mm 2 2 = nI P ∧ (∀ p, p < P → M 11 p = Mm 3 p)
def aN (M Mm : Mem) (X P : Nat) : Prop := NR M 12 (Mm 5) ∧ RG X P (Mm 5)
def aX (M Mm : Mem) : Prop := ∃ ty : Nat, ty ≤ 150 ∧ M 1 1 = nI ty ∧ Mm 0 3 = nI ty ∧ M 2 = Mm 1 ∧ ∀ j, inR (Mm 1 j) 256
def aB (M Mm : Mem) : Prop := ∃ nn : Nat, nn ≤ 6 ∧ M 92 3 = nI nn ∧ Mm 0 22 = nI nn ∧ NN M (Mm 10) (Mm 11) (Mm 12) nn
def aU (M Mm : Mem) (X P : Nat) : Prop := ∃ nx U : Nat, nx < 10 ∧ U ≤ 10 ∧ M 17 1 = nI nx ∧ M 17 2 = nI U ∧ Mm 0 18 = nI U ∧ ∀ i, i < U → NR M (19 + 5 * ((nx + 10 - U + i) % 10)) (fun j => Mm 9 (31 * i + j)) ∧ RG X P (fun j => Mm 9 (31 * i + j))
def aG (M Mm : Mem) (X P : Nat) : Prop := ∀ g, g < 2 → M 107 g = Mm 8 g ∧ (Mm 8 g = nI 0 ∨ (Mm 8 g = nI 1 ∧ NR M (97 + 5 * g) (fun j => Mm 7 (31 * g + j)) ∧ RG X P (fun j => Mm 7 (31 * g + j))))
/-- the two systems hold the same -/
def Rel (T : Int64) (M : Mem) (Tm : Int64) (Mm : Mem) : Prop := Tm = T ∧ Mm 0 0 = nI 0 ∧ ∃ K X P : Nat, aT M Mm K X P ∧ aN M Mm X P ∧ aX M Mm ∧ aB M Mm ∧ aU M Mm X P ∧ aG M Mm X P
theorem aT.to {M Mm M1 Mm1 : Mem} {K X P : Nat} (h : aT M Mm K X P) (h1 : M1 10 = M 10) (h2 : M1 11 = M 11) (h3 : ∀ j, j < 3 → Mm1 2 j = Mm 2 j) (h4 : ∀ j, j < 5 → Mm1 3 j = Mm 3 j) : aT M1 Mm1 K X P := by
  unfold aT at h ⊢
  rw [h1, h2, h3 0 (by decide), h3 1 (by decide), h3 2 (by decide)]
  obtain ⟨a1, a2, a3, a4, a5, a6, a7, a8, a9, a10⟩ := h
  exact ⟨a1, a2, a3, a4, a5, a6, a7, a8, a9, fun p hp => (a10 p hp).trans (h4 p (by omega)).symm⟩
theorem aN.to {M Mm M1 Mm1 : Mem} {X P : Nat} (h : aN M Mm X P) (h1 : ∀ c, 12 ≤ c → c < 17 → M1 c = M c) (h2 : Mm1 5 = Mm 5) : aN M1 Mm1 X P := by
  unfold aN at h ⊢
  rw [h2]
  exact ⟨NR_mem h.1 h1, h.2⟩
theorem aX.to {M Mm M1 Mm1 : Mem} (h : aX M Mm) (h1 : M1 1 1 = M 1 1) (h2 : M1 2 = M 2) (h3 : Mm1 0 3 = Mm 0 3) (h4 : Mm1 1 = Mm 1) : aX M1 Mm1 := by
  unfold aX at h ⊢
  rw [h1, h2, h3, h4]
  exact h
theorem aB.to {M Mm M1 Mm1 : Mem} (h : aB M Mm) (h1 : M1 92 3 = M 92 3) (h2 : M1 93 = M 93) (h3 : M1 94 = M 94) (h4 : M1 95 = M 95) (h5 : Mm1 0 22 = Mm 0 22) (h6 : Mm1 10 = Mm 10) (h7 : Mm1 11 = Mm 11) (h8 : Mm1 12 = Mm 12) : aB M1 Mm1 := by
  unfold aB NN at h ⊢
  rw [h1, h2, h3, h4, h5, h6, h7, h8]
  exact h
theorem aU.to {M Mm M1 Mm1 : Mem} {X P : Nat} (h : aU M Mm X P) (h1 : M1 17 1 = M 17 1) (h2 : M1 17 2 = M 17 2) (h3 : ∀ c, 19 ≤ c → c < 69 → M1 c = M c) (h4 : Mm1 0 18 = Mm 0 18) (h5 : Mm1 9 = Mm 9) : aU M1 Mm1 X P := by
  obtain ⟨nx, U, a1, a2, a3, a4, a5, a6⟩ := h
  refine ⟨nx, U, a1, a2, h1.trans a3, h2.trans a4, h4.trans a5, fun i hi => ?_⟩
  rw [h5]
  exact ⟨NR_mem (a6 i hi).1 (fun c q1 q2 => h3 c (by omega) (by omega)), (a6 i hi).2⟩
theorem aG.to {M Mm M1 Mm1 : Mem} {X P : Nat} (h : aG M Mm X P) (h1 : M1 107 = M 107) (h2 : ∀ c, 97 ≤ c → c < 107 → M1 c = M c) (h3 : Mm1 8 = Mm 8) (h4 : Mm1 7 = Mm 7) : aG M1 Mm1 X P := by
  intro g hg
  rw [h1, h3, h4]
  obtain ⟨a1, a2⟩ := h g hg
  refine ⟨a1, a2.elim Or.inl (fun q => Or.inr ⟨q.1, NR_mem q.2.1 (fun c q1 q2 => h2 c (by omega) (by omega)), q.2.2⟩)⟩
theorem Rel.sc {T Tm : Int64} {M Mm M1 Mm1 : Mem} (h : Rel T M Tm Mm) (hc : ∀ c, c ≠ 92 → (c < 71 ∨ 92 ≤ c) → M1 c = M c) (h9 : M1 92 3 = M 92 3) (hm : Sm Mm Mm1) : Rel T M1 Tm Mm1 := by
  obtain ⟨hT, h0, K, X, P, a1, a2, a3, a4, a5, a6⟩ := h
  have e : ∀ i, i ≠ 6 → i ≠ 13 → Mm1 i = Mm i := hm
  refine ⟨hT, by rw [e 0 (by decide) (by decide)]; exact h0, K, X, P, ?_, ?_, ?_, ?_, ?_, ?_⟩
  · exact a1.to (hc 10 (by decide) (by decide)) (hc 11 (by decide) (by decide)) (fun j _ => by rw [e 2 (by decide) (by decide)]) (fun j _ => by rw [e 3 (by decide) (by decide)])
  · exact a2.to (fun c q1 q2 => hc c (by omega) (by omega)) (e 5 (by decide) (by decide))
  · exact a3.to (by rw [hc 1 (by decide) (by decide)]) (hc 2 (by decide) (by decide)) (by rw [e 0 (by decide) (by decide)]) (e 1 (by decide) (by decide))
  · exact a4.to h9 (hc 93 (by decide) (by decide)) (hc 94 (by decide) (by decide)) (hc 95 (by decide) (by decide)) (by rw [e 0 (by decide) (by decide)]) (e 10 (by decide) (by decide)) (e 11 (by decide) (by decide)) (e 12 (by decide) (by decide))
  · exact a5.to (by rw [hc 17 (by decide) (by decide)]) (by rw [hc 17 (by decide) (by decide)]) (fun c q1 q2 => hc c (by omega) (by omega)) (by rw [e 0 (by decide) (by decide)]) (e 9 (by decide) (by decide))
  · exact a6.to (hc 107 (by decide) (by decide)) (fun c q1 q2 => hc c (by omega) (by omega)) (e 8 (by decide) (by decide)) (e 7 (by decide) (by decide))
theorem Sm.rf (M : Mem) : Sm M M := fun _ _ _ => rfl
theorem Rel.ss {T Tm : Int64} {M Mm M1 Mm1 : Mem} (h : Rel T M Tm Mm) (hc : Sc M M1) (hm : Sm Mm Mm1) : Rel T M1 Tm Mm1 := h.sc (fun c _ q => hc c q) (by rw [hc 92 (by decide)]) hm
theorem rmM_ne (M : Mem) {nx kn c : Nat} (h : c ≠ 17) (h2 : c < 19 + 5 * nx ∨ 24 + 5 * nx ≤ c) : rmM M nx kn c = M c := by
  unfold rmM
  rw [up2_ne _ _ h, up2_ne _ _ h, cpN_fr _ _ _ (by omega)]
theorem kb_ne (M : Mem) (U : Nat) {c : Nat} (h0 : c ≠ 0) (h9 : c ≠ 9) : kb M U c = M c := by
  unfold kb
  split
  · rw [up2_ne _ _ h0, setR_ne _ _ h9, up2_ne _ _ h0, setR_ne _ _ h9]
  · rw [up2_ne _ _ h0, setR_ne _ _ h9]
theorem kb_0 (M : Mem) (U : Nat) {j : Nat} (h : j ≠ 18) : kb M U 0 j = M 0 j := by
  unfold kb
  split
  · rw [up2_no _ _ _ h, setR_ne _ _ (by decide), up2_no _ _ _ h, setR_ne _ _ (by decide)]
  · rw [up2_no _ _ _ h, setR_ne _ _ (by decide)]
theorem push_aU {M Mm : Mem} {X P nx U : Nat} (hP : P ≤ 5) (hnx : nx < 10) (hU : U ≤ 10) (h1 : M 17 1 = nI nx) (h2 : M 17 2 = nI U) (h3 : Mm 0 18 = nI U) (h : ∀ i, i < U → NR M (19 + 5 * ((nx + 10 - U + i) % 10)) (fun j => Mm 9 (31 * i + j)) ∧ RG X P (fun j => Mm 9 (31 * i + j))) (hN : aN M Mm X P) : aU (rmM M nx U) (kb Mm U) X P := by
  have e1 : rmM M nx U 17 1 = nI ((nx + 1) % 10) := by
    unfold rmM
    rw [up2_no _ _ _ (by decide), up2_at]
  have e2 : rmM M nx U 17 2 = nI (min 10 (U + 1)) := by
    unfold rmM
    rw [up2_at]
    exact mn_nI (by decide) (by omega)
  have enew : NR (rmM M nx U) (19 + 5 * nx) (Mm 5) := by
    refine NR_mem (M := cpN M (19 + 5 * nx) 12) (cpN_NR hN.1) (fun i q1 q2 => ?_)
    unfold rmM
    rw [up2_ne _ _ (by omega), up2_ne _ _ (by omega)]
  have eold : ∀ s, s < 10 → s ≠ nx → ∀ row, NR M (19 + 5 * s) row → NR (rmM M nx U) (19 + 5 * s) row := fun s hs hne row hr => NR_mem hr (fun i q1 q2 => rmM_ne M (by omega) (by omega))
  by_cases c : U = 10
  · subst c
    have e9 : kb Mm 10 9 = putn (shn (Mm 9) 279) (Mm 5) 279 31 := by
      unfold kb
      rw [if_pos rfl, up2_ne _ _ (by decide), setR_self]
    have e0 : kb Mm 10 0 18 = nI 10 := by
      unfold kb
      rw [if_pos rfl, up2_at]
    refine ⟨(nx + 1) % 10, 10, by omega, by decide, e1, e2, e0, fun i hi => ?_⟩
    rw [e9]
    by_cases c9 : i = 9
    · subst c9
      have er : ∀ j, j < 31 → Mm 5 j = putn (shn (Mm 9) 279) (Mm 5) 279 31 (31 * 9 + j) := fun j hj => by
        unfold putn
        rw [if_pos (by omega), show 31 * 9 + j - 279 = j by omega]
      rw [show ((nx + 1) % 10 + 10 - 10 + 9) % 10 = nx by omega]
      exact ⟨NR_ext enew er, RG_ext hP hN.2 er⟩
    · have er : ∀ j, j < 31 → Mm 9 (31 * (i + 1) + j) = putn (shn (Mm 9) 279) (Mm 5) 279 31 (31 * i + j) := fun j hj => by
        unfold putn shn
        rw [if_neg (by omega), if_pos (by omega), show 31 * i + j + 31 = 31 * (i + 1) + j by omega]
      obtain ⟨o1, o2⟩ := h (i + 1) (by omega)
      rw [show (nx + 10 - 10 + (i + 1)) % 10 = ((nx + 1) % 10 + 10 - 10 + i) % 10 by omega] at o1
      exact ⟨NR_ext (eold _ (by omega) (by omega) _ o1) er, RG_ext hP o2 er⟩
  · have e9 : kb Mm U 9 = putn (Mm 9) (Mm 5) (31 * U) 31 := by
      unfold kb
      rw [if_neg c, up2_ne _ _ (by decide), setR_self]
    have e0 : kb Mm U 0 18 = nI (U + 1) := by
      unfold kb
      rw [if_neg c, up2_at]
    refine ⟨(nx + 1) % 10, U + 1, by omega, by omega, e1, by rw [e2, show min 10 (U + 1) = U + 1 by omega], e0, fun i hi => ?_⟩
    rw [e9]
    by_cases c9 : i = U
    · subst c9
      have er : ∀ j, j < 31 → Mm 5 j = putn (Mm 9) (Mm 5) (31 * i) 31 (31 * i + j) := fun j hj => by
        unfold putn
        rw [if_pos (by omega), show 31 * i + j - 31 * i = j by omega]
      rw [show ((nx + 1) % 10 + 10 - (i + 1) + i) % 10 = nx by omega]
      exact ⟨NR_ext enew er, RG_ext hP hN.2 er⟩
    · have er : ∀ j, j < 31 → Mm 9 (31 * i + j) = putn (Mm 9) (Mm 5) (31 * U) 31 (31 * i + j) := fun j hj => by
        unfold putn
        rw [if_neg (by omega)]
      obtain ⟨o1, o2⟩ := h i (by omega)
      rw [show (nx + 10 - U + i) % 10 = ((nx + 1) % 10 + 10 - (U + 1) + i) % 10 by omega] at o1
      exact ⟨NR_ext (eold _ (by omega) (by omega) _ o1) er, RG_ext hP o2 er⟩
/-- what is done: behind the keeping of what was, now changes to a row that both hold -/
theorem Rel.push {T Tm : Int64} {M Mm M2 Mm2 : Mem} {K X P nx U : Nat} (h0 : Mm 0 0 = nI 0) (hT : Tm = T) (a1 : aT M Mm K X P) (a2 : aN M Mm X P) (a3 : aX M Mm) (a4 : aB M Mm) (a6 : aG M Mm X P) (hnx : nx < 10) (hU : U ≤ 10) (h1 : M 17 1 = nI nx) (h2 : M 17 2 = nI U) (h3 : Mm 0 18 = nI U) (h : ∀ i, i < U → NR M (19 + 5 * ((nx + 10 - U + i) % 10)) (fun j => Mm 9 (31 * i + j)) ∧ RG X P (fun j => Mm 9 (31 * i + j))) (hc : ∀ c, c < 12 ∨ 17 ≤ c → M2 c = rmM M nx U c) (hm : ∀ c, c ≠ 5 → Mm2 c = kb Mm U c) (hN : aN M2 Mm2 X P) : Rel T M2 Tm Mm2 := by
  have e : ∀ c, c ≠ 17 → (c < 12 ∨ 17 ≤ c) → (c < 19 + 5 * nx ∨ 24 + 5 * nx ≤ c) → M2 c = M c := fun c q1 q2 q3 => (hc c q2).trans (rmM_ne M q1 q3)
  have em : ∀ c, c ≠ 0 → c ≠ 5 → c ≠ 9 → Mm2 c = Mm c := fun c q0 q5 q9 => (hm c q5).trans (kb_ne Mm U q0 q9)
  have em0 : ∀ j, j ≠ 18 → Mm2 0 j = Mm 0 j := fun j hj => (congrFun (hm 0 (by decide)) j).trans (kb_0 Mm U hj)
  refine ⟨hT, (em0 0 (by decide)).trans h0, K, X, P, ?_, hN, ?_, ?_, ?_, ?_⟩
  · exact a1.to (e 10 (by decide) (by decide) (by omega)) (e 11 (by decide) (by decide) (by omega)) (fun j _ => by rw [em 2 (by decide) (by decide) (by decide)]) (fun j _ => by rw [em 3 (by decide) (by decide) (by decide)])
  · exact a3.to (by rw [e 1 (by decide) (by decide) (by omega)]) (e 2 (by decide) (by decide) (by omega)) (em0 3 (by decide)) (em 1 (by decide) (by decide) (by decide))
  · exact a4.to (by rw [e 92 (by decide) (by decide) (by omega)]) (e 93 (by decide) (by decide) (by omega)) (e 94 (by decide) (by decide) (by omega)) (e 95 (by decide) (by decide) (by omega)) (em0 22 (by decide)) (em 10 (by decide) (by decide) (by decide)) (em 11 (by decide) (by decide) (by decide)) (em 12 (by decide) (by decide) (by decide))
  · exact (push_aU a1.2.2.1 hnx hU h1 h2 h3 h a2).to (by rw [hc 17 (by decide)]) (by rw [hc 17 (by decide)]) (fun c q1 q2 => hc c (by omega)) (by rw [hm 0 (by decide)]) (hm 9 (by decide))
  · exact a6.to (e 107 (by decide) (by decide) (by omega)) (fun c q1 q2 => e c (by omega) (by omega) (by omega)) (em 8 (by decide) (by decide) (by decide)) (em 7 (by decide) (by decide) (by decide))
