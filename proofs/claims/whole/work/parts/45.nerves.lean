theorem su_nat {row : Nat → Int32} (h : WR row) {K : Nat} (hK1 : 1 ≤ K) (hK4 : K ≤ 4) {p k : Nat} (hp : p < 5) (hk : k < 4) : ∃ s : Nat, s ≤ 100 ∧ suR (nI K) row p k = nI s := by
  obtain ⟨c0, h0, e0⟩ := h (4 * p + 0) (by omega)
  obtain ⟨c1, h1, e1⟩ := h (4 * p + 1) (by omega)
  obtain ⟨c2, h2, e2⟩ := h (4 * p + 2) (by omega)
  obtain ⟨c3, h3, e3⟩ := h (4 * p + 3) (by omega)
  rw [← Nat.add_assoc] at e0 e1 e2 e3
  have eS : aS row p = nI (c0 + c1 + c2 + c3) := by
    unfold aS
    simp only [nSum]
    rw [e0, e1, e2, e3, Int32.zero_add, nI_add, nI_add, nI_add]
  have hc : ∃ c : Nat, c ≤ 999 ∧ c ≤ c0 + c1 + c2 + c3 ∧ row (5 + 4 * p + k) = nI c := by
    rcases (show k = 0 ∨ k = 1 ∨ k = 2 ∨ k = 3 by omega) with rfl | rfl | rfl | rfl
    · exact ⟨c0, h0, by omega, e0⟩
    · exact ⟨c1, h1, by omega, e1⟩
    · exact ⟨c2, h2, by omega, e2⟩
    · exact ⟨c3, h3, by omega, e3⟩
  obtain ⟨c, hc1, hc2, ec⟩ := hc
  have hq : 100 * (c + 1) / (c0 + c1 + c2 + c3 + K) ≤ 100 := by
    refine Nat.div_le_of_le_mul ?_
    rw [Nat.mul_comm]
    exact Nat.mul_le_mul_right 100 (by omega)
  refine ⟨100 - 100 * (c + 1) / (c0 + c1 + c2 + c3 + K), Nat.sub_le _ _, ?_⟩
  unfold suR
  rw [eS, ec, nI_add, nI_add, pk_mul, pk_div (by omega) (by omega) (by omega), pk_sub hq]
theorem mx_nI {a b : Nat} (ha : a < 2 ^ 31) (hb : b < 2 ^ 31) : mx (nI a) (nI b) = nI (max a b) := by
  unfold mx
  by_cases c : a < b
  · rw [if_pos (nI_lt c hb), Nat.max_eq_right (by omega)]
  · rw [if_neg (nI_nlt (by omega) ha), Nat.max_eq_left (by omega)]
theorem mn_nI {a b : Nat} (ha : a < 2 ^ 31) (hb : b < 2 ^ 31) : mn (nI a) (nI b) = nI (min a b) := by
  unfold mn
  by_cases c : b < a
  · rw [if_pos (nI_lt c ha), Nat.min_eq_right (by omega)]
  · rw [if_neg (nI_nlt (by omega) hb), Nat.min_eq_left (by omega)]
theorem sub_p1 {a b : Nat} (ha : a < 2 ^ 30) (hb : b < 1000) : mx (nI 0) (nI b - nI a + nI 1) = nI (b + 1 - a) := by
  have e : nI b - nI a + nI 1 = nI (b + 1) - nI a := by
    rw [← nI_add, Int32.sub_eq_add_neg, Int32.sub_eq_add_neg, Int32.add_assoc, Int32.add_comm (-nI a), Int32.add_assoc]
  rw [e]
  by_cases c : a ≤ b + 1
  · rw [pk_sub c, mx_nI (by decide) (by omega), Nat.max_eq_right (Nat.zero_le _)]
  · have h := pk_sneg (a := b + 1) (b := a) ha (by omega)
    unfold mx
    rw [if_neg, show b + 1 - a = 0 by omega]
    intro q
    rw [nI_0] at q
    exact Int32.lt_irrefl (Int32.lt_trans q h)
def NN (M : Mem) (of_ by_ nt : Nat → Int32) (nn : Nat) : Prop := ∀ i, i < nn → M 93 i = of_ i ∧ M 94 i = by_ i ∧ M 95 i = nt i ∧ (∃ k : Nat, k < 4 ∧ by_ i = nI k) ∧ (nt i = nI 0 ∨ nt i = nI 1)
theorem wg_iv {M : Mem} {row of_ by_ nt : Nat → Int32} {K p nn : Nat} (h : NR M 12 row) (hW : WR row) (hK : M 10 0 = nI K) (hK1 : 1 ≤ K) (hK4 : K ≤ 4) (hp : p < 5) (hN : NN M of_ by_ nt nn) : ∀ n, n ≤ nn → ∃ a b : Nat, a ≤ 101 ∧ b ≤ 99 ∧ (wgF M p n).1 = nI a ∧ (wgF M p n).2 = nI b ∧ ∀ v, v < 100 → (cbB (nI K) row of_ by_ nt p (nI v) n = true ↔ a ≤ v ∧ v ≤ b) := by
  intro n
  induction n with
  | zero => exact fun _ => ⟨0, 99, by decide, by decide, rfl, rfl, fun v hv => ⟨fun _ => by omega, fun _ => rfl⟩⟩
  | succ n ih =>
    intro hn
    obtain ⟨a, b, ha, hb, e1, e2, hv⟩ := ih (by omega)
    obtain ⟨n1, n2, n3, ⟨k, hk, n4⟩, n5⟩ := hN n (by omega)
    have hcl : (by_ n).toNatClampNeg = k := by rw [n4, nI_clamp (by omega)]
    obtain ⟨s, hs, es⟩ := su_nat hW hK1 hK4 hp hk
    have esh : shk M 12 p k = nI s := (shk_NR h hW hK hK1 hK4 hp hk).trans es
    simp only [wgF, cbB]
    rw [n1, n2, n3, hcl, esh, es, e1, e2]
    by_cases c : of_ n = nI p
    · rw [if_pos c]
      rcases n5 with n5 | n5
      · rw [if_pos (by rw [n5]; exact nI_0)]
        refine ⟨max a (s + 1), b, by omega, hb, ?_, rfl, fun v hv2 => ?_⟩
        · show mx (nI a) (nI s + nI 1) = nI (max a (s + 1))
          rw [nI_add]; exact mx_nI (by omega) (by omega)
        · rw [Bool.and_eq_true, hv v hv2, decide_eq_true_eq, n5, nI_leI (by omega) (by omega)]
          have hne : ¬ nI 0 = nI 1 := by decide
          refine ⟨fun ⟨q1, q2⟩ => ?_, fun q => ⟨by omega, Or.inr ⟨fun q2 => by omega, fun q2 => absurd q2 hne⟩⟩⟩
          rcases q2 with q2 | q2
          · exact absurd c q2
          · have : ¬ v ≤ s := fun q3 => hne (q2.mp q3)
            omega
      · rw [if_neg (by rw [n5]; decide)]
        refine ⟨a, min b s, ha, by omega, rfl, ?_, fun v hv2 => ?_⟩
        · exact mn_nI (by omega) (by omega)
        · rw [Bool.and_eq_true, hv v hv2, decide_eq_true_eq, n5, nI_leI (by omega) (by omega)]
          refine ⟨fun ⟨q1, q2⟩ => ?_, fun q => ⟨by omega, Or.inr ⟨fun _ => rfl, fun _ => by omega⟩⟩⟩
          rcases q2 with q2 | q2
          · exact absurd c q2
          · have := q2.mpr rfl
            omega
    · rw [if_neg c]
      refine ⟨a, b, ha, hb, e1, e2, fun v hv2 => ?_⟩
      rw [Bool.and_eq_true, hv v hv2, decide_eq_true_eq]
      exact ⟨fun q => q.1, fun q => ⟨q, Or.inl c⟩⟩
theorem nvF_iv {f : Nat → Bool} {a b : Nat} : ∀ n, (∀ v, v < n → (f v = true ↔ a ≤ v ∧ v ≤ b)) → nvF f n = if min n (b + 1) ≤ a then (0, -9, -9) else (min n (b + 1) - a, nI a, nI (min n (b + 1) - 1)) := by
  intro n
  induction n with
  | zero => intro _; rw [if_pos (by omega)]; rfl
  | succ n ih =>
    intro h
    have hi := ih (fun v hv => h v (by omega))
    have hn := h n (by omega)
    simp only [nvF]
    by_cases c : f n = true
    · have hab := hn.mp c
      rw [if_pos c, hi, if_neg (show ¬ min (n + 1) (b + 1) ≤ a by omega)]
      by_cases c2 : min n (b + 1) ≤ a
      · rw [if_pos c2]
        dsimp only
        rw [if_pos rfl, show min (n + 1) (b + 1) - a = 0 + 1 by omega, show min (n + 1) (b + 1) - 1 = n by omega, show n = a by omega]
      · rw [if_neg c2]
        dsimp only
        rw [if_neg (by omega), show min (n + 1) (b + 1) - a = min n (b + 1) - a + 1 by omega, show min (n + 1) (b + 1) - 1 = n by omega]
    · have hab : ¬ (a ≤ n ∧ n ≤ b) := fun q => c (hn.mpr q)
      rw [if_neg c, hi]
      by_cases c2 : min n (b + 1) ≤ a
      · rw [if_pos c2, if_pos (by omega)]
      · rw [if_neg c2, if_neg (by omega), show min (n + 1) (b + 1) = min n (b + 1) by omega]
theorem cnB_iv {f : Nat → Bool} {a b : Nat} : ∀ n, (∀ v, v < n → (f v = true ↔ a ≤ v ∧ v ≤ b)) → cnB f n = min n (b + 1) - a := by
  intro n
  induction n with
  | zero => intro _; simp only [cnB]; omega
  | succ n ih =>
    intro h
    have hi := ih (fun v hv => h v (by omega))
    have hn := h n (by omega)
    by_cases c : f n = true
    · have hab := hn.mp c
      rw [cnB_y c, hi]; omega
    · have hab : ¬ (a ≤ n ∧ n ≤ b) := fun q => c (hn.mpr q)
      rw [cnB_n c, hi]; omega
theorem wgM_4 (M : Mem) (p nn : Nat) : wgM M p nn 92 4 = (wgF M p nn).1 := by
  unfold wgM
  rw [up2_no _ _ _ (by decide), up2_at]
theorem wgM_5 (M : Mem) (p nn : Nat) : wgM M p nn 92 5 = (wgF M p nn).2 := by
  unfold wgM
  rw [up2_at]
theorem nerves_eq {M : Mem} {row of_ by_ nt : Nat → Int32} {K p nn : Nat} (h : NR M 12 row) (hW : WR row) (hK : M 10 0 = nI K) (hK1 : 1 ≤ K) (hK4 : K ≤ 4) (hp : p < 5) (hN : NN M of_ by_ nt nn) : mx (nI 0) ((wgM M p nn) 92 5 - (wgM M p nn) 92 4 + nI 1) = nI (nvF (fun v => cbB (nI K) row of_ by_ nt p (nI v) nn) 100).1 ∧ (if mx (nI 0) ((wgM M p nn) 92 5 - (wgM M p nn) 92 4 + nI 1) = 0 then -9 else (wgM M p nn) 92 4) = (nvF (fun v => cbB (nI K) row of_ by_ nt p (nI v) nn) 100).2.1 ∧ (if mx (nI 0) ((wgM M p nn) 92 5 - (wgM M p nn) 92 4 + nI 1) = 0 then -9 else (wgM M p nn) 92 5) = (nvF (fun v => cbB (nI K) row of_ by_ nt p (nI v) nn) 100).2.2 := by
  obtain ⟨a, b, ha, hb, e1, e2, hv⟩ := wg_iv h hW hK hK1 hK4 hp hN nn (Nat.le_refl _)
  rw [wgM_4, wgM_5, e1, e2, sub_p1 (by omega) (by omega), nvF_iv 100 hv, show min 100 (b + 1) = b + 1 by omega]
  by_cases c : b + 1 ≤ a
  · rw [if_pos c, show b + 1 - a = 0 by omega]
    exact ⟨rfl, if_pos nI_0, if_pos nI_0⟩
  · rw [if_neg c]
    dsimp only
    rw [if_neg (nI_ne0 (by omega) (by omega)), if_neg (nI_ne0 (by omega) (by omega)), show b + 1 - 1 = b by omega]
    exact ⟨rfl, rfl, rfl⟩
theorem shk_wg (M : Mem) (p nn k : Nat) : shk (wgM M p nn) 12 p k = shk M 12 p k := by
  unfold shk
  rw [wgM_fr M p nn (show (12 + 4 : Nat) ≠ 92 by decide), wgM_fr M p nn (show (12 + 3 : Nat) ≠ 92 by decide), wgM_fr M p nn (show (10 : Nat) ≠ 92 by decide)]
theorem gtr_max (A Y : Nat) : gtr A Y = max Y (A - Y) := by
  unfold gtr
  split <;> omega
theorem test_eq {M : Mem} {row of_ by_ nt : Nat → Int32} {K p nn : Nat} (h : NR M 12 row) (hW : WR row) (hK : M 10 0 = nI K) (hK1 : 1 ≤ K) (hK4 : K ≤ 4) (hp : p < 5) (hN : NN M of_ by_ nt nn) : btA (wgM M p nn) p K = (if cnB (fun v => cbB (nI K) row of_ by_ nt p (nI v) nn) 100 < 2 then -9 else (tsF (fun v => cbB (nI K) row of_ by_ nt p (nI v) nn) (fun k => (fun v => (fun v => cbB (nI K) row of_ by_ nt p (nI v) nn) v && decide (nI v ≤ suR (nI K) row p k))) K).1) := by
  obtain ⟨a, b, ha, hb, e1, e2, hv⟩ := wg_iv h hW hK hK1 hK4 hp hN nn (Nat.le_refl _)
  have hall : cnB (fun v => cbB (nI K) row of_ by_ nt p (nI v) nn) 100 = b + 1 - a := by
    rw [cnB_iv 100 hv, show min 100 (b + 1) = b + 1 by omega]
  have hy : ∀ k, k < 4 → ∃ y : Nat, y ≤ b + 1 - a ∧ cnB ((fun k => (fun v => (fun v => cbB (nI K) row of_ by_ nt p (nI v) nn) v && decide (nI v ≤ suR (nI K) row p k))) k) 100 = y ∧ mx (nI 0) (mn (nI b) (shk (wgM M p nn) 12 p k) - nI a + nI 1) = nI y := by
    intro k hk
    obtain ⟨s, hs, es⟩ := su_nat hW hK1 hK4 hp hk
    refine ⟨min b s + 1 - a, by omega, ?_, ?_⟩
    · rw [cnB_iv (a := a) (b := min b s) 100, show min 100 (min b s + 1) = min b s + 1 by omega]
      intro v hv2
      dsimp only
      rw [Bool.and_eq_true, hv v hv2, decide_eq_true_eq, es, nI_leI (by omega) (by omega)]
      omega
    · rw [shk_wg, shk_NR h hW hK hK1 hK4 hp hk, es, mn_nI (by omega) (by omega), sub_p1 (by omega) (by omega)]
  unfold btA
  rw [hall, wgM_4, wgM_5, e1, e2, sub_p1 (by omega) (by omega)]
  by_cases c : b + 1 - a < 2
  · rw [if_pos c, if_neg (nI_nlt (by omega) (by omega))]
  · rw [if_neg c, if_pos (nI_lt (by omega) (by omega))]
    have hgen : ∀ k, k < K → (btF (wgM M p nn) p (nI (b + 1 - a)) (k + 1)).1 = (tsF (fun v => cbB (nI K) row of_ by_ nt p (nI v) nn) (fun k => (fun v => (fun v => cbB (nI K) row of_ by_ nt p (nI v) nn) v && decide (nI v ≤ suR (nI K) row p k))) (k + 1)).1 ∧ (btF (wgM M p nn) p (nI (b + 1 - a)) (k + 1)).2 = nI (tsF (fun v => cbB (nI K) row of_ by_ nt p (nI v) nn) (fun k => (fun v => (fun v => cbB (nI K) row of_ by_ nt p (nI v) nn) v && decide (nI v ≤ suR (nI K) row p k))) (k + 1)).2 ∧ (tsF (fun v => cbB (nI K) row of_ by_ nt p (nI v) nn) (fun k => (fun v => (fun v => cbB (nI K) row of_ by_ nt p (nI v) nn) v && decide (nI v ≤ suR (nI K) row p k))) (k + 1)).2 ≤ b + 1 - a := by
      intro k
      induction k with
      | zero =>
        intro hk
        obtain ⟨y, hyl, y1, y2⟩ := hy 0 (by decide)
        rw [tsF_y _ _ (by rw [hall, y1, gtr_max]; simp only [tsF]; omega), hall, y1, gtr_max]
        have b0 : (btF (wgM M p nn) p (nI (b + 1 - a)) 0).2 = nI (b + 1 - a + 1) := nI_add _ _
        have eb : btF (wgM M p nn) p (nI (b + 1 - a)) (0 + 1) = if nI (max y (b + 1 - a - y)) < (btF (wgM M p nn) p (nI (b + 1 - a)) 0).2 then (nI 0, nI (max y (b + 1 - a - y))) else btF (wgM M p nn) p (nI (b + 1 - a)) 0 := by
          conv => lhs; unfold btF
          rw [wgM_4, wgM_5, e1, e2, y2, pk_sub hyl, mx_nI (by omega) (by omega)]
        rw [eb, if_pos (by rw [b0]; exact nI_lt (by omega) (by omega))]
        exact ⟨rfl, rfl, by dsimp only; omega⟩
      | succ k ih =>
        intro hk
        obtain ⟨i1, i2, i3⟩ := ih (by omega)
        obtain ⟨y, hyl, y1, y2⟩ := hy (k + 1) (by omega)
        have eb : btF (wgM M p nn) p (nI (b + 1 - a)) (k + 1 + 1) = if nI (max y (b + 1 - a - y)) < (btF (wgM M p nn) p (nI (b + 1 - a)) (k + 1)).2 then (nI (k + 1), nI (max y (b + 1 - a - y))) else btF (wgM M p nn) p (nI (b + 1 - a)) (k + 1) := by
          conv => lhs; unfold btF
          rw [wgM_4, wgM_5, e1, e2, y2, pk_sub hyl, mx_nI (by omega) (by omega)]
        by_cases c2 : max y (b + 1 - a - y) < (tsF (fun v => cbB (nI K) row of_ by_ nt p (nI v) nn) (fun k => (fun v => (fun v => cbB (nI K) row of_ by_ nt p (nI v) nn) v && decide (nI v ≤ suR (nI K) row p k))) (k + 1)).2
        · rw [tsF_y _ _ (by rw [hall, y1, gtr_max]; exact c2), hall, y1, gtr_max, eb, i2, if_pos (nI_lt c2 (by omega))]
          exact ⟨rfl, rfl, by dsimp only; omega⟩
        · rw [tsF_n _ _ (by rw [hall, y1, gtr_max]; exact c2), eb, if_neg (by rw [i2]; exact nI_nlt (by omega) (by omega))]
          exact ⟨i1, i2, i3⟩
    have hK2 := hgen (K - 1) (by omega)
    rw [show K - 1 + 1 = K by omega] at hK2
    exact hK2.1
