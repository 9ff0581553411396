def NR (M : Mem) (a : Nat) (row : Nat → Int32) : Prop := (∀ p, p < 5 → M (a + 1) p = row p) ∧ (∀ p, p < 5 → M (a + 2) p = row (25 + p)) ∧ (∀ p, p < 5 → ∀ k, k < 4 → M (a + 3) (p * 4 + k) = row (5 + 4 * p + k)) ∧ (∀ p, p < 5 → M (a + 4) p = aS row p) ∧ M a 0 = moR row
def MW (row : Nat → Int32) : Prop := ∃ m : Nat, m ≤ 5 ∧ row 30 = nI m
theorem nI_ne9 {n : Nat} (h : n < 2 ^ 31) : ¬ nI n = -9 := by
  intro e
  have h1 := congrArg Int32.toInt e
  rw [nI_toInt h] at h1
  have h2 : (-9 : Int32).toInt = -9 := by decide
  omega
theorem shk_NR {M : Mem} {a : Nat} {row : Nat → Int32} {K : Nat} (h : NR M a row) (hW : WR row) (hK : M 10 0 = nI K) (hK1 : 1 ≤ K) (hK4 : K ≤ 4) {p k : Nat} (hp : p < 5) (hk : k < 4) : shk M a p k = suR (nI K) row p k := by
  unfold shk suR
  rw [h.2.2.2.1 p hp, hK, h.2.2.1 p hp k hk]
  obtain ⟨s, hs, e⟩ := aS_nat hW hp
  rw [e, nI_add, if_pos]
  rw [← nI_0]
  exact nI_lt (by omega) (by omega)
theorem jmp_NR {M : Mem} {a : Nat} {row nv : Nat → Int32} {K : Nat} (h : NR M a row) (hW : WR row) (hK : M 10 0 = nI K) (hK1 : 1 ≤ K) (hK4 : K ≤ 4) {k : Nat} (hk : k < 4) (x : Int32) : ∀ n, n ≤ 5 → (∀ p, p < n → M 11 p = nv p) → jmp M a k x n = (eF nv (nI K) row k x n).1 ∧ (myb M a k x n).2 = (eF nv (nI K) row k x n).2.2 ∧ (myb M a k x n).1 = if (eF nv (nI K) row k x n).2.1 = -9 then M a 0 else (eF nv (nI K) row k x n).2.1 := by
  intro n
  induction n with
  | zero => exact fun _ _ => ⟨rfl, rfl, (if_pos rfl).symm⟩
  | succ n ih =>
    intro hn hv
    obtain ⟨i1, i2, i3⟩ := ih (by omega) (fun p hp => hv p (by omega))
    have e1 := h.1 n (by omega)
    have e2 := shk_NR h hW hK hK1 hK4 (p := n) (by omega) hk
    have e3 := hv n (by omega)
    have jE : jmp M a k x (n + 1) = if M (a + 1) n = x ∧ M 11 n ≤ shk M a n k then jmp M a k x n ||| (nI 1 <<< (nI n &&& 31)) else jmp M a k x n := rfl
    have mE : myb M a k x (n + 1) = if M (a + 1) n = x ∧ M 11 n ≤ shk M a n k ∧ (myb M a k x n).2 < shk M a n k then (nI n, shk M a n k) else myb M a k x n := rfl
    have eE : eF nv (nI K) row k x (n + 1) = if row n = x ∧ nv n ≤ suR (nI K) row n k then ((eF nv (nI K) row k x n).1 ||| (nI 1 <<< (nI n &&& 31)), if (eF nv (nI K) row k x n).2.2 < suR (nI K) row n k then nI n else (eF nv (nI K) row k x n).2.1, if (eF nv (nI K) row k x n).2.2 < suR (nI K) row n k then suR (nI K) row n k else (eF nv (nI K) row k x n).2.2) else eF nv (nI K) row k x n := rfl
    rw [e1, e2, e3, i1] at jE
    rw [e1, e2, e3, i2] at mE
    by_cases c1 : row n = x ∧ nv n ≤ suR (nI K) row n k
    · rw [if_pos c1] at jE eE
      by_cases c2 : (eF nv (nI K) row k x n).2.2 < suR (nI K) row n k
      · rw [if_pos ⟨c1.1, c1.2, c2⟩] at mE
        rw [if_pos c2, if_pos c2] at eE
        rw [jE, mE, eE]
        exact ⟨rfl, rfl, (if_neg (nI_ne9 (by omega))).symm⟩
      · rw [if_neg (fun q => c2 q.2.2)] at mE
        rw [if_neg c2, if_neg c2] at eE
        rw [jE, mE, eE]
        exact ⟨rfl, i2, i3⟩
    · rw [if_neg c1] at jE eE
      rw [if_neg (fun q => c1 ⟨q.1, q.2.1⟩)] at mE
      rw [jE, mE, eE]
      exact ⟨rfl, i2, i3⟩
theorem aS_upd {row : Nat → Int32} {i p : Nat} {v : Int32} (hi : i < 5 ∨ 25 ≤ i) (hp : p < 5) : aS (upd row i v) p = aS row p := by
  unfold aS
  simp only [nSum]
  rw [pk_un (by omega), pk_un (by omega), pk_un (by omega), pk_un (by omega)]
theorem moR_pos {row : Nat → Int32} {q : Nat} (h : row 30 = nI (q + 1)) (hq : q < 2 ^ 30) : moR row = nI q := by
  unfold moR
  rw [h, if_neg (nI_ne0 (by omega) (by omega))]
  exact nI_pred q
theorem moR_zero {row : Nat → Int32} (h : row 30 = nI 0) : moR row = -9 := by
  unfold moR
  rw [h, if_pos (by decide)]
theorem moR_upd {row : Nat → Int32} {i : Nat} {v : Int32} (hi : i ≠ 30) : moR (upd row i v) = moR row := by
  unfold moR
  rw [pk_un (Ne.symm hi)]
theorem crS_NR {M : Mem} {a : Nat} {row : Nat → Int32} (h : NR M a row) (hM : MW row) {f : Int32} (hf : f = -9 ∨ ∃ q : Nat, q < 5 ∧ f = nI q) : NR (crS M a (if f = -9 then M a 0 else f)) a (e1 row f) := by
  rcases hf with rfl | ⟨q, hq, rfl⟩
  · rw [if_pos rfl]
    unfold crS e1
    rw [if_pos (Or.inl rfl), if_pos (Or.inl rfl)]
    exact h
  · rw [if_neg (nI_ne9 (by omega))]
    have hiff : (nI q = M a 0 ∨ nI q < 0 ∨ nI 5 ≤ nI q) ↔ (nI q = -9 ∨ row 30 = nI q + nI 1) := by
      rw [h.2.2.2.2]
      obtain ⟨m, hm, em⟩ := hM
      have a1 : ¬ nI q < 0 := nI_pos (by omega)
      have a2 : ¬ nI 5 ≤ nI q := nI_ge hq (by omega)
      have a3 := nI_ne9 (n := q) (by omega)
      rw [nI_add]
      cases m with
      | zero =>
        rw [moR_zero em, em]
        refine ⟨fun c => ?_, fun c => ?_⟩
        · rcases c with c | c | c
          · exact absurd c a3
          · exact absurd c a1
          · exact absurd c a2
        · rcases c with c | c
          · exact absurd c a3
          · exact absurd ((nI_eq (by omega) (by omega)).mp c) (by omega)
      | succ m =>
        rw [moR_pos em (by omega), em]
        refine ⟨fun c => ?_, fun c => ?_⟩
        · rcases c with c | c | c
          · exact Or.inr (congrArg nI (by have := (nI_eq (by omega) (by omega)).mp c; omega))
          · exact absurd c a1
          · exact absurd c a2
        · rcases c with c | c
          · exact absurd c a3
          · exact Or.inl (congrArg nI (by have := (nI_eq (by omega) (by omega)).mp c; omega))
    unfold crS e1
    by_cases c : nI q = M a 0 ∨ nI q < 0 ∨ nI 5 ≤ nI q
    · rw [if_pos c, if_pos (hiff.mp c)]
      exact h
    · rw [if_neg c, if_neg (fun e => c (hiff.mpr e)), nI_clamp (by omega), nI_add]
      refine ⟨fun p hp => ?_, fun p hp => ?_, fun p hp k hk => ?_, fun p hp => ?_, ?_⟩
      · rw [up2_ne _ _ (by omega), up2_ne _ _ (by omega), pk_un (by omega), pk_un (by omega)]
        exact h.1 p hp
      · rw [up2_self, up2_ne _ _ (by omega)]
        by_cases e : p = q
        · subst e
          rw [pk_us, pk_us, h.2.1 p hp]
        · rw [pk_un e, pk_un (by omega), pk_un (by omega)]
          exact h.2.1 p hp
      · rw [up2_ne _ _ (by omega), up2_ne _ _ (by omega), pk_un (by omega), pk_un (by omega)]
        exact h.2.2.1 p hp k hk
      · rw [up2_ne _ _ (by omega), up2_ne _ _ (by omega), aS_upd (by omega) hp, aS_upd (by omega) hp]
        exact h.2.2.2.1 p hp
      · rw [up2_ne _ _ (by omega), up2_self, pk_us, moR_upd (by omega)]
        exact (moR_pos (by rw [pk_us]) (by omega)).symm
theorem aS_inc {row : Nat → Int32} {n k : Nat} {t : Int32} (hk : k < 4) : aS (upd row (5 + 4 * n + k) (row (5 + 4 * n + k) + t)) n = aS row n + t := by
  unfold aS
  simp only [nSum]
  have hc : ∀ x y z : Int32, x + y + z = x + z + y := fun x y z => by rw [Int32.add_assoc, Int32.add_comm y z, Int32.add_assoc]
  rcases (show k = 0 ∨ k = 1 ∨ k = 2 ∨ k = 3 by omega) with rfl | rfl | rfl | rfl
  · rw [pk_us, pk_un (by omega), pk_un (by omega), pk_un (by omega), ← Int32.add_assoc, hc _ t, hc _ t, hc _ t]
  · rw [pk_us, pk_un (by omega), pk_un (by omega), pk_un (by omega), ← Int32.add_assoc, hc _ t, hc _ t]
  · rw [pk_us, pk_un (by omega), pk_un (by omega), pk_un (by omega), ← Int32.add_assoc, hc _ t]
  · rw [pk_us, pk_un (by omega), pk_un (by omega), pk_un (by omega), ← Int32.add_assoc]
theorem aS_other {row : Nat → Int32} {n p k : Nat} {v : Int32} (hk : k < 4) (h : p ≠ n) : aS (upd row (5 + 4 * n + k) v) p = aS row p := by
  unfold aS
  simp only [nSum]
  rw [pk_un (by omega), pk_un (by omega), pk_un (by omega), pk_un (by omega)]
theorem upd_same (row : Nat → Int32) (i : Nat) : upd row i (row i + nI 0) = row := by
  funext j
  by_cases h : j = i
  · subst h
    rw [pk_us, show nI 0 = 0 from rfl, Int32.add_zero]
  · rw [pk_un h]
theorem adS_NR {M : Mem} {a : Nat} {R : Nat → Int32} (h : NR M a R) {n k : Nat} (hn : n < 5) (hk : k < 4) (t : Int32) : NR (adS M a n k t) a (upd R (5 + 4 * n + k) (R (5 + 4 * n + k) + t)) := by
  refine ⟨fun p hp => ?_, fun p hp => ?_, fun p hp j hj => ?_, fun p hp => ?_, ?_⟩
  · rw [adS_fr _ _ _ _ _ (by omega), pk_un (by omega)]
    exact h.1 p hp
  · rw [adS_fr _ _ _ _ _ (by omega), pk_un (by omega)]
    exact h.2.1 p hp
  · unfold adS
    rw [up2_ne _ _ (by omega), up2_self]
    by_cases e : p * 4 + j = n * 4 + k
    · rw [e, pk_us, show 5 + 4 * p + j = 5 + 4 * n + k by omega, pk_us, h.2.2.1 n hn k hk]
    · rw [pk_un e, pk_un (by omega)]
      exact h.2.2.1 p hp j hj
  · unfold adS
    rw [up2_self, up2_ne _ _ (by omega)]
    by_cases e : p = n
    · subst e
      rw [pk_us, aS_inc hk, h.2.2.2.1 p hp]
    · rw [pk_un e, aS_other hk e]
      exact h.2.2.2.1 p hp
  · rw [adS_fr _ _ _ _ _ (by omega), moR_upd (by omega)]
    exact h.2.2.2.2
theorem see_NR {M : Mem} {a : Nat} {R : Nat → Int32} (h : NR M a R) {n k : Nat} (hn : n < 5) (hk : k < 4) (c : Prop) [Decidable c] : NR (if c then seeS M a n k else M) a (upd R (5 + 4 * n + k) (R (5 + 4 * n + k) + (if c ∧ R (5 + 4 * n + k) < nI 999 then nI 1 else nI 0))) := by
  by_cases hc : c
  · rw [if_pos hc]
    unfold seeS
    rw [h.2.2.1 n hn k hk]
    by_cases h9 : R (5 + 4 * n + k) < nI 999
    · rw [if_pos h9, if_pos ⟨hc, h9⟩]
      exact adS_NR h hn hk _
    · rw [if_neg h9, if_neg (fun q => h9 q.2), upd_same]
      exact h
  · rw [if_neg hc, if_neg (fun q => hc q.1), upd_same]
    exact h
theorem e2_lo {R1 : Nat → Int32} {k : Nat} {x : Int32} {n j : Nat} (hj : j < 5 ∨ 25 ≤ j) (hn : n ≤ 5) (hk : k < 4) : e2 R1 k x n j = R1 j := by
  induction n with
  | zero => rfl
  | succ n ih =>
    simp only [e2]
    rw [pk_un (by omega)]
    exact ih (by omega)
theorem e1_lo {row : Nat → Int32} {f : Int32} {j : Nat} (hj : j < 25) : e1 row f j = row j := by
  unfold e1
  split
  · rfl
  · rw [pk_un (by omega), pk_un (by omega)]
theorem hsM_NR {M : Mem} {a : Nat} {row nv : Nat → Int32} {K : Nat} (h : NR M a row) (hW : WR row) (hM : MW row) (hK : M 10 0 = nI K) (hK1 : 1 ≤ K) (hK4 : K ≤ 4) {k : Nat} (hk : k < 4) (x : Int32) {P : Nat} (hP : P ≤ 5) (hv : ∀ p, p < P → M 11 p = nv p) (n : Nat) (hn : n ≤ P) : NR (hsM M a k x P n) a (e2 (e1 row (eF nv (nI K) row k x P).2.1) k x n) := by
  induction n with
  | zero =>
    show NR (crS M a (myb M a k x P).1) a (e1 row (eF nv (nI K) row k x P).2.1)
    rw [(jmp_NR h hW hK hK1 hK4 hk x P hP hv).2.2]
    refine crS_NR h hM ?_
    by_cases c : (eF nv (nI K) row k x P).2.1 = -9
    · exact Or.inl c
    · obtain ⟨q, hq, e⟩ := eF_first c
      exact Or.inr ⟨q, by omega, e⟩
  | succ n ih =>
    have h1 := see_NR (ih (by omega)) (n := n) (by omega) hk (M (a + 1) n = x)
    simp only [hsM, e2]
    rw [e2_lo (j := n) (by omega) (by omega) hk, e1_lo (j := n) (by omega)]
    rw [h.1 n (by omega)] at h1 ⊢
    exact h1
theorem hp_NR {M : Mem} {a : Nat} {row nv : Nat → Int32} {K : Nat} (h : NR M a row) (hW : WR row) (hM : MW row) (hK : M 10 0 = nI K) (hK1 : 1 ≤ K) (hK4 : K ≤ 4) {k : Nat} (hk : k < 4) (x : Int32) {P : Nat} (hP : P ≤ 5) (hv : ∀ p, p < P → M 11 p = nv p) : NR (hpM M a k x P) a (evR nv (nI K) row k x P) := hsM_NR h hW hM hK hK1 hK4 hk x hP hv P (Nat.le_refl P)
theorem evR_MW {row nv : Nat → Int32} {Kv : Int32} (hM : MW row) {k : Nat} (hk : k < 4) (x : Int32) {P : Nat} (hP : P ≤ 5) : MW (evR nv Kv row k x P) := by
  unfold MW evR
  rw [e2_lo (by omega) hP hk]
  unfold e1
  split
  · exact hM
  · rename_i c
    obtain ⟨q, hq, e⟩ := eF_first (fun e => c (Or.inl e))
    rw [e, nI_clamp (by omega), nI_add, pk_un (by omega), pk_us]
    exact ⟨q + 1, by omega, rfl⟩
theorem evR_pl {row nv : Nat → Int32} {Kv : Int32} {k : Nat} (hk : k < 4) (x : Int32) {P p : Nat} (hP : P ≤ 5) (hp : p < 5) : evR nv Kv row k x P p = row p := by
  unfold evR
  rw [e2_lo (by omega) hP hk, e1_lo (by omega)]
theorem cpN_fr (M : Mem) (a b : Nat) {c : Nat} (h : c < a ∨ a + 5 ≤ c) : cpN M a b c = M c := by
  unfold cpN
  rw [setR_ne _ _ (by omega), setR_ne _ _ (by omega), setR_ne _ _ (by omega), setR_ne _ _ (by omega), up2_ne _ _ (by omega)]
theorem cpN_NR {M : Mem} {a b : Nat} {row : Nat → Int32} (h : NR M b row) : NR (cpN M a b) a row := by
  unfold cpN
  refine ⟨fun p hp => ?_, fun p hp => ?_, fun p hp k hk => ?_, fun p hp => ?_, ?_⟩
  · rw [setR_ne _ _ (by omega), setR_ne _ _ (by omega), setR_ne _ _ (by omega), setR_self]
    exact h.1 p hp
  · rw [setR_ne _ _ (by omega), setR_ne _ _ (by omega), setR_self]
    exact h.2.1 p hp
  · rw [setR_ne _ _ (by omega), setR_self]
    exact h.2.2.1 p hp k hk
  · rw [setR_self]
    exact h.2.2.2.1 p hp
  · rw [setR_ne _ _ (by omega), setR_ne _ _ (by omega), setR_ne _ _ (by omega), setR_ne _ _ (by omega), up2_self, pk_us]
    exact h.2.2.2.2
theorem hpM_fr (M : Mem) (a k : Nat) (x : Int32) (P : Nat) {c : Nat} (h : c < a ∨ a + 5 ≤ c) : hpM M a k x P c = M c := hsM_fr M a k x P P (by omega)
theorem NR.to {M M1 : Mem} {a : Nat} {row : Nat → Int32} (h : NR M a row) (h1 : ∀ i, a ≤ i → i < a + 5 → M1 i = M i) : NR M1 a row := by
  unfold NR
  rw [h1 (a + 1) (by omega) (by omega), h1 (a + 2) (by omega) (by omega), h1 (a + 3) (by omega) (by omega), h1 (a + 4) (by omega) (by omega), h1 a (by omega) (by omega)]
  exact h
