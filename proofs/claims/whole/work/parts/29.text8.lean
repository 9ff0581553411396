def kN (v : Int32) : Nat := v.toInt.toNat
theorem kN_nI {k : Nat} (h : k < 2 ^ 31) : kN (nI k) = k := by
  unfold kN
  rw [nI_toInt h]
  exact Int.toNat_natCast k
def pn1 (f : Nat → Int32) (n : Nat) (g : SG) : Int32 × SG := NF f n g (nI 0) (nI 99)
def pn2 (f : Nat → Int32) (n : Nat) (M : Mem) (g : SG) : Int32 × SG := NF f n (pn1 f n g).2 (nI 0) (M 2 4 - nI 1)
def pnM (f : Nat → Int32) (n : Nat) (M : Mem) (g : SG) : Mem := up2 (up2 M 3 (5 + kN (M 2 5)) (pn1 f n g).1) 4 (kN (M 2 5)) (pn2 f n M g).1
def rdP (f : Nat → Int32) (n : Nat) (M : Mem) (g : SG) : Mem × SG := rpF f n (kN (M 2 5)) (pnM f n M g) (pn2 f n M g).2 (kN (M 2 3))
def rdI (f : Nat → Int32) (n : Nat) (M : Mem) (g : SG) (c : Int32) : Mem × SG :=
  if c = nI 112 then (up2 (rdP f n M g).1 2 5 (nI (kN (M 2 5) + 1)), (rdP f n M g).2)
  else if c = nI 107 then (up2 (up2 M 2 3 (NF f n g (nI 1) (nI 4)).1) 0 9 (M 0 9 ||| nI 1), (NF f n g (nI 1) (nI 4)).2)
  else (up2 (up2 M 2 4 (NF f n g (nI 1) (nI 4)).1) 0 9 (M 0 9 ||| nI 2), (NF f n g (nI 1) (nI 4)).2)
def it1 (f : Nat → Int32) (n : Nat) (s : Mem × SG) : Int32 × SG := TF f n s.2 (if s.2.2.1 = 1 ∧ mbQ (kN (s.1 2 5)) (s.1 0 9) s.2.2.2.2.1 then 1 else 0)
def it2 (f : Nat → Int32) (n : Nat) (s : Mem × SG) : Mem × SG := if (it1 f n s).2.2.2.2.2 < 0 then rdI f n s.1 (it1 f n s).2 (it1 f n s).1 else (s.1, (it1 f n s).2)
def itM (f : Nat → Int32) (n : Nat) (s : Mem × SG) : Mem × SG := ((it2 f n s).1, (TF f n (it2 f n s).2 (if (it2 f n s).2.2.1 = 3 then 1 else 0)).2)
def itN (f : Nat → Int32) (n : Nat) (s : Mem × SG) : Nat → Mem × SG
  | 0 => s
  | i + 1 => itM f n (itN f n s i)
def GOK (n : Nat) (g : SG) : Prop := g.1 ≤ n ∧ g.2.1 < 9 ∧ ¬ g.2.2.1 < 0
def mu (n : Nat) (g : SG) : Nat := if g.2.2.2.2 < 0 then 1 + (n - g.1) + (if g.2.1 = 0 then 0 else 1) else 0
theorem sk_le {f : Nat → Int32} {n a : Nat} (h : a ≤ n) : a ≤ sk f n a ∧ sk f n a ≤ n := skW_le f n (n - a) a h
theorem tn_lt {f : Nat → Int32} {n a : Nat} (h : a ≤ n) (ht : ¬ tkd f n a = 0) : a < tn f n a := by
  have h1 := sk_le (f := f) h
  have h3 : ¬ n ≤ sk f n a := fun q => ht (by unfold tkd; exact if_pos q)
  unfold tn
  rw [if_neg h3]
  split
  · rename_i c
    have h2 := deW_le f n (n - (sk f n a + 1)) (sk f n a + 1) (by omega)
    change sk f n a + 1 ≤ de f n (sk f n a + 1) ∧ _ at h2
    rw [de_s h3 c]
    omega
  · omega
theorem mu_adv {f : Nat → Int32} {n a : Nat} (h : a ≤ n) : 1 + (n - tn f n a) + (if tkd f n a = 0 then 0 else 1) ≤ 1 + (n - a) := by
  have h1 := tn_le (f := f) h
  by_cases c : tkd f n a = 0
  · rw [if_pos c]
    omega
  · have h2 := tn_lt h c
    rw [if_neg c]
    omega
theorem mu_pos {n : Nat} {g : SG} (h : g.2.2.2.2 < 0) : mu n g = 1 + (n - g.1) + (if g.2.1 = 0 then 0 else 1) := if_pos h
theorem adv_g {f : Nat → Int32} {n : Nat} {g : SG} (hn : n ≤ 150) (h : GOK n g) (hq : g.2.2.2.2 < 0) : GOK n (tn f n g.1, tkd f n g.1, nI (sk f n g.1), vl f n g.1 g.2.2.2.1, g.2.2.2.2) ∧ mu n (tn f n g.1, tkd f n g.1, nI (sk f n g.1), vl f n g.1 g.2.2.2.1, g.2.2.2.2) ≤ 1 + (n - g.1) := by
  have h1 := sk_le (f := f) h.1
  refine ⟨⟨(tn_le h.1).2, tkd_lt f n g.1, nI_pos (by omega)⟩, ?_⟩
  exact Nat.le_trans (Nat.le_of_eq (mu_pos hq)) (mu_adv h.1)
theorem bad_g {n : Nat} {g : SG} (h : GOK n g) : GOK n (g.1, g.2.1, g.2.2.1, g.2.2.2.1, g.2.2.1) ∧ mu n (g.1, g.2.1, g.2.2.1, g.2.2.2.1, g.2.2.1) = 0 := ⟨h, if_neg h.2.2⟩
theorem NF_g {f : Nat → Int32} {n : Nat} {g : SG} {lo hi : Int32} (hn : n ≤ 150) (h : GOK n g) : GOK n (NF f n g lo hi).2 ∧ mu n (NF f n g lo hi).2 ≤ mu n g := by
  unfold NF
  split
  · rename_i hq
    split
    · have h2 := adv_g (f := f) hn h hq
      have h3 := mu_pos (n := n) hq
      exact ⟨h2.1, Nat.le_trans h2.2 (Nat.le_trans (Nat.le_add_right _ _) (Nat.le_of_eq h3.symm))⟩
    · have h2 := bad_g h
      exact ⟨h2.1, by rw [h2.2]; exact Nat.zero_le _⟩
  · exact ⟨h, Nat.le_refl _⟩
theorem TF_g {f : Nat → Int32} {n : Nat} {g : SG} {w : Nat} (hn : n ≤ 150) (h : GOK n g) : GOK n (TF f n g w).2 ∧ mu n (TF f n g w).2 ≤ mu n g := by
  unfold TF
  split
  · rename_i hq
    split
    · have h2 := adv_g (f := f) hn h hq
      have h3 := mu_pos (n := n) hq
      exact ⟨h2.1, Nat.le_trans h2.2 (Nat.le_trans (Nat.le_add_right _ _) (Nat.le_of_eq h3.symm))⟩
    · have h2 := bad_g h
      exact ⟨h2.1, by rw [h2.2]; exact Nat.zero_le _⟩
  · exact ⟨h, Nat.le_refl _⟩
theorem TF_lt {f : Nat → Int32} {n : Nat} {g : SG} {w : Nat} (hn : n ≤ 150) (h : GOK n g) (hq : g.2.2.2.2 < 0) (hk : ¬ g.2.1 = 0) : mu n (TF f n g w).2 < mu n g := by
  have h3 := mu_pos (n := n) hq
  rw [if_neg hk] at h3
  unfold TF
  rw [if_pos hq]
  split
  · have h2 := adv_g (f := f) hn h hq
    exact Nat.lt_of_le_of_lt h2.2 (by omega)
  · have h2 := bad_g h
    exact Nat.lt_of_le_of_lt (Nat.le_of_eq h2.2) (by omega)
theorem rpF_g {f : Nat → Int32} {n P : Nat} {M : Mem} {g : SG} (hn : n ≤ 150) (h : GOK n g) (i : Nat) : GOK n (rpF f n P M g i).2 ∧ mu n (rpF f n P M g i).2 ≤ mu n g := by
  induction i with
  | zero => exact ⟨h, Nat.le_refl _⟩
  | succ i ih =>
    simp only [rpF]
    have h2 := NF_g (f := f) (lo := nI 0) (hi := nI 9) hn ih.1
    exact ⟨h2.1, Nat.le_trans h2.2 ih.2⟩
theorem rdP_g {f : Nat → Int32} {n : Nat} {M : Mem} {g : SG} (hn : n ≤ 150) (h : GOK n g) : GOK n (rdP f n M g).2 ∧ mu n (rdP f n M g).2 ≤ mu n g := by
  have h1 := NF_g (f := f) (lo := nI 0) (hi := nI 99) hn h
  have h2 := NF_g (f := f) (lo := nI 0) (hi := M 2 4 - nI 1) hn h1.1
  have h3 := rpF_g (f := f) (P := kN (M 2 5)) (M := pnM f n M g) hn h2.1 (kN (M 2 3))
  exact ⟨h3.1, Nat.le_trans h3.2 (Nat.le_trans h2.2 h1.2)⟩
theorem rdI_g {f : Nat → Int32} {n : Nat} {M : Mem} {g : SG} (c : Int32) (hn : n ≤ 150) (h : GOK n g) : GOK n (rdI f n M g c).2 ∧ mu n (rdI f n M g c).2 ≤ mu n g := by
  unfold rdI
  split
  · exact rdP_g hn h
  · split
    · exact NF_g hn h
    · exact NF_g hn h
theorem it2_g {f : Nat → Int32} {n : Nat} {s : Mem × SG} (hn : n ≤ 150) (h : GOK n (it1 f n s).2) : GOK n (it2 f n s).2 ∧ mu n (it2 f n s).2 ≤ mu n (it1 f n s).2 := by
  unfold it2
  split
  · exact rdI_g _ hn h
  · exact ⟨h, Nat.le_refl _⟩
theorem itM_g {f : Nat → Int32} {n : Nat} {s : Mem × SG} (hn : n ≤ 150) (h : GOK n s.2) : GOK n (itM f n s).2 := (TF_g hn (it2_g hn (TF_g hn h).1).1).1
theorem itM_lt {f : Nat → Int32} {n : Nat} {s : Mem × SG} (hn : n ≤ 150) (h : GOK n s.2) (hq : s.2.2.2.2.2 < 0) (hk : ¬ s.2.2.1 = 0) : mu n (itM f n s).2 < mu n s.2 :=
  Nat.lt_of_le_of_lt (TF_g hn (it2_g hn (TF_g hn h).1).1).2 (Nat.lt_of_le_of_lt (it2_g hn (TF_g hn h).1).2 (TF_lt hn h hq hk))
theorem NF_in (f : Nat → Int32) (n : Nat) (g : SG) {lo hi : Nat} (hl : lo < 1000) (hh : hi < 1000) : ∃ k : Nat, k ≤ hi ∧ (NF f n g (nI lo) (nI hi)).1 = nI k := by
  unfold NF
  split
  · split
    · rename_i c
      have h0 : ¬ g.2.2.2.1 < 0 := by
        intro hv
        apply c.2.1
        rw [Int32.lt_iff_toInt_lt] at hv ⊢
        rw [nI_toInt (by omega)]
        have hz : (0 : Int32).toInt = 0 := rfl
        omega
      obtain ⟨j, hj, e⟩ := nI_of4 (n := hi + 1) (by omega) h0 (inR_dn hh c.2.2)
      exact ⟨j, by omega, e⟩
    · exact ⟨0, Nat.zero_le _, rfl⟩
  · exact ⟨0, Nat.zero_le _, rfl⟩
def MOK (M : Mem) : Prop := (∃ K : Nat, K ≤ 4 ∧ M 2 3 = nI K) ∧ (∃ X : Nat, X ≤ 4 ∧ M 2 4 = nI X) ∧ (∃ P : Nat, P ≤ 5 ∧ M 2 5 = nI P)
theorem MOK_of {M N : Mem} (h : MOK M) (e : N 2 = M 2) : MOK N := by
  unfold MOK
  rw [e]
  exact h
theorem rdP_fr (f : Nat → Int32) (n : Nat) (M : Mem) (g : SG) {c : Nat} (h3 : c ≠ 3) (h4 : c ≠ 4) : (rdP f n M g).1 c = M c := (rpF_fr _ _ _ _ _ _ h4).trans ((up2_ne _ _ h4).trans (up2_ne _ _ h3))
theorem up2_at (M : Mem) (c j : Nat) (v : Int32) : up2 M c j v c j = v := by rw [up2_self, pk_us]
theorem up2_no (M : Mem) (c : Nat) (v : Int32) {i j : Nat} (h : i ≠ j) : up2 M c j v c i = M c i := by rw [up2_self, pk_un h]
theorem rdI_M {f : Nat → Int32} {n : Nat} {M : Mem} {g : SG} {c : Int32} (h : MOK M) (hc : c = nI 112 → kN (M 2 5) < 5) : MOK (rdI f n M g c).1 := by
  obtain ⟨k, hk, ek⟩ := NF_in f n g (lo := 1) (hi := 4) (by omega) (by omega)
  unfold rdI
  split
  · rename_i e
    have hP := hc e
    have e2 := rdP_fr f n M g (c := 2) (by decide) (by decide)
    show MOK (up2 (rdP f n M g).1 2 5 (nI (kN (M 2 5) + 1)))
    refine ⟨?_, ?_, ⟨kN (M 2 5) + 1, hP, up2_at _ 2 5 _⟩⟩
    · simp only [up2_no _ _ _ (show 3 ≠ 5 by decide), e2]
      exact h.1
    · simp only [up2_no _ _ _ (show 4 ≠ 5 by decide), e2]
      exact h.2.1
  · split
    · show MOK (up2 (up2 M 2 3 (NF f n g (nI 1) (nI 4)).1) 0 9 (M 0 9 ||| nI 1))
      refine MOK_of (M := up2 M 2 3 (NF f n g (nI 1) (nI 4)).1) ?_ (up2_ne _ _ (show (2 : Nat) ≠ 0 by decide))
      refine ⟨⟨k, hk, (up2_at _ _ _ _).trans ek⟩, ?_, ?_⟩
      · simp only [up2_no _ _ _ (show 4 ≠ 3 by decide)]
        exact h.2.1
      · simp only [up2_no _ _ _ (show 5 ≠ 3 by decide)]
        exact h.2.2
    · show MOK (up2 (up2 M 2 4 (NF f n g (nI 1) (nI 4)).1) 0 9 (M 0 9 ||| nI 2))
      refine MOK_of (M := up2 M 2 4 (NF f n g (nI 1) (nI 4)).1) ?_ (up2_ne _ _ (show (2 : Nat) ≠ 0 by decide))
      refine ⟨?_, ⟨k, hk, (up2_at _ _ _ _).trans ek⟩, ?_⟩
      · simp only [up2_no _ _ _ (show 3 ≠ 4 by decide)]
        exact h.1
      · simp only [up2_no _ _ _ (show 5 ≠ 4 by decide)]
        exact h.2.2
theorem rdI_fr (f : Nat → Int32) (n : Nat) (M : Mem) (g : SG) (v : Int32) {c : Nat} (h0 : c ≠ 0) (h2 : c ≠ 2) (h3 : c ≠ 3) (h4 : c ≠ 4) : (rdI f n M g v).1 c = M c := by
  unfold rdI
  split
  · exact (up2_ne _ _ h2).trans (rdP_fr f n M g h3 h4)
  · split
    · exact (up2_ne _ _ h0).trans (up2_ne _ _ h2)
    · exact (up2_ne _ _ h0).trans (up2_ne _ _ h2)
theorem rdI_f0 (f : Nat → Int32) (n : Nat) (M : Mem) (g : SG) (v : Int32) {j : Nat} (h : j ≠ 9) : (rdI f n M g v).1 0 j = M 0 j := by
  unfold rdI
  split
  · exact congrFun ((up2_ne (j := 5) _ (nI (kN (M 2 5) + 1)) (show (0 : Nat) ≠ 2 by decide)).trans (rdP_fr f n M g (show (0 : Nat) ≠ 3 by decide) (show (0 : Nat) ≠ 4 by decide))) j
  · split
    · exact (up2_no _ _ _ h).trans (congrFun (up2_ne _ _ (show (0 : Nat) ≠ 2 by decide)) j)
    · exact (up2_no _ _ _ h).trans (congrFun (up2_ne _ _ (show (0 : Nat) ≠ 2 by decide)) j)
theorem TF_1 {f : Nat → Int32} {n : Nat} {g : SG} (hq : g.2.2.2.2 < 0) : TF f n g 1 = (g.2.2.2.1, (tn f n g.1, tkd f n g.1, nI (sk f n g.1), vl f n g.1 g.2.2.2.1, g.2.2.2.2)) := (if_pos hq).trans (if_pos rfl)
theorem TF_0 {f : Nat → Int32} {n : Nat} {g : SG} (hq : g.2.2.2.2 < 0) : TF f n g 0 = (nI 0, (g.1, g.2.1, g.2.2.1, g.2.2.2.1, g.2.2.1)) := (if_pos hq).trans (if_neg Nat.zero_ne_one)
theorem TF_n {f : Nat → Int32} {n w : Nat} {g : SG} (hq : ¬ g.2.2.2.2 < 0) : TF f n g w = (nI 0, g) := if_neg hq
theorem it1_lt {f : Nat → Int32} {n : Nat} {s : Mem × SG} (hg : GOK n s.2) (h : (it1 f n s).2.2.2.2.2 < 0) (hq : s.2.2.2.2.2 < 0) : (s.2.2.1 = 1 ∧ mbQ (kN (s.1 2 5)) (s.1 0 9) s.2.2.2.2.1) ∧ (it1 f n s).1 = s.2.2.2.2.1 := by
  obtain ⟨M, g⟩ := s
  unfold it1 at h ⊢
  dsimp only at hg hq h ⊢
  by_cases c : g.2.1 = 1 ∧ mbQ (kN (M 2 5)) (M 0 9) g.2.2.2.1
  · refine ⟨c, ?_⟩
    rw [if_pos c, TF_1 hq]
  · rw [if_neg c, TF_0 hq] at h
    exact absurd h hg.2.2
theorem mbQ_5 {P : Nat} {t v : Int32} (h : mbQ P t v) (e : v = nI 112) : P < 5 := h.elim (fun q => q.2) (fun q => absurd e q.1)
theorem it1_n {f : Nat → Int32} {n : Nat} {s : Mem × SG} (h : (it1 f n s).2.2.2.2.2 < 0) : s.2.2.2.2.2 < 0 := by
  by_cases hq : s.2.2.2.2.2 < 0
  · exact hq
  · unfold it1 at h
    rw [TF_n hq] at h
    exact h
theorem it1_P {f : Nat → Int32} {n : Nat} {s : Mem × SG} (hg : GOK n s.2) (h : (it1 f n s).2.2.2.2.2 < 0) (e : (it1 f n s).1 = nI 112) : kN (s.1 2 5) < 5 := by
  have h1 := it1_lt hg h (it1_n h)
  exact mbQ_5 h1.1.2 (h1.2.symm.trans e)
theorem it2_p {f : Nat → Int32} {n : Nat} {s : Mem × SG} (c : (it1 f n s).2.2.2.2.2 < 0) : it2 f n s = rdI f n s.1 (it1 f n s).2 (it1 f n s).1 := by
  unfold it2
  exact if_pos c
theorem it2_n {f : Nat → Int32} {n : Nat} {s : Mem × SG} (c : ¬ (it1 f n s).2.2.2.2.2 < 0) : it2 f n s = (s.1, (it1 f n s).2) := by
  unfold it2
  exact if_neg c
theorem fst_mk {α β : Type} (a : α) (b : β) : (a, b).1 = a := rfl
theorem snd_mk {α β : Type} (a : α) (b : β) : (a, b).2 = b := rfl
theorem itM_e (f : Nat → Int32) (n : Nat) (s : Mem × SG) : itM f n s = ((it2 f n s).1, (TF f n (it2 f n s).2 (if (it2 f n s).2.2.1 = 3 then 1 else 0)).2) := by
  unfold itM
  exact Eq.refl _
theorem itM_1 (f : Nat → Int32) (n : Nat) (s : Mem × SG) : (itM f n s).1 = (it2 f n s).1 := (congrArg Prod.fst (itM_e f n s)).trans (fst_mk _ _)
theorem itM_M {f : Nat → Int32} {n : Nat} {s : Mem × SG} (hg : GOK n s.2) (h : MOK s.1) : MOK (itM f n s).1 := by
  rw [itM_1]
  by_cases c : (it1 f n s).2.2.2.2.2 < 0
  · rw [it2_p c]
    exact rdI_M h (it1_P hg c)
  · rw [it2_n c]
    exact h
theorem itM_fr (f : Nat → Int32) (n : Nat) (s : Mem × SG) {c : Nat} (h0 : c ≠ 0) (h2 : c ≠ 2) (h3 : c ≠ 3) (h4 : c ≠ 4) : (itM f n s).1 c = s.1 c := by
  rw [itM_1]
  unfold it2
  split
  · exact rdI_fr _ _ _ _ _ h0 h2 h3 h4
  · rfl
theorem itM_f0 (f : Nat → Int32) (n : Nat) (s : Mem × SG) {j : Nat} (h : j ≠ 9) : (itM f n s).1 0 j = s.1 0 j := by
  rw [itM_1]
  unfold it2
  split
  · exact rdI_f0 _ _ _ _ _ h
  · rfl
theorem itN_ok {f : Nat → Int32} {n : Nat} {s : Mem × SG} (hn : n ≤ 150) (hg : GOK n s.2) (h : MOK s.1) (i : Nat) : GOK n (itN f n s i).2 ∧ MOK (itN f n s i).1 := by
  induction i with
  | zero => exact ⟨hg, h⟩
  | succ i ih => exact ⟨itM_g hn ih.1, itM_M ih.1 ih.2⟩
theorem itN_fr (f : Nat → Int32) (n : Nat) (s : Mem × SG) (i : Nat) {c : Nat} (h0 : c ≠ 0) (h2 : c ≠ 2) (h3 : c ≠ 3) (h4 : c ≠ 4) : (itN f n s i).1 c = s.1 c := by
  induction i with
  | zero => rfl
  | succ i ih => exact (itM_fr f n _ h0 h2 h3 h4).trans ih
theorem itN_f0 (f : Nat → Int32) (n : Nat) (s : Mem × SG) (i : Nat) {j : Nat} (h : j ≠ 9) : (itN f n s i).1 0 j = s.1 0 j := by
  induction i with
  | zero => rfl
  | succ i ih => exact (itM_f0 f n _ h).trans ih
theorem rdI_p {f : Nat → Int32} {n K X P : Nat} {M : Mem} {g : SG} (hK : M 2 3 = nI K) (hX : M 2 4 = nI X) (hP : M 2 5 = nI P) (hK4 : K ≤ 4) (hP4 : P ≤ 5) : rdI f n M g (nI 112) = (up2 (rpF f n P (up2 (up2 M 3 (5 + P) (NF f n g (nI 0) (nI 99)).1) 4 P (NF f n (NF f n g (nI 0) (nI 99)).2 (nI 0) (nI X - nI 1)).1) (NF f n (NF f n g (nI 0) (nI 99)).2 (nI 0) (nI X - nI 1)).2 K).1 2 5 (nI (P + 1)), (rpF f n P (up2 (up2 M 3 (5 + P) (NF f n g (nI 0) (nI 99)).1) 4 P (NF f n (NF f n g (nI 0) (nI 99)).2 (nI 0) (nI X - nI 1)).1) (NF f n (NF f n g (nI 0) (nI 99)).2 (nI 0) (nI X - nI 1)).2 K).2) := by
  unfold rdI rdP pnM pn2 pn1
  rw [if_pos rfl, hP, hK, hX, kN_nI (by omega), kN_nI (by omega)]
theorem rdI_k (f : Nat → Int32) (n : Nat) (M : Mem) (g : SG) : rdI f n M g (nI 107) = (up2 (up2 M 2 3 (NF f n g (nI 1) (nI 4)).1) 0 9 (M 0 9 ||| nI 1), (NF f n g (nI 1) (nI 4)).2) := by
  unfold rdI
  rw [if_neg (by decide), if_pos rfl]
theorem rdI_x (f : Nat → Int32) (n : Nat) (M : Mem) (g : SG) : rdI f n M g (nI 120) = (up2 (up2 M 2 4 (NF f n g (nI 1) (nI 4)).1) 0 9 (M 0 9 ||| nI 2), (NF f n g (nI 1) (nI 4)).2) := by
  unfold rdI
  rw [if_neg (by decide), if_neg (by decide)]
theorem k_X7_readsItemS (l : Launch) (D : DX) (B : Nat) (T : Int64) (M : Mem) (g : SG) (f : Nat → Int32) (n : Nat) (hf : M 1 = f) (hn : M 0 3 = nI n) (hn9 : n ≤ 150) (hL : ∀ j, j < n → inR (f j) 256) (hg : GOK n g) (hM : MOK M) (c : Int32) (hc : c = nI 107 ∨ c = nI 120 ∨ c = nI 112) (h5 : c = nI 112 → kN (M 2 5) < 5) : Cv l D B 14 (celM D B) yX7_readsItem cX7_readsItem 4 none 5 [.ref (B + 0), .int c] T (tyS M g) (fun T1 M1 => T1 = T ∧ M1 = tyS (rdI f n M g c).1 (rdI f n M g c).2) := by
  rcases hc with rfl | rfl | rfl
  · rw [rdI_k, fst_mk, snd_mk]
    exact k_X7_readsItem_k l D B T M g f n hf hn hn9 hL hg.1 hg.2.1
  · rw [rdI_x, fst_mk, snd_mk]
    exact k_X7_readsItem_x l D B T M g f n hf hn hn9 hL hg.1 hg.2.1
  · obtain ⟨⟨K, hK4, hK⟩, ⟨X, hX4, hX⟩, ⟨P, hP5, hP⟩⟩ := hM
    have hP4 : P < 5 := by
      have h := h5 rfl
      rw [hP, kN_nI (by omega)] at h
      exact h
    rw [rdI_p hK hX hP hK4 hP5, fst_mk, snd_mk]
    exact k_X7_readsItem_p l D B T M g f n hf hn hn9 hL hg.1 hg.2.1 K X P hK hX hP hK4 hP4

