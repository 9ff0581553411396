def LOK (g : SG) : Prop := g.2.1 = 1 → (g.2.2.2.1 = nI 107 ∨ g.2.2.2.1 = nI 120 ∨ g.2.2.2.1 = nI 112)
theorem tkM_1 (f : Nat → Int32) (n a : Nat) : ¬ tkM f n a = 1 := by
  unfold tkM
  split <;> decide
theorem tkd_1 {f : Nat → Int32} {n a : Nat} (v : Int32) (h : tkd f n a = 1) : vl f n a v = nI 107 ∨ vl f n a v = nI 120 ∨ vl f n a v = nI 112 := by
  unfold tkd at h
  unfold vl
  by_cases c1 : n ≤ sk f n a
  · rw [if_pos c1] at h
    exact absurd h (by decide)
  · rw [if_neg c1] at h ⊢
    by_cases c2 : dg (f (sk f n a))
    · rw [if_pos c2] at h
      exact absurd h (tkM_1 _ _ _)
    · rw [if_neg c2] at h ⊢
      by_cases c3 : f (sk f n a) = nI 59
      · rw [if_pos c3] at h
        exact absurd h (by decide)
      · rw [if_neg c3] at h
        by_cases c4 : f (sk f n a) = nI 107 ∨ f (sk f n a) = nI 120 ∨ f (sk f n a) = nI 112
        · exact c4
        · rw [if_neg c4] at h
          exact absurd h (by decide)
theorem adv_l (f : Nat → Int32) (n a : Nat) (s v q : Int32) : LOK (tn f n a, tkd f n a, s, vl f n a v, q) := fun h => tkd_1 v h
theorem NF_l {f : Nat → Int32} {n : Nat} {g : SG} {lo hi : Int32} (h : LOK g) : LOK (NF f n g lo hi).2 := by
  unfold NF
  split
  · split
    · exact adv_l f n _ _ _ _
    · exact h
  · exact h
theorem TF_l {f : Nat → Int32} {n : Nat} {g : SG} {w : Nat} (h : LOK g) : LOK (TF f n g w).2 := by
  unfold TF
  split
  · split
    · exact adv_l f n _ _ _ _
    · exact h
  · exact h
theorem rpF_l {f : Nat → Int32} {n P : Nat} {M : Mem} {g : SG} (h : LOK g) (i : Nat) : LOK (rpF f n P M g i).2 := by
  induction i with
  | zero => exact h
  | succ i ih =>
    simp only [rpF]
    exact NF_l ih
theorem rdI_l {f : Nat → Int32} {n : Nat} {M : Mem} {g : SG} (c : Int32) (h : LOK g) : LOK (rdI f n M g c).2 := by
  unfold rdI
  split
  · exact rpF_l (NF_l (NF_l h)) _
  · split
    · exact NF_l h
    · exact NF_l h
theorem it2_l {f : Nat → Int32} {n : Nat} {s : Mem × SG} (h : LOK s.2) : LOK (it2 f n s).2 := by
  by_cases c : (it1 f n s).2.2.2.2.2 < 0
  · rw [it2_p c]
    exact rdI_l _ (TF_l h)
  · rw [it2_n c]
    exact TF_l h
theorem itM_l {f : Nat → Int32} {n : Nat} {s : Mem × SG} (h : LOK s.2) : LOK (itM f n s).2 := by
  rw [itM_e, snd_mk]
  exact TF_l (it2_l h)
theorem itN_l {f : Nat → Int32} {n : Nat} {s : Mem × SG} (h : LOK s.2) (i : Nat) : LOK (itN f n s i).2 := by
  induction i with
  | zero => exact h
  | succ i ih => exact itM_l ih
abbrev wC (s : Mem × SG) : Nat := if s.2.2.1 = 1 ∧ mbQ (kN (s.1 2 5)) (s.1 0 9) s.2.2.2.2.1 then 1 else 0
theorem tyS_5 (M : Mem) (g : SG) : tyS M g 0 5 = nI g.2.1 := tym_5 _ _ _ _ _ _
theorem tyS_8 (M : Mem) (g : SG) : tyS M g 0 8 = g.2.2.2.2 := tym_8 _ _ _ _ _ _
theorem k_X7_isWellS (l : Launch) (D : DX) (B : Nat) (T : Int64) (M : Mem) (g : SG) : Ci l D B 14 (celM D B) yX7_isWell cX7_isWell 1 (some .boolean) 0 [.ref (B + 0)] T (tyS M g) (fun rz T1 M1 => rz = bI (g.2.2.2.2 < 0) ∧ T1 = T ∧ M1 = tyS M g) := k_X7_isWellT l D B T M _ _ _ _ _
theorem k_X7_mayBeginS (l : Launch) (D : DX) (B : Nat) (T : Int64) (s : Mem × SG) (hM : MOK s.1) : Ci l D B 14 (celM D B) yX7_mayBegin cX7_mayBegin 2 (some .boolean) 0 [.ref (B + 0)] T (tyS s.1 s.2) (fun rz T1 M1 => rz = bI (mbQ (kN (s.1 2 5)) (s.1 0 9) s.2.2.2.2.1) ∧ T1 = T ∧ M1 = tyS s.1 s.2) := by
  obtain ⟨P, hP5, hP⟩ := hM.2.2
  have e : kN (s.1 2 5) = P := by rw [hP, kN_nI (by omega)]
  rw [e]
  exact k_X7_mayBegin l D B T s.1 _ _ _ _ _ P hP hP5
theorem k_X7_it1 (l : Launch) (D : DX) (B : Nat) (T : Int64) (s : Mem × SG) (f : Nat → Int32) (n : Nat) (hf : s.1 1 = f) (hn : s.1 0 3 = nI n) (hn9 : n ≤ 150) (hL : ∀ j, j < n → inR (f j) 256) (hg : GOK n s.2) : Ci l D B 14 (celM D B) yX7_takes cX7_takes 3 (some .int) 3 [.ref (B + 0), .int (nI (wC s))] T (tyS s.1 s.2) (fun rz T1 M1 => rz = (it1 f n s).1 ∧ T1 = T ∧ M1 = tyS s.1 (it1 f n s).2) := by
  unfold it1
  exact k_X7_takesS l D B T s.1 s.2 f n hf hn hn9 hL hg.1 (wC s) (by unfold wC; split <;> decide)
theorem k_X7_it2 (l : Launch) (D : DX) (B : Nat) (T : Int64) (s : Mem × SG) (f : Nat → Int32) (n : Nat) (hf : s.1 1 = f) (hn : s.1 0 3 = nI n) (hn9 : n ≤ 150) (hL : ∀ j, j < n → inR (f j) 256) (hg : GOK n s.2) (hl : LOK s.2) (hM : MOK s.1) (c : (it1 f n s).2.2.2.2.2 < 0) : Cv l D B 14 (celM D B) yX7_readsItem cX7_readsItem 4 none 5 [.ref (B + 0), .int (it1 f n s).1] T (tyS s.1 (it1 f n s).2) (fun T1 M1 => T1 = T ∧ M1 = tyS (it2 f n s).1 (it2 f n s).2) := by
  rw [it2_p c]
  have h1 := it1_lt hg c (it1_n c)
  have hc := hl h1.1.1
  rw [← h1.2] at hc
  exact k_X7_readsItemS l D B T s.1 (it1 f n s).2 f n hf hn hn9 hL (TF_g hn9 hg).1 hM _ hc (it1_P hg c)
theorem it2_fr (f : Nat → Int32) (n : Nat) (s : Mem × SG) {c : Nat} (h0 : c ≠ 0) (h2 : c ≠ 2) (h3 : c ≠ 3) (h4 : c ≠ 4) : (it2 f n s).1 c = s.1 c := (congrFun (itM_1 f n s) c).symm.trans (itM_fr f n s h0 h2 h3 h4)
theorem it2_f0 (f : Nat → Int32) (n : Nat) (s : Mem × SG) {j : Nat} (h : j ≠ 9) : (it2 f n s).1 0 j = s.1 0 j := (congrFun (congrFun (itM_1 f n s) 0) j).symm.trans (itM_f0 f n s h)
abbrev wD (f : Nat → Int32) (n : Nat) (s : Mem × SG) : Nat := if (it2 f n s).2.2.1 = 3 then 1 else 0
theorem k_X7_it3 (l : Launch) (D : DX) (B : Nat) (T : Int64) (s : Mem × SG) (f : Nat → Int32) (n : Nat) (hf : s.1 1 = f) (hn : s.1 0 3 = nI n) (hn9 : n ≤ 150) (hL : ∀ j, j < n → inR (f j) 256) (hg : GOK n s.2) : Ci l D B 14 (celM D B) yX7_takes cX7_takes 3 (some .int) 3 [.ref (B + 0), .int (nI (wD f n s))] T (tyS (it2 f n s).1 (it2 f n s).2) (fun rz T1 M1 => rz = (TF f n (it2 f n s).2 (wD f n s)).1 ∧ T1 = T ∧ M1 = tyS (itM f n s).1 (itM f n s).2) := by
  rw [itM_e, fst_mk, snd_mk]
  exact k_X7_takesS l D B T (it2 f n s).1 (it2 f n s).2 f n ((it2_fr f n s (by decide) (by decide) (by decide) (by decide)).trans hf) ((it2_f0 f n s (by decide)).trans hn) hn9 hL (it2_g hn9 (TF_g hn9 hg).1).1.1 (wD f n s) (by unfold wD; split <;> decide)

