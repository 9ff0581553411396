def LOK (g : SG) : Prop := g.2.1 = 1 → (g.2.2.2.1 = nI 107 ∨ g.2.2.2.1 = nI 120 ∨ g.2.2.2.1 = nI 112)
theorem tkM_1 (f : Nat → Int32) (n a : Nat) : ¬ tkM f n a = 1 := by
  unfold tkM
  split <;> decide
theorem tkd_1 {f : Nat → Int32} {n a : Nat} (v : Int32) (h : tkd f n a = 1) : vl f n a v = nI 107 ∨ vl f n a v = nI 120 ∨ vl f n a v = nI 112 := by
  unfold tkd at h
  unfold vl
  by_cases c1 : n ≤ sk f n a
  · rw [if_pos c1] at h
    exact absurd h (by decide)
  · rw [if_neg c1] at h ⊢
    by_cases c2 : dg (f (sk f n a))
    · rw [if_pos c2] at h
      exact absurd h (tkM_1 _ _ _)
    · rw [if_neg c2] at h ⊢
      by_cases c3 : f (sk f n a) = nI 59
      · rw [if_pos c3] at h
        exact absurd h (by decide)
      · rw [if_neg c3] at h
        by_cases c4 : f (sk f n a) = nI 107 ∨ f (sk f n a) = nI 120 ∨ f (sk f n a) = nI 112
        · exact c4
        · rw [if_neg c4] at h
          exact absurd h (by decide)
theorem adv_l (f : Nat → Int32) (n a : Nat) (s v q : Int32) : LOK (tn f n a, tkd f n a, s, vl f n a v, q) := fun h => tkd_1 v h
theorem NF_l {f : Nat → Int32} {n : Nat} {g : SG} {lo hi : Int32} (h : LOK g) : LOK (NF f n g lo hi).2 := by
  unfold NF
  split
  · split
    · exact adv_l f n _ _ _ _
    · exact h
  · exact h
theorem TF_l {f : Nat → Int32} {n : Nat} {g : SG} {w : Nat} (h : LOK g) : LOK (TF f n g w).2 := by
  unfold TF
  split
  · split
    · exact adv_l f n _ _ _ _
    · exact h
  · exact h
theorem rpF_l {f : Nat → Int32} {n P : Nat} {M : Mem} {g : SG} (h : LOK g) (i : Nat) : LOK (rpF f n P M g i).2 := by
  induction i with
  | zero => exact h
  | succ i ih =>
    simp only [rpF]
    exact NF_l ih
theorem rdI_l {f : Nat → Int32} {n : Nat} {M : Mem} {g : SG} (c : Int32) (h : LOK g) : LOK (rdI f n M g c).2 := by
  unfold rdI
  split
  · exact rpF_l (NF_l (NF_l h)) _
  · split
    · exact NF_l h
    · exact NF_l h
theorem it2_l {f : Nat → Int32} {n : Nat} {s : Mem × SG} (h : LOK s.2) : LOK (it2 f n s).2 := by
  by_cases c : (it1 f n s).2.2.2.2.2 < 0
  · rw [it2_p c]
    exact rdI_l _ (TF_l h)
  · rw [it2_n c]
    exact TF_l h
theorem itM_l {f : Nat → Int32} {n : Nat} {s : Mem × SG} (h : LOK s.2) : LOK (itM f n s).2 := by
  rw [itM_e, snd_mk]
  exact TF_l (it2_l h)
theorem itN_l {f : Nat → Int32} {n : Nat} {s : Mem × SG} (h : LOK s.2) (i : Nat) : LOK (itN f n s i).2 := by
  induction i with
  | zero => exact h
  | succ i ih => exact itM_l ih

