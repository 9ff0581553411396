abbrev SG : Type := Nat × Nat × Int32 × Int32 × Int32
def tyS (M : Mem) (g : SG) : Mem := tym M (nI g.1) (nI g.2.1) g.2.2.1 g.2.2.2.1 g.2.2.2.2
def NF (f : Nat → Int32) (n : Nat) (g : SG) (lo hi : Int32) : Int32 × SG := if g.2.2.2.2 < 0 then (if g.2.1 = 2 ∧ ¬ g.2.2.2.1 < lo ∧ ¬ hi < g.2.2.2.1 then (g.2.2.2.1, (tn f n g.1, tkd f n g.1, nI (sk f n g.1), vl f n g.1 g.2.2.2.1, g.2.2.2.2)) else (nI 0, (g.1, g.2.1, g.2.2.1, g.2.2.2.1, g.2.2.1))) else (nI 0, g)
def TF (f : Nat → Int32) (n : Nat) (g : SG) (w : Nat) : Int32 × SG := if g.2.2.2.2 < 0 then (if w = 1 then (g.2.2.2.1, (tn f n g.1, tkd f n g.1, nI (sk f n g.1), vl f n g.1 g.2.2.2.1, g.2.2.2.2)) else (nI 0, (g.1, g.2.1, g.2.2.1, g.2.2.2.1, g.2.2.1))) else (nI 0, g)
theorem tyS_ne (M : Mem) (g : SG) {c : Nat} (h : c ≠ 0) : tyS M g c = M c := tym_ne _ _ _ _ _ _ h
theorem tyS_o (M : Mem) (g : SG) {j : Nat} (h : j < 4 ∨ 8 < j) : tyS M g 0 j = M 0 j := tym_o _ _ _ _ _ _ h
theorem tyS_up (M : Mem) (g : SG) {c : Nat} (j : Nat) (v : Int32) (h : c ≠ 0) : up2 (tyS M g) c j v = tyS (up2 M c j v) g := by
  funext i
  unfold tyS tym
  by_cases hi : i = c
  · subst hi
    rw [up2_self, setR_ne _ _ h, setR_ne _ _ h, up2_self]
  · rw [up2_ne _ _ hi]
    by_cases h0 : i = 0
    · subst h0
      rw [setR_self, setR_self, up2_ne _ _ hi]
    · rw [setR_ne _ _ h0, setR_ne _ _ h0, up2_ne _ _ hi]
theorem tyS_up9 (M : Mem) (g : SG) (v : Int32) {j : Nat} (h : j < 4 ∨ 8 < j) : up2 (tyS M g) 0 j v = tyS (up2 M 0 j v) g := by
  funext i
  unfold tyS tym
  by_cases h0 : i = 0
  · subst h0
    rw [up2_self, setR_self, setR_self, up2_self]
    funext k
    by_cases hk : k = j
    · subst hk
      rw [pk_us, pk_un (by omega), pk_un (by omega), pk_un (by omega), pk_un (by omega), pk_un (by omega), pk_us]
    · rw [pk_un hk]
      by_cases k8 : k = 8
      · subst k8; rw [pk_us, pk_us]
      · rw [pk_un k8, pk_un k8]
        by_cases k7 : k = 7
        · subst k7; rw [pk_us, pk_us]
        · rw [pk_un k7, pk_un k7]
          by_cases k6 : k = 6
          · subst k6; rw [pk_us, pk_us]
          · rw [pk_un k6, pk_un k6]
            by_cases k5 : k = 5
            · subst k5; rw [pk_us, pk_us]
            · rw [pk_un k5, pk_un k5]
              by_cases k4 : k = 4
              · subst k4; rw [pk_us, pk_us]
              · rw [pk_un k4, pk_un k4, pk_un hk]
  · rw [up2_ne _ _ h0, setR_ne _ _ h0, setR_ne _ _ h0, up2_ne _ _ h0]
theorem tkd_lt (f : Nat → Int32) (n a : Nat) : tkd f n a < 9 := by
  unfold tkd tkM
  repeat (first | (split) | omega)
theorem NF_ok {f : Nat → Int32} {n : Nat} {g : SG} {lo hi : Int32} (h : g.1 ≤ n) (h2 : g.2.1 < 9) : (NF f n g lo hi).2.1 ≤ n ∧ (NF f n g lo hi).2.2.1 < 9 := by
  unfold NF
  split
  · split
    · exact ⟨(tn_le h).2, tkd_lt f n g.1⟩
    · exact ⟨h, h2⟩
  · exact ⟨h, h2⟩
theorem TF_ok {f : Nat → Int32} {n : Nat} {g : SG} {w : Nat} (h : g.1 ≤ n) (h2 : g.2.1 < 9) : (TF f n g w).2.1 ≤ n ∧ (TF f n g w).2.2.1 < 9 := by
  unfold TF
  split
  · split
    · exact ⟨(tn_le h).2, tkd_lt f n g.1⟩
    · exact ⟨h, h2⟩
  · exact ⟨h, h2⟩
theorem k_X7_numberS (l : Launch) (D : DX) (B : Nat) (T : Int64) (M : Mem) (g : SG) (f : Nat → Int32) (n : Nat) (hf : M 1 = f) (hn : M 0 3 = nI n) (hn9 : n ≤ 150) (hL : ∀ j, j < n → inR (f j) 256) (hg : g.1 ≤ n) (hg2 : g.2.1 < 9) (lo hi : Int32) : Ci l D B 14 (celM D B) yX7_number cX7_number 3 (some .int) 4 [.ref (B + 0), .int lo, .int hi] T (tyS M g) (fun rz T1 M1 => rz = (NF f n g lo hi).1 ∧ T1 = T ∧ M1 = tyS M (NF f n g lo hi).2) := by
  subst hf
  obtain ⟨a, k, s, v, q⟩ := g
  unfold NF
  dsimp only
  by_cases hq : q < 0
  · rw [if_pos hq]
    by_cases hc : k = 2 ∧ ¬ v < lo ∧ ¬ hi < v
    · rw [if_pos hc]
      obtain ⟨rfl, hin⟩ := hc
      exact k_X7_number_ok l D B T M a s v q n hn hn9 hL hg lo hi hq hin
    · rw [if_neg hc]
      exact k_X7_number_bad l D B T M a k s v q hg2 lo hi hq hc
  · rw [if_neg hq]
    exact k_X7_number_no l D B T M a k s v q hg2 lo hi hq
theorem k_X7_takesS (l : Launch) (D : DX) (B : Nat) (T : Int64) (M : Mem) (g : SG) (f : Nat → Int32) (n : Nat) (hf : M 1 = f) (hn : M 0 3 = nI n) (hn9 : n ≤ 150) (hL : ∀ j, j < n → inR (f j) 256) (hg : g.1 ≤ n) (w : Nat) (hw : w < 2) : Ci l D B 14 (celM D B) yX7_takes cX7_takes 3 (some .int) 3 [.ref (B + 0), .int (nI w)] T (tyS M g) (fun rz T1 M1 => rz = (TF f n g w).1 ∧ T1 = T ∧ M1 = tyS M (TF f n g w).2) := by
  subst hf
  obtain ⟨a, k, s, v, q⟩ := g
  unfold TF
  dsimp only
  by_cases hq : q < 0
  · rw [if_pos hq]
    by_cases hc : w = 1
    · subst hc
      exact k_X7_takes_ok l D B T M a (nI k) s v q n hn hn9 hL hg hq
    · obtain rfl : w = 0 := by omega
      rw [if_neg hc]
      exact k_X7_takes_bad l D B T M a (nI k) s v q hq
  · rw [if_neg hq]
    exact k_X7_takes_no l D B T M a (nI k) s v q w hq
