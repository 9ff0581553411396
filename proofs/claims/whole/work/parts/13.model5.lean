def cbB (Kv : Int32) (row of_ by_ nt : Nat → Int32) (p : Nat) (v : Int32) : Nat → Bool
  | 0 => true
  | n + 1 => cbB Kv row of_ by_ nt p v n && decide (¬ of_ n = nI p ∨ (v ≤ suR Kv row p (by_ n).toNatClampNeg ↔ nt n = nI 1))
theorem cb_y {Kv : Int32} {row of_ by_ nt : Nat → Int32} {p : Nat} {v : Int32} {n : Nat} (h : cbB Kv row of_ by_ nt p v n = true) (h2 : ¬ of_ n = nI p ∨ (v ≤ suR Kv row p (by_ n).toNatClampNeg ↔ nt n = nI 1)) : cbB Kv row of_ by_ nt p v (n + 1) = true := by
  simp only [cbB]
  rw [h, decide_eq_true h2]
  rfl
theorem cb_n1 {Kv : Int32} {row of_ by_ nt : Nat → Int32} {p : Nat} {v : Int32} {n : Nat} (h : ¬ cbB Kv row of_ by_ nt p v n = true) : ¬ cbB Kv row of_ by_ nt p v (n + 1) = true := by
  simp only [cbB]
  intro q
  exact h (Bool.and_eq_true _ _ ▸ q).1
theorem cb_n2 {Kv : Int32} {row of_ by_ nt : Nat → Int32} {p : Nat} {v : Int32} {n : Nat} (h2 : ¬ (¬ of_ n = nI p ∨ (v ≤ suR Kv row p (by_ n).toNatClampNeg ↔ nt n = nI 1))) : ¬ cbB Kv row of_ by_ nt p v (n + 1) = true := by
  simp only [cbB]
  intro q
  exact h2 (of_decide_eq_true (Bool.and_eq_true _ _ ▸ q).2)
def nvF (f : Nat → Bool) : Nat → Nat × Int32 × Int32
  | 0 => (0, -9, -9)
  | n + 1 => if f n = true then ((nvF f n).1 + 1, (if (nvF f n).1 = 0 then nI n else (nvF f n).2.1), nI n) else nvF f n
theorem nvF_le (f : Nat → Bool) (n : Nat) : (nvF f n).1 ≤ n := by
  induction n with
  | zero => exact Nat.le_refl _
  | succ n ih =>
    simp only [nvF]
    split
    · exact Nat.succ_le_succ ih
    · omega
def cnB (f : Nat → Bool) : Nat → Nat
  | 0 => 0
  | n + 1 => cnB f n + (if f n = true then 1 else 0)
theorem cnB_y {f : Nat → Bool} {n : Nat} (h : f n = true) : cnB f (n + 1) = cnB f n + 1 := by
  simp only [cnB]
  rw [if_pos h]
theorem cnB_n {f : Nat → Bool} {n : Nat} (h : ¬ f n = true) : cnB f (n + 1) = cnB f n + 0 := by
  simp only [cnB]
  rw [if_neg h]
theorem cnB_le (f : Nat → Bool) (n : Nat) : cnB f n ≤ n := by
  induction n with
  | zero => exact Nat.le_refl _
  | succ n ih =>
    simp only [cnB]
    split <;> omega
theorem cnB_mono {f g : Nat → Bool} (h : ∀ v, f v = true → g v = true) (n : Nat) : cnB f n ≤ cnB g n := by
  induction n with
  | zero => exact Nat.le_refl _
  | succ n ih =>
    simp only [cnB]
    by_cases hf : f n = true
    · rw [if_pos hf, if_pos (h n hf)]; omega
    · rw [if_neg hf]; omega
theorem and_l {a : Bool} {P : Prop} [Decidable P] (h : (a && decide P) = true) : a = true := (Bool.and_eq_true _ _ ▸ h).1
theorem and_r {a : Bool} {P : Prop} [Decidable P] (h : (a && decide P) = true) : P := of_decide_eq_true (Bool.and_eq_true _ _ ▸ h).2
theorem and_i {a : Bool} {P : Prop} [Decidable P] (h : a = true) (h2 : P) : (a && decide P) = true := by
  rw [h, decide_eq_true h2]
  rfl
def gtr (A Y : Nat) : Nat := if Y ≤ A - Y then A - Y else Y
def tsF (f : Nat → Bool) (y : Nat → Nat → Bool) : Nat → Int32 × Nat
  | 0 => (-9, 101)
  | k + 1 => if gtr (cnB f 100) (cnB (y k) 100) < (tsF f y k).2 then (nI k, gtr (cnB f 100) (cnB (y k) 100)) else tsF f y k
theorem tsF_y (f : Nat → Bool) (y : Nat → Nat → Bool) {k : Nat} (h : gtr (cnB f 100) (cnB (y k) 100) < (tsF f y k).2) : tsF f y (k + 1) = (nI k, gtr (cnB f 100) (cnB (y k) 100)) := if_pos h
theorem tsF_n (f : Nat → Bool) (y : Nat → Nat → Bool) {k : Nat} (h : ¬ gtr (cnB f 100) (cnB (y k) 100) < (tsF f y k).2) : tsF f y (k + 1) = tsF f y k := if_neg h
theorem tsF_le (f : Nat → Bool) (y : Nat → Nat → Bool) (k : Nat) : (tsF f y k).2 ≤ 101 := by
  induction k with
  | zero => exact Nat.le_refl _
  | succ k ih =>
    simp only [tsF]
    split
    · dsimp only; omega
    · exact ih
set_option maxRecDepth 100000 in
set_option maxHeartbeats 4000000 in
theorem k_X7_canBe (l : Launch) (D : DX) (B : Nat) (T : Int64) (M : Mem) (K : Nat) (hK : M 2 0 = nI K) (hK1 : 1 ≤ K) (hK4 : K ≤ 4) (nn : Nat) (hnn : M 0 22 = nI nn) (hnn6 : nn ≤ 6) (hN : ∀ i, i < nn → ∃ k : Nat, k < 4 ∧ M 11 i = nI k) (hW : WR (M 5)) (p v : Nat) (hp : p < 5) (hv : v < 100) : Ci l D B 14 (celM D B) yX7_canBe cX7_canBe 5 (some .boolean) 2 [.ref (B + 0), .int (nI p), .int (nI v)] T M (fun rz T1 M1 => rz = (bI (cbB (M 2 0) (M 5) (M 10) (M 11) (M 12) p (nI v) nn = true)) ∧ T1 = T ∧ M1 = M) := by
  refine g_entryi (L := [(0, .ref (B + 0)), (1, .int (nI p)), (2, .int (nI v))]) (by decide) (Nat.le_of_ble_eq_true rfl) rfl ?_
  intro zp ze zs zm zb zt zc Q F hQ
  refine g_iconst F (nI 1) (dk dtX7_canBe_0 0 rfl) (by decide) ?_
  refine g_istore_n F [(3, .int (nI 1)), (0, .ref (B + 0)), (1, .int (nI p)), (2, .int (nI v))] (dk dtX7_canBe_0 1 rfl) (by decide) rfl ?_
  refine g_iconst F (nI 0) (dk dtX7_canBe_0 2 rfl) (by decide) ?_
  refine g_istore F [(4, .int (nI 0)), (3, .int (nI 1)), (0, .ref (B + 0)), (1, .int (nI p)), (2, .int (nI v))] (dk dtX7_canBe_0 3 rfl) (by decide) rfl ?_
  have lp5 : ∀ (fz : Nat) (i : Nat), i ≤ nn → (nn - i) < fz → G zp l ze { frames := 2, cells := 0, slots := 0, locals := 40 * 2 } zs zm [.ref (B + 0), .int (nI p), .int (nI v)].toArray zb zt zc 5 D B 14 (celM D B) Q T M 5 [(0, .ref (B + 0)), (1, .int (nI p)), (2, .int (nI v)), (3, .int (bI (cbB (M 2 0) (M 5) (M 10) (M 11) (M 12) p (nI v) i = true))), (4, .int (nI i))] [] := by
    intro n5
    induction n5 with
    | zero => intro i hI hn; exact absurd hn (Nat.not_lt_zero _)
    | succ n5 ih5 =>
      intro i hI5 hn5
      refine g_iload F 4 (dk dtX7_canBe_0 4 rfl) rfl ?_
      refine g_aload_n F 0 (dk dtX7_canBe_0 5 rfl) rfl ?_
      refine g_get F fa_X7_119 (dk dtX7_canBe_0 6 rfl) (by decide) (cm0 D B _ _) rfl ?_
      refine g_top hnn ?_
      refine g_icmp_geN F 85 (dk dtX7_canBe_0 7 rfl) (by decide) (by omega) (by omega) (fun c11 => ?_) (fun c11 => ?_)
      · -- taken at 11
        obtain rfl : nn = i := by omega
        refine g_iload_n F 3 (dk dtX7_canBe_0 46 rfl) rfl ?_
        refine g_zret (F := F) hQ (dk dtX7_canBe_0 47 rfl) (bI_nar) ?_
        exact ⟨rfl, rfl, rfl⟩
      · -- not taken at 11
        refine g_iload_n F 3 (dk dtX7_canBe_0 8 rfl) rfl ?_
        refine g_if_eqB F 77 (dk dtX7_canBe_0 9 rfl) (by decide) (fun c15 => ?_) (fun c15 => ?_)
        · -- taken at 15
          refine g_iconst F (nI 0) (dk dtX7_canBe_0 42 rfl) (by decide) ?_
          refine g_istore_n F [(3, .int (nI 0)), (0, .ref (B + 0)), (1, .int (nI p)), (2, .int (nI v)), (4, .int (nI i))] (dk dtX7_canBe_0 43 rfl) (by decide) rfl ?_
          refine g_iinc F 4 (nI (i + 1)) [(4, .int (nI (i + 1))), (3, .int (nI 0)), (0, .ref (B + 0)), (1, .int (nI p)), (2, .int (nI v))] (dk dtX7_canBe_0 44 rfl) rfl (nI_1 _) (by decide) rfl ?_
          refine g_goto F 5 (dk dtX7_canBe_0 45 rfl) (by decide) ?_
          refine g_sub [2, 3, 4, 1, 0] (L1 := [(0, .ref (B + 0)), (1, .int (nI p)), (2, .int (nI v)), (3, .int (nI 0)), (4, .int (nI (i + 1)))]) rfl ?_
          have eq5_3 : (nI 0 : Int32) = bI (cbB (M 2 0) (M 5) (M 10) (M 11) (M 12) p (nI v) (i + 1) = true) := by
            exact (bI_f (cb_n1 c15)).symm
          refine g_st (M1 := M) (L1 := [(0, .ref (B + 0)), (1, .int (nI p)), (2, .int (nI v)), (3, .int (bI (cbB (M 2 0) (M 5) (M 10) (M 11) (M 12) p (nI v) (i + 1) = true))), (4, .int (nI (i + 1)))]) rfl (lc rfl (lc rfl (lc rfl (lc (vi eq5_3) (lc rfl rfl))))) rfl ?_
          exact ih5 (i + 1) (by omega) (by omega)
        · -- not taken at 15
          refine g_aload_n F 0 (dk dtX7_canBe_0 10 rfl) rfl ?_
          refine g_get F fa_X7_38 (dk dtX7_canBe_0 11 rfl) (by decide) (cm0 D B _ _) rfl ?_
          refine g_iload F 4 (dk dtX7_canBe_0 12 rfl) rfl ?_
          refine g_iald F (i) (dk dtX7_canBe_0 13 rfl) (by decide) (cm10 D B _ _) (by omega) (by decide) ?_
          refine g_iload_n F 1 (dk dtX7_canBe_0 14 rfl) rfl ?_
          refine g_icmp_ne F 73 (dk dtX7_canBe_0 15 rfl) (by decide) (fun c26 => ?_) (fun c26 => ?_)
          · -- taken at 26
            refine g_iconst F (nI 1) (dk dtX7_canBe_0 40 rfl) (by decide) ?_
            refine g_goto F 78 (dk dtX7_canBe_0 41 rfl) (by decide) ?_
            refine g_istore_n F [(3, .int (nI 1)), (0, .ref (B + 0)), (1, .int (nI p)), (2, .int (nI v)), (4, .int (nI i))] (dk dtX7_canBe_0 43 rfl) (by decide) rfl ?_
            refine g_iinc F 4 (nI (i + 1)) [(4, .int (nI (i + 1))), (3, .int (nI 1)), (0, .ref (B + 0)), (1, .int (nI p)), (2, .int (nI v))] (dk dtX7_canBe_0 44 rfl) rfl (nI_1 _) (by decide) rfl ?_
            refine g_goto F 5 (dk dtX7_canBe_0 45 rfl) (by decide) ?_
            refine g_sub [2, 3, 4, 1, 0] (L1 := [(0, .ref (B + 0)), (1, .int (nI p)), (2, .int (nI v)), (3, .int (nI 1)), (4, .int (nI (i + 1)))]) rfl ?_
            have eq5_3 : (nI 1 : Int32) = bI (cbB (M 2 0) (M 5) (M 10) (M 11) (M 12) p (nI v) (i + 1) = true) := by
              exact (bI_t (cb_y c15 (Or.inl c26))).symm
            refine g_st (M1 := M) (L1 := [(0, .ref (B + 0)), (1, .int (nI p)), (2, .int (nI v)), (3, .int (bI (cbB (M 2 0) (M 5) (M 10) (M 11) (M 12) p (nI v) (i + 1) = true))), (4, .int (nI (i + 1)))]) rfl (lc rfl (lc rfl (lc rfl (lc (vi eq5_3) (lc rfl rfl))))) rfl ?_
            exact ih5 (i + 1) (by omega) (by omega)
          · -- not taken at 26
            refine g_iload_n F 2 (dk dtX7_canBe_0 16 rfl) rfl ?_
            refine g_aload_n F 0 (dk dtX7_canBe_0 17 rfl) rfl ?_
            refine g_aload_n F 0 (dk dtX7_canBe_0 18 rfl) rfl ?_
            refine g_get F fa_X7_22 (dk dtX7_canBe_0 19 rfl) (by decide) (cm0 D B _ _) rfl ?_
            refine g_iload_n F 1 (dk dtX7_canBe_0 20 rfl) rfl ?_
            refine g_aload_n F 0 (dk dtX7_canBe_0 21 rfl) rfl ?_
            refine g_get F fa_X7_41 (dk dtX7_canBe_0 22 rfl) (by decide) (cm0 D B _ _) rfl ?_
            obtain ⟨kq, hkq4, hkq⟩ := hN i (by omega)
            refine g_iload F 4 (dk dtX7_canBe_0 23 rfl) rfl ?_
            refine g_iald F (i) (dk dtX7_canBe_0 24 rfl) (by decide) (cm11 D B _ _) (by omega) (by decide) ?_
            refine g_top hkq ?_
            refine g_callVi F (As := [.ref (B + 5), .int (nI p), .int (nI kq)]) (st := [.int (nI v)]) cv_X7_135 (dk dtX7_canBe_0 25 rfl) (by decide) (cm0 D B _ _) rfl rfl (Nat.le_of_ble_eq_true rfl) ⟨by decide, by decide⟩ (k_X7_surpriseOf l D B _ _ 5 (isRow5 D B) p kq (by omega) (by omega) (dvR hK hW hK1 hK4 (by omega))) (fun r43 T43 M43 hp43 => ?_)
            obtain ⟨e1, e2, e3⟩ := hp43
            replace e1 := e1.symm; replace e2 := e2.symm; replace e3 := e3.symm; subst e1; subst e2; subst e3
            refine g_icmp_gt F 53 (dk dtX7_canBe_0 26 rfl) (by decide) (fun c46 => ?_) (fun c46 => ?_)
            · -- taken at 46
              refine g_iconst F (nI 0) (dk dtX7_canBe_0 29 rfl) (by decide) ?_
              refine g_aload_n F 0 (dk dtX7_canBe_0 30 rfl) rfl ?_
              refine g_get F fa_X7_44 (dk dtX7_canBe_0 31 rfl) (by decide) (cm0 D B _ _) rfl ?_
              refine g_iload F 4 (dk dtX7_canBe_0 32 rfl) rfl ?_
              refine g_iald F (i) (dk dtX7_canBe_0 33 rfl) (by decide) (cm12 D B _ _) (by omega) (by decide) ?_
              refine g_iconst F (nI 1) (dk dtX7_canBe_0 34 rfl) (by decide) ?_
              refine g_icmp_ne F 69 (dk dtX7_canBe_0 35 rfl) (by decide) (fun c62 => ?_) (fun c62 => ?_)
              · -- taken at 62
                refine g_iconst F (nI 0) (dk dtX7_canBe_0 38 rfl) (by decide) ?_
                refine g_icmp_neN F 77 (dk dtX7_canBe_0 39 rfl) (by decide) (by decide) (by decide) (fun c => absurd c (by decide)) (fun _ => ?_)
                refine g_iconst F (nI 1) (dk dtX7_canBe_0 40 rfl) (by decide) ?_
                refine g_goto F 78 (dk dtX7_canBe_0 41 rfl) (by decide) ?_
                refine g_istore_n F [(3, .int (nI 1)), (0, .ref (B + 0)), (1, .int (nI p)), (2, .int (nI v)), (4, .int (nI i))] (dk dtX7_canBe_0 43 rfl) (by decide) rfl ?_
                refine g_iinc F 4 (nI (i + 1)) [(4, .int (nI (i + 1))), (3, .int (nI 1)), (0, .ref (B + 0)), (1, .int (nI p)), (2, .int (nI v))] (dk dtX7_canBe_0 44 rfl) rfl (nI_1 _) (by decide) rfl ?_
                refine g_goto F 5 (dk dtX7_canBe_0 45 rfl) (by decide) ?_
                refine g_sub [2, 3, 4, 1, 0] (L1 := [(0, .ref (B + 0)), (1, .int (nI p)), (2, .int (nI v)), (3, .int (nI 1)), (4, .int (nI (i + 1)))]) rfl ?_
                have eq5_3 : (nI 1 : Int32) = bI (cbB (M 2 0) (M 5) (M 10) (M 11) (M 12) p (nI v) (i + 1) = true) := by
                  have hsu := Int32.not_le.mpr c46
                  exact (bI_t (cb_y c15 (Or.inr (by rw [hkq, nI_clamp (by omega)]; exact ⟨fun h => absurd h hsu, fun h => absurd h c62⟩)))).symm
                refine g_st (M1 := M) (L1 := [(0, .ref (B + 0)), (1, .int (nI p)), (2, .int (nI v)), (3, .int (bI (cbB (M 2 0) (M 5) (M 10) (M 11) (M 12) p (nI v) (i + 1) = true))), (4, .int (nI (i + 1)))]) rfl (lc rfl (lc rfl (lc rfl (lc (vi eq5_3) (lc rfl rfl))))) rfl ?_
                exact ih5 (i + 1) (by omega) (by omega)
              · -- not taken at 62
                refine g_iconst F (nI 1) (dk dtX7_canBe_0 36 rfl) (by decide) ?_
                refine g_goto F 70 (dk dtX7_canBe_0 37 rfl) (by decide) ?_
                refine g_icmp_neN F 77 (dk dtX7_canBe_0 39 rfl) (by decide) (by decide) (by decide) (fun _ => ?_) (fun c => absurd c (by decide))
                refine g_iconst F (nI 0) (dk dtX7_canBe_0 42 rfl) (by decide) ?_
                refine g_istore_n F [(3, .int (nI 0)), (0, .ref (B + 0)), (1, .int (nI p)), (2, .int (nI v)), (4, .int (nI i))] (dk dtX7_canBe_0 43 rfl) (by decide) rfl ?_
                refine g_iinc F 4 (nI (i + 1)) [(4, .int (nI (i + 1))), (3, .int (nI 0)), (0, .ref (B + 0)), (1, .int (nI p)), (2, .int (nI v))] (dk dtX7_canBe_0 44 rfl) rfl (nI_1 _) (by decide) rfl ?_
                refine g_goto F 5 (dk dtX7_canBe_0 45 rfl) (by decide) ?_
                refine g_sub [2, 3, 4, 1, 0] (L1 := [(0, .ref (B + 0)), (1, .int (nI p)), (2, .int (nI v)), (3, .int (nI 0)), (4, .int (nI (i + 1)))]) rfl ?_
                have eq5_3 : (nI 0 : Int32) = bI (cbB (M 2 0) (M 5) (M 10) (M 11) (M 12) p (nI v) (i + 1) = true) := by
                  have hsu := Int32.not_le.mpr c46
                  exact (bI_f (cb_n2 (fun h => h.elim (fun q => q c26) (by rw [hkq, nI_clamp (by omega)]; exact fun h => absurd (h.mpr c62) hsu)))).symm
                refine g_st (M1 := M) (L1 := [(0, .ref (B + 0)), (1, .int (nI p)), (2, .int (nI v)), (3, .int (bI (cbB (M 2 0) (M 5) (M 10) (M 11) (M 12) p (nI v) (i + 1) = true))), (4, .int (nI (i + 1)))]) rfl (lc rfl (lc rfl (lc rfl (lc (vi eq5_3) (lc rfl rfl))))) rfl ?_
                exact ih5 (i + 1) (by omega) (by omega)
            · -- not taken at 46
              refine g_iconst F (nI 1) (dk dtX7_canBe_0 27 rfl) (by decide) ?_
              refine g_goto F 54 (dk dtX7_canBe_0 28 rfl) (by decide) ?_
              refine g_aload_n F 0 (dk dtX7_canBe_0 30 rfl) rfl ?_
              refine g_get F fa_X7_44 (dk dtX7_canBe_0 31 rfl) (by decide) (cm0 D B _ _) rfl ?_
              refine g_iload F 4 (dk dtX7_canBe_0 32 rfl) rfl ?_
              refine g_iald F (i) (dk dtX7_canBe_0 33 rfl) (by decide) (cm12 D B _ _) (by omega) (by decide) ?_
              refine g_iconst F (nI 1) (dk dtX7_canBe_0 34 rfl) (by decide) ?_
              refine g_icmp_ne F 69 (dk dtX7_canBe_0 35 rfl) (by decide) (fun c62 => ?_) (fun c62 => ?_)
              · -- taken at 62
                refine g_iconst F (nI 0) (dk dtX7_canBe_0 38 rfl) (by decide) ?_
                refine g_icmp_neN F 77 (dk dtX7_canBe_0 39 rfl) (by decide) (by decide) (by decide) (fun _ => ?_) (fun c => absurd c (by decide))
                refine g_iconst F (nI 0) (dk dtX7_canBe_0 42 rfl) (by decide) ?_
                refine g_istore_n F [(3, .int (nI 0)), (0, .ref (B + 0)), (1, .int (nI p)), (2, .int (nI v)), (4, .int (nI i))] (dk dtX7_canBe_0 43 rfl) (by decide) rfl ?_
                refine g_iinc F 4 (nI (i + 1)) [(4, .int (nI (i + 1))), (3, .int (nI 0)), (0, .ref (B + 0)), (1, .int (nI p)), (2, .int (nI v))] (dk dtX7_canBe_0 44 rfl) rfl (nI_1 _) (by decide) rfl ?_
                refine g_goto F 5 (dk dtX7_canBe_0 45 rfl) (by decide) ?_
                refine g_sub [2, 3, 4, 1, 0] (L1 := [(0, .ref (B + 0)), (1, .int (nI p)), (2, .int (nI v)), (3, .int (nI 0)), (4, .int (nI (i + 1)))]) rfl ?_
                have eq5_3 : (nI 0 : Int32) = bI (cbB (M 2 0) (M 5) (M 10) (M 11) (M 12) p (nI v) (i + 1) = true) := by
                  have hsu := Int32.not_lt.mp c46
                  exact (bI_f (cb_n2 (fun h => h.elim (fun q => q c26) (by rw [hkq, nI_clamp (by omega)]; exact fun h => absurd (h.mp hsu) c62)))).symm
                refine g_st (M1 := M) (L1 := [(0, .ref (B + 0)), (1, .int (nI p)), (2, .int (nI v)), (3, .int (bI (cbB (M 2 0) (M 5) (M 10) (M 11) (M 12) p (nI v) (i + 1) = true))), (4, .int (nI (i + 1)))]) rfl (lc rfl (lc rfl (lc rfl (lc (vi eq5_3) (lc rfl rfl))))) rfl ?_
                exact ih5 (i + 1) (by omega) (by omega)
              · -- not taken at 62
                refine g_iconst F (nI 1) (dk dtX7_canBe_0 36 rfl) (by decide) ?_
                refine g_goto F 70 (dk dtX7_canBe_0 37 rfl) (by decide) ?_
                refine g_icmp_neN F 77 (dk dtX7_canBe_0 39 rfl) (by decide) (by decide) (by decide) (fun c => absurd c (by decide)) (fun _ => ?_)
                refine g_iconst F (nI 1) (dk dtX7_canBe_0 40 rfl) (by decide) ?_
                refine g_goto F 78 (dk dtX7_canBe_0 41 rfl) (by decide) ?_
                refine g_istore_n F [(3, .int (nI 1)), (0, .ref (B + 0)), (1, .int (nI p)), (2, .int (nI v)), (4, .int (nI i))] (dk dtX7_canBe_0 43 rfl) (by decide) rfl ?_
                refine g_iinc F 4 (nI (i + 1)) [(4, .int (nI (i + 1))), (3, .int (nI 1)), (0, .ref (B + 0)), (1, .int (nI p)), (2, .int (nI v))] (dk dtX7_canBe_0 44 rfl) rfl (nI_1 _) (by decide) rfl ?_
                refine g_goto F 5 (dk dtX7_canBe_0 45 rfl) (by decide) ?_
                refine g_sub [2, 3, 4, 1, 0] (L1 := [(0, .ref (B + 0)), (1, .int (nI p)), (2, .int (nI v)), (3, .int (nI 1)), (4, .int (nI (i + 1)))]) rfl ?_
                have eq5_3 : (nI 1 : Int32) = bI (cbB (M 2 0) (M 5) (M 10) (M 11) (M 12) p (nI v) (i + 1) = true) := by
                  have hsu := Int32.not_lt.mp c46
                  exact (bI_t (cb_y c15 (Or.inr (by rw [hkq, nI_clamp (by omega)]; exact ⟨fun _ => c62, fun _ => hsu⟩)))).symm
                refine g_st (M1 := M) (L1 := [(0, .ref (B + 0)), (1, .int (nI p)), (2, .int (nI v)), (3, .int (bI (cbB (M 2 0) (M 5) (M 10) (M 11) (M 12) p (nI v) (i + 1) = true))), (4, .int (nI (i + 1)))]) rfl (lc rfl (lc rfl (lc rfl (lc (vi eq5_3) (lc rfl rfl))))) rfl ?_
                exact ih5 (i + 1) (by omega) (by omega)
  refine g_sub [2, 3, 4, 1, 0] (L1 := [(0, .ref (B + 0)), (1, .int (nI p)), (2, .int (nI v)), (3, .int (nI 1)), (4, .int (nI 0))]) rfl ?_
  exact g_st (M1 := M) (L1 := [(0, .ref (B + 0)), (1, .int (nI p)), (2, .int (nI v)), (3, .int (bI (cbB (M 2 0) (M 5) (M 10) (M 11) (M 12) p (nI v) 0 = true))), (4, .int (nI 0))]) rfl (by rw [bI_t (show cbB (M 2 0) (M 5) (M 10) (M 11) (M 12) p (nI v) 0 = true from rfl)]) rfl (lp5 (nn + 1) 0 (by omega) (by omega))
set_option maxRecDepth 100000 in
set_option maxHeartbeats 4000000 in
theorem k_X7_nerves_0 (l : Launch) (D : DX) (B : Nat) (T : Int64) (M : Mem) (h0 : M 0 0 = nI 0) (P : Nat) (hP : M 2 2 = nI P) (hP5 : P ≤ 5) (K : Nat) (hK : M 2 0 = nI K) (hK1 : 1 ≤ K) (hK4 : K ≤ 4) (nn : Nat) (hnn : M 0 22 = nI nn) (hnn6 : nn ≤ 6) (hN : ∀ i, i < nn → ∃ k : Nat, k < 4 ∧ M 11 i = nI k) (hW : WR (M 5)) (p : Nat) (hp : p < P)  : Ci l D B 14 (celM D B) yX7_nerves cX7_nerves 7 (some .int) 3 [.ref (B + 0), .int (nI p), .int (nI 0)] T M (fun rz T1 M1 => rz = (nI (nvF (fun v => cbB (M 2 0) (M 5) (M 10) (M 11) (M 12) p (nI v) nn) 100).1) ∧ T1 = T ∧ M1 = M) := by
  refine g_entryi (L := [(0, .ref (B + 0)), (1, .int (nI p)), (2, .int (nI 0))]) (by decide) (Nat.le_of_ble_eq_true rfl) rfl ?_
  intro zp ze zs zm zb zt zc Q F hQ
  refine g_aload_n F 0 (dk dtX7_nerves_0 0 rfl) rfl ?_
  refine g_iconst F (nI 0) (dk dtX7_nerves_0 1 rfl) (by decide) ?_
  refine g_put F fa_X7_56 (dk dtX7_nerves_0 2 rfl) (by decide) (cm0 D B _ _) (Nat.le_of_ble_eq_true rfl) rfl rfl ((cm0 D B _ _).trans st_Mod_0) ?_
  refine g_mem (up2_same h0) ?_
  refine g_aload_n F 0 (dk dtX7_nerves_0 3 rfl) rfl ?_
  refine g_iload_n F 1 (dk dtX7_nerves_0 4 rfl) rfl ?_
  refine g_callVi F (As := [.int (nI p)]) (st := []) cv_X7_129 (dk dtX7_nerves_0 5 rfl) (by decide) (cm0 D B _ _) rfl rfl (Nat.le_of_ble_eq_true rfl) ⟨by decide, by decide⟩ (k_X7_isOne l D B _ _ _ P hP (by omega)) (fun r7 T7 M7 hp7 => ?_)
  obtain ⟨e1, e2, e3⟩ := hp7
  replace e1 := e1.symm; replace e2 := e2.symm; replace e3 := e3.symm; subst e1; subst e2; subst e3
  refine g_if_eqB F 22 (dk dtX7_nerves_0 6 rfl) (by decide) (fun c => absurd (inR_nI (by omega)) c) (fun _ => ?_)
  refine g_iload_n F 2 (dk dtX7_nerves_0 7 rfl) rfl ?_
  refine g_iconst F (nI 0) (dk dtX7_nerves_0 8 rfl) (by decide) ?_
  refine g_iconst F (nI 2) (dk dtX7_nerves_0 9 rfl) (by decide) ?_
  refine g_callSi F (As := [.int (nI 0), .int (nI 0), .int (nI 2)]) (st := []) cs_X7_60 (dk dtX7_nerves_0 10 rfl) rfl rfl (Nat.le_of_ble_eq_true rfl) ⟨by decide, by decide⟩ (k_X7_inR l D B _ _ _ 2 (by decide)) (fun r16 T16 M16 hp16 => ?_)
  obtain ⟨e1, e2, e3⟩ := hp16
  replace e1 := e1.symm; replace e2 := e2.symm; replace e3 := e3.symm; subst e1; subst e2; subst e3
  refine g_if_neB F 24 (dk dtX7_nerves_0 11 rfl) (by decide) (fun _ => ?_) (fun c => absurd (inR_nI (by omega)) c)
  refine g_iconst F (nI 0) (dk dtX7_nerves_0 14 rfl) (by decide) ?_
  refine g_istore_n F [(3, .int (nI 0)), (0, .ref (B + 0)), (1, .int (nI p)), (2, .int (nI 0))] (dk dtX7_nerves_0 15 rfl) (by decide) rfl ?_
  refine g_bipush F (-9) (dk dtX7_nerves_0 16 rfl) (by decide) ?_
  refine g_istore F [(4, .int (-9)), (3, .int (nI 0)), (0, .ref (B + 0)), (1, .int (nI p)), (2, .int (nI 0))] (dk dtX7_nerves_0 17 rfl) (by decide) rfl ?_
  refine g_bipush F (-9) (dk dtX7_nerves_0 18 rfl) (by decide) ?_
  refine g_istore F [(5, .int (-9)), (4, .int (-9)), (3, .int (nI 0)), (0, .ref (B + 0)), (1, .int (nI p)), (2, .int (nI 0))] (dk dtX7_nerves_0 19 rfl) (by decide) rfl ?_
  refine g_iconst F (nI 0) (dk dtX7_nerves_0 20 rfl) (by decide) ?_
  refine g_istore F [(6, .int (nI 0)), (5, .int (-9)), (4, .int (-9)), (3, .int (nI 0)), (0, .ref (B + 0)), (1, .int (nI p)), (2, .int (nI 0))] (dk dtX7_nerves_0 21 rfl) (by decide) rfl ?_
  have lp37 : ∀ (fz : Nat) (i : Nat), i ≤ 100 → (100 - i) < fz → G zp l ze { frames := 3, cells := 0, slots := 0, locals := 40 * 3 } zs zm [.ref (B + 0), .int (nI p), .int (nI 0)].toArray zb zt zc 7 D B 14 (celM D B) Q T M 37 [(0, .ref (B + 0)), (1, .int (nI p)), (2, .int (nI 0)), (3, .int (nI ((nvF (fun v => cbB (M 2 0) (M 5) (M 10) (M 11) (M 12) p (nI v) nn) i).1))), (4, .int ((nvF (fun v => cbB (M 2 0) (M 5) (M 10) (M 11) (M 12) p (nI v) nn) i).2.1)), (5, .int ((nvF (fun v => cbB (M 2 0) (M 5) (M 10) (M 11) (M 12) p (nI v) nn) i).2.2)), (6, .int (nI i))] [] := by
    intro n37
    induction n37 with
    | zero => intro i hI hn; exact absurd hn (Nat.not_lt_zero _)
    | succ n37 ih37 =>
      intro i hI37 hn37
      have hle := nvF_le (fun v => cbB (M 2 0) (M 5) (M 10) (M 11) (M 12) p (nI v) nn) i
      refine g_iload F 6 (dk dtX7_nerves_0 22 rfl) rfl ?_
      refine g_bipush F (nI 100) (dk dtX7_nerves_0 23 rfl) (by decide) ?_
      refine g_icmp_geN F 80 (dk dtX7_nerves_0 24 rfl) (by decide) (by omega) (by omega) (fun c41 => ?_) (fun c41 => ?_)
      · -- taken at 41
        obtain rfl : 100 = i := by omega
        refine g_iload_n F 2 (dk dtX7_nerves_0 41 rfl) rfl ?_
        refine g_if_neN F 88 (dk dtX7_nerves_0 42 rfl) (by decide) (by decide) (fun c => absurd c (by decide)) (fun _ => ?_)
        refine g_iload_n F 3 (dk dtX7_nerves_0 43 rfl) rfl ?_
        refine g_goto F 100 (dk dtX7_nerves_0 44 rfl) (by decide) ?_
        refine g_iret (F := F) hQ (dk dtX7_nerves_0 51 rfl) ?_
        exact ⟨rfl, rfl, rfl⟩
      · -- not taken at 41
        refine g_aload_n F 0 (dk dtX7_nerves_0 25 rfl) rfl ?_
        refine g_iload_n F 1 (dk dtX7_nerves_0 26 rfl) rfl ?_
        refine g_iload F 6 (dk dtX7_nerves_0 27 rfl) rfl ?_
        refine g_callVi F (As := [.int (nI p), .int (nI i)]) (st := []) cv_X7_179 (dk dtX7_nerves_0 28 rfl) (by decide) (cm0 D B _ _) rfl rfl (Nat.le_of_ble_eq_true rfl) ⟨by decide, by decide⟩ (k_X7_canBe l D B _ _ K hK hK1 hK4 nn hnn hnn6 hN hW p i (by omega) (by omega)) (fun r48 T48 M48 hp48 => ?_)
        obtain ⟨e1, e2, e3⟩ := hp48
        replace e1 := e1.symm; replace e2 := e2.symm; replace e3 := e3.symm; subst e1; subst e2; subst e3
        refine g_if_eqB F 74 (dk dtX7_nerves_0 29 rfl) (by decide) (fun c51 => ?_) (fun c51 => ?_)
        · -- taken at 51
          refine g_iinc F 6 (nI (i + 1)) [(6, .int (nI (i + 1))), (0, .ref (B + 0)), (1, .int (nI p)), (2, .int (nI 0)), (3, .int (nI ((nvF (fun v => cbB (M 2 0) (M 5) (M 10) (M 11) (M 12) p (nI v) nn) i).1))), (4, .int ((nvF (fun v => cbB (M 2 0) (M 5) (M 10) (M 11) (M 12) p (nI v) nn) i).2.1)), (5, .int ((nvF (fun v => cbB (M 2 0) (M 5) (M 10) (M 11) (M 12) p (nI v) nn) i).2.2))] (dk dtX7_nerves_0 39 rfl) rfl (nI_1 _) (by decide) rfl ?_
          refine g_goto F 37 (dk dtX7_nerves_0 40 rfl) (by decide) ?_
          refine g_sub [1, 2, 3, 4, 5, 6, 0] (L1 := [(0, .ref (B + 0)), (1, .int (nI p)), (2, .int (nI 0)), (3, .int (nI ((nvF (fun v => cbB (M 2 0) (M 5) (M 10) (M 11) (M 12) p (nI v) nn) i).1))), (4, .int ((nvF (fun v => cbB (M 2 0) (M 5) (M 10) (M 11) (M 12) p (nI v) nn) i).2.1)), (5, .int ((nvF (fun v => cbB (M 2 0) (M 5) (M 10) (M 11) (M 12) p (nI v) nn) i).2.2)), (6, .int (nI (i + 1)))]) rfl ?_
          have eq37_3 : (nI ((nvF (fun v => cbB (M 2 0) (M 5) (M 10) (M 11) (M 12) p (nI v) nn) i).1) : Int32) = nI ((nvF (fun v => cbB (M 2 0) (M 5) (M 10) (M 11) (M 12) p (nI v) nn) (i + 1)).1) := by
            simp only [nvF]; rw [if_neg c51]
          have eq37_4 : ((nvF (fun v => cbB (M 2 0) (M 5) (M 10) (M 11) (M 12) p (nI v) nn) i).2.1 : Int32) = (nvF (fun v => cbB (M 2 0) (M 5) (M 10) (M 11) (M 12) p (nI v) nn) (i + 1)).2.1 := by
            simp only [nvF]; rw [if_neg c51]
          have eq37_5 : ((nvF (fun v => cbB (M 2 0) (M 5) (M 10) (M 11) (M 12) p (nI v) nn) i).2.2 : Int32) = (nvF (fun v => cbB (M 2 0) (M 5) (M 10) (M 11) (M 12) p (nI v) nn) (i + 1)).2.2 := by
            simp only [nvF]; rw [if_neg c51]
          refine g_st (M1 := M) (L1 := [(0, .ref (B + 0)), (1, .int (nI p)), (2, .int (nI 0)), (3, .int (nI ((nvF (fun v => cbB (M 2 0) (M 5) (M 10) (M 11) (M 12) p (nI v) nn) (i + 1)).1))), (4, .int ((nvF (fun v => cbB (M 2 0) (M 5) (M 10) (M 11) (M 12) p (nI v) nn) (i + 1)).2.1)), (5, .int ((nvF (fun v => cbB (M 2 0) (M 5) (M 10) (M 11) (M 12) p (nI v) nn) (i + 1)).2.2)), (6, .int (nI (i + 1)))]) rfl (lc rfl (lc rfl (lc rfl (lc (vi eq37_3) (lc (vi eq37_4) (lc (vi eq37_5) (lc rfl rfl))))))) rfl ?_
          exact ih37 (i + 1) (by omega) (by omega)
        · -- not taken at 51
          refine g_iload_n F 3 (dk dtX7_nerves_0 30 rfl) rfl ?_
          refine g_if_neN F 63 (dk dtX7_nerves_0 31 rfl) (by decide) (by omega) (fun c55 => ?_) (fun c55 => ?_)
          · -- taken at 55
            refine g_iload F 4 (dk dtX7_nerves_0 34 rfl) rfl ?_
            refine g_istore F [(4, .int ((nvF (fun v => cbB (M 2 0) (M 5) (M 10) (M 11) (M 12) p (nI v) nn) i).2.1)), (0, .ref (B + 0)), (1, .int (nI p)), (2, .int (nI 0)), (3, .int (nI ((nvF (fun v => cbB (M 2 0) (M 5) (M 10) (M 11) (M 12) p (nI v) nn) i).1))), (5, .int ((nvF (fun v => cbB (M 2 0) (M 5) (M 10) (M 11) (M 12) p (nI v) nn) i).2.2)), (6, .int (nI i))] (dk dtX7_nerves_0 35 rfl) (by decide) rfl ?_
            refine g_iload F 6 (dk dtX7_nerves_0 36 rfl) rfl ?_
            refine g_istore F [(5, .int (nI i)), (4, .int ((nvF (fun v => cbB (M 2 0) (M 5) (M 10) (M 11) (M 12) p (nI v) nn) i).2.1)), (0, .ref (B + 0)), (1, .int (nI p)), (2, .int (nI 0)), (3, .int (nI ((nvF (fun v => cbB (M 2 0) (M 5) (M 10) (M 11) (M 12) p (nI v) nn) i).1))), (6, .int (nI i))] (dk dtX7_nerves_0 37 rfl) (by decide) rfl ?_
            refine g_iinc F 5 (nI ((nvF (fun v => cbB (M 2 0) (M 5) (M 10) (M 11) (M 12) p (nI v) nn) i).1 + 1)) [(3, .int (nI ((nvF (fun v => cbB (M 2 0) (M 5) (M 10) (M 11) (M 12) p (nI v) nn) i).1 + 1))), (5, .int (nI i)), (4, .int ((nvF (fun v => cbB (M 2 0) (M 5) (M 10) (M 11) (M 12) p (nI v) nn) i).2.1)), (0, .ref (B + 0)), (1, .int (nI p)), (2, .int (nI 0)), (6, .int (nI i))] (dk dtX7_nerves_0 38 rfl) rfl (nI_1 _) (by decide) rfl ?_
            refine g_iinc F 6 (nI (i + 1)) [(6, .int (nI (i + 1))), (3, .int (nI ((nvF (fun v => cbB (M 2 0) (M 5) (M 10) (M 11) (M 12) p (nI v) nn) i).1 + 1))), (5, .int (nI i)), (4, .int ((nvF (fun v => cbB (M 2 0) (M 5) (M 10) (M 11) (M 12) p (nI v) nn) i).2.1)), (0, .ref (B + 0)), (1, .int (nI p)), (2, .int (nI 0))] (dk dtX7_nerves_0 39 rfl) rfl (nI_1 _) (by decide) rfl ?_
            refine g_goto F 37 (dk dtX7_nerves_0 40 rfl) (by decide) ?_
            refine g_sub [4, 5, 6, 1, 3, 2, 0] (L1 := [(0, .ref (B + 0)), (1, .int (nI p)), (2, .int (nI 0)), (3, .int (nI ((nvF (fun v => cbB (M 2 0) (M 5) (M 10) (M 11) (M 12) p (nI v) nn) i).1 + 1))), (4, .int ((nvF (fun v => cbB (M 2 0) (M 5) (M 10) (M 11) (M 12) p (nI v) nn) i).2.1)), (5, .int (nI i)), (6, .int (nI (i + 1)))]) rfl ?_
            have eq37_3 : (nI ((nvF (fun v => cbB (M 2 0) (M 5) (M 10) (M 11) (M 12) p (nI v) nn) i).1 + 1) : Int32) = nI ((nvF (fun v => cbB (M 2 0) (M 5) (M 10) (M 11) (M 12) p (nI v) nn) (i + 1)).1) := by
              simp only [nvF]; rw [if_pos c51]
            have eq37_4 : ((nvF (fun v => cbB (M 2 0) (M 5) (M 10) (M 11) (M 12) p (nI v) nn) i).2.1 : Int32) = (nvF (fun v => cbB (M 2 0) (M 5) (M 10) (M 11) (M 12) p (nI v) nn) (i + 1)).2.1 := by
              simp only [nvF]; rw [if_pos c51]; dsimp only; rw [if_neg c55]
            have eq37_5 : (nI i : Int32) = (nvF (fun v => cbB (M 2 0) (M 5) (M 10) (M 11) (M 12) p (nI v) nn) (i + 1)).2.2 := by
              simp only [nvF]; rw [if_pos c51]
            refine g_st (M1 := M) (L1 := [(0, .ref (B + 0)), (1, .int (nI p)), (2, .int (nI 0)), (3, .int (nI ((nvF (fun v => cbB (M 2 0) (M 5) (M 10) (M 11) (M 12) p (nI v) nn) (i + 1)).1))), (4, .int ((nvF (fun v => cbB (M 2 0) (M 5) (M 10) (M 11) (M 12) p (nI v) nn) (i + 1)).2.1)), (5, .int ((nvF (fun v => cbB (M 2 0) (M 5) (M 10) (M 11) (M 12) p (nI v) nn) (i + 1)).2.2)), (6, .int (nI (i + 1)))]) rfl (lc rfl (lc rfl (lc rfl (lc (vi eq37_3) (lc (vi eq37_4) (lc (vi eq37_5) (lc rfl rfl))))))) rfl ?_
            exact ih37 (i + 1) (by omega) (by omega)
          · -- not taken at 55
            refine g_iload F 6 (dk dtX7_nerves_0 32 rfl) rfl ?_
            refine g_goto F 65 (dk dtX7_nerves_0 33 rfl) (by decide) ?_
            refine g_istore F [(4, .int (nI i)), (0, .ref (B + 0)), (1, .int (nI p)), (2, .int (nI 0)), (3, .int (nI ((nvF (fun v => cbB (M 2 0) (M 5) (M 10) (M 11) (M 12) p (nI v) nn) i).1))), (5, .int ((nvF (fun v => cbB (M 2 0) (M 5) (M 10) (M 11) (M 12) p (nI v) nn) i).2.2)), (6, .int (nI i))] (dk dtX7_nerves_0 35 rfl) (by decide) rfl ?_
            refine g_iload F 6 (dk dtX7_nerves_0 36 rfl) rfl ?_
            refine g_istore F [(5, .int (nI i)), (4, .int (nI i)), (0, .ref (B + 0)), (1, .int (nI p)), (2, .int (nI 0)), (3, .int (nI ((nvF (fun v => cbB (M 2 0) (M 5) (M 10) (M 11) (M 12) p (nI v) nn) i).1))), (6, .int (nI i))] (dk dtX7_nerves_0 37 rfl) (by decide) rfl ?_
            refine g_iinc F 5 (nI ((nvF (fun v => cbB (M 2 0) (M 5) (M 10) (M 11) (M 12) p (nI v) nn) i).1 + 1)) [(3, .int (nI ((nvF (fun v => cbB (M 2 0) (M 5) (M 10) (M 11) (M 12) p (nI v) nn) i).1 + 1))), (5, .int (nI i)), (4, .int (nI i)), (0, .ref (B + 0)), (1, .int (nI p)), (2, .int (nI 0)), (6, .int (nI i))] (dk dtX7_nerves_0 38 rfl) rfl (nI_1 _) (by decide) rfl ?_
            refine g_iinc F 6 (nI (i + 1)) [(6, .int (nI (i + 1))), (3, .int (nI ((nvF (fun v => cbB (M 2 0) (M 5) (M 10) (M 11) (M 12) p (nI v) nn) i).1 + 1))), (5, .int (nI i)), (4, .int (nI i)), (0, .ref (B + 0)), (1, .int (nI p)), (2, .int (nI 0))] (dk dtX7_nerves_0 39 rfl) rfl (nI_1 _) (by decide) rfl ?_
            refine g_goto F 37 (dk dtX7_nerves_0 40 rfl) (by decide) ?_
            refine g_sub [4, 5, 6, 1, 3, 2, 0] (L1 := [(0, .ref (B + 0)), (1, .int (nI p)), (2, .int (nI 0)), (3, .int (nI ((nvF (fun v => cbB (M 2 0) (M 5) (M 10) (M 11) (M 12) p (nI v) nn) i).1 + 1))), (4, .int (nI i)), (5, .int (nI i)), (6, .int (nI (i + 1)))]) rfl ?_
            have eq37_3 : (nI ((nvF (fun v => cbB (M 2 0) (M 5) (M 10) (M 11) (M 12) p (nI v) nn) i).1 + 1) : Int32) = nI ((nvF (fun v => cbB (M 2 0) (M 5) (M 10) (M 11) (M 12) p (nI v) nn) (i + 1)).1) := by
              simp only [nvF]; rw [if_pos c51]
            have eq37_4 : (nI i : Int32) = (nvF (fun v => cbB (M 2 0) (M 5) (M 10) (M 11) (M 12) p (nI v) nn) (i + 1)).2.1 := by
              simp only [nvF]; rw [if_pos c51]; dsimp only; rw [if_pos c55]
            have eq37_5 : (nI i : Int32) = (nvF (fun v => cbB (M 2 0) (M 5) (M 10) (M 11) (M 12) p (nI v) nn) (i + 1)).2.2 := by
              simp only [nvF]; rw [if_pos c51]
            refine g_st (M1 := M) (L1 := [(0, .ref (B + 0)), (1, .int (nI p)), (2, .int (nI 0)), (3, .int (nI ((nvF (fun v => cbB (M 2 0) (M 5) (M 10) (M 11) (M 12) p (nI v) nn) (i + 1)).1))), (4, .int ((nvF (fun v => cbB (M 2 0) (M 5) (M 10) (M 11) (M 12) p (nI v) nn) (i + 1)).2.1)), (5, .int ((nvF (fun v => cbB (M 2 0) (M 5) (M 10) (M 11) (M 12) p (nI v) nn) (i + 1)).2.2)), (6, .int (nI (i + 1)))]) rfl (lc rfl (lc rfl (lc rfl (lc (vi eq37_3) (lc (vi eq37_4) (lc (vi eq37_5) (lc rfl rfl))))))) rfl ?_
            exact ih37 (i + 1) (by omega) (by omega)
  refine g_sub [4, 5, 6, 3, 2, 1, 0] (L1 := [(0, .ref (B + 0)), (1, .int (nI p)), (2, .int (nI 0)), (3, .int (nI 0)), (4, .int (-9)), (5, .int (-9)), (6, .int (nI 0))]) rfl ?_
  exact lp37 101 0 (by omega) (by omega)
set_option maxRecDepth 100000 in
set_option maxHeartbeats 4000000 in
theorem k_X7_nerves_1 (l : Launch) (D : DX) (B : Nat) (T : Int64) (M : Mem) (h0 : M 0 0 = nI 0) (P : Nat) (hP : M 2 2 = nI P) (hP5 : P ≤ 5) (K : Nat) (hK : M 2 0 = nI K) (hK1 : 1 ≤ K) (hK4 : K ≤ 4) (nn : Nat) (hnn : M 0 22 = nI nn) (hnn6 : nn ≤ 6) (hN : ∀ i, i < nn → ∃ k : Nat, k < 4 ∧ M 11 i = nI k) (hW : WR (M 5)) (p : Nat) (hp : p < P)  : Ci l D B 14 (celM D B) yX7_nerves cX7_nerves 7 (some .int) 3 [.ref (B + 0), .int (nI p), .int (nI 1)] T M (fun rz T1 M1 => rz = ((nvF (fun v => cbB (M 2 0) (M 5) (M 10) (M 11) (M 12) p (nI v) nn) 100).2.1) ∧ T1 = T ∧ M1 = M) := by
  refine g_entryi (L := [(0, .ref (B + 0)), (1, .int (nI p)), (2, .int (nI 1))]) (by decide) (Nat.le_of_ble_eq_true rfl) rfl ?_
  intro zp ze zs zm zb zt zc Q F hQ
  refine g_aload_n F 0 (dk dtX7_nerves_0 0 rfl) rfl ?_
  refine g_iconst F (nI 0) (dk dtX7_nerves_0 1 rfl) (by decide) ?_
  refine g_put F fa_X7_56 (dk dtX7_nerves_0 2 rfl) (by decide) (cm0 D B _ _) (Nat.le_of_ble_eq_true rfl) rfl rfl ((cm0 D B _ _).trans st_Mod_0) ?_
  refine g_mem (up2_same h0) ?_
  refine g_aload_n F 0 (dk dtX7_nerves_0 3 rfl) rfl ?_
  refine g_iload_n F 1 (dk dtX7_nerves_0 4 rfl) rfl ?_
  refine g_callVi F (As := [.int (nI p)]) (st := []) cv_X7_129 (dk dtX7_nerves_0 5 rfl) (by decide) (cm0 D B _ _) rfl rfl (Nat.le_of_ble_eq_true rfl) ⟨by decide, by decide⟩ (k_X7_isOne l D B _ _ _ P hP (by omega)) (fun r7 T7 M7 hp7 => ?_)
  obtain ⟨e1, e2, e3⟩ := hp7
  replace e1 := e1.symm; replace e2 := e2.symm; replace e3 := e3.symm; subst e1; subst e2; subst e3
  refine g_if_eqB F 22 (dk dtX7_nerves_0 6 rfl) (by decide) (fun c => absurd (inR_nI (by omega)) c) (fun _ => ?_)
  refine g_iload_n F 2 (dk dtX7_nerves_0 7 rfl) rfl ?_
  refine g_iconst F (nI 0) (dk dtX7_nerves_0 8 rfl) (by decide) ?_
  refine g_iconst F (nI 2) (dk dtX7_nerves_0 9 rfl) (by decide) ?_
  refine g_callSi F (As := [.int (nI 1), .int (nI 0), .int (nI 2)]) (st := []) cs_X7_60 (dk dtX7_nerves_0 10 rfl) rfl rfl (Nat.le_of_ble_eq_true rfl) ⟨by decide, by decide⟩ (k_X7_inR l D B _ _ _ 2 (by decide)) (fun r16 T16 M16 hp16 => ?_)
  obtain ⟨e1, e2, e3⟩ := hp16
  replace e1 := e1.symm; replace e2 := e2.symm; replace e3 := e3.symm; subst e1; subst e2; subst e3
  refine g_if_neB F 24 (dk dtX7_nerves_0 11 rfl) (by decide) (fun _ => ?_) (fun c => absurd (inR_nI (by omega)) c)
  refine g_iconst F (nI 0) (dk dtX7_nerves_0 14 rfl) (by decide) ?_
  refine g_istore_n F [(3, .int (nI 0)), (0, .ref (B + 0)), (1, .int (nI p)), (2, .int (nI 1))] (dk dtX7_nerves_0 15 rfl) (by decide) rfl ?_
  refine g_bipush F (-9) (dk dtX7_nerves_0 16 rfl) (by decide) ?_
  refine g_istore F [(4, .int (-9)), (3, .int (nI 0)), (0, .ref (B + 0)), (1, .int (nI p)), (2, .int (nI 1))] (dk dtX7_nerves_0 17 rfl) (by decide) rfl ?_
  refine g_bipush F (-9) (dk dtX7_nerves_0 18 rfl) (by decide) ?_
  refine g_istore F [(5, .int (-9)), (4, .int (-9)), (3, .int (nI 0)), (0, .ref (B + 0)), (1, .int (nI p)), (2, .int (nI 1))] (dk dtX7_nerves_0 19 rfl) (by decide) rfl ?_
  refine g_iconst F (nI 0) (dk dtX7_nerves_0 20 rfl) (by decide) ?_
  refine g_istore F [(6, .int (nI 0)), (5, .int (-9)), (4, .int (-9)), (3, .int (nI 0)), (0, .ref (B + 0)), (1, .int (nI p)), (2, .int (nI 1))] (dk dtX7_nerves_0 21 rfl) (by decide) rfl ?_
  have lp37 : ∀ (fz : Nat) (i : Nat), i ≤ 100 → (100 - i) < fz → G zp l ze { frames := 3, cells := 0, slots := 0, locals := 40 * 3 } zs zm [.ref (B + 0), .int (nI p), .int (nI 1)].toArray zb zt zc 7 D B 14 (celM D B) Q T M 37 [(0, .ref (B + 0)), (1, .int (nI p)), (2, .int (nI 1)), (3, .int (nI ((nvF (fun v => cbB (M 2 0) (M 5) (M 10) (M 11) (M 12) p (nI v) nn) i).1))), (4, .int ((nvF (fun v => cbB (M 2 0) (M 5) (M 10) (M 11) (M 12) p (nI v) nn) i).2.1)), (5, .int ((nvF (fun v => cbB (M 2 0) (M 5) (M 10) (M 11) (M 12) p (nI v) nn) i).2.2)), (6, .int (nI i))] [] := by
    intro n37
    induction n37 with
    | zero => intro i hI hn; exact absurd hn (Nat.not_lt_zero _)
    | succ n37 ih37 =>
      intro i hI37 hn37
      have hle := nvF_le (fun v => cbB (M 2 0) (M 5) (M 10) (M 11) (M 12) p (nI v) nn) i
      refine g_iload F 6 (dk dtX7_nerves_0 22 rfl) rfl ?_
      refine g_bipush F (nI 100) (dk dtX7_nerves_0 23 rfl) (by decide) ?_
      refine g_icmp_geN F 80 (dk dtX7_nerves_0 24 rfl) (by decide) (by omega) (by omega) (fun c41 => ?_) (fun c41 => ?_)
      · -- taken at 41
        obtain rfl : 100 = i := by omega
        refine g_iload_n F 2 (dk dtX7_nerves_0 41 rfl) rfl ?_
        refine g_if_neN F 88 (dk dtX7_nerves_0 42 rfl) (by decide) (by decide) (fun _ => ?_) (fun c => absurd c (by decide))
        refine g_iload_n F 2 (dk dtX7_nerves_0 45 rfl) rfl ?_
        refine g_iconst F (nI 1) (dk dtX7_nerves_0 46 rfl) (by decide) ?_
        refine g_icmp_neN F 98 (dk dtX7_nerves_0 47 rfl) (by decide) (by decide) (by decide) (fun c => absurd c (by decide)) (fun _ => ?_)
        refine g_iload F 4 (dk dtX7_nerves_0 48 rfl) rfl ?_
        refine g_goto F 100 (dk dtX7_nerves_0 49 rfl) (by decide) ?_
        refine g_iret (F := F) hQ (dk dtX7_nerves_0 51 rfl) ?_
        exact ⟨rfl, rfl, rfl⟩
      · -- not taken at 41
        refine g_aload_n F 0 (dk dtX7_nerves_0 25 rfl) rfl ?_
        refine g_iload_n F 1 (dk dtX7_nerves_0 26 rfl) rfl ?_
        refine g_iload F 6 (dk dtX7_nerves_0 27 rfl) rfl ?_
        refine g_callVi F (As := [.int (nI p), .int (nI i)]) (st := []) cv_X7_179 (dk dtX7_nerves_0 28 rfl) (by decide) (cm0 D B _ _) rfl rfl (Nat.le_of_ble_eq_true rfl) ⟨by decide, by decide⟩ (k_X7_canBe l D B _ _ K hK hK1 hK4 nn hnn hnn6 hN hW p i (by omega) (by omega)) (fun r48 T48 M48 hp48 => ?_)
        obtain ⟨e1, e2, e3⟩ := hp48
        replace e1 := e1.symm; replace e2 := e2.symm; replace e3 := e3.symm; subst e1; subst e2; subst e3
        refine g_if_eqB F 74 (dk dtX7_nerves_0 29 rfl) (by decide) (fun c51 => ?_) (fun c51 => ?_)
        · -- taken at 51
          refine g_iinc F 6 (nI (i + 1)) [(6, .int (nI (i + 1))), (0, .ref (B + 0)), (1, .int (nI p)), (2, .int (nI 1)), (3, .int (nI ((nvF (fun v => cbB (M 2 0) (M 5) (M 10) (M 11) (M 12) p (nI v) nn) i).1))), (4, .int ((nvF (fun v => cbB (M 2 0) (M 5) (M 10) (M 11) (M 12) p (nI v) nn) i).2.1)), (5, .int ((nvF (fun v => cbB (M 2 0) (M 5) (M 10) (M 11) (M 12) p (nI v) nn) i).2.2))] (dk dtX7_nerves_0 39 rfl) rfl (nI_1 _) (by decide) rfl ?_
          refine g_goto F 37 (dk dtX7_nerves_0 40 rfl) (by decide) ?_
          refine g_sub [1, 2, 3, 4, 5, 6, 0] (L1 := [(0, .ref (B + 0)), (1, .int (nI p)), (2, .int (nI 1)), (3, .int (nI ((nvF (fun v => cbB (M 2 0) (M 5) (M 10) (M 11) (M 12) p (nI v) nn) i).1))), (4, .int ((nvF (fun v => cbB (M 2 0) (M 5) (M 10) (M 11) (M 12) p (nI v) nn) i).2.1)), (5, .int ((nvF (fun v => cbB (M 2 0) (M 5) (M 10) (M 11) (M 12) p (nI v) nn) i).2.2)), (6, .int (nI (i + 1)))]) rfl ?_
          have eq37_3 : (nI ((nvF (fun v => cbB (M 2 0) (M 5) (M 10) (M 11) (M 12) p (nI v) nn) i).1) : Int32) = nI ((nvF (fun v => cbB (M 2 0) (M 5) (M 10) (M 11) (M 12) p (nI v) nn) (i + 1)).1) := by
            simp only [nvF]; rw [if_neg c51]
          have eq37_4 : ((nvF (fun v => cbB (M 2 0) (M 5) (M 10) (M 11) (M 12) p (nI v) nn) i).2.1 : Int32) = (nvF (fun v => cbB (M 2 0) (M 5) (M 10) (M 11) (M 12) p (nI v) nn) (i + 1)).2.1 := by
            simp only [nvF]; rw [if_neg c51]
          have eq37_5 : ((nvF (fun v => cbB (M 2 0) (M 5) (M 10) (M 11) (M 12) p (nI v) nn) i).2.2 : Int32) = (nvF (fun v => cbB (M 2 0) (M 5) (M 10) (M 11) (M 12) p (nI v) nn) (i + 1)).2.2 := by
            simp only [nvF]; rw [if_neg c51]
          refine g_st (M1 := M) (L1 := [(0, .ref (B + 0)), (1, .int (nI p)), (2, .int (nI 1)), (3, .int (nI ((nvF (fun v => cbB (M 2 0) (M 5) (M 10) (M 11) (M 12) p (nI v) nn) (i + 1)).1))), (4, .int ((nvF (fun v => cbB (M 2 0) (M 5) (M 10) (M 11) (M 12) p (nI v) nn) (i + 1)).2.1)), (5, .int ((nvF (fun v => cbB (M 2 0) (M 5) (M 10) (M 11) (M 12) p (nI v) nn) (i + 1)).2.2)), (6, .int (nI (i + 1)))]) rfl (lc rfl (lc rfl (lc rfl (lc (vi eq37_3) (lc (vi eq37_4) (lc (vi eq37_5) (lc rfl rfl))))))) rfl ?_
          exact ih37 (i + 1) (by omega) (by omega)
        · -- not taken at 51
          refine g_iload_n F 3 (dk dtX7_nerves_0 30 rfl) rfl ?_
          refine g_if_neN F 63 (dk dtX7_nerves_0 31 rfl) (by decide) (by omega) (fun c55 => ?_) (fun c55 => ?_)
          · -- taken at 55
            refine g_iload F 4 (dk dtX7_nerves_0 34 rfl) rfl ?_
            refine g_istore F [(4, .int ((nvF (fun v => cbB (M 2 0) (M 5) (M 10) (M 11) (M 12) p (nI v) nn) i).2.1)), (0, .ref (B + 0)), (1, .int (nI p)), (2, .int (nI 1)), (3, .int (nI ((nvF (fun v => cbB (M 2 0) (M 5) (M 10) (M 11) (M 12) p (nI v) nn) i).1))), (5, .int ((nvF (fun v => cbB (M 2 0) (M 5) (M 10) (M 11) (M 12) p (nI v) nn) i).2.2)), (6, .int (nI i))] (dk dtX7_nerves_0 35 rfl) (by decide) rfl ?_
            refine g_iload F 6 (dk dtX7_nerves_0 36 rfl) rfl ?_
            refine g_istore F [(5, .int (nI i)), (4, .int ((nvF (fun v => cbB (M 2 0) (M 5) (M 10) (M 11) (M 12) p (nI v) nn) i).2.1)), (0, .ref (B + 0)), (1, .int (nI p)), (2, .int (nI 1)), (3, .int (nI ((nvF (fun v => cbB (M 2 0) (M 5) (M 10) (M 11) (M 12) p (nI v) nn) i).1))), (6, .int (nI i))] (dk dtX7_nerves_0 37 rfl) (by decide) rfl ?_
            refine g_iinc F 5 (nI ((nvF (fun v => cbB (M 2 0) (M 5) (M 10) (M 11) (M 12) p (nI v) nn) i).1 + 1)) [(3, .int (nI ((nvF (fun v => cbB (M 2 0) (M 5) (M 10) (M 11) (M 12) p (nI v) nn) i).1 + 1))), (5, .int (nI i)), (4, .int ((nvF (fun v => cbB (M 2 0) (M 5) (M 10) (M 11) (M 12) p (nI v) nn) i).2.1)), (0, .ref (B + 0)), (1, .int (nI p)), (2, .int (nI 1)), (6, .int (nI i))] (dk dtX7_nerves_0 38 rfl) rfl (nI_1 _) (by decide) rfl ?_
            refine g_iinc F 6 (nI (i + 1)) [(6, .int (nI (i + 1))), (3, .int (nI ((nvF (fun v => cbB (M 2 0) (M 5) (M 10) (M 11) (M 12) p (nI v) nn) i).1 + 1))), (5, .int (nI i)), (4, .int ((nvF (fun v => cbB (M 2 0) (M 5) (M 10) (M 11) (M 12) p (nI v) nn) i).2.1)), (0, .ref (B + 0)), (1, .int (nI p)), (2, .int (nI 1))] (dk dtX7_nerves_0 39 rfl) rfl (nI_1 _) (by decide) rfl ?_
            refine g_goto F 37 (dk dtX7_nerves_0 40 rfl) (by decide) ?_
            refine g_sub [4, 5, 6, 1, 3, 2, 0] (L1 := [(0, .ref (B + 0)), (1, .int (nI p)), (2, .int (nI 1)), (3, .int (nI ((nvF (fun v => cbB (M 2 0) (M 5) (M 10) (M 11) (M 12) p (nI v) nn) i).1 + 1))), (4, .int ((nvF (fun v => cbB (M 2 0) (M 5) (M 10) (M 11) (M 12) p (nI v) nn) i).2.1)), (5, .int (nI i)), (6, .int (nI (i + 1)))]) rfl ?_
            have eq37_3 : (nI ((nvF (fun v => cbB (M 2 0) (M 5) (M 10) (M 11) (M 12) p (nI v) nn) i).1 + 1) : Int32) = nI ((nvF (fun v => cbB (M 2 0) (M 5) (M 10) (M 11) (M 12) p (nI v) nn) (i + 1)).1) := by
              simp only [nvF]; rw [if_pos c51]
            have eq37_4 : ((nvF (fun v => cbB (M 2 0) (M 5) (M 10) (M 11) (M 12) p (nI v) nn) i).2.1 : Int32) = (nvF (fun v => cbB (M 2 0) (M 5) (M 10) (M 11) (M 12) p (nI v) nn) (i + 1)).2.1 := by
              simp only [nvF]; rw [if_pos c51]; dsimp only; rw [if_neg c55]
            have eq37_5 : (nI i : Int32) = (nvF (fun v => cbB (M 2 0) (M 5) (M 10) (M 11) (M 12) p (nI v) nn) (i + 1)).2.2 := by
              simp only [nvF]; rw [if_pos c51]
            refine g_st (M1 := M) (L1 := [(0, .ref (B + 0)), (1, .int (nI p)), (2, .int (nI 1)), (3, .int (nI ((nvF (fun v => cbB (M 2 0) (M 5) (M 10) (M 11) (M 12) p (nI v) nn) (i + 1)).1))), (4, .int ((nvF (fun v => cbB (M 2 0) (M 5) (M 10) (M 11) (M 12) p (nI v) nn) (i + 1)).2.1)), (5, .int ((nvF (fun v => cbB (M 2 0) (M 5) (M 10) (M 11) (M 12) p (nI v) nn) (i + 1)).2.2)), (6, .int (nI (i + 1)))]) rfl (lc rfl (lc rfl (lc rfl (lc (vi eq37_3) (lc (vi eq37_4) (lc (vi eq37_5) (lc rfl rfl))))))) rfl ?_
            exact ih37 (i + 1) (by omega) (by omega)
          · -- not taken at 55
            refine g_iload F 6 (dk dtX7_nerves_0 32 rfl) rfl ?_
            refine g_goto F 65 (dk dtX7_nerves_0 33 rfl) (by decide) ?_
            refine g_istore F [(4, .int (nI i)), (0, .ref (B + 0)), (1, .int (nI p)), (2, .int (nI 1)), (3, .int (nI ((nvF (fun v => cbB (M 2 0) (M 5) (M 10) (M 11) (M 12) p (nI v) nn) i).1))), (5, .int ((nvF (fun v => cbB (M 2 0) (M 5) (M 10) (M 11) (M 12) p (nI v) nn) i).2.2)), (6, .int (nI i))] (dk dtX7_nerves_0 35 rfl) (by decide) rfl ?_
            refine g_iload F 6 (dk dtX7_nerves_0 36 rfl) rfl ?_
            refine g_istore F [(5, .int (nI i)), (4, .int (nI i)), (0, .ref (B + 0)), (1, .int (nI p)), (2, .int (nI 1)), (3, .int (nI ((nvF (fun v => cbB (M 2 0) (M 5) (M 10) (M 11) (M 12) p (nI v) nn) i).1))), (6, .int (nI i))] (dk dtX7_nerves_0 37 rfl) (by decide) rfl ?_
            refine g_iinc F 5 (nI ((nvF (fun v => cbB (M 2 0) (M 5) (M 10) (M 11) (M 12) p (nI v) nn) i).1 + 1)) [(3, .int (nI ((nvF (fun v => cbB (M 2 0) (M 5) (M 10) (M 11) (M 12) p (nI v) nn) i).1 + 1))), (5, .int (nI i)), (4, .int (nI i)), (0, .ref (B + 0)), (1, .int (nI p)), (2, .int (nI 1)), (6, .int (nI i))] (dk dtX7_nerves_0 38 rfl) rfl (nI_1 _) (by decide) rfl ?_
            refine g_iinc F 6 (nI (i + 1)) [(6, .int (nI (i + 1))), (3, .int (nI ((nvF (fun v => cbB (M 2 0) (M 5) (M 10) (M 11) (M 12) p (nI v) nn) i).1 + 1))), (5, .int (nI i)), (4, .int (nI i)), (0, .ref (B + 0)), (1, .int (nI p)), (2, .int (nI 1))] (dk dtX7_nerves_0 39 rfl) rfl (nI_1 _) (by decide) rfl ?_
            refine g_goto F 37 (dk dtX7_nerves_0 40 rfl) (by decide) ?_
            refine g_sub [4, 5, 6, 1, 3, 2, 0] (L1 := [(0, .ref (B + 0)), (1, .int (nI p)), (2, .int (nI 1)), (3, .int (nI ((nvF (fun v => cbB (M 2 0) (M 5) (M 10) (M 11) (M 12) p (nI v) nn) i).1 + 1))), (4, .int (nI i)), (5, .int (nI i)), (6, .int (nI (i + 1)))]) rfl ?_
            have eq37_3 : (nI ((nvF (fun v => cbB (M 2 0) (M 5) (M 10) (M 11) (M 12) p (nI v) nn) i).1 + 1) : Int32) = nI ((nvF (fun v => cbB (M 2 0) (M 5) (M 10) (M 11) (M 12) p (nI v) nn) (i + 1)).1) := by
              simp only [nvF]; rw [if_pos c51]
            have eq37_4 : (nI i : Int32) = (nvF (fun v => cbB (M 2 0) (M 5) (M 10) (M 11) (M 12) p (nI v) nn) (i + 1)).2.1 := by
              simp only [nvF]; rw [if_pos c51]; dsimp only; rw [if_pos c55]
            have eq37_5 : (nI i : Int32) = (nvF (fun v => cbB (M 2 0) (M 5) (M 10) (M 11) (M 12) p (nI v) nn) (i + 1)).2.2 := by
              simp only [nvF]; rw [if_pos c51]
            refine g_st (M1 := M) (L1 := [(0, .ref (B + 0)), (1, .int (nI p)), (2, .int (nI 1)), (3, .int (nI ((nvF (fun v => cbB (M 2 0) (M 5) (M 10) (M 11) (M 12) p (nI v) nn) (i + 1)).1))), (4, .int ((nvF (fun v => cbB (M 2 0) (M 5) (M 10) (M 11) (M 12) p (nI v) nn) (i + 1)).2.1)), (5, .int ((nvF (fun v => cbB (M 2 0) (M 5) (M 10) (M 11) (M 12) p (nI v) nn) (i + 1)).2.2)), (6, .int (nI (i + 1)))]) rfl (lc rfl (lc rfl (lc rfl (lc (vi eq37_3) (lc (vi eq37_4) (lc (vi eq37_5) (lc rfl rfl))))))) rfl ?_
            exact ih37 (i + 1) (by omega) (by omega)
  refine g_sub [4, 5, 6, 3, 2, 1, 0] (L1 := [(0, .ref (B + 0)), (1, .int (nI p)), (2, .int (nI 1)), (3, .int (nI 0)), (4, .int (-9)), (5, .int (-9)), (6, .int (nI 0))]) rfl ?_
  exact lp37 101 0 (by omega) (by omega)
set_option maxRecDepth 100000 in
set_option maxHeartbeats 4000000 in
theorem k_X7_nerves_2 (l : Launch) (D : DX) (B : Nat) (T : Int64) (M : Mem) (h0 : M 0 0 = nI 0) (P : Nat) (hP : M 2 2 = nI P) (hP5 : P ≤ 5) (K : Nat) (hK : M 2 0 = nI K) (hK1 : 1 ≤ K) (hK4 : K ≤ 4) (nn : Nat) (hnn : M 0 22 = nI nn) (hnn6 : nn ≤ 6) (hN : ∀ i, i < nn → ∃ k : Nat, k < 4 ∧ M 11 i = nI k) (hW : WR (M 5)) (p : Nat) (hp : p < P)  : Ci l D B 14 (celM D B) yX7_nerves cX7_nerves 7 (some .int) 3 [.ref (B + 0), .int (nI p), .int (nI 2)] T M (fun rz T1 M1 => rz = ((nvF (fun v => cbB (M 2 0) (M 5) (M 10) (M 11) (M 12) p (nI v) nn) 100).2.2) ∧ T1 = T ∧ M1 = M) := by
  refine g_entryi (L := [(0, .ref (B + 0)), (1, .int (nI p)), (2, .int (nI 2))]) (by decide) (Nat.le_of_ble_eq_true rfl) rfl ?_
  intro zp ze zs zm zb zt zc Q F hQ
  refine g_aload_n F 0 (dk dtX7_nerves_0 0 rfl) rfl ?_
  refine g_iconst F (nI 0) (dk dtX7_nerves_0 1 rfl) (by decide) ?_
  refine g_put F fa_X7_56 (dk dtX7_nerves_0 2 rfl) (by decide) (cm0 D B _ _) (Nat.le_of_ble_eq_true rfl) rfl rfl ((cm0 D B _ _).trans st_Mod_0) ?_
  refine g_mem (up2_same h0) ?_
  refine g_aload_n F 0 (dk dtX7_nerves_0 3 rfl) rfl ?_
  refine g_iload_n F 1 (dk dtX7_nerves_0 4 rfl) rfl ?_
  refine g_callVi F (As := [.int (nI p)]) (st := []) cv_X7_129 (dk dtX7_nerves_0 5 rfl) (by decide) (cm0 D B _ _) rfl rfl (Nat.le_of_ble_eq_true rfl) ⟨by decide, by decide⟩ (k_X7_isOne l D B _ _ _ P hP (by omega)) (fun r7 T7 M7 hp7 => ?_)
  obtain ⟨e1, e2, e3⟩ := hp7
  replace e1 := e1.symm; replace e2 := e2.symm; replace e3 := e3.symm; subst e1; subst e2; subst e3
  refine g_if_eqB F 22 (dk dtX7_nerves_0 6 rfl) (by decide) (fun c => absurd (inR_nI (by omega)) c) (fun _ => ?_)
  refine g_iload_n F 2 (dk dtX7_nerves_0 7 rfl) rfl ?_
  refine g_iconst F (nI 0) (dk dtX7_nerves_0 8 rfl) (by decide) ?_
  refine g_iconst F (nI 2) (dk dtX7_nerves_0 9 rfl) (by decide) ?_
  refine g_callSi F (As := [.int (nI 2), .int (nI 0), .int (nI 2)]) (st := []) cs_X7_60 (dk dtX7_nerves_0 10 rfl) rfl rfl (Nat.le_of_ble_eq_true rfl) ⟨by decide, by decide⟩ (k_X7_inR l D B _ _ _ 2 (by decide)) (fun r16 T16 M16 hp16 => ?_)
  obtain ⟨e1, e2, e3⟩ := hp16
  replace e1 := e1.symm; replace e2 := e2.symm; replace e3 := e3.symm; subst e1; subst e2; subst e3
  refine g_if_neB F 24 (dk dtX7_nerves_0 11 rfl) (by decide) (fun _ => ?_) (fun c => absurd (inR_nI (by omega)) c)
  refine g_iconst F (nI 0) (dk dtX7_nerves_0 14 rfl) (by decide) ?_
  refine g_istore_n F [(3, .int (nI 0)), (0, .ref (B + 0)), (1, .int (nI p)), (2, .int (nI 2))] (dk dtX7_nerves_0 15 rfl) (by decide) rfl ?_
  refine g_bipush F (-9) (dk dtX7_nerves_0 16 rfl) (by decide) ?_
  refine g_istore F [(4, .int (-9)), (3, .int (nI 0)), (0, .ref (B + 0)), (1, .int (nI p)), (2, .int (nI 2))] (dk dtX7_nerves_0 17 rfl) (by decide) rfl ?_
  refine g_bipush F (-9) (dk dtX7_nerves_0 18 rfl) (by decide) ?_
  refine g_istore F [(5, .int (-9)), (4, .int (-9)), (3, .int (nI 0)), (0, .ref (B + 0)), (1, .int (nI p)), (2, .int (nI 2))] (dk dtX7_nerves_0 19 rfl) (by decide) rfl ?_
  refine g_iconst F (nI 0) (dk dtX7_nerves_0 20 rfl) (by decide) ?_
  refine g_istore F [(6, .int (nI 0)), (5, .int (-9)), (4, .int (-9)), (3, .int (nI 0)), (0, .ref (B + 0)), (1, .int (nI p)), (2, .int (nI 2))] (dk dtX7_nerves_0 21 rfl) (by decide) rfl ?_
  have lp37 : ∀ (fz : Nat) (i : Nat), i ≤ 100 → (100 - i) < fz → G zp l ze { frames := 3, cells := 0, slots := 0, locals := 40 * 3 } zs zm [.ref (B + 0), .int (nI p), .int (nI 2)].toArray zb zt zc 7 D B 14 (celM D B) Q T M 37 [(0, .ref (B + 0)), (1, .int (nI p)), (2, .int (nI 2)), (3, .int (nI ((nvF (fun v => cbB (M 2 0) (M 5) (M 10) (M 11) (M 12) p (nI v) nn) i).1))), (4, .int ((nvF (fun v => cbB (M 2 0) (M 5) (M 10) (M 11) (M 12) p (nI v) nn) i).2.1)), (5, .int ((nvF (fun v => cbB (M 2 0) (M 5) (M 10) (M 11) (M 12) p (nI v) nn) i).2.2)), (6, .int (nI i))] [] := by
    intro n37
    induction n37 with
    | zero => intro i hI hn; exact absurd hn (Nat.not_lt_zero _)
    | succ n37 ih37 =>
      intro i hI37 hn37
      have hle := nvF_le (fun v => cbB (M 2 0) (M 5) (M 10) (M 11) (M 12) p (nI v) nn) i
      refine g_iload F 6 (dk dtX7_nerves_0 22 rfl) rfl ?_
      refine g_bipush F (nI 100) (dk dtX7_nerves_0 23 rfl) (by decide) ?_
      refine g_icmp_geN F 80 (dk dtX7_nerves_0 24 rfl) (by decide) (by omega) (by omega) (fun c41 => ?_) (fun c41 => ?_)
      · -- taken at 41
        obtain rfl : 100 = i := by omega
        refine g_iload_n F 2 (dk dtX7_nerves_0 41 rfl) rfl ?_
        refine g_if_neN F 88 (dk dtX7_nerves_0 42 rfl) (by decide) (by decide) (fun _ => ?_) (fun c => absurd c (by decide))
        refine g_iload_n F 2 (dk dtX7_nerves_0 45 rfl) rfl ?_
        refine g_iconst F (nI 1) (dk dtX7_nerves_0 46 rfl) (by decide) ?_
        refine g_icmp_neN F 98 (dk dtX7_nerves_0 47 rfl) (by decide) (by decide) (by decide) (fun _ => ?_) (fun c => absurd c (by decide))
        refine g_iload F 5 (dk dtX7_nerves_0 50 rfl) rfl ?_
        refine g_iret (F := F) hQ (dk dtX7_nerves_0 51 rfl) ?_
        exact ⟨rfl, rfl, rfl⟩
      · -- not taken at 41
        refine g_aload_n F 0 (dk dtX7_nerves_0 25 rfl) rfl ?_
        refine g_iload_n F 1 (dk dtX7_nerves_0 26 rfl) rfl ?_
        refine g_iload F 6 (dk dtX7_nerves_0 27 rfl) rfl ?_
        refine g_callVi F (As := [.int (nI p), .int (nI i)]) (st := []) cv_X7_179 (dk dtX7_nerves_0 28 rfl) (by decide) (cm0 D B _ _) rfl rfl (Nat.le_of_ble_eq_true rfl) ⟨by decide, by decide⟩ (k_X7_canBe l D B _ _ K hK hK1 hK4 nn hnn hnn6 hN hW p i (by omega) (by omega)) (fun r48 T48 M48 hp48 => ?_)
        obtain ⟨e1, e2, e3⟩ := hp48
        replace e1 := e1.symm; replace e2 := e2.symm; replace e3 := e3.symm; subst e1; subst e2; subst e3
        refine g_if_eqB F 74 (dk dtX7_nerves_0 29 rfl) (by decide) (fun c51 => ?_) (fun c51 => ?_)
        · -- taken at 51
          refine g_iinc F 6 (nI (i + 1)) [(6, .int (nI (i + 1))), (0, .ref (B + 0)), (1, .int (nI p)), (2, .int (nI 2)), (3, .int (nI ((nvF (fun v => cbB (M 2 0) (M 5) (M 10) (M 11) (M 12) p (nI v) nn) i).1))), (4, .int ((nvF (fun v => cbB (M 2 0) (M 5) (M 10) (M 11) (M 12) p (nI v) nn) i).2.1)), (5, .int ((nvF (fun v => cbB (M 2 0) (M 5) (M 10) (M 11) (M 12) p (nI v) nn) i).2.2))] (dk dtX7_nerves_0 39 rfl) rfl (nI_1 _) (by decide) rfl ?_
          refine g_goto F 37 (dk dtX7_nerves_0 40 rfl) (by decide) ?_
          refine g_sub [1, 2, 3, 4, 5, 6, 0] (L1 := [(0, .ref (B + 0)), (1, .int (nI p)), (2, .int (nI 2)), (3, .int (nI ((nvF (fun v => cbB (M 2 0) (M 5) (M 10) (M 11) (M 12) p (nI v) nn) i).1))), (4, .int ((nvF (fun v => cbB (M 2 0) (M 5) (M 10) (M 11) (M 12) p (nI v) nn) i).2.1)), (5, .int ((nvF (fun v => cbB (M 2 0) (M 5) (M 10) (M 11) (M 12) p (nI v) nn) i).2.2)), (6, .int (nI (i + 1)))]) rfl ?_
          have eq37_3 : (nI ((nvF (fun v => cbB (M 2 0) (M 5) (M 10) (M 11) (M 12) p (nI v) nn) i).1) : Int32) = nI ((nvF (fun v => cbB (M 2 0) (M 5) (M 10) (M 11) (M 12) p (nI v) nn) (i + 1)).1) := by
            simp only [nvF]; rw [if_neg c51]
          have eq37_4 : ((nvF (fun v => cbB (M 2 0) (M 5) (M 10) (M 11) (M 12) p (nI v) nn) i).2.1 : Int32) = (nvF (fun v => cbB (M 2 0) (M 5) (M 10) (M 11) (M 12) p (nI v) nn) (i + 1)).2.1 := by
            simp only [nvF]; rw [if_neg c51]
          have eq37_5 : ((nvF (fun v => cbB (M 2 0) (M 5) (M 10) (M 11) (M 12) p (nI v) nn) i).2.2 : Int32) = (nvF (fun v => cbB (M 2 0) (M 5) (M 10) (M 11) (M 12) p (nI v) nn) (i + 1)).2.2 := by
            simp only [nvF]; rw [if_neg c51]
          refine g_st (M1 := M) (L1 := [(0, .ref (B + 0)), (1, .int (nI p)), (2, .int (nI 2)), (3, .int (nI ((nvF (fun v => cbB (M 2 0) (M 5) (M 10) (M 11) (M 12) p (nI v) nn) (i + 1)).1))), (4, .int ((nvF (fun v => cbB (M 2 0) (M 5) (M 10) (M 11) (M 12) p (nI v) nn) (i + 1)).2.1)), (5, .int ((nvF (fun v => cbB (M 2 0) (M 5) (M 10) (M 11) (M 12) p (nI v) nn) (i + 1)).2.2)), (6, .int (nI (i + 1)))]) rfl (lc rfl (lc rfl (lc rfl (lc (vi eq37_3) (lc (vi eq37_4) (lc (vi eq37_5) (lc rfl rfl))))))) rfl ?_
          exact ih37 (i + 1) (by omega) (by omega)
        · -- not taken at 51
          refine g_iload_n F 3 (dk dtX7_nerves_0 30 rfl) rfl ?_
          refine g_if_neN F 63 (dk dtX7_nerves_0 31 rfl) (by decide) (by omega) (fun c55 => ?_) (fun c55 => ?_)
          · -- taken at 55
            refine g_iload F 4 (dk dtX7_nerves_0 34 rfl) rfl ?_
            refine g_istore F [(4, .int ((nvF (fun v => cbB (M 2 0) (M 5) (M 10) (M 11) (M 12) p (nI v) nn) i).2.1)), (0, .ref (B + 0)), (1, .int (nI p)), (2, .int (nI 2)), (3, .int (nI ((nvF (fun v => cbB (M 2 0) (M 5) (M 10) (M 11) (M 12) p (nI v) nn) i).1))), (5, .int ((nvF (fun v => cbB (M 2 0) (M 5) (M 10) (M 11) (M 12) p (nI v) nn) i).2.2)), (6, .int (nI i))] (dk dtX7_nerves_0 35 rfl) (by decide) rfl ?_
            refine g_iload F 6 (dk dtX7_nerves_0 36 rfl) rfl ?_
            refine g_istore F [(5, .int (nI i)), (4, .int ((nvF (fun v => cbB (M 2 0) (M 5) (M 10) (M 11) (M 12) p (nI v) nn) i).2.1)), (0, .ref (B + 0)), (1, .int (nI p)), (2, .int (nI 2)), (3, .int (nI ((nvF (fun v => cbB (M 2 0) (M 5) (M 10) (M 11) (M 12) p (nI v) nn) i).1))), (6, .int (nI i))] (dk dtX7_nerves_0 37 rfl) (by decide) rfl ?_
            refine g_iinc F 5 (nI ((nvF (fun v => cbB (M 2 0) (M 5) (M 10) (M 11) (M 12) p (nI v) nn) i).1 + 1)) [(3, .int (nI ((nvF (fun v => cbB (M 2 0) (M 5) (M 10) (M 11) (M 12) p (nI v) nn) i).1 + 1))), (5, .int (nI i)), (4, .int ((nvF (fun v => cbB (M 2 0) (M 5) (M 10) (M 11) (M 12) p (nI v) nn) i).2.1)), (0, .ref (B + 0)), (1, .int (nI p)), (2, .int (nI 2)), (6, .int (nI i))] (dk dtX7_nerves_0 38 rfl) rfl (nI_1 _) (by decide) rfl ?_
            refine g_iinc F 6 (nI (i + 1)) [(6, .int (nI (i + 1))), (3, .int (nI ((nvF (fun v => cbB (M 2 0) (M 5) (M 10) (M 11) (M 12) p (nI v) nn) i).1 + 1))), (5, .int (nI i)), (4, .int ((nvF (fun v => cbB (M 2 0) (M 5) (M 10) (M 11) (M 12) p (nI v) nn) i).2.1)), (0, .ref (B + 0)), (1, .int (nI p)), (2, .int (nI 2))] (dk dtX7_nerves_0 39 rfl) rfl (nI_1 _) (by decide) rfl ?_
            refine g_goto F 37 (dk dtX7_nerves_0 40 rfl) (by decide) ?_
            refine g_sub [4, 5, 6, 1, 3, 2, 0] (L1 := [(0, .ref (B + 0)), (1, .int (nI p)), (2, .int (nI 2)), (3, .int (nI ((nvF (fun v => cbB (M 2 0) (M 5) (M 10) (M 11) (M 12) p (nI v) nn) i).1 + 1))), (4, .int ((nvF (fun v => cbB (M 2 0) (M 5) (M 10) (M 11) (M 12) p (nI v) nn) i).2.1)), (5, .int (nI i)), (6, .int (nI (i + 1)))]) rfl ?_
            have eq37_3 : (nI ((nvF (fun v => cbB (M 2 0) (M 5) (M 10) (M 11) (M 12) p (nI v) nn) i).1 + 1) : Int32) = nI ((nvF (fun v => cbB (M 2 0) (M 5) (M 10) (M 11) (M 12) p (nI v) nn) (i + 1)).1) := by
              simp only [nvF]; rw [if_pos c51]
            have eq37_4 : ((nvF (fun v => cbB (M 2 0) (M 5) (M 10) (M 11) (M 12) p (nI v) nn) i).2.1 : Int32) = (nvF (fun v => cbB (M 2 0) (M 5) (M 10) (M 11) (M 12) p (nI v) nn) (i + 1)).2.1 := by
              simp only [nvF]; rw [if_pos c51]; dsimp only; rw [if_neg c55]
            have eq37_5 : (nI i : Int32) = (nvF (fun v => cbB (M 2 0) (M 5) (M 10) (M 11) (M 12) p (nI v) nn) (i + 1)).2.2 := by
              simp only [nvF]; rw [if_pos c51]
            refine g_st (M1 := M) (L1 := [(0, .ref (B + 0)), (1, .int (nI p)), (2, .int (nI 2)), (3, .int (nI ((nvF (fun v => cbB (M 2 0) (M 5) (M 10) (M 11) (M 12) p (nI v) nn) (i + 1)).1))), (4, .int ((nvF (fun v => cbB (M 2 0) (M 5) (M 10) (M 11) (M 12) p (nI v) nn) (i + 1)).2.1)), (5, .int ((nvF (fun v => cbB (M 2 0) (M 5) (M 10) (M 11) (M 12) p (nI v) nn) (i + 1)).2.2)), (6, .int (nI (i + 1)))]) rfl (lc rfl (lc rfl (lc rfl (lc (vi eq37_3) (lc (vi eq37_4) (lc (vi eq37_5) (lc rfl rfl))))))) rfl ?_
            exact ih37 (i + 1) (by omega) (by omega)
          · -- not taken at 55
            refine g_iload F 6 (dk dtX7_nerves_0 32 rfl) rfl ?_
            refine g_goto F 65 (dk dtX7_nerves_0 33 rfl) (by decide) ?_
            refine g_istore F [(4, .int (nI i)), (0, .ref (B + 0)), (1, .int (nI p)), (2, .int (nI 2)), (3, .int (nI ((nvF (fun v => cbB (M 2 0) (M 5) (M 10) (M 11) (M 12) p (nI v) nn) i).1))), (5, .int ((nvF (fun v => cbB (M 2 0) (M 5) (M 10) (M 11) (M 12) p (nI v) nn) i).2.2)), (6, .int (nI i))] (dk dtX7_nerves_0 35 rfl) (by decide) rfl ?_
            refine g_iload F 6 (dk dtX7_nerves_0 36 rfl) rfl ?_
            refine g_istore F [(5, .int (nI i)), (4, .int (nI i)), (0, .ref (B + 0)), (1, .int (nI p)), (2, .int (nI 2)), (3, .int (nI ((nvF (fun v => cbB (M 2 0) (M 5) (M 10) (M 11) (M 12) p (nI v) nn) i).1))), (6, .int (nI i))] (dk dtX7_nerves_0 37 rfl) (by decide) rfl ?_
            refine g_iinc F 5 (nI ((nvF (fun v => cbB (M 2 0) (M 5) (M 10) (M 11) (M 12) p (nI v) nn) i).1 + 1)) [(3, .int (nI ((nvF (fun v => cbB (M 2 0) (M 5) (M 10) (M 11) (M 12) p (nI v) nn) i).1 + 1))), (5, .int (nI i)), (4, .int (nI i)), (0, .ref (B + 0)), (1, .int (nI p)), (2, .int (nI 2)), (6, .int (nI i))] (dk dtX7_nerves_0 38 rfl) rfl (nI_1 _) (by decide) rfl ?_
            refine g_iinc F 6 (nI (i + 1)) [(6, .int (nI (i + 1))), (3, .int (nI ((nvF (fun v => cbB (M 2 0) (M 5) (M 10) (M 11) (M 12) p (nI v) nn) i).1 + 1))), (5, .int (nI i)), (4, .int (nI i)), (0, .ref (B + 0)), (1, .int (nI p)), (2, .int (nI 2))] (dk dtX7_nerves_0 39 rfl) rfl (nI_1 _) (by decide) rfl ?_
            refine g_goto F 37 (dk dtX7_nerves_0 40 rfl) (by decide) ?_
            refine g_sub [4, 5, 6, 1, 3, 2, 0] (L1 := [(0, .ref (B + 0)), (1, .int (nI p)), (2, .int (nI 2)), (3, .int (nI ((nvF (fun v => cbB (M 2 0) (M 5) (M 10) (M 11) (M 12) p (nI v) nn) i).1 + 1))), (4, .int (nI i)), (5, .int (nI i)), (6, .int (nI (i + 1)))]) rfl ?_
            have eq37_3 : (nI ((nvF (fun v => cbB (M 2 0) (M 5) (M 10) (M 11) (M 12) p (nI v) nn) i).1 + 1) : Int32) = nI ((nvF (fun v => cbB (M 2 0) (M 5) (M 10) (M 11) (M 12) p (nI v) nn) (i + 1)).1) := by
              simp only [nvF]; rw [if_pos c51]
            have eq37_4 : (nI i : Int32) = (nvF (fun v => cbB (M 2 0) (M 5) (M 10) (M 11) (M 12) p (nI v) nn) (i + 1)).2.1 := by
              simp only [nvF]; rw [if_pos c51]; dsimp only; rw [if_pos c55]
            have eq37_5 : (nI i : Int32) = (nvF (fun v => cbB (M 2 0) (M 5) (M 10) (M 11) (M 12) p (nI v) nn) (i + 1)).2.2 := by
              simp only [nvF]; rw [if_pos c51]
            refine g_st (M1 := M) (L1 := [(0, .ref (B + 0)), (1, .int (nI p)), (2, .int (nI 2)), (3, .int (nI ((nvF (fun v => cbB (M 2 0) (M 5) (M 10) (M 11) (M 12) p (nI v) nn) (i + 1)).1))), (4, .int ((nvF (fun v => cbB (M 2 0) (M 5) (M 10) (M 11) (M 12) p (nI v) nn) (i + 1)).2.1)), (5, .int ((nvF (fun v => cbB (M 2 0) (M 5) (M 10) (M 11) (M 12) p (nI v) nn) (i + 1)).2.2)), (6, .int (nI (i + 1)))]) rfl (lc rfl (lc rfl (lc rfl (lc (vi eq37_3) (lc (vi eq37_4) (lc (vi eq37_5) (lc rfl rfl))))))) rfl ?_
            exact ih37 (i + 1) (by omega) (by omega)
  refine g_sub [4, 5, 6, 3, 2, 1, 0] (L1 := [(0, .ref (B + 0)), (1, .int (nI p)), (2, .int (nI 2)), (3, .int (nI 0)), (4, .int (-9)), (5, .int (-9)), (6, .int (nI 0))]) rfl ?_
  exact lp37 101 0 (by omega) (by omega)
set_option maxRecDepth 100000 in
set_option maxHeartbeats 4000000 in
theorem k_X7_nerves_bad (l : Launch) (D : DX) (B : Nat) (T : Int64) (M : Mem) (h0 : M 0 0 = nI 0) (P : Nat) (hP : M 2 2 = nI P) (hP5 : P ≤ 5) (p w : Int32) (hb : ¬ (inR p P ∧ inR w 3)) : Ci l D B 14 (celM D B) yX7_nerves cX7_nerves 7 (some .int) 3 [.ref (B + 0), .int p, .int w] T M (fun rz T1 M1 => rz = (-1) ∧ T1 = T ∧ M1 = M) := by
  refine g_entryi (L := [(0, .ref (B + 0)), (1, .int p), (2, .int w)]) (by decide) (Nat.le_of_ble_eq_true rfl) rfl ?_
  intro zp ze zs zm zb zt zc Q F hQ
  refine g_aload_n F 0 (dk dtX7_nerves_0 0 rfl) rfl ?_
  refine g_iconst F (nI 0) (dk dtX7_nerves_0 1 rfl) (by decide) ?_
  refine g_put F fa_X7_56 (dk dtX7_nerves_0 2 rfl) (by decide) (cm0 D B _ _) (Nat.le_of_ble_eq_true rfl) rfl rfl ((cm0 D B _ _).trans st_Mod_0) ?_
  refine g_mem (up2_same h0) ?_
  refine g_aload_n F 0 (dk dtX7_nerves_0 3 rfl) rfl ?_
  refine g_iload_n F 1 (dk dtX7_nerves_0 4 rfl) rfl ?_
  refine g_callVi F (As := [.int p]) (st := []) cv_X7_129 (dk dtX7_nerves_0 5 rfl) (by decide) (cm0 D B _ _) rfl rfl (Nat.le_of_ble_eq_true rfl) ⟨by decide, by decide⟩ (k_X7_isOne l D B _ _ _ P hP (by omega)) (fun r7 T7 M7 hp7 => ?_)
  obtain ⟨e1, e2, e3⟩ := hp7
  replace e1 := e1.symm; replace e2 := e2.symm; replace e3 := e3.symm; subst e1; subst e2; subst e3
  refine g_if_eqB F 22 (dk dtX7_nerves_0 6 rfl) (by decide) (fun c10 => ?_) (fun c10 => ?_)
  · -- taken at 10
    refine g_iconst F (-1) (dk dtX7_nerves_0 12 rfl) (by decide) ?_
    refine g_iret (F := F) hQ (dk dtX7_nerves_0 13 rfl) ?_
    exact ⟨rfl, rfl, rfl⟩
  · -- not taken at 10
    refine g_iload_n F 2 (dk dtX7_nerves_0 7 rfl) rfl ?_
    refine g_iconst F (nI 0) (dk dtX7_nerves_0 8 rfl) (by decide) ?_
    refine g_iconst F (nI 2) (dk dtX7_nerves_0 9 rfl) (by decide) ?_
    refine g_callSi F (As := [.int w, .int (nI 0), .int (nI 2)]) (st := []) cs_X7_60 (dk dtX7_nerves_0 10 rfl) rfl rfl (Nat.le_of_ble_eq_true rfl) ⟨by decide, by decide⟩ (k_X7_inR l D B _ _ _ 2 (by decide)) (fun r16 T16 M16 hp16 => ?_)
    obtain ⟨e1, e2, e3⟩ := hp16
    replace e1 := e1.symm; replace e2 := e2.symm; replace e3 := e3.symm; subst e1; subst e2; subst e3
    refine g_if_neB F 24 (dk dtX7_nerves_0 11 rfl) (by decide) (fun c19 => ?_) (fun c19 => ?_)
    · -- taken at 19
      exact absurd ⟨c10, c19⟩ hb
    · -- not taken at 19
      refine g_iconst F (-1) (dk dtX7_nerves_0 12 rfl) (by decide) ?_
      refine g_iret (F := F) hQ (dk dtX7_nerves_0 13 rfl) ?_
      exact ⟨rfl, rfl, rfl⟩
set_option maxRecDepth 100000 in
set_option maxHeartbeats 4000000 in
theorem k_X7_test (l : Launch) (D : DX) (B : Nat) (T : Int64) (M : Mem) (h0 : M 0 0 = nI 0) (P : Nat) (hP : M 2 2 = nI P) (hP5 : P ≤ 5) (K : Nat) (hK : M 2 0 = nI K) (hK1 : 1 ≤ K) (hK4 : K ≤ 4) (nn : Nat) (hnn : M 0 22 = nI nn) (hnn6 : nn ≤ 6) (hN : ∀ i, i < nn → ∃ k : Nat, k < 4 ∧ M 11 i = nI k) (hW : WR (M 5)) (p : Nat) (hp : p < P)  : Ci l D B 14 (celM D B) yX7_test cX7_test 8 (some .int) 3 [.ref (B + 0), .int (nI p)] T M (fun rz T1 M1 => rz = (if cnB (fun v => cbB (M 2 0) (M 5) (M 10) (M 11) (M 12) p (nI v) nn) 100 < 2 then -9 else (tsF (fun v => cbB (M 2 0) (M 5) (M 10) (M 11) (M 12) p (nI v) nn) (fun k => (fun v => (fun v => cbB (M 2 0) (M 5) (M 10) (M 11) (M 12) p (nI v) nn) v && decide (nI v ≤ suR (M 2 0) (M 5) p k))) K).1) ∧ T1 = T ∧ M1 = M) := by
  refine g_entryi (L := [(0, .ref (B + 0)), (1, .int (nI p))]) (by decide) (Nat.le_of_ble_eq_true rfl) rfl ?_
  intro zp ze zs zm zb zt zc Q F hQ
  refine g_aload_n F 0 (dk dtX7_test_0 0 rfl) rfl ?_
  refine g_iconst F (nI 0) (dk dtX7_test_0 1 rfl) (by decide) ?_
  refine g_put F fa_X7_56 (dk dtX7_test_0 2 rfl) (by decide) (cm0 D B _ _) (Nat.le_of_ble_eq_true rfl) rfl rfl ((cm0 D B _ _).trans st_Mod_0) ?_
  refine g_mem (up2_same h0) ?_
  refine g_aload_n F 0 (dk dtX7_test_0 3 rfl) rfl ?_
  refine g_iload_n F 1 (dk dtX7_test_0 4 rfl) rfl ?_
  refine g_callVi F (As := [.int (nI p)]) (st := []) cv_X7_129 (dk dtX7_test_0 5 rfl) (by decide) (cm0 D B _ _) rfl rfl (Nat.le_of_ble_eq_true rfl) ⟨by decide, by decide⟩ (k_X7_isOne l D B _ _ _ P hP (by omega)) (fun r7 T7 M7 hp7 => ?_)
  obtain ⟨e1, e2, e3⟩ := hp7
  replace e1 := e1.symm; replace e2 := e2.symm; replace e3 := e3.symm; subst e1; subst e2; subst e3
  refine g_if_neB F 15 (dk dtX7_test_0 6 rfl) (by decide) (fun _ => ?_) (fun c => absurd (inR_nI (by omega)) c)
  refine g_bipush F (-9) (dk dtX7_test_0 9 rfl) (by decide) ?_
  refine g_istore_n F [(2, .int (-9)), (0, .ref (B + 0)), (1, .int (nI p))] (dk dtX7_test_0 10 rfl) (by decide) rfl ?_
  refine g_bipush F (nI 101) (dk dtX7_test_0 11 rfl) (by decide) ?_
  refine g_istore_n F [(3, .int (nI 101)), (2, .int (-9)), (0, .ref (B + 0)), (1, .int (nI p))] (dk dtX7_test_0 12 rfl) (by decide) rfl ?_
  refine g_iconst F (nI 0) (dk dtX7_test_0 13 rfl) (by decide) ?_
  refine g_istore F [(4, .int (nI 0)), (3, .int (nI 101)), (2, .int (-9)), (0, .ref (B + 0)), (1, .int (nI p))] (dk dtX7_test_0 14 rfl) (by decide) rfl ?_
  refine g_iconst F (nI 0) (dk dtX7_test_0 15 rfl) (by decide) ?_
  refine g_istore F [(5, .int (nI 0)), (4, .int (nI 0)), (3, .int (nI 101)), (2, .int (-9)), (0, .ref (B + 0)), (1, .int (nI p))] (dk dtX7_test_0 16 rfl) (by decide) rfl ?_
  have lp27 : ∀ (fz : Nat) (i al : Nat), (i ≤ K ∧ al ≤ 100 ∧ (0 < i → al = cnB (fun v => cbB (M 2 0) (M 5) (M 10) (M 11) (M 12) p (nI v) nn) 100)) → (K - i) < fz → G zp l ze { frames := 3, cells := 0, slots := 0, locals := 40 * 3 } zs zm [.ref (B + 0), .int (nI p)].toArray zb zt zc 8 D B 14 (celM D B) Q T M 27 [(0, .ref (B + 0)), (1, .int (nI p)), (2, .int ((tsF (fun v => cbB (M 2 0) (M 5) (M 10) (M 11) (M 12) p (nI v) nn) (fun k => (fun v => (fun v => cbB (M 2 0) (M 5) (M 10) (M 11) (M 12) p (nI v) nn) v && decide (nI v ≤ suR (M 2 0) (M 5) p k))) i).1)), (3, .int (nI ((tsF (fun v => cbB (M 2 0) (M 5) (M 10) (M 11) (M 12) p (nI v) nn) (fun k => (fun v => (fun v => cbB (M 2 0) (M 5) (M 10) (M 11) (M 12) p (nI v) nn) v && decide (nI v ≤ suR (M 2 0) (M 5) p k))) i).2))), (4, .int (nI al)), (5, .int (nI i))] [] := by
    intro n27
    induction n27 with
    | zero => intro i al hI hn; exact absurd hn (Nat.not_lt_zero _)
    | succ n27 ih27 =>
      intro i al hI27 hn27
      have hlo := tsF_le (fun v => cbB (M 2 0) (M 5) (M 10) (M 11) (M 12) p (nI v) nn) (fun k => (fun v => (fun v => cbB (M 2 0) (M 5) (M 10) (M 11) (M 12) p (nI v) nn) v && decide (nI v ≤ suR (M 2 0) (M 5) p k))) i
      refine g_iload F 5 (dk dtX7_test_0 17 rfl) rfl ?_
      refine g_aload_n F 0 (dk dtX7_test_0 18 rfl) rfl ?_
      refine g_get F fa_X7_13 (dk dtX7_test_0 19 rfl) (by decide) (cm0 D B _ _) rfl ?_
      refine g_iconst F (nI 0) (dk dtX7_test_0 20 rfl) (by decide) ?_
      refine g_iald F (0) (dk dtX7_test_0 21 rfl) (by decide) (cm2 D B _ _) (by omega) (by decide) ?_
      refine g_top hK ?_
      refine g_icmp_geN F 170 (dk dtX7_test_0 22 rfl) (by decide) (by omega) (by omega) (fun c35 => ?_) (fun c35 => ?_)
      · -- taken at 35
        obtain rfl : K = i := by omega
        obtain rfl : cnB (fun v => cbB (M 2 0) (M 5) (M 10) (M 11) (M 12) p (nI v) nn) 100 = al := (hI27.2.2 (by omega)).symm
        refine g_iload F 4 (dk dtX7_test_1 31 rfl) rfl ?_
        refine g_iconst F (nI 2) (dk dtX7_test_1 32 rfl) (by decide) ?_
        refine g_icmp_geN F 181 (dk dtX7_test_1 33 rfl) (by decide) (by omega) (by omega) (fun c173 => ?_) (fun c173 => ?_)
        · -- taken at 173
          refine g_iload_n F 2 (dk dtX7_test_1 36 rfl) rfl ?_
          refine g_iret (F := F) hQ (dk dtX7_test_1 37 rfl) ?_
          exact ⟨(if_neg (by omega)).symm, rfl, rfl⟩
        · -- not taken at 173
          refine g_bipush F (-9) (dk dtX7_test_1 34 rfl) (by decide) ?_
          refine g_goto F 182 (dk dtX7_test_1 35 rfl) (by decide) ?_
          refine g_iret (F := F) hQ (dk dtX7_test_1 37 rfl) ?_
          exact ⟨(if_pos (by omega)).symm, rfl, rfl⟩
      · -- not taken at 35
        refine g_iconst F (nI 0) (dk dtX7_test_0 23 rfl) (by decide) ?_
        refine g_istore F [(6, .int (nI 0)), (0, .ref (B + 0)), (1, .int (nI p)), (2, .int ((tsF (fun v => cbB (M 2 0) (M 5) (M 10) (M 11) (M 12) p (nI v) nn) (fun k => (fun v => (fun v => cbB (M 2 0) (M 5) (M 10) (M 11) (M 12) p (nI v) nn) v && decide (nI v ≤ suR (M 2 0) (M 5) p k))) i).1)), (3, .int (nI ((tsF (fun v => cbB (M 2 0) (M 5) (M 10) (M 11) (M 12) p (nI v) nn) (fun k => (fun v => (fun v => cbB (M 2 0) (M 5) (M 10) (M 11) (M 12) p (nI v) nn) v && decide (nI v ≤ suR (M 2 0) (M 5) p k))) i).2))), (4, .int (nI al)), (5, .int (nI i))] (dk dtX7_test_0 24 rfl) (by decide) rfl ?_
        refine g_iconst F (nI 0) (dk dtX7_test_0 25 rfl) (by decide) ?_
        refine g_istore F [(4, .int (nI 0)), (6, .int (nI 0)), (0, .ref (B + 0)), (1, .int (nI p)), (2, .int ((tsF (fun v => cbB (M 2 0) (M 5) (M 10) (M 11) (M 12) p (nI v) nn) (fun k => (fun v => (fun v => cbB (M 2 0) (M 5) (M 10) (M 11) (M 12) p (nI v) nn) v && decide (nI v ≤ suR (M 2 0) (M 5) p k))) i).1)), (3, .int (nI ((tsF (fun v => cbB (M 2 0) (M 5) (M 10) (M 11) (M 12) p (nI v) nn) (fun k => (fun v => (fun v => cbB (M 2 0) (M 5) (M 10) (M 11) (M 12) p (nI v) nn) v && decide (nI v ≤ suR (M 2 0) (M 5) p k))) i).2))), (5, .int (nI i))] (dk dtX7_test_0 26 rfl) (by decide) rfl ?_
        refine g_iconst F (nI 0) (dk dtX7_test_0 27 rfl) (by decide) ?_
        refine g_istore F [(7, .int (nI 0)), (4, .int (nI 0)), (6, .int (nI 0)), (0, .ref (B + 0)), (1, .int (nI p)), (2, .int ((tsF (fun v => cbB (M 2 0) (M 5) (M 10) (M 11) (M 12) p (nI v) nn) (fun k => (fun v => (fun v => cbB (M 2 0) (M 5) (M 10) (M 11) (M 12) p (nI v) nn) v && decide (nI v ≤ suR (M 2 0) (M 5) p k))) i).1)), (3, .int (nI ((tsF (fun v => cbB (M 2 0) (M 5) (M 10) (M 11) (M 12) p (nI v) nn) (fun k => (fun v => (fun v => cbB (M 2 0) (M 5) (M 10) (M 11) (M 12) p (nI v) nn) v && decide (nI v ≤ suR (M 2 0) (M 5) p k))) i).2))), (5, .int (nI i))] (dk dtX7_test_0 28 rfl) (by decide) rfl ?_
        have lp47 : ∀ (fz : Nat) (j : Nat), j ≤ 100 → (100 - j) < fz → G zp l ze { frames := 3, cells := 0, slots := 0, locals := 40 * 3 } zs zm [.ref (B + 0), .int (nI p)].toArray zb zt zc 8 D B 14 (celM D B) Q T M 47 [(0, .ref (B + 0)), (1, .int (nI p)), (2, .int ((tsF (fun v => cbB (M 2 0) (M 5) (M 10) (M 11) (M 12) p (nI v) nn) (fun k => (fun v => (fun v => cbB (M 2 0) (M 5) (M 10) (M 11) (M 12) p (nI v) nn) v && decide (nI v ≤ suR (M 2 0) (M 5) p k))) i).1)), (3, .int (nI ((tsF (fun v => cbB (M 2 0) (M 5) (M 10) (M 11) (M 12) p (nI v) nn) (fun k => (fun v => (fun v => cbB (M 2 0) (M 5) (M 10) (M 11) (M 12) p (nI v) nn) v && decide (nI v ≤ suR (M 2 0) (M 5) p k))) i).2))), (4, .int (nI (cnB (fun v => cbB (M 2 0) (M 5) (M 10) (M 11) (M 12) p (nI v) nn) j))), (5, .int (nI i)), (6, .int (nI (cnB (fun v => (fun v => cbB (M 2 0) (M 5) (M 10) (M 11) (M 12) p (nI v) nn) v && decide (nI v ≤ suR (M 2 0) (M 5) p i)) j))), (7, .int (nI j))] [] := by
          intro n47
          induction n47 with
          | zero => intro j hI hn; exact absurd hn (Nat.not_lt_zero _)
          | succ n47 ih47 =>
            intro j hI47 hn47
            refine g_iload F 7 (dk dtX7_test_0 29 rfl) rfl ?_
            refine g_bipush F (nI 100) (dk dtX7_test_0 30 rfl) (by decide) ?_
            refine g_icmp_geN F 116 (dk dtX7_test_0 31 rfl) (by decide) (by omega) (by omega) (fun c51 => ?_) (fun c51 => ?_)
            · -- taken at 51
              obtain rfl : 100 = j := by omega
              have hy := cnB_le (fun v => (fun v => cbB (M 2 0) (M 5) (M 10) (M 11) (M 12) p (nI v) nn) v && decide (nI v ≤ suR (M 2 0) (M 5) p i)) 100
              have ha := cnB_le (fun v => cbB (M 2 0) (M 5) (M 10) (M 11) (M 12) p (nI v) nn) 100
              have hya := cnB_mono (f := (fun v => (fun v => cbB (M 2 0) (M 5) (M 10) (M 11) (M 12) p (nI v) nn) v && decide (nI v ≤ suR (M 2 0) (M 5) p i))) (g := (fun v => cbB (M 2 0) (M 5) (M 10) (M 11) (M 12) p (nI v) nn)) (fun v h => and_l h) 100
              refine g_iload F 6 (dk dtX7_test_1 4 rfl) rfl ?_
              refine g_iload F 4 (dk dtX7_test_1 5 rfl) rfl ?_
              refine g_iload F 6 (dk dtX7_test_1 6 rfl) rfl ?_
              refine g_isubN F (dk dtX7_test_1 7 rfl) (by omega) ?_
              refine g_icmp_leN F 131 (dk dtX7_test_1 8 rfl) (by decide) (by omega) (by omega) (fun c123 => ?_) (fun c123 => ?_)
              · -- taken at 123
                refine g_iload F 4 (dk dtX7_test_1 11 rfl) rfl ?_
                refine g_iload F 6 (dk dtX7_test_1 12 rfl) rfl ?_
                refine g_isubN F (dk dtX7_test_1 13 rfl) (by omega) ?_
                refine g_istore F [(7, .int (nI ((cnB (fun v => cbB (M 2 0) (M 5) (M 10) (M 11) (M 12) p (nI v) nn) 100) - (cnB (fun v => (fun v => cbB (M 2 0) (M 5) (M 10) (M 11) (M 12) p (nI v) nn) v && decide (nI v ≤ suR (M 2 0) (M 5) p i)) 100)))), (0, .ref (B + 0)), (1, .int (nI p)), (2, .int ((tsF (fun v => cbB (M 2 0) (M 5) (M 10) (M 11) (M 12) p (nI v) nn) (fun k => (fun v => (fun v => cbB (M 2 0) (M 5) (M 10) (M 11) (M 12) p (nI v) nn) v && decide (nI v ≤ suR (M 2 0) (M 5) p k))) i).1)), (3, .int (nI ((tsF (fun v => cbB (M 2 0) (M 5) (M 10) (M 11) (M 12) p (nI v) nn) (fun k => (fun v => (fun v => cbB (M 2 0) (M 5) (M 10) (M 11) (M 12) p (nI v) nn) v && decide (nI v ≤ suR (M 2 0) (M 5) p k))) i).2))), (4, .int (nI (cnB (fun v => cbB (M 2 0) (M 5) (M 10) (M 11) (M 12) p (nI v) nn) 100))), (5, .int (nI i)), (6, .int (nI (cnB (fun v => (fun v => cbB (M 2 0) (M 5) (M 10) (M 11) (M 12) p (nI v) nn) v && decide (nI v ≤ suR (M 2 0) (M 5) p i)) 100)))] (dk dtX7_test_1 14 rfl) (by decide) rfl ?_
                refine g_iload F 0 (dk dtX7_test_1 15 rfl) rfl ?_
                refine g_iload_n F 4 (dk dtX7_test_1 16 rfl) rfl ?_
                refine g_icmp_geN F 149 (dk dtX7_test_1 17 rfl) (by decide) (by omega) (by omega) (fun c141 => ?_) (fun c141 => ?_)
                · -- taken at 141
                  refine g_iload_n F 3 (dk dtX7_test_1 20 rfl) rfl ?_
                  refine g_istore_n F [(2, .int ((tsF (fun v => cbB (M 2 0) (M 5) (M 10) (M 11) (M 12) p (nI v) nn) (fun k => (fun v => (fun v => cbB (M 2 0) (M 5) (M 10) (M 11) (M 12) p (nI v) nn) v && decide (nI v ≤ suR (M 2 0) (M 5) p k))) i).1)), (7, .int (nI ((cnB (fun v => cbB (M 2 0) (M 5) (M 10) (M 11) (M 12) p (nI v) nn) 100) - (cnB (fun v => (fun v => cbB (M 2 0) (M 5) (M 10) (M 11) (M 12) p (nI v) nn) v && decide (nI v ≤ suR (M 2 0) (M 5) p i)) 100)))), (0, .ref (B + 0)), (1, .int (nI p)), (3, .int (nI ((tsF (fun v => cbB (M 2 0) (M 5) (M 10) (M 11) (M 12) p (nI v) nn) (fun k => (fun v => (fun v => cbB (M 2 0) (M 5) (M 10) (M 11) (M 12) p (nI v) nn) v && decide (nI v ≤ suR (M 2 0) (M 5) p k))) i).2))), (4, .int (nI (cnB (fun v => cbB (M 2 0) (M 5) (M 10) (M 11) (M 12) p (nI v) nn) 100))), (5, .int (nI i)), (6, .int (nI (cnB (fun v => (fun v => cbB (M 2 0) (M 5) (M 10) (M 11) (M 12) p (nI v) nn) v && decide (nI v ≤ suR (M 2 0) (M 5) p i)) 100)))] (dk dtX7_test_1 21 rfl) (by decide) rfl ?_
                  refine g_iload F 1 (dk dtX7_test_1 22 rfl) rfl ?_
                  refine g_iload_n F 4 (dk dtX7_test_1 23 rfl) rfl ?_
                  refine g_icmp_geN F 162 (dk dtX7_test_1 24 rfl) (by decide) (by omega) (by omega) (fun c154 => ?_) (fun c154 => ?_)
                  · -- taken at 154
                    refine g_iload_n F 4 (dk dtX7_test_1 27 rfl) rfl ?_
                    refine g_istore_n F [(3, .int (nI ((tsF (fun v => cbB (M 2 0) (M 5) (M 10) (M 11) (M 12) p (nI v) nn) (fun k => (fun v => (fun v => cbB (M 2 0) (M 5) (M 10) (M 11) (M 12) p (nI v) nn) v && decide (nI v ≤ suR (M 2 0) (M 5) p k))) i).2))), (2, .int ((tsF (fun v => cbB (M 2 0) (M 5) (M 10) (M 11) (M 12) p (nI v) nn) (fun k => (fun v => (fun v => cbB (M 2 0) (M 5) (M 10) (M 11) (M 12) p (nI v) nn) v && decide (nI v ≤ suR (M 2 0) (M 5) p k))) i).1)), (7, .int (nI ((cnB (fun v => cbB (M 2 0) (M 5) (M 10) (M 11) (M 12) p (nI v) nn) 100) - (cnB (fun v => (fun v => cbB (M 2 0) (M 5) (M 10) (M 11) (M 12) p (nI v) nn) v && decide (nI v ≤ suR (M 2 0) (M 5) p i)) 100)))), (0, .ref (B + 0)), (1, .int (nI p)), (4, .int (nI (cnB (fun v => cbB (M 2 0) (M 5) (M 10) (M 11) (M 12) p (nI v) nn) 100))), (5, .int (nI i)), (6, .int (nI (cnB (fun v => (fun v => cbB (M 2 0) (M 5) (M 10) (M 11) (M 12) p (nI v) nn) v && decide (nI v ≤ suR (M 2 0) (M 5) p i)) 100)))] (dk dtX7_test_1 28 rfl) (by decide) rfl ?_
                    refine g_iinc F 6 (nI (i + 1)) [(5, .int (nI (i + 1))), (3, .int (nI ((tsF (fun v => cbB (M 2 0) (M 5) (M 10) (M 11) (M 12) p (nI v) nn) (fun k => (fun v => (fun v => cbB (M 2 0) (M 5) (M 10) (M 11) (M 12) p (nI v) nn) v && decide (nI v ≤ suR (M 2 0) (M 5) p k))) i).2))), (2, .int ((tsF (fun v => cbB (M 2 0) (M 5) (M 10) (M 11) (M 12) p (nI v) nn) (fun k => (fun v => (fun v => cbB (M 2 0) (M 5) (M 10) (M 11) (M 12) p (nI v) nn) v && decide (nI v ≤ suR (M 2 0) (M 5) p k))) i).1)), (7, .int (nI ((cnB (fun v => cbB (M 2 0) (M 5) (M 10) (M 11) (M 12) p (nI v) nn) 100) - (cnB (fun v => (fun v => cbB (M 2 0) (M 5) (M 10) (M 11) (M 12) p (nI v) nn) v && decide (nI v ≤ suR (M 2 0) (M 5) p i)) 100)))), (0, .ref (B + 0)), (1, .int (nI p)), (4, .int (nI (cnB (fun v => cbB (M 2 0) (M 5) (M 10) (M 11) (M 12) p (nI v) nn) 100))), (6, .int (nI (cnB (fun v => (fun v => cbB (M 2 0) (M 5) (M 10) (M 11) (M 12) p (nI v) nn) v && decide (nI v ≤ suR (M 2 0) (M 5) p i)) 100)))] (dk dtX7_test_1 29 rfl) rfl (nI_1 _) (by decide) rfl ?_
                    refine g_goto F 27 (dk dtX7_test_1 30 rfl) (by decide) ?_
                    refine g_sub [4, 5, 2, 1, 6, 0] (L1 := [(0, .ref (B + 0)), (1, .int (nI p)), (2, .int ((tsF (fun v => cbB (M 2 0) (M 5) (M 10) (M 11) (M 12) p (nI v) nn) (fun k => (fun v => (fun v => cbB (M 2 0) (M 5) (M 10) (M 11) (M 12) p (nI v) nn) v && decide (nI v ≤ suR (M 2 0) (M 5) p k))) i).1)), (3, .int (nI ((tsF (fun v => cbB (M 2 0) (M 5) (M 10) (M 11) (M 12) p (nI v) nn) (fun k => (fun v => (fun v => cbB (M 2 0) (M 5) (M 10) (M 11) (M 12) p (nI v) nn) v && decide (nI v ≤ suR (M 2 0) (M 5) p k))) i).2))), (4, .int (nI (cnB (fun v => cbB (M 2 0) (M 5) (M 10) (M 11) (M 12) p (nI v) nn) 100))), (5, .int (nI (i + 1)))]) rfl ?_
                    have hg : gtr (cnB (fun v => cbB (M 2 0) (M 5) (M 10) (M 11) (M 12) p (nI v) nn) 100) (cnB (fun v => (fun v => cbB (M 2 0) (M 5) (M 10) (M 11) (M 12) p (nI v) nn) v && decide (nI v ≤ suR (M 2 0) (M 5) p i)) 100) = cnB (fun v => cbB (M 2 0) (M 5) (M 10) (M 11) (M 12) p (nI v) nn) 100 - cnB (fun v => (fun v => cbB (M 2 0) (M 5) (M 10) (M 11) (M 12) p (nI v) nn) v && decide (nI v ≤ suR (M 2 0) (M 5) p i)) 100 := if_pos c123
                    have q1 : ((tsF (fun v => cbB (M 2 0) (M 5) (M 10) (M 11) (M 12) p (nI v) nn) (fun k => (fun v => (fun v => cbB (M 2 0) (M 5) (M 10) (M 11) (M 12) p (nI v) nn) v && decide (nI v ≤ suR (M 2 0) (M 5) p k))) i).1 : Int32) = (tsF (fun v => cbB (M 2 0) (M 5) (M 10) (M 11) (M 12) p (nI v) nn) (fun k => (fun v => (fun v => cbB (M 2 0) (M 5) (M 10) (M 11) (M 12) p (nI v) nn) v && decide (nI v ≤ suR (M 2 0) (M 5) p k))) (i + 1)).1 := by rw [tsF_n _ _ (by rw [hg]; omega)]
                    have q2 : (nI ((tsF (fun v => cbB (M 2 0) (M 5) (M 10) (M 11) (M 12) p (nI v) nn) (fun k => (fun v => (fun v => cbB (M 2 0) (M 5) (M 10) (M 11) (M 12) p (nI v) nn) v && decide (nI v ≤ suR (M 2 0) (M 5) p k))) i).2) : Int32) = nI ((tsF (fun v => cbB (M 2 0) (M 5) (M 10) (M 11) (M 12) p (nI v) nn) (fun k => (fun v => (fun v => cbB (M 2 0) (M 5) (M 10) (M 11) (M 12) p (nI v) nn) v && decide (nI v ≤ suR (M 2 0) (M 5) p k))) (i + 1)).2) := by rw [tsF_n _ _ (by rw [hg]; omega)]
                    refine g_st (M1 := M) (L1 := [(0, .ref (B + 0)), (1, .int (nI p)), (2, .int ((tsF (fun v => cbB (M 2 0) (M 5) (M 10) (M 11) (M 12) p (nI v) nn) (fun k => (fun v => (fun v => cbB (M 2 0) (M 5) (M 10) (M 11) (M 12) p (nI v) nn) v && decide (nI v ≤ suR (M 2 0) (M 5) p k))) (i + 1)).1)), (3, .int (nI ((tsF (fun v => cbB (M 2 0) (M 5) (M 10) (M 11) (M 12) p (nI v) nn) (fun k => (fun v => (fun v => cbB (M 2 0) (M 5) (M 10) (M 11) (M 12) p (nI v) nn) v && decide (nI v ≤ suR (M 2 0) (M 5) p k))) (i + 1)).2))), (4, .int (nI (cnB (fun v => cbB (M 2 0) (M 5) (M 10) (M 11) (M 12) p (nI v) nn) 100))), (5, .int (nI (i + 1)))]) rfl (lc rfl (lc rfl (lc (vi q1) (lc (vi q2) rfl)))) rfl ?_
                    exact ih27 (i + 1) _ ⟨by omega, cnB_le _ 100, fun _ => rfl⟩ (by omega)
                  · -- not taken at 154
                    refine g_iload F 1 (dk dtX7_test_1 25 rfl) rfl ?_
                    refine g_goto F 163 (dk dtX7_test_1 26 rfl) (by decide) ?_
                    refine g_istore_n F [(3, .int (nI ((cnB (fun v => cbB (M 2 0) (M 5) (M 10) (M 11) (M 12) p (nI v) nn) 100) - (cnB (fun v => (fun v => cbB (M 2 0) (M 5) (M 10) (M 11) (M 12) p (nI v) nn) v && decide (nI v ≤ suR (M 2 0) (M 5) p i)) 100)))), (2, .int ((tsF (fun v => cbB (M 2 0) (M 5) (M 10) (M 11) (M 12) p (nI v) nn) (fun k => (fun v => (fun v => cbB (M 2 0) (M 5) (M 10) (M 11) (M 12) p (nI v) nn) v && decide (nI v ≤ suR (M 2 0) (M 5) p k))) i).1)), (7, .int (nI ((cnB (fun v => cbB (M 2 0) (M 5) (M 10) (M 11) (M 12) p (nI v) nn) 100) - (cnB (fun v => (fun v => cbB (M 2 0) (M 5) (M 10) (M 11) (M 12) p (nI v) nn) v && decide (nI v ≤ suR (M 2 0) (M 5) p i)) 100)))), (0, .ref (B + 0)), (1, .int (nI p)), (4, .int (nI (cnB (fun v => cbB (M 2 0) (M 5) (M 10) (M 11) (M 12) p (nI v) nn) 100))), (5, .int (nI i)), (6, .int (nI (cnB (fun v => (fun v => cbB (M 2 0) (M 5) (M 10) (M 11) (M 12) p (nI v) nn) v && decide (nI v ≤ suR (M 2 0) (M 5) p i)) 100)))] (dk dtX7_test_1 28 rfl) (by decide) rfl ?_
                    refine g_iinc F 6 (nI (i + 1)) [(5, .int (nI (i + 1))), (3, .int (nI ((cnB (fun v => cbB (M 2 0) (M 5) (M 10) (M 11) (M 12) p (nI v) nn) 100) - (cnB (fun v => (fun v => cbB (M 2 0) (M 5) (M 10) (M 11) (M 12) p (nI v) nn) v && decide (nI v ≤ suR (M 2 0) (M 5) p i)) 100)))), (2, .int ((tsF (fun v => cbB (M 2 0) (M 5) (M 10) (M 11) (M 12) p (nI v) nn) (fun k => (fun v => (fun v => cbB (M 2 0) (M 5) (M 10) (M 11) (M 12) p (nI v) nn) v && decide (nI v ≤ suR (M 2 0) (M 5) p k))) i).1)), (7, .int (nI ((cnB (fun v => cbB (M 2 0) (M 5) (M 10) (M 11) (M 12) p (nI v) nn) 100) - (cnB (fun v => (fun v => cbB (M 2 0) (M 5) (M 10) (M 11) (M 12) p (nI v) nn) v && decide (nI v ≤ suR (M 2 0) (M 5) p i)) 100)))), (0, .ref (B + 0)), (1, .int (nI p)), (4, .int (nI (cnB (fun v => cbB (M 2 0) (M 5) (M 10) (M 11) (M 12) p (nI v) nn) 100))), (6, .int (nI (cnB (fun v => (fun v => cbB (M 2 0) (M 5) (M 10) (M 11) (M 12) p (nI v) nn) v && decide (nI v ≤ suR (M 2 0) (M 5) p i)) 100)))] (dk dtX7_test_1 29 rfl) rfl (nI_1 _) (by decide) rfl ?_
                    refine g_goto F 27 (dk dtX7_test_1 30 rfl) (by decide) ?_
                    refine g_sub [4, 5, 2, 1, 6, 0] (L1 := [(0, .ref (B + 0)), (1, .int (nI p)), (2, .int ((tsF (fun v => cbB (M 2 0) (M 5) (M 10) (M 11) (M 12) p (nI v) nn) (fun k => (fun v => (fun v => cbB (M 2 0) (M 5) (M 10) (M 11) (M 12) p (nI v) nn) v && decide (nI v ≤ suR (M 2 0) (M 5) p k))) i).1)), (3, .int (nI ((cnB (fun v => cbB (M 2 0) (M 5) (M 10) (M 11) (M 12) p (nI v) nn) 100) - (cnB (fun v => (fun v => cbB (M 2 0) (M 5) (M 10) (M 11) (M 12) p (nI v) nn) v && decide (nI v ≤ suR (M 2 0) (M 5) p i)) 100)))), (4, .int (nI (cnB (fun v => cbB (M 2 0) (M 5) (M 10) (M 11) (M 12) p (nI v) nn) 100))), (5, .int (nI (i + 1)))]) rfl ?_
                    have hg : gtr (cnB (fun v => cbB (M 2 0) (M 5) (M 10) (M 11) (M 12) p (nI v) nn) 100) (cnB (fun v => (fun v => cbB (M 2 0) (M 5) (M 10) (M 11) (M 12) p (nI v) nn) v && decide (nI v ≤ suR (M 2 0) (M 5) p i)) 100) = cnB (fun v => cbB (M 2 0) (M 5) (M 10) (M 11) (M 12) p (nI v) nn) 100 - cnB (fun v => (fun v => cbB (M 2 0) (M 5) (M 10) (M 11) (M 12) p (nI v) nn) v && decide (nI v ≤ suR (M 2 0) (M 5) p i)) 100 := if_pos c123
                    have q1 : ((tsF (fun v => cbB (M 2 0) (M 5) (M 10) (M 11) (M 12) p (nI v) nn) (fun k => (fun v => (fun v => cbB (M 2 0) (M 5) (M 10) (M 11) (M 12) p (nI v) nn) v && decide (nI v ≤ suR (M 2 0) (M 5) p k))) i).1 : Int32) = (tsF (fun v => cbB (M 2 0) (M 5) (M 10) (M 11) (M 12) p (nI v) nn) (fun k => (fun v => (fun v => cbB (M 2 0) (M 5) (M 10) (M 11) (M 12) p (nI v) nn) v && decide (nI v ≤ suR (M 2 0) (M 5) p k))) (i + 1)).1 := by rw [tsF_n _ _ (by rw [hg]; omega)]
                    have q2 : (nI ((cnB (fun v => cbB (M 2 0) (M 5) (M 10) (M 11) (M 12) p (nI v) nn) 100) - (cnB (fun v => (fun v => cbB (M 2 0) (M 5) (M 10) (M 11) (M 12) p (nI v) nn) v && decide (nI v ≤ suR (M 2 0) (M 5) p i)) 100)) : Int32) = nI ((tsF (fun v => cbB (M 2 0) (M 5) (M 10) (M 11) (M 12) p (nI v) nn) (fun k => (fun v => (fun v => cbB (M 2 0) (M 5) (M 10) (M 11) (M 12) p (nI v) nn) v && decide (nI v ≤ suR (M 2 0) (M 5) p k))) (i + 1)).2) := by rw [tsF_y _ _ (by rw [hg]; omega), hg]
                    refine g_st (M1 := M) (L1 := [(0, .ref (B + 0)), (1, .int (nI p)), (2, .int ((tsF (fun v => cbB (M 2 0) (M 5) (M 10) (M 11) (M 12) p (nI v) nn) (fun k => (fun v => (fun v => cbB (M 2 0) (M 5) (M 10) (M 11) (M 12) p (nI v) nn) v && decide (nI v ≤ suR (M 2 0) (M 5) p k))) (i + 1)).1)), (3, .int (nI ((tsF (fun v => cbB (M 2 0) (M 5) (M 10) (M 11) (M 12) p (nI v) nn) (fun k => (fun v => (fun v => cbB (M 2 0) (M 5) (M 10) (M 11) (M 12) p (nI v) nn) v && decide (nI v ≤ suR (M 2 0) (M 5) p k))) (i + 1)).2))), (4, .int (nI (cnB (fun v => cbB (M 2 0) (M 5) (M 10) (M 11) (M 12) p (nI v) nn) 100))), (5, .int (nI (i + 1)))]) rfl (lc rfl (lc rfl (lc (vi q1) (lc (vi q2) rfl)))) rfl ?_
                    exact ih27 (i + 1) _ ⟨by omega, cnB_le _ 100, fun _ => rfl⟩ (by omega)
                · -- not taken at 141
                  refine g_iload F 6 (dk dtX7_test_1 18 rfl) rfl ?_
                  refine g_goto F 150 (dk dtX7_test_1 19 rfl) (by decide) ?_
                  refine g_istore_n F [(2, .int (nI i)), (7, .int (nI ((cnB (fun v => cbB (M 2 0) (M 5) (M 10) (M 11) (M 12) p (nI v) nn) 100) - (cnB (fun v => (fun v => cbB (M 2 0) (M 5) (M 10) (M 11) (M 12) p (nI v) nn) v && decide (nI v ≤ suR (M 2 0) (M 5) p i)) 100)))), (0, .ref (B + 0)), (1, .int (nI p)), (3, .int (nI ((tsF (fun v => cbB (M 2 0) (M 5) (M 10) (M 11) (M 12) p (nI v) nn) (fun k => (fun v => (fun v => cbB (M 2 0) (M 5) (M 10) (M 11) (M 12) p (nI v) nn) v && decide (nI v ≤ suR (M 2 0) (M 5) p k))) i).2))), (4, .int (nI (cnB (fun v => cbB (M 2 0) (M 5) (M 10) (M 11) (M 12) p (nI v) nn) 100))), (5, .int (nI i)), (6, .int (nI (cnB (fun v => (fun v => cbB (M 2 0) (M 5) (M 10) (M 11) (M 12) p (nI v) nn) v && decide (nI v ≤ suR (M 2 0) (M 5) p i)) 100)))] (dk dtX7_test_1 21 rfl) (by decide) rfl ?_
                  refine g_iload F 1 (dk dtX7_test_1 22 rfl) rfl ?_
                  refine g_iload_n F 4 (dk dtX7_test_1 23 rfl) rfl ?_
                  refine g_icmp_geN F 162 (dk dtX7_test_1 24 rfl) (by decide) (by omega) (by omega) (fun c154 => ?_) (fun c154 => ?_)
                  · -- taken at 154
                    refine g_iload_n F 4 (dk dtX7_test_1 27 rfl) rfl ?_
                    refine g_istore_n F [(3, .int (nI ((tsF (fun v => cbB (M 2 0) (M 5) (M 10) (M 11) (M 12) p (nI v) nn) (fun k => (fun v => (fun v => cbB (M 2 0) (M 5) (M 10) (M 11) (M 12) p (nI v) nn) v && decide (nI v ≤ suR (M 2 0) (M 5) p k))) i).2))), (2, .int (nI i)), (7, .int (nI ((cnB (fun v => cbB (M 2 0) (M 5) (M 10) (M 11) (M 12) p (nI v) nn) 100) - (cnB (fun v => (fun v => cbB (M 2 0) (M 5) (M 10) (M 11) (M 12) p (nI v) nn) v && decide (nI v ≤ suR (M 2 0) (M 5) p i)) 100)))), (0, .ref (B + 0)), (1, .int (nI p)), (4, .int (nI (cnB (fun v => cbB (M 2 0) (M 5) (M 10) (M 11) (M 12) p (nI v) nn) 100))), (5, .int (nI i)), (6, .int (nI (cnB (fun v => (fun v => cbB (M 2 0) (M 5) (M 10) (M 11) (M 12) p (nI v) nn) v && decide (nI v ≤ suR (M 2 0) (M 5) p i)) 100)))] (dk dtX7_test_1 28 rfl) (by decide) rfl ?_
                    refine g_iinc F 6 (nI (i + 1)) [(5, .int (nI (i + 1))), (3, .int (nI ((tsF (fun v => cbB (M 2 0) (M 5) (M 10) (M 11) (M 12) p (nI v) nn) (fun k => (fun v => (fun v => cbB (M 2 0) (M 5) (M 10) (M 11) (M 12) p (nI v) nn) v && decide (nI v ≤ suR (M 2 0) (M 5) p k))) i).2))), (2, .int (nI i)), (7, .int (nI ((cnB (fun v => cbB (M 2 0) (M 5) (M 10) (M 11) (M 12) p (nI v) nn) 100) - (cnB (fun v => (fun v => cbB (M 2 0) (M 5) (M 10) (M 11) (M 12) p (nI v) nn) v && decide (nI v ≤ suR (M 2 0) (M 5) p i)) 100)))), (0, .ref (B + 0)), (1, .int (nI p)), (4, .int (nI (cnB (fun v => cbB (M 2 0) (M 5) (M 10) (M 11) (M 12) p (nI v) nn) 100))), (6, .int (nI (cnB (fun v => (fun v => cbB (M 2 0) (M 5) (M 10) (M 11) (M 12) p (nI v) nn) v && decide (nI v ≤ suR (M 2 0) (M 5) p i)) 100)))] (dk dtX7_test_1 29 rfl) rfl (nI_1 _) (by decide) rfl ?_
                    refine g_goto F 27 (dk dtX7_test_1 30 rfl) (by decide) ?_
                    refine g_sub [4, 5, 2, 1, 6, 0] (L1 := [(0, .ref (B + 0)), (1, .int (nI p)), (2, .int (nI i)), (3, .int (nI ((tsF (fun v => cbB (M 2 0) (M 5) (M 10) (M 11) (M 12) p (nI v) nn) (fun k => (fun v => (fun v => cbB (M 2 0) (M 5) (M 10) (M 11) (M 12) p (nI v) nn) v && decide (nI v ≤ suR (M 2 0) (M 5) p k))) i).2))), (4, .int (nI (cnB (fun v => cbB (M 2 0) (M 5) (M 10) (M 11) (M 12) p (nI v) nn) 100))), (5, .int (nI (i + 1)))]) rfl ?_
                    have hg : gtr (cnB (fun v => cbB (M 2 0) (M 5) (M 10) (M 11) (M 12) p (nI v) nn) 100) (cnB (fun v => (fun v => cbB (M 2 0) (M 5) (M 10) (M 11) (M 12) p (nI v) nn) v && decide (nI v ≤ suR (M 2 0) (M 5) p i)) 100) = cnB (fun v => cbB (M 2 0) (M 5) (M 10) (M 11) (M 12) p (nI v) nn) 100 - cnB (fun v => (fun v => cbB (M 2 0) (M 5) (M 10) (M 11) (M 12) p (nI v) nn) v && decide (nI v ≤ suR (M 2 0) (M 5) p i)) 100 := if_pos c123
                    have q1 : (nI i : Int32) = (tsF (fun v => cbB (M 2 0) (M 5) (M 10) (M 11) (M 12) p (nI v) nn) (fun k => (fun v => (fun v => cbB (M 2 0) (M 5) (M 10) (M 11) (M 12) p (nI v) nn) v && decide (nI v ≤ suR (M 2 0) (M 5) p k))) (i + 1)).1 := by rw [tsF_y _ _ (by rw [hg]; omega)]
                    have q2 : (nI ((tsF (fun v => cbB (M 2 0) (M 5) (M 10) (M 11) (M 12) p (nI v) nn) (fun k => (fun v => (fun v => cbB (M 2 0) (M 5) (M 10) (M 11) (M 12) p (nI v) nn) v && decide (nI v ≤ suR (M 2 0) (M 5) p k))) i).2) : Int32) = nI ((tsF (fun v => cbB (M 2 0) (M 5) (M 10) (M 11) (M 12) p (nI v) nn) (fun k => (fun v => (fun v => cbB (M 2 0) (M 5) (M 10) (M 11) (M 12) p (nI v) nn) v && decide (nI v ≤ suR (M 2 0) (M 5) p k))) (i + 1)).2) := by rw [tsF_n _ _ (by rw [hg]; omega)]
                    refine g_st (M1 := M) (L1 := [(0, .ref (B + 0)), (1, .int (nI p)), (2, .int ((tsF (fun v => cbB (M 2 0) (M 5) (M 10) (M 11) (M 12) p (nI v) nn) (fun k => (fun v => (fun v => cbB (M 2 0) (M 5) (M 10) (M 11) (M 12) p (nI v) nn) v && decide (nI v ≤ suR (M 2 0) (M 5) p k))) (i + 1)).1)), (3, .int (nI ((tsF (fun v => cbB (M 2 0) (M 5) (M 10) (M 11) (M 12) p (nI v) nn) (fun k => (fun v => (fun v => cbB (M 2 0) (M 5) (M 10) (M 11) (M 12) p (nI v) nn) v && decide (nI v ≤ suR (M 2 0) (M 5) p k))) (i + 1)).2))), (4, .int (nI (cnB (fun v => cbB (M 2 0) (M 5) (M 10) (M 11) (M 12) p (nI v) nn) 100))), (5, .int (nI (i + 1)))]) rfl (lc rfl (lc rfl (lc (vi q1) (lc (vi q2) rfl)))) rfl ?_
                    exact ih27 (i + 1) _ ⟨by omega, cnB_le _ 100, fun _ => rfl⟩ (by omega)
                  · -- not taken at 154
                    refine g_iload F 1 (dk dtX7_test_1 25 rfl) rfl ?_
                    refine g_goto F 163 (dk dtX7_test_1 26 rfl) (by decide) ?_
                    refine g_istore_n F [(3, .int (nI ((cnB (fun v => cbB (M 2 0) (M 5) (M 10) (M 11) (M 12) p (nI v) nn) 100) - (cnB (fun v => (fun v => cbB (M 2 0) (M 5) (M 10) (M 11) (M 12) p (nI v) nn) v && decide (nI v ≤ suR (M 2 0) (M 5) p i)) 100)))), (2, .int (nI i)), (7, .int (nI ((cnB (fun v => cbB (M 2 0) (M 5) (M 10) (M 11) (M 12) p (nI v) nn) 100) - (cnB (fun v => (fun v => cbB (M 2 0) (M 5) (M 10) (M 11) (M 12) p (nI v) nn) v && decide (nI v ≤ suR (M 2 0) (M 5) p i)) 100)))), (0, .ref (B + 0)), (1, .int (nI p)), (4, .int (nI (cnB (fun v => cbB (M 2 0) (M 5) (M 10) (M 11) (M 12) p (nI v) nn) 100))), (5, .int (nI i)), (6, .int (nI (cnB (fun v => (fun v => cbB (M 2 0) (M 5) (M 10) (M 11) (M 12) p (nI v) nn) v && decide (nI v ≤ suR (M 2 0) (M 5) p i)) 100)))] (dk dtX7_test_1 28 rfl) (by decide) rfl ?_
                    refine g_iinc F 6 (nI (i + 1)) [(5, .int (nI (i + 1))), (3, .int (nI ((cnB (fun v => cbB (M 2 0) (M 5) (M 10) (M 11) (M 12) p (nI v) nn) 100) - (cnB (fun v => (fun v => cbB (M 2 0) (M 5) (M 10) (M 11) (M 12) p (nI v) nn) v && decide (nI v ≤ suR (M 2 0) (M 5) p i)) 100)))), (2, .int (nI i)), (7, .int (nI ((cnB (fun v => cbB (M 2 0) (M 5) (M 10) (M 11) (M 12) p (nI v) nn) 100) - (cnB (fun v => (fun v => cbB (M 2 0) (M 5) (M 10) (M 11) (M 12) p (nI v) nn) v && decide (nI v ≤ suR (M 2 0) (M 5) p i)) 100)))), (0, .ref (B + 0)), (1, .int (nI p)), (4, .int (nI (cnB (fun v => cbB (M 2 0) (M 5) (M 10) (M 11) (M 12) p (nI v) nn) 100))), (6, .int (nI (cnB (fun v => (fun v => cbB (M 2 0) (M 5) (M 10) (M 11) (M 12) p (nI v) nn) v && decide (nI v ≤ suR (M 2 0) (M 5) p i)) 100)))] (dk dtX7_test_1 29 rfl) rfl (nI_1 _) (by decide) rfl ?_
                    refine g_goto F 27 (dk dtX7_test_1 30 rfl) (by decide) ?_
                    refine g_sub [4, 5, 2, 1, 6, 0] (L1 := [(0, .ref (B + 0)), (1, .int (nI p)), (2, .int (nI i)), (3, .int (nI ((cnB (fun v => cbB (M 2 0) (M 5) (M 10) (M 11) (M 12) p (nI v) nn) 100) - (cnB (fun v => (fun v => cbB (M 2 0) (M 5) (M 10) (M 11) (M 12) p (nI v) nn) v && decide (nI v ≤ suR (M 2 0) (M 5) p i)) 100)))), (4, .int (nI (cnB (fun v => cbB (M 2 0) (M 5) (M 10) (M 11) (M 12) p (nI v) nn) 100))), (5, .int (nI (i + 1)))]) rfl ?_
                    have hg : gtr (cnB (fun v => cbB (M 2 0) (M 5) (M 10) (M 11) (M 12) p (nI v) nn) 100) (cnB (fun v => (fun v => cbB (M 2 0) (M 5) (M 10) (M 11) (M 12) p (nI v) nn) v && decide (nI v ≤ suR (M 2 0) (M 5) p i)) 100) = cnB (fun v => cbB (M 2 0) (M 5) (M 10) (M 11) (M 12) p (nI v) nn) 100 - cnB (fun v => (fun v => cbB (M 2 0) (M 5) (M 10) (M 11) (M 12) p (nI v) nn) v && decide (nI v ≤ suR (M 2 0) (M 5) p i)) 100 := if_pos c123
                    have q1 : (nI i : Int32) = (tsF (fun v => cbB (M 2 0) (M 5) (M 10) (M 11) (M 12) p (nI v) nn) (fun k => (fun v => (fun v => cbB (M 2 0) (M 5) (M 10) (M 11) (M 12) p (nI v) nn) v && decide (nI v ≤ suR (M 2 0) (M 5) p k))) (i + 1)).1 := by rw [tsF_y _ _ (by rw [hg]; omega)]
                    have q2 : (nI ((cnB (fun v => cbB (M 2 0) (M 5) (M 10) (M 11) (M 12) p (nI v) nn) 100) - (cnB (fun v => (fun v => cbB (M 2 0) (M 5) (M 10) (M 11) (M 12) p (nI v) nn) v && decide (nI v ≤ suR (M 2 0) (M 5) p i)) 100)) : Int32) = nI ((tsF (fun v => cbB (M 2 0) (M 5) (M 10) (M 11) (M 12) p (nI v) nn) (fun k => (fun v => (fun v => cbB (M 2 0) (M 5) (M 10) (M 11) (M 12) p (nI v) nn) v && decide (nI v ≤ suR (M 2 0) (M 5) p k))) (i + 1)).2) := by rw [tsF_y _ _ (by rw [hg]; omega), hg]
                    refine g_st (M1 := M) (L1 := [(0, .ref (B + 0)), (1, .int (nI p)), (2, .int ((tsF (fun v => cbB (M 2 0) (M 5) (M 10) (M 11) (M 12) p (nI v) nn) (fun k => (fun v => (fun v => cbB (M 2 0) (M 5) (M 10) (M 11) (M 12) p (nI v) nn) v && decide (nI v ≤ suR (M 2 0) (M 5) p k))) (i + 1)).1)), (3, .int (nI ((tsF (fun v => cbB (M 2 0) (M 5) (M 10) (M 11) (M 12) p (nI v) nn) (fun k => (fun v => (fun v => cbB (M 2 0) (M 5) (M 10) (M 11) (M 12) p (nI v) nn) v && decide (nI v ≤ suR (M 2 0) (M 5) p k))) (i + 1)).2))), (4, .int (nI (cnB (fun v => cbB (M 2 0) (M 5) (M 10) (M 11) (M 12) p (nI v) nn) 100))), (5, .int (nI (i + 1)))]) rfl (lc rfl (lc rfl (lc (vi q1) (lc (vi q2) rfl)))) rfl ?_
                    exact ih27 (i + 1) _ ⟨by omega, cnB_le _ 100, fun _ => rfl⟩ (by omega)
              · -- not taken at 123
                refine g_iload F 6 (dk dtX7_test_1 9 rfl) rfl ?_
                refine g_goto F 136 (dk dtX7_test_1 10 rfl) (by decide) ?_
                refine g_istore F [(7, .int (nI (cnB (fun v => (fun v => cbB (M 2 0) (M 5) (M 10) (M 11) (M 12) p (nI v) nn) v && decide (nI v ≤ suR (M 2 0) (M 5) p i)) 100))), (0, .ref (B + 0)), (1, .int (nI p)), (2, .int ((tsF (fun v => cbB (M 2 0) (M 5) (M 10) (M 11) (M 12) p (nI v) nn) (fun k => (fun v => (fun v => cbB (M 2 0) (M 5) (M 10) (M 11) (M 12) p (nI v) nn) v && decide (nI v ≤ suR (M 2 0) (M 5) p k))) i).1)), (3, .int (nI ((tsF (fun v => cbB (M 2 0) (M 5) (M 10) (M 11) (M 12) p (nI v) nn) (fun k => (fun v => (fun v => cbB (M 2 0) (M 5) (M 10) (M 11) (M 12) p (nI v) nn) v && decide (nI v ≤ suR (M 2 0) (M 5) p k))) i).2))), (4, .int (nI (cnB (fun v => cbB (M 2 0) (M 5) (M 10) (M 11) (M 12) p (nI v) nn) 100))), (5, .int (nI i)), (6, .int (nI (cnB (fun v => (fun v => cbB (M 2 0) (M 5) (M 10) (M 11) (M 12) p (nI v) nn) v && decide (nI v ≤ suR (M 2 0) (M 5) p i)) 100)))] (dk dtX7_test_1 14 rfl) (by decide) rfl ?_
                refine g_iload F 0 (dk dtX7_test_1 15 rfl) rfl ?_
                refine g_iload_n F 4 (dk dtX7_test_1 16 rfl) rfl ?_
                refine g_icmp_geN F 149 (dk dtX7_test_1 17 rfl) (by decide) (by omega) (by omega) (fun c141 => ?_) (fun c141 => ?_)
                · -- taken at 141
                  refine g_iload_n F 3 (dk dtX7_test_1 20 rfl) rfl ?_
                  refine g_istore_n F [(2, .int ((tsF (fun v => cbB (M 2 0) (M 5) (M 10) (M 11) (M 12) p (nI v) nn) (fun k => (fun v => (fun v => cbB (M 2 0) (M 5) (M 10) (M 11) (M 12) p (nI v) nn) v && decide (nI v ≤ suR (M 2 0) (M 5) p k))) i).1)), (7, .int (nI (cnB (fun v => (fun v => cbB (M 2 0) (M 5) (M 10) (M 11) (M 12) p (nI v) nn) v && decide (nI v ≤ suR (M 2 0) (M 5) p i)) 100))), (0, .ref (B + 0)), (1, .int (nI p)), (3, .int (nI ((tsF (fun v => cbB (M 2 0) (M 5) (M 10) (M 11) (M 12) p (nI v) nn) (fun k => (fun v => (fun v => cbB (M 2 0) (M 5) (M 10) (M 11) (M 12) p (nI v) nn) v && decide (nI v ≤ suR (M 2 0) (M 5) p k))) i).2))), (4, .int (nI (cnB (fun v => cbB (M 2 0) (M 5) (M 10) (M 11) (M 12) p (nI v) nn) 100))), (5, .int (nI i)), (6, .int (nI (cnB (fun v => (fun v => cbB (M 2 0) (M 5) (M 10) (M 11) (M 12) p (nI v) nn) v && decide (nI v ≤ suR (M 2 0) (M 5) p i)) 100)))] (dk dtX7_test_1 21 rfl) (by decide) rfl ?_
                  refine g_iload F 1 (dk dtX7_test_1 22 rfl) rfl ?_
                  refine g_iload_n F 4 (dk dtX7_test_1 23 rfl) rfl ?_
                  refine g_icmp_geN F 162 (dk dtX7_test_1 24 rfl) (by decide) (by omega) (by omega) (fun c154 => ?_) (fun c154 => ?_)
                  · -- taken at 154
                    refine g_iload_n F 4 (dk dtX7_test_1 27 rfl) rfl ?_
                    refine g_istore_n F [(3, .int (nI ((tsF (fun v => cbB (M 2 0) (M 5) (M 10) (M 11) (M 12) p (nI v) nn) (fun k => (fun v => (fun v => cbB (M 2 0) (M 5) (M 10) (M 11) (M 12) p (nI v) nn) v && decide (nI v ≤ suR (M 2 0) (M 5) p k))) i).2))), (2, .int ((tsF (fun v => cbB (M 2 0) (M 5) (M 10) (M 11) (M 12) p (nI v) nn) (fun k => (fun v => (fun v => cbB (M 2 0) (M 5) (M 10) (M 11) (M 12) p (nI v) nn) v && decide (nI v ≤ suR (M 2 0) (M 5) p k))) i).1)), (7, .int (nI (cnB (fun v => (fun v => cbB (M 2 0) (M 5) (M 10) (M 11) (M 12) p (nI v) nn) v && decide (nI v ≤ suR (M 2 0) (M 5) p i)) 100))), (0, .ref (B + 0)), (1, .int (nI p)), (4, .int (nI (cnB (fun v => cbB (M 2 0) (M 5) (M 10) (M 11) (M 12) p (nI v) nn) 100))), (5, .int (nI i)), (6, .int (nI (cnB (fun v => (fun v => cbB (M 2 0) (M 5) (M 10) (M 11) (M 12) p (nI v) nn) v && decide (nI v ≤ suR (M 2 0) (M 5) p i)) 100)))] (dk dtX7_test_1 28 rfl) (by decide) rfl ?_
                    refine g_iinc F 6 (nI (i + 1)) [(5, .int (nI (i + 1))), (3, .int (nI ((tsF (fun v => cbB (M 2 0) (M 5) (M 10) (M 11) (M 12) p (nI v) nn) (fun k => (fun v => (fun v => cbB (M 2 0) (M 5) (M 10) (M 11) (M 12) p (nI v) nn) v && decide (nI v ≤ suR (M 2 0) (M 5) p k))) i).2))), (2, .int ((tsF (fun v => cbB (M 2 0) (M 5) (M 10) (M 11) (M 12) p (nI v) nn) (fun k => (fun v => (fun v => cbB (M 2 0) (M 5) (M 10) (M 11) (M 12) p (nI v) nn) v && decide (nI v ≤ suR (M 2 0) (M 5) p k))) i).1)), (7, .int (nI (cnB (fun v => (fun v => cbB (M 2 0) (M 5) (M 10) (M 11) (M 12) p (nI v) nn) v && decide (nI v ≤ suR (M 2 0) (M 5) p i)) 100))), (0, .ref (B + 0)), (1, .int (nI p)), (4, .int (nI (cnB (fun v => cbB (M 2 0) (M 5) (M 10) (M 11) (M 12) p (nI v) nn) 100))), (6, .int (nI (cnB (fun v => (fun v => cbB (M 2 0) (M 5) (M 10) (M 11) (M 12) p (nI v) nn) v && decide (nI v ≤ suR (M 2 0) (M 5) p i)) 100)))] (dk dtX7_test_1 29 rfl) rfl (nI_1 _) (by decide) rfl ?_
                    refine g_goto F 27 (dk dtX7_test_1 30 rfl) (by decide) ?_
                    refine g_sub [4, 5, 2, 1, 6, 0] (L1 := [(0, .ref (B + 0)), (1, .int (nI p)), (2, .int ((tsF (fun v => cbB (M 2 0) (M 5) (M 10) (M 11) (M 12) p (nI v) nn) (fun k => (fun v => (fun v => cbB (M 2 0) (M 5) (M 10) (M 11) (M 12) p (nI v) nn) v && decide (nI v ≤ suR (M 2 0) (M 5) p k))) i).1)), (3, .int (nI ((tsF (fun v => cbB (M 2 0) (M 5) (M 10) (M 11) (M 12) p (nI v) nn) (fun k => (fun v => (fun v => cbB (M 2 0) (M 5) (M 10) (M 11) (M 12) p (nI v) nn) v && decide (nI v ≤ suR (M 2 0) (M 5) p k))) i).2))), (4, .int (nI (cnB (fun v => cbB (M 2 0) (M 5) (M 10) (M 11) (M 12) p (nI v) nn) 100))), (5, .int (nI (i + 1)))]) rfl ?_
                    have hg : gtr (cnB (fun v => cbB (M 2 0) (M 5) (M 10) (M 11) (M 12) p (nI v) nn) 100) (cnB (fun v => (fun v => cbB (M 2 0) (M 5) (M 10) (M 11) (M 12) p (nI v) nn) v && decide (nI v ≤ suR (M 2 0) (M 5) p i)) 100) = cnB (fun v => (fun v => cbB (M 2 0) (M 5) (M 10) (M 11) (M 12) p (nI v) nn) v && decide (nI v ≤ suR (M 2 0) (M 5) p i)) 100 := if_neg c123
                    have q1 : ((tsF (fun v => cbB (M 2 0) (M 5) (M 10) (M 11) (M 12) p (nI v) nn) (fun k => (fun v => (fun v => cbB (M 2 0) (M 5) (M 10) (M 11) (M 12) p (nI v) nn) v && decide (nI v ≤ suR (M 2 0) (M 5) p k))) i).1 : Int32) = (tsF (fun v => cbB (M 2 0) (M 5) (M 10) (M 11) (M 12) p (nI v) nn) (fun k => (fun v => (fun v => cbB (M 2 0) (M 5) (M 10) (M 11) (M 12) p (nI v) nn) v && decide (nI v ≤ suR (M 2 0) (M 5) p k))) (i + 1)).1 := by rw [tsF_n _ _ (by rw [hg]; omega)]
                    have q2 : (nI ((tsF (fun v => cbB (M 2 0) (M 5) (M 10) (M 11) (M 12) p (nI v) nn) (fun k => (fun v => (fun v => cbB (M 2 0) (M 5) (M 10) (M 11) (M 12) p (nI v) nn) v && decide (nI v ≤ suR (M 2 0) (M 5) p k))) i).2) : Int32) = nI ((tsF (fun v => cbB (M 2 0) (M 5) (M 10) (M 11) (M 12) p (nI v) nn) (fun k => (fun v => (fun v => cbB (M 2 0) (M 5) (M 10) (M 11) (M 12) p (nI v) nn) v && decide (nI v ≤ suR (M 2 0) (M 5) p k))) (i + 1)).2) := by rw [tsF_n _ _ (by rw [hg]; omega)]
                    refine g_st (M1 := M) (L1 := [(0, .ref (B + 0)), (1, .int (nI p)), (2, .int ((tsF (fun v => cbB (M 2 0) (M 5) (M 10) (M 11) (M 12) p (nI v) nn) (fun k => (fun v => (fun v => cbB (M 2 0) (M 5) (M 10) (M 11) (M 12) p (nI v) nn) v && decide (nI v ≤ suR (M 2 0) (M 5) p k))) (i + 1)).1)), (3, .int (nI ((tsF (fun v => cbB (M 2 0) (M 5) (M 10) (M 11) (M 12) p (nI v) nn) (fun k => (fun v => (fun v => cbB (M 2 0) (M 5) (M 10) (M 11) (M 12) p (nI v) nn) v && decide (nI v ≤ suR (M 2 0) (M 5) p k))) (i + 1)).2))), (4, .int (nI (cnB (fun v => cbB (M 2 0) (M 5) (M 10) (M 11) (M 12) p (nI v) nn) 100))), (5, .int (nI (i + 1)))]) rfl (lc rfl (lc rfl (lc (vi q1) (lc (vi q2) rfl)))) rfl ?_
                    exact ih27 (i + 1) _ ⟨by omega, cnB_le _ 100, fun _ => rfl⟩ (by omega)
                  · -- not taken at 154
                    refine g_iload F 1 (dk dtX7_test_1 25 rfl) rfl ?_
                    refine g_goto F 163 (dk dtX7_test_1 26 rfl) (by decide) ?_
                    refine g_istore_n F [(3, .int (nI (cnB (fun v => (fun v => cbB (M 2 0) (M 5) (M 10) (M 11) (M 12) p (nI v) nn) v && decide (nI v ≤ suR (M 2 0) (M 5) p i)) 100))), (2, .int ((tsF (fun v => cbB (M 2 0) (M 5) (M 10) (M 11) (M 12) p (nI v) nn) (fun k => (fun v => (fun v => cbB (M 2 0) (M 5) (M 10) (M 11) (M 12) p (nI v) nn) v && decide (nI v ≤ suR (M 2 0) (M 5) p k))) i).1)), (7, .int (nI (cnB (fun v => (fun v => cbB (M 2 0) (M 5) (M 10) (M 11) (M 12) p (nI v) nn) v && decide (nI v ≤ suR (M 2 0) (M 5) p i)) 100))), (0, .ref (B + 0)), (1, .int (nI p)), (4, .int (nI (cnB (fun v => cbB (M 2 0) (M 5) (M 10) (M 11) (M 12) p (nI v) nn) 100))), (5, .int (nI i)), (6, .int (nI (cnB (fun v => (fun v => cbB (M 2 0) (M 5) (M 10) (M 11) (M 12) p (nI v) nn) v && decide (nI v ≤ suR (M 2 0) (M 5) p i)) 100)))] (dk dtX7_test_1 28 rfl) (by decide) rfl ?_
                    refine g_iinc F 6 (nI (i + 1)) [(5, .int (nI (i + 1))), (3, .int (nI (cnB (fun v => (fun v => cbB (M 2 0) (M 5) (M 10) (M 11) (M 12) p (nI v) nn) v && decide (nI v ≤ suR (M 2 0) (M 5) p i)) 100))), (2, .int ((tsF (fun v => cbB (M 2 0) (M 5) (M 10) (M 11) (M 12) p (nI v) nn) (fun k => (fun v => (fun v => cbB (M 2 0) (M 5) (M 10) (M 11) (M 12) p (nI v) nn) v && decide (nI v ≤ suR (M 2 0) (M 5) p k))) i).1)), (7, .int (nI (cnB (fun v => (fun v => cbB (M 2 0) (M 5) (M 10) (M 11) (M 12) p (nI v) nn) v && decide (nI v ≤ suR (M 2 0) (M 5) p i)) 100))), (0, .ref (B + 0)), (1, .int (nI p)), (4, .int (nI (cnB (fun v => cbB (M 2 0) (M 5) (M 10) (M 11) (M 12) p (nI v) nn) 100))), (6, .int (nI (cnB (fun v => (fun v => cbB (M 2 0) (M 5) (M 10) (M 11) (M 12) p (nI v) nn) v && decide (nI v ≤ suR (M 2 0) (M 5) p i)) 100)))] (dk dtX7_test_1 29 rfl) rfl (nI_1 _) (by decide) rfl ?_
                    refine g_goto F 27 (dk dtX7_test_1 30 rfl) (by decide) ?_
                    refine g_sub [4, 5, 2, 1, 6, 0] (L1 := [(0, .ref (B + 0)), (1, .int (nI p)), (2, .int ((tsF (fun v => cbB (M 2 0) (M 5) (M 10) (M 11) (M 12) p (nI v) nn) (fun k => (fun v => (fun v => cbB (M 2 0) (M 5) (M 10) (M 11) (M 12) p (nI v) nn) v && decide (nI v ≤ suR (M 2 0) (M 5) p k))) i).1)), (3, .int (nI (cnB (fun v => (fun v => cbB (M 2 0) (M 5) (M 10) (M 11) (M 12) p (nI v) nn) v && decide (nI v ≤ suR (M 2 0) (M 5) p i)) 100))), (4, .int (nI (cnB (fun v => cbB (M 2 0) (M 5) (M 10) (M 11) (M 12) p (nI v) nn) 100))), (5, .int (nI (i + 1)))]) rfl ?_
                    have hg : gtr (cnB (fun v => cbB (M 2 0) (M 5) (M 10) (M 11) (M 12) p (nI v) nn) 100) (cnB (fun v => (fun v => cbB (M 2 0) (M 5) (M 10) (M 11) (M 12) p (nI v) nn) v && decide (nI v ≤ suR (M 2 0) (M 5) p i)) 100) = cnB (fun v => (fun v => cbB (M 2 0) (M 5) (M 10) (M 11) (M 12) p (nI v) nn) v && decide (nI v ≤ suR (M 2 0) (M 5) p i)) 100 := if_neg c123
                    have q1 : ((tsF (fun v => cbB (M 2 0) (M 5) (M 10) (M 11) (M 12) p (nI v) nn) (fun k => (fun v => (fun v => cbB (M 2 0) (M 5) (M 10) (M 11) (M 12) p (nI v) nn) v && decide (nI v ≤ suR (M 2 0) (M 5) p k))) i).1 : Int32) = (tsF (fun v => cbB (M 2 0) (M 5) (M 10) (M 11) (M 12) p (nI v) nn) (fun k => (fun v => (fun v => cbB (M 2 0) (M 5) (M 10) (M 11) (M 12) p (nI v) nn) v && decide (nI v ≤ suR (M 2 0) (M 5) p k))) (i + 1)).1 := by rw [tsF_n _ _ (by rw [hg]; omega)]
                    have q2 : (nI (cnB (fun v => (fun v => cbB (M 2 0) (M 5) (M 10) (M 11) (M 12) p (nI v) nn) v && decide (nI v ≤ suR (M 2 0) (M 5) p i)) 100) : Int32) = nI ((tsF (fun v => cbB (M 2 0) (M 5) (M 10) (M 11) (M 12) p (nI v) nn) (fun k => (fun v => (fun v => cbB (M 2 0) (M 5) (M 10) (M 11) (M 12) p (nI v) nn) v && decide (nI v ≤ suR (M 2 0) (M 5) p k))) (i + 1)).2) := by rw [tsF_y _ _ (by rw [hg]; omega), hg]
                    refine g_st (M1 := M) (L1 := [(0, .ref (B + 0)), (1, .int (nI p)), (2, .int ((tsF (fun v => cbB (M 2 0) (M 5) (M 10) (M 11) (M 12) p (nI v) nn) (fun k => (fun v => (fun v => cbB (M 2 0) (M 5) (M 10) (M 11) (M 12) p (nI v) nn) v && decide (nI v ≤ suR (M 2 0) (M 5) p k))) (i + 1)).1)), (3, .int (nI ((tsF (fun v => cbB (M 2 0) (M 5) (M 10) (M 11) (M 12) p (nI v) nn) (fun k => (fun v => (fun v => cbB (M 2 0) (M 5) (M 10) (M 11) (M 12) p (nI v) nn) v && decide (nI v ≤ suR (M 2 0) (M 5) p k))) (i + 1)).2))), (4, .int (nI (cnB (fun v => cbB (M 2 0) (M 5) (M 10) (M 11) (M 12) p (nI v) nn) 100))), (5, .int (nI (i + 1)))]) rfl (lc rfl (lc rfl (lc (vi q1) (lc (vi q2) rfl)))) rfl ?_
                    exact ih27 (i + 1) _ ⟨by omega, cnB_le _ 100, fun _ => rfl⟩ (by omega)
                · -- not taken at 141
                  refine g_iload F 6 (dk dtX7_test_1 18 rfl) rfl ?_
                  refine g_goto F 150 (dk dtX7_test_1 19 rfl) (by decide) ?_
                  refine g_istore_n F [(2, .int (nI i)), (7, .int (nI (cnB (fun v => (fun v => cbB (M 2 0) (M 5) (M 10) (M 11) (M 12) p (nI v) nn) v && decide (nI v ≤ suR (M 2 0) (M 5) p i)) 100))), (0, .ref (B + 0)), (1, .int (nI p)), (3, .int (nI ((tsF (fun v => cbB (M 2 0) (M 5) (M 10) (M 11) (M 12) p (nI v) nn) (fun k => (fun v => (fun v => cbB (M 2 0) (M 5) (M 10) (M 11) (M 12) p (nI v) nn) v && decide (nI v ≤ suR (M 2 0) (M 5) p k))) i).2))), (4, .int (nI (cnB (fun v => cbB (M 2 0) (M 5) (M 10) (M 11) (M 12) p (nI v) nn) 100))), (5, .int (nI i)), (6, .int (nI (cnB (fun v => (fun v => cbB (M 2 0) (M 5) (M 10) (M 11) (M 12) p (nI v) nn) v && decide (nI v ≤ suR (M 2 0) (M 5) p i)) 100)))] (dk dtX7_test_1 21 rfl) (by decide) rfl ?_
                  refine g_iload F 1 (dk dtX7_test_1 22 rfl) rfl ?_
                  refine g_iload_n F 4 (dk dtX7_test_1 23 rfl) rfl ?_
                  refine g_icmp_geN F 162 (dk dtX7_test_1 24 rfl) (by decide) (by omega) (by omega) (fun c154 => ?_) (fun c154 => ?_)
                  · -- taken at 154
                    refine g_iload_n F 4 (dk dtX7_test_1 27 rfl) rfl ?_
                    refine g_istore_n F [(3, .int (nI ((tsF (fun v => cbB (M 2 0) (M 5) (M 10) (M 11) (M 12) p (nI v) nn) (fun k => (fun v => (fun v => cbB (M 2 0) (M 5) (M 10) (M 11) (M 12) p (nI v) nn) v && decide (nI v ≤ suR (M 2 0) (M 5) p k))) i).2))), (2, .int (nI i)), (7, .int (nI (cnB (fun v => (fun v => cbB (M 2 0) (M 5) (M 10) (M 11) (M 12) p (nI v) nn) v && decide (nI v ≤ suR (M 2 0) (M 5) p i)) 100))), (0, .ref (B + 0)), (1, .int (nI p)), (4, .int (nI (cnB (fun v => cbB (M 2 0) (M 5) (M 10) (M 11) (M 12) p (nI v) nn) 100))), (5, .int (nI i)), (6, .int (nI (cnB (fun v => (fun v => cbB (M 2 0) (M 5) (M 10) (M 11) (M 12) p (nI v) nn) v && decide (nI v ≤ suR (M 2 0) (M 5) p i)) 100)))] (dk dtX7_test_1 28 rfl) (by decide) rfl ?_
                    refine g_iinc F 6 (nI (i + 1)) [(5, .int (nI (i + 1))), (3, .int (nI ((tsF (fun v => cbB (M 2 0) (M 5) (M 10) (M 11) (M 12) p (nI v) nn) (fun k => (fun v => (fun v => cbB (M 2 0) (M 5) (M 10) (M 11) (M 12) p (nI v) nn) v && decide (nI v ≤ suR (M 2 0) (M 5) p k))) i).2))), (2, .int (nI i)), (7, .int (nI (cnB (fun v => (fun v => cbB (M 2 0) (M 5) (M 10) (M 11) (M 12) p (nI v) nn) v && decide (nI v ≤ suR (M 2 0) (M 5) p i)) 100))), (0, .ref (B + 0)), (1, .int (nI p)), (4, .int (nI (cnB (fun v => cbB (M 2 0) (M 5) (M 10) (M 11) (M 12) p (nI v) nn) 100))), (6, .int (nI (cnB (fun v => (fun v => cbB (M 2 0) (M 5) (M 10) (M 11) (M 12) p (nI v) nn) v && decide (nI v ≤ suR (M 2 0) (M 5) p i)) 100)))] (dk dtX7_test_1 29 rfl) rfl (nI_1 _) (by decide) rfl ?_
                    refine g_goto F 27 (dk dtX7_test_1 30 rfl) (by decide) ?_
                    refine g_sub [4, 5, 2, 1, 6, 0] (L1 := [(0, .ref (B + 0)), (1, .int (nI p)), (2, .int (nI i)), (3, .int (nI ((tsF (fun v => cbB (M 2 0) (M 5) (M 10) (M 11) (M 12) p (nI v) nn) (fun k => (fun v => (fun v => cbB (M 2 0) (M 5) (M 10) (M 11) (M 12) p (nI v) nn) v && decide (nI v ≤ suR (M 2 0) (M 5) p k))) i).2))), (4, .int (nI (cnB (fun v => cbB (M 2 0) (M 5) (M 10) (M 11) (M 12) p (nI v) nn) 100))), (5, .int (nI (i + 1)))]) rfl ?_
                    have hg : gtr (cnB (fun v => cbB (M 2 0) (M 5) (M 10) (M 11) (M 12) p (nI v) nn) 100) (cnB (fun v => (fun v => cbB (M 2 0) (M 5) (M 10) (M 11) (M 12) p (nI v) nn) v && decide (nI v ≤ suR (M 2 0) (M 5) p i)) 100) = cnB (fun v => (fun v => cbB (M 2 0) (M 5) (M 10) (M 11) (M 12) p (nI v) nn) v && decide (nI v ≤ suR (M 2 0) (M 5) p i)) 100 := if_neg c123
                    have q1 : (nI i : Int32) = (tsF (fun v => cbB (M 2 0) (M 5) (M 10) (M 11) (M 12) p (nI v) nn) (fun k => (fun v => (fun v => cbB (M 2 0) (M 5) (M 10) (M 11) (M 12) p (nI v) nn) v && decide (nI v ≤ suR (M 2 0) (M 5) p k))) (i + 1)).1 := by rw [tsF_y _ _ (by rw [hg]; omega)]
                    have q2 : (nI ((tsF (fun v => cbB (M 2 0) (M 5) (M 10) (M 11) (M 12) p (nI v) nn) (fun k => (fun v => (fun v => cbB (M 2 0) (M 5) (M 10) (M 11) (M 12) p (nI v) nn) v && decide (nI v ≤ suR (M 2 0) (M 5) p k))) i).2) : Int32) = nI ((tsF (fun v => cbB (M 2 0) (M 5) (M 10) (M 11) (M 12) p (nI v) nn) (fun k => (fun v => (fun v => cbB (M 2 0) (M 5) (M 10) (M 11) (M 12) p (nI v) nn) v && decide (nI v ≤ suR (M 2 0) (M 5) p k))) (i + 1)).2) := by rw [tsF_n _ _ (by rw [hg]; omega)]
                    refine g_st (M1 := M) (L1 := [(0, .ref (B + 0)), (1, .int (nI p)), (2, .int ((tsF (fun v => cbB (M 2 0) (M 5) (M 10) (M 11) (M 12) p (nI v) nn) (fun k => (fun v => (fun v => cbB (M 2 0) (M 5) (M 10) (M 11) (M 12) p (nI v) nn) v && decide (nI v ≤ suR (M 2 0) (M 5) p k))) (i + 1)).1)), (3, .int (nI ((tsF (fun v => cbB (M 2 0) (M 5) (M 10) (M 11) (M 12) p (nI v) nn) (fun k => (fun v => (fun v => cbB (M 2 0) (M 5) (M 10) (M 11) (M 12) p (nI v) nn) v && decide (nI v ≤ suR (M 2 0) (M 5) p k))) (i + 1)).2))), (4, .int (nI (cnB (fun v => cbB (M 2 0) (M 5) (M 10) (M 11) (M 12) p (nI v) nn) 100))), (5, .int (nI (i + 1)))]) rfl (lc rfl (lc rfl (lc (vi q1) (lc (vi q2) rfl)))) rfl ?_
                    exact ih27 (i + 1) _ ⟨by omega, cnB_le _ 100, fun _ => rfl⟩ (by omega)
                  · -- not taken at 154
                    refine g_iload F 1 (dk dtX7_test_1 25 rfl) rfl ?_
                    refine g_goto F 163 (dk dtX7_test_1 26 rfl) (by decide) ?_
                    refine g_istore_n F [(3, .int (nI (cnB (fun v => (fun v => cbB (M 2 0) (M 5) (M 10) (M 11) (M 12) p (nI v) nn) v && decide (nI v ≤ suR (M 2 0) (M 5) p i)) 100))), (2, .int (nI i)), (7, .int (nI (cnB (fun v => (fun v => cbB (M 2 0) (M 5) (M 10) (M 11) (M 12) p (nI v) nn) v && decide (nI v ≤ suR (M 2 0) (M 5) p i)) 100))), (0, .ref (B + 0)), (1, .int (nI p)), (4, .int (nI (cnB (fun v => cbB (M 2 0) (M 5) (M 10) (M 11) (M 12) p (nI v) nn) 100))), (5, .int (nI i)), (6, .int (nI (cnB (fun v => (fun v => cbB (M 2 0) (M 5) (M 10) (M 11) (M 12) p (nI v) nn) v && decide (nI v ≤ suR (M 2 0) (M 5) p i)) 100)))] (dk dtX7_test_1 28 rfl) (by decide) rfl ?_
                    refine g_iinc F 6 (nI (i + 1)) [(5, .int (nI (i + 1))), (3, .int (nI (cnB (fun v => (fun v => cbB (M 2 0) (M 5) (M 10) (M 11) (M 12) p (nI v) nn) v && decide (nI v ≤ suR (M 2 0) (M 5) p i)) 100))), (2, .int (nI i)), (7, .int (nI (cnB (fun v => (fun v => cbB (M 2 0) (M 5) (M 10) (M 11) (M 12) p (nI v) nn) v && decide (nI v ≤ suR (M 2 0) (M 5) p i)) 100))), (0, .ref (B + 0)), (1, .int (nI p)), (4, .int (nI (cnB (fun v => cbB (M 2 0) (M 5) (M 10) (M 11) (M 12) p (nI v) nn) 100))), (6, .int (nI (cnB (fun v => (fun v => cbB (M 2 0) (M 5) (M 10) (M 11) (M 12) p (nI v) nn) v && decide (nI v ≤ suR (M 2 0) (M 5) p i)) 100)))] (dk dtX7_test_1 29 rfl) rfl (nI_1 _) (by decide) rfl ?_
                    refine g_goto F 27 (dk dtX7_test_1 30 rfl) (by decide) ?_
                    refine g_sub [4, 5, 2, 1, 6, 0] (L1 := [(0, .ref (B + 0)), (1, .int (nI p)), (2, .int (nI i)), (3, .int (nI (cnB (fun v => (fun v => cbB (M 2 0) (M 5) (M 10) (M 11) (M 12) p (nI v) nn) v && decide (nI v ≤ suR (M 2 0) (M 5) p i)) 100))), (4, .int (nI (cnB (fun v => cbB (M 2 0) (M 5) (M 10) (M 11) (M 12) p (nI v) nn) 100))), (5, .int (nI (i + 1)))]) rfl ?_
                    have hg : gtr (cnB (fun v => cbB (M 2 0) (M 5) (M 10) (M 11) (M 12) p (nI v) nn) 100) (cnB (fun v => (fun v => cbB (M 2 0) (M 5) (M 10) (M 11) (M 12) p (nI v) nn) v && decide (nI v ≤ suR (M 2 0) (M 5) p i)) 100) = cnB (fun v => (fun v => cbB (M 2 0) (M 5) (M 10) (M 11) (M 12) p (nI v) nn) v && decide (nI v ≤ suR (M 2 0) (M 5) p i)) 100 := if_neg c123
                    have q1 : (nI i : Int32) = (tsF (fun v => cbB (M 2 0) (M 5) (M 10) (M 11) (M 12) p (nI v) nn) (fun k => (fun v => (fun v => cbB (M 2 0) (M 5) (M 10) (M 11) (M 12) p (nI v) nn) v && decide (nI v ≤ suR (M 2 0) (M 5) p k))) (i + 1)).1 := by rw [tsF_y _ _ (by rw [hg]; omega)]
                    have q2 : (nI (cnB (fun v => (fun v => cbB (M 2 0) (M 5) (M 10) (M 11) (M 12) p (nI v) nn) v && decide (nI v ≤ suR (M 2 0) (M 5) p i)) 100) : Int32) = nI ((tsF (fun v => cbB (M 2 0) (M 5) (M 10) (M 11) (M 12) p (nI v) nn) (fun k => (fun v => (fun v => cbB (M 2 0) (M 5) (M 10) (M 11) (M 12) p (nI v) nn) v && decide (nI v ≤ suR (M 2 0) (M 5) p k))) (i + 1)).2) := by rw [tsF_y _ _ (by rw [hg]; omega), hg]
                    refine g_st (M1 := M) (L1 := [(0, .ref (B + 0)), (1, .int (nI p)), (2, .int ((tsF (fun v => cbB (M 2 0) (M 5) (M 10) (M 11) (M 12) p (nI v) nn) (fun k => (fun v => (fun v => cbB (M 2 0) (M 5) (M 10) (M 11) (M 12) p (nI v) nn) v && decide (nI v ≤ suR (M 2 0) (M 5) p k))) (i + 1)).1)), (3, .int (nI ((tsF (fun v => cbB (M 2 0) (M 5) (M 10) (M 11) (M 12) p (nI v) nn) (fun k => (fun v => (fun v => cbB (M 2 0) (M 5) (M 10) (M 11) (M 12) p (nI v) nn) v && decide (nI v ≤ suR (M 2 0) (M 5) p k))) (i + 1)).2))), (4, .int (nI (cnB (fun v => cbB (M 2 0) (M 5) (M 10) (M 11) (M 12) p (nI v) nn) 100))), (5, .int (nI (i + 1)))]) rfl (lc rfl (lc rfl (lc (vi q1) (lc (vi q2) rfl)))) rfl ?_
                    exact ih27 (i + 1) _ ⟨by omega, cnB_le _ 100, fun _ => rfl⟩ (by omega)
            · -- not taken at 51
              refine g_iload F 4 (dk dtX7_test_0 32 rfl) rfl ?_
              refine g_aload_n F 0 (dk dtX7_test_0 33 rfl) rfl ?_
              refine g_iload_n F 1 (dk dtX7_test_0 34 rfl) rfl ?_
              refine g_iload F 7 (dk dtX7_test_0 35 rfl) rfl ?_
              refine g_callVi F (As := [.int (nI p), .int (nI j)]) (st := [.int (nI (cnB (fun v => cbB (M 2 0) (M 5) (M 10) (M 11) (M 12) p (nI v) nn) j))]) cv_X7_179 (dk dtX7_test_0 36 rfl) (by decide) (cm0 D B _ _) rfl rfl (Nat.le_of_ble_eq_true rfl) ⟨by decide, by decide⟩ (k_X7_canBe l D B _ _ K hK hK1 hK4 nn hnn hnn6 hN hW p j (by omega) (by omega)) (fun r60 T60 M60 hp60 => ?_)
              obtain ⟨e1, e2, e3⟩ := hp60
              replace e1 := e1.symm; replace e2 := e2.symm; replace e3 := e3.symm; subst e1; subst e2; subst e3
              refine g_if_eqB F 70 (dk dtX7_test_0 37 rfl) (by decide) (fun c63 => ?_) (fun c63 => ?_)
              · -- taken at 63
                refine g_iconst F (nI 0) (dk dtX7_test_0 40 rfl) (by decide) ?_
                refine g_iaddN F (dk dtX7_test_0 41 rfl) ?_
                refine g_istore F [(4, .int (nI ((cnB (fun v => cbB (M 2 0) (M 5) (M 10) (M 11) (M 12) p (nI v) nn) j) + 0))), (0, .ref (B + 0)), (1, .int (nI p)), (2, .int ((tsF (fun v => cbB (M 2 0) (M 5) (M 10) (M 11) (M 12) p (nI v) nn) (fun k => (fun v => (fun v => cbB (M 2 0) (M 5) (M 10) (M 11) (M 12) p (nI v) nn) v && decide (nI v ≤ suR (M 2 0) (M 5) p k))) i).1)), (3, .int (nI ((tsF (fun v => cbB (M 2 0) (M 5) (M 10) (M 11) (M 12) p (nI v) nn) (fun k => (fun v => (fun v => cbB (M 2 0) (M 5) (M 10) (M 11) (M 12) p (nI v) nn) v && decide (nI v ≤ suR (M 2 0) (M 5) p k))) i).2))), (5, .int (nI i)), (6, .int (nI (cnB (fun v => (fun v => cbB (M 2 0) (M 5) (M 10) (M 11) (M 12) p (nI v) nn) v && decide (nI v ≤ suR (M 2 0) (M 5) p i)) j))), (7, .int (nI j))] (dk dtX7_test_0 42 rfl) (by decide) rfl ?_
                refine g_iload F 6 (dk dtX7_test_0 43 rfl) rfl ?_
                refine g_aload_n F 1 (dk dtX7_test_0 44 rfl) rfl ?_
                refine g_iload_n F 2 (dk dtX7_test_0 45 rfl) rfl ?_
                refine g_iload F 7 (dk dtX7_test_0 46 rfl) rfl ?_
                refine g_callVi F (As := [.int (nI p), .int (nI j)]) (st := [.int (nI (cnB (fun v => (fun v => cbB (M 2 0) (M 5) (M 10) (M 11) (M 12) p (nI v) nn) v && decide (nI v ≤ suR (M 2 0) (M 5) p i)) j))]) cv_X7_179 (dk dtX7_test_0 47 rfl) (by decide) (cm0 D B _ _) rfl rfl (Nat.le_of_ble_eq_true rfl) ⟨by decide, by decide⟩ (k_X7_canBe l D B _ _ K hK hK1 hK4 nn hnn hnn6 hN hW p j (by omega) (by omega)) (fun r80 T80 M80 hp80 => ?_)
                obtain ⟨e1, e2, e3⟩ := hp80
                replace e1 := e1.symm; replace e2 := e2.symm; replace e3 := e3.symm; subst e1; subst e2; subst e3
                refine g_if_eqB F 106 (dk dtX7_test_0 48 rfl) (by decide) (fun c83 => ?_) (fun c83 => ?_)
                · -- taken at 83
                  refine g_iconst F (nI 0) (dk dtX7_test_0 59 rfl) (by decide) ?_
                  refine g_iaddN F (dk dtX7_test_1 0 rfl) ?_
                  refine g_istore F [(6, .int (nI ((cnB (fun v => (fun v => cbB (M 2 0) (M 5) (M 10) (M 11) (M 12) p (nI v) nn) v && decide (nI v ≤ suR (M 2 0) (M 5) p i)) j) + 0))), (4, .int (nI ((cnB (fun v => cbB (M 2 0) (M 5) (M 10) (M 11) (M 12) p (nI v) nn) j) + 0))), (0, .ref (B + 0)), (1, .int (nI p)), (2, .int ((tsF (fun v => cbB (M 2 0) (M 5) (M 10) (M 11) (M 12) p (nI v) nn) (fun k => (fun v => (fun v => cbB (M 2 0) (M 5) (M 10) (M 11) (M 12) p (nI v) nn) v && decide (nI v ≤ suR (M 2 0) (M 5) p k))) i).1)), (3, .int (nI ((tsF (fun v => cbB (M 2 0) (M 5) (M 10) (M 11) (M 12) p (nI v) nn) (fun k => (fun v => (fun v => cbB (M 2 0) (M 5) (M 10) (M 11) (M 12) p (nI v) nn) v && decide (nI v ≤ suR (M 2 0) (M 5) p k))) i).2))), (5, .int (nI i)), (7, .int (nI j))] (dk dtX7_test_1 1 rfl) (by decide) rfl ?_
                  refine g_iinc F 7 (nI (j + 1)) [(7, .int (nI (j + 1))), (6, .int (nI ((cnB (fun v => (fun v => cbB (M 2 0) (M 5) (M 10) (M 11) (M 12) p (nI v) nn) v && decide (nI v ≤ suR (M 2 0) (M 5) p i)) j) + 0))), (4, .int (nI ((cnB (fun v => cbB (M 2 0) (M 5) (M 10) (M 11) (M 12) p (nI v) nn) j) + 0))), (0, .ref (B + 0)), (1, .int (nI p)), (2, .int ((tsF (fun v => cbB (M 2 0) (M 5) (M 10) (M 11) (M 12) p (nI v) nn) (fun k => (fun v => (fun v => cbB (M 2 0) (M 5) (M 10) (M 11) (M 12) p (nI v) nn) v && decide (nI v ≤ suR (M 2 0) (M 5) p k))) i).1)), (3, .int (nI ((tsF (fun v => cbB (M 2 0) (M 5) (M 10) (M 11) (M 12) p (nI v) nn) (fun k => (fun v => (fun v => cbB (M 2 0) (M 5) (M 10) (M 11) (M 12) p (nI v) nn) v && decide (nI v ≤ suR (M 2 0) (M 5) p k))) i).2))), (5, .int (nI i))] (dk dtX7_test_1 2 rfl) rfl (nI_1 _) (by decide) rfl ?_
                  refine g_goto F 47 (dk dtX7_test_1 3 rfl) (by decide) ?_
                  refine g_sub [3, 4, 5, 6, 2, 7, 1, 0] (L1 := [(0, .ref (B + 0)), (1, .int (nI p)), (2, .int ((tsF (fun v => cbB (M 2 0) (M 5) (M 10) (M 11) (M 12) p (nI v) nn) (fun k => (fun v => (fun v => cbB (M 2 0) (M 5) (M 10) (M 11) (M 12) p (nI v) nn) v && decide (nI v ≤ suR (M 2 0) (M 5) p k))) i).1)), (3, .int (nI ((tsF (fun v => cbB (M 2 0) (M 5) (M 10) (M 11) (M 12) p (nI v) nn) (fun k => (fun v => (fun v => cbB (M 2 0) (M 5) (M 10) (M 11) (M 12) p (nI v) nn) v && decide (nI v ≤ suR (M 2 0) (M 5) p k))) i).2))), (4, .int (nI ((cnB (fun v => cbB (M 2 0) (M 5) (M 10) (M 11) (M 12) p (nI v) nn) j) + 0))), (5, .int (nI i)), (6, .int (nI ((cnB (fun v => (fun v => cbB (M 2 0) (M 5) (M 10) (M 11) (M 12) p (nI v) nn) v && decide (nI v ≤ suR (M 2 0) (M 5) p i)) j) + 0))), (7, .int (nI (j + 1)))]) rfl ?_
                  have eq47_4 : (nI ((cnB (fun v => cbB (M 2 0) (M 5) (M 10) (M 11) (M 12) p (nI v) nn) j) + 0) : Int32) = nI (cnB (fun v => cbB (M 2 0) (M 5) (M 10) (M 11) (M 12) p (nI v) nn) (j + 1)) := by
                    exact (congrArg nI (cnB_n (f := (fun v => cbB (M 2 0) (M 5) (M 10) (M 11) (M 12) p (nI v) nn)) c63)).symm
                  have eq47_6 : (nI ((cnB (fun v => (fun v => cbB (M 2 0) (M 5) (M 10) (M 11) (M 12) p (nI v) nn) v && decide (nI v ≤ suR (M 2 0) (M 5) p i)) j) + 0) : Int32) = nI (cnB (fun v => (fun v => cbB (M 2 0) (M 5) (M 10) (M 11) (M 12) p (nI v) nn) v && decide (nI v ≤ suR (M 2 0) (M 5) p i)) (j + 1)) := by
                    exact (congrArg nI (cnB_n (f := (fun v => (fun v => cbB (M 2 0) (M 5) (M 10) (M 11) (M 12) p (nI v) nn) v && decide (nI v ≤ suR (M 2 0) (M 5) p i))) (fun h => c83 (and_l h)))).symm
                  refine g_st (M1 := M) (L1 := [(0, .ref (B + 0)), (1, .int (nI p)), (2, .int ((tsF (fun v => cbB (M 2 0) (M 5) (M 10) (M 11) (M 12) p (nI v) nn) (fun k => (fun v => (fun v => cbB (M 2 0) (M 5) (M 10) (M 11) (M 12) p (nI v) nn) v && decide (nI v ≤ suR (M 2 0) (M 5) p k))) i).1)), (3, .int (nI ((tsF (fun v => cbB (M 2 0) (M 5) (M 10) (M 11) (M 12) p (nI v) nn) (fun k => (fun v => (fun v => cbB (M 2 0) (M 5) (M 10) (M 11) (M 12) p (nI v) nn) v && decide (nI v ≤ suR (M 2 0) (M 5) p k))) i).2))), (4, .int (nI (cnB (fun v => cbB (M 2 0) (M 5) (M 10) (M 11) (M 12) p (nI v) nn) (j + 1)))), (5, .int (nI i)), (6, .int (nI (cnB (fun v => (fun v => cbB (M 2 0) (M 5) (M 10) (M 11) (M 12) p (nI v) nn) v && decide (nI v ≤ suR (M 2 0) (M 5) p i)) (j + 1)))), (7, .int (nI (j + 1)))]) rfl (lc rfl (lc rfl (lc rfl (lc rfl (lc (vi eq47_4) (lc rfl (lc (vi eq47_6) (lc rfl rfl)))))))) rfl ?_
                  exact ih47 (j + 1) (by omega) (by omega)
                · -- not taken at 83
                  refine g_iload F 7 (dk dtX7_test_0 49 rfl) rfl ?_
                  refine g_aload_n F 1 (dk dtX7_test_0 50 rfl) rfl ?_
                  refine g_aload_n F 1 (dk dtX7_test_0 51 rfl) rfl ?_
                  refine g_get F fa_X7_22 (dk dtX7_test_0 52 rfl) (by decide) (cm0 D B _ _) rfl ?_
                  refine g_iload_n F 2 (dk dtX7_test_0 53 rfl) rfl ?_
                  refine g_iload F 5 (dk dtX7_test_0 54 rfl) rfl ?_
                  refine g_callVi F (As := [.ref (B + 5), .int (nI p), .int (nI i)]) (st := [.int (nI j), .int (nI (cnB (fun v => (fun v => cbB (M 2 0) (M 5) (M 10) (M 11) (M 12) p (nI v) nn) v && decide (nI v ≤ suR (M 2 0) (M 5) p i)) j))]) cv_X7_135 (dk dtX7_test_0 55 rfl) (by decide) (cm0 D B _ _) rfl rfl (Nat.le_of_ble_eq_true rfl) ⟨by decide, by decide⟩ (k_X7_surpriseOf l D B _ _ 5 (isRow5 D B) p i (by omega) (by omega) (dvR hK hW hK1 hK4 (by omega))) (fun r96 T96 M96 hp96 => ?_)
                  obtain ⟨e1, e2, e3⟩ := hp96
                  replace e1 := e1.symm; replace e2 := e2.symm; replace e3 := e3.symm; subst e1; subst e2; subst e3
                  refine g_icmp_gt F 106 (dk dtX7_test_0 56 rfl) (by decide) (fun c99 => ?_) (fun c99 => ?_)
                  · -- taken at 99
                    refine g_iconst F (nI 0) (dk dtX7_test_0 59 rfl) (by decide) ?_
                    refine g_iaddN F (dk dtX7_test_1 0 rfl) ?_
                    refine g_istore F [(6, .int (nI ((cnB (fun v => (fun v => cbB (M 2 0) (M 5) (M 10) (M 11) (M 12) p (nI v) nn) v && decide (nI v ≤ suR (M 2 0) (M 5) p i)) j) + 0))), (4, .int (nI ((cnB (fun v => cbB (M 2 0) (M 5) (M 10) (M 11) (M 12) p (nI v) nn) j) + 0))), (0, .ref (B + 0)), (1, .int (nI p)), (2, .int ((tsF (fun v => cbB (M 2 0) (M 5) (M 10) (M 11) (M 12) p (nI v) nn) (fun k => (fun v => (fun v => cbB (M 2 0) (M 5) (M 10) (M 11) (M 12) p (nI v) nn) v && decide (nI v ≤ suR (M 2 0) (M 5) p k))) i).1)), (3, .int (nI ((tsF (fun v => cbB (M 2 0) (M 5) (M 10) (M 11) (M 12) p (nI v) nn) (fun k => (fun v => (fun v => cbB (M 2 0) (M 5) (M 10) (M 11) (M 12) p (nI v) nn) v && decide (nI v ≤ suR (M 2 0) (M 5) p k))) i).2))), (5, .int (nI i)), (7, .int (nI j))] (dk dtX7_test_1 1 rfl) (by decide) rfl ?_
                    refine g_iinc F 7 (nI (j + 1)) [(7, .int (nI (j + 1))), (6, .int (nI ((cnB (fun v => (fun v => cbB (M 2 0) (M 5) (M 10) (M 11) (M 12) p (nI v) nn) v && decide (nI v ≤ suR (M 2 0) (M 5) p i)) j) + 0))), (4, .int (nI ((cnB (fun v => cbB (M 2 0) (M 5) (M 10) (M 11) (M 12) p (nI v) nn) j) + 0))), (0, .ref (B + 0)), (1, .int (nI p)), (2, .int ((tsF (fun v => cbB (M 2 0) (M 5) (M 10) (M 11) (M 12) p (nI v) nn) (fun k => (fun v => (fun v => cbB (M 2 0) (M 5) (M 10) (M 11) (M 12) p (nI v) nn) v && decide (nI v ≤ suR (M 2 0) (M 5) p k))) i).1)), (3, .int (nI ((tsF (fun v => cbB (M 2 0) (M 5) (M 10) (M 11) (M 12) p (nI v) nn) (fun k => (fun v => (fun v => cbB (M 2 0) (M 5) (M 10) (M 11) (M 12) p (nI v) nn) v && decide (nI v ≤ suR (M 2 0) (M 5) p k))) i).2))), (5, .int (nI i))] (dk dtX7_test_1 2 rfl) rfl (nI_1 _) (by decide) rfl ?_
                    refine g_goto F 47 (dk dtX7_test_1 3 rfl) (by decide) ?_
                    refine g_sub [3, 4, 5, 6, 2, 7, 1, 0] (L1 := [(0, .ref (B + 0)), (1, .int (nI p)), (2, .int ((tsF (fun v => cbB (M 2 0) (M 5) (M 10) (M 11) (M 12) p (nI v) nn) (fun k => (fun v => (fun v => cbB (M 2 0) (M 5) (M 10) (M 11) (M 12) p (nI v) nn) v && decide (nI v ≤ suR (M 2 0) (M 5) p k))) i).1)), (3, .int (nI ((tsF (fun v => cbB (M 2 0) (M 5) (M 10) (M 11) (M 12) p (nI v) nn) (fun k => (fun v => (fun v => cbB (M 2 0) (M 5) (M 10) (M 11) (M 12) p (nI v) nn) v && decide (nI v ≤ suR (M 2 0) (M 5) p k))) i).2))), (4, .int (nI ((cnB (fun v => cbB (M 2 0) (M 5) (M 10) (M 11) (M 12) p (nI v) nn) j) + 0))), (5, .int (nI i)), (6, .int (nI ((cnB (fun v => (fun v => cbB (M 2 0) (M 5) (M 10) (M 11) (M 12) p (nI v) nn) v && decide (nI v ≤ suR (M 2 0) (M 5) p i)) j) + 0))), (7, .int (nI (j + 1)))]) rfl ?_
                    have eq47_4 : (nI ((cnB (fun v => cbB (M 2 0) (M 5) (M 10) (M 11) (M 12) p (nI v) nn) j) + 0) : Int32) = nI (cnB (fun v => cbB (M 2 0) (M 5) (M 10) (M 11) (M 12) p (nI v) nn) (j + 1)) := by
                      exact (congrArg nI (cnB_n (f := (fun v => cbB (M 2 0) (M 5) (M 10) (M 11) (M 12) p (nI v) nn)) c63)).symm
                    have eq47_6 : (nI ((cnB (fun v => (fun v => cbB (M 2 0) (M 5) (M 10) (M 11) (M 12) p (nI v) nn) v && decide (nI v ≤ suR (M 2 0) (M 5) p i)) j) + 0) : Int32) = nI (cnB (fun v => (fun v => cbB (M 2 0) (M 5) (M 10) (M 11) (M 12) p (nI v) nn) v && decide (nI v ≤ suR (M 2 0) (M 5) p i)) (j + 1)) := by
                      exact (congrArg nI (cnB_n (f := (fun v => (fun v => cbB (M 2 0) (M 5) (M 10) (M 11) (M 12) p (nI v) nn) v && decide (nI v ≤ suR (M 2 0) (M 5) p i))) (fun h => absurd (and_r h) (Int32.not_le.mpr c99)))).symm
                    refine g_st (M1 := M) (L1 := [(0, .ref (B + 0)), (1, .int (nI p)), (2, .int ((tsF (fun v => cbB (M 2 0) (M 5) (M 10) (M 11) (M 12) p (nI v) nn) (fun k => (fun v => (fun v => cbB (M 2 0) (M 5) (M 10) (M 11) (M 12) p (nI v) nn) v && decide (nI v ≤ suR (M 2 0) (M 5) p k))) i).1)), (3, .int (nI ((tsF (fun v => cbB (M 2 0) (M 5) (M 10) (M 11) (M 12) p (nI v) nn) (fun k => (fun v => (fun v => cbB (M 2 0) (M 5) (M 10) (M 11) (M 12) p (nI v) nn) v && decide (nI v ≤ suR (M 2 0) (M 5) p k))) i).2))), (4, .int (nI (cnB (fun v => cbB (M 2 0) (M 5) (M 10) (M 11) (M 12) p (nI v) nn) (j + 1)))), (5, .int (nI i)), (6, .int (nI (cnB (fun v => (fun v => cbB (M 2 0) (M 5) (M 10) (M 11) (M 12) p (nI v) nn) v && decide (nI v ≤ suR (M 2 0) (M 5) p i)) (j + 1)))), (7, .int (nI (j + 1)))]) rfl (lc rfl (lc rfl (lc rfl (lc rfl (lc (vi eq47_4) (lc rfl (lc (vi eq47_6) (lc rfl rfl)))))))) rfl ?_
                    exact ih47 (j + 1) (by omega) (by omega)
                  · -- not taken at 99
                    refine g_iconst F (nI 1) (dk dtX7_test_0 57 rfl) (by decide) ?_
                    refine g_goto F 107 (dk dtX7_test_0 58 rfl) (by decide) ?_
                    refine g_iaddN F (dk dtX7_test_1 0 rfl) ?_
                    refine g_istore F [(6, .int (nI ((cnB (fun v => (fun v => cbB (M 2 0) (M 5) (M 10) (M 11) (M 12) p (nI v) nn) v && decide (nI v ≤ suR (M 2 0) (M 5) p i)) j) + 1))), (4, .int (nI ((cnB (fun v => cbB (M 2 0) (M 5) (M 10) (M 11) (M 12) p (nI v) nn) j) + 0))), (0, .ref (B + 0)), (1, .int (nI p)), (2, .int ((tsF (fun v => cbB (M 2 0) (M 5) (M 10) (M 11) (M 12) p (nI v) nn) (fun k => (fun v => (fun v => cbB (M 2 0) (M 5) (M 10) (M 11) (M 12) p (nI v) nn) v && decide (nI v ≤ suR (M 2 0) (M 5) p k))) i).1)), (3, .int (nI ((tsF (fun v => cbB (M 2 0) (M 5) (M 10) (M 11) (M 12) p (nI v) nn) (fun k => (fun v => (fun v => cbB (M 2 0) (M 5) (M 10) (M 11) (M 12) p (nI v) nn) v && decide (nI v ≤ suR (M 2 0) (M 5) p k))) i).2))), (5, .int (nI i)), (7, .int (nI j))] (dk dtX7_test_1 1 rfl) (by decide) rfl ?_
                    refine g_iinc F 7 (nI (j + 1)) [(7, .int (nI (j + 1))), (6, .int (nI ((cnB (fun v => (fun v => cbB (M 2 0) (M 5) (M 10) (M 11) (M 12) p (nI v) nn) v && decide (nI v ≤ suR (M 2 0) (M 5) p i)) j) + 1))), (4, .int (nI ((cnB (fun v => cbB (M 2 0) (M 5) (M 10) (M 11) (M 12) p (nI v) nn) j) + 0))), (0, .ref (B + 0)), (1, .int (nI p)), (2, .int ((tsF (fun v => cbB (M 2 0) (M 5) (M 10) (M 11) (M 12) p (nI v) nn) (fun k => (fun v => (fun v => cbB (M 2 0) (M 5) (M 10) (M 11) (M 12) p (nI v) nn) v && decide (nI v ≤ suR (M 2 0) (M 5) p k))) i).1)), (3, .int (nI ((tsF (fun v => cbB (M 2 0) (M 5) (M 10) (M 11) (M 12) p (nI v) nn) (fun k => (fun v => (fun v => cbB (M 2 0) (M 5) (M 10) (M 11) (M 12) p (nI v) nn) v && decide (nI v ≤ suR (M 2 0) (M 5) p k))) i).2))), (5, .int (nI i))] (dk dtX7_test_1 2 rfl) rfl (nI_1 _) (by decide) rfl ?_
                    refine g_goto F 47 (dk dtX7_test_1 3 rfl) (by decide) ?_
                    refine g_sub [3, 4, 5, 6, 2, 7, 1, 0] (L1 := [(0, .ref (B + 0)), (1, .int (nI p)), (2, .int ((tsF (fun v => cbB (M 2 0) (M 5) (M 10) (M 11) (M 12) p (nI v) nn) (fun k => (fun v => (fun v => cbB (M 2 0) (M 5) (M 10) (M 11) (M 12) p (nI v) nn) v && decide (nI v ≤ suR (M 2 0) (M 5) p k))) i).1)), (3, .int (nI ((tsF (fun v => cbB (M 2 0) (M 5) (M 10) (M 11) (M 12) p (nI v) nn) (fun k => (fun v => (fun v => cbB (M 2 0) (M 5) (M 10) (M 11) (M 12) p (nI v) nn) v && decide (nI v ≤ suR (M 2 0) (M 5) p k))) i).2))), (4, .int (nI ((cnB (fun v => cbB (M 2 0) (M 5) (M 10) (M 11) (M 12) p (nI v) nn) j) + 0))), (5, .int (nI i)), (6, .int (nI ((cnB (fun v => (fun v => cbB (M 2 0) (M 5) (M 10) (M 11) (M 12) p (nI v) nn) v && decide (nI v ≤ suR (M 2 0) (M 5) p i)) j) + 1))), (7, .int (nI (j + 1)))]) rfl ?_
                    have eq47_4 : (nI ((cnB (fun v => cbB (M 2 0) (M 5) (M 10) (M 11) (M 12) p (nI v) nn) j) + 0) : Int32) = nI (cnB (fun v => cbB (M 2 0) (M 5) (M 10) (M 11) (M 12) p (nI v) nn) (j + 1)) := by
                      exact (congrArg nI (cnB_n (f := (fun v => cbB (M 2 0) (M 5) (M 10) (M 11) (M 12) p (nI v) nn)) c63)).symm
                    have eq47_6 : (nI ((cnB (fun v => (fun v => cbB (M 2 0) (M 5) (M 10) (M 11) (M 12) p (nI v) nn) v && decide (nI v ≤ suR (M 2 0) (M 5) p i)) j) + 1) : Int32) = nI (cnB (fun v => (fun v => cbB (M 2 0) (M 5) (M 10) (M 11) (M 12) p (nI v) nn) v && decide (nI v ≤ suR (M 2 0) (M 5) p i)) (j + 1)) := by
                      exact (congrArg nI (cnB_y (f := (fun v => (fun v => cbB (M 2 0) (M 5) (M 10) (M 11) (M 12) p (nI v) nn) v && decide (nI v ≤ suR (M 2 0) (M 5) p i))) (and_i c83 (Int32.not_lt.mp c99)))).symm
                    refine g_st (M1 := M) (L1 := [(0, .ref (B + 0)), (1, .int (nI p)), (2, .int ((tsF (fun v => cbB (M 2 0) (M 5) (M 10) (M 11) (M 12) p (nI v) nn) (fun k => (fun v => (fun v => cbB (M 2 0) (M 5) (M 10) (M 11) (M 12) p (nI v) nn) v && decide (nI v ≤ suR (M 2 0) (M 5) p k))) i).1)), (3, .int (nI ((tsF (fun v => cbB (M 2 0) (M 5) (M 10) (M 11) (M 12) p (nI v) nn) (fun k => (fun v => (fun v => cbB (M 2 0) (M 5) (M 10) (M 11) (M 12) p (nI v) nn) v && decide (nI v ≤ suR (M 2 0) (M 5) p k))) i).2))), (4, .int (nI (cnB (fun v => cbB (M 2 0) (M 5) (M 10) (M 11) (M 12) p (nI v) nn) (j + 1)))), (5, .int (nI i)), (6, .int (nI (cnB (fun v => (fun v => cbB (M 2 0) (M 5) (M 10) (M 11) (M 12) p (nI v) nn) v && decide (nI v ≤ suR (M 2 0) (M 5) p i)) (j + 1)))), (7, .int (nI (j + 1)))]) rfl (lc rfl (lc rfl (lc rfl (lc rfl (lc (vi eq47_4) (lc rfl (lc (vi eq47_6) (lc rfl rfl)))))))) rfl ?_
                    exact ih47 (j + 1) (by omega) (by omega)
              · -- not taken at 63
                refine g_iconst F (nI 1) (dk dtX7_test_0 38 rfl) (by decide) ?_
                refine g_goto F 71 (dk dtX7_test_0 39 rfl) (by decide) ?_
                refine g_iaddN F (dk dtX7_test_0 41 rfl) ?_
                refine g_istore F [(4, .int (nI ((cnB (fun v => cbB (M 2 0) (M 5) (M 10) (M 11) (M 12) p (nI v) nn) j) + 1))), (0, .ref (B + 0)), (1, .int (nI p)), (2, .int ((tsF (fun v => cbB (M 2 0) (M 5) (M 10) (M 11) (M 12) p (nI v) nn) (fun k => (fun v => (fun v => cbB (M 2 0) (M 5) (M 10) (M 11) (M 12) p (nI v) nn) v && decide (nI v ≤ suR (M 2 0) (M 5) p k))) i).1)), (3, .int (nI ((tsF (fun v => cbB (M 2 0) (M 5) (M 10) (M 11) (M 12) p (nI v) nn) (fun k => (fun v => (fun v => cbB (M 2 0) (M 5) (M 10) (M 11) (M 12) p (nI v) nn) v && decide (nI v ≤ suR (M 2 0) (M 5) p k))) i).2))), (5, .int (nI i)), (6, .int (nI (cnB (fun v => (fun v => cbB (M 2 0) (M 5) (M 10) (M 11) (M 12) p (nI v) nn) v && decide (nI v ≤ suR (M 2 0) (M 5) p i)) j))), (7, .int (nI j))] (dk dtX7_test_0 42 rfl) (by decide) rfl ?_
                refine g_iload F 6 (dk dtX7_test_0 43 rfl) rfl ?_
                refine g_aload_n F 1 (dk dtX7_test_0 44 rfl) rfl ?_
                refine g_iload_n F 2 (dk dtX7_test_0 45 rfl) rfl ?_
                refine g_iload F 7 (dk dtX7_test_0 46 rfl) rfl ?_
                refine g_callVi F (As := [.int (nI p), .int (nI j)]) (st := [.int (nI (cnB (fun v => (fun v => cbB (M 2 0) (M 5) (M 10) (M 11) (M 12) p (nI v) nn) v && decide (nI v ≤ suR (M 2 0) (M 5) p i)) j))]) cv_X7_179 (dk dtX7_test_0 47 rfl) (by decide) (cm0 D B _ _) rfl rfl (Nat.le_of_ble_eq_true rfl) ⟨by decide, by decide⟩ (k_X7_canBe l D B _ _ K hK hK1 hK4 nn hnn hnn6 hN hW p j (by omega) (by omega)) (fun r80 T80 M80 hp80 => ?_)
                obtain ⟨e1, e2, e3⟩ := hp80
                replace e1 := e1.symm; replace e2 := e2.symm; replace e3 := e3.symm; subst e1; subst e2; subst e3
                refine g_if_eqB F 106 (dk dtX7_test_0 48 rfl) (by decide) (fun c83 => ?_) (fun c83 => ?_)
                · -- taken at 83
                  refine g_iconst F (nI 0) (dk dtX7_test_0 59 rfl) (by decide) ?_
                  refine g_iaddN F (dk dtX7_test_1 0 rfl) ?_
                  refine g_istore F [(6, .int (nI ((cnB (fun v => (fun v => cbB (M 2 0) (M 5) (M 10) (M 11) (M 12) p (nI v) nn) v && decide (nI v ≤ suR (M 2 0) (M 5) p i)) j) + 0))), (4, .int (nI ((cnB (fun v => cbB (M 2 0) (M 5) (M 10) (M 11) (M 12) p (nI v) nn) j) + 1))), (0, .ref (B + 0)), (1, .int (nI p)), (2, .int ((tsF (fun v => cbB (M 2 0) (M 5) (M 10) (M 11) (M 12) p (nI v) nn) (fun k => (fun v => (fun v => cbB (M 2 0) (M 5) (M 10) (M 11) (M 12) p (nI v) nn) v && decide (nI v ≤ suR (M 2 0) (M 5) p k))) i).1)), (3, .int (nI ((tsF (fun v => cbB (M 2 0) (M 5) (M 10) (M 11) (M 12) p (nI v) nn) (fun k => (fun v => (fun v => cbB (M 2 0) (M 5) (M 10) (M 11) (M 12) p (nI v) nn) v && decide (nI v ≤ suR (M 2 0) (M 5) p k))) i).2))), (5, .int (nI i)), (7, .int (nI j))] (dk dtX7_test_1 1 rfl) (by decide) rfl ?_
                  refine g_iinc F 7 (nI (j + 1)) [(7, .int (nI (j + 1))), (6, .int (nI ((cnB (fun v => (fun v => cbB (M 2 0) (M 5) (M 10) (M 11) (M 12) p (nI v) nn) v && decide (nI v ≤ suR (M 2 0) (M 5) p i)) j) + 0))), (4, .int (nI ((cnB (fun v => cbB (M 2 0) (M 5) (M 10) (M 11) (M 12) p (nI v) nn) j) + 1))), (0, .ref (B + 0)), (1, .int (nI p)), (2, .int ((tsF (fun v => cbB (M 2 0) (M 5) (M 10) (M 11) (M 12) p (nI v) nn) (fun k => (fun v => (fun v => cbB (M 2 0) (M 5) (M 10) (M 11) (M 12) p (nI v) nn) v && decide (nI v ≤ suR (M 2 0) (M 5) p k))) i).1)), (3, .int (nI ((tsF (fun v => cbB (M 2 0) (M 5) (M 10) (M 11) (M 12) p (nI v) nn) (fun k => (fun v => (fun v => cbB (M 2 0) (M 5) (M 10) (M 11) (M 12) p (nI v) nn) v && decide (nI v ≤ suR (M 2 0) (M 5) p k))) i).2))), (5, .int (nI i))] (dk dtX7_test_1 2 rfl) rfl (nI_1 _) (by decide) rfl ?_
                  refine g_goto F 47 (dk dtX7_test_1 3 rfl) (by decide) ?_
                  refine g_sub [3, 4, 5, 6, 2, 7, 1, 0] (L1 := [(0, .ref (B + 0)), (1, .int (nI p)), (2, .int ((tsF (fun v => cbB (M 2 0) (M 5) (M 10) (M 11) (M 12) p (nI v) nn) (fun k => (fun v => (fun v => cbB (M 2 0) (M 5) (M 10) (M 11) (M 12) p (nI v) nn) v && decide (nI v ≤ suR (M 2 0) (M 5) p k))) i).1)), (3, .int (nI ((tsF (fun v => cbB (M 2 0) (M 5) (M 10) (M 11) (M 12) p (nI v) nn) (fun k => (fun v => (fun v => cbB (M 2 0) (M 5) (M 10) (M 11) (M 12) p (nI v) nn) v && decide (nI v ≤ suR (M 2 0) (M 5) p k))) i).2))), (4, .int (nI ((cnB (fun v => cbB (M 2 0) (M 5) (M 10) (M 11) (M 12) p (nI v) nn) j) + 1))), (5, .int (nI i)), (6, .int (nI ((cnB (fun v => (fun v => cbB (M 2 0) (M 5) (M 10) (M 11) (M 12) p (nI v) nn) v && decide (nI v ≤ suR (M 2 0) (M 5) p i)) j) + 0))), (7, .int (nI (j + 1)))]) rfl ?_
                  have eq47_4 : (nI ((cnB (fun v => cbB (M 2 0) (M 5) (M 10) (M 11) (M 12) p (nI v) nn) j) + 1) : Int32) = nI (cnB (fun v => cbB (M 2 0) (M 5) (M 10) (M 11) (M 12) p (nI v) nn) (j + 1)) := by
                    exact (congrArg nI (cnB_y (f := (fun v => cbB (M 2 0) (M 5) (M 10) (M 11) (M 12) p (nI v) nn)) c63)).symm
                  have eq47_6 : (nI ((cnB (fun v => (fun v => cbB (M 2 0) (M 5) (M 10) (M 11) (M 12) p (nI v) nn) v && decide (nI v ≤ suR (M 2 0) (M 5) p i)) j) + 0) : Int32) = nI (cnB (fun v => (fun v => cbB (M 2 0) (M 5) (M 10) (M 11) (M 12) p (nI v) nn) v && decide (nI v ≤ suR (M 2 0) (M 5) p i)) (j + 1)) := by
                    exact (congrArg nI (cnB_n (f := (fun v => (fun v => cbB (M 2 0) (M 5) (M 10) (M 11) (M 12) p (nI v) nn) v && decide (nI v ≤ suR (M 2 0) (M 5) p i))) (fun h => c83 (and_l h)))).symm
                  refine g_st (M1 := M) (L1 := [(0, .ref (B + 0)), (1, .int (nI p)), (2, .int ((tsF (fun v => cbB (M 2 0) (M 5) (M 10) (M 11) (M 12) p (nI v) nn) (fun k => (fun v => (fun v => cbB (M 2 0) (M 5) (M 10) (M 11) (M 12) p (nI v) nn) v && decide (nI v ≤ suR (M 2 0) (M 5) p k))) i).1)), (3, .int (nI ((tsF (fun v => cbB (M 2 0) (M 5) (M 10) (M 11) (M 12) p (nI v) nn) (fun k => (fun v => (fun v => cbB (M 2 0) (M 5) (M 10) (M 11) (M 12) p (nI v) nn) v && decide (nI v ≤ suR (M 2 0) (M 5) p k))) i).2))), (4, .int (nI (cnB (fun v => cbB (M 2 0) (M 5) (M 10) (M 11) (M 12) p (nI v) nn) (j + 1)))), (5, .int (nI i)), (6, .int (nI (cnB (fun v => (fun v => cbB (M 2 0) (M 5) (M 10) (M 11) (M 12) p (nI v) nn) v && decide (nI v ≤ suR (M 2 0) (M 5) p i)) (j + 1)))), (7, .int (nI (j + 1)))]) rfl (lc rfl (lc rfl (lc rfl (lc rfl (lc (vi eq47_4) (lc rfl (lc (vi eq47_6) (lc rfl rfl)))))))) rfl ?_
                  exact ih47 (j + 1) (by omega) (by omega)
                · -- not taken at 83
                  refine g_iload F 7 (dk dtX7_test_0 49 rfl) rfl ?_
                  refine g_aload_n F 1 (dk dtX7_test_0 50 rfl) rfl ?_
                  refine g_aload_n F 1 (dk dtX7_test_0 51 rfl) rfl ?_
                  refine g_get F fa_X7_22 (dk dtX7_test_0 52 rfl) (by decide) (cm0 D B _ _) rfl ?_
                  refine g_iload_n F 2 (dk dtX7_test_0 53 rfl) rfl ?_
                  refine g_iload F 5 (dk dtX7_test_0 54 rfl) rfl ?_
                  refine g_callVi F (As := [.ref (B + 5), .int (nI p), .int (nI i)]) (st := [.int (nI j), .int (nI (cnB (fun v => (fun v => cbB (M 2 0) (M 5) (M 10) (M 11) (M 12) p (nI v) nn) v && decide (nI v ≤ suR (M 2 0) (M 5) p i)) j))]) cv_X7_135 (dk dtX7_test_0 55 rfl) (by decide) (cm0 D B _ _) rfl rfl (Nat.le_of_ble_eq_true rfl) ⟨by decide, by decide⟩ (k_X7_surpriseOf l D B _ _ 5 (isRow5 D B) p i (by omega) (by omega) (dvR hK hW hK1 hK4 (by omega))) (fun r96 T96 M96 hp96 => ?_)
                  obtain ⟨e1, e2, e3⟩ := hp96
                  replace e1 := e1.symm; replace e2 := e2.symm; replace e3 := e3.symm; subst e1; subst e2; subst e3
                  refine g_icmp_gt F 106 (dk dtX7_test_0 56 rfl) (by decide) (fun c99 => ?_) (fun c99 => ?_)
                  · -- taken at 99
                    refine g_iconst F (nI 0) (dk dtX7_test_0 59 rfl) (by decide) ?_
                    refine g_iaddN F (dk dtX7_test_1 0 rfl) ?_
                    refine g_istore F [(6, .int (nI ((cnB (fun v => (fun v => cbB (M 2 0) (M 5) (M 10) (M 11) (M 12) p (nI v) nn) v && decide (nI v ≤ suR (M 2 0) (M 5) p i)) j) + 0))), (4, .int (nI ((cnB (fun v => cbB (M 2 0) (M 5) (M 10) (M 11) (M 12) p (nI v) nn) j) + 1))), (0, .ref (B + 0)), (1, .int (nI p)), (2, .int ((tsF (fun v => cbB (M 2 0) (M 5) (M 10) (M 11) (M 12) p (nI v) nn) (fun k => (fun v => (fun v => cbB (M 2 0) (M 5) (M 10) (M 11) (M 12) p (nI v) nn) v && decide (nI v ≤ suR (M 2 0) (M 5) p k))) i).1)), (3, .int (nI ((tsF (fun v => cbB (M 2 0) (M 5) (M 10) (M 11) (M 12) p (nI v) nn) (fun k => (fun v => (fun v => cbB (M 2 0) (M 5) (M 10) (M 11) (M 12) p (nI v) nn) v && decide (nI v ≤ suR (M 2 0) (M 5) p k))) i).2))), (5, .int (nI i)), (7, .int (nI j))] (dk dtX7_test_1 1 rfl) (by decide) rfl ?_
                    refine g_iinc F 7 (nI (j + 1)) [(7, .int (nI (j + 1))), (6, .int (nI ((cnB (fun v => (fun v => cbB (M 2 0) (M 5) (M 10) (M 11) (M 12) p (nI v) nn) v && decide (nI v ≤ suR (M 2 0) (M 5) p i)) j) + 0))), (4, .int (nI ((cnB (fun v => cbB (M 2 0) (M 5) (M 10) (M 11) (M 12) p (nI v) nn) j) + 1))), (0, .ref (B + 0)), (1, .int (nI p)), (2, .int ((tsF (fun v => cbB (M 2 0) (M 5) (M 10) (M 11) (M 12) p (nI v) nn) (fun k => (fun v => (fun v => cbB (M 2 0) (M 5) (M 10) (M 11) (M 12) p (nI v) nn) v && decide (nI v ≤ suR (M 2 0) (M 5) p k))) i).1)), (3, .int (nI ((tsF (fun v => cbB (M 2 0) (M 5) (M 10) (M 11) (M 12) p (nI v) nn) (fun k => (fun v => (fun v => cbB (M 2 0) (M 5) (M 10) (M 11) (M 12) p (nI v) nn) v && decide (nI v ≤ suR (M 2 0) (M 5) p k))) i).2))), (5, .int (nI i))] (dk dtX7_test_1 2 rfl) rfl (nI_1 _) (by decide) rfl ?_
                    refine g_goto F 47 (dk dtX7_test_1 3 rfl) (by decide) ?_
                    refine g_sub [3, 4, 5, 6, 2, 7, 1, 0] (L1 := [(0, .ref (B + 0)), (1, .int (nI p)), (2, .int ((tsF (fun v => cbB (M 2 0) (M 5) (M 10) (M 11) (M 12) p (nI v) nn) (fun k => (fun v => (fun v => cbB (M 2 0) (M 5) (M 10) (M 11) (M 12) p (nI v) nn) v && decide (nI v ≤ suR (M 2 0) (M 5) p k))) i).1)), (3, .int (nI ((tsF (fun v => cbB (M 2 0) (M 5) (M 10) (M 11) (M 12) p (nI v) nn) (fun k => (fun v => (fun v => cbB (M 2 0) (M 5) (M 10) (M 11) (M 12) p (nI v) nn) v && decide (nI v ≤ suR (M 2 0) (M 5) p k))) i).2))), (4, .int (nI ((cnB (fun v => cbB (M 2 0) (M 5) (M 10) (M 11) (M 12) p (nI v) nn) j) + 1))), (5, .int (nI i)), (6, .int (nI ((cnB (fun v => (fun v => cbB (M 2 0) (M 5) (M 10) (M 11) (M 12) p (nI v) nn) v && decide (nI v ≤ suR (M 2 0) (M 5) p i)) j) + 0))), (7, .int (nI (j + 1)))]) rfl ?_
                    have eq47_4 : (nI ((cnB (fun v => cbB (M 2 0) (M 5) (M 10) (M 11) (M 12) p (nI v) nn) j) + 1) : Int32) = nI (cnB (fun v => cbB (M 2 0) (M 5) (M 10) (M 11) (M 12) p (nI v) nn) (j + 1)) := by
                      exact (congrArg nI (cnB_y (f := (fun v => cbB (M 2 0) (M 5) (M 10) (M 11) (M 12) p (nI v) nn)) c63)).symm
                    have eq47_6 : (nI ((cnB (fun v => (fun v => cbB (M 2 0) (M 5) (M 10) (M 11) (M 12) p (nI v) nn) v && decide (nI v ≤ suR (M 2 0) (M 5) p i)) j) + 0) : Int32) = nI (cnB (fun v => (fun v => cbB (M 2 0) (M 5) (M 10) (M 11) (M 12) p (nI v) nn) v && decide (nI v ≤ suR (M 2 0) (M 5) p i)) (j + 1)) := by
                      exact (congrArg nI (cnB_n (f := (fun v => (fun v => cbB (M 2 0) (M 5) (M 10) (M 11) (M 12) p (nI v) nn) v && decide (nI v ≤ suR (M 2 0) (M 5) p i))) (fun h => absurd (and_r h) (Int32.not_le.mpr c99)))).symm
                    refine g_st (M1 := M) (L1 := [(0, .ref (B + 0)), (1, .int (nI p)), (2, .int ((tsF (fun v => cbB (M 2 0) (M 5) (M 10) (M 11) (M 12) p (nI v) nn) (fun k => (fun v => (fun v => cbB (M 2 0) (M 5) (M 10) (M 11) (M 12) p (nI v) nn) v && decide (nI v ≤ suR (M 2 0) (M 5) p k))) i).1)), (3, .int (nI ((tsF (fun v => cbB (M 2 0) (M 5) (M 10) (M 11) (M 12) p (nI v) nn) (fun k => (fun v => (fun v => cbB (M 2 0) (M 5) (M 10) (M 11) (M 12) p (nI v) nn) v && decide (nI v ≤ suR (M 2 0) (M 5) p k))) i).2))), (4, .int (nI (cnB (fun v => cbB (M 2 0) (M 5) (M 10) (M 11) (M 12) p (nI v) nn) (j + 1)))), (5, .int (nI i)), (6, .int (nI (cnB (fun v => (fun v => cbB (M 2 0) (M 5) (M 10) (M 11) (M 12) p (nI v) nn) v && decide (nI v ≤ suR (M 2 0) (M 5) p i)) (j + 1)))), (7, .int (nI (j + 1)))]) rfl (lc rfl (lc rfl (lc rfl (lc rfl (lc (vi eq47_4) (lc rfl (lc (vi eq47_6) (lc rfl rfl)))))))) rfl ?_
                    exact ih47 (j + 1) (by omega) (by omega)
                  · -- not taken at 99
                    refine g_iconst F (nI 1) (dk dtX7_test_0 57 rfl) (by decide) ?_
                    refine g_goto F 107 (dk dtX7_test_0 58 rfl) (by decide) ?_
                    refine g_iaddN F (dk dtX7_test_1 0 rfl) ?_
                    refine g_istore F [(6, .int (nI ((cnB (fun v => (fun v => cbB (M 2 0) (M 5) (M 10) (M 11) (M 12) p (nI v) nn) v && decide (nI v ≤ suR (M 2 0) (M 5) p i)) j) + 1))), (4, .int (nI ((cnB (fun v => cbB (M 2 0) (M 5) (M 10) (M 11) (M 12) p (nI v) nn) j) + 1))), (0, .ref (B + 0)), (1, .int (nI p)), (2, .int ((tsF (fun v => cbB (M 2 0) (M 5) (M 10) (M 11) (M 12) p (nI v) nn) (fun k => (fun v => (fun v => cbB (M 2 0) (M 5) (M 10) (M 11) (M 12) p (nI v) nn) v && decide (nI v ≤ suR (M 2 0) (M 5) p k))) i).1)), (3, .int (nI ((tsF (fun v => cbB (M 2 0) (M 5) (M 10) (M 11) (M 12) p (nI v) nn) (fun k => (fun v => (fun v => cbB (M 2 0) (M 5) (M 10) (M 11) (M 12) p (nI v) nn) v && decide (nI v ≤ suR (M 2 0) (M 5) p k))) i).2))), (5, .int (nI i)), (7, .int (nI j))] (dk dtX7_test_1 1 rfl) (by decide) rfl ?_
                    refine g_iinc F 7 (nI (j + 1)) [(7, .int (nI (j + 1))), (6, .int (nI ((cnB (fun v => (fun v => cbB (M 2 0) (M 5) (M 10) (M 11) (M 12) p (nI v) nn) v && decide (nI v ≤ suR (M 2 0) (M 5) p i)) j) + 1))), (4, .int (nI ((cnB (fun v => cbB (M 2 0) (M 5) (M 10) (M 11) (M 12) p (nI v) nn) j) + 1))), (0, .ref (B + 0)), (1, .int (nI p)), (2, .int ((tsF (fun v => cbB (M 2 0) (M 5) (M 10) (M 11) (M 12) p (nI v) nn) (fun k => (fun v => (fun v => cbB (M 2 0) (M 5) (M 10) (M 11) (M 12) p (nI v) nn) v && decide (nI v ≤ suR (M 2 0) (M 5) p k))) i).1)), (3, .int (nI ((tsF (fun v => cbB (M 2 0) (M 5) (M 10) (M 11) (M 12) p (nI v) nn) (fun k => (fun v => (fun v => cbB (M 2 0) (M 5) (M 10) (M 11) (M 12) p (nI v) nn) v && decide (nI v ≤ suR (M 2 0) (M 5) p k))) i).2))), (5, .int (nI i))] (dk dtX7_test_1 2 rfl) rfl (nI_1 _) (by decide) rfl ?_
                    refine g_goto F 47 (dk dtX7_test_1 3 rfl) (by decide) ?_
                    refine g_sub [3, 4, 5, 6, 2, 7, 1, 0] (L1 := [(0, .ref (B + 0)), (1, .int (nI p)), (2, .int ((tsF (fun v => cbB (M 2 0) (M 5) (M 10) (M 11) (M 12) p (nI v) nn) (fun k => (fun v => (fun v => cbB (M 2 0) (M 5) (M 10) (M 11) (M 12) p (nI v) nn) v && decide (nI v ≤ suR (M 2 0) (M 5) p k))) i).1)), (3, .int (nI ((tsF (fun v => cbB (M 2 0) (M 5) (M 10) (M 11) (M 12) p (nI v) nn) (fun k => (fun v => (fun v => cbB (M 2 0) (M 5) (M 10) (M 11) (M 12) p (nI v) nn) v && decide (nI v ≤ suR (M 2 0) (M 5) p k))) i).2))), (4, .int (nI ((cnB (fun v => cbB (M 2 0) (M 5) (M 10) (M 11) (M 12) p (nI v) nn) j) + 1))), (5, .int (nI i)), (6, .int (nI ((cnB (fun v => (fun v => cbB (M 2 0) (M 5) (M 10) (M 11) (M 12) p (nI v) nn) v && decide (nI v ≤ suR (M 2 0) (M 5) p i)) j) + 1))), (7, .int (nI (j + 1)))]) rfl ?_
                    have eq47_4 : (nI ((cnB (fun v => cbB (M 2 0) (M 5) (M 10) (M 11) (M 12) p (nI v) nn) j) + 1) : Int32) = nI (cnB (fun v => cbB (M 2 0) (M 5) (M 10) (M 11) (M 12) p (nI v) nn) (j + 1)) := by
                      exact (congrArg nI (cnB_y (f := (fun v => cbB (M 2 0) (M 5) (M 10) (M 11) (M 12) p (nI v) nn)) c63)).symm
                    have eq47_6 : (nI ((cnB (fun v => (fun v => cbB (M 2 0) (M 5) (M 10) (M 11) (M 12) p (nI v) nn) v && decide (nI v ≤ suR (M 2 0) (M 5) p i)) j) + 1) : Int32) = nI (cnB (fun v => (fun v => cbB (M 2 0) (M 5) (M 10) (M 11) (M 12) p (nI v) nn) v && decide (nI v ≤ suR (M 2 0) (M 5) p i)) (j + 1)) := by
                      exact (congrArg nI (cnB_y (f := (fun v => (fun v => cbB (M 2 0) (M 5) (M 10) (M 11) (M 12) p (nI v) nn) v && decide (nI v ≤ suR (M 2 0) (M 5) p i))) (and_i c83 (Int32.not_lt.mp c99)))).symm
                    refine g_st (M1 := M) (L1 := [(0, .ref (B + 0)), (1, .int (nI p)), (2, .int ((tsF (fun v => cbB (M 2 0) (M 5) (M 10) (M 11) (M 12) p (nI v) nn) (fun k => (fun v => (fun v => cbB (M 2 0) (M 5) (M 10) (M 11) (M 12) p (nI v) nn) v && decide (nI v ≤ suR (M 2 0) (M 5) p k))) i).1)), (3, .int (nI ((tsF (fun v => cbB (M 2 0) (M 5) (M 10) (M 11) (M 12) p (nI v) nn) (fun k => (fun v => (fun v => cbB (M 2 0) (M 5) (M 10) (M 11) (M 12) p (nI v) nn) v && decide (nI v ≤ suR (M 2 0) (M 5) p k))) i).2))), (4, .int (nI (cnB (fun v => cbB (M 2 0) (M 5) (M 10) (M 11) (M 12) p (nI v) nn) (j + 1)))), (5, .int (nI i)), (6, .int (nI (cnB (fun v => (fun v => cbB (M 2 0) (M 5) (M 10) (M 11) (M 12) p (nI v) nn) v && decide (nI v ≤ suR (M 2 0) (M 5) p i)) (j + 1)))), (7, .int (nI (j + 1)))]) rfl (lc rfl (lc rfl (lc rfl (lc rfl (lc (vi eq47_4) (lc rfl (lc (vi eq47_6) (lc rfl rfl)))))))) rfl ?_
                    exact ih47 (j + 1) (by omega) (by omega)
        refine g_sub [3, 4, 5, 6, 1, 7, 2, 0] (L1 := [(0, .ref (B + 0)), (1, .int (nI p)), (2, .int ((tsF (fun v => cbB (M 2 0) (M 5) (M 10) (M 11) (M 12) p (nI v) nn) (fun k => (fun v => (fun v => cbB (M 2 0) (M 5) (M 10) (M 11) (M 12) p (nI v) nn) v && decide (nI v ≤ suR (M 2 0) (M 5) p k))) i).1)), (3, .int (nI ((tsF (fun v => cbB (M 2 0) (M 5) (M 10) (M 11) (M 12) p (nI v) nn) (fun k => (fun v => (fun v => cbB (M 2 0) (M 5) (M 10) (M 11) (M 12) p (nI v) nn) v && decide (nI v ≤ suR (M 2 0) (M 5) p k))) i).2))), (4, .int (nI 0)), (5, .int (nI i)), (6, .int (nI 0)), (7, .int (nI 0))]) rfl ?_
        exact lp47 101 0 (by omega) (by omega)
  refine g_sub [4, 5, 3, 2, 1, 0] (L1 := [(0, .ref (B + 0)), (1, .int (nI p)), (2, .int (-9)), (3, .int (nI 101)), (4, .int (nI 0)), (5, .int (nI 0))]) rfl ?_
  exact lp27 (K + 1) 0 0 ⟨by omega, by omega, fun h => absurd h (Nat.lt_irrefl 0)⟩ (by omega)
set_option maxRecDepth 100000 in
set_option maxHeartbeats 4000000 in
theorem k_X7_test_bad (l : Launch) (D : DX) (B : Nat) (T : Int64) (M : Mem) (h0 : M 0 0 = nI 0) (P : Nat) (hP : M 2 2 = nI P) (hP5 : P ≤ 5) (p : Int32) (hb : ¬ inR p P) : Ci l D B 14 (celM D B) yX7_test cX7_test 8 (some .int) 3 [.ref (B + 0), .int p] T M (fun rz T1 M1 => rz = (-1) ∧ T1 = T ∧ M1 = M) := by
  refine g_entryi (L := [(0, .ref (B + 0)), (1, .int p)]) (by decide) (Nat.le_of_ble_eq_true rfl) rfl ?_
  intro zp ze zs zm zb zt zc Q F hQ
  refine g_aload_n F 0 (dk dtX7_test_0 0 rfl) rfl ?_
  refine g_iconst F (nI 0) (dk dtX7_test_0 1 rfl) (by decide) ?_
  refine g_put F fa_X7_56 (dk dtX7_test_0 2 rfl) (by decide) (cm0 D B _ _) (Nat.le_of_ble_eq_true rfl) rfl rfl ((cm0 D B _ _).trans st_Mod_0) ?_
  refine g_mem (up2_same h0) ?_
  refine g_aload_n F 0 (dk dtX7_test_0 3 rfl) rfl ?_
  refine g_iload_n F 1 (dk dtX7_test_0 4 rfl) rfl ?_
  refine g_callVi F (As := [.int p]) (st := []) cv_X7_129 (dk dtX7_test_0 5 rfl) (by decide) (cm0 D B _ _) rfl rfl (Nat.le_of_ble_eq_true rfl) ⟨by decide, by decide⟩ (k_X7_isOne l D B _ _ _ P hP (by omega)) (fun r7 T7 M7 hp7 => ?_)
  obtain ⟨e1, e2, e3⟩ := hp7
  replace e1 := e1.symm; replace e2 := e2.symm; replace e3 := e3.symm; subst e1; subst e2; subst e3
  refine g_if_neB F 15 (dk dtX7_test_0 6 rfl) (by decide) (fun c10 => ?_) (fun c10 => ?_)
  · -- taken at 10
    exact absurd c10 hb
  · -- not taken at 10
    refine g_iconst F (-1) (dk dtX7_test_0 7 rfl) (by decide) ?_
    refine g_iret (F := F) hQ (dk dtX7_test_0 8 rfl) ?_
    exact ⟨rfl, rfl, rfl⟩
