def IsRow (D : DX) (B c : Nat) : Prop := c < 14 ∧ (∀ T r, celM D B T c r = sI D 31 T r) ∧ c ≠ 0 ∧ c ≠ 2 ∧ c ≠ 3
theorem isRow4 (D : DX) (B : Nat) : IsRow D B 4 := ⟨by decide, cm4 D B, by decide, by decide, by decide⟩
theorem isRow5 (D : DX) (B : Nat) : IsRow D B 5 := ⟨by decide, cm5 D B, by decide, by decide, by decide⟩
theorem isRow6 (D : DX) (B : Nat) : IsRow D B 6 := ⟨by decide, cm6 D B, by decide, by decide, by decide⟩
def aS (row : Nat → Int32) (p : Nat) : Int32 := nSum (fun j => row (5 + 4 * p + j)) 4
def suR (Kv : Int32) (row : Nat → Int32) (p k : Nat) : Int32 := nI 100 - nI 100 * (row (5 + 4 * p + k) + nI 1) / (aS row p + Kv)
def WR (row : Nat → Int32) : Prop := ∀ j, j < 20 → ∃ s : Nat, s ≤ 999 ∧ row (5 + j) = nI s
theorem aS_nat {row : Nat → Int32} (h : WR row) {p : Nat} (hp : p < 5) : ∃ s : Nat, s ≤ 3996 ∧ aS row p = nI s := by
  obtain ⟨s0, h0, e0⟩ := h (4 * p) (by omega)
  obtain ⟨s1, h1, e1⟩ := h (4 * p + 1) (by omega)
  obtain ⟨s2, h2, e2⟩ := h (4 * p + 2) (by omega)
  obtain ⟨s3, h3, e3⟩ := h (4 * p + 3) (by omega)
  refine ⟨s0 + s1 + s2 + s3, by omega, ?_⟩
  show (((0 + row (5 + 4 * p + 0)) + row (5 + 4 * p + 1)) + row (5 + 4 * p + 2)) + row (5 + 4 * p + 3) = _
  rw [show 5 + 4 * p + 0 = 5 + 4 * p by omega, show 5 + 4 * p + 1 = 5 + (4 * p + 1) by omega, show 5 + 4 * p + 2 = 5 + (4 * p + 2) by omega, show 5 + 4 * p + 3 = 5 + (4 * p + 3) by omega, e0, e1, e2, e3, ← nI_0, nI_add, nI_add, nI_add, nI_add]
  congr 1
  omega
theorem dvR {row : Nat → Int32} {Kv : Int32} {K : Nat} (hK : Kv = nI K) (h : WR row) (hK1 : 1 ≤ K) (hK4 : K ≤ 4) {p : Nat} (hp : p < 5) : ¬ (aS row p + Kv = 0) := by
  obtain ⟨s, hs, e⟩ := aS_nat h hp
  rw [e, hK, nI_add]
  exact nI_ne0 (by omega) (by omega)
def msK (Kv : Int32) (row : Nat → Int32) (p : Nat) : Nat → Int32 → Int32
  | 0, m => m
  | k + 1, m => if msK Kv row p k m < suR Kv row p k then suR Kv row p k else msK Kv row p k m
def msR (Kv : Int32) (row : Nat → Int32) (K : Nat) : Nat → Int32
  | 0 => -1
  | p + 1 => msK Kv row p K (msR Kv row K p)
def moR (row : Nat → Int32) : Int32 := if row 30 = 0 then -9 else row 30 - nI 1
def cpR (f g : Nat → Int32) (n : Nat) : Nat → Int32 := fun j => if j < n then f j else g j
theorem cpR_0 (M : Mem) (b c : Nat) : M = setR M c (cpR (M b) (M c) 0) := by
  funext i
  by_cases h : i = c
  · subst h
    rw [setR_self]
    funext j
    simp [cpR]
  · rw [setR_ne _ _ h]
theorem cpR_in (f g : Nat → Int32) {n j : Nat} (h : j < n) : cpR f g n j = f j := by simp [cpR, h]
theorem cpR_s (f g : Nat → Int32) (n : Nat) : upd (cpR f g n) n (f n) = cpR f g (n + 1) := by
  funext j
  by_cases h : j = n
  · subst h; simp [upd, cpR]
  · by_cases h2 : j < n
    · simp [upd, cpR, h, h2, Nat.lt_succ_of_lt h2]
    · simp [upd, cpR, h, h2, show ¬ j < n + 1 by omega]
theorem up2_setR (M : Mem) (c j : Nat) (r : Nat → Int32) (v : Int32) : up2 (setR M c r) c j v = setR M c (upd r j v) := by
  unfold up2
  rw [setR_self]
  funext i
  by_cases h : i = c <;> simp [setR, h]
def eF (nv : Nat → Int32) (Kv : Int32) (row : Nat → Int32) (k : Nat) (x : Int32) : Nat → Int32 × Int32 × Int32
  | 0 => (nI 0, -9, -1)
  | n + 1 => if row n = x ∧ nv n ≤ suR Kv row n k then ((eF nv Kv row k x n).1 ||| (nI 1 <<< (nI n &&& 31)), if (eF nv Kv row k x n).2.2 < suR Kv row n k then nI n else (eF nv Kv row k x n).2.1, if (eF nv Kv row k x n).2.2 < suR Kv row n k then suR Kv row n k else (eF nv Kv row k x n).2.2) else eF nv Kv row k x n
theorem eF_first {nv : Nat → Int32} {Kv : Int32} {row : Nat → Int32} {k : Nat} {x : Int32} {n : Nat} (h : ¬ (eF nv Kv row k x n).2.1 = -9) : ∃ q : Nat, q < n ∧ (eF nv Kv row k x n).2.1 = nI q := by
  induction n with
  | zero => exact absurd rfl h
  | succ n ih =>
    simp only [eF] at h ⊢
    split
    · rename_i h1
      rw [if_pos h1] at h
      dsimp only at h ⊢
      split
      · exact ⟨n, by omega, rfl⟩
      · rename_i h2
        rw [if_neg h2] at h
        obtain ⟨q, hq, e⟩ := ih h
        exact ⟨q, by omega, e⟩
    · rename_i h1
      rw [if_neg h1] at h
      obtain ⟨q, hq, e⟩ := ih h
      exact ⟨q, by omega, e⟩
def e1 (row : Nat → Int32) (f : Int32) : Nat → Int32 := if f = -9 ∨ row 30 = f + nI 1 then row else upd (upd row 30 (f + nI 1)) (25 + f.toNatClampNeg) (row (25 + f.toNatClampNeg) + nI 1)
def e2 (R1 : Nat → Int32) (k : Nat) (x : Int32) : Nat → Nat → Int32
  | 0 => R1
  | n + 1 => upd (e2 R1 k x n) (5 + 4 * n + k) (e2 R1 k x n (5 + 4 * n + k) + (if e2 R1 k x n n = x ∧ e2 R1 k x n (5 + 4 * n + k) < nI 999 then nI 1 else nI 0))
def evR (nv : Nat → Int32) (Kv : Int32) (row : Nat → Int32) (k : Nat) (x : Int32) (P : Nat) : Nat → Int32 := e2 (e1 row (eF nv Kv row k x P).2.1) k x P
theorem e2_y (R1 : Nat → Int32) (k : Nat) (x : Int32) (n : Nat) (h : e2 R1 k x n n = x ∧ e2 R1 k x n (5 + 4 * n + k) < nI 999) : upd (e2 R1 k x n) (5 + 4 * n + k) (e2 R1 k x n (5 + 4 * n + k) + nI 1) = e2 R1 k x (n + 1) := by
  simp only [e2]
  rw [if_pos h]
theorem e2_n (R1 : Nat → Int32) (k : Nat) (x : Int32) (n : Nat) (h : ¬ (e2 R1 k x n n = x ∧ e2 R1 k x n (5 + 4 * n + k) < nI 999)) : upd (e2 R1 k x n) (5 + 4 * n + k) (e2 R1 k x n (5 + 4 * n + k) + nI 0) = e2 R1 k x (n + 1) := by
  simp only [e2]
  rw [if_neg h]
theorem e1_no1 (M : Mem) (c : Nat) {f : Int32} (h : f = -9) : M = setR M c (e1 (M c) f) := by
  unfold e1
  rw [if_pos (Or.inl h), setR_same]
theorem e1_no2 (M : Mem) (c : Nat) {f : Int32} {q : Nat} (hq : f = nI q) (h : M c 30 = nI (q + 1)) : M = setR M c (e1 (M c) f) := by
  unfold e1
  rw [if_pos (Or.inr (by rw [h, hq, nI_add])), setR_same]
theorem e1_yes (M : Mem) (c : Nat) {f : Int32} {q : Nat} (hq : f = nI q) (h5 : q < 5) (h : ¬ M c 30 = nI (q + 1)) : up2 (up2 M c 30 (nI (q + 1))) c (25 + q) (M c (25 + q) + nI 1) = setR M c (e1 (M c) f) := by
  unfold e1
  rw [if_neg (by rw [hq, nI_add]; exact fun e => e.elim (fun e => absurd (e ▸ nI_toInt (show q < 2 ^ 31 by omega)) (by simp)) h), hq, nI_clamp (by omega), nI_add]
  unfold up2
  rw [setR_setR, setR_self]
set_option maxRecDepth 100000 in
set_option maxHeartbeats 4000000 in
theorem k_X7_in (l : Launch) (D : DX) (B : Nat) (T : Int64) (M : Mem) (v a b : Int32) : Ci l D B 14 (celM D B) yX7_in cX7_in 3 (some .boolean) 0 [.int v, .int a, .int b] T M (fun r T1 M1 => r = bI (¬ v < a ∧ ¬ b < v) ∧ T1 = T ∧ M1 = M) := by
  refine g_entryi (L := [(0, .int v), (1, .int a), (2, .int b)]) (by decide) (Nat.le_of_ble_eq_true rfl) rfl ?_
  intro zp ze zs zm zb zt zc Q F hQ
  refine g_iload_n F 0 (dk dtX7_in_0 0 rfl) rfl ?_
  refine g_iload_n F 1 (dk dtX7_in_0 1 rfl) rfl ?_
  refine g_icmp_lt F 14 (dk dtX7_in_0 2 rfl) (by decide) (fun c2 => ?_) (fun c2 => ?_)
  · -- taken at 2
    refine g_iconst F (nI 0) (dk dtX7_in_0 8 rfl) (by decide) ?_
    refine g_zret (F := F) hQ (dk dtX7_in_0 9 rfl) (rfl) ?_
    exact ⟨(if_neg (fun h => h.1 c2)).symm, rfl, rfl⟩
  · -- not taken at 2
    refine g_iload_n F 0 (dk dtX7_in_0 3 rfl) rfl ?_
    refine g_iload_n F 2 (dk dtX7_in_0 4 rfl) rfl ?_
    refine g_icmp_gt F 14 (dk dtX7_in_0 5 rfl) (by decide) (fun c7 => ?_) (fun c7 => ?_)
    · -- taken at 7
      refine g_iconst F (nI 0) (dk dtX7_in_0 8 rfl) (by decide) ?_
      refine g_zret (F := F) hQ (dk dtX7_in_0 9 rfl) (rfl) ?_
      exact ⟨(if_neg (fun h => h.2 c7)).symm, rfl, rfl⟩
    · -- not taken at 7
      refine g_iconst F (nI 1) (dk dtX7_in_0 6 rfl) (by decide) ?_
      refine g_goto F 15 (dk dtX7_in_0 7 rfl) (by decide) ?_
      refine g_zret (F := F) hQ (dk dtX7_in_0 9 rfl) (rfl) ?_
      exact ⟨(if_pos ⟨c2, c7⟩).symm, rfl, rfl⟩
set_option maxRecDepth 100000 in
set_option maxHeartbeats 4000000 in
theorem k_X7_allSeen (l : Launch) (D : DX) (B : Nat) (T : Int64) (M : Mem) (c : Nat) (hc : IsRow D B c) (p : Nat) (hp : p < 5) : Ci l D B 14 (celM D B) yX7_allSeen cX7_allSeen 5 (some .int) 0 [.ref (B + 0), .ref (B + c), .int (nI p)] T M (fun r T1 M1 => r = aS (M c) p ∧ T1 = T ∧ M1 = M) := by
  refine g_entryi (L := [(0, .ref (B + 0)), (1, .ref (B + c)), (2, .int (nI p))]) (by decide) (Nat.le_of_ble_eq_true rfl) rfl ?_
  intro zp ze zs zm zb zt zc Q F hQ
  refine g_iconst F (nI 0) (dk dtX7_allSeen_0 0 rfl) (by decide) ?_
  refine g_istore_n F [(3, .int (nI 0)), (0, .ref (B + 0)), (1, .ref (B + c)), (2, .int (nI p))] (dk dtX7_allSeen_0 1 rfl) (by decide) rfl ?_
  refine g_iconst F (nI 0) (dk dtX7_allSeen_0 2 rfl) (by decide) ?_
  refine g_istore F [(4, .int (nI 0)), (3, .int (nI 0)), (0, .ref (B + 0)), (1, .ref (B + c)), (2, .int (nI p))] (dk dtX7_allSeen_0 3 rfl) (by decide) rfl ?_
  have lp5 : ∀ (fz : Nat) (i : Nat), i ≤ 4 → (4 - i) < fz → G zp l ze { frames := 0, cells := 0, slots := 0, locals := 40 * 0 } zs zm [.ref (B + 0), .ref (B + c), .int (nI p)].toArray zb zt zc 5 D B 14 (celM D B) Q T M 5 [(0, .ref (B + 0)), (1, .ref (B + c)), (2, .int (nI p)), (3, .int (nSum (fun j => M c (5 + 4 * p + j)) i)), (4, .int (nI i))] [] := by
    intro n5
    induction n5 with
    | zero => intro i hI hn; exact absurd hn (Nat.not_lt_zero _)
    | succ n5 ih5 =>
      intro i hI5 hn5
      refine g_iload F 4 (dk dtX7_allSeen_0 4 rfl) rfl ?_
      refine g_iconst F (nI 4) (dk dtX7_allSeen_0 5 rfl) (by decide) ?_
      refine g_icmp_geN F 30 (dk dtX7_allSeen_0 6 rfl) (by decide) (by omega) (by omega) (fun c8 => ?_) (fun c8 => ?_)
      · -- taken at 8
        obtain rfl : 4 = i := by omega
        refine g_iload_n F 3 (dk dtX7_allSeen_0 21 rfl) rfl ?_
        refine g_iret (F := F) hQ (dk dtX7_allSeen_0 22 rfl) ?_
        exact ⟨rfl, rfl, rfl⟩
      · -- not taken at 8
        refine g_iload_n F 3 (dk dtX7_allSeen_0 7 rfl) rfl ?_
        refine g_aload_n F 1 (dk dtX7_allSeen_0 8 rfl) rfl ?_
        refine g_iconst F (nI 5) (dk dtX7_allSeen_0 9 rfl) (by decide) ?_
        refine g_iconst F (nI 4) (dk dtX7_allSeen_0 10 rfl) (by decide) ?_
        refine g_iload_n F 2 (dk dtX7_allSeen_0 11 rfl) rfl ?_
        refine g_imulN F (dk dtX7_allSeen_0 12 rfl) ?_
        refine g_iaddN F (dk dtX7_allSeen_0 13 rfl) ?_
        refine g_iload F 4 (dk dtX7_allSeen_0 14 rfl) rfl ?_
        refine g_iaddN F (dk dtX7_allSeen_0 15 rfl) ?_
        refine g_iald F ((5 + (4 * p)) + i) (dk dtX7_allSeen_0 16 rfl) (by have := hc.1; omega) (hc.2.1 _ _) (by omega) (by decide) ?_
        refine g_iadd F (dk dtX7_allSeen_0 17 rfl) ?_
        refine g_istore_n F [(3, .int ((nSum (fun j => M c (5 + 4 * p + j)) i) + (M c ((5 + (4 * p)) + i)))), (0, .ref (B + 0)), (1, .ref (B + c)), (2, .int (nI p)), (4, .int (nI i))] (dk dtX7_allSeen_0 18 rfl) (by decide) rfl ?_
        refine g_iinc F 4 (nI (i + 1)) [(4, .int (nI (i + 1))), (3, .int ((nSum (fun j => M c (5 + 4 * p + j)) i) + (M c ((5 + (4 * p)) + i)))), (0, .ref (B + 0)), (1, .ref (B + c)), (2, .int (nI p))] (dk dtX7_allSeen_0 19 rfl) rfl (nI_1 _) (by decide) rfl ?_
        refine g_goto F 5 (dk dtX7_allSeen_0 20 rfl) (by decide) ?_
        refine g_sub [2, 3, 4, 1, 0] (L1 := [(0, .ref (B + 0)), (1, .ref (B + c)), (2, .int (nI p)), (3, .int ((nSum (fun j => M c (5 + 4 * p + j)) i) + (M c ((5 + (4 * p)) + i)))), (4, .int (nI (i + 1)))]) rfl ?_
        have eq5_3 : ((nSum (fun j => M c (5 + 4 * p + j)) i) + (M c ((5 + (4 * p)) + i)) : Int32) = nSum (fun j => M c (5 + 4 * p + j)) (i + 1) := by
          rfl
        refine g_st (M1 := M) (L1 := [(0, .ref (B + 0)), (1, .ref (B + c)), (2, .int (nI p)), (3, .int (nSum (fun j => M c (5 + 4 * p + j)) (i + 1))), (4, .int (nI (i + 1)))]) rfl (lc rfl (lc rfl (lc rfl (lc (vi eq5_3) (lc rfl rfl))))) rfl ?_
        exact ih5 (i + 1) (by omega) (by omega)
  refine g_sub [2, 3, 4, 1, 0] (L1 := [(0, .ref (B + 0)), (1, .ref (B + c)), (2, .int (nI p)), (3, .int (nI 0)), (4, .int (nI 0))]) rfl ?_
  exact lp5 5 0 (by omega) (by omega)
set_option maxRecDepth 100000 in
set_option maxHeartbeats 4000000 in
theorem k_X7_surpriseOf (l : Launch) (D : DX) (B : Nat) (T : Int64) (M : Mem) (c : Nat) (hc : IsRow D B c) (p k : Nat) (hp : p < 5) (hk : k < 4) (hdv : ¬ (aS (M c) p + M 2 0 = 0)) : Ci l D B 14 (celM D B) yX7_surpriseOf cX7_surpriseOf 4 (some .int) 1 [.ref (B + 0), .ref (B + c), .int (nI p), .int (nI k)] T M (fun r T1 M1 => r = suR (M 2 0) (M c) p k ∧ T1 = T ∧ M1 = M) := by
  refine g_entryi (L := [(0, .ref (B + 0)), (1, .ref (B + c)), (2, .int (nI p)), (3, .int (nI k))]) (by decide) (Nat.le_of_ble_eq_true rfl) rfl ?_
  intro zp ze zs zm zb zt zc Q F hQ
  refine g_bipush F (nI 100) (dk dtX7_surpriseOf_0 0 rfl) (by decide) ?_
  refine g_bipush F (nI 100) (dk dtX7_surpriseOf_0 1 rfl) (by decide) ?_
  refine g_aload_n F 1 (dk dtX7_surpriseOf_0 2 rfl) rfl ?_
  refine g_iconst F (nI 5) (dk dtX7_surpriseOf_0 3 rfl) (by decide) ?_
  refine g_iconst F (nI 4) (dk dtX7_surpriseOf_0 4 rfl) (by decide) ?_
  refine g_iload_n F 2 (dk dtX7_surpriseOf_0 5 rfl) rfl ?_
  refine g_imulN F (dk dtX7_surpriseOf_0 6 rfl) ?_
  refine g_iaddN F (dk dtX7_surpriseOf_0 7 rfl) ?_
  refine g_iload_n F 3 (dk dtX7_surpriseOf_0 8 rfl) rfl ?_
  refine g_iaddN F (dk dtX7_surpriseOf_0 9 rfl) ?_
  refine g_iald F ((5 + (4 * p)) + k) (dk dtX7_surpriseOf_0 10 rfl) (by have := hc.1; omega) (hc.2.1 _ _) (by omega) (by decide) ?_
  refine g_iconst F (nI 1) (dk dtX7_surpriseOf_0 11 rfl) (by decide) ?_
  refine g_iadd F (dk dtX7_surpriseOf_0 12 rfl) ?_
  refine g_imul F (dk dtX7_surpriseOf_0 13 rfl) ?_
  refine g_aload_n F 0 (dk dtX7_surpriseOf_0 14 rfl) rfl ?_
  refine g_aload_n F 1 (dk dtX7_surpriseOf_0 15 rfl) rfl ?_
  refine g_iload_n F 2 (dk dtX7_surpriseOf_0 16 rfl) rfl ?_
  refine g_callVi F (As := [.ref (B + c), .int (nI p)]) (st := [.int ((nI 100) * ((M c ((5 + (4 * p)) + k)) + (nI 1))), .int (nI 100)]) cv_X7_125 (dk dtX7_surpriseOf_0 17 rfl) (by decide) (cm0 D B _ _) rfl rfl (Nat.le_of_ble_eq_true rfl) ⟨by decide, by decide⟩ (k_X7_allSeen l D B _ _ c hc _ (by omega)) (fun r19 T19 M19 hp19 => ?_)
  obtain ⟨e1, e2, e3⟩ := hp19
  replace e1 := e1.symm; replace e2 := e2.symm; replace e3 := e3.symm; subst e1; subst e2; subst e3
  refine g_aload_n F 0 (dk dtX7_surpriseOf_0 18 rfl) rfl ?_
  refine g_get F fa_X7_13 (dk dtX7_surpriseOf_0 19 rfl) (by decide) (cm0 D B _ _) rfl ?_
  refine g_iconst F (nI 0) (dk dtX7_surpriseOf_0 20 rfl) (by decide) ?_
  refine g_iald F (0) (dk dtX7_surpriseOf_0 21 rfl) (by decide) (cm2 D B _ _) (by omega) (by decide) ?_
  refine g_iadd F (dk dtX7_surpriseOf_0 22 rfl) ?_
  refine g_idiv F (dk dtX7_surpriseOf_0 23 rfl) (hdv) ?_
  refine g_isub F (dk dtX7_surpriseOf_0 24 rfl) ?_
  refine g_iret (F := F) hQ (dk dtX7_surpriseOf_0 25 rfl) ?_
  exact ⟨rfl, rfl, rfl⟩
set_option maxRecDepth 100000 in
set_option maxHeartbeats 4000000 in
theorem k_X7_allTerms (l : Launch) (D : DX) (B : Nat) (T : Int64) (M : Mem) (P : Nat) (hP : M 2 2 = nI P) (hP5 : P ≤ 5) : Ci l D B 14 (celM D B) yX7_allTerms cX7_allTerms 3 (some .int) 0 [.ref (B + 0)] T M (fun r T1 M1 => r = nSum (fun j => M 5 (25 + j)) P ∧ T1 = T ∧ M1 = M) := by
  refine g_entryi (L := [(0, .ref (B + 0))]) (by decide) (Nat.le_of_ble_eq_true rfl) rfl ?_
  intro zp ze zs zm zb zt zc Q F hQ
  refine g_iconst F (nI 0) (dk dtX7_allTerms_0 0 rfl) (by decide) ?_
  refine g_istore_n F [(1, .int (nI 0)), (0, .ref (B + 0))] (dk dtX7_allTerms_0 1 rfl) (by decide) rfl ?_
  refine g_iconst F (nI 0) (dk dtX7_allTerms_0 2 rfl) (by decide) ?_
  refine g_istore_n F [(2, .int (nI 0)), (1, .int (nI 0)), (0, .ref (B + 0))] (dk dtX7_allTerms_0 3 rfl) (by decide) rfl ?_
  have lp4 : ∀ (fz : Nat) (i : Nat), i ≤ P → (P - i) < fz → G zp l ze { frames := 0, cells := 0, slots := 0, locals := 40 * 0 } zs zm [.ref (B + 0)].toArray zb zt zc 3 D B 14 (celM D B) Q T M 4 [(0, .ref (B + 0)), (1, .int (nSum (fun j => M 5 (25 + j)) i)), (2, .int (nI i))] [] := by
    intro n4
    induction n4 with
    | zero => intro i hI hn; exact absurd hn (Nat.not_lt_zero _)
    | succ n4 ih4 =>
      intro i hI4 hn4
      refine g_iload_n F 2 (dk dtX7_allTerms_0 4 rfl) rfl ?_
      refine g_aload_n F 0 (dk dtX7_allTerms_0 5 rfl) rfl ?_
      refine g_get F fa_X7_13 (dk dtX7_allTerms_0 6 rfl) (by decide) (cm0 D B _ _) rfl ?_
      refine g_iconst F (nI 2) (dk dtX7_allTerms_0 7 rfl) (by decide) ?_
      refine g_iald F (2) (dk dtX7_allTerms_0 8 rfl) (by decide) (cm2 D B _ _) (by omega) (by decide) ?_
      refine g_top hP ?_
      refine g_icmp_geN F 32 (dk dtX7_allTerms_0 9 rfl) (by decide) (by omega) (by omega) (fun c11 => ?_) (fun c11 => ?_)
      · -- taken at 11
        obtain rfl : P = i := by omega
        refine g_iload_n F 1 (dk dtX7_allTerms_0 21 rfl) rfl ?_
        refine g_iret (F := F) hQ (dk dtX7_allTerms_0 22 rfl) ?_
        exact ⟨rfl, rfl, rfl⟩
      · -- not taken at 11
        refine g_iload_n F 1 (dk dtX7_allTerms_0 10 rfl) rfl ?_
        refine g_aload_n F 0 (dk dtX7_allTerms_0 11 rfl) rfl ?_
        refine g_get F fa_X7_22 (dk dtX7_allTerms_0 12 rfl) (by decide) (cm0 D B _ _) rfl ?_
        refine g_bipush F (nI 25) (dk dtX7_allTerms_0 13 rfl) (by decide) ?_
        refine g_iload_n F 2 (dk dtX7_allTerms_0 14 rfl) rfl ?_
        refine g_iaddN F (dk dtX7_allTerms_0 15 rfl) ?_
        refine g_iald F (25 + i) (dk dtX7_allTerms_0 16 rfl) (by decide) (cm5 D B _ _) (by omega) (by decide) ?_
        refine g_iadd F (dk dtX7_allTerms_0 17 rfl) ?_
        refine g_istore_n F [(1, .int ((nSum (fun j => M 5 (25 + j)) i) + (M 5 (25 + i)))), (0, .ref (B + 0)), (2, .int (nI i))] (dk dtX7_allTerms_0 18 rfl) (by decide) rfl ?_
        refine g_iinc F 2 (nI (i + 1)) [(2, .int (nI (i + 1))), (1, .int ((nSum (fun j => M 5 (25 + j)) i) + (M 5 (25 + i)))), (0, .ref (B + 0))] (dk dtX7_allTerms_0 19 rfl) rfl (nI_1 _) (by decide) rfl ?_
        refine g_goto F 4 (dk dtX7_allTerms_0 20 rfl) (by decide) ?_
        refine g_sub [2, 1, 0] (L1 := [(0, .ref (B + 0)), (1, .int ((nSum (fun j => M 5 (25 + j)) i) + (M 5 (25 + i)))), (2, .int (nI (i + 1)))]) rfl ?_
        have eq4_1 : ((nSum (fun j => M 5 (25 + j)) i) + (M 5 (25 + i)) : Int32) = nSum (fun j => M 5 (25 + j)) (i + 1) := by
          rfl
        refine g_st (M1 := M) (L1 := [(0, .ref (B + 0)), (1, .int (nSum (fun j => M 5 (25 + j)) (i + 1))), (2, .int (nI (i + 1)))]) rfl (lc rfl (lc (vi eq4_1) (lc rfl rfl))) rfl ?_
        exact ih4 (i + 1) (by omega) (by omega)
  refine g_sub [2, 1, 0] (L1 := [(0, .ref (B + 0)), (1, .int (nI 0)), (2, .int (nI 0))]) rfl ?_
  exact lp4 (P + 1) 0 (by omega) (by omega)
set_option maxRecDepth 100000 in
set_option maxHeartbeats 4000000 in
theorem k_X7_withTerms (l : Launch) (D : DX) (B : Nat) (T : Int64) (M : Mem) (P : Nat) (hP : M 2 2 = nI P) (hP5 : P ≤ 5) : Ci l D B 14 (celM D B) yX7_withTerms cX7_withTerms 3 (some .int) 0 [.ref (B + 0)] T M (fun r T1 M1 => r = nI (nCnt (fun j => M 5 (25 + j)) P) ∧ T1 = T ∧ M1 = M) := by
  refine g_entryi (L := [(0, .ref (B + 0))]) (by decide) (Nat.le_of_ble_eq_true rfl) rfl ?_
  intro zp ze zs zm zb zt zc Q F hQ
  refine g_iconst F (nI 0) (dk dtX7_withTerms_0 0 rfl) (by decide) ?_
  refine g_istore_n F [(1, .int (nI 0)), (0, .ref (B + 0))] (dk dtX7_withTerms_0 1 rfl) (by decide) rfl ?_
  refine g_iconst F (nI 0) (dk dtX7_withTerms_0 2 rfl) (by decide) ?_
  refine g_istore_n F [(2, .int (nI 0)), (1, .int (nI 0)), (0, .ref (B + 0))] (dk dtX7_withTerms_0 3 rfl) (by decide) rfl ?_
  have lp4 : ∀ (fz : Nat) (i : Nat), i ≤ P → (P - i) < fz → G zp l ze { frames := 0, cells := 0, slots := 0, locals := 40 * 0 } zs zm [.ref (B + 0)].toArray zb zt zc 3 D B 14 (celM D B) Q T M 4 [(0, .ref (B + 0)), (1, .int (nI (nCnt (fun j => M 5 (25 + j)) i))), (2, .int (nI i))] [] := by
    intro n4
    induction n4 with
    | zero => intro i hI hn; exact absurd hn (Nat.not_lt_zero _)
    | succ n4 ih4 =>
      intro i hI4 hn4
      refine g_iload_n F 2 (dk dtX7_withTerms_0 4 rfl) rfl ?_
      refine g_aload_n F 0 (dk dtX7_withTerms_0 5 rfl) rfl ?_
      refine g_get F fa_X7_13 (dk dtX7_withTerms_0 6 rfl) (by decide) (cm0 D B _ _) rfl ?_
      refine g_iconst F (nI 2) (dk dtX7_withTerms_0 7 rfl) (by decide) ?_
      refine g_iald F (2) (dk dtX7_withTerms_0 8 rfl) (by decide) (cm2 D B _ _) (by omega) (by decide) ?_
      refine g_top hP ?_
      refine g_icmp_geN F 40 (dk dtX7_withTerms_0 9 rfl) (by decide) (by omega) (by omega) (fun c11 => ?_) (fun c11 => ?_)
      · -- taken at 11
        obtain rfl : P = i := by omega
        refine g_iload_n F 1 (dk dtX7_withTerms_0 25 rfl) rfl ?_
        refine g_iret (F := F) hQ (dk dtX7_withTerms_0 26 rfl) ?_
        exact ⟨rfl, rfl, rfl⟩
      · -- not taken at 11
        refine g_iload_n F 1 (dk dtX7_withTerms_0 10 rfl) rfl ?_
        refine g_aload_n F 0 (dk dtX7_withTerms_0 11 rfl) rfl ?_
        refine g_get F fa_X7_22 (dk dtX7_withTerms_0 12 rfl) (by decide) (cm0 D B _ _) rfl ?_
        refine g_bipush F (nI 25) (dk dtX7_withTerms_0 13 rfl) (by decide) ?_
        refine g_iload_n F 2 (dk dtX7_withTerms_0 14 rfl) rfl ?_
        refine g_iaddN F (dk dtX7_withTerms_0 15 rfl) ?_
        refine g_iald F (25 + i) (dk dtX7_withTerms_0 16 rfl) (by decide) (cm5 D B _ _) (by omega) (by decide) ?_
        refine g_if_le F 31 (dk dtX7_withTerms_0 17 rfl) (by decide) (fun c24 => ?_) (fun c24 => ?_)
        · -- taken at 24
          refine g_iconst F (nI 0) (dk dtX7_withTerms_0 20 rfl) (by decide) ?_
          refine g_iaddN F (dk dtX7_withTerms_0 21 rfl) ?_
          refine g_istore_n F [(1, .int (nI ((nCnt (fun j => M 5 (25 + j)) i) + 0))), (0, .ref (B + 0)), (2, .int (nI i))] (dk dtX7_withTerms_0 22 rfl) (by decide) rfl ?_
          refine g_iinc F 2 (nI (i + 1)) [(2, .int (nI (i + 1))), (1, .int (nI ((nCnt (fun j => M 5 (25 + j)) i) + 0))), (0, .ref (B + 0))] (dk dtX7_withTerms_0 23 rfl) rfl (nI_1 _) (by decide) rfl ?_
          refine g_goto F 4 (dk dtX7_withTerms_0 24 rfl) (by decide) ?_
          refine g_sub [2, 1, 0] (L1 := [(0, .ref (B + 0)), (1, .int (nI ((nCnt (fun j => M 5 (25 + j)) i) + 0))), (2, .int (nI (i + 1)))]) rfl ?_
          have eq4_1 : (nI ((nCnt (fun j => M 5 (25 + j)) i) + 0) : Int32) = nI (nCnt (fun j => M 5 (25 + j)) (i + 1)) := by
            simp [nCnt, c24]
          refine g_st (M1 := M) (L1 := [(0, .ref (B + 0)), (1, .int (nI (nCnt (fun j => M 5 (25 + j)) (i + 1)))), (2, .int (nI (i + 1)))]) rfl (lc rfl (lc (vi eq4_1) (lc rfl rfl))) rfl ?_
          exact ih4 (i + 1) (by omega) (by omega)
        · -- not taken at 24
          refine g_iconst F (nI 1) (dk dtX7_withTerms_0 18 rfl) (by decide) ?_
          refine g_goto F 32 (dk dtX7_withTerms_0 19 rfl) (by decide) ?_
          refine g_iaddN F (dk dtX7_withTerms_0 21 rfl) ?_
          refine g_istore_n F [(1, .int (nI ((nCnt (fun j => M 5 (25 + j)) i) + 1))), (0, .ref (B + 0)), (2, .int (nI i))] (dk dtX7_withTerms_0 22 rfl) (by decide) rfl ?_
          refine g_iinc F 2 (nI (i + 1)) [(2, .int (nI (i + 1))), (1, .int (nI ((nCnt (fun j => M 5 (25 + j)) i) + 1))), (0, .ref (B + 0))] (dk dtX7_withTerms_0 23 rfl) rfl (nI_1 _) (by decide) rfl ?_
          refine g_goto F 4 (dk dtX7_withTerms_0 24 rfl) (by decide) ?_
          refine g_sub [2, 1, 0] (L1 := [(0, .ref (B + 0)), (1, .int (nI ((nCnt (fun j => M 5 (25 + j)) i) + 1))), (2, .int (nI (i + 1)))]) rfl ?_
          have eq4_1 : (nI ((nCnt (fun j => M 5 (25 + j)) i) + 1) : Int32) = nI (nCnt (fun j => M 5 (25 + j)) (i + 1)) := by
            simp [nCnt, c24]
          refine g_st (M1 := M) (L1 := [(0, .ref (B + 0)), (1, .int (nI (nCnt (fun j => M 5 (25 + j)) (i + 1)))), (2, .int (nI (i + 1)))]) rfl (lc rfl (lc (vi eq4_1) (lc rfl rfl))) rfl ?_
          exact ih4 (i + 1) (by omega) (by omega)
  refine g_sub [2, 1, 0] (L1 := [(0, .ref (B + 0)), (1, .int (nI 0)), (2, .int (nI 0))]) rfl ?_
  exact lp4 (P + 1) 0 (by omega) (by omega)
set_option maxRecDepth 100000 in
set_option maxHeartbeats 4000000 in
theorem k_X7_mostSurprise (l : Launch) (D : DX) (B : Nat) (T : Int64) (M : Mem) (K P : Nat) (hK : M 2 0 = nI K) (hP : M 2 2 = nI P) (hK1 : 1 ≤ K) (hK4 : K ≤ 4) (hP5 : P ≤ 5) (hW : WR (M 5)) : Ci l D B 14 (celM D B) yX7_mostSurprise cX7_mostSurprise 5 (some .int) 2 [.ref (B + 0)] T M (fun r T1 M1 => r = msR (M 2 0) (M 5) K P ∧ T1 = T ∧ M1 = M) := by
  refine g_entryi (L := [(0, .ref (B + 0))]) (by decide) (Nat.le_of_ble_eq_true rfl) rfl ?_
  intro zp ze zs zm zb zt zc Q F hQ
  refine g_iconst F (-1) (dk dtX7_mostSurprise_0 0 rfl) (by decide) ?_
  refine g_istore_n F [(1, .int (-1)), (0, .ref (B + 0))] (dk dtX7_mostSurprise_0 1 rfl) (by decide) rfl ?_
  refine g_iconst F (nI 0) (dk dtX7_mostSurprise_0 2 rfl) (by decide) ?_
  refine g_istore_n F [(2, .int (nI 0)), (1, .int (-1)), (0, .ref (B + 0))] (dk dtX7_mostSurprise_0 3 rfl) (by decide) rfl ?_
  have lp4 : ∀ (fz : Nat) (i : Nat), i ≤ P → (P - i) < fz → G zp l ze { frames := 2, cells := 0, slots := 0, locals := 40 * 2 } zs zm [.ref (B + 0)].toArray zb zt zc 5 D B 14 (celM D B) Q T M 4 [(0, .ref (B + 0)), (1, .int (msR (M 2 0) (M 5) K i)), (2, .int (nI i))] [] := by
    intro n4
    induction n4 with
    | zero => intro i hI hn; exact absurd hn (Nat.not_lt_zero _)
    | succ n4 ih4 =>
      intro i hI4 hn4
      refine g_iload_n F 2 (dk dtX7_mostSurprise_0 4 rfl) rfl ?_
      refine g_aload_n F 0 (dk dtX7_mostSurprise_0 5 rfl) rfl ?_
      refine g_get F fa_X7_13 (dk dtX7_mostSurprise_0 6 rfl) (by decide) (cm0 D B _ _) rfl ?_
      refine g_iconst F (nI 2) (dk dtX7_mostSurprise_0 7 rfl) (by decide) ?_
      refine g_iald F (2) (dk dtX7_mostSurprise_0 8 rfl) (by decide) (cm2 D B _ _) (by omega) (by decide) ?_
      refine g_top hP ?_
      refine g_icmp_geN F 63 (dk dtX7_mostSurprise_0 9 rfl) (by decide) (by omega) (by omega) (fun c11 => ?_) (fun c11 => ?_)
      · -- taken at 11
        obtain rfl : P = i := by omega
        refine g_iload_n F 1 (dk dtX7_mostSurprise_0 36 rfl) rfl ?_
        refine g_iret (F := F) hQ (dk dtX7_mostSurprise_0 37 rfl) ?_
        exact ⟨rfl, rfl, rfl⟩
      · -- not taken at 11
        refine g_iconst F (nI 0) (dk dtX7_mostSurprise_0 10 rfl) (by decide) ?_
        refine g_istore_n F [(3, .int (nI 0)), (0, .ref (B + 0)), (1, .int (msR (M 2 0) (M 5) K i)), (2, .int (nI i))] (dk dtX7_mostSurprise_0 11 rfl) (by decide) rfl ?_
        have lp16 : ∀ (fz : Nat) (j : Nat), j ≤ K → (K - j) < fz → G zp l ze { frames := 2, cells := 0, slots := 0, locals := 40 * 2 } zs zm [.ref (B + 0)].toArray zb zt zc 5 D B 14 (celM D B) Q T M 16 [(0, .ref (B + 0)), (1, .int (msK (M 2 0) (M 5) i j (msR (M 2 0) (M 5) K i))), (2, .int (nI i)), (3, .int (nI j))] [] := by
          intro n16
          induction n16 with
          | zero => intro j hI hn; exact absurd hn (Nat.not_lt_zero _)
          | succ n16 ih16 =>
            intro j hI16 hn16
            refine g_iload_n F 3 (dk dtX7_mostSurprise_0 12 rfl) rfl ?_
            refine g_aload_n F 0 (dk dtX7_mostSurprise_0 13 rfl) rfl ?_
            refine g_get F fa_X7_13 (dk dtX7_mostSurprise_0 14 rfl) (by decide) (cm0 D B _ _) rfl ?_
            refine g_iconst F (nI 0) (dk dtX7_mostSurprise_0 15 rfl) (by decide) ?_
            refine g_iald F (0) (dk dtX7_mostSurprise_0 16 rfl) (by decide) (cm2 D B _ _) (by omega) (by decide) ?_
            refine g_top hK ?_
            refine g_icmp_geN F 57 (dk dtX7_mostSurprise_0 17 rfl) (by decide) (by omega) (by omega) (fun c23 => ?_) (fun c23 => ?_)
            · -- taken at 23
              obtain rfl : K = j := by omega
              refine g_iinc F 2 (nI (i + 1)) [(2, .int (nI (i + 1))), (0, .ref (B + 0)), (1, .int (msK (M 2 0) (M 5) i K (msR (M 2 0) (M 5) K i))), (3, .int (nI K))] (dk dtX7_mostSurprise_0 34 rfl) rfl (nI_1 _) (by decide) rfl ?_
              refine g_goto F 4 (dk dtX7_mostSurprise_0 35 rfl) (by decide) ?_
              refine g_sub [1, 2, 0] (L1 := [(0, .ref (B + 0)), (1, .int (msK (M 2 0) (M 5) i K (msR (M 2 0) (M 5) K i))), (2, .int (nI (i + 1)))]) rfl ?_
              have eq4_1 : (msK (M 2 0) (M 5) i K (msR (M 2 0) (M 5) K i) : Int32) = msR (M 2 0) (M 5) K (i + 1) := by
                rfl
              refine g_st (M1 := M) (L1 := [(0, .ref (B + 0)), (1, .int (msR (M 2 0) (M 5) K (i + 1))), (2, .int (nI (i + 1)))]) rfl (lc rfl (lc (vi eq4_1) (lc rfl rfl))) rfl ?_
              exact ih4 (i + 1) (by omega) (by omega)
            · -- not taken at 23
              refine g_aload_n F 0 (dk dtX7_mostSurprise_0 18 rfl) rfl ?_
              refine g_aload_n F 0 (dk dtX7_mostSurprise_0 19 rfl) rfl ?_
              refine g_get F fa_X7_22 (dk dtX7_mostSurprise_0 20 rfl) (by decide) (cm0 D B _ _) rfl ?_
              refine g_iload_n F 2 (dk dtX7_mostSurprise_0 21 rfl) rfl ?_
              refine g_iload_n F 3 (dk dtX7_mostSurprise_0 22 rfl) rfl ?_
              refine g_callVi F (As := [.ref (B + 5), .int (nI i), .int (nI j)]) (st := []) cv_X7_135 (dk dtX7_mostSurprise_0 23 rfl) (by decide) (cm0 D B _ _) rfl rfl (Nat.le_of_ble_eq_true rfl) ⟨by decide, by decide⟩ (k_X7_surpriseOf l D B _ _ 5 (isRow5 D B) i j (by omega) (by omega) (dvR hK hW hK1 hK4 (by omega))) (fun r33 T33 M33 hp33 => ?_)
              obtain ⟨e1, e2, e3⟩ := hp33
              replace e1 := e1.symm; replace e2 := e2.symm; replace e3 := e3.symm; subst e1; subst e2; subst e3
              refine g_istore F [(4, .int (suR (M 2 0) (M 5) i j)), (0, .ref (B + 0)), (1, .int (msK (M 2 0) (M 5) i j (msR (M 2 0) (M 5) K i))), (2, .int (nI i)), (3, .int (nI j))] (dk dtX7_mostSurprise_0 24 rfl) (by decide) rfl ?_
              refine g_iload F 0 (dk dtX7_mostSurprise_0 25 rfl) rfl ?_
              refine g_iload_n F 2 (dk dtX7_mostSurprise_0 26 rfl) rfl ?_
              refine g_icmp_le F 49 (dk dtX7_mostSurprise_0 27 rfl) (by decide) (fun c41 => ?_) (fun c41 => ?_)
              · -- taken at 41
                refine g_iload_n F 2 (dk dtX7_mostSurprise_0 30 rfl) rfl ?_
                refine g_istore_n F [(1, .int (msK (M 2 0) (M 5) i j (msR (M 2 0) (M 5) K i))), (4, .int (suR (M 2 0) (M 5) i j)), (0, .ref (B + 0)), (2, .int (nI i)), (3, .int (nI j))] (dk dtX7_mostSurprise_0 31 rfl) (by decide) rfl ?_
                refine g_iinc F 4 (nI (j + 1)) [(3, .int (nI (j + 1))), (1, .int (msK (M 2 0) (M 5) i j (msR (M 2 0) (M 5) K i))), (4, .int (suR (M 2 0) (M 5) i j)), (0, .ref (B + 0)), (2, .int (nI i))] (dk dtX7_mostSurprise_0 32 rfl) rfl (nI_1 _) (by decide) rfl ?_
                refine g_goto F 16 (dk dtX7_mostSurprise_0 33 rfl) (by decide) ?_
                refine g_sub [3, 1, 4, 0] (L1 := [(0, .ref (B + 0)), (1, .int (msK (M 2 0) (M 5) i j (msR (M 2 0) (M 5) K i))), (2, .int (nI i)), (3, .int (nI (j + 1)))]) rfl ?_
                have eq16_1 : (msK (M 2 0) (M 5) i j (msR (M 2 0) (M 5) K i) : Int32) = msK (M 2 0) (M 5) i (j + 1) (msR (M 2 0) (M 5) K i) := by
                  exact (if_neg (Int32.not_lt.mpr c41)).symm
                refine g_st (M1 := M) (L1 := [(0, .ref (B + 0)), (1, .int (msK (M 2 0) (M 5) i (j + 1) (msR (M 2 0) (M 5) K i))), (2, .int (nI i)), (3, .int (nI (j + 1)))]) rfl (lc rfl (lc (vi eq16_1) (lc rfl (lc rfl rfl)))) rfl ?_
                exact ih16 (j + 1) (by omega) (by omega)
              · -- not taken at 41
                refine g_iload F 0 (dk dtX7_mostSurprise_0 28 rfl) rfl ?_
                refine g_goto F 50 (dk dtX7_mostSurprise_0 29 rfl) (by decide) ?_
                refine g_istore_n F [(1, .int (suR (M 2 0) (M 5) i j)), (4, .int (suR (M 2 0) (M 5) i j)), (0, .ref (B + 0)), (2, .int (nI i)), (3, .int (nI j))] (dk dtX7_mostSurprise_0 31 rfl) (by decide) rfl ?_
                refine g_iinc F 4 (nI (j + 1)) [(3, .int (nI (j + 1))), (1, .int (suR (M 2 0) (M 5) i j)), (4, .int (suR (M 2 0) (M 5) i j)), (0, .ref (B + 0)), (2, .int (nI i))] (dk dtX7_mostSurprise_0 32 rfl) rfl (nI_1 _) (by decide) rfl ?_
                refine g_goto F 16 (dk dtX7_mostSurprise_0 33 rfl) (by decide) ?_
                refine g_sub [3, 1, 4, 0] (L1 := [(0, .ref (B + 0)), (1, .int (suR (M 2 0) (M 5) i j)), (2, .int (nI i)), (3, .int (nI (j + 1)))]) rfl ?_
                have eq16_1 : (suR (M 2 0) (M 5) i j : Int32) = msK (M 2 0) (M 5) i (j + 1) (msR (M 2 0) (M 5) K i) := by
                  exact (if_pos (Int32.not_le.mp c41)).symm
                refine g_st (M1 := M) (L1 := [(0, .ref (B + 0)), (1, .int (msK (M 2 0) (M 5) i (j + 1) (msR (M 2 0) (M 5) K i))), (2, .int (nI i)), (3, .int (nI (j + 1)))]) rfl (lc rfl (lc (vi eq16_1) (lc rfl (lc rfl rfl)))) rfl ?_
                exact ih16 (j + 1) (by omega) (by omega)
        refine g_sub [1, 2, 3, 0] (L1 := [(0, .ref (B + 0)), (1, .int (msR (M 2 0) (M 5) K i)), (2, .int (nI i)), (3, .int (nI 0))]) rfl ?_
        exact lp16 (K + 1) 0 (by omega) (by omega)
  refine g_sub [2, 1, 0] (L1 := [(0, .ref (B + 0)), (1, .int (-1)), (2, .int (nI 0))]) rfl ?_
  exact lp4 (P + 1) 0 (by omega) (by omega)
set_option maxRecDepth 100000 in
set_option maxHeartbeats 4000000 in
theorem k_X7_mayorOf (l : Launch) (D : DX) (B : Nat) (T : Int64) (M : Mem) (c : Nat) (hc : IsRow D B c) : Ci l D B 14 (celM D B) yX7_mayorOf cX7_mayorOf 1 (some .int) 0 [.ref (B + c)] T M (fun r T1 M1 => r = moR (M c) ∧ T1 = T ∧ M1 = M) := by
  refine g_entryi (L := [(0, .ref (B + c))]) (by decide) (Nat.le_of_ble_eq_true rfl) rfl ?_
  intro zp ze zs zm zb zt zc Q F hQ
  refine g_aload_n F 0 (dk dtX7_mayorOf_0 0 rfl) rfl ?_
  refine g_bipush F (nI 30) (dk dtX7_mayorOf_0 1 rfl) (by decide) ?_
  refine g_iald F (30) (dk dtX7_mayorOf_0 2 rfl) (by have := hc.1; omega) (hc.2.1 _ _) (by omega) (by decide) ?_
  refine g_if_ne F 12 (dk dtX7_mayorOf_0 3 rfl) (by decide) (fun c4 => ?_) (fun c4 => ?_)
  · -- taken at 4
    refine g_aload_n F 0 (dk dtX7_mayorOf_0 6 rfl) rfl ?_
    refine g_bipush F (nI 30) (dk dtX7_mayorOf_0 7 rfl) (by decide) ?_
    refine g_iald F (30) (dk dtX7_mayorOf_0 8 rfl) (by have := hc.1; omega) (hc.2.1 _ _) (by omega) (by decide) ?_
    refine g_iconst F (nI 1) (dk dtX7_mayorOf_0 9 rfl) (by decide) ?_
    refine g_isub F (dk dtX7_mayorOf_0 10 rfl) ?_
    refine g_iret (F := F) hQ (dk dtX7_mayorOf_0 11 rfl) ?_
    exact ⟨(if_neg c4).symm, rfl, rfl⟩
  · -- not taken at 4
    refine g_bipush F (-9) (dk dtX7_mayorOf_0 4 rfl) (by decide) ?_
    refine g_goto F 18 (dk dtX7_mayorOf_0 5 rfl) (by decide) ?_
    refine g_iret (F := F) hQ (dk dtX7_mayorOf_0 11 rfl) ?_
    exact ⟨(if_pos c4).symm, rfl, rfl⟩
set_option maxRecDepth 100000 in
set_option maxHeartbeats 4000000 in
theorem k_X7_copies (l : Launch) (D : DX) (B : Nat) (T : Int64) (M : Mem) (b c : Nat) (hb : IsRow D B b) (hc : IsRow D B c) (hbc : b ≠ c) : Cv l D B 14 (celM D B) yX7_copies cX7_copies 3 none 0 [.ref (B + b), .ref (B + c)] T M (fun T1 M1 => T1 = T ∧ M1 = setR M c (M b)) := by
  refine g_entryv (L := [(0, .ref (B + b)), (1, .ref (B + c))]) (by decide) (Nat.le_of_ble_eq_true rfl) rfl ?_
  intro zp ze zs zm zb zt zc Q F hQ
  refine g_iconst F (nI 0) (dk dtX7_copies_0 0 rfl) (by decide) ?_
  refine g_istore_n F [(2, .int (nI 0)), (0, .ref (B + b)), (1, .ref (B + c))] (dk dtX7_copies_0 1 rfl) (by decide) rfl ?_
  have lp2 : ∀ (fz : Nat) (i : Nat), i ≤ 31 → (31 - i) < fz → G zp l ze { frames := 0, cells := 0, slots := 0, locals := 40 * 0 } zs zm [.ref (B + b), .ref (B + c)].toArray zb zt zc 3 D B 14 (celM D B) Q T (setR M c (cpR (M b) (M c) i)) 2 [(0, .ref (B + b)), (1, .ref (B + c)), (2, .int (nI i))] [] := by
    intro n2
    induction n2 with
    | zero => intro i hI hn; exact absurd hn (Nat.not_lt_zero _)
    | succ n2 ih2 =>
      intro i hI2 hn2
      refine g_iload_n F 2 (dk dtX7_copies_0 2 rfl) rfl ?_
      refine g_bipush F (nI 31) (dk dtX7_copies_0 3 rfl) (by decide) ?_
      refine g_icmp_geN F 20 (dk dtX7_copies_0 4 rfl) (by decide) (by omega) (by omega) (fun c5 => ?_) (fun c5 => ?_)
      · -- taken at 5
        obtain rfl : 31 = i := by omega
        refine g_row (M b) (fun r => hc.2.1 _ r) (fun j hj => by rw [setR_self]; exact cpR_in _ _ hj) ?_
        refine g_mem (setR_setR _ _ _ _) ?_
        refine g_vret (F := F) hQ (dk dtX7_copies_0 13 rfl) ?_
        exact ⟨rfl, rfl⟩
      · -- not taken at 5
        refine g_aload_n F 1 (dk dtX7_copies_0 5 rfl) rfl ?_
        refine g_iload_n F 2 (dk dtX7_copies_0 6 rfl) rfl ?_
        refine g_aload_n F 0 (dk dtX7_copies_0 7 rfl) rfl ?_
        refine g_iload_n F 2 (dk dtX7_copies_0 8 rfl) rfl ?_
        refine g_iald F (i) (dk dtX7_copies_0 9 rfl) (by have := hb.1; omega) (hb.2.1 _ _) (by omega) (by decide) ?_
        refine g_top (congrFun (setR_ne _ _ hbc) _) ?_
        refine g_iast F (i) (dk dtX7_copies_0 10 rfl) (by have := hc.1; omega) (fun r => hc.2.1 _ r) (by omega) (by decide) ?_
        refine g_iinc F 2 (nI (i + 1)) [(2, .int (nI (i + 1))), (0, .ref (B + b)), (1, .ref (B + c))] (dk dtX7_copies_0 11 rfl) rfl (nI_1 _) (by decide) rfl ?_
        refine g_goto F 2 (dk dtX7_copies_0 12 rfl) (by decide) ?_
        refine g_sub [1, 2, 0] (L1 := [(0, .ref (B + b)), (1, .ref (B + c)), (2, .int (nI (i + 1)))]) rfl ?_
        refine g_st (M1 := setR M c (cpR (M b) (M c) (i + 1))) (L1 := [(0, .ref (B + b)), (1, .ref (B + c)), (2, .int (nI (i + 1)))]) (by rw [up2_setR]; exact congrArg (setR M c) (cpR_s _ _ _)) rfl rfl ?_
        exact ih2 (i + 1) (by omega) (by omega)
  refine g_sub [1, 2, 0] (L1 := [(0, .ref (B + b)), (1, .ref (B + c)), (2, .int (nI 0))]) rfl ?_
  refine g_mem (cpR_0 M b c) ?_
  exact lp2 32 0 (by omega) (by omega)
set_option maxRecDepth 100000 in
set_option maxHeartbeats 4000000 in
theorem k_X7_event (l : Launch) (D : DX) (B : Nat) (T : Int64) (M : Mem) (c : Nat) (hc : IsRow D B c) (k : Nat) (hk : k < 4) (x : Int32) (K P : Nat) (hK : M 2 0 = nI K) (hP : M 2 2 = nI P) (hK1 : 1 ≤ K) (hK4 : K ≤ 4) (hP5 : P ≤ 5) (hW : WR (M c)) : Ci l D B 14 (celM D B) yX7_event cX7_event 9 (some .int) 2 [.ref (B + 0), .ref (B + c), .int (nI k), .int x] T M (fun r T1 M1 => r = (eF (M 3) (M 2 0) (M c) k x P).1 ∧ T1 = T ∧ M1 = setR M c (evR (M 3) (M 2 0) (M c) k x P)) := by
  refine g_entryi (L := [(0, .ref (B + 0)), (1, .ref (B + c)), (2, .int (nI k)), (3, .int x)]) (by decide) (Nat.le_of_ble_eq_true rfl) rfl ?_
  intro zp ze zs zm zb zt zc Q F hQ
  refine g_iconst F (nI 0) (dk dtX7_event_0 0 rfl) (by decide) ?_
  refine g_istore F [(4, .int (nI 0)), (0, .ref (B + 0)), (1, .ref (B + c)), (2, .int (nI k)), (3, .int x)] (dk dtX7_event_0 1 rfl) (by decide) rfl ?_
  refine g_bipush F (-9) (dk dtX7_event_0 2 rfl) (by decide) ?_
  refine g_istore F [(5, .int (-9)), (4, .int (nI 0)), (0, .ref (B + 0)), (1, .ref (B + c)), (2, .int (nI k)), (3, .int x)] (dk dtX7_event_0 3 rfl) (by decide) rfl ?_
  refine g_iconst F (-1) (dk dtX7_event_0 4 rfl) (by decide) ?_
  refine g_istore F [(6, .int (-1)), (5, .int (-9)), (4, .int (nI 0)), (0, .ref (B + 0)), (1, .ref (B + c)), (2, .int (nI k)), (3, .int x)] (dk dtX7_event_0 5 rfl) (by decide) rfl ?_
  refine g_iconst F (nI 0) (dk dtX7_event_0 6 rfl) (by decide) ?_
  refine g_istore F [(7, .int (nI 0)), (6, .int (-1)), (5, .int (-9)), (4, .int (nI 0)), (0, .ref (B + 0)), (1, .ref (B + c)), (2, .int (nI k)), (3, .int x)] (dk dtX7_event_0 7 rfl) (by decide) rfl ?_
  have lp13 : ∀ (fz : Nat) (i : Nat), i ≤ P → (P - i) < fz → G zp l ze { frames := 2, cells := 0, slots := 0, locals := 40 * 2 } zs zm [.ref (B + 0), .ref (B + c), .int (nI k), .int x].toArray zb zt zc 9 D B 14 (celM D B) Q T M 13 [(0, .ref (B + 0)), (1, .ref (B + c)), (2, .int (nI k)), (3, .int x), (4, .int ((eF (M 3) (M 2 0) (M c) k x i).1)), (5, .int ((eF (M 3) (M 2 0) (M c) k x i).2.1)), (6, .int ((eF (M 3) (M 2 0) (M c) k x i).2.2)), (7, .int (nI i))] [] := by
    intro n13
    induction n13 with
    | zero => intro i hI hn; exact absurd hn (Nat.not_lt_zero _)
    | succ n13 ih13 =>
      intro i hI13 hn13
      refine g_iload F 7 (dk dtX7_event_0 8 rfl) rfl ?_
      refine g_aload_n F 0 (dk dtX7_event_0 9 rfl) rfl ?_
      refine g_get F fa_X7_13 (dk dtX7_event_0 10 rfl) (by decide) (cm0 D B _ _) rfl ?_
      refine g_iconst F (nI 2) (dk dtX7_event_0 11 rfl) (by decide) ?_
      refine g_iald F (2) (dk dtX7_event_0 12 rfl) (by decide) (cm2 D B _ _) (by omega) (by decide) ?_
      refine g_top hP ?_
      refine g_icmp_geN F 103 (dk dtX7_event_0 13 rfl) (by decide) (by omega) (by omega) (fun c21 => ?_) (fun c21 => ?_)
      · -- taken at 21
        obtain rfl : P = i := by omega
        have lp143 : ∀ (fz : Nat) (i : Nat), i ≤ P → (P - i) < fz → G zp l ze { frames := 2, cells := 0, slots := 0, locals := 40 * 2 } zs zm [.ref (B + 0), .ref (B + c), .int (nI k), .int x].toArray zb zt zc 9 D B 14 (celM D B) Q T (setR M c (e2 (e1 (M c) (eF (M 3) (M 2 0) (M c) k x P).2.1) k x i)) 143 [(0, .ref (B + 0)), (1, .ref (B + c)), (2, .int (nI k)), (3, .int x), (4, .int ((eF (M 3) (M 2 0) (M c) k x P).1)), (7, .int (nI i))] [] := by
          intro n143
          induction n143 with
          | zero => intro i hI hn; exact absurd hn (Nat.not_lt_zero _)
          | succ n143 ih143 =>
            intro i hI143 hn143
            refine g_iload F 5 (dk dtX7_event_1 22 rfl) rfl ?_
            refine g_aload_n F 0 (dk dtX7_event_1 23 rfl) rfl ?_
            refine g_get F fa_X7_13 (dk dtX7_event_1 24 rfl) (by decide) (cm0 D B _ _) rfl ?_
            refine g_iconst F (nI 2) (dk dtX7_event_1 25 rfl) (by decide) ?_
            refine g_iald F (2) (dk dtX7_event_1 26 rfl) (by decide) (cm2 D B _ _) (by omega) (by decide) ?_
            refine g_top ((congrFun (setR_ne _ _ (Ne.symm hc.2.2.2.1)) _).trans hP) ?_
            refine g_icmp_geN F 202 (dk dtX7_event_1 27 rfl) (by decide) (by omega) (by omega) (fun c151 => ?_) (fun c151 => ?_)
            · -- taken at 151
              obtain rfl : P = i := by omega
              refine g_iload F 4 (dk dtX7_event_1 59 rfl) rfl ?_
              refine g_iret (F := F) hQ (dk dtX7_event_2 0 rfl) ?_
              exact ⟨rfl, rfl, rfl⟩
            · -- not taken at 151
              refine g_iconst F (nI 5) (dk dtX7_event_1 28 rfl) (by decide) ?_
              refine g_iconst F (nI 4) (dk dtX7_event_1 29 rfl) (by decide) ?_
              refine g_iload F 5 (dk dtX7_event_1 30 rfl) rfl ?_
              refine g_imulN F (dk dtX7_event_1 31 rfl) ?_
              refine g_iaddN F (dk dtX7_event_1 32 rfl) ?_
              refine g_iload_n F 2 (dk dtX7_event_1 33 rfl) rfl ?_
              refine g_iaddN F (dk dtX7_event_1 34 rfl) ?_
              refine g_istore F [(8, .int (nI ((5 + (4 * i)) + k))), (0, .ref (B + 0)), (1, .ref (B + c)), (2, .int (nI k)), (3, .int x), (4, .int ((eF (M 3) (M 2 0) (M c) k x P).1)), (7, .int (nI i))] (dk dtX7_event_1 35 rfl) (by decide) rfl ?_
              refine g_aload_n F 2 (dk dtX7_event_1 36 rfl) rfl ?_
              refine g_iload F 0 (dk dtX7_event_1 37 rfl) rfl ?_
              refine g_dup2 F (dk dtX7_event_1 38 rfl) rfl rfl ?_
              refine g_iald F ((5 + (4 * i)) + k) (dk dtX7_event_1 39 rfl) (by have := hc.1; omega) (hc.2.1 _ _) (by omega) (by decide) ?_
              refine g_top (congrFun (setR_self _ _ _) _) ?_
              refine g_aload_n F 2 (dk dtX7_event_1 40 rfl) rfl ?_
              refine g_iconst F (nI 0) (dk dtX7_event_1 41 rfl) (by decide) ?_
              refine g_iload F 6 (dk dtX7_event_1 42 rfl) rfl ?_
              refine g_iadd0 F (dk dtX7_event_1 43 rfl) ?_
              refine g_iald F (i) (dk dtX7_event_1 44 rfl) (by have := hc.1; omega) (hc.2.1 _ _) (by omega) (by decide) ?_
              refine g_top (congrFun (setR_self _ _ _) _) ?_
              refine g_iload_n F 4 (dk dtX7_event_1 45 rfl) rfl ?_
              refine g_icmp_ne F 193 (dk dtX7_event_1 46 rfl) (by decide) (fun c176 => ?_) (fun c176 => ?_)
              · -- taken at 176
                refine g_iconst F (nI 0) (dk dtX7_event_1 54 rfl) (by decide) ?_
                refine g_iadd F (dk dtX7_event_1 55 rfl) ?_
                refine g_iast F ((5 + (4 * i)) + k) (dk dtX7_event_1 56 rfl) (by have := hc.1; omega) (fun r => hc.2.1 _ r) (by omega) (by decide) ?_
                refine g_iinc F 6 (nI (i + 1)) [(7, .int (nI (i + 1))), (8, .int (nI ((5 + (4 * i)) + k))), (0, .ref (B + 0)), (1, .ref (B + c)), (2, .int (nI k)), (3, .int x), (4, .int ((eF (M 3) (M 2 0) (M c) k x P).1))] (dk dtX7_event_1 57 rfl) rfl (nI_1 _) (by decide) rfl ?_
                refine g_goto F 143 (dk dtX7_event_1 58 rfl) (by decide) ?_
                refine g_sub [2, 3, 4, 5, 6, 0] (L1 := [(0, .ref (B + 0)), (1, .ref (B + c)), (2, .int (nI k)), (3, .int x), (4, .int ((eF (M 3) (M 2 0) (M c) k x P).1)), (7, .int (nI (i + 1)))]) rfl ?_
                refine g_st (M1 := setR M c (e2 (e1 (M c) (eF (M 3) (M 2 0) (M c) k x P).2.1) k x (i + 1))) (L1 := [(0, .ref (B + 0)), (1, .ref (B + c)), (2, .int (nI k)), (3, .int x), (4, .int ((eF (M 3) (M 2 0) (M c) k x P).1)), (7, .int (nI (i + 1)))]) (by rw [up2_setR]; exact congrArg (setR M c) (e2_n _ _ _ _ (fun h => c176 h.1))) rfl rfl ?_
                exact ih143 (i + 1) (by omega) (by omega)
              · -- not taken at 176
                refine g_aload_n F 2 (dk dtX7_event_1 47 rfl) rfl ?_
                refine g_iload F 0 (dk dtX7_event_1 48 rfl) rfl ?_
                refine g_iald F ((5 + (4 * i)) + k) (dk dtX7_event_1 49 rfl) (by have := hc.1; omega) (hc.2.1 _ _) (by omega) (by decide) ?_
                refine g_top (congrFun (setR_self _ _ _) _) ?_
                refine g_sipush F (nI 999) (dk dtX7_event_1 50 rfl) (by decide) ?_
                refine g_icmp_ge F 193 (dk dtX7_event_1 51 rfl) (by decide) (fun c186 => ?_) (fun c186 => ?_)
                · -- taken at 186
                  refine g_iconst F (nI 0) (dk dtX7_event_1 54 rfl) (by decide) ?_
                  refine g_iadd F (dk dtX7_event_1 55 rfl) ?_
                  refine g_iast F ((5 + (4 * i)) + k) (dk dtX7_event_1 56 rfl) (by have := hc.1; omega) (fun r => hc.2.1 _ r) (by omega) (by decide) ?_
                  refine g_iinc F 6 (nI (i + 1)) [(7, .int (nI (i + 1))), (8, .int (nI ((5 + (4 * i)) + k))), (0, .ref (B + 0)), (1, .ref (B + c)), (2, .int (nI k)), (3, .int x), (4, .int ((eF (M 3) (M 2 0) (M c) k x P).1))] (dk dtX7_event_1 57 rfl) rfl (nI_1 _) (by decide) rfl ?_
                  refine g_goto F 143 (dk dtX7_event_1 58 rfl) (by decide) ?_
                  refine g_sub [2, 3, 4, 5, 6, 0] (L1 := [(0, .ref (B + 0)), (1, .ref (B + c)), (2, .int (nI k)), (3, .int x), (4, .int ((eF (M 3) (M 2 0) (M c) k x P).1)), (7, .int (nI (i + 1)))]) rfl ?_
                  refine g_st (M1 := setR M c (e2 (e1 (M c) (eF (M 3) (M 2 0) (M c) k x P).2.1) k x (i + 1))) (L1 := [(0, .ref (B + 0)), (1, .ref (B + c)), (2, .int (nI k)), (3, .int x), (4, .int ((eF (M 3) (M 2 0) (M c) k x P).1)), (7, .int (nI (i + 1)))]) (by rw [up2_setR]; exact congrArg (setR M c) (e2_n _ _ _ _ (fun h => Int32.not_lt.mpr c186 h.2))) rfl rfl ?_
                  exact ih143 (i + 1) (by omega) (by omega)
                · -- not taken at 186
                  refine g_iconst F (nI 1) (dk dtX7_event_1 52 rfl) (by decide) ?_
                  refine g_goto F 194 (dk dtX7_event_1 53 rfl) (by decide) ?_
                  refine g_iadd F (dk dtX7_event_1 55 rfl) ?_
                  refine g_iast F ((5 + (4 * i)) + k) (dk dtX7_event_1 56 rfl) (by have := hc.1; omega) (fun r => hc.2.1 _ r) (by omega) (by decide) ?_
                  refine g_iinc F 6 (nI (i + 1)) [(7, .int (nI (i + 1))), (8, .int (nI ((5 + (4 * i)) + k))), (0, .ref (B + 0)), (1, .ref (B + c)), (2, .int (nI k)), (3, .int x), (4, .int ((eF (M 3) (M 2 0) (M c) k x P).1))] (dk dtX7_event_1 57 rfl) rfl (nI_1 _) (by decide) rfl ?_
                  refine g_goto F 143 (dk dtX7_event_1 58 rfl) (by decide) ?_
                  refine g_sub [2, 3, 4, 5, 6, 0] (L1 := [(0, .ref (B + 0)), (1, .ref (B + c)), (2, .int (nI k)), (3, .int x), (4, .int ((eF (M 3) (M 2 0) (M c) k x P).1)), (7, .int (nI (i + 1)))]) rfl ?_
                  refine g_st (M1 := setR M c (e2 (e1 (M c) (eF (M 3) (M 2 0) (M c) k x P).2.1) k x (i + 1))) (L1 := [(0, .ref (B + 0)), (1, .ref (B + c)), (2, .int (nI k)), (3, .int x), (4, .int ((eF (M 3) (M 2 0) (M c) k x P).1)), (7, .int (nI (i + 1)))]) (by rw [up2_setR]; exact congrArg (setR M c) (e2_y _ _ _ _ ⟨c176, Int32.not_le.mp c186⟩)) rfl rfl ?_
                  exact ih143 (i + 1) (by omega) (by omega)
        refine g_iload F 5 (dk dtX7_event_0 55 rfl) rfl ?_
        refine g_bipush F (-9) (dk dtX7_event_0 56 rfl) (by decide) ?_
        refine g_icmp_eq F 140 (dk dtX7_event_0 57 rfl) (by decide) (fun c107 => ?_) (fun c107 => ?_)
        · -- taken at 107
          refine g_iconst F (nI 0) (dk dtX7_event_1 20 rfl) (by decide) ?_
          refine g_istore F [(7, .int (nI 0)), (0, .ref (B + 0)), (1, .ref (B + c)), (2, .int (nI k)), (3, .int x), (4, .int ((eF (M 3) (M 2 0) (M c) k x P).1)), (5, .int ((eF (M 3) (M 2 0) (M c) k x P).2.1)), (6, .int ((eF (M 3) (M 2 0) (M c) k x P).2.2))] (dk dtX7_event_1 21 rfl) (by decide) rfl ?_
          refine g_sub [1, 2, 3, 4, 5, 0] (L1 := [(0, .ref (B + 0)), (1, .ref (B + c)), (2, .int (nI k)), (3, .int x), (4, .int ((eF (M 3) (M 2 0) (M c) k x P).1)), (7, .int (nI 0))]) rfl ?_
          refine g_mem (e1_no1 M c c107) ?_
          exact lp143 (P + 1) 0 (by omega) (by omega)
        · -- not taken at 107
          obtain ⟨q, hq, hq2⟩ := eF_first c107
          refine g_st (M1 := M) (L1 := [(0, .ref (B + 0)), (1, .ref (B + c)), (2, .int (nI k)), (3, .int x), (4, .int ((eF (M 3) (M 2 0) (M c) k x P).1)), (5, .int (nI q)), (6, .int ((eF (M 3) (M 2 0) (M c) k x P).2.2)), (7, .int (nI P))]) rfl (by rw [hq2]) rfl ?_
          refine g_aload_n F 1 (dk dtX7_event_0 58 rfl) rfl ?_
          refine g_bipush F (nI 30) (dk dtX7_event_0 59 rfl) (by decide) ?_
          refine g_iald F (30) (dk dtX7_event_1 0 rfl) (by have := hc.1; omega) (hc.2.1 _ _) (by omega) (by decide) ?_
          refine g_iload F 5 (dk dtX7_event_1 1 rfl) rfl ?_
          refine g_iconst F (nI 1) (dk dtX7_event_1 2 rfl) (by decide) ?_
          refine g_iaddN F (dk dtX7_event_1 3 rfl) ?_
          refine g_icmp_eq F 140 (dk dtX7_event_1 4 rfl) (by decide) (fun c118 => ?_) (fun c118 => ?_)
          · -- taken at 118
            refine g_iconst F (nI 0) (dk dtX7_event_1 20 rfl) (by decide) ?_
            refine g_istore F [(7, .int (nI 0)), (0, .ref (B + 0)), (1, .ref (B + c)), (2, .int (nI k)), (3, .int x), (4, .int ((eF (M 3) (M 2 0) (M c) k x P).1)), (5, .int (nI q)), (6, .int ((eF (M 3) (M 2 0) (M c) k x P).2.2))] (dk dtX7_event_1 21 rfl) (by decide) rfl ?_
            refine g_sub [1, 2, 3, 4, 5, 0] (L1 := [(0, .ref (B + 0)), (1, .ref (B + c)), (2, .int (nI k)), (3, .int x), (4, .int ((eF (M 3) (M 2 0) (M c) k x P).1)), (7, .int (nI 0))]) rfl ?_
            refine g_mem (e1_no2 M c hq2 c118) ?_
            exact lp143 (P + 1) 0 (by omega) (by omega)
          · -- not taken at 118
            refine g_aload_n F 1 (dk dtX7_event_1 5 rfl) rfl ?_
            refine g_bipush F (nI 30) (dk dtX7_event_1 6 rfl) (by decide) ?_
            refine g_iload F 5 (dk dtX7_event_1 7 rfl) rfl ?_
            refine g_iconst F (nI 1) (dk dtX7_event_1 8 rfl) (by decide) ?_
            refine g_iaddN F (dk dtX7_event_1 9 rfl) ?_
            refine g_iast F (30) (dk dtX7_event_1 10 rfl) (by have := hc.1; omega) (fun r => hc.2.1 _ r) (by omega) (by decide) ?_
            refine g_aload_n F 1 (dk dtX7_event_1 11 rfl) rfl ?_
            refine g_bipush F (nI 25) (dk dtX7_event_1 12 rfl) (by decide) ?_
            refine g_iload F 5 (dk dtX7_event_1 13 rfl) rfl ?_
            refine g_iaddN F (dk dtX7_event_1 14 rfl) ?_
            refine g_dup2 F (dk dtX7_event_1 15 rfl) rfl rfl ?_
            refine g_iald F (25 + q) (dk dtX7_event_1 16 rfl) (by have := hc.1; omega) (hc.2.1 _ _) (by omega) (by decide) ?_
            refine g_top ((congrFun (up2_self _ _ _ _) _).trans (pk_un (by omega))) ?_
            refine g_iconst F (nI 1) (dk dtX7_event_1 17 rfl) (by decide) ?_
            refine g_iadd F (dk dtX7_event_1 18 rfl) ?_
            refine g_iast F (25 + q) (dk dtX7_event_1 19 rfl) (by have := hc.1; omega) (fun r => hc.2.1 _ r) (by omega) (by decide) ?_
            refine g_iconst F (nI 0) (dk dtX7_event_1 20 rfl) (by decide) ?_
            refine g_istore F [(7, .int (nI 0)), (0, .ref (B + 0)), (1, .ref (B + c)), (2, .int (nI k)), (3, .int x), (4, .int ((eF (M 3) (M 2 0) (M c) k x P).1)), (5, .int (nI q)), (6, .int ((eF (M 3) (M 2 0) (M c) k x P).2.2))] (dk dtX7_event_1 21 rfl) (by decide) rfl ?_
            refine g_sub [1, 2, 3, 4, 5, 0] (L1 := [(0, .ref (B + 0)), (1, .ref (B + c)), (2, .int (nI k)), (3, .int x), (4, .int ((eF (M 3) (M 2 0) (M c) k x P).1)), (7, .int (nI 0))]) rfl ?_
            refine g_mem (e1_yes M c hq2 (by omega) c118) ?_
            exact lp143 (P + 1) 0 (by omega) (by omega)
      · -- not taken at 21
        refine g_aload_n F 0 (dk dtX7_event_0 14 rfl) rfl ?_
        refine g_aload_n F 1 (dk dtX7_event_0 15 rfl) rfl ?_
        refine g_iload F 7 (dk dtX7_event_0 16 rfl) rfl ?_
        refine g_iload_n F 2 (dk dtX7_event_0 17 rfl) rfl ?_
        refine g_callVi F (As := [.ref (B + c), .int (nI i), .int (nI k)]) (st := []) cv_X7_135 (dk dtX7_event_0 18 rfl) (by decide) (cm0 D B _ _) rfl rfl (Nat.le_of_ble_eq_true rfl) ⟨by decide, by decide⟩ (k_X7_surpriseOf l D B _ _ c hc i k (by omega) (by omega) (dvR hK hW hK1 hK4 (by omega))) (fun r29 T29 M29 hp29 => ?_)
        obtain ⟨e1, e2, e3⟩ := hp29
        replace e1 := e1.symm; replace e2 := e2.symm; replace e3 := e3.symm; subst e1; subst e2; subst e3
        refine g_istore F [(8, .int (suR (M 2 0) (M c) i k)), (0, .ref (B + 0)), (1, .ref (B + c)), (2, .int (nI k)), (3, .int x), (4, .int ((eF (M 3) (M 2 0) (M c) k x i).1)), (5, .int ((eF (M 3) (M 2 0) (M c) k x i).2.1)), (6, .int ((eF (M 3) (M 2 0) (M c) k x i).2.2)), (7, .int (nI i))] (dk dtX7_event_0 19 rfl) (by decide) rfl ?_
        refine g_aload_n F 2 (dk dtX7_event_0 20 rfl) rfl ?_
        refine g_iconst F (nI 0) (dk dtX7_event_0 21 rfl) (by decide) ?_
        refine g_iload F 8 (dk dtX7_event_0 22 rfl) rfl ?_
        refine g_iadd0 F (dk dtX7_event_0 23 rfl) ?_
        refine g_iald F (i) (dk dtX7_event_0 24 rfl) (by have := hc.1; omega) (hc.2.1 _ _) (by omega) (by decide) ?_
        refine g_iload_n F 4 (dk dtX7_event_0 25 rfl) rfl ?_
        refine g_icmp_ne F 97 (dk dtX7_event_0 26 rfl) (by decide) (fun c41 => ?_) (fun c41 => ?_)
        · -- taken at 41
          refine g_iinc F 8 (nI (i + 1)) [(7, .int (nI (i + 1))), (8, .int (suR (M 2 0) (M c) i k)), (0, .ref (B + 0)), (1, .ref (B + c)), (2, .int (nI k)), (3, .int x), (4, .int ((eF (M 3) (M 2 0) (M c) k x i).1)), (5, .int ((eF (M 3) (M 2 0) (M c) k x i).2.1)), (6, .int ((eF (M 3) (M 2 0) (M c) k x i).2.2))] (dk dtX7_event_0 53 rfl) rfl (nI_1 _) (by decide) rfl ?_
          refine g_goto F 13 (dk dtX7_event_0 54 rfl) (by decide) ?_
          refine g_sub [2, 3, 4, 5, 6, 7, 8, 0] (L1 := [(0, .ref (B + 0)), (1, .ref (B + c)), (2, .int (nI k)), (3, .int x), (4, .int ((eF (M 3) (M 2 0) (M c) k x i).1)), (5, .int ((eF (M 3) (M 2 0) (M c) k x i).2.1)), (6, .int ((eF (M 3) (M 2 0) (M c) k x i).2.2)), (7, .int (nI (i + 1)))]) rfl ?_
          have eq13_4 : ((eF (M 3) (M 2 0) (M c) k x i).1 : Int32) = (eF (M 3) (M 2 0) (M c) k x (i + 1)).1 := by
            simp only [eF]; rw [if_neg (fun h => c41 h.1)]
          have eq13_5 : ((eF (M 3) (M 2 0) (M c) k x i).2.1 : Int32) = (eF (M 3) (M 2 0) (M c) k x (i + 1)).2.1 := by
            simp only [eF]; rw [if_neg (fun h => c41 h.1)]
          have eq13_6 : ((eF (M 3) (M 2 0) (M c) k x i).2.2 : Int32) = (eF (M 3) (M 2 0) (M c) k x (i + 1)).2.2 := by
            simp only [eF]; rw [if_neg (fun h => c41 h.1)]
          refine g_st (M1 := M) (L1 := [(0, .ref (B + 0)), (1, .ref (B + c)), (2, .int (nI k)), (3, .int x), (4, .int ((eF (M 3) (M 2 0) (M c) k x (i + 1)).1)), (5, .int ((eF (M 3) (M 2 0) (M c) k x (i + 1)).2.1)), (6, .int ((eF (M 3) (M 2 0) (M c) k x (i + 1)).2.2)), (7, .int (nI (i + 1)))]) rfl (lc rfl (lc rfl (lc rfl (lc rfl (lc (vi eq13_4) (lc (vi eq13_5) (lc (vi eq13_6) (lc rfl rfl)))))))) rfl ?_
          exact ih13 (i + 1) (by omega) (by omega)
        · -- not taken at 41
          refine g_iload F 0 (dk dtX7_event_0 27 rfl) rfl ?_
          refine g_aload_n F 1 (dk dtX7_event_0 28 rfl) rfl ?_
          refine g_get F fa_X7_16 (dk dtX7_event_0 29 rfl) (by decide) (cm0 D B _ _) rfl ?_
          refine g_iload F 8 (dk dtX7_event_0 30 rfl) rfl ?_
          refine g_iald F (i) (dk dtX7_event_0 31 rfl) (by decide) (cm3 D B _ _) (by omega) (by decide) ?_
          refine g_icmp_lt F 97 (dk dtX7_event_0 32 rfl) (by decide) (fun c53 => ?_) (fun c53 => ?_)
          · -- taken at 53
            refine g_iinc F 8 (nI (i + 1)) [(7, .int (nI (i + 1))), (8, .int (suR (M 2 0) (M c) i k)), (0, .ref (B + 0)), (1, .ref (B + c)), (2, .int (nI k)), (3, .int x), (4, .int ((eF (M 3) (M 2 0) (M c) k x i).1)), (5, .int ((eF (M 3) (M 2 0) (M c) k x i).2.1)), (6, .int ((eF (M 3) (M 2 0) (M c) k x i).2.2))] (dk dtX7_event_0 53 rfl) rfl (nI_1 _) (by decide) rfl ?_
            refine g_goto F 13 (dk dtX7_event_0 54 rfl) (by decide) ?_
            refine g_sub [2, 3, 4, 5, 6, 7, 8, 0] (L1 := [(0, .ref (B + 0)), (1, .ref (B + c)), (2, .int (nI k)), (3, .int x), (4, .int ((eF (M 3) (M 2 0) (M c) k x i).1)), (5, .int ((eF (M 3) (M 2 0) (M c) k x i).2.1)), (6, .int ((eF (M 3) (M 2 0) (M c) k x i).2.2)), (7, .int (nI (i + 1)))]) rfl ?_
            have eq13_4 : ((eF (M 3) (M 2 0) (M c) k x i).1 : Int32) = (eF (M 3) (M 2 0) (M c) k x (i + 1)).1 := by
              simp only [eF]; rw [if_neg (fun h => absurd h.2 (Int32.not_le.mpr c53))]
            have eq13_5 : ((eF (M 3) (M 2 0) (M c) k x i).2.1 : Int32) = (eF (M 3) (M 2 0) (M c) k x (i + 1)).2.1 := by
              simp only [eF]; rw [if_neg (fun h => absurd h.2 (Int32.not_le.mpr c53))]
            have eq13_6 : ((eF (M 3) (M 2 0) (M c) k x i).2.2 : Int32) = (eF (M 3) (M 2 0) (M c) k x (i + 1)).2.2 := by
              simp only [eF]; rw [if_neg (fun h => absurd h.2 (Int32.not_le.mpr c53))]
            refine g_st (M1 := M) (L1 := [(0, .ref (B + 0)), (1, .ref (B + c)), (2, .int (nI k)), (3, .int x), (4, .int ((eF (M 3) (M 2 0) (M c) k x (i + 1)).1)), (5, .int ((eF (M 3) (M 2 0) (M c) k x (i + 1)).2.1)), (6, .int ((eF (M 3) (M 2 0) (M c) k x (i + 1)).2.2)), (7, .int (nI (i + 1)))]) rfl (lc rfl (lc rfl (lc rfl (lc rfl (lc (vi eq13_4) (lc (vi eq13_5) (lc (vi eq13_6) (lc rfl rfl)))))))) rfl ?_
            exact ih13 (i + 1) (by omega) (by omega)
          · -- not taken at 53
            refine g_iload F 5 (dk dtX7_event_0 33 rfl) rfl ?_
            refine g_iconst F (nI 1) (dk dtX7_event_0 34 rfl) (by decide) ?_
            refine g_iload F 8 (dk dtX7_event_0 35 rfl) rfl ?_
            refine g_ishl F (dk dtX7_event_0 36 rfl) ?_
            refine g_ior F (dk dtX7_event_0 37 rfl) ?_
            refine g_istore F [(4, .int (((eF (M 3) (M 2 0) (M c) k x i).1) ||| ((nI 1) <<< ((nI i) &&& 31)))), (8, .int (suR (M 2 0) (M c) i k)), (0, .ref (B + 0)), (1, .ref (B + c)), (2, .int (nI k)), (3, .int x), (5, .int ((eF (M 3) (M 2 0) (M c) k x i).2.1)), (6, .int ((eF (M 3) (M 2 0) (M c) k x i).2.2)), (7, .int (nI i))] (dk dtX7_event_0 38 rfl) (by decide) rfl ?_
            refine g_iload F 1 (dk dtX7_event_0 39 rfl) rfl ?_
            refine g_iload F 7 (dk dtX7_event_0 40 rfl) rfl ?_
            refine g_icmp_le F 77 (dk dtX7_event_0 41 rfl) (by decide) (fun c69 => ?_) (fun c69 => ?_)
            · -- taken at 69
              refine g_iload F 6 (dk dtX7_event_0 44 rfl) rfl ?_
              refine g_istore F [(5, .int ((eF (M 3) (M 2 0) (M c) k x i).2.1)), (4, .int (((eF (M 3) (M 2 0) (M c) k x i).1) ||| ((nI 1) <<< ((nI i) &&& 31)))), (8, .int (suR (M 2 0) (M c) i k)), (0, .ref (B + 0)), (1, .ref (B + c)), (2, .int (nI k)), (3, .int x), (6, .int ((eF (M 3) (M 2 0) (M c) k x i).2.2)), (7, .int (nI i))] (dk dtX7_event_0 45 rfl) (by decide) rfl ?_
              refine g_iload F 2 (dk dtX7_event_0 46 rfl) rfl ?_
              refine g_iload F 7 (dk dtX7_event_0 47 rfl) rfl ?_
              refine g_icmp_le F 93 (dk dtX7_event_0 48 rfl) (by decide) (fun c85 => ?_) (fun c85 => ?_)
              · -- taken at 85
                refine g_iload F 7 (dk dtX7_event_0 51 rfl) rfl ?_
                refine g_istore F [(6, .int ((eF (M 3) (M 2 0) (M c) k x i).2.2)), (5, .int ((eF (M 3) (M 2 0) (M c) k x i).2.1)), (4, .int (((eF (M 3) (M 2 0) (M c) k x i).1) ||| ((nI 1) <<< ((nI i) &&& 31)))), (8, .int (suR (M 2 0) (M c) i k)), (0, .ref (B + 0)), (1, .ref (B + c)), (2, .int (nI k)), (3, .int x), (7, .int (nI i))] (dk dtX7_event_0 52 rfl) (by decide) rfl ?_
                refine g_iinc F 8 (nI (i + 1)) [(7, .int (nI (i + 1))), (6, .int ((eF (M 3) (M 2 0) (M c) k x i).2.2)), (5, .int ((eF (M 3) (M 2 0) (M c) k x i).2.1)), (4, .int (((eF (M 3) (M 2 0) (M c) k x i).1) ||| ((nI 1) <<< ((nI i) &&& 31)))), (8, .int (suR (M 2 0) (M c) i k)), (0, .ref (B + 0)), (1, .ref (B + c)), (2, .int (nI k)), (3, .int x)] (dk dtX7_event_0 53 rfl) rfl (nI_1 _) (by decide) rfl ?_
                refine g_goto F 13 (dk dtX7_event_0 54 rfl) (by decide) ?_
                refine g_sub [5, 6, 7, 8, 3, 2, 1, 0] (L1 := [(0, .ref (B + 0)), (1, .ref (B + c)), (2, .int (nI k)), (3, .int x), (4, .int (((eF (M 3) (M 2 0) (M c) k x i).1) ||| ((nI 1) <<< ((nI i) &&& 31)))), (5, .int ((eF (M 3) (M 2 0) (M c) k x i).2.1)), (6, .int ((eF (M 3) (M 2 0) (M c) k x i).2.2)), (7, .int (nI (i + 1)))]) rfl ?_
                have eq13_4 : (((eF (M 3) (M 2 0) (M c) k x i).1) ||| ((nI 1) <<< ((nI i) &&& 31)) : Int32) = (eF (M 3) (M 2 0) (M c) k x (i + 1)).1 := by
                  simp only [eF]; rw [if_pos ⟨c41, Int32.not_lt.mp c53⟩]
                have eq13_5 : ((eF (M 3) (M 2 0) (M c) k x i).2.1 : Int32) = (eF (M 3) (M 2 0) (M c) k x (i + 1)).2.1 := by
                  simp only [eF]; rw [if_pos ⟨c41, Int32.not_lt.mp c53⟩]; dsimp only; rw [if_neg (Int32.not_lt.mpr c69)]
                have eq13_6 : ((eF (M 3) (M 2 0) (M c) k x i).2.2 : Int32) = (eF (M 3) (M 2 0) (M c) k x (i + 1)).2.2 := by
                  simp only [eF]; rw [if_pos ⟨c41, Int32.not_lt.mp c53⟩]; dsimp only; rw [if_neg (Int32.not_lt.mpr c85)]
                refine g_st (M1 := M) (L1 := [(0, .ref (B + 0)), (1, .ref (B + c)), (2, .int (nI k)), (3, .int x), (4, .int ((eF (M 3) (M 2 0) (M c) k x (i + 1)).1)), (5, .int ((eF (M 3) (M 2 0) (M c) k x (i + 1)).2.1)), (6, .int ((eF (M 3) (M 2 0) (M c) k x (i + 1)).2.2)), (7, .int (nI (i + 1)))]) rfl (lc rfl (lc rfl (lc rfl (lc rfl (lc (vi eq13_4) (lc (vi eq13_5) (lc (vi eq13_6) (lc rfl rfl)))))))) rfl ?_
                exact ih13 (i + 1) (by omega) (by omega)
              · -- not taken at 85
                refine g_iload F 2 (dk dtX7_event_0 49 rfl) rfl ?_
                refine g_goto F 95 (dk dtX7_event_0 50 rfl) (by decide) ?_
                refine g_istore F [(6, .int (suR (M 2 0) (M c) i k)), (5, .int ((eF (M 3) (M 2 0) (M c) k x i).2.1)), (4, .int (((eF (M 3) (M 2 0) (M c) k x i).1) ||| ((nI 1) <<< ((nI i) &&& 31)))), (8, .int (suR (M 2 0) (M c) i k)), (0, .ref (B + 0)), (1, .ref (B + c)), (2, .int (nI k)), (3, .int x), (7, .int (nI i))] (dk dtX7_event_0 52 rfl) (by decide) rfl ?_
                refine g_iinc F 8 (nI (i + 1)) [(7, .int (nI (i + 1))), (6, .int (suR (M 2 0) (M c) i k)), (5, .int ((eF (M 3) (M 2 0) (M c) k x i).2.1)), (4, .int (((eF (M 3) (M 2 0) (M c) k x i).1) ||| ((nI 1) <<< ((nI i) &&& 31)))), (8, .int (suR (M 2 0) (M c) i k)), (0, .ref (B + 0)), (1, .ref (B + c)), (2, .int (nI k)), (3, .int x)] (dk dtX7_event_0 53 rfl) rfl (nI_1 _) (by decide) rfl ?_
                refine g_goto F 13 (dk dtX7_event_0 54 rfl) (by decide) ?_
                refine g_sub [5, 6, 7, 8, 3, 2, 1, 0] (L1 := [(0, .ref (B + 0)), (1, .ref (B + c)), (2, .int (nI k)), (3, .int x), (4, .int (((eF (M 3) (M 2 0) (M c) k x i).1) ||| ((nI 1) <<< ((nI i) &&& 31)))), (5, .int ((eF (M 3) (M 2 0) (M c) k x i).2.1)), (6, .int (suR (M 2 0) (M c) i k)), (7, .int (nI (i + 1)))]) rfl ?_
                have eq13_4 : (((eF (M 3) (M 2 0) (M c) k x i).1) ||| ((nI 1) <<< ((nI i) &&& 31)) : Int32) = (eF (M 3) (M 2 0) (M c) k x (i + 1)).1 := by
                  simp only [eF]; rw [if_pos ⟨c41, Int32.not_lt.mp c53⟩]
                have eq13_5 : ((eF (M 3) (M 2 0) (M c) k x i).2.1 : Int32) = (eF (M 3) (M 2 0) (M c) k x (i + 1)).2.1 := by
                  simp only [eF]; rw [if_pos ⟨c41, Int32.not_lt.mp c53⟩]; dsimp only; rw [if_neg (Int32.not_lt.mpr c69)]
                have eq13_6 : (suR (M 2 0) (M c) i k : Int32) = (eF (M 3) (M 2 0) (M c) k x (i + 1)).2.2 := by
                  simp only [eF]; rw [if_pos ⟨c41, Int32.not_lt.mp c53⟩]; dsimp only; rw [if_pos (Int32.not_le.mp c85)]
                refine g_st (M1 := M) (L1 := [(0, .ref (B + 0)), (1, .ref (B + c)), (2, .int (nI k)), (3, .int x), (4, .int ((eF (M 3) (M 2 0) (M c) k x (i + 1)).1)), (5, .int ((eF (M 3) (M 2 0) (M c) k x (i + 1)).2.1)), (6, .int ((eF (M 3) (M 2 0) (M c) k x (i + 1)).2.2)), (7, .int (nI (i + 1)))]) rfl (lc rfl (lc rfl (lc rfl (lc rfl (lc (vi eq13_4) (lc (vi eq13_5) (lc (vi eq13_6) (lc rfl rfl)))))))) rfl ?_
                exact ih13 (i + 1) (by omega) (by omega)
            · -- not taken at 69
              refine g_iload F 8 (dk dtX7_event_0 42 rfl) rfl ?_
              refine g_goto F 79 (dk dtX7_event_0 43 rfl) (by decide) ?_
              refine g_istore F [(5, .int (nI i)), (4, .int (((eF (M 3) (M 2 0) (M c) k x i).1) ||| ((nI 1) <<< ((nI i) &&& 31)))), (8, .int (suR (M 2 0) (M c) i k)), (0, .ref (B + 0)), (1, .ref (B + c)), (2, .int (nI k)), (3, .int x), (6, .int ((eF (M 3) (M 2 0) (M c) k x i).2.2)), (7, .int (nI i))] (dk dtX7_event_0 45 rfl) (by decide) rfl ?_
              refine g_iload F 2 (dk dtX7_event_0 46 rfl) rfl ?_
              refine g_iload F 7 (dk dtX7_event_0 47 rfl) rfl ?_
              refine g_icmp_le F 93 (dk dtX7_event_0 48 rfl) (by decide) (fun c85 => ?_) (fun c85 => ?_)
              · -- taken at 85
                refine g_iload F 7 (dk dtX7_event_0 51 rfl) rfl ?_
                refine g_istore F [(6, .int ((eF (M 3) (M 2 0) (M c) k x i).2.2)), (5, .int (nI i)), (4, .int (((eF (M 3) (M 2 0) (M c) k x i).1) ||| ((nI 1) <<< ((nI i) &&& 31)))), (8, .int (suR (M 2 0) (M c) i k)), (0, .ref (B + 0)), (1, .ref (B + c)), (2, .int (nI k)), (3, .int x), (7, .int (nI i))] (dk dtX7_event_0 52 rfl) (by decide) rfl ?_
                refine g_iinc F 8 (nI (i + 1)) [(7, .int (nI (i + 1))), (6, .int ((eF (M 3) (M 2 0) (M c) k x i).2.2)), (5, .int (nI i)), (4, .int (((eF (M 3) (M 2 0) (M c) k x i).1) ||| ((nI 1) <<< ((nI i) &&& 31)))), (8, .int (suR (M 2 0) (M c) i k)), (0, .ref (B + 0)), (1, .ref (B + c)), (2, .int (nI k)), (3, .int x)] (dk dtX7_event_0 53 rfl) rfl (nI_1 _) (by decide) rfl ?_
                refine g_goto F 13 (dk dtX7_event_0 54 rfl) (by decide) ?_
                refine g_sub [5, 6, 7, 8, 3, 2, 1, 0] (L1 := [(0, .ref (B + 0)), (1, .ref (B + c)), (2, .int (nI k)), (3, .int x), (4, .int (((eF (M 3) (M 2 0) (M c) k x i).1) ||| ((nI 1) <<< ((nI i) &&& 31)))), (5, .int (nI i)), (6, .int ((eF (M 3) (M 2 0) (M c) k x i).2.2)), (7, .int (nI (i + 1)))]) rfl ?_
                have eq13_4 : (((eF (M 3) (M 2 0) (M c) k x i).1) ||| ((nI 1) <<< ((nI i) &&& 31)) : Int32) = (eF (M 3) (M 2 0) (M c) k x (i + 1)).1 := by
                  simp only [eF]; rw [if_pos ⟨c41, Int32.not_lt.mp c53⟩]
                have eq13_5 : (nI i : Int32) = (eF (M 3) (M 2 0) (M c) k x (i + 1)).2.1 := by
                  simp only [eF]; rw [if_pos ⟨c41, Int32.not_lt.mp c53⟩]; dsimp only; rw [if_pos (Int32.not_le.mp c69)]
                have eq13_6 : ((eF (M 3) (M 2 0) (M c) k x i).2.2 : Int32) = (eF (M 3) (M 2 0) (M c) k x (i + 1)).2.2 := by
                  simp only [eF]; rw [if_pos ⟨c41, Int32.not_lt.mp c53⟩]; dsimp only; rw [if_neg (Int32.not_lt.mpr c85)]
                refine g_st (M1 := M) (L1 := [(0, .ref (B + 0)), (1, .ref (B + c)), (2, .int (nI k)), (3, .int x), (4, .int ((eF (M 3) (M 2 0) (M c) k x (i + 1)).1)), (5, .int ((eF (M 3) (M 2 0) (M c) k x (i + 1)).2.1)), (6, .int ((eF (M 3) (M 2 0) (M c) k x (i + 1)).2.2)), (7, .int (nI (i + 1)))]) rfl (lc rfl (lc rfl (lc rfl (lc rfl (lc (vi eq13_4) (lc (vi eq13_5) (lc (vi eq13_6) (lc rfl rfl)))))))) rfl ?_
                exact ih13 (i + 1) (by omega) (by omega)
              · -- not taken at 85
                refine g_iload F 2 (dk dtX7_event_0 49 rfl) rfl ?_
                refine g_goto F 95 (dk dtX7_event_0 50 rfl) (by decide) ?_
                refine g_istore F [(6, .int (suR (M 2 0) (M c) i k)), (5, .int (nI i)), (4, .int (((eF (M 3) (M 2 0) (M c) k x i).1) ||| ((nI 1) <<< ((nI i) &&& 31)))), (8, .int (suR (M 2 0) (M c) i k)), (0, .ref (B + 0)), (1, .ref (B + c)), (2, .int (nI k)), (3, .int x), (7, .int (nI i))] (dk dtX7_event_0 52 rfl) (by decide) rfl ?_
                refine g_iinc F 8 (nI (i + 1)) [(7, .int (nI (i + 1))), (6, .int (suR (M 2 0) (M c) i k)), (5, .int (nI i)), (4, .int (((eF (M 3) (M 2 0) (M c) k x i).1) ||| ((nI 1) <<< ((nI i) &&& 31)))), (8, .int (suR (M 2 0) (M c) i k)), (0, .ref (B + 0)), (1, .ref (B + c)), (2, .int (nI k)), (3, .int x)] (dk dtX7_event_0 53 rfl) rfl (nI_1 _) (by decide) rfl ?_
                refine g_goto F 13 (dk dtX7_event_0 54 rfl) (by decide) ?_
                refine g_sub [5, 6, 7, 8, 3, 2, 1, 0] (L1 := [(0, .ref (B + 0)), (1, .ref (B + c)), (2, .int (nI k)), (3, .int x), (4, .int (((eF (M 3) (M 2 0) (M c) k x i).1) ||| ((nI 1) <<< ((nI i) &&& 31)))), (5, .int (nI i)), (6, .int (suR (M 2 0) (M c) i k)), (7, .int (nI (i + 1)))]) rfl ?_
                have eq13_4 : (((eF (M 3) (M 2 0) (M c) k x i).1) ||| ((nI 1) <<< ((nI i) &&& 31)) : Int32) = (eF (M 3) (M 2 0) (M c) k x (i + 1)).1 := by
                  simp only [eF]; rw [if_pos ⟨c41, Int32.not_lt.mp c53⟩]
                have eq13_5 : (nI i : Int32) = (eF (M 3) (M 2 0) (M c) k x (i + 1)).2.1 := by
                  simp only [eF]; rw [if_pos ⟨c41, Int32.not_lt.mp c53⟩]; dsimp only; rw [if_pos (Int32.not_le.mp c69)]
                have eq13_6 : (suR (M 2 0) (M c) i k : Int32) = (eF (M 3) (M 2 0) (M c) k x (i + 1)).2.2 := by
                  simp only [eF]; rw [if_pos ⟨c41, Int32.not_lt.mp c53⟩]; dsimp only; rw [if_pos (Int32.not_le.mp c85)]
                refine g_st (M1 := M) (L1 := [(0, .ref (B + 0)), (1, .ref (B + c)), (2, .int (nI k)), (3, .int x), (4, .int ((eF (M 3) (M 2 0) (M c) k x (i + 1)).1)), (5, .int ((eF (M 3) (M 2 0) (M c) k x (i + 1)).2.1)), (6, .int ((eF (M 3) (M 2 0) (M c) k x (i + 1)).2.2)), (7, .int (nI (i + 1)))]) rfl (lc rfl (lc rfl (lc rfl (lc rfl (lc (vi eq13_4) (lc (vi eq13_5) (lc (vi eq13_6) (lc rfl rfl)))))))) rfl ?_
                exact ih13 (i + 1) (by omega) (by omega)
  refine g_sub [4, 5, 6, 7, 3, 2, 1, 0] (L1 := [(0, .ref (B + 0)), (1, .ref (B + c)), (2, .int (nI k)), (3, .int x), (4, .int (nI 0)), (5, .int (-9)), (6, .int (-1)), (7, .int (nI 0))]) rfl ?_
  exact lp13 (P + 1) 0 (by omega) (by omega)
