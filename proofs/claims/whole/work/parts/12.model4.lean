def evi (E r n k : Nat) : Nat := r / E ^ (n - 1 - k) % E
theorem kx_lt {K X : Nat} (hK4 : K ≤ 4) (hX4 : X ≤ 4) : K * X < 2 ^ 31 := Nat.lt_of_le_of_lt (Nat.mul_le_mul hK4 hX4) (by decide)
theorem kx_le {K X : Nat} (hK4 : K ≤ 4) (hX4 : X ≤ 4) : K * X ≤ 16 := Nat.mul_le_mul hK4 hX4
theorem pw_pos {K X : Nat} (hK1 : 1 ≤ K) (hX1 : 1 ≤ X) (m : Nat) : 0 < (K * X) ^ m := Nat.pow_pos (Nat.mul_pos hK1 hX1)
theorem pw_le {K X m : Nat} (hK4 : K ≤ 4) (hX4 : X ≤ 4) (hm : m ≤ 3) : (K * X) ^ m ≤ 4096 := Nat.le_trans (Nat.pow_le_pow_left (kx_le hK4 hX4) m) (Nat.le_trans (Nat.pow_le_pow_right (by decide) hm) (by decide))
theorem pw_lt {K X m : Nat} (hK4 : K ≤ 4) (hX4 : X ≤ 4) (hm : m ≤ 3) : (K * X) ^ m < 2 ^ 31 := Nat.lt_of_le_of_lt (pw_le hK4 hX4 hm) (by decide)
theorem kn_le {K n : Nat} (hK4 : K ≤ 4) (hn : n ≤ 4) : K ^ n ≤ 256 := Nat.le_trans (Nat.pow_le_pow_left hK4 n) (Nat.le_trans (Nat.pow_le_pow_right (by decide) hn) (by decide))
theorem evi_lt {K X : Nat} (hK1 : 1 ≤ K) (hX1 : 1 ≤ X) (r n k : Nat) : evi (K * X) r n k < K * X := Nat.mod_lt _ (Nat.mul_pos hK1 hX1)
theorem evi_div {K X : Nat} (hK1 : 1 ≤ K) (hX1 : 1 ≤ X) (r n k : Nat) : evi (K * X) r n k / X < K := (Nat.div_lt_iff_lt_mul hX1).mpr (evi_lt hK1 hX1 r n k)
def mbR (nv : Nat → Int32) (Kv : Int32) (K X P : Nat) (s5 : Nat → Int32) (r n : Nat) : Nat → Nat → Int32
  | 0 => s5
  | i + 1 => evR nv Kv (mbR nv Kv K X P s5 r n i) (evi (K * X) r n i / X) (nI (evi (K * X) r n i % X)) P
theorem mbR_WR {nv : Nat → Int32} {Kv : Int32} {K X P : Nat} {s5 : Nat → Int32} (h : WR s5) (hK1 : 1 ≤ K) (hK4 : K ≤ 4) (hX1 : 1 ≤ X) (r n i : Nat) : WR (mbR nv Kv K X P s5 r n i) := by
  induction i with
  | zero => exact h
  | succ i ih => exact evR_WR ih (Nat.lt_of_lt_of_le (evi_div hK1 hX1 r n i) hK4)
def saE (X v : Nat) : Nat := 10 * (v / X) + v % X
def plQ (E : Nat) (mb : Nat → Nat → Int32) (pv : Int32) (res : Nat → Nat → Int32) (r : Int32) : Prop := (∃ n row, n ≤ 3 ∧ row < E ^ n ∧ mb row n = pv ∧ (∀ n1, n1 < n → ∀ r1, r1 < E ^ n1 → ¬ mb r1 n1 = pv) ∧ (∀ r1, r1 < row → ¬ mb r1 n = pv) ∧ r = res n row) ∨ ((∀ n, n ≤ 3 → ∀ r1, r1 < E ^ n → ¬ mb r1 n = pv) ∧ r = -9)
theorem in_m1 {k : Nat} (hk : k < 3) : ¬ nI k < -1 ∧ ¬ nI 2 < nI k := by
  rw [Int32.lt_iff_toInt_lt, Int32.lt_iff_toInt_lt, nI_toInt (by omega), nI_toInt (by omega)]
  exact ⟨by have : (-1 : Int32).toInt = -1 := by decide
            omega, by omega⟩
theorem nI_m1 {k : Nat} (hk : k < 3) : ¬ nI k = -1 := by
  intro h
  have := congrArg Int32.toInt h
  rw [nI_toInt (by omega)] at this
  have h1 : (-1 : Int32).toInt = -1 := by decide
  omega
def odR (nv : Nat → Int32) (Kv : Int32) (K : Nat) (x : Int32) (P : Nat) (s5 : Nat → Int32) (r : Nat) : Nat → Nat → Int32
  | 0 => s5
  | i + 1 => evR nv Kv (odR nv Kv K x P s5 r i) (r / K ^ i % K) x P
theorem odR_WR {nv : Nat → Int32} {Kv : Int32} {K : Nat} {x : Int32} {P : Nat} {s5 : Nat → Int32} {r : Nat} (h : WR s5) (hK1 : 1 ≤ K) (hK4 : K ≤ 4) (i : Nat) : WR (odR nv Kv K x P s5 r i) := by
  induction i with
  | zero => exact h
  | succ i ih => exact evR_WR ih (Nat.lt_of_lt_of_le (Nat.mod_lt _ hK1) hK4)
def odC (nv : Nat → Int32) (Kv : Int32) (K : Nat) (x : Int32) (P : Nat) (s5 : Nat → Int32) (n : Nat) (pv : Int32) : Nat → Nat
  | 0 => 0
  | r + 1 => odC nv Kv K x P s5 n pv r + (if moR (odR nv Kv K x P s5 r n) = pv then 1 else 0)
theorem odC_le (nv : Nat → Int32) (Kv : Int32) (K : Nat) (x : Int32) (P : Nat) (s5 : Nat → Int32) (n : Nat) (pv : Int32) (r : Nat) : odC nv Kv K x P s5 n pv r ≤ r := by
  induction r with
  | zero => exact Nat.le_refl _
  | succ r ih =>
    simp only [odC]
    split <;> omega
set_option maxRecDepth 100000 in
set_option maxHeartbeats 4000000 in
theorem k_X7_events (l : Launch) (D : DX) (B : Nat) (T : Int64) (M : Mem) (K X : Nat) (hK : M 2 0 = nI K) (hX : M 2 1 = nI X) : Ci l D B 14 (celM D B) yX7_events cX7_events 1 (some .int) 0 [.ref (B + 0)] T M (fun rz T1 M1 => rz = (nI (K * X)) ∧ T1 = T ∧ M1 = M) := by
  refine g_entryi (L := [(0, .ref (B + 0))]) (by decide) (Nat.le_of_ble_eq_true rfl) rfl ?_
  intro zp ze zs zm zb zt zc Q F hQ
  refine g_aload_n F 0 (dk dtX7_events_0 0 rfl) rfl ?_
  refine g_get F fa_X7_13 (dk dtX7_events_0 1 rfl) (by decide) (cm0 D B _ _) rfl ?_
  refine g_iconst F (nI 0) (dk dtX7_events_0 2 rfl) (by decide) ?_
  refine g_iald F (0) (dk dtX7_events_0 3 rfl) (by decide) (cm2 D B _ _) (by omega) (by decide) ?_
  refine g_top hK ?_
  refine g_aload_n F 0 (dk dtX7_events_0 4 rfl) rfl ?_
  refine g_get F fa_X7_13 (dk dtX7_events_0 5 rfl) (by decide) (cm0 D B _ _) rfl ?_
  refine g_iconst F (nI 1) (dk dtX7_events_0 6 rfl) (by decide) ?_
  refine g_iald F (1) (dk dtX7_events_0 7 rfl) (by decide) (cm2 D B _ _) (by omega) (by decide) ?_
  refine g_top hX ?_
  refine g_imulN F (dk dtX7_events_0 8 rfl) ?_
  refine g_iret (F := F) hQ (dk dtX7_events_0 9 rfl) ?_
  exact ⟨rfl, rfl, rfl⟩
set_option maxRecDepth 100000 in
set_option maxHeartbeats 4000000 in
theorem k_X7_power (l : Launch) (D : DX) (B : Nat) (T : Int64) (M : Mem) (b n : Nat) (hn : n ≤ 9) : Ci l D B 14 (celM D B) yX7_power cX7_power 4 (some .int) 0 [.int (nI b), .int (nI n)] T M (fun rz T1 M1 => rz = (nI (b ^ n)) ∧ T1 = T ∧ M1 = M) := by
  refine g_entryi (L := [(0, .int (nI b)), (1, .int (nI n))]) (by decide) (Nat.le_of_ble_eq_true rfl) rfl ?_
  intro zp ze zs zm zb zt zc Q F hQ
  refine g_iconst F (nI 1) (dk dtX7_power_0 0 rfl) (by decide) ?_
  refine g_istore_n F [(2, .int (nI 1)), (0, .int (nI b)), (1, .int (nI n))] (dk dtX7_power_0 1 rfl) (by decide) rfl ?_
  refine g_iconst F (nI 0) (dk dtX7_power_0 2 rfl) (by decide) ?_
  refine g_istore_n F [(3, .int (nI 0)), (2, .int (nI 1)), (0, .int (nI b)), (1, .int (nI n))] (dk dtX7_power_0 3 rfl) (by decide) rfl ?_
  have lp4 : ∀ (fz : Nat) (i : Nat), i ≤ n → (n - i) < fz → G zp l ze { frames := 0, cells := 0, slots := 0, locals := 40 * 0 } zs zm [.int (nI b), .int (nI n)].toArray zb zt zc 4 D B 14 (celM D B) Q T M 4 [(0, .int (nI b)), (1, .int (nI n)), (2, .int (nI (b ^ i))), (3, .int (nI i))] [] := by
    intro n4
    induction n4 with
    | zero => intro i hI hn; exact absurd hn (Nat.not_lt_zero _)
    | succ n4 ih4 =>
      intro i hI4 hn4
      refine g_iload_n F 3 (dk dtX7_power_0 4 rfl) rfl ?_
      refine g_iload_n F 1 (dk dtX7_power_0 5 rfl) rfl ?_
      refine g_icmp_geN F 19 (dk dtX7_power_0 6 rfl) (by decide) (by omega) (by omega) (fun c6 => ?_) (fun c6 => ?_)
      · -- taken at 6
        obtain rfl : n = i := by omega
        refine g_iload_n F 2 (dk dtX7_power_0 13 rfl) rfl ?_
        refine g_iret (F := F) hQ (dk dtX7_power_0 14 rfl) ?_
        exact ⟨rfl, rfl, rfl⟩
      · -- not taken at 6
        refine g_iload_n F 2 (dk dtX7_power_0 7 rfl) rfl ?_
        refine g_iload_n F 0 (dk dtX7_power_0 8 rfl) rfl ?_
        refine g_imulN F (dk dtX7_power_0 9 rfl) ?_
        refine g_istore_n F [(2, .int (nI ((b ^ i) * b))), (0, .int (nI b)), (1, .int (nI n)), (3, .int (nI i))] (dk dtX7_power_0 10 rfl) (by decide) rfl ?_
        refine g_iinc F 3 (nI (i + 1)) [(3, .int (nI (i + 1))), (2, .int (nI ((b ^ i) * b))), (0, .int (nI b)), (1, .int (nI n))] (dk dtX7_power_0 11 rfl) rfl (nI_1 _) (by decide) rfl ?_
        refine g_goto F 4 (dk dtX7_power_0 12 rfl) (by decide) ?_
        refine g_sub [2, 3, 1, 0] (L1 := [(0, .int (nI b)), (1, .int (nI n)), (2, .int (nI ((b ^ i) * b))), (3, .int (nI (i + 1)))]) rfl ?_
        have eq4_2 : (nI ((b ^ i) * b) : Int32) = nI (b ^ (i + 1)) := by
          rfl
        refine g_st (M1 := M) (L1 := [(0, .int (nI b)), (1, .int (nI n)), (2, .int (nI (b ^ (i + 1)))), (3, .int (nI (i + 1)))]) rfl (lc rfl (lc rfl (lc (vi eq4_2) (lc rfl rfl)))) rfl ?_
        exact ih4 (i + 1) (by omega) (by omega)
  refine g_sub [2, 3, 1, 0] (L1 := [(0, .int (nI b)), (1, .int (nI n)), (2, .int (nI 1)), (3, .int (nI 0))]) rfl ?_
  exact lp4 (n + 1) 0 (by omega) (by omega)
set_option maxRecDepth 100000 in
set_option maxHeartbeats 4000000 in
theorem k_X7_eventAt (l : Launch) (D : DX) (B : Nat) (T : Int64) (M : Mem) (K X : Nat) (hK : M 2 0 = nI K) (hX : M 2 1 = nI X) (hK1 : 1 ≤ K) (hK4 : K ≤ 4) (hX1 : 1 ≤ X) (hX4 : X ≤ 4) (r n k : Nat) (hr : r < 2 ^ 31) (hk : k < n) (hn : n ≤ 3) : Ci l D B 14 (celM D B) yX7_eventAt cX7_eventAt 4 (some .int) 1 [.ref (B + 0), .int (nI r), .int (nI n), .int (nI k)] T M (fun rz T1 M1 => rz = (nI (evi (K * X) r n k)) ∧ T1 = T ∧ M1 = M) := by
  refine g_entryi (L := [(0, .ref (B + 0)), (1, .int (nI r)), (2, .int (nI n)), (3, .int (nI k))]) (by decide) (Nat.le_of_ble_eq_true rfl) rfl ?_
  intro zp ze zs zm zb zt zc Q F hQ
  refine g_iload_n F 1 (dk dtX7_eventAt_0 0 rfl) rfl ?_
  refine g_aload_n F 0 (dk dtX7_eventAt_0 1 rfl) rfl ?_
  refine g_callVi F (As := []) (st := [.int (nI r)]) cv_X7_160 (dk dtX7_eventAt_0 2 rfl) (by decide) (cm0 D B _ _) rfl rfl (Nat.le_of_ble_eq_true rfl) ⟨by decide, by decide⟩ (k_X7_events l D B _ _ K X hK hX) (fun r2 T2 M2 hp2 => ?_)
  obtain ⟨e1, e2, e3⟩ := hp2
  replace e1 := e1.symm; replace e2 := e2.symm; replace e3 := e3.symm; subst e1; subst e2; subst e3
  refine g_iload_n F 2 (dk dtX7_eventAt_0 3 rfl) rfl ?_
  refine g_iconst F (nI 1) (dk dtX7_eventAt_0 4 rfl) (by decide) ?_
  refine g_isubN F (dk dtX7_eventAt_0 5 rfl) (by omega) ?_
  refine g_iload_n F 3 (dk dtX7_eventAt_0 6 rfl) rfl ?_
  refine g_isubN F (dk dtX7_eventAt_0 7 rfl) (by omega) ?_
  refine g_callSi F (As := [.int (nI (K * X)), .int (nI ((n - 1) - k))]) (st := [.int (nI r)]) cs_X7_163 (dk dtX7_eventAt_0 8 rfl) rfl rfl (Nat.le_of_ble_eq_true rfl) ⟨by decide, by decide⟩ (k_X7_power l D B _ _ (K * X) ((n - 1) - k) (by omega)) (fun r10 T10 M10 hp10 => ?_)
  obtain ⟨e1, e2, e3⟩ := hp10
  replace e1 := e1.symm; replace e2 := e2.symm; replace e3 := e3.symm; subst e1; subst e2; subst e3
  refine g_idivN F (dk dtX7_eventAt_0 9 rfl) (by omega) (pw_pos hK1 hX1 _) (pw_lt hK4 hX4 (by omega)) ?_
  refine g_aload_n F 0 (dk dtX7_eventAt_0 10 rfl) rfl ?_
  refine g_callVi F (As := []) (st := [.int (nI (r / ((K * X) ^ ((n - 1) - k))))]) cv_X7_160 (dk dtX7_eventAt_0 11 rfl) (by decide) (cm0 D B _ _) rfl rfl (Nat.le_of_ble_eq_true rfl) ⟨by decide, by decide⟩ (k_X7_events l D B _ _ K X hK hX) (fun r15 T15 M15 hp15 => ?_)
  obtain ⟨e1, e2, e3⟩ := hp15
  replace e1 := e1.symm; replace e2 := e2.symm; replace e3 := e3.symm; subst e1; subst e2; subst e3
  refine g_iremN F (dk dtX7_eventAt_0 12 rfl) (Nat.lt_of_le_of_lt (Nat.div_le_self _ _) hr) (Nat.mul_pos hK1 hX1) (kx_lt hK4 hX4) ?_
  refine g_iret (F := F) hQ (dk dtX7_eventAt_0 13 rfl) ?_
  exact ⟨rfl, rfl, rfl⟩
set_option maxRecDepth 100000 in
set_option maxHeartbeats 4000000 in
theorem k_X7_mayorBy (l : Launch) (D : DX) (B : Nat) (T : Int64) (M : Mem) (K X : Nat) (hK : M 2 0 = nI K) (hX : M 2 1 = nI X) (hK1 : 1 ≤ K) (hK4 : K ≤ 4) (hX1 : 1 ≤ X) (hX4 : X ≤ 4) (P : Nat) (hP : M 2 2 = nI P) (hP5 : P ≤ 5) (hW : WR (M 5)) (r n : Nat) (hr : r < 2 ^ 31) (hn : n ≤ 3) : Ci l D B 14 (celM D B) yX7_mayorBy cX7_mayorBy 5 (some .int) 3 [.ref (B + 0), .int (nI r), .int (nI n)] T M (fun r1 T1 M1 => r1 = moR (mbR (M 3) (M 2 0) K X P (M 5) r n n) ∧ T1 = T ∧ M1 = setR M 6 (mbR (M 3) (M 2 0) K X P (M 5) r n n)) := by
  refine g_entryi (L := [(0, .ref (B + 0)), (1, .int (nI r)), (2, .int (nI n))]) (by decide) (Nat.le_of_ble_eq_true rfl) rfl ?_
  intro zp ze zs zm zb zt zc Q F hQ
  refine g_aload_n F 0 (dk dtX7_mayorBy_0 0 rfl) rfl ?_
  refine g_get F fa_X7_22 (dk dtX7_mayorBy_0 1 rfl) (by decide) (cm0 D B _ _) rfl ?_
  refine g_aload_n F 0 (dk dtX7_mayorBy_0 2 rfl) rfl ?_
  refine g_get F fa_X7_25 (dk dtX7_mayorBy_0 3 rfl) (by decide) (cm0 D B _ _) rfl ?_
  refine g_callSv F (As := [.ref (B + 5), .ref (B + 6)]) (st := []) cs_X7_115 (dk dtX7_mayorBy_0 4 rfl) rfl rfl (Nat.le_of_ble_eq_true rfl) ⟨by decide, by decide⟩ (k_X7_copies l D B _ _ 5 6 (isRow5 D B) (isRow6 D B) (by decide)) (fun T8 M8 hp8 => ?_)
  obtain ⟨e2, e3⟩ := hp8
  replace e2 := e2.symm; replace e3 := e3.symm; subst e2; subst e3
  refine g_iconst F (nI 0) (dk dtX7_mayorBy_0 5 rfl) (by decide) ?_
  refine g_istore_n F [(3, .int (nI 0)), (0, .ref (B + 0)), (1, .int (nI r)), (2, .int (nI n))] (dk dtX7_mayorBy_0 6 rfl) (by decide) rfl ?_
  have lp13 : ∀ (fz : Nat) (i : Nat), i ≤ n → (n - i) < fz → G zp l ze { frames := 3, cells := 0, slots := 0, locals := 40 * 3 } zs zm [.ref (B + 0), .int (nI r), .int (nI n)].toArray zb zt zc 5 D B 14 (celM D B) Q T (setR M 6 (mbR (M 3) (M 2 0) K X P (M 5) r n i)) 13 [(0, .ref (B + 0)), (1, .int (nI r)), (2, .int (nI n)), (3, .int (nI i))] [] := by
    intro n13
    induction n13 with
    | zero => intro i hI hn; exact absurd hn (Nat.not_lt_zero _)
    | succ n13 ih13 =>
      intro i hI13 hn13
      refine g_iload_n F 3 (dk dtX7_mayorBy_0 7 rfl) rfl ?_
      refine g_iload_n F 2 (dk dtX7_mayorBy_0 8 rfl) rfl ?_
      refine g_icmp_geN F 60 (dk dtX7_mayorBy_0 9 rfl) (by decide) (by omega) (by omega) (fun c15 => ?_) (fun c15 => ?_)
      · -- taken at 15
        obtain rfl : n = i := by omega
        refine g_aload_n F 0 (dk dtX7_mayorBy_0 35 rfl) rfl ?_
        refine g_get F fa_X7_25 (dk dtX7_mayorBy_0 36 rfl) (by decide) (cm0 D B _ _) rfl ?_
        refine g_callSi F (As := [.ref (B + 6)]) (st := []) cs_X7_140 (dk dtX7_mayorBy_0 37 rfl) rfl rfl (Nat.le_of_ble_eq_true rfl) ⟨by decide, by decide⟩ (k_X7_mayorOfR l D B _ _ 6 (isRow6 D B) (mbR (M 3) (M 2 0) K X P (M 5) r n n) (setR_self _ _ _)) (fun r64 T64 M64 hp64 => ?_)
        obtain ⟨e1, e2, e3⟩ := hp64
        replace e1 := e1.symm; replace e2 := e2.symm; replace e3 := e3.symm; subst e1; subst e2; subst e3
        refine g_iret (F := F) hQ (dk dtX7_mayorBy_0 38 rfl) ?_
        exact ⟨rfl, rfl, rfl⟩
      · -- not taken at 15
        refine g_aload_n F 0 (dk dtX7_mayorBy_0 10 rfl) rfl ?_
        refine g_iload_n F 1 (dk dtX7_mayorBy_0 11 rfl) rfl ?_
        refine g_iload_n F 2 (dk dtX7_mayorBy_0 12 rfl) rfl ?_
        refine g_iload_n F 3 (dk dtX7_mayorBy_0 13 rfl) rfl ?_
        refine g_callVi F (As := [.int (nI r), .int (nI n), .int (nI i)]) (st := []) cv_X7_166 (dk dtX7_mayorBy_0 14 rfl) (by decide) (cm0 D B _ _) rfl rfl (Nat.le_of_ble_eq_true rfl) ⟨by decide, by decide⟩ (k_X7_eventAt l D B _ _ K X ((congrFun (setR_ne _ _ (by decide)) _).trans hK) ((congrFun (setR_ne _ _ (by decide)) _).trans hX) hK1 hK4 hX1 hX4 r n i (by omega) (by omega) (by omega)) (fun r22 T22 M22 hp22 => ?_)
        obtain ⟨e1, e2, e3⟩ := hp22
        replace e1 := e1.symm; replace e2 := e2.symm; replace e3 := e3.symm; subst e1; subst e2; subst e3
        have hek := evi_div hK1 hX1 r n i (X := X) (K := K)
        have hel := evi_lt hK1 hX1 r n i (X := X) (K := K)
        have hkx := kx_lt hK4 hX4
        refine g_istore F [(4, .int (nI (evi (K * X) r n i))), (0, .ref (B + 0)), (1, .int (nI r)), (2, .int (nI n)), (3, .int (nI i))] (dk dtX7_mayorBy_0 15 rfl) (by decide) rfl ?_
        refine g_aload_n F 1 (dk dtX7_mayorBy_0 16 rfl) rfl ?_
        refine g_aload_n F 1 (dk dtX7_mayorBy_0 17 rfl) rfl ?_
        refine g_get F fa_X7_25 (dk dtX7_mayorBy_0 18 rfl) (by decide) (cm0 D B _ _) rfl ?_
        refine g_iload F 0 (dk dtX7_mayorBy_0 19 rfl) rfl ?_
        refine g_aload_n F 1 (dk dtX7_mayorBy_0 20 rfl) rfl ?_
        refine g_get F fa_X7_13 (dk dtX7_mayorBy_0 21 rfl) (by decide) (cm0 D B _ _) rfl ?_
        refine g_iconst F (nI 1) (dk dtX7_mayorBy_0 22 rfl) (by decide) ?_
        refine g_iald F (1) (dk dtX7_mayorBy_0 23 rfl) (by decide) (cm2 D B _ _) (by omega) (by decide) ?_
        refine g_top (congrFun (setR_ne _ _ (by decide)) _) ?_
        refine g_top hX ?_
        refine g_idivN F (dk dtX7_mayorBy_0 24 rfl) (by omega) (by omega) (by omega) ?_
        refine g_iload F 0 (dk dtX7_mayorBy_0 25 rfl) rfl ?_
        refine g_aload_n F 1 (dk dtX7_mayorBy_0 26 rfl) rfl ?_
        refine g_get F fa_X7_13 (dk dtX7_mayorBy_0 27 rfl) (by decide) (cm0 D B _ _) rfl ?_
        refine g_iconst F (nI 1) (dk dtX7_mayorBy_0 28 rfl) (by decide) ?_
        refine g_iald F (1) (dk dtX7_mayorBy_0 29 rfl) (by decide) (cm2 D B _ _) (by omega) (by decide) ?_
        refine g_top (congrFun (setR_ne _ _ (by decide)) _) ?_
        refine g_top hX ?_
        refine g_iremN F (dk dtX7_mayorBy_0 30 rfl) (by omega) (by omega) (by omega) ?_
        refine g_callVi F (As := [.ref (B + 6), .int (nI ((evi (K * X) r n i) / X)), .int (nI ((evi (K * X) r n i) % X))]) (st := []) cv_X7_157 (dk dtX7_mayorBy_0 31 rfl) (by decide) (cm0 D B _ _) rfl rfl (Nat.le_of_ble_eq_true rfl) ⟨by decide, by decide⟩ (k_X7_eventR l D B _ _ 6 (isRow6 D B) ((evi (K * X) r n i) / X) (by omega) (nI ((evi (K * X) r n i) % X)) (M 3) ((M 2) 0) (mbR (M 3) (M 2 0) K X P (M 5) r n i) (setR_ne _ _ (by decide)) (congrFun (setR_ne _ _ (by decide)) 0) (setR_self _ _ _) K P hK ((congrFun (setR_ne _ _ (by decide)) _).trans hP) hK1 hK4 hP5 (mbR_WR hW hK1 hK4 hX1 _ _ _)) (fun r50 T50 M50 hp50 => ?_)
        obtain ⟨e1, e2, e3⟩ := hp50
        replace e1 := e1.symm; replace e2 := e2.symm; replace e3 := e3.symm; subst e1; subst e2; subst e3
        refine g_pop F (dk dtX7_mayorBy_0 32 rfl) rfl ?_
        refine g_iinc F 4 (nI (i + 1)) [(3, .int (nI (i + 1))), (4, .int (nI (evi (K * X) r n i))), (0, .ref (B + 0)), (1, .int (nI r)), (2, .int (nI n))] (dk dtX7_mayorBy_0 33 rfl) rfl (nI_1 _) (by decide) rfl ?_
        refine g_goto F 13 (dk dtX7_mayorBy_0 34 rfl) (by decide) ?_
        refine g_sub [2, 3, 4, 0] (L1 := [(0, .ref (B + 0)), (1, .int (nI r)), (2, .int (nI n)), (3, .int (nI (i + 1)))]) rfl ?_
        refine g_st (M1 := setR M 6 (mbR (M 3) (M 2 0) K X P (M 5) r n (i + 1))) (L1 := [(0, .ref (B + 0)), (1, .int (nI r)), (2, .int (nI n)), (3, .int (nI (i + 1)))]) (by rw [setR_setR]; rfl) rfl rfl ?_
        exact ih13 (i + 1) (by omega) (by omega)
  refine g_sub [1, 2, 3, 0] (L1 := [(0, .ref (B + 0)), (1, .int (nI r)), (2, .int (nI n)), (3, .int (nI 0))]) rfl ?_
  exact lp13 (n + 1) 0 (by omega) (by omega)
theorem k_X7_mayorByR (l : Launch) (D : DX) (B : Nat) (T : Int64) (M : Mem) (K X : Nat) (nv : Nat → Int32) (Kv : Int32) (s5 : Nat → Int32) (h3 : M 3 = nv) (h2 : M 2 0 = Kv) (h5 : M 5 = s5) (hK : Kv = nI K) (hX : M 2 1 = nI X) (hK1 : 1 ≤ K) (hK4 : K ≤ 4) (hX1 : 1 ≤ X) (hX4 : X ≤ 4) (P : Nat) (hP : M 2 2 = nI P) (hP5 : P ≤ 5) (hW : WR s5) (r n : Nat) (hr : r < 2 ^ 31) (hn : n ≤ 3) : Ci l D B 14 (celM D B) yX7_mayorBy cX7_mayorBy 5 (some .int) 3 [.ref (B + 0), .int (nI r), .int (nI n)] T M (fun r1 T1 M1 => r1 = moR (mbR nv Kv K X P s5 r n n) ∧ T1 = T ∧ M1 = setR M 6 (mbR nv Kv K X P s5 r n n)) := by
  subst h3 h2 h5
  exact k_X7_mayorBy l D B T M K X hK hX hK1 hK4 hX1 hX4 P hP hP5 hW r n hr hn
set_option maxRecDepth 100000 in
set_option maxHeartbeats 4000000 in
theorem k_X7_saysOf (l : Launch) (D : DX) (B : Nat) (T : Int64) (M : Mem) (X : Nat) (hX : M 2 1 = nI X) (hX1 : 1 ≤ X) (hX4 : X ≤ 4) (v : Nat) (hv : v < 2 ^ 31) : Ci l D B 14 (celM D B) yX7_saysOf cX7_saysOf 2 (some .int) 0 [.ref (B + 0), .int (nI v)] T M (fun rz T1 M1 => rz = (nI (saE X v)) ∧ T1 = T ∧ M1 = M) := by
  refine g_entryi (L := [(0, .ref (B + 0)), (1, .int (nI v))]) (by decide) (Nat.le_of_ble_eq_true rfl) rfl ?_
  intro zp ze zs zm zb zt zc Q F hQ
  refine g_bipush F (nI 10) (dk dtX7_saysOf_0 0 rfl) (by decide) ?_
  refine g_iload_n F 1 (dk dtX7_saysOf_0 1 rfl) rfl ?_
  refine g_aload_n F 0 (dk dtX7_saysOf_0 2 rfl) rfl ?_
  refine g_get F fa_X7_13 (dk dtX7_saysOf_0 3 rfl) (by decide) (cm0 D B _ _) rfl ?_
  refine g_iconst F (nI 1) (dk dtX7_saysOf_0 4 rfl) (by decide) ?_
  refine g_iald F (1) (dk dtX7_saysOf_0 5 rfl) (by decide) (cm2 D B _ _) (by omega) (by decide) ?_
  refine g_top hX ?_
  refine g_idivN F (dk dtX7_saysOf_0 6 rfl) (by omega) (by omega) (by omega) ?_
  refine g_imulN F (dk dtX7_saysOf_0 7 rfl) ?_
  refine g_iload_n F 1 (dk dtX7_saysOf_0 8 rfl) rfl ?_
  refine g_aload_n F 0 (dk dtX7_saysOf_0 9 rfl) rfl ?_
  refine g_get F fa_X7_13 (dk dtX7_saysOf_0 10 rfl) (by decide) (cm0 D B _ _) rfl ?_
  refine g_iconst F (nI 1) (dk dtX7_saysOf_0 11 rfl) (by decide) ?_
  refine g_iald F (1) (dk dtX7_saysOf_0 12 rfl) (by decide) (cm2 D B _ _) (by omega) (by decide) ?_
  refine g_top hX ?_
  refine g_iremN F (dk dtX7_saysOf_0 13 rfl) (by omega) (by omega) (by omega) ?_
  refine g_iaddN F (dk dtX7_saysOf_0 14 rfl) ?_
  refine g_iret (F := F) hQ (dk dtX7_saysOf_0 15 rfl) ?_
  exact ⟨rfl, rfl, rfl⟩
set_option maxRecDepth 100000 in
set_option maxHeartbeats 4000000 in
theorem k_X7_plan_m1 (l : Launch) (D : DX) (B : Nat) (T : Int64) (M : Mem) (h0 : M 0 0 = nI 0) (K X : Nat) (hK : M 2 0 = nI K) (hX : M 2 1 = nI X) (hK1 : 1 ≤ K) (hK4 : K ≤ 4) (hX1 : 1 ≤ X) (hX4 : X ≤ 4) (P : Nat) (hP : M 2 2 = nI P) (hP5 : P ≤ 5) (hW : WR (M 5)) (p : Nat) (hp : p < P)  : Ci l D B 14 (celM D B) yX7_plan cX7_plan 5 (some .int) 4 [.ref (B + 0), .int (nI p), .int (-1)] T M (fun rz T1 M1 => plQ (K * X) (fun r n => moR (mbR (M 3) (M 2 0) K X P (M 5) r n n)) (nI p) (fun n _ => nI n) rz ∧ T1 = T ∧ Sm M M1) := by
  refine g_entryi (L := [(0, .ref (B + 0)), (1, .int (nI p)), (2, .int (-1))]) (by decide) (Nat.le_of_ble_eq_true rfl) rfl ?_
  intro zp ze zs zm zb zt zc Q F hQ
  refine g_aload_n F 0 (dk dtX7_plan_0 0 rfl) rfl ?_
  refine g_iconst F (nI 0) (dk dtX7_plan_0 1 rfl) (by decide) ?_
  refine g_put F fa_X7_56 (dk dtX7_plan_0 2 rfl) (by decide) (cm0 D B _ _) (Nat.le_of_ble_eq_true rfl) rfl rfl ((cm0 D B _ _).trans st_Mod_0) ?_
  refine g_mem (up2_same h0) ?_
  refine g_aload_n F 0 (dk dtX7_plan_0 3 rfl) rfl ?_
  refine g_iload_n F 1 (dk dtX7_plan_0 4 rfl) rfl ?_
  refine g_callVi F (As := [.int (nI p)]) (st := []) cv_X7_129 (dk dtX7_plan_0 5 rfl) (by decide) (cm0 D B _ _) rfl rfl (Nat.le_of_ble_eq_true rfl) ⟨by decide, by decide⟩ (k_X7_isOne l D B _ _ _ P hP (by omega)) (fun r7 T7 M7 hp7 => ?_)
  obtain ⟨e1, e2, e3⟩ := hp7
  replace e1 := e1.symm; replace e2 := e2.symm; replace e3 := e3.symm; subst e1; subst e2; subst e3
  refine g_if_eqB F 22 (dk dtX7_plan_0 6 rfl) (by decide) (fun c => absurd (inR_nI (by omega)) c) (fun _ => ?_)
  refine g_iload_n F 2 (dk dtX7_plan_0 7 rfl) rfl ?_
  refine g_iconst F (-1) (dk dtX7_plan_0 8 rfl) (by decide) ?_
  refine g_iconst F (nI 2) (dk dtX7_plan_0 9 rfl) (by decide) ?_
  refine g_callSi F (As := [.int (-1), .int (-1), .int (nI 2)]) (st := []) cs_X7_60 (dk dtX7_plan_0 10 rfl) rfl rfl (Nat.le_of_ble_eq_true rfl) ⟨by decide, by decide⟩ (k_X7_in l D B _ _ _ _ _) (fun r16 T16 M16 hp16 => ?_)
  obtain ⟨e1, e2, e3⟩ := hp16
  replace e1 := e1.symm; replace e2 := e2.symm; replace e3 := e3.symm; subst e1; subst e2; subst e3
  refine g_if_neB F 24 (dk dtX7_plan_0 11 rfl) (by decide) (fun c19 => ?_) (fun c19 => ?_)
  · -- taken at 19
    refine g_iconst F (nI 0) (dk dtX7_plan_0 14 rfl) (by decide) ?_
    refine g_istore_n F [(3, .int (nI 0)), (0, .ref (B + 0)), (1, .int (nI p)), (2, .int (-1))] (dk dtX7_plan_0 15 rfl) (by decide) rfl ?_
    have lp26 : ∀ (fz : Nat) (i : Nat) (rw : Nat → Int32), (i ≤ 4 ∧ ∀ n1, n1 < i → ∀ r1, r1 < (K * X) ^ n1 → ¬ moR (mbR (M 3) (M 2 0) K X P (M 5) r1 n1 n1) = nI p) → (4 - i) < fz → G zp l ze { frames := 4, cells := 0, slots := 0, locals := 40 * 4 } zs zm [.ref (B + 0), .int (nI p), .int (-1)].toArray zb zt zc 5 D B 14 (celM D B) Q T (setR M 6 rw) 26 [(0, .ref (B + 0)), (1, .int (nI p)), (2, .int (-1)), (3, .int (nI i))] [] := by
      intro n26
      induction n26 with
      | zero => intro i rw hI hn; exact absurd hn (Nat.not_lt_zero _)
      | succ n26 ih26 =>
        intro i rw hI26 hn26
        refine g_iload_n F 3 (dk dtX7_plan_0 16 rfl) rfl ?_
        refine g_iconst F (nI 3) (dk dtX7_plan_0 17 rfl) (by decide) ?_
        refine g_icmp_gtN F 102 (dk dtX7_plan_0 18 rfl) (by decide) (by omega) (by omega) (fun c28 => ?_) (fun c28 => ?_)
        · -- taken at 28
          obtain rfl : 4 = i := by omega
          refine g_bipush F (-9) (dk dtX7_plan_0 55 rfl) (by decide) ?_
          refine g_iret (F := F) hQ (dk dtX7_plan_0 56 rfl) ?_
          refine ⟨Or.inr ⟨fun n hn r1 hr1 => hI26.2 n (by omega) r1 hr1, rfl⟩, rfl, fun i h6 _ => by rw [setR_ne _ _ h6]⟩
        · -- not taken at 28
          refine g_iconst F (nI 0) (dk dtX7_plan_0 19 rfl) (by decide) ?_
          refine g_istore F [(4, .int (nI 0)), (0, .ref (B + 0)), (1, .int (nI p)), (2, .int (-1)), (3, .int (nI i))] (dk dtX7_plan_0 20 rfl) (by decide) rfl ?_
          have lp34 : ∀ (fz : Nat) (r : Nat) (rw1 : Nat → Int32), (r ≤ (K * X) ^ i ∧ ∀ r1, r1 < r → ¬ moR (mbR (M 3) (M 2 0) K X P (M 5) r1 i i) = nI p) → ((K * X) ^ i - r) < fz → G zp l ze { frames := 4, cells := 0, slots := 0, locals := 40 * 4 } zs zm [.ref (B + 0), .int (nI p), .int (-1)].toArray zb zt zc 5 D B 14 (celM D B) Q T (setR M 6 rw1) 34 [(0, .ref (B + 0)), (1, .int (nI p)), (2, .int (-1)), (3, .int (nI i)), (4, .int (nI r))] [] := by
            intro n34
            induction n34 with
            | zero => intro r rw1 hI hn; exact absurd hn (Nat.not_lt_zero _)
            | succ n34 ih34 =>
              intro r rw1 hI34 hn34
              have hpw := pw_le hK4 hX4 (show i ≤ 3 by omega)
              refine g_iload F 4 (dk dtX7_plan_0 21 rfl) rfl ?_
              refine g_aload_n F 0 (dk dtX7_plan_0 22 rfl) rfl ?_
              refine g_callVi F (As := []) (st := [.int (nI r)]) cv_X7_160 (dk dtX7_plan_0 23 rfl) (by decide) (cm0 D B _ _) rfl rfl (Nat.le_of_ble_eq_true rfl) ⟨by decide, by decide⟩ (k_X7_events l D B _ _ K X ((congrFun (setR_ne _ _ (by decide)) _).trans hK) ((congrFun (setR_ne _ _ (by decide)) _).trans hX)) (fun r37 T37 M37 hp37 => ?_)
              obtain ⟨e1, e2, e3⟩ := hp37
              replace e1 := e1.symm; replace e2 := e2.symm; replace e3 := e3.symm; subst e1; subst e2; subst e3
              refine g_iload_n F 3 (dk dtX7_plan_0 24 rfl) rfl ?_
              refine g_callSi F (As := [.int (nI (K * X)), .int (nI i)]) (st := [.int (nI r)]) cs_X7_163 (dk dtX7_plan_0 25 rfl) rfl rfl (Nat.le_of_ble_eq_true rfl) ⟨by decide, by decide⟩ (k_X7_power l D B _ _ (K * X) i (by omega)) (fun r41 T41 M41 hp41 => ?_)
              obtain ⟨e1, e2, e3⟩ := hp41
              replace e1 := e1.symm; replace e2 := e2.symm; replace e3 := e3.symm; subst e1; subst e2; subst e3
              refine g_icmp_geN F 96 (dk dtX7_plan_0 26 rfl) (by decide) (by omega) (by omega) (fun c44 => ?_) (fun c44 => ?_)
              · -- taken at 44
                refine g_iinc F 3 (nI (i + 1)) [(3, .int (nI (i + 1))), (0, .ref (B + 0)), (1, .int (nI p)), (2, .int (-1)), (4, .int (nI r))] (dk dtX7_plan_0 53 rfl) rfl (nI_1 _) (by decide) rfl ?_
                refine g_goto F 26 (dk dtX7_plan_0 54 rfl) (by decide) ?_
                refine g_sub [1, 2, 3, 0] (L1 := [(0, .ref (B + 0)), (1, .int (nI p)), (2, .int (-1)), (3, .int (nI (i + 1)))]) rfl ?_
                exact ih26 (i + 1) rw1 ⟨by omega, fun n1 h1 r1 h2 => by
                  rcases Nat.lt_or_ge n1 i with h3 | h3
                  · exact hI26.2 n1 h3 r1 h2
                  · obtain rfl : i = n1 := by omega
                    exact hI34.2 r1 (by omega)⟩ (by omega)
              · -- not taken at 44
                refine g_aload_n F 0 (dk dtX7_plan_0 27 rfl) rfl ?_
                refine g_iload F 4 (dk dtX7_plan_0 28 rfl) rfl ?_
                refine g_iload_n F 3 (dk dtX7_plan_0 29 rfl) rfl ?_
                refine g_callVi F (As := [.int (nI r), .int (nI i)]) (st := []) cv_X7_170 (dk dtX7_plan_0 30 rfl) (by decide) (cm0 D B _ _) rfl rfl (Nat.le_of_ble_eq_true rfl) ⟨by decide, by decide⟩ (k_X7_mayorByR l D B _ _ K X (M 3) (M 2 0) (M 5) (setR_ne _ _ (by decide)) (congrFun (setR_ne _ _ (by decide)) 0) (setR_ne _ _ (by decide)) hK ((congrFun (setR_ne _ _ (by decide)) _).trans hX) hK1 hK4 hX1 hX4 P ((congrFun (setR_ne _ _ (by decide)) _).trans hP) hP5 hW r i (by omega) (by omega)) (fun r51 T51 M51 hp51 => ?_)
                obtain ⟨e1, e2, e3⟩ := hp51
                replace e1 := e1.symm; replace e2 := e2.symm; replace e3 := e3.symm; subst e1; subst e2; subst e3
                refine g_iload_n F 1 (dk dtX7_plan_0 31 rfl) rfl ?_
                refine g_icmp_ne F 90 (dk dtX7_plan_0 32 rfl) (by decide) (fun c55 => ?_) (fun c55 => ?_)
                · -- taken at 55
                  refine g_iinc F 4 (nI (r + 1)) [(4, .int (nI (r + 1))), (0, .ref (B + 0)), (1, .int (nI p)), (2, .int (-1)), (3, .int (nI i))] (dk dtX7_plan_0 51 rfl) rfl (nI_1 _) (by decide) rfl ?_
                  refine g_goto F 34 (dk dtX7_plan_0 52 rfl) (by decide) ?_
                  refine g_sub [1, 2, 3, 4, 0] (L1 := [(0, .ref (B + 0)), (1, .int (nI p)), (2, .int (-1)), (3, .int (nI i)), (4, .int (nI (r + 1)))]) rfl ?_
                  refine g_mem (setR_setR _ _ _ _) ?_
                  exact ih34 (r + 1) _ ⟨by omega, fun r1 h1 => by
                    rcases Nat.lt_or_ge r1 r with h3 | h3
                    · exact hI34.2 r1 h3
                    · obtain rfl : r = r1 := by omega
                      exact c55⟩ (by omega)
                · -- not taken at 55
                  refine g_iload_n F 2 (dk dtX7_plan_0 33 rfl) rfl ?_
                  refine g_iconst F (-1) (dk dtX7_plan_0 34 rfl) (by decide) ?_
                  refine g_icmp_ne F 67 (dk dtX7_plan_0 35 rfl) (by decide) (fun c60 => ?_) (fun c60 => ?_)
                  · -- taken at 60
                    exact absurd rfl c60
                  · -- not taken at 60
                    refine g_iload_n F 3 (dk dtX7_plan_0 36 rfl) rfl ?_
                    refine g_goto F 89 (dk dtX7_plan_0 37 rfl) (by decide) ?_
                    refine g_iret (F := F) hQ (dk dtX7_plan_0 50 rfl) ?_
                    refine ⟨Or.inl ⟨i, r, by omega, by omega, c55, hI26.2, hI34.2, rfl⟩, rfl, fun i h6 _ => by rw [setR_ne _ _ h6, setR_ne _ _ h6]⟩
          refine g_sub [1, 2, 3, 4, 0] (L1 := [(0, .ref (B + 0)), (1, .int (nI p)), (2, .int (-1)), (3, .int (nI i)), (4, .int (nI 0))]) rfl ?_
          have hpw := pw_le hK4 hX4 (show i ≤ 3 by omega)
          exact lp34 ((K * X) ^ i + 1) 0 rw ⟨by omega, fun r1 h => absurd h (Nat.not_lt_zero _)⟩ (by omega)
    refine g_sub [1, 2, 3, 0] (L1 := [(0, .ref (B + 0)), (1, .int (nI p)), (2, .int (-1)), (3, .int (nI 0))]) rfl ?_
    exact g_mem (setR_same M 6).symm (lp26 5 0 (M 6) ⟨by omega, fun n1 h => absurd h (Nat.not_lt_zero _)⟩ (by omega))
  · -- not taken at 19
    exact absurd (by decide) c19
set_option maxRecDepth 100000 in
set_option maxHeartbeats 4000000 in
theorem k_X7_plan (l : Launch) (D : DX) (B : Nat) (T : Int64) (M : Mem) (h0 : M 0 0 = nI 0) (K X : Nat) (hK : M 2 0 = nI K) (hX : M 2 1 = nI X) (hK1 : 1 ≤ K) (hK4 : K ≤ 4) (hX1 : 1 ≤ X) (hX4 : X ≤ 4) (P : Nat) (hP : M 2 2 = nI P) (hP5 : P ≤ 5) (hW : WR (M 5)) (p : Nat) (hp : p < P) (k : Nat) (hk : k < 3) : Ci l D B 14 (celM D B) yX7_plan cX7_plan 5 (some .int) 4 [.ref (B + 0), .int (nI p), .int (nI k)] T M (fun rz T1 M1 => plQ (K * X) (fun r n => moR (mbR (M 3) (M 2 0) K X P (M 5) r n n)) (nI p) (fun n r => if k < n then nI (saE X (evi (K * X) r n k)) else -9) rz ∧ T1 = T ∧ Sm M M1) := by
  refine g_entryi (L := [(0, .ref (B + 0)), (1, .int (nI p)), (2, .int (nI k))]) (by decide) (Nat.le_of_ble_eq_true rfl) rfl ?_
  intro zp ze zs zm zb zt zc Q F hQ
  refine g_aload_n F 0 (dk dtX7_plan_0 0 rfl) rfl ?_
  refine g_iconst F (nI 0) (dk dtX7_plan_0 1 rfl) (by decide) ?_
  refine g_put F fa_X7_56 (dk dtX7_plan_0 2 rfl) (by decide) (cm0 D B _ _) (Nat.le_of_ble_eq_true rfl) rfl rfl ((cm0 D B _ _).trans st_Mod_0) ?_
  refine g_mem (up2_same h0) ?_
  refine g_aload_n F 0 (dk dtX7_plan_0 3 rfl) rfl ?_
  refine g_iload_n F 1 (dk dtX7_plan_0 4 rfl) rfl ?_
  refine g_callVi F (As := [.int (nI p)]) (st := []) cv_X7_129 (dk dtX7_plan_0 5 rfl) (by decide) (cm0 D B _ _) rfl rfl (Nat.le_of_ble_eq_true rfl) ⟨by decide, by decide⟩ (k_X7_isOne l D B _ _ _ P hP (by omega)) (fun r7 T7 M7 hp7 => ?_)
  obtain ⟨e1, e2, e3⟩ := hp7
  replace e1 := e1.symm; replace e2 := e2.symm; replace e3 := e3.symm; subst e1; subst e2; subst e3
  refine g_if_eqB F 22 (dk dtX7_plan_0 6 rfl) (by decide) (fun c => absurd (inR_nI (by omega)) c) (fun _ => ?_)
  refine g_iload_n F 2 (dk dtX7_plan_0 7 rfl) rfl ?_
  refine g_iconst F (-1) (dk dtX7_plan_0 8 rfl) (by decide) ?_
  refine g_iconst F (nI 2) (dk dtX7_plan_0 9 rfl) (by decide) ?_
  refine g_callSi F (As := [.int (nI k), .int (-1), .int (nI 2)]) (st := []) cs_X7_60 (dk dtX7_plan_0 10 rfl) rfl rfl (Nat.le_of_ble_eq_true rfl) ⟨by decide, by decide⟩ (k_X7_in l D B _ _ _ _ _) (fun r16 T16 M16 hp16 => ?_)
  obtain ⟨e1, e2, e3⟩ := hp16
  replace e1 := e1.symm; replace e2 := e2.symm; replace e3 := e3.symm; subst e1; subst e2; subst e3
  refine g_if_neB F 24 (dk dtX7_plan_0 11 rfl) (by decide) (fun c19 => ?_) (fun c19 => ?_)
  · -- taken at 19
    refine g_iconst F (nI 0) (dk dtX7_plan_0 14 rfl) (by decide) ?_
    refine g_istore_n F [(3, .int (nI 0)), (0, .ref (B + 0)), (1, .int (nI p)), (2, .int (nI k))] (dk dtX7_plan_0 15 rfl) (by decide) rfl ?_
    have lp26 : ∀ (fz : Nat) (i : Nat) (rw : Nat → Int32), (i ≤ 4 ∧ ∀ n1, n1 < i → ∀ r1, r1 < (K * X) ^ n1 → ¬ moR (mbR (M 3) (M 2 0) K X P (M 5) r1 n1 n1) = nI p) → (4 - i) < fz → G zp l ze { frames := 4, cells := 0, slots := 0, locals := 40 * 4 } zs zm [.ref (B + 0), .int (nI p), .int (nI k)].toArray zb zt zc 5 D B 14 (celM D B) Q T (setR M 6 rw) 26 [(0, .ref (B + 0)), (1, .int (nI p)), (2, .int (nI k)), (3, .int (nI i))] [] := by
      intro n26
      induction n26 with
      | zero => intro i rw hI hn; exact absurd hn (Nat.not_lt_zero _)
      | succ n26 ih26 =>
        intro i rw hI26 hn26
        refine g_iload_n F 3 (dk dtX7_plan_0 16 rfl) rfl ?_
        refine g_iconst F (nI 3) (dk dtX7_plan_0 17 rfl) (by decide) ?_
        refine g_icmp_gtN F 102 (dk dtX7_plan_0 18 rfl) (by decide) (by omega) (by omega) (fun c28 => ?_) (fun c28 => ?_)
        · -- taken at 28
          obtain rfl : 4 = i := by omega
          refine g_bipush F (-9) (dk dtX7_plan_0 55 rfl) (by decide) ?_
          refine g_iret (F := F) hQ (dk dtX7_plan_0 56 rfl) ?_
          refine ⟨Or.inr ⟨fun n hn r1 hr1 => hI26.2 n (by omega) r1 hr1, rfl⟩, rfl, fun i h6 _ => by rw [setR_ne _ _ h6]⟩
        · -- not taken at 28
          refine g_iconst F (nI 0) (dk dtX7_plan_0 19 rfl) (by decide) ?_
          refine g_istore F [(4, .int (nI 0)), (0, .ref (B + 0)), (1, .int (nI p)), (2, .int (nI k)), (3, .int (nI i))] (dk dtX7_plan_0 20 rfl) (by decide) rfl ?_
          have lp34 : ∀ (fz : Nat) (r : Nat) (rw1 : Nat → Int32), (r ≤ (K * X) ^ i ∧ ∀ r1, r1 < r → ¬ moR (mbR (M 3) (M 2 0) K X P (M 5) r1 i i) = nI p) → ((K * X) ^ i - r) < fz → G zp l ze { frames := 4, cells := 0, slots := 0, locals := 40 * 4 } zs zm [.ref (B + 0), .int (nI p), .int (nI k)].toArray zb zt zc 5 D B 14 (celM D B) Q T (setR M 6 rw1) 34 [(0, .ref (B + 0)), (1, .int (nI p)), (2, .int (nI k)), (3, .int (nI i)), (4, .int (nI r))] [] := by
            intro n34
            induction n34 with
            | zero => intro r rw1 hI hn; exact absurd hn (Nat.not_lt_zero _)
            | succ n34 ih34 =>
              intro r rw1 hI34 hn34
              have hpw := pw_le hK4 hX4 (show i ≤ 3 by omega)
              refine g_iload F 4 (dk dtX7_plan_0 21 rfl) rfl ?_
              refine g_aload_n F 0 (dk dtX7_plan_0 22 rfl) rfl ?_
              refine g_callVi F (As := []) (st := [.int (nI r)]) cv_X7_160 (dk dtX7_plan_0 23 rfl) (by decide) (cm0 D B _ _) rfl rfl (Nat.le_of_ble_eq_true rfl) ⟨by decide, by decide⟩ (k_X7_events l D B _ _ K X ((congrFun (setR_ne _ _ (by decide)) _).trans hK) ((congrFun (setR_ne _ _ (by decide)) _).trans hX)) (fun r37 T37 M37 hp37 => ?_)
              obtain ⟨e1, e2, e3⟩ := hp37
              replace e1 := e1.symm; replace e2 := e2.symm; replace e3 := e3.symm; subst e1; subst e2; subst e3
              refine g_iload_n F 3 (dk dtX7_plan_0 24 rfl) rfl ?_
              refine g_callSi F (As := [.int (nI (K * X)), .int (nI i)]) (st := [.int (nI r)]) cs_X7_163 (dk dtX7_plan_0 25 rfl) rfl rfl (Nat.le_of_ble_eq_true rfl) ⟨by decide, by decide⟩ (k_X7_power l D B _ _ (K * X) i (by omega)) (fun r41 T41 M41 hp41 => ?_)
              obtain ⟨e1, e2, e3⟩ := hp41
              replace e1 := e1.symm; replace e2 := e2.symm; replace e3 := e3.symm; subst e1; subst e2; subst e3
              refine g_icmp_geN F 96 (dk dtX7_plan_0 26 rfl) (by decide) (by omega) (by omega) (fun c44 => ?_) (fun c44 => ?_)
              · -- taken at 44
                refine g_iinc F 3 (nI (i + 1)) [(3, .int (nI (i + 1))), (0, .ref (B + 0)), (1, .int (nI p)), (2, .int (nI k)), (4, .int (nI r))] (dk dtX7_plan_0 53 rfl) rfl (nI_1 _) (by decide) rfl ?_
                refine g_goto F 26 (dk dtX7_plan_0 54 rfl) (by decide) ?_
                refine g_sub [1, 2, 3, 0] (L1 := [(0, .ref (B + 0)), (1, .int (nI p)), (2, .int (nI k)), (3, .int (nI (i + 1)))]) rfl ?_
                exact ih26 (i + 1) rw1 ⟨by omega, fun n1 h1 r1 h2 => by
                  rcases Nat.lt_or_ge n1 i with h3 | h3
                  · exact hI26.2 n1 h3 r1 h2
                  · obtain rfl : i = n1 := by omega
                    exact hI34.2 r1 (by omega)⟩ (by omega)
              · -- not taken at 44
                refine g_aload_n F 0 (dk dtX7_plan_0 27 rfl) rfl ?_
                refine g_iload F 4 (dk dtX7_plan_0 28 rfl) rfl ?_
                refine g_iload_n F 3 (dk dtX7_plan_0 29 rfl) rfl ?_
                refine g_callVi F (As := [.int (nI r), .int (nI i)]) (st := []) cv_X7_170 (dk dtX7_plan_0 30 rfl) (by decide) (cm0 D B _ _) rfl rfl (Nat.le_of_ble_eq_true rfl) ⟨by decide, by decide⟩ (k_X7_mayorByR l D B _ _ K X (M 3) (M 2 0) (M 5) (setR_ne _ _ (by decide)) (congrFun (setR_ne _ _ (by decide)) 0) (setR_ne _ _ (by decide)) hK ((congrFun (setR_ne _ _ (by decide)) _).trans hX) hK1 hK4 hX1 hX4 P ((congrFun (setR_ne _ _ (by decide)) _).trans hP) hP5 hW r i (by omega) (by omega)) (fun r51 T51 M51 hp51 => ?_)
                obtain ⟨e1, e2, e3⟩ := hp51
                replace e1 := e1.symm; replace e2 := e2.symm; replace e3 := e3.symm; subst e1; subst e2; subst e3
                refine g_iload_n F 1 (dk dtX7_plan_0 31 rfl) rfl ?_
                refine g_icmp_ne F 90 (dk dtX7_plan_0 32 rfl) (by decide) (fun c55 => ?_) (fun c55 => ?_)
                · -- taken at 55
                  refine g_iinc F 4 (nI (r + 1)) [(4, .int (nI (r + 1))), (0, .ref (B + 0)), (1, .int (nI p)), (2, .int (nI k)), (3, .int (nI i))] (dk dtX7_plan_0 51 rfl) rfl (nI_1 _) (by decide) rfl ?_
                  refine g_goto F 34 (dk dtX7_plan_0 52 rfl) (by decide) ?_
                  refine g_sub [1, 2, 3, 4, 0] (L1 := [(0, .ref (B + 0)), (1, .int (nI p)), (2, .int (nI k)), (3, .int (nI i)), (4, .int (nI (r + 1)))]) rfl ?_
                  refine g_mem (setR_setR _ _ _ _) ?_
                  exact ih34 (r + 1) _ ⟨by omega, fun r1 h1 => by
                    rcases Nat.lt_or_ge r1 r with h3 | h3
                    · exact hI34.2 r1 h3
                    · obtain rfl : r = r1 := by omega
                      exact c55⟩ (by omega)
                · -- not taken at 55
                  refine g_iload_n F 2 (dk dtX7_plan_0 33 rfl) rfl ?_
                  refine g_iconst F (-1) (dk dtX7_plan_0 34 rfl) (by decide) ?_
                  refine g_icmp_ne F 67 (dk dtX7_plan_0 35 rfl) (by decide) (fun c60 => ?_) (fun c60 => ?_)
                  · -- taken at 60
                    refine g_iload_n F 2 (dk dtX7_plan_0 38 rfl) rfl ?_
                    refine g_iload_n F 3 (dk dtX7_plan_0 39 rfl) rfl ?_
                    refine g_icmp_geN F 87 (dk dtX7_plan_0 40 rfl) (by decide) (by omega) (by omega) (fun c69 => ?_) (fun c69 => ?_)
                    · -- taken at 69
                      refine g_bipush F (-9) (dk dtX7_plan_0 49 rfl) (by decide) ?_
                      refine g_iret (F := F) hQ (dk dtX7_plan_0 50 rfl) ?_
                      refine ⟨Or.inl ⟨i, r, by omega, by omega, c55, hI26.2, hI34.2, (if_neg (by omega)).symm⟩, rfl, fun i h6 _ => by rw [setR_ne _ _ h6, setR_ne _ _ h6]⟩
                    · -- not taken at 69
                      refine g_aload_n F 0 (dk dtX7_plan_0 41 rfl) rfl ?_
                      refine g_aload_n F 0 (dk dtX7_plan_0 42 rfl) rfl ?_
                      refine g_iload F 4 (dk dtX7_plan_0 43 rfl) rfl ?_
                      refine g_iload_n F 3 (dk dtX7_plan_0 44 rfl) rfl ?_
                      refine g_iload_n F 2 (dk dtX7_plan_0 45 rfl) rfl ?_
                      refine g_callVi F (As := [.int (nI r), .int (nI i), .int (nI k)]) (st := [.ref (B + 0)]) cv_X7_166 (dk dtX7_plan_0 46 rfl) (by decide) (cm0 D B _ _) rfl rfl (Nat.le_of_ble_eq_true rfl) ⟨by decide, by decide⟩ (k_X7_eventAt l D B _ _ K X ((congrFun (setR_ne _ _ (by decide)) _).trans ((congrFun (setR_ne _ _ (by decide)) _).trans hK)) ((congrFun (setR_ne _ _ (by decide)) _).trans ((congrFun (setR_ne _ _ (by decide)) _).trans hX)) hK1 hK4 hX1 hX4 r i k (by omega) (by omega) (by omega)) (fun r78 T78 M78 hp78 => ?_)
                      obtain ⟨e1, e2, e3⟩ := hp78
                      replace e1 := e1.symm; replace e2 := e2.symm; replace e3 := e3.symm; subst e1; subst e2; subst e3
                      have hel := evi_lt hK1 hX1 r i k (X := X) (K := K)
                      have hkx := kx_lt hK4 hX4
                      refine g_callVi F (As := [.int (nI (evi (K * X) r i k))]) (st := []) cv_X7_173 (dk dtX7_plan_0 47 rfl) (by decide) (cm0 D B _ _) rfl rfl (Nat.le_of_ble_eq_true rfl) ⟨by decide, by decide⟩ (k_X7_saysOf l D B _ _ X ((congrFun (setR_ne _ _ (by decide)) _).trans ((congrFun (setR_ne _ _ (by decide)) _).trans hX)) hX1 hX4 (evi (K * X) r i k) (by omega)) (fun r81 T81 M81 hp81 => ?_)
                      obtain ⟨e1, e2, e3⟩ := hp81
                      replace e1 := e1.symm; replace e2 := e2.symm; replace e3 := e3.symm; subst e1; subst e2; subst e3
                      refine g_goto F 89 (dk dtX7_plan_0 48 rfl) (by decide) ?_
                      refine g_iret (F := F) hQ (dk dtX7_plan_0 50 rfl) ?_
                      refine ⟨Or.inl ⟨i, r, by omega, by omega, c55, hI26.2, hI34.2, (if_pos (by omega)).symm⟩, rfl, fun i h6 _ => by rw [setR_ne _ _ h6, setR_ne _ _ h6]⟩
                  · -- not taken at 60
                    exact absurd c60 (nI_m1 hk)
          refine g_sub [1, 2, 3, 4, 0] (L1 := [(0, .ref (B + 0)), (1, .int (nI p)), (2, .int (nI k)), (3, .int (nI i)), (4, .int (nI 0))]) rfl ?_
          have hpw := pw_le hK4 hX4 (show i ≤ 3 by omega)
          exact lp34 ((K * X) ^ i + 1) 0 rw ⟨by omega, fun r1 h => absurd h (Nat.not_lt_zero _)⟩ (by omega)
    refine g_sub [1, 2, 3, 0] (L1 := [(0, .ref (B + 0)), (1, .int (nI p)), (2, .int (nI k)), (3, .int (nI 0))]) rfl ?_
    exact g_mem (setR_same M 6).symm (lp26 5 0 (M 6) ⟨by omega, fun n1 h => absurd h (Nat.not_lt_zero _)⟩ (by omega))
  · -- not taken at 19
    exact absurd (in_m1 hk) c19
set_option maxRecDepth 100000 in
set_option maxHeartbeats 4000000 in
theorem k_X7_plan_bad (l : Launch) (D : DX) (B : Nat) (T : Int64) (M : Mem) (h0 : M 0 0 = nI 0) (P : Nat) (hP : M 2 2 = nI P) (hP5 : P ≤ 5) (p k : Int32) (hb : ¬ (inR p P ∧ (¬ k < -1 ∧ ¬ nI 2 < k))) : Ci l D B 14 (celM D B) yX7_plan cX7_plan 5 (some .int) 4 [.ref (B + 0), .int p, .int k] T M (fun rz T1 M1 => rz = (-1) ∧ T1 = T ∧ M1 = M) := by
  refine g_entryi (L := [(0, .ref (B + 0)), (1, .int p), (2, .int k)]) (by decide) (Nat.le_of_ble_eq_true rfl) rfl ?_
  intro zp ze zs zm zb zt zc Q F hQ
  refine g_aload_n F 0 (dk dtX7_plan_0 0 rfl) rfl ?_
  refine g_iconst F (nI 0) (dk dtX7_plan_0 1 rfl) (by decide) ?_
  refine g_put F fa_X7_56 (dk dtX7_plan_0 2 rfl) (by decide) (cm0 D B _ _) (Nat.le_of_ble_eq_true rfl) rfl rfl ((cm0 D B _ _).trans st_Mod_0) ?_
  refine g_mem (up2_same h0) ?_
  refine g_aload_n F 0 (dk dtX7_plan_0 3 rfl) rfl ?_
  refine g_iload_n F 1 (dk dtX7_plan_0 4 rfl) rfl ?_
  refine g_callVi F (As := [.int p]) (st := []) cv_X7_129 (dk dtX7_plan_0 5 rfl) (by decide) (cm0 D B _ _) rfl rfl (Nat.le_of_ble_eq_true rfl) ⟨by decide, by decide⟩ (k_X7_isOne l D B _ _ _ P hP (by omega)) (fun r7 T7 M7 hp7 => ?_)
  obtain ⟨e1, e2, e3⟩ := hp7
  replace e1 := e1.symm; replace e2 := e2.symm; replace e3 := e3.symm; subst e1; subst e2; subst e3
  refine g_if_eqB F 22 (dk dtX7_plan_0 6 rfl) (by decide) (fun c10 => ?_) (fun c10 => ?_)
  · -- taken at 10
    refine g_iconst F (-1) (dk dtX7_plan_0 12 rfl) (by decide) ?_
    refine g_iret (F := F) hQ (dk dtX7_plan_0 13 rfl) ?_
    exact ⟨rfl, rfl, rfl⟩
  · -- not taken at 10
    refine g_iload_n F 2 (dk dtX7_plan_0 7 rfl) rfl ?_
    refine g_iconst F (-1) (dk dtX7_plan_0 8 rfl) (by decide) ?_
    refine g_iconst F (nI 2) (dk dtX7_plan_0 9 rfl) (by decide) ?_
    refine g_callSi F (As := [.int k, .int (-1), .int (nI 2)]) (st := []) cs_X7_60 (dk dtX7_plan_0 10 rfl) rfl rfl (Nat.le_of_ble_eq_true rfl) ⟨by decide, by decide⟩ (k_X7_in l D B _ _ _ _ _) (fun r16 T16 M16 hp16 => ?_)
    obtain ⟨e1, e2, e3⟩ := hp16
    replace e1 := e1.symm; replace e2 := e2.symm; replace e3 := e3.symm; subst e1; subst e2; subst e3
    refine g_if_neB F 24 (dk dtX7_plan_0 11 rfl) (by decide) (fun c19 => ?_) (fun c19 => ?_)
    · -- taken at 19
      exact absurd ⟨c10, c19⟩ hb
    · -- not taken at 19
      refine g_iconst F (-1) (dk dtX7_plan_0 12 rfl) (by decide) ?_
      refine g_iret (F := F) hQ (dk dtX7_plan_0 13 rfl) ?_
      exact ⟨rfl, rfl, rfl⟩
set_option maxRecDepth 100000 in
set_option maxHeartbeats 4000000 in
theorem k_X7_gcd (l : Launch) (D : DX) (B : Nat) (T : Int64) (M : Mem) (a b : Nat) (ha : a < 2 ^ 31) (hb : b < 2 ^ 31) : Ci l D B 14 (celM D B) yX7_gcd cX7_gcd 5 (some .int) 0 [.int (nI a), .int (nI b)] T M (fun rz T1 M1 => rz = (nI (Nat.gcd a b)) ∧ T1 = T ∧ M1 = M) := by
  refine g_entryi (L := [(0, .int (nI a)), (1, .int (nI b))]) (by decide) (Nat.le_of_ble_eq_true rfl) rfl ?_
  intro zp ze zs zm zb zt zc Q F hQ
  refine g_iload_n F 0 (dk dtX7_gcd_0 0 rfl) rfl ?_
  refine g_istore_n F [(2, .int (nI a)), (0, .int (nI a)), (1, .int (nI b))] (dk dtX7_gcd_0 1 rfl) (by decide) rfl ?_
  refine g_iload_n F 2 (dk dtX7_gcd_0 2 rfl) rfl ?_
  refine g_istore_n F [(3, .int (nI b)), (2, .int (nI a)), (0, .int (nI a)), (1, .int (nI b))] (dk dtX7_gcd_0 3 rfl) (by decide) rfl ?_
  have lp4 : ∀ (fz : Nat) (u v : Nat), (u < 2 ^ 31 ∧ v < 2 ^ 31 ∧ Nat.gcd u v = Nat.gcd a b) → v < fz → G zp l ze { frames := 0, cells := 0, slots := 0, locals := 40 * 0 } zs zm [.int (nI a), .int (nI b)].toArray zb zt zc 5 D B 14 (celM D B) Q T M 4 [(0, .int (nI a)), (1, .int (nI b)), (2, .int (nI u)), (3, .int (nI v))] [] := by
    intro n4
    induction n4 with
    | zero => intro u v hI hn; exact absurd hn (Nat.not_lt_zero _)
    | succ n4 ih4 =>
      intro u v hI4 hn4
      refine g_iload_n F 3 (dk dtX7_gcd_0 4 rfl) rfl ?_
      refine g_if_eqN F 21 (dk dtX7_gcd_0 5 rfl) (by decide) (by omega) (fun c5 => ?_) (fun c5 => ?_)
      · -- taken at 5
        obtain rfl : 0 = v := by omega
        have hg := hI4.2.2
        rw [Nat.gcd_zero_right] at hg
        refine g_iload_n F 2 (dk dtX7_gcd_0 15 rfl) rfl ?_
        refine g_iret (F := F) hQ (dk dtX7_gcd_0 16 rfl) ?_
        exact ⟨congrArg nI hg, rfl, rfl⟩
      · -- not taken at 5
        refine g_iload_n F 2 (dk dtX7_gcd_0 6 rfl) rfl ?_
        refine g_iload_n F 3 (dk dtX7_gcd_0 7 rfl) rfl ?_
        refine g_iremN F (dk dtX7_gcd_0 8 rfl) (by omega) (by omega) (by omega) ?_
        refine g_istore F [(4, .int (nI (u % v))), (0, .int (nI a)), (1, .int (nI b)), (2, .int (nI u)), (3, .int (nI v))] (dk dtX7_gcd_0 9 rfl) (by decide) rfl ?_
        refine g_iload_n F 4 (dk dtX7_gcd_0 10 rfl) rfl ?_
        refine g_istore_n F [(2, .int (nI v)), (4, .int (nI (u % v))), (0, .int (nI a)), (1, .int (nI b)), (3, .int (nI v))] (dk dtX7_gcd_0 11 rfl) (by decide) rfl ?_
        refine g_iload F 1 (dk dtX7_gcd_0 12 rfl) rfl ?_
        refine g_istore_n F [(3, .int (nI (u % v))), (2, .int (nI v)), (4, .int (nI (u % v))), (0, .int (nI a)), (1, .int (nI b))] (dk dtX7_gcd_0 13 rfl) (by decide) rfl ?_
        refine g_goto F 4 (dk dtX7_gcd_0 14 rfl) (by decide) ?_
        refine g_sub [3, 4, 1, 0] (L1 := [(0, .int (nI a)), (1, .int (nI b)), (2, .int (nI v)), (3, .int (nI (u % v)))]) rfl ?_
        have hlt := Nat.mod_lt u (Nat.pos_of_ne_zero c5)
        exact ih4 v (u % v) ⟨by omega, by omega, by rw [← hI4.2.2, Nat.gcd_comm u v, Nat.gcd_rec v u, Nat.gcd_comm]⟩ (by omega)
  refine g_sub [2, 3, 1, 0] (L1 := [(0, .int (nI a)), (1, .int (nI b)), (2, .int (nI a)), (3, .int (nI b))]) rfl ?_
  exact lp4 (b + 1) a b ⟨ha, hb, rfl⟩ (by omega)
set_option maxRecDepth 100000 in
set_option maxHeartbeats 4000000 in
theorem k_X7_odds_0 (l : Launch) (D : DX) (B : Nat) (T : Int64) (M : Mem) (h0 : M 0 0 = nI 0) (P : Nat) (hP : M 2 2 = nI P) (hP5 : P ≤ 5) (K : Nat) (hK : M 2 0 = nI K) (hK1 : 1 ≤ K) (hK4 : K ≤ 4) (X : Nat) (hX : M 2 1 = nI X) (hX1 : 1 ≤ X) (hX4 : X ≤ 4) (hW : WR (M 5)) (p x n : Nat) (hp : p < P) (hx : x < X) (hn : n ≤ 4)  : Ci l D B 14 (celM D B) yX7_odds cX7_odds 10 (some .int) 3 [.ref (B + 0), .int (nI p), .int (nI x), .int (nI n), .int (nI 0)] T M (fun rz T1 M1 => rz = nI (odC (M 3) (M 2 0) K (nI x) P (M 5) n (nI p) (K ^ n) / Nat.gcd (odC (M 3) (M 2 0) K (nI x) P (M 5) n (nI p) (K ^ n)) (K ^ n)) ∧ T1 = T ∧ Sm M M1) := by
  have hkn := kn_le (K := K) (n := n) hK4 hn
  have hkp : 0 < K ^ n := Nat.pow_pos hK1
  refine g_entryi (L := [(0, .ref (B + 0)), (1, .int (nI p)), (2, .int (nI x)), (3, .int (nI n)), (4, .int (nI 0))]) (by decide) (Nat.le_of_ble_eq_true rfl) rfl ?_
  intro zp ze zs zm zb zt zc Q F hQ
  refine g_aload_n F 0 (dk dtX7_odds_0 0 rfl) rfl ?_
  refine g_iconst F (nI 0) (dk dtX7_odds_0 1 rfl) (by decide) ?_
  refine g_put F fa_X7_56 (dk dtX7_odds_0 2 rfl) (by decide) (cm0 D B _ _) (Nat.le_of_ble_eq_true rfl) rfl rfl ((cm0 D B _ _).trans st_Mod_0) ?_
  refine g_mem (up2_same h0) ?_
  refine g_aload_n F 0 (dk dtX7_odds_0 3 rfl) rfl ?_
  refine g_iload_n F 1 (dk dtX7_odds_0 4 rfl) rfl ?_
  refine g_callVi F (As := [.int (nI p)]) (st := []) cv_X7_129 (dk dtX7_odds_0 5 rfl) (by decide) (cm0 D B _ _) rfl rfl (Nat.le_of_ble_eq_true rfl) ⟨by decide, by decide⟩ (k_X7_isOne l D B _ _ _ P hP (by omega)) (fun r7 T7 M7 hp7 => ?_)
  obtain ⟨e1, e2, e3⟩ := hp7
  replace e1 := e1.symm; replace e2 := e2.symm; replace e3 := e3.symm; subst e1; subst e2; subst e3
  refine g_if_eqB F 40 (dk dtX7_odds_0 6 rfl) (by decide) (fun c => absurd (inR_nI (by omega)) c) (fun _ => ?_)
  refine g_aload_n F 0 (dk dtX7_odds_0 7 rfl) rfl ?_
  refine g_iload_n F 2 (dk dtX7_odds_0 8 rfl) rfl ?_
  refine g_callVi F (As := [.int (nI x)]) (st := []) cv_X7_151 (dk dtX7_odds_0 9 rfl) (by decide) (cm0 D B _ _) rfl rfl (Nat.le_of_ble_eq_true rfl) ⟨by decide, by decide⟩ (k_X7_isPlace l D B _ _ _ X hX (by omega)) (fun r15 T15 M15 hp15 => ?_)
  obtain ⟨e1, e2, e3⟩ := hp15
  replace e1 := e1.symm; replace e2 := e2.symm; replace e3 := e3.symm; subst e1; subst e2; subst e3
  refine g_if_eqB F 40 (dk dtX7_odds_0 10 rfl) (by decide) (fun c => absurd (inR_nI (by omega)) c) (fun _ => ?_)
  refine g_iload_n F 3 (dk dtX7_odds_0 11 rfl) rfl ?_
  refine g_iconst F (nI 0) (dk dtX7_odds_0 12 rfl) (by decide) ?_
  refine g_iconst F (nI 4) (dk dtX7_odds_0 13 rfl) (by decide) ?_
  refine g_callSi F (As := [.int (nI n), .int (nI 0), .int (nI 4)]) (st := []) cs_X7_60 (dk dtX7_odds_0 14 rfl) rfl rfl (Nat.le_of_ble_eq_true rfl) ⟨by decide, by decide⟩ (k_X7_inR l D B _ _ _ 4 (by decide)) (fun r24 T24 M24 hp24 => ?_)
  obtain ⟨e1, e2, e3⟩ := hp24
  replace e1 := e1.symm; replace e2 := e2.symm; replace e3 := e3.symm; subst e1; subst e2; subst e3
  refine g_if_eqB F 40 (dk dtX7_odds_0 15 rfl) (by decide) (fun c => absurd (inR_nI (by omega)) c) (fun _ => ?_)
  refine g_iload F 4 (dk dtX7_odds_0 16 rfl) rfl ?_
  refine g_iconst F (nI 0) (dk dtX7_odds_0 17 rfl) (by decide) ?_
  refine g_iconst F (nI 1) (dk dtX7_odds_0 18 rfl) (by decide) ?_
  refine g_callSi F (As := [.int (nI 0), .int (nI 0), .int (nI 1)]) (st := []) cs_X7_60 (dk dtX7_odds_0 19 rfl) rfl rfl (Nat.le_of_ble_eq_true rfl) ⟨by decide, by decide⟩ (k_X7_inR l D B _ _ _ 1 (by decide)) (fun r34 T34 M34 hp34 => ?_)
  obtain ⟨e1, e2, e3⟩ := hp34
  replace e1 := e1.symm; replace e2 := e2.symm; replace e3 := e3.symm; subst e1; subst e2; subst e3
  refine g_if_neB F 42 (dk dtX7_odds_0 20 rfl) (by decide) (fun _ => ?_) (fun c => absurd (inR_nI (by omega)) c)
  refine g_aload_n F 0 (dk dtX7_odds_0 23 rfl) rfl ?_
  refine g_get F fa_X7_13 (dk dtX7_odds_0 24 rfl) (by decide) (cm0 D B _ _) rfl ?_
  refine g_iconst F (nI 0) (dk dtX7_odds_0 25 rfl) (by decide) ?_
  refine g_iald F (0) (dk dtX7_odds_0 26 rfl) (by decide) (cm2 D B _ _) (by omega) (by decide) ?_
  refine g_top hK ?_
  refine g_iload_n F 3 (dk dtX7_odds_0 27 rfl) rfl ?_
  refine g_callSi F (As := [.int (nI K), .int (nI n)]) (st := []) cs_X7_163 (dk dtX7_odds_0 28 rfl) rfl rfl (Nat.le_of_ble_eq_true rfl) ⟨by decide, by decide⟩ (k_X7_power l D B _ _ K n (by omega)) (fun r49 T49 M49 hp49 => ?_)
  obtain ⟨e1, e2, e3⟩ := hp49
  replace e1 := e1.symm; replace e2 := e2.symm; replace e3 := e3.symm; subst e1; subst e2; subst e3
  refine g_istore F [(5, .int (nI (K ^ n))), (0, .ref (B + 0)), (1, .int (nI p)), (2, .int (nI x)), (3, .int (nI n)), (4, .int (nI 0))] (dk dtX7_odds_0 29 rfl) (by decide) rfl ?_
  refine g_iconst F (nI 0) (dk dtX7_odds_0 30 rfl) (by decide) ?_
  refine g_istore F [(6, .int (nI 0)), (5, .int (nI (K ^ n))), (0, .ref (B + 0)), (1, .int (nI p)), (2, .int (nI x)), (3, .int (nI n)), (4, .int (nI 0))] (dk dtX7_odds_0 31 rfl) (by decide) rfl ?_
  refine g_iconst F (nI 0) (dk dtX7_odds_0 32 rfl) (by decide) ?_
  refine g_istore F [(7, .int (nI 0)), (6, .int (nI 0)), (5, .int (nI (K ^ n))), (0, .ref (B + 0)), (1, .int (nI p)), (2, .int (nI x)), (3, .int (nI n)), (4, .int (nI 0))] (dk dtX7_odds_0 33 rfl) (by decide) rfl ?_
  have lp60 : ∀ (fz : Nat) (r : Nat) (rw : Nat → Int32), (r ≤ K ^ n) → (K ^ n - r) < fz → G zp l ze { frames := 3, cells := 0, slots := 0, locals := 40 * 3 } zs zm [.ref (B + 0), .int (nI p), .int (nI x), .int (nI n), .int (nI 0)].toArray zb zt zc 10 D B 14 (celM D B) Q T (setR M 6 rw) 60 [(0, .ref (B + 0)), (1, .int (nI p)), (2, .int (nI x)), (3, .int (nI n)), (4, .int (nI 0)), (5, .int (nI (K ^ n))), (6, .int (nI (odC (M 3) (M 2 0) K (nI x) P (M 5) n (nI p) r))), (7, .int (nI r))] [] := by
    intro n60
    induction n60 with
    | zero => intro r rw hI hn; exact absurd hn (Nat.not_lt_zero _)
    | succ n60 ih60 =>
      intro r rw hI60 hn60
      refine g_iload F 7 (dk dtX7_odds_0 34 rfl) rfl ?_
      refine g_iload F 5 (dk dtX7_odds_0 35 rfl) rfl ?_
      refine g_icmp_geN F 154 (dk dtX7_odds_0 36 rfl) (by decide) (by omega) (by omega) (fun c64 => ?_) (fun c64 => ?_)
      · -- taken at 64
        obtain rfl : (K ^ n) = r := by omega
        have hoc := odC_le (M 3) (M 2 0) K (nI x) P (M 5) n (nI p) (K ^ n)
        have hgp := Nat.gcd_pos_of_pos_right (odC (M 3) (M 2 0) K (nI x) P (M 5) n (nI p) (K ^ n)) hkp
        have hgl := Nat.le_of_dvd hkp (Nat.gcd_dvd_right (odC (M 3) (M 2 0) K (nI x) P (M 5) n (nI p) (K ^ n)) (K ^ n))
        refine g_iload F 6 (dk dtX7_odds_1 23 rfl) rfl ?_
        refine g_iload F 5 (dk dtX7_odds_1 24 rfl) rfl ?_
        refine g_callSi F (As := [.int (nI (odC (M 3) (M 2 0) K (nI x) P (M 5) n (nI p) (K ^ n))), .int (nI (K ^ n))]) (st := []) cs_X7_176 (dk dtX7_odds_1 25 rfl) rfl rfl (Nat.le_of_ble_eq_true rfl) ⟨by decide, by decide⟩ (k_X7_gcd l D B _ _ (odC (M 3) (M 2 0) K (nI x) P (M 5) n (nI p) (K ^ n)) (K ^ n) (by omega) (by omega)) (fun r158 T158 M158 hp158 => ?_)
        obtain ⟨e1, e2, e3⟩ := hp158
        replace e1 := e1.symm; replace e2 := e2.symm; replace e3 := e3.symm; subst e1; subst e2; subst e3
        refine g_istore F [(7, .int (nI (Nat.gcd (odC (M 3) (M 2 0) K (nI x) P (M 5) n (nI p) (K ^ n)) (K ^ n)))), (0, .ref (B + 0)), (1, .int (nI p)), (2, .int (nI x)), (3, .int (nI n)), (4, .int (nI 0)), (5, .int (nI (K ^ n))), (6, .int (nI (odC (M 3) (M 2 0) K (nI x) P (M 5) n (nI p) (K ^ n))))] (dk dtX7_odds_1 26 rfl) (by decide) rfl ?_
        refine g_iload F 5 (dk dtX7_odds_1 27 rfl) rfl ?_
        refine g_if_neN F 176 (dk dtX7_odds_1 28 rfl) (by decide) (by decide) (fun c => absurd c (by decide)) (fun _ => ?_)
        refine g_iload F 7 (dk dtX7_odds_1 29 rfl) rfl ?_
        refine g_iload F 0 (dk dtX7_odds_1 30 rfl) rfl ?_
        refine g_idivN F (dk dtX7_odds_1 31 rfl) (by omega) (by omega) (by omega) ?_
        refine g_goto F 181 (dk dtX7_odds_1 32 rfl) (by decide) ?_
        refine g_iret (F := F) hQ (dk dtX7_odds_1 36 rfl) ?_
        exact ⟨rfl, rfl, fun i h6 _ => by rw [setR_ne _ _ h6]⟩
      · -- not taken at 64
        refine g_aload_n F 0 (dk dtX7_odds_0 37 rfl) rfl ?_
        refine g_get F fa_X7_22 (dk dtX7_odds_0 38 rfl) (by decide) (cm0 D B _ _) rfl ?_
        refine g_aload_n F 0 (dk dtX7_odds_0 39 rfl) rfl ?_
        refine g_get F fa_X7_25 (dk dtX7_odds_0 40 rfl) (by decide) (cm0 D B _ _) rfl ?_
        refine g_callSv F (As := [.ref (B + 5), .ref (B + 6)]) (st := []) cs_X7_115 (dk dtX7_odds_0 41 rfl) rfl rfl (Nat.le_of_ble_eq_true rfl) ⟨by decide, by decide⟩ (k_X7_copies l D B _ _ 5 6 (isRow5 D B) (isRow6 D B) (by decide)) (fun T75 M75 hp75 => ?_)
        obtain ⟨e2, e3⟩ := hp75
        replace e2 := e2.symm; replace e3 := e3.symm; subst e2; subst e3
        refine g_iload F 7 (dk dtX7_odds_0 42 rfl) rfl ?_
        refine g_istore F [(8, .int (nI r)), (0, .ref (B + 0)), (1, .int (nI p)), (2, .int (nI x)), (3, .int (nI n)), (4, .int (nI 0)), (5, .int (nI (K ^ n))), (6, .int (nI (odC (M 3) (M 2 0) K (nI x) P (M 5) n (nI p) r))), (7, .int (nI r))] (dk dtX7_odds_0 43 rfl) (by decide) rfl ?_
        refine g_iconst F (nI 0) (dk dtX7_odds_0 44 rfl) (by decide) ?_
        refine g_istore F [(9, .int (nI 0)), (8, .int (nI r)), (0, .ref (B + 0)), (1, .int (nI p)), (2, .int (nI x)), (3, .int (nI n)), (4, .int (nI 0)), (5, .int (nI (K ^ n))), (6, .int (nI (odC (M 3) (M 2 0) K (nI x) P (M 5) n (nI p) r))), (7, .int (nI r))] (dk dtX7_odds_0 45 rfl) (by decide) rfl ?_
        have lp85 : ∀ (fz : Nat) (i : Nat), i ≤ n → (n - i) < fz → G zp l ze { frames := 3, cells := 0, slots := 0, locals := 40 * 3 } zs zm [.ref (B + 0), .int (nI p), .int (nI x), .int (nI n), .int (nI 0)].toArray zb zt zc 10 D B 14 (celM D B) Q T (setR M 6 (odR (M 3) (M 2 0) K (nI x) P (M 5) r i)) 85 [(0, .ref (B + 0)), (1, .int (nI p)), (2, .int (nI x)), (3, .int (nI n)), (4, .int (nI 0)), (5, .int (nI (K ^ n))), (6, .int (nI (odC (M 3) (M 2 0) K (nI x) P (M 5) n (nI p) r))), (7, .int (nI r)), (8, .int (nI (r / K ^ i))), (9, .int (nI i))] [] := by
          intro n85
          induction n85 with
          | zero => intro i hI hn; exact absurd hn (Nat.not_lt_zero _)
          | succ n85 ih85 =>
            intro i hI85 hn85
            have hrd : r / K ^ i ≤ r := Nat.div_le_self _ _
            have hrm := Nat.mod_lt (r / K ^ i) (show 0 < K by omega)
            refine g_iload F 9 (dk dtX7_odds_0 46 rfl) rfl ?_
            refine g_iload_n F 3 (dk dtX7_odds_0 47 rfl) rfl ?_
            refine g_icmp_geN F 127 (dk dtX7_odds_0 48 rfl) (by decide) (by omega) (by omega) (fun c88 => ?_) (fun c88 => ?_)
            · -- taken at 88
              obtain rfl : n = i := by omega
              refine g_iload F 6 (dk dtX7_odds_1 10 rfl) rfl ?_
              refine g_aload_n F 0 (dk dtX7_odds_1 11 rfl) rfl ?_
              refine g_get F fa_X7_25 (dk dtX7_odds_1 12 rfl) (by decide) (cm0 D B _ _) rfl ?_
              refine g_callSi F (As := [.ref (B + 6)]) (st := [.int (nI (odC (M 3) (M 2 0) K (nI x) P (M 5) n (nI p) r))]) cs_X7_140 (dk dtX7_odds_1 13 rfl) rfl rfl (Nat.le_of_ble_eq_true rfl) ⟨by decide, by decide⟩ (k_X7_mayorOfR l D B _ _ 6 (isRow6 D B) (odR (M 3) (M 2 0) K (nI x) P (M 5) r n) (setR_self _ _ _)) (fun r133 T133 M133 hp133 => ?_)
              obtain ⟨e1, e2, e3⟩ := hp133
              replace e1 := e1.symm; replace e2 := e2.symm; replace e3 := e3.symm; subst e1; subst e2; subst e3
              refine g_iload_n F 1 (dk dtX7_odds_1 14 rfl) rfl ?_
              refine g_icmp_ne F 144 (dk dtX7_odds_1 15 rfl) (by decide) (fun c137 => ?_) (fun c137 => ?_)
              · -- taken at 137
                refine g_iconst F (nI 0) (dk dtX7_odds_1 18 rfl) (by decide) ?_
                refine g_iaddN F (dk dtX7_odds_1 19 rfl) ?_
                refine g_istore F [(6, .int (nI ((odC (M 3) (M 2 0) K (nI x) P (M 5) n (nI p) r) + 0))), (0, .ref (B + 0)), (1, .int (nI p)), (2, .int (nI x)), (3, .int (nI n)), (4, .int (nI 0)), (5, .int (nI (K ^ n))), (7, .int (nI r)), (8, .int (nI (r / K ^ n))), (9, .int (nI n))] (dk dtX7_odds_1 20 rfl) (by decide) rfl ?_
                refine g_iinc F 7 (nI (r + 1)) [(7, .int (nI (r + 1))), (6, .int (nI ((odC (M 3) (M 2 0) K (nI x) P (M 5) n (nI p) r) + 0))), (0, .ref (B + 0)), (1, .int (nI p)), (2, .int (nI x)), (3, .int (nI n)), (4, .int (nI 0)), (5, .int (nI (K ^ n))), (8, .int (nI (r / K ^ n))), (9, .int (nI n))] (dk dtX7_odds_1 21 rfl) rfl (nI_1 _) (by decide) rfl ?_
                refine g_goto F 60 (dk dtX7_odds_1 22 rfl) (by decide) ?_
                refine g_sub [2, 3, 4, 5, 6, 7, 1, 0] (L1 := [(0, .ref (B + 0)), (1, .int (nI p)), (2, .int (nI x)), (3, .int (nI n)), (4, .int (nI 0)), (5, .int (nI (K ^ n))), (6, .int (nI ((odC (M 3) (M 2 0) K (nI x) P (M 5) n (nI p) r) + 0))), (7, .int (nI (r + 1)))]) rfl ?_
                refine g_st (M1 := setR M 6 (odR (M 3) (M 2 0) K (nI x) P (M 5) r n)) (L1 := [(0, .ref (B + 0)), (1, .int (nI p)), (2, .int (nI x)), (3, .int (nI n)), (4, .int (nI 0)), (5, .int (nI (K ^ n))), (6, .int (nI (odC (M 3) (M 2 0) K (nI x) P (M 5) n (nI p) (r + 1)))), (7, .int (nI (r + 1)))]) rfl (by rw [odC, if_neg c137]) rfl ?_
                exact ih60 (r + 1) _ (by omega) (by omega)
              · -- not taken at 137
                refine g_iconst F (nI 1) (dk dtX7_odds_1 16 rfl) (by decide) ?_
                refine g_goto F 145 (dk dtX7_odds_1 17 rfl) (by decide) ?_
                refine g_iaddN F (dk dtX7_odds_1 19 rfl) ?_
                refine g_istore F [(6, .int (nI ((odC (M 3) (M 2 0) K (nI x) P (M 5) n (nI p) r) + 1))), (0, .ref (B + 0)), (1, .int (nI p)), (2, .int (nI x)), (3, .int (nI n)), (4, .int (nI 0)), (5, .int (nI (K ^ n))), (7, .int (nI r)), (8, .int (nI (r / K ^ n))), (9, .int (nI n))] (dk dtX7_odds_1 20 rfl) (by decide) rfl ?_
                refine g_iinc F 7 (nI (r + 1)) [(7, .int (nI (r + 1))), (6, .int (nI ((odC (M 3) (M 2 0) K (nI x) P (M 5) n (nI p) r) + 1))), (0, .ref (B + 0)), (1, .int (nI p)), (2, .int (nI x)), (3, .int (nI n)), (4, .int (nI 0)), (5, .int (nI (K ^ n))), (8, .int (nI (r / K ^ n))), (9, .int (nI n))] (dk dtX7_odds_1 21 rfl) rfl (nI_1 _) (by decide) rfl ?_
                refine g_goto F 60 (dk dtX7_odds_1 22 rfl) (by decide) ?_
                refine g_sub [2, 3, 4, 5, 6, 7, 1, 0] (L1 := [(0, .ref (B + 0)), (1, .int (nI p)), (2, .int (nI x)), (3, .int (nI n)), (4, .int (nI 0)), (5, .int (nI (K ^ n))), (6, .int (nI ((odC (M 3) (M 2 0) K (nI x) P (M 5) n (nI p) r) + 1))), (7, .int (nI (r + 1)))]) rfl ?_
                refine g_st (M1 := setR M 6 (odR (M 3) (M 2 0) K (nI x) P (M 5) r n)) (L1 := [(0, .ref (B + 0)), (1, .int (nI p)), (2, .int (nI x)), (3, .int (nI n)), (4, .int (nI 0)), (5, .int (nI (K ^ n))), (6, .int (nI (odC (M 3) (M 2 0) K (nI x) P (M 5) n (nI p) (r + 1)))), (7, .int (nI (r + 1)))]) rfl (by rw [odC, if_pos c137]) rfl ?_
                exact ih60 (r + 1) _ (by omega) (by omega)
            · -- not taken at 88
              refine g_aload_n F 0 (dk dtX7_odds_0 49 rfl) rfl ?_
              refine g_aload_n F 0 (dk dtX7_odds_0 50 rfl) rfl ?_
              refine g_get F fa_X7_25 (dk dtX7_odds_0 51 rfl) (by decide) (cm0 D B _ _) rfl ?_
              refine g_iload F 8 (dk dtX7_odds_0 52 rfl) rfl ?_
              refine g_aload_n F 0 (dk dtX7_odds_0 53 rfl) rfl ?_
              refine g_get F fa_X7_13 (dk dtX7_odds_0 54 rfl) (by decide) (cm0 D B _ _) rfl ?_
              refine g_iconst F (nI 0) (dk dtX7_odds_0 55 rfl) (by decide) ?_
              refine g_iald F (0) (dk dtX7_odds_0 56 rfl) (by decide) (cm2 D B _ _) (by omega) (by decide) ?_
              refine g_top (congrFun (setR_ne _ _ (by decide)) _) ?_
              refine g_top hK ?_
              refine g_iremN F (dk dtX7_odds_0 57 rfl) (by omega) (by omega) (by omega) ?_
              refine g_iload_n F 2 (dk dtX7_odds_0 58 rfl) rfl ?_
              refine g_callVi F (As := [.ref (B + 6), .int (nI ((r / K ^ i) % K)), .int (nI x)]) (st := []) cv_X7_157 (dk dtX7_odds_0 59 rfl) (by decide) (cm0 D B _ _) rfl rfl (Nat.le_of_ble_eq_true rfl) ⟨by decide, by decide⟩ (k_X7_eventR l D B _ _ 6 (isRow6 D B) ((r / K ^ i) % K) (by omega) (nI x) (M 3) ((M 2) 0) (odR (M 3) (M 2 0) K (nI x) P (M 5) r i) (setR_ne _ _ (by decide)) (congrFun (setR_ne _ _ (by decide)) 0) (setR_self _ _ _) K P hK ((congrFun (setR_ne _ _ (by decide)) _).trans hP) hK1 hK4 hP5 (odR_WR hW hK1 hK4 _)) (fun r106 T106 M106 hp106 => ?_)
              obtain ⟨e1, e2, e3⟩ := hp106
              replace e1 := e1.symm; replace e2 := e2.symm; replace e3 := e3.symm; subst e1; subst e2; subst e3
              refine g_pop F (dk dtX7_odds_1 0 rfl) rfl ?_
              refine g_iload F 8 (dk dtX7_odds_1 1 rfl) rfl ?_
              refine g_aload_n F 0 (dk dtX7_odds_1 2 rfl) rfl ?_
              refine g_get F fa_X7_13 (dk dtX7_odds_1 3 rfl) (by decide) (cm0 D B _ _) rfl ?_
              refine g_iconst F (nI 0) (dk dtX7_odds_1 4 rfl) (by decide) ?_
              refine g_iald F (0) (dk dtX7_odds_1 5 rfl) (by decide) (cm2 D B _ _) (by omega) (by decide) ?_
              refine g_top (congrFun (setR_ne _ _ (by decide)) _) ?_
              refine g_top (congrFun (setR_ne _ _ (by decide)) _) ?_
              refine g_top hK ?_
              refine g_idivN F (dk dtX7_odds_1 6 rfl) (by omega) (by omega) (by omega) ?_
              refine g_istore F [(8, .int (nI ((r / K ^ i) / K))), (0, .ref (B + 0)), (1, .int (nI p)), (2, .int (nI x)), (3, .int (nI n)), (4, .int (nI 0)), (5, .int (nI (K ^ n))), (6, .int (nI (odC (M 3) (M 2 0) K (nI x) P (M 5) n (nI p) r))), (7, .int (nI r)), (9, .int (nI i))] (dk dtX7_odds_1 7 rfl) (by decide) rfl ?_
              refine g_iinc F 9 (nI (i + 1)) [(9, .int (nI (i + 1))), (8, .int (nI ((r / K ^ i) / K))), (0, .ref (B + 0)), (1, .int (nI p)), (2, .int (nI x)), (3, .int (nI n)), (4, .int (nI 0)), (5, .int (nI (K ^ n))), (6, .int (nI (odC (M 3) (M 2 0) K (nI x) P (M 5) n (nI p) r))), (7, .int (nI r))] (dk dtX7_odds_1 8 rfl) rfl (nI_1 _) (by decide) rfl ?_
              refine g_goto F 85 (dk dtX7_odds_1 9 rfl) (by decide) ?_
              refine g_sub [2, 3, 4, 5, 6, 7, 8, 9, 1, 0] (L1 := [(0, .ref (B + 0)), (1, .int (nI p)), (2, .int (nI x)), (3, .int (nI n)), (4, .int (nI 0)), (5, .int (nI (K ^ n))), (6, .int (nI (odC (M 3) (M 2 0) K (nI x) P (M 5) n (nI p) r))), (7, .int (nI r)), (8, .int (nI ((r / K ^ i) / K))), (9, .int (nI (i + 1)))]) rfl ?_
              have eq85_8 : (nI ((r / K ^ i) / K) : Int32) = nI (r / K ^ (i + 1)) := by
                rw [Nat.div_div_eq_div_mul, Nat.pow_succ]
              refine g_st (M1 := setR M 6 (odR (M 3) (M 2 0) K (nI x) P (M 5) r (i + 1))) (L1 := [(0, .ref (B + 0)), (1, .int (nI p)), (2, .int (nI x)), (3, .int (nI n)), (4, .int (nI 0)), (5, .int (nI (K ^ n))), (6, .int (nI (odC (M 3) (M 2 0) K (nI x) P (M 5) n (nI p) r))), (7, .int (nI r)), (8, .int (nI (r / K ^ (i + 1)))), (9, .int (nI (i + 1)))]) (by rw [setR_setR]; rfl) (lc rfl (lc rfl (lc rfl (lc rfl (lc rfl (lc rfl (lc rfl (lc rfl (lc (vi eq85_8) (lc rfl rfl)))))))))) rfl ?_
              exact ih85 (i + 1) (by omega) (by omega)
        refine g_sub [2, 3, 4, 5, 6, 7, 8, 9, 1, 0] (L1 := [(0, .ref (B + 0)), (1, .int (nI p)), (2, .int (nI x)), (3, .int (nI n)), (4, .int (nI 0)), (5, .int (nI (K ^ n))), (6, .int (nI (odC (M 3) (M 2 0) K (nI x) P (M 5) n (nI p) r))), (7, .int (nI r)), (8, .int (nI r)), (9, .int (nI 0))]) rfl ?_
        refine g_st (M1 := setR M 6 (odR (M 3) (M 2 0) K (nI x) P (M 5) r 0)) (L1 := [(0, .ref (B + 0)), (1, .int (nI p)), (2, .int (nI x)), (3, .int (nI n)), (4, .int (nI 0)), (5, .int (nI (K ^ n))), (6, .int (nI (odC (M 3) (M 2 0) K (nI x) P (M 5) n (nI p) r))), (7, .int (nI r)), (8, .int (nI (r / K ^ 0))), (9, .int (nI 0))]) (setR_setR _ _ _ _) (by rw [Nat.pow_zero, Nat.div_one]) rfl ?_
        exact lp85 (n + 1) 0 (by omega) (by omega)
  refine g_sub [3, 4, 5, 6, 7, 2, 1, 0] (L1 := [(0, .ref (B + 0)), (1, .int (nI p)), (2, .int (nI x)), (3, .int (nI n)), (4, .int (nI 0)), (5, .int (nI (K ^ n))), (6, .int (nI 0)), (7, .int (nI 0))]) rfl ?_
  exact g_mem (setR_same M 6).symm (lp60 (K ^ n + 1) 0 (M 6) (Nat.zero_le _) (by omega))
set_option maxRecDepth 100000 in
set_option maxHeartbeats 4000000 in
theorem k_X7_odds_1 (l : Launch) (D : DX) (B : Nat) (T : Int64) (M : Mem) (h0 : M 0 0 = nI 0) (P : Nat) (hP : M 2 2 = nI P) (hP5 : P ≤ 5) (K : Nat) (hK : M 2 0 = nI K) (hK1 : 1 ≤ K) (hK4 : K ≤ 4) (X : Nat) (hX : M 2 1 = nI X) (hX1 : 1 ≤ X) (hX4 : X ≤ 4) (hW : WR (M 5)) (p x n : Nat) (hp : p < P) (hx : x < X) (hn : n ≤ 4)  : Ci l D B 14 (celM D B) yX7_odds cX7_odds 10 (some .int) 3 [.ref (B + 0), .int (nI p), .int (nI x), .int (nI n), .int (nI 1)] T M (fun rz T1 M1 => rz = nI (K ^ n / Nat.gcd (odC (M 3) (M 2 0) K (nI x) P (M 5) n (nI p) (K ^ n)) (K ^ n)) ∧ T1 = T ∧ Sm M M1) := by
  have hkn := kn_le (K := K) (n := n) hK4 hn
  have hkp : 0 < K ^ n := Nat.pow_pos hK1
  refine g_entryi (L := [(0, .ref (B + 0)), (1, .int (nI p)), (2, .int (nI x)), (3, .int (nI n)), (4, .int (nI 1))]) (by decide) (Nat.le_of_ble_eq_true rfl) rfl ?_
  intro zp ze zs zm zb zt zc Q F hQ
  refine g_aload_n F 0 (dk dtX7_odds_0 0 rfl) rfl ?_
  refine g_iconst F (nI 0) (dk dtX7_odds_0 1 rfl) (by decide) ?_
  refine g_put F fa_X7_56 (dk dtX7_odds_0 2 rfl) (by decide) (cm0 D B _ _) (Nat.le_of_ble_eq_true rfl) rfl rfl ((cm0 D B _ _).trans st_Mod_0) ?_
  refine g_mem (up2_same h0) ?_
  refine g_aload_n F 0 (dk dtX7_odds_0 3 rfl) rfl ?_
  refine g_iload_n F 1 (dk dtX7_odds_0 4 rfl) rfl ?_
  refine g_callVi F (As := [.int (nI p)]) (st := []) cv_X7_129 (dk dtX7_odds_0 5 rfl) (by decide) (cm0 D B _ _) rfl rfl (Nat.le_of_ble_eq_true rfl) ⟨by decide, by decide⟩ (k_X7_isOne l D B _ _ _ P hP (by omega)) (fun r7 T7 M7 hp7 => ?_)
  obtain ⟨e1, e2, e3⟩ := hp7
  replace e1 := e1.symm; replace e2 := e2.symm; replace e3 := e3.symm; subst e1; subst e2; subst e3
  refine g_if_eqB F 40 (dk dtX7_odds_0 6 rfl) (by decide) (fun c => absurd (inR_nI (by omega)) c) (fun _ => ?_)
  refine g_aload_n F 0 (dk dtX7_odds_0 7 rfl) rfl ?_
  refine g_iload_n F 2 (dk dtX7_odds_0 8 rfl) rfl ?_
  refine g_callVi F (As := [.int (nI x)]) (st := []) cv_X7_151 (dk dtX7_odds_0 9 rfl) (by decide) (cm0 D B _ _) rfl rfl (Nat.le_of_ble_eq_true rfl) ⟨by decide, by decide⟩ (k_X7_isPlace l D B _ _ _ X hX (by omega)) (fun r15 T15 M15 hp15 => ?_)
  obtain ⟨e1, e2, e3⟩ := hp15
  replace e1 := e1.symm; replace e2 := e2.symm; replace e3 := e3.symm; subst e1; subst e2; subst e3
  refine g_if_eqB F 40 (dk dtX7_odds_0 10 rfl) (by decide) (fun c => absurd (inR_nI (by omega)) c) (fun _ => ?_)
  refine g_iload_n F 3 (dk dtX7_odds_0 11 rfl) rfl ?_
  refine g_iconst F (nI 0) (dk dtX7_odds_0 12 rfl) (by decide) ?_
  refine g_iconst F (nI 4) (dk dtX7_odds_0 13 rfl) (by decide) ?_
  refine g_callSi F (As := [.int (nI n), .int (nI 0), .int (nI 4)]) (st := []) cs_X7_60 (dk dtX7_odds_0 14 rfl) rfl rfl (Nat.le_of_ble_eq_true rfl) ⟨by decide, by decide⟩ (k_X7_inR l D B _ _ _ 4 (by decide)) (fun r24 T24 M24 hp24 => ?_)
  obtain ⟨e1, e2, e3⟩ := hp24
  replace e1 := e1.symm; replace e2 := e2.symm; replace e3 := e3.symm; subst e1; subst e2; subst e3
  refine g_if_eqB F 40 (dk dtX7_odds_0 15 rfl) (by decide) (fun c => absurd (inR_nI (by omega)) c) (fun _ => ?_)
  refine g_iload F 4 (dk dtX7_odds_0 16 rfl) rfl ?_
  refine g_iconst F (nI 0) (dk dtX7_odds_0 17 rfl) (by decide) ?_
  refine g_iconst F (nI 1) (dk dtX7_odds_0 18 rfl) (by decide) ?_
  refine g_callSi F (As := [.int (nI 1), .int (nI 0), .int (nI 1)]) (st := []) cs_X7_60 (dk dtX7_odds_0 19 rfl) rfl rfl (Nat.le_of_ble_eq_true rfl) ⟨by decide, by decide⟩ (k_X7_inR l D B _ _ _ 1 (by decide)) (fun r34 T34 M34 hp34 => ?_)
  obtain ⟨e1, e2, e3⟩ := hp34
  replace e1 := e1.symm; replace e2 := e2.symm; replace e3 := e3.symm; subst e1; subst e2; subst e3
  refine g_if_neB F 42 (dk dtX7_odds_0 20 rfl) (by decide) (fun _ => ?_) (fun c => absurd (inR_nI (by omega)) c)
  refine g_aload_n F 0 (dk dtX7_odds_0 23 rfl) rfl ?_
  refine g_get F fa_X7_13 (dk dtX7_odds_0 24 rfl) (by decide) (cm0 D B _ _) rfl ?_
  refine g_iconst F (nI 0) (dk dtX7_odds_0 25 rfl) (by decide) ?_
  refine g_iald F (0) (dk dtX7_odds_0 26 rfl) (by decide) (cm2 D B _ _) (by omega) (by decide) ?_
  refine g_top hK ?_
  refine g_iload_n F 3 (dk dtX7_odds_0 27 rfl) rfl ?_
  refine g_callSi F (As := [.int (nI K), .int (nI n)]) (st := []) cs_X7_163 (dk dtX7_odds_0 28 rfl) rfl rfl (Nat.le_of_ble_eq_true rfl) ⟨by decide, by decide⟩ (k_X7_power l D B _ _ K n (by omega)) (fun r49 T49 M49 hp49 => ?_)
  obtain ⟨e1, e2, e3⟩ := hp49
  replace e1 := e1.symm; replace e2 := e2.symm; replace e3 := e3.symm; subst e1; subst e2; subst e3
  refine g_istore F [(5, .int (nI (K ^ n))), (0, .ref (B + 0)), (1, .int (nI p)), (2, .int (nI x)), (3, .int (nI n)), (4, .int (nI 1))] (dk dtX7_odds_0 29 rfl) (by decide) rfl ?_
  refine g_iconst F (nI 0) (dk dtX7_odds_0 30 rfl) (by decide) ?_
  refine g_istore F [(6, .int (nI 0)), (5, .int (nI (K ^ n))), (0, .ref (B + 0)), (1, .int (nI p)), (2, .int (nI x)), (3, .int (nI n)), (4, .int (nI 1))] (dk dtX7_odds_0 31 rfl) (by decide) rfl ?_
  refine g_iconst F (nI 0) (dk dtX7_odds_0 32 rfl) (by decide) ?_
  refine g_istore F [(7, .int (nI 0)), (6, .int (nI 0)), (5, .int (nI (K ^ n))), (0, .ref (B + 0)), (1, .int (nI p)), (2, .int (nI x)), (3, .int (nI n)), (4, .int (nI 1))] (dk dtX7_odds_0 33 rfl) (by decide) rfl ?_
  have lp60 : ∀ (fz : Nat) (r : Nat) (rw : Nat → Int32), (r ≤ K ^ n) → (K ^ n - r) < fz → G zp l ze { frames := 3, cells := 0, slots := 0, locals := 40 * 3 } zs zm [.ref (B + 0), .int (nI p), .int (nI x), .int (nI n), .int (nI 1)].toArray zb zt zc 10 D B 14 (celM D B) Q T (setR M 6 rw) 60 [(0, .ref (B + 0)), (1, .int (nI p)), (2, .int (nI x)), (3, .int (nI n)), (4, .int (nI 1)), (5, .int (nI (K ^ n))), (6, .int (nI (odC (M 3) (M 2 0) K (nI x) P (M 5) n (nI p) r))), (7, .int (nI r))] [] := by
    intro n60
    induction n60 with
    | zero => intro r rw hI hn; exact absurd hn (Nat.not_lt_zero _)
    | succ n60 ih60 =>
      intro r rw hI60 hn60
      refine g_iload F 7 (dk dtX7_odds_0 34 rfl) rfl ?_
      refine g_iload F 5 (dk dtX7_odds_0 35 rfl) rfl ?_
      refine g_icmp_geN F 154 (dk dtX7_odds_0 36 rfl) (by decide) (by omega) (by omega) (fun c64 => ?_) (fun c64 => ?_)
      · -- taken at 64
        obtain rfl : (K ^ n) = r := by omega
        have hoc := odC_le (M 3) (M 2 0) K (nI x) P (M 5) n (nI p) (K ^ n)
        have hgp := Nat.gcd_pos_of_pos_right (odC (M 3) (M 2 0) K (nI x) P (M 5) n (nI p) (K ^ n)) hkp
        have hgl := Nat.le_of_dvd hkp (Nat.gcd_dvd_right (odC (M 3) (M 2 0) K (nI x) P (M 5) n (nI p) (K ^ n)) (K ^ n))
        refine g_iload F 6 (dk dtX7_odds_1 23 rfl) rfl ?_
        refine g_iload F 5 (dk dtX7_odds_1 24 rfl) rfl ?_
        refine g_callSi F (As := [.int (nI (odC (M 3) (M 2 0) K (nI x) P (M 5) n (nI p) (K ^ n))), .int (nI (K ^ n))]) (st := []) cs_X7_176 (dk dtX7_odds_1 25 rfl) rfl rfl (Nat.le_of_ble_eq_true rfl) ⟨by decide, by decide⟩ (k_X7_gcd l D B _ _ (odC (M 3) (M 2 0) K (nI x) P (M 5) n (nI p) (K ^ n)) (K ^ n) (by omega) (by omega)) (fun r158 T158 M158 hp158 => ?_)
        obtain ⟨e1, e2, e3⟩ := hp158
        replace e1 := e1.symm; replace e2 := e2.symm; replace e3 := e3.symm; subst e1; subst e2; subst e3
        refine g_istore F [(7, .int (nI (Nat.gcd (odC (M 3) (M 2 0) K (nI x) P (M 5) n (nI p) (K ^ n)) (K ^ n)))), (0, .ref (B + 0)), (1, .int (nI p)), (2, .int (nI x)), (3, .int (nI n)), (4, .int (nI 1)), (5, .int (nI (K ^ n))), (6, .int (nI (odC (M 3) (M 2 0) K (nI x) P (M 5) n (nI p) (K ^ n))))] (dk dtX7_odds_1 26 rfl) (by decide) rfl ?_
        refine g_iload F 5 (dk dtX7_odds_1 27 rfl) rfl ?_
        refine g_if_neN F 176 (dk dtX7_odds_1 28 rfl) (by decide) (by decide) (fun _ => ?_) (fun c => absurd c (by decide))
        refine g_iload F 6 (dk dtX7_odds_1 33 rfl) rfl ?_
        refine g_iload F 0 (dk dtX7_odds_1 34 rfl) rfl ?_
        refine g_idivN F (dk dtX7_odds_1 35 rfl) (by omega) (by omega) (by omega) ?_
        refine g_iret (F := F) hQ (dk dtX7_odds_1 36 rfl) ?_
        exact ⟨rfl, rfl, fun i h6 _ => by rw [setR_ne _ _ h6]⟩
      · -- not taken at 64
        refine g_aload_n F 0 (dk dtX7_odds_0 37 rfl) rfl ?_
        refine g_get F fa_X7_22 (dk dtX7_odds_0 38 rfl) (by decide) (cm0 D B _ _) rfl ?_
        refine g_aload_n F 0 (dk dtX7_odds_0 39 rfl) rfl ?_
        refine g_get F fa_X7_25 (dk dtX7_odds_0 40 rfl) (by decide) (cm0 D B _ _) rfl ?_
        refine g_callSv F (As := [.ref (B + 5), .ref (B + 6)]) (st := []) cs_X7_115 (dk dtX7_odds_0 41 rfl) rfl rfl (Nat.le_of_ble_eq_true rfl) ⟨by decide, by decide⟩ (k_X7_copies l D B _ _ 5 6 (isRow5 D B) (isRow6 D B) (by decide)) (fun T75 M75 hp75 => ?_)
        obtain ⟨e2, e3⟩ := hp75
        replace e2 := e2.symm; replace e3 := e3.symm; subst e2; subst e3
        refine g_iload F 7 (dk dtX7_odds_0 42 rfl) rfl ?_
        refine g_istore F [(8, .int (nI r)), (0, .ref (B + 0)), (1, .int (nI p)), (2, .int (nI x)), (3, .int (nI n)), (4, .int (nI 1)), (5, .int (nI (K ^ n))), (6, .int (nI (odC (M 3) (M 2 0) K (nI x) P (M 5) n (nI p) r))), (7, .int (nI r))] (dk dtX7_odds_0 43 rfl) (by decide) rfl ?_
        refine g_iconst F (nI 0) (dk dtX7_odds_0 44 rfl) (by decide) ?_
        refine g_istore F [(9, .int (nI 0)), (8, .int (nI r)), (0, .ref (B + 0)), (1, .int (nI p)), (2, .int (nI x)), (3, .int (nI n)), (4, .int (nI 1)), (5, .int (nI (K ^ n))), (6, .int (nI (odC (M 3) (M 2 0) K (nI x) P (M 5) n (nI p) r))), (7, .int (nI r))] (dk dtX7_odds_0 45 rfl) (by decide) rfl ?_
        have lp85 : ∀ (fz : Nat) (i : Nat), i ≤ n → (n - i) < fz → G zp l ze { frames := 3, cells := 0, slots := 0, locals := 40 * 3 } zs zm [.ref (B + 0), .int (nI p), .int (nI x), .int (nI n), .int (nI 1)].toArray zb zt zc 10 D B 14 (celM D B) Q T (setR M 6 (odR (M 3) (M 2 0) K (nI x) P (M 5) r i)) 85 [(0, .ref (B + 0)), (1, .int (nI p)), (2, .int (nI x)), (3, .int (nI n)), (4, .int (nI 1)), (5, .int (nI (K ^ n))), (6, .int (nI (odC (M 3) (M 2 0) K (nI x) P (M 5) n (nI p) r))), (7, .int (nI r)), (8, .int (nI (r / K ^ i))), (9, .int (nI i))] [] := by
          intro n85
          induction n85 with
          | zero => intro i hI hn; exact absurd hn (Nat.not_lt_zero _)
          | succ n85 ih85 =>
            intro i hI85 hn85
            have hrd : r / K ^ i ≤ r := Nat.div_le_self _ _
            have hrm := Nat.mod_lt (r / K ^ i) (show 0 < K by omega)
            refine g_iload F 9 (dk dtX7_odds_0 46 rfl) rfl ?_
            refine g_iload_n F 3 (dk dtX7_odds_0 47 rfl) rfl ?_
            refine g_icmp_geN F 127 (dk dtX7_odds_0 48 rfl) (by decide) (by omega) (by omega) (fun c88 => ?_) (fun c88 => ?_)
            · -- taken at 88
              obtain rfl : n = i := by omega
              refine g_iload F 6 (dk dtX7_odds_1 10 rfl) rfl ?_
              refine g_aload_n F 0 (dk dtX7_odds_1 11 rfl) rfl ?_
              refine g_get F fa_X7_25 (dk dtX7_odds_1 12 rfl) (by decide) (cm0 D B _ _) rfl ?_
              refine g_callSi F (As := [.ref (B + 6)]) (st := [.int (nI (odC (M 3) (M 2 0) K (nI x) P (M 5) n (nI p) r))]) cs_X7_140 (dk dtX7_odds_1 13 rfl) rfl rfl (Nat.le_of_ble_eq_true rfl) ⟨by decide, by decide⟩ (k_X7_mayorOfR l D B _ _ 6 (isRow6 D B) (odR (M 3) (M 2 0) K (nI x) P (M 5) r n) (setR_self _ _ _)) (fun r133 T133 M133 hp133 => ?_)
              obtain ⟨e1, e2, e3⟩ := hp133
              replace e1 := e1.symm; replace e2 := e2.symm; replace e3 := e3.symm; subst e1; subst e2; subst e3
              refine g_iload_n F 1 (dk dtX7_odds_1 14 rfl) rfl ?_
              refine g_icmp_ne F 144 (dk dtX7_odds_1 15 rfl) (by decide) (fun c137 => ?_) (fun c137 => ?_)
              · -- taken at 137
                refine g_iconst F (nI 0) (dk dtX7_odds_1 18 rfl) (by decide) ?_
                refine g_iaddN F (dk dtX7_odds_1 19 rfl) ?_
                refine g_istore F [(6, .int (nI ((odC (M 3) (M 2 0) K (nI x) P (M 5) n (nI p) r) + 0))), (0, .ref (B + 0)), (1, .int (nI p)), (2, .int (nI x)), (3, .int (nI n)), (4, .int (nI 1)), (5, .int (nI (K ^ n))), (7, .int (nI r)), (8, .int (nI (r / K ^ n))), (9, .int (nI n))] (dk dtX7_odds_1 20 rfl) (by decide) rfl ?_
                refine g_iinc F 7 (nI (r + 1)) [(7, .int (nI (r + 1))), (6, .int (nI ((odC (M 3) (M 2 0) K (nI x) P (M 5) n (nI p) r) + 0))), (0, .ref (B + 0)), (1, .int (nI p)), (2, .int (nI x)), (3, .int (nI n)), (4, .int (nI 1)), (5, .int (nI (K ^ n))), (8, .int (nI (r / K ^ n))), (9, .int (nI n))] (dk dtX7_odds_1 21 rfl) rfl (nI_1 _) (by decide) rfl ?_
                refine g_goto F 60 (dk dtX7_odds_1 22 rfl) (by decide) ?_
                refine g_sub [2, 3, 4, 5, 6, 7, 1, 0] (L1 := [(0, .ref (B + 0)), (1, .int (nI p)), (2, .int (nI x)), (3, .int (nI n)), (4, .int (nI 1)), (5, .int (nI (K ^ n))), (6, .int (nI ((odC (M 3) (M 2 0) K (nI x) P (M 5) n (nI p) r) + 0))), (7, .int (nI (r + 1)))]) rfl ?_
                refine g_st (M1 := setR M 6 (odR (M 3) (M 2 0) K (nI x) P (M 5) r n)) (L1 := [(0, .ref (B + 0)), (1, .int (nI p)), (2, .int (nI x)), (3, .int (nI n)), (4, .int (nI 1)), (5, .int (nI (K ^ n))), (6, .int (nI (odC (M 3) (M 2 0) K (nI x) P (M 5) n (nI p) (r + 1)))), (7, .int (nI (r + 1)))]) rfl (by rw [odC, if_neg c137]) rfl ?_
                exact ih60 (r + 1) _ (by omega) (by omega)
              · -- not taken at 137
                refine g_iconst F (nI 1) (dk dtX7_odds_1 16 rfl) (by decide) ?_
                refine g_goto F 145 (dk dtX7_odds_1 17 rfl) (by decide) ?_
                refine g_iaddN F (dk dtX7_odds_1 19 rfl) ?_
                refine g_istore F [(6, .int (nI ((odC (M 3) (M 2 0) K (nI x) P (M 5) n (nI p) r) + 1))), (0, .ref (B + 0)), (1, .int (nI p)), (2, .int (nI x)), (3, .int (nI n)), (4, .int (nI 1)), (5, .int (nI (K ^ n))), (7, .int (nI r)), (8, .int (nI (r / K ^ n))), (9, .int (nI n))] (dk dtX7_odds_1 20 rfl) (by decide) rfl ?_
                refine g_iinc F 7 (nI (r + 1)) [(7, .int (nI (r + 1))), (6, .int (nI ((odC (M 3) (M 2 0) K (nI x) P (M 5) n (nI p) r) + 1))), (0, .ref (B + 0)), (1, .int (nI p)), (2, .int (nI x)), (3, .int (nI n)), (4, .int (nI 1)), (5, .int (nI (K ^ n))), (8, .int (nI (r / K ^ n))), (9, .int (nI n))] (dk dtX7_odds_1 21 rfl) rfl (nI_1 _) (by decide) rfl ?_
                refine g_goto F 60 (dk dtX7_odds_1 22 rfl) (by decide) ?_
                refine g_sub [2, 3, 4, 5, 6, 7, 1, 0] (L1 := [(0, .ref (B + 0)), (1, .int (nI p)), (2, .int (nI x)), (3, .int (nI n)), (4, .int (nI 1)), (5, .int (nI (K ^ n))), (6, .int (nI ((odC (M 3) (M 2 0) K (nI x) P (M 5) n (nI p) r) + 1))), (7, .int (nI (r + 1)))]) rfl ?_
                refine g_st (M1 := setR M 6 (odR (M 3) (M 2 0) K (nI x) P (M 5) r n)) (L1 := [(0, .ref (B + 0)), (1, .int (nI p)), (2, .int (nI x)), (3, .int (nI n)), (4, .int (nI 1)), (5, .int (nI (K ^ n))), (6, .int (nI (odC (M 3) (M 2 0) K (nI x) P (M 5) n (nI p) (r + 1)))), (7, .int (nI (r + 1)))]) rfl (by rw [odC, if_pos c137]) rfl ?_
                exact ih60 (r + 1) _ (by omega) (by omega)
            · -- not taken at 88
              refine g_aload_n F 0 (dk dtX7_odds_0 49 rfl) rfl ?_
              refine g_aload_n F 0 (dk dtX7_odds_0 50 rfl) rfl ?_
              refine g_get F fa_X7_25 (dk dtX7_odds_0 51 rfl) (by decide) (cm0 D B _ _) rfl ?_
              refine g_iload F 8 (dk dtX7_odds_0 52 rfl) rfl ?_
              refine g_aload_n F 0 (dk dtX7_odds_0 53 rfl) rfl ?_
              refine g_get F fa_X7_13 (dk dtX7_odds_0 54 rfl) (by decide) (cm0 D B _ _) rfl ?_
              refine g_iconst F (nI 0) (dk dtX7_odds_0 55 rfl) (by decide) ?_
              refine g_iald F (0) (dk dtX7_odds_0 56 rfl) (by decide) (cm2 D B _ _) (by omega) (by decide) ?_
              refine g_top (congrFun (setR_ne _ _ (by decide)) _) ?_
              refine g_top hK ?_
              refine g_iremN F (dk dtX7_odds_0 57 rfl) (by omega) (by omega) (by omega) ?_
              refine g_iload_n F 2 (dk dtX7_odds_0 58 rfl) rfl ?_
              refine g_callVi F (As := [.ref (B + 6), .int (nI ((r / K ^ i) % K)), .int (nI x)]) (st := []) cv_X7_157 (dk dtX7_odds_0 59 rfl) (by decide) (cm0 D B _ _) rfl rfl (Nat.le_of_ble_eq_true rfl) ⟨by decide, by decide⟩ (k_X7_eventR l D B _ _ 6 (isRow6 D B) ((r / K ^ i) % K) (by omega) (nI x) (M 3) ((M 2) 0) (odR (M 3) (M 2 0) K (nI x) P (M 5) r i) (setR_ne _ _ (by decide)) (congrFun (setR_ne _ _ (by decide)) 0) (setR_self _ _ _) K P hK ((congrFun (setR_ne _ _ (by decide)) _).trans hP) hK1 hK4 hP5 (odR_WR hW hK1 hK4 _)) (fun r106 T106 M106 hp106 => ?_)
              obtain ⟨e1, e2, e3⟩ := hp106
              replace e1 := e1.symm; replace e2 := e2.symm; replace e3 := e3.symm; subst e1; subst e2; subst e3
              refine g_pop F (dk dtX7_odds_1 0 rfl) rfl ?_
              refine g_iload F 8 (dk dtX7_odds_1 1 rfl) rfl ?_
              refine g_aload_n F 0 (dk dtX7_odds_1 2 rfl) rfl ?_
              refine g_get F fa_X7_13 (dk dtX7_odds_1 3 rfl) (by decide) (cm0 D B _ _) rfl ?_
              refine g_iconst F (nI 0) (dk dtX7_odds_1 4 rfl) (by decide) ?_
              refine g_iald F (0) (dk dtX7_odds_1 5 rfl) (by decide) (cm2 D B _ _) (by omega) (by decide) ?_
              refine g_top (congrFun (setR_ne _ _ (by decide)) _) ?_
              refine g_top (congrFun (setR_ne _ _ (by decide)) _) ?_
              refine g_top hK ?_
              refine g_idivN F (dk dtX7_odds_1 6 rfl) (by omega) (by omega) (by omega) ?_
              refine g_istore F [(8, .int (nI ((r / K ^ i) / K))), (0, .ref (B + 0)), (1, .int (nI p)), (2, .int (nI x)), (3, .int (nI n)), (4, .int (nI 1)), (5, .int (nI (K ^ n))), (6, .int (nI (odC (M 3) (M 2 0) K (nI x) P (M 5) n (nI p) r))), (7, .int (nI r)), (9, .int (nI i))] (dk dtX7_odds_1 7 rfl) (by decide) rfl ?_
              refine g_iinc F 9 (nI (i + 1)) [(9, .int (nI (i + 1))), (8, .int (nI ((r / K ^ i) / K))), (0, .ref (B + 0)), (1, .int (nI p)), (2, .int (nI x)), (3, .int (nI n)), (4, .int (nI 1)), (5, .int (nI (K ^ n))), (6, .int (nI (odC (M 3) (M 2 0) K (nI x) P (M 5) n (nI p) r))), (7, .int (nI r))] (dk dtX7_odds_1 8 rfl) rfl (nI_1 _) (by decide) rfl ?_
              refine g_goto F 85 (dk dtX7_odds_1 9 rfl) (by decide) ?_
              refine g_sub [2, 3, 4, 5, 6, 7, 8, 9, 1, 0] (L1 := [(0, .ref (B + 0)), (1, .int (nI p)), (2, .int (nI x)), (3, .int (nI n)), (4, .int (nI 1)), (5, .int (nI (K ^ n))), (6, .int (nI (odC (M 3) (M 2 0) K (nI x) P (M 5) n (nI p) r))), (7, .int (nI r)), (8, .int (nI ((r / K ^ i) / K))), (9, .int (nI (i + 1)))]) rfl ?_
              have eq85_8 : (nI ((r / K ^ i) / K) : Int32) = nI (r / K ^ (i + 1)) := by
                rw [Nat.div_div_eq_div_mul, Nat.pow_succ]
              refine g_st (M1 := setR M 6 (odR (M 3) (M 2 0) K (nI x) P (M 5) r (i + 1))) (L1 := [(0, .ref (B + 0)), (1, .int (nI p)), (2, .int (nI x)), (3, .int (nI n)), (4, .int (nI 1)), (5, .int (nI (K ^ n))), (6, .int (nI (odC (M 3) (M 2 0) K (nI x) P (M 5) n (nI p) r))), (7, .int (nI r)), (8, .int (nI (r / K ^ (i + 1)))), (9, .int (nI (i + 1)))]) (by rw [setR_setR]; rfl) (lc rfl (lc rfl (lc rfl (lc rfl (lc rfl (lc rfl (lc rfl (lc rfl (lc (vi eq85_8) (lc rfl rfl)))))))))) rfl ?_
              exact ih85 (i + 1) (by omega) (by omega)
        refine g_sub [2, 3, 4, 5, 6, 7, 8, 9, 1, 0] (L1 := [(0, .ref (B + 0)), (1, .int (nI p)), (2, .int (nI x)), (3, .int (nI n)), (4, .int (nI 1)), (5, .int (nI (K ^ n))), (6, .int (nI (odC (M 3) (M 2 0) K (nI x) P (M 5) n (nI p) r))), (7, .int (nI r)), (8, .int (nI r)), (9, .int (nI 0))]) rfl ?_
        refine g_st (M1 := setR M 6 (odR (M 3) (M 2 0) K (nI x) P (M 5) r 0)) (L1 := [(0, .ref (B + 0)), (1, .int (nI p)), (2, .int (nI x)), (3, .int (nI n)), (4, .int (nI 1)), (5, .int (nI (K ^ n))), (6, .int (nI (odC (M 3) (M 2 0) K (nI x) P (M 5) n (nI p) r))), (7, .int (nI r)), (8, .int (nI (r / K ^ 0))), (9, .int (nI 0))]) (setR_setR _ _ _ _) (by rw [Nat.pow_zero, Nat.div_one]) rfl ?_
        exact lp85 (n + 1) 0 (by omega) (by omega)
  refine g_sub [3, 4, 5, 6, 7, 2, 1, 0] (L1 := [(0, .ref (B + 0)), (1, .int (nI p)), (2, .int (nI x)), (3, .int (nI n)), (4, .int (nI 1)), (5, .int (nI (K ^ n))), (6, .int (nI 0)), (7, .int (nI 0))]) rfl ?_
  exact g_mem (setR_same M 6).symm (lp60 (K ^ n + 1) 0 (M 6) (Nat.zero_le _) (by omega))
set_option maxRecDepth 100000 in
set_option maxHeartbeats 4000000 in
theorem k_X7_odds_bad (l : Launch) (D : DX) (B : Nat) (T : Int64) (M : Mem) (h0 : M 0 0 = nI 0) (P : Nat) (hP : M 2 2 = nI P) (hP5 : P ≤ 5) (X : Nat) (hX : M 2 1 = nI X) (hX1 : 1 ≤ X) (hX4 : X ≤ 4) (p x n w : Int32) (hb : ¬ (inR p P ∧ inR x X ∧ inR n 5 ∧ inR w 2)) : Ci l D B 14 (celM D B) yX7_odds cX7_odds 10 (some .int) 3 [.ref (B + 0), .int p, .int x, .int n, .int w] T M (fun rz T1 M1 => rz = (-1) ∧ T1 = T ∧ M1 = M) := by
  refine g_entryi (L := [(0, .ref (B + 0)), (1, .int p), (2, .int x), (3, .int n), (4, .int w)]) (by decide) (Nat.le_of_ble_eq_true rfl) rfl ?_
  intro zp ze zs zm zb zt zc Q F hQ
  refine g_aload_n F 0 (dk dtX7_odds_0 0 rfl) rfl ?_
  refine g_iconst F (nI 0) (dk dtX7_odds_0 1 rfl) (by decide) ?_
  refine g_put F fa_X7_56 (dk dtX7_odds_0 2 rfl) (by decide) (cm0 D B _ _) (Nat.le_of_ble_eq_true rfl) rfl rfl ((cm0 D B _ _).trans st_Mod_0) ?_
  refine g_mem (up2_same h0) ?_
  refine g_aload_n F 0 (dk dtX7_odds_0 3 rfl) rfl ?_
  refine g_iload_n F 1 (dk dtX7_odds_0 4 rfl) rfl ?_
  refine g_callVi F (As := [.int p]) (st := []) cv_X7_129 (dk dtX7_odds_0 5 rfl) (by decide) (cm0 D B _ _) rfl rfl (Nat.le_of_ble_eq_true rfl) ⟨by decide, by decide⟩ (k_X7_isOne l D B _ _ _ P hP (by omega)) (fun r7 T7 M7 hp7 => ?_)
  obtain ⟨e1, e2, e3⟩ := hp7
  replace e1 := e1.symm; replace e2 := e2.symm; replace e3 := e3.symm; subst e1; subst e2; subst e3
  refine g_if_eqB F 40 (dk dtX7_odds_0 6 rfl) (by decide) (fun c10 => ?_) (fun c10 => ?_)
  · -- taken at 10
    refine g_iconst F (-1) (dk dtX7_odds_0 21 rfl) (by decide) ?_
    refine g_iret (F := F) hQ (dk dtX7_odds_0 22 rfl) ?_
    exact ⟨rfl, rfl, rfl⟩
  · -- not taken at 10
    refine g_aload_n F 0 (dk dtX7_odds_0 7 rfl) rfl ?_
    refine g_iload_n F 2 (dk dtX7_odds_0 8 rfl) rfl ?_
    refine g_callVi F (As := [.int x]) (st := []) cv_X7_151 (dk dtX7_odds_0 9 rfl) (by decide) (cm0 D B _ _) rfl rfl (Nat.le_of_ble_eq_true rfl) ⟨by decide, by decide⟩ (k_X7_isPlace l D B _ _ _ X hX (by omega)) (fun r15 T15 M15 hp15 => ?_)
    obtain ⟨e1, e2, e3⟩ := hp15
    replace e1 := e1.symm; replace e2 := e2.symm; replace e3 := e3.symm; subst e1; subst e2; subst e3
    refine g_if_eqB F 40 (dk dtX7_odds_0 10 rfl) (by decide) (fun c18 => ?_) (fun c18 => ?_)
    · -- taken at 18
      refine g_iconst F (-1) (dk dtX7_odds_0 21 rfl) (by decide) ?_
      refine g_iret (F := F) hQ (dk dtX7_odds_0 22 rfl) ?_
      exact ⟨rfl, rfl, rfl⟩
    · -- not taken at 18
      refine g_iload_n F 3 (dk dtX7_odds_0 11 rfl) rfl ?_
      refine g_iconst F (nI 0) (dk dtX7_odds_0 12 rfl) (by decide) ?_
      refine g_iconst F (nI 4) (dk dtX7_odds_0 13 rfl) (by decide) ?_
      refine g_callSi F (As := [.int n, .int (nI 0), .int (nI 4)]) (st := []) cs_X7_60 (dk dtX7_odds_0 14 rfl) rfl rfl (Nat.le_of_ble_eq_true rfl) ⟨by decide, by decide⟩ (k_X7_inR l D B _ _ _ 4 (by decide)) (fun r24 T24 M24 hp24 => ?_)
      obtain ⟨e1, e2, e3⟩ := hp24
      replace e1 := e1.symm; replace e2 := e2.symm; replace e3 := e3.symm; subst e1; subst e2; subst e3
      refine g_if_eqB F 40 (dk dtX7_odds_0 15 rfl) (by decide) (fun c27 => ?_) (fun c27 => ?_)
      · -- taken at 27
        refine g_iconst F (-1) (dk dtX7_odds_0 21 rfl) (by decide) ?_
        refine g_iret (F := F) hQ (dk dtX7_odds_0 22 rfl) ?_
        exact ⟨rfl, rfl, rfl⟩
      · -- not taken at 27
        refine g_iload F 4 (dk dtX7_odds_0 16 rfl) rfl ?_
        refine g_iconst F (nI 0) (dk dtX7_odds_0 17 rfl) (by decide) ?_
        refine g_iconst F (nI 1) (dk dtX7_odds_0 18 rfl) (by decide) ?_
        refine g_callSi F (As := [.int w, .int (nI 0), .int (nI 1)]) (st := []) cs_X7_60 (dk dtX7_odds_0 19 rfl) rfl rfl (Nat.le_of_ble_eq_true rfl) ⟨by decide, by decide⟩ (k_X7_inR l D B _ _ _ 1 (by decide)) (fun r34 T34 M34 hp34 => ?_)
        obtain ⟨e1, e2, e3⟩ := hp34
        replace e1 := e1.symm; replace e2 := e2.symm; replace e3 := e3.symm; subst e1; subst e2; subst e3
        refine g_if_neB F 42 (dk dtX7_odds_0 20 rfl) (by decide) (fun c37 => ?_) (fun c37 => ?_)
        · -- taken at 37
          exact absurd ⟨c10, c18, c27, c37⟩ hb
        · -- not taken at 37
          refine g_iconst F (-1) (dk dtX7_odds_0 21 rfl) (by decide) ?_
          refine g_iret (F := F) hQ (dk dtX7_odds_0 22 rfl) ?_
          exact ⟨rfl, rfl, rfl⟩
