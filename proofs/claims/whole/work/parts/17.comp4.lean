theorem inR2 {v : Int32} (h : v = 0 ∨ v = nI 1) : inR v 2 := by
  rcases h with rfl | rfl <;> decide
theorem inR2_of {v : Int32} (h : inR v 2) : v = 0 ∨ v = nI 1 := by
  obtain ⟨j, hj, rfl⟩ := inR_of h (by decide)
  rcases (show j = 0 ∨ j = 1 by omega) with rfl | rfl
  · exact Or.inl rfl
  · exact Or.inr rfl
theorem inR_out {w : Int32} (n : Nat) (h : ¬ inR w (n + 1)) (hn : n < 1000 := by decide) : w.toInt < 0 ∨ (n : Int) < w.toInt := by
  by_cases h0 : w < 0
  · left
    rw [Int32.lt_iff_toInt_lt, Int32.toInt_zero] at h0
    exact h0
  · right
    by_cases h1 : nI (n + 1) ≤ w
    · rw [Int32.le_iff_toInt_le, nI_toInt (by omega)] at h1
      omega
    · exact absurd ⟨h0, h1⟩ h
theorem rmM_fr (M : Mem) (nx kn : Nat) {c : Nat} (h : c < 17 ∨ 69 ≤ c) (hn : nx < 10 := by omega) : rmM M nx kn c = M c := by
  unfold rmM
  rw [up2_ne _ _ (by omega), up2_ne _ _ (by omega), cpN_fr _ _ _ (by omega)]
set_option maxRecDepth 100000 in
set_option maxHeartbeats 4000000 in
theorem k_X5_hasKindR (l : Launch) (D : DX) (B : Nat) (T : Int64) (M : Mem) (v : Int32) (n : Nat) (hn : M 10 0 = nI n) : Ci l D B 108 (celC D B) yX5_hasKind cX5_hasKind 2 (some .boolean) 0 [.ref (B + 10), .int v] T M (fun rz T1 M1 => rz = (bI (inR v n)) ∧ T1 = T ∧ M1 = M) := by
  refine g_entryi (L := [(0, .ref (B + 10)), (1, .int v)]) (by decide) (Nat.le_of_ble_eq_true rfl) rfl ?_
  intro zp ze zs zm zb zt zc Q F hQ
  refine g_iload_n F 1 (dk dtX5_hasKind_0 0 rfl) rfl ?_
  refine g_if_lt F 16 (dk dtX5_hasKind_0 1 rfl) (by decide) (fun c1 => ?_) (fun c1 => ?_)
  · -- taken at 1
    refine g_iconst F (nI 0) (dk dtX5_hasKind_0 8 rfl) (by decide) ?_
    refine g_zret (F := F) hQ (dk dtX5_hasKind_0 9 rfl) (rfl) ?_
    exact ⟨(if_neg (fun h => h.1 c1)).symm, rfl, rfl⟩
  · -- not taken at 1
    refine g_iload_n F 1 (dk dtX5_hasKind_0 2 rfl) rfl ?_
    refine g_aload_n F 0 (dk dtX5_hasKind_0 3 rfl) rfl ?_
    refine g_get F fa_X5_9 (dk dtX5_hasKind_0 4 rfl) (by decide) (cc10 D B _ _) rfl ?_
    refine g_top hn ?_
    refine g_icmp_ge F 16 (dk dtX5_hasKind_0 5 rfl) (by decide) (fun c9 => ?_) (fun c9 => ?_)
    · -- taken at 9
      refine g_iconst F (nI 0) (dk dtX5_hasKind_0 8 rfl) (by decide) ?_
      refine g_zret (F := F) hQ (dk dtX5_hasKind_0 9 rfl) (rfl) ?_
      exact ⟨(if_neg (fun h => h.2 c9)).symm, rfl, rfl⟩
    · -- not taken at 9
      refine g_iconst F (nI 1) (dk dtX5_hasKind_0 6 rfl) (by decide) ?_
      refine g_goto F 17 (dk dtX5_hasKind_0 7 rfl) (by decide) ?_
      refine g_zret (F := F) hQ (dk dtX5_hasKind_0 9 rfl) (rfl) ?_
      exact ⟨(if_pos ⟨c1, c9⟩).symm, rfl, rfl⟩
set_option maxRecDepth 100000 in
set_option maxHeartbeats 4000000 in
theorem k_X5_hasPlaceR (l : Launch) (D : DX) (B : Nat) (T : Int64) (M : Mem) (v : Int32) (n : Nat) (hn : M 10 1 = nI n) : Ci l D B 108 (celC D B) yX5_hasPlace cX5_hasPlace 2 (some .boolean) 0 [.ref (B + 10), .int v] T M (fun rz T1 M1 => rz = (bI (inR v n)) ∧ T1 = T ∧ M1 = M) := by
  refine g_entryi (L := [(0, .ref (B + 10)), (1, .int v)]) (by decide) (Nat.le_of_ble_eq_true rfl) rfl ?_
  intro zp ze zs zm zb zt zc Q F hQ
  refine g_iload_n F 1 (dk dtX5_hasPlace_0 0 rfl) rfl ?_
  refine g_if_lt F 16 (dk dtX5_hasPlace_0 1 rfl) (by decide) (fun c1 => ?_) (fun c1 => ?_)
  · -- taken at 1
    refine g_iconst F (nI 0) (dk dtX5_hasPlace_0 8 rfl) (by decide) ?_
    refine g_zret (F := F) hQ (dk dtX5_hasPlace_0 9 rfl) (rfl) ?_
    exact ⟨(if_neg (fun h => h.1 c1)).symm, rfl, rfl⟩
  · -- not taken at 1
    refine g_iload_n F 1 (dk dtX5_hasPlace_0 2 rfl) rfl ?_
    refine g_aload_n F 0 (dk dtX5_hasPlace_0 3 rfl) rfl ?_
    refine g_get F fa_X5_15 (dk dtX5_hasPlace_0 4 rfl) (by decide) (cc10 D B _ _) rfl ?_
    refine g_top hn ?_
    refine g_icmp_ge F 16 (dk dtX5_hasPlace_0 5 rfl) (by decide) (fun c9 => ?_) (fun c9 => ?_)
    · -- taken at 9
      refine g_iconst F (nI 0) (dk dtX5_hasPlace_0 8 rfl) (by decide) ?_
      refine g_zret (F := F) hQ (dk dtX5_hasPlace_0 9 rfl) (rfl) ?_
      exact ⟨(if_neg (fun h => h.2 c9)).symm, rfl, rfl⟩
    · -- not taken at 9
      refine g_iconst F (nI 1) (dk dtX5_hasPlace_0 6 rfl) (by decide) ?_
      refine g_goto F 17 (dk dtX5_hasPlace_0 7 rfl) (by decide) ?_
      refine g_zret (F := F) hQ (dk dtX5_hasPlace_0 9 rfl) (rfl) ?_
      exact ⟨(if_pos ⟨c1, c9⟩).symm, rfl, rfl⟩
set_option maxRecDepth 100000 in
set_option maxHeartbeats 4000000 in
theorem k_X5_hasPersonR (l : Launch) (D : DX) (B : Nat) (T : Int64) (M : Mem) (v : Int32) (n : Nat) (hn : M 10 2 = nI n) : Ci l D B 108 (celC D B) yX5_hasPerson cX5_hasPerson 2 (some .boolean) 0 [.ref (B + 10), .int v] T M (fun rz T1 M1 => rz = (bI (inR v n)) ∧ T1 = T ∧ M1 = M) := by
  refine g_entryi (L := [(0, .ref (B + 10)), (1, .int v)]) (by decide) (Nat.le_of_ble_eq_true rfl) rfl ?_
  intro zp ze zs zm zb zt zc Q F hQ
  refine g_iload_n F 1 (dk dtX5_hasPerson_0 0 rfl) rfl ?_
  refine g_if_lt F 16 (dk dtX5_hasPerson_0 1 rfl) (by decide) (fun c1 => ?_) (fun c1 => ?_)
  · -- taken at 1
    refine g_iconst F (nI 0) (dk dtX5_hasPerson_0 8 rfl) (by decide) ?_
    refine g_zret (F := F) hQ (dk dtX5_hasPerson_0 9 rfl) (rfl) ?_
    exact ⟨(if_neg (fun h => h.1 c1)).symm, rfl, rfl⟩
  · -- not taken at 1
    refine g_iload_n F 1 (dk dtX5_hasPerson_0 2 rfl) rfl ?_
    refine g_aload_n F 0 (dk dtX5_hasPerson_0 3 rfl) rfl ?_
    refine g_get F fa_X5_18 (dk dtX5_hasPerson_0 4 rfl) (by decide) (cc10 D B _ _) rfl ?_
    refine g_top hn ?_
    refine g_icmp_ge F 16 (dk dtX5_hasPerson_0 5 rfl) (by decide) (fun c9 => ?_) (fun c9 => ?_)
    · -- taken at 9
      refine g_iconst F (nI 0) (dk dtX5_hasPerson_0 8 rfl) (by decide) ?_
      refine g_zret (F := F) hQ (dk dtX5_hasPerson_0 9 rfl) (rfl) ?_
      exact ⟨(if_neg (fun h => h.2 c9)).symm, rfl, rfl⟩
    · -- not taken at 9
      refine g_iconst F (nI 1) (dk dtX5_hasPerson_0 6 rfl) (by decide) ?_
      refine g_goto F 17 (dk dtX5_hasPerson_0 7 rfl) (by decide) ?_
      refine g_zret (F := F) hQ (dk dtX5_hasPerson_0 9 rfl) (rfl) ?_
      exact ⟨(if_pos ⟨c1, c9⟩).symm, rfl, rfl⟩
set_option maxRecDepth 100000 in
set_option maxHeartbeats 4000000 in
theorem k_X6_isBit (l : Launch) (D : DX) (B : Nat) (T : Int64) (M : Mem) (v : Int32) : Ci l D B 108 (celC D B) yX6_isBit cX6_isBit 1 (some .boolean) 0 [.int v] T M (fun rz T1 M1 => rz = (bI (inR v 2)) ∧ T1 = T ∧ M1 = M) := by
  refine g_entryi (L := [(0, .int v)]) (by decide) (Nat.le_of_ble_eq_true rfl) rfl ?_
  intro zp ze zs zm zb zt zc Q F hQ
  refine g_iload_n F 0 (dk dtX6_isBit_0 0 rfl) rfl ?_
  refine g_if_eq F 9 (dk dtX6_isBit_0 1 rfl) (by decide) (fun c1 => ?_) (fun c1 => ?_)
  · -- taken at 1
    refine g_iconst F (nI 1) (dk dtX6_isBit_0 5 rfl) (by decide) ?_
    refine g_goto F 14 (dk dtX6_isBit_0 6 rfl) (by decide) ?_
    refine g_zret (F := F) hQ (dk dtX6_isBit_0 8 rfl) (rfl) ?_
    exact ⟨(bI_t (inR2 (Or.inl c1))).symm, rfl, rfl⟩
  · -- not taken at 1
    refine g_iload_n F 0 (dk dtX6_isBit_0 2 rfl) rfl ?_
    refine g_iconst F (nI 1) (dk dtX6_isBit_0 3 rfl) (by decide) ?_
    refine g_icmp_ne F 13 (dk dtX6_isBit_0 4 rfl) (by decide) (fun c6 => ?_) (fun c6 => ?_)
    · -- taken at 6
      refine g_iconst F (nI 0) (dk dtX6_isBit_0 7 rfl) (by decide) ?_
      refine g_zret (F := F) hQ (dk dtX6_isBit_0 8 rfl) (rfl) ?_
      exact ⟨(bI_f (fun h => (inR2_of h).elim c1 c6)).symm, rfl, rfl⟩
    · -- not taken at 6
      refine g_iconst F (nI 1) (dk dtX6_isBit_0 5 rfl) (by decide) ?_
      refine g_goto F 14 (dk dtX6_isBit_0 6 rfl) (by decide) ?_
      refine g_zret (F := F) hQ (dk dtX6_isBit_0 8 rfl) (rfl) ?_
      exact ⟨(bI_t (inR2 (Or.inr c6))).symm, rfl, rfl⟩
set_option maxRecDepth 100000 in
set_option maxHeartbeats 4000000 in
theorem k_X6_type_bad (l : Launch) (D : DX) (B : Nat) (T : Int64) (M : Mem) (v : Int32) (hb : ¬ inR v 256) : Ci l D B 108 (celC D B) yX6_type cX6_type 2 (some .int) 0 [.ref (B + 0), .int v] T M (fun rz T1 M1 => rz = (-1) ∧ T1 = T ∧ M1 = M) := by
  refine g_entryi (L := [(0, .ref (B + 0)), (1, .int v)]) (by decide) (Nat.le_of_ble_eq_true rfl) rfl ?_
  intro zp ze zs zm zb zt zc Q F hQ
  refine g_iload_n F 1 (dk dtX6_type_0 0 rfl) rfl ?_
  refine g_if_lt F 11 (dk dtX6_type_0 1 rfl) (by decide) (fun c1 => ?_) (fun c1 => ?_)
  · -- taken at 1
    refine g_iconst F (-1) (dk dtX6_type_0 5 rfl) (by decide) ?_
    refine g_iret (F := F) hQ (dk dtX6_type_0 6 rfl) ?_
    exact ⟨rfl, rfl, rfl⟩
  · -- not taken at 1
    refine g_iload_n F 1 (dk dtX6_type_0 2 rfl) rfl ?_
    refine g_sipush F (nI 255) (dk dtX6_type_0 3 rfl) (by decide) ?_
    refine g_icmp_le F 13 (dk dtX6_type_0 4 rfl) (by decide) (fun c8 => ?_) (fun c8 => ?_)
    · -- taken at 8
      exact absurd ⟨c1, inR_dn (b := 255) (by decide) (Int32.not_lt.mpr c8)⟩ hb
    · -- not taken at 8
      refine g_iconst F (-1) (dk dtX6_type_0 5 rfl) (by decide) ?_
      refine g_iret (F := F) hQ (dk dtX6_type_0 6 rfl) ?_
      exact ⟨rfl, rfl, rfl⟩
set_option maxRecDepth 100000 in
set_option maxHeartbeats 4000000 in
theorem k_X6_type_full (l : Launch) (D : DX) (B : Nat) (T : Int64) (M : Mem) (v : Int32) (hv : inR v 256) (hty : M 1 1 = nI 150) : Ci l D B 108 (celC D B) yX6_type cX6_type 2 (some .int) 0 [.ref (B + 0), .int v] T M (fun rz T1 M1 => rz = (-3) ∧ T1 = T ∧ M1 = M) := by
  refine g_entryi (L := [(0, .ref (B + 0)), (1, .int v)]) (by decide) (Nat.le_of_ble_eq_true rfl) rfl ?_
  intro zp ze zs zm zb zt zc Q F hQ
  refine g_iload_n F 1 (dk dtX6_type_0 0 rfl) rfl ?_
  refine g_if_lt F 11 (dk dtX6_type_0 1 rfl) (by decide) (fun c1 => ?_) (fun c1 => ?_)
  · -- taken at 1
    exact absurd c1 hv.1
  · -- not taken at 1
    refine g_iload_n F 1 (dk dtX6_type_0 2 rfl) rfl ?_
    refine g_sipush F (nI 255) (dk dtX6_type_0 3 rfl) (by decide) ?_
    refine g_icmp_le F 13 (dk dtX6_type_0 4 rfl) (by decide) (fun c8 => ?_) (fun c8 => ?_)
    · -- taken at 8
      refine g_aload_n F 0 (dk dtX6_type_0 7 rfl) rfl ?_
      refine g_get F fa_X6_10 (dk dtX6_type_0 8 rfl) (by decide) (cc0 D B _ _) rfl ?_
      refine g_get F fa_X6_63 (dk dtX6_type_0 9 rfl) (by decide) (cc1 D B _ _) rfl ?_
      refine g_top hty ?_
      refine g_sipush F (nI 150) (dk dtX6_type_0 10 rfl) (by decide) ?_
      refine g_icmp_ltN F 29 (dk dtX6_type_0 11 rfl) (by decide) (by decide) (by decide) (fun c => absurd c (by decide)) (fun _ => ?_)
      refine g_bipush F (-3) (dk dtX6_type_0 12 rfl) (by decide) ?_
      refine g_iret (F := F) hQ (dk dtX6_type_0 13 rfl) ?_
      exact ⟨rfl, rfl, rfl⟩
    · -- not taken at 8
      exact absurd (inR_up (b := 255) (by decide) (Int32.not_le.mp c8)) hv.2
set_option maxRecDepth 100000 in
set_option maxHeartbeats 4000000 in
theorem k_X6_type (l : Launch) (D : DX) (B : Nat) (T : Int64) (M : Mem) (v : Int32) (hv : inR v 256) (ty : Nat) (hty : M 1 1 = nI ty) (hty9 : ty ≤ 150) (hty1 : ty < 150) : Ci l D B 108 (celC D B) yX6_type cX6_type 2 (some .int) 0 [.ref (B + 0), .int v] T M (fun r T1 M1 => r = nI (ty + 1) ∧ T1 = T ∧ M1 = up2 (up2 M 2 ty v) 1 1 (nI (ty + 1))) := by
  refine g_entryi (L := [(0, .ref (B + 0)), (1, .int v)]) (by decide) (Nat.le_of_ble_eq_true rfl) rfl ?_
  intro zp ze zs zm zb zt zc Q F hQ
  refine g_iload_n F 1 (dk dtX6_type_0 0 rfl) rfl ?_
  refine g_if_lt F 11 (dk dtX6_type_0 1 rfl) (by decide) (fun c1 => ?_) (fun c1 => ?_)
  · -- taken at 1
    exact absurd c1 hv.1
  · -- not taken at 1
    refine g_iload_n F 1 (dk dtX6_type_0 2 rfl) rfl ?_
    refine g_sipush F (nI 255) (dk dtX6_type_0 3 rfl) (by decide) ?_
    refine g_icmp_le F 13 (dk dtX6_type_0 4 rfl) (by decide) (fun c8 => ?_) (fun c8 => ?_)
    · -- taken at 8
      refine g_aload_n F 0 (dk dtX6_type_0 7 rfl) rfl ?_
      refine g_get F fa_X6_10 (dk dtX6_type_0 8 rfl) (by decide) (cc0 D B _ _) rfl ?_
      refine g_get F fa_X6_63 (dk dtX6_type_0 9 rfl) (by decide) (cc1 D B _ _) rfl ?_
      refine g_top hty ?_
      refine g_sipush F (nI 150) (dk dtX6_type_0 10 rfl) (by decide) ?_
      refine g_icmp_ltN F 29 (dk dtX6_type_0 11 rfl) (by decide) (by omega) (by omega) (fun c23 => ?_) (fun c23 => ?_)
      · -- taken at 23
        refine g_aload_n F 0 (dk dtX6_type_0 14 rfl) rfl ?_
        refine g_get F fa_X6_10 (dk dtX6_type_0 15 rfl) (by decide) (cc0 D B _ _) rfl ?_
        refine g_get F fa_X6_67 (dk dtX6_type_0 16 rfl) (by decide) (cc1 D B _ _) rfl ?_
        refine g_aload_n F 0 (dk dtX6_type_0 17 rfl) rfl ?_
        refine g_get F fa_X6_10 (dk dtX6_type_0 18 rfl) (by decide) (cc0 D B _ _) rfl ?_
        refine g_get F fa_X6_63 (dk dtX6_type_0 19 rfl) (by decide) (cc1 D B _ _) rfl ?_
        refine g_top hty ?_
        refine g_iload_n F 1 (dk dtX6_type_0 20 rfl) rfl ?_
        refine g_iast F (ty) (dk dtX6_type_0 21 rfl) (by decide) (fun r => cc2 D B _ r) (by omega) (by decide) ?_
        refine g_aload_n F 0 (dk dtX6_type_0 22 rfl) rfl ?_
        refine g_get F fa_X6_10 (dk dtX6_type_0 23 rfl) (by decide) (cc0 D B _ _) rfl ?_
        refine g_dup F (dk dtX6_type_0 24 rfl) rfl ?_
        refine g_get F fa_X6_63 (dk dtX6_type_0 25 rfl) (by decide) (cc1 D B _ _) rfl ?_
        refine g_top (congrFun (up2_ne _ _ (by decide)) _) ?_
        refine g_top hty ?_
        refine g_iconst F (nI 1) (dk dtX6_type_0 26 rfl) (by decide) ?_
        refine g_iaddN F (dk dtX6_type_0 27 rfl) ?_
        refine g_put F fa_X6_63 (dk dtX6_type_0 28 rfl) (by decide) (cc1 D B _ _) (Nat.le_of_ble_eq_true rfl) rfl rfl ((cc1 D B _ _).trans st_Text_1) ?_
        refine g_aload_n F 0 (dk dtX6_type_0 29 rfl) rfl ?_
        refine g_get F fa_X6_10 (dk dtX6_type_0 30 rfl) (by decide) (cc0 D B _ _) rfl ?_
        refine g_get F fa_X6_63 (dk dtX6_type_0 31 rfl) (by decide) (cc1 D B _ _) rfl ?_
        refine g_top ((congrFun (up2_self _ _ _ _) _).trans pk_us) ?_
        refine g_iret (F := F) hQ (dk dtX6_type_0 32 rfl) ?_
        exact ⟨rfl, rfl, rfl⟩
      · -- not taken at 23
        exact absurd hty1 c23
    · -- not taken at 8
      exact absurd (inR_up (b := 255) (by decide) (Int32.not_le.mp c8)) hv.2
set_option maxRecDepth 100000 in
set_option maxHeartbeats 4000000 in
theorem k_X6_clear (l : Launch) (D : DX) (B : Nat) (T : Int64) (M : Mem)  : Ci l D B 108 (celC D B) yX6_clear cX6_clear 2 (some .int) 0 [.ref (B + 0)] T M (fun r T1 M1 => r = M 1 1 ∧ T1 = T ∧ M1 = up2 M 1 1 (nI 0)) := by
  refine g_entryi (L := [(0, .ref (B + 0))]) (by decide) (Nat.le_of_ble_eq_true rfl) rfl ?_
  intro zp ze zs zm zb zt zc Q F hQ
  refine g_aload_n F 0 (dk dtX6_clear_0 0 rfl) rfl ?_
  refine g_get F fa_X6_10 (dk dtX6_clear_0 1 rfl) (by decide) (cc0 D B _ _) rfl ?_
  refine g_get F fa_X6_63 (dk dtX6_clear_0 2 rfl) (by decide) (cc1 D B _ _) rfl ?_
  refine g_istore_n F [(1, .int (M 1 1)), (0, .ref (B + 0))] (dk dtX6_clear_0 3 rfl) (by decide) rfl ?_
  refine g_aload_n F 1 (dk dtX6_clear_0 4 rfl) rfl ?_
  refine g_get F fa_X6_10 (dk dtX6_clear_0 5 rfl) (by decide) (cc0 D B _ _) rfl ?_
  refine g_iconst F (nI 0) (dk dtX6_clear_0 6 rfl) (by decide) ?_
  refine g_put F fa_X6_63 (dk dtX6_clear_0 7 rfl) (by decide) (cc1 D B _ _) (Nat.le_of_ble_eq_true rfl) rfl rfl ((cc1 D B _ _).trans st_Text_1) ?_
  refine g_iload_n F 0 (dk dtX6_clear_0 8 rfl) rfl ?_
  refine g_iret (F := F) hQ (dk dtX6_clear_0 9 rfl) ?_
  exact ⟨rfl, rfl, rfl⟩
set_option maxRecDepth 100000 in
set_option maxHeartbeats 4000000 in
theorem k_X6_forget (l : Launch) (D : DX) (B : Nat) (T : Int64) (M : Mem)  : Ci l D B 108 (celC D B) yX6_forget cX6_forget 2 (some .int) 0 [.ref (B + 0)] T M (fun r T1 M1 => r = M 92 3 ∧ T1 = T ∧ M1 = up2 M 92 3 (nI 0)) := by
  refine g_entryi (L := [(0, .ref (B + 0))]) (by decide) (Nat.le_of_ble_eq_true rfl) rfl ?_
  intro zp ze zs zm zb zt zc Q F hQ
  refine g_aload_n F 0 (dk dtX6_forget_0 0 rfl) rfl ?_
  refine g_get F fa_X6_47 (dk dtX6_forget_0 1 rfl) (by decide) (cc0 D B _ _) rfl ?_
  refine g_get F fa_X6_91 (dk dtX6_forget_0 2 rfl) (by decide) (cc92 D B _ _) rfl ?_
  refine g_istore_n F [(1, .int (M 92 3)), (0, .ref (B + 0))] (dk dtX6_forget_0 3 rfl) (by decide) rfl ?_
  refine g_aload_n F 1 (dk dtX6_forget_0 4 rfl) rfl ?_
  refine g_get F fa_X6_47 (dk dtX6_forget_0 5 rfl) (by decide) (cc0 D B _ _) rfl ?_
  refine g_iconst F (nI 0) (dk dtX6_forget_0 6 rfl) (by decide) ?_
  refine g_put F fa_X6_91 (dk dtX6_forget_0 7 rfl) (by decide) (cc92 D B _ _) (Nat.le_of_ble_eq_true rfl) rfl rfl ((cc92 D B _ _).trans st_Note_3) ?_
  refine g_iload_n F 0 (dk dtX6_forget_0 8 rfl) rfl ?_
  refine g_iret (F := F) hQ (dk dtX6_forget_0 9 rfl) ?_
  exact ⟨rfl, rfl, rfl⟩
set_option maxRecDepth 100000 in
set_option maxHeartbeats 4000000 in
theorem k_X6_trace (l : Launch) (D : DX) (B : Nat) (T : Int64) (M : Mem)  : Cl l D B 108 (celC D B) yX6_trace cX6_trace 1 (some .long) 0 [.ref (B + 0)] T M (fun r T1 M1 => r = T ∧ T1 = T ∧ M1 = M) := by
  refine g_entryl (L := [(0, .ref (B + 0))]) (by decide) (Nat.le_of_ble_eq_true rfl) rfl ?_
  intro zp ze zs zm zb zt zc Q F hQ
  refine g_aload_n F 0 (dk dtX6_trace_0 0 rfl) rfl ?_
  refine g_get F fa_X6_59 (dk dtX6_trace_0 1 rfl) (by decide) (cc0 D B _ _) rfl ?_
  refine g_lret (F := F) hQ (dk dtX6_trace_0 2 rfl) ?_
  exact ⟨rfl, rfl, rfl⟩
set_option maxRecDepth 100000 in
set_option maxHeartbeats 4000000 in
theorem k_X6_person_0 (l : Launch) (D : DX) (B : Nat) (T : Int64) (M : Mem) (P : Nat) (hP : M 10 2 = nI P) (hP5 : P ≤ 5) (p : Nat) (hp : p < P) : Ci l D B 108 (celC D B) yX6_person cX6_person 3 (some .int) 1 [.ref (B + 0), .int (nI p), .int (nI 0)] T M (fun rz T1 M1 => rz = (M 11 p) ∧ T1 = T ∧ M1 = M) := by
  refine g_entryi (L := [(0, .ref (B + 0)), (1, .int (nI p)), (2, .int (nI 0))]) (by decide) (Nat.le_of_ble_eq_true rfl) rfl ?_
  intro zp ze zs zm zb zt zc Q F hQ
  refine g_aload_n F 0 (dk dtX6_person_0 0 rfl) rfl ?_
  refine g_get F fa_X6_19 (dk dtX6_person_0 1 rfl) (by decide) (cc0 D B _ _) rfl ?_
  refine g_iload_n F 1 (dk dtX6_person_0 2 rfl) rfl ?_
  refine g_callVi F (As := [.int (nI p)]) (st := []) cv_X6_94 (dk dtX6_person_0 3 rfl) (by decide) (cc10 D B _ _) rfl rfl (Nat.le_of_ble_eq_true rfl) ⟨by decide, by decide⟩ (k_X5_hasPersonR l D B _ _ _ P hP) (fun r5 T5 M5 hp5 => ?_)
  obtain ⟨e1, e2, e3⟩ := hp5
  replace e1 := e1.symm; replace e2 := e2.symm; replace e3 := e3.symm; subst e1; subst e2; subst e3
  refine g_if_neB F 13 (dk dtX6_person_0 4 rfl) (by decide) (fun _ => ?_) (fun c => absurd (inR_nI (by omega)) c)
  refine g_iload_n F 2 (dk dtX6_person_0 7 rfl) rfl ?_
  refine g_tabIn F 44 (dk dtX6_person_0 8 rfl) (by decide) (by decide) rfl (by decide) ?_
  refine g_aload_n F 0 (dk dtX6_person_0 9 rfl) rfl ?_
  refine g_get F fa_X6_19 (dk dtX6_person_0 10 rfl) (by decide) (cc0 D B _ _) rfl ?_
  refine g_get F fa_X6_98 (dk dtX6_person_0 11 rfl) (by decide) (cc10 D B _ _) rfl ?_
  refine g_iload_n F 1 (dk dtX6_person_0 12 rfl) rfl ?_
  refine g_iald F (p) (dk dtX6_person_0 13 rfl) (by decide) (cc11 D B _ _) (by omega) (by decide) ?_
  refine g_iret (F := F) hQ (dk dtX6_person_0 14 rfl) ?_
  exact ⟨rfl, rfl, rfl⟩
set_option maxRecDepth 100000 in
set_option maxHeartbeats 4000000 in
theorem k_X6_person_1 (l : Launch) (D : DX) (B : Nat) (T : Int64) (M : Mem) (P : Nat) (hP : M 10 2 = nI P) (hP5 : P ≤ 5) (p : Nat) (hp : p < P) : Ci l D B 108 (celC D B) yX6_person cX6_person 3 (some .int) 1 [.ref (B + 0), .int (nI p), .int (nI 1)] T M (fun rz T1 M1 => rz = (M 13 p) ∧ T1 = T ∧ M1 = M) := by
  refine g_entryi (L := [(0, .ref (B + 0)), (1, .int (nI p)), (2, .int (nI 1))]) (by decide) (Nat.le_of_ble_eq_true rfl) rfl ?_
  intro zp ze zs zm zb zt zc Q F hQ
  refine g_aload_n F 0 (dk dtX6_person_0 0 rfl) rfl ?_
  refine g_get F fa_X6_19 (dk dtX6_person_0 1 rfl) (by decide) (cc0 D B _ _) rfl ?_
  refine g_iload_n F 1 (dk dtX6_person_0 2 rfl) rfl ?_
  refine g_callVi F (As := [.int (nI p)]) (st := []) cv_X6_94 (dk dtX6_person_0 3 rfl) (by decide) (cc10 D B _ _) rfl rfl (Nat.le_of_ble_eq_true rfl) ⟨by decide, by decide⟩ (k_X5_hasPersonR l D B _ _ _ P hP) (fun r5 T5 M5 hp5 => ?_)
  obtain ⟨e1, e2, e3⟩ := hp5
  replace e1 := e1.symm; replace e2 := e2.symm; replace e3 := e3.symm; subst e1; subst e2; subst e3
  refine g_if_neB F 13 (dk dtX6_person_0 4 rfl) (by decide) (fun _ => ?_) (fun c => absurd (inR_nI (by omega)) c)
  refine g_iload_n F 2 (dk dtX6_person_0 7 rfl) rfl ?_
  refine g_tabIn F 54 (dk dtX6_person_0 8 rfl) (by decide) (by decide) rfl (by decide) ?_
  refine g_aload_n F 0 (dk dtX6_person_0 15 rfl) rfl ?_
  refine g_get F fa_X6_26 (dk dtX6_person_0 16 rfl) (by decide) (cc0 D B _ _) rfl ?_
  refine g_get F fa_X6_101 (dk dtX6_person_0 17 rfl) (by decide) (cc12 D B _ _) rfl ?_
  refine g_iload_n F 1 (dk dtX6_person_0 18 rfl) rfl ?_
  refine g_iald F (p) (dk dtX6_person_0 19 rfl) (by decide) (cc13 D B _ _) (by omega) (by decide) ?_
  refine g_iret (F := F) hQ (dk dtX6_person_0 20 rfl) ?_
  exact ⟨rfl, rfl, rfl⟩
set_option maxRecDepth 100000 in
set_option maxHeartbeats 4000000 in
theorem k_X6_person_2 (l : Launch) (D : DX) (B : Nat) (T : Int64) (M : Mem) (P : Nat) (hP : M 10 2 = nI P) (hP5 : P ≤ 5) (p : Nat) (hp : p < P) : Ci l D B 108 (celC D B) yX6_person cX6_person 3 (some .int) 1 [.ref (B + 0), .int (nI p), .int (nI 2)] T M (fun rz T1 M1 => rz = (M 14 p) ∧ T1 = T ∧ M1 = M) := by
  refine g_entryi (L := [(0, .ref (B + 0)), (1, .int (nI p)), (2, .int (nI 2))]) (by decide) (Nat.le_of_ble_eq_true rfl) rfl ?_
  intro zp ze zs zm zb zt zc Q F hQ
  refine g_aload_n F 0 (dk dtX6_person_0 0 rfl) rfl ?_
  refine g_get F fa_X6_19 (dk dtX6_person_0 1 rfl) (by decide) (cc0 D B _ _) rfl ?_
  refine g_iload_n F 1 (dk dtX6_person_0 2 rfl) rfl ?_
  refine g_callVi F (As := [.int (nI p)]) (st := []) cv_X6_94 (dk dtX6_person_0 3 rfl) (by decide) (cc10 D B _ _) rfl rfl (Nat.le_of_ble_eq_true rfl) ⟨by decide, by decide⟩ (k_X5_hasPersonR l D B _ _ _ P hP) (fun r5 T5 M5 hp5 => ?_)
  obtain ⟨e1, e2, e3⟩ := hp5
  replace e1 := e1.symm; replace e2 := e2.symm; replace e3 := e3.symm; subst e1; subst e2; subst e3
  refine g_if_neB F 13 (dk dtX6_person_0 4 rfl) (by decide) (fun _ => ?_) (fun c => absurd (inR_nI (by omega)) c)
  refine g_iload_n F 2 (dk dtX6_person_0 7 rfl) rfl ?_
  refine g_tabIn F 64 (dk dtX6_person_0 8 rfl) (by decide) (by decide) rfl (by decide) ?_
  refine g_aload_n F 0 (dk dtX6_person_0 21 rfl) rfl ?_
  refine g_get F fa_X6_26 (dk dtX6_person_0 22 rfl) (by decide) (cc0 D B _ _) rfl ?_
  refine g_get F fa_X6_104 (dk dtX6_person_0 23 rfl) (by decide) (cc12 D B _ _) rfl ?_
  refine g_iload_n F 1 (dk dtX6_person_0 24 rfl) rfl ?_
  refine g_iald F (p) (dk dtX6_person_0 25 rfl) (by decide) (cc14 D B _ _) (by omega) (by decide) ?_
  refine g_iret (F := F) hQ (dk dtX6_person_0 26 rfl) ?_
  exact ⟨rfl, rfl, rfl⟩
set_option maxRecDepth 100000 in
set_option maxHeartbeats 4000000 in
theorem k_X6_person_3 (l : Launch) (D : DX) (B : Nat) (T : Int64) (M : Mem) (P : Nat) (hP : M 10 2 = nI P) (hP5 : P ≤ 5) (p : Nat) (hp : p < P) : Ci l D B 108 (celC D B) yX6_person cX6_person 3 (some .int) 1 [.ref (B + 0), .int (nI p), .int (nI 3)] T M (fun rz T1 M1 => rz = (M 16 p) ∧ T1 = T ∧ M1 = M) := by
  refine g_entryi (L := [(0, .ref (B + 0)), (1, .int (nI p)), (2, .int (nI 3))]) (by decide) (Nat.le_of_ble_eq_true rfl) rfl ?_
  intro zp ze zs zm zb zt zc Q F hQ
  refine g_aload_n F 0 (dk dtX6_person_0 0 rfl) rfl ?_
  refine g_get F fa_X6_19 (dk dtX6_person_0 1 rfl) (by decide) (cc0 D B _ _) rfl ?_
  refine g_iload_n F 1 (dk dtX6_person_0 2 rfl) rfl ?_
  refine g_callVi F (As := [.int (nI p)]) (st := []) cv_X6_94 (dk dtX6_person_0 3 rfl) (by decide) (cc10 D B _ _) rfl rfl (Nat.le_of_ble_eq_true rfl) ⟨by decide, by decide⟩ (k_X5_hasPersonR l D B _ _ _ P hP) (fun r5 T5 M5 hp5 => ?_)
  obtain ⟨e1, e2, e3⟩ := hp5
  replace e1 := e1.symm; replace e2 := e2.symm; replace e3 := e3.symm; subst e1; subst e2; subst e3
  refine g_if_neB F 13 (dk dtX6_person_0 4 rfl) (by decide) (fun _ => ?_) (fun c => absurd (inR_nI (by omega)) c)
  refine g_iload_n F 2 (dk dtX6_person_0 7 rfl) rfl ?_
  refine g_tabIn F 74 (dk dtX6_person_0 8 rfl) (by decide) (by decide) rfl (by decide) ?_
  refine g_aload_n F 0 (dk dtX6_person_0 27 rfl) rfl ?_
  refine g_get F fa_X6_26 (dk dtX6_person_0 28 rfl) (by decide) (cc0 D B _ _) rfl ?_
  refine g_get F fa_X6_107 (dk dtX6_person_0 29 rfl) (by decide) (cc12 D B _ _) rfl ?_
  refine g_iload_n F 1 (dk dtX6_person_0 30 rfl) rfl ?_
  refine g_iald F (p) (dk dtX6_person_0 31 rfl) (by decide) (cc16 D B _ _) (by omega) (by decide) ?_
  refine g_iret (F := F) hQ (dk dtX6_person_0 32 rfl) ?_
  exact ⟨rfl, rfl, rfl⟩
set_option maxRecDepth 100000 in
set_option maxHeartbeats 4000000 in
theorem k_X6_person_bad (l : Launch) (D : DX) (B : Nat) (T : Int64) (M : Mem) (P : Nat) (hP : M 10 2 = nI P) (hP5 : P ≤ 5) (p w : Int32) (hb : ¬ (inR p P ∧ inR w 4)) : Ci l D B 108 (celC D B) yX6_person cX6_person 3 (some .int) 1 [.ref (B + 0), .int p, .int w] T M (fun rz T1 M1 => rz = (-1) ∧ T1 = T ∧ M1 = M) := by
  refine g_entryi (L := [(0, .ref (B + 0)), (1, .int p), (2, .int w)]) (by decide) (Nat.le_of_ble_eq_true rfl) rfl ?_
  intro zp ze zs zm zb zt zc Q F hQ
  refine g_aload_n F 0 (dk dtX6_person_0 0 rfl) rfl ?_
  refine g_get F fa_X6_19 (dk dtX6_person_0 1 rfl) (by decide) (cc0 D B _ _) rfl ?_
  refine g_iload_n F 1 (dk dtX6_person_0 2 rfl) rfl ?_
  refine g_callVi F (As := [.int p]) (st := []) cv_X6_94 (dk dtX6_person_0 3 rfl) (by decide) (cc10 D B _ _) rfl rfl (Nat.le_of_ble_eq_true rfl) ⟨by decide, by decide⟩ (k_X5_hasPersonR l D B _ _ _ P hP) (fun r5 T5 M5 hp5 => ?_)
  obtain ⟨e1, e2, e3⟩ := hp5
  replace e1 := e1.symm; replace e2 := e2.symm; replace e3 := e3.symm; subst e1; subst e2; subst e3
  refine g_if_neB F 13 (dk dtX6_person_0 4 rfl) (by decide) (fun c8 => ?_) (fun c8 => ?_)
  · -- taken at 8
    refine g_iload_n F 2 (dk dtX6_person_0 7 rfl) rfl ?_
    refine g_tabOut F 84 (dk dtX6_person_0 8 rfl) (inR_out 3 (fun h => hb ⟨c8, h⟩)) (by decide) ?_
    refine g_iconst F (-1) (dk dtX6_person_0 33 rfl) (by decide) ?_
    refine g_iret (F := F) hQ (dk dtX6_person_0 34 rfl) ?_
    exact ⟨rfl, rfl, rfl⟩
  · -- not taken at 8
    refine g_iconst F (-1) (dk dtX6_person_0 5 rfl) (by decide) ?_
    refine g_iret (F := F) hQ (dk dtX6_person_0 6 rfl) ?_
    exact ⟨rfl, rfl, rfl⟩
set_option maxRecDepth 100000 in
set_option maxHeartbeats 4000000 in
theorem k_X6_seen (l : Launch) (D : DX) (B : Nat) (T : Int64) (M : Mem) (P : Nat) (hP : M 10 2 = nI P) (hP5 : P ≤ 5) (K : Nat) (hK : M 10 0 = nI K) (hK1 : 1 ≤ K) (hK4 : K ≤ 4) (p k : Nat) (hp : p < P) (hk : k < K) : Ci l D B 108 (celC D B) yX6_seen cX6_seen 3 (some .int) 1 [.ref (B + 0), .int (nI p), .int (nI k)] T M (fun rz T1 M1 => rz = (M 15 (p * 4 + k)) ∧ T1 = T ∧ M1 = M) := by
  refine g_entryi (L := [(0, .ref (B + 0)), (1, .int (nI p)), (2, .int (nI k))]) (by decide) (Nat.le_of_ble_eq_true rfl) rfl ?_
  intro zp ze zs zm zb zt zc Q F hQ
  refine g_aload_n F 0 (dk dtX6_seen_0 0 rfl) rfl ?_
  refine g_get F fa_X6_19 (dk dtX6_seen_0 1 rfl) (by decide) (cc0 D B _ _) rfl ?_
  refine g_iload_n F 1 (dk dtX6_seen_0 2 rfl) rfl ?_
  refine g_callVi F (As := [.int (nI p)]) (st := []) cv_X6_94 (dk dtX6_seen_0 3 rfl) (by decide) (cc10 D B _ _) rfl rfl (Nat.le_of_ble_eq_true rfl) ⟨by decide, by decide⟩ (k_X5_hasPersonR l D B _ _ _ P hP) (fun r5 T5 M5 hp5 => ?_)
  obtain ⟨e1, e2, e3⟩ := hp5
  replace e1 := e1.symm; replace e2 := e2.symm; replace e3 := e3.symm; subst e1; subst e2; subst e3
  refine g_if_eqB F 22 (dk dtX6_seen_0 4 rfl) (by decide) (fun c => absurd (inR_nI (by omega)) c) (fun _ => ?_)
  refine g_aload_n F 0 (dk dtX6_seen_0 5 rfl) rfl ?_
  refine g_get F fa_X6_19 (dk dtX6_seen_0 6 rfl) (by decide) (cc0 D B _ _) rfl ?_
  refine g_iload_n F 2 (dk dtX6_seen_0 7 rfl) rfl ?_
  refine g_callVi F (As := [.int (nI k)]) (st := []) cv_X6_110 (dk dtX6_seen_0 8 rfl) (by decide) (cc10 D B _ _) rfl rfl (Nat.le_of_ble_eq_true rfl) ⟨by decide, by decide⟩ (k_X5_hasKindR l D B _ _ _ K hK) (fun r16 T16 M16 hp16 => ?_)
  obtain ⟨e1, e2, e3⟩ := hp16
  replace e1 := e1.symm; replace e2 := e2.symm; replace e3 := e3.symm; subst e1; subst e2; subst e3
  refine g_if_neB F 24 (dk dtX6_seen_0 9 rfl) (by decide) (fun _ => ?_) (fun c => absurd (inR_nI (by omega)) c)
  refine g_aload_n F 0 (dk dtX6_seen_0 12 rfl) rfl ?_
  refine g_get F fa_X6_26 (dk dtX6_seen_0 13 rfl) (by decide) (cc0 D B _ _) rfl ?_
  refine g_iload_n F 1 (dk dtX6_seen_0 14 rfl) rfl ?_
  refine g_iload_n F 2 (dk dtX6_seen_0 15 rfl) rfl ?_
  refine g_callVi F (As := [.int (nI p), .int (nI k)]) (st := []) cv_X6_113 (dk dtX6_seen_0 16 rfl) (by decide) (cc12 D B _ _) rfl rfl (Nat.le_of_ble_eq_true rfl) ⟨by decide, by decide⟩ (k_X2_seenOf l D B _ _ 12 (isNow12 D B) _ _ (by omega) (by omega)) (fun r30 T30 M30 hp30 => ?_)
  obtain ⟨e1, e2, e3⟩ := hp30
  replace e1 := e1.symm; replace e2 := e2.symm; replace e3 := e3.symm; subst e1; subst e2; subst e3
  refine g_iret (F := F) hQ (dk dtX6_seen_0 17 rfl) ?_
  exact ⟨rfl, rfl, rfl⟩
set_option maxRecDepth 100000 in
set_option maxHeartbeats 4000000 in
theorem k_X6_seen_bad (l : Launch) (D : DX) (B : Nat) (T : Int64) (M : Mem) (P : Nat) (hP : M 10 2 = nI P) (hP5 : P ≤ 5) (K : Nat) (hK : M 10 0 = nI K) (hK1 : 1 ≤ K) (hK4 : K ≤ 4) (p k : Int32) (hb : ¬ (inR p P ∧ inR k K)) : Ci l D B 108 (celC D B) yX6_seen cX6_seen 3 (some .int) 1 [.ref (B + 0), .int p, .int k] T M (fun rz T1 M1 => rz = (-1) ∧ T1 = T ∧ M1 = M) := by
  refine g_entryi (L := [(0, .ref (B + 0)), (1, .int p), (2, .int k)]) (by decide) (Nat.le_of_ble_eq_true rfl) rfl ?_
  intro zp ze zs zm zb zt zc Q F hQ
  refine g_aload_n F 0 (dk dtX6_seen_0 0 rfl) rfl ?_
  refine g_get F fa_X6_19 (dk dtX6_seen_0 1 rfl) (by decide) (cc0 D B _ _) rfl ?_
  refine g_iload_n F 1 (dk dtX6_seen_0 2 rfl) rfl ?_
  refine g_callVi F (As := [.int p]) (st := []) cv_X6_94 (dk dtX6_seen_0 3 rfl) (by decide) (cc10 D B _ _) rfl rfl (Nat.le_of_ble_eq_true rfl) ⟨by decide, by decide⟩ (k_X5_hasPersonR l D B _ _ _ P hP) (fun r5 T5 M5 hp5 => ?_)
  obtain ⟨e1, e2, e3⟩ := hp5
  replace e1 := e1.symm; replace e2 := e2.symm; replace e3 := e3.symm; subst e1; subst e2; subst e3
  refine g_if_eqB F 22 (dk dtX6_seen_0 4 rfl) (by decide) (fun c8 => ?_) (fun c8 => ?_)
  · -- taken at 8
    refine g_iconst F (-1) (dk dtX6_seen_0 10 rfl) (by decide) ?_
    refine g_iret (F := F) hQ (dk dtX6_seen_0 11 rfl) ?_
    exact ⟨rfl, rfl, rfl⟩
  · -- not taken at 8
    refine g_aload_n F 0 (dk dtX6_seen_0 5 rfl) rfl ?_
    refine g_get F fa_X6_19 (dk dtX6_seen_0 6 rfl) (by decide) (cc0 D B _ _) rfl ?_
    refine g_iload_n F 2 (dk dtX6_seen_0 7 rfl) rfl ?_
    refine g_callVi F (As := [.int k]) (st := []) cv_X6_110 (dk dtX6_seen_0 8 rfl) (by decide) (cc10 D B _ _) rfl rfl (Nat.le_of_ble_eq_true rfl) ⟨by decide, by decide⟩ (k_X5_hasKindR l D B _ _ _ K hK) (fun r16 T16 M16 hp16 => ?_)
    obtain ⟨e1, e2, e3⟩ := hp16
    replace e1 := e1.symm; replace e2 := e2.symm; replace e3 := e3.symm; subst e1; subst e2; subst e3
    refine g_if_neB F 24 (dk dtX6_seen_0 9 rfl) (by decide) (fun c19 => ?_) (fun c19 => ?_)
    · -- taken at 19
      exact absurd ⟨c8, c19⟩ hb
    · -- not taken at 19
      refine g_iconst F (-1) (dk dtX6_seen_0 10 rfl) (by decide) ?_
      refine g_iret (F := F) hQ (dk dtX6_seen_0 11 rfl) ?_
      exact ⟨rfl, rfl, rfl⟩
set_option maxRecDepth 100000 in
set_option maxHeartbeats 4000000 in
theorem k_X6_surprise (l : Launch) (D : DX) (B : Nat) (T : Int64) (M : Mem) (P : Nat) (hP : M 10 2 = nI P) (hP5 : P ≤ 5) (K : Nat) (hK : M 10 0 = nI K) (hK1 : 1 ≤ K) (hK4 : K ≤ 4) (p k : Nat) (hp : p < P) (hk : k < K) : Ci l D B 108 (celC D B) yX6_surprise cX6_surprise 3 (some .int) 1 [.ref (B + 0), .int (nI p), .int (nI k)] T M (fun rz T1 M1 => rz = (shk M 12 p k) ∧ T1 = T ∧ M1 = M) := by
  refine g_entryi (L := [(0, .ref (B + 0)), (1, .int (nI p)), (2, .int (nI k))]) (by decide) (Nat.le_of_ble_eq_true rfl) rfl ?_
  intro zp ze zs zm zb zt zc Q F hQ
  refine g_aload_n F 0 (dk dtX6_surprise_0 0 rfl) rfl ?_
  refine g_get F fa_X6_19 (dk dtX6_surprise_0 1 rfl) (by decide) (cc0 D B _ _) rfl ?_
  refine g_iload_n F 1 (dk dtX6_surprise_0 2 rfl) rfl ?_
  refine g_callVi F (As := [.int (nI p)]) (st := []) cv_X6_94 (dk dtX6_surprise_0 3 rfl) (by decide) (cc10 D B _ _) rfl rfl (Nat.le_of_ble_eq_true rfl) ⟨by decide, by decide⟩ (k_X5_hasPersonR l D B _ _ _ P hP) (fun r5 T5 M5 hp5 => ?_)
  obtain ⟨e1, e2, e3⟩ := hp5
  replace e1 := e1.symm; replace e2 := e2.symm; replace e3 := e3.symm; subst e1; subst e2; subst e3
  refine g_if_eqB F 22 (dk dtX6_surprise_0 4 rfl) (by decide) (fun c => absurd (inR_nI (by omega)) c) (fun _ => ?_)
  refine g_aload_n F 0 (dk dtX6_surprise_0 5 rfl) rfl ?_
  refine g_get F fa_X6_19 (dk dtX6_surprise_0 6 rfl) (by decide) (cc0 D B _ _) rfl ?_
  refine g_iload_n F 2 (dk dtX6_surprise_0 7 rfl) rfl ?_
  refine g_callVi F (As := [.int (nI k)]) (st := []) cv_X6_110 (dk dtX6_surprise_0 8 rfl) (by decide) (cc10 D B _ _) rfl rfl (Nat.le_of_ble_eq_true rfl) ⟨by decide, by decide⟩ (k_X5_hasKindR l D B _ _ _ K hK) (fun r16 T16 M16 hp16 => ?_)
  obtain ⟨e1, e2, e3⟩ := hp16
  replace e1 := e1.symm; replace e2 := e2.symm; replace e3 := e3.symm; subst e1; subst e2; subst e3
  refine g_if_neB F 24 (dk dtX6_surprise_0 9 rfl) (by decide) (fun _ => ?_) (fun c => absurd (inR_nI (by omega)) c)
  refine g_aload_n F 0 (dk dtX6_surprise_0 12 rfl) rfl ?_
  refine g_get F fa_X6_19 (dk dtX6_surprise_0 13 rfl) (by decide) (cc0 D B _ _) rfl ?_
  refine g_aload_n F 0 (dk dtX6_surprise_0 14 rfl) rfl ?_
  refine g_get F fa_X6_26 (dk dtX6_surprise_0 15 rfl) (by decide) (cc0 D B _ _) rfl ?_
  refine g_iload_n F 1 (dk dtX6_surprise_0 16 rfl) rfl ?_
  refine g_iload_n F 2 (dk dtX6_surprise_0 17 rfl) rfl ?_
  refine g_callVi F (As := [.ref (B + 12), .int (nI p), .int (nI k)]) (st := []) cv_X6_117 (dk dtX6_surprise_0 18 rfl) (by decide) (cc10 D B _ _) rfl rfl (Nat.le_of_ble_eq_true rfl) ⟨by decide, by decide⟩ (k_X5_shock l D B _ _ 12 (isNow12 D B) p k (by omega) (by omega)) (fun r34 T34 M34 hp34 => ?_)
  obtain ⟨e1, e2, e3⟩ := hp34
  replace e1 := e1.symm; replace e2 := e2.symm; replace e3 := e3.symm; subst e1; subst e2; subst e3
  refine g_iret (F := F) hQ (dk dtX6_surprise_0 19 rfl) ?_
  exact ⟨rfl, rfl, rfl⟩
set_option maxRecDepth 100000 in
set_option maxHeartbeats 4000000 in
theorem k_X6_surprise_bad (l : Launch) (D : DX) (B : Nat) (T : Int64) (M : Mem) (P : Nat) (hP : M 10 2 = nI P) (hP5 : P ≤ 5) (K : Nat) (hK : M 10 0 = nI K) (hK1 : 1 ≤ K) (hK4 : K ≤ 4) (p k : Int32) (hb : ¬ (inR p P ∧ inR k K)) : Ci l D B 108 (celC D B) yX6_surprise cX6_surprise 3 (some .int) 1 [.ref (B + 0), .int p, .int k] T M (fun rz T1 M1 => rz = (-1) ∧ T1 = T ∧ M1 = M) := by
  refine g_entryi (L := [(0, .ref (B + 0)), (1, .int p), (2, .int k)]) (by decide) (Nat.le_of_ble_eq_true rfl) rfl ?_
  intro zp ze zs zm zb zt zc Q F hQ
  refine g_aload_n F 0 (dk dtX6_surprise_0 0 rfl) rfl ?_
  refine g_get F fa_X6_19 (dk dtX6_surprise_0 1 rfl) (by decide) (cc0 D B _ _) rfl ?_
  refine g_iload_n F 1 (dk dtX6_surprise_0 2 rfl) rfl ?_
  refine g_callVi F (As := [.int p]) (st := []) cv_X6_94 (dk dtX6_surprise_0 3 rfl) (by decide) (cc10 D B _ _) rfl rfl (Nat.le_of_ble_eq_true rfl) ⟨by decide, by decide⟩ (k_X5_hasPersonR l D B _ _ _ P hP) (fun r5 T5 M5 hp5 => ?_)
  obtain ⟨e1, e2, e3⟩ := hp5
  replace e1 := e1.symm; replace e2 := e2.symm; replace e3 := e3.symm; subst e1; subst e2; subst e3
  refine g_if_eqB F 22 (dk dtX6_surprise_0 4 rfl) (by decide) (fun c8 => ?_) (fun c8 => ?_)
  · -- taken at 8
    refine g_iconst F (-1) (dk dtX6_surprise_0 10 rfl) (by decide) ?_
    refine g_iret (F := F) hQ (dk dtX6_surprise_0 11 rfl) ?_
    exact ⟨rfl, rfl, rfl⟩
  · -- not taken at 8
    refine g_aload_n F 0 (dk dtX6_surprise_0 5 rfl) rfl ?_
    refine g_get F fa_X6_19 (dk dtX6_surprise_0 6 rfl) (by decide) (cc0 D B _ _) rfl ?_
    refine g_iload_n F 2 (dk dtX6_surprise_0 7 rfl) rfl ?_
    refine g_callVi F (As := [.int k]) (st := []) cv_X6_110 (dk dtX6_surprise_0 8 rfl) (by decide) (cc10 D B _ _) rfl rfl (Nat.le_of_ble_eq_true rfl) ⟨by decide, by decide⟩ (k_X5_hasKindR l D B _ _ _ K hK) (fun r16 T16 M16 hp16 => ?_)
    obtain ⟨e1, e2, e3⟩ := hp16
    replace e1 := e1.symm; replace e2 := e2.symm; replace e3 := e3.symm; subst e1; subst e2; subst e3
    refine g_if_neB F 24 (dk dtX6_surprise_0 9 rfl) (by decide) (fun c19 => ?_) (fun c19 => ?_)
    · -- taken at 19
      exact absurd ⟨c8, c19⟩ hb
    · -- not taken at 19
      refine g_iconst F (-1) (dk dtX6_surprise_0 10 rfl) (by decide) ?_
      refine g_iret (F := F) hQ (dk dtX6_surprise_0 11 rfl) ?_
      exact ⟨rfl, rfl, rfl⟩
set_option maxRecDepth 100000 in
set_option maxHeartbeats 4000000 in
theorem k_X6_now_0 (l : Launch) (D : DX) (B : Nat) (T : Int64) (M : Mem)  : Ci l D B 108 (celC D B) yX6_now cX6_now 2 (some .int) 2 [.ref (B + 0), .int (nI 0)] T M (fun rz T1 M1 => rz = (M 12 0) ∧ T1 = T ∧ M1 = M) := by
  refine g_entryi (L := [(0, .ref (B + 0)), (1, .int (nI 0))]) (by decide) (Nat.le_of_ble_eq_true rfl) rfl ?_
  intro zp ze zs zm zb zt zc Q F hQ
  refine g_iload_n F 1 (dk dtX6_now_0 0 rfl) rfl ?_
  refine g_tabIn F 32 (dk dtX6_now_0 1 rfl) (by decide) (by decide) rfl (by decide) ?_
  refine g_aload_n F 0 (dk dtX6_now_0 2 rfl) rfl ?_
  refine g_get F fa_X6_26 (dk dtX6_now_0 3 rfl) (by decide) (cc0 D B _ _) rfl ?_
  refine g_get F fa_X6_121 (dk dtX6_now_0 4 rfl) (by decide) (cc12 D B _ _) rfl ?_
  refine g_iret (F := F) hQ (dk dtX6_now_0 5 rfl) ?_
  exact ⟨rfl, rfl, rfl⟩
set_option maxRecDepth 100000 in
set_option maxHeartbeats 4000000 in
theorem k_X6_now_1 (l : Launch) (D : DX) (B : Nat) (T : Int64) (M : Mem)  : Ci l D B 108 (celC D B) yX6_now cX6_now 2 (some .int) 2 [.ref (B + 0), .int (nI 1)] T M (fun rz T1 M1 => rz = (nSum (M 14) 5) ∧ T1 = T ∧ M1 = M) := by
  refine g_entryi (L := [(0, .ref (B + 0)), (1, .int (nI 1))]) (by decide) (Nat.le_of_ble_eq_true rfl) rfl ?_
  intro zp ze zs zm zb zt zc Q F hQ
  refine g_iload_n F 1 (dk dtX6_now_0 0 rfl) rfl ?_
  refine g_tabIn F 40 (dk dtX6_now_0 1 rfl) (by decide) (by decide) rfl (by decide) ?_
  refine g_aload_n F 0 (dk dtX6_now_0 6 rfl) rfl ?_
  refine g_get F fa_X6_26 (dk dtX6_now_0 7 rfl) (by decide) (cc0 D B _ _) rfl ?_
  refine g_callVi F (As := []) (st := []) cv_X6_124 (dk dtX6_now_0 8 rfl) (by decide) (cc12 D B _ _) rfl rfl (Nat.le_of_ble_eq_true rfl) ⟨by decide, by decide⟩ (k_X2_allTerms l D B _ _ 12 (isNow12 D B)) (fun r44 T44 M44 hp44 => ?_)
  obtain ⟨e1, e2, e3⟩ := hp44
  replace e1 := e1.symm; replace e2 := e2.symm; replace e3 := e3.symm; subst e1; subst e2; subst e3
  refine g_iret (F := F) hQ (dk dtX6_now_0 9 rfl) ?_
  exact ⟨rfl, rfl, rfl⟩
set_option maxRecDepth 100000 in
set_option maxHeartbeats 4000000 in
theorem k_X6_now_2 (l : Launch) (D : DX) (B : Nat) (T : Int64) (M : Mem) (P : Nat) (hP : M 10 2 = nI P) (hP5 : P ≤ 5) (K : Nat) (hK : M 10 0 = nI K) (hK1 : 1 ≤ K) (hK4 : K ≤ 4)  : Ci l D B 108 (celC D B) yX6_now cX6_now 2 (some .int) 2 [.ref (B + 0), .int (nI 2)] T M (fun rz T1 M1 => rz = (gsh M 12 K P) ∧ T1 = T ∧ M1 = M) := by
  refine g_entryi (L := [(0, .ref (B + 0)), (1, .int (nI 2))]) (by decide) (Nat.le_of_ble_eq_true rfl) rfl ?_
  intro zp ze zs zm zb zt zc Q F hQ
  refine g_iload_n F 1 (dk dtX6_now_0 0 rfl) rfl ?_
  refine g_tabIn F 48 (dk dtX6_now_0 1 rfl) (by decide) (by decide) rfl (by decide) ?_
  refine g_aload_n F 0 (dk dtX6_now_0 10 rfl) rfl ?_
  refine g_get F fa_X6_19 (dk dtX6_now_0 11 rfl) (by decide) (cc0 D B _ _) rfl ?_
  refine g_aload_n F 0 (dk dtX6_now_0 12 rfl) rfl ?_
  refine g_get F fa_X6_26 (dk dtX6_now_0 13 rfl) (by decide) (cc0 D B _ _) rfl ?_
  refine g_callVi F (As := [.ref (B + 12)]) (st := []) cv_X6_127 (dk dtX6_now_0 14 rfl) (by decide) (cc10 D B _ _) rfl rfl (Nat.le_of_ble_eq_true rfl) ⟨by decide, by decide⟩ (k_X5_greatestShock l D B _ _ 12 (isNow12 D B) K P hK hP hK4 hP5) (fun r56 T56 M56 hp56 => ?_)
  obtain ⟨e1, e2, e3⟩ := hp56
  replace e1 := e1.symm; replace e2 := e2.symm; replace e3 := e3.symm; subst e1; subst e2; subst e3
  refine g_iret (F := F) hQ (dk dtX6_now_0 15 rfl) ?_
  exact ⟨rfl, rfl, rfl⟩
set_option maxRecDepth 100000 in
set_option maxHeartbeats 4000000 in
theorem k_X6_now_3 (l : Launch) (D : DX) (B : Nat) (T : Int64) (M : Mem)  : Ci l D B 108 (celC D B) yX6_now cX6_now 2 (some .int) 2 [.ref (B + 0), .int (nI 3)] T M (fun rz T1 M1 => rz = (M 17 2) ∧ T1 = T ∧ M1 = M) := by
  refine g_entryi (L := [(0, .ref (B + 0)), (1, .int (nI 3))]) (by decide) (Nat.le_of_ble_eq_true rfl) rfl ?_
  intro zp ze zs zm zb zt zc Q F hQ
  refine g_iload_n F 1 (dk dtX6_now_0 0 rfl) rfl ?_
  refine g_tabIn F 60 (dk dtX6_now_0 1 rfl) (by decide) (by decide) rfl (by decide) ?_
  refine g_aload_n F 0 (dk dtX6_now_0 16 rfl) rfl ?_
  refine g_get F fa_X6_33 (dk dtX6_now_0 17 rfl) (by decide) (cc0 D B _ _) rfl ?_
  refine g_get F fa_X6_88 (dk dtX6_now_0 18 rfl) (by decide) (cc17 D B _ _) rfl ?_
  refine g_iret (F := F) hQ (dk dtX6_now_0 19 rfl) ?_
  exact ⟨rfl, rfl, rfl⟩
set_option maxRecDepth 100000 in
set_option maxHeartbeats 4000000 in
theorem k_X6_now_bad (l : Launch) (D : DX) (B : Nat) (T : Int64) (M : Mem) (w : Int32) (hb : ¬ inR w 4) : Ci l D B 108 (celC D B) yX6_now cX6_now 2 (some .int) 2 [.ref (B + 0), .int w] T M (fun rz T1 M1 => rz = (-1000000) ∧ T1 = T ∧ M1 = M) := by
  refine g_entryi (L := [(0, .ref (B + 0)), (1, .int w)]) (by decide) (Nat.le_of_ble_eq_true rfl) rfl ?_
  intro zp ze zs zm zb zt zc Q F hQ
  refine g_iload_n F 1 (dk dtX6_now_0 0 rfl) rfl ?_
  refine g_tabOut F 68 (dk dtX6_now_0 1 rfl) (inR_out 3 hb) (by decide) ?_
  refine g_ldc F (dk dtX6_now_0 20 rfl) (tw2 108 rfl) ?_
  refine g_iret (F := F) hQ (dk dtX6_now_0 21 rfl) ?_
  exact ⟨rfl, rfl, rfl⟩
set_option maxRecDepth 100000 in
set_option maxHeartbeats 4000000 in
theorem k_X6_happens (l : Launch) (D : DX) (B : Nat) (T : Int64) (M : Mem) (P : Nat) (hP : M 10 2 = nI P) (hP5 : P ≤ 5) (K : Nat) (hK : M 10 0 = nI K) (hK1 : 1 ≤ K) (hK4 : K ≤ 4) (X : Nat) (hX : M 10 1 = nI X) (hX1 : 1 ≤ X) (hX4 : X ≤ 4) (nx kn : Nat) (hnx : M 17 1 = nI nx) (hkn : M 17 2 = nI kn) (hnx9 : nx < 10) (hkn9 : kn ≤ 10) (k x : Nat) (hk : k < K) (hx : x < X)  : Ci l D B 108 (celC D B) yX6_happens cX6_happens 3 (some .int) 4 [.ref (B + 0), .int (nI k), .int (nI x)] T M (fun r T1 M1 => r = jmp (rmM M nx kn) 12 k (nI x) P ∧ T1 = T ∧ M1 = hpM (rmM M nx kn) 12 k (nI x) P) := by
  refine g_entryi (L := [(0, .ref (B + 0)), (1, .int (nI k)), (2, .int (nI x))]) (by decide) (Nat.le_of_ble_eq_true rfl) rfl ?_
  intro zp ze zs zm zb zt zc Q F hQ
  refine g_aload_n F 0 (dk dtX6_happens_0 0 rfl) rfl ?_
  refine g_get F fa_X6_19 (dk dtX6_happens_0 1 rfl) (by decide) (cc0 D B _ _) rfl ?_
  refine g_iload_n F 1 (dk dtX6_happens_0 2 rfl) rfl ?_
  refine g_callVi F (As := [.int (nI k)]) (st := []) cv_X6_110 (dk dtX6_happens_0 3 rfl) (by decide) (cc10 D B _ _) rfl rfl (Nat.le_of_ble_eq_true rfl) ⟨by decide, by decide⟩ (k_X5_hasKindR l D B _ _ _ K hK) (fun r5 T5 M5 hp5 => ?_)
  obtain ⟨e1, e2, e3⟩ := hp5
  replace e1 := e1.symm; replace e2 := e2.symm; replace e3 := e3.symm; subst e1; subst e2; subst e3
  refine g_if_eqB F 22 (dk dtX6_happens_0 4 rfl) (by decide) (fun c => absurd (inR_nI (by omega)) c) (fun _ => ?_)
  refine g_aload_n F 0 (dk dtX6_happens_0 5 rfl) rfl ?_
  refine g_get F fa_X6_19 (dk dtX6_happens_0 6 rfl) (by decide) (cc0 D B _ _) rfl ?_
  refine g_iload_n F 2 (dk dtX6_happens_0 7 rfl) rfl ?_
  refine g_callVi F (As := [.int (nI x)]) (st := []) cv_X6_132 (dk dtX6_happens_0 8 rfl) (by decide) (cc10 D B _ _) rfl rfl (Nat.le_of_ble_eq_true rfl) ⟨by decide, by decide⟩ (k_X5_hasPlaceR l D B _ _ _ X hX) (fun r16 T16 M16 hp16 => ?_)
  obtain ⟨e1, e2, e3⟩ := hp16
  replace e1 := e1.symm; replace e2 := e2.symm; replace e3 := e3.symm; subst e1; subst e2; subst e3
  refine g_if_neB F 24 (dk dtX6_happens_0 9 rfl) (by decide) (fun _ => ?_) (fun c => absurd (inR_nI (by omega)) c)
  refine g_aload_n F 0 (dk dtX6_happens_0 12 rfl) rfl ?_
  refine g_get F fa_X6_33 (dk dtX6_happens_0 13 rfl) (by decide) (cc0 D B _ _) rfl ?_
  refine g_aload_n F 0 (dk dtX6_happens_0 14 rfl) rfl ?_
  refine g_get F fa_X6_26 (dk dtX6_happens_0 15 rfl) (by decide) (cc0 D B _ _) rfl ?_
  refine g_callVv F (As := [.ref (B + 12)]) (st := []) cv_X6_135 (dk dtX6_happens_0 16 rfl) (by decide) (cc17 D B _ _) rfl rfl (Nat.le_of_ble_eq_true rfl) ⟨by decide, by decide⟩ (k_X3_remember l D B _ _ nx kn hnx hkn hnx9 hkn9) (fun T32 M32 hp32 => ?_)
  obtain ⟨e2, e3⟩ := hp32
  replace e2 := e2.symm; replace e3 := e3.symm; subst e2; subst e3
  refine g_aload_n F 0 (dk dtX6_happens_0 17 rfl) rfl ?_
  refine g_get F fa_X6_19 (dk dtX6_happens_0 18 rfl) (by decide) (cc0 D B _ _) rfl ?_
  refine g_aload_n F 0 (dk dtX6_happens_0 19 rfl) rfl ?_
  refine g_get F fa_X6_26 (dk dtX6_happens_0 20 rfl) (by decide) (cc0 D B _ _) rfl ?_
  refine g_iload_n F 1 (dk dtX6_happens_0 21 rfl) rfl ?_
  refine g_iload_n F 2 (dk dtX6_happens_0 22 rfl) rfl ?_
  refine g_callVi F (As := [.ref (B + 12), .int (nI k), .int (nI x)]) (st := []) cv_X6_138 (dk dtX6_happens_0 23 rfl) (by decide) (cc10 D B _ _) rfl rfl (Nat.le_of_ble_eq_true rfl) ⟨by decide, by decide⟩ (k_X5_happen l D B _ _ 12 (isNow12 D B) k (by omega) _ P ((congrFun (rmM_fr _ _ _ (by omega)) _).trans hP) hP5) (fun r45 T45 M45 hp45 => ?_)
  obtain ⟨e1, e2, e3⟩ := hp45
  replace e1 := e1.symm; replace e2 := e2.symm; replace e3 := e3.symm; subst e1; subst e2; subst e3
  refine g_iret (F := F) hQ (dk dtX6_happens_0 24 rfl) ?_
  exact ⟨rfl, rfl, rfl⟩
set_option maxRecDepth 100000 in
set_option maxHeartbeats 4000000 in
theorem k_X6_happens_bad (l : Launch) (D : DX) (B : Nat) (T : Int64) (M : Mem) (K : Nat) (hK : M 10 0 = nI K) (hK1 : 1 ≤ K) (hK4 : K ≤ 4) (X : Nat) (hX : M 10 1 = nI X) (hX1 : 1 ≤ X) (hX4 : X ≤ 4) (k x : Int32) (hb : ¬ (inR k K ∧ inR x X)) : Ci l D B 108 (celC D B) yX6_happens cX6_happens 3 (some .int) 4 [.ref (B + 0), .int k, .int x] T M (fun rz T1 M1 => rz = (-1) ∧ T1 = T ∧ M1 = M) := by
  refine g_entryi (L := [(0, .ref (B + 0)), (1, .int k), (2, .int x)]) (by decide) (Nat.le_of_ble_eq_true rfl) rfl ?_
  intro zp ze zs zm zb zt zc Q F hQ
  refine g_aload_n F 0 (dk dtX6_happens_0 0 rfl) rfl ?_
  refine g_get F fa_X6_19 (dk dtX6_happens_0 1 rfl) (by decide) (cc0 D B _ _) rfl ?_
  refine g_iload_n F 1 (dk dtX6_happens_0 2 rfl) rfl ?_
  refine g_callVi F (As := [.int k]) (st := []) cv_X6_110 (dk dtX6_happens_0 3 rfl) (by decide) (cc10 D B _ _) rfl rfl (Nat.le_of_ble_eq_true rfl) ⟨by decide, by decide⟩ (k_X5_hasKindR l D B _ _ _ K hK) (fun r5 T5 M5 hp5 => ?_)
  obtain ⟨e1, e2, e3⟩ := hp5
  replace e1 := e1.symm; replace e2 := e2.symm; replace e3 := e3.symm; subst e1; subst e2; subst e3
  refine g_if_eqB F 22 (dk dtX6_happens_0 4 rfl) (by decide) (fun c8 => ?_) (fun c8 => ?_)
  · -- taken at 8
    refine g_iconst F (-1) (dk dtX6_happens_0 10 rfl) (by decide) ?_
    refine g_iret (F := F) hQ (dk dtX6_happens_0 11 rfl) ?_
    exact ⟨rfl, rfl, rfl⟩
  · -- not taken at 8
    refine g_aload_n F 0 (dk dtX6_happens_0 5 rfl) rfl ?_
    refine g_get F fa_X6_19 (dk dtX6_happens_0 6 rfl) (by decide) (cc0 D B _ _) rfl ?_
    refine g_iload_n F 2 (dk dtX6_happens_0 7 rfl) rfl ?_
    refine g_callVi F (As := [.int x]) (st := []) cv_X6_132 (dk dtX6_happens_0 8 rfl) (by decide) (cc10 D B _ _) rfl rfl (Nat.le_of_ble_eq_true rfl) ⟨by decide, by decide⟩ (k_X5_hasPlaceR l D B _ _ _ X hX) (fun r16 T16 M16 hp16 => ?_)
    obtain ⟨e1, e2, e3⟩ := hp16
    replace e1 := e1.symm; replace e2 := e2.symm; replace e3 := e3.symm; subst e1; subst e2; subst e3
    refine g_if_neB F 24 (dk dtX6_happens_0 9 rfl) (by decide) (fun c19 => ?_) (fun c19 => ?_)
    · -- taken at 19
      exact absurd ⟨c8, c19⟩ hb
    · -- not taken at 19
      refine g_iconst F (-1) (dk dtX6_happens_0 10 rfl) (by decide) ?_
      refine g_iret (F := F) hQ (dk dtX6_happens_0 11 rfl) ?_
      exact ⟨rfl, rfl, rfl⟩
set_option maxRecDepth 100000 in
set_option maxHeartbeats 4000000 in
theorem k_X6_walks_state (l : Launch) (D : DX) (B : Nat) (T : Int64) (M : Mem) (P : Nat) (hP : M 10 2 = nI P) (hP5 : P ≤ 5) (X : Nat) (hX : M 10 1 = nI X) (hX1 : 1 ≤ X) (hX4 : X ≤ 4) (p x : Nat) (hp : p < P) (hx : x < X) (hs : M 13 p = nI x) : Ci l D B 108 (celC D B) yX6_walks cX6_walks 4 (some .int) 4 [.ref (B + 0), .int (nI p), .int (nI x)] T M (fun rz T1 M1 => rz = (-2) ∧ T1 = T ∧ M1 = M) := by
  refine g_entryi (L := [(0, .ref (B + 0)), (1, .int (nI p)), (2, .int (nI x))]) (by decide) (Nat.le_of_ble_eq_true rfl) rfl ?_
  intro zp ze zs zm zb zt zc Q F hQ
  refine g_aload_n F 0 (dk dtX6_walks_0 0 rfl) rfl ?_
  refine g_get F fa_X6_19 (dk dtX6_walks_0 1 rfl) (by decide) (cc0 D B _ _) rfl ?_
  refine g_iload_n F 1 (dk dtX6_walks_0 2 rfl) rfl ?_
  refine g_callVi F (As := [.int (nI p)]) (st := []) cv_X6_94 (dk dtX6_walks_0 3 rfl) (by decide) (cc10 D B _ _) rfl rfl (Nat.le_of_ble_eq_true rfl) ⟨by decide, by decide⟩ (k_X5_hasPersonR l D B _ _ _ P hP) (fun r5 T5 M5 hp5 => ?_)
  obtain ⟨e1, e2, e3⟩ := hp5
  replace e1 := e1.symm; replace e2 := e2.symm; replace e3 := e3.symm; subst e1; subst e2; subst e3
  refine g_if_eqB F 22 (dk dtX6_walks_0 4 rfl) (by decide) (fun c => absurd (inR_nI (by omega)) c) (fun _ => ?_)
  refine g_aload_n F 0 (dk dtX6_walks_0 5 rfl) rfl ?_
  refine g_get F fa_X6_19 (dk dtX6_walks_0 6 rfl) (by decide) (cc0 D B _ _) rfl ?_
  refine g_iload_n F 2 (dk dtX6_walks_0 7 rfl) rfl ?_
  refine g_callVi F (As := [.int (nI x)]) (st := []) cv_X6_132 (dk dtX6_walks_0 8 rfl) (by decide) (cc10 D B _ _) rfl rfl (Nat.le_of_ble_eq_true rfl) ⟨by decide, by decide⟩ (k_X5_hasPlaceR l D B _ _ _ X hX) (fun r16 T16 M16 hp16 => ?_)
  obtain ⟨e1, e2, e3⟩ := hp16
  replace e1 := e1.symm; replace e2 := e2.symm; replace e3 := e3.symm; subst e1; subst e2; subst e3
  refine g_if_neB F 24 (dk dtX6_walks_0 9 rfl) (by decide) (fun _ => ?_) (fun c => absurd (inR_nI (by omega)) c)
  refine g_aload_n F 0 (dk dtX6_walks_0 12 rfl) rfl ?_
  refine g_get F fa_X6_26 (dk dtX6_walks_0 13 rfl) (by decide) (cc0 D B _ _) rfl ?_
  refine g_get F fa_X6_101 (dk dtX6_walks_0 14 rfl) (by decide) (cc12 D B _ _) rfl ?_
  refine g_iload_n F 1 (dk dtX6_walks_0 15 rfl) rfl ?_
  refine g_iald F (p) (dk dtX6_walks_0 16 rfl) (by decide) (cc13 D B _ _) (by omega) (by decide) ?_
  refine g_top hs ?_
  refine g_istore_n F [(3, .int (nI x)), (0, .ref (B + 0)), (1, .int (nI p)), (2, .int (nI x))] (dk dtX6_walks_0 17 rfl) (by decide) rfl ?_
  refine g_iload_n F 0 (dk dtX6_walks_0 18 rfl) rfl ?_
  refine g_iload_n F 3 (dk dtX6_walks_0 19 rfl) rfl ?_
  refine g_icmp_neN F 42 (dk dtX6_walks_0 20 rfl) (by decide) (by omega) (by omega) (fun c36 => ?_) (fun c36 => ?_)
  · -- taken at 36
    exact absurd rfl c36
  · -- not taken at 36
    refine g_bipush F (-2) (dk dtX6_walks_0 21 rfl) (by decide) ?_
    refine g_iret (F := F) hQ (dk dtX6_walks_0 22 rfl) ?_
    exact ⟨rfl, rfl, rfl⟩
set_option maxRecDepth 100000 in
set_option maxHeartbeats 4000000 in
theorem k_X6_walks (l : Launch) (D : DX) (B : Nat) (T : Int64) (M : Mem) (P : Nat) (hP : M 10 2 = nI P) (hP5 : P ≤ 5) (X : Nat) (hX : M 10 1 = nI X) (hX1 : 1 ≤ X) (hX4 : X ≤ 4) (nx kn : Nat) (hnx : M 17 1 = nI nx) (hkn : M 17 2 = nI kn) (hnx9 : nx < 10) (hkn9 : kn ≤ 10) (p x : Nat) (hp : p < P) (hx : x < X) (hs : ¬ M 13 p = nI x) : Ci l D B 108 (celC D B) yX6_walks cX6_walks 4 (some .int) 4 [.ref (B + 0), .int (nI p), .int (nI x)] T M (fun r T1 M1 => r = M 13 p ∧ T1 = T ∧ M1 = up2 (rmM M nx kn) 13 p (nI x)) := by
  refine g_entryi (L := [(0, .ref (B + 0)), (1, .int (nI p)), (2, .int (nI x))]) (by decide) (Nat.le_of_ble_eq_true rfl) rfl ?_
  intro zp ze zs zm zb zt zc Q F hQ
  refine g_aload_n F 0 (dk dtX6_walks_0 0 rfl) rfl ?_
  refine g_get F fa_X6_19 (dk dtX6_walks_0 1 rfl) (by decide) (cc0 D B _ _) rfl ?_
  refine g_iload_n F 1 (dk dtX6_walks_0 2 rfl) rfl ?_
  refine g_callVi F (As := [.int (nI p)]) (st := []) cv_X6_94 (dk dtX6_walks_0 3 rfl) (by decide) (cc10 D B _ _) rfl rfl (Nat.le_of_ble_eq_true rfl) ⟨by decide, by decide⟩ (k_X5_hasPersonR l D B _ _ _ P hP) (fun r5 T5 M5 hp5 => ?_)
  obtain ⟨e1, e2, e3⟩ := hp5
  replace e1 := e1.symm; replace e2 := e2.symm; replace e3 := e3.symm; subst e1; subst e2; subst e3
  refine g_if_eqB F 22 (dk dtX6_walks_0 4 rfl) (by decide) (fun c => absurd (inR_nI (by omega)) c) (fun _ => ?_)
  refine g_aload_n F 0 (dk dtX6_walks_0 5 rfl) rfl ?_
  refine g_get F fa_X6_19 (dk dtX6_walks_0 6 rfl) (by decide) (cc0 D B _ _) rfl ?_
  refine g_iload_n F 2 (dk dtX6_walks_0 7 rfl) rfl ?_
  refine g_callVi F (As := [.int (nI x)]) (st := []) cv_X6_132 (dk dtX6_walks_0 8 rfl) (by decide) (cc10 D B _ _) rfl rfl (Nat.le_of_ble_eq_true rfl) ⟨by decide, by decide⟩ (k_X5_hasPlaceR l D B _ _ _ X hX) (fun r16 T16 M16 hp16 => ?_)
  obtain ⟨e1, e2, e3⟩ := hp16
  replace e1 := e1.symm; replace e2 := e2.symm; replace e3 := e3.symm; subst e1; subst e2; subst e3
  refine g_if_neB F 24 (dk dtX6_walks_0 9 rfl) (by decide) (fun _ => ?_) (fun c => absurd (inR_nI (by omega)) c)
  refine g_aload_n F 0 (dk dtX6_walks_0 12 rfl) rfl ?_
  refine g_get F fa_X6_26 (dk dtX6_walks_0 13 rfl) (by decide) (cc0 D B _ _) rfl ?_
  refine g_get F fa_X6_101 (dk dtX6_walks_0 14 rfl) (by decide) (cc12 D B _ _) rfl ?_
  refine g_iload_n F 1 (dk dtX6_walks_0 15 rfl) rfl ?_
  refine g_iald F (p) (dk dtX6_walks_0 16 rfl) (by decide) (cc13 D B _ _) (by omega) (by decide) ?_
  refine g_istore_n F [(3, .int (M 13 p)), (0, .ref (B + 0)), (1, .int (nI p)), (2, .int (nI x))] (dk dtX6_walks_0 17 rfl) (by decide) rfl ?_
  refine g_iload_n F 0 (dk dtX6_walks_0 18 rfl) rfl ?_
  refine g_iload_n F 3 (dk dtX6_walks_0 19 rfl) rfl ?_
  refine g_icmp_ne F 42 (dk dtX6_walks_0 20 rfl) (by decide) (fun c36 => ?_) (fun c36 => ?_)
  · -- taken at 36
    refine g_aload_n F 1 (dk dtX6_walks_0 23 rfl) rfl ?_
    refine g_get F fa_X6_33 (dk dtX6_walks_0 24 rfl) (by decide) (cc0 D B _ _) rfl ?_
    refine g_aload_n F 1 (dk dtX6_walks_0 25 rfl) rfl ?_
    refine g_get F fa_X6_26 (dk dtX6_walks_0 26 rfl) (by decide) (cc0 D B _ _) rfl ?_
    refine g_callVv F (As := [.ref (B + 12)]) (st := []) cv_X6_135 (dk dtX6_walks_0 27 rfl) (by decide) (cc17 D B _ _) rfl rfl (Nat.le_of_ble_eq_true rfl) ⟨by decide, by decide⟩ (k_X3_remember l D B _ _ nx kn hnx hkn hnx9 hkn9) (fun T50 M50 hp50 => ?_)
    obtain ⟨e2, e3⟩ := hp50
    replace e2 := e2.symm; replace e3 := e3.symm; subst e2; subst e3
    refine g_aload_n F 1 (dk dtX6_walks_0 28 rfl) rfl ?_
    refine g_get F fa_X6_26 (dk dtX6_walks_0 29 rfl) (by decide) (cc0 D B _ _) rfl ?_
    refine g_get F fa_X6_101 (dk dtX6_walks_0 30 rfl) (by decide) (cc12 D B _ _) rfl ?_
    refine g_iload_n F 2 (dk dtX6_walks_0 31 rfl) rfl ?_
    refine g_iload_n F 3 (dk dtX6_walks_0 32 rfl) rfl ?_
    refine g_iast F (p) (dk dtX6_walks_0 33 rfl) (by decide) (fun r => cc13 D B _ r) (by omega) (by decide) ?_
    refine g_iload_n F 0 (dk dtX6_walks_0 34 rfl) rfl ?_
    refine g_iret (F := F) hQ (dk dtX6_walks_0 35 rfl) ?_
    exact ⟨rfl, rfl, rfl⟩
  · -- not taken at 36
    exact absurd c36 hs
set_option maxRecDepth 100000 in
set_option maxHeartbeats 4000000 in
theorem k_X6_walks_bad (l : Launch) (D : DX) (B : Nat) (T : Int64) (M : Mem) (P : Nat) (hP : M 10 2 = nI P) (hP5 : P ≤ 5) (X : Nat) (hX : M 10 1 = nI X) (hX1 : 1 ≤ X) (hX4 : X ≤ 4) (p x : Int32) (hb : ¬ (inR p P ∧ inR x X)) : Ci l D B 108 (celC D B) yX6_walks cX6_walks 4 (some .int) 4 [.ref (B + 0), .int p, .int x] T M (fun rz T1 M1 => rz = (-1) ∧ T1 = T ∧ M1 = M) := by
  refine g_entryi (L := [(0, .ref (B + 0)), (1, .int p), (2, .int x)]) (by decide) (Nat.le_of_ble_eq_true rfl) rfl ?_
  intro zp ze zs zm zb zt zc Q F hQ
  refine g_aload_n F 0 (dk dtX6_walks_0 0 rfl) rfl ?_
  refine g_get F fa_X6_19 (dk dtX6_walks_0 1 rfl) (by decide) (cc0 D B _ _) rfl ?_
  refine g_iload_n F 1 (dk dtX6_walks_0 2 rfl) rfl ?_
  refine g_callVi F (As := [.int p]) (st := []) cv_X6_94 (dk dtX6_walks_0 3 rfl) (by decide) (cc10 D B _ _) rfl rfl (Nat.le_of_ble_eq_true rfl) ⟨by decide, by decide⟩ (k_X5_hasPersonR l D B _ _ _ P hP) (fun r5 T5 M5 hp5 => ?_)
  obtain ⟨e1, e2, e3⟩ := hp5
  replace e1 := e1.symm; replace e2 := e2.symm; replace e3 := e3.symm; subst e1; subst e2; subst e3
  refine g_if_eqB F 22 (dk dtX6_walks_0 4 rfl) (by decide) (fun c8 => ?_) (fun c8 => ?_)
  · -- taken at 8
    refine g_iconst F (-1) (dk dtX6_walks_0 10 rfl) (by decide) ?_
    refine g_iret (F := F) hQ (dk dtX6_walks_0 11 rfl) ?_
    exact ⟨rfl, rfl, rfl⟩
  · -- not taken at 8
    refine g_aload_n F 0 (dk dtX6_walks_0 5 rfl) rfl ?_
    refine g_get F fa_X6_19 (dk dtX6_walks_0 6 rfl) (by decide) (cc0 D B _ _) rfl ?_
    refine g_iload_n F 2 (dk dtX6_walks_0 7 rfl) rfl ?_
    refine g_callVi F (As := [.int x]) (st := []) cv_X6_132 (dk dtX6_walks_0 8 rfl) (by decide) (cc10 D B _ _) rfl rfl (Nat.le_of_ble_eq_true rfl) ⟨by decide, by decide⟩ (k_X5_hasPlaceR l D B _ _ _ X hX) (fun r16 T16 M16 hp16 => ?_)
    obtain ⟨e1, e2, e3⟩ := hp16
    replace e1 := e1.symm; replace e2 := e2.symm; replace e3 := e3.symm; subst e1; subst e2; subst e3
    refine g_if_neB F 24 (dk dtX6_walks_0 9 rfl) (by decide) (fun c19 => ?_) (fun c19 => ?_)
    · -- taken at 19
      exact absurd ⟨c8, c19⟩ hb
    · -- not taken at 19
      refine g_iconst F (-1) (dk dtX6_walks_0 10 rfl) (by decide) ?_
      refine g_iret (F := F) hQ (dk dtX6_walks_0 11 rfl) ?_
      exact ⟨rfl, rfl, rfl⟩
set_option maxRecDepth 100000 in
set_option maxHeartbeats 4000000 in
theorem k_X6_tells (l : Launch) (D : DX) (B : Nat) (T : Int64) (M : Mem) (P : Nat) (hP : M 10 2 = nI P) (hP5 : P ≤ 5) (K : Nat) (hK : M 10 0 = nI K) (hK1 : 1 ≤ K) (hK4 : K ≤ 4) (nx kn : Nat) (hnx : M 17 1 = nI nx) (hkn : M 17 2 = nI kn) (hnx9 : nx < 10) (hkn9 : kn ≤ 10) (p k : Nat) (hp : p < P) (hk : k < K) : Ci l D B 108 (celC D B) yX6_tells cX6_tells 3 (some .int) 4 [.ref (B + 0), .int (nI p), .int (nI k)] T M (fun r T1 M1 => r = seeS (rmM M nx kn) 12 p k 15 (p * 4 + k) ∧ T1 = T ∧ M1 = seeS (rmM M nx kn) 12 p k) := by
  refine g_entryi (L := [(0, .ref (B + 0)), (1, .int (nI p)), (2, .int (nI k))]) (by decide) (Nat.le_of_ble_eq_true rfl) rfl ?_
  intro zp ze zs zm zb zt zc Q F hQ
  refine g_aload_n F 0 (dk dtX6_tells_0 0 rfl) rfl ?_
  refine g_get F fa_X6_19 (dk dtX6_tells_0 1 rfl) (by decide) (cc0 D B _ _) rfl ?_
  refine g_iload_n F 1 (dk dtX6_tells_0 2 rfl) rfl ?_
  refine g_callVi F (As := [.int (nI p)]) (st := []) cv_X6_94 (dk dtX6_tells_0 3 rfl) (by decide) (cc10 D B _ _) rfl rfl (Nat.le_of_ble_eq_true rfl) ⟨by decide, by decide⟩ (k_X5_hasPersonR l D B _ _ _ P hP) (fun r5 T5 M5 hp5 => ?_)
  obtain ⟨e1, e2, e3⟩ := hp5
  replace e1 := e1.symm; replace e2 := e2.symm; replace e3 := e3.symm; subst e1; subst e2; subst e3
  refine g_if_eqB F 22 (dk dtX6_tells_0 4 rfl) (by decide) (fun c => absurd (inR_nI (by omega)) c) (fun _ => ?_)
  refine g_aload_n F 0 (dk dtX6_tells_0 5 rfl) rfl ?_
  refine g_get F fa_X6_19 (dk dtX6_tells_0 6 rfl) (by decide) (cc0 D B _ _) rfl ?_
  refine g_iload_n F 2 (dk dtX6_tells_0 7 rfl) rfl ?_
  refine g_callVi F (As := [.int (nI k)]) (st := []) cv_X6_110 (dk dtX6_tells_0 8 rfl) (by decide) (cc10 D B _ _) rfl rfl (Nat.le_of_ble_eq_true rfl) ⟨by decide, by decide⟩ (k_X5_hasKindR l D B _ _ _ K hK) (fun r16 T16 M16 hp16 => ?_)
  obtain ⟨e1, e2, e3⟩ := hp16
  replace e1 := e1.symm; replace e2 := e2.symm; replace e3 := e3.symm; subst e1; subst e2; subst e3
  refine g_if_neB F 24 (dk dtX6_tells_0 9 rfl) (by decide) (fun _ => ?_) (fun c => absurd (inR_nI (by omega)) c)
  refine g_aload_n F 0 (dk dtX6_tells_0 12 rfl) rfl ?_
  refine g_get F fa_X6_33 (dk dtX6_tells_0 13 rfl) (by decide) (cc0 D B _ _) rfl ?_
  refine g_aload_n F 0 (dk dtX6_tells_0 14 rfl) rfl ?_
  refine g_get F fa_X6_26 (dk dtX6_tells_0 15 rfl) (by decide) (cc0 D B _ _) rfl ?_
  refine g_callVv F (As := [.ref (B + 12)]) (st := []) cv_X6_135 (dk dtX6_tells_0 16 rfl) (by decide) (cc17 D B _ _) rfl rfl (Nat.le_of_ble_eq_true rfl) ⟨by decide, by decide⟩ (k_X3_remember l D B _ _ nx kn hnx hkn hnx9 hkn9) (fun T32 M32 hp32 => ?_)
  obtain ⟨e2, e3⟩ := hp32
  replace e2 := e2.symm; replace e3 := e3.symm; subst e2; subst e3
  refine g_aload_n F 0 (dk dtX6_tells_0 17 rfl) rfl ?_
  refine g_get F fa_X6_26 (dk dtX6_tells_0 18 rfl) (by decide) (cc0 D B _ _) rfl ?_
  refine g_iload_n F 1 (dk dtX6_tells_0 19 rfl) rfl ?_
  refine g_iload_n F 2 (dk dtX6_tells_0 20 rfl) rfl ?_
  refine g_callVv F (As := [.int (nI p), .int (nI k)]) (st := []) cv_X6_141 (dk dtX6_tells_0 21 rfl) (by decide) (cc12 D B _ _) rfl rfl (Nat.le_of_ble_eq_true rfl) ⟨by decide, by decide⟩ (k_X2_see l D B _ _ 12 (isNow12 D B) _ _ (by omega) (by omega)) (fun T41 M41 hp41 => ?_)
  obtain ⟨e2, e3⟩ := hp41
  replace e2 := e2.symm; replace e3 := e3.symm; subst e2; subst e3
  refine g_aload_n F 0 (dk dtX6_tells_0 22 rfl) rfl ?_
  refine g_get F fa_X6_26 (dk dtX6_tells_0 23 rfl) (by decide) (cc0 D B _ _) rfl ?_
  refine g_iload_n F 1 (dk dtX6_tells_0 24 rfl) rfl ?_
  refine g_iload_n F 2 (dk dtX6_tells_0 25 rfl) rfl ?_
  refine g_callVi F (As := [.int (nI p), .int (nI k)]) (st := []) cv_X6_113 (dk dtX6_tells_0 26 rfl) (by decide) (cc12 D B _ _) rfl rfl (Nat.le_of_ble_eq_true rfl) ⟨by decide, by decide⟩ (k_X2_seenOf l D B _ _ 12 (isNow12 D B) _ _ (by omega) (by omega)) (fun r50 T50 M50 hp50 => ?_)
  obtain ⟨e1, e2, e3⟩ := hp50
  replace e1 := e1.symm; replace e2 := e2.symm; replace e3 := e3.symm; subst e1; subst e2; subst e3
  refine g_iret (F := F) hQ (dk dtX6_tells_0 27 rfl) ?_
  exact ⟨rfl, rfl, rfl⟩
set_option maxRecDepth 100000 in
set_option maxHeartbeats 4000000 in
theorem k_X6_tells_bad (l : Launch) (D : DX) (B : Nat) (T : Int64) (M : Mem) (P : Nat) (hP : M 10 2 = nI P) (hP5 : P ≤ 5) (K : Nat) (hK : M 10 0 = nI K) (hK1 : 1 ≤ K) (hK4 : K ≤ 4) (p k : Int32) (hb : ¬ (inR p P ∧ inR k K)) : Ci l D B 108 (celC D B) yX6_tells cX6_tells 3 (some .int) 4 [.ref (B + 0), .int p, .int k] T M (fun rz T1 M1 => rz = (-1) ∧ T1 = T ∧ M1 = M) := by
  refine g_entryi (L := [(0, .ref (B + 0)), (1, .int p), (2, .int k)]) (by decide) (Nat.le_of_ble_eq_true rfl) rfl ?_
  intro zp ze zs zm zb zt zc Q F hQ
  refine g_aload_n F 0 (dk dtX6_tells_0 0 rfl) rfl ?_
  refine g_get F fa_X6_19 (dk dtX6_tells_0 1 rfl) (by decide) (cc0 D B _ _) rfl ?_
  refine g_iload_n F 1 (dk dtX6_tells_0 2 rfl) rfl ?_
  refine g_callVi F (As := [.int p]) (st := []) cv_X6_94 (dk dtX6_tells_0 3 rfl) (by decide) (cc10 D B _ _) rfl rfl (Nat.le_of_ble_eq_true rfl) ⟨by decide, by decide⟩ (k_X5_hasPersonR l D B _ _ _ P hP) (fun r5 T5 M5 hp5 => ?_)
  obtain ⟨e1, e2, e3⟩ := hp5
  replace e1 := e1.symm; replace e2 := e2.symm; replace e3 := e3.symm; subst e1; subst e2; subst e3
  refine g_if_eqB F 22 (dk dtX6_tells_0 4 rfl) (by decide) (fun c8 => ?_) (fun c8 => ?_)
  · -- taken at 8
    refine g_iconst F (-1) (dk dtX6_tells_0 10 rfl) (by decide) ?_
    refine g_iret (F := F) hQ (dk dtX6_tells_0 11 rfl) ?_
    exact ⟨rfl, rfl, rfl⟩
  · -- not taken at 8
    refine g_aload_n F 0 (dk dtX6_tells_0 5 rfl) rfl ?_
    refine g_get F fa_X6_19 (dk dtX6_tells_0 6 rfl) (by decide) (cc0 D B _ _) rfl ?_
    refine g_iload_n F 2 (dk dtX6_tells_0 7 rfl) rfl ?_
    refine g_callVi F (As := [.int k]) (st := []) cv_X6_110 (dk dtX6_tells_0 8 rfl) (by decide) (cc10 D B _ _) rfl rfl (Nat.le_of_ble_eq_true rfl) ⟨by decide, by decide⟩ (k_X5_hasKindR l D B _ _ _ K hK) (fun r16 T16 M16 hp16 => ?_)
    obtain ⟨e1, e2, e3⟩ := hp16
    replace e1 := e1.symm; replace e2 := e2.symm; replace e3 := e3.symm; subst e1; subst e2; subst e3
    refine g_if_neB F 24 (dk dtX6_tells_0 9 rfl) (by decide) (fun c19 => ?_) (fun c19 => ?_)
    · -- taken at 19
      exact absurd ⟨c8, c19⟩ hb
    · -- not taken at 19
      refine g_iconst F (-1) (dk dtX6_tells_0 10 rfl) (by decide) ?_
      refine g_iret (F := F) hQ (dk dtX6_tells_0 11 rfl) ?_
      exact ⟨rfl, rfl, rfl⟩
set_option maxRecDepth 100000 in
set_option maxHeartbeats 4000000 in
theorem k_X6_abdicates_state (l : Launch) (D : DX) (B : Nat) (T : Int64) (M : Mem) (hs : M 12 0 = -9) : Ci l D B 108 (celC D B) yX6_abdicates cX6_abdicates 2 (some .int) 4 [.ref (B + 0)] T M (fun rz T1 M1 => rz = (-2) ∧ T1 = T ∧ M1 = M) := by
  refine g_entryi (L := [(0, .ref (B + 0))]) (by decide) (Nat.le_of_ble_eq_true rfl) rfl ?_
  intro zp ze zs zm zb zt zc Q F hQ
  refine g_aload_n F 0 (dk dtX6_abdicates_0 0 rfl) rfl ?_
  refine g_get F fa_X6_26 (dk dtX6_abdicates_0 1 rfl) (by decide) (cc0 D B _ _) rfl ?_
  refine g_get F fa_X6_121 (dk dtX6_abdicates_0 2 rfl) (by decide) (cc12 D B _ _) rfl ?_
  refine g_istore_n F [(1, .int (M 12 0)), (0, .ref (B + 0))] (dk dtX6_abdicates_0 3 rfl) (by decide) rfl ?_
  refine g_iload_n F 0 (dk dtX6_abdicates_0 4 rfl) rfl ?_
  refine g_bipush F (-9) (dk dtX6_abdicates_0 5 rfl) (by decide) ?_
  refine g_icmp_ne F 17 (dk dtX6_abdicates_0 6 rfl) (by decide) (fun c11 => ?_) (fun c11 => ?_)
  · -- taken at 11
    exact absurd hs c11
  · -- not taken at 11
    refine g_bipush F (-2) (dk dtX6_abdicates_0 7 rfl) (by decide) ?_
    refine g_iret (F := F) hQ (dk dtX6_abdicates_0 8 rfl) ?_
    exact ⟨rfl, rfl, rfl⟩
set_option maxRecDepth 100000 in
set_option maxHeartbeats 4000000 in
theorem k_X6_abdicates (l : Launch) (D : DX) (B : Nat) (T : Int64) (M : Mem) (nx kn : Nat) (hnx : M 17 1 = nI nx) (hkn : M 17 2 = nI kn) (hnx9 : nx < 10) (hkn9 : kn ≤ 10) (hs : ¬ M 12 0 = -9) : Ci l D B 108 (celC D B) yX6_abdicates cX6_abdicates 2 (some .int) 4 [.ref (B + 0)] T M (fun r T1 M1 => r = M 12 0 ∧ T1 = T ∧ M1 = up2 (rmM M nx kn) 12 0 (-9)) := by
  refine g_entryi (L := [(0, .ref (B + 0))]) (by decide) (Nat.le_of_ble_eq_true rfl) rfl ?_
  intro zp ze zs zm zb zt zc Q F hQ
  refine g_aload_n F 0 (dk dtX6_abdicates_0 0 rfl) rfl ?_
  refine g_get F fa_X6_26 (dk dtX6_abdicates_0 1 rfl) (by decide) (cc0 D B _ _) rfl ?_
  refine g_get F fa_X6_121 (dk dtX6_abdicates_0 2 rfl) (by decide) (cc12 D B _ _) rfl ?_
  refine g_istore_n F [(1, .int (M 12 0)), (0, .ref (B + 0))] (dk dtX6_abdicates_0 3 rfl) (by decide) rfl ?_
  refine g_iload_n F 0 (dk dtX6_abdicates_0 4 rfl) rfl ?_
  refine g_bipush F (-9) (dk dtX6_abdicates_0 5 rfl) (by decide) ?_
  refine g_icmp_ne F 17 (dk dtX6_abdicates_0 6 rfl) (by decide) (fun c11 => ?_) (fun c11 => ?_)
  · -- taken at 11
    refine g_aload_n F 1 (dk dtX6_abdicates_0 9 rfl) rfl ?_
    refine g_get F fa_X6_33 (dk dtX6_abdicates_0 10 rfl) (by decide) (cc0 D B _ _) rfl ?_
    refine g_aload_n F 1 (dk dtX6_abdicates_0 11 rfl) rfl ?_
    refine g_get F fa_X6_26 (dk dtX6_abdicates_0 12 rfl) (by decide) (cc0 D B _ _) rfl ?_
    refine g_callVv F (As := [.ref (B + 12)]) (st := []) cv_X6_135 (dk dtX6_abdicates_0 13 rfl) (by decide) (cc17 D B _ _) rfl rfl (Nat.le_of_ble_eq_true rfl) ⟨by decide, by decide⟩ (k_X3_remember l D B _ _ nx kn hnx hkn hnx9 hkn9) (fun T25 M25 hp25 => ?_)
    obtain ⟨e2, e3⟩ := hp25
    replace e2 := e2.symm; replace e3 := e3.symm; subst e2; subst e3
    refine g_aload_n F 1 (dk dtX6_abdicates_0 14 rfl) rfl ?_
    refine g_get F fa_X6_26 (dk dtX6_abdicates_0 15 rfl) (by decide) (cc0 D B _ _) rfl ?_
    refine g_bipush F (-9) (dk dtX6_abdicates_0 16 rfl) (by decide) ?_
    refine g_put F fa_X6_121 (dk dtX6_abdicates_0 17 rfl) (by decide) (cc12 D B _ _) (Nat.le_of_ble_eq_true rfl) rfl rfl ((cc12 D B _ _).trans st_Now_0) ?_
    refine g_iload_n F 0 (dk dtX6_abdicates_0 18 rfl) rfl ?_
    refine g_iret (F := F) hQ (dk dtX6_abdicates_0 19 rfl) ?_
    exact ⟨rfl, rfl, rfl⟩
  · -- not taken at 11
    exact absurd c11 hs
set_option maxRecDepth 100000 in
set_option maxHeartbeats 4000000 in
theorem k_X6_undo_state (l : Launch) (D : DX) (B : Nat) (T : Int64) (M : Mem) (hkn : M 17 2 = nI 0) : Ci l D B 108 (celC D B) yX6_undo cX6_undo 1 (some .int) 4 [.ref (B + 0)] T M (fun rz T1 M1 => rz = (-2) ∧ T1 = T ∧ M1 = M) := by
  refine g_entryi (L := [(0, .ref (B + 0))]) (by decide) (Nat.le_of_ble_eq_true rfl) rfl ?_
  intro zp ze zs zm zb zt zc Q F hQ
  refine g_aload_n F 0 (dk dtX6_undo_0 0 rfl) rfl ?_
  refine g_get F fa_X6_33 (dk dtX6_undo_0 1 rfl) (by decide) (cc0 D B _ _) rfl ?_
  refine g_get F fa_X6_88 (dk dtX6_undo_0 2 rfl) (by decide) (cc17 D B _ _) rfl ?_
  refine g_top hkn ?_
  refine g_if_neN F 13 (dk dtX6_undo_0 3 rfl) (by decide) (by decide) (fun c => absurd c (by decide)) (fun _ => ?_)
  refine g_bipush F (-2) (dk dtX6_undo_0 4 rfl) (by decide) ?_
  refine g_iret (F := F) hQ (dk dtX6_undo_0 5 rfl) ?_
  exact ⟨rfl, rfl, rfl⟩
set_option maxRecDepth 100000 in
set_option maxHeartbeats 4000000 in
theorem k_X6_undo (l : Launch) (D : DX) (B : Nat) (T : Int64) (M : Mem) (nx kn : Nat) (hnx : M 17 1 = nI nx) (hkn : M 17 2 = nI (kn + 1)) (hnx9 : nx < 10) (hkn9 : kn < 10) : Ci l D B 108 (celC D B) yX6_undo cX6_undo 1 (some .int) 4 [.ref (B + 0)] T M (fun r T1 M1 => r = nI kn ∧ T1 = T ∧ M1 = cpN (up2 (up2 M 17 1 (nI ((nx + 9) % 10))) 17 2 (nI kn)) 12 (19 + 5 * ((nx + 9) % 10))) := by
  refine g_entryi (L := [(0, .ref (B + 0))]) (by decide) (Nat.le_of_ble_eq_true rfl) rfl ?_
  intro zp ze zs zm zb zt zc Q F hQ
  refine g_aload_n F 0 (dk dtX6_undo_0 0 rfl) rfl ?_
  refine g_get F fa_X6_33 (dk dtX6_undo_0 1 rfl) (by decide) (cc0 D B _ _) rfl ?_
  refine g_get F fa_X6_88 (dk dtX6_undo_0 2 rfl) (by decide) (cc17 D B _ _) rfl ?_
  refine g_top hkn ?_
  refine g_if_neN F 13 (dk dtX6_undo_0 3 rfl) (by decide) (by omega) (fun c7 => ?_) (fun c7 => ?_)
  · -- taken at 7
    refine g_aload_n F 0 (dk dtX6_undo_0 6 rfl) rfl ?_
    refine g_get F fa_X6_33 (dk dtX6_undo_0 7 rfl) (by decide) (cc0 D B _ _) rfl ?_
    refine g_aload_n F 0 (dk dtX6_undo_0 8 rfl) rfl ?_
    refine g_get F fa_X6_26 (dk dtX6_undo_0 9 rfl) (by decide) (cc0 D B _ _) rfl ?_
    refine g_callVv F (As := [.ref (B + 12)]) (st := []) cv_X6_145 (dk dtX6_undo_0 10 rfl) (by decide) (cc17 D B _ _) rfl rfl (Nat.le_of_ble_eq_true rfl) ⟨by decide, by decide⟩ (k_X3_restore l D B _ _ nx kn hnx hkn hnx9 hkn9) (fun T21 M21 hp21 => ?_)
    obtain ⟨e2, e3⟩ := hp21
    replace e2 := e2.symm; replace e3 := e3.symm; subst e2; subst e3
    refine g_aload_n F 0 (dk dtX6_undo_0 11 rfl) rfl ?_
    refine g_get F fa_X6_33 (dk dtX6_undo_0 12 rfl) (by decide) (cc0 D B _ _) rfl ?_
    refine g_get F fa_X6_88 (dk dtX6_undo_0 13 rfl) (by decide) (cc17 D B _ _) rfl ?_
    refine g_top (congrFun (cpN_fr _ _ _ (by omega)) _) ?_
    refine g_top ((congrFun (up2_self _ _ _ _) _).trans pk_us) ?_
    refine g_iret (F := F) hQ (dk dtX6_undo_0 14 rfl) ?_
    exact ⟨rfl, rfl, rfl⟩
  · -- not taken at 7
    exact absurd c7 (by omega)
set_option maxRecDepth 100000 in
set_option maxHeartbeats 4000000 in
theorem k_X6_who (l : Launch) (D : DX) (B : Nat) (T : Int64) (M : Mem) (P : Nat) (hP : M 10 2 = nI P) (hP5 : P ≤ 5) (K : Nat) (hK : M 10 0 = nI K) (hK1 : 1 ≤ K) (hK4 : K ≤ 4) (X : Nat) (hX : M 10 1 = nI X) (hX1 : 1 ≤ X) (hX4 : X ≤ 4) (k x : Nat) (hk : k < K) (hx : x < X)  : Ci l D B 108 (celC D B) yX6_who cX6_who 3 (some .int) 2 [.ref (B + 0), .int (nI k), .int (nI x)] T M (fun rz T1 M1 => rz = ((myb M 12 k (nI x) P).1) ∧ T1 = T ∧ M1 = M) := by
  refine g_entryi (L := [(0, .ref (B + 0)), (1, .int (nI k)), (2, .int (nI x))]) (by decide) (Nat.le_of_ble_eq_true rfl) rfl ?_
  intro zp ze zs zm zb zt zc Q F hQ
  refine g_aload_n F 0 (dk dtX6_who_0 0 rfl) rfl ?_
  refine g_get F fa_X6_19 (dk dtX6_who_0 1 rfl) (by decide) (cc0 D B _ _) rfl ?_
  refine g_iload_n F 1 (dk dtX6_who_0 2 rfl) rfl ?_
  refine g_callVi F (As := [.int (nI k)]) (st := []) cv_X6_110 (dk dtX6_who_0 3 rfl) (by decide) (cc10 D B _ _) rfl rfl (Nat.le_of_ble_eq_true rfl) ⟨by decide, by decide⟩ (k_X5_hasKindR l D B _ _ _ K hK) (fun r5 T5 M5 hp5 => ?_)
  obtain ⟨e1, e2, e3⟩ := hp5
  replace e1 := e1.symm; replace e2 := e2.symm; replace e3 := e3.symm; subst e1; subst e2; subst e3
  refine g_if_eqB F 22 (dk dtX6_who_0 4 rfl) (by decide) (fun c => absurd (inR_nI (by omega)) c) (fun _ => ?_)
  refine g_aload_n F 0 (dk dtX6_who_0 5 rfl) rfl ?_
  refine g_get F fa_X6_19 (dk dtX6_who_0 6 rfl) (by decide) (cc0 D B _ _) rfl ?_
  refine g_iload_n F 2 (dk dtX6_who_0 7 rfl) rfl ?_
  refine g_callVi F (As := [.int (nI x)]) (st := []) cv_X6_132 (dk dtX6_who_0 8 rfl) (by decide) (cc10 D B _ _) rfl rfl (Nat.le_of_ble_eq_true rfl) ⟨by decide, by decide⟩ (k_X5_hasPlaceR l D B _ _ _ X hX) (fun r16 T16 M16 hp16 => ?_)
  obtain ⟨e1, e2, e3⟩ := hp16
  replace e1 := e1.symm; replace e2 := e2.symm; replace e3 := e3.symm; subst e1; subst e2; subst e3
  refine g_if_neB F 24 (dk dtX6_who_0 9 rfl) (by decide) (fun _ => ?_) (fun c => absurd (inR_nI (by omega)) c)
  refine g_aload_n F 0 (dk dtX6_who_0 12 rfl) rfl ?_
  refine g_get F fa_X6_19 (dk dtX6_who_0 13 rfl) (by decide) (cc0 D B _ _) rfl ?_
  refine g_aload_n F 0 (dk dtX6_who_0 14 rfl) rfl ?_
  refine g_get F fa_X6_26 (dk dtX6_who_0 15 rfl) (by decide) (cc0 D B _ _) rfl ?_
  refine g_iload_n F 1 (dk dtX6_who_0 16 rfl) rfl ?_
  refine g_iload_n F 2 (dk dtX6_who_0 17 rfl) rfl ?_
  refine g_callVi F (As := [.ref (B + 12), .int (nI k), .int (nI x)]) (st := []) cv_X6_148 (dk dtX6_who_0 18 rfl) (by decide) (cc10 D B _ _) rfl rfl (Nat.le_of_ble_eq_true rfl) ⟨by decide, by decide⟩ (k_X5_mayorBy l D B _ _ 12 (isNow12 D B) k (by omega) _ P hP hP5) (fun r34 T34 M34 hp34 => ?_)
  obtain ⟨e1, e2, e3⟩ := hp34
  replace e1 := e1.symm; replace e2 := e2.symm; replace e3 := e3.symm; subst e1; subst e2; subst e3
  refine g_iret (F := F) hQ (dk dtX6_who_0 19 rfl) ?_
  exact ⟨rfl, rfl, rfl⟩
set_option maxRecDepth 100000 in
set_option maxHeartbeats 4000000 in
theorem k_X6_who_bad (l : Launch) (D : DX) (B : Nat) (T : Int64) (M : Mem) (K : Nat) (hK : M 10 0 = nI K) (hK1 : 1 ≤ K) (hK4 : K ≤ 4) (X : Nat) (hX : M 10 1 = nI X) (hX1 : 1 ≤ X) (hX4 : X ≤ 4) (k x : Int32) (hb : ¬ (inR k K ∧ inR x X)) : Ci l D B 108 (celC D B) yX6_who cX6_who 3 (some .int) 2 [.ref (B + 0), .int k, .int x] T M (fun rz T1 M1 => rz = (-1) ∧ T1 = T ∧ M1 = M) := by
  refine g_entryi (L := [(0, .ref (B + 0)), (1, .int k), (2, .int x)]) (by decide) (Nat.le_of_ble_eq_true rfl) rfl ?_
  intro zp ze zs zm zb zt zc Q F hQ
  refine g_aload_n F 0 (dk dtX6_who_0 0 rfl) rfl ?_
  refine g_get F fa_X6_19 (dk dtX6_who_0 1 rfl) (by decide) (cc0 D B _ _) rfl ?_
  refine g_iload_n F 1 (dk dtX6_who_0 2 rfl) rfl ?_
  refine g_callVi F (As := [.int k]) (st := []) cv_X6_110 (dk dtX6_who_0 3 rfl) (by decide) (cc10 D B _ _) rfl rfl (Nat.le_of_ble_eq_true rfl) ⟨by decide, by decide⟩ (k_X5_hasKindR l D B _ _ _ K hK) (fun r5 T5 M5 hp5 => ?_)
  obtain ⟨e1, e2, e3⟩ := hp5
  replace e1 := e1.symm; replace e2 := e2.symm; replace e3 := e3.symm; subst e1; subst e2; subst e3
  refine g_if_eqB F 22 (dk dtX6_who_0 4 rfl) (by decide) (fun c8 => ?_) (fun c8 => ?_)
  · -- taken at 8
    refine g_iconst F (-1) (dk dtX6_who_0 10 rfl) (by decide) ?_
    refine g_iret (F := F) hQ (dk dtX6_who_0 11 rfl) ?_
    exact ⟨rfl, rfl, rfl⟩
  · -- not taken at 8
    refine g_aload_n F 0 (dk dtX6_who_0 5 rfl) rfl ?_
    refine g_get F fa_X6_19 (dk dtX6_who_0 6 rfl) (by decide) (cc0 D B _ _) rfl ?_
    refine g_iload_n F 2 (dk dtX6_who_0 7 rfl) rfl ?_
    refine g_callVi F (As := [.int x]) (st := []) cv_X6_132 (dk dtX6_who_0 8 rfl) (by decide) (cc10 D B _ _) rfl rfl (Nat.le_of_ble_eq_true rfl) ⟨by decide, by decide⟩ (k_X5_hasPlaceR l D B _ _ _ X hX) (fun r16 T16 M16 hp16 => ?_)
    obtain ⟨e1, e2, e3⟩ := hp16
    replace e1 := e1.symm; replace e2 := e2.symm; replace e3 := e3.symm; subst e1; subst e2; subst e3
    refine g_if_neB F 24 (dk dtX6_who_0 9 rfl) (by decide) (fun c19 => ?_) (fun c19 => ?_)
    · -- taken at 19
      exact absurd ⟨c8, c19⟩ hb
    · -- not taken at 19
      refine g_iconst F (-1) (dk dtX6_who_0 10 rfl) (by decide) ?_
      refine g_iret (F := F) hQ (dk dtX6_who_0 11 rfl) ?_
      exact ⟨rfl, rfl, rfl⟩
set_option maxRecDepth 100000 in
set_option maxHeartbeats 4000000 in
theorem k_X6_notes_0 (l : Launch) (D : DX) (B : Nat) (T : Int64) (M : Mem) (P : Nat) (hP : M 10 2 = nI P) (hP5 : P ≤ 5) (K : Nat) (hK : M 10 0 = nI K) (hK1 : 1 ≤ K) (hK4 : K ≤ 4) (nn : Nat) (hnn : M 92 3 = nI nn) (hnn6 : nn < 6) (p k : Nat) (hp : p < P) (hk : k < K) : Ci l D B 108 (celC D B) yX6_notes cX6_notes 4 (some .int) 1 [.ref (B + 0), .int (nI p), .int (nI k), .int (nI 0)] T M (fun r T1 M1 => r = nI (nn + 1) ∧ T1 = T ∧ M1 = up2 (up2 (up2 (up2 M 93 nn (nI p)) 94 nn (nI k)) 95 nn (nI 0)) 92 3 (nI (nn + 1))) := by
  refine g_entryi (L := [(0, .ref (B + 0)), (1, .int (nI p)), (2, .int (nI k)), (3, .int (nI 0))]) (by decide) (Nat.le_of_ble_eq_true rfl) rfl ?_
  intro zp ze zs zm zb zt zc Q F hQ
  refine g_aload_n F 0 (dk dtX6_notes_0 0 rfl) rfl ?_
  refine g_get F fa_X6_19 (dk dtX6_notes_0 1 rfl) (by decide) (cc0 D B _ _) rfl ?_
  refine g_iload_n F 1 (dk dtX6_notes_0 2 rfl) rfl ?_
  refine g_callVi F (As := [.int (nI p)]) (st := []) cv_X6_94 (dk dtX6_notes_0 3 rfl) (by decide) (cc10 D B _ _) rfl rfl (Nat.le_of_ble_eq_true rfl) ⟨by decide, by decide⟩ (k_X5_hasPersonR l D B _ _ _ P hP) (fun r5 T5 M5 hp5 => ?_)
  obtain ⟨e1, e2, e3⟩ := hp5
  replace e1 := e1.symm; replace e2 := e2.symm; replace e3 := e3.symm; subst e1; subst e2; subst e3
  refine g_if_eqB F 29 (dk dtX6_notes_0 4 rfl) (by decide) (fun c => absurd (inR_nI (by omega)) c) (fun _ => ?_)
  refine g_aload_n F 0 (dk dtX6_notes_0 5 rfl) rfl ?_
  refine g_get F fa_X6_19 (dk dtX6_notes_0 6 rfl) (by decide) (cc0 D B _ _) rfl ?_
  refine g_iload_n F 2 (dk dtX6_notes_0 7 rfl) rfl ?_
  refine g_callVi F (As := [.int (nI k)]) (st := []) cv_X6_110 (dk dtX6_notes_0 8 rfl) (by decide) (cc10 D B _ _) rfl rfl (Nat.le_of_ble_eq_true rfl) ⟨by decide, by decide⟩ (k_X5_hasKindR l D B _ _ _ K hK) (fun r16 T16 M16 hp16 => ?_)
  obtain ⟨e1, e2, e3⟩ := hp16
  replace e1 := e1.symm; replace e2 := e2.symm; replace e3 := e3.symm; subst e1; subst e2; subst e3
  refine g_if_eqB F 29 (dk dtX6_notes_0 9 rfl) (by decide) (fun c => absurd (inR_nI (by omega)) c) (fun _ => ?_)
  refine g_iload_n F 3 (dk dtX6_notes_0 10 rfl) rfl ?_
  refine g_callSi F (As := [.int (nI 0)]) (st := []) cs_X6_158 (dk dtX6_notes_0 11 rfl) rfl rfl (Nat.le_of_ble_eq_true rfl) ⟨by decide, by decide⟩ (k_X6_isBit l D B _ _ _) (fun r23 T23 M23 hp23 => ?_)
  obtain ⟨e1, e2, e3⟩ := hp23
  replace e1 := e1.symm; replace e2 := e2.symm; replace e3 := e3.symm; subst e1; subst e2; subst e3
  refine g_if_neB F 31 (dk dtX6_notes_0 12 rfl) (by decide) (fun _ => ?_) (fun c => absurd (inR_nI (by omega)) c)
  refine g_aload_n F 0 (dk dtX6_notes_0 15 rfl) rfl ?_
  refine g_get F fa_X6_47 (dk dtX6_notes_0 16 rfl) (by decide) (cc0 D B _ _) rfl ?_
  refine g_get F fa_X6_91 (dk dtX6_notes_0 17 rfl) (by decide) (cc92 D B _ _) rfl ?_
  refine g_top hnn ?_
  refine g_bipush F (nI 6) (dk dtX6_notes_0 18 rfl) (by decide) ?_
  refine g_icmp_ltN F 46 (dk dtX6_notes_0 19 rfl) (by decide) (by omega) (by omega) (fun c40 => ?_) (fun c40 => ?_)
  · -- taken at 40
    refine g_aload_n F 0 (dk dtX6_notes_0 22 rfl) rfl ?_
    refine g_get F fa_X6_47 (dk dtX6_notes_0 23 rfl) (by decide) (cc0 D B _ _) rfl ?_
    refine g_iload_n F 1 (dk dtX6_notes_0 24 rfl) rfl ?_
    refine g_iload_n F 2 (dk dtX6_notes_0 25 rfl) rfl ?_
    refine g_iload_n F 3 (dk dtX6_notes_0 26 rfl) rfl ?_
    refine g_iconst F (nI 1) (dk dtX6_notes_0 27 rfl) (by decide) ?_
    refine g_icmp_neN F 61 (dk dtX6_notes_0 28 rfl) (by decide) (by decide) (by decide) (fun _ => ?_) (fun c => absurd c (by decide))
    refine g_iconst F (nI 0) (dk dtX6_notes_0 31 rfl) (by decide) ?_
    refine g_callVv F (As := [.int (nI p), .int (nI k), .int (nI 0)]) (st := []) cv_X6_183 (dk dtX6_notes_0 32 rfl) (by decide) (cc92 D B _ _) rfl rfl (Nat.le_of_ble_eq_true rfl) ⟨by decide, by decide⟩ (k_X1_add l D B _ _ nn _ _ _ hnn hnn6 (by omega)) (fun T62 M62 hp62 => ?_)
    obtain ⟨e2, e3⟩ := hp62
    replace e2 := e2.symm; replace e3 := e3.symm; subst e2; subst e3
    refine g_aload_n F 0 (dk dtX6_notes_0 33 rfl) rfl ?_
    refine g_get F fa_X6_47 (dk dtX6_notes_0 34 rfl) (by decide) (cc0 D B _ _) rfl ?_
    refine g_get F fa_X6_91 (dk dtX6_notes_0 35 rfl) (by decide) (cc92 D B _ _) rfl ?_
    refine g_top ((congrFun (up2_self _ _ _ _) _).trans pk_us) ?_
    refine g_iret (F := F) hQ (dk dtX6_notes_0 36 rfl) ?_
    exact ⟨rfl, rfl, rfl⟩
  · -- not taken at 40
    exact absurd hnn6 c40
set_option maxRecDepth 100000 in
set_option maxHeartbeats 4000000 in
theorem k_X6_notes_1 (l : Launch) (D : DX) (B : Nat) (T : Int64) (M : Mem) (P : Nat) (hP : M 10 2 = nI P) (hP5 : P ≤ 5) (K : Nat) (hK : M 10 0 = nI K) (hK1 : 1 ≤ K) (hK4 : K ≤ 4) (nn : Nat) (hnn : M 92 3 = nI nn) (hnn6 : nn < 6) (p k : Nat) (hp : p < P) (hk : k < K) : Ci l D B 108 (celC D B) yX6_notes cX6_notes 4 (some .int) 1 [.ref (B + 0), .int (nI p), .int (nI k), .int (nI 1)] T M (fun r T1 M1 => r = nI (nn + 1) ∧ T1 = T ∧ M1 = up2 (up2 (up2 (up2 M 93 nn (nI p)) 94 nn (nI k)) 95 nn (nI 1)) 92 3 (nI (nn + 1))) := by
  refine g_entryi (L := [(0, .ref (B + 0)), (1, .int (nI p)), (2, .int (nI k)), (3, .int (nI 1))]) (by decide) (Nat.le_of_ble_eq_true rfl) rfl ?_
  intro zp ze zs zm zb zt zc Q F hQ
  refine g_aload_n F 0 (dk dtX6_notes_0 0 rfl) rfl ?_
  refine g_get F fa_X6_19 (dk dtX6_notes_0 1 rfl) (by decide) (cc0 D B _ _) rfl ?_
  refine g_iload_n F 1 (dk dtX6_notes_0 2 rfl) rfl ?_
  refine g_callVi F (As := [.int (nI p)]) (st := []) cv_X6_94 (dk dtX6_notes_0 3 rfl) (by decide) (cc10 D B _ _) rfl rfl (Nat.le_of_ble_eq_true rfl) ⟨by decide, by decide⟩ (k_X5_hasPersonR l D B _ _ _ P hP) (fun r5 T5 M5 hp5 => ?_)
  obtain ⟨e1, e2, e3⟩ := hp5
  replace e1 := e1.symm; replace e2 := e2.symm; replace e3 := e3.symm; subst e1; subst e2; subst e3
  refine g_if_eqB F 29 (dk dtX6_notes_0 4 rfl) (by decide) (fun c => absurd (inR_nI (by omega)) c) (fun _ => ?_)
  refine g_aload_n F 0 (dk dtX6_notes_0 5 rfl) rfl ?_
  refine g_get F fa_X6_19 (dk dtX6_notes_0 6 rfl) (by decide) (cc0 D B _ _) rfl ?_
  refine g_iload_n F 2 (dk dtX6_notes_0 7 rfl) rfl ?_
  refine g_callVi F (As := [.int (nI k)]) (st := []) cv_X6_110 (dk dtX6_notes_0 8 rfl) (by decide) (cc10 D B _ _) rfl rfl (Nat.le_of_ble_eq_true rfl) ⟨by decide, by decide⟩ (k_X5_hasKindR l D B _ _ _ K hK) (fun r16 T16 M16 hp16 => ?_)
  obtain ⟨e1, e2, e3⟩ := hp16
  replace e1 := e1.symm; replace e2 := e2.symm; replace e3 := e3.symm; subst e1; subst e2; subst e3
  refine g_if_eqB F 29 (dk dtX6_notes_0 9 rfl) (by decide) (fun c => absurd (inR_nI (by omega)) c) (fun _ => ?_)
  refine g_iload_n F 3 (dk dtX6_notes_0 10 rfl) rfl ?_
  refine g_callSi F (As := [.int (nI 1)]) (st := []) cs_X6_158 (dk dtX6_notes_0 11 rfl) rfl rfl (Nat.le_of_ble_eq_true rfl) ⟨by decide, by decide⟩ (k_X6_isBit l D B _ _ _) (fun r23 T23 M23 hp23 => ?_)
  obtain ⟨e1, e2, e3⟩ := hp23
  replace e1 := e1.symm; replace e2 := e2.symm; replace e3 := e3.symm; subst e1; subst e2; subst e3
  refine g_if_neB F 31 (dk dtX6_notes_0 12 rfl) (by decide) (fun _ => ?_) (fun c => absurd (inR_nI (by omega)) c)
  refine g_aload_n F 0 (dk dtX6_notes_0 15 rfl) rfl ?_
  refine g_get F fa_X6_47 (dk dtX6_notes_0 16 rfl) (by decide) (cc0 D B _ _) rfl ?_
  refine g_get F fa_X6_91 (dk dtX6_notes_0 17 rfl) (by decide) (cc92 D B _ _) rfl ?_
  refine g_top hnn ?_
  refine g_bipush F (nI 6) (dk dtX6_notes_0 18 rfl) (by decide) ?_
  refine g_icmp_ltN F 46 (dk dtX6_notes_0 19 rfl) (by decide) (by omega) (by omega) (fun c40 => ?_) (fun c40 => ?_)
  · -- taken at 40
    refine g_aload_n F 0 (dk dtX6_notes_0 22 rfl) rfl ?_
    refine g_get F fa_X6_47 (dk dtX6_notes_0 23 rfl) (by decide) (cc0 D B _ _) rfl ?_
    refine g_iload_n F 1 (dk dtX6_notes_0 24 rfl) rfl ?_
    refine g_iload_n F 2 (dk dtX6_notes_0 25 rfl) rfl ?_
    refine g_iload_n F 3 (dk dtX6_notes_0 26 rfl) rfl ?_
    refine g_iconst F (nI 1) (dk dtX6_notes_0 27 rfl) (by decide) ?_
    refine g_icmp_neN F 61 (dk dtX6_notes_0 28 rfl) (by decide) (by decide) (by decide) (fun c => absurd c (by decide)) (fun _ => ?_)
    refine g_iconst F (nI 1) (dk dtX6_notes_0 29 rfl) (by decide) ?_
    refine g_goto F 62 (dk dtX6_notes_0 30 rfl) (by decide) ?_
    refine g_callVv F (As := [.int (nI p), .int (nI k), .int (nI 1)]) (st := []) cv_X6_183 (dk dtX6_notes_0 32 rfl) (by decide) (cc92 D B _ _) rfl rfl (Nat.le_of_ble_eq_true rfl) ⟨by decide, by decide⟩ (k_X1_add l D B _ _ nn _ _ _ hnn hnn6 (by omega)) (fun T62 M62 hp62 => ?_)
    obtain ⟨e2, e3⟩ := hp62
    replace e2 := e2.symm; replace e3 := e3.symm; subst e2; subst e3
    refine g_aload_n F 0 (dk dtX6_notes_0 33 rfl) rfl ?_
    refine g_get F fa_X6_47 (dk dtX6_notes_0 34 rfl) (by decide) (cc0 D B _ _) rfl ?_
    refine g_get F fa_X6_91 (dk dtX6_notes_0 35 rfl) (by decide) (cc92 D B _ _) rfl ?_
    refine g_top ((congrFun (up2_self _ _ _ _) _).trans pk_us) ?_
    refine g_iret (F := F) hQ (dk dtX6_notes_0 36 rfl) ?_
    exact ⟨rfl, rfl, rfl⟩
  · -- not taken at 40
    exact absurd hnn6 c40
set_option maxRecDepth 100000 in
set_option maxHeartbeats 4000000 in
theorem k_X6_notes_full (l : Launch) (D : DX) (B : Nat) (T : Int64) (M : Mem) (P : Nat) (hP : M 10 2 = nI P) (hP5 : P ≤ 5) (K : Nat) (hK : M 10 0 = nI K) (hK1 : 1 ≤ K) (hK4 : K ≤ 4) (hnn : M 92 3 = nI 6) (p k j : Nat) (hp : p < P) (hk : k < K) (hj : j < 2) : Ci l D B 108 (celC D B) yX6_notes cX6_notes 4 (some .int) 1 [.ref (B + 0), .int (nI p), .int (nI k), .int (nI j)] T M (fun rz T1 M1 => rz = (-3) ∧ T1 = T ∧ M1 = M) := by
  refine g_entryi (L := [(0, .ref (B + 0)), (1, .int (nI p)), (2, .int (nI k)), (3, .int (nI j))]) (by decide) (Nat.le_of_ble_eq_true rfl) rfl ?_
  intro zp ze zs zm zb zt zc Q F hQ
  refine g_aload_n F 0 (dk dtX6_notes_0 0 rfl) rfl ?_
  refine g_get F fa_X6_19 (dk dtX6_notes_0 1 rfl) (by decide) (cc0 D B _ _) rfl ?_
  refine g_iload_n F 1 (dk dtX6_notes_0 2 rfl) rfl ?_
  refine g_callVi F (As := [.int (nI p)]) (st := []) cv_X6_94 (dk dtX6_notes_0 3 rfl) (by decide) (cc10 D B _ _) rfl rfl (Nat.le_of_ble_eq_true rfl) ⟨by decide, by decide⟩ (k_X5_hasPersonR l D B _ _ _ P hP) (fun r5 T5 M5 hp5 => ?_)
  obtain ⟨e1, e2, e3⟩ := hp5
  replace e1 := e1.symm; replace e2 := e2.symm; replace e3 := e3.symm; subst e1; subst e2; subst e3
  refine g_if_eqB F 29 (dk dtX6_notes_0 4 rfl) (by decide) (fun c => absurd (inR_nI (by omega)) c) (fun _ => ?_)
  refine g_aload_n F 0 (dk dtX6_notes_0 5 rfl) rfl ?_
  refine g_get F fa_X6_19 (dk dtX6_notes_0 6 rfl) (by decide) (cc0 D B _ _) rfl ?_
  refine g_iload_n F 2 (dk dtX6_notes_0 7 rfl) rfl ?_
  refine g_callVi F (As := [.int (nI k)]) (st := []) cv_X6_110 (dk dtX6_notes_0 8 rfl) (by decide) (cc10 D B _ _) rfl rfl (Nat.le_of_ble_eq_true rfl) ⟨by decide, by decide⟩ (k_X5_hasKindR l D B _ _ _ K hK) (fun r16 T16 M16 hp16 => ?_)
  obtain ⟨e1, e2, e3⟩ := hp16
  replace e1 := e1.symm; replace e2 := e2.symm; replace e3 := e3.symm; subst e1; subst e2; subst e3
  refine g_if_eqB F 29 (dk dtX6_notes_0 9 rfl) (by decide) (fun c => absurd (inR_nI (by omega)) c) (fun _ => ?_)
  refine g_iload_n F 3 (dk dtX6_notes_0 10 rfl) rfl ?_
  refine g_callSi F (As := [.int (nI j)]) (st := []) cs_X6_158 (dk dtX6_notes_0 11 rfl) rfl rfl (Nat.le_of_ble_eq_true rfl) ⟨by decide, by decide⟩ (k_X6_isBit l D B _ _ _) (fun r23 T23 M23 hp23 => ?_)
  obtain ⟨e1, e2, e3⟩ := hp23
  replace e1 := e1.symm; replace e2 := e2.symm; replace e3 := e3.symm; subst e1; subst e2; subst e3
  refine g_if_neB F 31 (dk dtX6_notes_0 12 rfl) (by decide) (fun _ => ?_) (fun c => absurd (inR_nI (by omega)) c)
  refine g_aload_n F 0 (dk dtX6_notes_0 15 rfl) rfl ?_
  refine g_get F fa_X6_47 (dk dtX6_notes_0 16 rfl) (by decide) (cc0 D B _ _) rfl ?_
  refine g_get F fa_X6_91 (dk dtX6_notes_0 17 rfl) (by decide) (cc92 D B _ _) rfl ?_
  refine g_top hnn ?_
  refine g_bipush F (nI 6) (dk dtX6_notes_0 18 rfl) (by decide) ?_
  refine g_icmp_ltN F 46 (dk dtX6_notes_0 19 rfl) (by decide) (by decide) (by decide) (fun c => absurd c (by decide)) (fun _ => ?_)
  refine g_bipush F (-3) (dk dtX6_notes_0 20 rfl) (by decide) ?_
  refine g_iret (F := F) hQ (dk dtX6_notes_0 21 rfl) ?_
  exact ⟨rfl, rfl, rfl⟩
set_option maxRecDepth 100000 in
set_option maxHeartbeats 4000000 in
theorem k_X6_notes_bad (l : Launch) (D : DX) (B : Nat) (T : Int64) (M : Mem) (P : Nat) (hP : M 10 2 = nI P) (hP5 : P ≤ 5) (K : Nat) (hK : M 10 0 = nI K) (hK1 : 1 ≤ K) (hK4 : K ≤ 4) (p k j : Int32) (hb : ¬ (inR p P ∧ inR k K ∧ inR j 2)) : Ci l D B 108 (celC D B) yX6_notes cX6_notes 4 (some .int) 1 [.ref (B + 0), .int p, .int k, .int j] T M (fun rz T1 M1 => rz = (-1) ∧ T1 = T ∧ M1 = M) := by
  refine g_entryi (L := [(0, .ref (B + 0)), (1, .int p), (2, .int k), (3, .int j)]) (by decide) (Nat.le_of_ble_eq_true rfl) rfl ?_
  intro zp ze zs zm zb zt zc Q F hQ
  refine g_aload_n F 0 (dk dtX6_notes_0 0 rfl) rfl ?_
  refine g_get F fa_X6_19 (dk dtX6_notes_0 1 rfl) (by decide) (cc0 D B _ _) rfl ?_
  refine g_iload_n F 1 (dk dtX6_notes_0 2 rfl) rfl ?_
  refine g_callVi F (As := [.int p]) (st := []) cv_X6_94 (dk dtX6_notes_0 3 rfl) (by decide) (cc10 D B _ _) rfl rfl (Nat.le_of_ble_eq_true rfl) ⟨by decide, by decide⟩ (k_X5_hasPersonR l D B _ _ _ P hP) (fun r5 T5 M5 hp5 => ?_)
  obtain ⟨e1, e2, e3⟩ := hp5
  replace e1 := e1.symm; replace e2 := e2.symm; replace e3 := e3.symm; subst e1; subst e2; subst e3
  refine g_if_eqB F 29 (dk dtX6_notes_0 4 rfl) (by decide) (fun c8 => ?_) (fun c8 => ?_)
  · -- taken at 8
    refine g_iconst F (-1) (dk dtX6_notes_0 13 rfl) (by decide) ?_
    refine g_iret (F := F) hQ (dk dtX6_notes_0 14 rfl) ?_
    exact ⟨rfl, rfl, rfl⟩
  · -- not taken at 8
    refine g_aload_n F 0 (dk dtX6_notes_0 5 rfl) rfl ?_
    refine g_get F fa_X6_19 (dk dtX6_notes_0 6 rfl) (by decide) (cc0 D B _ _) rfl ?_
    refine g_iload_n F 2 (dk dtX6_notes_0 7 rfl) rfl ?_
    refine g_callVi F (As := [.int k]) (st := []) cv_X6_110 (dk dtX6_notes_0 8 rfl) (by decide) (cc10 D B _ _) rfl rfl (Nat.le_of_ble_eq_true rfl) ⟨by decide, by decide⟩ (k_X5_hasKindR l D B _ _ _ K hK) (fun r16 T16 M16 hp16 => ?_)
    obtain ⟨e1, e2, e3⟩ := hp16
    replace e1 := e1.symm; replace e2 := e2.symm; replace e3 := e3.symm; subst e1; subst e2; subst e3
    refine g_if_eqB F 29 (dk dtX6_notes_0 9 rfl) (by decide) (fun c19 => ?_) (fun c19 => ?_)
    · -- taken at 19
      refine g_iconst F (-1) (dk dtX6_notes_0 13 rfl) (by decide) ?_
      refine g_iret (F := F) hQ (dk dtX6_notes_0 14 rfl) ?_
      exact ⟨rfl, rfl, rfl⟩
    · -- not taken at 19
      refine g_iload_n F 3 (dk dtX6_notes_0 10 rfl) rfl ?_
      refine g_callSi F (As := [.int j]) (st := []) cs_X6_158 (dk dtX6_notes_0 11 rfl) rfl rfl (Nat.le_of_ble_eq_true rfl) ⟨by decide, by decide⟩ (k_X6_isBit l D B _ _ _) (fun r23 T23 M23 hp23 => ?_)
      obtain ⟨e1, e2, e3⟩ := hp23
      replace e1 := e1.symm; replace e2 := e2.symm; replace e3 := e3.symm; subst e1; subst e2; subst e3
      refine g_if_neB F 31 (dk dtX6_notes_0 12 rfl) (by decide) (fun c26 => ?_) (fun c26 => ?_)
      · -- taken at 26
        exact absurd ⟨c8, c19, c26⟩ hb
      · -- not taken at 26
        refine g_iconst F (-1) (dk dtX6_notes_0 13 rfl) (by decide) ?_
        refine g_iret (F := F) hQ (dk dtX6_notes_0 14 rfl) ?_
        exact ⟨rfl, rfl, rfl⟩
set_option maxRecDepth 100000 in
set_option maxHeartbeats 4000000 in
theorem k_X6_keep (l : Launch) (D : DX) (B : Nat) (T : Int64) (M : Mem) (g : Nat) (hg : g < 2) : Ci l D B 108 (celC D B) yX6_keep cX6_keep 2 (some .int) 3 [.ref (B + 0), .int (nI g)] T M (fun r T1 M1 => r = nI (nCnt (M 14) 5) ∧ T1 = T ∧ M1 = up2 (cpN M (97 + 5 * g) 12) 107 g (nI 1)) := by
  refine g_entryi (L := [(0, .ref (B + 0)), (1, .int (nI g))]) (by decide) (Nat.le_of_ble_eq_true rfl) rfl ?_
  intro zp ze zs zm zb zt zc Q F hQ
  refine g_iload_n F 1 (dk dtX6_keep_0 0 rfl) rfl ?_
  refine g_callSi F (As := [.int (nI g)]) (st := []) cs_X6_158 (dk dtX6_keep_0 1 rfl) rfl rfl (Nat.le_of_ble_eq_true rfl) ⟨by decide, by decide⟩ (k_X6_isBit l D B _ _ _) (fun r1 T1 M1 hp1 => ?_)
  obtain ⟨e1, e2, e3⟩ := hp1
  replace e1 := e1.symm; replace e2 := e2.symm; replace e3 := e3.symm; subst e1; subst e2; subst e3
  refine g_if_neB F 9 (dk dtX6_keep_0 2 rfl) (by decide) (fun _ => ?_) (fun c => absurd (inR_nI (by omega)) c)
  refine g_aload_n F 0 (dk dtX6_keep_0 5 rfl) rfl ?_
  refine g_get F fa_X6_51 (dk dtX6_keep_0 6 rfl) (by decide) (cc0 D B _ _) rfl ?_
  refine g_iload_n F 1 (dk dtX6_keep_0 7 rfl) rfl ?_
  refine g_aald F (g) (dk dtX6_keep_0 8 rfl) (by decide) (cc96 D B _ _) (by omega) (by decide) rfl ?_
  refine g_aload_n F 0 (dk dtX6_keep_0 9 rfl) rfl ?_
  refine g_get F fa_X6_26 (dk dtX6_keep_0 10 rfl) (by decide) (cc0 D B _ _) rfl ?_
  refine g_callVv F (As := [.ref (B + 12)]) (st := []) cv_X6_85 (dk dtX6_keep_0 11 rfl) (by have := (isNowImg D B hg).1; omega) ((isNowImg D B hg).2.1 _ _) rfl rfl (Nat.le_of_ble_eq_true rfl) ⟨by decide, by decide⟩ (k_X2_copyFrom l D B _ _ (97 + 5 * g) 12 (isNowImg D B hg) (isNow12 D B)) (fun T19 M19 hp19 => ?_)
  obtain ⟨e2, e3⟩ := hp19
  replace e2 := e2.symm; replace e3 := e3.symm; subst e2; subst e3
  refine g_aload_n F 0 (dk dtX6_keep_0 12 rfl) rfl ?_
  refine g_get F fa_X6_55 (dk dtX6_keep_0 13 rfl) (by decide) (cc0 D B _ _) rfl ?_
  refine g_iload_n F 1 (dk dtX6_keep_0 14 rfl) rfl ?_
  refine g_iconst F (nI 1) (dk dtX6_keep_0 15 rfl) (by decide) ?_
  refine g_zast F (g) (dk dtX6_keep_0 16 rfl) (by decide) (fun r => cc107 D B _ r) (by omega) (by decide) (by decide) ?_
  refine g_aload_n F 0 (dk dtX6_keep_0 17 rfl) rfl ?_
  refine g_get F fa_X6_26 (dk dtX6_keep_0 18 rfl) (by decide) (cc0 D B _ _) rfl ?_
  refine g_callVi F (As := []) (st := []) cv_X6_222 (dk dtX6_keep_0 19 rfl) (by decide) (cc12 D B _ _) rfl rfl (Nat.le_of_ble_eq_true rfl) ⟨by decide, by decide⟩ (k_X2_termHolders l D B _ _ 12 (isNow12 D B)) (fun r33 T33 M33 hp33 => ?_)
  obtain ⟨e1, e2, e3⟩ := hp33
  replace e1 := e1.symm; replace e2 := e2.symm; replace e3 := e3.symm; subst e1; subst e2; subst e3
  refine g_iret (F := F) hQ (dk dtX6_keep_0 20 rfl) ?_
  exact ⟨by rw [up2_ne _ _ (by decide), cpN_fr _ _ _ (by omega)], rfl, rfl⟩
set_option maxRecDepth 100000 in
set_option maxHeartbeats 4000000 in
theorem k_X6_keep_bad (l : Launch) (D : DX) (B : Nat) (T : Int64) (M : Mem) (g : Int32) (hb : ¬ inR g 2) : Ci l D B 108 (celC D B) yX6_keep cX6_keep 2 (some .int) 3 [.ref (B + 0), .int g] T M (fun rz T1 M1 => rz = (-1) ∧ T1 = T ∧ M1 = M) := by
  refine g_entryi (L := [(0, .ref (B + 0)), (1, .int g)]) (by decide) (Nat.le_of_ble_eq_true rfl) rfl ?_
  intro zp ze zs zm zb zt zc Q F hQ
  refine g_iload_n F 1 (dk dtX6_keep_0 0 rfl) rfl ?_
  refine g_callSi F (As := [.int g]) (st := []) cs_X6_158 (dk dtX6_keep_0 1 rfl) rfl rfl (Nat.le_of_ble_eq_true rfl) ⟨by decide, by decide⟩ (k_X6_isBit l D B _ _ _) (fun r1 T1 M1 hp1 => ?_)
  obtain ⟨e1, e2, e3⟩ := hp1
  replace e1 := e1.symm; replace e2 := e2.symm; replace e3 := e3.symm; subst e1; subst e2; subst e3
  refine g_if_neB F 9 (dk dtX6_keep_0 2 rfl) (by decide) (fun c4 => ?_) (fun c4 => ?_)
  · -- taken at 4
    exact absurd c4 hb
  · -- not taken at 4
    refine g_iconst F (-1) (dk dtX6_keep_0 3 rfl) (by decide) ?_
    refine g_iret (F := F) hQ (dk dtX6_keep_0 4 rfl) ?_
    exact ⟨rfl, rfl, rfl⟩
set_option maxRecDepth 100000 in
set_option maxHeartbeats 4000000 in
theorem k_X6_back (l : Launch) (D : DX) (B : Nat) (T : Int64) (M : Mem) (g : Nat) (hg : g < 2) (hs : M 107 g = nI 1) : Ci l D B 108 (celC D B) yX6_back cX6_back 2 (some .int) 3 [.ref (B + 0), .int (nI g)] T M (fun r T1 M1 => r = nI (nCnt (M ((97 + 5 * g) + 2)) 5) ∧ T1 = T ∧ M1 = up2 (cpN M 12 (97 + 5 * g)) 17 2 (nI 0)) := by
  refine g_entryi (L := [(0, .ref (B + 0)), (1, .int (nI g))]) (by decide) (Nat.le_of_ble_eq_true rfl) rfl ?_
  intro zp ze zs zm zb zt zc Q F hQ
  refine g_iload_n F 1 (dk dtX6_back_0 0 rfl) rfl ?_
  refine g_callSi F (As := [.int (nI g)]) (st := []) cs_X6_158 (dk dtX6_back_0 1 rfl) rfl rfl (Nat.le_of_ble_eq_true rfl) ⟨by decide, by decide⟩ (k_X6_isBit l D B _ _ _) (fun r1 T1 M1 hp1 => ?_)
  obtain ⟨e1, e2, e3⟩ := hp1
  replace e1 := e1.symm; replace e2 := e2.symm; replace e3 := e3.symm; subst e1; subst e2; subst e3
  refine g_if_neB F 9 (dk dtX6_back_0 2 rfl) (by decide) (fun _ => ?_) (fun c => absurd (inR_nI (by omega)) c)
  refine g_aload_n F 0 (dk dtX6_back_0 5 rfl) rfl ?_
  refine g_get F fa_X6_55 (dk dtX6_back_0 6 rfl) (by decide) (cc0 D B _ _) rfl ?_
  refine g_iload_n F 1 (dk dtX6_back_0 7 rfl) rfl ?_
  refine g_zald F (g) (dk dtX6_back_0 8 rfl) (by decide) (cc107 D B _ _) (by omega) (by decide) ?_
  refine g_top hs ?_
  refine g_if_neN F 21 (dk dtX6_back_0 9 rfl) (by decide) (by decide) (fun _ => ?_) (fun c => absurd c (by decide))
  refine g_aload_n F 0 (dk dtX6_back_0 12 rfl) rfl ?_
  refine g_get F fa_X6_26 (dk dtX6_back_0 13 rfl) (by decide) (cc0 D B _ _) rfl ?_
  refine g_aload_n F 0 (dk dtX6_back_0 14 rfl) rfl ?_
  refine g_get F fa_X6_51 (dk dtX6_back_0 15 rfl) (by decide) (cc0 D B _ _) rfl ?_
  refine g_iload_n F 1 (dk dtX6_back_0 16 rfl) rfl ?_
  refine g_aald F (g) (dk dtX6_back_0 17 rfl) (by decide) (cc96 D B _ _) (by omega) (by decide) rfl ?_
  refine g_callVv F (As := [.ref (B + (97 + 5 * g))]) (st := []) cv_X6_85 (dk dtX6_back_0 18 rfl) (by decide) (cc12 D B _ _) rfl rfl (Nat.le_of_ble_eq_true rfl) ⟨by decide, by decide⟩ (k_X2_copyFrom l D B _ _ 12 (97 + 5 * g) (isNow12 D B) (isNowImg D B hg)) (fun T31 M31 hp31 => ?_)
  obtain ⟨e2, e3⟩ := hp31
  replace e2 := e2.symm; replace e3 := e3.symm; subst e2; subst e3
  refine g_aload_n F 0 (dk dtX6_back_0 19 rfl) rfl ?_
  refine g_get F fa_X6_33 (dk dtX6_back_0 20 rfl) (by decide) (cc0 D B _ _) rfl ?_
  refine g_iconst F (nI 0) (dk dtX6_back_0 21 rfl) (by decide) ?_
  refine g_put F fa_X6_88 (dk dtX6_back_0 22 rfl) (by decide) (cc17 D B _ _) (Nat.le_of_ble_eq_true rfl) rfl rfl ((cc17 D B _ _).trans st_Past_2) ?_
  refine g_aload_n F 0 (dk dtX6_back_0 23 rfl) rfl ?_
  refine g_get F fa_X6_26 (dk dtX6_back_0 24 rfl) (by decide) (cc0 D B _ _) rfl ?_
  refine g_callVi F (As := []) (st := []) cv_X6_222 (dk dtX6_back_0 25 rfl) (by decide) (cc12 D B _ _) rfl rfl (Nat.le_of_ble_eq_true rfl) ⟨by decide, by decide⟩ (k_X2_termHolders l D B _ _ 12 (isNow12 D B)) (fun r46 T46 M46 hp46 => ?_)
  obtain ⟨e1, e2, e3⟩ := hp46
  replace e1 := e1.symm; replace e2 := e2.symm; replace e3 := e3.symm; subst e1; subst e2; subst e3
  refine g_iret (F := F) hQ (dk dtX6_back_0 26 rfl) ?_
  exact ⟨by rw [up2_ne _ _ (by decide)]; rfl, rfl, rfl⟩
set_option maxRecDepth 100000 in
set_option maxHeartbeats 4000000 in
theorem k_X6_back_state (l : Launch) (D : DX) (B : Nat) (T : Int64) (M : Mem) (g : Nat) (hg : g < 2) (hs : M 107 g = nI 0) : Ci l D B 108 (celC D B) yX6_back cX6_back 2 (some .int) 3 [.ref (B + 0), .int (nI g)] T M (fun rz T1 M1 => rz = (-2) ∧ T1 = T ∧ M1 = M) := by
  refine g_entryi (L := [(0, .ref (B + 0)), (1, .int (nI g))]) (by decide) (Nat.le_of_ble_eq_true rfl) rfl ?_
  intro zp ze zs zm zb zt zc Q F hQ
  refine g_iload_n F 1 (dk dtX6_back_0 0 rfl) rfl ?_
  refine g_callSi F (As := [.int (nI g)]) (st := []) cs_X6_158 (dk dtX6_back_0 1 rfl) rfl rfl (Nat.le_of_ble_eq_true rfl) ⟨by decide, by decide⟩ (k_X6_isBit l D B _ _ _) (fun r1 T1 M1 hp1 => ?_)
  obtain ⟨e1, e2, e3⟩ := hp1
  replace e1 := e1.symm; replace e2 := e2.symm; replace e3 := e3.symm; subst e1; subst e2; subst e3
  refine g_if_neB F 9 (dk dtX6_back_0 2 rfl) (by decide) (fun _ => ?_) (fun c => absurd (inR_nI (by omega)) c)
  refine g_aload_n F 0 (dk dtX6_back_0 5 rfl) rfl ?_
  refine g_get F fa_X6_55 (dk dtX6_back_0 6 rfl) (by decide) (cc0 D B _ _) rfl ?_
  refine g_iload_n F 1 (dk dtX6_back_0 7 rfl) rfl ?_
  refine g_zald F (g) (dk dtX6_back_0 8 rfl) (by decide) (cc107 D B _ _) (by omega) (by decide) ?_
  refine g_top hs ?_
  refine g_if_neN F 21 (dk dtX6_back_0 9 rfl) (by decide) (by decide) (fun c => absurd c (by decide)) (fun _ => ?_)
  refine g_bipush F (-2) (dk dtX6_back_0 10 rfl) (by decide) ?_
  refine g_iret (F := F) hQ (dk dtX6_back_0 11 rfl) ?_
  exact ⟨rfl, rfl, rfl⟩
set_option maxRecDepth 100000 in
set_option maxHeartbeats 4000000 in
theorem k_X6_back_bad (l : Launch) (D : DX) (B : Nat) (T : Int64) (M : Mem) (g : Int32) (hb : ¬ inR g 2) : Ci l D B 108 (celC D B) yX6_back cX6_back 2 (some .int) 3 [.ref (B + 0), .int g] T M (fun rz T1 M1 => rz = (-1) ∧ T1 = T ∧ M1 = M) := by
  refine g_entryi (L := [(0, .ref (B + 0)), (1, .int g)]) (by decide) (Nat.le_of_ble_eq_true rfl) rfl ?_
  intro zp ze zs zm zb zt zc Q F hQ
  refine g_iload_n F 1 (dk dtX6_back_0 0 rfl) rfl ?_
  refine g_callSi F (As := [.int g]) (st := []) cs_X6_158 (dk dtX6_back_0 1 rfl) rfl rfl (Nat.le_of_ble_eq_true rfl) ⟨by decide, by decide⟩ (k_X6_isBit l D B _ _ _) (fun r1 T1 M1 hp1 => ?_)
  obtain ⟨e1, e2, e3⟩ := hp1
  replace e1 := e1.symm; replace e2 := e2.symm; replace e3 := e3.symm; subst e1; subst e2; subst e3
  refine g_if_neB F 9 (dk dtX6_back_0 2 rfl) (by decide) (fun c4 => ?_) (fun c4 => ?_)
  · -- taken at 4
    exact absurd c4 hb
  · -- not taken at 4
    refine g_iconst F (-1) (dk dtX6_back_0 3 rfl) (by decide) ?_
    refine g_iret (F := F) hQ (dk dtX6_back_0 4 rfl) ?_
    exact ⟨rfl, rfl, rfl⟩
set_option maxRecDepth 100000 in
set_option maxHeartbeats 4000000 in
theorem k_X6_count_0 (l : Launch) (D : DX) (B : Nat) (T : Int64) (M : Mem)  : Ci l D B 108 (celC D B) yX6_count cX6_count 2 (some .int) 0 [.ref (B + 0), .int (nI 0)] T M (fun rz T1 M1 => rz = (M 10 0) ∧ T1 = T ∧ M1 = M) := by
  refine g_entryi (L := [(0, .ref (B + 0)), (1, .int (nI 0))]) (by decide) (Nat.le_of_ble_eq_true rfl) rfl ?_
  intro zp ze zs zm zb zt zc Q F hQ
  refine g_iload_n F 1 (dk dtX6_count_0 0 rfl) rfl ?_
  refine g_tabIn F 36 (dk dtX6_count_0 1 rfl) (by decide) (by decide) rfl (by decide) ?_
  refine g_aload_n F 0 (dk dtX6_count_0 2 rfl) rfl ?_
  refine g_get F fa_X6_19 (dk dtX6_count_0 3 rfl) (by decide) (cc0 D B _ _) rfl ?_
  refine g_get F fa_X6_172 (dk dtX6_count_0 4 rfl) (by decide) (cc10 D B _ _) rfl ?_
  refine g_iret (F := F) hQ (dk dtX6_count_0 5 rfl) ?_
  exact ⟨rfl, rfl, rfl⟩
set_option maxRecDepth 100000 in
set_option maxHeartbeats 4000000 in
theorem k_X6_count_1 (l : Launch) (D : DX) (B : Nat) (T : Int64) (M : Mem)  : Ci l D B 108 (celC D B) yX6_count cX6_count 2 (some .int) 0 [.ref (B + 0), .int (nI 1)] T M (fun rz T1 M1 => rz = (M 10 1) ∧ T1 = T ∧ M1 = M) := by
  refine g_entryi (L := [(0, .ref (B + 0)), (1, .int (nI 1))]) (by decide) (Nat.le_of_ble_eq_true rfl) rfl ?_
  intro zp ze zs zm zb zt zc Q F hQ
  refine g_iload_n F 1 (dk dtX6_count_0 0 rfl) rfl ?_
  refine g_tabIn F 44 (dk dtX6_count_0 1 rfl) (by decide) (by decide) rfl (by decide) ?_
  refine g_aload_n F 0 (dk dtX6_count_0 6 rfl) rfl ?_
  refine g_get F fa_X6_19 (dk dtX6_count_0 7 rfl) (by decide) (cc0 D B _ _) rfl ?_
  refine g_get F fa_X6_225 (dk dtX6_count_0 8 rfl) (by decide) (cc10 D B _ _) rfl ?_
  refine g_iret (F := F) hQ (dk dtX6_count_0 9 rfl) ?_
  exact ⟨rfl, rfl, rfl⟩
set_option maxRecDepth 100000 in
set_option maxHeartbeats 4000000 in
theorem k_X6_count_2 (l : Launch) (D : DX) (B : Nat) (T : Int64) (M : Mem)  : Ci l D B 108 (celC D B) yX6_count cX6_count 2 (some .int) 0 [.ref (B + 0), .int (nI 2)] T M (fun rz T1 M1 => rz = (M 10 2) ∧ T1 = T ∧ M1 = M) := by
  refine g_entryi (L := [(0, .ref (B + 0)), (1, .int (nI 2))]) (by decide) (Nat.le_of_ble_eq_true rfl) rfl ?_
  intro zp ze zs zm zb zt zc Q F hQ
  refine g_iload_n F 1 (dk dtX6_count_0 0 rfl) rfl ?_
  refine g_tabIn F 52 (dk dtX6_count_0 1 rfl) (by decide) (by decide) rfl (by decide) ?_
  refine g_aload_n F 0 (dk dtX6_count_0 10 rfl) rfl ?_
  refine g_get F fa_X6_19 (dk dtX6_count_0 11 rfl) (by decide) (cc0 D B _ _) rfl ?_
  refine g_get F fa_X6_228 (dk dtX6_count_0 12 rfl) (by decide) (cc10 D B _ _) rfl ?_
  refine g_iret (F := F) hQ (dk dtX6_count_0 13 rfl) ?_
  exact ⟨rfl, rfl, rfl⟩
set_option maxRecDepth 100000 in
set_option maxHeartbeats 4000000 in
theorem k_X6_count_3 (l : Launch) (D : DX) (B : Nat) (T : Int64) (M : Mem)  : Ci l D B 108 (celC D B) yX6_count cX6_count 2 (some .int) 0 [.ref (B + 0), .int (nI 3)] T M (fun rz T1 M1 => rz = (M 92 3) ∧ T1 = T ∧ M1 = M) := by
  refine g_entryi (L := [(0, .ref (B + 0)), (1, .int (nI 3))]) (by decide) (Nat.le_of_ble_eq_true rfl) rfl ?_
  intro zp ze zs zm zb zt zc Q F hQ
  refine g_iload_n F 1 (dk dtX6_count_0 0 rfl) rfl ?_
  refine g_tabIn F 60 (dk dtX6_count_0 1 rfl) (by decide) (by decide) rfl (by decide) ?_
  refine g_aload_n F 0 (dk dtX6_count_0 14 rfl) rfl ?_
  refine g_get F fa_X6_47 (dk dtX6_count_0 15 rfl) (by decide) (cc0 D B _ _) rfl ?_
  refine g_get F fa_X6_91 (dk dtX6_count_0 16 rfl) (by decide) (cc92 D B _ _) rfl ?_
  refine g_iret (F := F) hQ (dk dtX6_count_0 17 rfl) ?_
  exact ⟨rfl, rfl, rfl⟩
set_option maxRecDepth 100000 in
set_option maxHeartbeats 4000000 in
theorem k_X6_count_4 (l : Launch) (D : DX) (B : Nat) (T : Int64) (M : Mem)  : Ci l D B 108 (celC D B) yX6_count cX6_count 2 (some .int) 0 [.ref (B + 0), .int (nI 4)] T M (fun rz T1 M1 => rz = (M 1 1) ∧ T1 = T ∧ M1 = M) := by
  refine g_entryi (L := [(0, .ref (B + 0)), (1, .int (nI 4))]) (by decide) (Nat.le_of_ble_eq_true rfl) rfl ?_
  intro zp ze zs zm zb zt zc Q F hQ
  refine g_iload_n F 1 (dk dtX6_count_0 0 rfl) rfl ?_
  refine g_tabIn F 68 (dk dtX6_count_0 1 rfl) (by decide) (by decide) rfl (by decide) ?_
  refine g_aload_n F 0 (dk dtX6_count_0 18 rfl) rfl ?_
  refine g_get F fa_X6_10 (dk dtX6_count_0 19 rfl) (by decide) (cc0 D B _ _) rfl ?_
  refine g_get F fa_X6_63 (dk dtX6_count_0 20 rfl) (by decide) (cc1 D B _ _) rfl ?_
  refine g_iret (F := F) hQ (dk dtX6_count_0 21 rfl) ?_
  exact ⟨rfl, rfl, rfl⟩
set_option maxRecDepth 100000 in
set_option maxHeartbeats 4000000 in
theorem k_X6_count_bad (l : Launch) (D : DX) (B : Nat) (T : Int64) (M : Mem) (w : Int32) (hb : ¬ inR w 5) : Ci l D B 108 (celC D B) yX6_count cX6_count 2 (some .int) 0 [.ref (B + 0), .int w] T M (fun rz T1 M1 => rz = (-1) ∧ T1 = T ∧ M1 = M) := by
  refine g_entryi (L := [(0, .ref (B + 0)), (1, .int w)]) (by decide) (Nat.le_of_ble_eq_true rfl) rfl ?_
  intro zp ze zs zm zb zt zc Q F hQ
  refine g_iload_n F 1 (dk dtX6_count_0 0 rfl) rfl ?_
  refine g_tabOut F 76 (dk dtX6_count_0 1 rfl) (inR_out 4 hb) (by decide) ?_
  refine g_iconst F (-1) (dk dtX6_count_0 22 rfl) (by decide) ?_
  refine g_iret (F := F) hQ (dk dtX6_count_0 23 rfl) ?_
  exact ⟨rfl, rfl, rfl⟩
set_option maxRecDepth 100000 in
set_option maxHeartbeats 4000000 in
theorem k_X6_asOne (l : Launch) (D : DX) (B : Nat) (T : Int64) (M : Mem) (p : Nat) (hp : p < 5) : Ci l D B 108 (celC D B) yX6_asOne cX6_asOne 2 (some .int) 0 [.ref (B + 0), .int (nI p)] T M (fun r T1 M1 => r = M 11 p ∧ T1 = T + 1 ∧ M1 = M) := by
  refine g_entryi (L := [(0, .ref (B + 0)), (1, .int (nI p))]) (by decide) (Nat.le_of_ble_eq_true rfl) rfl ?_
  intro zp ze zs zm zb zt zc Q F hQ
  refine g_aload_n F 0 (dk dtX6_asOne_0 0 rfl) rfl ?_
  refine g_dup F (dk dtX6_asOne_0 1 rfl) rfl ?_
  refine g_get F fa_X6_59 (dk dtX6_asOne_0 2 rfl) (by decide) (cc0 D B _ _) rfl ?_
  refine g_lconst F 1 (dk dtX6_asOne_0 3 rfl) (by decide) ?_
  refine g_ladd F (dk dtX6_asOne_0 4 rfl) ?_
  refine g_putG F (T1 := T + 1) (M 0) fa_X6_59 (dk dtX6_asOne_0 5 rfl) (by decide) (cc0 D B _ _) (Nat.le_of_ble_eq_true rfl) rfl rfl (cc0 D B _ _) (fun i hi r => celC_T hi r) ?_
  refine g_mem (setR_same _ _) ?_
  refine g_aload_n F 0 (dk dtX6_asOne_0 6 rfl) rfl ?_
  refine g_get F fa_X6_19 (dk dtX6_asOne_0 7 rfl) (by decide) (cc0 D B _ _) rfl ?_
  refine g_get F fa_X6_98 (dk dtX6_asOne_0 8 rfl) (by decide) (cc10 D B _ _) rfl ?_
  refine g_iload_n F 1 (dk dtX6_asOne_0 9 rfl) rfl ?_
  refine g_iald F (p) (dk dtX6_asOne_0 10 rfl) (by decide) (cc11 D B _ _) (by omega) (by decide) ?_
  refine g_iret (F := F) hQ (dk dtX6_asOne_0 11 rfl) ?_
  exact ⟨rfl, rfl, rfl⟩
set_option maxRecDepth 100000 in
set_option maxHeartbeats 4000000 in
theorem k_X6_asGirl (l : Launch) (D : DX) (B : Nat) (T : Int64) (M : Mem) (p : Nat) (hp : p < 5) : Ci l D B 108 (celC D B) yX6_asGirl cX6_asGirl 2 (some .int) 1 [.ref (B + 0), .int (nI p)] T M (fun r T1 M1 => r = M 11 p + M 14 p ∧ T1 = T + 10 + 1 ∧ M1 = M) := by
  refine g_entryi (L := [(0, .ref (B + 0)), (1, .int (nI p))]) (by decide) (Nat.le_of_ble_eq_true rfl) rfl ?_
  intro zp ze zs zm zb zt zc Q F hQ
  refine g_aload_n F 0 (dk dtX6_asGirl_0 0 rfl) rfl ?_
  refine g_dup F (dk dtX6_asGirl_0 1 rfl) rfl ?_
  refine g_get F fa_X6_59 (dk dtX6_asGirl_0 2 rfl) (by decide) (cc0 D B _ _) rfl ?_
  refine g_ldc2 F (dk dtX6_asGirl_0 3 rfl) (tw3 41 rfl) ?_
  refine g_ladd F (dk dtX6_asGirl_0 4 rfl) ?_
  refine g_putG F (T1 := T + 10) (M 0) fa_X6_59 (dk dtX6_asGirl_0 5 rfl) (by decide) (cc0 D B _ _) (Nat.le_of_ble_eq_true rfl) rfl rfl (cc0 D B _ _) (fun i hi r => celC_T hi r) ?_
  refine g_mem (setR_same _ _) ?_
  refine g_aload_n F 0 (dk dtX6_asGirl_0 6 rfl) rfl ?_
  refine g_iload_n F 1 (dk dtX6_asGirl_0 7 rfl) rfl ?_
  refine g_callVi F (As := [.int (nI p)]) (st := []) cv_X6_203 (dk dtX6_asGirl_0 8 rfl) (by decide) (cc0 D B _ _) rfl rfl (Nat.le_of_ble_eq_true rfl) ⟨by decide, by decide⟩ (k_X6_asOne l D B _ _ _ (by omega)) (fun r14 T14 M14 hp14 => ?_)
  obtain ⟨e1, e2, e3⟩ := hp14
  replace e1 := e1.symm; replace e2 := e2.symm; replace e3 := e3.symm; subst e1; subst e2; subst e3
  refine g_aload_n F 0 (dk dtX6_asGirl_0 9 rfl) rfl ?_
  refine g_get F fa_X6_26 (dk dtX6_asGirl_0 10 rfl) (by decide) (cc0 D B _ _) rfl ?_
  refine g_get F fa_X6_104 (dk dtX6_asGirl_0 11 rfl) (by decide) (cc12 D B _ _) rfl ?_
  refine g_iload_n F 1 (dk dtX6_asGirl_0 12 rfl) rfl ?_
  refine g_iald F (p) (dk dtX6_asGirl_0 13 rfl) (by decide) (cc14 D B _ _) (by omega) (by decide) ?_
  refine g_iadd F (dk dtX6_asGirl_0 14 rfl) ?_
  refine g_iret (F := F) hQ (dk dtX6_asGirl_0 15 rfl) ?_
  exact ⟨rfl, rfl, rfl⟩
set_option maxRecDepth 100000 in
set_option maxHeartbeats 4000000 in
theorem k_X6_asCool (l : Launch) (D : DX) (B : Nat) (T : Int64) (M : Mem) (p : Nat) (hp : p < 5) : Ci l D B 108 (celC D B) yX6_asCool cX6_asCool 2 (some .int) 1 [.ref (B + 0), .int (nI p)] T M (fun r T1 M1 => r = M 11 p - M 16 p ∧ T1 = T + 100 + 1 ∧ M1 = M) := by
  refine g_entryi (L := [(0, .ref (B + 0)), (1, .int (nI p))]) (by decide) (Nat.le_of_ble_eq_true rfl) rfl ?_
  intro zp ze zs zm zb zt zc Q F hQ
  refine g_aload_n F 0 (dk dtX6_asCool_0 0 rfl) rfl ?_
  refine g_dup F (dk dtX6_asCool_0 1 rfl) rfl ?_
  refine g_get F fa_X6_59 (dk dtX6_asCool_0 2 rfl) (by decide) (cc0 D B _ _) rfl ?_
  refine g_ldc2 F (dk dtX6_asCool_0 3 rfl) (tw3 46 rfl) ?_
  refine g_ladd F (dk dtX6_asCool_0 4 rfl) ?_
  refine g_putG F (T1 := T + 100) (M 0) fa_X6_59 (dk dtX6_asCool_0 5 rfl) (by decide) (cc0 D B _ _) (Nat.le_of_ble_eq_true rfl) rfl rfl (cc0 D B _ _) (fun i hi r => celC_T hi r) ?_
  refine g_mem (setR_same _ _) ?_
  refine g_aload_n F 0 (dk dtX6_asCool_0 6 rfl) rfl ?_
  refine g_iload_n F 1 (dk dtX6_asCool_0 7 rfl) rfl ?_
  refine g_callVi F (As := [.int (nI p)]) (st := []) cv_X6_203 (dk dtX6_asCool_0 8 rfl) (by decide) (cc0 D B _ _) rfl rfl (Nat.le_of_ble_eq_true rfl) ⟨by decide, by decide⟩ (k_X6_asOne l D B _ _ _ (by omega)) (fun r14 T14 M14 hp14 => ?_)
  obtain ⟨e1, e2, e3⟩ := hp14
  replace e1 := e1.symm; replace e2 := e2.symm; replace e3 := e3.symm; subst e1; subst e2; subst e3
  refine g_aload_n F 0 (dk dtX6_asCool_0 9 rfl) rfl ?_
  refine g_get F fa_X6_26 (dk dtX6_asCool_0 10 rfl) (by decide) (cc0 D B _ _) rfl ?_
  refine g_get F fa_X6_107 (dk dtX6_asCool_0 11 rfl) (by decide) (cc12 D B _ _) rfl ?_
  refine g_iload_n F 1 (dk dtX6_asCool_0 12 rfl) rfl ?_
  refine g_iald F (p) (dk dtX6_asCool_0 13 rfl) (by decide) (cc16 D B _ _) (by omega) (by decide) ?_
  refine g_isub F (dk dtX6_asCool_0 14 rfl) ?_
  refine g_iret (F := F) hQ (dk dtX6_asCool_0 15 rfl) ?_
  exact ⟨rfl, rfl, rfl⟩
set_option maxRecDepth 100000 in
set_option maxHeartbeats 4000000 in
theorem k_X6_asChild (l : Launch) (D : DX) (B : Nat) (T : Int64) (M : Mem) (p : Nat) (hp : p < 5) : Ci l D B 108 (celC D B) yX6_asChild cX6_asChild 2 (some .int) 2 [.ref (B + 0), .int (nI p)] T M (fun r T1 M1 => r = nI 2 * (M 11 p + M 14 p) ∧ T1 = T + 1000 + 10 + 1 ∧ M1 = M) := by
  refine g_entryi (L := [(0, .ref (B + 0)), (1, .int (nI p))]) (by decide) (Nat.le_of_ble_eq_true rfl) rfl ?_
  intro zp ze zs zm zb zt zc Q F hQ
  refine g_aload_n F 0 (dk dtX6_asChild_0 0 rfl) rfl ?_
  refine g_dup F (dk dtX6_asChild_0 1 rfl) rfl ?_
  refine g_get F fa_X6_59 (dk dtX6_asChild_0 2 rfl) (by decide) (cc0 D B _ _) rfl ?_
  refine g_ldc2 F (dk dtX6_asChild_0 3 rfl) (tw3 51 rfl) ?_
  refine g_ladd F (dk dtX6_asChild_0 4 rfl) ?_
  refine g_putG F (T1 := T + 1000) (M 0) fa_X6_59 (dk dtX6_asChild_0 5 rfl) (by decide) (cc0 D B _ _) (Nat.le_of_ble_eq_true rfl) rfl rfl (cc0 D B _ _) (fun i hi r => celC_T hi r) ?_
  refine g_mem (setR_same _ _) ?_
  refine g_iconst F (nI 2) (dk dtX6_asChild_0 6 rfl) (by decide) ?_
  refine g_aload_n F 0 (dk dtX6_asChild_0 7 rfl) rfl ?_
  refine g_iload_n F 1 (dk dtX6_asChild_0 8 rfl) rfl ?_
  refine g_callVi F (As := [.int (nI p)]) (st := [.int (nI 2)]) cv_X6_207 (dk dtX6_asChild_0 9 rfl) (by decide) (cc0 D B _ _) rfl rfl (Nat.le_of_ble_eq_true rfl) ⟨by decide, by decide⟩ (k_X6_asGirl l D B _ _ _ (by omega)) (fun r15 T15 M15 hp15 => ?_)
  obtain ⟨e1, e2, e3⟩ := hp15
  replace e1 := e1.symm; replace e2 := e2.symm; replace e3 := e3.symm; subst e1; subst e2; subst e3
  refine g_imul F (dk dtX6_asChild_0 10 rfl) ?_
  refine g_iret (F := F) hQ (dk dtX6_asChild_0 11 rfl) ?_
  exact ⟨rfl, rfl, rfl⟩
set_option maxRecDepth 100000 in
set_option maxHeartbeats 4000000 in
theorem k_X6_asSage (l : Launch) (D : DX) (B : Nat) (T : Int64) (M : Mem) (p : Nat) (hp : p < 5) : Ci l D B 108 (celC D B) yX6_asSage cX6_asSage 2 (some .int) 2 [.ref (B + 0), .int (nI p)] T M (fun r T1 M1 => r = M 11 p - M 16 p + nI p ∧ T1 = T + 10000 + 100 + 1 ∧ M1 = M) := by
  refine g_entryi (L := [(0, .ref (B + 0)), (1, .int (nI p))]) (by decide) (Nat.le_of_ble_eq_true rfl) rfl ?_
  intro zp ze zs zm zb zt zc Q F hQ
  refine g_aload_n F 0 (dk dtX6_asSage_0 0 rfl) rfl ?_
  refine g_dup F (dk dtX6_asSage_0 1 rfl) rfl ?_
  refine g_get F fa_X6_59 (dk dtX6_asSage_0 2 rfl) (by decide) (cc0 D B _ _) rfl ?_
  refine g_ldc2 F (dk dtX6_asSage_0 3 rfl) (tw3 56 rfl) ?_
  refine g_ladd F (dk dtX6_asSage_0 4 rfl) ?_
  refine g_putG F (T1 := T + 10000) (M 0) fa_X6_59 (dk dtX6_asSage_0 5 rfl) (by decide) (cc0 D B _ _) (Nat.le_of_ble_eq_true rfl) rfl rfl (cc0 D B _ _) (fun i hi r => celC_T hi r) ?_
  refine g_mem (setR_same _ _) ?_
  refine g_aload_n F 0 (dk dtX6_asSage_0 6 rfl) rfl ?_
  refine g_iload_n F 1 (dk dtX6_asSage_0 7 rfl) rfl ?_
  refine g_callVi F (As := [.int (nI p)]) (st := []) cv_X6_210 (dk dtX6_asSage_0 8 rfl) (by decide) (cc0 D B _ _) rfl rfl (Nat.le_of_ble_eq_true rfl) ⟨by decide, by decide⟩ (k_X6_asCool l D B _ _ _ (by omega)) (fun r14 T14 M14 hp14 => ?_)
  obtain ⟨e1, e2, e3⟩ := hp14
  replace e1 := e1.symm; replace e2 := e2.symm; replace e3 := e3.symm; subst e1; subst e2; subst e3
  refine g_iload_n F 1 (dk dtX6_asSage_0 9 rfl) rfl ?_
  refine g_iadd F (dk dtX6_asSage_0 10 rfl) ?_
  refine g_iret (F := F) hQ (dk dtX6_asSage_0 11 rfl) ?_
  exact ⟨rfl, rfl, rfl⟩
set_option maxRecDepth 100000 in
set_option maxHeartbeats 4000000 in
theorem k_X6_asTwin (l : Launch) (D : DX) (B : Nat) (T : Int64) (M : Mem) (p : Nat) (hp : p < 5) : Ci l D B 108 (celC D B) yX6_asTwin cX6_asTwin 2 (some .int) 1 [.ref (B + 0), .int (nI p)] T M (fun r T1 M1 => r = M 11 p + M 13 p ∧ T1 = T + 100000 + 1 ∧ M1 = M) := by
  refine g_entryi (L := [(0, .ref (B + 0)), (1, .int (nI p))]) (by decide) (Nat.le_of_ble_eq_true rfl) rfl ?_
  intro zp ze zs zm zb zt zc Q F hQ
  refine g_aload_n F 0 (dk dtX6_asTwin_0 0 rfl) rfl ?_
  refine g_dup F (dk dtX6_asTwin_0 1 rfl) rfl ?_
  refine g_get F fa_X6_59 (dk dtX6_asTwin_0 2 rfl) (by decide) (cc0 D B _ _) rfl ?_
  refine g_ldc2 F (dk dtX6_asTwin_0 3 rfl) (tw3 61 rfl) ?_
  refine g_ladd F (dk dtX6_asTwin_0 4 rfl) ?_
  refine g_putG F (T1 := T + 100000) (M 0) fa_X6_59 (dk dtX6_asTwin_0 5 rfl) (by decide) (cc0 D B _ _) (Nat.le_of_ble_eq_true rfl) rfl rfl (cc0 D B _ _) (fun i hi r => celC_T hi r) ?_
  refine g_mem (setR_same _ _) ?_
  refine g_aload_n F 0 (dk dtX6_asTwin_0 6 rfl) rfl ?_
  refine g_iload_n F 1 (dk dtX6_asTwin_0 7 rfl) rfl ?_
  refine g_callVi F (As := [.int (nI p)]) (st := []) cv_X6_203 (dk dtX6_asTwin_0 8 rfl) (by decide) (cc0 D B _ _) rfl rfl (Nat.le_of_ble_eq_true rfl) ⟨by decide, by decide⟩ (k_X6_asOne l D B _ _ _ (by omega)) (fun r14 T14 M14 hp14 => ?_)
  obtain ⟨e1, e2, e3⟩ := hp14
  replace e1 := e1.symm; replace e2 := e2.symm; replace e3 := e3.symm; subst e1; subst e2; subst e3
  refine g_aload_n F 0 (dk dtX6_asTwin_0 9 rfl) rfl ?_
  refine g_get F fa_X6_26 (dk dtX6_asTwin_0 10 rfl) (by decide) (cc0 D B _ _) rfl ?_
  refine g_get F fa_X6_101 (dk dtX6_asTwin_0 11 rfl) (by decide) (cc12 D B _ _) rfl ?_
  refine g_iload_n F 1 (dk dtX6_asTwin_0 12 rfl) rfl ?_
  refine g_iald F (p) (dk dtX6_asTwin_0 13 rfl) (by decide) (cc13 D B _ _) (by omega) (by decide) ?_
  refine g_iadd F (dk dtX6_asTwin_0 14 rfl) ?_
  refine g_iret (F := F) hQ (dk dtX6_asTwin_0 15 rfl) ?_
  exact ⟨rfl, rfl, rfl⟩
set_option maxRecDepth 100000 in
set_option maxHeartbeats 4000000 in
theorem k_X6_rate_0 (l : Launch) (D : DX) (B : Nat) (T : Int64) (M : Mem) (P : Nat) (hP : M 10 2 = nI P) (hP5 : P ≤ 5) (p : Nat) (hp : p < P) : Ci l D B 108 (celC D B) yX6_rate cX6_rate 3 (some .int) 3 [.ref (B + 0), .int (nI 0), .int (nI p)] T M (fun r T1 M1 => r = M 11 p ∧ T1 = T + 1 ∧ M1 = M) := by
  refine g_entryi (L := [(0, .ref (B + 0)), (1, .int (nI 0)), (2, .int (nI p))]) (by decide) (Nat.le_of_ble_eq_true rfl) rfl ?_
  intro zp ze zs zm zb zt zc Q F hQ
  refine g_aload_n F 0 (dk dtX6_rate_0 0 rfl) rfl ?_
  refine g_get F fa_X6_19 (dk dtX6_rate_0 1 rfl) (by decide) (cc0 D B _ _) rfl ?_
  refine g_iload_n F 2 (dk dtX6_rate_0 2 rfl) rfl ?_
  refine g_callVi F (As := [.int (nI p)]) (st := []) cv_X6_94 (dk dtX6_rate_0 3 rfl) (by decide) (cc10 D B _ _) rfl rfl (Nat.le_of_ble_eq_true rfl) ⟨by decide, by decide⟩ (k_X5_hasPersonR l D B _ _ _ P hP) (fun r5 T5 M5 hp5 => ?_)
  obtain ⟨e1, e2, e3⟩ := hp5
  replace e1 := e1.symm; replace e2 := e2.symm; replace e3 := e3.symm; subst e1; subst e2; subst e3
  refine g_if_neB F 14 (dk dtX6_rate_0 4 rfl) (by decide) (fun _ => ?_) (fun c => absurd (inR_nI (by omega)) c)
  refine g_iload_n F 1 (dk dtX6_rate_0 7 rfl) rfl ?_
  refine g_tabIn F 52 (dk dtX6_rate_0 8 rfl) (by decide) (by decide) rfl (by decide) ?_
  refine g_aload_n F 0 (dk dtX6_rate_0 9 rfl) rfl ?_
  refine g_iload_n F 2 (dk dtX6_rate_0 10 rfl) rfl ?_
  refine g_callVi F (As := [.int (nI p)]) (st := []) cv_X6_203 (dk dtX6_rate_0 11 rfl) (by decide) (cc0 D B _ _) rfl rfl (Nat.le_of_ble_eq_true rfl) ⟨by decide, by decide⟩ (k_X6_asOne l D B _ _ _ (by omega)) (fun r54 T54 M54 hp54 => ?_)
  obtain ⟨e1, e2, e3⟩ := hp54
  replace e1 := e1.symm; replace e2 := e2.symm; replace e3 := e3.symm; subst e1; subst e2; subst e3
  refine g_iret (F := F) hQ (dk dtX6_rate_0 12 rfl) ?_
  exact ⟨rfl, rfl, rfl⟩
set_option maxRecDepth 100000 in
set_option maxHeartbeats 4000000 in
theorem k_X6_rate_1 (l : Launch) (D : DX) (B : Nat) (T : Int64) (M : Mem) (P : Nat) (hP : M 10 2 = nI P) (hP5 : P ≤ 5) (p : Nat) (hp : p < P) : Ci l D B 108 (celC D B) yX6_rate cX6_rate 3 (some .int) 3 [.ref (B + 0), .int (nI 1), .int (nI p)] T M (fun r T1 M1 => r = M 11 p + M 14 p ∧ T1 = T + 10 + 1 ∧ M1 = M) := by
  refine g_entryi (L := [(0, .ref (B + 0)), (1, .int (nI 1)), (2, .int (nI p))]) (by decide) (Nat.le_of_ble_eq_true rfl) rfl ?_
  intro zp ze zs zm zb zt zc Q F hQ
  refine g_aload_n F 0 (dk dtX6_rate_0 0 rfl) rfl ?_
  refine g_get F fa_X6_19 (dk dtX6_rate_0 1 rfl) (by decide) (cc0 D B _ _) rfl ?_
  refine g_iload_n F 2 (dk dtX6_rate_0 2 rfl) rfl ?_
  refine g_callVi F (As := [.int (nI p)]) (st := []) cv_X6_94 (dk dtX6_rate_0 3 rfl) (by decide) (cc10 D B _ _) rfl rfl (Nat.le_of_ble_eq_true rfl) ⟨by decide, by decide⟩ (k_X5_hasPersonR l D B _ _ _ P hP) (fun r5 T5 M5 hp5 => ?_)
  obtain ⟨e1, e2, e3⟩ := hp5
  replace e1 := e1.symm; replace e2 := e2.symm; replace e3 := e3.symm; subst e1; subst e2; subst e3
  refine g_if_neB F 14 (dk dtX6_rate_0 4 rfl) (by decide) (fun _ => ?_) (fun c => absurd (inR_nI (by omega)) c)
  refine g_iload_n F 1 (dk dtX6_rate_0 7 rfl) rfl ?_
  refine g_tabIn F 58 (dk dtX6_rate_0 8 rfl) (by decide) (by decide) rfl (by decide) ?_
  refine g_aload_n F 0 (dk dtX6_rate_0 13 rfl) rfl ?_
  refine g_iload_n F 2 (dk dtX6_rate_0 14 rfl) rfl ?_
  refine g_callVi F (As := [.int (nI p)]) (st := []) cv_X6_207 (dk dtX6_rate_0 15 rfl) (by decide) (cc0 D B _ _) rfl rfl (Nat.le_of_ble_eq_true rfl) ⟨by decide, by decide⟩ (k_X6_asGirl l D B _ _ _ (by omega)) (fun r60 T60 M60 hp60 => ?_)
  obtain ⟨e1, e2, e3⟩ := hp60
  replace e1 := e1.symm; replace e2 := e2.symm; replace e3 := e3.symm; subst e1; subst e2; subst e3
  refine g_iret (F := F) hQ (dk dtX6_rate_0 16 rfl) ?_
  exact ⟨rfl, rfl, rfl⟩
set_option maxRecDepth 100000 in
set_option maxHeartbeats 4000000 in
theorem k_X6_rate_2 (l : Launch) (D : DX) (B : Nat) (T : Int64) (M : Mem) (P : Nat) (hP : M 10 2 = nI P) (hP5 : P ≤ 5) (p : Nat) (hp : p < P) : Ci l D B 108 (celC D B) yX6_rate cX6_rate 3 (some .int) 3 [.ref (B + 0), .int (nI 2), .int (nI p)] T M (fun r T1 M1 => r = M 11 p - M 16 p ∧ T1 = T + 100 + 1 ∧ M1 = M) := by
  refine g_entryi (L := [(0, .ref (B + 0)), (1, .int (nI 2)), (2, .int (nI p))]) (by decide) (Nat.le_of_ble_eq_true rfl) rfl ?_
  intro zp ze zs zm zb zt zc Q F hQ
  refine g_aload_n F 0 (dk dtX6_rate_0 0 rfl) rfl ?_
  refine g_get F fa_X6_19 (dk dtX6_rate_0 1 rfl) (by decide) (cc0 D B _ _) rfl ?_
  refine g_iload_n F 2 (dk dtX6_rate_0 2 rfl) rfl ?_
  refine g_callVi F (As := [.int (nI p)]) (st := []) cv_X6_94 (dk dtX6_rate_0 3 rfl) (by decide) (cc10 D B _ _) rfl rfl (Nat.le_of_ble_eq_true rfl) ⟨by decide, by decide⟩ (k_X5_hasPersonR l D B _ _ _ P hP) (fun r5 T5 M5 hp5 => ?_)
  obtain ⟨e1, e2, e3⟩ := hp5
  replace e1 := e1.symm; replace e2 := e2.symm; replace e3 := e3.symm; subst e1; subst e2; subst e3
  refine g_if_neB F 14 (dk dtX6_rate_0 4 rfl) (by decide) (fun _ => ?_) (fun c => absurd (inR_nI (by omega)) c)
  refine g_iload_n F 1 (dk dtX6_rate_0 7 rfl) rfl ?_
  refine g_tabIn F 64 (dk dtX6_rate_0 8 rfl) (by decide) (by decide) rfl (by decide) ?_
  refine g_aload_n F 0 (dk dtX6_rate_0 17 rfl) rfl ?_
  refine g_iload_n F 2 (dk dtX6_rate_0 18 rfl) rfl ?_
  refine g_callVi F (As := [.int (nI p)]) (st := []) cv_X6_210 (dk dtX6_rate_0 19 rfl) (by decide) (cc0 D B _ _) rfl rfl (Nat.le_of_ble_eq_true rfl) ⟨by decide, by decide⟩ (k_X6_asCool l D B _ _ _ (by omega)) (fun r66 T66 M66 hp66 => ?_)
  obtain ⟨e1, e2, e3⟩ := hp66
  replace e1 := e1.symm; replace e2 := e2.symm; replace e3 := e3.symm; subst e1; subst e2; subst e3
  refine g_iret (F := F) hQ (dk dtX6_rate_0 20 rfl) ?_
  exact ⟨rfl, rfl, rfl⟩
set_option maxRecDepth 100000 in
set_option maxHeartbeats 4000000 in
theorem k_X6_rate_3 (l : Launch) (D : DX) (B : Nat) (T : Int64) (M : Mem) (P : Nat) (hP : M 10 2 = nI P) (hP5 : P ≤ 5) (p : Nat) (hp : p < P) : Ci l D B 108 (celC D B) yX6_rate cX6_rate 3 (some .int) 3 [.ref (B + 0), .int (nI 3), .int (nI p)] T M (fun r T1 M1 => r = nI 2 * (M 11 p + M 14 p) ∧ T1 = T + 1000 + 10 + 1 ∧ M1 = M) := by
  refine g_entryi (L := [(0, .ref (B + 0)), (1, .int (nI 3)), (2, .int (nI p))]) (by decide) (Nat.le_of_ble_eq_true rfl) rfl ?_
  intro zp ze zs zm zb zt zc Q F hQ
  refine g_aload_n F 0 (dk dtX6_rate_0 0 rfl) rfl ?_
  refine g_get F fa_X6_19 (dk dtX6_rate_0 1 rfl) (by decide) (cc0 D B _ _) rfl ?_
  refine g_iload_n F 2 (dk dtX6_rate_0 2 rfl) rfl ?_
  refine g_callVi F (As := [.int (nI p)]) (st := []) cv_X6_94 (dk dtX6_rate_0 3 rfl) (by decide) (cc10 D B _ _) rfl rfl (Nat.le_of_ble_eq_true rfl) ⟨by decide, by decide⟩ (k_X5_hasPersonR l D B _ _ _ P hP) (fun r5 T5 M5 hp5 => ?_)
  obtain ⟨e1, e2, e3⟩ := hp5
  replace e1 := e1.symm; replace e2 := e2.symm; replace e3 := e3.symm; subst e1; subst e2; subst e3
  refine g_if_neB F 14 (dk dtX6_rate_0 4 rfl) (by decide) (fun _ => ?_) (fun c => absurd (inR_nI (by omega)) c)
  refine g_iload_n F 1 (dk dtX6_rate_0 7 rfl) rfl ?_
  refine g_tabIn F 70 (dk dtX6_rate_0 8 rfl) (by decide) (by decide) rfl (by decide) ?_
  refine g_aload_n F 0 (dk dtX6_rate_0 21 rfl) rfl ?_
  refine g_iload_n F 2 (dk dtX6_rate_0 22 rfl) rfl ?_
  refine g_callVi F (As := [.int (nI p)]) (st := []) cv_X6_213 (dk dtX6_rate_0 23 rfl) (by decide) (cc0 D B _ _) rfl rfl (Nat.le_of_ble_eq_true rfl) ⟨by decide, by decide⟩ (k_X6_asChild l D B _ _ _ (by omega)) (fun r72 T72 M72 hp72 => ?_)
  obtain ⟨e1, e2, e3⟩ := hp72
  replace e1 := e1.symm; replace e2 := e2.symm; replace e3 := e3.symm; subst e1; subst e2; subst e3
  refine g_iret (F := F) hQ (dk dtX6_rate_0 24 rfl) ?_
  exact ⟨rfl, rfl, rfl⟩
set_option maxRecDepth 100000 in
set_option maxHeartbeats 4000000 in
theorem k_X6_rate_4 (l : Launch) (D : DX) (B : Nat) (T : Int64) (M : Mem) (P : Nat) (hP : M 10 2 = nI P) (hP5 : P ≤ 5) (p : Nat) (hp : p < P) : Ci l D B 108 (celC D B) yX6_rate cX6_rate 3 (some .int) 3 [.ref (B + 0), .int (nI 4), .int (nI p)] T M (fun r T1 M1 => r = M 11 p - M 16 p + nI p ∧ T1 = T + 10000 + 100 + 1 ∧ M1 = M) := by
  refine g_entryi (L := [(0, .ref (B + 0)), (1, .int (nI 4)), (2, .int (nI p))]) (by decide) (Nat.le_of_ble_eq_true rfl) rfl ?_
  intro zp ze zs zm zb zt zc Q F hQ
  refine g_aload_n F 0 (dk dtX6_rate_0 0 rfl) rfl ?_
  refine g_get F fa_X6_19 (dk dtX6_rate_0 1 rfl) (by decide) (cc0 D B _ _) rfl ?_
  refine g_iload_n F 2 (dk dtX6_rate_0 2 rfl) rfl ?_
  refine g_callVi F (As := [.int (nI p)]) (st := []) cv_X6_94 (dk dtX6_rate_0 3 rfl) (by decide) (cc10 D B _ _) rfl rfl (Nat.le_of_ble_eq_true rfl) ⟨by decide, by decide⟩ (k_X5_hasPersonR l D B _ _ _ P hP) (fun r5 T5 M5 hp5 => ?_)
  obtain ⟨e1, e2, e3⟩ := hp5
  replace e1 := e1.symm; replace e2 := e2.symm; replace e3 := e3.symm; subst e1; subst e2; subst e3
  refine g_if_neB F 14 (dk dtX6_rate_0 4 rfl) (by decide) (fun _ => ?_) (fun c => absurd (inR_nI (by omega)) c)
  refine g_iload_n F 1 (dk dtX6_rate_0 7 rfl) rfl ?_
  refine g_tabIn F 76 (dk dtX6_rate_0 8 rfl) (by decide) (by decide) rfl (by decide) ?_
  refine g_aload_n F 0 (dk dtX6_rate_0 25 rfl) rfl ?_
  refine g_iload_n F 2 (dk dtX6_rate_0 26 rfl) rfl ?_
  refine g_callVi F (As := [.int (nI p)]) (st := []) cv_X6_216 (dk dtX6_rate_0 27 rfl) (by decide) (cc0 D B _ _) rfl rfl (Nat.le_of_ble_eq_true rfl) ⟨by decide, by decide⟩ (k_X6_asSage l D B _ _ _ (by omega)) (fun r78 T78 M78 hp78 => ?_)
  obtain ⟨e1, e2, e3⟩ := hp78
  replace e1 := e1.symm; replace e2 := e2.symm; replace e3 := e3.symm; subst e1; subst e2; subst e3
  refine g_iret (F := F) hQ (dk dtX6_rate_0 28 rfl) ?_
  exact ⟨rfl, rfl, rfl⟩
set_option maxRecDepth 100000 in
set_option maxHeartbeats 4000000 in
theorem k_X6_rate_5 (l : Launch) (D : DX) (B : Nat) (T : Int64) (M : Mem) (P : Nat) (hP : M 10 2 = nI P) (hP5 : P ≤ 5) (p : Nat) (hp : p < P) : Ci l D B 108 (celC D B) yX6_rate cX6_rate 3 (some .int) 3 [.ref (B + 0), .int (nI 5), .int (nI p)] T M (fun r T1 M1 => r = M 11 p + M 13 p ∧ T1 = T + 100000 + 1 ∧ M1 = M) := by
  refine g_entryi (L := [(0, .ref (B + 0)), (1, .int (nI 5)), (2, .int (nI p))]) (by decide) (Nat.le_of_ble_eq_true rfl) rfl ?_
  intro zp ze zs zm zb zt zc Q F hQ
  refine g_aload_n F 0 (dk dtX6_rate_0 0 rfl) rfl ?_
  refine g_get F fa_X6_19 (dk dtX6_rate_0 1 rfl) (by decide) (cc0 D B _ _) rfl ?_
  refine g_iload_n F 2 (dk dtX6_rate_0 2 rfl) rfl ?_
  refine g_callVi F (As := [.int (nI p)]) (st := []) cv_X6_94 (dk dtX6_rate_0 3 rfl) (by decide) (cc10 D B _ _) rfl rfl (Nat.le_of_ble_eq_true rfl) ⟨by decide, by decide⟩ (k_X5_hasPersonR l D B _ _ _ P hP) (fun r5 T5 M5 hp5 => ?_)
  obtain ⟨e1, e2, e3⟩ := hp5
  replace e1 := e1.symm; replace e2 := e2.symm; replace e3 := e3.symm; subst e1; subst e2; subst e3
  refine g_if_neB F 14 (dk dtX6_rate_0 4 rfl) (by decide) (fun _ => ?_) (fun c => absurd (inR_nI (by omega)) c)
  refine g_iload_n F 1 (dk dtX6_rate_0 7 rfl) rfl ?_
  refine g_tabIn F 82 (dk dtX6_rate_0 8 rfl) (by decide) (by decide) rfl (by decide) ?_
  refine g_aload_n F 0 (dk dtX6_rate_0 29 rfl) rfl ?_
  refine g_iload_n F 2 (dk dtX6_rate_0 30 rfl) rfl ?_
  refine g_callVi F (As := [.int (nI p)]) (st := []) cv_X6_219 (dk dtX6_rate_0 31 rfl) (by decide) (cc0 D B _ _) rfl rfl (Nat.le_of_ble_eq_true rfl) ⟨by decide, by decide⟩ (k_X6_asTwin l D B _ _ _ (by omega)) (fun r84 T84 M84 hp84 => ?_)
  obtain ⟨e1, e2, e3⟩ := hp84
  replace e1 := e1.symm; replace e2 := e2.symm; replace e3 := e3.symm; subst e1; subst e2; subst e3
  refine g_iret (F := F) hQ (dk dtX6_rate_0 32 rfl) ?_
  exact ⟨rfl, rfl, rfl⟩
set_option maxRecDepth 100000 in
set_option maxHeartbeats 4000000 in
theorem k_X6_rate_bad (l : Launch) (D : DX) (B : Nat) (T : Int64) (M : Mem) (P : Nat) (hP : M 10 2 = nI P) (hP5 : P ≤ 5) (w p : Int32) (hb : ¬ (inR w 6 ∧ inR p P)) : Ci l D B 108 (celC D B) yX6_rate cX6_rate 3 (some .int) 3 [.ref (B + 0), .int w, .int p] T M (fun rz T1 M1 => rz = (-1000000) ∧ T1 = T ∧ M1 = M) := by
  refine g_entryi (L := [(0, .ref (B + 0)), (1, .int w), (2, .int p)]) (by decide) (Nat.le_of_ble_eq_true rfl) rfl ?_
  intro zp ze zs zm zb zt zc Q F hQ
  refine g_aload_n F 0 (dk dtX6_rate_0 0 rfl) rfl ?_
  refine g_get F fa_X6_19 (dk dtX6_rate_0 1 rfl) (by decide) (cc0 D B _ _) rfl ?_
  refine g_iload_n F 2 (dk dtX6_rate_0 2 rfl) rfl ?_
  refine g_callVi F (As := [.int p]) (st := []) cv_X6_94 (dk dtX6_rate_0 3 rfl) (by decide) (cc10 D B _ _) rfl rfl (Nat.le_of_ble_eq_true rfl) ⟨by decide, by decide⟩ (k_X5_hasPersonR l D B _ _ _ P hP) (fun r5 T5 M5 hp5 => ?_)
  obtain ⟨e1, e2, e3⟩ := hp5
  replace e1 := e1.symm; replace e2 := e2.symm; replace e3 := e3.symm; subst e1; subst e2; subst e3
  refine g_if_neB F 14 (dk dtX6_rate_0 4 rfl) (by decide) (fun c8 => ?_) (fun c8 => ?_)
  · -- taken at 8
    refine g_iload_n F 1 (dk dtX6_rate_0 7 rfl) rfl ?_
    refine g_tabOut F 88 (dk dtX6_rate_0 8 rfl) (inR_out 5 (fun h => hb ⟨h, c8⟩)) (by decide) ?_
    refine g_ldc F (dk dtX6_rate_0 33 rfl) (tw2 108 rfl) ?_
    refine g_iret (F := F) hQ (dk dtX6_rate_0 34 rfl) ?_
    exact ⟨rfl, rfl, rfl⟩
  · -- not taken at 8
    refine g_ldc F (dk dtX6_rate_0 5 rfl) (tw2 108 rfl) ?_
    refine g_iret (F := F) hQ (dk dtX6_rate_0 6 rfl) ?_
    exact ⟨rfl, rfl, rfl⟩
