abbrev inR (v : Int32) (n : Nat) : Prop := ¬ v < 0 ∧ ¬ nI n ≤ v
theorem inR_nI {j n : Nat} (h : j < n) (hn : n < 2 ^ 31 := by omega) : inR (nI j) n := ⟨nI_pos (by omega), nI_ge h hn⟩
theorem inR_of {v : Int32} {n : Nat} (h : inR v n) (hn : n < 2 ^ 31) : ∃ j : Nat, j < n ∧ v = nI j := nI_of4 hn h.1 h.2
theorem inR_up {v : Int32} {b : Nat} (hb : b < 1000) (h : nI b < v) : nI (b + 1) ≤ v := by
  rw [Int32.lt_iff_toInt_lt, nI_toInt (by omega)] at h
  rw [Int32.le_iff_toInt_le, nI_toInt (by omega)]
  omega
theorem inR_dn {v : Int32} {b : Nat} (hb : b < 1000) (h : ¬ nI b < v) : ¬ nI (b + 1) ≤ v := by
  rw [Int32.lt_iff_toInt_lt, nI_toInt (by omega)] at h
  rw [Int32.le_iff_toInt_le, nI_toInt (by omega)]
  omega
theorem bI_congr {P Q : Prop} [Decidable P] [Decidable Q] (h : P ↔ Q) : bI P = bI Q := by
  by_cases hP : P
  · rw [bI_t hP, bI_t (h.mp hP)]
  · rw [bI_f hP, bI_f (fun q => hP (h.mpr q))]
theorem inR_sub {n : Nat} (hn : n ≤ 9) (v : Int32) : bI (¬ v < nI 0 ∧ ¬ nI n - nI 1 < v) = bI (inR v n) := by
  apply bI_congr
  refine and_congr Iff.rfl ?_
  rw [Int32.lt_iff_toInt_lt, pk_sub_toInt (by omega) (by omega), Int32.le_iff_toInt_le, nI_toInt (by omega)]
  omega
theorem up2_same {M : Mem} {k j : Nat} {v : Int32} (h : M k j = v) : up2 M k j v = M := by
  subst h
  unfold up2
  rw [show upd (M k) j (M k j) = M k from by funext i; by_cases hi : i = j <;> simp [upd, hi], setR_same]
set_option maxRecDepth 100000 in
set_option maxHeartbeats 4000000 in
theorem k_X7_inR (l : Launch) (D : DX) (B : Nat) (T : Int64) (M : Mem) (v : Int32) (b : Nat) (hb : b < 1000) : Ci l D B 14 (celM D B) yX7_in cX7_in 3 (some .boolean) 0 [.int v, .int (nI 0), .int (nI b)] T M (fun rz T1 M1 => rz = (bI (inR v (b + 1))) ∧ T1 = T ∧ M1 = M) := by
  refine g_entryi (L := [(0, .int v), (1, .int (nI 0)), (2, .int (nI b))]) (by decide) (Nat.le_of_ble_eq_true rfl) rfl ?_
  intro zp ze zs zm zb zt zc Q F hQ
  refine g_iload_n F 0 (dk dtX7_in_0 0 rfl) rfl ?_
  refine g_iload_n F 1 (dk dtX7_in_0 1 rfl) rfl ?_
  refine g_icmp_lt F 14 (dk dtX7_in_0 2 rfl) (by decide) (fun c2 => ?_) (fun c2 => ?_)
  · -- taken at 2
    refine g_iconst F (nI 0) (dk dtX7_in_0 8 rfl) (by decide) ?_
    refine g_zret (F := F) hQ (dk dtX7_in_0 9 rfl) (rfl) ?_
    exact ⟨(if_neg (fun h => h.1 c2)).symm, rfl, rfl⟩
  · -- not taken at 2
    refine g_iload_n F 0 (dk dtX7_in_0 3 rfl) rfl ?_
    refine g_iload_n F 2 (dk dtX7_in_0 4 rfl) rfl ?_
    refine g_icmp_gt F 14 (dk dtX7_in_0 5 rfl) (by decide) (fun c7 => ?_) (fun c7 => ?_)
    · -- taken at 7
      refine g_iconst F (nI 0) (dk dtX7_in_0 8 rfl) (by decide) ?_
      refine g_zret (F := F) hQ (dk dtX7_in_0 9 rfl) (rfl) ?_
      exact ⟨(if_neg (fun h => h.2 (inR_up hb c7))).symm, rfl, rfl⟩
    · -- not taken at 7
      refine g_iconst F (nI 1) (dk dtX7_in_0 6 rfl) (by decide) ?_
      refine g_goto F 15 (dk dtX7_in_0 7 rfl) (by decide) ?_
      refine g_zret (F := F) hQ (dk dtX7_in_0 9 rfl) (rfl) ?_
      exact ⟨(if_pos ⟨c2, inR_dn hb c7⟩).symm, rfl, rfl⟩
set_option maxRecDepth 100000 in
set_option maxHeartbeats 4000000 in
theorem k_X7_isOne (l : Launch) (D : DX) (B : Nat) (T : Int64) (M : Mem) (v : Int32) (n : Nat) (hn : M 2 2 = nI n) (hn9 : n ≤ 9) : Ci l D B 14 (celM D B) yX7_isOne cX7_isOne 2 (some .boolean) 1 [.ref (B + 0), .int v] T M (fun rz T1 M1 => rz = (bI (inR v n)) ∧ T1 = T ∧ M1 = M) := by
  refine g_entryi (L := [(0, .ref (B + 0)), (1, .int v)]) (by decide) (Nat.le_of_ble_eq_true rfl) rfl ?_
  intro zp ze zs zm zb zt zc Q F hQ
  refine g_iload_n F 1 (dk dtX7_isOne_0 0 rfl) rfl ?_
  refine g_iconst F (nI 0) (dk dtX7_isOne_0 1 rfl) (by decide) ?_
  refine g_aload_n F 0 (dk dtX7_isOne_0 2 rfl) rfl ?_
  refine g_get F fa_X7_13 (dk dtX7_isOne_0 3 rfl) (by decide) (cm0 D B _ _) rfl ?_
  refine g_iconst F (nI 2) (dk dtX7_isOne_0 4 rfl) (by decide) ?_
  refine g_iald F (2) (dk dtX7_isOne_0 5 rfl) (by decide) (cm2 D B _ _) (by omega) (by decide) ?_
  refine g_top hn ?_
  refine g_iconst F (nI 1) (dk dtX7_isOne_0 6 rfl) (by decide) ?_
  refine g_isub F (dk dtX7_isOne_0 7 rfl) ?_
  refine g_callSi F (As := [.int v, .int (nI 0), .int ((nI n) - (nI 1))]) (st := []) cs_X7_60 (dk dtX7_isOne_0 8 rfl) rfl rfl (Nat.le_of_ble_eq_true rfl) ⟨by decide, by decide⟩ (k_X7_in l D B _ _ _ _ _) (fun r10 T10 M10 hp10 => ?_)
  obtain ⟨e1, e2, e3⟩ := hp10
  replace e1 := e1.symm; replace e2 := e2.symm; replace e3 := e3.symm; subst e1; subst e2; subst e3
  refine g_zret (F := F) hQ (dk dtX7_isOne_0 9 rfl) (bI_nar) ?_
  exact ⟨inR_sub hn9 _, rfl, rfl⟩
set_option maxRecDepth 100000 in
set_option maxHeartbeats 4000000 in
theorem k_X7_isKind (l : Launch) (D : DX) (B : Nat) (T : Int64) (M : Mem) (v : Int32) (n : Nat) (hn : M 2 0 = nI n) (hn9 : n ≤ 9) : Ci l D B 14 (celM D B) yX7_isKind cX7_isKind 2 (some .boolean) 1 [.ref (B + 0), .int v] T M (fun rz T1 M1 => rz = (bI (inR v n)) ∧ T1 = T ∧ M1 = M) := by
  refine g_entryi (L := [(0, .ref (B + 0)), (1, .int v)]) (by decide) (Nat.le_of_ble_eq_true rfl) rfl ?_
  intro zp ze zs zm zb zt zc Q F hQ
  refine g_iload_n F 1 (dk dtX7_isKind_0 0 rfl) rfl ?_
  refine g_iconst F (nI 0) (dk dtX7_isKind_0 1 rfl) (by decide) ?_
  refine g_aload_n F 0 (dk dtX7_isKind_0 2 rfl) rfl ?_
  refine g_get F fa_X7_13 (dk dtX7_isKind_0 3 rfl) (by decide) (cm0 D B _ _) rfl ?_
  refine g_iconst F (nI 0) (dk dtX7_isKind_0 4 rfl) (by decide) ?_
  refine g_iald F (0) (dk dtX7_isKind_0 5 rfl) (by decide) (cm2 D B _ _) (by omega) (by decide) ?_
  refine g_top hn ?_
  refine g_iconst F (nI 1) (dk dtX7_isKind_0 6 rfl) (by decide) ?_
  refine g_isub F (dk dtX7_isKind_0 7 rfl) ?_
  refine g_callSi F (As := [.int v, .int (nI 0), .int ((nI n) - (nI 1))]) (st := []) cs_X7_60 (dk dtX7_isKind_0 8 rfl) rfl rfl (Nat.le_of_ble_eq_true rfl) ⟨by decide, by decide⟩ (k_X7_in l D B _ _ _ _ _) (fun r10 T10 M10 hp10 => ?_)
  obtain ⟨e1, e2, e3⟩ := hp10
  replace e1 := e1.symm; replace e2 := e2.symm; replace e3 := e3.symm; subst e1; subst e2; subst e3
  refine g_zret (F := F) hQ (dk dtX7_isKind_0 9 rfl) (bI_nar) ?_
  exact ⟨inR_sub hn9 _, rfl, rfl⟩
set_option maxRecDepth 100000 in
set_option maxHeartbeats 4000000 in
theorem k_X7_isPlace (l : Launch) (D : DX) (B : Nat) (T : Int64) (M : Mem) (v : Int32) (n : Nat) (hn : M 2 1 = nI n) (hn9 : n ≤ 9) : Ci l D B 14 (celM D B) yX7_isPlace cX7_isPlace 2 (some .boolean) 1 [.ref (B + 0), .int v] T M (fun rz T1 M1 => rz = (bI (inR v n)) ∧ T1 = T ∧ M1 = M) := by
  refine g_entryi (L := [(0, .ref (B + 0)), (1, .int v)]) (by decide) (Nat.le_of_ble_eq_true rfl) rfl ?_
  intro zp ze zs zm zb zt zc Q F hQ
  refine g_iload_n F 1 (dk dtX7_isPlace_0 0 rfl) rfl ?_
  refine g_iconst F (nI 0) (dk dtX7_isPlace_0 1 rfl) (by decide) ?_
  refine g_aload_n F 0 (dk dtX7_isPlace_0 2 rfl) rfl ?_
  refine g_get F fa_X7_13 (dk dtX7_isPlace_0 3 rfl) (by decide) (cm0 D B _ _) rfl ?_
  refine g_iconst F (nI 1) (dk dtX7_isPlace_0 4 rfl) (by decide) ?_
  refine g_iald F (1) (dk dtX7_isPlace_0 5 rfl) (by decide) (cm2 D B _ _) (by omega) (by decide) ?_
  refine g_top hn ?_
  refine g_iconst F (nI 1) (dk dtX7_isPlace_0 6 rfl) (by decide) ?_
  refine g_isub F (dk dtX7_isPlace_0 7 rfl) ?_
  refine g_callSi F (As := [.int v, .int (nI 0), .int ((nI n) - (nI 1))]) (st := []) cs_X7_60 (dk dtX7_isPlace_0 8 rfl) rfl rfl (Nat.le_of_ble_eq_true rfl) ⟨by decide, by decide⟩ (k_X7_in l D B _ _ _ _ _) (fun r10 T10 M10 hp10 => ?_)
  obtain ⟨e1, e2, e3⟩ := hp10
  replace e1 := e1.symm; replace e2 := e2.symm; replace e3 := e3.symm; subst e1; subst e2; subst e3
  refine g_zret (F := F) hQ (dk dtX7_isPlace_0 9 rfl) (bI_nar) ?_
  exact ⟨inR_sub hn9 _, rfl, rfl⟩
set_option maxRecDepth 100000 in
set_option maxHeartbeats 4000000 in
theorem k_X7_type_bad (l : Launch) (D : DX) (B : Nat) (T : Int64) (M : Mem) (h0 : M 0 0 = nI 0) (v : Int32) (hb : ¬ inR v 256) : Ci l D B 14 (celM D B) yX7_type cX7_type 2 (some .int) 1 [.ref (B + 0), .int v] T M (fun rz T1 M1 => rz = (-1) ∧ T1 = T ∧ M1 = M) := by
  refine g_entryi (L := [(0, .ref (B + 0)), (1, .int v)]) (by decide) (Nat.le_of_ble_eq_true rfl) rfl ?_
  intro zp ze zs zm zb zt zc Q F hQ
  refine g_aload_n F 0 (dk dtX7_type_0 0 rfl) rfl ?_
  refine g_iconst F (nI 0) (dk dtX7_type_0 1 rfl) (by decide) ?_
  refine g_put F fa_X7_56 (dk dtX7_type_0 2 rfl) (by decide) (cm0 D B _ _) (Nat.le_of_ble_eq_true rfl) rfl rfl ((cm0 D B _ _).trans st_Mod_0) ?_
  refine g_mem (up2_same h0) ?_
  refine g_iload_n F 1 (dk dtX7_type_0 3 rfl) rfl ?_
  refine g_iconst F (nI 0) (dk dtX7_type_0 4 rfl) (by decide) ?_
  refine g_sipush F (nI 255) (dk dtX7_type_0 5 rfl) (by decide) ?_
  refine g_callSi F (As := [.int v, .int (nI 0), .int (nI 255)]) (st := []) cs_X7_60 (dk dtX7_type_0 6 rfl) rfl rfl (Nat.le_of_ble_eq_true rfl) ⟨by decide, by decide⟩ (k_X7_inR l D B _ _ _ 255 (by decide)) (fun r10 T10 M10 hp10 => ?_)
  obtain ⟨e1, e2, e3⟩ := hp10
  replace e1 := e1.symm; replace e2 := e2.symm; replace e3 := e3.symm; subst e1; subst e2; subst e3
  refine g_if_neB F 18 (dk dtX7_type_0 7 rfl) (by decide) (fun c13 => ?_) (fun c13 => ?_)
  · -- taken at 13
    exact absurd c13 hb
  · -- not taken at 13
    refine g_iconst F (-1) (dk dtX7_type_0 8 rfl) (by decide) ?_
    refine g_iret (F := F) hQ (dk dtX7_type_0 9 rfl) ?_
    exact ⟨rfl, rfl, rfl⟩
set_option maxRecDepth 100000 in
set_option maxHeartbeats 4000000 in
theorem k_X7_type_full (l : Launch) (D : DX) (B : Nat) (T : Int64) (M : Mem) (h0 : M 0 0 = nI 0) (v : Int32) (hv : inR v 256) (hty : M 0 3 = nI 150) : Ci l D B 14 (celM D B) yX7_type cX7_type 2 (some .int) 1 [.ref (B + 0), .int v] T M (fun rz T1 M1 => rz = (-3) ∧ T1 = T ∧ M1 = M) := by
  refine g_entryi (L := [(0, .ref (B + 0)), (1, .int v)]) (by decide) (Nat.le_of_ble_eq_true rfl) rfl ?_
  intro zp ze zs zm zb zt zc Q F hQ
  refine g_aload_n F 0 (dk dtX7_type_0 0 rfl) rfl ?_
  refine g_iconst F (nI 0) (dk dtX7_type_0 1 rfl) (by decide) ?_
  refine g_put F fa_X7_56 (dk dtX7_type_0 2 rfl) (by decide) (cm0 D B _ _) (Nat.le_of_ble_eq_true rfl) rfl rfl ((cm0 D B _ _).trans st_Mod_0) ?_
  refine g_mem (up2_same h0) ?_
  refine g_iload_n F 1 (dk dtX7_type_0 3 rfl) rfl ?_
  refine g_iconst F (nI 0) (dk dtX7_type_0 4 rfl) (by decide) ?_
  refine g_sipush F (nI 255) (dk dtX7_type_0 5 rfl) (by decide) ?_
  refine g_callSi F (As := [.int v, .int (nI 0), .int (nI 255)]) (st := []) cs_X7_60 (dk dtX7_type_0 6 rfl) rfl rfl (Nat.le_of_ble_eq_true rfl) ⟨by decide, by decide⟩ (k_X7_inR l D B _ _ _ 255 (by decide)) (fun r10 T10 M10 hp10 => ?_)
  obtain ⟨e1, e2, e3⟩ := hp10
  replace e1 := e1.symm; replace e2 := e2.symm; replace e3 := e3.symm; subst e1; subst e2; subst e3
  refine g_if_neB F 18 (dk dtX7_type_0 7 rfl) (by decide) (fun c13 => ?_) (fun c13 => ?_)
  · -- taken at 13
    refine g_aload_n F 0 (dk dtX7_type_0 10 rfl) rfl ?_
    refine g_get F fa_X7_64 (dk dtX7_type_0 11 rfl) (by decide) (cm0 D B _ _) rfl ?_
    refine g_top hty ?_
    refine g_sipush F (nI 150) (dk dtX7_type_0 12 rfl) (by decide) ?_
    refine g_icmp_neN F 31 (dk dtX7_type_0 13 rfl) (by decide) (by decide) (by decide) (fun c => absurd c (by decide)) (fun _ => ?_)
    refine g_bipush F (-3) (dk dtX7_type_0 14 rfl) (by decide) ?_
    refine g_iret (F := F) hQ (dk dtX7_type_0 15 rfl) ?_
    exact ⟨rfl, rfl, rfl⟩
  · -- not taken at 13
    exact absurd hv c13
set_option maxRecDepth 100000 in
set_option maxHeartbeats 4000000 in
theorem k_X7_type (l : Launch) (D : DX) (B : Nat) (T : Int64) (M : Mem) (h0 : M 0 0 = nI 0) (v : Int32) (hv : inR v 256) (ty : Nat) (hty : M 0 3 = nI ty) (hty9 : ty ≤ 150) (hty1 : ty < 150) : Ci l D B 14 (celM D B) yX7_type cX7_type 2 (some .int) 1 [.ref (B + 0), .int v] T M (fun r T1 M1 => r = nI (ty + 1) ∧ T1 = T ∧ M1 = up2 (up2 M 1 ty v) 0 3 (nI (ty + 1))) := by
  refine g_entryi (L := [(0, .ref (B + 0)), (1, .int v)]) (by decide) (Nat.le_of_ble_eq_true rfl) rfl ?_
  intro zp ze zs zm zb zt zc Q F hQ
  refine g_aload_n F 0 (dk dtX7_type_0 0 rfl) rfl ?_
  refine g_iconst F (nI 0) (dk dtX7_type_0 1 rfl) (by decide) ?_
  refine g_put F fa_X7_56 (dk dtX7_type_0 2 rfl) (by decide) (cm0 D B _ _) (Nat.le_of_ble_eq_true rfl) rfl rfl ((cm0 D B _ _).trans st_Mod_0) ?_
  refine g_mem (up2_same h0) ?_
  refine g_iload_n F 1 (dk dtX7_type_0 3 rfl) rfl ?_
  refine g_iconst F (nI 0) (dk dtX7_type_0 4 rfl) (by decide) ?_
  refine g_sipush F (nI 255) (dk dtX7_type_0 5 rfl) (by decide) ?_
  refine g_callSi F (As := [.int v, .int (nI 0), .int (nI 255)]) (st := []) cs_X7_60 (dk dtX7_type_0 6 rfl) rfl rfl (Nat.le_of_ble_eq_true rfl) ⟨by decide, by decide⟩ (k_X7_inR l D B _ _ _ 255 (by decide)) (fun r10 T10 M10 hp10 => ?_)
  obtain ⟨e1, e2, e3⟩ := hp10
  replace e1 := e1.symm; replace e2 := e2.symm; replace e3 := e3.symm; subst e1; subst e2; subst e3
  refine g_if_neB F 18 (dk dtX7_type_0 7 rfl) (by decide) (fun c13 => ?_) (fun c13 => ?_)
  · -- taken at 13
    refine g_aload_n F 0 (dk dtX7_type_0 10 rfl) rfl ?_
    refine g_get F fa_X7_64 (dk dtX7_type_0 11 rfl) (by decide) (cm0 D B _ _) rfl ?_
    refine g_top hty ?_
    refine g_sipush F (nI 150) (dk dtX7_type_0 12 rfl) (by decide) ?_
    refine g_icmp_neN F 31 (dk dtX7_type_0 13 rfl) (by decide) (by omega) (by omega) (fun c25 => ?_) (fun c25 => ?_)
    · -- taken at 25
      refine g_aload_n F 0 (dk dtX7_type_0 16 rfl) rfl ?_
      refine g_get F fa_X7_7 (dk dtX7_type_0 17 rfl) (by decide) (cm0 D B _ _) rfl ?_
      refine g_aload_n F 0 (dk dtX7_type_0 18 rfl) rfl ?_
      refine g_get F fa_X7_64 (dk dtX7_type_0 19 rfl) (by decide) (cm0 D B _ _) rfl ?_
      refine g_top hty ?_
      refine g_iload_n F 1 (dk dtX7_type_0 20 rfl) rfl ?_
      refine g_iast F (ty) (dk dtX7_type_0 21 rfl) (by decide) (fun r => cm1 D B _ r) (by omega) (by decide) ?_
      refine g_aload_n F 0 (dk dtX7_type_0 22 rfl) rfl ?_
      refine g_dup F (dk dtX7_type_0 23 rfl) rfl ?_
      refine g_get F fa_X7_64 (dk dtX7_type_0 24 rfl) (by decide) (cm0 D B _ _) rfl ?_
      refine g_top (congrFun (up2_ne _ _ (by decide)) _) ?_
      refine g_top hty ?_
      refine g_iconst F (nI 1) (dk dtX7_type_0 25 rfl) (by decide) ?_
      refine g_iaddN F (dk dtX7_type_0 26 rfl) ?_
      refine g_put F fa_X7_64 (dk dtX7_type_0 27 rfl) (by decide) (cm0 D B _ _) (Nat.le_of_ble_eq_true rfl) rfl rfl ((cm0 D B _ _).trans st_Mod_3) ?_
      refine g_aload_n F 0 (dk dtX7_type_0 28 rfl) rfl ?_
      refine g_get F fa_X7_64 (dk dtX7_type_0 29 rfl) (by decide) (cm0 D B _ _) rfl ?_
      refine g_top ((congrFun (up2_self _ _ _ _) _).trans pk_us) ?_
      refine g_iret (F := F) hQ (dk dtX7_type_0 30 rfl) ?_
      exact ⟨rfl, rfl, rfl⟩
    · -- not taken at 25
      exact absurd c25 (by omega)
  · -- not taken at 13
    exact absurd hv c13
set_option maxRecDepth 100000 in
set_option maxHeartbeats 4000000 in
theorem k_X7_clear (l : Launch) (D : DX) (B : Nat) (T : Int64) (M : Mem) (h0 : M 0 0 = nI 0)  : Ci l D B 14 (celM D B) yX7_clear cX7_clear 2 (some .int) 0 [.ref (B + 0)] T M (fun r T1 M1 => r = M 0 3 ∧ T1 = T ∧ M1 = up2 M 0 3 (nI 0)) := by
  refine g_entryi (L := [(0, .ref (B + 0))]) (by decide) (Nat.le_of_ble_eq_true rfl) rfl ?_
  intro zp ze zs zm zb zt zc Q F hQ
  refine g_aload_n F 0 (dk dtX7_clear_0 0 rfl) rfl ?_
  refine g_iconst F (nI 0) (dk dtX7_clear_0 1 rfl) (by decide) ?_
  refine g_put F fa_X7_56 (dk dtX7_clear_0 2 rfl) (by decide) (cm0 D B _ _) (Nat.le_of_ble_eq_true rfl) rfl rfl ((cm0 D B _ _).trans st_Mod_0) ?_
  refine g_mem (up2_same h0) ?_
  refine g_aload_n F 0 (dk dtX7_clear_0 3 rfl) rfl ?_
  refine g_get F fa_X7_64 (dk dtX7_clear_0 4 rfl) (by decide) (cm0 D B _ _) rfl ?_
  refine g_istore_n F [(1, .int (M 0 3)), (0, .ref (B + 0))] (dk dtX7_clear_0 5 rfl) (by decide) rfl ?_
  refine g_aload_n F 1 (dk dtX7_clear_0 6 rfl) rfl ?_
  refine g_iconst F (nI 0) (dk dtX7_clear_0 7 rfl) (by decide) ?_
  refine g_put F fa_X7_64 (dk dtX7_clear_0 8 rfl) (by decide) (cm0 D B _ _) (Nat.le_of_ble_eq_true rfl) rfl rfl ((cm0 D B _ _).trans st_Mod_3) ?_
  refine g_iload_n F 0 (dk dtX7_clear_0 9 rfl) rfl ?_
  refine g_iret (F := F) hQ (dk dtX7_clear_0 10 rfl) ?_
  exact ⟨rfl, rfl, rfl⟩
set_option maxRecDepth 100000 in
set_option maxHeartbeats 4000000 in
theorem k_X7_forget (l : Launch) (D : DX) (B : Nat) (T : Int64) (M : Mem) (h0 : M 0 0 = nI 0)  : Ci l D B 14 (celM D B) yX7_forget cX7_forget 2 (some .int) 0 [.ref (B + 0)] T M (fun r T1 M1 => r = M 0 22 ∧ T1 = T ∧ M1 = up2 M 0 22 (nI 0)) := by
  refine g_entryi (L := [(0, .ref (B + 0))]) (by decide) (Nat.le_of_ble_eq_true rfl) rfl ?_
  intro zp ze zs zm zb zt zc Q F hQ
  refine g_aload_n F 0 (dk dtX7_forget_0 0 rfl) rfl ?_
  refine g_iconst F (nI 0) (dk dtX7_forget_0 1 rfl) (by decide) ?_
  refine g_put F fa_X7_56 (dk dtX7_forget_0 2 rfl) (by decide) (cm0 D B _ _) (Nat.le_of_ble_eq_true rfl) rfl rfl ((cm0 D B _ _).trans st_Mod_0) ?_
  refine g_mem (up2_same h0) ?_
  refine g_aload_n F 0 (dk dtX7_forget_0 3 rfl) rfl ?_
  refine g_get F fa_X7_119 (dk dtX7_forget_0 4 rfl) (by decide) (cm0 D B _ _) rfl ?_
  refine g_istore_n F [(1, .int (M 0 22)), (0, .ref (B + 0))] (dk dtX7_forget_0 5 rfl) (by decide) rfl ?_
  refine g_aload_n F 1 (dk dtX7_forget_0 6 rfl) rfl ?_
  refine g_iconst F (nI 0) (dk dtX7_forget_0 7 rfl) (by decide) ?_
  refine g_put F fa_X7_119 (dk dtX7_forget_0 8 rfl) (by decide) (cm0 D B _ _) (Nat.le_of_ble_eq_true rfl) rfl rfl ((cm0 D B _ _).trans st_Mod_22) ?_
  refine g_iload_n F 0 (dk dtX7_forget_0 9 rfl) rfl ?_
  refine g_iret (F := F) hQ (dk dtX7_forget_0 10 rfl) ?_
  exact ⟨rfl, rfl, rfl⟩
set_option maxRecDepth 100000 in
set_option maxHeartbeats 4000000 in
theorem k_X7_trace (l : Launch) (D : DX) (B : Nat) (T : Int64) (M : Mem) (h0 : M 0 0 = nI 0)  : Cl l D B 14 (celM D B) yX7_trace cX7_trace 1 (some .long) 0 [.ref (B + 0)] T M (fun r T1 M1 => r = T ∧ T1 = T ∧ M1 = M) := by
  refine g_entryl (L := [(0, .ref (B + 0))]) (by decide) (Nat.le_of_ble_eq_true rfl) rfl ?_
  intro zp ze zs zm zb zt zc Q F hQ
  refine g_aload_n F 0 (dk dtX7_trace_0 0 rfl) rfl ?_
  refine g_iconst F (nI 0) (dk dtX7_trace_0 1 rfl) (by decide) ?_
  refine g_put F fa_X7_56 (dk dtX7_trace_0 2 rfl) (by decide) (cm0 D B _ _) (Nat.le_of_ble_eq_true rfl) rfl rfl ((cm0 D B _ _).trans st_Mod_0) ?_
  refine g_mem (up2_same h0) ?_
  refine g_aload_n F 0 (dk dtX7_trace_0 3 rfl) rfl ?_
  refine g_get F fa_X7_183 (dk dtX7_trace_0 4 rfl) (by decide) (cm0 D B _ _) rfl ?_
  refine g_lret (F := F) hQ (dk dtX7_trace_0 5 rfl) ?_
  exact ⟨rfl, rfl, rfl⟩
set_option maxRecDepth 100000 in
set_option maxHeartbeats 4000000 in
theorem k_X7_person_0 (l : Launch) (D : DX) (B : Nat) (T : Int64) (M : Mem) (h0 : M 0 0 = nI 0) (P : Nat) (hP : M 2 2 = nI P) (hP5 : P ≤ 5) (p : Nat) (hp : p < P) : Ci l D B 14 (celM D B) yX7_person cX7_person 3 (some .int) 2 [.ref (B + 0), .int (nI p), .int (nI 0)] T M (fun rz T1 M1 => rz = (M 3 p) ∧ T1 = T ∧ M1 = M) := by
  refine g_entryi (L := [(0, .ref (B + 0)), (1, .int (nI p)), (2, .int (nI 0))]) (by decide) (Nat.le_of_ble_eq_true rfl) rfl ?_
  intro zp ze zs zm zb zt zc Q F hQ
  refine g_aload_n F 0 (dk dtX7_person_0 0 rfl) rfl ?_
  refine g_iconst F (nI 0) (dk dtX7_person_0 1 rfl) (by decide) ?_
  refine g_put F fa_X7_56 (dk dtX7_person_0 2 rfl) (by decide) (cm0 D B _ _) (Nat.le_of_ble_eq_true rfl) rfl rfl ((cm0 D B _ _).trans st_Mod_0) ?_
  refine g_mem (up2_same h0) ?_
  refine g_aload_n F 0 (dk dtX7_person_0 3 rfl) rfl ?_
  refine g_iload_n F 1 (dk dtX7_person_0 4 rfl) rfl ?_
  refine g_callVi F (As := [.int (nI p)]) (st := []) cv_X7_129 (dk dtX7_person_0 5 rfl) (by decide) (cm0 D B _ _) rfl rfl (Nat.le_of_ble_eq_true rfl) ⟨by decide, by decide⟩ (k_X7_isOne l D B _ _ _ P hP (by omega)) (fun r7 T7 M7 hp7 => ?_)
  obtain ⟨e1, e2, e3⟩ := hp7
  replace e1 := e1.symm; replace e2 := e2.symm; replace e3 := e3.symm; subst e1; subst e2; subst e3
  refine g_if_eqB F 22 (dk dtX7_person_0 6 rfl) (by decide) (fun c => absurd (inR_nI (by omega)) c) (fun _ => ?_)
  refine g_iload_n F 2 (dk dtX7_person_0 7 rfl) rfl ?_
  refine g_iconst F (nI 0) (dk dtX7_person_0 8 rfl) (by decide) ?_
  refine g_iconst F (nI 3) (dk dtX7_person_0 9 rfl) (by decide) ?_
  refine g_callSi F (As := [.int (nI 0), .int (nI 0), .int (nI 3)]) (st := []) cs_X7_60 (dk dtX7_person_0 10 rfl) rfl rfl (Nat.le_of_ble_eq_true rfl) ⟨by decide, by decide⟩ (k_X7_inR l D B _ _ _ 3 (by decide)) (fun r16 T16 M16 hp16 => ?_)
  obtain ⟨e1, e2, e3⟩ := hp16
  replace e1 := e1.symm; replace e2 := e2.symm; replace e3 := e3.symm; subst e1; subst e2; subst e3
  refine g_if_neB F 24 (dk dtX7_person_0 11 rfl) (by decide) (fun _ => ?_) (fun c => absurd (inR_nI (by omega)) c)
  refine g_iload_n F 2 (dk dtX7_person_0 14 rfl) rfl ?_
  refine g_if_neN F 37 (dk dtX7_person_0 15 rfl) (by decide) (by decide) (fun c => absurd c (by decide)) (fun _ => ?_)
  refine g_aload_n F 0 (dk dtX7_person_0 16 rfl) rfl ?_
  refine g_get F fa_X7_16 (dk dtX7_person_0 17 rfl) (by decide) (cm0 D B _ _) rfl ?_
  refine g_iload_n F 1 (dk dtX7_person_0 18 rfl) rfl ?_
  refine g_iald F (p) (dk dtX7_person_0 19 rfl) (by decide) (cm3 D B _ _) (by omega) (by decide) ?_
  refine g_goto F 79 (dk dtX7_person_0 20 rfl) (by decide) ?_
  refine g_iret (F := F) hQ (dk dtX7_person_0 46 rfl) ?_
  exact ⟨rfl, rfl, rfl⟩
set_option maxRecDepth 100000 in
set_option maxHeartbeats 4000000 in
theorem k_X7_person_1 (l : Launch) (D : DX) (B : Nat) (T : Int64) (M : Mem) (h0 : M 0 0 = nI 0) (P : Nat) (hP : M 2 2 = nI P) (hP5 : P ≤ 5) (p : Nat) (hp : p < P) : Ci l D B 14 (celM D B) yX7_person cX7_person 3 (some .int) 2 [.ref (B + 0), .int (nI p), .int (nI 1)] T M (fun rz T1 M1 => rz = (M 5 p) ∧ T1 = T ∧ M1 = M) := by
  refine g_entryi (L := [(0, .ref (B + 0)), (1, .int (nI p)), (2, .int (nI 1))]) (by decide) (Nat.le_of_ble_eq_true rfl) rfl ?_
  intro zp ze zs zm zb zt zc Q F hQ
  refine g_aload_n F 0 (dk dtX7_person_0 0 rfl) rfl ?_
  refine g_iconst F (nI 0) (dk dtX7_person_0 1 rfl) (by decide) ?_
  refine g_put F fa_X7_56 (dk dtX7_person_0 2 rfl) (by decide) (cm0 D B _ _) (Nat.le_of_ble_eq_true rfl) rfl rfl ((cm0 D B _ _).trans st_Mod_0) ?_
  refine g_mem (up2_same h0) ?_
  refine g_aload_n F 0 (dk dtX7_person_0 3 rfl) rfl ?_
  refine g_iload_n F 1 (dk dtX7_person_0 4 rfl) rfl ?_
  refine g_callVi F (As := [.int (nI p)]) (st := []) cv_X7_129 (dk dtX7_person_0 5 rfl) (by decide) (cm0 D B _ _) rfl rfl (Nat.le_of_ble_eq_true rfl) ⟨by decide, by decide⟩ (k_X7_isOne l D B _ _ _ P hP (by omega)) (fun r7 T7 M7 hp7 => ?_)
  obtain ⟨e1, e2, e3⟩ := hp7
  replace e1 := e1.symm; replace e2 := e2.symm; replace e3 := e3.symm; subst e1; subst e2; subst e3
  refine g_if_eqB F 22 (dk dtX7_person_0 6 rfl) (by decide) (fun c => absurd (inR_nI (by omega)) c) (fun _ => ?_)
  refine g_iload_n F 2 (dk dtX7_person_0 7 rfl) rfl ?_
  refine g_iconst F (nI 0) (dk dtX7_person_0 8 rfl) (by decide) ?_
  refine g_iconst F (nI 3) (dk dtX7_person_0 9 rfl) (by decide) ?_
  refine g_callSi F (As := [.int (nI 1), .int (nI 0), .int (nI 3)]) (st := []) cs_X7_60 (dk dtX7_person_0 10 rfl) rfl rfl (Nat.le_of_ble_eq_true rfl) ⟨by decide, by decide⟩ (k_X7_inR l D B _ _ _ 3 (by decide)) (fun r16 T16 M16 hp16 => ?_)
  obtain ⟨e1, e2, e3⟩ := hp16
  replace e1 := e1.symm; replace e2 := e2.symm; replace e3 := e3.symm; subst e1; subst e2; subst e3
  refine g_if_neB F 24 (dk dtX7_person_0 11 rfl) (by decide) (fun _ => ?_) (fun c => absurd (inR_nI (by omega)) c)
  refine g_iload_n F 2 (dk dtX7_person_0 14 rfl) rfl ?_
  refine g_if_neN F 37 (dk dtX7_person_0 15 rfl) (by decide) (by decide) (fun _ => ?_) (fun c => absurd c (by decide))
  refine g_iload_n F 2 (dk dtX7_person_0 21 rfl) rfl ?_
  refine g_iconst F (nI 1) (dk dtX7_person_0 22 rfl) (by decide) ?_
  refine g_icmp_neN F 53 (dk dtX7_person_0 23 rfl) (by decide) (by decide) (by decide) (fun c => absurd c (by decide)) (fun _ => ?_)
  refine g_aload_n F 0 (dk dtX7_person_0 24 rfl) rfl ?_
  refine g_get F fa_X7_22 (dk dtX7_person_0 25 rfl) (by decide) (cm0 D B _ _) rfl ?_
  refine g_iconst F (nI 0) (dk dtX7_person_0 26 rfl) (by decide) ?_
  refine g_iload_n F 1 (dk dtX7_person_0 27 rfl) rfl ?_
  refine g_iadd0 F (dk dtX7_person_0 28 rfl) ?_
  refine g_iald F (p) (dk dtX7_person_0 29 rfl) (by decide) (cm5 D B _ _) (by omega) (by decide) ?_
  refine g_goto F 79 (dk dtX7_person_0 30 rfl) (by decide) ?_
  refine g_iret (F := F) hQ (dk dtX7_person_0 46 rfl) ?_
  exact ⟨rfl, rfl, rfl⟩
set_option maxRecDepth 100000 in
set_option maxHeartbeats 4000000 in
theorem k_X7_person_2 (l : Launch) (D : DX) (B : Nat) (T : Int64) (M : Mem) (h0 : M 0 0 = nI 0) (P : Nat) (hP : M 2 2 = nI P) (hP5 : P ≤ 5) (p : Nat) (hp : p < P) : Ci l D B 14 (celM D B) yX7_person cX7_person 3 (some .int) 2 [.ref (B + 0), .int (nI p), .int (nI 2)] T M (fun rz T1 M1 => rz = (M 5 (25 + p)) ∧ T1 = T ∧ M1 = M) := by
  refine g_entryi (L := [(0, .ref (B + 0)), (1, .int (nI p)), (2, .int (nI 2))]) (by decide) (Nat.le_of_ble_eq_true rfl) rfl ?_
  intro zp ze zs zm zb zt zc Q F hQ
  refine g_aload_n F 0 (dk dtX7_person_0 0 rfl) rfl ?_
  refine g_iconst F (nI 0) (dk dtX7_person_0 1 rfl) (by decide) ?_
  refine g_put F fa_X7_56 (dk dtX7_person_0 2 rfl) (by decide) (cm0 D B _ _) (Nat.le_of_ble_eq_true rfl) rfl rfl ((cm0 D B _ _).trans st_Mod_0) ?_
  refine g_mem (up2_same h0) ?_
  refine g_aload_n F 0 (dk dtX7_person_0 3 rfl) rfl ?_
  refine g_iload_n F 1 (dk dtX7_person_0 4 rfl) rfl ?_
  refine g_callVi F (As := [.int (nI p)]) (st := []) cv_X7_129 (dk dtX7_person_0 5 rfl) (by decide) (cm0 D B _ _) rfl rfl (Nat.le_of_ble_eq_true rfl) ⟨by decide, by decide⟩ (k_X7_isOne l D B _ _ _ P hP (by omega)) (fun r7 T7 M7 hp7 => ?_)
  obtain ⟨e1, e2, e3⟩ := hp7
  replace e1 := e1.symm; replace e2 := e2.symm; replace e3 := e3.symm; subst e1; subst e2; subst e3
  refine g_if_eqB F 22 (dk dtX7_person_0 6 rfl) (by decide) (fun c => absurd (inR_nI (by omega)) c) (fun _ => ?_)
  refine g_iload_n F 2 (dk dtX7_person_0 7 rfl) rfl ?_
  refine g_iconst F (nI 0) (dk dtX7_person_0 8 rfl) (by decide) ?_
  refine g_iconst F (nI 3) (dk dtX7_person_0 9 rfl) (by decide) ?_
  refine g_callSi F (As := [.int (nI 2), .int (nI 0), .int (nI 3)]) (st := []) cs_X7_60 (dk dtX7_person_0 10 rfl) rfl rfl (Nat.le_of_ble_eq_true rfl) ⟨by decide, by decide⟩ (k_X7_inR l D B _ _ _ 3 (by decide)) (fun r16 T16 M16 hp16 => ?_)
  obtain ⟨e1, e2, e3⟩ := hp16
  replace e1 := e1.symm; replace e2 := e2.symm; replace e3 := e3.symm; subst e1; subst e2; subst e3
  refine g_if_neB F 24 (dk dtX7_person_0 11 rfl) (by decide) (fun _ => ?_) (fun c => absurd (inR_nI (by omega)) c)
  refine g_iload_n F 2 (dk dtX7_person_0 14 rfl) rfl ?_
  refine g_if_neN F 37 (dk dtX7_person_0 15 rfl) (by decide) (by decide) (fun _ => ?_) (fun c => absurd c (by decide))
  refine g_iload_n F 2 (dk dtX7_person_0 21 rfl) rfl ?_
  refine g_iconst F (nI 1) (dk dtX7_person_0 22 rfl) (by decide) ?_
  refine g_icmp_neN F 53 (dk dtX7_person_0 23 rfl) (by decide) (by decide) (by decide) (fun _ => ?_) (fun c => absurd c (by decide))
  refine g_iload_n F 2 (dk dtX7_person_0 31 rfl) rfl ?_
  refine g_iconst F (nI 2) (dk dtX7_person_0 32 rfl) (by decide) ?_
  refine g_icmp_neN F 70 (dk dtX7_person_0 33 rfl) (by decide) (by decide) (by decide) (fun c => absurd c (by decide)) (fun _ => ?_)
  refine g_aload_n F 0 (dk dtX7_person_0 34 rfl) rfl ?_
  refine g_get F fa_X7_22 (dk dtX7_person_0 35 rfl) (by decide) (cm0 D B _ _) rfl ?_
  refine g_bipush F (nI 25) (dk dtX7_person_0 36 rfl) (by decide) ?_
  refine g_iload_n F 1 (dk dtX7_person_0 37 rfl) rfl ?_
  refine g_iaddN F (dk dtX7_person_0 38 rfl) ?_
  refine g_iald F (25 + p) (dk dtX7_person_0 39 rfl) (by decide) (cm5 D B _ _) (by omega) (by decide) ?_
  refine g_goto F 79 (dk dtX7_person_0 40 rfl) (by decide) ?_
  refine g_iret (F := F) hQ (dk dtX7_person_0 46 rfl) ?_
  exact ⟨rfl, rfl, rfl⟩
set_option maxRecDepth 100000 in
set_option maxHeartbeats 4000000 in
theorem k_X7_person_3 (l : Launch) (D : DX) (B : Nat) (T : Int64) (M : Mem) (h0 : M 0 0 = nI 0) (P : Nat) (hP : M 2 2 = nI P) (hP5 : P ≤ 5) (p : Nat) (hp : p < P) : Ci l D B 14 (celM D B) yX7_person cX7_person 3 (some .int) 2 [.ref (B + 0), .int (nI p), .int (nI 3)] T M (fun rz T1 M1 => rz = (aS (M 5) p) ∧ T1 = T ∧ M1 = M) := by
  refine g_entryi (L := [(0, .ref (B + 0)), (1, .int (nI p)), (2, .int (nI 3))]) (by decide) (Nat.le_of_ble_eq_true rfl) rfl ?_
  intro zp ze zs zm zb zt zc Q F hQ
  refine g_aload_n F 0 (dk dtX7_person_0 0 rfl) rfl ?_
  refine g_iconst F (nI 0) (dk dtX7_person_0 1 rfl) (by decide) ?_
  refine g_put F fa_X7_56 (dk dtX7_person_0 2 rfl) (by decide) (cm0 D B _ _) (Nat.le_of_ble_eq_true rfl) rfl rfl ((cm0 D B _ _).trans st_Mod_0) ?_
  refine g_mem (up2_same h0) ?_
  refine g_aload_n F 0 (dk dtX7_person_0 3 rfl) rfl ?_
  refine g_iload_n F 1 (dk dtX7_person_0 4 rfl) rfl ?_
  refine g_callVi F (As := [.int (nI p)]) (st := []) cv_X7_129 (dk dtX7_person_0 5 rfl) (by decide) (cm0 D B _ _) rfl rfl (Nat.le_of_ble_eq_true rfl) ⟨by decide, by decide⟩ (k_X7_isOne l D B _ _ _ P hP (by omega)) (fun r7 T7 M7 hp7 => ?_)
  obtain ⟨e1, e2, e3⟩ := hp7
  replace e1 := e1.symm; replace e2 := e2.symm; replace e3 := e3.symm; subst e1; subst e2; subst e3
  refine g_if_eqB F 22 (dk dtX7_person_0 6 rfl) (by decide) (fun c => absurd (inR_nI (by omega)) c) (fun _ => ?_)
  refine g_iload_n F 2 (dk dtX7_person_0 7 rfl) rfl ?_
  refine g_iconst F (nI 0) (dk dtX7_person_0 8 rfl) (by decide) ?_
  refine g_iconst F (nI 3) (dk dtX7_person_0 9 rfl) (by decide) ?_
  refine g_callSi F (As := [.int (nI 3), .int (nI 0), .int (nI 3)]) (st := []) cs_X7_60 (dk dtX7_person_0 10 rfl) rfl rfl (Nat.le_of_ble_eq_true rfl) ⟨by decide, by decide⟩ (k_X7_inR l D B _ _ _ 3 (by decide)) (fun r16 T16 M16 hp16 => ?_)
  obtain ⟨e1, e2, e3⟩ := hp16
  replace e1 := e1.symm; replace e2 := e2.symm; replace e3 := e3.symm; subst e1; subst e2; subst e3
  refine g_if_neB F 24 (dk dtX7_person_0 11 rfl) (by decide) (fun _ => ?_) (fun c => absurd (inR_nI (by omega)) c)
  refine g_iload_n F 2 (dk dtX7_person_0 14 rfl) rfl ?_
  refine g_if_neN F 37 (dk dtX7_person_0 15 rfl) (by decide) (by decide) (fun _ => ?_) (fun c => absurd c (by decide))
  refine g_iload_n F 2 (dk dtX7_person_0 21 rfl) rfl ?_
  refine g_iconst F (nI 1) (dk dtX7_person_0 22 rfl) (by decide) ?_
  refine g_icmp_neN F 53 (dk dtX7_person_0 23 rfl) (by decide) (by decide) (by decide) (fun _ => ?_) (fun c => absurd c (by decide))
  refine g_iload_n F 2 (dk dtX7_person_0 31 rfl) rfl ?_
  refine g_iconst F (nI 2) (dk dtX7_person_0 32 rfl) (by decide) ?_
  refine g_icmp_neN F 70 (dk dtX7_person_0 33 rfl) (by decide) (by decide) (by decide) (fun _ => ?_) (fun c => absurd c (by decide))
  refine g_aload_n F 0 (dk dtX7_person_0 41 rfl) rfl ?_
  refine g_aload_n F 0 (dk dtX7_person_0 42 rfl) rfl ?_
  refine g_get F fa_X7_22 (dk dtX7_person_0 43 rfl) (by decide) (cm0 D B _ _) rfl ?_
  refine g_iload_n F 1 (dk dtX7_person_0 44 rfl) rfl ?_
  refine g_callVi F (As := [.ref (B + 5), .int (nI p)]) (st := []) cv_X7_125 (dk dtX7_person_0 45 rfl) (by decide) (cm0 D B _ _) rfl rfl (Nat.le_of_ble_eq_true rfl) ⟨by decide, by decide⟩ (k_X7_allSeen l D B _ _ 5 (isRow5 D B) _ (by omega)) (fun r76 T76 M76 hp76 => ?_)
  obtain ⟨e1, e2, e3⟩ := hp76
  replace e1 := e1.symm; replace e2 := e2.symm; replace e3 := e3.symm; subst e1; subst e2; subst e3
  refine g_iret (F := F) hQ (dk dtX7_person_0 46 rfl) ?_
  exact ⟨rfl, rfl, rfl⟩
set_option maxRecDepth 100000 in
set_option maxHeartbeats 4000000 in
theorem k_X7_person_bad (l : Launch) (D : DX) (B : Nat) (T : Int64) (M : Mem) (h0 : M 0 0 = nI 0) (P : Nat) (hP : M 2 2 = nI P) (hP5 : P ≤ 5) (p w : Int32) (hb : ¬ (inR p P ∧ inR w 4)) : Ci l D B 14 (celM D B) yX7_person cX7_person 3 (some .int) 2 [.ref (B + 0), .int p, .int w] T M (fun rz T1 M1 => rz = (-1) ∧ T1 = T ∧ M1 = M) := by
  refine g_entryi (L := [(0, .ref (B + 0)), (1, .int p), (2, .int w)]) (by decide) (Nat.le_of_ble_eq_true rfl) rfl ?_
  intro zp ze zs zm zb zt zc Q F hQ
  refine g_aload_n F 0 (dk dtX7_person_0 0 rfl) rfl ?_
  refine g_iconst F (nI 0) (dk dtX7_person_0 1 rfl) (by decide) ?_
  refine g_put F fa_X7_56 (dk dtX7_person_0 2 rfl) (by decide) (cm0 D B _ _) (Nat.le_of_ble_eq_true rfl) rfl rfl ((cm0 D B _ _).trans st_Mod_0) ?_
  refine g_mem (up2_same h0) ?_
  refine g_aload_n F 0 (dk dtX7_person_0 3 rfl) rfl ?_
  refine g_iload_n F 1 (dk dtX7_person_0 4 rfl) rfl ?_
  refine g_callVi F (As := [.int p]) (st := []) cv_X7_129 (dk dtX7_person_0 5 rfl) (by decide) (cm0 D B _ _) rfl rfl (Nat.le_of_ble_eq_true rfl) ⟨by decide, by decide⟩ (k_X7_isOne l D B _ _ _ P hP (by omega)) (fun r7 T7 M7 hp7 => ?_)
  obtain ⟨e1, e2, e3⟩ := hp7
  replace e1 := e1.symm; replace e2 := e2.symm; replace e3 := e3.symm; subst e1; subst e2; subst e3
  refine g_if_eqB F 22 (dk dtX7_person_0 6 rfl) (by decide) (fun c10 => ?_) (fun c10 => ?_)
  · -- taken at 10
    refine g_iconst F (-1) (dk dtX7_person_0 12 rfl) (by decide) ?_
    refine g_iret (F := F) hQ (dk dtX7_person_0 13 rfl) ?_
    exact ⟨rfl, rfl, rfl⟩
  · -- not taken at 10
    refine g_iload_n F 2 (dk dtX7_person_0 7 rfl) rfl ?_
    refine g_iconst F (nI 0) (dk dtX7_person_0 8 rfl) (by decide) ?_
    refine g_iconst F (nI 3) (dk dtX7_person_0 9 rfl) (by decide) ?_
    refine g_callSi F (As := [.int w, .int (nI 0), .int (nI 3)]) (st := []) cs_X7_60 (dk dtX7_person_0 10 rfl) rfl rfl (Nat.le_of_ble_eq_true rfl) ⟨by decide, by decide⟩ (k_X7_inR l D B _ _ _ 3 (by decide)) (fun r16 T16 M16 hp16 => ?_)
    obtain ⟨e1, e2, e3⟩ := hp16
    replace e1 := e1.symm; replace e2 := e2.symm; replace e3 := e3.symm; subst e1; subst e2; subst e3
    refine g_if_neB F 24 (dk dtX7_person_0 11 rfl) (by decide) (fun c19 => ?_) (fun c19 => ?_)
    · -- taken at 19
      exact absurd ⟨c10, c19⟩ hb
    · -- not taken at 19
      refine g_iconst F (-1) (dk dtX7_person_0 12 rfl) (by decide) ?_
      refine g_iret (F := F) hQ (dk dtX7_person_0 13 rfl) ?_
      exact ⟨rfl, rfl, rfl⟩
set_option maxRecDepth 100000 in
set_option maxHeartbeats 4000000 in
theorem k_X7_seen (l : Launch) (D : DX) (B : Nat) (T : Int64) (M : Mem) (h0 : M 0 0 = nI 0) (P : Nat) (hP : M 2 2 = nI P) (hP5 : P ≤ 5) (K : Nat) (hK : M 2 0 = nI K) (hK1 : 1 ≤ K) (hK4 : K ≤ 4) (p k : Nat) (hp : p < P) (hk : k < K) : Ci l D B 14 (celM D B) yX7_seen cX7_seen 3 (some .int) 2 [.ref (B + 0), .int (nI p), .int (nI k)] T M (fun rz T1 M1 => rz = (M 5 (5 + 4 * p + k)) ∧ T1 = T ∧ M1 = M) := by
  refine g_entryi (L := [(0, .ref (B + 0)), (1, .int (nI p)), (2, .int (nI k))]) (by decide) (Nat.le_of_ble_eq_true rfl) rfl ?_
  intro zp ze zs zm zb zt zc Q F hQ
  refine g_aload_n F 0 (dk dtX7_seen_0 0 rfl) rfl ?_
  refine g_iconst F (nI 0) (dk dtX7_seen_0 1 rfl) (by decide) ?_
  refine g_put F fa_X7_56 (dk dtX7_seen_0 2 rfl) (by decide) (cm0 D B _ _) (Nat.le_of_ble_eq_true rfl) rfl rfl ((cm0 D B _ _).trans st_Mod_0) ?_
  refine g_mem (up2_same h0) ?_
  refine g_aload_n F 0 (dk dtX7_seen_0 3 rfl) rfl ?_
  refine g_iload_n F 1 (dk dtX7_seen_0 4 rfl) rfl ?_
  refine g_callVi F (As := [.int (nI p)]) (st := []) cv_X7_129 (dk dtX7_seen_0 5 rfl) (by decide) (cm0 D B _ _) rfl rfl (Nat.le_of_ble_eq_true rfl) ⟨by decide, by decide⟩ (k_X7_isOne l D B _ _ _ P hP (by omega)) (fun r7 T7 M7 hp7 => ?_)
  obtain ⟨e1, e2, e3⟩ := hp7
  replace e1 := e1.symm; replace e2 := e2.symm; replace e3 := e3.symm; subst e1; subst e2; subst e3
  refine g_if_eqB F 36 (dk dtX7_seen_0 6 rfl) (by decide) (fun c => absurd (inR_nI (by omega)) c) (fun _ => ?_)
  refine g_aload_n F 0 (dk dtX7_seen_0 7 rfl) rfl ?_
  refine g_iload_n F 2 (dk dtX7_seen_0 8 rfl) rfl ?_
  refine g_callVi F (As := [.int (nI k)]) (st := []) cv_X7_132 (dk dtX7_seen_0 9 rfl) (by decide) (cm0 D B _ _) rfl rfl (Nat.le_of_ble_eq_true rfl) ⟨by decide, by decide⟩ (k_X7_isKind l D B _ _ _ K hK (by omega)) (fun r15 T15 M15 hp15 => ?_)
  obtain ⟨e1, e2, e3⟩ := hp15
  replace e1 := e1.symm; replace e2 := e2.symm; replace e3 := e3.symm; subst e1; subst e2; subst e3
  refine g_if_eqB F 36 (dk dtX7_seen_0 10 rfl) (by decide) (fun c => absurd (inR_nI (by omega)) c) (fun _ => ?_)
  refine g_aload_n F 0 (dk dtX7_seen_0 11 rfl) rfl ?_
  refine g_get F fa_X7_22 (dk dtX7_seen_0 12 rfl) (by decide) (cm0 D B _ _) rfl ?_
  refine g_iconst F (nI 5) (dk dtX7_seen_0 13 rfl) (by decide) ?_
  refine g_iconst F (nI 4) (dk dtX7_seen_0 14 rfl) (by decide) ?_
  refine g_iload_n F 1 (dk dtX7_seen_0 15 rfl) rfl ?_
  refine g_imulN F (dk dtX7_seen_0 16 rfl) ?_
  refine g_iaddN F (dk dtX7_seen_0 17 rfl) ?_
  refine g_iload_n F 2 (dk dtX7_seen_0 18 rfl) rfl ?_
  refine g_iaddN F (dk dtX7_seen_0 19 rfl) ?_
  refine g_iald F ((5 + (4 * p)) + k) (dk dtX7_seen_0 20 rfl) (by decide) (cm5 D B _ _) (by omega) (by decide) ?_
  refine g_goto F 37 (dk dtX7_seen_0 21 rfl) (by decide) ?_
  refine g_iret (F := F) hQ (dk dtX7_seen_0 23 rfl) ?_
  exact ⟨rfl, rfl, rfl⟩
set_option maxRecDepth 100000 in
set_option maxHeartbeats 4000000 in
theorem k_X7_seen_bad (l : Launch) (D : DX) (B : Nat) (T : Int64) (M : Mem) (h0 : M 0 0 = nI 0) (P : Nat) (hP : M 2 2 = nI P) (hP5 : P ≤ 5) (K : Nat) (hK : M 2 0 = nI K) (hK1 : 1 ≤ K) (hK4 : K ≤ 4) (p k : Int32) (hb : ¬ (inR p P ∧ inR k K)) : Ci l D B 14 (celM D B) yX7_seen cX7_seen 3 (some .int) 2 [.ref (B + 0), .int p, .int k] T M (fun rz T1 M1 => rz = (-1) ∧ T1 = T ∧ M1 = M) := by
  refine g_entryi (L := [(0, .ref (B + 0)), (1, .int p), (2, .int k)]) (by decide) (Nat.le_of_ble_eq_true rfl) rfl ?_
  intro zp ze zs zm zb zt zc Q F hQ
  refine g_aload_n F 0 (dk dtX7_seen_0 0 rfl) rfl ?_
  refine g_iconst F (nI 0) (dk dtX7_seen_0 1 rfl) (by decide) ?_
  refine g_put F fa_X7_56 (dk dtX7_seen_0 2 rfl) (by decide) (cm0 D B _ _) (Nat.le_of_ble_eq_true rfl) rfl rfl ((cm0 D B _ _).trans st_Mod_0) ?_
  refine g_mem (up2_same h0) ?_
  refine g_aload_n F 0 (dk dtX7_seen_0 3 rfl) rfl ?_
  refine g_iload_n F 1 (dk dtX7_seen_0 4 rfl) rfl ?_
  refine g_callVi F (As := [.int p]) (st := []) cv_X7_129 (dk dtX7_seen_0 5 rfl) (by decide) (cm0 D B _ _) rfl rfl (Nat.le_of_ble_eq_true rfl) ⟨by decide, by decide⟩ (k_X7_isOne l D B _ _ _ P hP (by omega)) (fun r7 T7 M7 hp7 => ?_)
  obtain ⟨e1, e2, e3⟩ := hp7
  replace e1 := e1.symm; replace e2 := e2.symm; replace e3 := e3.symm; subst e1; subst e2; subst e3
  refine g_if_eqB F 36 (dk dtX7_seen_0 6 rfl) (by decide) (fun c10 => ?_) (fun c10 => ?_)
  · -- taken at 10
    refine g_iconst F (-1) (dk dtX7_seen_0 22 rfl) (by decide) ?_
    refine g_iret (F := F) hQ (dk dtX7_seen_0 23 rfl) ?_
    exact ⟨rfl, rfl, rfl⟩
  · -- not taken at 10
    refine g_aload_n F 0 (dk dtX7_seen_0 7 rfl) rfl ?_
    refine g_iload_n F 2 (dk dtX7_seen_0 8 rfl) rfl ?_
    refine g_callVi F (As := [.int k]) (st := []) cv_X7_132 (dk dtX7_seen_0 9 rfl) (by decide) (cm0 D B _ _) rfl rfl (Nat.le_of_ble_eq_true rfl) ⟨by decide, by decide⟩ (k_X7_isKind l D B _ _ _ K hK (by omega)) (fun r15 T15 M15 hp15 => ?_)
    obtain ⟨e1, e2, e3⟩ := hp15
    replace e1 := e1.symm; replace e2 := e2.symm; replace e3 := e3.symm; subst e1; subst e2; subst e3
    refine g_if_eqB F 36 (dk dtX7_seen_0 10 rfl) (by decide) (fun c18 => ?_) (fun c18 => ?_)
    · -- taken at 18
      refine g_iconst F (-1) (dk dtX7_seen_0 22 rfl) (by decide) ?_
      refine g_iret (F := F) hQ (dk dtX7_seen_0 23 rfl) ?_
      exact ⟨rfl, rfl, rfl⟩
    · -- not taken at 18
      exact absurd ⟨c10, c18⟩ hb
set_option maxRecDepth 100000 in
set_option maxHeartbeats 4000000 in
theorem k_X7_surprise (l : Launch) (D : DX) (B : Nat) (T : Int64) (M : Mem) (h0 : M 0 0 = nI 0) (P : Nat) (hP : M 2 2 = nI P) (hP5 : P ≤ 5) (K : Nat) (hK : M 2 0 = nI K) (hK1 : 1 ≤ K) (hK4 : K ≤ 4) (p k : Nat) (hp : p < P) (hk : k < K) (hW : WR (M 5)) : Ci l D B 14 (celM D B) yX7_surprise cX7_surprise 3 (some .int) 3 [.ref (B + 0), .int (nI p), .int (nI k)] T M (fun rz T1 M1 => rz = (suR (M 2 0) (M 5) p k) ∧ T1 = T ∧ M1 = M) := by
  refine g_entryi (L := [(0, .ref (B + 0)), (1, .int (nI p)), (2, .int (nI k))]) (by decide) (Nat.le_of_ble_eq_true rfl) rfl ?_
  intro zp ze zs zm zb zt zc Q F hQ
  refine g_aload_n F 0 (dk dtX7_surprise_0 0 rfl) rfl ?_
  refine g_iconst F (nI 0) (dk dtX7_surprise_0 1 rfl) (by decide) ?_
  refine g_put F fa_X7_56 (dk dtX7_surprise_0 2 rfl) (by decide) (cm0 D B _ _) (Nat.le_of_ble_eq_true rfl) rfl rfl ((cm0 D B _ _).trans st_Mod_0) ?_
  refine g_mem (up2_same h0) ?_
  refine g_aload_n F 0 (dk dtX7_surprise_0 3 rfl) rfl ?_
  refine g_iload_n F 1 (dk dtX7_surprise_0 4 rfl) rfl ?_
  refine g_callVi F (As := [.int (nI p)]) (st := []) cv_X7_129 (dk dtX7_surprise_0 5 rfl) (by decide) (cm0 D B _ _) rfl rfl (Nat.le_of_ble_eq_true rfl) ⟨by decide, by decide⟩ (k_X7_isOne l D B _ _ _ P hP (by omega)) (fun r7 T7 M7 hp7 => ?_)
  obtain ⟨e1, e2, e3⟩ := hp7
  replace e1 := e1.symm; replace e2 := e2.symm; replace e3 := e3.symm; subst e1; subst e2; subst e3
  refine g_if_eqB F 34 (dk dtX7_surprise_0 6 rfl) (by decide) (fun c => absurd (inR_nI (by omega)) c) (fun _ => ?_)
  refine g_aload_n F 0 (dk dtX7_surprise_0 7 rfl) rfl ?_
  refine g_iload_n F 2 (dk dtX7_surprise_0 8 rfl) rfl ?_
  refine g_callVi F (As := [.int (nI k)]) (st := []) cv_X7_132 (dk dtX7_surprise_0 9 rfl) (by decide) (cm0 D B _ _) rfl rfl (Nat.le_of_ble_eq_true rfl) ⟨by decide, by decide⟩ (k_X7_isKind l D B _ _ _ K hK (by omega)) (fun r15 T15 M15 hp15 => ?_)
  obtain ⟨e1, e2, e3⟩ := hp15
  replace e1 := e1.symm; replace e2 := e2.symm; replace e3 := e3.symm; subst e1; subst e2; subst e3
  refine g_if_eqB F 34 (dk dtX7_surprise_0 10 rfl) (by decide) (fun c => absurd (inR_nI (by omega)) c) (fun _ => ?_)
  refine g_aload_n F 0 (dk dtX7_surprise_0 11 rfl) rfl ?_
  refine g_aload_n F 0 (dk dtX7_surprise_0 12 rfl) rfl ?_
  refine g_get F fa_X7_22 (dk dtX7_surprise_0 13 rfl) (by decide) (cm0 D B _ _) rfl ?_
  refine g_iload_n F 1 (dk dtX7_surprise_0 14 rfl) rfl ?_
  refine g_iload_n F 2 (dk dtX7_surprise_0 15 rfl) rfl ?_
  refine g_callVi F (As := [.ref (B + 5), .int (nI p), .int (nI k)]) (st := []) cv_X7_135 (dk dtX7_surprise_0 16 rfl) (by decide) (cm0 D B _ _) rfl rfl (Nat.le_of_ble_eq_true rfl) ⟨by decide, by decide⟩ (k_X7_surpriseOf l D B _ _ 5 (isRow5 D B) p k (by omega) (by omega) (dvR hK hW hK1 hK4 (by omega))) (fun r28 T28 M28 hp28 => ?_)
  obtain ⟨e1, e2, e3⟩ := hp28
  replace e1 := e1.symm; replace e2 := e2.symm; replace e3 := e3.symm; subst e1; subst e2; subst e3
  refine g_goto F 35 (dk dtX7_surprise_0 17 rfl) (by decide) ?_
  refine g_iret (F := F) hQ (dk dtX7_surprise_0 19 rfl) ?_
  exact ⟨rfl, rfl, rfl⟩
set_option maxRecDepth 100000 in
set_option maxHeartbeats 4000000 in
theorem k_X7_surprise_bad (l : Launch) (D : DX) (B : Nat) (T : Int64) (M : Mem) (h0 : M 0 0 = nI 0) (P : Nat) (hP : M 2 2 = nI P) (hP5 : P ≤ 5) (K : Nat) (hK : M 2 0 = nI K) (hK1 : 1 ≤ K) (hK4 : K ≤ 4) (p k : Int32) (hb : ¬ (inR p P ∧ inR k K)) : Ci l D B 14 (celM D B) yX7_surprise cX7_surprise 3 (some .int) 3 [.ref (B + 0), .int p, .int k] T M (fun rz T1 M1 => rz = (-1) ∧ T1 = T ∧ M1 = M) := by
  refine g_entryi (L := [(0, .ref (B + 0)), (1, .int p), (2, .int k)]) (by decide) (Nat.le_of_ble_eq_true rfl) rfl ?_
  intro zp ze zs zm zb zt zc Q F hQ
  refine g_aload_n F 0 (dk dtX7_surprise_0 0 rfl) rfl ?_
  refine g_iconst F (nI 0) (dk dtX7_surprise_0 1 rfl) (by decide) ?_
  refine g_put F fa_X7_56 (dk dtX7_surprise_0 2 rfl) (by decide) (cm0 D B _ _) (Nat.le_of_ble_eq_true rfl) rfl rfl ((cm0 D B _ _).trans st_Mod_0) ?_
  refine g_mem (up2_same h0) ?_
  refine g_aload_n F 0 (dk dtX7_surprise_0 3 rfl) rfl ?_
  refine g_iload_n F 1 (dk dtX7_surprise_0 4 rfl) rfl ?_
  refine g_callVi F (As := [.int p]) (st := []) cv_X7_129 (dk dtX7_surprise_0 5 rfl) (by decide) (cm0 D B _ _) rfl rfl (Nat.le_of_ble_eq_true rfl) ⟨by decide, by decide⟩ (k_X7_isOne l D B _ _ _ P hP (by omega)) (fun r7 T7 M7 hp7 => ?_)
  obtain ⟨e1, e2, e3⟩ := hp7
  replace e1 := e1.symm; replace e2 := e2.symm; replace e3 := e3.symm; subst e1; subst e2; subst e3
  refine g_if_eqB F 34 (dk dtX7_surprise_0 6 rfl) (by decide) (fun c10 => ?_) (fun c10 => ?_)
  · -- taken at 10
    refine g_iconst F (-1) (dk dtX7_surprise_0 18 rfl) (by decide) ?_
    refine g_iret (F := F) hQ (dk dtX7_surprise_0 19 rfl) ?_
    exact ⟨rfl, rfl, rfl⟩
  · -- not taken at 10
    refine g_aload_n F 0 (dk dtX7_surprise_0 7 rfl) rfl ?_
    refine g_iload_n F 2 (dk dtX7_surprise_0 8 rfl) rfl ?_
    refine g_callVi F (As := [.int k]) (st := []) cv_X7_132 (dk dtX7_surprise_0 9 rfl) (by decide) (cm0 D B _ _) rfl rfl (Nat.le_of_ble_eq_true rfl) ⟨by decide, by decide⟩ (k_X7_isKind l D B _ _ _ K hK (by omega)) (fun r15 T15 M15 hp15 => ?_)
    obtain ⟨e1, e2, e3⟩ := hp15
    replace e1 := e1.symm; replace e2 := e2.symm; replace e3 := e3.symm; subst e1; subst e2; subst e3
    refine g_if_eqB F 34 (dk dtX7_surprise_0 10 rfl) (by decide) (fun c18 => ?_) (fun c18 => ?_)
    · -- taken at 18
      refine g_iconst F (-1) (dk dtX7_surprise_0 18 rfl) (by decide) ?_
      refine g_iret (F := F) hQ (dk dtX7_surprise_0 19 rfl) ?_
      exact ⟨rfl, rfl, rfl⟩
    · -- not taken at 18
      exact absurd ⟨c10, c18⟩ hb
set_option maxRecDepth 100000 in
set_option maxHeartbeats 4000000 in
theorem k_X7_now_0 (l : Launch) (D : DX) (B : Nat) (T : Int64) (M : Mem) (h0 : M 0 0 = nI 0)  : Ci l D B 14 (celM D B) yX7_now cX7_now 2 (some .int) 3 [.ref (B + 0), .int (nI 0)] T M (fun rz T1 M1 => rz = (moR (M 5)) ∧ T1 = T ∧ M1 = M) := by
  refine g_entryi (L := [(0, .ref (B + 0)), (1, .int (nI 0))]) (by decide) (Nat.le_of_ble_eq_true rfl) rfl ?_
  intro zp ze zs zm zb zt zc Q F hQ
  refine g_aload_n F 0 (dk dtX7_now_0 0 rfl) rfl ?_
  refine g_iconst F (nI 0) (dk dtX7_now_0 1 rfl) (by decide) ?_
  refine g_put F fa_X7_56 (dk dtX7_now_0 2 rfl) (by decide) (cm0 D B _ _) (Nat.le_of_ble_eq_true rfl) rfl rfl ((cm0 D B _ _).trans st_Mod_0) ?_
  refine g_mem (up2_same h0) ?_
  refine g_iload_n F 1 (dk dtX7_now_0 3 rfl) rfl ?_
  refine g_iconst F (nI 0) (dk dtX7_now_0 4 rfl) (by decide) ?_
  refine g_iconst F (nI 3) (dk dtX7_now_0 5 rfl) (by decide) ?_
  refine g_callSi F (As := [.int (nI 0), .int (nI 0), .int (nI 3)]) (st := []) cs_X7_60 (dk dtX7_now_0 6 rfl) rfl rfl (Nat.le_of_ble_eq_true rfl) ⟨by decide, by decide⟩ (k_X7_inR l D B _ _ _ 3 (by decide)) (fun r8 T8 M8 hp8 => ?_)
  obtain ⟨e1, e2, e3⟩ := hp8
  replace e1 := e1.symm; replace e2 := e2.symm; replace e3 := e3.symm; subst e1; subst e2; subst e3
  refine g_if_neB F 17 (dk dtX7_now_0 7 rfl) (by decide) (fun _ => ?_) (fun c => absurd (inR_nI (by omega)) c)
  refine g_iload_n F 1 (dk dtX7_now_0 10 rfl) rfl ?_
  refine g_if_neN F 31 (dk dtX7_now_0 11 rfl) (by decide) (by decide) (fun c => absurd c (by decide)) (fun _ => ?_)
  refine g_aload_n F 0 (dk dtX7_now_0 12 rfl) rfl ?_
  refine g_get F fa_X7_22 (dk dtX7_now_0 13 rfl) (by decide) (cm0 D B _ _) rfl ?_
  refine g_callSi F (As := [.ref (B + 5)]) (st := []) cs_X7_140 (dk dtX7_now_0 14 rfl) rfl rfl (Nat.le_of_ble_eq_true rfl) ⟨by decide, by decide⟩ (k_X7_mayorOf l D B _ _ 5 (isRow5 D B)) (fun r25 T25 M25 hp25 => ?_)
  obtain ⟨e1, e2, e3⟩ := hp25
  replace e1 := e1.symm; replace e2 := e2.symm; replace e3 := e3.symm; subst e1; subst e2; subst e3
  refine g_goto F 59 (dk dtX7_now_0 15 rfl) (by decide) ?_
  refine g_iret (F := F) hQ (dk dtX7_now_0 30 rfl) ?_
  exact ⟨rfl, rfl, rfl⟩
set_option maxRecDepth 100000 in
set_option maxHeartbeats 4000000 in
theorem k_X7_now_1 (l : Launch) (D : DX) (B : Nat) (T : Int64) (M : Mem) (h0 : M 0 0 = nI 0) (P : Nat) (hP : M 2 2 = nI P) (hP5 : P ≤ 5)  : Ci l D B 14 (celM D B) yX7_now cX7_now 2 (some .int) 3 [.ref (B + 0), .int (nI 1)] T M (fun rz T1 M1 => rz = (nSum (fun j => M 5 (25 + j)) P) ∧ T1 = T ∧ M1 = M) := by
  refine g_entryi (L := [(0, .ref (B + 0)), (1, .int (nI 1))]) (by decide) (Nat.le_of_ble_eq_true rfl) rfl ?_
  intro zp ze zs zm zb zt zc Q F hQ
  refine g_aload_n F 0 (dk dtX7_now_0 0 rfl) rfl ?_
  refine g_iconst F (nI 0) (dk dtX7_now_0 1 rfl) (by decide) ?_
  refine g_put F fa_X7_56 (dk dtX7_now_0 2 rfl) (by decide) (cm0 D B _ _) (Nat.le_of_ble_eq_true rfl) rfl rfl ((cm0 D B _ _).trans st_Mod_0) ?_
  refine g_mem (up2_same h0) ?_
  refine g_iload_n F 1 (dk dtX7_now_0 3 rfl) rfl ?_
  refine g_iconst F (nI 0) (dk dtX7_now_0 4 rfl) (by decide) ?_
  refine g_iconst F (nI 3) (dk dtX7_now_0 5 rfl) (by decide) ?_
  refine g_callSi F (As := [.int (nI 1), .int (nI 0), .int (nI 3)]) (st := []) cs_X7_60 (dk dtX7_now_0 6 rfl) rfl rfl (Nat.le_of_ble_eq_true rfl) ⟨by decide, by decide⟩ (k_X7_inR l D B _ _ _ 3 (by decide)) (fun r8 T8 M8 hp8 => ?_)
  obtain ⟨e1, e2, e3⟩ := hp8
  replace e1 := e1.symm; replace e2 := e2.symm; replace e3 := e3.symm; subst e1; subst e2; subst e3
  refine g_if_neB F 17 (dk dtX7_now_0 7 rfl) (by decide) (fun _ => ?_) (fun c => absurd (inR_nI (by omega)) c)
  refine g_iload_n F 1 (dk dtX7_now_0 10 rfl) rfl ?_
  refine g_if_neN F 31 (dk dtX7_now_0 11 rfl) (by decide) (by decide) (fun _ => ?_) (fun c => absurd c (by decide))
  refine g_iload_n F 1 (dk dtX7_now_0 16 rfl) rfl ?_
  refine g_iconst F (nI 1) (dk dtX7_now_0 17 rfl) (by decide) ?_
  refine g_icmp_neN F 43 (dk dtX7_now_0 18 rfl) (by decide) (by decide) (by decide) (fun c => absurd c (by decide)) (fun _ => ?_)
  refine g_aload_n F 0 (dk dtX7_now_0 19 rfl) rfl ?_
  refine g_callVi F (As := []) (st := []) cv_X7_144 (dk dtX7_now_0 20 rfl) (by decide) (cm0 D B _ _) rfl rfl (Nat.le_of_ble_eq_true rfl) ⟨by decide, by decide⟩ (k_X7_allTerms l D B _ _ P hP hP5) (fun r37 T37 M37 hp37 => ?_)
  obtain ⟨e1, e2, e3⟩ := hp37
  replace e1 := e1.symm; replace e2 := e2.symm; replace e3 := e3.symm; subst e1; subst e2; subst e3
  refine g_goto F 59 (dk dtX7_now_0 21 rfl) (by decide) ?_
  refine g_iret (F := F) hQ (dk dtX7_now_0 30 rfl) ?_
  exact ⟨rfl, rfl, rfl⟩
set_option maxRecDepth 100000 in
set_option maxHeartbeats 4000000 in
theorem k_X7_now_2 (l : Launch) (D : DX) (B : Nat) (T : Int64) (M : Mem) (h0 : M 0 0 = nI 0) (P : Nat) (hP : M 2 2 = nI P) (hP5 : P ≤ 5) (K : Nat) (hK : M 2 0 = nI K) (hK1 : 1 ≤ K) (hK4 : K ≤ 4) (hW : WR (M 5)) : Ci l D B 14 (celM D B) yX7_now cX7_now 2 (some .int) 3 [.ref (B + 0), .int (nI 2)] T M (fun rz T1 M1 => rz = (msR (M 2 0) (M 5) K P) ∧ T1 = T ∧ M1 = M) := by
  refine g_entryi (L := [(0, .ref (B + 0)), (1, .int (nI 2))]) (by decide) (Nat.le_of_ble_eq_true rfl) rfl ?_
  intro zp ze zs zm zb zt zc Q F hQ
  refine g_aload_n F 0 (dk dtX7_now_0 0 rfl) rfl ?_
  refine g_iconst F (nI 0) (dk dtX7_now_0 1 rfl) (by decide) ?_
  refine g_put F fa_X7_56 (dk dtX7_now_0 2 rfl) (by decide) (cm0 D B _ _) (Nat.le_of_ble_eq_true rfl) rfl rfl ((cm0 D B _ _).trans st_Mod_0) ?_
  refine g_mem (up2_same h0) ?_
  refine g_iload_n F 1 (dk dtX7_now_0 3 rfl) rfl ?_
  refine g_iconst F (nI 0) (dk dtX7_now_0 4 rfl) (by decide) ?_
  refine g_iconst F (nI 3) (dk dtX7_now_0 5 rfl) (by decide) ?_
  refine g_callSi F (As := [.int (nI 2), .int (nI 0), .int (nI 3)]) (st := []) cs_X7_60 (dk dtX7_now_0 6 rfl) rfl rfl (Nat.le_of_ble_eq_true rfl) ⟨by decide, by decide⟩ (k_X7_inR l D B _ _ _ 3 (by decide)) (fun r8 T8 M8 hp8 => ?_)
  obtain ⟨e1, e2, e3⟩ := hp8
  replace e1 := e1.symm; replace e2 := e2.symm; replace e3 := e3.symm; subst e1; subst e2; subst e3
  refine g_if_neB F 17 (dk dtX7_now_0 7 rfl) (by decide) (fun _ => ?_) (fun c => absurd (inR_nI (by omega)) c)
  refine g_iload_n F 1 (dk dtX7_now_0 10 rfl) rfl ?_
  refine g_if_neN F 31 (dk dtX7_now_0 11 rfl) (by decide) (by decide) (fun _ => ?_) (fun c => absurd c (by decide))
  refine g_iload_n F 1 (dk dtX7_now_0 16 rfl) rfl ?_
  refine g_iconst F (nI 1) (dk dtX7_now_0 17 rfl) (by decide) ?_
  refine g_icmp_neN F 43 (dk dtX7_now_0 18 rfl) (by decide) (by decide) (by decide) (fun _ => ?_) (fun c => absurd c (by decide))
  refine g_iload_n F 1 (dk dtX7_now_0 22 rfl) rfl ?_
  refine g_iconst F (nI 2) (dk dtX7_now_0 23 rfl) (by decide) ?_
  refine g_icmp_neN F 55 (dk dtX7_now_0 24 rfl) (by decide) (by decide) (by decide) (fun c => absurd c (by decide)) (fun _ => ?_)
  refine g_aload_n F 0 (dk dtX7_now_0 25 rfl) rfl ?_
  refine g_callVi F (As := []) (st := []) cv_X7_148 (dk dtX7_now_0 26 rfl) (by decide) (cm0 D B _ _) rfl rfl (Nat.le_of_ble_eq_true rfl) ⟨by decide, by decide⟩ (k_X7_mostSurprise l D B _ _ K P hK hP hK1 hK4 hP5 hW) (fun r49 T49 M49 hp49 => ?_)
  obtain ⟨e1, e2, e3⟩ := hp49
  replace e1 := e1.symm; replace e2 := e2.symm; replace e3 := e3.symm; subst e1; subst e2; subst e3
  refine g_goto F 59 (dk dtX7_now_0 27 rfl) (by decide) ?_
  refine g_iret (F := F) hQ (dk dtX7_now_0 30 rfl) ?_
  exact ⟨rfl, rfl, rfl⟩
set_option maxRecDepth 100000 in
set_option maxHeartbeats 4000000 in
theorem k_X7_now_3 (l : Launch) (D : DX) (B : Nat) (T : Int64) (M : Mem) (h0 : M 0 0 = nI 0)  : Ci l D B 14 (celM D B) yX7_now cX7_now 2 (some .int) 3 [.ref (B + 0), .int (nI 3)] T M (fun rz T1 M1 => rz = (M 0 18) ∧ T1 = T ∧ M1 = M) := by
  refine g_entryi (L := [(0, .ref (B + 0)), (1, .int (nI 3))]) (by decide) (Nat.le_of_ble_eq_true rfl) rfl ?_
  intro zp ze zs zm zb zt zc Q F hQ
  refine g_aload_n F 0 (dk dtX7_now_0 0 rfl) rfl ?_
  refine g_iconst F (nI 0) (dk dtX7_now_0 1 rfl) (by decide) ?_
  refine g_put F fa_X7_56 (dk dtX7_now_0 2 rfl) (by decide) (cm0 D B _ _) (Nat.le_of_ble_eq_true rfl) rfl rfl ((cm0 D B _ _).trans st_Mod_0) ?_
  refine g_mem (up2_same h0) ?_
  refine g_iload_n F 1 (dk dtX7_now_0 3 rfl) rfl ?_
  refine g_iconst F (nI 0) (dk dtX7_now_0 4 rfl) (by decide) ?_
  refine g_iconst F (nI 3) (dk dtX7_now_0 5 rfl) (by decide) ?_
  refine g_callSi F (As := [.int (nI 3), .int (nI 0), .int (nI 3)]) (st := []) cs_X7_60 (dk dtX7_now_0 6 rfl) rfl rfl (Nat.le_of_ble_eq_true rfl) ⟨by decide, by decide⟩ (k_X7_inR l D B _ _ _ 3 (by decide)) (fun r8 T8 M8 hp8 => ?_)
  obtain ⟨e1, e2, e3⟩ := hp8
  replace e1 := e1.symm; replace e2 := e2.symm; replace e3 := e3.symm; subst e1; subst e2; subst e3
  refine g_if_neB F 17 (dk dtX7_now_0 7 rfl) (by decide) (fun _ => ?_) (fun c => absurd (inR_nI (by omega)) c)
  refine g_iload_n F 1 (dk dtX7_now_0 10 rfl) rfl ?_
  refine g_if_neN F 31 (dk dtX7_now_0 11 rfl) (by decide) (by decide) (fun _ => ?_) (fun c => absurd c (by decide))
  refine g_iload_n F 1 (dk dtX7_now_0 16 rfl) rfl ?_
  refine g_iconst F (nI 1) (dk dtX7_now_0 17 rfl) (by decide) ?_
  refine g_icmp_neN F 43 (dk dtX7_now_0 18 rfl) (by decide) (by decide) (by decide) (fun _ => ?_) (fun c => absurd c (by decide))
  refine g_iload_n F 1 (dk dtX7_now_0 22 rfl) rfl ?_
  refine g_iconst F (nI 2) (dk dtX7_now_0 23 rfl) (by decide) ?_
  refine g_icmp_neN F 55 (dk dtX7_now_0 24 rfl) (by decide) (by decide) (by decide) (fun _ => ?_) (fun c => absurd c (by decide))
  refine g_aload_n F 0 (dk dtX7_now_0 28 rfl) rfl ?_
  refine g_get F fa_X7_122 (dk dtX7_now_0 29 rfl) (by decide) (cm0 D B _ _) rfl ?_
  refine g_iret (F := F) hQ (dk dtX7_now_0 30 rfl) ?_
  exact ⟨rfl, rfl, rfl⟩
set_option maxRecDepth 100000 in
set_option maxHeartbeats 4000000 in
theorem k_X7_now_bad (l : Launch) (D : DX) (B : Nat) (T : Int64) (M : Mem) (h0 : M 0 0 = nI 0) (w : Int32) (hb : ¬ inR w 4) : Ci l D B 14 (celM D B) yX7_now cX7_now 2 (some .int) 3 [.ref (B + 0), .int w] T M (fun rz T1 M1 => rz = (-1000000) ∧ T1 = T ∧ M1 = M) := by
  refine g_entryi (L := [(0, .ref (B + 0)), (1, .int w)]) (by decide) (Nat.le_of_ble_eq_true rfl) rfl ?_
  intro zp ze zs zm zb zt zc Q F hQ
  refine g_aload_n F 0 (dk dtX7_now_0 0 rfl) rfl ?_
  refine g_iconst F (nI 0) (dk dtX7_now_0 1 rfl) (by decide) ?_
  refine g_put F fa_X7_56 (dk dtX7_now_0 2 rfl) (by decide) (cm0 D B _ _) (Nat.le_of_ble_eq_true rfl) rfl rfl ((cm0 D B _ _).trans st_Mod_0) ?_
  refine g_mem (up2_same h0) ?_
  refine g_iload_n F 1 (dk dtX7_now_0 3 rfl) rfl ?_
  refine g_iconst F (nI 0) (dk dtX7_now_0 4 rfl) (by decide) ?_
  refine g_iconst F (nI 3) (dk dtX7_now_0 5 rfl) (by decide) ?_
  refine g_callSi F (As := [.int w, .int (nI 0), .int (nI 3)]) (st := []) cs_X7_60 (dk dtX7_now_0 6 rfl) rfl rfl (Nat.le_of_ble_eq_true rfl) ⟨by decide, by decide⟩ (k_X7_inR l D B _ _ _ 3 (by decide)) (fun r8 T8 M8 hp8 => ?_)
  obtain ⟨e1, e2, e3⟩ := hp8
  replace e1 := e1.symm; replace e2 := e2.symm; replace e3 := e3.symm; subst e1; subst e2; subst e3
  refine g_if_neB F 17 (dk dtX7_now_0 7 rfl) (by decide) (fun c11 => ?_) (fun c11 => ?_)
  · -- taken at 11
    exact absurd c11 hb
  · -- not taken at 11
    refine g_ldc F (dk dtX7_now_0 8 rfl) (tw4 10 rfl) ?_
    refine g_iret (F := F) hQ (dk dtX7_now_0 9 rfl) ?_
    exact ⟨rfl, rfl, rfl⟩
set_option maxRecDepth 100000 in
set_option maxHeartbeats 4000000 in
theorem k_X7_count_0 (l : Launch) (D : DX) (B : Nat) (T : Int64) (M : Mem) (h0 : M 0 0 = nI 0)  : Ci l D B 14 (celM D B) yX7_count cX7_count 2 (some .int) 1 [.ref (B + 0), .int (nI 0)] T M (fun rz T1 M1 => rz = (M 2 0) ∧ T1 = T ∧ M1 = M) := by
  refine g_entryi (L := [(0, .ref (B + 0)), (1, .int (nI 0))]) (by decide) (Nat.le_of_ble_eq_true rfl) rfl ?_
  intro zp ze zs zm zb zt zc Q F hQ
  refine g_aload_n F 0 (dk dtX7_count_0 0 rfl) rfl ?_
  refine g_iconst F (nI 0) (dk dtX7_count_0 1 rfl) (by decide) ?_
  refine g_put F fa_X7_56 (dk dtX7_count_0 2 rfl) (by decide) (cm0 D B _ _) (Nat.le_of_ble_eq_true rfl) rfl rfl ((cm0 D B _ _).trans st_Mod_0) ?_
  refine g_mem (up2_same h0) ?_
  refine g_iload_n F 1 (dk dtX7_count_0 3 rfl) rfl ?_
  refine g_iconst F (nI 0) (dk dtX7_count_0 4 rfl) (by decide) ?_
  refine g_iconst F (nI 2) (dk dtX7_count_0 5 rfl) (by decide) ?_
  refine g_callSi F (As := [.int (nI 0), .int (nI 0), .int (nI 2)]) (st := []) cs_X7_60 (dk dtX7_count_0 6 rfl) rfl rfl (Nat.le_of_ble_eq_true rfl) ⟨by decide, by decide⟩ (k_X7_inR l D B _ _ _ 2 (by decide)) (fun r8 T8 M8 hp8 => ?_)
  obtain ⟨e1, e2, e3⟩ := hp8
  replace e1 := e1.symm; replace e2 := e2.symm; replace e3 := e3.symm; subst e1; subst e2; subst e3
  refine g_if_eqB F 23 (dk dtX7_count_0 7 rfl) (by decide) (fun c => absurd (inR_nI (by omega)) c) (fun _ => ?_)
  refine g_aload_n F 0 (dk dtX7_count_0 8 rfl) rfl ?_
  refine g_get F fa_X7_13 (dk dtX7_count_0 9 rfl) (by decide) (cm0 D B _ _) rfl ?_
  refine g_iload_n F 1 (dk dtX7_count_0 10 rfl) rfl ?_
  refine g_iald F (0) (dk dtX7_count_0 11 rfl) (by decide) (cm2 D B _ _) (by omega) (by decide) ?_
  refine g_goto F 48 (dk dtX7_count_0 12 rfl) (by decide) ?_
  refine g_iret (F := F) hQ (dk dtX7_count_0 26 rfl) ?_
  exact ⟨rfl, rfl, rfl⟩
set_option maxRecDepth 100000 in
set_option maxHeartbeats 4000000 in
theorem k_X7_count_1 (l : Launch) (D : DX) (B : Nat) (T : Int64) (M : Mem) (h0 : M 0 0 = nI 0)  : Ci l D B 14 (celM D B) yX7_count cX7_count 2 (some .int) 1 [.ref (B + 0), .int (nI 1)] T M (fun rz T1 M1 => rz = (M 2 1) ∧ T1 = T ∧ M1 = M) := by
  refine g_entryi (L := [(0, .ref (B + 0)), (1, .int (nI 1))]) (by decide) (Nat.le_of_ble_eq_true rfl) rfl ?_
  intro zp ze zs zm zb zt zc Q F hQ
  refine g_aload_n F 0 (dk dtX7_count_0 0 rfl) rfl ?_
  refine g_iconst F (nI 0) (dk dtX7_count_0 1 rfl) (by decide) ?_
  refine g_put F fa_X7_56 (dk dtX7_count_0 2 rfl) (by decide) (cm0 D B _ _) (Nat.le_of_ble_eq_true rfl) rfl rfl ((cm0 D B _ _).trans st_Mod_0) ?_
  refine g_mem (up2_same h0) ?_
  refine g_iload_n F 1 (dk dtX7_count_0 3 rfl) rfl ?_
  refine g_iconst F (nI 0) (dk dtX7_count_0 4 rfl) (by decide) ?_
  refine g_iconst F (nI 2) (dk dtX7_count_0 5 rfl) (by decide) ?_
  refine g_callSi F (As := [.int (nI 1), .int (nI 0), .int (nI 2)]) (st := []) cs_X7_60 (dk dtX7_count_0 6 rfl) rfl rfl (Nat.le_of_ble_eq_true rfl) ⟨by decide, by decide⟩ (k_X7_inR l D B _ _ _ 2 (by decide)) (fun r8 T8 M8 hp8 => ?_)
  obtain ⟨e1, e2, e3⟩ := hp8
  replace e1 := e1.symm; replace e2 := e2.symm; replace e3 := e3.symm; subst e1; subst e2; subst e3
  refine g_if_eqB F 23 (dk dtX7_count_0 7 rfl) (by decide) (fun c => absurd (inR_nI (by omega)) c) (fun _ => ?_)
  refine g_aload_n F 0 (dk dtX7_count_0 8 rfl) rfl ?_
  refine g_get F fa_X7_13 (dk dtX7_count_0 9 rfl) (by decide) (cm0 D B _ _) rfl ?_
  refine g_iload_n F 1 (dk dtX7_count_0 10 rfl) rfl ?_
  refine g_iald F (1) (dk dtX7_count_0 11 rfl) (by decide) (cm2 D B _ _) (by omega) (by decide) ?_
  refine g_goto F 48 (dk dtX7_count_0 12 rfl) (by decide) ?_
  refine g_iret (F := F) hQ (dk dtX7_count_0 26 rfl) ?_
  exact ⟨rfl, rfl, rfl⟩
set_option maxRecDepth 100000 in
set_option maxHeartbeats 4000000 in
theorem k_X7_count_2 (l : Launch) (D : DX) (B : Nat) (T : Int64) (M : Mem) (h0 : M 0 0 = nI 0)  : Ci l D B 14 (celM D B) yX7_count cX7_count 2 (some .int) 1 [.ref (B + 0), .int (nI 2)] T M (fun rz T1 M1 => rz = (M 2 2) ∧ T1 = T ∧ M1 = M) := by
  refine g_entryi (L := [(0, .ref (B + 0)), (1, .int (nI 2))]) (by decide) (Nat.le_of_ble_eq_true rfl) rfl ?_
  intro zp ze zs zm zb zt zc Q F hQ
  refine g_aload_n F 0 (dk dtX7_count_0 0 rfl) rfl ?_
  refine g_iconst F (nI 0) (dk dtX7_count_0 1 rfl) (by decide) ?_
  refine g_put F fa_X7_56 (dk dtX7_count_0 2 rfl) (by decide) (cm0 D B _ _) (Nat.le_of_ble_eq_true rfl) rfl rfl ((cm0 D B _ _).trans st_Mod_0) ?_
  refine g_mem (up2_same h0) ?_
  refine g_iload_n F 1 (dk dtX7_count_0 3 rfl) rfl ?_
  refine g_iconst F (nI 0) (dk dtX7_count_0 4 rfl) (by decide) ?_
  refine g_iconst F (nI 2) (dk dtX7_count_0 5 rfl) (by decide) ?_
  refine g_callSi F (As := [.int (nI 2), .int (nI 0), .int (nI 2)]) (st := []) cs_X7_60 (dk dtX7_count_0 6 rfl) rfl rfl (Nat.le_of_ble_eq_true rfl) ⟨by decide, by decide⟩ (k_X7_inR l D B _ _ _ 2 (by decide)) (fun r8 T8 M8 hp8 => ?_)
  obtain ⟨e1, e2, e3⟩ := hp8
  replace e1 := e1.symm; replace e2 := e2.symm; replace e3 := e3.symm; subst e1; subst e2; subst e3
  refine g_if_eqB F 23 (dk dtX7_count_0 7 rfl) (by decide) (fun c => absurd (inR_nI (by omega)) c) (fun _ => ?_)
  refine g_aload_n F 0 (dk dtX7_count_0 8 rfl) rfl ?_
  refine g_get F fa_X7_13 (dk dtX7_count_0 9 rfl) (by decide) (cm0 D B _ _) rfl ?_
  refine g_iload_n F 1 (dk dtX7_count_0 10 rfl) rfl ?_
  refine g_iald F (2) (dk dtX7_count_0 11 rfl) (by decide) (cm2 D B _ _) (by omega) (by decide) ?_
  refine g_goto F 48 (dk dtX7_count_0 12 rfl) (by decide) ?_
  refine g_iret (F := F) hQ (dk dtX7_count_0 26 rfl) ?_
  exact ⟨rfl, rfl, rfl⟩
set_option maxRecDepth 100000 in
set_option maxHeartbeats 4000000 in
theorem k_X7_count_3 (l : Launch) (D : DX) (B : Nat) (T : Int64) (M : Mem) (h0 : M 0 0 = nI 0)  : Ci l D B 14 (celM D B) yX7_count cX7_count 2 (some .int) 1 [.ref (B + 0), .int (nI 3)] T M (fun rz T1 M1 => rz = (M 0 22) ∧ T1 = T ∧ M1 = M) := by
  refine g_entryi (L := [(0, .ref (B + 0)), (1, .int (nI 3))]) (by decide) (Nat.le_of_ble_eq_true rfl) rfl ?_
  intro zp ze zs zm zb zt zc Q F hQ
  refine g_aload_n F 0 (dk dtX7_count_0 0 rfl) rfl ?_
  refine g_iconst F (nI 0) (dk dtX7_count_0 1 rfl) (by decide) ?_
  refine g_put F fa_X7_56 (dk dtX7_count_0 2 rfl) (by decide) (cm0 D B _ _) (Nat.le_of_ble_eq_true rfl) rfl rfl ((cm0 D B _ _).trans st_Mod_0) ?_
  refine g_mem (up2_same h0) ?_
  refine g_iload_n F 1 (dk dtX7_count_0 3 rfl) rfl ?_
  refine g_iconst F (nI 0) (dk dtX7_count_0 4 rfl) (by decide) ?_
  refine g_iconst F (nI 2) (dk dtX7_count_0 5 rfl) (by decide) ?_
  refine g_callSi F (As := [.int (nI 3), .int (nI 0), .int (nI 2)]) (st := []) cs_X7_60 (dk dtX7_count_0 6 rfl) rfl rfl (Nat.le_of_ble_eq_true rfl) ⟨by decide, by decide⟩ (k_X7_inR l D B _ _ _ 2 (by decide)) (fun r8 T8 M8 hp8 => ?_)
  obtain ⟨e1, e2, e3⟩ := hp8
  replace e1 := e1.symm; replace e2 := e2.symm; replace e3 := e3.symm; subst e1; subst e2; subst e3
  refine g_if_eqB F 23 (dk dtX7_count_0 7 rfl) (by decide) (fun c11 => ?_) (fun c11 => ?_)
  · -- taken at 11
    refine g_iload_n F 1 (dk dtX7_count_0 13 rfl) rfl ?_
    refine g_iconst F (nI 3) (dk dtX7_count_0 14 rfl) (by decide) ?_
    refine g_icmp_neN F 35 (dk dtX7_count_0 15 rfl) (by decide) (by decide) (by decide) (fun c => absurd c (by decide)) (fun _ => ?_)
    refine g_aload_n F 0 (dk dtX7_count_0 16 rfl) rfl ?_
    refine g_get F fa_X7_119 (dk dtX7_count_0 17 rfl) (by decide) (cm0 D B _ _) rfl ?_
    refine g_goto F 48 (dk dtX7_count_0 18 rfl) (by decide) ?_
    refine g_iret (F := F) hQ (dk dtX7_count_0 26 rfl) ?_
    exact ⟨rfl, rfl, rfl⟩
  · -- not taken at 11
    exact absurd c11 (by decide)
set_option maxRecDepth 100000 in
set_option maxHeartbeats 4000000 in
theorem k_X7_count_4 (l : Launch) (D : DX) (B : Nat) (T : Int64) (M : Mem) (h0 : M 0 0 = nI 0)  : Ci l D B 14 (celM D B) yX7_count cX7_count 2 (some .int) 1 [.ref (B + 0), .int (nI 4)] T M (fun rz T1 M1 => rz = (M 0 3) ∧ T1 = T ∧ M1 = M) := by
  refine g_entryi (L := [(0, .ref (B + 0)), (1, .int (nI 4))]) (by decide) (Nat.le_of_ble_eq_true rfl) rfl ?_
  intro zp ze zs zm zb zt zc Q F hQ
  refine g_aload_n F 0 (dk dtX7_count_0 0 rfl) rfl ?_
  refine g_iconst F (nI 0) (dk dtX7_count_0 1 rfl) (by decide) ?_
  refine g_put F fa_X7_56 (dk dtX7_count_0 2 rfl) (by decide) (cm0 D B _ _) (Nat.le_of_ble_eq_true rfl) rfl rfl ((cm0 D B _ _).trans st_Mod_0) ?_
  refine g_mem (up2_same h0) ?_
  refine g_iload_n F 1 (dk dtX7_count_0 3 rfl) rfl ?_
  refine g_iconst F (nI 0) (dk dtX7_count_0 4 rfl) (by decide) ?_
  refine g_iconst F (nI 2) (dk dtX7_count_0 5 rfl) (by decide) ?_
  refine g_callSi F (As := [.int (nI 4), .int (nI 0), .int (nI 2)]) (st := []) cs_X7_60 (dk dtX7_count_0 6 rfl) rfl rfl (Nat.le_of_ble_eq_true rfl) ⟨by decide, by decide⟩ (k_X7_inR l D B _ _ _ 2 (by decide)) (fun r8 T8 M8 hp8 => ?_)
  obtain ⟨e1, e2, e3⟩ := hp8
  replace e1 := e1.symm; replace e2 := e2.symm; replace e3 := e3.symm; subst e1; subst e2; subst e3
  refine g_if_eqB F 23 (dk dtX7_count_0 7 rfl) (by decide) (fun c11 => ?_) (fun c11 => ?_)
  · -- taken at 11
    refine g_iload_n F 1 (dk dtX7_count_0 13 rfl) rfl ?_
    refine g_iconst F (nI 3) (dk dtX7_count_0 14 rfl) (by decide) ?_
    refine g_icmp_neN F 35 (dk dtX7_count_0 15 rfl) (by decide) (by decide) (by decide) (fun _ => ?_) (fun c => absurd c (by decide))
    refine g_iload_n F 1 (dk dtX7_count_0 19 rfl) rfl ?_
    refine g_iconst F (nI 4) (dk dtX7_count_0 20 rfl) (by decide) ?_
    refine g_icmp_neN F 47 (dk dtX7_count_0 21 rfl) (by decide) (by decide) (by decide) (fun c => absurd c (by decide)) (fun _ => ?_)
    refine g_aload_n F 0 (dk dtX7_count_0 22 rfl) rfl ?_
    refine g_get F fa_X7_64 (dk dtX7_count_0 23 rfl) (by decide) (cm0 D B _ _) rfl ?_
    refine g_goto F 48 (dk dtX7_count_0 24 rfl) (by decide) ?_
    refine g_iret (F := F) hQ (dk dtX7_count_0 26 rfl) ?_
    exact ⟨rfl, rfl, rfl⟩
  · -- not taken at 11
    exact absurd c11 (by decide)
set_option maxRecDepth 100000 in
set_option maxHeartbeats 4000000 in
theorem k_X7_count_bad (l : Launch) (D : DX) (B : Nat) (T : Int64) (M : Mem) (h0 : M 0 0 = nI 0) (w : Int32) (hb : ¬ inR w 5) : Ci l D B 14 (celM D B) yX7_count cX7_count 2 (some .int) 1 [.ref (B + 0), .int w] T M (fun rz T1 M1 => rz = (-1) ∧ T1 = T ∧ M1 = M) := by
  refine g_entryi (L := [(0, .ref (B + 0)), (1, .int w)]) (by decide) (Nat.le_of_ble_eq_true rfl) rfl ?_
  intro zp ze zs zm zb zt zc Q F hQ
  refine g_aload_n F 0 (dk dtX7_count_0 0 rfl) rfl ?_
  refine g_iconst F (nI 0) (dk dtX7_count_0 1 rfl) (by decide) ?_
  refine g_put F fa_X7_56 (dk dtX7_count_0 2 rfl) (by decide) (cm0 D B _ _) (Nat.le_of_ble_eq_true rfl) rfl rfl ((cm0 D B _ _).trans st_Mod_0) ?_
  refine g_mem (up2_same h0) ?_
  refine g_iload_n F 1 (dk dtX7_count_0 3 rfl) rfl ?_
  refine g_iconst F (nI 0) (dk dtX7_count_0 4 rfl) (by decide) ?_
  refine g_iconst F (nI 2) (dk dtX7_count_0 5 rfl) (by decide) ?_
  refine g_callSi F (As := [.int w, .int (nI 0), .int (nI 2)]) (st := []) cs_X7_60 (dk dtX7_count_0 6 rfl) rfl rfl (Nat.le_of_ble_eq_true rfl) ⟨by decide, by decide⟩ (k_X7_inR l D B _ _ _ 2 (by decide)) (fun r8 T8 M8 hp8 => ?_)
  obtain ⟨e1, e2, e3⟩ := hp8
  replace e1 := e1.symm; replace e2 := e2.symm; replace e3 := e3.symm; subst e1; subst e2; subst e3
  refine g_if_eqB F 23 (dk dtX7_count_0 7 rfl) (by decide) (fun c11 => ?_) (fun c11 => ?_)
  · -- taken at 11
    refine g_iload_n F 1 (dk dtX7_count_0 13 rfl) rfl ?_
    refine g_iconst F (nI 3) (dk dtX7_count_0 14 rfl) (by decide) ?_
    refine g_icmp_ne F 35 (dk dtX7_count_0 15 rfl) (by decide) (fun c25 => ?_) (fun c25 => ?_)
    · -- taken at 25
      refine g_iload_n F 1 (dk dtX7_count_0 19 rfl) rfl ?_
      refine g_iconst F (nI 4) (dk dtX7_count_0 20 rfl) (by decide) ?_
      refine g_icmp_ne F 47 (dk dtX7_count_0 21 rfl) (by decide) (fun c37 => ?_) (fun c37 => ?_)
      · -- taken at 37
        refine g_iconst F (-1) (dk dtX7_count_0 25 rfl) (by decide) ?_
        refine g_iret (F := F) hQ (dk dtX7_count_0 26 rfl) ?_
        exact ⟨rfl, rfl, rfl⟩
      · -- not taken at 37
        exact absurd (show inR w 5 by rw [c37]; decide) hb
    · -- not taken at 25
      exact absurd (show inR w 5 by rw [c25]; decide) hb
  · -- not taken at 11
    exact absurd ⟨c11.1, fun h => c11.2 (Int32.le_trans (by decide) h)⟩ hb
set_option maxRecDepth 100000 in
set_option maxHeartbeats 4000000 in
theorem k_X7_rate_0 (l : Launch) (D : DX) (B : Nat) (T : Int64) (M : Mem) (h0 : M 0 0 = nI 0) (P : Nat) (hP : M 2 2 = nI P) (hP5 : P ≤ 5) (p : Nat) (hp : p < P) : Ci l D B 14 (celM D B) yX7_rate cX7_rate 6 (some .int) 2 [.ref (B + 0), .int (nI 0), .int (nI p)] T M (fun r T1 M1 => r = M 3 p ∧ T1 = T + 1 ∧ M1 = M) := by
  refine g_entryi (L := [(0, .ref (B + 0)), (1, .int (nI 0)), (2, .int (nI p))]) (by decide) (Nat.le_of_ble_eq_true rfl) rfl ?_
  intro zp ze zs zm zb zt zc Q F hQ
  refine g_aload_n F 0 (dk dtX7_rate_0 0 rfl) rfl ?_
  refine g_iconst F (nI 0) (dk dtX7_rate_0 1 rfl) (by decide) ?_
  refine g_put F fa_X7_56 (dk dtX7_rate_0 2 rfl) (by decide) (cm0 D B _ _) (Nat.le_of_ble_eq_true rfl) rfl rfl ((cm0 D B _ _).trans st_Mod_0) ?_
  refine g_mem (up2_same h0) ?_
  refine g_iload_n F 1 (dk dtX7_rate_0 3 rfl) rfl ?_
  refine g_iconst F (nI 0) (dk dtX7_rate_0 4 rfl) (by decide) ?_
  refine g_iconst F (nI 5) (dk dtX7_rate_0 5 rfl) (by decide) ?_
  refine g_callSi F (As := [.int (nI 0), .int (nI 0), .int (nI 5)]) (st := []) cs_X7_60 (dk dtX7_rate_0 6 rfl) rfl rfl (Nat.le_of_ble_eq_true rfl) ⟨by decide, by decide⟩ (k_X7_inR l D B _ _ _ 5 (by decide)) (fun r8 T8 M8 hp8 => ?_)
  obtain ⟨e1, e2, e3⟩ := hp8
  replace e1 := e1.symm; replace e2 := e2.symm; replace e3 := e3.symm; subst e1; subst e2; subst e3
  refine g_if_eqB F 22 (dk dtX7_rate_0 7 rfl) (by decide) (fun c => absurd (inR_nI (by omega)) c) (fun _ => ?_)
  refine g_aload_n F 0 (dk dtX7_rate_0 8 rfl) rfl ?_
  refine g_iload_n F 2 (dk dtX7_rate_0 9 rfl) rfl ?_
  refine g_callVi F (As := [.int (nI p)]) (st := []) cv_X7_129 (dk dtX7_rate_0 10 rfl) (by decide) (cm0 D B _ _) rfl rfl (Nat.le_of_ble_eq_true rfl) ⟨by decide, by decide⟩ (k_X7_isOne l D B _ _ _ P hP (by omega)) (fun r16 T16 M16 hp16 => ?_)
  obtain ⟨e1, e2, e3⟩ := hp16
  replace e1 := e1.symm; replace e2 := e2.symm; replace e3 := e3.symm; subst e1; subst e2; subst e3
  refine g_if_neB F 25 (dk dtX7_rate_0 11 rfl) (by decide) (fun _ => ?_) (fun c => absurd (inR_nI (by omega)) c)
  refine g_aload_n F 0 (dk dtX7_rate_0 14 rfl) rfl ?_
  refine g_get F fa_X7_16 (dk dtX7_rate_0 15 rfl) (by decide) (cm0 D B _ _) rfl ?_
  refine g_iload_n F 2 (dk dtX7_rate_0 16 rfl) rfl ?_
  refine g_iald F (p) (dk dtX7_rate_0 17 rfl) (by decide) (cm3 D B _ _) (by omega) (by decide) ?_
  refine g_istore_n F [(3, .int (M 3 p)), (0, .ref (B + 0)), (1, .int (nI 0)), (2, .int (nI p))] (dk dtX7_rate_0 18 rfl) (by decide) rfl ?_
  refine g_iload_n F 0 (dk dtX7_rate_0 19 rfl) rfl ?_
  refine g_aload_n F 1 (dk dtX7_rate_0 20 rfl) rfl ?_
  refine g_get F fa_X7_22 (dk dtX7_rate_0 21 rfl) (by decide) (cm0 D B _ _) rfl ?_
  refine g_bipush F (nI 25) (dk dtX7_rate_0 22 rfl) (by decide) ?_
  refine g_iload_n F 3 (dk dtX7_rate_0 23 rfl) rfl ?_
  refine g_iaddN F (dk dtX7_rate_0 24 rfl) ?_
  refine g_iald F (25 + p) (dk dtX7_rate_0 25 rfl) (by decide) (cm5 D B _ _) (by omega) (by decide) ?_
  refine g_iadd F (dk dtX7_rate_0 26 rfl) ?_
  refine g_istore F [(4, .int ((M 3 p) + (M 5 (25 + p)))), (3, .int (M 3 p)), (0, .ref (B + 0)), (1, .int (nI 0)), (2, .int (nI p))] (dk dtX7_rate_0 27 rfl) (by decide) rfl ?_
  refine g_iload_n F 1 (dk dtX7_rate_0 28 rfl) rfl ?_
  refine g_aload_n F 2 (dk dtX7_rate_0 29 rfl) rfl ?_
  refine g_aload_n F 2 (dk dtX7_rate_0 30 rfl) rfl ?_
  refine g_get F fa_X7_22 (dk dtX7_rate_0 31 rfl) (by decide) (cm0 D B _ _) rfl ?_
  refine g_iload_n F 4 (dk dtX7_rate_0 32 rfl) rfl ?_
  refine g_callVi F (As := [.ref (B + 5), .int (nI p)]) (st := [.int (M 3 p)]) cv_X7_125 (dk dtX7_rate_0 33 rfl) (by decide) (cm0 D B _ _) rfl rfl (Nat.le_of_ble_eq_true rfl) ⟨by decide, by decide⟩ (k_X7_allSeen l D B _ _ 5 (isRow5 D B) _ (by omega)) (fun r52 T52 M52 hp52 => ?_)
  obtain ⟨e1, e2, e3⟩ := hp52
  replace e1 := e1.symm; replace e2 := e2.symm; replace e3 := e3.symm; subst e1; subst e2; subst e3
  refine g_isub F (dk dtX7_rate_0 34 rfl) ?_
  refine g_istore F [(5, .int ((M 3 p) - (aS (M 5) p))), (4, .int ((M 3 p) + (M 5 (25 + p)))), (3, .int (M 3 p)), (0, .ref (B + 0)), (1, .int (nI 0)), (2, .int (nI p))] (dk dtX7_rate_0 35 rfl) (by decide) rfl ?_
  refine g_aload_n F 3 (dk dtX7_rate_0 36 rfl) rfl ?_
  refine g_dup F (dk dtX7_rate_0 37 rfl) rfl ?_
  refine g_get F fa_X7_183 (dk dtX7_rate_0 38 rfl) (by decide) (cm0 D B _ _) rfl ?_
  refine g_iload_n F 4 (dk dtX7_rate_0 39 rfl) rfl ?_
  refine g_if_neN F 71 (dk dtX7_rate_0 40 rfl) (by decide) (by decide) (fun c => absurd c (by decide)) (fun _ => ?_)
  refine g_lconst F 1 (dk dtX7_rate_0 41 rfl) (by decide) ?_
  refine g_goto F 118 (dk dtX7_rate_0 42 rfl) (by decide) ?_
  refine g_ladd F (dk dtX7_rate_1 4 rfl) ?_
  refine g_putG F (T1 := T + 1) (M 0) fa_X7_183 (dk dtX7_rate_1 5 rfl) (by decide) (cm0 D B _ _) (Nat.le_of_ble_eq_true rfl) rfl rfl (cm0 D B _ _) (fun i hi r => celM_T hi r) ?_
  refine g_mem (setR_same _ _) ?_
  refine g_iload_n F 4 (dk dtX7_rate_1 6 rfl) rfl ?_
  refine g_if_neN F 130 (dk dtX7_rate_1 7 rfl) (by decide) (by decide) (fun c => absurd c (by decide)) (fun _ => ?_)
  refine g_iload_n F 2 (dk dtX7_rate_1 8 rfl) rfl ?_
  refine g_goto F 184 (dk dtX7_rate_1 9 rfl) (by decide) ?_
  refine g_iret (F := F) hQ (dk dtX7_rate_1 42 rfl) ?_
  exact ⟨rfl, rfl, rfl⟩
set_option maxRecDepth 100000 in
set_option maxHeartbeats 4000000 in
theorem k_X7_rate_1 (l : Launch) (D : DX) (B : Nat) (T : Int64) (M : Mem) (h0 : M 0 0 = nI 0) (P : Nat) (hP : M 2 2 = nI P) (hP5 : P ≤ 5) (p : Nat) (hp : p < P) : Ci l D B 14 (celM D B) yX7_rate cX7_rate 6 (some .int) 2 [.ref (B + 0), .int (nI 1), .int (nI p)] T M (fun r T1 M1 => r = M 3 p + M 5 (25 + p) ∧ T1 = T + 11 ∧ M1 = M) := by
  refine g_entryi (L := [(0, .ref (B + 0)), (1, .int (nI 1)), (2, .int (nI p))]) (by decide) (Nat.le_of_ble_eq_true rfl) rfl ?_
  intro zp ze zs zm zb zt zc Q F hQ
  refine g_aload_n F 0 (dk dtX7_rate_0 0 rfl) rfl ?_
  refine g_iconst F (nI 0) (dk dtX7_rate_0 1 rfl) (by decide) ?_
  refine g_put F fa_X7_56 (dk dtX7_rate_0 2 rfl) (by decide) (cm0 D B _ _) (Nat.le_of_ble_eq_true rfl) rfl rfl ((cm0 D B _ _).trans st_Mod_0) ?_
  refine g_mem (up2_same h0) ?_
  refine g_iload_n F 1 (dk dtX7_rate_0 3 rfl) rfl ?_
  refine g_iconst F (nI 0) (dk dtX7_rate_0 4 rfl) (by decide) ?_
  refine g_iconst F (nI 5) (dk dtX7_rate_0 5 rfl) (by decide) ?_
  refine g_callSi F (As := [.int (nI 1), .int (nI 0), .int (nI 5)]) (st := []) cs_X7_60 (dk dtX7_rate_0 6 rfl) rfl rfl (Nat.le_of_ble_eq_true rfl) ⟨by decide, by decide⟩ (k_X7_inR l D B _ _ _ 5 (by decide)) (fun r8 T8 M8 hp8 => ?_)
  obtain ⟨e1, e2, e3⟩ := hp8
  replace e1 := e1.symm; replace e2 := e2.symm; replace e3 := e3.symm; subst e1; subst e2; subst e3
  refine g_if_eqB F 22 (dk dtX7_rate_0 7 rfl) (by decide) (fun c => absurd (inR_nI (by omega)) c) (fun _ => ?_)
  refine g_aload_n F 0 (dk dtX7_rate_0 8 rfl) rfl ?_
  refine g_iload_n F 2 (dk dtX7_rate_0 9 rfl) rfl ?_
  refine g_callVi F (As := [.int (nI p)]) (st := []) cv_X7_129 (dk dtX7_rate_0 10 rfl) (by decide) (cm0 D B _ _) rfl rfl (Nat.le_of_ble_eq_true rfl) ⟨by decide, by decide⟩ (k_X7_isOne l D B _ _ _ P hP (by omega)) (fun r16 T16 M16 hp16 => ?_)
  obtain ⟨e1, e2, e3⟩ := hp16
  replace e1 := e1.symm; replace e2 := e2.symm; replace e3 := e3.symm; subst e1; subst e2; subst e3
  refine g_if_neB F 25 (dk dtX7_rate_0 11 rfl) (by decide) (fun _ => ?_) (fun c => absurd (inR_nI (by omega)) c)
  refine g_aload_n F 0 (dk dtX7_rate_0 14 rfl) rfl ?_
  refine g_get F fa_X7_16 (dk dtX7_rate_0 15 rfl) (by decide) (cm0 D B _ _) rfl ?_
  refine g_iload_n F 2 (dk dtX7_rate_0 16 rfl) rfl ?_
  refine g_iald F (p) (dk dtX7_rate_0 17 rfl) (by decide) (cm3 D B _ _) (by omega) (by decide) ?_
  refine g_istore_n F [(3, .int (M 3 p)), (0, .ref (B + 0)), (1, .int (nI 1)), (2, .int (nI p))] (dk dtX7_rate_0 18 rfl) (by decide) rfl ?_
  refine g_iload_n F 0 (dk dtX7_rate_0 19 rfl) rfl ?_
  refine g_aload_n F 1 (dk dtX7_rate_0 20 rfl) rfl ?_
  refine g_get F fa_X7_22 (dk dtX7_rate_0 21 rfl) (by decide) (cm0 D B _ _) rfl ?_
  refine g_bipush F (nI 25) (dk dtX7_rate_0 22 rfl) (by decide) ?_
  refine g_iload_n F 3 (dk dtX7_rate_0 23 rfl) rfl ?_
  refine g_iaddN F (dk dtX7_rate_0 24 rfl) ?_
  refine g_iald F (25 + p) (dk dtX7_rate_0 25 rfl) (by decide) (cm5 D B _ _) (by omega) (by decide) ?_
  refine g_iadd F (dk dtX7_rate_0 26 rfl) ?_
  refine g_istore F [(4, .int ((M 3 p) + (M 5 (25 + p)))), (3, .int (M 3 p)), (0, .ref (B + 0)), (1, .int (nI 1)), (2, .int (nI p))] (dk dtX7_rate_0 27 rfl) (by decide) rfl ?_
  refine g_iload_n F 1 (dk dtX7_rate_0 28 rfl) rfl ?_
  refine g_aload_n F 2 (dk dtX7_rate_0 29 rfl) rfl ?_
  refine g_aload_n F 2 (dk dtX7_rate_0 30 rfl) rfl ?_
  refine g_get F fa_X7_22 (dk dtX7_rate_0 31 rfl) (by decide) (cm0 D B _ _) rfl ?_
  refine g_iload_n F 4 (dk dtX7_rate_0 32 rfl) rfl ?_
  refine g_callVi F (As := [.ref (B + 5), .int (nI p)]) (st := [.int (M 3 p)]) cv_X7_125 (dk dtX7_rate_0 33 rfl) (by decide) (cm0 D B _ _) rfl rfl (Nat.le_of_ble_eq_true rfl) ⟨by decide, by decide⟩ (k_X7_allSeen l D B _ _ 5 (isRow5 D B) _ (by omega)) (fun r52 T52 M52 hp52 => ?_)
  obtain ⟨e1, e2, e3⟩ := hp52
  replace e1 := e1.symm; replace e2 := e2.symm; replace e3 := e3.symm; subst e1; subst e2; subst e3
  refine g_isub F (dk dtX7_rate_0 34 rfl) ?_
  refine g_istore F [(5, .int ((M 3 p) - (aS (M 5) p))), (4, .int ((M 3 p) + (M 5 (25 + p)))), (3, .int (M 3 p)), (0, .ref (B + 0)), (1, .int (nI 1)), (2, .int (nI p))] (dk dtX7_rate_0 35 rfl) (by decide) rfl ?_
  refine g_aload_n F 3 (dk dtX7_rate_0 36 rfl) rfl ?_
  refine g_dup F (dk dtX7_rate_0 37 rfl) rfl ?_
  refine g_get F fa_X7_183 (dk dtX7_rate_0 38 rfl) (by decide) (cm0 D B _ _) rfl ?_
  refine g_iload_n F 4 (dk dtX7_rate_0 39 rfl) rfl ?_
  refine g_if_neN F 71 (dk dtX7_rate_0 40 rfl) (by decide) (by decide) (fun _ => ?_) (fun c => absurd c (by decide))
  refine g_iload_n F 4 (dk dtX7_rate_0 43 rfl) rfl ?_
  refine g_iconst F (nI 1) (dk dtX7_rate_0 44 rfl) (by decide) ?_
  refine g_icmp_neN F 82 (dk dtX7_rate_0 45 rfl) (by decide) (by decide) (by decide) (fun c => absurd c (by decide)) (fun _ => ?_)
  refine g_ldc2 F (dk dtX7_rate_0 46 rfl) (tw4 120 rfl) ?_
  refine g_goto F 118 (dk dtX7_rate_0 47 rfl) (by decide) ?_
  refine g_ladd F (dk dtX7_rate_1 4 rfl) ?_
  refine g_putG F (T1 := T + 11) (M 0) fa_X7_183 (dk dtX7_rate_1 5 rfl) (by decide) (cm0 D B _ _) (Nat.le_of_ble_eq_true rfl) rfl rfl (cm0 D B _ _) (fun i hi r => celM_T hi r) ?_
  refine g_mem (setR_same _ _) ?_
  refine g_iload_n F 4 (dk dtX7_rate_1 6 rfl) rfl ?_
  refine g_if_neN F 130 (dk dtX7_rate_1 7 rfl) (by decide) (by decide) (fun _ => ?_) (fun c => absurd c (by decide))
  refine g_iload_n F 4 (dk dtX7_rate_1 10 rfl) rfl ?_
  refine g_iconst F (nI 1) (dk dtX7_rate_1 11 rfl) (by decide) ?_
  refine g_icmp_neN F 140 (dk dtX7_rate_1 12 rfl) (by decide) (by decide) (by decide) (fun c => absurd c (by decide)) (fun _ => ?_)
  refine g_iload F 1 (dk dtX7_rate_1 13 rfl) rfl ?_
  refine g_goto F 184 (dk dtX7_rate_1 14 rfl) (by decide) ?_
  refine g_iret (F := F) hQ (dk dtX7_rate_1 42 rfl) ?_
  exact ⟨rfl, rfl, rfl⟩
set_option maxRecDepth 100000 in
set_option maxHeartbeats 4000000 in
theorem k_X7_rate_2 (l : Launch) (D : DX) (B : Nat) (T : Int64) (M : Mem) (h0 : M 0 0 = nI 0) (P : Nat) (hP : M 2 2 = nI P) (hP5 : P ≤ 5) (p : Nat) (hp : p < P) : Ci l D B 14 (celM D B) yX7_rate cX7_rate 6 (some .int) 2 [.ref (B + 0), .int (nI 2), .int (nI p)] T M (fun r T1 M1 => r = M 3 p - aS (M 5) p ∧ T1 = T + 101 ∧ M1 = M) := by
  refine g_entryi (L := [(0, .ref (B + 0)), (1, .int (nI 2)), (2, .int (nI p))]) (by decide) (Nat.le_of_ble_eq_true rfl) rfl ?_
  intro zp ze zs zm zb zt zc Q F hQ
  refine g_aload_n F 0 (dk dtX7_rate_0 0 rfl) rfl ?_
  refine g_iconst F (nI 0) (dk dtX7_rate_0 1 rfl) (by decide) ?_
  refine g_put F fa_X7_56 (dk dtX7_rate_0 2 rfl) (by decide) (cm0 D B _ _) (Nat.le_of_ble_eq_true rfl) rfl rfl ((cm0 D B _ _).trans st_Mod_0) ?_
  refine g_mem (up2_same h0) ?_
  refine g_iload_n F 1 (dk dtX7_rate_0 3 rfl) rfl ?_
  refine g_iconst F (nI 0) (dk dtX7_rate_0 4 rfl) (by decide) ?_
  refine g_iconst F (nI 5) (dk dtX7_rate_0 5 rfl) (by decide) ?_
  refine g_callSi F (As := [.int (nI 2), .int (nI 0), .int (nI 5)]) (st := []) cs_X7_60 (dk dtX7_rate_0 6 rfl) rfl rfl (Nat.le_of_ble_eq_true rfl) ⟨by decide, by decide⟩ (k_X7_inR l D B _ _ _ 5 (by decide)) (fun r8 T8 M8 hp8 => ?_)
  obtain ⟨e1, e2, e3⟩ := hp8
  replace e1 := e1.symm; replace e2 := e2.symm; replace e3 := e3.symm; subst e1; subst e2; subst e3
  refine g_if_eqB F 22 (dk dtX7_rate_0 7 rfl) (by decide) (fun c => absurd (inR_nI (by omega)) c) (fun _ => ?_)
  refine g_aload_n F 0 (dk dtX7_rate_0 8 rfl) rfl ?_
  refine g_iload_n F 2 (dk dtX7_rate_0 9 rfl) rfl ?_
  refine g_callVi F (As := [.int (nI p)]) (st := []) cv_X7_129 (dk dtX7_rate_0 10 rfl) (by decide) (cm0 D B _ _) rfl rfl (Nat.le_of_ble_eq_true rfl) ⟨by decide, by decide⟩ (k_X7_isOne l D B _ _ _ P hP (by omega)) (fun r16 T16 M16 hp16 => ?_)
  obtain ⟨e1, e2, e3⟩ := hp16
  replace e1 := e1.symm; replace e2 := e2.symm; replace e3 := e3.symm; subst e1; subst e2; subst e3
  refine g_if_neB F 25 (dk dtX7_rate_0 11 rfl) (by decide) (fun _ => ?_) (fun c => absurd (inR_nI (by omega)) c)
  refine g_aload_n F 0 (dk dtX7_rate_0 14 rfl) rfl ?_
  refine g_get F fa_X7_16 (dk dtX7_rate_0 15 rfl) (by decide) (cm0 D B _ _) rfl ?_
  refine g_iload_n F 2 (dk dtX7_rate_0 16 rfl) rfl ?_
  refine g_iald F (p) (dk dtX7_rate_0 17 rfl) (by decide) (cm3 D B _ _) (by omega) (by decide) ?_
  refine g_istore_n F [(3, .int (M 3 p)), (0, .ref (B + 0)), (1, .int (nI 2)), (2, .int (nI p))] (dk dtX7_rate_0 18 rfl) (by decide) rfl ?_
  refine g_iload_n F 0 (dk dtX7_rate_0 19 rfl) rfl ?_
  refine g_aload_n F 1 (dk dtX7_rate_0 20 rfl) rfl ?_
  refine g_get F fa_X7_22 (dk dtX7_rate_0 21 rfl) (by decide) (cm0 D B _ _) rfl ?_
  refine g_bipush F (nI 25) (dk dtX7_rate_0 22 rfl) (by decide) ?_
  refine g_iload_n F 3 (dk dtX7_rate_0 23 rfl) rfl ?_
  refine g_iaddN F (dk dtX7_rate_0 24 rfl) ?_
  refine g_iald F (25 + p) (dk dtX7_rate_0 25 rfl) (by decide) (cm5 D B _ _) (by omega) (by decide) ?_
  refine g_iadd F (dk dtX7_rate_0 26 rfl) ?_
  refine g_istore F [(4, .int ((M 3 p) + (M 5 (25 + p)))), (3, .int (M 3 p)), (0, .ref (B + 0)), (1, .int (nI 2)), (2, .int (nI p))] (dk dtX7_rate_0 27 rfl) (by decide) rfl ?_
  refine g_iload_n F 1 (dk dtX7_rate_0 28 rfl) rfl ?_
  refine g_aload_n F 2 (dk dtX7_rate_0 29 rfl) rfl ?_
  refine g_aload_n F 2 (dk dtX7_rate_0 30 rfl) rfl ?_
  refine g_get F fa_X7_22 (dk dtX7_rate_0 31 rfl) (by decide) (cm0 D B _ _) rfl ?_
  refine g_iload_n F 4 (dk dtX7_rate_0 32 rfl) rfl ?_
  refine g_callVi F (As := [.ref (B + 5), .int (nI p)]) (st := [.int (M 3 p)]) cv_X7_125 (dk dtX7_rate_0 33 rfl) (by decide) (cm0 D B _ _) rfl rfl (Nat.le_of_ble_eq_true rfl) ⟨by decide, by decide⟩ (k_X7_allSeen l D B _ _ 5 (isRow5 D B) _ (by omega)) (fun r52 T52 M52 hp52 => ?_)
  obtain ⟨e1, e2, e3⟩ := hp52
  replace e1 := e1.symm; replace e2 := e2.symm; replace e3 := e3.symm; subst e1; subst e2; subst e3
  refine g_isub F (dk dtX7_rate_0 34 rfl) ?_
  refine g_istore F [(5, .int ((M 3 p) - (aS (M 5) p))), (4, .int ((M 3 p) + (M 5 (25 + p)))), (3, .int (M 3 p)), (0, .ref (B + 0)), (1, .int (nI 2)), (2, .int (nI p))] (dk dtX7_rate_0 35 rfl) (by decide) rfl ?_
  refine g_aload_n F 3 (dk dtX7_rate_0 36 rfl) rfl ?_
  refine g_dup F (dk dtX7_rate_0 37 rfl) rfl ?_
  refine g_get F fa_X7_183 (dk dtX7_rate_0 38 rfl) (by decide) (cm0 D B _ _) rfl ?_
  refine g_iload_n F 4 (dk dtX7_rate_0 39 rfl) rfl ?_
  refine g_if_neN F 71 (dk dtX7_rate_0 40 rfl) (by decide) (by decide) (fun _ => ?_) (fun c => absurd c (by decide))
  refine g_iload_n F 4 (dk dtX7_rate_0 43 rfl) rfl ?_
  refine g_iconst F (nI 1) (dk dtX7_rate_0 44 rfl) (by decide) ?_
  refine g_icmp_neN F 82 (dk dtX7_rate_0 45 rfl) (by decide) (by decide) (by decide) (fun _ => ?_) (fun c => absurd c (by decide))
  refine g_iload_n F 4 (dk dtX7_rate_0 48 rfl) rfl ?_
  refine g_iconst F (nI 2) (dk dtX7_rate_0 49 rfl) (by decide) ?_
  refine g_icmp_neN F 93 (dk dtX7_rate_0 50 rfl) (by decide) (by decide) (by decide) (fun c => absurd c (by decide)) (fun _ => ?_)
  refine g_ldc2 F (dk dtX7_rate_0 51 rfl) (tw4 121 rfl) ?_
  refine g_goto F 118 (dk dtX7_rate_0 52 rfl) (by decide) ?_
  refine g_ladd F (dk dtX7_rate_1 4 rfl) ?_
  refine g_putG F (T1 := T + 101) (M 0) fa_X7_183 (dk dtX7_rate_1 5 rfl) (by decide) (cm0 D B _ _) (Nat.le_of_ble_eq_true rfl) rfl rfl (cm0 D B _ _) (fun i hi r => celM_T hi r) ?_
  refine g_mem (setR_same _ _) ?_
  refine g_iload_n F 4 (dk dtX7_rate_1 6 rfl) rfl ?_
  refine g_if_neN F 130 (dk dtX7_rate_1 7 rfl) (by decide) (by decide) (fun _ => ?_) (fun c => absurd c (by decide))
  refine g_iload_n F 4 (dk dtX7_rate_1 10 rfl) rfl ?_
  refine g_iconst F (nI 1) (dk dtX7_rate_1 11 rfl) (by decide) ?_
  refine g_icmp_neN F 140 (dk dtX7_rate_1 12 rfl) (by decide) (by decide) (by decide) (fun _ => ?_) (fun c => absurd c (by decide))
  refine g_iload_n F 4 (dk dtX7_rate_1 15 rfl) rfl ?_
  refine g_iconst F (nI 2) (dk dtX7_rate_1 16 rfl) (by decide) ?_
  refine g_icmp_neN F 150 (dk dtX7_rate_1 17 rfl) (by decide) (by decide) (by decide) (fun c => absurd c (by decide)) (fun _ => ?_)
  refine g_iload F 0 (dk dtX7_rate_1 18 rfl) rfl ?_
  refine g_goto F 184 (dk dtX7_rate_1 19 rfl) (by decide) ?_
  refine g_iret (F := F) hQ (dk dtX7_rate_1 42 rfl) ?_
  exact ⟨rfl, rfl, rfl⟩
set_option maxRecDepth 100000 in
set_option maxHeartbeats 4000000 in
theorem k_X7_rate_3 (l : Launch) (D : DX) (B : Nat) (T : Int64) (M : Mem) (h0 : M 0 0 = nI 0) (P : Nat) (hP : M 2 2 = nI P) (hP5 : P ≤ 5) (p : Nat) (hp : p < P) : Ci l D B 14 (celM D B) yX7_rate cX7_rate 6 (some .int) 2 [.ref (B + 0), .int (nI 3), .int (nI p)] T M (fun r T1 M1 => r = nI 2 * (M 3 p + M 5 (25 + p)) ∧ T1 = T + 1011 ∧ M1 = M) := by
  refine g_entryi (L := [(0, .ref (B + 0)), (1, .int (nI 3)), (2, .int (nI p))]) (by decide) (Nat.le_of_ble_eq_true rfl) rfl ?_
  intro zp ze zs zm zb zt zc Q F hQ
  refine g_aload_n F 0 (dk dtX7_rate_0 0 rfl) rfl ?_
  refine g_iconst F (nI 0) (dk dtX7_rate_0 1 rfl) (by decide) ?_
  refine g_put F fa_X7_56 (dk dtX7_rate_0 2 rfl) (by decide) (cm0 D B _ _) (Nat.le_of_ble_eq_true rfl) rfl rfl ((cm0 D B _ _).trans st_Mod_0) ?_
  refine g_mem (up2_same h0) ?_
  refine g_iload_n F 1 (dk dtX7_rate_0 3 rfl) rfl ?_
  refine g_iconst F (nI 0) (dk dtX7_rate_0 4 rfl) (by decide) ?_
  refine g_iconst F (nI 5) (dk dtX7_rate_0 5 rfl) (by decide) ?_
  refine g_callSi F (As := [.int (nI 3), .int (nI 0), .int (nI 5)]) (st := []) cs_X7_60 (dk dtX7_rate_0 6 rfl) rfl rfl (Nat.le_of_ble_eq_true rfl) ⟨by decide, by decide⟩ (k_X7_inR l D B _ _ _ 5 (by decide)) (fun r8 T8 M8 hp8 => ?_)
  obtain ⟨e1, e2, e3⟩ := hp8
  replace e1 := e1.symm; replace e2 := e2.symm; replace e3 := e3.symm; subst e1; subst e2; subst e3
  refine g_if_eqB F 22 (dk dtX7_rate_0 7 rfl) (by decide) (fun c => absurd (inR_nI (by omega)) c) (fun _ => ?_)
  refine g_aload_n F 0 (dk dtX7_rate_0 8 rfl) rfl ?_
  refine g_iload_n F 2 (dk dtX7_rate_0 9 rfl) rfl ?_
  refine g_callVi F (As := [.int (nI p)]) (st := []) cv_X7_129 (dk dtX7_rate_0 10 rfl) (by decide) (cm0 D B _ _) rfl rfl (Nat.le_of_ble_eq_true rfl) ⟨by decide, by decide⟩ (k_X7_isOne l D B _ _ _ P hP (by omega)) (fun r16 T16 M16 hp16 => ?_)
  obtain ⟨e1, e2, e3⟩ := hp16
  replace e1 := e1.symm; replace e2 := e2.symm; replace e3 := e3.symm; subst e1; subst e2; subst e3
  refine g_if_neB F 25 (dk dtX7_rate_0 11 rfl) (by decide) (fun _ => ?_) (fun c => absurd (inR_nI (by omega)) c)
  refine g_aload_n F 0 (dk dtX7_rate_0 14 rfl) rfl ?_
  refine g_get F fa_X7_16 (dk dtX7_rate_0 15 rfl) (by decide) (cm0 D B _ _) rfl ?_
  refine g_iload_n F 2 (dk dtX7_rate_0 16 rfl) rfl ?_
  refine g_iald F (p) (dk dtX7_rate_0 17 rfl) (by decide) (cm3 D B _ _) (by omega) (by decide) ?_
  refine g_istore_n F [(3, .int (M 3 p)), (0, .ref (B + 0)), (1, .int (nI 3)), (2, .int (nI p))] (dk dtX7_rate_0 18 rfl) (by decide) rfl ?_
  refine g_iload_n F 0 (dk dtX7_rate_0 19 rfl) rfl ?_
  refine g_aload_n F 1 (dk dtX7_rate_0 20 rfl) rfl ?_
  refine g_get F fa_X7_22 (dk dtX7_rate_0 21 rfl) (by decide) (cm0 D B _ _) rfl ?_
  refine g_bipush F (nI 25) (dk dtX7_rate_0 22 rfl) (by decide) ?_
  refine g_iload_n F 3 (dk dtX7_rate_0 23 rfl) rfl ?_
  refine g_iaddN F (dk dtX7_rate_0 24 rfl) ?_
  refine g_iald F (25 + p) (dk dtX7_rate_0 25 rfl) (by decide) (cm5 D B _ _) (by omega) (by decide) ?_
  refine g_iadd F (dk dtX7_rate_0 26 rfl) ?_
  refine g_istore F [(4, .int ((M 3 p) + (M 5 (25 + p)))), (3, .int (M 3 p)), (0, .ref (B + 0)), (1, .int (nI 3)), (2, .int (nI p))] (dk dtX7_rate_0 27 rfl) (by decide) rfl ?_
  refine g_iload_n F 1 (dk dtX7_rate_0 28 rfl) rfl ?_
  refine g_aload_n F 2 (dk dtX7_rate_0 29 rfl) rfl ?_
  refine g_aload_n F 2 (dk dtX7_rate_0 30 rfl) rfl ?_
  refine g_get F fa_X7_22 (dk dtX7_rate_0 31 rfl) (by decide) (cm0 D B _ _) rfl ?_
  refine g_iload_n F 4 (dk dtX7_rate_0 32 rfl) rfl ?_
  refine g_callVi F (As := [.ref (B + 5), .int (nI p)]) (st := [.int (M 3 p)]) cv_X7_125 (dk dtX7_rate_0 33 rfl) (by decide) (cm0 D B _ _) rfl rfl (Nat.le_of_ble_eq_true rfl) ⟨by decide, by decide⟩ (k_X7_allSeen l D B _ _ 5 (isRow5 D B) _ (by omega)) (fun r52 T52 M52 hp52 => ?_)
  obtain ⟨e1, e2, e3⟩ := hp52
  replace e1 := e1.symm; replace e2 := e2.symm; replace e3 := e3.symm; subst e1; subst e2; subst e3
  refine g_isub F (dk dtX7_rate_0 34 rfl) ?_
  refine g_istore F [(5, .int ((M 3 p) - (aS (M 5) p))), (4, .int ((M 3 p) + (M 5 (25 + p)))), (3, .int (M 3 p)), (0, .ref (B + 0)), (1, .int (nI 3)), (2, .int (nI p))] (dk dtX7_rate_0 35 rfl) (by decide) rfl ?_
  refine g_aload_n F 3 (dk dtX7_rate_0 36 rfl) rfl ?_
  refine g_dup F (dk dtX7_rate_0 37 rfl) rfl ?_
  refine g_get F fa_X7_183 (dk dtX7_rate_0 38 rfl) (by decide) (cm0 D B _ _) rfl ?_
  refine g_iload_n F 4 (dk dtX7_rate_0 39 rfl) rfl ?_
  refine g_if_neN F 71 (dk dtX7_rate_0 40 rfl) (by decide) (by decide) (fun _ => ?_) (fun c => absurd c (by decide))
  refine g_iload_n F 4 (dk dtX7_rate_0 43 rfl) rfl ?_
  refine g_iconst F (nI 1) (dk dtX7_rate_0 44 rfl) (by decide) ?_
  refine g_icmp_neN F 82 (dk dtX7_rate_0 45 rfl) (by decide) (by decide) (by decide) (fun _ => ?_) (fun c => absurd c (by decide))
  refine g_iload_n F 4 (dk dtX7_rate_0 48 rfl) rfl ?_
  refine g_iconst F (nI 2) (dk dtX7_rate_0 49 rfl) (by decide) ?_
  refine g_icmp_neN F 93 (dk dtX7_rate_0 50 rfl) (by decide) (by decide) (by decide) (fun _ => ?_) (fun c => absurd c (by decide))
  refine g_iload_n F 4 (dk dtX7_rate_0 53 rfl) rfl ?_
  refine g_iconst F (nI 3) (dk dtX7_rate_0 54 rfl) (by decide) ?_
  refine g_icmp_neN F 104 (dk dtX7_rate_0 55 rfl) (by decide) (by decide) (by decide) (fun c => absurd c (by decide)) (fun _ => ?_)
  refine g_ldc2 F (dk dtX7_rate_0 56 rfl) (tw4 122 rfl) ?_
  refine g_goto F 118 (dk dtX7_rate_0 57 rfl) (by decide) ?_
  refine g_ladd F (dk dtX7_rate_1 4 rfl) ?_
  refine g_putG F (T1 := T + 1011) (M 0) fa_X7_183 (dk dtX7_rate_1 5 rfl) (by decide) (cm0 D B _ _) (Nat.le_of_ble_eq_true rfl) rfl rfl (cm0 D B _ _) (fun i hi r => celM_T hi r) ?_
  refine g_mem (setR_same _ _) ?_
  refine g_iload_n F 4 (dk dtX7_rate_1 6 rfl) rfl ?_
  refine g_if_neN F 130 (dk dtX7_rate_1 7 rfl) (by decide) (by decide) (fun _ => ?_) (fun c => absurd c (by decide))
  refine g_iload_n F 4 (dk dtX7_rate_1 10 rfl) rfl ?_
  refine g_iconst F (nI 1) (dk dtX7_rate_1 11 rfl) (by decide) ?_
  refine g_icmp_neN F 140 (dk dtX7_rate_1 12 rfl) (by decide) (by decide) (by decide) (fun _ => ?_) (fun c => absurd c (by decide))
  refine g_iload_n F 4 (dk dtX7_rate_1 15 rfl) rfl ?_
  refine g_iconst F (nI 2) (dk dtX7_rate_1 16 rfl) (by decide) ?_
  refine g_icmp_neN F 150 (dk dtX7_rate_1 17 rfl) (by decide) (by decide) (by decide) (fun _ => ?_) (fun c => absurd c (by decide))
  refine g_iload_n F 4 (dk dtX7_rate_1 20 rfl) rfl ?_
  refine g_iconst F (nI 3) (dk dtX7_rate_1 21 rfl) (by decide) ?_
  refine g_icmp_neN F 162 (dk dtX7_rate_1 22 rfl) (by decide) (by decide) (by decide) (fun c => absurd c (by decide)) (fun _ => ?_)
  refine g_iconst F (nI 2) (dk dtX7_rate_1 23 rfl) (by decide) ?_
  refine g_iload F 1 (dk dtX7_rate_1 24 rfl) rfl ?_
  refine g_imul F (dk dtX7_rate_1 25 rfl) ?_
  refine g_goto F 184 (dk dtX7_rate_1 26 rfl) (by decide) ?_
  refine g_iret (F := F) hQ (dk dtX7_rate_1 42 rfl) ?_
  exact ⟨rfl, rfl, rfl⟩
set_option maxRecDepth 100000 in
set_option maxHeartbeats 4000000 in
theorem k_X7_rate_4 (l : Launch) (D : DX) (B : Nat) (T : Int64) (M : Mem) (h0 : M 0 0 = nI 0) (P : Nat) (hP : M 2 2 = nI P) (hP5 : P ≤ 5) (p : Nat) (hp : p < P) : Ci l D B 14 (celM D B) yX7_rate cX7_rate 6 (some .int) 2 [.ref (B + 0), .int (nI 4), .int (nI p)] T M (fun r T1 M1 => r = M 3 p - aS (M 5) p + nI p ∧ T1 = T + 10101 ∧ M1 = M) := by
  refine g_entryi (L := [(0, .ref (B + 0)), (1, .int (nI 4)), (2, .int (nI p))]) (by decide) (Nat.le_of_ble_eq_true rfl) rfl ?_
  intro zp ze zs zm zb zt zc Q F hQ
  refine g_aload_n F 0 (dk dtX7_rate_0 0 rfl) rfl ?_
  refine g_iconst F (nI 0) (dk dtX7_rate_0 1 rfl) (by decide) ?_
  refine g_put F fa_X7_56 (dk dtX7_rate_0 2 rfl) (by decide) (cm0 D B _ _) (Nat.le_of_ble_eq_true rfl) rfl rfl ((cm0 D B _ _).trans st_Mod_0) ?_
  refine g_mem (up2_same h0) ?_
  refine g_iload_n F 1 (dk dtX7_rate_0 3 rfl) rfl ?_
  refine g_iconst F (nI 0) (dk dtX7_rate_0 4 rfl) (by decide) ?_
  refine g_iconst F (nI 5) (dk dtX7_rate_0 5 rfl) (by decide) ?_
  refine g_callSi F (As := [.int (nI 4), .int (nI 0), .int (nI 5)]) (st := []) cs_X7_60 (dk dtX7_rate_0 6 rfl) rfl rfl (Nat.le_of_ble_eq_true rfl) ⟨by decide, by decide⟩ (k_X7_inR l D B _ _ _ 5 (by decide)) (fun r8 T8 M8 hp8 => ?_)
  obtain ⟨e1, e2, e3⟩ := hp8
  replace e1 := e1.symm; replace e2 := e2.symm; replace e3 := e3.symm; subst e1; subst e2; subst e3
  refine g_if_eqB F 22 (dk dtX7_rate_0 7 rfl) (by decide) (fun c => absurd (inR_nI (by omega)) c) (fun _ => ?_)
  refine g_aload_n F 0 (dk dtX7_rate_0 8 rfl) rfl ?_
  refine g_iload_n F 2 (dk dtX7_rate_0 9 rfl) rfl ?_
  refine g_callVi F (As := [.int (nI p)]) (st := []) cv_X7_129 (dk dtX7_rate_0 10 rfl) (by decide) (cm0 D B _ _) rfl rfl (Nat.le_of_ble_eq_true rfl) ⟨by decide, by decide⟩ (k_X7_isOne l D B _ _ _ P hP (by omega)) (fun r16 T16 M16 hp16 => ?_)
  obtain ⟨e1, e2, e3⟩ := hp16
  replace e1 := e1.symm; replace e2 := e2.symm; replace e3 := e3.symm; subst e1; subst e2; subst e3
  refine g_if_neB F 25 (dk dtX7_rate_0 11 rfl) (by decide) (fun _ => ?_) (fun c => absurd (inR_nI (by omega)) c)
  refine g_aload_n F 0 (dk dtX7_rate_0 14 rfl) rfl ?_
  refine g_get F fa_X7_16 (dk dtX7_rate_0 15 rfl) (by decide) (cm0 D B _ _) rfl ?_
  refine g_iload_n F 2 (dk dtX7_rate_0 16 rfl) rfl ?_
  refine g_iald F (p) (dk dtX7_rate_0 17 rfl) (by decide) (cm3 D B _ _) (by omega) (by decide) ?_
  refine g_istore_n F [(3, .int (M 3 p)), (0, .ref (B + 0)), (1, .int (nI 4)), (2, .int (nI p))] (dk dtX7_rate_0 18 rfl) (by decide) rfl ?_
  refine g_iload_n F 0 (dk dtX7_rate_0 19 rfl) rfl ?_
  refine g_aload_n F 1 (dk dtX7_rate_0 20 rfl) rfl ?_
  refine g_get F fa_X7_22 (dk dtX7_rate_0 21 rfl) (by decide) (cm0 D B _ _) rfl ?_
  refine g_bipush F (nI 25) (dk dtX7_rate_0 22 rfl) (by decide) ?_
  refine g_iload_n F 3 (dk dtX7_rate_0 23 rfl) rfl ?_
  refine g_iaddN F (dk dtX7_rate_0 24 rfl) ?_
  refine g_iald F (25 + p) (dk dtX7_rate_0 25 rfl) (by decide) (cm5 D B _ _) (by omega) (by decide) ?_
  refine g_iadd F (dk dtX7_rate_0 26 rfl) ?_
  refine g_istore F [(4, .int ((M 3 p) + (M 5 (25 + p)))), (3, .int (M 3 p)), (0, .ref (B + 0)), (1, .int (nI 4)), (2, .int (nI p))] (dk dtX7_rate_0 27 rfl) (by decide) rfl ?_
  refine g_iload_n F 1 (dk dtX7_rate_0 28 rfl) rfl ?_
  refine g_aload_n F 2 (dk dtX7_rate_0 29 rfl) rfl ?_
  refine g_aload_n F 2 (dk dtX7_rate_0 30 rfl) rfl ?_
  refine g_get F fa_X7_22 (dk dtX7_rate_0 31 rfl) (by decide) (cm0 D B _ _) rfl ?_
  refine g_iload_n F 4 (dk dtX7_rate_0 32 rfl) rfl ?_
  refine g_callVi F (As := [.ref (B + 5), .int (nI p)]) (st := [.int (M 3 p)]) cv_X7_125 (dk dtX7_rate_0 33 rfl) (by decide) (cm0 D B _ _) rfl rfl (Nat.le_of_ble_eq_true rfl) ⟨by decide, by decide⟩ (k_X7_allSeen l D B _ _ 5 (isRow5 D B) _ (by omega)) (fun r52 T52 M52 hp52 => ?_)
  obtain ⟨e1, e2, e3⟩ := hp52
  replace e1 := e1.symm; replace e2 := e2.symm; replace e3 := e3.symm; subst e1; subst e2; subst e3
  refine g_isub F (dk dtX7_rate_0 34 rfl) ?_
  refine g_istore F [(5, .int ((M 3 p) - (aS (M 5) p))), (4, .int ((M 3 p) + (M 5 (25 + p)))), (3, .int (M 3 p)), (0, .ref (B + 0)), (1, .int (nI 4)), (2, .int (nI p))] (dk dtX7_rate_0 35 rfl) (by decide) rfl ?_
  refine g_aload_n F 3 (dk dtX7_rate_0 36 rfl) rfl ?_
  refine g_dup F (dk dtX7_rate_0 37 rfl) rfl ?_
  refine g_get F fa_X7_183 (dk dtX7_rate_0 38 rfl) (by decide) (cm0 D B _ _) rfl ?_
  refine g_iload_n F 4 (dk dtX7_rate_0 39 rfl) rfl ?_
  refine g_if_neN F 71 (dk dtX7_rate_0 40 rfl) (by decide) (by decide) (fun _ => ?_) (fun c => absurd c (by decide))
  refine g_iload_n F 4 (dk dtX7_rate_0 43 rfl) rfl ?_
  refine g_iconst F (nI 1) (dk dtX7_rate_0 44 rfl) (by decide) ?_
  refine g_icmp_neN F 82 (dk dtX7_rate_0 45 rfl) (by decide) (by decide) (by decide) (fun _ => ?_) (fun c => absurd c (by decide))
  refine g_iload_n F 4 (dk dtX7_rate_0 48 rfl) rfl ?_
  refine g_iconst F (nI 2) (dk dtX7_rate_0 49 rfl) (by decide) ?_
  refine g_icmp_neN F 93 (dk dtX7_rate_0 50 rfl) (by decide) (by decide) (by decide) (fun _ => ?_) (fun c => absurd c (by decide))
  refine g_iload_n F 4 (dk dtX7_rate_0 53 rfl) rfl ?_
  refine g_iconst F (nI 3) (dk dtX7_rate_0 54 rfl) (by decide) ?_
  refine g_icmp_neN F 104 (dk dtX7_rate_0 55 rfl) (by decide) (by decide) (by decide) (fun _ => ?_) (fun c => absurd c (by decide))
  refine g_iload_n F 4 (dk dtX7_rate_0 58 rfl) rfl ?_
  refine g_iconst F (nI 4) (dk dtX7_rate_0 59 rfl) (by decide) ?_
  refine g_icmp_neN F 115 (dk dtX7_rate_1 0 rfl) (by decide) (by decide) (by decide) (fun c => absurd c (by decide)) (fun _ => ?_)
  refine g_ldc2 F (dk dtX7_rate_1 1 rfl) (tw4 123 rfl) ?_
  refine g_goto F 118 (dk dtX7_rate_1 2 rfl) (by decide) ?_
  refine g_ladd F (dk dtX7_rate_1 4 rfl) ?_
  refine g_putG F (T1 := T + 10101) (M 0) fa_X7_183 (dk dtX7_rate_1 5 rfl) (by decide) (cm0 D B _ _) (Nat.le_of_ble_eq_true rfl) rfl rfl (cm0 D B _ _) (fun i hi r => celM_T hi r) ?_
  refine g_mem (setR_same _ _) ?_
  refine g_iload_n F 4 (dk dtX7_rate_1 6 rfl) rfl ?_
  refine g_if_neN F 130 (dk dtX7_rate_1 7 rfl) (by decide) (by decide) (fun _ => ?_) (fun c => absurd c (by decide))
  refine g_iload_n F 4 (dk dtX7_rate_1 10 rfl) rfl ?_
  refine g_iconst F (nI 1) (dk dtX7_rate_1 11 rfl) (by decide) ?_
  refine g_icmp_neN F 140 (dk dtX7_rate_1 12 rfl) (by decide) (by decide) (by decide) (fun _ => ?_) (fun c => absurd c (by decide))
  refine g_iload_n F 4 (dk dtX7_rate_1 15 rfl) rfl ?_
  refine g_iconst F (nI 2) (dk dtX7_rate_1 16 rfl) (by decide) ?_
  refine g_icmp_neN F 150 (dk dtX7_rate_1 17 rfl) (by decide) (by decide) (by decide) (fun _ => ?_) (fun c => absurd c (by decide))
  refine g_iload_n F 4 (dk dtX7_rate_1 20 rfl) rfl ?_
  refine g_iconst F (nI 3) (dk dtX7_rate_1 21 rfl) (by decide) ?_
  refine g_icmp_neN F 162 (dk dtX7_rate_1 22 rfl) (by decide) (by decide) (by decide) (fun _ => ?_) (fun c => absurd c (by decide))
  refine g_iload_n F 4 (dk dtX7_rate_1 27 rfl) rfl ?_
  refine g_iconst F (nI 4) (dk dtX7_rate_1 28 rfl) (by decide) ?_
  refine g_icmp_neN F 174 (dk dtX7_rate_1 29 rfl) (by decide) (by decide) (by decide) (fun c => absurd c (by decide)) (fun _ => ?_)
  refine g_iload F 0 (dk dtX7_rate_1 30 rfl) rfl ?_
  refine g_iload_n F 5 (dk dtX7_rate_1 31 rfl) rfl ?_
  refine g_iadd F (dk dtX7_rate_1 32 rfl) ?_
  refine g_goto F 184 (dk dtX7_rate_1 33 rfl) (by decide) ?_
  refine g_iret (F := F) hQ (dk dtX7_rate_1 42 rfl) ?_
  exact ⟨rfl, rfl, rfl⟩
set_option maxRecDepth 100000 in
set_option maxHeartbeats 4000000 in
theorem k_X7_rate_5 (l : Launch) (D : DX) (B : Nat) (T : Int64) (M : Mem) (h0 : M 0 0 = nI 0) (P : Nat) (hP : M 2 2 = nI P) (hP5 : P ≤ 5) (p : Nat) (hp : p < P) : Ci l D B 14 (celM D B) yX7_rate cX7_rate 6 (some .int) 2 [.ref (B + 0), .int (nI 5), .int (nI p)] T M (fun r T1 M1 => r = M 3 p + M 5 p ∧ T1 = T + 100001 ∧ M1 = M) := by
  refine g_entryi (L := [(0, .ref (B + 0)), (1, .int (nI 5)), (2, .int (nI p))]) (by decide) (Nat.le_of_ble_eq_true rfl) rfl ?_
  intro zp ze zs zm zb zt zc Q F hQ
  refine g_aload_n F 0 (dk dtX7_rate_0 0 rfl) rfl ?_
  refine g_iconst F (nI 0) (dk dtX7_rate_0 1 rfl) (by decide) ?_
  refine g_put F fa_X7_56 (dk dtX7_rate_0 2 rfl) (by decide) (cm0 D B _ _) (Nat.le_of_ble_eq_true rfl) rfl rfl ((cm0 D B _ _).trans st_Mod_0) ?_
  refine g_mem (up2_same h0) ?_
  refine g_iload_n F 1 (dk dtX7_rate_0 3 rfl) rfl ?_
  refine g_iconst F (nI 0) (dk dtX7_rate_0 4 rfl) (by decide) ?_
  refine g_iconst F (nI 5) (dk dtX7_rate_0 5 rfl) (by decide) ?_
  refine g_callSi F (As := [.int (nI 5), .int (nI 0), .int (nI 5)]) (st := []) cs_X7_60 (dk dtX7_rate_0 6 rfl) rfl rfl (Nat.le_of_ble_eq_true rfl) ⟨by decide, by decide⟩ (k_X7_inR l D B _ _ _ 5 (by decide)) (fun r8 T8 M8 hp8 => ?_)
  obtain ⟨e1, e2, e3⟩ := hp8
  replace e1 := e1.symm; replace e2 := e2.symm; replace e3 := e3.symm; subst e1; subst e2; subst e3
  refine g_if_eqB F 22 (dk dtX7_rate_0 7 rfl) (by decide) (fun c => absurd (inR_nI (by omega)) c) (fun _ => ?_)
  refine g_aload_n F 0 (dk dtX7_rate_0 8 rfl) rfl ?_
  refine g_iload_n F 2 (dk dtX7_rate_0 9 rfl) rfl ?_
  refine g_callVi F (As := [.int (nI p)]) (st := []) cv_X7_129 (dk dtX7_rate_0 10 rfl) (by decide) (cm0 D B _ _) rfl rfl (Nat.le_of_ble_eq_true rfl) ⟨by decide, by decide⟩ (k_X7_isOne l D B _ _ _ P hP (by omega)) (fun r16 T16 M16 hp16 => ?_)
  obtain ⟨e1, e2, e3⟩ := hp16
  replace e1 := e1.symm; replace e2 := e2.symm; replace e3 := e3.symm; subst e1; subst e2; subst e3
  refine g_if_neB F 25 (dk dtX7_rate_0 11 rfl) (by decide) (fun _ => ?_) (fun c => absurd (inR_nI (by omega)) c)
  refine g_aload_n F 0 (dk dtX7_rate_0 14 rfl) rfl ?_
  refine g_get F fa_X7_16 (dk dtX7_rate_0 15 rfl) (by decide) (cm0 D B _ _) rfl ?_
  refine g_iload_n F 2 (dk dtX7_rate_0 16 rfl) rfl ?_
  refine g_iald F (p) (dk dtX7_rate_0 17 rfl) (by decide) (cm3 D B _ _) (by omega) (by decide) ?_
  refine g_istore_n F [(3, .int (M 3 p)), (0, .ref (B + 0)), (1, .int (nI 5)), (2, .int (nI p))] (dk dtX7_rate_0 18 rfl) (by decide) rfl ?_
  refine g_iload_n F 0 (dk dtX7_rate_0 19 rfl) rfl ?_
  refine g_aload_n F 1 (dk dtX7_rate_0 20 rfl) rfl ?_
  refine g_get F fa_X7_22 (dk dtX7_rate_0 21 rfl) (by decide) (cm0 D B _ _) rfl ?_
  refine g_bipush F (nI 25) (dk dtX7_rate_0 22 rfl) (by decide) ?_
  refine g_iload_n F 3 (dk dtX7_rate_0 23 rfl) rfl ?_
  refine g_iaddN F (dk dtX7_rate_0 24 rfl) ?_
  refine g_iald F (25 + p) (dk dtX7_rate_0 25 rfl) (by decide) (cm5 D B _ _) (by omega) (by decide) ?_
  refine g_iadd F (dk dtX7_rate_0 26 rfl) ?_
  refine g_istore F [(4, .int ((M 3 p) + (M 5 (25 + p)))), (3, .int (M 3 p)), (0, .ref (B + 0)), (1, .int (nI 5)), (2, .int (nI p))] (dk dtX7_rate_0 27 rfl) (by decide) rfl ?_
  refine g_iload_n F 1 (dk dtX7_rate_0 28 rfl) rfl ?_
  refine g_aload_n F 2 (dk dtX7_rate_0 29 rfl) rfl ?_
  refine g_aload_n F 2 (dk dtX7_rate_0 30 rfl) rfl ?_
  refine g_get F fa_X7_22 (dk dtX7_rate_0 31 rfl) (by decide) (cm0 D B _ _) rfl ?_
  refine g_iload_n F 4 (dk dtX7_rate_0 32 rfl) rfl ?_
  refine g_callVi F (As := [.ref (B + 5), .int (nI p)]) (st := [.int (M 3 p)]) cv_X7_125 (dk dtX7_rate_0 33 rfl) (by decide) (cm0 D B _ _) rfl rfl (Nat.le_of_ble_eq_true rfl) ⟨by decide, by decide⟩ (k_X7_allSeen l D B _ _ 5 (isRow5 D B) _ (by omega)) (fun r52 T52 M52 hp52 => ?_)
  obtain ⟨e1, e2, e3⟩ := hp52
  replace e1 := e1.symm; replace e2 := e2.symm; replace e3 := e3.symm; subst e1; subst e2; subst e3
  refine g_isub F (dk dtX7_rate_0 34 rfl) ?_
  refine g_istore F [(5, .int ((M 3 p) - (aS (M 5) p))), (4, .int ((M 3 p) + (M 5 (25 + p)))), (3, .int (M 3 p)), (0, .ref (B + 0)), (1, .int (nI 5)), (2, .int (nI p))] (dk dtX7_rate_0 35 rfl) (by decide) rfl ?_
  refine g_aload_n F 3 (dk dtX7_rate_0 36 rfl) rfl ?_
  refine g_dup F (dk dtX7_rate_0 37 rfl) rfl ?_
  refine g_get F fa_X7_183 (dk dtX7_rate_0 38 rfl) (by decide) (cm0 D B _ _) rfl ?_
  refine g_iload_n F 4 (dk dtX7_rate_0 39 rfl) rfl ?_
  refine g_if_neN F 71 (dk dtX7_rate_0 40 rfl) (by decide) (by decide) (fun _ => ?_) (fun c => absurd c (by decide))
  refine g_iload_n F 4 (dk dtX7_rate_0 43 rfl) rfl ?_
  refine g_iconst F (nI 1) (dk dtX7_rate_0 44 rfl) (by decide) ?_
  refine g_icmp_neN F 82 (dk dtX7_rate_0 45 rfl) (by decide) (by decide) (by decide) (fun _ => ?_) (fun c => absurd c (by decide))
  refine g_iload_n F 4 (dk dtX7_rate_0 48 rfl) rfl ?_
  refine g_iconst F (nI 2) (dk dtX7_rate_0 49 rfl) (by decide) ?_
  refine g_icmp_neN F 93 (dk dtX7_rate_0 50 rfl) (by decide) (by decide) (by decide) (fun _ => ?_) (fun c => absurd c (by decide))
  refine g_iload_n F 4 (dk dtX7_rate_0 53 rfl) rfl ?_
  refine g_iconst F (nI 3) (dk dtX7_rate_0 54 rfl) (by decide) ?_
  refine g_icmp_neN F 104 (dk dtX7_rate_0 55 rfl) (by decide) (by decide) (by decide) (fun _ => ?_) (fun c => absurd c (by decide))
  refine g_iload_n F 4 (dk dtX7_rate_0 58 rfl) rfl ?_
  refine g_iconst F (nI 4) (dk dtX7_rate_0 59 rfl) (by decide) ?_
  refine g_icmp_neN F 115 (dk dtX7_rate_1 0 rfl) (by decide) (by decide) (by decide) (fun _ => ?_) (fun c => absurd c (by decide))
  refine g_ldc2 F (dk dtX7_rate_1 3 rfl) (tw4 124 rfl) ?_
  refine g_ladd F (dk dtX7_rate_1 4 rfl) ?_
  refine g_putG F (T1 := T + 100001) (M 0) fa_X7_183 (dk dtX7_rate_1 5 rfl) (by decide) (cm0 D B _ _) (Nat.le_of_ble_eq_true rfl) rfl rfl (cm0 D B _ _) (fun i hi r => celM_T hi r) ?_
  refine g_mem (setR_same _ _) ?_
  refine g_iload_n F 4 (dk dtX7_rate_1 6 rfl) rfl ?_
  refine g_if_neN F 130 (dk dtX7_rate_1 7 rfl) (by decide) (by decide) (fun _ => ?_) (fun c => absurd c (by decide))
  refine g_iload_n F 4 (dk dtX7_rate_1 10 rfl) rfl ?_
  refine g_iconst F (nI 1) (dk dtX7_rate_1 11 rfl) (by decide) ?_
  refine g_icmp_neN F 140 (dk dtX7_rate_1 12 rfl) (by decide) (by decide) (by decide) (fun _ => ?_) (fun c => absurd c (by decide))
  refine g_iload_n F 4 (dk dtX7_rate_1 15 rfl) rfl ?_
  refine g_iconst F (nI 2) (dk dtX7_rate_1 16 rfl) (by decide) ?_
  refine g_icmp_neN F 150 (dk dtX7_rate_1 17 rfl) (by decide) (by decide) (by decide) (fun _ => ?_) (fun c => absurd c (by decide))
  refine g_iload_n F 4 (dk dtX7_rate_1 20 rfl) rfl ?_
  refine g_iconst F (nI 3) (dk dtX7_rate_1 21 rfl) (by decide) ?_
  refine g_icmp_neN F 162 (dk dtX7_rate_1 22 rfl) (by decide) (by decide) (by decide) (fun _ => ?_) (fun c => absurd c (by decide))
  refine g_iload_n F 4 (dk dtX7_rate_1 27 rfl) rfl ?_
  refine g_iconst F (nI 4) (dk dtX7_rate_1 28 rfl) (by decide) ?_
  refine g_icmp_neN F 174 (dk dtX7_rate_1 29 rfl) (by decide) (by decide) (by decide) (fun _ => ?_) (fun c => absurd c (by decide))
  refine g_iload_n F 2 (dk dtX7_rate_1 34 rfl) rfl ?_
  refine g_aload_n F 3 (dk dtX7_rate_1 35 rfl) rfl ?_
  refine g_get F fa_X7_22 (dk dtX7_rate_1 36 rfl) (by decide) (cm0 D B _ _) rfl ?_
  refine g_iconst F (nI 0) (dk dtX7_rate_1 37 rfl) (by decide) ?_
  refine g_iload_n F 5 (dk dtX7_rate_1 38 rfl) rfl ?_
  refine g_iadd0 F (dk dtX7_rate_1 39 rfl) ?_
  refine g_iald F (p) (dk dtX7_rate_1 40 rfl) (by decide) (cm5 D B _ _) (by omega) (by decide) ?_
  refine g_iadd F (dk dtX7_rate_1 41 rfl) ?_
  refine g_iret (F := F) hQ (dk dtX7_rate_1 42 rfl) ?_
  exact ⟨rfl, rfl, rfl⟩
set_option maxRecDepth 100000 in
set_option maxHeartbeats 4000000 in
theorem k_X7_rate_bad (l : Launch) (D : DX) (B : Nat) (T : Int64) (M : Mem) (h0 : M 0 0 = nI 0) (P : Nat) (hP : M 2 2 = nI P) (hP5 : P ≤ 5) (w p : Int32) (hb : ¬ (inR w 6 ∧ inR p P)) : Ci l D B 14 (celM D B) yX7_rate cX7_rate 6 (some .int) 2 [.ref (B + 0), .int w, .int p] T M (fun rz T1 M1 => rz = (-1000000) ∧ T1 = T ∧ M1 = M) := by
  refine g_entryi (L := [(0, .ref (B + 0)), (1, .int w), (2, .int p)]) (by decide) (Nat.le_of_ble_eq_true rfl) rfl ?_
  intro zp ze zs zm zb zt zc Q F hQ
  refine g_aload_n F 0 (dk dtX7_rate_0 0 rfl) rfl ?_
  refine g_iconst F (nI 0) (dk dtX7_rate_0 1 rfl) (by decide) ?_
  refine g_put F fa_X7_56 (dk dtX7_rate_0 2 rfl) (by decide) (cm0 D B _ _) (Nat.le_of_ble_eq_true rfl) rfl rfl ((cm0 D B _ _).trans st_Mod_0) ?_
  refine g_mem (up2_same h0) ?_
  refine g_iload_n F 1 (dk dtX7_rate_0 3 rfl) rfl ?_
  refine g_iconst F (nI 0) (dk dtX7_rate_0 4 rfl) (by decide) ?_
  refine g_iconst F (nI 5) (dk dtX7_rate_0 5 rfl) (by decide) ?_
  refine g_callSi F (As := [.int w, .int (nI 0), .int (nI 5)]) (st := []) cs_X7_60 (dk dtX7_rate_0 6 rfl) rfl rfl (Nat.le_of_ble_eq_true rfl) ⟨by decide, by decide⟩ (k_X7_inR l D B _ _ _ 5 (by decide)) (fun r8 T8 M8 hp8 => ?_)
  obtain ⟨e1, e2, e3⟩ := hp8
  replace e1 := e1.symm; replace e2 := e2.symm; replace e3 := e3.symm; subst e1; subst e2; subst e3
  refine g_if_eqB F 22 (dk dtX7_rate_0 7 rfl) (by decide) (fun c11 => ?_) (fun c11 => ?_)
  · -- taken at 11
    refine g_ldc F (dk dtX7_rate_0 12 rfl) (tw4 10 rfl) ?_
    refine g_iret (F := F) hQ (dk dtX7_rate_0 13 rfl) ?_
    exact ⟨rfl, rfl, rfl⟩
  · -- not taken at 11
    refine g_aload_n F 0 (dk dtX7_rate_0 8 rfl) rfl ?_
    refine g_iload_n F 2 (dk dtX7_rate_0 9 rfl) rfl ?_
    refine g_callVi F (As := [.int p]) (st := []) cv_X7_129 (dk dtX7_rate_0 10 rfl) (by decide) (cm0 D B _ _) rfl rfl (Nat.le_of_ble_eq_true rfl) ⟨by decide, by decide⟩ (k_X7_isOne l D B _ _ _ P hP (by omega)) (fun r16 T16 M16 hp16 => ?_)
    obtain ⟨e1, e2, e3⟩ := hp16
    replace e1 := e1.symm; replace e2 := e2.symm; replace e3 := e3.symm; subst e1; subst e2; subst e3
    refine g_if_neB F 25 (dk dtX7_rate_0 11 rfl) (by decide) (fun c19 => ?_) (fun c19 => ?_)
    · -- taken at 19
      exact absurd ⟨c11, c19⟩ hb
    · -- not taken at 19
      refine g_ldc F (dk dtX7_rate_0 12 rfl) (tw4 10 rfl) ?_
      refine g_iret (F := F) hQ (dk dtX7_rate_0 13 rfl) ?_
      exact ⟨rfl, rfl, rfl⟩
set_option maxRecDepth 100000 in
set_option maxHeartbeats 4000000 in
theorem k_X7_notes (l : Launch) (D : DX) (B : Nat) (T : Int64) (M : Mem) (h0 : M 0 0 = nI 0) (P : Nat) (hP : M 2 2 = nI P) (hP5 : P ≤ 5) (K : Nat) (hK : M 2 0 = nI K) (hK1 : 1 ≤ K) (hK4 : K ≤ 4) (nn : Nat) (hnn : M 0 22 = nI nn) (hnn6 : nn < 6) (p k j : Nat) (hp : p < P) (hk : k < K) (hj : j < 2) : Ci l D B 14 (celM D B) yX7_notes cX7_notes 4 (some .int) 2 [.ref (B + 0), .int (nI p), .int (nI k), .int (nI j)] T M (fun r T1 M1 => r = nI (nn + 1) ∧ T1 = T ∧ M1 = up2 (up2 (up2 (up2 M 10 nn (nI p)) 11 nn (nI k)) 12 nn (nI j)) 0 22 (nI (nn + 1))) := by
  refine g_entryi (L := [(0, .ref (B + 0)), (1, .int (nI p)), (2, .int (nI k)), (3, .int (nI j))]) (by decide) (Nat.le_of_ble_eq_true rfl) rfl ?_
  intro zp ze zs zm zb zt zc Q F hQ
  refine g_aload_n F 0 (dk dtX7_notes_0 0 rfl) rfl ?_
  refine g_iconst F (nI 0) (dk dtX7_notes_0 1 rfl) (by decide) ?_
  refine g_put F fa_X7_56 (dk dtX7_notes_0 2 rfl) (by decide) (cm0 D B _ _) (Nat.le_of_ble_eq_true rfl) rfl rfl ((cm0 D B _ _).trans st_Mod_0) ?_
  refine g_mem (up2_same h0) ?_
  refine g_aload_n F 0 (dk dtX7_notes_0 3 rfl) rfl ?_
  refine g_iload_n F 1 (dk dtX7_notes_0 4 rfl) rfl ?_
  refine g_callVi F (As := [.int (nI p)]) (st := []) cv_X7_129 (dk dtX7_notes_0 5 rfl) (by decide) (cm0 D B _ _) rfl rfl (Nat.le_of_ble_eq_true rfl) ⟨by decide, by decide⟩ (k_X7_isOne l D B _ _ _ P hP (by omega)) (fun r7 T7 M7 hp7 => ?_)
  obtain ⟨e1, e2, e3⟩ := hp7
  replace e1 := e1.symm; replace e2 := e2.symm; replace e3 := e3.symm; subst e1; subst e2; subst e3
  refine g_if_eqB F 30 (dk dtX7_notes_0 6 rfl) (by decide) (fun c => absurd (inR_nI (by omega)) c) (fun _ => ?_)
  refine g_aload_n F 0 (dk dtX7_notes_0 7 rfl) rfl ?_
  refine g_iload_n F 2 (dk dtX7_notes_0 8 rfl) rfl ?_
  refine g_callVi F (As := [.int (nI k)]) (st := []) cv_X7_132 (dk dtX7_notes_0 9 rfl) (by decide) (cm0 D B _ _) rfl rfl (Nat.le_of_ble_eq_true rfl) ⟨by decide, by decide⟩ (k_X7_isKind l D B _ _ _ K hK (by omega)) (fun r15 T15 M15 hp15 => ?_)
  obtain ⟨e1, e2, e3⟩ := hp15
  replace e1 := e1.symm; replace e2 := e2.symm; replace e3 := e3.symm; subst e1; subst e2; subst e3
  refine g_if_eqB F 30 (dk dtX7_notes_0 10 rfl) (by decide) (fun c => absurd (inR_nI (by omega)) c) (fun _ => ?_)
  refine g_iload_n F 3 (dk dtX7_notes_0 11 rfl) rfl ?_
  refine g_iconst F (nI 0) (dk dtX7_notes_0 12 rfl) (by decide) ?_
  refine g_iconst F (nI 1) (dk dtX7_notes_0 13 rfl) (by decide) ?_
  refine g_callSi F (As := [.int (nI j), .int (nI 0), .int (nI 1)]) (st := []) cs_X7_60 (dk dtX7_notes_0 14 rfl) rfl rfl (Nat.le_of_ble_eq_true rfl) ⟨by decide, by decide⟩ (k_X7_inR l D B _ _ _ 1 (by decide)) (fun r24 T24 M24 hp24 => ?_)
  obtain ⟨e1, e2, e3⟩ := hp24
  replace e1 := e1.symm; replace e2 := e2.symm; replace e3 := e3.symm; subst e1; subst e2; subst e3
  refine g_if_neB F 32 (dk dtX7_notes_0 15 rfl) (by decide) (fun _ => ?_) (fun c => absurd (inR_nI (by omega)) c)
  refine g_aload_n F 0 (dk dtX7_notes_0 18 rfl) rfl ?_
  refine g_get F fa_X7_119 (dk dtX7_notes_0 19 rfl) (by decide) (cm0 D B _ _) rfl ?_
  refine g_top hnn ?_
  refine g_bipush F (nI 6) (dk dtX7_notes_0 20 rfl) (by decide) ?_
  refine g_icmp_neN F 44 (dk dtX7_notes_0 21 rfl) (by decide) (by omega) (by omega) (fun c38 => ?_) (fun c38 => ?_)
  · -- taken at 38
    refine g_aload_n F 0 (dk dtX7_notes_0 24 rfl) rfl ?_
    refine g_get F fa_X7_38 (dk dtX7_notes_0 25 rfl) (by decide) (cm0 D B _ _) rfl ?_
    refine g_aload_n F 0 (dk dtX7_notes_0 26 rfl) rfl ?_
    refine g_get F fa_X7_119 (dk dtX7_notes_0 27 rfl) (by decide) (cm0 D B _ _) rfl ?_
    refine g_top hnn ?_
    refine g_iload_n F 1 (dk dtX7_notes_0 28 rfl) rfl ?_
    refine g_iast F (nn) (dk dtX7_notes_0 29 rfl) (by decide) (fun r => cm10 D B _ r) (by omega) (by decide) ?_
    refine g_aload_n F 0 (dk dtX7_notes_0 30 rfl) rfl ?_
    refine g_get F fa_X7_41 (dk dtX7_notes_0 31 rfl) (by decide) (cm0 D B _ _) rfl ?_
    refine g_aload_n F 0 (dk dtX7_notes_0 32 rfl) rfl ?_
    refine g_get F fa_X7_119 (dk dtX7_notes_0 33 rfl) (by decide) (cm0 D B _ _) rfl ?_
    refine g_top (congrFun (up2_ne _ _ (by decide)) _) ?_
    refine g_top hnn ?_
    refine g_iload_n F 2 (dk dtX7_notes_0 34 rfl) rfl ?_
    refine g_iast F (nn) (dk dtX7_notes_0 35 rfl) (by decide) (fun r => cm11 D B _ r) (by omega) (by decide) ?_
    refine g_aload_n F 0 (dk dtX7_notes_0 36 rfl) rfl ?_
    refine g_get F fa_X7_44 (dk dtX7_notes_0 37 rfl) (by decide) (cm0 D B _ _) rfl ?_
    refine g_aload_n F 0 (dk dtX7_notes_0 38 rfl) rfl ?_
    refine g_get F fa_X7_119 (dk dtX7_notes_0 39 rfl) (by decide) (cm0 D B _ _) rfl ?_
    refine g_top (congrFun (up2_ne _ _ (by decide)) _) ?_
    refine g_top (congrFun (up2_ne _ _ (by decide)) _) ?_
    refine g_top hnn ?_
    refine g_iload_n F 3 (dk dtX7_notes_0 40 rfl) rfl ?_
    refine g_iast F (nn) (dk dtX7_notes_0 41 rfl) (by decide) (fun r => cm12 D B _ r) (by omega) (by decide) ?_
    refine g_aload_n F 0 (dk dtX7_notes_0 42 rfl) rfl ?_
    refine g_dup F (dk dtX7_notes_0 43 rfl) rfl ?_
    refine g_get F fa_X7_119 (dk dtX7_notes_0 44 rfl) (by decide) (cm0 D B _ _) rfl ?_
    refine g_top (congrFun (up2_ne _ _ (by decide)) _) ?_
    refine g_top (congrFun (up2_ne _ _ (by decide)) _) ?_
    refine g_top (congrFun (up2_ne _ _ (by decide)) _) ?_
    refine g_top hnn ?_
    refine g_iconst F (nI 1) (dk dtX7_notes_0 45 rfl) (by decide) ?_
    refine g_iaddN F (dk dtX7_notes_0 46 rfl) ?_
    refine g_put F fa_X7_119 (dk dtX7_notes_0 47 rfl) (by decide) (cm0 D B _ _) (Nat.le_of_ble_eq_true rfl) rfl rfl ((cm0 D B _ _).trans st_Mod_22) ?_
    refine g_aload_n F 0 (dk dtX7_notes_0 48 rfl) rfl ?_
    refine g_get F fa_X7_119 (dk dtX7_notes_0 49 rfl) (by decide) (cm0 D B _ _) rfl ?_
    refine g_top ((congrFun (up2_self _ _ _ _) _).trans pk_us) ?_
    refine g_iret (F := F) hQ (dk dtX7_notes_0 50 rfl) ?_
    exact ⟨rfl, rfl, rfl⟩
  · -- not taken at 38
    exact absurd c38 (by omega)
set_option maxRecDepth 100000 in
set_option maxHeartbeats 4000000 in
theorem k_X7_notes_full (l : Launch) (D : DX) (B : Nat) (T : Int64) (M : Mem) (h0 : M 0 0 = nI 0) (P : Nat) (hP : M 2 2 = nI P) (hP5 : P ≤ 5) (K : Nat) (hK : M 2 0 = nI K) (hK1 : 1 ≤ K) (hK4 : K ≤ 4) (hnn : M 0 22 = nI 6) (p k j : Nat) (hp : p < P) (hk : k < K) (hj : j < 2) : Ci l D B 14 (celM D B) yX7_notes cX7_notes 4 (some .int) 2 [.ref (B + 0), .int (nI p), .int (nI k), .int (nI j)] T M (fun rz T1 M1 => rz = (-3) ∧ T1 = T ∧ M1 = M) := by
  refine g_entryi (L := [(0, .ref (B + 0)), (1, .int (nI p)), (2, .int (nI k)), (3, .int (nI j))]) (by decide) (Nat.le_of_ble_eq_true rfl) rfl ?_
  intro zp ze zs zm zb zt zc Q F hQ
  refine g_aload_n F 0 (dk dtX7_notes_0 0 rfl) rfl ?_
  refine g_iconst F (nI 0) (dk dtX7_notes_0 1 rfl) (by decide) ?_
  refine g_put F fa_X7_56 (dk dtX7_notes_0 2 rfl) (by decide) (cm0 D B _ _) (Nat.le_of_ble_eq_true rfl) rfl rfl ((cm0 D B _ _).trans st_Mod_0) ?_
  refine g_mem (up2_same h0) ?_
  refine g_aload_n F 0 (dk dtX7_notes_0 3 rfl) rfl ?_
  refine g_iload_n F 1 (dk dtX7_notes_0 4 rfl) rfl ?_
  refine g_callVi F (As := [.int (nI p)]) (st := []) cv_X7_129 (dk dtX7_notes_0 5 rfl) (by decide) (cm0 D B _ _) rfl rfl (Nat.le_of_ble_eq_true rfl) ⟨by decide, by decide⟩ (k_X7_isOne l D B _ _ _ P hP (by omega)) (fun r7 T7 M7 hp7 => ?_)
  obtain ⟨e1, e2, e3⟩ := hp7
  replace e1 := e1.symm; replace e2 := e2.symm; replace e3 := e3.symm; subst e1; subst e2; subst e3
  refine g_if_eqB F 30 (dk dtX7_notes_0 6 rfl) (by decide) (fun c => absurd (inR_nI (by omega)) c) (fun _ => ?_)
  refine g_aload_n F 0 (dk dtX7_notes_0 7 rfl) rfl ?_
  refine g_iload_n F 2 (dk dtX7_notes_0 8 rfl) rfl ?_
  refine g_callVi F (As := [.int (nI k)]) (st := []) cv_X7_132 (dk dtX7_notes_0 9 rfl) (by decide) (cm0 D B _ _) rfl rfl (Nat.le_of_ble_eq_true rfl) ⟨by decide, by decide⟩ (k_X7_isKind l D B _ _ _ K hK (by omega)) (fun r15 T15 M15 hp15 => ?_)
  obtain ⟨e1, e2, e3⟩ := hp15
  replace e1 := e1.symm; replace e2 := e2.symm; replace e3 := e3.symm; subst e1; subst e2; subst e3
  refine g_if_eqB F 30 (dk dtX7_notes_0 10 rfl) (by decide) (fun c => absurd (inR_nI (by omega)) c) (fun _ => ?_)
  refine g_iload_n F 3 (dk dtX7_notes_0 11 rfl) rfl ?_
  refine g_iconst F (nI 0) (dk dtX7_notes_0 12 rfl) (by decide) ?_
  refine g_iconst F (nI 1) (dk dtX7_notes_0 13 rfl) (by decide) ?_
  refine g_callSi F (As := [.int (nI j), .int (nI 0), .int (nI 1)]) (st := []) cs_X7_60 (dk dtX7_notes_0 14 rfl) rfl rfl (Nat.le_of_ble_eq_true rfl) ⟨by decide, by decide⟩ (k_X7_inR l D B _ _ _ 1 (by decide)) (fun r24 T24 M24 hp24 => ?_)
  obtain ⟨e1, e2, e3⟩ := hp24
  replace e1 := e1.symm; replace e2 := e2.symm; replace e3 := e3.symm; subst e1; subst e2; subst e3
  refine g_if_neB F 32 (dk dtX7_notes_0 15 rfl) (by decide) (fun _ => ?_) (fun c => absurd (inR_nI (by omega)) c)
  refine g_aload_n F 0 (dk dtX7_notes_0 18 rfl) rfl ?_
  refine g_get F fa_X7_119 (dk dtX7_notes_0 19 rfl) (by decide) (cm0 D B _ _) rfl ?_
  refine g_top hnn ?_
  refine g_bipush F (nI 6) (dk dtX7_notes_0 20 rfl) (by decide) ?_
  refine g_icmp_neN F 44 (dk dtX7_notes_0 21 rfl) (by decide) (by decide) (by decide) (fun c => absurd c (by decide)) (fun _ => ?_)
  refine g_bipush F (-3) (dk dtX7_notes_0 22 rfl) (by decide) ?_
  refine g_iret (F := F) hQ (dk dtX7_notes_0 23 rfl) ?_
  exact ⟨rfl, rfl, rfl⟩
set_option maxRecDepth 100000 in
set_option maxHeartbeats 4000000 in
theorem k_X7_notes_bad (l : Launch) (D : DX) (B : Nat) (T : Int64) (M : Mem) (h0 : M 0 0 = nI 0) (P : Nat) (hP : M 2 2 = nI P) (hP5 : P ≤ 5) (K : Nat) (hK : M 2 0 = nI K) (hK1 : 1 ≤ K) (hK4 : K ≤ 4) (p k j : Int32) (hb : ¬ (inR p P ∧ inR k K ∧ inR j 2)) : Ci l D B 14 (celM D B) yX7_notes cX7_notes 4 (some .int) 2 [.ref (B + 0), .int p, .int k, .int j] T M (fun rz T1 M1 => rz = (-1) ∧ T1 = T ∧ M1 = M) := by
  refine g_entryi (L := [(0, .ref (B + 0)), (1, .int p), (2, .int k), (3, .int j)]) (by decide) (Nat.le_of_ble_eq_true rfl) rfl ?_
  intro zp ze zs zm zb zt zc Q F hQ
  refine g_aload_n F 0 (dk dtX7_notes_0 0 rfl) rfl ?_
  refine g_iconst F (nI 0) (dk dtX7_notes_0 1 rfl) (by decide) ?_
  refine g_put F fa_X7_56 (dk dtX7_notes_0 2 rfl) (by decide) (cm0 D B _ _) (Nat.le_of_ble_eq_true rfl) rfl rfl ((cm0 D B _ _).trans st_Mod_0) ?_
  refine g_mem (up2_same h0) ?_
  refine g_aload_n F 0 (dk dtX7_notes_0 3 rfl) rfl ?_
  refine g_iload_n F 1 (dk dtX7_notes_0 4 rfl) rfl ?_
  refine g_callVi F (As := [.int p]) (st := []) cv_X7_129 (dk dtX7_notes_0 5 rfl) (by decide) (cm0 D B _ _) rfl rfl (Nat.le_of_ble_eq_true rfl) ⟨by decide, by decide⟩ (k_X7_isOne l D B _ _ _ P hP (by omega)) (fun r7 T7 M7 hp7 => ?_)
  obtain ⟨e1, e2, e3⟩ := hp7
  replace e1 := e1.symm; replace e2 := e2.symm; replace e3 := e3.symm; subst e1; subst e2; subst e3
  refine g_if_eqB F 30 (dk dtX7_notes_0 6 rfl) (by decide) (fun c10 => ?_) (fun c10 => ?_)
  · -- taken at 10
    refine g_iconst F (-1) (dk dtX7_notes_0 16 rfl) (by decide) ?_
    refine g_iret (F := F) hQ (dk dtX7_notes_0 17 rfl) ?_
    exact ⟨rfl, rfl, rfl⟩
  · -- not taken at 10
    refine g_aload_n F 0 (dk dtX7_notes_0 7 rfl) rfl ?_
    refine g_iload_n F 2 (dk dtX7_notes_0 8 rfl) rfl ?_
    refine g_callVi F (As := [.int k]) (st := []) cv_X7_132 (dk dtX7_notes_0 9 rfl) (by decide) (cm0 D B _ _) rfl rfl (Nat.le_of_ble_eq_true rfl) ⟨by decide, by decide⟩ (k_X7_isKind l D B _ _ _ K hK (by omega)) (fun r15 T15 M15 hp15 => ?_)
    obtain ⟨e1, e2, e3⟩ := hp15
    replace e1 := e1.symm; replace e2 := e2.symm; replace e3 := e3.symm; subst e1; subst e2; subst e3
    refine g_if_eqB F 30 (dk dtX7_notes_0 10 rfl) (by decide) (fun c18 => ?_) (fun c18 => ?_)
    · -- taken at 18
      refine g_iconst F (-1) (dk dtX7_notes_0 16 rfl) (by decide) ?_
      refine g_iret (F := F) hQ (dk dtX7_notes_0 17 rfl) ?_
      exact ⟨rfl, rfl, rfl⟩
    · -- not taken at 18
      refine g_iload_n F 3 (dk dtX7_notes_0 11 rfl) rfl ?_
      refine g_iconst F (nI 0) (dk dtX7_notes_0 12 rfl) (by decide) ?_
      refine g_iconst F (nI 1) (dk dtX7_notes_0 13 rfl) (by decide) ?_
      refine g_callSi F (As := [.int j, .int (nI 0), .int (nI 1)]) (st := []) cs_X7_60 (dk dtX7_notes_0 14 rfl) rfl rfl (Nat.le_of_ble_eq_true rfl) ⟨by decide, by decide⟩ (k_X7_inR l D B _ _ _ 1 (by decide)) (fun r24 T24 M24 hp24 => ?_)
      obtain ⟨e1, e2, e3⟩ := hp24
      replace e1 := e1.symm; replace e2 := e2.symm; replace e3 := e3.symm; subst e1; subst e2; subst e3
      refine g_if_neB F 32 (dk dtX7_notes_0 15 rfl) (by decide) (fun c27 => ?_) (fun c27 => ?_)
      · -- taken at 27
        exact absurd ⟨c10, c18, c27⟩ hb
      · -- not taken at 27
        refine g_iconst F (-1) (dk dtX7_notes_0 16 rfl) (by decide) ?_
        refine g_iret (F := F) hQ (dk dtX7_notes_0 17 rfl) ?_
        exact ⟨rfl, rfl, rfl⟩
