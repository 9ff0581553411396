theorem fl_s1 (f : Nat → Int32) (v : Int32) (n : Nat) : upd (fl f v n) n v = fl f v (n + 1) := by
  funext j
  by_cases h : j = n
  · subst h; simp [upd, fl]
  · by_cases h2 : j < n
    · simp [upd, fl, h, h2, Nat.lt_succ_of_lt h2]
    · simp [upd, fl, h, h2, show ¬ j < n + 1 by omega]
def bg0 (M : Mem) : Mem := up2 (up2 (up2 (up2 M 0 9 (nI 0)) 2 3 (nI 3)) 2 4 (nI 2)) 2 5 (nI 0)
theorem bg_0 (M : Mem) : up2 (up2 (up2 (up2 M 0 9 (nI 0)) 2 3 (nI 3)) 2 4 (nI 2)) 2 5 (nI 0) = setR (bg0 M) 4 (fl (M 4) (nI 0) 0) := by
  have h : (bg0 M) 4 = M 4 := by
    unfold bg0
    rw [up2_ne _ _ (by decide), up2_ne _ _ (by decide), up2_ne _ _ (by decide), up2_ne _ _ (by decide)]
  have h2 : fl (M 4) (nI 0) 0 = M 4 := by
    funext j
    simp [fl]
  rw [h2, ← h, setR_same]
  rfl
set_option maxRecDepth 100000 in
set_option maxHeartbeats 4000000 in
theorem k_X7_isWellT (l : Launch) (D : DX) (B : Nat) (T : Int64) (M : Mem) (a t s v q : Int32) : Ci l D B 14 (celM D B) yX7_isWell cX7_isWell 1 (some .boolean) 0 [.ref (B + 0)] T (tym M a t s v q) (fun rz T1 M1 => rz = bI (q < 0) ∧ T1 = T ∧ M1 = tym M a t s v q) := by
  refine g_entryi (L := [(0, .ref (B + 0))]) (by decide) (Nat.le_of_ble_eq_true rfl) rfl ?_
  intro zp ze zs zm zb zt zc Q F hQ
  refine g_aload_n F 0 (dk dtX7_isWell_0 0 rfl) rfl ?_
  refine g_get F fa_X7_87 (dk dtX7_isWell_0 1 rfl) (by decide) (cm0 D B _ _) rfl ?_
  refine g_top (tym_8 _ _ _ _ _ _) ?_
  refine g_if_ge F 11 (dk dtX7_isWell_0 2 rfl) (by decide) (fun c4 => ?_) (fun c4 => ?_)
  · -- taken at 4
    refine g_iconst F (nI 0) (dk dtX7_isWell_0 5 rfl) (by decide) ?_
    refine g_zret (F := F) hQ (dk dtX7_isWell_0 6 rfl) (rfl) ?_
    exact ⟨(bI_f (Int32.not_lt.mpr c4)).symm, rfl, rfl⟩
  · -- not taken at 4
    refine g_iconst F (nI 1) (dk dtX7_isWell_0 3 rfl) (by decide) ?_
    refine g_goto F 12 (dk dtX7_isWell_0 4 rfl) (by decide) ?_
    refine g_zret (F := F) hQ (dk dtX7_isWell_0 6 rfl) (rfl) ?_
    exact ⟨(bI_t (Int32.not_le.mp c4)).symm, rfl, rfl⟩
set_option maxRecDepth 100000 in
set_option maxHeartbeats 4000000 in
theorem k_X7_takes_no (l : Launch) (D : DX) (B : Nat) (T : Int64) (M : Mem) (a : Nat) (t s v q : Int32) (w : Nat) (hq : ¬ q < 0) : Ci l D B 14 (celM D B) yX7_takes cX7_takes 3 (some .int) 3 [.ref (B + 0), .int (nI w)] T (tym M (nI a) t s v q) (fun rz T1 M1 => rz = nI 0 ∧ T1 = T ∧ M1 = tym M (nI a) t s v q) := by
  refine g_entryi (L := [(0, .ref (B + 0)), (1, .int (nI w))]) (by decide) (Nat.le_of_ble_eq_true rfl) rfl ?_
  intro zp ze zs zm zb zt zc Q F hQ
  refine g_aload_n F 0 (dk dtX7_takes_0 0 rfl) rfl ?_
  refine g_callVi F (As := []) (st := []) cv_X7_90 (dk dtX7_takes_0 1 rfl) (by decide) (cm0 D B _ _) rfl rfl (Nat.le_of_ble_eq_true rfl) ⟨by decide, by decide⟩ (k_X7_isWellT l D B _ M _ _ _ _ _) (fun r1 T1 M1 hp1 => ?_)
  obtain ⟨e1, e2, e3⟩ := hp1
  replace e1 := e1.symm; replace e2 := e2.symm; replace e3 := e3.symm; subst e1; subst e2; subst e3
  refine g_if_neB F 9 (dk dtX7_takes_0 2 rfl) (by decide) (fun c4 => ?_) (fun c4 => ?_)
  · -- taken at 4
    exact absurd c4 hq
  · -- not taken at 4
    refine g_iconst F (nI 0) (dk dtX7_takes_0 3 rfl) (by decide) ?_
    refine g_iret (F := F) hQ (dk dtX7_takes_0 4 rfl) ?_
    exact ⟨rfl, rfl, rfl⟩
set_option maxRecDepth 100000 in
set_option maxHeartbeats 4000000 in
theorem k_X7_takes_bad (l : Launch) (D : DX) (B : Nat) (T : Int64) (M : Mem) (a : Nat) (t s v q : Int32) (hq : q < 0) : Ci l D B 14 (celM D B) yX7_takes cX7_takes 3 (some .int) 3 [.ref (B + 0), .int (nI 0)] T (tym M (nI a) t s v q) (fun rz T1 M1 => rz = nI 0 ∧ T1 = T ∧ M1 = tym M (nI a) t s v s) := by
  refine g_entryi (L := [(0, .ref (B + 0)), (1, .int (nI 0))]) (by decide) (Nat.le_of_ble_eq_true rfl) rfl ?_
  intro zp ze zs zm zb zt zc Q F hQ
  refine g_aload_n F 0 (dk dtX7_takes_0 0 rfl) rfl ?_
  refine g_callVi F (As := []) (st := []) cv_X7_90 (dk dtX7_takes_0 1 rfl) (by decide) (cm0 D B _ _) rfl rfl (Nat.le_of_ble_eq_true rfl) ⟨by decide, by decide⟩ (k_X7_isWellT l D B _ M _ _ _ _ _) (fun r1 T1 M1 hp1 => ?_)
  obtain ⟨e1, e2, e3⟩ := hp1
  replace e1 := e1.symm; replace e2 := e2.symm; replace e3 := e3.symm; subst e1; subst e2; subst e3
  refine g_if_neB F 9 (dk dtX7_takes_0 2 rfl) (by decide) (fun c4 => ?_) (fun c4 => ?_)
  · -- taken at 4
    refine g_iload_n F 1 (dk dtX7_takes_0 5 rfl) rfl ?_
    refine g_if_neN F 23 (dk dtX7_takes_0 6 rfl) (by decide) (by decide) (fun c => absurd c (by decide)) (fun _ => ?_)
    refine g_aload_n F 0 (dk dtX7_takes_0 7 rfl) rfl ?_
    refine g_aload_n F 0 (dk dtX7_takes_0 8 rfl) rfl ?_
    refine g_get F fa_X7_74 (dk dtX7_takes_0 9 rfl) (by decide) (cm0 D B _ _) rfl ?_
    refine g_top (tym_6 _ _ _ _ _ _) ?_
    refine g_put F fa_X7_87 (dk dtX7_takes_0 10 rfl) (by decide) (cm0 D B _ _) (Nat.le_of_ble_eq_true rfl) rfl rfl ((cm0 D B _ _).trans st_Mod_8) ?_
    refine g_mem (tym_w8 _ _ _ _ _ _ _) ?_
    refine g_iconst F (nI 0) (dk dtX7_takes_0 11 rfl) (by decide) ?_
    refine g_iret (F := F) hQ (dk dtX7_takes_0 12 rfl) ?_
    exact ⟨rfl, rfl, rfl⟩
  · -- not taken at 4
    exact absurd hq c4
set_option maxRecDepth 100000 in
set_option maxHeartbeats 4000000 in
theorem k_X7_takes_ok (l : Launch) (D : DX) (B : Nat) (T : Int64) (M : Mem) (a : Nat) (t s v q : Int32) (n : Nat) (hn : M 0 3 = nI n) (hn9 : n ≤ 150) (hL : ∀ j, j < n → inR (M 1 j) 256) (han : a ≤ n) (hq : q < 0) : Ci l D B 14 (celM D B) yX7_takes cX7_takes 3 (some .int) 3 [.ref (B + 0), .int (nI 1)] T (tym M (nI a) t s v q) (fun rz T1 M1 => rz = v ∧ T1 = T ∧ M1 = tym M (nI (tn (M 1) n a)) (nI (tkd (M 1) n a)) (nI (sk (M 1) n a)) (vl (M 1) n a v) q) := by
  refine g_entryi (L := [(0, .ref (B + 0)), (1, .int (nI 1))]) (by decide) (Nat.le_of_ble_eq_true rfl) rfl ?_
  intro zp ze zs zm zb zt zc Q F hQ
  refine g_aload_n F 0 (dk dtX7_takes_0 0 rfl) rfl ?_
  refine g_callVi F (As := []) (st := []) cv_X7_90 (dk dtX7_takes_0 1 rfl) (by decide) (cm0 D B _ _) rfl rfl (Nat.le_of_ble_eq_true rfl) ⟨by decide, by decide⟩ (k_X7_isWellT l D B _ M _ _ _ _ _) (fun r1 T1 M1 hp1 => ?_)
  obtain ⟨e1, e2, e3⟩ := hp1
  replace e1 := e1.symm; replace e2 := e2.symm; replace e3 := e3.symm; subst e1; subst e2; subst e3
  refine g_if_neB F 9 (dk dtX7_takes_0 2 rfl) (by decide) (fun c4 => ?_) (fun c4 => ?_)
  · -- taken at 4
    refine g_iload_n F 1 (dk dtX7_takes_0 5 rfl) rfl ?_
    refine g_if_neN F 23 (dk dtX7_takes_0 6 rfl) (by decide) (by decide) (fun _ => ?_) (fun c => absurd c (by decide))
    refine g_aload_n F 0 (dk dtX7_takes_0 13 rfl) rfl ?_
    refine g_get F fa_X7_80 (dk dtX7_takes_0 14 rfl) (by decide) (cm0 D B _ _) rfl ?_
    refine g_top (tym_7 _ _ _ _ _ _) ?_
    refine g_istore_n F [(2, .int v), (0, .ref (B + 0)), (1, .int (nI 1))] (dk dtX7_takes_0 15 rfl) (by decide) rfl ?_
    refine g_aload_n F 1 (dk dtX7_takes_0 16 rfl) rfl ?_
    refine g_callVv F (As := []) (st := []) cv_X7_94 (dk dtX7_takes_0 17 rfl) (by decide) (cm0 D B _ _) rfl rfl (Nat.le_of_ble_eq_true rfl) ⟨by decide, by decide⟩ (k_X7_advances l D B _ M n a hn hn9 hL _ _ _ _ han) (fun T29 M29 hp29 => ?_)
    obtain ⟨e2, e3⟩ := hp29
    replace e2 := e2.symm; replace e3 := e3.symm; subst e2; subst e3
    refine g_iload_n F 0 (dk dtX7_takes_0 18 rfl) rfl ?_
    refine g_iret (F := F) hQ (dk dtX7_takes_0 19 rfl) ?_
    exact ⟨rfl, rfl, rfl⟩
  · -- not taken at 4
    exact absurd hq c4
set_option maxRecDepth 100000 in
set_option maxHeartbeats 4000000 in
theorem k_X7_number_no (l : Launch) (D : DX) (B : Nat) (T : Int64) (M : Mem) (a k : Nat) (s v q : Int32) (hk : k < 9) (lo hi : Int32) (hq : ¬ q < 0) : Ci l D B 14 (celM D B) yX7_number cX7_number 3 (some .int) 4 [.ref (B + 0), .int lo, .int hi] T (tym M (nI a) (nI k) s v q) (fun rz T1 M1 => rz = nI 0 ∧ T1 = T ∧ M1 = tym M (nI a) (nI k) s v q) := by
  refine g_entryi (L := [(0, .ref (B + 0)), (1, .int lo), (2, .int hi)]) (by decide) (Nat.le_of_ble_eq_true rfl) rfl ?_
  intro zp ze zs zm zb zt zc Q F hQ
  refine g_aload_n F 0 (dk dtX7_number_0 0 rfl) rfl ?_
  refine g_aload_n F 0 (dk dtX7_number_0 1 rfl) rfl ?_
  refine g_get F fa_X7_77 (dk dtX7_number_0 2 rfl) (by decide) (cm0 D B _ _) rfl ?_
  refine g_top (tym_5 _ _ _ _ _ _) ?_
  refine g_iconst F (nI 2) (dk dtX7_number_0 3 rfl) (by decide) ?_
  refine g_icmp_neN F 25 (dk dtX7_number_0 4 rfl) (by decide) (by omega) (by omega) (fun c6 => ?_) (fun c6 => ?_)
  · -- taken at 6
    refine g_iconst F (nI 0) (dk dtX7_number_0 13 rfl) (by decide) ?_
    refine g_callVi F (As := [.int (nI 0)]) (st := []) cv_X7_97 (dk dtX7_number_0 14 rfl) (by decide) (cm0 D B _ _) rfl rfl (Nat.le_of_ble_eq_true rfl) ⟨by decide, by decide⟩ (k_X7_takes_no l D B _ M a _ _ _ _ 0 hq) (fun r26 T26 M26 hp26 => ?_)
    obtain ⟨e1, e2, e3⟩ := hp26
    replace e1 := e1.symm; replace e2 := e2.symm; replace e3 := e3.symm; subst e1; subst e2; subst e3
    refine g_iret (F := F) hQ (dk dtX7_number_0 15 rfl) ?_
    exact ⟨rfl, rfl, rfl⟩
  · -- not taken at 6
    refine g_aload_n F 0 (dk dtX7_number_0 5 rfl) rfl ?_
    refine g_get F fa_X7_80 (dk dtX7_number_0 6 rfl) (by decide) (cm0 D B _ _) rfl ?_
    refine g_top (tym_7 _ _ _ _ _ _) ?_
    refine g_iload_n F 1 (dk dtX7_number_0 7 rfl) rfl ?_
    refine g_iload_n F 2 (dk dtX7_number_0 8 rfl) rfl ?_
    refine g_callSi F (As := [.int v, .int lo, .int hi]) (st := [.ref (B + 0)]) cs_X7_60 (dk dtX7_number_0 9 rfl) rfl rfl (Nat.le_of_ble_eq_true rfl) ⟨by decide, by decide⟩ (k_X7_in l D B _ _ _ _ _) (fun r15 T15 M15 hp15 => ?_)
    obtain ⟨e1, e2, e3⟩ := hp15
    replace e1 := e1.symm; replace e2 := e2.symm; replace e3 := e3.symm; subst e1; subst e2; subst e3
    refine g_if_eqB F 25 (dk dtX7_number_0 10 rfl) (by decide) (fun c18 => ?_) (fun c18 => ?_)
    · -- taken at 18
      refine g_iconst F (nI 0) (dk dtX7_number_0 13 rfl) (by decide) ?_
      refine g_callVi F (As := [.int (nI 0)]) (st := []) cv_X7_97 (dk dtX7_number_0 14 rfl) (by decide) (cm0 D B _ _) rfl rfl (Nat.le_of_ble_eq_true rfl) ⟨by decide, by decide⟩ (k_X7_takes_no l D B _ M a _ _ _ _ 0 hq) (fun r26 T26 M26 hp26 => ?_)
      obtain ⟨e1, e2, e3⟩ := hp26
      replace e1 := e1.symm; replace e2 := e2.symm; replace e3 := e3.symm; subst e1; subst e2; subst e3
      refine g_iret (F := F) hQ (dk dtX7_number_0 15 rfl) ?_
      exact ⟨rfl, rfl, rfl⟩
    · -- not taken at 18
      refine g_iconst F (nI 1) (dk dtX7_number_0 11 rfl) (by decide) ?_
      refine g_goto F 26 (dk dtX7_number_0 12 rfl) (by decide) ?_
      refine g_callVi F (As := [.int (nI 1)]) (st := []) cv_X7_97 (dk dtX7_number_0 14 rfl) (by decide) (cm0 D B _ _) rfl rfl (Nat.le_of_ble_eq_true rfl) ⟨by decide, by decide⟩ (k_X7_takes_no l D B _ M a _ _ _ _ 1 hq) (fun r26 T26 M26 hp26 => ?_)
      obtain ⟨e1, e2, e3⟩ := hp26
      replace e1 := e1.symm; replace e2 := e2.symm; replace e3 := e3.symm; subst e1; subst e2; subst e3
      refine g_iret (F := F) hQ (dk dtX7_number_0 15 rfl) ?_
      exact ⟨rfl, rfl, rfl⟩
set_option maxRecDepth 100000 in
set_option maxHeartbeats 4000000 in
theorem k_X7_number_ok (l : Launch) (D : DX) (B : Nat) (T : Int64) (M : Mem) (a : Nat) (s v q : Int32) (n : Nat) (hn : M 0 3 = nI n) (hn9 : n ≤ 150) (hL : ∀ j, j < n → inR (M 1 j) 256) (han : a ≤ n) (lo hi : Int32) (hq : q < 0) (hin : ¬ v < lo ∧ ¬ hi < v) : Ci l D B 14 (celM D B) yX7_number cX7_number 3 (some .int) 4 [.ref (B + 0), .int lo, .int hi] T (tym M (nI a) (nI 2) s v q) (fun rz T1 M1 => rz = v ∧ T1 = T ∧ M1 = tym M (nI (tn (M 1) n a)) (nI (tkd (M 1) n a)) (nI (sk (M 1) n a)) (vl (M 1) n a v) q) := by
  refine g_entryi (L := [(0, .ref (B + 0)), (1, .int lo), (2, .int hi)]) (by decide) (Nat.le_of_ble_eq_true rfl) rfl ?_
  intro zp ze zs zm zb zt zc Q F hQ
  refine g_aload_n F 0 (dk dtX7_number_0 0 rfl) rfl ?_
  refine g_aload_n F 0 (dk dtX7_number_0 1 rfl) rfl ?_
  refine g_get F fa_X7_77 (dk dtX7_number_0 2 rfl) (by decide) (cm0 D B _ _) rfl ?_
  refine g_top (tym_5 _ _ _ _ _ _) ?_
  refine g_iconst F (nI 2) (dk dtX7_number_0 3 rfl) (by decide) ?_
  refine g_icmp_neN F 25 (dk dtX7_number_0 4 rfl) (by decide) (by decide) (by decide) (fun c => absurd c (by decide)) (fun _ => ?_)
  refine g_aload_n F 0 (dk dtX7_number_0 5 rfl) rfl ?_
  refine g_get F fa_X7_80 (dk dtX7_number_0 6 rfl) (by decide) (cm0 D B _ _) rfl ?_
  refine g_top (tym_7 _ _ _ _ _ _) ?_
  refine g_iload_n F 1 (dk dtX7_number_0 7 rfl) rfl ?_
  refine g_iload_n F 2 (dk dtX7_number_0 8 rfl) rfl ?_
  refine g_callSi F (As := [.int v, .int lo, .int hi]) (st := [.ref (B + 0)]) cs_X7_60 (dk dtX7_number_0 9 rfl) rfl rfl (Nat.le_of_ble_eq_true rfl) ⟨by decide, by decide⟩ (k_X7_in l D B _ _ _ _ _) (fun r15 T15 M15 hp15 => ?_)
  obtain ⟨e1, e2, e3⟩ := hp15
  replace e1 := e1.symm; replace e2 := e2.symm; replace e3 := e3.symm; subst e1; subst e2; subst e3
  refine g_if_eqB F 25 (dk dtX7_number_0 10 rfl) (by decide) (fun c18 => ?_) (fun c18 => ?_)
  · -- taken at 18
    exact absurd hin c18
  · -- not taken at 18
    refine g_iconst F (nI 1) (dk dtX7_number_0 11 rfl) (by decide) ?_
    refine g_goto F 26 (dk dtX7_number_0 12 rfl) (by decide) ?_
    refine g_callVi F (As := [.int (nI 1)]) (st := []) cv_X7_97 (dk dtX7_number_0 14 rfl) (by decide) (cm0 D B _ _) rfl rfl (Nat.le_of_ble_eq_true rfl) ⟨by decide, by decide⟩ (k_X7_takes_ok l D B _ M a _ _ _ _ n hn hn9 hL han hq) (fun r26 T26 M26 hp26 => ?_)
    obtain ⟨e1, e2, e3⟩ := hp26
    replace e1 := e1.symm; replace e2 := e2.symm; replace e3 := e3.symm; subst e1; subst e2; subst e3
    refine g_iret (F := F) hQ (dk dtX7_number_0 15 rfl) ?_
    exact ⟨rfl, rfl, rfl⟩
set_option maxRecDepth 100000 in
set_option maxHeartbeats 4000000 in
theorem k_X7_number_bad (l : Launch) (D : DX) (B : Nat) (T : Int64) (M : Mem) (a k : Nat) (s v q : Int32) (hk : k < 9) (lo hi : Int32) (hq : q < 0) (hin : ¬ (k = 2 ∧ ¬ v < lo ∧ ¬ hi < v)) : Ci l D B 14 (celM D B) yX7_number cX7_number 3 (some .int) 4 [.ref (B + 0), .int lo, .int hi] T (tym M (nI a) (nI k) s v q) (fun rz T1 M1 => rz = nI 0 ∧ T1 = T ∧ M1 = tym M (nI a) (nI k) s v s) := by
  refine g_entryi (L := [(0, .ref (B + 0)), (1, .int lo), (2, .int hi)]) (by decide) (Nat.le_of_ble_eq_true rfl) rfl ?_
  intro zp ze zs zm zb zt zc Q F hQ
  refine g_aload_n F 0 (dk dtX7_number_0 0 rfl) rfl ?_
  refine g_aload_n F 0 (dk dtX7_number_0 1 rfl) rfl ?_
  refine g_get F fa_X7_77 (dk dtX7_number_0 2 rfl) (by decide) (cm0 D B _ _) rfl ?_
  refine g_top (tym_5 _ _ _ _ _ _) ?_
  refine g_iconst F (nI 2) (dk dtX7_number_0 3 rfl) (by decide) ?_
  refine g_icmp_neN F 25 (dk dtX7_number_0 4 rfl) (by decide) (by omega) (by omega) (fun c6 => ?_) (fun c6 => ?_)
  · -- taken at 6
    refine g_iconst F (nI 0) (dk dtX7_number_0 13 rfl) (by decide) ?_
    refine g_callVi F (As := [.int (nI 0)]) (st := []) cv_X7_97 (dk dtX7_number_0 14 rfl) (by decide) (cm0 D B _ _) rfl rfl (Nat.le_of_ble_eq_true rfl) ⟨by decide, by decide⟩ (k_X7_takes_bad l D B _ M a _ _ _ _ hq) (fun r26 T26 M26 hp26 => ?_)
    obtain ⟨e1, e2, e3⟩ := hp26
    replace e1 := e1.symm; replace e2 := e2.symm; replace e3 := e3.symm; subst e1; subst e2; subst e3
    refine g_iret (F := F) hQ (dk dtX7_number_0 15 rfl) ?_
    exact ⟨rfl, rfl, rfl⟩
  · -- not taken at 6
    refine g_aload_n F 0 (dk dtX7_number_0 5 rfl) rfl ?_
    refine g_get F fa_X7_80 (dk dtX7_number_0 6 rfl) (by decide) (cm0 D B _ _) rfl ?_
    refine g_top (tym_7 _ _ _ _ _ _) ?_
    refine g_iload_n F 1 (dk dtX7_number_0 7 rfl) rfl ?_
    refine g_iload_n F 2 (dk dtX7_number_0 8 rfl) rfl ?_
    refine g_callSi F (As := [.int v, .int lo, .int hi]) (st := [.ref (B + 0)]) cs_X7_60 (dk dtX7_number_0 9 rfl) rfl rfl (Nat.le_of_ble_eq_true rfl) ⟨by decide, by decide⟩ (k_X7_in l D B _ _ _ _ _) (fun r15 T15 M15 hp15 => ?_)
    obtain ⟨e1, e2, e3⟩ := hp15
    replace e1 := e1.symm; replace e2 := e2.symm; replace e3 := e3.symm; subst e1; subst e2; subst e3
    refine g_if_eqB F 25 (dk dtX7_number_0 10 rfl) (by decide) (fun c18 => ?_) (fun c18 => ?_)
    · -- taken at 18
      refine g_iconst F (nI 0) (dk dtX7_number_0 13 rfl) (by decide) ?_
      refine g_callVi F (As := [.int (nI 0)]) (st := []) cv_X7_97 (dk dtX7_number_0 14 rfl) (by decide) (cm0 D B _ _) rfl rfl (Nat.le_of_ble_eq_true rfl) ⟨by decide, by decide⟩ (k_X7_takes_bad l D B _ M a _ _ _ _ hq) (fun r26 T26 M26 hp26 => ?_)
      obtain ⟨e1, e2, e3⟩ := hp26
      replace e1 := e1.symm; replace e2 := e2.symm; replace e3 := e3.symm; subst e1; subst e2; subst e3
      refine g_iret (F := F) hQ (dk dtX7_number_0 15 rfl) ?_
      exact ⟨rfl, rfl, rfl⟩
    · -- not taken at 18
      exact absurd ⟨c6, c18⟩ hin
set_option maxRecDepth 100000 in
set_option maxHeartbeats 4000000 in
theorem k_X7_begins (l : Launch) (D : DX) (B : Nat) (T : Int64) (M : Mem)  : Cv l D B 14 (celM D B) yX7_begins cX7_begins 2 none 0 [.ref (B + 0)] T M (fun T1 M1 => T1 = T ∧ M1 = setR (bg0 M) 4 (fun _ => nI 0)) := by
  refine g_entryv (L := [(0, .ref (B + 0))]) (by decide) (Nat.le_of_ble_eq_true rfl) rfl ?_
  intro zp ze zs zm zb zt zc Q F hQ
  refine g_aload_n F 0 (dk dtX7_begins_0 0 rfl) rfl ?_
  refine g_iconst F (nI 0) (dk dtX7_begins_0 1 rfl) (by decide) ?_
  refine g_put F fa_X7_101 (dk dtX7_begins_0 2 rfl) (by decide) (cm0 D B _ _) (Nat.le_of_ble_eq_true rfl) rfl rfl ((cm0 D B _ _).trans st_Mod_9) ?_
  refine g_aload_n F 0 (dk dtX7_begins_0 3 rfl) rfl ?_
  refine g_get F fa_X7_13 (dk dtX7_begins_0 4 rfl) (by decide) (cm0 D B _ _) rfl ?_
  refine g_iconst F (nI 3) (dk dtX7_begins_0 5 rfl) (by decide) ?_
  refine g_iconst F (nI 3) (dk dtX7_begins_0 6 rfl) (by decide) ?_
  refine g_iast F (3) (dk dtX7_begins_0 7 rfl) (by decide) (fun r => cm2 D B _ r) (by omega) (by decide) ?_
  refine g_aload_n F 0 (dk dtX7_begins_0 8 rfl) rfl ?_
  refine g_get F fa_X7_13 (dk dtX7_begins_0 9 rfl) (by decide) (cm0 D B _ _) rfl ?_
  refine g_iconst F (nI 4) (dk dtX7_begins_0 10 rfl) (by decide) ?_
  refine g_iconst F (nI 2) (dk dtX7_begins_0 11 rfl) (by decide) ?_
  refine g_iast F (4) (dk dtX7_begins_0 12 rfl) (by decide) (fun r => cm2 D B _ r) (by omega) (by decide) ?_
  refine g_aload_n F 0 (dk dtX7_begins_0 13 rfl) rfl ?_
  refine g_get F fa_X7_13 (dk dtX7_begins_0 14 rfl) (by decide) (cm0 D B _ _) rfl ?_
  refine g_iconst F (nI 5) (dk dtX7_begins_0 15 rfl) (by decide) ?_
  refine g_iconst F (nI 0) (dk dtX7_begins_0 16 rfl) (by decide) ?_
  refine g_iast F (5) (dk dtX7_begins_0 17 rfl) (by decide) (fun r => cm2 D B _ r) (by omega) (by decide) ?_
  refine g_iconst F (nI 0) (dk dtX7_begins_0 18 rfl) (by decide) ?_
  refine g_istore_n F [(1, .int (nI 0)), (0, .ref (B + 0))] (dk dtX7_begins_0 19 rfl) (by decide) rfl ?_
  have lp28 : ∀ (fz : Nat) (i : Nat), i ≤ 31 → (31 - i) < fz → G zp l ze { frames := 0, cells := 0, slots := 0, locals := 40 * 0 } zs zm [.ref (B + 0)].toArray zb zt zc 2 D B 14 (celM D B) Q T (setR (bg0 M) 4 (fl (M 4) (nI 0) i)) 28 [(0, .ref (B + 0)), (1, .int (nI i))] [] := by
    intro n28
    induction n28 with
    | zero => intro i hI hn; exact absurd hn (Nat.not_lt_zero _)
    | succ n28 ih28 =>
      intro i hI28 hn28
      refine g_iload_n F 1 (dk dtX7_begins_0 20 rfl) rfl ?_
      refine g_bipush F (nI 31) (dk dtX7_begins_0 21 rfl) (by decide) ?_
      refine g_icmp_geN F 47 (dk dtX7_begins_0 22 rfl) (by decide) (by omega) (by omega) (fun c31 => ?_) (fun c31 => ?_)
      · -- taken at 31
        obtain rfl : 31 = i := by omega
        refine g_row (fun _ => nI 0) (fun r => cm4 D B _ r) (fun j hj => by rw [setR_self]; simp [fl, hj]) ?_
        refine g_mem (setR_setR _ _ _ _) ?_
        refine g_vret (F := F) hQ (dk dtX7_begins_0 30 rfl) ?_
        exact ⟨rfl, rfl⟩
      · -- not taken at 31
        refine g_aload_n F 0 (dk dtX7_begins_0 23 rfl) rfl ?_
        refine g_get F fa_X7_19 (dk dtX7_begins_0 24 rfl) (by decide) (cm0 D B _ _) rfl ?_
        refine g_iload_n F 1 (dk dtX7_begins_0 25 rfl) rfl ?_
        refine g_iconst F (nI 0) (dk dtX7_begins_0 26 rfl) (by decide) ?_
        refine g_iast F (i) (dk dtX7_begins_0 27 rfl) (by decide) (fun r => cm4 D B _ r) (by omega) (by decide) ?_
        refine g_iinc F 1 (nI (i + 1)) [(1, .int (nI (i + 1))), (0, .ref (B + 0))] (dk dtX7_begins_0 28 rfl) rfl (nI_1 _) (by decide) rfl ?_
        refine g_goto F 28 (dk dtX7_begins_0 29 rfl) (by decide) ?_
        refine g_sub [1, 0] (L1 := [(0, .ref (B + 0)), (1, .int (nI (i + 1)))]) rfl ?_
        refine g_st (M1 := setR (bg0 M) 4 (fl (M 4) (nI 0) (i + 1))) (L1 := [(0, .ref (B + 0)), (1, .int (nI (i + 1)))]) (by rw [up2_setR]; exact congrArg (setR _ 4) (fl_s1 _ _ _)) rfl rfl ?_
        exact ih28 (i + 1) (by omega) (by omega)
  refine g_sub [1, 0] (L1 := [(0, .ref (B + 0)), (1, .int (nI 0))]) rfl ?_
  exact g_mem (bg_0 M) (lp28 32 0 (by omega) (by omega))
