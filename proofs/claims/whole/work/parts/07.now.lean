def adS (M : Mem) (a p k : Nat) (t : Int32) : Mem := up2 (up2 M (a + 3) (p * 4 + k) (M (a + 3) (p * 4 + k) + t)) (a + 4) p (M (a + 4) p + t)
theorem adS_eq (M : Mem) (a p k : Nat) (t : Int32) : up2 (up2 M (a + 3) (p * 4 + k) (M (a + 3) (p * 4 + k) + t)) (a + 4) p (up2 M (a + 3) (p * 4 + k) (M (a + 3) (p * 4 + k) + t) (a + 4) p + t) = adS M a p k t := by
  unfold adS
  rw [up2_ne M _ (show a + 4 ≠ a + 3 by omega)]
def seeS (M : Mem) (a p k : Nat) : Mem := if M (a + 3) (p * 4 + k) < nI 999 then adS M a p k (nI 1) else M
def crS (M : Mem) (a : Nat) (p : Int32) : Mem := if p = M a 0 ∨ p < 0 ∨ nI 5 ≤ p then M else up2 (up2 M a 0 p) (a + 2) p.toNatClampNeg (M (a + 2) p.toNatClampNeg + nI 1)
set_option maxRecDepth 100000 in
set_option maxHeartbeats 4000000 in
theorem k_X2_seenOf (l : Launch) (D : DX) (B : Nat) (T : Int64) (M : Mem) (a : Nat) (ha : IsNow D B a) (p k : Nat) (hp : p < 5) (hk : k < 4) : Ci l D B 108 (celC D B) yX2_seenOf cX2_seenOf 3 (some .int) 0 [.ref (B + a), .int (nI p), .int (nI k)] T M (fun r T1 M1 => r = M (a + 3) (p * 4 + k) ∧ T1 = T ∧ M1 = M) := by
  refine g_entryi (L := [(0, .ref (B + a)), (1, .int (nI p)), (2, .int (nI k))]) (by decide) (Nat.le_of_ble_eq_true rfl) rfl ?_
  intro zp ze zs zm zb zt zc Q F hQ
  refine g_aload_n F 0 (dk dtX2_seenOf_0 0 rfl) rfl ?_
  refine g_get F fa_X2_22 (dk dtX2_seenOf_0 1 rfl) (by have := ha.1; omega) (ha.2.1 _ _) rfl ?_
  refine g_iload_n F 1 (dk dtX2_seenOf_0 2 rfl) rfl ?_
  refine g_iconst F (nI 4) (dk dtX2_seenOf_0 3 rfl) (by decide) ?_
  refine g_imulN F (dk dtX2_seenOf_0 4 rfl) ?_
  refine g_iload_n F 2 (dk dtX2_seenOf_0 5 rfl) rfl ?_
  refine g_iaddN F (dk dtX2_seenOf_0 6 rfl) ?_
  refine g_iald F ((p * 4) + k) (dk dtX2_seenOf_0 7 rfl) (by have := ha.1; omega) (ha.2.2.2.2.1 _ _) (by omega) (by decide) ?_
  refine g_iret (F := F) hQ (dk dtX2_seenOf_0 8 rfl) ?_
  exact ⟨rfl, rfl, rfl⟩
set_option maxRecDepth 100000 in
set_option maxHeartbeats 4000000 in
theorem k_X2_addSeen (l : Launch) (D : DX) (B : Nat) (T : Int64) (M : Mem) (a : Nat) (ha : IsNow D B a) (p k : Nat) (hp : p < 5) (hk : k < 4) (t : Int32) : Cv l D B 108 (celC D B) yX2_addSeen cX2_addSeen 4 none 0 [.ref (B + a), .int (nI p), .int (nI k), .int t] T M (fun T1 M1 => T1 = T ∧ M1 = adS M a p k t) := by
  refine g_entryv (L := [(0, .ref (B + a)), (1, .int (nI p)), (2, .int (nI k)), (3, .int t)]) (by decide) (Nat.le_of_ble_eq_true rfl) rfl ?_
  intro zp ze zs zm zb zt zc Q F hQ
  refine g_aload_n F 0 (dk dtX2_addSeen_0 0 rfl) rfl ?_
  refine g_get F fa_X2_22 (dk dtX2_addSeen_0 1 rfl) (by have := ha.1; omega) (ha.2.1 _ _) rfl ?_
  refine g_iload_n F 1 (dk dtX2_addSeen_0 2 rfl) rfl ?_
  refine g_iconst F (nI 4) (dk dtX2_addSeen_0 3 rfl) (by decide) ?_
  refine g_imulN F (dk dtX2_addSeen_0 4 rfl) ?_
  refine g_iload_n F 2 (dk dtX2_addSeen_0 5 rfl) rfl ?_
  refine g_iaddN F (dk dtX2_addSeen_0 6 rfl) ?_
  refine g_dup2 F (dk dtX2_addSeen_0 7 rfl) rfl rfl ?_
  refine g_iald F ((p * 4) + k) (dk dtX2_addSeen_0 8 rfl) (by have := ha.1; omega) (ha.2.2.2.2.1 _ _) (by omega) (by decide) ?_
  refine g_iload_n F 3 (dk dtX2_addSeen_0 9 rfl) rfl ?_
  refine g_iadd F (dk dtX2_addSeen_0 10 rfl) ?_
  refine g_iast F ((p * 4) + k) (dk dtX2_addSeen_0 11 rfl) (by have := ha.1; omega) (fun r => ha.2.2.2.2.1 _ r) (by omega) (by decide) ?_
  refine g_aload_n F 0 (dk dtX2_addSeen_0 12 rfl) rfl ?_
  refine g_get F fa_X2_25 (dk dtX2_addSeen_0 13 rfl) (by have := ha.1; omega) (ha.2.1 _ _) rfl ?_
  refine g_iload_n F 1 (dk dtX2_addSeen_0 14 rfl) rfl ?_
  refine g_dup2 F (dk dtX2_addSeen_0 15 rfl) rfl rfl ?_
  refine g_iald F (p) (dk dtX2_addSeen_0 16 rfl) (by have := ha.1; omega) (ha.2.2.2.2.2 _ _) (by omega) (by decide) ?_
  refine g_iload_n F 3 (dk dtX2_addSeen_0 17 rfl) rfl ?_
  refine g_iadd F (dk dtX2_addSeen_0 18 rfl) ?_
  refine g_iast F (p) (dk dtX2_addSeen_0 19 rfl) (by have := ha.1; omega) (fun r => ha.2.2.2.2.2 _ r) (by omega) (by decide) ?_
  refine g_vret (F := F) hQ (dk dtX2_addSeen_0 20 rfl) ?_
  exact ⟨rfl, adS_eq _ _ _ _ _⟩
set_option maxRecDepth 100000 in
set_option maxHeartbeats 4000000 in
theorem k_X2_see (l : Launch) (D : DX) (B : Nat) (T : Int64) (M : Mem) (a : Nat) (ha : IsNow D B a) (p k : Nat) (hp : p < 5) (hk : k < 4) : Cv l D B 108 (celC D B) yX2_see cX2_see 3 none 1 [.ref (B + a), .int (nI p), .int (nI k)] T M (fun T1 M1 => T1 = T ∧ M1 = seeS M a p k) := by
  refine g_entryv (L := [(0, .ref (B + a)), (1, .int (nI p)), (2, .int (nI k))]) (by decide) (Nat.le_of_ble_eq_true rfl) rfl ?_
  intro zp ze zs zm zb zt zc Q F hQ
  refine g_aload_n F 0 (dk dtX2_see_0 0 rfl) rfl ?_
  refine g_iload_n F 1 (dk dtX2_see_0 1 rfl) rfl ?_
  refine g_iload_n F 2 (dk dtX2_see_0 2 rfl) rfl ?_
  refine g_callVi F (As := [.int (nI p), .int (nI k)]) (st := []) cv_X2_40 (dk dtX2_see_0 3 rfl) (by have := ha.1; omega) (ha.2.1 _ _) rfl rfl (Nat.le_of_ble_eq_true rfl) ⟨by decide, by decide⟩ (k_X2_seenOf l D B _ _ a ha _ _ (by omega) (by omega)) (fun r3 T3 M3 hp3 => ?_)
  obtain ⟨e1, e2, e3⟩ := hp3
  replace e1 := e1.symm; replace e2 := e2.symm; replace e3 := e3.symm; subst e1; subst e2; subst e3
  refine g_sipush F (nI 999) (dk dtX2_see_0 4 rfl) (by decide) ?_
  refine g_icmp_ge F 19 (dk dtX2_see_0 5 rfl) (by decide) (fun c9 => ?_) (fun c9 => ?_)
  · -- taken at 9
    refine g_vret (F := F) hQ (dk dtX2_see_0 11 rfl) ?_
    exact ⟨rfl, by first | exact (if_pos (Int32.not_le.mp c9)).symm | exact (if_neg (Int32.not_lt.mpr c9)).symm⟩
  · -- not taken at 9
    refine g_aload_n F 0 (dk dtX2_see_0 6 rfl) rfl ?_
    refine g_iload_n F 1 (dk dtX2_see_0 7 rfl) rfl ?_
    refine g_iload_n F 2 (dk dtX2_see_0 8 rfl) rfl ?_
    refine g_iconst F (nI 1) (dk dtX2_see_0 9 rfl) (by decide) ?_
    refine g_callVv F (As := [.int (nI p), .int (nI k), .int (nI 1)]) (st := []) cv_X2_44 (dk dtX2_see_0 10 rfl) (by have := ha.1; omega) (ha.2.1 _ _) rfl rfl (Nat.le_of_ble_eq_true rfl) ⟨by decide, by decide⟩ (k_X2_addSeen l D B _ _ a ha _ _ (by omega) (by omega) _) (fun T16 M16 hp16 => ?_)
    obtain ⟨e2, e3⟩ := hp16
    replace e2 := e2.symm; replace e3 := e3.symm; subst e2; subst e3
    refine g_vret (F := F) hQ (dk dtX2_see_0 11 rfl) ?_
    exact ⟨rfl, by first | exact (if_pos (Int32.not_le.mp c9)).symm | exact (if_neg (Int32.not_lt.mpr c9)).symm⟩
set_option maxRecDepth 100000 in
set_option maxHeartbeats 4000000 in
theorem k_X2_crown (l : Launch) (D : DX) (B : Nat) (T : Int64) (M : Mem) (a : Nat) (ha : IsNow D B a) (p : Int32) : Cv l D B 108 (celC D B) yX2_crown cX2_crown 2 none 0 [.ref (B + a), .int p] T M (fun T1 M1 => T1 = T ∧ M1 = crS M a p) := by
  refine g_entryv (L := [(0, .ref (B + a)), (1, .int p)]) (by decide) (Nat.le_of_ble_eq_true rfl) rfl ?_
  intro zp ze zs zm zb zt zc Q F hQ
  refine g_iload_n F 1 (dk dtX2_crown_0 0 rfl) rfl ?_
  refine g_aload_n F 0 (dk dtX2_crown_0 1 rfl) rfl ?_
  refine g_get F fa_X2_9 (dk dtX2_crown_0 2 rfl) (by have := ha.1; omega) (ha.2.1 _ _) rfl ?_
  refine g_icmp_eq F 17 (dk dtX2_crown_0 3 rfl) (by decide) (fun c5 => ?_) (fun c5 => ?_)
  · -- taken at 5
    refine g_vret (F := F) hQ (dk dtX2_crown_0 9 rfl) ?_
    refine ⟨rfl, (if_pos ?_).symm⟩
    first | exact Or.inl c5 | exact Or.inr (Or.inl c9) | exact Or.inr (Or.inr (Int32.not_lt.mp c14))
  · -- not taken at 5
    refine g_iload_n F 1 (dk dtX2_crown_0 4 rfl) rfl ?_
    refine g_if_lt F 17 (dk dtX2_crown_0 5 rfl) (by decide) (fun c9 => ?_) (fun c9 => ?_)
    · -- taken at 9
      refine g_vret (F := F) hQ (dk dtX2_crown_0 9 rfl) ?_
      refine ⟨rfl, (if_pos ?_).symm⟩
      first | exact Or.inl c5 | exact Or.inr (Or.inl c9) | exact Or.inr (Or.inr (Int32.not_lt.mp c14))
    · -- not taken at 9
      refine g_iload_n F 1 (dk dtX2_crown_0 6 rfl) rfl ?_
      refine g_iconst F (nI 5) (dk dtX2_crown_0 7 rfl) (by decide) ?_
      refine g_icmp_lt F 18 (dk dtX2_crown_0 8 rfl) (by decide) (fun c14 => ?_) (fun c14 => ?_)
      · -- taken at 14
        obtain ⟨q, hq, rfl⟩ := nI_of3 (by decide) c9 c14
        refine g_aload_n F 0 (dk dtX2_crown_0 10 rfl) rfl ?_
        refine g_iload_n F 1 (dk dtX2_crown_0 11 rfl) rfl ?_
        refine g_put F fa_X2_9 (dk dtX2_crown_0 12 rfl) (by have := ha.1; omega) (ha.2.1 _ _) (Nat.le_of_ble_eq_true rfl) rfl rfl ((ha.2.1 _ _).trans st_Now_0) ?_
        refine g_aload_n F 0 (dk dtX2_crown_0 13 rfl) rfl ?_
        refine g_get F fa_X2_19 (dk dtX2_crown_0 14 rfl) (by have := ha.1; omega) (ha.2.1 _ _) rfl ?_
        refine g_iload_n F 1 (dk dtX2_crown_0 15 rfl) rfl ?_
        refine g_dup2 F (dk dtX2_crown_0 16 rfl) rfl rfl ?_
        refine g_iald F (q) (dk dtX2_crown_0 17 rfl) (by have := ha.1; omega) (ha.2.2.2.1 _ _) (by omega) (by decide) ?_
        refine g_iconst F (nI 1) (dk dtX2_crown_0 18 rfl) (by decide) ?_
        refine g_iadd F (dk dtX2_crown_0 19 rfl) ?_
        refine g_iast F (q) (dk dtX2_crown_0 20 rfl) (by have := ha.1; omega) (fun r => ha.2.2.2.1 _ r) (by omega) (by decide) ?_
        refine g_vret (F := F) hQ (dk dtX2_crown_0 21 rfl) ?_
        refine ⟨rfl, ?_⟩
        have h1 : ¬ (nI q = M a 0 ∨ nI q < 0 ∨ nI 5 ≤ nI q) := fun h => by
          rcases h with h | h | h
          · exact c5 h
          · exact c9 h
          · exact absurd c14 (Int32.not_lt.mpr h)
        unfold crS
        rw [if_neg h1, nI_clamp (by omega)]
        rw [up2_ne _ _ (show a + 2 ≠ a by omega)]
      · -- not taken at 14
        refine g_vret (F := F) hQ (dk dtX2_crown_0 9 rfl) ?_
        refine ⟨rfl, (if_pos ?_).symm⟩
        first | exact Or.inl c5 | exact Or.inr (Or.inl c9) | exact Or.inr (Or.inr (Int32.not_lt.mp c14))
set_option maxRecDepth 100000 in
set_option maxHeartbeats 4000000 in
theorem k_X2_allTerms (l : Launch) (D : DX) (B : Nat) (T : Int64) (M : Mem) (a : Nat) (ha : IsNow D B a) : Ci l D B 108 (celC D B) yX2_allTerms cX2_allTerms 3 (some .int) 0 [.ref (B + a)] T M (fun r T1 M1 => r = nSum (M (a + 2)) 5 ∧ T1 = T ∧ M1 = M) := by
  refine g_entryi (L := [(0, .ref (B + a))]) (by decide) (Nat.le_of_ble_eq_true rfl) rfl ?_
  intro zp ze zs zm zb zt zc Q F hQ
  refine g_iconst F (nI 0) (dk dtX2_allTerms_0 0 rfl) (by decide) ?_
  refine g_istore_n F [(1, .int (nI 0)), (0, .ref (B + a))] (dk dtX2_allTerms_0 1 rfl) (by decide) rfl ?_
  refine g_iconst F (nI 0) (dk dtX2_allTerms_0 2 rfl) (by decide) ?_
  refine g_istore_n F [(2, .int (nI 0)), (1, .int (nI 0)), (0, .ref (B + a))] (dk dtX2_allTerms_0 3 rfl) (by decide) rfl ?_
  have lp4 : ∀ (fz : Nat) (i : Nat), i ≤ 5 → (5 - i) < fz → G zp l ze { frames := 0, cells := 0, slots := 0, locals := 40 * 0 } zs zm [.ref (B + a)].toArray zb zt zc 3 D B 108 (celC D B) Q T M 4 [(0, .ref (B + a)), (1, .int (nSum (M (a + 2)) i)), (2, .int (nI i))] [] := by
    intro n4
    induction n4 with
    | zero => intro i hI hn; exact absurd hn (Nat.not_lt_zero _)
    | succ n4 ih4 =>
      intro i hI4 hn4
      refine g_iload_n F 2 (dk dtX2_allTerms_0 4 rfl) rfl ?_
      refine g_iconst F (nI 5) (dk dtX2_allTerms_0 5 rfl) (by decide) ?_
      refine g_icmp_geN F 24 (dk dtX2_allTerms_0 6 rfl) (by decide) (by omega) (by omega) (fun c6 => ?_) (fun c6 => ?_)
      · -- taken at 6
        obtain rfl : 5 = i := by omega
        refine g_iload_n F 1 (dk dtX2_allTerms_0 16 rfl) rfl ?_
        refine g_iret (F := F) hQ (dk dtX2_allTerms_0 17 rfl) ?_
        exact ⟨rfl, rfl, rfl⟩
      · -- not taken at 6
        refine g_iload_n F 1 (dk dtX2_allTerms_0 7 rfl) rfl ?_
        refine g_aload_n F 0 (dk dtX2_allTerms_0 8 rfl) rfl ?_
        refine g_get F fa_X2_19 (dk dtX2_allTerms_0 9 rfl) (by have := ha.1; omega) (ha.2.1 _ _) rfl ?_
        refine g_iload_n F 2 (dk dtX2_allTerms_0 10 rfl) rfl ?_
        refine g_iald F (i) (dk dtX2_allTerms_0 11 rfl) (by have := ha.1; omega) (ha.2.2.2.1 _ _) (by omega) (by decide) ?_
        refine g_iadd F (dk dtX2_allTerms_0 12 rfl) ?_
        refine g_istore_n F [(1, .int ((nSum (M (a + 2)) i) + (M (a + 2) i))), (0, .ref (B + a)), (2, .int (nI i))] (dk dtX2_allTerms_0 13 rfl) (by decide) rfl ?_
        refine g_iinc F 2 (nI (i + 1)) [(2, .int (nI (i + 1))), (1, .int ((nSum (M (a + 2)) i) + (M (a + 2) i))), (0, .ref (B + a))] (dk dtX2_allTerms_0 14 rfl) rfl (nI_1 _) (by decide) rfl ?_
        refine g_goto F 4 (dk dtX2_allTerms_0 15 rfl) (by decide) ?_
        refine g_sub [2, 1, 0] (L1 := [(0, .ref (B + a)), (1, .int ((nSum (M (a + 2)) i) + (M (a + 2) i))), (2, .int (nI (i + 1)))]) rfl ?_
        exact ih4 (i + 1) (by omega) (by omega)
  refine g_sub [2, 1, 0] (L1 := [(0, .ref (B + a)), (1, .int (nI 0)), (2, .int (nI 0))]) rfl ?_
  exact lp4 6 0 (by omega) (by omega)
set_option maxRecDepth 100000 in
set_option maxHeartbeats 4000000 in
theorem k_X2_termHolders (l : Launch) (D : DX) (B : Nat) (T : Int64) (M : Mem) (a : Nat) (ha : IsNow D B a) : Ci l D B 108 (celC D B) yX2_termHolders cX2_termHolders 3 (some .int) 0 [.ref (B + a)] T M (fun r T1 M1 => r = nI (nCnt (M (a + 2)) 5) ∧ T1 = T ∧ M1 = M) := by
  refine g_entryi (L := [(0, .ref (B + a))]) (by decide) (Nat.le_of_ble_eq_true rfl) rfl ?_
  intro zp ze zs zm zb zt zc Q F hQ
  refine g_iconst F (nI 0) (dk dtX2_termHolders_0 0 rfl) (by decide) ?_
  refine g_istore_n F [(1, .int (nI 0)), (0, .ref (B + a))] (dk dtX2_termHolders_0 1 rfl) (by decide) rfl ?_
  refine g_iconst F (nI 0) (dk dtX2_termHolders_0 2 rfl) (by decide) ?_
  refine g_istore_n F [(2, .int (nI 0)), (1, .int (nI 0)), (0, .ref (B + a))] (dk dtX2_termHolders_0 3 rfl) (by decide) rfl ?_
  have lp4 : ∀ (fz : Nat) (i : Nat), i ≤ 5 → (5 - i) < fz → G zp l ze { frames := 0, cells := 0, slots := 0, locals := 40 * 0 } zs zm [.ref (B + a)].toArray zb zt zc 3 D B 108 (celC D B) Q T M 4 [(0, .ref (B + a)), (1, .int (nI (nCnt (M (a + 2)) i))), (2, .int (nI i))] [] := by
    intro n4
    induction n4 with
    | zero => intro i hI hn; exact absurd hn (Nat.not_lt_zero _)
    | succ n4 ih4 =>
      intro i hI4 hn4
      refine g_iload_n F 2 (dk dtX2_termHolders_0 4 rfl) rfl ?_
      refine g_iconst F (nI 5) (dk dtX2_termHolders_0 5 rfl) (by decide) ?_
      refine g_icmp_geN F 27 (dk dtX2_termHolders_0 6 rfl) (by decide) (by omega) (by omega) (fun c6 => ?_) (fun c6 => ?_)
      · -- taken at 6
        obtain rfl : 5 = i := by omega
        refine g_iload_n F 1 (dk dtX2_termHolders_0 15 rfl) rfl ?_
        refine g_iret (F := F) hQ (dk dtX2_termHolders_0 16 rfl) ?_
        exact ⟨rfl, rfl, rfl⟩
      · -- not taken at 6
        refine g_aload_n F 0 (dk dtX2_termHolders_0 7 rfl) rfl ?_
        refine g_get F fa_X2_19 (dk dtX2_termHolders_0 8 rfl) (by have := ha.1; omega) (ha.2.1 _ _) rfl ?_
        refine g_iload_n F 2 (dk dtX2_termHolders_0 9 rfl) rfl ?_
        refine g_iald F (i) (dk dtX2_termHolders_0 10 rfl) (by have := ha.1; omega) (ha.2.2.2.1 _ _) (by omega) (by decide) ?_
        refine g_if_le F 21 (dk dtX2_termHolders_0 11 rfl) (by decide) (fun c15 => ?_) (fun c15 => ?_)
        · -- taken at 15
          refine g_iinc F 2 (nI (i + 1)) [(2, .int (nI (i + 1))), (0, .ref (B + a)), (1, .int (nI (nCnt (M (a + 2)) i)))] (dk dtX2_termHolders_0 13 rfl) rfl (nI_1 _) (by decide) rfl ?_
          refine g_goto F 4 (dk dtX2_termHolders_0 14 rfl) (by decide) ?_
          refine g_sub [1, 2, 0] (L1 := [(0, .ref (B + a)), (1, .int (nI (nCnt (M (a + 2)) i))), (2, .int (nI (i + 1)))]) rfl ?_
          have eq4_1 : (nI (nCnt (M (a + 2)) i) : Int32) = nI (nCnt (M (a + 2)) (i + 1)) := by
            simp [nCnt, c15]
          refine g_st (M1 := M) (L1 := [(0, .ref (B + a)), (1, .int (nI (nCnt (M (a + 2)) (i + 1)))), (2, .int (nI (i + 1)))]) rfl (lc rfl (lc (vi eq4_1) (lc rfl rfl))) rfl ?_
          exact ih4 (i + 1) (by omega) (by omega)
        · -- not taken at 15
          refine g_iinc F 1 (nI (nCnt (M (a + 2)) i + 1)) [(1, .int (nI (nCnt (M (a + 2)) i + 1))), (0, .ref (B + a)), (2, .int (nI i))] (dk dtX2_termHolders_0 12 rfl) rfl (nI_1 _) (by decide) rfl ?_
          refine g_iinc F 2 (nI (i + 1)) [(2, .int (nI (i + 1))), (1, .int (nI (nCnt (M (a + 2)) i + 1))), (0, .ref (B + a))] (dk dtX2_termHolders_0 13 rfl) rfl (nI_1 _) (by decide) rfl ?_
          refine g_goto F 4 (dk dtX2_termHolders_0 14 rfl) (by decide) ?_
          refine g_sub [2, 1, 0] (L1 := [(0, .ref (B + a)), (1, .int (nI (nCnt (M (a + 2)) i + 1))), (2, .int (nI (i + 1)))]) rfl ?_
          have eq4_1 : (nI (nCnt (M (a + 2)) i + 1) : Int32) = nI (nCnt (M (a + 2)) (i + 1)) := by
            simp [nCnt, c15]
          refine g_st (M1 := M) (L1 := [(0, .ref (B + a)), (1, .int (nI (nCnt (M (a + 2)) (i + 1)))), (2, .int (nI (i + 1)))]) rfl (lc rfl (lc (vi eq4_1) (lc rfl rfl))) rfl ?_
          exact ih4 (i + 1) (by omega) (by omega)
  refine g_sub [2, 1, 0] (L1 := [(0, .ref (B + a)), (1, .int (nI 0)), (2, .int (nI 0))]) rfl ?_
  exact lp4 6 0 (by omega) (by omega)
