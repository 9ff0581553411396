abbrev mbQ (P : Nat) (told v : Int32) : Prop := (v = nI 112 ∧ P < 5) ∨ (¬ v = nI 112 ∧ P = 0 ∧ told &&& (if v = nI 107 then nI 1 else nI 2) = 0)
theorem cpR_hi (f g : Nat → Int32) {n j : Nat} (h : n ≤ j) : cpR f g n j = g j := by simp [cpR, Nat.not_lt.mpr h]
theorem cpS_0 (M : Mem) (c : Nat) (f : Nat → Int32) : M = setR M c (cpR f (M c) 0) := by
  have h : cpR f (M c) 0 = M c := by
    funext j
    simp [cpR]
  rw [h, setR_same]
theorem cpS_1 (M : Mem) (f : Nat → Int32) : setR M 2 (cpR (fun j => M 2 (3 + j)) (M 2) 3) = setR (setR M 2 (cpR (fun j => M 2 (3 + j)) (M 2) 3)) 3 (cpR f (M 3) 0) := cpS_0 (setR M 2 (cpR (fun j => M 2 (3 + j)) (M 2) 3)) 3 f
def seM (M : Mem) : Mem := up2 (up2 (up2 (up2 (up2 (setR (setR (setR M 2 (cpR (fun j => M 2 (3 + j)) (M 2) 3)) 3 (cpR (fun j => M 3 (5 + j)) (M 3) 5)) 5 (M 4)) 0 3 (nI 0)) 0 22 (nI 0)) 0 18 (nI 0)) 8 0 (nI 0)) 8 1 (nI 0)
set_option maxRecDepth 100000 in
set_option maxHeartbeats 4000000 in
theorem k_X7_mayBegin (l : Launch) (D : DX) (B : Nat) (T : Int64) (M : Mem) (a t s v q : Int32) (P : Nat) (hP : M 2 5 = nI P) (hP5 : P ≤ 5) : Ci l D B 14 (celM D B) yX7_mayBegin cX7_mayBegin 2 (some .boolean) 0 [.ref (B + 0)] T (tym M a t s v q) (fun rz T1 M1 => rz = bI (mbQ P (M 0 9) v) ∧ T1 = T ∧ M1 = tym M a t s v q) := by
  refine g_entryi (L := [(0, .ref (B + 0))]) (by decide) (Nat.le_of_ble_eq_true rfl) rfl ?_
  intro zp ze zs zm zb zt zc Q F hQ
  refine g_aload_n F 0 (dk dtX7_mayBegin_0 0 rfl) rfl ?_
  refine g_get F fa_X7_13 (dk dtX7_mayBegin_0 1 rfl) (by decide) (cm0 D B _ _) rfl ?_
  refine g_iconst F (nI 5) (dk dtX7_mayBegin_0 2 rfl) (by decide) ?_
  refine g_iald F (5) (dk dtX7_mayBegin_0 3 rfl) (by decide) (cm2 D B _ _) (by omega) (by decide) ?_
  refine g_top (congrFun (tym_ne _ _ _ _ _ _ (by decide)) _) ?_
  refine g_top hP ?_
  refine g_istore_n F [(1, .int (nI P)), (0, .ref (B + 0))] (dk dtX7_mayBegin_0 4 rfl) (by decide) rfl ?_
  refine g_aload_n F 1 (dk dtX7_mayBegin_0 5 rfl) rfl ?_
  refine g_get F fa_X7_80 (dk dtX7_mayBegin_0 6 rfl) (by decide) (cm0 D B _ _) rfl ?_
  refine g_top (tym_7 _ _ _ _ _ _) ?_
  refine g_bipush F (nI 112) (dk dtX7_mayBegin_0 7 rfl) (by decide) ?_
  refine g_icmp_ne F 29 (dk dtX7_mayBegin_0 8 rfl) (by decide) (fun c13 => ?_) (fun c13 => ?_)
  · -- taken at 13
    refine g_iload_n F 0 (dk dtX7_mayBegin_0 16 rfl) rfl ?_
    refine g_if_neN F 59 (dk dtX7_mayBegin_0 17 rfl) (by decide) (by omega) (fun c30 => ?_) (fun c30 => ?_)
    · -- taken at 30
      refine g_iconst F (nI 0) (dk dtX7_mayBegin_0 31 rfl) (by decide) ?_
      refine g_zret (F := F) hQ (dk dtX7_mayBegin_0 32 rfl) (rfl) ?_
      exact ⟨(bI_f (fun q => q.elim (fun h => c13 h.1) (fun h => c30 h.2.1))).symm, rfl, rfl⟩
    · -- not taken at 30
      refine g_aload_n F 1 (dk dtX7_mayBegin_0 18 rfl) rfl ?_
      refine g_get F fa_X7_101 (dk dtX7_mayBegin_0 19 rfl) (by decide) (cm0 D B _ _) rfl ?_
      refine g_top (tym_o _ _ _ _ _ _ (by decide)) ?_
      refine g_aload_n F 1 (dk dtX7_mayBegin_0 20 rfl) rfl ?_
      refine g_get F fa_X7_80 (dk dtX7_mayBegin_0 21 rfl) (by decide) (cm0 D B _ _) rfl ?_
      refine g_top (tym_7 _ _ _ _ _ _) ?_
      refine g_bipush F (nI 107) (dk dtX7_mayBegin_0 22 rfl) (by decide) ?_
      refine g_icmp_ne F 50 (dk dtX7_mayBegin_0 23 rfl) (by decide) (fun c43 => ?_) (fun c43 => ?_)
      · -- taken at 43
        refine g_iconst F (nI 2) (dk dtX7_mayBegin_0 26 rfl) (by decide) ?_
        refine g_iand F (dk dtX7_mayBegin_0 27 rfl) ?_
        refine g_if_ne F 59 (dk dtX7_mayBegin_0 28 rfl) (by decide) (fun c52 => ?_) (fun c52 => ?_)
        · -- taken at 52
          refine g_iconst F (nI 0) (dk dtX7_mayBegin_0 31 rfl) (by decide) ?_
          refine g_zret (F := F) hQ (dk dtX7_mayBegin_0 32 rfl) (rfl) ?_
          exact ⟨(bI_f (fun q => q.elim (fun h => c13 h.1) (fun h => c52 (by have h2 := h.2.2; rw [if_neg c43] at h2; exact h2)))).symm, rfl, rfl⟩
        · -- not taken at 52
          refine g_iconst F (nI 1) (dk dtX7_mayBegin_0 29 rfl) (by decide) ?_
          refine g_goto F 60 (dk dtX7_mayBegin_0 30 rfl) (by decide) ?_
          refine g_zret (F := F) hQ (dk dtX7_mayBegin_0 32 rfl) (rfl) ?_
          exact ⟨(bI_t (Or.inr ⟨c13, c30, by rw [if_neg c43]; exact c52⟩)).symm, rfl, rfl⟩
      · -- not taken at 43
        refine g_iconst F (nI 1) (dk dtX7_mayBegin_0 24 rfl) (by decide) ?_
        refine g_goto F 51 (dk dtX7_mayBegin_0 25 rfl) (by decide) ?_
        refine g_iand F (dk dtX7_mayBegin_0 27 rfl) ?_
        refine g_if_ne F 59 (dk dtX7_mayBegin_0 28 rfl) (by decide) (fun c52 => ?_) (fun c52 => ?_)
        · -- taken at 52
          refine g_iconst F (nI 0) (dk dtX7_mayBegin_0 31 rfl) (by decide) ?_
          refine g_zret (F := F) hQ (dk dtX7_mayBegin_0 32 rfl) (rfl) ?_
          exact ⟨(bI_f (fun q => q.elim (fun h => c13 h.1) (fun h => c52 (by have h2 := h.2.2; rw [if_pos c43] at h2; exact h2)))).symm, rfl, rfl⟩
        · -- not taken at 52
          refine g_iconst F (nI 1) (dk dtX7_mayBegin_0 29 rfl) (by decide) ?_
          refine g_goto F 60 (dk dtX7_mayBegin_0 30 rfl) (by decide) ?_
          refine g_zret (F := F) hQ (dk dtX7_mayBegin_0 32 rfl) (rfl) ?_
          exact ⟨(bI_t (Or.inr ⟨c13, c30, by rw [if_pos c43]; exact c52⟩)).symm, rfl, rfl⟩
  · -- not taken at 13
    refine g_iload_n F 0 (dk dtX7_mayBegin_0 9 rfl) rfl ?_
    refine g_iconst F (nI 5) (dk dtX7_mayBegin_0 10 rfl) (by decide) ?_
    refine g_icmp_geN F 25 (dk dtX7_mayBegin_0 11 rfl) (by decide) (by omega) (by omega) (fun c18 => ?_) (fun c18 => ?_)
    · -- taken at 18
      refine g_iconst F (nI 0) (dk dtX7_mayBegin_0 14 rfl) (by decide) ?_
      refine g_goto F 60 (dk dtX7_mayBegin_0 15 rfl) (by decide) ?_
      refine g_zret (F := F) hQ (dk dtX7_mayBegin_0 32 rfl) (rfl) ?_
      exact ⟨(bI_f (fun q => q.elim (fun h => absurd h.2 (by omega)) (fun h => h.1 c13))).symm, rfl, rfl⟩
    · -- not taken at 18
      refine g_iconst F (nI 1) (dk dtX7_mayBegin_0 12 rfl) (by decide) ?_
      refine g_goto F 60 (dk dtX7_mayBegin_0 13 rfl) (by decide) ?_
      refine g_zret (F := F) hQ (dk dtX7_mayBegin_0 32 rfl) (rfl) ?_
      exact ⟨(bI_t (Or.inl ⟨c13, by omega⟩)).symm, rfl, rfl⟩
set_option maxRecDepth 100000 in
set_option maxHeartbeats 4000000 in
theorem k_X7_settles (l : Launch) (D : DX) (B : Nat) (T : Int64) (M : Mem)  : Cv l D B 14 (celM D B) yX7_settles cX7_settles 2 none 1 [.ref (B + 0)] T M (fun T1 M1 => T1 = T ∧ M1 = seM M) := by
  refine g_entryv (L := [(0, .ref (B + 0))]) (by decide) (Nat.le_of_ble_eq_true rfl) rfl ?_
  intro zp ze zs zm zb zt zc Q F hQ
  refine g_iconst F (nI 0) (dk dtX7_settles_0 0 rfl) (by decide) ?_
  refine g_istore_n F [(1, .int (nI 0)), (0, .ref (B + 0))] (dk dtX7_settles_0 1 rfl) (by decide) rfl ?_
  have lp2 : ∀ (fz : Nat) (i : Nat), i ≤ 3 → (3 - i) < fz → G zp l ze { frames := 1, cells := 0, slots := 0, locals := 40 * 1 } zs zm [.ref (B + 0)].toArray zb zt zc 2 D B 14 (celM D B) Q T (setR M 2 (cpR (fun j => M 2 (3 + j)) (M 2) i)) 2 [(0, .ref (B + 0)), (1, .int (nI i))] [] := by
    intro n2
    induction n2 with
    | zero => intro i hI hn; exact absurd hn (Nat.not_lt_zero _)
    | succ n2 ih2 =>
      intro i hI2 hn2
      refine g_iload_n F 1 (dk dtX7_settles_0 2 rfl) rfl ?_
      refine g_iconst F (nI 3) (dk dtX7_settles_0 3 rfl) (by decide) ?_
      refine g_icmp_geN F 27 (dk dtX7_settles_0 4 rfl) (by decide) (by omega) (by omega) (fun c4 => ?_) (fun c4 => ?_)
      · -- taken at 4
        obtain rfl : 3 = i := by omega
        refine g_iconst F (nI 0) (dk dtX7_settles_0 17 rfl) (by decide) ?_
        refine g_istore_n F [(1, .int (nI 0)), (0, .ref (B + 0))] (dk dtX7_settles_0 18 rfl) (by decide) rfl ?_
        have lp29 : ∀ (fz : Nat) (i : Nat), i ≤ 5 → (5 - i) < fz → G zp l ze { frames := 1, cells := 0, slots := 0, locals := 40 * 1 } zs zm [.ref (B + 0)].toArray zb zt zc 2 D B 14 (celM D B) Q T (setR (setR M 2 (cpR (fun j => M 2 (3 + j)) (M 2) 3)) 3 (cpR (fun j => M 3 (5 + j)) (M 3) i)) 29 [(0, .ref (B + 0)), (1, .int (nI i))] [] := by
          intro n29
          induction n29 with
          | zero => intro i hI hn; exact absurd hn (Nat.not_lt_zero _)
          | succ n29 ih29 =>
            intro i hI29 hn29
            refine g_iload_n F 1 (dk dtX7_settles_0 19 rfl) rfl ?_
            refine g_iconst F (nI 5) (dk dtX7_settles_0 20 rfl) (by decide) ?_
            refine g_icmp_geN F 54 (dk dtX7_settles_0 21 rfl) (by decide) (by omega) (by omega) (fun c31 => ?_) (fun c31 => ?_)
            · -- taken at 31
              obtain rfl : 5 = i := by omega
              refine g_aload_n F 0 (dk dtX7_settles_0 34 rfl) rfl ?_
              refine g_get F fa_X7_19 (dk dtX7_settles_0 35 rfl) (by decide) (cm0 D B _ _) rfl ?_
              refine g_aload_n F 0 (dk dtX7_settles_0 36 rfl) rfl ?_
              refine g_get F fa_X7_22 (dk dtX7_settles_0 37 rfl) (by decide) (cm0 D B _ _) rfl ?_
              refine g_callSv F (As := [.ref (B + 4), .ref (B + 5)]) (st := []) cs_X7_115 (dk dtX7_settles_0 38 rfl) rfl rfl (Nat.le_of_ble_eq_true rfl) ⟨by decide, by decide⟩ (k_X7_copies l D B _ _ 4 5 (isRow4 D B) (isRow5 D B) (by decide)) (fun T62 M62 hp62 => ?_)
              obtain ⟨e2, e3⟩ := hp62
              replace e2 := e2.symm; replace e3 := e3.symm; subst e2; subst e3
              refine g_aload_n F 0 (dk dtX7_settles_0 39 rfl) rfl ?_
              refine g_iconst F (nI 0) (dk dtX7_settles_0 40 rfl) (by decide) ?_
              refine g_put F fa_X7_64 (dk dtX7_settles_0 41 rfl) (by decide) (cm0 D B _ _) (Nat.le_of_ble_eq_true rfl) rfl rfl ((cm0 D B _ _).trans st_Mod_3) ?_
              refine g_aload_n F 0 (dk dtX7_settles_0 42 rfl) rfl ?_
              refine g_iconst F (nI 0) (dk dtX7_settles_0 43 rfl) (by decide) ?_
              refine g_put F fa_X7_119 (dk dtX7_settles_0 44 rfl) (by decide) (cm0 D B _ _) (Nat.le_of_ble_eq_true rfl) rfl rfl ((cm0 D B _ _).trans st_Mod_22) ?_
              refine g_aload_n F 0 (dk dtX7_settles_0 45 rfl) rfl ?_
              refine g_iconst F (nI 0) (dk dtX7_settles_0 46 rfl) (by decide) ?_
              refine g_put F fa_X7_122 (dk dtX7_settles_0 47 rfl) (by decide) (cm0 D B _ _) (Nat.le_of_ble_eq_true rfl) rfl rfl ((cm0 D B _ _).trans st_Mod_18) ?_
              refine g_aload_n F 0 (dk dtX7_settles_0 48 rfl) rfl ?_
              refine g_get F fa_X7_31 (dk dtX7_settles_0 49 rfl) (by decide) (cm0 D B _ _) rfl ?_
              refine g_iconst F (nI 0) (dk dtX7_settles_0 50 rfl) (by decide) ?_
              refine g_iconst F (nI 0) (dk dtX7_settles_0 51 rfl) (by decide) ?_
              refine g_zast F (0) (dk dtX7_settles_0 52 rfl) (by decide) (fun r => cm8 D B _ r) (by omega) (by decide) (by decide) ?_
              refine g_aload_n F 0 (dk dtX7_settles_0 53 rfl) rfl ?_
              refine g_get F fa_X7_31 (dk dtX7_settles_0 54 rfl) (by decide) (cm0 D B _ _) rfl ?_
              refine g_iconst F (nI 1) (dk dtX7_settles_0 55 rfl) (by decide) ?_
              refine g_iconst F (nI 0) (dk dtX7_settles_0 56 rfl) (by decide) ?_
              refine g_zast F (1) (dk dtX7_settles_0 57 rfl) (by decide) (fun r => cm8 D B _ r) (by omega) (by decide) (by decide) ?_
              refine g_vret (F := F) hQ (dk dtX7_settles_0 58 rfl) ?_
              exact ⟨rfl, rfl⟩
            · -- not taken at 31
              refine g_aload_n F 0 (dk dtX7_settles_0 22 rfl) rfl ?_
              refine g_get F fa_X7_16 (dk dtX7_settles_0 23 rfl) (by decide) (cm0 D B _ _) rfl ?_
              refine g_iload_n F 1 (dk dtX7_settles_0 24 rfl) rfl ?_
              refine g_aload_n F 0 (dk dtX7_settles_0 25 rfl) rfl ?_
              refine g_get F fa_X7_16 (dk dtX7_settles_0 26 rfl) (by decide) (cm0 D B _ _) rfl ?_
              refine g_iconst F (nI 5) (dk dtX7_settles_0 27 rfl) (by decide) ?_
              refine g_iload_n F 1 (dk dtX7_settles_0 28 rfl) rfl ?_
              refine g_iaddN F (dk dtX7_settles_0 29 rfl) ?_
              refine g_iald F (5 + i) (dk dtX7_settles_0 30 rfl) (by decide) (cm3 D B _ _) (by omega) (by decide) ?_
              refine g_top (congrFun (setR_self _ _ _) _) ?_
              refine g_top (cpR_hi _ _ (by omega)) ?_
              refine g_iast F (i) (dk dtX7_settles_0 31 rfl) (by decide) (fun r => cm3 D B _ r) (by omega) (by decide) ?_
              refine g_iinc F 1 (nI (i + 1)) [(1, .int (nI (i + 1))), (0, .ref (B + 0))] (dk dtX7_settles_0 32 rfl) rfl (nI_1 _) (by decide) rfl ?_
              refine g_goto F 29 (dk dtX7_settles_0 33 rfl) (by decide) ?_
              refine g_sub [1, 0] (L1 := [(0, .ref (B + 0)), (1, .int (nI (i + 1)))]) rfl ?_
              refine g_st (M1 := setR (setR M 2 (cpR (fun j => M 2 (3 + j)) (M 2) 3)) 3 (cpR (fun j => M 3 (5 + j)) (M 3) (i + 1))) (L1 := [(0, .ref (B + 0)), (1, .int (nI (i + 1)))]) (by rw [up2_setR]; exact congrArg (setR _ 3) (cpR_s (fun j => M 3 (5 + j)) _ _)) rfl rfl ?_
              exact ih29 (i + 1) (by omega) (by omega)
        refine g_sub [1, 0] (L1 := [(0, .ref (B + 0)), (1, .int (nI 0))]) rfl ?_
        exact g_mem (cpS_1 M (fun j => M 3 (5 + j))) (lp29 6 0 (by omega) (by omega))
      · -- not taken at 4
        refine g_aload_n F 0 (dk dtX7_settles_0 5 rfl) rfl ?_
        refine g_get F fa_X7_13 (dk dtX7_settles_0 6 rfl) (by decide) (cm0 D B _ _) rfl ?_
        refine g_iload_n F 1 (dk dtX7_settles_0 7 rfl) rfl ?_
        refine g_aload_n F 0 (dk dtX7_settles_0 8 rfl) rfl ?_
        refine g_get F fa_X7_13 (dk dtX7_settles_0 9 rfl) (by decide) (cm0 D B _ _) rfl ?_
        refine g_iconst F (nI 3) (dk dtX7_settles_0 10 rfl) (by decide) ?_
        refine g_iload_n F 1 (dk dtX7_settles_0 11 rfl) rfl ?_
        refine g_iaddN F (dk dtX7_settles_0 12 rfl) ?_
        refine g_iald F (3 + i) (dk dtX7_settles_0 13 rfl) (by decide) (cm2 D B _ _) (by omega) (by decide) ?_
        refine g_top (congrFun (setR_self _ _ _) _) ?_
        refine g_top (cpR_hi _ _ (by omega)) ?_
        refine g_iast F (i) (dk dtX7_settles_0 14 rfl) (by decide) (fun r => cm2 D B _ r) (by omega) (by decide) ?_
        refine g_iinc F 1 (nI (i + 1)) [(1, .int (nI (i + 1))), (0, .ref (B + 0))] (dk dtX7_settles_0 15 rfl) rfl (nI_1 _) (by decide) rfl ?_
        refine g_goto F 2 (dk dtX7_settles_0 16 rfl) (by decide) ?_
        refine g_sub [1, 0] (L1 := [(0, .ref (B + 0)), (1, .int (nI (i + 1)))]) rfl ?_
        refine g_st (M1 := setR M 2 (cpR (fun j => M 2 (3 + j)) (M 2) (i + 1))) (L1 := [(0, .ref (B + 0)), (1, .int (nI (i + 1)))]) (by rw [up2_setR]; exact congrArg (setR _ 2) (cpR_s (fun j => M 2 (3 + j)) _ _)) rfl rfl ?_
        exact ih2 (i + 1) (by omega) (by omega)
  refine g_sub [1, 0] (L1 := [(0, .ref (B + 0)), (1, .int (nI 0))]) rfl ?_
  exact g_mem (cpS_0 M 2 (fun j => M 2 (3 + j))) (lp2 4 0 (by omega) (by omega))
