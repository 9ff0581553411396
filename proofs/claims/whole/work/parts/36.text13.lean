set_option maxRecDepth 100000 in
set_option maxHeartbeats 4000000 in
theorem k_X4_readPerson (l : Launch) (D : DX) (B : Nat) (T : Int64) (M : Mem) (f : Nat → Int32) (n : Nat) (hf : M 2 = f) (hn : M 1 1 = nI n) (hn9 : n ≤ 150) (g : CG) (hg : g.1 ≤ n) (Mm : Mem) (Gm : SG) (hG : GA f n g.1 Gm) (K X P : Nat) (hD : DR M Mm K X P) (hP4 : P < 5) : Ci l D B 108 (celC D B) yX4_readPerson cX4_readPerson 3 (some .boolean) 4 [.ref (B + 1)] T (txS M g) (fun rz T1 M1 => T1 = T ∧ ∃ (M2 : Mem) (g2 : CG), M1 = txS M2 g2 ∧ IQ f n M g (rdI f n Mm Gm (nI 112)) rz M2 g2) := by
  have hK := hD.2.1
  have hX := hD.2.2.2.1
  have hP := hD.2.2.2.2.2.1
  have hK4 := hD.1.2.1
  refine g_entryi (L := [(0, .ref (B + 1))]) (by decide) (Nat.le_of_ble_eq_true rfl) rfl ?_
  intro zp ze zs zm zb zt zc Q F hQ
  refine g_aload_n F 0 (dk dtX4_readPerson_0 0 rfl) rfl ?_
  refine g_get F fa_X4_22 (dk dtX4_readPerson_0 1 rfl) (by decide) (cc1 D B _ _) rfl ?_
  refine g_get F fa_X4_75 (dk dtX4_readPerson_0 2 rfl) (by decide) (cc3 D B _ _) rfl ?_
  refine g_top (congrFun (txS_ne _ _ (by decide)) _) ?_
  refine g_top hP ?_
  refine g_istore_n F [(1, .int (nI P)), (0, .ref (B + 1))] (dk dtX4_readPerson_0 3 rfl) (by decide) rfl ?_
  refine g_iload_n F 0 (dk dtX4_readPerson_0 4 rfl) rfl ?_
  refine g_iconst F (nI 5) (dk dtX4_readPerson_0 5 rfl) (by decide) ?_
  refine g_icmp_geN F 23 (dk dtX4_readPerson_0 6 rfl) (by decide) (by omega) (by omega) (fun c10 => ?_) (fun c10 => ?_)
  · -- taken at 10
    exact absurd c10 (by omega)
  · -- not taken at 10
    refine g_aload_n F 1 (dk dtX4_readPerson_0 7 rfl) rfl ?_
    refine g_iconst F (nI 0) (dk dtX4_readPerson_0 8 rfl) (by decide) ?_
    refine g_bipush F (nI 99) (dk dtX4_readPerson_0 9 rfl) (by decide) ?_
    refine g_callVi F (As := [.int (nI 0), .int (nI 99)]) (st := []) cv_X4_78 (dk dtX4_readPerson_0 10 rfl) (by decide) (cc1 D B _ _) rfl rfl (Nat.le_of_ble_eq_true rfl) ⟨by decide, by decide⟩ (k_X4_readNumberS l D B _ M f n hf hn hn9 g hg _ _) (fun r17 T17 M17 hp17 => ?_)
    obtain ⟨e1, e2, e3⟩ := hp17
    replace e1 := e1.symm; replace e2 := e2.symm; replace e3 := e3.symm; subst e1; subst e2; subst e3
    refine g_if_neB F 25 (dk dtX4_readPerson_0 11 rfl) (by decide) (fun c20 => ?_) (fun c20 => ?_)
    · -- taken at 20
      refine g_aload_n F 1 (dk dtX4_readPerson_0 14 rfl) rfl ?_
      refine g_get F fa_X4_22 (dk dtX4_readPerson_0 15 rfl) (by decide) (cc1 D B _ _) rfl ?_
      refine g_get F fa_X4_88 (dk dtX4_readPerson_0 16 rfl) (by decide) (cc3 D B _ _) rfl ?_
      refine g_iload_n F 0 (dk dtX4_readPerson_0 17 rfl) rfl ?_
      refine g_aload_n F 1 (dk dtX4_readPerson_0 18 rfl) rfl ?_
      refine g_get F fa_X4_49 (dk dtX4_readPerson_0 19 rfl) (by decide) (cc1 D B _ _) rfl ?_
      refine g_top (txS_9 _ _) ?_
      refine g_iast F (P) (dk dtX4_readPerson_0 20 rfl) (by decide) (fun r => cc4 D B _ r) (by omega) (by decide) ?_
      refine g_mem (txS_up _ _ _ _ (by decide)) ?_
      refine g_aload_n F 1 (dk dtX4_readPerson_0 21 rfl) rfl ?_
      refine g_iconst F (nI 0) (dk dtX4_readPerson_0 22 rfl) (by decide) ?_
      refine g_aload_n F 1 (dk dtX4_readPerson_0 23 rfl) rfl ?_
      refine g_get F fa_X4_22 (dk dtX4_readPerson_0 24 rfl) (by decide) (cc1 D B _ _) rfl ?_
      refine g_get F fa_X4_85 (dk dtX4_readPerson_0 25 rfl) (by decide) (cc3 D B _ _) rfl ?_
      refine g_top (congrFun (txS_ne _ _ (by decide)) _) ?_
      refine g_top (congrFun (up2_ne _ _ (by decide)) _) ?_
      refine g_top hX ?_
      refine g_iconst F (nI 1) (dk dtX4_readPerson_0 26 rfl) (by decide) ?_
      refine g_isub F (dk dtX4_readPerson_0 27 rfl) ?_
      refine g_callVi F (As := [.int (nI 0), .int ((nI X) - (nI 1))]) (st := []) cv_X4_78 (dk dtX4_readPerson_0 28 rfl) (by decide) (cc1 D B _ _) rfl rfl (Nat.le_of_ble_eq_true rfl) ⟨by decide, by decide⟩ (k_X4_readNumberS l D B _ (up2 M 4 P ((aF f n g).2.2.2)) f n ((up2_ne _ _ (by decide)).trans hf) ((congrFun (up2_ne _ _ (by decide)) _).trans hn) hn9 (aF f n g) (aF_ok hg) _ _) (fun r49 T49 M49 hp49 => ?_)
      obtain ⟨e1, e2, e3⟩ := hp49
      replace e1 := e1.symm; replace e2 := e2.symm; replace e3 := e3.symm; subst e1; subst e2; subst e3
      refine g_if_neB F 57 (dk dtX4_readPerson_0 29 rfl) (by decide) (fun c52 => ?_) (fun c52 => ?_)
      · -- taken at 52
        refine g_aload_n F 1 (dk dtX4_readPerson_0 32 rfl) rfl ?_
        refine g_get F fa_X4_29 (dk dtX4_readPerson_0 33 rfl) (by decide) (cc1 D B _ _) rfl ?_
        refine g_get F fa_X4_91 (dk dtX4_readPerson_0 34 rfl) (by decide) (cc5 D B _ _) rfl ?_
        refine g_iload_n F 0 (dk dtX4_readPerson_0 35 rfl) rfl ?_
        refine g_aload_n F 1 (dk dtX4_readPerson_0 36 rfl) rfl ?_
        refine g_get F fa_X4_49 (dk dtX4_readPerson_0 37 rfl) (by decide) (cc1 D B _ _) rfl ?_
        refine g_top (txS_9 _ _) ?_
        refine g_iast F (P) (dk dtX4_readPerson_0 38 rfl) (by decide) (fun r => cc6 D B _ r) (by omega) (by decide) ?_
        refine g_mem (txS_up _ _ _ _ (by decide)) ?_
        refine g_iconst F (nI 0) (dk dtX4_readPerson_0 39 rfl) (by decide) ?_
        refine g_istore_n F [(2, .int (nI 0)), (1, .int (nI P)), (0, .ref (B + 1))] (dk dtX4_readPerson_0 40 rfl) (by decide) rfl ?_
        have lp72 : ∀ (fz : Nat) (i : Nat) (M2 : Mem) (g2 : CG), (i ≤ K ∧ PI f n M g Mm Gm X P i M2 g2) → (K - i) < fz → G zp l ze { frames := 4, cells := 0, slots := 0, locals := 40 * 4 } zs zm [.ref (B + 1)].toArray zb zt zc 3 D B 108 (celC D B) Q T (txS M2 g2) 72 [(0, .ref (B + 1)), (1, .int (nI P)), (2, .int (nI i))] [] := by
          intro n72
          induction n72 with
          | zero => intro i M2 g2 hI hn; exact absurd hn (Nat.not_lt_zero _)
          | succ n72 ih72 =>
            intro i M2 g2 hI72 hn72
            obtain ⟨hiK, hPI⟩ := hI72
            have hf2 : M2 2 = f := (hPI.2.2.1.1 2 (by decide) (by decide)).trans hf
            have hn2 : M2 1 1 = nI n := hPI.2.2.1.2.trans hn
            have hK2 : M2 3 0 = nI K := (congrFun hPI.2.2.2.2.1 0).trans hD.2.1
            have hP2 : M2 3 2 = nI P := (congrFun hPI.2.2.2.2.1 2).trans hD.2.2.2.2.2.1
            refine g_iload_n F 2 (dk dtX4_readPerson_0 41 rfl) rfl ?_
            refine g_aload_n F 0 (dk dtX4_readPerson_0 42 rfl) rfl ?_
            refine g_get F fa_X4_22 (dk dtX4_readPerson_0 43 rfl) (by decide) (cc1 D B _ _) rfl ?_
            refine g_get F fa_X4_82 (dk dtX4_readPerson_0 44 rfl) (by decide) (cc3 D B _ _) rfl ?_
            refine g_top (congrFun (txS_ne _ _ (by decide)) _) ?_
            refine g_top hK2 ?_
            refine g_icmp_geN F 114 (dk dtX4_readPerson_0 45 rfl) (by decide) (by omega) (by omega) (fun c80 => ?_) (fun c80 => ?_)
            · -- taken at 80
              obtain rfl : K = i := by omega
              refine g_aload_n F 0 (dk dtX4_readPerson_1 2 rfl) rfl ?_
              refine g_get F fa_X4_22 (dk dtX4_readPerson_1 3 rfl) (by decide) (cc1 D B _ _) rfl ?_
              refine g_dup F (dk dtX4_readPerson_1 4 rfl) rfl ?_
              refine g_get F fa_X4_75 (dk dtX4_readPerson_1 5 rfl) (by decide) (cc3 D B _ _) rfl ?_
              refine g_top (congrFun (txS_ne _ _ (by decide)) _) ?_
              refine g_top hP2 ?_
              refine g_iconst F (nI 1) (dk dtX4_readPerson_1 6 rfl) (by decide) ?_
              refine g_iaddN F (dk dtX4_readPerson_1 7 rfl) ?_
              refine g_put F fa_X4_75 (dk dtX4_readPerson_1 8 rfl) (by decide) (cc3 D B _ _) (Nat.le_of_ble_eq_true rfl) rfl rfl ((cc3 D B _ _).trans st_Town_2) ?_
              refine g_mem (txS_up _ _ _ _ (by decide)) ?_
              refine g_iconst F (nI 1) (dk dtX4_readPerson_1 9 rfl) (by decide) ?_
              refine g_zret (F := F) hQ (dk dtX4_readPerson_1 10 rfl) (rfl) ?_
              exact ⟨rfl, _, _, rfl, IQ_4 hD hP4 hPI⟩
            · -- not taken at 80
              refine g_aload_n F 0 (dk dtX4_readPerson_0 46 rfl) rfl ?_
              refine g_iconst F (nI 0) (dk dtX4_readPerson_0 47 rfl) (by decide) ?_
              refine g_bipush F (nI 9) (dk dtX4_readPerson_0 48 rfl) (by decide) ?_
              refine g_callVi F (As := [.int (nI 0), .int (nI 9)]) (st := []) cv_X4_78 (dk dtX4_readPerson_0 49 rfl) (by decide) (cc1 D B _ _) rfl rfl (Nat.le_of_ble_eq_true rfl) ⟨by decide, by decide⟩ (k_X4_readNumberS l D B _ M2 f n hf2 hn2 hn9 g2 hPI.1 _ _) (fun r87 T87 M87 hp87 => ?_)
              obtain ⟨e1, e2, e3⟩ := hp87
              replace e1 := e1.symm; replace e2 := e2.symm; replace e3 := e3.symm; subst e1; subst e2; subst e3
              refine g_if_neB F 95 (dk dtX4_readPerson_0 50 rfl) (by decide) (fun c90 => ?_) (fun c90 => ?_)
              · -- taken at 90
                refine g_aload_n F 0 (dk dtX4_readPerson_0 53 rfl) rfl ?_
                refine g_get F fa_X4_29 (dk dtX4_readPerson_0 54 rfl) (by decide) (cc1 D B _ _) rfl ?_
                refine g_iload_n F 1 (dk dtX4_readPerson_0 55 rfl) rfl ?_
                refine g_iload_n F 2 (dk dtX4_readPerson_0 56 rfl) rfl ?_
                refine g_aload_n F 0 (dk dtX4_readPerson_0 57 rfl) rfl ?_
                refine g_get F fa_X4_49 (dk dtX4_readPerson_0 58 rfl) (by decide) (cc1 D B _ _) rfl ?_
                refine g_top (txS_9 _ _) ?_
                refine g_callVv F (As := [.int (nI P), .int (nI i), .int ((aF f n g2).2.2.2)]) (st := []) cv_X4_94 (dk dtX4_readPerson_0 59 rfl) (by decide) (cc5 D B _ _) rfl rfl (Nat.le_of_ble_eq_true rfl) ⟨by decide, by decide⟩ (k_X2_addSeen l D B _ _ 5 (isNow5 D B) _ _ (by omega) (by omega) _) (fun T105 M105 hp105 => ?_)
                obtain ⟨e2, e3⟩ := hp105
                replace e2 := e2.symm; replace e3 := e3.symm; subst e2; subst e3
                refine g_mem (txS_ad _ _ _ _ _) ?_
                refine g_iinc F 2 (nI (i + 1)) [(2, .int (nI (i + 1))), (0, .ref (B + 1)), (1, .int (nI P))] (dk dtX4_readPerson_1 0 rfl) rfl (nI_1 _) (by decide) rfl ?_
                refine g_goto F 72 (dk dtX4_readPerson_1 1 rfl) (by decide) ?_
                refine g_sub [1, 2, 0] (L1 := [(0, .ref (B + 1)), (1, .int (nI P)), (2, .int (nI (i + 1)))]) rfl ?_
                exact ih72 (i + 1) _ _ ⟨by omega, PI_s hPI hP4 (by omega) c90⟩ (by omega)
              · -- not taken at 90
                refine g_iconst F (nI 0) (dk dtX4_readPerson_0 51 rfl) (by decide) ?_
                refine g_zret (F := F) hQ (dk dtX4_readPerson_0 52 rfl) (rfl) ?_
                exact ⟨rfl, _, _, rfl, IQ_3 hD hn9 hPI (by omega) c90⟩
        refine g_sub [2, 1, 0] (L1 := [(0, .ref (B + 1)), (1, .int (nI P)), (2, .int (nI 0))]) rfl ?_
        exact lp72 (K + 1) 0 _ _ ⟨Nat.zero_le _, PI_0 hG hD hg hP4 c20 c52⟩ (by omega)
      · -- not taken at 52
        refine g_iconst F (nI 0) (dk dtX4_readPerson_0 30 rfl) (by decide) ?_
        refine g_zret (F := F) hQ (dk dtX4_readPerson_0 31 rfl) (rfl) ?_
        exact ⟨rfl, _, _, rfl, IQ_2 hG hD hn9 hg _ c20 c52⟩
    · -- not taken at 20
      refine g_iconst F (nI 0) (dk dtX4_readPerson_0 12 rfl) (by decide) ?_
      refine g_zret (F := F) hQ (dk dtX4_readPerson_0 13 rfl) (rfl) ?_
      exact ⟨rfl, _, _, rfl, IQ_1 hG hD hn9 hg c20⟩
set_option maxRecDepth 100000 in
set_option maxHeartbeats 4000000 in
theorem k_X4_readPerson_5 (l : Launch) (D : DX) (B : Nat) (T : Int64) (M : Mem) (g : CG) (hP : M 3 2 = nI 5) : Ci l D B 108 (celC D B) yX4_readPerson cX4_readPerson 3 (some .boolean) 4 [.ref (B + 1)] T (txS M g) (fun rz T1 M1 => rz = nI 0 ∧ T1 = T ∧ M1 = txS M g) := by
  refine g_entryi (L := [(0, .ref (B + 1))]) (by decide) (Nat.le_of_ble_eq_true rfl) rfl ?_
  intro zp ze zs zm zb zt zc Q F hQ
  refine g_aload_n F 0 (dk dtX4_readPerson_0 0 rfl) rfl ?_
  refine g_get F fa_X4_22 (dk dtX4_readPerson_0 1 rfl) (by decide) (cc1 D B _ _) rfl ?_
  refine g_get F fa_X4_75 (dk dtX4_readPerson_0 2 rfl) (by decide) (cc3 D B _ _) rfl ?_
  refine g_top (congrFun (txS_ne _ _ (by decide)) _) ?_
  refine g_top hP ?_
  refine g_istore_n F [(1, .int (nI 5)), (0, .ref (B + 1))] (dk dtX4_readPerson_0 3 rfl) (by decide) rfl ?_
  refine g_iload_n F 0 (dk dtX4_readPerson_0 4 rfl) rfl ?_
  refine g_iconst F (nI 5) (dk dtX4_readPerson_0 5 rfl) (by decide) ?_
  refine g_icmp_geN F 23 (dk dtX4_readPerson_0 6 rfl) (by decide) (by decide) (by decide) (fun _ => ?_) (fun c => absurd c (by decide))
  refine g_iconst F (nI 0) (dk dtX4_readPerson_0 12 rfl) (by decide) ?_
  refine g_zret (F := F) hQ (dk dtX4_readPerson_0 13 rfl) (rfl) ?_
  exact ⟨rfl, rfl, rfl⟩
