def twM (N : Mem) : Mem := up2 (up2 (up2 (up2 (up2 (cpN (cpT N) 12 5) 1 1 (nI 0)) 17 2 (nI 0)) 92 3 (nI 0)) 107 0 (nI 0)) 107 1 (nI 0)
set_option maxRecDepth 100000 in
set_option maxHeartbeats 4000000 in
theorem k_X6_town (l : Launch) (D : DX) (B : Nat) (T : Int64) (M : Mem) (f : Nat → Int32) (n : Nat) (hf : M 2 = f) (hn : M 1 1 = nI n) (hn9 : n ≤ 150) (Mm : Mem) (hm : Mm 1 = f) : Ci l D B 108 (celC D B) yX6_town cX6_town 2 (some .int) 7 [.ref (B + 0)] T M (fun rz T1 M1 => T1 = T ∧ ∃ (M2 : Mem) (g2 : CG), ((rz < 0 ∧ M1 = txS M2 g2) ∨ (¬ rz < 0 ∧ M1 = twM (txS M2 g2))) ∧ RQ f n M Mm rz M2) := by
  refine g_entryi (L := [(0, .ref (B + 0))]) (by decide) (Nat.le_of_ble_eq_true rfl) rfl ?_
  intro zp ze zs zm zb zt zc Q F hQ
  refine g_aload_n F 0 (dk dtX6_town_0 0 rfl) rfl ?_
  refine g_get F fa_X6_10 (dk dtX6_town_0 1 rfl) (by decide) (cc0 D B _ _) rfl ?_
  refine g_callVi F (As := []) (st := []) cv_X6_71 (dk dtX6_town_0 2 rfl) (by decide) (cc1 D B _ _) rfl rfl (Nat.le_of_ble_eq_true rfl) ⟨by decide, by decide⟩ (k_X4_read l D B _ M f n hf hn hn9 Mm hm) (fun r4 T4 M4 hp4 => ?_)
  obtain ⟨e2, M2, g2, e3, hR⟩ := hp4
  replace e2 := e2.symm; replace e3 := e3.symm; subst e2; subst e3
  refine g_istore_n F [(1, .int r4), (0, .ref (B + 0))] (dk dtX6_town_0 3 rfl) (by decide) rfl ?_
  refine g_iload_n F 0 (dk dtX6_town_0 4 rfl) rfl ?_
  refine g_if_ge F 14 (dk dtX6_town_0 5 rfl) (by decide) (fun c9 => ?_) (fun c9 => ?_)
  · -- taken at 9
    refine g_aload_n F 1 (dk dtX6_town_0 8 rfl) rfl ?_
    refine g_get F fa_X6_19 (dk dtX6_town_0 9 rfl) (by decide) (cc0 D B _ _) rfl ?_
    refine g_aload_n F 1 (dk dtX6_town_0 10 rfl) rfl ?_
    refine g_get F fa_X6_10 (dk dtX6_town_0 11 rfl) (by decide) (cc0 D B _ _) rfl ?_
    refine g_get F fa_X6_75 (dk dtX6_town_0 12 rfl) (by decide) (cc1 D B _ _) rfl ?_
    refine g_callVv F (As := [.ref (B + 3)]) (st := []) cv_X6_78 (dk dtX6_town_0 13 rfl) (by decide) (cc10 D B _ _) rfl rfl (Nat.le_of_ble_eq_true rfl) ⟨by decide, by decide⟩ (k_X5_copyFrom l D B _ _) (fun T25 M25 hp25 => ?_)
    obtain ⟨e2, e3⟩ := hp25
    replace e2 := e2.symm; replace e3 := e3.symm; subst e2; subst e3
    refine g_aload_n F 1 (dk dtX6_town_0 14 rfl) rfl ?_
    refine g_get F fa_X6_26 (dk dtX6_town_0 15 rfl) (by decide) (cc0 D B _ _) rfl ?_
    refine g_aload_n F 1 (dk dtX6_town_0 16 rfl) rfl ?_
    refine g_get F fa_X6_10 (dk dtX6_town_0 17 rfl) (by decide) (cc0 D B _ _) rfl ?_
    refine g_get F fa_X6_82 (dk dtX6_town_0 18 rfl) (by decide) (cc1 D B _ _) rfl ?_
    refine g_callVv F (As := [.ref (B + 5)]) (st := []) cv_X6_85 (dk dtX6_town_0 19 rfl) (by decide) (cc12 D B _ _) rfl rfl (Nat.le_of_ble_eq_true rfl) ⟨by decide, by decide⟩ (k_X2_copyFrom l D B _ _ 12 5 (isNow12 D B) (isNow5 D B)) (fun T39 M39 hp39 => ?_)
    obtain ⟨e2, e3⟩ := hp39
    replace e2 := e2.symm; replace e3 := e3.symm; subst e2; subst e3
    refine g_aload_n F 1 (dk dtX6_town_0 20 rfl) rfl ?_
    refine g_get F fa_X6_10 (dk dtX6_town_0 21 rfl) (by decide) (cc0 D B _ _) rfl ?_
    refine g_iconst F (nI 0) (dk dtX6_town_0 22 rfl) (by decide) ?_
    refine g_put F fa_X6_63 (dk dtX6_town_0 23 rfl) (by decide) (cc1 D B _ _) (Nat.le_of_ble_eq_true rfl) rfl rfl ((cc1 D B _ _).trans st_Text_1) ?_
    refine g_aload_n F 1 (dk dtX6_town_0 24 rfl) rfl ?_
    refine g_get F fa_X6_33 (dk dtX6_town_0 25 rfl) (by decide) (cc0 D B _ _) rfl ?_
    refine g_iconst F (nI 0) (dk dtX6_town_0 26 rfl) (by decide) ?_
    refine g_put F fa_X6_88 (dk dtX6_town_0 27 rfl) (by decide) (cc17 D B _ _) (Nat.le_of_ble_eq_true rfl) rfl rfl ((cc17 D B _ _).trans st_Past_2) ?_
    refine g_aload_n F 1 (dk dtX6_town_0 28 rfl) rfl ?_
    refine g_get F fa_X6_47 (dk dtX6_town_0 29 rfl) (by decide) (cc0 D B _ _) rfl ?_
    refine g_iconst F (nI 0) (dk dtX6_town_0 30 rfl) (by decide) ?_
    refine g_put F fa_X6_91 (dk dtX6_town_0 31 rfl) (by decide) (cc92 D B _ _) (Nat.le_of_ble_eq_true rfl) rfl rfl ((cc92 D B _ _).trans st_Note_3) ?_
    refine g_aload_n F 1 (dk dtX6_town_0 32 rfl) rfl ?_
    refine g_get F fa_X6_55 (dk dtX6_town_0 33 rfl) (by decide) (cc0 D B _ _) rfl ?_
    refine g_iconst F (nI 0) (dk dtX6_town_0 34 rfl) (by decide) ?_
    refine g_iconst F (nI 0) (dk dtX6_town_0 35 rfl) (by decide) ?_
    refine g_zast F (0) (dk dtX6_town_0 36 rfl) (by decide) (fun r => cc107 D B _ r) (by omega) (by decide) (by decide) ?_
    refine g_aload_n F 1 (dk dtX6_town_0 37 rfl) rfl ?_
    refine g_get F fa_X6_55 (dk dtX6_town_0 38 rfl) (by decide) (cc0 D B _ _) rfl ?_
    refine g_iconst F (nI 1) (dk dtX6_town_0 39 rfl) (by decide) ?_
    refine g_iconst F (nI 0) (dk dtX6_town_0 40 rfl) (by decide) ?_
    refine g_zast F (1) (dk dtX6_town_0 41 rfl) (by decide) (fun r => cc107 D B _ r) (by omega) (by decide) (by decide) ?_
    refine g_iload_n F 0 (dk dtX6_town_0 42 rfl) rfl ?_
    refine g_iret (F := F) hQ (dk dtX6_town_0 43 rfl) ?_
    exact ⟨rfl, _, _, Or.inr ⟨Int32.not_lt.mpr c9, rfl⟩, hR⟩
  · -- not taken at 9
    refine g_iload_n F 0 (dk dtX6_town_0 6 rfl) rfl ?_
    refine g_iret (F := F) hQ (dk dtX6_town_0 7 rfl) ?_
    exact ⟨rfl, _, _, Or.inl ⟨Int32.not_le.mp c9, rfl⟩, hR⟩
