theorem txS_ne (M : Mem) (g : CG) {c : Nat} (h : c ≠ 1) : txS M g c = M c := tx_ne _ _ _ _ _ h
theorem txS_o (M : Mem) (g : CG) {j : Nat} (h : j < 6 ∨ 9 < j) : txS M g 1 j = M 1 j := tx_o _ _ _ _ _ h
theorem txS_7 (M : Mem) (g : CG) : txS M g 1 7 = g.2.1 := tx_7 _ _ _ _ _
theorem txS_8 (M : Mem) (g : CG) : txS M g 1 8 = g.2.2.1 := tx_8 _ _ _ _ _
theorem txS_9 (M : Mem) (g : CG) : txS M g 1 9 = g.2.2.2 := tx_9 _ _ _ _ _
theorem txS_up (M : Mem) (g : CG) {c : Nat} (j : Nat) (v : Int32) (h : c ≠ 1) : up2 (txS M g) c j v = txS (up2 M c j v) g := by
  funext i
  unfold txS tx
  by_cases hi : i = c
  · subst hi
    rw [up2_self, setR_ne _ _ h, setR_ne _ _ h, up2_self]
  · rw [up2_ne _ _ hi]
    by_cases h0 : i = 1
    · subst h0
      rw [setR_self, setR_self, up2_ne _ _ hi]
    · rw [setR_ne _ _ h0, setR_ne _ _ h0, up2_ne _ _ hi]
theorem txS_up1 (M : Mem) (g : CG) (v : Int32) {j : Nat} (h : j < 6) : up2 (txS M g) 1 j v = txS (up2 M 1 j v) g := by
  funext i
  unfold txS tx
  by_cases h0 : i = 1
  · subst h0
    rw [up2_self, setR_self, setR_self, up2_self]
    funext k
    by_cases hk : k = j
    · subst hk
      rw [pk_us, pk_un (by omega), pk_un (by omega), pk_un (by omega), pk_un (by omega), pk_us]
    · rw [pk_un hk]
      by_cases k9 : k = 9
      · subst k9; rw [pk_us, pk_us]
      · rw [pk_un k9, pk_un k9]
        by_cases k8 : k = 8
        · subst k8; rw [pk_us, pk_us]
        · rw [pk_un k8, pk_un k8]
          by_cases k7 : k = 7
          · subst k7; rw [pk_us, pk_us]
          · rw [pk_un k7, pk_un k7]
            by_cases k6 : k = 6
            · subst k6; rw [pk_us, pk_us]
            · rw [pk_un k6, pk_un k6, pk_un hk]
  · rw [up2_ne _ _ h0, setR_ne _ _ h0, setR_ne _ _ h0, up2_ne _ _ h0]
set_option maxRecDepth 100000 in
set_option maxHeartbeats 4000000 in
theorem k_X4_readKinds (l : Launch) (D : DX) (B : Nat) (T : Int64) (M : Mem) (f : Nat → Int32) (n : Nat) (hf : M 2 = f) (hn : M 1 1 = nI n) (hn9 : n ≤ 150) (g : CG) (hg : g.1 ≤ n) : Ci l D B 108 (celC D B) yX4_readKinds cX4_readKinds 1 (some .boolean) 4 [.ref (B + 1)] T (txS M g) (fun rz T1 M1 => rz = bI (M 1 4 = 0 ∧ ¬ 0 < M 3 2 ∧ nQ (aF f n g) (nI 1) (nI 4)) ∧ T1 = T ∧ M1 = (if M 1 4 = 0 ∧ ¬ 0 < M 3 2 then (if nQ (aF f n g) (nI 1) (nI 4) then txS (up2 (up2 M 1 4 (nI 1)) 3 0 (aF f n g).2.2.2) (aF f n g) else txS M (aF f n g)) else txS M g)) := by
  refine g_entryi (L := [(0, .ref (B + 1))]) (by decide) (Nat.le_of_ble_eq_true rfl) rfl ?_
  intro zp ze zs zm zb zt zc Q F hQ
  refine g_aload_n F 0 (dk dtX4_readKinds_0 0 rfl) rfl ?_
  refine g_get F fa_X4_33 (dk dtX4_readKinds_0 1 rfl) (by decide) (cc1 D B _ _) rfl ?_
  refine g_top (txS_o _ _ (by decide)) ?_
  refine g_if_ne F 26 (dk dtX4_readKinds_0 2 rfl) (by decide) (fun c4 => ?_) (fun c4 => ?_)
  · -- taken at 4
    refine g_iconst F (nI 0) (dk dtX4_readKinds_0 12 rfl) (by decide) ?_
    refine g_zret (F := F) hQ (dk dtX4_readKinds_0 13 rfl) (rfl) ?_
    exact ⟨(if_neg (fun h => c4 h.1)).symm, rfl, (if_neg (fun h => c4 h.1)).symm⟩
  · -- not taken at 4
    refine g_aload_n F 0 (dk dtX4_readKinds_0 3 rfl) rfl ?_
    refine g_get F fa_X4_22 (dk dtX4_readKinds_0 4 rfl) (by decide) (cc1 D B _ _) rfl ?_
    refine g_get F fa_X4_75 (dk dtX4_readKinds_0 5 rfl) (by decide) (cc3 D B _ _) rfl ?_
    refine g_top (congrFun (txS_ne _ _ (by decide)) _) ?_
    refine g_if_gt F 26 (dk dtX4_readKinds_0 6 rfl) (by decide) (fun c14 => ?_) (fun c14 => ?_)
    · -- taken at 14
      refine g_iconst F (nI 0) (dk dtX4_readKinds_0 12 rfl) (by decide) ?_
      refine g_zret (F := F) hQ (dk dtX4_readKinds_0 13 rfl) (rfl) ?_
      exact ⟨(if_neg (fun h => h.2.1 c14)).symm, rfl, (if_neg (fun h => h.2 c14)).symm⟩
    · -- not taken at 14
      refine g_aload_n F 0 (dk dtX4_readKinds_0 7 rfl) rfl ?_
      refine g_iconst F (nI 1) (dk dtX4_readKinds_0 8 rfl) (by decide) ?_
      refine g_iconst F (nI 4) (dk dtX4_readKinds_0 9 rfl) (by decide) ?_
      refine g_callVi F (As := [.int (nI 1), .int (nI 4)]) (st := []) cv_X4_78 (dk dtX4_readKinds_0 10 rfl) (by decide) (cc1 D B _ _) rfl rfl (Nat.le_of_ble_eq_true rfl) ⟨by decide, by decide⟩ (k_X4_readNumberS l D B _ M f n hf hn hn9 g hg _ _) (fun r20 T20 M20 hp20 => ?_)
      obtain ⟨e1, e2, e3⟩ := hp20
      replace e1 := e1.symm; replace e2 := e2.symm; replace e3 := e3.symm; subst e1; subst e2; subst e3
      refine g_if_neB F 28 (dk dtX4_readKinds_0 11 rfl) (by decide) (fun c23 => ?_) (fun c23 => ?_)
      · -- taken at 23
        refine g_aload_n F 0 (dk dtX4_readKinds_0 14 rfl) rfl ?_
        refine g_iconst F (nI 1) (dk dtX4_readKinds_0 15 rfl) (by decide) ?_
        refine g_put F fa_X4_33 (dk dtX4_readKinds_0 16 rfl) (by decide) (cc1 D B _ _) (Nat.le_of_ble_eq_true rfl) rfl rfl ((cc1 D B _ _).trans st_Text_4) ?_
        refine g_mem (txS_up1 _ _ _ (by decide)) ?_
        refine g_aload_n F 0 (dk dtX4_readKinds_0 17 rfl) rfl ?_
        refine g_get F fa_X4_22 (dk dtX4_readKinds_0 18 rfl) (by decide) (cc1 D B _ _) rfl ?_
        refine g_aload_n F 0 (dk dtX4_readKinds_0 19 rfl) rfl ?_
        refine g_get F fa_X4_49 (dk dtX4_readKinds_0 20 rfl) (by decide) (cc1 D B _ _) rfl ?_
        refine g_top (txS_9 _ _) ?_
        refine g_put F fa_X4_82 (dk dtX4_readKinds_0 21 rfl) (by decide) (cc3 D B _ _) (Nat.le_of_ble_eq_true rfl) rfl rfl ((cc3 D B _ _).trans st_Town_0) ?_
        refine g_mem (txS_up _ _ _ _ (by decide)) ?_
        refine g_iconst F (nI 1) (dk dtX4_readKinds_0 22 rfl) (by decide) ?_
        refine g_zret (F := F) hQ (dk dtX4_readKinds_0 23 rfl) (rfl) ?_
        exact ⟨(if_pos ⟨c4, c14, c23⟩).symm, rfl, ((if_pos ⟨c4, c14⟩).trans (if_pos c23)).symm⟩
      · -- not taken at 23
        refine g_iconst F (nI 0) (dk dtX4_readKinds_0 12 rfl) (by decide) ?_
        refine g_zret (F := F) hQ (dk dtX4_readKinds_0 13 rfl) (rfl) ?_
        exact ⟨(if_neg (fun h => c23 h.2.2)).symm, rfl, ((if_pos ⟨c4, c14⟩).trans (if_neg c23)).symm⟩
set_option maxRecDepth 100000 in
set_option maxHeartbeats 4000000 in
theorem k_X4_readPlaces (l : Launch) (D : DX) (B : Nat) (T : Int64) (M : Mem) (f : Nat → Int32) (n : Nat) (hf : M 2 = f) (hn : M 1 1 = nI n) (hn9 : n ≤ 150) (g : CG) (hg : g.1 ≤ n) : Ci l D B 108 (celC D B) yX4_readPlaces cX4_readPlaces 1 (some .boolean) 4 [.ref (B + 1)] T (txS M g) (fun rz T1 M1 => rz = bI (M 1 5 = 0 ∧ ¬ 0 < M 3 2 ∧ nQ (aF f n g) (nI 1) (nI 4)) ∧ T1 = T ∧ M1 = (if M 1 5 = 0 ∧ ¬ 0 < M 3 2 then (if nQ (aF f n g) (nI 1) (nI 4) then txS (up2 (up2 M 1 5 (nI 1)) 3 1 (aF f n g).2.2.2) (aF f n g) else txS M (aF f n g)) else txS M g)) := by
  refine g_entryi (L := [(0, .ref (B + 1))]) (by decide) (Nat.le_of_ble_eq_true rfl) rfl ?_
  intro zp ze zs zm zb zt zc Q F hQ
  refine g_aload_n F 0 (dk dtX4_readPlaces_0 0 rfl) rfl ?_
  refine g_get F fa_X4_37 (dk dtX4_readPlaces_0 1 rfl) (by decide) (cc1 D B _ _) rfl ?_
  refine g_top (txS_o _ _ (by decide)) ?_
  refine g_if_ne F 26 (dk dtX4_readPlaces_0 2 rfl) (by decide) (fun c4 => ?_) (fun c4 => ?_)
  · -- taken at 4
    refine g_iconst F (nI 0) (dk dtX4_readPlaces_0 12 rfl) (by decide) ?_
    refine g_zret (F := F) hQ (dk dtX4_readPlaces_0 13 rfl) (rfl) ?_
    exact ⟨(if_neg (fun h => c4 h.1)).symm, rfl, (if_neg (fun h => c4 h.1)).symm⟩
  · -- not taken at 4
    refine g_aload_n F 0 (dk dtX4_readPlaces_0 3 rfl) rfl ?_
    refine g_get F fa_X4_22 (dk dtX4_readPlaces_0 4 rfl) (by decide) (cc1 D B _ _) rfl ?_
    refine g_get F fa_X4_75 (dk dtX4_readPlaces_0 5 rfl) (by decide) (cc3 D B _ _) rfl ?_
    refine g_top (congrFun (txS_ne _ _ (by decide)) _) ?_
    refine g_if_gt F 26 (dk dtX4_readPlaces_0 6 rfl) (by decide) (fun c14 => ?_) (fun c14 => ?_)
    · -- taken at 14
      refine g_iconst F (nI 0) (dk dtX4_readPlaces_0 12 rfl) (by decide) ?_
      refine g_zret (F := F) hQ (dk dtX4_readPlaces_0 13 rfl) (rfl) ?_
      exact ⟨(if_neg (fun h => h.2.1 c14)).symm, rfl, (if_neg (fun h => h.2 c14)).symm⟩
    · -- not taken at 14
      refine g_aload_n F 0 (dk dtX4_readPlaces_0 7 rfl) rfl ?_
      refine g_iconst F (nI 1) (dk dtX4_readPlaces_0 8 rfl) (by decide) ?_
      refine g_iconst F (nI 4) (dk dtX4_readPlaces_0 9 rfl) (by decide) ?_
      refine g_callVi F (As := [.int (nI 1), .int (nI 4)]) (st := []) cv_X4_78 (dk dtX4_readPlaces_0 10 rfl) (by decide) (cc1 D B _ _) rfl rfl (Nat.le_of_ble_eq_true rfl) ⟨by decide, by decide⟩ (k_X4_readNumberS l D B _ M f n hf hn hn9 g hg _ _) (fun r20 T20 M20 hp20 => ?_)
      obtain ⟨e1, e2, e3⟩ := hp20
      replace e1 := e1.symm; replace e2 := e2.symm; replace e3 := e3.symm; subst e1; subst e2; subst e3
      refine g_if_neB F 28 (dk dtX4_readPlaces_0 11 rfl) (by decide) (fun c23 => ?_) (fun c23 => ?_)
      · -- taken at 23
        refine g_aload_n F 0 (dk dtX4_readPlaces_0 14 rfl) rfl ?_
        refine g_iconst F (nI 1) (dk dtX4_readPlaces_0 15 rfl) (by decide) ?_
        refine g_put F fa_X4_37 (dk dtX4_readPlaces_0 16 rfl) (by decide) (cc1 D B _ _) (Nat.le_of_ble_eq_true rfl) rfl rfl ((cc1 D B _ _).trans st_Text_5) ?_
        refine g_mem (txS_up1 _ _ _ (by decide)) ?_
        refine g_aload_n F 0 (dk dtX4_readPlaces_0 17 rfl) rfl ?_
        refine g_get F fa_X4_22 (dk dtX4_readPlaces_0 18 rfl) (by decide) (cc1 D B _ _) rfl ?_
        refine g_aload_n F 0 (dk dtX4_readPlaces_0 19 rfl) rfl ?_
        refine g_get F fa_X4_49 (dk dtX4_readPlaces_0 20 rfl) (by decide) (cc1 D B _ _) rfl ?_
        refine g_top (txS_9 _ _) ?_
        refine g_put F fa_X4_85 (dk dtX4_readPlaces_0 21 rfl) (by decide) (cc3 D B _ _) (Nat.le_of_ble_eq_true rfl) rfl rfl ((cc3 D B _ _).trans st_Town_1) ?_
        refine g_mem (txS_up _ _ _ _ (by decide)) ?_
        refine g_iconst F (nI 1) (dk dtX4_readPlaces_0 22 rfl) (by decide) ?_
        refine g_zret (F := F) hQ (dk dtX4_readPlaces_0 23 rfl) (rfl) ?_
        exact ⟨(if_pos ⟨c4, c14, c23⟩).symm, rfl, ((if_pos ⟨c4, c14⟩).trans (if_pos c23)).symm⟩
      · -- not taken at 23
        refine g_iconst F (nI 0) (dk dtX4_readPlaces_0 12 rfl) (by decide) ?_
        refine g_zret (F := F) hQ (dk dtX4_readPlaces_0 13 rfl) (rfl) ?_
        exact ⟨(if_neg (fun h => c23 h.2.2)).symm, rfl, ((if_pos ⟨c4, c14⟩).trans (if_neg c23)).symm⟩
