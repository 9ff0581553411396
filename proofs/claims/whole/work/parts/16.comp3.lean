def rmM (M : Mem) (nx kn : Nat) : Mem := up2 (up2 (cpN M (19 + 5 * nx) 12) 17 1 (nI ((nx + 1) % 10))) 17 2 (mn (nI 10) (nI (kn + 1)))
theorem zn01 {j : Nat} (h : j < 2) : vp_nar .boolean (nI j) = nI j := by
  rcases (show j = 0 ∨ j = 1 by omega) with rfl | rfl <;> rfl
def wgF (M : Mem) (p : Nat) : Nat → Int32 × Int32
  | 0 => (nI 0, nI 99)
  | n + 1 => if M 93 n = nI p then (if M 95 n = 0 then (mx (wgF M p n).1 (shk M 12 p (M 94 n).toNatClampNeg + nI 1), (wgF M p n).2) else ((wgF M p n).1, mn (wgF M p n).2 (shk M 12 p (M 94 n).toNatClampNeg))) else wgF M p n
theorem wg_0 (M : Mem) (p : Nat) : up2 (up2 M 92 4 (nI 0)) 92 5 (nI 99) = up2 (up2 M 92 4 (wgF M p 0).1) 92 5 (wgF M p 0).2 := by simp only [wgF]
theorem wgF_n {M : Mem} {p n : Nat} (h : ¬ M 93 n = nI p) : wgF M p (n + 1) = wgF M p n := if_neg h
theorem wg_shk (M : Mem) (a b : Int32) (p k : Nat) : shk (up2 (up2 M 92 4 a) 92 5 b) 12 p k = shk M 12 p k := by
  unfold shk
  rw [up2_ne _ _ (by decide), up2_ne _ _ (by decide), up2_ne _ _ (by decide), up2_ne _ _ (by decide), up2_ne _ _ (by decide), up2_ne _ _ (by decide)]
theorem wgF_l {M : Mem} {p n kq : Nat} (h : M 93 n = nI p) (hk : M 94 n = nI kq) (hk4 : kq < 4) (h0 : M 95 n = 0) : wgF M p (n + 1) = (mx (wgF M p n).1 (shk M 12 p kq + nI 1), (wgF M p n).2) := by
  simp only [wgF]
  rw [if_pos h, if_pos h0, hk, nI_clamp (by omega)]
theorem wgF_g {M : Mem} {p n kq : Nat} (h : M 93 n = nI p) (hk : M 94 n = nI kq) (hk4 : kq < 4) (h0 : ¬ M 95 n = 0) : wgF M p (n + 1) = ((wgF M p n).1, mn (wgF M p n).2 (shk M 12 p kq)) := by
  simp only [wgF]
  rw [if_pos h, if_neg h0, hk, nI_clamp (by omega)]
theorem wg_m1 (M : Mem) (a b c : Int32) : up2 (up2 (up2 M 92 4 a) 92 5 b) 92 4 c = up2 (up2 M 92 4 c) 92 5 b := by
  funext i
  by_cases h : i = 92
  · subst h
    rw [up2_self, up2_self, up2_self, up2_self, up2_self]
    funext j
    by_cases h4 : j = 4
    · subst h4; simp [upd]
    · by_cases h5 : j = 5
      · subst h5; simp [upd]
      · simp [upd, h4, h5]
  · rw [up2_ne _ _ h, up2_ne _ _ h, up2_ne _ _ h, up2_ne _ _ h, up2_ne _ _ h]
theorem wg_m2 (M : Mem) (a b c : Int32) : up2 (up2 (up2 M 92 4 a) 92 5 b) 92 5 c = up2 (up2 M 92 4 a) 92 5 c := by
  funext i
  by_cases h : i = 92
  · subst h
    rw [up2_self, up2_self, up2_self, up2_self, up2_self]
    funext j
    by_cases h5 : j = 5
    · subst h5; simp [upd]
    · simp [upd, h5]
  · rw [up2_ne _ _ h, up2_ne _ _ h, up2_ne _ _ h, up2_ne _ _ h, up2_ne _ _ h]
def btF (M : Mem) (p : Nat) (all : Int32) : Nat → Int32 × Int32
  | 0 => (-9, all + nI 1)
  | k + 1 => if mx (mx (nI 0) (mn (M 92 5) (shk M 12 p k) - M 92 4 + nI 1)) (all - mx (nI 0) (mn (M 92 5) (shk M 12 p k) - M 92 4 + nI 1)) < (btF M p all k).2 then (nI k, mx (mx (nI 0) (mn (M 92 5) (shk M 12 p k) - M 92 4 + nI 1)) (all - mx (nI 0) (mn (M 92 5) (shk M 12 p k) - M 92 4 + nI 1))) else btF M p all k
set_option maxRecDepth 100000 in
set_option maxHeartbeats 4000000 in
theorem k_X3_remember (l : Launch) (D : DX) (B : Nat) (T : Int64) (M : Mem) (nx kn : Nat) (hnx : M 17 1 = nI nx) (hkn : M 17 2 = nI kn) (hnx9 : nx < 10) (hkn9 : kn ≤ 10) : Cv l D B 108 (celC D B) yX3_remember cX3_remember 2 none 3 [.ref (B + 17), .ref (B + 12)] T M (fun T1 M1 => T1 = T ∧ M1 = rmM M nx kn) := by
  refine g_entryv (L := [(0, .ref (B + 17)), (1, .ref (B + 12))]) (by decide) (Nat.le_of_ble_eq_true rfl) rfl ?_
  intro zp ze zs zm zb zt zc Q F hQ
  refine g_aload_n F 0 (dk dtX3_remember_0 0 rfl) rfl ?_
  refine g_get F fa_X3_11 (dk dtX3_remember_0 1 rfl) (by decide) (cc17 D B _ _) rfl ?_
  refine g_aload_n F 0 (dk dtX3_remember_0 2 rfl) rfl ?_
  refine g_get F fa_X3_17 (dk dtX3_remember_0 3 rfl) (by decide) (cc17 D B _ _) rfl ?_
  refine g_top hnx ?_
  refine g_aald F (nx) (dk dtX3_remember_0 4 rfl) (by decide) (cc18 D B _ _) (by omega) (by decide) rfl ?_
  refine g_aload_n F 1 (dk dtX3_remember_0 5 rfl) rfl ?_
  refine g_callVv F (As := [.ref (B + 12)]) (st := []) cv_X3_25 (dk dtX3_remember_0 6 rfl) (by have := (isNowPast D B hnx9).1; omega) ((isNowPast D B hnx9).2.1 _ _) rfl rfl (Nat.le_of_ble_eq_true rfl) ⟨by decide, by decide⟩ (k_X2_copyFrom l D B _ _ (19 + 5 * nx) 12 (isNowPast D B hnx9) (isNow12 D B)) (fun T10 M10 hp10 => ?_)
  obtain ⟨e2, e3⟩ := hp10
  replace e2 := e2.symm; replace e3 := e3.symm; subst e2; subst e3
  refine g_aload_n F 0 (dk dtX3_remember_0 7 rfl) rfl ?_
  refine g_aload_n F 0 (dk dtX3_remember_0 8 rfl) rfl ?_
  refine g_get F fa_X3_17 (dk dtX3_remember_0 9 rfl) (by decide) (cc17 D B _ _) rfl ?_
  refine g_top (congrFun (cpN_fr _ _ _ (by omega)) _) ?_
  refine g_top hnx ?_
  refine g_iconst F (nI 1) (dk dtX3_remember_0 10 rfl) (by decide) ?_
  refine g_iaddN F (dk dtX3_remember_0 11 rfl) ?_
  refine g_bipush F (nI 10) (dk dtX3_remember_0 12 rfl) (by decide) ?_
  refine g_iremN F (dk dtX3_remember_0 13 rfl) (by omega) (by omega) (by omega) ?_
  refine g_put F fa_X3_17 (dk dtX3_remember_0 14 rfl) (by decide) (cc17 D B _ _) (Nat.le_of_ble_eq_true rfl) rfl rfl ((cc17 D B _ _).trans st_Past_1) ?_
  refine g_aload_n F 0 (dk dtX3_remember_0 15 rfl) rfl ?_
  refine g_bipush F (nI 10) (dk dtX3_remember_0 16 rfl) (by decide) ?_
  refine g_aload_n F 0 (dk dtX3_remember_0 17 rfl) rfl ?_
  refine g_get F fa_X3_21 (dk dtX3_remember_0 18 rfl) (by decide) (cc17 D B _ _) rfl ?_
  refine g_top ((congrFun (up2_self _ _ _ _) _).trans (pk_un (by decide))) ?_
  refine g_top (congrFun (cpN_fr _ _ _ (by omega)) _) ?_
  refine g_top hkn ?_
  refine g_iconst F (nI 1) (dk dtX3_remember_0 19 rfl) (by decide) ?_
  refine g_iaddN F (dk dtX3_remember_0 20 rfl) ?_
  refine g_mmin F (tw2 122 rfl) (dk dtX3_remember_0 21 rfl) (Nat.le_of_ble_eq_true rfl) (Nat.le_of_ble_eq_true rfl) ?_
  refine g_put F fa_X3_21 (dk dtX3_remember_0 22 rfl) (by decide) (cc17 D B _ _) (Nat.le_of_ble_eq_true rfl) rfl rfl ((cc17 D B _ _).trans st_Past_2) ?_
  refine g_vret (F := F) hQ (dk dtX3_remember_0 23 rfl) ?_
  exact ⟨rfl, rfl⟩
set_option maxRecDepth 100000 in
set_option maxHeartbeats 4000000 in
theorem k_X3_restore (l : Launch) (D : DX) (B : Nat) (T : Int64) (M : Mem) (nx kn : Nat) (hnx : M 17 1 = nI nx) (hkn : M 17 2 = nI (kn + 1)) (hnx9 : nx < 10) (hkn9 : kn < 10) : Cv l D B 108 (celC D B) yX3_restore cX3_restore 2 none 3 [.ref (B + 17), .ref (B + 12)] T M (fun T1 M1 => T1 = T ∧ M1 = cpN (up2 (up2 M 17 1 (nI ((nx + 9) % 10))) 17 2 (nI kn)) 12 (19 + 5 * ((nx + 9) % 10))) := by
  refine g_entryv (L := [(0, .ref (B + 17)), (1, .ref (B + 12))]) (by decide) (Nat.le_of_ble_eq_true rfl) rfl ?_
  intro zp ze zs zm zb zt zc Q F hQ
  refine g_aload_n F 0 (dk dtX3_restore_0 0 rfl) rfl ?_
  refine g_get F fa_X3_21 (dk dtX3_restore_0 1 rfl) (by decide) (cc17 D B _ _) rfl ?_
  refine g_top hkn ?_
  refine g_if_gt F 8 (dk dtX3_restore_0 2 rfl) (by decide) (fun c4 => ?_) (fun c4 => ?_)
  · -- taken at 4
    refine g_aload_n F 0 (dk dtX3_restore_0 4 rfl) rfl ?_
    refine g_aload_n F 0 (dk dtX3_restore_0 5 rfl) rfl ?_
    refine g_get F fa_X3_17 (dk dtX3_restore_0 6 rfl) (by decide) (cc17 D B _ _) rfl ?_
    refine g_top hnx ?_
    refine g_bipush F (nI 10) (dk dtX3_restore_0 7 rfl) (by decide) ?_
    refine g_iaddN F (dk dtX3_restore_0 8 rfl) ?_
    refine g_iconst F (nI 1) (dk dtX3_restore_0 9 rfl) (by decide) ?_
    refine g_isubE F (nI (nx + 9)) (dk dtX3_restore_0 10 rfl) (pk_sub (a := nx + 10) (b := 1) (by omega)).symm ?_
    refine g_bipush F (nI 10) (dk dtX3_restore_0 11 rfl) (by decide) ?_
    refine g_iremN F (dk dtX3_restore_0 12 rfl) (by omega) (by omega) (by omega) ?_
    refine g_put F fa_X3_17 (dk dtX3_restore_0 13 rfl) (by decide) (cc17 D B _ _) (Nat.le_of_ble_eq_true rfl) rfl rfl ((cc17 D B _ _).trans st_Past_1) ?_
    refine g_aload_n F 0 (dk dtX3_restore_0 14 rfl) rfl ?_
    refine g_dup F (dk dtX3_restore_0 15 rfl) rfl ?_
    refine g_get F fa_X3_21 (dk dtX3_restore_0 16 rfl) (by decide) (cc17 D B _ _) rfl ?_
    refine g_top ((congrFun (up2_self _ _ _ _) _).trans (pk_un (by decide))) ?_
    refine g_top hkn ?_
    refine g_iconst F (nI 1) (dk dtX3_restore_0 17 rfl) (by decide) ?_
    refine g_isubE F (nI kn) (dk dtX3_restore_0 18 rfl) (nI_pred _).symm ?_
    refine g_put F fa_X3_21 (dk dtX3_restore_0 19 rfl) (by decide) (cc17 D B _ _) (Nat.le_of_ble_eq_true rfl) rfl rfl ((cc17 D B _ _).trans st_Past_2) ?_
    refine g_aload_n F 1 (dk dtX3_restore_0 20 rfl) rfl ?_
    refine g_aload_n F 0 (dk dtX3_restore_0 21 rfl) rfl ?_
    refine g_get F fa_X3_11 (dk dtX3_restore_0 22 rfl) (by decide) (cc17 D B _ _) rfl ?_
    refine g_aload_n F 0 (dk dtX3_restore_0 23 rfl) rfl ?_
    refine g_get F fa_X3_17 (dk dtX3_restore_0 24 rfl) (by decide) (cc17 D B _ _) rfl ?_
    refine g_top ((congrFun (up2_self _ _ _ _) _).trans (pk_un (by decide))) ?_
    refine g_top ((congrFun (up2_self _ _ _ _) _).trans pk_us) ?_
    refine g_aald F ((nx + 9) % 10) (dk dtX3_restore_0 25 rfl) (by decide) (cc18 D B _ _) (Nat.mod_lt _ (by decide)) (by decide) rfl ?_
    refine g_callVv F (As := [.ref (B + (19 + 5 * ((nx + 9) % 10)))]) (st := []) cv_X3_25 (dk dtX3_restore_0 26 rfl) (by decide) (cc12 D B _ _) rfl rfl (Nat.le_of_ble_eq_true rfl) ⟨by decide, by decide⟩ (k_X2_copyFrom l D B _ _ 12 (19 + 5 * ((nx + 9) % 10)) (isNow12 D B) (isNowPast D B (Nat.mod_lt _ (by decide)))) (fun T44 M44 hp44 => ?_)
    obtain ⟨e2, e3⟩ := hp44
    replace e2 := e2.symm; replace e3 := e3.symm; subst e2; subst e3
    refine g_vret (F := F) hQ (dk dtX3_restore_0 27 rfl) ?_
    exact ⟨rfl, rfl⟩
  · -- not taken at 4
    exact absurd (show (0 : Int32) < nI (kn + 1) by rw [← nI_0]; exact nI_lt (by omega) (by omega)) c4
set_option maxRecDepth 100000 in
set_option maxHeartbeats 4000000 in
theorem k_X1_add (l : Launch) (D : DX) (B : Nat) (T : Int64) (M : Mem) (nn p k j : Nat) (hnn : M 92 3 = nI nn) (hnn6 : nn < 6) (hj : j < 2) : Cv l D B 108 (celC D B) yX1_add cX1_add 4 none 0 [.ref (B + 92), .int (nI p), .int (nI k), .int (nI j)] T M (fun T1 M1 => T1 = T ∧ M1 = up2 (up2 (up2 (up2 M 93 nn (nI p)) 94 nn (nI k)) 95 nn (nI j)) 92 3 (nI (nn + 1))) := by
  refine g_entryv (L := [(0, .ref (B + 92)), (1, .int (nI p)), (2, .int (nI k)), (3, .int (nI j))]) (by decide) (Nat.le_of_ble_eq_true rfl) rfl ?_
  intro zp ze zs zm zb zt zc Q F hQ
  refine g_aload_n F 0 (dk dtX1_add_0 0 rfl) rfl ?_
  refine g_get F fa_X1_22 (dk dtX1_add_0 1 rfl) (by decide) (cc92 D B _ _) rfl ?_
  refine g_top hnn ?_
  refine g_bipush F (nI 6) (dk dtX1_add_0 2 rfl) (by decide) ?_
  refine g_icmp_ltN F 10 (dk dtX1_add_0 3 rfl) (by decide) (by omega) (by omega) (fun c6 => ?_) (fun c6 => ?_)
  · -- taken at 6
    refine g_aload_n F 0 (dk dtX1_add_0 5 rfl) rfl ?_
    refine g_get F fa_X1_9 (dk dtX1_add_0 6 rfl) (by decide) (cc92 D B _ _) rfl ?_
    refine g_aload_n F 0 (dk dtX1_add_0 7 rfl) rfl ?_
    refine g_get F fa_X1_22 (dk dtX1_add_0 8 rfl) (by decide) (cc92 D B _ _) rfl ?_
    refine g_top hnn ?_
    refine g_iload_n F 1 (dk dtX1_add_0 9 rfl) rfl ?_
    refine g_iast F (nn) (dk dtX1_add_0 10 rfl) (by decide) (fun r => cc93 D B _ r) (by omega) (by decide) ?_
    refine g_aload_n F 0 (dk dtX1_add_0 11 rfl) rfl ?_
    refine g_get F fa_X1_15 (dk dtX1_add_0 12 rfl) (by decide) (cc92 D B _ _) rfl ?_
    refine g_aload_n F 0 (dk dtX1_add_0 13 rfl) rfl ?_
    refine g_get F fa_X1_22 (dk dtX1_add_0 14 rfl) (by decide) (cc92 D B _ _) rfl ?_
    refine g_top (congrFun (up2_ne _ _ (by decide)) _) ?_
    refine g_top hnn ?_
    refine g_iload_n F 2 (dk dtX1_add_0 15 rfl) rfl ?_
    refine g_iast F (nn) (dk dtX1_add_0 16 rfl) (by decide) (fun r => cc94 D B _ r) (by omega) (by decide) ?_
    refine g_aload_n F 0 (dk dtX1_add_0 17 rfl) rfl ?_
    refine g_get F fa_X1_18 (dk dtX1_add_0 18 rfl) (by decide) (cc92 D B _ _) rfl ?_
    refine g_aload_n F 0 (dk dtX1_add_0 19 rfl) rfl ?_
    refine g_get F fa_X1_22 (dk dtX1_add_0 20 rfl) (by decide) (cc92 D B _ _) rfl ?_
    refine g_top (congrFun (up2_ne _ _ (by decide)) _) ?_
    refine g_top (congrFun (up2_ne _ _ (by decide)) _) ?_
    refine g_top hnn ?_
    refine g_iload_n F 3 (dk dtX1_add_0 21 rfl) rfl ?_
    refine g_zast F (nn) (dk dtX1_add_0 22 rfl) (by decide) (fun r => cc95 D B _ r) (by omega) (by decide) (zn01 hj) ?_
    refine g_aload_n F 0 (dk dtX1_add_0 23 rfl) rfl ?_
    refine g_dup F (dk dtX1_add_0 24 rfl) rfl ?_
    refine g_get F fa_X1_22 (dk dtX1_add_0 25 rfl) (by decide) (cc92 D B _ _) rfl ?_
    refine g_top (congrFun (up2_ne _ _ (by decide)) _) ?_
    refine g_top (congrFun (up2_ne _ _ (by decide)) _) ?_
    refine g_top (congrFun (up2_ne _ _ (by decide)) _) ?_
    refine g_top hnn ?_
    refine g_iconst F (nI 1) (dk dtX1_add_0 26 rfl) (by decide) ?_
    refine g_iaddN F (dk dtX1_add_0 27 rfl) ?_
    refine g_put F fa_X1_22 (dk dtX1_add_0 28 rfl) (by decide) (cc92 D B _ _) (Nat.le_of_ble_eq_true rfl) rfl rfl ((cc92 D B _ _).trans st_Note_3) ?_
    refine g_vret (F := F) hQ (dk dtX1_add_0 29 rfl) ?_
    exact ⟨rfl, rfl⟩
  · -- not taken at 6
    exact absurd c6 (by omega)
set_option maxRecDepth 100000 in
set_option maxHeartbeats 4000000 in
theorem k_X1_weigh (l : Launch) (D : DX) (B : Nat) (T : Int64) (M : Mem) (nn : Nat) (hnn : M 92 3 = nI nn) (hnn6 : nn ≤ 6) (hN : ∀ i, i < nn → ∃ k : Nat, k < 4 ∧ M 94 i = nI k) (p : Nat) (hp : p < 5) : Cv l D B 108 (celC D B) yX1_weigh cX1_weigh 6 none 1 [.ref (B + 92), .ref (B + 10), .ref (B + 12), .int (nI p)] T M (fun T1 M1 => T1 = T ∧ M1 = up2 (up2 M 92 4 (wgF M p nn).1) 92 5 (wgF M p nn).2) := by
  refine g_entryv (L := [(0, .ref (B + 92)), (1, .ref (B + 10)), (2, .ref (B + 12)), (3, .int (nI p))]) (by decide) (Nat.le_of_ble_eq_true rfl) rfl ?_
  intro zp ze zs zm zb zt zc Q F hQ
  refine g_aload_n F 0 (dk dtX1_weigh_0 0 rfl) rfl ?_
  refine g_iconst F (nI 0) (dk dtX1_weigh_0 1 rfl) (by decide) ?_
  refine g_put F fa_X1_26 (dk dtX1_weigh_0 2 rfl) (by decide) (cc92 D B _ _) (Nat.le_of_ble_eq_true rfl) rfl rfl ((cc92 D B _ _).trans st_Note_4) ?_
  refine g_aload_n F 0 (dk dtX1_weigh_0 3 rfl) rfl ?_
  refine g_bipush F (nI 99) (dk dtX1_weigh_0 4 rfl) (by decide) ?_
  refine g_put F fa_X1_29 (dk dtX1_weigh_0 5 rfl) (by decide) (cc92 D B _ _) (Nat.le_of_ble_eq_true rfl) rfl rfl ((cc92 D B _ _).trans st_Note_5) ?_
  refine g_iconst F (nI 0) (dk dtX1_weigh_0 6 rfl) (by decide) ?_
  refine g_istore F [(4, .int (nI 0)), (0, .ref (B + 92)), (1, .ref (B + 10)), (2, .ref (B + 12)), (3, .int (nI p))] (dk dtX1_weigh_0 7 rfl) (by decide) rfl ?_
  have lp14 : ∀ (fz : Nat) (i : Nat), i ≤ nn → (nn - i) < fz → G zp l ze { frames := 1, cells := 0, slots := 0, locals := 40 * 1 } zs zm [.ref (B + 92), .ref (B + 10), .ref (B + 12), .int (nI p)].toArray zb zt zc 6 D B 108 (celC D B) Q T (up2 (up2 M 92 4 (wgF M p i).1) 92 5 (wgF M p i).2) 14 [(0, .ref (B + 92)), (1, .ref (B + 10)), (2, .ref (B + 12)), (3, .int (nI p)), (4, .int (nI i))] [] := by
    intro n14
    induction n14 with
    | zero => intro i hI hn; exact absurd hn (Nat.not_lt_zero _)
    | succ n14 ih14 =>
      intro i hI14 hn14
      refine g_iload F 4 (dk dtX1_weigh_0 8 rfl) rfl ?_
      refine g_aload_n F 0 (dk dtX1_weigh_0 9 rfl) rfl ?_
      refine g_get F fa_X1_22 (dk dtX1_weigh_0 10 rfl) (by decide) (cc92 D B _ _) rfl ?_
      refine g_top ((congrFun (up2_self _ _ _ _) _).trans (pk_un (by decide))) ?_
      refine g_top ((congrFun (up2_self _ _ _ _) _).trans (pk_un (by decide))) ?_
      refine g_top hnn ?_
      refine g_icmp_geN F 96 (dk dtX1_weigh_0 11 rfl) (by decide) (by omega) (by omega) (fun c20 => ?_) (fun c20 => ?_)
      · -- taken at 20
        obtain rfl : nn = i := by omega
        refine g_vret (F := F) hQ (dk dtX1_weigh_0 49 rfl) ?_
        exact ⟨rfl, rfl⟩
      · -- not taken at 20
        refine g_aload_n F 0 (dk dtX1_weigh_0 12 rfl) rfl ?_
        refine g_get F fa_X1_9 (dk dtX1_weigh_0 13 rfl) (by decide) (cc92 D B _ _) rfl ?_
        refine g_iload F 4 (dk dtX1_weigh_0 14 rfl) rfl ?_
        refine g_iald F (i) (dk dtX1_weigh_0 15 rfl) (by decide) (cc93 D B _ _) (by omega) (by decide) ?_
        refine g_top (congrFun (up2_ne _ _ (by decide)) _) ?_
        refine g_top (congrFun (up2_ne _ _ (by decide)) _) ?_
        refine g_iload_n F 3 (dk dtX1_weigh_0 16 rfl) rfl ?_
        refine g_icmp_ne F 90 (dk dtX1_weigh_0 17 rfl) (by decide) (fun c31 => ?_) (fun c31 => ?_)
        · -- taken at 31
          refine g_iinc F 4 (nI (i + 1)) [(4, .int (nI (i + 1))), (0, .ref (B + 92)), (1, .ref (B + 10)), (2, .ref (B + 12)), (3, .int (nI p))] (dk dtX1_weigh_0 47 rfl) rfl (nI_1 _) (by decide) rfl ?_
          refine g_goto F 14 (dk dtX1_weigh_0 48 rfl) (by decide) ?_
          refine g_sub [1, 2, 3, 4, 0] (L1 := [(0, .ref (B + 92)), (1, .ref (B + 10)), (2, .ref (B + 12)), (3, .int (nI p)), (4, .int (nI (i + 1)))]) rfl ?_
          refine g_st (M1 := up2 (up2 M 92 4 (wgF M p (i + 1)).1) 92 5 (wgF M p (i + 1)).2) (L1 := [(0, .ref (B + 92)), (1, .ref (B + 10)), (2, .ref (B + 12)), (3, .int (nI p)), (4, .int (nI (i + 1)))]) (by rw [wgF_n c31]) rfl rfl ?_
          exact ih14 (i + 1) (by omega) (by omega)
        · -- not taken at 31
          refine g_aload_n F 1 (dk dtX1_weigh_0 18 rfl) rfl ?_
          refine g_aload_n F 2 (dk dtX1_weigh_0 19 rfl) rfl ?_
          refine g_iload_n F 3 (dk dtX1_weigh_0 20 rfl) rfl ?_
          refine g_aload_n F 0 (dk dtX1_weigh_0 21 rfl) rfl ?_
          refine g_get F fa_X1_15 (dk dtX1_weigh_0 22 rfl) (by decide) (cc92 D B _ _) rfl ?_
          obtain ⟨kq, hkq4, hkq⟩ := hN i (by omega)
          refine g_iload F 4 (dk dtX1_weigh_0 23 rfl) rfl ?_
          refine g_iald F (i) (dk dtX1_weigh_0 24 rfl) (by decide) (cc94 D B _ _) (by omega) (by decide) ?_
          refine g_top (((congrFun (up2_ne _ _ (by decide)) _).trans (congrFun (up2_ne _ _ (by decide)) _)).trans hkq) ?_
          refine g_callVi F (As := [.ref (B + 12), .int (nI p), .int (nI kq)]) (st := []) cv_X1_32 (dk dtX1_weigh_0 25 rfl) (by decide) (cc10 D B _ _) rfl rfl (Nat.le_of_ble_eq_true rfl) ⟨by decide, by decide⟩ (k_X5_shock l D B _ _ 12 (isNow12 D B) p kq (by omega) (by omega)) (fun r44 T44 M44 hp44 => ?_)
          obtain ⟨e1, e2, e3⟩ := hp44
          replace e1 := e1.symm; replace e2 := e2.symm; replace e3 := e3.symm; subst e1; subst e2; subst e3
          refine g_top (wg_shk _ _ _ _ _) ?_
          refine g_istore F [(5, .int (shk M 12 p kq)), (0, .ref (B + 92)), (1, .ref (B + 10)), (2, .ref (B + 12)), (3, .int (nI p)), (4, .int (nI i))] (dk dtX1_weigh_0 26 rfl) (by decide) rfl ?_
          refine g_aload_n F 1 (dk dtX1_weigh_0 27 rfl) rfl ?_
          refine g_get F fa_X1_18 (dk dtX1_weigh_0 28 rfl) (by decide) (cc92 D B _ _) rfl ?_
          refine g_iload F 5 (dk dtX1_weigh_0 29 rfl) rfl ?_
          refine g_zald F (i) (dk dtX1_weigh_0 30 rfl) (by decide) (cc95 D B _ _) (by omega) (by decide) ?_
          refine g_top (congrFun (up2_ne _ _ (by decide)) _) ?_
          refine g_top (congrFun (up2_ne _ _ (by decide)) _) ?_
          refine g_if_eq F 75 (dk dtX1_weigh_0 31 rfl) (by decide) (fun c56 => ?_) (fun c56 => ?_)
          · -- taken at 56
            refine g_aload_n F 1 (dk dtX1_weigh_0 39 rfl) rfl ?_
            refine g_aload_n F 1 (dk dtX1_weigh_0 40 rfl) rfl ?_
            refine g_get F fa_X1_26 (dk dtX1_weigh_0 41 rfl) (by decide) (cc92 D B _ _) rfl ?_
            refine g_top ((congrFun (up2_self _ _ _ _) _).trans (pk_un (by decide))) ?_
            refine g_top ((congrFun (up2_self _ _ _ _) _).trans pk_us) ?_
            refine g_iload F 0 (dk dtX1_weigh_0 42 rfl) rfl ?_
            refine g_iconst F (nI 1) (dk dtX1_weigh_0 43 rfl) (by decide) ?_
            refine g_iadd F (dk dtX1_weigh_0 44 rfl) ?_
            refine g_mmax F (tw3 15 rfl) (dk dtX1_weigh_0 45 rfl) (Nat.le_of_ble_eq_true rfl) (Nat.le_of_ble_eq_true rfl) ?_
            refine g_put F fa_X1_26 (dk dtX1_weigh_0 46 rfl) (by decide) (cc92 D B _ _) (Nat.le_of_ble_eq_true rfl) rfl rfl ((cc92 D B _ _).trans st_Note_4) ?_
            refine g_iinc F 5 (nI (i + 1)) [(4, .int (nI (i + 1))), (5, .int (shk M 12 p kq)), (0, .ref (B + 92)), (1, .ref (B + 10)), (2, .ref (B + 12)), (3, .int (nI p))] (dk dtX1_weigh_0 47 rfl) rfl (nI_1 _) (by decide) rfl ?_
            refine g_goto F 14 (dk dtX1_weigh_0 48 rfl) (by decide) ?_
            refine g_sub [2, 3, 4, 5, 0] (L1 := [(0, .ref (B + 92)), (1, .ref (B + 10)), (2, .ref (B + 12)), (3, .int (nI p)), (4, .int (nI (i + 1)))]) rfl ?_
            refine g_st (M1 := up2 (up2 M 92 4 (wgF M p (i + 1)).1) 92 5 (wgF M p (i + 1)).2) (L1 := [(0, .ref (B + 92)), (1, .ref (B + 10)), (2, .ref (B + 12)), (3, .int (nI p)), (4, .int (nI (i + 1)))]) (by rw [wgF_l c31 hkq hkq4 c56]; exact wg_m1 _ _ _ _) rfl rfl ?_
            exact ih14 (i + 1) (by omega) (by omega)
          · -- not taken at 56
            refine g_aload_n F 1 (dk dtX1_weigh_0 32 rfl) rfl ?_
            refine g_aload_n F 1 (dk dtX1_weigh_0 33 rfl) rfl ?_
            refine g_get F fa_X1_29 (dk dtX1_weigh_0 34 rfl) (by decide) (cc92 D B _ _) rfl ?_
            refine g_top ((congrFun (up2_self _ _ _ _) _).trans pk_us) ?_
            refine g_iload F 0 (dk dtX1_weigh_0 35 rfl) rfl ?_
            refine g_mmin F (tw3 14 rfl) (dk dtX1_weigh_0 36 rfl) (Nat.le_of_ble_eq_true rfl) (Nat.le_of_ble_eq_true rfl) ?_
            refine g_put F fa_X1_29 (dk dtX1_weigh_0 37 rfl) (by decide) (cc92 D B _ _) (Nat.le_of_ble_eq_true rfl) rfl rfl ((cc92 D B _ _).trans st_Note_5) ?_
            refine g_goto F 90 (dk dtX1_weigh_0 38 rfl) (by decide) ?_
            refine g_iinc F 5 (nI (i + 1)) [(4, .int (nI (i + 1))), (5, .int (shk M 12 p kq)), (0, .ref (B + 92)), (1, .ref (B + 10)), (2, .ref (B + 12)), (3, .int (nI p))] (dk dtX1_weigh_0 47 rfl) rfl (nI_1 _) (by decide) rfl ?_
            refine g_goto F 14 (dk dtX1_weigh_0 48 rfl) (by decide) ?_
            refine g_sub [2, 3, 4, 5, 0] (L1 := [(0, .ref (B + 92)), (1, .ref (B + 10)), (2, .ref (B + 12)), (3, .int (nI p)), (4, .int (nI (i + 1)))]) rfl ?_
            refine g_st (M1 := up2 (up2 M 92 4 (wgF M p (i + 1)).1) 92 5 (wgF M p (i + 1)).2) (L1 := [(0, .ref (B + 92)), (1, .ref (B + 10)), (2, .ref (B + 12)), (3, .int (nI p)), (4, .int (nI (i + 1)))]) (by rw [wgF_g c31 hkq hkq4 c56]; exact wg_m2 _ _ _ _) rfl rfl ?_
            exact ih14 (i + 1) (by omega) (by omega)
  refine g_sub [1, 2, 3, 4, 0] (L1 := [(0, .ref (B + 92)), (1, .ref (B + 10)), (2, .ref (B + 12)), (3, .int (nI p)), (4, .int (nI 0))]) rfl ?_
  exact g_mem (wg_0 M p) (lp14 (nn + 1) 0 (by omega) (by omega))
set_option maxRecDepth 100000 in
set_option maxHeartbeats 4000000 in
theorem k_X1_possible (l : Launch) (D : DX) (B : Nat) (T : Int64) (M : Mem)  : Ci l D B 108 (celC D B) yX1_possible cX1_possible 1 (some .int) 1 [.ref (B + 92)] T M (fun r T1 M1 => r = mx (nI 0) (M 92 5 - M 92 4 + nI 1) ∧ T1 = T ∧ M1 = M) := by
  refine g_entryi (L := [(0, .ref (B + 92))]) (by decide) (Nat.le_of_ble_eq_true rfl) rfl ?_
  intro zp ze zs zm zb zt zc Q F hQ
  refine g_iconst F (nI 0) (dk dtX1_possible_0 0 rfl) (by decide) ?_
  refine g_aload_n F 0 (dk dtX1_possible_0 1 rfl) rfl ?_
  refine g_get F fa_X1_29 (dk dtX1_possible_0 2 rfl) (by decide) (cc92 D B _ _) rfl ?_
  refine g_aload_n F 0 (dk dtX1_possible_0 3 rfl) rfl ?_
  refine g_get F fa_X1_26 (dk dtX1_possible_0 4 rfl) (by decide) (cc92 D B _ _) rfl ?_
  refine g_isub F (dk dtX1_possible_0 5 rfl) ?_
  refine g_iconst F (nI 1) (dk dtX1_possible_0 6 rfl) (by decide) ?_
  refine g_iadd F (dk dtX1_possible_0 7 rfl) ?_
  refine g_mmax F (tw3 15 rfl) (dk dtX1_possible_0 8 rfl) (Nat.le_of_ble_eq_true rfl) (Nat.le_of_ble_eq_true rfl) ?_
  refine g_iret (F := F) hQ (dk dtX1_possible_0 9 rfl) ?_
  exact ⟨rfl, rfl, rfl⟩
set_option maxRecDepth 100000 in
set_option maxHeartbeats 4000000 in
theorem k_X1_bestTry (l : Launch) (D : DX) (B : Nat) (T : Int64) (M : Mem) (K : Nat) (hK : M 10 0 = nI K) (hK4 : K ≤ 4) (p : Nat) (hp : p < 5) : Ci l D B 108 (celC D B) yX1_bestTry cX1_bestTry 11 (some .int) 2 [.ref (B + 92), .ref (B + 10), .ref (B + 12), .int (nI p)] T M (fun r T1 M1 => r = (if nI 1 < mx (nI 0) (M 92 5 - M 92 4 + nI 1) then (btF M p (mx (nI 0) (M 92 5 - M 92 4 + nI 1)) K).1 else -9) ∧ T1 = T ∧ M1 = M) := by
  refine g_entryi (L := [(0, .ref (B + 92)), (1, .ref (B + 10)), (2, .ref (B + 12)), (3, .int (nI p))]) (by decide) (Nat.le_of_ble_eq_true rfl) rfl ?_
  intro zp ze zs zm zb zt zc Q F hQ
  refine g_aload_n F 0 (dk dtX1_bestTry_0 0 rfl) rfl ?_
  refine g_callVi F (As := []) (st := []) cv_X1_47 (dk dtX1_bestTry_0 1 rfl) (by decide) (cc92 D B _ _) rfl rfl (Nat.le_of_ble_eq_true rfl) ⟨by decide, by decide⟩ (k_X1_possible l D B _ _) (fun r1 T1 M1 hp1 => ?_)
  obtain ⟨e1, e2, e3⟩ := hp1
  replace e1 := e1.symm; replace e2 := e2.symm; replace e3 := e3.symm; subst e1; subst e2; subst e3
  refine g_istore F [(4, .int (mx (nI 0) (M 92 5 - M 92 4 + nI 1))), (0, .ref (B + 92)), (1, .ref (B + 10)), (2, .ref (B + 12)), (3, .int (nI p))] (dk dtX1_bestTry_0 2 rfl) (by decide) rfl ?_
  refine g_iload F 0 (dk dtX1_bestTry_0 3 rfl) rfl ?_
  refine g_iconst F (nI 1) (dk dtX1_bestTry_0 4 rfl) (by decide) ?_
  refine g_icmp_gt F 15 (dk dtX1_bestTry_0 5 rfl) (by decide) (fun c9 => ?_) (fun c9 => ?_)
  · -- taken at 9
    refine g_bipush F (-9) (dk dtX1_bestTry_0 8 rfl) (by decide) ?_
    refine g_istore F [(5, .int (-9)), (4, .int (mx (nI 0) (M 92 5 - M 92 4 + nI 1))), (0, .ref (B + 92)), (1, .ref (B + 10)), (2, .ref (B + 12)), (3, .int (nI p))] (dk dtX1_bestTry_0 9 rfl) (by decide) rfl ?_
    refine g_iload F 1 (dk dtX1_bestTry_0 10 rfl) rfl ?_
    refine g_iconst F (nI 1) (dk dtX1_bestTry_0 11 rfl) (by decide) ?_
    refine g_iadd F (dk dtX1_bestTry_0 12 rfl) ?_
    refine g_istore F [(6, .int ((mx (nI 0) (M 92 5 - M 92 4 + nI 1)) + (nI 1))), (5, .int (-9)), (4, .int (mx (nI 0) (M 92 5 - M 92 4 + nI 1))), (0, .ref (B + 92)), (1, .ref (B + 10)), (2, .ref (B + 12)), (3, .int (nI p))] (dk dtX1_bestTry_0 13 rfl) (by decide) rfl ?_
    refine g_iconst F (nI 0) (dk dtX1_bestTry_0 14 rfl) (by decide) ?_
    refine g_istore F [(7, .int (nI 0)), (6, .int ((mx (nI 0) (M 92 5 - M 92 4 + nI 1)) + (nI 1))), (5, .int (-9)), (4, .int (mx (nI 0) (M 92 5 - M 92 4 + nI 1))), (0, .ref (B + 92)), (1, .ref (B + 10)), (2, .ref (B + 12)), (3, .int (nI p))] (dk dtX1_bestTry_0 15 rfl) (by decide) rfl ?_
    have lp28 : ∀ (fz : Nat) (i : Nat), i ≤ K → (K - i) < fz → G zp l ze { frames := 2, cells := 0, slots := 0, locals := 40 * 2 } zs zm [.ref (B + 92), .ref (B + 10), .ref (B + 12), .int (nI p)].toArray zb zt zc 11 D B 108 (celC D B) Q T M 28 [(0, .ref (B + 92)), (1, .ref (B + 10)), (2, .ref (B + 12)), (3, .int (nI p)), (4, .int (mx (nI 0) (M 92 5 - M 92 4 + nI 1))), (5, .int ((btF M p (mx (nI 0) (M 92 5 - M 92 4 + nI 1)) i).1)), (6, .int ((btF M p (mx (nI 0) (M 92 5 - M 92 4 + nI 1)) i).2)), (7, .int (nI i))] [] := by
      intro n28
      induction n28 with
      | zero => intro i hI hn; exact absurd hn (Nat.not_lt_zero _)
      | succ n28 ih28 =>
        intro i hI28 hn28
        refine g_iload F 7 (dk dtX1_bestTry_0 16 rfl) rfl ?_
        refine g_aload_n F 1 (dk dtX1_bestTry_0 17 rfl) rfl ?_
        refine g_get F fa_X1_51 (dk dtX1_bestTry_0 18 rfl) (by decide) (cc10 D B _ _) rfl ?_
        refine g_top hK ?_
        refine g_icmp_geN F 102 (dk dtX1_bestTry_0 19 rfl) (by decide) (by omega) (by omega) (fun c34 => ?_) (fun c34 => ?_)
        · -- taken at 34
          obtain rfl : K = i := by omega
          refine g_iload F 5 (dk dtX1_bestTry_0 53 rfl) rfl ?_
          refine g_iret (F := F) hQ (dk dtX1_bestTry_0 54 rfl) ?_
          exact ⟨(if_pos c9).symm, rfl, rfl⟩
        · -- not taken at 34
          refine g_aload_n F 0 (dk dtX1_bestTry_0 20 rfl) rfl ?_
          refine g_get F fa_X1_29 (dk dtX1_bestTry_0 21 rfl) (by decide) (cc92 D B _ _) rfl ?_
          refine g_aload_n F 1 (dk dtX1_bestTry_0 22 rfl) rfl ?_
          refine g_aload_n F 2 (dk dtX1_bestTry_0 23 rfl) rfl ?_
          refine g_iload_n F 3 (dk dtX1_bestTry_0 24 rfl) rfl ?_
          refine g_iload F 7 (dk dtX1_bestTry_0 25 rfl) rfl ?_
          refine g_callVi F (As := [.ref (B + 12), .int (nI p), .int (nI i)]) (st := [.int (M 92 5)]) cv_X1_32 (dk dtX1_bestTry_0 26 rfl) (by decide) (cc10 D B _ _) rfl rfl (Nat.le_of_ble_eq_true rfl) ⟨by decide, by decide⟩ (k_X5_shock l D B _ _ 12 (isNow12 D B) p i (by omega) (by omega)) (fun r46 T46 M46 hp46 => ?_)
          obtain ⟨e1, e2, e3⟩ := hp46
          replace e1 := e1.symm; replace e2 := e2.symm; replace e3 := e3.symm; subst e1; subst e2; subst e3
          refine g_mmin F (tw3 14 rfl) (dk dtX1_bestTry_0 27 rfl) (Nat.le_of_ble_eq_true rfl) (Nat.le_of_ble_eq_true rfl) ?_
          refine g_istore F [(8, .int (mn (M 92 5) (shk M 12 p i))), (0, .ref (B + 92)), (1, .ref (B + 10)), (2, .ref (B + 12)), (3, .int (nI p)), (4, .int (mx (nI 0) (M 92 5 - M 92 4 + nI 1))), (5, .int ((btF M p (mx (nI 0) (M 92 5 - M 92 4 + nI 1)) i).1)), (6, .int ((btF M p (mx (nI 0) (M 92 5 - M 92 4 + nI 1)) i).2)), (7, .int (nI i))] (dk dtX1_bestTry_0 28 rfl) (by decide) rfl ?_
          refine g_iconst F (nI 0) (dk dtX1_bestTry_0 29 rfl) (by decide) ?_
          refine g_iload F 0 (dk dtX1_bestTry_0 30 rfl) rfl ?_
          refine g_aload_n F 1 (dk dtX1_bestTry_0 31 rfl) rfl ?_
          refine g_get F fa_X1_26 (dk dtX1_bestTry_0 32 rfl) (by decide) (cc92 D B _ _) rfl ?_
          refine g_isub F (dk dtX1_bestTry_0 33 rfl) ?_
          refine g_iconst F (nI 1) (dk dtX1_bestTry_0 34 rfl) (by decide) ?_
          refine g_iadd F (dk dtX1_bestTry_0 35 rfl) ?_
          refine g_mmax F (tw3 15 rfl) (dk dtX1_bestTry_0 36 rfl) (Nat.le_of_ble_eq_true rfl) (Nat.le_of_ble_eq_true rfl) ?_
          refine g_istore F [(9, .int (mx (nI 0) (((mn (M 92 5) (shk M 12 p i)) - (M 92 4)) + (nI 1)))), (8, .int (mn (M 92 5) (shk M 12 p i))), (0, .ref (B + 92)), (1, .ref (B + 10)), (2, .ref (B + 12)), (3, .int (nI p)), (4, .int (mx (nI 0) (M 92 5 - M 92 4 + nI 1))), (5, .int ((btF M p (mx (nI 0) (M 92 5 - M 92 4 + nI 1)) i).1)), (6, .int ((btF M p (mx (nI 0) (M 92 5 - M 92 4 + nI 1)) i).2)), (7, .int (nI i))] (dk dtX1_bestTry_0 37 rfl) (by decide) rfl ?_
          refine g_iload F 0 (dk dtX1_bestTry_0 38 rfl) rfl ?_
          refine g_iload F 6 (dk dtX1_bestTry_0 39 rfl) rfl ?_
          refine g_iload F 0 (dk dtX1_bestTry_0 40 rfl) rfl ?_
          refine g_isub F (dk dtX1_bestTry_0 41 rfl) ?_
          refine g_mmax F (tw3 15 rfl) (dk dtX1_bestTry_0 42 rfl) (Nat.le_of_ble_eq_true rfl) (Nat.le_of_ble_eq_true rfl) ?_
          refine g_istore F [(10, .int (mx (mx (nI 0) (((mn (M 92 5) (shk M 12 p i)) - (M 92 4)) + (nI 1))) ((mx (nI 0) (M 92 5 - M 92 4 + nI 1)) - (mx (nI 0) (((mn (M 92 5) (shk M 12 p i)) - (M 92 4)) + (nI 1)))))), (9, .int (mx (nI 0) (((mn (M 92 5) (shk M 12 p i)) - (M 92 4)) + (nI 1)))), (8, .int (mn (M 92 5) (shk M 12 p i))), (0, .ref (B + 92)), (1, .ref (B + 10)), (2, .ref (B + 12)), (3, .int (nI p)), (4, .int (mx (nI 0) (M 92 5 - M 92 4 + nI 1))), (5, .int ((btF M p (mx (nI 0) (M 92 5 - M 92 4 + nI 1)) i).1)), (6, .int ((btF M p (mx (nI 0) (M 92 5 - M 92 4 + nI 1)) i).2)), (7, .int (nI i))] (dk dtX1_bestTry_0 43 rfl) (by decide) rfl ?_
          refine g_iload F 0 (dk dtX1_bestTry_0 44 rfl) rfl ?_
          refine g_iload F 9 (dk dtX1_bestTry_0 45 rfl) rfl ?_
          refine g_icmp_ge F 96 (dk dtX1_bestTry_0 46 rfl) (by decide) (fun c85 => ?_) (fun c85 => ?_)
          · -- taken at 85
            refine g_iinc F 10 (nI (i + 1)) [(7, .int (nI (i + 1))), (10, .int (mx (mx (nI 0) (((mn (M 92 5) (shk M 12 p i)) - (M 92 4)) + (nI 1))) ((mx (nI 0) (M 92 5 - M 92 4 + nI 1)) - (mx (nI 0) (((mn (M 92 5) (shk M 12 p i)) - (M 92 4)) + (nI 1)))))), (9, .int (mx (nI 0) (((mn (M 92 5) (shk M 12 p i)) - (M 92 4)) + (nI 1)))), (8, .int (mn (M 92 5) (shk M 12 p i))), (0, .ref (B + 92)), (1, .ref (B + 10)), (2, .ref (B + 12)), (3, .int (nI p)), (4, .int (mx (nI 0) (M 92 5 - M 92 4 + nI 1))), (5, .int ((btF M p (mx (nI 0) (M 92 5 - M 92 4 + nI 1)) i).1)), (6, .int ((btF M p (mx (nI 0) (M 92 5 - M 92 4 + nI 1)) i).2))] (dk dtX1_bestTry_0 51 rfl) rfl (nI_1 _) (by decide) rfl ?_
            refine g_goto F 28 (dk dtX1_bestTry_0 52 rfl) (by decide) ?_
            refine g_sub [4, 5, 6, 7, 8, 9, 10, 0] (L1 := [(0, .ref (B + 92)), (1, .ref (B + 10)), (2, .ref (B + 12)), (3, .int (nI p)), (4, .int (mx (nI 0) (M 92 5 - M 92 4 + nI 1))), (5, .int ((btF M p (mx (nI 0) (M 92 5 - M 92 4 + nI 1)) i).1)), (6, .int ((btF M p (mx (nI 0) (M 92 5 - M 92 4 + nI 1)) i).2)), (7, .int (nI (i + 1)))]) rfl ?_
            have eq28_5 : ((btF M p (mx (nI 0) (M 92 5 - M 92 4 + nI 1)) i).1 : Int32) = (btF M p (mx (nI 0) (M 92 5 - M 92 4 + nI 1)) (i + 1)).1 := by
              simp only [btF]; rw [if_neg (Int32.not_lt.mpr c85)]
            have eq28_6 : ((btF M p (mx (nI 0) (M 92 5 - M 92 4 + nI 1)) i).2 : Int32) = (btF M p (mx (nI 0) (M 92 5 - M 92 4 + nI 1)) (i + 1)).2 := by
              simp only [btF]; rw [if_neg (Int32.not_lt.mpr c85)]
            refine g_st (M1 := M) (L1 := [(0, .ref (B + 92)), (1, .ref (B + 10)), (2, .ref (B + 12)), (3, .int (nI p)), (4, .int (mx (nI 0) (M 92 5 - M 92 4 + nI 1))), (5, .int ((btF M p (mx (nI 0) (M 92 5 - M 92 4 + nI 1)) (i + 1)).1)), (6, .int ((btF M p (mx (nI 0) (M 92 5 - M 92 4 + nI 1)) (i + 1)).2)), (7, .int (nI (i + 1)))]) rfl (lc rfl (lc rfl (lc rfl (lc rfl (lc rfl (lc (vi eq28_5) (lc (vi eq28_6) (lc rfl rfl)))))))) rfl ?_
            exact ih28 (i + 1) (by omega) (by omega)
          · -- not taken at 85
            refine g_iload F 0 (dk dtX1_bestTry_0 47 rfl) rfl ?_
            refine g_istore F [(6, .int (mx (mx (nI 0) (((mn (M 92 5) (shk M 12 p i)) - (M 92 4)) + (nI 1))) ((mx (nI 0) (M 92 5 - M 92 4 + nI 1)) - (mx (nI 0) (((mn (M 92 5) (shk M 12 p i)) - (M 92 4)) + (nI 1)))))), (10, .int (mx (mx (nI 0) (((mn (M 92 5) (shk M 12 p i)) - (M 92 4)) + (nI 1))) ((mx (nI 0) (M 92 5 - M 92 4 + nI 1)) - (mx (nI 0) (((mn (M 92 5) (shk M 12 p i)) - (M 92 4)) + (nI 1)))))), (9, .int (mx (nI 0) (((mn (M 92 5) (shk M 12 p i)) - (M 92 4)) + (nI 1)))), (8, .int (mn (M 92 5) (shk M 12 p i))), (0, .ref (B + 92)), (1, .ref (B + 10)), (2, .ref (B + 12)), (3, .int (nI p)), (4, .int (mx (nI 0) (M 92 5 - M 92 4 + nI 1))), (5, .int ((btF M p (mx (nI 0) (M 92 5 - M 92 4 + nI 1)) i).1)), (7, .int (nI i))] (dk dtX1_bestTry_0 48 rfl) (by decide) rfl ?_
            refine g_iload F 10 (dk dtX1_bestTry_0 49 rfl) rfl ?_
            refine g_istore F [(5, .int (nI i)), (6, .int (mx (mx (nI 0) (((mn (M 92 5) (shk M 12 p i)) - (M 92 4)) + (nI 1))) ((mx (nI 0) (M 92 5 - M 92 4 + nI 1)) - (mx (nI 0) (((mn (M 92 5) (shk M 12 p i)) - (M 92 4)) + (nI 1)))))), (10, .int (mx (mx (nI 0) (((mn (M 92 5) (shk M 12 p i)) - (M 92 4)) + (nI 1))) ((mx (nI 0) (M 92 5 - M 92 4 + nI 1)) - (mx (nI 0) (((mn (M 92 5) (shk M 12 p i)) - (M 92 4)) + (nI 1)))))), (9, .int (mx (nI 0) (((mn (M 92 5) (shk M 12 p i)) - (M 92 4)) + (nI 1)))), (8, .int (mn (M 92 5) (shk M 12 p i))), (0, .ref (B + 92)), (1, .ref (B + 10)), (2, .ref (B + 12)), (3, .int (nI p)), (4, .int (mx (nI 0) (M 92 5 - M 92 4 + nI 1))), (7, .int (nI i))] (dk dtX1_bestTry_0 50 rfl) (by decide) rfl ?_
            refine g_iinc F 10 (nI (i + 1)) [(7, .int (nI (i + 1))), (5, .int (nI i)), (6, .int (mx (mx (nI 0) (((mn (M 92 5) (shk M 12 p i)) - (M 92 4)) + (nI 1))) ((mx (nI 0) (M 92 5 - M 92 4 + nI 1)) - (mx (nI 0) (((mn (M 92 5) (shk M 12 p i)) - (M 92 4)) + (nI 1)))))), (10, .int (mx (mx (nI 0) (((mn (M 92 5) (shk M 12 p i)) - (M 92 4)) + (nI 1))) ((mx (nI 0) (M 92 5 - M 92 4 + nI 1)) - (mx (nI 0) (((mn (M 92 5) (shk M 12 p i)) - (M 92 4)) + (nI 1)))))), (9, .int (mx (nI 0) (((mn (M 92 5) (shk M 12 p i)) - (M 92 4)) + (nI 1)))), (8, .int (mn (M 92 5) (shk M 12 p i))), (0, .ref (B + 92)), (1, .ref (B + 10)), (2, .ref (B + 12)), (3, .int (nI p)), (4, .int (mx (nI 0) (M 92 5 - M 92 4 + nI 1)))] (dk dtX1_bestTry_0 51 rfl) rfl (nI_1 _) (by decide) rfl ?_
            refine g_goto F 28 (dk dtX1_bestTry_0 52 rfl) (by decide) ?_
            refine g_sub [6, 7, 8, 9, 10, 1, 2, 0] (L1 := [(0, .ref (B + 92)), (1, .ref (B + 10)), (2, .ref (B + 12)), (3, .int (nI p)), (4, .int (mx (nI 0) (M 92 5 - M 92 4 + nI 1))), (5, .int (nI i)), (6, .int (mx (mx (nI 0) (((mn (M 92 5) (shk M 12 p i)) - (M 92 4)) + (nI 1))) ((mx (nI 0) (M 92 5 - M 92 4 + nI 1)) - (mx (nI 0) (((mn (M 92 5) (shk M 12 p i)) - (M 92 4)) + (nI 1)))))), (7, .int (nI (i + 1)))]) rfl ?_
            have eq28_5 : (nI i : Int32) = (btF M p (mx (nI 0) (M 92 5 - M 92 4 + nI 1)) (i + 1)).1 := by
              simp only [btF]; rw [if_pos (Int32.not_le.mp c85)]
            have eq28_6 : (mx (mx (nI 0) (((mn (M 92 5) (shk M 12 p i)) - (M 92 4)) + (nI 1))) ((mx (nI 0) (M 92 5 - M 92 4 + nI 1)) - (mx (nI 0) (((mn (M 92 5) (shk M 12 p i)) - (M 92 4)) + (nI 1)))) : Int32) = (btF M p (mx (nI 0) (M 92 5 - M 92 4 + nI 1)) (i + 1)).2 := by
              simp only [btF]; rw [if_pos (Int32.not_le.mp c85)]
            refine g_st (M1 := M) (L1 := [(0, .ref (B + 92)), (1, .ref (B + 10)), (2, .ref (B + 12)), (3, .int (nI p)), (4, .int (mx (nI 0) (M 92 5 - M 92 4 + nI 1))), (5, .int ((btF M p (mx (nI 0) (M 92 5 - M 92 4 + nI 1)) (i + 1)).1)), (6, .int ((btF M p (mx (nI 0) (M 92 5 - M 92 4 + nI 1)) (i + 1)).2)), (7, .int (nI (i + 1)))]) rfl (lc rfl (lc rfl (lc rfl (lc rfl (lc rfl (lc (vi eq28_5) (lc (vi eq28_6) (lc rfl rfl)))))))) rfl ?_
            exact ih28 (i + 1) (by omega) (by omega)
    refine g_sub [4, 5, 6, 7, 3, 2, 1, 0] (L1 := [(0, .ref (B + 92)), (1, .ref (B + 10)), (2, .ref (B + 12)), (3, .int (nI p)), (4, .int (mx (nI 0) (M 92 5 - M 92 4 + nI 1))), (5, .int (-9)), (6, .int ((mx (nI 0) (M 92 5 - M 92 4 + nI 1)) + (nI 1))), (7, .int (nI 0))]) rfl ?_
    exact lp28 (K + 1) 0 (by omega) (by omega)
  · -- not taken at 9
    refine g_bipush F (-9) (dk dtX1_bestTry_0 6 rfl) (by decide) ?_
    refine g_iret (F := F) hQ (dk dtX1_bestTry_0 7 rfl) ?_
    exact ⟨(if_neg c9).symm, rfl, rfl⟩
set_option maxRecDepth 100000 in
set_option maxHeartbeats 4000000 in
theorem k_X0_behind (l : Launch) (D : DX) (B : Nat) (T : Int64) (M : Mem) (b j : Nat) (hb : IsNow D B b) (hj : j < 4) (k : Nat) (hk : k < 4) (x : Int32) (P : Nat) (hP : M 10 2 = nI P) (hP5 : P ≤ 5) : Cr l D B 108 (celC D B) yX0_behind cX0_behind 7 (some (.object "SurprisedMayor$Now")) 3 [.ref (B + 69), .ref (B + 10), .ref (B + b), .int (nI (j + 1)), .int (nI k), .int x] T M (B + (72 + 5 * j)) (fun T1 M1 => T1 = T ∧ M1 = hpM (cpN M (72 + 5 * j) b) (72 + 5 * j) k x P) := by
  refine g_entryr (L := [(0, .ref (B + 69)), (1, .ref (B + 10)), (2, .ref (B + b)), (3, .int (nI (j + 1))), (4, .int (nI k)), (5, .int x)]) (by decide) (Nat.le_of_ble_eq_true rfl) rfl ?_
  intro zp ze zs zm zb zt zc Q F hQ
  refine g_aload_n F 0 (dk dtX0_behind_0 0 rfl) rfl ?_
  refine g_get F fa_X0_11 (dk dtX0_behind_0 1 rfl) (by decide) (cc69 D B _ _) rfl ?_
  refine g_iload_n F 3 (dk dtX0_behind_0 2 rfl) rfl ?_
  refine g_iconst F (nI 1) (dk dtX0_behind_0 3 rfl) (by decide) ?_
  refine g_isubE F (nI j) (dk dtX0_behind_0 4 rfl) (nI_pred _).symm ?_
  refine g_aald F (j) (dk dtX0_behind_0 5 rfl) (by decide) (cc70 D B _ _) (by omega) (by decide) rfl ?_
  refine g_astore F [(6, .ref (B + (72 + 5 * j))), (0, .ref (B + 69)), (1, .ref (B + 10)), (2, .ref (B + b)), (3, .int (nI (j + 1))), (4, .int (nI k)), (5, .int x)] (dk dtX0_behind_0 6 rfl) (by decide) rfl ?_
  refine g_aload F 0 (dk dtX0_behind_0 7 rfl) rfl ?_
  refine g_aload_n F 3 (dk dtX0_behind_0 8 rfl) rfl ?_
  refine g_callVv F (As := [.ref (B + b)]) (st := []) cv_X0_22 (dk dtX0_behind_0 9 rfl) (by have := (isNowFore D B hj).1; omega) ((isNowFore D B hj).2.1 _ _) rfl rfl (Nat.le_of_ble_eq_true rfl) ⟨by decide, by decide⟩ (k_X2_copyFrom l D B _ _ (72 + 5 * j) b (isNowFore D B hj) hb) (fun T13 M13 hp13 => ?_)
  obtain ⟨e2, e3⟩ := hp13
  replace e2 := e2.symm; replace e3 := e3.symm; subst e2; subst e3
  refine g_aload_n F 2 (dk dtX0_behind_0 10 rfl) rfl ?_
  refine g_aload F 0 (dk dtX0_behind_0 11 rfl) rfl ?_
  refine g_iload F 5 (dk dtX0_behind_0 12 rfl) rfl ?_
  refine g_iload F 6 (dk dtX0_behind_0 13 rfl) rfl ?_
  refine g_callVi F (As := [.ref (B + (72 + 5 * j)), .int (nI k), .int x]) (st := []) cv_X0_26 (dk dtX0_behind_0 14 rfl) (by decide) (cc10 D B _ _) rfl rfl (Nat.le_of_ble_eq_true rfl) ⟨by decide, by decide⟩ (k_X5_happen l D B _ _ (72 + 5 * j) (isNowFore D B hj) k (by omega) _ P ((congrFun (cpN_fr _ _ _ (by omega)) _).trans hP) hP5) (fun r23 T23 M23 hp23 => ?_)
  obtain ⟨e1, e2, e3⟩ := hp23
  replace e1 := e1.symm; replace e2 := e2.symm; replace e3 := e3.symm; subst e1; subst e2; subst e3
  refine g_pop F (dk dtX0_behind_0 15 rfl) rfl ?_
  refine g_aload F 0 (dk dtX0_behind_0 16 rfl) rfl ?_
  refine g_aret (F := F) hQ (dk dtX0_behind_0 17 rfl) ?_
  exact ⟨rfl, rfl⟩
