def wgM (M : Mem) (p nn : Nat) : Mem := up2 (up2 M 92 4 (wgF M p nn).1) 92 5 (wgF M p nn).2
theorem wgM_fr (M : Mem) (p nn : Nat) {c : Nat} (h : c ≠ 92) : wgM M p nn c = M c := by
  unfold wgM
  rw [up2_ne _ _ h, up2_ne _ _ h]
def btA (M : Mem) (p K : Nat) : Int32 := if nI 1 < mx (nI 0) (M 92 5 - M 92 4 + nI 1) then (btF M p (mx (nI 0) (M 92 5 - M 92 4 + nI 1)) K).1 else -9
def Sc (M M1 : Mem) : Prop := ∀ c, c < 71 ∨ 92 ≤ c → M1 c = M c
def wyR (nv : Nat → Int32) (Kv : Int32) (K : Nat) (pv x : Int32) (P : Nat) : Nat → (Nat → Int32) → Nat
  | 0, row => if moR row = pv then 1 else 0
  | l + 1, row => (List.range K).foldl (fun n k => n + wyR nv Kv K pv x P l (evR nv Kv row k x P)) 0
def wyK (nv : Nat → Int32) (Kv : Int32) (K : Nat) (pv x : Int32) (P : Nat) (l : Nat) (row : Nat → Int32) : Nat → Nat
  | 0 => 0
  | k + 1 => wyK nv Kv K pv x P l row k + wyR nv Kv K pv x P l (evR nv Kv row k x P)
theorem wyK_eq (nv : Nat → Int32) (Kv : Int32) (K : Nat) (pv x : Int32) (P l : Nat) (row : Nat → Int32) (k : Nat) : wyK nv Kv K pv x P l row k = (List.range k).foldl (fun n k => n + wyR nv Kv K pv x P l (evR nv Kv row k x P)) 0 := by
  induction k with
  | zero => rfl
  | succ k ih =>
    simp only [wyK]
    rw [List.range_succ, List.foldl_append, ih]
    rfl
set_option maxRecDepth 100000 in
set_option maxHeartbeats 4000000 in
theorem k_X6_nerves_0 (l : Launch) (D : DX) (B : Nat) (T : Int64) (M : Mem) (P : Nat) (hP : M 10 2 = nI P) (hP5 : P ≤ 5) (nn : Nat) (hnn : M 92 3 = nI nn) (hnn6 : nn ≤ 6) (hN : ∀ i, i < nn → ∃ k : Nat, k < 4 ∧ M 94 i = nI k) (p : Nat) (hp : p < P) : Ci l D B 108 (celC D B) yX6_nerves cX6_nerves 3 (some .int) 2 [.ref (B + 0), .int (nI p), .int (nI 0)] T M (fun r T1 M1 => r = mx (nI 0) ((wgM M p nn) 92 5 - (wgM M p nn) 92 4 + nI 1) ∧ T1 = T ∧ M1 = wgM M p nn) := by
  refine g_entryi (L := [(0, .ref (B + 0)), (1, .int (nI p)), (2, .int (nI 0))]) (by decide) (Nat.le_of_ble_eq_true rfl) rfl ?_
  intro zp ze zs zm zb zt zc Q F hQ
  refine g_aload_n F 0 (dk dtX6_nerves_0 0 rfl) rfl ?_
  refine g_get F fa_X6_19 (dk dtX6_nerves_0 1 rfl) (by decide) (cc0 D B _ _) rfl ?_
  refine g_iload_n F 1 (dk dtX6_nerves_0 2 rfl) rfl ?_
  refine g_callVi F (As := [.int (nI p)]) (st := []) cv_X6_94 (dk dtX6_nerves_0 3 rfl) (by decide) (cc10 D B _ _) rfl rfl (Nat.le_of_ble_eq_true rfl) ⟨by decide, by decide⟩ (k_X5_hasPersonR l D B _ _ _ P hP) (fun r5 T5 M5 hp5 => ?_)
  obtain ⟨e1, e2, e3⟩ := hp5
  replace e1 := e1.symm; replace e2 := e2.symm; replace e3 := e3.symm; subst e1; subst e2; subst e3
  refine g_if_eqB F 20 (dk dtX6_nerves_0 4 rfl) (by decide) (fun c => absurd (inR_nI (by omega)) c) (fun _ => ?_)
  refine g_iload_n F 2 (dk dtX6_nerves_0 5 rfl) rfl ?_
  refine g_if_lt F 20 (dk dtX6_nerves_0 6 rfl) (by decide) (fun c12 => ?_) (fun c12 => ?_)
  · -- taken at 12
    exact absurd c12 (by decide)
  · -- not taken at 12
    refine g_iload_n F 2 (dk dtX6_nerves_0 7 rfl) rfl ?_
    refine g_iconst F (nI 2) (dk dtX6_nerves_0 8 rfl) (by decide) ?_
    refine g_icmp_leN F 22 (dk dtX6_nerves_0 9 rfl) (by decide) (by decide) (by decide) (fun _ => ?_) (fun c => absurd c (by decide))
    refine g_aload_n F 0 (dk dtX6_nerves_0 12 rfl) rfl ?_
    refine g_get F fa_X6_47 (dk dtX6_nerves_0 13 rfl) (by decide) (cc0 D B _ _) rfl ?_
    refine g_aload_n F 0 (dk dtX6_nerves_0 14 rfl) rfl ?_
    refine g_get F fa_X6_19 (dk dtX6_nerves_0 15 rfl) (by decide) (cc0 D B _ _) rfl ?_
    refine g_aload_n F 0 (dk dtX6_nerves_0 16 rfl) rfl ?_
    refine g_get F fa_X6_26 (dk dtX6_nerves_0 17 rfl) (by decide) (cc0 D B _ _) rfl ?_
    refine g_iload_n F 1 (dk dtX6_nerves_0 18 rfl) rfl ?_
    refine g_callVv F (As := [.ref (B + 10), .ref (B + 12), .int (nI p)]) (st := []) cv_X6_187 (dk dtX6_nerves_0 19 rfl) (by decide) (cc92 D B _ _) rfl rfl (Nat.le_of_ble_eq_true rfl) ⟨by decide, by decide⟩ (k_X1_weigh l D B _ _ nn hnn hnn6 hN p (by omega)) (fun T35 M35 hp35 => ?_)
    obtain ⟨e2, e3⟩ := hp35
    replace e2 := e2.symm; replace e3 := e3.symm; subst e2; subst e3
    refine g_iload_n F 2 (dk dtX6_nerves_0 20 rfl) rfl ?_
    refine g_if_neN F 50 (dk dtX6_nerves_0 21 rfl) (by decide) (by decide) (fun c => absurd c (by decide)) (fun _ => ?_)
    refine g_aload_n F 0 (dk dtX6_nerves_0 22 rfl) rfl ?_
    refine g_get F fa_X6_47 (dk dtX6_nerves_0 23 rfl) (by decide) (cc0 D B _ _) rfl ?_
    refine g_callVi F (As := []) (st := []) cv_X6_191 (dk dtX6_nerves_0 24 rfl) (by decide) (cc92 D B _ _) rfl rfl (Nat.le_of_ble_eq_true rfl) ⟨by decide, by decide⟩ (k_X1_possible l D B _ _) (fun r46 T46 M46 hp46 => ?_)
    obtain ⟨e1, e2, e3⟩ := hp46
    replace e1 := e1.symm; replace e2 := e2.symm; replace e3 := e3.symm; subst e1; subst e2; subst e3
    refine g_iret (F := F) hQ (dk dtX6_nerves_0 25 rfl) ?_
    exact ⟨rfl, rfl, rfl⟩
set_option maxRecDepth 100000 in
set_option maxHeartbeats 4000000 in
theorem k_X6_nerves_1 (l : Launch) (D : DX) (B : Nat) (T : Int64) (M : Mem) (P : Nat) (hP : M 10 2 = nI P) (hP5 : P ≤ 5) (nn : Nat) (hnn : M 92 3 = nI nn) (hnn6 : nn ≤ 6) (hN : ∀ i, i < nn → ∃ k : Nat, k < 4 ∧ M 94 i = nI k) (p : Nat) (hp : p < P) : Ci l D B 108 (celC D B) yX6_nerves cX6_nerves 3 (some .int) 2 [.ref (B + 0), .int (nI p), .int (nI 1)] T M (fun r T1 M1 => r = (if mx (nI 0) ((wgM M p nn) 92 5 - (wgM M p nn) 92 4 + nI 1) = 0 then -9 else (wgM M p nn) 92 4) ∧ T1 = T ∧ M1 = wgM M p nn) := by
  refine g_entryi (L := [(0, .ref (B + 0)), (1, .int (nI p)), (2, .int (nI 1))]) (by decide) (Nat.le_of_ble_eq_true rfl) rfl ?_
  intro zp ze zs zm zb zt zc Q F hQ
  refine g_aload_n F 0 (dk dtX6_nerves_0 0 rfl) rfl ?_
  refine g_get F fa_X6_19 (dk dtX6_nerves_0 1 rfl) (by decide) (cc0 D B _ _) rfl ?_
  refine g_iload_n F 1 (dk dtX6_nerves_0 2 rfl) rfl ?_
  refine g_callVi F (As := [.int (nI p)]) (st := []) cv_X6_94 (dk dtX6_nerves_0 3 rfl) (by decide) (cc10 D B _ _) rfl rfl (Nat.le_of_ble_eq_true rfl) ⟨by decide, by decide⟩ (k_X5_hasPersonR l D B _ _ _ P hP) (fun r5 T5 M5 hp5 => ?_)
  obtain ⟨e1, e2, e3⟩ := hp5
  replace e1 := e1.symm; replace e2 := e2.symm; replace e3 := e3.symm; subst e1; subst e2; subst e3
  refine g_if_eqB F 20 (dk dtX6_nerves_0 4 rfl) (by decide) (fun c => absurd (inR_nI (by omega)) c) (fun _ => ?_)
  refine g_iload_n F 2 (dk dtX6_nerves_0 5 rfl) rfl ?_
  refine g_if_lt F 20 (dk dtX6_nerves_0 6 rfl) (by decide) (fun c12 => ?_) (fun c12 => ?_)
  · -- taken at 12
    exact absurd c12 (by decide)
  · -- not taken at 12
    refine g_iload_n F 2 (dk dtX6_nerves_0 7 rfl) rfl ?_
    refine g_iconst F (nI 2) (dk dtX6_nerves_0 8 rfl) (by decide) ?_
    refine g_icmp_leN F 22 (dk dtX6_nerves_0 9 rfl) (by decide) (by decide) (by decide) (fun _ => ?_) (fun c => absurd c (by decide))
    refine g_aload_n F 0 (dk dtX6_nerves_0 12 rfl) rfl ?_
    refine g_get F fa_X6_47 (dk dtX6_nerves_0 13 rfl) (by decide) (cc0 D B _ _) rfl ?_
    refine g_aload_n F 0 (dk dtX6_nerves_0 14 rfl) rfl ?_
    refine g_get F fa_X6_19 (dk dtX6_nerves_0 15 rfl) (by decide) (cc0 D B _ _) rfl ?_
    refine g_aload_n F 0 (dk dtX6_nerves_0 16 rfl) rfl ?_
    refine g_get F fa_X6_26 (dk dtX6_nerves_0 17 rfl) (by decide) (cc0 D B _ _) rfl ?_
    refine g_iload_n F 1 (dk dtX6_nerves_0 18 rfl) rfl ?_
    refine g_callVv F (As := [.ref (B + 10), .ref (B + 12), .int (nI p)]) (st := []) cv_X6_187 (dk dtX6_nerves_0 19 rfl) (by decide) (cc92 D B _ _) rfl rfl (Nat.le_of_ble_eq_true rfl) ⟨by decide, by decide⟩ (k_X1_weigh l D B _ _ nn hnn hnn6 hN p (by omega)) (fun T35 M35 hp35 => ?_)
    obtain ⟨e2, e3⟩ := hp35
    replace e2 := e2.symm; replace e3 := e3.symm; subst e2; subst e3
    refine g_iload_n F 2 (dk dtX6_nerves_0 20 rfl) rfl ?_
    refine g_if_neN F 50 (dk dtX6_nerves_0 21 rfl) (by decide) (by decide) (fun _ => ?_) (fun c => absurd c (by decide))
    refine g_aload_n F 0 (dk dtX6_nerves_0 26 rfl) rfl ?_
    refine g_get F fa_X6_47 (dk dtX6_nerves_0 27 rfl) (by decide) (cc0 D B _ _) rfl ?_
    refine g_callVi F (As := []) (st := []) cv_X6_191 (dk dtX6_nerves_0 28 rfl) (by decide) (cc92 D B _ _) rfl rfl (Nat.le_of_ble_eq_true rfl) ⟨by decide, by decide⟩ (k_X1_possible l D B _ _) (fun r54 T54 M54 hp54 => ?_)
    obtain ⟨e1, e2, e3⟩ := hp54
    replace e1 := e1.symm; replace e2 := e2.symm; replace e3 := e3.symm; subst e1; subst e2; subst e3
    refine g_if_ne F 63 (dk dtX6_nerves_0 29 rfl) (by decide) (fun c57 => ?_) (fun c57 => ?_)
    · -- taken at 57
      refine g_iload_n F 2 (dk dtX6_nerves_0 32 rfl) rfl ?_
      refine g_iconst F (nI 1) (dk dtX6_nerves_0 33 rfl) (by decide) ?_
      refine g_icmp_neN F 78 (dk dtX6_nerves_0 34 rfl) (by decide) (by decide) (by decide) (fun c => absurd c (by decide)) (fun _ => ?_)
      refine g_aload_n F 0 (dk dtX6_nerves_0 35 rfl) rfl ?_
      refine g_get F fa_X6_47 (dk dtX6_nerves_0 36 rfl) (by decide) (cc0 D B _ _) rfl ?_
      refine g_get F fa_X6_194 (dk dtX6_nerves_0 37 rfl) (by decide) (cc92 D B _ _) rfl ?_
      refine g_goto F 85 (dk dtX6_nerves_0 38 rfl) (by decide) ?_
      refine g_iret (F := F) hQ (dk dtX6_nerves_0 42 rfl) ?_
      exact ⟨(if_neg c57).symm, rfl, rfl⟩
    · -- not taken at 57
      refine g_bipush F (-9) (dk dtX6_nerves_0 30 rfl) (by decide) ?_
      refine g_iret (F := F) hQ (dk dtX6_nerves_0 31 rfl) ?_
      exact ⟨(if_pos c57).symm, rfl, rfl⟩
set_option maxRecDepth 100000 in
set_option maxHeartbeats 4000000 in
theorem k_X6_nerves_2 (l : Launch) (D : DX) (B : Nat) (T : Int64) (M : Mem) (P : Nat) (hP : M 10 2 = nI P) (hP5 : P ≤ 5) (nn : Nat) (hnn : M 92 3 = nI nn) (hnn6 : nn ≤ 6) (hN : ∀ i, i < nn → ∃ k : Nat, k < 4 ∧ M 94 i = nI k) (p : Nat) (hp : p < P) : Ci l D B 108 (celC D B) yX6_nerves cX6_nerves 3 (some .int) 2 [.ref (B + 0), .int (nI p), .int (nI 2)] T M (fun r T1 M1 => r = (if mx (nI 0) ((wgM M p nn) 92 5 - (wgM M p nn) 92 4 + nI 1) = 0 then -9 else (wgM M p nn) 92 5) ∧ T1 = T ∧ M1 = wgM M p nn) := by
  refine g_entryi (L := [(0, .ref (B + 0)), (1, .int (nI p)), (2, .int (nI 2))]) (by decide) (Nat.le_of_ble_eq_true rfl) rfl ?_
  intro zp ze zs zm zb zt zc Q F hQ
  refine g_aload_n F 0 (dk dtX6_nerves_0 0 rfl) rfl ?_
  refine g_get F fa_X6_19 (dk dtX6_nerves_0 1 rfl) (by decide) (cc0 D B _ _) rfl ?_
  refine g_iload_n F 1 (dk dtX6_nerves_0 2 rfl) rfl ?_
  refine g_callVi F (As := [.int (nI p)]) (st := []) cv_X6_94 (dk dtX6_nerves_0 3 rfl) (by decide) (cc10 D B _ _) rfl rfl (Nat.le_of_ble_eq_true rfl) ⟨by decide, by decide⟩ (k_X5_hasPersonR l D B _ _ _ P hP) (fun r5 T5 M5 hp5 => ?_)
  obtain ⟨e1, e2, e3⟩ := hp5
  replace e1 := e1.symm; replace e2 := e2.symm; replace e3 := e3.symm; subst e1; subst e2; subst e3
  refine g_if_eqB F 20 (dk dtX6_nerves_0 4 rfl) (by decide) (fun c => absurd (inR_nI (by omega)) c) (fun _ => ?_)
  refine g_iload_n F 2 (dk dtX6_nerves_0 5 rfl) rfl ?_
  refine g_if_lt F 20 (dk dtX6_nerves_0 6 rfl) (by decide) (fun c12 => ?_) (fun c12 => ?_)
  · -- taken at 12
    exact absurd c12 (by decide)
  · -- not taken at 12
    refine g_iload_n F 2 (dk dtX6_nerves_0 7 rfl) rfl ?_
    refine g_iconst F (nI 2) (dk dtX6_nerves_0 8 rfl) (by decide) ?_
    refine g_icmp_leN F 22 (dk dtX6_nerves_0 9 rfl) (by decide) (by decide) (by decide) (fun _ => ?_) (fun c => absurd c (by decide))
    refine g_aload_n F 0 (dk dtX6_nerves_0 12 rfl) rfl ?_
    refine g_get F fa_X6_47 (dk dtX6_nerves_0 13 rfl) (by decide) (cc0 D B _ _) rfl ?_
    refine g_aload_n F 0 (dk dtX6_nerves_0 14 rfl) rfl ?_
    refine g_get F fa_X6_19 (dk dtX6_nerves_0 15 rfl) (by decide) (cc0 D B _ _) rfl ?_
    refine g_aload_n F 0 (dk dtX6_nerves_0 16 rfl) rfl ?_
    refine g_get F fa_X6_26 (dk dtX6_nerves_0 17 rfl) (by decide) (cc0 D B _ _) rfl ?_
    refine g_iload_n F 1 (dk dtX6_nerves_0 18 rfl) rfl ?_
    refine g_callVv F (As := [.ref (B + 10), .ref (B + 12), .int (nI p)]) (st := []) cv_X6_187 (dk dtX6_nerves_0 19 rfl) (by decide) (cc92 D B _ _) rfl rfl (Nat.le_of_ble_eq_true rfl) ⟨by decide, by decide⟩ (k_X1_weigh l D B _ _ nn hnn hnn6 hN p (by omega)) (fun T35 M35 hp35 => ?_)
    obtain ⟨e2, e3⟩ := hp35
    replace e2 := e2.symm; replace e3 := e3.symm; subst e2; subst e3
    refine g_iload_n F 2 (dk dtX6_nerves_0 20 rfl) rfl ?_
    refine g_if_neN F 50 (dk dtX6_nerves_0 21 rfl) (by decide) (by decide) (fun _ => ?_) (fun c => absurd c (by decide))
    refine g_aload_n F 0 (dk dtX6_nerves_0 26 rfl) rfl ?_
    refine g_get F fa_X6_47 (dk dtX6_nerves_0 27 rfl) (by decide) (cc0 D B _ _) rfl ?_
    refine g_callVi F (As := []) (st := []) cv_X6_191 (dk dtX6_nerves_0 28 rfl) (by decide) (cc92 D B _ _) rfl rfl (Nat.le_of_ble_eq_true rfl) ⟨by decide, by decide⟩ (k_X1_possible l D B _ _) (fun r54 T54 M54 hp54 => ?_)
    obtain ⟨e1, e2, e3⟩ := hp54
    replace e1 := e1.symm; replace e2 := e2.symm; replace e3 := e3.symm; subst e1; subst e2; subst e3
    refine g_if_ne F 63 (dk dtX6_nerves_0 29 rfl) (by decide) (fun c57 => ?_) (fun c57 => ?_)
    · -- taken at 57
      refine g_iload_n F 2 (dk dtX6_nerves_0 32 rfl) rfl ?_
      refine g_iconst F (nI 1) (dk dtX6_nerves_0 33 rfl) (by decide) ?_
      refine g_icmp_neN F 78 (dk dtX6_nerves_0 34 rfl) (by decide) (by decide) (by decide) (fun _ => ?_) (fun c => absurd c (by decide))
      refine g_aload_n F 0 (dk dtX6_nerves_0 39 rfl) rfl ?_
      refine g_get F fa_X6_47 (dk dtX6_nerves_0 40 rfl) (by decide) (cc0 D B _ _) rfl ?_
      refine g_get F fa_X6_197 (dk dtX6_nerves_0 41 rfl) (by decide) (cc92 D B _ _) rfl ?_
      refine g_iret (F := F) hQ (dk dtX6_nerves_0 42 rfl) ?_
      exact ⟨(if_neg c57).symm, rfl, rfl⟩
    · -- not taken at 57
      refine g_bipush F (-9) (dk dtX6_nerves_0 30 rfl) (by decide) ?_
      refine g_iret (F := F) hQ (dk dtX6_nerves_0 31 rfl) ?_
      exact ⟨(if_pos c57).symm, rfl, rfl⟩
set_option maxRecDepth 100000 in
set_option maxHeartbeats 4000000 in
theorem k_X6_nerves_bad (l : Launch) (D : DX) (B : Nat) (T : Int64) (M : Mem) (P : Nat) (hP : M 10 2 = nI P) (hP5 : P ≤ 5) (p w : Int32) (hb : ¬ (inR p P ∧ inR w 3)) : Ci l D B 108 (celC D B) yX6_nerves cX6_nerves 3 (some .int) 2 [.ref (B + 0), .int p, .int w] T M (fun rz T1 M1 => rz = (-1) ∧ T1 = T ∧ M1 = M) := by
  refine g_entryi (L := [(0, .ref (B + 0)), (1, .int p), (2, .int w)]) (by decide) (Nat.le_of_ble_eq_true rfl) rfl ?_
  intro zp ze zs zm zb zt zc Q F hQ
  refine g_aload_n F 0 (dk dtX6_nerves_0 0 rfl) rfl ?_
  refine g_get F fa_X6_19 (dk dtX6_nerves_0 1 rfl) (by decide) (cc0 D B _ _) rfl ?_
  refine g_iload_n F 1 (dk dtX6_nerves_0 2 rfl) rfl ?_
  refine g_callVi F (As := [.int p]) (st := []) cv_X6_94 (dk dtX6_nerves_0 3 rfl) (by decide) (cc10 D B _ _) rfl rfl (Nat.le_of_ble_eq_true rfl) ⟨by decide, by decide⟩ (k_X5_hasPersonR l D B _ _ _ P hP) (fun r5 T5 M5 hp5 => ?_)
  obtain ⟨e1, e2, e3⟩ := hp5
  replace e1 := e1.symm; replace e2 := e2.symm; replace e3 := e3.symm; subst e1; subst e2; subst e3
  refine g_if_eqB F 20 (dk dtX6_nerves_0 4 rfl) (by decide) (fun c8 => ?_) (fun c8 => ?_)
  · -- taken at 8
    refine g_iconst F (-1) (dk dtX6_nerves_0 10 rfl) (by decide) ?_
    refine g_iret (F := F) hQ (dk dtX6_nerves_0 11 rfl) ?_
    exact ⟨rfl, rfl, rfl⟩
  · -- not taken at 8
    refine g_iload_n F 2 (dk dtX6_nerves_0 5 rfl) rfl ?_
    refine g_if_lt F 20 (dk dtX6_nerves_0 6 rfl) (by decide) (fun c12 => ?_) (fun c12 => ?_)
    · -- taken at 12
      refine g_iconst F (-1) (dk dtX6_nerves_0 10 rfl) (by decide) ?_
      refine g_iret (F := F) hQ (dk dtX6_nerves_0 11 rfl) ?_
      exact ⟨rfl, rfl, rfl⟩
    · -- not taken at 12
      refine g_iload_n F 2 (dk dtX6_nerves_0 7 rfl) rfl ?_
      refine g_iconst F (nI 2) (dk dtX6_nerves_0 8 rfl) (by decide) ?_
      refine g_icmp_le F 22 (dk dtX6_nerves_0 9 rfl) (by decide) (fun c17 => ?_) (fun c17 => ?_)
      · -- taken at 17
        exact absurd ⟨c8, c12, inR_dn (b := 2) (by decide) (Int32.not_lt.mpr c17)⟩ hb
      · -- not taken at 17
        refine g_iconst F (-1) (dk dtX6_nerves_0 10 rfl) (by decide) ?_
        refine g_iret (F := F) hQ (dk dtX6_nerves_0 11 rfl) ?_
        exact ⟨rfl, rfl, rfl⟩
set_option maxRecDepth 100000 in
set_option maxHeartbeats 4000000 in
theorem k_X6_test (l : Launch) (D : DX) (B : Nat) (T : Int64) (M : Mem) (P : Nat) (hP : M 10 2 = nI P) (hP5 : P ≤ 5) (K : Nat) (hK : M 10 0 = nI K) (hK1 : 1 ≤ K) (hK4 : K ≤ 4) (nn : Nat) (hnn : M 92 3 = nI nn) (hnn6 : nn ≤ 6) (hN : ∀ i, i < nn → ∃ k : Nat, k < 4 ∧ M 94 i = nI k) (p : Nat) (hp : p < P) : Ci l D B 108 (celC D B) yX6_test cX6_test 2 (some .int) 3 [.ref (B + 0), .int (nI p)] T M (fun r T1 M1 => r = btA (wgM M p nn) p K ∧ T1 = T ∧ M1 = wgM M p nn) := by
  refine g_entryi (L := [(0, .ref (B + 0)), (1, .int (nI p))]) (by decide) (Nat.le_of_ble_eq_true rfl) rfl ?_
  intro zp ze zs zm zb zt zc Q F hQ
  refine g_aload_n F 0 (dk dtX6_test_0 0 rfl) rfl ?_
  refine g_get F fa_X6_19 (dk dtX6_test_0 1 rfl) (by decide) (cc0 D B _ _) rfl ?_
  refine g_iload_n F 1 (dk dtX6_test_0 2 rfl) rfl ?_
  refine g_callVi F (As := [.int (nI p)]) (st := []) cv_X6_94 (dk dtX6_test_0 3 rfl) (by decide) (cc10 D B _ _) rfl rfl (Nat.le_of_ble_eq_true rfl) ⟨by decide, by decide⟩ (k_X5_hasPersonR l D B _ _ _ P hP) (fun r5 T5 M5 hp5 => ?_)
  obtain ⟨e1, e2, e3⟩ := hp5
  replace e1 := e1.symm; replace e2 := e2.symm; replace e3 := e3.symm; subst e1; subst e2; subst e3
  refine g_if_neB F 13 (dk dtX6_test_0 4 rfl) (by decide) (fun _ => ?_) (fun c => absurd (inR_nI (by omega)) c)
  refine g_aload_n F 0 (dk dtX6_test_0 7 rfl) rfl ?_
  refine g_get F fa_X6_47 (dk dtX6_test_0 8 rfl) (by decide) (cc0 D B _ _) rfl ?_
  refine g_aload_n F 0 (dk dtX6_test_0 9 rfl) rfl ?_
  refine g_get F fa_X6_19 (dk dtX6_test_0 10 rfl) (by decide) (cc0 D B _ _) rfl ?_
  refine g_aload_n F 0 (dk dtX6_test_0 11 rfl) rfl ?_
  refine g_get F fa_X6_26 (dk dtX6_test_0 12 rfl) (by decide) (cc0 D B _ _) rfl ?_
  refine g_iload_n F 1 (dk dtX6_test_0 13 rfl) rfl ?_
  refine g_callVv F (As := [.ref (B + 10), .ref (B + 12), .int (nI p)]) (st := []) cv_X6_187 (dk dtX6_test_0 14 rfl) (by decide) (cc92 D B _ _) rfl rfl (Nat.le_of_ble_eq_true rfl) ⟨by decide, by decide⟩ (k_X1_weigh l D B _ _ nn hnn hnn6 hN p (by omega)) (fun T26 M26 hp26 => ?_)
  obtain ⟨e2, e3⟩ := hp26
  replace e2 := e2.symm; replace e3 := e3.symm; subst e2; subst e3
  refine g_aload_n F 0 (dk dtX6_test_0 15 rfl) rfl ?_
  refine g_get F fa_X6_47 (dk dtX6_test_0 16 rfl) (by decide) (cc0 D B _ _) rfl ?_
  refine g_aload_n F 0 (dk dtX6_test_0 17 rfl) rfl ?_
  refine g_get F fa_X6_19 (dk dtX6_test_0 18 rfl) (by decide) (cc0 D B _ _) rfl ?_
  refine g_aload_n F 0 (dk dtX6_test_0 19 rfl) rfl ?_
  refine g_get F fa_X6_26 (dk dtX6_test_0 20 rfl) (by decide) (cc0 D B _ _) rfl ?_
  refine g_iload_n F 1 (dk dtX6_test_0 21 rfl) rfl ?_
  refine g_callVi F (As := [.ref (B + 10), .ref (B + 12), .int (nI p)]) (st := []) cv_X6_200 (dk dtX6_test_0 22 rfl) (by decide) (cc92 D B _ _) rfl rfl (Nat.le_of_ble_eq_true rfl) ⟨by decide, by decide⟩ (k_X1_bestTry l D B _ _ K ((congrFun (wgM_fr _ _ _ (by decide)) _).trans hK) hK4 p (by omega)) (fun r42 T42 M42 hp42 => ?_)
  obtain ⟨e1, e2, e3⟩ := hp42
  replace e1 := e1.symm; replace e2 := e2.symm; replace e3 := e3.symm; subst e1; subst e2; subst e3
  refine g_iret (F := F) hQ (dk dtX6_test_0 23 rfl) ?_
  exact ⟨rfl, rfl, rfl⟩
set_option maxRecDepth 100000 in
set_option maxHeartbeats 4000000 in
theorem k_X6_test_bad (l : Launch) (D : DX) (B : Nat) (T : Int64) (M : Mem) (P : Nat) (hP : M 10 2 = nI P) (hP5 : P ≤ 5) (p : Int32) (hb : ¬ inR p P) : Ci l D B 108 (celC D B) yX6_test cX6_test 2 (some .int) 3 [.ref (B + 0), .int p] T M (fun rz T1 M1 => rz = (-1) ∧ T1 = T ∧ M1 = M) := by
  refine g_entryi (L := [(0, .ref (B + 0)), (1, .int p)]) (by decide) (Nat.le_of_ble_eq_true rfl) rfl ?_
  intro zp ze zs zm zb zt zc Q F hQ
  refine g_aload_n F 0 (dk dtX6_test_0 0 rfl) rfl ?_
  refine g_get F fa_X6_19 (dk dtX6_test_0 1 rfl) (by decide) (cc0 D B _ _) rfl ?_
  refine g_iload_n F 1 (dk dtX6_test_0 2 rfl) rfl ?_
  refine g_callVi F (As := [.int p]) (st := []) cv_X6_94 (dk dtX6_test_0 3 rfl) (by decide) (cc10 D B _ _) rfl rfl (Nat.le_of_ble_eq_true rfl) ⟨by decide, by decide⟩ (k_X5_hasPersonR l D B _ _ _ P hP) (fun r5 T5 M5 hp5 => ?_)
  obtain ⟨e1, e2, e3⟩ := hp5
  replace e1 := e1.symm; replace e2 := e2.symm; replace e3 := e3.symm; subst e1; subst e2; subst e3
  refine g_if_neB F 13 (dk dtX6_test_0 4 rfl) (by decide) (fun c8 => ?_) (fun c8 => ?_)
  · -- taken at 8
    exact absurd c8 hb
  · -- not taken at 8
    refine g_iconst F (-1) (dk dtX6_test_0 5 rfl) (by decide) ?_
    refine g_iret (F := F) hQ (dk dtX6_test_0 6 rfl) ?_
    exact ⟨rfl, rfl, rfl⟩
set_option maxRecDepth 100000 in
set_option maxHeartbeats 4000000 in
theorem k_X0_timesTillStale (l : Launch) (D : DX) (B : Nat) (T : Int64) (M : Mem) (row nv : Nat → Int32) (hR : NR M 12 row) (hW : WR row) (hM : MW row) (K P : Nat) (hK : M 10 0 = nI K) (hP : M 10 2 = nI P) (hK1 : 1 ≤ K) (hK4 : K ≤ 4) (hP5 : P ≤ 5) (hv : ∀ p, p < P → M 11 p = nv p) (k : Nat) (hk : k < 4) (x : Int32) : Ci l D B 108 (celC D B) yX0_timesTillStale cX0_timesTillStale 7 (some .int) 3 [.ref (B + 69), .ref (B + 10), .ref (B + 12), .int (nI k), .int x] T M (fun rz T1 M1 => rz = (stA nv (nI K) k x P row 0 100) ∧ T1 = T ∧ Sc M M1) := by
  refine g_entryi (L := [(0, .ref (B + 69)), (1, .ref (B + 10)), (2, .ref (B + 12)), (3, .int (nI k)), (4, .int x)]) (by decide) (Nat.le_of_ble_eq_true rfl) rfl ?_
  intro zp ze zs zm zb zt zc Q F hQ
  refine g_aload_n F 0 (dk dtX0_timesTillStale_0 0 rfl) rfl ?_
  refine g_get F fa_X0_11 (dk dtX0_timesTillStale_0 1 rfl) (by decide) (cc69 D B _ _) rfl ?_
  refine g_iconst F (nI 0) (dk dtX0_timesTillStale_0 2 rfl) (by decide) ?_
  refine g_aald F (0) (dk dtX0_timesTillStale_0 3 rfl) (by decide) (cc70 D B _ _) (by omega) (by decide) rfl ?_
  refine g_astore F [(5, .ref (B + 72)), (0, .ref (B + 69)), (1, .ref (B + 10)), (2, .ref (B + 12)), (3, .int (nI k)), (4, .int x)] (dk dtX0_timesTillStale_0 4 rfl) (by decide) rfl ?_
  refine g_aload F 0 (dk dtX0_timesTillStale_0 5 rfl) rfl ?_
  refine g_aload_n F 3 (dk dtX0_timesTillStale_0 6 rfl) rfl ?_
  refine g_callVv F (As := [.ref (B + 12)]) (st := []) cv_X0_22 (dk dtX0_timesTillStale_0 7 rfl) (by decide) (cc72 D B _ _) rfl rfl (Nat.le_of_ble_eq_true rfl) ⟨by decide, by decide⟩ (k_X2_copyFrom l D B _ _ 72 12 (isNow72 D B) (isNow12 D B)) (fun T11 M11 hp11 => ?_)
  obtain ⟨e2, e3⟩ := hp11
  replace e2 := e2.symm; replace e3 := e3.symm; subst e2; subst e3
  refine g_iconst F (nI 0) (dk dtX0_timesTillStale_0 8 rfl) (by decide) ?_
  refine g_istore F [(6, .int (nI 0)), (5, .ref (B + 72)), (0, .ref (B + 69)), (1, .ref (B + 10)), (2, .ref (B + 12)), (3, .int (nI k)), (4, .int x)] (dk dtX0_timesTillStale_0 9 rfl) (by decide) rfl ?_
  have lp17 : ∀ (fz : Nat) (i : Nat) (rw : Nat → Int32) (M2 : Mem), (i ≤ 100 ∧ NR M2 72 rw ∧ WR rw ∧ MW rw ∧ (∀ c, c < 72 ∨ 77 ≤ c → M2 c = M c) ∧ stA nv (nI K) k x P rw i (100 - i) = stA nv (nI K) k x P row 0 100) → (100 - i) < fz → G zp l ze { frames := 3, cells := 0, slots := 0, locals := 40 * 3 } zs zm [.ref (B + 69), .ref (B + 10), .ref (B + 12), .int (nI k), .int x].toArray zb zt zc 7 D B 108 (celC D B) Q T M2 17 [(0, .ref (B + 69)), (1, .ref (B + 10)), (2, .ref (B + 12)), (3, .int (nI k)), (4, .int x), (5, .ref (B + 72)), (6, .int (nI i))] [] := by
    intro n17
    induction n17 with
    | zero => intro i rw M2 hI hn; exact absurd hn (Nat.not_lt_zero _)
    | succ n17 ih17 =>
      intro i rw M2 hI17 hn17
      obtain ⟨hi, hR2, hW2, hM2, hF2, hS2⟩ := hI17
      have hP2 : M2 10 2 = nI P := by rw [hF2 10 (by decide)]; exact hP
      have hK2 : M2 10 0 = nI K := by rw [hF2 10 (by decide)]; exact hK
      have hv2 : ∀ p, p < P → M2 11 p = nv p := fun p hp => by rw [hF2 11 (by decide)]; exact hv p hp
      have hj := (jmp_NR hR2 hW2 hK2 hK1 hK4 hk x P hP5 hv2).1
      refine g_iload F 6 (dk dtX0_timesTillStale_0 10 rfl) rfl ?_
      refine g_bipush F (nI 99) (dk dtX0_timesTillStale_0 11 rfl) (by decide) ?_
      refine g_icmp_gtN F 45 (dk dtX0_timesTillStale_0 12 rfl) (by decide) (by omega) (by omega) (fun c21 => ?_) (fun c21 => ?_)
      · -- taken at 21
        obtain rfl : 100 = i := by omega
        refine g_bipush F (-9) (dk dtX0_timesTillStale_0 23 rfl) (by decide) ?_
        refine g_iret (F := F) hQ (dk dtX0_timesTillStale_0 24 rfl) ?_
        exact ⟨hS2, rfl, fun c hc => hF2 c (by omega)⟩
      · -- not taken at 21
        refine g_aload_n F 1 (dk dtX0_timesTillStale_0 13 rfl) rfl ?_
        refine g_aload F 5 (dk dtX0_timesTillStale_0 14 rfl) rfl ?_
        refine g_iload_n F 3 (dk dtX0_timesTillStale_0 15 rfl) rfl ?_
        refine g_iload F 4 (dk dtX0_timesTillStale_0 16 rfl) rfl ?_
        refine g_callVi F (As := [.ref (B + 72), .int (nI k), .int x]) (st := []) cv_X0_26 (dk dtX0_timesTillStale_0 17 rfl) (by decide) (cc10 D B _ _) rfl rfl (Nat.le_of_ble_eq_true rfl) ⟨by decide, by decide⟩ (k_X5_happen l D B _ _ 72 (isNow72 D B) k (by omega) _ P hP2 hP5) (fun r30 T30 M30 hp30 => ?_)
        obtain ⟨e1, e2, e3⟩ := hp30
        replace e1 := e1.symm; replace e2 := e2.symm; replace e3 := e3.symm; subst e1; subst e2; subst e3
        refine g_if_ne F 39 (dk dtX0_timesTillStale_0 18 rfl) (by decide) (fun c33 => ?_) (fun c33 => ?_)
        · -- taken at 33
          refine g_iinc F 6 (nI (i + 1)) [(6, .int (nI (i + 1))), (0, .ref (B + 69)), (1, .ref (B + 10)), (2, .ref (B + 12)), (3, .int (nI k)), (4, .int x), (5, .ref (B + 72))] (dk dtX0_timesTillStale_0 21 rfl) rfl (nI_1 _) (by decide) rfl ?_
          refine g_goto F 17 (dk dtX0_timesTillStale_0 22 rfl) (by decide) ?_
          refine g_sub [1, 2, 3, 4, 5, 6, 0] (L1 := [(0, .ref (B + 69)), (1, .ref (B + 10)), (2, .ref (B + 12)), (3, .int (nI k)), (4, .int x), (5, .ref (B + 72)), (6, .int (nI (i + 1)))]) rfl ?_
          rw [hj] at c33
          exact ih17 (i + 1) (evR nv (nI K) rw k x P) _ ⟨by omega, hp_NR hR2 hW2 hM2 hK2 hK1 hK4 hk x hP5 hv2, evR_WR hW2 hk, evR_MW hM2 hk x hP5, fun c hc => by rw [hpM_fr _ _ _ _ _ (by omega)]; exact hF2 c hc, stA_s (by omega) c33 hS2⟩ (by omega)
        · -- not taken at 33
          refine g_iload F 6 (dk dtX0_timesTillStale_0 19 rfl) rfl ?_
          refine g_iret (F := F) hQ (dk dtX0_timesTillStale_0 20 rfl) ?_
          rw [hj] at c33
          exact ⟨(stA_hit (by omega) c33 hS2).symm ▸ rfl, rfl, fun c hc => by rw [hpM_fr _ _ _ _ _ (by omega)]; exact hF2 c (by omega)⟩
  refine g_sub [2, 3, 4, 5, 6, 1, 0] (L1 := [(0, .ref (B + 69)), (1, .ref (B + 10)), (2, .ref (B + 12)), (3, .int (nI k)), (4, .int x), (5, .ref (B + 72)), (6, .int (nI 0))]) rfl ?_
  exact lp17 101 0 row (cpN M 72 12) ⟨by omega, cpN_NR hR, hW, hM, fun c hc => cpN_fr _ _ _ (by omega), rfl⟩ (by omega)
set_option maxRecDepth 100000 in
set_option maxHeartbeats 4000000 in
theorem k_X6_stale (l : Launch) (D : DX) (B : Nat) (T : Int64) (M : Mem) (P : Nat) (hP : M 10 2 = nI P) (hP5 : P ≤ 5) (K : Nat) (hK : M 10 0 = nI K) (hK1 : 1 ≤ K) (hK4 : K ≤ 4) (X : Nat) (hX : M 10 1 = nI X) (hX1 : 1 ≤ X) (hX4 : X ≤ 4) (row nv : Nat → Int32) (hR : NR M 12 row) (hW : WR row) (hM : MW row) (hv : ∀ p, p < P → M 11 p = nv p) (k x : Nat) (hk : k < K) (hx : x < X)  : Ci l D B 108 (celC D B) yX6_stale cX6_stale 3 (some .int) 4 [.ref (B + 0), .int (nI k), .int (nI x)] T M (fun rz T1 M1 => rz = (stA nv (nI K) k (nI x) P row 0 100) ∧ T1 = T ∧ Sc M M1) := by
  refine g_entryi (L := [(0, .ref (B + 0)), (1, .int (nI k)), (2, .int (nI x))]) (by decide) (Nat.le_of_ble_eq_true rfl) rfl ?_
  intro zp ze zs zm zb zt zc Q F hQ
  refine g_aload_n F 0 (dk dtX6_stale_0 0 rfl) rfl ?_
  refine g_get F fa_X6_19 (dk dtX6_stale_0 1 rfl) (by decide) (cc0 D B _ _) rfl ?_
  refine g_iload_n F 1 (dk dtX6_stale_0 2 rfl) rfl ?_
  refine g_callVi F (As := [.int (nI k)]) (st := []) cv_X6_110 (dk dtX6_stale_0 3 rfl) (by decide) (cc10 D B _ _) rfl rfl (Nat.le_of_ble_eq_true rfl) ⟨by decide, by decide⟩ (k_X5_hasKindR l D B _ _ _ K hK) (fun r5 T5 M5 hp5 => ?_)
  obtain ⟨e1, e2, e3⟩ := hp5
  replace e1 := e1.symm; replace e2 := e2.symm; replace e3 := e3.symm; subst e1; subst e2; subst e3
  refine g_if_eqB F 22 (dk dtX6_stale_0 4 rfl) (by decide) (fun c => absurd (inR_nI (by omega)) c) (fun _ => ?_)
  refine g_aload_n F 0 (dk dtX6_stale_0 5 rfl) rfl ?_
  refine g_get F fa_X6_19 (dk dtX6_stale_0 6 rfl) (by decide) (cc0 D B _ _) rfl ?_
  refine g_iload_n F 2 (dk dtX6_stale_0 7 rfl) rfl ?_
  refine g_callVi F (As := [.int (nI x)]) (st := []) cv_X6_132 (dk dtX6_stale_0 8 rfl) (by decide) (cc10 D B _ _) rfl rfl (Nat.le_of_ble_eq_true rfl) ⟨by decide, by decide⟩ (k_X5_hasPlaceR l D B _ _ _ X hX) (fun r16 T16 M16 hp16 => ?_)
  obtain ⟨e1, e2, e3⟩ := hp16
  replace e1 := e1.symm; replace e2 := e2.symm; replace e3 := e3.symm; subst e1; subst e2; subst e3
  refine g_if_neB F 24 (dk dtX6_stale_0 9 rfl) (by decide) (fun _ => ?_) (fun c => absurd (inR_nI (by omega)) c)
  refine g_aload_n F 0 (dk dtX6_stale_0 12 rfl) rfl ?_
  refine g_get F fa_X6_40 (dk dtX6_stale_0 13 rfl) (by decide) (cc0 D B _ _) rfl ?_
  refine g_aload_n F 0 (dk dtX6_stale_0 14 rfl) rfl ?_
  refine g_get F fa_X6_19 (dk dtX6_stale_0 15 rfl) (by decide) (cc0 D B _ _) rfl ?_
  refine g_aload_n F 0 (dk dtX6_stale_0 16 rfl) rfl ?_
  refine g_get F fa_X6_26 (dk dtX6_stale_0 17 rfl) (by decide) (cc0 D B _ _) rfl ?_
  refine g_iload_n F 1 (dk dtX6_stale_0 18 rfl) rfl ?_
  refine g_iload_n F 2 (dk dtX6_stale_0 19 rfl) rfl ?_
  refine g_callVi F (As := [.ref (B + 10), .ref (B + 12), .int (nI k), .int (nI x)]) (st := []) cv_X6_165 (dk dtX6_stale_0 20 rfl) (by decide) (cc69 D B _ _) rfl rfl (Nat.le_of_ble_eq_true rfl) ⟨by decide, by decide⟩ (k_X0_timesTillStale l D B _ _ row nv hR hW hM K P hK hP hK1 hK4 hP5 hv k (by omega) _) (fun r38 T38 M38 hp38 => ?_)
  obtain ⟨hr38, hT38, hS38⟩ := hp38
  replace hT38 := hT38.symm; subst hT38
  refine g_iret (F := F) hQ (dk dtX6_stale_0 21 rfl) ?_
  exact ⟨hr38, rfl, hS38⟩
set_option maxRecDepth 100000 in
set_option maxHeartbeats 4000000 in
theorem k_X6_stale_bad (l : Launch) (D : DX) (B : Nat) (T : Int64) (M : Mem) (K : Nat) (hK : M 10 0 = nI K) (hK1 : 1 ≤ K) (hK4 : K ≤ 4) (X : Nat) (hX : M 10 1 = nI X) (hX1 : 1 ≤ X) (hX4 : X ≤ 4) (k x : Int32) (hb : ¬ (inR k K ∧ inR x X)) : Ci l D B 108 (celC D B) yX6_stale cX6_stale 3 (some .int) 4 [.ref (B + 0), .int k, .int x] T M (fun rz T1 M1 => rz = (-1) ∧ T1 = T ∧ M1 = M) := by
  refine g_entryi (L := [(0, .ref (B + 0)), (1, .int k), (2, .int x)]) (by decide) (Nat.le_of_ble_eq_true rfl) rfl ?_
  intro zp ze zs zm zb zt zc Q F hQ
  refine g_aload_n F 0 (dk dtX6_stale_0 0 rfl) rfl ?_
  refine g_get F fa_X6_19 (dk dtX6_stale_0 1 rfl) (by decide) (cc0 D B _ _) rfl ?_
  refine g_iload_n F 1 (dk dtX6_stale_0 2 rfl) rfl ?_
  refine g_callVi F (As := [.int k]) (st := []) cv_X6_110 (dk dtX6_stale_0 3 rfl) (by decide) (cc10 D B _ _) rfl rfl (Nat.le_of_ble_eq_true rfl) ⟨by decide, by decide⟩ (k_X5_hasKindR l D B _ _ _ K hK) (fun r5 T5 M5 hp5 => ?_)
  obtain ⟨e1, e2, e3⟩ := hp5
  replace e1 := e1.symm; replace e2 := e2.symm; replace e3 := e3.symm; subst e1; subst e2; subst e3
  refine g_if_eqB F 22 (dk dtX6_stale_0 4 rfl) (by decide) (fun c8 => ?_) (fun c8 => ?_)
  · -- taken at 8
    refine g_iconst F (-1) (dk dtX6_stale_0 10 rfl) (by decide) ?_
    refine g_iret (F := F) hQ (dk dtX6_stale_0 11 rfl) ?_
    exact ⟨rfl, rfl, rfl⟩
  · -- not taken at 8
    refine g_aload_n F 0 (dk dtX6_stale_0 5 rfl) rfl ?_
    refine g_get F fa_X6_19 (dk dtX6_stale_0 6 rfl) (by decide) (cc0 D B _ _) rfl ?_
    refine g_iload_n F 2 (dk dtX6_stale_0 7 rfl) rfl ?_
    refine g_callVi F (As := [.int x]) (st := []) cv_X6_132 (dk dtX6_stale_0 8 rfl) (by decide) (cc10 D B _ _) rfl rfl (Nat.le_of_ble_eq_true rfl) ⟨by decide, by decide⟩ (k_X5_hasPlaceR l D B _ _ _ X hX) (fun r16 T16 M16 hp16 => ?_)
    obtain ⟨e1, e2, e3⟩ := hp16
    replace e1 := e1.symm; replace e2 := e2.symm; replace e3 := e3.symm; subst e1; subst e2; subst e3
    refine g_if_neB F 24 (dk dtX6_stale_0 9 rfl) (by decide) (fun c19 => ?_) (fun c19 => ?_)
    · -- taken at 19
      exact absurd ⟨c8, c19⟩ hb
    · -- not taken at 19
      refine g_iconst F (-1) (dk dtX6_stale_0 10 rfl) (by decide) ?_
      refine g_iret (F := F) hQ (dk dtX6_stale_0 11 rfl) ?_
      exact ⟨rfl, rfl, rfl⟩
set_option maxRecDepth 100000 in
set_option maxHeartbeats 4000000 in
theorem k_X0_waysBehind_0 (l : Launch) (D : DX) (B : Nat) (T : Int64) (M : Mem) (b : Nat) (hb : IsNow D B b) (row nv : Nat → Int32) (hR : NR M b row) (hW : WR row) (hM : MW row) (K P : Nat) (hK : M 10 0 = nI K) (hP : M 10 2 = nI P) (hK1 : 1 ≤ K) (hK4 : K ≤ 4) (hP5 : P ≤ 5) (hv : ∀ p, p < P → M 11 p = nv p) (p : Nat) (hp : p < P) (x : Int32) (hbl : b + 5 ≤ 72 ∨ 72 ≤ b) : Ci l D B 108 (celC D B) yX0_waysBehind cX0_waysBehind 8 (some .int) 4 [.ref (B + 69), .ref (B + 10), .ref (B + b), .int (nI p), .int x, .int (nI 0)] T M (fun rz T1 M1 => rz = nI (wyR nv (nI K) K (nI p) x P 0 row) ∧ T1 = T ∧ (∀ c, c < 72 ∨ 72 ≤ c → M1 c = M c)) := by
  refine g_entryi (L := [(0, .ref (B + 69)), (1, .ref (B + 10)), (2, .ref (B + b)), (3, .int (nI p)), (4, .int x), (5, .int (nI 0))]) (by decide) (Nat.le_of_ble_eq_true rfl) rfl ?_
  intro zp ze zs zm zb zt zc Q F hQ
  refine g_iload F 5 (dk dtX0_waysBehind_0 0 rfl) rfl ?_
  refine g_if_le F 11 (dk dtX0_waysBehind_0 1 rfl) (by decide) (fun c2 => ?_) (fun c2 => ?_)
  · -- taken at 2
    refine g_aload_n F 2 (dk dtX0_waysBehind_0 5 rfl) rfl ?_
    refine g_get F fa_X0_32 (dk dtX0_waysBehind_0 6 rfl) (by have := hb.1; omega) (hb.2.1 _ _) rfl ?_
    refine g_top hR.2.2.2.2 ?_
    refine g_iload_n F 3 (dk dtX0_waysBehind_0 7 rfl) rfl ?_
    refine g_icmp_ne F 23 (dk dtX0_waysBehind_0 8 rfl) (by decide) (fun c16 => ?_) (fun c16 => ?_)
    · -- taken at 16
      refine g_iconst F (nI 0) (dk dtX0_waysBehind_0 11 rfl) (by decide) ?_
      refine g_iret (F := F) hQ (dk dtX0_waysBehind_0 12 rfl) ?_
      exact ⟨congrArg nI (if_neg c16).symm, rfl, fun c _ => rfl⟩
    · -- not taken at 16
      refine g_iconst F (nI 1) (dk dtX0_waysBehind_0 9 rfl) (by decide) ?_
      refine g_goto F 24 (dk dtX0_waysBehind_0 10 rfl) (by decide) ?_
      refine g_iret (F := F) hQ (dk dtX0_waysBehind_0 12 rfl) ?_
      exact ⟨congrArg nI (if_pos c16).symm, rfl, fun c _ => rfl⟩
  · -- not taken at 2
    exact absurd (by decide) c2
set_option maxRecDepth 100000 in
set_option maxHeartbeats 4000000 in
theorem k_X0_waysBehind_1 (l : Launch) (D : DX) (B : Nat) (T : Int64) (M : Mem) (b : Nat) (hb : IsNow D B b) (row nv : Nat → Int32) (hR : NR M b row) (hW : WR row) (hM : MW row) (K P : Nat) (hK : M 10 0 = nI K) (hP : M 10 2 = nI P) (hK1 : 1 ≤ K) (hK4 : K ≤ 4) (hP5 : P ≤ 5) (hv : ∀ p, p < P → M 11 p = nv p) (p : Nat) (hp : p < P) (x : Int32) (hbl : b + 5 ≤ 72 ∨ 77 ≤ b) : Ci l D B 108 (celC D B) yX0_waysBehind cX0_waysBehind 8 (some .int) 5 [.ref (B + 69), .ref (B + 10), .ref (B + b), .int (nI p), .int x, .int (nI 1)] T M (fun rz T1 M1 => rz = nI (wyR nv (nI K) K (nI p) x P 1 row) ∧ T1 = T ∧ (∀ c, c < 72 ∨ 77 ≤ c → M1 c = M c)) := by
  refine g_entryi (L := [(0, .ref (B + 69)), (1, .ref (B + 10)), (2, .ref (B + b)), (3, .int (nI p)), (4, .int x), (5, .int (nI 1))]) (by decide) (Nat.le_of_ble_eq_true rfl) rfl ?_
  intro zp ze zs zm zb zt zc Q F hQ
  refine g_iload F 5 (dk dtX0_waysBehind_0 0 rfl) rfl ?_
  refine g_if_le F 11 (dk dtX0_waysBehind_0 1 rfl) (by decide) (fun c2 => ?_) (fun c2 => ?_)
  · -- taken at 2
    exact absurd c2 (by decide)
  · -- not taken at 2
    refine g_iload F 5 (dk dtX0_waysBehind_0 2 rfl) rfl ?_
    refine g_iconst F (nI 4) (dk dtX0_waysBehind_0 3 rfl) (by decide) ?_
    refine g_icmp_leN F 25 (dk dtX0_waysBehind_0 4 rfl) (by decide) (by decide) (by decide) (fun _ => ?_) (fun c => absurd c (by decide))
    refine g_iconst F (nI 0) (dk dtX0_waysBehind_0 13 rfl) (by decide) ?_
    refine g_istore F [(6, .int (nI 0)), (0, .ref (B + 69)), (1, .ref (B + 10)), (2, .ref (B + b)), (3, .int (nI p)), (4, .int x), (5, .int (nI 1))] (dk dtX0_waysBehind_0 14 rfl) (by decide) rfl ?_
    refine g_iconst F (nI 0) (dk dtX0_waysBehind_0 15 rfl) (by decide) ?_
    refine g_istore F [(7, .int (nI 0)), (6, .int (nI 0)), (0, .ref (B + 69)), (1, .ref (B + 10)), (2, .ref (B + b)), (3, .int (nI p)), (4, .int x), (5, .int (nI 1))] (dk dtX0_waysBehind_0 16 rfl) (by decide) rfl ?_
    have lp31 : ∀ (fz : Nat) (i : Nat) (M2 : Mem), (i ≤ K ∧ ∀ c, c < 72 ∨ 77 ≤ c → M2 c = M c) → (K - i) < fz → G zp l ze { frames := 5, cells := 0, slots := 0, locals := 40 * 5 } zs zm [.ref (B + 69), .ref (B + 10), .ref (B + b), .int (nI p), .int x, .int (nI 1)].toArray zb zt zc 8 D B 108 (celC D B) Q T M2 31 [(0, .ref (B + 69)), (1, .ref (B + 10)), (2, .ref (B + b)), (3, .int (nI p)), (4, .int x), (5, .int (nI 1)), (6, .int (nI (wyK nv (nI K) K (nI p) x P 0 row i))), (7, .int (nI i))] [] := by
      intro n31
      induction n31 with
      | zero => intro i M2 hI hn; exact absurd hn (Nat.not_lt_zero _)
      | succ n31 ih31 =>
        intro i M2 hI31 hn31
        obtain ⟨hi, hF2⟩ := hI31
        have hP2 : M2 10 2 = nI P := by rw [hF2 10 (by decide)]; exact hP
        have hK2 : M2 10 0 = nI K := by rw [hF2 10 (by decide)]; exact hK
        refine g_iload F 7 (dk dtX0_waysBehind_0 17 rfl) rfl ?_
        refine g_aload_n F 1 (dk dtX0_waysBehind_0 18 rfl) rfl ?_
        refine g_get F fa_X0_43 (dk dtX0_waysBehind_0 19 rfl) (by decide) (cc10 D B _ _) rfl ?_
        refine g_top hK2 ?_
        refine g_icmp_geN F 75 (dk dtX0_waysBehind_0 20 rfl) (by decide) (by omega) (by omega) (fun c37 => ?_) (fun c37 => ?_)
        · -- taken at 37
          obtain rfl : K = i := by omega
          refine g_iload F 6 (dk dtX0_waysBehind_0 41 rfl) rfl ?_
          refine g_iret (F := F) hQ (dk dtX0_waysBehind_0 42 rfl) ?_
          exact ⟨congrArg nI (wyK_eq _ _ _ _ _ _ _ _ _), rfl, hF2⟩
        · -- not taken at 37
          refine g_iload F 6 (dk dtX0_waysBehind_0 21 rfl) rfl ?_
          refine g_aload_n F 0 (dk dtX0_waysBehind_0 22 rfl) rfl ?_
          refine g_aload_n F 1 (dk dtX0_waysBehind_0 23 rfl) rfl ?_
          refine g_aload_n F 0 (dk dtX0_waysBehind_0 24 rfl) rfl ?_
          refine g_aload_n F 1 (dk dtX0_waysBehind_0 25 rfl) rfl ?_
          refine g_aload_n F 2 (dk dtX0_waysBehind_0 26 rfl) rfl ?_
          refine g_iload F 5 (dk dtX0_waysBehind_0 27 rfl) rfl ?_
          refine g_iload F 7 (dk dtX0_waysBehind_0 28 rfl) rfl ?_
          refine g_iload F 4 (dk dtX0_waysBehind_0 29 rfl) rfl ?_
          have hR2 : NR M2 b row := hR.to (fun c h1 h2 => hF2 c (by omega))
          have hcK : (cpN M2 72 b) 10 0 = nI K := by rw [cpN_fr _ _ _ (by omega)]; exact hK2
          have hv1 : ∀ p, p < P → (cpN M2 72 b) 11 p = nv p := fun p hp => by rw [cpN_fr _ _ _ (by omega), hF2 11 (by decide)]; exact hv p hp
          have hR3 : NR (hpM (cpN M2 72 b) 72 i x P) 72 (evR nv (nI K) row i x P) := hp_NR (cpN_NR hR2) hW hM hcK hK1 hK4 (by omega) x hP5 hv1
          have hK3 : (hpM (cpN M2 72 b) 72 i x P) 10 0 = nI K := by rw [hpM_fr _ _ _ _ _ (by omega)]; exact hcK
          have hP3 : (hpM (cpN M2 72 b) 72 i x P) 10 2 = nI P := by rw [hpM_fr _ _ _ _ _ (by omega), cpN_fr _ _ _ (by omega)]; exact hP2
          have hv3 : ∀ p, p < P → (hpM (cpN M2 72 b) 72 i x P) 11 p = nv p := fun p hp => by rw [hpM_fr _ _ _ _ _ (by omega)]; exact hv1 p hp
          refine g_callVr F (As := [.ref (B + 10), .ref (B + b), .int (nI 1), .int (nI i), .int x]) (st := [.ref (B + 10), .ref (B + 69), .int (nI (wyK nv (nI K) K (nI p) x P 0 row i))]) cv_X0_46 (dk dtX0_waysBehind_0 30 rfl) (by decide) (cc69 D B _ _) rfl rfl (Nat.le_of_ble_eq_true rfl) ⟨by decide, by decide⟩ (k_X0_behind l D B _ _ b 0 hb (by decide) i (by omega) _ P hP2 hP5) (fun T53 M53 hp53 => ?_)
          obtain ⟨e2, e3⟩ := hp53
          replace e2 := e2.symm; replace e3 := e3.symm; subst e2; subst e3
          refine g_iload_n F 3 (dk dtX0_waysBehind_0 31 rfl) rfl ?_
          refine g_iload F 4 (dk dtX0_waysBehind_0 32 rfl) rfl ?_
          refine g_iload F 5 (dk dtX0_waysBehind_0 33 rfl) rfl ?_
          refine g_iconst F (nI 1) (dk dtX0_waysBehind_0 34 rfl) (by decide) ?_
          refine g_isubN F (dk dtX0_waysBehind_0 35 rfl) (by omega) ?_
          refine g_callVi F (As := [.ref (B + 10), .ref (B + 72), .int (nI p), .int x, .int (nI (1 - 1))]) (st := [.int (nI (wyK nv (nI K) K (nI p) x P 0 row i))]) cv_X0_64 (dk dtX0_waysBehind_0 36 rfl) (by decide) (cc69 D B _ _) rfl rfl (Nat.le_of_ble_eq_true rfl) ⟨by decide, by decide⟩ (k_X0_waysBehind_0 l D B _ _ 72 (isNow72 D B) (evR nv (nI K) row i x P) nv hR3 (evR_WR hW (by omega)) (evR_MW hM (by omega) x hP5) K P hK3 hP3 hK1 hK4 hP5 hv3 p hp x (by decide)) (fun r63 T63 M63 hp63 => ?_)
          obtain ⟨hr63, hT63, hF4⟩ := hp63
          replace hT63 := hT63.symm; subst hT63; replace hr63 := hr63.symm; subst hr63
          refine g_iaddN F (dk dtX0_waysBehind_0 37 rfl) ?_
          refine g_istore F [(6, .int (nI ((wyK nv (nI K) K (nI p) x P 0 row i) + (wyR nv (nI K) K (nI p) x P 0 (evR nv (nI K) row i x P))))), (0, .ref (B + 69)), (1, .ref (B + 10)), (2, .ref (B + b)), (3, .int (nI p)), (4, .int x), (5, .int (nI 1)), (7, .int (nI i))] (dk dtX0_waysBehind_0 38 rfl) (by decide) rfl ?_
          refine g_iinc F 7 (nI (i + 1)) [(7, .int (nI (i + 1))), (6, .int (nI ((wyK nv (nI K) K (nI p) x P 0 row i) + (wyR nv (nI K) K (nI p) x P 0 (evR nv (nI K) row i x P))))), (0, .ref (B + 69)), (1, .ref (B + 10)), (2, .ref (B + b)), (3, .int (nI p)), (4, .int x), (5, .int (nI 1))] (dk dtX0_waysBehind_0 39 rfl) rfl (nI_1 _) (by decide) rfl ?_
          refine g_goto F 31 (dk dtX0_waysBehind_0 40 rfl) (by decide) ?_
          refine g_sub [2, 3, 4, 5, 6, 7, 1, 0] (L1 := [(0, .ref (B + 69)), (1, .ref (B + 10)), (2, .ref (B + b)), (3, .int (nI p)), (4, .int x), (5, .int (nI 1)), (6, .int (nI ((wyK nv (nI K) K (nI p) x P 0 row i) + (wyR nv (nI K) K (nI p) x P 0 (evR nv (nI K) row i x P))))), (7, .int (nI (i + 1)))]) rfl ?_
          exact ih31 (i + 1) _ ⟨by omega, fun c hc => by rw [hF4 c (by omega), hpM_fr _ _ _ _ _ (by omega), cpN_fr _ _ _ (by omega)]; exact hF2 c hc⟩ (by omega)
    refine g_sub [2, 3, 4, 5, 6, 7, 1, 0] (L1 := [(0, .ref (B + 69)), (1, .ref (B + 10)), (2, .ref (B + b)), (3, .int (nI p)), (4, .int x), (5, .int (nI 1)), (6, .int (nI 0)), (7, .int (nI 0))]) rfl ?_
    exact lp31 (K + 1) 0 M ⟨by omega, fun c _ => rfl⟩ (by omega)
set_option maxRecDepth 100000 in
set_option maxHeartbeats 4000000 in
theorem k_X0_waysBehind_2 (l : Launch) (D : DX) (B : Nat) (T : Int64) (M : Mem) (b : Nat) (hb : IsNow D B b) (row nv : Nat → Int32) (hR : NR M b row) (hW : WR row) (hM : MW row) (K P : Nat) (hK : M 10 0 = nI K) (hP : M 10 2 = nI P) (hK1 : 1 ≤ K) (hK4 : K ≤ 4) (hP5 : P ≤ 5) (hv : ∀ p, p < P → M 11 p = nv p) (p : Nat) (hp : p < P) (x : Int32) (hbl : b + 5 ≤ 72 ∨ 82 ≤ b) : Ci l D B 108 (celC D B) yX0_waysBehind cX0_waysBehind 8 (some .int) 6 [.ref (B + 69), .ref (B + 10), .ref (B + b), .int (nI p), .int x, .int (nI 2)] T M (fun rz T1 M1 => rz = nI (wyR nv (nI K) K (nI p) x P 2 row) ∧ T1 = T ∧ (∀ c, c < 72 ∨ 82 ≤ c → M1 c = M c)) := by
  refine g_entryi (L := [(0, .ref (B + 69)), (1, .ref (B + 10)), (2, .ref (B + b)), (3, .int (nI p)), (4, .int x), (5, .int (nI 2))]) (by decide) (Nat.le_of_ble_eq_true rfl) rfl ?_
  intro zp ze zs zm zb zt zc Q F hQ
  refine g_iload F 5 (dk dtX0_waysBehind_0 0 rfl) rfl ?_
  refine g_if_le F 11 (dk dtX0_waysBehind_0 1 rfl) (by decide) (fun c2 => ?_) (fun c2 => ?_)
  · -- taken at 2
    exact absurd c2 (by decide)
  · -- not taken at 2
    refine g_iload F 5 (dk dtX0_waysBehind_0 2 rfl) rfl ?_
    refine g_iconst F (nI 4) (dk dtX0_waysBehind_0 3 rfl) (by decide) ?_
    refine g_icmp_leN F 25 (dk dtX0_waysBehind_0 4 rfl) (by decide) (by decide) (by decide) (fun _ => ?_) (fun c => absurd c (by decide))
    refine g_iconst F (nI 0) (dk dtX0_waysBehind_0 13 rfl) (by decide) ?_
    refine g_istore F [(6, .int (nI 0)), (0, .ref (B + 69)), (1, .ref (B + 10)), (2, .ref (B + b)), (3, .int (nI p)), (4, .int x), (5, .int (nI 2))] (dk dtX0_waysBehind_0 14 rfl) (by decide) rfl ?_
    refine g_iconst F (nI 0) (dk dtX0_waysBehind_0 15 rfl) (by decide) ?_
    refine g_istore F [(7, .int (nI 0)), (6, .int (nI 0)), (0, .ref (B + 69)), (1, .ref (B + 10)), (2, .ref (B + b)), (3, .int (nI p)), (4, .int x), (5, .int (nI 2))] (dk dtX0_waysBehind_0 16 rfl) (by decide) rfl ?_
    have lp31 : ∀ (fz : Nat) (i : Nat) (M2 : Mem), (i ≤ K ∧ ∀ c, c < 72 ∨ 82 ≤ c → M2 c = M c) → (K - i) < fz → G zp l ze { frames := 6, cells := 0, slots := 0, locals := 40 * 6 } zs zm [.ref (B + 69), .ref (B + 10), .ref (B + b), .int (nI p), .int x, .int (nI 2)].toArray zb zt zc 8 D B 108 (celC D B) Q T M2 31 [(0, .ref (B + 69)), (1, .ref (B + 10)), (2, .ref (B + b)), (3, .int (nI p)), (4, .int x), (5, .int (nI 2)), (6, .int (nI (wyK nv (nI K) K (nI p) x P 1 row i))), (7, .int (nI i))] [] := by
      intro n31
      induction n31 with
      | zero => intro i M2 hI hn; exact absurd hn (Nat.not_lt_zero _)
      | succ n31 ih31 =>
        intro i M2 hI31 hn31
        obtain ⟨hi, hF2⟩ := hI31
        have hP2 : M2 10 2 = nI P := by rw [hF2 10 (by decide)]; exact hP
        have hK2 : M2 10 0 = nI K := by rw [hF2 10 (by decide)]; exact hK
        refine g_iload F 7 (dk dtX0_waysBehind_0 17 rfl) rfl ?_
        refine g_aload_n F 1 (dk dtX0_waysBehind_0 18 rfl) rfl ?_
        refine g_get F fa_X0_43 (dk dtX0_waysBehind_0 19 rfl) (by decide) (cc10 D B _ _) rfl ?_
        refine g_top hK2 ?_
        refine g_icmp_geN F 75 (dk dtX0_waysBehind_0 20 rfl) (by decide) (by omega) (by omega) (fun c37 => ?_) (fun c37 => ?_)
        · -- taken at 37
          obtain rfl : K = i := by omega
          refine g_iload F 6 (dk dtX0_waysBehind_0 41 rfl) rfl ?_
          refine g_iret (F := F) hQ (dk dtX0_waysBehind_0 42 rfl) ?_
          exact ⟨congrArg nI (wyK_eq _ _ _ _ _ _ _ _ _), rfl, hF2⟩
        · -- not taken at 37
          refine g_iload F 6 (dk dtX0_waysBehind_0 21 rfl) rfl ?_
          refine g_aload_n F 0 (dk dtX0_waysBehind_0 22 rfl) rfl ?_
          refine g_aload_n F 1 (dk dtX0_waysBehind_0 23 rfl) rfl ?_
          refine g_aload_n F 0 (dk dtX0_waysBehind_0 24 rfl) rfl ?_
          refine g_aload_n F 1 (dk dtX0_waysBehind_0 25 rfl) rfl ?_
          refine g_aload_n F 2 (dk dtX0_waysBehind_0 26 rfl) rfl ?_
          refine g_iload F 5 (dk dtX0_waysBehind_0 27 rfl) rfl ?_
          refine g_iload F 7 (dk dtX0_waysBehind_0 28 rfl) rfl ?_
          refine g_iload F 4 (dk dtX0_waysBehind_0 29 rfl) rfl ?_
          have hR2 : NR M2 b row := hR.to (fun c h1 h2 => hF2 c (by omega))
          have hcK : (cpN M2 77 b) 10 0 = nI K := by rw [cpN_fr _ _ _ (by omega)]; exact hK2
          have hv1 : ∀ p, p < P → (cpN M2 77 b) 11 p = nv p := fun p hp => by rw [cpN_fr _ _ _ (by omega), hF2 11 (by decide)]; exact hv p hp
          have hR3 : NR (hpM (cpN M2 77 b) 77 i x P) 77 (evR nv (nI K) row i x P) := hp_NR (cpN_NR hR2) hW hM hcK hK1 hK4 (by omega) x hP5 hv1
          have hK3 : (hpM (cpN M2 77 b) 77 i x P) 10 0 = nI K := by rw [hpM_fr _ _ _ _ _ (by omega)]; exact hcK
          have hP3 : (hpM (cpN M2 77 b) 77 i x P) 10 2 = nI P := by rw [hpM_fr _ _ _ _ _ (by omega), cpN_fr _ _ _ (by omega)]; exact hP2
          have hv3 : ∀ p, p < P → (hpM (cpN M2 77 b) 77 i x P) 11 p = nv p := fun p hp => by rw [hpM_fr _ _ _ _ _ (by omega)]; exact hv1 p hp
          refine g_callVr F (As := [.ref (B + 10), .ref (B + b), .int (nI 2), .int (nI i), .int x]) (st := [.ref (B + 10), .ref (B + 69), .int (nI (wyK nv (nI K) K (nI p) x P 1 row i))]) cv_X0_46 (dk dtX0_waysBehind_0 30 rfl) (by decide) (cc69 D B _ _) rfl rfl (Nat.le_of_ble_eq_true rfl) ⟨by decide, by decide⟩ (k_X0_behind l D B _ _ b 1 hb (by decide) i (by omega) _ P hP2 hP5) (fun T53 M53 hp53 => ?_)
          obtain ⟨e2, e3⟩ := hp53
          replace e2 := e2.symm; replace e3 := e3.symm; subst e2; subst e3
          refine g_iload_n F 3 (dk dtX0_waysBehind_0 31 rfl) rfl ?_
          refine g_iload F 4 (dk dtX0_waysBehind_0 32 rfl) rfl ?_
          refine g_iload F 5 (dk dtX0_waysBehind_0 33 rfl) rfl ?_
          refine g_iconst F (nI 1) (dk dtX0_waysBehind_0 34 rfl) (by decide) ?_
          refine g_isubN F (dk dtX0_waysBehind_0 35 rfl) (by omega) ?_
          refine g_callVi F (As := [.ref (B + 10), .ref (B + 77), .int (nI p), .int x, .int (nI (2 - 1))]) (st := [.int (nI (wyK nv (nI K) K (nI p) x P 1 row i))]) cv_X0_64 (dk dtX0_waysBehind_0 36 rfl) (by decide) (cc69 D B _ _) rfl rfl (Nat.le_of_ble_eq_true rfl) ⟨by decide, by decide⟩ (k_X0_waysBehind_1 l D B _ _ 77 (isNow77 D B) (evR nv (nI K) row i x P) nv hR3 (evR_WR hW (by omega)) (evR_MW hM (by omega) x hP5) K P hK3 hP3 hK1 hK4 hP5 hv3 p hp x (by decide)) (fun r63 T63 M63 hp63 => ?_)
          obtain ⟨hr63, hT63, hF4⟩ := hp63
          replace hT63 := hT63.symm; subst hT63; replace hr63 := hr63.symm; subst hr63
          refine g_iaddN F (dk dtX0_waysBehind_0 37 rfl) ?_
          refine g_istore F [(6, .int (nI ((wyK nv (nI K) K (nI p) x P 1 row i) + (wyR nv (nI K) K (nI p) x P 1 (evR nv (nI K) row i x P))))), (0, .ref (B + 69)), (1, .ref (B + 10)), (2, .ref (B + b)), (3, .int (nI p)), (4, .int x), (5, .int (nI 2)), (7, .int (nI i))] (dk dtX0_waysBehind_0 38 rfl) (by decide) rfl ?_
          refine g_iinc F 7 (nI (i + 1)) [(7, .int (nI (i + 1))), (6, .int (nI ((wyK nv (nI K) K (nI p) x P 1 row i) + (wyR nv (nI K) K (nI p) x P 1 (evR nv (nI K) row i x P))))), (0, .ref (B + 69)), (1, .ref (B + 10)), (2, .ref (B + b)), (3, .int (nI p)), (4, .int x), (5, .int (nI 2))] (dk dtX0_waysBehind_0 39 rfl) rfl (nI_1 _) (by decide) rfl ?_
          refine g_goto F 31 (dk dtX0_waysBehind_0 40 rfl) (by decide) ?_
          refine g_sub [2, 3, 4, 5, 6, 7, 1, 0] (L1 := [(0, .ref (B + 69)), (1, .ref (B + 10)), (2, .ref (B + b)), (3, .int (nI p)), (4, .int x), (5, .int (nI 2)), (6, .int (nI ((wyK nv (nI K) K (nI p) x P 1 row i) + (wyR nv (nI K) K (nI p) x P 1 (evR nv (nI K) row i x P))))), (7, .int (nI (i + 1)))]) rfl ?_
          exact ih31 (i + 1) _ ⟨by omega, fun c hc => by rw [hF4 c (by omega), hpM_fr _ _ _ _ _ (by omega), cpN_fr _ _ _ (by omega)]; exact hF2 c hc⟩ (by omega)
    refine g_sub [2, 3, 4, 5, 6, 7, 1, 0] (L1 := [(0, .ref (B + 69)), (1, .ref (B + 10)), (2, .ref (B + b)), (3, .int (nI p)), (4, .int x), (5, .int (nI 2)), (6, .int (nI 0)), (7, .int (nI 0))]) rfl ?_
    exact lp31 (K + 1) 0 M ⟨by omega, fun c _ => rfl⟩ (by omega)
set_option maxRecDepth 100000 in
set_option maxHeartbeats 4000000 in
theorem k_X0_waysBehind_3 (l : Launch) (D : DX) (B : Nat) (T : Int64) (M : Mem) (b : Nat) (hb : IsNow D B b) (row nv : Nat → Int32) (hR : NR M b row) (hW : WR row) (hM : MW row) (K P : Nat) (hK : M 10 0 = nI K) (hP : M 10 2 = nI P) (hK1 : 1 ≤ K) (hK4 : K ≤ 4) (hP5 : P ≤ 5) (hv : ∀ p, p < P → M 11 p = nv p) (p : Nat) (hp : p < P) (x : Int32) (hbl : b + 5 ≤ 72 ∨ 87 ≤ b) : Ci l D B 108 (celC D B) yX0_waysBehind cX0_waysBehind 8 (some .int) 7 [.ref (B + 69), .ref (B + 10), .ref (B + b), .int (nI p), .int x, .int (nI 3)] T M (fun rz T1 M1 => rz = nI (wyR nv (nI K) K (nI p) x P 3 row) ∧ T1 = T ∧ (∀ c, c < 72 ∨ 87 ≤ c → M1 c = M c)) := by
  refine g_entryi (L := [(0, .ref (B + 69)), (1, .ref (B + 10)), (2, .ref (B + b)), (3, .int (nI p)), (4, .int x), (5, .int (nI 3))]) (by decide) (Nat.le_of_ble_eq_true rfl) rfl ?_
  intro zp ze zs zm zb zt zc Q F hQ
  refine g_iload F 5 (dk dtX0_waysBehind_0 0 rfl) rfl ?_
  refine g_if_le F 11 (dk dtX0_waysBehind_0 1 rfl) (by decide) (fun c2 => ?_) (fun c2 => ?_)
  · -- taken at 2
    exact absurd c2 (by decide)
  · -- not taken at 2
    refine g_iload F 5 (dk dtX0_waysBehind_0 2 rfl) rfl ?_
    refine g_iconst F (nI 4) (dk dtX0_waysBehind_0 3 rfl) (by decide) ?_
    refine g_icmp_leN F 25 (dk dtX0_waysBehind_0 4 rfl) (by decide) (by decide) (by decide) (fun _ => ?_) (fun c => absurd c (by decide))
    refine g_iconst F (nI 0) (dk dtX0_waysBehind_0 13 rfl) (by decide) ?_
    refine g_istore F [(6, .int (nI 0)), (0, .ref (B + 69)), (1, .ref (B + 10)), (2, .ref (B + b)), (3, .int (nI p)), (4, .int x), (5, .int (nI 3))] (dk dtX0_waysBehind_0 14 rfl) (by decide) rfl ?_
    refine g_iconst F (nI 0) (dk dtX0_waysBehind_0 15 rfl) (by decide) ?_
    refine g_istore F [(7, .int (nI 0)), (6, .int (nI 0)), (0, .ref (B + 69)), (1, .ref (B + 10)), (2, .ref (B + b)), (3, .int (nI p)), (4, .int x), (5, .int (nI 3))] (dk dtX0_waysBehind_0 16 rfl) (by decide) rfl ?_
    have lp31 : ∀ (fz : Nat) (i : Nat) (M2 : Mem), (i ≤ K ∧ ∀ c, c < 72 ∨ 87 ≤ c → M2 c = M c) → (K - i) < fz → G zp l ze { frames := 7, cells := 0, slots := 0, locals := 40 * 7 } zs zm [.ref (B + 69), .ref (B + 10), .ref (B + b), .int (nI p), .int x, .int (nI 3)].toArray zb zt zc 8 D B 108 (celC D B) Q T M2 31 [(0, .ref (B + 69)), (1, .ref (B + 10)), (2, .ref (B + b)), (3, .int (nI p)), (4, .int x), (5, .int (nI 3)), (6, .int (nI (wyK nv (nI K) K (nI p) x P 2 row i))), (7, .int (nI i))] [] := by
      intro n31
      induction n31 with
      | zero => intro i M2 hI hn; exact absurd hn (Nat.not_lt_zero _)
      | succ n31 ih31 =>
        intro i M2 hI31 hn31
        obtain ⟨hi, hF2⟩ := hI31
        have hP2 : M2 10 2 = nI P := by rw [hF2 10 (by decide)]; exact hP
        have hK2 : M2 10 0 = nI K := by rw [hF2 10 (by decide)]; exact hK
        refine g_iload F 7 (dk dtX0_waysBehind_0 17 rfl) rfl ?_
        refine g_aload_n F 1 (dk dtX0_waysBehind_0 18 rfl) rfl ?_
        refine g_get F fa_X0_43 (dk dtX0_waysBehind_0 19 rfl) (by decide) (cc10 D B _ _) rfl ?_
        refine g_top hK2 ?_
        refine g_icmp_geN F 75 (dk dtX0_waysBehind_0 20 rfl) (by decide) (by omega) (by omega) (fun c37 => ?_) (fun c37 => ?_)
        · -- taken at 37
          obtain rfl : K = i := by omega
          refine g_iload F 6 (dk dtX0_waysBehind_0 41 rfl) rfl ?_
          refine g_iret (F := F) hQ (dk dtX0_waysBehind_0 42 rfl) ?_
          exact ⟨congrArg nI (wyK_eq _ _ _ _ _ _ _ _ _), rfl, hF2⟩
        · -- not taken at 37
          refine g_iload F 6 (dk dtX0_waysBehind_0 21 rfl) rfl ?_
          refine g_aload_n F 0 (dk dtX0_waysBehind_0 22 rfl) rfl ?_
          refine g_aload_n F 1 (dk dtX0_waysBehind_0 23 rfl) rfl ?_
          refine g_aload_n F 0 (dk dtX0_waysBehind_0 24 rfl) rfl ?_
          refine g_aload_n F 1 (dk dtX0_waysBehind_0 25 rfl) rfl ?_
          refine g_aload_n F 2 (dk dtX0_waysBehind_0 26 rfl) rfl ?_
          refine g_iload F 5 (dk dtX0_waysBehind_0 27 rfl) rfl ?_
          refine g_iload F 7 (dk dtX0_waysBehind_0 28 rfl) rfl ?_
          refine g_iload F 4 (dk dtX0_waysBehind_0 29 rfl) rfl ?_
          have hR2 : NR M2 b row := hR.to (fun c h1 h2 => hF2 c (by omega))
          have hcK : (cpN M2 82 b) 10 0 = nI K := by rw [cpN_fr _ _ _ (by omega)]; exact hK2
          have hv1 : ∀ p, p < P → (cpN M2 82 b) 11 p = nv p := fun p hp => by rw [cpN_fr _ _ _ (by omega), hF2 11 (by decide)]; exact hv p hp
          have hR3 : NR (hpM (cpN M2 82 b) 82 i x P) 82 (evR nv (nI K) row i x P) := hp_NR (cpN_NR hR2) hW hM hcK hK1 hK4 (by omega) x hP5 hv1
          have hK3 : (hpM (cpN M2 82 b) 82 i x P) 10 0 = nI K := by rw [hpM_fr _ _ _ _ _ (by omega)]; exact hcK
          have hP3 : (hpM (cpN M2 82 b) 82 i x P) 10 2 = nI P := by rw [hpM_fr _ _ _ _ _ (by omega), cpN_fr _ _ _ (by omega)]; exact hP2
          have hv3 : ∀ p, p < P → (hpM (cpN M2 82 b) 82 i x P) 11 p = nv p := fun p hp => by rw [hpM_fr _ _ _ _ _ (by omega)]; exact hv1 p hp
          refine g_callVr F (As := [.ref (B + 10), .ref (B + b), .int (nI 3), .int (nI i), .int x]) (st := [.ref (B + 10), .ref (B + 69), .int (nI (wyK nv (nI K) K (nI p) x P 2 row i))]) cv_X0_46 (dk dtX0_waysBehind_0 30 rfl) (by decide) (cc69 D B _ _) rfl rfl (Nat.le_of_ble_eq_true rfl) ⟨by decide, by decide⟩ (k_X0_behind l D B _ _ b 2 hb (by decide) i (by omega) _ P hP2 hP5) (fun T53 M53 hp53 => ?_)
          obtain ⟨e2, e3⟩ := hp53
          replace e2 := e2.symm; replace e3 := e3.symm; subst e2; subst e3
          refine g_iload_n F 3 (dk dtX0_waysBehind_0 31 rfl) rfl ?_
          refine g_iload F 4 (dk dtX0_waysBehind_0 32 rfl) rfl ?_
          refine g_iload F 5 (dk dtX0_waysBehind_0 33 rfl) rfl ?_
          refine g_iconst F (nI 1) (dk dtX0_waysBehind_0 34 rfl) (by decide) ?_
          refine g_isubN F (dk dtX0_waysBehind_0 35 rfl) (by omega) ?_
          refine g_callVi F (As := [.ref (B + 10), .ref (B + 82), .int (nI p), .int x, .int (nI (3 - 1))]) (st := [.int (nI (wyK nv (nI K) K (nI p) x P 2 row i))]) cv_X0_64 (dk dtX0_waysBehind_0 36 rfl) (by decide) (cc69 D B _ _) rfl rfl (Nat.le_of_ble_eq_true rfl) ⟨by decide, by decide⟩ (k_X0_waysBehind_2 l D B _ _ 82 (isNow82 D B) (evR nv (nI K) row i x P) nv hR3 (evR_WR hW (by omega)) (evR_MW hM (by omega) x hP5) K P hK3 hP3 hK1 hK4 hP5 hv3 p hp x (by decide)) (fun r63 T63 M63 hp63 => ?_)
          obtain ⟨hr63, hT63, hF4⟩ := hp63
          replace hT63 := hT63.symm; subst hT63; replace hr63 := hr63.symm; subst hr63
          refine g_iaddN F (dk dtX0_waysBehind_0 37 rfl) ?_
          refine g_istore F [(6, .int (nI ((wyK nv (nI K) K (nI p) x P 2 row i) + (wyR nv (nI K) K (nI p) x P 2 (evR nv (nI K) row i x P))))), (0, .ref (B + 69)), (1, .ref (B + 10)), (2, .ref (B + b)), (3, .int (nI p)), (4, .int x), (5, .int (nI 3)), (7, .int (nI i))] (dk dtX0_waysBehind_0 38 rfl) (by decide) rfl ?_
          refine g_iinc F 7 (nI (i + 1)) [(7, .int (nI (i + 1))), (6, .int (nI ((wyK nv (nI K) K (nI p) x P 2 row i) + (wyR nv (nI K) K (nI p) x P 2 (evR nv (nI K) row i x P))))), (0, .ref (B + 69)), (1, .ref (B + 10)), (2, .ref (B + b)), (3, .int (nI p)), (4, .int x), (5, .int (nI 3))] (dk dtX0_waysBehind_0 39 rfl) rfl (nI_1 _) (by decide) rfl ?_
          refine g_goto F 31 (dk dtX0_waysBehind_0 40 rfl) (by decide) ?_
          refine g_sub [2, 3, 4, 5, 6, 7, 1, 0] (L1 := [(0, .ref (B + 69)), (1, .ref (B + 10)), (2, .ref (B + b)), (3, .int (nI p)), (4, .int x), (5, .int (nI 3)), (6, .int (nI ((wyK nv (nI K) K (nI p) x P 2 row i) + (wyR nv (nI K) K (nI p) x P 2 (evR nv (nI K) row i x P))))), (7, .int (nI (i + 1)))]) rfl ?_
          exact ih31 (i + 1) _ ⟨by omega, fun c hc => by rw [hF4 c (by omega), hpM_fr _ _ _ _ _ (by omega), cpN_fr _ _ _ (by omega)]; exact hF2 c hc⟩ (by omega)
    refine g_sub [2, 3, 4, 5, 6, 7, 1, 0] (L1 := [(0, .ref (B + 69)), (1, .ref (B + 10)), (2, .ref (B + b)), (3, .int (nI p)), (4, .int x), (5, .int (nI 3)), (6, .int (nI 0)), (7, .int (nI 0))]) rfl ?_
    exact lp31 (K + 1) 0 M ⟨by omega, fun c _ => rfl⟩ (by omega)
set_option maxRecDepth 100000 in
set_option maxHeartbeats 4000000 in
theorem k_X0_waysBehind_4 (l : Launch) (D : DX) (B : Nat) (T : Int64) (M : Mem) (b : Nat) (hb : IsNow D B b) (row nv : Nat → Int32) (hR : NR M b row) (hW : WR row) (hM : MW row) (K P : Nat) (hK : M 10 0 = nI K) (hP : M 10 2 = nI P) (hK1 : 1 ≤ K) (hK4 : K ≤ 4) (hP5 : P ≤ 5) (hv : ∀ p, p < P → M 11 p = nv p) (p : Nat) (hp : p < P) (x : Int32) (hbl : b + 5 ≤ 72 ∨ 92 ≤ b) : Ci l D B 108 (celC D B) yX0_waysBehind cX0_waysBehind 8 (some .int) 8 [.ref (B + 69), .ref (B + 10), .ref (B + b), .int (nI p), .int x, .int (nI 4)] T M (fun rz T1 M1 => rz = nI (wyR nv (nI K) K (nI p) x P 4 row) ∧ T1 = T ∧ (∀ c, c < 72 ∨ 92 ≤ c → M1 c = M c)) := by
  refine g_entryi (L := [(0, .ref (B + 69)), (1, .ref (B + 10)), (2, .ref (B + b)), (3, .int (nI p)), (4, .int x), (5, .int (nI 4))]) (by decide) (Nat.le_of_ble_eq_true rfl) rfl ?_
  intro zp ze zs zm zb zt zc Q F hQ
  refine g_iload F 5 (dk dtX0_waysBehind_0 0 rfl) rfl ?_
  refine g_if_le F 11 (dk dtX0_waysBehind_0 1 rfl) (by decide) (fun c2 => ?_) (fun c2 => ?_)
  · -- taken at 2
    exact absurd c2 (by decide)
  · -- not taken at 2
    refine g_iload F 5 (dk dtX0_waysBehind_0 2 rfl) rfl ?_
    refine g_iconst F (nI 4) (dk dtX0_waysBehind_0 3 rfl) (by decide) ?_
    refine g_icmp_leN F 25 (dk dtX0_waysBehind_0 4 rfl) (by decide) (by decide) (by decide) (fun _ => ?_) (fun c => absurd c (by decide))
    refine g_iconst F (nI 0) (dk dtX0_waysBehind_0 13 rfl) (by decide) ?_
    refine g_istore F [(6, .int (nI 0)), (0, .ref (B + 69)), (1, .ref (B + 10)), (2, .ref (B + b)), (3, .int (nI p)), (4, .int x), (5, .int (nI 4))] (dk dtX0_waysBehind_0 14 rfl) (by decide) rfl ?_
    refine g_iconst F (nI 0) (dk dtX0_waysBehind_0 15 rfl) (by decide) ?_
    refine g_istore F [(7, .int (nI 0)), (6, .int (nI 0)), (0, .ref (B + 69)), (1, .ref (B + 10)), (2, .ref (B + b)), (3, .int (nI p)), (4, .int x), (5, .int (nI 4))] (dk dtX0_waysBehind_0 16 rfl) (by decide) rfl ?_
    have lp31 : ∀ (fz : Nat) (i : Nat) (M2 : Mem), (i ≤ K ∧ ∀ c, c < 72 ∨ 92 ≤ c → M2 c = M c) → (K - i) < fz → G zp l ze { frames := 8, cells := 0, slots := 0, locals := 40 * 8 } zs zm [.ref (B + 69), .ref (B + 10), .ref (B + b), .int (nI p), .int x, .int (nI 4)].toArray zb zt zc 8 D B 108 (celC D B) Q T M2 31 [(0, .ref (B + 69)), (1, .ref (B + 10)), (2, .ref (B + b)), (3, .int (nI p)), (4, .int x), (5, .int (nI 4)), (6, .int (nI (wyK nv (nI K) K (nI p) x P 3 row i))), (7, .int (nI i))] [] := by
      intro n31
      induction n31 with
      | zero => intro i M2 hI hn; exact absurd hn (Nat.not_lt_zero _)
      | succ n31 ih31 =>
        intro i M2 hI31 hn31
        obtain ⟨hi, hF2⟩ := hI31
        have hP2 : M2 10 2 = nI P := by rw [hF2 10 (by decide)]; exact hP
        have hK2 : M2 10 0 = nI K := by rw [hF2 10 (by decide)]; exact hK
        refine g_iload F 7 (dk dtX0_waysBehind_0 17 rfl) rfl ?_
        refine g_aload_n F 1 (dk dtX0_waysBehind_0 18 rfl) rfl ?_
        refine g_get F fa_X0_43 (dk dtX0_waysBehind_0 19 rfl) (by decide) (cc10 D B _ _) rfl ?_
        refine g_top hK2 ?_
        refine g_icmp_geN F 75 (dk dtX0_waysBehind_0 20 rfl) (by decide) (by omega) (by omega) (fun c37 => ?_) (fun c37 => ?_)
        · -- taken at 37
          obtain rfl : K = i := by omega
          refine g_iload F 6 (dk dtX0_waysBehind_0 41 rfl) rfl ?_
          refine g_iret (F := F) hQ (dk dtX0_waysBehind_0 42 rfl) ?_
          exact ⟨congrArg nI (wyK_eq _ _ _ _ _ _ _ _ _), rfl, hF2⟩
        · -- not taken at 37
          refine g_iload F 6 (dk dtX0_waysBehind_0 21 rfl) rfl ?_
          refine g_aload_n F 0 (dk dtX0_waysBehind_0 22 rfl) rfl ?_
          refine g_aload_n F 1 (dk dtX0_waysBehind_0 23 rfl) rfl ?_
          refine g_aload_n F 0 (dk dtX0_waysBehind_0 24 rfl) rfl ?_
          refine g_aload_n F 1 (dk dtX0_waysBehind_0 25 rfl) rfl ?_
          refine g_aload_n F 2 (dk dtX0_waysBehind_0 26 rfl) rfl ?_
          refine g_iload F 5 (dk dtX0_waysBehind_0 27 rfl) rfl ?_
          refine g_iload F 7 (dk dtX0_waysBehind_0 28 rfl) rfl ?_
          refine g_iload F 4 (dk dtX0_waysBehind_0 29 rfl) rfl ?_
          have hR2 : NR M2 b row := hR.to (fun c h1 h2 => hF2 c (by omega))
          have hcK : (cpN M2 87 b) 10 0 = nI K := by rw [cpN_fr _ _ _ (by omega)]; exact hK2
          have hv1 : ∀ p, p < P → (cpN M2 87 b) 11 p = nv p := fun p hp => by rw [cpN_fr _ _ _ (by omega), hF2 11 (by decide)]; exact hv p hp
          have hR3 : NR (hpM (cpN M2 87 b) 87 i x P) 87 (evR nv (nI K) row i x P) := hp_NR (cpN_NR hR2) hW hM hcK hK1 hK4 (by omega) x hP5 hv1
          have hK3 : (hpM (cpN M2 87 b) 87 i x P) 10 0 = nI K := by rw [hpM_fr _ _ _ _ _ (by omega)]; exact hcK
          have hP3 : (hpM (cpN M2 87 b) 87 i x P) 10 2 = nI P := by rw [hpM_fr _ _ _ _ _ (by omega), cpN_fr _ _ _ (by omega)]; exact hP2
          have hv3 : ∀ p, p < P → (hpM (cpN M2 87 b) 87 i x P) 11 p = nv p := fun p hp => by rw [hpM_fr _ _ _ _ _ (by omega)]; exact hv1 p hp
          refine g_callVr F (As := [.ref (B + 10), .ref (B + b), .int (nI 4), .int (nI i), .int x]) (st := [.ref (B + 10), .ref (B + 69), .int (nI (wyK nv (nI K) K (nI p) x P 3 row i))]) cv_X0_46 (dk dtX0_waysBehind_0 30 rfl) (by decide) (cc69 D B _ _) rfl rfl (Nat.le_of_ble_eq_true rfl) ⟨by decide, by decide⟩ (k_X0_behind l D B _ _ b 3 hb (by decide) i (by omega) _ P hP2 hP5) (fun T53 M53 hp53 => ?_)
          obtain ⟨e2, e3⟩ := hp53
          replace e2 := e2.symm; replace e3 := e3.symm; subst e2; subst e3
          refine g_iload_n F 3 (dk dtX0_waysBehind_0 31 rfl) rfl ?_
          refine g_iload F 4 (dk dtX0_waysBehind_0 32 rfl) rfl ?_
          refine g_iload F 5 (dk dtX0_waysBehind_0 33 rfl) rfl ?_
          refine g_iconst F (nI 1) (dk dtX0_waysBehind_0 34 rfl) (by decide) ?_
          refine g_isubN F (dk dtX0_waysBehind_0 35 rfl) (by omega) ?_
          refine g_callVi F (As := [.ref (B + 10), .ref (B + 87), .int (nI p), .int x, .int (nI (4 - 1))]) (st := [.int (nI (wyK nv (nI K) K (nI p) x P 3 row i))]) cv_X0_64 (dk dtX0_waysBehind_0 36 rfl) (by decide) (cc69 D B _ _) rfl rfl (Nat.le_of_ble_eq_true rfl) ⟨by decide, by decide⟩ (k_X0_waysBehind_3 l D B _ _ 87 (isNow87 D B) (evR nv (nI K) row i x P) nv hR3 (evR_WR hW (by omega)) (evR_MW hM (by omega) x hP5) K P hK3 hP3 hK1 hK4 hP5 hv3 p hp x (by decide)) (fun r63 T63 M63 hp63 => ?_)
          obtain ⟨hr63, hT63, hF4⟩ := hp63
          replace hT63 := hT63.symm; subst hT63; replace hr63 := hr63.symm; subst hr63
          refine g_iaddN F (dk dtX0_waysBehind_0 37 rfl) ?_
          refine g_istore F [(6, .int (nI ((wyK nv (nI K) K (nI p) x P 3 row i) + (wyR nv (nI K) K (nI p) x P 3 (evR nv (nI K) row i x P))))), (0, .ref (B + 69)), (1, .ref (B + 10)), (2, .ref (B + b)), (3, .int (nI p)), (4, .int x), (5, .int (nI 4)), (7, .int (nI i))] (dk dtX0_waysBehind_0 38 rfl) (by decide) rfl ?_
          refine g_iinc F 7 (nI (i + 1)) [(7, .int (nI (i + 1))), (6, .int (nI ((wyK nv (nI K) K (nI p) x P 3 row i) + (wyR nv (nI K) K (nI p) x P 3 (evR nv (nI K) row i x P))))), (0, .ref (B + 69)), (1, .ref (B + 10)), (2, .ref (B + b)), (3, .int (nI p)), (4, .int x), (5, .int (nI 4))] (dk dtX0_waysBehind_0 39 rfl) rfl (nI_1 _) (by decide) rfl ?_
          refine g_goto F 31 (dk dtX0_waysBehind_0 40 rfl) (by decide) ?_
          refine g_sub [2, 3, 4, 5, 6, 7, 1, 0] (L1 := [(0, .ref (B + 69)), (1, .ref (B + 10)), (2, .ref (B + b)), (3, .int (nI p)), (4, .int x), (5, .int (nI 4)), (6, .int (nI ((wyK nv (nI K) K (nI p) x P 3 row i) + (wyR nv (nI K) K (nI p) x P 3 (evR nv (nI K) row i x P))))), (7, .int (nI (i + 1)))]) rfl ?_
          exact ih31 (i + 1) _ ⟨by omega, fun c hc => by rw [hF4 c (by omega), hpM_fr _ _ _ _ _ (by omega), cpN_fr _ _ _ (by omega)]; exact hF2 c hc⟩ (by omega)
    refine g_sub [2, 3, 4, 5, 6, 7, 1, 0] (L1 := [(0, .ref (B + 69)), (1, .ref (B + 10)), (2, .ref (B + b)), (3, .int (nI p)), (4, .int x), (5, .int (nI 4)), (6, .int (nI 0)), (7, .int (nI 0))]) rfl ?_
    exact lp31 (K + 1) 0 M ⟨by omega, fun c _ => rfl⟩ (by omega)
set_option maxRecDepth 100000 in
set_option maxHeartbeats 4000000 in
theorem k_X0_ways_0 (l : Launch) (D : DX) (B : Nat) (T : Int64) (M : Mem) (row nv : Nat → Int32) (hR : NR M 12 row) (hW : WR row) (hM : MW row) (K P : Nat) (hK : M 10 0 = nI K) (hP : M 10 2 = nI P) (hK1 : 1 ≤ K) (hK4 : K ≤ 4) (hP5 : P ≤ 5) (hv : ∀ p, p < P → M 11 p = nv p) (p : Nat) (hp : p < P) (x : Int32) : Ci l D B 108 (celC D B) yX0_ways cX0_ways 6 (some .int) 9 [.ref (B + 69), .ref (B + 10), .ref (B + 12), .int (nI p), .int x, .int (nI 0)] T M (fun rz T1 M1 => rz = nI (wyR nv (nI K) K (nI p) x P 0 row) ∧ T1 = T ∧ Sc M M1) := by
  refine g_entryi (L := [(0, .ref (B + 69)), (1, .ref (B + 10)), (2, .ref (B + 12)), (3, .int (nI p)), (4, .int x), (5, .int (nI 0))]) (by decide) (Nat.le_of_ble_eq_true rfl) rfl ?_
  intro zp ze zs zm zb zt zc Q F hQ
  refine g_aload_n F 0 (dk dtX0_ways_0 0 rfl) rfl ?_
  refine g_aload_n F 1 (dk dtX0_ways_0 1 rfl) rfl ?_
  refine g_aload_n F 2 (dk dtX0_ways_0 2 rfl) rfl ?_
  refine g_iload_n F 3 (dk dtX0_ways_0 3 rfl) rfl ?_
  refine g_iload F 4 (dk dtX0_ways_0 4 rfl) rfl ?_
  refine g_iload F 5 (dk dtX0_ways_0 5 rfl) rfl ?_
  refine g_callVi F (As := [.ref (B + 10), .ref (B + 12), .int (nI p), .int x, .int (nI 0)]) (st := []) cv_X0_64 (dk dtX0_ways_0 6 rfl) (by decide) (cc69 D B _ _) rfl rfl (Nat.le_of_ble_eq_true rfl) ⟨by decide, by decide⟩ (k_X0_waysBehind_0 l D B _ _ 12 (isNow12 D B) row nv hR hW hM K P hK hP hK1 hK4 hP5 hv p hp x (by decide)) (fun r8 T8 M8 hp8 => ?_)
  obtain ⟨hr8, hT8, hF4⟩ := hp8
  replace hT8 := hT8.symm; subst hT8; replace hr8 := hr8.symm; subst hr8
  refine g_iret (F := F) hQ (dk dtX0_ways_0 7 rfl) ?_
  exact ⟨rfl, rfl, fun c hc => hF4 c (by omega)⟩
set_option maxRecDepth 100000 in
set_option maxHeartbeats 4000000 in
theorem k_X0_ways_1 (l : Launch) (D : DX) (B : Nat) (T : Int64) (M : Mem) (row nv : Nat → Int32) (hR : NR M 12 row) (hW : WR row) (hM : MW row) (K P : Nat) (hK : M 10 0 = nI K) (hP : M 10 2 = nI P) (hK1 : 1 ≤ K) (hK4 : K ≤ 4) (hP5 : P ≤ 5) (hv : ∀ p, p < P → M 11 p = nv p) (p : Nat) (hp : p < P) (x : Int32) : Ci l D B 108 (celC D B) yX0_ways cX0_ways 6 (some .int) 9 [.ref (B + 69), .ref (B + 10), .ref (B + 12), .int (nI p), .int x, .int (nI 1)] T M (fun rz T1 M1 => rz = nI (wyR nv (nI K) K (nI p) x P 1 row) ∧ T1 = T ∧ Sc M M1) := by
  refine g_entryi (L := [(0, .ref (B + 69)), (1, .ref (B + 10)), (2, .ref (B + 12)), (3, .int (nI p)), (4, .int x), (5, .int (nI 1))]) (by decide) (Nat.le_of_ble_eq_true rfl) rfl ?_
  intro zp ze zs zm zb zt zc Q F hQ
  refine g_aload_n F 0 (dk dtX0_ways_0 0 rfl) rfl ?_
  refine g_aload_n F 1 (dk dtX0_ways_0 1 rfl) rfl ?_
  refine g_aload_n F 2 (dk dtX0_ways_0 2 rfl) rfl ?_
  refine g_iload_n F 3 (dk dtX0_ways_0 3 rfl) rfl ?_
  refine g_iload F 4 (dk dtX0_ways_0 4 rfl) rfl ?_
  refine g_iload F 5 (dk dtX0_ways_0 5 rfl) rfl ?_
  refine g_callVi F (As := [.ref (B + 10), .ref (B + 12), .int (nI p), .int x, .int (nI 1)]) (st := []) cv_X0_64 (dk dtX0_ways_0 6 rfl) (by decide) (cc69 D B _ _) rfl rfl (Nat.le_of_ble_eq_true rfl) ⟨by decide, by decide⟩ (k_X0_waysBehind_1 l D B _ _ 12 (isNow12 D B) row nv hR hW hM K P hK hP hK1 hK4 hP5 hv p hp x (by decide)) (fun r8 T8 M8 hp8 => ?_)
  obtain ⟨hr8, hT8, hF4⟩ := hp8
  replace hT8 := hT8.symm; subst hT8; replace hr8 := hr8.symm; subst hr8
  refine g_iret (F := F) hQ (dk dtX0_ways_0 7 rfl) ?_
  exact ⟨rfl, rfl, fun c hc => hF4 c (by omega)⟩
set_option maxRecDepth 100000 in
set_option maxHeartbeats 4000000 in
theorem k_X0_ways_2 (l : Launch) (D : DX) (B : Nat) (T : Int64) (M : Mem) (row nv : Nat → Int32) (hR : NR M 12 row) (hW : WR row) (hM : MW row) (K P : Nat) (hK : M 10 0 = nI K) (hP : M 10 2 = nI P) (hK1 : 1 ≤ K) (hK4 : K ≤ 4) (hP5 : P ≤ 5) (hv : ∀ p, p < P → M 11 p = nv p) (p : Nat) (hp : p < P) (x : Int32) : Ci l D B 108 (celC D B) yX0_ways cX0_ways 6 (some .int) 9 [.ref (B + 69), .ref (B + 10), .ref (B + 12), .int (nI p), .int x, .int (nI 2)] T M (fun rz T1 M1 => rz = nI (wyR nv (nI K) K (nI p) x P 2 row) ∧ T1 = T ∧ Sc M M1) := by
  refine g_entryi (L := [(0, .ref (B + 69)), (1, .ref (B + 10)), (2, .ref (B + 12)), (3, .int (nI p)), (4, .int x), (5, .int (nI 2))]) (by decide) (Nat.le_of_ble_eq_true rfl) rfl ?_
  intro zp ze zs zm zb zt zc Q F hQ
  refine g_aload_n F 0 (dk dtX0_ways_0 0 rfl) rfl ?_
  refine g_aload_n F 1 (dk dtX0_ways_0 1 rfl) rfl ?_
  refine g_aload_n F 2 (dk dtX0_ways_0 2 rfl) rfl ?_
  refine g_iload_n F 3 (dk dtX0_ways_0 3 rfl) rfl ?_
  refine g_iload F 4 (dk dtX0_ways_0 4 rfl) rfl ?_
  refine g_iload F 5 (dk dtX0_ways_0 5 rfl) rfl ?_
  refine g_callVi F (As := [.ref (B + 10), .ref (B + 12), .int (nI p), .int x, .int (nI 2)]) (st := []) cv_X0_64 (dk dtX0_ways_0 6 rfl) (by decide) (cc69 D B _ _) rfl rfl (Nat.le_of_ble_eq_true rfl) ⟨by decide, by decide⟩ (k_X0_waysBehind_2 l D B _ _ 12 (isNow12 D B) row nv hR hW hM K P hK hP hK1 hK4 hP5 hv p hp x (by decide)) (fun r8 T8 M8 hp8 => ?_)
  obtain ⟨hr8, hT8, hF4⟩ := hp8
  replace hT8 := hT8.symm; subst hT8; replace hr8 := hr8.symm; subst hr8
  refine g_iret (F := F) hQ (dk dtX0_ways_0 7 rfl) ?_
  exact ⟨rfl, rfl, fun c hc => hF4 c (by omega)⟩
set_option maxRecDepth 100000 in
set_option maxHeartbeats 4000000 in
theorem k_X0_ways_3 (l : Launch) (D : DX) (B : Nat) (T : Int64) (M : Mem) (row nv : Nat → Int32) (hR : NR M 12 row) (hW : WR row) (hM : MW row) (K P : Nat) (hK : M 10 0 = nI K) (hP : M 10 2 = nI P) (hK1 : 1 ≤ K) (hK4 : K ≤ 4) (hP5 : P ≤ 5) (hv : ∀ p, p < P → M 11 p = nv p) (p : Nat) (hp : p < P) (x : Int32) : Ci l D B 108 (celC D B) yX0_ways cX0_ways 6 (some .int) 9 [.ref (B + 69), .ref (B + 10), .ref (B + 12), .int (nI p), .int x, .int (nI 3)] T M (fun rz T1 M1 => rz = nI (wyR nv (nI K) K (nI p) x P 3 row) ∧ T1 = T ∧ Sc M M1) := by
  refine g_entryi (L := [(0, .ref (B + 69)), (1, .ref (B + 10)), (2, .ref (B + 12)), (3, .int (nI p)), (4, .int x), (5, .int (nI 3))]) (by decide) (Nat.le_of_ble_eq_true rfl) rfl ?_
  intro zp ze zs zm zb zt zc Q F hQ
  refine g_aload_n F 0 (dk dtX0_ways_0 0 rfl) rfl ?_
  refine g_aload_n F 1 (dk dtX0_ways_0 1 rfl) rfl ?_
  refine g_aload_n F 2 (dk dtX0_ways_0 2 rfl) rfl ?_
  refine g_iload_n F 3 (dk dtX0_ways_0 3 rfl) rfl ?_
  refine g_iload F 4 (dk dtX0_ways_0 4 rfl) rfl ?_
  refine g_iload F 5 (dk dtX0_ways_0 5 rfl) rfl ?_
  refine g_callVi F (As := [.ref (B + 10), .ref (B + 12), .int (nI p), .int x, .int (nI 3)]) (st := []) cv_X0_64 (dk dtX0_ways_0 6 rfl) (by decide) (cc69 D B _ _) rfl rfl (Nat.le_of_ble_eq_true rfl) ⟨by decide, by decide⟩ (k_X0_waysBehind_3 l D B _ _ 12 (isNow12 D B) row nv hR hW hM K P hK hP hK1 hK4 hP5 hv p hp x (by decide)) (fun r8 T8 M8 hp8 => ?_)
  obtain ⟨hr8, hT8, hF4⟩ := hp8
  replace hT8 := hT8.symm; subst hT8; replace hr8 := hr8.symm; subst hr8
  refine g_iret (F := F) hQ (dk dtX0_ways_0 7 rfl) ?_
  exact ⟨rfl, rfl, fun c hc => hF4 c (by omega)⟩
set_option maxRecDepth 100000 in
set_option maxHeartbeats 4000000 in
theorem k_X0_ways_4 (l : Launch) (D : DX) (B : Nat) (T : Int64) (M : Mem) (row nv : Nat → Int32) (hR : NR M 12 row) (hW : WR row) (hM : MW row) (K P : Nat) (hK : M 10 0 = nI K) (hP : M 10 2 = nI P) (hK1 : 1 ≤ K) (hK4 : K ≤ 4) (hP5 : P ≤ 5) (hv : ∀ p, p < P → M 11 p = nv p) (p : Nat) (hp : p < P) (x : Int32) : Ci l D B 108 (celC D B) yX0_ways cX0_ways 6 (some .int) 9 [.ref (B + 69), .ref (B + 10), .ref (B + 12), .int (nI p), .int x, .int (nI 4)] T M (fun rz T1 M1 => rz = nI (wyR nv (nI K) K (nI p) x P 4 row) ∧ T1 = T ∧ Sc M M1) := by
  refine g_entryi (L := [(0, .ref (B + 69)), (1, .ref (B + 10)), (2, .ref (B + 12)), (3, .int (nI p)), (4, .int x), (5, .int (nI 4))]) (by decide) (Nat.le_of_ble_eq_true rfl) rfl ?_
  intro zp ze zs zm zb zt zc Q F hQ
  refine g_aload_n F 0 (dk dtX0_ways_0 0 rfl) rfl ?_
  refine g_aload_n F 1 (dk dtX0_ways_0 1 rfl) rfl ?_
  refine g_aload_n F 2 (dk dtX0_ways_0 2 rfl) rfl ?_
  refine g_iload_n F 3 (dk dtX0_ways_0 3 rfl) rfl ?_
  refine g_iload F 4 (dk dtX0_ways_0 4 rfl) rfl ?_
  refine g_iload F 5 (dk dtX0_ways_0 5 rfl) rfl ?_
  refine g_callVi F (As := [.ref (B + 10), .ref (B + 12), .int (nI p), .int x, .int (nI 4)]) (st := []) cv_X0_64 (dk dtX0_ways_0 6 rfl) (by decide) (cc69 D B _ _) rfl rfl (Nat.le_of_ble_eq_true rfl) ⟨by decide, by decide⟩ (k_X0_waysBehind_4 l D B _ _ 12 (isNow12 D B) row nv hR hW hM K P hK hP hK1 hK4 hP5 hv p hp x (by decide)) (fun r8 T8 M8 hp8 => ?_)
  obtain ⟨hr8, hT8, hF4⟩ := hp8
  replace hT8 := hT8.symm; subst hT8; replace hr8 := hr8.symm; subst hr8
  refine g_iret (F := F) hQ (dk dtX0_ways_0 7 rfl) ?_
  exact ⟨rfl, rfl, fun c hc => hF4 c (by omega)⟩
