def putn (u row : Nat → Int32) (d n : Nat) : Nat → Int32 := fun j => if d ≤ j ∧ j < d + n then row (j - d) else u j
theorem putn_0 {M : Mem} {k : Nat} {u : Nat → Int32} (hu : M k = u) (row : Nat → Int32) (d : Nat) : M = setR M k (putn u row d 0) := by
  subst hu
  funext i
  by_cases h : i = k
  · subst h
    rw [setR_self]
    funext j
    simp only [putn]
    rw [if_neg (by omega)]
  · rw [setR_ne _ _ h]
theorem putn_s (u row : Nat → Int32) (d n : Nat) : upd (putn u row d n) (d + n) (row n) = putn u row d (n + 1) := by
  funext j
  by_cases h : j = d + n
  · subst h
    simp only [upd, putn, if_true]
    rw [if_pos (by omega), show d + n - d = n by omega]
  · simp only [upd, putn, if_neg h]
    by_cases h2 : d ≤ j ∧ j < d + n
    · rw [if_pos h2, if_pos (by omega)]
    · rw [if_neg h2, if_neg (by omega)]
def shn (u : Nat → Int32) (n : Nat) : Nat → Int32 := fun j => if j < n then u (j + 31) else u j
theorem shn_0 (M : Mem) (k : Nat) : M = setR M k (shn (M k) 0) := by
  funext i
  by_cases h : i = k
  · subst h
    rw [setR_self]
    funext j
    simp [shn]
  · rw [setR_ne _ _ h]
theorem shn_hi (u : Nat → Int32) {n j : Nat} (h : n ≤ j) : shn u n j = u j := by simp [shn, Nat.not_lt.mpr h]
theorem shn_s (u : Nat → Int32) (n : Nat) : upd (shn u n) n (u (n + 31)) = shn u (n + 1) := by
  funext j
  by_cases h : j = n
  · subst h; simp [upd, shn]
  · by_cases h2 : j < n
    · simp [upd, shn, h, h2, Nat.lt_succ_of_lt h2]
    · simp [upd, shn, h, h2, show ¬ j < n + 1 by omega]
def kb (M : Mem) (U : Nat) : Mem := if U = 10 then up2 (setR (up2 (setR M 9 (shn (M 9) 279)) 0 18 (nI 9)) 9 (putn (shn (M 9) 279) (M 5) 279 31)) 0 18 (nI 10) else up2 (setR M 9 (putn (M 9) (M 5) (31 * U) 31)) 0 18 (nI (U + 1))
theorem kb_fr (M : Mem) (U : Nat) {c : Nat} (h : c ≠ 0 ∧ c ≠ 9) : kb M U c = M c := by
  unfold kb
  split
  · rw [up2_ne _ _ h.1, setR_ne _ _ h.2, up2_ne _ _ h.1, setR_ne _ _ h.2]
  · rw [up2_ne _ _ h.1, setR_ne _ _ h.2]
def tlR (row : Nat → Int32) (p k : Nat) : Nat → Int32 := upd row (5 + 4 * p + k) (row (5 + 4 * p + k) + (if row (5 + 4 * p + k) < nI 999 then nI 1 else nI 0))
theorem tlR_n1 {row : Nat → Int32} {p k : Nat} (h : nI 999 ≤ row (5 + 4 * p + k)) : row (5 + 4 * p + k) + nI 0 = tlR row p k (5 + 4 * p + k) := by
  simp only [tlR, upd, if_true]
  rw [if_neg (Int32.not_lt.mpr h)]
theorem tlR_y1 {row : Nat → Int32} {p k : Nat} (h : ¬ nI 999 ≤ row (5 + 4 * p + k)) : row (5 + 4 * p + k) + nI 1 = tlR row p k (5 + 4 * p + k) := by
  simp only [tlR, upd, if_true]
  rw [if_pos (Int32.not_le.mp h)]
theorem tlR_nM (M : Mem) (U : Nat) {p k : Nat} (h : nI 999 ≤ M 5 (5 + 4 * p + k)) : up2 (kb M U) 5 (5 + 4 * p + k) (M 5 (5 + 4 * p + k) + nI 0) = setR (kb M U) 5 (tlR (M 5) p k) := by
  unfold up2
  rw [kb_fr M U (by decide)]
  simp only [tlR]
  rw [if_neg (Int32.not_lt.mpr h)]
theorem tlR_yM (M : Mem) (U : Nat) {p k : Nat} (h : ¬ nI 999 ≤ M 5 (5 + 4 * p + k)) : up2 (kb M U) 5 (5 + 4 * p + k) (M 5 (5 + 4 * p + k) + nI 1) = setR (kb M U) 5 (tlR (M 5) p k) := by
  unfold up2
  rw [kb_fr M U (by decide)]
  simp only [tlR]
  rw [if_pos (Int32.not_le.mp h)]
theorem cpU_0 (M : Mem) (U : Nat) : up2 M 0 18 (nI U) = setR (up2 M 0 18 (nI U)) 5 (cpR (fun j => M 9 (31 * U + j)) (M 5) 0) := by
  funext i
  by_cases h : i = 5
  · subst h
    rw [setR_self, up2_ne _ _ (by decide)]
    funext j
    simp [cpR]
  · rw [setR_ne _ _ h]
theorem cpB_0 (M : Mem) (g : Nat) : M = setR M 5 (cpR (fun j => M 7 (31 * g + j)) (M 5) 0) := by
  funext i
  by_cases h : i = 5
  · subst h
    rw [setR_self]
    funext j
    simp [cpR]
  · rw [setR_ne _ _ h]
def Sm (M M1 : Mem) : Prop := ∀ i, i ≠ 6 → i ≠ 13 → M1 i = M i
theorem WR_upd {row : Nat → Int32} (h : WR row) {i : Nat} {v : Int32} (hv : (i < 5 ∨ 25 ≤ i) ∨ ∃ s : Nat, s ≤ 999 ∧ v = nI s) : WR (upd row i v) := by
  intro j hj
  by_cases hi : 5 + j = i
  · rcases hv with hv | ⟨s, hs, e⟩
    · omega
    · exact ⟨s, hs, by simp [upd, hi, e]⟩
  · obtain ⟨s, hs, e⟩ := h j hj
    exact ⟨s, hs, by simp [upd, hi, e]⟩
theorem e2_WR {R1 : Nat → Int32} (h : WR R1) {k : Nat} (hk : k < 4) (x : Int32) (n : Nat) : WR (e2 R1 k x n) := by
  induction n with
  | zero => exact h
  | succ n ih =>
    simp only [e2]
    apply WR_upd ih
    by_cases hn : 4 * n + k < 20
    · right
      obtain ⟨s, hs, e⟩ := ih (4 * n + k) hn
      rw [show 5 + 4 * n + k = 5 + (4 * n + k) by omega, e]
      split
      · rename_i hc
        have := (nI_ltI (by omega) (by omega)).mp hc.2
        exact ⟨s + 1, by omega, by rw [nI_add]⟩
      · exact ⟨s, hs, by rw [nI_add]; rfl⟩
    · left
      omega
theorem e1_WR {row : Nat → Int32} (h : WR row) (f : Int32) : WR (e1 row f) := by
  unfold e1
  split
  · exact h
  · exact WR_upd (WR_upd h (Or.inl (by omega))) (Or.inl (by omega))
theorem evR_WR {nv : Nat → Int32} {Kv : Int32} {row : Nat → Int32} (h : WR row) {k : Nat} (hk : k < 4) {x : Int32} {P : Nat} : WR (evR nv Kv row k x P) := e2_WR (e1_WR h _) hk x P
def stA (nv : Nat → Int32) (Kv : Int32) (k : Nat) (x : Int32) (P : Nat) : (Nat → Int32) → Nat → Nat → Int32
  | _, _, 0 => -9
  | row, n, f + 1 => if (eF nv Kv row k x P).1 = 0 then nI n else stA nv Kv k x P (evR nv Kv row k x P) (n + 1) f
theorem stA_s {nv : Nat → Int32} {Kv : Int32} {k : Nat} {x : Int32} {P : Nat} {row : Nat → Int32} {i : Nat} {v : Int32} (hi : i < 100) (hc : ¬ (eF nv Kv row k x P).1 = 0) (h : stA nv Kv k x P row i (100 - i) = v) : stA nv Kv k x P (evR nv Kv row k x P) (i + 1) (100 - (i + 1)) = v := by
  rw [show 100 - i = (100 - (i + 1)) + 1 by omega] at h
  simp only [stA] at h
  rwa [if_neg hc] at h
theorem stA_hit {nv : Nat → Int32} {Kv : Int32} {k : Nat} {x : Int32} {P : Nat} {row : Nat → Int32} {i : Nat} {v : Int32} (hi : i < 100) (hc : (eF nv Kv row k x P).1 = 0) (h : stA nv Kv k x P row i (100 - i) = v) : v = nI i := by
  rw [show 100 - i = (100 - (i + 1)) + 1 by omega] at h
  simp only [stA] at h
  rw [if_pos hc] at h
  exact h.symm
set_option maxRecDepth 100000 in
set_option maxHeartbeats 4000000 in
theorem k_X7_keeps_lt (l : Launch) (D : DX) (B : Nat) (T : Int64) (M : Mem) (U : Nat) (hU : M 0 18 = nI U) (hU9 : U < 10) : Cv l D B 14 (celM D B) yX7_keepsBefore cX7_keepsBefore 2 none 0 [.ref (B + 0)] T M (fun T1 M1 => T1 = T ∧ M1 = up2 (setR M 9 (putn (M 9) (M 5) (31 * U) 31)) 0 18 (nI (U + 1))) := by
  refine g_entryv (L := [(0, .ref (B + 0))]) (by decide) (Nat.le_of_ble_eq_true rfl) rfl ?_
  intro zp ze zs zm zb zt zc Q F hQ
  refine g_aload_n F 0 (dk dtX7_keepsBefore_0 0 rfl) rfl ?_
  refine g_get F fa_X7_122 (dk dtX7_keepsBefore_0 1 rfl) (by decide) (cm0 D B _ _) rfl ?_
  refine g_top hU ?_
  refine g_bipush F (nI 10) (dk dtX7_keepsBefore_0 2 rfl) (by decide) ?_
  refine g_icmp_neN F 45 (dk dtX7_keepsBefore_0 3 rfl) (by decide) (by omega) (by omega) (fun c6 => ?_) (fun c6 => ?_)
  · -- taken at 6
    refine g_iconst F (nI 0) (dk dtX7_keepsBefore_0 24 rfl) (by decide) ?_
    refine g_istore_n F [(1, .int (nI 0)), (0, .ref (B + 0))] (dk dtX7_keepsBefore_0 25 rfl) (by decide) rfl ?_
    have lp47 : ∀ (fz : Nat) (i : Nat), i ≤ 31 → (31 - i) < fz → G zp l ze { frames := 0, cells := 0, slots := 0, locals := 40 * 0 } zs zm [.ref (B + 0)].toArray zb zt zc 2 D B 14 (celM D B) Q T (setR M 9 (putn (M 9) (M 5) (31 * U) i)) 47 [(0, .ref (B + 0)), (1, .int (nI i))] [] := by
      intro n47
      induction n47 with
      | zero => intro i hI hn; exact absurd hn (Nat.not_lt_zero _)
      | succ n47 ih47 =>
        intro i hI47 hn47
        refine g_iload_n F 1 (dk dtX7_keepsBefore_0 26 rfl) rfl ?_
        refine g_bipush F (nI 31) (dk dtX7_keepsBefore_0 27 rfl) (by decide) ?_
        refine g_icmp_geN F 79 (dk dtX7_keepsBefore_0 28 rfl) (by decide) (by omega) (by omega) (fun c50 => ?_) (fun c50 => ?_)
        · -- taken at 50
          obtain rfl : 31 = i := by omega
          refine g_aload_n F 0 (dk dtX7_keepsBefore_0 44 rfl) rfl ?_
          refine g_dup F (dk dtX7_keepsBefore_0 45 rfl) rfl ?_
          refine g_get F fa_X7_122 (dk dtX7_keepsBefore_0 46 rfl) (by decide) (cm0 D B _ _) rfl ?_
          refine g_top (congrFun (setR_ne _ _ (by decide)) _) ?_
          refine g_top hU ?_
          refine g_iconst F (nI 1) (dk dtX7_keepsBefore_0 47 rfl) (by decide) ?_
          refine g_iaddN F (dk dtX7_keepsBefore_0 48 rfl) ?_
          refine g_put F fa_X7_122 (dk dtX7_keepsBefore_0 49 rfl) (by decide) (cm0 D B _ _) (Nat.le_of_ble_eq_true rfl) rfl rfl ((cm0 D B _ _).trans st_Mod_18) ?_
          refine g_vret (F := F) hQ (dk dtX7_keepsBefore_0 50 rfl) ?_
          exact ⟨rfl, rfl⟩
        · -- not taken at 50
          refine g_aload_n F 0 (dk dtX7_keepsBefore_0 29 rfl) rfl ?_
          refine g_get F fa_X7_35 (dk dtX7_keepsBefore_0 30 rfl) (by decide) (cm0 D B _ _) rfl ?_
          refine g_bipush F (nI 31) (dk dtX7_keepsBefore_0 31 rfl) (by decide) ?_
          refine g_aload_n F 0 (dk dtX7_keepsBefore_0 32 rfl) rfl ?_
          refine g_get F fa_X7_122 (dk dtX7_keepsBefore_0 33 rfl) (by decide) (cm0 D B _ _) rfl ?_
          refine g_top (congrFun (setR_ne _ _ (by decide)) _) ?_
          refine g_top hU ?_
          refine g_imulN F (dk dtX7_keepsBefore_0 34 rfl) ?_
          refine g_iload_n F 1 (dk dtX7_keepsBefore_0 35 rfl) rfl ?_
          refine g_iaddN F (dk dtX7_keepsBefore_0 36 rfl) ?_
          refine g_aload_n F 0 (dk dtX7_keepsBefore_0 37 rfl) rfl ?_
          refine g_get F fa_X7_22 (dk dtX7_keepsBefore_0 38 rfl) (by decide) (cm0 D B _ _) rfl ?_
          refine g_iload_n F 1 (dk dtX7_keepsBefore_0 39 rfl) rfl ?_
          refine g_iald F (i) (dk dtX7_keepsBefore_0 40 rfl) (by decide) (cm5 D B _ _) (by omega) (by decide) ?_
          refine g_top (congrFun (setR_ne _ _ (by decide)) _) ?_
          refine g_iast F ((31 * U) + i) (dk dtX7_keepsBefore_0 41 rfl) (by decide) (fun r => cm9 D B _ r) (by omega) (by decide) ?_
          refine g_iinc F 1 (nI (i + 1)) [(1, .int (nI (i + 1))), (0, .ref (B + 0))] (dk dtX7_keepsBefore_0 42 rfl) rfl (nI_1 _) (by decide) rfl ?_
          refine g_goto F 47 (dk dtX7_keepsBefore_0 43 rfl) (by decide) ?_
          refine g_sub [1, 0] (L1 := [(0, .ref (B + 0)), (1, .int (nI (i + 1)))]) rfl ?_
          refine g_st (M1 := setR M 9 (putn (M 9) (M 5) (31 * U) (i + 1))) (L1 := [(0, .ref (B + 0)), (1, .int (nI (i + 1)))]) (by rw [up2_setR]; exact congrArg (setR M 9) (putn_s _ _ _ _)) rfl rfl ?_
          exact ih47 (i + 1) (by omega) (by omega)
    refine g_sub [1, 0] (L1 := [(0, .ref (B + 0)), (1, .int (nI 0))]) rfl ?_
    exact g_mem (putn_0 rfl _ _) (lp47 32 0 (by omega) (by omega))
  · -- not taken at 6
    exact absurd c6 (by omega)
set_option maxRecDepth 100000 in
set_option maxHeartbeats 4000000 in
theorem k_X7_keeps_10 (l : Launch) (D : DX) (B : Nat) (T : Int64) (M : Mem) (hU : M 0 18 = nI 10) : Cv l D B 14 (celM D B) yX7_keepsBefore cX7_keepsBefore 2 none 0 [.ref (B + 0)] T M (fun T1 M1 => T1 = T ∧ M1 = up2 (setR (up2 (setR M 9 (shn (M 9) 279)) 0 18 (nI 9)) 9 (putn (shn (M 9) 279) (M 5) 279 31)) 0 18 (nI 10)) := by
  refine g_entryv (L := [(0, .ref (B + 0))]) (by decide) (Nat.le_of_ble_eq_true rfl) rfl ?_
  intro zp ze zs zm zb zt zc Q F hQ
  refine g_aload_n F 0 (dk dtX7_keepsBefore_0 0 rfl) rfl ?_
  refine g_get F fa_X7_122 (dk dtX7_keepsBefore_0 1 rfl) (by decide) (cm0 D B _ _) rfl ?_
  refine g_top hU ?_
  refine g_bipush F (nI 10) (dk dtX7_keepsBefore_0 2 rfl) (by decide) ?_
  refine g_icmp_neN F 45 (dk dtX7_keepsBefore_0 3 rfl) (by decide) (by decide) (by decide) (fun c => absurd c (by decide)) (fun _ => ?_)
  refine g_iconst F (nI 0) (dk dtX7_keepsBefore_0 4 rfl) (by decide) ?_
  refine g_istore_n F [(1, .int (nI 0)), (0, .ref (B + 0))] (dk dtX7_keepsBefore_0 5 rfl) (by decide) rfl ?_
  have lp11 : ∀ (fz : Nat) (i : Nat), i ≤ 279 → (279 - i) < fz → G zp l ze { frames := 0, cells := 0, slots := 0, locals := 40 * 0 } zs zm [.ref (B + 0)].toArray zb zt zc 2 D B 14 (celM D B) Q T (setR M 9 (shn (M 9) i)) 11 [(0, .ref (B + 0)), (1, .int (nI i))] [] := by
    intro n11
    induction n11 with
    | zero => intro i hI hn; exact absurd hn (Nat.not_lt_zero _)
    | succ n11 ih11 =>
      intro i hI11 hn11
      refine g_iload_n F 1 (dk dtX7_keepsBefore_0 6 rfl) rfl ?_
      refine g_sipush F (nI 279) (dk dtX7_keepsBefore_0 7 rfl) (by decide) ?_
      refine g_icmp_geN F 39 (dk dtX7_keepsBefore_0 8 rfl) (by decide) (by omega) (by omega) (fun c15 => ?_) (fun c15 => ?_)
      · -- taken at 15
        obtain rfl : 279 = i := by omega
        refine g_aload_n F 0 (dk dtX7_keepsBefore_0 21 rfl) rfl ?_
        refine g_bipush F (nI 9) (dk dtX7_keepsBefore_0 22 rfl) (by decide) ?_
        refine g_put F fa_X7_122 (dk dtX7_keepsBefore_0 23 rfl) (by decide) (cm0 D B _ _) (Nat.le_of_ble_eq_true rfl) rfl rfl ((cm0 D B _ _).trans st_Mod_18) ?_
        refine g_iconst F (nI 0) (dk dtX7_keepsBefore_0 24 rfl) (by decide) ?_
        refine g_istore_n F [(1, .int (nI 0)), (0, .ref (B + 0))] (dk dtX7_keepsBefore_0 25 rfl) (by decide) rfl ?_
        have lp47 : ∀ (fz : Nat) (i : Nat), i ≤ 31 → (31 - i) < fz → G zp l ze { frames := 0, cells := 0, slots := 0, locals := 40 * 0 } zs zm [.ref (B + 0)].toArray zb zt zc 2 D B 14 (celM D B) Q T (setR (up2 (setR M 9 (shn (M 9) 279)) 0 18 (nI 9)) 9 (putn (shn (M 9) 279) (M 5) 279 i)) 47 [(0, .ref (B + 0)), (1, .int (nI i))] [] := by
          intro n47
          induction n47 with
          | zero => intro i hI hn; exact absurd hn (Nat.not_lt_zero _)
          | succ n47 ih47 =>
            intro i hI47 hn47
            refine g_iload_n F 1 (dk dtX7_keepsBefore_0 26 rfl) rfl ?_
            refine g_bipush F (nI 31) (dk dtX7_keepsBefore_0 27 rfl) (by decide) ?_
            refine g_icmp_geN F 79 (dk dtX7_keepsBefore_0 28 rfl) (by decide) (by omega) (by omega) (fun c50 => ?_) (fun c50 => ?_)
            · -- taken at 50
              obtain rfl : 31 = i := by omega
              refine g_aload_n F 0 (dk dtX7_keepsBefore_0 44 rfl) rfl ?_
              refine g_dup F (dk dtX7_keepsBefore_0 45 rfl) rfl ?_
              refine g_get F fa_X7_122 (dk dtX7_keepsBefore_0 46 rfl) (by decide) (cm0 D B _ _) rfl ?_
              refine g_top (congrFun (setR_ne _ _ (by decide)) _) ?_
              refine g_top ((congrFun (up2_self _ _ _ _) _).trans pk_us) ?_
              refine g_iconst F (nI 1) (dk dtX7_keepsBefore_0 47 rfl) (by decide) ?_
              refine g_iaddN F (dk dtX7_keepsBefore_0 48 rfl) ?_
              refine g_put F fa_X7_122 (dk dtX7_keepsBefore_0 49 rfl) (by decide) (cm0 D B _ _) (Nat.le_of_ble_eq_true rfl) rfl rfl ((cm0 D B _ _).trans st_Mod_18) ?_
              refine g_vret (F := F) hQ (dk dtX7_keepsBefore_0 50 rfl) ?_
              exact ⟨rfl, rfl⟩
            · -- not taken at 50
              refine g_aload_n F 0 (dk dtX7_keepsBefore_0 29 rfl) rfl ?_
              refine g_get F fa_X7_35 (dk dtX7_keepsBefore_0 30 rfl) (by decide) (cm0 D B _ _) rfl ?_
              refine g_bipush F (nI 31) (dk dtX7_keepsBefore_0 31 rfl) (by decide) ?_
              refine g_aload_n F 0 (dk dtX7_keepsBefore_0 32 rfl) rfl ?_
              refine g_get F fa_X7_122 (dk dtX7_keepsBefore_0 33 rfl) (by decide) (cm0 D B _ _) rfl ?_
              refine g_top (congrFun (setR_ne _ _ (by decide)) _) ?_
              refine g_top ((congrFun (up2_self _ _ _ _) _).trans pk_us) ?_
              refine g_imulN F (dk dtX7_keepsBefore_0 34 rfl) ?_
              refine g_iload_n F 1 (dk dtX7_keepsBefore_0 35 rfl) rfl ?_
              refine g_iaddN F (dk dtX7_keepsBefore_0 36 rfl) ?_
              refine g_aload_n F 0 (dk dtX7_keepsBefore_0 37 rfl) rfl ?_
              refine g_get F fa_X7_22 (dk dtX7_keepsBefore_0 38 rfl) (by decide) (cm0 D B _ _) rfl ?_
              refine g_iload_n F 1 (dk dtX7_keepsBefore_0 39 rfl) rfl ?_
              refine g_iald F (i) (dk dtX7_keepsBefore_0 40 rfl) (by decide) (cm5 D B _ _) (by omega) (by decide) ?_
              refine g_top (congrFun (setR_ne _ _ (by decide)) _) ?_
              refine g_top (congrFun (up2_ne _ _ (by decide)) _) ?_
              refine g_top (congrFun (setR_ne _ _ (by decide)) _) ?_
              refine g_iast F ((31 * 9) + i) (dk dtX7_keepsBefore_0 41 rfl) (by decide) (fun r => cm9 D B _ r) (by omega) (by decide) ?_
              refine g_iinc F 1 (nI (i + 1)) [(1, .int (nI (i + 1))), (0, .ref (B + 0))] (dk dtX7_keepsBefore_0 42 rfl) rfl (nI_1 _) (by decide) rfl ?_
              refine g_goto F 47 (dk dtX7_keepsBefore_0 43 rfl) (by decide) ?_
              refine g_sub [1, 0] (L1 := [(0, .ref (B + 0)), (1, .int (nI (i + 1)))]) rfl ?_
              refine g_st (M1 := setR (up2 (setR M 9 (shn (M 9) 279)) 0 18 (nI 9)) 9 (putn (shn (M 9) 279) (M 5) 279 (i + 1))) (L1 := [(0, .ref (B + 0)), (1, .int (nI (i + 1)))]) (by rw [up2_setR]; exact congrArg (setR _ 9) (putn_s _ _ 279 _)) rfl rfl ?_
              exact ih47 (i + 1) (by omega) (by omega)
        refine g_sub [1, 0] (L1 := [(0, .ref (B + 0)), (1, .int (nI 0))]) rfl ?_
        exact g_mem (putn_0 ((up2_ne _ _ (by decide)).trans (setR_self _ _ _)) _ _) (lp47 32 0 (by omega) (by omega))
      · -- not taken at 15
        refine g_aload_n F 0 (dk dtX7_keepsBefore_0 9 rfl) rfl ?_
        refine g_get F fa_X7_35 (dk dtX7_keepsBefore_0 10 rfl) (by decide) (cm0 D B _ _) rfl ?_
        refine g_iload_n F 1 (dk dtX7_keepsBefore_0 11 rfl) rfl ?_
        refine g_aload_n F 0 (dk dtX7_keepsBefore_0 12 rfl) rfl ?_
        refine g_get F fa_X7_35 (dk dtX7_keepsBefore_0 13 rfl) (by decide) (cm0 D B _ _) rfl ?_
        refine g_iload_n F 1 (dk dtX7_keepsBefore_0 14 rfl) rfl ?_
        refine g_bipush F (nI 31) (dk dtX7_keepsBefore_0 15 rfl) (by decide) ?_
        refine g_iaddN F (dk dtX7_keepsBefore_0 16 rfl) ?_
        refine g_iald F (i + 31) (dk dtX7_keepsBefore_0 17 rfl) (by decide) (cm9 D B _ _) (by omega) (by decide) ?_
        refine g_top (congrFun (setR_self _ _ _) _) ?_
        refine g_top (shn_hi _ (by omega)) ?_
        refine g_iast F (i) (dk dtX7_keepsBefore_0 18 rfl) (by decide) (fun r => cm9 D B _ r) (by omega) (by decide) ?_
        refine g_iinc F 1 (nI (i + 1)) [(1, .int (nI (i + 1))), (0, .ref (B + 0))] (dk dtX7_keepsBefore_0 19 rfl) rfl (nI_1 _) (by decide) rfl ?_
        refine g_goto F 11 (dk dtX7_keepsBefore_0 20 rfl) (by decide) ?_
        refine g_sub [1, 0] (L1 := [(0, .ref (B + 0)), (1, .int (nI (i + 1)))]) rfl ?_
        refine g_st (M1 := setR M 9 (shn (M 9) (i + 1))) (L1 := [(0, .ref (B + 0)), (1, .int (nI (i + 1)))]) (by rw [up2_setR]; exact congrArg (setR M 9) (shn_s _ _)) rfl rfl ?_
        exact ih11 (i + 1) (by omega) (by omega)
  refine g_sub [1, 0] (L1 := [(0, .ref (B + 0)), (1, .int (nI 0))]) rfl ?_
  exact g_mem (shn_0 _ _) (lp11 280 0 (by omega) (by omega))
theorem k_X7_keepsBefore (l : Launch) (D : DX) (B : Nat) (T : Int64) (M : Mem) (U : Nat) (hU : M 0 18 = nI U) (hU10 : U ≤ 10) : Cv l D B 14 (celM D B) yX7_keepsBefore cX7_keepsBefore 2 none 0 [.ref (B + 0)] T M (fun T1 M1 => T1 = T ∧ M1 = kb M U) := by
  by_cases h : U = 10
  · subst h
    have h1 := k_X7_keeps_10 l D B T M hU
    simpa only [kb, if_true] using h1
  · have h1 := k_X7_keeps_lt l D B T M U hU (by omega)
    simpa only [kb, if_neg h] using h1
theorem k_X7_eventR (l : Launch) (D : DX) (B : Nat) (T : Int64) (M : Mem) (c : Nat) (hc : IsRow D B c) (k : Nat) (hk : k < 4) (x : Int32) (nv : Nat → Int32) (Kv : Int32) (row : Nat → Int32) (h3 : M 3 = nv) (h2 : M 2 0 = Kv) (hr : M c = row) (K P : Nat) (hK : Kv = nI K) (hP : M 2 2 = nI P) (hK1 : 1 ≤ K) (hK4 : K ≤ 4) (hP5 : P ≤ 5) (hW : WR row) : Ci l D B 14 (celM D B) yX7_event cX7_event 9 (some .int) 2 [.ref (B + 0), .ref (B + c), .int (nI k), .int x] T M (fun r T1 M1 => r = (eF nv Kv row k x P).1 ∧ T1 = T ∧ M1 = setR M c (evR nv Kv row k x P)) := by
  subst h3 h2 hr
  exact k_X7_event l D B T M c hc k hk x K P hK hP hK1 hK4 hP5 hW
theorem k_X7_mayorOfR (l : Launch) (D : DX) (B : Nat) (T : Int64) (M : Mem) (c : Nat) (hc : IsRow D B c) (row : Nat → Int32) (hr : M c = row) : Ci l D B 14 (celM D B) yX7_mayorOf cX7_mayorOf 1 (some .int) 0 [.ref (B + c)] T M (fun r T1 M1 => r = moR row ∧ T1 = T ∧ M1 = M) := by
  subst hr
  exact k_X7_mayorOf l D B T M c hc
set_option maxRecDepth 100000 in
set_option maxHeartbeats 4000000 in
theorem k_X7_happens (l : Launch) (D : DX) (B : Nat) (T : Int64) (M : Mem) (h0 : M 0 0 = nI 0) (P : Nat) (hP : M 2 2 = nI P) (hP5 : P ≤ 5) (K : Nat) (hK : M 2 0 = nI K) (hK1 : 1 ≤ K) (hK4 : K ≤ 4) (X : Nat) (hX : M 2 1 = nI X) (hX1 : 1 ≤ X) (hX4 : X ≤ 4) (k x : Nat) (hk : k < K) (hx : x < X) (hW : WR (M 5)) (U : Nat) (hU : M 0 18 = nI U) (hU10 : U ≤ 10)  : Ci l D B 14 (celM D B) yX7_happens cX7_happens 3 (some .int) 3 [.ref (B + 0), .int (nI k), .int (nI x)] T M (fun r T1 M1 => r = (eF (M 3) (M 2 0) (M 5) k (nI x) P).1 ∧ T1 = T ∧ M1 = setR (kb M U) 5 (evR (M 3) (M 2 0) (M 5) k (nI x) P)) := by
  refine g_entryi (L := [(0, .ref (B + 0)), (1, .int (nI k)), (2, .int (nI x))]) (by decide) (Nat.le_of_ble_eq_true rfl) rfl ?_
  intro zp ze zs zm zb zt zc Q F hQ
  refine g_aload_n F 0 (dk dtX7_happens_0 0 rfl) rfl ?_
  refine g_iconst F (nI 0) (dk dtX7_happens_0 1 rfl) (by decide) ?_
  refine g_put F fa_X7_56 (dk dtX7_happens_0 2 rfl) (by decide) (cm0 D B _ _) (Nat.le_of_ble_eq_true rfl) rfl rfl ((cm0 D B _ _).trans st_Mod_0) ?_
  refine g_mem (up2_same h0) ?_
  refine g_aload_n F 0 (dk dtX7_happens_0 3 rfl) rfl ?_
  refine g_iload_n F 1 (dk dtX7_happens_0 4 rfl) rfl ?_
  refine g_callVi F (As := [.int (nI k)]) (st := []) cv_X7_132 (dk dtX7_happens_0 5 rfl) (by decide) (cm0 D B _ _) rfl rfl (Nat.le_of_ble_eq_true rfl) ⟨by decide, by decide⟩ (k_X7_isKind l D B _ _ _ K hK (by omega)) (fun r7 T7 M7 hp7 => ?_)
  obtain ⟨e1, e2, e3⟩ := hp7
  replace e1 := e1.symm; replace e2 := e2.symm; replace e3 := e3.symm; subst e1; subst e2; subst e3
  refine g_if_eqB F 21 (dk dtX7_happens_0 6 rfl) (by decide) (fun c => absurd (inR_nI (by omega)) c) (fun _ => ?_)
  refine g_aload_n F 0 (dk dtX7_happens_0 7 rfl) rfl ?_
  refine g_iload_n F 2 (dk dtX7_happens_0 8 rfl) rfl ?_
  refine g_callVi F (As := [.int (nI x)]) (st := []) cv_X7_151 (dk dtX7_happens_0 9 rfl) (by decide) (cm0 D B _ _) rfl rfl (Nat.le_of_ble_eq_true rfl) ⟨by decide, by decide⟩ (k_X7_isPlace l D B _ _ _ X hX (by omega)) (fun r15 T15 M15 hp15 => ?_)
  obtain ⟨e1, e2, e3⟩ := hp15
  replace e1 := e1.symm; replace e2 := e2.symm; replace e3 := e3.symm; subst e1; subst e2; subst e3
  refine g_if_neB F 23 (dk dtX7_happens_0 10 rfl) (by decide) (fun _ => ?_) (fun c => absurd (inR_nI (by omega)) c)
  refine g_aload_n F 0 (dk dtX7_happens_0 13 rfl) rfl ?_
  refine g_callVv F (As := []) (st := []) cv_X7_154 (dk dtX7_happens_0 14 rfl) (by decide) (cm0 D B _ _) rfl rfl (Nat.le_of_ble_eq_true rfl) ⟨by decide, by decide⟩ (k_X7_keepsBefore l D B _ _ U hU hU10) (fun T24 M24 hp24 => ?_)
  obtain ⟨e2, e3⟩ := hp24
  replace e2 := e2.symm; replace e3 := e3.symm; subst e2; subst e3
  refine g_aload_n F 0 (dk dtX7_happens_0 15 rfl) rfl ?_
  refine g_aload_n F 0 (dk dtX7_happens_0 16 rfl) rfl ?_
  refine g_get F fa_X7_22 (dk dtX7_happens_0 17 rfl) (by decide) (cm0 D B _ _) rfl ?_
  refine g_iload_n F 1 (dk dtX7_happens_0 18 rfl) rfl ?_
  refine g_iload_n F 2 (dk dtX7_happens_0 19 rfl) rfl ?_
  refine g_callVi F (As := [.ref (B + 5), .int (nI k), .int (nI x)]) (st := []) cv_X7_157 (dk dtX7_happens_0 20 rfl) (by decide) (cm0 D B _ _) rfl rfl (Nat.le_of_ble_eq_true rfl) ⟨by decide, by decide⟩ (k_X7_eventR l D B _ _ 5 (isRow5 D B) k (by omega) (nI x) (M 3) ((M 2) 0) (M 5) (kb_fr _ _ (by decide)) (congrFun (kb_fr _ _ (by decide)) 0) (kb_fr _ _ (by decide)) K P hK ((congrFun (kb_fr _ _ (by decide)) _).trans hP) hK1 hK4 hP5 hW) (fun r34 T34 M34 hp34 => ?_)
  obtain ⟨e1, e2, e3⟩ := hp34
  replace e1 := e1.symm; replace e2 := e2.symm; replace e3 := e3.symm; subst e1; subst e2; subst e3
  refine g_iret (F := F) hQ (dk dtX7_happens_0 21 rfl) ?_
  exact ⟨rfl, rfl, rfl⟩
set_option maxRecDepth 100000 in
set_option maxHeartbeats 4000000 in
theorem k_X7_happens_bad (l : Launch) (D : DX) (B : Nat) (T : Int64) (M : Mem) (h0 : M 0 0 = nI 0) (K : Nat) (hK : M 2 0 = nI K) (hK1 : 1 ≤ K) (hK4 : K ≤ 4) (X : Nat) (hX : M 2 1 = nI X) (hX1 : 1 ≤ X) (hX4 : X ≤ 4) (k x : Int32) (hb : ¬ (inR k K ∧ inR x X)) : Ci l D B 14 (celM D B) yX7_happens cX7_happens 3 (some .int) 3 [.ref (B + 0), .int k, .int x] T M (fun rz T1 M1 => rz = (-1) ∧ T1 = T ∧ M1 = M) := by
  refine g_entryi (L := [(0, .ref (B + 0)), (1, .int k), (2, .int x)]) (by decide) (Nat.le_of_ble_eq_true rfl) rfl ?_
  intro zp ze zs zm zb zt zc Q F hQ
  refine g_aload_n F 0 (dk dtX7_happens_0 0 rfl) rfl ?_
  refine g_iconst F (nI 0) (dk dtX7_happens_0 1 rfl) (by decide) ?_
  refine g_put F fa_X7_56 (dk dtX7_happens_0 2 rfl) (by decide) (cm0 D B _ _) (Nat.le_of_ble_eq_true rfl) rfl rfl ((cm0 D B _ _).trans st_Mod_0) ?_
  refine g_mem (up2_same h0) ?_
  refine g_aload_n F 0 (dk dtX7_happens_0 3 rfl) rfl ?_
  refine g_iload_n F 1 (dk dtX7_happens_0 4 rfl) rfl ?_
  refine g_callVi F (As := [.int k]) (st := []) cv_X7_132 (dk dtX7_happens_0 5 rfl) (by decide) (cm0 D B _ _) rfl rfl (Nat.le_of_ble_eq_true rfl) ⟨by decide, by decide⟩ (k_X7_isKind l D B _ _ _ K hK (by omega)) (fun r7 T7 M7 hp7 => ?_)
  obtain ⟨e1, e2, e3⟩ := hp7
  replace e1 := e1.symm; replace e2 := e2.symm; replace e3 := e3.symm; subst e1; subst e2; subst e3
  refine g_if_eqB F 21 (dk dtX7_happens_0 6 rfl) (by decide) (fun c10 => ?_) (fun c10 => ?_)
  · -- taken at 10
    refine g_iconst F (-1) (dk dtX7_happens_0 11 rfl) (by decide) ?_
    refine g_iret (F := F) hQ (dk dtX7_happens_0 12 rfl) ?_
    exact ⟨rfl, rfl, rfl⟩
  · -- not taken at 10
    refine g_aload_n F 0 (dk dtX7_happens_0 7 rfl) rfl ?_
    refine g_iload_n F 2 (dk dtX7_happens_0 8 rfl) rfl ?_
    refine g_callVi F (As := [.int x]) (st := []) cv_X7_151 (dk dtX7_happens_0 9 rfl) (by decide) (cm0 D B _ _) rfl rfl (Nat.le_of_ble_eq_true rfl) ⟨by decide, by decide⟩ (k_X7_isPlace l D B _ _ _ X hX (by omega)) (fun r15 T15 M15 hp15 => ?_)
    obtain ⟨e1, e2, e3⟩ := hp15
    replace e1 := e1.symm; replace e2 := e2.symm; replace e3 := e3.symm; subst e1; subst e2; subst e3
    refine g_if_neB F 23 (dk dtX7_happens_0 10 rfl) (by decide) (fun c18 => ?_) (fun c18 => ?_)
    · -- taken at 18
      exact absurd ⟨c10, c18⟩ hb
    · -- not taken at 18
      refine g_iconst F (-1) (dk dtX7_happens_0 11 rfl) (by decide) ?_
      refine g_iret (F := F) hQ (dk dtX7_happens_0 12 rfl) ?_
      exact ⟨rfl, rfl, rfl⟩
set_option maxRecDepth 100000 in
set_option maxHeartbeats 4000000 in
theorem k_X7_walks_state (l : Launch) (D : DX) (B : Nat) (T : Int64) (M : Mem) (h0 : M 0 0 = nI 0) (P : Nat) (hP : M 2 2 = nI P) (hP5 : P ≤ 5) (X : Nat) (hX : M 2 1 = nI X) (hX1 : 1 ≤ X) (hX4 : X ≤ 4) (p x : Nat) (hp : p < P) (hx : x < X) (hs : M 5 p = nI x) : Ci l D B 14 (celM D B) yX7_walks cX7_walks 4 (some .int) 2 [.ref (B + 0), .int (nI p), .int (nI x)] T M (fun rz T1 M1 => rz = (-2) ∧ T1 = T ∧ M1 = M) := by
  refine g_entryi (L := [(0, .ref (B + 0)), (1, .int (nI p)), (2, .int (nI x))]) (by decide) (Nat.le_of_ble_eq_true rfl) rfl ?_
  intro zp ze zs zm zb zt zc Q F hQ
  refine g_aload_n F 0 (dk dtX7_walks_0 0 rfl) rfl ?_
  refine g_iconst F (nI 0) (dk dtX7_walks_0 1 rfl) (by decide) ?_
  refine g_put F fa_X7_56 (dk dtX7_walks_0 2 rfl) (by decide) (cm0 D B _ _) (Nat.le_of_ble_eq_true rfl) rfl rfl ((cm0 D B _ _).trans st_Mod_0) ?_
  refine g_mem (up2_same h0) ?_
  refine g_aload_n F 0 (dk dtX7_walks_0 3 rfl) rfl ?_
  refine g_iload_n F 1 (dk dtX7_walks_0 4 rfl) rfl ?_
  refine g_callVi F (As := [.int (nI p)]) (st := []) cv_X7_129 (dk dtX7_walks_0 5 rfl) (by decide) (cm0 D B _ _) rfl rfl (Nat.le_of_ble_eq_true rfl) ⟨by decide, by decide⟩ (k_X7_isOne l D B _ _ _ P hP (by omega)) (fun r7 T7 M7 hp7 => ?_)
  obtain ⟨e1, e2, e3⟩ := hp7
  replace e1 := e1.symm; replace e2 := e2.symm; replace e3 := e3.symm; subst e1; subst e2; subst e3
  refine g_if_eqB F 21 (dk dtX7_walks_0 6 rfl) (by decide) (fun c => absurd (inR_nI (by omega)) c) (fun _ => ?_)
  refine g_aload_n F 0 (dk dtX7_walks_0 7 rfl) rfl ?_
  refine g_iload_n F 2 (dk dtX7_walks_0 8 rfl) rfl ?_
  refine g_callVi F (As := [.int (nI x)]) (st := []) cv_X7_151 (dk dtX7_walks_0 9 rfl) (by decide) (cm0 D B _ _) rfl rfl (Nat.le_of_ble_eq_true rfl) ⟨by decide, by decide⟩ (k_X7_isPlace l D B _ _ _ X hX (by omega)) (fun r15 T15 M15 hp15 => ?_)
  obtain ⟨e1, e2, e3⟩ := hp15
  replace e1 := e1.symm; replace e2 := e2.symm; replace e3 := e3.symm; subst e1; subst e2; subst e3
  refine g_if_neB F 23 (dk dtX7_walks_0 10 rfl) (by decide) (fun _ => ?_) (fun c => absurd (inR_nI (by omega)) c)
  refine g_aload_n F 0 (dk dtX7_walks_0 13 rfl) rfl ?_
  refine g_get F fa_X7_22 (dk dtX7_walks_0 14 rfl) (by decide) (cm0 D B _ _) rfl ?_
  refine g_iconst F (nI 0) (dk dtX7_walks_0 15 rfl) (by decide) ?_
  refine g_iload_n F 1 (dk dtX7_walks_0 16 rfl) rfl ?_
  refine g_iadd0 F (dk dtX7_walks_0 17 rfl) ?_
  refine g_iald F (p) (dk dtX7_walks_0 18 rfl) (by decide) (cm5 D B _ _) (by omega) (by decide) ?_
  refine g_top hs ?_
  refine g_istore_n F [(3, .int (nI x)), (0, .ref (B + 0)), (1, .int (nI p)), (2, .int (nI x))] (dk dtX7_walks_0 19 rfl) (by decide) rfl ?_
  refine g_iload_n F 0 (dk dtX7_walks_0 20 rfl) rfl ?_
  refine g_iload_n F 3 (dk dtX7_walks_0 21 rfl) rfl ?_
  refine g_icmp_neN F 40 (dk dtX7_walks_0 22 rfl) (by decide) (by omega) (by omega) (fun c34 => ?_) (fun c34 => ?_)
  · -- taken at 34
    exact absurd rfl c34
  · -- not taken at 34
    refine g_bipush F (-2) (dk dtX7_walks_0 23 rfl) (by decide) ?_
    refine g_iret (F := F) hQ (dk dtX7_walks_0 24 rfl) ?_
    exact ⟨rfl, rfl, rfl⟩
set_option maxRecDepth 100000 in
set_option maxHeartbeats 4000000 in
theorem k_X7_walks (l : Launch) (D : DX) (B : Nat) (T : Int64) (M : Mem) (h0 : M 0 0 = nI 0) (P : Nat) (hP : M 2 2 = nI P) (hP5 : P ≤ 5) (X : Nat) (hX : M 2 1 = nI X) (hX1 : 1 ≤ X) (hX4 : X ≤ 4) (p x : Nat) (hp : p < P) (hx : x < X) (hs : ¬ M 5 p = nI x) (U : Nat) (hU : M 0 18 = nI U) (hU10 : U ≤ 10)  : Ci l D B 14 (celM D B) yX7_walks cX7_walks 4 (some .int) 2 [.ref (B + 0), .int (nI p), .int (nI x)] T M (fun r T1 M1 => r = M 5 p ∧ T1 = T ∧ M1 = up2 (kb M U) 5 p (nI x)) := by
  refine g_entryi (L := [(0, .ref (B + 0)), (1, .int (nI p)), (2, .int (nI x))]) (by decide) (Nat.le_of_ble_eq_true rfl) rfl ?_
  intro zp ze zs zm zb zt zc Q F hQ
  refine g_aload_n F 0 (dk dtX7_walks_0 0 rfl) rfl ?_
  refine g_iconst F (nI 0) (dk dtX7_walks_0 1 rfl) (by decide) ?_
  refine g_put F fa_X7_56 (dk dtX7_walks_0 2 rfl) (by decide) (cm0 D B _ _) (Nat.le_of_ble_eq_true rfl) rfl rfl ((cm0 D B _ _).trans st_Mod_0) ?_
  refine g_mem (up2_same h0) ?_
  refine g_aload_n F 0 (dk dtX7_walks_0 3 rfl) rfl ?_
  refine g_iload_n F 1 (dk dtX7_walks_0 4 rfl) rfl ?_
  refine g_callVi F (As := [.int (nI p)]) (st := []) cv_X7_129 (dk dtX7_walks_0 5 rfl) (by decide) (cm0 D B _ _) rfl rfl (Nat.le_of_ble_eq_true rfl) ⟨by decide, by decide⟩ (k_X7_isOne l D B _ _ _ P hP (by omega)) (fun r7 T7 M7 hp7 => ?_)
  obtain ⟨e1, e2, e3⟩ := hp7
  replace e1 := e1.symm; replace e2 := e2.symm; replace e3 := e3.symm; subst e1; subst e2; subst e3
  refine g_if_eqB F 21 (dk dtX7_walks_0 6 rfl) (by decide) (fun c => absurd (inR_nI (by omega)) c) (fun _ => ?_)
  refine g_aload_n F 0 (dk dtX7_walks_0 7 rfl) rfl ?_
  refine g_iload_n F 2 (dk dtX7_walks_0 8 rfl) rfl ?_
  refine g_callVi F (As := [.int (nI x)]) (st := []) cv_X7_151 (dk dtX7_walks_0 9 rfl) (by decide) (cm0 D B _ _) rfl rfl (Nat.le_of_ble_eq_true rfl) ⟨by decide, by decide⟩ (k_X7_isPlace l D B _ _ _ X hX (by omega)) (fun r15 T15 M15 hp15 => ?_)
  obtain ⟨e1, e2, e3⟩ := hp15
  replace e1 := e1.symm; replace e2 := e2.symm; replace e3 := e3.symm; subst e1; subst e2; subst e3
  refine g_if_neB F 23 (dk dtX7_walks_0 10 rfl) (by decide) (fun _ => ?_) (fun c => absurd (inR_nI (by omega)) c)
  refine g_aload_n F 0 (dk dtX7_walks_0 13 rfl) rfl ?_
  refine g_get F fa_X7_22 (dk dtX7_walks_0 14 rfl) (by decide) (cm0 D B _ _) rfl ?_
  refine g_iconst F (nI 0) (dk dtX7_walks_0 15 rfl) (by decide) ?_
  refine g_iload_n F 1 (dk dtX7_walks_0 16 rfl) rfl ?_
  refine g_iadd0 F (dk dtX7_walks_0 17 rfl) ?_
  refine g_iald F (p) (dk dtX7_walks_0 18 rfl) (by decide) (cm5 D B _ _) (by omega) (by decide) ?_
  refine g_istore_n F [(3, .int (M 5 p)), (0, .ref (B + 0)), (1, .int (nI p)), (2, .int (nI x))] (dk dtX7_walks_0 19 rfl) (by decide) rfl ?_
  refine g_iload_n F 0 (dk dtX7_walks_0 20 rfl) rfl ?_
  refine g_iload_n F 3 (dk dtX7_walks_0 21 rfl) rfl ?_
  refine g_icmp_ne F 40 (dk dtX7_walks_0 22 rfl) (by decide) (fun c34 => ?_) (fun c34 => ?_)
  · -- taken at 34
    refine g_aload_n F 1 (dk dtX7_walks_0 25 rfl) rfl ?_
    refine g_callVv F (As := []) (st := []) cv_X7_154 (dk dtX7_walks_0 26 rfl) (by decide) (cm0 D B _ _) rfl rfl (Nat.le_of_ble_eq_true rfl) ⟨by decide, by decide⟩ (k_X7_keepsBefore l D B _ _ U hU hU10) (fun T41 M41 hp41 => ?_)
    obtain ⟨e2, e3⟩ := hp41
    replace e2 := e2.symm; replace e3 := e3.symm; subst e2; subst e3
    refine g_aload_n F 1 (dk dtX7_walks_0 27 rfl) rfl ?_
    refine g_get F fa_X7_22 (dk dtX7_walks_0 28 rfl) (by decide) (cm0 D B _ _) rfl ?_
    refine g_iconst F (nI 0) (dk dtX7_walks_0 29 rfl) (by decide) ?_
    refine g_iload_n F 2 (dk dtX7_walks_0 30 rfl) rfl ?_
    refine g_iadd0 F (dk dtX7_walks_0 31 rfl) ?_
    refine g_iload_n F 3 (dk dtX7_walks_0 32 rfl) rfl ?_
    refine g_iast F (p) (dk dtX7_walks_0 33 rfl) (by decide) (fun r => cm5 D B _ r) (by omega) (by decide) ?_
    refine g_iload_n F 0 (dk dtX7_walks_0 34 rfl) rfl ?_
    refine g_iret (F := F) hQ (dk dtX7_walks_0 35 rfl) ?_
    exact ⟨rfl, rfl, rfl⟩
  · -- not taken at 34
    exact absurd c34 hs
set_option maxRecDepth 100000 in
set_option maxHeartbeats 4000000 in
theorem k_X7_walks_bad (l : Launch) (D : DX) (B : Nat) (T : Int64) (M : Mem) (h0 : M 0 0 = nI 0) (P : Nat) (hP : M 2 2 = nI P) (hP5 : P ≤ 5) (X : Nat) (hX : M 2 1 = nI X) (hX1 : 1 ≤ X) (hX4 : X ≤ 4) (p x : Int32) (hb : ¬ (inR p P ∧ inR x X)) : Ci l D B 14 (celM D B) yX7_walks cX7_walks 4 (some .int) 2 [.ref (B + 0), .int p, .int x] T M (fun rz T1 M1 => rz = (-1) ∧ T1 = T ∧ M1 = M) := by
  refine g_entryi (L := [(0, .ref (B + 0)), (1, .int p), (2, .int x)]) (by decide) (Nat.le_of_ble_eq_true rfl) rfl ?_
  intro zp ze zs zm zb zt zc Q F hQ
  refine g_aload_n F 0 (dk dtX7_walks_0 0 rfl) rfl ?_
  refine g_iconst F (nI 0) (dk dtX7_walks_0 1 rfl) (by decide) ?_
  refine g_put F fa_X7_56 (dk dtX7_walks_0 2 rfl) (by decide) (cm0 D B _ _) (Nat.le_of_ble_eq_true rfl) rfl rfl ((cm0 D B _ _).trans st_Mod_0) ?_
  refine g_mem (up2_same h0) ?_
  refine g_aload_n F 0 (dk dtX7_walks_0 3 rfl) rfl ?_
  refine g_iload_n F 1 (dk dtX7_walks_0 4 rfl) rfl ?_
  refine g_callVi F (As := [.int p]) (st := []) cv_X7_129 (dk dtX7_walks_0 5 rfl) (by decide) (cm0 D B _ _) rfl rfl (Nat.le_of_ble_eq_true rfl) ⟨by decide, by decide⟩ (k_X7_isOne l D B _ _ _ P hP (by omega)) (fun r7 T7 M7 hp7 => ?_)
  obtain ⟨e1, e2, e3⟩ := hp7
  replace e1 := e1.symm; replace e2 := e2.symm; replace e3 := e3.symm; subst e1; subst e2; subst e3
  refine g_if_eqB F 21 (dk dtX7_walks_0 6 rfl) (by decide) (fun c10 => ?_) (fun c10 => ?_)
  · -- taken at 10
    refine g_iconst F (-1) (dk dtX7_walks_0 11 rfl) (by decide) ?_
    refine g_iret (F := F) hQ (dk dtX7_walks_0 12 rfl) ?_
    exact ⟨rfl, rfl, rfl⟩
  · -- not taken at 10
    refine g_aload_n F 0 (dk dtX7_walks_0 7 rfl) rfl ?_
    refine g_iload_n F 2 (dk dtX7_walks_0 8 rfl) rfl ?_
    refine g_callVi F (As := [.int x]) (st := []) cv_X7_151 (dk dtX7_walks_0 9 rfl) (by decide) (cm0 D B _ _) rfl rfl (Nat.le_of_ble_eq_true rfl) ⟨by decide, by decide⟩ (k_X7_isPlace l D B _ _ _ X hX (by omega)) (fun r15 T15 M15 hp15 => ?_)
    obtain ⟨e1, e2, e3⟩ := hp15
    replace e1 := e1.symm; replace e2 := e2.symm; replace e3 := e3.symm; subst e1; subst e2; subst e3
    refine g_if_neB F 23 (dk dtX7_walks_0 10 rfl) (by decide) (fun c18 => ?_) (fun c18 => ?_)
    · -- taken at 18
      exact absurd ⟨c10, c18⟩ hb
    · -- not taken at 18
      refine g_iconst F (-1) (dk dtX7_walks_0 11 rfl) (by decide) ?_
      refine g_iret (F := F) hQ (dk dtX7_walks_0 12 rfl) ?_
      exact ⟨rfl, rfl, rfl⟩
set_option maxRecDepth 100000 in
set_option maxHeartbeats 4000000 in
theorem k_X7_tells (l : Launch) (D : DX) (B : Nat) (T : Int64) (M : Mem) (h0 : M 0 0 = nI 0) (P : Nat) (hP : M 2 2 = nI P) (hP5 : P ≤ 5) (K : Nat) (hK : M 2 0 = nI K) (hK1 : 1 ≤ K) (hK4 : K ≤ 4) (p k : Nat) (hp : p < P) (hk : k < K) (U : Nat) (hU : M 0 18 = nI U) (hU10 : U ≤ 10)  : Ci l D B 14 (celM D B) yX7_tells cX7_tells 4 (some .int) 2 [.ref (B + 0), .int (nI p), .int (nI k)] T M (fun r T1 M1 => r = tlR (M 5) p k (5 + 4 * p + k) ∧ T1 = T ∧ M1 = setR (kb M U) 5 (tlR (M 5) p k)) := by
  refine g_entryi (L := [(0, .ref (B + 0)), (1, .int (nI p)), (2, .int (nI k))]) (by decide) (Nat.le_of_ble_eq_true rfl) rfl ?_
  intro zp ze zs zm zb zt zc Q F hQ
  refine g_aload_n F 0 (dk dtX7_tells_0 0 rfl) rfl ?_
  refine g_iconst F (nI 0) (dk dtX7_tells_0 1 rfl) (by decide) ?_
  refine g_put F fa_X7_56 (dk dtX7_tells_0 2 rfl) (by decide) (cm0 D B _ _) (Nat.le_of_ble_eq_true rfl) rfl rfl ((cm0 D B _ _).trans st_Mod_0) ?_
  refine g_mem (up2_same h0) ?_
  refine g_aload_n F 0 (dk dtX7_tells_0 3 rfl) rfl ?_
  refine g_iload_n F 1 (dk dtX7_tells_0 4 rfl) rfl ?_
  refine g_callVi F (As := [.int (nI p)]) (st := []) cv_X7_129 (dk dtX7_tells_0 5 rfl) (by decide) (cm0 D B _ _) rfl rfl (Nat.le_of_ble_eq_true rfl) ⟨by decide, by decide⟩ (k_X7_isOne l D B _ _ _ P hP (by omega)) (fun r7 T7 M7 hp7 => ?_)
  obtain ⟨e1, e2, e3⟩ := hp7
  replace e1 := e1.symm; replace e2 := e2.symm; replace e3 := e3.symm; subst e1; subst e2; subst e3
  refine g_if_eqB F 21 (dk dtX7_tells_0 6 rfl) (by decide) (fun c => absurd (inR_nI (by omega)) c) (fun _ => ?_)
  refine g_aload_n F 0 (dk dtX7_tells_0 7 rfl) rfl ?_
  refine g_iload_n F 2 (dk dtX7_tells_0 8 rfl) rfl ?_
  refine g_callVi F (As := [.int (nI k)]) (st := []) cv_X7_132 (dk dtX7_tells_0 9 rfl) (by decide) (cm0 D B _ _) rfl rfl (Nat.le_of_ble_eq_true rfl) ⟨by decide, by decide⟩ (k_X7_isKind l D B _ _ _ K hK (by omega)) (fun r15 T15 M15 hp15 => ?_)
  obtain ⟨e1, e2, e3⟩ := hp15
  replace e1 := e1.symm; replace e2 := e2.symm; replace e3 := e3.symm; subst e1; subst e2; subst e3
  refine g_if_neB F 23 (dk dtX7_tells_0 10 rfl) (by decide) (fun _ => ?_) (fun c => absurd (inR_nI (by omega)) c)
  refine g_aload_n F 0 (dk dtX7_tells_0 13 rfl) rfl ?_
  refine g_callVv F (As := []) (st := []) cv_X7_154 (dk dtX7_tells_0 14 rfl) (by decide) (cm0 D B _ _) rfl rfl (Nat.le_of_ble_eq_true rfl) ⟨by decide, by decide⟩ (k_X7_keepsBefore l D B _ _ U hU hU10) (fun T24 M24 hp24 => ?_)
  obtain ⟨e2, e3⟩ := hp24
  replace e2 := e2.symm; replace e3 := e3.symm; subst e2; subst e3
  refine g_iconst F (nI 5) (dk dtX7_tells_0 15 rfl) (by decide) ?_
  refine g_iconst F (nI 4) (dk dtX7_tells_0 16 rfl) (by decide) ?_
  refine g_iload_n F 1 (dk dtX7_tells_0 17 rfl) rfl ?_
  refine g_imulN F (dk dtX7_tells_0 18 rfl) ?_
  refine g_iaddN F (dk dtX7_tells_0 19 rfl) ?_
  refine g_iload_n F 2 (dk dtX7_tells_0 20 rfl) rfl ?_
  refine g_iaddN F (dk dtX7_tells_0 21 rfl) ?_
  refine g_istore_n F [(3, .int (nI ((5 + (4 * p)) + k))), (0, .ref (B + 0)), (1, .int (nI p)), (2, .int (nI k))] (dk dtX7_tells_0 22 rfl) (by decide) rfl ?_
  refine g_aload_n F 1 (dk dtX7_tells_0 23 rfl) rfl ?_
  refine g_get F fa_X7_22 (dk dtX7_tells_0 24 rfl) (by decide) (cm0 D B _ _) rfl ?_
  refine g_iload_n F 0 (dk dtX7_tells_0 25 rfl) rfl ?_
  refine g_dup2 F (dk dtX7_tells_0 26 rfl) rfl rfl ?_
  refine g_iald F ((5 + (4 * p)) + k) (dk dtX7_tells_0 27 rfl) (by decide) (cm5 D B _ _) (by omega) (by decide) ?_
  refine g_top (congrFun (kb_fr _ _ (by decide)) _) ?_
  refine g_aload_n F 1 (dk dtX7_tells_0 28 rfl) rfl ?_
  refine g_get F fa_X7_22 (dk dtX7_tells_0 29 rfl) (by decide) (cm0 D B _ _) rfl ?_
  refine g_iload_n F 0 (dk dtX7_tells_0 30 rfl) rfl ?_
  refine g_iald F ((5 + (4 * p)) + k) (dk dtX7_tells_0 31 rfl) (by decide) (cm5 D B _ _) (by omega) (by decide) ?_
  refine g_top (congrFun (kb_fr _ _ (by decide)) _) ?_
  refine g_sipush F (nI 999) (dk dtX7_tells_0 32 rfl) (by decide) ?_
  refine g_icmp_ge F 58 (dk dtX7_tells_0 33 rfl) (by decide) (fun c51 => ?_) (fun c51 => ?_)
  · -- taken at 51
    refine g_iconst F (nI 0) (dk dtX7_tells_0 36 rfl) (by decide) ?_
    refine g_iadd F (dk dtX7_tells_0 37 rfl) ?_
    refine g_iast F ((5 + (4 * p)) + k) (dk dtX7_tells_0 38 rfl) (by decide) (fun r => cm5 D B _ r) (by omega) (by decide) ?_
    refine g_aload_n F 1 (dk dtX7_tells_0 39 rfl) rfl ?_
    refine g_get F fa_X7_22 (dk dtX7_tells_0 40 rfl) (by decide) (cm0 D B _ _) rfl ?_
    refine g_iload_n F 0 (dk dtX7_tells_0 41 rfl) rfl ?_
    refine g_iald F ((5 + (4 * p)) + k) (dk dtX7_tells_0 42 rfl) (by decide) (cm5 D B _ _) (by omega) (by decide) ?_
    refine g_top ((congrFun (up2_self _ _ _ _) _).trans pk_us) ?_
    refine g_iret (F := F) hQ (dk dtX7_tells_0 43 rfl) ?_
    exact ⟨tlR_n1 c51, rfl, tlR_nM _ _ c51⟩
  · -- not taken at 51
    refine g_iconst F (nI 1) (dk dtX7_tells_0 34 rfl) (by decide) ?_
    refine g_goto F 59 (dk dtX7_tells_0 35 rfl) (by decide) ?_
    refine g_iadd F (dk dtX7_tells_0 37 rfl) ?_
    refine g_iast F ((5 + (4 * p)) + k) (dk dtX7_tells_0 38 rfl) (by decide) (fun r => cm5 D B _ r) (by omega) (by decide) ?_
    refine g_aload_n F 1 (dk dtX7_tells_0 39 rfl) rfl ?_
    refine g_get F fa_X7_22 (dk dtX7_tells_0 40 rfl) (by decide) (cm0 D B _ _) rfl ?_
    refine g_iload_n F 0 (dk dtX7_tells_0 41 rfl) rfl ?_
    refine g_iald F ((5 + (4 * p)) + k) (dk dtX7_tells_0 42 rfl) (by decide) (cm5 D B _ _) (by omega) (by decide) ?_
    refine g_top ((congrFun (up2_self _ _ _ _) _).trans pk_us) ?_
    refine g_iret (F := F) hQ (dk dtX7_tells_0 43 rfl) ?_
    exact ⟨tlR_y1 c51, rfl, tlR_yM _ _ c51⟩
set_option maxRecDepth 100000 in
set_option maxHeartbeats 4000000 in
theorem k_X7_tells_bad (l : Launch) (D : DX) (B : Nat) (T : Int64) (M : Mem) (h0 : M 0 0 = nI 0) (P : Nat) (hP : M 2 2 = nI P) (hP5 : P ≤ 5) (K : Nat) (hK : M 2 0 = nI K) (hK1 : 1 ≤ K) (hK4 : K ≤ 4) (p k : Int32) (hb : ¬ (inR p P ∧ inR k K)) : Ci l D B 14 (celM D B) yX7_tells cX7_tells 4 (some .int) 2 [.ref (B + 0), .int p, .int k] T M (fun rz T1 M1 => rz = (-1) ∧ T1 = T ∧ M1 = M) := by
  refine g_entryi (L := [(0, .ref (B + 0)), (1, .int p), (2, .int k)]) (by decide) (Nat.le_of_ble_eq_true rfl) rfl ?_
  intro zp ze zs zm zb zt zc Q F hQ
  refine g_aload_n F 0 (dk dtX7_tells_0 0 rfl) rfl ?_
  refine g_iconst F (nI 0) (dk dtX7_tells_0 1 rfl) (by decide) ?_
  refine g_put F fa_X7_56 (dk dtX7_tells_0 2 rfl) (by decide) (cm0 D B _ _) (Nat.le_of_ble_eq_true rfl) rfl rfl ((cm0 D B _ _).trans st_Mod_0) ?_
  refine g_mem (up2_same h0) ?_
  refine g_aload_n F 0 (dk dtX7_tells_0 3 rfl) rfl ?_
  refine g_iload_n F 1 (dk dtX7_tells_0 4 rfl) rfl ?_
  refine g_callVi F (As := [.int p]) (st := []) cv_X7_129 (dk dtX7_tells_0 5 rfl) (by decide) (cm0 D B _ _) rfl rfl (Nat.le_of_ble_eq_true rfl) ⟨by decide, by decide⟩ (k_X7_isOne l D B _ _ _ P hP (by omega)) (fun r7 T7 M7 hp7 => ?_)
  obtain ⟨e1, e2, e3⟩ := hp7
  replace e1 := e1.symm; replace e2 := e2.symm; replace e3 := e3.symm; subst e1; subst e2; subst e3
  refine g_if_eqB F 21 (dk dtX7_tells_0 6 rfl) (by decide) (fun c10 => ?_) (fun c10 => ?_)
  · -- taken at 10
    refine g_iconst F (-1) (dk dtX7_tells_0 11 rfl) (by decide) ?_
    refine g_iret (F := F) hQ (dk dtX7_tells_0 12 rfl) ?_
    exact ⟨rfl, rfl, rfl⟩
  · -- not taken at 10
    refine g_aload_n F 0 (dk dtX7_tells_0 7 rfl) rfl ?_
    refine g_iload_n F 2 (dk dtX7_tells_0 8 rfl) rfl ?_
    refine g_callVi F (As := [.int k]) (st := []) cv_X7_132 (dk dtX7_tells_0 9 rfl) (by decide) (cm0 D B _ _) rfl rfl (Nat.le_of_ble_eq_true rfl) ⟨by decide, by decide⟩ (k_X7_isKind l D B _ _ _ K hK (by omega)) (fun r15 T15 M15 hp15 => ?_)
    obtain ⟨e1, e2, e3⟩ := hp15
    replace e1 := e1.symm; replace e2 := e2.symm; replace e3 := e3.symm; subst e1; subst e2; subst e3
    refine g_if_neB F 23 (dk dtX7_tells_0 10 rfl) (by decide) (fun c18 => ?_) (fun c18 => ?_)
    · -- taken at 18
      exact absurd ⟨c10, c18⟩ hb
    · -- not taken at 18
      refine g_iconst F (-1) (dk dtX7_tells_0 11 rfl) (by decide) ?_
      refine g_iret (F := F) hQ (dk dtX7_tells_0 12 rfl) ?_
      exact ⟨rfl, rfl, rfl⟩
set_option maxRecDepth 100000 in
set_option maxHeartbeats 4000000 in
theorem k_X7_abdicates_state (l : Launch) (D : DX) (B : Nat) (T : Int64) (M : Mem) (h0 : M 0 0 = nI 0) (hs : M 5 30 = nI 0) : Ci l D B 14 (celM D B) yX7_abdicates cX7_abdicates 2 (some .int) 1 [.ref (B + 0)] T M (fun rz T1 M1 => rz = (-2) ∧ T1 = T ∧ M1 = M) := by
  refine g_entryi (L := [(0, .ref (B + 0))]) (by decide) (Nat.le_of_ble_eq_true rfl) rfl ?_
  intro zp ze zs zm zb zt zc Q F hQ
  refine g_aload_n F 0 (dk dtX7_abdicates_0 0 rfl) rfl ?_
  refine g_iconst F (nI 0) (dk dtX7_abdicates_0 1 rfl) (by decide) ?_
  refine g_put F fa_X7_56 (dk dtX7_abdicates_0 2 rfl) (by decide) (cm0 D B _ _) (Nat.le_of_ble_eq_true rfl) rfl rfl ((cm0 D B _ _).trans st_Mod_0) ?_
  refine g_mem (up2_same h0) ?_
  refine g_aload_n F 0 (dk dtX7_abdicates_0 3 rfl) rfl ?_
  refine g_get F fa_X7_22 (dk dtX7_abdicates_0 4 rfl) (by decide) (cm0 D B _ _) rfl ?_
  refine g_bipush F (nI 30) (dk dtX7_abdicates_0 5 rfl) (by decide) ?_
  refine g_iald F (30) (dk dtX7_abdicates_0 6 rfl) (by decide) (cm5 D B _ _) (by omega) (by decide) ?_
  refine g_top hs ?_
  refine g_if_neN F 18 (dk dtX7_abdicates_0 7 rfl) (by decide) (by decide) (fun c => absurd c (by decide)) (fun _ => ?_)
  refine g_bipush F (-2) (dk dtX7_abdicates_0 8 rfl) (by decide) ?_
  refine g_iret (F := F) hQ (dk dtX7_abdicates_0 9 rfl) ?_
  exact ⟨rfl, rfl, rfl⟩
set_option maxRecDepth 100000 in
set_option maxHeartbeats 4000000 in
theorem k_X7_abdicates (l : Launch) (D : DX) (B : Nat) (T : Int64) (M : Mem) (h0 : M 0 0 = nI 0) (U : Nat) (hU : M 0 18 = nI U) (hU10 : U ≤ 10) (q : Nat) (hs : M 5 30 = nI (q + 1)) (hq : q < 5) : Ci l D B 14 (celM D B) yX7_abdicates cX7_abdicates 2 (some .int) 1 [.ref (B + 0)] T M (fun r T1 M1 => r = nI q ∧ T1 = T ∧ M1 = up2 (kb M U) 5 30 (nI 0)) := by
  refine g_entryi (L := [(0, .ref (B + 0))]) (by decide) (Nat.le_of_ble_eq_true rfl) rfl ?_
  intro zp ze zs zm zb zt zc Q F hQ
  refine g_aload_n F 0 (dk dtX7_abdicates_0 0 rfl) rfl ?_
  refine g_iconst F (nI 0) (dk dtX7_abdicates_0 1 rfl) (by decide) ?_
  refine g_put F fa_X7_56 (dk dtX7_abdicates_0 2 rfl) (by decide) (cm0 D B _ _) (Nat.le_of_ble_eq_true rfl) rfl rfl ((cm0 D B _ _).trans st_Mod_0) ?_
  refine g_mem (up2_same h0) ?_
  refine g_aload_n F 0 (dk dtX7_abdicates_0 3 rfl) rfl ?_
  refine g_get F fa_X7_22 (dk dtX7_abdicates_0 4 rfl) (by decide) (cm0 D B _ _) rfl ?_
  refine g_bipush F (nI 30) (dk dtX7_abdicates_0 5 rfl) (by decide) ?_
  refine g_iald F (30) (dk dtX7_abdicates_0 6 rfl) (by decide) (cm5 D B _ _) (by omega) (by decide) ?_
  refine g_top hs ?_
  refine g_if_neN F 18 (dk dtX7_abdicates_0 7 rfl) (by decide) (by omega) (fun c12 => ?_) (fun c12 => ?_)
  · -- taken at 12
    refine g_aload_n F 0 (dk dtX7_abdicates_0 10 rfl) rfl ?_
    refine g_callVv F (As := []) (st := []) cv_X7_154 (dk dtX7_abdicates_0 11 rfl) (by decide) (cm0 D B _ _) rfl rfl (Nat.le_of_ble_eq_true rfl) ⟨by decide, by decide⟩ (k_X7_keepsBefore l D B _ _ U hU hU10) (fun T19 M19 hp19 => ?_)
    obtain ⟨e2, e3⟩ := hp19
    replace e2 := e2.symm; replace e3 := e3.symm; subst e2; subst e3
    refine g_aload_n F 0 (dk dtX7_abdicates_0 12 rfl) rfl ?_
    refine g_get F fa_X7_22 (dk dtX7_abdicates_0 13 rfl) (by decide) (cm0 D B _ _) rfl ?_
    refine g_bipush F (nI 30) (dk dtX7_abdicates_0 14 rfl) (by decide) ?_
    refine g_iald F (30) (dk dtX7_abdicates_0 15 rfl) (by decide) (cm5 D B _ _) (by omega) (by decide) ?_
    refine g_top (congrFun (kb_fr _ _ (by decide)) _) ?_
    refine g_top hs ?_
    refine g_iconst F (nI 1) (dk dtX7_abdicates_0 16 rfl) (by decide) ?_
    refine g_isubE F (nI q) (dk dtX7_abdicates_0 17 rfl) (nI_pred _).symm ?_
    refine g_istore_n F [(1, .int (nI q)), (0, .ref (B + 0))] (dk dtX7_abdicates_0 18 rfl) (by decide) rfl ?_
    refine g_aload_n F 1 (dk dtX7_abdicates_0 19 rfl) rfl ?_
    refine g_get F fa_X7_22 (dk dtX7_abdicates_0 20 rfl) (by decide) (cm0 D B _ _) rfl ?_
    refine g_bipush F (nI 30) (dk dtX7_abdicates_0 21 rfl) (by decide) ?_
    refine g_iconst F (nI 0) (dk dtX7_abdicates_0 22 rfl) (by decide) ?_
    refine g_iast F (30) (dk dtX7_abdicates_0 23 rfl) (by decide) (fun r => cm5 D B _ r) (by omega) (by decide) ?_
    refine g_iload_n F 0 (dk dtX7_abdicates_0 24 rfl) rfl ?_
    refine g_iret (F := F) hQ (dk dtX7_abdicates_0 25 rfl) ?_
    exact ⟨rfl, rfl, rfl⟩
  · -- not taken at 12
    exact absurd c12 (by omega)
set_option maxRecDepth 100000 in
set_option maxHeartbeats 4000000 in
theorem k_X7_undo_state (l : Launch) (D : DX) (B : Nat) (T : Int64) (M : Mem) (h0 : M 0 0 = nI 0) (hU : M 0 18 = nI 0) : Ci l D B 14 (celM D B) yX7_undo cX7_undo 2 (some .int) 0 [.ref (B + 0)] T M (fun rz T1 M1 => rz = (-2) ∧ T1 = T ∧ M1 = M) := by
  refine g_entryi (L := [(0, .ref (B + 0))]) (by decide) (Nat.le_of_ble_eq_true rfl) rfl ?_
  intro zp ze zs zm zb zt zc Q F hQ
  refine g_aload_n F 0 (dk dtX7_undo_0 0 rfl) rfl ?_
  refine g_iconst F (nI 0) (dk dtX7_undo_0 1 rfl) (by decide) ?_
  refine g_put F fa_X7_56 (dk dtX7_undo_0 2 rfl) (by decide) (cm0 D B _ _) (Nat.le_of_ble_eq_true rfl) rfl rfl ((cm0 D B _ _).trans st_Mod_0) ?_
  refine g_mem (up2_same h0) ?_
  refine g_aload_n F 0 (dk dtX7_undo_0 3 rfl) rfl ?_
  refine g_get F fa_X7_122 (dk dtX7_undo_0 4 rfl) (by decide) (cm0 D B _ _) rfl ?_
  refine g_top hU ?_
  refine g_if_neN F 15 (dk dtX7_undo_0 5 rfl) (by decide) (by decide) (fun c => absurd c (by decide)) (fun _ => ?_)
  refine g_bipush F (-2) (dk dtX7_undo_0 6 rfl) (by decide) ?_
  refine g_iret (F := F) hQ (dk dtX7_undo_0 7 rfl) ?_
  exact ⟨rfl, rfl, rfl⟩
set_option maxRecDepth 100000 in
set_option maxHeartbeats 4000000 in
theorem k_X7_undo (l : Launch) (D : DX) (B : Nat) (T : Int64) (M : Mem) (h0 : M 0 0 = nI 0) (U : Nat) (hU : M 0 18 = nI (U + 1)) (hU9 : U < 10) : Ci l D B 14 (celM D B) yX7_undo cX7_undo 2 (some .int) 0 [.ref (B + 0)] T M (fun r T1 M1 => r = nI U ∧ T1 = T ∧ M1 = setR (up2 M 0 18 (nI U)) 5 (fun j => M 9 (31 * U + j))) := by
  refine g_entryi (L := [(0, .ref (B + 0))]) (by decide) (Nat.le_of_ble_eq_true rfl) rfl ?_
  intro zp ze zs zm zb zt zc Q F hQ
  refine g_aload_n F 0 (dk dtX7_undo_0 0 rfl) rfl ?_
  refine g_iconst F (nI 0) (dk dtX7_undo_0 1 rfl) (by decide) ?_
  refine g_put F fa_X7_56 (dk dtX7_undo_0 2 rfl) (by decide) (cm0 D B _ _) (Nat.le_of_ble_eq_true rfl) rfl rfl ((cm0 D B _ _).trans st_Mod_0) ?_
  refine g_mem (up2_same h0) ?_
  refine g_aload_n F 0 (dk dtX7_undo_0 3 rfl) rfl ?_
  refine g_get F fa_X7_122 (dk dtX7_undo_0 4 rfl) (by decide) (cm0 D B _ _) rfl ?_
  refine g_top hU ?_
  refine g_if_neN F 15 (dk dtX7_undo_0 5 rfl) (by decide) (by omega) (fun c9 => ?_) (fun c9 => ?_)
  · -- taken at 9
    refine g_aload_n F 0 (dk dtX7_undo_0 8 rfl) rfl ?_
    refine g_dup F (dk dtX7_undo_0 9 rfl) rfl ?_
    refine g_get F fa_X7_122 (dk dtX7_undo_0 10 rfl) (by decide) (cm0 D B _ _) rfl ?_
    refine g_top hU ?_
    refine g_iconst F (nI 1) (dk dtX7_undo_0 11 rfl) (by decide) ?_
    refine g_isubE F (nI U) (dk dtX7_undo_0 12 rfl) (nI_pred _).symm ?_
    refine g_put F fa_X7_122 (dk dtX7_undo_0 13 rfl) (by decide) (cm0 D B _ _) (Nat.le_of_ble_eq_true rfl) rfl rfl ((cm0 D B _ _).trans st_Mod_18) ?_
    refine g_iconst F (nI 0) (dk dtX7_undo_0 14 rfl) (by decide) ?_
    refine g_istore_n F [(1, .int (nI 0)), (0, .ref (B + 0))] (dk dtX7_undo_0 15 rfl) (by decide) rfl ?_
    have lp27 : ∀ (fz : Nat) (i : Nat), i ≤ 31 → (31 - i) < fz → G zp l ze { frames := 0, cells := 0, slots := 0, locals := 40 * 0 } zs zm [.ref (B + 0)].toArray zb zt zc 2 D B 14 (celM D B) Q T (setR (up2 M 0 18 (nI U)) 5 (cpR (fun j => M 9 (31 * U + j)) (M 5) i)) 27 [(0, .ref (B + 0)), (1, .int (nI i))] [] := by
      intro n27
      induction n27 with
      | zero => intro i hI hn; exact absurd hn (Nat.not_lt_zero _)
      | succ n27 ih27 =>
        intro i hI27 hn27
        refine g_iload_n F 1 (dk dtX7_undo_0 16 rfl) rfl ?_
        refine g_bipush F (nI 31) (dk dtX7_undo_0 17 rfl) (by decide) ?_
        refine g_icmp_geN F 59 (dk dtX7_undo_0 18 rfl) (by decide) (by omega) (by omega) (fun c30 => ?_) (fun c30 => ?_)
        · -- taken at 30
          obtain rfl : 31 = i := by omega
          refine g_row (fun j => M 9 (31 * U + j)) (fun r => cm5 D B _ r) (fun j hj => by rw [setR_self]; exact cpR_in _ _ hj) ?_
          refine g_mem (setR_setR _ _ _ _) ?_
          refine g_aload_n F 0 (dk dtX7_undo_0 34 rfl) rfl ?_
          refine g_get F fa_X7_122 (dk dtX7_undo_0 35 rfl) (by decide) (cm0 D B _ _) rfl ?_
          refine g_top (congrFun (setR_ne _ _ (by decide)) _) ?_
          refine g_top ((congrFun (up2_self _ _ _ _) _).trans pk_us) ?_
          refine g_iret (F := F) hQ (dk dtX7_undo_0 36 rfl) ?_
          exact ⟨rfl, rfl, rfl⟩
        · -- not taken at 30
          refine g_aload_n F 0 (dk dtX7_undo_0 19 rfl) rfl ?_
          refine g_get F fa_X7_22 (dk dtX7_undo_0 20 rfl) (by decide) (cm0 D B _ _) rfl ?_
          refine g_iload_n F 1 (dk dtX7_undo_0 21 rfl) rfl ?_
          refine g_aload_n F 0 (dk dtX7_undo_0 22 rfl) rfl ?_
          refine g_get F fa_X7_35 (dk dtX7_undo_0 23 rfl) (by decide) (cm0 D B _ _) rfl ?_
          refine g_bipush F (nI 31) (dk dtX7_undo_0 24 rfl) (by decide) ?_
          refine g_aload_n F 0 (dk dtX7_undo_0 25 rfl) rfl ?_
          refine g_get F fa_X7_122 (dk dtX7_undo_0 26 rfl) (by decide) (cm0 D B _ _) rfl ?_
          refine g_top (congrFun (setR_ne _ _ (by decide)) _) ?_
          refine g_top ((congrFun (up2_self _ _ _ _) _).trans pk_us) ?_
          refine g_imulN F (dk dtX7_undo_0 27 rfl) ?_
          refine g_iload_n F 1 (dk dtX7_undo_0 28 rfl) rfl ?_
          refine g_iaddN F (dk dtX7_undo_0 29 rfl) ?_
          refine g_iald F ((31 * U) + i) (dk dtX7_undo_0 30 rfl) (by decide) (cm9 D B _ _) (by omega) (by decide) ?_
          refine g_top (congrFun (setR_ne _ _ (by decide)) _) ?_
          refine g_top (congrFun (up2_ne _ _ (by decide)) _) ?_
          refine g_iast F (i) (dk dtX7_undo_0 31 rfl) (by decide) (fun r => cm5 D B _ r) (by omega) (by decide) ?_
          refine g_iinc F 1 (nI (i + 1)) [(1, .int (nI (i + 1))), (0, .ref (B + 0))] (dk dtX7_undo_0 32 rfl) rfl (nI_1 _) (by decide) rfl ?_
          refine g_goto F 27 (dk dtX7_undo_0 33 rfl) (by decide) ?_
          refine g_sub [1, 0] (L1 := [(0, .ref (B + 0)), (1, .int (nI (i + 1)))]) rfl ?_
          refine g_st (M1 := setR (up2 M 0 18 (nI U)) 5 (cpR (fun j => M 9 (31 * U + j)) (M 5) (i + 1))) (L1 := [(0, .ref (B + 0)), (1, .int (nI (i + 1)))]) (by rw [up2_setR]; exact congrArg (setR _ 5) (cpR_s (fun j => M 9 (31 * U + j)) _ _)) rfl rfl ?_
          exact ih27 (i + 1) (by omega) (by omega)
    refine g_sub [1, 0] (L1 := [(0, .ref (B + 0)), (1, .int (nI 0))]) rfl ?_
    refine g_mem (cpU_0 M U) ?_
    exact lp27 32 0 (by omega) (by omega)
  · -- not taken at 9
    exact absurd c9 (by omega)
set_option maxRecDepth 100000 in
set_option maxHeartbeats 4000000 in
theorem k_X7_who (l : Launch) (D : DX) (B : Nat) (T : Int64) (M : Mem) (h0 : M 0 0 = nI 0) (P : Nat) (hP : M 2 2 = nI P) (hP5 : P ≤ 5) (K : Nat) (hK : M 2 0 = nI K) (hK1 : 1 ≤ K) (hK4 : K ≤ 4) (X : Nat) (hX : M 2 1 = nI X) (hX1 : 1 ≤ X) (hX4 : X ≤ 4) (k x : Nat) (hk : k < K) (hx : x < X) (hW : WR (M 5))  : Ci l D B 14 (celM D B) yX7_who cX7_who 3 (some .int) 3 [.ref (B + 0), .int (nI k), .int (nI x)] T M (fun rz T1 M1 => rz = moR (evR (M 3) (M 2 0) (M 5) k (nI x) P) ∧ T1 = T ∧ Sm M M1) := by
  refine g_entryi (L := [(0, .ref (B + 0)), (1, .int (nI k)), (2, .int (nI x))]) (by decide) (Nat.le_of_ble_eq_true rfl) rfl ?_
  intro zp ze zs zm zb zt zc Q F hQ
  refine g_aload_n F 0 (dk dtX7_who_0 0 rfl) rfl ?_
  refine g_iconst F (nI 0) (dk dtX7_who_0 1 rfl) (by decide) ?_
  refine g_put F fa_X7_56 (dk dtX7_who_0 2 rfl) (by decide) (cm0 D B _ _) (Nat.le_of_ble_eq_true rfl) rfl rfl ((cm0 D B _ _).trans st_Mod_0) ?_
  refine g_mem (up2_same h0) ?_
  refine g_aload_n F 0 (dk dtX7_who_0 3 rfl) rfl ?_
  refine g_iload_n F 1 (dk dtX7_who_0 4 rfl) rfl ?_
  refine g_callVi F (As := [.int (nI k)]) (st := []) cv_X7_132 (dk dtX7_who_0 5 rfl) (by decide) (cm0 D B _ _) rfl rfl (Nat.le_of_ble_eq_true rfl) ⟨by decide, by decide⟩ (k_X7_isKind l D B _ _ _ K hK (by omega)) (fun r7 T7 M7 hp7 => ?_)
  obtain ⟨e1, e2, e3⟩ := hp7
  replace e1 := e1.symm; replace e2 := e2.symm; replace e3 := e3.symm; subst e1; subst e2; subst e3
  refine g_if_eqB F 21 (dk dtX7_who_0 6 rfl) (by decide) (fun c => absurd (inR_nI (by omega)) c) (fun _ => ?_)
  refine g_aload_n F 0 (dk dtX7_who_0 7 rfl) rfl ?_
  refine g_iload_n F 2 (dk dtX7_who_0 8 rfl) rfl ?_
  refine g_callVi F (As := [.int (nI x)]) (st := []) cv_X7_151 (dk dtX7_who_0 9 rfl) (by decide) (cm0 D B _ _) rfl rfl (Nat.le_of_ble_eq_true rfl) ⟨by decide, by decide⟩ (k_X7_isPlace l D B _ _ _ X hX (by omega)) (fun r15 T15 M15 hp15 => ?_)
  obtain ⟨e1, e2, e3⟩ := hp15
  replace e1 := e1.symm; replace e2 := e2.symm; replace e3 := e3.symm; subst e1; subst e2; subst e3
  refine g_if_neB F 23 (dk dtX7_who_0 10 rfl) (by decide) (fun _ => ?_) (fun c => absurd (inR_nI (by omega)) c)
  refine g_aload_n F 0 (dk dtX7_who_0 13 rfl) rfl ?_
  refine g_get F fa_X7_22 (dk dtX7_who_0 14 rfl) (by decide) (cm0 D B _ _) rfl ?_
  refine g_aload_n F 0 (dk dtX7_who_0 15 rfl) rfl ?_
  refine g_get F fa_X7_25 (dk dtX7_who_0 16 rfl) (by decide) (cm0 D B _ _) rfl ?_
  refine g_callSv F (As := [.ref (B + 5), .ref (B + 6)]) (st := []) cs_X7_115 (dk dtX7_who_0 17 rfl) rfl rfl (Nat.le_of_ble_eq_true rfl) ⟨by decide, by decide⟩ (k_X7_copies l D B _ _ 5 6 (isRow5 D B) (isRow6 D B) (by decide)) (fun T31 M31 hp31 => ?_)
  obtain ⟨e2, e3⟩ := hp31
  replace e2 := e2.symm; replace e3 := e3.symm; subst e2; subst e3
  refine g_aload_n F 0 (dk dtX7_who_0 18 rfl) rfl ?_
  refine g_aload_n F 0 (dk dtX7_who_0 19 rfl) rfl ?_
  refine g_get F fa_X7_25 (dk dtX7_who_0 20 rfl) (by decide) (cm0 D B _ _) rfl ?_
  refine g_iload_n F 1 (dk dtX7_who_0 21 rfl) rfl ?_
  refine g_iload_n F 2 (dk dtX7_who_0 22 rfl) rfl ?_
  refine g_callVi F (As := [.ref (B + 6), .int (nI k), .int (nI x)]) (st := []) cv_X7_157 (dk dtX7_who_0 23 rfl) (by decide) (cm0 D B _ _) rfl rfl (Nat.le_of_ble_eq_true rfl) ⟨by decide, by decide⟩ (k_X7_eventR l D B _ _ 6 (isRow6 D B) k (by omega) (nI x) (M 3) ((M 2) 0) (M 5) (setR_ne _ _ (by decide)) (congrFun (setR_ne _ _ (by decide)) 0) (setR_self _ _ _) K P hK ((congrFun (setR_ne _ _ (by decide)) _).trans hP) hK1 hK4 hP5 hW) (fun r41 T41 M41 hp41 => ?_)
  obtain ⟨e1, e2, e3⟩ := hp41
  replace e1 := e1.symm; replace e2 := e2.symm; replace e3 := e3.symm; subst e1; subst e2; subst e3
  refine g_pop F (dk dtX7_who_0 24 rfl) rfl ?_
  refine g_aload_n F 0 (dk dtX7_who_0 25 rfl) rfl ?_
  refine g_get F fa_X7_25 (dk dtX7_who_0 26 rfl) (by decide) (cm0 D B _ _) rfl ?_
  refine g_callSi F (As := [.ref (B + 6)]) (st := []) cs_X7_140 (dk dtX7_who_0 27 rfl) rfl rfl (Nat.le_of_ble_eq_true rfl) ⟨by decide, by decide⟩ (k_X7_mayorOfR l D B _ _ 6 (isRow6 D B) (evR (M 3) ((M 2) 0) (M 5) k (nI x) P) (setR_self _ _ _)) (fun r49 T49 M49 hp49 => ?_)
  obtain ⟨e1, e2, e3⟩ := hp49
  replace e1 := e1.symm; replace e2 := e2.symm; replace e3 := e3.symm; subst e1; subst e2; subst e3
  refine g_iret (F := F) hQ (dk dtX7_who_0 28 rfl) ?_
  exact ⟨rfl, rfl, fun i h6 _ => by rw [setR_ne _ _ h6, setR_ne _ _ h6]⟩
set_option maxRecDepth 100000 in
set_option maxHeartbeats 4000000 in
theorem k_X7_who_bad (l : Launch) (D : DX) (B : Nat) (T : Int64) (M : Mem) (h0 : M 0 0 = nI 0) (K : Nat) (hK : M 2 0 = nI K) (hK1 : 1 ≤ K) (hK4 : K ≤ 4) (X : Nat) (hX : M 2 1 = nI X) (hX1 : 1 ≤ X) (hX4 : X ≤ 4) (k x : Int32) (hb : ¬ (inR k K ∧ inR x X)) : Ci l D B 14 (celM D B) yX7_who cX7_who 3 (some .int) 3 [.ref (B + 0), .int k, .int x] T M (fun rz T1 M1 => rz = (-1) ∧ T1 = T ∧ M1 = M) := by
  refine g_entryi (L := [(0, .ref (B + 0)), (1, .int k), (2, .int x)]) (by decide) (Nat.le_of_ble_eq_true rfl) rfl ?_
  intro zp ze zs zm zb zt zc Q F hQ
  refine g_aload_n F 0 (dk dtX7_who_0 0 rfl) rfl ?_
  refine g_iconst F (nI 0) (dk dtX7_who_0 1 rfl) (by decide) ?_
  refine g_put F fa_X7_56 (dk dtX7_who_0 2 rfl) (by decide) (cm0 D B _ _) (Nat.le_of_ble_eq_true rfl) rfl rfl ((cm0 D B _ _).trans st_Mod_0) ?_
  refine g_mem (up2_same h0) ?_
  refine g_aload_n F 0 (dk dtX7_who_0 3 rfl) rfl ?_
  refine g_iload_n F 1 (dk dtX7_who_0 4 rfl) rfl ?_
  refine g_callVi F (As := [.int k]) (st := []) cv_X7_132 (dk dtX7_who_0 5 rfl) (by decide) (cm0 D B _ _) rfl rfl (Nat.le_of_ble_eq_true rfl) ⟨by decide, by decide⟩ (k_X7_isKind l D B _ _ _ K hK (by omega)) (fun r7 T7 M7 hp7 => ?_)
  obtain ⟨e1, e2, e3⟩ := hp7
  replace e1 := e1.symm; replace e2 := e2.symm; replace e3 := e3.symm; subst e1; subst e2; subst e3
  refine g_if_eqB F 21 (dk dtX7_who_0 6 rfl) (by decide) (fun c10 => ?_) (fun c10 => ?_)
  · -- taken at 10
    refine g_iconst F (-1) (dk dtX7_who_0 11 rfl) (by decide) ?_
    refine g_iret (F := F) hQ (dk dtX7_who_0 12 rfl) ?_
    exact ⟨rfl, rfl, rfl⟩
  · -- not taken at 10
    refine g_aload_n F 0 (dk dtX7_who_0 7 rfl) rfl ?_
    refine g_iload_n F 2 (dk dtX7_who_0 8 rfl) rfl ?_
    refine g_callVi F (As := [.int x]) (st := []) cv_X7_151 (dk dtX7_who_0 9 rfl) (by decide) (cm0 D B _ _) rfl rfl (Nat.le_of_ble_eq_true rfl) ⟨by decide, by decide⟩ (k_X7_isPlace l D B _ _ _ X hX (by omega)) (fun r15 T15 M15 hp15 => ?_)
    obtain ⟨e1, e2, e3⟩ := hp15
    replace e1 := e1.symm; replace e2 := e2.symm; replace e3 := e3.symm; subst e1; subst e2; subst e3
    refine g_if_neB F 23 (dk dtX7_who_0 10 rfl) (by decide) (fun c18 => ?_) (fun c18 => ?_)
    · -- taken at 18
      exact absurd ⟨c10, c18⟩ hb
    · -- not taken at 18
      refine g_iconst F (-1) (dk dtX7_who_0 11 rfl) (by decide) ?_
      refine g_iret (F := F) hQ (dk dtX7_who_0 12 rfl) ?_
      exact ⟨rfl, rfl, rfl⟩
set_option maxRecDepth 100000 in
set_option maxHeartbeats 4000000 in
theorem k_X7_stale (l : Launch) (D : DX) (B : Nat) (T : Int64) (M : Mem) (h0 : M 0 0 = nI 0) (P : Nat) (hP : M 2 2 = nI P) (hP5 : P ≤ 5) (K : Nat) (hK : M 2 0 = nI K) (hK1 : 1 ≤ K) (hK4 : K ≤ 4) (X : Nat) (hX : M 2 1 = nI X) (hX1 : 1 ≤ X) (hX4 : X ≤ 4) (k x : Nat) (hk : k < K) (hx : x < X) (hW : WR (M 5))  : Ci l D B 14 (celM D B) yX7_stale cX7_stale 4 (some .int) 3 [.ref (B + 0), .int (nI k), .int (nI x)] T M (fun rz T1 M1 => rz = stA (M 3) (M 2 0) k (nI x) P (M 5) 0 100 ∧ T1 = T ∧ Sm M M1) := by
  refine g_entryi (L := [(0, .ref (B + 0)), (1, .int (nI k)), (2, .int (nI x))]) (by decide) (Nat.le_of_ble_eq_true rfl) rfl ?_
  intro zp ze zs zm zb zt zc Q F hQ
  refine g_aload_n F 0 (dk dtX7_stale_0 0 rfl) rfl ?_
  refine g_iconst F (nI 0) (dk dtX7_stale_0 1 rfl) (by decide) ?_
  refine g_put F fa_X7_56 (dk dtX7_stale_0 2 rfl) (by decide) (cm0 D B _ _) (Nat.le_of_ble_eq_true rfl) rfl rfl ((cm0 D B _ _).trans st_Mod_0) ?_
  refine g_mem (up2_same h0) ?_
  refine g_aload_n F 0 (dk dtX7_stale_0 3 rfl) rfl ?_
  refine g_iload_n F 1 (dk dtX7_stale_0 4 rfl) rfl ?_
  refine g_callVi F (As := [.int (nI k)]) (st := []) cv_X7_132 (dk dtX7_stale_0 5 rfl) (by decide) (cm0 D B _ _) rfl rfl (Nat.le_of_ble_eq_true rfl) ⟨by decide, by decide⟩ (k_X7_isKind l D B _ _ _ K hK (by omega)) (fun r7 T7 M7 hp7 => ?_)
  obtain ⟨e1, e2, e3⟩ := hp7
  replace e1 := e1.symm; replace e2 := e2.symm; replace e3 := e3.symm; subst e1; subst e2; subst e3
  refine g_if_eqB F 21 (dk dtX7_stale_0 6 rfl) (by decide) (fun c => absurd (inR_nI (by omega)) c) (fun _ => ?_)
  refine g_aload_n F 0 (dk dtX7_stale_0 7 rfl) rfl ?_
  refine g_iload_n F 2 (dk dtX7_stale_0 8 rfl) rfl ?_
  refine g_callVi F (As := [.int (nI x)]) (st := []) cv_X7_151 (dk dtX7_stale_0 9 rfl) (by decide) (cm0 D B _ _) rfl rfl (Nat.le_of_ble_eq_true rfl) ⟨by decide, by decide⟩ (k_X7_isPlace l D B _ _ _ X hX (by omega)) (fun r15 T15 M15 hp15 => ?_)
  obtain ⟨e1, e2, e3⟩ := hp15
  replace e1 := e1.symm; replace e2 := e2.symm; replace e3 := e3.symm; subst e1; subst e2; subst e3
  refine g_if_neB F 23 (dk dtX7_stale_0 10 rfl) (by decide) (fun _ => ?_) (fun c => absurd (inR_nI (by omega)) c)
  refine g_aload_n F 0 (dk dtX7_stale_0 13 rfl) rfl ?_
  refine g_get F fa_X7_22 (dk dtX7_stale_0 14 rfl) (by decide) (cm0 D B _ _) rfl ?_
  refine g_aload_n F 0 (dk dtX7_stale_0 15 rfl) rfl ?_
  refine g_get F fa_X7_25 (dk dtX7_stale_0 16 rfl) (by decide) (cm0 D B _ _) rfl ?_
  refine g_callSv F (As := [.ref (B + 5), .ref (B + 6)]) (st := []) cs_X7_115 (dk dtX7_stale_0 17 rfl) rfl rfl (Nat.le_of_ble_eq_true rfl) ⟨by decide, by decide⟩ (k_X7_copies l D B _ _ 5 6 (isRow5 D B) (isRow6 D B) (by decide)) (fun T31 M31 hp31 => ?_)
  obtain ⟨e2, e3⟩ := hp31
  replace e2 := e2.symm; replace e3 := e3.symm; subst e2; subst e3
  refine g_iconst F (nI 0) (dk dtX7_stale_0 18 rfl) (by decide) ?_
  refine g_istore_n F [(3, .int (nI 0)), (0, .ref (B + 0)), (1, .int (nI k)), (2, .int (nI x))] (dk dtX7_stale_0 19 rfl) (by decide) rfl ?_
  have lp36 : ∀ (fz : Nat) (i : Nat) (rw : Nat → Int32), (i ≤ 100 ∧ WR rw ∧ stA (M 3) (M 2 0) k (nI x) P rw i (100 - i) = stA (M 3) (M 2 0) k (nI x) P (M 5) 0 100) → (100 - i) < fz → G zp l ze { frames := 3, cells := 0, slots := 0, locals := 40 * 3 } zs zm [.ref (B + 0), .int (nI k), .int (nI x)].toArray zb zt zc 4 D B 14 (celM D B) Q T (setR M 6 rw) 36 [(0, .ref (B + 0)), (1, .int (nI k)), (2, .int (nI x)), (3, .int (nI i))] [] := by
    intro n36
    induction n36 with
    | zero => intro i rw hI hn; exact absurd hn (Nat.not_lt_zero _)
    | succ n36 ih36 =>
      intro i rw hI36 hn36
      refine g_iload_n F 3 (dk dtX7_stale_0 20 rfl) rfl ?_
      refine g_bipush F (nI 100) (dk dtX7_stale_0 21 rfl) (by decide) ?_
      refine g_icmp_geN F 63 (dk dtX7_stale_0 22 rfl) (by decide) (by omega) (by omega) (fun c39 => ?_) (fun c39 => ?_)
      · -- taken at 39
        obtain rfl : 100 = i := by omega
        refine g_bipush F (-9) (dk dtX7_stale_0 34 rfl) (by decide) ?_
        refine g_iret (F := F) hQ (dk dtX7_stale_0 35 rfl) ?_
        exact ⟨hI36.2.2, rfl, fun i h6 _ => by rw [setR_ne _ _ h6]⟩
      · -- not taken at 39
        refine g_aload_n F 0 (dk dtX7_stale_0 23 rfl) rfl ?_
        refine g_aload_n F 0 (dk dtX7_stale_0 24 rfl) rfl ?_
        refine g_get F fa_X7_25 (dk dtX7_stale_0 25 rfl) (by decide) (cm0 D B _ _) rfl ?_
        refine g_iload_n F 1 (dk dtX7_stale_0 26 rfl) rfl ?_
        refine g_iload_n F 2 (dk dtX7_stale_0 27 rfl) rfl ?_
        refine g_callVi F (As := [.ref (B + 6), .int (nI k), .int (nI x)]) (st := []) cv_X7_157 (dk dtX7_stale_0 28 rfl) (by decide) (cm0 D B _ _) rfl rfl (Nat.le_of_ble_eq_true rfl) ⟨by decide, by decide⟩ (k_X7_eventR l D B _ _ 6 (isRow6 D B) k (by omega) (nI x) (M 3) ((M 2) 0) rw (setR_ne _ _ (by decide)) (congrFun (setR_ne _ _ (by decide)) 0) (setR_self _ _ _) K P hK ((congrFun (setR_ne _ _ (by decide)) _).trans hP) hK1 hK4 hP5 hI36.2.1) (fun r49 T49 M49 hp49 => ?_)
        obtain ⟨e1, e2, e3⟩ := hp49
        replace e1 := e1.symm; replace e2 := e2.symm; replace e3 := e3.symm; subst e1; subst e2; subst e3
        refine g_if_ne F 57 (dk dtX7_stale_0 29 rfl) (by decide) (fun c52 => ?_) (fun c52 => ?_)
        · -- taken at 52
          refine g_iinc F 3 (nI (i + 1)) [(3, .int (nI (i + 1))), (0, .ref (B + 0)), (1, .int (nI k)), (2, .int (nI x))] (dk dtX7_stale_0 32 rfl) rfl (nI_1 _) (by decide) rfl ?_
          refine g_goto F 36 (dk dtX7_stale_0 33 rfl) (by decide) ?_
          refine g_sub [1, 2, 3, 0] (L1 := [(0, .ref (B + 0)), (1, .int (nI k)), (2, .int (nI x)), (3, .int (nI (i + 1)))]) rfl ?_
          refine g_mem (setR_setR _ _ _ _) ?_
          exact ih36 (i + 1) (evR (M 3) (M 2 0) rw k (nI x) P) ⟨by omega, evR_WR hI36.2.1 (by omega), stA_s (by omega) c52 hI36.2.2⟩ (by omega)
        · -- not taken at 52
          refine g_iload_n F 3 (dk dtX7_stale_0 30 rfl) rfl ?_
          refine g_iret (F := F) hQ (dk dtX7_stale_0 31 rfl) ?_
          exact ⟨(stA_hit (by omega) c52 hI36.2.2).symm ▸ rfl, rfl, fun i h6 _ => by rw [setR_ne _ _ h6, setR_ne _ _ h6]⟩
  refine g_sub [1, 2, 3, 0] (L1 := [(0, .ref (B + 0)), (1, .int (nI k)), (2, .int (nI x)), (3, .int (nI 0))]) rfl ?_
  exact lp36 101 0 (M 5) ⟨by omega, hW, rfl⟩ (by omega)
set_option maxRecDepth 100000 in
set_option maxHeartbeats 4000000 in
theorem k_X7_stale_bad (l : Launch) (D : DX) (B : Nat) (T : Int64) (M : Mem) (h0 : M 0 0 = nI 0) (K : Nat) (hK : M 2 0 = nI K) (hK1 : 1 ≤ K) (hK4 : K ≤ 4) (X : Nat) (hX : M 2 1 = nI X) (hX1 : 1 ≤ X) (hX4 : X ≤ 4) (k x : Int32) (hb : ¬ (inR k K ∧ inR x X)) : Ci l D B 14 (celM D B) yX7_stale cX7_stale 4 (some .int) 3 [.ref (B + 0), .int k, .int x] T M (fun rz T1 M1 => rz = (-1) ∧ T1 = T ∧ M1 = M) := by
  refine g_entryi (L := [(0, .ref (B + 0)), (1, .int k), (2, .int x)]) (by decide) (Nat.le_of_ble_eq_true rfl) rfl ?_
  intro zp ze zs zm zb zt zc Q F hQ
  refine g_aload_n F 0 (dk dtX7_stale_0 0 rfl) rfl ?_
  refine g_iconst F (nI 0) (dk dtX7_stale_0 1 rfl) (by decide) ?_
  refine g_put F fa_X7_56 (dk dtX7_stale_0 2 rfl) (by decide) (cm0 D B _ _) (Nat.le_of_ble_eq_true rfl) rfl rfl ((cm0 D B _ _).trans st_Mod_0) ?_
  refine g_mem (up2_same h0) ?_
  refine g_aload_n F 0 (dk dtX7_stale_0 3 rfl) rfl ?_
  refine g_iload_n F 1 (dk dtX7_stale_0 4 rfl) rfl ?_
  refine g_callVi F (As := [.int k]) (st := []) cv_X7_132 (dk dtX7_stale_0 5 rfl) (by decide) (cm0 D B _ _) rfl rfl (Nat.le_of_ble_eq_true rfl) ⟨by decide, by decide⟩ (k_X7_isKind l D B _ _ _ K hK (by omega)) (fun r7 T7 M7 hp7 => ?_)
  obtain ⟨e1, e2, e3⟩ := hp7
  replace e1 := e1.symm; replace e2 := e2.symm; replace e3 := e3.symm; subst e1; subst e2; subst e3
  refine g_if_eqB F 21 (dk dtX7_stale_0 6 rfl) (by decide) (fun c10 => ?_) (fun c10 => ?_)
  · -- taken at 10
    refine g_iconst F (-1) (dk dtX7_stale_0 11 rfl) (by decide) ?_
    refine g_iret (F := F) hQ (dk dtX7_stale_0 12 rfl) ?_
    exact ⟨rfl, rfl, rfl⟩
  · -- not taken at 10
    refine g_aload_n F 0 (dk dtX7_stale_0 7 rfl) rfl ?_
    refine g_iload_n F 2 (dk dtX7_stale_0 8 rfl) rfl ?_
    refine g_callVi F (As := [.int x]) (st := []) cv_X7_151 (dk dtX7_stale_0 9 rfl) (by decide) (cm0 D B _ _) rfl rfl (Nat.le_of_ble_eq_true rfl) ⟨by decide, by decide⟩ (k_X7_isPlace l D B _ _ _ X hX (by omega)) (fun r15 T15 M15 hp15 => ?_)
    obtain ⟨e1, e2, e3⟩ := hp15
    replace e1 := e1.symm; replace e2 := e2.symm; replace e3 := e3.symm; subst e1; subst e2; subst e3
    refine g_if_neB F 23 (dk dtX7_stale_0 10 rfl) (by decide) (fun c18 => ?_) (fun c18 => ?_)
    · -- taken at 18
      exact absurd ⟨c10, c18⟩ hb
    · -- not taken at 18
      refine g_iconst F (-1) (dk dtX7_stale_0 11 rfl) (by decide) ?_
      refine g_iret (F := F) hQ (dk dtX7_stale_0 12 rfl) ?_
      exact ⟨rfl, rfl, rfl⟩
theorem k_X7_withTermsR (l : Launch) (D : DX) (B : Nat) (T : Int64) (M : Mem) (P : Nat) (hP : M 2 2 = nI P) (hP5 : P ≤ 5) (row : Nat → Int32) (hr : M 5 = row) : Ci l D B 14 (celM D B) yX7_withTerms cX7_withTerms 3 (some .int) 0 [.ref (B + 0)] T M (fun r T1 M1 => r = nI (nCnt (fun j => row (25 + j)) P) ∧ T1 = T ∧ M1 = M) := by
  subst hr
  exact k_X7_withTerms l D B T M P hP hP5
set_option maxRecDepth 100000 in
set_option maxHeartbeats 4000000 in
theorem k_X7_keep (l : Launch) (D : DX) (B : Nat) (T : Int64) (M : Mem) (h0 : M 0 0 = nI 0) (P : Nat) (hP : M 2 2 = nI P) (hP5 : P ≤ 5) (g : Nat) (hg : g < 2) : Ci l D B 14 (celM D B) yX7_keep cX7_keep 3 (some .int) 1 [.ref (B + 0), .int (nI g)] T M (fun r T1 M1 => r = nI (nCnt (fun j => M 5 (25 + j)) P) ∧ T1 = T ∧ M1 = up2 (setR M 7 (putn (M 7) (M 5) (31 * g) 31)) 8 g (nI 1)) := by
  refine g_entryi (L := [(0, .ref (B + 0)), (1, .int (nI g))]) (by decide) (Nat.le_of_ble_eq_true rfl) rfl ?_
  intro zp ze zs zm zb zt zc Q F hQ
  refine g_aload_n F 0 (dk dtX7_keep_0 0 rfl) rfl ?_
  refine g_iconst F (nI 0) (dk dtX7_keep_0 1 rfl) (by decide) ?_
  refine g_put F fa_X7_56 (dk dtX7_keep_0 2 rfl) (by decide) (cm0 D B _ _) (Nat.le_of_ble_eq_true rfl) rfl rfl ((cm0 D B _ _).trans st_Mod_0) ?_
  refine g_mem (up2_same h0) ?_
  refine g_iload_n F 1 (dk dtX7_keep_0 3 rfl) rfl ?_
  refine g_iconst F (nI 0) (dk dtX7_keep_0 4 rfl) (by decide) ?_
  refine g_iconst F (nI 1) (dk dtX7_keep_0 5 rfl) (by decide) ?_
  refine g_callSi F (As := [.int (nI g), .int (nI 0), .int (nI 1)]) (st := []) cs_X7_60 (dk dtX7_keep_0 6 rfl) rfl rfl (Nat.le_of_ble_eq_true rfl) ⟨by decide, by decide⟩ (k_X7_inR l D B _ _ _ 1 (by decide)) (fun r8 T8 M8 hp8 => ?_)
  obtain ⟨e1, e2, e3⟩ := hp8
  replace e1 := e1.symm; replace e2 := e2.symm; replace e3 := e3.symm; subst e1; subst e2; subst e3
  refine g_if_neB F 16 (dk dtX7_keep_0 7 rfl) (by decide) (fun _ => ?_) (fun c => absurd (inR_nI (by omega)) c)
  refine g_iconst F (nI 0) (dk dtX7_keep_0 10 rfl) (by decide) ?_
  refine g_istore_n F [(2, .int (nI 0)), (0, .ref (B + 0)), (1, .int (nI g))] (dk dtX7_keep_0 11 rfl) (by decide) rfl ?_
  have lp18 : ∀ (fz : Nat) (i : Nat), i ≤ 31 → (31 - i) < fz → G zp l ze { frames := 1, cells := 0, slots := 0, locals := 40 * 1 } zs zm [.ref (B + 0), .int (nI g)].toArray zb zt zc 3 D B 14 (celM D B) Q T (setR M 7 (putn (M 7) (M 5) (31 * g) i)) 18 [(0, .ref (B + 0)), (1, .int (nI g)), (2, .int (nI i))] [] := by
    intro n18
    induction n18 with
    | zero => intro i hI hn; exact absurd hn (Nat.not_lt_zero _)
    | succ n18 ih18 =>
      intro i hI18 hn18
      refine g_iload_n F 2 (dk dtX7_keep_0 12 rfl) rfl ?_
      refine g_bipush F (nI 31) (dk dtX7_keep_0 13 rfl) (by decide) ?_
      refine g_icmp_geN F 47 (dk dtX7_keep_0 14 rfl) (by decide) (by omega) (by omega) (fun c21 => ?_) (fun c21 => ?_)
      · -- taken at 21
        obtain rfl : 31 = i := by omega
        refine g_aload_n F 0 (dk dtX7_keep_0 29 rfl) rfl ?_
        refine g_get F fa_X7_31 (dk dtX7_keep_0 30 rfl) (by decide) (cm0 D B _ _) rfl ?_
        refine g_iload_n F 1 (dk dtX7_keep_0 31 rfl) rfl ?_
        refine g_iconst F (nI 1) (dk dtX7_keep_0 32 rfl) (by decide) ?_
        refine g_zast F (g) (dk dtX7_keep_0 33 rfl) (by decide) (fun r => cm8 D B _ r) (by omega) (by decide) (by decide) ?_
        refine g_aload_n F 0 (dk dtX7_keep_0 34 rfl) rfl ?_
        refine g_callVi F (As := []) (st := []) cv_X7_197 (dk dtX7_keep_0 35 rfl) (by decide) (cm0 D B _ _) rfl rfl (Nat.le_of_ble_eq_true rfl) ⟨by decide, by decide⟩ (k_X7_withTermsR l D B _ _ P ((congrFun (up2_ne _ _ (by decide)) _).trans ((congrFun (setR_ne _ _ (by decide)) _).trans hP)) hP5 (M 5) ((up2_ne _ _ (by decide)).trans (setR_ne _ _ (by decide)))) (fun r55 T55 M55 hp55 => ?_)
        obtain ⟨e1, e2, e3⟩ := hp55
        replace e1 := e1.symm; replace e2 := e2.symm; replace e3 := e3.symm; subst e1; subst e2; subst e3
        refine g_iret (F := F) hQ (dk dtX7_keep_0 36 rfl) ?_
        exact ⟨rfl, rfl, rfl⟩
      · -- not taken at 21
        refine g_aload_n F 0 (dk dtX7_keep_0 15 rfl) rfl ?_
        refine g_get F fa_X7_28 (dk dtX7_keep_0 16 rfl) (by decide) (cm0 D B _ _) rfl ?_
        refine g_bipush F (nI 31) (dk dtX7_keep_0 17 rfl) (by decide) ?_
        refine g_iload_n F 1 (dk dtX7_keep_0 18 rfl) rfl ?_
        refine g_imulN F (dk dtX7_keep_0 19 rfl) ?_
        refine g_iload_n F 2 (dk dtX7_keep_0 20 rfl) rfl ?_
        refine g_iaddN F (dk dtX7_keep_0 21 rfl) ?_
        refine g_aload_n F 0 (dk dtX7_keep_0 22 rfl) rfl ?_
        refine g_get F fa_X7_22 (dk dtX7_keep_0 23 rfl) (by decide) (cm0 D B _ _) rfl ?_
        refine g_iload_n F 2 (dk dtX7_keep_0 24 rfl) rfl ?_
        refine g_iald F (i) (dk dtX7_keep_0 25 rfl) (by decide) (cm5 D B _ _) (by omega) (by decide) ?_
        refine g_top (congrFun (setR_ne _ _ (by decide)) _) ?_
        refine g_iast F ((31 * g) + i) (dk dtX7_keep_0 26 rfl) (by decide) (fun r => cm7 D B _ r) (by omega) (by decide) ?_
        refine g_iinc F 2 (nI (i + 1)) [(2, .int (nI (i + 1))), (0, .ref (B + 0)), (1, .int (nI g))] (dk dtX7_keep_0 27 rfl) rfl (nI_1 _) (by decide) rfl ?_
        refine g_goto F 18 (dk dtX7_keep_0 28 rfl) (by decide) ?_
        refine g_sub [1, 2, 0] (L1 := [(0, .ref (B + 0)), (1, .int (nI g)), (2, .int (nI (i + 1)))]) rfl ?_
        refine g_st (M1 := setR M 7 (putn (M 7) (M 5) (31 * g) (i + 1))) (L1 := [(0, .ref (B + 0)), (1, .int (nI g)), (2, .int (nI (i + 1)))]) (by rw [up2_setR]; exact congrArg (setR M 7) (putn_s _ _ _ _)) rfl rfl ?_
        exact ih18 (i + 1) (by omega) (by omega)
  refine g_sub [1, 2, 0] (L1 := [(0, .ref (B + 0)), (1, .int (nI g)), (2, .int (nI 0))]) rfl ?_
  exact g_mem (putn_0 rfl _ _) (lp18 32 0 (by omega) (by omega))
set_option maxRecDepth 100000 in
set_option maxHeartbeats 4000000 in
theorem k_X7_keep_bad (l : Launch) (D : DX) (B : Nat) (T : Int64) (M : Mem) (h0 : M 0 0 = nI 0) (g : Int32) (hb : ¬ inR g 2) : Ci l D B 14 (celM D B) yX7_keep cX7_keep 3 (some .int) 1 [.ref (B + 0), .int g] T M (fun rz T1 M1 => rz = (-1) ∧ T1 = T ∧ M1 = M) := by
  refine g_entryi (L := [(0, .ref (B + 0)), (1, .int g)]) (by decide) (Nat.le_of_ble_eq_true rfl) rfl ?_
  intro zp ze zs zm zb zt zc Q F hQ
  refine g_aload_n F 0 (dk dtX7_keep_0 0 rfl) rfl ?_
  refine g_iconst F (nI 0) (dk dtX7_keep_0 1 rfl) (by decide) ?_
  refine g_put F fa_X7_56 (dk dtX7_keep_0 2 rfl) (by decide) (cm0 D B _ _) (Nat.le_of_ble_eq_true rfl) rfl rfl ((cm0 D B _ _).trans st_Mod_0) ?_
  refine g_mem (up2_same h0) ?_
  refine g_iload_n F 1 (dk dtX7_keep_0 3 rfl) rfl ?_
  refine g_iconst F (nI 0) (dk dtX7_keep_0 4 rfl) (by decide) ?_
  refine g_iconst F (nI 1) (dk dtX7_keep_0 5 rfl) (by decide) ?_
  refine g_callSi F (As := [.int g, .int (nI 0), .int (nI 1)]) (st := []) cs_X7_60 (dk dtX7_keep_0 6 rfl) rfl rfl (Nat.le_of_ble_eq_true rfl) ⟨by decide, by decide⟩ (k_X7_inR l D B _ _ _ 1 (by decide)) (fun r8 T8 M8 hp8 => ?_)
  obtain ⟨e1, e2, e3⟩ := hp8
  replace e1 := e1.symm; replace e2 := e2.symm; replace e3 := e3.symm; subst e1; subst e2; subst e3
  refine g_if_neB F 16 (dk dtX7_keep_0 7 rfl) (by decide) (fun c11 => ?_) (fun c11 => ?_)
  · -- taken at 11
    exact absurd c11 hb
  · -- not taken at 11
    refine g_iconst F (-1) (dk dtX7_keep_0 8 rfl) (by decide) ?_
    refine g_iret (F := F) hQ (dk dtX7_keep_0 9 rfl) ?_
    exact ⟨rfl, rfl, rfl⟩
set_option maxRecDepth 100000 in
set_option maxHeartbeats 4000000 in
theorem k_X7_back (l : Launch) (D : DX) (B : Nat) (T : Int64) (M : Mem) (h0 : M 0 0 = nI 0) (P : Nat) (hP : M 2 2 = nI P) (hP5 : P ≤ 5) (g : Nat) (hg : g < 2) (hs : M 8 g = nI 1) : Ci l D B 14 (celM D B) yX7_back cX7_back 3 (some .int) 1 [.ref (B + 0), .int (nI g)] T M (fun r T1 M1 => r = nI (nCnt (fun j => M 7 (31 * g + (25 + j))) P) ∧ T1 = T ∧ M1 = up2 (setR M 5 (fun j => M 7 (31 * g + j))) 0 18 (nI 0)) := by
  refine g_entryi (L := [(0, .ref (B + 0)), (1, .int (nI g))]) (by decide) (Nat.le_of_ble_eq_true rfl) rfl ?_
  intro zp ze zs zm zb zt zc Q F hQ
  refine g_aload_n F 0 (dk dtX7_back_0 0 rfl) rfl ?_
  refine g_iconst F (nI 0) (dk dtX7_back_0 1 rfl) (by decide) ?_
  refine g_put F fa_X7_56 (dk dtX7_back_0 2 rfl) (by decide) (cm0 D B _ _) (Nat.le_of_ble_eq_true rfl) rfl rfl ((cm0 D B _ _).trans st_Mod_0) ?_
  refine g_mem (up2_same h0) ?_
  refine g_iload_n F 1 (dk dtX7_back_0 3 rfl) rfl ?_
  refine g_iconst F (nI 0) (dk dtX7_back_0 4 rfl) (by decide) ?_
  refine g_iconst F (nI 1) (dk dtX7_back_0 5 rfl) (by decide) ?_
  refine g_callSi F (As := [.int (nI g), .int (nI 0), .int (nI 1)]) (st := []) cs_X7_60 (dk dtX7_back_0 6 rfl) rfl rfl (Nat.le_of_ble_eq_true rfl) ⟨by decide, by decide⟩ (k_X7_inR l D B _ _ _ 1 (by decide)) (fun r8 T8 M8 hp8 => ?_)
  obtain ⟨e1, e2, e3⟩ := hp8
  replace e1 := e1.symm; replace e2 := e2.symm; replace e3 := e3.symm; subst e1; subst e2; subst e3
  refine g_if_neB F 16 (dk dtX7_back_0 7 rfl) (by decide) (fun _ => ?_) (fun c => absurd (inR_nI (by omega)) c)
  refine g_aload_n F 0 (dk dtX7_back_0 10 rfl) rfl ?_
  refine g_get F fa_X7_31 (dk dtX7_back_0 11 rfl) (by decide) (cm0 D B _ _) rfl ?_
  refine g_iload_n F 1 (dk dtX7_back_0 12 rfl) rfl ?_
  refine g_zald F (g) (dk dtX7_back_0 13 rfl) (by decide) (cm8 D B _ _) (by omega) (by decide) ?_
  refine g_top hs ?_
  refine g_if_neN F 28 (dk dtX7_back_0 14 rfl) (by decide) (by decide) (fun _ => ?_) (fun c => absurd c (by decide))
  refine g_iconst F (nI 0) (dk dtX7_back_0 17 rfl) (by decide) ?_
  refine g_istore_n F [(2, .int (nI 0)), (0, .ref (B + 0)), (1, .int (nI g))] (dk dtX7_back_0 18 rfl) (by decide) rfl ?_
  have lp30 : ∀ (fz : Nat) (i : Nat), i ≤ 31 → (31 - i) < fz → G zp l ze { frames := 1, cells := 0, slots := 0, locals := 40 * 1 } zs zm [.ref (B + 0), .int (nI g)].toArray zb zt zc 3 D B 14 (celM D B) Q T (setR M 5 (cpR (fun j => M 7 (31 * g + j)) (M 5) i)) 30 [(0, .ref (B + 0)), (1, .int (nI g)), (2, .int (nI i))] [] := by
    intro n30
    induction n30 with
    | zero => intro i hI hn; exact absurd hn (Nat.not_lt_zero _)
    | succ n30 ih30 =>
      intro i hI30 hn30
      refine g_iload_n F 2 (dk dtX7_back_0 19 rfl) rfl ?_
      refine g_bipush F (nI 31) (dk dtX7_back_0 20 rfl) (by decide) ?_
      refine g_icmp_geN F 59 (dk dtX7_back_0 21 rfl) (by decide) (by omega) (by omega) (fun c33 => ?_) (fun c33 => ?_)
      · -- taken at 33
        obtain rfl : 31 = i := by omega
        refine g_row (fun j => M 7 (31 * g + j)) (fun r => cm5 D B _ r) (fun j hj => by rw [setR_self]; exact cpR_in _ _ hj) ?_
        refine g_mem (setR_setR _ _ _ _) ?_
        refine g_aload_n F 0 (dk dtX7_back_0 36 rfl) rfl ?_
        refine g_iconst F (nI 0) (dk dtX7_back_0 37 rfl) (by decide) ?_
        refine g_put F fa_X7_122 (dk dtX7_back_0 38 rfl) (by decide) (cm0 D B _ _) (Nat.le_of_ble_eq_true rfl) rfl rfl ((cm0 D B _ _).trans st_Mod_18) ?_
        refine g_aload_n F 0 (dk dtX7_back_0 39 rfl) rfl ?_
        refine g_callVi F (As := []) (st := []) cv_X7_197 (dk dtX7_back_0 40 rfl) (by decide) (cm0 D B _ _) rfl rfl (Nat.le_of_ble_eq_true rfl) ⟨by decide, by decide⟩ (k_X7_withTermsR l D B _ _ P ((congrFun (up2_ne _ _ (by decide)) _).trans ((congrFun (setR_ne _ _ (by decide)) _).trans hP)) hP5 (fun j => M 7 (31 * g + j)) ((up2_ne _ _ (by decide)).trans (setR_self _ _ _))) (fun r65 T65 M65 hp65 => ?_)
        obtain ⟨e1, e2, e3⟩ := hp65
        replace e1 := e1.symm; replace e2 := e2.symm; replace e3 := e3.symm; subst e1; subst e2; subst e3
        refine g_iret (F := F) hQ (dk dtX7_back_0 41 rfl) ?_
        exact ⟨rfl, rfl, rfl⟩
      · -- not taken at 33
        refine g_aload_n F 0 (dk dtX7_back_0 22 rfl) rfl ?_
        refine g_get F fa_X7_22 (dk dtX7_back_0 23 rfl) (by decide) (cm0 D B _ _) rfl ?_
        refine g_iload_n F 2 (dk dtX7_back_0 24 rfl) rfl ?_
        refine g_aload_n F 0 (dk dtX7_back_0 25 rfl) rfl ?_
        refine g_get F fa_X7_28 (dk dtX7_back_0 26 rfl) (by decide) (cm0 D B _ _) rfl ?_
        refine g_bipush F (nI 31) (dk dtX7_back_0 27 rfl) (by decide) ?_
        refine g_iload_n F 1 (dk dtX7_back_0 28 rfl) rfl ?_
        refine g_imulN F (dk dtX7_back_0 29 rfl) ?_
        refine g_iload_n F 2 (dk dtX7_back_0 30 rfl) rfl ?_
        refine g_iaddN F (dk dtX7_back_0 31 rfl) ?_
        refine g_iald F ((31 * g) + i) (dk dtX7_back_0 32 rfl) (by decide) (cm7 D B _ _) (by omega) (by decide) ?_
        refine g_top (congrFun (setR_ne _ _ (by decide)) _) ?_
        refine g_iast F (i) (dk dtX7_back_0 33 rfl) (by decide) (fun r => cm5 D B _ r) (by omega) (by decide) ?_
        refine g_iinc F 2 (nI (i + 1)) [(2, .int (nI (i + 1))), (0, .ref (B + 0)), (1, .int (nI g))] (dk dtX7_back_0 34 rfl) rfl (nI_1 _) (by decide) rfl ?_
        refine g_goto F 30 (dk dtX7_back_0 35 rfl) (by decide) ?_
        refine g_sub [1, 2, 0] (L1 := [(0, .ref (B + 0)), (1, .int (nI g)), (2, .int (nI (i + 1)))]) rfl ?_
        refine g_st (M1 := setR M 5 (cpR (fun j => M 7 (31 * g + j)) (M 5) (i + 1))) (L1 := [(0, .ref (B + 0)), (1, .int (nI g)), (2, .int (nI (i + 1)))]) (by rw [up2_setR]; exact congrArg (setR _ 5) (cpR_s (fun j => M 7 (31 * g + j)) _ _)) rfl rfl ?_
        exact ih30 (i + 1) (by omega) (by omega)
  refine g_sub [1, 2, 0] (L1 := [(0, .ref (B + 0)), (1, .int (nI g)), (2, .int (nI 0))]) rfl ?_
  refine g_mem (cpB_0 M g) ?_
  exact lp30 32 0 (by omega) (by omega)
set_option maxRecDepth 100000 in
set_option maxHeartbeats 4000000 in
theorem k_X7_back_state (l : Launch) (D : DX) (B : Nat) (T : Int64) (M : Mem) (h0 : M 0 0 = nI 0) (g : Nat) (hg : g < 2) (hs : M 8 g = nI 0) : Ci l D B 14 (celM D B) yX7_back cX7_back 3 (some .int) 1 [.ref (B + 0), .int (nI g)] T M (fun rz T1 M1 => rz = (-2) ∧ T1 = T ∧ M1 = M) := by
  refine g_entryi (L := [(0, .ref (B + 0)), (1, .int (nI g))]) (by decide) (Nat.le_of_ble_eq_true rfl) rfl ?_
  intro zp ze zs zm zb zt zc Q F hQ
  refine g_aload_n F 0 (dk dtX7_back_0 0 rfl) rfl ?_
  refine g_iconst F (nI 0) (dk dtX7_back_0 1 rfl) (by decide) ?_
  refine g_put F fa_X7_56 (dk dtX7_back_0 2 rfl) (by decide) (cm0 D B _ _) (Nat.le_of_ble_eq_true rfl) rfl rfl ((cm0 D B _ _).trans st_Mod_0) ?_
  refine g_mem (up2_same h0) ?_
  refine g_iload_n F 1 (dk dtX7_back_0 3 rfl) rfl ?_
  refine g_iconst F (nI 0) (dk dtX7_back_0 4 rfl) (by decide) ?_
  refine g_iconst F (nI 1) (dk dtX7_back_0 5 rfl) (by decide) ?_
  refine g_callSi F (As := [.int (nI g), .int (nI 0), .int (nI 1)]) (st := []) cs_X7_60 (dk dtX7_back_0 6 rfl) rfl rfl (Nat.le_of_ble_eq_true rfl) ⟨by decide, by decide⟩ (k_X7_inR l D B _ _ _ 1 (by decide)) (fun r8 T8 M8 hp8 => ?_)
  obtain ⟨e1, e2, e3⟩ := hp8
  replace e1 := e1.symm; replace e2 := e2.symm; replace e3 := e3.symm; subst e1; subst e2; subst e3
  refine g_if_neB F 16 (dk dtX7_back_0 7 rfl) (by decide) (fun _ => ?_) (fun c => absurd (inR_nI (by omega)) c)
  refine g_aload_n F 0 (dk dtX7_back_0 10 rfl) rfl ?_
  refine g_get F fa_X7_31 (dk dtX7_back_0 11 rfl) (by decide) (cm0 D B _ _) rfl ?_
  refine g_iload_n F 1 (dk dtX7_back_0 12 rfl) rfl ?_
  refine g_zald F (g) (dk dtX7_back_0 13 rfl) (by decide) (cm8 D B _ _) (by omega) (by decide) ?_
  refine g_top hs ?_
  refine g_if_neN F 28 (dk dtX7_back_0 14 rfl) (by decide) (by decide) (fun c => absurd c (by decide)) (fun _ => ?_)
  refine g_bipush F (-2) (dk dtX7_back_0 15 rfl) (by decide) ?_
  refine g_iret (F := F) hQ (dk dtX7_back_0 16 rfl) ?_
  exact ⟨rfl, rfl, rfl⟩
set_option maxRecDepth 100000 in
set_option maxHeartbeats 4000000 in
theorem k_X7_back_bad (l : Launch) (D : DX) (B : Nat) (T : Int64) (M : Mem) (h0 : M 0 0 = nI 0) (g : Int32) (hb : ¬ inR g 2) : Ci l D B 14 (celM D B) yX7_back cX7_back 3 (some .int) 1 [.ref (B + 0), .int g] T M (fun rz T1 M1 => rz = (-1) ∧ T1 = T ∧ M1 = M) := by
  refine g_entryi (L := [(0, .ref (B + 0)), (1, .int g)]) (by decide) (Nat.le_of_ble_eq_true rfl) rfl ?_
  intro zp ze zs zm zb zt zc Q F hQ
  refine g_aload_n F 0 (dk dtX7_back_0 0 rfl) rfl ?_
  refine g_iconst F (nI 0) (dk dtX7_back_0 1 rfl) (by decide) ?_
  refine g_put F fa_X7_56 (dk dtX7_back_0 2 rfl) (by decide) (cm0 D B _ _) (Nat.le_of_ble_eq_true rfl) rfl rfl ((cm0 D B _ _).trans st_Mod_0) ?_
  refine g_mem (up2_same h0) ?_
  refine g_iload_n F 1 (dk dtX7_back_0 3 rfl) rfl ?_
  refine g_iconst F (nI 0) (dk dtX7_back_0 4 rfl) (by decide) ?_
  refine g_iconst F (nI 1) (dk dtX7_back_0 5 rfl) (by decide) ?_
  refine g_callSi F (As := [.int g, .int (nI 0), .int (nI 1)]) (st := []) cs_X7_60 (dk dtX7_back_0 6 rfl) rfl rfl (Nat.le_of_ble_eq_true rfl) ⟨by decide, by decide⟩ (k_X7_inR l D B _ _ _ 1 (by decide)) (fun r8 T8 M8 hp8 => ?_)
  obtain ⟨e1, e2, e3⟩ := hp8
  replace e1 := e1.symm; replace e2 := e2.symm; replace e3 := e3.symm; subst e1; subst e2; subst e3
  refine g_if_neB F 16 (dk dtX7_back_0 7 rfl) (by decide) (fun c11 => ?_) (fun c11 => ?_)
  · -- taken at 11
    exact absurd c11 hb
  · -- not taken at 11
    refine g_iconst F (-1) (dk dtX7_back_0 8 rfl) (by decide) ?_
    refine g_iret (F := F) hQ (dk dtX7_back_0 9 rfl) ?_
    exact ⟨rfl, rfl, rfl⟩
