def tym (M : Mem) (a t s v q : Int32) : Mem := setR M 0 (upd (upd (upd (upd (upd (M 0) 4 a) 5 t) 6 s) 7 v) 8 q)
theorem tym_4 (M : Mem) (a t s v q : Int32) : tym M a t s v q 0 4 = a := by simp [tym, setR, upd]
theorem tym_5 (M : Mem) (a t s v q : Int32) : tym M a t s v q 0 5 = t := by simp [tym, setR, upd]
theorem tym_6 (M : Mem) (a t s v q : Int32) : tym M a t s v q 0 6 = s := by simp [tym, setR, upd]
theorem tym_7 (M : Mem) (a t s v q : Int32) : tym M a t s v q 0 7 = v := by simp [tym, setR, upd]
theorem tym_8 (M : Mem) (a t s v q : Int32) : tym M a t s v q 0 8 = q := by simp [tym, setR, upd]
theorem tym_o (M : Mem) (a t s v q : Int32) {j : Nat} (h : j < 4 ∨ 8 < j) : tym M a t s v q 0 j = M 0 j := by
  unfold tym
  rw [setR_self, pk_un (by omega), pk_un (by omega), pk_un (by omega), pk_un (by omega), pk_un (by omega)]
theorem tym_ne (M : Mem) (a t s v q : Int32) {c : Nat} (h : c ≠ 0) : tym M a t s v q c = M c := setR_ne _ _ h
theorem tym_up (M : Mem) (a t s v q : Int32) (j : Nat) (x : Int32) : up2 (tym M a t s v q) 0 j x = setR M 0 (upd (upd (upd (upd (upd (upd (M 0) 4 a) 5 t) 6 s) 7 v) 8 q) j x) := by
  unfold tym
  exact up2_setR M 0 j _ x
theorem tym_w4 (M : Mem) (a t s v q x : Int32) : up2 (tym M a t s v q) 0 4 x = tym M x t s v q := by
  rw [tym_up]
  unfold tym
  congr 1
  funext j
  by_cases h6 : j = 4
  · subst h6; simp [upd]
  · simp [upd, h6]
theorem tym_w5 (M : Mem) (a t s v q x : Int32) : up2 (tym M a t s v q) 0 5 x = tym M a x s v q := by
  rw [tym_up]
  unfold tym
  congr 1
  funext j
  by_cases h6 : j = 5
  · subst h6; simp [upd]
  · simp [upd, h6]
theorem tym_w6 (M : Mem) (a t s v q x : Int32) : up2 (tym M a t s v q) 0 6 x = tym M a t x v q := by
  rw [tym_up]
  unfold tym
  congr 1
  funext j
  by_cases h6 : j = 6
  · subst h6; simp [upd]
  · simp [upd, h6]
theorem tym_w7 (M : Mem) (a t s v q x : Int32) : up2 (tym M a t s v q) 0 7 x = tym M a t s x q := by
  rw [tym_up]
  unfold tym
  congr 1
  funext j
  by_cases h6 : j = 7
  · subst h6; simp [upd]
  · simp [upd, h6]
theorem tym_w8 (M : Mem) (a t s v q x : Int32) : up2 (tym M a t s v q) 0 8 x = tym M a t s v x := by
  rw [tym_up]
  unfold tym
  congr 1
  funext j
  by_cases h6 : j = 8
  · subst h6; simp [upd]
  · simp [upd, h6]
def la (f : Nat → Int32) (n k : Nat) : Int32 := if k < n then f k else -1
theorem la_in {f : Nat → Int32} {n k : Nat} (h : k < n) : la f n k = f k := if_pos h
theorem la_32 {f : Nat → Int32} {n k : Nat} (h : la f n k = nI 32) : k < n ∧ f k = nI 32 := by
  unfold la at h
  split at h
  · rename_i c
    exact ⟨c, h⟩
  · exact absurd h (by decide)
theorem la_i32 {f : Nat → Int32} {n k : Nat} (h : k < n ∧ f k = nI 32) : la f n k = nI 32 := by
  rw [la_in h.1]
  exact h.2
theorem la_pos {f : Nat → Int32} {n k : Nat} (h : 0 ≤ la f n k) : k < n := by
  unfold la at h
  split at h
  · rename_i c
    exact c
  · exact absurd h (by decide)
theorem la_nn {f : Nat → Int32} {n k : Nat} (hL : ∀ j, j < n → inR (f j) 256) (h : k < n) : 0 ≤ la f n k := by
  rw [la_in h]
  exact Int32.not_lt.mp (hL k h).1
theorem dg_y {f : Nat → Int32} {n k : Nat} (h : dg (la f n k)) : k < n ∧ dg (f k) := by
  unfold la at h
  split at h
  · rename_i c
    exact ⟨c, h⟩
  · exact absurd h (by decide)
theorem dg_n {f : Nat → Int32} {n k : Nat} (h : ¬ dg (la f n k)) : ¬ (k < n ∧ dg (f k)) := fun q => h (by rw [la_in q.1]; exact q.2)
def vmW (f : Nat → Int32) (n : Nat) : Nat → Nat → Int32 → Int32
  | 0, _, v => v
  | u + 1, a, v => if a < n ∧ dg (f a) then vmW f n u (a + 1) (if v ≤ nI 99 then nI 10 * v + f a - nI 48 else v) else v
def vm (f : Nat → Int32) (n a : Nat) (v : Int32) : Int32 := vmW f n (n - a) a v
theorem vm_s {f : Nat → Int32} {n a : Nat} {v : Int32} (h : ¬ n ≤ a) (hd : dg (f a)) : vm f n a v = vm f n (a + 1) (if v ≤ nI 99 then nI 10 * v + f a - nI 48 else v) := by
  unfold vm
  rw [show n - a = (n - (a + 1)) + 1 by omega]
  exact if_pos ⟨by omega, hd⟩
theorem vm_e {f : Nat → Int32} {n a : Nat} {v : Int32} (h : ¬ (a < n ∧ dg (f a))) : vm f n a v = v := by
  unfold vm
  cases n - a with
  | zero => rfl
  | succ u => exact if_neg h
def tkM (f : Nat → Int32) (n a : Nat) : Nat := if nI 99 < vm f n a (nI 0) ∨ (f a = nI 48 ∧ 1 < de f n a - a) then 4 else 2
def tkd (f : Nat → Int32) (n a : Nat) : Nat := if n ≤ sk f n a then 0 else if dg (f (sk f n a)) then tkM f n (sk f n a) else if f (sk f n a) = nI 59 then 3 else if f (sk f n a) = nI 107 ∨ f (sk f n a) = nI 120 ∨ f (sk f n a) = nI 112 then 1 else 4
def vl (f : Nat → Int32) (n a : Nat) (v : Int32) : Int32 := if n ≤ sk f n a then v else if dg (f (sk f n a)) then vm f n (sk f n a) (nI 0) else f (sk f n a)
set_option maxRecDepth 100000 in
set_option maxHeartbeats 4000000 in
theorem k_X7_letterAt (l : Launch) (D : DX) (B : Nat) (T : Int64) (M : Mem) (n k : Nat) (hn : M 0 3 = nI n) (hn9 : n ≤ 150) (hk : k < 2 ^ 31) (f : Nat → Int32) (hf : M 1 = f) : Ci l D B 14 (celM D B) yX7_letterAt cX7_letterAt 2 (some .int) 0 [.ref (B + 0), .int (nI k)] T M (fun rz T1 M1 => rz = (la f n k) ∧ T1 = T ∧ M1 = M) := by
  refine g_entryi (L := [(0, .ref (B + 0)), (1, .int (nI k))]) (by decide) (Nat.le_of_ble_eq_true rfl) rfl ?_
  intro zp ze zs zm zb zt zc Q F hQ
  refine g_iload_n F 1 (dk dtX7_letterAt_0 0 rfl) rfl ?_
  refine g_aload_n F 0 (dk dtX7_letterAt_0 1 rfl) rfl ?_
  refine g_get F fa_X7_64 (dk dtX7_letterAt_0 2 rfl) (by decide) (cm0 D B _ _) rfl ?_
  refine g_top hn ?_
  refine g_icmp_geN F 17 (dk dtX7_letterAt_0 3 rfl) (by decide) (by omega) (by omega) (fun c5 => ?_) (fun c5 => ?_)
  · -- taken at 5
    refine g_iconst F (-1) (dk dtX7_letterAt_0 9 rfl) (by decide) ?_
    refine g_iret (F := F) hQ (dk dtX7_letterAt_0 10 rfl) ?_
    exact ⟨(if_neg (Nat.not_lt.mpr c5)).symm, rfl, rfl⟩
  · -- not taken at 5
    refine g_aload_n F 0 (dk dtX7_letterAt_0 4 rfl) rfl ?_
    refine g_get F fa_X7_7 (dk dtX7_letterAt_0 5 rfl) (by decide) (cm0 D B _ _) rfl ?_
    refine g_iload_n F 1 (dk dtX7_letterAt_0 6 rfl) rfl ?_
    refine g_iald F (k) (dk dtX7_letterAt_0 7 rfl) (by decide) (cm1 D B _ _) (by omega) (by decide) ?_
    refine g_goto F 18 (dk dtX7_letterAt_0 8 rfl) (by decide) ?_
    refine g_iret (F := F) hQ (dk dtX7_letterAt_0 10 rfl) ?_
    exact ⟨by rw [hf]; exact (if_pos (Nat.not_le.mp c5)).symm, rfl, rfl⟩
set_option maxRecDepth 100000 in
set_option maxHeartbeats 4000000 in
theorem k_X7_isLetter (l : Launch) (D : DX) (B : Nat) (T : Int64) (M : Mem) (v : Int32) : Ci l D B 14 (celM D B) yX7_isLetter cX7_isLetter 1 (some .boolean) 0 [.int v] T M (fun rz T1 M1 => rz = (bI (v = nI 107 ∨ v = nI 120 ∨ v = nI 112)) ∧ T1 = T ∧ M1 = M) := by
  refine g_entryi (L := [(0, .int v)]) (by decide) (Nat.le_of_ble_eq_true rfl) rfl ?_
  intro zp ze zs zm zb zt zc Q F hQ
  refine g_iload_n F 0 (dk dtX7_isLetter_0 0 rfl) rfl ?_
  refine g_bipush F (nI 107) (dk dtX7_isLetter_0 1 rfl) (by decide) ?_
  refine g_icmp_eq F 18 (dk dtX7_isLetter_0 2 rfl) (by decide) (fun c3 => ?_) (fun c3 => ?_)
  · -- taken at 3
    refine g_iconst F (nI 1) (dk dtX7_isLetter_0 9 rfl) (by decide) ?_
    refine g_goto F 23 (dk dtX7_isLetter_0 10 rfl) (by decide) ?_
    refine g_zret (F := F) hQ (dk dtX7_isLetter_0 12 rfl) (rfl) ?_
    exact ⟨(bI_t (Or.inl c3)).symm, rfl, rfl⟩
  · -- not taken at 3
    refine g_iload_n F 0 (dk dtX7_isLetter_0 3 rfl) rfl ?_
    refine g_bipush F (nI 120) (dk dtX7_isLetter_0 4 rfl) (by decide) ?_
    refine g_icmp_eq F 18 (dk dtX7_isLetter_0 5 rfl) (by decide) (fun c9 => ?_) (fun c9 => ?_)
    · -- taken at 9
      refine g_iconst F (nI 1) (dk dtX7_isLetter_0 9 rfl) (by decide) ?_
      refine g_goto F 23 (dk dtX7_isLetter_0 10 rfl) (by decide) ?_
      refine g_zret (F := F) hQ (dk dtX7_isLetter_0 12 rfl) (rfl) ?_
      exact ⟨(bI_t (Or.inr (Or.inl c9))).symm, rfl, rfl⟩
    · -- not taken at 9
      refine g_iload_n F 0 (dk dtX7_isLetter_0 6 rfl) rfl ?_
      refine g_bipush F (nI 112) (dk dtX7_isLetter_0 7 rfl) (by decide) ?_
      refine g_icmp_ne F 22 (dk dtX7_isLetter_0 8 rfl) (by decide) (fun c15 => ?_) (fun c15 => ?_)
      · -- taken at 15
        refine g_iconst F (nI 0) (dk dtX7_isLetter_0 11 rfl) (by decide) ?_
        refine g_zret (F := F) hQ (dk dtX7_isLetter_0 12 rfl) (rfl) ?_
        exact ⟨(bI_f (fun h => h.elim c3 (fun h => h.elim c9 c15))).symm, rfl, rfl⟩
      · -- not taken at 15
        refine g_iconst F (nI 1) (dk dtX7_isLetter_0 9 rfl) (by decide) ?_
        refine g_goto F 23 (dk dtX7_isLetter_0 10 rfl) (by decide) ?_
        refine g_zret (F := F) hQ (dk dtX7_isLetter_0 12 rfl) (rfl) ?_
        exact ⟨(bI_t (Or.inr (Or.inr c15))).symm, rfl, rfl⟩
set_option maxRecDepth 100000 in
set_option maxHeartbeats 4000000 in
theorem k_X7_isWell (l : Launch) (D : DX) (B : Nat) (T : Int64) (M : Mem)  : Ci l D B 14 (celM D B) yX7_isWell cX7_isWell 1 (some .boolean) 0 [.ref (B + 0)] T M (fun rz T1 M1 => rz = (bI (M 0 8 < 0)) ∧ T1 = T ∧ M1 = M) := by
  refine g_entryi (L := [(0, .ref (B + 0))]) (by decide) (Nat.le_of_ble_eq_true rfl) rfl ?_
  intro zp ze zs zm zb zt zc Q F hQ
  refine g_aload_n F 0 (dk dtX7_isWell_0 0 rfl) rfl ?_
  refine g_get F fa_X7_87 (dk dtX7_isWell_0 1 rfl) (by decide) (cm0 D B _ _) rfl ?_
  refine g_if_ge F 11 (dk dtX7_isWell_0 2 rfl) (by decide) (fun c4 => ?_) (fun c4 => ?_)
  · -- taken at 4
    refine g_iconst F (nI 0) (dk dtX7_isWell_0 5 rfl) (by decide) ?_
    refine g_zret (F := F) hQ (dk dtX7_isWell_0 6 rfl) (rfl) ?_
    exact ⟨(bI_f (Int32.not_lt.mpr c4)).symm, rfl, rfl⟩
  · -- not taken at 4
    refine g_iconst F (nI 1) (dk dtX7_isWell_0 3 rfl) (by decide) ?_
    refine g_goto F 12 (dk dtX7_isWell_0 4 rfl) (by decide) ?_
    refine g_zret (F := F) hQ (dk dtX7_isWell_0 6 rfl) (rfl) ?_
    exact ⟨(bI_t (Int32.not_le.mp c4)).symm, rfl, rfl⟩
set_option maxRecDepth 100000 in
set_option maxHeartbeats 4000000 in
theorem k_X7_advances (l : Launch) (D : DX) (B : Nat) (T : Int64) (M : Mem) (n a : Nat) (hn : M 0 3 = nI n) (hn9 : n ≤ 150) (hL : ∀ j, j < n → inR (M 1 j) 256) (t s v q : Int32) (han : a ≤ n) : Cv l D B 14 (celM D B) yX7_advances cX7_advances 2 none 2 [.ref (B + 0)] T (tym M (nI a) t s v q) (fun T1 M1 => T1 = T ∧ M1 = tym M (nI (tn (M 1) n a)) (nI (tkd (M 1) n a)) (nI (sk (M 1) n a)) (vl (M 1) n a v) q) := by
  refine g_entryv (L := [(0, .ref (B + 0))]) (by decide) (Nat.le_of_ble_eq_true rfl) rfl ?_
  intro zp ze zs zm zb zt zc Q F hQ
  have lp0 : ∀ (fz : Nat) (e : Nat), (a ≤ e ∧ e ≤ n ∧ sk (M 1) n e = sk (M 1) n a) → (n - e) < fz → G zp l ze { frames := 2, cells := 0, slots := 0, locals := 40 * 2 } zs zm [.ref (B + 0)].toArray zb zt zc 2 D B 14 (celM D B) Q T (tym M (nI e) t s v q) 0 [(0, .ref (B + 0))] [] := by
    intro n0
    induction n0 with
    | zero => intro e hI hn; exact absurd hn (Nat.not_lt_zero _)
    | succ n0 ih0 =>
      intro e hI0 hn0
      obtain ⟨hae, hen, hsk⟩ := hI0
      refine g_aload_n F 0 (dk dtX7_advances_0 0 rfl) rfl ?_
      refine g_aload_n F 0 (dk dtX7_advances_0 1 rfl) rfl ?_
      refine g_get F fa_X7_67 (dk dtX7_advances_0 2 rfl) (by decide) (cm0 D B _ _) rfl ?_
      refine g_top (tym_4 _ _ _ _ _ _) ?_
      refine g_callVi F (As := [.int (nI e)]) (st := []) cv_X7_70 (dk dtX7_advances_0 3 rfl) (by decide) (cm0 D B _ _) rfl rfl (Nat.le_of_ble_eq_true rfl) ⟨by decide, by decide⟩ (k_X7_letterAt l D B _ _ n e ((tym_o _ _ _ _ _ _ (by decide)).trans hn) hn9 (by omega) (M 1) (tym_ne _ _ _ _ _ _ (by decide))) (fun r5 T5 M5 hp5 => ?_)
      obtain ⟨e1, e2, e3⟩ := hp5
      replace e1 := e1.symm; replace e2 := e2.symm; replace e3 := e3.symm; subst e1; subst e2; subst e3
      refine g_bipush F (nI 32) (dk dtX7_advances_0 4 rfl) (by decide) ?_
      refine g_icmp_ne F 26 (dk dtX7_advances_0 5 rfl) (by decide) (fun c10 => ?_) (fun c10 => ?_)
      · -- taken at 10
        refine g_aload_n F 0 (dk dtX7_advances_0 13 rfl) rfl ?_
        refine g_aload_n F 0 (dk dtX7_advances_0 14 rfl) rfl ?_
        refine g_get F fa_X7_67 (dk dtX7_advances_0 15 rfl) (by decide) (cm0 D B _ _) rfl ?_
        refine g_top (tym_4 _ _ _ _ _ _) ?_
        refine g_put F fa_X7_74 (dk dtX7_advances_0 16 rfl) (by decide) (cm0 D B _ _) (Nat.le_of_ble_eq_true rfl) rfl rfl ((cm0 D B _ _).trans st_Mod_6) ?_
        refine g_mem (tym_w6 _ _ _ _ _ _ _) ?_
        refine g_aload_n F 0 (dk dtX7_advances_0 17 rfl) rfl ?_
        refine g_aload_n F 0 (dk dtX7_advances_0 18 rfl) rfl ?_
        refine g_get F fa_X7_67 (dk dtX7_advances_0 19 rfl) (by decide) (cm0 D B _ _) rfl ?_
        refine g_top (tym_4 _ _ _ _ _ _) ?_
        refine g_callVi F (As := [.int (nI e)]) (st := []) cv_X7_70 (dk dtX7_advances_0 20 rfl) (by decide) (cm0 D B _ _) rfl rfl (Nat.le_of_ble_eq_true rfl) ⟨by decide, by decide⟩ (k_X7_letterAt l D B _ _ n e ((tym_o _ _ _ _ _ _ (by decide)).trans hn) hn9 (by omega) (M 1) (tym_ne _ _ _ _ _ _ (by decide))) (fun r39 T39 M39 hp39 => ?_)
        obtain ⟨e1, e2, e3⟩ := hp39
        replace e1 := e1.symm; replace e2 := e2.symm; replace e3 := e3.symm; subst e1; subst e2; subst e3
        refine g_istore_n F [(1, .int (la (M 1) n e)), (0, .ref (B + 0))] (dk dtX7_advances_0 21 rfl) (by decide) rfl ?_
        refine g_iload_n F 0 (dk dtX7_advances_0 22 rfl) rfl ?_
        refine g_if_ge F 55 (dk dtX7_advances_0 23 rfl) (by decide) (fun c44 => ?_) (fun c44 => ?_)
        · -- taken at 44
          have hel : e < n := la_pos c44
          refine g_st (M1 := tym M (nI e) t (nI e) v q) (L1 := [(1, .int (M 1 e)), (0, .ref (B + 0))]) rfl (lc (vi (la_in hel)) rfl) rfl ?_
          refine g_iload_n F 0 (dk dtX7_advances_0 28 rfl) rfl ?_
          refine g_bipush F (nI 48) (dk dtX7_advances_0 29 rfl) (by decide) ?_
          refine g_bipush F (nI 57) (dk dtX7_advances_0 30 rfl) (by decide) ?_
          refine g_callSi F (As := [.int (M 1 e), .int (nI 48), .int (nI 57)]) (st := []) cs_X7_60 (dk dtX7_advances_0 31 rfl) rfl rfl (Nat.le_of_ble_eq_true rfl) ⟨by decide, by decide⟩ (k_X7_in l D B _ _ _ _ _) (fun r60 T60 M60 hp60 => ?_)
          obtain ⟨e1, e2, e3⟩ := hp60
          replace e1 := e1.symm; replace e2 := e2.symm; replace e3 := e3.symm; subst e1; subst e2; subst e3
          refine g_if_eqB F 181 (dk dtX7_advances_0 32 rfl) (by decide) (fun c63 => ?_) (fun c63 => ?_)
          · -- taken at 63
            refine g_aload_n F 1 (dk dtX7_advances_1 31 rfl) rfl ?_
            refine g_dup F (dk dtX7_advances_1 32 rfl) rfl ?_
            refine g_get F fa_X7_67 (dk dtX7_advances_1 33 rfl) (by decide) (cm0 D B _ _) rfl ?_
            refine g_top (tym_4 _ _ _ _ _ _) ?_
            refine g_iconst F (nI 1) (dk dtX7_advances_1 34 rfl) (by decide) ?_
            refine g_iaddN F (dk dtX7_advances_1 35 rfl) ?_
            refine g_put F fa_X7_67 (dk dtX7_advances_1 36 rfl) (by decide) (cm0 D B _ _) (Nat.le_of_ble_eq_true rfl) rfl rfl ((cm0 D B _ _).trans st_Mod_4) ?_
            refine g_mem (tym_w4 _ _ _ _ _ _ _) ?_
            refine g_aload_n F 1 (dk dtX7_advances_1 37 rfl) rfl ?_
            refine g_iload_n F 0 (dk dtX7_advances_1 38 rfl) rfl ?_
            refine g_put F fa_X7_80 (dk dtX7_advances_1 39 rfl) (by decide) (cm0 D B _ _) (Nat.le_of_ble_eq_true rfl) rfl rfl ((cm0 D B _ _).trans st_Mod_7) ?_
            refine g_mem (tym_w7 _ _ _ _ _ _ _) ?_
            refine g_aload_n F 1 (dk dtX7_advances_1 40 rfl) rfl ?_
            refine g_iload_n F 0 (dk dtX7_advances_1 41 rfl) rfl ?_
            refine g_bipush F (nI 59) (dk dtX7_advances_1 42 rfl) (by decide) ?_
            refine g_icmp_ne F 207 (dk dtX7_advances_1 43 rfl) (by decide) (fun c200 => ?_) (fun c200 => ?_)
            · -- taken at 200
              refine g_iload_n F 0 (dk dtX7_advances_1 46 rfl) rfl ?_
              refine g_callSi F (As := [.int (M 1 e)]) (st := [.ref (B + 0)]) cs_X7_83 (dk dtX7_advances_1 47 rfl) rfl rfl (Nat.le_of_ble_eq_true rfl) ⟨by decide, by decide⟩ (k_X7_isLetter l D B _ _ _) (fun r208 T208 M208 hp208 => ?_)
              obtain ⟨e1, e2, e3⟩ := hp208
              replace e1 := e1.symm; replace e2 := e2.symm; replace e3 := e3.symm; subst e1; subst e2; subst e3
              refine g_if_eqB F 218 (dk dtX7_advances_1 48 rfl) (by decide) (fun c211 => ?_) (fun c211 => ?_)
              · -- taken at 211
                refine g_iconst F (nI 4) (dk dtX7_advances_1 51 rfl) (by decide) ?_
                refine g_put F fa_X7_77 (dk dtX7_advances_1 52 rfl) (by decide) (cm0 D B _ _) (Nat.le_of_ble_eq_true rfl) rfl rfl ((cm0 D B _ _).trans st_Mod_5) ?_
                refine g_mem (tym_w5 _ _ _ _ _ _ _) ?_
                refine g_vret (F := F) hQ (dk dtX7_advances_1 53 rfl) ?_
                have hE : sk (M 1) n a = e := by rw [← hsk]; exact sk_e (fun q => c10 (la_i32 q))
                refine ⟨rfl, ?_⟩
                simp only [tn, tkd, vl, hE, if_neg (Nat.not_le.mpr hel), if_neg c63]
                rw [if_neg c200, if_neg c211]
              · -- not taken at 211
                refine g_iconst F (nI 1) (dk dtX7_advances_1 49 rfl) (by decide) ?_
                refine g_goto F 219 (dk dtX7_advances_1 50 rfl) (by decide) ?_
                refine g_put F fa_X7_77 (dk dtX7_advances_1 52 rfl) (by decide) (cm0 D B _ _) (Nat.le_of_ble_eq_true rfl) rfl rfl ((cm0 D B _ _).trans st_Mod_5) ?_
                refine g_mem (tym_w5 _ _ _ _ _ _ _) ?_
                refine g_vret (F := F) hQ (dk dtX7_advances_1 53 rfl) ?_
                have hE : sk (M 1) n a = e := by rw [← hsk]; exact sk_e (fun q => c10 (la_i32 q))
                refine ⟨rfl, ?_⟩
                simp only [tn, tkd, vl, hE, if_neg (Nat.not_le.mpr hel), if_neg c63]
                rw [if_neg c200, if_pos c211]
            · -- not taken at 200
              refine g_iconst F (nI 3) (dk dtX7_advances_1 44 rfl) (by decide) ?_
              refine g_goto F 219 (dk dtX7_advances_1 45 rfl) (by decide) ?_
              refine g_put F fa_X7_77 (dk dtX7_advances_1 52 rfl) (by decide) (cm0 D B _ _) (Nat.le_of_ble_eq_true rfl) rfl rfl ((cm0 D B _ _).trans st_Mod_5) ?_
              refine g_mem (tym_w5 _ _ _ _ _ _ _) ?_
              refine g_vret (F := F) hQ (dk dtX7_advances_1 53 rfl) ?_
              have hE : sk (M 1) n a = e := by rw [← hsk]; exact sk_e (fun q => c10 (la_i32 q))
              refine ⟨rfl, ?_⟩
              simp only [tn, tkd, vl, hE, if_neg (Nat.not_le.mpr hel), if_neg c63]
              rw [if_pos c200]
          · -- not taken at 63
            refine g_aload_n F 1 (dk dtX7_advances_0 33 rfl) rfl ?_
            refine g_iconst F (nI 0) (dk dtX7_advances_0 34 rfl) (by decide) ?_
            refine g_put F fa_X7_80 (dk dtX7_advances_0 35 rfl) (by decide) (cm0 D B _ _) (Nat.le_of_ble_eq_true rfl) rfl rfl ((cm0 D B _ _).trans st_Mod_7) ?_
            refine g_mem (tym_w7 _ _ _ _ _ _ _) ?_
            have lp71 : ∀ (fz : Nat) (g : Nat) (w : Int32), (e ≤ g ∧ g ≤ n ∧ de (M 1) n g = de (M 1) n e ∧ vm (M 1) n g w = vm (M 1) n e (nI 0)) → (n - g) < fz → G zp l ze { frames := 2, cells := 0, slots := 0, locals := 40 * 2 } zs zm [.ref (B + 0)].toArray zb zt zc 2 D B 14 (celM D B) Q T (tym M (nI g) t (nI e) w q) 71 [(0, .ref (B + 0)), (1, .int (M 1 e))] [] := by
              intro n71
              induction n71 with
              | zero => intro g w hI hn; exact absurd hn (Nat.not_lt_zero _)
              | succ n71 ih71 =>
                intro g w hI71 hn71
                obtain ⟨heg, hgn, hde, hvm⟩ := hI71
                refine g_aload_n F 0 (dk dtX7_advances_0 36 rfl) rfl ?_
                refine g_aload_n F 0 (dk dtX7_advances_0 37 rfl) rfl ?_
                refine g_get F fa_X7_67 (dk dtX7_advances_0 38 rfl) (by decide) (cm0 D B _ _) rfl ?_
                refine g_top (tym_4 _ _ _ _ _ _) ?_
                refine g_callVi F (As := [.int (nI g)]) (st := []) cv_X7_70 (dk dtX7_advances_0 39 rfl) (by decide) (cm0 D B _ _) rfl rfl (Nat.le_of_ble_eq_true rfl) ⟨by decide, by decide⟩ (k_X7_letterAt l D B _ _ n g ((tym_o _ _ _ _ _ _ (by decide)).trans hn) hn9 (by omega) (M 1) (tym_ne _ _ _ _ _ _ (by decide))) (fun r76 T76 M76 hp76 => ?_)
                obtain ⟨e1, e2, e3⟩ := hp76
                replace e1 := e1.symm; replace e2 := e2.symm; replace e3 := e3.symm; subst e1; subst e2; subst e3
                refine g_bipush F (nI 48) (dk dtX7_advances_0 40 rfl) (by decide) ?_
                refine g_bipush F (nI 57) (dk dtX7_advances_0 41 rfl) (by decide) ?_
                refine g_callSi F (As := [.int (la (M 1) n g), .int (nI 48), .int (nI 57)]) (st := []) cs_X7_60 (dk dtX7_advances_0 42 rfl) rfl rfl (Nat.le_of_ble_eq_true rfl) ⟨by decide, by decide⟩ (k_X7_in l D B _ _ _ _ _) (fun r83 T83 M83 hp83 => ?_)
                obtain ⟨e1, e2, e3⟩ := hp83
                replace e1 := e1.symm; replace e2 := e2.symm; replace e3 := e3.symm; subst e1; subst e2; subst e3
                refine g_if_eqB F 141 (dk dtX7_advances_0 43 rfl) (by decide) (fun c86 => ?_) (fun c86 => ?_)
                · -- taken at 86
                  refine g_aload_n F 0 (dk dtX7_advances_1 11 rfl) rfl ?_
                  refine g_aload_n F 0 (dk dtX7_advances_1 12 rfl) rfl ?_
                  refine g_get F fa_X7_80 (dk dtX7_advances_1 13 rfl) (by decide) (cm0 D B _ _) rfl ?_
                  refine g_top (tym_7 _ _ _ _ _ _) ?_
                  refine g_bipush F (nI 99) (dk dtX7_advances_1 14 rfl) (by decide) ?_
                  refine g_icmp_gt F 170 (dk dtX7_advances_1 15 rfl) (by decide) (fun c148 => ?_) (fun c148 => ?_)
                  · -- taken at 148
                    refine g_iconst F (nI 4) (dk dtX7_advances_1 26 rfl) (by decide) ?_
                    refine g_goto F 175 (dk dtX7_advances_1 27 rfl) (by decide) ?_
                    refine g_put F fa_X7_77 (dk dtX7_advances_1 29 rfl) (by decide) (cm0 D B _ _) (Nat.le_of_ble_eq_true rfl) rfl rfl ((cm0 D B _ _).trans st_Mod_5) ?_
                    refine g_mem (tym_w5 _ _ _ _ _ _ _) ?_
                    refine g_goto F 222 (dk dtX7_advances_1 30 rfl) (by decide) ?_
                    refine g_vret (F := F) hQ (dk dtX7_advances_1 53 rfl) ?_
                    have hE : sk (M 1) n a = e := by rw [← hsk]; exact sk_e (fun q => c10 (la_i32 q))
                    refine ⟨rfl, ?_⟩
                    have hG : de (M 1) n e = g := by rw [← hde]; exact de_e (dg_n c86)
                    have hV : vm (M 1) n e (nI 0) = w := by rw [← hvm]; exact vm_e (dg_n c86)
                    simp only [tn, tkd, vl, hE, if_neg (Nat.not_le.mpr hel), if_pos c63, tkM, hG, hV]
                    rw [if_pos (Or.inl c148)]
                  · -- not taken at 148
                    refine g_iload_n F 1 (dk dtX7_advances_1 16 rfl) rfl ?_
                    refine g_bipush F (nI 48) (dk dtX7_advances_1 17 rfl) (by decide) ?_
                    refine g_icmp_ne F 174 (dk dtX7_advances_1 18 rfl) (by decide) (fun c154 => ?_) (fun c154 => ?_)
                    · -- taken at 154
                      refine g_iconst F (nI 2) (dk dtX7_advances_1 28 rfl) (by decide) ?_
                      refine g_put F fa_X7_77 (dk dtX7_advances_1 29 rfl) (by decide) (cm0 D B _ _) (Nat.le_of_ble_eq_true rfl) rfl rfl ((cm0 D B _ _).trans st_Mod_5) ?_
                      refine g_mem (tym_w5 _ _ _ _ _ _ _) ?_
                      refine g_goto F 222 (dk dtX7_advances_1 30 rfl) (by decide) ?_
                      refine g_vret (F := F) hQ (dk dtX7_advances_1 53 rfl) ?_
                      have hE : sk (M 1) n a = e := by rw [← hsk]; exact sk_e (fun q => c10 (la_i32 q))
                      refine ⟨rfl, ?_⟩
                      have hG : de (M 1) n e = g := by rw [← hde]; exact de_e (dg_n c86)
                      have hV : vm (M 1) n e (nI 0) = w := by rw [← hvm]; exact vm_e (dg_n c86)
                      simp only [tn, tkd, vl, hE, if_neg (Nat.not_le.mpr hel), if_pos c63, tkM, hG, hV]
                      rw [if_neg (fun q => q.elim c148 (fun q => c154 q.1))]
                    · -- not taken at 154
                      refine g_aload_n F 0 (dk dtX7_advances_1 19 rfl) rfl ?_
                      refine g_get F fa_X7_67 (dk dtX7_advances_1 20 rfl) (by decide) (cm0 D B _ _) rfl ?_
                      refine g_top (tym_4 _ _ _ _ _ _) ?_
                      refine g_aload_n F 0 (dk dtX7_advances_1 21 rfl) rfl ?_
                      refine g_get F fa_X7_74 (dk dtX7_advances_1 22 rfl) (by decide) (cm0 D B _ _) rfl ?_
                      refine g_top (tym_6 _ _ _ _ _ _) ?_
                      refine g_isubN F (dk dtX7_advances_1 23 rfl) (by omega) ?_
                      refine g_iconst F (nI 1) (dk dtX7_advances_1 24 rfl) (by decide) ?_
                      refine g_icmp_leN F 174 (dk dtX7_advances_1 25 rfl) (by decide) (by omega) (by omega) (fun c167 => ?_) (fun c167 => ?_)
                      · -- taken at 167
                        refine g_iconst F (nI 2) (dk dtX7_advances_1 28 rfl) (by decide) ?_
                        refine g_put F fa_X7_77 (dk dtX7_advances_1 29 rfl) (by decide) (cm0 D B _ _) (Nat.le_of_ble_eq_true rfl) rfl rfl ((cm0 D B _ _).trans st_Mod_5) ?_
                        refine g_mem (tym_w5 _ _ _ _ _ _ _) ?_
                        refine g_goto F 222 (dk dtX7_advances_1 30 rfl) (by decide) ?_
                        refine g_vret (F := F) hQ (dk dtX7_advances_1 53 rfl) ?_
                        have hE : sk (M 1) n a = e := by rw [← hsk]; exact sk_e (fun q => c10 (la_i32 q))
                        refine ⟨rfl, ?_⟩
                        have hG : de (M 1) n e = g := by rw [← hde]; exact de_e (dg_n c86)
                        have hV : vm (M 1) n e (nI 0) = w := by rw [← hvm]; exact vm_e (dg_n c86)
                        simp only [tn, tkd, vl, hE, if_neg (Nat.not_le.mpr hel), if_pos c63, tkM, hG, hV]
                        rw [if_neg (fun q => q.elim c148 (fun q => absurd q.2 (by omega)))]
                      · -- not taken at 167
                        refine g_iconst F (nI 4) (dk dtX7_advances_1 26 rfl) (by decide) ?_
                        refine g_goto F 175 (dk dtX7_advances_1 27 rfl) (by decide) ?_
                        refine g_put F fa_X7_77 (dk dtX7_advances_1 29 rfl) (by decide) (cm0 D B _ _) (Nat.le_of_ble_eq_true rfl) rfl rfl ((cm0 D B _ _).trans st_Mod_5) ?_
                        refine g_mem (tym_w5 _ _ _ _ _ _ _) ?_
                        refine g_goto F 222 (dk dtX7_advances_1 30 rfl) (by decide) ?_
                        refine g_vret (F := F) hQ (dk dtX7_advances_1 53 rfl) ?_
                        have hE : sk (M 1) n a = e := by rw [← hsk]; exact sk_e (fun q => c10 (la_i32 q))
                        refine ⟨rfl, ?_⟩
                        have hG : de (M 1) n e = g := by rw [← hde]; exact de_e (dg_n c86)
                        have hV : vm (M 1) n e (nI 0) = w := by rw [← hvm]; exact vm_e (dg_n c86)
                        simp only [tn, tkd, vl, hE, if_neg (Nat.not_le.mpr hel), if_pos c63, tkM, hG, hV]
                        rw [if_pos (Or.inr ⟨c154, by omega⟩)]
                · -- not taken at 86
                  have hdg := dg_y c86
                  refine g_aload_n F 0 (dk dtX7_advances_0 44 rfl) rfl ?_
                  refine g_aload_n F 0 (dk dtX7_advances_0 45 rfl) rfl ?_
                  refine g_get F fa_X7_80 (dk dtX7_advances_0 46 rfl) (by decide) (cm0 D B _ _) rfl ?_
                  refine g_top (tym_7 _ _ _ _ _ _) ?_
                  refine g_bipush F (nI 99) (dk dtX7_advances_0 47 rfl) (by decide) ?_
                  refine g_icmp_le F 106 (dk dtX7_advances_0 48 rfl) (by decide) (fun c96 => ?_) (fun c96 => ?_)
                  · -- taken at 96
                    refine g_bipush F (nI 10) (dk dtX7_advances_0 52 rfl) (by decide) ?_
                    refine g_aload_n F 0 (dk dtX7_advances_0 53 rfl) rfl ?_
                    refine g_get F fa_X7_80 (dk dtX7_advances_0 54 rfl) (by decide) (cm0 D B _ _) rfl ?_
                    refine g_top (tym_7 _ _ _ _ _ _) ?_
                    refine g_imul F (dk dtX7_advances_0 55 rfl) ?_
                    refine g_aload_n F 0 (dk dtX7_advances_0 56 rfl) rfl ?_
                    refine g_aload_n F 0 (dk dtX7_advances_0 57 rfl) rfl ?_
                    refine g_get F fa_X7_67 (dk dtX7_advances_0 58 rfl) (by decide) (cm0 D B _ _) rfl ?_
                    refine g_top (tym_4 _ _ _ _ _ _) ?_
                    refine g_callVi F (As := [.int (nI g)]) (st := [.int ((nI 10) * w), .ref (B + 0)]) cv_X7_70 (dk dtX7_advances_0 59 rfl) (by decide) (cm0 D B _ _) rfl rfl (Nat.le_of_ble_eq_true rfl) ⟨by decide, by decide⟩ (k_X7_letterAt l D B _ _ n g ((tym_o _ _ _ _ _ _ (by decide)).trans hn) hn9 (by omega) (M 1) (tym_ne _ _ _ _ _ _ (by decide))) (fun r118 T118 M118 hp118 => ?_)
                    obtain ⟨e1, e2, e3⟩ := hp118
                    replace e1 := e1.symm; replace e2 := e2.symm; replace e3 := e3.symm; subst e1; subst e2; subst e3
                    refine g_top (la_in hdg.1) ?_
                    refine g_iadd F (dk dtX7_advances_1 0 rfl) ?_
                    refine g_bipush F (nI 48) (dk dtX7_advances_1 1 rfl) (by decide) ?_
                    refine g_isub F (dk dtX7_advances_1 2 rfl) ?_
                    refine g_put F fa_X7_80 (dk dtX7_advances_1 3 rfl) (by decide) (cm0 D B _ _) (Nat.le_of_ble_eq_true rfl) rfl rfl ((cm0 D B _ _).trans st_Mod_7) ?_
                    refine g_mem (tym_w7 _ _ _ _ _ _ _) ?_
                    refine g_aload_n F 0 (dk dtX7_advances_1 4 rfl) rfl ?_
                    refine g_dup F (dk dtX7_advances_1 5 rfl) rfl ?_
                    refine g_get F fa_X7_67 (dk dtX7_advances_1 6 rfl) (by decide) (cm0 D B _ _) rfl ?_
                    refine g_top (tym_4 _ _ _ _ _ _) ?_
                    refine g_iconst F (nI 1) (dk dtX7_advances_1 7 rfl) (by decide) ?_
                    refine g_iaddN F (dk dtX7_advances_1 8 rfl) ?_
                    refine g_put F fa_X7_67 (dk dtX7_advances_1 9 rfl) (by decide) (cm0 D B _ _) (Nat.le_of_ble_eq_true rfl) rfl rfl ((cm0 D B _ _).trans st_Mod_4) ?_
                    refine g_mem (tym_w4 _ _ _ _ _ _ _) ?_
                    refine g_goto F 71 (dk dtX7_advances_1 10 rfl) (by decide) ?_
                    exact ih71 (g + 1) _ ⟨by omega, by omega, by rw [← hde, de_s (by omega) hdg.2], by rw [← hvm, vm_s (by omega) hdg.2, if_pos c96]⟩ (by omega)
                  · -- not taken at 96
                    refine g_aload_n F 0 (dk dtX7_advances_0 49 rfl) rfl ?_
                    refine g_get F fa_X7_80 (dk dtX7_advances_0 50 rfl) (by decide) (cm0 D B _ _) rfl ?_
                    refine g_top (tym_7 _ _ _ _ _ _) ?_
                    refine g_goto F 125 (dk dtX7_advances_0 51 rfl) (by decide) ?_
                    refine g_put F fa_X7_80 (dk dtX7_advances_1 3 rfl) (by decide) (cm0 D B _ _) (Nat.le_of_ble_eq_true rfl) rfl rfl ((cm0 D B _ _).trans st_Mod_7) ?_
                    refine g_mem (tym_w7 _ _ _ _ _ _ _) ?_
                    refine g_aload_n F 0 (dk dtX7_advances_1 4 rfl) rfl ?_
                    refine g_dup F (dk dtX7_advances_1 5 rfl) rfl ?_
                    refine g_get F fa_X7_67 (dk dtX7_advances_1 6 rfl) (by decide) (cm0 D B _ _) rfl ?_
                    refine g_top (tym_4 _ _ _ _ _ _) ?_
                    refine g_iconst F (nI 1) (dk dtX7_advances_1 7 rfl) (by decide) ?_
                    refine g_iaddN F (dk dtX7_advances_1 8 rfl) ?_
                    refine g_put F fa_X7_67 (dk dtX7_advances_1 9 rfl) (by decide) (cm0 D B _ _) (Nat.le_of_ble_eq_true rfl) rfl rfl ((cm0 D B _ _).trans st_Mod_4) ?_
                    refine g_mem (tym_w4 _ _ _ _ _ _ _) ?_
                    refine g_goto F 71 (dk dtX7_advances_1 10 rfl) (by decide) ?_
                    exact ih71 (g + 1) _ ⟨by omega, by omega, by rw [← hde, de_s (by omega) hdg.2], by rw [← hvm, vm_s (by omega) hdg.2, if_neg c96]⟩ (by omega)
            refine g_sub [1, 0] (L1 := [(0, .ref (B + 0)), (1, .int (M 1 e))]) rfl ?_
            exact lp71 (n + 1) e (nI 0) ⟨by omega, by omega, rfl, rfl⟩ (by omega)
        · -- not taken at 44
          refine g_aload_n F 1 (dk dtX7_advances_0 24 rfl) rfl ?_
          refine g_iconst F (nI 0) (dk dtX7_advances_0 25 rfl) (by decide) ?_
          refine g_put F fa_X7_77 (dk dtX7_advances_0 26 rfl) (by decide) (cm0 D B _ _) (Nat.le_of_ble_eq_true rfl) rfl rfl ((cm0 D B _ _).trans st_Mod_5) ?_
          refine g_mem (tym_w5 _ _ _ _ _ _ _) ?_
          refine g_goto F 222 (dk dtX7_advances_0 27 rfl) (by decide) ?_
          refine g_vret (F := F) hQ (dk dtX7_advances_1 53 rfl) ?_
          have hne : n ≤ e := Nat.not_lt.mp (fun q => c44 (la_nn hL q))
          have hE : sk (M 1) n a = e := by rw [← hsk]; exact sk_e (fun q => c10 (la_i32 q))
          refine ⟨rfl, ?_⟩
          simp only [tn, tkd, vl, hE, if_pos hne]
      · -- not taken at 10
        refine g_aload_n F 0 (dk dtX7_advances_0 6 rfl) rfl ?_
        refine g_dup F (dk dtX7_advances_0 7 rfl) rfl ?_
        refine g_get F fa_X7_67 (dk dtX7_advances_0 8 rfl) (by decide) (cm0 D B _ _) rfl ?_
        refine g_top (tym_4 _ _ _ _ _ _) ?_
        refine g_iconst F (nI 1) (dk dtX7_advances_0 9 rfl) (by decide) ?_
        refine g_iaddN F (dk dtX7_advances_0 10 rfl) ?_
        refine g_put F fa_X7_67 (dk dtX7_advances_0 11 rfl) (by decide) (cm0 D B _ _) (Nat.le_of_ble_eq_true rfl) rfl rfl ((cm0 D B _ _).trans st_Mod_4) ?_
        refine g_mem (tym_w4 _ _ _ _ _ _ _) ?_
        refine g_goto F 0 (dk dtX7_advances_0 12 rfl) (by decide) ?_
        have h32 := la_32 c10
        exact ih0 (e + 1) ⟨by omega, by omega, by rw [← hsk, sk_s (by omega) h32.2]⟩ (by omega)
  exact lp0 (n + 1) a ⟨by omega, by omega, rfl⟩ (by omega)
