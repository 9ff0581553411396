abbrev dg (v : Int32) : Prop := ¬ v < nI 48 ∧ ¬ nI 57 < v
def tx (M : Mem) (a s t u : Int32) : Mem := setR M 1 (upd (upd (upd (upd (M 1) 6 a) 7 s) 8 t) 9 u)
theorem tx_6 (M : Mem) (a s t u : Int32) : tx M a s t u 1 6 = a := by simp [tx, setR, upd]
theorem tx_7 (M : Mem) (a s t u : Int32) : tx M a s t u 1 7 = s := by simp [tx, setR, upd]
theorem tx_8 (M : Mem) (a s t u : Int32) : tx M a s t u 1 8 = t := by simp [tx, setR, upd]
theorem tx_9 (M : Mem) (a s t u : Int32) : tx M a s t u 1 9 = u := by simp [tx, setR, upd]
theorem tx_o (M : Mem) (a s t u : Int32) {j : Nat} (h : j < 6 ∨ 9 < j) : tx M a s t u 1 j = M 1 j := by
  unfold tx
  rw [setR_self, pk_un (by omega), pk_un (by omega), pk_un (by omega), pk_un (by omega)]
theorem tx_ne (M : Mem) (a s t u : Int32) {c : Nat} (h : c ≠ 1) : tx M a s t u c = M c := setR_ne _ _ h
theorem tx_up (M : Mem) (a s t u : Int32) (j : Nat) (v : Int32) : up2 (tx M a s t u) 1 j v = setR M 1 (upd (upd (upd (upd (upd (M 1) 6 a) 7 s) 8 t) 9 u) j v) := by
  unfold tx
  exact up2_setR M 1 j _ v
theorem tx_w6 (M : Mem) (a s t u v : Int32) : up2 (tx M a s t u) 1 6 v = tx M v s t u := by
  rw [tx_up]
  unfold tx
  congr 1
  funext j
  by_cases h6 : j = 6
  · subst h6; simp [upd]
  · simp [upd, h6]
theorem tx_w7 (M : Mem) (a s t u v : Int32) : up2 (tx M a s t u) 1 7 v = tx M a v t u := by
  rw [tx_up]
  unfold tx
  congr 1
  funext j
  by_cases h6 : j = 7
  · subst h6; simp [upd]
  · simp [upd, h6]
theorem tx_w8 (M : Mem) (a s t u v : Int32) : up2 (tx M a s t u) 1 8 v = tx M a s v u := by
  rw [tx_up]
  unfold tx
  congr 1
  funext j
  by_cases h6 : j = 8
  · subst h6; simp [upd]
  · simp [upd, h6]
theorem tx_w9 (M : Mem) (a s t u v : Int32) : up2 (tx M a s t u) 1 9 v = tx M a s t v := by
  rw [tx_up]
  unfold tx
  congr 1
  funext j
  by_cases h6 : j = 9
  · subst h6; simp [upd]
  · simp [upd, h6]
def deW (f : Nat → Int32) (n : Nat) : Nat → Nat → Nat
  | 0, a => a
  | u + 1, a => if a < n ∧ dg (f a) then deW f n u (a + 1) else a
def de (f : Nat → Int32) (n a : Nat) : Nat := deW f n (n - a) a
theorem de_s {f : Nat → Int32} {n a : Nat} (h : ¬ n ≤ a) (hd : dg (f a)) : de f n a = de f n (a + 1) := by
  unfold de
  rw [show n - a = (n - (a + 1)) + 1 by omega]
  exact if_pos ⟨by omega, hd⟩
theorem de_e {f : Nat → Int32} {n a : Nat} (h : ¬ (a < n ∧ dg (f a))) : de f n a = a := by
  unfold de
  cases n - a with
  | zero => rfl
  | succ u => exact if_neg h
def vcW (f : Nat → Int32) (n : Nat) : Nat → Nat → Int32 → Int32
  | 0, _, v => v
  | u + 1, a, v => if a < n ∧ dg (f a) then vcW f n u (a + 1) (mn (nI 100) (v * nI 10 + f a - nI 48)) else v
def vc (f : Nat → Int32) (n a : Nat) (v : Int32) : Int32 := vcW f n (n - a) a v
theorem vc_s {f : Nat → Int32} {n a : Nat} {v : Int32} (h : ¬ n ≤ a) (hd : dg (f a)) : vc f n a v = vc f n (a + 1) (mn (nI 100) (v * nI 10 + f a - nI 48)) := by
  unfold vc
  rw [show n - a = (n - (a + 1)) + 1 by omega]
  exact if_pos ⟨by omega, hd⟩
theorem vc_e {f : Nat → Int32} {n a : Nat} {v : Int32} (h : ¬ (a < n ∧ dg (f a))) : vc f n a v = v := by
  unfold vc
  cases n - a with
  | zero => rfl
  | succ u => exact if_neg h
def tkN (f : Nat → Int32) (n a : Nat) : Int32 := if nI 99 < vc f n a (nI 0) ∨ (f a = nI 48 ∧ 1 < de f n a - a) then nI 257 else nI 256
set_option maxRecDepth 100000 in
set_option maxHeartbeats 4000000 in
theorem k_X4_isDigit (l : Launch) (D : DX) (B : Nat) (T : Int64) (M : Mem) (v : Int32) : Ci l D B 108 (celC D B) yX4_isDigit cX4_isDigit 1 (some .boolean) 0 [.int v] T M (fun rz T1 M1 => rz = (bI (dg v)) ∧ T1 = T ∧ M1 = M) := by
  refine g_entryi (L := [(0, .int v)]) (by decide) (Nat.le_of_ble_eq_true rfl) rfl ?_
  intro zp ze zs zm zb zt zc Q F hQ
  refine g_iload_n F 0 (dk dtX4_isDigit_0 0 rfl) rfl ?_
  refine g_bipush F (nI 48) (dk dtX4_isDigit_0 1 rfl) (by decide) ?_
  refine g_icmp_lt F 16 (dk dtX4_isDigit_0 2 rfl) (by decide) (fun c3 => ?_) (fun c3 => ?_)
  · -- taken at 3
    refine g_iconst F (nI 0) (dk dtX4_isDigit_0 8 rfl) (by decide) ?_
    refine g_zret (F := F) hQ (dk dtX4_isDigit_0 9 rfl) (rfl) ?_
    exact ⟨(if_neg (fun h => h.1 c3)).symm, rfl, rfl⟩
  · -- not taken at 3
    refine g_iload_n F 0 (dk dtX4_isDigit_0 3 rfl) rfl ?_
    refine g_bipush F (nI 57) (dk dtX4_isDigit_0 4 rfl) (by decide) ?_
    refine g_icmp_gt F 16 (dk dtX4_isDigit_0 5 rfl) (by decide) (fun c9 => ?_) (fun c9 => ?_)
    · -- taken at 9
      refine g_iconst F (nI 0) (dk dtX4_isDigit_0 8 rfl) (by decide) ?_
      refine g_zret (F := F) hQ (dk dtX4_isDigit_0 9 rfl) (rfl) ?_
      exact ⟨(if_neg (fun h => h.2 c9)).symm, rfl, rfl⟩
    · -- not taken at 9
      refine g_iconst F (nI 1) (dk dtX4_isDigit_0 6 rfl) (by decide) ?_
      refine g_goto F 17 (dk dtX4_isDigit_0 7 rfl) (by decide) ?_
      refine g_zret (F := F) hQ (dk dtX4_isDigit_0 9 rfl) (rfl) ?_
      exact ⟨(if_pos ⟨c3, c9⟩).symm, rfl, rfl⟩
set_option maxRecDepth 100000 in
set_option maxHeartbeats 4000000 in
theorem k_X4_aon_1 (l : Launch) (D : DX) (B : Nat) (T : Int64) (M : Mem) (n a : Nat) (hn : M 1 1 = nI n) (hn9 : n ≤ 150) (t u : Int32) (han : a < n) (hz : M 2 a = nI 48) : Cv l D B 108 (celC D B) yX4_advanceOverNumber cX4_advanceOverNumber 3 none 1 [.ref (B + 1)] T (tx M (nI a) (nI a) t u) (fun T1 M1 => T1 = T ∧ M1 = tx M (nI (de (M 2) n a)) (nI a) (tkN (M 2) n a) (vc (M 2) n a (nI 0))) := by
  refine g_entryv (L := [(0, .ref (B + 1))]) (by decide) (Nat.le_of_ble_eq_true rfl) rfl ?_
  intro zp ze zs zm zb zt zc Q F hQ
  refine g_aload_n F 0 (dk dtX4_advanceOverNumber_0 0 rfl) rfl ?_
  refine g_get F fa_X4_9 (dk dtX4_advanceOverNumber_0 1 rfl) (by decide) (cc1 D B _ _) rfl ?_
  refine g_aload_n F 0 (dk dtX4_advanceOverNumber_0 2 rfl) rfl ?_
  refine g_get F fa_X4_40 (dk dtX4_advanceOverNumber_0 3 rfl) (by decide) (cc1 D B _ _) rfl ?_
  refine g_top (tx_6 _ _ _ _ _) ?_
  refine g_iald F (a) (dk dtX4_advanceOverNumber_0 4 rfl) (by decide) (cc2 D B _ _) (by omega) (by decide) ?_
  refine g_top (congrFun (tx_ne _ _ _ _ _ (by decide)) _) ?_
  refine g_bipush F (nI 48) (dk dtX4_advanceOverNumber_0 5 rfl) (by decide) ?_
  refine g_icmp_ne F 18 (dk dtX4_advanceOverNumber_0 6 rfl) (by decide) (fun c11 => ?_) (fun c11 => ?_)
  · -- taken at 11
    exact absurd hz c11
  · -- not taken at 11
    refine g_iconst F (nI 1) (dk dtX4_advanceOverNumber_0 7 rfl) (by decide) ?_
    refine g_goto F 19 (dk dtX4_advanceOverNumber_0 8 rfl) (by decide) ?_
    refine g_istore_n F [(1, .int (nI 1)), (0, .ref (B + 1))] (dk dtX4_advanceOverNumber_0 10 rfl) (by decide) rfl ?_
    refine g_aload_n F 1 (dk dtX4_advanceOverNumber_0 11 rfl) rfl ?_
    refine g_iconst F (nI 0) (dk dtX4_advanceOverNumber_0 12 rfl) (by decide) ?_
    refine g_put F fa_X4_49 (dk dtX4_advanceOverNumber_0 13 rfl) (by decide) (cc1 D B _ _) (Nat.le_of_ble_eq_true rfl) rfl rfl ((cc1 D B _ _).trans st_Text_9) ?_
    refine g_mem (tx_w9 _ _ _ _ _ _) ?_
    have lp25 : ∀ (fz : Nat) (e : Nat) (w : Int32), (a ≤ e ∧ e ≤ n ∧ de (M 2) n e = de (M 2) n a ∧ vc (M 2) n e w = vc (M 2) n a (nI 0)) → (n - e) < fz → G zp l ze { frames := 1, cells := 0, slots := 0, locals := 40 * 1 } zs zm [.ref (B + 1)].toArray zb zt zc 3 D B 108 (celC D B) Q T (tx M (nI e) (nI a) t w) 25 [(0, .ref (B + 1)), (1, .int (nI 1))] [] := by
      intro n25
      induction n25 with
      | zero => intro e w hI hn; exact absurd hn (Nat.not_lt_zero _)
      | succ n25 ih25 =>
        intro e w hI25 hn25
        obtain ⟨hae, hen, hde, hvc⟩ := hI25
        refine g_aload_n F 0 (dk dtX4_advanceOverNumber_0 14 rfl) rfl ?_
        refine g_get F fa_X4_40 (dk dtX4_advanceOverNumber_0 15 rfl) (by decide) (cc1 D B _ _) rfl ?_
        refine g_top (tx_6 _ _ _ _ _) ?_
        refine g_aload_n F 0 (dk dtX4_advanceOverNumber_0 16 rfl) rfl ?_
        refine g_get F fa_X4_15 (dk dtX4_advanceOverNumber_0 17 rfl) (by decide) (cc1 D B _ _) rfl ?_
        refine g_top (tx_o _ _ _ _ _ (by decide)) ?_
        refine g_top hn ?_
        refine g_icmp_geN F 93 (dk dtX4_advanceOverNumber_0 18 rfl) (by decide) (by omega) (by omega) (fun c33 => ?_) (fun c33 => ?_)
        · -- taken at 33
          refine g_aload_n F 0 (dk dtX4_advanceOverNumber_0 49 rfl) rfl ?_
          refine g_get F fa_X4_49 (dk dtX4_advanceOverNumber_0 50 rfl) (by decide) (cc1 D B _ _) rfl ?_
          refine g_top (tx_9 _ _ _ _ _) ?_
          refine g_bipush F (nI 99) (dk dtX4_advanceOverNumber_0 51 rfl) (by decide) ?_
          refine g_icmp_gt F 119 (dk dtX4_advanceOverNumber_0 52 rfl) (by decide) (fun c99 => ?_) (fun c99 => ?_)
          · -- taken at 99
            refine g_iconst F (nI 1) (dk dtX4_advanceOverNumber_1 2 rfl) (by decide) ?_
            refine g_goto F 124 (dk dtX4_advanceOverNumber_1 3 rfl) (by decide) ?_
            refine g_istore_n F [(2, .int (nI 1)), (0, .ref (B + 1)), (1, .int (nI 1))] (dk dtX4_advanceOverNumber_1 5 rfl) (by decide) rfl ?_
            refine g_aload_n F 1 (dk dtX4_advanceOverNumber_1 6 rfl) rfl ?_
            refine g_iload_n F 0 (dk dtX4_advanceOverNumber_1 7 rfl) rfl ?_
            refine g_if_eqN F 136 (dk dtX4_advanceOverNumber_1 8 rfl) (by decide) (by decide) (fun c => absurd c (by decide)) (fun _ => ?_)
            refine g_sipush F (nI 257) (dk dtX4_advanceOverNumber_1 9 rfl) (by decide) ?_
            refine g_goto F 139 (dk dtX4_advanceOverNumber_1 10 rfl) (by decide) ?_
            refine g_put F fa_X4_46 (dk dtX4_advanceOverNumber_1 12 rfl) (by decide) (cc1 D B _ _) (Nat.le_of_ble_eq_true rfl) rfl rfl ((cc1 D B _ _).trans st_Text_8) ?_
            refine g_mem (tx_w8 _ _ _ _ _ _) ?_
            refine g_vret (F := F) hQ (dk dtX4_advanceOverNumber_1 13 rfl) ?_
            have hE : de (M 2) n a = e := by rw [← hde]; exact de_e (fun q => absurd q.1 (Nat.not_lt.mpr c33))
            have hV : vc (M 2) n a (nI 0) = w := by rw [← hvc]; exact vc_e (fun q => absurd q.1 (Nat.not_lt.mpr c33))
            refine ⟨rfl, ?_⟩
            unfold tkN
            rw [hE, hV, if_pos (Or.inl (c99))]
          · -- not taken at 99
            refine g_iload_n F 1 (dk dtX4_advanceOverNumber_0 53 rfl) rfl ?_
            refine g_if_eqN F 123 (dk dtX4_advanceOverNumber_0 54 rfl) (by decide) (by decide) (fun c => absurd c (by decide)) (fun _ => ?_)
            refine g_aload_n F 0 (dk dtX4_advanceOverNumber_0 55 rfl) rfl ?_
            refine g_get F fa_X4_40 (dk dtX4_advanceOverNumber_0 56 rfl) (by decide) (cc1 D B _ _) rfl ?_
            refine g_top (tx_6 _ _ _ _ _) ?_
            refine g_aload_n F 0 (dk dtX4_advanceOverNumber_0 57 rfl) rfl ?_
            refine g_get F fa_X4_43 (dk dtX4_advanceOverNumber_0 58 rfl) (by decide) (cc1 D B _ _) rfl ?_
            refine g_top (tx_7 _ _ _ _ _) ?_
            refine g_isubN F (dk dtX4_advanceOverNumber_0 59 rfl) (by omega) ?_
            refine g_iconst F (nI 1) (dk dtX4_advanceOverNumber_1 0 rfl) (by decide) ?_
            refine g_icmp_leN F 123 (dk dtX4_advanceOverNumber_1 1 rfl) (by decide) (by omega) (by omega) (fun c116 => ?_) (fun c116 => ?_)
            · -- taken at 116
              refine g_iconst F (nI 0) (dk dtX4_advanceOverNumber_1 4 rfl) (by decide) ?_
              refine g_istore_n F [(2, .int (nI 0)), (0, .ref (B + 1)), (1, .int (nI 1))] (dk dtX4_advanceOverNumber_1 5 rfl) (by decide) rfl ?_
              refine g_aload_n F 1 (dk dtX4_advanceOverNumber_1 6 rfl) rfl ?_
              refine g_iload_n F 0 (dk dtX4_advanceOverNumber_1 7 rfl) rfl ?_
              refine g_if_eqN F 136 (dk dtX4_advanceOverNumber_1 8 rfl) (by decide) (by decide) (fun _ => ?_) (fun c => absurd c (by decide))
              refine g_sipush F (nI 256) (dk dtX4_advanceOverNumber_1 11 rfl) (by decide) ?_
              refine g_put F fa_X4_46 (dk dtX4_advanceOverNumber_1 12 rfl) (by decide) (cc1 D B _ _) (Nat.le_of_ble_eq_true rfl) rfl rfl ((cc1 D B _ _).trans st_Text_8) ?_
              refine g_mem (tx_w8 _ _ _ _ _ _) ?_
              refine g_vret (F := F) hQ (dk dtX4_advanceOverNumber_1 13 rfl) ?_
              have hE : de (M 2) n a = e := by rw [← hde]; exact de_e (fun q => absurd q.1 (Nat.not_lt.mpr c33))
              have hV : vc (M 2) n a (nI 0) = w := by rw [← hvc]; exact vc_e (fun q => absurd q.1 (Nat.not_lt.mpr c33))
              refine ⟨rfl, ?_⟩
              unfold tkN
              rw [hE, hV, if_neg (fun q => q.elim (fun q => absurd q (c99)) (fun q => absurd q.2 (by omega)))]
            · -- not taken at 116
              refine g_iconst F (nI 1) (dk dtX4_advanceOverNumber_1 2 rfl) (by decide) ?_
              refine g_goto F 124 (dk dtX4_advanceOverNumber_1 3 rfl) (by decide) ?_
              refine g_istore_n F [(2, .int (nI 1)), (0, .ref (B + 1)), (1, .int (nI 1))] (dk dtX4_advanceOverNumber_1 5 rfl) (by decide) rfl ?_
              refine g_aload_n F 1 (dk dtX4_advanceOverNumber_1 6 rfl) rfl ?_
              refine g_iload_n F 0 (dk dtX4_advanceOverNumber_1 7 rfl) rfl ?_
              refine g_if_eqN F 136 (dk dtX4_advanceOverNumber_1 8 rfl) (by decide) (by decide) (fun c => absurd c (by decide)) (fun _ => ?_)
              refine g_sipush F (nI 257) (dk dtX4_advanceOverNumber_1 9 rfl) (by decide) ?_
              refine g_goto F 139 (dk dtX4_advanceOverNumber_1 10 rfl) (by decide) ?_
              refine g_put F fa_X4_46 (dk dtX4_advanceOverNumber_1 12 rfl) (by decide) (cc1 D B _ _) (Nat.le_of_ble_eq_true rfl) rfl rfl ((cc1 D B _ _).trans st_Text_8) ?_
              refine g_mem (tx_w8 _ _ _ _ _ _) ?_
              refine g_vret (F := F) hQ (dk dtX4_advanceOverNumber_1 13 rfl) ?_
              have hE : de (M 2) n a = e := by rw [← hde]; exact de_e (fun q => absurd q.1 (Nat.not_lt.mpr c33))
              have hV : vc (M 2) n a (nI 0) = w := by rw [← hvc]; exact vc_e (fun q => absurd q.1 (Nat.not_lt.mpr c33))
              refine ⟨rfl, ?_⟩
              unfold tkN
              rw [hE, hV, if_pos (Or.inr ⟨hz, by omega⟩)]
        · -- not taken at 33
          refine g_aload_n F 0 (dk dtX4_advanceOverNumber_0 19 rfl) rfl ?_
          refine g_get F fa_X4_9 (dk dtX4_advanceOverNumber_0 20 rfl) (by decide) (cc1 D B _ _) rfl ?_
          refine g_aload_n F 0 (dk dtX4_advanceOverNumber_0 21 rfl) rfl ?_
          refine g_get F fa_X4_40 (dk dtX4_advanceOverNumber_0 22 rfl) (by decide) (cc1 D B _ _) rfl ?_
          refine g_top (tx_6 _ _ _ _ _) ?_
          refine g_iald F (e) (dk dtX4_advanceOverNumber_0 23 rfl) (by decide) (cc2 D B _ _) (by omega) (by decide) ?_
          refine g_top (congrFun (tx_ne _ _ _ _ _ (by decide)) _) ?_
          refine g_callSi F (As := [.int (M 2 e)]) (st := []) cs_X4_98 (dk dtX4_advanceOverNumber_0 24 rfl) rfl rfl (Nat.le_of_ble_eq_true rfl) ⟨by decide, by decide⟩ (k_X4_isDigit l D B _ _ _) (fun r45 T45 M45 hp45 => ?_)
          obtain ⟨e1, e2, e3⟩ := hp45
          replace e1 := e1.symm; replace e2 := e2.symm; replace e3 := e3.symm; subst e1; subst e2; subst e3
          refine g_if_eqB F 93 (dk dtX4_advanceOverNumber_0 25 rfl) (by decide) (fun c48 => ?_) (fun c48 => ?_)
          · -- taken at 48
            refine g_aload_n F 0 (dk dtX4_advanceOverNumber_0 49 rfl) rfl ?_
            refine g_get F fa_X4_49 (dk dtX4_advanceOverNumber_0 50 rfl) (by decide) (cc1 D B _ _) rfl ?_
            refine g_top (tx_9 _ _ _ _ _) ?_
            refine g_bipush F (nI 99) (dk dtX4_advanceOverNumber_0 51 rfl) (by decide) ?_
            refine g_icmp_gt F 119 (dk dtX4_advanceOverNumber_0 52 rfl) (by decide) (fun c99 => ?_) (fun c99 => ?_)
            · -- taken at 99
              refine g_iconst F (nI 1) (dk dtX4_advanceOverNumber_1 2 rfl) (by decide) ?_
              refine g_goto F 124 (dk dtX4_advanceOverNumber_1 3 rfl) (by decide) ?_
              refine g_istore_n F [(2, .int (nI 1)), (0, .ref (B + 1)), (1, .int (nI 1))] (dk dtX4_advanceOverNumber_1 5 rfl) (by decide) rfl ?_
              refine g_aload_n F 1 (dk dtX4_advanceOverNumber_1 6 rfl) rfl ?_
              refine g_iload_n F 0 (dk dtX4_advanceOverNumber_1 7 rfl) rfl ?_
              refine g_if_eqN F 136 (dk dtX4_advanceOverNumber_1 8 rfl) (by decide) (by decide) (fun c => absurd c (by decide)) (fun _ => ?_)
              refine g_sipush F (nI 257) (dk dtX4_advanceOverNumber_1 9 rfl) (by decide) ?_
              refine g_goto F 139 (dk dtX4_advanceOverNumber_1 10 rfl) (by decide) ?_
              refine g_put F fa_X4_46 (dk dtX4_advanceOverNumber_1 12 rfl) (by decide) (cc1 D B _ _) (Nat.le_of_ble_eq_true rfl) rfl rfl ((cc1 D B _ _).trans st_Text_8) ?_
              refine g_mem (tx_w8 _ _ _ _ _ _) ?_
              refine g_vret (F := F) hQ (dk dtX4_advanceOverNumber_1 13 rfl) ?_
              have hE : de (M 2) n a = e := by rw [← hde]; exact de_e (fun q => c48 q.2)
              have hV : vc (M 2) n a (nI 0) = w := by rw [← hvc]; exact vc_e (fun q => c48 q.2)
              refine ⟨rfl, ?_⟩
              unfold tkN
              rw [hE, hV, if_pos (Or.inl (c99))]
            · -- not taken at 99
              refine g_iload_n F 1 (dk dtX4_advanceOverNumber_0 53 rfl) rfl ?_
              refine g_if_eqN F 123 (dk dtX4_advanceOverNumber_0 54 rfl) (by decide) (by decide) (fun c => absurd c (by decide)) (fun _ => ?_)
              refine g_aload_n F 0 (dk dtX4_advanceOverNumber_0 55 rfl) rfl ?_
              refine g_get F fa_X4_40 (dk dtX4_advanceOverNumber_0 56 rfl) (by decide) (cc1 D B _ _) rfl ?_
              refine g_top (tx_6 _ _ _ _ _) ?_
              refine g_aload_n F 0 (dk dtX4_advanceOverNumber_0 57 rfl) rfl ?_
              refine g_get F fa_X4_43 (dk dtX4_advanceOverNumber_0 58 rfl) (by decide) (cc1 D B _ _) rfl ?_
              refine g_top (tx_7 _ _ _ _ _) ?_
              refine g_isubN F (dk dtX4_advanceOverNumber_0 59 rfl) (by omega) ?_
              refine g_iconst F (nI 1) (dk dtX4_advanceOverNumber_1 0 rfl) (by decide) ?_
              refine g_icmp_leN F 123 (dk dtX4_advanceOverNumber_1 1 rfl) (by decide) (by omega) (by omega) (fun c116 => ?_) (fun c116 => ?_)
              · -- taken at 116
                refine g_iconst F (nI 0) (dk dtX4_advanceOverNumber_1 4 rfl) (by decide) ?_
                refine g_istore_n F [(2, .int (nI 0)), (0, .ref (B + 1)), (1, .int (nI 1))] (dk dtX4_advanceOverNumber_1 5 rfl) (by decide) rfl ?_
                refine g_aload_n F 1 (dk dtX4_advanceOverNumber_1 6 rfl) rfl ?_
                refine g_iload_n F 0 (dk dtX4_advanceOverNumber_1 7 rfl) rfl ?_
                refine g_if_eqN F 136 (dk dtX4_advanceOverNumber_1 8 rfl) (by decide) (by decide) (fun _ => ?_) (fun c => absurd c (by decide))
                refine g_sipush F (nI 256) (dk dtX4_advanceOverNumber_1 11 rfl) (by decide) ?_
                refine g_put F fa_X4_46 (dk dtX4_advanceOverNumber_1 12 rfl) (by decide) (cc1 D B _ _) (Nat.le_of_ble_eq_true rfl) rfl rfl ((cc1 D B _ _).trans st_Text_8) ?_
                refine g_mem (tx_w8 _ _ _ _ _ _) ?_
                refine g_vret (F := F) hQ (dk dtX4_advanceOverNumber_1 13 rfl) ?_
                have hE : de (M 2) n a = e := by rw [← hde]; exact de_e (fun q => c48 q.2)
                have hV : vc (M 2) n a (nI 0) = w := by rw [← hvc]; exact vc_e (fun q => c48 q.2)
                refine ⟨rfl, ?_⟩
                unfold tkN
                rw [hE, hV, if_neg (fun q => q.elim (fun q => absurd q (c99)) (fun q => absurd q.2 (by omega)))]
              · -- not taken at 116
                refine g_iconst F (nI 1) (dk dtX4_advanceOverNumber_1 2 rfl) (by decide) ?_
                refine g_goto F 124 (dk dtX4_advanceOverNumber_1 3 rfl) (by decide) ?_
                refine g_istore_n F [(2, .int (nI 1)), (0, .ref (B + 1)), (1, .int (nI 1))] (dk dtX4_advanceOverNumber_1 5 rfl) (by decide) rfl ?_
                refine g_aload_n F 1 (dk dtX4_advanceOverNumber_1 6 rfl) rfl ?_
                refine g_iload_n F 0 (dk dtX4_advanceOverNumber_1 7 rfl) rfl ?_
                refine g_if_eqN F 136 (dk dtX4_advanceOverNumber_1 8 rfl) (by decide) (by decide) (fun c => absurd c (by decide)) (fun _ => ?_)
                refine g_sipush F (nI 257) (dk dtX4_advanceOverNumber_1 9 rfl) (by decide) ?_
                refine g_goto F 139 (dk dtX4_advanceOverNumber_1 10 rfl) (by decide) ?_
                refine g_put F fa_X4_46 (dk dtX4_advanceOverNumber_1 12 rfl) (by decide) (cc1 D B _ _) (Nat.le_of_ble_eq_true rfl) rfl rfl ((cc1 D B _ _).trans st_Text_8) ?_
                refine g_mem (tx_w8 _ _ _ _ _ _) ?_
                refine g_vret (F := F) hQ (dk dtX4_advanceOverNumber_1 13 rfl) ?_
                have hE : de (M 2) n a = e := by rw [← hde]; exact de_e (fun q => c48 q.2)
                have hV : vc (M 2) n a (nI 0) = w := by rw [← hvc]; exact vc_e (fun q => c48 q.2)
                refine ⟨rfl, ?_⟩
                unfold tkN
                rw [hE, hV, if_pos (Or.inr ⟨hz, by omega⟩)]
          · -- not taken at 48
            refine g_aload_n F 0 (dk dtX4_advanceOverNumber_0 26 rfl) rfl ?_
            refine g_bipush F (nI 100) (dk dtX4_advanceOverNumber_0 27 rfl) (by decide) ?_
            refine g_aload_n F 0 (dk dtX4_advanceOverNumber_0 28 rfl) rfl ?_
            refine g_get F fa_X4_49 (dk dtX4_advanceOverNumber_0 29 rfl) (by decide) (cc1 D B _ _) rfl ?_
            refine g_top (tx_9 _ _ _ _ _) ?_
            refine g_bipush F (nI 10) (dk dtX4_advanceOverNumber_0 30 rfl) (by decide) ?_
            refine g_imul F (dk dtX4_advanceOverNumber_0 31 rfl) ?_
            refine g_aload_n F 0 (dk dtX4_advanceOverNumber_0 32 rfl) rfl ?_
            refine g_get F fa_X4_9 (dk dtX4_advanceOverNumber_0 33 rfl) (by decide) (cc1 D B _ _) rfl ?_
            refine g_aload_n F 0 (dk dtX4_advanceOverNumber_0 34 rfl) rfl ?_
            refine g_get F fa_X4_40 (dk dtX4_advanceOverNumber_0 35 rfl) (by decide) (cc1 D B _ _) rfl ?_
            refine g_top (tx_6 _ _ _ _ _) ?_
            refine g_iald F (e) (dk dtX4_advanceOverNumber_0 36 rfl) (by decide) (cc2 D B _ _) (by omega) (by decide) ?_
            refine g_top (congrFun (tx_ne _ _ _ _ _ (by decide)) _) ?_
            refine g_iadd F (dk dtX4_advanceOverNumber_0 37 rfl) ?_
            refine g_bipush F (nI 48) (dk dtX4_advanceOverNumber_0 38 rfl) (by decide) ?_
            refine g_isub F (dk dtX4_advanceOverNumber_0 39 rfl) ?_
            refine g_mmin F (tw2 21 rfl) (dk dtX4_advanceOverNumber_0 40 rfl) (Nat.le_of_ble_eq_true rfl) (Nat.le_of_ble_eq_true rfl) ?_
            refine g_put F fa_X4_49 (dk dtX4_advanceOverNumber_0 41 rfl) (by decide) (cc1 D B _ _) (Nat.le_of_ble_eq_true rfl) rfl rfl ((cc1 D B _ _).trans st_Text_9) ?_
            refine g_mem (tx_w9 _ _ _ _ _ _) ?_
            refine g_aload_n F 0 (dk dtX4_advanceOverNumber_0 42 rfl) rfl ?_
            refine g_dup F (dk dtX4_advanceOverNumber_0 43 rfl) rfl ?_
            refine g_get F fa_X4_40 (dk dtX4_advanceOverNumber_0 44 rfl) (by decide) (cc1 D B _ _) rfl ?_
            refine g_top (tx_6 _ _ _ _ _) ?_
            refine g_iconst F (nI 1) (dk dtX4_advanceOverNumber_0 45 rfl) (by decide) ?_
            refine g_iaddN F (dk dtX4_advanceOverNumber_0 46 rfl) ?_
            refine g_put F fa_X4_40 (dk dtX4_advanceOverNumber_0 47 rfl) (by decide) (cc1 D B _ _) (Nat.le_of_ble_eq_true rfl) rfl rfl ((cc1 D B _ _).trans st_Text_6) ?_
            refine g_mem (tx_w6 _ _ _ _ _ _) ?_
            refine g_goto F 25 (dk dtX4_advanceOverNumber_0 48 rfl) (by decide) ?_
            exact ih25 (e + 1) _ ⟨by omega, by omega, by rw [← hde, de_s c33 c48], by rw [← hvc, vc_s c33 c48]⟩ (by omega)
    refine g_sub [1, 0] (L1 := [(0, .ref (B + 1)), (1, .int (nI 1))]) rfl ?_
    exact lp25 (n + 1) a (nI 0) ⟨by omega, by omega, rfl, rfl⟩ (by omega)
set_option maxRecDepth 100000 in
set_option maxHeartbeats 4000000 in
theorem k_X4_aon_0 (l : Launch) (D : DX) (B : Nat) (T : Int64) (M : Mem) (n a : Nat) (hn : M 1 1 = nI n) (hn9 : n ≤ 150) (t u : Int32) (han : a < n) (hz : ¬ M 2 a = nI 48) : Cv l D B 108 (celC D B) yX4_advanceOverNumber cX4_advanceOverNumber 3 none 1 [.ref (B + 1)] T (tx M (nI a) (nI a) t u) (fun T1 M1 => T1 = T ∧ M1 = tx M (nI (de (M 2) n a)) (nI a) (tkN (M 2) n a) (vc (M 2) n a (nI 0))) := by
  refine g_entryv (L := [(0, .ref (B + 1))]) (by decide) (Nat.le_of_ble_eq_true rfl) rfl ?_
  intro zp ze zs zm zb zt zc Q F hQ
  refine g_aload_n F 0 (dk dtX4_advanceOverNumber_0 0 rfl) rfl ?_
  refine g_get F fa_X4_9 (dk dtX4_advanceOverNumber_0 1 rfl) (by decide) (cc1 D B _ _) rfl ?_
  refine g_aload_n F 0 (dk dtX4_advanceOverNumber_0 2 rfl) rfl ?_
  refine g_get F fa_X4_40 (dk dtX4_advanceOverNumber_0 3 rfl) (by decide) (cc1 D B _ _) rfl ?_
  refine g_top (tx_6 _ _ _ _ _) ?_
  refine g_iald F (a) (dk dtX4_advanceOverNumber_0 4 rfl) (by decide) (cc2 D B _ _) (by omega) (by decide) ?_
  refine g_top (congrFun (tx_ne _ _ _ _ _ (by decide)) _) ?_
  refine g_bipush F (nI 48) (dk dtX4_advanceOverNumber_0 5 rfl) (by decide) ?_
  refine g_icmp_ne F 18 (dk dtX4_advanceOverNumber_0 6 rfl) (by decide) (fun c11 => ?_) (fun c11 => ?_)
  · -- taken at 11
    refine g_iconst F (nI 0) (dk dtX4_advanceOverNumber_0 9 rfl) (by decide) ?_
    refine g_istore_n F [(1, .int (nI 0)), (0, .ref (B + 1))] (dk dtX4_advanceOverNumber_0 10 rfl) (by decide) rfl ?_
    refine g_aload_n F 1 (dk dtX4_advanceOverNumber_0 11 rfl) rfl ?_
    refine g_iconst F (nI 0) (dk dtX4_advanceOverNumber_0 12 rfl) (by decide) ?_
    refine g_put F fa_X4_49 (dk dtX4_advanceOverNumber_0 13 rfl) (by decide) (cc1 D B _ _) (Nat.le_of_ble_eq_true rfl) rfl rfl ((cc1 D B _ _).trans st_Text_9) ?_
    refine g_mem (tx_w9 _ _ _ _ _ _) ?_
    have lp25 : ∀ (fz : Nat) (e : Nat) (w : Int32), (a ≤ e ∧ e ≤ n ∧ de (M 2) n e = de (M 2) n a ∧ vc (M 2) n e w = vc (M 2) n a (nI 0)) → (n - e) < fz → G zp l ze { frames := 1, cells := 0, slots := 0, locals := 40 * 1 } zs zm [.ref (B + 1)].toArray zb zt zc 3 D B 108 (celC D B) Q T (tx M (nI e) (nI a) t w) 25 [(0, .ref (B + 1)), (1, .int (nI 0))] [] := by
      intro n25
      induction n25 with
      | zero => intro e w hI hn; exact absurd hn (Nat.not_lt_zero _)
      | succ n25 ih25 =>
        intro e w hI25 hn25
        obtain ⟨hae, hen, hde, hvc⟩ := hI25
        refine g_aload_n F 0 (dk dtX4_advanceOverNumber_0 14 rfl) rfl ?_
        refine g_get F fa_X4_40 (dk dtX4_advanceOverNumber_0 15 rfl) (by decide) (cc1 D B _ _) rfl ?_
        refine g_top (tx_6 _ _ _ _ _) ?_
        refine g_aload_n F 0 (dk dtX4_advanceOverNumber_0 16 rfl) rfl ?_
        refine g_get F fa_X4_15 (dk dtX4_advanceOverNumber_0 17 rfl) (by decide) (cc1 D B _ _) rfl ?_
        refine g_top (tx_o _ _ _ _ _ (by decide)) ?_
        refine g_top hn ?_
        refine g_icmp_geN F 93 (dk dtX4_advanceOverNumber_0 18 rfl) (by decide) (by omega) (by omega) (fun c33 => ?_) (fun c33 => ?_)
        · -- taken at 33
          refine g_aload_n F 0 (dk dtX4_advanceOverNumber_0 49 rfl) rfl ?_
          refine g_get F fa_X4_49 (dk dtX4_advanceOverNumber_0 50 rfl) (by decide) (cc1 D B _ _) rfl ?_
          refine g_top (tx_9 _ _ _ _ _) ?_
          refine g_bipush F (nI 99) (dk dtX4_advanceOverNumber_0 51 rfl) (by decide) ?_
          refine g_icmp_gt F 119 (dk dtX4_advanceOverNumber_0 52 rfl) (by decide) (fun c99 => ?_) (fun c99 => ?_)
          · -- taken at 99
            refine g_iconst F (nI 1) (dk dtX4_advanceOverNumber_1 2 rfl) (by decide) ?_
            refine g_goto F 124 (dk dtX4_advanceOverNumber_1 3 rfl) (by decide) ?_
            refine g_istore_n F [(2, .int (nI 1)), (0, .ref (B + 1)), (1, .int (nI 0))] (dk dtX4_advanceOverNumber_1 5 rfl) (by decide) rfl ?_
            refine g_aload_n F 1 (dk dtX4_advanceOverNumber_1 6 rfl) rfl ?_
            refine g_iload_n F 0 (dk dtX4_advanceOverNumber_1 7 rfl) rfl ?_
            refine g_if_eqN F 136 (dk dtX4_advanceOverNumber_1 8 rfl) (by decide) (by decide) (fun c => absurd c (by decide)) (fun _ => ?_)
            refine g_sipush F (nI 257) (dk dtX4_advanceOverNumber_1 9 rfl) (by decide) ?_
            refine g_goto F 139 (dk dtX4_advanceOverNumber_1 10 rfl) (by decide) ?_
            refine g_put F fa_X4_46 (dk dtX4_advanceOverNumber_1 12 rfl) (by decide) (cc1 D B _ _) (Nat.le_of_ble_eq_true rfl) rfl rfl ((cc1 D B _ _).trans st_Text_8) ?_
            refine g_mem (tx_w8 _ _ _ _ _ _) ?_
            refine g_vret (F := F) hQ (dk dtX4_advanceOverNumber_1 13 rfl) ?_
            have hE : de (M 2) n a = e := by rw [← hde]; exact de_e (fun q => absurd q.1 (Nat.not_lt.mpr c33))
            have hV : vc (M 2) n a (nI 0) = w := by rw [← hvc]; exact vc_e (fun q => absurd q.1 (Nat.not_lt.mpr c33))
            refine ⟨rfl, ?_⟩
            unfold tkN
            rw [hE, hV, if_pos (Or.inl (c99))]
          · -- not taken at 99
            refine g_iload_n F 1 (dk dtX4_advanceOverNumber_0 53 rfl) rfl ?_
            refine g_if_eqN F 123 (dk dtX4_advanceOverNumber_0 54 rfl) (by decide) (by decide) (fun _ => ?_) (fun c => absurd c (by decide))
            refine g_iconst F (nI 0) (dk dtX4_advanceOverNumber_1 4 rfl) (by decide) ?_
            refine g_istore_n F [(2, .int (nI 0)), (0, .ref (B + 1)), (1, .int (nI 0))] (dk dtX4_advanceOverNumber_1 5 rfl) (by decide) rfl ?_
            refine g_aload_n F 1 (dk dtX4_advanceOverNumber_1 6 rfl) rfl ?_
            refine g_iload_n F 0 (dk dtX4_advanceOverNumber_1 7 rfl) rfl ?_
            refine g_if_eqN F 136 (dk dtX4_advanceOverNumber_1 8 rfl) (by decide) (by decide) (fun _ => ?_) (fun c => absurd c (by decide))
            refine g_sipush F (nI 256) (dk dtX4_advanceOverNumber_1 11 rfl) (by decide) ?_
            refine g_put F fa_X4_46 (dk dtX4_advanceOverNumber_1 12 rfl) (by decide) (cc1 D B _ _) (Nat.le_of_ble_eq_true rfl) rfl rfl ((cc1 D B _ _).trans st_Text_8) ?_
            refine g_mem (tx_w8 _ _ _ _ _ _) ?_
            refine g_vret (F := F) hQ (dk dtX4_advanceOverNumber_1 13 rfl) ?_
            have hE : de (M 2) n a = e := by rw [← hde]; exact de_e (fun q => absurd q.1 (Nat.not_lt.mpr c33))
            have hV : vc (M 2) n a (nI 0) = w := by rw [← hvc]; exact vc_e (fun q => absurd q.1 (Nat.not_lt.mpr c33))
            refine ⟨rfl, ?_⟩
            unfold tkN
            rw [hE, hV, if_neg (fun q => q.elim (fun q => absurd q (c99)) (fun q => hz q.1))]
        · -- not taken at 33
          refine g_aload_n F 0 (dk dtX4_advanceOverNumber_0 19 rfl) rfl ?_
          refine g_get F fa_X4_9 (dk dtX4_advanceOverNumber_0 20 rfl) (by decide) (cc1 D B _ _) rfl ?_
          refine g_aload_n F 0 (dk dtX4_advanceOverNumber_0 21 rfl) rfl ?_
          refine g_get F fa_X4_40 (dk dtX4_advanceOverNumber_0 22 rfl) (by decide) (cc1 D B _ _) rfl ?_
          refine g_top (tx_6 _ _ _ _ _) ?_
          refine g_iald F (e) (dk dtX4_advanceOverNumber_0 23 rfl) (by decide) (cc2 D B _ _) (by omega) (by decide) ?_
          refine g_top (congrFun (tx_ne _ _ _ _ _ (by decide)) _) ?_
          refine g_callSi F (As := [.int (M 2 e)]) (st := []) cs_X4_98 (dk dtX4_advanceOverNumber_0 24 rfl) rfl rfl (Nat.le_of_ble_eq_true rfl) ⟨by decide, by decide⟩ (k_X4_isDigit l D B _ _ _) (fun r45 T45 M45 hp45 => ?_)
          obtain ⟨e1, e2, e3⟩ := hp45
          replace e1 := e1.symm; replace e2 := e2.symm; replace e3 := e3.symm; subst e1; subst e2; subst e3
          refine g_if_eqB F 93 (dk dtX4_advanceOverNumber_0 25 rfl) (by decide) (fun c48 => ?_) (fun c48 => ?_)
          · -- taken at 48
            refine g_aload_n F 0 (dk dtX4_advanceOverNumber_0 49 rfl) rfl ?_
            refine g_get F fa_X4_49 (dk dtX4_advanceOverNumber_0 50 rfl) (by decide) (cc1 D B _ _) rfl ?_
            refine g_top (tx_9 _ _ _ _ _) ?_
            refine g_bipush F (nI 99) (dk dtX4_advanceOverNumber_0 51 rfl) (by decide) ?_
            refine g_icmp_gt F 119 (dk dtX4_advanceOverNumber_0 52 rfl) (by decide) (fun c99 => ?_) (fun c99 => ?_)
            · -- taken at 99
              refine g_iconst F (nI 1) (dk dtX4_advanceOverNumber_1 2 rfl) (by decide) ?_
              refine g_goto F 124 (dk dtX4_advanceOverNumber_1 3 rfl) (by decide) ?_
              refine g_istore_n F [(2, .int (nI 1)), (0, .ref (B + 1)), (1, .int (nI 0))] (dk dtX4_advanceOverNumber_1 5 rfl) (by decide) rfl ?_
              refine g_aload_n F 1 (dk dtX4_advanceOverNumber_1 6 rfl) rfl ?_
              refine g_iload_n F 0 (dk dtX4_advanceOverNumber_1 7 rfl) rfl ?_
              refine g_if_eqN F 136 (dk dtX4_advanceOverNumber_1 8 rfl) (by decide) (by decide) (fun c => absurd c (by decide)) (fun _ => ?_)
              refine g_sipush F (nI 257) (dk dtX4_advanceOverNumber_1 9 rfl) (by decide) ?_
              refine g_goto F 139 (dk dtX4_advanceOverNumber_1 10 rfl) (by decide) ?_
              refine g_put F fa_X4_46 (dk dtX4_advanceOverNumber_1 12 rfl) (by decide) (cc1 D B _ _) (Nat.le_of_ble_eq_true rfl) rfl rfl ((cc1 D B _ _).trans st_Text_8) ?_
              refine g_mem (tx_w8 _ _ _ _ _ _) ?_
              refine g_vret (F := F) hQ (dk dtX4_advanceOverNumber_1 13 rfl) ?_
              have hE : de (M 2) n a = e := by rw [← hde]; exact de_e (fun q => c48 q.2)
              have hV : vc (M 2) n a (nI 0) = w := by rw [← hvc]; exact vc_e (fun q => c48 q.2)
              refine ⟨rfl, ?_⟩
              unfold tkN
              rw [hE, hV, if_pos (Or.inl (c99))]
            · -- not taken at 99
              refine g_iload_n F 1 (dk dtX4_advanceOverNumber_0 53 rfl) rfl ?_
              refine g_if_eqN F 123 (dk dtX4_advanceOverNumber_0 54 rfl) (by decide) (by decide) (fun _ => ?_) (fun c => absurd c (by decide))
              refine g_iconst F (nI 0) (dk dtX4_advanceOverNumber_1 4 rfl) (by decide) ?_
              refine g_istore_n F [(2, .int (nI 0)), (0, .ref (B + 1)), (1, .int (nI 0))] (dk dtX4_advanceOverNumber_1 5 rfl) (by decide) rfl ?_
              refine g_aload_n F 1 (dk dtX4_advanceOverNumber_1 6 rfl) rfl ?_
              refine g_iload_n F 0 (dk dtX4_advanceOverNumber_1 7 rfl) rfl ?_
              refine g_if_eqN F 136 (dk dtX4_advanceOverNumber_1 8 rfl) (by decide) (by decide) (fun _ => ?_) (fun c => absurd c (by decide))
              refine g_sipush F (nI 256) (dk dtX4_advanceOverNumber_1 11 rfl) (by decide) ?_
              refine g_put F fa_X4_46 (dk dtX4_advanceOverNumber_1 12 rfl) (by decide) (cc1 D B _ _) (Nat.le_of_ble_eq_true rfl) rfl rfl ((cc1 D B _ _).trans st_Text_8) ?_
              refine g_mem (tx_w8 _ _ _ _ _ _) ?_
              refine g_vret (F := F) hQ (dk dtX4_advanceOverNumber_1 13 rfl) ?_
              have hE : de (M 2) n a = e := by rw [← hde]; exact de_e (fun q => c48 q.2)
              have hV : vc (M 2) n a (nI 0) = w := by rw [← hvc]; exact vc_e (fun q => c48 q.2)
              refine ⟨rfl, ?_⟩
              unfold tkN
              rw [hE, hV, if_neg (fun q => q.elim (fun q => absurd q (c99)) (fun q => hz q.1))]
          · -- not taken at 48
            refine g_aload_n F 0 (dk dtX4_advanceOverNumber_0 26 rfl) rfl ?_
            refine g_bipush F (nI 100) (dk dtX4_advanceOverNumber_0 27 rfl) (by decide) ?_
            refine g_aload_n F 0 (dk dtX4_advanceOverNumber_0 28 rfl) rfl ?_
            refine g_get F fa_X4_49 (dk dtX4_advanceOverNumber_0 29 rfl) (by decide) (cc1 D B _ _) rfl ?_
            refine g_top (tx_9 _ _ _ _ _) ?_
            refine g_bipush F (nI 10) (dk dtX4_advanceOverNumber_0 30 rfl) (by decide) ?_
            refine g_imul F (dk dtX4_advanceOverNumber_0 31 rfl) ?_
            refine g_aload_n F 0 (dk dtX4_advanceOverNumber_0 32 rfl) rfl ?_
            refine g_get F fa_X4_9 (dk dtX4_advanceOverNumber_0 33 rfl) (by decide) (cc1 D B _ _) rfl ?_
            refine g_aload_n F 0 (dk dtX4_advanceOverNumber_0 34 rfl) rfl ?_
            refine g_get F fa_X4_40 (dk dtX4_advanceOverNumber_0 35 rfl) (by decide) (cc1 D B _ _) rfl ?_
            refine g_top (tx_6 _ _ _ _ _) ?_
            refine g_iald F (e) (dk dtX4_advanceOverNumber_0 36 rfl) (by decide) (cc2 D B _ _) (by omega) (by decide) ?_
            refine g_top (congrFun (tx_ne _ _ _ _ _ (by decide)) _) ?_
            refine g_iadd F (dk dtX4_advanceOverNumber_0 37 rfl) ?_
            refine g_bipush F (nI 48) (dk dtX4_advanceOverNumber_0 38 rfl) (by decide) ?_
            refine g_isub F (dk dtX4_advanceOverNumber_0 39 rfl) ?_
            refine g_mmin F (tw2 21 rfl) (dk dtX4_advanceOverNumber_0 40 rfl) (Nat.le_of_ble_eq_true rfl) (Nat.le_of_ble_eq_true rfl) ?_
            refine g_put F fa_X4_49 (dk dtX4_advanceOverNumber_0 41 rfl) (by decide) (cc1 D B _ _) (Nat.le_of_ble_eq_true rfl) rfl rfl ((cc1 D B _ _).trans st_Text_9) ?_
            refine g_mem (tx_w9 _ _ _ _ _ _) ?_
            refine g_aload_n F 0 (dk dtX4_advanceOverNumber_0 42 rfl) rfl ?_
            refine g_dup F (dk dtX4_advanceOverNumber_0 43 rfl) rfl ?_
            refine g_get F fa_X4_40 (dk dtX4_advanceOverNumber_0 44 rfl) (by decide) (cc1 D B _ _) rfl ?_
            refine g_top (tx_6 _ _ _ _ _) ?_
            refine g_iconst F (nI 1) (dk dtX4_advanceOverNumber_0 45 rfl) (by decide) ?_
            refine g_iaddN F (dk dtX4_advanceOverNumber_0 46 rfl) ?_
            refine g_put F fa_X4_40 (dk dtX4_advanceOverNumber_0 47 rfl) (by decide) (cc1 D B _ _) (Nat.le_of_ble_eq_true rfl) rfl rfl ((cc1 D B _ _).trans st_Text_6) ?_
            refine g_mem (tx_w6 _ _ _ _ _ _) ?_
            refine g_goto F 25 (dk dtX4_advanceOverNumber_0 48 rfl) (by decide) ?_
            exact ih25 (e + 1) _ ⟨by omega, by omega, by rw [← hde, de_s c33 c48], by rw [← hvc, vc_s c33 c48]⟩ (by omega)
    refine g_sub [1, 0] (L1 := [(0, .ref (B + 1)), (1, .int (nI 0))]) rfl ?_
    exact lp25 (n + 1) a (nI 0) ⟨by omega, by omega, rfl, rfl⟩ (by omega)
  · -- not taken at 11
    exact absurd c11 hz
