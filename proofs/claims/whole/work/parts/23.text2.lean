def skW (f : Nat → Int32) (n : Nat) : Nat → Nat → Nat
  | 0, a => a
  | u + 1, a => if a < n ∧ f a = nI 32 then skW f n u (a + 1) else a
def sk (f : Nat → Int32) (n a : Nat) : Nat := skW f n (n - a) a
theorem sk_s {f : Nat → Int32} {n a : Nat} (h : ¬ n ≤ a) (hd : f a = nI 32) : sk f n a = sk f n (a + 1) := by
  unfold sk
  rw [show n - a = (n - (a + 1)) + 1 by omega]
  exact if_pos ⟨by omega, hd⟩
theorem sk_e {f : Nat → Int32} {n a : Nat} (h : ¬ (a < n ∧ f a = nI 32)) : sk f n a = a := by
  unfold sk
  cases n - a with
  | zero => rfl
  | succ u => exact if_neg h
def tn (f : Nat → Int32) (n a : Nat) : Nat := if n ≤ sk f n a then sk f n a else if dg (f (sk f n a)) then de f n (sk f n a) else sk f n a + 1
def tc (f : Nat → Int32) (n a : Nat) : Int32 := if n ≤ sk f n a then nI 258 else if dg (f (sk f n a)) then tkN f n (sk f n a) else if f (sk f n a) = nI 107 ∨ f (sk f n a) = nI 120 ∨ f (sk f n a) = nI 112 ∨ f (sk f n a) = nI 59 then f (sk f n a) else nI 257
def nu (f : Nat → Int32) (n a : Nat) (u : Int32) : Int32 := if n ≤ sk f n a then u else if dg (f (sk f n a)) then vc f n (sk f n a) (nI 0) else u
theorem skW_le (f : Nat → Int32) (n : Nat) : ∀ (w a : Nat), a ≤ n → a ≤ skW f n w a ∧ skW f n w a ≤ n := by
  intro w
  induction w with
  | zero => exact fun a h => ⟨Nat.le_refl _, h⟩
  | succ w ih =>
    intro a h
    simp only [skW]
    split
    · rename_i c
      have := ih (a + 1) (by omega)
      omega
    · omega
theorem deW_le (f : Nat → Int32) (n : Nat) : ∀ (w a : Nat), a ≤ n → a ≤ deW f n w a ∧ deW f n w a ≤ n := by
  intro w
  induction w with
  | zero => exact fun a h => ⟨Nat.le_refl _, h⟩
  | succ w ih =>
    intro a h
    simp only [deW]
    split
    · rename_i c
      have := ih (a + 1) (by omega)
      omega
    · omega
theorem tn_le {f : Nat → Int32} {n a : Nat} (h : a ≤ n) : a ≤ tn f n a ∧ tn f n a ≤ n := by
  have h1 := skW_le f n (n - a) a h
  have h2 := deW_le f n (n - sk f n a) (sk f n a) h1.2
  unfold tn
  change a ≤ sk f n a ∧ sk f n a ≤ n at h1
  change sk f n a ≤ de f n (sk f n a) ∧ de f n (sk f n a) ≤ n at h2
  split
  · exact h1
  · split
    · omega
    · omega
theorem k_X4_aon (l : Launch) (D : DX) (B : Nat) (T : Int64) (M : Mem) (n a : Nat) (hn : M 1 1 = nI n) (hn9 : n ≤ 150) (t u : Int32) (han : a < n) : Cv l D B 108 (celC D B) yX4_advanceOverNumber cX4_advanceOverNumber 3 none 1 [.ref (B + 1)] T (tx M (nI a) (nI a) t u) (fun T1 M1 => T1 = T ∧ M1 = tx M (nI (de (M 2) n a)) (nI a) (tkN (M 2) n a) (vc (M 2) n a (nI 0))) := by
  by_cases hz : M 2 a = nI 48
  · exact k_X4_aon_1 l D B T M n a hn hn9 t u han hz
  · exact k_X4_aon_0 l D B T M n a hn hn9 t u han hz
set_option maxRecDepth 100000 in
set_option maxHeartbeats 4000000 in
theorem k_X4_advance (l : Launch) (D : DX) (B : Nat) (T : Int64) (M : Mem) (n a : Nat) (hn : M 1 1 = nI n) (hn9 : n ≤ 150) (s t u : Int32) (han : a ≤ n) : Cv l D B 108 (celC D B) yX4_advance cX4_advance 2 none 2 [.ref (B + 1)] T (tx M (nI a) s t u) (fun T1 M1 => T1 = T ∧ M1 = tx M (nI (tn (M 2) n a)) (nI (sk (M 2) n a)) (tc (M 2) n a) (nu (M 2) n a u)) := by
  refine g_entryv (L := [(0, .ref (B + 1))]) (by decide) (Nat.le_of_ble_eq_true rfl) rfl ?_
  intro zp ze zs zm zb zt zc Q F hQ
  have lp0 : ∀ (fz : Nat) (e : Nat), (a ≤ e ∧ e ≤ n ∧ sk (M 2) n e = sk (M 2) n a) → (n - e) < fz → G zp l ze { frames := 2, cells := 0, slots := 0, locals := 40 * 2 } zs zm [.ref (B + 1)].toArray zb zt zc 2 D B 108 (celC D B) Q T (tx M (nI e) s t u) 0 [(0, .ref (B + 1))] [] := by
    intro n0
    induction n0 with
    | zero => intro e hI hn; exact absurd hn (Nat.not_lt_zero _)
    | succ n0 ih0 =>
      intro e hI0 hn0
      obtain ⟨hae, hen, hsk⟩ := hI0
      refine g_aload_n F 0 (dk dtX4_advance_0 0 rfl) rfl ?_
      refine g_get F fa_X4_40 (dk dtX4_advance_0 1 rfl) (by decide) (cc1 D B _ _) rfl ?_
      refine g_top (tx_6 _ _ _ _ _) ?_
      refine g_aload_n F 0 (dk dtX4_advance_0 2 rfl) rfl ?_
      refine g_get F fa_X4_15 (dk dtX4_advance_0 3 rfl) (by decide) (cc1 D B _ _) rfl ?_
      refine g_top (tx_o _ _ _ _ _ (by decide)) ?_
      refine g_top hn ?_
      refine g_icmp_geN F 38 (dk dtX4_advance_0 4 rfl) (by decide) (by omega) (by omega) (fun c8 => ?_) (fun c8 => ?_)
      · -- taken at 8
        refine g_aload_n F 0 (dk dtX4_advance_0 19 rfl) rfl ?_
        refine g_aload_n F 0 (dk dtX4_advance_0 20 rfl) rfl ?_
        refine g_get F fa_X4_40 (dk dtX4_advance_0 21 rfl) (by decide) (cc1 D B _ _) rfl ?_
        refine g_top (tx_6 _ _ _ _ _) ?_
        refine g_put F fa_X4_43 (dk dtX4_advance_0 22 rfl) (by decide) (cc1 D B _ _) (Nat.le_of_ble_eq_true rfl) rfl rfl ((cc1 D B _ _).trans st_Text_7) ?_
        refine g_mem (tx_w7 _ _ _ _ _ _) ?_
        refine g_aload_n F 0 (dk dtX4_advance_0 23 rfl) rfl ?_
        refine g_get F fa_X4_40 (dk dtX4_advance_0 24 rfl) (by decide) (cc1 D B _ _) rfl ?_
        refine g_top (tx_6 _ _ _ _ _) ?_
        refine g_aload_n F 0 (dk dtX4_advance_0 25 rfl) rfl ?_
        refine g_get F fa_X4_15 (dk dtX4_advance_0 26 rfl) (by decide) (cc1 D B _ _) rfl ?_
        refine g_top (tx_o _ _ _ _ _ (by decide)) ?_
        refine g_top hn ?_
        refine g_icmp_ltN F 67 (dk dtX4_advance_0 27 rfl) (by decide) (by omega) (by omega) (fun c54 => ?_) (fun c54 => ?_)
        · -- taken at 54
          refine g_aload_n F 0 (dk dtX4_advance_0 32 rfl) rfl ?_
          refine g_get F fa_X4_9 (dk dtX4_advance_0 33 rfl) (by decide) (cc1 D B _ _) rfl ?_
          refine g_aload_n F 0 (dk dtX4_advance_0 34 rfl) rfl ?_
          refine g_get F fa_X4_40 (dk dtX4_advance_0 35 rfl) (by decide) (cc1 D B _ _) rfl ?_
          refine g_top (tx_6 _ _ _ _ _) ?_
          refine g_iald F (e) (dk dtX4_advance_0 36 rfl) (by decide) (cc2 D B _ _) (by omega) (by decide) ?_
          refine g_top (congrFun (tx_ne _ _ _ _ _ (by decide)) _) ?_
          refine g_callSi F (As := [.int (M 2 e)]) (st := []) cs_X4_98 (dk dtX4_advance_0 37 rfl) rfl rfl (Nat.le_of_ble_eq_true rfl) ⟨by decide, by decide⟩ (k_X4_isDigit l D B _ _ _) (fun r76 T76 M76 hp76 => ?_)
          obtain ⟨e1, e2, e3⟩ := hp76
          replace e1 := e1.symm; replace e2 := e2.symm; replace e3 := e3.symm; subst e1; subst e2; subst e3
          refine g_if_eqB F 89 (dk dtX4_advance_0 38 rfl) (by decide) (fun c79 => ?_) (fun c79 => ?_)
          · -- taken at 79
            refine g_aload_n F 0 (dk dtX4_advance_0 42 rfl) rfl ?_
            refine g_get F fa_X4_9 (dk dtX4_advance_0 43 rfl) (by decide) (cc1 D B _ _) rfl ?_
            refine g_aload_n F 0 (dk dtX4_advance_0 44 rfl) rfl ?_
            refine g_get F fa_X4_40 (dk dtX4_advance_0 45 rfl) (by decide) (cc1 D B _ _) rfl ?_
            refine g_top (tx_6 _ _ _ _ _) ?_
            refine g_iald F (e) (dk dtX4_advance_0 46 rfl) (by decide) (cc2 D B _ _) (by omega) (by decide) ?_
            refine g_top (congrFun (tx_ne _ _ _ _ _ (by decide)) _) ?_
            refine g_istore_n F [(1, .int (M 2 e)), (0, .ref (B + 1))] (dk dtX4_advance_0 47 rfl) (by decide) rfl ?_
            refine g_aload_n F 1 (dk dtX4_advance_0 48 rfl) rfl ?_
            refine g_iload_n F 0 (dk dtX4_advance_0 49 rfl) rfl ?_
            refine g_bipush F (nI 107) (dk dtX4_advance_0 50 rfl) (by decide) ?_
            refine g_icmp_eq F 124 (dk dtX4_advance_0 51 rfl) (by decide) (fun c103 => ?_) (fun c103 => ?_)
            · -- taken at 103
              refine g_iload_n F 0 (dk dtX4_advance_1 1 rfl) rfl ?_
              refine g_goto F 131 (dk dtX4_advance_1 2 rfl) (by decide) ?_
              refine g_put F fa_X4_46 (dk dtX4_advance_1 4 rfl) (by decide) (cc1 D B _ _) (Nat.le_of_ble_eq_true rfl) rfl rfl ((cc1 D B _ _).trans st_Text_8) ?_
              refine g_mem (tx_w8 _ _ _ _ _ _) ?_
              refine g_aload_n F 1 (dk dtX4_advance_1 5 rfl) rfl ?_
              refine g_dup F (dk dtX4_advance_1 6 rfl) rfl ?_
              refine g_get F fa_X4_40 (dk dtX4_advance_1 7 rfl) (by decide) (cc1 D B _ _) rfl ?_
              refine g_top (tx_6 _ _ _ _ _) ?_
              refine g_iconst F (nI 1) (dk dtX4_advance_1 8 rfl) (by decide) ?_
              refine g_iaddN F (dk dtX4_advance_1 9 rfl) ?_
              refine g_put F fa_X4_40 (dk dtX4_advance_1 10 rfl) (by decide) (cc1 D B _ _) (Nat.le_of_ble_eq_true rfl) rfl rfl ((cc1 D B _ _).trans st_Text_6) ?_
              refine g_mem (tx_w6 _ _ _ _ _ _) ?_
              refine g_vret (F := F) hQ (dk dtX4_advance_1 11 rfl) ?_
              have hE : sk (M 2) n a = e := by rw [← hsk]; exact sk_e (fun q => absurd q.1 (Nat.not_lt.mpr c8))
              refine ⟨rfl, ?_⟩
              simp only [tn, tc, nu, hE, if_neg (Nat.not_le.mpr c54), if_neg c79]
              rw [if_pos (Or.inl c103)]
            · -- not taken at 103
              refine g_iload_n F 0 (dk dtX4_advance_0 52 rfl) rfl ?_
              refine g_bipush F (nI 120) (dk dtX4_advance_0 53 rfl) (by decide) ?_
              refine g_icmp_eq F 124 (dk dtX4_advance_0 54 rfl) (by decide) (fun c109 => ?_) (fun c109 => ?_)
              · -- taken at 109
                refine g_iload_n F 0 (dk dtX4_advance_1 1 rfl) rfl ?_
                refine g_goto F 131 (dk dtX4_advance_1 2 rfl) (by decide) ?_
                refine g_put F fa_X4_46 (dk dtX4_advance_1 4 rfl) (by decide) (cc1 D B _ _) (Nat.le_of_ble_eq_true rfl) rfl rfl ((cc1 D B _ _).trans st_Text_8) ?_
                refine g_mem (tx_w8 _ _ _ _ _ _) ?_
                refine g_aload_n F 1 (dk dtX4_advance_1 5 rfl) rfl ?_
                refine g_dup F (dk dtX4_advance_1 6 rfl) rfl ?_
                refine g_get F fa_X4_40 (dk dtX4_advance_1 7 rfl) (by decide) (cc1 D B _ _) rfl ?_
                refine g_top (tx_6 _ _ _ _ _) ?_
                refine g_iconst F (nI 1) (dk dtX4_advance_1 8 rfl) (by decide) ?_
                refine g_iaddN F (dk dtX4_advance_1 9 rfl) ?_
                refine g_put F fa_X4_40 (dk dtX4_advance_1 10 rfl) (by decide) (cc1 D B _ _) (Nat.le_of_ble_eq_true rfl) rfl rfl ((cc1 D B _ _).trans st_Text_6) ?_
                refine g_mem (tx_w6 _ _ _ _ _ _) ?_
                refine g_vret (F := F) hQ (dk dtX4_advance_1 11 rfl) ?_
                have hE : sk (M 2) n a = e := by rw [← hsk]; exact sk_e (fun q => absurd q.1 (Nat.not_lt.mpr c8))
                refine ⟨rfl, ?_⟩
                simp only [tn, tc, nu, hE, if_neg (Nat.not_le.mpr c54), if_neg c79]
                rw [if_pos (Or.inr (Or.inl c109))]
              · -- not taken at 109
                refine g_iload_n F 0 (dk dtX4_advance_0 55 rfl) rfl ?_
                refine g_bipush F (nI 112) (dk dtX4_advance_0 56 rfl) (by decide) ?_
                refine g_icmp_eq F 124 (dk dtX4_advance_0 57 rfl) (by decide) (fun c115 => ?_) (fun c115 => ?_)
                · -- taken at 115
                  refine g_iload_n F 0 (dk dtX4_advance_1 1 rfl) rfl ?_
                  refine g_goto F 131 (dk dtX4_advance_1 2 rfl) (by decide) ?_
                  refine g_put F fa_X4_46 (dk dtX4_advance_1 4 rfl) (by decide) (cc1 D B _ _) (Nat.le_of_ble_eq_true rfl) rfl rfl ((cc1 D B _ _).trans st_Text_8) ?_
                  refine g_mem (tx_w8 _ _ _ _ _ _) ?_
                  refine g_aload_n F 1 (dk dtX4_advance_1 5 rfl) rfl ?_
                  refine g_dup F (dk dtX4_advance_1 6 rfl) rfl ?_
                  refine g_get F fa_X4_40 (dk dtX4_advance_1 7 rfl) (by decide) (cc1 D B _ _) rfl ?_
                  refine g_top (tx_6 _ _ _ _ _) ?_
                  refine g_iconst F (nI 1) (dk dtX4_advance_1 8 rfl) (by decide) ?_
                  refine g_iaddN F (dk dtX4_advance_1 9 rfl) ?_
                  refine g_put F fa_X4_40 (dk dtX4_advance_1 10 rfl) (by decide) (cc1 D B _ _) (Nat.le_of_ble_eq_true rfl) rfl rfl ((cc1 D B _ _).trans st_Text_6) ?_
                  refine g_mem (tx_w6 _ _ _ _ _ _) ?_
                  refine g_vret (F := F) hQ (dk dtX4_advance_1 11 rfl) ?_
                  have hE : sk (M 2) n a = e := by rw [← hsk]; exact sk_e (fun q => absurd q.1 (Nat.not_lt.mpr c8))
                  refine ⟨rfl, ?_⟩
                  simp only [tn, tc, nu, hE, if_neg (Nat.not_le.mpr c54), if_neg c79]
                  rw [if_pos (Or.inr (Or.inr (Or.inl c115)))]
                · -- not taken at 115
                  refine g_iload_n F 0 (dk dtX4_advance_0 58 rfl) rfl ?_
                  refine g_bipush F (nI 59) (dk dtX4_advance_0 59 rfl) (by decide) ?_
                  refine g_icmp_ne F 128 (dk dtX4_advance_1 0 rfl) (by decide) (fun c121 => ?_) (fun c121 => ?_)
                  · -- taken at 121
                    refine g_sipush F (nI 257) (dk dtX4_advance_1 3 rfl) (by decide) ?_
                    refine g_put F fa_X4_46 (dk dtX4_advance_1 4 rfl) (by decide) (cc1 D B _ _) (Nat.le_of_ble_eq_true rfl) rfl rfl ((cc1 D B _ _).trans st_Text_8) ?_
                    refine g_mem (tx_w8 _ _ _ _ _ _) ?_
                    refine g_aload_n F 1 (dk dtX4_advance_1 5 rfl) rfl ?_
                    refine g_dup F (dk dtX4_advance_1 6 rfl) rfl ?_
                    refine g_get F fa_X4_40 (dk dtX4_advance_1 7 rfl) (by decide) (cc1 D B _ _) rfl ?_
                    refine g_top (tx_6 _ _ _ _ _) ?_
                    refine g_iconst F (nI 1) (dk dtX4_advance_1 8 rfl) (by decide) ?_
                    refine g_iaddN F (dk dtX4_advance_1 9 rfl) ?_
                    refine g_put F fa_X4_40 (dk dtX4_advance_1 10 rfl) (by decide) (cc1 D B _ _) (Nat.le_of_ble_eq_true rfl) rfl rfl ((cc1 D B _ _).trans st_Text_6) ?_
                    refine g_mem (tx_w6 _ _ _ _ _ _) ?_
                    refine g_vret (F := F) hQ (dk dtX4_advance_1 11 rfl) ?_
                    have hE : sk (M 2) n a = e := by rw [← hsk]; exact sk_e (fun q => absurd q.1 (Nat.not_lt.mpr c8))
                    refine ⟨rfl, ?_⟩
                    simp only [tn, tc, nu, hE, if_neg (Nat.not_le.mpr c54), if_neg c79]
                    rw [if_neg (fun q => q.elim c103 (fun q => q.elim c109 (fun q => q.elim c115 c121)))]
                  · -- not taken at 121
                    refine g_iload_n F 0 (dk dtX4_advance_1 1 rfl) rfl ?_
                    refine g_goto F 131 (dk dtX4_advance_1 2 rfl) (by decide) ?_
                    refine g_put F fa_X4_46 (dk dtX4_advance_1 4 rfl) (by decide) (cc1 D B _ _) (Nat.le_of_ble_eq_true rfl) rfl rfl ((cc1 D B _ _).trans st_Text_8) ?_
                    refine g_mem (tx_w8 _ _ _ _ _ _) ?_
                    refine g_aload_n F 1 (dk dtX4_advance_1 5 rfl) rfl ?_
                    refine g_dup F (dk dtX4_advance_1 6 rfl) rfl ?_
                    refine g_get F fa_X4_40 (dk dtX4_advance_1 7 rfl) (by decide) (cc1 D B _ _) rfl ?_
                    refine g_top (tx_6 _ _ _ _ _) ?_
                    refine g_iconst F (nI 1) (dk dtX4_advance_1 8 rfl) (by decide) ?_
                    refine g_iaddN F (dk dtX4_advance_1 9 rfl) ?_
                    refine g_put F fa_X4_40 (dk dtX4_advance_1 10 rfl) (by decide) (cc1 D B _ _) (Nat.le_of_ble_eq_true rfl) rfl rfl ((cc1 D B _ _).trans st_Text_6) ?_
                    refine g_mem (tx_w6 _ _ _ _ _ _) ?_
                    refine g_vret (F := F) hQ (dk dtX4_advance_1 11 rfl) ?_
                    have hE : sk (M 2) n a = e := by rw [← hsk]; exact sk_e (fun q => absurd q.1 (Nat.not_lt.mpr c8))
                    refine ⟨rfl, ?_⟩
                    simp only [tn, tc, nu, hE, if_neg (Nat.not_le.mpr c54), if_neg c79]
                    rw [if_pos (Or.inr (Or.inr (Or.inr c121)))]
          · -- not taken at 79
            refine g_aload_n F 0 (dk dtX4_advance_0 39 rfl) rfl ?_
            refine g_callVv F (As := []) (st := []) cv_X4_102 (dk dtX4_advance_0 40 rfl) (by decide) (cc1 D B _ _) rfl rfl (Nat.le_of_ble_eq_true rfl) ⟨by decide, by decide⟩ (k_X4_aon l D B _ M n e hn hn9 _ _ (by omega)) (fun T83 M83 hp83 => ?_)
            obtain ⟨e2, e3⟩ := hp83
            replace e2 := e2.symm; replace e3 := e3.symm; subst e2; subst e3
            refine g_goto F 144 (dk dtX4_advance_0 41 rfl) (by decide) ?_
            refine g_vret (F := F) hQ (dk dtX4_advance_1 11 rfl) ?_
            have hE : sk (M 2) n a = e := by rw [← hsk]; exact sk_e (fun q => absurd q.1 (Nat.not_lt.mpr c8))
            refine ⟨rfl, ?_⟩
            simp only [tn, tc, nu, hE, if_neg (Nat.not_le.mpr c54), if_pos c79]
        · -- not taken at 54
          refine g_aload_n F 0 (dk dtX4_advance_0 28 rfl) rfl ?_
          refine g_sipush F (nI 258) (dk dtX4_advance_0 29 rfl) (by decide) ?_
          refine g_put F fa_X4_46 (dk dtX4_advance_0 30 rfl) (by decide) (cc1 D B _ _) (Nat.le_of_ble_eq_true rfl) rfl rfl ((cc1 D B _ _).trans st_Text_8) ?_
          refine g_mem (tx_w8 _ _ _ _ _ _) ?_
          refine g_goto F 144 (dk dtX4_advance_0 31 rfl) (by decide) ?_
          refine g_vret (F := F) hQ (dk dtX4_advance_1 11 rfl) ?_
          have hE : sk (M 2) n a = e := by rw [← hsk]; exact sk_e (fun q => absurd q.1 (Nat.not_lt.mpr c8))
          refine ⟨rfl, ?_⟩
          simp only [tn, tc, nu, hE, if_pos (Nat.not_lt.mp c54)]
      · -- not taken at 8
        refine g_aload_n F 0 (dk dtX4_advance_0 5 rfl) rfl ?_
        refine g_get F fa_X4_9 (dk dtX4_advance_0 6 rfl) (by decide) (cc1 D B _ _) rfl ?_
        refine g_aload_n F 0 (dk dtX4_advance_0 7 rfl) rfl ?_
        refine g_get F fa_X4_40 (dk dtX4_advance_0 8 rfl) (by decide) (cc1 D B _ _) rfl ?_
        refine g_top (tx_6 _ _ _ _ _) ?_
        refine g_iald F (e) (dk dtX4_advance_0 9 rfl) (by decide) (cc2 D B _ _) (by omega) (by decide) ?_
        refine g_top (congrFun (tx_ne _ _ _ _ _ (by decide)) _) ?_
        refine g_bipush F (nI 32) (dk dtX4_advance_0 10 rfl) (by decide) ?_
        refine g_icmp_ne F 38 (dk dtX4_advance_0 11 rfl) (by decide) (fun c22 => ?_) (fun c22 => ?_)
        · -- taken at 22
          refine g_aload_n F 0 (dk dtX4_advance_0 19 rfl) rfl ?_
          refine g_aload_n F 0 (dk dtX4_advance_0 20 rfl) rfl ?_
          refine g_get F fa_X4_40 (dk dtX4_advance_0 21 rfl) (by decide) (cc1 D B _ _) rfl ?_
          refine g_top (tx_6 _ _ _ _ _) ?_
          refine g_put F fa_X4_43 (dk dtX4_advance_0 22 rfl) (by decide) (cc1 D B _ _) (Nat.le_of_ble_eq_true rfl) rfl rfl ((cc1 D B _ _).trans st_Text_7) ?_
          refine g_mem (tx_w7 _ _ _ _ _ _) ?_
          refine g_aload_n F 0 (dk dtX4_advance_0 23 rfl) rfl ?_
          refine g_get F fa_X4_40 (dk dtX4_advance_0 24 rfl) (by decide) (cc1 D B _ _) rfl ?_
          refine g_top (tx_6 _ _ _ _ _) ?_
          refine g_aload_n F 0 (dk dtX4_advance_0 25 rfl) rfl ?_
          refine g_get F fa_X4_15 (dk dtX4_advance_0 26 rfl) (by decide) (cc1 D B _ _) rfl ?_
          refine g_top (tx_o _ _ _ _ _ (by decide)) ?_
          refine g_top hn ?_
          refine g_icmp_ltN F 67 (dk dtX4_advance_0 27 rfl) (by decide) (by omega) (by omega) (fun c54 => ?_) (fun c54 => ?_)
          · -- taken at 54
            refine g_aload_n F 0 (dk dtX4_advance_0 32 rfl) rfl ?_
            refine g_get F fa_X4_9 (dk dtX4_advance_0 33 rfl) (by decide) (cc1 D B _ _) rfl ?_
            refine g_aload_n F 0 (dk dtX4_advance_0 34 rfl) rfl ?_
            refine g_get F fa_X4_40 (dk dtX4_advance_0 35 rfl) (by decide) (cc1 D B _ _) rfl ?_
            refine g_top (tx_6 _ _ _ _ _) ?_
            refine g_iald F (e) (dk dtX4_advance_0 36 rfl) (by decide) (cc2 D B _ _) (by omega) (by decide) ?_
            refine g_top (congrFun (tx_ne _ _ _ _ _ (by decide)) _) ?_
            refine g_callSi F (As := [.int (M 2 e)]) (st := []) cs_X4_98 (dk dtX4_advance_0 37 rfl) rfl rfl (Nat.le_of_ble_eq_true rfl) ⟨by decide, by decide⟩ (k_X4_isDigit l D B _ _ _) (fun r76 T76 M76 hp76 => ?_)
            obtain ⟨e1, e2, e3⟩ := hp76
            replace e1 := e1.symm; replace e2 := e2.symm; replace e3 := e3.symm; subst e1; subst e2; subst e3
            refine g_if_eqB F 89 (dk dtX4_advance_0 38 rfl) (by decide) (fun c79 => ?_) (fun c79 => ?_)
            · -- taken at 79
              refine g_aload_n F 0 (dk dtX4_advance_0 42 rfl) rfl ?_
              refine g_get F fa_X4_9 (dk dtX4_advance_0 43 rfl) (by decide) (cc1 D B _ _) rfl ?_
              refine g_aload_n F 0 (dk dtX4_advance_0 44 rfl) rfl ?_
              refine g_get F fa_X4_40 (dk dtX4_advance_0 45 rfl) (by decide) (cc1 D B _ _) rfl ?_
              refine g_top (tx_6 _ _ _ _ _) ?_
              refine g_iald F (e) (dk dtX4_advance_0 46 rfl) (by decide) (cc2 D B _ _) (by omega) (by decide) ?_
              refine g_top (congrFun (tx_ne _ _ _ _ _ (by decide)) _) ?_
              refine g_istore_n F [(1, .int (M 2 e)), (0, .ref (B + 1))] (dk dtX4_advance_0 47 rfl) (by decide) rfl ?_
              refine g_aload_n F 1 (dk dtX4_advance_0 48 rfl) rfl ?_
              refine g_iload_n F 0 (dk dtX4_advance_0 49 rfl) rfl ?_
              refine g_bipush F (nI 107) (dk dtX4_advance_0 50 rfl) (by decide) ?_
              refine g_icmp_eq F 124 (dk dtX4_advance_0 51 rfl) (by decide) (fun c103 => ?_) (fun c103 => ?_)
              · -- taken at 103
                refine g_iload_n F 0 (dk dtX4_advance_1 1 rfl) rfl ?_
                refine g_goto F 131 (dk dtX4_advance_1 2 rfl) (by decide) ?_
                refine g_put F fa_X4_46 (dk dtX4_advance_1 4 rfl) (by decide) (cc1 D B _ _) (Nat.le_of_ble_eq_true rfl) rfl rfl ((cc1 D B _ _).trans st_Text_8) ?_
                refine g_mem (tx_w8 _ _ _ _ _ _) ?_
                refine g_aload_n F 1 (dk dtX4_advance_1 5 rfl) rfl ?_
                refine g_dup F (dk dtX4_advance_1 6 rfl) rfl ?_
                refine g_get F fa_X4_40 (dk dtX4_advance_1 7 rfl) (by decide) (cc1 D B _ _) rfl ?_
                refine g_top (tx_6 _ _ _ _ _) ?_
                refine g_iconst F (nI 1) (dk dtX4_advance_1 8 rfl) (by decide) ?_
                refine g_iaddN F (dk dtX4_advance_1 9 rfl) ?_
                refine g_put F fa_X4_40 (dk dtX4_advance_1 10 rfl) (by decide) (cc1 D B _ _) (Nat.le_of_ble_eq_true rfl) rfl rfl ((cc1 D B _ _).trans st_Text_6) ?_
                refine g_mem (tx_w6 _ _ _ _ _ _) ?_
                refine g_vret (F := F) hQ (dk dtX4_advance_1 11 rfl) ?_
                have hE : sk (M 2) n a = e := by rw [← hsk]; exact sk_e (fun q => c22 q.2)
                refine ⟨rfl, ?_⟩
                simp only [tn, tc, nu, hE, if_neg (Nat.not_le.mpr c54), if_neg c79]
                rw [if_pos (Or.inl c103)]
              · -- not taken at 103
                refine g_iload_n F 0 (dk dtX4_advance_0 52 rfl) rfl ?_
                refine g_bipush F (nI 120) (dk dtX4_advance_0 53 rfl) (by decide) ?_
                refine g_icmp_eq F 124 (dk dtX4_advance_0 54 rfl) (by decide) (fun c109 => ?_) (fun c109 => ?_)
                · -- taken at 109
                  refine g_iload_n F 0 (dk dtX4_advance_1 1 rfl) rfl ?_
                  refine g_goto F 131 (dk dtX4_advance_1 2 rfl) (by decide) ?_
                  refine g_put F fa_X4_46 (dk dtX4_advance_1 4 rfl) (by decide) (cc1 D B _ _) (Nat.le_of_ble_eq_true rfl) rfl rfl ((cc1 D B _ _).trans st_Text_8) ?_
                  refine g_mem (tx_w8 _ _ _ _ _ _) ?_
                  refine g_aload_n F 1 (dk dtX4_advance_1 5 rfl) rfl ?_
                  refine g_dup F (dk dtX4_advance_1 6 rfl) rfl ?_
                  refine g_get F fa_X4_40 (dk dtX4_advance_1 7 rfl) (by decide) (cc1 D B _ _) rfl ?_
                  refine g_top (tx_6 _ _ _ _ _) ?_
                  refine g_iconst F (nI 1) (dk dtX4_advance_1 8 rfl) (by decide) ?_
                  refine g_iaddN F (dk dtX4_advance_1 9 rfl) ?_
                  refine g_put F fa_X4_40 (dk dtX4_advance_1 10 rfl) (by decide) (cc1 D B _ _) (Nat.le_of_ble_eq_true rfl) rfl rfl ((cc1 D B _ _).trans st_Text_6) ?_
                  refine g_mem (tx_w6 _ _ _ _ _ _) ?_
                  refine g_vret (F := F) hQ (dk dtX4_advance_1 11 rfl) ?_
                  have hE : sk (M 2) n a = e := by rw [← hsk]; exact sk_e (fun q => c22 q.2)
                  refine ⟨rfl, ?_⟩
                  simp only [tn, tc, nu, hE, if_neg (Nat.not_le.mpr c54), if_neg c79]
                  rw [if_pos (Or.inr (Or.inl c109))]
                · -- not taken at 109
                  refine g_iload_n F 0 (dk dtX4_advance_0 55 rfl) rfl ?_
                  refine g_bipush F (nI 112) (dk dtX4_advance_0 56 rfl) (by decide) ?_
                  refine g_icmp_eq F 124 (dk dtX4_advance_0 57 rfl) (by decide) (fun c115 => ?_) (fun c115 => ?_)
                  · -- taken at 115
                    refine g_iload_n F 0 (dk dtX4_advance_1 1 rfl) rfl ?_
                    refine g_goto F 131 (dk dtX4_advance_1 2 rfl) (by decide) ?_
                    refine g_put F fa_X4_46 (dk dtX4_advance_1 4 rfl) (by decide) (cc1 D B _ _) (Nat.le_of_ble_eq_true rfl) rfl rfl ((cc1 D B _ _).trans st_Text_8) ?_
                    refine g_mem (tx_w8 _ _ _ _ _ _) ?_
                    refine g_aload_n F 1 (dk dtX4_advance_1 5 rfl) rfl ?_
                    refine g_dup F (dk dtX4_advance_1 6 rfl) rfl ?_
                    refine g_get F fa_X4_40 (dk dtX4_advance_1 7 rfl) (by decide) (cc1 D B _ _) rfl ?_
                    refine g_top (tx_6 _ _ _ _ _) ?_
                    refine g_iconst F (nI 1) (dk dtX4_advance_1 8 rfl) (by decide) ?_
                    refine g_iaddN F (dk dtX4_advance_1 9 rfl) ?_
                    refine g_put F fa_X4_40 (dk dtX4_advance_1 10 rfl) (by decide) (cc1 D B _ _) (Nat.le_of_ble_eq_true rfl) rfl rfl ((cc1 D B _ _).trans st_Text_6) ?_
                    refine g_mem (tx_w6 _ _ _ _ _ _) ?_
                    refine g_vret (F := F) hQ (dk dtX4_advance_1 11 rfl) ?_
                    have hE : sk (M 2) n a = e := by rw [← hsk]; exact sk_e (fun q => c22 q.2)
                    refine ⟨rfl, ?_⟩
                    simp only [tn, tc, nu, hE, if_neg (Nat.not_le.mpr c54), if_neg c79]
                    rw [if_pos (Or.inr (Or.inr (Or.inl c115)))]
                  · -- not taken at 115
                    refine g_iload_n F 0 (dk dtX4_advance_0 58 rfl) rfl ?_
                    refine g_bipush F (nI 59) (dk dtX4_advance_0 59 rfl) (by decide) ?_
                    refine g_icmp_ne F 128 (dk dtX4_advance_1 0 rfl) (by decide) (fun c121 => ?_) (fun c121 => ?_)
                    · -- taken at 121
                      refine g_sipush F (nI 257) (dk dtX4_advance_1 3 rfl) (by decide) ?_
                      refine g_put F fa_X4_46 (dk dtX4_advance_1 4 rfl) (by decide) (cc1 D B _ _) (Nat.le_of_ble_eq_true rfl) rfl rfl ((cc1 D B _ _).trans st_Text_8) ?_
                      refine g_mem (tx_w8 _ _ _ _ _ _) ?_
                      refine g_aload_n F 1 (dk dtX4_advance_1 5 rfl) rfl ?_
                      refine g_dup F (dk dtX4_advance_1 6 rfl) rfl ?_
                      refine g_get F fa_X4_40 (dk dtX4_advance_1 7 rfl) (by decide) (cc1 D B _ _) rfl ?_
                      refine g_top (tx_6 _ _ _ _ _) ?_
                      refine g_iconst F (nI 1) (dk dtX4_advance_1 8 rfl) (by decide) ?_
                      refine g_iaddN F (dk dtX4_advance_1 9 rfl) ?_
                      refine g_put F fa_X4_40 (dk dtX4_advance_1 10 rfl) (by decide) (cc1 D B _ _) (Nat.le_of_ble_eq_true rfl) rfl rfl ((cc1 D B _ _).trans st_Text_6) ?_
                      refine g_mem (tx_w6 _ _ _ _ _ _) ?_
                      refine g_vret (F := F) hQ (dk dtX4_advance_1 11 rfl) ?_
                      have hE : sk (M 2) n a = e := by rw [← hsk]; exact sk_e (fun q => c22 q.2)
                      refine ⟨rfl, ?_⟩
                      simp only [tn, tc, nu, hE, if_neg (Nat.not_le.mpr c54), if_neg c79]
                      rw [if_neg (fun q => q.elim c103 (fun q => q.elim c109 (fun q => q.elim c115 c121)))]
                    · -- not taken at 121
                      refine g_iload_n F 0 (dk dtX4_advance_1 1 rfl) rfl ?_
                      refine g_goto F 131 (dk dtX4_advance_1 2 rfl) (by decide) ?_
                      refine g_put F fa_X4_46 (dk dtX4_advance_1 4 rfl) (by decide) (cc1 D B _ _) (Nat.le_of_ble_eq_true rfl) rfl rfl ((cc1 D B _ _).trans st_Text_8) ?_
                      refine g_mem (tx_w8 _ _ _ _ _ _) ?_
                      refine g_aload_n F 1 (dk dtX4_advance_1 5 rfl) rfl ?_
                      refine g_dup F (dk dtX4_advance_1 6 rfl) rfl ?_
                      refine g_get F fa_X4_40 (dk dtX4_advance_1 7 rfl) (by decide) (cc1 D B _ _) rfl ?_
                      refine g_top (tx_6 _ _ _ _ _) ?_
                      refine g_iconst F (nI 1) (dk dtX4_advance_1 8 rfl) (by decide) ?_
                      refine g_iaddN F (dk dtX4_advance_1 9 rfl) ?_
                      refine g_put F fa_X4_40 (dk dtX4_advance_1 10 rfl) (by decide) (cc1 D B _ _) (Nat.le_of_ble_eq_true rfl) rfl rfl ((cc1 D B _ _).trans st_Text_6) ?_
                      refine g_mem (tx_w6 _ _ _ _ _ _) ?_
                      refine g_vret (F := F) hQ (dk dtX4_advance_1 11 rfl) ?_
                      have hE : sk (M 2) n a = e := by rw [← hsk]; exact sk_e (fun q => c22 q.2)
                      refine ⟨rfl, ?_⟩
                      simp only [tn, tc, nu, hE, if_neg (Nat.not_le.mpr c54), if_neg c79]
                      rw [if_pos (Or.inr (Or.inr (Or.inr c121)))]
            · -- not taken at 79
              refine g_aload_n F 0 (dk dtX4_advance_0 39 rfl) rfl ?_
              refine g_callVv F (As := []) (st := []) cv_X4_102 (dk dtX4_advance_0 40 rfl) (by decide) (cc1 D B _ _) rfl rfl (Nat.le_of_ble_eq_true rfl) ⟨by decide, by decide⟩ (k_X4_aon l D B _ M n e hn hn9 _ _ (by omega)) (fun T83 M83 hp83 => ?_)
              obtain ⟨e2, e3⟩ := hp83
              replace e2 := e2.symm; replace e3 := e3.symm; subst e2; subst e3
              refine g_goto F 144 (dk dtX4_advance_0 41 rfl) (by decide) ?_
              refine g_vret (F := F) hQ (dk dtX4_advance_1 11 rfl) ?_
              have hE : sk (M 2) n a = e := by rw [← hsk]; exact sk_e (fun q => c22 q.2)
              refine ⟨rfl, ?_⟩
              simp only [tn, tc, nu, hE, if_neg (Nat.not_le.mpr c54), if_pos c79]
          · -- not taken at 54
            refine g_aload_n F 0 (dk dtX4_advance_0 28 rfl) rfl ?_
            refine g_sipush F (nI 258) (dk dtX4_advance_0 29 rfl) (by decide) ?_
            refine g_put F fa_X4_46 (dk dtX4_advance_0 30 rfl) (by decide) (cc1 D B _ _) (Nat.le_of_ble_eq_true rfl) rfl rfl ((cc1 D B _ _).trans st_Text_8) ?_
            refine g_mem (tx_w8 _ _ _ _ _ _) ?_
            refine g_goto F 144 (dk dtX4_advance_0 31 rfl) (by decide) ?_
            refine g_vret (F := F) hQ (dk dtX4_advance_1 11 rfl) ?_
            have hE : sk (M 2) n a = e := by rw [← hsk]; exact sk_e (fun q => c22 q.2)
            refine ⟨rfl, ?_⟩
            simp only [tn, tc, nu, hE, if_pos (Nat.not_lt.mp c54)]
        · -- not taken at 22
          refine g_aload_n F 0 (dk dtX4_advance_0 12 rfl) rfl ?_
          refine g_dup F (dk dtX4_advance_0 13 rfl) rfl ?_
          refine g_get F fa_X4_40 (dk dtX4_advance_0 14 rfl) (by decide) (cc1 D B _ _) rfl ?_
          refine g_top (tx_6 _ _ _ _ _) ?_
          refine g_iconst F (nI 1) (dk dtX4_advance_0 15 rfl) (by decide) ?_
          refine g_iaddN F (dk dtX4_advance_0 16 rfl) ?_
          refine g_put F fa_X4_40 (dk dtX4_advance_0 17 rfl) (by decide) (cc1 D B _ _) (Nat.le_of_ble_eq_true rfl) rfl rfl ((cc1 D B _ _).trans st_Text_6) ?_
          refine g_mem (tx_w6 _ _ _ _ _ _) ?_
          refine g_goto F 0 (dk dtX4_advance_0 18 rfl) (by decide) ?_
          exact ih0 (e + 1) ⟨by omega, by omega, by rw [← hsk, sk_s c8 c22]⟩ (by omega)
  exact lp0 (n + 1) a ⟨by omega, by omega, rfl⟩ (by omega)
set_option maxRecDepth 100000 in
set_option maxHeartbeats 4000000 in
theorem k_X4_readNumber (l : Launch) (D : DX) (B : Nat) (T : Int64) (M : Mem) (n a : Nat) (hn : M 1 1 = nI n) (hn9 : n ≤ 150) (s t u : Int32) (han : a ≤ n) (lo hi : Int32) : Ci l D B 108 (celC D B) yX4_readNumber cX4_readNumber 3 (some .boolean) 3 [.ref (B + 1), .int lo, .int hi] T (tx M (nI a) s t u) (fun rz T1 M1 => rz = bI (tc (M 2) n a = nI 256 ∧ ¬ nu (M 2) n a u < lo ∧ ¬ hi < nu (M 2) n a u) ∧ T1 = T ∧ M1 = tx M (nI (tn (M 2) n a)) (nI (sk (M 2) n a)) (tc (M 2) n a) (nu (M 2) n a u)) := by
  refine g_entryi (L := [(0, .ref (B + 1)), (1, .int lo), (2, .int hi)]) (by decide) (Nat.le_of_ble_eq_true rfl) rfl ?_
  intro zp ze zs zm zb zt zc Q F hQ
  refine g_aload_n F 0 (dk dtX4_readNumber_0 0 rfl) rfl ?_
  refine g_callVv F (As := []) (st := []) cv_X4_56 (dk dtX4_readNumber_0 1 rfl) (by decide) (cc1 D B _ _) rfl rfl (Nat.le_of_ble_eq_true rfl) ⟨by decide, by decide⟩ (k_X4_advance l D B _ M n a hn hn9 _ _ _ han) (fun T1 M1 hp1 => ?_)
  obtain ⟨e2, e3⟩ := hp1
  replace e2 := e2.symm; replace e3 := e3.symm; subst e2; subst e3
  refine g_aload_n F 0 (dk dtX4_readNumber_0 2 rfl) rfl ?_
  refine g_get F fa_X4_46 (dk dtX4_readNumber_0 3 rfl) (by decide) (cc1 D B _ _) rfl ?_
  refine g_top (tx_8 _ _ _ _ _) ?_
  refine g_sipush F (nI 256) (dk dtX4_readNumber_0 4 rfl) (by decide) ?_
  refine g_icmp_ne F 34 (dk dtX4_readNumber_0 5 rfl) (by decide) (fun c11 => ?_) (fun c11 => ?_)
  · -- taken at 11
    refine g_iconst F (nI 0) (dk dtX4_readNumber_0 16 rfl) (by decide) ?_
    refine g_zret (F := F) hQ (dk dtX4_readNumber_0 17 rfl) (rfl) ?_
    exact ⟨(if_neg (fun h => c11 h.1)).symm, rfl, rfl⟩
  · -- not taken at 11
    refine g_aload_n F 0 (dk dtX4_readNumber_0 6 rfl) rfl ?_
    refine g_get F fa_X4_49 (dk dtX4_readNumber_0 7 rfl) (by decide) (cc1 D B _ _) rfl ?_
    refine g_top (tx_9 _ _ _ _ _) ?_
    refine g_iload_n F 1 (dk dtX4_readNumber_0 8 rfl) rfl ?_
    refine g_icmp_lt F 34 (dk dtX4_readNumber_0 9 rfl) (by decide) (fun c19 => ?_) (fun c19 => ?_)
    · -- taken at 19
      refine g_iconst F (nI 0) (dk dtX4_readNumber_0 16 rfl) (by decide) ?_
      refine g_zret (F := F) hQ (dk dtX4_readNumber_0 17 rfl) (rfl) ?_
      exact ⟨(if_neg (fun h => h.2.1 c19)).symm, rfl, rfl⟩
    · -- not taken at 19
      refine g_aload_n F 0 (dk dtX4_readNumber_0 10 rfl) rfl ?_
      refine g_get F fa_X4_49 (dk dtX4_readNumber_0 11 rfl) (by decide) (cc1 D B _ _) rfl ?_
      refine g_top (tx_9 _ _ _ _ _) ?_
      refine g_iload_n F 2 (dk dtX4_readNumber_0 12 rfl) rfl ?_
      refine g_icmp_gt F 34 (dk dtX4_readNumber_0 13 rfl) (by decide) (fun c27 => ?_) (fun c27 => ?_)
      · -- taken at 27
        refine g_iconst F (nI 0) (dk dtX4_readNumber_0 16 rfl) (by decide) ?_
        refine g_zret (F := F) hQ (dk dtX4_readNumber_0 17 rfl) (rfl) ?_
        exact ⟨(if_neg (fun h => h.2.2 c27)).symm, rfl, rfl⟩
      · -- not taken at 27
        refine g_iconst F (nI 1) (dk dtX4_readNumber_0 14 rfl) (by decide) ?_
        refine g_goto F 35 (dk dtX4_readNumber_0 15 rfl) (by decide) ?_
        refine g_zret (F := F) hQ (dk dtX4_readNumber_0 17 rfl) (rfl) ?_
        exact ⟨(if_pos ⟨c11, c19, c27⟩).symm, rfl, rfl⟩
set_option maxRecDepth 100000 in
set_option maxHeartbeats 4000000 in
theorem k_X4_readEnd (l : Launch) (D : DX) (B : Nat) (T : Int64) (M : Mem) (n a : Nat) (hn : M 1 1 = nI n) (hn9 : n ≤ 150) (s t u : Int32) (han : a ≤ n) : Ci l D B 108 (celC D B) yX4_readEnd cX4_readEnd 1 (some .boolean) 3 [.ref (B + 1)] T (tx M (nI a) s t u) (fun rz T1 M1 => rz = bI (tc (M 2) n a = nI 59) ∧ T1 = T ∧ M1 = tx M (nI (tn (M 2) n a)) (nI (sk (M 2) n a)) (tc (M 2) n a) (nu (M 2) n a u)) := by
  refine g_entryi (L := [(0, .ref (B + 1))]) (by decide) (Nat.le_of_ble_eq_true rfl) rfl ?_
  intro zp ze zs zm zb zt zc Q F hQ
  refine g_aload_n F 0 (dk dtX4_readEnd_0 0 rfl) rfl ?_
  refine g_callVv F (As := []) (st := []) cv_X4_56 (dk dtX4_readEnd_0 1 rfl) (by decide) (cc1 D B _ _) rfl rfl (Nat.le_of_ble_eq_true rfl) ⟨by decide, by decide⟩ (k_X4_advance l D B _ M n a hn hn9 _ _ _ han) (fun T1 M1 hp1 => ?_)
  obtain ⟨e2, e3⟩ := hp1
  replace e2 := e2.symm; replace e3 := e3.symm; subst e2; subst e3
  refine g_aload_n F 0 (dk dtX4_readEnd_0 2 rfl) rfl ?_
  refine g_get F fa_X4_46 (dk dtX4_readEnd_0 3 rfl) (by decide) (cc1 D B _ _) rfl ?_
  refine g_top (tx_8 _ _ _ _ _) ?_
  refine g_bipush F (nI 59) (dk dtX4_readEnd_0 4 rfl) (by decide) ?_
  refine g_icmp_ne F 17 (dk dtX4_readEnd_0 5 rfl) (by decide) (fun c10 => ?_) (fun c10 => ?_)
  · -- taken at 10
    refine g_iconst F (nI 0) (dk dtX4_readEnd_0 8 rfl) (by decide) ?_
    refine g_zret (F := F) hQ (dk dtX4_readEnd_0 9 rfl) (rfl) ?_
    exact ⟨(if_neg c10).symm, rfl, rfl⟩
  · -- not taken at 10
    refine g_iconst F (nI 1) (dk dtX4_readEnd_0 6 rfl) (by decide) ?_
    refine g_goto F 18 (dk dtX4_readEnd_0 7 rfl) (by decide) ?_
    refine g_zret (F := F) hQ (dk dtX4_readEnd_0 9 rfl) (rfl) ?_
    exact ⟨(if_pos c10).symm, rfl, rfl⟩
