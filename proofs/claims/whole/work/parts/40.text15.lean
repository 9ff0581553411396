set_option maxRecDepth 100000 in
set_option maxHeartbeats 4000000 in
theorem k_X4_read (l : Launch) (D : DX) (B : Nat) (T : Int64) (M : Mem) (f : Nat → Int32) (n : Nat) (hf : M 2 = f) (hn : M 1 1 = nI n) (hn9 : n ≤ 150) (Mm : Mem) (hm : Mm 1 = f) : Ci l D B 108 (celC D B) yX4_read cX4_read 2 (some .int) 6 [.ref (B + 1)] T M (fun rz T1 M1 => T1 = T ∧ ∃ (M2 : Mem) (g2 : CG), M1 = txS M2 g2 ∧ RQ f n M Mm rz M2) := by
  refine g_entryi (L := [(0, .ref (B + 1))]) (by decide) (Nat.le_of_ble_eq_true rfl) rfl ?_
  intro zp ze zs zm zb zt zc Q F hQ
  refine g_aload_n F 0 (dk dtX4_read_0 0 rfl) rfl ?_
  refine g_get F fa_X4_22 (dk dtX4_read_0 1 rfl) (by decide) (cc1 D B _ _) rfl ?_
  refine g_callVv F (As := []) (st := []) cv_X4_52 (dk dtX4_read_0 2 rfl) (by decide) (cc3 D B _ _) rfl rfl (Nat.le_of_ble_eq_true rfl) ⟨by decide, by decide⟩ (k_X5_reset l D B _ _) (fun T4 M4 hp4 => ?_)
  obtain ⟨e2, e3⟩ := hp4
  replace e2 := e2.symm; replace e3 := e3.symm; subst e2; subst e3
  refine g_aload_n F 0 (dk dtX4_read_0 3 rfl) rfl ?_
  refine g_get F fa_X4_29 (dk dtX4_read_0 4 rfl) (by decide) (cc1 D B _ _) rfl ?_
  refine g_callVv F (As := []) (st := []) cv_X4_55 (dk dtX4_read_0 5 rfl) (by decide) (cc5 D B _ _) rfl rfl (Nat.le_of_ble_eq_true rfl) ⟨by decide, by decide⟩ (k_X2_reset l D B _ _ 5 (isNow5 D B)) (fun T11 M11 hp11 => ?_)
  obtain ⟨e2, e3⟩ := hp11
  replace e2 := e2.symm; replace e3 := e3.symm; subst e2; subst e3
  refine g_aload_n F 0 (dk dtX4_read_0 6 rfl) rfl ?_
  refine g_iconst F (nI 0) (dk dtX4_read_0 7 rfl) (by decide) ?_
  refine g_put F fa_X4_33 (dk dtX4_read_0 8 rfl) (by decide) (cc1 D B _ _) (Nat.le_of_ble_eq_true rfl) rfl rfl ((cc1 D B _ _).trans st_Text_4) ?_
  refine g_aload_n F 0 (dk dtX4_read_0 9 rfl) rfl ?_
  refine g_iconst F (nI 0) (dk dtX4_read_0 10 rfl) (by decide) ?_
  refine g_put F fa_X4_37 (dk dtX4_read_0 11 rfl) (by decide) (cc1 D B _ _) (Nat.le_of_ble_eq_true rfl) rfl rfl ((cc1 D B _ _).trans st_Text_5) ?_
  refine g_aload_n F 0 (dk dtX4_read_0 12 rfl) rfl ?_
  refine g_iconst F (nI 0) (dk dtX4_read_0 13 rfl) (by decide) ?_
  refine g_put F fa_X4_40 (dk dtX4_read_0 14 rfl) (by decide) (cc1 D B _ _) (Nat.le_of_ble_eq_true rfl) rfl rfl ((cc1 D B _ _).trans st_Text_6) ?_
  refine g_iconst F (nI 0) (dk dtX4_read_0 15 rfl) (by decide) ?_
  refine g_istore_n F [(1, .int (nI 0)), (0, .ref (B + 1))] (dk dtX4_read_0 16 rfl) (by decide) rfl ?_
  have lp31 : ∀ (fz : Nat) (i : Nat) (M2 : Mem) (g2 : CG), RI f n M Mm i M2 g2 → (n - i) < fz → G zp l ze { frames := 6, cells := 0, slots := 0, locals := 40 * 6 } zs zm [.ref (B + 1)].toArray zb zt zc 2 D B 108 (celC D B) Q T (txS M2 g2) 31 [(0, .ref (B + 1)), (1, .int (nI i))] [] := by
    intro n31
    induction n31 with
    | zero => intro i M2 g2 hI hn; exact absurd hn (Nat.not_lt_zero _)
    | succ n31 ih31 =>
      intro i M2 g2 hI31 hn31
      have hf2 : M2 2 = f := (hI31.2.2.1.1 2 (by decide) (by decide)).trans hf
      have hn2 : M2 1 1 = nI n := hI31.2.2.1.2.trans hn
      have hig := hI31.1
      have hgn := hI31.2.1
      obtain ⟨K, X, P, hD⟩ := hI31.2.2.2.2.1
      refine g_iload_n F 1 (dk dtX4_read_0 17 rfl) rfl ?_
      refine g_sipush F (nI 150) (dk dtX4_read_0 18 rfl) (by decide) ?_
      refine g_icmp_gtN F 82 (dk dtX4_read_0 19 rfl) (by decide) (by omega) (by omega) (fun c35 => ?_) (fun c35 => ?_)
      · -- taken at 35
        exact absurd c35 (by omega)
      · -- not taken at 35
        refine g_aload_n F 0 (dk dtX4_read_0 20 rfl) rfl ?_
        refine g_callVv F (As := []) (st := []) cv_X4_56 (dk dtX4_read_0 21 rfl) (by decide) (cc1 D B _ _) rfl rfl (Nat.le_of_ble_eq_true rfl) ⟨by decide, by decide⟩ (k_X4_advanceS l D B _ M2 f n hf2 hn2 hn9 g2 hgn) (fun T39 M39 hp39 => ?_)
        obtain ⟨e2, e3⟩ := hp39
        replace e2 := e2.symm; replace e3 := e3.symm; subst e2; subst e3
        refine g_aload_n F 0 (dk dtX4_read_0 22 rfl) rfl ?_
        refine g_get F fa_X4_46 (dk dtX4_read_0 23 rfl) (by decide) (cc1 D B _ _) rfl ?_
        refine g_top (txS_8 _ _) ?_
        refine g_sipush F (nI 258) (dk dtX4_read_0 24 rfl) (by decide) ?_
        refine g_icmp_ne F 54 (dk dtX4_read_0 25 rfl) (by decide) (fun c49 => ?_) (fun c49 => ?_)
        · -- taken at 49
          refine g_aload_n F 0 (dk dtX4_read_0 28 rfl) rfl ?_
          refine g_callVi F (As := []) (st := []) cv_X4_59 (dk dtX4_read_0 29 rfl) (by decide) (cc1 D B _ _) rfl rfl (Nat.le_of_ble_eq_true rfl) ⟨by decide, by decide⟩ (k_X4_readItem l D B _ M2 f n hf2 hn2 hn9 g2 hgn _ hI31.2.2.2.1 K X P hD) (fun r55 T55 M55 hp55 => ?_)
          obtain ⟨e2, M3, g3, e3, hI⟩ := hp55
          replace e2 := e2.symm; replace e3 := e3.symm; subst e2; subst e3
          have hf3 : M3 2 = f := (hI.1.2.2.1 2 (by decide) (by decide)).trans hf2
          have hn3 : M3 1 1 = nI n := hI.1.2.2.2.trans hn2
          refine g_if_eq F 68 (dk dtX4_read_0 30 rfl) (by decide) (fun c58 => ?_) (fun c58 => ?_)
          · -- taken at 58
            refine g_bipush F (-10) (dk dtX4_read_0 34 rfl) (by decide) ?_
            refine g_aload_n F 0 (dk dtX4_read_0 35 rfl) rfl ?_
            refine g_get F fa_X4_43 (dk dtX4_read_0 36 rfl) (by decide) (cc1 D B _ _) rfl ?_
            refine g_top (txS_7 _ _) ?_
            refine g_isub F (dk dtX4_read_0 37 rfl) ?_
            refine g_iret (F := F) hQ (dk dtX4_read_0 38 rfl) ?_
            exact ⟨rfl, _, _, rfl, RQ_b1 hI31 c49 hI c58⟩
          · -- not taken at 58
            refine g_aload_n F 0 (dk dtX4_read_0 31 rfl) rfl ?_
            refine g_callVi F (As := []) (st := []) cv_X4_63 (dk dtX4_read_0 32 rfl) (by decide) (cc1 D B _ _) rfl rfl (Nat.le_of_ble_eq_true rfl) ⟨by decide, by decide⟩ (k_X4_readEndS l D B _ M3 f n hf3 hn3 hn9 g3 hI.1.1) (fun r62 T62 M62 hp62 => ?_)
            obtain ⟨e1, e2, e3⟩ := hp62
            replace e1 := e1.symm; replace e2 := e2.symm; replace e3 := e3.symm; subst e1; subst e2; subst e3
            refine g_if_neB F 76 (dk dtX4_read_0 33 rfl) (by decide) (fun c65 => ?_) (fun c65 => ?_)
            · -- taken at 65
              refine g_iinc F 1 (nI (i + 1)) [(1, .int (nI (i + 1))), (0, .ref (B + 1))] (dk dtX4_read_0 39 rfl) rfl (nI_1 _) (by decide) rfl ?_
              refine g_goto F 31 (dk dtX4_read_0 40 rfl) (by decide) ?_
              refine g_sub [1, 0] (L1 := [(0, .ref (B + 1)), (1, .int (nI (i + 1)))]) rfl ?_
              have hRs := RI_s hI31 c49 hI c58 c65
              exact ih31 (i + 1) _ _ hRs (by have h1 := hRs.1; have h2 := hRs.2.1; omega)
            · -- not taken at 65
              refine g_bipush F (-10) (dk dtX4_read_0 34 rfl) (by decide) ?_
              refine g_aload_n F 0 (dk dtX4_read_0 35 rfl) rfl ?_
              refine g_get F fa_X4_43 (dk dtX4_read_0 36 rfl) (by decide) (cc1 D B _ _) rfl ?_
              refine g_top (txS_7 _ _) ?_
              refine g_isub F (dk dtX4_read_0 37 rfl) ?_
              refine g_iret (F := F) hQ (dk dtX4_read_0 38 rfl) ?_
              exact ⟨rfl, _, _, rfl, RQ_b2 hI31 hn9 c49 hI c58 c65⟩
        · -- not taken at 49
          refine g_iload_n F 1 (dk dtX4_read_0 26 rfl) rfl ?_
          refine g_iret (F := F) hQ (dk dtX4_read_0 27 rfl) ?_
          exact ⟨rfl, _, _, rfl, RQ_end hI31 hn9 c49⟩
  refine g_sub [1, 0] (L1 := [(0, .ref (B + 1)), (1, .int (nI 0))]) rfl ?_
  exact g_mem (txS_self (rdM0 M) 0 (up2_at _ _ _ _)) (lp31 (n + 1) 0 _ _ (RI_0 M hm _ _ _) (by omega))
