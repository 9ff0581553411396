theorem wC_p {s : Mem × SG} (h1 : s.2.2.1 = 1) (h2 : mbQ (kN (s.1 2 5)) (s.1 0 9) s.2.2.2.2.1) : nI 1 = nI (wC s) := by
  rw [show wC s = 1 from if_pos ⟨h1, h2⟩]
theorem wC_n {s : Mem × SG} (h : ¬ (s.2.2.1 = 1 ∧ mbQ (kN (s.1 2 5)) (s.1 0 9) s.2.2.2.2.1)) : nI 0 = nI (wC s) := by
  rw [show wC s = 0 from if_neg h]
theorem wD_p {f : Nat → Int32} {n : Nat} {s : Mem × SG} (h : (it2 f n s).2.2.1 = 3) : nI 1 = nI (wD f n s) := by
  rw [show wD f n s = 1 from if_pos h]
theorem wD_n {f : Nat → Int32} {n : Nat} {s : Mem × SG} (h : ¬ (it2 f n s).2.2.1 = 3) : nI 0 = nI (wD f n s) := by
  rw [show wD f n s = 0 from if_neg h]
theorem itN_s (f : Nat → Int32) (n : Nat) (s : Mem × SG) (i : Nat) : itN f n s (i + 1) = itM f n (itN f n s i) := by
  simp only [itN]
def tB (M : Mem) : Mem := setR (bg0 (up2 (up2 M 0 8 (-1)) 0 4 (nI 0))) 4 (fun _ => nI 0)
def s0 (M : Mem) (n : Nat) : Mem × SG := (tB M, (tn (M 1) n 0, tkd (M 1) n 0, nI (sk (M 1) n 0), vl (M 1) n 0 (M 0 7), -1))
theorem s0_e (M : Mem) (n : Nat) : s0 M n = (tB M, (tn (M 1) n 0, tkd (M 1) n 0, nI (sk (M 1) n 0), vl (M 1) n 0 (M 0 7), -1)) := by
  unfold s0
  exact Eq.refl _
theorem tB_1 (M : Mem) : tB M 1 = M 1 := by simp [tB, bg0, up2, setR]
theorem tB_3 (M : Mem) : tB M 0 3 = M 0 3 := by simp [tB, bg0, up2, setR, upd]
theorem tB_s (M : Mem) : tB M = tym (tB M) (nI 0) (M 0 5) (M 0 6) (M 0 7) (-1) := by
  funext i j
  unfold tym
  by_cases h : i = 0
  · subst h
    rw [setR_self]
    by_cases h8 : j = 8
    · subst h8; simp [tB, bg0, up2, setR, upd]
    · by_cases h7 : j = 7
      · subst h7; simp [tB, bg0, up2, setR, upd]
      · by_cases h6 : j = 6
        · subst h6; simp [tB, bg0, up2, setR, upd]
        · by_cases h5 : j = 5
          · subst h5; simp [tB, bg0, up2, setR, upd]
          · by_cases h4 : j = 4
            · subst h4; simp [tB, bg0, up2, setR, upd]
            · rw [pk_un h8, pk_un h7, pk_un h6, pk_un h5, pk_un h4]
  · rw [setR_ne _ _ h]
theorem s0_1 (M : Mem) (n : Nat) : (s0 M n).1 1 = M 1 := by rw [s0_e, fst_mk]; exact tB_1 M
theorem s0_3 (M : Mem) (n : Nat) : (s0 M n).1 0 3 = M 0 3 := by rw [s0_e, fst_mk]; exact tB_3 M
theorem s0_g (M : Mem) {n : Nat} (hn : n ≤ 150) : GOK n (s0 M n).2 := by
  rw [s0_e, snd_mk]
  have h1 := sk_le (f := M 1) (Nat.zero_le n)
  exact ⟨(tn_le (Nat.zero_le n)).2, tkd_lt _ _ _, nI_pos (by omega)⟩
theorem s0_l (M : Mem) (n : Nat) : LOK (s0 M n).2 := by
  rw [s0_e, snd_mk]
  exact adv_l _ _ _ _ _ _
theorem s0_M (M : Mem) (n : Nat) : MOK (s0 M n).1 := by
  rw [s0_e, fst_mk]
  refine ⟨⟨3, by decide, ?_⟩, ⟨2, by decide, ?_⟩, ⟨0, by decide, ?_⟩⟩ <;> simp [tB, bg0, up2, setR, upd]
theorem k_X7_adv0 (l : Launch) (D : DX) (B : Nat) (T : Int64) (M : Mem) (n : Nat) (hn : M 0 3 = nI n) (hn9 : n ≤ 150) (hL : ∀ j, j < n → inR (M 1 j) 256) : Cv l D B 14 (celM D B) yX7_advances cX7_advances 2 none 2 [.ref (B + 0)] T (tB M) (fun T1 M1 => T1 = T ∧ M1 = tyS (s0 M n).1 (s0 M n).2) := by
  have h := k_X7_advances l D B T (tB M) n 0 ((tB_3 M).trans hn) hn9 (by rw [tB_1]; exact hL) (M 0 5) (M 0 6) (M 0 7) (-1) (Nat.zero_le n)
  rw [← tB_s, tB_1] at h
  rw [s0_e, fst_mk, snd_mk]
  exact h
set_option maxRecDepth 100000 in
set_option maxHeartbeats 4000000 in
theorem k_X7_town (l : Launch) (D : DX) (B : Nat) (T : Int64) (M : Mem) (h0 : M 0 0 = 0) (n : Nat) (hn : M 0 3 = nI n) (hn9 : n ≤ 150) (hL : ∀ j, j < n → inR (M 1 j) 256) : Ci l D B 14 (celM D B) yX7_town cX7_town 3 (some .int) 6 [.ref (B + 0)] T M (fun rz T1 M1 => ∃ j : Nat, (∀ k, k < j → (itN (M 1) n (s0 M n) k).2.2.2.2.2 < 0 ∧ ¬ (itN (M 1) n (s0 M n) k).2.2.1 = 0) ∧ T1 = T ∧ ((¬ (itN (M 1) n (s0 M n) j).2.2.2.2.2 < 0 ∧ rz = (-10) - (itN (M 1) n (s0 M n) j).2.2.2.2.2 ∧ M1 = tyS (itN (M 1) n (s0 M n) j).1 (itN (M 1) n (s0 M n) j).2) ∨ ((itN (M 1) n (s0 M n) j).2.2.2.2.2 < 0 ∧ (itN (M 1) n (s0 M n) j).2.2.1 = 0 ∧ rz = nI j ∧ M1 = seM (tyS (itN (M 1) n (s0 M n) j).1 (itN (M 1) n (s0 M n) j).2)))) := by
  refine g_entryi (L := [(0, .ref (B + 0))]) (by decide) (Nat.le_of_ble_eq_true rfl) rfl ?_
  intro zp ze zs zm zb zt zc Q F hQ
  refine g_aload_n F 0 (dk dtX7_town_0 0 rfl) rfl ?_
  refine g_iconst F (nI 0) (dk dtX7_town_0 1 rfl) (by decide) ?_
  refine g_put F fa_X7_56 (dk dtX7_town_0 2 rfl) (by decide) (cm0 D B _ _) (Nat.le_of_ble_eq_true rfl) rfl rfl ((cm0 D B _ _).trans st_Mod_0) ?_
  refine g_mem (up2_same h0) ?_
  refine g_aload_n F 0 (dk dtX7_town_0 3 rfl) rfl ?_
  refine g_iconst F (-1) (dk dtX7_town_0 4 rfl) (by decide) ?_
  refine g_put F fa_X7_87 (dk dtX7_town_0 5 rfl) (by decide) (cm0 D B _ _) (Nat.le_of_ble_eq_true rfl) rfl rfl ((cm0 D B _ _).trans st_Mod_8) ?_
  refine g_aload_n F 0 (dk dtX7_town_0 6 rfl) rfl ?_
  refine g_iconst F (nI 0) (dk dtX7_town_0 7 rfl) (by decide) ?_
  refine g_put F fa_X7_67 (dk dtX7_town_0 8 rfl) (by decide) (cm0 D B _ _) (Nat.le_of_ble_eq_true rfl) rfl rfl ((cm0 D B _ _).trans st_Mod_4) ?_
  refine g_aload_n F 0 (dk dtX7_town_0 9 rfl) rfl ?_
  refine g_callVv F (As := []) (st := []) cv_X7_50 (dk dtX7_town_0 10 rfl) (by decide) (cm0 D B _ _) rfl rfl (Nat.le_of_ble_eq_true rfl) ⟨by decide, by decide⟩ (k_X7_begins l D B _ _) (fun T16 M16 hp16 => ?_)
  obtain ⟨e2, e3⟩ := hp16
  replace e2 := e2.symm; replace e3 := e3.symm; subst e2; subst e3
  refine g_mem (show _ = tB M from rfl) ?_
  refine g_iconst F (nI 0) (dk dtX7_town_0 11 rfl) (by decide) ?_
  refine g_istore_n F [(1, .int (nI 0)), (0, .ref (B + 0))] (dk dtX7_town_0 12 rfl) (by decide) rfl ?_
  refine g_aload_n F 1 (dk dtX7_town_0 13 rfl) rfl ?_
  refine g_callVv F (As := []) (st := []) cv_X7_94 (dk dtX7_town_0 14 rfl) (by decide) (cm0 D B _ _) rfl rfl (Nat.le_of_ble_eq_true rfl) ⟨by decide, by decide⟩ (k_X7_adv0 l D B _ M n hn hn9 hL) (fun T22 M22 hp22 => ?_)
  obtain ⟨e2, e3⟩ := hp22
  replace e2 := e2.symm; replace e3 := e3.symm; subst e2; subst e3
  have lp25 : ∀ (fz : Nat) (i : Nat), (∀ k, k < i → (itN (M 1) n (s0 M n) k).2.2.2.2.2 < 0 ∧ ¬ (itN (M 1) n (s0 M n) k).2.2.1 = 0) → (mu n (itN (M 1) n (s0 M n) i).2) < fz → G zp l ze { frames := 6, cells := 0, slots := 0, locals := 40 * 6 } zs zm [.ref (B + 0)].toArray zb zt zc 3 D B 14 (celM D B) Q T (tyS (itN (M 1) n (s0 M n) i).1 (itN (M 1) n (s0 M n) i).2) 25 [(0, .ref (B + 0)), (1, .int (nI i))] [] := by
    intro n25
    induction n25 with
    | zero => intro i hI hn; exact absurd hn (Nat.not_lt_zero _)
    | succ n25 ih25 =>
      intro i hI25 hn25
      have hok := itN_ok (f := M 1) hn9 (s0_g M hn9) (s0_M M n) i
      have hl := itN_l (f := M 1) (n := n) (s0_l M n) i
      have hfi := (itN_fr (M 1) n (s0 M n) i (c := 1) (by decide) (by decide) (by decide) (by decide)).trans (s0_1 M n)
      have hni := (itN_f0 (M 1) n (s0 M n) i (j := 3) (by decide)).trans ((s0_3 M n).trans hn)
      have hk9 : (itN (M 1) n (s0 M n) i).2.2.1 < 9 := hok.1.2.1
      have hk2 : (it2 (M 1) n (itN (M 1) n (s0 M n) i)).2.2.1 < 9 := (it2_g hn9 (TF_g hn9 hok.1).1).1.2.1
      refine g_aload_n F 0 (dk dtX7_town_0 15 rfl) rfl ?_
      refine g_callVi F (As := []) (st := []) cv_X7_90 (dk dtX7_town_0 16 rfl) (by decide) (cm0 D B _ _) rfl rfl (Nat.le_of_ble_eq_true rfl) ⟨by decide, by decide⟩ (k_X7_isWellS l D B _ _ _) (fun r26 T26 M26 hp26 => ?_)
      obtain ⟨e1, e2, e3⟩ := hp26
      replace e1 := e1.symm; replace e2 := e2.symm; replace e3 := e3.symm; subst e1; subst e2; subst e3
      refine g_if_eqB F 100 (dk dtX7_town_0 17 rfl) (by decide) (fun c29 => ?_) (fun c29 => ?_)
      · -- taken at 29
        refine g_aload_n F 0 (dk dtX7_town_0 52 rfl) rfl ?_
        refine g_callVi F (As := []) (st := []) cv_X7_90 (dk dtX7_town_0 53 rfl) (by decide) (cm0 D B _ _) rfl rfl (Nat.le_of_ble_eq_true rfl) ⟨by decide, by decide⟩ (k_X7_isWellS l D B _ _ _) (fun r101 T101 M101 hp101 => ?_)
        obtain ⟨e1, e2, e3⟩ := hp101
        replace e1 := e1.symm; replace e2 := e2.symm; replace e3 := e3.symm; subst e1; subst e2; subst e3
        refine g_if_neB F 115 (dk dtX7_town_0 54 rfl) (by decide) (fun c104 => ?_) (fun c104 => ?_)
        · -- taken at 104
          refine g_aload_n F 0 (dk dtX7_town_1 0 rfl) rfl ?_
          refine g_callVv F (As := []) (st := []) cv_X7_53 (dk dtX7_town_1 1 rfl) (by decide) (cm0 D B _ _) rfl rfl (Nat.le_of_ble_eq_true rfl) ⟨by decide, by decide⟩ (k_X7_settles l D B _ _) (fun T116 M116 hp116 => ?_)
          obtain ⟨e2, e3⟩ := hp116
          replace e2 := e2.symm; replace e3 := e3.symm; subst e2; subst e3
          refine g_iload_n F 1 (dk dtX7_town_1 2 rfl) rfl ?_
          refine g_iret (F := F) hQ (dk dtX7_town_1 3 rfl) ?_
          exact absurd c104 c29
        · -- not taken at 104
          refine g_bipush F (-10) (dk dtX7_town_0 55 rfl) (by decide) ?_
          refine g_aload_n F 0 (dk dtX7_town_0 56 rfl) rfl ?_
          refine g_get F fa_X7_87 (dk dtX7_town_0 57 rfl) (by decide) (cm0 D B _ _) rfl ?_
          refine g_top (tyS_8 _ _) ?_
          refine g_isub F (dk dtX7_town_0 58 rfl) ?_
          refine g_iret (F := F) hQ (dk dtX7_town_0 59 rfl) ?_
          exact ⟨i, hI25, rfl, Or.inl ⟨c104, rfl, rfl⟩⟩
      · -- not taken at 29
        refine g_aload_n F 0 (dk dtX7_town_0 18 rfl) rfl ?_
        refine g_get F fa_X7_77 (dk dtX7_town_0 19 rfl) (by decide) (cm0 D B _ _) rfl ?_
        refine g_top (tyS_5 _ _) ?_
        refine g_if_eqN F 100 (dk dtX7_town_0 20 rfl) (by decide) (by omega) (fun c36 => ?_) (fun c36 => ?_)
        · -- taken at 36
          refine g_aload_n F 0 (dk dtX7_town_0 52 rfl) rfl ?_
          refine g_callVi F (As := []) (st := []) cv_X7_90 (dk dtX7_town_0 53 rfl) (by decide) (cm0 D B _ _) rfl rfl (Nat.le_of_ble_eq_true rfl) ⟨by decide, by decide⟩ (k_X7_isWellS l D B _ _ _) (fun r101 T101 M101 hp101 => ?_)
          obtain ⟨e1, e2, e3⟩ := hp101
          replace e1 := e1.symm; replace e2 := e2.symm; replace e3 := e3.symm; subst e1; subst e2; subst e3
          refine g_if_neB F 115 (dk dtX7_town_0 54 rfl) (by decide) (fun c104 => ?_) (fun c104 => ?_)
          · -- taken at 104
            refine g_aload_n F 0 (dk dtX7_town_1 0 rfl) rfl ?_
            refine g_callVv F (As := []) (st := []) cv_X7_53 (dk dtX7_town_1 1 rfl) (by decide) (cm0 D B _ _) rfl rfl (Nat.le_of_ble_eq_true rfl) ⟨by decide, by decide⟩ (k_X7_settles l D B _ _) (fun T116 M116 hp116 => ?_)
            obtain ⟨e2, e3⟩ := hp116
            replace e2 := e2.symm; replace e3 := e3.symm; subst e2; subst e3
            refine g_iload_n F 1 (dk dtX7_town_1 2 rfl) rfl ?_
            refine g_iret (F := F) hQ (dk dtX7_town_1 3 rfl) ?_
            exact ⟨i, hI25, rfl, Or.inr ⟨c104, c36, rfl, rfl⟩⟩
          · -- not taken at 104
            refine g_bipush F (-10) (dk dtX7_town_0 55 rfl) (by decide) ?_
            refine g_aload_n F 0 (dk dtX7_town_0 56 rfl) rfl ?_
            refine g_get F fa_X7_87 (dk dtX7_town_0 57 rfl) (by decide) (cm0 D B _ _) rfl ?_
            refine g_top (tyS_8 _ _) ?_
            refine g_isub F (dk dtX7_town_0 58 rfl) ?_
            refine g_iret (F := F) hQ (dk dtX7_town_0 59 rfl) ?_
            exact ⟨i, hI25, rfl, Or.inl ⟨c104, rfl, rfl⟩⟩
        · -- not taken at 36
          refine g_aload_n F 0 (dk dtX7_town_0 21 rfl) rfl ?_
          refine g_aload_n F 0 (dk dtX7_town_0 22 rfl) rfl ?_
          refine g_get F fa_X7_77 (dk dtX7_town_0 23 rfl) (by decide) (cm0 D B _ _) rfl ?_
          refine g_top (tyS_5 _ _) ?_
          refine g_iconst F (nI 1) (dk dtX7_town_0 24 rfl) (by decide) ?_
          refine g_icmp_neN F 59 (dk dtX7_town_0 25 rfl) (by decide) (by omega) (by omega) (fun c45 => ?_) (fun c45 => ?_)
          · -- taken at 45
            refine g_iconst F (nI 0) (dk dtX7_town_0 31 rfl) (by decide) ?_
            refine g_top (wC_n (fun h => c45 h.1)) ?_
            refine g_callVi F (As := [.int (nI (wC (itN (M 1) n (s0 M n) i)))]) (st := []) cv_X7_97 (dk dtX7_town_0 32 rfl) (by decide) (cm0 D B _ _) rfl rfl (Nat.le_of_ble_eq_true rfl) ⟨by decide, by decide⟩ (k_X7_it1 l D B _ (itN (M 1) n (s0 M n) i) (M 1) n hfi hni hn9 hL hok.1) (fun r60 T60 M60 hp60 => ?_)
            obtain ⟨e1, e2, e3⟩ := hp60
            replace e1 := e1.symm; replace e2 := e2.symm; replace e3 := e3.symm; subst e1; subst e2; subst e3
            refine g_istore_n F [(2, .int ((it1 (M 1) n (itN (M 1) n (s0 M n) i)).1)), (0, .ref (B + 0)), (1, .int (nI i))] (dk dtX7_town_0 33 rfl) (by decide) rfl ?_
            refine g_aload_n F 1 (dk dtX7_town_0 34 rfl) rfl ?_
            refine g_callVi F (As := []) (st := []) cv_X7_90 (dk dtX7_town_0 35 rfl) (by decide) (cm0 D B _ _) rfl rfl (Nat.le_of_ble_eq_true rfl) ⟨by decide, by decide⟩ (k_X7_isWellS l D B _ _ _) (fun r65 T65 M65 hp65 => ?_)
            obtain ⟨e1, e2, e3⟩ := hp65
            replace e1 := e1.symm; replace e2 := e2.symm; replace e3 := e3.symm; subst e1; subst e2; subst e3
            refine g_if_eqB F 76 (dk dtX7_town_0 36 rfl) (by decide) (fun c68 => ?_) (fun c68 => ?_)
            · -- taken at 68
              refine g_mem (show tyS (itN (M 1) n (s0 M n) i).1 (it1 (M 1) n (itN (M 1) n (s0 M n) i)).2 = tyS (it2 (M 1) n (itN (M 1) n (s0 M n) i)).1 (it2 (M 1) n (itN (M 1) n (s0 M n) i)).2 by rw [it2_n c68, fst_mk, snd_mk]) ?_
              refine g_aload_n F 1 (dk dtX7_town_0 40 rfl) rfl ?_
              refine g_aload_n F 1 (dk dtX7_town_0 41 rfl) rfl ?_
              refine g_get F fa_X7_77 (dk dtX7_town_0 42 rfl) (by decide) (cm0 D B _ _) rfl ?_
              refine g_top (tyS_5 _ _) ?_
              refine g_iconst F (nI 3) (dk dtX7_town_0 43 rfl) (by decide) ?_
              refine g_icmp_neN F 89 (dk dtX7_town_0 44 rfl) (by decide) (by omega) (by omega) (fun c82 => ?_) (fun c82 => ?_)
              · -- taken at 82
                refine g_iconst F (nI 0) (dk dtX7_town_0 47 rfl) (by decide) ?_
                refine g_top (wD_n c82) ?_
                refine g_callVi F (As := [.int (nI (wD (M 1) n (itN (M 1) n (s0 M n) i)))]) (st := []) cv_X7_97 (dk dtX7_town_0 48 rfl) (by decide) (cm0 D B _ _) rfl rfl (Nat.le_of_ble_eq_true rfl) ⟨by decide, by decide⟩ (k_X7_it3 l D B _ (itN (M 1) n (s0 M n) i) (M 1) n hfi hni hn9 hL hok.1) (fun r90 T90 M90 hp90 => ?_)
                obtain ⟨e1, e2, e3⟩ := hp90
                replace e1 := e1.symm; replace e2 := e2.symm; replace e3 := e3.symm; subst e1; subst e2; subst e3
                refine g_pop F (dk dtX7_town_0 49 rfl) rfl ?_
                refine g_iinc F 2 (nI (i + 1)) [(1, .int (nI (i + 1))), (2, .int ((it1 (M 1) n (itN (M 1) n (s0 M n) i)).1)), (0, .ref (B + 0))] (dk dtX7_town_0 50 rfl) rfl (nI_1 _) (by decide) rfl ?_
                refine g_goto F 25 (dk dtX7_town_0 51 rfl) (by decide) ?_
                refine g_sub [2, 0] (L1 := [(0, .ref (B + 0)), (1, .int (nI (i + 1)))]) rfl ?_
                refine g_mem (show tyS (itM (M 1) n (itN (M 1) n (s0 M n) i)).1 (itM (M 1) n (itN (M 1) n (s0 M n) i)).2 = tyS (itN (M 1) n (s0 M n) (i + 1)).1 (itN (M 1) n (s0 M n) (i + 1)).2 by rw [itN_s]) ?_
                exact ih25 (i + 1) (fun k hk => (Nat.lt_succ_iff_lt_or_eq.mp hk).elim (hI25 k) (fun e => e ▸ ⟨c29, c36⟩)) (by have h := itM_lt (f := M 1) hn9 hok.1 c29 c36; rw [itN_s]; omega)
              · -- not taken at 82
                refine g_iconst F (nI 1) (dk dtX7_town_0 45 rfl) (by decide) ?_
                refine g_goto F 90 (dk dtX7_town_0 46 rfl) (by decide) ?_
                refine g_top (wD_p c82) ?_
                refine g_callVi F (As := [.int (nI (wD (M 1) n (itN (M 1) n (s0 M n) i)))]) (st := []) cv_X7_97 (dk dtX7_town_0 48 rfl) (by decide) (cm0 D B _ _) rfl rfl (Nat.le_of_ble_eq_true rfl) ⟨by decide, by decide⟩ (k_X7_it3 l D B _ (itN (M 1) n (s0 M n) i) (M 1) n hfi hni hn9 hL hok.1) (fun r90 T90 M90 hp90 => ?_)
                obtain ⟨e1, e2, e3⟩ := hp90
                replace e1 := e1.symm; replace e2 := e2.symm; replace e3 := e3.symm; subst e1; subst e2; subst e3
                refine g_pop F (dk dtX7_town_0 49 rfl) rfl ?_
                refine g_iinc F 2 (nI (i + 1)) [(1, .int (nI (i + 1))), (2, .int ((it1 (M 1) n (itN (M 1) n (s0 M n) i)).1)), (0, .ref (B + 0))] (dk dtX7_town_0 50 rfl) rfl (nI_1 _) (by decide) rfl ?_
                refine g_goto F 25 (dk dtX7_town_0 51 rfl) (by decide) ?_
                refine g_sub [2, 0] (L1 := [(0, .ref (B + 0)), (1, .int (nI (i + 1)))]) rfl ?_
                refine g_mem (show tyS (itM (M 1) n (itN (M 1) n (s0 M n) i)).1 (itM (M 1) n (itN (M 1) n (s0 M n) i)).2 = tyS (itN (M 1) n (s0 M n) (i + 1)).1 (itN (M 1) n (s0 M n) (i + 1)).2 by rw [itN_s]) ?_
                exact ih25 (i + 1) (fun k hk => (Nat.lt_succ_iff_lt_or_eq.mp hk).elim (hI25 k) (fun e => e ▸ ⟨c29, c36⟩)) (by have h := itM_lt (f := M 1) hn9 hok.1 c29 c36; rw [itN_s]; omega)
            · -- not taken at 68
              refine g_aload_n F 1 (dk dtX7_town_0 37 rfl) rfl ?_
              refine g_iload_n F 0 (dk dtX7_town_0 38 rfl) rfl ?_
              refine g_callVv F (As := [.int ((it1 (M 1) n (itN (M 1) n (s0 M n) i)).1)]) (st := []) cv_X7_111 (dk dtX7_town_0 39 rfl) (by decide) (cm0 D B _ _) rfl rfl (Nat.le_of_ble_eq_true rfl) ⟨by decide, by decide⟩ (k_X7_it2 l D B _ (itN (M 1) n (s0 M n) i) (M 1) n hfi hni hn9 hL hok.1 hl hok.2 c68) (fun T73 M73 hp73 => ?_)
              obtain ⟨e2, e3⟩ := hp73
              replace e2 := e2.symm; replace e3 := e3.symm; subst e2; subst e3
              refine g_aload_n F 1 (dk dtX7_town_0 40 rfl) rfl ?_
              refine g_aload_n F 1 (dk dtX7_town_0 41 rfl) rfl ?_
              refine g_get F fa_X7_77 (dk dtX7_town_0 42 rfl) (by decide) (cm0 D B _ _) rfl ?_
              refine g_top (tyS_5 _ _) ?_
              refine g_iconst F (nI 3) (dk dtX7_town_0 43 rfl) (by decide) ?_
              refine g_icmp_neN F 89 (dk dtX7_town_0 44 rfl) (by decide) (by omega) (by omega) (fun c82 => ?_) (fun c82 => ?_)
              · -- taken at 82
                refine g_iconst F (nI 0) (dk dtX7_town_0 47 rfl) (by decide) ?_
                refine g_top (wD_n c82) ?_
                refine g_callVi F (As := [.int (nI (wD (M 1) n (itN (M 1) n (s0 M n) i)))]) (st := []) cv_X7_97 (dk dtX7_town_0 48 rfl) (by decide) (cm0 D B _ _) rfl rfl (Nat.le_of_ble_eq_true rfl) ⟨by decide, by decide⟩ (k_X7_it3 l D B _ (itN (M 1) n (s0 M n) i) (M 1) n hfi hni hn9 hL hok.1) (fun r90 T90 M90 hp90 => ?_)
                obtain ⟨e1, e2, e3⟩ := hp90
                replace e1 := e1.symm; replace e2 := e2.symm; replace e3 := e3.symm; subst e1; subst e2; subst e3
                refine g_pop F (dk dtX7_town_0 49 rfl) rfl ?_
                refine g_iinc F 2 (nI (i + 1)) [(1, .int (nI (i + 1))), (2, .int ((it1 (M 1) n (itN (M 1) n (s0 M n) i)).1)), (0, .ref (B + 0))] (dk dtX7_town_0 50 rfl) rfl (nI_1 _) (by decide) rfl ?_
                refine g_goto F 25 (dk dtX7_town_0 51 rfl) (by decide) ?_
                refine g_sub [2, 0] (L1 := [(0, .ref (B + 0)), (1, .int (nI (i + 1)))]) rfl ?_
                refine g_mem (show tyS (itM (M 1) n (itN (M 1) n (s0 M n) i)).1 (itM (M 1) n (itN (M 1) n (s0 M n) i)).2 = tyS (itN (M 1) n (s0 M n) (i + 1)).1 (itN (M 1) n (s0 M n) (i + 1)).2 by rw [itN_s]) ?_
                exact ih25 (i + 1) (fun k hk => (Nat.lt_succ_iff_lt_or_eq.mp hk).elim (hI25 k) (fun e => e ▸ ⟨c29, c36⟩)) (by have h := itM_lt (f := M 1) hn9 hok.1 c29 c36; rw [itN_s]; omega)
              · -- not taken at 82
                refine g_iconst F (nI 1) (dk dtX7_town_0 45 rfl) (by decide) ?_
                refine g_goto F 90 (dk dtX7_town_0 46 rfl) (by decide) ?_
                refine g_top (wD_p c82) ?_
                refine g_callVi F (As := [.int (nI (wD (M 1) n (itN (M 1) n (s0 M n) i)))]) (st := []) cv_X7_97 (dk dtX7_town_0 48 rfl) (by decide) (cm0 D B _ _) rfl rfl (Nat.le_of_ble_eq_true rfl) ⟨by decide, by decide⟩ (k_X7_it3 l D B _ (itN (M 1) n (s0 M n) i) (M 1) n hfi hni hn9 hL hok.1) (fun r90 T90 M90 hp90 => ?_)
                obtain ⟨e1, e2, e3⟩ := hp90
                replace e1 := e1.symm; replace e2 := e2.symm; replace e3 := e3.symm; subst e1; subst e2; subst e3
                refine g_pop F (dk dtX7_town_0 49 rfl) rfl ?_
                refine g_iinc F 2 (nI (i + 1)) [(1, .int (nI (i + 1))), (2, .int ((it1 (M 1) n (itN (M 1) n (s0 M n) i)).1)), (0, .ref (B + 0))] (dk dtX7_town_0 50 rfl) rfl (nI_1 _) (by decide) rfl ?_
                refine g_goto F 25 (dk dtX7_town_0 51 rfl) (by decide) ?_
                refine g_sub [2, 0] (L1 := [(0, .ref (B + 0)), (1, .int (nI (i + 1)))]) rfl ?_
                refine g_mem (show tyS (itM (M 1) n (itN (M 1) n (s0 M n) i)).1 (itM (M 1) n (itN (M 1) n (s0 M n) i)).2 = tyS (itN (M 1) n (s0 M n) (i + 1)).1 (itN (M 1) n (s0 M n) (i + 1)).2 by rw [itN_s]) ?_
                exact ih25 (i + 1) (fun k hk => (Nat.lt_succ_iff_lt_or_eq.mp hk).elim (hI25 k) (fun e => e ▸ ⟨c29, c36⟩)) (by have h := itM_lt (f := M 1) hn9 hok.1 c29 c36; rw [itN_s]; omega)
          · -- not taken at 45
            refine g_aload_n F 0 (dk dtX7_town_0 26 rfl) rfl ?_
            refine g_callVi F (As := []) (st := [.ref (B + 0)]) cv_X7_108 (dk dtX7_town_0 27 rfl) (by decide) (cm0 D B _ _) rfl rfl (Nat.le_of_ble_eq_true rfl) ⟨by decide, by decide⟩ (k_X7_mayBeginS l D B _ (itN (M 1) n (s0 M n) i) hok.2) (fun r49 T49 M49 hp49 => ?_)
            obtain ⟨e1, e2, e3⟩ := hp49
            replace e1 := e1.symm; replace e2 := e2.symm; replace e3 := e3.symm; subst e1; subst e2; subst e3
            refine g_if_eqB F 59 (dk dtX7_town_0 28 rfl) (by decide) (fun c52 => ?_) (fun c52 => ?_)
            · -- taken at 52
              refine g_iconst F (nI 0) (dk dtX7_town_0 31 rfl) (by decide) ?_
              refine g_top (wC_n (fun h => c52 h.2)) ?_
              refine g_callVi F (As := [.int (nI (wC (itN (M 1) n (s0 M n) i)))]) (st := []) cv_X7_97 (dk dtX7_town_0 32 rfl) (by decide) (cm0 D B _ _) rfl rfl (Nat.le_of_ble_eq_true rfl) ⟨by decide, by decide⟩ (k_X7_it1 l D B _ (itN (M 1) n (s0 M n) i) (M 1) n hfi hni hn9 hL hok.1) (fun r60 T60 M60 hp60 => ?_)
              obtain ⟨e1, e2, e3⟩ := hp60
              replace e1 := e1.symm; replace e2 := e2.symm; replace e3 := e3.symm; subst e1; subst e2; subst e3
              refine g_istore_n F [(2, .int ((it1 (M 1) n (itN (M 1) n (s0 M n) i)).1)), (0, .ref (B + 0)), (1, .int (nI i))] (dk dtX7_town_0 33 rfl) (by decide) rfl ?_
              refine g_aload_n F 1 (dk dtX7_town_0 34 rfl) rfl ?_
              refine g_callVi F (As := []) (st := []) cv_X7_90 (dk dtX7_town_0 35 rfl) (by decide) (cm0 D B _ _) rfl rfl (Nat.le_of_ble_eq_true rfl) ⟨by decide, by decide⟩ (k_X7_isWellS l D B _ _ _) (fun r65 T65 M65 hp65 => ?_)
              obtain ⟨e1, e2, e3⟩ := hp65
              replace e1 := e1.symm; replace e2 := e2.symm; replace e3 := e3.symm; subst e1; subst e2; subst e3
              refine g_if_eqB F 76 (dk dtX7_town_0 36 rfl) (by decide) (fun c68 => ?_) (fun c68 => ?_)
              · -- taken at 68
                refine g_mem (show tyS (itN (M 1) n (s0 M n) i).1 (it1 (M 1) n (itN (M 1) n (s0 M n) i)).2 = tyS (it2 (M 1) n (itN (M 1) n (s0 M n) i)).1 (it2 (M 1) n (itN (M 1) n (s0 M n) i)).2 by rw [it2_n c68, fst_mk, snd_mk]) ?_
                refine g_aload_n F 1 (dk dtX7_town_0 40 rfl) rfl ?_
                refine g_aload_n F 1 (dk dtX7_town_0 41 rfl) rfl ?_
                refine g_get F fa_X7_77 (dk dtX7_town_0 42 rfl) (by decide) (cm0 D B _ _) rfl ?_
                refine g_top (tyS_5 _ _) ?_
                refine g_iconst F (nI 3) (dk dtX7_town_0 43 rfl) (by decide) ?_
                refine g_icmp_neN F 89 (dk dtX7_town_0 44 rfl) (by decide) (by omega) (by omega) (fun c82 => ?_) (fun c82 => ?_)
                · -- taken at 82
                  refine g_iconst F (nI 0) (dk dtX7_town_0 47 rfl) (by decide) ?_
                  refine g_top (wD_n c82) ?_
                  refine g_callVi F (As := [.int (nI (wD (M 1) n (itN (M 1) n (s0 M n) i)))]) (st := []) cv_X7_97 (dk dtX7_town_0 48 rfl) (by decide) (cm0 D B _ _) rfl rfl (Nat.le_of_ble_eq_true rfl) ⟨by decide, by decide⟩ (k_X7_it3 l D B _ (itN (M 1) n (s0 M n) i) (M 1) n hfi hni hn9 hL hok.1) (fun r90 T90 M90 hp90 => ?_)
                  obtain ⟨e1, e2, e3⟩ := hp90
                  replace e1 := e1.symm; replace e2 := e2.symm; replace e3 := e3.symm; subst e1; subst e2; subst e3
                  refine g_pop F (dk dtX7_town_0 49 rfl) rfl ?_
                  refine g_iinc F 2 (nI (i + 1)) [(1, .int (nI (i + 1))), (2, .int ((it1 (M 1) n (itN (M 1) n (s0 M n) i)).1)), (0, .ref (B + 0))] (dk dtX7_town_0 50 rfl) rfl (nI_1 _) (by decide) rfl ?_
                  refine g_goto F 25 (dk dtX7_town_0 51 rfl) (by decide) ?_
                  refine g_sub [2, 0] (L1 := [(0, .ref (B + 0)), (1, .int (nI (i + 1)))]) rfl ?_
                  refine g_mem (show tyS (itM (M 1) n (itN (M 1) n (s0 M n) i)).1 (itM (M 1) n (itN (M 1) n (s0 M n) i)).2 = tyS (itN (M 1) n (s0 M n) (i + 1)).1 (itN (M 1) n (s0 M n) (i + 1)).2 by rw [itN_s]) ?_
                  exact ih25 (i + 1) (fun k hk => (Nat.lt_succ_iff_lt_or_eq.mp hk).elim (hI25 k) (fun e => e ▸ ⟨c29, c36⟩)) (by have h := itM_lt (f := M 1) hn9 hok.1 c29 c36; rw [itN_s]; omega)
                · -- not taken at 82
                  refine g_iconst F (nI 1) (dk dtX7_town_0 45 rfl) (by decide) ?_
                  refine g_goto F 90 (dk dtX7_town_0 46 rfl) (by decide) ?_
                  refine g_top (wD_p c82) ?_
                  refine g_callVi F (As := [.int (nI (wD (M 1) n (itN (M 1) n (s0 M n) i)))]) (st := []) cv_X7_97 (dk dtX7_town_0 48 rfl) (by decide) (cm0 D B _ _) rfl rfl (Nat.le_of_ble_eq_true rfl) ⟨by decide, by decide⟩ (k_X7_it3 l D B _ (itN (M 1) n (s0 M n) i) (M 1) n hfi hni hn9 hL hok.1) (fun r90 T90 M90 hp90 => ?_)
                  obtain ⟨e1, e2, e3⟩ := hp90
                  replace e1 := e1.symm; replace e2 := e2.symm; replace e3 := e3.symm; subst e1; subst e2; subst e3
                  refine g_pop F (dk dtX7_town_0 49 rfl) rfl ?_
                  refine g_iinc F 2 (nI (i + 1)) [(1, .int (nI (i + 1))), (2, .int ((it1 (M 1) n (itN (M 1) n (s0 M n) i)).1)), (0, .ref (B + 0))] (dk dtX7_town_0 50 rfl) rfl (nI_1 _) (by decide) rfl ?_
                  refine g_goto F 25 (dk dtX7_town_0 51 rfl) (by decide) ?_
                  refine g_sub [2, 0] (L1 := [(0, .ref (B + 0)), (1, .int (nI (i + 1)))]) rfl ?_
                  refine g_mem (show tyS (itM (M 1) n (itN (M 1) n (s0 M n) i)).1 (itM (M 1) n (itN (M 1) n (s0 M n) i)).2 = tyS (itN (M 1) n (s0 M n) (i + 1)).1 (itN (M 1) n (s0 M n) (i + 1)).2 by rw [itN_s]) ?_
                  exact ih25 (i + 1) (fun k hk => (Nat.lt_succ_iff_lt_or_eq.mp hk).elim (hI25 k) (fun e => e ▸ ⟨c29, c36⟩)) (by have h := itM_lt (f := M 1) hn9 hok.1 c29 c36; rw [itN_s]; omega)
              · -- not taken at 68
                refine g_aload_n F 1 (dk dtX7_town_0 37 rfl) rfl ?_
                refine g_iload_n F 0 (dk dtX7_town_0 38 rfl) rfl ?_
                refine g_callVv F (As := [.int ((it1 (M 1) n (itN (M 1) n (s0 M n) i)).1)]) (st := []) cv_X7_111 (dk dtX7_town_0 39 rfl) (by decide) (cm0 D B _ _) rfl rfl (Nat.le_of_ble_eq_true rfl) ⟨by decide, by decide⟩ (k_X7_it2 l D B _ (itN (M 1) n (s0 M n) i) (M 1) n hfi hni hn9 hL hok.1 hl hok.2 c68) (fun T73 M73 hp73 => ?_)
                obtain ⟨e2, e3⟩ := hp73
                replace e2 := e2.symm; replace e3 := e3.symm; subst e2; subst e3
                refine g_aload_n F 1 (dk dtX7_town_0 40 rfl) rfl ?_
                refine g_aload_n F 1 (dk dtX7_town_0 41 rfl) rfl ?_
                refine g_get F fa_X7_77 (dk dtX7_town_0 42 rfl) (by decide) (cm0 D B _ _) rfl ?_
                refine g_top (tyS_5 _ _) ?_
                refine g_iconst F (nI 3) (dk dtX7_town_0 43 rfl) (by decide) ?_
                refine g_icmp_neN F 89 (dk dtX7_town_0 44 rfl) (by decide) (by omega) (by omega) (fun c82 => ?_) (fun c82 => ?_)
                · -- taken at 82
                  refine g_iconst F (nI 0) (dk dtX7_town_0 47 rfl) (by decide) ?_
                  refine g_top (wD_n c82) ?_
                  refine g_callVi F (As := [.int (nI (wD (M 1) n (itN (M 1) n (s0 M n) i)))]) (st := []) cv_X7_97 (dk dtX7_town_0 48 rfl) (by decide) (cm0 D B _ _) rfl rfl (Nat.le_of_ble_eq_true rfl) ⟨by decide, by decide⟩ (k_X7_it3 l D B _ (itN (M 1) n (s0 M n) i) (M 1) n hfi hni hn9 hL hok.1) (fun r90 T90 M90 hp90 => ?_)
                  obtain ⟨e1, e2, e3⟩ := hp90
                  replace e1 := e1.symm; replace e2 := e2.symm; replace e3 := e3.symm; subst e1; subst e2; subst e3
                  refine g_pop F (dk dtX7_town_0 49 rfl) rfl ?_
                  refine g_iinc F 2 (nI (i + 1)) [(1, .int (nI (i + 1))), (2, .int ((it1 (M 1) n (itN (M 1) n (s0 M n) i)).1)), (0, .ref (B + 0))] (dk dtX7_town_0 50 rfl) rfl (nI_1 _) (by decide) rfl ?_
                  refine g_goto F 25 (dk dtX7_town_0 51 rfl) (by decide) ?_
                  refine g_sub [2, 0] (L1 := [(0, .ref (B + 0)), (1, .int (nI (i + 1)))]) rfl ?_
                  refine g_mem (show tyS (itM (M 1) n (itN (M 1) n (s0 M n) i)).1 (itM (M 1) n (itN (M 1) n (s0 M n) i)).2 = tyS (itN (M 1) n (s0 M n) (i + 1)).1 (itN (M 1) n (s0 M n) (i + 1)).2 by rw [itN_s]) ?_
                  exact ih25 (i + 1) (fun k hk => (Nat.lt_succ_iff_lt_or_eq.mp hk).elim (hI25 k) (fun e => e ▸ ⟨c29, c36⟩)) (by have h := itM_lt (f := M 1) hn9 hok.1 c29 c36; rw [itN_s]; omega)
                · -- not taken at 82
                  refine g_iconst F (nI 1) (dk dtX7_town_0 45 rfl) (by decide) ?_
                  refine g_goto F 90 (dk dtX7_town_0 46 rfl) (by decide) ?_
                  refine g_top (wD_p c82) ?_
                  refine g_callVi F (As := [.int (nI (wD (M 1) n (itN (M 1) n (s0 M n) i)))]) (st := []) cv_X7_97 (dk dtX7_town_0 48 rfl) (by decide) (cm0 D B _ _) rfl rfl (Nat.le_of_ble_eq_true rfl) ⟨by decide, by decide⟩ (k_X7_it3 l D B _ (itN (M 1) n (s0 M n) i) (M 1) n hfi hni hn9 hL hok.1) (fun r90 T90 M90 hp90 => ?_)
                  obtain ⟨e1, e2, e3⟩ := hp90
                  replace e1 := e1.symm; replace e2 := e2.symm; replace e3 := e3.symm; subst e1; subst e2; subst e3
                  refine g_pop F (dk dtX7_town_0 49 rfl) rfl ?_
                  refine g_iinc F 2 (nI (i + 1)) [(1, .int (nI (i + 1))), (2, .int ((it1 (M 1) n (itN (M 1) n (s0 M n) i)).1)), (0, .ref (B + 0))] (dk dtX7_town_0 50 rfl) rfl (nI_1 _) (by decide) rfl ?_
                  refine g_goto F 25 (dk dtX7_town_0 51 rfl) (by decide) ?_
                  refine g_sub [2, 0] (L1 := [(0, .ref (B + 0)), (1, .int (nI (i + 1)))]) rfl ?_
                  refine g_mem (show tyS (itM (M 1) n (itN (M 1) n (s0 M n) i)).1 (itM (M 1) n (itN (M 1) n (s0 M n) i)).2 = tyS (itN (M 1) n (s0 M n) (i + 1)).1 (itN (M 1) n (s0 M n) (i + 1)).2 by rw [itN_s]) ?_
                  exact ih25 (i + 1) (fun k hk => (Nat.lt_succ_iff_lt_or_eq.mp hk).elim (hI25 k) (fun e => e ▸ ⟨c29, c36⟩)) (by have h := itM_lt (f := M 1) hn9 hok.1 c29 c36; rw [itN_s]; omega)
            · -- not taken at 52
              refine g_iconst F (nI 1) (dk dtX7_town_0 29 rfl) (by decide) ?_
              refine g_goto F 60 (dk dtX7_town_0 30 rfl) (by decide) ?_
              refine g_top (wC_p c45 c52) ?_
              refine g_callVi F (As := [.int (nI (wC (itN (M 1) n (s0 M n) i)))]) (st := []) cv_X7_97 (dk dtX7_town_0 32 rfl) (by decide) (cm0 D B _ _) rfl rfl (Nat.le_of_ble_eq_true rfl) ⟨by decide, by decide⟩ (k_X7_it1 l D B _ (itN (M 1) n (s0 M n) i) (M 1) n hfi hni hn9 hL hok.1) (fun r60 T60 M60 hp60 => ?_)
              obtain ⟨e1, e2, e3⟩ := hp60
              replace e1 := e1.symm; replace e2 := e2.symm; replace e3 := e3.symm; subst e1; subst e2; subst e3
              refine g_istore_n F [(2, .int ((it1 (M 1) n (itN (M 1) n (s0 M n) i)).1)), (0, .ref (B + 0)), (1, .int (nI i))] (dk dtX7_town_0 33 rfl) (by decide) rfl ?_
              refine g_aload_n F 1 (dk dtX7_town_0 34 rfl) rfl ?_
              refine g_callVi F (As := []) (st := []) cv_X7_90 (dk dtX7_town_0 35 rfl) (by decide) (cm0 D B _ _) rfl rfl (Nat.le_of_ble_eq_true rfl) ⟨by decide, by decide⟩ (k_X7_isWellS l D B _ _ _) (fun r65 T65 M65 hp65 => ?_)
              obtain ⟨e1, e2, e3⟩ := hp65
              replace e1 := e1.symm; replace e2 := e2.symm; replace e3 := e3.symm; subst e1; subst e2; subst e3
              refine g_if_eqB F 76 (dk dtX7_town_0 36 rfl) (by decide) (fun c68 => ?_) (fun c68 => ?_)
              · -- taken at 68
                refine g_mem (show tyS (itN (M 1) n (s0 M n) i).1 (it1 (M 1) n (itN (M 1) n (s0 M n) i)).2 = tyS (it2 (M 1) n (itN (M 1) n (s0 M n) i)).1 (it2 (M 1) n (itN (M 1) n (s0 M n) i)).2 by rw [it2_n c68, fst_mk, snd_mk]) ?_
                refine g_aload_n F 1 (dk dtX7_town_0 40 rfl) rfl ?_
                refine g_aload_n F 1 (dk dtX7_town_0 41 rfl) rfl ?_
                refine g_get F fa_X7_77 (dk dtX7_town_0 42 rfl) (by decide) (cm0 D B _ _) rfl ?_
                refine g_top (tyS_5 _ _) ?_
                refine g_iconst F (nI 3) (dk dtX7_town_0 43 rfl) (by decide) ?_
                refine g_icmp_neN F 89 (dk dtX7_town_0 44 rfl) (by decide) (by omega) (by omega) (fun c82 => ?_) (fun c82 => ?_)
                · -- taken at 82
                  refine g_iconst F (nI 0) (dk dtX7_town_0 47 rfl) (by decide) ?_
                  refine g_top (wD_n c82) ?_
                  refine g_callVi F (As := [.int (nI (wD (M 1) n (itN (M 1) n (s0 M n) i)))]) (st := []) cv_X7_97 (dk dtX7_town_0 48 rfl) (by decide) (cm0 D B _ _) rfl rfl (Nat.le_of_ble_eq_true rfl) ⟨by decide, by decide⟩ (k_X7_it3 l D B _ (itN (M 1) n (s0 M n) i) (M 1) n hfi hni hn9 hL hok.1) (fun r90 T90 M90 hp90 => ?_)
                  obtain ⟨e1, e2, e3⟩ := hp90
                  replace e1 := e1.symm; replace e2 := e2.symm; replace e3 := e3.symm; subst e1; subst e2; subst e3
                  refine g_pop F (dk dtX7_town_0 49 rfl) rfl ?_
                  refine g_iinc F 2 (nI (i + 1)) [(1, .int (nI (i + 1))), (2, .int ((it1 (M 1) n (itN (M 1) n (s0 M n) i)).1)), (0, .ref (B + 0))] (dk dtX7_town_0 50 rfl) rfl (nI_1 _) (by decide) rfl ?_
                  refine g_goto F 25 (dk dtX7_town_0 51 rfl) (by decide) ?_
                  refine g_sub [2, 0] (L1 := [(0, .ref (B + 0)), (1, .int (nI (i + 1)))]) rfl ?_
                  refine g_mem (show tyS (itM (M 1) n (itN (M 1) n (s0 M n) i)).1 (itM (M 1) n (itN (M 1) n (s0 M n) i)).2 = tyS (itN (M 1) n (s0 M n) (i + 1)).1 (itN (M 1) n (s0 M n) (i + 1)).2 by rw [itN_s]) ?_
                  exact ih25 (i + 1) (fun k hk => (Nat.lt_succ_iff_lt_or_eq.mp hk).elim (hI25 k) (fun e => e ▸ ⟨c29, c36⟩)) (by have h := itM_lt (f := M 1) hn9 hok.1 c29 c36; rw [itN_s]; omega)
                · -- not taken at 82
                  refine g_iconst F (nI 1) (dk dtX7_town_0 45 rfl) (by decide) ?_
                  refine g_goto F 90 (dk dtX7_town_0 46 rfl) (by decide) ?_
                  refine g_top (wD_p c82) ?_
                  refine g_callVi F (As := [.int (nI (wD (M 1) n (itN (M 1) n (s0 M n) i)))]) (st := []) cv_X7_97 (dk dtX7_town_0 48 rfl) (by decide) (cm0 D B _ _) rfl rfl (Nat.le_of_ble_eq_true rfl) ⟨by decide, by decide⟩ (k_X7_it3 l D B _ (itN (M 1) n (s0 M n) i) (M 1) n hfi hni hn9 hL hok.1) (fun r90 T90 M90 hp90 => ?_)
                  obtain ⟨e1, e2, e3⟩ := hp90
                  replace e1 := e1.symm; replace e2 := e2.symm; replace e3 := e3.symm; subst e1; subst e2; subst e3
                  refine g_pop F (dk dtX7_town_0 49 rfl) rfl ?_
                  refine g_iinc F 2 (nI (i + 1)) [(1, .int (nI (i + 1))), (2, .int ((it1 (M 1) n (itN (M 1) n (s0 M n) i)).1)), (0, .ref (B + 0))] (dk dtX7_town_0 50 rfl) rfl (nI_1 _) (by decide) rfl ?_
                  refine g_goto F 25 (dk dtX7_town_0 51 rfl) (by decide) ?_
                  refine g_sub [2, 0] (L1 := [(0, .ref (B + 0)), (1, .int (nI (i + 1)))]) rfl ?_
                  refine g_mem (show tyS (itM (M 1) n (itN (M 1) n (s0 M n) i)).1 (itM (M 1) n (itN (M 1) n (s0 M n) i)).2 = tyS (itN (M 1) n (s0 M n) (i + 1)).1 (itN (M 1) n (s0 M n) (i + 1)).2 by rw [itN_s]) ?_
                  exact ih25 (i + 1) (fun k hk => (Nat.lt_succ_iff_lt_or_eq.mp hk).elim (hI25 k) (fun e => e ▸ ⟨c29, c36⟩)) (by have h := itM_lt (f := M 1) hn9 hok.1 c29 c36; rw [itN_s]; omega)
              · -- not taken at 68
                refine g_aload_n F 1 (dk dtX7_town_0 37 rfl) rfl ?_
                refine g_iload_n F 0 (dk dtX7_town_0 38 rfl) rfl ?_
                refine g_callVv F (As := [.int ((it1 (M 1) n (itN (M 1) n (s0 M n) i)).1)]) (st := []) cv_X7_111 (dk dtX7_town_0 39 rfl) (by decide) (cm0 D B _ _) rfl rfl (Nat.le_of_ble_eq_true rfl) ⟨by decide, by decide⟩ (k_X7_it2 l D B _ (itN (M 1) n (s0 M n) i) (M 1) n hfi hni hn9 hL hok.1 hl hok.2 c68) (fun T73 M73 hp73 => ?_)
                obtain ⟨e2, e3⟩ := hp73
                replace e2 := e2.symm; replace e3 := e3.symm; subst e2; subst e3
                refine g_aload_n F 1 (dk dtX7_town_0 40 rfl) rfl ?_
                refine g_aload_n F 1 (dk dtX7_town_0 41 rfl) rfl ?_
                refine g_get F fa_X7_77 (dk dtX7_town_0 42 rfl) (by decide) (cm0 D B _ _) rfl ?_
                refine g_top (tyS_5 _ _) ?_
                refine g_iconst F (nI 3) (dk dtX7_town_0 43 rfl) (by decide) ?_
                refine g_icmp_neN F 89 (dk dtX7_town_0 44 rfl) (by decide) (by omega) (by omega) (fun c82 => ?_) (fun c82 => ?_)
                · -- taken at 82
                  refine g_iconst F (nI 0) (dk dtX7_town_0 47 rfl) (by decide) ?_
                  refine g_top (wD_n c82) ?_
                  refine g_callVi F (As := [.int (nI (wD (M 1) n (itN (M 1) n (s0 M n) i)))]) (st := []) cv_X7_97 (dk dtX7_town_0 48 rfl) (by decide) (cm0 D B _ _) rfl rfl (Nat.le_of_ble_eq_true rfl) ⟨by decide, by decide⟩ (k_X7_it3 l D B _ (itN (M 1) n (s0 M n) i) (M 1) n hfi hni hn9 hL hok.1) (fun r90 T90 M90 hp90 => ?_)
                  obtain ⟨e1, e2, e3⟩ := hp90
                  replace e1 := e1.symm; replace e2 := e2.symm; replace e3 := e3.symm; subst e1; subst e2; subst e3
                  refine g_pop F (dk dtX7_town_0 49 rfl) rfl ?_
                  refine g_iinc F 2 (nI (i + 1)) [(1, .int (nI (i + 1))), (2, .int ((it1 (M 1) n (itN (M 1) n (s0 M n) i)).1)), (0, .ref (B + 0))] (dk dtX7_town_0 50 rfl) rfl (nI_1 _) (by decide) rfl ?_
                  refine g_goto F 25 (dk dtX7_town_0 51 rfl) (by decide) ?_
                  refine g_sub [2, 0] (L1 := [(0, .ref (B + 0)), (1, .int (nI (i + 1)))]) rfl ?_
                  refine g_mem (show tyS (itM (M 1) n (itN (M 1) n (s0 M n) i)).1 (itM (M 1) n (itN (M 1) n (s0 M n) i)).2 = tyS (itN (M 1) n (s0 M n) (i + 1)).1 (itN (M 1) n (s0 M n) (i + 1)).2 by rw [itN_s]) ?_
                  exact ih25 (i + 1) (fun k hk => (Nat.lt_succ_iff_lt_or_eq.mp hk).elim (hI25 k) (fun e => e ▸ ⟨c29, c36⟩)) (by have h := itM_lt (f := M 1) hn9 hok.1 c29 c36; rw [itN_s]; omega)
                · -- not taken at 82
                  refine g_iconst F (nI 1) (dk dtX7_town_0 45 rfl) (by decide) ?_
                  refine g_goto F 90 (dk dtX7_town_0 46 rfl) (by decide) ?_
                  refine g_top (wD_p c82) ?_
                  refine g_callVi F (As := [.int (nI (wD (M 1) n (itN (M 1) n (s0 M n) i)))]) (st := []) cv_X7_97 (dk dtX7_town_0 48 rfl) (by decide) (cm0 D B _ _) rfl rfl (Nat.le_of_ble_eq_true rfl) ⟨by decide, by decide⟩ (k_X7_it3 l D B _ (itN (M 1) n (s0 M n) i) (M 1) n hfi hni hn9 hL hok.1) (fun r90 T90 M90 hp90 => ?_)
                  obtain ⟨e1, e2, e3⟩ := hp90
                  replace e1 := e1.symm; replace e2 := e2.symm; replace e3 := e3.symm; subst e1; subst e2; subst e3
                  refine g_pop F (dk dtX7_town_0 49 rfl) rfl ?_
                  refine g_iinc F 2 (nI (i + 1)) [(1, .int (nI (i + 1))), (2, .int ((it1 (M 1) n (itN (M 1) n (s0 M n) i)).1)), (0, .ref (B + 0))] (dk dtX7_town_0 50 rfl) rfl (nI_1 _) (by decide) rfl ?_
                  refine g_goto F 25 (dk dtX7_town_0 51 rfl) (by decide) ?_
                  refine g_sub [2, 0] (L1 := [(0, .ref (B + 0)), (1, .int (nI (i + 1)))]) rfl ?_
                  refine g_mem (show tyS (itM (M 1) n (itN (M 1) n (s0 M n) i)).1 (itM (M 1) n (itN (M 1) n (s0 M n) i)).2 = tyS (itN (M 1) n (s0 M n) (i + 1)).1 (itN (M 1) n (s0 M n) (i + 1)).2 by rw [itN_s]) ?_
                  exact ih25 (i + 1) (fun k hk => (Nat.lt_succ_iff_lt_or_eq.mp hk).elim (hI25 k) (fun e => e ▸ ⟨c29, c36⟩)) (by have h := itM_lt (f := M 1) hn9 hok.1 c29 c36; rw [itN_s]; omega)
  refine g_sub [1, 0] (L1 := [(0, .ref (B + 0)), (1, .int (nI 0))]) rfl ?_
  exact lp25 (mu n (s0 M n).2 + 1) 0 (fun k hk => absurd hk (Nat.not_lt_zero _)) (Nat.lt_succ_self _)
