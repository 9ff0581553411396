def rpF (f : Nat → Int32) (n P : Nat) (M : Mem) (g : SG) : Nat → Mem × SG
  | 0 => (M, g)
  | i + 1 => (up2 (rpF f n P M g i).1 4 (5 + 4 * P + i) (NF f n (rpF f n P M g i).2 (nI 0) (nI 9)).1, (NF f n (rpF f n P M g i).2 (nI 0) (nI 9)).2)
theorem rpF_fr (f : Nat → Int32) (n P : Nat) (M : Mem) (g : SG) (i : Nat) {c : Nat} (h : c ≠ 4) : (rpF f n P M g i).1 c = M c := by
  induction i with
  | zero => rfl
  | succ i ih =>
    simp only [rpF]
    rw [up2_ne _ _ h]
    exact ih
theorem rpF_ok {f : Nat → Int32} {n P : Nat} {M : Mem} {g : SG} (h : g.1 ≤ n ∧ g.2.1 < 9) (i : Nat) : (rpF f n P M g i).2.1 ≤ n ∧ (rpF f n P M g i).2.2.1 < 9 := by
  induction i with
  | zero => exact h
  | succ i ih =>
    simp only [rpF]
    exact NF_ok ih.1 ih.2
set_option maxRecDepth 100000 in
set_option maxHeartbeats 4000000 in
theorem k_X7_readsItem_k (l : Launch) (D : DX) (B : Nat) (T : Int64) (M : Mem) (g : SG) (f : Nat → Int32) (n : Nat) (hf : M 1 = f) (hn : M 0 3 = nI n) (hn9 : n ≤ 150) (hL : ∀ j, j < n → inR (f j) 256) (hg : g.1 ≤ n) (hg2 : g.2.1 < 9)  : Cv l D B 14 (celM D B) yX7_readsItem cX7_readsItem 4 none 5 [.ref (B + 0), .int (nI 107)] T (tyS M g) (fun T1 M1 => T1 = T ∧ M1 = tyS (up2 (up2 M 2 3 (NF f n g (nI 1) (nI 4)).1) 0 9 (M 0 9 ||| nI 1)) (NF f n g (nI 1) (nI 4)).2) := by
  refine g_entryv (L := [(0, .ref (B + 0)), (1, .int (nI 107))]) (by decide) (Nat.le_of_ble_eq_true rfl) rfl ?_
  intro zp ze zs zm zb zt zc Q F hQ
  refine g_iload_n F 1 (dk dtX7_readsItem_0 0 rfl) rfl ?_
  refine g_bipush F (nI 112) (dk dtX7_readsItem_0 1 rfl) (by decide) ?_
  refine g_icmp_neN F 99 (dk dtX7_readsItem_0 2 rfl) (by decide) (by decide) (by decide) (fun _ => ?_) (fun c => absurd c (by decide))
  refine g_aload_n F 0 (dk dtX7_readsItem_1 6 rfl) rfl ?_
  refine g_get F fa_X7_13 (dk dtX7_readsItem_1 7 rfl) (by decide) (cm0 D B _ _) rfl ?_
  refine g_iconst F (nI 3) (dk dtX7_readsItem_1 8 rfl) (by decide) ?_
  refine g_iload_n F 1 (dk dtX7_readsItem_1 9 rfl) rfl ?_
  refine g_bipush F (nI 107) (dk dtX7_readsItem_1 10 rfl) (by decide) ?_
  refine g_icmp_neN F 114 (dk dtX7_readsItem_1 11 rfl) (by decide) (by decide) (by decide) (fun c => absurd c (by decide)) (fun _ => ?_)
  refine g_iconst F (nI 0) (dk dtX7_readsItem_1 12 rfl) (by decide) ?_
  refine g_goto F 115 (dk dtX7_readsItem_1 13 rfl) (by decide) ?_
  refine g_iaddN F (dk dtX7_readsItem_1 15 rfl) ?_
  refine g_aload_n F 0 (dk dtX7_readsItem_1 16 rfl) rfl ?_
  refine g_iconst F (nI 1) (dk dtX7_readsItem_1 17 rfl) (by decide) ?_
  refine g_iconst F (nI 4) (dk dtX7_readsItem_1 18 rfl) (by decide) ?_
  refine g_callVi F (As := [.int (nI 1), .int (nI 4)]) (st := [.int (nI (3 + 0)), .ref (B + 2)]) cv_X7_104 (dk dtX7_readsItem_1 19 rfl) (by decide) (cm0 D B _ _) rfl rfl (Nat.le_of_ble_eq_true rfl) ⟨by decide, by decide⟩ (k_X7_numberS l D B _ M g f n hf hn hn9 hL (And.intro hg hg2).1 (And.intro hg hg2).2 _ _) (fun r119 T119 M119 hp119 => ?_)
  obtain ⟨e1, e2, e3⟩ := hp119
  replace e1 := e1.symm; replace e2 := e2.symm; replace e3 := e3.symm; subst e1; subst e2; subst e3
  refine g_iast F (3 + 0) (dk dtX7_readsItem_1 20 rfl) (by decide) (fun r => cm2 D B _ r) (by omega) (by decide) ?_
  refine g_mem (tyS_up _ _ _ _ (by decide)) ?_
  refine g_aload_n F 0 (dk dtX7_readsItem_1 21 rfl) rfl ?_
  refine g_dup F (dk dtX7_readsItem_1 22 rfl) rfl ?_
  refine g_get F fa_X7_101 (dk dtX7_readsItem_1 23 rfl) (by decide) (cm0 D B _ _) rfl ?_
  refine g_top (tyS_o _ _ (by decide)) ?_
  refine g_top (congrFun (up2_ne _ _ (by decide)) _) ?_
  refine g_iload_n F 1 (dk dtX7_readsItem_1 24 rfl) rfl ?_
  refine g_bipush F (nI 107) (dk dtX7_readsItem_1 25 rfl) (by decide) ?_
  refine g_icmp_neN F 138 (dk dtX7_readsItem_1 26 rfl) (by decide) (by decide) (by decide) (fun c => absurd c (by decide)) (fun _ => ?_)
  refine g_iconst F (nI 1) (dk dtX7_readsItem_1 27 rfl) (by decide) ?_
  refine g_goto F 139 (dk dtX7_readsItem_1 28 rfl) (by decide) ?_
  refine g_ior F (dk dtX7_readsItem_1 30 rfl) ?_
  refine g_put F fa_X7_101 (dk dtX7_readsItem_1 31 rfl) (by decide) (cm0 D B _ _) (Nat.le_of_ble_eq_true rfl) rfl rfl ((cm0 D B _ _).trans st_Mod_9) ?_
  refine g_mem (tyS_up9 _ _ _ (by decide)) ?_
  refine g_vret (F := F) hQ (dk dtX7_readsItem_1 32 rfl) ?_
  exact ⟨rfl, rfl⟩
set_option maxRecDepth 100000 in
set_option maxHeartbeats 4000000 in
theorem k_X7_readsItem_x (l : Launch) (D : DX) (B : Nat) (T : Int64) (M : Mem) (g : SG) (f : Nat → Int32) (n : Nat) (hf : M 1 = f) (hn : M 0 3 = nI n) (hn9 : n ≤ 150) (hL : ∀ j, j < n → inR (f j) 256) (hg : g.1 ≤ n) (hg2 : g.2.1 < 9)  : Cv l D B 14 (celM D B) yX7_readsItem cX7_readsItem 4 none 5 [.ref (B + 0), .int (nI 120)] T (tyS M g) (fun T1 M1 => T1 = T ∧ M1 = tyS (up2 (up2 M 2 4 (NF f n g (nI 1) (nI 4)).1) 0 9 (M 0 9 ||| nI 2)) (NF f n g (nI 1) (nI 4)).2) := by
  refine g_entryv (L := [(0, .ref (B + 0)), (1, .int (nI 120))]) (by decide) (Nat.le_of_ble_eq_true rfl) rfl ?_
  intro zp ze zs zm zb zt zc Q F hQ
  refine g_iload_n F 1 (dk dtX7_readsItem_0 0 rfl) rfl ?_
  refine g_bipush F (nI 112) (dk dtX7_readsItem_0 1 rfl) (by decide) ?_
  refine g_icmp_neN F 99 (dk dtX7_readsItem_0 2 rfl) (by decide) (by decide) (by decide) (fun _ => ?_) (fun c => absurd c (by decide))
  refine g_aload_n F 0 (dk dtX7_readsItem_1 6 rfl) rfl ?_
  refine g_get F fa_X7_13 (dk dtX7_readsItem_1 7 rfl) (by decide) (cm0 D B _ _) rfl ?_
  refine g_iconst F (nI 3) (dk dtX7_readsItem_1 8 rfl) (by decide) ?_
  refine g_iload_n F 1 (dk dtX7_readsItem_1 9 rfl) rfl ?_
  refine g_bipush F (nI 107) (dk dtX7_readsItem_1 10 rfl) (by decide) ?_
  refine g_icmp_neN F 114 (dk dtX7_readsItem_1 11 rfl) (by decide) (by decide) (by decide) (fun _ => ?_) (fun c => absurd c (by decide))
  refine g_iconst F (nI 1) (dk dtX7_readsItem_1 14 rfl) (by decide) ?_
  refine g_iaddN F (dk dtX7_readsItem_1 15 rfl) ?_
  refine g_aload_n F 0 (dk dtX7_readsItem_1 16 rfl) rfl ?_
  refine g_iconst F (nI 1) (dk dtX7_readsItem_1 17 rfl) (by decide) ?_
  refine g_iconst F (nI 4) (dk dtX7_readsItem_1 18 rfl) (by decide) ?_
  refine g_callVi F (As := [.int (nI 1), .int (nI 4)]) (st := [.int (nI (3 + 1)), .ref (B + 2)]) cv_X7_104 (dk dtX7_readsItem_1 19 rfl) (by decide) (cm0 D B _ _) rfl rfl (Nat.le_of_ble_eq_true rfl) ⟨by decide, by decide⟩ (k_X7_numberS l D B _ M g f n hf hn hn9 hL (And.intro hg hg2).1 (And.intro hg hg2).2 _ _) (fun r119 T119 M119 hp119 => ?_)
  obtain ⟨e1, e2, e3⟩ := hp119
  replace e1 := e1.symm; replace e2 := e2.symm; replace e3 := e3.symm; subst e1; subst e2; subst e3
  refine g_iast F (3 + 1) (dk dtX7_readsItem_1 20 rfl) (by decide) (fun r => cm2 D B _ r) (by omega) (by decide) ?_
  refine g_mem (tyS_up _ _ _ _ (by decide)) ?_
  refine g_aload_n F 0 (dk dtX7_readsItem_1 21 rfl) rfl ?_
  refine g_dup F (dk dtX7_readsItem_1 22 rfl) rfl ?_
  refine g_get F fa_X7_101 (dk dtX7_readsItem_1 23 rfl) (by decide) (cm0 D B _ _) rfl ?_
  refine g_top (tyS_o _ _ (by decide)) ?_
  refine g_top (congrFun (up2_ne _ _ (by decide)) _) ?_
  refine g_iload_n F 1 (dk dtX7_readsItem_1 24 rfl) rfl ?_
  refine g_bipush F (nI 107) (dk dtX7_readsItem_1 25 rfl) (by decide) ?_
  refine g_icmp_neN F 138 (dk dtX7_readsItem_1 26 rfl) (by decide) (by decide) (by decide) (fun _ => ?_) (fun c => absurd c (by decide))
  refine g_iconst F (nI 2) (dk dtX7_readsItem_1 29 rfl) (by decide) ?_
  refine g_ior F (dk dtX7_readsItem_1 30 rfl) ?_
  refine g_put F fa_X7_101 (dk dtX7_readsItem_1 31 rfl) (by decide) (cm0 D B _ _) (Nat.le_of_ble_eq_true rfl) rfl rfl ((cm0 D B _ _).trans st_Mod_9) ?_
  refine g_mem (tyS_up9 _ _ _ (by decide)) ?_
  refine g_vret (F := F) hQ (dk dtX7_readsItem_1 32 rfl) ?_
  exact ⟨rfl, rfl⟩
set_option maxRecDepth 100000 in
set_option maxHeartbeats 4000000 in
theorem k_X7_readsItem_p (l : Launch) (D : DX) (B : Nat) (T : Int64) (M : Mem) (g : SG) (f : Nat → Int32) (n : Nat) (hf : M 1 = f) (hn : M 0 3 = nI n) (hn9 : n ≤ 150) (hL : ∀ j, j < n → inR (f j) 256) (hg : g.1 ≤ n) (hg2 : g.2.1 < 9) (K X P : Nat) (hK : M 2 3 = nI K) (hX : M 2 4 = nI X) (hP : M 2 5 = nI P) (hK4 : K ≤ 4) (hP4 : P < 5) : Cv l D B 14 (celM D B) yX7_readsItem cX7_readsItem 4 none 5 [.ref (B + 0), .int (nI 112)] T (tyS M g) (fun T1 M1 => T1 = T ∧ M1 = tyS (up2 (rpF f n P (up2 (up2 M 3 (5 + P) (NF f n g (nI 0) (nI 99)).1) 4 P (NF f n (NF f n g (nI 0) (nI 99)).2 (nI 0) (nI X - nI 1)).1) (NF f n (NF f n g (nI 0) (nI 99)).2 (nI 0) (nI X - nI 1)).2 K).1 2 5 (nI (P + 1))) (rpF f n P (up2 (up2 M 3 (5 + P) (NF f n g (nI 0) (nI 99)).1) 4 P (NF f n (NF f n g (nI 0) (nI 99)).2 (nI 0) (nI X - nI 1)).1) (NF f n (NF f n g (nI 0) (nI 99)).2 (nI 0) (nI X - nI 1)).2 K).2) := by
  refine g_entryv (L := [(0, .ref (B + 0)), (1, .int (nI 112))]) (by decide) (Nat.le_of_ble_eq_true rfl) rfl ?_
  intro zp ze zs zm zb zt zc Q F hQ
  refine g_iload_n F 1 (dk dtX7_readsItem_0 0 rfl) rfl ?_
  refine g_bipush F (nI 112) (dk dtX7_readsItem_0 1 rfl) (by decide) ?_
  refine g_icmp_neN F 99 (dk dtX7_readsItem_0 2 rfl) (by decide) (by decide) (by decide) (fun c => absurd c (by decide)) (fun _ => ?_)
  refine g_aload_n F 0 (dk dtX7_readsItem_0 3 rfl) rfl ?_
  refine g_get F fa_X7_13 (dk dtX7_readsItem_0 4 rfl) (by decide) (cm0 D B _ _) rfl ?_
  refine g_iconst F (nI 5) (dk dtX7_readsItem_0 5 rfl) (by decide) ?_
  refine g_iald F (5) (dk dtX7_readsItem_0 6 rfl) (by decide) (cm2 D B _ _) (by omega) (by decide) ?_
  refine g_top (congrFun (tyS_ne _ _ (by decide)) _) ?_
  refine g_top hP ?_
  refine g_istore_n F [(2, .int (nI P)), (0, .ref (B + 0)), (1, .int (nI 112))] (dk dtX7_readsItem_0 7 rfl) (by decide) rfl ?_
  refine g_aload_n F 1 (dk dtX7_readsItem_0 8 rfl) rfl ?_
  refine g_get F fa_X7_16 (dk dtX7_readsItem_0 9 rfl) (by decide) (cm0 D B _ _) rfl ?_
  refine g_iconst F (nI 5) (dk dtX7_readsItem_0 10 rfl) (by decide) ?_
  refine g_iload_n F 0 (dk dtX7_readsItem_0 11 rfl) rfl ?_
  refine g_iaddN F (dk dtX7_readsItem_0 12 rfl) ?_
  refine g_aload_n F 1 (dk dtX7_readsItem_0 13 rfl) rfl ?_
  refine g_iconst F (nI 0) (dk dtX7_readsItem_0 14 rfl) (by decide) ?_
  refine g_bipush F (nI 99) (dk dtX7_readsItem_0 15 rfl) (by decide) ?_
  refine g_callVi F (As := [.int (nI 0), .int (nI 99)]) (st := [.int (nI (5 + P)), .ref (B + 3)]) cv_X7_104 (dk dtX7_readsItem_0 16 rfl) (by decide) (cm0 D B _ _) rfl rfl (Nat.le_of_ble_eq_true rfl) ⟨by decide, by decide⟩ (k_X7_numberS l D B _ M g f n hf hn hn9 hL (And.intro hg hg2).1 (And.intro hg hg2).2 _ _) (fun r24 T24 M24 hp24 => ?_)
  obtain ⟨e1, e2, e3⟩ := hp24
  replace e1 := e1.symm; replace e2 := e2.symm; replace e3 := e3.symm; subst e1; subst e2; subst e3
  refine g_iast F (5 + P) (dk dtX7_readsItem_0 17 rfl) (by decide) (fun r => cm3 D B _ r) (by omega) (by decide) ?_
  refine g_mem (tyS_up _ _ _ _ (by decide)) ?_
  refine g_aload_n F 1 (dk dtX7_readsItem_0 18 rfl) rfl ?_
  refine g_get F fa_X7_19 (dk dtX7_readsItem_0 19 rfl) (by decide) (cm0 D B _ _) rfl ?_
  refine g_iconst F (nI 0) (dk dtX7_readsItem_0 20 rfl) (by decide) ?_
  refine g_iload_n F 0 (dk dtX7_readsItem_0 21 rfl) rfl ?_
  refine g_iadd0 F (dk dtX7_readsItem_0 22 rfl) ?_
  refine g_aload_n F 1 (dk dtX7_readsItem_0 23 rfl) rfl ?_
  refine g_iconst F (nI 0) (dk dtX7_readsItem_0 24 rfl) (by decide) ?_
  refine g_aload_n F 1 (dk dtX7_readsItem_0 25 rfl) rfl ?_
  refine g_get F fa_X7_13 (dk dtX7_readsItem_0 26 rfl) (by decide) (cm0 D B _ _) rfl ?_
  refine g_iconst F (nI 4) (dk dtX7_readsItem_0 27 rfl) (by decide) ?_
  refine g_iald F (4) (dk dtX7_readsItem_0 28 rfl) (by decide) (cm2 D B _ _) (by omega) (by decide) ?_
  refine g_top (congrFun (tyS_ne _ _ (by decide)) _) ?_
  refine g_top (congrFun (up2_ne _ _ (by decide)) _) ?_
  refine g_top hX ?_
  refine g_iconst F (nI 1) (dk dtX7_readsItem_0 29 rfl) (by decide) ?_
  refine g_isub F (dk dtX7_readsItem_0 30 rfl) ?_
  refine g_callVi F (As := [.int (nI 0), .int ((nI X) - (nI 1))]) (st := [.int (nI P), .ref (B + 4)]) cv_X7_104 (dk dtX7_readsItem_0 31 rfl) (by decide) (cm0 D B _ _) rfl rfl (Nat.le_of_ble_eq_true rfl) ⟨by decide, by decide⟩ (k_X7_numberS l D B _ (up2 M 3 (5 + P) ((NF f n g (nI 0) (nI 99)).1)) (NF f n g (nI 0) (nI 99)).2 f n ((up2_ne _ _ (by decide)).trans hf) ((congrFun (up2_ne _ _ (by decide)) _).trans hn) hn9 hL (NF_ok (f := f) (lo := nI 0) (hi := nI 99) hg hg2).1 (NF_ok (f := f) (lo := nI 0) (hi := nI 99) hg hg2).2 _ _) (fun r45 T45 M45 hp45 => ?_)
  obtain ⟨e1, e2, e3⟩ := hp45
  replace e1 := e1.symm; replace e2 := e2.symm; replace e3 := e3.symm; subst e1; subst e2; subst e3
  refine g_iast F (P) (dk dtX7_readsItem_0 32 rfl) (by decide) (fun r => cm4 D B _ r) (by omega) (by decide) ?_
  refine g_mem (tyS_up _ _ _ _ (by decide)) ?_
  refine g_iconst F (nI 0) (dk dtX7_readsItem_0 33 rfl) (by decide) ?_
  refine g_istore_n F [(3, .int (nI 0)), (2, .int (nI P)), (0, .ref (B + 0)), (1, .int (nI 112))] (dk dtX7_readsItem_0 34 rfl) (by decide) rfl ?_
  have lp51 : ∀ (fz : Nat) (i : Nat), i ≤ K → (K - i) < fz → G zp l ze { frames := 5, cells := 0, slots := 0, locals := 40 * 5 } zs zm [.ref (B + 0), .int (nI 112)].toArray zb zt zc 4 D B 14 (celM D B) Q T (tyS (rpF f n P (up2 (up2 M 3 (5 + P) (NF f n g (nI 0) (nI 99)).1) 4 P (NF f n (NF f n g (nI 0) (nI 99)).2 (nI 0) (nI X - nI 1)).1) (NF f n (NF f n g (nI 0) (nI 99)).2 (nI 0) (nI X - nI 1)).2 i).1 (rpF f n P (up2 (up2 M 3 (5 + P) (NF f n g (nI 0) (nI 99)).1) 4 P (NF f n (NF f n g (nI 0) (nI 99)).2 (nI 0) (nI X - nI 1)).1) (NF f n (NF f n g (nI 0) (nI 99)).2 (nI 0) (nI X - nI 1)).2 i).2) 51 [(0, .ref (B + 0)), (1, .int (nI 112)), (2, .int (nI P)), (3, .int (nI i))] [] := by
    intro n51
    induction n51 with
    | zero => intro i hI hn; exact absurd hn (Nat.not_lt_zero _)
    | succ n51 ih51 =>
      intro i hI51 hn51
      have hok := rpF_ok (f := f) (P := P) (M := (up2 (up2 M 3 (5 + P) (NF f n g (nI 0) (nI 99)).1) 4 P (NF f n (NF f n g (nI 0) (nI 99)).2 (nI 0) (nI X - nI 1)).1)) (NF_ok (f := f) (lo := nI 0) (hi := nI X - nI 1) (NF_ok (f := f) (lo := nI 0) (hi := nI 99) hg hg2).1 (NF_ok (f := f) (lo := nI 0) (hi := nI 99) hg hg2).2) i
      refine g_iload_n F 3 (dk dtX7_readsItem_0 35 rfl) rfl ?_
      refine g_aload_n F 0 (dk dtX7_readsItem_0 36 rfl) rfl ?_
      refine g_get F fa_X7_13 (dk dtX7_readsItem_0 37 rfl) (by decide) (cm0 D B _ _) rfl ?_
      refine g_iconst F (nI 3) (dk dtX7_readsItem_0 38 rfl) (by decide) ?_
      refine g_iald F (3) (dk dtX7_readsItem_0 39 rfl) (by decide) (cm2 D B _ _) (by omega) (by decide) ?_
      refine g_top (congrFun (tyS_ne _ _ (by decide)) _) ?_
      refine g_top ((congrFun (rpF_fr _ _ _ _ _ _ (by decide)) _).trans ((congrFun (up2_ne _ _ (by decide)) _).trans ((congrFun (up2_ne _ _ (by decide)) _).trans hK))) ?_
      refine g_icmp_geN F 86 (dk dtX7_readsItem_0 40 rfl) (by decide) (by omega) (by omega) (fun c58 => ?_) (fun c58 => ?_)
      · -- taken at 58
        obtain rfl : K = i := by omega
        refine g_aload_n F 0 (dk dtX7_readsItem_0 57 rfl) rfl ?_
        refine g_get F fa_X7_13 (dk dtX7_readsItem_0 58 rfl) (by decide) (cm0 D B _ _) rfl ?_
        refine g_iconst F (nI 5) (dk dtX7_readsItem_0 59 rfl) (by decide) ?_
        refine g_dup2 F (dk dtX7_readsItem_1 0 rfl) rfl rfl ?_
        refine g_iald F (5) (dk dtX7_readsItem_1 1 rfl) (by decide) (cm2 D B _ _) (by omega) (by decide) ?_
        refine g_top (congrFun (tyS_ne _ _ (by decide)) _) ?_
        refine g_top ((congrFun (rpF_fr _ _ _ _ _ _ (by decide)) _).trans ((congrFun (up2_ne _ _ (by decide)) _).trans ((congrFun (up2_ne _ _ (by decide)) _).trans hP))) ?_
        refine g_iconst F (nI 1) (dk dtX7_readsItem_1 2 rfl) (by decide) ?_
        refine g_iaddN F (dk dtX7_readsItem_1 3 rfl) ?_
        refine g_iast F (5) (dk dtX7_readsItem_1 4 rfl) (by decide) (fun r => cm2 D B _ r) (by omega) (by decide) ?_
        refine g_mem (tyS_up _ _ _ _ (by decide)) ?_
        refine g_goto F 143 (dk dtX7_readsItem_1 5 rfl) (by decide) ?_
        refine g_vret (F := F) hQ (dk dtX7_readsItem_1 32 rfl) ?_
        exact ⟨rfl, rfl⟩
      · -- not taken at 58
        refine g_aload_n F 0 (dk dtX7_readsItem_0 41 rfl) rfl ?_
        refine g_get F fa_X7_19 (dk dtX7_readsItem_0 42 rfl) (by decide) (cm0 D B _ _) rfl ?_
        refine g_iconst F (nI 5) (dk dtX7_readsItem_0 43 rfl) (by decide) ?_
        refine g_iconst F (nI 4) (dk dtX7_readsItem_0 44 rfl) (by decide) ?_
        refine g_iload_n F 2 (dk dtX7_readsItem_0 45 rfl) rfl ?_
        refine g_imulN F (dk dtX7_readsItem_0 46 rfl) ?_
        refine g_iaddN F (dk dtX7_readsItem_0 47 rfl) ?_
        refine g_iload_n F 3 (dk dtX7_readsItem_0 48 rfl) rfl ?_
        refine g_iaddN F (dk dtX7_readsItem_0 49 rfl) ?_
        refine g_aload_n F 0 (dk dtX7_readsItem_0 50 rfl) rfl ?_
        refine g_iconst F (nI 0) (dk dtX7_readsItem_0 51 rfl) (by decide) ?_
        refine g_bipush F (nI 9) (dk dtX7_readsItem_0 52 rfl) (by decide) ?_
        refine g_callVi F (As := [.int (nI 0), .int (nI 9)]) (st := [.int (nI ((5 + (4 * P)) + i)), .ref (B + 4)]) cv_X7_104 (dk dtX7_readsItem_0 53 rfl) (by decide) (cm0 D B _ _) rfl rfl (Nat.le_of_ble_eq_true rfl) ⟨by decide, by decide⟩ (k_X7_numberS l D B _ (rpF f n P (up2 (up2 M 3 (5 + P) (NF f n g (nI 0) (nI 99)).1) 4 P (NF f n (NF f n g (nI 0) (nI 99)).2 (nI 0) (nI X - nI 1)).1) (NF f n (NF f n g (nI 0) (nI 99)).2 (nI 0) (nI X - nI 1)).2 i).1 (rpF f n P (up2 (up2 M 3 (5 + P) (NF f n g (nI 0) (nI 99)).1) 4 P (NF f n (NF f n g (nI 0) (nI 99)).2 (nI 0) (nI X - nI 1)).1) (NF f n (NF f n g (nI 0) (nI 99)).2 (nI 0) (nI X - nI 1)).2 i).2 f n ((rpF_fr _ _ _ _ _ _ (by decide)).trans ((up2_ne _ _ (by decide)).trans ((up2_ne _ _ (by decide)).trans hf))) ((congrFun (rpF_fr _ _ _ _ _ _ (by decide)) _).trans ((congrFun (up2_ne _ _ (by decide)) _).trans ((congrFun (up2_ne _ _ (by decide)) _).trans hn))) hn9 hL hok.1 hok.2 _ _) (fun r76 T76 M76 hp76 => ?_)
        obtain ⟨e1, e2, e3⟩ := hp76
        replace e1 := e1.symm; replace e2 := e2.symm; replace e3 := e3.symm; subst e1; subst e2; subst e3
        refine g_iast F ((5 + (4 * P)) + i) (dk dtX7_readsItem_0 54 rfl) (by decide) (fun r => cm4 D B _ r) (by omega) (by decide) ?_
        refine g_mem (tyS_up _ _ _ _ (by decide)) ?_
        refine g_iinc F 3 (nI (i + 1)) [(3, .int (nI (i + 1))), (0, .ref (B + 0)), (1, .int (nI 112)), (2, .int (nI P))] (dk dtX7_readsItem_0 55 rfl) rfl (nI_1 _) (by decide) rfl ?_
        refine g_goto F 51 (dk dtX7_readsItem_0 56 rfl) (by decide) ?_
        refine g_sub [1, 2, 3, 0] (L1 := [(0, .ref (B + 0)), (1, .int (nI 112)), (2, .int (nI P)), (3, .int (nI (i + 1)))]) rfl ?_
        refine g_st (M1 := tyS (rpF f n P (up2 (up2 M 3 (5 + P) (NF f n g (nI 0) (nI 99)).1) 4 P (NF f n (NF f n g (nI 0) (nI 99)).2 (nI 0) (nI X - nI 1)).1) (NF f n (NF f n g (nI 0) (nI 99)).2 (nI 0) (nI X - nI 1)).2 (i + 1)).1 (rpF f n P (up2 (up2 M 3 (5 + P) (NF f n g (nI 0) (nI 99)).1) 4 P (NF f n (NF f n g (nI 0) (nI 99)).2 (nI 0) (nI X - nI 1)).1) (NF f n (NF f n g (nI 0) (nI 99)).2 (nI 0) (nI X - nI 1)).2 (i + 1)).2) (L1 := [(0, .ref (B + 0)), (1, .int (nI 112)), (2, .int (nI P)), (3, .int (nI (i + 1)))]) (by rfl) rfl rfl ?_
        exact ih51 (i + 1) (by omega) (by omega)
  refine g_sub [2, 3, 1, 0] (L1 := [(0, .ref (B + 0)), (1, .int (nI 112)), (2, .int (nI P)), (3, .int (nI 0))]) rfl ?_
  exact lp51 (K + 1) 0 (by omega) (by omega)
