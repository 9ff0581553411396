set_option maxRecDepth 100000 in
set_option maxHeartbeats 4000000 in
theorem k_X4_readItem_k (l : Launch) (D : DX) (B : Nat) (T : Int64) (M : Mem) (f : Nat → Int32) (n : Nat) (hf : M 2 = f) (hn : M 1 1 = nI n) (hn9 : n ≤ 150) (g : CG) (hg : g.1 ≤ n) (s : Mem × SG) (hG : GA f n g.1 s.2) (K X P : Nat) (hD : DR M s.1 K X P) (ht : (aF f n g).2.2.1 = nI 107) : Ci l D B 108 (celC D B) yX4_readItem cX4_readItem 1 (some .boolean) 5 [.ref (B + 1)] T (txS M (aF f n g)) (fun rz T1 M1 => T1 = T ∧ ∃ (M2 : Mem) (g2 : CG), M1 = txS M2 g2 ∧ IQ f n M (aF f n g) (it2 f n s) rz M2 g2) := by
  refine g_entryi (L := [(0, .ref (B + 1))]) (by decide) (Nat.le_of_ble_eq_true rfl) rfl ?_
  intro zp ze zs zm zb zt zc Q F hQ
  refine g_aload_n F 0 (dk dtX4_readItem_0 0 rfl) rfl ?_
  refine g_get F fa_X4_46 (dk dtX4_readItem_0 1 rfl) (by decide) (cc1 D B _ _) rfl ?_
  refine g_top (txS_8 _ _) ?_
  refine g_top ht ?_
  refine g_look F (off := 36) 40 (dk dtX4_readItem_0 2 rfl) (by decide) (by decide) (by decide) ?_
  refine g_aload_n F 0 (dk dtX4_readItem_0 3 rfl) rfl ?_
  refine g_callVi F (As := []) (st := []) cv_X4_66 (dk dtX4_readItem_0 4 rfl) (by decide) (cc1 D B _ _) rfl rfl (Nat.le_of_ble_eq_true rfl) ⟨by decide, by decide⟩ (k_X4_readKinds l D B _ M f n hf hn hn9 (aF f n g) (aF_ok hg)) (fun r41 T41 M41 hp41 => ?_)
  obtain ⟨e1, e2, e3⟩ := hp41
  replace e1 := e1.symm; replace e2 := e2.symm; replace e3 := e3.symm; subst e1; subst e2; subst e3
  refine g_zret (F := F) hQ (dk dtX4_readItem_0 5 rfl) (bI_nar) ?_
  exact ⟨rfl, rI_k hn9 hg hG hD ht⟩
set_option maxRecDepth 100000 in
set_option maxHeartbeats 4000000 in
theorem k_X4_readItem_x (l : Launch) (D : DX) (B : Nat) (T : Int64) (M : Mem) (f : Nat → Int32) (n : Nat) (hf : M 2 = f) (hn : M 1 1 = nI n) (hn9 : n ≤ 150) (g : CG) (hg : g.1 ≤ n) (s : Mem × SG) (hG : GA f n g.1 s.2) (K X P : Nat) (hD : DR M s.1 K X P) (ht : (aF f n g).2.2.1 = nI 120) : Ci l D B 108 (celC D B) yX4_readItem cX4_readItem 1 (some .boolean) 5 [.ref (B + 1)] T (txS M (aF f n g)) (fun rz T1 M1 => T1 = T ∧ ∃ (M2 : Mem) (g2 : CG), M1 = txS M2 g2 ∧ IQ f n M (aF f n g) (it2 f n s) rz M2 g2) := by
  refine g_entryi (L := [(0, .ref (B + 1))]) (by decide) (Nat.le_of_ble_eq_true rfl) rfl ?_
  intro zp ze zs zm zb zt zc Q F hQ
  refine g_aload_n F 0 (dk dtX4_readItem_0 0 rfl) rfl ?_
  refine g_get F fa_X4_46 (dk dtX4_readItem_0 1 rfl) (by decide) (cc1 D B _ _) rfl ?_
  refine g_top (txS_8 _ _) ?_
  refine g_top ht ?_
  refine g_look F (off := 41) 45 (dk dtX4_readItem_0 2 rfl) (by decide) (by decide) (by decide) ?_
  refine g_aload_n F 0 (dk dtX4_readItem_0 6 rfl) rfl ?_
  refine g_callVi F (As := []) (st := []) cv_X4_69 (dk dtX4_readItem_0 7 rfl) (by decide) (cc1 D B _ _) rfl rfl (Nat.le_of_ble_eq_true rfl) ⟨by decide, by decide⟩ (k_X4_readPlaces l D B _ M f n hf hn hn9 (aF f n g) (aF_ok hg)) (fun r46 T46 M46 hp46 => ?_)
  obtain ⟨e1, e2, e3⟩ := hp46
  replace e1 := e1.symm; replace e2 := e2.symm; replace e3 := e3.symm; subst e1; subst e2; subst e3
  refine g_zret (F := F) hQ (dk dtX4_readItem_0 8 rfl) (bI_nar) ?_
  exact ⟨rfl, rI_x hn9 hg hG hD ht⟩
set_option maxRecDepth 100000 in
set_option maxHeartbeats 4000000 in
theorem k_X4_readItem_p (l : Launch) (D : DX) (B : Nat) (T : Int64) (M : Mem) (f : Nat → Int32) (n : Nat) (hf : M 2 = f) (hn : M 1 1 = nI n) (hn9 : n ≤ 150) (g : CG) (hg : g.1 ≤ n) (s : Mem × SG) (hG : GA f n g.1 s.2) (K X P : Nat) (hD : DR M s.1 K X P) (ht : (aF f n g).2.2.1 = nI 112) (hP4 : P < 5) : Ci l D B 108 (celC D B) yX4_readItem cX4_readItem 1 (some .boolean) 5 [.ref (B + 1)] T (txS M (aF f n g)) (fun rz T1 M1 => T1 = T ∧ ∃ (M2 : Mem) (g2 : CG), M1 = txS M2 g2 ∧ IQ f n M (aF f n g) (it2 f n s) rz M2 g2) := by
  have hI := rI_p hG hD ht hP4
  refine g_entryi (L := [(0, .ref (B + 1))]) (by decide) (Nat.le_of_ble_eq_true rfl) rfl ?_
  intro zp ze zs zm zb zt zc Q F hQ
  refine g_aload_n F 0 (dk dtX4_readItem_0 0 rfl) rfl ?_
  refine g_get F fa_X4_46 (dk dtX4_readItem_0 1 rfl) (by decide) (cc1 D B _ _) rfl ?_
  refine g_top (txS_8 _ _) ?_
  refine g_top ht ?_
  refine g_look F (off := 46) 50 (dk dtX4_readItem_0 2 rfl) (by decide) (by decide) (by decide) ?_
  refine g_aload_n F 0 (dk dtX4_readItem_0 9 rfl) rfl ?_
  refine g_callVi F (As := []) (st := []) cv_X4_72 (dk dtX4_readItem_0 10 rfl) (by decide) (cc1 D B _ _) rfl rfl (Nat.le_of_ble_eq_true rfl) ⟨by decide, by decide⟩ (k_X4_readPerson l D B _ M f n hf hn hn9 (aF f n g) (aF_ok hg) s.1 (it1 f n s).2 hI.1 K X P hD hP4) (fun r51 T51 M51 hp51 => ?_)
  obtain ⟨e2, M2, g2, e3, hq⟩ := hp51
  replace e2 := e2.symm; replace e3 := e3.symm; subst e2; subst e3
  refine g_zret (F := F) hQ (dk dtX4_readItem_0 11 rfl) (IQ_nar hq) ?_
  exact ⟨rfl, _, _, rfl, by rw [hI.2]; exact hq⟩
set_option maxRecDepth 100000 in
set_option maxHeartbeats 4000000 in
theorem k_X4_readItem_p5 (l : Launch) (D : DX) (B : Nat) (T : Int64) (M : Mem) (f : Nat → Int32) (n : Nat) (hf : M 2 = f) (hn : M 1 1 = nI n) (hn9 : n ≤ 150) (g : CG) (hg : g.1 ≤ n) (s : Mem × SG) (hG : GA f n g.1 s.2) (K X : Nat) (hD : DR M s.1 K X 5) (ht : (aF f n g).2.2.1 = nI 112) : Ci l D B 108 (celC D B) yX4_readItem cX4_readItem 1 (some .boolean) 5 [.ref (B + 1)] T (txS M (aF f n g)) (fun rz T1 M1 => T1 = T ∧ ∃ (M2 : Mem) (g2 : CG), M1 = txS M2 g2 ∧ IQ f n M (aF f n g) (it2 f n s) rz M2 g2) := by
  refine g_entryi (L := [(0, .ref (B + 1))]) (by decide) (Nat.le_of_ble_eq_true rfl) rfl ?_
  intro zp ze zs zm zb zt zc Q F hQ
  refine g_aload_n F 0 (dk dtX4_readItem_0 0 rfl) rfl ?_
  refine g_get F fa_X4_46 (dk dtX4_readItem_0 1 rfl) (by decide) (cc1 D B _ _) rfl ?_
  refine g_top (txS_8 _ _) ?_
  refine g_top ht ?_
  refine g_look F (off := 46) 50 (dk dtX4_readItem_0 2 rfl) (by decide) (by decide) (by decide) ?_
  refine g_aload_n F 0 (dk dtX4_readItem_0 9 rfl) rfl ?_
  refine g_callVi F (As := []) (st := []) cv_X4_72 (dk dtX4_readItem_0 10 rfl) (by decide) (cc1 D B _ _) rfl rfl (Nat.le_of_ble_eq_true rfl) ⟨by decide, by decide⟩ (k_X4_readPerson_5 l D B _ M (aF f n g) hD.2.2.2.2.2.1) (fun r51 T51 M51 hp51 => ?_)
  obtain ⟨e1, e2, e3⟩ := hp51
  replace e1 := e1.symm; replace e2 := e2.symm; replace e3 := e3.symm; subst e1; subst e2; subst e3
  refine g_zret (F := F) hQ (dk dtX4_readItem_0 11 rfl) (rfl) ?_
  exact ⟨rfl, _, _, rfl, rI_p5 hn9 hg hG hD ht⟩
set_option maxRecDepth 100000 in
set_option maxHeartbeats 4000000 in
theorem k_X4_readItem_o (l : Launch) (D : DX) (B : Nat) (T : Int64) (M : Mem) (f : Nat → Int32) (n : Nat) (hf : M 2 = f) (hn : M 1 1 = nI n) (hn9 : n ≤ 150) (g : CG) (hg : g.1 ≤ n) (s : Mem × SG) (hG : GA f n g.1 s.2) (K X P : Nat) (hD : DR M s.1 K X P) (ht : ¬ ((aF f n g).2.2.1 = nI 107 ∨ (aF f n g).2.2.1 = nI 120 ∨ (aF f n g).2.2.1 = nI 112)) : Ci l D B 108 (celC D B) yX4_readItem cX4_readItem 1 (some .boolean) 5 [.ref (B + 1)] T (txS M (aF f n g)) (fun rz T1 M1 => T1 = T ∧ ∃ (M2 : Mem) (g2 : CG), M1 = txS M2 g2 ∧ IQ f n M (aF f n g) (it2 f n s) rz M2 g2) := by
  refine g_entryi (L := [(0, .ref (B + 1))]) (by decide) (Nat.le_of_ble_eq_true rfl) rfl ?_
  intro zp ze zs zm zb zt zc Q F hQ
  refine g_aload_n F 0 (dk dtX4_readItem_0 0 rfl) rfl ?_
  refine g_get F fa_X4_46 (dk dtX4_readItem_0 1 rfl) (by decide) (cc1 D B _ _) rfl ?_
  refine g_top (txS_8 _ _) ?_
  refine g_look F (off := 51) 55 (dk dtX4_readItem_0 2 rfl) (by decide) (look_o ht) (by decide) ?_
  refine g_iconst F (nI 0) (dk dtX4_readItem_0 12 rfl) (by decide) ?_
  refine g_zret (F := F) hQ (dk dtX4_readItem_0 13 rfl) (rfl) ?_
  exact ⟨rfl, _, _, rfl, rI_o hn9 hg hG ht⟩
theorem k_X4_readItem (l : Launch) (D : DX) (B : Nat) (T : Int64) (M : Mem) (f : Nat → Int32) (n : Nat) (hf : M 2 = f) (hn : M 1 1 = nI n) (hn9 : n ≤ 150) (g : CG) (hg : g.1 ≤ n) (s : Mem × SG) (hG : GA f n g.1 s.2) (K X P : Nat) (hD : DR M s.1 K X P)  : Ci l D B 108 (celC D B) yX4_readItem cX4_readItem 1 (some .boolean) 5 [.ref (B + 1)] T (txS M (aF f n g)) (fun rz T1 M1 => T1 = T ∧ ∃ (M2 : Mem) (g2 : CG), M1 = txS M2 g2 ∧ IQ f n M (aF f n g) (it2 f n s) rz M2 g2) := by
  by_cases hk : (aF f n g).2.2.1 = nI 107
  · exact k_X4_readItem_k l D B T M f n hf hn hn9 g hg s hG K X P hD hk
  · by_cases hx : (aF f n g).2.2.1 = nI 120
    · exact k_X4_readItem_x l D B T M f n hf hn hn9 g hg s hG K X P hD hx
    · by_cases hp : (aF f n g).2.2.1 = nI 112
      · by_cases hP : P < 5
        · exact k_X4_readItem_p l D B T M f n hf hn hn9 g hg s hG K X P hD hp hP
        · obtain rfl : P = 5 := Nat.le_antisymm hD.1.2.2.2.2 (Nat.not_lt.mp hP)
          exact k_X4_readItem_p5 l D B T M f n hf hn hn9 g hg s hG K X hD hp
      · exact k_X4_readItem_o l D B T M f n hf hn hn9 g hg s hG K X P hD (fun q => q.elim hk (fun q => q.elim hx hp))
