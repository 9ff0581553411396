def opQ (K X : Nat) (g : Nat → Nat → Bool) (rz : Int32) : Prop := (∃ k x, k < K ∧ x < X ∧ g k x = true ∧ (∀ k1, k1 < k → ∀ x1, x1 < X → ¬ g k1 x1 = true) ∧ (∀ x1, x1 < x → ¬ g k x1 = true) ∧ rz = nI (10 * k + x)) ∨ ((∀ k, k < K → ∀ x, x < X → ¬ g k x = true) ∧ rz = -9)
set_option maxRecDepth 100000 in
set_option maxHeartbeats 4000000 in
theorem k_X0_opening_0 (l : Launch) (D : DX) (B : Nat) (T : Int64) (M : Mem) (row nv : Nat → Int32) (hR : NR M 12 row) (hW : WR row) (hM : MW row) (K P : Nat) (hK : M 10 0 = nI K) (hP : M 10 2 = nI P) (hK1 : 1 ≤ K) (hK4 : K ≤ 4) (hP5 : P ≤ 5) (hv : ∀ p, p < P → M 11 p = nv p) (X : Nat) (hX : M 10 1 = nI X) (hX1 : 1 ≤ X) (hX4 : X ≤ 4) (p : Nat) (hp : p < P)  : Ci l D B 108 (celC D B) yX0_opening cX0_opening 7 (some .int) 9 [.ref (B + 69), .ref (B + 10), .ref (B + 12), .int (nI p), .int (nI 0)] T M (fun rz T1 M1 => rz = (-9) ∧ T1 = T ∧ M1 = M) := by
  refine g_entryi (L := [(0, .ref (B + 69)), (1, .ref (B + 10)), (2, .ref (B + 12)), (3, .int (nI p)), (4, .int (nI 0))]) (by decide) (Nat.le_of_ble_eq_true rfl) rfl ?_
  intro zp ze zs zm zb zt zc Q F hQ
  refine g_iload F 4 (dk dtX0_opening_0 0 rfl) rfl ?_
  refine g_if_le F 11 (dk dtX0_opening_0 1 rfl) (by decide) (fun c2 => ?_) (fun c2 => ?_)
  · -- taken at 2
    refine g_bipush F (-9) (dk dtX0_opening_0 5 rfl) (by decide) ?_
    refine g_iret (F := F) hQ (dk dtX0_opening_0 6 rfl) ?_
    exact ⟨rfl, rfl, rfl⟩
  · -- not taken at 2
    exact absurd (by decide) c2
set_option maxRecDepth 100000 in
set_option maxHeartbeats 4000000 in
theorem k_X0_opening_1 (l : Launch) (D : DX) (B : Nat) (T : Int64) (M : Mem) (row nv : Nat → Int32) (hR : NR M 12 row) (hW : WR row) (hM : MW row) (K P : Nat) (hK : M 10 0 = nI K) (hP : M 10 2 = nI P) (hK1 : 1 ≤ K) (hK4 : K ≤ 4) (hP5 : P ≤ 5) (hv : ∀ p, p < P → M 11 p = nv p) (X : Nat) (hX : M 10 1 = nI X) (hX1 : 1 ≤ X) (hX4 : X ≤ 4) (p : Nat) (hp : p < P)  : Ci l D B 108 (celC D B) yX0_opening cX0_opening 7 (some .int) 9 [.ref (B + 69), .ref (B + 10), .ref (B + 12), .int (nI p), .int (nI 1)] T M (fun rz T1 M1 => opQ K X (fun k x => fB nv (nI K) K X P p 0 false (evR nv (nI K) row k (nI x) P)) rz ∧ T1 = T ∧ Sc M M1) := by
  refine g_entryi (L := [(0, .ref (B + 69)), (1, .ref (B + 10)), (2, .ref (B + 12)), (3, .int (nI p)), (4, .int (nI 1))]) (by decide) (Nat.le_of_ble_eq_true rfl) rfl ?_
  intro zp ze zs zm zb zt zc Q F hQ
  refine g_iload F 4 (dk dtX0_opening_0 0 rfl) rfl ?_
  refine g_if_le F 11 (dk dtX0_opening_0 1 rfl) (by decide) (fun c2 => ?_) (fun c2 => ?_)
  · -- taken at 2
    exact absurd c2 (by decide)
  · -- not taken at 2
    refine g_iload F 4 (dk dtX0_opening_0 2 rfl) rfl ?_
    refine g_iconst F (nI 3) (dk dtX0_opening_0 3 rfl) (by decide) ?_
    refine g_icmp_leN F 14 (dk dtX0_opening_0 4 rfl) (by decide) (by decide) (by decide) (fun _ => ?_) (fun c => absurd c (by decide))
    refine g_iconst F (nI 0) (dk dtX0_opening_0 7 rfl) (by decide) ?_
    refine g_istore F [(5, .int (nI 0)), (0, .ref (B + 69)), (1, .ref (B + 10)), (2, .ref (B + 12)), (3, .int (nI p)), (4, .int (nI 1))] (dk dtX0_opening_0 8 rfl) (by decide) rfl ?_
    have lp17 : ∀ (fz : Nat) (i : Nat) (M2 : Mem), (i ≤ K ∧ (∀ c, c < 72 ∨ 92 ≤ c → M2 c = M c) ∧ (∀ i1, i1 < i → ∀ j1, j1 < X → ¬ (fun k x => fB nv (nI K) K X P p 0 false (evR nv (nI K) row k (nI x) P)) i1 j1 = true)) → (K - i) < fz → G zp l ze { frames := 9, cells := 0, slots := 0, locals := 40 * 9 } zs zm [.ref (B + 69), .ref (B + 10), .ref (B + 12), .int (nI p), .int (nI 1)].toArray zb zt zc 7 D B 108 (celC D B) Q T M2 17 [(0, .ref (B + 69)), (1, .ref (B + 10)), (2, .ref (B + 12)), (3, .int (nI p)), (4, .int (nI 1)), (5, .int (nI i))] [] := by
      intro n17
      induction n17 with
      | zero => intro i M2 hI hn; exact absurd hn (Nat.not_lt_zero _)
      | succ n17 ih17 =>
        intro i M2 hI17 hn17
        obtain ⟨hi, hF2, hN2⟩ := hI17
        have hP2 : M2 10 2 = nI P := by rw [hF2 10 (by decide)]; exact hP
        have hK2 : M2 10 0 = nI K := by rw [hF2 10 (by decide)]; exact hK
        have hX2 : M2 10 1 = nI X := by rw [hF2 10 (by decide)]; exact hX
        refine g_iload F 5 (dk dtX0_opening_0 9 rfl) rfl ?_
        refine g_aload_n F 1 (dk dtX0_opening_0 10 rfl) rfl ?_
        refine g_get F fa_X0_43 (dk dtX0_opening_0 11 rfl) (by decide) (cc10 D B _ _) rfl ?_
        refine g_top hK2 ?_
        refine g_icmp_geN F 80 (dk dtX0_opening_0 12 rfl) (by decide) (by omega) (by omega) (fun c23 => ?_) (fun c23 => ?_)
        · -- taken at 23
          refine g_bipush F (-9) (dk dtX0_opening_0 42 rfl) (by decide) ?_
          refine g_iret (F := F) hQ (dk dtX0_opening_0 43 rfl) ?_
          exact ⟨Or.inr ⟨fun k hk x hx => hN2 k (by omega) x hx, rfl⟩, rfl, fun c hc => hF2 c (by omega)⟩
        · -- not taken at 23
          refine g_iconst F (nI 0) (dk dtX0_opening_0 13 rfl) (by decide) ?_
          refine g_istore F [(6, .int (nI 0)), (0, .ref (B + 69)), (1, .ref (B + 10)), (2, .ref (B + 12)), (3, .int (nI p)), (4, .int (nI 1)), (5, .int (nI i))] (dk dtX0_opening_0 14 rfl) (by decide) rfl ?_
          have lp29 : ∀ (fz : Nat) (j : Nat) (M2 : Mem), (j ≤ X ∧ (∀ c, c < 72 ∨ 92 ≤ c → M2 c = M c) ∧ (∀ j1, j1 < j → ¬ (fun k x => fB nv (nI K) K X P p 0 false (evR nv (nI K) row k (nI x) P)) i j1 = true)) → (X - j) < fz → G zp l ze { frames := 9, cells := 0, slots := 0, locals := 40 * 9 } zs zm [.ref (B + 69), .ref (B + 10), .ref (B + 12), .int (nI p), .int (nI 1)].toArray zb zt zc 7 D B 108 (celC D B) Q T M2 29 [(0, .ref (B + 69)), (1, .ref (B + 10)), (2, .ref (B + 12)), (3, .int (nI p)), (4, .int (nI 1)), (5, .int (nI i)), (6, .int (nI j))] [] := by
            intro n29
            induction n29 with
            | zero => intro j M2 hI hn; exact absurd hn (Nat.not_lt_zero _)
            | succ n29 ih29 =>
              intro j M2 hI29 hn29
              obtain ⟨hj, hF2, hNj⟩ := hI29
              have hP2 : M2 10 2 = nI P := by rw [hF2 10 (by decide)]; exact hP
              have hK2 : M2 10 0 = nI K := by rw [hF2 10 (by decide)]; exact hK
              have hX2 : M2 10 1 = nI X := by rw [hF2 10 (by decide)]; exact hX
              have hR2 : NR M2 12 row := hR.to (fun c h1 h2 => hF2 c (by omega))
              have hv2 : ∀ q, q < P → M2 11 q = nv q := fun q hq => by rw [hF2 11 (by decide)]; exact hv q hq
              refine g_iload F 6 (dk dtX0_opening_0 15 rfl) rfl ?_
              refine g_aload_n F 1 (dk dtX0_opening_0 16 rfl) rfl ?_
              refine g_get F fa_X0_50 (dk dtX0_opening_0 17 rfl) (by decide) (cc10 D B _ _) rfl ?_
              refine g_top hX2 ?_
              refine g_icmp_geN F 74 (dk dtX0_opening_0 18 rfl) (by decide) (by omega) (by omega) (fun c35 => ?_) (fun c35 => ?_)
              · -- taken at 35
                refine g_iinc F 5 (nI (i + 1)) [(5, .int (nI (i + 1))), (0, .ref (B + 69)), (1, .ref (B + 10)), (2, .ref (B + 12)), (3, .int (nI p)), (4, .int (nI 1)), (6, .int (nI j))] (dk dtX0_opening_0 40 rfl) rfl (nI_1 _) (by decide) rfl ?_
                refine g_goto F 17 (dk dtX0_opening_0 41 rfl) (by decide) ?_
                refine g_sub [1, 2, 3, 4, 5, 0] (L1 := [(0, .ref (B + 69)), (1, .ref (B + 10)), (2, .ref (B + 12)), (3, .int (nI p)), (4, .int (nI 1)), (5, .int (nI (i + 1)))]) rfl ?_
                exact ih17 (i + 1) M2 ⟨by omega, hF2, fun i1 h1 j1 h2 => by
                  by_cases e : i1 = i
                  · subst e; exact hNj j1 (by omega)
                  · exact hN2 i1 (by omega) j1 h2⟩ (by omega)
              · -- not taken at 35
                refine g_aload_n F 0 (dk dtX0_opening_0 19 rfl) rfl ?_
                refine g_aload_n F 1 (dk dtX0_opening_0 20 rfl) rfl ?_
                refine g_aload_n F 2 (dk dtX0_opening_0 21 rfl) rfl ?_
                refine g_iload_n F 3 (dk dtX0_opening_0 22 rfl) rfl ?_
                refine g_iload F 4 (dk dtX0_opening_0 23 rfl) rfl ?_
                refine g_iconst F (nI 1) (dk dtX0_opening_0 24 rfl) (by decide) ?_
                refine g_bipush F (nI 10) (dk dtX0_opening_0 25 rfl) (by decide) ?_
                refine g_iload F 5 (dk dtX0_opening_0 26 rfl) rfl ?_
                refine g_imulN F (dk dtX0_opening_0 27 rfl) ?_
                refine g_iload F 6 (dk dtX0_opening_0 28 rfl) rfl ?_
                refine g_iaddN F (dk dtX0_opening_0 29 rfl) ?_
                refine g_callVi F (As := [.ref (B + 10), .ref (B + 12), .int (nI p), .int (nI 1), .int (nI 1), .int (nI ((10 * i) + j))]) (st := []) cv_X0_53 (dk dtX0_opening_0 30 rfl) (by decide) (cc69 D B _ _) rfl rfl (Nat.le_of_ble_eq_true rfl) ⟨by decide, by decide⟩ (k_X0_winsBehind_1_true l D B _ _ 12 (isNow12 D B) row nv hR2 hW hM K P hK2 hP2 hK1 hK4 hP5 hv2 X hX2 hX1 hX4 p hp i j (by omega) (by omega) (by omega)) (fun r53 T53 M53 hp53 => ?_)
                obtain ⟨hr53, hT53, hF4⟩ := hp53
                replace hT53 := hT53.symm; subst hT53; replace hr53 := hr53.symm; subst hr53
                refine g_if_eqB F 68 (dk dtX0_opening_0 31 rfl) (by decide) (fun c56 => ?_) (fun c56 => ?_)
                · -- taken at 56
                  refine g_iinc F 6 (nI (j + 1)) [(6, .int (nI (j + 1))), (0, .ref (B + 69)), (1, .ref (B + 10)), (2, .ref (B + 12)), (3, .int (nI p)), (4, .int (nI 1)), (5, .int (nI i))] (dk dtX0_opening_0 38 rfl) rfl (nI_1 _) (by decide) rfl ?_
                  refine g_goto F 29 (dk dtX0_opening_0 39 rfl) (by decide) ?_
                  refine g_sub [1, 2, 3, 4, 5, 6, 0] (L1 := [(0, .ref (B + 69)), (1, .ref (B + 10)), (2, .ref (B + 12)), (3, .int (nI p)), (4, .int (nI 1)), (5, .int (nI i)), (6, .int (nI (j + 1)))]) rfl ?_
                  exact ih29 (j + 1) _ ⟨by omega, fun c hc => (hF4 c (by omega)).trans (hF2 c hc), fun j1 h1 => by
                    by_cases e : j1 = j
                    · subst e; exact c56
                    · exact hNj j1 (by omega)⟩ (by omega)
                · -- not taken at 56
                  refine g_bipush F (nI 10) (dk dtX0_opening_0 32 rfl) (by decide) ?_
                  refine g_iload F 5 (dk dtX0_opening_0 33 rfl) rfl ?_
                  refine g_imulN F (dk dtX0_opening_0 34 rfl) ?_
                  refine g_iload F 6 (dk dtX0_opening_0 35 rfl) rfl ?_
                  refine g_iaddN F (dk dtX0_opening_0 36 rfl) ?_
                  refine g_iret (F := F) hQ (dk dtX0_opening_0 37 rfl) ?_
                  exact ⟨Or.inl ⟨i, j, by omega, by omega, c56, fun i1 h1 j1 h2 => hN2 i1 h1 j1 h2, hNj, rfl⟩, rfl, fun c hc => (hF4 c (by omega)).trans (hF2 c (by omega))⟩
          refine g_sub [1, 2, 3, 4, 5, 6, 0] (L1 := [(0, .ref (B + 69)), (1, .ref (B + 10)), (2, .ref (B + 12)), (3, .int (nI p)), (4, .int (nI 1)), (5, .int (nI i)), (6, .int (nI 0))]) rfl ?_
          exact lp29 (X + 1) 0 M2 ⟨by omega, hF2, fun j1 h => absurd h (Nat.not_lt_zero _)⟩ (by omega)
    refine g_sub [1, 2, 3, 4, 5, 0] (L1 := [(0, .ref (B + 69)), (1, .ref (B + 10)), (2, .ref (B + 12)), (3, .int (nI p)), (4, .int (nI 1)), (5, .int (nI 0))]) rfl ?_
    exact lp17 (K + 1) 0 M ⟨by omega, fun c _ => rfl, fun i1 h => absurd h (Nat.not_lt_zero _)⟩ (by omega)
set_option maxRecDepth 100000 in
set_option maxHeartbeats 4000000 in
theorem k_X0_opening_2 (l : Launch) (D : DX) (B : Nat) (T : Int64) (M : Mem) (row nv : Nat → Int32) (hR : NR M 12 row) (hW : WR row) (hM : MW row) (K P : Nat) (hK : M 10 0 = nI K) (hP : M 10 2 = nI P) (hK1 : 1 ≤ K) (hK4 : K ≤ 4) (hP5 : P ≤ 5) (hv : ∀ p, p < P → M 11 p = nv p) (X : Nat) (hX : M 10 1 = nI X) (hX1 : 1 ≤ X) (hX4 : X ≤ 4) (p : Nat) (hp : p < P)  : Ci l D B 108 (celC D B) yX0_opening cX0_opening 7 (some .int) 9 [.ref (B + 69), .ref (B + 10), .ref (B + 12), .int (nI p), .int (nI 2)] T M (fun rz T1 M1 => opQ K X (fun k x => fB nv (nI K) K X P p 1 false (evR nv (nI K) row k (nI x) P)) rz ∧ T1 = T ∧ Sc M M1) := by
  refine g_entryi (L := [(0, .ref (B + 69)), (1, .ref (B + 10)), (2, .ref (B + 12)), (3, .int (nI p)), (4, .int (nI 2))]) (by decide) (Nat.le_of_ble_eq_true rfl) rfl ?_
  intro zp ze zs zm zb zt zc Q F hQ
  refine g_iload F 4 (dk dtX0_opening_0 0 rfl) rfl ?_
  refine g_if_le F 11 (dk dtX0_opening_0 1 rfl) (by decide) (fun c2 => ?_) (fun c2 => ?_)
  · -- taken at 2
    exact absurd c2 (by decide)
  · -- not taken at 2
    refine g_iload F 4 (dk dtX0_opening_0 2 rfl) rfl ?_
    refine g_iconst F (nI 3) (dk dtX0_opening_0 3 rfl) (by decide) ?_
    refine g_icmp_leN F 14 (dk dtX0_opening_0 4 rfl) (by decide) (by decide) (by decide) (fun _ => ?_) (fun c => absurd c (by decide))
    refine g_iconst F (nI 0) (dk dtX0_opening_0 7 rfl) (by decide) ?_
    refine g_istore F [(5, .int (nI 0)), (0, .ref (B + 69)), (1, .ref (B + 10)), (2, .ref (B + 12)), (3, .int (nI p)), (4, .int (nI 2))] (dk dtX0_opening_0 8 rfl) (by decide) rfl ?_
    have lp17 : ∀ (fz : Nat) (i : Nat) (M2 : Mem), (i ≤ K ∧ (∀ c, c < 72 ∨ 92 ≤ c → M2 c = M c) ∧ (∀ i1, i1 < i → ∀ j1, j1 < X → ¬ (fun k x => fB nv (nI K) K X P p 1 false (evR nv (nI K) row k (nI x) P)) i1 j1 = true)) → (K - i) < fz → G zp l ze { frames := 9, cells := 0, slots := 0, locals := 40 * 9 } zs zm [.ref (B + 69), .ref (B + 10), .ref (B + 12), .int (nI p), .int (nI 2)].toArray zb zt zc 7 D B 108 (celC D B) Q T M2 17 [(0, .ref (B + 69)), (1, .ref (B + 10)), (2, .ref (B + 12)), (3, .int (nI p)), (4, .int (nI 2)), (5, .int (nI i))] [] := by
      intro n17
      induction n17 with
      | zero => intro i M2 hI hn; exact absurd hn (Nat.not_lt_zero _)
      | succ n17 ih17 =>
        intro i M2 hI17 hn17
        obtain ⟨hi, hF2, hN2⟩ := hI17
        have hP2 : M2 10 2 = nI P := by rw [hF2 10 (by decide)]; exact hP
        have hK2 : M2 10 0 = nI K := by rw [hF2 10 (by decide)]; exact hK
        have hX2 : M2 10 1 = nI X := by rw [hF2 10 (by decide)]; exact hX
        refine g_iload F 5 (dk dtX0_opening_0 9 rfl) rfl ?_
        refine g_aload_n F 1 (dk dtX0_opening_0 10 rfl) rfl ?_
        refine g_get F fa_X0_43 (dk dtX0_opening_0 11 rfl) (by decide) (cc10 D B _ _) rfl ?_
        refine g_top hK2 ?_
        refine g_icmp_geN F 80 (dk dtX0_opening_0 12 rfl) (by decide) (by omega) (by omega) (fun c23 => ?_) (fun c23 => ?_)
        · -- taken at 23
          refine g_bipush F (-9) (dk dtX0_opening_0 42 rfl) (by decide) ?_
          refine g_iret (F := F) hQ (dk dtX0_opening_0 43 rfl) ?_
          exact ⟨Or.inr ⟨fun k hk x hx => hN2 k (by omega) x hx, rfl⟩, rfl, fun c hc => hF2 c (by omega)⟩
        · -- not taken at 23
          refine g_iconst F (nI 0) (dk dtX0_opening_0 13 rfl) (by decide) ?_
          refine g_istore F [(6, .int (nI 0)), (0, .ref (B + 69)), (1, .ref (B + 10)), (2, .ref (B + 12)), (3, .int (nI p)), (4, .int (nI 2)), (5, .int (nI i))] (dk dtX0_opening_0 14 rfl) (by decide) rfl ?_
          have lp29 : ∀ (fz : Nat) (j : Nat) (M2 : Mem), (j ≤ X ∧ (∀ c, c < 72 ∨ 92 ≤ c → M2 c = M c) ∧ (∀ j1, j1 < j → ¬ (fun k x => fB nv (nI K) K X P p 1 false (evR nv (nI K) row k (nI x) P)) i j1 = true)) → (X - j) < fz → G zp l ze { frames := 9, cells := 0, slots := 0, locals := 40 * 9 } zs zm [.ref (B + 69), .ref (B + 10), .ref (B + 12), .int (nI p), .int (nI 2)].toArray zb zt zc 7 D B 108 (celC D B) Q T M2 29 [(0, .ref (B + 69)), (1, .ref (B + 10)), (2, .ref (B + 12)), (3, .int (nI p)), (4, .int (nI 2)), (5, .int (nI i)), (6, .int (nI j))] [] := by
            intro n29
            induction n29 with
            | zero => intro j M2 hI hn; exact absurd hn (Nat.not_lt_zero _)
            | succ n29 ih29 =>
              intro j M2 hI29 hn29
              obtain ⟨hj, hF2, hNj⟩ := hI29
              have hP2 : M2 10 2 = nI P := by rw [hF2 10 (by decide)]; exact hP
              have hK2 : M2 10 0 = nI K := by rw [hF2 10 (by decide)]; exact hK
              have hX2 : M2 10 1 = nI X := by rw [hF2 10 (by decide)]; exact hX
              have hR2 : NR M2 12 row := hR.to (fun c h1 h2 => hF2 c (by omega))
              have hv2 : ∀ q, q < P → M2 11 q = nv q := fun q hq => by rw [hF2 11 (by decide)]; exact hv q hq
              refine g_iload F 6 (dk dtX0_opening_0 15 rfl) rfl ?_
              refine g_aload_n F 1 (dk dtX0_opening_0 16 rfl) rfl ?_
              refine g_get F fa_X0_50 (dk dtX0_opening_0 17 rfl) (by decide) (cc10 D B _ _) rfl ?_
              refine g_top hX2 ?_
              refine g_icmp_geN F 74 (dk dtX0_opening_0 18 rfl) (by decide) (by omega) (by omega) (fun c35 => ?_) (fun c35 => ?_)
              · -- taken at 35
                refine g_iinc F 5 (nI (i + 1)) [(5, .int (nI (i + 1))), (0, .ref (B + 69)), (1, .ref (B + 10)), (2, .ref (B + 12)), (3, .int (nI p)), (4, .int (nI 2)), (6, .int (nI j))] (dk dtX0_opening_0 40 rfl) rfl (nI_1 _) (by decide) rfl ?_
                refine g_goto F 17 (dk dtX0_opening_0 41 rfl) (by decide) ?_
                refine g_sub [1, 2, 3, 4, 5, 0] (L1 := [(0, .ref (B + 69)), (1, .ref (B + 10)), (2, .ref (B + 12)), (3, .int (nI p)), (4, .int (nI 2)), (5, .int (nI (i + 1)))]) rfl ?_
                exact ih17 (i + 1) M2 ⟨by omega, hF2, fun i1 h1 j1 h2 => by
                  by_cases e : i1 = i
                  · subst e; exact hNj j1 (by omega)
                  · exact hN2 i1 (by omega) j1 h2⟩ (by omega)
              · -- not taken at 35
                refine g_aload_n F 0 (dk dtX0_opening_0 19 rfl) rfl ?_
                refine g_aload_n F 1 (dk dtX0_opening_0 20 rfl) rfl ?_
                refine g_aload_n F 2 (dk dtX0_opening_0 21 rfl) rfl ?_
                refine g_iload_n F 3 (dk dtX0_opening_0 22 rfl) rfl ?_
                refine g_iload F 4 (dk dtX0_opening_0 23 rfl) rfl ?_
                refine g_iconst F (nI 1) (dk dtX0_opening_0 24 rfl) (by decide) ?_
                refine g_bipush F (nI 10) (dk dtX0_opening_0 25 rfl) (by decide) ?_
                refine g_iload F 5 (dk dtX0_opening_0 26 rfl) rfl ?_
                refine g_imulN F (dk dtX0_opening_0 27 rfl) ?_
                refine g_iload F 6 (dk dtX0_opening_0 28 rfl) rfl ?_
                refine g_iaddN F (dk dtX0_opening_0 29 rfl) ?_
                refine g_callVi F (As := [.ref (B + 10), .ref (B + 12), .int (nI p), .int (nI 2), .int (nI 1), .int (nI ((10 * i) + j))]) (st := []) cv_X0_53 (dk dtX0_opening_0 30 rfl) (by decide) (cc69 D B _ _) rfl rfl (Nat.le_of_ble_eq_true rfl) ⟨by decide, by decide⟩ (k_X0_winsBehind_2_true l D B _ _ 12 (isNow12 D B) row nv hR2 hW hM K P hK2 hP2 hK1 hK4 hP5 hv2 X hX2 hX1 hX4 p hp i j (by omega) (by omega) (by omega)) (fun r53 T53 M53 hp53 => ?_)
                obtain ⟨hr53, hT53, hF4⟩ := hp53
                replace hT53 := hT53.symm; subst hT53; replace hr53 := hr53.symm; subst hr53
                refine g_if_eqB F 68 (dk dtX0_opening_0 31 rfl) (by decide) (fun c56 => ?_) (fun c56 => ?_)
                · -- taken at 56
                  refine g_iinc F 6 (nI (j + 1)) [(6, .int (nI (j + 1))), (0, .ref (B + 69)), (1, .ref (B + 10)), (2, .ref (B + 12)), (3, .int (nI p)), (4, .int (nI 2)), (5, .int (nI i))] (dk dtX0_opening_0 38 rfl) rfl (nI_1 _) (by decide) rfl ?_
                  refine g_goto F 29 (dk dtX0_opening_0 39 rfl) (by decide) ?_
                  refine g_sub [1, 2, 3, 4, 5, 6, 0] (L1 := [(0, .ref (B + 69)), (1, .ref (B + 10)), (2, .ref (B + 12)), (3, .int (nI p)), (4, .int (nI 2)), (5, .int (nI i)), (6, .int (nI (j + 1)))]) rfl ?_
                  exact ih29 (j + 1) _ ⟨by omega, fun c hc => (hF4 c (by omega)).trans (hF2 c hc), fun j1 h1 => by
                    by_cases e : j1 = j
                    · subst e; exact c56
                    · exact hNj j1 (by omega)⟩ (by omega)
                · -- not taken at 56
                  refine g_bipush F (nI 10) (dk dtX0_opening_0 32 rfl) (by decide) ?_
                  refine g_iload F 5 (dk dtX0_opening_0 33 rfl) rfl ?_
                  refine g_imulN F (dk dtX0_opening_0 34 rfl) ?_
                  refine g_iload F 6 (dk dtX0_opening_0 35 rfl) rfl ?_
                  refine g_iaddN F (dk dtX0_opening_0 36 rfl) ?_
                  refine g_iret (F := F) hQ (dk dtX0_opening_0 37 rfl) ?_
                  exact ⟨Or.inl ⟨i, j, by omega, by omega, c56, fun i1 h1 j1 h2 => hN2 i1 h1 j1 h2, hNj, rfl⟩, rfl, fun c hc => (hF4 c (by omega)).trans (hF2 c (by omega))⟩
          refine g_sub [1, 2, 3, 4, 5, 6, 0] (L1 := [(0, .ref (B + 69)), (1, .ref (B + 10)), (2, .ref (B + 12)), (3, .int (nI p)), (4, .int (nI 2)), (5, .int (nI i)), (6, .int (nI 0))]) rfl ?_
          exact lp29 (X + 1) 0 M2 ⟨by omega, hF2, fun j1 h => absurd h (Nat.not_lt_zero _)⟩ (by omega)
    refine g_sub [1, 2, 3, 4, 5, 0] (L1 := [(0, .ref (B + 69)), (1, .ref (B + 10)), (2, .ref (B + 12)), (3, .int (nI p)), (4, .int (nI 2)), (5, .int (nI 0))]) rfl ?_
    exact lp17 (K + 1) 0 M ⟨by omega, fun c _ => rfl, fun i1 h => absurd h (Nat.not_lt_zero _)⟩ (by omega)
set_option maxRecDepth 100000 in
set_option maxHeartbeats 4000000 in
theorem k_X0_opening_3 (l : Launch) (D : DX) (B : Nat) (T : Int64) (M : Mem) (row nv : Nat → Int32) (hR : NR M 12 row) (hW : WR row) (hM : MW row) (K P : Nat) (hK : M 10 0 = nI K) (hP : M 10 2 = nI P) (hK1 : 1 ≤ K) (hK4 : K ≤ 4) (hP5 : P ≤ 5) (hv : ∀ p, p < P → M 11 p = nv p) (X : Nat) (hX : M 10 1 = nI X) (hX1 : 1 ≤ X) (hX4 : X ≤ 4) (p : Nat) (hp : p < P)  : Ci l D B 108 (celC D B) yX0_opening cX0_opening 7 (some .int) 9 [.ref (B + 69), .ref (B + 10), .ref (B + 12), .int (nI p), .int (nI 3)] T M (fun rz T1 M1 => opQ K X (fun k x => fB nv (nI K) K X P p 2 false (evR nv (nI K) row k (nI x) P)) rz ∧ T1 = T ∧ Sc M M1) := by
  refine g_entryi (L := [(0, .ref (B + 69)), (1, .ref (B + 10)), (2, .ref (B + 12)), (3, .int (nI p)), (4, .int (nI 3))]) (by decide) (Nat.le_of_ble_eq_true rfl) rfl ?_
  intro zp ze zs zm zb zt zc Q F hQ
  refine g_iload F 4 (dk dtX0_opening_0 0 rfl) rfl ?_
  refine g_if_le F 11 (dk dtX0_opening_0 1 rfl) (by decide) (fun c2 => ?_) (fun c2 => ?_)
  · -- taken at 2
    exact absurd c2 (by decide)
  · -- not taken at 2
    refine g_iload F 4 (dk dtX0_opening_0 2 rfl) rfl ?_
    refine g_iconst F (nI 3) (dk dtX0_opening_0 3 rfl) (by decide) ?_
    refine g_icmp_leN F 14 (dk dtX0_opening_0 4 rfl) (by decide) (by decide) (by decide) (fun _ => ?_) (fun c => absurd c (by decide))
    refine g_iconst F (nI 0) (dk dtX0_opening_0 7 rfl) (by decide) ?_
    refine g_istore F [(5, .int (nI 0)), (0, .ref (B + 69)), (1, .ref (B + 10)), (2, .ref (B + 12)), (3, .int (nI p)), (4, .int (nI 3))] (dk dtX0_opening_0 8 rfl) (by decide) rfl ?_
    have lp17 : ∀ (fz : Nat) (i : Nat) (M2 : Mem), (i ≤ K ∧ (∀ c, c < 72 ∨ 92 ≤ c → M2 c = M c) ∧ (∀ i1, i1 < i → ∀ j1, j1 < X → ¬ (fun k x => fB nv (nI K) K X P p 2 false (evR nv (nI K) row k (nI x) P)) i1 j1 = true)) → (K - i) < fz → G zp l ze { frames := 9, cells := 0, slots := 0, locals := 40 * 9 } zs zm [.ref (B + 69), .ref (B + 10), .ref (B + 12), .int (nI p), .int (nI 3)].toArray zb zt zc 7 D B 108 (celC D B) Q T M2 17 [(0, .ref (B + 69)), (1, .ref (B + 10)), (2, .ref (B + 12)), (3, .int (nI p)), (4, .int (nI 3)), (5, .int (nI i))] [] := by
      intro n17
      induction n17 with
      | zero => intro i M2 hI hn; exact absurd hn (Nat.not_lt_zero _)
      | succ n17 ih17 =>
        intro i M2 hI17 hn17
        obtain ⟨hi, hF2, hN2⟩ := hI17
        have hP2 : M2 10 2 = nI P := by rw [hF2 10 (by decide)]; exact hP
        have hK2 : M2 10 0 = nI K := by rw [hF2 10 (by decide)]; exact hK
        have hX2 : M2 10 1 = nI X := by rw [hF2 10 (by decide)]; exact hX
        refine g_iload F 5 (dk dtX0_opening_0 9 rfl) rfl ?_
        refine g_aload_n F 1 (dk dtX0_opening_0 10 rfl) rfl ?_
        refine g_get F fa_X0_43 (dk dtX0_opening_0 11 rfl) (by decide) (cc10 D B _ _) rfl ?_
        refine g_top hK2 ?_
        refine g_icmp_geN F 80 (dk dtX0_opening_0 12 rfl) (by decide) (by omega) (by omega) (fun c23 => ?_) (fun c23 => ?_)
        · -- taken at 23
          refine g_bipush F (-9) (dk dtX0_opening_0 42 rfl) (by decide) ?_
          refine g_iret (F := F) hQ (dk dtX0_opening_0 43 rfl) ?_
          exact ⟨Or.inr ⟨fun k hk x hx => hN2 k (by omega) x hx, rfl⟩, rfl, fun c hc => hF2 c (by omega)⟩
        · -- not taken at 23
          refine g_iconst F (nI 0) (dk dtX0_opening_0 13 rfl) (by decide) ?_
          refine g_istore F [(6, .int (nI 0)), (0, .ref (B + 69)), (1, .ref (B + 10)), (2, .ref (B + 12)), (3, .int (nI p)), (4, .int (nI 3)), (5, .int (nI i))] (dk dtX0_opening_0 14 rfl) (by decide) rfl ?_
          have lp29 : ∀ (fz : Nat) (j : Nat) (M2 : Mem), (j ≤ X ∧ (∀ c, c < 72 ∨ 92 ≤ c → M2 c = M c) ∧ (∀ j1, j1 < j → ¬ (fun k x => fB nv (nI K) K X P p 2 false (evR nv (nI K) row k (nI x) P)) i j1 = true)) → (X - j) < fz → G zp l ze { frames := 9, cells := 0, slots := 0, locals := 40 * 9 } zs zm [.ref (B + 69), .ref (B + 10), .ref (B + 12), .int (nI p), .int (nI 3)].toArray zb zt zc 7 D B 108 (celC D B) Q T M2 29 [(0, .ref (B + 69)), (1, .ref (B + 10)), (2, .ref (B + 12)), (3, .int (nI p)), (4, .int (nI 3)), (5, .int (nI i)), (6, .int (nI j))] [] := by
            intro n29
            induction n29 with
            | zero => intro j M2 hI hn; exact absurd hn (Nat.not_lt_zero _)
            | succ n29 ih29 =>
              intro j M2 hI29 hn29
              obtain ⟨hj, hF2, hNj⟩ := hI29
              have hP2 : M2 10 2 = nI P := by rw [hF2 10 (by decide)]; exact hP
              have hK2 : M2 10 0 = nI K := by rw [hF2 10 (by decide)]; exact hK
              have hX2 : M2 10 1 = nI X := by rw [hF2 10 (by decide)]; exact hX
              have hR2 : NR M2 12 row := hR.to (fun c h1 h2 => hF2 c (by omega))
              have hv2 : ∀ q, q < P → M2 11 q = nv q := fun q hq => by rw [hF2 11 (by decide)]; exact hv q hq
              refine g_iload F 6 (dk dtX0_opening_0 15 rfl) rfl ?_
              refine g_aload_n F 1 (dk dtX0_opening_0 16 rfl) rfl ?_
              refine g_get F fa_X0_50 (dk dtX0_opening_0 17 rfl) (by decide) (cc10 D B _ _) rfl ?_
              refine g_top hX2 ?_
              refine g_icmp_geN F 74 (dk dtX0_opening_0 18 rfl) (by decide) (by omega) (by omega) (fun c35 => ?_) (fun c35 => ?_)
              · -- taken at 35
                refine g_iinc F 5 (nI (i + 1)) [(5, .int (nI (i + 1))), (0, .ref (B + 69)), (1, .ref (B + 10)), (2, .ref (B + 12)), (3, .int (nI p)), (4, .int (nI 3)), (6, .int (nI j))] (dk dtX0_opening_0 40 rfl) rfl (nI_1 _) (by decide) rfl ?_
                refine g_goto F 17 (dk dtX0_opening_0 41 rfl) (by decide) ?_
                refine g_sub [1, 2, 3, 4, 5, 0] (L1 := [(0, .ref (B + 69)), (1, .ref (B + 10)), (2, .ref (B + 12)), (3, .int (nI p)), (4, .int (nI 3)), (5, .int (nI (i + 1)))]) rfl ?_
                exact ih17 (i + 1) M2 ⟨by omega, hF2, fun i1 h1 j1 h2 => by
                  by_cases e : i1 = i
                  · subst e; exact hNj j1 (by omega)
                  · exact hN2 i1 (by omega) j1 h2⟩ (by omega)
              · -- not taken at 35
                refine g_aload_n F 0 (dk dtX0_opening_0 19 rfl) rfl ?_
                refine g_aload_n F 1 (dk dtX0_opening_0 20 rfl) rfl ?_
                refine g_aload_n F 2 (dk dtX0_opening_0 21 rfl) rfl ?_
                refine g_iload_n F 3 (dk dtX0_opening_0 22 rfl) rfl ?_
                refine g_iload F 4 (dk dtX0_opening_0 23 rfl) rfl ?_
                refine g_iconst F (nI 1) (dk dtX0_opening_0 24 rfl) (by decide) ?_
                refine g_bipush F (nI 10) (dk dtX0_opening_0 25 rfl) (by decide) ?_
                refine g_iload F 5 (dk dtX0_opening_0 26 rfl) rfl ?_
                refine g_imulN F (dk dtX0_opening_0 27 rfl) ?_
                refine g_iload F 6 (dk dtX0_opening_0 28 rfl) rfl ?_
                refine g_iaddN F (dk dtX0_opening_0 29 rfl) ?_
                refine g_callVi F (As := [.ref (B + 10), .ref (B + 12), .int (nI p), .int (nI 3), .int (nI 1), .int (nI ((10 * i) + j))]) (st := []) cv_X0_53 (dk dtX0_opening_0 30 rfl) (by decide) (cc69 D B _ _) rfl rfl (Nat.le_of_ble_eq_true rfl) ⟨by decide, by decide⟩ (k_X0_winsBehind_3_true l D B _ _ 12 (isNow12 D B) row nv hR2 hW hM K P hK2 hP2 hK1 hK4 hP5 hv2 X hX2 hX1 hX4 p hp i j (by omega) (by omega) (by omega)) (fun r53 T53 M53 hp53 => ?_)
                obtain ⟨hr53, hT53, hF4⟩ := hp53
                replace hT53 := hT53.symm; subst hT53; replace hr53 := hr53.symm; subst hr53
                refine g_if_eqB F 68 (dk dtX0_opening_0 31 rfl) (by decide) (fun c56 => ?_) (fun c56 => ?_)
                · -- taken at 56
                  refine g_iinc F 6 (nI (j + 1)) [(6, .int (nI (j + 1))), (0, .ref (B + 69)), (1, .ref (B + 10)), (2, .ref (B + 12)), (3, .int (nI p)), (4, .int (nI 3)), (5, .int (nI i))] (dk dtX0_opening_0 38 rfl) rfl (nI_1 _) (by decide) rfl ?_
                  refine g_goto F 29 (dk dtX0_opening_0 39 rfl) (by decide) ?_
                  refine g_sub [1, 2, 3, 4, 5, 6, 0] (L1 := [(0, .ref (B + 69)), (1, .ref (B + 10)), (2, .ref (B + 12)), (3, .int (nI p)), (4, .int (nI 3)), (5, .int (nI i)), (6, .int (nI (j + 1)))]) rfl ?_
                  exact ih29 (j + 1) _ ⟨by omega, fun c hc => (hF4 c (by omega)).trans (hF2 c hc), fun j1 h1 => by
                    by_cases e : j1 = j
                    · subst e; exact c56
                    · exact hNj j1 (by omega)⟩ (by omega)
                · -- not taken at 56
                  refine g_bipush F (nI 10) (dk dtX0_opening_0 32 rfl) (by decide) ?_
                  refine g_iload F 5 (dk dtX0_opening_0 33 rfl) rfl ?_
                  refine g_imulN F (dk dtX0_opening_0 34 rfl) ?_
                  refine g_iload F 6 (dk dtX0_opening_0 35 rfl) rfl ?_
                  refine g_iaddN F (dk dtX0_opening_0 36 rfl) ?_
                  refine g_iret (F := F) hQ (dk dtX0_opening_0 37 rfl) ?_
                  exact ⟨Or.inl ⟨i, j, by omega, by omega, c56, fun i1 h1 j1 h2 => hN2 i1 h1 j1 h2, hNj, rfl⟩, rfl, fun c hc => (hF4 c (by omega)).trans (hF2 c (by omega))⟩
          refine g_sub [1, 2, 3, 4, 5, 6, 0] (L1 := [(0, .ref (B + 69)), (1, .ref (B + 10)), (2, .ref (B + 12)), (3, .int (nI p)), (4, .int (nI 3)), (5, .int (nI i)), (6, .int (nI 0))]) rfl ?_
          exact lp29 (X + 1) 0 M2 ⟨by omega, hF2, fun j1 h => absurd h (Nat.not_lt_zero _)⟩ (by omega)
    refine g_sub [1, 2, 3, 4, 5, 0] (L1 := [(0, .ref (B + 69)), (1, .ref (B + 10)), (2, .ref (B + 12)), (3, .int (nI p)), (4, .int (nI 3)), (5, .int (nI 0))]) rfl ?_
    exact lp17 (K + 1) 0 M ⟨by omega, fun c _ => rfl, fun i1 h => absurd h (Nat.not_lt_zero _)⟩ (by omega)
set_option maxRecDepth 100000 in
set_option maxHeartbeats 4000000 in
theorem k_X6_duel_0_1 (l : Launch) (D : DX) (B : Nat) (T : Int64) (M : Mem) (P : Nat) (hP : M 10 2 = nI P) (hP5 : P ≤ 5) (K : Nat) (hK : M 10 0 = nI K) (hK1 : 1 ≤ K) (hK4 : K ≤ 4) (X : Nat) (hX : M 10 1 = nI X) (hX1 : 1 ≤ X) (hX4 : X ≤ 4) (row nv : Nat → Int32) (hR : NR M 12 row) (hW : WR row) (hM : MW row) (hv : ∀ p, p < P → M 11 p = nv p) (p : Nat) (hp : p < P)  : Ci l D B 108 (celC D B) yX6_duel cX6_duel 6 (some .int) 10 [.ref (B + 0), .int (nI p), .int (nI 0), .int (nI 1)] T M (fun rz T1 M1 => rz = (-9) ∧ T1 = T ∧ M1 = M) := by
  refine g_entryi (L := [(0, .ref (B + 0)), (1, .int (nI p)), (2, .int (nI 0)), (3, .int (nI 1))]) (by decide) (Nat.le_of_ble_eq_true rfl) rfl ?_
  intro zp ze zs zm zb zt zc Q F hQ
  refine g_aload_n F 0 (dk dtX6_duel_0 0 rfl) rfl ?_
  refine g_get F fa_X6_19 (dk dtX6_duel_0 1 rfl) (by decide) (cc0 D B _ _) rfl ?_
  refine g_iload_n F 1 (dk dtX6_duel_0 2 rfl) rfl ?_
  refine g_callVi F (As := [.int (nI p)]) (st := []) cv_X6_94 (dk dtX6_duel_0 3 rfl) (by decide) (cc10 D B _ _) rfl rfl (Nat.le_of_ble_eq_true rfl) ⟨by decide, by decide⟩ (k_X5_hasPersonR l D B _ _ _ P hP) (fun r5 T5 M5 hp5 => ?_)
  obtain ⟨e1, e2, e3⟩ := hp5
  replace e1 := e1.symm; replace e2 := e2.symm; replace e3 := e3.symm; subst e1; subst e2; subst e3
  refine g_if_eqB F 27 (dk dtX6_duel_0 4 rfl) (by decide) (fun c => absurd (inR_nI (by omega)) c) (fun _ => ?_)
  refine g_iload_n F 2 (dk dtX6_duel_0 5 rfl) rfl ?_
  refine g_if_lt F 27 (dk dtX6_duel_0 6 rfl) (by decide) (fun c12 => ?_) (fun c12 => ?_)
  · -- taken at 12
    exact absurd c12 (by decide)
  · -- not taken at 12
    refine g_iload_n F 2 (dk dtX6_duel_0 7 rfl) rfl ?_
    refine g_iconst F (nI 3) (dk dtX6_duel_0 8 rfl) (by decide) ?_
    refine g_icmp_gtN F 27 (dk dtX6_duel_0 9 rfl) (by decide) (by decide) (by decide) (fun c => absurd c (by decide)) (fun _ => ?_)
    refine g_iload_n F 3 (dk dtX6_duel_0 10 rfl) rfl ?_
    refine g_callSi F (As := [.int (nI 1)]) (st := []) cs_X6_158 (dk dtX6_duel_0 11 rfl) rfl rfl (Nat.le_of_ble_eq_true rfl) ⟨by decide, by decide⟩ (k_X6_isBit l D B _ _ _) (fun r21 T21 M21 hp21 => ?_)
    obtain ⟨e1, e2, e3⟩ := hp21
    replace e1 := e1.symm; replace e2 := e2.symm; replace e3 := e3.symm; subst e1; subst e2; subst e3
    refine g_if_neB F 29 (dk dtX6_duel_0 12 rfl) (by decide) (fun _ => ?_) (fun c => absurd (inR_nI (by omega)) c)
    refine g_aload_n F 0 (dk dtX6_duel_0 15 rfl) rfl ?_
    refine g_get F fa_X6_40 (dk dtX6_duel_0 16 rfl) (by decide) (cc0 D B _ _) rfl ?_
    refine g_aload_n F 0 (dk dtX6_duel_0 17 rfl) rfl ?_
    refine g_get F fa_X6_19 (dk dtX6_duel_0 18 rfl) (by decide) (cc0 D B _ _) rfl ?_
    refine g_aload_n F 0 (dk dtX6_duel_0 19 rfl) rfl ?_
    refine g_get F fa_X6_26 (dk dtX6_duel_0 20 rfl) (by decide) (cc0 D B _ _) rfl ?_
    refine g_iload_n F 1 (dk dtX6_duel_0 21 rfl) rfl ?_
    refine g_iload_n F 2 (dk dtX6_duel_0 22 rfl) rfl ?_
    refine g_callVi F (As := [.ref (B + 10), .ref (B + 12), .int (nI p), .int (nI 0)]) (st := []) cv_X6_161 (dk dtX6_duel_0 23 rfl) (by decide) (cc69 D B _ _) rfl rfl (Nat.le_of_ble_eq_true rfl) ⟨by decide, by decide⟩ (k_X0_opening_0 l D B _ _ row nv hR hW hM K P hK hP hK1 hK4 hP5 hv X hX hX1 hX4 p hp) (fun r43 T43 M43 hp43 => ?_)
    obtain ⟨e1, e2, e3⟩ := hp43
    replace e1 := e1.symm; replace e2 := e2.symm; replace e3 := e3.symm; subst e1; subst e2; subst e3
    refine g_istore F [(4, .int (-9)), (0, .ref (B + 0)), (1, .int (nI p)), (2, .int (nI 0)), (3, .int (nI 1))] (dk dtX6_duel_0 24 rfl) (by decide) rfl ?_
    refine g_iload_n F 4 (dk dtX6_duel_0 25 rfl) rfl ?_
    refine g_iconst F (nI 1) (dk dtX6_duel_0 26 rfl) (by decide) ?_
    refine g_icmp_neN F 56 (dk dtX6_duel_0 27 rfl) (by decide) (by decide) (by decide) (fun c => absurd c (by decide)) (fun _ => ?_)
    refine g_iload F 0 (dk dtX6_duel_0 28 rfl) rfl ?_
    refine g_iret (F := F) hQ (dk dtX6_duel_0 29 rfl) ?_
    exact ⟨rfl, rfl, rfl⟩
set_option maxRecDepth 100000 in
set_option maxHeartbeats 4000000 in
theorem k_X6_duel_0_0 (l : Launch) (D : DX) (B : Nat) (T : Int64) (M : Mem) (P : Nat) (hP : M 10 2 = nI P) (hP5 : P ≤ 5) (K : Nat) (hK : M 10 0 = nI K) (hK1 : 1 ≤ K) (hK4 : K ≤ 4) (X : Nat) (hX : M 10 1 = nI X) (hX1 : 1 ≤ X) (hX4 : X ≤ 4) (row nv : Nat → Int32) (hR : NR M 12 row) (hW : WR row) (hM : MW row) (hv : ∀ p, p < P → M 11 p = nv p) (p : Nat) (hp : p < P)  : Ci l D B 108 (celC D B) yX6_duel cX6_duel 6 (some .int) 10 [.ref (B + 0), .int (nI p), .int (nI 0), .int (nI 0)] T M (fun rz T1 M1 => rz = (bI (moR row = nI p)) ∧ T1 = T ∧ M1 = M) := by
  refine g_entryi (L := [(0, .ref (B + 0)), (1, .int (nI p)), (2, .int (nI 0)), (3, .int (nI 0))]) (by decide) (Nat.le_of_ble_eq_true rfl) rfl ?_
  intro zp ze zs zm zb zt zc Q F hQ
  refine g_aload_n F 0 (dk dtX6_duel_0 0 rfl) rfl ?_
  refine g_get F fa_X6_19 (dk dtX6_duel_0 1 rfl) (by decide) (cc0 D B _ _) rfl ?_
  refine g_iload_n F 1 (dk dtX6_duel_0 2 rfl) rfl ?_
  refine g_callVi F (As := [.int (nI p)]) (st := []) cv_X6_94 (dk dtX6_duel_0 3 rfl) (by decide) (cc10 D B _ _) rfl rfl (Nat.le_of_ble_eq_true rfl) ⟨by decide, by decide⟩ (k_X5_hasPersonR l D B _ _ _ P hP) (fun r5 T5 M5 hp5 => ?_)
  obtain ⟨e1, e2, e3⟩ := hp5
  replace e1 := e1.symm; replace e2 := e2.symm; replace e3 := e3.symm; subst e1; subst e2; subst e3
  refine g_if_eqB F 27 (dk dtX6_duel_0 4 rfl) (by decide) (fun c => absurd (inR_nI (by omega)) c) (fun _ => ?_)
  refine g_iload_n F 2 (dk dtX6_duel_0 5 rfl) rfl ?_
  refine g_if_lt F 27 (dk dtX6_duel_0 6 rfl) (by decide) (fun c12 => ?_) (fun c12 => ?_)
  · -- taken at 12
    exact absurd c12 (by decide)
  · -- not taken at 12
    refine g_iload_n F 2 (dk dtX6_duel_0 7 rfl) rfl ?_
    refine g_iconst F (nI 3) (dk dtX6_duel_0 8 rfl) (by decide) ?_
    refine g_icmp_gtN F 27 (dk dtX6_duel_0 9 rfl) (by decide) (by decide) (by decide) (fun c => absurd c (by decide)) (fun _ => ?_)
    refine g_iload_n F 3 (dk dtX6_duel_0 10 rfl) rfl ?_
    refine g_callSi F (As := [.int (nI 0)]) (st := []) cs_X6_158 (dk dtX6_duel_0 11 rfl) rfl rfl (Nat.le_of_ble_eq_true rfl) ⟨by decide, by decide⟩ (k_X6_isBit l D B _ _ _) (fun r21 T21 M21 hp21 => ?_)
    obtain ⟨e1, e2, e3⟩ := hp21
    replace e1 := e1.symm; replace e2 := e2.symm; replace e3 := e3.symm; subst e1; subst e2; subst e3
    refine g_if_neB F 29 (dk dtX6_duel_0 12 rfl) (by decide) (fun _ => ?_) (fun c => absurd (inR_nI (by omega)) c)
    refine g_aload_n F 0 (dk dtX6_duel_0 15 rfl) rfl ?_
    refine g_get F fa_X6_40 (dk dtX6_duel_0 16 rfl) (by decide) (cc0 D B _ _) rfl ?_
    refine g_aload_n F 0 (dk dtX6_duel_0 17 rfl) rfl ?_
    refine g_get F fa_X6_19 (dk dtX6_duel_0 18 rfl) (by decide) (cc0 D B _ _) rfl ?_
    refine g_aload_n F 0 (dk dtX6_duel_0 19 rfl) rfl ?_
    refine g_get F fa_X6_26 (dk dtX6_duel_0 20 rfl) (by decide) (cc0 D B _ _) rfl ?_
    refine g_iload_n F 1 (dk dtX6_duel_0 21 rfl) rfl ?_
    refine g_iload_n F 2 (dk dtX6_duel_0 22 rfl) rfl ?_
    refine g_callVi F (As := [.ref (B + 10), .ref (B + 12), .int (nI p), .int (nI 0)]) (st := []) cv_X6_161 (dk dtX6_duel_0 23 rfl) (by decide) (cc69 D B _ _) rfl rfl (Nat.le_of_ble_eq_true rfl) ⟨by decide, by decide⟩ (k_X0_opening_0 l D B _ _ row nv hR hW hM K P hK hP hK1 hK4 hP5 hv X hX hX1 hX4 p hp) (fun r43 T43 M43 hp43 => ?_)
    obtain ⟨e1, e2, e3⟩ := hp43
    replace e1 := e1.symm; replace e2 := e2.symm; replace e3 := e3.symm; subst e1; subst e2; subst e3
    refine g_istore F [(4, .int (-9)), (0, .ref (B + 0)), (1, .int (nI p)), (2, .int (nI 0)), (3, .int (nI 0))] (dk dtX6_duel_0 24 rfl) (by decide) rfl ?_
    refine g_iload_n F 4 (dk dtX6_duel_0 25 rfl) rfl ?_
    refine g_iconst F (nI 1) (dk dtX6_duel_0 26 rfl) (by decide) ?_
    refine g_icmp_neN F 56 (dk dtX6_duel_0 27 rfl) (by decide) (by decide) (by decide) (fun _ => ?_) (fun c => absurd c (by decide))
    refine g_iload_n F 3 (dk dtX6_duel_0 30 rfl) rfl ?_
    refine g_if_neN F 79 (dk dtX6_duel_0 31 rfl) (by decide) (by decide) (fun c => absurd c (by decide)) (fun _ => ?_)
    refine g_aload_n F 1 (dk dtX6_duel_0 32 rfl) rfl ?_
    refine g_get F fa_X6_26 (dk dtX6_duel_0 33 rfl) (by decide) (cc0 D B _ _) rfl ?_
    refine g_get F fa_X6_121 (dk dtX6_duel_0 34 rfl) (by decide) (cc12 D B _ _) rfl ?_
    refine g_top hR.2.2.2.2 ?_
    refine g_iload_n F 2 (dk dtX6_duel_0 35 rfl) rfl ?_
    refine g_icmp_ne F 75 (dk dtX6_duel_0 36 rfl) (by decide) (fun c68 => ?_) (fun c68 => ?_)
    · -- taken at 68
      refine g_iconst F (nI 0) (dk dtX6_duel_0 39 rfl) (by decide) ?_
      refine g_goto F 91 (dk dtX6_duel_0 40 rfl) (by decide) ?_
      refine g_istore F [(5, .int (nI 0)), (4, .int (-9)), (0, .ref (B + 0)), (1, .int (nI p)), (2, .int (nI 0)), (3, .int (nI 0))] (dk dtX6_duel_0 47 rfl) (by decide) rfl ?_
      refine g_iload F 0 (dk dtX6_duel_0 48 rfl) rfl ?_
      refine g_if_eqN F 102 (dk dtX6_duel_0 49 rfl) (by decide) (by decide) (fun _ => ?_) (fun c => absurd c (by decide))
      refine g_iconst F (nI 0) (dk dtX6_duel_0 52 rfl) (by decide) ?_
      refine g_iret (F := F) hQ (dk dtX6_duel_0 53 rfl) ?_
      exact ⟨(bI_f c68).symm, rfl, rfl⟩
    · -- not taken at 68
      refine g_iconst F (nI 1) (dk dtX6_duel_0 37 rfl) (by decide) ?_
      refine g_goto F 91 (dk dtX6_duel_0 38 rfl) (by decide) ?_
      refine g_istore F [(5, .int (nI 1)), (4, .int (-9)), (0, .ref (B + 0)), (1, .int (nI p)), (2, .int (nI 0)), (3, .int (nI 0))] (dk dtX6_duel_0 47 rfl) (by decide) rfl ?_
      refine g_iload F 0 (dk dtX6_duel_0 48 rfl) rfl ?_
      refine g_if_eqN F 102 (dk dtX6_duel_0 49 rfl) (by decide) (by decide) (fun c => absurd c (by decide)) (fun _ => ?_)
      refine g_iconst F (nI 1) (dk dtX6_duel_0 50 rfl) (by decide) ?_
      refine g_goto F 103 (dk dtX6_duel_0 51 rfl) (by decide) ?_
      refine g_iret (F := F) hQ (dk dtX6_duel_0 53 rfl) ?_
      exact ⟨(bI_t c68).symm, rfl, rfl⟩
set_option maxRecDepth 100000 in
set_option maxHeartbeats 4000000 in
theorem k_X6_duel_1_1 (l : Launch) (D : DX) (B : Nat) (T : Int64) (M : Mem) (P : Nat) (hP : M 10 2 = nI P) (hP5 : P ≤ 5) (K : Nat) (hK : M 10 0 = nI K) (hK1 : 1 ≤ K) (hK4 : K ≤ 4) (X : Nat) (hX : M 10 1 = nI X) (hX1 : 1 ≤ X) (hX4 : X ≤ 4) (row nv : Nat → Int32) (hR : NR M 12 row) (hW : WR row) (hM : MW row) (hv : ∀ p, p < P → M 11 p = nv p) (p : Nat) (hp : p < P)  : Ci l D B 108 (celC D B) yX6_duel cX6_duel 6 (some .int) 10 [.ref (B + 0), .int (nI p), .int (nI 1), .int (nI 1)] T M (fun rz T1 M1 => opQ K X (fun k x => fB nv (nI K) K X P p 0 false (evR nv (nI K) row k (nI x) P)) rz ∧ T1 = T ∧ Sc M M1) := by
  refine g_entryi (L := [(0, .ref (B + 0)), (1, .int (nI p)), (2, .int (nI 1)), (3, .int (nI 1))]) (by decide) (Nat.le_of_ble_eq_true rfl) rfl ?_
  intro zp ze zs zm zb zt zc Q F hQ
  refine g_aload_n F 0 (dk dtX6_duel_0 0 rfl) rfl ?_
  refine g_get F fa_X6_19 (dk dtX6_duel_0 1 rfl) (by decide) (cc0 D B _ _) rfl ?_
  refine g_iload_n F 1 (dk dtX6_duel_0 2 rfl) rfl ?_
  refine g_callVi F (As := [.int (nI p)]) (st := []) cv_X6_94 (dk dtX6_duel_0 3 rfl) (by decide) (cc10 D B _ _) rfl rfl (Nat.le_of_ble_eq_true rfl) ⟨by decide, by decide⟩ (k_X5_hasPersonR l D B _ _ _ P hP) (fun r5 T5 M5 hp5 => ?_)
  obtain ⟨e1, e2, e3⟩ := hp5
  replace e1 := e1.symm; replace e2 := e2.symm; replace e3 := e3.symm; subst e1; subst e2; subst e3
  refine g_if_eqB F 27 (dk dtX6_duel_0 4 rfl) (by decide) (fun c => absurd (inR_nI (by omega)) c) (fun _ => ?_)
  refine g_iload_n F 2 (dk dtX6_duel_0 5 rfl) rfl ?_
  refine g_if_lt F 27 (dk dtX6_duel_0 6 rfl) (by decide) (fun c12 => ?_) (fun c12 => ?_)
  · -- taken at 12
    exact absurd c12 (by decide)
  · -- not taken at 12
    refine g_iload_n F 2 (dk dtX6_duel_0 7 rfl) rfl ?_
    refine g_iconst F (nI 3) (dk dtX6_duel_0 8 rfl) (by decide) ?_
    refine g_icmp_gtN F 27 (dk dtX6_duel_0 9 rfl) (by decide) (by decide) (by decide) (fun c => absurd c (by decide)) (fun _ => ?_)
    refine g_iload_n F 3 (dk dtX6_duel_0 10 rfl) rfl ?_
    refine g_callSi F (As := [.int (nI 1)]) (st := []) cs_X6_158 (dk dtX6_duel_0 11 rfl) rfl rfl (Nat.le_of_ble_eq_true rfl) ⟨by decide, by decide⟩ (k_X6_isBit l D B _ _ _) (fun r21 T21 M21 hp21 => ?_)
    obtain ⟨e1, e2, e3⟩ := hp21
    replace e1 := e1.symm; replace e2 := e2.symm; replace e3 := e3.symm; subst e1; subst e2; subst e3
    refine g_if_neB F 29 (dk dtX6_duel_0 12 rfl) (by decide) (fun _ => ?_) (fun c => absurd (inR_nI (by omega)) c)
    refine g_aload_n F 0 (dk dtX6_duel_0 15 rfl) rfl ?_
    refine g_get F fa_X6_40 (dk dtX6_duel_0 16 rfl) (by decide) (cc0 D B _ _) rfl ?_
    refine g_aload_n F 0 (dk dtX6_duel_0 17 rfl) rfl ?_
    refine g_get F fa_X6_19 (dk dtX6_duel_0 18 rfl) (by decide) (cc0 D B _ _) rfl ?_
    refine g_aload_n F 0 (dk dtX6_duel_0 19 rfl) rfl ?_
    refine g_get F fa_X6_26 (dk dtX6_duel_0 20 rfl) (by decide) (cc0 D B _ _) rfl ?_
    refine g_iload_n F 1 (dk dtX6_duel_0 21 rfl) rfl ?_
    refine g_iload_n F 2 (dk dtX6_duel_0 22 rfl) rfl ?_
    refine g_callVi F (As := [.ref (B + 10), .ref (B + 12), .int (nI p), .int (nI 1)]) (st := []) cv_X6_161 (dk dtX6_duel_0 23 rfl) (by decide) (cc69 D B _ _) rfl rfl (Nat.le_of_ble_eq_true rfl) ⟨by decide, by decide⟩ (k_X0_opening_1 l D B _ _ row nv hR hW hM K P hK hP hK1 hK4 hP5 hv X hX hX1 hX4 p hp) (fun r43 T43 M43 hp43 => ?_)
    obtain ⟨hq43, hT43, hS43⟩ := hp43
    replace hT43 := hT43.symm; subst hT43
    refine g_istore F [(4, .int r43), (0, .ref (B + 0)), (1, .int (nI p)), (2, .int (nI 1)), (3, .int (nI 1))] (dk dtX6_duel_0 24 rfl) (by decide) rfl ?_
    refine g_iload_n F 4 (dk dtX6_duel_0 25 rfl) rfl ?_
    refine g_iconst F (nI 1) (dk dtX6_duel_0 26 rfl) (by decide) ?_
    refine g_icmp_neN F 56 (dk dtX6_duel_0 27 rfl) (by decide) (by decide) (by decide) (fun c => absurd c (by decide)) (fun _ => ?_)
    refine g_iload F 0 (dk dtX6_duel_0 28 rfl) rfl ?_
    refine g_iret (F := F) hQ (dk dtX6_duel_0 29 rfl) ?_
    exact ⟨hq43, rfl, hS43⟩
set_option maxRecDepth 100000 in
set_option maxHeartbeats 4000000 in
theorem k_X6_duel_1_0 (l : Launch) (D : DX) (B : Nat) (T : Int64) (M : Mem) (P : Nat) (hP : M 10 2 = nI P) (hP5 : P ≤ 5) (K : Nat) (hK : M 10 0 = nI K) (hK1 : 1 ≤ K) (hK4 : K ≤ 4) (X : Nat) (hX : M 10 1 = nI X) (hX1 : 1 ≤ X) (hX4 : X ≤ 4) (row nv : Nat → Int32) (hR : NR M 12 row) (hW : WR row) (hM : MW row) (hv : ∀ p, p < P → M 11 p = nv p) (p : Nat) (hp : p < P)  : Ci l D B 108 (celC D B) yX6_duel cX6_duel 6 (some .int) 10 [.ref (B + 0), .int (nI p), .int (nI 1), .int (nI 0)] T M (fun rz T1 M1 => rz = bI (fB nv (nI K) K X P p 1 true row = true) ∧ T1 = T ∧ Sc M M1) := by
  refine g_entryi (L := [(0, .ref (B + 0)), (1, .int (nI p)), (2, .int (nI 1)), (3, .int (nI 0))]) (by decide) (Nat.le_of_ble_eq_true rfl) rfl ?_
  intro zp ze zs zm zb zt zc Q F hQ
  refine g_aload_n F 0 (dk dtX6_duel_0 0 rfl) rfl ?_
  refine g_get F fa_X6_19 (dk dtX6_duel_0 1 rfl) (by decide) (cc0 D B _ _) rfl ?_
  refine g_iload_n F 1 (dk dtX6_duel_0 2 rfl) rfl ?_
  refine g_callVi F (As := [.int (nI p)]) (st := []) cv_X6_94 (dk dtX6_duel_0 3 rfl) (by decide) (cc10 D B _ _) rfl rfl (Nat.le_of_ble_eq_true rfl) ⟨by decide, by decide⟩ (k_X5_hasPersonR l D B _ _ _ P hP) (fun r5 T5 M5 hp5 => ?_)
  obtain ⟨e1, e2, e3⟩ := hp5
  replace e1 := e1.symm; replace e2 := e2.symm; replace e3 := e3.symm; subst e1; subst e2; subst e3
  refine g_if_eqB F 27 (dk dtX6_duel_0 4 rfl) (by decide) (fun c => absurd (inR_nI (by omega)) c) (fun _ => ?_)
  refine g_iload_n F 2 (dk dtX6_duel_0 5 rfl) rfl ?_
  refine g_if_lt F 27 (dk dtX6_duel_0 6 rfl) (by decide) (fun c12 => ?_) (fun c12 => ?_)
  · -- taken at 12
    exact absurd c12 (by decide)
  · -- not taken at 12
    refine g_iload_n F 2 (dk dtX6_duel_0 7 rfl) rfl ?_
    refine g_iconst F (nI 3) (dk dtX6_duel_0 8 rfl) (by decide) ?_
    refine g_icmp_gtN F 27 (dk dtX6_duel_0 9 rfl) (by decide) (by decide) (by decide) (fun c => absurd c (by decide)) (fun _ => ?_)
    refine g_iload_n F 3 (dk dtX6_duel_0 10 rfl) rfl ?_
    refine g_callSi F (As := [.int (nI 0)]) (st := []) cs_X6_158 (dk dtX6_duel_0 11 rfl) rfl rfl (Nat.le_of_ble_eq_true rfl) ⟨by decide, by decide⟩ (k_X6_isBit l D B _ _ _) (fun r21 T21 M21 hp21 => ?_)
    obtain ⟨e1, e2, e3⟩ := hp21
    replace e1 := e1.symm; replace e2 := e2.symm; replace e3 := e3.symm; subst e1; subst e2; subst e3
    refine g_if_neB F 29 (dk dtX6_duel_0 12 rfl) (by decide) (fun _ => ?_) (fun c => absurd (inR_nI (by omega)) c)
    refine g_aload_n F 0 (dk dtX6_duel_0 15 rfl) rfl ?_
    refine g_get F fa_X6_40 (dk dtX6_duel_0 16 rfl) (by decide) (cc0 D B _ _) rfl ?_
    refine g_aload_n F 0 (dk dtX6_duel_0 17 rfl) rfl ?_
    refine g_get F fa_X6_19 (dk dtX6_duel_0 18 rfl) (by decide) (cc0 D B _ _) rfl ?_
    refine g_aload_n F 0 (dk dtX6_duel_0 19 rfl) rfl ?_
    refine g_get F fa_X6_26 (dk dtX6_duel_0 20 rfl) (by decide) (cc0 D B _ _) rfl ?_
    refine g_iload_n F 1 (dk dtX6_duel_0 21 rfl) rfl ?_
    refine g_iload_n F 2 (dk dtX6_duel_0 22 rfl) rfl ?_
    refine g_callVi F (As := [.ref (B + 10), .ref (B + 12), .int (nI p), .int (nI 1)]) (st := []) cv_X6_161 (dk dtX6_duel_0 23 rfl) (by decide) (cc69 D B _ _) rfl rfl (Nat.le_of_ble_eq_true rfl) ⟨by decide, by decide⟩ (k_X0_opening_1 l D B _ _ row nv hR hW hM K P hK hP hK1 hK4 hP5 hv X hX hX1 hX4 p hp) (fun r43 T43 M43 hp43 => ?_)
    obtain ⟨hq43, hT43, hS43⟩ := hp43
    replace hT43 := hT43.symm; subst hT43
    rcases hq43 with ⟨k, x, hk, hx, hg, hmin, hminx, hrn⟩ | ⟨hno, hrn⟩
    · -- a case
      replace hrn := hrn.symm; subst hrn
      refine g_istore F [(4, .int (nI (10 * k + x))), (0, .ref (B + 0)), (1, .int (nI p)), (2, .int (nI 1)), (3, .int (nI 0))] (dk dtX6_duel_0 24 rfl) (by decide) rfl ?_
      refine g_iload_n F 4 (dk dtX6_duel_0 25 rfl) rfl ?_
      refine g_iconst F (nI 1) (dk dtX6_duel_0 26 rfl) (by decide) ?_
      refine g_icmp_neN F 56 (dk dtX6_duel_0 27 rfl) (by decide) (by decide) (by decide) (fun _ => ?_) (fun c => absurd c (by decide))
      refine g_iload_n F 3 (dk dtX6_duel_0 30 rfl) rfl ?_
      refine g_if_neN F 79 (dk dtX6_duel_0 31 rfl) (by decide) (by decide) (fun _ => ?_) (fun c => absurd c (by decide))
      refine g_iload F 0 (dk dtX6_duel_0 41 rfl) rfl ?_
      refine g_bipush F (-9) (dk dtX6_duel_0 42 rfl) (by decide) ?_
      refine g_icmp_eq F 90 (dk dtX6_duel_0 43 rfl) (by decide) (fun c83 => ?_) (fun c83 => ?_)
      · -- taken at 83
        exact absurd c83 (nI_ne9 (by omega))
      · -- not taken at 83
        refine g_iconst F (nI 1) (dk dtX6_duel_0 44 rfl) (by decide) ?_
        refine g_goto F 91 (dk dtX6_duel_0 45 rfl) (by decide) ?_
        refine g_istore F [(5, .int (nI 1)), (4, .int (nI (10 * k + x))), (0, .ref (B + 0)), (1, .int (nI p)), (2, .int (nI 1)), (3, .int (nI 0))] (dk dtX6_duel_0 47 rfl) (by decide) rfl ?_
        refine g_iload F 0 (dk dtX6_duel_0 48 rfl) rfl ?_
        refine g_if_eqN F 102 (dk dtX6_duel_0 49 rfl) (by decide) (by decide) (fun c => absurd c (by decide)) (fun _ => ?_)
        refine g_iconst F (nI 1) (dk dtX6_duel_0 50 rfl) (by decide) ?_
        refine g_goto F 103 (dk dtX6_duel_0 51 rfl) (by decide) ?_
        refine g_iret (F := F) hQ (dk dtX6_duel_0 53 rfl) ?_
        exact ⟨(bI_t (fB_t hk hx hg)).symm, rfl, hS43⟩
    · -- a case
      replace hrn := hrn.symm; subst hrn
      refine g_istore F [(4, .int (-9)), (0, .ref (B + 0)), (1, .int (nI p)), (2, .int (nI 1)), (3, .int (nI 0))] (dk dtX6_duel_0 24 rfl) (by decide) rfl ?_
      refine g_iload_n F 4 (dk dtX6_duel_0 25 rfl) rfl ?_
      refine g_iconst F (nI 1) (dk dtX6_duel_0 26 rfl) (by decide) ?_
      refine g_icmp_neN F 56 (dk dtX6_duel_0 27 rfl) (by decide) (by decide) (by decide) (fun _ => ?_) (fun c => absurd c (by decide))
      refine g_iload_n F 3 (dk dtX6_duel_0 30 rfl) rfl ?_
      refine g_if_neN F 79 (dk dtX6_duel_0 31 rfl) (by decide) (by decide) (fun _ => ?_) (fun c => absurd c (by decide))
      refine g_iload F 0 (dk dtX6_duel_0 41 rfl) rfl ?_
      refine g_bipush F (-9) (dk dtX6_duel_0 42 rfl) (by decide) ?_
      refine g_icmp_eq F 90 (dk dtX6_duel_0 43 rfl) (by decide) (fun c83 => ?_) (fun c83 => ?_)
      · -- taken at 83
        refine g_iconst F (nI 0) (dk dtX6_duel_0 46 rfl) (by decide) ?_
        refine g_istore F [(5, .int (nI 0)), (4, .int (-9)), (0, .ref (B + 0)), (1, .int (nI p)), (2, .int (nI 1)), (3, .int (nI 0))] (dk dtX6_duel_0 47 rfl) (by decide) rfl ?_
        refine g_iload F 0 (dk dtX6_duel_0 48 rfl) rfl ?_
        refine g_if_eqN F 102 (dk dtX6_duel_0 49 rfl) (by decide) (by decide) (fun _ => ?_) (fun c => absurd c (by decide))
        refine g_iconst F (nI 0) (dk dtX6_duel_0 52 rfl) (by decide) ?_
        refine g_iret (F := F) hQ (dk dtX6_duel_0 53 rfl) ?_
        exact ⟨(bI_f (fB_tn hno)).symm, rfl, hS43⟩
      · -- not taken at 83
        exact absurd rfl c83
set_option maxRecDepth 100000 in
set_option maxHeartbeats 4000000 in
theorem k_X6_duel_2_1 (l : Launch) (D : DX) (B : Nat) (T : Int64) (M : Mem) (P : Nat) (hP : M 10 2 = nI P) (hP5 : P ≤ 5) (K : Nat) (hK : M 10 0 = nI K) (hK1 : 1 ≤ K) (hK4 : K ≤ 4) (X : Nat) (hX : M 10 1 = nI X) (hX1 : 1 ≤ X) (hX4 : X ≤ 4) (row nv : Nat → Int32) (hR : NR M 12 row) (hW : WR row) (hM : MW row) (hv : ∀ p, p < P → M 11 p = nv p) (p : Nat) (hp : p < P)  : Ci l D B 108 (celC D B) yX6_duel cX6_duel 6 (some .int) 10 [.ref (B + 0), .int (nI p), .int (nI 2), .int (nI 1)] T M (fun rz T1 M1 => opQ K X (fun k x => fB nv (nI K) K X P p 1 false (evR nv (nI K) row k (nI x) P)) rz ∧ T1 = T ∧ Sc M M1) := by
  refine g_entryi (L := [(0, .ref (B + 0)), (1, .int (nI p)), (2, .int (nI 2)), (3, .int (nI 1))]) (by decide) (Nat.le_of_ble_eq_true rfl) rfl ?_
  intro zp ze zs zm zb zt zc Q F hQ
  refine g_aload_n F 0 (dk dtX6_duel_0 0 rfl) rfl ?_
  refine g_get F fa_X6_19 (dk dtX6_duel_0 1 rfl) (by decide) (cc0 D B _ _) rfl ?_
  refine g_iload_n F 1 (dk dtX6_duel_0 2 rfl) rfl ?_
  refine g_callVi F (As := [.int (nI p)]) (st := []) cv_X6_94 (dk dtX6_duel_0 3 rfl) (by decide) (cc10 D B _ _) rfl rfl (Nat.le_of_ble_eq_true rfl) ⟨by decide, by decide⟩ (k_X5_hasPersonR l D B _ _ _ P hP) (fun r5 T5 M5 hp5 => ?_)
  obtain ⟨e1, e2, e3⟩ := hp5
  replace e1 := e1.symm; replace e2 := e2.symm; replace e3 := e3.symm; subst e1; subst e2; subst e3
  refine g_if_eqB F 27 (dk dtX6_duel_0 4 rfl) (by decide) (fun c => absurd (inR_nI (by omega)) c) (fun _ => ?_)
  refine g_iload_n F 2 (dk dtX6_duel_0 5 rfl) rfl ?_
  refine g_if_lt F 27 (dk dtX6_duel_0 6 rfl) (by decide) (fun c12 => ?_) (fun c12 => ?_)
  · -- taken at 12
    exact absurd c12 (by decide)
  · -- not taken at 12
    refine g_iload_n F 2 (dk dtX6_duel_0 7 rfl) rfl ?_
    refine g_iconst F (nI 3) (dk dtX6_duel_0 8 rfl) (by decide) ?_
    refine g_icmp_gtN F 27 (dk dtX6_duel_0 9 rfl) (by decide) (by decide) (by decide) (fun c => absurd c (by decide)) (fun _ => ?_)
    refine g_iload_n F 3 (dk dtX6_duel_0 10 rfl) rfl ?_
    refine g_callSi F (As := [.int (nI 1)]) (st := []) cs_X6_158 (dk dtX6_duel_0 11 rfl) rfl rfl (Nat.le_of_ble_eq_true rfl) ⟨by decide, by decide⟩ (k_X6_isBit l D B _ _ _) (fun r21 T21 M21 hp21 => ?_)
    obtain ⟨e1, e2, e3⟩ := hp21
    replace e1 := e1.symm; replace e2 := e2.symm; replace e3 := e3.symm; subst e1; subst e2; subst e3
    refine g_if_neB F 29 (dk dtX6_duel_0 12 rfl) (by decide) (fun _ => ?_) (fun c => absurd (inR_nI (by omega)) c)
    refine g_aload_n F 0 (dk dtX6_duel_0 15 rfl) rfl ?_
    refine g_get F fa_X6_40 (dk dtX6_duel_0 16 rfl) (by decide) (cc0 D B _ _) rfl ?_
    refine g_aload_n F 0 (dk dtX6_duel_0 17 rfl) rfl ?_
    refine g_get F fa_X6_19 (dk dtX6_duel_0 18 rfl) (by decide) (cc0 D B _ _) rfl ?_
    refine g_aload_n F 0 (dk dtX6_duel_0 19 rfl) rfl ?_
    refine g_get F fa_X6_26 (dk dtX6_duel_0 20 rfl) (by decide) (cc0 D B _ _) rfl ?_
    refine g_iload_n F 1 (dk dtX6_duel_0 21 rfl) rfl ?_
    refine g_iload_n F 2 (dk dtX6_duel_0 22 rfl) rfl ?_
    refine g_callVi F (As := [.ref (B + 10), .ref (B + 12), .int (nI p), .int (nI 2)]) (st := []) cv_X6_161 (dk dtX6_duel_0 23 rfl) (by decide) (cc69 D B _ _) rfl rfl (Nat.le_of_ble_eq_true rfl) ⟨by decide, by decide⟩ (k_X0_opening_2 l D B _ _ row nv hR hW hM K P hK hP hK1 hK4 hP5 hv X hX hX1 hX4 p hp) (fun r43 T43 M43 hp43 => ?_)
    obtain ⟨hq43, hT43, hS43⟩ := hp43
    replace hT43 := hT43.symm; subst hT43
    refine g_istore F [(4, .int r43), (0, .ref (B + 0)), (1, .int (nI p)), (2, .int (nI 2)), (3, .int (nI 1))] (dk dtX6_duel_0 24 rfl) (by decide) rfl ?_
    refine g_iload_n F 4 (dk dtX6_duel_0 25 rfl) rfl ?_
    refine g_iconst F (nI 1) (dk dtX6_duel_0 26 rfl) (by decide) ?_
    refine g_icmp_neN F 56 (dk dtX6_duel_0 27 rfl) (by decide) (by decide) (by decide) (fun c => absurd c (by decide)) (fun _ => ?_)
    refine g_iload F 0 (dk dtX6_duel_0 28 rfl) rfl ?_
    refine g_iret (F := F) hQ (dk dtX6_duel_0 29 rfl) ?_
    exact ⟨hq43, rfl, hS43⟩
set_option maxRecDepth 100000 in
set_option maxHeartbeats 4000000 in
theorem k_X6_duel_2_0 (l : Launch) (D : DX) (B : Nat) (T : Int64) (M : Mem) (P : Nat) (hP : M 10 2 = nI P) (hP5 : P ≤ 5) (K : Nat) (hK : M 10 0 = nI K) (hK1 : 1 ≤ K) (hK4 : K ≤ 4) (X : Nat) (hX : M 10 1 = nI X) (hX1 : 1 ≤ X) (hX4 : X ≤ 4) (row nv : Nat → Int32) (hR : NR M 12 row) (hW : WR row) (hM : MW row) (hv : ∀ p, p < P → M 11 p = nv p) (p : Nat) (hp : p < P)  : Ci l D B 108 (celC D B) yX6_duel cX6_duel 6 (some .int) 10 [.ref (B + 0), .int (nI p), .int (nI 2), .int (nI 0)] T M (fun rz T1 M1 => rz = bI (fB nv (nI K) K X P p 2 true row = true) ∧ T1 = T ∧ Sc M M1) := by
  refine g_entryi (L := [(0, .ref (B + 0)), (1, .int (nI p)), (2, .int (nI 2)), (3, .int (nI 0))]) (by decide) (Nat.le_of_ble_eq_true rfl) rfl ?_
  intro zp ze zs zm zb zt zc Q F hQ
  refine g_aload_n F 0 (dk dtX6_duel_0 0 rfl) rfl ?_
  refine g_get F fa_X6_19 (dk dtX6_duel_0 1 rfl) (by decide) (cc0 D B _ _) rfl ?_
  refine g_iload_n F 1 (dk dtX6_duel_0 2 rfl) rfl ?_
  refine g_callVi F (As := [.int (nI p)]) (st := []) cv_X6_94 (dk dtX6_duel_0 3 rfl) (by decide) (cc10 D B _ _) rfl rfl (Nat.le_of_ble_eq_true rfl) ⟨by decide, by decide⟩ (k_X5_hasPersonR l D B _ _ _ P hP) (fun r5 T5 M5 hp5 => ?_)
  obtain ⟨e1, e2, e3⟩ := hp5
  replace e1 := e1.symm; replace e2 := e2.symm; replace e3 := e3.symm; subst e1; subst e2; subst e3
  refine g_if_eqB F 27 (dk dtX6_duel_0 4 rfl) (by decide) (fun c => absurd (inR_nI (by omega)) c) (fun _ => ?_)
  refine g_iload_n F 2 (dk dtX6_duel_0 5 rfl) rfl ?_
  refine g_if_lt F 27 (dk dtX6_duel_0 6 rfl) (by decide) (fun c12 => ?_) (fun c12 => ?_)
  · -- taken at 12
    exact absurd c12 (by decide)
  · -- not taken at 12
    refine g_iload_n F 2 (dk dtX6_duel_0 7 rfl) rfl ?_
    refine g_iconst F (nI 3) (dk dtX6_duel_0 8 rfl) (by decide) ?_
    refine g_icmp_gtN F 27 (dk dtX6_duel_0 9 rfl) (by decide) (by decide) (by decide) (fun c => absurd c (by decide)) (fun _ => ?_)
    refine g_iload_n F 3 (dk dtX6_duel_0 10 rfl) rfl ?_
    refine g_callSi F (As := [.int (nI 0)]) (st := []) cs_X6_158 (dk dtX6_duel_0 11 rfl) rfl rfl (Nat.le_of_ble_eq_true rfl) ⟨by decide, by decide⟩ (k_X6_isBit l D B _ _ _) (fun r21 T21 M21 hp21 => ?_)
    obtain ⟨e1, e2, e3⟩ := hp21
    replace e1 := e1.symm; replace e2 := e2.symm; replace e3 := e3.symm; subst e1; subst e2; subst e3
    refine g_if_neB F 29 (dk dtX6_duel_0 12 rfl) (by decide) (fun _ => ?_) (fun c => absurd (inR_nI (by omega)) c)
    refine g_aload_n F 0 (dk dtX6_duel_0 15 rfl) rfl ?_
    refine g_get F fa_X6_40 (dk dtX6_duel_0 16 rfl) (by decide) (cc0 D B _ _) rfl ?_
    refine g_aload_n F 0 (dk dtX6_duel_0 17 rfl) rfl ?_
    refine g_get F fa_X6_19 (dk dtX6_duel_0 18 rfl) (by decide) (cc0 D B _ _) rfl ?_
    refine g_aload_n F 0 (dk dtX6_duel_0 19 rfl) rfl ?_
    refine g_get F fa_X6_26 (dk dtX6_duel_0 20 rfl) (by decide) (cc0 D B _ _) rfl ?_
    refine g_iload_n F 1 (dk dtX6_duel_0 21 rfl) rfl ?_
    refine g_iload_n F 2 (dk dtX6_duel_0 22 rfl) rfl ?_
    refine g_callVi F (As := [.ref (B + 10), .ref (B + 12), .int (nI p), .int (nI 2)]) (st := []) cv_X6_161 (dk dtX6_duel_0 23 rfl) (by decide) (cc69 D B _ _) rfl rfl (Nat.le_of_ble_eq_true rfl) ⟨by decide, by decide⟩ (k_X0_opening_2 l D B _ _ row nv hR hW hM K P hK hP hK1 hK4 hP5 hv X hX hX1 hX4 p hp) (fun r43 T43 M43 hp43 => ?_)
    obtain ⟨hq43, hT43, hS43⟩ := hp43
    replace hT43 := hT43.symm; subst hT43
    rcases hq43 with ⟨k, x, hk, hx, hg, hmin, hminx, hrn⟩ | ⟨hno, hrn⟩
    · -- a case
      replace hrn := hrn.symm; subst hrn
      refine g_istore F [(4, .int (nI (10 * k + x))), (0, .ref (B + 0)), (1, .int (nI p)), (2, .int (nI 2)), (3, .int (nI 0))] (dk dtX6_duel_0 24 rfl) (by decide) rfl ?_
      refine g_iload_n F 4 (dk dtX6_duel_0 25 rfl) rfl ?_
      refine g_iconst F (nI 1) (dk dtX6_duel_0 26 rfl) (by decide) ?_
      refine g_icmp_neN F 56 (dk dtX6_duel_0 27 rfl) (by decide) (by decide) (by decide) (fun _ => ?_) (fun c => absurd c (by decide))
      refine g_iload_n F 3 (dk dtX6_duel_0 30 rfl) rfl ?_
      refine g_if_neN F 79 (dk dtX6_duel_0 31 rfl) (by decide) (by decide) (fun _ => ?_) (fun c => absurd c (by decide))
      refine g_iload F 0 (dk dtX6_duel_0 41 rfl) rfl ?_
      refine g_bipush F (-9) (dk dtX6_duel_0 42 rfl) (by decide) ?_
      refine g_icmp_eq F 90 (dk dtX6_duel_0 43 rfl) (by decide) (fun c83 => ?_) (fun c83 => ?_)
      · -- taken at 83
        exact absurd c83 (nI_ne9 (by omega))
      · -- not taken at 83
        refine g_iconst F (nI 1) (dk dtX6_duel_0 44 rfl) (by decide) ?_
        refine g_goto F 91 (dk dtX6_duel_0 45 rfl) (by decide) ?_
        refine g_istore F [(5, .int (nI 1)), (4, .int (nI (10 * k + x))), (0, .ref (B + 0)), (1, .int (nI p)), (2, .int (nI 2)), (3, .int (nI 0))] (dk dtX6_duel_0 47 rfl) (by decide) rfl ?_
        refine g_iload F 0 (dk dtX6_duel_0 48 rfl) rfl ?_
        refine g_if_eqN F 102 (dk dtX6_duel_0 49 rfl) (by decide) (by decide) (fun c => absurd c (by decide)) (fun _ => ?_)
        refine g_iconst F (nI 1) (dk dtX6_duel_0 50 rfl) (by decide) ?_
        refine g_goto F 103 (dk dtX6_duel_0 51 rfl) (by decide) ?_
        refine g_iret (F := F) hQ (dk dtX6_duel_0 53 rfl) ?_
        exact ⟨(bI_t (fB_t hk hx hg)).symm, rfl, hS43⟩
    · -- a case
      replace hrn := hrn.symm; subst hrn
      refine g_istore F [(4, .int (-9)), (0, .ref (B + 0)), (1, .int (nI p)), (2, .int (nI 2)), (3, .int (nI 0))] (dk dtX6_duel_0 24 rfl) (by decide) rfl ?_
      refine g_iload_n F 4 (dk dtX6_duel_0 25 rfl) rfl ?_
      refine g_iconst F (nI 1) (dk dtX6_duel_0 26 rfl) (by decide) ?_
      refine g_icmp_neN F 56 (dk dtX6_duel_0 27 rfl) (by decide) (by decide) (by decide) (fun _ => ?_) (fun c => absurd c (by decide))
      refine g_iload_n F 3 (dk dtX6_duel_0 30 rfl) rfl ?_
      refine g_if_neN F 79 (dk dtX6_duel_0 31 rfl) (by decide) (by decide) (fun _ => ?_) (fun c => absurd c (by decide))
      refine g_iload F 0 (dk dtX6_duel_0 41 rfl) rfl ?_
      refine g_bipush F (-9) (dk dtX6_duel_0 42 rfl) (by decide) ?_
      refine g_icmp_eq F 90 (dk dtX6_duel_0 43 rfl) (by decide) (fun c83 => ?_) (fun c83 => ?_)
      · -- taken at 83
        refine g_iconst F (nI 0) (dk dtX6_duel_0 46 rfl) (by decide) ?_
        refine g_istore F [(5, .int (nI 0)), (4, .int (-9)), (0, .ref (B + 0)), (1, .int (nI p)), (2, .int (nI 2)), (3, .int (nI 0))] (dk dtX6_duel_0 47 rfl) (by decide) rfl ?_
        refine g_iload F 0 (dk dtX6_duel_0 48 rfl) rfl ?_
        refine g_if_eqN F 102 (dk dtX6_duel_0 49 rfl) (by decide) (by decide) (fun _ => ?_) (fun c => absurd c (by decide))
        refine g_iconst F (nI 0) (dk dtX6_duel_0 52 rfl) (by decide) ?_
        refine g_iret (F := F) hQ (dk dtX6_duel_0 53 rfl) ?_
        exact ⟨(bI_f (fB_tn hno)).symm, rfl, hS43⟩
      · -- not taken at 83
        exact absurd rfl c83
set_option maxRecDepth 100000 in
set_option maxHeartbeats 4000000 in
theorem k_X6_duel_3_1 (l : Launch) (D : DX) (B : Nat) (T : Int64) (M : Mem) (P : Nat) (hP : M 10 2 = nI P) (hP5 : P ≤ 5) (K : Nat) (hK : M 10 0 = nI K) (hK1 : 1 ≤ K) (hK4 : K ≤ 4) (X : Nat) (hX : M 10 1 = nI X) (hX1 : 1 ≤ X) (hX4 : X ≤ 4) (row nv : Nat → Int32) (hR : NR M 12 row) (hW : WR row) (hM : MW row) (hv : ∀ p, p < P → M 11 p = nv p) (p : Nat) (hp : p < P)  : Ci l D B 108 (celC D B) yX6_duel cX6_duel 6 (some .int) 10 [.ref (B + 0), .int (nI p), .int (nI 3), .int (nI 1)] T M (fun rz T1 M1 => opQ K X (fun k x => fB nv (nI K) K X P p 2 false (evR nv (nI K) row k (nI x) P)) rz ∧ T1 = T ∧ Sc M M1) := by
  refine g_entryi (L := [(0, .ref (B + 0)), (1, .int (nI p)), (2, .int (nI 3)), (3, .int (nI 1))]) (by decide) (Nat.le_of_ble_eq_true rfl) rfl ?_
  intro zp ze zs zm zb zt zc Q F hQ
  refine g_aload_n F 0 (dk dtX6_duel_0 0 rfl) rfl ?_
  refine g_get F fa_X6_19 (dk dtX6_duel_0 1 rfl) (by decide) (cc0 D B _ _) rfl ?_
  refine g_iload_n F 1 (dk dtX6_duel_0 2 rfl) rfl ?_
  refine g_callVi F (As := [.int (nI p)]) (st := []) cv_X6_94 (dk dtX6_duel_0 3 rfl) (by decide) (cc10 D B _ _) rfl rfl (Nat.le_of_ble_eq_true rfl) ⟨by decide, by decide⟩ (k_X5_hasPersonR l D B _ _ _ P hP) (fun r5 T5 M5 hp5 => ?_)
  obtain ⟨e1, e2, e3⟩ := hp5
  replace e1 := e1.symm; replace e2 := e2.symm; replace e3 := e3.symm; subst e1; subst e2; subst e3
  refine g_if_eqB F 27 (dk dtX6_duel_0 4 rfl) (by decide) (fun c => absurd (inR_nI (by omega)) c) (fun _ => ?_)
  refine g_iload_n F 2 (dk dtX6_duel_0 5 rfl) rfl ?_
  refine g_if_lt F 27 (dk dtX6_duel_0 6 rfl) (by decide) (fun c12 => ?_) (fun c12 => ?_)
  · -- taken at 12
    exact absurd c12 (by decide)
  · -- not taken at 12
    refine g_iload_n F 2 (dk dtX6_duel_0 7 rfl) rfl ?_
    refine g_iconst F (nI 3) (dk dtX6_duel_0 8 rfl) (by decide) ?_
    refine g_icmp_gtN F 27 (dk dtX6_duel_0 9 rfl) (by decide) (by decide) (by decide) (fun c => absurd c (by decide)) (fun _ => ?_)
    refine g_iload_n F 3 (dk dtX6_duel_0 10 rfl) rfl ?_
    refine g_callSi F (As := [.int (nI 1)]) (st := []) cs_X6_158 (dk dtX6_duel_0 11 rfl) rfl rfl (Nat.le_of_ble_eq_true rfl) ⟨by decide, by decide⟩ (k_X6_isBit l D B _ _ _) (fun r21 T21 M21 hp21 => ?_)
    obtain ⟨e1, e2, e3⟩ := hp21
    replace e1 := e1.symm; replace e2 := e2.symm; replace e3 := e3.symm; subst e1; subst e2; subst e3
    refine g_if_neB F 29 (dk dtX6_duel_0 12 rfl) (by decide) (fun _ => ?_) (fun c => absurd (inR_nI (by omega)) c)
    refine g_aload_n F 0 (dk dtX6_duel_0 15 rfl) rfl ?_
    refine g_get F fa_X6_40 (dk dtX6_duel_0 16 rfl) (by decide) (cc0 D B _ _) rfl ?_
    refine g_aload_n F 0 (dk dtX6_duel_0 17 rfl) rfl ?_
    refine g_get F fa_X6_19 (dk dtX6_duel_0 18 rfl) (by decide) (cc0 D B _ _) rfl ?_
    refine g_aload_n F 0 (dk dtX6_duel_0 19 rfl) rfl ?_
    refine g_get F fa_X6_26 (dk dtX6_duel_0 20 rfl) (by decide) (cc0 D B _ _) rfl ?_
    refine g_iload_n F 1 (dk dtX6_duel_0 21 rfl) rfl ?_
    refine g_iload_n F 2 (dk dtX6_duel_0 22 rfl) rfl ?_
    refine g_callVi F (As := [.ref (B + 10), .ref (B + 12), .int (nI p), .int (nI 3)]) (st := []) cv_X6_161 (dk dtX6_duel_0 23 rfl) (by decide) (cc69 D B _ _) rfl rfl (Nat.le_of_ble_eq_true rfl) ⟨by decide, by decide⟩ (k_X0_opening_3 l D B _ _ row nv hR hW hM K P hK hP hK1 hK4 hP5 hv X hX hX1 hX4 p hp) (fun r43 T43 M43 hp43 => ?_)
    obtain ⟨hq43, hT43, hS43⟩ := hp43
    replace hT43 := hT43.symm; subst hT43
    refine g_istore F [(4, .int r43), (0, .ref (B + 0)), (1, .int (nI p)), (2, .int (nI 3)), (3, .int (nI 1))] (dk dtX6_duel_0 24 rfl) (by decide) rfl ?_
    refine g_iload_n F 4 (dk dtX6_duel_0 25 rfl) rfl ?_
    refine g_iconst F (nI 1) (dk dtX6_duel_0 26 rfl) (by decide) ?_
    refine g_icmp_neN F 56 (dk dtX6_duel_0 27 rfl) (by decide) (by decide) (by decide) (fun c => absurd c (by decide)) (fun _ => ?_)
    refine g_iload F 0 (dk dtX6_duel_0 28 rfl) rfl ?_
    refine g_iret (F := F) hQ (dk dtX6_duel_0 29 rfl) ?_
    exact ⟨hq43, rfl, hS43⟩
set_option maxRecDepth 100000 in
set_option maxHeartbeats 4000000 in
theorem k_X6_duel_3_0 (l : Launch) (D : DX) (B : Nat) (T : Int64) (M : Mem) (P : Nat) (hP : M 10 2 = nI P) (hP5 : P ≤ 5) (K : Nat) (hK : M 10 0 = nI K) (hK1 : 1 ≤ K) (hK4 : K ≤ 4) (X : Nat) (hX : M 10 1 = nI X) (hX1 : 1 ≤ X) (hX4 : X ≤ 4) (row nv : Nat → Int32) (hR : NR M 12 row) (hW : WR row) (hM : MW row) (hv : ∀ p, p < P → M 11 p = nv p) (p : Nat) (hp : p < P)  : Ci l D B 108 (celC D B) yX6_duel cX6_duel 6 (some .int) 10 [.ref (B + 0), .int (nI p), .int (nI 3), .int (nI 0)] T M (fun rz T1 M1 => rz = bI (fB nv (nI K) K X P p 3 true row = true) ∧ T1 = T ∧ Sc M M1) := by
  refine g_entryi (L := [(0, .ref (B + 0)), (1, .int (nI p)), (2, .int (nI 3)), (3, .int (nI 0))]) (by decide) (Nat.le_of_ble_eq_true rfl) rfl ?_
  intro zp ze zs zm zb zt zc Q F hQ
  refine g_aload_n F 0 (dk dtX6_duel_0 0 rfl) rfl ?_
  refine g_get F fa_X6_19 (dk dtX6_duel_0 1 rfl) (by decide) (cc0 D B _ _) rfl ?_
  refine g_iload_n F 1 (dk dtX6_duel_0 2 rfl) rfl ?_
  refine g_callVi F (As := [.int (nI p)]) (st := []) cv_X6_94 (dk dtX6_duel_0 3 rfl) (by decide) (cc10 D B _ _) rfl rfl (Nat.le_of_ble_eq_true rfl) ⟨by decide, by decide⟩ (k_X5_hasPersonR l D B _ _ _ P hP) (fun r5 T5 M5 hp5 => ?_)
  obtain ⟨e1, e2, e3⟩ := hp5
  replace e1 := e1.symm; replace e2 := e2.symm; replace e3 := e3.symm; subst e1; subst e2; subst e3
  refine g_if_eqB F 27 (dk dtX6_duel_0 4 rfl) (by decide) (fun c => absurd (inR_nI (by omega)) c) (fun _ => ?_)
  refine g_iload_n F 2 (dk dtX6_duel_0 5 rfl) rfl ?_
  refine g_if_lt F 27 (dk dtX6_duel_0 6 rfl) (by decide) (fun c12 => ?_) (fun c12 => ?_)
  · -- taken at 12
    exact absurd c12 (by decide)
  · -- not taken at 12
    refine g_iload_n F 2 (dk dtX6_duel_0 7 rfl) rfl ?_
    refine g_iconst F (nI 3) (dk dtX6_duel_0 8 rfl) (by decide) ?_
    refine g_icmp_gtN F 27 (dk dtX6_duel_0 9 rfl) (by decide) (by decide) (by decide) (fun c => absurd c (by decide)) (fun _ => ?_)
    refine g_iload_n F 3 (dk dtX6_duel_0 10 rfl) rfl ?_
    refine g_callSi F (As := [.int (nI 0)]) (st := []) cs_X6_158 (dk dtX6_duel_0 11 rfl) rfl rfl (Nat.le_of_ble_eq_true rfl) ⟨by decide, by decide⟩ (k_X6_isBit l D B _ _ _) (fun r21 T21 M21 hp21 => ?_)
    obtain ⟨e1, e2, e3⟩ := hp21
    replace e1 := e1.symm; replace e2 := e2.symm; replace e3 := e3.symm; subst e1; subst e2; subst e3
    refine g_if_neB F 29 (dk dtX6_duel_0 12 rfl) (by decide) (fun _ => ?_) (fun c => absurd (inR_nI (by omega)) c)
    refine g_aload_n F 0 (dk dtX6_duel_0 15 rfl) rfl ?_
    refine g_get F fa_X6_40 (dk dtX6_duel_0 16 rfl) (by decide) (cc0 D B _ _) rfl ?_
    refine g_aload_n F 0 (dk dtX6_duel_0 17 rfl) rfl ?_
    refine g_get F fa_X6_19 (dk dtX6_duel_0 18 rfl) (by decide) (cc0 D B _ _) rfl ?_
    refine g_aload_n F 0 (dk dtX6_duel_0 19 rfl) rfl ?_
    refine g_get F fa_X6_26 (dk dtX6_duel_0 20 rfl) (by decide) (cc0 D B _ _) rfl ?_
    refine g_iload_n F 1 (dk dtX6_duel_0 21 rfl) rfl ?_
    refine g_iload_n F 2 (dk dtX6_duel_0 22 rfl) rfl ?_
    refine g_callVi F (As := [.ref (B + 10), .ref (B + 12), .int (nI p), .int (nI 3)]) (st := []) cv_X6_161 (dk dtX6_duel_0 23 rfl) (by decide) (cc69 D B _ _) rfl rfl (Nat.le_of_ble_eq_true rfl) ⟨by decide, by decide⟩ (k_X0_opening_3 l D B _ _ row nv hR hW hM K P hK hP hK1 hK4 hP5 hv X hX hX1 hX4 p hp) (fun r43 T43 M43 hp43 => ?_)
    obtain ⟨hq43, hT43, hS43⟩ := hp43
    replace hT43 := hT43.symm; subst hT43
    rcases hq43 with ⟨k, x, hk, hx, hg, hmin, hminx, hrn⟩ | ⟨hno, hrn⟩
    · -- a case
      replace hrn := hrn.symm; subst hrn
      refine g_istore F [(4, .int (nI (10 * k + x))), (0, .ref (B + 0)), (1, .int (nI p)), (2, .int (nI 3)), (3, .int (nI 0))] (dk dtX6_duel_0 24 rfl) (by decide) rfl ?_
      refine g_iload_n F 4 (dk dtX6_duel_0 25 rfl) rfl ?_
      refine g_iconst F (nI 1) (dk dtX6_duel_0 26 rfl) (by decide) ?_
      refine g_icmp_neN F 56 (dk dtX6_duel_0 27 rfl) (by decide) (by decide) (by decide) (fun _ => ?_) (fun c => absurd c (by decide))
      refine g_iload_n F 3 (dk dtX6_duel_0 30 rfl) rfl ?_
      refine g_if_neN F 79 (dk dtX6_duel_0 31 rfl) (by decide) (by decide) (fun _ => ?_) (fun c => absurd c (by decide))
      refine g_iload F 0 (dk dtX6_duel_0 41 rfl) rfl ?_
      refine g_bipush F (-9) (dk dtX6_duel_0 42 rfl) (by decide) ?_
      refine g_icmp_eq F 90 (dk dtX6_duel_0 43 rfl) (by decide) (fun c83 => ?_) (fun c83 => ?_)
      · -- taken at 83
        exact absurd c83 (nI_ne9 (by omega))
      · -- not taken at 83
        refine g_iconst F (nI 1) (dk dtX6_duel_0 44 rfl) (by decide) ?_
        refine g_goto F 91 (dk dtX6_duel_0 45 rfl) (by decide) ?_
        refine g_istore F [(5, .int (nI 1)), (4, .int (nI (10 * k + x))), (0, .ref (B + 0)), (1, .int (nI p)), (2, .int (nI 3)), (3, .int (nI 0))] (dk dtX6_duel_0 47 rfl) (by decide) rfl ?_
        refine g_iload F 0 (dk dtX6_duel_0 48 rfl) rfl ?_
        refine g_if_eqN F 102 (dk dtX6_duel_0 49 rfl) (by decide) (by decide) (fun c => absurd c (by decide)) (fun _ => ?_)
        refine g_iconst F (nI 1) (dk dtX6_duel_0 50 rfl) (by decide) ?_
        refine g_goto F 103 (dk dtX6_duel_0 51 rfl) (by decide) ?_
        refine g_iret (F := F) hQ (dk dtX6_duel_0 53 rfl) ?_
        exact ⟨(bI_t (fB_t hk hx hg)).symm, rfl, hS43⟩
    · -- a case
      replace hrn := hrn.symm; subst hrn
      refine g_istore F [(4, .int (-9)), (0, .ref (B + 0)), (1, .int (nI p)), (2, .int (nI 3)), (3, .int (nI 0))] (dk dtX6_duel_0 24 rfl) (by decide) rfl ?_
      refine g_iload_n F 4 (dk dtX6_duel_0 25 rfl) rfl ?_
      refine g_iconst F (nI 1) (dk dtX6_duel_0 26 rfl) (by decide) ?_
      refine g_icmp_neN F 56 (dk dtX6_duel_0 27 rfl) (by decide) (by decide) (by decide) (fun _ => ?_) (fun c => absurd c (by decide))
      refine g_iload_n F 3 (dk dtX6_duel_0 30 rfl) rfl ?_
      refine g_if_neN F 79 (dk dtX6_duel_0 31 rfl) (by decide) (by decide) (fun _ => ?_) (fun c => absurd c (by decide))
      refine g_iload F 0 (dk dtX6_duel_0 41 rfl) rfl ?_
      refine g_bipush F (-9) (dk dtX6_duel_0 42 rfl) (by decide) ?_
      refine g_icmp_eq F 90 (dk dtX6_duel_0 43 rfl) (by decide) (fun c83 => ?_) (fun c83 => ?_)
      · -- taken at 83
        refine g_iconst F (nI 0) (dk dtX6_duel_0 46 rfl) (by decide) ?_
        refine g_istore F [(5, .int (nI 0)), (4, .int (-9)), (0, .ref (B + 0)), (1, .int (nI p)), (2, .int (nI 3)), (3, .int (nI 0))] (dk dtX6_duel_0 47 rfl) (by decide) rfl ?_
        refine g_iload F 0 (dk dtX6_duel_0 48 rfl) rfl ?_
        refine g_if_eqN F 102 (dk dtX6_duel_0 49 rfl) (by decide) (by decide) (fun _ => ?_) (fun c => absurd c (by decide))
        refine g_iconst F (nI 0) (dk dtX6_duel_0 52 rfl) (by decide) ?_
        refine g_iret (F := F) hQ (dk dtX6_duel_0 53 rfl) ?_
        exact ⟨(bI_f (fB_tn hno)).symm, rfl, hS43⟩
      · -- not taken at 83
        exact absurd rfl c83
set_option maxRecDepth 100000 in
set_option maxHeartbeats 4000000 in
theorem k_X6_duel_bad (l : Launch) (D : DX) (B : Nat) (T : Int64) (M : Mem) (P : Nat) (hP : M 10 2 = nI P) (hP5 : P ≤ 5) (p n w : Int32) (hb : ¬ (inR p P ∧ inR n 4 ∧ inR w 2)) : Ci l D B 108 (celC D B) yX6_duel cX6_duel 6 (some .int) 10 [.ref (B + 0), .int p, .int n, .int w] T M (fun rz T1 M1 => rz = (-1) ∧ T1 = T ∧ M1 = M) := by
  refine g_entryi (L := [(0, .ref (B + 0)), (1, .int p), (2, .int n), (3, .int w)]) (by decide) (Nat.le_of_ble_eq_true rfl) rfl ?_
  intro zp ze zs zm zb zt zc Q F hQ
  refine g_aload_n F 0 (dk dtX6_duel_0 0 rfl) rfl ?_
  refine g_get F fa_X6_19 (dk dtX6_duel_0 1 rfl) (by decide) (cc0 D B _ _) rfl ?_
  refine g_iload_n F 1 (dk dtX6_duel_0 2 rfl) rfl ?_
  refine g_callVi F (As := [.int p]) (st := []) cv_X6_94 (dk dtX6_duel_0 3 rfl) (by decide) (cc10 D B _ _) rfl rfl (Nat.le_of_ble_eq_true rfl) ⟨by decide, by decide⟩ (k_X5_hasPersonR l D B _ _ _ P hP) (fun r5 T5 M5 hp5 => ?_)
  obtain ⟨e1, e2, e3⟩ := hp5
  replace e1 := e1.symm; replace e2 := e2.symm; replace e3 := e3.symm; subst e1; subst e2; subst e3
  refine g_if_eqB F 27 (dk dtX6_duel_0 4 rfl) (by decide) (fun c8 => ?_) (fun c8 => ?_)
  · -- taken at 8
    refine g_iconst F (-1) (dk dtX6_duel_0 13 rfl) (by decide) ?_
    refine g_iret (F := F) hQ (dk dtX6_duel_0 14 rfl) ?_
    exact ⟨rfl, rfl, rfl⟩
  · -- not taken at 8
    refine g_iload_n F 2 (dk dtX6_duel_0 5 rfl) rfl ?_
    refine g_if_lt F 27 (dk dtX6_duel_0 6 rfl) (by decide) (fun c12 => ?_) (fun c12 => ?_)
    · -- taken at 12
      refine g_iconst F (-1) (dk dtX6_duel_0 13 rfl) (by decide) ?_
      refine g_iret (F := F) hQ (dk dtX6_duel_0 14 rfl) ?_
      exact ⟨rfl, rfl, rfl⟩
    · -- not taken at 12
      refine g_iload_n F 2 (dk dtX6_duel_0 7 rfl) rfl ?_
      refine g_iconst F (nI 3) (dk dtX6_duel_0 8 rfl) (by decide) ?_
      refine g_icmp_gt F 27 (dk dtX6_duel_0 9 rfl) (by decide) (fun c17 => ?_) (fun c17 => ?_)
      · -- taken at 17
        refine g_iconst F (-1) (dk dtX6_duel_0 13 rfl) (by decide) ?_
        refine g_iret (F := F) hQ (dk dtX6_duel_0 14 rfl) ?_
        exact ⟨rfl, rfl, rfl⟩
      · -- not taken at 17
        refine g_iload_n F 3 (dk dtX6_duel_0 10 rfl) rfl ?_
        refine g_callSi F (As := [.int w]) (st := []) cs_X6_158 (dk dtX6_duel_0 11 rfl) rfl rfl (Nat.le_of_ble_eq_true rfl) ⟨by decide, by decide⟩ (k_X6_isBit l D B _ _ _) (fun r21 T21 M21 hp21 => ?_)
        obtain ⟨e1, e2, e3⟩ := hp21
        replace e1 := e1.symm; replace e2 := e2.symm; replace e3 := e3.symm; subst e1; subst e2; subst e3
        refine g_if_neB F 29 (dk dtX6_duel_0 12 rfl) (by decide) (fun c24 => ?_) (fun c24 => ?_)
        · -- taken at 24
          exact absurd ⟨c8, ⟨c12, inR_dn (b := 3) (by decide) c17⟩, c24⟩ hb
        · -- not taken at 24
          refine g_iconst F (-1) (dk dtX6_duel_0 13 rfl) (by decide) ?_
          refine g_iret (F := F) hQ (dk dtX6_duel_0 14 rfl) ?_
          exact ⟨rfl, rfl, rfl⟩
