def anyD (f : Nat → Bool) (E : Nat) : Nat → Bool
  | 0 => false
  | d + 1 => f (E - 1 - d) || anyD f E d
def allD (f : Nat → Bool) (E : Nat) : Nat → Bool
  | 0 => true
  | d + 1 => f (E - 1 - d) && allD f E d
def VV (E : Nat) (f : Nat → Bool) : Nat → Nat → Nat → Bool
  | 0, _, row => f row
  | d + 1, k, row => if k % 2 = 0 then anyD (fun e => VV E f d (k + 1) (E * row + e)) E E else allD (fun e => VV E f d (k + 1) (E * row + e)) E E
def fsD (g : Nat → Bool) (E X : Nat) : Nat → Int32
  | 0 => -9
  | d + 1 => if g (E - 1 - d) = true then nI (saE X (E - 1 - d)) else fsD g E X d
theorem fsD_y {g : Nat → Bool} {E X d : Nat} (h : g (E - 1 - d) = true) : fsD g E X (d + 1) = nI (saE X (E - 1 - d)) := if_pos h
theorem fsD_n {g : Nat → Bool} {E X d : Nat} (h : ¬ g (E - 1 - d) = true) : fsD g E X (d + 1) = fsD g E X d := if_neg h
theorem mo_t {a b : Bool} (h : bI (a = true) ≤ bI (b = true)) : bI (b = true) = bI ((a || b) = true) := by
  cases a <;> cases b <;> first | rfl | exact absurd h (by decide)
theorem mo_f {a b : Bool} (h : ¬ bI (a = true) ≤ bI (b = true)) : bI (a = true) = bI ((a || b) = true) := by
  cases a <;> cases b <;> first | rfl | exact absurd (by decide) h
theorem le_t {a b : Bool} (h : bI (b = true) ≤ bI (a = true)) : bI (b = true) = bI ((a && b) = true) := by
  cases a <;> cases b <;> first | rfl | exact absurd h (by decide)
theorem le_f {a b : Bool} (h : ¬ bI (b = true) ≤ bI (a = true)) : bI (a = true) = bI ((a && b) = true) := by
  cases a <;> cases b <;> first | rfl | exact absurd (by decide) h
theorem m1_lt {a : Nat} (ha : a < 2 ^ 30) (h : nI a - nI 1 < 0) : a = 0 := by
  rw [Int32.lt_iff_toInt_lt, pk_sub_toInt ha (by decide), Int32.toInt_zero] at h
  omega
theorem m1_nlt2 {a : Nat} (ha : a < 2 ^ 30) (h : ¬ nI a - nI 1 < 0) : 0 < a := by
  rw [Int32.lt_iff_toInt_lt, pk_sub_toInt ha (by decide), Int32.toInt_zero] at h
  omega
theorem m1_nlt {E d : Nat} (ha : E < 2 ^ 30) (h : ¬ nI (E - d) - nI 1 < 0) : d < E := by
  have := m1_nlt2 (by omega) h
  omega
theorem m1_end {E d : Nat} (hd : d ≤ E) (ha : E < 2 ^ 30) (h : nI (E - d) - nI 1 < 0) : E = d := by
  have := m1_lt (by omega) h
  omega
theorem m1_pred {E d : Nat} (h : d < E) : nI (E - d) - nI 1 = nI (E - 1 - d) := by
  rw [show E - d = (E - 1 - d) + 1 by omega]
  exact nI_pred _
theorem dec_one (a : Nat) : nI a + Int32.ofInt (-1) = nI a - nI 1 := by
  rw [Int32.sub_eq_add_neg]
  rfl
theorem dec_lem {E d : Nat} (h : d < E) : nI (E - 1 - d) + Int32.ofInt (-1) = nI (E - (d + 1)) - nI 1 := by
  rw [dec_one, show E - 1 - d = E - (d + 1) by omega]
theorem duel_0 (M : Mem) : M = setR (setR M 6 (M 6)) 13 (M 13) := by
  rw [setR_same, setR_same]
theorem duel_1 (M : Mem) (rw1 rw2 wn : Nat → Int32) (r : Nat) (v : Int32) : up2 (setR (setR (setR M 6 rw1) 13 wn) 6 rw2) 13 r v = setR (setR M 6 rw2) 13 (upd wn r v) := by
  funext i
  by_cases h13 : i = 13
  · subst h13
    rw [up2_self, setR_ne _ _ (by decide), setR_self, setR_self]
  · rw [up2_ne _ _ h13, setR_ne _ _ h13]
    by_cases h6 : i = 6
    · subst h6
      rw [setR_self, setR_self]
    · rw [setR_ne _ _ h6, setR_ne _ _ h13, setR_ne _ _ h6, setR_ne _ _ h6]
theorem duel_ix {E k r e P1 : Nat} (hps : P1 = E ^ k * E) (hr : r < E ^ k) (he : e < E) : E * r + e < P1 := by
  rw [hps]
  have h1 : E * (r + 1) ≤ E * E ^ k := Nat.mul_le_mul_left E hr
  rw [Nat.mul_comm (E ^ k) E]
  have h2 : E * (r + 1) = E * r + E := Nat.mul_succ E r
  omega
theorem VV_even {E : Nat} {f : Nat → Bool} {k r n : Nat} (hk : k % 2 = 0) (hn : k < n) : VV E f (n - k) k r = anyD (fun e => VV E f (n - (k + 1)) (k + 1) (E * r + e)) E E := by
  rw [show n - k = (n - (k + 1)) + 1 by omega]
  simp only [VV]
  rw [if_pos hk]
theorem VV_odd {E : Nat} {f : Nat → Bool} {k r n : Nat} (hk : ¬ k % 2 = 0) (hn : k < n) : VV E f (n - k) k r = allD (fun e => VV E f (n - (k + 1)) (k + 1) (E * r + e)) E E := by
  rw [show n - k = (n - (k + 1)) + 1 by omega]
  simp only [VV]
  rw [if_neg hk]
theorem duel_FI {E X n k r : Nat} {f : Nat → Bool} {fi1 : Int32} (hfi : fi1 = if k = 0 then fsD (fun e => VV E f (n - (k + 1)) (k + 1) (E * r + e)) E X E else -9) (hn : k < n) : k = 0 → r = 0 → fi1 = if n = 0 then -9 else fsD (fun e => VV E f (n - 1) 1 e) E X E := by
  intro hk hr
  subst hk
  subst hr
  rw [hfi, if_pos rfl, if_neg (by omega)]
  congr 1
  funext e
  rw [Nat.mul_zero, Nat.zero_add e]
theorem duel_3 {E n k r : Nat} {f : Nat → Bool} {FI fi fi1 v : Int32} {wn1 : Nat → Int32} (hrE : r < E ^ k) (hE : 0 < E) (h : r ≤ E ^ k ∧ (∀ r1, r1 < r → wn1 r1 = bI (VV E f (n - k) k r1 = true)) ∧ (∀ q, E * r ≤ q → q < E ^ (k + 1) → wn1 q = bI (VV E f (n - (k + 1)) (k + 1) q = true)) ∧ (k = 0 → (r = 0 → fi = -9) ∧ (0 < r → fi = FI)) ∧ (0 < k → fi = -9)) (hv : v = bI (VV E f (n - k) k r = true)) (hFI : k = 0 → r = 0 → fi1 = FI) (hf1 : 0 < k → fi1 = -9) : r + 1 ≤ E ^ k ∧ (∀ r1, r1 < r + 1 → upd wn1 r v r1 = bI (VV E f (n - k) k r1 = true)) ∧ (∀ q, E * (r + 1) ≤ q → q < E ^ (k + 1) → upd wn1 r v q = bI (VV E f (n - (k + 1)) (k + 1) q = true)) ∧ (k = 0 → (r + 1 = 0 → fi1 = -9) ∧ (0 < r + 1 → fi1 = FI)) ∧ (0 < k → fi1 = -9) := by
  have hE1 : r + 1 ≤ E * (r + 1) := Nat.le_mul_of_pos_left _ hE
  have hE2 : E * r ≤ E * (r + 1) := Nat.mul_le_mul_left E (Nat.le_succ r)
  refine ⟨hrE, fun r1 h1 => ?_, fun q h1 h2 => ?_, fun hk => ⟨fun h0 => absurd h0 (by omega), fun _ => hFI hk ?_⟩, hf1⟩
  · by_cases hr1 : r1 = r
    · subst hr1
      simp only [upd, if_true]
      exact hv
    · simp only [upd, if_neg hr1]
      exact h.2.1 r1 (by omega)
  · have hq : q ≠ r := by omega
    simp only [upd, if_neg hq]
    exact h.2.2.1 q (by omega) h2
  · subst hk
    simp at hrE
    exact hrE
set_option maxRecDepth 100000 in
set_option maxHeartbeats 4000000 in
theorem k_X7_duel_0 (l : Launch) (D : DX) (B : Nat) (T : Int64) (M : Mem) (h0 : M 0 0 = nI 0) (K X : Nat) (hK : M 2 0 = nI K) (hX : M 2 1 = nI X) (hK1 : 1 ≤ K) (hK4 : K ≤ 4) (hX1 : 1 ≤ X) (hX4 : X ≤ 4) (P : Nat) (hP : M 2 2 = nI P) (hP5 : P ≤ 5) (hW : WR (M 5)) (p n : Nat) (hp : p < P) (hn : n ≤ 3)  : Ci l D B 14 (celM D B) yX7_duel cX7_duel 12 (some .int) 4 [.ref (B + 0), .int (nI p), .int (nI n), .int (nI 0)] T M (fun rz T1 M1 => rz = bI (VV (K * X) (fun r => decide (moR (mbR (M 3) (M 2 0) K X P (M 5) r n n) = nI p)) n 0 0 = true) ∧ T1 = T ∧ Sm M M1) := by
  have hpw := pw_le hK4 hX4 (show n ≤ 3 by omega)
  have hkx := kx_le hK4 hX4
  have hkp : 0 < K * X := Nat.mul_pos hK1 hX1
  refine g_entryi (L := [(0, .ref (B + 0)), (1, .int (nI p)), (2, .int (nI n)), (3, .int (nI 0))]) (by decide) (Nat.le_of_ble_eq_true rfl) rfl ?_
  intro zp ze zs zm zb zt zc Q F hQ
  refine g_aload_n F 0 (dk dtX7_duel_0 0 rfl) rfl ?_
  refine g_iconst F (nI 0) (dk dtX7_duel_0 1 rfl) (by decide) ?_
  refine g_put F fa_X7_56 (dk dtX7_duel_0 2 rfl) (by decide) (cm0 D B _ _) (Nat.le_of_ble_eq_true rfl) rfl rfl ((cm0 D B _ _).trans st_Mod_0) ?_
  refine g_mem (up2_same h0) ?_
  refine g_aload_n F 0 (dk dtX7_duel_0 3 rfl) rfl ?_
  refine g_iload_n F 1 (dk dtX7_duel_0 4 rfl) rfl ?_
  refine g_callVi F (As := [.int (nI p)]) (st := []) cv_X7_129 (dk dtX7_duel_0 5 rfl) (by decide) (cm0 D B _ _) rfl rfl (Nat.le_of_ble_eq_true rfl) ⟨by decide, by decide⟩ (k_X7_isOne l D B _ _ _ P hP (by omega)) (fun r7 T7 M7 hp7 => ?_)
  obtain ⟨e1, e2, e3⟩ := hp7
  replace e1 := e1.symm; replace e2 := e2.symm; replace e3 := e3.symm; subst e1; subst e2; subst e3
  refine g_if_eqB F 31 (dk dtX7_duel_0 6 rfl) (by decide) (fun c => absurd (inR_nI (by omega)) c) (fun _ => ?_)
  refine g_iload_n F 2 (dk dtX7_duel_0 7 rfl) rfl ?_
  refine g_iconst F (nI 0) (dk dtX7_duel_0 8 rfl) (by decide) ?_
  refine g_iconst F (nI 3) (dk dtX7_duel_0 9 rfl) (by decide) ?_
  refine g_callSi F (As := [.int (nI n), .int (nI 0), .int (nI 3)]) (st := []) cs_X7_60 (dk dtX7_duel_0 10 rfl) rfl rfl (Nat.le_of_ble_eq_true rfl) ⟨by decide, by decide⟩ (k_X7_inR l D B _ _ _ 3 (by decide)) (fun r16 T16 M16 hp16 => ?_)
  obtain ⟨e1, e2, e3⟩ := hp16
  replace e1 := e1.symm; replace e2 := e2.symm; replace e3 := e3.symm; subst e1; subst e2; subst e3
  refine g_if_eqB F 31 (dk dtX7_duel_0 11 rfl) (by decide) (fun c => absurd (inR_nI (by omega)) c) (fun _ => ?_)
  refine g_iload_n F 3 (dk dtX7_duel_0 12 rfl) rfl ?_
  refine g_iconst F (nI 0) (dk dtX7_duel_0 13 rfl) (by decide) ?_
  refine g_iconst F (nI 1) (dk dtX7_duel_0 14 rfl) (by decide) ?_
  refine g_callSi F (As := [.int (nI 0), .int (nI 0), .int (nI 1)]) (st := []) cs_X7_60 (dk dtX7_duel_0 15 rfl) rfl rfl (Nat.le_of_ble_eq_true rfl) ⟨by decide, by decide⟩ (k_X7_inR l D B _ _ _ 1 (by decide)) (fun r25 T25 M25 hp25 => ?_)
  obtain ⟨e1, e2, e3⟩ := hp25
  replace e1 := e1.symm; replace e2 := e2.symm; replace e3 := e3.symm; subst e1; subst e2; subst e3
  refine g_if_neB F 33 (dk dtX7_duel_0 16 rfl) (by decide) (fun _ => ?_) (fun c => absurd (inR_nI (by omega)) c)
  refine g_aload_n F 0 (dk dtX7_duel_0 19 rfl) rfl ?_
  refine g_callVi F (As := []) (st := []) cv_X7_160 (dk dtX7_duel_0 20 rfl) (by decide) (cm0 D B _ _) rfl rfl (Nat.le_of_ble_eq_true rfl) ⟨by decide, by decide⟩ (k_X7_events l D B _ _ K X hK hX) (fun r34 T34 M34 hp34 => ?_)
  obtain ⟨e1, e2, e3⟩ := hp34
  replace e1 := e1.symm; replace e2 := e2.symm; replace e3 := e3.symm; subst e1; subst e2; subst e3
  refine g_istore F [(4, .int (nI (K * X))), (0, .ref (B + 0)), (1, .int (nI p)), (2, .int (nI n)), (3, .int (nI 0))] (dk dtX7_duel_0 21 rfl) (by decide) rfl ?_
  refine g_iconst F (nI 0) (dk dtX7_duel_0 22 rfl) (by decide) ?_
  refine g_istore F [(5, .int (nI 0)), (4, .int (nI (K * X))), (0, .ref (B + 0)), (1, .int (nI p)), (2, .int (nI n)), (3, .int (nI 0))] (dk dtX7_duel_0 23 rfl) (by decide) rfl ?_
  have lp42 : ∀ (fz : Nat) (r : Nat) (rw wn : Nat → Int32), (r ≤ (K * X) ^ n ∧ ∀ r1, r1 < r → wn r1 = bI (VV (K * X) (fun r => decide (moR (mbR (M 3) (M 2 0) K X P (M 5) r n n) = nI p)) 0 n r1 = true)) → ((K * X) ^ n - r) < fz → G zp l ze { frames := 4, cells := 0, slots := 0, locals := 40 * 4 } zs zm [.ref (B + 0), .int (nI p), .int (nI n), .int (nI 0)].toArray zb zt zc 12 D B 14 (celM D B) Q T (setR (setR M 6 rw) 13 wn) 42 [(0, .ref (B + 0)), (1, .int (nI p)), (2, .int (nI n)), (3, .int (nI 0)), (4, .int (nI (K * X))), (5, .int (nI r))] [] := by
    intro n42
    induction n42 with
    | zero => intro r rw wn hI hn; exact absurd hn (Nat.not_lt_zero _)
    | succ n42 ih42 =>
      intro r rw wn hI42 hn42
      refine g_iload F 5 (dk dtX7_duel_0 24 rfl) rfl ?_
      refine g_iload F 4 (dk dtX7_duel_0 25 rfl) rfl ?_
      refine g_iload_n F 2 (dk dtX7_duel_0 26 rfl) rfl ?_
      refine g_callSi F (As := [.int (nI (K * X)), .int (nI n)]) (st := [.int (nI r)]) cs_X7_163 (dk dtX7_duel_0 27 rfl) rfl rfl (Nat.le_of_ble_eq_true rfl) ⟨by decide, by decide⟩ (k_X7_power l D B _ _ (K * X) n (by omega)) (fun r47 T47 M47 hp47 => ?_)
      obtain ⟨e1, e2, e3⟩ := hp47
      replace e1 := e1.symm; replace e2 := e2.symm; replace e3 := e3.symm; subst e1; subst e2; subst e3
      refine g_icmp_geN F 82 (dk dtX7_duel_0 28 rfl) (by decide) (by omega) (by omega) (fun c50 => ?_) (fun c50 => ?_)
      · -- taken at 50
        refine g_bipush F (-9) (dk dtX7_duel_0 44 rfl) (by decide) ?_
        refine g_istore F [(5, .int (-9)), (0, .ref (B + 0)), (1, .int (nI p)), (2, .int (nI n)), (3, .int (nI 0)), (4, .int (nI (K * X)))] (dk dtX7_duel_0 45 rfl) (by decide) rfl ?_
        refine g_iload_n F 3 (dk dtX7_duel_0 46 rfl) rfl ?_
        refine g_iconst F (nI 1) (dk dtX7_duel_0 47 rfl) (by decide) ?_
        refine g_isub F (dk dtX7_duel_0 48 rfl) ?_
        refine g_istore F [(6, .int ((nI n) - (nI 1))), (5, .int (-9)), (0, .ref (B + 0)), (1, .int (nI p)), (2, .int (nI n)), (3, .int (nI 0)), (4, .int (nI (K * X)))] (dk dtX7_duel_0 49 rfl) (by decide) rfl ?_
        have lp91 : ∀ (fz : Nat) (kk : Nat) (fi : Int32) (wn : Nat → Int32), (kk ≤ n ∧ (∀ r1, r1 < (K * X) ^ kk → wn r1 = bI (VV (K * X) (fun r => decide (moR (mbR (M 3) (M 2 0) K X P (M 5) r n n) = nI p)) (n - kk) kk r1 = true)) ∧ (0 < kk → fi = -9) ∧ (kk = 0 → fi = (if n = 0 then -9 else fsD (fun e => VV (K * X) (fun r => decide (moR (mbR (M 3) (M 2 0) K X P (M 5) r n n) = nI p)) (n - 1) 1 e) (K * X) X (K * X)))) → kk < fz → G zp l ze { frames := 4, cells := 0, slots := 0, locals := 40 * 4 } zs zm [.ref (B + 0), .int (nI p), .int (nI n), .int (nI 0)].toArray zb zt zc 12 D B 14 (celM D B) Q T (setR (setR M 6 rw) 13 wn) 91 [(0, .ref (B + 0)), (1, .int (nI p)), (2, .int (nI n)), (3, .int (nI 0)), (4, .int (nI (K * X))), (5, .int fi), (6, .int (nI kk - nI 1))] [] := by
          intro n91
          induction n91 with
          | zero => intro kk fi wn hI hn; exact absurd hn (Nat.not_lt_zero _)
          | succ n91 ih91 =>
            intro kk fi wn hI91 hn91
            refine g_iload F 6 (dk dtX7_duel_0 50 rfl) rfl ?_
            refine g_if_lt F 238 (dk dtX7_duel_0 51 rfl) (by decide) (fun c93 => ?_) (fun c93 => ?_)
            · -- taken at 93
              obtain rfl : 0 = kk := (m1_lt (by omega) c93).symm
              refine g_iload_n F 3 (dk dtX7_duel_2 0 rfl) rfl ?_
              refine g_if_neN F 251 (dk dtX7_duel_2 1 rfl) (by decide) (by decide) (fun c => absurd c (by decide)) (fun _ => ?_)
              refine g_aload_n F 0 (dk dtX7_duel_2 2 rfl) rfl ?_
              refine g_get F fa_X7_47 (dk dtX7_duel_2 3 rfl) (by decide) (cm0 D B _ _) rfl ?_
              refine g_iconst F (nI 0) (dk dtX7_duel_2 4 rfl) (by decide) ?_
              refine g_iald F (0) (dk dtX7_duel_2 5 rfl) (by decide) (cm13 D B _ _) (by omega) (by decide) ?_
              refine g_top ((congrFun (setR_self _ _ _) _).trans (hI91.2.1 0 (Nat.pow_pos (Nat.mul_pos hK1 hX1)))) ?_
              refine g_goto F 253 (dk dtX7_duel_2 6 rfl) (by decide) ?_
              refine g_iret (F := F) hQ (dk dtX7_duel_2 8 rfl) ?_
              exact ⟨rfl, rfl, fun i h6 h13 => by rw [setR_ne _ _ h13, setR_ne _ _ h6]⟩
            · -- not taken at 93
              obtain ⟨k, rfl⟩ : ∃ k, kk = k + 1 := ⟨kk - 1, by have := m1_nlt2 (by omega) c93; omega⟩
              refine g_st (M1 := setR (setR M 6 rw) 13 wn) (L1 := [(0, .ref (B + 0)), (1, .int (nI p)), (2, .int (nI n)), (3, .int (nI 0)), (4, .int (nI (K * X))), (5, .int fi), (6, .int (nI k))]) rfl (lc rfl (lc rfl (lc rfl (lc rfl (lc rfl (lc rfl (lc (vi (nI_pred k)) rfl))))))) rfl ?_
              refine g_iconst F (nI 0) (dk dtX7_duel_0 52 rfl) (by decide) ?_
              refine g_istore F [(7, .int (nI 0)), (0, .ref (B + 0)), (1, .int (nI p)), (2, .int (nI n)), (3, .int (nI 0)), (4, .int (nI (K * X))), (5, .int fi), (6, .int (nI k))] (dk dtX7_duel_0 53 rfl) (by decide) rfl ?_
              have lp99 : ∀ (fz : Nat) (r : Nat) (fi : Int32) (wn1 : Nat → Int32), (r ≤ (K * X) ^ k ∧ (∀ r1, r1 < r → wn1 r1 = bI (VV (K * X) (fun r => decide (moR (mbR (M 3) (M 2 0) K X P (M 5) r n n) = nI p)) (n - k) k r1 = true)) ∧ (∀ q, (K * X) * r ≤ q → q < (K * X) ^ (k + 1) → wn1 q = bI (VV (K * X) (fun r => decide (moR (mbR (M 3) (M 2 0) K X P (M 5) r n n) = nI p)) (n - (k + 1)) (k + 1) q = true)) ∧ (k = 0 → (r = 0 → fi = -9) ∧ (0 < r → fi = (if n = 0 then -9 else fsD (fun e => VV (K * X) (fun r => decide (moR (mbR (M 3) (M 2 0) K X P (M 5) r n n) = nI p)) (n - 1) 1 e) (K * X) X (K * X)))) ∧ (0 < k → fi = -9)) → ((K * X) ^ k - r) < fz → G zp l ze { frames := 4, cells := 0, slots := 0, locals := 40 * 4 } zs zm [.ref (B + 0), .int (nI p), .int (nI n), .int (nI 0)].toArray zb zt zc 12 D B 14 (celM D B) Q T (setR (setR M 6 rw) 13 wn1) 99 [(0, .ref (B + 0)), (1, .int (nI p)), (2, .int (nI n)), (3, .int (nI 0)), (4, .int (nI (K * X))), (5, .int fi), (6, .int (nI k)), (7, .int (nI r))] [] := by
                intro n99
                induction n99 with
                | zero => intro r fi wn1 hI hn; exact absurd hn (Nat.not_lt_zero _)
                | succ n99 ih99 =>
                  intro r fi wn1 hI99 hn99
                  have hpk := pw_le hK4 hX4 (show k ≤ 3 by omega)
                  have hpk1 := pw_le hK4 hX4 (show k + 1 ≤ 3 by omega)
                  have hps : (K * X) ^ (k + 1) = (K * X) ^ k * (K * X) := Nat.pow_succ ..
                  refine g_iload F 7 (dk dtX7_duel_0 54 rfl) rfl ?_
                  refine g_iload F 4 (dk dtX7_duel_0 55 rfl) rfl ?_
                  refine g_iload F 6 (dk dtX7_duel_0 56 rfl) rfl ?_
                  refine g_callSi F (As := [.int (nI (K * X)), .int (nI k)]) (st := [.int (nI r)]) cs_X7_163 (dk dtX7_duel_0 57 rfl) rfl rfl (Nat.le_of_ble_eq_true rfl) ⟨by decide, by decide⟩ (k_X7_power l D B _ _ (K * X) k (by omega)) (fun r105 T105 M105 hp105 => ?_)
                  obtain ⟨e1, e2, e3⟩ := hp105
                  replace e1 := e1.symm; replace e2 := e2.symm; replace e3 := e3.symm; subst e1; subst e2; subst e3
                  refine g_icmp_geN F 232 (dk dtX7_duel_0 58 rfl) (by decide) (by omega) (by omega) (fun c108 => ?_) (fun c108 => ?_)
                  · -- taken at 108
                    refine g_iinc F 6 (nI k - nI 1) [(6, .int (nI k - nI 1)), (0, .ref (B + 0)), (1, .int (nI p)), (2, .int (nI n)), (3, .int (nI 0)), (4, .int (nI (K * X))), (5, .int fi), (7, .int (nI r))] (dk dtX7_duel_1 58 rfl) rfl (dec_one k) (by decide) rfl ?_
                    refine g_goto F 91 (dk dtX7_duel_1 59 rfl) (by decide) ?_
                    refine g_sub [1, 2, 3, 4, 5, 6, 0] (L1 := [(0, .ref (B + 0)), (1, .int (nI p)), (2, .int (nI n)), (3, .int (nI 0)), (4, .int (nI (K * X))), (5, .int fi), (6, .int (nI k - nI 1))]) rfl ?_
                    exact ih91 k fi wn1 ⟨by omega, fun r1 h => hI99.2.1 r1 (by omega), fun h => (hI99.2.2.2.2 h), fun h => (hI99.2.2.2.1 h).2 (by subst h; simp at c108; omega)⟩ (by omega)
                  · -- not taken at 108
                    have hrE : r < (K * X) ^ k := by omega
                    refine g_iconst F (nI 0) (dk dtX7_duel_0 59 rfl) (by decide) ?_
                    refine g_istore F [(8, .int (nI 0)), (0, .ref (B + 0)), (1, .int (nI p)), (2, .int (nI n)), (3, .int (nI 0)), (4, .int (nI (K * X))), (5, .int fi), (6, .int (nI k)), (7, .int (nI r))] (dk dtX7_duel_1 0 rfl) (by decide) rfl ?_
                    refine g_iconst F (nI 1) (dk dtX7_duel_1 1 rfl) (by decide) ?_
                    refine g_istore F [(9, .int (nI 1)), (8, .int (nI 0)), (0, .ref (B + 0)), (1, .int (nI p)), (2, .int (nI n)), (3, .int (nI 0)), (4, .int (nI (K * X))), (5, .int fi), (6, .int (nI k)), (7, .int (nI r))] (dk dtX7_duel_1 2 rfl) (by decide) rfl ?_
                    refine g_iload F 6 (dk dtX7_duel_1 3 rfl) rfl ?_
                    refine g_iconst F (nI 1) (dk dtX7_duel_1 4 rfl) (by decide) ?_
                    refine g_isubN F (dk dtX7_duel_1 5 rfl) (Nat.mul_pos hK1 hX1) ?_
                    refine g_istore F [(10, .int (nI ((K * X) - 1))), (9, .int (nI 1)), (8, .int (nI 0)), (0, .ref (B + 0)), (1, .int (nI p)), (2, .int (nI n)), (3, .int (nI 0)), (4, .int (nI (K * X))), (5, .int fi), (6, .int (nI k)), (7, .int (nI r))] (dk dtX7_duel_1 6 rfl) (by decide) rfl ?_
                    have lp123 : ∀ (fz : Nat) (d : Nat) (fi1 : Int32), (d ≤ K * X ∧ fi1 = (if k = 0 then fsD (fun e => VV (K * X) (fun r => decide (moR (mbR (M 3) (M 2 0) K X P (M 5) r n n) = nI p)) (n - (k + 1)) (k + 1) ((K * X) * r + e)) (K * X) X d else -9)) → ((K * X) - d) < fz → G zp l ze { frames := 4, cells := 0, slots := 0, locals := 40 * 4 } zs zm [.ref (B + 0), .int (nI p), .int (nI n), .int (nI 0)].toArray zb zt zc 12 D B 14 (celM D B) Q T (setR (setR M 6 rw) 13 wn1) 123 [(0, .ref (B + 0)), (1, .int (nI p)), (2, .int (nI n)), (3, .int (nI 0)), (4, .int (nI (K * X))), (5, .int fi1), (6, .int (nI k)), (7, .int (nI r)), (8, .int (bI (anyD (fun e => VV (K * X) (fun r => decide (moR (mbR (M 3) (M 2 0) K X P (M 5) r n n) = nI p)) (n - (k + 1)) (k + 1) ((K * X) * r + e)) (K * X) d = true))), (9, .int (bI (allD (fun e => VV (K * X) (fun r => decide (moR (mbR (M 3) (M 2 0) K X P (M 5) r n n) = nI p)) (n - (k + 1)) (k + 1) ((K * X) * r + e)) (K * X) d = true))), (10, .int (nI (K * X - d) - nI 1))] [] := by
                      intro n123
                      induction n123 with
                      | zero => intro d fi1 hI hn; exact absurd hn (Nat.not_lt_zero _)
                      | succ n123 ih123 =>
                        intro d fi1 hI123 hn123
                        obtain ⟨hd4, hfi⟩ := hI123
                        refine g_iload F 10 (dk dtX7_duel_1 7 rfl) rfl ?_
                        refine g_if_lt F 205 (dk dtX7_duel_1 8 rfl) (by decide) (fun c125 => ?_) (fun c125 => ?_)
                        · -- taken at 125
                          have hdE : K * X = d := m1_end hd4 (by omega) c125
                          obtain rfl : (K * X) = d := hdE
                          refine g_aload_n F 0 (dk dtX7_duel_1 45 rfl) rfl ?_
                          refine g_get F fa_X7_47 (dk dtX7_duel_1 46 rfl) (by decide) (cm0 D B _ _) rfl ?_
                          refine g_iload F 7 (dk dtX7_duel_1 47 rfl) rfl ?_
                          refine g_iload F 6 (dk dtX7_duel_1 48 rfl) rfl ?_
                          refine g_iconst F (nI 2) (dk dtX7_duel_1 49 rfl) (by decide) ?_
                          refine g_iremN F (dk dtX7_duel_1 50 rfl) (by omega) (by omega) (by omega) ?_
                          refine g_if_neN F 223 (dk dtX7_duel_1 51 rfl) (by decide) (by omega) (fun c215 => ?_) (fun c215 => ?_)
                          · -- taken at 215
                            refine g_iload F 9 (dk dtX7_duel_1 54 rfl) rfl ?_
                            refine g_iast F (r) (dk dtX7_duel_1 55 rfl) (by decide) (fun r => cm13 D B _ r) (by omega) (by decide) ?_
                            refine g_iinc F 7 (nI (r + 1)) [(7, .int (nI (r + 1))), (0, .ref (B + 0)), (1, .int (nI p)), (2, .int (nI n)), (3, .int (nI 0)), (4, .int (nI (K * X))), (5, .int fi1), (6, .int (nI k)), (8, .int (bI (anyD (fun e => VV (K * X) (fun r => decide (moR (mbR (M 3) (M 2 0) K X P (M 5) r n n) = nI p)) (n - (k + 1)) (k + 1) ((K * X) * r + e)) (K * X) (K * X) = true))), (9, .int (bI (allD (fun e => VV (K * X) (fun r => decide (moR (mbR (M 3) (M 2 0) K X P (M 5) r n n) = nI p)) (n - (k + 1)) (k + 1) ((K * X) * r + e)) (K * X) (K * X) = true))), (10, .int (nI (K * X - (K * X)) - nI 1))] (dk dtX7_duel_1 56 rfl) rfl (nI_1 _) (by decide) rfl ?_
                            refine g_goto F 99 (dk dtX7_duel_1 57 rfl) (by decide) ?_
                            refine g_sub [1, 2, 3, 4, 5, 6, 7, 0] (L1 := [(0, .ref (B + 0)), (1, .int (nI p)), (2, .int (nI n)), (3, .int (nI 0)), (4, .int (nI (K * X))), (5, .int fi1), (6, .int (nI k)), (7, .int (nI (r + 1)))]) rfl ?_
                            refine g_mem (up2_setR _ _ _ _ _) ?_
                            exact ih99 (r + 1) _ _ (duel_3 hrE hkp hI99 (by rw [VV_odd c215 (by omega)]) (duel_FI hfi (by omega)) (fun h => by rw [hfi, if_neg (by omega)])) (by omega)
                          · -- not taken at 215
                            refine g_iload F 8 (dk dtX7_duel_1 52 rfl) rfl ?_
                            refine g_goto F 225 (dk dtX7_duel_1 53 rfl) (by decide) ?_
                            refine g_iast F (r) (dk dtX7_duel_1 55 rfl) (by decide) (fun r => cm13 D B _ r) (by omega) (by decide) ?_
                            refine g_iinc F 7 (nI (r + 1)) [(7, .int (nI (r + 1))), (0, .ref (B + 0)), (1, .int (nI p)), (2, .int (nI n)), (3, .int (nI 0)), (4, .int (nI (K * X))), (5, .int fi1), (6, .int (nI k)), (8, .int (bI (anyD (fun e => VV (K * X) (fun r => decide (moR (mbR (M 3) (M 2 0) K X P (M 5) r n n) = nI p)) (n - (k + 1)) (k + 1) ((K * X) * r + e)) (K * X) (K * X) = true))), (9, .int (bI (allD (fun e => VV (K * X) (fun r => decide (moR (mbR (M 3) (M 2 0) K X P (M 5) r n n) = nI p)) (n - (k + 1)) (k + 1) ((K * X) * r + e)) (K * X) (K * X) = true))), (10, .int (nI (K * X - (K * X)) - nI 1))] (dk dtX7_duel_1 56 rfl) rfl (nI_1 _) (by decide) rfl ?_
                            refine g_goto F 99 (dk dtX7_duel_1 57 rfl) (by decide) ?_
                            refine g_sub [1, 2, 3, 4, 5, 6, 7, 0] (L1 := [(0, .ref (B + 0)), (1, .int (nI p)), (2, .int (nI n)), (3, .int (nI 0)), (4, .int (nI (K * X))), (5, .int fi1), (6, .int (nI k)), (7, .int (nI (r + 1)))]) rfl ?_
                            refine g_mem (up2_setR _ _ _ _ _) ?_
                            exact ih99 (r + 1) _ _ (duel_3 hrE hkp hI99 (by rw [VV_even c215 (by omega)]) (duel_FI hfi (by omega)) (fun h => by rw [hfi, if_neg (by omega)])) (by omega)
                        · -- not taken at 125
                          have hdE : d < K * X := m1_nlt (by omega) c125
                          refine g_st (M1 := setR (setR M 6 rw) 13 wn1) (L1 := [(0, .ref (B + 0)), (1, .int (nI p)), (2, .int (nI n)), (3, .int (nI 0)), (4, .int (nI (K * X))), (5, .int fi1), (6, .int (nI k)), (7, .int (nI r)), (8, .int (bI (anyD (fun e => VV (K * X) (fun r => decide (moR (mbR (M 3) (M 2 0) K X P (M 5) r n n) = nI p)) (n - (k + 1)) (k + 1) ((K * X) * r + e)) (K * X) d = true))), (9, .int (bI (allD (fun e => VV (K * X) (fun r => decide (moR (mbR (M 3) (M 2 0) K X P (M 5) r n n) = nI p)) (n - (k + 1)) (k + 1) ((K * X) * r + e)) (K * X) d = true))), (10, .int (nI (K * X - 1 - d)))]) rfl (lc rfl (lc rfl (lc rfl (lc rfl (lc rfl (lc rfl (lc rfl (lc rfl (lc rfl (lc rfl (lc (vi (m1_pred (by omega))) rfl))))))))))) rfl ?_
                          have hix : (K * X) * r + (K * X - 1 - d) < (K * X) ^ (k + 1) := duel_ix hps hrE (by omega)
                          have hgv := hI99.2.2.1 ((K * X) * r + (K * X - 1 - d)) (Nat.le_add_right _ _) hix
                          refine g_aload_n F 0 (dk dtX7_duel_1 9 rfl) rfl ?_
                          refine g_get F fa_X7_47 (dk dtX7_duel_1 10 rfl) (by decide) (cm0 D B _ _) rfl ?_
                          refine g_iload F 4 (dk dtX7_duel_1 11 rfl) rfl ?_
                          refine g_iload F 7 (dk dtX7_duel_1 12 rfl) rfl ?_
                          refine g_imulN F (dk dtX7_duel_1 13 rfl) ?_
                          refine g_iload F 10 (dk dtX7_duel_1 14 rfl) rfl ?_
                          refine g_iaddN F (dk dtX7_duel_1 15 rfl) ?_
                          refine g_iald F (((K * X) * r) + (K * X - 1 - d)) (dk dtX7_duel_1 16 rfl) (by decide) (cm13 D B _ _) (by omega) (by decide) ?_
                          refine g_top ((congrFun (setR_self _ _ _) _).trans hgv) ?_
                          refine g_istore F [(11, .int (bI ((fun e => VV (K * X) (fun r => decide (moR (mbR (M 3) (M 2 0) K X P (M 5) r n n) = nI p)) (n - (k + 1)) (k + 1) ((K * X) * r + e)) (K * X - 1 - d) = true))), (0, .ref (B + 0)), (1, .int (nI p)), (2, .int (nI n)), (3, .int (nI 0)), (4, .int (nI (K * X))), (5, .int fi1), (6, .int (nI k)), (7, .int (nI r)), (8, .int (bI (anyD (fun e => VV (K * X) (fun r => decide (moR (mbR (M 3) (M 2 0) K X P (M 5) r n n) = nI p)) (n - (k + 1)) (k + 1) ((K * X) * r + e)) (K * X) d = true))), (9, .int (bI (allD (fun e => VV (K * X) (fun r => decide (moR (mbR (M 3) (M 2 0) K X P (M 5) r n n) = nI p)) (n - (k + 1)) (k + 1) ((K * X) * r + e)) (K * X) d = true))), (10, .int (nI (K * X - 1 - d)))] (dk dtX7_duel_1 17 rfl) (by decide) rfl ?_
                          refine g_iload F 7 (dk dtX7_duel_1 18 rfl) rfl ?_
                          refine g_if_neN F 163 (dk dtX7_duel_1 19 rfl) (by decide) (by omega) (fun c145 => ?_) (fun c145 => ?_)
                          · -- taken at 145
                            refine g_iload F 6 (dk dtX7_duel_1 27 rfl) rfl ?_
                            refine g_istore F [(5, .int fi1), (11, .int (bI ((fun e => VV (K * X) (fun r => decide (moR (mbR (M 3) (M 2 0) K X P (M 5) r n n) = nI p)) (n - (k + 1)) (k + 1) ((K * X) * r + e)) (K * X - 1 - d) = true))), (0, .ref (B + 0)), (1, .int (nI p)), (2, .int (nI n)), (3, .int (nI 0)), (4, .int (nI (K * X))), (6, .int (nI k)), (7, .int (nI r)), (8, .int (bI (anyD (fun e => VV (K * X) (fun r => decide (moR (mbR (M 3) (M 2 0) K X P (M 5) r n n) = nI p)) (n - (k + 1)) (k + 1) ((K * X) * r + e)) (K * X) d = true))), (9, .int (bI (allD (fun e => VV (K * X) (fun r => decide (moR (mbR (M 3) (M 2 0) K X P (M 5) r n n) = nI p)) (n - (k + 1)) (k + 1) ((K * X) * r + e)) (K * X) d = true))), (10, .int (nI (K * X - 1 - d)))] (dk dtX7_duel_1 28 rfl) (by decide) rfl ?_
                            refine g_iload F 1 (dk dtX7_duel_1 29 rfl) rfl ?_
                            refine g_iload F 9 (dk dtX7_duel_1 30 rfl) rfl ?_
                            refine g_icmp_le F 179 (dk dtX7_duel_1 31 rfl) (by decide) (fun c171 => ?_) (fun c171 => ?_)
                            · -- taken at 171
                              refine g_iload F 9 (dk dtX7_duel_1 34 rfl) rfl ?_
                              refine g_istore F [(8, .int (bI (anyD (fun e => VV (K * X) (fun r => decide (moR (mbR (M 3) (M 2 0) K X P (M 5) r n n) = nI p)) (n - (k + 1)) (k + 1) ((K * X) * r + e)) (K * X) d = true))), (5, .int fi1), (11, .int (bI ((fun e => VV (K * X) (fun r => decide (moR (mbR (M 3) (M 2 0) K X P (M 5) r n n) = nI p)) (n - (k + 1)) (k + 1) ((K * X) * r + e)) (K * X - 1 - d) = true))), (0, .ref (B + 0)), (1, .int (nI p)), (2, .int (nI n)), (3, .int (nI 0)), (4, .int (nI (K * X))), (6, .int (nI k)), (7, .int (nI r)), (9, .int (bI (allD (fun e => VV (K * X) (fun r => decide (moR (mbR (M 3) (M 2 0) K X P (M 5) r n n) = nI p)) (n - (k + 1)) (k + 1) ((K * X) * r + e)) (K * X) d = true))), (10, .int (nI (K * X - 1 - d)))] (dk dtX7_duel_1 35 rfl) (by decide) rfl ?_
                              refine g_iload F 2 (dk dtX7_duel_1 36 rfl) rfl ?_
                              refine g_iload F 10 (dk dtX7_duel_1 37 rfl) rfl ?_
                              refine g_icmp_ge F 195 (dk dtX7_duel_1 38 rfl) (by decide) (fun c187 => ?_) (fun c187 => ?_)
                              · -- taken at 187
                                refine g_iload F 10 (dk dtX7_duel_1 41 rfl) rfl ?_
                                refine g_istore F [(9, .int (bI (allD (fun e => VV (K * X) (fun r => decide (moR (mbR (M 3) (M 2 0) K X P (M 5) r n n) = nI p)) (n - (k + 1)) (k + 1) ((K * X) * r + e)) (K * X) d = true))), (8, .int (bI (anyD (fun e => VV (K * X) (fun r => decide (moR (mbR (M 3) (M 2 0) K X P (M 5) r n n) = nI p)) (n - (k + 1)) (k + 1) ((K * X) * r + e)) (K * X) d = true))), (5, .int fi1), (11, .int (bI ((fun e => VV (K * X) (fun r => decide (moR (mbR (M 3) (M 2 0) K X P (M 5) r n n) = nI p)) (n - (k + 1)) (k + 1) ((K * X) * r + e)) (K * X - 1 - d) = true))), (0, .ref (B + 0)), (1, .int (nI p)), (2, .int (nI n)), (3, .int (nI 0)), (4, .int (nI (K * X))), (6, .int (nI k)), (7, .int (nI r)), (10, .int (nI (K * X - 1 - d)))] (dk dtX7_duel_1 42 rfl) (by decide) rfl ?_
                                refine g_iinc F 11 (nI (K * X - (d + 1)) - nI 1) [(10, .int (nI (K * X - (d + 1)) - nI 1)), (9, .int (bI (allD (fun e => VV (K * X) (fun r => decide (moR (mbR (M 3) (M 2 0) K X P (M 5) r n n) = nI p)) (n - (k + 1)) (k + 1) ((K * X) * r + e)) (K * X) d = true))), (8, .int (bI (anyD (fun e => VV (K * X) (fun r => decide (moR (mbR (M 3) (M 2 0) K X P (M 5) r n n) = nI p)) (n - (k + 1)) (k + 1) ((K * X) * r + e)) (K * X) d = true))), (5, .int fi1), (11, .int (bI ((fun e => VV (K * X) (fun r => decide (moR (mbR (M 3) (M 2 0) K X P (M 5) r n n) = nI p)) (n - (k + 1)) (k + 1) ((K * X) * r + e)) (K * X - 1 - d) = true))), (0, .ref (B + 0)), (1, .int (nI p)), (2, .int (nI n)), (3, .int (nI 0)), (4, .int (nI (K * X))), (6, .int (nI k)), (7, .int (nI r))] (dk dtX7_duel_1 43 rfl) rfl (dec_lem hdE) (by decide) rfl ?_
                                refine g_goto F 123 (dk dtX7_duel_1 44 rfl) (by decide) ?_
                                refine g_sub [5, 6, 7, 8, 9, 3, 10, 11, 2, 1, 0] (L1 := [(0, .ref (B + 0)), (1, .int (nI p)), (2, .int (nI n)), (3, .int (nI 0)), (4, .int (nI (K * X))), (5, .int fi1), (6, .int (nI k)), (7, .int (nI r)), (8, .int (bI (anyD (fun e => VV (K * X) (fun r => decide (moR (mbR (M 3) (M 2 0) K X P (M 5) r n n) = nI p)) (n - (k + 1)) (k + 1) ((K * X) * r + e)) (K * X) d = true))), (9, .int (bI (allD (fun e => VV (K * X) (fun r => decide (moR (mbR (M 3) (M 2 0) K X P (M 5) r n n) = nI p)) (n - (k + 1)) (k + 1) ((K * X) * r + e)) (K * X) d = true))), (10, .int (nI (K * X - (d + 1)) - nI 1))]) rfl ?_
                                refine g_st (M1 := setR (setR M 6 rw) 13 wn1) (L1 := [(0, .ref (B + 0)), (1, .int (nI p)), (2, .int (nI n)), (3, .int (nI 0)), (4, .int (nI (K * X))), (5, .int fi1), (6, .int (nI k)), (7, .int (nI r)), (8, .int (bI (anyD (fun e => VV (K * X) (fun r => decide (moR (mbR (M 3) (M 2 0) K X P (M 5) r n n) = nI p)) (n - (k + 1)) (k + 1) ((K * X) * r + e)) (K * X) (d + 1) = true))), (9, .int (bI (allD (fun e => VV (K * X) (fun r => decide (moR (mbR (M 3) (M 2 0) K X P (M 5) r n n) = nI p)) (n - (k + 1)) (k + 1) ((K * X) * r + e)) (K * X) (d + 1) = true))), (10, .int (nI (K * X - (d + 1)) - nI 1))]) rfl (lc rfl (lc rfl (lc rfl (lc rfl (lc rfl (lc rfl (lc rfl (lc rfl (lc (vi (mo_t c171)) (lc (vi (le_t c187)) rfl)))))))))) rfl ?_
                                exact ih123 (d + 1) _ ⟨by omega, by rw [hfi, if_neg c145, if_neg c145]⟩ (by omega)
                              · -- not taken at 187
                                refine g_iload F 2 (dk dtX7_duel_1 39 rfl) rfl ?_
                                refine g_goto F 197 (dk dtX7_duel_1 40 rfl) (by decide) ?_
                                refine g_istore F [(9, .int (bI ((fun e => VV (K * X) (fun r => decide (moR (mbR (M 3) (M 2 0) K X P (M 5) r n n) = nI p)) (n - (k + 1)) (k + 1) ((K * X) * r + e)) (K * X - 1 - d) = true))), (8, .int (bI (anyD (fun e => VV (K * X) (fun r => decide (moR (mbR (M 3) (M 2 0) K X P (M 5) r n n) = nI p)) (n - (k + 1)) (k + 1) ((K * X) * r + e)) (K * X) d = true))), (5, .int fi1), (11, .int (bI ((fun e => VV (K * X) (fun r => decide (moR (mbR (M 3) (M 2 0) K X P (M 5) r n n) = nI p)) (n - (k + 1)) (k + 1) ((K * X) * r + e)) (K * X - 1 - d) = true))), (0, .ref (B + 0)), (1, .int (nI p)), (2, .int (nI n)), (3, .int (nI 0)), (4, .int (nI (K * X))), (6, .int (nI k)), (7, .int (nI r)), (10, .int (nI (K * X - 1 - d)))] (dk dtX7_duel_1 42 rfl) (by decide) rfl ?_
                                refine g_iinc F 11 (nI (K * X - (d + 1)) - nI 1) [(10, .int (nI (K * X - (d + 1)) - nI 1)), (9, .int (bI ((fun e => VV (K * X) (fun r => decide (moR (mbR (M 3) (M 2 0) K X P (M 5) r n n) = nI p)) (n - (k + 1)) (k + 1) ((K * X) * r + e)) (K * X - 1 - d) = true))), (8, .int (bI (anyD (fun e => VV (K * X) (fun r => decide (moR (mbR (M 3) (M 2 0) K X P (M 5) r n n) = nI p)) (n - (k + 1)) (k + 1) ((K * X) * r + e)) (K * X) d = true))), (5, .int fi1), (11, .int (bI ((fun e => VV (K * X) (fun r => decide (moR (mbR (M 3) (M 2 0) K X P (M 5) r n n) = nI p)) (n - (k + 1)) (k + 1) ((K * X) * r + e)) (K * X - 1 - d) = true))), (0, .ref (B + 0)), (1, .int (nI p)), (2, .int (nI n)), (3, .int (nI 0)), (4, .int (nI (K * X))), (6, .int (nI k)), (7, .int (nI r))] (dk dtX7_duel_1 43 rfl) rfl (dec_lem hdE) (by decide) rfl ?_
                                refine g_goto F 123 (dk dtX7_duel_1 44 rfl) (by decide) ?_
                                refine g_sub [5, 6, 7, 8, 9, 3, 10, 11, 2, 1, 0] (L1 := [(0, .ref (B + 0)), (1, .int (nI p)), (2, .int (nI n)), (3, .int (nI 0)), (4, .int (nI (K * X))), (5, .int fi1), (6, .int (nI k)), (7, .int (nI r)), (8, .int (bI (anyD (fun e => VV (K * X) (fun r => decide (moR (mbR (M 3) (M 2 0) K X P (M 5) r n n) = nI p)) (n - (k + 1)) (k + 1) ((K * X) * r + e)) (K * X) d = true))), (9, .int (bI ((fun e => VV (K * X) (fun r => decide (moR (mbR (M 3) (M 2 0) K X P (M 5) r n n) = nI p)) (n - (k + 1)) (k + 1) ((K * X) * r + e)) (K * X - 1 - d) = true))), (10, .int (nI (K * X - (d + 1)) - nI 1))]) rfl ?_
                                refine g_st (M1 := setR (setR M 6 rw) 13 wn1) (L1 := [(0, .ref (B + 0)), (1, .int (nI p)), (2, .int (nI n)), (3, .int (nI 0)), (4, .int (nI (K * X))), (5, .int fi1), (6, .int (nI k)), (7, .int (nI r)), (8, .int (bI (anyD (fun e => VV (K * X) (fun r => decide (moR (mbR (M 3) (M 2 0) K X P (M 5) r n n) = nI p)) (n - (k + 1)) (k + 1) ((K * X) * r + e)) (K * X) (d + 1) = true))), (9, .int (bI (allD (fun e => VV (K * X) (fun r => decide (moR (mbR (M 3) (M 2 0) K X P (M 5) r n n) = nI p)) (n - (k + 1)) (k + 1) ((K * X) * r + e)) (K * X) (d + 1) = true))), (10, .int (nI (K * X - (d + 1)) - nI 1))]) rfl (lc rfl (lc rfl (lc rfl (lc rfl (lc rfl (lc rfl (lc rfl (lc rfl (lc (vi (mo_t c171)) (lc (vi (le_f c187)) rfl)))))))))) rfl ?_
                                exact ih123 (d + 1) _ ⟨by omega, by rw [hfi, if_neg c145, if_neg c145]⟩ (by omega)
                            · -- not taken at 171
                              refine g_iload F 1 (dk dtX7_duel_1 32 rfl) rfl ?_
                              refine g_goto F 181 (dk dtX7_duel_1 33 rfl) (by decide) ?_
                              refine g_istore F [(8, .int (bI ((fun e => VV (K * X) (fun r => decide (moR (mbR (M 3) (M 2 0) K X P (M 5) r n n) = nI p)) (n - (k + 1)) (k + 1) ((K * X) * r + e)) (K * X - 1 - d) = true))), (5, .int fi1), (11, .int (bI ((fun e => VV (K * X) (fun r => decide (moR (mbR (M 3) (M 2 0) K X P (M 5) r n n) = nI p)) (n - (k + 1)) (k + 1) ((K * X) * r + e)) (K * X - 1 - d) = true))), (0, .ref (B + 0)), (1, .int (nI p)), (2, .int (nI n)), (3, .int (nI 0)), (4, .int (nI (K * X))), (6, .int (nI k)), (7, .int (nI r)), (9, .int (bI (allD (fun e => VV (K * X) (fun r => decide (moR (mbR (M 3) (M 2 0) K X P (M 5) r n n) = nI p)) (n - (k + 1)) (k + 1) ((K * X) * r + e)) (K * X) d = true))), (10, .int (nI (K * X - 1 - d)))] (dk dtX7_duel_1 35 rfl) (by decide) rfl ?_
                              refine g_iload F 2 (dk dtX7_duel_1 36 rfl) rfl ?_
                              refine g_iload F 10 (dk dtX7_duel_1 37 rfl) rfl ?_
                              refine g_icmp_ge F 195 (dk dtX7_duel_1 38 rfl) (by decide) (fun c187 => ?_) (fun c187 => ?_)
                              · -- taken at 187
                                refine g_iload F 10 (dk dtX7_duel_1 41 rfl) rfl ?_
                                refine g_istore F [(9, .int (bI (allD (fun e => VV (K * X) (fun r => decide (moR (mbR (M 3) (M 2 0) K X P (M 5) r n n) = nI p)) (n - (k + 1)) (k + 1) ((K * X) * r + e)) (K * X) d = true))), (8, .int (bI ((fun e => VV (K * X) (fun r => decide (moR (mbR (M 3) (M 2 0) K X P (M 5) r n n) = nI p)) (n - (k + 1)) (k + 1) ((K * X) * r + e)) (K * X - 1 - d) = true))), (5, .int fi1), (11, .int (bI ((fun e => VV (K * X) (fun r => decide (moR (mbR (M 3) (M 2 0) K X P (M 5) r n n) = nI p)) (n - (k + 1)) (k + 1) ((K * X) * r + e)) (K * X - 1 - d) = true))), (0, .ref (B + 0)), (1, .int (nI p)), (2, .int (nI n)), (3, .int (nI 0)), (4, .int (nI (K * X))), (6, .int (nI k)), (7, .int (nI r)), (10, .int (nI (K * X - 1 - d)))] (dk dtX7_duel_1 42 rfl) (by decide) rfl ?_
                                refine g_iinc F 11 (nI (K * X - (d + 1)) - nI 1) [(10, .int (nI (K * X - (d + 1)) - nI 1)), (9, .int (bI (allD (fun e => VV (K * X) (fun r => decide (moR (mbR (M 3) (M 2 0) K X P (M 5) r n n) = nI p)) (n - (k + 1)) (k + 1) ((K * X) * r + e)) (K * X) d = true))), (8, .int (bI ((fun e => VV (K * X) (fun r => decide (moR (mbR (M 3) (M 2 0) K X P (M 5) r n n) = nI p)) (n - (k + 1)) (k + 1) ((K * X) * r + e)) (K * X - 1 - d) = true))), (5, .int fi1), (11, .int (bI ((fun e => VV (K * X) (fun r => decide (moR (mbR (M 3) (M 2 0) K X P (M 5) r n n) = nI p)) (n - (k + 1)) (k + 1) ((K * X) * r + e)) (K * X - 1 - d) = true))), (0, .ref (B + 0)), (1, .int (nI p)), (2, .int (nI n)), (3, .int (nI 0)), (4, .int (nI (K * X))), (6, .int (nI k)), (7, .int (nI r))] (dk dtX7_duel_1 43 rfl) rfl (dec_lem hdE) (by decide) rfl ?_
                                refine g_goto F 123 (dk dtX7_duel_1 44 rfl) (by decide) ?_
                                refine g_sub [5, 6, 7, 8, 9, 3, 10, 11, 2, 1, 0] (L1 := [(0, .ref (B + 0)), (1, .int (nI p)), (2, .int (nI n)), (3, .int (nI 0)), (4, .int (nI (K * X))), (5, .int fi1), (6, .int (nI k)), (7, .int (nI r)), (8, .int (bI ((fun e => VV (K * X) (fun r => decide (moR (mbR (M 3) (M 2 0) K X P (M 5) r n n) = nI p)) (n - (k + 1)) (k + 1) ((K * X) * r + e)) (K * X - 1 - d) = true))), (9, .int (bI (allD (fun e => VV (K * X) (fun r => decide (moR (mbR (M 3) (M 2 0) K X P (M 5) r n n) = nI p)) (n - (k + 1)) (k + 1) ((K * X) * r + e)) (K * X) d = true))), (10, .int (nI (K * X - (d + 1)) - nI 1))]) rfl ?_
                                refine g_st (M1 := setR (setR M 6 rw) 13 wn1) (L1 := [(0, .ref (B + 0)), (1, .int (nI p)), (2, .int (nI n)), (3, .int (nI 0)), (4, .int (nI (K * X))), (5, .int fi1), (6, .int (nI k)), (7, .int (nI r)), (8, .int (bI (anyD (fun e => VV (K * X) (fun r => decide (moR (mbR (M 3) (M 2 0) K X P (M 5) r n n) = nI p)) (n - (k + 1)) (k + 1) ((K * X) * r + e)) (K * X) (d + 1) = true))), (9, .int (bI (allD (fun e => VV (K * X) (fun r => decide (moR (mbR (M 3) (M 2 0) K X P (M 5) r n n) = nI p)) (n - (k + 1)) (k + 1) ((K * X) * r + e)) (K * X) (d + 1) = true))), (10, .int (nI (K * X - (d + 1)) - nI 1))]) rfl (lc rfl (lc rfl (lc rfl (lc rfl (lc rfl (lc rfl (lc rfl (lc rfl (lc (vi (mo_f c171)) (lc (vi (le_t c187)) rfl)))))))))) rfl ?_
                                exact ih123 (d + 1) _ ⟨by omega, by rw [hfi, if_neg c145, if_neg c145]⟩ (by omega)
                              · -- not taken at 187
                                refine g_iload F 2 (dk dtX7_duel_1 39 rfl) rfl ?_
                                refine g_goto F 197 (dk dtX7_duel_1 40 rfl) (by decide) ?_
                                refine g_istore F [(9, .int (bI ((fun e => VV (K * X) (fun r => decide (moR (mbR (M 3) (M 2 0) K X P (M 5) r n n) = nI p)) (n - (k + 1)) (k + 1) ((K * X) * r + e)) (K * X - 1 - d) = true))), (8, .int (bI ((fun e => VV (K * X) (fun r => decide (moR (mbR (M 3) (M 2 0) K X P (M 5) r n n) = nI p)) (n - (k + 1)) (k + 1) ((K * X) * r + e)) (K * X - 1 - d) = true))), (5, .int fi1), (11, .int (bI ((fun e => VV (K * X) (fun r => decide (moR (mbR (M 3) (M 2 0) K X P (M 5) r n n) = nI p)) (n - (k + 1)) (k + 1) ((K * X) * r + e)) (K * X - 1 - d) = true))), (0, .ref (B + 0)), (1, .int (nI p)), (2, .int (nI n)), (3, .int (nI 0)), (4, .int (nI (K * X))), (6, .int (nI k)), (7, .int (nI r)), (10, .int (nI (K * X - 1 - d)))] (dk dtX7_duel_1 42 rfl) (by decide) rfl ?_
                                refine g_iinc F 11 (nI (K * X - (d + 1)) - nI 1) [(10, .int (nI (K * X - (d + 1)) - nI 1)), (9, .int (bI ((fun e => VV (K * X) (fun r => decide (moR (mbR (M 3) (M 2 0) K X P (M 5) r n n) = nI p)) (n - (k + 1)) (k + 1) ((K * X) * r + e)) (K * X - 1 - d) = true))), (8, .int (bI ((fun e => VV (K * X) (fun r => decide (moR (mbR (M 3) (M 2 0) K X P (M 5) r n n) = nI p)) (n - (k + 1)) (k + 1) ((K * X) * r + e)) (K * X - 1 - d) = true))), (5, .int fi1), (11, .int (bI ((fun e => VV (K * X) (fun r => decide (moR (mbR (M 3) (M 2 0) K X P (M 5) r n n) = nI p)) (n - (k + 1)) (k + 1) ((K * X) * r + e)) (K * X - 1 - d) = true))), (0, .ref (B + 0)), (1, .int (nI p)), (2, .int (nI n)), (3, .int (nI 0)), (4, .int (nI (K * X))), (6, .int (nI k)), (7, .int (nI r))] (dk dtX7_duel_1 43 rfl) rfl (dec_lem hdE) (by decide) rfl ?_
                                refine g_goto F 123 (dk dtX7_duel_1 44 rfl) (by decide) ?_
                                refine g_sub [5, 6, 7, 8, 9, 3, 10, 11, 2, 1, 0] (L1 := [(0, .ref (B + 0)), (1, .int (nI p)), (2, .int (nI n)), (3, .int (nI 0)), (4, .int (nI (K * X))), (5, .int fi1), (6, .int (nI k)), (7, .int (nI r)), (8, .int (bI ((fun e => VV (K * X) (fun r => decide (moR (mbR (M 3) (M 2 0) K X P (M 5) r n n) = nI p)) (n - (k + 1)) (k + 1) ((K * X) * r + e)) (K * X - 1 - d) = true))), (9, .int (bI ((fun e => VV (K * X) (fun r => decide (moR (mbR (M 3) (M 2 0) K X P (M 5) r n n) = nI p)) (n - (k + 1)) (k + 1) ((K * X) * r + e)) (K * X - 1 - d) = true))), (10, .int (nI (K * X - (d + 1)) - nI 1))]) rfl ?_
                                refine g_st (M1 := setR (setR M 6 rw) 13 wn1) (L1 := [(0, .ref (B + 0)), (1, .int (nI p)), (2, .int (nI n)), (3, .int (nI 0)), (4, .int (nI (K * X))), (5, .int fi1), (6, .int (nI k)), (7, .int (nI r)), (8, .int (bI (anyD (fun e => VV (K * X) (fun r => decide (moR (mbR (M 3) (M 2 0) K X P (M 5) r n n) = nI p)) (n - (k + 1)) (k + 1) ((K * X) * r + e)) (K * X) (d + 1) = true))), (9, .int (bI (allD (fun e => VV (K * X) (fun r => decide (moR (mbR (M 3) (M 2 0) K X P (M 5) r n n) = nI p)) (n - (k + 1)) (k + 1) ((K * X) * r + e)) (K * X) (d + 1) = true))), (10, .int (nI (K * X - (d + 1)) - nI 1))]) rfl (lc rfl (lc rfl (lc rfl (lc rfl (lc rfl (lc rfl (lc rfl (lc rfl (lc (vi (mo_f c171)) (lc (vi (le_f c187)) rfl)))))))))) rfl ?_
                                exact ih123 (d + 1) _ ⟨by omega, by rw [hfi, if_neg c145, if_neg c145]⟩ (by omega)
                          · -- not taken at 145
                            refine g_iload F 0 (dk dtX7_duel_1 20 rfl) rfl ?_
                            refine g_iconst F (nI 1) (dk dtX7_duel_1 21 rfl) (by decide) ?_
                            refine g_icmp_neB1 F 163 (dk dtX7_duel_1 22 rfl) (by decide) (fun c151 => ?_) (fun c151 => ?_)
                            · -- taken at 151
                              refine g_iload F 6 (dk dtX7_duel_1 27 rfl) rfl ?_
                              refine g_istore F [(5, .int fi1), (11, .int (bI ((fun e => VV (K * X) (fun r => decide (moR (mbR (M 3) (M 2 0) K X P (M 5) r n n) = nI p)) (n - (k + 1)) (k + 1) ((K * X) * r + e)) (K * X - 1 - d) = true))), (0, .ref (B + 0)), (1, .int (nI p)), (2, .int (nI n)), (3, .int (nI 0)), (4, .int (nI (K * X))), (6, .int (nI k)), (7, .int (nI r)), (8, .int (bI (anyD (fun e => VV (K * X) (fun r => decide (moR (mbR (M 3) (M 2 0) K X P (M 5) r n n) = nI p)) (n - (k + 1)) (k + 1) ((K * X) * r + e)) (K * X) d = true))), (9, .int (bI (allD (fun e => VV (K * X) (fun r => decide (moR (mbR (M 3) (M 2 0) K X P (M 5) r n n) = nI p)) (n - (k + 1)) (k + 1) ((K * X) * r + e)) (K * X) d = true))), (10, .int (nI (K * X - 1 - d)))] (dk dtX7_duel_1 28 rfl) (by decide) rfl ?_
                              refine g_iload F 1 (dk dtX7_duel_1 29 rfl) rfl ?_
                              refine g_iload F 9 (dk dtX7_duel_1 30 rfl) rfl ?_
                              refine g_icmp_le F 179 (dk dtX7_duel_1 31 rfl) (by decide) (fun c171 => ?_) (fun c171 => ?_)
                              · -- taken at 171
                                refine g_iload F 9 (dk dtX7_duel_1 34 rfl) rfl ?_
                                refine g_istore F [(8, .int (bI (anyD (fun e => VV (K * X) (fun r => decide (moR (mbR (M 3) (M 2 0) K X P (M 5) r n n) = nI p)) (n - (k + 1)) (k + 1) ((K * X) * r + e)) (K * X) d = true))), (5, .int fi1), (11, .int (bI ((fun e => VV (K * X) (fun r => decide (moR (mbR (M 3) (M 2 0) K X P (M 5) r n n) = nI p)) (n - (k + 1)) (k + 1) ((K * X) * r + e)) (K * X - 1 - d) = true))), (0, .ref (B + 0)), (1, .int (nI p)), (2, .int (nI n)), (3, .int (nI 0)), (4, .int (nI (K * X))), (6, .int (nI k)), (7, .int (nI r)), (9, .int (bI (allD (fun e => VV (K * X) (fun r => decide (moR (mbR (M 3) (M 2 0) K X P (M 5) r n n) = nI p)) (n - (k + 1)) (k + 1) ((K * X) * r + e)) (K * X) d = true))), (10, .int (nI (K * X - 1 - d)))] (dk dtX7_duel_1 35 rfl) (by decide) rfl ?_
                                refine g_iload F 2 (dk dtX7_duel_1 36 rfl) rfl ?_
                                refine g_iload F 10 (dk dtX7_duel_1 37 rfl) rfl ?_
                                refine g_icmp_ge F 195 (dk dtX7_duel_1 38 rfl) (by decide) (fun c187 => ?_) (fun c187 => ?_)
                                · -- taken at 187
                                  refine g_iload F 10 (dk dtX7_duel_1 41 rfl) rfl ?_
                                  refine g_istore F [(9, .int (bI (allD (fun e => VV (K * X) (fun r => decide (moR (mbR (M 3) (M 2 0) K X P (M 5) r n n) = nI p)) (n - (k + 1)) (k + 1) ((K * X) * r + e)) (K * X) d = true))), (8, .int (bI (anyD (fun e => VV (K * X) (fun r => decide (moR (mbR (M 3) (M 2 0) K X P (M 5) r n n) = nI p)) (n - (k + 1)) (k + 1) ((K * X) * r + e)) (K * X) d = true))), (5, .int fi1), (11, .int (bI ((fun e => VV (K * X) (fun r => decide (moR (mbR (M 3) (M 2 0) K X P (M 5) r n n) = nI p)) (n - (k + 1)) (k + 1) ((K * X) * r + e)) (K * X - 1 - d) = true))), (0, .ref (B + 0)), (1, .int (nI p)), (2, .int (nI n)), (3, .int (nI 0)), (4, .int (nI (K * X))), (6, .int (nI k)), (7, .int (nI r)), (10, .int (nI (K * X - 1 - d)))] (dk dtX7_duel_1 42 rfl) (by decide) rfl ?_
                                  refine g_iinc F 11 (nI (K * X - (d + 1)) - nI 1) [(10, .int (nI (K * X - (d + 1)) - nI 1)), (9, .int (bI (allD (fun e => VV (K * X) (fun r => decide (moR (mbR (M 3) (M 2 0) K X P (M 5) r n n) = nI p)) (n - (k + 1)) (k + 1) ((K * X) * r + e)) (K * X) d = true))), (8, .int (bI (anyD (fun e => VV (K * X) (fun r => decide (moR (mbR (M 3) (M 2 0) K X P (M 5) r n n) = nI p)) (n - (k + 1)) (k + 1) ((K * X) * r + e)) (K * X) d = true))), (5, .int fi1), (11, .int (bI ((fun e => VV (K * X) (fun r => decide (moR (mbR (M 3) (M 2 0) K X P (M 5) r n n) = nI p)) (n - (k + 1)) (k + 1) ((K * X) * r + e)) (K * X - 1 - d) = true))), (0, .ref (B + 0)), (1, .int (nI p)), (2, .int (nI n)), (3, .int (nI 0)), (4, .int (nI (K * X))), (6, .int (nI k)), (7, .int (nI r))] (dk dtX7_duel_1 43 rfl) rfl (dec_lem hdE) (by decide) rfl ?_
                                  refine g_goto F 123 (dk dtX7_duel_1 44 rfl) (by decide) ?_
                                  refine g_sub [5, 6, 7, 8, 9, 3, 10, 11, 2, 1, 0] (L1 := [(0, .ref (B + 0)), (1, .int (nI p)), (2, .int (nI n)), (3, .int (nI 0)), (4, .int (nI (K * X))), (5, .int fi1), (6, .int (nI k)), (7, .int (nI r)), (8, .int (bI (anyD (fun e => VV (K * X) (fun r => decide (moR (mbR (M 3) (M 2 0) K X P (M 5) r n n) = nI p)) (n - (k + 1)) (k + 1) ((K * X) * r + e)) (K * X) d = true))), (9, .int (bI (allD (fun e => VV (K * X) (fun r => decide (moR (mbR (M 3) (M 2 0) K X P (M 5) r n n) = nI p)) (n - (k + 1)) (k + 1) ((K * X) * r + e)) (K * X) d = true))), (10, .int (nI (K * X - (d + 1)) - nI 1))]) rfl ?_
                                  refine g_st (M1 := setR (setR M 6 rw) 13 wn1) (L1 := [(0, .ref (B + 0)), (1, .int (nI p)), (2, .int (nI n)), (3, .int (nI 0)), (4, .int (nI (K * X))), (5, .int fi1), (6, .int (nI k)), (7, .int (nI r)), (8, .int (bI (anyD (fun e => VV (K * X) (fun r => decide (moR (mbR (M 3) (M 2 0) K X P (M 5) r n n) = nI p)) (n - (k + 1)) (k + 1) ((K * X) * r + e)) (K * X) (d + 1) = true))), (9, .int (bI (allD (fun e => VV (K * X) (fun r => decide (moR (mbR (M 3) (M 2 0) K X P (M 5) r n n) = nI p)) (n - (k + 1)) (k + 1) ((K * X) * r + e)) (K * X) (d + 1) = true))), (10, .int (nI (K * X - (d + 1)) - nI 1))]) rfl (lc rfl (lc rfl (lc rfl (lc rfl (lc rfl (lc rfl (lc rfl (lc rfl (lc (vi (mo_t c171)) (lc (vi (le_t c187)) rfl)))))))))) rfl ?_
                                  exact ih123 (d + 1) _ ⟨by omega, by rw [hfi, if_pos c145, if_pos c145, fsD_n c151]⟩ (by omega)
                                · -- not taken at 187
                                  refine g_iload F 2 (dk dtX7_duel_1 39 rfl) rfl ?_
                                  refine g_goto F 197 (dk dtX7_duel_1 40 rfl) (by decide) ?_
                                  refine g_istore F [(9, .int (bI ((fun e => VV (K * X) (fun r => decide (moR (mbR (M 3) (M 2 0) K X P (M 5) r n n) = nI p)) (n - (k + 1)) (k + 1) ((K * X) * r + e)) (K * X - 1 - d) = true))), (8, .int (bI (anyD (fun e => VV (K * X) (fun r => decide (moR (mbR (M 3) (M 2 0) K X P (M 5) r n n) = nI p)) (n - (k + 1)) (k + 1) ((K * X) * r + e)) (K * X) d = true))), (5, .int fi1), (11, .int (bI ((fun e => VV (K * X) (fun r => decide (moR (mbR (M 3) (M 2 0) K X P (M 5) r n n) = nI p)) (n - (k + 1)) (k + 1) ((K * X) * r + e)) (K * X - 1 - d) = true))), (0, .ref (B + 0)), (1, .int (nI p)), (2, .int (nI n)), (3, .int (nI 0)), (4, .int (nI (K * X))), (6, .int (nI k)), (7, .int (nI r)), (10, .int (nI (K * X - 1 - d)))] (dk dtX7_duel_1 42 rfl) (by decide) rfl ?_
                                  refine g_iinc F 11 (nI (K * X - (d + 1)) - nI 1) [(10, .int (nI (K * X - (d + 1)) - nI 1)), (9, .int (bI ((fun e => VV (K * X) (fun r => decide (moR (mbR (M 3) (M 2 0) K X P (M 5) r n n) = nI p)) (n - (k + 1)) (k + 1) ((K * X) * r + e)) (K * X - 1 - d) = true))), (8, .int (bI (anyD (fun e => VV (K * X) (fun r => decide (moR (mbR (M 3) (M 2 0) K X P (M 5) r n n) = nI p)) (n - (k + 1)) (k + 1) ((K * X) * r + e)) (K * X) d = true))), (5, .int fi1), (11, .int (bI ((fun e => VV (K * X) (fun r => decide (moR (mbR (M 3) (M 2 0) K X P (M 5) r n n) = nI p)) (n - (k + 1)) (k + 1) ((K * X) * r + e)) (K * X - 1 - d) = true))), (0, .ref (B + 0)), (1, .int (nI p)), (2, .int (nI n)), (3, .int (nI 0)), (4, .int (nI (K * X))), (6, .int (nI k)), (7, .int (nI r))] (dk dtX7_duel_1 43 rfl) rfl (dec_lem hdE) (by decide) rfl ?_
                                  refine g_goto F 123 (dk dtX7_duel_1 44 rfl) (by decide) ?_
                                  refine g_sub [5, 6, 7, 8, 9, 3, 10, 11, 2, 1, 0] (L1 := [(0, .ref (B + 0)), (1, .int (nI p)), (2, .int (nI n)), (3, .int (nI 0)), (4, .int (nI (K * X))), (5, .int fi1), (6, .int (nI k)), (7, .int (nI r)), (8, .int (bI (anyD (fun e => VV (K * X) (fun r => decide (moR (mbR (M 3) (M 2 0) K X P (M 5) r n n) = nI p)) (n - (k + 1)) (k + 1) ((K * X) * r + e)) (K * X) d = true))), (9, .int (bI ((fun e => VV (K * X) (fun r => decide (moR (mbR (M 3) (M 2 0) K X P (M 5) r n n) = nI p)) (n - (k + 1)) (k + 1) ((K * X) * r + e)) (K * X - 1 - d) = true))), (10, .int (nI (K * X - (d + 1)) - nI 1))]) rfl ?_
                                  refine g_st (M1 := setR (setR M 6 rw) 13 wn1) (L1 := [(0, .ref (B + 0)), (1, .int (nI p)), (2, .int (nI n)), (3, .int (nI 0)), (4, .int (nI (K * X))), (5, .int fi1), (6, .int (nI k)), (7, .int (nI r)), (8, .int (bI (anyD (fun e => VV (K * X) (fun r => decide (moR (mbR (M 3) (M 2 0) K X P (M 5) r n n) = nI p)) (n - (k + 1)) (k + 1) ((K * X) * r + e)) (K * X) (d + 1) = true))), (9, .int (bI (allD (fun e => VV (K * X) (fun r => decide (moR (mbR (M 3) (M 2 0) K X P (M 5) r n n) = nI p)) (n - (k + 1)) (k + 1) ((K * X) * r + e)) (K * X) (d + 1) = true))), (10, .int (nI (K * X - (d + 1)) - nI 1))]) rfl (lc rfl (lc rfl (lc rfl (lc rfl (lc rfl (lc rfl (lc rfl (lc rfl (lc (vi (mo_t c171)) (lc (vi (le_f c187)) rfl)))))))))) rfl ?_
                                  exact ih123 (d + 1) _ ⟨by omega, by rw [hfi, if_pos c145, if_pos c145, fsD_n c151]⟩ (by omega)
                              · -- not taken at 171
                                refine g_iload F 1 (dk dtX7_duel_1 32 rfl) rfl ?_
                                refine g_goto F 181 (dk dtX7_duel_1 33 rfl) (by decide) ?_
                                refine g_istore F [(8, .int (bI ((fun e => VV (K * X) (fun r => decide (moR (mbR (M 3) (M 2 0) K X P (M 5) r n n) = nI p)) (n - (k + 1)) (k + 1) ((K * X) * r + e)) (K * X - 1 - d) = true))), (5, .int fi1), (11, .int (bI ((fun e => VV (K * X) (fun r => decide (moR (mbR (M 3) (M 2 0) K X P (M 5) r n n) = nI p)) (n - (k + 1)) (k + 1) ((K * X) * r + e)) (K * X - 1 - d) = true))), (0, .ref (B + 0)), (1, .int (nI p)), (2, .int (nI n)), (3, .int (nI 0)), (4, .int (nI (K * X))), (6, .int (nI k)), (7, .int (nI r)), (9, .int (bI (allD (fun e => VV (K * X) (fun r => decide (moR (mbR (M 3) (M 2 0) K X P (M 5) r n n) = nI p)) (n - (k + 1)) (k + 1) ((K * X) * r + e)) (K * X) d = true))), (10, .int (nI (K * X - 1 - d)))] (dk dtX7_duel_1 35 rfl) (by decide) rfl ?_
                                refine g_iload F 2 (dk dtX7_duel_1 36 rfl) rfl ?_
                                refine g_iload F 10 (dk dtX7_duel_1 37 rfl) rfl ?_
                                refine g_icmp_ge F 195 (dk dtX7_duel_1 38 rfl) (by decide) (fun c187 => ?_) (fun c187 => ?_)
                                · -- taken at 187
                                  refine g_iload F 10 (dk dtX7_duel_1 41 rfl) rfl ?_
                                  refine g_istore F [(9, .int (bI (allD (fun e => VV (K * X) (fun r => decide (moR (mbR (M 3) (M 2 0) K X P (M 5) r n n) = nI p)) (n - (k + 1)) (k + 1) ((K * X) * r + e)) (K * X) d = true))), (8, .int (bI ((fun e => VV (K * X) (fun r => decide (moR (mbR (M 3) (M 2 0) K X P (M 5) r n n) = nI p)) (n - (k + 1)) (k + 1) ((K * X) * r + e)) (K * X - 1 - d) = true))), (5, .int fi1), (11, .int (bI ((fun e => VV (K * X) (fun r => decide (moR (mbR (M 3) (M 2 0) K X P (M 5) r n n) = nI p)) (n - (k + 1)) (k + 1) ((K * X) * r + e)) (K * X - 1 - d) = true))), (0, .ref (B + 0)), (1, .int (nI p)), (2, .int (nI n)), (3, .int (nI 0)), (4, .int (nI (K * X))), (6, .int (nI k)), (7, .int (nI r)), (10, .int (nI (K * X - 1 - d)))] (dk dtX7_duel_1 42 rfl) (by decide) rfl ?_
                                  refine g_iinc F 11 (nI (K * X - (d + 1)) - nI 1) [(10, .int (nI (K * X - (d + 1)) - nI 1)), (9, .int (bI (allD (fun e => VV (K * X) (fun r => decide (moR (mbR (M 3) (M 2 0) K X P (M 5) r n n) = nI p)) (n - (k + 1)) (k + 1) ((K * X) * r + e)) (K * X) d = true))), (8, .int (bI ((fun e => VV (K * X) (fun r => decide (moR (mbR (M 3) (M 2 0) K X P (M 5) r n n) = nI p)) (n - (k + 1)) (k + 1) ((K * X) * r + e)) (K * X - 1 - d) = true))), (5, .int fi1), (11, .int (bI ((fun e => VV (K * X) (fun r => decide (moR (mbR (M 3) (M 2 0) K X P (M 5) r n n) = nI p)) (n - (k + 1)) (k + 1) ((K * X) * r + e)) (K * X - 1 - d) = true))), (0, .ref (B + 0)), (1, .int (nI p)), (2, .int (nI n)), (3, .int (nI 0)), (4, .int (nI (K * X))), (6, .int (nI k)), (7, .int (nI r))] (dk dtX7_duel_1 43 rfl) rfl (dec_lem hdE) (by decide) rfl ?_
                                  refine g_goto F 123 (dk dtX7_duel_1 44 rfl) (by decide) ?_
                                  refine g_sub [5, 6, 7, 8, 9, 3, 10, 11, 2, 1, 0] (L1 := [(0, .ref (B + 0)), (1, .int (nI p)), (2, .int (nI n)), (3, .int (nI 0)), (4, .int (nI (K * X))), (5, .int fi1), (6, .int (nI k)), (7, .int (nI r)), (8, .int (bI ((fun e => VV (K * X) (fun r => decide (moR (mbR (M 3) (M 2 0) K X P (M 5) r n n) = nI p)) (n - (k + 1)) (k + 1) ((K * X) * r + e)) (K * X - 1 - d) = true))), (9, .int (bI (allD (fun e => VV (K * X) (fun r => decide (moR (mbR (M 3) (M 2 0) K X P (M 5) r n n) = nI p)) (n - (k + 1)) (k + 1) ((K * X) * r + e)) (K * X) d = true))), (10, .int (nI (K * X - (d + 1)) - nI 1))]) rfl ?_
                                  refine g_st (M1 := setR (setR M 6 rw) 13 wn1) (L1 := [(0, .ref (B + 0)), (1, .int (nI p)), (2, .int (nI n)), (3, .int (nI 0)), (4, .int (nI (K * X))), (5, .int fi1), (6, .int (nI k)), (7, .int (nI r)), (8, .int (bI (anyD (fun e => VV (K * X) (fun r => decide (moR (mbR (M 3) (M 2 0) K X P (M 5) r n n) = nI p)) (n - (k + 1)) (k + 1) ((K * X) * r + e)) (K * X) (d + 1) = true))), (9, .int (bI (allD (fun e => VV (K * X) (fun r => decide (moR (mbR (M 3) (M 2 0) K X P (M 5) r n n) = nI p)) (n - (k + 1)) (k + 1) ((K * X) * r + e)) (K * X) (d + 1) = true))), (10, .int (nI (K * X - (d + 1)) - nI 1))]) rfl (lc rfl (lc rfl (lc rfl (lc rfl (lc rfl (lc rfl (lc rfl (lc rfl (lc (vi (mo_f c171)) (lc (vi (le_t c187)) rfl)))))))))) rfl ?_
                                  exact ih123 (d + 1) _ ⟨by omega, by rw [hfi, if_pos c145, if_pos c145, fsD_n c151]⟩ (by omega)
                                · -- not taken at 187
                                  refine g_iload F 2 (dk dtX7_duel_1 39 rfl) rfl ?_
                                  refine g_goto F 197 (dk dtX7_duel_1 40 rfl) (by decide) ?_
                                  refine g_istore F [(9, .int (bI ((fun e => VV (K * X) (fun r => decide (moR (mbR (M 3) (M 2 0) K X P (M 5) r n n) = nI p)) (n - (k + 1)) (k + 1) ((K * X) * r + e)) (K * X - 1 - d) = true))), (8, .int (bI ((fun e => VV (K * X) (fun r => decide (moR (mbR (M 3) (M 2 0) K X P (M 5) r n n) = nI p)) (n - (k + 1)) (k + 1) ((K * X) * r + e)) (K * X - 1 - d) = true))), (5, .int fi1), (11, .int (bI ((fun e => VV (K * X) (fun r => decide (moR (mbR (M 3) (M 2 0) K X P (M 5) r n n) = nI p)) (n - (k + 1)) (k + 1) ((K * X) * r + e)) (K * X - 1 - d) = true))), (0, .ref (B + 0)), (1, .int (nI p)), (2, .int (nI n)), (3, .int (nI 0)), (4, .int (nI (K * X))), (6, .int (nI k)), (7, .int (nI r)), (10, .int (nI (K * X - 1 - d)))] (dk dtX7_duel_1 42 rfl) (by decide) rfl ?_
                                  refine g_iinc F 11 (nI (K * X - (d + 1)) - nI 1) [(10, .int (nI (K * X - (d + 1)) - nI 1)), (9, .int (bI ((fun e => VV (K * X) (fun r => decide (moR (mbR (M 3) (M 2 0) K X P (M 5) r n n) = nI p)) (n - (k + 1)) (k + 1) ((K * X) * r + e)) (K * X - 1 - d) = true))), (8, .int (bI ((fun e => VV (K * X) (fun r => decide (moR (mbR (M 3) (M 2 0) K X P (M 5) r n n) = nI p)) (n - (k + 1)) (k + 1) ((K * X) * r + e)) (K * X - 1 - d) = true))), (5, .int fi1), (11, .int (bI ((fun e => VV (K * X) (fun r => decide (moR (mbR (M 3) (M 2 0) K X P (M 5) r n n) = nI p)) (n - (k + 1)) (k + 1) ((K * X) * r + e)) (K * X - 1 - d) = true))), (0, .ref (B + 0)), (1, .int (nI p)), (2, .int (nI n)), (3, .int (nI 0)), (4, .int (nI (K * X))), (6, .int (nI k)), (7, .int (nI r))] (dk dtX7_duel_1 43 rfl) rfl (dec_lem hdE) (by decide) rfl ?_
                                  refine g_goto F 123 (dk dtX7_duel_1 44 rfl) (by decide) ?_
                                  refine g_sub [5, 6, 7, 8, 9, 3, 10, 11, 2, 1, 0] (L1 := [(0, .ref (B + 0)), (1, .int (nI p)), (2, .int (nI n)), (3, .int (nI 0)), (4, .int (nI (K * X))), (5, .int fi1), (6, .int (nI k)), (7, .int (nI r)), (8, .int (bI ((fun e => VV (K * X) (fun r => decide (moR (mbR (M 3) (M 2 0) K X P (M 5) r n n) = nI p)) (n - (k + 1)) (k + 1) ((K * X) * r + e)) (K * X - 1 - d) = true))), (9, .int (bI ((fun e => VV (K * X) (fun r => decide (moR (mbR (M 3) (M 2 0) K X P (M 5) r n n) = nI p)) (n - (k + 1)) (k + 1) ((K * X) * r + e)) (K * X - 1 - d) = true))), (10, .int (nI (K * X - (d + 1)) - nI 1))]) rfl ?_
                                  refine g_st (M1 := setR (setR M 6 rw) 13 wn1) (L1 := [(0, .ref (B + 0)), (1, .int (nI p)), (2, .int (nI n)), (3, .int (nI 0)), (4, .int (nI (K * X))), (5, .int fi1), (6, .int (nI k)), (7, .int (nI r)), (8, .int (bI (anyD (fun e => VV (K * X) (fun r => decide (moR (mbR (M 3) (M 2 0) K X P (M 5) r n n) = nI p)) (n - (k + 1)) (k + 1) ((K * X) * r + e)) (K * X) (d + 1) = true))), (9, .int (bI (allD (fun e => VV (K * X) (fun r => decide (moR (mbR (M 3) (M 2 0) K X P (M 5) r n n) = nI p)) (n - (k + 1)) (k + 1) ((K * X) * r + e)) (K * X) (d + 1) = true))), (10, .int (nI (K * X - (d + 1)) - nI 1))]) rfl (lc rfl (lc rfl (lc rfl (lc rfl (lc rfl (lc rfl (lc rfl (lc rfl (lc (vi (mo_f c171)) (lc (vi (le_f c187)) rfl)))))))))) rfl ?_
                                  exact ih123 (d + 1) _ ⟨by omega, by rw [hfi, if_pos c145, if_pos c145, fsD_n c151]⟩ (by omega)
                            · -- not taken at 151
                              have hE16 : K * X - 1 - d < 2 ^ 31 := by omega
                              refine g_aload_n F 1 (dk dtX7_duel_1 23 rfl) rfl ?_
                              refine g_iload F 11 (dk dtX7_duel_1 24 rfl) rfl ?_
                              refine g_callVi F (As := [.int (nI (K * X - 1 - d))]) (st := []) cv_X7_173 (dk dtX7_duel_1 25 rfl) (by decide) (cm0 D B _ _) rfl rfl (Nat.le_of_ble_eq_true rfl) ⟨by decide, by decide⟩ (k_X7_saysOf l D B _ _ X ((congrFun (setR_ne _ _ (by decide)) _).trans ((congrFun (setR_ne _ _ (by decide)) _).trans hX)) hX1 hX4 (K * X - 1 - d) (by omega)) (fun r157 T157 M157 hp157 => ?_)
                              obtain ⟨e1, e2, e3⟩ := hp157
                              replace e1 := e1.symm; replace e2 := e2.symm; replace e3 := e3.symm; subst e1; subst e2; subst e3
                              refine g_goto F 165 (dk dtX7_duel_1 26 rfl) (by decide) ?_
                              refine g_istore F [(5, .int (nI (saE X (K * X - 1 - d)))), (11, .int (bI ((fun e => VV (K * X) (fun r => decide (moR (mbR (M 3) (M 2 0) K X P (M 5) r n n) = nI p)) (n - (k + 1)) (k + 1) ((K * X) * r + e)) (K * X - 1 - d) = true))), (0, .ref (B + 0)), (1, .int (nI p)), (2, .int (nI n)), (3, .int (nI 0)), (4, .int (nI (K * X))), (6, .int (nI k)), (7, .int (nI r)), (8, .int (bI (anyD (fun e => VV (K * X) (fun r => decide (moR (mbR (M 3) (M 2 0) K X P (M 5) r n n) = nI p)) (n - (k + 1)) (k + 1) ((K * X) * r + e)) (K * X) d = true))), (9, .int (bI (allD (fun e => VV (K * X) (fun r => decide (moR (mbR (M 3) (M 2 0) K X P (M 5) r n n) = nI p)) (n - (k + 1)) (k + 1) ((K * X) * r + e)) (K * X) d = true))), (10, .int (nI (K * X - 1 - d)))] (dk dtX7_duel_1 28 rfl) (by decide) rfl ?_
                              refine g_iload F 1 (dk dtX7_duel_1 29 rfl) rfl ?_
                              refine g_iload F 9 (dk dtX7_duel_1 30 rfl) rfl ?_
                              refine g_icmp_le F 179 (dk dtX7_duel_1 31 rfl) (by decide) (fun c171 => ?_) (fun c171 => ?_)
                              · -- taken at 171
                                refine g_iload F 9 (dk dtX7_duel_1 34 rfl) rfl ?_
                                refine g_istore F [(8, .int (bI (anyD (fun e => VV (K * X) (fun r => decide (moR (mbR (M 3) (M 2 0) K X P (M 5) r n n) = nI p)) (n - (k + 1)) (k + 1) ((K * X) * r + e)) (K * X) d = true))), (5, .int (nI (saE X (K * X - 1 - d)))), (11, .int (bI ((fun e => VV (K * X) (fun r => decide (moR (mbR (M 3) (M 2 0) K X P (M 5) r n n) = nI p)) (n - (k + 1)) (k + 1) ((K * X) * r + e)) (K * X - 1 - d) = true))), (0, .ref (B + 0)), (1, .int (nI p)), (2, .int (nI n)), (3, .int (nI 0)), (4, .int (nI (K * X))), (6, .int (nI k)), (7, .int (nI r)), (9, .int (bI (allD (fun e => VV (K * X) (fun r => decide (moR (mbR (M 3) (M 2 0) K X P (M 5) r n n) = nI p)) (n - (k + 1)) (k + 1) ((K * X) * r + e)) (K * X) d = true))), (10, .int (nI (K * X - 1 - d)))] (dk dtX7_duel_1 35 rfl) (by decide) rfl ?_
                                refine g_iload F 2 (dk dtX7_duel_1 36 rfl) rfl ?_
                                refine g_iload F 10 (dk dtX7_duel_1 37 rfl) rfl ?_
                                refine g_icmp_ge F 195 (dk dtX7_duel_1 38 rfl) (by decide) (fun c187 => ?_) (fun c187 => ?_)
                                · -- taken at 187
                                  refine g_iload F 10 (dk dtX7_duel_1 41 rfl) rfl ?_
                                  refine g_istore F [(9, .int (bI (allD (fun e => VV (K * X) (fun r => decide (moR (mbR (M 3) (M 2 0) K X P (M 5) r n n) = nI p)) (n - (k + 1)) (k + 1) ((K * X) * r + e)) (K * X) d = true))), (8, .int (bI (anyD (fun e => VV (K * X) (fun r => decide (moR (mbR (M 3) (M 2 0) K X P (M 5) r n n) = nI p)) (n - (k + 1)) (k + 1) ((K * X) * r + e)) (K * X) d = true))), (5, .int (nI (saE X (K * X - 1 - d)))), (11, .int (bI ((fun e => VV (K * X) (fun r => decide (moR (mbR (M 3) (M 2 0) K X P (M 5) r n n) = nI p)) (n - (k + 1)) (k + 1) ((K * X) * r + e)) (K * X - 1 - d) = true))), (0, .ref (B + 0)), (1, .int (nI p)), (2, .int (nI n)), (3, .int (nI 0)), (4, .int (nI (K * X))), (6, .int (nI k)), (7, .int (nI r)), (10, .int (nI (K * X - 1 - d)))] (dk dtX7_duel_1 42 rfl) (by decide) rfl ?_
                                  refine g_iinc F 11 (nI (K * X - (d + 1)) - nI 1) [(10, .int (nI (K * X - (d + 1)) - nI 1)), (9, .int (bI (allD (fun e => VV (K * X) (fun r => decide (moR (mbR (M 3) (M 2 0) K X P (M 5) r n n) = nI p)) (n - (k + 1)) (k + 1) ((K * X) * r + e)) (K * X) d = true))), (8, .int (bI (anyD (fun e => VV (K * X) (fun r => decide (moR (mbR (M 3) (M 2 0) K X P (M 5) r n n) = nI p)) (n - (k + 1)) (k + 1) ((K * X) * r + e)) (K * X) d = true))), (5, .int (nI (saE X (K * X - 1 - d)))), (11, .int (bI ((fun e => VV (K * X) (fun r => decide (moR (mbR (M 3) (M 2 0) K X P (M 5) r n n) = nI p)) (n - (k + 1)) (k + 1) ((K * X) * r + e)) (K * X - 1 - d) = true))), (0, .ref (B + 0)), (1, .int (nI p)), (2, .int (nI n)), (3, .int (nI 0)), (4, .int (nI (K * X))), (6, .int (nI k)), (7, .int (nI r))] (dk dtX7_duel_1 43 rfl) rfl (dec_lem hdE) (by decide) rfl ?_
                                  refine g_goto F 123 (dk dtX7_duel_1 44 rfl) (by decide) ?_
                                  refine g_sub [5, 6, 7, 8, 9, 3, 10, 11, 2, 1, 0] (L1 := [(0, .ref (B + 0)), (1, .int (nI p)), (2, .int (nI n)), (3, .int (nI 0)), (4, .int (nI (K * X))), (5, .int (nI (saE X (K * X - 1 - d)))), (6, .int (nI k)), (7, .int (nI r)), (8, .int (bI (anyD (fun e => VV (K * X) (fun r => decide (moR (mbR (M 3) (M 2 0) K X P (M 5) r n n) = nI p)) (n - (k + 1)) (k + 1) ((K * X) * r + e)) (K * X) d = true))), (9, .int (bI (allD (fun e => VV (K * X) (fun r => decide (moR (mbR (M 3) (M 2 0) K X P (M 5) r n n) = nI p)) (n - (k + 1)) (k + 1) ((K * X) * r + e)) (K * X) d = true))), (10, .int (nI (K * X - (d + 1)) - nI 1))]) rfl ?_
                                  refine g_st (M1 := setR (setR M 6 rw) 13 wn1) (L1 := [(0, .ref (B + 0)), (1, .int (nI p)), (2, .int (nI n)), (3, .int (nI 0)), (4, .int (nI (K * X))), (5, .int (nI (saE X (K * X - 1 - d)))), (6, .int (nI k)), (7, .int (nI r)), (8, .int (bI (anyD (fun e => VV (K * X) (fun r => decide (moR (mbR (M 3) (M 2 0) K X P (M 5) r n n) = nI p)) (n - (k + 1)) (k + 1) ((K * X) * r + e)) (K * X) (d + 1) = true))), (9, .int (bI (allD (fun e => VV (K * X) (fun r => decide (moR (mbR (M 3) (M 2 0) K X P (M 5) r n n) = nI p)) (n - (k + 1)) (k + 1) ((K * X) * r + e)) (K * X) (d + 1) = true))), (10, .int (nI (K * X - (d + 1)) - nI 1))]) rfl (lc rfl (lc rfl (lc rfl (lc rfl (lc rfl (lc rfl (lc rfl (lc rfl (lc (vi (mo_t c171)) (lc (vi (le_t c187)) rfl)))))))))) rfl ?_
                                  exact ih123 (d + 1) _ ⟨by omega, by rw [if_pos c145, fsD_y c151]⟩ (by omega)
                                · -- not taken at 187
                                  refine g_iload F 2 (dk dtX7_duel_1 39 rfl) rfl ?_
                                  refine g_goto F 197 (dk dtX7_duel_1 40 rfl) (by decide) ?_
                                  refine g_istore F [(9, .int (bI ((fun e => VV (K * X) (fun r => decide (moR (mbR (M 3) (M 2 0) K X P (M 5) r n n) = nI p)) (n - (k + 1)) (k + 1) ((K * X) * r + e)) (K * X - 1 - d) = true))), (8, .int (bI (anyD (fun e => VV (K * X) (fun r => decide (moR (mbR (M 3) (M 2 0) K X P (M 5) r n n) = nI p)) (n - (k + 1)) (k + 1) ((K * X) * r + e)) (K * X) d = true))), (5, .int (nI (saE X (K * X - 1 - d)))), (11, .int (bI ((fun e => VV (K * X) (fun r => decide (moR (mbR (M 3) (M 2 0) K X P (M 5) r n n) = nI p)) (n - (k + 1)) (k + 1) ((K * X) * r + e)) (K * X - 1 - d) = true))), (0, .ref (B + 0)), (1, .int (nI p)), (2, .int (nI n)), (3, .int (nI 0)), (4, .int (nI (K * X))), (6, .int (nI k)), (7, .int (nI r)), (10, .int (nI (K * X - 1 - d)))] (dk dtX7_duel_1 42 rfl) (by decide) rfl ?_
                                  refine g_iinc F 11 (nI (K * X - (d + 1)) - nI 1) [(10, .int (nI (K * X - (d + 1)) - nI 1)), (9, .int (bI ((fun e => VV (K * X) (fun r => decide (moR (mbR (M 3) (M 2 0) K X P (M 5) r n n) = nI p)) (n - (k + 1)) (k + 1) ((K * X) * r + e)) (K * X - 1 - d) = true))), (8, .int (bI (anyD (fun e => VV (K * X) (fun r => decide (moR (mbR (M 3) (M 2 0) K X P (M 5) r n n) = nI p)) (n - (k + 1)) (k + 1) ((K * X) * r + e)) (K * X) d = true))), (5, .int (nI (saE X (K * X - 1 - d)))), (11, .int (bI ((fun e => VV (K * X) (fun r => decide (moR (mbR (M 3) (M 2 0) K X P (M 5) r n n) = nI p)) (n - (k + 1)) (k + 1) ((K * X) * r + e)) (K * X - 1 - d) = true))), (0, .ref (B + 0)), (1, .int (nI p)), (2, .int (nI n)), (3, .int (nI 0)), (4, .int (nI (K * X))), (6, .int (nI k)), (7, .int (nI r))] (dk dtX7_duel_1 43 rfl) rfl (dec_lem hdE) (by decide) rfl ?_
                                  refine g_goto F 123 (dk dtX7_duel_1 44 rfl) (by decide) ?_
                                  refine g_sub [5, 6, 7, 8, 9, 3, 10, 11, 2, 1, 0] (L1 := [(0, .ref (B + 0)), (1, .int (nI p)), (2, .int (nI n)), (3, .int (nI 0)), (4, .int (nI (K * X))), (5, .int (nI (saE X (K * X - 1 - d)))), (6, .int (nI k)), (7, .int (nI r)), (8, .int (bI (anyD (fun e => VV (K * X) (fun r => decide (moR (mbR (M 3) (M 2 0) K X P (M 5) r n n) = nI p)) (n - (k + 1)) (k + 1) ((K * X) * r + e)) (K * X) d = true))), (9, .int (bI ((fun e => VV (K * X) (fun r => decide (moR (mbR (M 3) (M 2 0) K X P (M 5) r n n) = nI p)) (n - (k + 1)) (k + 1) ((K * X) * r + e)) (K * X - 1 - d) = true))), (10, .int (nI (K * X - (d + 1)) - nI 1))]) rfl ?_
                                  refine g_st (M1 := setR (setR M 6 rw) 13 wn1) (L1 := [(0, .ref (B + 0)), (1, .int (nI p)), (2, .int (nI n)), (3, .int (nI 0)), (4, .int (nI (K * X))), (5, .int (nI (saE X (K * X - 1 - d)))), (6, .int (nI k)), (7, .int (nI r)), (8, .int (bI (anyD (fun e => VV (K * X) (fun r => decide (moR (mbR (M 3) (M 2 0) K X P (M 5) r n n) = nI p)) (n - (k + 1)) (k + 1) ((K * X) * r + e)) (K * X) (d + 1) = true))), (9, .int (bI (allD (fun e => VV (K * X) (fun r => decide (moR (mbR (M 3) (M 2 0) K X P (M 5) r n n) = nI p)) (n - (k + 1)) (k + 1) ((K * X) * r + e)) (K * X) (d + 1) = true))), (10, .int (nI (K * X - (d + 1)) - nI 1))]) rfl (lc rfl (lc rfl (lc rfl (lc rfl (lc rfl (lc rfl (lc rfl (lc rfl (lc (vi (mo_t c171)) (lc (vi (le_f c187)) rfl)))))))))) rfl ?_
                                  exact ih123 (d + 1) _ ⟨by omega, by rw [if_pos c145, fsD_y c151]⟩ (by omega)
                              · -- not taken at 171
                                refine g_iload F 1 (dk dtX7_duel_1 32 rfl) rfl ?_
                                refine g_goto F 181 (dk dtX7_duel_1 33 rfl) (by decide) ?_
                                refine g_istore F [(8, .int (bI ((fun e => VV (K * X) (fun r => decide (moR (mbR (M 3) (M 2 0) K X P (M 5) r n n) = nI p)) (n - (k + 1)) (k + 1) ((K * X) * r + e)) (K * X - 1 - d) = true))), (5, .int (nI (saE X (K * X - 1 - d)))), (11, .int (bI ((fun e => VV (K * X) (fun r => decide (moR (mbR (M 3) (M 2 0) K X P (M 5) r n n) = nI p)) (n - (k + 1)) (k + 1) ((K * X) * r + e)) (K * X - 1 - d) = true))), (0, .ref (B + 0)), (1, .int (nI p)), (2, .int (nI n)), (3, .int (nI 0)), (4, .int (nI (K * X))), (6, .int (nI k)), (7, .int (nI r)), (9, .int (bI (allD (fun e => VV (K * X) (fun r => decide (moR (mbR (M 3) (M 2 0) K X P (M 5) r n n) = nI p)) (n - (k + 1)) (k + 1) ((K * X) * r + e)) (K * X) d = true))), (10, .int (nI (K * X - 1 - d)))] (dk dtX7_duel_1 35 rfl) (by decide) rfl ?_
                                refine g_iload F 2 (dk dtX7_duel_1 36 rfl) rfl ?_
                                refine g_iload F 10 (dk dtX7_duel_1 37 rfl) rfl ?_
                                refine g_icmp_ge F 195 (dk dtX7_duel_1 38 rfl) (by decide) (fun c187 => ?_) (fun c187 => ?_)
                                · -- taken at 187
                                  refine g_iload F 10 (dk dtX7_duel_1 41 rfl) rfl ?_
                                  refine g_istore F [(9, .int (bI (allD (fun e => VV (K * X) (fun r => decide (moR (mbR (M 3) (M 2 0) K X P (M 5) r n n) = nI p)) (n - (k + 1)) (k + 1) ((K * X) * r + e)) (K * X) d = true))), (8, .int (bI ((fun e => VV (K * X) (fun r => decide (moR (mbR (M 3) (M 2 0) K X P (M 5) r n n) = nI p)) (n - (k + 1)) (k + 1) ((K * X) * r + e)) (K * X - 1 - d) = true))), (5, .int (nI (saE X (K * X - 1 - d)))), (11, .int (bI ((fun e => VV (K * X) (fun r => decide (moR (mbR (M 3) (M 2 0) K X P (M 5) r n n) = nI p)) (n - (k + 1)) (k + 1) ((K * X) * r + e)) (K * X - 1 - d) = true))), (0, .ref (B + 0)), (1, .int (nI p)), (2, .int (nI n)), (3, .int (nI 0)), (4, .int (nI (K * X))), (6, .int (nI k)), (7, .int (nI r)), (10, .int (nI (K * X - 1 - d)))] (dk dtX7_duel_1 42 rfl) (by decide) rfl ?_
                                  refine g_iinc F 11 (nI (K * X - (d + 1)) - nI 1) [(10, .int (nI (K * X - (d + 1)) - nI 1)), (9, .int (bI (allD (fun e => VV (K * X) (fun r => decide (moR (mbR (M 3) (M 2 0) K X P (M 5) r n n) = nI p)) (n - (k + 1)) (k + 1) ((K * X) * r + e)) (K * X) d = true))), (8, .int (bI ((fun e => VV (K * X) (fun r => decide (moR (mbR (M 3) (M 2 0) K X P (M 5) r n n) = nI p)) (n - (k + 1)) (k + 1) ((K * X) * r + e)) (K * X - 1 - d) = true))), (5, .int (nI (saE X (K * X - 1 - d)))), (11, .int (bI ((fun e => VV (K * X) (fun r => decide (moR (mbR (M 3) (M 2 0) K X P (M 5) r n n) = nI p)) (n - (k + 1)) (k + 1) ((K * X) * r + e)) (K * X - 1 - d) = true))), (0, .ref (B + 0)), (1, .int (nI p)), (2, .int (nI n)), (3, .int (nI 0)), (4, .int (nI (K * X))), (6, .int (nI k)), (7, .int (nI r))] (dk dtX7_duel_1 43 rfl) rfl (dec_lem hdE) (by decide) rfl ?_
                                  refine g_goto F 123 (dk dtX7_duel_1 44 rfl) (by decide) ?_
                                  refine g_sub [5, 6, 7, 8, 9, 3, 10, 11, 2, 1, 0] (L1 := [(0, .ref (B + 0)), (1, .int (nI p)), (2, .int (nI n)), (3, .int (nI 0)), (4, .int (nI (K * X))), (5, .int (nI (saE X (K * X - 1 - d)))), (6, .int (nI k)), (7, .int (nI r)), (8, .int (bI ((fun e => VV (K * X) (fun r => decide (moR (mbR (M 3) (M 2 0) K X P (M 5) r n n) = nI p)) (n - (k + 1)) (k + 1) ((K * X) * r + e)) (K * X - 1 - d) = true))), (9, .int (bI (allD (fun e => VV (K * X) (fun r => decide (moR (mbR (M 3) (M 2 0) K X P (M 5) r n n) = nI p)) (n - (k + 1)) (k + 1) ((K * X) * r + e)) (K * X) d = true))), (10, .int (nI (K * X - (d + 1)) - nI 1))]) rfl ?_
                                  refine g_st (M1 := setR (setR M 6 rw) 13 wn1) (L1 := [(0, .ref (B + 0)), (1, .int (nI p)), (2, .int (nI n)), (3, .int (nI 0)), (4, .int (nI (K * X))), (5, .int (nI (saE X (K * X - 1 - d)))), (6, .int (nI k)), (7, .int (nI r)), (8, .int (bI (anyD (fun e => VV (K * X) (fun r => decide (moR (mbR (M 3) (M 2 0) K X P (M 5) r n n) = nI p)) (n - (k + 1)) (k + 1) ((K * X) * r + e)) (K * X) (d + 1) = true))), (9, .int (bI (allD (fun e => VV (K * X) (fun r => decide (moR (mbR (M 3) (M 2 0) K X P (M 5) r n n) = nI p)) (n - (k + 1)) (k + 1) ((K * X) * r + e)) (K * X) (d + 1) = true))), (10, .int (nI (K * X - (d + 1)) - nI 1))]) rfl (lc rfl (lc rfl (lc rfl (lc rfl (lc rfl (lc rfl (lc rfl (lc rfl (lc (vi (mo_f c171)) (lc (vi (le_t c187)) rfl)))))))))) rfl ?_
                                  exact ih123 (d + 1) _ ⟨by omega, by rw [if_pos c145, fsD_y c151]⟩ (by omega)
                                · -- not taken at 187
                                  refine g_iload F 2 (dk dtX7_duel_1 39 rfl) rfl ?_
                                  refine g_goto F 197 (dk dtX7_duel_1 40 rfl) (by decide) ?_
                                  refine g_istore F [(9, .int (bI ((fun e => VV (K * X) (fun r => decide (moR (mbR (M 3) (M 2 0) K X P (M 5) r n n) = nI p)) (n - (k + 1)) (k + 1) ((K * X) * r + e)) (K * X - 1 - d) = true))), (8, .int (bI ((fun e => VV (K * X) (fun r => decide (moR (mbR (M 3) (M 2 0) K X P (M 5) r n n) = nI p)) (n - (k + 1)) (k + 1) ((K * X) * r + e)) (K * X - 1 - d) = true))), (5, .int (nI (saE X (K * X - 1 - d)))), (11, .int (bI ((fun e => VV (K * X) (fun r => decide (moR (mbR (M 3) (M 2 0) K X P (M 5) r n n) = nI p)) (n - (k + 1)) (k + 1) ((K * X) * r + e)) (K * X - 1 - d) = true))), (0, .ref (B + 0)), (1, .int (nI p)), (2, .int (nI n)), (3, .int (nI 0)), (4, .int (nI (K * X))), (6, .int (nI k)), (7, .int (nI r)), (10, .int (nI (K * X - 1 - d)))] (dk dtX7_duel_1 42 rfl) (by decide) rfl ?_
                                  refine g_iinc F 11 (nI (K * X - (d + 1)) - nI 1) [(10, .int (nI (K * X - (d + 1)) - nI 1)), (9, .int (bI ((fun e => VV (K * X) (fun r => decide (moR (mbR (M 3) (M 2 0) K X P (M 5) r n n) = nI p)) (n - (k + 1)) (k + 1) ((K * X) * r + e)) (K * X - 1 - d) = true))), (8, .int (bI ((fun e => VV (K * X) (fun r => decide (moR (mbR (M 3) (M 2 0) K X P (M 5) r n n) = nI p)) (n - (k + 1)) (k + 1) ((K * X) * r + e)) (K * X - 1 - d) = true))), (5, .int (nI (saE X (K * X - 1 - d)))), (11, .int (bI ((fun e => VV (K * X) (fun r => decide (moR (mbR (M 3) (M 2 0) K X P (M 5) r n n) = nI p)) (n - (k + 1)) (k + 1) ((K * X) * r + e)) (K * X - 1 - d) = true))), (0, .ref (B + 0)), (1, .int (nI p)), (2, .int (nI n)), (3, .int (nI 0)), (4, .int (nI (K * X))), (6, .int (nI k)), (7, .int (nI r))] (dk dtX7_duel_1 43 rfl) rfl (dec_lem hdE) (by decide) rfl ?_
                                  refine g_goto F 123 (dk dtX7_duel_1 44 rfl) (by decide) ?_
                                  refine g_sub [5, 6, 7, 8, 9, 3, 10, 11, 2, 1, 0] (L1 := [(0, .ref (B + 0)), (1, .int (nI p)), (2, .int (nI n)), (3, .int (nI 0)), (4, .int (nI (K * X))), (5, .int (nI (saE X (K * X - 1 - d)))), (6, .int (nI k)), (7, .int (nI r)), (8, .int (bI ((fun e => VV (K * X) (fun r => decide (moR (mbR (M 3) (M 2 0) K X P (M 5) r n n) = nI p)) (n - (k + 1)) (k + 1) ((K * X) * r + e)) (K * X - 1 - d) = true))), (9, .int (bI ((fun e => VV (K * X) (fun r => decide (moR (mbR (M 3) (M 2 0) K X P (M 5) r n n) = nI p)) (n - (k + 1)) (k + 1) ((K * X) * r + e)) (K * X - 1 - d) = true))), (10, .int (nI (K * X - (d + 1)) - nI 1))]) rfl ?_
                                  refine g_st (M1 := setR (setR M 6 rw) 13 wn1) (L1 := [(0, .ref (B + 0)), (1, .int (nI p)), (2, .int (nI n)), (3, .int (nI 0)), (4, .int (nI (K * X))), (5, .int (nI (saE X (K * X - 1 - d)))), (6, .int (nI k)), (7, .int (nI r)), (8, .int (bI (anyD (fun e => VV (K * X) (fun r => decide (moR (mbR (M 3) (M 2 0) K X P (M 5) r n n) = nI p)) (n - (k + 1)) (k + 1) ((K * X) * r + e)) (K * X) (d + 1) = true))), (9, .int (bI (allD (fun e => VV (K * X) (fun r => decide (moR (mbR (M 3) (M 2 0) K X P (M 5) r n n) = nI p)) (n - (k + 1)) (k + 1) ((K * X) * r + e)) (K * X) (d + 1) = true))), (10, .int (nI (K * X - (d + 1)) - nI 1))]) rfl (lc rfl (lc rfl (lc rfl (lc rfl (lc rfl (lc rfl (lc rfl (lc rfl (lc (vi (mo_f c171)) (lc (vi (le_f c187)) rfl)))))))))) rfl ?_
                                  exact ih123 (d + 1) _ ⟨by omega, by rw [if_pos c145, fsD_y c151]⟩ (by omega)
                    refine g_sub [3, 4, 5, 6, 7, 8, 9, 10, 2, 1, 0] (L1 := [(0, .ref (B + 0)), (1, .int (nI p)), (2, .int (nI n)), (3, .int (nI 0)), (4, .int (nI (K * X))), (5, .int fi), (6, .int (nI k)), (7, .int (nI r)), (8, .int (nI 0)), (9, .int (nI 1)), (10, .int (nI ((K * X) - 1)))]) rfl ?_
                    refine g_st (M1 := setR (setR M 6 rw) 13 wn1) (L1 := [(0, .ref (B + 0)), (1, .int (nI p)), (2, .int (nI n)), (3, .int (nI 0)), (4, .int (nI (K * X))), (5, .int fi), (6, .int (nI k)), (7, .int (nI r)), (8, .int (bI (anyD (fun e => VV (K * X) (fun r => decide (moR (mbR (M 3) (M 2 0) K X P (M 5) r n n) = nI p)) (n - (k + 1)) (k + 1) ((K * X) * r + e)) (K * X) 0 = true))), (9, .int (bI (allD (fun e => VV (K * X) (fun r => decide (moR (mbR (M 3) (M 2 0) K X P (M 5) r n n) = nI p)) (n - (k + 1)) (k + 1) ((K * X) * r + e)) (K * X) 0 = true))), (10, .int (nI (K * X - 0) - nI 1))]) rfl (lc rfl (lc rfl (lc rfl (lc rfl (lc rfl (lc rfl (lc rfl (lc rfl (lc (vi (bI_f Bool.false_ne_true).symm) (lc (vi (bI_t rfl).symm) (lc (vi (pk_sub (by omega)).symm) rfl))))))))))) rfl ?_
                    exact lp123 (K * X + 1) 0 fi ⟨by omega, by
                      by_cases hk0 : k = 0
                      · rw [if_pos hk0]; exact (hI99.2.2.2.1 hk0).1 (by subst hk0; simp at c108; omega)
                      · rw [if_neg hk0]; exact hI99.2.2.2.2 (by omega)⟩ (by omega)
              refine g_sub [1, 2, 3, 4, 5, 6, 7, 0] (L1 := [(0, .ref (B + 0)), (1, .int (nI p)), (2, .int (nI n)), (3, .int (nI 0)), (4, .int (nI (K * X))), (5, .int fi), (6, .int (nI k)), (7, .int (nI 0))]) rfl ?_
              exact lp99 ((K * X) ^ k + 1) 0 fi wn ⟨Nat.zero_le _, fun r1 h => absurd h (Nat.not_lt_zero _), fun q _ h => hI91.2.1 q h, fun _ => ⟨fun _ => hI91.2.2.1 (by omega), fun h => absurd h (Nat.lt_irrefl 0)⟩, fun _ => hI91.2.2.1 (by omega)⟩ (by omega)
        refine g_sub [2, 3, 4, 5, 6, 1, 0] (L1 := [(0, .ref (B + 0)), (1, .int (nI p)), (2, .int (nI n)), (3, .int (nI 0)), (4, .int (nI (K * X))), (5, .int (-9)), (6, .int ((nI n) - (nI 1)))]) rfl ?_
        exact lp91 (n + 1) n (-9) wn ⟨by omega, fun r1 h => by rw [Nat.sub_self]; exact hI42.2 r1 (by omega), fun _ => rfl, fun h => by rw [if_pos h]⟩ (by omega)
      · -- not taken at 50
        refine g_aload_n F 0 (dk dtX7_duel_0 29 rfl) rfl ?_
        refine g_get F fa_X7_47 (dk dtX7_duel_0 30 rfl) (by decide) (cm0 D B _ _) rfl ?_
        refine g_iload F 5 (dk dtX7_duel_0 31 rfl) rfl ?_
        refine g_aload_n F 0 (dk dtX7_duel_0 32 rfl) rfl ?_
        refine g_iload F 5 (dk dtX7_duel_0 33 rfl) rfl ?_
        refine g_iload_n F 2 (dk dtX7_duel_0 34 rfl) rfl ?_
        refine g_callVi F (As := [.int (nI r), .int (nI n)]) (st := [.int (nI r), .ref (B + 13)]) cv_X7_170 (dk dtX7_duel_0 35 rfl) (by decide) (cm0 D B _ _) rfl rfl (Nat.le_of_ble_eq_true rfl) ⟨by decide, by decide⟩ (k_X7_mayorByR l D B _ _ K X (M 3) (M 2 0) (M 5) ((setR_ne _ _ (by decide)).trans (setR_ne _ _ (by decide))) (congrFun ((setR_ne _ _ (by decide)).trans (setR_ne _ _ (by decide))) 0) ((setR_ne _ _ (by decide)).trans (setR_ne _ _ (by decide))) hK ((congrFun (setR_ne _ _ (by decide)) _).trans ((congrFun (setR_ne _ _ (by decide)) _).trans hX)) hK1 hK4 hX1 hX4 P ((congrFun (setR_ne _ _ (by decide)) _).trans ((congrFun (setR_ne _ _ (by decide)) _).trans hP)) hP5 hW r n (by omega) (by omega)) (fun r63 T63 M63 hp63 => ?_)
        obtain ⟨e1, e2, e3⟩ := hp63
        replace e1 := e1.symm; replace e2 := e2.symm; replace e3 := e3.symm; subst e1; subst e2; subst e3
        refine g_iload_n F 1 (dk dtX7_duel_0 36 rfl) rfl ?_
        refine g_icmp_ne F 74 (dk dtX7_duel_0 37 rfl) (by decide) (fun c67 => ?_) (fun c67 => ?_)
        · -- taken at 67
          refine g_iconst F (nI 0) (dk dtX7_duel_0 40 rfl) (by decide) ?_
          refine g_iast F (r) (dk dtX7_duel_0 41 rfl) (by decide) (fun r => cm13 D B _ r) (by omega) (by decide) ?_
          refine g_iinc F 5 (nI (r + 1)) [(5, .int (nI (r + 1))), (0, .ref (B + 0)), (1, .int (nI p)), (2, .int (nI n)), (3, .int (nI 0)), (4, .int (nI (K * X)))] (dk dtX7_duel_0 42 rfl) rfl (nI_1 _) (by decide) rfl ?_
          refine g_goto F 42 (dk dtX7_duel_0 43 rfl) (by decide) ?_
          refine g_sub [1, 2, 3, 4, 5, 0] (L1 := [(0, .ref (B + 0)), (1, .int (nI p)), (2, .int (nI n)), (3, .int (nI 0)), (4, .int (nI (K * X))), (5, .int (nI (r + 1)))]) rfl ?_
          refine g_mem (duel_1 M rw _ wn r _) ?_
          exact ih42 (r + 1) _ _ ⟨by omega, fun r1 h1 => by
            by_cases hr1 : r1 = r
            · subst hr1
              simp only [upd, if_true]
              exact (bI_f (fun h => c67 (of_decide_eq_true h))).symm
            · simp only [upd, if_neg hr1]
              exact hI42.2 r1 (by omega)⟩ (by omega)
        · -- not taken at 67
          refine g_iconst F (nI 1) (dk dtX7_duel_0 38 rfl) (by decide) ?_
          refine g_goto F 75 (dk dtX7_duel_0 39 rfl) (by decide) ?_
          refine g_iast F (r) (dk dtX7_duel_0 41 rfl) (by decide) (fun r => cm13 D B _ r) (by omega) (by decide) ?_
          refine g_iinc F 5 (nI (r + 1)) [(5, .int (nI (r + 1))), (0, .ref (B + 0)), (1, .int (nI p)), (2, .int (nI n)), (3, .int (nI 0)), (4, .int (nI (K * X)))] (dk dtX7_duel_0 42 rfl) rfl (nI_1 _) (by decide) rfl ?_
          refine g_goto F 42 (dk dtX7_duel_0 43 rfl) (by decide) ?_
          refine g_sub [1, 2, 3, 4, 5, 0] (L1 := [(0, .ref (B + 0)), (1, .int (nI p)), (2, .int (nI n)), (3, .int (nI 0)), (4, .int (nI (K * X))), (5, .int (nI (r + 1)))]) rfl ?_
          refine g_mem (duel_1 M rw _ wn r _) ?_
          exact ih42 (r + 1) _ _ ⟨by omega, fun r1 h1 => by
            by_cases hr1 : r1 = r
            · subst hr1
              simp only [upd, if_true]
              exact (bI_t (decide_eq_true c67)).symm
            · simp only [upd, if_neg hr1]
              exact hI42.2 r1 (by omega)⟩ (by omega)
  refine g_sub [2, 3, 4, 5, 1, 0] (L1 := [(0, .ref (B + 0)), (1, .int (nI p)), (2, .int (nI n)), (3, .int (nI 0)), (4, .int (nI (K * X))), (5, .int (nI 0))]) rfl ?_
  exact g_mem (duel_0 M) (lp42 ((K * X) ^ n + 1) 0 (M 6) (M 13) ⟨by omega, fun r1 h => absurd h (Nat.not_lt_zero _)⟩ (by omega))
set_option maxRecDepth 100000 in
set_option maxHeartbeats 4000000 in
theorem k_X7_duel_1 (l : Launch) (D : DX) (B : Nat) (T : Int64) (M : Mem) (h0 : M 0 0 = nI 0) (K X : Nat) (hK : M 2 0 = nI K) (hX : M 2 1 = nI X) (hK1 : 1 ≤ K) (hK4 : K ≤ 4) (hX1 : 1 ≤ X) (hX4 : X ≤ 4) (P : Nat) (hP : M 2 2 = nI P) (hP5 : P ≤ 5) (hW : WR (M 5)) (p n : Nat) (hp : p < P) (hn : n ≤ 3)  : Ci l D B 14 (celM D B) yX7_duel cX7_duel 12 (some .int) 4 [.ref (B + 0), .int (nI p), .int (nI n), .int (nI 1)] T M (fun rz T1 M1 => rz = (if n = 0 then -9 else fsD (fun e => VV (K * X) (fun r => decide (moR (mbR (M 3) (M 2 0) K X P (M 5) r n n) = nI p)) (n - 1) 1 e) (K * X) X (K * X)) ∧ T1 = T ∧ Sm M M1) := by
  have hpw := pw_le hK4 hX4 (show n ≤ 3 by omega)
  have hkx := kx_le hK4 hX4
  have hkp : 0 < K * X := Nat.mul_pos hK1 hX1
  refine g_entryi (L := [(0, .ref (B + 0)), (1, .int (nI p)), (2, .int (nI n)), (3, .int (nI 1))]) (by decide) (Nat.le_of_ble_eq_true rfl) rfl ?_
  intro zp ze zs zm zb zt zc Q F hQ
  refine g_aload_n F 0 (dk dtX7_duel_0 0 rfl) rfl ?_
  refine g_iconst F (nI 0) (dk dtX7_duel_0 1 rfl) (by decide) ?_
  refine g_put F fa_X7_56 (dk dtX7_duel_0 2 rfl) (by decide) (cm0 D B _ _) (Nat.le_of_ble_eq_true rfl) rfl rfl ((cm0 D B _ _).trans st_Mod_0) ?_
  refine g_mem (up2_same h0) ?_
  refine g_aload_n F 0 (dk dtX7_duel_0 3 rfl) rfl ?_
  refine g_iload_n F 1 (dk dtX7_duel_0 4 rfl) rfl ?_
  refine g_callVi F (As := [.int (nI p)]) (st := []) cv_X7_129 (dk dtX7_duel_0 5 rfl) (by decide) (cm0 D B _ _) rfl rfl (Nat.le_of_ble_eq_true rfl) ⟨by decide, by decide⟩ (k_X7_isOne l D B _ _ _ P hP (by omega)) (fun r7 T7 M7 hp7 => ?_)
  obtain ⟨e1, e2, e3⟩ := hp7
  replace e1 := e1.symm; replace e2 := e2.symm; replace e3 := e3.symm; subst e1; subst e2; subst e3
  refine g_if_eqB F 31 (dk dtX7_duel_0 6 rfl) (by decide) (fun c => absurd (inR_nI (by omega)) c) (fun _ => ?_)
  refine g_iload_n F 2 (dk dtX7_duel_0 7 rfl) rfl ?_
  refine g_iconst F (nI 0) (dk dtX7_duel_0 8 rfl) (by decide) ?_
  refine g_iconst F (nI 3) (dk dtX7_duel_0 9 rfl) (by decide) ?_
  refine g_callSi F (As := [.int (nI n), .int (nI 0), .int (nI 3)]) (st := []) cs_X7_60 (dk dtX7_duel_0 10 rfl) rfl rfl (Nat.le_of_ble_eq_true rfl) ⟨by decide, by decide⟩ (k_X7_inR l D B _ _ _ 3 (by decide)) (fun r16 T16 M16 hp16 => ?_)
  obtain ⟨e1, e2, e3⟩ := hp16
  replace e1 := e1.symm; replace e2 := e2.symm; replace e3 := e3.symm; subst e1; subst e2; subst e3
  refine g_if_eqB F 31 (dk dtX7_duel_0 11 rfl) (by decide) (fun c => absurd (inR_nI (by omega)) c) (fun _ => ?_)
  refine g_iload_n F 3 (dk dtX7_duel_0 12 rfl) rfl ?_
  refine g_iconst F (nI 0) (dk dtX7_duel_0 13 rfl) (by decide) ?_
  refine g_iconst F (nI 1) (dk dtX7_duel_0 14 rfl) (by decide) ?_
  refine g_callSi F (As := [.int (nI 1), .int (nI 0), .int (nI 1)]) (st := []) cs_X7_60 (dk dtX7_duel_0 15 rfl) rfl rfl (Nat.le_of_ble_eq_true rfl) ⟨by decide, by decide⟩ (k_X7_inR l D B _ _ _ 1 (by decide)) (fun r25 T25 M25 hp25 => ?_)
  obtain ⟨e1, e2, e3⟩ := hp25
  replace e1 := e1.symm; replace e2 := e2.symm; replace e3 := e3.symm; subst e1; subst e2; subst e3
  refine g_if_neB F 33 (dk dtX7_duel_0 16 rfl) (by decide) (fun _ => ?_) (fun c => absurd (inR_nI (by omega)) c)
  refine g_aload_n F 0 (dk dtX7_duel_0 19 rfl) rfl ?_
  refine g_callVi F (As := []) (st := []) cv_X7_160 (dk dtX7_duel_0 20 rfl) (by decide) (cm0 D B _ _) rfl rfl (Nat.le_of_ble_eq_true rfl) ⟨by decide, by decide⟩ (k_X7_events l D B _ _ K X hK hX) (fun r34 T34 M34 hp34 => ?_)
  obtain ⟨e1, e2, e3⟩ := hp34
  replace e1 := e1.symm; replace e2 := e2.symm; replace e3 := e3.symm; subst e1; subst e2; subst e3
  refine g_istore F [(4, .int (nI (K * X))), (0, .ref (B + 0)), (1, .int (nI p)), (2, .int (nI n)), (3, .int (nI 1))] (dk dtX7_duel_0 21 rfl) (by decide) rfl ?_
  refine g_iconst F (nI 0) (dk dtX7_duel_0 22 rfl) (by decide) ?_
  refine g_istore F [(5, .int (nI 0)), (4, .int (nI (K * X))), (0, .ref (B + 0)), (1, .int (nI p)), (2, .int (nI n)), (3, .int (nI 1))] (dk dtX7_duel_0 23 rfl) (by decide) rfl ?_
  have lp42 : ∀ (fz : Nat) (r : Nat) (rw wn : Nat → Int32), (r ≤ (K * X) ^ n ∧ ∀ r1, r1 < r → wn r1 = bI (VV (K * X) (fun r => decide (moR (mbR (M 3) (M 2 0) K X P (M 5) r n n) = nI p)) 0 n r1 = true)) → ((K * X) ^ n - r) < fz → G zp l ze { frames := 4, cells := 0, slots := 0, locals := 40 * 4 } zs zm [.ref (B + 0), .int (nI p), .int (nI n), .int (nI 1)].toArray zb zt zc 12 D B 14 (celM D B) Q T (setR (setR M 6 rw) 13 wn) 42 [(0, .ref (B + 0)), (1, .int (nI p)), (2, .int (nI n)), (3, .int (nI 1)), (4, .int (nI (K * X))), (5, .int (nI r))] [] := by
    intro n42
    induction n42 with
    | zero => intro r rw wn hI hn; exact absurd hn (Nat.not_lt_zero _)
    | succ n42 ih42 =>
      intro r rw wn hI42 hn42
      refine g_iload F 5 (dk dtX7_duel_0 24 rfl) rfl ?_
      refine g_iload F 4 (dk dtX7_duel_0 25 rfl) rfl ?_
      refine g_iload_n F 2 (dk dtX7_duel_0 26 rfl) rfl ?_
      refine g_callSi F (As := [.int (nI (K * X)), .int (nI n)]) (st := [.int (nI r)]) cs_X7_163 (dk dtX7_duel_0 27 rfl) rfl rfl (Nat.le_of_ble_eq_true rfl) ⟨by decide, by decide⟩ (k_X7_power l D B _ _ (K * X) n (by omega)) (fun r47 T47 M47 hp47 => ?_)
      obtain ⟨e1, e2, e3⟩ := hp47
      replace e1 := e1.symm; replace e2 := e2.symm; replace e3 := e3.symm; subst e1; subst e2; subst e3
      refine g_icmp_geN F 82 (dk dtX7_duel_0 28 rfl) (by decide) (by omega) (by omega) (fun c50 => ?_) (fun c50 => ?_)
      · -- taken at 50
        refine g_bipush F (-9) (dk dtX7_duel_0 44 rfl) (by decide) ?_
        refine g_istore F [(5, .int (-9)), (0, .ref (B + 0)), (1, .int (nI p)), (2, .int (nI n)), (3, .int (nI 1)), (4, .int (nI (K * X)))] (dk dtX7_duel_0 45 rfl) (by decide) rfl ?_
        refine g_iload_n F 3 (dk dtX7_duel_0 46 rfl) rfl ?_
        refine g_iconst F (nI 1) (dk dtX7_duel_0 47 rfl) (by decide) ?_
        refine g_isub F (dk dtX7_duel_0 48 rfl) ?_
        refine g_istore F [(6, .int ((nI n) - (nI 1))), (5, .int (-9)), (0, .ref (B + 0)), (1, .int (nI p)), (2, .int (nI n)), (3, .int (nI 1)), (4, .int (nI (K * X)))] (dk dtX7_duel_0 49 rfl) (by decide) rfl ?_
        have lp91 : ∀ (fz : Nat) (kk : Nat) (fi : Int32) (wn : Nat → Int32), (kk ≤ n ∧ (∀ r1, r1 < (K * X) ^ kk → wn r1 = bI (VV (K * X) (fun r => decide (moR (mbR (M 3) (M 2 0) K X P (M 5) r n n) = nI p)) (n - kk) kk r1 = true)) ∧ (0 < kk → fi = -9) ∧ (kk = 0 → fi = (if n = 0 then -9 else fsD (fun e => VV (K * X) (fun r => decide (moR (mbR (M 3) (M 2 0) K X P (M 5) r n n) = nI p)) (n - 1) 1 e) (K * X) X (K * X)))) → kk < fz → G zp l ze { frames := 4, cells := 0, slots := 0, locals := 40 * 4 } zs zm [.ref (B + 0), .int (nI p), .int (nI n), .int (nI 1)].toArray zb zt zc 12 D B 14 (celM D B) Q T (setR (setR M 6 rw) 13 wn) 91 [(0, .ref (B + 0)), (1, .int (nI p)), (2, .int (nI n)), (3, .int (nI 1)), (4, .int (nI (K * X))), (5, .int fi), (6, .int (nI kk - nI 1))] [] := by
          intro n91
          induction n91 with
          | zero => intro kk fi wn hI hn; exact absurd hn (Nat.not_lt_zero _)
          | succ n91 ih91 =>
            intro kk fi wn hI91 hn91
            refine g_iload F 6 (dk dtX7_duel_0 50 rfl) rfl ?_
            refine g_if_lt F 238 (dk dtX7_duel_0 51 rfl) (by decide) (fun c93 => ?_) (fun c93 => ?_)
            · -- taken at 93
              obtain rfl : 0 = kk := (m1_lt (by omega) c93).symm
              refine g_iload_n F 3 (dk dtX7_duel_2 0 rfl) rfl ?_
              refine g_if_neN F 251 (dk dtX7_duel_2 1 rfl) (by decide) (by decide) (fun _ => ?_) (fun c => absurd c (by decide))
              refine g_iload F 5 (dk dtX7_duel_2 7 rfl) rfl ?_
              refine g_iret (F := F) hQ (dk dtX7_duel_2 8 rfl) ?_
              exact ⟨hI91.2.2.2 rfl, rfl, fun i h6 h13 => by rw [setR_ne _ _ h13, setR_ne _ _ h6]⟩
            · -- not taken at 93
              obtain ⟨k, rfl⟩ : ∃ k, kk = k + 1 := ⟨kk - 1, by have := m1_nlt2 (by omega) c93; omega⟩
              refine g_st (M1 := setR (setR M 6 rw) 13 wn) (L1 := [(0, .ref (B + 0)), (1, .int (nI p)), (2, .int (nI n)), (3, .int (nI 1)), (4, .int (nI (K * X))), (5, .int fi), (6, .int (nI k))]) rfl (lc rfl (lc rfl (lc rfl (lc rfl (lc rfl (lc rfl (lc (vi (nI_pred k)) rfl))))))) rfl ?_
              refine g_iconst F (nI 0) (dk dtX7_duel_0 52 rfl) (by decide) ?_
              refine g_istore F [(7, .int (nI 0)), (0, .ref (B + 0)), (1, .int (nI p)), (2, .int (nI n)), (3, .int (nI 1)), (4, .int (nI (K * X))), (5, .int fi), (6, .int (nI k))] (dk dtX7_duel_0 53 rfl) (by decide) rfl ?_
              have lp99 : ∀ (fz : Nat) (r : Nat) (fi : Int32) (wn1 : Nat → Int32), (r ≤ (K * X) ^ k ∧ (∀ r1, r1 < r → wn1 r1 = bI (VV (K * X) (fun r => decide (moR (mbR (M 3) (M 2 0) K X P (M 5) r n n) = nI p)) (n - k) k r1 = true)) ∧ (∀ q, (K * X) * r ≤ q → q < (K * X) ^ (k + 1) → wn1 q = bI (VV (K * X) (fun r => decide (moR (mbR (M 3) (M 2 0) K X P (M 5) r n n) = nI p)) (n - (k + 1)) (k + 1) q = true)) ∧ (k = 0 → (r = 0 → fi = -9) ∧ (0 < r → fi = (if n = 0 then -9 else fsD (fun e => VV (K * X) (fun r => decide (moR (mbR (M 3) (M 2 0) K X P (M 5) r n n) = nI p)) (n - 1) 1 e) (K * X) X (K * X)))) ∧ (0 < k → fi = -9)) → ((K * X) ^ k - r) < fz → G zp l ze { frames := 4, cells := 0, slots := 0, locals := 40 * 4 } zs zm [.ref (B + 0), .int (nI p), .int (nI n), .int (nI 1)].toArray zb zt zc 12 D B 14 (celM D B) Q T (setR (setR M 6 rw) 13 wn1) 99 [(0, .ref (B + 0)), (1, .int (nI p)), (2, .int (nI n)), (3, .int (nI 1)), (4, .int (nI (K * X))), (5, .int fi), (6, .int (nI k)), (7, .int (nI r))] [] := by
                intro n99
                induction n99 with
                | zero => intro r fi wn1 hI hn; exact absurd hn (Nat.not_lt_zero _)
                | succ n99 ih99 =>
                  intro r fi wn1 hI99 hn99
                  have hpk := pw_le hK4 hX4 (show k ≤ 3 by omega)
                  have hpk1 := pw_le hK4 hX4 (show k + 1 ≤ 3 by omega)
                  have hps : (K * X) ^ (k + 1) = (K * X) ^ k * (K * X) := Nat.pow_succ ..
                  refine g_iload F 7 (dk dtX7_duel_0 54 rfl) rfl ?_
                  refine g_iload F 4 (dk dtX7_duel_0 55 rfl) rfl ?_
                  refine g_iload F 6 (dk dtX7_duel_0 56 rfl) rfl ?_
                  refine g_callSi F (As := [.int (nI (K * X)), .int (nI k)]) (st := [.int (nI r)]) cs_X7_163 (dk dtX7_duel_0 57 rfl) rfl rfl (Nat.le_of_ble_eq_true rfl) ⟨by decide, by decide⟩ (k_X7_power l D B _ _ (K * X) k (by omega)) (fun r105 T105 M105 hp105 => ?_)
                  obtain ⟨e1, e2, e3⟩ := hp105
                  replace e1 := e1.symm; replace e2 := e2.symm; replace e3 := e3.symm; subst e1; subst e2; subst e3
                  refine g_icmp_geN F 232 (dk dtX7_duel_0 58 rfl) (by decide) (by omega) (by omega) (fun c108 => ?_) (fun c108 => ?_)
                  · -- taken at 108
                    refine g_iinc F 6 (nI k - nI 1) [(6, .int (nI k - nI 1)), (0, .ref (B + 0)), (1, .int (nI p)), (2, .int (nI n)), (3, .int (nI 1)), (4, .int (nI (K * X))), (5, .int fi), (7, .int (nI r))] (dk dtX7_duel_1 58 rfl) rfl (dec_one k) (by decide) rfl ?_
                    refine g_goto F 91 (dk dtX7_duel_1 59 rfl) (by decide) ?_
                    refine g_sub [1, 2, 3, 4, 5, 6, 0] (L1 := [(0, .ref (B + 0)), (1, .int (nI p)), (2, .int (nI n)), (3, .int (nI 1)), (4, .int (nI (K * X))), (5, .int fi), (6, .int (nI k - nI 1))]) rfl ?_
                    exact ih91 k fi wn1 ⟨by omega, fun r1 h => hI99.2.1 r1 (by omega), fun h => (hI99.2.2.2.2 h), fun h => (hI99.2.2.2.1 h).2 (by subst h; simp at c108; omega)⟩ (by omega)
                  · -- not taken at 108
                    have hrE : r < (K * X) ^ k := by omega
                    refine g_iconst F (nI 0) (dk dtX7_duel_0 59 rfl) (by decide) ?_
                    refine g_istore F [(8, .int (nI 0)), (0, .ref (B + 0)), (1, .int (nI p)), (2, .int (nI n)), (3, .int (nI 1)), (4, .int (nI (K * X))), (5, .int fi), (6, .int (nI k)), (7, .int (nI r))] (dk dtX7_duel_1 0 rfl) (by decide) rfl ?_
                    refine g_iconst F (nI 1) (dk dtX7_duel_1 1 rfl) (by decide) ?_
                    refine g_istore F [(9, .int (nI 1)), (8, .int (nI 0)), (0, .ref (B + 0)), (1, .int (nI p)), (2, .int (nI n)), (3, .int (nI 1)), (4, .int (nI (K * X))), (5, .int fi), (6, .int (nI k)), (7, .int (nI r))] (dk dtX7_duel_1 2 rfl) (by decide) rfl ?_
                    refine g_iload F 6 (dk dtX7_duel_1 3 rfl) rfl ?_
                    refine g_iconst F (nI 1) (dk dtX7_duel_1 4 rfl) (by decide) ?_
                    refine g_isubN F (dk dtX7_duel_1 5 rfl) (Nat.mul_pos hK1 hX1) ?_
                    refine g_istore F [(10, .int (nI ((K * X) - 1))), (9, .int (nI 1)), (8, .int (nI 0)), (0, .ref (B + 0)), (1, .int (nI p)), (2, .int (nI n)), (3, .int (nI 1)), (4, .int (nI (K * X))), (5, .int fi), (6, .int (nI k)), (7, .int (nI r))] (dk dtX7_duel_1 6 rfl) (by decide) rfl ?_
                    have lp123 : ∀ (fz : Nat) (d : Nat) (fi1 : Int32), (d ≤ K * X ∧ fi1 = (if k = 0 then fsD (fun e => VV (K * X) (fun r => decide (moR (mbR (M 3) (M 2 0) K X P (M 5) r n n) = nI p)) (n - (k + 1)) (k + 1) ((K * X) * r + e)) (K * X) X d else -9)) → ((K * X) - d) < fz → G zp l ze { frames := 4, cells := 0, slots := 0, locals := 40 * 4 } zs zm [.ref (B + 0), .int (nI p), .int (nI n), .int (nI 1)].toArray zb zt zc 12 D B 14 (celM D B) Q T (setR (setR M 6 rw) 13 wn1) 123 [(0, .ref (B + 0)), (1, .int (nI p)), (2, .int (nI n)), (3, .int (nI 1)), (4, .int (nI (K * X))), (5, .int fi1), (6, .int (nI k)), (7, .int (nI r)), (8, .int (bI (anyD (fun e => VV (K * X) (fun r => decide (moR (mbR (M 3) (M 2 0) K X P (M 5) r n n) = nI p)) (n - (k + 1)) (k + 1) ((K * X) * r + e)) (K * X) d = true))), (9, .int (bI (allD (fun e => VV (K * X) (fun r => decide (moR (mbR (M 3) (M 2 0) K X P (M 5) r n n) = nI p)) (n - (k + 1)) (k + 1) ((K * X) * r + e)) (K * X) d = true))), (10, .int (nI (K * X - d) - nI 1))] [] := by
                      intro n123
                      induction n123 with
                      | zero => intro d fi1 hI hn; exact absurd hn (Nat.not_lt_zero _)
                      | succ n123 ih123 =>
                        intro d fi1 hI123 hn123
                        obtain ⟨hd4, hfi⟩ := hI123
                        refine g_iload F 10 (dk dtX7_duel_1 7 rfl) rfl ?_
                        refine g_if_lt F 205 (dk dtX7_duel_1 8 rfl) (by decide) (fun c125 => ?_) (fun c125 => ?_)
                        · -- taken at 125
                          have hdE : K * X = d := m1_end hd4 (by omega) c125
                          obtain rfl : (K * X) = d := hdE
                          refine g_aload_n F 0 (dk dtX7_duel_1 45 rfl) rfl ?_
                          refine g_get F fa_X7_47 (dk dtX7_duel_1 46 rfl) (by decide) (cm0 D B _ _) rfl ?_
                          refine g_iload F 7 (dk dtX7_duel_1 47 rfl) rfl ?_
                          refine g_iload F 6 (dk dtX7_duel_1 48 rfl) rfl ?_
                          refine g_iconst F (nI 2) (dk dtX7_duel_1 49 rfl) (by decide) ?_
                          refine g_iremN F (dk dtX7_duel_1 50 rfl) (by omega) (by omega) (by omega) ?_
                          refine g_if_neN F 223 (dk dtX7_duel_1 51 rfl) (by decide) (by omega) (fun c215 => ?_) (fun c215 => ?_)
                          · -- taken at 215
                            refine g_iload F 9 (dk dtX7_duel_1 54 rfl) rfl ?_
                            refine g_iast F (r) (dk dtX7_duel_1 55 rfl) (by decide) (fun r => cm13 D B _ r) (by omega) (by decide) ?_
                            refine g_iinc F 7 (nI (r + 1)) [(7, .int (nI (r + 1))), (0, .ref (B + 0)), (1, .int (nI p)), (2, .int (nI n)), (3, .int (nI 1)), (4, .int (nI (K * X))), (5, .int fi1), (6, .int (nI k)), (8, .int (bI (anyD (fun e => VV (K * X) (fun r => decide (moR (mbR (M 3) (M 2 0) K X P (M 5) r n n) = nI p)) (n - (k + 1)) (k + 1) ((K * X) * r + e)) (K * X) (K * X) = true))), (9, .int (bI (allD (fun e => VV (K * X) (fun r => decide (moR (mbR (M 3) (M 2 0) K X P (M 5) r n n) = nI p)) (n - (k + 1)) (k + 1) ((K * X) * r + e)) (K * X) (K * X) = true))), (10, .int (nI (K * X - (K * X)) - nI 1))] (dk dtX7_duel_1 56 rfl) rfl (nI_1 _) (by decide) rfl ?_
                            refine g_goto F 99 (dk dtX7_duel_1 57 rfl) (by decide) ?_
                            refine g_sub [1, 2, 3, 4, 5, 6, 7, 0] (L1 := [(0, .ref (B + 0)), (1, .int (nI p)), (2, .int (nI n)), (3, .int (nI 1)), (4, .int (nI (K * X))), (5, .int fi1), (6, .int (nI k)), (7, .int (nI (r + 1)))]) rfl ?_
                            refine g_mem (up2_setR _ _ _ _ _) ?_
                            exact ih99 (r + 1) _ _ (duel_3 hrE hkp hI99 (by rw [VV_odd c215 (by omega)]) (duel_FI hfi (by omega)) (fun h => by rw [hfi, if_neg (by omega)])) (by omega)
                          · -- not taken at 215
                            refine g_iload F 8 (dk dtX7_duel_1 52 rfl) rfl ?_
                            refine g_goto F 225 (dk dtX7_duel_1 53 rfl) (by decide) ?_
                            refine g_iast F (r) (dk dtX7_duel_1 55 rfl) (by decide) (fun r => cm13 D B _ r) (by omega) (by decide) ?_
                            refine g_iinc F 7 (nI (r + 1)) [(7, .int (nI (r + 1))), (0, .ref (B + 0)), (1, .int (nI p)), (2, .int (nI n)), (3, .int (nI 1)), (4, .int (nI (K * X))), (5, .int fi1), (6, .int (nI k)), (8, .int (bI (anyD (fun e => VV (K * X) (fun r => decide (moR (mbR (M 3) (M 2 0) K X P (M 5) r n n) = nI p)) (n - (k + 1)) (k + 1) ((K * X) * r + e)) (K * X) (K * X) = true))), (9, .int (bI (allD (fun e => VV (K * X) (fun r => decide (moR (mbR (M 3) (M 2 0) K X P (M 5) r n n) = nI p)) (n - (k + 1)) (k + 1) ((K * X) * r + e)) (K * X) (K * X) = true))), (10, .int (nI (K * X - (K * X)) - nI 1))] (dk dtX7_duel_1 56 rfl) rfl (nI_1 _) (by decide) rfl ?_
                            refine g_goto F 99 (dk dtX7_duel_1 57 rfl) (by decide) ?_
                            refine g_sub [1, 2, 3, 4, 5, 6, 7, 0] (L1 := [(0, .ref (B + 0)), (1, .int (nI p)), (2, .int (nI n)), (3, .int (nI 1)), (4, .int (nI (K * X))), (5, .int fi1), (6, .int (nI k)), (7, .int (nI (r + 1)))]) rfl ?_
                            refine g_mem (up2_setR _ _ _ _ _) ?_
                            exact ih99 (r + 1) _ _ (duel_3 hrE hkp hI99 (by rw [VV_even c215 (by omega)]) (duel_FI hfi (by omega)) (fun h => by rw [hfi, if_neg (by omega)])) (by omega)
                        · -- not taken at 125
                          have hdE : d < K * X := m1_nlt (by omega) c125
                          refine g_st (M1 := setR (setR M 6 rw) 13 wn1) (L1 := [(0, .ref (B + 0)), (1, .int (nI p)), (2, .int (nI n)), (3, .int (nI 1)), (4, .int (nI (K * X))), (5, .int fi1), (6, .int (nI k)), (7, .int (nI r)), (8, .int (bI (anyD (fun e => VV (K * X) (fun r => decide (moR (mbR (M 3) (M 2 0) K X P (M 5) r n n) = nI p)) (n - (k + 1)) (k + 1) ((K * X) * r + e)) (K * X) d = true))), (9, .int (bI (allD (fun e => VV (K * X) (fun r => decide (moR (mbR (M 3) (M 2 0) K X P (M 5) r n n) = nI p)) (n - (k + 1)) (k + 1) ((K * X) * r + e)) (K * X) d = true))), (10, .int (nI (K * X - 1 - d)))]) rfl (lc rfl (lc rfl (lc rfl (lc rfl (lc rfl (lc rfl (lc rfl (lc rfl (lc rfl (lc rfl (lc (vi (m1_pred (by omega))) rfl))))))))))) rfl ?_
                          have hix : (K * X) * r + (K * X - 1 - d) < (K * X) ^ (k + 1) := duel_ix hps hrE (by omega)
                          have hgv := hI99.2.2.1 ((K * X) * r + (K * X - 1 - d)) (Nat.le_add_right _ _) hix
                          refine g_aload_n F 0 (dk dtX7_duel_1 9 rfl) rfl ?_
                          refine g_get F fa_X7_47 (dk dtX7_duel_1 10 rfl) (by decide) (cm0 D B _ _) rfl ?_
                          refine g_iload F 4 (dk dtX7_duel_1 11 rfl) rfl ?_
                          refine g_iload F 7 (dk dtX7_duel_1 12 rfl) rfl ?_
                          refine g_imulN F (dk dtX7_duel_1 13 rfl) ?_
                          refine g_iload F 10 (dk dtX7_duel_1 14 rfl) rfl ?_
                          refine g_iaddN F (dk dtX7_duel_1 15 rfl) ?_
                          refine g_iald F (((K * X) * r) + (K * X - 1 - d)) (dk dtX7_duel_1 16 rfl) (by decide) (cm13 D B _ _) (by omega) (by decide) ?_
                          refine g_top ((congrFun (setR_self _ _ _) _).trans hgv) ?_
                          refine g_istore F [(11, .int (bI ((fun e => VV (K * X) (fun r => decide (moR (mbR (M 3) (M 2 0) K X P (M 5) r n n) = nI p)) (n - (k + 1)) (k + 1) ((K * X) * r + e)) (K * X - 1 - d) = true))), (0, .ref (B + 0)), (1, .int (nI p)), (2, .int (nI n)), (3, .int (nI 1)), (4, .int (nI (K * X))), (5, .int fi1), (6, .int (nI k)), (7, .int (nI r)), (8, .int (bI (anyD (fun e => VV (K * X) (fun r => decide (moR (mbR (M 3) (M 2 0) K X P (M 5) r n n) = nI p)) (n - (k + 1)) (k + 1) ((K * X) * r + e)) (K * X) d = true))), (9, .int (bI (allD (fun e => VV (K * X) (fun r => decide (moR (mbR (M 3) (M 2 0) K X P (M 5) r n n) = nI p)) (n - (k + 1)) (k + 1) ((K * X) * r + e)) (K * X) d = true))), (10, .int (nI (K * X - 1 - d)))] (dk dtX7_duel_1 17 rfl) (by decide) rfl ?_
                          refine g_iload F 7 (dk dtX7_duel_1 18 rfl) rfl ?_
                          refine g_if_neN F 163 (dk dtX7_duel_1 19 rfl) (by decide) (by omega) (fun c145 => ?_) (fun c145 => ?_)
                          · -- taken at 145
                            refine g_iload F 6 (dk dtX7_duel_1 27 rfl) rfl ?_
                            refine g_istore F [(5, .int fi1), (11, .int (bI ((fun e => VV (K * X) (fun r => decide (moR (mbR (M 3) (M 2 0) K X P (M 5) r n n) = nI p)) (n - (k + 1)) (k + 1) ((K * X) * r + e)) (K * X - 1 - d) = true))), (0, .ref (B + 0)), (1, .int (nI p)), (2, .int (nI n)), (3, .int (nI 1)), (4, .int (nI (K * X))), (6, .int (nI k)), (7, .int (nI r)), (8, .int (bI (anyD (fun e => VV (K * X) (fun r => decide (moR (mbR (M 3) (M 2 0) K X P (M 5) r n n) = nI p)) (n - (k + 1)) (k + 1) ((K * X) * r + e)) (K * X) d = true))), (9, .int (bI (allD (fun e => VV (K * X) (fun r => decide (moR (mbR (M 3) (M 2 0) K X P (M 5) r n n) = nI p)) (n - (k + 1)) (k + 1) ((K * X) * r + e)) (K * X) d = true))), (10, .int (nI (K * X - 1 - d)))] (dk dtX7_duel_1 28 rfl) (by decide) rfl ?_
                            refine g_iload F 1 (dk dtX7_duel_1 29 rfl) rfl ?_
                            refine g_iload F 9 (dk dtX7_duel_1 30 rfl) rfl ?_
                            refine g_icmp_le F 179 (dk dtX7_duel_1 31 rfl) (by decide) (fun c171 => ?_) (fun c171 => ?_)
                            · -- taken at 171
                              refine g_iload F 9 (dk dtX7_duel_1 34 rfl) rfl ?_
                              refine g_istore F [(8, .int (bI (anyD (fun e => VV (K * X) (fun r => decide (moR (mbR (M 3) (M 2 0) K X P (M 5) r n n) = nI p)) (n - (k + 1)) (k + 1) ((K * X) * r + e)) (K * X) d = true))), (5, .int fi1), (11, .int (bI ((fun e => VV (K * X) (fun r => decide (moR (mbR (M 3) (M 2 0) K X P (M 5) r n n) = nI p)) (n - (k + 1)) (k + 1) ((K * X) * r + e)) (K * X - 1 - d) = true))), (0, .ref (B + 0)), (1, .int (nI p)), (2, .int (nI n)), (3, .int (nI 1)), (4, .int (nI (K * X))), (6, .int (nI k)), (7, .int (nI r)), (9, .int (bI (allD (fun e => VV (K * X) (fun r => decide (moR (mbR (M 3) (M 2 0) K X P (M 5) r n n) = nI p)) (n - (k + 1)) (k + 1) ((K * X) * r + e)) (K * X) d = true))), (10, .int (nI (K * X - 1 - d)))] (dk dtX7_duel_1 35 rfl) (by decide) rfl ?_
                              refine g_iload F 2 (dk dtX7_duel_1 36 rfl) rfl ?_
                              refine g_iload F 10 (dk dtX7_duel_1 37 rfl) rfl ?_
                              refine g_icmp_ge F 195 (dk dtX7_duel_1 38 rfl) (by decide) (fun c187 => ?_) (fun c187 => ?_)
                              · -- taken at 187
                                refine g_iload F 10 (dk dtX7_duel_1 41 rfl) rfl ?_
                                refine g_istore F [(9, .int (bI (allD (fun e => VV (K * X) (fun r => decide (moR (mbR (M 3) (M 2 0) K X P (M 5) r n n) = nI p)) (n - (k + 1)) (k + 1) ((K * X) * r + e)) (K * X) d = true))), (8, .int (bI (anyD (fun e => VV (K * X) (fun r => decide (moR (mbR (M 3) (M 2 0) K X P (M 5) r n n) = nI p)) (n - (k + 1)) (k + 1) ((K * X) * r + e)) (K * X) d = true))), (5, .int fi1), (11, .int (bI ((fun e => VV (K * X) (fun r => decide (moR (mbR (M 3) (M 2 0) K X P (M 5) r n n) = nI p)) (n - (k + 1)) (k + 1) ((K * X) * r + e)) (K * X - 1 - d) = true))), (0, .ref (B + 0)), (1, .int (nI p)), (2, .int (nI n)), (3, .int (nI 1)), (4, .int (nI (K * X))), (6, .int (nI k)), (7, .int (nI r)), (10, .int (nI (K * X - 1 - d)))] (dk dtX7_duel_1 42 rfl) (by decide) rfl ?_
                                refine g_iinc F 11 (nI (K * X - (d + 1)) - nI 1) [(10, .int (nI (K * X - (d + 1)) - nI 1)), (9, .int (bI (allD (fun e => VV (K * X) (fun r => decide (moR (mbR (M 3) (M 2 0) K X P (M 5) r n n) = nI p)) (n - (k + 1)) (k + 1) ((K * X) * r + e)) (K * X) d = true))), (8, .int (bI (anyD (fun e => VV (K * X) (fun r => decide (moR (mbR (M 3) (M 2 0) K X P (M 5) r n n) = nI p)) (n - (k + 1)) (k + 1) ((K * X) * r + e)) (K * X) d = true))), (5, .int fi1), (11, .int (bI ((fun e => VV (K * X) (fun r => decide (moR (mbR (M 3) (M 2 0) K X P (M 5) r n n) = nI p)) (n - (k + 1)) (k + 1) ((K * X) * r + e)) (K * X - 1 - d) = true))), (0, .ref (B + 0)), (1, .int (nI p)), (2, .int (nI n)), (3, .int (nI 1)), (4, .int (nI (K * X))), (6, .int (nI k)), (7, .int (nI r))] (dk dtX7_duel_1 43 rfl) rfl (dec_lem hdE) (by decide) rfl ?_
                                refine g_goto F 123 (dk dtX7_duel_1 44 rfl) (by decide) ?_
                                refine g_sub [5, 6, 7, 8, 9, 3, 10, 11, 2, 1, 0] (L1 := [(0, .ref (B + 0)), (1, .int (nI p)), (2, .int (nI n)), (3, .int (nI 1)), (4, .int (nI (K * X))), (5, .int fi1), (6, .int (nI k)), (7, .int (nI r)), (8, .int (bI (anyD (fun e => VV (K * X) (fun r => decide (moR (mbR (M 3) (M 2 0) K X P (M 5) r n n) = nI p)) (n - (k + 1)) (k + 1) ((K * X) * r + e)) (K * X) d = true))), (9, .int (bI (allD (fun e => VV (K * X) (fun r => decide (moR (mbR (M 3) (M 2 0) K X P (M 5) r n n) = nI p)) (n - (k + 1)) (k + 1) ((K * X) * r + e)) (K * X) d = true))), (10, .int (nI (K * X - (d + 1)) - nI 1))]) rfl ?_
                                refine g_st (M1 := setR (setR M 6 rw) 13 wn1) (L1 := [(0, .ref (B + 0)), (1, .int (nI p)), (2, .int (nI n)), (3, .int (nI 1)), (4, .int (nI (K * X))), (5, .int fi1), (6, .int (nI k)), (7, .int (nI r)), (8, .int (bI (anyD (fun e => VV (K * X) (fun r => decide (moR (mbR (M 3) (M 2 0) K X P (M 5) r n n) = nI p)) (n - (k + 1)) (k + 1) ((K * X) * r + e)) (K * X) (d + 1) = true))), (9, .int (bI (allD (fun e => VV (K * X) (fun r => decide (moR (mbR (M 3) (M 2 0) K X P (M 5) r n n) = nI p)) (n - (k + 1)) (k + 1) ((K * X) * r + e)) (K * X) (d + 1) = true))), (10, .int (nI (K * X - (d + 1)) - nI 1))]) rfl (lc rfl (lc rfl (lc rfl (lc rfl (lc rfl (lc rfl (lc rfl (lc rfl (lc (vi (mo_t c171)) (lc (vi (le_t c187)) rfl)))))))))) rfl ?_
                                exact ih123 (d + 1) _ ⟨by omega, by rw [hfi, if_neg c145, if_neg c145]⟩ (by omega)
                              · -- not taken at 187
                                refine g_iload F 2 (dk dtX7_duel_1 39 rfl) rfl ?_
                                refine g_goto F 197 (dk dtX7_duel_1 40 rfl) (by decide) ?_
                                refine g_istore F [(9, .int (bI ((fun e => VV (K * X) (fun r => decide (moR (mbR (M 3) (M 2 0) K X P (M 5) r n n) = nI p)) (n - (k + 1)) (k + 1) ((K * X) * r + e)) (K * X - 1 - d) = true))), (8, .int (bI (anyD (fun e => VV (K * X) (fun r => decide (moR (mbR (M 3) (M 2 0) K X P (M 5) r n n) = nI p)) (n - (k + 1)) (k + 1) ((K * X) * r + e)) (K * X) d = true))), (5, .int fi1), (11, .int (bI ((fun e => VV (K * X) (fun r => decide (moR (mbR (M 3) (M 2 0) K X P (M 5) r n n) = nI p)) (n - (k + 1)) (k + 1) ((K * X) * r + e)) (K * X - 1 - d) = true))), (0, .ref (B + 0)), (1, .int (nI p)), (2, .int (nI n)), (3, .int (nI 1)), (4, .int (nI (K * X))), (6, .int (nI k)), (7, .int (nI r)), (10, .int (nI (K * X - 1 - d)))] (dk dtX7_duel_1 42 rfl) (by decide) rfl ?_
                                refine g_iinc F 11 (nI (K * X - (d + 1)) - nI 1) [(10, .int (nI (K * X - (d + 1)) - nI 1)), (9, .int (bI ((fun e => VV (K * X) (fun r => decide (moR (mbR (M 3) (M 2 0) K X P (M 5) r n n) = nI p)) (n - (k + 1)) (k + 1) ((K * X) * r + e)) (K * X - 1 - d) = true))), (8, .int (bI (anyD (fun e => VV (K * X) (fun r => decide (moR (mbR (M 3) (M 2 0) K X P (M 5) r n n) = nI p)) (n - (k + 1)) (k + 1) ((K * X) * r + e)) (K * X) d = true))), (5, .int fi1), (11, .int (bI ((fun e => VV (K * X) (fun r => decide (moR (mbR (M 3) (M 2 0) K X P (M 5) r n n) = nI p)) (n - (k + 1)) (k + 1) ((K * X) * r + e)) (K * X - 1 - d) = true))), (0, .ref (B + 0)), (1, .int (nI p)), (2, .int (nI n)), (3, .int (nI 1)), (4, .int (nI (K * X))), (6, .int (nI k)), (7, .int (nI r))] (dk dtX7_duel_1 43 rfl) rfl (dec_lem hdE) (by decide) rfl ?_
                                refine g_goto F 123 (dk dtX7_duel_1 44 rfl) (by decide) ?_
                                refine g_sub [5, 6, 7, 8, 9, 3, 10, 11, 2, 1, 0] (L1 := [(0, .ref (B + 0)), (1, .int (nI p)), (2, .int (nI n)), (3, .int (nI 1)), (4, .int (nI (K * X))), (5, .int fi1), (6, .int (nI k)), (7, .int (nI r)), (8, .int (bI (anyD (fun e => VV (K * X) (fun r => decide (moR (mbR (M 3) (M 2 0) K X P (M 5) r n n) = nI p)) (n - (k + 1)) (k + 1) ((K * X) * r + e)) (K * X) d = true))), (9, .int (bI ((fun e => VV (K * X) (fun r => decide (moR (mbR (M 3) (M 2 0) K X P (M 5) r n n) = nI p)) (n - (k + 1)) (k + 1) ((K * X) * r + e)) (K * X - 1 - d) = true))), (10, .int (nI (K * X - (d + 1)) - nI 1))]) rfl ?_
                                refine g_st (M1 := setR (setR M 6 rw) 13 wn1) (L1 := [(0, .ref (B + 0)), (1, .int (nI p)), (2, .int (nI n)), (3, .int (nI 1)), (4, .int (nI (K * X))), (5, .int fi1), (6, .int (nI k)), (7, .int (nI r)), (8, .int (bI (anyD (fun e => VV (K * X) (fun r => decide (moR (mbR (M 3) (M 2 0) K X P (M 5) r n n) = nI p)) (n - (k + 1)) (k + 1) ((K * X) * r + e)) (K * X) (d + 1) = true))), (9, .int (bI (allD (fun e => VV (K * X) (fun r => decide (moR (mbR (M 3) (M 2 0) K X P (M 5) r n n) = nI p)) (n - (k + 1)) (k + 1) ((K * X) * r + e)) (K * X) (d + 1) = true))), (10, .int (nI (K * X - (d + 1)) - nI 1))]) rfl (lc rfl (lc rfl (lc rfl (lc rfl (lc rfl (lc rfl (lc rfl (lc rfl (lc (vi (mo_t c171)) (lc (vi (le_f c187)) rfl)))))))))) rfl ?_
                                exact ih123 (d + 1) _ ⟨by omega, by rw [hfi, if_neg c145, if_neg c145]⟩ (by omega)
                            · -- not taken at 171
                              refine g_iload F 1 (dk dtX7_duel_1 32 rfl) rfl ?_
                              refine g_goto F 181 (dk dtX7_duel_1 33 rfl) (by decide) ?_
                              refine g_istore F [(8, .int (bI ((fun e => VV (K * X) (fun r => decide (moR (mbR (M 3) (M 2 0) K X P (M 5) r n n) = nI p)) (n - (k + 1)) (k + 1) ((K * X) * r + e)) (K * X - 1 - d) = true))), (5, .int fi1), (11, .int (bI ((fun e => VV (K * X) (fun r => decide (moR (mbR (M 3) (M 2 0) K X P (M 5) r n n) = nI p)) (n - (k + 1)) (k + 1) ((K * X) * r + e)) (K * X - 1 - d) = true))), (0, .ref (B + 0)), (1, .int (nI p)), (2, .int (nI n)), (3, .int (nI 1)), (4, .int (nI (K * X))), (6, .int (nI k)), (7, .int (nI r)), (9, .int (bI (allD (fun e => VV (K * X) (fun r => decide (moR (mbR (M 3) (M 2 0) K X P (M 5) r n n) = nI p)) (n - (k + 1)) (k + 1) ((K * X) * r + e)) (K * X) d = true))), (10, .int (nI (K * X - 1 - d)))] (dk dtX7_duel_1 35 rfl) (by decide) rfl ?_
                              refine g_iload F 2 (dk dtX7_duel_1 36 rfl) rfl ?_
                              refine g_iload F 10 (dk dtX7_duel_1 37 rfl) rfl ?_
                              refine g_icmp_ge F 195 (dk dtX7_duel_1 38 rfl) (by decide) (fun c187 => ?_) (fun c187 => ?_)
                              · -- taken at 187
                                refine g_iload F 10 (dk dtX7_duel_1 41 rfl) rfl ?_
                                refine g_istore F [(9, .int (bI (allD (fun e => VV (K * X) (fun r => decide (moR (mbR (M 3) (M 2 0) K X P (M 5) r n n) = nI p)) (n - (k + 1)) (k + 1) ((K * X) * r + e)) (K * X) d = true))), (8, .int (bI ((fun e => VV (K * X) (fun r => decide (moR (mbR (M 3) (M 2 0) K X P (M 5) r n n) = nI p)) (n - (k + 1)) (k + 1) ((K * X) * r + e)) (K * X - 1 - d) = true))), (5, .int fi1), (11, .int (bI ((fun e => VV (K * X) (fun r => decide (moR (mbR (M 3) (M 2 0) K X P (M 5) r n n) = nI p)) (n - (k + 1)) (k + 1) ((K * X) * r + e)) (K * X - 1 - d) = true))), (0, .ref (B + 0)), (1, .int (nI p)), (2, .int (nI n)), (3, .int (nI 1)), (4, .int (nI (K * X))), (6, .int (nI k)), (7, .int (nI r)), (10, .int (nI (K * X - 1 - d)))] (dk dtX7_duel_1 42 rfl) (by decide) rfl ?_
                                refine g_iinc F 11 (nI (K * X - (d + 1)) - nI 1) [(10, .int (nI (K * X - (d + 1)) - nI 1)), (9, .int (bI (allD (fun e => VV (K * X) (fun r => decide (moR (mbR (M 3) (M 2 0) K X P (M 5) r n n) = nI p)) (n - (k + 1)) (k + 1) ((K * X) * r + e)) (K * X) d = true))), (8, .int (bI ((fun e => VV (K * X) (fun r => decide (moR (mbR (M 3) (M 2 0) K X P (M 5) r n n) = nI p)) (n - (k + 1)) (k + 1) ((K * X) * r + e)) (K * X - 1 - d) = true))), (5, .int fi1), (11, .int (bI ((fun e => VV (K * X) (fun r => decide (moR (mbR (M 3) (M 2 0) K X P (M 5) r n n) = nI p)) (n - (k + 1)) (k + 1) ((K * X) * r + e)) (K * X - 1 - d) = true))), (0, .ref (B + 0)), (1, .int (nI p)), (2, .int (nI n)), (3, .int (nI 1)), (4, .int (nI (K * X))), (6, .int (nI k)), (7, .int (nI r))] (dk dtX7_duel_1 43 rfl) rfl (dec_lem hdE) (by decide) rfl ?_
                                refine g_goto F 123 (dk dtX7_duel_1 44 rfl) (by decide) ?_
                                refine g_sub [5, 6, 7, 8, 9, 3, 10, 11, 2, 1, 0] (L1 := [(0, .ref (B + 0)), (1, .int (nI p)), (2, .int (nI n)), (3, .int (nI 1)), (4, .int (nI (K * X))), (5, .int fi1), (6, .int (nI k)), (7, .int (nI r)), (8, .int (bI ((fun e => VV (K * X) (fun r => decide (moR (mbR (M 3) (M 2 0) K X P (M 5) r n n) = nI p)) (n - (k + 1)) (k + 1) ((K * X) * r + e)) (K * X - 1 - d) = true))), (9, .int (bI (allD (fun e => VV (K * X) (fun r => decide (moR (mbR (M 3) (M 2 0) K X P (M 5) r n n) = nI p)) (n - (k + 1)) (k + 1) ((K * X) * r + e)) (K * X) d = true))), (10, .int (nI (K * X - (d + 1)) - nI 1))]) rfl ?_
                                refine g_st (M1 := setR (setR M 6 rw) 13 wn1) (L1 := [(0, .ref (B + 0)), (1, .int (nI p)), (2, .int (nI n)), (3, .int (nI 1)), (4, .int (nI (K * X))), (5, .int fi1), (6, .int (nI k)), (7, .int (nI r)), (8, .int (bI (anyD (fun e => VV (K * X) (fun r => decide (moR (mbR (M 3) (M 2 0) K X P (M 5) r n n) = nI p)) (n - (k + 1)) (k + 1) ((K * X) * r + e)) (K * X) (d + 1) = true))), (9, .int (bI (allD (fun e => VV (K * X) (fun r => decide (moR (mbR (M 3) (M 2 0) K X P (M 5) r n n) = nI p)) (n - (k + 1)) (k + 1) ((K * X) * r + e)) (K * X) (d + 1) = true))), (10, .int (nI (K * X - (d + 1)) - nI 1))]) rfl (lc rfl (lc rfl (lc rfl (lc rfl (lc rfl (lc rfl (lc rfl (lc rfl (lc (vi (mo_f c171)) (lc (vi (le_t c187)) rfl)))))))))) rfl ?_
                                exact ih123 (d + 1) _ ⟨by omega, by rw [hfi, if_neg c145, if_neg c145]⟩ (by omega)
                              · -- not taken at 187
                                refine g_iload F 2 (dk dtX7_duel_1 39 rfl) rfl ?_
                                refine g_goto F 197 (dk dtX7_duel_1 40 rfl) (by decide) ?_
                                refine g_istore F [(9, .int (bI ((fun e => VV (K * X) (fun r => decide (moR (mbR (M 3) (M 2 0) K X P (M 5) r n n) = nI p)) (n - (k + 1)) (k + 1) ((K * X) * r + e)) (K * X - 1 - d) = true))), (8, .int (bI ((fun e => VV (K * X) (fun r => decide (moR (mbR (M 3) (M 2 0) K X P (M 5) r n n) = nI p)) (n - (k + 1)) (k + 1) ((K * X) * r + e)) (K * X - 1 - d) = true))), (5, .int fi1), (11, .int (bI ((fun e => VV (K * X) (fun r => decide (moR (mbR (M 3) (M 2 0) K X P (M 5) r n n) = nI p)) (n - (k + 1)) (k + 1) ((K * X) * r + e)) (K * X - 1 - d) = true))), (0, .ref (B + 0)), (1, .int (nI p)), (2, .int (nI n)), (3, .int (nI 1)), (4, .int (nI (K * X))), (6, .int (nI k)), (7, .int (nI r)), (10, .int (nI (K * X - 1 - d)))] (dk dtX7_duel_1 42 rfl) (by decide) rfl ?_
                                refine g_iinc F 11 (nI (K * X - (d + 1)) - nI 1) [(10, .int (nI (K * X - (d + 1)) - nI 1)), (9, .int (bI ((fun e => VV (K * X) (fun r => decide (moR (mbR (M 3) (M 2 0) K X P (M 5) r n n) = nI p)) (n - (k + 1)) (k + 1) ((K * X) * r + e)) (K * X - 1 - d) = true))), (8, .int (bI ((fun e => VV (K * X) (fun r => decide (moR (mbR (M 3) (M 2 0) K X P (M 5) r n n) = nI p)) (n - (k + 1)) (k + 1) ((K * X) * r + e)) (K * X - 1 - d) = true))), (5, .int fi1), (11, .int (bI ((fun e => VV (K * X) (fun r => decide (moR (mbR (M 3) (M 2 0) K X P (M 5) r n n) = nI p)) (n - (k + 1)) (k + 1) ((K * X) * r + e)) (K * X - 1 - d) = true))), (0, .ref (B + 0)), (1, .int (nI p)), (2, .int (nI n)), (3, .int (nI 1)), (4, .int (nI (K * X))), (6, .int (nI k)), (7, .int (nI r))] (dk dtX7_duel_1 43 rfl) rfl (dec_lem hdE) (by decide) rfl ?_
                                refine g_goto F 123 (dk dtX7_duel_1 44 rfl) (by decide) ?_
                                refine g_sub [5, 6, 7, 8, 9, 3, 10, 11, 2, 1, 0] (L1 := [(0, .ref (B + 0)), (1, .int (nI p)), (2, .int (nI n)), (3, .int (nI 1)), (4, .int (nI (K * X))), (5, .int fi1), (6, .int (nI k)), (7, .int (nI r)), (8, .int (bI ((fun e => VV (K * X) (fun r => decide (moR (mbR (M 3) (M 2 0) K X P (M 5) r n n) = nI p)) (n - (k + 1)) (k + 1) ((K * X) * r + e)) (K * X - 1 - d) = true))), (9, .int (bI ((fun e => VV (K * X) (fun r => decide (moR (mbR (M 3) (M 2 0) K X P (M 5) r n n) = nI p)) (n - (k + 1)) (k + 1) ((K * X) * r + e)) (K * X - 1 - d) = true))), (10, .int (nI (K * X - (d + 1)) - nI 1))]) rfl ?_
                                refine g_st (M1 := setR (setR M 6 rw) 13 wn1) (L1 := [(0, .ref (B + 0)), (1, .int (nI p)), (2, .int (nI n)), (3, .int (nI 1)), (4, .int (nI (K * X))), (5, .int fi1), (6, .int (nI k)), (7, .int (nI r)), (8, .int (bI (anyD (fun e => VV (K * X) (fun r => decide (moR (mbR (M 3) (M 2 0) K X P (M 5) r n n) = nI p)) (n - (k + 1)) (k + 1) ((K * X) * r + e)) (K * X) (d + 1) = true))), (9, .int (bI (allD (fun e => VV (K * X) (fun r => decide (moR (mbR (M 3) (M 2 0) K X P (M 5) r n n) = nI p)) (n - (k + 1)) (k + 1) ((K * X) * r + e)) (K * X) (d + 1) = true))), (10, .int (nI (K * X - (d + 1)) - nI 1))]) rfl (lc rfl (lc rfl (lc rfl (lc rfl (lc rfl (lc rfl (lc rfl (lc rfl (lc (vi (mo_f c171)) (lc (vi (le_f c187)) rfl)))))))))) rfl ?_
                                exact ih123 (d + 1) _ ⟨by omega, by rw [hfi, if_neg c145, if_neg c145]⟩ (by omega)
                          · -- not taken at 145
                            refine g_iload F 0 (dk dtX7_duel_1 20 rfl) rfl ?_
                            refine g_iconst F (nI 1) (dk dtX7_duel_1 21 rfl) (by decide) ?_
                            refine g_icmp_neB1 F 163 (dk dtX7_duel_1 22 rfl) (by decide) (fun c151 => ?_) (fun c151 => ?_)
                            · -- taken at 151
                              refine g_iload F 6 (dk dtX7_duel_1 27 rfl) rfl ?_
                              refine g_istore F [(5, .int fi1), (11, .int (bI ((fun e => VV (K * X) (fun r => decide (moR (mbR (M 3) (M 2 0) K X P (M 5) r n n) = nI p)) (n - (k + 1)) (k + 1) ((K * X) * r + e)) (K * X - 1 - d) = true))), (0, .ref (B + 0)), (1, .int (nI p)), (2, .int (nI n)), (3, .int (nI 1)), (4, .int (nI (K * X))), (6, .int (nI k)), (7, .int (nI r)), (8, .int (bI (anyD (fun e => VV (K * X) (fun r => decide (moR (mbR (M 3) (M 2 0) K X P (M 5) r n n) = nI p)) (n - (k + 1)) (k + 1) ((K * X) * r + e)) (K * X) d = true))), (9, .int (bI (allD (fun e => VV (K * X) (fun r => decide (moR (mbR (M 3) (M 2 0) K X P (M 5) r n n) = nI p)) (n - (k + 1)) (k + 1) ((K * X) * r + e)) (K * X) d = true))), (10, .int (nI (K * X - 1 - d)))] (dk dtX7_duel_1 28 rfl) (by decide) rfl ?_
                              refine g_iload F 1 (dk dtX7_duel_1 29 rfl) rfl ?_
                              refine g_iload F 9 (dk dtX7_duel_1 30 rfl) rfl ?_
                              refine g_icmp_le F 179 (dk dtX7_duel_1 31 rfl) (by decide) (fun c171 => ?_) (fun c171 => ?_)
                              · -- taken at 171
                                refine g_iload F 9 (dk dtX7_duel_1 34 rfl) rfl ?_
                                refine g_istore F [(8, .int (bI (anyD (fun e => VV (K * X) (fun r => decide (moR (mbR (M 3) (M 2 0) K X P (M 5) r n n) = nI p)) (n - (k + 1)) (k + 1) ((K * X) * r + e)) (K * X) d = true))), (5, .int fi1), (11, .int (bI ((fun e => VV (K * X) (fun r => decide (moR (mbR (M 3) (M 2 0) K X P (M 5) r n n) = nI p)) (n - (k + 1)) (k + 1) ((K * X) * r + e)) (K * X - 1 - d) = true))), (0, .ref (B + 0)), (1, .int (nI p)), (2, .int (nI n)), (3, .int (nI 1)), (4, .int (nI (K * X))), (6, .int (nI k)), (7, .int (nI r)), (9, .int (bI (allD (fun e => VV (K * X) (fun r => decide (moR (mbR (M 3) (M 2 0) K X P (M 5) r n n) = nI p)) (n - (k + 1)) (k + 1) ((K * X) * r + e)) (K * X) d = true))), (10, .int (nI (K * X - 1 - d)))] (dk dtX7_duel_1 35 rfl) (by decide) rfl ?_
                                refine g_iload F 2 (dk dtX7_duel_1 36 rfl) rfl ?_
                                refine g_iload F 10 (dk dtX7_duel_1 37 rfl) rfl ?_
                                refine g_icmp_ge F 195 (dk dtX7_duel_1 38 rfl) (by decide) (fun c187 => ?_) (fun c187 => ?_)
                                · -- taken at 187
                                  refine g_iload F 10 (dk dtX7_duel_1 41 rfl) rfl ?_
                                  refine g_istore F [(9, .int (bI (allD (fun e => VV (K * X) (fun r => decide (moR (mbR (M 3) (M 2 0) K X P (M 5) r n n) = nI p)) (n - (k + 1)) (k + 1) ((K * X) * r + e)) (K * X) d = true))), (8, .int (bI (anyD (fun e => VV (K * X) (fun r => decide (moR (mbR (M 3) (M 2 0) K X P (M 5) r n n) = nI p)) (n - (k + 1)) (k + 1) ((K * X) * r + e)) (K * X) d = true))), (5, .int fi1), (11, .int (bI ((fun e => VV (K * X) (fun r => decide (moR (mbR (M 3) (M 2 0) K X P (M 5) r n n) = nI p)) (n - (k + 1)) (k + 1) ((K * X) * r + e)) (K * X - 1 - d) = true))), (0, .ref (B + 0)), (1, .int (nI p)), (2, .int (nI n)), (3, .int (nI 1)), (4, .int (nI (K * X))), (6, .int (nI k)), (7, .int (nI r)), (10, .int (nI (K * X - 1 - d)))] (dk dtX7_duel_1 42 rfl) (by decide) rfl ?_
                                  refine g_iinc F 11 (nI (K * X - (d + 1)) - nI 1) [(10, .int (nI (K * X - (d + 1)) - nI 1)), (9, .int (bI (allD (fun e => VV (K * X) (fun r => decide (moR (mbR (M 3) (M 2 0) K X P (M 5) r n n) = nI p)) (n - (k + 1)) (k + 1) ((K * X) * r + e)) (K * X) d = true))), (8, .int (bI (anyD (fun e => VV (K * X) (fun r => decide (moR (mbR (M 3) (M 2 0) K X P (M 5) r n n) = nI p)) (n - (k + 1)) (k + 1) ((K * X) * r + e)) (K * X) d = true))), (5, .int fi1), (11, .int (bI ((fun e => VV (K * X) (fun r => decide (moR (mbR (M 3) (M 2 0) K X P (M 5) r n n) = nI p)) (n - (k + 1)) (k + 1) ((K * X) * r + e)) (K * X - 1 - d) = true))), (0, .ref (B + 0)), (1, .int (nI p)), (2, .int (nI n)), (3, .int (nI 1)), (4, .int (nI (K * X))), (6, .int (nI k)), (7, .int (nI r))] (dk dtX7_duel_1 43 rfl) rfl (dec_lem hdE) (by decide) rfl ?_
                                  refine g_goto F 123 (dk dtX7_duel_1 44 rfl) (by decide) ?_
                                  refine g_sub [5, 6, 7, 8, 9, 3, 10, 11, 2, 1, 0] (L1 := [(0, .ref (B + 0)), (1, .int (nI p)), (2, .int (nI n)), (3, .int (nI 1)), (4, .int (nI (K * X))), (5, .int fi1), (6, .int (nI k)), (7, .int (nI r)), (8, .int (bI (anyD (fun e => VV (K * X) (fun r => decide (moR (mbR (M 3) (M 2 0) K X P (M 5) r n n) = nI p)) (n - (k + 1)) (k + 1) ((K * X) * r + e)) (K * X) d = true))), (9, .int (bI (allD (fun e => VV (K * X) (fun r => decide (moR (mbR (M 3) (M 2 0) K X P (M 5) r n n) = nI p)) (n - (k + 1)) (k + 1) ((K * X) * r + e)) (K * X) d = true))), (10, .int (nI (K * X - (d + 1)) - nI 1))]) rfl ?_
                                  refine g_st (M1 := setR (setR M 6 rw) 13 wn1) (L1 := [(0, .ref (B + 0)), (1, .int (nI p)), (2, .int (nI n)), (3, .int (nI 1)), (4, .int (nI (K * X))), (5, .int fi1), (6, .int (nI k)), (7, .int (nI r)), (8, .int (bI (anyD (fun e => VV (K * X) (fun r => decide (moR (mbR (M 3) (M 2 0) K X P (M 5) r n n) = nI p)) (n - (k + 1)) (k + 1) ((K * X) * r + e)) (K * X) (d + 1) = true))), (9, .int (bI (allD (fun e => VV (K * X) (fun r => decide (moR (mbR (M 3) (M 2 0) K X P (M 5) r n n) = nI p)) (n - (k + 1)) (k + 1) ((K * X) * r + e)) (K * X) (d + 1) = true))), (10, .int (nI (K * X - (d + 1)) - nI 1))]) rfl (lc rfl (lc rfl (lc rfl (lc rfl (lc rfl (lc rfl (lc rfl (lc rfl (lc (vi (mo_t c171)) (lc (vi (le_t c187)) rfl)))))))))) rfl ?_
                                  exact ih123 (d + 1) _ ⟨by omega, by rw [hfi, if_pos c145, if_pos c145, fsD_n c151]⟩ (by omega)
                                · -- not taken at 187
                                  refine g_iload F 2 (dk dtX7_duel_1 39 rfl) rfl ?_
                                  refine g_goto F 197 (dk dtX7_duel_1 40 rfl) (by decide) ?_
                                  refine g_istore F [(9, .int (bI ((fun e => VV (K * X) (fun r => decide (moR (mbR (M 3) (M 2 0) K X P (M 5) r n n) = nI p)) (n - (k + 1)) (k + 1) ((K * X) * r + e)) (K * X - 1 - d) = true))), (8, .int (bI (anyD (fun e => VV (K * X) (fun r => decide (moR (mbR (M 3) (M 2 0) K X P (M 5) r n n) = nI p)) (n - (k + 1)) (k + 1) ((K * X) * r + e)) (K * X) d = true))), (5, .int fi1), (11, .int (bI ((fun e => VV (K * X) (fun r => decide (moR (mbR (M 3) (M 2 0) K X P (M 5) r n n) = nI p)) (n - (k + 1)) (k + 1) ((K * X) * r + e)) (K * X - 1 - d) = true))), (0, .ref (B + 0)), (1, .int (nI p)), (2, .int (nI n)), (3, .int (nI 1)), (4, .int (nI (K * X))), (6, .int (nI k)), (7, .int (nI r)), (10, .int (nI (K * X - 1 - d)))] (dk dtX7_duel_1 42 rfl) (by decide) rfl ?_
                                  refine g_iinc F 11 (nI (K * X - (d + 1)) - nI 1) [(10, .int (nI (K * X - (d + 1)) - nI 1)), (9, .int (bI ((fun e => VV (K * X) (fun r => decide (moR (mbR (M 3) (M 2 0) K X P (M 5) r n n) = nI p)) (n - (k + 1)) (k + 1) ((K * X) * r + e)) (K * X - 1 - d) = true))), (8, .int (bI (anyD (fun e => VV (K * X) (fun r => decide (moR (mbR (M 3) (M 2 0) K X P (M 5) r n n) = nI p)) (n - (k + 1)) (k + 1) ((K * X) * r + e)) (K * X) d = true))), (5, .int fi1), (11, .int (bI ((fun e => VV (K * X) (fun r => decide (moR (mbR (M 3) (M 2 0) K X P (M 5) r n n) = nI p)) (n - (k + 1)) (k + 1) ((K * X) * r + e)) (K * X - 1 - d) = true))), (0, .ref (B + 0)), (1, .int (nI p)), (2, .int (nI n)), (3, .int (nI 1)), (4, .int (nI (K * X))), (6, .int (nI k)), (7, .int (nI r))] (dk dtX7_duel_1 43 rfl) rfl (dec_lem hdE) (by decide) rfl ?_
                                  refine g_goto F 123 (dk dtX7_duel_1 44 rfl) (by decide) ?_
                                  refine g_sub [5, 6, 7, 8, 9, 3, 10, 11, 2, 1, 0] (L1 := [(0, .ref (B + 0)), (1, .int (nI p)), (2, .int (nI n)), (3, .int (nI 1)), (4, .int (nI (K * X))), (5, .int fi1), (6, .int (nI k)), (7, .int (nI r)), (8, .int (bI (anyD (fun e => VV (K * X) (fun r => decide (moR (mbR (M 3) (M 2 0) K X P (M 5) r n n) = nI p)) (n - (k + 1)) (k + 1) ((K * X) * r + e)) (K * X) d = true))), (9, .int (bI ((fun e => VV (K * X) (fun r => decide (moR (mbR (M 3) (M 2 0) K X P (M 5) r n n) = nI p)) (n - (k + 1)) (k + 1) ((K * X) * r + e)) (K * X - 1 - d) = true))), (10, .int (nI (K * X - (d + 1)) - nI 1))]) rfl ?_
                                  refine g_st (M1 := setR (setR M 6 rw) 13 wn1) (L1 := [(0, .ref (B + 0)), (1, .int (nI p)), (2, .int (nI n)), (3, .int (nI 1)), (4, .int (nI (K * X))), (5, .int fi1), (6, .int (nI k)), (7, .int (nI r)), (8, .int (bI (anyD (fun e => VV (K * X) (fun r => decide (moR (mbR (M 3) (M 2 0) K X P (M 5) r n n) = nI p)) (n - (k + 1)) (k + 1) ((K * X) * r + e)) (K * X) (d + 1) = true))), (9, .int (bI (allD (fun e => VV (K * X) (fun r => decide (moR (mbR (M 3) (M 2 0) K X P (M 5) r n n) = nI p)) (n - (k + 1)) (k + 1) ((K * X) * r + e)) (K * X) (d + 1) = true))), (10, .int (nI (K * X - (d + 1)) - nI 1))]) rfl (lc rfl (lc rfl (lc rfl (lc rfl (lc rfl (lc rfl (lc rfl (lc rfl (lc (vi (mo_t c171)) (lc (vi (le_f c187)) rfl)))))))))) rfl ?_
                                  exact ih123 (d + 1) _ ⟨by omega, by rw [hfi, if_pos c145, if_pos c145, fsD_n c151]⟩ (by omega)
                              · -- not taken at 171
                                refine g_iload F 1 (dk dtX7_duel_1 32 rfl) rfl ?_
                                refine g_goto F 181 (dk dtX7_duel_1 33 rfl) (by decide) ?_
                                refine g_istore F [(8, .int (bI ((fun e => VV (K * X) (fun r => decide (moR (mbR (M 3) (M 2 0) K X P (M 5) r n n) = nI p)) (n - (k + 1)) (k + 1) ((K * X) * r + e)) (K * X - 1 - d) = true))), (5, .int fi1), (11, .int (bI ((fun e => VV (K * X) (fun r => decide (moR (mbR (M 3) (M 2 0) K X P (M 5) r n n) = nI p)) (n - (k + 1)) (k + 1) ((K * X) * r + e)) (K * X - 1 - d) = true))), (0, .ref (B + 0)), (1, .int (nI p)), (2, .int (nI n)), (3, .int (nI 1)), (4, .int (nI (K * X))), (6, .int (nI k)), (7, .int (nI r)), (9, .int (bI (allD (fun e => VV (K * X) (fun r => decide (moR (mbR (M 3) (M 2 0) K X P (M 5) r n n) = nI p)) (n - (k + 1)) (k + 1) ((K * X) * r + e)) (K * X) d = true))), (10, .int (nI (K * X - 1 - d)))] (dk dtX7_duel_1 35 rfl) (by decide) rfl ?_
                                refine g_iload F 2 (dk dtX7_duel_1 36 rfl) rfl ?_
                                refine g_iload F 10 (dk dtX7_duel_1 37 rfl) rfl ?_
                                refine g_icmp_ge F 195 (dk dtX7_duel_1 38 rfl) (by decide) (fun c187 => ?_) (fun c187 => ?_)
                                · -- taken at 187
                                  refine g_iload F 10 (dk dtX7_duel_1 41 rfl) rfl ?_
                                  refine g_istore F [(9, .int (bI (allD (fun e => VV (K * X) (fun r => decide (moR (mbR (M 3) (M 2 0) K X P (M 5) r n n) = nI p)) (n - (k + 1)) (k + 1) ((K * X) * r + e)) (K * X) d = true))), (8, .int (bI ((fun e => VV (K * X) (fun r => decide (moR (mbR (M 3) (M 2 0) K X P (M 5) r n n) = nI p)) (n - (k + 1)) (k + 1) ((K * X) * r + e)) (K * X - 1 - d) = true))), (5, .int fi1), (11, .int (bI ((fun e => VV (K * X) (fun r => decide (moR (mbR (M 3) (M 2 0) K X P (M 5) r n n) = nI p)) (n - (k + 1)) (k + 1) ((K * X) * r + e)) (K * X - 1 - d) = true))), (0, .ref (B + 0)), (1, .int (nI p)), (2, .int (nI n)), (3, .int (nI 1)), (4, .int (nI (K * X))), (6, .int (nI k)), (7, .int (nI r)), (10, .int (nI (K * X - 1 - d)))] (dk dtX7_duel_1 42 rfl) (by decide) rfl ?_
                                  refine g_iinc F 11 (nI (K * X - (d + 1)) - nI 1) [(10, .int (nI (K * X - (d + 1)) - nI 1)), (9, .int (bI (allD (fun e => VV (K * X) (fun r => decide (moR (mbR (M 3) (M 2 0) K X P (M 5) r n n) = nI p)) (n - (k + 1)) (k + 1) ((K * X) * r + e)) (K * X) d = true))), (8, .int (bI ((fun e => VV (K * X) (fun r => decide (moR (mbR (M 3) (M 2 0) K X P (M 5) r n n) = nI p)) (n - (k + 1)) (k + 1) ((K * X) * r + e)) (K * X - 1 - d) = true))), (5, .int fi1), (11, .int (bI ((fun e => VV (K * X) (fun r => decide (moR (mbR (M 3) (M 2 0) K X P (M 5) r n n) = nI p)) (n - (k + 1)) (k + 1) ((K * X) * r + e)) (K * X - 1 - d) = true))), (0, .ref (B + 0)), (1, .int (nI p)), (2, .int (nI n)), (3, .int (nI 1)), (4, .int (nI (K * X))), (6, .int (nI k)), (7, .int (nI r))] (dk dtX7_duel_1 43 rfl) rfl (dec_lem hdE) (by decide) rfl ?_
                                  refine g_goto F 123 (dk dtX7_duel_1 44 rfl) (by decide) ?_
                                  refine g_sub [5, 6, 7, 8, 9, 3, 10, 11, 2, 1, 0] (L1 := [(0, .ref (B + 0)), (1, .int (nI p)), (2, .int (nI n)), (3, .int (nI 1)), (4, .int (nI (K * X))), (5, .int fi1), (6, .int (nI k)), (7, .int (nI r)), (8, .int (bI ((fun e => VV (K * X) (fun r => decide (moR (mbR (M 3) (M 2 0) K X P (M 5) r n n) = nI p)) (n - (k + 1)) (k + 1) ((K * X) * r + e)) (K * X - 1 - d) = true))), (9, .int (bI (allD (fun e => VV (K * X) (fun r => decide (moR (mbR (M 3) (M 2 0) K X P (M 5) r n n) = nI p)) (n - (k + 1)) (k + 1) ((K * X) * r + e)) (K * X) d = true))), (10, .int (nI (K * X - (d + 1)) - nI 1))]) rfl ?_
                                  refine g_st (M1 := setR (setR M 6 rw) 13 wn1) (L1 := [(0, .ref (B + 0)), (1, .int (nI p)), (2, .int (nI n)), (3, .int (nI 1)), (4, .int (nI (K * X))), (5, .int fi1), (6, .int (nI k)), (7, .int (nI r)), (8, .int (bI (anyD (fun e => VV (K * X) (fun r => decide (moR (mbR (M 3) (M 2 0) K X P (M 5) r n n) = nI p)) (n - (k + 1)) (k + 1) ((K * X) * r + e)) (K * X) (d + 1) = true))), (9, .int (bI (allD (fun e => VV (K * X) (fun r => decide (moR (mbR (M 3) (M 2 0) K X P (M 5) r n n) = nI p)) (n - (k + 1)) (k + 1) ((K * X) * r + e)) (K * X) (d + 1) = true))), (10, .int (nI (K * X - (d + 1)) - nI 1))]) rfl (lc rfl (lc rfl (lc rfl (lc rfl (lc rfl (lc rfl (lc rfl (lc rfl (lc (vi (mo_f c171)) (lc (vi (le_t c187)) rfl)))))))))) rfl ?_
                                  exact ih123 (d + 1) _ ⟨by omega, by rw [hfi, if_pos c145, if_pos c145, fsD_n c151]⟩ (by omega)
                                · -- not taken at 187
                                  refine g_iload F 2 (dk dtX7_duel_1 39 rfl) rfl ?_
                                  refine g_goto F 197 (dk dtX7_duel_1 40 rfl) (by decide) ?_
                                  refine g_istore F [(9, .int (bI ((fun e => VV (K * X) (fun r => decide (moR (mbR (M 3) (M 2 0) K X P (M 5) r n n) = nI p)) (n - (k + 1)) (k + 1) ((K * X) * r + e)) (K * X - 1 - d) = true))), (8, .int (bI ((fun e => VV (K * X) (fun r => decide (moR (mbR (M 3) (M 2 0) K X P (M 5) r n n) = nI p)) (n - (k + 1)) (k + 1) ((K * X) * r + e)) (K * X - 1 - d) = true))), (5, .int fi1), (11, .int (bI ((fun e => VV (K * X) (fun r => decide (moR (mbR (M 3) (M 2 0) K X P (M 5) r n n) = nI p)) (n - (k + 1)) (k + 1) ((K * X) * r + e)) (K * X - 1 - d) = true))), (0, .ref (B + 0)), (1, .int (nI p)), (2, .int (nI n)), (3, .int (nI 1)), (4, .int (nI (K * X))), (6, .int (nI k)), (7, .int (nI r)), (10, .int (nI (K * X - 1 - d)))] (dk dtX7_duel_1 42 rfl) (by decide) rfl ?_
                                  refine g_iinc F 11 (nI (K * X - (d + 1)) - nI 1) [(10, .int (nI (K * X - (d + 1)) - nI 1)), (9, .int (bI ((fun e => VV (K * X) (fun r => decide (moR (mbR (M 3) (M 2 0) K X P (M 5) r n n) = nI p)) (n - (k + 1)) (k + 1) ((K * X) * r + e)) (K * X - 1 - d) = true))), (8, .int (bI ((fun e => VV (K * X) (fun r => decide (moR (mbR (M 3) (M 2 0) K X P (M 5) r n n) = nI p)) (n - (k + 1)) (k + 1) ((K * X) * r + e)) (K * X - 1 - d) = true))), (5, .int fi1), (11, .int (bI ((fun e => VV (K * X) (fun r => decide (moR (mbR (M 3) (M 2 0) K X P (M 5) r n n) = nI p)) (n - (k + 1)) (k + 1) ((K * X) * r + e)) (K * X - 1 - d) = true))), (0, .ref (B + 0)), (1, .int (nI p)), (2, .int (nI n)), (3, .int (nI 1)), (4, .int (nI (K * X))), (6, .int (nI k)), (7, .int (nI r))] (dk dtX7_duel_1 43 rfl) rfl (dec_lem hdE) (by decide) rfl ?_
                                  refine g_goto F 123 (dk dtX7_duel_1 44 rfl) (by decide) ?_
                                  refine g_sub [5, 6, 7, 8, 9, 3, 10, 11, 2, 1, 0] (L1 := [(0, .ref (B + 0)), (1, .int (nI p)), (2, .int (nI n)), (3, .int (nI 1)), (4, .int (nI (K * X))), (5, .int fi1), (6, .int (nI k)), (7, .int (nI r)), (8, .int (bI ((fun e => VV (K * X) (fun r => decide (moR (mbR (M 3) (M 2 0) K X P (M 5) r n n) = nI p)) (n - (k + 1)) (k + 1) ((K * X) * r + e)) (K * X - 1 - d) = true))), (9, .int (bI ((fun e => VV (K * X) (fun r => decide (moR (mbR (M 3) (M 2 0) K X P (M 5) r n n) = nI p)) (n - (k + 1)) (k + 1) ((K * X) * r + e)) (K * X - 1 - d) = true))), (10, .int (nI (K * X - (d + 1)) - nI 1))]) rfl ?_
                                  refine g_st (M1 := setR (setR M 6 rw) 13 wn1) (L1 := [(0, .ref (B + 0)), (1, .int (nI p)), (2, .int (nI n)), (3, .int (nI 1)), (4, .int (nI (K * X))), (5, .int fi1), (6, .int (nI k)), (7, .int (nI r)), (8, .int (bI (anyD (fun e => VV (K * X) (fun r => decide (moR (mbR (M 3) (M 2 0) K X P (M 5) r n n) = nI p)) (n - (k + 1)) (k + 1) ((K * X) * r + e)) (K * X) (d + 1) = true))), (9, .int (bI (allD (fun e => VV (K * X) (fun r => decide (moR (mbR (M 3) (M 2 0) K X P (M 5) r n n) = nI p)) (n - (k + 1)) (k + 1) ((K * X) * r + e)) (K * X) (d + 1) = true))), (10, .int (nI (K * X - (d + 1)) - nI 1))]) rfl (lc rfl (lc rfl (lc rfl (lc rfl (lc rfl (lc rfl (lc rfl (lc rfl (lc (vi (mo_f c171)) (lc (vi (le_f c187)) rfl)))))))))) rfl ?_
                                  exact ih123 (d + 1) _ ⟨by omega, by rw [hfi, if_pos c145, if_pos c145, fsD_n c151]⟩ (by omega)
                            · -- not taken at 151
                              have hE16 : K * X - 1 - d < 2 ^ 31 := by omega
                              refine g_aload_n F 1 (dk dtX7_duel_1 23 rfl) rfl ?_
                              refine g_iload F 11 (dk dtX7_duel_1 24 rfl) rfl ?_
                              refine g_callVi F (As := [.int (nI (K * X - 1 - d))]) (st := []) cv_X7_173 (dk dtX7_duel_1 25 rfl) (by decide) (cm0 D B _ _) rfl rfl (Nat.le_of_ble_eq_true rfl) ⟨by decide, by decide⟩ (k_X7_saysOf l D B _ _ X ((congrFun (setR_ne _ _ (by decide)) _).trans ((congrFun (setR_ne _ _ (by decide)) _).trans hX)) hX1 hX4 (K * X - 1 - d) (by omega)) (fun r157 T157 M157 hp157 => ?_)
                              obtain ⟨e1, e2, e3⟩ := hp157
                              replace e1 := e1.symm; replace e2 := e2.symm; replace e3 := e3.symm; subst e1; subst e2; subst e3
                              refine g_goto F 165 (dk dtX7_duel_1 26 rfl) (by decide) ?_
                              refine g_istore F [(5, .int (nI (saE X (K * X - 1 - d)))), (11, .int (bI ((fun e => VV (K * X) (fun r => decide (moR (mbR (M 3) (M 2 0) K X P (M 5) r n n) = nI p)) (n - (k + 1)) (k + 1) ((K * X) * r + e)) (K * X - 1 - d) = true))), (0, .ref (B + 0)), (1, .int (nI p)), (2, .int (nI n)), (3, .int (nI 1)), (4, .int (nI (K * X))), (6, .int (nI k)), (7, .int (nI r)), (8, .int (bI (anyD (fun e => VV (K * X) (fun r => decide (moR (mbR (M 3) (M 2 0) K X P (M 5) r n n) = nI p)) (n - (k + 1)) (k + 1) ((K * X) * r + e)) (K * X) d = true))), (9, .int (bI (allD (fun e => VV (K * X) (fun r => decide (moR (mbR (M 3) (M 2 0) K X P (M 5) r n n) = nI p)) (n - (k + 1)) (k + 1) ((K * X) * r + e)) (K * X) d = true))), (10, .int (nI (K * X - 1 - d)))] (dk dtX7_duel_1 28 rfl) (by decide) rfl ?_
                              refine g_iload F 1 (dk dtX7_duel_1 29 rfl) rfl ?_
                              refine g_iload F 9 (dk dtX7_duel_1 30 rfl) rfl ?_
                              refine g_icmp_le F 179 (dk dtX7_duel_1 31 rfl) (by decide) (fun c171 => ?_) (fun c171 => ?_)
                              · -- taken at 171
                                refine g_iload F 9 (dk dtX7_duel_1 34 rfl) rfl ?_
                                refine g_istore F [(8, .int (bI (anyD (fun e => VV (K * X) (fun r => decide (moR (mbR (M 3) (M 2 0) K X P (M 5) r n n) = nI p)) (n - (k + 1)) (k + 1) ((K * X) * r + e)) (K * X) d = true))), (5, .int (nI (saE X (K * X - 1 - d)))), (11, .int (bI ((fun e => VV (K * X) (fun r => decide (moR (mbR (M 3) (M 2 0) K X P (M 5) r n n) = nI p)) (n - (k + 1)) (k + 1) ((K * X) * r + e)) (K * X - 1 - d) = true))), (0, .ref (B + 0)), (1, .int (nI p)), (2, .int (nI n)), (3, .int (nI 1)), (4, .int (nI (K * X))), (6, .int (nI k)), (7, .int (nI r)), (9, .int (bI (allD (fun e => VV (K * X) (fun r => decide (moR (mbR (M 3) (M 2 0) K X P (M 5) r n n) = nI p)) (n - (k + 1)) (k + 1) ((K * X) * r + e)) (K * X) d = true))), (10, .int (nI (K * X - 1 - d)))] (dk dtX7_duel_1 35 rfl) (by decide) rfl ?_
                                refine g_iload F 2 (dk dtX7_duel_1 36 rfl) rfl ?_
                                refine g_iload F 10 (dk dtX7_duel_1 37 rfl) rfl ?_
                                refine g_icmp_ge F 195 (dk dtX7_duel_1 38 rfl) (by decide) (fun c187 => ?_) (fun c187 => ?_)
                                · -- taken at 187
                                  refine g_iload F 10 (dk dtX7_duel_1 41 rfl) rfl ?_
                                  refine g_istore F [(9, .int (bI (allD (fun e => VV (K * X) (fun r => decide (moR (mbR (M 3) (M 2 0) K X P (M 5) r n n) = nI p)) (n - (k + 1)) (k + 1) ((K * X) * r + e)) (K * X) d = true))), (8, .int (bI (anyD (fun e => VV (K * X) (fun r => decide (moR (mbR (M 3) (M 2 0) K X P (M 5) r n n) = nI p)) (n - (k + 1)) (k + 1) ((K * X) * r + e)) (K * X) d = true))), (5, .int (nI (saE X (K * X - 1 - d)))), (11, .int (bI ((fun e => VV (K * X) (fun r => decide (moR (mbR (M 3) (M 2 0) K X P (M 5) r n n) = nI p)) (n - (k + 1)) (k + 1) ((K * X) * r + e)) (K * X - 1 - d) = true))), (0, .ref (B + 0)), (1, .int (nI p)), (2, .int (nI n)), (3, .int (nI 1)), (4, .int (nI (K * X))), (6, .int (nI k)), (7, .int (nI r)), (10, .int (nI (K * X - 1 - d)))] (dk dtX7_duel_1 42 rfl) (by decide) rfl ?_
                                  refine g_iinc F 11 (nI (K * X - (d + 1)) - nI 1) [(10, .int (nI (K * X - (d + 1)) - nI 1)), (9, .int (bI (allD (fun e => VV (K * X) (fun r => decide (moR (mbR (M 3) (M 2 0) K X P (M 5) r n n) = nI p)) (n - (k + 1)) (k + 1) ((K * X) * r + e)) (K * X) d = true))), (8, .int (bI (anyD (fun e => VV (K * X) (fun r => decide (moR (mbR (M 3) (M 2 0) K X P (M 5) r n n) = nI p)) (n - (k + 1)) (k + 1) ((K * X) * r + e)) (K * X) d = true))), (5, .int (nI (saE X (K * X - 1 - d)))), (11, .int (bI ((fun e => VV (K * X) (fun r => decide (moR (mbR (M 3) (M 2 0) K X P (M 5) r n n) = nI p)) (n - (k + 1)) (k + 1) ((K * X) * r + e)) (K * X - 1 - d) = true))), (0, .ref (B + 0)), (1, .int (nI p)), (2, .int (nI n)), (3, .int (nI 1)), (4, .int (nI (K * X))), (6, .int (nI k)), (7, .int (nI r))] (dk dtX7_duel_1 43 rfl) rfl (dec_lem hdE) (by decide) rfl ?_
                                  refine g_goto F 123 (dk dtX7_duel_1 44 rfl) (by decide) ?_
                                  refine g_sub [5, 6, 7, 8, 9, 3, 10, 11, 2, 1, 0] (L1 := [(0, .ref (B + 0)), (1, .int (nI p)), (2, .int (nI n)), (3, .int (nI 1)), (4, .int (nI (K * X))), (5, .int (nI (saE X (K * X - 1 - d)))), (6, .int (nI k)), (7, .int (nI r)), (8, .int (bI (anyD (fun e => VV (K * X) (fun r => decide (moR (mbR (M 3) (M 2 0) K X P (M 5) r n n) = nI p)) (n - (k + 1)) (k + 1) ((K * X) * r + e)) (K * X) d = true))), (9, .int (bI (allD (fun e => VV (K * X) (fun r => decide (moR (mbR (M 3) (M 2 0) K X P (M 5) r n n) = nI p)) (n - (k + 1)) (k + 1) ((K * X) * r + e)) (K * X) d = true))), (10, .int (nI (K * X - (d + 1)) - nI 1))]) rfl ?_
                                  refine g_st (M1 := setR (setR M 6 rw) 13 wn1) (L1 := [(0, .ref (B + 0)), (1, .int (nI p)), (2, .int (nI n)), (3, .int (nI 1)), (4, .int (nI (K * X))), (5, .int (nI (saE X (K * X - 1 - d)))), (6, .int (nI k)), (7, .int (nI r)), (8, .int (bI (anyD (fun e => VV (K * X) (fun r => decide (moR (mbR (M 3) (M 2 0) K X P (M 5) r n n) = nI p)) (n - (k + 1)) (k + 1) ((K * X) * r + e)) (K * X) (d + 1) = true))), (9, .int (bI (allD (fun e => VV (K * X) (fun r => decide (moR (mbR (M 3) (M 2 0) K X P (M 5) r n n) = nI p)) (n - (k + 1)) (k + 1) ((K * X) * r + e)) (K * X) (d + 1) = true))), (10, .int (nI (K * X - (d + 1)) - nI 1))]) rfl (lc rfl (lc rfl (lc rfl (lc rfl (lc rfl (lc rfl (lc rfl (lc rfl (lc (vi (mo_t c171)) (lc (vi (le_t c187)) rfl)))))))))) rfl ?_
                                  exact ih123 (d + 1) _ ⟨by omega, by rw [if_pos c145, fsD_y c151]⟩ (by omega)
                                · -- not taken at 187
                                  refine g_iload F 2 (dk dtX7_duel_1 39 rfl) rfl ?_
                                  refine g_goto F 197 (dk dtX7_duel_1 40 rfl) (by decide) ?_
                                  refine g_istore F [(9, .int (bI ((fun e => VV (K * X) (fun r => decide (moR (mbR (M 3) (M 2 0) K X P (M 5) r n n) = nI p)) (n - (k + 1)) (k + 1) ((K * X) * r + e)) (K * X - 1 - d) = true))), (8, .int (bI (anyD (fun e => VV (K * X) (fun r => decide (moR (mbR (M 3) (M 2 0) K X P (M 5) r n n) = nI p)) (n - (k + 1)) (k + 1) ((K * X) * r + e)) (K * X) d = true))), (5, .int (nI (saE X (K * X - 1 - d)))), (11, .int (bI ((fun e => VV (K * X) (fun r => decide (moR (mbR (M 3) (M 2 0) K X P (M 5) r n n) = nI p)) (n - (k + 1)) (k + 1) ((K * X) * r + e)) (K * X - 1 - d) = true))), (0, .ref (B + 0)), (1, .int (nI p)), (2, .int (nI n)), (3, .int (nI 1)), (4, .int (nI (K * X))), (6, .int (nI k)), (7, .int (nI r)), (10, .int (nI (K * X - 1 - d)))] (dk dtX7_duel_1 42 rfl) (by decide) rfl ?_
                                  refine g_iinc F 11 (nI (K * X - (d + 1)) - nI 1) [(10, .int (nI (K * X - (d + 1)) - nI 1)), (9, .int (bI ((fun e => VV (K * X) (fun r => decide (moR (mbR (M 3) (M 2 0) K X P (M 5) r n n) = nI p)) (n - (k + 1)) (k + 1) ((K * X) * r + e)) (K * X - 1 - d) = true))), (8, .int (bI (anyD (fun e => VV (K * X) (fun r => decide (moR (mbR (M 3) (M 2 0) K X P (M 5) r n n) = nI p)) (n - (k + 1)) (k + 1) ((K * X) * r + e)) (K * X) d = true))), (5, .int (nI (saE X (K * X - 1 - d)))), (11, .int (bI ((fun e => VV (K * X) (fun r => decide (moR (mbR (M 3) (M 2 0) K X P (M 5) r n n) = nI p)) (n - (k + 1)) (k + 1) ((K * X) * r + e)) (K * X - 1 - d) = true))), (0, .ref (B + 0)), (1, .int (nI p)), (2, .int (nI n)), (3, .int (nI 1)), (4, .int (nI (K * X))), (6, .int (nI k)), (7, .int (nI r))] (dk dtX7_duel_1 43 rfl) rfl (dec_lem hdE) (by decide) rfl ?_
                                  refine g_goto F 123 (dk dtX7_duel_1 44 rfl) (by decide) ?_
                                  refine g_sub [5, 6, 7, 8, 9, 3, 10, 11, 2, 1, 0] (L1 := [(0, .ref (B + 0)), (1, .int (nI p)), (2, .int (nI n)), (3, .int (nI 1)), (4, .int (nI (K * X))), (5, .int (nI (saE X (K * X - 1 - d)))), (6, .int (nI k)), (7, .int (nI r)), (8, .int (bI (anyD (fun e => VV (K * X) (fun r => decide (moR (mbR (M 3) (M 2 0) K X P (M 5) r n n) = nI p)) (n - (k + 1)) (k + 1) ((K * X) * r + e)) (K * X) d = true))), (9, .int (bI ((fun e => VV (K * X) (fun r => decide (moR (mbR (M 3) (M 2 0) K X P (M 5) r n n) = nI p)) (n - (k + 1)) (k + 1) ((K * X) * r + e)) (K * X - 1 - d) = true))), (10, .int (nI (K * X - (d + 1)) - nI 1))]) rfl ?_
                                  refine g_st (M1 := setR (setR M 6 rw) 13 wn1) (L1 := [(0, .ref (B + 0)), (1, .int (nI p)), (2, .int (nI n)), (3, .int (nI 1)), (4, .int (nI (K * X))), (5, .int (nI (saE X (K * X - 1 - d)))), (6, .int (nI k)), (7, .int (nI r)), (8, .int (bI (anyD (fun e => VV (K * X) (fun r => decide (moR (mbR (M 3) (M 2 0) K X P (M 5) r n n) = nI p)) (n - (k + 1)) (k + 1) ((K * X) * r + e)) (K * X) (d + 1) = true))), (9, .int (bI (allD (fun e => VV (K * X) (fun r => decide (moR (mbR (M 3) (M 2 0) K X P (M 5) r n n) = nI p)) (n - (k + 1)) (k + 1) ((K * X) * r + e)) (K * X) (d + 1) = true))), (10, .int (nI (K * X - (d + 1)) - nI 1))]) rfl (lc rfl (lc rfl (lc rfl (lc rfl (lc rfl (lc rfl (lc rfl (lc rfl (lc (vi (mo_t c171)) (lc (vi (le_f c187)) rfl)))))))))) rfl ?_
                                  exact ih123 (d + 1) _ ⟨by omega, by rw [if_pos c145, fsD_y c151]⟩ (by omega)
                              · -- not taken at 171
                                refine g_iload F 1 (dk dtX7_duel_1 32 rfl) rfl ?_
                                refine g_goto F 181 (dk dtX7_duel_1 33 rfl) (by decide) ?_
                                refine g_istore F [(8, .int (bI ((fun e => VV (K * X) (fun r => decide (moR (mbR (M 3) (M 2 0) K X P (M 5) r n n) = nI p)) (n - (k + 1)) (k + 1) ((K * X) * r + e)) (K * X - 1 - d) = true))), (5, .int (nI (saE X (K * X - 1 - d)))), (11, .int (bI ((fun e => VV (K * X) (fun r => decide (moR (mbR (M 3) (M 2 0) K X P (M 5) r n n) = nI p)) (n - (k + 1)) (k + 1) ((K * X) * r + e)) (K * X - 1 - d) = true))), (0, .ref (B + 0)), (1, .int (nI p)), (2, .int (nI n)), (3, .int (nI 1)), (4, .int (nI (K * X))), (6, .int (nI k)), (7, .int (nI r)), (9, .int (bI (allD (fun e => VV (K * X) (fun r => decide (moR (mbR (M 3) (M 2 0) K X P (M 5) r n n) = nI p)) (n - (k + 1)) (k + 1) ((K * X) * r + e)) (K * X) d = true))), (10, .int (nI (K * X - 1 - d)))] (dk dtX7_duel_1 35 rfl) (by decide) rfl ?_
                                refine g_iload F 2 (dk dtX7_duel_1 36 rfl) rfl ?_
                                refine g_iload F 10 (dk dtX7_duel_1 37 rfl) rfl ?_
                                refine g_icmp_ge F 195 (dk dtX7_duel_1 38 rfl) (by decide) (fun c187 => ?_) (fun c187 => ?_)
                                · -- taken at 187
                                  refine g_iload F 10 (dk dtX7_duel_1 41 rfl) rfl ?_
                                  refine g_istore F [(9, .int (bI (allD (fun e => VV (K * X) (fun r => decide (moR (mbR (M 3) (M 2 0) K X P (M 5) r n n) = nI p)) (n - (k + 1)) (k + 1) ((K * X) * r + e)) (K * X) d = true))), (8, .int (bI ((fun e => VV (K * X) (fun r => decide (moR (mbR (M 3) (M 2 0) K X P (M 5) r n n) = nI p)) (n - (k + 1)) (k + 1) ((K * X) * r + e)) (K * X - 1 - d) = true))), (5, .int (nI (saE X (K * X - 1 - d)))), (11, .int (bI ((fun e => VV (K * X) (fun r => decide (moR (mbR (M 3) (M 2 0) K X P (M 5) r n n) = nI p)) (n - (k + 1)) (k + 1) ((K * X) * r + e)) (K * X - 1 - d) = true))), (0, .ref (B + 0)), (1, .int (nI p)), (2, .int (nI n)), (3, .int (nI 1)), (4, .int (nI (K * X))), (6, .int (nI k)), (7, .int (nI r)), (10, .int (nI (K * X - 1 - d)))] (dk dtX7_duel_1 42 rfl) (by decide) rfl ?_
                                  refine g_iinc F 11 (nI (K * X - (d + 1)) - nI 1) [(10, .int (nI (K * X - (d + 1)) - nI 1)), (9, .int (bI (allD (fun e => VV (K * X) (fun r => decide (moR (mbR (M 3) (M 2 0) K X P (M 5) r n n) = nI p)) (n - (k + 1)) (k + 1) ((K * X) * r + e)) (K * X) d = true))), (8, .int (bI ((fun e => VV (K * X) (fun r => decide (moR (mbR (M 3) (M 2 0) K X P (M 5) r n n) = nI p)) (n - (k + 1)) (k + 1) ((K * X) * r + e)) (K * X - 1 - d) = true))), (5, .int (nI (saE X (K * X - 1 - d)))), (11, .int (bI ((fun e => VV (K * X) (fun r => decide (moR (mbR (M 3) (M 2 0) K X P (M 5) r n n) = nI p)) (n - (k + 1)) (k + 1) ((K * X) * r + e)) (K * X - 1 - d) = true))), (0, .ref (B + 0)), (1, .int (nI p)), (2, .int (nI n)), (3, .int (nI 1)), (4, .int (nI (K * X))), (6, .int (nI k)), (7, .int (nI r))] (dk dtX7_duel_1 43 rfl) rfl (dec_lem hdE) (by decide) rfl ?_
                                  refine g_goto F 123 (dk dtX7_duel_1 44 rfl) (by decide) ?_
                                  refine g_sub [5, 6, 7, 8, 9, 3, 10, 11, 2, 1, 0] (L1 := [(0, .ref (B + 0)), (1, .int (nI p)), (2, .int (nI n)), (3, .int (nI 1)), (4, .int (nI (K * X))), (5, .int (nI (saE X (K * X - 1 - d)))), (6, .int (nI k)), (7, .int (nI r)), (8, .int (bI ((fun e => VV (K * X) (fun r => decide (moR (mbR (M 3) (M 2 0) K X P (M 5) r n n) = nI p)) (n - (k + 1)) (k + 1) ((K * X) * r + e)) (K * X - 1 - d) = true))), (9, .int (bI (allD (fun e => VV (K * X) (fun r => decide (moR (mbR (M 3) (M 2 0) K X P (M 5) r n n) = nI p)) (n - (k + 1)) (k + 1) ((K * X) * r + e)) (K * X) d = true))), (10, .int (nI (K * X - (d + 1)) - nI 1))]) rfl ?_
                                  refine g_st (M1 := setR (setR M 6 rw) 13 wn1) (L1 := [(0, .ref (B + 0)), (1, .int (nI p)), (2, .int (nI n)), (3, .int (nI 1)), (4, .int (nI (K * X))), (5, .int (nI (saE X (K * X - 1 - d)))), (6, .int (nI k)), (7, .int (nI r)), (8, .int (bI (anyD (fun e => VV (K * X) (fun r => decide (moR (mbR (M 3) (M 2 0) K X P (M 5) r n n) = nI p)) (n - (k + 1)) (k + 1) ((K * X) * r + e)) (K * X) (d + 1) = true))), (9, .int (bI (allD (fun e => VV (K * X) (fun r => decide (moR (mbR (M 3) (M 2 0) K X P (M 5) r n n) = nI p)) (n - (k + 1)) (k + 1) ((K * X) * r + e)) (K * X) (d + 1) = true))), (10, .int (nI (K * X - (d + 1)) - nI 1))]) rfl (lc rfl (lc rfl (lc rfl (lc rfl (lc rfl (lc rfl (lc rfl (lc rfl (lc (vi (mo_f c171)) (lc (vi (le_t c187)) rfl)))))))))) rfl ?_
                                  exact ih123 (d + 1) _ ⟨by omega, by rw [if_pos c145, fsD_y c151]⟩ (by omega)
                                · -- not taken at 187
                                  refine g_iload F 2 (dk dtX7_duel_1 39 rfl) rfl ?_
                                  refine g_goto F 197 (dk dtX7_duel_1 40 rfl) (by decide) ?_
                                  refine g_istore F [(9, .int (bI ((fun e => VV (K * X) (fun r => decide (moR (mbR (M 3) (M 2 0) K X P (M 5) r n n) = nI p)) (n - (k + 1)) (k + 1) ((K * X) * r + e)) (K * X - 1 - d) = true))), (8, .int (bI ((fun e => VV (K * X) (fun r => decide (moR (mbR (M 3) (M 2 0) K X P (M 5) r n n) = nI p)) (n - (k + 1)) (k + 1) ((K * X) * r + e)) (K * X - 1 - d) = true))), (5, .int (nI (saE X (K * X - 1 - d)))), (11, .int (bI ((fun e => VV (K * X) (fun r => decide (moR (mbR (M 3) (M 2 0) K X P (M 5) r n n) = nI p)) (n - (k + 1)) (k + 1) ((K * X) * r + e)) (K * X - 1 - d) = true))), (0, .ref (B + 0)), (1, .int (nI p)), (2, .int (nI n)), (3, .int (nI 1)), (4, .int (nI (K * X))), (6, .int (nI k)), (7, .int (nI r)), (10, .int (nI (K * X - 1 - d)))] (dk dtX7_duel_1 42 rfl) (by decide) rfl ?_
                                  refine g_iinc F 11 (nI (K * X - (d + 1)) - nI 1) [(10, .int (nI (K * X - (d + 1)) - nI 1)), (9, .int (bI ((fun e => VV (K * X) (fun r => decide (moR (mbR (M 3) (M 2 0) K X P (M 5) r n n) = nI p)) (n - (k + 1)) (k + 1) ((K * X) * r + e)) (K * X - 1 - d) = true))), (8, .int (bI ((fun e => VV (K * X) (fun r => decide (moR (mbR (M 3) (M 2 0) K X P (M 5) r n n) = nI p)) (n - (k + 1)) (k + 1) ((K * X) * r + e)) (K * X - 1 - d) = true))), (5, .int (nI (saE X (K * X - 1 - d)))), (11, .int (bI ((fun e => VV (K * X) (fun r => decide (moR (mbR (M 3) (M 2 0) K X P (M 5) r n n) = nI p)) (n - (k + 1)) (k + 1) ((K * X) * r + e)) (K * X - 1 - d) = true))), (0, .ref (B + 0)), (1, .int (nI p)), (2, .int (nI n)), (3, .int (nI 1)), (4, .int (nI (K * X))), (6, .int (nI k)), (7, .int (nI r))] (dk dtX7_duel_1 43 rfl) rfl (dec_lem hdE) (by decide) rfl ?_
                                  refine g_goto F 123 (dk dtX7_duel_1 44 rfl) (by decide) ?_
                                  refine g_sub [5, 6, 7, 8, 9, 3, 10, 11, 2, 1, 0] (L1 := [(0, .ref (B + 0)), (1, .int (nI p)), (2, .int (nI n)), (3, .int (nI 1)), (4, .int (nI (K * X))), (5, .int (nI (saE X (K * X - 1 - d)))), (6, .int (nI k)), (7, .int (nI r)), (8, .int (bI ((fun e => VV (K * X) (fun r => decide (moR (mbR (M 3) (M 2 0) K X P (M 5) r n n) = nI p)) (n - (k + 1)) (k + 1) ((K * X) * r + e)) (K * X - 1 - d) = true))), (9, .int (bI ((fun e => VV (K * X) (fun r => decide (moR (mbR (M 3) (M 2 0) K X P (M 5) r n n) = nI p)) (n - (k + 1)) (k + 1) ((K * X) * r + e)) (K * X - 1 - d) = true))), (10, .int (nI (K * X - (d + 1)) - nI 1))]) rfl ?_
                                  refine g_st (M1 := setR (setR M 6 rw) 13 wn1) (L1 := [(0, .ref (B + 0)), (1, .int (nI p)), (2, .int (nI n)), (3, .int (nI 1)), (4, .int (nI (K * X))), (5, .int (nI (saE X (K * X - 1 - d)))), (6, .int (nI k)), (7, .int (nI r)), (8, .int (bI (anyD (fun e => VV (K * X) (fun r => decide (moR (mbR (M 3) (M 2 0) K X P (M 5) r n n) = nI p)) (n - (k + 1)) (k + 1) ((K * X) * r + e)) (K * X) (d + 1) = true))), (9, .int (bI (allD (fun e => VV (K * X) (fun r => decide (moR (mbR (M 3) (M 2 0) K X P (M 5) r n n) = nI p)) (n - (k + 1)) (k + 1) ((K * X) * r + e)) (K * X) (d + 1) = true))), (10, .int (nI (K * X - (d + 1)) - nI 1))]) rfl (lc rfl (lc rfl (lc rfl (lc rfl (lc rfl (lc rfl (lc rfl (lc rfl (lc (vi (mo_f c171)) (lc (vi (le_f c187)) rfl)))))))))) rfl ?_
                                  exact ih123 (d + 1) _ ⟨by omega, by rw [if_pos c145, fsD_y c151]⟩ (by omega)
                    refine g_sub [3, 4, 5, 6, 7, 8, 9, 10, 2, 1, 0] (L1 := [(0, .ref (B + 0)), (1, .int (nI p)), (2, .int (nI n)), (3, .int (nI 1)), (4, .int (nI (K * X))), (5, .int fi), (6, .int (nI k)), (7, .int (nI r)), (8, .int (nI 0)), (9, .int (nI 1)), (10, .int (nI ((K * X) - 1)))]) rfl ?_
                    refine g_st (M1 := setR (setR M 6 rw) 13 wn1) (L1 := [(0, .ref (B + 0)), (1, .int (nI p)), (2, .int (nI n)), (3, .int (nI 1)), (4, .int (nI (K * X))), (5, .int fi), (6, .int (nI k)), (7, .int (nI r)), (8, .int (bI (anyD (fun e => VV (K * X) (fun r => decide (moR (mbR (M 3) (M 2 0) K X P (M 5) r n n) = nI p)) (n - (k + 1)) (k + 1) ((K * X) * r + e)) (K * X) 0 = true))), (9, .int (bI (allD (fun e => VV (K * X) (fun r => decide (moR (mbR (M 3) (M 2 0) K X P (M 5) r n n) = nI p)) (n - (k + 1)) (k + 1) ((K * X) * r + e)) (K * X) 0 = true))), (10, .int (nI (K * X - 0) - nI 1))]) rfl (lc rfl (lc rfl (lc rfl (lc rfl (lc rfl (lc rfl (lc rfl (lc rfl (lc (vi (bI_f Bool.false_ne_true).symm) (lc (vi (bI_t rfl).symm) (lc (vi (pk_sub (by omega)).symm) rfl))))))))))) rfl ?_
                    exact lp123 (K * X + 1) 0 fi ⟨by omega, by
                      by_cases hk0 : k = 0
                      · rw [if_pos hk0]; exact (hI99.2.2.2.1 hk0).1 (by subst hk0; simp at c108; omega)
                      · rw [if_neg hk0]; exact hI99.2.2.2.2 (by omega)⟩ (by omega)
              refine g_sub [1, 2, 3, 4, 5, 6, 7, 0] (L1 := [(0, .ref (B + 0)), (1, .int (nI p)), (2, .int (nI n)), (3, .int (nI 1)), (4, .int (nI (K * X))), (5, .int fi), (6, .int (nI k)), (7, .int (nI 0))]) rfl ?_
              exact lp99 ((K * X) ^ k + 1) 0 fi wn ⟨Nat.zero_le _, fun r1 h => absurd h (Nat.not_lt_zero _), fun q _ h => hI91.2.1 q h, fun _ => ⟨fun _ => hI91.2.2.1 (by omega), fun h => absurd h (Nat.lt_irrefl 0)⟩, fun _ => hI91.2.2.1 (by omega)⟩ (by omega)
        refine g_sub [2, 3, 4, 5, 6, 1, 0] (L1 := [(0, .ref (B + 0)), (1, .int (nI p)), (2, .int (nI n)), (3, .int (nI 1)), (4, .int (nI (K * X))), (5, .int (-9)), (6, .int ((nI n) - (nI 1)))]) rfl ?_
        exact lp91 (n + 1) n (-9) wn ⟨by omega, fun r1 h => by rw [Nat.sub_self]; exact hI42.2 r1 (by omega), fun _ => rfl, fun h => by rw [if_pos h]⟩ (by omega)
      · -- not taken at 50
        refine g_aload_n F 0 (dk dtX7_duel_0 29 rfl) rfl ?_
        refine g_get F fa_X7_47 (dk dtX7_duel_0 30 rfl) (by decide) (cm0 D B _ _) rfl ?_
        refine g_iload F 5 (dk dtX7_duel_0 31 rfl) rfl ?_
        refine g_aload_n F 0 (dk dtX7_duel_0 32 rfl) rfl ?_
        refine g_iload F 5 (dk dtX7_duel_0 33 rfl) rfl ?_
        refine g_iload_n F 2 (dk dtX7_duel_0 34 rfl) rfl ?_
        refine g_callVi F (As := [.int (nI r), .int (nI n)]) (st := [.int (nI r), .ref (B + 13)]) cv_X7_170 (dk dtX7_duel_0 35 rfl) (by decide) (cm0 D B _ _) rfl rfl (Nat.le_of_ble_eq_true rfl) ⟨by decide, by decide⟩ (k_X7_mayorByR l D B _ _ K X (M 3) (M 2 0) (M 5) ((setR_ne _ _ (by decide)).trans (setR_ne _ _ (by decide))) (congrFun ((setR_ne _ _ (by decide)).trans (setR_ne _ _ (by decide))) 0) ((setR_ne _ _ (by decide)).trans (setR_ne _ _ (by decide))) hK ((congrFun (setR_ne _ _ (by decide)) _).trans ((congrFun (setR_ne _ _ (by decide)) _).trans hX)) hK1 hK4 hX1 hX4 P ((congrFun (setR_ne _ _ (by decide)) _).trans ((congrFun (setR_ne _ _ (by decide)) _).trans hP)) hP5 hW r n (by omega) (by omega)) (fun r63 T63 M63 hp63 => ?_)
        obtain ⟨e1, e2, e3⟩ := hp63
        replace e1 := e1.symm; replace e2 := e2.symm; replace e3 := e3.symm; subst e1; subst e2; subst e3
        refine g_iload_n F 1 (dk dtX7_duel_0 36 rfl) rfl ?_
        refine g_icmp_ne F 74 (dk dtX7_duel_0 37 rfl) (by decide) (fun c67 => ?_) (fun c67 => ?_)
        · -- taken at 67
          refine g_iconst F (nI 0) (dk dtX7_duel_0 40 rfl) (by decide) ?_
          refine g_iast F (r) (dk dtX7_duel_0 41 rfl) (by decide) (fun r => cm13 D B _ r) (by omega) (by decide) ?_
          refine g_iinc F 5 (nI (r + 1)) [(5, .int (nI (r + 1))), (0, .ref (B + 0)), (1, .int (nI p)), (2, .int (nI n)), (3, .int (nI 1)), (4, .int (nI (K * X)))] (dk dtX7_duel_0 42 rfl) rfl (nI_1 _) (by decide) rfl ?_
          refine g_goto F 42 (dk dtX7_duel_0 43 rfl) (by decide) ?_
          refine g_sub [1, 2, 3, 4, 5, 0] (L1 := [(0, .ref (B + 0)), (1, .int (nI p)), (2, .int (nI n)), (3, .int (nI 1)), (4, .int (nI (K * X))), (5, .int (nI (r + 1)))]) rfl ?_
          refine g_mem (duel_1 M rw _ wn r _) ?_
          exact ih42 (r + 1) _ _ ⟨by omega, fun r1 h1 => by
            by_cases hr1 : r1 = r
            · subst hr1
              simp only [upd, if_true]
              exact (bI_f (fun h => c67 (of_decide_eq_true h))).symm
            · simp only [upd, if_neg hr1]
              exact hI42.2 r1 (by omega)⟩ (by omega)
        · -- not taken at 67
          refine g_iconst F (nI 1) (dk dtX7_duel_0 38 rfl) (by decide) ?_
          refine g_goto F 75 (dk dtX7_duel_0 39 rfl) (by decide) ?_
          refine g_iast F (r) (dk dtX7_duel_0 41 rfl) (by decide) (fun r => cm13 D B _ r) (by omega) (by decide) ?_
          refine g_iinc F 5 (nI (r + 1)) [(5, .int (nI (r + 1))), (0, .ref (B + 0)), (1, .int (nI p)), (2, .int (nI n)), (3, .int (nI 1)), (4, .int (nI (K * X)))] (dk dtX7_duel_0 42 rfl) rfl (nI_1 _) (by decide) rfl ?_
          refine g_goto F 42 (dk dtX7_duel_0 43 rfl) (by decide) ?_
          refine g_sub [1, 2, 3, 4, 5, 0] (L1 := [(0, .ref (B + 0)), (1, .int (nI p)), (2, .int (nI n)), (3, .int (nI 1)), (4, .int (nI (K * X))), (5, .int (nI (r + 1)))]) rfl ?_
          refine g_mem (duel_1 M rw _ wn r _) ?_
          exact ih42 (r + 1) _ _ ⟨by omega, fun r1 h1 => by
            by_cases hr1 : r1 = r
            · subst hr1
              simp only [upd, if_true]
              exact (bI_t (decide_eq_true c67)).symm
            · simp only [upd, if_neg hr1]
              exact hI42.2 r1 (by omega)⟩ (by omega)
  refine g_sub [2, 3, 4, 5, 1, 0] (L1 := [(0, .ref (B + 0)), (1, .int (nI p)), (2, .int (nI n)), (3, .int (nI 1)), (4, .int (nI (K * X))), (5, .int (nI 0))]) rfl ?_
  exact g_mem (duel_0 M) (lp42 ((K * X) ^ n + 1) 0 (M 6) (M 13) ⟨by omega, fun r1 h => absurd h (Nat.not_lt_zero _)⟩ (by omega))
set_option maxRecDepth 100000 in
set_option maxHeartbeats 4000000 in
theorem k_X7_duel_bad (l : Launch) (D : DX) (B : Nat) (T : Int64) (M : Mem) (h0 : M 0 0 = nI 0) (P : Nat) (hP : M 2 2 = nI P) (hP5 : P ≤ 5) (p n w : Int32) (hb : ¬ (inR p P ∧ inR n 4 ∧ inR w 2)) : Ci l D B 14 (celM D B) yX7_duel cX7_duel 12 (some .int) 4 [.ref (B + 0), .int p, .int n, .int w] T M (fun rz T1 M1 => rz = (-1) ∧ T1 = T ∧ M1 = M) := by
  refine g_entryi (L := [(0, .ref (B + 0)), (1, .int p), (2, .int n), (3, .int w)]) (by decide) (Nat.le_of_ble_eq_true rfl) rfl ?_
  intro zp ze zs zm zb zt zc Q F hQ
  refine g_aload_n F 0 (dk dtX7_duel_0 0 rfl) rfl ?_
  refine g_iconst F (nI 0) (dk dtX7_duel_0 1 rfl) (by decide) ?_
  refine g_put F fa_X7_56 (dk dtX7_duel_0 2 rfl) (by decide) (cm0 D B _ _) (Nat.le_of_ble_eq_true rfl) rfl rfl ((cm0 D B _ _).trans st_Mod_0) ?_
  refine g_mem (up2_same h0) ?_
  refine g_aload_n F 0 (dk dtX7_duel_0 3 rfl) rfl ?_
  refine g_iload_n F 1 (dk dtX7_duel_0 4 rfl) rfl ?_
  refine g_callVi F (As := [.int p]) (st := []) cv_X7_129 (dk dtX7_duel_0 5 rfl) (by decide) (cm0 D B _ _) rfl rfl (Nat.le_of_ble_eq_true rfl) ⟨by decide, by decide⟩ (k_X7_isOne l D B _ _ _ P hP (by omega)) (fun r7 T7 M7 hp7 => ?_)
  obtain ⟨e1, e2, e3⟩ := hp7
  replace e1 := e1.symm; replace e2 := e2.symm; replace e3 := e3.symm; subst e1; subst e2; subst e3
  refine g_if_eqB F 31 (dk dtX7_duel_0 6 rfl) (by decide) (fun c10 => ?_) (fun c10 => ?_)
  · -- taken at 10
    refine g_iconst F (-1) (dk dtX7_duel_0 17 rfl) (by decide) ?_
    refine g_iret (F := F) hQ (dk dtX7_duel_0 18 rfl) ?_
    exact ⟨rfl, rfl, rfl⟩
  · -- not taken at 10
    refine g_iload_n F 2 (dk dtX7_duel_0 7 rfl) rfl ?_
    refine g_iconst F (nI 0) (dk dtX7_duel_0 8 rfl) (by decide) ?_
    refine g_iconst F (nI 3) (dk dtX7_duel_0 9 rfl) (by decide) ?_
    refine g_callSi F (As := [.int n, .int (nI 0), .int (nI 3)]) (st := []) cs_X7_60 (dk dtX7_duel_0 10 rfl) rfl rfl (Nat.le_of_ble_eq_true rfl) ⟨by decide, by decide⟩ (k_X7_inR l D B _ _ _ 3 (by decide)) (fun r16 T16 M16 hp16 => ?_)
    obtain ⟨e1, e2, e3⟩ := hp16
    replace e1 := e1.symm; replace e2 := e2.symm; replace e3 := e3.symm; subst e1; subst e2; subst e3
    refine g_if_eqB F 31 (dk dtX7_duel_0 11 rfl) (by decide) (fun c19 => ?_) (fun c19 => ?_)
    · -- taken at 19
      refine g_iconst F (-1) (dk dtX7_duel_0 17 rfl) (by decide) ?_
      refine g_iret (F := F) hQ (dk dtX7_duel_0 18 rfl) ?_
      exact ⟨rfl, rfl, rfl⟩
    · -- not taken at 19
      refine g_iload_n F 3 (dk dtX7_duel_0 12 rfl) rfl ?_
      refine g_iconst F (nI 0) (dk dtX7_duel_0 13 rfl) (by decide) ?_
      refine g_iconst F (nI 1) (dk dtX7_duel_0 14 rfl) (by decide) ?_
      refine g_callSi F (As := [.int w, .int (nI 0), .int (nI 1)]) (st := []) cs_X7_60 (dk dtX7_duel_0 15 rfl) rfl rfl (Nat.le_of_ble_eq_true rfl) ⟨by decide, by decide⟩ (k_X7_inR l D B _ _ _ 1 (by decide)) (fun r25 T25 M25 hp25 => ?_)
      obtain ⟨e1, e2, e3⟩ := hp25
      replace e1 := e1.symm; replace e2 := e2.symm; replace e3 := e3.symm; subst e1; subst e2; subst e3
      refine g_if_neB F 33 (dk dtX7_duel_0 16 rfl) (by decide) (fun c28 => ?_) (fun c28 => ?_)
      · -- taken at 28
        exact absurd ⟨c10, c19, c28⟩ hb
      · -- not taken at 28
        refine g_iconst F (-1) (dk dtX7_duel_0 17 rfl) (by decide) ?_
        refine g_iret (F := F) hQ (dk dtX7_duel_0 18 rfl) ?_
        exact ⟨rfl, rfl, rfl⟩
