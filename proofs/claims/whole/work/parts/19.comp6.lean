def eu : Nat → Nat → Nat → Nat
  | 0, a, _ => a
  | n + 1, a, b => if b = 0 then a else eu n b (a % b)
theorem eu_z (n a : Nat) : eu n a 0 = a := by
  cases n with
  | zero => rfl
  | succ n => exact if_pos rfl
theorem eu_log (k : Nat) : ∀ (a b n : Nat), b < 2 ^ k → 2 * k ≤ n → eu n a b = Nat.gcd a b := by
  induction k with
  | zero =>
    intro a b n hb _
    obtain rfl : b = 0 := by simp at hb; exact hb
    rw [eu_z, Nat.gcd_zero_right]
  | succ k ih =>
    intro a b n hb hn
    obtain ⟨m, rfl⟩ : ∃ m, n = m + 2 := ⟨n - 2, by omega⟩
    by_cases h0 : b = 0
    · subst h0; rw [eu_z, Nat.gcd_zero_right]
    · have e1 : eu (m + 2) a b = eu (m + 1) b (a % b) := if_neg h0
      have g1 : Nat.gcd a b = Nat.gcd b (a % b) := by rw [Nat.gcd_comm a b, Nat.gcd_rec b a, Nat.gcd_comm]
      rw [e1, g1]
      have hr : a % b < b := Nat.mod_lt _ (Nat.pos_of_ne_zero h0)
      by_cases h1 : a % b = 0
      · rw [h1, eu_z, Nat.gcd_zero_right]
      · have e2 : eu (m + 1) b (a % b) = eu m (a % b) (b % (a % b)) := if_neg h1
        have g2 : Nat.gcd b (a % b) = Nat.gcd (a % b) (b % (a % b)) := by rw [Nat.gcd_comm b (a % b), Nat.gcd_rec (a % b) b, Nat.gcd_comm]
        rw [e2, g2]
        have hr2 : b % (a % b) < a % b := Nat.mod_lt _ (Nat.pos_of_ne_zero h1)
        have hr3 : b % (a % b) + a % b ≤ b := by
          have h3 := Nat.mod_add_div b (a % b)
          have h4 : 1 ≤ b / (a % b) := (Nat.le_div_iff_mul_le (Nat.pos_of_ne_zero h1)).mpr (by omega)
          have h5 : a % b * 1 ≤ a % b * (b / (a % b)) := Nat.mul_le_mul_left _ h4
          omega
        exact ih _ _ _ (by rw [Nat.pow_succ] at hb; omega) (by omega)
theorem eu_s {i u v a b : Nat} (hi : i < 64) (hv : ¬ v = 0) (h : eu (64 - i) u v = eu 64 a b) : eu (64 - (i + 1)) v (u % v) = eu 64 a b := by
  rw [show 64 - i = (64 - (i + 1)) + 1 by omega] at h
  rw [← h]
  exact (if_neg hv).symm
theorem eu_end {i u v a b : Nat} (hb : b ≤ 256) (h : eu (64 - i) u v = eu 64 a b) (he : v = 0 ∨ 64 ≤ i) : u = Nat.gcd a b := by
  have h1 := eu_log 9 a b 64 (by omega) (by omega)
  rw [← h1, ← h]
  rcases he with rfl | he
  · rw [eu_z]
  · rw [show 64 - i = 0 by omega]
    rfl
theorem mx_1 {g : Nat} (h : 0 < g) (hg : g < 2 ^ 31) : mx (nI 1) (nI g) = nI g := by
  unfold mx
  by_cases h1 : g = 1
  · subst h1
    exact if_neg (by decide)
  · exact if_pos (nI_lt (by omega) hg)
theorem wyK_le (nv : Nat → Int32) (Kv : Int32) (K : Nat) (pv x : Int32) (P l : Nat) (row : Nat → Int32) (B : Nat) (h : ∀ row, wyR nv Kv K pv x P l row ≤ B) (k : Nat) : wyK nv Kv K pv x P l row k ≤ k * B := by
  induction k with
  | zero => exact Nat.zero_le _
  | succ k ih =>
    simp only [wyK]
    have := h (evR nv Kv row k x P)
    rw [Nat.succ_mul]
    omega
theorem wy_le (nv : Nat → Int32) (Kv : Int32) (K : Nat) (pv x : Int32) (P l : Nat) : ∀ row : Nat → Int32, wyR nv Kv K pv x P l row ≤ K ^ l := by
  induction l with
  | zero =>
    intro row
    simp only [wyR]
    split <;> simp
  | succ l ih =>
    intro row
    have h := wyK_le nv Kv K pv x P l row (K ^ l) ih K
    rw [wyK_eq] at h
    rw [Nat.pow_succ, Nat.mul_comm]
    exact h
def ldR (nv : Nat → Int32) (Kv : Int32) (K P p : Nat) : Nat → (Nat → Int32) → Bool
  | 0, row => decide (moR row = nI p)
  | l + 1, row => (List.range K).any (fun k => ldR nv Kv K P p l (evR nv Kv row k (row p) P))
def PL (nv : Nat → Int32) (Kv : Int32) (K P p : Nat) : Nat → (Nat → Int32) → (Nat → Int32) → Prop
  | 0, _, _ => True
  | l + 1, row, g => ∃ k, k < K ∧ g 0 = nI (10 * k) + row p ∧ (∀ k1, k1 < k → ¬ ldR nv Kv K P p l (evR nv Kv row k1 (row p) P) = true) ∧ ldR nv Kv K P p l (evR nv Kv row k (row p) P) = true ∧ PL nv Kv K P p l (evR nv Kv row k (row p) P) (fun j => g (j + 1))
theorem ld_y {nv : Nat → Int32} {Kv : Int32} {K P p l : Nat} {row : Nat → Int32} {k : Nat} (hk : k < K) (h : ldR nv Kv K P p l (evR nv Kv row k (row p) P) = true) : ldR nv Kv K P p (l + 1) row = true := by
  simp only [ldR]
  exact List.any_eq_true.mpr ⟨k, List.mem_range.mpr hk, h⟩
theorem ld_n {nv : Nat → Int32} {Kv : Int32} {K P p l : Nat} {row : Nat → Int32} (h : ∀ k, k < K → ¬ ldR nv Kv K P p l (evR nv Kv row k (row p) P) = true) : ¬ ldR nv Kv K P p (l + 1) row = true := by
  simp only [ldR]
  intro q
  obtain ⟨k, hk, e⟩ := List.any_eq_true.mp q
  exact h k (List.mem_range.mp hk) e
set_option maxRecDepth 100000 in
set_option maxHeartbeats 4000000 in
theorem k_X6_commonDivisor (l : Launch) (D : DX) (B : Nat) (T : Int64) (M : Mem) (a b : Nat) (ha : a < 2 ^ 31) (hb : b ≤ 256) : Ci l D B 108 (celC D B) yX6_commonDivisor cX6_commonDivisor 6 (some .int) 0 [.int (nI a), .int (nI b)] T M (fun rz T1 M1 => rz = (nI (Nat.gcd a b)) ∧ T1 = T ∧ M1 = M) := by
  refine g_entryi (L := [(0, .int (nI a)), (1, .int (nI b))]) (by decide) (Nat.le_of_ble_eq_true rfl) rfl ?_
  intro zp ze zs zm zb zt zc Q F hQ
  refine g_iload_n F 0 (dk dtX6_commonDivisor_0 0 rfl) rfl ?_
  refine g_istore_n F [(2, .int (nI a)), (0, .int (nI a)), (1, .int (nI b))] (dk dtX6_commonDivisor_0 1 rfl) (by decide) rfl ?_
  refine g_iload_n F 2 (dk dtX6_commonDivisor_0 2 rfl) rfl ?_
  refine g_istore_n F [(3, .int (nI b)), (2, .int (nI a)), (0, .int (nI a)), (1, .int (nI b))] (dk dtX6_commonDivisor_0 3 rfl) (by decide) rfl ?_
  refine g_iconst F (nI 0) (dk dtX6_commonDivisor_0 4 rfl) (by decide) ?_
  refine g_istore F [(4, .int (nI 0)), (3, .int (nI b)), (2, .int (nI a)), (0, .int (nI a)), (1, .int (nI b))] (dk dtX6_commonDivisor_0 5 rfl) (by decide) rfl ?_
  have lp7 : ∀ (fz : Nat) (i u v : Nat), (i ≤ 64 ∧ u < 2 ^ 31 ∧ v < 2 ^ 31 ∧ eu (64 - i) u v = eu 64 a b) → (64 - i) < fz → G zp l ze { frames := 0, cells := 0, slots := 0, locals := 40 * 0 } zs zm [.int (nI a), .int (nI b)].toArray zb zt zc 6 D B 108 (celC D B) Q T M 7 [(0, .int (nI a)), (1, .int (nI b)), (2, .int (nI u)), (3, .int (nI v)), (4, .int (nI i))] [] := by
    intro n7
    induction n7 with
    | zero => intro i u v hI hn; exact absurd hn (Nat.not_lt_zero _)
    | succ n7 ih7 =>
      intro i u v hI7 hn7
      refine g_iload F 4 (dk dtX6_commonDivisor_0 6 rfl) rfl ?_
      refine g_bipush F (nI 64) (dk dtX6_commonDivisor_0 7 rfl) (by decide) ?_
      refine g_icmp_geN F 34 (dk dtX6_commonDivisor_0 8 rfl) (by decide) (by omega) (by omega) (fun c11 => ?_) (fun c11 => ?_)
      · -- taken at 11
        refine g_iload_n F 2 (dk dtX6_commonDivisor_0 21 rfl) rfl ?_
        refine g_iret (F := F) hQ (dk dtX6_commonDivisor_0 22 rfl) ?_
        exact ⟨congrArg nI (eu_end hb hI7.2.2.2 (Or.inr (by omega))), rfl, rfl⟩
      · -- not taken at 11
        refine g_iload_n F 3 (dk dtX6_commonDivisor_0 9 rfl) rfl ?_
        refine g_if_eqN F 34 (dk dtX6_commonDivisor_0 10 rfl) (by decide) (by omega) (fun c15 => ?_) (fun c15 => ?_)
        · -- taken at 15
          refine g_iload_n F 2 (dk dtX6_commonDivisor_0 21 rfl) rfl ?_
          refine g_iret (F := F) hQ (dk dtX6_commonDivisor_0 22 rfl) ?_
          exact ⟨congrArg nI (eu_end hb hI7.2.2.2 (Or.inl c15)), rfl, rfl⟩
        · -- not taken at 15
          refine g_iload_n F 2 (dk dtX6_commonDivisor_0 11 rfl) rfl ?_
          refine g_iload_n F 3 (dk dtX6_commonDivisor_0 12 rfl) rfl ?_
          refine g_iremN F (dk dtX6_commonDivisor_0 13 rfl) (by omega) (by omega) (by omega) ?_
          refine g_istore F [(5, .int (nI (u % v))), (0, .int (nI a)), (1, .int (nI b)), (2, .int (nI u)), (3, .int (nI v)), (4, .int (nI i))] (dk dtX6_commonDivisor_0 14 rfl) (by decide) rfl ?_
          refine g_iload_n F 4 (dk dtX6_commonDivisor_0 15 rfl) rfl ?_
          refine g_istore_n F [(2, .int (nI v)), (5, .int (nI (u % v))), (0, .int (nI a)), (1, .int (nI b)), (3, .int (nI v)), (4, .int (nI i))] (dk dtX6_commonDivisor_0 16 rfl) (by decide) rfl ?_
          refine g_iload F 1 (dk dtX6_commonDivisor_0 17 rfl) rfl ?_
          refine g_istore_n F [(3, .int (nI (u % v))), (2, .int (nI v)), (5, .int (nI (u % v))), (0, .int (nI a)), (1, .int (nI b)), (4, .int (nI i))] (dk dtX6_commonDivisor_0 18 rfl) (by decide) rfl ?_
          refine g_iinc F 5 (nI (i + 1)) [(4, .int (nI (i + 1))), (3, .int (nI (u % v))), (2, .int (nI v)), (5, .int (nI (u % v))), (0, .int (nI a)), (1, .int (nI b))] (dk dtX6_commonDivisor_0 19 rfl) rfl (nI_1 _) (by decide) rfl ?_
          refine g_goto F 7 (dk dtX6_commonDivisor_0 20 rfl) (by decide) ?_
          refine g_sub [4, 5, 2, 1, 0] (L1 := [(0, .int (nI a)), (1, .int (nI b)), (2, .int (nI v)), (3, .int (nI (u % v))), (4, .int (nI (i + 1)))]) rfl ?_
          have hlt := Nat.mod_lt u (Nat.pos_of_ne_zero c15)
          exact ih7 (i + 1) v (u % v) ⟨by omega, by omega, by omega, eu_s (by omega) c15 hI7.2.2.2⟩ (by omega)
  refine g_sub [3, 4, 2, 1, 0] (L1 := [(0, .int (nI a)), (1, .int (nI b)), (2, .int (nI a)), (3, .int (nI b)), (4, .int (nI 0))]) rfl ?_
  exact lp7 65 0 a b ⟨by omega, ha, by omega, rfl⟩ (by omega)
set_option maxRecDepth 100000 in
set_option maxHeartbeats 4000000 in
theorem k_X6_odds_0_0 (l : Launch) (D : DX) (B : Nat) (T : Int64) (M : Mem) (P : Nat) (hP : M 10 2 = nI P) (hP5 : P ≤ 5) (K : Nat) (hK : M 10 0 = nI K) (hK1 : 1 ≤ K) (hK4 : K ≤ 4) (X : Nat) (hX : M 10 1 = nI X) (hX1 : 1 ≤ X) (hX4 : X ≤ 4) (row nv : Nat → Int32) (hR : NR M 12 row) (hW : WR row) (hM : MW row) (hv : ∀ p, p < P → M 11 p = nv p) (p x : Nat) (hp : p < P) (hx : x < X)  : Ci l D B 108 (celC D B) yX6_odds cX6_odds 8 (some .int) 10 [.ref (B + 0), .int (nI p), .int (nI x), .int (nI 0), .int (nI 0)] T M (fun rz T1 M1 => rz = nI (wyR nv (nI K) K (nI p) (nI x) P 0 row / Nat.gcd (wyR nv (nI K) K (nI p) (nI x) P 0 row) (K ^ 0)) ∧ T1 = T ∧ Sc M M1) := by
  refine g_entryi (L := [(0, .ref (B + 0)), (1, .int (nI p)), (2, .int (nI x)), (3, .int (nI 0)), (4, .int (nI 0))]) (by decide) (Nat.le_of_ble_eq_true rfl) rfl ?_
  intro zp ze zs zm zb zt zc Q F hQ
  refine g_aload_n F 0 (dk dtX6_odds_0 0 rfl) rfl ?_
  refine g_get F fa_X6_19 (dk dtX6_odds_0 1 rfl) (by decide) (cc0 D B _ _) rfl ?_
  refine g_iload_n F 1 (dk dtX6_odds_0 2 rfl) rfl ?_
  refine g_callVi F (As := [.int (nI p)]) (st := []) cv_X6_94 (dk dtX6_odds_0 3 rfl) (by decide) (cc10 D B _ _) rfl rfl (Nat.le_of_ble_eq_true rfl) ⟨by decide, by decide⟩ (k_X5_hasPersonR l D B _ _ _ P hP) (fun r5 T5 M5 hp5 => ?_)
  obtain ⟨e1, e2, e3⟩ := hp5
  replace e1 := e1.symm; replace e2 := e2.symm; replace e3 := e3.symm; subst e1; subst e2; subst e3
  refine g_if_eqB F 22 (dk dtX6_odds_0 4 rfl) (by decide) (fun c => absurd (inR_nI (by omega)) c) (fun _ => ?_)
  refine g_aload_n F 0 (dk dtX6_odds_0 5 rfl) rfl ?_
  refine g_get F fa_X6_19 (dk dtX6_odds_0 6 rfl) (by decide) (cc0 D B _ _) rfl ?_
  refine g_iload_n F 2 (dk dtX6_odds_0 7 rfl) rfl ?_
  refine g_callVi F (As := [.int (nI x)]) (st := []) cv_X6_132 (dk dtX6_odds_0 8 rfl) (by decide) (cc10 D B _ _) rfl rfl (Nat.le_of_ble_eq_true rfl) ⟨by decide, by decide⟩ (k_X5_hasPlaceR l D B _ _ _ X hX) (fun r16 T16 M16 hp16 => ?_)
  obtain ⟨e1, e2, e3⟩ := hp16
  replace e1 := e1.symm; replace e2 := e2.symm; replace e3 := e3.symm; subst e1; subst e2; subst e3
  refine g_if_neB F 24 (dk dtX6_odds_0 9 rfl) (by decide) (fun _ => ?_) (fun c => absurd (inR_nI (by omega)) c)
  refine g_iload_n F 3 (dk dtX6_odds_0 12 rfl) rfl ?_
  refine g_if_lt F 41 (dk dtX6_odds_0 13 rfl) (by decide) (fun c25 => ?_) (fun c25 => ?_)
  · -- taken at 25
    exact absurd c25 (by decide)
  · -- not taken at 25
    refine g_iload_n F 3 (dk dtX6_odds_0 14 rfl) rfl ?_
    refine g_iconst F (nI 4) (dk dtX6_odds_0 15 rfl) (by decide) ?_
    refine g_icmp_gtN F 41 (dk dtX6_odds_0 16 rfl) (by decide) (by decide) (by decide) (fun c => absurd c (by decide)) (fun _ => ?_)
    refine g_iload F 4 (dk dtX6_odds_0 17 rfl) rfl ?_
    refine g_callSi F (As := [.int (nI 0)]) (st := []) cs_X6_158 (dk dtX6_odds_0 18 rfl) rfl rfl (Nat.le_of_ble_eq_true rfl) ⟨by decide, by decide⟩ (k_X6_isBit l D B _ _ _) (fun r35 T35 M35 hp35 => ?_)
    obtain ⟨e1, e2, e3⟩ := hp35
    replace e1 := e1.symm; replace e2 := e2.symm; replace e3 := e3.symm; subst e1; subst e2; subst e3
    refine g_if_neB F 43 (dk dtX6_odds_0 19 rfl) (by decide) (fun _ => ?_) (fun c => absurd (inR_nI (by omega)) c)
    refine g_aload_n F 0 (dk dtX6_odds_0 22 rfl) rfl ?_
    refine g_get F fa_X6_40 (dk dtX6_odds_0 23 rfl) (by decide) (cc0 D B _ _) rfl ?_
    refine g_aload_n F 0 (dk dtX6_odds_0 24 rfl) rfl ?_
    refine g_get F fa_X6_19 (dk dtX6_odds_0 25 rfl) (by decide) (cc0 D B _ _) rfl ?_
    refine g_aload_n F 0 (dk dtX6_odds_0 26 rfl) rfl ?_
    refine g_get F fa_X6_26 (dk dtX6_odds_0 27 rfl) (by decide) (cc0 D B _ _) rfl ?_
    refine g_iload_n F 1 (dk dtX6_odds_0 28 rfl) rfl ?_
    refine g_iload_n F 2 (dk dtX6_odds_0 29 rfl) rfl ?_
    refine g_iload_n F 3 (dk dtX6_odds_0 30 rfl) rfl ?_
    refine g_callVi F (As := [.ref (B + 10), .ref (B + 12), .int (nI p), .int (nI x), .int (nI 0)]) (st := []) cv_X6_168 (dk dtX6_odds_0 31 rfl) (by decide) (cc69 D B _ _) rfl rfl (Nat.le_of_ble_eq_true rfl) ⟨by decide, by decide⟩ (k_X0_ways_0 l D B _ _ row nv hR hW hM K P hK hP hK1 hK4 hP5 hv p hp (nI x)) (fun r58 T58 M58 hp58 => ?_)
    obtain ⟨hr58, hT58, hS58⟩ := hp58
    replace hT58 := hT58.symm; subst hT58; replace hr58 := hr58.symm; subst hr58
    have hK58 : M58 10 0 = nI K := by rw [hS58 10 (by decide)]; exact hK
    refine g_istore F [(5, .int (nI (wyR nv (nI K) K (nI p) (nI x) P 0 row))), (0, .ref (B + 0)), (1, .int (nI p)), (2, .int (nI x)), (3, .int (nI 0)), (4, .int (nI 0))] (dk dtX6_odds_0 32 rfl) (by decide) rfl ?_
    refine g_iconst F (nI 1) (dk dtX6_odds_0 33 rfl) (by decide) ?_
    refine g_istore F [(6, .int (nI 1)), (5, .int (nI (wyR nv (nI K) K (nI p) (nI x) P 0 row))), (0, .ref (B + 0)), (1, .int (nI p)), (2, .int (nI x)), (3, .int (nI 0)), (4, .int (nI 0))] (dk dtX6_odds_0 34 rfl) (by decide) rfl ?_
    refine g_iconst F (nI 0) (dk dtX6_odds_0 35 rfl) (by decide) ?_
    refine g_istore F [(7, .int (nI 0)), (6, .int (nI 1)), (5, .int (nI (wyR nv (nI K) K (nI p) (nI x) P 0 row))), (0, .ref (B + 0)), (1, .int (nI p)), (2, .int (nI x)), (3, .int (nI 0)), (4, .int (nI 0))] (dk dtX6_odds_0 36 rfl) (by decide) rfl ?_
    have lp69 : ∀ (fz : Nat) (i : Nat), i ≤ 0 → (0 - i) < fz → G zp l ze { frames := 10, cells := 0, slots := 0, locals := 40 * 10 } zs zm [.ref (B + 0), .int (nI p), .int (nI x), .int (nI 0), .int (nI 0)].toArray zb zt zc 8 D B 108 (celC D B) Q T M58 69 [(0, .ref (B + 0)), (1, .int (nI p)), (2, .int (nI x)), (3, .int (nI 0)), (4, .int (nI 0)), (5, .int (nI (wyR nv (nI K) K (nI p) (nI x) P 0 row))), (6, .int (nI (K ^ i))), (7, .int (nI i))] [] := by
      intro n69
      induction n69 with
      | zero => intro i hI hn; exact absurd hn (Nat.not_lt_zero _)
      | succ n69 ih69 =>
        intro i hI69 hn69
        refine g_iload F 7 (dk dtX6_odds_0 37 rfl) rfl ?_
        refine g_iload_n F 3 (dk dtX6_odds_0 38 rfl) rfl ?_
        refine g_icmp_geN F 93 (dk dtX6_odds_0 39 rfl) (by decide) (by omega) (by omega) (fun c72 => ?_) (fun c72 => ?_)
        · -- taken at 72
          obtain rfl : 0 = i := by omega
          have hwl := wy_le nv (nI K) K (nI p) (nI x) P 0 row
          have hkn := kn_le (K := K) (n := 0) hK4 (by decide)
          have hkp : 0 < K ^ 0 := Nat.pow_pos hK1
          have hgp := Nat.gcd_pos_of_pos_right (wyR nv (nI K) K (nI p) (nI x) P 0 row) hkp
          have hgl := Nat.le_of_dvd hkp (Nat.gcd_dvd_right (wyR nv (nI K) K (nI p) (nI x) P 0 row) (K ^ 0))
          refine g_iconst F (nI 1) (dk dtX6_odds_0 48 rfl) (by decide) ?_
          refine g_iload F 5 (dk dtX6_odds_0 49 rfl) rfl ?_
          refine g_iload F 6 (dk dtX6_odds_0 50 rfl) rfl ?_
          refine g_callSi F (As := [.int (nI (wyR nv (nI K) K (nI p) (nI x) P 0 row)), .int (nI (K ^ 0))]) (st := [.int (nI 1)]) cs_X6_175 (dk dtX6_odds_0 51 rfl) rfl rfl (Nat.le_of_ble_eq_true rfl) ⟨by decide, by decide⟩ (k_X6_commonDivisor l D B _ _ (wyR nv (nI K) K (nI p) (nI x) P 0 row) (K ^ 0) (by omega) (by omega)) (fun r98 T98 M98 hp98 => ?_)
          obtain ⟨e1, e2, e3⟩ := hp98
          replace e1 := e1.symm; replace e2 := e2.symm; replace e3 := e3.symm; subst e1; subst e2; subst e3
          refine g_mmax F (tw2 232 rfl) (dk dtX6_odds_0 52 rfl) (Nat.le_of_ble_eq_true rfl) (Nat.le_of_ble_eq_true rfl) ?_
          refine g_top (mx_1 hgp (by omega)) ?_
          refine g_istore F [(7, .int (nI (Nat.gcd (wyR nv (nI K) K (nI p) (nI x) P 0 row) (K ^ 0)))), (0, .ref (B + 0)), (1, .int (nI p)), (2, .int (nI x)), (3, .int (nI 0)), (4, .int (nI 0)), (5, .int (nI (wyR nv (nI K) K (nI p) (nI x) P 0 row))), (6, .int (nI (K ^ 0)))] (dk dtX6_odds_0 53 rfl) (by decide) rfl ?_
          refine g_iload F 5 (dk dtX6_odds_0 54 rfl) rfl ?_
          refine g_if_neN F 116 (dk dtX6_odds_0 55 rfl) (by decide) (by decide) (fun c => absurd c (by decide)) (fun _ => ?_)
          refine g_iload F 6 (dk dtX6_odds_0 56 rfl) rfl ?_
          refine g_goto F 118 (dk dtX6_odds_0 57 rfl) (by decide) ?_
          refine g_iload F 0 (dk dtX6_odds_0 59 rfl) rfl ?_
          refine g_idivN F (dk dtX6_odds_1 0 rfl) (by omega) (by omega) (by omega) ?_
          refine g_iret (F := F) hQ (dk dtX6_odds_1 1 rfl) ?_
          exact ⟨rfl, rfl, hS58⟩
        · -- not taken at 72
          refine g_iload F 6 (dk dtX6_odds_0 40 rfl) rfl ?_
          refine g_aload_n F 0 (dk dtX6_odds_0 41 rfl) rfl ?_
          refine g_get F fa_X6_19 (dk dtX6_odds_0 42 rfl) (by decide) (cc0 D B _ _) rfl ?_
          refine g_get F fa_X6_172 (dk dtX6_odds_0 43 rfl) (by decide) (cc10 D B _ _) rfl ?_
          refine g_top hK58 ?_
          refine g_imulN F (dk dtX6_odds_0 44 rfl) ?_
          refine g_istore F [(6, .int (nI ((K ^ i) * K))), (0, .ref (B + 0)), (1, .int (nI p)), (2, .int (nI x)), (3, .int (nI 0)), (4, .int (nI 0)), (5, .int (nI (wyR nv (nI K) K (nI p) (nI x) P 0 row))), (7, .int (nI i))] (dk dtX6_odds_0 45 rfl) (by decide) rfl ?_
          refine g_iinc F 7 (nI (i + 1)) [(7, .int (nI (i + 1))), (6, .int (nI ((K ^ i) * K))), (0, .ref (B + 0)), (1, .int (nI p)), (2, .int (nI x)), (3, .int (nI 0)), (4, .int (nI 0)), (5, .int (nI (wyR nv (nI K) K (nI p) (nI x) P 0 row)))] (dk dtX6_odds_0 46 rfl) rfl (nI_1 _) (by decide) rfl ?_
          refine g_goto F 69 (dk dtX6_odds_0 47 rfl) (by decide) ?_
          refine g_sub [2, 3, 4, 5, 6, 7, 1, 0] (L1 := [(0, .ref (B + 0)), (1, .int (nI p)), (2, .int (nI x)), (3, .int (nI 0)), (4, .int (nI 0)), (5, .int (nI (wyR nv (nI K) K (nI p) (nI x) P 0 row))), (6, .int (nI ((K ^ i) * K))), (7, .int (nI (i + 1)))]) rfl ?_
          have eq69_6 : (nI ((K ^ i) * K) : Int32) = nI (K ^ (i + 1)) := by
            rfl
          refine g_st (M1 := M58) (L1 := [(0, .ref (B + 0)), (1, .int (nI p)), (2, .int (nI x)), (3, .int (nI 0)), (4, .int (nI 0)), (5, .int (nI (wyR nv (nI K) K (nI p) (nI x) P 0 row))), (6, .int (nI (K ^ (i + 1)))), (7, .int (nI (i + 1)))]) rfl (lc rfl (lc rfl (lc rfl (lc rfl (lc rfl (lc rfl (lc (vi eq69_6) (lc rfl rfl)))))))) rfl ?_
          exact ih69 (i + 1) (by omega) (by omega)
    refine g_sub [3, 4, 5, 6, 7, 2, 1, 0] (L1 := [(0, .ref (B + 0)), (1, .int (nI p)), (2, .int (nI x)), (3, .int (nI 0)), (4, .int (nI 0)), (5, .int (nI (wyR nv (nI K) K (nI p) (nI x) P 0 row))), (6, .int (nI 1)), (7, .int (nI 0))]) rfl ?_
    exact lp69 1 0 (by omega) (by omega)
set_option maxRecDepth 100000 in
set_option maxHeartbeats 4000000 in
theorem k_X6_odds_0_1 (l : Launch) (D : DX) (B : Nat) (T : Int64) (M : Mem) (P : Nat) (hP : M 10 2 = nI P) (hP5 : P ≤ 5) (K : Nat) (hK : M 10 0 = nI K) (hK1 : 1 ≤ K) (hK4 : K ≤ 4) (X : Nat) (hX : M 10 1 = nI X) (hX1 : 1 ≤ X) (hX4 : X ≤ 4) (row nv : Nat → Int32) (hR : NR M 12 row) (hW : WR row) (hM : MW row) (hv : ∀ p, p < P → M 11 p = nv p) (p x : Nat) (hp : p < P) (hx : x < X)  : Ci l D B 108 (celC D B) yX6_odds cX6_odds 8 (some .int) 10 [.ref (B + 0), .int (nI p), .int (nI x), .int (nI 0), .int (nI 1)] T M (fun rz T1 M1 => rz = nI (K ^ 0 / Nat.gcd (wyR nv (nI K) K (nI p) (nI x) P 0 row) (K ^ 0)) ∧ T1 = T ∧ Sc M M1) := by
  refine g_entryi (L := [(0, .ref (B + 0)), (1, .int (nI p)), (2, .int (nI x)), (3, .int (nI 0)), (4, .int (nI 1))]) (by decide) (Nat.le_of_ble_eq_true rfl) rfl ?_
  intro zp ze zs zm zb zt zc Q F hQ
  refine g_aload_n F 0 (dk dtX6_odds_0 0 rfl) rfl ?_
  refine g_get F fa_X6_19 (dk dtX6_odds_0 1 rfl) (by decide) (cc0 D B _ _) rfl ?_
  refine g_iload_n F 1 (dk dtX6_odds_0 2 rfl) rfl ?_
  refine g_callVi F (As := [.int (nI p)]) (st := []) cv_X6_94 (dk dtX6_odds_0 3 rfl) (by decide) (cc10 D B _ _) rfl rfl (Nat.le_of_ble_eq_true rfl) ⟨by decide, by decide⟩ (k_X5_hasPersonR l D B _ _ _ P hP) (fun r5 T5 M5 hp5 => ?_)
  obtain ⟨e1, e2, e3⟩ := hp5
  replace e1 := e1.symm; replace e2 := e2.symm; replace e3 := e3.symm; subst e1; subst e2; subst e3
  refine g_if_eqB F 22 (dk dtX6_odds_0 4 rfl) (by decide) (fun c => absurd (inR_nI (by omega)) c) (fun _ => ?_)
  refine g_aload_n F 0 (dk dtX6_odds_0 5 rfl) rfl ?_
  refine g_get F fa_X6_19 (dk dtX6_odds_0 6 rfl) (by decide) (cc0 D B _ _) rfl ?_
  refine g_iload_n F 2 (dk dtX6_odds_0 7 rfl) rfl ?_
  refine g_callVi F (As := [.int (nI x)]) (st := []) cv_X6_132 (dk dtX6_odds_0 8 rfl) (by decide) (cc10 D B _ _) rfl rfl (Nat.le_of_ble_eq_true rfl) ⟨by decide, by decide⟩ (k_X5_hasPlaceR l D B _ _ _ X hX) (fun r16 T16 M16 hp16 => ?_)
  obtain ⟨e1, e2, e3⟩ := hp16
  replace e1 := e1.symm; replace e2 := e2.symm; replace e3 := e3.symm; subst e1; subst e2; subst e3
  refine g_if_neB F 24 (dk dtX6_odds_0 9 rfl) (by decide) (fun _ => ?_) (fun c => absurd (inR_nI (by omega)) c)
  refine g_iload_n F 3 (dk dtX6_odds_0 12 rfl) rfl ?_
  refine g_if_lt F 41 (dk dtX6_odds_0 13 rfl) (by decide) (fun c25 => ?_) (fun c25 => ?_)
  · -- taken at 25
    exact absurd c25 (by decide)
  · -- not taken at 25
    refine g_iload_n F 3 (dk dtX6_odds_0 14 rfl) rfl ?_
    refine g_iconst F (nI 4) (dk dtX6_odds_0 15 rfl) (by decide) ?_
    refine g_icmp_gtN F 41 (dk dtX6_odds_0 16 rfl) (by decide) (by decide) (by decide) (fun c => absurd c (by decide)) (fun _ => ?_)
    refine g_iload F 4 (dk dtX6_odds_0 17 rfl) rfl ?_
    refine g_callSi F (As := [.int (nI 1)]) (st := []) cs_X6_158 (dk dtX6_odds_0 18 rfl) rfl rfl (Nat.le_of_ble_eq_true rfl) ⟨by decide, by decide⟩ (k_X6_isBit l D B _ _ _) (fun r35 T35 M35 hp35 => ?_)
    obtain ⟨e1, e2, e3⟩ := hp35
    replace e1 := e1.symm; replace e2 := e2.symm; replace e3 := e3.symm; subst e1; subst e2; subst e3
    refine g_if_neB F 43 (dk dtX6_odds_0 19 rfl) (by decide) (fun _ => ?_) (fun c => absurd (inR_nI (by omega)) c)
    refine g_aload_n F 0 (dk dtX6_odds_0 22 rfl) rfl ?_
    refine g_get F fa_X6_40 (dk dtX6_odds_0 23 rfl) (by decide) (cc0 D B _ _) rfl ?_
    refine g_aload_n F 0 (dk dtX6_odds_0 24 rfl) rfl ?_
    refine g_get F fa_X6_19 (dk dtX6_odds_0 25 rfl) (by decide) (cc0 D B _ _) rfl ?_
    refine g_aload_n F 0 (dk dtX6_odds_0 26 rfl) rfl ?_
    refine g_get F fa_X6_26 (dk dtX6_odds_0 27 rfl) (by decide) (cc0 D B _ _) rfl ?_
    refine g_iload_n F 1 (dk dtX6_odds_0 28 rfl) rfl ?_
    refine g_iload_n F 2 (dk dtX6_odds_0 29 rfl) rfl ?_
    refine g_iload_n F 3 (dk dtX6_odds_0 30 rfl) rfl ?_
    refine g_callVi F (As := [.ref (B + 10), .ref (B + 12), .int (nI p), .int (nI x), .int (nI 0)]) (st := []) cv_X6_168 (dk dtX6_odds_0 31 rfl) (by decide) (cc69 D B _ _) rfl rfl (Nat.le_of_ble_eq_true rfl) ⟨by decide, by decide⟩ (k_X0_ways_0 l D B _ _ row nv hR hW hM K P hK hP hK1 hK4 hP5 hv p hp (nI x)) (fun r58 T58 M58 hp58 => ?_)
    obtain ⟨hr58, hT58, hS58⟩ := hp58
    replace hT58 := hT58.symm; subst hT58; replace hr58 := hr58.symm; subst hr58
    have hK58 : M58 10 0 = nI K := by rw [hS58 10 (by decide)]; exact hK
    refine g_istore F [(5, .int (nI (wyR nv (nI K) K (nI p) (nI x) P 0 row))), (0, .ref (B + 0)), (1, .int (nI p)), (2, .int (nI x)), (3, .int (nI 0)), (4, .int (nI 1))] (dk dtX6_odds_0 32 rfl) (by decide) rfl ?_
    refine g_iconst F (nI 1) (dk dtX6_odds_0 33 rfl) (by decide) ?_
    refine g_istore F [(6, .int (nI 1)), (5, .int (nI (wyR nv (nI K) K (nI p) (nI x) P 0 row))), (0, .ref (B + 0)), (1, .int (nI p)), (2, .int (nI x)), (3, .int (nI 0)), (4, .int (nI 1))] (dk dtX6_odds_0 34 rfl) (by decide) rfl ?_
    refine g_iconst F (nI 0) (dk dtX6_odds_0 35 rfl) (by decide) ?_
    refine g_istore F [(7, .int (nI 0)), (6, .int (nI 1)), (5, .int (nI (wyR nv (nI K) K (nI p) (nI x) P 0 row))), (0, .ref (B + 0)), (1, .int (nI p)), (2, .int (nI x)), (3, .int (nI 0)), (4, .int (nI 1))] (dk dtX6_odds_0 36 rfl) (by decide) rfl ?_
    have lp69 : ∀ (fz : Nat) (i : Nat), i ≤ 0 → (0 - i) < fz → G zp l ze { frames := 10, cells := 0, slots := 0, locals := 40 * 10 } zs zm [.ref (B + 0), .int (nI p), .int (nI x), .int (nI 0), .int (nI 1)].toArray zb zt zc 8 D B 108 (celC D B) Q T M58 69 [(0, .ref (B + 0)), (1, .int (nI p)), (2, .int (nI x)), (3, .int (nI 0)), (4, .int (nI 1)), (5, .int (nI (wyR nv (nI K) K (nI p) (nI x) P 0 row))), (6, .int (nI (K ^ i))), (7, .int (nI i))] [] := by
      intro n69
      induction n69 with
      | zero => intro i hI hn; exact absurd hn (Nat.not_lt_zero _)
      | succ n69 ih69 =>
        intro i hI69 hn69
        refine g_iload F 7 (dk dtX6_odds_0 37 rfl) rfl ?_
        refine g_iload_n F 3 (dk dtX6_odds_0 38 rfl) rfl ?_
        refine g_icmp_geN F 93 (dk dtX6_odds_0 39 rfl) (by decide) (by omega) (by omega) (fun c72 => ?_) (fun c72 => ?_)
        · -- taken at 72
          obtain rfl : 0 = i := by omega
          have hwl := wy_le nv (nI K) K (nI p) (nI x) P 0 row
          have hkn := kn_le (K := K) (n := 0) hK4 (by decide)
          have hkp : 0 < K ^ 0 := Nat.pow_pos hK1
          have hgp := Nat.gcd_pos_of_pos_right (wyR nv (nI K) K (nI p) (nI x) P 0 row) hkp
          have hgl := Nat.le_of_dvd hkp (Nat.gcd_dvd_right (wyR nv (nI K) K (nI p) (nI x) P 0 row) (K ^ 0))
          refine g_iconst F (nI 1) (dk dtX6_odds_0 48 rfl) (by decide) ?_
          refine g_iload F 5 (dk dtX6_odds_0 49 rfl) rfl ?_
          refine g_iload F 6 (dk dtX6_odds_0 50 rfl) rfl ?_
          refine g_callSi F (As := [.int (nI (wyR nv (nI K) K (nI p) (nI x) P 0 row)), .int (nI (K ^ 0))]) (st := [.int (nI 1)]) cs_X6_175 (dk dtX6_odds_0 51 rfl) rfl rfl (Nat.le_of_ble_eq_true rfl) ⟨by decide, by decide⟩ (k_X6_commonDivisor l D B _ _ (wyR nv (nI K) K (nI p) (nI x) P 0 row) (K ^ 0) (by omega) (by omega)) (fun r98 T98 M98 hp98 => ?_)
          obtain ⟨e1, e2, e3⟩ := hp98
          replace e1 := e1.symm; replace e2 := e2.symm; replace e3 := e3.symm; subst e1; subst e2; subst e3
          refine g_mmax F (tw2 232 rfl) (dk dtX6_odds_0 52 rfl) (Nat.le_of_ble_eq_true rfl) (Nat.le_of_ble_eq_true rfl) ?_
          refine g_top (mx_1 hgp (by omega)) ?_
          refine g_istore F [(7, .int (nI (Nat.gcd (wyR nv (nI K) K (nI p) (nI x) P 0 row) (K ^ 0)))), (0, .ref (B + 0)), (1, .int (nI p)), (2, .int (nI x)), (3, .int (nI 0)), (4, .int (nI 1)), (5, .int (nI (wyR nv (nI K) K (nI p) (nI x) P 0 row))), (6, .int (nI (K ^ 0)))] (dk dtX6_odds_0 53 rfl) (by decide) rfl ?_
          refine g_iload F 5 (dk dtX6_odds_0 54 rfl) rfl ?_
          refine g_if_neN F 116 (dk dtX6_odds_0 55 rfl) (by decide) (by decide) (fun _ => ?_) (fun c => absurd c (by decide))
          refine g_iload F 7 (dk dtX6_odds_0 58 rfl) rfl ?_
          refine g_iload F 0 (dk dtX6_odds_0 59 rfl) rfl ?_
          refine g_idivN F (dk dtX6_odds_1 0 rfl) (by omega) (by omega) (by omega) ?_
          refine g_iret (F := F) hQ (dk dtX6_odds_1 1 rfl) ?_
          exact ⟨rfl, rfl, hS58⟩
        · -- not taken at 72
          refine g_iload F 6 (dk dtX6_odds_0 40 rfl) rfl ?_
          refine g_aload_n F 0 (dk dtX6_odds_0 41 rfl) rfl ?_
          refine g_get F fa_X6_19 (dk dtX6_odds_0 42 rfl) (by decide) (cc0 D B _ _) rfl ?_
          refine g_get F fa_X6_172 (dk dtX6_odds_0 43 rfl) (by decide) (cc10 D B _ _) rfl ?_
          refine g_top hK58 ?_
          refine g_imulN F (dk dtX6_odds_0 44 rfl) ?_
          refine g_istore F [(6, .int (nI ((K ^ i) * K))), (0, .ref (B + 0)), (1, .int (nI p)), (2, .int (nI x)), (3, .int (nI 0)), (4, .int (nI 1)), (5, .int (nI (wyR nv (nI K) K (nI p) (nI x) P 0 row))), (7, .int (nI i))] (dk dtX6_odds_0 45 rfl) (by decide) rfl ?_
          refine g_iinc F 7 (nI (i + 1)) [(7, .int (nI (i + 1))), (6, .int (nI ((K ^ i) * K))), (0, .ref (B + 0)), (1, .int (nI p)), (2, .int (nI x)), (3, .int (nI 0)), (4, .int (nI 1)), (5, .int (nI (wyR nv (nI K) K (nI p) (nI x) P 0 row)))] (dk dtX6_odds_0 46 rfl) rfl (nI_1 _) (by decide) rfl ?_
          refine g_goto F 69 (dk dtX6_odds_0 47 rfl) (by decide) ?_
          refine g_sub [2, 3, 4, 5, 6, 7, 1, 0] (L1 := [(0, .ref (B + 0)), (1, .int (nI p)), (2, .int (nI x)), (3, .int (nI 0)), (4, .int (nI 1)), (5, .int (nI (wyR nv (nI K) K (nI p) (nI x) P 0 row))), (6, .int (nI ((K ^ i) * K))), (7, .int (nI (i + 1)))]) rfl ?_
          have eq69_6 : (nI ((K ^ i) * K) : Int32) = nI (K ^ (i + 1)) := by
            rfl
          refine g_st (M1 := M58) (L1 := [(0, .ref (B + 0)), (1, .int (nI p)), (2, .int (nI x)), (3, .int (nI 0)), (4, .int (nI 1)), (5, .int (nI (wyR nv (nI K) K (nI p) (nI x) P 0 row))), (6, .int (nI (K ^ (i + 1)))), (7, .int (nI (i + 1)))]) rfl (lc rfl (lc rfl (lc rfl (lc rfl (lc rfl (lc rfl (lc (vi eq69_6) (lc rfl rfl)))))))) rfl ?_
          exact ih69 (i + 1) (by omega) (by omega)
    refine g_sub [3, 4, 5, 6, 7, 2, 1, 0] (L1 := [(0, .ref (B + 0)), (1, .int (nI p)), (2, .int (nI x)), (3, .int (nI 0)), (4, .int (nI 1)), (5, .int (nI (wyR nv (nI K) K (nI p) (nI x) P 0 row))), (6, .int (nI 1)), (7, .int (nI 0))]) rfl ?_
    exact lp69 1 0 (by omega) (by omega)
set_option maxRecDepth 100000 in
set_option maxHeartbeats 4000000 in
theorem k_X6_odds_1_0 (l : Launch) (D : DX) (B : Nat) (T : Int64) (M : Mem) (P : Nat) (hP : M 10 2 = nI P) (hP5 : P ≤ 5) (K : Nat) (hK : M 10 0 = nI K) (hK1 : 1 ≤ K) (hK4 : K ≤ 4) (X : Nat) (hX : M 10 1 = nI X) (hX1 : 1 ≤ X) (hX4 : X ≤ 4) (row nv : Nat → Int32) (hR : NR M 12 row) (hW : WR row) (hM : MW row) (hv : ∀ p, p < P → M 11 p = nv p) (p x : Nat) (hp : p < P) (hx : x < X)  : Ci l D B 108 (celC D B) yX6_odds cX6_odds 8 (some .int) 10 [.ref (B + 0), .int (nI p), .int (nI x), .int (nI 1), .int (nI 0)] T M (fun rz T1 M1 => rz = nI (wyR nv (nI K) K (nI p) (nI x) P 1 row / Nat.gcd (wyR nv (nI K) K (nI p) (nI x) P 1 row) (K ^ 1)) ∧ T1 = T ∧ Sc M M1) := by
  refine g_entryi (L := [(0, .ref (B + 0)), (1, .int (nI p)), (2, .int (nI x)), (3, .int (nI 1)), (4, .int (nI 0))]) (by decide) (Nat.le_of_ble_eq_true rfl) rfl ?_
  intro zp ze zs zm zb zt zc Q F hQ
  refine g_aload_n F 0 (dk dtX6_odds_0 0 rfl) rfl ?_
  refine g_get F fa_X6_19 (dk dtX6_odds_0 1 rfl) (by decide) (cc0 D B _ _) rfl ?_
  refine g_iload_n F 1 (dk dtX6_odds_0 2 rfl) rfl ?_
  refine g_callVi F (As := [.int (nI p)]) (st := []) cv_X6_94 (dk dtX6_odds_0 3 rfl) (by decide) (cc10 D B _ _) rfl rfl (Nat.le_of_ble_eq_true rfl) ⟨by decide, by decide⟩ (k_X5_hasPersonR l D B _ _ _ P hP) (fun r5 T5 M5 hp5 => ?_)
  obtain ⟨e1, e2, e3⟩ := hp5
  replace e1 := e1.symm; replace e2 := e2.symm; replace e3 := e3.symm; subst e1; subst e2; subst e3
  refine g_if_eqB F 22 (dk dtX6_odds_0 4 rfl) (by decide) (fun c => absurd (inR_nI (by omega)) c) (fun _ => ?_)
  refine g_aload_n F 0 (dk dtX6_odds_0 5 rfl) rfl ?_
  refine g_get F fa_X6_19 (dk dtX6_odds_0 6 rfl) (by decide) (cc0 D B _ _) rfl ?_
  refine g_iload_n F 2 (dk dtX6_odds_0 7 rfl) rfl ?_
  refine g_callVi F (As := [.int (nI x)]) (st := []) cv_X6_132 (dk dtX6_odds_0 8 rfl) (by decide) (cc10 D B _ _) rfl rfl (Nat.le_of_ble_eq_true rfl) ⟨by decide, by decide⟩ (k_X5_hasPlaceR l D B _ _ _ X hX) (fun r16 T16 M16 hp16 => ?_)
  obtain ⟨e1, e2, e3⟩ := hp16
  replace e1 := e1.symm; replace e2 := e2.symm; replace e3 := e3.symm; subst e1; subst e2; subst e3
  refine g_if_neB F 24 (dk dtX6_odds_0 9 rfl) (by decide) (fun _ => ?_) (fun c => absurd (inR_nI (by omega)) c)
  refine g_iload_n F 3 (dk dtX6_odds_0 12 rfl) rfl ?_
  refine g_if_lt F 41 (dk dtX6_odds_0 13 rfl) (by decide) (fun c25 => ?_) (fun c25 => ?_)
  · -- taken at 25
    exact absurd c25 (by decide)
  · -- not taken at 25
    refine g_iload_n F 3 (dk dtX6_odds_0 14 rfl) rfl ?_
    refine g_iconst F (nI 4) (dk dtX6_odds_0 15 rfl) (by decide) ?_
    refine g_icmp_gtN F 41 (dk dtX6_odds_0 16 rfl) (by decide) (by decide) (by decide) (fun c => absurd c (by decide)) (fun _ => ?_)
    refine g_iload F 4 (dk dtX6_odds_0 17 rfl) rfl ?_
    refine g_callSi F (As := [.int (nI 0)]) (st := []) cs_X6_158 (dk dtX6_odds_0 18 rfl) rfl rfl (Nat.le_of_ble_eq_true rfl) ⟨by decide, by decide⟩ (k_X6_isBit l D B _ _ _) (fun r35 T35 M35 hp35 => ?_)
    obtain ⟨e1, e2, e3⟩ := hp35
    replace e1 := e1.symm; replace e2 := e2.symm; replace e3 := e3.symm; subst e1; subst e2; subst e3
    refine g_if_neB F 43 (dk dtX6_odds_0 19 rfl) (by decide) (fun _ => ?_) (fun c => absurd (inR_nI (by omega)) c)
    refine g_aload_n F 0 (dk dtX6_odds_0 22 rfl) rfl ?_
    refine g_get F fa_X6_40 (dk dtX6_odds_0 23 rfl) (by decide) (cc0 D B _ _) rfl ?_
    refine g_aload_n F 0 (dk dtX6_odds_0 24 rfl) rfl ?_
    refine g_get F fa_X6_19 (dk dtX6_odds_0 25 rfl) (by decide) (cc0 D B _ _) rfl ?_
    refine g_aload_n F 0 (dk dtX6_odds_0 26 rfl) rfl ?_
    refine g_get F fa_X6_26 (dk dtX6_odds_0 27 rfl) (by decide) (cc0 D B _ _) rfl ?_
    refine g_iload_n F 1 (dk dtX6_odds_0 28 rfl) rfl ?_
    refine g_iload_n F 2 (dk dtX6_odds_0 29 rfl) rfl ?_
    refine g_iload_n F 3 (dk dtX6_odds_0 30 rfl) rfl ?_
    refine g_callVi F (As := [.ref (B + 10), .ref (B + 12), .int (nI p), .int (nI x), .int (nI 1)]) (st := []) cv_X6_168 (dk dtX6_odds_0 31 rfl) (by decide) (cc69 D B _ _) rfl rfl (Nat.le_of_ble_eq_true rfl) ⟨by decide, by decide⟩ (k_X0_ways_1 l D B _ _ row nv hR hW hM K P hK hP hK1 hK4 hP5 hv p hp (nI x)) (fun r58 T58 M58 hp58 => ?_)
    obtain ⟨hr58, hT58, hS58⟩ := hp58
    replace hT58 := hT58.symm; subst hT58; replace hr58 := hr58.symm; subst hr58
    have hK58 : M58 10 0 = nI K := by rw [hS58 10 (by decide)]; exact hK
    refine g_istore F [(5, .int (nI (wyR nv (nI K) K (nI p) (nI x) P 1 row))), (0, .ref (B + 0)), (1, .int (nI p)), (2, .int (nI x)), (3, .int (nI 1)), (4, .int (nI 0))] (dk dtX6_odds_0 32 rfl) (by decide) rfl ?_
    refine g_iconst F (nI 1) (dk dtX6_odds_0 33 rfl) (by decide) ?_
    refine g_istore F [(6, .int (nI 1)), (5, .int (nI (wyR nv (nI K) K (nI p) (nI x) P 1 row))), (0, .ref (B + 0)), (1, .int (nI p)), (2, .int (nI x)), (3, .int (nI 1)), (4, .int (nI 0))] (dk dtX6_odds_0 34 rfl) (by decide) rfl ?_
    refine g_iconst F (nI 0) (dk dtX6_odds_0 35 rfl) (by decide) ?_
    refine g_istore F [(7, .int (nI 0)), (6, .int (nI 1)), (5, .int (nI (wyR nv (nI K) K (nI p) (nI x) P 1 row))), (0, .ref (B + 0)), (1, .int (nI p)), (2, .int (nI x)), (3, .int (nI 1)), (4, .int (nI 0))] (dk dtX6_odds_0 36 rfl) (by decide) rfl ?_
    have lp69 : ∀ (fz : Nat) (i : Nat), i ≤ 1 → (1 - i) < fz → G zp l ze { frames := 10, cells := 0, slots := 0, locals := 40 * 10 } zs zm [.ref (B + 0), .int (nI p), .int (nI x), .int (nI 1), .int (nI 0)].toArray zb zt zc 8 D B 108 (celC D B) Q T M58 69 [(0, .ref (B + 0)), (1, .int (nI p)), (2, .int (nI x)), (3, .int (nI 1)), (4, .int (nI 0)), (5, .int (nI (wyR nv (nI K) K (nI p) (nI x) P 1 row))), (6, .int (nI (K ^ i))), (7, .int (nI i))] [] := by
      intro n69
      induction n69 with
      | zero => intro i hI hn; exact absurd hn (Nat.not_lt_zero _)
      | succ n69 ih69 =>
        intro i hI69 hn69
        refine g_iload F 7 (dk dtX6_odds_0 37 rfl) rfl ?_
        refine g_iload_n F 3 (dk dtX6_odds_0 38 rfl) rfl ?_
        refine g_icmp_geN F 93 (dk dtX6_odds_0 39 rfl) (by decide) (by omega) (by omega) (fun c72 => ?_) (fun c72 => ?_)
        · -- taken at 72
          obtain rfl : 1 = i := by omega
          have hwl := wy_le nv (nI K) K (nI p) (nI x) P 1 row
          have hkn := kn_le (K := K) (n := 1) hK4 (by decide)
          have hkp : 0 < K ^ 1 := Nat.pow_pos hK1
          have hgp := Nat.gcd_pos_of_pos_right (wyR nv (nI K) K (nI p) (nI x) P 1 row) hkp
          have hgl := Nat.le_of_dvd hkp (Nat.gcd_dvd_right (wyR nv (nI K) K (nI p) (nI x) P 1 row) (K ^ 1))
          refine g_iconst F (nI 1) (dk dtX6_odds_0 48 rfl) (by decide) ?_
          refine g_iload F 5 (dk dtX6_odds_0 49 rfl) rfl ?_
          refine g_iload F 6 (dk dtX6_odds_0 50 rfl) rfl ?_
          refine g_callSi F (As := [.int (nI (wyR nv (nI K) K (nI p) (nI x) P 1 row)), .int (nI (K ^ 1))]) (st := [.int (nI 1)]) cs_X6_175 (dk dtX6_odds_0 51 rfl) rfl rfl (Nat.le_of_ble_eq_true rfl) ⟨by decide, by decide⟩ (k_X6_commonDivisor l D B _ _ (wyR nv (nI K) K (nI p) (nI x) P 1 row) (K ^ 1) (by omega) (by omega)) (fun r98 T98 M98 hp98 => ?_)
          obtain ⟨e1, e2, e3⟩ := hp98
          replace e1 := e1.symm; replace e2 := e2.symm; replace e3 := e3.symm; subst e1; subst e2; subst e3
          refine g_mmax F (tw2 232 rfl) (dk dtX6_odds_0 52 rfl) (Nat.le_of_ble_eq_true rfl) (Nat.le_of_ble_eq_true rfl) ?_
          refine g_top (mx_1 hgp (by omega)) ?_
          refine g_istore F [(7, .int (nI (Nat.gcd (wyR nv (nI K) K (nI p) (nI x) P 1 row) (K ^ 1)))), (0, .ref (B + 0)), (1, .int (nI p)), (2, .int (nI x)), (3, .int (nI 1)), (4, .int (nI 0)), (5, .int (nI (wyR nv (nI K) K (nI p) (nI x) P 1 row))), (6, .int (nI (K ^ 1)))] (dk dtX6_odds_0 53 rfl) (by decide) rfl ?_
          refine g_iload F 5 (dk dtX6_odds_0 54 rfl) rfl ?_
          refine g_if_neN F 116 (dk dtX6_odds_0 55 rfl) (by decide) (by decide) (fun c => absurd c (by decide)) (fun _ => ?_)
          refine g_iload F 6 (dk dtX6_odds_0 56 rfl) rfl ?_
          refine g_goto F 118 (dk dtX6_odds_0 57 rfl) (by decide) ?_
          refine g_iload F 0 (dk dtX6_odds_0 59 rfl) rfl ?_
          refine g_idivN F (dk dtX6_odds_1 0 rfl) (by omega) (by omega) (by omega) ?_
          refine g_iret (F := F) hQ (dk dtX6_odds_1 1 rfl) ?_
          exact ⟨rfl, rfl, hS58⟩
        · -- not taken at 72
          refine g_iload F 6 (dk dtX6_odds_0 40 rfl) rfl ?_
          refine g_aload_n F 0 (dk dtX6_odds_0 41 rfl) rfl ?_
          refine g_get F fa_X6_19 (dk dtX6_odds_0 42 rfl) (by decide) (cc0 D B _ _) rfl ?_
          refine g_get F fa_X6_172 (dk dtX6_odds_0 43 rfl) (by decide) (cc10 D B _ _) rfl ?_
          refine g_top hK58 ?_
          refine g_imulN F (dk dtX6_odds_0 44 rfl) ?_
          refine g_istore F [(6, .int (nI ((K ^ i) * K))), (0, .ref (B + 0)), (1, .int (nI p)), (2, .int (nI x)), (3, .int (nI 1)), (4, .int (nI 0)), (5, .int (nI (wyR nv (nI K) K (nI p) (nI x) P 1 row))), (7, .int (nI i))] (dk dtX6_odds_0 45 rfl) (by decide) rfl ?_
          refine g_iinc F 7 (nI (i + 1)) [(7, .int (nI (i + 1))), (6, .int (nI ((K ^ i) * K))), (0, .ref (B + 0)), (1, .int (nI p)), (2, .int (nI x)), (3, .int (nI 1)), (4, .int (nI 0)), (5, .int (nI (wyR nv (nI K) K (nI p) (nI x) P 1 row)))] (dk dtX6_odds_0 46 rfl) rfl (nI_1 _) (by decide) rfl ?_
          refine g_goto F 69 (dk dtX6_odds_0 47 rfl) (by decide) ?_
          refine g_sub [2, 3, 4, 5, 6, 7, 1, 0] (L1 := [(0, .ref (B + 0)), (1, .int (nI p)), (2, .int (nI x)), (3, .int (nI 1)), (4, .int (nI 0)), (5, .int (nI (wyR nv (nI K) K (nI p) (nI x) P 1 row))), (6, .int (nI ((K ^ i) * K))), (7, .int (nI (i + 1)))]) rfl ?_
          have eq69_6 : (nI ((K ^ i) * K) : Int32) = nI (K ^ (i + 1)) := by
            rfl
          refine g_st (M1 := M58) (L1 := [(0, .ref (B + 0)), (1, .int (nI p)), (2, .int (nI x)), (3, .int (nI 1)), (4, .int (nI 0)), (5, .int (nI (wyR nv (nI K) K (nI p) (nI x) P 1 row))), (6, .int (nI (K ^ (i + 1)))), (7, .int (nI (i + 1)))]) rfl (lc rfl (lc rfl (lc rfl (lc rfl (lc rfl (lc rfl (lc (vi eq69_6) (lc rfl rfl)))))))) rfl ?_
          exact ih69 (i + 1) (by omega) (by omega)
    refine g_sub [3, 4, 5, 6, 7, 2, 1, 0] (L1 := [(0, .ref (B + 0)), (1, .int (nI p)), (2, .int (nI x)), (3, .int (nI 1)), (4, .int (nI 0)), (5, .int (nI (wyR nv (nI K) K (nI p) (nI x) P 1 row))), (6, .int (nI 1)), (7, .int (nI 0))]) rfl ?_
    exact lp69 2 0 (by omega) (by omega)
set_option maxRecDepth 100000 in
set_option maxHeartbeats 4000000 in
theorem k_X6_odds_1_1 (l : Launch) (D : DX) (B : Nat) (T : Int64) (M : Mem) (P : Nat) (hP : M 10 2 = nI P) (hP5 : P ≤ 5) (K : Nat) (hK : M 10 0 = nI K) (hK1 : 1 ≤ K) (hK4 : K ≤ 4) (X : Nat) (hX : M 10 1 = nI X) (hX1 : 1 ≤ X) (hX4 : X ≤ 4) (row nv : Nat → Int32) (hR : NR M 12 row) (hW : WR row) (hM : MW row) (hv : ∀ p, p < P → M 11 p = nv p) (p x : Nat) (hp : p < P) (hx : x < X)  : Ci l D B 108 (celC D B) yX6_odds cX6_odds 8 (some .int) 10 [.ref (B + 0), .int (nI p), .int (nI x), .int (nI 1), .int (nI 1)] T M (fun rz T1 M1 => rz = nI (K ^ 1 / Nat.gcd (wyR nv (nI K) K (nI p) (nI x) P 1 row) (K ^ 1)) ∧ T1 = T ∧ Sc M M1) := by
  refine g_entryi (L := [(0, .ref (B + 0)), (1, .int (nI p)), (2, .int (nI x)), (3, .int (nI 1)), (4, .int (nI 1))]) (by decide) (Nat.le_of_ble_eq_true rfl) rfl ?_
  intro zp ze zs zm zb zt zc Q F hQ
  refine g_aload_n F 0 (dk dtX6_odds_0 0 rfl) rfl ?_
  refine g_get F fa_X6_19 (dk dtX6_odds_0 1 rfl) (by decide) (cc0 D B _ _) rfl ?_
  refine g_iload_n F 1 (dk dtX6_odds_0 2 rfl) rfl ?_
  refine g_callVi F (As := [.int (nI p)]) (st := []) cv_X6_94 (dk dtX6_odds_0 3 rfl) (by decide) (cc10 D B _ _) rfl rfl (Nat.le_of_ble_eq_true rfl) ⟨by decide, by decide⟩ (k_X5_hasPersonR l D B _ _ _ P hP) (fun r5 T5 M5 hp5 => ?_)
  obtain ⟨e1, e2, e3⟩ := hp5
  replace e1 := e1.symm; replace e2 := e2.symm; replace e3 := e3.symm; subst e1; subst e2; subst e3
  refine g_if_eqB F 22 (dk dtX6_odds_0 4 rfl) (by decide) (fun c => absurd (inR_nI (by omega)) c) (fun _ => ?_)
  refine g_aload_n F 0 (dk dtX6_odds_0 5 rfl) rfl ?_
  refine g_get F fa_X6_19 (dk dtX6_odds_0 6 rfl) (by decide) (cc0 D B _ _) rfl ?_
  refine g_iload_n F 2 (dk dtX6_odds_0 7 rfl) rfl ?_
  refine g_callVi F (As := [.int (nI x)]) (st := []) cv_X6_132 (dk dtX6_odds_0 8 rfl) (by decide) (cc10 D B _ _) rfl rfl (Nat.le_of_ble_eq_true rfl) ⟨by decide, by decide⟩ (k_X5_hasPlaceR l D B _ _ _ X hX) (fun r16 T16 M16 hp16 => ?_)
  obtain ⟨e1, e2, e3⟩ := hp16
  replace e1 := e1.symm; replace e2 := e2.symm; replace e3 := e3.symm; subst e1; subst e2; subst e3
  refine g_if_neB F 24 (dk dtX6_odds_0 9 rfl) (by decide) (fun _ => ?_) (fun c => absurd (inR_nI (by omega)) c)
  refine g_iload_n F 3 (dk dtX6_odds_0 12 rfl) rfl ?_
  refine g_if_lt F 41 (dk dtX6_odds_0 13 rfl) (by decide) (fun c25 => ?_) (fun c25 => ?_)
  · -- taken at 25
    exact absurd c25 (by decide)
  · -- not taken at 25
    refine g_iload_n F 3 (dk dtX6_odds_0 14 rfl) rfl ?_
    refine g_iconst F (nI 4) (dk dtX6_odds_0 15 rfl) (by decide) ?_
    refine g_icmp_gtN F 41 (dk dtX6_odds_0 16 rfl) (by decide) (by decide) (by decide) (fun c => absurd c (by decide)) (fun _ => ?_)
    refine g_iload F 4 (dk dtX6_odds_0 17 rfl) rfl ?_
    refine g_callSi F (As := [.int (nI 1)]) (st := []) cs_X6_158 (dk dtX6_odds_0 18 rfl) rfl rfl (Nat.le_of_ble_eq_true rfl) ⟨by decide, by decide⟩ (k_X6_isBit l D B _ _ _) (fun r35 T35 M35 hp35 => ?_)
    obtain ⟨e1, e2, e3⟩ := hp35
    replace e1 := e1.symm; replace e2 := e2.symm; replace e3 := e3.symm; subst e1; subst e2; subst e3
    refine g_if_neB F 43 (dk dtX6_odds_0 19 rfl) (by decide) (fun _ => ?_) (fun c => absurd (inR_nI (by omega)) c)
    refine g_aload_n F 0 (dk dtX6_odds_0 22 rfl) rfl ?_
    refine g_get F fa_X6_40 (dk dtX6_odds_0 23 rfl) (by decide) (cc0 D B _ _) rfl ?_
    refine g_aload_n F 0 (dk dtX6_odds_0 24 rfl) rfl ?_
    refine g_get F fa_X6_19 (dk dtX6_odds_0 25 rfl) (by decide) (cc0 D B _ _) rfl ?_
    refine g_aload_n F 0 (dk dtX6_odds_0 26 rfl) rfl ?_
    refine g_get F fa_X6_26 (dk dtX6_odds_0 27 rfl) (by decide) (cc0 D B _ _) rfl ?_
    refine g_iload_n F 1 (dk dtX6_odds_0 28 rfl) rfl ?_
    refine g_iload_n F 2 (dk dtX6_odds_0 29 rfl) rfl ?_
    refine g_iload_n F 3 (dk dtX6_odds_0 30 rfl) rfl ?_
    refine g_callVi F (As := [.ref (B + 10), .ref (B + 12), .int (nI p), .int (nI x), .int (nI 1)]) (st := []) cv_X6_168 (dk dtX6_odds_0 31 rfl) (by decide) (cc69 D B _ _) rfl rfl (Nat.le_of_ble_eq_true rfl) ⟨by decide, by decide⟩ (k_X0_ways_1 l D B _ _ row nv hR hW hM K P hK hP hK1 hK4 hP5 hv p hp (nI x)) (fun r58 T58 M58 hp58 => ?_)
    obtain ⟨hr58, hT58, hS58⟩ := hp58
    replace hT58 := hT58.symm; subst hT58; replace hr58 := hr58.symm; subst hr58
    have hK58 : M58 10 0 = nI K := by rw [hS58 10 (by decide)]; exact hK
    refine g_istore F [(5, .int (nI (wyR nv (nI K) K (nI p) (nI x) P 1 row))), (0, .ref (B + 0)), (1, .int (nI p)), (2, .int (nI x)), (3, .int (nI 1)), (4, .int (nI 1))] (dk dtX6_odds_0 32 rfl) (by decide) rfl ?_
    refine g_iconst F (nI 1) (dk dtX6_odds_0 33 rfl) (by decide) ?_
    refine g_istore F [(6, .int (nI 1)), (5, .int (nI (wyR nv (nI K) K (nI p) (nI x) P 1 row))), (0, .ref (B + 0)), (1, .int (nI p)), (2, .int (nI x)), (3, .int (nI 1)), (4, .int (nI 1))] (dk dtX6_odds_0 34 rfl) (by decide) rfl ?_
    refine g_iconst F (nI 0) (dk dtX6_odds_0 35 rfl) (by decide) ?_
    refine g_istore F [(7, .int (nI 0)), (6, .int (nI 1)), (5, .int (nI (wyR nv (nI K) K (nI p) (nI x) P 1 row))), (0, .ref (B + 0)), (1, .int (nI p)), (2, .int (nI x)), (3, .int (nI 1)), (4, .int (nI 1))] (dk dtX6_odds_0 36 rfl) (by decide) rfl ?_
    have lp69 : ∀ (fz : Nat) (i : Nat), i ≤ 1 → (1 - i) < fz → G zp l ze { frames := 10, cells := 0, slots := 0, locals := 40 * 10 } zs zm [.ref (B + 0), .int (nI p), .int (nI x), .int (nI 1), .int (nI 1)].toArray zb zt zc 8 D B 108 (celC D B) Q T M58 69 [(0, .ref (B + 0)), (1, .int (nI p)), (2, .int (nI x)), (3, .int (nI 1)), (4, .int (nI 1)), (5, .int (nI (wyR nv (nI K) K (nI p) (nI x) P 1 row))), (6, .int (nI (K ^ i))), (7, .int (nI i))] [] := by
      intro n69
      induction n69 with
      | zero => intro i hI hn; exact absurd hn (Nat.not_lt_zero _)
      | succ n69 ih69 =>
        intro i hI69 hn69
        refine g_iload F 7 (dk dtX6_odds_0 37 rfl) rfl ?_
        refine g_iload_n F 3 (dk dtX6_odds_0 38 rfl) rfl ?_
        refine g_icmp_geN F 93 (dk dtX6_odds_0 39 rfl) (by decide) (by omega) (by omega) (fun c72 => ?_) (fun c72 => ?_)
        · -- taken at 72
          obtain rfl : 1 = i := by omega
          have hwl := wy_le nv (nI K) K (nI p) (nI x) P 1 row
          have hkn := kn_le (K := K) (n := 1) hK4 (by decide)
          have hkp : 0 < K ^ 1 := Nat.pow_pos hK1
          have hgp := Nat.gcd_pos_of_pos_right (wyR nv (nI K) K (nI p) (nI x) P 1 row) hkp
          have hgl := Nat.le_of_dvd hkp (Nat.gcd_dvd_right (wyR nv (nI K) K (nI p) (nI x) P 1 row) (K ^ 1))
          refine g_iconst F (nI 1) (dk dtX6_odds_0 48 rfl) (by decide) ?_
          refine g_iload F 5 (dk dtX6_odds_0 49 rfl) rfl ?_
          refine g_iload F 6 (dk dtX6_odds_0 50 rfl) rfl ?_
          refine g_callSi F (As := [.int (nI (wyR nv (nI K) K (nI p) (nI x) P 1 row)), .int (nI (K ^ 1))]) (st := [.int (nI 1)]) cs_X6_175 (dk dtX6_odds_0 51 rfl) rfl rfl (Nat.le_of_ble_eq_true rfl) ⟨by decide, by decide⟩ (k_X6_commonDivisor l D B _ _ (wyR nv (nI K) K (nI p) (nI x) P 1 row) (K ^ 1) (by omega) (by omega)) (fun r98 T98 M98 hp98 => ?_)
          obtain ⟨e1, e2, e3⟩ := hp98
          replace e1 := e1.symm; replace e2 := e2.symm; replace e3 := e3.symm; subst e1; subst e2; subst e3
          refine g_mmax F (tw2 232 rfl) (dk dtX6_odds_0 52 rfl) (Nat.le_of_ble_eq_true rfl) (Nat.le_of_ble_eq_true rfl) ?_
          refine g_top (mx_1 hgp (by omega)) ?_
          refine g_istore F [(7, .int (nI (Nat.gcd (wyR nv (nI K) K (nI p) (nI x) P 1 row) (K ^ 1)))), (0, .ref (B + 0)), (1, .int (nI p)), (2, .int (nI x)), (3, .int (nI 1)), (4, .int (nI 1)), (5, .int (nI (wyR nv (nI K) K (nI p) (nI x) P 1 row))), (6, .int (nI (K ^ 1)))] (dk dtX6_odds_0 53 rfl) (by decide) rfl ?_
          refine g_iload F 5 (dk dtX6_odds_0 54 rfl) rfl ?_
          refine g_if_neN F 116 (dk dtX6_odds_0 55 rfl) (by decide) (by decide) (fun _ => ?_) (fun c => absurd c (by decide))
          refine g_iload F 7 (dk dtX6_odds_0 58 rfl) rfl ?_
          refine g_iload F 0 (dk dtX6_odds_0 59 rfl) rfl ?_
          refine g_idivN F (dk dtX6_odds_1 0 rfl) (by omega) (by omega) (by omega) ?_
          refine g_iret (F := F) hQ (dk dtX6_odds_1 1 rfl) ?_
          exact ⟨rfl, rfl, hS58⟩
        · -- not taken at 72
          refine g_iload F 6 (dk dtX6_odds_0 40 rfl) rfl ?_
          refine g_aload_n F 0 (dk dtX6_odds_0 41 rfl) rfl ?_
          refine g_get F fa_X6_19 (dk dtX6_odds_0 42 rfl) (by decide) (cc0 D B _ _) rfl ?_
          refine g_get F fa_X6_172 (dk dtX6_odds_0 43 rfl) (by decide) (cc10 D B _ _) rfl ?_
          refine g_top hK58 ?_
          refine g_imulN F (dk dtX6_odds_0 44 rfl) ?_
          refine g_istore F [(6, .int (nI ((K ^ i) * K))), (0, .ref (B + 0)), (1, .int (nI p)), (2, .int (nI x)), (3, .int (nI 1)), (4, .int (nI 1)), (5, .int (nI (wyR nv (nI K) K (nI p) (nI x) P 1 row))), (7, .int (nI i))] (dk dtX6_odds_0 45 rfl) (by decide) rfl ?_
          refine g_iinc F 7 (nI (i + 1)) [(7, .int (nI (i + 1))), (6, .int (nI ((K ^ i) * K))), (0, .ref (B + 0)), (1, .int (nI p)), (2, .int (nI x)), (3, .int (nI 1)), (4, .int (nI 1)), (5, .int (nI (wyR nv (nI K) K (nI p) (nI x) P 1 row)))] (dk dtX6_odds_0 46 rfl) rfl (nI_1 _) (by decide) rfl ?_
          refine g_goto F 69 (dk dtX6_odds_0 47 rfl) (by decide) ?_
          refine g_sub [2, 3, 4, 5, 6, 7, 1, 0] (L1 := [(0, .ref (B + 0)), (1, .int (nI p)), (2, .int (nI x)), (3, .int (nI 1)), (4, .int (nI 1)), (5, .int (nI (wyR nv (nI K) K (nI p) (nI x) P 1 row))), (6, .int (nI ((K ^ i) * K))), (7, .int (nI (i + 1)))]) rfl ?_
          have eq69_6 : (nI ((K ^ i) * K) : Int32) = nI (K ^ (i + 1)) := by
            rfl
          refine g_st (M1 := M58) (L1 := [(0, .ref (B + 0)), (1, .int (nI p)), (2, .int (nI x)), (3, .int (nI 1)), (4, .int (nI 1)), (5, .int (nI (wyR nv (nI K) K (nI p) (nI x) P 1 row))), (6, .int (nI (K ^ (i + 1)))), (7, .int (nI (i + 1)))]) rfl (lc rfl (lc rfl (lc rfl (lc rfl (lc rfl (lc rfl (lc (vi eq69_6) (lc rfl rfl)))))))) rfl ?_
          exact ih69 (i + 1) (by omega) (by omega)
    refine g_sub [3, 4, 5, 6, 7, 2, 1, 0] (L1 := [(0, .ref (B + 0)), (1, .int (nI p)), (2, .int (nI x)), (3, .int (nI 1)), (4, .int (nI 1)), (5, .int (nI (wyR nv (nI K) K (nI p) (nI x) P 1 row))), (6, .int (nI 1)), (7, .int (nI 0))]) rfl ?_
    exact lp69 2 0 (by omega) (by omega)
set_option maxRecDepth 100000 in
set_option maxHeartbeats 4000000 in
theorem k_X6_odds_2_0 (l : Launch) (D : DX) (B : Nat) (T : Int64) (M : Mem) (P : Nat) (hP : M 10 2 = nI P) (hP5 : P ≤ 5) (K : Nat) (hK : M 10 0 = nI K) (hK1 : 1 ≤ K) (hK4 : K ≤ 4) (X : Nat) (hX : M 10 1 = nI X) (hX1 : 1 ≤ X) (hX4 : X ≤ 4) (row nv : Nat → Int32) (hR : NR M 12 row) (hW : WR row) (hM : MW row) (hv : ∀ p, p < P → M 11 p = nv p) (p x : Nat) (hp : p < P) (hx : x < X)  : Ci l D B 108 (celC D B) yX6_odds cX6_odds 8 (some .int) 10 [.ref (B + 0), .int (nI p), .int (nI x), .int (nI 2), .int (nI 0)] T M (fun rz T1 M1 => rz = nI (wyR nv (nI K) K (nI p) (nI x) P 2 row / Nat.gcd (wyR nv (nI K) K (nI p) (nI x) P 2 row) (K ^ 2)) ∧ T1 = T ∧ Sc M M1) := by
  refine g_entryi (L := [(0, .ref (B + 0)), (1, .int (nI p)), (2, .int (nI x)), (3, .int (nI 2)), (4, .int (nI 0))]) (by decide) (Nat.le_of_ble_eq_true rfl) rfl ?_
  intro zp ze zs zm zb zt zc Q F hQ
  refine g_aload_n F 0 (dk dtX6_odds_0 0 rfl) rfl ?_
  refine g_get F fa_X6_19 (dk dtX6_odds_0 1 rfl) (by decide) (cc0 D B _ _) rfl ?_
  refine g_iload_n F 1 (dk dtX6_odds_0 2 rfl) rfl ?_
  refine g_callVi F (As := [.int (nI p)]) (st := []) cv_X6_94 (dk dtX6_odds_0 3 rfl) (by decide) (cc10 D B _ _) rfl rfl (Nat.le_of_ble_eq_true rfl) ⟨by decide, by decide⟩ (k_X5_hasPersonR l D B _ _ _ P hP) (fun r5 T5 M5 hp5 => ?_)
  obtain ⟨e1, e2, e3⟩ := hp5
  replace e1 := e1.symm; replace e2 := e2.symm; replace e3 := e3.symm; subst e1; subst e2; subst e3
  refine g_if_eqB F 22 (dk dtX6_odds_0 4 rfl) (by decide) (fun c => absurd (inR_nI (by omega)) c) (fun _ => ?_)
  refine g_aload_n F 0 (dk dtX6_odds_0 5 rfl) rfl ?_
  refine g_get F fa_X6_19 (dk dtX6_odds_0 6 rfl) (by decide) (cc0 D B _ _) rfl ?_
  refine g_iload_n F 2 (dk dtX6_odds_0 7 rfl) rfl ?_
  refine g_callVi F (As := [.int (nI x)]) (st := []) cv_X6_132 (dk dtX6_odds_0 8 rfl) (by decide) (cc10 D B _ _) rfl rfl (Nat.le_of_ble_eq_true rfl) ⟨by decide, by decide⟩ (k_X5_hasPlaceR l D B _ _ _ X hX) (fun r16 T16 M16 hp16 => ?_)
  obtain ⟨e1, e2, e3⟩ := hp16
  replace e1 := e1.symm; replace e2 := e2.symm; replace e3 := e3.symm; subst e1; subst e2; subst e3
  refine g_if_neB F 24 (dk dtX6_odds_0 9 rfl) (by decide) (fun _ => ?_) (fun c => absurd (inR_nI (by omega)) c)
  refine g_iload_n F 3 (dk dtX6_odds_0 12 rfl) rfl ?_
  refine g_if_lt F 41 (dk dtX6_odds_0 13 rfl) (by decide) (fun c25 => ?_) (fun c25 => ?_)
  · -- taken at 25
    exact absurd c25 (by decide)
  · -- not taken at 25
    refine g_iload_n F 3 (dk dtX6_odds_0 14 rfl) rfl ?_
    refine g_iconst F (nI 4) (dk dtX6_odds_0 15 rfl) (by decide) ?_
    refine g_icmp_gtN F 41 (dk dtX6_odds_0 16 rfl) (by decide) (by decide) (by decide) (fun c => absurd c (by decide)) (fun _ => ?_)
    refine g_iload F 4 (dk dtX6_odds_0 17 rfl) rfl ?_
    refine g_callSi F (As := [.int (nI 0)]) (st := []) cs_X6_158 (dk dtX6_odds_0 18 rfl) rfl rfl (Nat.le_of_ble_eq_true rfl) ⟨by decide, by decide⟩ (k_X6_isBit l D B _ _ _) (fun r35 T35 M35 hp35 => ?_)
    obtain ⟨e1, e2, e3⟩ := hp35
    replace e1 := e1.symm; replace e2 := e2.symm; replace e3 := e3.symm; subst e1; subst e2; subst e3
    refine g_if_neB F 43 (dk dtX6_odds_0 19 rfl) (by decide) (fun _ => ?_) (fun c => absurd (inR_nI (by omega)) c)
    refine g_aload_n F 0 (dk dtX6_odds_0 22 rfl) rfl ?_
    refine g_get F fa_X6_40 (dk dtX6_odds_0 23 rfl) (by decide) (cc0 D B _ _) rfl ?_
    refine g_aload_n F 0 (dk dtX6_odds_0 24 rfl) rfl ?_
    refine g_get F fa_X6_19 (dk dtX6_odds_0 25 rfl) (by decide) (cc0 D B _ _) rfl ?_
    refine g_aload_n F 0 (dk dtX6_odds_0 26 rfl) rfl ?_
    refine g_get F fa_X6_26 (dk dtX6_odds_0 27 rfl) (by decide) (cc0 D B _ _) rfl ?_
    refine g_iload_n F 1 (dk dtX6_odds_0 28 rfl) rfl ?_
    refine g_iload_n F 2 (dk dtX6_odds_0 29 rfl) rfl ?_
    refine g_iload_n F 3 (dk dtX6_odds_0 30 rfl) rfl ?_
    refine g_callVi F (As := [.ref (B + 10), .ref (B + 12), .int (nI p), .int (nI x), .int (nI 2)]) (st := []) cv_X6_168 (dk dtX6_odds_0 31 rfl) (by decide) (cc69 D B _ _) rfl rfl (Nat.le_of_ble_eq_true rfl) ⟨by decide, by decide⟩ (k_X0_ways_2 l D B _ _ row nv hR hW hM K P hK hP hK1 hK4 hP5 hv p hp (nI x)) (fun r58 T58 M58 hp58 => ?_)
    obtain ⟨hr58, hT58, hS58⟩ := hp58
    replace hT58 := hT58.symm; subst hT58; replace hr58 := hr58.symm; subst hr58
    have hK58 : M58 10 0 = nI K := by rw [hS58 10 (by decide)]; exact hK
    refine g_istore F [(5, .int (nI (wyR nv (nI K) K (nI p) (nI x) P 2 row))), (0, .ref (B + 0)), (1, .int (nI p)), (2, .int (nI x)), (3, .int (nI 2)), (4, .int (nI 0))] (dk dtX6_odds_0 32 rfl) (by decide) rfl ?_
    refine g_iconst F (nI 1) (dk dtX6_odds_0 33 rfl) (by decide) ?_
    refine g_istore F [(6, .int (nI 1)), (5, .int (nI (wyR nv (nI K) K (nI p) (nI x) P 2 row))), (0, .ref (B + 0)), (1, .int (nI p)), (2, .int (nI x)), (3, .int (nI 2)), (4, .int (nI 0))] (dk dtX6_odds_0 34 rfl) (by decide) rfl ?_
    refine g_iconst F (nI 0) (dk dtX6_odds_0 35 rfl) (by decide) ?_
    refine g_istore F [(7, .int (nI 0)), (6, .int (nI 1)), (5, .int (nI (wyR nv (nI K) K (nI p) (nI x) P 2 row))), (0, .ref (B + 0)), (1, .int (nI p)), (2, .int (nI x)), (3, .int (nI 2)), (4, .int (nI 0))] (dk dtX6_odds_0 36 rfl) (by decide) rfl ?_
    have lp69 : ∀ (fz : Nat) (i : Nat), i ≤ 2 → (2 - i) < fz → G zp l ze { frames := 10, cells := 0, slots := 0, locals := 40 * 10 } zs zm [.ref (B + 0), .int (nI p), .int (nI x), .int (nI 2), .int (nI 0)].toArray zb zt zc 8 D B 108 (celC D B) Q T M58 69 [(0, .ref (B + 0)), (1, .int (nI p)), (2, .int (nI x)), (3, .int (nI 2)), (4, .int (nI 0)), (5, .int (nI (wyR nv (nI K) K (nI p) (nI x) P 2 row))), (6, .int (nI (K ^ i))), (7, .int (nI i))] [] := by
      intro n69
      induction n69 with
      | zero => intro i hI hn; exact absurd hn (Nat.not_lt_zero _)
      | succ n69 ih69 =>
        intro i hI69 hn69
        refine g_iload F 7 (dk dtX6_odds_0 37 rfl) rfl ?_
        refine g_iload_n F 3 (dk dtX6_odds_0 38 rfl) rfl ?_
        refine g_icmp_geN F 93 (dk dtX6_odds_0 39 rfl) (by decide) (by omega) (by omega) (fun c72 => ?_) (fun c72 => ?_)
        · -- taken at 72
          obtain rfl : 2 = i := by omega
          have hwl := wy_le nv (nI K) K (nI p) (nI x) P 2 row
          have hkn := kn_le (K := K) (n := 2) hK4 (by decide)
          have hkp : 0 < K ^ 2 := Nat.pow_pos hK1
          have hgp := Nat.gcd_pos_of_pos_right (wyR nv (nI K) K (nI p) (nI x) P 2 row) hkp
          have hgl := Nat.le_of_dvd hkp (Nat.gcd_dvd_right (wyR nv (nI K) K (nI p) (nI x) P 2 row) (K ^ 2))
          refine g_iconst F (nI 1) (dk dtX6_odds_0 48 rfl) (by decide) ?_
          refine g_iload F 5 (dk dtX6_odds_0 49 rfl) rfl ?_
          refine g_iload F 6 (dk dtX6_odds_0 50 rfl) rfl ?_
          refine g_callSi F (As := [.int (nI (wyR nv (nI K) K (nI p) (nI x) P 2 row)), .int (nI (K ^ 2))]) (st := [.int (nI 1)]) cs_X6_175 (dk dtX6_odds_0 51 rfl) rfl rfl (Nat.le_of_ble_eq_true rfl) ⟨by decide, by decide⟩ (k_X6_commonDivisor l D B _ _ (wyR nv (nI K) K (nI p) (nI x) P 2 row) (K ^ 2) (by omega) (by omega)) (fun r98 T98 M98 hp98 => ?_)
          obtain ⟨e1, e2, e3⟩ := hp98
          replace e1 := e1.symm; replace e2 := e2.symm; replace e3 := e3.symm; subst e1; subst e2; subst e3
          refine g_mmax F (tw2 232 rfl) (dk dtX6_odds_0 52 rfl) (Nat.le_of_ble_eq_true rfl) (Nat.le_of_ble_eq_true rfl) ?_
          refine g_top (mx_1 hgp (by omega)) ?_
          refine g_istore F [(7, .int (nI (Nat.gcd (wyR nv (nI K) K (nI p) (nI x) P 2 row) (K ^ 2)))), (0, .ref (B + 0)), (1, .int (nI p)), (2, .int (nI x)), (3, .int (nI 2)), (4, .int (nI 0)), (5, .int (nI (wyR nv (nI K) K (nI p) (nI x) P 2 row))), (6, .int (nI (K ^ 2)))] (dk dtX6_odds_0 53 rfl) (by decide) rfl ?_
          refine g_iload F 5 (dk dtX6_odds_0 54 rfl) rfl ?_
          refine g_if_neN F 116 (dk dtX6_odds_0 55 rfl) (by decide) (by decide) (fun c => absurd c (by decide)) (fun _ => ?_)
          refine g_iload F 6 (dk dtX6_odds_0 56 rfl) rfl ?_
          refine g_goto F 118 (dk dtX6_odds_0 57 rfl) (by decide) ?_
          refine g_iload F 0 (dk dtX6_odds_0 59 rfl) rfl ?_
          refine g_idivN F (dk dtX6_odds_1 0 rfl) (by omega) (by omega) (by omega) ?_
          refine g_iret (F := F) hQ (dk dtX6_odds_1 1 rfl) ?_
          exact ⟨rfl, rfl, hS58⟩
        · -- not taken at 72
          refine g_iload F 6 (dk dtX6_odds_0 40 rfl) rfl ?_
          refine g_aload_n F 0 (dk dtX6_odds_0 41 rfl) rfl ?_
          refine g_get F fa_X6_19 (dk dtX6_odds_0 42 rfl) (by decide) (cc0 D B _ _) rfl ?_
          refine g_get F fa_X6_172 (dk dtX6_odds_0 43 rfl) (by decide) (cc10 D B _ _) rfl ?_
          refine g_top hK58 ?_
          refine g_imulN F (dk dtX6_odds_0 44 rfl) ?_
          refine g_istore F [(6, .int (nI ((K ^ i) * K))), (0, .ref (B + 0)), (1, .int (nI p)), (2, .int (nI x)), (3, .int (nI 2)), (4, .int (nI 0)), (5, .int (nI (wyR nv (nI K) K (nI p) (nI x) P 2 row))), (7, .int (nI i))] (dk dtX6_odds_0 45 rfl) (by decide) rfl ?_
          refine g_iinc F 7 (nI (i + 1)) [(7, .int (nI (i + 1))), (6, .int (nI ((K ^ i) * K))), (0, .ref (B + 0)), (1, .int (nI p)), (2, .int (nI x)), (3, .int (nI 2)), (4, .int (nI 0)), (5, .int (nI (wyR nv (nI K) K (nI p) (nI x) P 2 row)))] (dk dtX6_odds_0 46 rfl) rfl (nI_1 _) (by decide) rfl ?_
          refine g_goto F 69 (dk dtX6_odds_0 47 rfl) (by decide) ?_
          refine g_sub [2, 3, 4, 5, 6, 7, 1, 0] (L1 := [(0, .ref (B + 0)), (1, .int (nI p)), (2, .int (nI x)), (3, .int (nI 2)), (4, .int (nI 0)), (5, .int (nI (wyR nv (nI K) K (nI p) (nI x) P 2 row))), (6, .int (nI ((K ^ i) * K))), (7, .int (nI (i + 1)))]) rfl ?_
          have eq69_6 : (nI ((K ^ i) * K) : Int32) = nI (K ^ (i + 1)) := by
            rfl
          refine g_st (M1 := M58) (L1 := [(0, .ref (B + 0)), (1, .int (nI p)), (2, .int (nI x)), (3, .int (nI 2)), (4, .int (nI 0)), (5, .int (nI (wyR nv (nI K) K (nI p) (nI x) P 2 row))), (6, .int (nI (K ^ (i + 1)))), (7, .int (nI (i + 1)))]) rfl (lc rfl (lc rfl (lc rfl (lc rfl (lc rfl (lc rfl (lc (vi eq69_6) (lc rfl rfl)))))))) rfl ?_
          exact ih69 (i + 1) (by omega) (by omega)
    refine g_sub [3, 4, 5, 6, 7, 2, 1, 0] (L1 := [(0, .ref (B + 0)), (1, .int (nI p)), (2, .int (nI x)), (3, .int (nI 2)), (4, .int (nI 0)), (5, .int (nI (wyR nv (nI K) K (nI p) (nI x) P 2 row))), (6, .int (nI 1)), (7, .int (nI 0))]) rfl ?_
    exact lp69 3 0 (by omega) (by omega)
set_option maxRecDepth 100000 in
set_option maxHeartbeats 4000000 in
theorem k_X6_odds_2_1 (l : Launch) (D : DX) (B : Nat) (T : Int64) (M : Mem) (P : Nat) (hP : M 10 2 = nI P) (hP5 : P ≤ 5) (K : Nat) (hK : M 10 0 = nI K) (hK1 : 1 ≤ K) (hK4 : K ≤ 4) (X : Nat) (hX : M 10 1 = nI X) (hX1 : 1 ≤ X) (hX4 : X ≤ 4) (row nv : Nat → Int32) (hR : NR M 12 row) (hW : WR row) (hM : MW row) (hv : ∀ p, p < P → M 11 p = nv p) (p x : Nat) (hp : p < P) (hx : x < X)  : Ci l D B 108 (celC D B) yX6_odds cX6_odds 8 (some .int) 10 [.ref (B + 0), .int (nI p), .int (nI x), .int (nI 2), .int (nI 1)] T M (fun rz T1 M1 => rz = nI (K ^ 2 / Nat.gcd (wyR nv (nI K) K (nI p) (nI x) P 2 row) (K ^ 2)) ∧ T1 = T ∧ Sc M M1) := by
  refine g_entryi (L := [(0, .ref (B + 0)), (1, .int (nI p)), (2, .int (nI x)), (3, .int (nI 2)), (4, .int (nI 1))]) (by decide) (Nat.le_of_ble_eq_true rfl) rfl ?_
  intro zp ze zs zm zb zt zc Q F hQ
  refine g_aload_n F 0 (dk dtX6_odds_0 0 rfl) rfl ?_
  refine g_get F fa_X6_19 (dk dtX6_odds_0 1 rfl) (by decide) (cc0 D B _ _) rfl ?_
  refine g_iload_n F 1 (dk dtX6_odds_0 2 rfl) rfl ?_
  refine g_callVi F (As := [.int (nI p)]) (st := []) cv_X6_94 (dk dtX6_odds_0 3 rfl) (by decide) (cc10 D B _ _) rfl rfl (Nat.le_of_ble_eq_true rfl) ⟨by decide, by decide⟩ (k_X5_hasPersonR l D B _ _ _ P hP) (fun r5 T5 M5 hp5 => ?_)
  obtain ⟨e1, e2, e3⟩ := hp5
  replace e1 := e1.symm; replace e2 := e2.symm; replace e3 := e3.symm; subst e1; subst e2; subst e3
  refine g_if_eqB F 22 (dk dtX6_odds_0 4 rfl) (by decide) (fun c => absurd (inR_nI (by omega)) c) (fun _ => ?_)
  refine g_aload_n F 0 (dk dtX6_odds_0 5 rfl) rfl ?_
  refine g_get F fa_X6_19 (dk dtX6_odds_0 6 rfl) (by decide) (cc0 D B _ _) rfl ?_
  refine g_iload_n F 2 (dk dtX6_odds_0 7 rfl) rfl ?_
  refine g_callVi F (As := [.int (nI x)]) (st := []) cv_X6_132 (dk dtX6_odds_0 8 rfl) (by decide) (cc10 D B _ _) rfl rfl (Nat.le_of_ble_eq_true rfl) ⟨by decide, by decide⟩ (k_X5_hasPlaceR l D B _ _ _ X hX) (fun r16 T16 M16 hp16 => ?_)
  obtain ⟨e1, e2, e3⟩ := hp16
  replace e1 := e1.symm; replace e2 := e2.symm; replace e3 := e3.symm; subst e1; subst e2; subst e3
  refine g_if_neB F 24 (dk dtX6_odds_0 9 rfl) (by decide) (fun _ => ?_) (fun c => absurd (inR_nI (by omega)) c)
  refine g_iload_n F 3 (dk dtX6_odds_0 12 rfl) rfl ?_
  refine g_if_lt F 41 (dk dtX6_odds_0 13 rfl) (by decide) (fun c25 => ?_) (fun c25 => ?_)
  · -- taken at 25
    exact absurd c25 (by decide)
  · -- not taken at 25
    refine g_iload_n F 3 (dk dtX6_odds_0 14 rfl) rfl ?_
    refine g_iconst F (nI 4) (dk dtX6_odds_0 15 rfl) (by decide) ?_
    refine g_icmp_gtN F 41 (dk dtX6_odds_0 16 rfl) (by decide) (by decide) (by decide) (fun c => absurd c (by decide)) (fun _ => ?_)
    refine g_iload F 4 (dk dtX6_odds_0 17 rfl) rfl ?_
    refine g_callSi F (As := [.int (nI 1)]) (st := []) cs_X6_158 (dk dtX6_odds_0 18 rfl) rfl rfl (Nat.le_of_ble_eq_true rfl) ⟨by decide, by decide⟩ (k_X6_isBit l D B _ _ _) (fun r35 T35 M35 hp35 => ?_)
    obtain ⟨e1, e2, e3⟩ := hp35
    replace e1 := e1.symm; replace e2 := e2.symm; replace e3 := e3.symm; subst e1; subst e2; subst e3
    refine g_if_neB F 43 (dk dtX6_odds_0 19 rfl) (by decide) (fun _ => ?_) (fun c => absurd (inR_nI (by omega)) c)
    refine g_aload_n F 0 (dk dtX6_odds_0 22 rfl) rfl ?_
    refine g_get F fa_X6_40 (dk dtX6_odds_0 23 rfl) (by decide) (cc0 D B _ _) rfl ?_
    refine g_aload_n F 0 (dk dtX6_odds_0 24 rfl) rfl ?_
    refine g_get F fa_X6_19 (dk dtX6_odds_0 25 rfl) (by decide) (cc0 D B _ _) rfl ?_
    refine g_aload_n F 0 (dk dtX6_odds_0 26 rfl) rfl ?_
    refine g_get F fa_X6_26 (dk dtX6_odds_0 27 rfl) (by decide) (cc0 D B _ _) rfl ?_
    refine g_iload_n F 1 (dk dtX6_odds_0 28 rfl) rfl ?_
    refine g_iload_n F 2 (dk dtX6_odds_0 29 rfl) rfl ?_
    refine g_iload_n F 3 (dk dtX6_odds_0 30 rfl) rfl ?_
    refine g_callVi F (As := [.ref (B + 10), .ref (B + 12), .int (nI p), .int (nI x), .int (nI 2)]) (st := []) cv_X6_168 (dk dtX6_odds_0 31 rfl) (by decide) (cc69 D B _ _) rfl rfl (Nat.le_of_ble_eq_true rfl) ⟨by decide, by decide⟩ (k_X0_ways_2 l D B _ _ row nv hR hW hM K P hK hP hK1 hK4 hP5 hv p hp (nI x)) (fun r58 T58 M58 hp58 => ?_)
    obtain ⟨hr58, hT58, hS58⟩ := hp58
    replace hT58 := hT58.symm; subst hT58; replace hr58 := hr58.symm; subst hr58
    have hK58 : M58 10 0 = nI K := by rw [hS58 10 (by decide)]; exact hK
    refine g_istore F [(5, .int (nI (wyR nv (nI K) K (nI p) (nI x) P 2 row))), (0, .ref (B + 0)), (1, .int (nI p)), (2, .int (nI x)), (3, .int (nI 2)), (4, .int (nI 1))] (dk dtX6_odds_0 32 rfl) (by decide) rfl ?_
    refine g_iconst F (nI 1) (dk dtX6_odds_0 33 rfl) (by decide) ?_
    refine g_istore F [(6, .int (nI 1)), (5, .int (nI (wyR nv (nI K) K (nI p) (nI x) P 2 row))), (0, .ref (B + 0)), (1, .int (nI p)), (2, .int (nI x)), (3, .int (nI 2)), (4, .int (nI 1))] (dk dtX6_odds_0 34 rfl) (by decide) rfl ?_
    refine g_iconst F (nI 0) (dk dtX6_odds_0 35 rfl) (by decide) ?_
    refine g_istore F [(7, .int (nI 0)), (6, .int (nI 1)), (5, .int (nI (wyR nv (nI K) K (nI p) (nI x) P 2 row))), (0, .ref (B + 0)), (1, .int (nI p)), (2, .int (nI x)), (3, .int (nI 2)), (4, .int (nI 1))] (dk dtX6_odds_0 36 rfl) (by decide) rfl ?_
    have lp69 : ∀ (fz : Nat) (i : Nat), i ≤ 2 → (2 - i) < fz → G zp l ze { frames := 10, cells := 0, slots := 0, locals := 40 * 10 } zs zm [.ref (B + 0), .int (nI p), .int (nI x), .int (nI 2), .int (nI 1)].toArray zb zt zc 8 D B 108 (celC D B) Q T M58 69 [(0, .ref (B + 0)), (1, .int (nI p)), (2, .int (nI x)), (3, .int (nI 2)), (4, .int (nI 1)), (5, .int (nI (wyR nv (nI K) K (nI p) (nI x) P 2 row))), (6, .int (nI (K ^ i))), (7, .int (nI i))] [] := by
      intro n69
      induction n69 with
      | zero => intro i hI hn; exact absurd hn (Nat.not_lt_zero _)
      | succ n69 ih69 =>
        intro i hI69 hn69
        refine g_iload F 7 (dk dtX6_odds_0 37 rfl) rfl ?_
        refine g_iload_n F 3 (dk dtX6_odds_0 38 rfl) rfl ?_
        refine g_icmp_geN F 93 (dk dtX6_odds_0 39 rfl) (by decide) (by omega) (by omega) (fun c72 => ?_) (fun c72 => ?_)
        · -- taken at 72
          obtain rfl : 2 = i := by omega
          have hwl := wy_le nv (nI K) K (nI p) (nI x) P 2 row
          have hkn := kn_le (K := K) (n := 2) hK4 (by decide)
          have hkp : 0 < K ^ 2 := Nat.pow_pos hK1
          have hgp := Nat.gcd_pos_of_pos_right (wyR nv (nI K) K (nI p) (nI x) P 2 row) hkp
          have hgl := Nat.le_of_dvd hkp (Nat.gcd_dvd_right (wyR nv (nI K) K (nI p) (nI x) P 2 row) (K ^ 2))
          refine g_iconst F (nI 1) (dk dtX6_odds_0 48 rfl) (by decide) ?_
          refine g_iload F 5 (dk dtX6_odds_0 49 rfl) rfl ?_
          refine g_iload F 6 (dk dtX6_odds_0 50 rfl) rfl ?_
          refine g_callSi F (As := [.int (nI (wyR nv (nI K) K (nI p) (nI x) P 2 row)), .int (nI (K ^ 2))]) (st := [.int (nI 1)]) cs_X6_175 (dk dtX6_odds_0 51 rfl) rfl rfl (Nat.le_of_ble_eq_true rfl) ⟨by decide, by decide⟩ (k_X6_commonDivisor l D B _ _ (wyR nv (nI K) K (nI p) (nI x) P 2 row) (K ^ 2) (by omega) (by omega)) (fun r98 T98 M98 hp98 => ?_)
          obtain ⟨e1, e2, e3⟩ := hp98
          replace e1 := e1.symm; replace e2 := e2.symm; replace e3 := e3.symm; subst e1; subst e2; subst e3
          refine g_mmax F (tw2 232 rfl) (dk dtX6_odds_0 52 rfl) (Nat.le_of_ble_eq_true rfl) (Nat.le_of_ble_eq_true rfl) ?_
          refine g_top (mx_1 hgp (by omega)) ?_
          refine g_istore F [(7, .int (nI (Nat.gcd (wyR nv (nI K) K (nI p) (nI x) P 2 row) (K ^ 2)))), (0, .ref (B + 0)), (1, .int (nI p)), (2, .int (nI x)), (3, .int (nI 2)), (4, .int (nI 1)), (5, .int (nI (wyR nv (nI K) K (nI p) (nI x) P 2 row))), (6, .int (nI (K ^ 2)))] (dk dtX6_odds_0 53 rfl) (by decide) rfl ?_
          refine g_iload F 5 (dk dtX6_odds_0 54 rfl) rfl ?_
          refine g_if_neN F 116 (dk dtX6_odds_0 55 rfl) (by decide) (by decide) (fun _ => ?_) (fun c => absurd c (by decide))
          refine g_iload F 7 (dk dtX6_odds_0 58 rfl) rfl ?_
          refine g_iload F 0 (dk dtX6_odds_0 59 rfl) rfl ?_
          refine g_idivN F (dk dtX6_odds_1 0 rfl) (by omega) (by omega) (by omega) ?_
          refine g_iret (F := F) hQ (dk dtX6_odds_1 1 rfl) ?_
          exact ⟨rfl, rfl, hS58⟩
        · -- not taken at 72
          refine g_iload F 6 (dk dtX6_odds_0 40 rfl) rfl ?_
          refine g_aload_n F 0 (dk dtX6_odds_0 41 rfl) rfl ?_
          refine g_get F fa_X6_19 (dk dtX6_odds_0 42 rfl) (by decide) (cc0 D B _ _) rfl ?_
          refine g_get F fa_X6_172 (dk dtX6_odds_0 43 rfl) (by decide) (cc10 D B _ _) rfl ?_
          refine g_top hK58 ?_
          refine g_imulN F (dk dtX6_odds_0 44 rfl) ?_
          refine g_istore F [(6, .int (nI ((K ^ i) * K))), (0, .ref (B + 0)), (1, .int (nI p)), (2, .int (nI x)), (3, .int (nI 2)), (4, .int (nI 1)), (5, .int (nI (wyR nv (nI K) K (nI p) (nI x) P 2 row))), (7, .int (nI i))] (dk dtX6_odds_0 45 rfl) (by decide) rfl ?_
          refine g_iinc F 7 (nI (i + 1)) [(7, .int (nI (i + 1))), (6, .int (nI ((K ^ i) * K))), (0, .ref (B + 0)), (1, .int (nI p)), (2, .int (nI x)), (3, .int (nI 2)), (4, .int (nI 1)), (5, .int (nI (wyR nv (nI K) K (nI p) (nI x) P 2 row)))] (dk dtX6_odds_0 46 rfl) rfl (nI_1 _) (by decide) rfl ?_
          refine g_goto F 69 (dk dtX6_odds_0 47 rfl) (by decide) ?_
          refine g_sub [2, 3, 4, 5, 6, 7, 1, 0] (L1 := [(0, .ref (B + 0)), (1, .int (nI p)), (2, .int (nI x)), (3, .int (nI 2)), (4, .int (nI 1)), (5, .int (nI (wyR nv (nI K) K (nI p) (nI x) P 2 row))), (6, .int (nI ((K ^ i) * K))), (7, .int (nI (i + 1)))]) rfl ?_
          have eq69_6 : (nI ((K ^ i) * K) : Int32) = nI (K ^ (i + 1)) := by
            rfl
          refine g_st (M1 := M58) (L1 := [(0, .ref (B + 0)), (1, .int (nI p)), (2, .int (nI x)), (3, .int (nI 2)), (4, .int (nI 1)), (5, .int (nI (wyR nv (nI K) K (nI p) (nI x) P 2 row))), (6, .int (nI (K ^ (i + 1)))), (7, .int (nI (i + 1)))]) rfl (lc rfl (lc rfl (lc rfl (lc rfl (lc rfl (lc rfl (lc (vi eq69_6) (lc rfl rfl)))))))) rfl ?_
          exact ih69 (i + 1) (by omega) (by omega)
    refine g_sub [3, 4, 5, 6, 7, 2, 1, 0] (L1 := [(0, .ref (B + 0)), (1, .int (nI p)), (2, .int (nI x)), (3, .int (nI 2)), (4, .int (nI 1)), (5, .int (nI (wyR nv (nI K) K (nI p) (nI x) P 2 row))), (6, .int (nI 1)), (7, .int (nI 0))]) rfl ?_
    exact lp69 3 0 (by omega) (by omega)
set_option maxRecDepth 100000 in
set_option maxHeartbeats 4000000 in
theorem k_X6_odds_3_0 (l : Launch) (D : DX) (B : Nat) (T : Int64) (M : Mem) (P : Nat) (hP : M 10 2 = nI P) (hP5 : P ≤ 5) (K : Nat) (hK : M 10 0 = nI K) (hK1 : 1 ≤ K) (hK4 : K ≤ 4) (X : Nat) (hX : M 10 1 = nI X) (hX1 : 1 ≤ X) (hX4 : X ≤ 4) (row nv : Nat → Int32) (hR : NR M 12 row) (hW : WR row) (hM : MW row) (hv : ∀ p, p < P → M 11 p = nv p) (p x : Nat) (hp : p < P) (hx : x < X)  : Ci l D B 108 (celC D B) yX6_odds cX6_odds 8 (some .int) 10 [.ref (B + 0), .int (nI p), .int (nI x), .int (nI 3), .int (nI 0)] T M (fun rz T1 M1 => rz = nI (wyR nv (nI K) K (nI p) (nI x) P 3 row / Nat.gcd (wyR nv (nI K) K (nI p) (nI x) P 3 row) (K ^ 3)) ∧ T1 = T ∧ Sc M M1) := by
  refine g_entryi (L := [(0, .ref (B + 0)), (1, .int (nI p)), (2, .int (nI x)), (3, .int (nI 3)), (4, .int (nI 0))]) (by decide) (Nat.le_of_ble_eq_true rfl) rfl ?_
  intro zp ze zs zm zb zt zc Q F hQ
  refine g_aload_n F 0 (dk dtX6_odds_0 0 rfl) rfl ?_
  refine g_get F fa_X6_19 (dk dtX6_odds_0 1 rfl) (by decide) (cc0 D B _ _) rfl ?_
  refine g_iload_n F 1 (dk dtX6_odds_0 2 rfl) rfl ?_
  refine g_callVi F (As := [.int (nI p)]) (st := []) cv_X6_94 (dk dtX6_odds_0 3 rfl) (by decide) (cc10 D B _ _) rfl rfl (Nat.le_of_ble_eq_true rfl) ⟨by decide, by decide⟩ (k_X5_hasPersonR l D B _ _ _ P hP) (fun r5 T5 M5 hp5 => ?_)
  obtain ⟨e1, e2, e3⟩ := hp5
  replace e1 := e1.symm; replace e2 := e2.symm; replace e3 := e3.symm; subst e1; subst e2; subst e3
  refine g_if_eqB F 22 (dk dtX6_odds_0 4 rfl) (by decide) (fun c => absurd (inR_nI (by omega)) c) (fun _ => ?_)
  refine g_aload_n F 0 (dk dtX6_odds_0 5 rfl) rfl ?_
  refine g_get F fa_X6_19 (dk dtX6_odds_0 6 rfl) (by decide) (cc0 D B _ _) rfl ?_
  refine g_iload_n F 2 (dk dtX6_odds_0 7 rfl) rfl ?_
  refine g_callVi F (As := [.int (nI x)]) (st := []) cv_X6_132 (dk dtX6_odds_0 8 rfl) (by decide) (cc10 D B _ _) rfl rfl (Nat.le_of_ble_eq_true rfl) ⟨by decide, by decide⟩ (k_X5_hasPlaceR l D B _ _ _ X hX) (fun r16 T16 M16 hp16 => ?_)
  obtain ⟨e1, e2, e3⟩ := hp16
  replace e1 := e1.symm; replace e2 := e2.symm; replace e3 := e3.symm; subst e1; subst e2; subst e3
  refine g_if_neB F 24 (dk dtX6_odds_0 9 rfl) (by decide) (fun _ => ?_) (fun c => absurd (inR_nI (by omega)) c)
  refine g_iload_n F 3 (dk dtX6_odds_0 12 rfl) rfl ?_
  refine g_if_lt F 41 (dk dtX6_odds_0 13 rfl) (by decide) (fun c25 => ?_) (fun c25 => ?_)
  · -- taken at 25
    exact absurd c25 (by decide)
  · -- not taken at 25
    refine g_iload_n F 3 (dk dtX6_odds_0 14 rfl) rfl ?_
    refine g_iconst F (nI 4) (dk dtX6_odds_0 15 rfl) (by decide) ?_
    refine g_icmp_gtN F 41 (dk dtX6_odds_0 16 rfl) (by decide) (by decide) (by decide) (fun c => absurd c (by decide)) (fun _ => ?_)
    refine g_iload F 4 (dk dtX6_odds_0 17 rfl) rfl ?_
    refine g_callSi F (As := [.int (nI 0)]) (st := []) cs_X6_158 (dk dtX6_odds_0 18 rfl) rfl rfl (Nat.le_of_ble_eq_true rfl) ⟨by decide, by decide⟩ (k_X6_isBit l D B _ _ _) (fun r35 T35 M35 hp35 => ?_)
    obtain ⟨e1, e2, e3⟩ := hp35
    replace e1 := e1.symm; replace e2 := e2.symm; replace e3 := e3.symm; subst e1; subst e2; subst e3
    refine g_if_neB F 43 (dk dtX6_odds_0 19 rfl) (by decide) (fun _ => ?_) (fun c => absurd (inR_nI (by omega)) c)
    refine g_aload_n F 0 (dk dtX6_odds_0 22 rfl) rfl ?_
    refine g_get F fa_X6_40 (dk dtX6_odds_0 23 rfl) (by decide) (cc0 D B _ _) rfl ?_
    refine g_aload_n F 0 (dk dtX6_odds_0 24 rfl) rfl ?_
    refine g_get F fa_X6_19 (dk dtX6_odds_0 25 rfl) (by decide) (cc0 D B _ _) rfl ?_
    refine g_aload_n F 0 (dk dtX6_odds_0 26 rfl) rfl ?_
    refine g_get F fa_X6_26 (dk dtX6_odds_0 27 rfl) (by decide) (cc0 D B _ _) rfl ?_
    refine g_iload_n F 1 (dk dtX6_odds_0 28 rfl) rfl ?_
    refine g_iload_n F 2 (dk dtX6_odds_0 29 rfl) rfl ?_
    refine g_iload_n F 3 (dk dtX6_odds_0 30 rfl) rfl ?_
    refine g_callVi F (As := [.ref (B + 10), .ref (B + 12), .int (nI p), .int (nI x), .int (nI 3)]) (st := []) cv_X6_168 (dk dtX6_odds_0 31 rfl) (by decide) (cc69 D B _ _) rfl rfl (Nat.le_of_ble_eq_true rfl) ⟨by decide, by decide⟩ (k_X0_ways_3 l D B _ _ row nv hR hW hM K P hK hP hK1 hK4 hP5 hv p hp (nI x)) (fun r58 T58 M58 hp58 => ?_)
    obtain ⟨hr58, hT58, hS58⟩ := hp58
    replace hT58 := hT58.symm; subst hT58; replace hr58 := hr58.symm; subst hr58
    have hK58 : M58 10 0 = nI K := by rw [hS58 10 (by decide)]; exact hK
    refine g_istore F [(5, .int (nI (wyR nv (nI K) K (nI p) (nI x) P 3 row))), (0, .ref (B + 0)), (1, .int (nI p)), (2, .int (nI x)), (3, .int (nI 3)), (4, .int (nI 0))] (dk dtX6_odds_0 32 rfl) (by decide) rfl ?_
    refine g_iconst F (nI 1) (dk dtX6_odds_0 33 rfl) (by decide) ?_
    refine g_istore F [(6, .int (nI 1)), (5, .int (nI (wyR nv (nI K) K (nI p) (nI x) P 3 row))), (0, .ref (B + 0)), (1, .int (nI p)), (2, .int (nI x)), (3, .int (nI 3)), (4, .int (nI 0))] (dk dtX6_odds_0 34 rfl) (by decide) rfl ?_
    refine g_iconst F (nI 0) (dk dtX6_odds_0 35 rfl) (by decide) ?_
    refine g_istore F [(7, .int (nI 0)), (6, .int (nI 1)), (5, .int (nI (wyR nv (nI K) K (nI p) (nI x) P 3 row))), (0, .ref (B + 0)), (1, .int (nI p)), (2, .int (nI x)), (3, .int (nI 3)), (4, .int (nI 0))] (dk dtX6_odds_0 36 rfl) (by decide) rfl ?_
    have lp69 : ∀ (fz : Nat) (i : Nat), i ≤ 3 → (3 - i) < fz → G zp l ze { frames := 10, cells := 0, slots := 0, locals := 40 * 10 } zs zm [.ref (B + 0), .int (nI p), .int (nI x), .int (nI 3), .int (nI 0)].toArray zb zt zc 8 D B 108 (celC D B) Q T M58 69 [(0, .ref (B + 0)), (1, .int (nI p)), (2, .int (nI x)), (3, .int (nI 3)), (4, .int (nI 0)), (5, .int (nI (wyR nv (nI K) K (nI p) (nI x) P 3 row))), (6, .int (nI (K ^ i))), (7, .int (nI i))] [] := by
      intro n69
      induction n69 with
      | zero => intro i hI hn; exact absurd hn (Nat.not_lt_zero _)
      | succ n69 ih69 =>
        intro i hI69 hn69
        refine g_iload F 7 (dk dtX6_odds_0 37 rfl) rfl ?_
        refine g_iload_n F 3 (dk dtX6_odds_0 38 rfl) rfl ?_
        refine g_icmp_geN F 93 (dk dtX6_odds_0 39 rfl) (by decide) (by omega) (by omega) (fun c72 => ?_) (fun c72 => ?_)
        · -- taken at 72
          obtain rfl : 3 = i := by omega
          have hwl := wy_le nv (nI K) K (nI p) (nI x) P 3 row
          have hkn := kn_le (K := K) (n := 3) hK4 (by decide)
          have hkp : 0 < K ^ 3 := Nat.pow_pos hK1
          have hgp := Nat.gcd_pos_of_pos_right (wyR nv (nI K) K (nI p) (nI x) P 3 row) hkp
          have hgl := Nat.le_of_dvd hkp (Nat.gcd_dvd_right (wyR nv (nI K) K (nI p) (nI x) P 3 row) (K ^ 3))
          refine g_iconst F (nI 1) (dk dtX6_odds_0 48 rfl) (by decide) ?_
          refine g_iload F 5 (dk dtX6_odds_0 49 rfl) rfl ?_
          refine g_iload F 6 (dk dtX6_odds_0 50 rfl) rfl ?_
          refine g_callSi F (As := [.int (nI (wyR nv (nI K) K (nI p) (nI x) P 3 row)), .int (nI (K ^ 3))]) (st := [.int (nI 1)]) cs_X6_175 (dk dtX6_odds_0 51 rfl) rfl rfl (Nat.le_of_ble_eq_true rfl) ⟨by decide, by decide⟩ (k_X6_commonDivisor l D B _ _ (wyR nv (nI K) K (nI p) (nI x) P 3 row) (K ^ 3) (by omega) (by omega)) (fun r98 T98 M98 hp98 => ?_)
          obtain ⟨e1, e2, e3⟩ := hp98
          replace e1 := e1.symm; replace e2 := e2.symm; replace e3 := e3.symm; subst e1; subst e2; subst e3
          refine g_mmax F (tw2 232 rfl) (dk dtX6_odds_0 52 rfl) (Nat.le_of_ble_eq_true rfl) (Nat.le_of_ble_eq_true rfl) ?_
          refine g_top (mx_1 hgp (by omega)) ?_
          refine g_istore F [(7, .int (nI (Nat.gcd (wyR nv (nI K) K (nI p) (nI x) P 3 row) (K ^ 3)))), (0, .ref (B + 0)), (1, .int (nI p)), (2, .int (nI x)), (3, .int (nI 3)), (4, .int (nI 0)), (5, .int (nI (wyR nv (nI K) K (nI p) (nI x) P 3 row))), (6, .int (nI (K ^ 3)))] (dk dtX6_odds_0 53 rfl) (by decide) rfl ?_
          refine g_iload F 5 (dk dtX6_odds_0 54 rfl) rfl ?_
          refine g_if_neN F 116 (dk dtX6_odds_0 55 rfl) (by decide) (by decide) (fun c => absurd c (by decide)) (fun _ => ?_)
          refine g_iload F 6 (dk dtX6_odds_0 56 rfl) rfl ?_
          refine g_goto F 118 (dk dtX6_odds_0 57 rfl) (by decide) ?_
          refine g_iload F 0 (dk dtX6_odds_0 59 rfl) rfl ?_
          refine g_idivN F (dk dtX6_odds_1 0 rfl) (by omega) (by omega) (by omega) ?_
          refine g_iret (F := F) hQ (dk dtX6_odds_1 1 rfl) ?_
          exact ⟨rfl, rfl, hS58⟩
        · -- not taken at 72
          refine g_iload F 6 (dk dtX6_odds_0 40 rfl) rfl ?_
          refine g_aload_n F 0 (dk dtX6_odds_0 41 rfl) rfl ?_
          refine g_get F fa_X6_19 (dk dtX6_odds_0 42 rfl) (by decide) (cc0 D B _ _) rfl ?_
          refine g_get F fa_X6_172 (dk dtX6_odds_0 43 rfl) (by decide) (cc10 D B _ _) rfl ?_
          refine g_top hK58 ?_
          refine g_imulN F (dk dtX6_odds_0 44 rfl) ?_
          refine g_istore F [(6, .int (nI ((K ^ i) * K))), (0, .ref (B + 0)), (1, .int (nI p)), (2, .int (nI x)), (3, .int (nI 3)), (4, .int (nI 0)), (5, .int (nI (wyR nv (nI K) K (nI p) (nI x) P 3 row))), (7, .int (nI i))] (dk dtX6_odds_0 45 rfl) (by decide) rfl ?_
          refine g_iinc F 7 (nI (i + 1)) [(7, .int (nI (i + 1))), (6, .int (nI ((K ^ i) * K))), (0, .ref (B + 0)), (1, .int (nI p)), (2, .int (nI x)), (3, .int (nI 3)), (4, .int (nI 0)), (5, .int (nI (wyR nv (nI K) K (nI p) (nI x) P 3 row)))] (dk dtX6_odds_0 46 rfl) rfl (nI_1 _) (by decide) rfl ?_
          refine g_goto F 69 (dk dtX6_odds_0 47 rfl) (by decide) ?_
          refine g_sub [2, 3, 4, 5, 6, 7, 1, 0] (L1 := [(0, .ref (B + 0)), (1, .int (nI p)), (2, .int (nI x)), (3, .int (nI 3)), (4, .int (nI 0)), (5, .int (nI (wyR nv (nI K) K (nI p) (nI x) P 3 row))), (6, .int (nI ((K ^ i) * K))), (7, .int (nI (i + 1)))]) rfl ?_
          have eq69_6 : (nI ((K ^ i) * K) : Int32) = nI (K ^ (i + 1)) := by
            rfl
          refine g_st (M1 := M58) (L1 := [(0, .ref (B + 0)), (1, .int (nI p)), (2, .int (nI x)), (3, .int (nI 3)), (4, .int (nI 0)), (5, .int (nI (wyR nv (nI K) K (nI p) (nI x) P 3 row))), (6, .int (nI (K ^ (i + 1)))), (7, .int (nI (i + 1)))]) rfl (lc rfl (lc rfl (lc rfl (lc rfl (lc rfl (lc rfl (lc (vi eq69_6) (lc rfl rfl)))))))) rfl ?_
          exact ih69 (i + 1) (by omega) (by omega)
    refine g_sub [3, 4, 5, 6, 7, 2, 1, 0] (L1 := [(0, .ref (B + 0)), (1, .int (nI p)), (2, .int (nI x)), (3, .int (nI 3)), (4, .int (nI 0)), (5, .int (nI (wyR nv (nI K) K (nI p) (nI x) P 3 row))), (6, .int (nI 1)), (7, .int (nI 0))]) rfl ?_
    exact lp69 4 0 (by omega) (by omega)
set_option maxRecDepth 100000 in
set_option maxHeartbeats 4000000 in
theorem k_X6_odds_3_1 (l : Launch) (D : DX) (B : Nat) (T : Int64) (M : Mem) (P : Nat) (hP : M 10 2 = nI P) (hP5 : P ≤ 5) (K : Nat) (hK : M 10 0 = nI K) (hK1 : 1 ≤ K) (hK4 : K ≤ 4) (X : Nat) (hX : M 10 1 = nI X) (hX1 : 1 ≤ X) (hX4 : X ≤ 4) (row nv : Nat → Int32) (hR : NR M 12 row) (hW : WR row) (hM : MW row) (hv : ∀ p, p < P → M 11 p = nv p) (p x : Nat) (hp : p < P) (hx : x < X)  : Ci l D B 108 (celC D B) yX6_odds cX6_odds 8 (some .int) 10 [.ref (B + 0), .int (nI p), .int (nI x), .int (nI 3), .int (nI 1)] T M (fun rz T1 M1 => rz = nI (K ^ 3 / Nat.gcd (wyR nv (nI K) K (nI p) (nI x) P 3 row) (K ^ 3)) ∧ T1 = T ∧ Sc M M1) := by
  refine g_entryi (L := [(0, .ref (B + 0)), (1, .int (nI p)), (2, .int (nI x)), (3, .int (nI 3)), (4, .int (nI 1))]) (by decide) (Nat.le_of_ble_eq_true rfl) rfl ?_
  intro zp ze zs zm zb zt zc Q F hQ
  refine g_aload_n F 0 (dk dtX6_odds_0 0 rfl) rfl ?_
  refine g_get F fa_X6_19 (dk dtX6_odds_0 1 rfl) (by decide) (cc0 D B _ _) rfl ?_
  refine g_iload_n F 1 (dk dtX6_odds_0 2 rfl) rfl ?_
  refine g_callVi F (As := [.int (nI p)]) (st := []) cv_X6_94 (dk dtX6_odds_0 3 rfl) (by decide) (cc10 D B _ _) rfl rfl (Nat.le_of_ble_eq_true rfl) ⟨by decide, by decide⟩ (k_X5_hasPersonR l D B _ _ _ P hP) (fun r5 T5 M5 hp5 => ?_)
  obtain ⟨e1, e2, e3⟩ := hp5
  replace e1 := e1.symm; replace e2 := e2.symm; replace e3 := e3.symm; subst e1; subst e2; subst e3
  refine g_if_eqB F 22 (dk dtX6_odds_0 4 rfl) (by decide) (fun c => absurd (inR_nI (by omega)) c) (fun _ => ?_)
  refine g_aload_n F 0 (dk dtX6_odds_0 5 rfl) rfl ?_
  refine g_get F fa_X6_19 (dk dtX6_odds_0 6 rfl) (by decide) (cc0 D B _ _) rfl ?_
  refine g_iload_n F 2 (dk dtX6_odds_0 7 rfl) rfl ?_
  refine g_callVi F (As := [.int (nI x)]) (st := []) cv_X6_132 (dk dtX6_odds_0 8 rfl) (by decide) (cc10 D B _ _) rfl rfl (Nat.le_of_ble_eq_true rfl) ⟨by decide, by decide⟩ (k_X5_hasPlaceR l D B _ _ _ X hX) (fun r16 T16 M16 hp16 => ?_)
  obtain ⟨e1, e2, e3⟩ := hp16
  replace e1 := e1.symm; replace e2 := e2.symm; replace e3 := e3.symm; subst e1; subst e2; subst e3
  refine g_if_neB F 24 (dk dtX6_odds_0 9 rfl) (by decide) (fun _ => ?_) (fun c => absurd (inR_nI (by omega)) c)
  refine g_iload_n F 3 (dk dtX6_odds_0 12 rfl) rfl ?_
  refine g_if_lt F 41 (dk dtX6_odds_0 13 rfl) (by decide) (fun c25 => ?_) (fun c25 => ?_)
  · -- taken at 25
    exact absurd c25 (by decide)
  · -- not taken at 25
    refine g_iload_n F 3 (dk dtX6_odds_0 14 rfl) rfl ?_
    refine g_iconst F (nI 4) (dk dtX6_odds_0 15 rfl) (by decide) ?_
    refine g_icmp_gtN F 41 (dk dtX6_odds_0 16 rfl) (by decide) (by decide) (by decide) (fun c => absurd c (by decide)) (fun _ => ?_)
    refine g_iload F 4 (dk dtX6_odds_0 17 rfl) rfl ?_
    refine g_callSi F (As := [.int (nI 1)]) (st := []) cs_X6_158 (dk dtX6_odds_0 18 rfl) rfl rfl (Nat.le_of_ble_eq_true rfl) ⟨by decide, by decide⟩ (k_X6_isBit l D B _ _ _) (fun r35 T35 M35 hp35 => ?_)
    obtain ⟨e1, e2, e3⟩ := hp35
    replace e1 := e1.symm; replace e2 := e2.symm; replace e3 := e3.symm; subst e1; subst e2; subst e3
    refine g_if_neB F 43 (dk dtX6_odds_0 19 rfl) (by decide) (fun _ => ?_) (fun c => absurd (inR_nI (by omega)) c)
    refine g_aload_n F 0 (dk dtX6_odds_0 22 rfl) rfl ?_
    refine g_get F fa_X6_40 (dk dtX6_odds_0 23 rfl) (by decide) (cc0 D B _ _) rfl ?_
    refine g_aload_n F 0 (dk dtX6_odds_0 24 rfl) rfl ?_
    refine g_get F fa_X6_19 (dk dtX6_odds_0 25 rfl) (by decide) (cc0 D B _ _) rfl ?_
    refine g_aload_n F 0 (dk dtX6_odds_0 26 rfl) rfl ?_
    refine g_get F fa_X6_26 (dk dtX6_odds_0 27 rfl) (by decide) (cc0 D B _ _) rfl ?_
    refine g_iload_n F 1 (dk dtX6_odds_0 28 rfl) rfl ?_
    refine g_iload_n F 2 (dk dtX6_odds_0 29 rfl) rfl ?_
    refine g_iload_n F 3 (dk dtX6_odds_0 30 rfl) rfl ?_
    refine g_callVi F (As := [.ref (B + 10), .ref (B + 12), .int (nI p), .int (nI x), .int (nI 3)]) (st := []) cv_X6_168 (dk dtX6_odds_0 31 rfl) (by decide) (cc69 D B _ _) rfl rfl (Nat.le_of_ble_eq_true rfl) ⟨by decide, by decide⟩ (k_X0_ways_3 l D B _ _ row nv hR hW hM K P hK hP hK1 hK4 hP5 hv p hp (nI x)) (fun r58 T58 M58 hp58 => ?_)
    obtain ⟨hr58, hT58, hS58⟩ := hp58
    replace hT58 := hT58.symm; subst hT58; replace hr58 := hr58.symm; subst hr58
    have hK58 : M58 10 0 = nI K := by rw [hS58 10 (by decide)]; exact hK
    refine g_istore F [(5, .int (nI (wyR nv (nI K) K (nI p) (nI x) P 3 row))), (0, .ref (B + 0)), (1, .int (nI p)), (2, .int (nI x)), (3, .int (nI 3)), (4, .int (nI 1))] (dk dtX6_odds_0 32 rfl) (by decide) rfl ?_
    refine g_iconst F (nI 1) (dk dtX6_odds_0 33 rfl) (by decide) ?_
    refine g_istore F [(6, .int (nI 1)), (5, .int (nI (wyR nv (nI K) K (nI p) (nI x) P 3 row))), (0, .ref (B + 0)), (1, .int (nI p)), (2, .int (nI x)), (3, .int (nI 3)), (4, .int (nI 1))] (dk dtX6_odds_0 34 rfl) (by decide) rfl ?_
    refine g_iconst F (nI 0) (dk dtX6_odds_0 35 rfl) (by decide) ?_
    refine g_istore F [(7, .int (nI 0)), (6, .int (nI 1)), (5, .int (nI (wyR nv (nI K) K (nI p) (nI x) P 3 row))), (0, .ref (B + 0)), (1, .int (nI p)), (2, .int (nI x)), (3, .int (nI 3)), (4, .int (nI 1))] (dk dtX6_odds_0 36 rfl) (by decide) rfl ?_
    have lp69 : ∀ (fz : Nat) (i : Nat), i ≤ 3 → (3 - i) < fz → G zp l ze { frames := 10, cells := 0, slots := 0, locals := 40 * 10 } zs zm [.ref (B + 0), .int (nI p), .int (nI x), .int (nI 3), .int (nI 1)].toArray zb zt zc 8 D B 108 (celC D B) Q T M58 69 [(0, .ref (B + 0)), (1, .int (nI p)), (2, .int (nI x)), (3, .int (nI 3)), (4, .int (nI 1)), (5, .int (nI (wyR nv (nI K) K (nI p) (nI x) P 3 row))), (6, .int (nI (K ^ i))), (7, .int (nI i))] [] := by
      intro n69
      induction n69 with
      | zero => intro i hI hn; exact absurd hn (Nat.not_lt_zero _)
      | succ n69 ih69 =>
        intro i hI69 hn69
        refine g_iload F 7 (dk dtX6_odds_0 37 rfl) rfl ?_
        refine g_iload_n F 3 (dk dtX6_odds_0 38 rfl) rfl ?_
        refine g_icmp_geN F 93 (dk dtX6_odds_0 39 rfl) (by decide) (by omega) (by omega) (fun c72 => ?_) (fun c72 => ?_)
        · -- taken at 72
          obtain rfl : 3 = i := by omega
          have hwl := wy_le nv (nI K) K (nI p) (nI x) P 3 row
          have hkn := kn_le (K := K) (n := 3) hK4 (by decide)
          have hkp : 0 < K ^ 3 := Nat.pow_pos hK1
          have hgp := Nat.gcd_pos_of_pos_right (wyR nv (nI K) K (nI p) (nI x) P 3 row) hkp
          have hgl := Nat.le_of_dvd hkp (Nat.gcd_dvd_right (wyR nv (nI K) K (nI p) (nI x) P 3 row) (K ^ 3))
          refine g_iconst F (nI 1) (dk dtX6_odds_0 48 rfl) (by decide) ?_
          refine g_iload F 5 (dk dtX6_odds_0 49 rfl) rfl ?_
          refine g_iload F 6 (dk dtX6_odds_0 50 rfl) rfl ?_
          refine g_callSi F (As := [.int (nI (wyR nv (nI K) K (nI p) (nI x) P 3 row)), .int (nI (K ^ 3))]) (st := [.int (nI 1)]) cs_X6_175 (dk dtX6_odds_0 51 rfl) rfl rfl (Nat.le_of_ble_eq_true rfl) ⟨by decide, by decide⟩ (k_X6_commonDivisor l D B _ _ (wyR nv (nI K) K (nI p) (nI x) P 3 row) (K ^ 3) (by omega) (by omega)) (fun r98 T98 M98 hp98 => ?_)
          obtain ⟨e1, e2, e3⟩ := hp98
          replace e1 := e1.symm; replace e2 := e2.symm; replace e3 := e3.symm; subst e1; subst e2; subst e3
          refine g_mmax F (tw2 232 rfl) (dk dtX6_odds_0 52 rfl) (Nat.le_of_ble_eq_true rfl) (Nat.le_of_ble_eq_true rfl) ?_
          refine g_top (mx_1 hgp (by omega)) ?_
          refine g_istore F [(7, .int (nI (Nat.gcd (wyR nv (nI K) K (nI p) (nI x) P 3 row) (K ^ 3)))), (0, .ref (B + 0)), (1, .int (nI p)), (2, .int (nI x)), (3, .int (nI 3)), (4, .int (nI 1)), (5, .int (nI (wyR nv (nI K) K (nI p) (nI x) P 3 row))), (6, .int (nI (K ^ 3)))] (dk dtX6_odds_0 53 rfl) (by decide) rfl ?_
          refine g_iload F 5 (dk dtX6_odds_0 54 rfl) rfl ?_
          refine g_if_neN F 116 (dk dtX6_odds_0 55 rfl) (by decide) (by decide) (fun _ => ?_) (fun c => absurd c (by decide))
          refine g_iload F 7 (dk dtX6_odds_0 58 rfl) rfl ?_
          refine g_iload F 0 (dk dtX6_odds_0 59 rfl) rfl ?_
          refine g_idivN F (dk dtX6_odds_1 0 rfl) (by omega) (by omega) (by omega) ?_
          refine g_iret (F := F) hQ (dk dtX6_odds_1 1 rfl) ?_
          exact ⟨rfl, rfl, hS58⟩
        · -- not taken at 72
          refine g_iload F 6 (dk dtX6_odds_0 40 rfl) rfl ?_
          refine g_aload_n F 0 (dk dtX6_odds_0 41 rfl) rfl ?_
          refine g_get F fa_X6_19 (dk dtX6_odds_0 42 rfl) (by decide) (cc0 D B _ _) rfl ?_
          refine g_get F fa_X6_172 (dk dtX6_odds_0 43 rfl) (by decide) (cc10 D B _ _) rfl ?_
          refine g_top hK58 ?_
          refine g_imulN F (dk dtX6_odds_0 44 rfl) ?_
          refine g_istore F [(6, .int (nI ((K ^ i) * K))), (0, .ref (B + 0)), (1, .int (nI p)), (2, .int (nI x)), (3, .int (nI 3)), (4, .int (nI 1)), (5, .int (nI (wyR nv (nI K) K (nI p) (nI x) P 3 row))), (7, .int (nI i))] (dk dtX6_odds_0 45 rfl) (by decide) rfl ?_
          refine g_iinc F 7 (nI (i + 1)) [(7, .int (nI (i + 1))), (6, .int (nI ((K ^ i) * K))), (0, .ref (B + 0)), (1, .int (nI p)), (2, .int (nI x)), (3, .int (nI 3)), (4, .int (nI 1)), (5, .int (nI (wyR nv (nI K) K (nI p) (nI x) P 3 row)))] (dk dtX6_odds_0 46 rfl) rfl (nI_1 _) (by decide) rfl ?_
          refine g_goto F 69 (dk dtX6_odds_0 47 rfl) (by decide) ?_
          refine g_sub [2, 3, 4, 5, 6, 7, 1, 0] (L1 := [(0, .ref (B + 0)), (1, .int (nI p)), (2, .int (nI x)), (3, .int (nI 3)), (4, .int (nI 1)), (5, .int (nI (wyR nv (nI K) K (nI p) (nI x) P 3 row))), (6, .int (nI ((K ^ i) * K))), (7, .int (nI (i + 1)))]) rfl ?_
          have eq69_6 : (nI ((K ^ i) * K) : Int32) = nI (K ^ (i + 1)) := by
            rfl
          refine g_st (M1 := M58) (L1 := [(0, .ref (B + 0)), (1, .int (nI p)), (2, .int (nI x)), (3, .int (nI 3)), (4, .int (nI 1)), (5, .int (nI (wyR nv (nI K) K (nI p) (nI x) P 3 row))), (6, .int (nI (K ^ (i + 1)))), (7, .int (nI (i + 1)))]) rfl (lc rfl (lc rfl (lc rfl (lc rfl (lc rfl (lc rfl (lc (vi eq69_6) (lc rfl rfl)))))))) rfl ?_
          exact ih69 (i + 1) (by omega) (by omega)
    refine g_sub [3, 4, 5, 6, 7, 2, 1, 0] (L1 := [(0, .ref (B + 0)), (1, .int (nI p)), (2, .int (nI x)), (3, .int (nI 3)), (4, .int (nI 1)), (5, .int (nI (wyR nv (nI K) K (nI p) (nI x) P 3 row))), (6, .int (nI 1)), (7, .int (nI 0))]) rfl ?_
    exact lp69 4 0 (by omega) (by omega)
set_option maxRecDepth 100000 in
set_option maxHeartbeats 4000000 in
theorem k_X6_odds_4_0 (l : Launch) (D : DX) (B : Nat) (T : Int64) (M : Mem) (P : Nat) (hP : M 10 2 = nI P) (hP5 : P ≤ 5) (K : Nat) (hK : M 10 0 = nI K) (hK1 : 1 ≤ K) (hK4 : K ≤ 4) (X : Nat) (hX : M 10 1 = nI X) (hX1 : 1 ≤ X) (hX4 : X ≤ 4) (row nv : Nat → Int32) (hR : NR M 12 row) (hW : WR row) (hM : MW row) (hv : ∀ p, p < P → M 11 p = nv p) (p x : Nat) (hp : p < P) (hx : x < X)  : Ci l D B 108 (celC D B) yX6_odds cX6_odds 8 (some .int) 10 [.ref (B + 0), .int (nI p), .int (nI x), .int (nI 4), .int (nI 0)] T M (fun rz T1 M1 => rz = nI (wyR nv (nI K) K (nI p) (nI x) P 4 row / Nat.gcd (wyR nv (nI K) K (nI p) (nI x) P 4 row) (K ^ 4)) ∧ T1 = T ∧ Sc M M1) := by
  refine g_entryi (L := [(0, .ref (B + 0)), (1, .int (nI p)), (2, .int (nI x)), (3, .int (nI 4)), (4, .int (nI 0))]) (by decide) (Nat.le_of_ble_eq_true rfl) rfl ?_
  intro zp ze zs zm zb zt zc Q F hQ
  refine g_aload_n F 0 (dk dtX6_odds_0 0 rfl) rfl ?_
  refine g_get F fa_X6_19 (dk dtX6_odds_0 1 rfl) (by decide) (cc0 D B _ _) rfl ?_
  refine g_iload_n F 1 (dk dtX6_odds_0 2 rfl) rfl ?_
  refine g_callVi F (As := [.int (nI p)]) (st := []) cv_X6_94 (dk dtX6_odds_0 3 rfl) (by decide) (cc10 D B _ _) rfl rfl (Nat.le_of_ble_eq_true rfl) ⟨by decide, by decide⟩ (k_X5_hasPersonR l D B _ _ _ P hP) (fun r5 T5 M5 hp5 => ?_)
  obtain ⟨e1, e2, e3⟩ := hp5
  replace e1 := e1.symm; replace e2 := e2.symm; replace e3 := e3.symm; subst e1; subst e2; subst e3
  refine g_if_eqB F 22 (dk dtX6_odds_0 4 rfl) (by decide) (fun c => absurd (inR_nI (by omega)) c) (fun _ => ?_)
  refine g_aload_n F 0 (dk dtX6_odds_0 5 rfl) rfl ?_
  refine g_get F fa_X6_19 (dk dtX6_odds_0 6 rfl) (by decide) (cc0 D B _ _) rfl ?_
  refine g_iload_n F 2 (dk dtX6_odds_0 7 rfl) rfl ?_
  refine g_callVi F (As := [.int (nI x)]) (st := []) cv_X6_132 (dk dtX6_odds_0 8 rfl) (by decide) (cc10 D B _ _) rfl rfl (Nat.le_of_ble_eq_true rfl) ⟨by decide, by decide⟩ (k_X5_hasPlaceR l D B _ _ _ X hX) (fun r16 T16 M16 hp16 => ?_)
  obtain ⟨e1, e2, e3⟩ := hp16
  replace e1 := e1.symm; replace e2 := e2.symm; replace e3 := e3.symm; subst e1; subst e2; subst e3
  refine g_if_neB F 24 (dk dtX6_odds_0 9 rfl) (by decide) (fun _ => ?_) (fun c => absurd (inR_nI (by omega)) c)
  refine g_iload_n F 3 (dk dtX6_odds_0 12 rfl) rfl ?_
  refine g_if_lt F 41 (dk dtX6_odds_0 13 rfl) (by decide) (fun c25 => ?_) (fun c25 => ?_)
  · -- taken at 25
    exact absurd c25 (by decide)
  · -- not taken at 25
    refine g_iload_n F 3 (dk dtX6_odds_0 14 rfl) rfl ?_
    refine g_iconst F (nI 4) (dk dtX6_odds_0 15 rfl) (by decide) ?_
    refine g_icmp_gtN F 41 (dk dtX6_odds_0 16 rfl) (by decide) (by decide) (by decide) (fun c => absurd c (by decide)) (fun _ => ?_)
    refine g_iload F 4 (dk dtX6_odds_0 17 rfl) rfl ?_
    refine g_callSi F (As := [.int (nI 0)]) (st := []) cs_X6_158 (dk dtX6_odds_0 18 rfl) rfl rfl (Nat.le_of_ble_eq_true rfl) ⟨by decide, by decide⟩ (k_X6_isBit l D B _ _ _) (fun r35 T35 M35 hp35 => ?_)
    obtain ⟨e1, e2, e3⟩ := hp35
    replace e1 := e1.symm; replace e2 := e2.symm; replace e3 := e3.symm; subst e1; subst e2; subst e3
    refine g_if_neB F 43 (dk dtX6_odds_0 19 rfl) (by decide) (fun _ => ?_) (fun c => absurd (inR_nI (by omega)) c)
    refine g_aload_n F 0 (dk dtX6_odds_0 22 rfl) rfl ?_
    refine g_get F fa_X6_40 (dk dtX6_odds_0 23 rfl) (by decide) (cc0 D B _ _) rfl ?_
    refine g_aload_n F 0 (dk dtX6_odds_0 24 rfl) rfl ?_
    refine g_get F fa_X6_19 (dk dtX6_odds_0 25 rfl) (by decide) (cc0 D B _ _) rfl ?_
    refine g_aload_n F 0 (dk dtX6_odds_0 26 rfl) rfl ?_
    refine g_get F fa_X6_26 (dk dtX6_odds_0 27 rfl) (by decide) (cc0 D B _ _) rfl ?_
    refine g_iload_n F 1 (dk dtX6_odds_0 28 rfl) rfl ?_
    refine g_iload_n F 2 (dk dtX6_odds_0 29 rfl) rfl ?_
    refine g_iload_n F 3 (dk dtX6_odds_0 30 rfl) rfl ?_
    refine g_callVi F (As := [.ref (B + 10), .ref (B + 12), .int (nI p), .int (nI x), .int (nI 4)]) (st := []) cv_X6_168 (dk dtX6_odds_0 31 rfl) (by decide) (cc69 D B _ _) rfl rfl (Nat.le_of_ble_eq_true rfl) ⟨by decide, by decide⟩ (k_X0_ways_4 l D B _ _ row nv hR hW hM K P hK hP hK1 hK4 hP5 hv p hp (nI x)) (fun r58 T58 M58 hp58 => ?_)
    obtain ⟨hr58, hT58, hS58⟩ := hp58
    replace hT58 := hT58.symm; subst hT58; replace hr58 := hr58.symm; subst hr58
    have hK58 : M58 10 0 = nI K := by rw [hS58 10 (by decide)]; exact hK
    refine g_istore F [(5, .int (nI (wyR nv (nI K) K (nI p) (nI x) P 4 row))), (0, .ref (B + 0)), (1, .int (nI p)), (2, .int (nI x)), (3, .int (nI 4)), (4, .int (nI 0))] (dk dtX6_odds_0 32 rfl) (by decide) rfl ?_
    refine g_iconst F (nI 1) (dk dtX6_odds_0 33 rfl) (by decide) ?_
    refine g_istore F [(6, .int (nI 1)), (5, .int (nI (wyR nv (nI K) K (nI p) (nI x) P 4 row))), (0, .ref (B + 0)), (1, .int (nI p)), (2, .int (nI x)), (3, .int (nI 4)), (4, .int (nI 0))] (dk dtX6_odds_0 34 rfl) (by decide) rfl ?_
    refine g_iconst F (nI 0) (dk dtX6_odds_0 35 rfl) (by decide) ?_
    refine g_istore F [(7, .int (nI 0)), (6, .int (nI 1)), (5, .int (nI (wyR nv (nI K) K (nI p) (nI x) P 4 row))), (0, .ref (B + 0)), (1, .int (nI p)), (2, .int (nI x)), (3, .int (nI 4)), (4, .int (nI 0))] (dk dtX6_odds_0 36 rfl) (by decide) rfl ?_
    have lp69 : ∀ (fz : Nat) (i : Nat), i ≤ 4 → (4 - i) < fz → G zp l ze { frames := 10, cells := 0, slots := 0, locals := 40 * 10 } zs zm [.ref (B + 0), .int (nI p), .int (nI x), .int (nI 4), .int (nI 0)].toArray zb zt zc 8 D B 108 (celC D B) Q T M58 69 [(0, .ref (B + 0)), (1, .int (nI p)), (2, .int (nI x)), (3, .int (nI 4)), (4, .int (nI 0)), (5, .int (nI (wyR nv (nI K) K (nI p) (nI x) P 4 row))), (6, .int (nI (K ^ i))), (7, .int (nI i))] [] := by
      intro n69
      induction n69 with
      | zero => intro i hI hn; exact absurd hn (Nat.not_lt_zero _)
      | succ n69 ih69 =>
        intro i hI69 hn69
        refine g_iload F 7 (dk dtX6_odds_0 37 rfl) rfl ?_
        refine g_iload_n F 3 (dk dtX6_odds_0 38 rfl) rfl ?_
        refine g_icmp_geN F 93 (dk dtX6_odds_0 39 rfl) (by decide) (by omega) (by omega) (fun c72 => ?_) (fun c72 => ?_)
        · -- taken at 72
          obtain rfl : 4 = i := by omega
          have hwl := wy_le nv (nI K) K (nI p) (nI x) P 4 row
          have hkn := kn_le (K := K) (n := 4) hK4 (by decide)
          have hkp : 0 < K ^ 4 := Nat.pow_pos hK1
          have hgp := Nat.gcd_pos_of_pos_right (wyR nv (nI K) K (nI p) (nI x) P 4 row) hkp
          have hgl := Nat.le_of_dvd hkp (Nat.gcd_dvd_right (wyR nv (nI K) K (nI p) (nI x) P 4 row) (K ^ 4))
          refine g_iconst F (nI 1) (dk dtX6_odds_0 48 rfl) (by decide) ?_
          refine g_iload F 5 (dk dtX6_odds_0 49 rfl) rfl ?_
          refine g_iload F 6 (dk dtX6_odds_0 50 rfl) rfl ?_
          refine g_callSi F (As := [.int (nI (wyR nv (nI K) K (nI p) (nI x) P 4 row)), .int (nI (K ^ 4))]) (st := [.int (nI 1)]) cs_X6_175 (dk dtX6_odds_0 51 rfl) rfl rfl (Nat.le_of_ble_eq_true rfl) ⟨by decide, by decide⟩ (k_X6_commonDivisor l D B _ _ (wyR nv (nI K) K (nI p) (nI x) P 4 row) (K ^ 4) (by omega) (by omega)) (fun r98 T98 M98 hp98 => ?_)
          obtain ⟨e1, e2, e3⟩ := hp98
          replace e1 := e1.symm; replace e2 := e2.symm; replace e3 := e3.symm; subst e1; subst e2; subst e3
          refine g_mmax F (tw2 232 rfl) (dk dtX6_odds_0 52 rfl) (Nat.le_of_ble_eq_true rfl) (Nat.le_of_ble_eq_true rfl) ?_
          refine g_top (mx_1 hgp (by omega)) ?_
          refine g_istore F [(7, .int (nI (Nat.gcd (wyR nv (nI K) K (nI p) (nI x) P 4 row) (K ^ 4)))), (0, .ref (B + 0)), (1, .int (nI p)), (2, .int (nI x)), (3, .int (nI 4)), (4, .int (nI 0)), (5, .int (nI (wyR nv (nI K) K (nI p) (nI x) P 4 row))), (6, .int (nI (K ^ 4)))] (dk dtX6_odds_0 53 rfl) (by decide) rfl ?_
          refine g_iload F 5 (dk dtX6_odds_0 54 rfl) rfl ?_
          refine g_if_neN F 116 (dk dtX6_odds_0 55 rfl) (by decide) (by decide) (fun c => absurd c (by decide)) (fun _ => ?_)
          refine g_iload F 6 (dk dtX6_odds_0 56 rfl) rfl ?_
          refine g_goto F 118 (dk dtX6_odds_0 57 rfl) (by decide) ?_
          refine g_iload F 0 (dk dtX6_odds_0 59 rfl) rfl ?_
          refine g_idivN F (dk dtX6_odds_1 0 rfl) (by omega) (by omega) (by omega) ?_
          refine g_iret (F := F) hQ (dk dtX6_odds_1 1 rfl) ?_
          exact ⟨rfl, rfl, hS58⟩
        · -- not taken at 72
          refine g_iload F 6 (dk dtX6_odds_0 40 rfl) rfl ?_
          refine g_aload_n F 0 (dk dtX6_odds_0 41 rfl) rfl ?_
          refine g_get F fa_X6_19 (dk dtX6_odds_0 42 rfl) (by decide) (cc0 D B _ _) rfl ?_
          refine g_get F fa_X6_172 (dk dtX6_odds_0 43 rfl) (by decide) (cc10 D B _ _) rfl ?_
          refine g_top hK58 ?_
          refine g_imulN F (dk dtX6_odds_0 44 rfl) ?_
          refine g_istore F [(6, .int (nI ((K ^ i) * K))), (0, .ref (B + 0)), (1, .int (nI p)), (2, .int (nI x)), (3, .int (nI 4)), (4, .int (nI 0)), (5, .int (nI (wyR nv (nI K) K (nI p) (nI x) P 4 row))), (7, .int (nI i))] (dk dtX6_odds_0 45 rfl) (by decide) rfl ?_
          refine g_iinc F 7 (nI (i + 1)) [(7, .int (nI (i + 1))), (6, .int (nI ((K ^ i) * K))), (0, .ref (B + 0)), (1, .int (nI p)), (2, .int (nI x)), (3, .int (nI 4)), (4, .int (nI 0)), (5, .int (nI (wyR nv (nI K) K (nI p) (nI x) P 4 row)))] (dk dtX6_odds_0 46 rfl) rfl (nI_1 _) (by decide) rfl ?_
          refine g_goto F 69 (dk dtX6_odds_0 47 rfl) (by decide) ?_
          refine g_sub [2, 3, 4, 5, 6, 7, 1, 0] (L1 := [(0, .ref (B + 0)), (1, .int (nI p)), (2, .int (nI x)), (3, .int (nI 4)), (4, .int (nI 0)), (5, .int (nI (wyR nv (nI K) K (nI p) (nI x) P 4 row))), (6, .int (nI ((K ^ i) * K))), (7, .int (nI (i + 1)))]) rfl ?_
          have eq69_6 : (nI ((K ^ i) * K) : Int32) = nI (K ^ (i + 1)) := by
            rfl
          refine g_st (M1 := M58) (L1 := [(0, .ref (B + 0)), (1, .int (nI p)), (2, .int (nI x)), (3, .int (nI 4)), (4, .int (nI 0)), (5, .int (nI (wyR nv (nI K) K (nI p) (nI x) P 4 row))), (6, .int (nI (K ^ (i + 1)))), (7, .int (nI (i + 1)))]) rfl (lc rfl (lc rfl (lc rfl (lc rfl (lc rfl (lc rfl (lc (vi eq69_6) (lc rfl rfl)))))))) rfl ?_
          exact ih69 (i + 1) (by omega) (by omega)
    refine g_sub [3, 4, 5, 6, 7, 2, 1, 0] (L1 := [(0, .ref (B + 0)), (1, .int (nI p)), (2, .int (nI x)), (3, .int (nI 4)), (4, .int (nI 0)), (5, .int (nI (wyR nv (nI K) K (nI p) (nI x) P 4 row))), (6, .int (nI 1)), (7, .int (nI 0))]) rfl ?_
    exact lp69 5 0 (by omega) (by omega)
set_option maxRecDepth 100000 in
set_option maxHeartbeats 4000000 in
theorem k_X6_odds_4_1 (l : Launch) (D : DX) (B : Nat) (T : Int64) (M : Mem) (P : Nat) (hP : M 10 2 = nI P) (hP5 : P ≤ 5) (K : Nat) (hK : M 10 0 = nI K) (hK1 : 1 ≤ K) (hK4 : K ≤ 4) (X : Nat) (hX : M 10 1 = nI X) (hX1 : 1 ≤ X) (hX4 : X ≤ 4) (row nv : Nat → Int32) (hR : NR M 12 row) (hW : WR row) (hM : MW row) (hv : ∀ p, p < P → M 11 p = nv p) (p x : Nat) (hp : p < P) (hx : x < X)  : Ci l D B 108 (celC D B) yX6_odds cX6_odds 8 (some .int) 10 [.ref (B + 0), .int (nI p), .int (nI x), .int (nI 4), .int (nI 1)] T M (fun rz T1 M1 => rz = nI (K ^ 4 / Nat.gcd (wyR nv (nI K) K (nI p) (nI x) P 4 row) (K ^ 4)) ∧ T1 = T ∧ Sc M M1) := by
  refine g_entryi (L := [(0, .ref (B + 0)), (1, .int (nI p)), (2, .int (nI x)), (3, .int (nI 4)), (4, .int (nI 1))]) (by decide) (Nat.le_of_ble_eq_true rfl) rfl ?_
  intro zp ze zs zm zb zt zc Q F hQ
  refine g_aload_n F 0 (dk dtX6_odds_0 0 rfl) rfl ?_
  refine g_get F fa_X6_19 (dk dtX6_odds_0 1 rfl) (by decide) (cc0 D B _ _) rfl ?_
  refine g_iload_n F 1 (dk dtX6_odds_0 2 rfl) rfl ?_
  refine g_callVi F (As := [.int (nI p)]) (st := []) cv_X6_94 (dk dtX6_odds_0 3 rfl) (by decide) (cc10 D B _ _) rfl rfl (Nat.le_of_ble_eq_true rfl) ⟨by decide, by decide⟩ (k_X5_hasPersonR l D B _ _ _ P hP) (fun r5 T5 M5 hp5 => ?_)
  obtain ⟨e1, e2, e3⟩ := hp5
  replace e1 := e1.symm; replace e2 := e2.symm; replace e3 := e3.symm; subst e1; subst e2; subst e3
  refine g_if_eqB F 22 (dk dtX6_odds_0 4 rfl) (by decide) (fun c => absurd (inR_nI (by omega)) c) (fun _ => ?_)
  refine g_aload_n F 0 (dk dtX6_odds_0 5 rfl) rfl ?_
  refine g_get F fa_X6_19 (dk dtX6_odds_0 6 rfl) (by decide) (cc0 D B _ _) rfl ?_
  refine g_iload_n F 2 (dk dtX6_odds_0 7 rfl) rfl ?_
  refine g_callVi F (As := [.int (nI x)]) (st := []) cv_X6_132 (dk dtX6_odds_0 8 rfl) (by decide) (cc10 D B _ _) rfl rfl (Nat.le_of_ble_eq_true rfl) ⟨by decide, by decide⟩ (k_X5_hasPlaceR l D B _ _ _ X hX) (fun r16 T16 M16 hp16 => ?_)
  obtain ⟨e1, e2, e3⟩ := hp16
  replace e1 := e1.symm; replace e2 := e2.symm; replace e3 := e3.symm; subst e1; subst e2; subst e3
  refine g_if_neB F 24 (dk dtX6_odds_0 9 rfl) (by decide) (fun _ => ?_) (fun c => absurd (inR_nI (by omega)) c)
  refine g_iload_n F 3 (dk dtX6_odds_0 12 rfl) rfl ?_
  refine g_if_lt F 41 (dk dtX6_odds_0 13 rfl) (by decide) (fun c25 => ?_) (fun c25 => ?_)
  · -- taken at 25
    exact absurd c25 (by decide)
  · -- not taken at 25
    refine g_iload_n F 3 (dk dtX6_odds_0 14 rfl) rfl ?_
    refine g_iconst F (nI 4) (dk dtX6_odds_0 15 rfl) (by decide) ?_
    refine g_icmp_gtN F 41 (dk dtX6_odds_0 16 rfl) (by decide) (by decide) (by decide) (fun c => absurd c (by decide)) (fun _ => ?_)
    refine g_iload F 4 (dk dtX6_odds_0 17 rfl) rfl ?_
    refine g_callSi F (As := [.int (nI 1)]) (st := []) cs_X6_158 (dk dtX6_odds_0 18 rfl) rfl rfl (Nat.le_of_ble_eq_true rfl) ⟨by decide, by decide⟩ (k_X6_isBit l D B _ _ _) (fun r35 T35 M35 hp35 => ?_)
    obtain ⟨e1, e2, e3⟩ := hp35
    replace e1 := e1.symm; replace e2 := e2.symm; replace e3 := e3.symm; subst e1; subst e2; subst e3
    refine g_if_neB F 43 (dk dtX6_odds_0 19 rfl) (by decide) (fun _ => ?_) (fun c => absurd (inR_nI (by omega)) c)
    refine g_aload_n F 0 (dk dtX6_odds_0 22 rfl) rfl ?_
    refine g_get F fa_X6_40 (dk dtX6_odds_0 23 rfl) (by decide) (cc0 D B _ _) rfl ?_
    refine g_aload_n F 0 (dk dtX6_odds_0 24 rfl) rfl ?_
    refine g_get F fa_X6_19 (dk dtX6_odds_0 25 rfl) (by decide) (cc0 D B _ _) rfl ?_
    refine g_aload_n F 0 (dk dtX6_odds_0 26 rfl) rfl ?_
    refine g_get F fa_X6_26 (dk dtX6_odds_0 27 rfl) (by decide) (cc0 D B _ _) rfl ?_
    refine g_iload_n F 1 (dk dtX6_odds_0 28 rfl) rfl ?_
    refine g_iload_n F 2 (dk dtX6_odds_0 29 rfl) rfl ?_
    refine g_iload_n F 3 (dk dtX6_odds_0 30 rfl) rfl ?_
    refine g_callVi F (As := [.ref (B + 10), .ref (B + 12), .int (nI p), .int (nI x), .int (nI 4)]) (st := []) cv_X6_168 (dk dtX6_odds_0 31 rfl) (by decide) (cc69 D B _ _) rfl rfl (Nat.le_of_ble_eq_true rfl) ⟨by decide, by decide⟩ (k_X0_ways_4 l D B _ _ row nv hR hW hM K P hK hP hK1 hK4 hP5 hv p hp (nI x)) (fun r58 T58 M58 hp58 => ?_)
    obtain ⟨hr58, hT58, hS58⟩ := hp58
    replace hT58 := hT58.symm; subst hT58; replace hr58 := hr58.symm; subst hr58
    have hK58 : M58 10 0 = nI K := by rw [hS58 10 (by decide)]; exact hK
    refine g_istore F [(5, .int (nI (wyR nv (nI K) K (nI p) (nI x) P 4 row))), (0, .ref (B + 0)), (1, .int (nI p)), (2, .int (nI x)), (3, .int (nI 4)), (4, .int (nI 1))] (dk dtX6_odds_0 32 rfl) (by decide) rfl ?_
    refine g_iconst F (nI 1) (dk dtX6_odds_0 33 rfl) (by decide) ?_
    refine g_istore F [(6, .int (nI 1)), (5, .int (nI (wyR nv (nI K) K (nI p) (nI x) P 4 row))), (0, .ref (B + 0)), (1, .int (nI p)), (2, .int (nI x)), (3, .int (nI 4)), (4, .int (nI 1))] (dk dtX6_odds_0 34 rfl) (by decide) rfl ?_
    refine g_iconst F (nI 0) (dk dtX6_odds_0 35 rfl) (by decide) ?_
    refine g_istore F [(7, .int (nI 0)), (6, .int (nI 1)), (5, .int (nI (wyR nv (nI K) K (nI p) (nI x) P 4 row))), (0, .ref (B + 0)), (1, .int (nI p)), (2, .int (nI x)), (3, .int (nI 4)), (4, .int (nI 1))] (dk dtX6_odds_0 36 rfl) (by decide) rfl ?_
    have lp69 : ∀ (fz : Nat) (i : Nat), i ≤ 4 → (4 - i) < fz → G zp l ze { frames := 10, cells := 0, slots := 0, locals := 40 * 10 } zs zm [.ref (B + 0), .int (nI p), .int (nI x), .int (nI 4), .int (nI 1)].toArray zb zt zc 8 D B 108 (celC D B) Q T M58 69 [(0, .ref (B + 0)), (1, .int (nI p)), (2, .int (nI x)), (3, .int (nI 4)), (4, .int (nI 1)), (5, .int (nI (wyR nv (nI K) K (nI p) (nI x) P 4 row))), (6, .int (nI (K ^ i))), (7, .int (nI i))] [] := by
      intro n69
      induction n69 with
      | zero => intro i hI hn; exact absurd hn (Nat.not_lt_zero _)
      | succ n69 ih69 =>
        intro i hI69 hn69
        refine g_iload F 7 (dk dtX6_odds_0 37 rfl) rfl ?_
        refine g_iload_n F 3 (dk dtX6_odds_0 38 rfl) rfl ?_
        refine g_icmp_geN F 93 (dk dtX6_odds_0 39 rfl) (by decide) (by omega) (by omega) (fun c72 => ?_) (fun c72 => ?_)
        · -- taken at 72
          obtain rfl : 4 = i := by omega
          have hwl := wy_le nv (nI K) K (nI p) (nI x) P 4 row
          have hkn := kn_le (K := K) (n := 4) hK4 (by decide)
          have hkp : 0 < K ^ 4 := Nat.pow_pos hK1
          have hgp := Nat.gcd_pos_of_pos_right (wyR nv (nI K) K (nI p) (nI x) P 4 row) hkp
          have hgl := Nat.le_of_dvd hkp (Nat.gcd_dvd_right (wyR nv (nI K) K (nI p) (nI x) P 4 row) (K ^ 4))
          refine g_iconst F (nI 1) (dk dtX6_odds_0 48 rfl) (by decide) ?_
          refine g_iload F 5 (dk dtX6_odds_0 49 rfl) rfl ?_
          refine g_iload F 6 (dk dtX6_odds_0 50 rfl) rfl ?_
          refine g_callSi F (As := [.int (nI (wyR nv (nI K) K (nI p) (nI x) P 4 row)), .int (nI (K ^ 4))]) (st := [.int (nI 1)]) cs_X6_175 (dk dtX6_odds_0 51 rfl) rfl rfl (Nat.le_of_ble_eq_true rfl) ⟨by decide, by decide⟩ (k_X6_commonDivisor l D B _ _ (wyR nv (nI K) K (nI p) (nI x) P 4 row) (K ^ 4) (by omega) (by omega)) (fun r98 T98 M98 hp98 => ?_)
          obtain ⟨e1, e2, e3⟩ := hp98
          replace e1 := e1.symm; replace e2 := e2.symm; replace e3 := e3.symm; subst e1; subst e2; subst e3
          refine g_mmax F (tw2 232 rfl) (dk dtX6_odds_0 52 rfl) (Nat.le_of_ble_eq_true rfl) (Nat.le_of_ble_eq_true rfl) ?_
          refine g_top (mx_1 hgp (by omega)) ?_
          refine g_istore F [(7, .int (nI (Nat.gcd (wyR nv (nI K) K (nI p) (nI x) P 4 row) (K ^ 4)))), (0, .ref (B + 0)), (1, .int (nI p)), (2, .int (nI x)), (3, .int (nI 4)), (4, .int (nI 1)), (5, .int (nI (wyR nv (nI K) K (nI p) (nI x) P 4 row))), (6, .int (nI (K ^ 4)))] (dk dtX6_odds_0 53 rfl) (by decide) rfl ?_
          refine g_iload F 5 (dk dtX6_odds_0 54 rfl) rfl ?_
          refine g_if_neN F 116 (dk dtX6_odds_0 55 rfl) (by decide) (by decide) (fun _ => ?_) (fun c => absurd c (by decide))
          refine g_iload F 7 (dk dtX6_odds_0 58 rfl) rfl ?_
          refine g_iload F 0 (dk dtX6_odds_0 59 rfl) rfl ?_
          refine g_idivN F (dk dtX6_odds_1 0 rfl) (by omega) (by omega) (by omega) ?_
          refine g_iret (F := F) hQ (dk dtX6_odds_1 1 rfl) ?_
          exact ⟨rfl, rfl, hS58⟩
        · -- not taken at 72
          refine g_iload F 6 (dk dtX6_odds_0 40 rfl) rfl ?_
          refine g_aload_n F 0 (dk dtX6_odds_0 41 rfl) rfl ?_
          refine g_get F fa_X6_19 (dk dtX6_odds_0 42 rfl) (by decide) (cc0 D B _ _) rfl ?_
          refine g_get F fa_X6_172 (dk dtX6_odds_0 43 rfl) (by decide) (cc10 D B _ _) rfl ?_
          refine g_top hK58 ?_
          refine g_imulN F (dk dtX6_odds_0 44 rfl) ?_
          refine g_istore F [(6, .int (nI ((K ^ i) * K))), (0, .ref (B + 0)), (1, .int (nI p)), (2, .int (nI x)), (3, .int (nI 4)), (4, .int (nI 1)), (5, .int (nI (wyR nv (nI K) K (nI p) (nI x) P 4 row))), (7, .int (nI i))] (dk dtX6_odds_0 45 rfl) (by decide) rfl ?_
          refine g_iinc F 7 (nI (i + 1)) [(7, .int (nI (i + 1))), (6, .int (nI ((K ^ i) * K))), (0, .ref (B + 0)), (1, .int (nI p)), (2, .int (nI x)), (3, .int (nI 4)), (4, .int (nI 1)), (5, .int (nI (wyR nv (nI K) K (nI p) (nI x) P 4 row)))] (dk dtX6_odds_0 46 rfl) rfl (nI_1 _) (by decide) rfl ?_
          refine g_goto F 69 (dk dtX6_odds_0 47 rfl) (by decide) ?_
          refine g_sub [2, 3, 4, 5, 6, 7, 1, 0] (L1 := [(0, .ref (B + 0)), (1, .int (nI p)), (2, .int (nI x)), (3, .int (nI 4)), (4, .int (nI 1)), (5, .int (nI (wyR nv (nI K) K (nI p) (nI x) P 4 row))), (6, .int (nI ((K ^ i) * K))), (7, .int (nI (i + 1)))]) rfl ?_
          have eq69_6 : (nI ((K ^ i) * K) : Int32) = nI (K ^ (i + 1)) := by
            rfl
          refine g_st (M1 := M58) (L1 := [(0, .ref (B + 0)), (1, .int (nI p)), (2, .int (nI x)), (3, .int (nI 4)), (4, .int (nI 1)), (5, .int (nI (wyR nv (nI K) K (nI p) (nI x) P 4 row))), (6, .int (nI (K ^ (i + 1)))), (7, .int (nI (i + 1)))]) rfl (lc rfl (lc rfl (lc rfl (lc rfl (lc rfl (lc rfl (lc (vi eq69_6) (lc rfl rfl)))))))) rfl ?_
          exact ih69 (i + 1) (by omega) (by omega)
    refine g_sub [3, 4, 5, 6, 7, 2, 1, 0] (L1 := [(0, .ref (B + 0)), (1, .int (nI p)), (2, .int (nI x)), (3, .int (nI 4)), (4, .int (nI 1)), (5, .int (nI (wyR nv (nI K) K (nI p) (nI x) P 4 row))), (6, .int (nI 1)), (7, .int (nI 0))]) rfl ?_
    exact lp69 5 0 (by omega) (by omega)
set_option maxRecDepth 100000 in
set_option maxHeartbeats 4000000 in
theorem k_X6_odds_bad (l : Launch) (D : DX) (B : Nat) (T : Int64) (M : Mem) (P : Nat) (hP : M 10 2 = nI P) (hP5 : P ≤ 5) (X : Nat) (hX : M 10 1 = nI X) (hX1 : 1 ≤ X) (hX4 : X ≤ 4) (p x n w : Int32) (hb : ¬ (inR p P ∧ inR x X ∧ inR n 5 ∧ inR w 2)) : Ci l D B 108 (celC D B) yX6_odds cX6_odds 8 (some .int) 10 [.ref (B + 0), .int p, .int x, .int n, .int w] T M (fun rz T1 M1 => rz = (-1) ∧ T1 = T ∧ M1 = M) := by
  refine g_entryi (L := [(0, .ref (B + 0)), (1, .int p), (2, .int x), (3, .int n), (4, .int w)]) (by decide) (Nat.le_of_ble_eq_true rfl) rfl ?_
  intro zp ze zs zm zb zt zc Q F hQ
  refine g_aload_n F 0 (dk dtX6_odds_0 0 rfl) rfl ?_
  refine g_get F fa_X6_19 (dk dtX6_odds_0 1 rfl) (by decide) (cc0 D B _ _) rfl ?_
  refine g_iload_n F 1 (dk dtX6_odds_0 2 rfl) rfl ?_
  refine g_callVi F (As := [.int p]) (st := []) cv_X6_94 (dk dtX6_odds_0 3 rfl) (by decide) (cc10 D B _ _) rfl rfl (Nat.le_of_ble_eq_true rfl) ⟨by decide, by decide⟩ (k_X5_hasPersonR l D B _ _ _ P hP) (fun r5 T5 M5 hp5 => ?_)
  obtain ⟨e1, e2, e3⟩ := hp5
  replace e1 := e1.symm; replace e2 := e2.symm; replace e3 := e3.symm; subst e1; subst e2; subst e3
  refine g_if_eqB F 22 (dk dtX6_odds_0 4 rfl) (by decide) (fun c8 => ?_) (fun c8 => ?_)
  · -- taken at 8
    refine g_iconst F (-1) (dk dtX6_odds_0 10 rfl) (by decide) ?_
    refine g_iret (F := F) hQ (dk dtX6_odds_0 11 rfl) ?_
    exact ⟨rfl, rfl, rfl⟩
  · -- not taken at 8
    refine g_aload_n F 0 (dk dtX6_odds_0 5 rfl) rfl ?_
    refine g_get F fa_X6_19 (dk dtX6_odds_0 6 rfl) (by decide) (cc0 D B _ _) rfl ?_
    refine g_iload_n F 2 (dk dtX6_odds_0 7 rfl) rfl ?_
    refine g_callVi F (As := [.int x]) (st := []) cv_X6_132 (dk dtX6_odds_0 8 rfl) (by decide) (cc10 D B _ _) rfl rfl (Nat.le_of_ble_eq_true rfl) ⟨by decide, by decide⟩ (k_X5_hasPlaceR l D B _ _ _ X hX) (fun r16 T16 M16 hp16 => ?_)
    obtain ⟨e1, e2, e3⟩ := hp16
    replace e1 := e1.symm; replace e2 := e2.symm; replace e3 := e3.symm; subst e1; subst e2; subst e3
    refine g_if_neB F 24 (dk dtX6_odds_0 9 rfl) (by decide) (fun c19 => ?_) (fun c19 => ?_)
    · -- taken at 19
      refine g_iload_n F 3 (dk dtX6_odds_0 12 rfl) rfl ?_
      refine g_if_lt F 41 (dk dtX6_odds_0 13 rfl) (by decide) (fun c25 => ?_) (fun c25 => ?_)
      · -- taken at 25
        refine g_iconst F (-1) (dk dtX6_odds_0 20 rfl) (by decide) ?_
        refine g_iret (F := F) hQ (dk dtX6_odds_0 21 rfl) ?_
        exact ⟨rfl, rfl, rfl⟩
      · -- not taken at 25
        refine g_iload_n F 3 (dk dtX6_odds_0 14 rfl) rfl ?_
        refine g_iconst F (nI 4) (dk dtX6_odds_0 15 rfl) (by decide) ?_
        refine g_icmp_gt F 41 (dk dtX6_odds_0 16 rfl) (by decide) (fun c30 => ?_) (fun c30 => ?_)
        · -- taken at 30
          refine g_iconst F (-1) (dk dtX6_odds_0 20 rfl) (by decide) ?_
          refine g_iret (F := F) hQ (dk dtX6_odds_0 21 rfl) ?_
          exact ⟨rfl, rfl, rfl⟩
        · -- not taken at 30
          refine g_iload F 4 (dk dtX6_odds_0 17 rfl) rfl ?_
          refine g_callSi F (As := [.int w]) (st := []) cs_X6_158 (dk dtX6_odds_0 18 rfl) rfl rfl (Nat.le_of_ble_eq_true rfl) ⟨by decide, by decide⟩ (k_X6_isBit l D B _ _ _) (fun r35 T35 M35 hp35 => ?_)
          obtain ⟨e1, e2, e3⟩ := hp35
          replace e1 := e1.symm; replace e2 := e2.symm; replace e3 := e3.symm; subst e1; subst e2; subst e3
          refine g_if_neB F 43 (dk dtX6_odds_0 19 rfl) (by decide) (fun c38 => ?_) (fun c38 => ?_)
          · -- taken at 38
            exact absurd ⟨c8, c19, ⟨c25, inR_dn (b := 4) (by decide) c30⟩, c38⟩ hb
          · -- not taken at 38
            refine g_iconst F (-1) (dk dtX6_odds_0 20 rfl) (by decide) ?_
            refine g_iret (F := F) hQ (dk dtX6_odds_0 21 rfl) ?_
            exact ⟨rfl, rfl, rfl⟩
    · -- not taken at 19
      refine g_iconst F (-1) (dk dtX6_odds_0 10 rfl) (by decide) ?_
      refine g_iret (F := F) hQ (dk dtX6_odds_0 11 rfl) ?_
      exact ⟨rfl, rfl, rfl⟩
set_option maxRecDepth 100000 in
set_option maxHeartbeats 4000000 in
theorem k_X0_leads_0 (l : Launch) (D : DX) (B : Nat) (T : Int64) (M : Mem) (b : Nat) (hb : IsNow D B b) (row nv : Nat → Int32) (hR : NR M b row) (hW : WR row) (hM : MW row) (K P : Nat) (hK : M 10 0 = nI K) (hP : M 10 2 = nI P) (hK1 : 1 ≤ K) (hK4 : K ≤ 4) (hP5 : P ≤ 5) (hv : ∀ p, p < P → M 11 p = nv p) (p n : Nat) (hp : p < P) (hln : 0 ≤ n) (hn3 : n ≤ 3) (hbl : b + 5 ≤ 71 ∨ 72 ≤ b) : Ci l D B 108 (celC D B) yX0_leads cX0_leads 9 (some .boolean) 4 [.ref (B + 69), .ref (B + 10), .ref (B + b), .int (nI p), .int (nI 0), .int (nI n)] T M (fun rz T1 M1 => rz = bI (ldR nv (nI K) K P p 0 row = true) ∧ T1 = T ∧ (∀ c, c ≠ 71 → (c < 72 ∨ 72 ≤ c) → M1 c = M c) ∧ (∀ j, j < n - 0 → M1 71 j = M 71 j) ∧ (ldR nv (nI K) K P p 0 row = true → PL nv (nI K) K P p 0 row (fun j => M1 71 (n - 0 + j)))) := by
  refine g_entryi (L := [(0, .ref (B + 69)), (1, .ref (B + 10)), (2, .ref (B + b)), (3, .int (nI p)), (4, .int (nI 0)), (5, .int (nI n))]) (by decide) (Nat.le_of_ble_eq_true rfl) rfl ?_
  intro zp ze zs zm zb zt zc Q F hQ
  refine g_iload F 4 (dk dtX0_leads_0 0 rfl) rfl ?_
  refine g_if_le F 18 (dk dtX0_leads_0 1 rfl) (by decide) (fun c2 => ?_) (fun c2 => ?_)
  · -- taken at 2
    refine g_aload_n F 2 (dk dtX0_leads_0 8 rfl) rfl ?_
    refine g_get F fa_X0_32 (dk dtX0_leads_0 9 rfl) (by have := hb.1; omega) (hb.2.1 _ _) rfl ?_
    refine g_top hR.2.2.2.2 ?_
    refine g_iload_n F 3 (dk dtX0_leads_0 10 rfl) rfl ?_
    refine g_icmp_ne F 30 (dk dtX0_leads_0 11 rfl) (by decide) (fun c23 => ?_) (fun c23 => ?_)
    · -- taken at 23
      refine g_iconst F (nI 0) (dk dtX0_leads_0 14 rfl) (by decide) ?_
      refine g_zret (F := F) hQ (dk dtX0_leads_0 15 rfl) (rfl) ?_
      exact ⟨(bI_f (fun h => c23 (of_decide_eq_true h))).symm, rfl, fun c _ _ => rfl, fun j _ => rfl, fun _ => trivial⟩
    · -- not taken at 23
      refine g_iconst F (nI 1) (dk dtX0_leads_0 12 rfl) (by decide) ?_
      refine g_goto F 31 (dk dtX0_leads_0 13 rfl) (by decide) ?_
      refine g_zret (F := F) hQ (dk dtX0_leads_0 15 rfl) (rfl) ?_
      exact ⟨(bI_t (decide_eq_true c23)).symm, rfl, fun c _ _ => rfl, fun j _ => rfl, fun _ => trivial⟩
  · -- not taken at 2
    exact absurd (by decide) c2
set_option maxRecDepth 100000 in
set_option maxHeartbeats 4000000 in
theorem k_X0_leads_1 (l : Launch) (D : DX) (B : Nat) (T : Int64) (M : Mem) (b : Nat) (hb : IsNow D B b) (row nv : Nat → Int32) (hR : NR M b row) (hW : WR row) (hM : MW row) (K P : Nat) (hK : M 10 0 = nI K) (hP : M 10 2 = nI P) (hK1 : 1 ≤ K) (hK4 : K ≤ 4) (hP5 : P ≤ 5) (hv : ∀ p, p < P → M 11 p = nv p) (p n : Nat) (hp : p < P) (hln : 1 ≤ n) (hn3 : n ≤ 3) (hbl : b + 5 ≤ 71 ∨ 77 ≤ b) : Ci l D B 108 (celC D B) yX0_leads cX0_leads 9 (some .boolean) 5 [.ref (B + 69), .ref (B + 10), .ref (B + b), .int (nI p), .int (nI 1), .int (nI n)] T M (fun rz T1 M1 => rz = bI (ldR nv (nI K) K P p 1 row = true) ∧ T1 = T ∧ (∀ c, c ≠ 71 → (c < 72 ∨ 77 ≤ c) → M1 c = M c) ∧ (∀ j, j < n - 1 → M1 71 j = M 71 j) ∧ (ldR nv (nI K) K P p 1 row = true → PL nv (nI K) K P p 1 row (fun j => M1 71 (n - 1 + j)))) := by
  refine g_entryi (L := [(0, .ref (B + 69)), (1, .ref (B + 10)), (2, .ref (B + b)), (3, .int (nI p)), (4, .int (nI 1)), (5, .int (nI n))]) (by decide) (Nat.le_of_ble_eq_true rfl) rfl ?_
  intro zp ze zs zm zb zt zc Q F hQ
  refine g_iload F 4 (dk dtX0_leads_0 0 rfl) rfl ?_
  refine g_if_le F 18 (dk dtX0_leads_0 1 rfl) (by decide) (fun c2 => ?_) (fun c2 => ?_)
  · -- taken at 2
    exact absurd c2 (by decide)
  · -- not taken at 2
    refine g_iload F 4 (dk dtX0_leads_0 2 rfl) rfl ?_
    refine g_iload F 5 (dk dtX0_leads_0 3 rfl) rfl ?_
    refine g_icmp_gtN F 18 (dk dtX0_leads_0 4 rfl) (by decide) (by omega) (by omega) (fun c9 => ?_) (fun c9 => ?_)
    · -- taken at 9
      exact absurd c9 (by omega)
    · -- not taken at 9
      refine g_iload F 5 (dk dtX0_leads_0 5 rfl) rfl ?_
      refine g_iconst F (nI 3) (dk dtX0_leads_0 6 rfl) (by decide) ?_
      refine g_icmp_leN F 32 (dk dtX0_leads_0 7 rfl) (by decide) (by omega) (by omega) (fun c15 => ?_) (fun c15 => ?_)
      · -- taken at 15
        refine g_aload_n F 2 (dk dtX0_leads_0 16 rfl) rfl ?_
        refine g_get F fa_X0_40 (dk dtX0_leads_0 17 rfl) (by have := hb.1; omega) (hb.2.1 _ _) rfl ?_
        refine g_iload_n F 3 (dk dtX0_leads_0 18 rfl) rfl ?_
        refine g_iald F (p) (dk dtX0_leads_0 19 rfl) (by have := hb.1; omega) (hb.2.2.1 _ _) (by omega) (by decide) ?_
        refine g_top (hR.1 p (by omega)) ?_
        refine g_istore F [(6, .int (row p)), (0, .ref (B + 69)), (1, .ref (B + 10)), (2, .ref (B + b)), (3, .int (nI p)), (4, .int (nI 1)), (5, .int (nI n))] (dk dtX0_leads_0 20 rfl) (by decide) rfl ?_
        refine g_iconst F (nI 0) (dk dtX0_leads_0 21 rfl) (by decide) ?_
        refine g_istore F [(7, .int (nI 0)), (6, .int (row p)), (0, .ref (B + 69)), (1, .ref (B + 10)), (2, .ref (B + b)), (3, .int (nI p)), (4, .int (nI 1)), (5, .int (nI n))] (dk dtX0_leads_0 22 rfl) (by decide) rfl ?_
        have lp43 : ∀ (fz : Nat) (i : Nat) (M2 : Mem), (i ≤ K ∧ (∀ c, c ≠ 71 → (c < 72 ∨ 77 ≤ c) → M2 c = M c) ∧ (∀ j, j < n - 1 → M2 71 j = M 71 j) ∧ (∀ k1, k1 < i → ¬ ldR nv (nI K) K P p 0 (evR nv (nI K) row k1 (row p) P) = true)) → (K - i) < fz → G zp l ze { frames := 5, cells := 0, slots := 0, locals := 40 * 5 } zs zm [.ref (B + 69), .ref (B + 10), .ref (B + b), .int (nI p), .int (nI 1), .int (nI n)].toArray zb zt zc 9 D B 108 (celC D B) Q T M2 43 [(0, .ref (B + 69)), (1, .ref (B + 10)), (2, .ref (B + b)), (3, .int (nI p)), (4, .int (nI 1)), (5, .int (nI n)), (6, .int (row p)), (7, .int (nI i))] [] := by
          intro n43
          induction n43 with
          | zero => intro i M2 hI hn; exact absurd hn (Nat.not_lt_zero _)
          | succ n43 ih43 =>
            intro i M2 hI43 hn43
            obtain ⟨hi, hF2, hJ2, hN2⟩ := hI43
            have hP2 : M2 10 2 = nI P := by rw [hF2 10 (by decide) (by decide)]; exact hP
            have hK2 : M2 10 0 = nI K := by rw [hF2 10 (by decide) (by decide)]; exact hK
            refine g_iload F 7 (dk dtX0_leads_0 23 rfl) rfl ?_
            refine g_aload_n F 1 (dk dtX0_leads_0 24 rfl) rfl ?_
            refine g_get F fa_X0_43 (dk dtX0_leads_0 25 rfl) (by decide) (cc10 D B _ _) rfl ?_
            refine g_top hK2 ?_
            refine g_icmp_geN F 109 (dk dtX0_leads_0 26 rfl) (by decide) (by omega) (by omega) (fun c49 => ?_) (fun c49 => ?_)
            · -- taken at 49
              obtain rfl : K = i := by omega
              refine g_iconst F (nI 0) (dk dtX0_leads_1 0 rfl) (by decide) ?_
              refine g_zret (F := F) hQ (dk dtX0_leads_1 1 rfl) (rfl) ?_
              exact ⟨(bI_f (ld_n hN2)).symm, rfl, hF2, hJ2, fun h => absurd h (ld_n hN2)⟩
            · -- not taken at 49
              refine g_aload_n F 0 (dk dtX0_leads_0 27 rfl) rfl ?_
              refine g_get F fa_X0_17 (dk dtX0_leads_0 28 rfl) (by decide) (cc69 D B _ _) rfl ?_
              refine g_iload F 5 (dk dtX0_leads_0 29 rfl) rfl ?_
              refine g_iload F 4 (dk dtX0_leads_0 30 rfl) rfl ?_
              refine g_isubN F (dk dtX0_leads_0 31 rfl) (by omega) ?_
              refine g_bipush F (nI 10) (dk dtX0_leads_0 32 rfl) (by decide) ?_
              refine g_iload F 7 (dk dtX0_leads_0 33 rfl) rfl ?_
              refine g_imulN F (dk dtX0_leads_0 34 rfl) ?_
              refine g_iload F 6 (dk dtX0_leads_0 35 rfl) rfl ?_
              refine g_iadd F (dk dtX0_leads_0 36 rfl) ?_
              refine g_iast F (n - 1) (dk dtX0_leads_0 37 rfl) (by decide) (fun r => cc71 D B _ r) (by omega) (by decide) ?_
              refine g_aload_n F 0 (dk dtX0_leads_0 38 rfl) rfl ?_
              refine g_aload_n F 1 (dk dtX0_leads_0 39 rfl) rfl ?_
              refine g_aload_n F 2 (dk dtX0_leads_0 40 rfl) rfl ?_
              refine g_iload F 4 (dk dtX0_leads_0 41 rfl) rfl ?_
              refine g_iload F 7 (dk dtX0_leads_0 42 rfl) rfl ?_
              refine g_iload F 6 (dk dtX0_leads_0 43 rfl) rfl ?_
              have hA : ∀ c, c ≠ 71 → (up2 M2 71 (n - 1) (nI (10 * i) + row p)) c = M2 c := fun c hc => up2_ne _ _ hc
              have hR2 : NR (up2 M2 71 (n - 1) (nI (10 * i) + row p)) b row := hR.to (fun c h1 h2 => by rw [hA c (by omega)]; exact hF2 c (by omega) (by omega))
              have hcK : (cpN (up2 M2 71 (n - 1) (nI (10 * i) + row p)) 72 b) 10 0 = nI K := by rw [cpN_fr _ _ _ (by omega), hA 10 (by decide)]; exact hK2
              have hPA : (up2 M2 71 (n - 1) (nI (10 * i) + row p)) 10 2 = nI P := by rw [hA 10 (by decide)]; exact hP2
              have hv1 : ∀ q, q < P → (cpN (up2 M2 71 (n - 1) (nI (10 * i) + row p)) 72 b) 11 q = nv q := fun q hq => by rw [cpN_fr _ _ _ (by omega), hA 11 (by decide), hF2 11 (by decide) (by decide)]; exact hv q hq
              have hR3 : NR (hpM (cpN (up2 M2 71 (n - 1) (nI (10 * i) + row p)) 72 b) 72 i (row p) P) 72 (evR nv (nI K) row i (row p) P) := hp_NR (cpN_NR hR2) hW hM hcK hK1 hK4 (by omega) (row p) hP5 hv1
              have hK3 : (hpM (cpN (up2 M2 71 (n - 1) (nI (10 * i) + row p)) 72 b) 72 i (row p) P) 10 0 = nI K := by rw [hpM_fr _ _ _ _ _ (by omega)]; exact hcK
              have hP3 : (hpM (cpN (up2 M2 71 (n - 1) (nI (10 * i) + row p)) 72 b) 72 i (row p) P) 10 2 = nI P := by rw [hpM_fr _ _ _ _ _ (by omega), cpN_fr _ _ _ (by omega)]; exact hPA
              have hv3 : ∀ q, q < P → (hpM (cpN (up2 M2 71 (n - 1) (nI (10 * i) + row p)) 72 b) 72 i (row p) P) 11 q = nv q := fun q hq => by rw [hpM_fr _ _ _ _ _ (by omega)]; exact hv1 q hq
              have h71 : (hpM (cpN (up2 M2 71 (n - 1) (nI (10 * i) + row p)) 72 b) 72 i (row p) P) 71 = upd (M2 71) (n - 1) (nI (10 * i) + row p) := by rw [hpM_fr _ _ _ _ _ (by omega), cpN_fr _ _ _ (by omega), up2_self]
              refine g_callVr F (As := [.ref (B + 10), .ref (B + b), .int (nI 1), .int (nI i), .int (row p)]) (st := []) cv_X0_46 (dk dtX0_leads_0 44 rfl) (by decide) (cc69 D B _ _) rfl rfl (Nat.le_of_ble_eq_true rfl) ⟨by decide, by decide⟩ (k_X0_behind l D B _ _ b 0 hb (by decide) i (by omega) _ P hPA hP5) (fun T79 M79 hp79 => ?_)
              obtain ⟨e2, e3⟩ := hp79
              replace e2 := e2.symm; replace e3 := e3.symm; subst e2; subst e3
              refine g_astore F [(8, .ref (B + 72)), (0, .ref (B + 69)), (1, .ref (B + 10)), (2, .ref (B + b)), (3, .int (nI p)), (4, .int (nI 1)), (5, .int (nI n)), (6, .int (row p)), (7, .int (nI i))] (dk dtX0_leads_0 45 rfl) (by decide) rfl ?_
              refine g_aload_n F 1 (dk dtX0_leads_0 46 rfl) rfl ?_
              refine g_aload_n F 2 (dk dtX0_leads_0 47 rfl) rfl ?_
              refine g_aload F 0 (dk dtX0_leads_0 48 rfl) rfl ?_
              refine g_iload_n F 4 (dk dtX0_leads_0 49 rfl) rfl ?_
              refine g_iload F 5 (dk dtX0_leads_0 50 rfl) rfl ?_
              refine g_iconst F (nI 1) (dk dtX0_leads_0 51 rfl) (by decide) ?_
              refine g_isubN F (dk dtX0_leads_0 52 rfl) (by omega) ?_
              refine g_iload F 6 (dk dtX0_leads_0 53 rfl) rfl ?_
              refine g_callVi F (As := [.ref (B + 10), .ref (B + 72), .int (nI p), .int (nI (1 - 1)), .int (nI n)]) (st := []) cv_X0_36 (dk dtX0_leads_0 54 rfl) (by decide) (cc69 D B _ _) rfl rfl (Nat.le_of_ble_eq_true rfl) ⟨by decide, by decide⟩ (k_X0_leads_0 l D B _ _ 72 (isNow72 D B) (evR nv (nI K) row i (row p) P) nv hR3 (evR_WR hW (by omega)) (evR_MW hM (by omega) _ hP5) K P hK3 hP3 hK1 hK4 hP5 hv3 p n hp (by omega) hn3 (by decide)) (fun r95 T95 M95 hp95 => ?_)
              obtain ⟨hr95, hT95, hF4, hJ4, hQ4⟩ := hp95
              replace hT95 := hT95.symm; subst hT95; replace hr95 := hr95.symm; subst hr95
              have hF5 : ∀ c, c ≠ 71 → (c < 72 ∨ 77 ≤ c) → M95 c = M c := fun c h1 h2 => by rw [hF4 c h1 (by omega), hpM_fr _ _ _ _ _ (by omega), cpN_fr _ _ _ (by omega), hA c h1]; exact hF2 c h1 h2
              have hJ5 : ∀ j, j < n - 1 → M95 71 j = M 71 j := fun j hj => by rw [hJ4 j (by omega), h71, pk_un (by omega)]; exact hJ2 j hj
              refine g_if_eqB F 103 (dk dtX0_leads_0 55 rfl) (by decide) (fun c98 => ?_) (fun c98 => ?_)
              · -- taken at 98
                refine g_iinc F 8 (nI (i + 1)) [(7, .int (nI (i + 1))), (8, .ref (B + 72)), (0, .ref (B + 69)), (1, .ref (B + 10)), (2, .ref (B + b)), (3, .int (nI p)), (4, .int (nI 1)), (5, .int (nI n)), (6, .int (row p))] (dk dtX0_leads_0 58 rfl) rfl (nI_1 _) (by decide) rfl ?_
                refine g_goto F 43 (dk dtX0_leads_0 59 rfl) (by decide) ?_
                refine g_sub [2, 3, 4, 5, 6, 7, 8, 0] (L1 := [(0, .ref (B + 69)), (1, .ref (B + 10)), (2, .ref (B + b)), (3, .int (nI p)), (4, .int (nI 1)), (5, .int (nI n)), (6, .int (row p)), (7, .int (nI (i + 1)))]) rfl ?_
                exact ih43 (i + 1) _ ⟨by omega, hF5, hJ5, fun k1 h1 => by
                  by_cases e : k1 = i
                  · subst e; exact c98
                  · exact hN2 k1 (by omega)⟩ (by omega)
              · -- not taken at 98
                refine g_iconst F (nI 1) (dk dtX0_leads_0 56 rfl) (by decide) ?_
                refine g_zret (F := F) hQ (dk dtX0_leads_0 57 rfl) (rfl) ?_
                refine ⟨(bI_t (ld_y (by omega) c98)).symm, rfl, hF5, hJ5, fun _ => ⟨i, by omega, ?_, hN2, c98, ?_⟩⟩
                · show M95 71 (n - 1 + 0) = _
                  rw [hJ4 _ (by omega), h71, Nat.add_zero, pk_us]
                · have h9 := hQ4 c98
                  have e9 : (fun j => M95 71 (n - 0 + j)) = (fun j => M95 71 (n - 1 + (j + 1))) := by
                    funext j
                    rw [show n - 0 + j = n - 1 + (j + 1) by omega]
                  rw [e9] at h9
                  exact h9
        refine g_sub [2, 3, 4, 5, 6, 7, 1, 0] (L1 := [(0, .ref (B + 69)), (1, .ref (B + 10)), (2, .ref (B + b)), (3, .int (nI p)), (4, .int (nI 1)), (5, .int (nI n)), (6, .int (row p)), (7, .int (nI 0))]) rfl ?_
        exact lp43 (K + 1) 0 M ⟨by omega, fun c _ _ => rfl, fun j _ => rfl, fun k1 h => absurd h (Nat.not_lt_zero _)⟩ (by omega)
      · -- not taken at 15
        exact absurd hn3 c15
set_option maxRecDepth 100000 in
set_option maxHeartbeats 4000000 in
theorem k_X0_leads_2 (l : Launch) (D : DX) (B : Nat) (T : Int64) (M : Mem) (b : Nat) (hb : IsNow D B b) (row nv : Nat → Int32) (hR : NR M b row) (hW : WR row) (hM : MW row) (K P : Nat) (hK : M 10 0 = nI K) (hP : M 10 2 = nI P) (hK1 : 1 ≤ K) (hK4 : K ≤ 4) (hP5 : P ≤ 5) (hv : ∀ p, p < P → M 11 p = nv p) (p n : Nat) (hp : p < P) (hln : 2 ≤ n) (hn3 : n ≤ 3) (hbl : b + 5 ≤ 71 ∨ 82 ≤ b) : Ci l D B 108 (celC D B) yX0_leads cX0_leads 9 (some .boolean) 6 [.ref (B + 69), .ref (B + 10), .ref (B + b), .int (nI p), .int (nI 2), .int (nI n)] T M (fun rz T1 M1 => rz = bI (ldR nv (nI K) K P p 2 row = true) ∧ T1 = T ∧ (∀ c, c ≠ 71 → (c < 72 ∨ 82 ≤ c) → M1 c = M c) ∧ (∀ j, j < n - 2 → M1 71 j = M 71 j) ∧ (ldR nv (nI K) K P p 2 row = true → PL nv (nI K) K P p 2 row (fun j => M1 71 (n - 2 + j)))) := by
  refine g_entryi (L := [(0, .ref (B + 69)), (1, .ref (B + 10)), (2, .ref (B + b)), (3, .int (nI p)), (4, .int (nI 2)), (5, .int (nI n))]) (by decide) (Nat.le_of_ble_eq_true rfl) rfl ?_
  intro zp ze zs zm zb zt zc Q F hQ
  refine g_iload F 4 (dk dtX0_leads_0 0 rfl) rfl ?_
  refine g_if_le F 18 (dk dtX0_leads_0 1 rfl) (by decide) (fun c2 => ?_) (fun c2 => ?_)
  · -- taken at 2
    exact absurd c2 (by decide)
  · -- not taken at 2
    refine g_iload F 4 (dk dtX0_leads_0 2 rfl) rfl ?_
    refine g_iload F 5 (dk dtX0_leads_0 3 rfl) rfl ?_
    refine g_icmp_gtN F 18 (dk dtX0_leads_0 4 rfl) (by decide) (by omega) (by omega) (fun c9 => ?_) (fun c9 => ?_)
    · -- taken at 9
      exact absurd c9 (by omega)
    · -- not taken at 9
      refine g_iload F 5 (dk dtX0_leads_0 5 rfl) rfl ?_
      refine g_iconst F (nI 3) (dk dtX0_leads_0 6 rfl) (by decide) ?_
      refine g_icmp_leN F 32 (dk dtX0_leads_0 7 rfl) (by decide) (by omega) (by omega) (fun c15 => ?_) (fun c15 => ?_)
      · -- taken at 15
        refine g_aload_n F 2 (dk dtX0_leads_0 16 rfl) rfl ?_
        refine g_get F fa_X0_40 (dk dtX0_leads_0 17 rfl) (by have := hb.1; omega) (hb.2.1 _ _) rfl ?_
        refine g_iload_n F 3 (dk dtX0_leads_0 18 rfl) rfl ?_
        refine g_iald F (p) (dk dtX0_leads_0 19 rfl) (by have := hb.1; omega) (hb.2.2.1 _ _) (by omega) (by decide) ?_
        refine g_top (hR.1 p (by omega)) ?_
        refine g_istore F [(6, .int (row p)), (0, .ref (B + 69)), (1, .ref (B + 10)), (2, .ref (B + b)), (3, .int (nI p)), (4, .int (nI 2)), (5, .int (nI n))] (dk dtX0_leads_0 20 rfl) (by decide) rfl ?_
        refine g_iconst F (nI 0) (dk dtX0_leads_0 21 rfl) (by decide) ?_
        refine g_istore F [(7, .int (nI 0)), (6, .int (row p)), (0, .ref (B + 69)), (1, .ref (B + 10)), (2, .ref (B + b)), (3, .int (nI p)), (4, .int (nI 2)), (5, .int (nI n))] (dk dtX0_leads_0 22 rfl) (by decide) rfl ?_
        have lp43 : ∀ (fz : Nat) (i : Nat) (M2 : Mem), (i ≤ K ∧ (∀ c, c ≠ 71 → (c < 72 ∨ 82 ≤ c) → M2 c = M c) ∧ (∀ j, j < n - 2 → M2 71 j = M 71 j) ∧ (∀ k1, k1 < i → ¬ ldR nv (nI K) K P p 1 (evR nv (nI K) row k1 (row p) P) = true)) → (K - i) < fz → G zp l ze { frames := 6, cells := 0, slots := 0, locals := 40 * 6 } zs zm [.ref (B + 69), .ref (B + 10), .ref (B + b), .int (nI p), .int (nI 2), .int (nI n)].toArray zb zt zc 9 D B 108 (celC D B) Q T M2 43 [(0, .ref (B + 69)), (1, .ref (B + 10)), (2, .ref (B + b)), (3, .int (nI p)), (4, .int (nI 2)), (5, .int (nI n)), (6, .int (row p)), (7, .int (nI i))] [] := by
          intro n43
          induction n43 with
          | zero => intro i M2 hI hn; exact absurd hn (Nat.not_lt_zero _)
          | succ n43 ih43 =>
            intro i M2 hI43 hn43
            obtain ⟨hi, hF2, hJ2, hN2⟩ := hI43
            have hP2 : M2 10 2 = nI P := by rw [hF2 10 (by decide) (by decide)]; exact hP
            have hK2 : M2 10 0 = nI K := by rw [hF2 10 (by decide) (by decide)]; exact hK
            refine g_iload F 7 (dk dtX0_leads_0 23 rfl) rfl ?_
            refine g_aload_n F 1 (dk dtX0_leads_0 24 rfl) rfl ?_
            refine g_get F fa_X0_43 (dk dtX0_leads_0 25 rfl) (by decide) (cc10 D B _ _) rfl ?_
            refine g_top hK2 ?_
            refine g_icmp_geN F 109 (dk dtX0_leads_0 26 rfl) (by decide) (by omega) (by omega) (fun c49 => ?_) (fun c49 => ?_)
            · -- taken at 49
              obtain rfl : K = i := by omega
              refine g_iconst F (nI 0) (dk dtX0_leads_1 0 rfl) (by decide) ?_
              refine g_zret (F := F) hQ (dk dtX0_leads_1 1 rfl) (rfl) ?_
              exact ⟨(bI_f (ld_n hN2)).symm, rfl, hF2, hJ2, fun h => absurd h (ld_n hN2)⟩
            · -- not taken at 49
              refine g_aload_n F 0 (dk dtX0_leads_0 27 rfl) rfl ?_
              refine g_get F fa_X0_17 (dk dtX0_leads_0 28 rfl) (by decide) (cc69 D B _ _) rfl ?_
              refine g_iload F 5 (dk dtX0_leads_0 29 rfl) rfl ?_
              refine g_iload F 4 (dk dtX0_leads_0 30 rfl) rfl ?_
              refine g_isubN F (dk dtX0_leads_0 31 rfl) (by omega) ?_
              refine g_bipush F (nI 10) (dk dtX0_leads_0 32 rfl) (by decide) ?_
              refine g_iload F 7 (dk dtX0_leads_0 33 rfl) rfl ?_
              refine g_imulN F (dk dtX0_leads_0 34 rfl) ?_
              refine g_iload F 6 (dk dtX0_leads_0 35 rfl) rfl ?_
              refine g_iadd F (dk dtX0_leads_0 36 rfl) ?_
              refine g_iast F (n - 2) (dk dtX0_leads_0 37 rfl) (by decide) (fun r => cc71 D B _ r) (by omega) (by decide) ?_
              refine g_aload_n F 0 (dk dtX0_leads_0 38 rfl) rfl ?_
              refine g_aload_n F 1 (dk dtX0_leads_0 39 rfl) rfl ?_
              refine g_aload_n F 2 (dk dtX0_leads_0 40 rfl) rfl ?_
              refine g_iload F 4 (dk dtX0_leads_0 41 rfl) rfl ?_
              refine g_iload F 7 (dk dtX0_leads_0 42 rfl) rfl ?_
              refine g_iload F 6 (dk dtX0_leads_0 43 rfl) rfl ?_
              have hA : ∀ c, c ≠ 71 → (up2 M2 71 (n - 2) (nI (10 * i) + row p)) c = M2 c := fun c hc => up2_ne _ _ hc
              have hR2 : NR (up2 M2 71 (n - 2) (nI (10 * i) + row p)) b row := hR.to (fun c h1 h2 => by rw [hA c (by omega)]; exact hF2 c (by omega) (by omega))
              have hcK : (cpN (up2 M2 71 (n - 2) (nI (10 * i) + row p)) 77 b) 10 0 = nI K := by rw [cpN_fr _ _ _ (by omega), hA 10 (by decide)]; exact hK2
              have hPA : (up2 M2 71 (n - 2) (nI (10 * i) + row p)) 10 2 = nI P := by rw [hA 10 (by decide)]; exact hP2
              have hv1 : ∀ q, q < P → (cpN (up2 M2 71 (n - 2) (nI (10 * i) + row p)) 77 b) 11 q = nv q := fun q hq => by rw [cpN_fr _ _ _ (by omega), hA 11 (by decide), hF2 11 (by decide) (by decide)]; exact hv q hq
              have hR3 : NR (hpM (cpN (up2 M2 71 (n - 2) (nI (10 * i) + row p)) 77 b) 77 i (row p) P) 77 (evR nv (nI K) row i (row p) P) := hp_NR (cpN_NR hR2) hW hM hcK hK1 hK4 (by omega) (row p) hP5 hv1
              have hK3 : (hpM (cpN (up2 M2 71 (n - 2) (nI (10 * i) + row p)) 77 b) 77 i (row p) P) 10 0 = nI K := by rw [hpM_fr _ _ _ _ _ (by omega)]; exact hcK
              have hP3 : (hpM (cpN (up2 M2 71 (n - 2) (nI (10 * i) + row p)) 77 b) 77 i (row p) P) 10 2 = nI P := by rw [hpM_fr _ _ _ _ _ (by omega), cpN_fr _ _ _ (by omega)]; exact hPA
              have hv3 : ∀ q, q < P → (hpM (cpN (up2 M2 71 (n - 2) (nI (10 * i) + row p)) 77 b) 77 i (row p) P) 11 q = nv q := fun q hq => by rw [hpM_fr _ _ _ _ _ (by omega)]; exact hv1 q hq
              have h71 : (hpM (cpN (up2 M2 71 (n - 2) (nI (10 * i) + row p)) 77 b) 77 i (row p) P) 71 = upd (M2 71) (n - 2) (nI (10 * i) + row p) := by rw [hpM_fr _ _ _ _ _ (by omega), cpN_fr _ _ _ (by omega), up2_self]
              refine g_callVr F (As := [.ref (B + 10), .ref (B + b), .int (nI 2), .int (nI i), .int (row p)]) (st := []) cv_X0_46 (dk dtX0_leads_0 44 rfl) (by decide) (cc69 D B _ _) rfl rfl (Nat.le_of_ble_eq_true rfl) ⟨by decide, by decide⟩ (k_X0_behind l D B _ _ b 1 hb (by decide) i (by omega) _ P hPA hP5) (fun T79 M79 hp79 => ?_)
              obtain ⟨e2, e3⟩ := hp79
              replace e2 := e2.symm; replace e3 := e3.symm; subst e2; subst e3
              refine g_astore F [(8, .ref (B + 77)), (0, .ref (B + 69)), (1, .ref (B + 10)), (2, .ref (B + b)), (3, .int (nI p)), (4, .int (nI 2)), (5, .int (nI n)), (6, .int (row p)), (7, .int (nI i))] (dk dtX0_leads_0 45 rfl) (by decide) rfl ?_
              refine g_aload_n F 1 (dk dtX0_leads_0 46 rfl) rfl ?_
              refine g_aload_n F 2 (dk dtX0_leads_0 47 rfl) rfl ?_
              refine g_aload F 0 (dk dtX0_leads_0 48 rfl) rfl ?_
              refine g_iload_n F 4 (dk dtX0_leads_0 49 rfl) rfl ?_
              refine g_iload F 5 (dk dtX0_leads_0 50 rfl) rfl ?_
              refine g_iconst F (nI 1) (dk dtX0_leads_0 51 rfl) (by decide) ?_
              refine g_isubN F (dk dtX0_leads_0 52 rfl) (by omega) ?_
              refine g_iload F 6 (dk dtX0_leads_0 53 rfl) rfl ?_
              refine g_callVi F (As := [.ref (B + 10), .ref (B + 77), .int (nI p), .int (nI (2 - 1)), .int (nI n)]) (st := []) cv_X0_36 (dk dtX0_leads_0 54 rfl) (by decide) (cc69 D B _ _) rfl rfl (Nat.le_of_ble_eq_true rfl) ⟨by decide, by decide⟩ (k_X0_leads_1 l D B _ _ 77 (isNow77 D B) (evR nv (nI K) row i (row p) P) nv hR3 (evR_WR hW (by omega)) (evR_MW hM (by omega) _ hP5) K P hK3 hP3 hK1 hK4 hP5 hv3 p n hp (by omega) hn3 (by decide)) (fun r95 T95 M95 hp95 => ?_)
              obtain ⟨hr95, hT95, hF4, hJ4, hQ4⟩ := hp95
              replace hT95 := hT95.symm; subst hT95; replace hr95 := hr95.symm; subst hr95
              have hF5 : ∀ c, c ≠ 71 → (c < 72 ∨ 82 ≤ c) → M95 c = M c := fun c h1 h2 => by rw [hF4 c h1 (by omega), hpM_fr _ _ _ _ _ (by omega), cpN_fr _ _ _ (by omega), hA c h1]; exact hF2 c h1 h2
              have hJ5 : ∀ j, j < n - 2 → M95 71 j = M 71 j := fun j hj => by rw [hJ4 j (by omega), h71, pk_un (by omega)]; exact hJ2 j hj
              refine g_if_eqB F 103 (dk dtX0_leads_0 55 rfl) (by decide) (fun c98 => ?_) (fun c98 => ?_)
              · -- taken at 98
                refine g_iinc F 8 (nI (i + 1)) [(7, .int (nI (i + 1))), (8, .ref (B + 77)), (0, .ref (B + 69)), (1, .ref (B + 10)), (2, .ref (B + b)), (3, .int (nI p)), (4, .int (nI 2)), (5, .int (nI n)), (6, .int (row p))] (dk dtX0_leads_0 58 rfl) rfl (nI_1 _) (by decide) rfl ?_
                refine g_goto F 43 (dk dtX0_leads_0 59 rfl) (by decide) ?_
                refine g_sub [2, 3, 4, 5, 6, 7, 8, 0] (L1 := [(0, .ref (B + 69)), (1, .ref (B + 10)), (2, .ref (B + b)), (3, .int (nI p)), (4, .int (nI 2)), (5, .int (nI n)), (6, .int (row p)), (7, .int (nI (i + 1)))]) rfl ?_
                exact ih43 (i + 1) _ ⟨by omega, hF5, hJ5, fun k1 h1 => by
                  by_cases e : k1 = i
                  · subst e; exact c98
                  · exact hN2 k1 (by omega)⟩ (by omega)
              · -- not taken at 98
                refine g_iconst F (nI 1) (dk dtX0_leads_0 56 rfl) (by decide) ?_
                refine g_zret (F := F) hQ (dk dtX0_leads_0 57 rfl) (rfl) ?_
                refine ⟨(bI_t (ld_y (by omega) c98)).symm, rfl, hF5, hJ5, fun _ => ⟨i, by omega, ?_, hN2, c98, ?_⟩⟩
                · show M95 71 (n - 2 + 0) = _
                  rw [hJ4 _ (by omega), h71, Nat.add_zero, pk_us]
                · have h9 := hQ4 c98
                  have e9 : (fun j => M95 71 (n - 1 + j)) = (fun j => M95 71 (n - 2 + (j + 1))) := by
                    funext j
                    rw [show n - 1 + j = n - 2 + (j + 1) by omega]
                  rw [e9] at h9
                  exact h9
        refine g_sub [2, 3, 4, 5, 6, 7, 1, 0] (L1 := [(0, .ref (B + 69)), (1, .ref (B + 10)), (2, .ref (B + b)), (3, .int (nI p)), (4, .int (nI 2)), (5, .int (nI n)), (6, .int (row p)), (7, .int (nI 0))]) rfl ?_
        exact lp43 (K + 1) 0 M ⟨by omega, fun c _ _ => rfl, fun j _ => rfl, fun k1 h => absurd h (Nat.not_lt_zero _)⟩ (by omega)
      · -- not taken at 15
        exact absurd hn3 c15
set_option maxRecDepth 100000 in
set_option maxHeartbeats 4000000 in
theorem k_X0_leads_3 (l : Launch) (D : DX) (B : Nat) (T : Int64) (M : Mem) (b : Nat) (hb : IsNow D B b) (row nv : Nat → Int32) (hR : NR M b row) (hW : WR row) (hM : MW row) (K P : Nat) (hK : M 10 0 = nI K) (hP : M 10 2 = nI P) (hK1 : 1 ≤ K) (hK4 : K ≤ 4) (hP5 : P ≤ 5) (hv : ∀ p, p < P → M 11 p = nv p) (p n : Nat) (hp : p < P) (hln : 3 ≤ n) (hn3 : n ≤ 3) (hbl : b + 5 ≤ 71 ∨ 87 ≤ b) : Ci l D B 108 (celC D B) yX0_leads cX0_leads 9 (some .boolean) 7 [.ref (B + 69), .ref (B + 10), .ref (B + b), .int (nI p), .int (nI 3), .int (nI n)] T M (fun rz T1 M1 => rz = bI (ldR nv (nI K) K P p 3 row = true) ∧ T1 = T ∧ (∀ c, c ≠ 71 → (c < 72 ∨ 87 ≤ c) → M1 c = M c) ∧ (∀ j, j < n - 3 → M1 71 j = M 71 j) ∧ (ldR nv (nI K) K P p 3 row = true → PL nv (nI K) K P p 3 row (fun j => M1 71 (n - 3 + j)))) := by
  refine g_entryi (L := [(0, .ref (B + 69)), (1, .ref (B + 10)), (2, .ref (B + b)), (3, .int (nI p)), (4, .int (nI 3)), (5, .int (nI n))]) (by decide) (Nat.le_of_ble_eq_true rfl) rfl ?_
  intro zp ze zs zm zb zt zc Q F hQ
  refine g_iload F 4 (dk dtX0_leads_0 0 rfl) rfl ?_
  refine g_if_le F 18 (dk dtX0_leads_0 1 rfl) (by decide) (fun c2 => ?_) (fun c2 => ?_)
  · -- taken at 2
    exact absurd c2 (by decide)
  · -- not taken at 2
    refine g_iload F 4 (dk dtX0_leads_0 2 rfl) rfl ?_
    refine g_iload F 5 (dk dtX0_leads_0 3 rfl) rfl ?_
    refine g_icmp_gtN F 18 (dk dtX0_leads_0 4 rfl) (by decide) (by omega) (by omega) (fun c9 => ?_) (fun c9 => ?_)
    · -- taken at 9
      exact absurd c9 (by omega)
    · -- not taken at 9
      refine g_iload F 5 (dk dtX0_leads_0 5 rfl) rfl ?_
      refine g_iconst F (nI 3) (dk dtX0_leads_0 6 rfl) (by decide) ?_
      refine g_icmp_leN F 32 (dk dtX0_leads_0 7 rfl) (by decide) (by omega) (by omega) (fun c15 => ?_) (fun c15 => ?_)
      · -- taken at 15
        refine g_aload_n F 2 (dk dtX0_leads_0 16 rfl) rfl ?_
        refine g_get F fa_X0_40 (dk dtX0_leads_0 17 rfl) (by have := hb.1; omega) (hb.2.1 _ _) rfl ?_
        refine g_iload_n F 3 (dk dtX0_leads_0 18 rfl) rfl ?_
        refine g_iald F (p) (dk dtX0_leads_0 19 rfl) (by have := hb.1; omega) (hb.2.2.1 _ _) (by omega) (by decide) ?_
        refine g_top (hR.1 p (by omega)) ?_
        refine g_istore F [(6, .int (row p)), (0, .ref (B + 69)), (1, .ref (B + 10)), (2, .ref (B + b)), (3, .int (nI p)), (4, .int (nI 3)), (5, .int (nI n))] (dk dtX0_leads_0 20 rfl) (by decide) rfl ?_
        refine g_iconst F (nI 0) (dk dtX0_leads_0 21 rfl) (by decide) ?_
        refine g_istore F [(7, .int (nI 0)), (6, .int (row p)), (0, .ref (B + 69)), (1, .ref (B + 10)), (2, .ref (B + b)), (3, .int (nI p)), (4, .int (nI 3)), (5, .int (nI n))] (dk dtX0_leads_0 22 rfl) (by decide) rfl ?_
        have lp43 : ∀ (fz : Nat) (i : Nat) (M2 : Mem), (i ≤ K ∧ (∀ c, c ≠ 71 → (c < 72 ∨ 87 ≤ c) → M2 c = M c) ∧ (∀ j, j < n - 3 → M2 71 j = M 71 j) ∧ (∀ k1, k1 < i → ¬ ldR nv (nI K) K P p 2 (evR nv (nI K) row k1 (row p) P) = true)) → (K - i) < fz → G zp l ze { frames := 7, cells := 0, slots := 0, locals := 40 * 7 } zs zm [.ref (B + 69), .ref (B + 10), .ref (B + b), .int (nI p), .int (nI 3), .int (nI n)].toArray zb zt zc 9 D B 108 (celC D B) Q T M2 43 [(0, .ref (B + 69)), (1, .ref (B + 10)), (2, .ref (B + b)), (3, .int (nI p)), (4, .int (nI 3)), (5, .int (nI n)), (6, .int (row p)), (7, .int (nI i))] [] := by
          intro n43
          induction n43 with
          | zero => intro i M2 hI hn; exact absurd hn (Nat.not_lt_zero _)
          | succ n43 ih43 =>
            intro i M2 hI43 hn43
            obtain ⟨hi, hF2, hJ2, hN2⟩ := hI43
            have hP2 : M2 10 2 = nI P := by rw [hF2 10 (by decide) (by decide)]; exact hP
            have hK2 : M2 10 0 = nI K := by rw [hF2 10 (by decide) (by decide)]; exact hK
            refine g_iload F 7 (dk dtX0_leads_0 23 rfl) rfl ?_
            refine g_aload_n F 1 (dk dtX0_leads_0 24 rfl) rfl ?_
            refine g_get F fa_X0_43 (dk dtX0_leads_0 25 rfl) (by decide) (cc10 D B _ _) rfl ?_
            refine g_top hK2 ?_
            refine g_icmp_geN F 109 (dk dtX0_leads_0 26 rfl) (by decide) (by omega) (by omega) (fun c49 => ?_) (fun c49 => ?_)
            · -- taken at 49
              obtain rfl : K = i := by omega
              refine g_iconst F (nI 0) (dk dtX0_leads_1 0 rfl) (by decide) ?_
              refine g_zret (F := F) hQ (dk dtX0_leads_1 1 rfl) (rfl) ?_
              exact ⟨(bI_f (ld_n hN2)).symm, rfl, hF2, hJ2, fun h => absurd h (ld_n hN2)⟩
            · -- not taken at 49
              refine g_aload_n F 0 (dk dtX0_leads_0 27 rfl) rfl ?_
              refine g_get F fa_X0_17 (dk dtX0_leads_0 28 rfl) (by decide) (cc69 D B _ _) rfl ?_
              refine g_iload F 5 (dk dtX0_leads_0 29 rfl) rfl ?_
              refine g_iload F 4 (dk dtX0_leads_0 30 rfl) rfl ?_
              refine g_isubN F (dk dtX0_leads_0 31 rfl) (by omega) ?_
              refine g_bipush F (nI 10) (dk dtX0_leads_0 32 rfl) (by decide) ?_
              refine g_iload F 7 (dk dtX0_leads_0 33 rfl) rfl ?_
              refine g_imulN F (dk dtX0_leads_0 34 rfl) ?_
              refine g_iload F 6 (dk dtX0_leads_0 35 rfl) rfl ?_
              refine g_iadd F (dk dtX0_leads_0 36 rfl) ?_
              refine g_iast F (n - 3) (dk dtX0_leads_0 37 rfl) (by decide) (fun r => cc71 D B _ r) (by omega) (by decide) ?_
              refine g_aload_n F 0 (dk dtX0_leads_0 38 rfl) rfl ?_
              refine g_aload_n F 1 (dk dtX0_leads_0 39 rfl) rfl ?_
              refine g_aload_n F 2 (dk dtX0_leads_0 40 rfl) rfl ?_
              refine g_iload F 4 (dk dtX0_leads_0 41 rfl) rfl ?_
              refine g_iload F 7 (dk dtX0_leads_0 42 rfl) rfl ?_
              refine g_iload F 6 (dk dtX0_leads_0 43 rfl) rfl ?_
              have hA : ∀ c, c ≠ 71 → (up2 M2 71 (n - 3) (nI (10 * i) + row p)) c = M2 c := fun c hc => up2_ne _ _ hc
              have hR2 : NR (up2 M2 71 (n - 3) (nI (10 * i) + row p)) b row := hR.to (fun c h1 h2 => by rw [hA c (by omega)]; exact hF2 c (by omega) (by omega))
              have hcK : (cpN (up2 M2 71 (n - 3) (nI (10 * i) + row p)) 82 b) 10 0 = nI K := by rw [cpN_fr _ _ _ (by omega), hA 10 (by decide)]; exact hK2
              have hPA : (up2 M2 71 (n - 3) (nI (10 * i) + row p)) 10 2 = nI P := by rw [hA 10 (by decide)]; exact hP2
              have hv1 : ∀ q, q < P → (cpN (up2 M2 71 (n - 3) (nI (10 * i) + row p)) 82 b) 11 q = nv q := fun q hq => by rw [cpN_fr _ _ _ (by omega), hA 11 (by decide), hF2 11 (by decide) (by decide)]; exact hv q hq
              have hR3 : NR (hpM (cpN (up2 M2 71 (n - 3) (nI (10 * i) + row p)) 82 b) 82 i (row p) P) 82 (evR nv (nI K) row i (row p) P) := hp_NR (cpN_NR hR2) hW hM hcK hK1 hK4 (by omega) (row p) hP5 hv1
              have hK3 : (hpM (cpN (up2 M2 71 (n - 3) (nI (10 * i) + row p)) 82 b) 82 i (row p) P) 10 0 = nI K := by rw [hpM_fr _ _ _ _ _ (by omega)]; exact hcK
              have hP3 : (hpM (cpN (up2 M2 71 (n - 3) (nI (10 * i) + row p)) 82 b) 82 i (row p) P) 10 2 = nI P := by rw [hpM_fr _ _ _ _ _ (by omega), cpN_fr _ _ _ (by omega)]; exact hPA
              have hv3 : ∀ q, q < P → (hpM (cpN (up2 M2 71 (n - 3) (nI (10 * i) + row p)) 82 b) 82 i (row p) P) 11 q = nv q := fun q hq => by rw [hpM_fr _ _ _ _ _ (by omega)]; exact hv1 q hq
              have h71 : (hpM (cpN (up2 M2 71 (n - 3) (nI (10 * i) + row p)) 82 b) 82 i (row p) P) 71 = upd (M2 71) (n - 3) (nI (10 * i) + row p) := by rw [hpM_fr _ _ _ _ _ (by omega), cpN_fr _ _ _ (by omega), up2_self]
              refine g_callVr F (As := [.ref (B + 10), .ref (B + b), .int (nI 3), .int (nI i), .int (row p)]) (st := []) cv_X0_46 (dk dtX0_leads_0 44 rfl) (by decide) (cc69 D B _ _) rfl rfl (Nat.le_of_ble_eq_true rfl) ⟨by decide, by decide⟩ (k_X0_behind l D B _ _ b 2 hb (by decide) i (by omega) _ P hPA hP5) (fun T79 M79 hp79 => ?_)
              obtain ⟨e2, e3⟩ := hp79
              replace e2 := e2.symm; replace e3 := e3.symm; subst e2; subst e3
              refine g_astore F [(8, .ref (B + 82)), (0, .ref (B + 69)), (1, .ref (B + 10)), (2, .ref (B + b)), (3, .int (nI p)), (4, .int (nI 3)), (5, .int (nI n)), (6, .int (row p)), (7, .int (nI i))] (dk dtX0_leads_0 45 rfl) (by decide) rfl ?_
              refine g_aload_n F 1 (dk dtX0_leads_0 46 rfl) rfl ?_
              refine g_aload_n F 2 (dk dtX0_leads_0 47 rfl) rfl ?_
              refine g_aload F 0 (dk dtX0_leads_0 48 rfl) rfl ?_
              refine g_iload_n F 4 (dk dtX0_leads_0 49 rfl) rfl ?_
              refine g_iload F 5 (dk dtX0_leads_0 50 rfl) rfl ?_
              refine g_iconst F (nI 1) (dk dtX0_leads_0 51 rfl) (by decide) ?_
              refine g_isubN F (dk dtX0_leads_0 52 rfl) (by omega) ?_
              refine g_iload F 6 (dk dtX0_leads_0 53 rfl) rfl ?_
              refine g_callVi F (As := [.ref (B + 10), .ref (B + 82), .int (nI p), .int (nI (3 - 1)), .int (nI n)]) (st := []) cv_X0_36 (dk dtX0_leads_0 54 rfl) (by decide) (cc69 D B _ _) rfl rfl (Nat.le_of_ble_eq_true rfl) ⟨by decide, by decide⟩ (k_X0_leads_2 l D B _ _ 82 (isNow82 D B) (evR nv (nI K) row i (row p) P) nv hR3 (evR_WR hW (by omega)) (evR_MW hM (by omega) _ hP5) K P hK3 hP3 hK1 hK4 hP5 hv3 p n hp (by omega) hn3 (by decide)) (fun r95 T95 M95 hp95 => ?_)
              obtain ⟨hr95, hT95, hF4, hJ4, hQ4⟩ := hp95
              replace hT95 := hT95.symm; subst hT95; replace hr95 := hr95.symm; subst hr95
              have hF5 : ∀ c, c ≠ 71 → (c < 72 ∨ 87 ≤ c) → M95 c = M c := fun c h1 h2 => by rw [hF4 c h1 (by omega), hpM_fr _ _ _ _ _ (by omega), cpN_fr _ _ _ (by omega), hA c h1]; exact hF2 c h1 h2
              have hJ5 : ∀ j, j < n - 3 → M95 71 j = M 71 j := fun j hj => by rw [hJ4 j (by omega), h71, pk_un (by omega)]; exact hJ2 j hj
              refine g_if_eqB F 103 (dk dtX0_leads_0 55 rfl) (by decide) (fun c98 => ?_) (fun c98 => ?_)
              · -- taken at 98
                refine g_iinc F 8 (nI (i + 1)) [(7, .int (nI (i + 1))), (8, .ref (B + 82)), (0, .ref (B + 69)), (1, .ref (B + 10)), (2, .ref (B + b)), (3, .int (nI p)), (4, .int (nI 3)), (5, .int (nI n)), (6, .int (row p))] (dk dtX0_leads_0 58 rfl) rfl (nI_1 _) (by decide) rfl ?_
                refine g_goto F 43 (dk dtX0_leads_0 59 rfl) (by decide) ?_
                refine g_sub [2, 3, 4, 5, 6, 7, 8, 0] (L1 := [(0, .ref (B + 69)), (1, .ref (B + 10)), (2, .ref (B + b)), (3, .int (nI p)), (4, .int (nI 3)), (5, .int (nI n)), (6, .int (row p)), (7, .int (nI (i + 1)))]) rfl ?_
                exact ih43 (i + 1) _ ⟨by omega, hF5, hJ5, fun k1 h1 => by
                  by_cases e : k1 = i
                  · subst e; exact c98
                  · exact hN2 k1 (by omega)⟩ (by omega)
              · -- not taken at 98
                refine g_iconst F (nI 1) (dk dtX0_leads_0 56 rfl) (by decide) ?_
                refine g_zret (F := F) hQ (dk dtX0_leads_0 57 rfl) (rfl) ?_
                refine ⟨(bI_t (ld_y (by omega) c98)).symm, rfl, hF5, hJ5, fun _ => ⟨i, by omega, ?_, hN2, c98, ?_⟩⟩
                · show M95 71 (n - 3 + 0) = _
                  rw [hJ4 _ (by omega), h71, Nat.add_zero, pk_us]
                · have h9 := hQ4 c98
                  have e9 : (fun j => M95 71 (n - 2 + j)) = (fun j => M95 71 (n - 3 + (j + 1))) := by
                    funext j
                    rw [show n - 2 + j = n - 3 + (j + 1) by omega]
                  rw [e9] at h9
                  exact h9
        refine g_sub [2, 3, 4, 5, 6, 7, 1, 0] (L1 := [(0, .ref (B + 69)), (1, .ref (B + 10)), (2, .ref (B + b)), (3, .int (nI p)), (4, .int (nI 3)), (5, .int (nI n)), (6, .int (row p)), (7, .int (nI 0))]) rfl ?_
        exact lp43 (K + 1) 0 M ⟨by omega, fun c _ _ => rfl, fun j _ => rfl, fun k1 h => absurd h (Nat.not_lt_zero _)⟩ (by omega)
      · -- not taken at 15
        exact absurd hn3 c15
