def fwQ (ld : Nat → Bool) (pl : Nat → Prop) (rz : Int32) : Prop := (∃ n, n ≤ 3 ∧ (∀ m, m < n → ¬ ld m = true) ∧ ld n = true ∧ pl n ∧ rz = nI n) ∨ ((∀ m, m ≤ 3 → ¬ ld m = true) ∧ rz = -9)
def fwK (ld : Nat → Bool) (pl : Nat → Prop) (k : Nat) (v rz : Int32) : Prop := (∃ n, n ≤ 3 ∧ (∀ m, m < n → ¬ ld m = true) ∧ ld n = true ∧ pl n ∧ rz = (if k < n then v else -9)) ∨ ((∀ m, m ≤ 3 → ¬ ld m = true) ∧ rz = -9)
theorem m9_le {k : Nat} (hk : k < 3) : (-9 : Int32) ≤ nI k := by
  rw [Int32.le_iff_toInt_le, nI_toInt (by omega)]
  have : (-9 : Int32).toInt = -9 := by decide
  omega
theorem myb_mo {M : Mem} {a : Nat} {row nv : Nat → Int32} {K : Nat} (h : NR M a row) (hW : WR row) (hM : MW row) (hK : M 10 0 = nI K) (hK1 : 1 ≤ K) (hK4 : K ≤ 4) {k : Nat} (hk : k < 4) (x : Int32) {P : Nat} (hP : P ≤ 5) (hv : ∀ p, p < P → M 11 p = nv p) : (myb M a k x P).1 = moR (evR nv (nI K) row k x P) := by
  rw [(jmp_NR h hW hK hK1 hK4 hk x P hP hv).2.2]
  have e0 : moR (evR nv (nI K) row k x P) = moR (e1 row (eF nv (nI K) row k x P).2.1) := by
    unfold moR evR
    rw [e2_lo (by omega) hP hk]
  rw [e0]
  by_cases c : (eF nv (nI K) row k x P).2.1 = -9
  · rw [if_pos c, h.2.2.2.2]
    unfold e1
    rw [if_pos (Or.inl c)]
  · rw [if_neg c]
    obtain ⟨q, hq, e⟩ := eF_first c
    rw [e]
    unfold e1
    by_cases c2 : row 30 = nI q + nI 1
    · rw [if_pos (Or.inr c2)]
      exact (moR_pos (by rw [c2, nI_add]) (by omega)).symm
    · rw [if_neg (fun q1 => q1.elim (fun q2 => nI_ne9 (by omega) q2) c2), nI_clamp (by omega), nI_add, moR_upd (by omega)]
      exact (moR_pos (by rw [pk_us]) (by omega)).symm
def fB (nv : Nat → Int32) (Kv : Int32) (K X P p : Nat) : Nat → Bool → (Nat → Int32) → Bool
  | 0, _, row => decide (moR row = nI p)
  | l + 1, ft, row => if ft = true then (List.range K).any (fun k => (List.range X).any (fun x => fB nv Kv K X P p l (!ft) (evR nv Kv row k (nI x) P))) else (List.range K).all (fun k => (List.range X).all (fun x => fB nv Kv K X P p l (!ft) (evR nv Kv row k (nI x) P)))
theorem fB_t {nv : Nat → Int32} {Kv : Int32} {K X P p l : Nat} {row : Nat → Int32} {k x : Nat} (hk : k < K) (hx : x < X) (h : fB nv Kv K X P p l false (evR nv Kv row k (nI x) P) = true) : fB nv Kv K X P p (l + 1) true row = true := by
  simp only [fB, if_true]
  exact List.any_eq_true.mpr ⟨k, List.mem_range.mpr hk, List.any_eq_true.mpr ⟨x, List.mem_range.mpr hx, h⟩⟩
theorem fB_tn {nv : Nat → Int32} {Kv : Int32} {K X P p l : Nat} {row : Nat → Int32} (h : ∀ k, k < K → ∀ x, x < X → ¬ fB nv Kv K X P p l false (evR nv Kv row k (nI x) P) = true) : ¬ fB nv Kv K X P p (l + 1) true row = true := by
  simp only [fB, if_true]
  intro q
  obtain ⟨k, hk, q2⟩ := List.any_eq_true.mp q
  obtain ⟨x, hx, q3⟩ := List.any_eq_true.mp q2
  exact h k (List.mem_range.mp hk) x (List.mem_range.mp hx) q3
theorem fB_f {nv : Nat → Int32} {Kv : Int32} {K X P p l : Nat} {row : Nat → Int32} {k x : Nat} (hk : k < K) (hx : x < X) (h : ¬ fB nv Kv K X P p l true (evR nv Kv row k (nI x) P) = true) : ¬ fB nv Kv K X P p (l + 1) false row = true := by
  simp only [fB]
  rw [if_neg Bool.false_ne_true]
  intro q
  exact h (List.all_eq_true.mp (List.all_eq_true.mp q k (List.mem_range.mpr hk)) x (List.mem_range.mpr hx))
theorem fB_fn {nv : Nat → Int32} {Kv : Int32} {K X P p l : Nat} {row : Nat → Int32} (h : ∀ k, k < K → ∀ x, x < X → ¬ fB nv Kv K X P p l true (evR nv Kv row k (nI x) P) = false) : fB nv Kv K X P p (l + 1) false row = true := by
  simp only [fB]
  rw [if_neg Bool.false_ne_true]
  exact List.all_eq_true.mpr (fun k hk => List.all_eq_true.mpr (fun x hx => Bool.not_eq_false _ ▸ (h k (List.mem_range.mp hk) x (List.mem_range.mp hx))))
theorem bI_ff {b : Bool} (h : bI (b = true) = nI 0) : ¬ b = true := fun q => absurd ((bI_t q).symm.trans h) (by decide)
set_option maxRecDepth 100000 in
set_option maxHeartbeats 4000000 in
theorem k_X0_fewest (l : Launch) (D : DX) (B : Nat) (T : Int64) (M : Mem) (row nv : Nat → Int32) (hR : NR M 12 row) (hW : WR row) (hM : MW row) (K P : Nat) (hK : M 10 0 = nI K) (hP : M 10 2 = nI P) (hK1 : 1 ≤ K) (hK4 : K ≤ 4) (hP5 : P ≤ 5) (hv : ∀ p, p < P → M 11 p = nv p) (p : Nat) (hp : p < P) : Ci l D B 108 (celC D B) yX0_fewest cX0_fewest 5 (some .int) 8 [.ref (B + 69), .ref (B + 10), .ref (B + 12), .int (nI p)] T M (fun rz T1 M1 => fwQ (fun m => ldR nv (nI K) K P p m row) (fun n => PL nv (nI K) K P p n row (fun j => M1 71 j)) rz ∧ T1 = T ∧ Sc M M1) := by
  have hX0 : ∀ c, c < 71 ∨ 92 ≤ c → M c = M c := fun _ _ => rfl
  refine g_entryi (L := [(0, .ref (B + 69)), (1, .ref (B + 10)), (2, .ref (B + 12)), (3, .int (nI p))]) (by decide) (Nat.le_of_ble_eq_true rfl) rfl ?_
  intro zp ze zs zm zb zt zc Q F hQ
  refine g_aload_n F 2 (dk dtX0_fewest_0 0 rfl) rfl ?_
  refine g_get F fa_X0_32 (dk dtX0_fewest_0 1 rfl) (by decide) (cc12 D B _ _) rfl ?_
  refine g_top hR.2.2.2.2 ?_
  refine g_iload_n F 3 (dk dtX0_fewest_0 2 rfl) rfl ?_
  refine g_icmp_ne F 10 (dk dtX0_fewest_0 3 rfl) (by decide) (fun c5 => ?_) (fun c5 => ?_)
  · -- taken at 5
    refine g_iconst F (nI 1) (dk dtX0_fewest_0 6 rfl) (by decide) ?_
    refine g_istore F [(4, .int (nI 1)), (0, .ref (B + 69)), (1, .ref (B + 10)), (2, .ref (B + 12)), (3, .int (nI p))] (dk dtX0_fewest_0 7 rfl) (by decide) rfl ?_
    refine g_iload F 0 (dk dtX0_fewest_0 8 rfl) rfl ?_
    refine g_iconst F (nI 3) (dk dtX0_fewest_0 9 rfl) (by decide) ?_
    refine g_icmp_gtN F 42 (dk dtX0_fewest_0 10 rfl) (by decide) (by decide) (by decide) (fun c => absurd c (by decide)) (fun _ => ?_)
    refine g_aload_n F 1 (dk dtX0_fewest_0 11 rfl) rfl ?_
    refine g_aload_n F 2 (dk dtX0_fewest_0 12 rfl) rfl ?_
    refine g_aload_n F 3 (dk dtX0_fewest_0 13 rfl) rfl ?_
    refine g_iload_n F 4 (dk dtX0_fewest_0 14 rfl) rfl ?_
    refine g_iload F 0 (dk dtX0_fewest_0 15 rfl) rfl ?_
    refine g_iload F 0 (dk dtX0_fewest_0 16 rfl) rfl ?_
    refine g_callVi F (As := [.ref (B + 10), .ref (B + 12), .int (nI p), .int (nI 1), .int (nI 1)]) (st := []) cv_X0_36 (dk dtX0_fewest_0 17 rfl) (by decide) (cc69 D B _ _) rfl rfl (Nat.le_of_ble_eq_true rfl) ⟨by decide, by decide⟩ (k_X0_leads_1 l D B _ _ 12 (isNow12 D B) row nv (hR.to (fun c h1 h2 => hX0 c (by omega))) hW hM K P (by rw [hX0 10 (by decide)]; exact hK) (by rw [hX0 10 (by decide)]; exact hP) hK1 hK4 hP5 (fun q hq => by rw [hX0 11 (by decide)]; exact hv q hq) p 1 hp (by decide) (by decide) (by decide)) (fun r27 T27 M27 hp27 => ?_)
    obtain ⟨hr27, hT27, hF27, hJ27, hQ27⟩ := hp27
    replace hT27 := hT27.symm; subst hT27; replace hr27 := hr27.symm; subst hr27
    have hX1 : ∀ c, c < 71 ∨ 92 ≤ c → M27 c = M c := fun c hc => (hF27 c (by omega) (by omega)).trans (hX0 c hc)
    refine g_if_eqB F 36 (dk dtX0_fewest_0 18 rfl) (by decide) (fun c30 => ?_) (fun c30 => ?_)
    · -- taken at 30
      refine g_iinc F 0 (nI 2) [(4, .int (nI 2)), (0, .ref (B + 69)), (1, .ref (B + 10)), (2, .ref (B + 12)), (3, .int (nI p))] (dk dtX0_fewest_0 21 rfl) rfl (by decide) (by decide) rfl ?_
      refine g_goto F 13 (dk dtX0_fewest_0 22 rfl) (by decide) ?_
      refine g_iload F 0 (dk dtX0_fewest_0 8 rfl) rfl ?_
      refine g_iconst F (nI 3) (dk dtX0_fewest_0 9 rfl) (by decide) ?_
      refine g_icmp_gtN F 42 (dk dtX0_fewest_0 10 rfl) (by decide) (by decide) (by decide) (fun c => absurd c (by decide)) (fun _ => ?_)
      refine g_aload_n F 1 (dk dtX0_fewest_0 11 rfl) rfl ?_
      refine g_aload_n F 2 (dk dtX0_fewest_0 12 rfl) rfl ?_
      refine g_aload_n F 3 (dk dtX0_fewest_0 13 rfl) rfl ?_
      refine g_iload_n F 4 (dk dtX0_fewest_0 14 rfl) rfl ?_
      refine g_iload F 0 (dk dtX0_fewest_0 15 rfl) rfl ?_
      refine g_iload F 0 (dk dtX0_fewest_0 16 rfl) rfl ?_
      refine g_callVi F (As := [.ref (B + 10), .ref (B + 12), .int (nI p), .int (nI 2), .int (nI 2)]) (st := []) cv_X0_36 (dk dtX0_fewest_0 17 rfl) (by decide) (cc69 D B _ _) rfl rfl (Nat.le_of_ble_eq_true rfl) ⟨by decide, by decide⟩ (k_X0_leads_2 l D B _ _ 12 (isNow12 D B) row nv (hR.to (fun c h1 h2 => hX1 c (by omega))) hW hM K P (by rw [hX1 10 (by decide)]; exact hK) (by rw [hX1 10 (by decide)]; exact hP) hK1 hK4 hP5 (fun q hq => by rw [hX1 11 (by decide)]; exact hv q hq) p 2 hp (by decide) (by decide) (by decide)) (fun r27x2 T27x2 M27x2 hp27x2 => ?_)
      obtain ⟨hr27x2, hT27x2, hF27x2, hJ27x2, hQ27x2⟩ := hp27x2
      replace hT27x2 := hT27x2.symm; subst hT27x2; replace hr27x2 := hr27x2.symm; subst hr27x2
      have hX2 : ∀ c, c < 71 ∨ 92 ≤ c → M27x2 c = M c := fun c hc => (hF27x2 c (by omega) (by omega)).trans (hX1 c hc)
      refine g_if_eqB F 36 (dk dtX0_fewest_0 18 rfl) (by decide) (fun c30x2 => ?_) (fun c30x2 => ?_)
      · -- taken at 30
        refine g_iinc F 0 (nI 3) [(4, .int (nI 3)), (0, .ref (B + 69)), (1, .ref (B + 10)), (2, .ref (B + 12)), (3, .int (nI p))] (dk dtX0_fewest_0 21 rfl) rfl (by decide) (by decide) rfl ?_
        refine g_goto F 13 (dk dtX0_fewest_0 22 rfl) (by decide) ?_
        refine g_iload F 0 (dk dtX0_fewest_0 8 rfl) rfl ?_
        refine g_iconst F (nI 3) (dk dtX0_fewest_0 9 rfl) (by decide) ?_
        refine g_icmp_gtN F 42 (dk dtX0_fewest_0 10 rfl) (by decide) (by decide) (by decide) (fun c => absurd c (by decide)) (fun _ => ?_)
        refine g_aload_n F 1 (dk dtX0_fewest_0 11 rfl) rfl ?_
        refine g_aload_n F 2 (dk dtX0_fewest_0 12 rfl) rfl ?_
        refine g_aload_n F 3 (dk dtX0_fewest_0 13 rfl) rfl ?_
        refine g_iload_n F 4 (dk dtX0_fewest_0 14 rfl) rfl ?_
        refine g_iload F 0 (dk dtX0_fewest_0 15 rfl) rfl ?_
        refine g_iload F 0 (dk dtX0_fewest_0 16 rfl) rfl ?_
        refine g_callVi F (As := [.ref (B + 10), .ref (B + 12), .int (nI p), .int (nI 3), .int (nI 3)]) (st := []) cv_X0_36 (dk dtX0_fewest_0 17 rfl) (by decide) (cc69 D B _ _) rfl rfl (Nat.le_of_ble_eq_true rfl) ⟨by decide, by decide⟩ (k_X0_leads_3 l D B _ _ 12 (isNow12 D B) row nv (hR.to (fun c h1 h2 => hX2 c (by omega))) hW hM K P (by rw [hX2 10 (by decide)]; exact hK) (by rw [hX2 10 (by decide)]; exact hP) hK1 hK4 hP5 (fun q hq => by rw [hX2 11 (by decide)]; exact hv q hq) p 3 hp (by decide) (by decide) (by decide)) (fun r27x3 T27x3 M27x3 hp27x3 => ?_)
        obtain ⟨hr27x3, hT27x3, hF27x3, hJ27x3, hQ27x3⟩ := hp27x3
        replace hT27x3 := hT27x3.symm; subst hT27x3; replace hr27x3 := hr27x3.symm; subst hr27x3
        have hX3 : ∀ c, c < 71 ∨ 92 ≤ c → M27x3 c = M c := fun c hc => (hF27x3 c (by omega) (by omega)).trans (hX2 c hc)
        refine g_if_eqB F 36 (dk dtX0_fewest_0 18 rfl) (by decide) (fun c30x3 => ?_) (fun c30x3 => ?_)
        · -- taken at 30
          refine g_iinc F 0 (nI 4) [(4, .int (nI 4)), (0, .ref (B + 69)), (1, .ref (B + 10)), (2, .ref (B + 12)), (3, .int (nI p))] (dk dtX0_fewest_0 21 rfl) rfl (by decide) (by decide) rfl ?_
          refine g_goto F 13 (dk dtX0_fewest_0 22 rfl) (by decide) ?_
          refine g_iload F 0 (dk dtX0_fewest_0 8 rfl) rfl ?_
          refine g_iconst F (nI 3) (dk dtX0_fewest_0 9 rfl) (by decide) ?_
          refine g_icmp_gtN F 42 (dk dtX0_fewest_0 10 rfl) (by decide) (by decide) (by decide) (fun _ => ?_) (fun c => absurd c (by decide))
          refine g_bipush F (-9) (dk dtX0_fewest_0 23 rfl) (by decide) ?_
          refine g_iret (F := F) hQ (dk dtX0_fewest_0 24 rfl) ?_
          refine ⟨Or.inr ⟨fun m hm => ?_, rfl⟩, rfl, hX3⟩
          rcases (show m = 0 ∨ m = 1 ∨ m = 2 ∨ m = 3 by omega) with rfl | rfl | rfl | rfl
          · exact fun h => c5 (of_decide_eq_true h)
          · exact c30
          · exact c30x2
          · exact c30x3
        · -- not taken at 30
          refine g_iload F 0 (dk dtX0_fewest_0 19 rfl) rfl ?_
          refine g_iret (F := F) hQ (dk dtX0_fewest_0 20 rfl) ?_
          refine ⟨Or.inl ⟨3, by decide, fun m hm => by
              rcases (show m = 0 ∨ m = 1 ∨ m = 2 by omega) with rfl | rfl | rfl
              · exact fun h => c5 (of_decide_eq_true h)
              · exact c30
              · exact c30x2, c30x3, ?_, rfl⟩, rfl, hX3⟩
          have h9 := hQ27x3 c30x3
          simpa only [Nat.sub_self, Nat.zero_add] using h9
      · -- not taken at 30
        refine g_iload F 0 (dk dtX0_fewest_0 19 rfl) rfl ?_
        refine g_iret (F := F) hQ (dk dtX0_fewest_0 20 rfl) ?_
        refine ⟨Or.inl ⟨2, by decide, fun m hm => by
            rcases (show m = 0 ∨ m = 1 by omega) with rfl | rfl
            · exact fun h => c5 (of_decide_eq_true h)
            · exact c30, c30x2, ?_, rfl⟩, rfl, hX2⟩
        have h9 := hQ27x2 c30x2
        simpa only [Nat.sub_self, Nat.zero_add] using h9
    · -- not taken at 30
      refine g_iload F 0 (dk dtX0_fewest_0 19 rfl) rfl ?_
      refine g_iret (F := F) hQ (dk dtX0_fewest_0 20 rfl) ?_
      refine ⟨Or.inl ⟨1, by decide, fun m hm => by
          rcases (show m = 0 by omega) with rfl
          · exact fun h => c5 (of_decide_eq_true h), c30, ?_, rfl⟩, rfl, hX1⟩
      have h9 := hQ27 c30
      simpa only [Nat.sub_self, Nat.zero_add] using h9
  · -- not taken at 5
    refine g_iconst F (nI 0) (dk dtX0_fewest_0 4 rfl) (by decide) ?_
    refine g_iret (F := F) hQ (dk dtX0_fewest_0 5 rfl) ?_
    exact ⟨Or.inl ⟨0, by decide, fun m hm => absurd hm (Nat.not_lt_zero _), decide_eq_true c5, trivial, rfl⟩, rfl, hX0⟩
set_option maxRecDepth 100000 in
set_option maxHeartbeats 4000000 in
theorem k_X6_plan_m1 (l : Launch) (D : DX) (B : Nat) (T : Int64) (M : Mem) (P : Nat) (hP : M 10 2 = nI P) (hP5 : P ≤ 5) (K : Nat) (hK : M 10 0 = nI K) (hK1 : 1 ≤ K) (hK4 : K ≤ 4) (row nv : Nat → Int32) (hR : NR M 12 row) (hW : WR row) (hM : MW row) (hv : ∀ p, p < P → M 11 p = nv p) (p : Nat) (hp : p < P)  : Ci l D B 108 (celC D B) yX6_plan cX6_plan 4 (some .int) 9 [.ref (B + 0), .int (nI p), .int (-1)] T M (fun rz T1 M1 => fwQ (fun m => ldR nv (nI K) K P p m row) (fun n => PL nv (nI K) K P p n row (fun j => M1 71 j)) rz ∧ T1 = T ∧ Sc M M1) := by
  refine g_entryi (L := [(0, .ref (B + 0)), (1, .int (nI p)), (2, .int (-1))]) (by decide) (Nat.le_of_ble_eq_true rfl) rfl ?_
  intro zp ze zs zm zb zt zc Q F hQ
  refine g_aload_n F 0 (dk dtX6_plan_0 0 rfl) rfl ?_
  refine g_get F fa_X6_19 (dk dtX6_plan_0 1 rfl) (by decide) (cc0 D B _ _) rfl ?_
  refine g_iload_n F 1 (dk dtX6_plan_0 2 rfl) rfl ?_
  refine g_callVi F (As := [.int (nI p)]) (st := []) cv_X6_94 (dk dtX6_plan_0 3 rfl) (by decide) (cc10 D B _ _) rfl rfl (Nat.le_of_ble_eq_true rfl) ⟨by decide, by decide⟩ (k_X5_hasPersonR l D B _ _ _ P hP) (fun r5 T5 M5 hp5 => ?_)
  obtain ⟨e1, e2, e3⟩ := hp5
  replace e1 := e1.symm; replace e2 := e2.symm; replace e3 := e3.symm; subst e1; subst e2; subst e3
  refine g_if_eqB F 21 (dk dtX6_plan_0 4 rfl) (by decide) (fun c => absurd (inR_nI (by omega)) c) (fun _ => ?_)
  refine g_iload_n F 2 (dk dtX6_plan_0 5 rfl) rfl ?_
  refine g_iconst F (-1) (dk dtX6_plan_0 6 rfl) (by decide) ?_
  refine g_icmp_lt F 21 (dk dtX6_plan_0 7 rfl) (by decide) (fun c13 => ?_) (fun c13 => ?_)
  · -- taken at 13
    exact absurd c13 (by decide)
  · -- not taken at 13
    refine g_iload_n F 2 (dk dtX6_plan_0 8 rfl) rfl ?_
    refine g_iconst F (nI 3) (dk dtX6_plan_0 9 rfl) (by decide) ?_
    refine g_icmp_lt F 23 (dk dtX6_plan_0 10 rfl) (by decide) (fun c18 => ?_) (fun c18 => ?_)
    · -- taken at 18
      refine g_aload_n F 0 (dk dtX6_plan_0 13 rfl) rfl ?_
      refine g_get F fa_X6_40 (dk dtX6_plan_0 14 rfl) (by decide) (cc0 D B _ _) rfl ?_
      refine g_aload_n F 0 (dk dtX6_plan_0 15 rfl) rfl ?_
      refine g_get F fa_X6_19 (dk dtX6_plan_0 16 rfl) (by decide) (cc0 D B _ _) rfl ?_
      refine g_aload_n F 0 (dk dtX6_plan_0 17 rfl) rfl ?_
      refine g_get F fa_X6_26 (dk dtX6_plan_0 18 rfl) (by decide) (cc0 D B _ _) rfl ?_
      refine g_iload_n F 1 (dk dtX6_plan_0 19 rfl) rfl ?_
      refine g_callVi F (As := [.ref (B + 10), .ref (B + 12), .int (nI p)]) (st := []) cv_X6_151 (dk dtX6_plan_0 20 rfl) (by decide) (cc69 D B _ _) rfl rfl (Nat.le_of_ble_eq_true rfl) ⟨by decide, by decide⟩ (k_X0_fewest l D B _ _ row nv hR hW hM K P hK hP hK1 hK4 hP5 hv p hp) (fun r36 T36 M36 hp36 => ?_)
      obtain ⟨hq36, hT36, hS36⟩ := hp36
      replace hT36 := hT36.symm; subst hT36
      refine g_istore_n F [(3, .int r36), (0, .ref (B + 0)), (1, .int (nI p)), (2, .int (-1))] (dk dtX6_plan_0 21 rfl) (by decide) rfl ?_
      refine g_iload_n F 3 (dk dtX6_plan_0 22 rfl) rfl ?_
      refine g_iconst F (-1) (dk dtX6_plan_0 23 rfl) (by decide) ?_
      refine g_icmp_ne F 47 (dk dtX6_plan_0 24 rfl) (by decide) (fun c42 => ?_) (fun c42 => ?_)
      · -- taken at 42
        exact absurd rfl c42
      · -- not taken at 42
        refine g_iload_n F 0 (dk dtX6_plan_0 25 rfl) rfl ?_
        refine g_iret (F := F) hQ (dk dtX6_plan_0 26 rfl) ?_
        exact ⟨hq36, rfl, hS36⟩
    · -- not taken at 18
      exact absurd (by decide) c18
set_option maxRecDepth 100000 in
set_option maxHeartbeats 4000000 in
theorem k_X6_plan (l : Launch) (D : DX) (B : Nat) (T : Int64) (M : Mem) (P : Nat) (hP : M 10 2 = nI P) (hP5 : P ≤ 5) (K : Nat) (hK : M 10 0 = nI K) (hK1 : 1 ≤ K) (hK4 : K ≤ 4) (row nv : Nat → Int32) (hR : NR M 12 row) (hW : WR row) (hM : MW row) (hv : ∀ p, p < P → M 11 p = nv p) (p : Nat) (hp : p < P) (k : Nat) (hk : k < 3) : Ci l D B 108 (celC D B) yX6_plan cX6_plan 4 (some .int) 9 [.ref (B + 0), .int (nI p), .int (nI k)] T M (fun rz T1 M1 => fwK (fun m => ldR nv (nI K) K P p m row) (fun n => PL nv (nI K) K P p n row (fun j => M1 71 j)) k (M1 71 k) rz ∧ T1 = T ∧ Sc M M1) := by
  refine g_entryi (L := [(0, .ref (B + 0)), (1, .int (nI p)), (2, .int (nI k))]) (by decide) (Nat.le_of_ble_eq_true rfl) rfl ?_
  intro zp ze zs zm zb zt zc Q F hQ
  refine g_aload_n F 0 (dk dtX6_plan_0 0 rfl) rfl ?_
  refine g_get F fa_X6_19 (dk dtX6_plan_0 1 rfl) (by decide) (cc0 D B _ _) rfl ?_
  refine g_iload_n F 1 (dk dtX6_plan_0 2 rfl) rfl ?_
  refine g_callVi F (As := [.int (nI p)]) (st := []) cv_X6_94 (dk dtX6_plan_0 3 rfl) (by decide) (cc10 D B _ _) rfl rfl (Nat.le_of_ble_eq_true rfl) ⟨by decide, by decide⟩ (k_X5_hasPersonR l D B _ _ _ P hP) (fun r5 T5 M5 hp5 => ?_)
  obtain ⟨e1, e2, e3⟩ := hp5
  replace e1 := e1.symm; replace e2 := e2.symm; replace e3 := e3.symm; subst e1; subst e2; subst e3
  refine g_if_eqB F 21 (dk dtX6_plan_0 4 rfl) (by decide) (fun c => absurd (inR_nI (by omega)) c) (fun _ => ?_)
  refine g_iload_n F 2 (dk dtX6_plan_0 5 rfl) rfl ?_
  refine g_iconst F (-1) (dk dtX6_plan_0 6 rfl) (by decide) ?_
  refine g_icmp_lt F 21 (dk dtX6_plan_0 7 rfl) (by decide) (fun c13 => ?_) (fun c13 => ?_)
  · -- taken at 13
    exact absurd c13 (in_m1 hk).1
  · -- not taken at 13
    refine g_iload_n F 2 (dk dtX6_plan_0 8 rfl) rfl ?_
    refine g_iconst F (nI 3) (dk dtX6_plan_0 9 rfl) (by decide) ?_
    refine g_icmp_ltN F 23 (dk dtX6_plan_0 10 rfl) (by decide) (by omega) (by omega) (fun c18 => ?_) (fun c18 => ?_)
    · -- taken at 18
      refine g_aload_n F 0 (dk dtX6_plan_0 13 rfl) rfl ?_
      refine g_get F fa_X6_40 (dk dtX6_plan_0 14 rfl) (by decide) (cc0 D B _ _) rfl ?_
      refine g_aload_n F 0 (dk dtX6_plan_0 15 rfl) rfl ?_
      refine g_get F fa_X6_19 (dk dtX6_plan_0 16 rfl) (by decide) (cc0 D B _ _) rfl ?_
      refine g_aload_n F 0 (dk dtX6_plan_0 17 rfl) rfl ?_
      refine g_get F fa_X6_26 (dk dtX6_plan_0 18 rfl) (by decide) (cc0 D B _ _) rfl ?_
      refine g_iload_n F 1 (dk dtX6_plan_0 19 rfl) rfl ?_
      refine g_callVi F (As := [.ref (B + 10), .ref (B + 12), .int (nI p)]) (st := []) cv_X6_151 (dk dtX6_plan_0 20 rfl) (by decide) (cc69 D B _ _) rfl rfl (Nat.le_of_ble_eq_true rfl) ⟨by decide, by decide⟩ (k_X0_fewest l D B _ _ row nv hR hW hM K P hK hP hK1 hK4 hP5 hv p hp) (fun r36 T36 M36 hp36 => ?_)
      obtain ⟨hq36, hT36, hS36⟩ := hp36
      replace hT36 := hT36.symm; subst hT36
      rcases hq36 with ⟨n, hn3, hmin, hld, hpl, hrn⟩ | ⟨hno, hrn⟩
      · -- a case
        replace hrn := hrn.symm; subst hrn
        refine g_istore_n F [(3, .int (nI n)), (0, .ref (B + 0)), (1, .int (nI p)), (2, .int (nI k))] (dk dtX6_plan_0 21 rfl) (by decide) rfl ?_
        refine g_iload_n F 3 (dk dtX6_plan_0 22 rfl) rfl ?_
        refine g_iconst F (-1) (dk dtX6_plan_0 23 rfl) (by decide) ?_
        refine g_icmp_ne F 47 (dk dtX6_plan_0 24 rfl) (by decide) (fun c42 => ?_) (fun c42 => ?_)
        · -- taken at 42
          refine g_iload_n F 3 (dk dtX6_plan_0 27 rfl) rfl ?_
          refine g_iload_n F 0 (dk dtX6_plan_0 28 rfl) rfl ?_
          refine g_icmp_geN F 64 (dk dtX6_plan_0 29 rfl) (by decide) (by omega) (by omega) (fun c49 => ?_) (fun c49 => ?_)
          · -- taken at 49
            refine g_bipush F (-9) (dk dtX6_plan_0 36 rfl) (by decide) ?_
            refine g_iret (F := F) hQ (dk dtX6_plan_0 37 rfl) ?_
            exact ⟨Or.inl ⟨n, hn3, hmin, hld, hpl, (if_neg (by omega)).symm⟩, rfl, hS36⟩
          · -- not taken at 49
            refine g_aload_n F 1 (dk dtX6_plan_0 30 rfl) rfl ?_
            refine g_get F fa_X6_40 (dk dtX6_plan_0 31 rfl) (by decide) (cc0 D B _ _) rfl ?_
            refine g_get F fa_X6_155 (dk dtX6_plan_0 32 rfl) (by decide) (cc69 D B _ _) rfl ?_
            refine g_iload_n F 3 (dk dtX6_plan_0 33 rfl) rfl ?_
            refine g_iald F (k) (dk dtX6_plan_0 34 rfl) (by decide) (cc71 D B _ _) (by omega) (by decide) ?_
            refine g_goto F 66 (dk dtX6_plan_0 35 rfl) (by decide) ?_
            refine g_iret (F := F) hQ (dk dtX6_plan_0 37 rfl) ?_
            exact ⟨Or.inl ⟨n, hn3, hmin, hld, hpl, (if_pos (by omega)).symm⟩, rfl, hS36⟩
        · -- not taken at 42
          exact absurd c42 (nI_m1 hk)
      · -- a case
        replace hrn := hrn.symm; subst hrn
        refine g_istore_n F [(3, .int (-9)), (0, .ref (B + 0)), (1, .int (nI p)), (2, .int (nI k))] (dk dtX6_plan_0 21 rfl) (by decide) rfl ?_
        refine g_iload_n F 3 (dk dtX6_plan_0 22 rfl) rfl ?_
        refine g_iconst F (-1) (dk dtX6_plan_0 23 rfl) (by decide) ?_
        refine g_icmp_ne F 47 (dk dtX6_plan_0 24 rfl) (by decide) (fun c42 => ?_) (fun c42 => ?_)
        · -- taken at 42
          refine g_iload_n F 3 (dk dtX6_plan_0 27 rfl) rfl ?_
          refine g_iload_n F 0 (dk dtX6_plan_0 28 rfl) rfl ?_
          refine g_icmp_ge F 64 (dk dtX6_plan_0 29 rfl) (by decide) (fun c49 => ?_) (fun c49 => ?_)
          · -- taken at 49
            refine g_bipush F (-9) (dk dtX6_plan_0 36 rfl) (by decide) ?_
            refine g_iret (F := F) hQ (dk dtX6_plan_0 37 rfl) ?_
            exact ⟨Or.inr ⟨hno, rfl⟩, rfl, hS36⟩
          · -- not taken at 49
            exact absurd (m9_le hk) c49
        · -- not taken at 42
          exact absurd c42 (nI_m1 hk)
    · -- not taken at 18
      exact absurd hk c18
set_option maxRecDepth 100000 in
set_option maxHeartbeats 4000000 in
theorem k_X6_plan_bad (l : Launch) (D : DX) (B : Nat) (T : Int64) (M : Mem) (P : Nat) (hP : M 10 2 = nI P) (hP5 : P ≤ 5) (p k : Int32) (hb : ¬ (inR p P ∧ (¬ k < -1 ∧ ¬ nI 2 < k))) : Ci l D B 108 (celC D B) yX6_plan cX6_plan 4 (some .int) 9 [.ref (B + 0), .int p, .int k] T M (fun rz T1 M1 => rz = (-1) ∧ T1 = T ∧ M1 = M) := by
  refine g_entryi (L := [(0, .ref (B + 0)), (1, .int p), (2, .int k)]) (by decide) (Nat.le_of_ble_eq_true rfl) rfl ?_
  intro zp ze zs zm zb zt zc Q F hQ
  refine g_aload_n F 0 (dk dtX6_plan_0 0 rfl) rfl ?_
  refine g_get F fa_X6_19 (dk dtX6_plan_0 1 rfl) (by decide) (cc0 D B _ _) rfl ?_
  refine g_iload_n F 1 (dk dtX6_plan_0 2 rfl) rfl ?_
  refine g_callVi F (As := [.int p]) (st := []) cv_X6_94 (dk dtX6_plan_0 3 rfl) (by decide) (cc10 D B _ _) rfl rfl (Nat.le_of_ble_eq_true rfl) ⟨by decide, by decide⟩ (k_X5_hasPersonR l D B _ _ _ P hP) (fun r5 T5 M5 hp5 => ?_)
  obtain ⟨e1, e2, e3⟩ := hp5
  replace e1 := e1.symm; replace e2 := e2.symm; replace e3 := e3.symm; subst e1; subst e2; subst e3
  refine g_if_eqB F 21 (dk dtX6_plan_0 4 rfl) (by decide) (fun c8 => ?_) (fun c8 => ?_)
  · -- taken at 8
    refine g_iconst F (-1) (dk dtX6_plan_0 11 rfl) (by decide) ?_
    refine g_iret (F := F) hQ (dk dtX6_plan_0 12 rfl) ?_
    exact ⟨rfl, rfl, rfl⟩
  · -- not taken at 8
    refine g_iload_n F 2 (dk dtX6_plan_0 5 rfl) rfl ?_
    refine g_iconst F (-1) (dk dtX6_plan_0 6 rfl) (by decide) ?_
    refine g_icmp_lt F 21 (dk dtX6_plan_0 7 rfl) (by decide) (fun c13 => ?_) (fun c13 => ?_)
    · -- taken at 13
      refine g_iconst F (-1) (dk dtX6_plan_0 11 rfl) (by decide) ?_
      refine g_iret (F := F) hQ (dk dtX6_plan_0 12 rfl) ?_
      exact ⟨rfl, rfl, rfl⟩
    · -- not taken at 13
      refine g_iload_n F 2 (dk dtX6_plan_0 8 rfl) rfl ?_
      refine g_iconst F (nI 3) (dk dtX6_plan_0 9 rfl) (by decide) ?_
      refine g_icmp_lt F 23 (dk dtX6_plan_0 10 rfl) (by decide) (fun c18 => ?_) (fun c18 => ?_)
      · -- taken at 18
        exact absurd ⟨c8, c13, fun h => absurd (inR_up (b := 2) (by decide) h) (Int32.not_le.mpr c18)⟩ hb
      · -- not taken at 18
        refine g_iconst F (-1) (dk dtX6_plan_0 11 rfl) (by decide) ?_
        refine g_iret (F := F) hQ (dk dtX6_plan_0 12 rfl) ?_
        exact ⟨rfl, rfl, rfl⟩
set_option maxRecDepth 100000 in
set_option maxHeartbeats 4000000 in
theorem k_X0_winsBehind_1_true (l : Launch) (D : DX) (B : Nat) (T : Int64) (M : Mem) (b : Nat) (hb : IsNow D B b) (row nv : Nat → Int32) (hR : NR M b row) (hW : WR row) (hM : MW row) (K P : Nat) (hK : M 10 0 = nI K) (hP : M 10 2 = nI P) (hK1 : 1 ≤ K) (hK4 : K ≤ 4) (hP5 : P ≤ 5) (hv : ∀ p, p < P → M 11 p = nv p) (X : Nat) (hX : M 10 1 = nI X) (hX1 : 1 ≤ X) (hX4 : X ≤ 4) (p : Nat) (hp : p < P) (k x : Nat) (hk : k < K) (hx : x < X) (hbl : b + 5 ≤ 72 ∨ 77 ≤ b) : Ci l D B 108 (celC D B) yX0_winsBehind cX0_winsBehind 9 (some .boolean) 4 [.ref (B + 69), .ref (B + 10), .ref (B + b), .int (nI p), .int (nI 1), .int (nI 1), .int (nI (10 * k + x))] T M (fun rz T1 M1 => rz = bI (fB nv (nI K) K X P p 0 false (evR nv (nI K) row k (nI x) P) = true) ∧ T1 = T ∧ (∀ c, c < 72 ∨ 77 ≤ c → M1 c = M c)) := by
  refine g_entryi (L := [(0, .ref (B + 69)), (1, .ref (B + 10)), (2, .ref (B + b)), (3, .int (nI p)), (4, .int (nI 1)), (5, .int (nI 1)), (6, .int (nI (10 * k + x)))]) (by decide) (Nat.le_of_ble_eq_true rfl) rfl ?_
  intro zp ze zs zm zb zt zc Q F hQ
  refine g_iload F 6 (dk dtX0_winsBehind_0 0 rfl) rfl ?_
  refine g_bipush F (nI 10) (dk dtX0_winsBehind_0 1 rfl) (by decide) ?_
  refine g_idivN F (dk dtX0_winsBehind_0 2 rfl) (by omega) (by omega) (by omega) ?_
  refine g_top (congrArg nI (show (10 * k + x) / 10 = k by omega)) ?_
  refine g_istore F [(7, .int (nI k)), (0, .ref (B + 69)), (1, .ref (B + 10)), (2, .ref (B + b)), (3, .int (nI p)), (4, .int (nI 1)), (5, .int (nI 1)), (6, .int (nI (10 * k + x)))] (dk dtX0_winsBehind_0 3 rfl) (by decide) rfl ?_
  refine g_iload F 7 (dk dtX0_winsBehind_0 4 rfl) rfl ?_
  refine g_bipush F (nI 10) (dk dtX0_winsBehind_0 5 rfl) (by decide) ?_
  refine g_iremN F (dk dtX0_winsBehind_0 6 rfl) (by omega) (by omega) (by omega) ?_
  refine g_top (congrArg nI (show (10 * k + x) % 10 = x by omega)) ?_
  refine g_istore F [(8, .int (nI x)), (7, .int (nI k)), (0, .ref (B + 69)), (1, .ref (B + 10)), (2, .ref (B + b)), (3, .int (nI p)), (4, .int (nI 1)), (5, .int (nI 1)), (6, .int (nI (10 * k + x)))] (dk dtX0_winsBehind_0 7 rfl) (by decide) rfl ?_
  refine g_iload F 6 (dk dtX0_winsBehind_0 8 rfl) rfl ?_
  refine g_iconst F (nI 1) (dk dtX0_winsBehind_0 9 rfl) (by decide) ?_
  refine g_icmp_leN F 26 (dk dtX0_winsBehind_0 10 rfl) (by decide) (by decide) (by decide) (fun _ => ?_) (fun c => absurd c (by decide))
  refine g_aload_n F 3 (dk dtX0_winsBehind_0 14 rfl) rfl ?_
  refine g_aload_n F 4 (dk dtX0_winsBehind_0 15 rfl) rfl ?_
  refine g_iload F 1 (dk dtX0_winsBehind_0 16 rfl) rfl ?_
  refine g_iload F 0 (dk dtX0_winsBehind_0 17 rfl) rfl ?_
  refine g_callVi F (As := [.ref (B + b), .int (nI k), .int (nI x)]) (st := []) cv_X0_57 (dk dtX0_winsBehind_0 18 rfl) (by decide) (cc10 D B _ _) rfl rfl (Nat.le_of_ble_eq_true rfl) ⟨by decide, by decide⟩ (k_X5_mayorBy l D B _ _ b hb k (by omega) _ P hP hP5) (fun r32 T32 M32 hp32 => ?_)
  obtain ⟨e1, e2, e3⟩ := hp32
  replace e1 := e1.symm; replace e2 := e2.symm; replace e3 := e3.symm; subst e1; subst e2; subst e3
  have hmo := myb_mo hR hW hM hK hK1 hK4 (show k < 4 by omega) (nI x) hP5 hv
  refine g_iload_n F 5 (dk dtX0_winsBehind_0 19 rfl) rfl ?_
  refine g_icmp_ne F 43 (dk dtX0_winsBehind_0 20 rfl) (by decide) (fun c36 => ?_) (fun c36 => ?_)
  · -- taken at 36
    refine g_iconst F (nI 0) (dk dtX0_winsBehind_0 23 rfl) (by decide) ?_
    refine g_zret (F := F) hQ (dk dtX0_winsBehind_0 24 rfl) (rfl) ?_
    exact ⟨(bI_f (fun h => c36 (hmo.trans (of_decide_eq_true h)))).symm, rfl, fun c _ => rfl⟩
  · -- not taken at 36
    refine g_iconst F (nI 1) (dk dtX0_winsBehind_0 21 rfl) (by decide) ?_
    refine g_goto F 44 (dk dtX0_winsBehind_0 22 rfl) (by decide) ?_
    refine g_zret (F := F) hQ (dk dtX0_winsBehind_0 24 rfl) (rfl) ?_
    exact ⟨(bI_t (decide_eq_true (hmo.symm.trans c36))).symm, rfl, fun c _ => rfl⟩
set_option maxRecDepth 100000 in
set_option maxHeartbeats 4000000 in
theorem k_X0_winsBehind_1_false (l : Launch) (D : DX) (B : Nat) (T : Int64) (M : Mem) (b : Nat) (hb : IsNow D B b) (row nv : Nat → Int32) (hR : NR M b row) (hW : WR row) (hM : MW row) (K P : Nat) (hK : M 10 0 = nI K) (hP : M 10 2 = nI P) (hK1 : 1 ≤ K) (hK4 : K ≤ 4) (hP5 : P ≤ 5) (hv : ∀ p, p < P → M 11 p = nv p) (X : Nat) (hX : M 10 1 = nI X) (hX1 : 1 ≤ X) (hX4 : X ≤ 4) (p : Nat) (hp : p < P) (k x : Nat) (hk : k < K) (hx : x < X) (hbl : b + 5 ≤ 72 ∨ 77 ≤ b) : Ci l D B 108 (celC D B) yX0_winsBehind cX0_winsBehind 9 (some .boolean) 4 [.ref (B + 69), .ref (B + 10), .ref (B + b), .int (nI p), .int (nI 1), .int (nI 0), .int (nI (10 * k + x))] T M (fun rz T1 M1 => rz = bI (fB nv (nI K) K X P p 0 true (evR nv (nI K) row k (nI x) P) = true) ∧ T1 = T ∧ (∀ c, c < 72 ∨ 77 ≤ c → M1 c = M c)) := by
  refine g_entryi (L := [(0, .ref (B + 69)), (1, .ref (B + 10)), (2, .ref (B + b)), (3, .int (nI p)), (4, .int (nI 1)), (5, .int (nI 0)), (6, .int (nI (10 * k + x)))]) (by decide) (Nat.le_of_ble_eq_true rfl) rfl ?_
  intro zp ze zs zm zb zt zc Q F hQ
  refine g_iload F 6 (dk dtX0_winsBehind_0 0 rfl) rfl ?_
  refine g_bipush F (nI 10) (dk dtX0_winsBehind_0 1 rfl) (by decide) ?_
  refine g_idivN F (dk dtX0_winsBehind_0 2 rfl) (by omega) (by omega) (by omega) ?_
  refine g_top (congrArg nI (show (10 * k + x) / 10 = k by omega)) ?_
  refine g_istore F [(7, .int (nI k)), (0, .ref (B + 69)), (1, .ref (B + 10)), (2, .ref (B + b)), (3, .int (nI p)), (4, .int (nI 1)), (5, .int (nI 0)), (6, .int (nI (10 * k + x)))] (dk dtX0_winsBehind_0 3 rfl) (by decide) rfl ?_
  refine g_iload F 7 (dk dtX0_winsBehind_0 4 rfl) rfl ?_
  refine g_bipush F (nI 10) (dk dtX0_winsBehind_0 5 rfl) (by decide) ?_
  refine g_iremN F (dk dtX0_winsBehind_0 6 rfl) (by omega) (by omega) (by omega) ?_
  refine g_top (congrArg nI (show (10 * k + x) % 10 = x by omega)) ?_
  refine g_istore F [(8, .int (nI x)), (7, .int (nI k)), (0, .ref (B + 69)), (1, .ref (B + 10)), (2, .ref (B + b)), (3, .int (nI p)), (4, .int (nI 1)), (5, .int (nI 0)), (6, .int (nI (10 * k + x)))] (dk dtX0_winsBehind_0 7 rfl) (by decide) rfl ?_
  refine g_iload F 6 (dk dtX0_winsBehind_0 8 rfl) rfl ?_
  refine g_iconst F (nI 1) (dk dtX0_winsBehind_0 9 rfl) (by decide) ?_
  refine g_icmp_leN F 26 (dk dtX0_winsBehind_0 10 rfl) (by decide) (by decide) (by decide) (fun _ => ?_) (fun c => absurd c (by decide))
  refine g_aload_n F 3 (dk dtX0_winsBehind_0 14 rfl) rfl ?_
  refine g_aload_n F 4 (dk dtX0_winsBehind_0 15 rfl) rfl ?_
  refine g_iload F 1 (dk dtX0_winsBehind_0 16 rfl) rfl ?_
  refine g_iload F 0 (dk dtX0_winsBehind_0 17 rfl) rfl ?_
  refine g_callVi F (As := [.ref (B + b), .int (nI k), .int (nI x)]) (st := []) cv_X0_57 (dk dtX0_winsBehind_0 18 rfl) (by decide) (cc10 D B _ _) rfl rfl (Nat.le_of_ble_eq_true rfl) ⟨by decide, by decide⟩ (k_X5_mayorBy l D B _ _ b hb k (by omega) _ P hP hP5) (fun r32 T32 M32 hp32 => ?_)
  obtain ⟨e1, e2, e3⟩ := hp32
  replace e1 := e1.symm; replace e2 := e2.symm; replace e3 := e3.symm; subst e1; subst e2; subst e3
  have hmo := myb_mo hR hW hM hK hK1 hK4 (show k < 4 by omega) (nI x) hP5 hv
  refine g_iload_n F 5 (dk dtX0_winsBehind_0 19 rfl) rfl ?_
  refine g_icmp_ne F 43 (dk dtX0_winsBehind_0 20 rfl) (by decide) (fun c36 => ?_) (fun c36 => ?_)
  · -- taken at 36
    refine g_iconst F (nI 0) (dk dtX0_winsBehind_0 23 rfl) (by decide) ?_
    refine g_zret (F := F) hQ (dk dtX0_winsBehind_0 24 rfl) (rfl) ?_
    exact ⟨(bI_f (fun h => c36 (hmo.trans (of_decide_eq_true h)))).symm, rfl, fun c _ => rfl⟩
  · -- not taken at 36
    refine g_iconst F (nI 1) (dk dtX0_winsBehind_0 21 rfl) (by decide) ?_
    refine g_goto F 44 (dk dtX0_winsBehind_0 22 rfl) (by decide) ?_
    refine g_zret (F := F) hQ (dk dtX0_winsBehind_0 24 rfl) (rfl) ?_
    exact ⟨(bI_t (decide_eq_true (hmo.symm.trans c36))).symm, rfl, fun c _ => rfl⟩
set_option maxRecDepth 100000 in
set_option maxHeartbeats 4000000 in
theorem k_X0_firstWins_1_true (l : Launch) (D : DX) (B : Nat) (T : Int64) (M : Mem) (b : Nat) (hb : IsNow D B b) (row nv : Nat → Int32) (hR : NR M b row) (hW : WR row) (hM : MW row) (K P : Nat) (hK : M 10 0 = nI K) (hP : M 10 2 = nI P) (hK1 : 1 ≤ K) (hK4 : K ≤ 4) (hP5 : P ≤ 5) (hv : ∀ p, p < P → M 11 p = nv p) (X : Nat) (hX : M 10 1 = nI X) (hX1 : 1 ≤ X) (hX4 : X ≤ 4) (p : Nat) (hp : p < P) (hbl : b + 5 ≤ 72 ∨ 77 ≤ b) : Ci l D B 108 (celC D B) yX0_firstWins cX0_firstWins 8 (some .boolean) 5 [.ref (B + 69), .ref (B + 10), .ref (B + b), .int (nI p), .int (nI 1), .int (nI 1)] T M (fun rz T1 M1 => rz = bI (fB nv (nI K) K X P p 1 true row = true) ∧ T1 = T ∧ (∀ c, c < 72 ∨ 77 ≤ c → M1 c = M c)) := by
  refine g_entryi (L := [(0, .ref (B + 69)), (1, .ref (B + 10)), (2, .ref (B + b)), (3, .int (nI p)), (4, .int (nI 1)), (5, .int (nI 1))]) (by decide) (Nat.le_of_ble_eq_true rfl) rfl ?_
  intro zp ze zs zm zb zt zc Q F hQ
  refine g_iconst F (nI 0) (dk dtX0_firstWins_0 0 rfl) (by decide) ?_
  refine g_istore F [(6, .int (nI 0)), (0, .ref (B + 69)), (1, .ref (B + 10)), (2, .ref (B + b)), (3, .int (nI p)), (4, .int (nI 1)), (5, .int (nI 1))] (dk dtX0_firstWins_0 1 rfl) (by decide) rfl ?_
  have lp3 : ∀ (fz : Nat) (i : Nat) (M2 : Mem), (i ≤ K ∧ (∀ c, c < 72 ∨ 77 ≤ c → M2 c = M c) ∧ (∀ i1, i1 < i → ∀ j1, j1 < X → ¬ (fun k x => fB nv (nI K) K X P p 0 false (evR nv (nI K) row k (nI x) P)) i1 j1 = true)) → (K - i) < fz → G zp l ze { frames := 5, cells := 0, slots := 0, locals := 40 * 5 } zs zm [.ref (B + 69), .ref (B + 10), .ref (B + b), .int (nI p), .int (nI 1), .int (nI 1)].toArray zb zt zc 8 D B 108 (celC D B) Q T M2 3 [(0, .ref (B + 69)), (1, .ref (B + 10)), (2, .ref (B + b)), (3, .int (nI p)), (4, .int (nI 1)), (5, .int (nI 1)), (6, .int (nI i))] [] := by
    intro n3
    induction n3 with
    | zero => intro i M2 hI hn; exact absurd hn (Nat.not_lt_zero _)
    | succ n3 ih3 =>
      intro i M2 hI3 hn3
      obtain ⟨hi, hF2, hN2⟩ := hI3
      have hP2 : M2 10 2 = nI P := by rw [hF2 10 (by decide)]; exact hP
      have hK2 : M2 10 0 = nI K := by rw [hF2 10 (by decide)]; exact hK
      have hX2 : M2 10 1 = nI X := by rw [hF2 10 (by decide)]; exact hX
      refine g_iload F 6 (dk dtX0_firstWins_0 2 rfl) rfl ?_
      refine g_aload_n F 1 (dk dtX0_firstWins_0 3 rfl) rfl ?_
      refine g_get F fa_X0_43 (dk dtX0_firstWins_0 4 rfl) (by decide) (cc10 D B _ _) rfl ?_
      refine g_top hK2 ?_
      refine g_icmp_geN F 63 (dk dtX0_firstWins_0 5 rfl) (by decide) (by omega) (by omega) (fun c9 => ?_) (fun c9 => ?_)
      · -- taken at 9
        obtain rfl : K = i := by omega
        refine g_iload F 5 (dk dtX0_firstWins_0 32 rfl) rfl ?_
        refine g_if_neN F 72 (dk dtX0_firstWins_0 33 rfl) (by decide) (by decide) (fun _ => ?_) (fun c => absurd c (by decide))
        refine g_iconst F (nI 0) (dk dtX0_firstWins_0 36 rfl) (by decide) ?_
        refine g_zret (F := F) hQ (dk dtX0_firstWins_0 37 rfl) (rfl) ?_
        exact ⟨(bI_f (fB_tn (fun k hk x hx => hN2 k hk x hx))).symm, rfl, hF2⟩
      · -- not taken at 9
        refine g_iconst F (nI 0) (dk dtX0_firstWins_0 6 rfl) (by decide) ?_
        refine g_istore F [(7, .int (nI 0)), (0, .ref (B + 69)), (1, .ref (B + 10)), (2, .ref (B + b)), (3, .int (nI p)), (4, .int (nI 1)), (5, .int (nI 1)), (6, .int (nI i))] (dk dtX0_firstWins_0 7 rfl) (by decide) rfl ?_
        have lp15 : ∀ (fz : Nat) (j : Nat) (M2 : Mem), (j ≤ X ∧ (∀ c, c < 72 ∨ 77 ≤ c → M2 c = M c) ∧ (∀ j1, j1 < j → ¬ (fun k x => fB nv (nI K) K X P p 0 false (evR nv (nI K) row k (nI x) P)) i j1 = true)) → (X - j) < fz → G zp l ze { frames := 5, cells := 0, slots := 0, locals := 40 * 5 } zs zm [.ref (B + 69), .ref (B + 10), .ref (B + b), .int (nI p), .int (nI 1), .int (nI 1)].toArray zb zt zc 8 D B 108 (celC D B) Q T M2 15 [(0, .ref (B + 69)), (1, .ref (B + 10)), (2, .ref (B + b)), (3, .int (nI p)), (4, .int (nI 1)), (5, .int (nI 1)), (6, .int (nI i)), (7, .int (nI j))] [] := by
          intro n15
          induction n15 with
          | zero => intro j M2 hI hn; exact absurd hn (Nat.not_lt_zero _)
          | succ n15 ih15 =>
            intro j M2 hI15 hn15
            obtain ⟨hj, hF2, hNj⟩ := hI15
            have hP2 : M2 10 2 = nI P := by rw [hF2 10 (by decide)]; exact hP
            have hK2 : M2 10 0 = nI K := by rw [hF2 10 (by decide)]; exact hK
            have hX2 : M2 10 1 = nI X := by rw [hF2 10 (by decide)]; exact hX
            have hR2 : NR M2 b row := hR.to (fun c h1 h2 => hF2 c (by omega))
            have hv2 : ∀ q, q < P → M2 11 q = nv q := fun q hq => by rw [hF2 11 (by decide)]; exact hv q hq
            refine g_iload F 7 (dk dtX0_firstWins_0 8 rfl) rfl ?_
            refine g_aload_n F 1 (dk dtX0_firstWins_0 9 rfl) rfl ?_
            refine g_get F fa_X0_50 (dk dtX0_firstWins_0 10 rfl) (by decide) (cc10 D B _ _) rfl ?_
            refine g_top hX2 ?_
            refine g_icmp_geN F 57 (dk dtX0_firstWins_0 11 rfl) (by decide) (by omega) (by omega) (fun c21 => ?_) (fun c21 => ?_)
            · -- taken at 21
              refine g_iinc F 6 (nI (i + 1)) [(6, .int (nI (i + 1))), (0, .ref (B + 69)), (1, .ref (B + 10)), (2, .ref (B + b)), (3, .int (nI p)), (4, .int (nI 1)), (5, .int (nI 1)), (7, .int (nI j))] (dk dtX0_firstWins_0 30 rfl) rfl (nI_1 _) (by decide) rfl ?_
              refine g_goto F 3 (dk dtX0_firstWins_0 31 rfl) (by decide) ?_
              refine g_sub [1, 2, 3, 4, 5, 6, 0] (L1 := [(0, .ref (B + 69)), (1, .ref (B + 10)), (2, .ref (B + b)), (3, .int (nI p)), (4, .int (nI 1)), (5, .int (nI 1)), (6, .int (nI (i + 1)))]) rfl ?_
              exact ih3 (i + 1) M2 ⟨by omega, hF2, fun i1 h1 j1 h2 => by
                by_cases e : i1 = i
                · subst e; exact hNj j1 (by omega)
                · exact hN2 i1 (by omega) j1 h2⟩ (by omega)
            · -- not taken at 21
              refine g_aload_n F 0 (dk dtX0_firstWins_0 12 rfl) rfl ?_
              refine g_aload_n F 1 (dk dtX0_firstWins_0 13 rfl) rfl ?_
              refine g_aload_n F 2 (dk dtX0_firstWins_0 14 rfl) rfl ?_
              refine g_iload_n F 3 (dk dtX0_firstWins_0 15 rfl) rfl ?_
              refine g_iload F 4 (dk dtX0_firstWins_0 16 rfl) rfl ?_
              refine g_iload F 5 (dk dtX0_firstWins_0 17 rfl) rfl ?_
              refine g_bipush F (nI 10) (dk dtX0_firstWins_0 18 rfl) (by decide) ?_
              refine g_iload F 6 (dk dtX0_firstWins_0 19 rfl) rfl ?_
              refine g_imulN F (dk dtX0_firstWins_0 20 rfl) ?_
              refine g_iload F 7 (dk dtX0_firstWins_0 21 rfl) rfl ?_
              refine g_iaddN F (dk dtX0_firstWins_0 22 rfl) ?_
              refine g_callVi F (As := [.ref (B + 10), .ref (B + b), .int (nI p), .int (nI 1), .int (nI 1), .int (nI ((10 * i) + j))]) (st := []) cv_X0_53 (dk dtX0_firstWins_0 23 rfl) (by decide) (cc69 D B _ _) rfl rfl (Nat.le_of_ble_eq_true rfl) ⟨by decide, by decide⟩ (k_X0_winsBehind_1_true l D B _ _ b hb row nv hR2 hW hM K P hK2 hP2 hK1 hK4 hP5 hv2 X hX2 hX1 hX4 p hp i j (by omega) (by omega) (by omega)) (fun r40 T40 M40 hp40 => ?_)
              obtain ⟨hr40, hT40, hF4⟩ := hp40
              replace hT40 := hT40.symm; subst hT40; replace hr40 := hr40.symm; subst hr40
              refine g_iload F 5 (dk dtX0_firstWins_0 24 rfl) rfl ?_
              refine g_icmp_neB1 F 51 (dk dtX0_firstWins_0 25 rfl) (by decide) (fun c45 => ?_) (fun c45 => ?_)
              · -- taken at 45
                refine g_iinc F 7 (nI (j + 1)) [(7, .int (nI (j + 1))), (0, .ref (B + 69)), (1, .ref (B + 10)), (2, .ref (B + b)), (3, .int (nI p)), (4, .int (nI 1)), (5, .int (nI 1)), (6, .int (nI i))] (dk dtX0_firstWins_0 28 rfl) rfl (nI_1 _) (by decide) rfl ?_
                refine g_goto F 15 (dk dtX0_firstWins_0 29 rfl) (by decide) ?_
                refine g_sub [1, 2, 3, 4, 5, 6, 7, 0] (L1 := [(0, .ref (B + 69)), (1, .ref (B + 10)), (2, .ref (B + b)), (3, .int (nI p)), (4, .int (nI 1)), (5, .int (nI 1)), (6, .int (nI i)), (7, .int (nI (j + 1)))]) rfl ?_
                exact ih15 (j + 1) _ ⟨by omega, fun c hc => by rw [hF4 c (by omega)]; exact hF2 c hc, fun j1 h1 => by
                  by_cases e : j1 = j
                  · subst e; exact c45
                  · exact hNj j1 (by omega)⟩ (by omega)
              · -- not taken at 45
                refine g_iload F 5 (dk dtX0_firstWins_0 26 rfl) rfl ?_
                refine g_zret (F := F) hQ (dk dtX0_firstWins_0 27 rfl) (rfl) ?_
                exact ⟨(bI_t (fB_t (by omega) (by omega) c45)).symm, rfl, fun c hc => by rw [hF4 c (by omega)]; exact hF2 c hc⟩
        refine g_sub [1, 2, 3, 4, 5, 6, 7, 0] (L1 := [(0, .ref (B + 69)), (1, .ref (B + 10)), (2, .ref (B + b)), (3, .int (nI p)), (4, .int (nI 1)), (5, .int (nI 1)), (6, .int (nI i)), (7, .int (nI 0))]) rfl ?_
        exact lp15 (X + 1) 0 M2 ⟨by omega, hF2, fun j1 h => absurd h (Nat.not_lt_zero _)⟩ (by omega)
  refine g_sub [1, 2, 3, 4, 5, 6, 0] (L1 := [(0, .ref (B + 69)), (1, .ref (B + 10)), (2, .ref (B + b)), (3, .int (nI p)), (4, .int (nI 1)), (5, .int (nI 1)), (6, .int (nI 0))]) rfl ?_
  exact lp3 (K + 1) 0 M ⟨by omega, fun c _ => rfl, fun i1 h => absurd h (Nat.not_lt_zero _)⟩ (by omega)
set_option maxRecDepth 100000 in
set_option maxHeartbeats 4000000 in
theorem k_X0_firstWins_1_false (l : Launch) (D : DX) (B : Nat) (T : Int64) (M : Mem) (b : Nat) (hb : IsNow D B b) (row nv : Nat → Int32) (hR : NR M b row) (hW : WR row) (hM : MW row) (K P : Nat) (hK : M 10 0 = nI K) (hP : M 10 2 = nI P) (hK1 : 1 ≤ K) (hK4 : K ≤ 4) (hP5 : P ≤ 5) (hv : ∀ p, p < P → M 11 p = nv p) (X : Nat) (hX : M 10 1 = nI X) (hX1 : 1 ≤ X) (hX4 : X ≤ 4) (p : Nat) (hp : p < P) (hbl : b + 5 ≤ 72 ∨ 77 ≤ b) : Ci l D B 108 (celC D B) yX0_firstWins cX0_firstWins 8 (some .boolean) 5 [.ref (B + 69), .ref (B + 10), .ref (B + b), .int (nI p), .int (nI 1), .int (nI 0)] T M (fun rz T1 M1 => rz = bI (fB nv (nI K) K X P p 1 false row = true) ∧ T1 = T ∧ (∀ c, c < 72 ∨ 77 ≤ c → M1 c = M c)) := by
  refine g_entryi (L := [(0, .ref (B + 69)), (1, .ref (B + 10)), (2, .ref (B + b)), (3, .int (nI p)), (4, .int (nI 1)), (5, .int (nI 0))]) (by decide) (Nat.le_of_ble_eq_true rfl) rfl ?_
  intro zp ze zs zm zb zt zc Q F hQ
  refine g_iconst F (nI 0) (dk dtX0_firstWins_0 0 rfl) (by decide) ?_
  refine g_istore F [(6, .int (nI 0)), (0, .ref (B + 69)), (1, .ref (B + 10)), (2, .ref (B + b)), (3, .int (nI p)), (4, .int (nI 1)), (5, .int (nI 0))] (dk dtX0_firstWins_0 1 rfl) (by decide) rfl ?_
  have lp3 : ∀ (fz : Nat) (i : Nat) (M2 : Mem), (i ≤ K ∧ (∀ c, c < 72 ∨ 77 ≤ c → M2 c = M c) ∧ (∀ i1, i1 < i → ∀ j1, j1 < X → ¬ (fun k x => fB nv (nI K) K X P p 0 true (evR nv (nI K) row k (nI x) P)) i1 j1 = false)) → (K - i) < fz → G zp l ze { frames := 5, cells := 0, slots := 0, locals := 40 * 5 } zs zm [.ref (B + 69), .ref (B + 10), .ref (B + b), .int (nI p), .int (nI 1), .int (nI 0)].toArray zb zt zc 8 D B 108 (celC D B) Q T M2 3 [(0, .ref (B + 69)), (1, .ref (B + 10)), (2, .ref (B + b)), (3, .int (nI p)), (4, .int (nI 1)), (5, .int (nI 0)), (6, .int (nI i))] [] := by
    intro n3
    induction n3 with
    | zero => intro i M2 hI hn; exact absurd hn (Nat.not_lt_zero _)
    | succ n3 ih3 =>
      intro i M2 hI3 hn3
      obtain ⟨hi, hF2, hN2⟩ := hI3
      have hP2 : M2 10 2 = nI P := by rw [hF2 10 (by decide)]; exact hP
      have hK2 : M2 10 0 = nI K := by rw [hF2 10 (by decide)]; exact hK
      have hX2 : M2 10 1 = nI X := by rw [hF2 10 (by decide)]; exact hX
      refine g_iload F 6 (dk dtX0_firstWins_0 2 rfl) rfl ?_
      refine g_aload_n F 1 (dk dtX0_firstWins_0 3 rfl) rfl ?_
      refine g_get F fa_X0_43 (dk dtX0_firstWins_0 4 rfl) (by decide) (cc10 D B _ _) rfl ?_
      refine g_top hK2 ?_
      refine g_icmp_geN F 63 (dk dtX0_firstWins_0 5 rfl) (by decide) (by omega) (by omega) (fun c9 => ?_) (fun c9 => ?_)
      · -- taken at 9
        obtain rfl : K = i := by omega
        refine g_iload F 5 (dk dtX0_firstWins_0 32 rfl) rfl ?_
        refine g_if_neN F 72 (dk dtX0_firstWins_0 33 rfl) (by decide) (by decide) (fun c => absurd c (by decide)) (fun _ => ?_)
        refine g_iconst F (nI 1) (dk dtX0_firstWins_0 34 rfl) (by decide) ?_
        refine g_goto F 73 (dk dtX0_firstWins_0 35 rfl) (by decide) ?_
        refine g_zret (F := F) hQ (dk dtX0_firstWins_0 37 rfl) (rfl) ?_
        exact ⟨(bI_t (fB_fn (fun k hk x hx => hN2 k hk x hx))).symm, rfl, hF2⟩
      · -- not taken at 9
        refine g_iconst F (nI 0) (dk dtX0_firstWins_0 6 rfl) (by decide) ?_
        refine g_istore F [(7, .int (nI 0)), (0, .ref (B + 69)), (1, .ref (B + 10)), (2, .ref (B + b)), (3, .int (nI p)), (4, .int (nI 1)), (5, .int (nI 0)), (6, .int (nI i))] (dk dtX0_firstWins_0 7 rfl) (by decide) rfl ?_
        have lp15 : ∀ (fz : Nat) (j : Nat) (M2 : Mem), (j ≤ X ∧ (∀ c, c < 72 ∨ 77 ≤ c → M2 c = M c) ∧ (∀ j1, j1 < j → ¬ (fun k x => fB nv (nI K) K X P p 0 true (evR nv (nI K) row k (nI x) P)) i j1 = false)) → (X - j) < fz → G zp l ze { frames := 5, cells := 0, slots := 0, locals := 40 * 5 } zs zm [.ref (B + 69), .ref (B + 10), .ref (B + b), .int (nI p), .int (nI 1), .int (nI 0)].toArray zb zt zc 8 D B 108 (celC D B) Q T M2 15 [(0, .ref (B + 69)), (1, .ref (B + 10)), (2, .ref (B + b)), (3, .int (nI p)), (4, .int (nI 1)), (5, .int (nI 0)), (6, .int (nI i)), (7, .int (nI j))] [] := by
          intro n15
          induction n15 with
          | zero => intro j M2 hI hn; exact absurd hn (Nat.not_lt_zero _)
          | succ n15 ih15 =>
            intro j M2 hI15 hn15
            obtain ⟨hj, hF2, hNj⟩ := hI15
            have hP2 : M2 10 2 = nI P := by rw [hF2 10 (by decide)]; exact hP
            have hK2 : M2 10 0 = nI K := by rw [hF2 10 (by decide)]; exact hK
            have hX2 : M2 10 1 = nI X := by rw [hF2 10 (by decide)]; exact hX
            have hR2 : NR M2 b row := hR.to (fun c h1 h2 => hF2 c (by omega))
            have hv2 : ∀ q, q < P → M2 11 q = nv q := fun q hq => by rw [hF2 11 (by decide)]; exact hv q hq
            refine g_iload F 7 (dk dtX0_firstWins_0 8 rfl) rfl ?_
            refine g_aload_n F 1 (dk dtX0_firstWins_0 9 rfl) rfl ?_
            refine g_get F fa_X0_50 (dk dtX0_firstWins_0 10 rfl) (by decide) (cc10 D B _ _) rfl ?_
            refine g_top hX2 ?_
            refine g_icmp_geN F 57 (dk dtX0_firstWins_0 11 rfl) (by decide) (by omega) (by omega) (fun c21 => ?_) (fun c21 => ?_)
            · -- taken at 21
              refine g_iinc F 6 (nI (i + 1)) [(6, .int (nI (i + 1))), (0, .ref (B + 69)), (1, .ref (B + 10)), (2, .ref (B + b)), (3, .int (nI p)), (4, .int (nI 1)), (5, .int (nI 0)), (7, .int (nI j))] (dk dtX0_firstWins_0 30 rfl) rfl (nI_1 _) (by decide) rfl ?_
              refine g_goto F 3 (dk dtX0_firstWins_0 31 rfl) (by decide) ?_
              refine g_sub [1, 2, 3, 4, 5, 6, 0] (L1 := [(0, .ref (B + 69)), (1, .ref (B + 10)), (2, .ref (B + b)), (3, .int (nI p)), (4, .int (nI 1)), (5, .int (nI 0)), (6, .int (nI (i + 1)))]) rfl ?_
              exact ih3 (i + 1) M2 ⟨by omega, hF2, fun i1 h1 j1 h2 => by
                by_cases e : i1 = i
                · subst e; exact hNj j1 (by omega)
                · exact hN2 i1 (by omega) j1 h2⟩ (by omega)
            · -- not taken at 21
              refine g_aload_n F 0 (dk dtX0_firstWins_0 12 rfl) rfl ?_
              refine g_aload_n F 1 (dk dtX0_firstWins_0 13 rfl) rfl ?_
              refine g_aload_n F 2 (dk dtX0_firstWins_0 14 rfl) rfl ?_
              refine g_iload_n F 3 (dk dtX0_firstWins_0 15 rfl) rfl ?_
              refine g_iload F 4 (dk dtX0_firstWins_0 16 rfl) rfl ?_
              refine g_iload F 5 (dk dtX0_firstWins_0 17 rfl) rfl ?_
              refine g_bipush F (nI 10) (dk dtX0_firstWins_0 18 rfl) (by decide) ?_
              refine g_iload F 6 (dk dtX0_firstWins_0 19 rfl) rfl ?_
              refine g_imulN F (dk dtX0_firstWins_0 20 rfl) ?_
              refine g_iload F 7 (dk dtX0_firstWins_0 21 rfl) rfl ?_
              refine g_iaddN F (dk dtX0_firstWins_0 22 rfl) ?_
              refine g_callVi F (As := [.ref (B + 10), .ref (B + b), .int (nI p), .int (nI 1), .int (nI 0), .int (nI ((10 * i) + j))]) (st := []) cv_X0_53 (dk dtX0_firstWins_0 23 rfl) (by decide) (cc69 D B _ _) rfl rfl (Nat.le_of_ble_eq_true rfl) ⟨by decide, by decide⟩ (k_X0_winsBehind_1_false l D B _ _ b hb row nv hR2 hW hM K P hK2 hP2 hK1 hK4 hP5 hv2 X hX2 hX1 hX4 p hp i j (by omega) (by omega) (by omega)) (fun r40 T40 M40 hp40 => ?_)
              obtain ⟨hr40, hT40, hF4⟩ := hp40
              replace hT40 := hT40.symm; subst hT40; replace hr40 := hr40.symm; subst hr40
              refine g_iload F 5 (dk dtX0_firstWins_0 24 rfl) rfl ?_
              refine g_icmp_ne F 51 (dk dtX0_firstWins_0 25 rfl) (by decide) (fun c45 => ?_) (fun c45 => ?_)
              · -- taken at 45
                refine g_iinc F 7 (nI (j + 1)) [(7, .int (nI (j + 1))), (0, .ref (B + 69)), (1, .ref (B + 10)), (2, .ref (B + b)), (3, .int (nI p)), (4, .int (nI 1)), (5, .int (nI 0)), (6, .int (nI i))] (dk dtX0_firstWins_0 28 rfl) rfl (nI_1 _) (by decide) rfl ?_
                refine g_goto F 15 (dk dtX0_firstWins_0 29 rfl) (by decide) ?_
                refine g_sub [1, 2, 3, 4, 5, 6, 7, 0] (L1 := [(0, .ref (B + 69)), (1, .ref (B + 10)), (2, .ref (B + b)), (3, .int (nI p)), (4, .int (nI 1)), (5, .int (nI 0)), (6, .int (nI i)), (7, .int (nI (j + 1)))]) rfl ?_
                exact ih15 (j + 1) _ ⟨by omega, fun c hc => by rw [hF4 c (by omega)]; exact hF2 c hc, fun j1 h1 => by
                  by_cases e : j1 = j
                  · subst e; exact fun h => c45 (bI_f (fun q => Bool.false_ne_true (h.symm.trans q)))
                  · exact hNj j1 (by omega)⟩ (by omega)
              · -- not taken at 45
                refine g_iload F 5 (dk dtX0_firstWins_0 26 rfl) rfl ?_
                refine g_zret (F := F) hQ (dk dtX0_firstWins_0 27 rfl) (rfl) ?_
                exact ⟨(bI_f (fB_f (by omega) (by omega) (bI_ff c45))).symm, rfl, fun c hc => by rw [hF4 c (by omega)]; exact hF2 c hc⟩
        refine g_sub [1, 2, 3, 4, 5, 6, 7, 0] (L1 := [(0, .ref (B + 69)), (1, .ref (B + 10)), (2, .ref (B + b)), (3, .int (nI p)), (4, .int (nI 1)), (5, .int (nI 0)), (6, .int (nI i)), (7, .int (nI 0))]) rfl ?_
        exact lp15 (X + 1) 0 M2 ⟨by omega, hF2, fun j1 h => absurd h (Nat.not_lt_zero _)⟩ (by omega)
  refine g_sub [1, 2, 3, 4, 5, 6, 0] (L1 := [(0, .ref (B + 69)), (1, .ref (B + 10)), (2, .ref (B + b)), (3, .int (nI p)), (4, .int (nI 1)), (5, .int (nI 0)), (6, .int (nI 0))]) rfl ?_
  exact lp3 (K + 1) 0 M ⟨by omega, fun c _ => rfl, fun i1 h => absurd h (Nat.not_lt_zero _)⟩ (by omega)
set_option maxRecDepth 100000 in
set_option maxHeartbeats 4000000 in
theorem k_X0_winsBehind_2_true (l : Launch) (D : DX) (B : Nat) (T : Int64) (M : Mem) (b : Nat) (hb : IsNow D B b) (row nv : Nat → Int32) (hR : NR M b row) (hW : WR row) (hM : MW row) (K P : Nat) (hK : M 10 0 = nI K) (hP : M 10 2 = nI P) (hK1 : 1 ≤ K) (hK4 : K ≤ 4) (hP5 : P ≤ 5) (hv : ∀ p, p < P → M 11 p = nv p) (X : Nat) (hX : M 10 1 = nI X) (hX1 : 1 ≤ X) (hX4 : X ≤ 4) (p : Nat) (hp : p < P) (k x : Nat) (hk : k < K) (hx : x < X) (hbl : b + 5 ≤ 72 ∨ 82 ≤ b) : Ci l D B 108 (celC D B) yX0_winsBehind cX0_winsBehind 9 (some .boolean) 6 [.ref (B + 69), .ref (B + 10), .ref (B + b), .int (nI p), .int (nI 2), .int (nI 1), .int (nI (10 * k + x))] T M (fun rz T1 M1 => rz = bI (fB nv (nI K) K X P p 1 false (evR nv (nI K) row k (nI x) P) = true) ∧ T1 = T ∧ (∀ c, c < 72 ∨ 82 ≤ c → M1 c = M c)) := by
  refine g_entryi (L := [(0, .ref (B + 69)), (1, .ref (B + 10)), (2, .ref (B + b)), (3, .int (nI p)), (4, .int (nI 2)), (5, .int (nI 1)), (6, .int (nI (10 * k + x)))]) (by decide) (Nat.le_of_ble_eq_true rfl) rfl ?_
  intro zp ze zs zm zb zt zc Q F hQ
  refine g_iload F 6 (dk dtX0_winsBehind_0 0 rfl) rfl ?_
  refine g_bipush F (nI 10) (dk dtX0_winsBehind_0 1 rfl) (by decide) ?_
  refine g_idivN F (dk dtX0_winsBehind_0 2 rfl) (by omega) (by omega) (by omega) ?_
  refine g_top (congrArg nI (show (10 * k + x) / 10 = k by omega)) ?_
  refine g_istore F [(7, .int (nI k)), (0, .ref (B + 69)), (1, .ref (B + 10)), (2, .ref (B + b)), (3, .int (nI p)), (4, .int (nI 2)), (5, .int (nI 1)), (6, .int (nI (10 * k + x)))] (dk dtX0_winsBehind_0 3 rfl) (by decide) rfl ?_
  refine g_iload F 7 (dk dtX0_winsBehind_0 4 rfl) rfl ?_
  refine g_bipush F (nI 10) (dk dtX0_winsBehind_0 5 rfl) (by decide) ?_
  refine g_iremN F (dk dtX0_winsBehind_0 6 rfl) (by omega) (by omega) (by omega) ?_
  refine g_top (congrArg nI (show (10 * k + x) % 10 = x by omega)) ?_
  refine g_istore F [(8, .int (nI x)), (7, .int (nI k)), (0, .ref (B + 69)), (1, .ref (B + 10)), (2, .ref (B + b)), (3, .int (nI p)), (4, .int (nI 2)), (5, .int (nI 1)), (6, .int (nI (10 * k + x)))] (dk dtX0_winsBehind_0 7 rfl) (by decide) rfl ?_
  refine g_iload F 6 (dk dtX0_winsBehind_0 8 rfl) rfl ?_
  refine g_iconst F (nI 1) (dk dtX0_winsBehind_0 9 rfl) (by decide) ?_
  refine g_icmp_leN F 26 (dk dtX0_winsBehind_0 10 rfl) (by decide) (by decide) (by decide) (fun c => absurd c (by decide)) (fun _ => ?_)
  refine g_iload F 6 (dk dtX0_winsBehind_0 11 rfl) rfl ?_
  refine g_iconst F (nI 3) (dk dtX0_winsBehind_0 12 rfl) (by decide) ?_
  refine g_icmp_leN F 45 (dk dtX0_winsBehind_0 13 rfl) (by decide) (by decide) (by decide) (fun _ => ?_) (fun c => absurd c (by decide))
  refine g_aload_n F 2 (dk dtX0_winsBehind_0 25 rfl) rfl ?_
  refine g_aload_n F 3 (dk dtX0_winsBehind_0 26 rfl) rfl ?_
  refine g_aload_n F 2 (dk dtX0_winsBehind_0 27 rfl) rfl ?_
  refine g_aload_n F 3 (dk dtX0_winsBehind_0 28 rfl) rfl ?_
  refine g_aload_n F 4 (dk dtX0_winsBehind_0 29 rfl) rfl ?_
  refine g_iload F 6 (dk dtX0_winsBehind_0 30 rfl) rfl ?_
  refine g_iload F 1 (dk dtX0_winsBehind_0 31 rfl) rfl ?_
  refine g_iload F 0 (dk dtX0_winsBehind_0 32 rfl) rfl ?_
  have hcK : (cpN M 77 b) 10 0 = nI K := by rw [cpN_fr _ _ _ (by omega)]; exact hK
  have hv1 : ∀ q, q < P → (cpN M 77 b) 11 q = nv q := fun q hq => by rw [cpN_fr _ _ _ (by omega)]; exact hv q hq
  have hR3 : NR (hpM (cpN M 77 b) 77 k (nI x) P) 77 (evR nv (nI K) row k (nI x) P) := hp_NR (cpN_NR hR) hW hM hcK hK1 hK4 (by omega) (nI x) hP5 hv1
  have hK3 : (hpM (cpN M 77 b) 77 k (nI x) P) 10 0 = nI K := by rw [hpM_fr _ _ _ _ _ (by omega)]; exact hcK
  have hP3 : (hpM (cpN M 77 b) 77 k (nI x) P) 10 2 = nI P := by rw [hpM_fr _ _ _ _ _ (by omega), cpN_fr _ _ _ (by omega)]; exact hP
  have hX3 : (hpM (cpN M 77 b) 77 k (nI x) P) 10 1 = nI X := by rw [hpM_fr _ _ _ _ _ (by omega), cpN_fr _ _ _ (by omega)]; exact hX
  have hv3 : ∀ q, q < P → (hpM (cpN M 77 b) 77 k (nI x) P) 11 q = nv q := fun q hq => by rw [hpM_fr _ _ _ _ _ (by omega)]; exact hv1 q hq
  refine g_callVr F (As := [.ref (B + 10), .ref (B + b), .int (nI 2), .int (nI k), .int (nI x)]) (st := [.ref (B + 10), .ref (B + 69)]) cv_X0_46 (dk dtX0_winsBehind_0 33 rfl) (by decide) (cc69 D B _ _) rfl rfl (Nat.le_of_ble_eq_true rfl) ⟨by decide, by decide⟩ (k_X0_behind l D B _ _ b 1 hb (by decide) k (by omega) _ P hP hP5) (fun T56 M56 hp56 => ?_)
  obtain ⟨e2, e3⟩ := hp56
  replace e2 := e2.symm; replace e3 := e3.symm; subst e2; subst e3
  refine g_iload_n F 5 (dk dtX0_winsBehind_0 34 rfl) rfl ?_
  refine g_iload F 6 (dk dtX0_winsBehind_0 35 rfl) rfl ?_
  refine g_iconst F (nI 1) (dk dtX0_winsBehind_0 36 rfl) (by decide) ?_
  refine g_isubN F (dk dtX0_winsBehind_0 37 rfl) (by omega) ?_
  refine g_iload F 7 (dk dtX0_winsBehind_0 38 rfl) rfl ?_
  refine g_if_neN F 73 (dk dtX0_winsBehind_0 39 rfl) (by decide) (by decide) (fun _ => ?_) (fun c => absurd c (by decide))
  refine g_iconst F (nI 0) (dk dtX0_winsBehind_0 42 rfl) (by decide) ?_
  refine g_callVi F (As := [.ref (B + 10), .ref (B + 77), .int (nI p), .int (nI (2 - 1)), .int (nI 0)]) (st := []) cv_X0_60 (dk dtX0_winsBehind_0 43 rfl) (by decide) (cc69 D B _ _) rfl rfl (Nat.le_of_ble_eq_true rfl) ⟨by decide, by decide⟩ (k_X0_firstWins_1_false l D B _ _ 77 (isNow77 D B) (evR nv (nI K) row k (nI x) P) nv hR3 (evR_WR hW (by omega)) (evR_MW hM (by omega) _ hP5) K P hK3 hP3 hK1 hK4 hP5 hv3 X hX3 hX1 hX4 p hp (by decide)) (fun r74 T74 M74 hp74 => ?_)
  obtain ⟨hr74, hT74, hF4⟩ := hp74
  replace hT74 := hT74.symm; subst hT74; replace hr74 := hr74.symm; subst hr74
  refine g_zret (F := F) hQ (dk dtX0_winsBehind_0 44 rfl) (bI_nar) ?_
  exact ⟨rfl, rfl, fun c hc => by rw [hF4 c (by omega), hpM_fr _ _ _ _ _ (by omega), cpN_fr _ _ _ (by omega)]⟩
set_option maxRecDepth 100000 in
set_option maxHeartbeats 4000000 in
theorem k_X0_winsBehind_2_false (l : Launch) (D : DX) (B : Nat) (T : Int64) (M : Mem) (b : Nat) (hb : IsNow D B b) (row nv : Nat → Int32) (hR : NR M b row) (hW : WR row) (hM : MW row) (K P : Nat) (hK : M 10 0 = nI K) (hP : M 10 2 = nI P) (hK1 : 1 ≤ K) (hK4 : K ≤ 4) (hP5 : P ≤ 5) (hv : ∀ p, p < P → M 11 p = nv p) (X : Nat) (hX : M 10 1 = nI X) (hX1 : 1 ≤ X) (hX4 : X ≤ 4) (p : Nat) (hp : p < P) (k x : Nat) (hk : k < K) (hx : x < X) (hbl : b + 5 ≤ 72 ∨ 82 ≤ b) : Ci l D B 108 (celC D B) yX0_winsBehind cX0_winsBehind 9 (some .boolean) 6 [.ref (B + 69), .ref (B + 10), .ref (B + b), .int (nI p), .int (nI 2), .int (nI 0), .int (nI (10 * k + x))] T M (fun rz T1 M1 => rz = bI (fB nv (nI K) K X P p 1 true (evR nv (nI K) row k (nI x) P) = true) ∧ T1 = T ∧ (∀ c, c < 72 ∨ 82 ≤ c → M1 c = M c)) := by
  refine g_entryi (L := [(0, .ref (B + 69)), (1, .ref (B + 10)), (2, .ref (B + b)), (3, .int (nI p)), (4, .int (nI 2)), (5, .int (nI 0)), (6, .int (nI (10 * k + x)))]) (by decide) (Nat.le_of_ble_eq_true rfl) rfl ?_
  intro zp ze zs zm zb zt zc Q F hQ
  refine g_iload F 6 (dk dtX0_winsBehind_0 0 rfl) rfl ?_
  refine g_bipush F (nI 10) (dk dtX0_winsBehind_0 1 rfl) (by decide) ?_
  refine g_idivN F (dk dtX0_winsBehind_0 2 rfl) (by omega) (by omega) (by omega) ?_
  refine g_top (congrArg nI (show (10 * k + x) / 10 = k by omega)) ?_
  refine g_istore F [(7, .int (nI k)), (0, .ref (B + 69)), (1, .ref (B + 10)), (2, .ref (B + b)), (3, .int (nI p)), (4, .int (nI 2)), (5, .int (nI 0)), (6, .int (nI (10 * k + x)))] (dk dtX0_winsBehind_0 3 rfl) (by decide) rfl ?_
  refine g_iload F 7 (dk dtX0_winsBehind_0 4 rfl) rfl ?_
  refine g_bipush F (nI 10) (dk dtX0_winsBehind_0 5 rfl) (by decide) ?_
  refine g_iremN F (dk dtX0_winsBehind_0 6 rfl) (by omega) (by omega) (by omega) ?_
  refine g_top (congrArg nI (show (10 * k + x) % 10 = x by omega)) ?_
  refine g_istore F [(8, .int (nI x)), (7, .int (nI k)), (0, .ref (B + 69)), (1, .ref (B + 10)), (2, .ref (B + b)), (3, .int (nI p)), (4, .int (nI 2)), (5, .int (nI 0)), (6, .int (nI (10 * k + x)))] (dk dtX0_winsBehind_0 7 rfl) (by decide) rfl ?_
  refine g_iload F 6 (dk dtX0_winsBehind_0 8 rfl) rfl ?_
  refine g_iconst F (nI 1) (dk dtX0_winsBehind_0 9 rfl) (by decide) ?_
  refine g_icmp_leN F 26 (dk dtX0_winsBehind_0 10 rfl) (by decide) (by decide) (by decide) (fun c => absurd c (by decide)) (fun _ => ?_)
  refine g_iload F 6 (dk dtX0_winsBehind_0 11 rfl) rfl ?_
  refine g_iconst F (nI 3) (dk dtX0_winsBehind_0 12 rfl) (by decide) ?_
  refine g_icmp_leN F 45 (dk dtX0_winsBehind_0 13 rfl) (by decide) (by decide) (by decide) (fun _ => ?_) (fun c => absurd c (by decide))
  refine g_aload_n F 2 (dk dtX0_winsBehind_0 25 rfl) rfl ?_
  refine g_aload_n F 3 (dk dtX0_winsBehind_0 26 rfl) rfl ?_
  refine g_aload_n F 2 (dk dtX0_winsBehind_0 27 rfl) rfl ?_
  refine g_aload_n F 3 (dk dtX0_winsBehind_0 28 rfl) rfl ?_
  refine g_aload_n F 4 (dk dtX0_winsBehind_0 29 rfl) rfl ?_
  refine g_iload F 6 (dk dtX0_winsBehind_0 30 rfl) rfl ?_
  refine g_iload F 1 (dk dtX0_winsBehind_0 31 rfl) rfl ?_
  refine g_iload F 0 (dk dtX0_winsBehind_0 32 rfl) rfl ?_
  have hcK : (cpN M 77 b) 10 0 = nI K := by rw [cpN_fr _ _ _ (by omega)]; exact hK
  have hv1 : ∀ q, q < P → (cpN M 77 b) 11 q = nv q := fun q hq => by rw [cpN_fr _ _ _ (by omega)]; exact hv q hq
  have hR3 : NR (hpM (cpN M 77 b) 77 k (nI x) P) 77 (evR nv (nI K) row k (nI x) P) := hp_NR (cpN_NR hR) hW hM hcK hK1 hK4 (by omega) (nI x) hP5 hv1
  have hK3 : (hpM (cpN M 77 b) 77 k (nI x) P) 10 0 = nI K := by rw [hpM_fr _ _ _ _ _ (by omega)]; exact hcK
  have hP3 : (hpM (cpN M 77 b) 77 k (nI x) P) 10 2 = nI P := by rw [hpM_fr _ _ _ _ _ (by omega), cpN_fr _ _ _ (by omega)]; exact hP
  have hX3 : (hpM (cpN M 77 b) 77 k (nI x) P) 10 1 = nI X := by rw [hpM_fr _ _ _ _ _ (by omega), cpN_fr _ _ _ (by omega)]; exact hX
  have hv3 : ∀ q, q < P → (hpM (cpN M 77 b) 77 k (nI x) P) 11 q = nv q := fun q hq => by rw [hpM_fr _ _ _ _ _ (by omega)]; exact hv1 q hq
  refine g_callVr F (As := [.ref (B + 10), .ref (B + b), .int (nI 2), .int (nI k), .int (nI x)]) (st := [.ref (B + 10), .ref (B + 69)]) cv_X0_46 (dk dtX0_winsBehind_0 33 rfl) (by decide) (cc69 D B _ _) rfl rfl (Nat.le_of_ble_eq_true rfl) ⟨by decide, by decide⟩ (k_X0_behind l D B _ _ b 1 hb (by decide) k (by omega) _ P hP hP5) (fun T56 M56 hp56 => ?_)
  obtain ⟨e2, e3⟩ := hp56
  replace e2 := e2.symm; replace e3 := e3.symm; subst e2; subst e3
  refine g_iload_n F 5 (dk dtX0_winsBehind_0 34 rfl) rfl ?_
  refine g_iload F 6 (dk dtX0_winsBehind_0 35 rfl) rfl ?_
  refine g_iconst F (nI 1) (dk dtX0_winsBehind_0 36 rfl) (by decide) ?_
  refine g_isubN F (dk dtX0_winsBehind_0 37 rfl) (by omega) ?_
  refine g_iload F 7 (dk dtX0_winsBehind_0 38 rfl) rfl ?_
  refine g_if_neN F 73 (dk dtX0_winsBehind_0 39 rfl) (by decide) (by decide) (fun c => absurd c (by decide)) (fun _ => ?_)
  refine g_iconst F (nI 1) (dk dtX0_winsBehind_0 40 rfl) (by decide) ?_
  refine g_goto F 74 (dk dtX0_winsBehind_0 41 rfl) (by decide) ?_
  refine g_callVi F (As := [.ref (B + 10), .ref (B + 77), .int (nI p), .int (nI (2 - 1)), .int (nI 1)]) (st := []) cv_X0_60 (dk dtX0_winsBehind_0 43 rfl) (by decide) (cc69 D B _ _) rfl rfl (Nat.le_of_ble_eq_true rfl) ⟨by decide, by decide⟩ (k_X0_firstWins_1_true l D B _ _ 77 (isNow77 D B) (evR nv (nI K) row k (nI x) P) nv hR3 (evR_WR hW (by omega)) (evR_MW hM (by omega) _ hP5) K P hK3 hP3 hK1 hK4 hP5 hv3 X hX3 hX1 hX4 p hp (by decide)) (fun r74 T74 M74 hp74 => ?_)
  obtain ⟨hr74, hT74, hF4⟩ := hp74
  replace hT74 := hT74.symm; subst hT74; replace hr74 := hr74.symm; subst hr74
  refine g_zret (F := F) hQ (dk dtX0_winsBehind_0 44 rfl) (bI_nar) ?_
  exact ⟨rfl, rfl, fun c hc => by rw [hF4 c (by omega), hpM_fr _ _ _ _ _ (by omega), cpN_fr _ _ _ (by omega)]⟩
set_option maxRecDepth 100000 in
set_option maxHeartbeats 4000000 in
theorem k_X0_firstWins_2_true (l : Launch) (D : DX) (B : Nat) (T : Int64) (M : Mem) (b : Nat) (hb : IsNow D B b) (row nv : Nat → Int32) (hR : NR M b row) (hW : WR row) (hM : MW row) (K P : Nat) (hK : M 10 0 = nI K) (hP : M 10 2 = nI P) (hK1 : 1 ≤ K) (hK4 : K ≤ 4) (hP5 : P ≤ 5) (hv : ∀ p, p < P → M 11 p = nv p) (X : Nat) (hX : M 10 1 = nI X) (hX1 : 1 ≤ X) (hX4 : X ≤ 4) (p : Nat) (hp : p < P) (hbl : b + 5 ≤ 72 ∨ 82 ≤ b) : Ci l D B 108 (celC D B) yX0_firstWins cX0_firstWins 8 (some .boolean) 7 [.ref (B + 69), .ref (B + 10), .ref (B + b), .int (nI p), .int (nI 2), .int (nI 1)] T M (fun rz T1 M1 => rz = bI (fB nv (nI K) K X P p 2 true row = true) ∧ T1 = T ∧ (∀ c, c < 72 ∨ 82 ≤ c → M1 c = M c)) := by
  refine g_entryi (L := [(0, .ref (B + 69)), (1, .ref (B + 10)), (2, .ref (B + b)), (3, .int (nI p)), (4, .int (nI 2)), (5, .int (nI 1))]) (by decide) (Nat.le_of_ble_eq_true rfl) rfl ?_
  intro zp ze zs zm zb zt zc Q F hQ
  refine g_iconst F (nI 0) (dk dtX0_firstWins_0 0 rfl) (by decide) ?_
  refine g_istore F [(6, .int (nI 0)), (0, .ref (B + 69)), (1, .ref (B + 10)), (2, .ref (B + b)), (3, .int (nI p)), (4, .int (nI 2)), (5, .int (nI 1))] (dk dtX0_firstWins_0 1 rfl) (by decide) rfl ?_
  have lp3 : ∀ (fz : Nat) (i : Nat) (M2 : Mem), (i ≤ K ∧ (∀ c, c < 72 ∨ 82 ≤ c → M2 c = M c) ∧ (∀ i1, i1 < i → ∀ j1, j1 < X → ¬ (fun k x => fB nv (nI K) K X P p 1 false (evR nv (nI K) row k (nI x) P)) i1 j1 = true)) → (K - i) < fz → G zp l ze { frames := 7, cells := 0, slots := 0, locals := 40 * 7 } zs zm [.ref (B + 69), .ref (B + 10), .ref (B + b), .int (nI p), .int (nI 2), .int (nI 1)].toArray zb zt zc 8 D B 108 (celC D B) Q T M2 3 [(0, .ref (B + 69)), (1, .ref (B + 10)), (2, .ref (B + b)), (3, .int (nI p)), (4, .int (nI 2)), (5, .int (nI 1)), (6, .int (nI i))] [] := by
    intro n3
    induction n3 with
    | zero => intro i M2 hI hn; exact absurd hn (Nat.not_lt_zero _)
    | succ n3 ih3 =>
      intro i M2 hI3 hn3
      obtain ⟨hi, hF2, hN2⟩ := hI3
      have hP2 : M2 10 2 = nI P := by rw [hF2 10 (by decide)]; exact hP
      have hK2 : M2 10 0 = nI K := by rw [hF2 10 (by decide)]; exact hK
      have hX2 : M2 10 1 = nI X := by rw [hF2 10 (by decide)]; exact hX
      refine g_iload F 6 (dk dtX0_firstWins_0 2 rfl) rfl ?_
      refine g_aload_n F 1 (dk dtX0_firstWins_0 3 rfl) rfl ?_
      refine g_get F fa_X0_43 (dk dtX0_firstWins_0 4 rfl) (by decide) (cc10 D B _ _) rfl ?_
      refine g_top hK2 ?_
      refine g_icmp_geN F 63 (dk dtX0_firstWins_0 5 rfl) (by decide) (by omega) (by omega) (fun c9 => ?_) (fun c9 => ?_)
      · -- taken at 9
        obtain rfl : K = i := by omega
        refine g_iload F 5 (dk dtX0_firstWins_0 32 rfl) rfl ?_
        refine g_if_neN F 72 (dk dtX0_firstWins_0 33 rfl) (by decide) (by decide) (fun _ => ?_) (fun c => absurd c (by decide))
        refine g_iconst F (nI 0) (dk dtX0_firstWins_0 36 rfl) (by decide) ?_
        refine g_zret (F := F) hQ (dk dtX0_firstWins_0 37 rfl) (rfl) ?_
        exact ⟨(bI_f (fB_tn (fun k hk x hx => hN2 k hk x hx))).symm, rfl, hF2⟩
      · -- not taken at 9
        refine g_iconst F (nI 0) (dk dtX0_firstWins_0 6 rfl) (by decide) ?_
        refine g_istore F [(7, .int (nI 0)), (0, .ref (B + 69)), (1, .ref (B + 10)), (2, .ref (B + b)), (3, .int (nI p)), (4, .int (nI 2)), (5, .int (nI 1)), (6, .int (nI i))] (dk dtX0_firstWins_0 7 rfl) (by decide) rfl ?_
        have lp15 : ∀ (fz : Nat) (j : Nat) (M2 : Mem), (j ≤ X ∧ (∀ c, c < 72 ∨ 82 ≤ c → M2 c = M c) ∧ (∀ j1, j1 < j → ¬ (fun k x => fB nv (nI K) K X P p 1 false (evR nv (nI K) row k (nI x) P)) i j1 = true)) → (X - j) < fz → G zp l ze { frames := 7, cells := 0, slots := 0, locals := 40 * 7 } zs zm [.ref (B + 69), .ref (B + 10), .ref (B + b), .int (nI p), .int (nI 2), .int (nI 1)].toArray zb zt zc 8 D B 108 (celC D B) Q T M2 15 [(0, .ref (B + 69)), (1, .ref (B + 10)), (2, .ref (B + b)), (3, .int (nI p)), (4, .int (nI 2)), (5, .int (nI 1)), (6, .int (nI i)), (7, .int (nI j))] [] := by
          intro n15
          induction n15 with
          | zero => intro j M2 hI hn; exact absurd hn (Nat.not_lt_zero _)
          | succ n15 ih15 =>
            intro j M2 hI15 hn15
            obtain ⟨hj, hF2, hNj⟩ := hI15
            have hP2 : M2 10 2 = nI P := by rw [hF2 10 (by decide)]; exact hP
            have hK2 : M2 10 0 = nI K := by rw [hF2 10 (by decide)]; exact hK
            have hX2 : M2 10 1 = nI X := by rw [hF2 10 (by decide)]; exact hX
            have hR2 : NR M2 b row := hR.to (fun c h1 h2 => hF2 c (by omega))
            have hv2 : ∀ q, q < P → M2 11 q = nv q := fun q hq => by rw [hF2 11 (by decide)]; exact hv q hq
            refine g_iload F 7 (dk dtX0_firstWins_0 8 rfl) rfl ?_
            refine g_aload_n F 1 (dk dtX0_firstWins_0 9 rfl) rfl ?_
            refine g_get F fa_X0_50 (dk dtX0_firstWins_0 10 rfl) (by decide) (cc10 D B _ _) rfl ?_
            refine g_top hX2 ?_
            refine g_icmp_geN F 57 (dk dtX0_firstWins_0 11 rfl) (by decide) (by omega) (by omega) (fun c21 => ?_) (fun c21 => ?_)
            · -- taken at 21
              refine g_iinc F 6 (nI (i + 1)) [(6, .int (nI (i + 1))), (0, .ref (B + 69)), (1, .ref (B + 10)), (2, .ref (B + b)), (3, .int (nI p)), (4, .int (nI 2)), (5, .int (nI 1)), (7, .int (nI j))] (dk dtX0_firstWins_0 30 rfl) rfl (nI_1 _) (by decide) rfl ?_
              refine g_goto F 3 (dk dtX0_firstWins_0 31 rfl) (by decide) ?_
              refine g_sub [1, 2, 3, 4, 5, 6, 0] (L1 := [(0, .ref (B + 69)), (1, .ref (B + 10)), (2, .ref (B + b)), (3, .int (nI p)), (4, .int (nI 2)), (5, .int (nI 1)), (6, .int (nI (i + 1)))]) rfl ?_
              exact ih3 (i + 1) M2 ⟨by omega, hF2, fun i1 h1 j1 h2 => by
                by_cases e : i1 = i
                · subst e; exact hNj j1 (by omega)
                · exact hN2 i1 (by omega) j1 h2⟩ (by omega)
            · -- not taken at 21
              refine g_aload_n F 0 (dk dtX0_firstWins_0 12 rfl) rfl ?_
              refine g_aload_n F 1 (dk dtX0_firstWins_0 13 rfl) rfl ?_
              refine g_aload_n F 2 (dk dtX0_firstWins_0 14 rfl) rfl ?_
              refine g_iload_n F 3 (dk dtX0_firstWins_0 15 rfl) rfl ?_
              refine g_iload F 4 (dk dtX0_firstWins_0 16 rfl) rfl ?_
              refine g_iload F 5 (dk dtX0_firstWins_0 17 rfl) rfl ?_
              refine g_bipush F (nI 10) (dk dtX0_firstWins_0 18 rfl) (by decide) ?_
              refine g_iload F 6 (dk dtX0_firstWins_0 19 rfl) rfl ?_
              refine g_imulN F (dk dtX0_firstWins_0 20 rfl) ?_
              refine g_iload F 7 (dk dtX0_firstWins_0 21 rfl) rfl ?_
              refine g_iaddN F (dk dtX0_firstWins_0 22 rfl) ?_
              refine g_callVi F (As := [.ref (B + 10), .ref (B + b), .int (nI p), .int (nI 2), .int (nI 1), .int (nI ((10 * i) + j))]) (st := []) cv_X0_53 (dk dtX0_firstWins_0 23 rfl) (by decide) (cc69 D B _ _) rfl rfl (Nat.le_of_ble_eq_true rfl) ⟨by decide, by decide⟩ (k_X0_winsBehind_2_true l D B _ _ b hb row nv hR2 hW hM K P hK2 hP2 hK1 hK4 hP5 hv2 X hX2 hX1 hX4 p hp i j (by omega) (by omega) (by omega)) (fun r40 T40 M40 hp40 => ?_)
              obtain ⟨hr40, hT40, hF4⟩ := hp40
              replace hT40 := hT40.symm; subst hT40; replace hr40 := hr40.symm; subst hr40
              refine g_iload F 5 (dk dtX0_firstWins_0 24 rfl) rfl ?_
              refine g_icmp_neB1 F 51 (dk dtX0_firstWins_0 25 rfl) (by decide) (fun c45 => ?_) (fun c45 => ?_)
              · -- taken at 45
                refine g_iinc F 7 (nI (j + 1)) [(7, .int (nI (j + 1))), (0, .ref (B + 69)), (1, .ref (B + 10)), (2, .ref (B + b)), (3, .int (nI p)), (4, .int (nI 2)), (5, .int (nI 1)), (6, .int (nI i))] (dk dtX0_firstWins_0 28 rfl) rfl (nI_1 _) (by decide) rfl ?_
                refine g_goto F 15 (dk dtX0_firstWins_0 29 rfl) (by decide) ?_
                refine g_sub [1, 2, 3, 4, 5, 6, 7, 0] (L1 := [(0, .ref (B + 69)), (1, .ref (B + 10)), (2, .ref (B + b)), (3, .int (nI p)), (4, .int (nI 2)), (5, .int (nI 1)), (6, .int (nI i)), (7, .int (nI (j + 1)))]) rfl ?_
                exact ih15 (j + 1) _ ⟨by omega, fun c hc => by rw [hF4 c (by omega)]; exact hF2 c hc, fun j1 h1 => by
                  by_cases e : j1 = j
                  · subst e; exact c45
                  · exact hNj j1 (by omega)⟩ (by omega)
              · -- not taken at 45
                refine g_iload F 5 (dk dtX0_firstWins_0 26 rfl) rfl ?_
                refine g_zret (F := F) hQ (dk dtX0_firstWins_0 27 rfl) (rfl) ?_
                exact ⟨(bI_t (fB_t (by omega) (by omega) c45)).symm, rfl, fun c hc => by rw [hF4 c (by omega)]; exact hF2 c hc⟩
        refine g_sub [1, 2, 3, 4, 5, 6, 7, 0] (L1 := [(0, .ref (B + 69)), (1, .ref (B + 10)), (2, .ref (B + b)), (3, .int (nI p)), (4, .int (nI 2)), (5, .int (nI 1)), (6, .int (nI i)), (7, .int (nI 0))]) rfl ?_
        exact lp15 (X + 1) 0 M2 ⟨by omega, hF2, fun j1 h => absurd h (Nat.not_lt_zero _)⟩ (by omega)
  refine g_sub [1, 2, 3, 4, 5, 6, 0] (L1 := [(0, .ref (B + 69)), (1, .ref (B + 10)), (2, .ref (B + b)), (3, .int (nI p)), (4, .int (nI 2)), (5, .int (nI 1)), (6, .int (nI 0))]) rfl ?_
  exact lp3 (K + 1) 0 M ⟨by omega, fun c _ => rfl, fun i1 h => absurd h (Nat.not_lt_zero _)⟩ (by omega)
set_option maxRecDepth 100000 in
set_option maxHeartbeats 4000000 in
theorem k_X0_firstWins_2_false (l : Launch) (D : DX) (B : Nat) (T : Int64) (M : Mem) (b : Nat) (hb : IsNow D B b) (row nv : Nat → Int32) (hR : NR M b row) (hW : WR row) (hM : MW row) (K P : Nat) (hK : M 10 0 = nI K) (hP : M 10 2 = nI P) (hK1 : 1 ≤ K) (hK4 : K ≤ 4) (hP5 : P ≤ 5) (hv : ∀ p, p < P → M 11 p = nv p) (X : Nat) (hX : M 10 1 = nI X) (hX1 : 1 ≤ X) (hX4 : X ≤ 4) (p : Nat) (hp : p < P) (hbl : b + 5 ≤ 72 ∨ 82 ≤ b) : Ci l D B 108 (celC D B) yX0_firstWins cX0_firstWins 8 (some .boolean) 7 [.ref (B + 69), .ref (B + 10), .ref (B + b), .int (nI p), .int (nI 2), .int (nI 0)] T M (fun rz T1 M1 => rz = bI (fB nv (nI K) K X P p 2 false row = true) ∧ T1 = T ∧ (∀ c, c < 72 ∨ 82 ≤ c → M1 c = M c)) := by
  refine g_entryi (L := [(0, .ref (B + 69)), (1, .ref (B + 10)), (2, .ref (B + b)), (3, .int (nI p)), (4, .int (nI 2)), (5, .int (nI 0))]) (by decide) (Nat.le_of_ble_eq_true rfl) rfl ?_
  intro zp ze zs zm zb zt zc Q F hQ
  refine g_iconst F (nI 0) (dk dtX0_firstWins_0 0 rfl) (by decide) ?_
  refine g_istore F [(6, .int (nI 0)), (0, .ref (B + 69)), (1, .ref (B + 10)), (2, .ref (B + b)), (3, .int (nI p)), (4, .int (nI 2)), (5, .int (nI 0))] (dk dtX0_firstWins_0 1 rfl) (by decide) rfl ?_
  have lp3 : ∀ (fz : Nat) (i : Nat) (M2 : Mem), (i ≤ K ∧ (∀ c, c < 72 ∨ 82 ≤ c → M2 c = M c) ∧ (∀ i1, i1 < i → ∀ j1, j1 < X → ¬ (fun k x => fB nv (nI K) K X P p 1 true (evR nv (nI K) row k (nI x) P)) i1 j1 = false)) → (K - i) < fz → G zp l ze { frames := 7, cells := 0, slots := 0, locals := 40 * 7 } zs zm [.ref (B + 69), .ref (B + 10), .ref (B + b), .int (nI p), .int (nI 2), .int (nI 0)].toArray zb zt zc 8 D B 108 (celC D B) Q T M2 3 [(0, .ref (B + 69)), (1, .ref (B + 10)), (2, .ref (B + b)), (3, .int (nI p)), (4, .int (nI 2)), (5, .int (nI 0)), (6, .int (nI i))] [] := by
    intro n3
    induction n3 with
    | zero => intro i M2 hI hn; exact absurd hn (Nat.not_lt_zero _)
    | succ n3 ih3 =>
      intro i M2 hI3 hn3
      obtain ⟨hi, hF2, hN2⟩ := hI3
      have hP2 : M2 10 2 = nI P := by rw [hF2 10 (by decide)]; exact hP
      have hK2 : M2 10 0 = nI K := by rw [hF2 10 (by decide)]; exact hK
      have hX2 : M2 10 1 = nI X := by rw [hF2 10 (by decide)]; exact hX
      refine g_iload F 6 (dk dtX0_firstWins_0 2 rfl) rfl ?_
      refine g_aload_n F 1 (dk dtX0_firstWins_0 3 rfl) rfl ?_
      refine g_get F fa_X0_43 (dk dtX0_firstWins_0 4 rfl) (by decide) (cc10 D B _ _) rfl ?_
      refine g_top hK2 ?_
      refine g_icmp_geN F 63 (dk dtX0_firstWins_0 5 rfl) (by decide) (by omega) (by omega) (fun c9 => ?_) (fun c9 => ?_)
      · -- taken at 9
        obtain rfl : K = i := by omega
        refine g_iload F 5 (dk dtX0_firstWins_0 32 rfl) rfl ?_
        refine g_if_neN F 72 (dk dtX0_firstWins_0 33 rfl) (by decide) (by decide) (fun c => absurd c (by decide)) (fun _ => ?_)
        refine g_iconst F (nI 1) (dk dtX0_firstWins_0 34 rfl) (by decide) ?_
        refine g_goto F 73 (dk dtX0_firstWins_0 35 rfl) (by decide) ?_
        refine g_zret (F := F) hQ (dk dtX0_firstWins_0 37 rfl) (rfl) ?_
        exact ⟨(bI_t (fB_fn (fun k hk x hx => hN2 k hk x hx))).symm, rfl, hF2⟩
      · -- not taken at 9
        refine g_iconst F (nI 0) (dk dtX0_firstWins_0 6 rfl) (by decide) ?_
        refine g_istore F [(7, .int (nI 0)), (0, .ref (B + 69)), (1, .ref (B + 10)), (2, .ref (B + b)), (3, .int (nI p)), (4, .int (nI 2)), (5, .int (nI 0)), (6, .int (nI i))] (dk dtX0_firstWins_0 7 rfl) (by decide) rfl ?_
        have lp15 : ∀ (fz : Nat) (j : Nat) (M2 : Mem), (j ≤ X ∧ (∀ c, c < 72 ∨ 82 ≤ c → M2 c = M c) ∧ (∀ j1, j1 < j → ¬ (fun k x => fB nv (nI K) K X P p 1 true (evR nv (nI K) row k (nI x) P)) i j1 = false)) → (X - j) < fz → G zp l ze { frames := 7, cells := 0, slots := 0, locals := 40 * 7 } zs zm [.ref (B + 69), .ref (B + 10), .ref (B + b), .int (nI p), .int (nI 2), .int (nI 0)].toArray zb zt zc 8 D B 108 (celC D B) Q T M2 15 [(0, .ref (B + 69)), (1, .ref (B + 10)), (2, .ref (B + b)), (3, .int (nI p)), (4, .int (nI 2)), (5, .int (nI 0)), (6, .int (nI i)), (7, .int (nI j))] [] := by
          intro n15
          induction n15 with
          | zero => intro j M2 hI hn; exact absurd hn (Nat.not_lt_zero _)
          | succ n15 ih15 =>
            intro j M2 hI15 hn15
            obtain ⟨hj, hF2, hNj⟩ := hI15
            have hP2 : M2 10 2 = nI P := by rw [hF2 10 (by decide)]; exact hP
            have hK2 : M2 10 0 = nI K := by rw [hF2 10 (by decide)]; exact hK
            have hX2 : M2 10 1 = nI X := by rw [hF2 10 (by decide)]; exact hX
            have hR2 : NR M2 b row := hR.to (fun c h1 h2 => hF2 c (by omega))
            have hv2 : ∀ q, q < P → M2 11 q = nv q := fun q hq => by rw [hF2 11 (by decide)]; exact hv q hq
            refine g_iload F 7 (dk dtX0_firstWins_0 8 rfl) rfl ?_
            refine g_aload_n F 1 (dk dtX0_firstWins_0 9 rfl) rfl ?_
            refine g_get F fa_X0_50 (dk dtX0_firstWins_0 10 rfl) (by decide) (cc10 D B _ _) rfl ?_
            refine g_top hX2 ?_
            refine g_icmp_geN F 57 (dk dtX0_firstWins_0 11 rfl) (by decide) (by omega) (by omega) (fun c21 => ?_) (fun c21 => ?_)
            · -- taken at 21
              refine g_iinc F 6 (nI (i + 1)) [(6, .int (nI (i + 1))), (0, .ref (B + 69)), (1, .ref (B + 10)), (2, .ref (B + b)), (3, .int (nI p)), (4, .int (nI 2)), (5, .int (nI 0)), (7, .int (nI j))] (dk dtX0_firstWins_0 30 rfl) rfl (nI_1 _) (by decide) rfl ?_
              refine g_goto F 3 (dk dtX0_firstWins_0 31 rfl) (by decide) ?_
              refine g_sub [1, 2, 3, 4, 5, 6, 0] (L1 := [(0, .ref (B + 69)), (1, .ref (B + 10)), (2, .ref (B + b)), (3, .int (nI p)), (4, .int (nI 2)), (5, .int (nI 0)), (6, .int (nI (i + 1)))]) rfl ?_
              exact ih3 (i + 1) M2 ⟨by omega, hF2, fun i1 h1 j1 h2 => by
                by_cases e : i1 = i
                · subst e; exact hNj j1 (by omega)
                · exact hN2 i1 (by omega) j1 h2⟩ (by omega)
            · -- not taken at 21
              refine g_aload_n F 0 (dk dtX0_firstWins_0 12 rfl) rfl ?_
              refine g_aload_n F 1 (dk dtX0_firstWins_0 13 rfl) rfl ?_
              refine g_aload_n F 2 (dk dtX0_firstWins_0 14 rfl) rfl ?_
              refine g_iload_n F 3 (dk dtX0_firstWins_0 15 rfl) rfl ?_
              refine g_iload F 4 (dk dtX0_firstWins_0 16 rfl) rfl ?_
              refine g_iload F 5 (dk dtX0_firstWins_0 17 rfl) rfl ?_
              refine g_bipush F (nI 10) (dk dtX0_firstWins_0 18 rfl) (by decide) ?_
              refine g_iload F 6 (dk dtX0_firstWins_0 19 rfl) rfl ?_
              refine g_imulN F (dk dtX0_firstWins_0 20 rfl) ?_
              refine g_iload F 7 (dk dtX0_firstWins_0 21 rfl) rfl ?_
              refine g_iaddN F (dk dtX0_firstWins_0 22 rfl) ?_
              refine g_callVi F (As := [.ref (B + 10), .ref (B + b), .int (nI p), .int (nI 2), .int (nI 0), .int (nI ((10 * i) + j))]) (st := []) cv_X0_53 (dk dtX0_firstWins_0 23 rfl) (by decide) (cc69 D B _ _) rfl rfl (Nat.le_of_ble_eq_true rfl) ⟨by decide, by decide⟩ (k_X0_winsBehind_2_false l D B _ _ b hb row nv hR2 hW hM K P hK2 hP2 hK1 hK4 hP5 hv2 X hX2 hX1 hX4 p hp i j (by omega) (by omega) (by omega)) (fun r40 T40 M40 hp40 => ?_)
              obtain ⟨hr40, hT40, hF4⟩ := hp40
              replace hT40 := hT40.symm; subst hT40; replace hr40 := hr40.symm; subst hr40
              refine g_iload F 5 (dk dtX0_firstWins_0 24 rfl) rfl ?_
              refine g_icmp_ne F 51 (dk dtX0_firstWins_0 25 rfl) (by decide) (fun c45 => ?_) (fun c45 => ?_)
              · -- taken at 45
                refine g_iinc F 7 (nI (j + 1)) [(7, .int (nI (j + 1))), (0, .ref (B + 69)), (1, .ref (B + 10)), (2, .ref (B + b)), (3, .int (nI p)), (4, .int (nI 2)), (5, .int (nI 0)), (6, .int (nI i))] (dk dtX0_firstWins_0 28 rfl) rfl (nI_1 _) (by decide) rfl ?_
                refine g_goto F 15 (dk dtX0_firstWins_0 29 rfl) (by decide) ?_
                refine g_sub [1, 2, 3, 4, 5, 6, 7, 0] (L1 := [(0, .ref (B + 69)), (1, .ref (B + 10)), (2, .ref (B + b)), (3, .int (nI p)), (4, .int (nI 2)), (5, .int (nI 0)), (6, .int (nI i)), (7, .int (nI (j + 1)))]) rfl ?_
                exact ih15 (j + 1) _ ⟨by omega, fun c hc => by rw [hF4 c (by omega)]; exact hF2 c hc, fun j1 h1 => by
                  by_cases e : j1 = j
                  · subst e; exact fun h => c45 (bI_f (fun q => Bool.false_ne_true (h.symm.trans q)))
                  · exact hNj j1 (by omega)⟩ (by omega)
              · -- not taken at 45
                refine g_iload F 5 (dk dtX0_firstWins_0 26 rfl) rfl ?_
                refine g_zret (F := F) hQ (dk dtX0_firstWins_0 27 rfl) (rfl) ?_
                exact ⟨(bI_f (fB_f (by omega) (by omega) (bI_ff c45))).symm, rfl, fun c hc => by rw [hF4 c (by omega)]; exact hF2 c hc⟩
        refine g_sub [1, 2, 3, 4, 5, 6, 7, 0] (L1 := [(0, .ref (B + 69)), (1, .ref (B + 10)), (2, .ref (B + b)), (3, .int (nI p)), (4, .int (nI 2)), (5, .int (nI 0)), (6, .int (nI i)), (7, .int (nI 0))]) rfl ?_
        exact lp15 (X + 1) 0 M2 ⟨by omega, hF2, fun j1 h => absurd h (Nat.not_lt_zero _)⟩ (by omega)
  refine g_sub [1, 2, 3, 4, 5, 6, 0] (L1 := [(0, .ref (B + 69)), (1, .ref (B + 10)), (2, .ref (B + b)), (3, .int (nI p)), (4, .int (nI 2)), (5, .int (nI 0)), (6, .int (nI 0))]) rfl ?_
  exact lp3 (K + 1) 0 M ⟨by omega, fun c _ => rfl, fun i1 h => absurd h (Nat.not_lt_zero _)⟩ (by omega)
set_option maxRecDepth 100000 in
set_option maxHeartbeats 4000000 in
theorem k_X0_winsBehind_3_true (l : Launch) (D : DX) (B : Nat) (T : Int64) (M : Mem) (b : Nat) (hb : IsNow D B b) (row nv : Nat → Int32) (hR : NR M b row) (hW : WR row) (hM : MW row) (K P : Nat) (hK : M 10 0 = nI K) (hP : M 10 2 = nI P) (hK1 : 1 ≤ K) (hK4 : K ≤ 4) (hP5 : P ≤ 5) (hv : ∀ p, p < P → M 11 p = nv p) (X : Nat) (hX : M 10 1 = nI X) (hX1 : 1 ≤ X) (hX4 : X ≤ 4) (p : Nat) (hp : p < P) (k x : Nat) (hk : k < K) (hx : x < X) (hbl : b + 5 ≤ 72 ∨ 87 ≤ b) : Ci l D B 108 (celC D B) yX0_winsBehind cX0_winsBehind 9 (some .boolean) 8 [.ref (B + 69), .ref (B + 10), .ref (B + b), .int (nI p), .int (nI 3), .int (nI 1), .int (nI (10 * k + x))] T M (fun rz T1 M1 => rz = bI (fB nv (nI K) K X P p 2 false (evR nv (nI K) row k (nI x) P) = true) ∧ T1 = T ∧ (∀ c, c < 72 ∨ 87 ≤ c → M1 c = M c)) := by
  refine g_entryi (L := [(0, .ref (B + 69)), (1, .ref (B + 10)), (2, .ref (B + b)), (3, .int (nI p)), (4, .int (nI 3)), (5, .int (nI 1)), (6, .int (nI (10 * k + x)))]) (by decide) (Nat.le_of_ble_eq_true rfl) rfl ?_
  intro zp ze zs zm zb zt zc Q F hQ
  refine g_iload F 6 (dk dtX0_winsBehind_0 0 rfl) rfl ?_
  refine g_bipush F (nI 10) (dk dtX0_winsBehind_0 1 rfl) (by decide) ?_
  refine g_idivN F (dk dtX0_winsBehind_0 2 rfl) (by omega) (by omega) (by omega) ?_
  refine g_top (congrArg nI (show (10 * k + x) / 10 = k by omega)) ?_
  refine g_istore F [(7, .int (nI k)), (0, .ref (B + 69)), (1, .ref (B + 10)), (2, .ref (B + b)), (3, .int (nI p)), (4, .int (nI 3)), (5, .int (nI 1)), (6, .int (nI (10 * k + x)))] (dk dtX0_winsBehind_0 3 rfl) (by decide) rfl ?_
  refine g_iload F 7 (dk dtX0_winsBehind_0 4 rfl) rfl ?_
  refine g_bipush F (nI 10) (dk dtX0_winsBehind_0 5 rfl) (by decide) ?_
  refine g_iremN F (dk dtX0_winsBehind_0 6 rfl) (by omega) (by omega) (by omega) ?_
  refine g_top (congrArg nI (show (10 * k + x) % 10 = x by omega)) ?_
  refine g_istore F [(8, .int (nI x)), (7, .int (nI k)), (0, .ref (B + 69)), (1, .ref (B + 10)), (2, .ref (B + b)), (3, .int (nI p)), (4, .int (nI 3)), (5, .int (nI 1)), (6, .int (nI (10 * k + x)))] (dk dtX0_winsBehind_0 7 rfl) (by decide) rfl ?_
  refine g_iload F 6 (dk dtX0_winsBehind_0 8 rfl) rfl ?_
  refine g_iconst F (nI 1) (dk dtX0_winsBehind_0 9 rfl) (by decide) ?_
  refine g_icmp_leN F 26 (dk dtX0_winsBehind_0 10 rfl) (by decide) (by decide) (by decide) (fun c => absurd c (by decide)) (fun _ => ?_)
  refine g_iload F 6 (dk dtX0_winsBehind_0 11 rfl) rfl ?_
  refine g_iconst F (nI 3) (dk dtX0_winsBehind_0 12 rfl) (by decide) ?_
  refine g_icmp_leN F 45 (dk dtX0_winsBehind_0 13 rfl) (by decide) (by decide) (by decide) (fun _ => ?_) (fun c => absurd c (by decide))
  refine g_aload_n F 2 (dk dtX0_winsBehind_0 25 rfl) rfl ?_
  refine g_aload_n F 3 (dk dtX0_winsBehind_0 26 rfl) rfl ?_
  refine g_aload_n F 2 (dk dtX0_winsBehind_0 27 rfl) rfl ?_
  refine g_aload_n F 3 (dk dtX0_winsBehind_0 28 rfl) rfl ?_
  refine g_aload_n F 4 (dk dtX0_winsBehind_0 29 rfl) rfl ?_
  refine g_iload F 6 (dk dtX0_winsBehind_0 30 rfl) rfl ?_
  refine g_iload F 1 (dk dtX0_winsBehind_0 31 rfl) rfl ?_
  refine g_iload F 0 (dk dtX0_winsBehind_0 32 rfl) rfl ?_
  have hcK : (cpN M 82 b) 10 0 = nI K := by rw [cpN_fr _ _ _ (by omega)]; exact hK
  have hv1 : ∀ q, q < P → (cpN M 82 b) 11 q = nv q := fun q hq => by rw [cpN_fr _ _ _ (by omega)]; exact hv q hq
  have hR3 : NR (hpM (cpN M 82 b) 82 k (nI x) P) 82 (evR nv (nI K) row k (nI x) P) := hp_NR (cpN_NR hR) hW hM hcK hK1 hK4 (by omega) (nI x) hP5 hv1
  have hK3 : (hpM (cpN M 82 b) 82 k (nI x) P) 10 0 = nI K := by rw [hpM_fr _ _ _ _ _ (by omega)]; exact hcK
  have hP3 : (hpM (cpN M 82 b) 82 k (nI x) P) 10 2 = nI P := by rw [hpM_fr _ _ _ _ _ (by omega), cpN_fr _ _ _ (by omega)]; exact hP
  have hX3 : (hpM (cpN M 82 b) 82 k (nI x) P) 10 1 = nI X := by rw [hpM_fr _ _ _ _ _ (by omega), cpN_fr _ _ _ (by omega)]; exact hX
  have hv3 : ∀ q, q < P → (hpM (cpN M 82 b) 82 k (nI x) P) 11 q = nv q := fun q hq => by rw [hpM_fr _ _ _ _ _ (by omega)]; exact hv1 q hq
  refine g_callVr F (As := [.ref (B + 10), .ref (B + b), .int (nI 3), .int (nI k), .int (nI x)]) (st := [.ref (B + 10), .ref (B + 69)]) cv_X0_46 (dk dtX0_winsBehind_0 33 rfl) (by decide) (cc69 D B _ _) rfl rfl (Nat.le_of_ble_eq_true rfl) ⟨by decide, by decide⟩ (k_X0_behind l D B _ _ b 2 hb (by decide) k (by omega) _ P hP hP5) (fun T56 M56 hp56 => ?_)
  obtain ⟨e2, e3⟩ := hp56
  replace e2 := e2.symm; replace e3 := e3.symm; subst e2; subst e3
  refine g_iload_n F 5 (dk dtX0_winsBehind_0 34 rfl) rfl ?_
  refine g_iload F 6 (dk dtX0_winsBehind_0 35 rfl) rfl ?_
  refine g_iconst F (nI 1) (dk dtX0_winsBehind_0 36 rfl) (by decide) ?_
  refine g_isubN F (dk dtX0_winsBehind_0 37 rfl) (by omega) ?_
  refine g_iload F 7 (dk dtX0_winsBehind_0 38 rfl) rfl ?_
  refine g_if_neN F 73 (dk dtX0_winsBehind_0 39 rfl) (by decide) (by decide) (fun _ => ?_) (fun c => absurd c (by decide))
  refine g_iconst F (nI 0) (dk dtX0_winsBehind_0 42 rfl) (by decide) ?_
  refine g_callVi F (As := [.ref (B + 10), .ref (B + 82), .int (nI p), .int (nI (3 - 1)), .int (nI 0)]) (st := []) cv_X0_60 (dk dtX0_winsBehind_0 43 rfl) (by decide) (cc69 D B _ _) rfl rfl (Nat.le_of_ble_eq_true rfl) ⟨by decide, by decide⟩ (k_X0_firstWins_2_false l D B _ _ 82 (isNow82 D B) (evR nv (nI K) row k (nI x) P) nv hR3 (evR_WR hW (by omega)) (evR_MW hM (by omega) _ hP5) K P hK3 hP3 hK1 hK4 hP5 hv3 X hX3 hX1 hX4 p hp (by decide)) (fun r74 T74 M74 hp74 => ?_)
  obtain ⟨hr74, hT74, hF4⟩ := hp74
  replace hT74 := hT74.symm; subst hT74; replace hr74 := hr74.symm; subst hr74
  refine g_zret (F := F) hQ (dk dtX0_winsBehind_0 44 rfl) (bI_nar) ?_
  exact ⟨rfl, rfl, fun c hc => by rw [hF4 c (by omega), hpM_fr _ _ _ _ _ (by omega), cpN_fr _ _ _ (by omega)]⟩
