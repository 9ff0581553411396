theorem ld_iff {nv : Nat → Int32} {Kv : Int32} {K X P p x0 : Nat} (hP : P ≤ 5) (hK4 : K ≤ 4) (hp : p < P) (hx0 : x0 < X) : ∀ (l : Nat) (row : Nat → Int32), row p = nI x0 → (ldR nv Kv K P p l row = true ↔ ∃ es : List EV, Vl K X es ∧ es.length = l ∧ (∀ e ∈ es, e.2 = x0) ∧ moR (ap nv Kv P row es) = nI p) := by
  intro l
  induction l with
  | zero =>
    intro row _
    simp only [ldR, decide_eq_true_eq]
    refine ⟨fun h => ⟨[], fun e he => absurd he List.not_mem_nil, rfl, fun e he => absurd he List.not_mem_nil, h⟩, fun ⟨es, _, hl, _, h⟩ => ?_⟩
    rw [List.length_eq_zero_iff.mp hl] at h
    exact h
  | succ l ih =>
    intro row hrow
    have hr2 : ∀ k, k < K → evR nv Kv row k (nI x0) P p = nI x0 := fun k hk => by rw [evR_pl (by omega) _ hP (by omega)]; exact hrow
    simp only [ldR]
    rw [List.any_eq_true]
    refine ⟨fun ⟨k, hk, h⟩ => ?_, fun ⟨es, hV, hl, hx, hw⟩ => ?_⟩
    · have hk := List.mem_range.mp hk
      rw [hrow] at h
      obtain ⟨es, hV, hl, hx, hw⟩ := (ih _ (hr2 k hk)).mp h
      refine ⟨(k, x0) :: es, fun e he => ?_, by rw [List.length_cons, hl], fun e he => ?_, by rw [ap_c]; exact hw⟩
      · rcases List.mem_cons.mp he with rfl | he
        · exact ⟨hk, hx0⟩
        · exact hV e he
      · rcases List.mem_cons.mp he with rfl | he
        · rfl
        · exact hx e he
    · match es, hl with
      | a :: es, hl =>
        have ha := hV a (List.mem_cons_self ..)
        have hax := hx a (List.mem_cons_self ..)
        refine ⟨a.1, List.mem_range.mpr ha.1, ?_⟩
        rw [hrow]
        refine (ih _ (hr2 a.1 ha.1)).mpr ⟨es, fun e he => hV e (List.mem_cons_of_mem _ he), by rw [List.length_cons] at hl; omega, fun e he => hx e (List.mem_cons_of_mem _ he), ?_⟩
        rw [ap_c, hax] at hw
        exact hw
def Mn (nv : Nat → Int32) (Kv : Int32) (K X P p x0 l : Nat) (row : Nat → Int32) (es : List EV) : Prop := Vl K X es ∧ es.length = l ∧ (∀ e ∈ es, e.2 = x0) ∧ moR (ap nv Kv P row es) = nI p ∧ ∀ es1 : List EV, Vl K X es1 → es1.length = l → (∀ e ∈ es1, e.2 = x0) → moR (ap nv Kv P row es1) = nI p → cod (K * X) X es ≤ cod (K * X) X es1
theorem PL_min {nv : Nat → Int32} {Kv : Int32} {K X P p x0 : Nat} (hP : P ≤ 5) (hK4 : K ≤ 4) (hp : p < P) (hx0 : x0 < X) : ∀ (l : Nat) (row g : Nat → Int32) (es : List EV), row p = nI x0 → PL nv Kv K P p l row g → Mn nv Kv K X P p x0 l row es → ∀ (j : Nat) (e : EV), es[j]? = some e → g j = nI (10 * e.1 + e.2) := by
  intro l
  induction l with
  | zero =>
    intro row g es _ _ hM j e he
    rw [List.length_eq_zero_iff.mp hM.2.1] at he
    simp at he
  | succ l ih =>
    intro row g es hrow hPL hM j e he
    obtain ⟨hV, hl, hx, hw, hmin⟩ := hM
    simp only [PL] at hPL
    obtain ⟨k, hk, g0, hk1, hld, hpl⟩ := hPL
    rw [hrow] at g0 hk1 hld hpl
    have hr2 : ∀ k, k < K → evR nv Kv row k (nI x0) P p = nI x0 := fun k hk => by rw [evR_pl (by omega) _ hP (by omega)]; exact hrow
    match es, hl, he with
    | a :: es, hl, he =>
      have ha := hV a (List.mem_cons_self ..)
      have hax := hx a (List.mem_cons_self ..)
      rw [List.length_cons] at hl
      have hl2 : es.length = l := by omega
      rw [ap_c, hax] at hw
      have hVe : Vl K X es := fun e he => hV e (List.mem_cons_of_mem _ he)
      have hxe : ∀ e ∈ es, e.2 = x0 := fun e he => hx e (List.mem_cons_of_mem _ he)
      have c1 : ¬ a.1 < k := fun c => hk1 a.1 c ((ld_iff hP hK4 hp hx0 l _ (hr2 a.1 ha.1)).mpr ⟨es, hVe, hl2, hxe, hw⟩)
      have hmin2 : ∀ (k2 : Nat) (es1 : List EV), k2 < K → Vl K X es1 → es1.length = l → (∀ e ∈ es1, e.2 = x0) → moR (ap nv Kv P (evR nv Kv row k2 (nI x0) P) es1) = nI p → (K * X) ^ l * (a.1 * X + x0) + cod (K * X) X es ≤ (K * X) ^ l * (k2 * X + x0) + cod (K * X) X es1 := by
        intro k2 es1 hk2 hV1 hl1 hx1 hw1
        have h := hmin ((k2, x0) :: es1) (fun e he => by
          rcases List.mem_cons.mp he with rfl | he
          · exact ⟨hk2, hx0⟩
          · exact hV1 e he) (by rw [List.length_cons, hl1]) (fun e he => by
          rcases List.mem_cons.mp he with rfl | he
          · rfl
          · exact hx1 e he) (by rw [ap_c]; exact hw1)
        rw [cod_c, cod_c, hax, hl2, hl1] at h
        exact h
      have c2 : ¬ k < a.1 := by
        intro c
        obtain ⟨es1, hV1, hl1, hx1, hw1⟩ := (ld_iff hP hK4 hp hx0 l _ (hr2 k hk)).mp hld
        have h := hmin2 k es1 hk hV1 hl1 hx1 hw1
        have hb := (mb_ap nv Kv K X P row es1 hV1).2
        rw [hl1] at hb
        have h3 : k * X + x0 + 1 ≤ a.1 * X + x0 := by
          have : (k + 1) * X ≤ a.1 * X := Nat.mul_le_mul_right X c
          rw [Nat.succ_mul] at this
          omega
        have h4 := Nat.mul_le_mul_left ((K * X) ^ l) h3
        rw [Nat.mul_add, Nat.mul_one] at h4
        omega
      have ek : a.1 = k := by omega
      cases j with
      | zero =>
        have h5 : a = e := by simpa using he
        subst h5
        rw [g0, nI_add, ek, hax]
      | succ j =>
        rw [List.getElem?_cons_succ] at he
        refine ih (evR nv Kv row k (nI x0) P) (fun j => g (j + 1)) es (hr2 k hk) hpl ⟨hVe, hl2, hxe, ek ▸ hw, ?_⟩ j e he
        intro es1 hV1 hl1 hx1 hw1
        have h := hmin2 k es1 hk hV1 hl1 hx1 hw1
        rw [ek] at h
        omega
theorem plan_al {nv : Nat → Int32} {Kv : Int32} {K X P p x0 : Nat} {row : Nat → Int32} (hP : P ≤ 5) (hK4 : K ≤ 4) (hX1 : 1 ≤ X) (hX4 : X ≤ 4) (hp : p < P) (hx0 : x0 < X) (hrow : row p = nI x0) {n r : Nat} (hr : r < (K * X) ^ n) (hw : moR (mbR nv Kv K X P row r n n) = nI p) (h1 : ∀ n1, n1 < n → ∀ r1, r1 < (K * X) ^ n1 → ¬ moR (mbR nv Kv K X P row r1 n1 n1) = nI p) (h2 : ∀ r1, r1 < r → ¬ moR (mbR nv Kv K X P row r1 n n) = nI p) : (∀ m, m < n → ¬ ldR nv Kv K P p m row = true) ∧ ldR nv Kv K P p n row = true ∧ ∃ es : List EV, Mn nv Kv K X P p x0 n row es ∧ cod (K * X) X es = r := by
  obtain ⟨es, hV, hl, hc⟩ := cod_all hX1 n r hr
  have hmb := mb_ap nv Kv K X P row es hV
  rw [hl, hc] at hmb
  rw [hmb.1] at hw
  have hshort : ∀ es1 : List EV, Vl K X es1 → es1.length < n → ¬ moR (ap nv Kv P row es1) = nI p := by
    intro es1 hV1 hl1 hw1
    have hm1 := mb_ap nv Kv K X P row es1 hV1
    rw [← hm1.1] at hw1
    exact h1 _ hl1 _ hm1.2 hw1
  have hx := all_at hP hK4 hX4 hp hx0 hrow es hV hw (fun es1 a b => hshort es1 a (by omega))
  refine ⟨fun m hm hld => ?_, (ld_iff hP hK4 hp hx0 n row hrow).mpr ⟨es, hV, hl, hx, hw⟩, es, ⟨hV, hl, hx, hw, ?_⟩, hc⟩
  · obtain ⟨es1, hV1, hl1, _, hw1⟩ := (ld_iff hP hK4 hp hx0 m row hrow).mp hld
    exact hshort es1 hV1 (by omega) hw1
  · intro es1 hV1 hl1 _ hw1
    have hm1 := mb_ap nv Kv K X P row es1 hV1
    rw [hl1] at hm1
    rw [hc]
    exact Nat.not_lt.mp (fun c => h2 _ c (by rw [hm1.1]; exact hw1))
theorem plan_no {nv : Nat → Int32} {Kv : Int32} {K X P p x0 : Nat} {row : Nat → Int32} (hP : P ≤ 5) (hK4 : K ≤ 4) (hp : p < P) (hx0 : x0 < X) (hrow : row p = nI x0) (h : ∀ n, n ≤ 3 → ∀ r1, r1 < (K * X) ^ n → ¬ moR (mbR nv Kv K X P row r1 n n) = nI p) (m : Nat) (hm : m ≤ 3) : ¬ ldR nv Kv K P p m row = true := by
  intro hld
  obtain ⟨es1, hV1, hl1, _, hw1⟩ := (ld_iff hP hK4 hp hx0 m row hrow).mp hld
  have hm1 := mb_ap nv Kv K X P row es1 hV1
  rw [hl1] at hm1
  exact h m hm _ hm1.2 (by rw [hm1.1]; exact hw1)
theorem plan_m1_eq {nv : Nat → Int32} {Kv : Int32} {K X P p x0 : Nat} {row g : Nat → Int32} (hP : P ≤ 5) (hK4 : K ≤ 4) (hX1 : 1 ≤ X) (hX4 : X ≤ 4) (hp : p < P) (hx0 : x0 < X) (hrow : row p = nI x0) {a b : Int32} (hc : fwQ (fun m => ldR nv Kv K P p m row) (fun n => PL nv Kv K P p n row g) a) (hm : plQ (K * X) (fun r n => moR (mbR nv Kv K X P row r n n)) (nI p) (fun n _ => nI n) b) : a = b := by
  rcases hm with ⟨n, r, hn, hr, hw, h1, h2, rfl⟩ | ⟨h1, rfl⟩
  · obtain ⟨l1, l2, es, hM, hcd⟩ := plan_al hP hK4 hX1 hX4 hp hx0 hrow hr hw h1 h2
    rcases hc with ⟨n2, hn2, k1, k2, k3, rfl⟩ | ⟨k1, rfl⟩
    · have e1 : ¬ n2 < n := fun c => l1 n2 c k2
      have e2 : ¬ n < n2 := fun c => k1 n c l2
      rw [show n2 = n by omega]
    · exact absurd l2 (k1 n hn)
  · rcases hc with ⟨n2, hn2, k1, k2, k3, rfl⟩ | ⟨k1, rfl⟩
    · exact absurd k2 (plan_no hP hK4 hp hx0 hrow h1 n2 hn2)
    · rfl
theorem plan_k_eq {nv : Nat → Int32} {Kv : Int32} {K X P p x0 : Nat} {row g : Nat → Int32} (hP : P ≤ 5) (hK4 : K ≤ 4) (hX1 : 1 ≤ X) (hX4 : X ≤ 4) (hp : p < P) (hx0 : x0 < X) (hrow : row p = nI x0) {k : Nat} {a b : Int32} (hc : fwK (fun m => ldR nv Kv K P p m row) (fun n => PL nv Kv K P p n row g) k (g k) a) (hm : plQ (K * X) (fun r n => moR (mbR nv Kv K X P row r n n)) (nI p) (fun n r => if k < n then nI (saE X (evi (K * X) r n k)) else -9) b) : a = b := by
  rcases hm with ⟨n, r, hn, hr, hw, h1, h2, rfl⟩ | ⟨h1, rfl⟩
  · obtain ⟨l1, l2, es, hM, hcd⟩ := plan_al hP hK4 hX1 hX4 hp hx0 hrow hr hw h1 h2
    rcases hc with ⟨n2, hn2, k1, k2, k3, rfl⟩ | ⟨k1, rfl⟩
    · have e1 : ¬ n2 < n := fun c => l1 n2 c k2
      have e2 : ¬ n < n2 := fun c => k1 n c l2
      obtain rfl : n2 = n := by omega
      by_cases c : k < n2
      · dsimp only
        rw [if_pos c, if_pos c]
        have hkl : k < es.length := by rw [hM.2.1]; exact c
        have hg := List.getElem?_eq_getElem hkl
        have h3 := PL_min hP hK4 hp hx0 n2 row g es hrow k3 hM k _ hg
        have h4 := cod_evi es hM.1 k _ hg
        rw [hM.2.1, hcd] at h4
        have hv := hM.1 _ (List.getElem_mem hkl)
        obtain ⟨f1, f2, f3⟩ := ev_e (K := K) hv.1 hv.2
        rw [h3, h4]
        unfold saE
        rw [f2, f3]
      · dsimp only
        rw [if_neg c, if_neg c]
    · exact absurd l2 (k1 n hn)
  · rcases hc with ⟨n2, hn2, k1, k2, k3, rfl⟩ | ⟨k1, rfl⟩
    · exact absurd k2 (plan_no hP hK4 hp hx0 hrow h1 n2 hn2)
    · rfl
