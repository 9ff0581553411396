theorem e2_cell {R1 : Nat → Int32} {k : Nat} {x : Int32} (hk : k < 4) {q j : Nat} (hj : j < 4) (hq : q < 5) : ∀ n, n ≤ 5 → e2 R1 k x n (5 + 4 * q + j) = R1 (5 + 4 * q + j) + (if q < n ∧ j = k ∧ R1 q = x ∧ R1 (5 + 4 * q + j) < nI 999 then nI 1 else nI 0) := by
  intro n
  induction n with
  | zero =>
    intro _
    rw [if_neg (fun h => absurd h.1 (Nat.not_lt_zero _)), nI_0, Int32.add_zero]
    rfl
  | succ n ih =>
    intro hn
    simp only [e2]
    by_cases c : q = n ∧ j = k
    · obtain ⟨rfl, rfl⟩ := c
      rw [pk_us, ih (by omega), if_neg (fun h => absurd h.1 (by omega)), nI_0, Int32.add_zero, e2_lo (by omega) (by omega) hk]
      by_cases c2 : R1 q = x ∧ R1 (5 + 4 * q + j) < nI 999
      · rw [if_pos c2, if_pos ⟨by omega, rfl, c2⟩]
      · rw [if_neg c2, if_neg (fun h => c2 h.2.2)]
    · rw [pk_un (by omega), ih (by omega)]
      by_cases c2 : q < n ∧ j = k ∧ R1 q = x ∧ R1 (5 + 4 * q + j) < nI 999
      · rw [if_pos c2, if_pos ⟨by omega, c2.2⟩]
      · rw [if_neg c2, if_neg (fun h => c2 ⟨by have := h.1; have := h.2.1; omega, h.2⟩)]
theorem evR_cell {nv row : Nat → Int32} {Kv : Int32} {k : Nat} {x : Int32} {P : Nat} (hP : P ≤ 5) (hk : k < 4) {q j : Nat} (hj : j < 4) (hq : q < 5) : evR nv Kv row k x P (5 + 4 * q + j) = row (5 + 4 * q + j) + (if q < P ∧ j = k ∧ row q = x ∧ row (5 + 4 * q + j) < nI 999 then nI 1 else nI 0) := by
  unfold evR
  rw [e2_cell hk hj hq P hP, e1_lo (by omega), e1_lo (by omega)]
def EQ (x : Int32) (row row1 : Nat → Int32) : Prop := (∀ q, q < 5 → row q = row1 q) ∧ ∀ q, q < 5 → row q = x → ∀ j, j < 4 → row (5 + 4 * q + j) = row1 (5 + 4 * q + j)
theorem EQ.rf (x : Int32) (row : Nat → Int32) : EQ x row row := ⟨fun _ _ => rfl, fun _ _ _ _ _ => rfl⟩
theorem EQ_at {nv row row1 : Nat → Int32} {Kv x : Int32} {k P : Nat} (hP : P ≤ 5) (hk : k < 4) (h : EQ x row row1) : EQ x (evR nv Kv row k x P) (evR nv Kv row1 k x P) := by
  refine ⟨fun q hq => ?_, fun q hq hx j hj => ?_⟩
  · rw [evR_pl hk x hP hq, evR_pl hk x hP hq]; exact h.1 q hq
  · rw [evR_pl hk x hP hq] at hx
    rw [evR_cell hP hk hj hq, evR_cell hP hk hj hq, h.2 q hq hx j hj, h.1 q hq]
theorem EQ_off {nv row row1 : Nat → Int32} {Kv x y : Int32} {k P : Nat} (hP : P ≤ 5) (hk : k < 4) (hy : ¬ y = x) (h : EQ x row row1) : EQ x (evR nv Kv row k y P) row1 := by
  refine ⟨fun q hq => ?_, fun q hq hx j hj => ?_⟩
  · rw [evR_pl hk y hP hq]; exact h.1 q hq
  · rw [evR_pl hk y hP hq] at hx
    rw [evR_cell hP hk hj hq, if_neg (fun c => hy (c.2.2.1.symm.trans hx)), nI_0, Int32.add_zero]
    exact h.2 q hq hx j hj
theorem suR_EQ {row row1 : Nat → Int32} {Kv x : Int32} (h : EQ x row row1) {q k : Nat} (hq : q < 5) (hk : k < 4) (hx : row q = x) : suR Kv row q k = suR Kv row1 q k := by
  have h2 := h.2 q hq hx
  unfold suR aS
  rw [h2 k hk, nSum_ext (fun j hj => h2 j hj)]
theorem eF_EQ {nv row row1 : Nat → Int32} {Kv x : Int32} (h : EQ x row row1) {k : Nat} (hk : k < 4) : ∀ n, n ≤ 5 → eF nv Kv row k x n = eF nv Kv row1 k x n := by
  intro n
  induction n with
  | zero => exact fun _ => rfl
  | succ n ih =>
    intro hn
    simp only [eF]
    rw [ih (by omega), ← h.1 n (by omega)]
    by_cases c : row n = x
    · rw [suR_EQ h (by omega) hk c]
    · rw [if_neg (fun q => c q.1), if_neg (fun q => c q.1)]
theorem mo_ev {nv row : Nat → Int32} {Kv : Int32} {k : Nat} (hk : k < 4) (x : Int32) {P : Nat} (hP : P ≤ 5) : moR (evR nv Kv row k x P) = if (eF nv Kv row k x P).2.1 = -9 then moR row else (eF nv Kv row k x P).2.1 := by
  have e0 : moR (evR nv Kv row k x P) = moR (e1 row (eF nv Kv row k x P).2.1) := by
    unfold moR evR
    rw [e2_lo (by omega) hP hk]
  rw [e0]
  by_cases c : (eF nv Kv row k x P).2.1 = -9
  · rw [if_pos c]
    unfold e1
    rw [if_pos (Or.inl c)]
  · rw [if_neg c]
    obtain ⟨q, hq, e⟩ := eF_first c
    rw [e]
    unfold e1
    by_cases c2 : row 30 = nI q + nI 1
    · rw [if_pos (Or.inr c2)]
      exact moR_pos (by rw [c2, nI_add]) (by omega)
    · rw [if_neg (fun q1 => q1.elim (fun q2 => nI_ne9 (by omega) q2) c2), nI_clamp (by omega), nI_add, moR_upd (by omega)]
      exact moR_pos (by rw [pk_us]) (by omega)
theorem eF_place {nv row : Nat → Int32} {Kv x : Int32} {k p : Nat} (hp : p < 2 ^ 31) : ∀ n, n ≤ 5 → (eF nv Kv row k x n).2.1 = nI p → row p = x := by
  intro n
  induction n with
  | zero => exact fun _ h => absurd h.symm (nI_ne9 hp)
  | succ n ih =>
    intro hn
    simp only [eF]
    by_cases c : row n = x ∧ nv n ≤ suR Kv row n k
    · rw [if_pos c]
      dsimp only
      by_cases c2 : (eF nv Kv row k x n).2.2 < suR Kv row n k
      · rw [if_pos c2]
        intro e
        rw [← (nI_eq (by omega) hp).mp e]
        exact c.1
      · rw [if_neg c2]
        exact ih (by omega)
    · rw [if_neg c]
      exact ih (by omega)
abbrev EV : Type := Nat × Nat
def ap (nv : Nat → Int32) (Kv : Int32) (P : Nat) (row : Nat → Int32) (es : List EV) : Nat → Int32 := es.foldl (fun r e => evR nv Kv r e.1 (nI e.2) P) row
def cod (E X : Nat) (es : List EV) : Nat := es.foldl (fun r e => E * r + (e.1 * X + e.2)) 0
def Vl (K X : Nat) (es : List EV) : Prop := ∀ e ∈ es, e.1 < K ∧ e.2 < X
theorem ap_c (nv : Nat → Int32) (Kv : Int32) (P : Nat) (row : Nat → Int32) (e : EV) (es : List EV) : ap nv Kv P row (e :: es) = ap nv Kv P (evR nv Kv row e.1 (nI e.2) P) es := by
  unfold ap; exact List.foldl_cons ..
theorem ap_s (nv : Nat → Int32) (Kv : Int32) (P : Nat) (row : Nat → Int32) (es : List EV) (e : EV) : ap nv Kv P row (es ++ [e]) = evR nv Kv (ap nv Kv P row es) e.1 (nI e.2) P := by
  unfold ap; rw [List.foldl_append]; rfl
theorem cod_s (E X : Nat) (es : List EV) (e : EV) : cod E X (es ++ [e]) = E * cod E X es + (e.1 * X + e.2) := by
  unfold cod; rw [List.foldl_append]; rfl
theorem cod_f (E X : Nat) : ∀ (es : List EV) (r : Nat), es.foldl (fun r e => E * r + (e.1 * X + e.2)) r = E ^ es.length * r + cod E X es := by
  intro es
  induction es with
  | nil => intro r; simp [cod]
  | cons e es ih =>
    intro r
    unfold cod
    rw [List.foldl_cons, List.foldl_cons, ih, ih (E * 0 + (e.1 * X + e.2)), List.length_cons, Nat.pow_succ, Nat.mul_add, Nat.mul_zero, Nat.zero_add, Nat.mul_assoc, Nat.add_assoc]
theorem cod_c (E X : Nat) (e : EV) (es : List EV) : cod E X (e :: es) = E ^ es.length * (e.1 * X + e.2) + cod E X es := by
  have h := cod_f E X es (E * 0 + (e.1 * X + e.2))
  rw [Nat.mul_zero, Nat.zero_add] at h
  have h2 : cod E X (e :: es) = es.foldl (fun r e => E * r + (e.1 * X + e.2)) (e.1 * X + e.2) := by
    unfold cod
    rw [List.foldl_cons, Nat.mul_zero, Nat.zero_add]
  rw [h2, h]
theorem snoc_ind {α : Type} {C : List α → Prop} (h0 : C []) (h1 : ∀ l a, C l → C (l ++ [a])) (l : List α) : C l := by
  have h : ∀ l : List α, C l.reverse := by
    intro l
    induction l with
    | nil => exact h0
    | cons a l ih => rw [List.reverse_cons]; exact h1 _ _ ih
  have := h l.reverse
  rwa [List.reverse_reverse] at this
theorem Vl_s {K X : Nat} {es : List EV} {e : EV} (h : Vl K X (es ++ [e])) : Vl K X es ∧ e.1 < K ∧ e.2 < X := ⟨fun q hq => h q (List.mem_append.mpr (Or.inl hq)), h e (List.mem_append.mpr (Or.inr (List.mem_singleton.mpr rfl)))⟩
theorem Vl_sn {K X : Nat} {es : List EV} {e : EV} (h : Vl K X es) (h2 : e.1 < K ∧ e.2 < X) : Vl K X (es ++ [e]) := fun q hq => (List.mem_append.mp hq).elim (h q) (fun q1 => by rw [List.mem_singleton.mp q1]; exact h2)
theorem mb_ap (nv : Nat → Int32) (Kv : Int32) (K X P : Nat) (row : Nat → Int32) (es : List EV) : Vl K X es → mbR nv Kv K X P row (cod (K * X) X es) es.length es.length = ap nv Kv P row es ∧ cod (K * X) X es < (K * X) ^ es.length := by
  refine snoc_ind (C := fun es => Vl K X es → mbR nv Kv K X P row (cod (K * X) X es) es.length es.length = ap nv Kv P row es ∧ cod (K * X) X es < (K * X) ^ es.length) ?_ ?_ es
  · intro _
    exact ⟨rfl, by simp [cod]⟩
  · intro l e ih hV
    obtain ⟨h1, h2, h3⟩ := Vl_s hV
    obtain ⟨e1, e2, e3⟩ := ev_e (K := K) h2 h3
    obtain ⟨i1, i2⟩ := ih h1
    rw [cod_s, List.length_append, List.length_singleton, mbR_s nv Kv K X P row e1, e2, e3, ap_s, i1]
    refine ⟨rfl, ?_⟩
    rw [Nat.pow_succ]
    calc K * X * cod (K * X) X l + (e.1 * X + e.2) < K * X * cod (K * X) X l + K * X := by omega
      _ = K * X * (cod (K * X) X l + 1) := by rw [Nat.mul_add, Nat.mul_one]
      _ ≤ K * X * (K * X) ^ l.length := Nat.mul_le_mul_left _ i2
      _ = (K * X) ^ l.length * (K * X) := Nat.mul_comm _ _
theorem cod_all {K X : Nat} (hX : 1 ≤ X) : ∀ (n r : Nat), r < (K * X) ^ n → ∃ es : List EV, Vl K X es ∧ es.length = n ∧ cod (K * X) X es = r := by
  intro n
  induction n with
  | zero =>
    intro r hr
    rw [Nat.pow_zero] at hr
    exact ⟨[], fun q hq => absurd hq (List.not_mem_nil), rfl, by simp [cod]; omega⟩
  | succ n ih =>
    intro r hr
    have hE : 0 < K * X := by
      rcases Nat.eq_zero_or_pos (K * X) with h | h
      · rw [h, Nat.zero_pow (by omega)] at hr; omega
      · exact h
    have h1 : r / (K * X) < (K * X) ^ n := (Nat.div_lt_iff_lt_mul hE).mpr (by rw [← Nat.pow_succ]; exact hr)
    obtain ⟨es, hV, hl, hc⟩ := ih _ h1
    have hm := Nat.mod_lt r hE
    have hk := ev_kx (K := K) hX hm
    refine ⟨es ++ [(r % (K * X) / X, r % (K * X) % X)], Vl_sn hV hk, by rw [List.length_append, hl]; rfl, ?_⟩
    rw [cod_s, hc]
    dsimp only
    rw [Nat.mul_comm (r % (K * X) / X) X, Nat.div_add_mod, Nat.div_add_mod]
theorem cod_evi {K X : Nat} (es : List EV) : Vl K X es → ∀ (j : Nat) (e : EV), es[j]? = some e → evi (K * X) (cod (K * X) X es) es.length j = e.1 * X + e.2 := by
  refine snoc_ind (C := fun es => Vl K X es → ∀ (j : Nat) (e : EV), es[j]? = some e → evi (K * X) (cod (K * X) X es) es.length j = e.1 * X + e.2) ?_ ?_ es
  · intro _ j e h
    simp at h
  · intro l a ih hV j e h
    obtain ⟨h1, h2, h3⟩ := Vl_s hV
    obtain ⟨e1, e2, e3⟩ := ev_e (K := K) h2 h3
    rw [cod_s, List.length_append, List.length_singleton]
    by_cases c : j < l.length
    · rw [evi_lo e1 c]
      rw [List.getElem?_append_left c] at h
      exact ih h1 j e h
    · rw [List.getElem?_append_right (by omega)] at h
      have c2 : j = l.length := by
        by_cases c3 : j - l.length = 0
        · omega
        · rw [List.getElem?_eq_none (by simp; omega)] at h
          exact absurd h (by simp)
      subst c2
      rw [Nat.sub_self] at h
      have h5 : a = e := by simpa using h
      subst h5
      exact evi_hi e1
theorem ap_pl {nv row : Nat → Int32} {Kv : Int32} {K X P : Nat} (hP : P ≤ 5) (hK4 : K ≤ 4) {q : Nat} (hq : q < 5) (es : List EV) : Vl K X es → ap nv Kv P row es q = row q := by
  refine snoc_ind (C := fun es => Vl K X es → ap nv Kv P row es q = row q) (fun _ => rfl) ?_ es
  intro l e ih hV
  obtain ⟨h1, h2, h3⟩ := Vl_s hV
  rw [ap_s, evR_pl (by omega) _ hP hq]
  exact ih h1
theorem ap_EQ {nv row : Nat → Int32} {Kv : Int32} {K X P x0 : Nat} (hP : P ≤ 5) (hK4 : K ≤ 4) (hX4 : X ≤ 4) (hx0 : x0 < X) (es : List EV) : Vl K X es → EQ (nI x0) (ap nv Kv P row es) (ap nv Kv P row (es.filter (fun e => e.2 == x0))) := by
  refine snoc_ind (C := fun es => Vl K X es → EQ (nI x0) (ap nv Kv P row es) (ap nv Kv P row (es.filter (fun e => e.2 == x0)))) (fun _ => EQ.rf _ _) ?_ es
  intro l e ih hV
  obtain ⟨h1, h2, h3⟩ := Vl_s hV
  rw [ap_s, List.filter_append]
  by_cases c : e.2 = x0
  · have hf : [e].filter (fun e => e.2 == x0) = [e] := by simp [c]
    rw [hf, ap_s, c]
    exact EQ_at hP (by omega) (ih h1)
  · have hf : [e].filter (fun e => e.2 == x0) = [] := by simp [c]
    rw [hf, List.append_nil]
    refine EQ_off hP (by omega) (fun q => c ?_) (ih h1)
    exact (nI_eq (by omega) (by omega)).mp q
/-- a shortest row of events by which p is mayor has all its events where p is -/
theorem all_at {nv row : Nat → Int32} {Kv : Int32} {K X P x0 p : Nat} (hP : P ≤ 5) (hK4 : K ≤ 4) (hX4 : X ≤ 4) (hp : p < P) (hx0 : x0 < X) (hrow : row p = nI x0) (es : List EV) (hV : Vl K X es) (hw : moR (ap nv Kv P row es) = nI p) (hmin : ∀ es1 : List EV, Vl K X es1 → es1.length < es.length → ¬ moR (ap nv Kv P row es1) = nI p) : ∀ e ∈ es, e.2 = x0 := by
  revert hV hw hmin
  refine snoc_ind (C := fun es => Vl K X es → moR (ap nv Kv P row es) = nI p → (∀ es1 : List EV, Vl K X es1 → es1.length < es.length → ¬ moR (ap nv Kv P row es1) = nI p) → ∀ e ∈ es, e.2 = x0) ?_ ?_ es
  · intro _ _ _ e he
    exact absurd he List.not_mem_nil
  · intro l e _ hV hw hmin
    obtain ⟨h1, h2, h3⟩ := Vl_s hV
    rw [ap_s, mo_ev (by omega) _ hP] at hw
    have hn := hmin l h1 (by rw [List.length_append]; simp)
    by_cases c : (eF nv Kv (ap nv Kv P row l) e.1 (nI e.2) P).2.1 = -9
    · rw [if_pos c] at hw
      exact absurd hw hn
    · rw [if_neg c] at hw
      have hpl := eF_place (by omega) P hP hw
      rw [ap_pl hP hK4 (by omega) l h1, hrow] at hpl
      have he : e.2 = x0 := ((nI_eq (by omega) (by omega)).mp hpl).symm
      have hE := ap_EQ (nv := nv) (row := row) (Kv := Kv) hP hK4 hX4 hx0 l h1
      have hV2 : Vl K X (l.filter (fun e => e.2 == x0)) := fun q hq => h1 q (List.mem_filter.mp hq).1
      have hw2 : moR (ap nv Kv P row (l.filter (fun e => e.2 == x0) ++ [e])) = nI p := by
        rw [ap_s, mo_ev (by omega) _ hP]
        rw [he] at hw c ⊢
        rw [← eF_EQ hE (by omega) P hP, if_neg c]
        exact hw
      have hlen : ¬ (l.filter (fun e => e.2 == x0)).length < l.length := by
        intro q
        exact hmin _ (Vl_sn hV2 ⟨h2, h3⟩) (by rw [List.length_append, List.length_append]; simp only [List.length_singleton]; omega) hw2
      have hall : ∀ a ∈ l, (fun e : EV => e.2 == x0) a = true := by
        have h5 := List.length_filter_le (fun e : EV => e.2 == x0) l
        exact List.length_filter_eq_length_iff.mp (by omega)
      intro q hq
      rcases List.mem_append.mp hq with q1 | q1
      · exact eq_of_beq (hall q q1)
      · rw [List.mem_singleton.mp q1]; exact he
