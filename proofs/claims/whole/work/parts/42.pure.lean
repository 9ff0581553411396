theorem nSum_ext {f g : Nat → Int32} {n : Nat} (h : ∀ j, j < n → f j = g j) : nSum f n = nSum g n := by
  induction n with
  | zero => rfl
  | succ n ih =>
    simp only [nSum]
    rw [ih (fun j hj => h j (by omega)), h n (by omega)]
theorem nSum_z {f : Nat → Int32} {P : Nat} (n : Nat) (h : ∀ j, P ≤ j → j < P + n → f j = nI 0) : nSum f (P + n) = nSum f P := by
  induction n with
  | zero => rfl
  | succ n ih =>
    rw [← Nat.add_assoc]
    simp only [nSum]
    rw [ih (fun j h1 h2 => h j h1 (by omega)), h (P + n) (by omega) (by omega), nI_0, Int32.add_zero]
theorem nCnt_ext {f g : Nat → Int32} {n : Nat} (h : ∀ j, j < n → f j = g j) : nCnt f n = nCnt g n := by
  induction n with
  | zero => rfl
  | succ n ih =>
    simp only [nCnt]
    rw [ih (fun j hj => h j (by omega)), h n (by omega)]
theorem nCnt_z {f : Nat → Int32} {P : Nat} (n : Nat) (h : ∀ j, P ≤ j → j < P + n → f j = nI 0) : nCnt f (P + n) = nCnt f P := by
  induction n with
  | zero => rfl
  | succ n ih =>
    rw [← Nat.add_assoc]
    simp only [nCnt]
    rw [ih (fun j h1 h2 => h j h1 (by omega)), h (P + n) (by omega) (by omega), if_pos (by decide), Nat.add_zero]
theorem gshK_NR {M : Mem} {a : Nat} {row : Nat → Int32} {K : Nat} (h : NR M a row) (hW : WR row) (hK : M 10 0 = nI K) (hK1 : 1 ≤ K) (hK4 : K ≤ 4) {p : Nat} (hp : p < 5) (m : Int32) : ∀ k, k ≤ 4 → gshK M a p k m = msK (nI K) row p k m := by
  intro k
  induction k with
  | zero => exact fun _ => rfl
  | succ k ih =>
    intro hk
    simp only [gshK, msK]
    rw [ih (by omega), shk_NR h hW hK hK1 hK4 hp (by omega)]
    rfl
theorem gsh_NR {M : Mem} {a : Nat} {row : Nat → Int32} {K : Nat} (h : NR M a row) (hW : WR row) (hK : M 10 0 = nI K) (hK1 : 1 ≤ K) (hK4 : K ≤ 4) : ∀ P, P ≤ 5 → gsh M a K P = msR (nI K) row K P := by
  intro P
  induction P with
  | zero => exact fun _ => rfl
  | succ P ih =>
    intro hP
    simp only [gsh, msR]
    rw [ih (by omega), gshK_NR h hW hK hK1 hK4 (by omega) _ K hK4]
def sm (h : Nat → Nat) : Nat → Nat
  | 0 => 0
  | n + 1 => sm h n + h n
theorem sm_ext {f g : Nat → Nat} {n : Nat} (h : ∀ j, j < n → f j = g j) : sm f n = sm g n := by
  induction n with
  | zero => rfl
  | succ n ih =>
    simp only [sm]
    rw [ih (fun j hj => h j (by omega)), h n (by omega)]
theorem sm_zero (n : Nat) : sm (fun _ => 0) n = 0 := by
  induction n with
  | zero => rfl
  | succ n ih => simp only [sm]; rw [ih]
theorem sm_add (f g : Nat → Nat) (n : Nat) : sm (fun k => f k + g k) n = sm f n + sm g n := by
  induction n with
  | zero => rfl
  | succ n ih => simp only [sm]; rw [ih]; omega
theorem sm_app (f : Nat → Nat) (n m : Nat) : sm f (n + m) = sm f n + sm (fun i => f (n + i)) m := by
  induction m with
  | zero => rfl
  | succ m ih =>
    rw [← Nat.add_assoc]
    simp only [sm]
    rw [ih]; omega
theorem sm_mul (f : Nat → Nat) (K m : Nat) : sm f (K * m) = sm (fun k => sm (fun r => f (k + K * r)) m) K := by
  induction m with
  | zero =>
    simp only [sm, Nat.mul_zero]
    rw [sm_zero]
  | succ m ih =>
    rw [Nat.mul_succ, sm_app, ih]
    simp only [sm]
    rw [sm_add]
    congr 1
    exact sm_ext (fun j _ => by rw [Nat.add_comm])
theorem odC_sm (nv : Nat → Int32) (Kv : Int32) (K : Nat) (x : Int32) (P : Nat) (s5 : Nat → Int32) (n : Nat) (pv : Int32) (N : Nat) : odC nv Kv K x P s5 n pv N = sm (fun r => if moR (odR nv Kv K x P s5 r n) = pv then 1 else 0) N := by
  induction N with
  | zero => rfl
  | succ N ih => simp only [odC, sm]; rw [ih]
theorem wyK_sm (nv : Nat → Int32) (Kv : Int32) (K : Nat) (pv x : Int32) (P l : Nat) (row : Nat → Int32) (N : Nat) : wyK nv Kv K pv x P l row N = sm (fun k => wyR nv Kv K pv x P l (evR nv Kv row k x P)) N := by
  induction N with
  | zero => rfl
  | succ N ih => simp only [wyK, sm]; rw [ih]
theorem odR_sh (nv : Nat → Int32) (Kv : Int32) (K : Nat) (x : Int32) (P : Nat) (s5 : Nat → Int32) (r i : Nat) : odR nv Kv K x P s5 r (i + 1) = odR nv Kv K x P (evR nv Kv s5 (r % K) x P) (r / K) i := by
  induction i with
  | zero => simp only [odR]; rw [Nat.pow_zero, Nat.div_one]
  | succ i ih =>
    have e : odR nv Kv K x P s5 r (i + 1 + 1) = evR nv Kv (odR nv Kv K x P s5 r (i + 1)) (r / K ^ (i + 1) % K) x P := by simp only [odR]
    rw [e, ih]
    simp only [odR]
    rw [Nat.div_div_eq_div_mul, Nat.pow_succ, Nat.mul_comm K (K ^ i)]
theorem odds_eq (nv : Nat → Int32) (Kv : Int32) {K : Nat} (hK : 1 ≤ K) (x : Int32) (P : Nat) (pv : Int32) : ∀ (n : Nat) (row : Nat → Int32), wyR nv Kv K pv x P n row = odC nv Kv K x P row n pv (K ^ n) := by
  intro n
  induction n with
  | zero =>
    intro row
    rw [odC_sm]
    by_cases c : moR row = pv <;> simp [wyR, sm, odR, c]
  | succ n ih =>
    intro row
    have e : wyR nv Kv K pv x P (n + 1) row = sm (fun k => wyR nv Kv K pv x P n (evR nv Kv row k x P)) K := by
      rw [← wyK_sm, wyK_eq]
      simp only [wyR]
    rw [e, odC_sm, Nat.pow_succ, Nat.mul_comm, sm_mul]
    refine sm_ext (fun k hk => ?_)
    rw [ih, odC_sm]
    refine sm_ext (fun r _ => ?_)
    rw [odR_sh, Nat.add_mul_mod_self_left, Nat.mod_eq_of_lt hk, Nat.add_mul_div_left _ _ hK, Nat.div_eq_of_lt hk, Nat.zero_add]
theorem evi_lo {E r e k i : Nat} (hE : e < E) (hi : i < k) : evi E (E * r + e) (k + 1) i = evi E r k i := by
  unfold evi
  have h0 : 0 < E := by omega
  rw [show k + 1 - 1 - i = (k - 1 - i) + 1 by omega, Nat.pow_succ, Nat.mul_comm (E ^ (k - 1 - i)) E, ← Nat.div_div_eq_div_mul, Nat.mul_add_div h0, Nat.div_eq_of_lt hE, Nat.add_zero]
theorem evi_hi {E r e k : Nat} (hE : e < E) : evi E (E * r + e) (k + 1) k = e := by
  unfold evi
  rw [show k + 1 - 1 - k = 0 by omega, Nat.pow_zero, Nat.div_one, Nat.mul_add_mod, Nat.mod_eq_of_lt hE]
theorem mbR_lo (nv : Nat → Int32) (Kv : Int32) (K X P : Nat) (s : Nat → Int32) {r e k : Nat} (he : e < K * X) : ∀ i, i ≤ k → mbR nv Kv K X P s (K * X * r + e) (k + 1) i = mbR nv Kv K X P s r k i := by
  intro i
  induction i with
  | zero => exact fun _ => rfl
  | succ i ih =>
    intro hi
    simp only [mbR]
    rw [ih (by omega), evi_lo he (by omega)]
theorem mbR_s (nv : Nat → Int32) (Kv : Int32) (K X P : Nat) (s : Nat → Int32) {r e k : Nat} (he : e < K * X) : mbR nv Kv K X P s (K * X * r + e) (k + 1) (k + 1) = evR nv Kv (mbR nv Kv K X P s r k k) (e / X) (nI (e % X)) P := by
  have h : mbR nv Kv K X P s (K * X * r + e) (k + 1) (k + 1) = evR nv Kv (mbR nv Kv K X P s (K * X * r + e) (k + 1) k) (evi (K * X) (K * X * r + e) (k + 1) k / X) (nI (evi (K * X) (K * X * r + e) (k + 1) k % X)) P := by simp only [mbR]
  rw [h, mbR_lo nv Kv K X P s he k (Nat.le_refl k), evi_hi he]
theorem anyD_iff (f : Nat → Bool) (E : Nat) : ∀ d, anyD f E d = true ↔ ∃ j, j < d ∧ f (E - 1 - j) = true := by
  intro d
  induction d with
  | zero => exact ⟨fun h => absurd h (by simp [anyD]), fun ⟨j, hj, _⟩ => absurd hj (Nat.not_lt_zero _)⟩
  | succ d ih =>
    simp only [anyD, Bool.or_eq_true]
    rw [ih]
    refine ⟨fun h => ?_, fun ⟨j, hj, h⟩ => ?_⟩
    · rcases h with h | ⟨j, hj, h⟩
      · exact ⟨d, by omega, h⟩
      · exact ⟨j, by omega, h⟩
    · by_cases e : j = d
      · subst e; exact Or.inl h
      · exact Or.inr ⟨j, by omega, h⟩
theorem allD_iff (f : Nat → Bool) (E : Nat) : ∀ d, allD f E d = true ↔ ∀ j, j < d → f (E - 1 - j) = true := by
  intro d
  induction d with
  | zero => exact ⟨fun _ j hj => absurd hj (Nat.not_lt_zero _), fun _ => rfl⟩
  | succ d ih =>
    simp only [allD, Bool.and_eq_true]
    rw [ih]
    refine ⟨fun h j hj => ?_, fun h => ⟨h d (by omega), fun j hj => h j (by omega)⟩⟩
    by_cases e : j = d
    · subst e; exact h.1
    · exact h.2 j (by omega)
theorem anyE (f : Nat → Bool) (E : Nat) : anyD f E E = true ↔ ∃ e, e < E ∧ f e = true := by
  rw [anyD_iff]
  refine ⟨fun ⟨j, hj, h⟩ => ⟨E - 1 - j, by omega, h⟩, fun ⟨e, he, h⟩ => ⟨E - 1 - e, by omega, ?_⟩⟩
  rw [show E - 1 - (E - 1 - e) = e by omega]; exact h
theorem allE (f : Nat → Bool) (E : Nat) : allD f E E = true ↔ ∀ e, e < E → f e = true := by
  rw [allD_iff]
  refine ⟨fun h e he => ?_, fun h j hj => h _ (by omega)⟩
  have := h (E - 1 - e) (by omega)
  rwa [show E - 1 - (E - 1 - e) = e by omega] at this
theorem ev_kx {K X e : Nat} (hX : 1 ≤ X) (he : e < K * X) : e / X < K ∧ e % X < X := ⟨(Nat.div_lt_iff_lt_mul hX).mpr he, Nat.mod_lt _ hX⟩
theorem ev_e {K X k x : Nat} (hk : k < K) (hx : x < X) : k * X + x < K * X ∧ (k * X + x) / X = k ∧ (k * X + x) % X = x := by
  have h0 : 0 < X := by omega
  refine ⟨?_, ?_, ?_⟩
  · calc k * X + x < k * X + X := by omega
      _ = (k + 1) * X := (Nat.succ_mul k X).symm
      _ ≤ K * X := Nat.mul_le_mul_right X hk
  · rw [Nat.mul_comm, Nat.mul_add_div h0, Nat.div_eq_of_lt hx, Nat.add_zero]
  · rw [Nat.mul_comm, Nat.mul_add_mod, Nat.mod_eq_of_lt hx]
theorem fB_any {nv : Nat → Int32} {Kv : Int32} {K X P p l : Nat} {row : Nat → Int32} : fB nv Kv K X P p (l + 1) true row = true ↔ ∃ k, k < K ∧ ∃ x, x < X ∧ fB nv Kv K X P p l false (evR nv Kv row k (nI x) P) = true := by
  simp only [fB, if_true, Bool.not_true]
  rw [List.any_eq_true]
  refine ⟨fun ⟨k, hk, h⟩ => ?_, fun ⟨k, hk, x, hx, h⟩ => ⟨k, List.mem_range.mpr hk, List.any_eq_true.mpr ⟨x, List.mem_range.mpr hx, h⟩⟩⟩
  obtain ⟨x, hx, h2⟩ := List.any_eq_true.mp h
  exact ⟨k, List.mem_range.mp hk, x, List.mem_range.mp hx, h2⟩
theorem fB_all {nv : Nat → Int32} {Kv : Int32} {K X P p l : Nat} {row : Nat → Int32} : fB nv Kv K X P p (l + 1) false row = true ↔ ∀ k, k < K → ∀ x, x < X → fB nv Kv K X P p l true (evR nv Kv row k (nI x) P) = true := by
  simp only [fB, Bool.not_false]
  rw [if_neg Bool.false_ne_true, List.all_eq_true]
  refine ⟨fun h k hk x hx => List.all_eq_true.mp (h k (List.mem_range.mpr hk)) x (List.mem_range.mpr hx), fun h k hk => List.all_eq_true.mpr (fun x hx => h k (List.mem_range.mp hk) x (List.mem_range.mp hx))⟩
theorem VV_fB (nv : Nat → Int32) (Kv : Int32) {K X : Nat} (hX : 1 ≤ X) (P p : Nat) (s : Nat → Int32) : ∀ (d k n r0 : Nat), n = k + d → VV (K * X) (fun r => decide (moR (mbR nv Kv K X P s r n n) = nI p)) d k r0 = fB nv Kv K X P p d (decide (k % 2 = 0)) (mbR nv Kv K X P s r0 k k) := by
  intro d
  induction d with
  | zero =>
    intro k n r0 hn
    obtain rfl : n = k := hn
    simp only [VV, fB]
  | succ d ih =>
    intro k n r0 hn
    have hstep : ∀ e, e < K * X → VV (K * X) (fun r => decide (moR (mbR nv Kv K X P s r n n) = nI p)) d (k + 1) (K * X * r0 + e) = fB nv Kv K X P p d (decide ((k + 1) % 2 = 0)) (evR nv Kv (mbR nv Kv K X P s r0 k k) (e / X) (nI (e % X)) P) := by
      intro e he
      rw [ih (k + 1) n _ (by omega), mbR_s nv Kv K X P s he]
    by_cases c : k % 2 = 0
    · have c2 : ¬ (k + 1) % 2 = 0 := by omega
      have e1 : VV (K * X) (fun r => decide (moR (mbR nv Kv K X P s r n n) = nI p)) (d + 1) k r0 = anyD (fun e => VV (K * X) (fun r => decide (moR (mbR nv Kv K X P s r n n) = nI p)) d (k + 1) (K * X * r0 + e)) (K * X) (K * X) := by
        simp only [VV]; exact if_pos c
      rw [e1, decide_eq_true c, Bool.eq_iff_iff, anyE, fB_any]
      refine ⟨fun ⟨e, he, h⟩ => ?_, fun ⟨q, hq, x, hx, h⟩ => ?_⟩
      · rw [hstep e he, decide_eq_false c2] at h
        exact ⟨e / X, (ev_kx hX he).1, e % X, (ev_kx hX he).2, h⟩
      · obtain ⟨h1, h2, h3⟩ := ev_e (K := K) hq hx
        refine ⟨q * X + x, h1, ?_⟩
        rw [hstep _ h1, decide_eq_false c2, h2, h3]
        exact h
    · have c2 : (k + 1) % 2 = 0 := by omega
      have e1 : VV (K * X) (fun r => decide (moR (mbR nv Kv K X P s r n n) = nI p)) (d + 1) k r0 = allD (fun e => VV (K * X) (fun r => decide (moR (mbR nv Kv K X P s r n n) = nI p)) d (k + 1) (K * X * r0 + e)) (K * X) (K * X) := by
        simp only [VV]; exact if_neg c
      rw [e1, decide_eq_false c, Bool.eq_iff_iff, allE, fB_all]
      refine ⟨fun h q hq x hx => ?_, fun h e he => ?_⟩
      · obtain ⟨h1, h2, h3⟩ := ev_e (K := K) hq hx
        have h4 := h (q * X + x) h1
        rw [hstep _ h1, decide_eq_true c2, h2, h3] at h4
        exact h4
      · rw [hstep e he, decide_eq_true c2]
        exact h _ (ev_kx hX he).1 _ (ev_kx hX he).2
theorem fsD_at {g : Nat → Bool} {E X e : Nat} : ∀ d, d ≤ E → E - d ≤ e → e < E → g e = true → (∀ e1, E - d ≤ e1 → e1 < e → ¬ g e1 = true) → fsD g E X d = nI (saE X e) := by
  intro d
  induction d with
  | zero => exact fun _ h1 h2 => absurd h2 (by omega)
  | succ d ih =>
    intro hd h1 h2 hg hn
    by_cases c : e = E - 1 - d
    · subst c
      exact fsD_y hg
    · rw [fsD_n (hn _ (by omega) (by omega))]
      exact ih (by omega) (by omega) h2 hg (fun e1 q1 q2 => hn e1 (by omega) q2)
theorem fsD_none {g : Nat → Bool} {E X : Nat} : ∀ d, d ≤ E → (∀ e, e < E → ¬ g e = true) → fsD g E X d = -9 := by
  intro d
  induction d with
  | zero => exact fun _ _ => rfl
  | succ d ih =>
    intro hd h
    rw [fsD_n (h _ (by omega))]
    exact ih (by omega) h
theorem op_fs {K X : Nat} (hX : 1 ≤ X) {h : Nat → Nat → Bool} {g : Nat → Bool} (hg : ∀ e, e < K * X → g e = h (e / X) (e % X)) {rz : Int32} (ho : opQ K X h rz) : rz = fsD g (K * X) X (K * X) := by
  rcases ho with ⟨k, x, hk, hx, h1, h2, h3, rfl⟩ | ⟨h1, rfl⟩
  · obtain ⟨e1, e2, e3⟩ := ev_e (K := K) hk hx
    rw [fsD_at (e := k * X + x) (K * X) (Nat.le_refl _) (by omega) e1 (by rw [hg _ e1, e2, e3]; exact h1)]
    · unfold saE
      rw [e2, e3]
    · intro e4 _ h4
      have h5 : e4 < K * X := by omega
      rw [hg _ h5]
      have h6 := ev_kx hX h5
      by_cases c : e4 / X < k
      · exact h2 _ c _ h6.2
      · have h7 : e4 / X ≤ k := by
          rw [← e2]
          exact Nat.div_le_div_right (Nat.le_of_lt h4)
        have h8 : e4 / X = k := by omega
        rw [h8]
        refine h3 _ ?_
        have h9 := Nat.div_add_mod e4 X
        rw [h8, Nat.mul_comm] at h9
        omega
  · rw [fsD_none _ (Nat.le_refl _)]
    intro e he
    rw [hg e he]
    exact h1 _ (ev_kx hX he).1 _ (ev_kx hX he).2
theorem mbR_1 (nv : Nat → Int32) (Kv : Int32) (K X P : Nat) (s : Nat → Int32) {e : Nat} (he : e < K * X) : mbR nv Kv K X P s e 1 1 = evR nv Kv s (e / X) (nI (e % X)) P := by
  have h := mbR_s nv Kv K X P s (r := 0) (k := 0) he
  rw [Nat.mul_zero, Nat.zero_add] at h
  rw [h]
  simp only [mbR]
