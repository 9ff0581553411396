def fl (f : Nat → Int32) (v : Int32) (n : Nat) : Nat → Int32 := fun j => if j < n then v else f j
theorem fl_0 (M : Mem) (b : Nat) (v : Int32) : M = setR M b (fl (M b) v 0) := by
  funext i
  by_cases h : i = b
  · subst h
    rw [setR_self]
    funext j
    simp [fl]
  · rw [setR_ne _ _ h]
theorem fl_in (M : Mem) (b : Nat) (v : Int32) {n j : Nat} (h : j < n) : setR M b (fl (M b) v n) b j = v := by
  rw [setR_self]
  simp [fl, h]
theorem setR_setR (M : Mem) (k : Nat) (r r1 : Nat → Int32) : setR (setR M k r) k r1 = setR M k r1 := by
  funext i
  by_cases h : i = k <;> simp [setR, h]
theorem fl_s (M : Mem) (b : Nat) (v : Int32) (n : Nat) : up2 (setR M b (fl (M b) v n)) b n v = setR M b (fl (M b) v (n + 1)) := by
  unfold up2
  rw [setR_setR, setR_self]
  congr 1
  funext j
  by_cases h : j = n
  · subst h; simp [upd, fl]
  · by_cases h2 : j < n
    · simp [upd, fl, h, h2, Nat.lt_succ_of_lt h2]
    · simp [upd, fl, h, h2, show ¬ j < n + 1 by omega]
theorem nowSep {D : DX} {B a b : Nat} (ha : IsNow D B a) (hb : IsNow D B b) {i : Nat} (h1 : 1 ≤ i) (h4 : i ≤ 4) : a ≠ b + i := by
  intro h
  subst h
  have e1 := ha.2.1 0 (fun _ => 0)
  rcases (show i = 1 ∨ i = 2 ∨ i = 3 ∨ i = 4 by omega) with rfl | rfl | rfl | rfl
  · rw [hb.2.2.1] at e1; simp [sI, sNow] at e1
  · rw [hb.2.2.2.1] at e1; simp [sI, sNow] at e1
  · rw [hb.2.2.2.2.1] at e1; simp [sI, sNow] at e1
  · rw [hb.2.2.2.2.2] at e1; simp [sI, sNow] at e1
theorem nowTown {D : DX} {B a : Nat} (ha : IsNow D B a) {i : Nat} (h4 : i ≤ 4) : a + i ≠ 10 ∧ a + i ≠ 11 := by
  have e1 := ha.2.1 0 (fun _ => 0)
  refine ⟨fun h => ?_, fun h => ?_⟩
  · rcases (show a = 10 ∨ a = 9 ∨ a = 8 ∨ a = 7 ∨ a = 6 by omega) with rfl | rfl | rfl | rfl | rfl
    · rw [cc10] at e1; simp [sTown, sNow] at e1
    · rw [cc9] at e1; simp [sI, sNow] at e1
    · rw [cc8] at e1; simp [sI, sNow] at e1
    · rw [cc7] at e1; simp [sI, sNow] at e1
    · rw [cc6] at e1; simp [sI, sNow] at e1
  · rcases (show a = 11 ∨ a = 10 ∨ a = 9 ∨ a = 8 ∨ a = 7 by omega) with rfl | rfl | rfl | rfl | rfl
    · rw [cc11] at e1; simp [sI, sNow] at e1
    · rw [cc10] at e1; simp [sTown, sNow] at e1
    · rw [cc9] at e1; simp [sI, sNow] at e1
    · rw [cc8] at e1; simp [sI, sNow] at e1
    · rw [cc7] at e1; simp [sI, sNow] at e1
theorem pos_ne {x : Int32} (h : 0 < x) : ¬ x = 0 := fun e => by subst e; exact absurd h (by decide)
def cpN (M : Mem) (a b : Nat) : Mem := setR (setR (setR (setR (up2 M a 0 (M b 0)) (a + 1) (M (b + 1))) (a + 2) (M (b + 2))) (a + 3) (M (b + 3))) (a + 4) (M (b + 4))
theorem cpN_eq {D : DX} {B a b : Nat} (ha : IsNow D B a) (hb : IsNow D B b) (M : Mem) : (fun M => setR M (a + 4) (M (b + 4))) ((fun M => setR M (a + 3) (M (b + 3))) ((fun M => setR M (a + 2) (M (b + 2))) ((fun M => setR M (a + 1) (M (b + 1))) (up2 M a 0 (M b 0))))) = cpN M a b := by
  have h1 := nowSep ha hb (i := 1) (by decide) (by decide)
  have h2 := nowSep ha hb (i := 2) (by decide) (by decide)
  have h3 := nowSep ha hb (i := 3) (by decide) (by decide)
  have h4 := nowSep ha hb (i := 4) (by decide) (by decide)
  unfold cpN
  dsimp only
  rw [up2_ne M _ (Ne.symm h1), setR_ne _ _ (show b + 2 ≠ a + 1 by omega), up2_ne M _ (Ne.symm h2), setR_ne _ _ (show b + 3 ≠ a + 2 by omega), setR_ne _ _ (show b + 3 ≠ a + 1 by omega), up2_ne M _ (Ne.symm h3), setR_ne _ _ (show b + 4 ≠ a + 3 by omega), setR_ne _ _ (show b + 4 ≠ a + 2 by omega), setR_ne _ _ (show b + 4 ≠ a + 1 by omega), up2_ne M _ (Ne.symm h4)]
def rsN (M : Mem) (a : Nat) : Mem := setR (setR (setR (setR (up2 M a 0 (-9)) (a + 1) (fun _ => nI 0)) (a + 2) (fun _ => nI 0)) (a + 3) (fun _ => nI 0)) (a + 4) (fun _ => nI 0)
theorem rsN_eq (M : Mem) (a : Nat) : setR (setR (setR (setR (up2 M a 0 (-9)) (a + 1) (fun _ => nI 0)) (a + 2) (fun _ => nI 0)) (a + 3) (fun _ => nI 0)) (a + 4) (fun _ => nI 0) = rsN M a := rfl
def rsT (M : Mem) : Mem := setR (up2 (up2 (up2 M 3 0 (nI 3)) 3 1 (nI 2)) 3 2 (nI 0)) 4 (fun _ => nI 0)
def cpT (M : Mem) : Mem := setR (up2 (up2 (up2 M 10 0 (M 3 0)) 10 1 (M 3 1)) 10 2 (M 3 2)) 11 (M 4)
def shk (M : Mem) (a p k : Nat) : Int32 := if 0 < M (a + 4) p + M 10 0 then nI 100 - nI 100 * (M (a + 3) (p * 4 + k) + nI 1) / (M (a + 4) p + M 10 0) else nI 0
def gshK (M : Mem) (a p : Nat) : Nat → Int32 → Int32
  | 0, m => m
  | k + 1, m => mx (gshK M a p k m) (shk M a p k)
def gsh (M : Mem) (a K : Nat) : Nat → Int32
  | 0 => -1
  | p + 1 => gshK M a p K (gsh M a K p)
def jmp (M : Mem) (a k : Nat) (x : Int32) : Nat → Int32
  | 0 => nI 0
  | n + 1 => if M (a + 1) n = x ∧ M 11 n ≤ shk M a n k then jmp M a k x n ||| (nI 1 <<< (nI n &&& 31)) else jmp M a k x n
def myb (M : Mem) (a k : Nat) (x : Int32) : Nat → Int32 × Int32
  | 0 => (M a 0, -1)
  | n + 1 => if M (a + 1) n = x ∧ M 11 n ≤ shk M a n k ∧ (myb M a k x n).2 < shk M a n k then (nI n, shk M a n k) else myb M a k x n
def hsM (M : Mem) (a k : Nat) (x : Int32) (P : Nat) : Nat → Mem
  | 0 => crS M a (myb M a k x P).1
  | n + 1 => if M (a + 1) n = x then seeS (hsM M a k x P n) a n k else hsM M a k x P n
def hpM (M : Mem) (a k : Nat) (x : Int32) (P : Nat) : Mem := hsM M a k x P P
theorem adS_fr (M : Mem) (a p k : Nat) (t : Int32) {c : Nat} (h : c ≠ a + 3 ∧ c ≠ a + 4) : adS M a p k t c = M c := by
  unfold adS
  rw [up2_ne _ _ h.2, up2_ne _ _ h.1]
theorem seeS_fr (M : Mem) (a p k : Nat) {c : Nat} (h : c ≠ a + 3 ∧ c ≠ a + 4) : seeS M a p k c = M c := by
  unfold seeS
  split
  · exact adS_fr M a p k _ h
  · rfl
theorem crS_fr (M : Mem) (a : Nat) (p : Int32) {c : Nat} (h : c ≠ a ∧ c ≠ a + 2) : crS M a p c = M c := by
  unfold crS
  split
  · rfl
  · rw [up2_ne _ _ h.2, up2_ne _ _ h.1]
theorem hsM_fr (M : Mem) (a k : Nat) (x : Int32) (P n : Nat) {c : Nat} (h : c ≠ a ∧ c ≠ a + 2 ∧ c ≠ a + 3 ∧ c ≠ a + 4) : hsM M a k x P n c = M c := by
  induction n with
  | zero => exact crS_fr M a _ ⟨h.1, h.2.1⟩
  | succ n ih =>
    show (if M (a + 1) n = x then seeS (hsM M a k x P n) a n k else hsM M a k x P n) c = M c
    split
    · rw [seeS_fr _ _ _ _ ⟨h.2.2.1, h.2.2.2⟩, ih]
    · exact ih
theorem hsM_pl {D : DX} {B a : Nat} (ha : IsNow D B a) {M : Mem} {k : Nat} {x : Int32} {P n : Nat} : hsM M a k x P n (a + 1) = M (a + 1) := hsM_fr M a k x P n (by omega)
theorem hsM_P {D : DX} {B a : Nat} (ha : IsNow D B a) {M : Mem} {k : Nat} {x : Int32} {P n : Nat} {v : Int32} (h : M 10 2 = v) : hsM M a k x P n 10 2 = v := by
  have e0 := nowTown ha (i := 0) (by decide)
  have e2 := nowTown ha (i := 2) (by decide)
  have e3 := nowTown ha (i := 3) (by decide)
  have e4 := nowTown ha (i := 4) (by decide)
  rw [hsM_fr M a k x P n ⟨Ne.symm e0.1, Ne.symm e2.1, Ne.symm e3.1, Ne.symm e4.1⟩]
  exact h
set_option maxRecDepth 100000 in
set_option maxHeartbeats 4000000 in
theorem k_fill5 (l : Launch) (D : DX) (B : Nat) (T : Int64) (M : Mem) (b : Nat) (hb : b < 108 ∧ ∀ T r, celC D B T b r = sI D 5 T r) (v : Int32) : Cv l D B 108 (celC D B) yJ7_fill_53178 cJ7_fill_53178 4 none 0 [.ref (B + b), .int v] T M (fun T1 M1 => T1 = T ∧ M1 = setR M b (fun _ => v)) := by
  refine g_entryv (L := [(0, .ref (B + b)), (1, .int v)]) (by decide) (Nat.le_of_ble_eq_true rfl) rfl ?_
  intro zp ze zs zm zb zt zc Q F hQ
  refine g_iconst F (nI 0) (dk dtJ7_fill_53178_0 0 rfl) (by decide) ?_
  refine g_istore_n F [(2, .int (nI 0)), (0, .ref (B + b)), (1, .int v)] (dk dtJ7_fill_53178_0 1 rfl) (by decide) rfl ?_
  refine g_aload_n F 1 (dk dtJ7_fill_53178_0 2 rfl) rfl ?_
  refine g_alen F (dk dtJ7_fill_53178_0 3 rfl) (by have := hb.1; omega) (hb.2 _ _) ?_
  refine g_istore_n F [(3, .int (nI 5)), (2, .int (nI 0)), (0, .ref (B + b)), (1, .int v)] (dk dtJ7_fill_53178_0 4 rfl) (by decide) rfl ?_
  have lp5 : ∀ (fz : Nat) (i : Nat), i ≤ 5 → (5 - i) < fz → G zp l ze { frames := 0, cells := 0, slots := 0, locals := 40 * 0 } zs zm [.ref (B + b), .int v].toArray zb zt zc 4 D B 108 (celC D B) Q T (setR M b (fl (M b) v i)) 5 [(0, .ref (B + b)), (1, .int v), (2, .int (nI i)), (3, .int (nI 5))] [] := by
    intro n5
    induction n5 with
    | zero => intro i hI hn; exact absurd hn (Nat.not_lt_zero _)
    | succ n5 ih5 =>
      intro i hI5 hn5
      refine g_iload_n F 2 (dk dtJ7_fill_53178_0 5 rfl) rfl ?_
      refine g_iload_n F 3 (dk dtJ7_fill_53178_0 6 rfl) rfl ?_
      refine g_icmp_geN F 20 (dk dtJ7_fill_53178_0 7 rfl) (by decide) (by omega) (by omega) (fun c7 => ?_) (fun c7 => ?_)
      · -- taken at 7
        obtain rfl : 5 = i := by omega
        refine g_row (fun _ => v) (fun r => hb.2 _ r) (fun j hj => fl_in _ _ _ hj) ?_
        refine g_mem (setR_setR _ _ _ _) ?_
        refine g_vret (F := F) hQ (dk dtJ7_fill_53178_0 14 rfl) ?_
        exact ⟨rfl, rfl⟩
      · -- not taken at 7
        refine g_aload_n F 0 (dk dtJ7_fill_53178_0 8 rfl) rfl ?_
        refine g_iload_n F 2 (dk dtJ7_fill_53178_0 9 rfl) rfl ?_
        refine g_iload_n F 1 (dk dtJ7_fill_53178_0 10 rfl) rfl ?_
        refine g_iast F (i) (dk dtJ7_fill_53178_0 11 rfl) (by have := hb.1; omega) (fun r => hb.2 _ r) (by omega) (by decide) ?_
        refine g_iinc F 2 (nI (i + 1)) [(2, .int (nI (i + 1))), (0, .ref (B + b)), (1, .int v), (3, .int (nI 5))] (dk dtJ7_fill_53178_0 12 rfl) rfl (nI_1 _) (by decide) rfl ?_
        refine g_goto F 5 (dk dtJ7_fill_53178_0 13 rfl) (by decide) ?_
        refine g_sub [1, 2, 0, 3] (L1 := [(0, .ref (B + b)), (1, .int v), (2, .int (nI (i + 1))), (3, .int (nI 5))]) rfl ?_
        refine g_st (M1 := setR M b (fl (M b) v (i + 1))) (L1 := [(0, .ref (B + b)), (1, .int v), (2, .int (nI (i + 1))), (3, .int (nI 5))]) (by exact fl_s _ _ _ _) rfl rfl ?_
        exact ih5 (i + 1) (by omega) (by omega)
  refine g_sub [2, 3, 1, 0] (L1 := [(0, .ref (B + b)), (1, .int v), (2, .int (nI 0)), (3, .int (nI 5))]) rfl ?_
  refine g_mem (fl_0 M b v) ?_
  exact lp5 6 0 (by omega) (by omega)
set_option maxRecDepth 100000 in
set_option maxHeartbeats 4000000 in
theorem k_fill20 (l : Launch) (D : DX) (B : Nat) (T : Int64) (M : Mem) (b : Nat) (hb : b < 108 ∧ ∀ T r, celC D B T b r = sI D 20 T r) (v : Int32) : Cv l D B 108 (celC D B) yJ7_fill_53178 cJ7_fill_53178 4 none 0 [.ref (B + b), .int v] T M (fun T1 M1 => T1 = T ∧ M1 = setR M b (fun _ => v)) := by
  refine g_entryv (L := [(0, .ref (B + b)), (1, .int v)]) (by decide) (Nat.le_of_ble_eq_true rfl) rfl ?_
  intro zp ze zs zm zb zt zc Q F hQ
  refine g_iconst F (nI 0) (dk dtJ7_fill_53178_0 0 rfl) (by decide) ?_
  refine g_istore_n F [(2, .int (nI 0)), (0, .ref (B + b)), (1, .int v)] (dk dtJ7_fill_53178_0 1 rfl) (by decide) rfl ?_
  refine g_aload_n F 1 (dk dtJ7_fill_53178_0 2 rfl) rfl ?_
  refine g_alen F (dk dtJ7_fill_53178_0 3 rfl) (by have := hb.1; omega) (hb.2 _ _) ?_
  refine g_istore_n F [(3, .int (nI 20)), (2, .int (nI 0)), (0, .ref (B + b)), (1, .int v)] (dk dtJ7_fill_53178_0 4 rfl) (by decide) rfl ?_
  have lp5 : ∀ (fz : Nat) (i : Nat), i ≤ 20 → (20 - i) < fz → G zp l ze { frames := 0, cells := 0, slots := 0, locals := 40 * 0 } zs zm [.ref (B + b), .int v].toArray zb zt zc 4 D B 108 (celC D B) Q T (setR M b (fl (M b) v i)) 5 [(0, .ref (B + b)), (1, .int v), (2, .int (nI i)), (3, .int (nI 20))] [] := by
    intro n5
    induction n5 with
    | zero => intro i hI hn; exact absurd hn (Nat.not_lt_zero _)
    | succ n5 ih5 =>
      intro i hI5 hn5
      refine g_iload_n F 2 (dk dtJ7_fill_53178_0 5 rfl) rfl ?_
      refine g_iload_n F 3 (dk dtJ7_fill_53178_0 6 rfl) rfl ?_
      refine g_icmp_geN F 20 (dk dtJ7_fill_53178_0 7 rfl) (by decide) (by omega) (by omega) (fun c7 => ?_) (fun c7 => ?_)
      · -- taken at 7
        obtain rfl : 20 = i := by omega
        refine g_row (fun _ => v) (fun r => hb.2 _ r) (fun j hj => fl_in _ _ _ hj) ?_
        refine g_mem (setR_setR _ _ _ _) ?_
        refine g_vret (F := F) hQ (dk dtJ7_fill_53178_0 14 rfl) ?_
        exact ⟨rfl, rfl⟩
      · -- not taken at 7
        refine g_aload_n F 0 (dk dtJ7_fill_53178_0 8 rfl) rfl ?_
        refine g_iload_n F 2 (dk dtJ7_fill_53178_0 9 rfl) rfl ?_
        refine g_iload_n F 1 (dk dtJ7_fill_53178_0 10 rfl) rfl ?_
        refine g_iast F (i) (dk dtJ7_fill_53178_0 11 rfl) (by have := hb.1; omega) (fun r => hb.2 _ r) (by omega) (by decide) ?_
        refine g_iinc F 2 (nI (i + 1)) [(2, .int (nI (i + 1))), (0, .ref (B + b)), (1, .int v), (3, .int (nI 20))] (dk dtJ7_fill_53178_0 12 rfl) rfl (nI_1 _) (by decide) rfl ?_
        refine g_goto F 5 (dk dtJ7_fill_53178_0 13 rfl) (by decide) ?_
        refine g_sub [1, 2, 0, 3] (L1 := [(0, .ref (B + b)), (1, .int v), (2, .int (nI (i + 1))), (3, .int (nI 20))]) rfl ?_
        refine g_st (M1 := setR M b (fl (M b) v (i + 1))) (L1 := [(0, .ref (B + b)), (1, .int v), (2, .int (nI (i + 1))), (3, .int (nI 20))]) (by exact fl_s _ _ _ _) rfl rfl ?_
        exact ih5 (i + 1) (by omega) (by omega)
  refine g_sub [2, 3, 1, 0] (L1 := [(0, .ref (B + b)), (1, .int v), (2, .int (nI 0)), (3, .int (nI 20))]) rfl ?_
  refine g_mem (fl_0 M b v) ?_
  exact lp5 21 0 (by omega) (by omega)
set_option maxRecDepth 100000 in
set_option maxHeartbeats 4000000 in
theorem k_X2_copyFrom (l : Launch) (D : DX) (B : Nat) (T : Int64) (M : Mem) (a b : Nat) (ha : IsNow D B a) (hb : IsNow D B b) : Cv l D B 108 (celC D B) yX2_copyFrom cX2_copyFrom 2 none 2 [.ref (B + a), .ref (B + b)] T M (fun T1 M1 => T1 = T ∧ M1 = cpN M a b) := by
  refine g_entryv (L := [(0, .ref (B + a)), (1, .ref (B + b))]) (by decide) (Nat.le_of_ble_eq_true rfl) rfl ?_
  intro zp ze zs zm zb zt zc Q F hQ
  refine g_aload_n F 0 (dk dtX2_copyFrom_0 0 rfl) rfl ?_
  refine g_aload_n F 1 (dk dtX2_copyFrom_0 1 rfl) rfl ?_
  refine g_get F fa_X2_9 (dk dtX2_copyFrom_0 2 rfl) (by have := hb.1; omega) (hb.2.1 _ _) rfl ?_
  refine g_put F fa_X2_9 (dk dtX2_copyFrom_0 3 rfl) (by have := ha.1; omega) (ha.2.1 _ _) (Nat.le_of_ble_eq_true rfl) rfl rfl ((ha.2.1 _ _).trans st_Now_0) ?_
  refine g_aload_n F 1 (dk dtX2_copyFrom_0 4 rfl) rfl ?_
  refine g_get F fa_X2_15 (dk dtX2_copyFrom_0 5 rfl) (by have := hb.1; omega) (hb.2.1 _ _) rfl ?_
  refine g_iconst F (nI 0) (dk dtX2_copyFrom_0 6 rfl) (by decide) ?_
  refine g_aload_n F 0 (dk dtX2_copyFrom_0 7 rfl) rfl ?_
  refine g_get F fa_X2_15 (dk dtX2_copyFrom_0 8 rfl) (by have := ha.1; omega) (ha.2.1 _ _) rfl ?_
  refine g_iconst F (nI 0) (dk dtX2_copyFrom_0 9 rfl) (by decide) ?_
  refine g_iconst F (nI 5) (dk dtX2_copyFrom_0 10 rfl) (by decide) ?_
  refine g_copyi F (tw2 63 rfl) (dk dtX2_copyFrom_0 11 rfl) (by have := ha.1; omega) (by have := hb.1; omega) (fun r => ha.2.2.1 _ r) (fun r => hb.2.2.1 _ r) (by decide) (by decide) (by decide) ?_
  refine g_aload_n F 1 (dk dtX2_copyFrom_0 12 rfl) rfl ?_
  refine g_get F fa_X2_19 (dk dtX2_copyFrom_0 13 rfl) (by have := hb.1; omega) (hb.2.1 _ _) rfl ?_
  refine g_iconst F (nI 0) (dk dtX2_copyFrom_0 14 rfl) (by decide) ?_
  refine g_aload_n F 0 (dk dtX2_copyFrom_0 15 rfl) rfl ?_
  refine g_get F fa_X2_19 (dk dtX2_copyFrom_0 16 rfl) (by have := ha.1; omega) (ha.2.1 _ _) rfl ?_
  refine g_iconst F (nI 0) (dk dtX2_copyFrom_0 17 rfl) (by decide) ?_
  refine g_iconst F (nI 5) (dk dtX2_copyFrom_0 18 rfl) (by decide) ?_
  refine g_copyi F (tw2 63 rfl) (dk dtX2_copyFrom_0 19 rfl) (by have := ha.1; omega) (by have := hb.1; omega) (fun r => ha.2.2.2.1 _ r) (fun r => hb.2.2.2.1 _ r) (by decide) (by decide) (by decide) ?_
  refine g_aload_n F 1 (dk dtX2_copyFrom_0 20 rfl) rfl ?_
  refine g_get F fa_X2_22 (dk dtX2_copyFrom_0 21 rfl) (by have := hb.1; omega) (hb.2.1 _ _) rfl ?_
  refine g_iconst F (nI 0) (dk dtX2_copyFrom_0 22 rfl) (by decide) ?_
  refine g_aload_n F 0 (dk dtX2_copyFrom_0 23 rfl) rfl ?_
  refine g_get F fa_X2_22 (dk dtX2_copyFrom_0 24 rfl) (by have := ha.1; omega) (ha.2.1 _ _) rfl ?_
  refine g_iconst F (nI 0) (dk dtX2_copyFrom_0 25 rfl) (by decide) ?_
  refine g_bipush F (nI 20) (dk dtX2_copyFrom_0 26 rfl) (by decide) ?_
  refine g_copyi F (tw2 63 rfl) (dk dtX2_copyFrom_0 27 rfl) (by have := ha.1; omega) (by have := hb.1; omega) (fun r => ha.2.2.2.2.1 _ r) (fun r => hb.2.2.2.2.1 _ r) (by decide) (by decide) (by decide) ?_
  refine g_aload_n F 1 (dk dtX2_copyFrom_0 28 rfl) rfl ?_
  refine g_get F fa_X2_25 (dk dtX2_copyFrom_0 29 rfl) (by have := hb.1; omega) (hb.2.1 _ _) rfl ?_
  refine g_iconst F (nI 0) (dk dtX2_copyFrom_0 30 rfl) (by decide) ?_
  refine g_aload_n F 0 (dk dtX2_copyFrom_0 31 rfl) rfl ?_
  refine g_get F fa_X2_25 (dk dtX2_copyFrom_0 32 rfl) (by have := ha.1; omega) (ha.2.1 _ _) rfl ?_
  refine g_iconst F (nI 0) (dk dtX2_copyFrom_0 33 rfl) (by decide) ?_
  refine g_iconst F (nI 5) (dk dtX2_copyFrom_0 34 rfl) (by decide) ?_
  refine g_copyi F (tw2 63 rfl) (dk dtX2_copyFrom_0 35 rfl) (by have := ha.1; omega) (by have := hb.1; omega) (fun r => ha.2.2.2.2.2 _ r) (fun r => hb.2.2.2.2.2 _ r) (by decide) (by decide) (by decide) ?_
  refine g_vret (F := F) hQ (dk dtX2_copyFrom_0 36 rfl) ?_
  exact ⟨rfl, cpN_eq (D := D) (B := B) ha hb _⟩
set_option maxRecDepth 100000 in
set_option maxHeartbeats 4000000 in
theorem k_X2_reset (l : Launch) (D : DX) (B : Nat) (T : Int64) (M : Mem) (a : Nat) (ha : IsNow D B a) : Cv l D B 108 (celC D B) yX2_reset cX2_reset 1 none 1 [.ref (B + a)] T M (fun T1 M1 => T1 = T ∧ M1 = rsN M a) := by
  refine g_entryv (L := [(0, .ref (B + a))]) (by decide) (Nat.le_of_ble_eq_true rfl) rfl ?_
  intro zp ze zs zm zb zt zc Q F hQ
  refine g_aload_n F 0 (dk dtX2_reset_0 0 rfl) rfl ?_
  refine g_bipush F (-9) (dk dtX2_reset_0 1 rfl) (by decide) ?_
  refine g_put F fa_X2_9 (dk dtX2_reset_0 2 rfl) (by have := ha.1; omega) (ha.2.1 _ _) (Nat.le_of_ble_eq_true rfl) rfl rfl ((ha.2.1 _ _).trans st_Now_0) ?_
  refine g_aload_n F 0 (dk dtX2_reset_0 3 rfl) rfl ?_
  refine g_get F fa_X2_15 (dk dtX2_reset_0 4 rfl) (by have := ha.1; omega) (ha.2.1 _ _) rfl ?_
  refine g_iconst F (nI 0) (dk dtX2_reset_0 5 rfl) (by decide) ?_
  refine g_callSv F (As := [.ref (B + (a + 1)), .int (nI 0)]) (st := []) cs_X2_28 (dk dtX2_reset_0 6 rfl) rfl rfl (Nat.le_of_ble_eq_true rfl) ⟨by decide, by decide⟩ (k_fill5 l D B _ _ (a + 1) ⟨by have := ha.1; omega, fun T r => ha.2.2.1 T r⟩ _) (fun T11 M11 hp11 => ?_)
  obtain ⟨e2, e3⟩ := hp11
  replace e2 := e2.symm; replace e3 := e3.symm; subst e2; subst e3
  refine g_aload_n F 0 (dk dtX2_reset_0 7 rfl) rfl ?_
  refine g_get F fa_X2_19 (dk dtX2_reset_0 8 rfl) (by have := ha.1; omega) (ha.2.1 _ _) rfl ?_
  refine g_iconst F (nI 0) (dk dtX2_reset_0 9 rfl) (by decide) ?_
  refine g_callSv F (As := [.ref (B + (a + 2)), .int (nI 0)]) (st := []) cs_X2_28 (dk dtX2_reset_0 10 rfl) rfl rfl (Nat.le_of_ble_eq_true rfl) ⟨by decide, by decide⟩ (k_fill5 l D B _ _ (a + 2) ⟨by have := ha.1; omega, fun T r => ha.2.2.2.1 T r⟩ _) (fun T19 M19 hp19 => ?_)
  obtain ⟨e2, e3⟩ := hp19
  replace e2 := e2.symm; replace e3 := e3.symm; subst e2; subst e3
  refine g_aload_n F 0 (dk dtX2_reset_0 11 rfl) rfl ?_
  refine g_get F fa_X2_22 (dk dtX2_reset_0 12 rfl) (by have := ha.1; omega) (ha.2.1 _ _) rfl ?_
  refine g_iconst F (nI 0) (dk dtX2_reset_0 13 rfl) (by decide) ?_
  refine g_callSv F (As := [.ref (B + (a + 3)), .int (nI 0)]) (st := []) cs_X2_28 (dk dtX2_reset_0 14 rfl) rfl rfl (Nat.le_of_ble_eq_true rfl) ⟨by decide, by decide⟩ (k_fill20 l D B _ _ (a + 3) ⟨by have := ha.1; omega, fun T r => ha.2.2.2.2.1 T r⟩ _) (fun T27 M27 hp27 => ?_)
  obtain ⟨e2, e3⟩ := hp27
  replace e2 := e2.symm; replace e3 := e3.symm; subst e2; subst e3
  refine g_aload_n F 0 (dk dtX2_reset_0 15 rfl) rfl ?_
  refine g_get F fa_X2_25 (dk dtX2_reset_0 16 rfl) (by have := ha.1; omega) (ha.2.1 _ _) rfl ?_
  refine g_iconst F (nI 0) (dk dtX2_reset_0 17 rfl) (by decide) ?_
  refine g_callSv F (As := [.ref (B + (a + 4)), .int (nI 0)]) (st := []) cs_X2_28 (dk dtX2_reset_0 18 rfl) rfl rfl (Nat.le_of_ble_eq_true rfl) ⟨by decide, by decide⟩ (k_fill5 l D B _ _ (a + 4) ⟨by have := ha.1; omega, fun T r => ha.2.2.2.2.2 T r⟩ _) (fun T35 M35 hp35 => ?_)
  obtain ⟨e2, e3⟩ := hp35
  replace e2 := e2.symm; replace e3 := e3.symm; subst e2; subst e3
  refine g_vret (F := F) hQ (dk dtX2_reset_0 19 rfl) ?_
  exact ⟨rfl, rsN_eq _ _⟩
set_option maxRecDepth 100000 in
set_option maxHeartbeats 4000000 in
theorem k_X5_reset (l : Launch) (D : DX) (B : Nat) (T : Int64) (M : Mem)  : Cv l D B 108 (celC D B) yX5_reset cX5_reset 1 none 1 [.ref (B + 3)] T M (fun T1 M1 => T1 = T ∧ M1 = rsT M) := by
  refine g_entryv (L := [(0, .ref (B + 3))]) (by decide) (Nat.le_of_ble_eq_true rfl) rfl ?_
  intro zp ze zs zm zb zt zc Q F hQ
  refine g_aload_n F 0 (dk dtX5_reset_0 0 rfl) rfl ?_
  refine g_iconst F (nI 3) (dk dtX5_reset_0 1 rfl) (by decide) ?_
  refine g_put F fa_X5_9 (dk dtX5_reset_0 2 rfl) (by decide) (cc3 D B _ _) (Nat.le_of_ble_eq_true rfl) rfl rfl ((cc3 D B _ _).trans st_Town_0) ?_
  refine g_aload_n F 0 (dk dtX5_reset_0 3 rfl) rfl ?_
  refine g_iconst F (nI 2) (dk dtX5_reset_0 4 rfl) (by decide) ?_
  refine g_put F fa_X5_15 (dk dtX5_reset_0 5 rfl) (by decide) (cc3 D B _ _) (Nat.le_of_ble_eq_true rfl) rfl rfl ((cc3 D B _ _).trans st_Town_1) ?_
  refine g_aload_n F 0 (dk dtX5_reset_0 6 rfl) rfl ?_
  refine g_iconst F (nI 0) (dk dtX5_reset_0 7 rfl) (by decide) ?_
  refine g_put F fa_X5_18 (dk dtX5_reset_0 8 rfl) (by decide) (cc3 D B _ _) (Nat.le_of_ble_eq_true rfl) rfl rfl ((cc3 D B _ _).trans st_Town_2) ?_
  refine g_aload_n F 0 (dk dtX5_reset_0 9 rfl) rfl ?_
  refine g_get F fa_X5_21 (dk dtX5_reset_0 10 rfl) (by decide) (cc3 D B _ _) rfl ?_
  refine g_iconst F (nI 0) (dk dtX5_reset_0 11 rfl) (by decide) ?_
  refine g_callSv F (As := [.ref (B + 4), .int (nI 0)]) (st := []) cs_X5_25 (dk dtX5_reset_0 12 rfl) rfl rfl (Nat.le_of_ble_eq_true rfl) ⟨by decide, by decide⟩ (k_fill5 l D B _ _ 4 ⟨by decide, fun T r => cc4 D B T r⟩ _) (fun T20 M20 hp20 => ?_)
  obtain ⟨e2, e3⟩ := hp20
  replace e2 := e2.symm; replace e3 := e3.symm; subst e2; subst e3
  refine g_vret (F := F) hQ (dk dtX5_reset_0 13 rfl) ?_
  exact ⟨rfl, rfl⟩
set_option maxRecDepth 100000 in
set_option maxHeartbeats 4000000 in
theorem k_X5_copyFrom (l : Launch) (D : DX) (B : Nat) (T : Int64) (M : Mem)  : Cv l D B 108 (celC D B) yX5_copyFrom cX5_copyFrom 2 none 2 [.ref (B + 10), .ref (B + 3)] T M (fun T1 M1 => T1 = T ∧ M1 = cpT M) := by
  refine g_entryv (L := [(0, .ref (B + 10)), (1, .ref (B + 3))]) (by decide) (Nat.le_of_ble_eq_true rfl) rfl ?_
  intro zp ze zs zm zb zt zc Q F hQ
  refine g_aload_n F 0 (dk dtX5_copyFrom_0 0 rfl) rfl ?_
  refine g_aload_n F 1 (dk dtX5_copyFrom_0 1 rfl) rfl ?_
  refine g_get F fa_X5_9 (dk dtX5_copyFrom_0 2 rfl) (by decide) (cc3 D B _ _) rfl ?_
  refine g_put F fa_X5_9 (dk dtX5_copyFrom_0 3 rfl) (by decide) (cc10 D B _ _) (Nat.le_of_ble_eq_true rfl) rfl rfl ((cc10 D B _ _).trans st_Town_0) ?_
  refine g_aload_n F 0 (dk dtX5_copyFrom_0 4 rfl) rfl ?_
  refine g_aload_n F 1 (dk dtX5_copyFrom_0 5 rfl) rfl ?_
  refine g_get F fa_X5_15 (dk dtX5_copyFrom_0 6 rfl) (by decide) (cc3 D B _ _) rfl ?_
  refine g_top (congrFun (up2_ne _ _ (by decide)) _) ?_
  refine g_put F fa_X5_15 (dk dtX5_copyFrom_0 7 rfl) (by decide) (cc10 D B _ _) (Nat.le_of_ble_eq_true rfl) rfl rfl ((cc10 D B _ _).trans st_Town_1) ?_
  refine g_aload_n F 0 (dk dtX5_copyFrom_0 8 rfl) rfl ?_
  refine g_aload_n F 1 (dk dtX5_copyFrom_0 9 rfl) rfl ?_
  refine g_get F fa_X5_18 (dk dtX5_copyFrom_0 10 rfl) (by decide) (cc3 D B _ _) rfl ?_
  refine g_top (congrFun (up2_ne _ _ (by decide)) _) ?_
  refine g_top (congrFun (up2_ne _ _ (by decide)) _) ?_
  refine g_put F fa_X5_18 (dk dtX5_copyFrom_0 11 rfl) (by decide) (cc10 D B _ _) (Nat.le_of_ble_eq_true rfl) rfl rfl ((cc10 D B _ _).trans st_Town_2) ?_
  refine g_aload_n F 1 (dk dtX5_copyFrom_0 12 rfl) rfl ?_
  refine g_get F fa_X5_21 (dk dtX5_copyFrom_0 13 rfl) (by decide) (cc3 D B _ _) rfl ?_
  refine g_iconst F (nI 0) (dk dtX5_copyFrom_0 14 rfl) (by decide) ?_
  refine g_aload_n F 0 (dk dtX5_copyFrom_0 15 rfl) rfl ?_
  refine g_get F fa_X5_21 (dk dtX5_copyFrom_0 16 rfl) (by decide) (cc10 D B _ _) rfl ?_
  refine g_iconst F (nI 0) (dk dtX5_copyFrom_0 17 rfl) (by decide) ?_
  refine g_iconst F (nI 5) (dk dtX5_copyFrom_0 18 rfl) (by decide) ?_
  refine g_copyi F (tw2 56 rfl) (dk dtX5_copyFrom_0 19 rfl) (by decide) (by decide) (fun r => cc11 D B _ r) (fun r => cc4 D B _ r) (by decide) (by decide) (by decide) ?_
  refine g_vret (F := F) hQ (dk dtX5_copyFrom_0 20 rfl) ?_
  exact ⟨rfl, rfl⟩
set_option maxRecDepth 100000 in
set_option maxHeartbeats 4000000 in
theorem k_X5_hasKind (l : Launch) (D : DX) (B : Nat) (T : Int64) (M : Mem) (v : Int32) : Ci l D B 108 (celC D B) yX5_hasKind cX5_hasKind 2 (some .boolean) 0 [.ref (B + 10), .int v] T M (fun r T1 M1 => r = bI (¬ v < 0 ∧ ¬ M 10 0 ≤ v) ∧ T1 = T ∧ M1 = M) := by
  refine g_entryi (L := [(0, .ref (B + 10)), (1, .int v)]) (by decide) (Nat.le_of_ble_eq_true rfl) rfl ?_
  intro zp ze zs zm zb zt zc Q F hQ
  refine g_iload_n F 1 (dk dtX5_hasKind_0 0 rfl) rfl ?_
  refine g_if_lt F 16 (dk dtX5_hasKind_0 1 rfl) (by decide) (fun c1 => ?_) (fun c1 => ?_)
  · -- taken at 1
    refine g_iconst F (nI 0) (dk dtX5_hasKind_0 8 rfl) (by decide) ?_
    refine g_zret (F := F) hQ (dk dtX5_hasKind_0 9 rfl) (rfl) ?_
    exact ⟨(if_neg (fun h => h.1 c1)).symm, rfl, rfl⟩
  · -- not taken at 1
    refine g_iload_n F 1 (dk dtX5_hasKind_0 2 rfl) rfl ?_
    refine g_aload_n F 0 (dk dtX5_hasKind_0 3 rfl) rfl ?_
    refine g_get F fa_X5_9 (dk dtX5_hasKind_0 4 rfl) (by decide) (cc10 D B _ _) rfl ?_
    refine g_icmp_ge F 16 (dk dtX5_hasKind_0 5 rfl) (by decide) (fun c9 => ?_) (fun c9 => ?_)
    · -- taken at 9
      refine g_iconst F (nI 0) (dk dtX5_hasKind_0 8 rfl) (by decide) ?_
      refine g_zret (F := F) hQ (dk dtX5_hasKind_0 9 rfl) (rfl) ?_
      exact ⟨(if_neg (fun h => h.2 c9)).symm, rfl, rfl⟩
    · -- not taken at 9
      refine g_iconst F (nI 1) (dk dtX5_hasKind_0 6 rfl) (by decide) ?_
      refine g_goto F 17 (dk dtX5_hasKind_0 7 rfl) (by decide) ?_
      refine g_zret (F := F) hQ (dk dtX5_hasKind_0 9 rfl) (rfl) ?_
      exact ⟨(if_pos ⟨c1, c9⟩).symm, rfl, rfl⟩
set_option maxRecDepth 100000 in
set_option maxHeartbeats 4000000 in
theorem k_X5_hasPlace (l : Launch) (D : DX) (B : Nat) (T : Int64) (M : Mem) (v : Int32) : Ci l D B 108 (celC D B) yX5_hasPlace cX5_hasPlace 2 (some .boolean) 0 [.ref (B + 10), .int v] T M (fun r T1 M1 => r = bI (¬ v < 0 ∧ ¬ M 10 1 ≤ v) ∧ T1 = T ∧ M1 = M) := by
  refine g_entryi (L := [(0, .ref (B + 10)), (1, .int v)]) (by decide) (Nat.le_of_ble_eq_true rfl) rfl ?_
  intro zp ze zs zm zb zt zc Q F hQ
  refine g_iload_n F 1 (dk dtX5_hasPlace_0 0 rfl) rfl ?_
  refine g_if_lt F 16 (dk dtX5_hasPlace_0 1 rfl) (by decide) (fun c1 => ?_) (fun c1 => ?_)
  · -- taken at 1
    refine g_iconst F (nI 0) (dk dtX5_hasPlace_0 8 rfl) (by decide) ?_
    refine g_zret (F := F) hQ (dk dtX5_hasPlace_0 9 rfl) (rfl) ?_
    exact ⟨(if_neg (fun h => h.1 c1)).symm, rfl, rfl⟩
  · -- not taken at 1
    refine g_iload_n F 1 (dk dtX5_hasPlace_0 2 rfl) rfl ?_
    refine g_aload_n F 0 (dk dtX5_hasPlace_0 3 rfl) rfl ?_
    refine g_get F fa_X5_15 (dk dtX5_hasPlace_0 4 rfl) (by decide) (cc10 D B _ _) rfl ?_
    refine g_icmp_ge F 16 (dk dtX5_hasPlace_0 5 rfl) (by decide) (fun c9 => ?_) (fun c9 => ?_)
    · -- taken at 9
      refine g_iconst F (nI 0) (dk dtX5_hasPlace_0 8 rfl) (by decide) ?_
      refine g_zret (F := F) hQ (dk dtX5_hasPlace_0 9 rfl) (rfl) ?_
      exact ⟨(if_neg (fun h => h.2 c9)).symm, rfl, rfl⟩
    · -- not taken at 9
      refine g_iconst F (nI 1) (dk dtX5_hasPlace_0 6 rfl) (by decide) ?_
      refine g_goto F 17 (dk dtX5_hasPlace_0 7 rfl) (by decide) ?_
      refine g_zret (F := F) hQ (dk dtX5_hasPlace_0 9 rfl) (rfl) ?_
      exact ⟨(if_pos ⟨c1, c9⟩).symm, rfl, rfl⟩
set_option maxRecDepth 100000 in
set_option maxHeartbeats 4000000 in
theorem k_X5_hasPerson (l : Launch) (D : DX) (B : Nat) (T : Int64) (M : Mem) (v : Int32) : Ci l D B 108 (celC D B) yX5_hasPerson cX5_hasPerson 2 (some .boolean) 0 [.ref (B + 10), .int v] T M (fun r T1 M1 => r = bI (¬ v < 0 ∧ ¬ M 10 2 ≤ v) ∧ T1 = T ∧ M1 = M) := by
  refine g_entryi (L := [(0, .ref (B + 10)), (1, .int v)]) (by decide) (Nat.le_of_ble_eq_true rfl) rfl ?_
  intro zp ze zs zm zb zt zc Q F hQ
  refine g_iload_n F 1 (dk dtX5_hasPerson_0 0 rfl) rfl ?_
  refine g_if_lt F 16 (dk dtX5_hasPerson_0 1 rfl) (by decide) (fun c1 => ?_) (fun c1 => ?_)
  · -- taken at 1
    refine g_iconst F (nI 0) (dk dtX5_hasPerson_0 8 rfl) (by decide) ?_
    refine g_zret (F := F) hQ (dk dtX5_hasPerson_0 9 rfl) (rfl) ?_
    exact ⟨(if_neg (fun h => h.1 c1)).symm, rfl, rfl⟩
  · -- not taken at 1
    refine g_iload_n F 1 (dk dtX5_hasPerson_0 2 rfl) rfl ?_
    refine g_aload_n F 0 (dk dtX5_hasPerson_0 3 rfl) rfl ?_
    refine g_get F fa_X5_18 (dk dtX5_hasPerson_0 4 rfl) (by decide) (cc10 D B _ _) rfl ?_
    refine g_icmp_ge F 16 (dk dtX5_hasPerson_0 5 rfl) (by decide) (fun c9 => ?_) (fun c9 => ?_)
    · -- taken at 9
      refine g_iconst F (nI 0) (dk dtX5_hasPerson_0 8 rfl) (by decide) ?_
      refine g_zret (F := F) hQ (dk dtX5_hasPerson_0 9 rfl) (rfl) ?_
      exact ⟨(if_neg (fun h => h.2 c9)).symm, rfl, rfl⟩
    · -- not taken at 9
      refine g_iconst F (nI 1) (dk dtX5_hasPerson_0 6 rfl) (by decide) ?_
      refine g_goto F 17 (dk dtX5_hasPerson_0 7 rfl) (by decide) ?_
      refine g_zret (F := F) hQ (dk dtX5_hasPerson_0 9 rfl) (rfl) ?_
      exact ⟨(if_pos ⟨c1, c9⟩).symm, rfl, rfl⟩
set_option maxRecDepth 100000 in
set_option maxHeartbeats 4000000 in
theorem k_X5_shock (l : Launch) (D : DX) (B : Nat) (T : Int64) (M : Mem) (a : Nat) (ha : IsNow D B a) (p k : Nat) (hp : p < 5) (hk : k < 4) : Ci l D B 108 (celC D B) yX5_shock cX5_shock 5 (some .int) 0 [.ref (B + 10), .ref (B + a), .int (nI p), .int (nI k)] T M (fun r T1 M1 => r = shk M a p k ∧ T1 = T ∧ M1 = M) := by
  refine g_entryi (L := [(0, .ref (B + 10)), (1, .ref (B + a)), (2, .int (nI p)), (3, .int (nI k))]) (by decide) (Nat.le_of_ble_eq_true rfl) rfl ?_
  intro zp ze zs zm zb zt zc Q F hQ
  refine g_aload_n F 1 (dk dtX5_shock_0 0 rfl) rfl ?_
  refine g_get F fa_X5_37 (dk dtX5_shock_0 1 rfl) (by have := ha.1; omega) (ha.2.1 _ _) rfl ?_
  refine g_iload_n F 2 (dk dtX5_shock_0 2 rfl) rfl ?_
  refine g_iald F (p) (dk dtX5_shock_0 3 rfl) (by have := ha.1; omega) (ha.2.2.2.2.2 _ _) (by omega) (by decide) ?_
  refine g_aload_n F 0 (dk dtX5_shock_0 4 rfl) rfl ?_
  refine g_get F fa_X5_9 (dk dtX5_shock_0 5 rfl) (by decide) (cc10 D B _ _) rfl ?_
  refine g_iadd F (dk dtX5_shock_0 6 rfl) ?_
  refine g_istore F [(4, .int ((M (a + 4) p) + (M 10 0))), (0, .ref (B + 10)), (1, .ref (B + a)), (2, .int (nI p)), (3, .int (nI k))] (dk dtX5_shock_0 7 rfl) (by decide) rfl ?_
  refine g_iload F 0 (dk dtX5_shock_0 8 rfl) rfl ?_
  refine g_if_gt F 20 (dk dtX5_shock_0 9 rfl) (by decide) (fun c15 => ?_) (fun c15 => ?_)
  · -- taken at 15
    refine g_bipush F (nI 100) (dk dtX5_shock_0 12 rfl) (by decide) ?_
    refine g_bipush F (nI 100) (dk dtX5_shock_0 13 rfl) (by decide) ?_
    refine g_aload_n F 2 (dk dtX5_shock_0 14 rfl) rfl ?_
    refine g_get F fa_X5_42 (dk dtX5_shock_0 15 rfl) (by have := ha.1; omega) (ha.2.1 _ _) rfl ?_
    refine g_iload_n F 3 (dk dtX5_shock_0 16 rfl) rfl ?_
    refine g_iconst F (nI 4) (dk dtX5_shock_0 17 rfl) (by decide) ?_
    refine g_imulN F (dk dtX5_shock_0 18 rfl) ?_
    refine g_iload_n F 4 (dk dtX5_shock_0 19 rfl) rfl ?_
    refine g_iaddN F (dk dtX5_shock_0 20 rfl) ?_
    refine g_iald F ((p * 4) + k) (dk dtX5_shock_0 21 rfl) (by have := ha.1; omega) (ha.2.2.2.2.1 _ _) (by omega) (by decide) ?_
    refine g_iconst F (nI 1) (dk dtX5_shock_0 22 rfl) (by decide) ?_
    refine g_iadd F (dk dtX5_shock_0 23 rfl) ?_
    refine g_imul F (dk dtX5_shock_0 24 rfl) ?_
    refine g_iload F 0 (dk dtX5_shock_0 25 rfl) rfl ?_
    refine g_idiv F (dk dtX5_shock_0 26 rfl) (pos_ne c15) ?_
    refine g_isub F (dk dtX5_shock_0 27 rfl) ?_
    refine g_iret (F := F) hQ (dk dtX5_shock_0 28 rfl) ?_
    exact ⟨(if_pos c15).symm, rfl, rfl⟩
  · -- not taken at 15
    refine g_iconst F (nI 0) (dk dtX5_shock_0 10 rfl) (by decide) ?_
    refine g_iret (F := F) hQ (dk dtX5_shock_0 11 rfl) ?_
    exact ⟨(if_neg c15).symm, rfl, rfl⟩
set_option maxRecDepth 100000 in
set_option maxHeartbeats 4000000 in
theorem k_X5_greatestShock (l : Launch) (D : DX) (B : Nat) (T : Int64) (M : Mem) (a : Nat) (ha : IsNow D B a) (K P : Nat) (hK : M 10 0 = nI K) (hP : M 10 2 = nI P) (hK4 : K ≤ 4) (hP5 : P ≤ 5) : Ci l D B 108 (celC D B) yX5_greatestShock cX5_greatestShock 5 (some .int) 1 [.ref (B + 10), .ref (B + a)] T M (fun r T1 M1 => r = gsh M a K P ∧ T1 = T ∧ M1 = M) := by
  refine g_entryi (L := [(0, .ref (B + 10)), (1, .ref (B + a))]) (by decide) (Nat.le_of_ble_eq_true rfl) rfl ?_
  intro zp ze zs zm zb zt zc Q F hQ
  refine g_iconst F (-1) (dk dtX5_greatestShock_0 0 rfl) (by decide) ?_
  refine g_istore_n F [(2, .int (-1)), (0, .ref (B + 10)), (1, .ref (B + a))] (dk dtX5_greatestShock_0 1 rfl) (by decide) rfl ?_
  refine g_iconst F (nI 0) (dk dtX5_greatestShock_0 2 rfl) (by decide) ?_
  refine g_istore_n F [(3, .int (nI 0)), (2, .int (-1)), (0, .ref (B + 10)), (1, .ref (B + a))] (dk dtX5_greatestShock_0 3 rfl) (by decide) rfl ?_
  have lp4 : ∀ (fz : Nat) (i : Nat), i ≤ P → (P - i) < fz → G zp l ze { frames := 1, cells := 0, slots := 0, locals := 40 * 1 } zs zm [.ref (B + 10), .ref (B + a)].toArray zb zt zc 5 D B 108 (celC D B) Q T M 4 [(0, .ref (B + 10)), (1, .ref (B + a)), (2, .int (gsh M a K i)), (3, .int (nI i))] [] := by
    intro n4
    induction n4 with
    | zero => intro i hI hn; exact absurd hn (Nat.not_lt_zero _)
    | succ n4 ih4 =>
      intro i hI4 hn4
      refine g_iload_n F 3 (dk dtX5_greatestShock_0 4 rfl) rfl ?_
      refine g_aload_n F 0 (dk dtX5_greatestShock_0 5 rfl) rfl ?_
      refine g_get F fa_X5_18 (dk dtX5_greatestShock_0 6 rfl) (by decide) (cc10 D B _ _) rfl ?_
      refine g_top hP ?_
      refine g_icmp_geN F 49 (dk dtX5_greatestShock_0 7 rfl) (by decide) (by omega) (by omega) (fun c9 => ?_) (fun c9 => ?_)
      · -- taken at 9
        obtain rfl : P = i := by omega
        refine g_iload_n F 2 (dk dtX5_greatestShock_0 26 rfl) rfl ?_
        refine g_iret (F := F) hQ (dk dtX5_greatestShock_0 27 rfl) ?_
        exact ⟨rfl, rfl, rfl⟩
      · -- not taken at 9
        refine g_iconst F (nI 0) (dk dtX5_greatestShock_0 8 rfl) (by decide) ?_
        refine g_istore F [(4, .int (nI 0)), (0, .ref (B + 10)), (1, .ref (B + a)), (2, .int (gsh M a K i)), (3, .int (nI i))] (dk dtX5_greatestShock_0 9 rfl) (by decide) rfl ?_
        have lp15 : ∀ (fz : Nat) (j : Nat), j ≤ K → (K - j) < fz → G zp l ze { frames := 1, cells := 0, slots := 0, locals := 40 * 1 } zs zm [.ref (B + 10), .ref (B + a)].toArray zb zt zc 5 D B 108 (celC D B) Q T M 15 [(0, .ref (B + 10)), (1, .ref (B + a)), (2, .int (gshK M a i j (gsh M a K i))), (3, .int (nI i)), (4, .int (nI j))] [] := by
          intro n15
          induction n15 with
          | zero => intro j hI hn; exact absurd hn (Nat.not_lt_zero _)
          | succ n15 ih15 =>
            intro j hI15 hn15
            refine g_iload F 4 (dk dtX5_greatestShock_0 10 rfl) rfl ?_
            refine g_aload_n F 0 (dk dtX5_greatestShock_0 11 rfl) rfl ?_
            refine g_get F fa_X5_9 (dk dtX5_greatestShock_0 12 rfl) (by decide) (cc10 D B _ _) rfl ?_
            refine g_top hK ?_
            refine g_icmp_geN F 43 (dk dtX5_greatestShock_0 13 rfl) (by decide) (by omega) (by omega) (fun c21 => ?_) (fun c21 => ?_)
            · -- taken at 21
              obtain rfl : K = j := by omega
              refine g_iinc F 3 (nI (i + 1)) [(3, .int (nI (i + 1))), (0, .ref (B + 10)), (1, .ref (B + a)), (2, .int (gshK M a i K (gsh M a K i))), (4, .int (nI K))] (dk dtX5_greatestShock_0 24 rfl) rfl (nI_1 _) (by decide) rfl ?_
              refine g_goto F 4 (dk dtX5_greatestShock_0 25 rfl) (by decide) ?_
              refine g_sub [1, 2, 3, 0] (L1 := [(0, .ref (B + 10)), (1, .ref (B + a)), (2, .int (gshK M a i K (gsh M a K i))), (3, .int (nI (i + 1)))]) rfl ?_
              have eq4_2 : (gshK M a i K (gsh M a K i) : Int32) = gsh M a K (i + 1) := by
                rfl
              refine g_st (M1 := M) (L1 := [(0, .ref (B + 10)), (1, .ref (B + a)), (2, .int (gsh M a K (i + 1))), (3, .int (nI (i + 1)))]) rfl (lc rfl (lc rfl (lc (vi eq4_2) (lc rfl rfl)))) rfl ?_
              exact ih4 (i + 1) (by omega) (by omega)
            · -- not taken at 21
              refine g_iload_n F 2 (dk dtX5_greatestShock_0 14 rfl) rfl ?_
              refine g_aload_n F 0 (dk dtX5_greatestShock_0 15 rfl) rfl ?_
              refine g_aload_n F 1 (dk dtX5_greatestShock_0 16 rfl) rfl ?_
              refine g_iload_n F 3 (dk dtX5_greatestShock_0 17 rfl) rfl ?_
              refine g_iload F 4 (dk dtX5_greatestShock_0 18 rfl) rfl ?_
              refine g_callVi F (As := [.ref (B + a), .int (nI i), .int (nI j)]) (st := [.int (gshK M a i j (gsh M a K i))]) cv_X5_45 (dk dtX5_greatestShock_0 19 rfl) (by decide) (cc10 D B _ _) rfl rfl (Nat.le_of_ble_eq_true rfl) ⟨by decide, by decide⟩ (k_X5_shock l D B _ _ a ha i j (by omega) (by omega)) (fun r30 T30 M30 hp30 => ?_)
              obtain ⟨e1, e2, e3⟩ := hp30
              replace e1 := e1.symm; replace e2 := e2.symm; replace e3 := e3.symm; subst e1; subst e2; subst e3
              refine g_mmax F (tw2 105 rfl) (dk dtX5_greatestShock_0 20 rfl) (Nat.le_of_ble_eq_true rfl) (Nat.le_of_ble_eq_true rfl) ?_
              refine g_istore_n F [(2, .int (mx (gshK M a i j (gsh M a K i)) (shk M a i j))), (0, .ref (B + 10)), (1, .ref (B + a)), (3, .int (nI i)), (4, .int (nI j))] (dk dtX5_greatestShock_0 21 rfl) (by decide) rfl ?_
              refine g_iinc F 4 (nI (j + 1)) [(4, .int (nI (j + 1))), (2, .int (mx (gshK M a i j (gsh M a K i)) (shk M a i j))), (0, .ref (B + 10)), (1, .ref (B + a)), (3, .int (nI i))] (dk dtX5_greatestShock_0 22 rfl) rfl (nI_1 _) (by decide) rfl ?_
              refine g_goto F 15 (dk dtX5_greatestShock_0 23 rfl) (by decide) ?_
              refine g_sub [2, 3, 1, 4, 0] (L1 := [(0, .ref (B + 10)), (1, .ref (B + a)), (2, .int (mx (gshK M a i j (gsh M a K i)) (shk M a i j))), (3, .int (nI i)), (4, .int (nI (j + 1)))]) rfl ?_
              have eq15_2 : (mx (gshK M a i j (gsh M a K i)) (shk M a i j) : Int32) = gshK M a i (j + 1) (gsh M a K i) := by
                rfl
              refine g_st (M1 := M) (L1 := [(0, .ref (B + 10)), (1, .ref (B + a)), (2, .int (gshK M a i (j + 1) (gsh M a K i))), (3, .int (nI i)), (4, .int (nI (j + 1)))]) rfl (lc rfl (lc rfl (lc (vi eq15_2) (lc rfl (lc rfl rfl))))) rfl ?_
              exact ih15 (j + 1) (by omega) (by omega)
        refine g_sub [1, 2, 3, 4, 0] (L1 := [(0, .ref (B + 10)), (1, .ref (B + a)), (2, .int (gsh M a K i)), (3, .int (nI i)), (4, .int (nI 0))]) rfl ?_
        exact lp15 (K + 1) 0 (by omega) (by omega)
  refine g_sub [2, 3, 1, 0] (L1 := [(0, .ref (B + 10)), (1, .ref (B + a)), (2, .int (-1)), (3, .int (nI 0))]) rfl ?_
  exact lp4 (P + 1) 0 (by omega) (by omega)
set_option maxRecDepth 100000 in
set_option maxHeartbeats 4000000 in
theorem k_X5_jumpers (l : Launch) (D : DX) (B : Nat) (T : Int64) (M : Mem) (a : Nat) (ha : IsNow D B a) (k : Nat) (hk : k < 4) (x : Int32) (P : Nat) (hP : M 10 2 = nI P) (hP5 : P ≤ 5) : Ci l D B 108 (celC D B) yX5_jumpers cX5_jumpers 6 (some .int) 1 [.ref (B + 10), .ref (B + a), .int (nI k), .int x] T M (fun r T1 M1 => r = jmp M a k x P ∧ T1 = T ∧ M1 = M) := by
  refine g_entryi (L := [(0, .ref (B + 10)), (1, .ref (B + a)), (2, .int (nI k)), (3, .int x)]) (by decide) (Nat.le_of_ble_eq_true rfl) rfl ?_
  intro zp ze zs zm zb zt zc Q F hQ
  refine g_iconst F (nI 0) (dk dtX5_jumpers_0 0 rfl) (by decide) ?_
  refine g_istore F [(4, .int (nI 0)), (0, .ref (B + 10)), (1, .ref (B + a)), (2, .int (nI k)), (3, .int x)] (dk dtX5_jumpers_0 1 rfl) (by decide) rfl ?_
  refine g_iconst F (nI 0) (dk dtX5_jumpers_0 2 rfl) (by decide) ?_
  refine g_istore F [(5, .int (nI 0)), (4, .int (nI 0)), (0, .ref (B + 10)), (1, .ref (B + a)), (2, .int (nI k)), (3, .int x)] (dk dtX5_jumpers_0 3 rfl) (by decide) rfl ?_
  have lp6 : ∀ (fz : Nat) (i : Nat), i ≤ P → (P - i) < fz → G zp l ze { frames := 1, cells := 0, slots := 0, locals := 40 * 1 } zs zm [.ref (B + 10), .ref (B + a), .int (nI k), .int x].toArray zb zt zc 6 D B 108 (celC D B) Q T M 6 [(0, .ref (B + 10)), (1, .ref (B + a)), (2, .int (nI k)), (3, .int x), (4, .int (jmp M a k x i)), (5, .int (nI i))] [] := by
    intro n6
    induction n6 with
    | zero => intro i hI hn; exact absurd hn (Nat.not_lt_zero _)
    | succ n6 ih6 =>
      intro i hI6 hn6
      refine g_iload F 5 (dk dtX5_jumpers_0 4 rfl) rfl ?_
      refine g_aload_n F 0 (dk dtX5_jumpers_0 5 rfl) rfl ?_
      refine g_get F fa_X5_18 (dk dtX5_jumpers_0 6 rfl) (by decide) (cc10 D B _ _) rfl ?_
      refine g_top hP ?_
      refine g_icmp_geN F 59 (dk dtX5_jumpers_0 7 rfl) (by decide) (by omega) (by omega) (fun c12 => ?_) (fun c12 => ?_)
      · -- taken at 12
        obtain rfl : P = i := by omega
        refine g_iload F 4 (dk dtX5_jumpers_0 32 rfl) rfl ?_
        refine g_iret (F := F) hQ (dk dtX5_jumpers_0 33 rfl) ?_
        exact ⟨rfl, rfl, rfl⟩
      · -- not taken at 12
        refine g_aload_n F 1 (dk dtX5_jumpers_0 8 rfl) rfl ?_
        refine g_get F fa_X5_55 (dk dtX5_jumpers_0 9 rfl) (by have := ha.1; omega) (ha.2.1 _ _) rfl ?_
        refine g_iload F 5 (dk dtX5_jumpers_0 10 rfl) rfl ?_
        refine g_iald F (i) (dk dtX5_jumpers_0 11 rfl) (by have := ha.1; omega) (ha.2.2.1 _ _) (by omega) (by decide) ?_
        refine g_iload_n F 3 (dk dtX5_jumpers_0 12 rfl) rfl ?_
        refine g_icmp_ne F 53 (dk dtX5_jumpers_0 13 rfl) (by decide) (fun c23 => ?_) (fun c23 => ?_)
        · -- taken at 23
          refine g_iinc F 5 (nI (i + 1)) [(5, .int (nI (i + 1))), (0, .ref (B + 10)), (1, .ref (B + a)), (2, .int (nI k)), (3, .int x), (4, .int (jmp M a k x i))] (dk dtX5_jumpers_0 30 rfl) rfl (nI_1 _) (by decide) rfl ?_
          refine g_goto F 6 (dk dtX5_jumpers_0 31 rfl) (by decide) ?_
          refine g_sub [1, 2, 3, 4, 5, 0] (L1 := [(0, .ref (B + 10)), (1, .ref (B + a)), (2, .int (nI k)), (3, .int x), (4, .int (jmp M a k x i)), (5, .int (nI (i + 1)))]) rfl ?_
          have eq6_4 : (jmp M a k x i : Int32) = jmp M a k x (i + 1) := by
            first
              | exact (if_neg (fun h => c23 h.1)).symm
              | exact (if_neg (fun h => Int32.not_le.mpr c41 h.2)).symm
              | exact (if_pos ⟨c23, Int32.not_lt.mp c41⟩).symm
          refine g_st (M1 := M) (L1 := [(0, .ref (B + 10)), (1, .ref (B + a)), (2, .int (nI k)), (3, .int x), (4, .int (jmp M a k x (i + 1))), (5, .int (nI (i + 1)))]) rfl (lc rfl (lc rfl (lc rfl (lc rfl (lc (vi eq6_4) (lc rfl rfl)))))) rfl ?_
          exact ih6 (i + 1) (by omega) (by omega)
        · -- not taken at 23
          refine g_aload_n F 0 (dk dtX5_jumpers_0 14 rfl) rfl ?_
          refine g_aload_n F 1 (dk dtX5_jumpers_0 15 rfl) rfl ?_
          refine g_iload F 5 (dk dtX5_jumpers_0 16 rfl) rfl ?_
          refine g_iload_n F 2 (dk dtX5_jumpers_0 17 rfl) rfl ?_
          refine g_callVi F (As := [.ref (B + a), .int (nI i), .int (nI k)]) (st := []) cv_X5_45 (dk dtX5_jumpers_0 18 rfl) (by decide) (cc10 D B _ _) rfl rfl (Nat.le_of_ble_eq_true rfl) ⟨by decide, by decide⟩ (k_X5_shock l D B _ _ a ha i k (by omega) (by omega)) (fun r31 T31 M31 hp31 => ?_)
          obtain ⟨e1, e2, e3⟩ := hp31
          replace e1 := e1.symm; replace e2 := e2.symm; replace e3 := e3.symm; subst e1; subst e2; subst e3
          refine g_aload_n F 0 (dk dtX5_jumpers_0 19 rfl) rfl ?_
          refine g_get F fa_X5_21 (dk dtX5_jumpers_0 20 rfl) (by decide) (cc10 D B _ _) rfl ?_
          refine g_iload F 5 (dk dtX5_jumpers_0 21 rfl) rfl ?_
          refine g_iald F (i) (dk dtX5_jumpers_0 22 rfl) (by decide) (cc11 D B _ _) (by omega) (by decide) ?_
          refine g_icmp_lt F 53 (dk dtX5_jumpers_0 23 rfl) (by decide) (fun c41 => ?_) (fun c41 => ?_)
          · -- taken at 41
            refine g_iinc F 5 (nI (i + 1)) [(5, .int (nI (i + 1))), (0, .ref (B + 10)), (1, .ref (B + a)), (2, .int (nI k)), (3, .int x), (4, .int (jmp M a k x i))] (dk dtX5_jumpers_0 30 rfl) rfl (nI_1 _) (by decide) rfl ?_
            refine g_goto F 6 (dk dtX5_jumpers_0 31 rfl) (by decide) ?_
            refine g_sub [1, 2, 3, 4, 5, 0] (L1 := [(0, .ref (B + 10)), (1, .ref (B + a)), (2, .int (nI k)), (3, .int x), (4, .int (jmp M a k x i)), (5, .int (nI (i + 1)))]) rfl ?_
            have eq6_4 : (jmp M a k x i : Int32) = jmp M a k x (i + 1) := by
              first
                | exact (if_neg (fun h => c23 h.1)).symm
                | exact (if_neg (fun h => Int32.not_le.mpr c41 h.2)).symm
                | exact (if_pos ⟨c23, Int32.not_lt.mp c41⟩).symm
            refine g_st (M1 := M) (L1 := [(0, .ref (B + 10)), (1, .ref (B + a)), (2, .int (nI k)), (3, .int x), (4, .int (jmp M a k x (i + 1))), (5, .int (nI (i + 1)))]) rfl (lc rfl (lc rfl (lc rfl (lc rfl (lc (vi eq6_4) (lc rfl rfl)))))) rfl ?_
            exact ih6 (i + 1) (by omega) (by omega)
          · -- not taken at 41
            refine g_iload F 4 (dk dtX5_jumpers_0 24 rfl) rfl ?_
            refine g_iconst F (nI 1) (dk dtX5_jumpers_0 25 rfl) (by decide) ?_
            refine g_iload F 5 (dk dtX5_jumpers_0 26 rfl) rfl ?_
            refine g_ishl F (dk dtX5_jumpers_0 27 rfl) ?_
            refine g_ior F (dk dtX5_jumpers_0 28 rfl) ?_
            refine g_istore F [(4, .int ((jmp M a k x i) ||| ((nI 1) <<< ((nI i) &&& 31)))), (0, .ref (B + 10)), (1, .ref (B + a)), (2, .int (nI k)), (3, .int x), (5, .int (nI i))] (dk dtX5_jumpers_0 29 rfl) (by decide) rfl ?_
            refine g_iinc F 5 (nI (i + 1)) [(5, .int (nI (i + 1))), (4, .int ((jmp M a k x i) ||| ((nI 1) <<< ((nI i) &&& 31)))), (0, .ref (B + 10)), (1, .ref (B + a)), (2, .int (nI k)), (3, .int x)] (dk dtX5_jumpers_0 30 rfl) rfl (nI_1 _) (by decide) rfl ?_
            refine g_goto F 6 (dk dtX5_jumpers_0 31 rfl) (by decide) ?_
            refine g_sub [2, 3, 4, 5, 1, 0] (L1 := [(0, .ref (B + 10)), (1, .ref (B + a)), (2, .int (nI k)), (3, .int x), (4, .int ((jmp M a k x i) ||| ((nI 1) <<< ((nI i) &&& 31)))), (5, .int (nI (i + 1)))]) rfl ?_
            have eq6_4 : ((jmp M a k x i) ||| ((nI 1) <<< ((nI i) &&& 31)) : Int32) = jmp M a k x (i + 1) := by
              first
                | exact (if_neg (fun h => c23 h.1)).symm
                | exact (if_neg (fun h => Int32.not_le.mpr c41 h.2)).symm
                | exact (if_pos ⟨c23, Int32.not_lt.mp c41⟩).symm
            refine g_st (M1 := M) (L1 := [(0, .ref (B + 10)), (1, .ref (B + a)), (2, .int (nI k)), (3, .int x), (4, .int (jmp M a k x (i + 1))), (5, .int (nI (i + 1)))]) rfl (lc rfl (lc rfl (lc rfl (lc rfl (lc (vi eq6_4) (lc rfl rfl)))))) rfl ?_
            exact ih6 (i + 1) (by omega) (by omega)
  refine g_sub [2, 3, 4, 5, 1, 0] (L1 := [(0, .ref (B + 10)), (1, .ref (B + a)), (2, .int (nI k)), (3, .int x), (4, .int (nI 0)), (5, .int (nI 0))]) rfl ?_
  exact lp6 (P + 1) 0 (by omega) (by omega)
set_option maxRecDepth 100000 in
set_option maxHeartbeats 4000000 in
theorem k_X5_mayorBy (l : Launch) (D : DX) (B : Nat) (T : Int64) (M : Mem) (a : Nat) (ha : IsNow D B a) (k : Nat) (hk : k < 4) (x : Int32) (P : Nat) (hP : M 10 2 = nI P) (hP5 : P ≤ 5) : Ci l D B 108 (celC D B) yX5_mayorBy cX5_mayorBy 8 (some .int) 1 [.ref (B + 10), .ref (B + a), .int (nI k), .int x] T M (fun r T1 M1 => r = (myb M a k x P).1 ∧ T1 = T ∧ M1 = M) := by
  refine g_entryi (L := [(0, .ref (B + 10)), (1, .ref (B + a)), (2, .int (nI k)), (3, .int x)]) (by decide) (Nat.le_of_ble_eq_true rfl) rfl ?_
  intro zp ze zs zm zb zt zc Q F hQ
  refine g_aload_n F 1 (dk dtX5_mayorBy_0 0 rfl) rfl ?_
  refine g_get F fa_X5_58 (dk dtX5_mayorBy_0 1 rfl) (by have := ha.1; omega) (ha.2.1 _ _) rfl ?_
  refine g_istore F [(4, .int (M a 0)), (0, .ref (B + 10)), (1, .ref (B + a)), (2, .int (nI k)), (3, .int x)] (dk dtX5_mayorBy_0 2 rfl) (by decide) rfl ?_
  refine g_iconst F (-1) (dk dtX5_mayorBy_0 3 rfl) (by decide) ?_
  refine g_istore F [(5, .int (-1)), (4, .int (M a 0)), (0, .ref (B + 10)), (1, .ref (B + a)), (2, .int (nI k)), (3, .int x)] (dk dtX5_mayorBy_0 4 rfl) (by decide) rfl ?_
  refine g_iconst F (nI 0) (dk dtX5_mayorBy_0 5 rfl) (by decide) ?_
  refine g_istore F [(6, .int (nI 0)), (5, .int (-1)), (4, .int (M a 0)), (0, .ref (B + 10)), (1, .ref (B + a)), (2, .int (nI k)), (3, .int x)] (dk dtX5_mayorBy_0 6 rfl) (by decide) rfl ?_
  have lp12 : ∀ (fz : Nat) (i : Nat), i ≤ P → (P - i) < fz → G zp l ze { frames := 1, cells := 0, slots := 0, locals := 40 * 1 } zs zm [.ref (B + 10), .ref (B + a), .int (nI k), .int x].toArray zb zt zc 8 D B 108 (celC D B) Q T M 12 [(0, .ref (B + 10)), (1, .ref (B + a)), (2, .int (nI k)), (3, .int x), (4, .int ((myb M a k x i).1)), (5, .int ((myb M a k x i).2)), (6, .int (nI i))] [] := by
    intro n12
    induction n12 with
    | zero => intro i hI hn; exact absurd hn (Nat.not_lt_zero _)
    | succ n12 ih12 =>
      intro i hI12 hn12
      refine g_iload F 6 (dk dtX5_mayorBy_0 7 rfl) rfl ?_
      refine g_aload_n F 0 (dk dtX5_mayorBy_0 8 rfl) rfl ?_
      refine g_get F fa_X5_18 (dk dtX5_mayorBy_0 9 rfl) (by decide) (cc10 D B _ _) rfl ?_
      refine g_top hP ?_
      refine g_icmp_geN F 75 (dk dtX5_mayorBy_0 10 rfl) (by decide) (by omega) (by omega) (fun c18 => ?_) (fun c18 => ?_)
      · -- taken at 18
        obtain rfl : P = i := by omega
        refine g_iload F 4 (dk dtX5_mayorBy_0 38 rfl) rfl ?_
        refine g_iret (F := F) hQ (dk dtX5_mayorBy_0 39 rfl) ?_
        exact ⟨rfl, rfl, rfl⟩
      · -- not taken at 18
        refine g_aload_n F 1 (dk dtX5_mayorBy_0 11 rfl) rfl ?_
        refine g_get F fa_X5_55 (dk dtX5_mayorBy_0 12 rfl) (by have := ha.1; omega) (ha.2.1 _ _) rfl ?_
        refine g_iload F 6 (dk dtX5_mayorBy_0 13 rfl) rfl ?_
        refine g_iald F (i) (dk dtX5_mayorBy_0 14 rfl) (by have := ha.1; omega) (ha.2.2.1 _ _) (by omega) (by decide) ?_
        refine g_iload_n F 3 (dk dtX5_mayorBy_0 15 rfl) rfl ?_
        refine g_icmp_ne F 69 (dk dtX5_mayorBy_0 16 rfl) (by decide) (fun c29 => ?_) (fun c29 => ?_)
        · -- taken at 29
          refine g_iinc F 6 (nI (i + 1)) [(6, .int (nI (i + 1))), (0, .ref (B + 10)), (1, .ref (B + a)), (2, .int (nI k)), (3, .int x), (4, .int ((myb M a k x i).1)), (5, .int ((myb M a k x i).2))] (dk dtX5_mayorBy_0 36 rfl) rfl (nI_1 _) (by decide) rfl ?_
          refine g_goto F 12 (dk dtX5_mayorBy_0 37 rfl) (by decide) ?_
          refine g_sub [1, 2, 3, 4, 5, 6, 0] (L1 := [(0, .ref (B + 10)), (1, .ref (B + a)), (2, .int (nI k)), (3, .int x), (4, .int ((myb M a k x i).1)), (5, .int ((myb M a k x i).2)), (6, .int (nI (i + 1)))]) rfl ?_
          have eq12_4 : ((myb M a k x i).1 : Int32) = (myb M a k x (i + 1)).1 := by
            simp only [myb]; first | rw [if_neg (fun h => absurd h.1 c29)] | rw [if_neg (fun h => absurd h.2.1 (Int32.not_le.mpr c51))] | rw [if_neg (fun h => absurd h.2.2 (Int32.not_lt.mpr c58))] | rw [if_pos ⟨c29, Int32.not_lt.mp c51, Int32.not_le.mp c58⟩]
          have eq12_5 : ((myb M a k x i).2 : Int32) = (myb M a k x (i + 1)).2 := by
            simp only [myb]; first | rw [if_neg (fun h => absurd h.1 c29)] | rw [if_neg (fun h => absurd h.2.1 (Int32.not_le.mpr c51))] | rw [if_neg (fun h => absurd h.2.2 (Int32.not_lt.mpr c58))] | rw [if_pos ⟨c29, Int32.not_lt.mp c51, Int32.not_le.mp c58⟩]
          refine g_st (M1 := M) (L1 := [(0, .ref (B + 10)), (1, .ref (B + a)), (2, .int (nI k)), (3, .int x), (4, .int ((myb M a k x (i + 1)).1)), (5, .int ((myb M a k x (i + 1)).2)), (6, .int (nI (i + 1)))]) rfl (lc rfl (lc rfl (lc rfl (lc rfl (lc (vi eq12_4) (lc (vi eq12_5) (lc rfl rfl))))))) rfl ?_
          exact ih12 (i + 1) (by omega) (by omega)
        · -- not taken at 29
          refine g_aload_n F 0 (dk dtX5_mayorBy_0 17 rfl) rfl ?_
          refine g_aload_n F 1 (dk dtX5_mayorBy_0 18 rfl) rfl ?_
          refine g_iload F 6 (dk dtX5_mayorBy_0 19 rfl) rfl ?_
          refine g_iload_n F 2 (dk dtX5_mayorBy_0 20 rfl) rfl ?_
          refine g_callVi F (As := [.ref (B + a), .int (nI i), .int (nI k)]) (st := []) cv_X5_45 (dk dtX5_mayorBy_0 21 rfl) (by decide) (cc10 D B _ _) rfl rfl (Nat.le_of_ble_eq_true rfl) ⟨by decide, by decide⟩ (k_X5_shock l D B _ _ a ha i k (by omega) (by omega)) (fun r37 T37 M37 hp37 => ?_)
          obtain ⟨e1, e2, e3⟩ := hp37
          replace e1 := e1.symm; replace e2 := e2.symm; replace e3 := e3.symm; subst e1; subst e2; subst e3
          refine g_istore F [(7, .int (shk M a i k)), (0, .ref (B + 10)), (1, .ref (B + a)), (2, .int (nI k)), (3, .int x), (4, .int ((myb M a k x i).1)), (5, .int ((myb M a k x i).2)), (6, .int (nI i))] (dk dtX5_mayorBy_0 22 rfl) (by decide) rfl ?_
          refine g_iload F 0 (dk dtX5_mayorBy_0 23 rfl) rfl ?_
          refine g_aload_n F 1 (dk dtX5_mayorBy_0 24 rfl) rfl ?_
          refine g_get F fa_X5_21 (dk dtX5_mayorBy_0 25 rfl) (by decide) (cc10 D B _ _) rfl ?_
          refine g_iload F 7 (dk dtX5_mayorBy_0 26 rfl) rfl ?_
          refine g_iald F (i) (dk dtX5_mayorBy_0 27 rfl) (by decide) (cc11 D B _ _) (by omega) (by decide) ?_
          refine g_icmp_lt F 69 (dk dtX5_mayorBy_0 28 rfl) (by decide) (fun c51 => ?_) (fun c51 => ?_)
          · -- taken at 51
            refine g_iinc F 7 (nI (i + 1)) [(6, .int (nI (i + 1))), (7, .int (shk M a i k)), (0, .ref (B + 10)), (1, .ref (B + a)), (2, .int (nI k)), (3, .int x), (4, .int ((myb M a k x i).1)), (5, .int ((myb M a k x i).2))] (dk dtX5_mayorBy_0 36 rfl) rfl (nI_1 _) (by decide) rfl ?_
            refine g_goto F 12 (dk dtX5_mayorBy_0 37 rfl) (by decide) ?_
            refine g_sub [2, 3, 4, 5, 6, 7, 0] (L1 := [(0, .ref (B + 10)), (1, .ref (B + a)), (2, .int (nI k)), (3, .int x), (4, .int ((myb M a k x i).1)), (5, .int ((myb M a k x i).2)), (6, .int (nI (i + 1)))]) rfl ?_
            have eq12_4 : ((myb M a k x i).1 : Int32) = (myb M a k x (i + 1)).1 := by
              simp only [myb]; first | rw [if_neg (fun h => absurd h.1 c29)] | rw [if_neg (fun h => absurd h.2.1 (Int32.not_le.mpr c51))] | rw [if_neg (fun h => absurd h.2.2 (Int32.not_lt.mpr c58))] | rw [if_pos ⟨c29, Int32.not_lt.mp c51, Int32.not_le.mp c58⟩]
            have eq12_5 : ((myb M a k x i).2 : Int32) = (myb M a k x (i + 1)).2 := by
              simp only [myb]; first | rw [if_neg (fun h => absurd h.1 c29)] | rw [if_neg (fun h => absurd h.2.1 (Int32.not_le.mpr c51))] | rw [if_neg (fun h => absurd h.2.2 (Int32.not_lt.mpr c58))] | rw [if_pos ⟨c29, Int32.not_lt.mp c51, Int32.not_le.mp c58⟩]
            refine g_st (M1 := M) (L1 := [(0, .ref (B + 10)), (1, .ref (B + a)), (2, .int (nI k)), (3, .int x), (4, .int ((myb M a k x (i + 1)).1)), (5, .int ((myb M a k x (i + 1)).2)), (6, .int (nI (i + 1)))]) rfl (lc rfl (lc rfl (lc rfl (lc rfl (lc (vi eq12_4) (lc (vi eq12_5) (lc rfl rfl))))))) rfl ?_
            exact ih12 (i + 1) (by omega) (by omega)
          · -- not taken at 51
            refine g_iload F 0 (dk dtX5_mayorBy_0 29 rfl) rfl ?_
            refine g_iload F 6 (dk dtX5_mayorBy_0 30 rfl) rfl ?_
            refine g_icmp_le F 69 (dk dtX5_mayorBy_0 31 rfl) (by decide) (fun c58 => ?_) (fun c58 => ?_)
            · -- taken at 58
              refine g_iinc F 7 (nI (i + 1)) [(6, .int (nI (i + 1))), (7, .int (shk M a i k)), (0, .ref (B + 10)), (1, .ref (B + a)), (2, .int (nI k)), (3, .int x), (4, .int ((myb M a k x i).1)), (5, .int ((myb M a k x i).2))] (dk dtX5_mayorBy_0 36 rfl) rfl (nI_1 _) (by decide) rfl ?_
              refine g_goto F 12 (dk dtX5_mayorBy_0 37 rfl) (by decide) ?_
              refine g_sub [2, 3, 4, 5, 6, 7, 0] (L1 := [(0, .ref (B + 10)), (1, .ref (B + a)), (2, .int (nI k)), (3, .int x), (4, .int ((myb M a k x i).1)), (5, .int ((myb M a k x i).2)), (6, .int (nI (i + 1)))]) rfl ?_
              have eq12_4 : ((myb M a k x i).1 : Int32) = (myb M a k x (i + 1)).1 := by
                simp only [myb]; first | rw [if_neg (fun h => absurd h.1 c29)] | rw [if_neg (fun h => absurd h.2.1 (Int32.not_le.mpr c51))] | rw [if_neg (fun h => absurd h.2.2 (Int32.not_lt.mpr c58))] | rw [if_pos ⟨c29, Int32.not_lt.mp c51, Int32.not_le.mp c58⟩]
              have eq12_5 : ((myb M a k x i).2 : Int32) = (myb M a k x (i + 1)).2 := by
                simp only [myb]; first | rw [if_neg (fun h => absurd h.1 c29)] | rw [if_neg (fun h => absurd h.2.1 (Int32.not_le.mpr c51))] | rw [if_neg (fun h => absurd h.2.2 (Int32.not_lt.mpr c58))] | rw [if_pos ⟨c29, Int32.not_lt.mp c51, Int32.not_le.mp c58⟩]
              refine g_st (M1 := M) (L1 := [(0, .ref (B + 10)), (1, .ref (B + a)), (2, .int (nI k)), (3, .int x), (4, .int ((myb M a k x (i + 1)).1)), (5, .int ((myb M a k x (i + 1)).2)), (6, .int (nI (i + 1)))]) rfl (lc rfl (lc rfl (lc rfl (lc rfl (lc (vi eq12_4) (lc (vi eq12_5) (lc rfl rfl))))))) rfl ?_
              exact ih12 (i + 1) (by omega) (by omega)
            · -- not taken at 58
              refine g_iload F 0 (dk dtX5_mayorBy_0 32 rfl) rfl ?_
              refine g_istore F [(5, .int (shk M a i k)), (7, .int (shk M a i k)), (0, .ref (B + 10)), (1, .ref (B + a)), (2, .int (nI k)), (3, .int x), (4, .int ((myb M a k x i).1)), (6, .int (nI i))] (dk dtX5_mayorBy_0 33 rfl) (by decide) rfl ?_
              refine g_iload F 7 (dk dtX5_mayorBy_0 34 rfl) rfl ?_
              refine g_istore F [(4, .int (nI i)), (5, .int (shk M a i k)), (7, .int (shk M a i k)), (0, .ref (B + 10)), (1, .ref (B + a)), (2, .int (nI k)), (3, .int x), (6, .int (nI i))] (dk dtX5_mayorBy_0 35 rfl) (by decide) rfl ?_
              refine g_iinc F 7 (nI (i + 1)) [(6, .int (nI (i + 1))), (4, .int (nI i)), (5, .int (shk M a i k)), (7, .int (shk M a i k)), (0, .ref (B + 10)), (1, .ref (B + a)), (2, .int (nI k)), (3, .int x)] (dk dtX5_mayorBy_0 36 rfl) rfl (nI_1 _) (by decide) rfl ?_
              refine g_goto F 12 (dk dtX5_mayorBy_0 37 rfl) (by decide) ?_
              refine g_sub [4, 5, 6, 7, 1, 2, 0] (L1 := [(0, .ref (B + 10)), (1, .ref (B + a)), (2, .int (nI k)), (3, .int x), (4, .int (nI i)), (5, .int (shk M a i k)), (6, .int (nI (i + 1)))]) rfl ?_
              have eq12_4 : (nI i : Int32) = (myb M a k x (i + 1)).1 := by
                simp only [myb]; first | rw [if_neg (fun h => absurd h.1 c29)] | rw [if_neg (fun h => absurd h.2.1 (Int32.not_le.mpr c51))] | rw [if_neg (fun h => absurd h.2.2 (Int32.not_lt.mpr c58))] | rw [if_pos ⟨c29, Int32.not_lt.mp c51, Int32.not_le.mp c58⟩]
              have eq12_5 : (shk M a i k : Int32) = (myb M a k x (i + 1)).2 := by
                simp only [myb]; first | rw [if_neg (fun h => absurd h.1 c29)] | rw [if_neg (fun h => absurd h.2.1 (Int32.not_le.mpr c51))] | rw [if_neg (fun h => absurd h.2.2 (Int32.not_lt.mpr c58))] | rw [if_pos ⟨c29, Int32.not_lt.mp c51, Int32.not_le.mp c58⟩]
              refine g_st (M1 := M) (L1 := [(0, .ref (B + 10)), (1, .ref (B + a)), (2, .int (nI k)), (3, .int x), (4, .int ((myb M a k x (i + 1)).1)), (5, .int ((myb M a k x (i + 1)).2)), (6, .int (nI (i + 1)))]) rfl (lc rfl (lc rfl (lc rfl (lc rfl (lc (vi eq12_4) (lc (vi eq12_5) (lc rfl rfl))))))) rfl ?_
              exact ih12 (i + 1) (by omega) (by omega)
  refine g_sub [3, 4, 5, 6, 2, 1, 0] (L1 := [(0, .ref (B + 10)), (1, .ref (B + a)), (2, .int (nI k)), (3, .int x), (4, .int (M a 0)), (5, .int (-1)), (6, .int (nI 0))]) rfl ?_
  exact lp12 (P + 1) 0 (by omega) (by omega)
set_option maxRecDepth 100000 in
set_option maxHeartbeats 4000000 in
theorem k_X5_happen (l : Launch) (D : DX) (B : Nat) (T : Int64) (M : Mem) (a : Nat) (ha : IsNow D B a) (k : Nat) (hk : k < 4) (x : Int32) (P : Nat) (hP : M 10 2 = nI P) (hP5 : P ≤ 5) : Ci l D B 108 (celC D B) yX5_happen cX5_happen 6 (some .int) 2 [.ref (B + 10), .ref (B + a), .int (nI k), .int x] T M (fun r T1 M1 => r = jmp M a k x P ∧ T1 = T ∧ M1 = hpM M a k x P) := by
  refine g_entryi (L := [(0, .ref (B + 10)), (1, .ref (B + a)), (2, .int (nI k)), (3, .int x)]) (by decide) (Nat.le_of_ble_eq_true rfl) rfl ?_
  intro zp ze zs zm zb zt zc Q F hQ
  refine g_aload_n F 0 (dk dtX5_happen_0 0 rfl) rfl ?_
  refine g_aload_n F 1 (dk dtX5_happen_0 1 rfl) rfl ?_
  refine g_iload_n F 2 (dk dtX5_happen_0 2 rfl) rfl ?_
  refine g_iload_n F 3 (dk dtX5_happen_0 3 rfl) rfl ?_
  refine g_callVi F (As := [.ref (B + a), .int (nI k), .int x]) (st := []) cv_X5_61 (dk dtX5_happen_0 4 rfl) (by decide) (cc10 D B _ _) rfl rfl (Nat.le_of_ble_eq_true rfl) ⟨by decide, by decide⟩ (k_X5_jumpers l D B _ _ a ha k (by omega) _ P hP hP5) (fun r4 T4 M4 hp4 => ?_)
  obtain ⟨e1, e2, e3⟩ := hp4
  replace e1 := e1.symm; replace e2 := e2.symm; replace e3 := e3.symm; subst e1; subst e2; subst e3
  refine g_istore F [(4, .int (jmp M a k x P)), (0, .ref (B + 10)), (1, .ref (B + a)), (2, .int (nI k)), (3, .int x)] (dk dtX5_happen_0 5 rfl) (by decide) rfl ?_
  refine g_aload_n F 2 (dk dtX5_happen_0 6 rfl) rfl ?_
  refine g_aload_n F 1 (dk dtX5_happen_0 7 rfl) rfl ?_
  refine g_aload_n F 2 (dk dtX5_happen_0 8 rfl) rfl ?_
  refine g_iload_n F 3 (dk dtX5_happen_0 9 rfl) rfl ?_
  refine g_iload_n F 4 (dk dtX5_happen_0 10 rfl) rfl ?_
  refine g_callVi F (As := [.ref (B + a), .int (nI k), .int x]) (st := [.ref (B + a)]) cv_X5_64 (dk dtX5_happen_0 11 rfl) (by decide) (cc10 D B _ _) rfl rfl (Nat.le_of_ble_eq_true rfl) ⟨by decide, by decide⟩ (k_X5_mayorBy l D B _ _ a ha k (by omega) _ P hP hP5) (fun r14 T14 M14 hp14 => ?_)
  obtain ⟨e1, e2, e3⟩ := hp14
  replace e1 := e1.symm; replace e2 := e2.symm; replace e3 := e3.symm; subst e1; subst e2; subst e3
  refine g_callVv F (As := [.int ((myb M a k x P).1)]) (st := []) cv_X5_67 (dk dtX5_happen_0 12 rfl) (by have := ha.1; omega) (ha.2.1 _ _) rfl rfl (Nat.le_of_ble_eq_true rfl) ⟨by decide, by decide⟩ (k_X2_crown l D B _ _ a ha _) (fun T17 M17 hp17 => ?_)
  obtain ⟨e2, e3⟩ := hp17
  replace e2 := e2.symm; replace e3 := e3.symm; subst e2; subst e3
  refine g_iconst F (nI 0) (dk dtX5_happen_0 13 rfl) (by decide) ?_
  refine g_istore F [(5, .int (nI 0)), (4, .int (jmp M a k x P)), (0, .ref (B + 10)), (1, .ref (B + a)), (2, .int (nI k)), (3, .int x)] (dk dtX5_happen_0 14 rfl) (by decide) rfl ?_
  have lp23 : ∀ (fz : Nat) (i : Nat), i ≤ P → (P - i) < fz → G zp l ze { frames := 2, cells := 0, slots := 0, locals := 40 * 2 } zs zm [.ref (B + 10), .ref (B + a), .int (nI k), .int x].toArray zb zt zc 6 D B 108 (celC D B) Q T (hsM M a k x P i) 23 [(0, .ref (B + 10)), (1, .ref (B + a)), (2, .int (nI k)), (3, .int x), (4, .int (jmp M a k x P)), (5, .int (nI i))] [] := by
    intro n23
    induction n23 with
    | zero => intro i hI hn; exact absurd hn (Nat.not_lt_zero _)
    | succ n23 ih23 =>
      intro i hI23 hn23
      refine g_iload F 5 (dk dtX5_happen_0 15 rfl) rfl ?_
      refine g_aload_n F 0 (dk dtX5_happen_0 16 rfl) rfl ?_
      refine g_get F fa_X5_18 (dk dtX5_happen_0 17 rfl) (by decide) (cc10 D B _ _) rfl ?_
      refine g_top (hsM_P (D := D) (B := B) ha hP) ?_
      refine g_icmp_geN F 56 (dk dtX5_happen_0 18 rfl) (by decide) (by omega) (by omega) (fun c29 => ?_) (fun c29 => ?_)
      · -- taken at 29
        obtain rfl : P = i := by omega
        refine g_iload F 4 (dk dtX5_happen_0 31 rfl) rfl ?_
        refine g_iret (F := F) hQ (dk dtX5_happen_0 32 rfl) ?_
        exact ⟨rfl, rfl, rfl⟩
      · -- not taken at 29
        refine g_aload_n F 1 (dk dtX5_happen_0 19 rfl) rfl ?_
        refine g_get F fa_X5_55 (dk dtX5_happen_0 20 rfl) (by have := ha.1; omega) (ha.2.1 _ _) rfl ?_
        refine g_iload F 5 (dk dtX5_happen_0 21 rfl) rfl ?_
        refine g_iald F (i) (dk dtX5_happen_0 22 rfl) (by have := ha.1; omega) (ha.2.2.1 _ _) (by omega) (by decide) ?_
        refine g_top (congrFun (hsM_pl (D := D) (B := B) ha) _) ?_
        refine g_iload_n F 3 (dk dtX5_happen_0 23 rfl) rfl ?_
        refine g_icmp_ne F 50 (dk dtX5_happen_0 24 rfl) (by decide) (fun c40 => ?_) (fun c40 => ?_)
        · -- taken at 40
          refine g_iinc F 5 (nI (i + 1)) [(5, .int (nI (i + 1))), (0, .ref (B + 10)), (1, .ref (B + a)), (2, .int (nI k)), (3, .int x), (4, .int (jmp M a k x P))] (dk dtX5_happen_0 29 rfl) rfl (nI_1 _) (by decide) rfl ?_
          refine g_goto F 23 (dk dtX5_happen_0 30 rfl) (by decide) ?_
          refine g_sub [1, 2, 3, 4, 5, 0] (L1 := [(0, .ref (B + 10)), (1, .ref (B + a)), (2, .int (nI k)), (3, .int x), (4, .int (jmp M a k x P)), (5, .int (nI (i + 1)))]) rfl ?_
          refine g_st (M1 := hsM M a k x P (i + 1)) (L1 := [(0, .ref (B + 10)), (1, .ref (B + a)), (2, .int (nI k)), (3, .int x), (4, .int (jmp M a k x P)), (5, .int (nI (i + 1)))]) (by first
              | exact (if_neg c40).symm
              | exact (if_pos c40).symm) rfl rfl ?_
          exact ih23 (i + 1) (by omega) (by omega)
        · -- not taken at 40
          refine g_aload_n F 1 (dk dtX5_happen_0 25 rfl) rfl ?_
          refine g_iload F 5 (dk dtX5_happen_0 26 rfl) rfl ?_
          refine g_iload_n F 2 (dk dtX5_happen_0 27 rfl) rfl ?_
          refine g_callVv F (As := [.int (nI i), .int (nI k)]) (st := []) cv_X5_71 (dk dtX5_happen_0 28 rfl) (by have := ha.1; omega) (ha.2.1 _ _) rfl rfl (Nat.le_of_ble_eq_true rfl) ⟨by decide, by decide⟩ (k_X2_see l D B _ _ a ha _ _ (by omega) (by omega)) (fun T47 M47 hp47 => ?_)
          obtain ⟨e2, e3⟩ := hp47
          replace e2 := e2.symm; replace e3 := e3.symm; subst e2; subst e3
          refine g_iinc F 5 (nI (i + 1)) [(5, .int (nI (i + 1))), (0, .ref (B + 10)), (1, .ref (B + a)), (2, .int (nI k)), (3, .int x), (4, .int (jmp M a k x P))] (dk dtX5_happen_0 29 rfl) rfl (nI_1 _) (by decide) rfl ?_
          refine g_goto F 23 (dk dtX5_happen_0 30 rfl) (by decide) ?_
          refine g_sub [1, 2, 3, 4, 5, 0] (L1 := [(0, .ref (B + 10)), (1, .ref (B + a)), (2, .int (nI k)), (3, .int x), (4, .int (jmp M a k x P)), (5, .int (nI (i + 1)))]) rfl ?_
          refine g_st (M1 := hsM M a k x P (i + 1)) (L1 := [(0, .ref (B + 10)), (1, .ref (B + a)), (2, .int (nI k)), (3, .int x), (4, .int (jmp M a k x P)), (5, .int (nI (i + 1)))]) (by first
              | exact (if_neg c40).symm
              | exact (if_pos c40).symm) rfl rfl ?_
          exact ih23 (i + 1) (by omega) (by omega)
  refine g_sub [2, 3, 4, 5, 1, 0] (L1 := [(0, .ref (B + 10)), (1, .ref (B + a)), (2, .int (nI k)), (3, .int x), (4, .int (jmp M a k x P)), (5, .int (nI 0))]) rfl ?_
  exact lp23 (P + 1) 0 (by omega) (by omega)
