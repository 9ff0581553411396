theorem arrV_congr (cI : ClassId) (n : Nat) {f g : Nat → Value} (h : ∀ j, j < n → f j = g j) : arrV cI n f = arrV cI n g := by
  unfold arrV
  congr 2
  funext j
  exact h j.val j.isLt
theorem wl_row {D : DX} {B N : Nat} {cel : Cel} {T : Int64} {M : Mem} {a n : Nat} {cA : ClassId} {r : Nat → Int32} {H : Heap} (hc : ∀ r, cel T a r = .inl (cA, n, .inl r)) (h : ∀ j, j < n → M a j = r j) (hP : va_P D.1 vwCl (wl B N cel T M) H) : va_P D.1 vwCl (wl B N cel T (setR M a r)) H := by
  intro k q hk
  obtain ⟨hkN, rfl⟩ := wl_inv hk
  have h1 := hP k _ (wl_get hkN)
  by_cases hka : k = a
  · subst hka
    rw [setR_self, hc]
    rw [hc] at h1
    show H[B + k]? = some (vp_cell cA (n, .inl r))
    have h2 : H[B + k]? = some (vp_cell cA (n, .inl (M k))) := h1
    rw [h2, vp_cell_i, vp_cell_i]
    exact congrArg some (arrV_congr cA n (fun j hj => by rw [h j hj]))
  · rw [setR_ne _ _ hka]
    exact h1
theorem nI_of3 {x : Int32} {n : Nat} (hn : n < 2 ^ 31) (h0 : ¬ x < 0) (h : x < nI n) : ∃ j : Nat, j < n ∧ x = nI j := by
  obtain ⟨j, hj, rfl⟩ := nI_of h0
  exact ⟨j, (nI_ltI hj hn).mp h, rfl⟩
theorem nI_of4 {x : Int32} {n : Nat} (hn : n < 2 ^ 31) (h0 : ¬ x < 0) (h : ¬ nI n ≤ x) : ∃ j : Nat, j < n ∧ x = nI j := by
  obtain ⟨j, hj, rfl⟩ := nI_of h0
  exact ⟨j, Nat.lt_of_not_le (fun q => h ((nI_leI hn hj).mpr q)), rfl⟩
def nSum (f : Nat → Int32) : Nat → Int32
  | 0 => 0
  | n + 1 => nSum f n + f n
def nCnt (f : Nat → Int32) : Nat → Nat
  | 0 => 0
  | n + 1 => nCnt f n + (if f n ≤ 0 then 0 else 1)
def mx (x y : Int32) : Int32 := if x < y then y else x
def mn (x y : Int32) : Int32 := if y < x then y else x
theorem lc {α : Type} {a b : α} {l k : List α} (h : a = b) (h2 : l = k) : a :: l = b :: k := by rw [h, h2]
theorem vi {i : Nat} {x y : Int32} (h : x = y) : ((i, Value.int x) : Nat × Value) = (i, Value.int y) := by rw [h]
section GM
variable {p : Program} {l : Launch} {e : Env} {R : Room} {s : State} {m : MethodId} {args : Array Value} {below : List Frame} {meth : Method} {c : Code} {cc : ByteArray} {nL : Nat} {rt : Option FieldType} {own : String} {D : DX} {B N : Nat} {cel : Cel} {Q : State → Prop} {T : Int64} {M : Mem} {pc pc1 : Nat} {L : List (Nat × Value)} {st : List Value}
theorem g_row {a n : Nat} {cA : ClassId} (r : Nat → Int32) (hc : ∀ r, cel T a r = .inl (cA, n, .inl r)) (h : ∀ j, j < n → M a j = r j) (k : G p l e R s m args below meth c nL D B N cel Q T (setR M a r) pc L st) : G p l e R s m args below meth c nL D B N cel Q T M pc L st := fun H locs ls hP hS hl => k H locs ls (wl_row hc h hP) hS hl
theorem g_copyi (F : Fx p m meth c cc nL rt s args own D) {ix a b n : Nat} (hw : Cond.methodLink own ix arraycopyName ∈ gtb) (hd : De cc pc (.invokestatic ix) 3 pc1) (ha : a < N) (hb : b < N) (hca : ∀ r, cel T a r = .inl (D.2.1, n, .inl r)) (hcb : ∀ r, cel T b r = .inl (D.2.1, n, .inl r)) (hn : n < 2 ^ 31) (hfr : 1 ≤ R.frames) (hlo : (st.map fun v => v.category).sum + (nativeFrameWords "java/lang/System" "arraycopy" 5 + 11) ≤ R.locals) (k : G p l e R s m args below meth c nL D B N cel Q T (setR M a (M b)) pc1 L st) : G p l e R s m args below meth c nL D B N cel Q T M pc L (.int (nI n) :: .int (nI 0) :: .ref (B + a) :: .int (nI 0) :: .ref (B + b) :: st) := by
  obtain ⟨hd, rfl⟩ := hd
  intro H locs ls hP hS hl
  have hz : ¬ nI 0 < 0 := by decide
  have h5 := F.2.2.2.2.1
  refine va_copyi F.1 F.2.1 (F.2.2.1.trans hl.1.symm) F.2.2.2.1 (h5 _ hw) (h5 (Cond.native arraycopyName) (tw2 58 rfl)) (h5 (Cond.static arraycopyName) (tw2 57 rfl)) (h5 (Cond.initialized "java/lang/System") (tw1 11 rfl)) F.2.2.2.2.2.1 hP wl_D hS b a 0 0 (ty := .int) (wl_at hb (hcb _)) (wl_at ha (hca _)) rfl rfl rfl hz hz (nI_pos hn) (by rw [nI_clamp hn, nI_clamp (by decide)]; omega) (by rw [nI_clamp hn, nI_clamp (by decide)]; omega) (fun _ _ => rfl) hfr hlo hd (fun H1 locs1 hP1 _ hS1 => k H1 locs1 ls ?_ hS1 hl)
  rw [wl_set ha (hca _)] at hP1
  have h6 := wl_row (r := M b) hca (fun j hj => by
    rw [setR_self, nI_clamp hn, nI_clamp (by decide)]
    rw [pk_cpy_in (Nat.zero_le j) (by omega)]
    simp) hP1
  have h7 : setR (setR M a (va_cpy (M b) (M a) (nI 0).toNatClampNeg (nI 0).toNatClampNeg (nI n).toNatClampNeg)) a (M b) = setR M a (M b) := by
    funext i
    by_cases hi : i = a <;> simp [setR, hi]
  rwa [h7] at h6
theorem g_mmax (F : Fx p m meth c cc nL rt s args own D) {ix : Nat} {x y : Int32} (hw : Cond.methodLink own ix Lib.Math.max.name ∈ gtb) (hd : De cc pc (.invokestatic ix) 3 pc1) (hfr : 1 ≤ R.frames) (hlo : (st.map fun v => v.category).sum + 13 ≤ R.locals) (k : G p l e R s m args below meth c nL D B N cel Q T M pc1 L (.int (mx x y) :: st)) : G p l e R s m args below meth c nL D B N cel Q T M pc L (.int y :: .int x :: st) := by
  obtain ⟨hd, rfl⟩ := hd
  intro H locs ls hP hS hl
  have h5 := F.2.2.2.2.1
  exact va_mmax F.1 F.2.1 (F.2.2.1.trans hl.1.symm) F.2.2.2.1 (h5 _ hw) (h5 (Cond.static Lib.Math.max.name) (tw2 106 rfl)) (h5 (Cond.initialized "java/lang/Math") (tw1 10 rfl)) (h5 (Cond.code Lib.Math.max.name Lib.Math.max.code 2 (some .int)) (tw2 107 rfl)) hfr hlo (Nat.zero_le _) (Nat.zero_le _) hd (k H locs ls hP hS hl)
theorem g_mmin (F : Fx p m meth c cc nL rt s args own D) {ix : Nat} {x y : Int32} (hw : Cond.methodLink own ix Lib.Math.min.name ∈ gtb) (hd : De cc pc (.invokestatic ix) 3 pc1) (hfr : 1 ≤ R.frames) (hlo : (st.map fun v => v.category).sum + 13 ≤ R.locals) (k : G p l e R s m args below meth c nL D B N cel Q T M pc1 L (.int (mn x y) :: st)) : G p l e R s m args below meth c nL D B N cel Q T M pc L (.int y :: .int x :: st) := by
  obtain ⟨hd, rfl⟩ := hd
  intro H locs ls hP hS hl
  have h5 := F.2.2.2.2.1
  exact va_mmin F.1 F.2.1 (F.2.2.1.trans hl.1.symm) F.2.2.2.1 (h5 _ hw) (h5 (Cond.static Lib.Math.min.name) (tw2 22 rfl)) (h5 (Cond.initialized "java/lang/Math") (tw1 10 rfl)) (h5 (Cond.code Lib.Math.min.name Lib.Math.min.code 2 (some .int)) (tw2 23 rfl)) hfr hlo (Nat.zero_le _) (Nat.zero_le _) hd (k H locs ls hP hS hl)
end GM
