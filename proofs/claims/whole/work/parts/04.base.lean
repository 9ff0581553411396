abbrev DX : Type := va_G × ClassId × ClassId × ClassId
abbrev Mem : Type := Nat → Nat → Int32
abbrev Cel : Type := Int64 → Nat → (Nat → Int32) → va_E
def Fr (B N : Nat) : Nat → Prop := fun q => B ≤ q ∧ q < B + N
def wl (B N : Nat) (cel : Cel) (T : Int64) (M : Mem) : va_W := (List.range N).map (fun k => (B + k, cel T k (M k)))
def KK (D : DX) (U : State) : Prop := va_K D.1 vwCl [(D.2.1, .int), (D.2.2.1, .boolean), (D.2.2.2, .object RX2)] U
def setR (M : Mem) (k : Nat) (r : Nat → Int32) : Mem := fun i => if i = k then r else M i
def up2 (M : Mem) (k j : Nat) (v : Int32) : Mem := setR M k (upd (M k) j v)
theorem setR_self (M : Mem) (k : Nat) (r : Nat → Int32) : setR M k r k = r := by simp [setR]
theorem setR_ne (M : Mem) {k i : Nat} (r : Nat → Int32) (h : i ≠ k) : setR M k r i = M i := by simp [setR, h]
theorem up2_ne (M : Mem) {k i j : Nat} (v : Int32) (h : i ≠ k) : up2 M k j v i = M i := by simp [up2, setR, h]
theorem up2_self (M : Mem) (k j : Nat) (v : Int32) : up2 M k j v k = upd (M k) j v := by simp [up2, setR]
theorem wl_len {B N : Nat} {cel : Cel} {T : Int64} {M : Mem} : (wl B N cel T M).length = N := by simp [wl]
theorem wl_get {B N : Nat} {cel : Cel} {T : Int64} {M : Mem} {k : Nat} (h : k < N) : (wl B N cel T M)[k]? = some (B + k, cel T k (M k)) := by simp [wl, h]
theorem wl_at {B N : Nat} {cel : Cel} {T : Int64} {M : Mem} {k : Nat} {e : va_E} (h : k < N) (he : cel T k (M k) = e) : (wl B N cel T M)[k]? = some (B + k, e) := by rw [wl_get h, he]
theorem wl_setT {B N : Nat} {cel : Cel} {T T1 : Int64} {M : Mem} {k : Nat} {r : Nat → Int32} {e : va_E} (h : k < N) (he : cel T1 k r = e) (ho : ∀ i, i ≠ k → ∀ r, cel T1 i r = cel T i r) : (wl B N cel T M).set k (B + k, e) = wl B N cel T1 (setR M k r) := by
  subst he
  apply List.ext_getElem?
  intro i
  by_cases hi : i < N
  · rw [wl_get hi, List.getElem?_set]
    by_cases hk : k = i
    · subst hk
      rw [if_pos rfl, if_pos (by rw [wl_len]; exact h), setR_self]
    · rw [if_neg hk, wl_get hi, setR_ne _ _ (Ne.symm hk), ho i (Ne.symm hk)]
  · rw [List.getElem?_eq_none (by rw [List.length_set, wl_len]; omega), List.getElem?_eq_none (by rw [wl_len]; omega)]
theorem wl_set {B N : Nat} {cel : Cel} {T : Int64} {M : Mem} {k : Nat} {r : Nat → Int32} {e : va_E} (h : k < N) (he : cel T k r = e) : (wl B N cel T M).set k (B + k, e) = wl B N cel T (setR M k r) := wl_setT h he (fun _ _ _ => rfl)
theorem wl_inv {B N : Nat} {cel : Cel} {T : Int64} {M : Mem} {k : Nat} {q : Nat × va_E} (h : (wl B N cel T M)[k]? = some q) : k < N ∧ q = (B + k, cel T k (M k)) := by
  have hk : k < N := by
    have := (List.getElem?_eq_some_iff.mp h).1
    rwa [wl_len] at this
  rw [wl_get hk] at h
  exact ⟨hk, (Option.some.inj h).symm⟩
theorem wl_D {B N : Nat} {cel : Cel} {T : Int64} {M : Mem} : va_D (Fr B N) (wl B N cel T M) := by
  refine ⟨fun i j p q hp hq he => ?_, fun k q hk => ?_⟩
  · obtain ⟨-, rfl⟩ := wl_inv hp
    obtain ⟨-, rfl⟩ := wl_inv hq
    simp at he
    omega
  · obtain ⟨h, rfl⟩ := wl_inv hk
    exact ⟨Nat.le_add_right _ _, Nat.add_lt_add_left h _⟩
def Fx (p : Program) (m : MethodId) (meth : Method) (c : Code) (cc : ByteArray) (nL : Nat) (rt : Option FieldType) (s : State) (args : Array Value) (own : String) (D : DX) : Prop := p.tables.exec = Jvm.exec ∧ c.code = cc ∧ c.maxLocals = nL ∧ s.vm.findClass own = some m.cls ∧ (∀ w ∈ gtb, w.before args s = true) ∧ KK D s ∧ meth.sig.returnType = rt ∧ meth.locks = false
def G (p : Program) (l : Launch) (e : Env) (R : Room) (s : State) (m : MethodId) (args : Array Value) (below : List Frame) (meth : Method) (c : Code) (nL : Nat) (D : DX) (B N : Nat) (cel : Cel) (Q : State → Prop) (T : Int64) (M : Mem) (pc : Nat) (L : List (Nat × Value)) (st : List Value) : Prop := ∀ (H : Heap) (locs : List Loc) (ls : Array Slot), va_P D.1 vwCl (wl B N cel T M) H → va_S (Fr B N) s.heap H locs → lv_has ls nL L → W p l e R s m args below meth c H locs 0 0 Q (F0 m pc ls st)
def Pw3 {α : Type} (post : α → Int64 → Mem → Prop) : α → (Int64 × Mem) → Prop := fun r u => post r u.1 u.2
def Pw2 (post : Int64 → Mem → Prop) : (Int64 × Mem) → Prop := fun u => post u.1 u.2
def Bw (D : DX) (B N : Nat) (cel : Cel) : (Int64 × Mem) → State → Prop := fun u t => va_P D.1 vwCl (wl B N cel u.1 u.2) t.heap ∧ KK D t
def Bw1 (D : DX) (B N : Nat) (cel : Cel) (a : Nat) : (Int64 × Mem) → Nat → State → Prop := fun u b t => b = a ∧ va_P D.1 vwCl (wl B N cel u.1 u.2) t.heap ∧ KK D t
/-- a method's contract: from the world (T, M), with the arguments av, it answers r, and leaves (T1, M1), with post r T1 M1 -/
def Ci (l : Launch) (D : DX) (B N : Nat) (cel : Cel) (y : MethodName) (cc : ByteArray) (mL : Nat) (rt : Option FieldType) (d : Nat) (av : List Value) (T : Int64) (M : Mem) (post : Int32 → Int64 → Mem → Prop) : Prop := Met l y (Cond.code y cc mL rt :: gtb) { frames := d, cells := 0, slots := 0, locals := 40 * d } (va_Pc av (fun U => va_P D.1 vwCl (wl B N cel T M) U.heap ∧ KK D U)) (va_Qi (Pw3 post) (Bw D B N cel) (Fr B N)) 0 0 (Fr B N)
def Cl (l : Launch) (D : DX) (B N : Nat) (cel : Cel) (y : MethodName) (cc : ByteArray) (mL : Nat) (rt : Option FieldType) (d : Nat) (av : List Value) (T : Int64) (M : Mem) (post : Int64 → Int64 → Mem → Prop) : Prop := Met l y (Cond.code y cc mL rt :: gtb) { frames := d, cells := 0, slots := 0, locals := 40 * d } (va_Pc av (fun U => va_P D.1 vwCl (wl B N cel T M) U.heap ∧ KK D U)) (va_Ql (Pw3 post) (Bw D B N cel) (Fr B N)) 0 0 (Fr B N)
def Cv (l : Launch) (D : DX) (B N : Nat) (cel : Cel) (y : MethodName) (cc : ByteArray) (mL : Nat) (rt : Option FieldType) (d : Nat) (av : List Value) (T : Int64) (M : Mem) (post : Int64 → Mem → Prop) : Prop := Met l y (Cond.code y cc mL rt :: gtb) { frames := d, cells := 0, slots := 0, locals := 40 * d } (va_Pc av (fun U => va_P D.1 vwCl (wl B N cel T M) U.heap ∧ KK D U)) (va_Qv (Pw2 post) (Bw D B N cel) (Fr B N)) 0 0 (Fr B N)
def Cr (l : Launch) (D : DX) (B N : Nat) (cel : Cel) (y : MethodName) (cc : ByteArray) (mL : Nat) (rt : Option FieldType) (d : Nat) (av : List Value) (T : Int64) (M : Mem) (a : Nat) (post : Int64 → Mem → Prop) : Prop := Met l y (Cond.code y cc mL rt :: gtb) { frames := d, cells := 0, slots := 0, locals := 40 * d } (va_Pc av (fun U => va_P D.1 vwCl (wl B N cel T M) U.heap ∧ KK D U)) (va_Qr (Pw2 post) (Bw1 D B N cel a) (Fr B N)) 0 0 (Fr B N)
theorem gtbSub {ws : List Cond} : GoodIn (gtb) gtb := fun w h => ⟨h, good_of_word (gtbGood h)⟩
theorem gtbCode {y : MethodName} {cc : ByteArray} {mL : Nat} {rt : Option FieldType} (h : Cond.code y cc mL rt ∈ gtb) : GoodIn gtb (Cond.code y cc mL rt :: gtb) := fun w hw => by
  have hw' : w ∈ gtb := by
    rcases List.mem_cons.mp hw with rfl | h1
    · exact h
    · exact h1
  exact ⟨hw', good_of_word (gtbGood hw')⟩
def bI (P : Prop) [Decidable P] : Int32 := if P then nI 1 else nI 0
theorem bI_t {P : Prop} [Decidable P] (h : P) : bI P = nI 1 := if_pos h
theorem bI_f {P : Prop} [Decidable P] (h : ¬ P) : bI P = nI 0 := if_neg h
theorem bI_0 {P : Prop} [Decidable P] : bI P = 0 ↔ ¬ P := by
  by_cases h : P
  · rw [bI_t h]; exact ⟨fun e => absurd e (by decide), fun e => absurd h e⟩
  · rw [bI_f h]; exact ⟨fun _ => h, fun _ => by decide⟩
theorem bI_1 {P : Prop} [Decidable P] (h : bI P = nI 1) : P := Decidable.not_not.mp (fun q => absurd ((bI_f q).symm.trans h) (by decide))
theorem bI_nar {P : Prop} [Decidable P] : narrow .boolean (.int (bI P)) = .int (bI P) := by
  by_cases h : P <;> simp only [bI, h, if_true, if_false] <;> rfl
theorem setR_same (M : Mem) (k : Nat) : setR M k (M k) = M := by
  funext i
  by_cases h : i = k <;> simp [setR, h]
theorem sw4 (x : Int32) : (x.toInt < 0 ∨ 3 < x.toInt) ∨ x = nI 0 ∨ x = nI 1 ∨ x = nI 2 ∨ x = nI 3 := by
  by_cases h : x.toInt < 0 ∨ 3 < x.toInt
  · exact Or.inl h
  · refine Or.inr ?_
    rcases (show x.toInt = 0 ∨ x.toInt = 1 ∨ x.toInt = 2 ∨ x.toInt = 3 by omega) with e | e | e | e <;> simp [← Int32.toInt_inj, e, nI]
theorem sw5 (x : Int32) : (x.toInt < 0 ∨ 4 < x.toInt) ∨ x = nI 0 ∨ x = nI 1 ∨ x = nI 2 ∨ x = nI 3 ∨ x = nI 4 := by
  by_cases h : x.toInt < 0 ∨ 4 < x.toInt
  · exact Or.inl h
  · refine Or.inr ?_
    rcases (show x.toInt = 0 ∨ x.toInt = 1 ∨ x.toInt = 2 ∨ x.toInt = 3 ∨ x.toInt = 4 by omega) with e | e | e | e | e <;> simp [← Int32.toInt_inj, e, nI]
theorem sw6 (x : Int32) : (x.toInt < 0 ∨ 5 < x.toInt) ∨ x = nI 0 ∨ x = nI 1 ∨ x = nI 2 ∨ x = nI 3 ∨ x = nI 4 ∨ x = nI 5 := by
  by_cases h : x.toInt < 0 ∨ 5 < x.toInt
  · exact Or.inl h
  · refine Or.inr ?_
    rcases (show x.toInt = 0 ∨ x.toInt = 1 ∨ x.toInt = 2 ∨ x.toInt = 3 ∨ x.toInt = 4 ∨ x.toInt = 5 by omega) with e | e | e | e | e | e <;> simp [← Int32.toInt_inj, e, nI]
section GR
variable {p : Program} {l : Launch} {e : Env} {R : Room} {s : State} {m : MethodId} {args : Array Value} {below : List Frame} {meth : Method} {c : Code} {cc : ByteArray} {nL : Nat} {rt : Option FieldType} {own : String} {D : DX} {B N : Nat} {cel : Cel} {Q : State → Prop} {T : Int64} {M : Mem} {pc pc1 : Nat} {L : List (Nat × Value)} {st : List Value}
theorem g_iconst (F : Fx p m meth c cc nL rt s args own D) {n : Int} (v : Int32) (hd : De cc pc (.iconst n) 1 pc1) (hv : Int32.ofInt n = v) (k : G p l e R s m args below meth c nL D B N cel Q T M pc1 L (.int v :: st)) : G p l e R s m args below meth c nL D B N cel Q T M pc L st := by
  obtain ⟨hd, rfl⟩ := hd
  exact fun H locs ls hP hS hl => lv_iconst F.1 F.2.1 hd hv (k H locs ls hP hS hl)
theorem g_bipush (F : Fx p m meth c cc nL rt s args own D) {n : Int} (v : Int32) (hd : De cc pc (.bipush n) 2 pc1) (hv : (Int8.ofInt n).toInt32 = v) (k : G p l e R s m args below meth c nL D B N cel Q T M pc1 L (.int v :: st)) : G p l e R s m args below meth c nL D B N cel Q T M pc L st := by
  obtain ⟨hd, rfl⟩ := hd
  exact fun H locs ls hP hS hl => lv_bipush F.1 F.2.1 hd hv (k H locs ls hP hS hl)
theorem g_sipush (F : Fx p m meth c cc nL rt s args own D) {n : Int} (v : Int32) (hd : De cc pc (.sipush n) 3 pc1) (hv : (Int16.ofInt n).toInt32 = v) (k : G p l e R s m args below meth c nL D B N cel Q T M pc1 L (.int v :: st)) : G p l e R s m args below meth c nL D B N cel Q T M pc L st := by
  obtain ⟨hd, rfl⟩ := hd
  exact fun H locs ls hP hS hl => lv_sipush F.1 F.2.1 hd hv (k H locs ls hP hS hl)
theorem g_lconst (F : Fx p m meth c cc nL rt s args own D) {n : Fin 2} (v : Int64) (hd : De cc pc (.lconst n) 1 pc1) (hv : Int64.ofNat (n : Nat) = v) (k : G p l e R s m args below meth c nL D B N cel Q T M pc1 L (.long v :: st)) : G p l e R s m args below meth c nL D B N cel Q T M pc L st := by
  obtain ⟨hd, rfl⟩ := hd
  exact fun H locs ls hP hS hl => lv_lconst F.1 F.2.1 hd hv (k H locs ls hP hS hl)
theorem g_ldc (F : Fx p m meth c cc nL rt s args own D) {ix : Nat} {v : Int32} (hd : De cc pc (.ldc ix) 2 pc1) (hw : Cond.constant own ix v ∈ gtb) (k : G p l e R s m args below meth c nL D B N cel Q T M pc1 L (.int v :: st)) : G p l e R s m args below meth c nL D B N cel Q T M pc L st := by
  obtain ⟨hd, rfl⟩ := hd
  exact fun H locs ls hP hS hl => lv_ldc F.1 F.2.1 F.2.2.2.1 (F.2.2.2.2.1 _ hw) hd (k H locs ls hP hS hl)
theorem g_ldc2 (F : Fx p m meth c cc nL rt s args own D) {ix : Nat} {v : Int64} (hd : De cc pc (.ldc2_w ix) 3 pc1) (hw : Cond.constantLong own ix v ∈ gtb) (k : G p l e R s m args below meth c nL D B N cel Q T M pc1 L (.long v :: st)) : G p l e R s m args below meth c nL D B N cel Q T M pc L st := by
  obtain ⟨hd, rfl⟩ := hd
  exact fun H locs ls hP hS hl => lv_ldc2 F.1 F.2.1 F.2.2.2.1 (F.2.2.2.2.1 _ hw) hd (k H locs ls hP hS hl)
theorem g_iload_n (F : Fx p m meth c cc nL rt s args own D) {i : Fin 4} {x : Int32} (q : Nat) (hd : De cc pc (.iload_n i) 1 pc1) (hq : L[q]? = some ((i : Nat), .int x)) (k : G p l e R s m args below meth c nL D B N cel Q T M pc1 L (.int x :: st)) : G p l e R s m args below meth c nL D B N cel Q T M pc L st := by
  obtain ⟨hd, rfl⟩ := hd
  exact fun H locs ls hP hS hl => lv_iload_n F.1 F.2.1 hd rfl (lv_at hl q hq) (k H locs ls hP hS hl)
theorem g_iload (F : Fx p m meth c cc nL rt s args own D) {i : Nat} {x : Int32} (q : Nat) (hd : De cc pc (.iload i) 2 pc1) (hq : L[q]? = some (i, .int x)) (k : G p l e R s m args below meth c nL D B N cel Q T M pc1 L (.int x :: st)) : G p l e R s m args below meth c nL D B N cel Q T M pc L st := by
  obtain ⟨hd, rfl⟩ := hd
  exact fun H locs ls hP hS hl => lv_iload F.1 F.2.1 hd (lv_at hl q hq) (k H locs ls hP hS hl)
theorem g_istore_n (F : Fx p m meth c cc nL rt s args own D) {i : Fin 4} {x : Int32} (L1 : List (Nat × Value)) (hd : De cc pc (.istore_n i) 1 pc1) (hn : (i : Nat) < nL) (hL : ((i : Nat), Value.int x) :: L.filter (fun q => !(q.1 == (i : Nat)) && !(q.1 + 1 == (i : Nat) && q.2.category == 2)) = L1) (k : G p l e R s m args below meth c nL D B N cel Q T M pc1 L1 st) : G p l e R s m args below meth c nL D B N cel Q T M pc L (.int x :: st) := by
  obtain ⟨hd, rfl⟩ := hd
  exact fun H locs ls hP hS hl => lv_istore_n F.1 F.2.1 hd rfl hl hn hL (fun ls hl => k H locs ls hP hS hl)
theorem g_istore (F : Fx p m meth c cc nL rt s args own D) {i : Nat} {x : Int32} (L1 : List (Nat × Value)) (hd : De cc pc (.istore i) 2 pc1) (hn : i < nL) (hL : (i, Value.int x) :: L.filter (fun q => !(q.1 == i) && !(q.1 + 1 == i && q.2.category == 2)) = L1) (k : G p l e R s m args below meth c nL D B N cel Q T M pc1 L1 st) : G p l e R s m args below meth c nL D B N cel Q T M pc L (.int x :: st) := by
  obtain ⟨hd, rfl⟩ := hd
  exact fun H locs ls hP hS hl => lv_istore F.1 F.2.1 hd hl hn hL (fun ls hl => k H locs ls hP hS hl)
theorem g_aload_n (F : Fx p m meth c cc nL rt s args own D) {i : Fin 4} {x : Nat} (q : Nat) (hd : De cc pc (.aload_n i) 1 pc1) (hq : L[q]? = some ((i : Nat), .ref x)) (k : G p l e R s m args below meth c nL D B N cel Q T M pc1 L (.ref x :: st)) : G p l e R s m args below meth c nL D B N cel Q T M pc L st := by
  obtain ⟨hd, rfl⟩ := hd
  exact fun H locs ls hP hS hl => lv_aload_n F.1 F.2.1 hd rfl (lv_at hl q hq) (k H locs ls hP hS hl)
theorem g_aload (F : Fx p m meth c cc nL rt s args own D) {i : Nat} {x : Nat} (q : Nat) (hd : De cc pc (.aload i) 2 pc1) (hq : L[q]? = some (i, .ref x)) (k : G p l e R s m args below meth c nL D B N cel Q T M pc1 L (.ref x :: st)) : G p l e R s m args below meth c nL D B N cel Q T M pc L st := by
  obtain ⟨hd, rfl⟩ := hd
  exact fun H locs ls hP hS hl => lv_aload F.1 F.2.1 hd (lv_at hl q hq) (k H locs ls hP hS hl)
theorem g_astore_n (F : Fx p m meth c cc nL rt s args own D) {i : Fin 4} {x : Nat} (L1 : List (Nat × Value)) (hd : De cc pc (.astore_n i) 1 pc1) (hn : (i : Nat) < nL) (hL : ((i : Nat), Value.ref x) :: L.filter (fun q => !(q.1 == (i : Nat)) && !(q.1 + 1 == (i : Nat) && q.2.category == 2)) = L1) (k : G p l e R s m args below meth c nL D B N cel Q T M pc1 L1 st) : G p l e R s m args below meth c nL D B N cel Q T M pc L (.ref x :: st) := by
  obtain ⟨hd, rfl⟩ := hd
  exact fun H locs ls hP hS hl => lv_astore_n F.1 F.2.1 hd rfl hl hn hL (fun ls hl => k H locs ls hP hS hl)
theorem g_astore (F : Fx p m meth c cc nL rt s args own D) {i : Nat} {x : Nat} (L1 : List (Nat × Value)) (hd : De cc pc (.astore i) 2 pc1) (hn : i < nL) (hL : (i, Value.ref x) :: L.filter (fun q => !(q.1 == i) && !(q.1 + 1 == i && q.2.category == 2)) = L1) (k : G p l e R s m args below meth c nL D B N cel Q T M pc1 L1 st) : G p l e R s m args below meth c nL D B N cel Q T M pc L (.ref x :: st) := by
  obtain ⟨hd, rfl⟩ := hd
  exact fun H locs ls hP hS hl => lv_astore F.1 F.2.1 hd hl hn hL (fun ls hl => k H locs ls hP hS hl)
theorem g_iinc (F : Fx p m meth c cc nL rt s args own D) {i : Nat} {n : Int} {x : Int32} (q : Nat) (v : Int32) (L1 : List (Nat × Value)) (hd : De cc pc (.iinc i n) 3 pc1) (hq : L[q]? = some (i, .int x)) (hv : x + Int32.ofInt n = v) (hn : i < nL) (hL : (i, Value.int v) :: L.filter (fun q => !(q.1 == i) && !(q.1 + 1 == i && q.2.category == 2)) = L1) (k : G p l e R s m args below meth c nL D B N cel Q T M pc1 L1 st) : G p l e R s m args below meth c nL D B N cel Q T M pc L st := by
  obtain ⟨hd, rfl⟩ := hd
  exact fun H locs ls hP hS hl => lv_iinc F.1 F.2.1 hd hl hq hv hn hL (fun ls hl => k H locs ls hP hS hl)
theorem g_iadd (F : Fx p m meth c cc nL rt s args own D) {x y : Int32} (hd : De cc pc (.iadd) 1 pc1) (k : G p l e R s m args below meth c nL D B N cel Q T M pc1 L (.int (x + y) :: st)) : G p l e R s m args below meth c nL D B N cel Q T M pc L (.int y :: .int x :: st) := by
  obtain ⟨hd, rfl⟩ := hd
  exact fun H locs ls hP hS hl => lv_iadd F.1 F.2.1 hd (k H locs ls hP hS hl)
theorem g_iaddE (F : Fx p m meth c cc nL rt s args own D) {x y : Int32} (z : Int32) (hd : De cc pc (.iadd) 1 pc1) (hz : z = x + y) (k : G p l e R s m args below meth c nL D B N cel Q T M pc1 L (.int z :: st)) : G p l e R s m args below meth c nL D B N cel Q T M pc L (.int y :: .int x :: st) := by
  obtain ⟨hd, rfl⟩ := hd
  exact fun H locs ls hP hS hl => lv_iadd F.1 F.2.1 hd (hz ▸ (k H locs ls hP hS hl))
theorem g_isub (F : Fx p m meth c cc nL rt s args own D) {x y : Int32} (hd : De cc pc (.isub) 1 pc1) (k : G p l e R s m args below meth c nL D B N cel Q T M pc1 L (.int (x - y) :: st)) : G p l e R s m args below meth c nL D B N cel Q T M pc L (.int y :: .int x :: st) := by
  obtain ⟨hd, rfl⟩ := hd
  exact fun H locs ls hP hS hl => lv_isub F.1 F.2.1 hd (k H locs ls hP hS hl)
theorem g_isubE (F : Fx p m meth c cc nL rt s args own D) {x y : Int32} (z : Int32) (hd : De cc pc (.isub) 1 pc1) (hz : z = x - y) (k : G p l e R s m args below meth c nL D B N cel Q T M pc1 L (.int z :: st)) : G p l e R s m args below meth c nL D B N cel Q T M pc L (.int y :: .int x :: st) := by
  obtain ⟨hd, rfl⟩ := hd
  exact fun H locs ls hP hS hl => lv_isub F.1 F.2.1 hd (hz ▸ (k H locs ls hP hS hl))
theorem g_imul (F : Fx p m meth c cc nL rt s args own D) {x y : Int32} (hd : De cc pc (.imul) 1 pc1) (k : G p l e R s m args below meth c nL D B N cel Q T M pc1 L (.int (x * y) :: st)) : G p l e R s m args below meth c nL D B N cel Q T M pc L (.int y :: .int x :: st) := by
  obtain ⟨hd, rfl⟩ := hd
  exact fun H locs ls hP hS hl => lv_imul F.1 F.2.1 hd (k H locs ls hP hS hl)
theorem g_imulE (F : Fx p m meth c cc nL rt s args own D) {x y : Int32} (z : Int32) (hd : De cc pc (.imul) 1 pc1) (hz : z = x * y) (k : G p l e R s m args below meth c nL D B N cel Q T M pc1 L (.int z :: st)) : G p l e R s m args below meth c nL D B N cel Q T M pc L (.int y :: .int x :: st) := by
  obtain ⟨hd, rfl⟩ := hd
  exact fun H locs ls hP hS hl => lv_imul F.1 F.2.1 hd (hz ▸ (k H locs ls hP hS hl))
theorem g_iand (F : Fx p m meth c cc nL rt s args own D) {x y : Int32} (hd : De cc pc (.iand) 1 pc1) (k : G p l e R s m args below meth c nL D B N cel Q T M pc1 L (.int (x &&& y) :: st)) : G p l e R s m args below meth c nL D B N cel Q T M pc L (.int y :: .int x :: st) := by
  obtain ⟨hd, rfl⟩ := hd
  exact fun H locs ls hP hS hl => lv_iand F.1 F.2.1 hd (k H locs ls hP hS hl)
theorem g_iandE (F : Fx p m meth c cc nL rt s args own D) {x y : Int32} (z : Int32) (hd : De cc pc (.iand) 1 pc1) (hz : z = x &&& y) (k : G p l e R s m args below meth c nL D B N cel Q T M pc1 L (.int z :: st)) : G p l e R s m args below meth c nL D B N cel Q T M pc L (.int y :: .int x :: st) := by
  obtain ⟨hd, rfl⟩ := hd
  exact fun H locs ls hP hS hl => lv_iand F.1 F.2.1 hd (hz ▸ (k H locs ls hP hS hl))
theorem g_ior (F : Fx p m meth c cc nL rt s args own D) {x y : Int32} (hd : De cc pc (.ior) 1 pc1) (k : G p l e R s m args below meth c nL D B N cel Q T M pc1 L (.int (x ||| y) :: st)) : G p l e R s m args below meth c nL D B N cel Q T M pc L (.int y :: .int x :: st) := by
  obtain ⟨hd, rfl⟩ := hd
  exact fun H locs ls hP hS hl => lv_ior F.1 F.2.1 hd (k H locs ls hP hS hl)
theorem g_iorE (F : Fx p m meth c cc nL rt s args own D) {x y : Int32} (z : Int32) (hd : De cc pc (.ior) 1 pc1) (hz : z = x ||| y) (k : G p l e R s m args below meth c nL D B N cel Q T M pc1 L (.int z :: st)) : G p l e R s m args below meth c nL D B N cel Q T M pc L (.int y :: .int x :: st) := by
  obtain ⟨hd, rfl⟩ := hd
  exact fun H locs ls hP hS hl => lv_ior F.1 F.2.1 hd (hz ▸ (k H locs ls hP hS hl))
theorem g_ishl (F : Fx p m meth c cc nL rt s args own D) {x y : Int32} (hd : De cc pc (.ishl) 1 pc1) (k : G p l e R s m args below meth c nL D B N cel Q T M pc1 L (.int (x <<< (y &&& 31)) :: st)) : G p l e R s m args below meth c nL D B N cel Q T M pc L (.int y :: .int x :: st) := by
  obtain ⟨hd, rfl⟩ := hd
  exact fun H locs ls hP hS hl => lv_ishl F.1 F.2.1 hd (k H locs ls hP hS hl)
theorem g_ishlE (F : Fx p m meth c cc nL rt s args own D) {x y : Int32} (z : Int32) (hd : De cc pc (.ishl) 1 pc1) (hz : z = x <<< (y &&& 31)) (k : G p l e R s m args below meth c nL D B N cel Q T M pc1 L (.int z :: st)) : G p l e R s m args below meth c nL D B N cel Q T M pc L (.int y :: .int x :: st) := by
  obtain ⟨hd, rfl⟩ := hd
  exact fun H locs ls hP hS hl => lv_ishl F.1 F.2.1 hd (hz ▸ (k H locs ls hP hS hl))
theorem g_ladd (F : Fx p m meth c cc nL rt s args own D) {x y : Int64} (hd : De cc pc (.ladd) 1 pc1) (k : G p l e R s m args below meth c nL D B N cel Q T M pc1 L (.long (x + y) :: st)) : G p l e R s m args below meth c nL D B N cel Q T M pc L (.long y :: .long x :: st) := by
  obtain ⟨hd, rfl⟩ := hd
  exact fun H locs ls hP hS hl => lv_ladd F.1 F.2.1 hd (k H locs ls hP hS hl)
theorem g_idiv (F : Fx p m meth c cc nL rt s args own D) {x y : Int32} (hd : De cc pc (.idiv) 1 pc1) (hne : ¬ y = 0) (k : G p l e R s m args below meth c nL D B N cel Q T M pc1 L (.int (x / y) :: st)) : G p l e R s m args below meth c nL D B N cel Q T M pc L (.int y :: .int x :: st) := by
  obtain ⟨hd, rfl⟩ := hd
  exact fun H locs ls hP hS hl => lv_idiv F.1 F.2.1 hd hne (k H locs ls hP hS hl)
theorem g_idivE (F : Fx p m meth c cc nL rt s args own D) {x y : Int32} (z : Int32) (hd : De cc pc (.idiv) 1 pc1) (hne : ¬ y = 0) (hz : z = x / y) (k : G p l e R s m args below meth c nL D B N cel Q T M pc1 L (.int z :: st)) : G p l e R s m args below meth c nL D B N cel Q T M pc L (.int y :: .int x :: st) := by
  obtain ⟨hd, rfl⟩ := hd
  exact fun H locs ls hP hS hl => lv_idiv F.1 F.2.1 hd hne (hz ▸ (k H locs ls hP hS hl))
theorem g_irem (F : Fx p m meth c cc nL rt s args own D) {x y : Int32} (hd : De cc pc (.irem) 1 pc1) (hne : ¬ y = 0) (k : G p l e R s m args below meth c nL D B N cel Q T M pc1 L (.int (x - x / y * y) :: st)) : G p l e R s m args below meth c nL D B N cel Q T M pc L (.int y :: .int x :: st) := by
  obtain ⟨hd, rfl⟩ := hd
  exact fun H locs ls hP hS hl => lv_irem F.1 F.2.1 hd hne (k H locs ls hP hS hl)
theorem g_iremE (F : Fx p m meth c cc nL rt s args own D) {x y : Int32} (z : Int32) (hd : De cc pc (.irem) 1 pc1) (hne : ¬ y = 0) (hz : z = x - x / y * y) (k : G p l e R s m args below meth c nL D B N cel Q T M pc1 L (.int z :: st)) : G p l e R s m args below meth c nL D B N cel Q T M pc L (.int y :: .int x :: st) := by
  obtain ⟨hd, rfl⟩ := hd
  exact fun H locs ls hP hS hl => lv_irem F.1 F.2.1 hd hne (hz ▸ (k H locs ls hP hS hl))
theorem g_iaddN (F : Fx p m meth c cc nL rt s args own D) {a b : Nat} (hd : De cc pc (.iadd) 1 pc1) (k : G p l e R s m args below meth c nL D B N cel Q T M pc1 L (.int (nI (a + b)) :: st)) : G p l e R s m args below meth c nL D B N cel Q T M pc L (.int (nI b) :: .int (nI a) :: st) := g_iaddE F (nI (a + b)) hd (nI_add a b).symm k
theorem g_iadd0 (F : Fx p m meth c cc nL rt s args own D) {b : Nat} (hd : De cc pc (.iadd) 1 pc1) (k : G p l e R s m args below meth c nL D B N cel Q T M pc1 L (.int (nI b) :: st)) : G p l e R s m args below meth c nL D B N cel Q T M pc L (.int (nI b) :: .int (nI 0) :: st) := g_iaddE F (nI b) hd (by rw [nI_add, Nat.zero_add]) k
theorem g_imulN (F : Fx p m meth c cc nL rt s args own D) {a b : Nat} (hd : De cc pc (.imul) 1 pc1) (k : G p l e R s m args below meth c nL D B N cel Q T M pc1 L (.int (nI (a * b)) :: st)) : G p l e R s m args below meth c nL D B N cel Q T M pc L (.int (nI b) :: .int (nI a) :: st) := g_imulE F (nI (a * b)) hd (pk_mul a b).symm k
theorem g_isubN (F : Fx p m meth c cc nL rt s args own D) {a b : Nat} (hd : De cc pc (.isub) 1 pc1) (h : b ≤ a) (k : G p l e R s m args below meth c nL D B N cel Q T M pc1 L (.int (nI (a - b)) :: st)) : G p l e R s m args below meth c nL D B N cel Q T M pc L (.int (nI b) :: .int (nI a) :: st) := g_isubE F (nI (a - b)) hd (pk_sub h).symm k
theorem g_idivN (F : Fx p m meth c cc nL rt s args own D) {a b : Nat} (hd : De cc pc (.idiv) 1 pc1) (ha : a < 2 ^ 31) (h0 : 0 < b) (hb : b < 2 ^ 31) (k : G p l e R s m args below meth c nL D B N cel Q T M pc1 L (.int (nI (a / b)) :: st)) : G p l e R s m args below meth c nL D B N cel Q T M pc L (.int (nI b) :: .int (nI a) :: st) := g_idivE F (nI (a / b)) hd (nI_ne0 h0 hb) (pk_div ha h0 hb).symm k
theorem g_iremN (F : Fx p m meth c cc nL rt s args own D) {a b : Nat} (hd : De cc pc (.irem) 1 pc1) (ha : a < 2 ^ 31) (h0 : 0 < b) (hb : b < 2 ^ 31) (k : G p l e R s m args below meth c nL D B N cel Q T M pc1 L (.int (nI (a % b)) :: st)) : G p l e R s m args below meth c nL D B N cel Q T M pc L (.int (nI b) :: .int (nI a) :: st) := g_iremE F (nI (a % b)) hd (nI_ne0 h0 hb) (pk_rem ha h0 hb).symm k
theorem g_dup (F : Fx p m meth c cc nL rt s args own D) {v : Value} (hd : De cc pc (.dup) 1 pc1) (hv : v.category = 1) (k : G p l e R s m args below meth c nL D B N cel Q T M pc1 L (v :: v :: st)) : G p l e R s m args below meth c nL D B N cel Q T M pc L (v :: st) := by
  obtain ⟨hd, rfl⟩ := hd
  exact fun H locs ls hP hS hl => lv_dup F.1 F.2.1 hd hv (k H locs ls hP hS hl)
theorem g_pop (F : Fx p m meth c cc nL rt s args own D) {v : Value} (hd : De cc pc (.pop) 1 pc1) (hv : v.category = 1) (k : G p l e R s m args below meth c nL D B N cel Q T M pc1 L st) : G p l e R s m args below meth c nL D B N cel Q T M pc L (v :: st) := by
  obtain ⟨hd, rfl⟩ := hd
  exact fun H locs ls hP hS hl => lv_pop F.1 F.2.1 hd hv (k H locs ls hP hS hl)
theorem g_dup2 (F : Fx p m meth c cc nL rt s args own D) {v w : Value} (hd : De cc pc (.dup2) 1 pc1) (hv : v.category = 1) (hw : w.category = 1) (k : G p l e R s m args below meth c nL D B N cel Q T M pc1 L (v :: w :: v :: w :: st)) : G p l e R s m args below meth c nL D B N cel Q T M pc L (v :: w :: st) := by
  obtain ⟨hd, rfl⟩ := hd
  exact fun H locs ls hP hS hl => lv_dup2_11 F.1 F.2.1 hd hv hw (k H locs ls hP hS hl)
theorem g_if_eq (F : Fx p m meth c cc nL rt s args own D) {x : Int32} {off : Int} (tgt : Nat) (hd : De cc pc (.ifCond .eq off) 3 pc1) (ht : (pc : Int) + off = (tgt : Int)) (kt : x = 0 → G p l e R s m args below meth c nL D B N cel Q T M tgt L st) (kf : ¬ x = 0 → G p l e R s m args below meth c nL D B N cel Q T M pc1 L st) : G p l e R s m args below meth c nL D B N cel Q T M pc L (.int x :: st) := by
  obtain ⟨hd, rfl⟩ := hd
  exact fun H locs ls hP hS hl => lv_if_eq F.1 F.2.1 hd ht (fun h => kt h H locs ls hP hS hl) (fun h => kf h H locs ls hP hS hl)
theorem g_icmp_eq (F : Fx p m meth c cc nL rt s args own D) {x y : Int32} {off : Int} (tgt : Nat) (hd : De cc pc (.if_icmp .eq off) 3 pc1) (ht : (pc : Int) + off = (tgt : Int)) (kt : x = y → G p l e R s m args below meth c nL D B N cel Q T M tgt L st) (kf : ¬ x = y → G p l e R s m args below meth c nL D B N cel Q T M pc1 L st) : G p l e R s m args below meth c nL D B N cel Q T M pc L (.int y :: .int x :: st) := by
  obtain ⟨hd, rfl⟩ := hd
  exact fun H locs ls hP hS hl => lv_icmp_eq F.1 F.2.1 hd ht (fun h => kt h H locs ls hP hS hl) (fun h => kf h H locs ls hP hS hl)
theorem g_if_ne (F : Fx p m meth c cc nL rt s args own D) {x : Int32} {off : Int} (tgt : Nat) (hd : De cc pc (.ifCond .ne off) 3 pc1) (ht : (pc : Int) + off = (tgt : Int)) (kt : ¬ x = 0 → G p l e R s m args below meth c nL D B N cel Q T M tgt L st) (kf : x = 0 → G p l e R s m args below meth c nL D B N cel Q T M pc1 L st) : G p l e R s m args below meth c nL D B N cel Q T M pc L (.int x :: st) := by
  obtain ⟨hd, rfl⟩ := hd
  exact fun H locs ls hP hS hl => lv_if_ne F.1 F.2.1 hd ht (fun h => kt h H locs ls hP hS hl) (fun h => kf h H locs ls hP hS hl)
theorem g_icmp_ne (F : Fx p m meth c cc nL rt s args own D) {x y : Int32} {off : Int} (tgt : Nat) (hd : De cc pc (.if_icmp .ne off) 3 pc1) (ht : (pc : Int) + off = (tgt : Int)) (kt : ¬ x = y → G p l e R s m args below meth c nL D B N cel Q T M tgt L st) (kf : x = y → G p l e R s m args below meth c nL D B N cel Q T M pc1 L st) : G p l e R s m args below meth c nL D B N cel Q T M pc L (.int y :: .int x :: st) := by
  obtain ⟨hd, rfl⟩ := hd
  exact fun H locs ls hP hS hl => lv_icmp_ne F.1 F.2.1 hd ht (fun h => kt h H locs ls hP hS hl) (fun h => kf h H locs ls hP hS hl)
theorem g_if_lt (F : Fx p m meth c cc nL rt s args own D) {x : Int32} {off : Int} (tgt : Nat) (hd : De cc pc (.ifCond .lt off) 3 pc1) (ht : (pc : Int) + off = (tgt : Int)) (kt : x < 0 → G p l e R s m args below meth c nL D B N cel Q T M tgt L st) (kf : ¬ x < 0 → G p l e R s m args below meth c nL D B N cel Q T M pc1 L st) : G p l e R s m args below meth c nL D B N cel Q T M pc L (.int x :: st) := by
  obtain ⟨hd, rfl⟩ := hd
  exact fun H locs ls hP hS hl => lv_if_lt F.1 F.2.1 hd ht (fun h => kt h H locs ls hP hS hl) (fun h => kf h H locs ls hP hS hl)
theorem g_icmp_lt (F : Fx p m meth c cc nL rt s args own D) {x y : Int32} {off : Int} (tgt : Nat) (hd : De cc pc (.if_icmp .lt off) 3 pc1) (ht : (pc : Int) + off = (tgt : Int)) (kt : x < y → G p l e R s m args below meth c nL D B N cel Q T M tgt L st) (kf : ¬ x < y → G p l e R s m args below meth c nL D B N cel Q T M pc1 L st) : G p l e R s m args below meth c nL D B N cel Q T M pc L (.int y :: .int x :: st) := by
  obtain ⟨hd, rfl⟩ := hd
  exact fun H locs ls hP hS hl => lv_icmp_lt F.1 F.2.1 hd ht (fun h => kt h H locs ls hP hS hl) (fun h => kf h H locs ls hP hS hl)
theorem g_if_ge (F : Fx p m meth c cc nL rt s args own D) {x : Int32} {off : Int} (tgt : Nat) (hd : De cc pc (.ifCond .ge off) 3 pc1) (ht : (pc : Int) + off = (tgt : Int)) (kt : 0 ≤ x → G p l e R s m args below meth c nL D B N cel Q T M tgt L st) (kf : ¬ 0 ≤ x → G p l e R s m args below meth c nL D B N cel Q T M pc1 L st) : G p l e R s m args below meth c nL D B N cel Q T M pc L (.int x :: st) := by
  obtain ⟨hd, rfl⟩ := hd
  exact fun H locs ls hP hS hl => lv_if_ge F.1 F.2.1 hd ht (fun h => kt h H locs ls hP hS hl) (fun h => kf h H locs ls hP hS hl)
theorem g_icmp_ge (F : Fx p m meth c cc nL rt s args own D) {x y : Int32} {off : Int} (tgt : Nat) (hd : De cc pc (.if_icmp .ge off) 3 pc1) (ht : (pc : Int) + off = (tgt : Int)) (kt : y ≤ x → G p l e R s m args below meth c nL D B N cel Q T M tgt L st) (kf : ¬ y ≤ x → G p l e R s m args below meth c nL D B N cel Q T M pc1 L st) : G p l e R s m args below meth c nL D B N cel Q T M pc L (.int y :: .int x :: st) := by
  obtain ⟨hd, rfl⟩ := hd
  exact fun H locs ls hP hS hl => lv_icmp_ge F.1 F.2.1 hd ht (fun h => kt h H locs ls hP hS hl) (fun h => kf h H locs ls hP hS hl)
theorem g_if_gt (F : Fx p m meth c cc nL rt s args own D) {x : Int32} {off : Int} (tgt : Nat) (hd : De cc pc (.ifCond .gt off) 3 pc1) (ht : (pc : Int) + off = (tgt : Int)) (kt : 0 < x → G p l e R s m args below meth c nL D B N cel Q T M tgt L st) (kf : ¬ 0 < x → G p l e R s m args below meth c nL D B N cel Q T M pc1 L st) : G p l e R s m args below meth c nL D B N cel Q T M pc L (.int x :: st) := by
  obtain ⟨hd, rfl⟩ := hd
  exact fun H locs ls hP hS hl => lv_if_gt F.1 F.2.1 hd ht (fun h => kt h H locs ls hP hS hl) (fun h => kf h H locs ls hP hS hl)
theorem g_icmp_gt (F : Fx p m meth c cc nL rt s args own D) {x y : Int32} {off : Int} (tgt : Nat) (hd : De cc pc (.if_icmp .gt off) 3 pc1) (ht : (pc : Int) + off = (tgt : Int)) (kt : y < x → G p l e R s m args below meth c nL D B N cel Q T M tgt L st) (kf : ¬ y < x → G p l e R s m args below meth c nL D B N cel Q T M pc1 L st) : G p l e R s m args below meth c nL D B N cel Q T M pc L (.int y :: .int x :: st) := by
  obtain ⟨hd, rfl⟩ := hd
  exact fun H locs ls hP hS hl => lv_icmp_gt F.1 F.2.1 hd ht (fun h => kt h H locs ls hP hS hl) (fun h => kf h H locs ls hP hS hl)
theorem g_if_le (F : Fx p m meth c cc nL rt s args own D) {x : Int32} {off : Int} (tgt : Nat) (hd : De cc pc (.ifCond .le off) 3 pc1) (ht : (pc : Int) + off = (tgt : Int)) (kt : x ≤ 0 → G p l e R s m args below meth c nL D B N cel Q T M tgt L st) (kf : ¬ x ≤ 0 → G p l e R s m args below meth c nL D B N cel Q T M pc1 L st) : G p l e R s m args below meth c nL D B N cel Q T M pc L (.int x :: st) := by
  obtain ⟨hd, rfl⟩ := hd
  exact fun H locs ls hP hS hl => lv_if_le F.1 F.2.1 hd ht (fun h => kt h H locs ls hP hS hl) (fun h => kf h H locs ls hP hS hl)
theorem g_icmp_le (F : Fx p m meth c cc nL rt s args own D) {x y : Int32} {off : Int} (tgt : Nat) (hd : De cc pc (.if_icmp .le off) 3 pc1) (ht : (pc : Int) + off = (tgt : Int)) (kt : x ≤ y → G p l e R s m args below meth c nL D B N cel Q T M tgt L st) (kf : ¬ x ≤ y → G p l e R s m args below meth c nL D B N cel Q T M pc1 L st) : G p l e R s m args below meth c nL D B N cel Q T M pc L (.int y :: .int x :: st) := by
  obtain ⟨hd, rfl⟩ := hd
  exact fun H locs ls hP hS hl => lv_icmp_le F.1 F.2.1 hd ht (fun h => kt h H locs ls hP hS hl) (fun h => kf h H locs ls hP hS hl)
theorem g_icmp_neB1 (F : Fx p m meth c cc nL rt s args own D) {P : Prop} [Decidable P] {off : Int} (tgt : Nat) (hd : De cc pc (.if_icmp .ne off) 3 pc1) (ht : (pc : Int) + off = (tgt : Int)) (kt : ¬ P → G p l e R s m args below meth c nL D B N cel Q T M tgt L st) (kf : P → G p l e R s m args below meth c nL D B N cel Q T M pc1 L st) : G p l e R s m args below meth c nL D B N cel Q T M pc L (.int (nI 1) :: .int (bI P) :: st) := g_icmp_ne F tgt hd ht (fun h => kt (fun q => h (bI_t q))) (fun h => kf (bI_1 h))
theorem g_top {x y : Int32} (h : x = y) (k : G p l e R s m args below meth c nL D B N cel Q T M pc L (.int y :: st)) : G p l e R s m args below meth c nL D B N cel Q T M pc L (.int x :: st) := h ▸ k
theorem g_if_eqN (F : Fx p m meth c cc nL rt s args own D) {a : Nat} {off : Int} (tgt : Nat) (hd : De cc pc (.ifCond .eq off) 3 pc1) (ht : (pc : Int) + off = (tgt : Int)) (ha : a < 2 ^ 31) (kt : a = 0 → G p l e R s m args below meth c nL D B N cel Q T M tgt L st) (kf : ¬ a = 0 → G p l e R s m args below meth c nL D B N cel Q T M pc1 L st) : G p l e R s m args below meth c nL D B N cel Q T M pc L (.int (nI a) :: st) := g_if_eq F tgt hd ht (fun h => kt (by simpa [← nI_0, nI_eq ha (show 0 < 2 ^ 31 by decide)] using h)) (fun h => kf (by simpa [← nI_0, nI_eq ha (show 0 < 2 ^ 31 by decide)] using h))
theorem g_if_eqB (F : Fx p m meth c cc nL rt s args own D) {P : Prop} [Decidable P] {off : Int} (tgt : Nat) (hd : De cc pc (.ifCond .eq off) 3 pc1) (ht : (pc : Int) + off = (tgt : Int)) (kt : ¬ P → G p l e R s m args below meth c nL D B N cel Q T M tgt L st) (kf : P → G p l e R s m args below meth c nL D B N cel Q T M pc1 L st) : G p l e R s m args below meth c nL D B N cel Q T M pc L (.int (bI P) :: st) := g_if_eq F tgt hd ht (fun h => kt (by first | exact bI_0.mp h | exact Decidable.not_not.mp (fun q => h (bI_0.mpr q)))) (fun h => kf (by first | exact bI_0.mp h | exact Decidable.not_not.mp (fun q => h (bI_0.mpr q))))
theorem g_icmp_eqN (F : Fx p m meth c cc nL rt s args own D) {a b : Nat} {off : Int} (tgt : Nat) (hd : De cc pc (.if_icmp .eq off) 3 pc1) (ht : (pc : Int) + off = (tgt : Int)) (ha : a < 2 ^ 31) (hb : b < 2 ^ 31) (kt : a = b → G p l e R s m args below meth c nL D B N cel Q T M tgt L st) (kf : ¬ a = b → G p l e R s m args below meth c nL D B N cel Q T M pc1 L st) : G p l e R s m args below meth c nL D B N cel Q T M pc L (.int (nI b) :: .int (nI a) :: st) := g_icmp_eq F tgt hd ht (fun h => kt (by rwa [nI_eq ha hb] at h)) (fun h => kf (by rwa [nI_eq ha hb] at h))
theorem g_if_neN (F : Fx p m meth c cc nL rt s args own D) {a : Nat} {off : Int} (tgt : Nat) (hd : De cc pc (.ifCond .ne off) 3 pc1) (ht : (pc : Int) + off = (tgt : Int)) (ha : a < 2 ^ 31) (kt : ¬ a = 0 → G p l e R s m args below meth c nL D B N cel Q T M tgt L st) (kf : a = 0 → G p l e R s m args below meth c nL D B N cel Q T M pc1 L st) : G p l e R s m args below meth c nL D B N cel Q T M pc L (.int (nI a) :: st) := g_if_ne F tgt hd ht (fun h => kt (by simpa [← nI_0, nI_eq ha (show 0 < 2 ^ 31 by decide)] using h)) (fun h => kf (by simpa [← nI_0, nI_eq ha (show 0 < 2 ^ 31 by decide)] using h))
theorem g_if_neB (F : Fx p m meth c cc nL rt s args own D) {P : Prop} [Decidable P] {off : Int} (tgt : Nat) (hd : De cc pc (.ifCond .ne off) 3 pc1) (ht : (pc : Int) + off = (tgt : Int)) (kt : P → G p l e R s m args below meth c nL D B N cel Q T M tgt L st) (kf : ¬ P → G p l e R s m args below meth c nL D B N cel Q T M pc1 L st) : G p l e R s m args below meth c nL D B N cel Q T M pc L (.int (bI P) :: st) := g_if_ne F tgt hd ht (fun h => kt (by first | exact bI_0.mp h | exact Decidable.not_not.mp (fun q => h (bI_0.mpr q)))) (fun h => kf (by first | exact bI_0.mp h | exact Decidable.not_not.mp (fun q => h (bI_0.mpr q))))
theorem g_icmp_neN (F : Fx p m meth c cc nL rt s args own D) {a b : Nat} {off : Int} (tgt : Nat) (hd : De cc pc (.if_icmp .ne off) 3 pc1) (ht : (pc : Int) + off = (tgt : Int)) (ha : a < 2 ^ 31) (hb : b < 2 ^ 31) (kt : ¬ a = b → G p l e R s m args below meth c nL D B N cel Q T M tgt L st) (kf : a = b → G p l e R s m args below meth c nL D B N cel Q T M pc1 L st) : G p l e R s m args below meth c nL D B N cel Q T M pc L (.int (nI b) :: .int (nI a) :: st) := g_icmp_ne F tgt hd ht (fun h => kt (by rwa [nI_eq ha hb] at h)) (fun h => kf (by rwa [nI_eq ha hb] at h))
theorem g_icmp_ltN (F : Fx p m meth c cc nL rt s args own D) {a b : Nat} {off : Int} (tgt : Nat) (hd : De cc pc (.if_icmp .lt off) 3 pc1) (ht : (pc : Int) + off = (tgt : Int)) (ha : a < 2 ^ 31) (hb : b < 2 ^ 31) (kt : a < b → G p l e R s m args below meth c nL D B N cel Q T M tgt L st) (kf : ¬ a < b → G p l e R s m args below meth c nL D B N cel Q T M pc1 L st) : G p l e R s m args below meth c nL D B N cel Q T M pc L (.int (nI b) :: .int (nI a) :: st) := g_icmp_lt F tgt hd ht (fun h => kt (by rwa [nI_ltI ha hb] at h)) (fun h => kf (by rwa [nI_ltI ha hb] at h))
theorem g_icmp_geN (F : Fx p m meth c cc nL rt s args own D) {a b : Nat} {off : Int} (tgt : Nat) (hd : De cc pc (.if_icmp .ge off) 3 pc1) (ht : (pc : Int) + off = (tgt : Int)) (ha : a < 2 ^ 31) (hb : b < 2 ^ 31) (kt : b ≤ a → G p l e R s m args below meth c nL D B N cel Q T M tgt L st) (kf : ¬ b ≤ a → G p l e R s m args below meth c nL D B N cel Q T M pc1 L st) : G p l e R s m args below meth c nL D B N cel Q T M pc L (.int (nI b) :: .int (nI a) :: st) := g_icmp_ge F tgt hd ht (fun h => kt (by rwa [nI_leI hb ha] at h)) (fun h => kf (by rwa [nI_leI hb ha] at h))
theorem g_icmp_gtN (F : Fx p m meth c cc nL rt s args own D) {a b : Nat} {off : Int} (tgt : Nat) (hd : De cc pc (.if_icmp .gt off) 3 pc1) (ht : (pc : Int) + off = (tgt : Int)) (ha : a < 2 ^ 31) (hb : b < 2 ^ 31) (kt : b < a → G p l e R s m args below meth c nL D B N cel Q T M tgt L st) (kf : ¬ b < a → G p l e R s m args below meth c nL D B N cel Q T M pc1 L st) : G p l e R s m args below meth c nL D B N cel Q T M pc L (.int (nI b) :: .int (nI a) :: st) := g_icmp_gt F tgt hd ht (fun h => kt (by rwa [nI_ltI hb ha] at h)) (fun h => kf (by rwa [nI_ltI hb ha] at h))
theorem g_icmp_leN (F : Fx p m meth c cc nL rt s args own D) {a b : Nat} {off : Int} (tgt : Nat) (hd : De cc pc (.if_icmp .le off) 3 pc1) (ht : (pc : Int) + off = (tgt : Int)) (ha : a < 2 ^ 31) (hb : b < 2 ^ 31) (kt : a ≤ b → G p l e R s m args below meth c nL D B N cel Q T M tgt L st) (kf : ¬ a ≤ b → G p l e R s m args below meth c nL D B N cel Q T M pc1 L st) : G p l e R s m args below meth c nL D B N cel Q T M pc L (.int (nI b) :: .int (nI a) :: st) := g_icmp_le F tgt hd ht (fun h => kt (by rwa [nI_leI ha hb] at h)) (fun h => kf (by rwa [nI_leI ha hb] at h))
theorem g_goto (F : Fx p m meth c cc nL rt s args own D) {off : Int} (tgt : Nat) (hd : De cc pc (.goto off) 3 pc1) (ht : (pc : Int) + off = (tgt : Int)) (k : G p l e R s m args below meth c nL D B N cel Q T M tgt L st) : G p l e R s m args below meth c nL D B N cel Q T M pc L st := fun H locs ls hP hS hl => lv_goto F.1 F.2.1 hd.1 ht (k H locs ls hP hS hl)
theorem g_tabOut (F : Fx p m meth c cc nL rt s args own D) {dflt lo hi : Int} {offs : Array Int} {len : Nat} {x : Int32} (tgt : Nat) (hd : De cc pc (.tableswitch dflt lo hi offs) len pc1) (h : x.toInt < lo ∨ hi < x.toInt) (ht : (pc : Int) + dflt = (tgt : Int)) (k : G p l e R s m args below meth c nL D B N cel Q T M tgt L st) : G p l e R s m args below meth c nL D B N cel Q T M pc L (.int x :: st) := fun H locs ls hP hS hl => lv_tableOut F.1 F.2.1 hd.1 h ht (k H locs ls hP hS hl)
theorem g_tabIn (F : Fx p m meth c cc nL rt s args own D) {dflt lo hi off : Int} {offs : Array Int} {len : Nat} {x : Int32} (tgt : Nat) (hd : De cc pc (.tableswitch dflt lo hi offs) len pc1) (h1 : ¬ x.toInt < lo) (h2 : ¬ hi < x.toInt) (ho : offs[(x.toInt - lo).toNat]? = some off) (ht : (pc : Int) + off = (tgt : Int)) (k : G p l e R s m args below meth c nL D B N cel Q T M tgt L st) : G p l e R s m args below meth c nL D B N cel Q T M pc L (.int x :: st) := fun H locs ls hP hS hl => lv_tableIn F.1 F.2.1 hd.1 h1 h2 ho ht (k H locs ls hP hS hl)
theorem g_look (F : Fx p m meth c cc nL rt s args own D) {dflt off : Int} {ps : Array (Int × Int)} {len : Nat} {x : Int32} (tgt : Nat) (hd : De cc pc (.lookupswitch dflt ps) len pc1) (hp : (ps.toList.zip (ps.toList.drop 1)).all (fun (a, next) => a.1 < next.1) = true) (ho : Op.lookupswitch.offset ps.toList dflt x.toInt = off) (ht : (pc : Int) + off = (tgt : Int)) (k : G p l e R s m args below meth c nL D B N cel Q T M tgt L st) : G p l e R s m args below meth c nL D B N cel Q T M pc L (.int x :: st) := fun H locs ls hP hS hl => lv_lookup F.1 F.2.1 hd.1 hp ho ht (k H locs ls hP hS hl)
theorem g_sub {L1 : List (Nat × Value)} (ks : List Nat) (hL : lv_pick L ks = L1) (k : G p l e R s m args below meth c nL D B N cel Q T M pc L1 st) : G p l e R s m args below meth c nL D B N cel Q T M pc L st := fun H locs ls hP hS hl => k H locs ls hP hS (lv_sub hl ks hL)
theorem g_mem {M1 : Mem} (hM : M = M1) (k : G p l e R s m args below meth c nL D B N cel Q T M1 pc L st) : G p l e R s m args below meth c nL D B N cel Q T M pc L st := hM ▸ k
theorem g_st {L1 : List (Nat × Value)} {st1 : List Value} {M1 : Mem} (hM : M = M1) (hL : L = L1) (hs : st = st1) (k : G p l e R s m args below meth c nL D B N cel Q T M1 pc L1 st1) : G p l e R s m args below meth c nL D B N cel Q T M pc L st := by subst hM; subst hL; subst hs; exact k
theorem g_get (F : Fx p m meth c cc nL rt s args own D) {ix ci kf a : Nat} {ty : FieldType} {fin : Bool} {fs : List Value} {v : Value} (hf : FA own ix ci kf ty fin) (hd : De cc pc (.getfield ix) 3 pc1) (ha : a < N) (hc : cel T a (M a) = .inr (ci, fs)) (hv : fs[kf]? = some v) (k : G p l e R s m args below meth c nL D B N cel Q T M pc1 L (v :: st)) : G p l e R s m args below meth c nL D B N cel Q T M pc L (.ref (B + a) :: st) := by
  obtain ⟨hd, rfl⟩ := hd
  obtain ⟨C, TT, NN, ty0, h1, h2, h3, h4, h5, h6, h7, h8, h9⟩ := hf
  exact fun H locs ls hP hS hl => va_get F.1 F.2.1 F.2.2.2.2.1 h2 F.2.2.2.1 F.2.2.2.2.2.1 hP a (wl_at ha hc) h1 kf h5 (F.2.2.2.2.1 _ h6) (fun _ h => h) hv hd (k H locs ls hP hS hl)
theorem g_putG (F : Fx p m meth c cc nL rt s args own D) {ix ci kf a : Nat} {ty : FieldType} {fs : List Value} {v : Value} {T1 : Int64} (r : Nat → Int32) (hf : FA own ix ci kf ty false) (hd : De cc pc (.putfield ix) 3 pc1) (ha : a < N) (hc : cel T a (M a) = .inr (ci, fs)) (hl2 : kf < fs.length) (hn : narrow ty v = v) (hfit : fits ty v = true) (hw : cel T1 a r = .inr (ci, fs.set kf v)) (ho : ∀ i, i ≠ a → ∀ r, cel T1 i r = cel T i r) (k : G p l e R s m args below meth c nL D B N cel Q T1 (setR M a r) pc1 L st) : G p l e R s m args below meth c nL D B N cel Q T M pc L (v :: .ref (B + a) :: st) := by
  obtain ⟨hd, rfl⟩ := hd
  obtain ⟨C, TT, NN, ty0, h1, h2, h3, h4, h5, h6, h7, h8, h9⟩ := hf
  exact fun H locs ls hP hS hl => va_put F.1 F.2.1 F.2.2.2.2.1 h2 ty0 h3 h4 F.2.2.2.1 F.2.2.2.2.2.1 hP wl_D hS a (wl_at ha hc) h1 kf h5 (F.2.2.2.2.1 _ h6) (fun _ h => h) h7 h9 hn hfit hl2 hd (fun H1 locs1 hP1 _ hS1 => k H1 locs1 ls (by rw [← wl_setT ha hw ho]; exact hP1) hS1 hl)
theorem g_put (F : Fx p m meth c cc nL rt s args own D) {ix ci kf a : Nat} {ty : FieldType} {fs : List Value} {x : Int32} (hf : FA own ix ci kf ty false) (hd : De cc pc (.putfield ix) 3 pc1) (ha : a < N) (hc : cel T a (M a) = .inr (ci, fs)) (hl2 : kf < fs.length) (hn : narrow ty (.int x) = .int x) (hfit : fits ty (.int x) = true) (hw : cel T a (upd (M a) kf x) = .inr (ci, fs.set kf (.int x))) (k : G p l e R s m args below meth c nL D B N cel Q T (up2 M a kf x) pc1 L st) : G p l e R s m args below meth c nL D B N cel Q T M pc L (.int x :: .ref (B + a) :: st) := g_putG F (upd (M a) kf x) hf hd ha hc hl2 hn hfit hw (fun _ _ _ => rfl) k
theorem g_iald (F : Fx p m meth c cc nL rt s args own D) {a n : Nat} (j : Nat) (hd : De cc pc (.iaload) 1 pc1) (ha : a < N) (hc : cel T a (M a) = .inl (D.2.1, n, .inl (M a))) (hj : j < n) (hn : n < 2 ^ 31) (k : G p l e R s m args below meth c nL D B N cel Q T M pc1 L (.int (M a j) :: st)) : G p l e R s m args below meth c nL D B N cel Q T M pc L (.int (nI j) :: .ref (B + a) :: st) := by
  obtain ⟨hd, rfl⟩ := hd
  intro H locs ls hP hS hl
  refine va_iald F.1 F.2.1 F.2.2.2.2.2.1 hP a 0 (wl_at ha hc) rfl (vp_in_nI hj hn) hd ?_
  rw [nI_clamp (by omega)]
  exact k H locs ls hP hS hl
theorem g_zald (F : Fx p m meth c cc nL rt s args own D) {a n : Nat} (j : Nat) (hd : De cc pc (.baload) 1 pc1) (ha : a < N) (hc : cel T a (M a) = .inl (D.2.2.1, n, .inl (M a))) (hj : j < n) (hn : n < 2 ^ 31) (k : G p l e R s m args below meth c nL D B N cel Q T M pc1 L (.int (M a j) :: st)) : G p l e R s m args below meth c nL D B N cel Q T M pc L (.int (nI j) :: .ref (B + a) :: st) := by
  obtain ⟨hd, rfl⟩ := hd
  intro H locs ls hP hS hl
  refine va_zald F.1 F.2.1 F.2.2.2.2.2.1 hP a 1 (wl_at ha hc) rfl (vp_in_nI hj hn) hd ?_
  rw [nI_clamp (by omega)]
  exact k H locs ls hP hS hl
theorem g_iast (F : Fx p m meth c cc nL rt s args own D) {a n : Nat} {x : Int32} (j : Nat) (hd : De cc pc (.iastore) 1 pc1) (ha : a < N) (hc : ∀ r, cel T a r = .inl (D.2.1, n, .inl r)) (hj : j < n) (hn : n < 2 ^ 31) (k : G p l e R s m args below meth c nL D B N cel Q T (up2 M a j x) pc1 L st) : G p l e R s m args below meth c nL D B N cel Q T M pc L (.int x :: .int (nI j) :: .ref (B + a) :: st) := by
  obtain ⟨hd, rfl⟩ := hd
  intro H locs ls hP hS hl
  refine va_iast F.1 F.2.1 F.2.2.2.2.2.1 hP wl_D hS a 0 (wl_at ha (hc _)) rfl (vp_in_nI hj hn) hd (fun H1 locs1 hP1 _ hS1 => k H1 locs1 ls ?_ hS1 hl)
  rw [nI_clamp (by omega), wl_set ha (hc _)] at hP1
  exact hP1
theorem g_zast (F : Fx p m meth c cc nL rt s args own D) {a n : Nat} {x : Int32} (j : Nat) (hd : De cc pc (.bastore) 1 pc1) (ha : a < N) (hc : ∀ r, cel T a r = .inl (D.2.2.1, n, .inl r)) (hj : j < n) (hn : n < 2 ^ 31) (hx : vp_nar .boolean x = x) (k : G p l e R s m args below meth c nL D B N cel Q T (up2 M a j x) pc1 L st) : G p l e R s m args below meth c nL D B N cel Q T M pc L (.int x :: .int (nI j) :: .ref (B + a) :: st) := by
  obtain ⟨hd, rfl⟩ := hd
  intro H locs ls hP hS hl
  refine va_zast F.1 F.2.1 F.2.2.2.2.2.1 hP wl_D hS a 1 (wl_at ha (hc _)) rfl (vp_in_nI hj hn) hd (fun H1 locs1 hP1 _ hS1 => k H1 locs1 ls ?_ hS1 hl)
  rw [nI_clamp (by omega), hx, wl_set ha (hc _)] at hP1
  exact hP1
theorem g_aald (F : Fx p m meth c cc nL rt s args own D) {a n b : Nat} {f : Nat → Option Nat} (j : Nat) (hd : De cc pc (.aaload) 1 pc1) (ha : a < N) (hc : cel T a (M a) = .inl (D.2.2.2, n, .inr (.inr (.inr (.inr f))))) (hj : j < n) (hn : n < 2 ^ 31) (hb : f j = some b) (k : G p l e R s m args below meth c nL D B N cel Q T M pc1 L (.ref b :: st)) : G p l e R s m args below meth c nL D B N cel Q T M pc L (.int (nI j) :: .ref (B + a) :: st) := by
  obtain ⟨hd, rfl⟩ := hd
  intro H locs ls hP hS hl
  refine va_aldq F.1 F.2.1 F.2.2.2.2.2.1 hP a 2 (wl_at ha hc) rfl (vp_in_nI hj hn) hd ?_
  rw [nI_clamp (by omega), hb]
  exact k H locs ls hP hS hl
theorem g_alen (F : Fx p m meth c cc nL rt s args own D) {a n : Nat} {x : (Nat → Int32) ⊕ (Nat → Int64) ⊕ (Nat → UInt32) ⊕ (Nat → UInt64) ⊕ (Nat → Option Nat)} (hd : De cc pc (.arraylength) 1 pc1) (ha : a < N) (hc : cel T a (M a) = .inl (D.2.1, n, x)) (k : G p l e R s m args below meth c nL D B N cel Q T M pc1 L (.int (nI n) :: st)) : G p l e R s m args below meth c nL D B N cel Q T M pc L (.ref (B + a) :: st) := by
  obtain ⟨hd, rfl⟩ := hd
  exact fun H locs ls hP hS hl => va_alen F.1 F.2.1 F.2.2.2.2.2.1 hP a 0 (wl_at ha hc) rfl rfl hd (k H locs ls hP hS hl)
theorem g_iret {F : Fx p m meth c cc nL (some .int) s args own D} {r : Int32} {post : Int32 → Int64 → Mem → Prop} (hQ : Q = MQ below (va_Qi (Pw3 post) (Bw D B N cel) (Fr B N)) args s 0 0 (Fr B N)) (hd : De cc pc (.ireturn) 1 pc1) (hp : post r T M) : G p l e R s m args below meth c nL D B N cel Q T M pc L [.int r] := by
  subst hQ
  have hlk := F.2.2.2.2.2.2.2
  exact fun H locs ls hP hS hl => W.iret F.1 F.2.1 F.2.2.2.2.2.2.1 (fun t ht hW => ⟨⟨r, (T, M), rfl, hp, by rw [ht]; exact hP, va_K.moved hW.alike F.2.2.2.2.2.1⟩, hS.F ht⟩) hS.2.2 hd.1 hlk
theorem g_lret {F : Fx p m meth c cc nL (some .long) s args own D} {r : Int64} {post : Int64 → Int64 → Mem → Prop} (hQ : Q = MQ below (va_Ql (Pw3 post) (Bw D B N cel) (Fr B N)) args s 0 0 (Fr B N)) (hd : De cc pc (.lreturn) 1 pc1) (hp : post r T M) : G p l e R s m args below meth c nL D B N cel Q T M pc L [.long r] := by
  subst hQ
  have hlk := F.2.2.2.2.2.2.2
  exact fun H locs ls hP hS hl => W.lret F.1 F.2.1 F.2.2.2.2.2.2.1 (fun t ht hW => ⟨⟨r, (T, M), rfl, hp, by rw [ht]; exact hP, va_K.moved hW.alike F.2.2.2.2.2.1⟩, hS.F ht⟩) hS.2.2 hd.1 hlk
theorem g_zret {F : Fx p m meth c cc nL (some .boolean) s args own D} {r : Int32} {post : Int32 → Int64 → Mem → Prop} (hQ : Q = MQ below (va_Qi (Pw3 post) (Bw D B N cel) (Fr B N)) args s 0 0 (Fr B N)) (hd : De cc pc (.ireturn) 1 pc1) (hr : narrow .boolean (.int r) = .int r) (hp : post r T M) : G p l e R s m args below meth c nL D B N cel Q T M pc L [.int r] := by
  subst hQ
  have hlk := F.2.2.2.2.2.2.2
  exact fun H locs ls hP hS hl => W.zret F.1 F.2.1 F.2.2.2.2.2.2.1 hr (fun t ht hW => ⟨⟨r, (T, M), rfl, hp, by rw [ht]; exact hP, va_K.moved hW.alike F.2.2.2.2.2.1⟩, hS.F ht⟩) hS.2.2 hd.1 hlk
theorem g_vret {F : Fx p m meth c cc nL none s args own D} {post : Int64 → Mem → Prop} (hQ : Q = MQ below (va_Qv (Pw2 post) (Bw D B N cel) (Fr B N)) args s 0 0 (Fr B N)) (hd : De cc pc (.return_) 1 pc1) (hp : post T M) : G p l e R s m args below meth c nL D B N cel Q T M pc L [] := by
  subst hQ
  have hlk := F.2.2.2.2.2.2.2
  exact fun H locs ls hP hS hl => W.vret F.1 F.2.1 F.2.2.2.2.2.2.1 (fun t ht hW => ⟨⟨(T, M), rfl, hp, by rw [ht]; exact hP, va_K.moved hW.alike F.2.2.2.2.2.1⟩, hS.F ht⟩) hS.2.2 hd.1 hlk
theorem g_aret {C : String} {F : Fx p m meth c cc nL (some (.object C)) s args own D} {a : Nat} {post : Int64 → Mem → Prop} (hQ : Q = MQ below (va_Qr (Pw2 post) (Bw1 D B N cel a) (Fr B N)) args s 0 0 (Fr B N)) (hd : De cc pc (.areturn) 1 pc1) (hp : post T M) : G p l e R s m args below meth c nL D B N cel Q T M pc L [.ref a] := by
  subst hQ
  have hlk := F.2.2.2.2.2.2.2
  exact fun H locs ls hP hS hl => W.aret F.1 F.2.1 F.2.2.2.2.2.2.1 (Or.inl ⟨_, rfl⟩) (Or.inr ⟨_, rfl⟩) (fun t ht hW => ⟨⟨(T, M), a, rfl, hp, rfl, by rw [ht]; exact hP, va_K.moved hW.alike F.2.2.2.2.2.1⟩, hS.F ht⟩) hS.2.2 hd.1 hlk
theorem g_entryi {y : MethodName} {d : Nat} {av : List Value} {post : Int32 → Int64 → Mem → Prop} (hy : plainName y.cls = true) (hlen : (lg_sl av).length ≤ nL) (hav : lv_args 0 av = L) (k : ∀ (p : Program) (e : Env) (s : State) (m : MethodId) (below : List Frame) (meth : Method) (c : Code) (Q : State → Prop), Fx p m meth c cc nL rt s av.toArray y.cls D → Q = MQ below (va_Qi (Pw3 post) (Bw D B N cel) (Fr B N)) av.toArray s 0 0 (Fr B N) → G p l e { frames := d, cells := 0, slots := 0, locals := 40 * d } s m av.toArray below meth c nL D B N cel Q T M 0 L []) : Ci l D B N cel y cc nL rt d av T M post := by
  refine Met.ofW (cc := cc) (maxL := nL) (ret := rt) hy rfl ?_
  intro p e s m args below meth c s₁ Bd hml hv
  obtain ⟨rfl, hP, hK⟩ := hv
  have hts := atoms_spec (ws := Cond.code y cc nL rt :: gtb) Bd.pre
  have F : Fx p m meth c cc nL rt s av.toArray y.cls D := ⟨Bd.exec, Bd.bytes, hml, findClass_of_methodNamed Bd.named, fun w h => hts w (List.mem_cons_of_mem _ h), hK, Bd.returns, Bd.notSynchronized⟩
  rw [lg_entry_eq]
  have hl := lv_entry av (n := nL) hlen
  rw [hav] at hl
  exact k p e s m below meth c _ F rfl s.heap [] _ hP va_S.rf hl
theorem g_entryl {y : MethodName} {d : Nat} {av : List Value} {post : Int64 → Int64 → Mem → Prop} (hy : plainName y.cls = true) (hlen : (lg_sl av).length ≤ nL) (hav : lv_args 0 av = L) (k : ∀ (p : Program) (e : Env) (s : State) (m : MethodId) (below : List Frame) (meth : Method) (c : Code) (Q : State → Prop), Fx p m meth c cc nL rt s av.toArray y.cls D → Q = MQ below (va_Ql (Pw3 post) (Bw D B N cel) (Fr B N)) av.toArray s 0 0 (Fr B N) → G p l e { frames := d, cells := 0, slots := 0, locals := 40 * d } s m av.toArray below meth c nL D B N cel Q T M 0 L []) : Cl l D B N cel y cc nL rt d av T M post := by
  refine Met.ofW (cc := cc) (maxL := nL) (ret := rt) hy rfl ?_
  intro p e s m args below meth c s₁ Bd hml hv
  obtain ⟨rfl, hP, hK⟩ := hv
  have hts := atoms_spec (ws := Cond.code y cc nL rt :: gtb) Bd.pre
  have F : Fx p m meth c cc nL rt s av.toArray y.cls D := ⟨Bd.exec, Bd.bytes, hml, findClass_of_methodNamed Bd.named, fun w h => hts w (List.mem_cons_of_mem _ h), hK, Bd.returns, Bd.notSynchronized⟩
  rw [lg_entry_eq]
  have hl := lv_entry av (n := nL) hlen
  rw [hav] at hl
  exact k p e s m below meth c _ F rfl s.heap [] _ hP va_S.rf hl
theorem g_entryv {y : MethodName} {d : Nat} {av : List Value} {post : Int64 → Mem → Prop} (hy : plainName y.cls = true) (hlen : (lg_sl av).length ≤ nL) (hav : lv_args 0 av = L) (k : ∀ (p : Program) (e : Env) (s : State) (m : MethodId) (below : List Frame) (meth : Method) (c : Code) (Q : State → Prop), Fx p m meth c cc nL rt s av.toArray y.cls D → Q = MQ below (va_Qv (Pw2 post) (Bw D B N cel) (Fr B N)) av.toArray s 0 0 (Fr B N) → G p l e { frames := d, cells := 0, slots := 0, locals := 40 * d } s m av.toArray below meth c nL D B N cel Q T M 0 L []) : Cv l D B N cel y cc nL rt d av T M post := by
  refine Met.ofW (cc := cc) (maxL := nL) (ret := rt) hy rfl ?_
  intro p e s m args below meth c s₁ Bd hml hv
  obtain ⟨rfl, hP, hK⟩ := hv
  have hts := atoms_spec (ws := Cond.code y cc nL rt :: gtb) Bd.pre
  have F : Fx p m meth c cc nL rt s av.toArray y.cls D := ⟨Bd.exec, Bd.bytes, hml, findClass_of_methodNamed Bd.named, fun w h => hts w (List.mem_cons_of_mem _ h), hK, Bd.returns, Bd.notSynchronized⟩
  rw [lg_entry_eq]
  have hl := lv_entry av (n := nL) hlen
  rw [hav] at hl
  exact k p e s m below meth c _ F rfl s.heap [] _ hP va_S.rf hl
theorem g_entryr {y : MethodName} {d : Nat} {av : List Value} {a : Nat} {post : Int64 → Mem → Prop} (hy : plainName y.cls = true) (hlen : (lg_sl av).length ≤ nL) (hav : lv_args 0 av = L) (k : ∀ (p : Program) (e : Env) (s : State) (m : MethodId) (below : List Frame) (meth : Method) (c : Code) (Q : State → Prop), Fx p m meth c cc nL rt s av.toArray y.cls D → Q = MQ below (va_Qr (Pw2 post) (Bw1 D B N cel a) (Fr B N)) av.toArray s 0 0 (Fr B N) → G p l e { frames := d, cells := 0, slots := 0, locals := 40 * d } s m av.toArray below meth c nL D B N cel Q T M 0 L []) : Cr l D B N cel y cc nL rt d av T M a post := by
  refine Met.ofW (cc := cc) (maxL := nL) (ret := rt) hy rfl ?_
  intro p e s m args below meth c s₁ Bd hml hv
  obtain ⟨rfl, hP, hK⟩ := hv
  have hts := atoms_spec (ws := Cond.code y cc nL rt :: gtb) Bd.pre
  have F : Fx p m meth c cc nL rt s av.toArray y.cls D := ⟨Bd.exec, Bd.bytes, hml, findClass_of_methodNamed Bd.named, fun w h => hts w (List.mem_cons_of_mem _ h), hK, Bd.returns, Bd.notSynchronized⟩
  rw [lg_entry_eq]
  have hl := lv_entry av (n := nL) hlen
  rw [hav] at hl
  exact k p e s m below meth c _ F rfl s.heap [] _ hP va_S.rf hl
theorem g_callVi (F : Fx p m meth c cc nL rt s args own D) {ix ci n a d mL : Nat} {y : MethodName} {ccy : ByteArray} {rty : Option FieldType} {fs As st0 : List Value} {post : Int32 → Int64 → Mem → Prop} (hcv : CV own ix ci y ccy mL rty n) (hd : De cc pc (.invokevirtual ix) 3 pc1) (ha : a < N) (hc : cel T a (M a) = .inr (ci, fs)) (hn : As.length = n) (hst : st0 = As.reverse ++ .ref (B + a) :: st) (hcat : (st.map fun v => v.category).sum ≤ 8) (hR : d + 1 ≤ R.frames ∧ 8 + (mL + 11) + 40 * d ≤ R.locals) (hM : Ci l D B N cel y ccy mL rty d (.ref (B + a) :: As) T M post) (k : ∀ (r : Int32) (T1 : Int64) (M1 : Mem), post r T1 M1 → G p l e R s m args below meth c nL D B N cel Q T1 M1 pc1 L (.int r :: st)) : G p l e R s m args below meth c nL D B N cel Q T M pc L st0 := by
  obtain ⟨hd, rfl⟩ := hd
  subst hst
  obtain ⟨⟨q, hq, hqc⟩, h1, h2, h3, h4, h5, h6⟩ := hcv
  intro H locs ls hP hS hl
  have hb := F.2.2.2.2.1
  refine va_calli (va_runV (As := As) (rest := st) ⟨F.1, F.2.1, F.2.2.1, F.2.2.2.1, hb⟩ hM ⟨callB_of n hb (gtbCode h5) rfl rfl rfl (hb _ h4) (hb _ h1) h6 hR, hb _ h2, hb _ h3⟩ ⟨fun a U g mk q => by obtain ⟨q0, qP, qK⟩ := q; exact ⟨q0, qP, va_K.moved (u := U) (U := U.calling g mk a) (Vm.Alike.refl U.vm) qK⟩, by rw [← hqc]; exact va_recv F.2.2.2.2.2.1 hP hq (wl_at ha hc), fun U hU hW => ⟨rfl, by rw [hU]; exact hP, va_K.moved hW.alike F.2.2.2.2.2.1⟩⟩ rfl hn hl.1 rfl (lv_room hcat) hd ⟨Nat.zero_le _, Nat.zero_le _⟩) hS (fun q _ h => h) (fun q h => h) (fun r u t H1 locs1 ht hvm hw hB _ _ hS1 => k r u.1 u.2 hw H1 locs1 ls (by rw [← ht]; exact hB.1) hS1 hl)
theorem g_callVl (F : Fx p m meth c cc nL rt s args own D) {ix ci n a d mL : Nat} {y : MethodName} {ccy : ByteArray} {rty : Option FieldType} {fs As st0 : List Value} {post : Int64 → Int64 → Mem → Prop} (hcv : CV own ix ci y ccy mL rty n) (hd : De cc pc (.invokevirtual ix) 3 pc1) (ha : a < N) (hc : cel T a (M a) = .inr (ci, fs)) (hn : As.length = n) (hst : st0 = As.reverse ++ .ref (B + a) :: st) (hcat : (st.map fun v => v.category).sum ≤ 8) (hR : d + 1 ≤ R.frames ∧ 8 + (mL + 11) + 40 * d ≤ R.locals) (hM : Cl l D B N cel y ccy mL rty d (.ref (B + a) :: As) T M post) (k : ∀ (r : Int64) (T1 : Int64) (M1 : Mem), post r T1 M1 → G p l e R s m args below meth c nL D B N cel Q T1 M1 pc1 L (.long r :: st)) : G p l e R s m args below meth c nL D B N cel Q T M pc L st0 := by
  obtain ⟨hd, rfl⟩ := hd
  subst hst
  obtain ⟨⟨q, hq, hqc⟩, h1, h2, h3, h4, h5, h6⟩ := hcv
  intro H locs ls hP hS hl
  have hb := F.2.2.2.2.1
  refine va_calll (va_runV (As := As) (rest := st) ⟨F.1, F.2.1, F.2.2.1, F.2.2.2.1, hb⟩ hM ⟨callB_of n hb (gtbCode h5) rfl rfl rfl (hb _ h4) (hb _ h1) h6 hR, hb _ h2, hb _ h3⟩ ⟨fun a U g mk q => by obtain ⟨q0, qP, qK⟩ := q; exact ⟨q0, qP, va_K.moved (u := U) (U := U.calling g mk a) (Vm.Alike.refl U.vm) qK⟩, by rw [← hqc]; exact va_recv F.2.2.2.2.2.1 hP hq (wl_at ha hc), fun U hU hW => ⟨rfl, by rw [hU]; exact hP, va_K.moved hW.alike F.2.2.2.2.2.1⟩⟩ rfl hn hl.1 rfl (lv_room hcat) hd ⟨Nat.zero_le _, Nat.zero_le _⟩) hS (fun q _ h => h) (fun q h => h) (fun r u t H1 locs1 ht hvm hw hB _ _ hS1 => k r u.1 u.2 hw H1 locs1 ls (by rw [← ht]; exact hB.1) hS1 hl)
theorem g_callVv (F : Fx p m meth c cc nL rt s args own D) {ix ci n a d mL : Nat} {y : MethodName} {ccy : ByteArray} {rty : Option FieldType} {fs As st0 : List Value} {post : Int64 → Mem → Prop} (hcv : CV own ix ci y ccy mL rty n) (hd : De cc pc (.invokevirtual ix) 3 pc1) (ha : a < N) (hc : cel T a (M a) = .inr (ci, fs)) (hn : As.length = n) (hst : st0 = As.reverse ++ .ref (B + a) :: st) (hcat : (st.map fun v => v.category).sum ≤ 8) (hR : d + 1 ≤ R.frames ∧ 8 + (mL + 11) + 40 * d ≤ R.locals) (hM : Cv l D B N cel y ccy mL rty d (.ref (B + a) :: As) T M post) (k : ∀ (T1 : Int64) (M1 : Mem), post T1 M1 → G p l e R s m args below meth c nL D B N cel Q T1 M1 pc1 L st) : G p l e R s m args below meth c nL D B N cel Q T M pc L st0 := by
  obtain ⟨hd, rfl⟩ := hd
  subst hst
  obtain ⟨⟨q, hq, hqc⟩, h1, h2, h3, h4, h5, h6⟩ := hcv
  intro H locs ls hP hS hl
  have hb := F.2.2.2.2.1
  refine va_callv (va_runV (As := As) (rest := st) ⟨F.1, F.2.1, F.2.2.1, F.2.2.2.1, hb⟩ hM ⟨callB_of n hb (gtbCode h5) rfl rfl rfl (hb _ h4) (hb _ h1) h6 hR, hb _ h2, hb _ h3⟩ ⟨fun a U g mk q => by obtain ⟨q0, qP, qK⟩ := q; exact ⟨q0, qP, va_K.moved (u := U) (U := U.calling g mk a) (Vm.Alike.refl U.vm) qK⟩, by rw [← hqc]; exact va_recv F.2.2.2.2.2.1 hP hq (wl_at ha hc), fun U hU hW => ⟨rfl, by rw [hU]; exact hP, va_K.moved hW.alike F.2.2.2.2.2.1⟩⟩ rfl hn hl.1 rfl (lv_room hcat) hd ⟨Nat.zero_le _, Nat.zero_le _⟩) hS (fun q _ h => h) (fun q h => h) (fun u t H1 locs1 ht hvm hw hB _ _ hS1 => k u.1 u.2 hw H1 locs1 ls (by rw [← ht]; exact hB.1) hS1 hl)
theorem g_callVr (F : Fx p m meth c cc nL rt s args own D) {ix ci n a d mL : Nat} {y : MethodName} {ccy : ByteArray} {rty : Option FieldType} {fs As st0 : List Value} {a1 : Nat} {post : Int64 → Mem → Prop} (hcv : CV own ix ci y ccy mL rty n) (hd : De cc pc (.invokevirtual ix) 3 pc1) (ha : a < N) (hc : cel T a (M a) = .inr (ci, fs)) (hn : As.length = n) (hst : st0 = As.reverse ++ .ref (B + a) :: st) (hcat : (st.map fun v => v.category).sum ≤ 8) (hR : d + 1 ≤ R.frames ∧ 8 + (mL + 11) + 40 * d ≤ R.locals) (hM : Cr l D B N cel y ccy mL rty d (.ref (B + a) :: As) T M a1 post) (k : ∀ (T1 : Int64) (M1 : Mem), post T1 M1 → G p l e R s m args below meth c nL D B N cel Q T1 M1 pc1 L (.ref a1 :: st)) : G p l e R s m args below meth c nL D B N cel Q T M pc L st0 := by
  obtain ⟨hd, rfl⟩ := hd
  subst hst
  obtain ⟨⟨q, hq, hqc⟩, h1, h2, h3, h4, h5, h6⟩ := hcv
  intro H locs ls hP hS hl
  have hb := F.2.2.2.2.1
  refine va_callr (va_runV (As := As) (rest := st) ⟨F.1, F.2.1, F.2.2.1, F.2.2.2.1, hb⟩ hM ⟨callB_of n hb (gtbCode h5) rfl rfl rfl (hb _ h4) (hb _ h1) h6 hR, hb _ h2, hb _ h3⟩ ⟨fun a U g mk q => by obtain ⟨q0, qP, qK⟩ := q; exact ⟨q0, qP, va_K.moved (u := U) (U := U.calling g mk a) (Vm.Alike.refl U.vm) qK⟩, by rw [← hqc]; exact va_recv F.2.2.2.2.2.1 hP hq (wl_at ha hc), fun U hU hW => ⟨rfl, by rw [hU]; exact hP, va_K.moved hW.alike F.2.2.2.2.2.1⟩⟩ rfl hn hl.1 rfl (lv_room hcat) hd ⟨Nat.zero_le _, Nat.zero_le _⟩) hS (fun q _ h => h) (fun q h => h) (fun u ra t H1 locs1 ht hvm hw hB _ _ hS1 => by obtain ⟨rfl, hB1, hB2⟩ := hB; exact k u.1 u.2 hw H1 locs1 ls (by rw [← ht]; exact hB1) hS1 hl)
theorem g_callSi (F : Fx p m meth c cc nL rt s args own D) {ix n d mL : Nat} {y : MethodName} {ccy : ByteArray} {rty : Option FieldType} {As st0 : List Value} {post : Int32 → Int64 → Mem → Prop} (hcs : CS own ix y ccy mL rty n) (hd : De cc pc (.invokestatic ix) 3 pc1) (hn : As.length = n) (hst : st0 = As.reverse ++ st) (hcat : (st.map fun v => v.category).sum ≤ 8) (hR : d + 1 ≤ R.frames ∧ 8 + (mL + 11) + 40 * d ≤ R.locals) (hM : Ci l D B N cel y ccy mL rty d As T M post) (k : ∀ (r : Int32) (T1 : Int64) (M1 : Mem), post r T1 M1 → G p l e R s m args below meth c nL D B N cel Q T1 M1 pc1 L (.int r :: st)) : G p l e R s m args below meth c nL D B N cel Q T M pc L st0 := by
  obtain ⟨hd, rfl⟩ := hd
  subst hst
  obtain ⟨h1, h2, h4, h5, h6⟩ := hcs
  intro H locs ls hP hS hl
  have hb := F.2.2.2.2.1
  refine va_calli (va_runS (As := As) (rest := st) ⟨F.1, F.2.1, F.2.2.1, F.2.2.2.1, hb⟩ hM ⟨callB_of n hb (gtbCode h5) rfl rfl rfl (hb _ h4) (hb _ h1) h6 hR, hb _ h2⟩ ⟨fun a U g mk q => by obtain ⟨q0, qP, qK⟩ := q; exact ⟨q0, qP, va_K.moved (u := U) (U := U.calling g mk a) (Vm.Alike.refl U.vm) qK⟩, fun U hU hW => ⟨rfl, by rw [hU]; exact hP, va_K.moved hW.alike F.2.2.2.2.2.1⟩⟩ rfl hn hl.1 rfl (lv_room hcat) hd ⟨Nat.zero_le _, Nat.zero_le _⟩) hS (fun q _ h => h) (fun q h => h) (fun r u t H1 locs1 ht hvm hw hB _ _ hS1 => k r u.1 u.2 hw H1 locs1 ls (by rw [← ht]; exact hB.1) hS1 hl)
theorem g_callSv (F : Fx p m meth c cc nL rt s args own D) {ix n d mL : Nat} {y : MethodName} {ccy : ByteArray} {rty : Option FieldType} {As st0 : List Value} {post : Int64 → Mem → Prop} (hcs : CS own ix y ccy mL rty n) (hd : De cc pc (.invokestatic ix) 3 pc1) (hn : As.length = n) (hst : st0 = As.reverse ++ st) (hcat : (st.map fun v => v.category).sum ≤ 8) (hR : d + 1 ≤ R.frames ∧ 8 + (mL + 11) + 40 * d ≤ R.locals) (hM : Cv l D B N cel y ccy mL rty d As T M post) (k : ∀ (T1 : Int64) (M1 : Mem), post T1 M1 → G p l e R s m args below meth c nL D B N cel Q T1 M1 pc1 L st) : G p l e R s m args below meth c nL D B N cel Q T M pc L st0 := by
  obtain ⟨hd, rfl⟩ := hd
  subst hst
  obtain ⟨h1, h2, h4, h5, h6⟩ := hcs
  intro H locs ls hP hS hl
  have hb := F.2.2.2.2.1
  refine va_callv (va_runS (As := As) (rest := st) ⟨F.1, F.2.1, F.2.2.1, F.2.2.2.1, hb⟩ hM ⟨callB_of n hb (gtbCode h5) rfl rfl rfl (hb _ h4) (hb _ h1) h6 hR, hb _ h2⟩ ⟨fun a U g mk q => by obtain ⟨q0, qP, qK⟩ := q; exact ⟨q0, qP, va_K.moved (u := U) (U := U.calling g mk a) (Vm.Alike.refl U.vm) qK⟩, fun U hU hW => ⟨rfl, by rw [hU]; exact hP, va_K.moved hW.alike F.2.2.2.2.2.1⟩⟩ rfl hn hl.1 rfl (lv_room hcat) hd ⟨Nat.zero_le _, Nat.zero_le _⟩) hS (fun q _ h => h) (fun q h => h) (fun u t H1 locs1 ht hvm hw hB _ _ hS1 => k u.1 u.2 hw H1 locs1 ls (by rw [← ht]; exact hB.1) hS1 hl)
end GR
