def nwl : List (String × Nat × MethodName) := [(RX6, 9, yX4_init), (RX4, 21, yX5_init), (RX4, 28, yX2_init), (RX6, 18, yX5_init), (RX6, 25, yX2_init), (RX3, 24, yX2_init), (RX0, 21, yX2_init), (RX6, 46, yX1_init)]
def NA (U : State) : Prop := (∀ q ∈ nwl, va_Nw (.methodLinkNest q.1 q.2.1 q.2.2 "SurprisedMayor") U) ∧ va_AO RX2 U
theorem NA.warm {s U : State} (hW : s.WarmedH U.vm) (h : NA s) : NA U := ⟨fun q hq => va_Nw.warmM hW (h.1 q hq), va_AO.moved hW.alike h.2⟩
theorem NA.same {s U : State} (hv : s.vm = U.vm) (h : NA s) : NA U := ⟨fun q hq => va_Nw.same rfl hv (h.1 q hq), va_AO.moved (by rw [hv]; exact Vm.Alike.refl _) h.2⟩
theorem nwl_ok {args : Array Value} {s : State} (h : ∀ w ∈ lw_tbl, w.before args s = true) : ∀ q ∈ nwl, va_Nw (.methodLinkNest q.1 q.2.1 q.2.2 "SurprisedMayor") s := by
  intro q hq
  have hm : Cond.methodLinkNest q.1 q.2.1 q.2.2 "SurprisedMayor" ∈ lw_tbl := by
    revert q
    show ∀ q ∈ nwl, _
    exact List.forall_mem_cons.mpr ⟨lci_X6_9, List.forall_mem_cons.mpr ⟨lci_X4_21, List.forall_mem_cons.mpr ⟨lci_X4_28, List.forall_mem_cons.mpr ⟨lci_X6_18, List.forall_mem_cons.mpr ⟨lci_X6_25, List.forall_mem_cons.mpr ⟨lci_X3_24, List.forall_mem_cons.mpr ⟨lci_X0_21, List.forall_mem_cons.mpr ⟨lci_X6_46, fun _ h => absurd h List.not_mem_nil⟩⟩⟩⟩⟩⟩⟩⟩
  exact va_Nw.of rfl (h _ hm)
def wE (a : Nat) (E : List va_E) : va_W := E.mapIdx (fun k e => (a + k, e))
theorem wE_get {a k : Nat} {E : List va_E} : (wE a E)[k]? = (E[k]?).map (fun e => (a + k, e)) := by
  unfold wE
  exact List.getElem?_mapIdx ..
theorem wE_at {a k : Nat} {E : List va_E} {e : va_E} (h : E[k]? = some e) : (wE a E)[k]? = some (a + k, e) := by
  rw [wE_get, h]
  rfl
theorem wE_inv {a k : Nat} {E : List va_E} {q : Nat × va_E} (h : (wE a E)[k]? = some q) : q.1 = a + k ∧ k < E.length := by
  rw [wE_get] at h
  obtain ⟨e, h1, rfl⟩ := Option.map_eq_some_iff.mp h
  exact ⟨rfl, (List.getElem?_eq_some_iff.mp h1).1⟩
theorem wE_D {a : Nat} {E : List va_E} : va_D (fun q => a ≤ q) (wE a E) := by
  refine ⟨fun i j p q hp hq he => ?_, fun k q hk => ?_⟩
  · have h1 := (wE_inv hp).1
    have h2 := (wE_inv hq).1
    omega
  · have h1 := (wE_inv hk).1
    show a ≤ q.1
    omega
theorem wE_set {a k : Nat} {E : List va_E} {e : va_E} : (wE a E).set k (a + k, e) = wE a (E.set k e) := by
  apply List.ext_getElem?
  intro i
  rw [wE_get, List.getElem?_set, List.getElem?_set]
  by_cases h : k = i
  · subst h
    rw [if_pos rfl, if_pos rfl]
    have hl : (wE a E).length = E.length := by unfold wE; exact List.length_mapIdx
    rw [hl]
    by_cases c : k < E.length
    · rw [if_pos c, if_pos c]; rfl
    · rw [if_neg c, if_neg c]; rfl
  · rw [if_neg h, if_neg h, wE_get]
theorem wE_app (a : Nat) (E1 E2 : List va_E) : wE a (E1 ++ E2) = wE a E1 ++ wE (a + E1.length) E2 := by
  unfold wE
  rw [List.mapIdx_append]
  congr 1
  congr 1
  funext k e
  rw [Nat.add_assoc, Nat.add_comm k]
theorem va_P_l {D : va_G} {cl : List vw_C} {w1 w2 : va_W} {H : Heap} (h : va_P D cl (w1 ++ w2) H) : va_P D cl w1 H := fun k q hk => h k q (by rw [List.getElem?_append_left (List.getElem?_eq_some_iff.mp hk).1]; exact hk)
theorem va_P_r {D : va_G} {cl : List vw_C} {w1 w2 : va_W} {H : Heap} (h : va_P D cl (w1 ++ w2) H) : va_P D cl w2 H := fun k q hk => h (w1.length + k) q (by rw [List.getElem?_append_right (by omega), show w1.length + k - w1.length = k by omega]; exact hk)
def FC (p : Program) (m : MethodId) (meth : Method) (c : Code) (cc : ByteArray) (nL : Nat) (rt : Option FieldType) (s : State) (args : Array Value) (own : String) (D : DX) (a : Nat) : Prop := Fx p m meth c cc nL rt s args own D ∧ NA s ∧ meth.name = "<init>" ∧ s.heap.size = a + 1
def GC (p : Program) (l : Launch) (e : Env) (R : Room) (s : State) (m : MethodId) (args : Array Value) (below : List Frame) (meth : Method) (c : Code) (nL : Nat) (D : DX) (a : Nat) (Q : State → Prop) (cl sl : Nat) (w : va_W) (z pc : Nat) (L : List (Nat × Value)) (st : List Value) : Prop := ∀ (H : Heap) (locs : List Loc) (ls : Array Slot), va_P D.1 vwCl w H → H.size = a + z → va_S (fun q => a ≤ q) s.heap H locs → lv_has ls nL L → W p l e R s m args below meth c H locs cl sl Q (F0 m pc ls st)
def Bc (D : DX) (a : Nat) (E : List va_E) : Unit → State → Prop := fun _ t => va_P D.1 vwCl (wE a E) t.heap ∧ t.heap.size = a + E.length ∧ KK D t
/-- a constructor's contract: the object at a, the last cell there is; then E1 from a on -/
def CK (l : Launch) (D : DX) (y : MethodName) (cc : ByteArray) (mL d mc ms a : Nat) (o0 : va_E) (E1 : List va_E) : Prop := Met l y (Cond.code y cc mL none :: gtb) { frames := d, cells := mc, slots := ms, locals := 40 * d } (va_Pc [.ref a] (fun U => va_P D.1 vwCl (wE a [o0]) U.heap ∧ U.heap.size = a + 1 ∧ KK D U ∧ NA U)) (va_Qv (fun _ : Unit => True) (Bc D a E1) (fun q => a ≤ q)) mc ms (fun q => a ≤ q)
def NC (own : String) (ix ci : Nat) (n : Nat) (fs : List Value) : Prop := ∃ (C : String) (T : u_T) (ty0 : Nat → FieldType), vwCl[ci]? = some (C, T, n) ∧ (∀ w ∈ u_ws C T n, w ∈ gtb) ∧ (∀ k, k < n → parseFieldDescriptor (T k).2.2.1 = some (ty0 k)) ∧ Cond.classLink own ix C ∈ gtb ∧ Cond.instantiable C n ∈ gtb ∧ Cond.initialized C ∈ gtb ∧ ∀ j, j < n → defaultValue (ty0 j) = vp_V fs j
def aI (D : DX) (n : Nat) : va_E := .inl (D.2.1, n, .inl (fun _ => 0))
def aZ (D : DX) (n : Nat) : va_E := .inl (D.2.2.1, n, .inl (fun _ => 0))
def aQ (D : DX) (n : Nat) (f : Nat → Option Nat) : va_E := .inl (D.2.2.2, n, .inr (.inr (.inr (.inr f))))
def OI (own : String) (ix : Nat) : Prop := Cond.methodLink own ix Lib.objectInit ∈ gtb ∧ Cond.instanceMethod Lib.objectInit ∈ gtb ∧ Cond.code Lib.objectInit ⟨#[0xb1]⟩ 1 none ∈ gtb
theorem oi_X0_3 : OI RX0 3 := ⟨(tw1 154 rfl), (tw1 18 rfl), (tw1 19 rfl)⟩
theorem oi_X1_3 : OI RX1 3 := ⟨(tw1 170 rfl), (tw1 18 rfl), (tw1 19 rfl)⟩
theorem oi_X2_3 : OI RX2 3 := ⟨(tw1 62 rfl), (tw1 18 rfl), (tw1 19 rfl)⟩
theorem oi_X3_3 : OI RX3 3 := ⟨(tw1 134 rfl), (tw1 18 rfl), (tw1 19 rfl)⟩
theorem oi_X4_3 : OI RX4 3 := ⟨(tw1 25 rfl), (tw1 18 rfl), (tw1 19 rfl)⟩
theorem oi_X5_3 : OI RX5 3 := ⟨(tw1 31 rfl), (tw1 18 rfl), (tw1 19 rfl)⟩
theorem oi_X6_1 : OI RX6 1 := ⟨(tw1 17 rfl), (tw1 18 rfl), (tw1 19 rfl)⟩
theorem oi_X7_1 : OI RX7 1 := ⟨(tw3 87 rfl), (tw1 18 rfl), (tw1 19 rfl)⟩
theorem nc_X0_9 : NC RX0 9 2 5 [.int 0, .null, .null, .null, .null] := ⟨RX2, TX2, tyX2, rfl, inC2, tyX2_ok, (tw1 155 rfl), (tw1 58 rfl), (tw1 4 rfl), fun j hj => by
  match j, hj with
  | 0, _ => rfl
  | 1, _ => rfl
  | 2, _ => rfl
  | 3, _ => rfl
  | 4, _ => rfl
  | j + 5, hj => exact absurd hj (by omega)⟩
theorem nc_X3_9 : NC RX3 9 2 5 [.int 0, .null, .null, .null, .null] := ⟨RX2, TX2, tyX2, rfl, inC2, tyX2_ok, (tw1 135 rfl), (tw1 58 rfl), (tw1 4 rfl), fun j hj => by
  match j, hj with
  | 0, _ => rfl
  | 1, _ => rfl
  | 2, _ => rfl
  | 3, _ => rfl
  | 4, _ => rfl
  | j + 5, hj => exact absurd hj (by omega)⟩
theorem nc_X4_19 : NC RX4 19 5 4 [.int 0, .int 0, .int 0, .null] := ⟨RX5, TX5, tyX5, rfl, inC5, tyX5_ok, (tw1 26 rfl), (tw1 27 rfl), (tw1 3 rfl), fun j hj => by
  match j, hj with
  | 0, _ => rfl
  | 1, _ => rfl
  | 2, _ => rfl
  | 3, _ => rfl
  | j + 4, hj => exact absurd hj (by omega)⟩
theorem nc_X4_26 : NC RX4 26 2 5 [.int 0, .null, .null, .null, .null] := ⟨RX2, TX2, tyX2, rfl, inC2, tyX2_ok, (tw1 57 rfl), (tw1 58 rfl), (tw1 4 rfl), fun j hj => by
  match j, hj with
  | 0, _ => rfl
  | 1, _ => rfl
  | 2, _ => rfl
  | 3, _ => rfl
  | 4, _ => rfl
  | j + 5, hj => exact absurd hj (by omega)⟩
theorem nc_X6_7 : NC RX6 7 4 10 [.null, .int 0, .null, .null, .int 0, .int 0, .int 0, .int 0, .int 0, .int 0] := ⟨RX4, TX4, tyX4, rfl, inC4, tyX4_ok, (tw1 20 rfl), (tw1 21 rfl), (tw1 2 rfl), fun j hj => by
  match j, hj with
  | 0, _ => rfl
  | 1, _ => rfl
  | 2, _ => rfl
  | 3, _ => rfl
  | 4, _ => rfl
  | 5, _ => rfl
  | 6, _ => rfl
  | 7, _ => rfl
  | 8, _ => rfl
  | 9, _ => rfl
  | j + 10, hj => exact absurd hj (by omega)⟩
theorem nc_X6_16 : NC RX6 16 5 4 [.int 0, .int 0, .int 0, .null] := ⟨RX5, TX5, tyX5, rfl, inC5, tyX5_ok, (tw1 125 rfl), (tw1 27 rfl), (tw1 3 rfl), fun j hj => by
  match j, hj with
  | 0, _ => rfl
  | 1, _ => rfl
  | 2, _ => rfl
  | 3, _ => rfl
  | j + 4, hj => exact absurd hj (by omega)⟩
theorem nc_X6_23 : NC RX6 23 2 5 [.int 0, .null, .null, .null, .null] := ⟨RX2, TX2, tyX2, rfl, inC2, tyX2_ok, (tw1 127 rfl), (tw1 58 rfl), (tw1 4 rfl), fun j hj => by
  match j, hj with
  | 0, _ => rfl
  | 1, _ => rfl
  | 2, _ => rfl
  | 3, _ => rfl
  | 4, _ => rfl
  | j + 5, hj => exact absurd hj (by omega)⟩
theorem nc_X6_30 : NC RX6 30 3 3 [.null, .int 0, .int 0] := ⟨RX3, TX3, tyX3, rfl, inC3, tyX3_ok, (tw1 129 rfl), (tw1 130 rfl), (tw1 5 rfl), fun j hj => by
  match j, hj with
  | 0, _ => rfl
  | 1, _ => rfl
  | 2, _ => rfl
  | j + 3, hj => exact absurd hj (by omega)⟩
theorem nc_X6_37 : NC RX6 37 0 2 [.null, .null] := ⟨RX0, TX0, tyX0, rfl, inC0, tyX0_ok, (tw1 149 rfl), (tw1 150 rfl), (tw1 6 rfl), fun j hj => by
  match j, hj with
  | 0, _ => rfl
  | 1, _ => rfl
  | j + 2, hj => exact absurd hj (by omega)⟩
theorem nc_X6_44 : NC RX6 44 1 6 [.null, .null, .null, .int 0, .int 0, .int 0] := ⟨RX1, TX1, tyX1, rfl, inC1, tyX1_ok, (tw1 165 rfl), (tw1 166 rfl), (tw1 7 rfl), fun j hj => by
  match j, hj with
  | 0, _ => rfl
  | 1, _ => rfl
  | 2, _ => rfl
  | 3, _ => rfl
  | 4, _ => rfl
  | 5, _ => rfl
  | j + 6, hj => exact absurd hj (by omega)⟩
theorem nc_L_7 : NC RL 7 6 9 [.null, .null, .null, .null, .null, .null, .null, .null, .long 0] := ⟨RX6, TX6, tyX6, rfl, inC6, tyX6_ok, (tw1 12 rfl), (tw1 13 rfl), (tw1 1 rfl), fun j hj => by
  match j, hj with
  | 0, _ => rfl
  | 1, _ => rfl
  | 2, _ => rfl
  | 3, _ => rfl
  | 4, _ => rfl
  | 5, _ => rfl
  | 6, _ => rfl
  | 7, _ => rfl
  | 8, _ => rfl
  | j + 9, hj => exact absurd hj (by omega)⟩
theorem nc_L_10 : NC RL 10 7 24 [.int 0, .long 0, .null, .int 0, .int 0, .int 0, .int 0, .int 0, .int 0, .int 0, .null, .null, .null, .null, .null, .null, .null, .null, .int 0, .null, .null, .null, .int 0, .null] := ⟨RX7, TX7, tyX7, rfl, inC7, tyX7_ok, (tw3 82 rfl), (tw3 83 rfl), (tw1 8 rfl), fun j hj => by
  match j, hj with
  | 0, _ => rfl
  | 1, _ => rfl
  | 2, _ => rfl
  | 3, _ => rfl
  | 4, _ => rfl
  | 5, _ => rfl
  | 6, _ => rfl
  | 7, _ => rfl
  | 8, _ => rfl
  | 9, _ => rfl
  | 10, _ => rfl
  | 11, _ => rfl
  | 12, _ => rfl
  | 13, _ => rfl
  | 14, _ => rfl
  | 15, _ => rfl
  | 16, _ => rfl
  | 17, _ => rfl
  | 18, _ => rfl
  | 19, _ => rfl
  | 20, _ => rfl
  | 21, _ => rfl
  | 22, _ => rfl
  | 23, _ => rfl
  | j + 24, hj => exact absurd hj (by omega)⟩
section GCR
variable {p : Program} {l : Launch} {e : Env} {R : Room} {s : State} {m : MethodId} {args : Array Value} {below : List Frame} {meth : Method} {c : Code} {cc : ByteArray} {nL : Nat} {rt : Option FieldType} {own : String} {D : DX} {a : Nat} {Q : State → Prop} {cl sl : Nat} {w : va_W} {z pc pc1 : Nat} {L : List (Nat × Value)} {st : List Value} {E : List va_E}
theorem gc_iconst (F : FC p m meth c cc nL rt s args own D a) {n : Int} (v : Int32) (hd : De cc pc (.iconst n) 1 pc1) (hv : Int32.ofInt n = v) (k : GC p l e R s m args below meth c nL D a Q cl sl w z pc1 L (.int v :: st)) : GC p l e R s m args below meth c nL D a Q cl sl w z pc L st := by
  obtain ⟨hd, rfl⟩ := hd
  exact fun H locs ls hP hz hS hl => lv_iconst F.1.1 F.1.2.1 hd hv (k H locs ls hP hz hS hl)
theorem gc_bipush (F : FC p m meth c cc nL rt s args own D a) {n : Int} (v : Int32) (hd : De cc pc (.bipush n) 2 pc1) (hv : (Int8.ofInt n).toInt32 = v) (k : GC p l e R s m args below meth c nL D a Q cl sl w z pc1 L (.int v :: st)) : GC p l e R s m args below meth c nL D a Q cl sl w z pc L st := by
  obtain ⟨hd, rfl⟩ := hd
  exact fun H locs ls hP hz hS hl => lv_bipush F.1.1 F.1.2.1 hd hv (k H locs ls hP hz hS hl)
theorem gc_sipush (F : FC p m meth c cc nL rt s args own D a) {n : Int} (v : Int32) (hd : De cc pc (.sipush n) 3 pc1) (hv : (Int16.ofInt n).toInt32 = v) (k : GC p l e R s m args below meth c nL D a Q cl sl w z pc1 L (.int v :: st)) : GC p l e R s m args below meth c nL D a Q cl sl w z pc L st := by
  obtain ⟨hd, rfl⟩ := hd
  exact fun H locs ls hP hz hS hl => lv_sipush F.1.1 F.1.2.1 hd hv (k H locs ls hP hz hS hl)
theorem gc_lconst (F : FC p m meth c cc nL rt s args own D a) {n : Fin 2} (v : Int64) (hd : De cc pc (.lconst n) 1 pc1) (hv : Int64.ofNat (n : Nat) = v) (k : GC p l e R s m args below meth c nL D a Q cl sl w z pc1 L (.long v :: st)) : GC p l e R s m args below meth c nL D a Q cl sl w z pc L st := by
  obtain ⟨hd, rfl⟩ := hd
  exact fun H locs ls hP hz hS hl => lv_lconst F.1.1 F.1.2.1 hd hv (k H locs ls hP hz hS hl)
theorem gc_iload_n (F : FC p m meth c cc nL rt s args own D a) {i : Fin 4} {x : Int32} (q : Nat) (hd : De cc pc (.iload_n i) 1 pc1) (hq : L[q]? = some ((i : Nat), .int x)) (k : GC p l e R s m args below meth c nL D a Q cl sl w z pc1 L (.int x :: st)) : GC p l e R s m args below meth c nL D a Q cl sl w z pc L st := by
  obtain ⟨hd, rfl⟩ := hd
  exact fun H locs ls hP hz hS hl => lv_iload_n F.1.1 F.1.2.1 hd rfl (lv_at hl q hq) (k H locs ls hP hz hS hl)
theorem gc_aload_n (F : FC p m meth c cc nL rt s args own D a) {i : Fin 4} {x : Nat} (q : Nat) (hd : De cc pc (.aload_n i) 1 pc1) (hq : L[q]? = some ((i : Nat), .ref x)) (k : GC p l e R s m args below meth c nL D a Q cl sl w z pc1 L (.ref x :: st)) : GC p l e R s m args below meth c nL D a Q cl sl w z pc L st := by
  obtain ⟨hd, rfl⟩ := hd
  exact fun H locs ls hP hz hS hl => lv_aload_n F.1.1 F.1.2.1 hd rfl (lv_at hl q hq) (k H locs ls hP hz hS hl)
theorem gc_istore_n (F : FC p m meth c cc nL rt s args own D a) {i : Fin 4} {x : Int32} (L1 : List (Nat × Value)) (hd : De cc pc (.istore_n i) 1 pc1) (hn : (i : Nat) < nL) (hL : ((i : Nat), Value.int x) :: L.filter (fun q => !(q.1 == (i : Nat)) && !(q.1 + 1 == (i : Nat) && q.2.category == 2)) = L1) (k : GC p l e R s m args below meth c nL D a Q cl sl w z pc1 L1 st) : GC p l e R s m args below meth c nL D a Q cl sl w z pc L (.int x :: st) := by
  obtain ⟨hd, rfl⟩ := hd
  exact fun H locs ls hP hz hS hl => lv_istore_n F.1.1 F.1.2.1 hd rfl hl hn hL (fun ls hl => k H locs ls hP hz hS hl)
theorem gc_iinc (F : FC p m meth c cc nL rt s args own D a) {i : Nat} {n : Int} {x : Int32} (q : Nat) (v : Int32) (L1 : List (Nat × Value)) (hd : De cc pc (.iinc i n) 3 pc1) (hq : L[q]? = some (i, .int x)) (hv : x + Int32.ofInt n = v) (hn : i < nL) (hL : (i, Value.int v) :: L.filter (fun q => !(q.1 == i) && !(q.1 + 1 == i && q.2.category == 2)) = L1) (k : GC p l e R s m args below meth c nL D a Q cl sl w z pc1 L1 st) : GC p l e R s m args below meth c nL D a Q cl sl w z pc L st := by
  obtain ⟨hd, rfl⟩ := hd
  exact fun H locs ls hP hz hS hl => lv_iinc F.1.1 F.1.2.1 hd hl hq hv hn hL (fun ls hl => k H locs ls hP hz hS hl)
theorem gc_dup (F : FC p m meth c cc nL rt s args own D a) {v : Value} (hd : De cc pc (.dup) 1 pc1) (hv : v.category = 1) (k : GC p l e R s m args below meth c nL D a Q cl sl w z pc1 L (v :: v :: st)) : GC p l e R s m args below meth c nL D a Q cl sl w z pc L (v :: st) := by
  obtain ⟨hd, rfl⟩ := hd
  exact fun H locs ls hP hz hS hl => lv_dup F.1.1 F.1.2.1 hd hv (k H locs ls hP hz hS hl)
theorem gc_goto (F : FC p m meth c cc nL rt s args own D a) {off : Int} (tgt : Nat) (hd : De cc pc (.goto off) 3 pc1) (ht : (pc : Int) + off = (tgt : Int)) (k : GC p l e R s m args below meth c nL D a Q cl sl w z tgt L st) : GC p l e R s m args below meth c nL D a Q cl sl w z pc L st := fun H locs ls hP hz hS hl => lv_goto F.1.1 F.1.2.1 hd.1 ht (k H locs ls hP hz hS hl)
theorem gc_icmp_geN (F : FC p m meth c cc nL rt s args own D a) {x y : Nat} {off : Int} (tgt : Nat) (hd : De cc pc (.if_icmp .ge off) 3 pc1) (ht : (pc : Int) + off = (tgt : Int)) (ha : x < 2 ^ 31) (hb : y < 2 ^ 31) (kt : y ≤ x → GC p l e R s m args below meth c nL D a Q cl sl w z tgt L st) (kf : ¬ y ≤ x → GC p l e R s m args below meth c nL D a Q cl sl w z pc1 L st) : GC p l e R s m args below meth c nL D a Q cl sl w z pc L (.int (nI y) :: .int (nI x) :: st) := by
  obtain ⟨hd, rfl⟩ := hd
  exact fun H locs ls hP hz hS hl => lv_icmp_ge F.1.1 F.1.2.1 hd ht (fun h => kt (by rwa [nI_leI hb ha] at h) H locs ls hP hz hS hl) (fun h => kf (by rwa [nI_leI hb ha] at h) H locs ls hP hz hS hl)
theorem W_sz {p : Program} {l : Launch} {e : Env} {R : Room} {s : State} {m : MethodId} {args : Array Value} {below : List Frame} {meth : Method} {c : Code} {H : Heap} {locs : List Loc} {cl sl : Nat} {Q : State → Prop} {g : JFrame} (k : H.size ≤ s.heap.size + cl → W p l e R s m args below meth c H locs cl sl Q g) : W p l e R s m args below meth c H locs cl sl Q g := by
  intro T hT X
  have h := X.same.2.2.1
  have h2 : (T.setVm s.vm).heap = T.heap := rfl
  rw [h2, hT] at h
  exact k h T hT X
theorem sz_eq {s : State} {D : va_G} {a z cl : Nat} {E : List va_E} {H : Heap} (hs : s.heap.size = a + 1) (hcz : z = cl + 1) (hEl : E.length = z) (hP : va_P D vwCl (wE a E) H) (hu : H.size ≤ s.heap.size + cl) : H.size = a + z := by
  have hlt : z - 1 < E.length := by omega
  have h := (hP (z - 1) _ (wE_at (List.getElem?_eq_getElem hlt))).lt
  have h2 : a + (z - 1) < H.size := h
  omega
theorem gc_objInit (F : FC p m meth c cc nL rt s args own D a) {ix b : Nat} (ho : OI own ix) (hd : De cc pc (.invokespecial ix) 3 pc1) (hf : 1 ≤ R.frames) (hlo : (st.map fun v => v.category).sum + 12 ≤ R.locals) (k : GC p l e R s m args below meth c nL D a Q cl sl w z pc1 L st) : GC p l e R s m args below meth c nL D a Q cl sl w z pc L (.ref b :: st) := by
  obtain ⟨hd, rfl⟩ := hd
  have h5 := F.1.2.2.2.2.1
  exact fun H locs ls hP hz hS hl => W.objInit F.1.1 F.1.2.1 F.1.2.2.2.1 (h5 _ ho.1) (h5 _ ho.2.1) (h5 _ ho.2.2) rfl (hl.1.trans F.1.2.2.1.symm) rfl hd hf (by show 2 * 0 + _ + 12 ≤ _; omega) (k H locs ls hP hz hS hl)
theorem gc_put (F : FC p m meth c cc nL rt s args own D a) {ix ci kf i : Nat} {ty : FieldType} {fs : List Value} {v : Value} (hf : FA own ix ci kf ty false) (hd : De cc pc (.putfield ix) 3 pc1) (he : E[i]? = some (.inr (ci, fs))) (hl2 : kf < fs.length) (hn : narrow ty v = v) (hfit : fits ty v = true) (hEl : E.length = z) (hcz : z = cl + 1) (k : GC p l e R s m args below meth c nL D a Q cl sl (wE a (E.set i (.inr (ci, fs.set kf v)))) z pc1 L st) : GC p l e R s m args below meth c nL D a Q cl sl (wE a E) z pc L (v :: .ref (a + i) :: st) := by
  obtain ⟨hd, rfl⟩ := hd
  obtain ⟨C, TT, NN, ty0, h1, h2, h3, h4, h5, h6, h7, h8, h9⟩ := hf
  exact fun H locs ls hP hz hS hl => va_put F.1.1 F.1.2.1 F.1.2.2.2.2.1 h2 ty0 h3 h4 F.1.2.2.2.1 F.1.2.2.2.2.2.1 hP wE_D hS i (wE_at he) h1 kf h5 (F.1.2.2.2.2.1 _ h6) (fun _ h => h) h7 h9 hn hfit hl2 hd (fun H1 locs1 hP1 _ hS1 => by
    rw [wE_set] at hP1
    exact W_sz (fun hu => k H1 locs1 ls hP1 (sz_eq F.2.2.2 hcz (by rw [List.length_set]; exact hEl) hP1 hu) hS1 hl))
theorem gc_putF (F : FC p m meth c cc nL rt s args own D a) {ix ci kf i : Nat} {ty : FieldType} {fs : List Value} {v : Value} (hf : FA own ix ci kf ty true) (hd : De cc pc (.putfield ix) 3 pc1) (he : E[i]? = some (.inr (ci, fs))) (hl2 : kf < fs.length) (hn : narrow ty v = v) (hfit : fits ty v = true) (ho : ∃ q, vwCl[ci]? = some q ∧ q.1 = own) (hEl : E.length = z) (hcz : z = cl + 1) (k : GC p l e R s m args below meth c nL D a Q cl sl (wE a (E.set i (.inr (ci, fs.set kf v)))) z pc1 L st) : GC p l e R s m args below meth c nL D a Q cl sl (wE a E) z pc L (v :: .ref (a + i) :: st) := by
  obtain ⟨hd, rfl⟩ := hd
  have hoC : ∀ (C : String) (TT : u_T) (NN : Nat), vwCl[ci]? = some (C, TT, NN) → C = own := fun C TT NN h => by
    obtain ⟨q, hq, hq2⟩ := ho
    rw [h] at hq
    cases hq
    exact hq2
  obtain ⟨C, TT, NN, ty0, h1, h2, h3, h4, h5, h6, h7, h8, h9⟩ := hf
  exact fun H locs ls hP hz hS hl => va_putF F.1.1 F.1.2.1 F.1.2.2.2.2.1 h2 ty0 h3 h4 F.1.2.2.2.1 F.1.2.2.2.2.2.1 hP wE_D hS i (wE_at he) h1 kf h5 (F.1.2.2.2.2.1 _ h6) (fun _ h => h) h7 F.2.2.1 (h8.trans (hoC C TT NN h1)) h9 hn hfit hl2 hd (fun H1 locs1 hP1 _ hS1 => by
    rw [wE_set] at hP1
    exact W_sz (fun hu => k H1 locs1 ls hP1 (sz_eq F.2.2.2 hcz (by rw [List.length_set]; exact hEl) hP1 hu) hS1 hl))
theorem sing {D : va_G} {a : Nat} {e : va_E} {H : Heap} (h : va_at D vwCl (a, e) H) : va_P D vwCl (wE a [e]) H := by
  intro k q hk
  obtain ⟨h1, h2⟩ := wE_inv hk
  have hk0 : k = 0 := by simpa using h2
  subst hk0
  rw [wE_at (e := e) rfl] at hk
  cases hk
  exact h
theorem grow {D : va_G} {a z : Nat} {E : List va_E} {e : va_E} {H H1 : Heap} (hEl : E.length = z) (hP : va_P D vwCl (wE a E) H) (hz : H.size = a + z) (o1 : ∀ q : Nat, q < a + z → H1[q]? = H[q]?) (h : va_at D vwCl (a + z, e) H1) : va_P D vwCl (wE a (E ++ [e])) H1 := by
  subst hEl
  rw [wE_app]
  refine va_P.app (hP.kept (fun k q hk => ?_)) (sing h)
  obtain ⟨h1, h2⟩ := wE_inv hk
  exact o1 q.1 (by omega)
theorem gc_newaI (F : FC p m meth c cc nL rt s args own D a) {n : Nat} (hd : De cc pc (.newarray .int) 2 pc1) (hn : n ≤ 5000) (hc : cl + 1 ≤ R.cells) (hs : sl + n ≤ R.slots) (hEl : E.length = z) (k : GC p l e R s m args below meth c nL D a Q (cl + 1) (sl + n) (wE a (E ++ [aI D n])) (z + 1) pc1 L (.ref (a + z) :: st)) : GC p l e R s m args below meth c nL D a Q cl sl (wE a E) z pc L (.int (nI n) :: st) := by
  obtain ⟨hd, rfl⟩ := hd
  intro H locs ls hP hz hS hl
  refine va_newaK F.1.1 F.1.2.1 (atype := .int) (F.1.2.2.2.2.1 (Cond.arrayClass .int) (tw1 56 rfl)) rfl hd rfl (nI_pos (by omega)) (nI_clamp (by omega)) (by show n * componentBytes .int ≤ 536870912; simp only [componentBytes]; omega) hc hs hz (fun H1 cA e1 z1 o1 hAr hNm => ?_)
  have hcA : cA = D.2.1 := Option.some.inj (hNm.symm.trans (F.1.2.2.2.2.2.1.2 0 (D.2.1, .int) rfl).2)
  subst hcA
  exact k H1 locs ls (grow hEl hP hz o1 e1) (by omega) ⟨Nat.le_trans hS.1 (by omega), fun x h1 h2 => (o1 x (by have := hS.1; omega)).trans (hS.2.1 x h1 h2), hS.2.2⟩ hl
theorem gc_newaZ (F : FC p m meth c cc nL rt s args own D a) {n : Nat} (hd : De cc pc (.newarray .boolean) 2 pc1) (hn : n ≤ 5000) (hc : cl + 1 ≤ R.cells) (hs : sl + n ≤ R.slots) (hEl : E.length = z) (k : GC p l e R s m args below meth c nL D a Q (cl + 1) (sl + n) (wE a (E ++ [aZ D n])) (z + 1) pc1 L (.ref (a + z) :: st)) : GC p l e R s m args below meth c nL D a Q cl sl (wE a E) z pc L (.int (nI n) :: st) := by
  obtain ⟨hd, rfl⟩ := hd
  intro H locs ls hP hz hS hl
  refine va_newaK F.1.1 F.1.2.1 (atype := .boolean) (F.1.2.2.2.2.1 (Cond.arrayClass .boolean) (tw1 193 rfl)) rfl hd rfl (nI_pos (by omega)) (nI_clamp (by omega)) (by show n * componentBytes .boolean ≤ 536870912; simp only [componentBytes]; omega) hc hs hz (fun H1 cA e1 z1 o1 hAr hNm => ?_)
  have hcA : cA = D.2.2.1 := Option.some.inj (hNm.symm.trans (F.1.2.2.2.2.2.1.2 1 (D.2.2.1, .boolean) rfl).2)
  subst hcA
  exact k H1 locs ls (grow hEl hP hz o1 e1) (by omega) ⟨Nat.le_trans hS.1 (by omega), fun x h1 h2 => (o1 x (by have := hS.1; omega)).trans (hS.2.1 x h1 h2), hS.2.2⟩ hl
theorem gc_newq (F : FC p m meth c cc nL rt s args own D a) {n ix : Nat} (hw : Cond.classLink own ix RX2 ∈ gtb) (hd : De cc pc (.anewarray ix) 3 pc1) (hn : n ≤ 5000) (hc : cl + 1 ≤ R.cells) (hs : sl + n ≤ R.slots) (hEl : E.length = z) (k : GC p l e R s m args below meth c nL D a Q (cl + 1) (sl + n) (wE a (E ++ [aQ D n (fun _ => none)])) (z + 1) pc1 L (.ref (a + z) :: st)) : GC p l e R s m args below meth c nL D a Q cl sl (wE a E) z pc L (.int (nI n) :: st) := by
  obtain ⟨hd, rfl⟩ := hd
  intro H locs ls hP hz hS hl
  refine W.anew F.1.1 F.1.2.1 F.1.2.2.2.1 (F.1.2.2.2.2.1 _ hw) (va_AO.use F.2.1.2) rfl hd rfl (nI_pos (by omega)) (by rw [nI_clamp (by omega)]; omega) hc (by rw [nI_clamp (by omega)]; exact hs) (fun cA kA comp f1 f2 f3 f4 => ?_)
  have hR := (F.1.2.2.2.2.2.1.2 2 (D.2.2.2, .object RX2) rfl).2
  obtain ⟨kA2, comp2, g1, g2, g3, g4⟩ := hR
  have hcA : cA = D.2.2.2 := Option.some.inj (f1.symm.trans g4)
  subst hcA
  rw [nI_clamp (by omega), hz]
  have o1 : ∀ q : Nat, q < a + z → (H.push ({ cls := D.2.2.2, slots := Array.replicate n .null, vm := .none } : Cell))[q]? = H[q]? := fun q hq => by rw [Array.getElem?_push, if_neg (by omega)]
  have e1 : (H.push ({ cls := D.2.2.2, slots := Array.replicate n .null, vm := .none } : Cell))[a + z]? = some (arrV D.2.2.2 n (fun _ => .null)) := by
    rw [← hz, Array.getElem?_push_size, ← arrV_new]
  have z1 : (H.push ({ cls := D.2.2.2, slots := Array.replicate n .null, vm := .none } : Cell)).size = a + z + 1 := by rw [Array.size_push, hz]
  exact k _ locs ls (grow hEl hP hz o1 (by show _ = some (vp_cell _ _); rw [vp_cell_q]; exact e1)) (by rw [z1, Nat.add_assoc]) ⟨Nat.le_trans hS.1 (by omega), fun x h1 h2 => (o1 x (by have := hS.1; omega)).trans (hS.2.1 x h1 h2), hS.2.2⟩ hl
theorem gc_new (F : FC p m meth c cc nL rt s args own D a) {n ix ci : Nat} {fs : List Value} (hN : NC own ix ci n fs) (hd : De cc pc (.new ix) 3 pc1) (hc : cl + 1 ≤ R.cells) (hs : sl + n ≤ R.slots) (hEl : E.length = z) (k : GC p l e R s m args below meth c nL D a Q (cl + 1) (sl + n) (wE a (E ++ [.inr (ci, fs)])) (z + 1) pc1 L (.ref (a + z) :: st)) : GC p l e R s m args below meth c nL D a Q cl sl (wE a E) z pc L st := by
  obtain ⟨hd, rfl⟩ := hd
  intro H locs ls hP hz hS hl
  obtain ⟨C, T, ty0, h1, h2, h3, h4, h5, h6, h7⟩ := hN
  have hb := F.1.2.2.2.2.1
  have hKn := F.1.2.2.2.2.2.1.1 ci _ h1
  refine W.newcK F.1.1 F.1.2.1 F.1.2.2.2.1 (hb _ h4) (hb _ h5) (hb _ h6) rfl hd hc hs hKn.2.1 hz (fun H1 kC hkC e1 z1 o1 => ?_)
  exact k H1 locs ls (grow hEl hP hz o1 ⟨_, h1, (u_born ty0 hb h2 hKn hkC e1 h3).to h7⟩) (by omega) ⟨Nat.le_trans hS.1 (by omega), fun x h1 h2 => (o1 x (by have := hS.1; omega)).trans (hS.2.1 x h1 h2), hS.2.2⟩ hl
theorem gc_get (F : FC p m meth c cc nL rt s args own D a) {ix ci kf i : Nat} {ty : FieldType} {fin : Bool} {fs : List Value} {v : Value} (hf : FA own ix ci kf ty fin) (hd : De cc pc (.getfield ix) 3 pc1) (he : E[i]? = some (.inr (ci, fs))) (hv : fs[kf]? = some v) (k : GC p l e R s m args below meth c nL D a Q cl sl (wE a E) z pc1 L (v :: st)) : GC p l e R s m args below meth c nL D a Q cl sl (wE a E) z pc L (.ref (a + i) :: st) := by
  obtain ⟨hd, rfl⟩ := hd
  obtain ⟨C, TT, NN, ty0, h1, h2, h3, h4, h5, h6, h7, h8, h9⟩ := hf
  exact fun H locs ls hP hz hS hl => va_get F.1.1 F.1.2.1 F.1.2.2.2.2.1 h2 F.1.2.2.2.1 F.1.2.2.2.2.2.1 hP i (wE_at he) h1 kf h5 (F.1.2.2.2.2.1 _ h6) (fun _ h => h) hv hd (k H locs ls hP hz hS hl)
theorem gc_aast (F : FC p m meth c cc nL rt s args own D a) {n i qk j : Nat} {f : Nat → Option Nat} {vs : List Value} (hd : De cc pc (.aastore) 1 pc1) (he : E[i]? = some (aQ D n f)) (hv : E[qk]? = some (.inr (2, vs))) (hj : j < n) (hn : n < 2 ^ 31) (hEl : E.length = z) (hcz : z = cl + 1) (k : GC p l e R s m args below meth c nL D a Q cl sl (wE a (E.set i (aQ D n (va_up f j (some (a + qk)))))) z pc1 L st) : GC p l e R s m args below meth c nL D a Q cl sl (wE a E) z pc L (.ref (a + qk) :: .int (nI j) :: .ref (a + i) :: st) := by
  obtain ⟨hd, rfl⟩ := hd
  intro H locs ls hP hz hS hl
  refine va_astq F.1.1 F.1.2.1 F.1.2.2.2.2.2.1 hP wE_D hS i 2 qk 2 (r := (RX2, TX2, 5)) (wE_at he) rfl (wE_at hv) rfl (vp_in_nI hj hn) hd (fun H1 locs1 hP1 _ hS1 => ?_)
  rw [nI_clamp (by omega), wE_set] at hP1
  exact W_sz (fun hu => k H1 locs1 ls hP1 (sz_eq F.2.2.2 hcz (by rw [List.length_set]; exact hEl) hP1 hu) hS1 hl)
theorem gc_zast (F : FC p m meth c cc nL rt s args own D a) {n i j : Nat} {f : Nat → Int32} {x : Int32} (hd : De cc pc (.bastore) 1 pc1) (he : E[i]? = some (.inl (D.2.2.1, n, .inl f))) (hj : j < n) (hn : n < 2 ^ 31) (hx : vp_nar .boolean x = x) (hEl : E.length = z) (hcz : z = cl + 1) (k : GC p l e R s m args below meth c nL D a Q cl sl (wE a (E.set i (.inl (D.2.2.1, n, .inl (upd f j x))))) z pc1 L st) : GC p l e R s m args below meth c nL D a Q cl sl (wE a E) z pc L (.int x :: .int (nI j) :: .ref (a + i) :: st) := by
  obtain ⟨hd, rfl⟩ := hd
  intro H locs ls hP hz hS hl
  refine va_zast F.1.1 F.1.2.1 F.1.2.2.2.2.2.1 hP wE_D hS i 1 (wE_at he) rfl (vp_in_nI hj hn) hd (fun H1 locs1 hP1 _ hS1 => ?_)
  rw [nI_clamp (by omega), hx, wE_set] at hP1
  exact W_sz (fun hu => k H1 locs1 ls hP1 (sz_eq F.2.2.2 hcz (by rw [List.length_set]; exact hEl) hP1 hu) hS1 hl)
theorem gc_init (F : FC p m meth c cc nL rt s args own D a) {ix ci d mL mc ms : Nat} {y : MethodName} {ccy : ByteArray} {o0 : va_E} {E1 : List va_E} (hci : CI own ix ci y ccy mL 0) (hlk : Cond.methodLink own ix y ∈ gtb) (hd : De cc pc (.invokespecial ix) 3 pc1) (hEl : E.length = z) (hcat : (st.map fun v => v.category).sum ≤ 8) (hR : d + 1 ≤ R.frames ∧ 8 + (mL + 11) + 40 * d ≤ R.locals) (hc : cl + mc ≤ R.cells) (hs : sl + ms ≤ R.slots) (hM : CK l D y ccy mL d mc ms (a + z) o0 E1) (k : GC p l e R s m args below meth c nL D a Q (cl + mc) (sl + ms) (wE a (E ++ E1)) (z + E1.length) pc1 L st) : GC p l e R s m args below meth c nL D a Q cl sl (wE a (E ++ [o0])) (z + 1) pc L (.ref (a + z) :: st) := by
  obtain ⟨hd, rfl⟩ := hd
  intro H locs ls hP hz hS hl
  obtain ⟨-, h2, h3, h4, h5, h6⟩ := hci
  have hb := F.1.2.2.2.2.1
  rw [wE_app] at hP
  have hPo : va_P D.1 vwCl (wE (a + z) [o0]) H := by
    have := va_P_r hP
    rwa [hEl] at this
  refine va_callv (va_runI (As := []) (rest := st) ⟨F.1.1, F.1.2.1, F.1.2.2.1, F.1.2.2.2.1, hb⟩ hM ⟨callB_of 0 hb (gtbCode h5) rfl rfl rfl (hb _ h4) (hb _ hlk) h6 hR, h3, hb _ h2⟩ ⟨fun a U g mk q => by obtain ⟨q0, qP, qz, qK, qN⟩ := q; exact ⟨q0, qP, qz, va_K.moved (u := U) (U := U.calling g mk a) (Vm.Alike.refl U.vm) qK, NA.same rfl qN⟩, fun U hU hW => ⟨rfl, by rw [hU]; exact hPo, by rw [hU, hz, Nat.add_assoc], va_K.moved hW.alike F.1.2.2.2.2.2.1, NA.warm hW F.2.1⟩⟩ rfl rfl hl.1 rfl (lv_room hcat) hd ⟨hc, hs⟩) hS (fun q _ h => Nat.le_trans (Nat.le_add_right _ _) h) (fun q h => Nat.le_trans (Nat.le_add_right _ _) h) (fun u t H1 locs1 ht hvm hw hB hz1 hk1 hS1 => ?_)
  obtain ⟨b1, b2, b3⟩ := hB
  rw [ht] at b1 b2
  refine k H1 locs1 ls ?_ (by omega) hS1 hl
  rw [wE_app]
  refine va_P.app ((va_P_l hP).kept (fun i q hi => ?_)) (by rw [hEl]; exact b1)
  obtain ⟨g1, g2⟩ := wE_inv hi
  exact hk1 q.1 (by omega) (by omega)
theorem gc_initN (F : FC p m meth c cc nL rt s args own D a) {ix ci d mL mc ms : Nat} {y : MethodName} {ccy : ByteArray} {o0 : va_E} {E1 : List va_E} (hci : CI own ix ci y ccy mL 0) (hlk : (own, ix, y) ∈ nwl) (hd : De cc pc (.invokespecial ix) 3 pc1) (hEl : E.length = z) (hcat : (st.map fun v => v.category).sum ≤ 8) (hR : d + 1 ≤ R.frames ∧ 8 + (mL + 11) + 40 * d ≤ R.locals) (hc : cl + mc ≤ R.cells) (hs : sl + ms ≤ R.slots) (hM : CK l D y ccy mL d mc ms (a + z) o0 E1) (k : GC p l e R s m args below meth c nL D a Q (cl + mc) (sl + ms) (wE a (E ++ E1)) (z + E1.length) pc1 L st) : GC p l e R s m args below meth c nL D a Q cl sl (wE a (E ++ [o0])) (z + 1) pc L (.ref (a + z) :: st) := by
  obtain ⟨hd, rfl⟩ := hd
  intro H locs ls hP hz hS hl
  obtain ⟨-, h2, h3, h4, h5, h6⟩ := hci
  have hb := F.1.2.2.2.2.1
  rw [wE_app] at hP
  have hPo : va_P D.1 vwCl (wE (a + z) [o0]) H := by
    have := va_P_r hP
    rwa [hEl] at this
  refine va_callv (va_runIN (As := []) (rest := st) ⟨F.1.1, F.1.2.1, F.1.2.2.1, F.1.2.2.2.1, hb⟩ hM ⟨va_cnB 0 hb (gtbCode h5) rfl rfl rfl (F.2.1.1 _ hlk) (hb _ h4) h6 hR, h3, hb _ h2⟩ ⟨fun a U g mk q => by obtain ⟨q0, qP, qz, qK, qN⟩ := q; exact ⟨q0, qP, qz, va_K.moved (u := U) (U := U.calling g mk a) (Vm.Alike.refl U.vm) qK, NA.same rfl qN⟩, fun U hU hW => ⟨rfl, by rw [hU]; exact hPo, by rw [hU, hz, Nat.add_assoc], va_K.moved hW.alike F.1.2.2.2.2.2.1, NA.warm hW F.2.1⟩⟩ rfl rfl hl.1 rfl (lv_room hcat) hd ⟨hc, hs⟩) hS (fun q _ h => Nat.le_trans (Nat.le_add_right _ _) h) (fun q h => Nat.le_trans (Nat.le_add_right _ _) h) (fun u t H1 locs1 ht hvm hw hB hz1 hk1 hS1 => ?_)
  obtain ⟨b1, b2, b3⟩ := hB
  rw [ht] at b1 b2
  refine k H1 locs1 ls ?_ (by omega) hS1 hl
  rw [wE_app]
  refine va_P.app ((va_P_l hP).kept (fun i q hi => ?_)) (by rw [hEl]; exact b1)
  obtain ⟨g1, g2⟩ := wE_inv hi
  exact hk1 q.1 (by omega) (by omega)
theorem gc_vret {F : FC p m meth c cc nL none s args own D a} {E1 : List va_E} (hQ : Q = MQ below (va_Qv (fun _ : Unit => True) (Bc D a E1) (fun q => a ≤ q)) args s cl sl (fun q => a ≤ q)) (hEl : E1.length = z) (hd : De cc pc (.return_) 1 pc1) : GC p l e R s m args below meth c nL D a Q cl sl (wE a E1) z pc L [] := by
  subst hQ
  have hlk := F.1.2.2.2.2.2.2.2
  exact fun H locs ls hP hz hS hl => W.vret F.1.1 F.1.2.1 F.1.2.2.2.2.2.2.1 (fun t ht hW => ⟨⟨(), rfl, trivial, by rw [ht]; exact hP, by rw [ht, hz, hEl], va_K.moved hW.alike F.1.2.2.2.2.2.1⟩, hS.F ht⟩) hS.2.2 hd.1 hlk
theorem gc_entry {y : MethodName} {d mc ms : Nat} {o0 : va_E} {E1 : List va_E} (hy : plainName y.cls = true) (hyn : y.name = "<init>") (hlen : 1 ≤ nL) (k : ∀ (p : Program) (e : Env) (s : State) (m : MethodId) (below : List Frame) (meth : Method) (c : Code) (Q : State → Prop), FC p m meth c cc nL none s [Value.ref a].toArray y.cls D a → Q = MQ below (va_Qv (fun _ : Unit => True) (Bc D a E1) (fun q => a ≤ q)) [Value.ref a].toArray s mc ms (fun q => a ≤ q) → GC p l e { frames := d, cells := mc, slots := ms, locals := 40 * d } s m [Value.ref a].toArray below meth c nL D a Q 0 0 (wE a [o0]) 1 0 [(0, .ref a)] []) : CK l D y cc nL d mc ms a o0 E1 := by
  refine Met.ofW (cc := cc) (maxL := nL) (ret := none) hy rfl ?_
  intro p e s m args below meth c s₁ Bd hml hv
  obtain ⟨rfl, hP, hz, hK, hN⟩ := hv
  have hts := atoms_spec (ws := Cond.code y cc nL none :: gtb) Bd.pre
  have F : FC p m meth c cc nL none s [Value.ref a].toArray y.cls D a := ⟨⟨Bd.exec, Bd.bytes, hml, findClass_of_methodNamed Bd.named, fun w h => hts w (List.mem_cons_of_mem _ h), hK, Bd.returns, Bd.notSynchronized⟩, hN, (name_of_methodNamed Bd.named Bd.method).1.trans hyn, hz⟩
  rw [lg_entry_eq]
  have hl := lv_entry [Value.ref a] (n := nL) hlen
  exact k p e s m below meth c _ F rfl s.heap [] _ hP hz va_S.rf hl
theorem gc_cast {w2 : va_W} {z2 cl2 sl2 : Nat} (hw : w = w2) (hz : z = z2) (hc : cl = cl2) (hs : sl = sl2) (k : GC p l e R s m args below meth c nL D a Q cl2 sl2 w2 z2 pc L st) : GC p l e R s m args below meth c nL D a Q cl sl w z pc L st := by
  subst hw; subst hz; subst hc; subst hs; exact k
theorem gc_world {w2 : va_W} (hw : ∀ H, va_P D.1 vwCl w H → va_P D.1 vwCl w2 H) (k : GC p l e R s m args below meth c nL D a Q cl sl w2 z pc L st) : GC p l e R s m args below meth c nL D a Q cl sl w z pc L st := fun H locs ls hP hz hS hl => k H locs ls (hw H hP) hz hS hl
theorem gc_sub {L1 : List (Nat × Value)} (ks : List Nat) (hL : lv_pick L ks = L1) (k : GC p l e R s m args below meth c nL D a Q cl sl w z pc L1 st) : GC p l e R s m args below meth c nL D a Q cl sl w z pc L st := fun H locs ls hP hz hS hl => k H locs ls hP hz hS (lv_sub hl ks hL)
end GCR
