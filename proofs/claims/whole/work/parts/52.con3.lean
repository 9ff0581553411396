def Bl (D : DX) (a : Nat) (w1 : va_W) (z1 : Nat) : Unit → State → Prop := fun _ t => va_P D.1 vwCl w1 t.heap ∧ t.heap.size = a + z1 ∧ KK D t
def CL (l : Launch) (D : DX) (y : MethodName) (cc : ByteArray) (mL d mc ms a : Nat) (o0 : va_E) (w1 : va_W) (z1 : Nat) : Prop := Met l y (Cond.code y cc mL none :: gtb) { frames := d, cells := mc, slots := ms, locals := 40 * d } (va_Pc [.ref a] (fun U => va_P D.1 vwCl (wE a [o0]) U.heap ∧ U.heap.size = a + 1 ∧ KK D U ∧ NA U)) (va_Qv (fun _ : Unit => True) (Bl D a w1 z1) (fun q => a ≤ q)) mc ms (fun q => a ≤ q)
section GCL
variable {p : Program} {l : Launch} {e : Env} {R : Room} {s : State} {m : MethodId} {args : Array Value} {below : List Frame} {meth : Method} {c : Code} {cc : ByteArray} {nL : Nat} {rt : Option FieldType} {own : String} {D : DX} {a : Nat} {Q : State → Prop} {cl sl : Nat} {w : va_W} {z pc pc1 : Nat} {L : List (Nat × Value)} {st : List Value} {E : List va_E}
theorem gc_vretL {F : FC p m meth c cc nL none s args own D a} (hQ : Q = MQ below (va_Qv (fun _ : Unit => True) (Bl D a w z) (fun q => a ≤ q)) args s cl sl (fun q => a ≤ q)) (hd : De cc pc (.return_) 1 pc1) : GC p l e R s m args below meth c nL D a Q cl sl w z pc L [] := by
  subst hQ
  have hlk := F.1.2.2.2.2.2.2.2
  exact fun H locs ls hP hz hS hl => W.vret F.1.1 F.1.2.1 F.1.2.2.2.2.2.2.1 (fun t ht hW => ⟨⟨(), rfl, trivial, by rw [ht]; exact hP, by rw [ht, hz], va_K.moved hW.alike F.1.2.2.2.2.2.1⟩, hS.F ht⟩) hS.2.2 hd.1 hlk
theorem gc_entryL {y : MethodName} {d mc ms z1 : Nat} {o0 : va_E} {w1 : va_W} (hy : plainName y.cls = true) (hyn : y.name = "<init>") (hlen : 1 ≤ nL) (k : ∀ (p : Program) (e : Env) (s : State) (m : MethodId) (below : List Frame) (meth : Method) (c : Code) (Q : State → Prop), FC p m meth c cc nL none s [Value.ref a].toArray y.cls D a → Q = MQ below (va_Qv (fun _ : Unit => True) (Bl D a w1 z1) (fun q => a ≤ q)) [Value.ref a].toArray s mc ms (fun q => a ≤ q) → GC p l e { frames := d, cells := mc, slots := ms, locals := 40 * d } s m [Value.ref a].toArray below meth c nL D a Q 0 0 (wE a [o0]) 1 0 [(0, .ref a)] []) : CL l D y cc nL d mc ms a o0 w1 z1 := by
  refine Met.ofW (cc := cc) (maxL := nL) (ret := none) hy rfl ?_
  intro p e s m args below meth c s₁ Bd hml hv
  obtain ⟨rfl, hP, hz, hK, hN⟩ := hv
  have hts := atoms_spec (ws := Cond.code y cc nL none :: gtb) Bd.pre
  have F : FC p m meth c cc nL none s [Value.ref a].toArray y.cls D a := ⟨⟨Bd.exec, Bd.bytes, hml, findClass_of_methodNamed Bd.named, fun w h => hts w (List.mem_cons_of_mem _ h), hK, Bd.returns, Bd.notSynchronized⟩, hN, (name_of_methodNamed Bd.named Bd.method).1.trans hyn, hz⟩
  rw [lg_entry_eq]
  have hl := lv_entry [Value.ref a] (n := nL) hlen
  exact k p e s m below meth c _ F rfl s.heap [] _ hP hz va_S.rf hl
theorem gc_callV (F : FC p m meth c cc nL rt s args own D a) {ix ci d mL N : Nat} {cel : Cel} {T : Int64} {M : Mem} {y : MethodName} {ccy : ByteArray} {fs : List Value} {post : Int64 → Mem → Prop} (hcv : CV own ix ci y ccy mL none 0) (hd : De cc pc (.invokevirtual ix) 3 pc1) (hN : 0 < N) (hc : cel T 0 (M 0) = .inr (ci, fs)) (hcat : (st.map fun v => v.category).sum ≤ 8) (hR : d + 1 ≤ R.frames ∧ 8 + (mL + 11) + 40 * d ≤ R.locals) (hf : cl + 0 ≤ R.cells ∧ sl + 0 ≤ R.slots) (hcz : z = cl + 1) (hM : Cv l D a N cel y ccy mL none d [.ref (a + 0)] T M post) (k : ∀ (T1 : Int64) (M1 : Mem), post T1 M1 → GC p l e R s m args below meth c nL D a Q (cl + 0) (sl + 0) (wl a N cel T1 M1) z pc1 L st) : GC p l e R s m args below meth c nL D a Q cl sl (wl a N cel T M) z pc L (.ref (a + 0) :: st) := by
  obtain ⟨hd, rfl⟩ := hd
  obtain ⟨⟨q, hq, hqc⟩, h1, h2, h3, h4, h5, h6⟩ := hcv
  intro H locs ls hP hz hS hl
  have hb := F.1.2.2.2.2.1
  refine va_callv (va_runV (As := []) (rest := st) ⟨F.1.1, F.1.2.1, F.1.2.2.1, F.1.2.2.2.1, hb⟩ hM ⟨callB_of 0 hb (gtbCode h5) rfl rfl rfl (hb _ h4) (hb _ h1) h6 hR, hb _ h2, hb _ h3⟩ ⟨fun a U g mk q => by obtain ⟨q0, qP, qK⟩ := q; exact ⟨q0, qP, va_K.moved (u := U) (U := U.calling g mk a) (Vm.Alike.refl U.vm) qK⟩, by rw [← hqc]; exact va_recv F.1.2.2.2.2.2.1 hP hq (wl_at hN hc), fun U hU hW => ⟨rfl, by rw [hU]; exact hP, va_K.moved hW.alike F.1.2.2.2.2.2.1⟩⟩ rfl rfl hl.1 rfl (lv_room hcat) hd hf) hS (fun q _ h => h.1) (fun q h => h.1) (fun u t H1 locs1 ht hvm hw hB hz1 hk1 hS1 => ?_)
  refine W_sz (fun hu => k u.1 u.2 hw H1 locs1 ls (by rw [← ht]; exact hB.1) ?_ hS1 hl)
  have := F.2.2.2
  omega
end GCL
theorem q_conv {D : DX} {a i n : Nat} {E : List va_E} {f g : Nat → Option Nat} {H : Heap} (he : E[i]? = some (aQ D n f)) (hfg : ∀ j, j < n → f j = g j) (hP : va_P D.1 vwCl (wE a E) H) : va_P D.1 vwCl (wE a (E.set i (aQ D n g))) H := by
  intro k q hk
  rw [wE_get, List.getElem?_set] at hk
  by_cases h : i = k
  · subst h
    have hl := (List.getElem?_eq_some_iff.mp he).1
    rw [if_pos rfl, if_pos hl] at hk
    cases hk
    have h1 := hP i _ (wE_at he)
    show H[a + i]? = some (vp_cell D.2.2.2 (n, .inr (.inr (.inr (.inr g)))))
    have h2 : H[a + i]? = some (vp_cell D.2.2.2 (n, .inr (.inr (.inr (.inr f))))) := h1
    rw [h2, vp_cell_q, vp_cell_q]
    exact congrArg some (arrV_congr D.2.2.2 n (fun j hj => by rw [hfg j hj]))
  · rw [if_neg h, ← wE_get] at hk
    exact hP k q hk
theorem wE_range (B N : Nat) (f : Nat → va_E) : wE B ((List.range N).map f) = (List.range N).map (fun k => (B + k, f k)) := by
  apply List.ext_getElem?
  intro i
  rw [wE_get]
  by_cases h : i < N
  · simp [h]
  · rw [List.getElem?_eq_none (by simp; omega), List.getElem?_eq_none (by simp; omega)]
    rfl
theorem textE_len (D : DX) (x : Nat) : (textE D x).length = 9 := rfl
theorem townE_len (D : DX) (x : Nat) : (townE D x).length = 2 := rfl
theorem nowE_len (D : DX) (x : Nat) : (nowE D x).length = 5 := rfl
theorem noteE_len (D : DX) (x : Nat) : (noteE D x).length = 4 := rfl
theorem pastE_len (D : DX) (x : Nat) : (pastE D x).length = 52 := by
  unfold pastE
  rw [List.length_cons, List.length_cons, nowsE_len]
theorem foreE_len (D : DX) (x : Nat) : (foreE D x).length = 23 := by
  unfold foreE
  rw [List.length_cons, List.length_cons, List.length_cons, nowsE_len]
section GCA
variable {p : Program} {l : Launch} {e : Env} {R : Room} {s : State} {m : MethodId} {args : Array Value} {below : List Frame} {meth : Method} {c : Code} {cc : ByteArray} {nL : Nat} {rt : Option FieldType} {own : String} {D : DX} {a : Nat} {Q : State → Prop} {cl sl : Nat} {w : va_W} {z pc pc1 : Nat} {L : List (Nat × Value)} {st : List Value} {E : List va_E}
theorem gc_aastA (F : FC p m meth c cc nL rt s args own D a) {A C : List va_E} {n i qk j j2 : Nat} {f : Nat → Option Nat} {vs : List Value} (hd : De cc pc (.aastore) 1 pc1) (hA : A.length = i) (hC : C[j2]? = some (.inr (2, vs))) (hq : qk = i + 1 + j2) (hj : j < n) (hn : n < 2 ^ 31) (hEl : (A ++ (aQ D n f :: C)).length = z) (hcz : z = cl + 1) (k : GC p l e R s m args below meth c nL D a Q cl sl (wE a (A ++ (aQ D n (va_up f j (some (a + qk))) :: C))) z pc1 L st) : GC p l e R s m args below meth c nL D a Q cl sl (wE a (A ++ (aQ D n f :: C))) z pc L (.ref (a + qk) :: .int (nI j) :: .ref (a + i) :: st) := by
  refine gc_aast F (i := i) (qk := qk) hd (n := n) (f := f) (vs := vs) ?_ ?_ hj hn hEl hcz ?_
  · rw [List.getElem?_append_right (by omega), hA, Nat.sub_self]
    rfl
  · rw [List.getElem?_append_right (by omega), hA, hq, show i + 1 + j2 - i = j2 + 1 by omega, List.getElem?_cons_succ]
    exact hC
  · rw [List.set_append_right _ _ (by omega), hA, Nat.sub_self, List.set_cons_zero]
    exact k
theorem gc_zastA (F : FC p m meth c cc nL rt s args own D a) {A : List va_E} {n i j : Nat} {f : Nat → Int32} {x : Int32} (hd : De cc pc (.bastore) 1 pc1) (hA : A.length = i) (hj : j < n) (hn : n < 2 ^ 31) (hx : vp_nar .boolean x = x) (hEl : (A ++ [(.inl (D.2.2.1, n, .inl f) : va_E)]).length = z) (hcz : z = cl + 1) (k : GC p l e R s m args below meth c nL D a Q cl sl (wE a (A ++ [.inl (D.2.2.1, n, .inl (upd f j x))])) z pc1 L st) : GC p l e R s m args below meth c nL D a Q cl sl (wE a (A ++ [.inl (D.2.2.1, n, .inl f)])) z pc L (.int x :: .int (nI j) :: .ref (a + i) :: st) := by
  refine gc_zast F (i := i) hd (n := n) (f := f) ?_ hj hn hx hEl hcz ?_
  · rw [List.getElem?_append_right (by omega), hA, Nat.sub_self]
    rfl
  · rw [List.set_append_right _ _ (by omega), hA, Nat.sub_self, List.set_cons_zero]
    exact k
end GCA
def mayE (D : DX) (a : Nat) : List va_E := (((.inr (6, [.ref (a + 1), .ref (a + 10), .ref (a + 12), .ref (a + 17), .ref (a + 69), .ref (a + 92), .ref (a + 96), .ref (a + 107), .long 0]) :: (((((textE D (a + 1) ++ townE D (a + 10)) ++ nowE D (a + 12)) ++ pastE D (a + 17)) ++ foreE D (a + 69)) ++ noteE D (a + 92))) ++ (aQ D 2 (va_up (va_up (fun _ => none) 0 (some (a + 97))) 1 (some (a + 102))) :: (nowE D (a + 97) ++ nowE D (a + 102)))) ++ [aZ D 2])
def r0 : Nat → Int32 := fun _ => 0
def rN : Nat → Int32 := fun j => if j = 0 then -9 else 0
def rT : Nat → Int32 := fun j => if j = 0 then nI 3 else if j = 1 then nI 2 else 0
def rX : Nat → Int32 := fun j => if j = 8 then nI 258 else 0
def rB : Nat → Int32 := fun j => if j = 5 then nI 99 else 0
def rwC : List (Nat → Int32) := [r0, rX, r0, rT, r0, rN, r0, r0, r0, r0, rT, r0, rN, r0, r0, r0, r0, r0, r0, rN, r0, r0, r0, r0, rN, r0, r0, r0, r0, rN, r0, r0, r0, r0, rN, r0, r0, r0, r0, rN, r0, r0, r0, r0, rN, r0, r0, r0, r0, rN, r0, r0, r0, r0, rN, r0, r0, r0, r0, rN, r0, r0, r0, r0, rN, r0, r0, r0, r0, r0, r0, r0, rN, r0, r0, r0, r0, rN, r0, r0, r0, r0, rN, r0, r0, r0, r0, rN, r0, r0, r0, r0, rB, r0, r0, r0, r0, rN, r0, r0, r0, r0, rN, r0, r0, r0, r0, r0]
def M0c : Mem := fun k => rwC.getD k r0
def M0m : Mem := fun _ _ => 0
set_option maxRecDepth 100000 in
set_option maxHeartbeats 4000000 in
theorem mayE_eq (D : DX) (a : Nat) : (((mayE D a).set 18 (aQ D 10 (fun j => some (a + (19 + 5 * j))))).set 70 (aQ D 4 (fun j => some (a + (72 + 5 * j))))).set 96 (aQ D 2 (fun j => some (a + (97 + 5 * j)))) = (List.range 108).map (fun k => celC D a 0 k (M0c k)) := rfl
set_option maxRecDepth 100000 in
set_option maxHeartbeats 4000000 in
theorem mayE_wl {D : DX} {a : Nat} {H : Heap} (hP : va_P D.1 vwCl (wE a (mayE D a)) H) : va_P D.1 vwCl (wl a 108 (celC D a) 0 M0c) H := by
  have h1 := q_conv (i := 18) (g := fun j => some (a + (19 + 5 * j))) rfl (fun j hj => by
    show fI (a + 17 + 2) 10 j = _
    unfold fI
    rw [if_pos hj, show a + 17 + 2 + 5 * j = a + (19 + 5 * j) by omega]) hP
  have h2 := q_conv (i := 70) (n := 4) (f := fI (a + 69 + 3) 4) (g := fun j => some (a + (72 + 5 * j))) rfl (fun j hj => by
    unfold fI
    rw [if_pos hj, show a + 69 + 3 + 5 * j = a + (72 + 5 * j) by omega]) h1
  have h3 := q_conv (i := 96) (n := 2) (f := va_up (va_up (fun _ => none) 0 (some (a + 97))) 1 (some (a + 102))) (g := fun j => some (a + (97 + 5 * j))) rfl (fun j hj => by
    rcases (show j = 0 ∨ j = 1 by omega) with rfl | rfl <;> rfl) h2
  rw [mayE_eq, wE_range] at h3
  exact h3
set_option maxRecDepth 100000 in
set_option maxHeartbeats 4000000 in
theorem k_X6_init (l : Launch) (D : DX) (a : Nat) : CL l D yX6_init cX6_init 1 3 107 948 a (.inr (6, [.null, .null, .null, .null, .null, .null, .null, .null, .long 0])) (wl a 108 (celC D a) 0 M0c) 108 := by
  refine gc_entryL (by decide) rfl (by decide) ?_
  intro p e s m below meth c Q F hQ
  refine gc_aload_n F 0 (dk dtX6_init_0 0 rfl) rfl ?_
  refine gc_objInit F oi_X6_1 (dk dtX6_init_0 1 rfl) (by decide) (by decide) ?_
  refine gc_aload_n F 0 (dk dtX6_init_0 2 rfl) rfl ?_
  refine gc_new F (E := (.inr (6, [.null, .null, .null, .null, .null, .null, .null, .null, .long 0]) :: [])) nc_X6_7 (dk dtX6_init_0 3 rfl) (Nat.le_of_ble_eq_true rfl) (Nat.le_of_ble_eq_true rfl) (by simp only [List.length_cons, List.length_append, List.length_nil, textE_len, townE_len, nowE_len, noteE_len, pastE_len, foreE_len]) ?_
  refine gc_dup F (dk dtX6_init_0 4 rfl) rfl ?_
  refine gc_initN F (E := (.inr (6, [.null, .null, .null, .null, .null, .null, .null, .null, .long 0]) :: [])) ci_X6_9 (List.mem_of_getElem? (i := 0) rfl) (dk dtX6_init_0 5 rfl) (by simp only [List.length_cons, List.length_append, List.length_nil, textE_len, townE_len, nowE_len, noteE_len, pastE_len, foreE_len]) (Nat.le_of_ble_eq_true rfl) ⟨by decide, by decide⟩ (Nat.le_of_ble_eq_true rfl) (Nat.le_of_ble_eq_true rfl) (k_X4_init l D (a + 1)) ?_
  refine gc_cast (w2 := wE a (.inr (6, [.null, .null, .null, .null, .null, .null, .null, .null, .long 0]) :: textE D (a + 1))) (z2 := 10) (cl2 := 9) (sl2 := 209) rfl (by rw [textE_len]) rfl rfl ?_
  refine gc_putF F (i := 0) (E := (.inr (6, [.null, .null, .null, .null, .null, .null, .null, .null, .long 0]) :: textE D (a + 1))) fa_X6_10 (dk dtX6_init_0 6 rfl) rfl (Nat.le_of_ble_eq_true rfl) rfl rfl ⟨_, rfl, rfl⟩ (by simp only [List.length_cons, List.length_append, List.length_nil, textE_len, townE_len, nowE_len, noteE_len, pastE_len, foreE_len]) rfl ?_
  refine gc_cast (w2 := wE a (.inr (6, [.ref (a + 1), .null, .null, .null, .null, .null, .null, .null, .long 0]) :: textE D (a + 1))) (z2 := 10) (cl2 := 9) (sl2 := 209) rfl rfl rfl rfl ?_
  refine gc_aload_n F 0 (dk dtX6_init_0 7 rfl) rfl ?_
  refine gc_new F (E := (.inr (6, [.ref (a + 1), .null, .null, .null, .null, .null, .null, .null, .long 0]) :: textE D (a + 1))) nc_X6_16 (dk dtX6_init_0 8 rfl) (Nat.le_of_ble_eq_true rfl) (Nat.le_of_ble_eq_true rfl) (by simp only [List.length_cons, List.length_append, List.length_nil, textE_len, townE_len, nowE_len, noteE_len, pastE_len, foreE_len]) ?_
  refine gc_dup F (dk dtX6_init_0 9 rfl) rfl ?_
  refine gc_initN F (E := (.inr (6, [.ref (a + 1), .null, .null, .null, .null, .null, .null, .null, .long 0]) :: textE D (a + 1))) ci_X6_18 (List.mem_of_getElem? (i := 3) rfl) (dk dtX6_init_0 10 rfl) (by simp only [List.length_cons, List.length_append, List.length_nil, textE_len, townE_len, nowE_len, noteE_len, pastE_len, foreE_len]) (Nat.le_of_ble_eq_true rfl) ⟨by decide, by decide⟩ (Nat.le_of_ble_eq_true rfl) (Nat.le_of_ble_eq_true rfl) (k_X5_init l D (a + 10)) ?_
  refine gc_cast (w2 := wE a (.inr (6, [.ref (a + 1), .null, .null, .null, .null, .null, .null, .null, .long 0]) :: (textE D (a + 1) ++ townE D (a + 10)))) (z2 := 12) (cl2 := 11) (sl2 := 218) rfl (by rw [townE_len]) rfl rfl ?_
  refine gc_putF F (i := 0) (E := (.inr (6, [.ref (a + 1), .null, .null, .null, .null, .null, .null, .null, .long 0]) :: (textE D (a + 1) ++ townE D (a + 10)))) fa_X6_19 (dk dtX6_init_0 11 rfl) rfl (Nat.le_of_ble_eq_true rfl) rfl rfl ⟨_, rfl, rfl⟩ (by simp only [List.length_cons, List.length_append, List.length_nil, textE_len, townE_len, nowE_len, noteE_len, pastE_len, foreE_len]) rfl ?_
  refine gc_cast (w2 := wE a (.inr (6, [.ref (a + 1), .ref (a + 10), .null, .null, .null, .null, .null, .null, .long 0]) :: (textE D (a + 1) ++ townE D (a + 10)))) (z2 := 12) (cl2 := 11) (sl2 := 218) rfl rfl rfl rfl ?_
  refine gc_aload_n F 0 (dk dtX6_init_0 12 rfl) rfl ?_
  refine gc_new F (E := (.inr (6, [.ref (a + 1), .ref (a + 10), .null, .null, .null, .null, .null, .null, .long 0]) :: (textE D (a + 1) ++ townE D (a + 10)))) nc_X6_23 (dk dtX6_init_0 13 rfl) (Nat.le_of_ble_eq_true rfl) (Nat.le_of_ble_eq_true rfl) (by simp only [List.length_cons, List.length_append, List.length_nil, textE_len, townE_len, nowE_len, noteE_len, pastE_len, foreE_len]) ?_
  refine gc_dup F (dk dtX6_init_0 14 rfl) rfl ?_
  refine gc_initN F (E := (.inr (6, [.ref (a + 1), .ref (a + 10), .null, .null, .null, .null, .null, .null, .long 0]) :: (textE D (a + 1) ++ townE D (a + 10)))) ci_X6_25 (List.mem_of_getElem? (i := 4) rfl) (dk dtX6_init_0 15 rfl) (by simp only [List.length_cons, List.length_append, List.length_nil, textE_len, townE_len, nowE_len, noteE_len, pastE_len, foreE_len]) (Nat.le_of_ble_eq_true rfl) ⟨by decide, by decide⟩ (Nat.le_of_ble_eq_true rfl) (Nat.le_of_ble_eq_true rfl) (k_X2_init l D (a + 12)) ?_
  refine gc_cast (w2 := wE a (.inr (6, [.ref (a + 1), .ref (a + 10), .null, .null, .null, .null, .null, .null, .long 0]) :: ((textE D (a + 1) ++ townE D (a + 10)) ++ nowE D (a + 12)))) (z2 := 17) (cl2 := 16) (sl2 := 258) rfl (by rw [nowE_len]) rfl rfl ?_
  refine gc_putF F (i := 0) (E := (.inr (6, [.ref (a + 1), .ref (a + 10), .null, .null, .null, .null, .null, .null, .long 0]) :: ((textE D (a + 1) ++ townE D (a + 10)) ++ nowE D (a + 12)))) fa_X6_26 (dk dtX6_init_0 16 rfl) rfl (Nat.le_of_ble_eq_true rfl) rfl rfl ⟨_, rfl, rfl⟩ (by simp only [List.length_cons, List.length_append, List.length_nil, textE_len, townE_len, nowE_len, noteE_len, pastE_len, foreE_len]) rfl ?_
  refine gc_cast (w2 := wE a (.inr (6, [.ref (a + 1), .ref (a + 10), .ref (a + 12), .null, .null, .null, .null, .null, .long 0]) :: ((textE D (a + 1) ++ townE D (a + 10)) ++ nowE D (a + 12)))) (z2 := 17) (cl2 := 16) (sl2 := 258) rfl rfl rfl rfl ?_
  refine gc_aload_n F 0 (dk dtX6_init_0 17 rfl) rfl ?_
  refine gc_new F (E := (.inr (6, [.ref (a + 1), .ref (a + 10), .ref (a + 12), .null, .null, .null, .null, .null, .long 0]) :: ((textE D (a + 1) ++ townE D (a + 10)) ++ nowE D (a + 12)))) nc_X6_30 (dk dtX6_init_0 18 rfl) (Nat.le_of_ble_eq_true rfl) (Nat.le_of_ble_eq_true rfl) (by simp only [List.length_cons, List.length_append, List.length_nil, textE_len, townE_len, nowE_len, noteE_len, pastE_len, foreE_len]) ?_
  refine gc_dup F (dk dtX6_init_0 19 rfl) rfl ?_
  refine gc_init F (E := (.inr (6, [.ref (a + 1), .ref (a + 10), .ref (a + 12), .null, .null, .null, .null, .null, .long 0]) :: ((textE D (a + 1) ++ townE D (a + 10)) ++ nowE D (a + 12)))) ci_X6_32 lci_X6_32 (dk dtX6_init_0 20 rfl) (by simp only [List.length_cons, List.length_append, List.length_nil, textE_len, townE_len, nowE_len, noteE_len, pastE_len, foreE_len]) (Nat.le_of_ble_eq_true rfl) ⟨by decide, by decide⟩ (Nat.le_of_ble_eq_true rfl) (Nat.le_of_ble_eq_true rfl) (k_X3_init l D (a + 17)) ?_
  refine gc_cast (w2 := wE a (.inr (6, [.ref (a + 1), .ref (a + 10), .ref (a + 12), .null, .null, .null, .null, .null, .long 0]) :: (((textE D (a + 1) ++ townE D (a + 10)) ++ nowE D (a + 12)) ++ pastE D (a + 17)))) (z2 := 69) (cl2 := 68) (sl2 := 671) rfl (by rw [pastE_len]) rfl rfl ?_
  refine gc_putF F (i := 0) (E := (.inr (6, [.ref (a + 1), .ref (a + 10), .ref (a + 12), .null, .null, .null, .null, .null, .long 0]) :: (((textE D (a + 1) ++ townE D (a + 10)) ++ nowE D (a + 12)) ++ pastE D (a + 17)))) fa_X6_33 (dk dtX6_init_0 21 rfl) rfl (Nat.le_of_ble_eq_true rfl) rfl rfl ⟨_, rfl, rfl⟩ (by simp only [List.length_cons, List.length_append, List.length_nil, textE_len, townE_len, nowE_len, noteE_len, pastE_len, foreE_len]) rfl ?_
  refine gc_cast (w2 := wE a (.inr (6, [.ref (a + 1), .ref (a + 10), .ref (a + 12), .ref (a + 17), .null, .null, .null, .null, .long 0]) :: (((textE D (a + 1) ++ townE D (a + 10)) ++ nowE D (a + 12)) ++ pastE D (a + 17)))) (z2 := 69) (cl2 := 68) (sl2 := 671) rfl rfl rfl rfl ?_
  refine gc_aload_n F 0 (dk dtX6_init_0 22 rfl) rfl ?_
  refine gc_new F (E := (.inr (6, [.ref (a + 1), .ref (a + 10), .ref (a + 12), .ref (a + 17), .null, .null, .null, .null, .long 0]) :: (((textE D (a + 1) ++ townE D (a + 10)) ++ nowE D (a + 12)) ++ pastE D (a + 17)))) nc_X6_37 (dk dtX6_init_0 23 rfl) (Nat.le_of_ble_eq_true rfl) (Nat.le_of_ble_eq_true rfl) (by simp only [List.length_cons, List.length_append, List.length_nil, textE_len, townE_len, nowE_len, noteE_len, pastE_len, foreE_len]) ?_
  refine gc_dup F (dk dtX6_init_0 24 rfl) rfl ?_
  refine gc_init F (E := (.inr (6, [.ref (a + 1), .ref (a + 10), .ref (a + 12), .ref (a + 17), .null, .null, .null, .null, .long 0]) :: (((textE D (a + 1) ++ townE D (a + 10)) ++ nowE D (a + 12)) ++ pastE D (a + 17)))) ci_X6_39 lci_X6_39 (dk dtX6_init_0 25 rfl) (by simp only [List.length_cons, List.length_append, List.length_nil, textE_len, townE_len, nowE_len, noteE_len, pastE_len, foreE_len]) (Nat.le_of_ble_eq_true rfl) ⟨by decide, by decide⟩ (Nat.le_of_ble_eq_true rfl) (Nat.le_of_ble_eq_true rfl) (k_X0_init l D (a + 69)) ?_
  refine gc_cast (w2 := wE a (.inr (6, [.ref (a + 1), .ref (a + 10), .ref (a + 12), .ref (a + 17), .null, .null, .null, .null, .long 0]) :: ((((textE D (a + 1) ++ townE D (a + 10)) ++ nowE D (a + 12)) ++ pastE D (a + 17)) ++ foreE D (a + 69)))) (z2 := 92) (cl2 := 91) (sl2 := 840) rfl (by rw [foreE_len]) rfl rfl ?_
  refine gc_putF F (i := 0) (E := (.inr (6, [.ref (a + 1), .ref (a + 10), .ref (a + 12), .ref (a + 17), .null, .null, .null, .null, .long 0]) :: ((((textE D (a + 1) ++ townE D (a + 10)) ++ nowE D (a + 12)) ++ pastE D (a + 17)) ++ foreE D (a + 69)))) fa_X6_40 (dk dtX6_init_0 26 rfl) rfl (Nat.le_of_ble_eq_true rfl) rfl rfl ⟨_, rfl, rfl⟩ (by simp only [List.length_cons, List.length_append, List.length_nil, textE_len, townE_len, nowE_len, noteE_len, pastE_len, foreE_len]) rfl ?_
  refine gc_cast (w2 := wE a (.inr (6, [.ref (a + 1), .ref (a + 10), .ref (a + 12), .ref (a + 17), .ref (a + 69), .null, .null, .null, .long 0]) :: ((((textE D (a + 1) ++ townE D (a + 10)) ++ nowE D (a + 12)) ++ pastE D (a + 17)) ++ foreE D (a + 69)))) (z2 := 92) (cl2 := 91) (sl2 := 840) rfl rfl rfl rfl ?_
  refine gc_aload_n F 0 (dk dtX6_init_0 27 rfl) rfl ?_
  refine gc_new F (E := (.inr (6, [.ref (a + 1), .ref (a + 10), .ref (a + 12), .ref (a + 17), .ref (a + 69), .null, .null, .null, .long 0]) :: ((((textE D (a + 1) ++ townE D (a + 10)) ++ nowE D (a + 12)) ++ pastE D (a + 17)) ++ foreE D (a + 69)))) nc_X6_44 (dk dtX6_init_0 28 rfl) (Nat.le_of_ble_eq_true rfl) (Nat.le_of_ble_eq_true rfl) (by simp only [List.length_cons, List.length_append, List.length_nil, textE_len, townE_len, nowE_len, noteE_len, pastE_len, foreE_len]) ?_
  refine gc_dup F (dk dtX6_init_0 29 rfl) rfl ?_
  refine gc_initN F (E := (.inr (6, [.ref (a + 1), .ref (a + 10), .ref (a + 12), .ref (a + 17), .ref (a + 69), .null, .null, .null, .long 0]) :: ((((textE D (a + 1) ++ townE D (a + 10)) ++ nowE D (a + 12)) ++ pastE D (a + 17)) ++ foreE D (a + 69)))) ci_X6_46 (List.mem_of_getElem? (i := 7) rfl) (dk dtX6_init_0 30 rfl) (by simp only [List.length_cons, List.length_append, List.length_nil, textE_len, townE_len, nowE_len, noteE_len, pastE_len, foreE_len]) (Nat.le_of_ble_eq_true rfl) ⟨by decide, by decide⟩ (Nat.le_of_ble_eq_true rfl) (Nat.le_of_ble_eq_true rfl) (k_X1_init l D (a + 92)) ?_
  refine gc_cast (w2 := wE a (.inr (6, [.ref (a + 1), .ref (a + 10), .ref (a + 12), .ref (a + 17), .ref (a + 69), .null, .null, .null, .long 0]) :: (((((textE D (a + 1) ++ townE D (a + 10)) ++ nowE D (a + 12)) ++ pastE D (a + 17)) ++ foreE D (a + 69)) ++ noteE D (a + 92)))) (z2 := 96) (cl2 := 95) (sl2 := 864) rfl (by rw [noteE_len]) rfl rfl ?_
  refine gc_putF F (i := 0) (E := (.inr (6, [.ref (a + 1), .ref (a + 10), .ref (a + 12), .ref (a + 17), .ref (a + 69), .null, .null, .null, .long 0]) :: (((((textE D (a + 1) ++ townE D (a + 10)) ++ nowE D (a + 12)) ++ pastE D (a + 17)) ++ foreE D (a + 69)) ++ noteE D (a + 92)))) fa_X6_47 (dk dtX6_init_0 31 rfl) rfl (Nat.le_of_ble_eq_true rfl) rfl rfl ⟨_, rfl, rfl⟩ (by simp only [List.length_cons, List.length_append, List.length_nil, textE_len, townE_len, nowE_len, noteE_len, pastE_len, foreE_len]) rfl ?_
  refine gc_cast (w2 := wE a (.inr (6, [.ref (a + 1), .ref (a + 10), .ref (a + 12), .ref (a + 17), .ref (a + 69), .ref (a + 92), .null, .null, .long 0]) :: (((((textE D (a + 1) ++ townE D (a + 10)) ++ nowE D (a + 12)) ++ pastE D (a + 17)) ++ foreE D (a + 69)) ++ noteE D (a + 92)))) (z2 := 96) (cl2 := 95) (sl2 := 864) rfl rfl rfl rfl ?_
  refine gc_aload_n F 0 (dk dtX6_init_0 32 rfl) rfl ?_
  refine gc_iconst F (nI 2) (dk dtX6_init_0 33 rfl) (by decide) ?_
  refine gc_newq F (n := 2) (E := (.inr (6, [.ref (a + 1), .ref (a + 10), .ref (a + 12), .ref (a + 17), .ref (a + 69), .ref (a + 92), .null, .null, .long 0]) :: (((((textE D (a + 1) ++ townE D (a + 10)) ++ nowE D (a + 12)) ++ pastE D (a + 17)) ++ foreE D (a + 69)) ++ noteE D (a + 92)))) (tw1 127 rfl) (dk dtX6_init_0 34 rfl) (by decide) (Nat.le_of_ble_eq_true rfl) (Nat.le_of_ble_eq_true rfl) (by simp only [List.length_cons, List.length_append, List.length_nil, textE_len, townE_len, nowE_len, noteE_len, pastE_len, foreE_len]) ?_
  refine gc_cast (w2 := wE a ((.inr (6, [.ref (a + 1), .ref (a + 10), .ref (a + 12), .ref (a + 17), .ref (a + 69), .ref (a + 92), .null, .null, .long 0]) :: (((((textE D (a + 1) ++ townE D (a + 10)) ++ nowE D (a + 12)) ++ pastE D (a + 17)) ++ foreE D (a + 69)) ++ noteE D (a + 92))) ++ (aQ D 2 (fun _ => none) :: []))) (z2 := 97) (cl2 := 96) (sl2 := 866) rfl rfl rfl rfl ?_
  refine gc_dup F (dk dtX6_init_0 35 rfl) rfl ?_
  refine gc_iconst F (nI 0) (dk dtX6_init_0 36 rfl) (by decide) ?_
  refine gc_new F (E := ((.inr (6, [.ref (a + 1), .ref (a + 10), .ref (a + 12), .ref (a + 17), .ref (a + 69), .ref (a + 92), .null, .null, .long 0]) :: (((((textE D (a + 1) ++ townE D (a + 10)) ++ nowE D (a + 12)) ++ pastE D (a + 17)) ++ foreE D (a + 69)) ++ noteE D (a + 92))) ++ (aQ D 2 (fun _ => none) :: []))) nc_X6_23 (dk dtX6_init_0 37 rfl) (Nat.le_of_ble_eq_true rfl) (Nat.le_of_ble_eq_true rfl) (by simp only [List.length_cons, List.length_append, List.length_nil, textE_len, townE_len, nowE_len, noteE_len, pastE_len, foreE_len]) ?_
  refine gc_dup F (dk dtX6_init_0 38 rfl) rfl ?_
  refine gc_initN F (E := ((.inr (6, [.ref (a + 1), .ref (a + 10), .ref (a + 12), .ref (a + 17), .ref (a + 69), .ref (a + 92), .null, .null, .long 0]) :: (((((textE D (a + 1) ++ townE D (a + 10)) ++ nowE D (a + 12)) ++ pastE D (a + 17)) ++ foreE D (a + 69)) ++ noteE D (a + 92))) ++ (aQ D 2 (fun _ => none) :: []))) ci_X6_25 (List.mem_of_getElem? (i := 4) rfl) (dk dtX6_init_0 39 rfl) (by simp only [List.length_cons, List.length_append, List.length_nil, textE_len, townE_len, nowE_len, noteE_len, pastE_len, foreE_len]) (Nat.le_of_ble_eq_true rfl) ⟨by decide, by decide⟩ (Nat.le_of_ble_eq_true rfl) (Nat.le_of_ble_eq_true rfl) (k_X2_init l D (a + 97)) ?_
  refine gc_cast (w2 := wE a ((.inr (6, [.ref (a + 1), .ref (a + 10), .ref (a + 12), .ref (a + 17), .ref (a + 69), .ref (a + 92), .null, .null, .long 0]) :: (((((textE D (a + 1) ++ townE D (a + 10)) ++ nowE D (a + 12)) ++ pastE D (a + 17)) ++ foreE D (a + 69)) ++ noteE D (a + 92))) ++ (aQ D 2 (fun _ => none) :: nowE D (a + 97)))) (z2 := 102) (cl2 := 101) (sl2 := 906) (congrArg (wE a) (List.append_assoc _ _ _)) (by rw [nowE_len]) rfl rfl ?_
  refine gc_aastA F (i := 96) (qk := 97) (j := 0) (j2 := 0) (dk dtX6_init_0 40 rfl) (by simp only [List.length_cons, List.length_append, List.length_nil, textE_len, townE_len, nowE_len, noteE_len, pastE_len, foreE_len]) rfl rfl (by decide) (by decide) (by simp only [List.length_cons, List.length_append, List.length_nil, textE_len, townE_len, nowE_len, noteE_len, pastE_len, foreE_len]) rfl ?_
  refine gc_dup F (dk dtX6_init_0 41 rfl) rfl ?_
  refine gc_iconst F (nI 1) (dk dtX6_init_0 42 rfl) (by decide) ?_
  refine gc_new F (E := ((.inr (6, [.ref (a + 1), .ref (a + 10), .ref (a + 12), .ref (a + 17), .ref (a + 69), .ref (a + 92), .null, .null, .long 0]) :: (((((textE D (a + 1) ++ townE D (a + 10)) ++ nowE D (a + 12)) ++ pastE D (a + 17)) ++ foreE D (a + 69)) ++ noteE D (a + 92))) ++ (aQ D 2 (va_up (fun _ => none) 0 (some (a + 97))) :: nowE D (a + 97)))) nc_X6_23 (dk dtX6_init_0 43 rfl) (Nat.le_of_ble_eq_true rfl) (Nat.le_of_ble_eq_true rfl) (by simp only [List.length_cons, List.length_append, List.length_nil, textE_len, townE_len, nowE_len, noteE_len, pastE_len, foreE_len]) ?_
  refine gc_dup F (dk dtX6_init_0 44 rfl) rfl ?_
  refine gc_initN F (E := ((.inr (6, [.ref (a + 1), .ref (a + 10), .ref (a + 12), .ref (a + 17), .ref (a + 69), .ref (a + 92), .null, .null, .long 0]) :: (((((textE D (a + 1) ++ townE D (a + 10)) ++ nowE D (a + 12)) ++ pastE D (a + 17)) ++ foreE D (a + 69)) ++ noteE D (a + 92))) ++ (aQ D 2 (va_up (fun _ => none) 0 (some (a + 97))) :: nowE D (a + 97)))) ci_X6_25 (List.mem_of_getElem? (i := 4) rfl) (dk dtX6_init_0 45 rfl) (by simp only [List.length_cons, List.length_append, List.length_nil, textE_len, townE_len, nowE_len, noteE_len, pastE_len, foreE_len]) (Nat.le_of_ble_eq_true rfl) ⟨by decide, by decide⟩ (Nat.le_of_ble_eq_true rfl) (Nat.le_of_ble_eq_true rfl) (k_X2_init l D (a + 102)) ?_
  refine gc_cast (w2 := wE a ((.inr (6, [.ref (a + 1), .ref (a + 10), .ref (a + 12), .ref (a + 17), .ref (a + 69), .ref (a + 92), .null, .null, .long 0]) :: (((((textE D (a + 1) ++ townE D (a + 10)) ++ nowE D (a + 12)) ++ pastE D (a + 17)) ++ foreE D (a + 69)) ++ noteE D (a + 92))) ++ (aQ D 2 (va_up (fun _ => none) 0 (some (a + 97))) :: (nowE D (a + 97) ++ nowE D (a + 102))))) (z2 := 107) (cl2 := 106) (sl2 := 946) (congrArg (wE a) (List.append_assoc _ _ _)) (by rw [nowE_len]) rfl rfl ?_
  refine gc_aastA F (i := 96) (qk := 102) (j := 1) (j2 := 5) (dk dtX6_init_0 46 rfl) (by simp only [List.length_cons, List.length_append, List.length_nil, textE_len, townE_len, nowE_len, noteE_len, pastE_len, foreE_len]) rfl rfl (by decide) (by decide) (by simp only [List.length_cons, List.length_append, List.length_nil, textE_len, townE_len, nowE_len, noteE_len, pastE_len, foreE_len]) rfl ?_
  refine gc_putF F (i := 0) (E := ((.inr (6, [.ref (a + 1), .ref (a + 10), .ref (a + 12), .ref (a + 17), .ref (a + 69), .ref (a + 92), .null, .null, .long 0]) :: (((((textE D (a + 1) ++ townE D (a + 10)) ++ nowE D (a + 12)) ++ pastE D (a + 17)) ++ foreE D (a + 69)) ++ noteE D (a + 92))) ++ (aQ D 2 (va_up (va_up (fun _ => none) 0 (some (a + 97))) 1 (some (a + 102))) :: (nowE D (a + 97) ++ nowE D (a + 102))))) fa_X6_51 (dk dtX6_init_0 47 rfl) rfl (Nat.le_of_ble_eq_true rfl) rfl rfl ⟨_, rfl, rfl⟩ (by simp only [List.length_cons, List.length_append, List.length_nil, textE_len, townE_len, nowE_len, noteE_len, pastE_len, foreE_len]) rfl ?_
  refine gc_cast (w2 := wE a ((.inr (6, [.ref (a + 1), .ref (a + 10), .ref (a + 12), .ref (a + 17), .ref (a + 69), .ref (a + 92), .ref (a + 96), .null, .long 0]) :: (((((textE D (a + 1) ++ townE D (a + 10)) ++ nowE D (a + 12)) ++ pastE D (a + 17)) ++ foreE D (a + 69)) ++ noteE D (a + 92))) ++ (aQ D 2 (va_up (va_up (fun _ => none) 0 (some (a + 97))) 1 (some (a + 102))) :: (nowE D (a + 97) ++ nowE D (a + 102))))) (z2 := 107) (cl2 := 106) (sl2 := 946) rfl rfl rfl rfl ?_
  refine gc_aload_n F 0 (dk dtX6_init_0 48 rfl) rfl ?_
  refine gc_iconst F (nI 2) (dk dtX6_init_0 49 rfl) (by decide) ?_
  refine gc_newaZ F (n := 2) (E := ((.inr (6, [.ref (a + 1), .ref (a + 10), .ref (a + 12), .ref (a + 17), .ref (a + 69), .ref (a + 92), .ref (a + 96), .null, .long 0]) :: (((((textE D (a + 1) ++ townE D (a + 10)) ++ nowE D (a + 12)) ++ pastE D (a + 17)) ++ foreE D (a + 69)) ++ noteE D (a + 92))) ++ (aQ D 2 (va_up (va_up (fun _ => none) 0 (some (a + 97))) 1 (some (a + 102))) :: (nowE D (a + 97) ++ nowE D (a + 102))))) (dk dtX6_init_0 50 rfl) (by decide) (Nat.le_of_ble_eq_true rfl) (Nat.le_of_ble_eq_true rfl) (by simp only [List.length_cons, List.length_append, List.length_nil, textE_len, townE_len, nowE_len, noteE_len, pastE_len, foreE_len]) ?_
  refine gc_cast (w2 := wE a (((.inr (6, [.ref (a + 1), .ref (a + 10), .ref (a + 12), .ref (a + 17), .ref (a + 69), .ref (a + 92), .ref (a + 96), .null, .long 0]) :: (((((textE D (a + 1) ++ townE D (a + 10)) ++ nowE D (a + 12)) ++ pastE D (a + 17)) ++ foreE D (a + 69)) ++ noteE D (a + 92))) ++ (aQ D 2 (va_up (va_up (fun _ => none) 0 (some (a + 97))) 1 (some (a + 102))) :: (nowE D (a + 97) ++ nowE D (a + 102)))) ++ [aZ D 2])) (z2 := 108) (cl2 := 107) (sl2 := 948) rfl rfl rfl rfl ?_
  refine gc_dup F (dk dtX6_init_0 51 rfl) rfl ?_
  refine gc_iconst F (nI 0) (dk dtX6_init_0 52 rfl) (by decide) ?_
  refine gc_iconst F (nI 0) (dk dtX6_init_0 53 rfl) (by decide) ?_
  refine gc_zastA F (i := 107) (j := 0) (n := 2) (f := fun _ => 0) (dk dtX6_init_0 54 rfl) (by simp only [List.length_cons, List.length_append, List.length_nil, textE_len, townE_len, nowE_len, noteE_len, pastE_len, foreE_len]) (by decide) (by decide) (by decide) (by simp only [List.length_cons, List.length_append, List.length_nil, textE_len, townE_len, nowE_len, noteE_len, pastE_len, foreE_len]) rfl ?_
  rw [upd_c]
  refine gc_dup F (dk dtX6_init_0 55 rfl) rfl ?_
  refine gc_iconst F (nI 1) (dk dtX6_init_0 56 rfl) (by decide) ?_
  refine gc_iconst F (nI 0) (dk dtX6_init_0 57 rfl) (by decide) ?_
  refine gc_zastA F (i := 107) (j := 1) (n := 2) (f := fun _ => 0) (dk dtX6_init_0 58 rfl) (by simp only [List.length_cons, List.length_append, List.length_nil, textE_len, townE_len, nowE_len, noteE_len, pastE_len, foreE_len]) (by decide) (by decide) (by decide) (by simp only [List.length_cons, List.length_append, List.length_nil, textE_len, townE_len, nowE_len, noteE_len, pastE_len, foreE_len]) rfl ?_
  rw [upd_c]
  refine gc_putF F (i := 0) (E := (((.inr (6, [.ref (a + 1), .ref (a + 10), .ref (a + 12), .ref (a + 17), .ref (a + 69), .ref (a + 92), .ref (a + 96), .null, .long 0]) :: (((((textE D (a + 1) ++ townE D (a + 10)) ++ nowE D (a + 12)) ++ pastE D (a + 17)) ++ foreE D (a + 69)) ++ noteE D (a + 92))) ++ (aQ D 2 (va_up (va_up (fun _ => none) 0 (some (a + 97))) 1 (some (a + 102))) :: (nowE D (a + 97) ++ nowE D (a + 102)))) ++ [aZ D 2])) fa_X6_55 (dk dtX6_init_0 59 rfl) rfl (Nat.le_of_ble_eq_true rfl) rfl rfl ⟨_, rfl, rfl⟩ (by simp only [List.length_cons, List.length_append, List.length_nil, textE_len, townE_len, nowE_len, noteE_len, pastE_len, foreE_len]) rfl ?_
  refine gc_cast (w2 := wE a (((.inr (6, [.ref (a + 1), .ref (a + 10), .ref (a + 12), .ref (a + 17), .ref (a + 69), .ref (a + 92), .ref (a + 96), .ref (a + 107), .long 0]) :: (((((textE D (a + 1) ++ townE D (a + 10)) ++ nowE D (a + 12)) ++ pastE D (a + 17)) ++ foreE D (a + 69)) ++ noteE D (a + 92))) ++ (aQ D 2 (va_up (va_up (fun _ => none) 0 (some (a + 97))) 1 (some (a + 102))) :: (nowE D (a + 97) ++ nowE D (a + 102)))) ++ [aZ D 2])) (z2 := 108) (cl2 := 107) (sl2 := 948) rfl rfl rfl rfl ?_
  refine gc_aload_n F 0 (dk dtX6_init_1 0 rfl) rfl ?_
  refine gc_lconst F 0 (dk dtX6_init_1 1 rfl) (by decide) ?_
  refine gc_put F (i := 0) (E := (((.inr (6, [.ref (a + 1), .ref (a + 10), .ref (a + 12), .ref (a + 17), .ref (a + 69), .ref (a + 92), .ref (a + 96), .ref (a + 107), .long 0]) :: (((((textE D (a + 1) ++ townE D (a + 10)) ++ nowE D (a + 12)) ++ pastE D (a + 17)) ++ foreE D (a + 69)) ++ noteE D (a + 92))) ++ (aQ D 2 (va_up (va_up (fun _ => none) 0 (some (a + 97))) 1 (some (a + 102))) :: (nowE D (a + 97) ++ nowE D (a + 102)))) ++ [aZ D 2])) fa_X6_59 (dk dtX6_init_1 2 rfl) rfl (Nat.le_of_ble_eq_true rfl) rfl rfl (by simp only [List.length_cons, List.length_append, List.length_nil, textE_len, townE_len, nowE_len, noteE_len, pastE_len, foreE_len]) rfl ?_
  refine gc_cast (w2 := wE a (((.inr (6, [.ref (a + 1), .ref (a + 10), .ref (a + 12), .ref (a + 17), .ref (a + 69), .ref (a + 92), .ref (a + 96), .ref (a + 107), .long 0]) :: (((((textE D (a + 1) ++ townE D (a + 10)) ++ nowE D (a + 12)) ++ pastE D (a + 17)) ++ foreE D (a + 69)) ++ noteE D (a + 92))) ++ (aQ D 2 (va_up (va_up (fun _ => none) 0 (some (a + 97))) 1 (some (a + 102))) :: (nowE D (a + 97) ++ nowE D (a + 102)))) ++ [aZ D 2])) (z2 := 108) (cl2 := 107) (sl2 := 948) rfl rfl rfl rfl ?_
  refine gc_world (w2 := wl a 108 (celC D a) 0 M0c) (fun H hP => mayE_wl hP) ?_
  exact gc_vretL (F := F) hQ (dk dtX6_init_1 3 rfl)
set_option maxRecDepth 100000 in
set_option maxHeartbeats 4000000 in
theorem modE_eq (D : DX) (a : Nat) : (.inr (7, [.int 0, .long 0, .ref (a + 1), .int 0, .int 0, .int 0, .int 0, .int 0, .int 0, .int 0, .ref (a + 2), .ref (a + 3), .ref (a + 4), .ref (a + 5), .ref (a + 6), .ref (a + 7), .ref (a + 8), .ref (a + 9), .int 0, .ref (a + 10), .ref (a + 11), .ref (a + 12), .int 0, .ref (a + 13)]) :: [aI D 150, aI D 6, aI D 10, aI D 31, aI D 31, aI D 31, aI D 62, aZ D 2, aI D 310, aI D 6, aI D 6, aI D 6, aI D 4096] : List va_E) = (List.range 14).map (fun k => celM D a 0 k (M0m k)) := rfl
def M1m : Mem := seM (setR (bg0 M0m) 4 (fun _ => nI 0))
set_option maxRecDepth 100000 in
set_option maxHeartbeats 4000000 in
theorem k_X7_init (l : Launch) (D : DX) (a : Nat) : CL l D yX7_init cX7_init 1 2 13 4747 a (.inr (7, [.int 0, .long 0, .null, .int 0, .int 0, .int 0, .int 0, .int 0, .int 0, .int 0, .null, .null, .null, .null, .null, .null, .null, .null, .int 0, .null, .null, .null, .int 0, .null])) (wl a 14 (celM D a) 0 M1m) 14 := by
  refine gc_entryL (by decide) rfl (by decide) ?_
  intro p e s m below meth c Q F hQ
  refine gc_aload_n F 0 (dk dtX7_init_0 0 rfl) rfl ?_
  refine gc_objInit F oi_X7_1 (dk dtX7_init_0 1 rfl) (by decide) (by decide) ?_
  refine gc_aload_n F 0 (dk dtX7_init_0 2 rfl) rfl ?_
  refine gc_sipush F (nI 150) (dk dtX7_init_0 3 rfl) (by decide) ?_
  refine gc_newaI F (n := 150) (dk dtX7_init_0 4 rfl) (by decide) (Nat.le_of_ble_eq_true rfl) (Nat.le_of_ble_eq_true rfl) rfl ?_
  refine gc_cast (w2 := wE a (.inr (7, [.int 0, .long 0, .null, .int 0, .int 0, .int 0, .int 0, .int 0, .int 0, .int 0, .null, .null, .null, .null, .null, .null, .null, .null, .int 0, .null, .null, .null, .int 0, .null]) :: [aI D 150])) (z2 := 2) (cl2 := 1) (sl2 := 150) rfl rfl rfl rfl ?_
  refine gc_putF F (i := 0) fa_X7_7 (dk dtX7_init_0 5 rfl) rfl (Nat.le_of_ble_eq_true rfl) rfl rfl ⟨_, rfl, rfl⟩ rfl rfl ?_
  refine gc_cast (w2 := wE a (.inr (7, [.int 0, .long 0, .ref (a + 1), .int 0, .int 0, .int 0, .int 0, .int 0, .int 0, .int 0, .null, .null, .null, .null, .null, .null, .null, .null, .int 0, .null, .null, .null, .int 0, .null]) :: [aI D 150])) (z2 := 2) (cl2 := 1) (sl2 := 150) rfl rfl rfl rfl ?_
  refine gc_aload_n F 0 (dk dtX7_init_0 6 rfl) rfl ?_
  refine gc_bipush F (nI 6) (dk dtX7_init_0 7 rfl) (by decide) ?_
  refine gc_newaI F (n := 6) (dk dtX7_init_0 8 rfl) (by decide) (Nat.le_of_ble_eq_true rfl) (Nat.le_of_ble_eq_true rfl) rfl ?_
  refine gc_cast (w2 := wE a (.inr (7, [.int 0, .long 0, .ref (a + 1), .int 0, .int 0, .int 0, .int 0, .int 0, .int 0, .int 0, .null, .null, .null, .null, .null, .null, .null, .null, .int 0, .null, .null, .null, .int 0, .null]) :: [aI D 150, aI D 6])) (z2 := 3) (cl2 := 2) (sl2 := 156) rfl rfl rfl rfl ?_
  refine gc_putF F (i := 0) fa_X7_13 (dk dtX7_init_0 9 rfl) rfl (Nat.le_of_ble_eq_true rfl) rfl rfl ⟨_, rfl, rfl⟩ rfl rfl ?_
  refine gc_cast (w2 := wE a (.inr (7, [.int 0, .long 0, .ref (a + 1), .int 0, .int 0, .int 0, .int 0, .int 0, .int 0, .int 0, .ref (a + 2), .null, .null, .null, .null, .null, .null, .null, .int 0, .null, .null, .null, .int 0, .null]) :: [aI D 150, aI D 6])) (z2 := 3) (cl2 := 2) (sl2 := 156) rfl rfl rfl rfl ?_
  refine gc_aload_n F 0 (dk dtX7_init_0 10 rfl) rfl ?_
  refine gc_bipush F (nI 10) (dk dtX7_init_0 11 rfl) (by decide) ?_
  refine gc_newaI F (n := 10) (dk dtX7_init_0 12 rfl) (by decide) (Nat.le_of_ble_eq_true rfl) (Nat.le_of_ble_eq_true rfl) rfl ?_
  refine gc_cast (w2 := wE a (.inr (7, [.int 0, .long 0, .ref (a + 1), .int 0, .int 0, .int 0, .int 0, .int 0, .int 0, .int 0, .ref (a + 2), .null, .null, .null, .null, .null, .null, .null, .int 0, .null, .null, .null, .int 0, .null]) :: [aI D 150, aI D 6, aI D 10])) (z2 := 4) (cl2 := 3) (sl2 := 166) rfl rfl rfl rfl ?_
  refine gc_putF F (i := 0) fa_X7_16 (dk dtX7_init_0 13 rfl) rfl (Nat.le_of_ble_eq_true rfl) rfl rfl ⟨_, rfl, rfl⟩ rfl rfl ?_
  refine gc_cast (w2 := wE a (.inr (7, [.int 0, .long 0, .ref (a + 1), .int 0, .int 0, .int 0, .int 0, .int 0, .int 0, .int 0, .ref (a + 2), .ref (a + 3), .null, .null, .null, .null, .null, .null, .int 0, .null, .null, .null, .int 0, .null]) :: [aI D 150, aI D 6, aI D 10])) (z2 := 4) (cl2 := 3) (sl2 := 166) rfl rfl rfl rfl ?_
  refine gc_aload_n F 0 (dk dtX7_init_0 14 rfl) rfl ?_
  refine gc_bipush F (nI 31) (dk dtX7_init_0 15 rfl) (by decide) ?_
  refine gc_newaI F (n := 31) (dk dtX7_init_0 16 rfl) (by decide) (Nat.le_of_ble_eq_true rfl) (Nat.le_of_ble_eq_true rfl) rfl ?_
  refine gc_cast (w2 := wE a (.inr (7, [.int 0, .long 0, .ref (a + 1), .int 0, .int 0, .int 0, .int 0, .int 0, .int 0, .int 0, .ref (a + 2), .ref (a + 3), .null, .null, .null, .null, .null, .null, .int 0, .null, .null, .null, .int 0, .null]) :: [aI D 150, aI D 6, aI D 10, aI D 31])) (z2 := 5) (cl2 := 4) (sl2 := 197) rfl rfl rfl rfl ?_
  refine gc_putF F (i := 0) fa_X7_19 (dk dtX7_init_0 17 rfl) rfl (Nat.le_of_ble_eq_true rfl) rfl rfl ⟨_, rfl, rfl⟩ rfl rfl ?_
  refine gc_cast (w2 := wE a (.inr (7, [.int 0, .long 0, .ref (a + 1), .int 0, .int 0, .int 0, .int 0, .int 0, .int 0, .int 0, .ref (a + 2), .ref (a + 3), .ref (a + 4), .null, .null, .null, .null, .null, .int 0, .null, .null, .null, .int 0, .null]) :: [aI D 150, aI D 6, aI D 10, aI D 31])) (z2 := 5) (cl2 := 4) (sl2 := 197) rfl rfl rfl rfl ?_
  refine gc_aload_n F 0 (dk dtX7_init_0 18 rfl) rfl ?_
  refine gc_bipush F (nI 31) (dk dtX7_init_0 19 rfl) (by decide) ?_
  refine gc_newaI F (n := 31) (dk dtX7_init_0 20 rfl) (by decide) (Nat.le_of_ble_eq_true rfl) (Nat.le_of_ble_eq_true rfl) rfl ?_
  refine gc_cast (w2 := wE a (.inr (7, [.int 0, .long 0, .ref (a + 1), .int 0, .int 0, .int 0, .int 0, .int 0, .int 0, .int 0, .ref (a + 2), .ref (a + 3), .ref (a + 4), .null, .null, .null, .null, .null, .int 0, .null, .null, .null, .int 0, .null]) :: [aI D 150, aI D 6, aI D 10, aI D 31, aI D 31])) (z2 := 6) (cl2 := 5) (sl2 := 228) rfl rfl rfl rfl ?_
  refine gc_putF F (i := 0) fa_X7_22 (dk dtX7_init_0 21 rfl) rfl (Nat.le_of_ble_eq_true rfl) rfl rfl ⟨_, rfl, rfl⟩ rfl rfl ?_
  refine gc_cast (w2 := wE a (.inr (7, [.int 0, .long 0, .ref (a + 1), .int 0, .int 0, .int 0, .int 0, .int 0, .int 0, .int 0, .ref (a + 2), .ref (a + 3), .ref (a + 4), .ref (a + 5), .null, .null, .null, .null, .int 0, .null, .null, .null, .int 0, .null]) :: [aI D 150, aI D 6, aI D 10, aI D 31, aI D 31])) (z2 := 6) (cl2 := 5) (sl2 := 228) rfl rfl rfl rfl ?_
  refine gc_aload_n F 0 (dk dtX7_init_0 22 rfl) rfl ?_
  refine gc_bipush F (nI 31) (dk dtX7_init_0 23 rfl) (by decide) ?_
  refine gc_newaI F (n := 31) (dk dtX7_init_0 24 rfl) (by decide) (Nat.le_of_ble_eq_true rfl) (Nat.le_of_ble_eq_true rfl) rfl ?_
  refine gc_cast (w2 := wE a (.inr (7, [.int 0, .long 0, .ref (a + 1), .int 0, .int 0, .int 0, .int 0, .int 0, .int 0, .int 0, .ref (a + 2), .ref (a + 3), .ref (a + 4), .ref (a + 5), .null, .null, .null, .null, .int 0, .null, .null, .null, .int 0, .null]) :: [aI D 150, aI D 6, aI D 10, aI D 31, aI D 31, aI D 31])) (z2 := 7) (cl2 := 6) (sl2 := 259) rfl rfl rfl rfl ?_
  refine gc_putF F (i := 0) fa_X7_25 (dk dtX7_init_0 25 rfl) rfl (Nat.le_of_ble_eq_true rfl) rfl rfl ⟨_, rfl, rfl⟩ rfl rfl ?_
  refine gc_cast (w2 := wE a (.inr (7, [.int 0, .long 0, .ref (a + 1), .int 0, .int 0, .int 0, .int 0, .int 0, .int 0, .int 0, .ref (a + 2), .ref (a + 3), .ref (a + 4), .ref (a + 5), .ref (a + 6), .null, .null, .null, .int 0, .null, .null, .null, .int 0, .null]) :: [aI D 150, aI D 6, aI D 10, aI D 31, aI D 31, aI D 31])) (z2 := 7) (cl2 := 6) (sl2 := 259) rfl rfl rfl rfl ?_
  refine gc_aload_n F 0 (dk dtX7_init_0 26 rfl) rfl ?_
  refine gc_bipush F (nI 62) (dk dtX7_init_0 27 rfl) (by decide) ?_
  refine gc_newaI F (n := 62) (dk dtX7_init_0 28 rfl) (by decide) (Nat.le_of_ble_eq_true rfl) (Nat.le_of_ble_eq_true rfl) rfl ?_
  refine gc_cast (w2 := wE a (.inr (7, [.int 0, .long 0, .ref (a + 1), .int 0, .int 0, .int 0, .int 0, .int 0, .int 0, .int 0, .ref (a + 2), .ref (a + 3), .ref (a + 4), .ref (a + 5), .ref (a + 6), .null, .null, .null, .int 0, .null, .null, .null, .int 0, .null]) :: [aI D 150, aI D 6, aI D 10, aI D 31, aI D 31, aI D 31, aI D 62])) (z2 := 8) (cl2 := 7) (sl2 := 321) rfl rfl rfl rfl ?_
  refine gc_putF F (i := 0) fa_X7_28 (dk dtX7_init_0 29 rfl) rfl (Nat.le_of_ble_eq_true rfl) rfl rfl ⟨_, rfl, rfl⟩ rfl rfl ?_
  refine gc_cast (w2 := wE a (.inr (7, [.int 0, .long 0, .ref (a + 1), .int 0, .int 0, .int 0, .int 0, .int 0, .int 0, .int 0, .ref (a + 2), .ref (a + 3), .ref (a + 4), .ref (a + 5), .ref (a + 6), .ref (a + 7), .null, .null, .int 0, .null, .null, .null, .int 0, .null]) :: [aI D 150, aI D 6, aI D 10, aI D 31, aI D 31, aI D 31, aI D 62])) (z2 := 8) (cl2 := 7) (sl2 := 321) rfl rfl rfl rfl ?_
  refine gc_aload_n F 0 (dk dtX7_init_0 30 rfl) rfl ?_
  refine gc_iconst F (nI 2) (dk dtX7_init_0 31 rfl) (by decide) ?_
  refine gc_newaZ F (n := 2) (dk dtX7_init_0 32 rfl) (by decide) (Nat.le_of_ble_eq_true rfl) (Nat.le_of_ble_eq_true rfl) rfl ?_
  refine gc_cast (w2 := wE a (.inr (7, [.int 0, .long 0, .ref (a + 1), .int 0, .int 0, .int 0, .int 0, .int 0, .int 0, .int 0, .ref (a + 2), .ref (a + 3), .ref (a + 4), .ref (a + 5), .ref (a + 6), .ref (a + 7), .null, .null, .int 0, .null, .null, .null, .int 0, .null]) :: [aI D 150, aI D 6, aI D 10, aI D 31, aI D 31, aI D 31, aI D 62, aZ D 2])) (z2 := 9) (cl2 := 8) (sl2 := 323) rfl rfl rfl rfl ?_
  refine gc_putF F (i := 0) fa_X7_31 (dk dtX7_init_0 33 rfl) rfl (Nat.le_of_ble_eq_true rfl) rfl rfl ⟨_, rfl, rfl⟩ rfl rfl ?_
  refine gc_cast (w2 := wE a (.inr (7, [.int 0, .long 0, .ref (a + 1), .int 0, .int 0, .int 0, .int 0, .int 0, .int 0, .int 0, .ref (a + 2), .ref (a + 3), .ref (a + 4), .ref (a + 5), .ref (a + 6), .ref (a + 7), .ref (a + 8), .null, .int 0, .null, .null, .null, .int 0, .null]) :: [aI D 150, aI D 6, aI D 10, aI D 31, aI D 31, aI D 31, aI D 62, aZ D 2])) (z2 := 9) (cl2 := 8) (sl2 := 323) rfl rfl rfl rfl ?_
  refine gc_aload_n F 0 (dk dtX7_init_0 34 rfl) rfl ?_
  refine gc_sipush F (nI 310) (dk dtX7_init_0 35 rfl) (by decide) ?_
  refine gc_newaI F (n := 310) (dk dtX7_init_0 36 rfl) (by decide) (Nat.le_of_ble_eq_true rfl) (Nat.le_of_ble_eq_true rfl) rfl ?_
  refine gc_cast (w2 := wE a (.inr (7, [.int 0, .long 0, .ref (a + 1), .int 0, .int 0, .int 0, .int 0, .int 0, .int 0, .int 0, .ref (a + 2), .ref (a + 3), .ref (a + 4), .ref (a + 5), .ref (a + 6), .ref (a + 7), .ref (a + 8), .null, .int 0, .null, .null, .null, .int 0, .null]) :: [aI D 150, aI D 6, aI D 10, aI D 31, aI D 31, aI D 31, aI D 62, aZ D 2, aI D 310])) (z2 := 10) (cl2 := 9) (sl2 := 633) rfl rfl rfl rfl ?_
  refine gc_putF F (i := 0) fa_X7_35 (dk dtX7_init_0 37 rfl) rfl (Nat.le_of_ble_eq_true rfl) rfl rfl ⟨_, rfl, rfl⟩ rfl rfl ?_
  refine gc_cast (w2 := wE a (.inr (7, [.int 0, .long 0, .ref (a + 1), .int 0, .int 0, .int 0, .int 0, .int 0, .int 0, .int 0, .ref (a + 2), .ref (a + 3), .ref (a + 4), .ref (a + 5), .ref (a + 6), .ref (a + 7), .ref (a + 8), .ref (a + 9), .int 0, .null, .null, .null, .int 0, .null]) :: [aI D 150, aI D 6, aI D 10, aI D 31, aI D 31, aI D 31, aI D 62, aZ D 2, aI D 310])) (z2 := 10) (cl2 := 9) (sl2 := 633) rfl rfl rfl rfl ?_
  refine gc_aload_n F 0 (dk dtX7_init_0 38 rfl) rfl ?_
  refine gc_bipush F (nI 6) (dk dtX7_init_0 39 rfl) (by decide) ?_
  refine gc_newaI F (n := 6) (dk dtX7_init_0 40 rfl) (by decide) (Nat.le_of_ble_eq_true rfl) (Nat.le_of_ble_eq_true rfl) rfl ?_
  refine gc_cast (w2 := wE a (.inr (7, [.int 0, .long 0, .ref (a + 1), .int 0, .int 0, .int 0, .int 0, .int 0, .int 0, .int 0, .ref (a + 2), .ref (a + 3), .ref (a + 4), .ref (a + 5), .ref (a + 6), .ref (a + 7), .ref (a + 8), .ref (a + 9), .int 0, .null, .null, .null, .int 0, .null]) :: [aI D 150, aI D 6, aI D 10, aI D 31, aI D 31, aI D 31, aI D 62, aZ D 2, aI D 310, aI D 6])) (z2 := 11) (cl2 := 10) (sl2 := 639) rfl rfl rfl rfl ?_
  refine gc_putF F (i := 0) fa_X7_38 (dk dtX7_init_0 41 rfl) rfl (Nat.le_of_ble_eq_true rfl) rfl rfl ⟨_, rfl, rfl⟩ rfl rfl ?_
  refine gc_cast (w2 := wE a (.inr (7, [.int 0, .long 0, .ref (a + 1), .int 0, .int 0, .int 0, .int 0, .int 0, .int 0, .int 0, .ref (a + 2), .ref (a + 3), .ref (a + 4), .ref (a + 5), .ref (a + 6), .ref (a + 7), .ref (a + 8), .ref (a + 9), .int 0, .ref (a + 10), .null, .null, .int 0, .null]) :: [aI D 150, aI D 6, aI D 10, aI D 31, aI D 31, aI D 31, aI D 62, aZ D 2, aI D 310, aI D 6])) (z2 := 11) (cl2 := 10) (sl2 := 639) rfl rfl rfl rfl ?_
  refine gc_aload_n F 0 (dk dtX7_init_0 42 rfl) rfl ?_
  refine gc_bipush F (nI 6) (dk dtX7_init_0 43 rfl) (by decide) ?_
  refine gc_newaI F (n := 6) (dk dtX7_init_0 44 rfl) (by decide) (Nat.le_of_ble_eq_true rfl) (Nat.le_of_ble_eq_true rfl) rfl ?_
  refine gc_cast (w2 := wE a (.inr (7, [.int 0, .long 0, .ref (a + 1), .int 0, .int 0, .int 0, .int 0, .int 0, .int 0, .int 0, .ref (a + 2), .ref (a + 3), .ref (a + 4), .ref (a + 5), .ref (a + 6), .ref (a + 7), .ref (a + 8), .ref (a + 9), .int 0, .ref (a + 10), .null, .null, .int 0, .null]) :: [aI D 150, aI D 6, aI D 10, aI D 31, aI D 31, aI D 31, aI D 62, aZ D 2, aI D 310, aI D 6, aI D 6])) (z2 := 12) (cl2 := 11) (sl2 := 645) rfl rfl rfl rfl ?_
  refine gc_putF F (i := 0) fa_X7_41 (dk dtX7_init_0 45 rfl) rfl (Nat.le_of_ble_eq_true rfl) rfl rfl ⟨_, rfl, rfl⟩ rfl rfl ?_
  refine gc_cast (w2 := wE a (.inr (7, [.int 0, .long 0, .ref (a + 1), .int 0, .int 0, .int 0, .int 0, .int 0, .int 0, .int 0, .ref (a + 2), .ref (a + 3), .ref (a + 4), .ref (a + 5), .ref (a + 6), .ref (a + 7), .ref (a + 8), .ref (a + 9), .int 0, .ref (a + 10), .ref (a + 11), .null, .int 0, .null]) :: [aI D 150, aI D 6, aI D 10, aI D 31, aI D 31, aI D 31, aI D 62, aZ D 2, aI D 310, aI D 6, aI D 6])) (z2 := 12) (cl2 := 11) (sl2 := 645) rfl rfl rfl rfl ?_
  refine gc_aload_n F 0 (dk dtX7_init_0 46 rfl) rfl ?_
  refine gc_bipush F (nI 6) (dk dtX7_init_0 47 rfl) (by decide) ?_
  refine gc_newaI F (n := 6) (dk dtX7_init_0 48 rfl) (by decide) (Nat.le_of_ble_eq_true rfl) (Nat.le_of_ble_eq_true rfl) rfl ?_
  refine gc_cast (w2 := wE a (.inr (7, [.int 0, .long 0, .ref (a + 1), .int 0, .int 0, .int 0, .int 0, .int 0, .int 0, .int 0, .ref (a + 2), .ref (a + 3), .ref (a + 4), .ref (a + 5), .ref (a + 6), .ref (a + 7), .ref (a + 8), .ref (a + 9), .int 0, .ref (a + 10), .ref (a + 11), .null, .int 0, .null]) :: [aI D 150, aI D 6, aI D 10, aI D 31, aI D 31, aI D 31, aI D 62, aZ D 2, aI D 310, aI D 6, aI D 6, aI D 6])) (z2 := 13) (cl2 := 12) (sl2 := 651) rfl rfl rfl rfl ?_
  refine gc_putF F (i := 0) fa_X7_44 (dk dtX7_init_0 49 rfl) rfl (Nat.le_of_ble_eq_true rfl) rfl rfl ⟨_, rfl, rfl⟩ rfl rfl ?_
  refine gc_cast (w2 := wE a (.inr (7, [.int 0, .long 0, .ref (a + 1), .int 0, .int 0, .int 0, .int 0, .int 0, .int 0, .int 0, .ref (a + 2), .ref (a + 3), .ref (a + 4), .ref (a + 5), .ref (a + 6), .ref (a + 7), .ref (a + 8), .ref (a + 9), .int 0, .ref (a + 10), .ref (a + 11), .ref (a + 12), .int 0, .null]) :: [aI D 150, aI D 6, aI D 10, aI D 31, aI D 31, aI D 31, aI D 62, aZ D 2, aI D 310, aI D 6, aI D 6, aI D 6])) (z2 := 13) (cl2 := 12) (sl2 := 651) rfl rfl rfl rfl ?_
  refine gc_aload_n F 0 (dk dtX7_init_0 50 rfl) rfl ?_
  refine gc_sipush F (nI 4096) (dk dtX7_init_0 51 rfl) (by decide) ?_
  refine gc_newaI F (n := 4096) (dk dtX7_init_0 52 rfl) (by decide) (Nat.le_of_ble_eq_true rfl) (Nat.le_of_ble_eq_true rfl) rfl ?_
  refine gc_cast (w2 := wE a (.inr (7, [.int 0, .long 0, .ref (a + 1), .int 0, .int 0, .int 0, .int 0, .int 0, .int 0, .int 0, .ref (a + 2), .ref (a + 3), .ref (a + 4), .ref (a + 5), .ref (a + 6), .ref (a + 7), .ref (a + 8), .ref (a + 9), .int 0, .ref (a + 10), .ref (a + 11), .ref (a + 12), .int 0, .null]) :: [aI D 150, aI D 6, aI D 10, aI D 31, aI D 31, aI D 31, aI D 62, aZ D 2, aI D 310, aI D 6, aI D 6, aI D 6, aI D 4096])) (z2 := 14) (cl2 := 13) (sl2 := 4747) rfl rfl rfl rfl ?_
  refine gc_putF F (i := 0) fa_X7_47 (dk dtX7_init_0 53 rfl) rfl (Nat.le_of_ble_eq_true rfl) rfl rfl ⟨_, rfl, rfl⟩ rfl rfl ?_
  refine gc_cast (w2 := wE a (.inr (7, [.int 0, .long 0, .ref (a + 1), .int 0, .int 0, .int 0, .int 0, .int 0, .int 0, .int 0, .ref (a + 2), .ref (a + 3), .ref (a + 4), .ref (a + 5), .ref (a + 6), .ref (a + 7), .ref (a + 8), .ref (a + 9), .int 0, .ref (a + 10), .ref (a + 11), .ref (a + 12), .int 0, .ref (a + 13)]) :: [aI D 150, aI D 6, aI D 10, aI D 31, aI D 31, aI D 31, aI D 62, aZ D 2, aI D 310, aI D 6, aI D 6, aI D 6, aI D 4096])) (z2 := 14) (cl2 := 13) (sl2 := 4747) rfl rfl rfl rfl ?_
  refine gc_cast (w2 := wl a 14 (celM D a) 0 M0m) (z2 := 14) (cl2 := 13) (sl2 := 4747) ((congrArg (wE a) (modE_eq D a)).trans (wE_range a 14 _)) rfl rfl rfl ?_
  refine gc_aload_n F 0 (dk dtX7_init_0 54 rfl) rfl ?_
  refine gc_callV F cv_X7_50 (dk dtX7_init_0 55 rfl) (by decide) (cm0 D a _ _) (Nat.le_of_ble_eq_true rfl) ⟨by decide, by decide⟩ ⟨Nat.le_of_ble_eq_true rfl, Nat.le_of_ble_eq_true rfl⟩ rfl (k_X7_begins l D a 0 M0m) (fun T1 M1 hp1 => ?_)
  obtain ⟨rfl, rfl⟩ := hp1
  refine gc_aload_n F 0 (dk dtX7_init_0 56 rfl) rfl ?_
  refine gc_callV F cv_X7_53 (dk dtX7_init_0 57 rfl) (by decide) (cm0 D a _ _) (Nat.le_of_ble_eq_true rfl) ⟨by decide, by decide⟩ ⟨Nat.le_of_ble_eq_true rfl, Nat.le_of_ble_eq_true rfl⟩ rfl (k_X7_settles l D a 0 _) (fun T2 M2 hp2 => ?_)
  obtain ⟨rfl, rfl⟩ := hp2
  exact gc_vretL (F := F) hQ (dk dtX7_init_0 58 rfl)
