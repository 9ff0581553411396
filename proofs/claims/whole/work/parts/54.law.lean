/-! THE CLAIM OUT OF ONE WALK OF THE LAW'S BODY. Your part is whole_start (and what it stands on); all else here is the same for every law, but numbers. -/
def R_law : String := "SurprisedMayorLaw"
def lw_P (b : Addr) (xs : List Int32) (args : Array Value) (s : State) : Prop := args = #[.ref b] ∧ s.IntsAt b xs ∧ xs.length ≤ 320 ∧ (Jvm.Cond.and given_1 narrow_1).before args s = true
def lw_Q (_ : Array Value) (s : State) (o : Outcome) (t : State) : Prop := o = .returned (some (.int 1)) ∧ Framed s o t [] 600000 7302250
def lw_Z (below : List Frame) (a : Array Value) (s : State) : State → Prop := fun t => ∃ o, t.status = .running ∧ Ended t below o ∧ lw_Q a s o t
/-- the law's own end, with 1 on the stack, nothing written that was there before, its room as the claim has it -/
theorem lw_ret {p : Program} {l : Launch} {e : Env} {s : State} {m : MethodId} {below : List Frame} {meth : Method} {c : Code} {b : Nat} (hx : p.tables.exec = Jvm.exec) (hb : c.code = code) (hr : meth.sig.returnType = ret) (hlocks : meth.locks = false) {pc : Nat} {H : Heap} {ls : Array Slot} (hdg : decode code pc = .ok (.ireturn, 1)) : W p l e room_1 s m #[Value.ref b] below meth c H [] 600000 7302250 (lw_Z below #[Value.ref b] s) (F0 m pc ls [.int 1]) := by
  intro T hT X
  obtain ⟨fs, hret, hrun, hended, hW, hframe⟩ := X.leave (v := some (.int 1)) (hlocks := hlocks) (fun h => by rw [hr] at h; cases h)
  have hmeth' : T.vm.method? m = some meth := X.method'
  refine ⟨T.setFrames fs, ?_, .returned (some (.int 1)), hrun, hended, rfl, ⟨_, rfl⟩, hW, hframe⟩
  jvm_step X.here [X.here.top, hx, hb, hdg, hmeth', hr, ret, narrow_b1]
  (try refine ⟨rfl, ?_⟩); (try refine ⟨rfl, ?_⟩)
  first | (intro acts; rw [hret _ acts rfl rfl rfl]) | rw [hret _ _ rfl rfl rfl]
  exact Steps.refl _
/-- what holds at the law's entry: the machine, the code, the tables' words (any of lw_tbl by 'hts w (by decide +kernel)'), the script of L ints xs at the cell b, what the Statement gives of the start (any of its parts by flat_of_before) -/
def lw_At (p : Program) (s : State) (m : MethodId) (meth : Method) (c : Code) (b L : Nat) (xs : Nat → Int32) : Prop :=
  p.tables.exec = Jvm.exec ∧ c.code = code ∧ meth.sig.returnType = ret ∧ c.maxLocals = 4 ∧ s.vm.findClass R_law = some m.cls ∧ (∀ w ∈ lw_tbl, w.before #[Value.ref b] s = true) ∧ va_X b L xs s s.heap ∧ b < s.heap.size ∧ meth.locks = false ∧ (Jvm.Cond.and given_1 narrow_1).before #[Value.ref b] s = true
def FLw (p : Program) (s : State) (m : MethodId) (meth : Method) (c : Code) (b n : Nat) (xs : Nat → Int32) (D : DX) (B Bm : Nat) : Prop := (p.tables.exec = Jvm.exec ∧ c.code = code ∧ c.maxLocals = 4 ∧ s.vm.findClass RL = some m.cls) ∧ (∀ w ∈ gtb, w.before #[Value.ref b] s = true) ∧ KK D s ∧ va_X b n xs s s.heap ∧ b < s.heap.size ∧ meth.sig.returnType = ret ∧ meth.locks = false ∧ s.heap.size ≤ B ∧ B + 108 ≤ Bm
def GL (p : Program) (l : Launch) (e : Env) (s : State) (m : MethodId) (below : List Frame) (meth : Method) (c : Code) (b : Nat) (D : DX) (B Bm : Nat) (T : Int64) (M : Mem) (Tm : Int64) (Mm : Mem) (pc : Nat) (L : List (Nat × Value)) (st : List Value) : Prop := ∀ (H : Heap) (locs : List Loc) (ls : Array Slot), va_P D.1 vwCl (wl B 108 (celC D B) T M) H → va_P D.1 vwCl (wl Bm 14 (celM D Bm) Tm Mm) H → va_S (fun q => s.heap.size ≤ q) s.heap H locs → lv_has ls 4 L → W p l e room_1 s m #[Value.ref b] below meth c H locs 122 5728 (lw_Z below #[Value.ref b] s) (F0 m pc ls st)
section GLR
variable {p : Program} {l : Launch} {e : Env} {s : State} {m : MethodId} {below : List Frame} {meth : Method} {c : Code} {b n : Nat} {xs : Nat → Int32} {D : DX} {B Bm : Nat} {T : Int64} {M : Mem} {Tm : Int64} {Mm : Mem} {pc pc1 : Nat} {L : List (Nat × Value)} {st : List Value}
theorem gl_iconst (F : FLw p s m meth c b n xs D B Bm) {v0 : Int} (v : Int32) (hd : De code pc (.iconst v0) 1 pc1) (hv : Int32.ofInt v0 = v) (k : GL p l e s m below meth c b D B Bm T M Tm Mm pc1 L (.int v :: st)) : GL p l e s m below meth c b D B Bm T M Tm Mm pc L st := by
  obtain ⟨hd, rfl⟩ := hd
  exact fun H locs ls hP hPm hS hl => lv_iconst F.1.1 F.1.2.1 hd hv (k H locs ls hP hPm hS hl)
theorem gl_bipush (F : FLw p s m meth c b n xs D B Bm) {v0 : Int} (v : Int32) (hd : De code pc (.bipush v0) 2 pc1) (hv : (Int8.ofInt v0).toInt32 = v) (k : GL p l e s m below meth c b D B Bm T M Tm Mm pc1 L (.int v :: st)) : GL p l e s m below meth c b D B Bm T M Tm Mm pc L st := by
  obtain ⟨hd, rfl⟩ := hd
  exact fun H locs ls hP hPm hS hl => lv_bipush F.1.1 F.1.2.1 hd hv (k H locs ls hP hPm hS hl)
theorem gl_iload_n (F : FLw p s m meth c b n xs D B Bm) {i : Fin 4} {x : Int32} (q : Nat) (hd : De code pc (.iload_n i) 1 pc1) (hq : L[q]? = some ((i : Nat), .int x)) (k : GL p l e s m below meth c b D B Bm T M Tm Mm pc1 L (.int x :: st)) : GL p l e s m below meth c b D B Bm T M Tm Mm pc L st := by
  obtain ⟨hd, rfl⟩ := hd
  exact fun H locs ls hP hPm hS hl => lv_iload_n F.1.1 F.1.2.1 hd rfl (lv_at hl q hq) (k H locs ls hP hPm hS hl)
theorem gl_aload_n (F : FLw p s m meth c b n xs D B Bm) {i : Fin 4} {x : Nat} (q : Nat) (hd : De code pc (.aload_n i) 1 pc1) (hq : L[q]? = some ((i : Nat), .ref x)) (k : GL p l e s m below meth c b D B Bm T M Tm Mm pc1 L (.ref x :: st)) : GL p l e s m below meth c b D B Bm T M Tm Mm pc L st := by
  obtain ⟨hd, rfl⟩ := hd
  exact fun H locs ls hP hPm hS hl => lv_aload_n F.1.1 F.1.2.1 hd rfl (lv_at hl q hq) (k H locs ls hP hPm hS hl)
theorem gl_iaddN (F : FLw p s m meth c b n xs D B Bm) {x y : Nat} (hd : De code pc (.iadd) 1 pc1) (k : GL p l e s m below meth c b D B Bm T M Tm Mm pc1 L (.int (nI (x + y)) :: st)) : GL p l e s m below meth c b D B Bm T M Tm Mm pc L (.int (nI y) :: .int (nI x) :: st) := by
  obtain ⟨hd, rfl⟩ := hd
  exact fun H locs ls hP hPm hS hl => lv_iadd F.1.1 F.1.2.1 hd (by rw [nI_add]; exact (k H locs ls hP hPm hS hl))
theorem gl_isub (F : FLw p s m meth c b n xs D B Bm) {x y : Int32} (hd : De code pc (.isub) 1 pc1) (k : GL p l e s m below meth c b D B Bm T M Tm Mm pc1 L (.int (x - y) :: st)) : GL p l e s m below meth c b D B Bm T M Tm Mm pc L (.int y :: .int x :: st) := by
  obtain ⟨hd, rfl⟩ := hd
  exact fun H locs ls hP hPm hS hl => lv_isub F.1.1 F.1.2.1 hd (k H locs ls hP hPm hS hl)
theorem gl_iand (F : FLw p s m meth c b n xs D B Bm) {x y : Int32} (hd : De code pc (.iand) 1 pc1) (k : GL p l e s m below meth c b D B Bm T M Tm Mm pc1 L (.int (x &&& y) :: st)) : GL p l e s m below meth c b D B Bm T M Tm Mm pc L (.int y :: .int x :: st) := by
  obtain ⟨hd, rfl⟩ := hd
  exact fun H locs ls hP hPm hS hl => lv_iand F.1.1 F.1.2.1 hd (k H locs ls hP hPm hS hl)
theorem gl_sld (F : FLw p s m meth c b n xs D B Bm) {j : Nat} (hd : De code pc (.iaload) 1 pc1) (hj : j < n) (hn : n < 2 ^ 31) (k : GL p l e s m below meth c b D B Bm T M Tm Mm pc1 L (.int (xs j) :: st)) : GL p l e s m below meth c b D B Bm T M Tm Mm pc L (.int (nI j) :: .ref b :: st) := by
  obtain ⟨hd, rfl⟩ := hd
  exact fun H locs ls hP hPm hS hl => va_sld F.1.1 F.1.2.1 F.2.2.2.1 F.2.2.2.2.1 (Nat.not_le.mpr F.2.2.2.2.1) hS (vp_in_nI hj hn) hd (by rw [nI_clamp (by omega)]; exact (k H locs ls hP hPm hS hl))
theorem gl_slen (F : FLw p s m meth c b n xs D B Bm)  (hd : De code pc (.arraylength) 1 pc1) (k : GL p l e s m below meth c b D B Bm T M Tm Mm pc1 L (.int (nI n) :: st)) : GL p l e s m below meth c b D B Bm T M Tm Mm pc L (.ref b :: st) := by
  obtain ⟨hd, rfl⟩ := hd
  exact fun H locs ls hP hPm hS hl => va_slen F.1.1 F.1.2.1 F.2.2.2.1 F.2.2.2.2.1 (Nat.not_le.mpr F.2.2.2.2.1) hS hd (k H locs ls hP hPm hS hl)
theorem gl_iinc (F : FLw p s m meth c b n xs D B Bm) {i : Nat} {v0 : Int} {x : Int32} (q : Nat) (v : Int32) (L1 : List (Nat × Value)) (hd : De code pc (.iinc i v0) 3 pc1) (hq : L[q]? = some (i, .int x)) (hv : x + Int32.ofInt v0 = v) (hn : i < 4) (hL : (i, Value.int v) :: L.filter (fun q => !(q.1 == i) && !(q.1 + 1 == i && q.2.category == 2)) = L1) (k : GL p l e s m below meth c b D B Bm T M Tm Mm pc1 L1 st) : GL p l e s m below meth c b D B Bm T M Tm Mm pc L st := by
  obtain ⟨hd, rfl⟩ := hd
  exact fun H locs ls hP hPm hS hl => lv_iinc F.1.1 F.1.2.1 hd hl hq hv hn hL (fun ls hl => k H locs ls hP hPm hS hl)
theorem gl_goto (F : FLw p s m meth c b n xs D B Bm) {off : Int} (tgt : Nat) (hd : De code pc (.goto off) 3 pc1) (ht : (pc : Int) + off = (tgt : Int)) (k : GL p l e s m below meth c b D B Bm T M Tm Mm tgt L st) : GL p l e s m below meth c b D B Bm T M Tm Mm pc L st := fun H locs ls hP hPm hS hl => lv_goto F.1.1 F.1.2.1 hd.1 ht (k H locs ls hP hPm hS hl)
theorem gl_gt (F : FLw p s m meth c b n xs D B Bm) {x y : Int32} {off : Int} (tgt : Nat) (hd : De code pc (.if_icmp .gt off) 3 pc1) (ht : (pc : Int) + off = (tgt : Int)) (kt : y < x → GL p l e s m below meth c b D B Bm T M Tm Mm tgt L st) (kf : ¬ y < x → GL p l e s m below meth c b D B Bm T M Tm Mm pc1 L st) : GL p l e s m below meth c b D B Bm T M Tm Mm pc L (.int y :: .int x :: st) := by
  obtain ⟨hd, rfl⟩ := hd
  exact fun H locs ls hP hPm hS hl => lv_icmp_gt F.1.1 F.1.2.1 hd ht (fun h => kt h H locs ls hP hPm hS hl) (fun h => kf h H locs ls hP hPm hS hl)
theorem gl_eq (F : FLw p s m meth c b n xs D B Bm) {x y : Int32} {off : Int} (tgt : Nat) (hd : De code pc (.if_icmp .eq off) 3 pc1) (ht : (pc : Int) + off = (tgt : Int)) (he : x = y) (k : GL p l e s m below meth c b D B Bm T M Tm Mm tgt L st) : GL p l e s m below meth c b D B Bm T M Tm Mm pc L (.int y :: .int x :: st) := by
  obtain ⟨hd, rfl⟩ := hd
  exact fun H locs ls hP hPm hS hl => lv_icmp_eq F.1.1 F.1.2.1 hd ht (fun _ => (k H locs ls hP hPm hS hl)) (fun h => absurd he h)
theorem gl_leq (F : FLw p s m meth c b n xs D B Bm) {x y : Int64} {pc2 : Nat} {off : Int} (tgt : Nat) (hd : De code pc (.lcmp) 1 pc1) (hd2 : De code pc1 (.ifCond .eq off) 3 pc2) (ht : (pc1 : Int) + off = (tgt : Int)) (he : x = y) (k : GL p l e s m below meth c b D B Bm T M Tm Mm tgt L st) : GL p l e s m below meth c b D B Bm T M Tm Mm pc L (.long y :: .long x :: st) := by
  obtain ⟨hd, rfl⟩ := hd
  subst he
  exact fun H locs ls hP hPm hS hl => W.lcmp F.1.1 F.1.2.1 hd (lv_if_eq F.1.1 F.1.2.1 hd2.1 ht (fun _ => (k H locs ls hP hPm hS hl)) (fun h => absurd (show lg_cmp x x = 0 by simp [lg_cmp]) h))
theorem gl_tabOut (F : FLw p s m meth c b n xs D B Bm) {dflt lo hi : Int} {offs : Array Int} {len : Nat} {x : Int32} (tgt : Nat) (hd : De code pc (.tableswitch dflt lo hi offs) len pc1) (h : x.toInt < lo ∨ hi < x.toInt) (ht : (pc : Int) + dflt = (tgt : Int)) (k : GL p l e s m below meth c b D B Bm T M Tm Mm tgt L st) : GL p l e s m below meth c b D B Bm T M Tm Mm pc L (.int x :: st) := fun H locs ls hP hPm hS hl => lv_tableOut F.1.1 F.1.2.1 hd.1 h ht (k H locs ls hP hPm hS hl)
theorem gl_tabIn (F : FLw p s m meth c b n xs D B Bm) {dflt lo hi off : Int} {offs : Array Int} {len : Nat} {x : Int32} (tgt : Nat) (hd : De code pc (.tableswitch dflt lo hi offs) len pc1) (h1 : ¬ x.toInt < lo) (h2 : ¬ hi < x.toInt) (ho : offs[(x.toInt - lo).toNat]? = some off) (ht : (pc : Int) + off = (tgt : Int)) (k : GL p l e s m below meth c b D B Bm T M Tm Mm tgt L st) : GL p l e s m below meth c b D B Bm T M Tm Mm pc L (.int x :: st) := fun H locs ls hP hPm hS hl => lv_tableIn F.1.1 F.1.2.1 hd.1 h1 h2 ho ht (k H locs ls hP hPm hS hl)
theorem gl_callC (F : FLw p s m meth c b n xs D B Bm) {ix a1 d mL : Nat} {y : MethodName} {ccy : ByteArray} {As st0 : List Value} {post : Int32 → Int64 → Mem → Prop} (hcv : CV RL ix 6 y ccy mL (some .int) a1) (hd : De code pc (.invokevirtual ix) 3 pc1) (hn : As.length = a1) (hst : st0 = As.reverse ++ .ref (B + 0) :: st) (hcat : (st.map fun v => v.category).sum ≤ 8) (hR : d + 1 ≤ 2048 ∧ 8 + (mL + 11) + 40 * d ≤ 84000) (hM : Ci l D B 108 (celC D B) y ccy mL (some .int) d (.ref (B + 0) :: As) T M post) (k : ∀ (r : Int32) (T1 : Int64) (M1 : Mem), post r T1 M1 → GL p l e s m below meth c b D B Bm T1 M1 Tm Mm pc1 L (.int r :: st)) : GL p l e s m below meth c b D B Bm T M Tm Mm pc L st0 := by
  obtain ⟨hd, rfl⟩ := hd
  subst hst
  obtain ⟨⟨q, hq, hqc⟩, h1, h2, h3, h4, h5, h6⟩ := hcv
  intro H locs ls hP hPm hS hl
  have hb := F.2.1
  exact va_calli (va_runV (As := As) (rest := st) ⟨F.1.1, F.1.2.1, F.1.2.2.1, F.1.2.2.2, hb⟩ hM ⟨callB_of a1 hb (gtbCode h5) rfl rfl rfl (hb _ h4) (hb _ h1) h6 hR, hb _ h2, hb _ h3⟩ ⟨fun a U g mk q => by obtain ⟨q0, qP, qK⟩ := q; exact ⟨q0, qP, va_K.moved (u := U) (U := U.calling g mk a) (Vm.Alike.refl U.vm) qK⟩, by rw [← hqc]; exact va_recv F.2.2.1 hP hq (wl_at (by decide) (cc0 D B _ _)), fun U hU hW => ⟨rfl, by rw [hU]; exact hP, va_K.moved hW.alike F.2.2.1⟩⟩ rfl hn hl.1 rfl (lv_room hcat) hd ⟨Nat.le_of_ble_eq_true rfl, Nat.le_of_ble_eq_true rfl⟩) hS (fun q _ h => Nat.le_trans F.2.2.2.2.2.2.2.1 h.1) (fun q h => Nat.le_trans F.2.2.2.2.2.2.2.1 h.1) (fun r u t H1 locs1 ht hvm hw hB1 hz1 hk1 hS1 => k r u.1 u.2 hw H1 locs1 ls (by rw [← ht]; exact hB1.1) (hPm.kept (fun i q hi => hk1 q.1 ((hPm i q hi).lt) (fun hF => by have := hF.1; have := hF.2; obtain ⟨g1, rfl⟩ := wl_inv hi; have hb2 := F.2.2.2.2.2.2.2.2; dsimp only at *; omega))) hS1 hl)
theorem gl_callM (F : FLw p s m meth c b n xs D B Bm) {ix a1 d mL : Nat} {y : MethodName} {ccy : ByteArray} {As st0 : List Value} {post : Int32 → Int64 → Mem → Prop} (hcv : CV RL ix 7 y ccy mL (some .int) a1) (hd : De code pc (.invokevirtual ix) 3 pc1) (hn : As.length = a1) (hst : st0 = As.reverse ++ .ref (Bm + 0) :: st) (hcat : (st.map fun v => v.category).sum ≤ 8) (hR : d + 1 ≤ 2048 ∧ 8 + (mL + 11) + 40 * d ≤ 84000) (hM : Ci l D Bm 14 (celM D Bm) y ccy mL (some .int) d (.ref (Bm + 0) :: As) Tm Mm post) (k : ∀ (r : Int32) (T1 : Int64) (M1 : Mem), post r T1 M1 → GL p l e s m below meth c b D B Bm T M T1 M1 pc1 L (.int r :: st)) : GL p l e s m below meth c b D B Bm T M Tm Mm pc L st0 := by
  obtain ⟨hd, rfl⟩ := hd
  subst hst
  obtain ⟨⟨q, hq, hqc⟩, h1, h2, h3, h4, h5, h6⟩ := hcv
  intro H locs ls hP hPm hS hl
  have hb := F.2.1
  exact va_calli (va_runV (As := As) (rest := st) ⟨F.1.1, F.1.2.1, F.1.2.2.1, F.1.2.2.2, hb⟩ hM ⟨callB_of a1 hb (gtbCode h5) rfl rfl rfl (hb _ h4) (hb _ h1) h6 hR, hb _ h2, hb _ h3⟩ ⟨fun a U g mk q => by obtain ⟨q0, qP, qK⟩ := q; exact ⟨q0, qP, va_K.moved (u := U) (U := U.calling g mk a) (Vm.Alike.refl U.vm) qK⟩, by rw [← hqc]; exact va_recv F.2.2.1 hPm hq (wl_at (by decide) (cm0 D Bm _ _)), fun U hU hW => ⟨rfl, by rw [hU]; exact hPm, va_K.moved hW.alike F.2.2.1⟩⟩ rfl hn hl.1 rfl (lv_room hcat) hd ⟨Nat.le_of_ble_eq_true rfl, Nat.le_of_ble_eq_true rfl⟩) hS (fun q _ h => Nat.le_trans (Nat.le_trans F.2.2.2.2.2.2.2.1 (Nat.le_trans (Nat.le_add_right _ _) F.2.2.2.2.2.2.2.2)) h.1) (fun q h => Nat.le_trans (Nat.le_trans F.2.2.2.2.2.2.2.1 (Nat.le_trans (Nat.le_add_right _ _) F.2.2.2.2.2.2.2.2)) h.1) (fun r u t H1 locs1 ht hvm hw hB1 hz1 hk1 hS1 => k r u.1 u.2 hw H1 locs1 ls (hP.kept (fun i q hi => hk1 q.1 ((hP i q hi).lt) (fun hF => by have := hF.1; have := hF.2; obtain ⟨g1, rfl⟩ := wl_inv hi; have hb2 := F.2.2.2.2.2.2.2.2; dsimp only at *; omega))) (by rw [← ht]; exact hB1.1) hS1 hl)
theorem gl_callCl (F : FLw p s m meth c b n xs D B Bm) {ix a1 d mL : Nat} {y : MethodName} {ccy : ByteArray} {As st0 : List Value} {post : Int64 → Int64 → Mem → Prop} (hcv : CV RL ix 6 y ccy mL (some .long) a1) (hd : De code pc (.invokevirtual ix) 3 pc1) (hn : As.length = a1) (hst : st0 = As.reverse ++ .ref (B + 0) :: st) (hcat : (st.map fun v => v.category).sum ≤ 8) (hR : d + 1 ≤ 2048 ∧ 8 + (mL + 11) + 40 * d ≤ 84000) (hM : Cl l D B 108 (celC D B) y ccy mL (some .long) d (.ref (B + 0) :: As) T M post) (k : ∀ (r : Int64) (T1 : Int64) (M1 : Mem), post r T1 M1 → GL p l e s m below meth c b D B Bm T1 M1 Tm Mm pc1 L (.long r :: st)) : GL p l e s m below meth c b D B Bm T M Tm Mm pc L st0 := by
  obtain ⟨hd, rfl⟩ := hd
  subst hst
  obtain ⟨⟨q, hq, hqc⟩, h1, h2, h3, h4, h5, h6⟩ := hcv
  intro H locs ls hP hPm hS hl
  have hb := F.2.1
  exact va_calll (va_runV (As := As) (rest := st) ⟨F.1.1, F.1.2.1, F.1.2.2.1, F.1.2.2.2, hb⟩ hM ⟨callB_of a1 hb (gtbCode h5) rfl rfl rfl (hb _ h4) (hb _ h1) h6 hR, hb _ h2, hb _ h3⟩ ⟨fun a U g mk q => by obtain ⟨q0, qP, qK⟩ := q; exact ⟨q0, qP, va_K.moved (u := U) (U := U.calling g mk a) (Vm.Alike.refl U.vm) qK⟩, by rw [← hqc]; exact va_recv F.2.2.1 hP hq (wl_at (by decide) (cc0 D B _ _)), fun U hU hW => ⟨rfl, by rw [hU]; exact hP, va_K.moved hW.alike F.2.2.1⟩⟩ rfl hn hl.1 rfl (lv_room hcat) hd ⟨Nat.le_of_ble_eq_true rfl, Nat.le_of_ble_eq_true rfl⟩) hS (fun q _ h => Nat.le_trans F.2.2.2.2.2.2.2.1 h.1) (fun q h => Nat.le_trans F.2.2.2.2.2.2.2.1 h.1) (fun r u t H1 locs1 ht hvm hw hB1 hz1 hk1 hS1 => k r u.1 u.2 hw H1 locs1 ls (by rw [← ht]; exact hB1.1) (hPm.kept (fun i q hi => hk1 q.1 ((hPm i q hi).lt) (fun hF => by have := hF.1; have := hF.2; obtain ⟨g1, rfl⟩ := wl_inv hi; have hb2 := F.2.2.2.2.2.2.2.2; dsimp only at *; omega))) hS1 hl)
theorem gl_callMl (F : FLw p s m meth c b n xs D B Bm) {ix a1 d mL : Nat} {y : MethodName} {ccy : ByteArray} {As st0 : List Value} {post : Int64 → Int64 → Mem → Prop} (hcv : CV RL ix 7 y ccy mL (some .long) a1) (hd : De code pc (.invokevirtual ix) 3 pc1) (hn : As.length = a1) (hst : st0 = As.reverse ++ .ref (Bm + 0) :: st) (hcat : (st.map fun v => v.category).sum ≤ 8) (hR : d + 1 ≤ 2048 ∧ 8 + (mL + 11) + 40 * d ≤ 84000) (hM : Cl l D Bm 14 (celM D Bm) y ccy mL (some .long) d (.ref (Bm + 0) :: As) Tm Mm post) (k : ∀ (r : Int64) (T1 : Int64) (M1 : Mem), post r T1 M1 → GL p l e s m below meth c b D B Bm T M T1 M1 pc1 L (.long r :: st)) : GL p l e s m below meth c b D B Bm T M Tm Mm pc L st0 := by
  obtain ⟨hd, rfl⟩ := hd
  subst hst
  obtain ⟨⟨q, hq, hqc⟩, h1, h2, h3, h4, h5, h6⟩ := hcv
  intro H locs ls hP hPm hS hl
  have hb := F.2.1
  exact va_calll (va_runV (As := As) (rest := st) ⟨F.1.1, F.1.2.1, F.1.2.2.1, F.1.2.2.2, hb⟩ hM ⟨callB_of a1 hb (gtbCode h5) rfl rfl rfl (hb _ h4) (hb _ h1) h6 hR, hb _ h2, hb _ h3⟩ ⟨fun a U g mk q => by obtain ⟨q0, qP, qK⟩ := q; exact ⟨q0, qP, va_K.moved (u := U) (U := U.calling g mk a) (Vm.Alike.refl U.vm) qK⟩, by rw [← hqc]; exact va_recv F.2.2.1 hPm hq (wl_at (by decide) (cm0 D Bm _ _)), fun U hU hW => ⟨rfl, by rw [hU]; exact hPm, va_K.moved hW.alike F.2.2.1⟩⟩ rfl hn hl.1 rfl (lv_room hcat) hd ⟨Nat.le_of_ble_eq_true rfl, Nat.le_of_ble_eq_true rfl⟩) hS (fun q _ h => Nat.le_trans (Nat.le_trans F.2.2.2.2.2.2.2.1 (Nat.le_trans (Nat.le_add_right _ _) F.2.2.2.2.2.2.2.2)) h.1) (fun q h => Nat.le_trans (Nat.le_trans F.2.2.2.2.2.2.2.1 (Nat.le_trans (Nat.le_add_right _ _) F.2.2.2.2.2.2.2.2)) h.1) (fun r u t H1 locs1 ht hvm hw hB1 hz1 hk1 hS1 => k r u.1 u.2 hw H1 locs1 ls (hP.kept (fun i q hi => hk1 q.1 ((hP i q hi).lt) (fun hF => by have := hF.1; have := hF.2; obtain ⟨g1, rfl⟩ := wl_inv hi; have hb2 := F.2.2.2.2.2.2.2.2; dsimp only at *; omega))) (by rw [← ht]; exact hB1.1) hS1 hl)
set_option maxRecDepth 100000 in
set_option maxHeartbeats 4000000 in
theorem lc_type (F : FLw p s m meth c b n xs D B Bm) (hn : n ≤ 320) {i : Nat} (hi : i + 5 ≤ n) (h : Rel T M Tm Mm) (K : ∀ (T1 : Int64) (M1 : Mem) (Tm1 : Int64) (Mm1 : Mem), Rel T1 M1 Tm1 Mm1 → GL p l e s m below meth c b D B Bm T1 M1 Tm1 Mm1 871 [(3, .int (nI i)), (2, .ref (Bm + 0)), (1, .ref (B + 0)), (0, .ref b)] []) : GL p l e s m below meth c b D B Bm T M Tm Mm 152 [(3, .int (nI i)), (2, .ref (Bm + 0)), (1, .ref (B + 0)), (0, .ref b)] [] := by
  refine gl_aload_n F 2 (dk dtL_law_0 22 rfl) rfl ?_
  refine gl_aload_n F 3 (dk dtL_law_0 23 rfl) rfl ?_
  refine gl_iload_n F 0 (dk dtL_law_0 24 rfl) rfl ?_
  refine gl_iconst F (nI 1) (dk dtL_law_0 25 rfl) (by decide) ?_
  refine gl_iaddN F (dk dtL_law_0 26 rfl) ?_
  refine gl_sld F (dk dtL_law_0 27 rfl) (by omega) (by omega) ?_
  obtain ⟨pc, pm, hc, hm, hag⟩ := ag_type (l := l) (D := D) (B := B) (Bm := Bm) h (xs (i + 1))
  refine gl_callC F (As := [.int (xs (i + 1))]) (st := []) cv_L_13 (dk dtL_law_0 28 rfl) rfl rfl (by decide) ⟨by decide, by decide⟩ hc (fun r T1 M1 hr => ?_)
  refine gl_aload_n F 1 (dk dtL_law_0 29 rfl) rfl ?_
  refine gl_aload_n F 3 (dk dtL_law_0 30 rfl) rfl ?_
  refine gl_iload_n F 0 (dk dtL_law_0 31 rfl) rfl ?_
  refine gl_iconst F (nI 1) (dk dtL_law_0 32 rfl) (by decide) ?_
  refine gl_iaddN F (dk dtL_law_0 33 rfl) ?_
  refine gl_sld F (dk dtL_law_0 34 rfl) (by omega) (by omega) ?_
  refine gl_callM F (As := [.int (xs (i + 1))]) (st := [.int r]) cv_L_17 (dk dtL_law_0 35 rfl) rfl rfl (Nat.le_of_ble_eq_true rfl) ⟨by decide, by decide⟩ hm (fun r1 Tm1 Mm1 hr1 => ?_)
  obtain ⟨he, hR⟩ := hag r T1 M1 r1 Tm1 Mm1 hr hr1
  exact gl_eq F 871 (dk dtL_law_0 36 rfl) (by decide) he (K _ _ _ _ hR)
set_option maxRecDepth 100000 in
set_option maxHeartbeats 4000000 in
theorem lc_clear (F : FLw p s m meth c b n xs D B Bm) (hn : n ≤ 320) {i : Nat} (hi : i + 5 ≤ n) (h : Rel T M Tm Mm) (K : ∀ (T1 : Int64) (M1 : Mem) (Tm1 : Int64) (Mm1 : Mem), Rel T1 M1 Tm1 Mm1 → GL p l e s m below meth c b D B Bm T1 M1 Tm1 Mm1 871 [(3, .int (nI i)), (2, .ref (Bm + 0)), (1, .ref (B + 0)), (0, .ref b)] []) : GL p l e s m below meth c b D B Bm T M Tm Mm 175 [(3, .int (nI i)), (2, .ref (Bm + 0)), (1, .ref (B + 0)), (0, .ref b)] [] := by
  refine gl_aload_n F 2 (dk dtL_law_0 39 rfl) rfl ?_
  obtain ⟨pc, pm, hc, hm, hag⟩ := ag_clear (l := l) (D := D) (B := B) (Bm := Bm) h 
  refine gl_callC F (As := []) (st := []) cv_L_18 (dk dtL_law_0 40 rfl) rfl rfl (by decide) ⟨by decide, by decide⟩ hc (fun r T1 M1 hr => ?_)
  refine gl_aload_n F 1 (dk dtL_law_0 41 rfl) rfl ?_
  refine gl_callM F (As := []) (st := [.int r]) cv_L_22 (dk dtL_law_0 42 rfl) rfl rfl (Nat.le_of_ble_eq_true rfl) ⟨by decide, by decide⟩ hm (fun r1 Tm1 Mm1 hr1 => ?_)
  obtain ⟨he, hR⟩ := hag r T1 M1 r1 Tm1 Mm1 hr hr1
  exact gl_eq F 871 (dk dtL_law_0 43 rfl) (by decide) he (K _ _ _ _ hR)
set_option maxRecDepth 100000 in
set_option maxHeartbeats 4000000 in
theorem lc_town (F : FLw p s m meth c b n xs D B Bm) (hn : n ≤ 320) {i : Nat} (hi : i + 5 ≤ n) (h : Rel T M Tm Mm) (K : ∀ (T1 : Int64) (M1 : Mem) (Tm1 : Int64) (Mm1 : Mem), Rel T1 M1 Tm1 Mm1 → GL p l e s m below meth c b D B Bm T1 M1 Tm1 Mm1 871 [(3, .int (nI i)), (2, .ref (Bm + 0)), (1, .ref (B + 0)), (0, .ref b)] []) : GL p l e s m below meth c b D B Bm T M Tm Mm 188 [(3, .int (nI i)), (2, .ref (Bm + 0)), (1, .ref (B + 0)), (0, .ref b)] [] := by
  refine gl_aload_n F 2 (dk dtL_law_0 46 rfl) rfl ?_
  obtain ⟨pc, pm, hc, hm, hag⟩ := ag_town (l := l) (D := D) (B := B) (Bm := Bm) h 
  refine gl_callC F (As := []) (st := []) cv_L_23 (dk dtL_law_0 47 rfl) rfl rfl (by decide) ⟨by decide, by decide⟩ hc (fun r T1 M1 hr => ?_)
  refine gl_aload_n F 1 (dk dtL_law_0 48 rfl) rfl ?_
  refine gl_callM F (As := []) (st := [.int r]) cv_L_26 (dk dtL_law_0 49 rfl) rfl rfl (Nat.le_of_ble_eq_true rfl) ⟨by decide, by decide⟩ hm (fun r1 Tm1 Mm1 hr1 => ?_)
  obtain ⟨he, hR⟩ := hag r T1 M1 r1 Tm1 Mm1 hr hr1
  exact gl_eq F 871 (dk dtL_law_0 50 rfl) (by decide) he (K _ _ _ _ hR)
set_option maxRecDepth 100000 in
set_option maxHeartbeats 4000000 in
theorem lc_person (F : FLw p s m meth c b n xs D B Bm) (hn : n ≤ 320) {i : Nat} (hi : i + 5 ≤ n) (h : Rel T M Tm Mm) (K : ∀ (T1 : Int64) (M1 : Mem) (Tm1 : Int64) (Mm1 : Mem), Rel T1 M1 Tm1 Mm1 → GL p l e s m below meth c b D B Bm T1 M1 Tm1 Mm1 871 [(3, .int (nI i)), (2, .ref (Bm + 0)), (1, .ref (B + 0)), (0, .ref b)] []) : GL p l e s m below meth c b D B Bm T M Tm Mm 201 [(3, .int (nI i)), (2, .ref (Bm + 0)), (1, .ref (B + 0)), (0, .ref b)] [] := by
  refine gl_aload_n F 2 (dk dtL_law_0 53 rfl) rfl ?_
  refine gl_aload_n F 3 (dk dtL_law_0 54 rfl) rfl ?_
  refine gl_iload_n F 0 (dk dtL_law_0 55 rfl) rfl ?_
  refine gl_iconst F (nI 1) (dk dtL_law_0 56 rfl) (by decide) ?_
  refine gl_iaddN F (dk dtL_law_0 57 rfl) ?_
  refine gl_sld F (dk dtL_law_0 58 rfl) (by omega) (by omega) ?_
  refine gl_aload_n F 3 (dk dtL_law_0 59 rfl) rfl ?_
  refine gl_iload_n F 0 (dk dtL_law_1 0 rfl) rfl ?_
  refine gl_iconst F (nI 2) (dk dtL_law_1 1 rfl) (by decide) ?_
  refine gl_iaddN F (dk dtL_law_1 2 rfl) ?_
  refine gl_sld F (dk dtL_law_1 3 rfl) (by omega) (by omega) ?_
  obtain ⟨pc, pm, hc, hm, hag⟩ := ag_person (l := l) (D := D) (B := B) (Bm := Bm) h (xs (i + 1)) (xs (i + 2))
  refine gl_callC F (As := [.int (xs (i + 1)), .int (xs (i + 2))]) (st := []) cv_L_27 (dk dtL_law_1 4 rfl) rfl rfl (by decide) ⟨by decide, by decide⟩ hc (fun r T1 M1 hr => ?_)
  refine gl_aload_n F 1 (dk dtL_law_1 5 rfl) rfl ?_
  refine gl_aload_n F 3 (dk dtL_law_1 6 rfl) rfl ?_
  refine gl_iload_n F 0 (dk dtL_law_1 7 rfl) rfl ?_
  refine gl_iconst F (nI 1) (dk dtL_law_1 8 rfl) (by decide) ?_
  refine gl_iaddN F (dk dtL_law_1 9 rfl) ?_
  refine gl_sld F (dk dtL_law_1 10 rfl) (by omega) (by omega) ?_
  refine gl_aload_n F 3 (dk dtL_law_1 11 rfl) rfl ?_
  refine gl_iload_n F 0 (dk dtL_law_1 12 rfl) rfl ?_
  refine gl_iconst F (nI 2) (dk dtL_law_1 13 rfl) (by decide) ?_
  refine gl_iaddN F (dk dtL_law_1 14 rfl) ?_
  refine gl_sld F (dk dtL_law_1 15 rfl) (by omega) (by omega) ?_
  refine gl_callM F (As := [.int (xs (i + 1)), .int (xs (i + 2))]) (st := [.int r]) cv_L_31 (dk dtL_law_1 16 rfl) rfl rfl (Nat.le_of_ble_eq_true rfl) ⟨by decide, by decide⟩ hm (fun r1 Tm1 Mm1 hr1 => ?_)
  obtain ⟨he, hR⟩ := hag r T1 M1 r1 Tm1 Mm1 hr hr1
  exact gl_eq F 871 (dk dtL_law_1 17 rfl) (by decide) he (K _ _ _ _ hR)
set_option maxRecDepth 100000 in
set_option maxHeartbeats 4000000 in
theorem lc_seen (F : FLw p s m meth c b n xs D B Bm) (hn : n ≤ 320) {i : Nat} (hi : i + 5 ≤ n) (h : Rel T M Tm Mm) (K : ∀ (T1 : Int64) (M1 : Mem) (Tm1 : Int64) (Mm1 : Mem), Rel T1 M1 Tm1 Mm1 → GL p l e s m below meth c b D B Bm T1 M1 Tm1 Mm1 871 [(3, .int (nI i)), (2, .ref (Bm + 0)), (1, .ref (B + 0)), (0, .ref b)] []) : GL p l e s m below meth c b D B Bm T M Tm Mm 234 [(3, .int (nI i)), (2, .ref (Bm + 0)), (1, .ref (B + 0)), (0, .ref b)] [] := by
  refine gl_aload_n F 2 (dk dtL_law_1 20 rfl) rfl ?_
  refine gl_aload_n F 3 (dk dtL_law_1 21 rfl) rfl ?_
  refine gl_iload_n F 0 (dk dtL_law_1 22 rfl) rfl ?_
  refine gl_iconst F (nI 1) (dk dtL_law_1 23 rfl) (by decide) ?_
  refine gl_iaddN F (dk dtL_law_1 24 rfl) ?_
  refine gl_sld F (dk dtL_law_1 25 rfl) (by omega) (by omega) ?_
  refine gl_aload_n F 3 (dk dtL_law_1 26 rfl) rfl ?_
  refine gl_iload_n F 0 (dk dtL_law_1 27 rfl) rfl ?_
  refine gl_iconst F (nI 2) (dk dtL_law_1 28 rfl) (by decide) ?_
  refine gl_iaddN F (dk dtL_law_1 29 rfl) ?_
  refine gl_sld F (dk dtL_law_1 30 rfl) (by omega) (by omega) ?_
  obtain ⟨pc, pm, hc, hm, hag⟩ := ag_seen (l := l) (D := D) (B := B) (Bm := Bm) h (xs (i + 1)) (xs (i + 2))
  refine gl_callC F (As := [.int (xs (i + 1)), .int (xs (i + 2))]) (st := []) cv_L_32 (dk dtL_law_1 31 rfl) rfl rfl (by decide) ⟨by decide, by decide⟩ hc (fun r T1 M1 hr => ?_)
  refine gl_aload_n F 1 (dk dtL_law_1 32 rfl) rfl ?_
  refine gl_aload_n F 3 (dk dtL_law_1 33 rfl) rfl ?_
  refine gl_iload_n F 0 (dk dtL_law_1 34 rfl) rfl ?_
  refine gl_iconst F (nI 1) (dk dtL_law_1 35 rfl) (by decide) ?_
  refine gl_iaddN F (dk dtL_law_1 36 rfl) ?_
  refine gl_sld F (dk dtL_law_1 37 rfl) (by omega) (by omega) ?_
  refine gl_aload_n F 3 (dk dtL_law_1 38 rfl) rfl ?_
  refine gl_iload_n F 0 (dk dtL_law_1 39 rfl) rfl ?_
  refine gl_iconst F (nI 2) (dk dtL_law_1 40 rfl) (by decide) ?_
  refine gl_iaddN F (dk dtL_law_1 41 rfl) ?_
  refine gl_sld F (dk dtL_law_1 42 rfl) (by omega) (by omega) ?_
  refine gl_callM F (As := [.int (xs (i + 1)), .int (xs (i + 2))]) (st := [.int r]) cv_L_35 (dk dtL_law_1 43 rfl) rfl rfl (Nat.le_of_ble_eq_true rfl) ⟨by decide, by decide⟩ hm (fun r1 Tm1 Mm1 hr1 => ?_)
  obtain ⟨he, hR⟩ := hag r T1 M1 r1 Tm1 Mm1 hr hr1
  exact gl_eq F 871 (dk dtL_law_1 44 rfl) (by decide) he (K _ _ _ _ hR)
set_option maxRecDepth 100000 in
set_option maxHeartbeats 4000000 in
theorem lc_surprise (F : FLw p s m meth c b n xs D B Bm) (hn : n ≤ 320) {i : Nat} (hi : i + 5 ≤ n) (h : Rel T M Tm Mm) (K : ∀ (T1 : Int64) (M1 : Mem) (Tm1 : Int64) (Mm1 : Mem), Rel T1 M1 Tm1 Mm1 → GL p l e s m below meth c b D B Bm T1 M1 Tm1 Mm1 871 [(3, .int (nI i)), (2, .ref (Bm + 0)), (1, .ref (B + 0)), (0, .ref b)] []) : GL p l e s m below meth c b D B Bm T M Tm Mm 267 [(3, .int (nI i)), (2, .ref (Bm + 0)), (1, .ref (B + 0)), (0, .ref b)] [] := by
  refine gl_aload_n F 2 (dk dtL_law_1 47 rfl) rfl ?_
  refine gl_aload_n F 3 (dk dtL_law_1 48 rfl) rfl ?_
  refine gl_iload_n F 0 (dk dtL_law_1 49 rfl) rfl ?_
  refine gl_iconst F (nI 1) (dk dtL_law_1 50 rfl) (by decide) ?_
  refine gl_iaddN F (dk dtL_law_1 51 rfl) ?_
  refine gl_sld F (dk dtL_law_1 52 rfl) (by omega) (by omega) ?_
  refine gl_aload_n F 3 (dk dtL_law_1 53 rfl) rfl ?_
  refine gl_iload_n F 0 (dk dtL_law_1 54 rfl) rfl ?_
  refine gl_iconst F (nI 2) (dk dtL_law_1 55 rfl) (by decide) ?_
  refine gl_iaddN F (dk dtL_law_1 56 rfl) ?_
  refine gl_sld F (dk dtL_law_1 57 rfl) (by omega) (by omega) ?_
  obtain ⟨pc, pm, hc, hm, hag⟩ := ag_surprise (l := l) (D := D) (B := B) (Bm := Bm) h (xs (i + 1)) (xs (i + 2))
  refine gl_callC F (As := [.int (xs (i + 1)), .int (xs (i + 2))]) (st := []) cv_L_36 (dk dtL_law_1 58 rfl) rfl rfl (by decide) ⟨by decide, by decide⟩ hc (fun r T1 M1 hr => ?_)
  refine gl_aload_n F 1 (dk dtL_law_1 59 rfl) rfl ?_
  refine gl_aload_n F 3 (dk dtL_law_2 0 rfl) rfl ?_
  refine gl_iload_n F 0 (dk dtL_law_2 1 rfl) rfl ?_
  refine gl_iconst F (nI 1) (dk dtL_law_2 2 rfl) (by decide) ?_
  refine gl_iaddN F (dk dtL_law_2 3 rfl) ?_
  refine gl_sld F (dk dtL_law_2 4 rfl) (by omega) (by omega) ?_
  refine gl_aload_n F 3 (dk dtL_law_2 5 rfl) rfl ?_
  refine gl_iload_n F 0 (dk dtL_law_2 6 rfl) rfl ?_
  refine gl_iconst F (nI 2) (dk dtL_law_2 7 rfl) (by decide) ?_
  refine gl_iaddN F (dk dtL_law_2 8 rfl) ?_
  refine gl_sld F (dk dtL_law_2 9 rfl) (by omega) (by omega) ?_
  refine gl_callM F (As := [.int (xs (i + 1)), .int (xs (i + 2))]) (st := [.int r]) cv_L_39 (dk dtL_law_2 10 rfl) rfl rfl (Nat.le_of_ble_eq_true rfl) ⟨by decide, by decide⟩ hm (fun r1 Tm1 Mm1 hr1 => ?_)
  obtain ⟨he, hR⟩ := hag r T1 M1 r1 Tm1 Mm1 hr hr1
  exact gl_eq F 871 (dk dtL_law_2 11 rfl) (by decide) he (K _ _ _ _ hR)
set_option maxRecDepth 100000 in
set_option maxHeartbeats 4000000 in
theorem lc_now (F : FLw p s m meth c b n xs D B Bm) (hn : n ≤ 320) {i : Nat} (hi : i + 5 ≤ n) (h : Rel T M Tm Mm) (K : ∀ (T1 : Int64) (M1 : Mem) (Tm1 : Int64) (Mm1 : Mem), Rel T1 M1 Tm1 Mm1 → GL p l e s m below meth c b D B Bm T1 M1 Tm1 Mm1 871 [(3, .int (nI i)), (2, .ref (Bm + 0)), (1, .ref (B + 0)), (0, .ref b)] []) : GL p l e s m below meth c b D B Bm T M Tm Mm 300 [(3, .int (nI i)), (2, .ref (Bm + 0)), (1, .ref (B + 0)), (0, .ref b)] [] := by
  refine gl_aload_n F 2 (dk dtL_law_2 14 rfl) rfl ?_
  refine gl_aload_n F 3 (dk dtL_law_2 15 rfl) rfl ?_
  refine gl_iload_n F 0 (dk dtL_law_2 16 rfl) rfl ?_
  refine gl_iconst F (nI 1) (dk dtL_law_2 17 rfl) (by decide) ?_
  refine gl_iaddN F (dk dtL_law_2 18 rfl) ?_
  refine gl_sld F (dk dtL_law_2 19 rfl) (by omega) (by omega) ?_
  obtain ⟨pc, pm, hc, hm, hag⟩ := ag_now (l := l) (D := D) (B := B) (Bm := Bm) h (xs (i + 1))
  refine gl_callC F (As := [.int (xs (i + 1))]) (st := []) cv_L_40 (dk dtL_law_2 20 rfl) rfl rfl (by decide) ⟨by decide, by decide⟩ hc (fun r T1 M1 hr => ?_)
  refine gl_aload_n F 1 (dk dtL_law_2 21 rfl) rfl ?_
  refine gl_aload_n F 3 (dk dtL_law_2 22 rfl) rfl ?_
  refine gl_iload_n F 0 (dk dtL_law_2 23 rfl) rfl ?_
  refine gl_iconst F (nI 1) (dk dtL_law_2 24 rfl) (by decide) ?_
  refine gl_iaddN F (dk dtL_law_2 25 rfl) ?_
  refine gl_sld F (dk dtL_law_2 26 rfl) (by omega) (by omega) ?_
  refine gl_callM F (As := [.int (xs (i + 1))]) (st := [.int r]) cv_L_43 (dk dtL_law_2 27 rfl) rfl rfl (Nat.le_of_ble_eq_true rfl) ⟨by decide, by decide⟩ hm (fun r1 Tm1 Mm1 hr1 => ?_)
  obtain ⟨he, hR⟩ := hag r T1 M1 r1 Tm1 Mm1 hr hr1
  exact gl_eq F 871 (dk dtL_law_2 28 rfl) (by decide) he (K _ _ _ _ hR)
set_option maxRecDepth 100000 in
set_option maxHeartbeats 4000000 in
theorem lc_happens (F : FLw p s m meth c b n xs D B Bm) (hn : n ≤ 320) {i : Nat} (hi : i + 5 ≤ n) (h : Rel T M Tm Mm) (K : ∀ (T1 : Int64) (M1 : Mem) (Tm1 : Int64) (Mm1 : Mem), Rel T1 M1 Tm1 Mm1 → GL p l e s m below meth c b D B Bm T1 M1 Tm1 Mm1 871 [(3, .int (nI i)), (2, .ref (Bm + 0)), (1, .ref (B + 0)), (0, .ref b)] []) : GL p l e s m below meth c b D B Bm T M Tm Mm 323 [(3, .int (nI i)), (2, .ref (Bm + 0)), (1, .ref (B + 0)), (0, .ref b)] [] := by
  refine gl_aload_n F 2 (dk dtL_law_2 31 rfl) rfl ?_
  refine gl_aload_n F 3 (dk dtL_law_2 32 rfl) rfl ?_
  refine gl_iload_n F 0 (dk dtL_law_2 33 rfl) rfl ?_
  refine gl_iconst F (nI 1) (dk dtL_law_2 34 rfl) (by decide) ?_
  refine gl_iaddN F (dk dtL_law_2 35 rfl) ?_
  refine gl_sld F (dk dtL_law_2 36 rfl) (by omega) (by omega) ?_
  refine gl_aload_n F 3 (dk dtL_law_2 37 rfl) rfl ?_
  refine gl_iload_n F 0 (dk dtL_law_2 38 rfl) rfl ?_
  refine gl_iconst F (nI 2) (dk dtL_law_2 39 rfl) (by decide) ?_
  refine gl_iaddN F (dk dtL_law_2 40 rfl) ?_
  refine gl_sld F (dk dtL_law_2 41 rfl) (by omega) (by omega) ?_
  obtain ⟨pc, pm, hc, hm, hag⟩ := ag_happens (l := l) (D := D) (B := B) (Bm := Bm) h (xs (i + 1)) (xs (i + 2))
  refine gl_callC F (As := [.int (xs (i + 1)), .int (xs (i + 2))]) (st := []) cv_L_44 (dk dtL_law_2 42 rfl) rfl rfl (by decide) ⟨by decide, by decide⟩ hc (fun r T1 M1 hr => ?_)
  refine gl_aload_n F 1 (dk dtL_law_2 43 rfl) rfl ?_
  refine gl_aload_n F 3 (dk dtL_law_2 44 rfl) rfl ?_
  refine gl_iload_n F 0 (dk dtL_law_2 45 rfl) rfl ?_
  refine gl_iconst F (nI 1) (dk dtL_law_2 46 rfl) (by decide) ?_
  refine gl_iaddN F (dk dtL_law_2 47 rfl) ?_
  refine gl_sld F (dk dtL_law_2 48 rfl) (by omega) (by omega) ?_
  refine gl_aload_n F 3 (dk dtL_law_2 49 rfl) rfl ?_
  refine gl_iload_n F 0 (dk dtL_law_2 50 rfl) rfl ?_
  refine gl_iconst F (nI 2) (dk dtL_law_2 51 rfl) (by decide) ?_
  refine gl_iaddN F (dk dtL_law_2 52 rfl) ?_
  refine gl_sld F (dk dtL_law_2 53 rfl) (by omega) (by omega) ?_
  refine gl_callM F (As := [.int (xs (i + 1)), .int (xs (i + 2))]) (st := [.int r]) cv_L_47 (dk dtL_law_2 54 rfl) rfl rfl (Nat.le_of_ble_eq_true rfl) ⟨by decide, by decide⟩ hm (fun r1 Tm1 Mm1 hr1 => ?_)
  obtain ⟨he, hR⟩ := hag r T1 M1 r1 Tm1 Mm1 hr hr1
  exact gl_eq F 871 (dk dtL_law_2 55 rfl) (by decide) he (K _ _ _ _ hR)
set_option maxRecDepth 100000 in
set_option maxHeartbeats 4000000 in
theorem lc_walks (F : FLw p s m meth c b n xs D B Bm) (hn : n ≤ 320) {i : Nat} (hi : i + 5 ≤ n) (h : Rel T M Tm Mm) (K : ∀ (T1 : Int64) (M1 : Mem) (Tm1 : Int64) (Mm1 : Mem), Rel T1 M1 Tm1 Mm1 → GL p l e s m below meth c b D B Bm T1 M1 Tm1 Mm1 871 [(3, .int (nI i)), (2, .ref (Bm + 0)), (1, .ref (B + 0)), (0, .ref b)] []) : GL p l e s m below meth c b D B Bm T M Tm Mm 356 [(3, .int (nI i)), (2, .ref (Bm + 0)), (1, .ref (B + 0)), (0, .ref b)] [] := by
  refine gl_aload_n F 2 (dk dtL_law_2 58 rfl) rfl ?_
  refine gl_aload_n F 3 (dk dtL_law_2 59 rfl) rfl ?_
  refine gl_iload_n F 0 (dk dtL_law_3 0 rfl) rfl ?_
  refine gl_iconst F (nI 1) (dk dtL_law_3 1 rfl) (by decide) ?_
  refine gl_iaddN F (dk dtL_law_3 2 rfl) ?_
  refine gl_sld F (dk dtL_law_3 3 rfl) (by omega) (by omega) ?_
  refine gl_aload_n F 3 (dk dtL_law_3 4 rfl) rfl ?_
  refine gl_iload_n F 0 (dk dtL_law_3 5 rfl) rfl ?_
  refine gl_iconst F (nI 2) (dk dtL_law_3 6 rfl) (by decide) ?_
  refine gl_iaddN F (dk dtL_law_3 7 rfl) ?_
  refine gl_sld F (dk dtL_law_3 8 rfl) (by omega) (by omega) ?_
  obtain ⟨pc, pm, hc, hm, hag⟩ := ag_walks (l := l) (D := D) (B := B) (Bm := Bm) h (xs (i + 1)) (xs (i + 2))
  refine gl_callC F (As := [.int (xs (i + 1)), .int (xs (i + 2))]) (st := []) cv_L_48 (dk dtL_law_3 9 rfl) rfl rfl (by decide) ⟨by decide, by decide⟩ hc (fun r T1 M1 hr => ?_)
  refine gl_aload_n F 1 (dk dtL_law_3 10 rfl) rfl ?_
  refine gl_aload_n F 3 (dk dtL_law_3 11 rfl) rfl ?_
  refine gl_iload_n F 0 (dk dtL_law_3 12 rfl) rfl ?_
  refine gl_iconst F (nI 1) (dk dtL_law_3 13 rfl) (by decide) ?_
  refine gl_iaddN F (dk dtL_law_3 14 rfl) ?_
  refine gl_sld F (dk dtL_law_3 15 rfl) (by omega) (by omega) ?_
  refine gl_aload_n F 3 (dk dtL_law_3 16 rfl) rfl ?_
  refine gl_iload_n F 0 (dk dtL_law_3 17 rfl) rfl ?_
  refine gl_iconst F (nI 2) (dk dtL_law_3 18 rfl) (by decide) ?_
  refine gl_iaddN F (dk dtL_law_3 19 rfl) ?_
  refine gl_sld F (dk dtL_law_3 20 rfl) (by omega) (by omega) ?_
  refine gl_callM F (As := [.int (xs (i + 1)), .int (xs (i + 2))]) (st := [.int r]) cv_L_51 (dk dtL_law_3 21 rfl) rfl rfl (Nat.le_of_ble_eq_true rfl) ⟨by decide, by decide⟩ hm (fun r1 Tm1 Mm1 hr1 => ?_)
  obtain ⟨he, hR⟩ := hag r T1 M1 r1 Tm1 Mm1 hr hr1
  exact gl_eq F 871 (dk dtL_law_3 22 rfl) (by decide) he (K _ _ _ _ hR)
set_option maxRecDepth 100000 in
set_option maxHeartbeats 4000000 in
theorem lc_tells (F : FLw p s m meth c b n xs D B Bm) (hn : n ≤ 320) {i : Nat} (hi : i + 5 ≤ n) (h : Rel T M Tm Mm) (K : ∀ (T1 : Int64) (M1 : Mem) (Tm1 : Int64) (Mm1 : Mem), Rel T1 M1 Tm1 Mm1 → GL p l e s m below meth c b D B Bm T1 M1 Tm1 Mm1 871 [(3, .int (nI i)), (2, .ref (Bm + 0)), (1, .ref (B + 0)), (0, .ref b)] []) : GL p l e s m below meth c b D B Bm T M Tm Mm 389 [(3, .int (nI i)), (2, .ref (Bm + 0)), (1, .ref (B + 0)), (0, .ref b)] [] := by
  refine gl_aload_n F 2 (dk dtL_law_3 25 rfl) rfl ?_
  refine gl_aload_n F 3 (dk dtL_law_3 26 rfl) rfl ?_
  refine gl_iload_n F 0 (dk dtL_law_3 27 rfl) rfl ?_
  refine gl_iconst F (nI 1) (dk dtL_law_3 28 rfl) (by decide) ?_
  refine gl_iaddN F (dk dtL_law_3 29 rfl) ?_
  refine gl_sld F (dk dtL_law_3 30 rfl) (by omega) (by omega) ?_
  refine gl_aload_n F 3 (dk dtL_law_3 31 rfl) rfl ?_
  refine gl_iload_n F 0 (dk dtL_law_3 32 rfl) rfl ?_
  refine gl_iconst F (nI 2) (dk dtL_law_3 33 rfl) (by decide) ?_
  refine gl_iaddN F (dk dtL_law_3 34 rfl) ?_
  refine gl_sld F (dk dtL_law_3 35 rfl) (by omega) (by omega) ?_
  obtain ⟨pc, pm, hc, hm, hag⟩ := ag_tells (l := l) (D := D) (B := B) (Bm := Bm) h (xs (i + 1)) (xs (i + 2))
  refine gl_callC F (As := [.int (xs (i + 1)), .int (xs (i + 2))]) (st := []) cv_L_52 (dk dtL_law_3 36 rfl) rfl rfl (by decide) ⟨by decide, by decide⟩ hc (fun r T1 M1 hr => ?_)
  refine gl_aload_n F 1 (dk dtL_law_3 37 rfl) rfl ?_
  refine gl_aload_n F 3 (dk dtL_law_3 38 rfl) rfl ?_
  refine gl_iload_n F 0 (dk dtL_law_3 39 rfl) rfl ?_
  refine gl_iconst F (nI 1) (dk dtL_law_3 40 rfl) (by decide) ?_
  refine gl_iaddN F (dk dtL_law_3 41 rfl) ?_
  refine gl_sld F (dk dtL_law_3 42 rfl) (by omega) (by omega) ?_
  refine gl_aload_n F 3 (dk dtL_law_3 43 rfl) rfl ?_
  refine gl_iload_n F 0 (dk dtL_law_3 44 rfl) rfl ?_
  refine gl_iconst F (nI 2) (dk dtL_law_3 45 rfl) (by decide) ?_
  refine gl_iaddN F (dk dtL_law_3 46 rfl) ?_
  refine gl_sld F (dk dtL_law_3 47 rfl) (by omega) (by omega) ?_
  refine gl_callM F (As := [.int (xs (i + 1)), .int (xs (i + 2))]) (st := [.int r]) cv_L_55 (dk dtL_law_3 48 rfl) rfl rfl (Nat.le_of_ble_eq_true rfl) ⟨by decide, by decide⟩ hm (fun r1 Tm1 Mm1 hr1 => ?_)
  obtain ⟨he, hR⟩ := hag r T1 M1 r1 Tm1 Mm1 hr hr1
  exact gl_eq F 871 (dk dtL_law_3 49 rfl) (by decide) he (K _ _ _ _ hR)
set_option maxRecDepth 100000 in
set_option maxHeartbeats 4000000 in
theorem lc_abdicates (F : FLw p s m meth c b n xs D B Bm) (hn : n ≤ 320) {i : Nat} (hi : i + 5 ≤ n) (h : Rel T M Tm Mm) (K : ∀ (T1 : Int64) (M1 : Mem) (Tm1 : Int64) (Mm1 : Mem), Rel T1 M1 Tm1 Mm1 → GL p l e s m below meth c b D B Bm T1 M1 Tm1 Mm1 871 [(3, .int (nI i)), (2, .ref (Bm + 0)), (1, .ref (B + 0)), (0, .ref b)] []) : GL p l e s m below meth c b D B Bm T M Tm Mm 422 [(3, .int (nI i)), (2, .ref (Bm + 0)), (1, .ref (B + 0)), (0, .ref b)] [] := by
  refine gl_aload_n F 2 (dk dtL_law_3 52 rfl) rfl ?_
  obtain ⟨pc, pm, hc, hm, hag⟩ := ag_abdicates (l := l) (D := D) (B := B) (Bm := Bm) h 
  refine gl_callC F (As := []) (st := []) cv_L_56 (dk dtL_law_3 53 rfl) rfl rfl (by decide) ⟨by decide, by decide⟩ hc (fun r T1 M1 hr => ?_)
  refine gl_aload_n F 1 (dk dtL_law_3 54 rfl) rfl ?_
  refine gl_callM F (As := []) (st := [.int r]) cv_L_59 (dk dtL_law_3 55 rfl) rfl rfl (Nat.le_of_ble_eq_true rfl) ⟨by decide, by decide⟩ hm (fun r1 Tm1 Mm1 hr1 => ?_)
  obtain ⟨he, hR⟩ := hag r T1 M1 r1 Tm1 Mm1 hr hr1
  exact gl_eq F 871 (dk dtL_law_3 56 rfl) (by decide) he (K _ _ _ _ hR)
set_option maxRecDepth 100000 in
set_option maxHeartbeats 4000000 in
theorem lc_undo (F : FLw p s m meth c b n xs D B Bm) (hn : n ≤ 320) {i : Nat} (hi : i + 5 ≤ n) (h : Rel T M Tm Mm) (K : ∀ (T1 : Int64) (M1 : Mem) (Tm1 : Int64) (Mm1 : Mem), Rel T1 M1 Tm1 Mm1 → GL p l e s m below meth c b D B Bm T1 M1 Tm1 Mm1 871 [(3, .int (nI i)), (2, .ref (Bm + 0)), (1, .ref (B + 0)), (0, .ref b)] []) : GL p l e s m below meth c b D B Bm T M Tm Mm 435 [(3, .int (nI i)), (2, .ref (Bm + 0)), (1, .ref (B + 0)), (0, .ref b)] [] := by
  refine gl_aload_n F 2 (dk dtL_law_3 59 rfl) rfl ?_
  obtain ⟨pc, pm, hc, hm, hag⟩ := ag_undo (l := l) (D := D) (B := B) (Bm := Bm) h 
  refine gl_callC F (As := []) (st := []) cv_L_60 (dk dtL_law_4 0 rfl) rfl rfl (by decide) ⟨by decide, by decide⟩ hc (fun r T1 M1 hr => ?_)
  refine gl_aload_n F 1 (dk dtL_law_4 1 rfl) rfl ?_
  refine gl_callM F (As := []) (st := [.int r]) cv_L_63 (dk dtL_law_4 2 rfl) rfl rfl (Nat.le_of_ble_eq_true rfl) ⟨by decide, by decide⟩ hm (fun r1 Tm1 Mm1 hr1 => ?_)
  obtain ⟨he, hR⟩ := hag r T1 M1 r1 Tm1 Mm1 hr hr1
  exact gl_eq F 871 (dk dtL_law_4 3 rfl) (by decide) he (K _ _ _ _ hR)
set_option maxRecDepth 100000 in
set_option maxHeartbeats 4000000 in
theorem lc_who (F : FLw p s m meth c b n xs D B Bm) (hn : n ≤ 320) {i : Nat} (hi : i + 5 ≤ n) (h : Rel T M Tm Mm) (K : ∀ (T1 : Int64) (M1 : Mem) (Tm1 : Int64) (Mm1 : Mem), Rel T1 M1 Tm1 Mm1 → GL p l e s m below meth c b D B Bm T1 M1 Tm1 Mm1 871 [(3, .int (nI i)), (2, .ref (Bm + 0)), (1, .ref (B + 0)), (0, .ref b)] []) : GL p l e s m below meth c b D B Bm T M Tm Mm 448 [(3, .int (nI i)), (2, .ref (Bm + 0)), (1, .ref (B + 0)), (0, .ref b)] [] := by
  refine gl_aload_n F 2 (dk dtL_law_4 6 rfl) rfl ?_
  refine gl_aload_n F 3 (dk dtL_law_4 7 rfl) rfl ?_
  refine gl_iload_n F 0 (dk dtL_law_4 8 rfl) rfl ?_
  refine gl_iconst F (nI 1) (dk dtL_law_4 9 rfl) (by decide) ?_
  refine gl_iaddN F (dk dtL_law_4 10 rfl) ?_
  refine gl_sld F (dk dtL_law_4 11 rfl) (by omega) (by omega) ?_
  refine gl_aload_n F 3 (dk dtL_law_4 12 rfl) rfl ?_
  refine gl_iload_n F 0 (dk dtL_law_4 13 rfl) rfl ?_
  refine gl_iconst F (nI 2) (dk dtL_law_4 14 rfl) (by decide) ?_
  refine gl_iaddN F (dk dtL_law_4 15 rfl) ?_
  refine gl_sld F (dk dtL_law_4 16 rfl) (by omega) (by omega) ?_
  obtain ⟨pc, pm, hc, hm, hag⟩ := ag_who (l := l) (D := D) (B := B) (Bm := Bm) h (xs (i + 1)) (xs (i + 2))
  refine gl_callC F (As := [.int (xs (i + 1)), .int (xs (i + 2))]) (st := []) cv_L_64 (dk dtL_law_4 17 rfl) rfl rfl (by decide) ⟨by decide, by decide⟩ hc (fun r T1 M1 hr => ?_)
  refine gl_aload_n F 1 (dk dtL_law_4 18 rfl) rfl ?_
  refine gl_aload_n F 3 (dk dtL_law_4 19 rfl) rfl ?_
  refine gl_iload_n F 0 (dk dtL_law_4 20 rfl) rfl ?_
  refine gl_iconst F (nI 1) (dk dtL_law_4 21 rfl) (by decide) ?_
  refine gl_iaddN F (dk dtL_law_4 22 rfl) ?_
  refine gl_sld F (dk dtL_law_4 23 rfl) (by omega) (by omega) ?_
  refine gl_aload_n F 3 (dk dtL_law_4 24 rfl) rfl ?_
  refine gl_iload_n F 0 (dk dtL_law_4 25 rfl) rfl ?_
  refine gl_iconst F (nI 2) (dk dtL_law_4 26 rfl) (by decide) ?_
  refine gl_iaddN F (dk dtL_law_4 27 rfl) ?_
  refine gl_sld F (dk dtL_law_4 28 rfl) (by omega) (by omega) ?_
  refine gl_callM F (As := [.int (xs (i + 1)), .int (xs (i + 2))]) (st := [.int r]) cv_L_67 (dk dtL_law_4 29 rfl) rfl rfl (Nat.le_of_ble_eq_true rfl) ⟨by decide, by decide⟩ hm (fun r1 Tm1 Mm1 hr1 => ?_)
  obtain ⟨he, hR⟩ := hag r T1 M1 r1 Tm1 Mm1 hr hr1
  exact gl_eq F 871 (dk dtL_law_4 30 rfl) (by decide) he (K _ _ _ _ hR)
set_option maxRecDepth 100000 in
set_option maxHeartbeats 4000000 in
theorem lc_plan (F : FLw p s m meth c b n xs D B Bm) (hn : n ≤ 320) {i : Nat} (hi : i + 5 ≤ n) (h : Rel T M Tm Mm) (K : ∀ (T1 : Int64) (M1 : Mem) (Tm1 : Int64) (Mm1 : Mem), Rel T1 M1 Tm1 Mm1 → GL p l e s m below meth c b D B Bm T1 M1 Tm1 Mm1 871 [(3, .int (nI i)), (2, .ref (Bm + 0)), (1, .ref (B + 0)), (0, .ref b)] []) : GL p l e s m below meth c b D B Bm T M Tm Mm 481 [(3, .int (nI i)), (2, .ref (Bm + 0)), (1, .ref (B + 0)), (0, .ref b)] [] := by
  refine gl_aload_n F 2 (dk dtL_law_4 33 rfl) rfl ?_
  refine gl_aload_n F 3 (dk dtL_law_4 34 rfl) rfl ?_
  refine gl_iload_n F 0 (dk dtL_law_4 35 rfl) rfl ?_
  refine gl_iconst F (nI 1) (dk dtL_law_4 36 rfl) (by decide) ?_
  refine gl_iaddN F (dk dtL_law_4 37 rfl) ?_
  refine gl_sld F (dk dtL_law_4 38 rfl) (by omega) (by omega) ?_
  refine gl_aload_n F 3 (dk dtL_law_4 39 rfl) rfl ?_
  refine gl_iload_n F 0 (dk dtL_law_4 40 rfl) rfl ?_
  refine gl_iconst F (nI 2) (dk dtL_law_4 41 rfl) (by decide) ?_
  refine gl_iaddN F (dk dtL_law_4 42 rfl) ?_
  refine gl_sld F (dk dtL_law_4 43 rfl) (by omega) (by omega) ?_
  obtain ⟨pc, pm, hc, hm, hag⟩ := ag_plan (l := l) (D := D) (B := B) (Bm := Bm) h (xs (i + 1)) (xs (i + 2))
  refine gl_callC F (As := [.int (xs (i + 1)), .int (xs (i + 2))]) (st := []) cv_L_68 (dk dtL_law_4 44 rfl) rfl rfl (by decide) ⟨by decide, by decide⟩ hc (fun r T1 M1 hr => ?_)
  refine gl_aload_n F 1 (dk dtL_law_4 45 rfl) rfl ?_
  refine gl_aload_n F 3 (dk dtL_law_4 46 rfl) rfl ?_
  refine gl_iload_n F 0 (dk dtL_law_4 47 rfl) rfl ?_
  refine gl_iconst F (nI 1) (dk dtL_law_4 48 rfl) (by decide) ?_
  refine gl_iaddN F (dk dtL_law_4 49 rfl) ?_
  refine gl_sld F (dk dtL_law_4 50 rfl) (by omega) (by omega) ?_
  refine gl_aload_n F 3 (dk dtL_law_4 51 rfl) rfl ?_
  refine gl_iload_n F 0 (dk dtL_law_4 52 rfl) rfl ?_
  refine gl_iconst F (nI 2) (dk dtL_law_4 53 rfl) (by decide) ?_
  refine gl_iaddN F (dk dtL_law_4 54 rfl) ?_
  refine gl_sld F (dk dtL_law_4 55 rfl) (by omega) (by omega) ?_
  refine gl_callM F (As := [.int (xs (i + 1)), .int (xs (i + 2))]) (st := [.int r]) cv_L_71 (dk dtL_law_4 56 rfl) rfl rfl (Nat.le_of_ble_eq_true rfl) ⟨by decide, by decide⟩ hm (fun r1 Tm1 Mm1 hr1 => ?_)
  obtain ⟨he, hR⟩ := hag r T1 M1 r1 Tm1 Mm1 hr hr1
  exact gl_eq F 871 (dk dtL_law_4 57 rfl) (by decide) he (K _ _ _ _ hR)
set_option maxRecDepth 100000 in
set_option maxHeartbeats 4000000 in
theorem lc_duel (F : FLw p s m meth c b n xs D B Bm) (hn : n ≤ 320) {i : Nat} (hi : i + 5 ≤ n) (h : Rel T M Tm Mm) (K : ∀ (T1 : Int64) (M1 : Mem) (Tm1 : Int64) (Mm1 : Mem), Rel T1 M1 Tm1 Mm1 → GL p l e s m below meth c b D B Bm T1 M1 Tm1 Mm1 871 [(3, .int (nI i)), (2, .ref (Bm + 0)), (1, .ref (B + 0)), (0, .ref b)] []) : GL p l e s m below meth c b D B Bm T M Tm Mm 514 [(3, .int (nI i)), (2, .ref (Bm + 0)), (1, .ref (B + 0)), (0, .ref b)] [] := by
  refine gl_aload_n F 2 (dk dtL_law_5 0 rfl) rfl ?_
  refine gl_aload_n F 3 (dk dtL_law_5 1 rfl) rfl ?_
  refine gl_iload_n F 0 (dk dtL_law_5 2 rfl) rfl ?_
  refine gl_iconst F (nI 1) (dk dtL_law_5 3 rfl) (by decide) ?_
  refine gl_iaddN F (dk dtL_law_5 4 rfl) ?_
  refine gl_sld F (dk dtL_law_5 5 rfl) (by omega) (by omega) ?_
  refine gl_aload_n F 3 (dk dtL_law_5 6 rfl) rfl ?_
  refine gl_iload_n F 0 (dk dtL_law_5 7 rfl) rfl ?_
  refine gl_iconst F (nI 2) (dk dtL_law_5 8 rfl) (by decide) ?_
  refine gl_iaddN F (dk dtL_law_5 9 rfl) ?_
  refine gl_sld F (dk dtL_law_5 10 rfl) (by omega) (by omega) ?_
  refine gl_aload_n F 3 (dk dtL_law_5 11 rfl) rfl ?_
  refine gl_iload_n F 0 (dk dtL_law_5 12 rfl) rfl ?_
  refine gl_iconst F (nI 3) (dk dtL_law_5 13 rfl) (by decide) ?_
  refine gl_iaddN F (dk dtL_law_5 14 rfl) ?_
  refine gl_sld F (dk dtL_law_5 15 rfl) (by omega) (by omega) ?_
  obtain ⟨pc, pm, hc, hm, hag⟩ := ag_duel (l := l) (D := D) (B := B) (Bm := Bm) h (xs (i + 1)) (xs (i + 2)) (xs (i + 3))
  refine gl_callC F (As := [.int (xs (i + 1)), .int (xs (i + 2)), .int (xs (i + 3))]) (st := []) cv_L_72 (dk dtL_law_5 16 rfl) rfl rfl (by decide) ⟨by decide, by decide⟩ hc (fun r T1 M1 hr => ?_)
  refine gl_aload_n F 1 (dk dtL_law_5 17 rfl) rfl ?_
  refine gl_aload_n F 3 (dk dtL_law_5 18 rfl) rfl ?_
  refine gl_iload_n F 0 (dk dtL_law_5 19 rfl) rfl ?_
  refine gl_iconst F (nI 1) (dk dtL_law_5 20 rfl) (by decide) ?_
  refine gl_iaddN F (dk dtL_law_5 21 rfl) ?_
  refine gl_sld F (dk dtL_law_5 22 rfl) (by omega) (by omega) ?_
  refine gl_aload_n F 3 (dk dtL_law_5 23 rfl) rfl ?_
  refine gl_iload_n F 0 (dk dtL_law_5 24 rfl) rfl ?_
  refine gl_iconst F (nI 2) (dk dtL_law_5 25 rfl) (by decide) ?_
  refine gl_iaddN F (dk dtL_law_5 26 rfl) ?_
  refine gl_sld F (dk dtL_law_5 27 rfl) (by omega) (by omega) ?_
  refine gl_aload_n F 3 (dk dtL_law_5 28 rfl) rfl ?_
  refine gl_iload_n F 0 (dk dtL_law_5 29 rfl) rfl ?_
  refine gl_iconst F (nI 3) (dk dtL_law_5 30 rfl) (by decide) ?_
  refine gl_iaddN F (dk dtL_law_5 31 rfl) ?_
  refine gl_sld F (dk dtL_law_5 32 rfl) (by omega) (by omega) ?_
  refine gl_callM F (As := [.int (xs (i + 1)), .int (xs (i + 2)), .int (xs (i + 3))]) (st := [.int r]) cv_L_76 (dk dtL_law_5 33 rfl) rfl rfl (Nat.le_of_ble_eq_true rfl) ⟨by decide, by decide⟩ hm (fun r1 Tm1 Mm1 hr1 => ?_)
  obtain ⟨he, hR⟩ := hag r T1 M1 r1 Tm1 Mm1 hr hr1
  exact gl_eq F 871 (dk dtL_law_5 34 rfl) (by decide) he (K _ _ _ _ hR)
set_option maxRecDepth 100000 in
set_option maxHeartbeats 4000000 in
theorem lc_stale (F : FLw p s m meth c b n xs D B Bm) (hn : n ≤ 320) {i : Nat} (hi : i + 5 ≤ n) (h : Rel T M Tm Mm) (K : ∀ (T1 : Int64) (M1 : Mem) (Tm1 : Int64) (Mm1 : Mem), Rel T1 M1 Tm1 Mm1 → GL p l e s m below meth c b D B Bm T1 M1 Tm1 Mm1 871 [(3, .int (nI i)), (2, .ref (Bm + 0)), (1, .ref (B + 0)), (0, .ref b)] []) : GL p l e s m below meth c b D B Bm T M Tm Mm 557 [(3, .int (nI i)), (2, .ref (Bm + 0)), (1, .ref (B + 0)), (0, .ref b)] [] := by
  refine gl_aload_n F 2 (dk dtL_law_5 37 rfl) rfl ?_
  refine gl_aload_n F 3 (dk dtL_law_5 38 rfl) rfl ?_
  refine gl_iload_n F 0 (dk dtL_law_5 39 rfl) rfl ?_
  refine gl_iconst F (nI 1) (dk dtL_law_5 40 rfl) (by decide) ?_
  refine gl_iaddN F (dk dtL_law_5 41 rfl) ?_
  refine gl_sld F (dk dtL_law_5 42 rfl) (by omega) (by omega) ?_
  refine gl_aload_n F 3 (dk dtL_law_5 43 rfl) rfl ?_
  refine gl_iload_n F 0 (dk dtL_law_5 44 rfl) rfl ?_
  refine gl_iconst F (nI 2) (dk dtL_law_5 45 rfl) (by decide) ?_
  refine gl_iaddN F (dk dtL_law_5 46 rfl) ?_
  refine gl_sld F (dk dtL_law_5 47 rfl) (by omega) (by omega) ?_
  obtain ⟨pc, pm, hc, hm, hag⟩ := ag_stale (l := l) (D := D) (B := B) (Bm := Bm) h (xs (i + 1)) (xs (i + 2))
  refine gl_callC F (As := [.int (xs (i + 1)), .int (xs (i + 2))]) (st := []) cv_L_77 (dk dtL_law_5 48 rfl) rfl rfl (by decide) ⟨by decide, by decide⟩ hc (fun r T1 M1 hr => ?_)
  refine gl_aload_n F 1 (dk dtL_law_5 49 rfl) rfl ?_
  refine gl_aload_n F 3 (dk dtL_law_5 50 rfl) rfl ?_
  refine gl_iload_n F 0 (dk dtL_law_5 51 rfl) rfl ?_
  refine gl_iconst F (nI 1) (dk dtL_law_5 52 rfl) (by decide) ?_
  refine gl_iaddN F (dk dtL_law_5 53 rfl) ?_
  refine gl_sld F (dk dtL_law_5 54 rfl) (by omega) (by omega) ?_
  refine gl_aload_n F 3 (dk dtL_law_5 55 rfl) rfl ?_
  refine gl_iload_n F 0 (dk dtL_law_5 56 rfl) rfl ?_
  refine gl_iconst F (nI 2) (dk dtL_law_5 57 rfl) (by decide) ?_
  refine gl_iaddN F (dk dtL_law_5 58 rfl) ?_
  refine gl_sld F (dk dtL_law_5 59 rfl) (by omega) (by omega) ?_
  refine gl_callM F (As := [.int (xs (i + 1)), .int (xs (i + 2))]) (st := [.int r]) cv_L_80 (dk dtL_law_6 0 rfl) rfl rfl (Nat.le_of_ble_eq_true rfl) ⟨by decide, by decide⟩ hm (fun r1 Tm1 Mm1 hr1 => ?_)
  obtain ⟨he, hR⟩ := hag r T1 M1 r1 Tm1 Mm1 hr hr1
  exact gl_eq F 871 (dk dtL_law_6 1 rfl) (by decide) he (K _ _ _ _ hR)
set_option maxRecDepth 100000 in
set_option maxHeartbeats 4000000 in
theorem lc_odds (F : FLw p s m meth c b n xs D B Bm) (hn : n ≤ 320) {i : Nat} (hi : i + 5 ≤ n) (h : Rel T M Tm Mm) (K : ∀ (T1 : Int64) (M1 : Mem) (Tm1 : Int64) (Mm1 : Mem), Rel T1 M1 Tm1 Mm1 → GL p l e s m below meth c b D B Bm T1 M1 Tm1 Mm1 871 [(3, .int (nI i)), (2, .ref (Bm + 0)), (1, .ref (B + 0)), (0, .ref b)] []) : GL p l e s m below meth c b D B Bm T M Tm Mm 590 [(3, .int (nI i)), (2, .ref (Bm + 0)), (1, .ref (B + 0)), (0, .ref b)] [] := by
  refine gl_aload_n F 2 (dk dtL_law_6 4 rfl) rfl ?_
  refine gl_aload_n F 3 (dk dtL_law_6 5 rfl) rfl ?_
  refine gl_iload_n F 0 (dk dtL_law_6 6 rfl) rfl ?_
  refine gl_iconst F (nI 1) (dk dtL_law_6 7 rfl) (by decide) ?_
  refine gl_iaddN F (dk dtL_law_6 8 rfl) ?_
  refine gl_sld F (dk dtL_law_6 9 rfl) (by omega) (by omega) ?_
  refine gl_aload_n F 3 (dk dtL_law_6 10 rfl) rfl ?_
  refine gl_iload_n F 0 (dk dtL_law_6 11 rfl) rfl ?_
  refine gl_iconst F (nI 2) (dk dtL_law_6 12 rfl) (by decide) ?_
  refine gl_iaddN F (dk dtL_law_6 13 rfl) ?_
  refine gl_sld F (dk dtL_law_6 14 rfl) (by omega) (by omega) ?_
  refine gl_aload_n F 3 (dk dtL_law_6 15 rfl) rfl ?_
  refine gl_iload_n F 0 (dk dtL_law_6 16 rfl) rfl ?_
  refine gl_iconst F (nI 3) (dk dtL_law_6 17 rfl) (by decide) ?_
  refine gl_iaddN F (dk dtL_law_6 18 rfl) ?_
  refine gl_sld F (dk dtL_law_6 19 rfl) (by omega) (by omega) ?_
  refine gl_aload_n F 3 (dk dtL_law_6 20 rfl) rfl ?_
  refine gl_iload_n F 0 (dk dtL_law_6 21 rfl) rfl ?_
  refine gl_iconst F (nI 4) (dk dtL_law_6 22 rfl) (by decide) ?_
  refine gl_iaddN F (dk dtL_law_6 23 rfl) ?_
  refine gl_sld F (dk dtL_law_6 24 rfl) (by omega) (by omega) ?_
  obtain ⟨pc, pm, hc, hm, hag⟩ := ag_odds (l := l) (D := D) (B := B) (Bm := Bm) h (xs (i + 1)) (xs (i + 2)) (xs (i + 3)) (xs (i + 4))
  refine gl_callC F (As := [.int (xs (i + 1)), .int (xs (i + 2)), .int (xs (i + 3)), .int (xs (i + 4))]) (st := []) cv_L_81 (dk dtL_law_6 25 rfl) rfl rfl (by decide) ⟨by decide, by decide⟩ hc (fun r T1 M1 hr => ?_)
  refine gl_aload_n F 1 (dk dtL_law_6 26 rfl) rfl ?_
  refine gl_aload_n F 3 (dk dtL_law_6 27 rfl) rfl ?_
  refine gl_iload_n F 0 (dk dtL_law_6 28 rfl) rfl ?_
  refine gl_iconst F (nI 1) (dk dtL_law_6 29 rfl) (by decide) ?_
  refine gl_iaddN F (dk dtL_law_6 30 rfl) ?_
  refine gl_sld F (dk dtL_law_6 31 rfl) (by omega) (by omega) ?_
  refine gl_aload_n F 3 (dk dtL_law_6 32 rfl) rfl ?_
  refine gl_iload_n F 0 (dk dtL_law_6 33 rfl) rfl ?_
  refine gl_iconst F (nI 2) (dk dtL_law_6 34 rfl) (by decide) ?_
  refine gl_iaddN F (dk dtL_law_6 35 rfl) ?_
  refine gl_sld F (dk dtL_law_6 36 rfl) (by omega) (by omega) ?_
  refine gl_aload_n F 3 (dk dtL_law_6 37 rfl) rfl ?_
  refine gl_iload_n F 0 (dk dtL_law_6 38 rfl) rfl ?_
  refine gl_iconst F (nI 3) (dk dtL_law_6 39 rfl) (by decide) ?_
  refine gl_iaddN F (dk dtL_law_6 40 rfl) ?_
  refine gl_sld F (dk dtL_law_6 41 rfl) (by omega) (by omega) ?_
  refine gl_aload_n F 3 (dk dtL_law_6 42 rfl) rfl ?_
  refine gl_iload_n F 0 (dk dtL_law_6 43 rfl) rfl ?_
  refine gl_iconst F (nI 4) (dk dtL_law_6 44 rfl) (by decide) ?_
  refine gl_iaddN F (dk dtL_law_6 45 rfl) ?_
  refine gl_sld F (dk dtL_law_6 46 rfl) (by omega) (by omega) ?_
  refine gl_callM F (As := [.int (xs (i + 1)), .int (xs (i + 2)), .int (xs (i + 3)), .int (xs (i + 4))]) (st := [.int r]) cv_L_85 (dk dtL_law_6 47 rfl) rfl rfl (Nat.le_of_ble_eq_true rfl) ⟨by decide, by decide⟩ hm (fun r1 Tm1 Mm1 hr1 => ?_)
  obtain ⟨he, hR⟩ := hag r T1 M1 r1 Tm1 Mm1 hr hr1
  exact gl_eq F 871 (dk dtL_law_6 48 rfl) (by decide) he (K _ _ _ _ hR)
set_option maxRecDepth 100000 in
set_option maxHeartbeats 4000000 in
theorem lc_notes (F : FLw p s m meth c b n xs D B Bm) (hn : n ≤ 320) {i : Nat} (hi : i + 5 ≤ n) (h : Rel T M Tm Mm) (K : ∀ (T1 : Int64) (M1 : Mem) (Tm1 : Int64) (Mm1 : Mem), Rel T1 M1 Tm1 Mm1 → GL p l e s m below meth c b D B Bm T1 M1 Tm1 Mm1 871 [(3, .int (nI i)), (2, .ref (Bm + 0)), (1, .ref (B + 0)), (0, .ref b)] []) : GL p l e s m below meth c b D B Bm T M Tm Mm 643 [(3, .int (nI i)), (2, .ref (Bm + 0)), (1, .ref (B + 0)), (0, .ref b)] [] := by
  refine gl_aload_n F 2 (dk dtL_law_6 51 rfl) rfl ?_
  refine gl_aload_n F 3 (dk dtL_law_6 52 rfl) rfl ?_
  refine gl_iload_n F 0 (dk dtL_law_6 53 rfl) rfl ?_
  refine gl_iconst F (nI 1) (dk dtL_law_6 54 rfl) (by decide) ?_
  refine gl_iaddN F (dk dtL_law_6 55 rfl) ?_
  refine gl_sld F (dk dtL_law_6 56 rfl) (by omega) (by omega) ?_
  refine gl_aload_n F 3 (dk dtL_law_6 57 rfl) rfl ?_
  refine gl_iload_n F 0 (dk dtL_law_6 58 rfl) rfl ?_
  refine gl_iconst F (nI 2) (dk dtL_law_6 59 rfl) (by decide) ?_
  refine gl_iaddN F (dk dtL_law_7 0 rfl) ?_
  refine gl_sld F (dk dtL_law_7 1 rfl) (by omega) (by omega) ?_
  refine gl_aload_n F 3 (dk dtL_law_7 2 rfl) rfl ?_
  refine gl_iload_n F 0 (dk dtL_law_7 3 rfl) rfl ?_
  refine gl_iconst F (nI 3) (dk dtL_law_7 4 rfl) (by decide) ?_
  refine gl_iaddN F (dk dtL_law_7 5 rfl) ?_
  refine gl_sld F (dk dtL_law_7 6 rfl) (by omega) (by omega) ?_
  obtain ⟨pc, pm, hc, hm, hag⟩ := ag_notes (l := l) (D := D) (B := B) (Bm := Bm) h (xs (i + 1)) (xs (i + 2)) (xs (i + 3))
  refine gl_callC F (As := [.int (xs (i + 1)), .int (xs (i + 2)), .int (xs (i + 3))]) (st := []) cv_L_86 (dk dtL_law_7 7 rfl) rfl rfl (by decide) ⟨by decide, by decide⟩ hc (fun r T1 M1 hr => ?_)
  refine gl_aload_n F 1 (dk dtL_law_7 8 rfl) rfl ?_
  refine gl_aload_n F 3 (dk dtL_law_7 9 rfl) rfl ?_
  refine gl_iload_n F 0 (dk dtL_law_7 10 rfl) rfl ?_
  refine gl_iconst F (nI 1) (dk dtL_law_7 11 rfl) (by decide) ?_
  refine gl_iaddN F (dk dtL_law_7 12 rfl) ?_
  refine gl_sld F (dk dtL_law_7 13 rfl) (by omega) (by omega) ?_
  refine gl_aload_n F 3 (dk dtL_law_7 14 rfl) rfl ?_
  refine gl_iload_n F 0 (dk dtL_law_7 15 rfl) rfl ?_
  refine gl_iconst F (nI 2) (dk dtL_law_7 16 rfl) (by decide) ?_
  refine gl_iaddN F (dk dtL_law_7 17 rfl) ?_
  refine gl_sld F (dk dtL_law_7 18 rfl) (by omega) (by omega) ?_
  refine gl_aload_n F 3 (dk dtL_law_7 19 rfl) rfl ?_
  refine gl_iload_n F 0 (dk dtL_law_7 20 rfl) rfl ?_
  refine gl_iconst F (nI 3) (dk dtL_law_7 21 rfl) (by decide) ?_
  refine gl_iaddN F (dk dtL_law_7 22 rfl) ?_
  refine gl_sld F (dk dtL_law_7 23 rfl) (by omega) (by omega) ?_
  refine gl_callM F (As := [.int (xs (i + 1)), .int (xs (i + 2)), .int (xs (i + 3))]) (st := [.int r]) cv_L_89 (dk dtL_law_7 24 rfl) rfl rfl (Nat.le_of_ble_eq_true rfl) ⟨by decide, by decide⟩ hm (fun r1 Tm1 Mm1 hr1 => ?_)
  obtain ⟨he, hR⟩ := hag r T1 M1 r1 Tm1 Mm1 hr hr1
  exact gl_eq F 871 (dk dtL_law_7 25 rfl) (by decide) he (K _ _ _ _ hR)
set_option maxRecDepth 100000 in
set_option maxHeartbeats 4000000 in
theorem lc_forget (F : FLw p s m meth c b n xs D B Bm) (hn : n ≤ 320) {i : Nat} (hi : i + 5 ≤ n) (h : Rel T M Tm Mm) (K : ∀ (T1 : Int64) (M1 : Mem) (Tm1 : Int64) (Mm1 : Mem), Rel T1 M1 Tm1 Mm1 → GL p l e s m below meth c b D B Bm T1 M1 Tm1 Mm1 871 [(3, .int (nI i)), (2, .ref (Bm + 0)), (1, .ref (B + 0)), (0, .ref b)] []) : GL p l e s m below meth c b D B Bm T M Tm Mm 686 [(3, .int (nI i)), (2, .ref (Bm + 0)), (1, .ref (B + 0)), (0, .ref b)] [] := by
  refine gl_aload_n F 2 (dk dtL_law_7 28 rfl) rfl ?_
  obtain ⟨pc, pm, hc, hm, hag⟩ := ag_forget (l := l) (D := D) (B := B) (Bm := Bm) h 
  refine gl_callC F (As := []) (st := []) cv_L_90 (dk dtL_law_7 29 rfl) rfl rfl (by decide) ⟨by decide, by decide⟩ hc (fun r T1 M1 hr => ?_)
  refine gl_aload_n F 1 (dk dtL_law_7 30 rfl) rfl ?_
  refine gl_callM F (As := []) (st := [.int r]) cv_L_93 (dk dtL_law_7 31 rfl) rfl rfl (Nat.le_of_ble_eq_true rfl) ⟨by decide, by decide⟩ hm (fun r1 Tm1 Mm1 hr1 => ?_)
  obtain ⟨he, hR⟩ := hag r T1 M1 r1 Tm1 Mm1 hr hr1
  exact gl_eq F 871 (dk dtL_law_7 32 rfl) (by decide) he (K _ _ _ _ hR)
set_option maxRecDepth 100000 in
set_option maxHeartbeats 4000000 in
theorem lc_nerves (F : FLw p s m meth c b n xs D B Bm) (hn : n ≤ 320) {i : Nat} (hi : i + 5 ≤ n) (h : Rel T M Tm Mm) (K : ∀ (T1 : Int64) (M1 : Mem) (Tm1 : Int64) (Mm1 : Mem), Rel T1 M1 Tm1 Mm1 → GL p l e s m below meth c b D B Bm T1 M1 Tm1 Mm1 871 [(3, .int (nI i)), (2, .ref (Bm + 0)), (1, .ref (B + 0)), (0, .ref b)] []) : GL p l e s m below meth c b D B Bm T M Tm Mm 699 [(3, .int (nI i)), (2, .ref (Bm + 0)), (1, .ref (B + 0)), (0, .ref b)] [] := by
  refine gl_aload_n F 2 (dk dtL_law_7 35 rfl) rfl ?_
  refine gl_aload_n F 3 (dk dtL_law_7 36 rfl) rfl ?_
  refine gl_iload_n F 0 (dk dtL_law_7 37 rfl) rfl ?_
  refine gl_iconst F (nI 1) (dk dtL_law_7 38 rfl) (by decide) ?_
  refine gl_iaddN F (dk dtL_law_7 39 rfl) ?_
  refine gl_sld F (dk dtL_law_7 40 rfl) (by omega) (by omega) ?_
  refine gl_aload_n F 3 (dk dtL_law_7 41 rfl) rfl ?_
  refine gl_iload_n F 0 (dk dtL_law_7 42 rfl) rfl ?_
  refine gl_iconst F (nI 2) (dk dtL_law_7 43 rfl) (by decide) ?_
  refine gl_iaddN F (dk dtL_law_7 44 rfl) ?_
  refine gl_sld F (dk dtL_law_7 45 rfl) (by omega) (by omega) ?_
  obtain ⟨pc, pm, hc, hm, hag⟩ := ag_nerves (l := l) (D := D) (B := B) (Bm := Bm) h (xs (i + 1)) (xs (i + 2))
  refine gl_callC F (As := [.int (xs (i + 1)), .int (xs (i + 2))]) (st := []) cv_L_94 (dk dtL_law_7 46 rfl) rfl rfl (by decide) ⟨by decide, by decide⟩ hc (fun r T1 M1 hr => ?_)
  refine gl_aload_n F 1 (dk dtL_law_7 47 rfl) rfl ?_
  refine gl_aload_n F 3 (dk dtL_law_7 48 rfl) rfl ?_
  refine gl_iload_n F 0 (dk dtL_law_7 49 rfl) rfl ?_
  refine gl_iconst F (nI 1) (dk dtL_law_7 50 rfl) (by decide) ?_
  refine gl_iaddN F (dk dtL_law_7 51 rfl) ?_
  refine gl_sld F (dk dtL_law_7 52 rfl) (by omega) (by omega) ?_
  refine gl_aload_n F 3 (dk dtL_law_7 53 rfl) rfl ?_
  refine gl_iload_n F 0 (dk dtL_law_7 54 rfl) rfl ?_
  refine gl_iconst F (nI 2) (dk dtL_law_7 55 rfl) (by decide) ?_
  refine gl_iaddN F (dk dtL_law_7 56 rfl) ?_
  refine gl_sld F (dk dtL_law_7 57 rfl) (by omega) (by omega) ?_
  refine gl_callM F (As := [.int (xs (i + 1)), .int (xs (i + 2))]) (st := [.int r]) cv_L_97 (dk dtL_law_7 58 rfl) rfl rfl (Nat.le_of_ble_eq_true rfl) ⟨by decide, by decide⟩ hm (fun r1 Tm1 Mm1 hr1 => ?_)
  obtain ⟨he, hR⟩ := hag r T1 M1 r1 Tm1 Mm1 hr hr1
  exact gl_eq F 871 (dk dtL_law_7 59 rfl) (by decide) he (K _ _ _ _ hR)
set_option maxRecDepth 100000 in
set_option maxHeartbeats 4000000 in
theorem lc_test (F : FLw p s m meth c b n xs D B Bm) (hn : n ≤ 320) {i : Nat} (hi : i + 5 ≤ n) (h : Rel T M Tm Mm) (K : ∀ (T1 : Int64) (M1 : Mem) (Tm1 : Int64) (Mm1 : Mem), Rel T1 M1 Tm1 Mm1 → GL p l e s m below meth c b D B Bm T1 M1 Tm1 Mm1 871 [(3, .int (nI i)), (2, .ref (Bm + 0)), (1, .ref (B + 0)), (0, .ref b)] []) : GL p l e s m below meth c b D B Bm T M Tm Mm 732 [(3, .int (nI i)), (2, .ref (Bm + 0)), (1, .ref (B + 0)), (0, .ref b)] [] := by
  refine gl_aload_n F 2 (dk dtL_law_8 2 rfl) rfl ?_
  refine gl_aload_n F 3 (dk dtL_law_8 3 rfl) rfl ?_
  refine gl_iload_n F 0 (dk dtL_law_8 4 rfl) rfl ?_
  refine gl_iconst F (nI 1) (dk dtL_law_8 5 rfl) (by decide) ?_
  refine gl_iaddN F (dk dtL_law_8 6 rfl) ?_
  refine gl_sld F (dk dtL_law_8 7 rfl) (by omega) (by omega) ?_
  obtain ⟨pc, pm, hc, hm, hag⟩ := ag_test (l := l) (D := D) (B := B) (Bm := Bm) h (xs (i + 1))
  refine gl_callC F (As := [.int (xs (i + 1))]) (st := []) cv_L_98 (dk dtL_law_8 8 rfl) rfl rfl (by decide) ⟨by decide, by decide⟩ hc (fun r T1 M1 hr => ?_)
  refine gl_aload_n F 1 (dk dtL_law_8 9 rfl) rfl ?_
  refine gl_aload_n F 3 (dk dtL_law_8 10 rfl) rfl ?_
  refine gl_iload_n F 0 (dk dtL_law_8 11 rfl) rfl ?_
  refine gl_iconst F (nI 1) (dk dtL_law_8 12 rfl) (by decide) ?_
  refine gl_iaddN F (dk dtL_law_8 13 rfl) ?_
  refine gl_sld F (dk dtL_law_8 14 rfl) (by omega) (by omega) ?_
  refine gl_callM F (As := [.int (xs (i + 1))]) (st := [.int r]) cv_L_101 (dk dtL_law_8 15 rfl) rfl rfl (Nat.le_of_ble_eq_true rfl) ⟨by decide, by decide⟩ hm (fun r1 Tm1 Mm1 hr1 => ?_)
  obtain ⟨he, hR⟩ := hag r T1 M1 r1 Tm1 Mm1 hr hr1
  exact gl_eq F 871 (dk dtL_law_8 16 rfl) (by decide) he (K _ _ _ _ hR)
set_option maxRecDepth 100000 in
set_option maxHeartbeats 4000000 in
theorem lc_rate (F : FLw p s m meth c b n xs D B Bm) (hn : n ≤ 320) {i : Nat} (hi : i + 5 ≤ n) (h : Rel T M Tm Mm) (K : ∀ (T1 : Int64) (M1 : Mem) (Tm1 : Int64) (Mm1 : Mem), Rel T1 M1 Tm1 Mm1 → GL p l e s m below meth c b D B Bm T1 M1 Tm1 Mm1 871 [(3, .int (nI i)), (2, .ref (Bm + 0)), (1, .ref (B + 0)), (0, .ref b)] []) : GL p l e s m below meth c b D B Bm T M Tm Mm 755 [(3, .int (nI i)), (2, .ref (Bm + 0)), (1, .ref (B + 0)), (0, .ref b)] [] := by
  refine gl_aload_n F 2 (dk dtL_law_8 19 rfl) rfl ?_
  refine gl_aload_n F 3 (dk dtL_law_8 20 rfl) rfl ?_
  refine gl_iload_n F 0 (dk dtL_law_8 21 rfl) rfl ?_
  refine gl_iconst F (nI 1) (dk dtL_law_8 22 rfl) (by decide) ?_
  refine gl_iaddN F (dk dtL_law_8 23 rfl) ?_
  refine gl_sld F (dk dtL_law_8 24 rfl) (by omega) (by omega) ?_
  refine gl_aload_n F 3 (dk dtL_law_8 25 rfl) rfl ?_
  refine gl_iload_n F 0 (dk dtL_law_8 26 rfl) rfl ?_
  refine gl_iconst F (nI 2) (dk dtL_law_8 27 rfl) (by decide) ?_
  refine gl_iaddN F (dk dtL_law_8 28 rfl) ?_
  refine gl_sld F (dk dtL_law_8 29 rfl) (by omega) (by omega) ?_
  obtain ⟨pc, pm, hc, hm, hag⟩ := ag_rate (l := l) (D := D) (B := B) (Bm := Bm) h (xs (i + 1)) (xs (i + 2))
  refine gl_callC F (As := [.int (xs (i + 1)), .int (xs (i + 2))]) (st := []) cv_L_102 (dk dtL_law_8 30 rfl) rfl rfl (by decide) ⟨by decide, by decide⟩ hc (fun r T1 M1 hr => ?_)
  refine gl_aload_n F 1 (dk dtL_law_8 31 rfl) rfl ?_
  refine gl_aload_n F 3 (dk dtL_law_8 32 rfl) rfl ?_
  refine gl_iload_n F 0 (dk dtL_law_8 33 rfl) rfl ?_
  refine gl_iconst F (nI 1) (dk dtL_law_8 34 rfl) (by decide) ?_
  refine gl_iaddN F (dk dtL_law_8 35 rfl) ?_
  refine gl_sld F (dk dtL_law_8 36 rfl) (by omega) (by omega) ?_
  refine gl_aload_n F 3 (dk dtL_law_8 37 rfl) rfl ?_
  refine gl_iload_n F 0 (dk dtL_law_8 38 rfl) rfl ?_
  refine gl_iconst F (nI 2) (dk dtL_law_8 39 rfl) (by decide) ?_
  refine gl_iaddN F (dk dtL_law_8 40 rfl) ?_
  refine gl_sld F (dk dtL_law_8 41 rfl) (by omega) (by omega) ?_
  refine gl_callM F (As := [.int (xs (i + 1)), .int (xs (i + 2))]) (st := [.int r]) cv_L_105 (dk dtL_law_8 42 rfl) rfl rfl (Nat.le_of_ble_eq_true rfl) ⟨by decide, by decide⟩ hm (fun r1 Tm1 Mm1 hr1 => ?_)
  obtain ⟨he, hR⟩ := hag r T1 M1 r1 Tm1 Mm1 hr hr1
  exact gl_eq F 871 (dk dtL_law_8 43 rfl) (by decide) he (K _ _ _ _ hR)
set_option maxRecDepth 100000 in
set_option maxHeartbeats 4000000 in
theorem lc_keep (F : FLw p s m meth c b n xs D B Bm) (hn : n ≤ 320) {i : Nat} (hi : i + 5 ≤ n) (h : Rel T M Tm Mm) (K : ∀ (T1 : Int64) (M1 : Mem) (Tm1 : Int64) (Mm1 : Mem), Rel T1 M1 Tm1 Mm1 → GL p l e s m below meth c b D B Bm T1 M1 Tm1 Mm1 871 [(3, .int (nI i)), (2, .ref (Bm + 0)), (1, .ref (B + 0)), (0, .ref b)] []) : GL p l e s m below meth c b D B Bm T M Tm Mm 788 [(3, .int (nI i)), (2, .ref (Bm + 0)), (1, .ref (B + 0)), (0, .ref b)] [] := by
  refine gl_aload_n F 2 (dk dtL_law_8 46 rfl) rfl ?_
  refine gl_aload_n F 3 (dk dtL_law_8 47 rfl) rfl ?_
  refine gl_iload_n F 0 (dk dtL_law_8 48 rfl) rfl ?_
  refine gl_iconst F (nI 1) (dk dtL_law_8 49 rfl) (by decide) ?_
  refine gl_iaddN F (dk dtL_law_8 50 rfl) ?_
  refine gl_sld F (dk dtL_law_8 51 rfl) (by omega) (by omega) ?_
  obtain ⟨pc, pm, hc, hm, hag⟩ := ag_keep (l := l) (D := D) (B := B) (Bm := Bm) h (xs (i + 1))
  refine gl_callC F (As := [.int (xs (i + 1))]) (st := []) cv_L_106 (dk dtL_law_8 52 rfl) rfl rfl (by decide) ⟨by decide, by decide⟩ hc (fun r T1 M1 hr => ?_)
  refine gl_aload_n F 1 (dk dtL_law_8 53 rfl) rfl ?_
  refine gl_aload_n F 3 (dk dtL_law_8 54 rfl) rfl ?_
  refine gl_iload_n F 0 (dk dtL_law_8 55 rfl) rfl ?_
  refine gl_iconst F (nI 1) (dk dtL_law_8 56 rfl) (by decide) ?_
  refine gl_iaddN F (dk dtL_law_8 57 rfl) ?_
  refine gl_sld F (dk dtL_law_8 58 rfl) (by omega) (by omega) ?_
  refine gl_callM F (As := [.int (xs (i + 1))]) (st := [.int r]) cv_L_109 (dk dtL_law_8 59 rfl) rfl rfl (Nat.le_of_ble_eq_true rfl) ⟨by decide, by decide⟩ hm (fun r1 Tm1 Mm1 hr1 => ?_)
  obtain ⟨he, hR⟩ := hag r T1 M1 r1 Tm1 Mm1 hr hr1
  exact gl_eq F 871 (dk dtL_law_9 0 rfl) (by decide) he (K _ _ _ _ hR)
set_option maxRecDepth 100000 in
set_option maxHeartbeats 4000000 in
theorem lc_back (F : FLw p s m meth c b n xs D B Bm) (hn : n ≤ 320) {i : Nat} (hi : i + 5 ≤ n) (h : Rel T M Tm Mm) (K : ∀ (T1 : Int64) (M1 : Mem) (Tm1 : Int64) (Mm1 : Mem), Rel T1 M1 Tm1 Mm1 → GL p l e s m below meth c b D B Bm T1 M1 Tm1 Mm1 871 [(3, .int (nI i)), (2, .ref (Bm + 0)), (1, .ref (B + 0)), (0, .ref b)] []) : GL p l e s m below meth c b D B Bm T M Tm Mm 811 [(3, .int (nI i)), (2, .ref (Bm + 0)), (1, .ref (B + 0)), (0, .ref b)] [] := by
  refine gl_aload_n F 2 (dk dtL_law_9 3 rfl) rfl ?_
  refine gl_aload_n F 3 (dk dtL_law_9 4 rfl) rfl ?_
  refine gl_iload_n F 0 (dk dtL_law_9 5 rfl) rfl ?_
  refine gl_iconst F (nI 1) (dk dtL_law_9 6 rfl) (by decide) ?_
  refine gl_iaddN F (dk dtL_law_9 7 rfl) ?_
  refine gl_sld F (dk dtL_law_9 8 rfl) (by omega) (by omega) ?_
  obtain ⟨pc, pm, hc, hm, hag⟩ := ag_back (l := l) (D := D) (B := B) (Bm := Bm) h (xs (i + 1))
  refine gl_callC F (As := [.int (xs (i + 1))]) (st := []) cv_L_110 (dk dtL_law_9 9 rfl) rfl rfl (by decide) ⟨by decide, by decide⟩ hc (fun r T1 M1 hr => ?_)
  refine gl_aload_n F 1 (dk dtL_law_9 10 rfl) rfl ?_
  refine gl_aload_n F 3 (dk dtL_law_9 11 rfl) rfl ?_
  refine gl_iload_n F 0 (dk dtL_law_9 12 rfl) rfl ?_
  refine gl_iconst F (nI 1) (dk dtL_law_9 13 rfl) (by decide) ?_
  refine gl_iaddN F (dk dtL_law_9 14 rfl) ?_
  refine gl_sld F (dk dtL_law_9 15 rfl) (by omega) (by omega) ?_
  refine gl_callM F (As := [.int (xs (i + 1))]) (st := [.int r]) cv_L_113 (dk dtL_law_9 16 rfl) rfl rfl (Nat.le_of_ble_eq_true rfl) ⟨by decide, by decide⟩ hm (fun r1 Tm1 Mm1 hr1 => ?_)
  obtain ⟨he, hR⟩ := hag r T1 M1 r1 Tm1 Mm1 hr hr1
  exact gl_eq F 871 (dk dtL_law_9 17 rfl) (by decide) he (K _ _ _ _ hR)
set_option maxRecDepth 100000 in
set_option maxHeartbeats 4000000 in
theorem lc_count (F : FLw p s m meth c b n xs D B Bm) (hn : n ≤ 320) {i : Nat} (hi : i + 5 ≤ n) (h : Rel T M Tm Mm) (K : ∀ (T1 : Int64) (M1 : Mem) (Tm1 : Int64) (Mm1 : Mem), Rel T1 M1 Tm1 Mm1 → GL p l e s m below meth c b D B Bm T1 M1 Tm1 Mm1 871 [(3, .int (nI i)), (2, .ref (Bm + 0)), (1, .ref (B + 0)), (0, .ref b)] []) : GL p l e s m below meth c b D B Bm T M Tm Mm 834 [(3, .int (nI i)), (2, .ref (Bm + 0)), (1, .ref (B + 0)), (0, .ref b)] [] := by
  refine gl_aload_n F 2 (dk dtL_law_9 20 rfl) rfl ?_
  refine gl_aload_n F 3 (dk dtL_law_9 21 rfl) rfl ?_
  refine gl_iload_n F 0 (dk dtL_law_9 22 rfl) rfl ?_
  refine gl_iconst F (nI 1) (dk dtL_law_9 23 rfl) (by decide) ?_
  refine gl_iaddN F (dk dtL_law_9 24 rfl) ?_
  refine gl_sld F (dk dtL_law_9 25 rfl) (by omega) (by omega) ?_
  obtain ⟨pc, pm, hc, hm, hag⟩ := ag_count (l := l) (D := D) (B := B) (Bm := Bm) h (xs (i + 1))
  refine gl_callC F (As := [.int (xs (i + 1))]) (st := []) cv_L_114 (dk dtL_law_9 26 rfl) rfl rfl (by decide) ⟨by decide, by decide⟩ hc (fun r T1 M1 hr => ?_)
  refine gl_aload_n F 1 (dk dtL_law_9 27 rfl) rfl ?_
  refine gl_aload_n F 3 (dk dtL_law_9 28 rfl) rfl ?_
  refine gl_iload_n F 0 (dk dtL_law_9 29 rfl) rfl ?_
  refine gl_iconst F (nI 1) (dk dtL_law_9 30 rfl) (by decide) ?_
  refine gl_iaddN F (dk dtL_law_9 31 rfl) ?_
  refine gl_sld F (dk dtL_law_9 32 rfl) (by omega) (by omega) ?_
  refine gl_callM F (As := [.int (xs (i + 1))]) (st := [.int r]) cv_L_117 (dk dtL_law_9 33 rfl) rfl rfl (Nat.le_of_ble_eq_true rfl) ⟨by decide, by decide⟩ hm (fun r1 Tm1 Mm1 hr1 => ?_)
  obtain ⟨he, hR⟩ := hag r T1 M1 r1 Tm1 Mm1 hr hr1
  exact gl_eq F 871 (dk dtL_law_9 34 rfl) (by decide) he (K _ _ _ _ hR)
set_option maxRecDepth 100000 in
set_option maxHeartbeats 4000000 in
theorem lc_trace (F : FLw p s m meth c b n xs D B Bm) (hn : n ≤ 320) {i : Nat} (hi : i + 5 ≤ n) (h : Rel T M Tm Mm) (K : ∀ (T1 : Int64) (M1 : Mem) (Tm1 : Int64) (Mm1 : Mem), Rel T1 M1 Tm1 Mm1 → GL p l e s m below meth c b D B Bm T1 M1 Tm1 Mm1 871 [(3, .int (nI i)), (2, .ref (Bm + 0)), (1, .ref (B + 0)), (0, .ref b)] []) : GL p l e s m below meth c b D B Bm T M Tm Mm 857 [(3, .int (nI i)), (2, .ref (Bm + 0)), (1, .ref (B + 0)), (0, .ref b)] [] := by
  refine gl_aload_n F 2 (dk dtL_law_9 37 rfl) rfl ?_
  obtain ⟨pc, pm, hc, hm, hag⟩ := ag_trace (l := l) (D := D) (B := B) (Bm := Bm) h 
  refine gl_callCl F (As := []) (st := []) cv_L_118 (dk dtL_law_9 38 rfl) rfl rfl (by decide) ⟨by decide, by decide⟩ hc (fun r T1 M1 hr => ?_)
  refine gl_aload_n F 1 (dk dtL_law_9 39 rfl) rfl ?_
  refine gl_callMl F (As := []) (st := [.long r]) cv_L_122 (dk dtL_law_9 40 rfl) rfl rfl (Nat.le_of_ble_eq_true rfl) ⟨by decide, by decide⟩ hm (fun r1 Tm1 Mm1 hr1 => ?_)
  obtain ⟨he, hR⟩ := hag r T1 M1 r1 Tm1 Mm1 hr hr1
  exact gl_leq F 871 (dk dtL_law_9 41 rfl) (dk dtL_law_9 42 rfl) (by decide) he (K _ _ _ _ hR)
theorem sub5 {n i : Nat} (hn : n ≤ 320) (hi : i ≤ 400) (h : ¬ nI n - nI 5 < nI i) : i + 5 ≤ n := by
  rw [Int32.lt_iff_toInt_lt, pk_sub_toInt (by omega) (by decide), nI_toInt (by omega)] at h
  omega
set_option maxRecDepth 100000 in
set_option maxHeartbeats 4000000 in
theorem law_loop (F : FLw p s m meth c b n xs D B Bm) (hn : n ≤ 320) : ∀ (fz i : Nat) (T : Int64) (M : Mem) (Tm : Int64) (Mm : Mem), Rel T M Tm Mm → i ≤ n + 5 → n + 5 - i < fz → GL p l e s m below meth c b D B Bm T M Tm Mm 18 [(3, .int (nI i)), (2, .ref (Bm + 0)), (1, .ref (B + 0)), (0, .ref b)] [] := by
  intro fz
  induction fz with
  | zero => intro i T M Tm Mm _ _ h; exact absurd h (Nat.not_lt_zero _)
  | succ fz ih =>
    intro i T M Tm Mm hR hin hf
    refine gl_iload_n F 0 (dk dtL_law_0 10 rfl) rfl ?_
    refine gl_aload_n F 3 (dk dtL_law_0 11 rfl) rfl ?_
    refine gl_slen F (dk dtL_law_0 12 rfl) ?_
    refine gl_iconst F (nI 5) (dk dtL_law_0 13 rfl) (by decide) ?_
    refine gl_isub F (dk dtL_law_0 14 rfl) ?_
    refine gl_gt F 877 (dk dtL_law_0 15 rfl) (by decide) (fun _ => ?_) (fun c23 => ?_)
    · refine gl_iconst F 1 (dk dtL_law_9 47 rfl) (by decide) ?_
      intro H locs ls hP hPm hS hl
      refine va_forget hS.2.2 ?_
      exact W.widen (k := 600000) (n := 7302250) (Nat.le_of_ble_eq_true rfl) (Nat.le_of_ble_eq_true rfl) (lw_ret F.1.1 F.1.2.1 F.2.2.2.2.2.1 F.2.2.2.2.2.2.1 (dk dtL_law_9 48 rfl).1)
    · have hi5 := sub5 hn (by omega) c23
      have K : ∀ (T1 : Int64) (M1 : Mem) (Tm1 : Int64) (Mm1 : Mem), Rel T1 M1 Tm1 Mm1 → GL p l e s m below meth c b D B Bm T1 M1 Tm1 Mm1 871 [(3, .int (nI i)), (2, .ref (Bm + 0)), (1, .ref (B + 0)), (0, .ref b)] [] := by
        intro T1 M1 Tm1 Mm1 hR1
        refine gl_iinc F 0 (nI (i + 5)) [(3, .int (nI (i + 5))), (2, .ref (Bm + 0)), (1, .ref (B + 0)), (0, .ref b)] (dk dtL_law_9 45 rfl) rfl (nI_add i 5) (by decide) rfl ?_
        refine gl_goto F 18 (dk dtL_law_9 46 rfl) (by decide) ?_
        exact ih (i + 5) T1 M1 Tm1 Mm1 hR1 (by omega) (by omega)
      refine gl_aload_n F 3 (dk dtL_law_0 16 rfl) rfl ?_
      refine gl_iload_n F 0 (dk dtL_law_0 17 rfl) rfl ?_
      refine gl_sld F (dk dtL_law_0 18 rfl) (by omega) (by omega) ?_
      refine gl_bipush F (nI 31) (dk dtL_law_0 19 rfl) (by decide) ?_
      refine gl_iand F (dk dtL_law_0 20 rfl) ?_
      obtain ⟨j, hj, ej⟩ := pk_andE (xs i) (m := nI 31) 5 (by decide)
      rw [ej]
      rcases (show j = 0 ∨ j = 1 ∨ j = 2 ∨ j = 3 ∨ j = 4 ∨ j = 5 ∨ j = 6 ∨ j = 7 ∨ j = 8 ∨ j = 9 ∨ j = 10 ∨ j = 11 ∨ j = 12 ∨ j = 13 ∨ j = 14 ∨ j = 15 ∨ j = 16 ∨ j = 17 ∨ j = 18 ∨ j = 19 ∨ j = 20 ∨ j = 21 ∨ j = 22 ∨ j = 23 ∨ j = 24 ∨ j = 25 ∨ 26 ≤ j by omega) with rfl | rfl | rfl | rfl | rfl | rfl | rfl | rfl | rfl | rfl | rfl | rfl | rfl | rfl | rfl | rfl | rfl | rfl | rfl | rfl | rfl | rfl | rfl | rfl | rfl | rfl | hj2
      · refine gl_tabIn F 152 (dk dtL_law_0 21 rfl) (by decide) (by decide) (off := 120) rfl (by decide) ?_
        exact lc_type F hn hi5 hR K
      · refine gl_tabIn F 175 (dk dtL_law_0 21 rfl) (by decide) (by decide) (off := 143) rfl (by decide) ?_
        exact lc_clear F hn hi5 hR K
      · refine gl_tabIn F 188 (dk dtL_law_0 21 rfl) (by decide) (by decide) (off := 156) rfl (by decide) ?_
        exact lc_town F hn hi5 hR K
      · refine gl_tabIn F 201 (dk dtL_law_0 21 rfl) (by decide) (by decide) (off := 169) rfl (by decide) ?_
        exact lc_person F hn hi5 hR K
      · refine gl_tabIn F 234 (dk dtL_law_0 21 rfl) (by decide) (by decide) (off := 202) rfl (by decide) ?_
        exact lc_seen F hn hi5 hR K
      · refine gl_tabIn F 267 (dk dtL_law_0 21 rfl) (by decide) (by decide) (off := 235) rfl (by decide) ?_
        exact lc_surprise F hn hi5 hR K
      · refine gl_tabIn F 300 (dk dtL_law_0 21 rfl) (by decide) (by decide) (off := 268) rfl (by decide) ?_
        exact lc_now F hn hi5 hR K
      · refine gl_tabIn F 323 (dk dtL_law_0 21 rfl) (by decide) (by decide) (off := 291) rfl (by decide) ?_
        exact lc_happens F hn hi5 hR K
      · refine gl_tabIn F 356 (dk dtL_law_0 21 rfl) (by decide) (by decide) (off := 324) rfl (by decide) ?_
        exact lc_walks F hn hi5 hR K
      · refine gl_tabIn F 389 (dk dtL_law_0 21 rfl) (by decide) (by decide) (off := 357) rfl (by decide) ?_
        exact lc_tells F hn hi5 hR K
      · refine gl_tabIn F 422 (dk dtL_law_0 21 rfl) (by decide) (by decide) (off := 390) rfl (by decide) ?_
        exact lc_abdicates F hn hi5 hR K
      · refine gl_tabIn F 435 (dk dtL_law_0 21 rfl) (by decide) (by decide) (off := 403) rfl (by decide) ?_
        exact lc_undo F hn hi5 hR K
      · refine gl_tabIn F 448 (dk dtL_law_0 21 rfl) (by decide) (by decide) (off := 416) rfl (by decide) ?_
        exact lc_who F hn hi5 hR K
      · refine gl_tabIn F 481 (dk dtL_law_0 21 rfl) (by decide) (by decide) (off := 449) rfl (by decide) ?_
        exact lc_plan F hn hi5 hR K
      · refine gl_tabIn F 514 (dk dtL_law_0 21 rfl) (by decide) (by decide) (off := 482) rfl (by decide) ?_
        exact lc_duel F hn hi5 hR K
      · refine gl_tabIn F 557 (dk dtL_law_0 21 rfl) (by decide) (by decide) (off := 525) rfl (by decide) ?_
        exact lc_stale F hn hi5 hR K
      · refine gl_tabIn F 590 (dk dtL_law_0 21 rfl) (by decide) (by decide) (off := 558) rfl (by decide) ?_
        exact lc_odds F hn hi5 hR K
      · refine gl_tabIn F 643 (dk dtL_law_0 21 rfl) (by decide) (by decide) (off := 611) rfl (by decide) ?_
        exact lc_notes F hn hi5 hR K
      · refine gl_tabIn F 686 (dk dtL_law_0 21 rfl) (by decide) (by decide) (off := 654) rfl (by decide) ?_
        exact lc_forget F hn hi5 hR K
      · refine gl_tabIn F 699 (dk dtL_law_0 21 rfl) (by decide) (by decide) (off := 667) rfl (by decide) ?_
        exact lc_nerves F hn hi5 hR K
      · refine gl_tabIn F 732 (dk dtL_law_0 21 rfl) (by decide) (by decide) (off := 700) rfl (by decide) ?_
        exact lc_test F hn hi5 hR K
      · refine gl_tabIn F 755 (dk dtL_law_0 21 rfl) (by decide) (by decide) (off := 723) rfl (by decide) ?_
        exact lc_rate F hn hi5 hR K
      · refine gl_tabIn F 788 (dk dtL_law_0 21 rfl) (by decide) (by decide) (off := 756) rfl (by decide) ?_
        exact lc_keep F hn hi5 hR K
      · refine gl_tabIn F 811 (dk dtL_law_0 21 rfl) (by decide) (by decide) (off := 779) rfl (by decide) ?_
        exact lc_back F hn hi5 hR K
      · refine gl_tabIn F 834 (dk dtL_law_0 21 rfl) (by decide) (by decide) (off := 802) rfl (by decide) ?_
        exact lc_count F hn hi5 hR K
      · refine gl_tabIn F 857 (dk dtL_law_0 21 rfl) (by decide) (by decide) (off := 825) rfl (by decide) ?_
        exact lc_trace F hn hi5 hR K
      · refine gl_tabOut F 871 (dk dtL_law_0 21 rfl) (Or.inr (by rw [nI_toInt (by omega)]; omega)) (by decide) ?_
        exact K _ _ _ _ hR
end GLR
