section LS
variable {p : Program} {l : Launch} {e : Env} {s : State} {m : MethodId} {below : List Frame} {meth : Method} {c : Code} {b n : Nat} {xs : Nat → Int32} {D : DX} {B Bm : Nat} {pc pc1 : Nat} {st : List Value} {H : Heap} {locs : List Loc} {ls : Array Slot} {cl sl : Nat} {Q : State → Prop}
theorem law_new (F : FLw p s m meth c b n xs D B Bm) {ix ci N0 Bx : Nat} {fs : List Value} (hN : NC RL ix ci N0 fs) (hd : De code pc (.new ix) 3 pc1) (hc : cl + 1 ≤ room_1.cells) (hs : sl + N0 ≤ room_1.slots) (hz : H.size = Bx) (hS : va_S (fun q => s.heap.size ≤ q) s.heap H locs) (k : ∀ H1 : Heap, va_P D.1 vwCl (wE Bx [.inr (ci, fs)]) H1 → H1.size = Bx + 1 → (∀ q, q < Bx → H1[q]? = H[q]?) → va_S (fun q => s.heap.size ≤ q) s.heap H1 locs → W p l e room_1 s m #[Value.ref b] below meth c H1 locs (cl + 1) (sl + N0) Q (F0 m pc1 ls (.ref Bx :: st))) : W p l e room_1 s m #[Value.ref b] below meth c H locs cl sl Q (F0 m pc ls st) := by
  obtain ⟨hd, rfl⟩ := hd
  obtain ⟨C, T, ty0, h1, h2, h3, h4, h5, h6, h7⟩ := hN
  have hb := F.2.1
  have hKn := F.2.2.1.1 ci _ h1
  refine W.newcK F.1.1 F.1.2.1 F.1.2.2.2 (hb _ h4) (hb _ h5) (hb _ h6) rfl hd hc hs hKn.2.1 hz (fun H1 kC hkC e1 z1 o1 => ?_)
  exact k H1 (sing ⟨_, h1, (u_born ty0 hb h2 hKn hkC e1 h3).to h7⟩) z1 o1 ⟨Nat.le_trans hS.1 (by omega), fun x q1 q2 => (o1 x (by have := hS.1; omega)).trans (hS.2.1 x q1 q2), hS.2.2⟩
theorem law_init (F : FLw p s m meth c b n xs D B Bm) (hNA : NA s) {ix ci d mL mc ms Bx z1 : Nat} {y : MethodName} {ccy : ByteArray} {o0 : va_E} {w1 : va_W} (hci : CI RL ix ci y ccy mL 0) (hlk : Cond.methodLink RL ix y ∈ gtb) (hd : De code pc (.invokespecial ix) 3 pc1) (hcat : (st.map fun v => v.category).sum ≤ 8) (hR : d + 1 ≤ 2048 ∧ 8 + (mL + 11) + 40 * d ≤ 84000) (hc : cl + mc ≤ room_1.cells) (hs : sl + ms ≤ room_1.slots) (hM : CL l D y ccy mL d mc ms Bx o0 w1 z1) (hsz : ls.size = 4) (hBx : s.heap.size ≤ Bx) (hP : va_P D.1 vwCl (wE Bx [o0]) H) (hz : H.size = Bx + 1) (hS : va_S (fun q => s.heap.size ≤ q) s.heap H locs) (k : ∀ (H1 : Heap) (locs1 : List Loc), va_P D.1 vwCl w1 H1 → H1.size = Bx + z1 → (∀ q, q < Bx → H1[q]? = H[q]?) → va_S (fun q => s.heap.size ≤ q) s.heap H1 locs1 → W p l e room_1 s m #[Value.ref b] below meth c H1 locs1 (cl + mc) (sl + ms) Q (F0 m pc1 ls st)) : W p l e room_1 s m #[Value.ref b] below meth c H locs cl sl Q (F0 m pc ls (.ref Bx :: st)) := by
  obtain ⟨hd, rfl⟩ := hd
  obtain ⟨-, h2, h3, h4, h5, h6⟩ := hci
  have hb := F.2.1
  refine va_callv (va_runI (As := []) (rest := st) ⟨F.1.1, F.1.2.1, F.1.2.2.1, F.1.2.2.2, hb⟩ hM ⟨callB_of 0 hb (gtbCode h5) rfl rfl rfl (hb _ h4) (hb _ hlk) h6 hR, h3, hb _ h2⟩ ⟨fun a U g mk q => by obtain ⟨q0, qP, qz, qK, qN⟩ := q; exact ⟨q0, qP, qz, va_K.moved (u := U) (U := U.calling g mk a) (Vm.Alike.refl U.vm) qK, NA.same rfl qN⟩, fun U hU hW => ⟨rfl, by rw [hU]; exact hP, by rw [hU]; exact hz, va_K.moved hW.alike F.2.2.1, NA.warm hW hNA⟩⟩ rfl rfl hsz rfl (lv_room hcat) hd ⟨hc, hs⟩) hS (fun q _ h => Nat.le_trans hBx h) (fun q h => Nat.le_trans hBx h) (fun u t H1 locs1 ht hvm hw hB hz1 hk1 hS1 => ?_)
  obtain ⟨b1, b2, b3⟩ := hB
  rw [ht] at b1 b2
  exact k H1 locs1 b1 b2 (fun q hq => hk1 q (by omega) (by omega)) hS1
end LS
set_option maxRecDepth 100000 in
set_option maxHeartbeats 4000000 in
theorem whole_start {p : Program} {e : Env} {s : State} {m : MethodId} {below : List Frame} {meth : Method} {c : Code} (l : Launch) (hflags : l.flags = flags0) {b L : Nat} {xs : Nat → Int32} (hL : L ≤ 320) (C0 : lw_At p s m meth c b L xs) : W p l e room_1 s m #[Value.ref b] below meth c s.heap [] 0 0 (lw_Z below #[Value.ref b] s) (entryFrame m ([Value.ref b] : List Value).toArray 4) := by
  obtain ⟨hx, hb, hr, hml, hown, hts, hX, hbl, hlocks, hgv⟩ := C0
  have hgt : ∀ w ∈ gtb, w.before #[Value.ref b] s = true := fun w h => hts w (gtbIn h)
  obtain ⟨c0, i0, k0⟩ := u_known (C := RX0) (T := TX0) (N := 2) (n := 2) hgt inC0 (hgt (.instantiable RX0 2) (tw1 150 rfl))
  obtain ⟨c1, i1, k1⟩ := u_known (C := RX1) (T := TX1) (N := 6) (n := 6) hgt inC1 (hgt (.instantiable RX1 6) (tw1 166 rfl))
  obtain ⟨c2, i2, k2⟩ := u_known (C := RX2) (T := TX2) (N := 5) (n := 5) hgt inC2 (hgt (.instantiable RX2 5) (tw1 58 rfl))
  obtain ⟨c3, i3, k3⟩ := u_known (C := RX3) (T := TX3) (N := 3) (n := 3) hgt inC3 (hgt (.instantiable RX3 3) (tw1 130 rfl))
  obtain ⟨c4, i4, k4⟩ := u_known (C := RX4) (T := TX4) (N := 10) (n := 10) hgt inC4 (hgt (.instantiable RX4 10) (tw1 21 rfl))
  obtain ⟨c5, i5, k5⟩ := u_known (C := RX5) (T := TX5) (N := 4) (n := 4) hgt inC5 (hgt (.instantiable RX5 4) (tw1 27 rfl))
  obtain ⟨c6, i6, k6⟩ := u_known (C := RX6) (T := TX6) (N := 9) (n := 9) hgt inC6 (hgt (.instantiable RX6 9) (tw1 13 rfl))
  obtain ⟨c7, i7, k7⟩ := u_known (C := RX7) (T := TX7) (N := 24) (n := 24) hgt inC7 (hgt (.instantiable RX7 24) (tw3 83 rfl))
  obtain ⟨dC, dI, hKc⟩ : ∃ (dC : Nat → ClassId) (dI : Nat → Nat → Nat), ∀ (k : Nat) (q : vw_C), vwCl[k]? = some q → u_Kn s q.1 q.2.1 q.2.2 (dC k) (dI k) := by
    refine ⟨fun k => if k = 0 then c0 else if k = 1 then c1 else if k = 2 then c2 else if k = 3 then c3 else if k = 4 then c4 else if k = 5 then c5 else if k = 6 then c6 else c7, fun k => if k = 0 then i0 else if k = 1 then i1 else if k = 2 then i2 else if k = 3 then i3 else if k = 4 then i4 else if k = 5 then i5 else if k = 6 then i6 else i7, ?_⟩
    intro k q hq
    match k, hq with
    | 0, hq => cases hq; exact k0
    | 1, hq => cases hq; exact k1
    | 2, hq => cases hq; exact k2
    | 3, hq => cases hq; exact k3
    | 4, hq => cases hq; exact k4
    | 5, hq => cases hq; exact k5
    | 6, hq => cases hq; exact k6
    | 7, hq => cases hq; exact k7
    | k + 8, hq => simp [vwCl] at hq
  obtain ⟨cI, kI, mI, a1, a2, a3⟩ := Cond.arrayClass_spec (hgt (.arrayClass .int) (tw1 56 rfl))
  obtain ⟨cZ, kZ, mZ, z1, z2, z3⟩ := Cond.arrayClass_spec (hgt (.arrayClass .boolean) (tw1 193 rfl))
  have hAO : va_AO RX2 s := va_AO.of (hts (.arrayOver (.object RX2)) (nw1 136 rfl))
  obtain ⟨mQ, cQ, kQ, q1, -, q3, q4, q5⟩ := Cond.arrayOver_spec hAO
  obtain ⟨D, hD⟩ : ∃ D : DX, D = ((dC, dI), cI, cZ, cQ) := ⟨_, rfl⟩
  have hKK : KK D s := by
    subst hD
    refine ⟨hKc, fun k q hk => ?_⟩
    match k, hk with
    | 0, hk => cases hk; exact ⟨fun N z => ⟨fun k h => (by cases h), kI, a2, mI, a3⟩, a1⟩
    | 1, hk => cases hk; exact ⟨fun N z => ⟨fun k h => (by cases h), kZ, z2, mZ, z3⟩, z1⟩
    | 2, hk => cases hk; exact ⟨fun N z => ⟨fun k h => (by cases h), kQ, q3, mQ, q4⟩, kQ, mQ, q3, q4, q1, q5⟩
    | k + 3, hk => simp at hk
  have hNA : NA s := ⟨nwl_ok hts, hAO⟩
  have F : FLw p s m meth c b L xs D s.heap.size (s.heap.size + 108) := ⟨⟨hx, hb, hml, hown⟩, hgt, hKK, hX, hbl, hr, hlocks, Nat.le_refl _, Nat.le_refl _⟩
  have hl := lv_entry ([.ref b]) (n := 4) (Nat.le_of_ble_eq_true rfl)
  rw [lg_entry_eq]
  generalize (lg_sl ([.ref b]) ++ List.replicate (4 - (lg_sl ([.ref b])).length) Slot.unset).toArray = ls at hl ⊢
  have hl : lv_has ls 4 [(0, .ref b)] := hl
  refine law_new F (Bx := s.heap.size) nc_L_7 (dk dtL_law_0 0 rfl) (Nat.le_of_ble_eq_true rfl) (Nat.le_of_ble_eq_true rfl) rfl va_S.rf (fun H1 hP1 hz1 _ hS1 => ?_)
  refine lv_dup hx hb (dk dtL_law_0 1 rfl).1 rfl ?_
  refine law_init F hNA (Bx := s.heap.size) ci_L_9 lci_L_9 (dk dtL_law_0 2 rfl) (Nat.le_of_ble_eq_true rfl) ⟨by decide, by decide⟩ (Nat.le_of_ble_eq_true rfl) (Nat.le_of_ble_eq_true rfl) (k_X6_init l D s.heap.size) hl.1 (Nat.le_refl _) hP1 hz1 hS1 (fun H2 locs2 hP2 hz2 _ hS2 => ?_)
  refine lv_astore_n (lv' := [(1, .ref s.heap.size), (0, .ref b)]) hx hb (dk dtL_law_0 3 rfl).1 rfl hl (by decide) rfl (fun ls hl => ?_)
  refine law_new F (Bx := s.heap.size + 108) nc_L_10 (dk dtL_law_0 4 rfl) (Nat.le_of_ble_eq_true rfl) (Nat.le_of_ble_eq_true rfl) hz2 hS2 (fun H3 hP3 hz3 o3 hS3 => ?_)
  refine lv_dup hx hb (dk dtL_law_0 5 rfl).1 rfl ?_
  refine law_init F hNA (Bx := s.heap.size + 108) ci_L_12 lci_L_12 (dk dtL_law_0 6 rfl) (Nat.le_of_ble_eq_true rfl) ⟨by decide, by decide⟩ (Nat.le_of_ble_eq_true rfl) (Nat.le_of_ble_eq_true rfl) (k_X7_init l D (s.heap.size + 108)) hl.1 (Nat.le_add_right _ _) hP3 hz3 hS3 (fun H4 locs4 hP4 hz4 o4 hS4 => ?_)
  refine lv_astore_n (lv' := [(2, .ref (s.heap.size + 108)), (1, .ref s.heap.size), (0, .ref b)]) hx hb (dk dtL_law_0 7 rfl).1 rfl hl (by decide) rfl (fun ls hl => ?_)
  refine lv_iconst (v := nI 0) hx hb (dk dtL_law_0 8 rfl).1 (by decide) ?_
  refine lv_istore_n (lv' := [(3, .int (nI 0)), (2, .ref (s.heap.size + 108)), (1, .ref s.heap.size), (0, .ref b)]) hx hb (dk dtL_law_0 9 rfl).1 rfl hl (by decide) rfl (fun ls hl => ?_)
  refine law_loop F hL (L + 6) 0 0 M0c 0 M1m Rel_0 (Nat.zero_le _) (by omega) H4 locs4 ls ?_ hP4 hS4 hl
  refine hP2.kept (fun i q hi => ?_)
  obtain ⟨g1, rfl⟩ := wl_inv hi
  have h1 : s.heap.size + i < s.heap.size + 108 := Nat.add_lt_add_left g1 _
  exact (o4 _ h1).trans (o3 _ h1)
set_option maxHeartbeats 4000000 in
theorem lw_walk (l : Launch) (hflags : l.flags = flags0) (b : Addr) (xs : List Int32) : MetFree l x (headSpec (Jvm.Cond.code x code maxLocals ret :: tables_1) room_1) (lw_P b xs) (fun _ _ _ _ _ => True) lw_Q := by
  refine MetFree.of_bodyS (code := code) (maxLocals := maxLocals) (ret := ret) (by decide) ?_ ?_
  · intro args s m h hn
    obtain ⟨meth, c, h1, h2, h3, h4, h5, h6, -, -⟩ := Cond.code_spec hn (atoms_spec (ws := Jvm.Cond.code x code maxLocals ret :: tables_1) h _ List.mem_cons_self)
    exact ⟨meth, c, h1, h2, h3, h4, h5, h6⟩
  · intro p e s m args below meth c s₁ B hml0 hP _
    obtain ⟨rfl, hx, hbd, hgv⟩ := hP
    obtain ⟨scr, harrAt, hlist, hof, hsmall⟩ := hx
    obtain ⟨hcb, hkn, -, -⟩ := State.arrayAt?_spec harrAt
    have hown : s.vm.findClass R_law = some m.cls := findClass_of_methodNamed B.named
    have hts0 : ∀ c ∈ (Jvm.Cond.code x code maxLocals ret :: tables_1), c.before #[Value.ref b] s = true := atoms_spec (ws := Jvm.Cond.code x code maxLocals ret :: tables_1) B.pre
    have hts : ∀ w ∈ lw_tbl, w.before #[Value.ref b] s = true := k2_hts_sels lw_privs (fun w hw => hts0 w (List.mem_cons_of_mem _ hw)) lw_privs_ok
    have hml : c.maxLocals = 4 := B.maxLocals_eq (hts0 _ List.mem_cons_self)
    have X₀ : Stand p l e room_1 s m #[Value.ref b] below meth c s₁ [] 0 0 := Stand.of_body B
    have hh0 : s₁.heap = s.heap := by rw [B.state]; rfl
    have hsz : scr.slots.size = xs.length := by rw [← Array.length_toList, hlist, List.length_map]
    have hval : ∀ j : Nat, j < xs.length → scr.slots[j]? = some (.int (xs.getD j 0)) := fun j hj => by
      rw [← Array.getElem?_toList, hlist]
      simp [hj]
    have hbl : b < s.heap.size := (Array.getElem?_eq_some_iff.mp hcb).1
    have hX : va_X b xs.length (fun j => xs.getD j 0) s s.heap := ⟨scr, hcb, hof, hkn, hsz, hval⟩
    have K : W p l e room_1 s m #[Value.ref b] below meth c s₁.heap [] 0 0 (lw_Z below #[Value.ref b] s) (entryFrame m ([Value.ref b] : List Value).toArray 4) := by
      rw [hh0]
      exact whole_start l hflags hbd ⟨B.exec, B.bytes, B.returns, hml, hown, hts, hX, hbl, B.notSynchronized, hgv⟩
    obtain ⟨t, a1, o, b1, b2, b3⟩ := K s₁ rfl X₀
    exact ⟨t, o, a1, b1, b2, b3⟩
theorem lw_pre_spec {args : Array Value} {s : State} (h : (Jvm.Cond.and given_1 narrow_1).before args s = true) (hr : rest_1_c.before args s = true) : ∃ (b : Addr) (xs : List Int32), lw_P b xs args s := by
  have hs := flat_of_before _ h
  have hq := flat_of_before _ hr
  have hc : (Cond.count 1).before args s = true := hs _ (by decide +kernel)
  have harr : (Cond.arrayOf (.arg 0) .int).before args s = true := hs _ (by decide +kernel)
  have hle : (Cond.le (.length (.arg 0)) (.int 320)).before args s = true := hs _ (by decide +kernel)
  have hlen : (Cond.isInt (.length (.arg 0))).before args s = true := hq _ (by decide +kernel)
  have hall : (Cond.all (.arg 0) (.isInt (.elem (.arg 0) (.index 0)))).before args s = true := hq _ (by decide +kernel)
  obtain ⟨b, xs, hb, hx⟩ := State.ints_of_pre rfl harr hlen hall
  have hsm : xs.length < 2 ^ 31 := hx.choose_spec.2.2.2
  have hev : (Term.length (.arg 0)).eval args s none [] s = some (.int xs.length.toInt32) := hx.length_eval hb
  have hv := Cond.le_ints hev (show (Term.int 320).eval args s none [] s = some (.int 320) from rfl)
  have hd : xs.length.toInt32 ≤ 320 := by
    simpa [Cond.before, Cond.holds, hv] using hle
  have hN : xs.length ≤ 320 := (Int32.ofNat_le_ofNat hsm (by decide)).mp (show Int32.ofNat xs.length ≤ Int32.ofNat 320 from hd)
  exact ⟨b, xs, Cond.one_arg hc (show args[0]? = some (.ref b) from hb), hx, hN, h⟩
theorem lw_comes (l : Launch) (hflags : l.flags = flags0) : Comes l x (Jvm.Cond.code x code maxLocals ret :: tables_1) room_1 (fun tb e args s => Calls_1 tb e args s ∧ rest_1 tb e args s ∧ Pre_1 tb e args s)
    (fun _ _ args s o t => lw_Q args s o t) := by
  intro p e ha hc hk s m args below hf hfit hheap happ hpre
  obtain ⟨b, xs, hP⟩ := lw_pre_spec hpre.2.2 hpre.2.1
  obtain ⟨k, o, h1, h2, h3, hQ⟩ := lw_walk l hflags b xs p e ha hc hk s m args below hf ((Spec.applies_iff_loose hf).mp happ).1 hP trivial
  exact ⟨k, o, h1, h2, h3, hQ⟩
theorem lw_frame {s t : State} {o : Outcome} {args : Array Value} (h : Framed s o t [] 600000 7302250) :
    Framed s o t (fieldLocs frame_1_writes args s ++ arrayLocs frame_1_arrays args s ++ staticLocs frame_1_statics s) 600000 7302250 := h
theorem lw_limb (L : Cond) (hL : ∀ (args : Array Value) (s t : State), L.after args s (.returned (some (.int 1))) t = true) :
    ArmFor flags0 classFile x code maxLocals ret World_1 tables_1 room_1 Calls_1 rest_1 Pre_1
      (fun tb e a s o t => postC L tb e a s o t ∧ Framed s o t (fieldLocs frame_1_writes a s ++ arrayLocs frame_1_arrays a s ++ staticLocs frame_1_statics s) 600000 7302250) := by
  intro l hflags _ _ p e ha hc hk s m args below hf hfit hheap happ hpre
  obtain ⟨k, o, h1, h2, h3, rfl, hF⟩ := lw_comes l hflags p e ha hc hk s m args below hf hfit hheap happ hpre
  exact ⟨k, _, h1, h2, h3, hL args s _, lw_frame hF⟩
theorem i_vc : Claimed_1_1 ∧ Claimed_1_2 := ⟨lw_limb limb_1_1 (fun args s t => by simp [limb_1_1, Cond.after, Cond.holds, Cond.value]), lw_limb limb_1_2 (fun args s t => Cond.after_iff.mpr (by
  first | (rw [show limb_1_2 = Cond.eq .result (.int 1) from rfl, Cond.eq_ints (x := 1) (y := 1) rfl rfl]; simp; done) | (simp [limb_1_2, Cond.value, Term.eval]; done)))⟩

