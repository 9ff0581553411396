def nowE (D : DX) (x : Nat) : List va_E := [.inr (2, [.int (-9), .ref (x + 1), .ref (x + 2), .ref (x + 3), .ref (x + 4)]), aI D 5, aI D 5, aI D 20, aI D 5]
def townE (D : DX) (x : Nat) : List va_E := [.inr (5, [.int (nI 3), .int (nI 2), .int (nI 0), .ref (x + 1)]), aI D 5]
def textE (D : DX) (x : Nat) : List va_E := .inr (4, [.ref (x + 1), .int (nI 0), .ref (x + 2), .ref (x + 4), .int (nI 0), .int (nI 0), .int (nI 0), .int (nI 0), .int (nI 258), .int (nI 0)]) :: (([aI D 150] ++ townE D (x + 2)) ++ nowE D (x + 4))
def noteE (D : DX) (x : Nat) : List va_E := [.inr (1, [.ref (x + 1), .ref (x + 2), .ref (x + 3), .int (nI 0), .int (nI 0), .int (nI 99)]), aI D 6, aI D 6, aZ D 6]
def nowsE (D : DX) (b : Nat) : Nat → List va_E
  | 0 => []
  | i + 1 => nowsE D b i ++ nowE D (b + 5 * i)
theorem nowsE_len (D : DX) (b i : Nat) : (nowsE D b i).length = 5 * i := by
  induction i with
  | zero => rfl
  | succ i ih =>
    simp only [nowsE]
    rw [List.length_append, ih]
    show 5 * i + 5 = 5 * (i + 1)
    omega
def fI (b i : Nat) : Nat → Option Nat := fun j => if j < i then some (b + 5 * j) else none
theorem fI_s (b i : Nat) : va_up (fI b i) i (some (b + 5 * i)) = fI b (i + 1) := by
  funext j
  unfold va_up fI
  by_cases h : j = i
  · subst h
    rw [if_pos rfl, if_pos (by omega)]
  · rw [if_neg h]
    by_cases h2 : j < i
    · rw [if_pos h2, if_pos (by omega)]
    · rw [if_neg h2, if_neg (by omega)]
theorem fI_0 (b : Nat) : fI b 0 = fun _ => none := by
  funext j
  unfold fI
  rw [if_neg (Nat.not_lt_zero _)]
def pastE (D : DX) (x : Nat) : List va_E := .inr (3, [.ref (x + 1), .int (nI 0), .int (nI 0)]) :: aQ D 10 (fI (x + 2) 10) :: nowsE D (x + 2) 10
def foreE (D : DX) (x : Nat) : List va_E := .inr (0, [.ref (x + 1), .ref (x + 2)]) :: aQ D 4 (fI (x + 3) 4) :: aI D 3 :: nowsE D (x + 3) 4
theorem upd_c (j : Nat) : upd (fun _ => (0 : Int32)) j (nI 0) = fun _ => 0 := by
  funext i
  by_cases h : i = j
  · subst h; rw [pk_us]; rfl
  · rw [pk_un h]
set_option maxRecDepth 100000 in
set_option maxHeartbeats 4000000 in
theorem k_X2_init (l : Launch) (D : DX) (a : Nat) : CK l D yX2_init cX2_init 1 1 4 35 a (.inr (2, [.int 0, .null, .null, .null, .null])) (nowE D a) := by
  refine gc_entry (by decide) rfl (by decide) ?_
  intro p e s m below meth c Q F hQ
  refine gc_aload_n F 0 (dk dtX2_init_0 0 rfl) rfl ?_
  refine gc_objInit F oi_X2_3 (dk dtX2_init_0 1 rfl) (by decide) (by decide) ?_
  refine gc_aload_n F 0 (dk dtX2_init_0 2 rfl) rfl ?_
  refine gc_bipush F (-9) (dk dtX2_init_0 3 rfl) (by decide) ?_
  refine gc_put F (i := 0) fa_X2_9 (dk dtX2_init_0 4 rfl) rfl (Nat.le_of_ble_eq_true rfl) rfl rfl rfl rfl ?_
  refine gc_cast (w2 := wE a (.inr (2, [.int (-9), .null, .null, .null, .null]) :: [])) (z2 := 1) (cl2 := 0) (sl2 := 0) rfl rfl rfl rfl ?_
  refine gc_aload_n F 0 (dk dtX2_init_0 5 rfl) rfl ?_
  refine gc_iconst F (nI 5) (dk dtX2_init_0 6 rfl) (by decide) ?_
  refine gc_newaI F (n := 5) (dk dtX2_init_0 7 rfl) (by decide) (Nat.le_of_ble_eq_true rfl) (Nat.le_of_ble_eq_true rfl) rfl ?_
  refine gc_cast (w2 := wE a (.inr (2, [.int (-9), .null, .null, .null, .null]) :: [aI D 5])) (z2 := 2) (cl2 := 1) (sl2 := 5) rfl rfl rfl rfl ?_
  refine gc_putF F (i := 0) fa_X2_15 (dk dtX2_init_0 8 rfl) rfl (Nat.le_of_ble_eq_true rfl) rfl rfl ⟨_, rfl, rfl⟩ rfl rfl ?_
  refine gc_cast (w2 := wE a (.inr (2, [.int (-9), .ref (a + 1), .null, .null, .null]) :: [aI D 5])) (z2 := 2) (cl2 := 1) (sl2 := 5) rfl rfl rfl rfl ?_
  refine gc_aload_n F 0 (dk dtX2_init_0 9 rfl) rfl ?_
  refine gc_iconst F (nI 5) (dk dtX2_init_0 10 rfl) (by decide) ?_
  refine gc_newaI F (n := 5) (dk dtX2_init_0 11 rfl) (by decide) (Nat.le_of_ble_eq_true rfl) (Nat.le_of_ble_eq_true rfl) rfl ?_
  refine gc_cast (w2 := wE a (.inr (2, [.int (-9), .ref (a + 1), .null, .null, .null]) :: [aI D 5, aI D 5])) (z2 := 3) (cl2 := 2) (sl2 := 10) rfl rfl rfl rfl ?_
  refine gc_putF F (i := 0) fa_X2_19 (dk dtX2_init_0 12 rfl) rfl (Nat.le_of_ble_eq_true rfl) rfl rfl ⟨_, rfl, rfl⟩ rfl rfl ?_
  refine gc_cast (w2 := wE a (.inr (2, [.int (-9), .ref (a + 1), .ref (a + 2), .null, .null]) :: [aI D 5, aI D 5])) (z2 := 3) (cl2 := 2) (sl2 := 10) rfl rfl rfl rfl ?_
  refine gc_aload_n F 0 (dk dtX2_init_0 13 rfl) rfl ?_
  refine gc_bipush F (nI 20) (dk dtX2_init_0 14 rfl) (by decide) ?_
  refine gc_newaI F (n := 20) (dk dtX2_init_0 15 rfl) (by decide) (Nat.le_of_ble_eq_true rfl) (Nat.le_of_ble_eq_true rfl) rfl ?_
  refine gc_cast (w2 := wE a (.inr (2, [.int (-9), .ref (a + 1), .ref (a + 2), .null, .null]) :: [aI D 5, aI D 5, aI D 20])) (z2 := 4) (cl2 := 3) (sl2 := 30) rfl rfl rfl rfl ?_
  refine gc_putF F (i := 0) fa_X2_22 (dk dtX2_init_0 16 rfl) rfl (Nat.le_of_ble_eq_true rfl) rfl rfl ⟨_, rfl, rfl⟩ rfl rfl ?_
  refine gc_cast (w2 := wE a (.inr (2, [.int (-9), .ref (a + 1), .ref (a + 2), .ref (a + 3), .null]) :: [aI D 5, aI D 5, aI D 20])) (z2 := 4) (cl2 := 3) (sl2 := 30) rfl rfl rfl rfl ?_
  refine gc_aload_n F 0 (dk dtX2_init_0 17 rfl) rfl ?_
  refine gc_iconst F (nI 5) (dk dtX2_init_0 18 rfl) (by decide) ?_
  refine gc_newaI F (n := 5) (dk dtX2_init_0 19 rfl) (by decide) (Nat.le_of_ble_eq_true rfl) (Nat.le_of_ble_eq_true rfl) rfl ?_
  refine gc_cast (w2 := wE a (.inr (2, [.int (-9), .ref (a + 1), .ref (a + 2), .ref (a + 3), .null]) :: [aI D 5, aI D 5, aI D 20, aI D 5])) (z2 := 5) (cl2 := 4) (sl2 := 35) rfl rfl rfl rfl ?_
  refine gc_putF F (i := 0) fa_X2_25 (dk dtX2_init_0 20 rfl) rfl (Nat.le_of_ble_eq_true rfl) rfl rfl ⟨_, rfl, rfl⟩ rfl rfl ?_
  refine gc_cast (w2 := wE a (.inr (2, [.int (-9), .ref (a + 1), .ref (a + 2), .ref (a + 3), .ref (a + 4)]) :: [aI D 5, aI D 5, aI D 20, aI D 5])) (z2 := 5) (cl2 := 4) (sl2 := 35) rfl rfl rfl rfl ?_
  exact gc_vret (F := F) hQ rfl (dk dtX2_init_0 21 rfl)
set_option maxRecDepth 100000 in
set_option maxHeartbeats 4000000 in
theorem k_X5_init (l : Launch) (D : DX) (a : Nat) : CK l D yX5_init cX5_init 1 1 1 5 a (.inr (5, [.int 0, .int 0, .int 0, .null])) (townE D a) := by
  refine gc_entry (by decide) rfl (by decide) ?_
  intro p e s m below meth c Q F hQ
  refine gc_aload_n F 0 (dk dtX5_init_0 0 rfl) rfl ?_
  refine gc_objInit F oi_X5_3 (dk dtX5_init_0 1 rfl) (by decide) (by decide) ?_
  refine gc_aload_n F 0 (dk dtX5_init_0 2 rfl) rfl ?_
  refine gc_iconst F (nI 3) (dk dtX5_init_0 3 rfl) (by decide) ?_
  refine gc_put F (i := 0) fa_X5_9 (dk dtX5_init_0 4 rfl) rfl (Nat.le_of_ble_eq_true rfl) rfl rfl rfl rfl ?_
  refine gc_cast (w2 := wE a (.inr (5, [.int (nI 3), .int 0, .int 0, .null]) :: [])) (z2 := 1) (cl2 := 0) (sl2 := 0) rfl rfl rfl rfl ?_
  refine gc_aload_n F 0 (dk dtX5_init_0 5 rfl) rfl ?_
  refine gc_iconst F (nI 2) (dk dtX5_init_0 6 rfl) (by decide) ?_
  refine gc_put F (i := 0) fa_X5_15 (dk dtX5_init_0 7 rfl) rfl (Nat.le_of_ble_eq_true rfl) rfl rfl rfl rfl ?_
  refine gc_cast (w2 := wE a (.inr (5, [.int (nI 3), .int (nI 2), .int 0, .null]) :: [])) (z2 := 1) (cl2 := 0) (sl2 := 0) rfl rfl rfl rfl ?_
  refine gc_aload_n F 0 (dk dtX5_init_0 8 rfl) rfl ?_
  refine gc_iconst F (nI 0) (dk dtX5_init_0 9 rfl) (by decide) ?_
  refine gc_put F (i := 0) fa_X5_18 (dk dtX5_init_0 10 rfl) rfl (Nat.le_of_ble_eq_true rfl) rfl rfl rfl rfl ?_
  refine gc_cast (w2 := wE a (.inr (5, [.int (nI 3), .int (nI 2), .int (nI 0), .null]) :: [])) (z2 := 1) (cl2 := 0) (sl2 := 0) rfl rfl rfl rfl ?_
  refine gc_aload_n F 0 (dk dtX5_init_0 11 rfl) rfl ?_
  refine gc_iconst F (nI 5) (dk dtX5_init_0 12 rfl) (by decide) ?_
  refine gc_newaI F (n := 5) (dk dtX5_init_0 13 rfl) (by decide) (Nat.le_of_ble_eq_true rfl) (Nat.le_of_ble_eq_true rfl) rfl ?_
  refine gc_cast (w2 := wE a (.inr (5, [.int (nI 3), .int (nI 2), .int (nI 0), .null]) :: [aI D 5])) (z2 := 2) (cl2 := 1) (sl2 := 5) rfl rfl rfl rfl ?_
  refine gc_putF F (i := 0) fa_X5_21 (dk dtX5_init_0 14 rfl) rfl (Nat.le_of_ble_eq_true rfl) rfl rfl ⟨_, rfl, rfl⟩ rfl rfl ?_
  refine gc_cast (w2 := wE a (.inr (5, [.int (nI 3), .int (nI 2), .int (nI 0), .ref (a + 1)]) :: [aI D 5])) (z2 := 2) (cl2 := 1) (sl2 := 5) rfl rfl rfl rfl ?_
  exact gc_vret (F := F) hQ rfl (dk dtX5_init_0 15 rfl)
set_option maxRecDepth 100000 in
set_option maxHeartbeats 4000000 in
theorem k_X1_init (l : Launch) (D : DX) (a : Nat) : CK l D yX1_init cX1_init 1 1 3 18 a (.inr (1, [.null, .null, .null, .int 0, .int 0, .int 0])) (noteE D a) := by
  refine gc_entry (by decide) rfl (by decide) ?_
  intro p e s m below meth c Q F hQ
  refine gc_aload_n F 0 (dk dtX1_init_0 0 rfl) rfl ?_
  refine gc_objInit F oi_X1_3 (dk dtX1_init_0 1 rfl) (by decide) (by decide) ?_
  refine gc_aload_n F 0 (dk dtX1_init_0 2 rfl) rfl ?_
  refine gc_bipush F (nI 6) (dk dtX1_init_0 3 rfl) (by decide) ?_
  refine gc_newaI F (n := 6) (dk dtX1_init_0 4 rfl) (by decide) (Nat.le_of_ble_eq_true rfl) (Nat.le_of_ble_eq_true rfl) rfl ?_
  refine gc_cast (w2 := wE a (.inr (1, [.null, .null, .null, .int 0, .int 0, .int 0]) :: [aI D 6])) (z2 := 2) (cl2 := 1) (sl2 := 6) rfl rfl rfl rfl ?_
  refine gc_putF F (i := 0) fa_X1_9 (dk dtX1_init_0 5 rfl) rfl (Nat.le_of_ble_eq_true rfl) rfl rfl ⟨_, rfl, rfl⟩ rfl rfl ?_
  refine gc_cast (w2 := wE a (.inr (1, [.ref (a + 1), .null, .null, .int 0, .int 0, .int 0]) :: [aI D 6])) (z2 := 2) (cl2 := 1) (sl2 := 6) rfl rfl rfl rfl ?_
  refine gc_aload_n F 0 (dk dtX1_init_0 6 rfl) rfl ?_
  refine gc_bipush F (nI 6) (dk dtX1_init_0 7 rfl) (by decide) ?_
  refine gc_newaI F (n := 6) (dk dtX1_init_0 8 rfl) (by decide) (Nat.le_of_ble_eq_true rfl) (Nat.le_of_ble_eq_true rfl) rfl ?_
  refine gc_cast (w2 := wE a (.inr (1, [.ref (a + 1), .null, .null, .int 0, .int 0, .int 0]) :: [aI D 6, aI D 6])) (z2 := 3) (cl2 := 2) (sl2 := 12) rfl rfl rfl rfl ?_
  refine gc_putF F (i := 0) fa_X1_15 (dk dtX1_init_0 9 rfl) rfl (Nat.le_of_ble_eq_true rfl) rfl rfl ⟨_, rfl, rfl⟩ rfl rfl ?_
  refine gc_cast (w2 := wE a (.inr (1, [.ref (a + 1), .ref (a + 2), .null, .int 0, .int 0, .int 0]) :: [aI D 6, aI D 6])) (z2 := 3) (cl2 := 2) (sl2 := 12) rfl rfl rfl rfl ?_
  refine gc_aload_n F 0 (dk dtX1_init_0 10 rfl) rfl ?_
  refine gc_bipush F (nI 6) (dk dtX1_init_0 11 rfl) (by decide) ?_
  refine gc_newaZ F (n := 6) (dk dtX1_init_0 12 rfl) (by decide) (Nat.le_of_ble_eq_true rfl) (Nat.le_of_ble_eq_true rfl) rfl ?_
  refine gc_cast (w2 := wE a (.inr (1, [.ref (a + 1), .ref (a + 2), .null, .int 0, .int 0, .int 0]) :: [aI D 6, aI D 6, aZ D 6])) (z2 := 4) (cl2 := 3) (sl2 := 18) rfl rfl rfl rfl ?_
  refine gc_putF F (i := 0) fa_X1_18 (dk dtX1_init_0 13 rfl) rfl (Nat.le_of_ble_eq_true rfl) rfl rfl ⟨_, rfl, rfl⟩ rfl rfl ?_
  refine gc_cast (w2 := wE a (.inr (1, [.ref (a + 1), .ref (a + 2), .ref (a + 3), .int 0, .int 0, .int 0]) :: [aI D 6, aI D 6, aZ D 6])) (z2 := 4) (cl2 := 3) (sl2 := 18) rfl rfl rfl rfl ?_
  refine gc_aload_n F 0 (dk dtX1_init_0 14 rfl) rfl ?_
  refine gc_iconst F (nI 0) (dk dtX1_init_0 15 rfl) (by decide) ?_
  refine gc_put F (i := 0) fa_X1_22 (dk dtX1_init_0 16 rfl) rfl (Nat.le_of_ble_eq_true rfl) rfl rfl rfl rfl ?_
  refine gc_cast (w2 := wE a (.inr (1, [.ref (a + 1), .ref (a + 2), .ref (a + 3), .int (nI 0), .int 0, .int 0]) :: [aI D 6, aI D 6, aZ D 6])) (z2 := 4) (cl2 := 3) (sl2 := 18) rfl rfl rfl rfl ?_
  refine gc_aload_n F 0 (dk dtX1_init_0 17 rfl) rfl ?_
  refine gc_iconst F (nI 0) (dk dtX1_init_0 18 rfl) (by decide) ?_
  refine gc_put F (i := 0) fa_X1_26 (dk dtX1_init_0 19 rfl) rfl (Nat.le_of_ble_eq_true rfl) rfl rfl rfl rfl ?_
  refine gc_cast (w2 := wE a (.inr (1, [.ref (a + 1), .ref (a + 2), .ref (a + 3), .int (nI 0), .int (nI 0), .int 0]) :: [aI D 6, aI D 6, aZ D 6])) (z2 := 4) (cl2 := 3) (sl2 := 18) rfl rfl rfl rfl ?_
  refine gc_aload_n F 0 (dk dtX1_init_0 20 rfl) rfl ?_
  refine gc_bipush F (nI 99) (dk dtX1_init_0 21 rfl) (by decide) ?_
  refine gc_put F (i := 0) fa_X1_29 (dk dtX1_init_0 22 rfl) rfl (Nat.le_of_ble_eq_true rfl) rfl rfl rfl rfl ?_
  refine gc_cast (w2 := wE a (.inr (1, [.ref (a + 1), .ref (a + 2), .ref (a + 3), .int (nI 0), .int (nI 0), .int (nI 99)]) :: [aI D 6, aI D 6, aZ D 6])) (z2 := 4) (cl2 := 3) (sl2 := 18) rfl rfl rfl rfl ?_
  exact gc_vret (F := F) hQ rfl (dk dtX1_init_0 23 rfl)
set_option maxRecDepth 100000 in
set_option maxHeartbeats 4000000 in
theorem k_X4_init (l : Launch) (D : DX) (a : Nat) : CK l D yX4_init cX4_init 1 2 8 199 a (.inr (4, [.null, .int 0, .null, .null, .int 0, .int 0, .int 0, .int 0, .int 0, .int 0])) (textE D a) := by
  refine gc_entry (by decide) rfl (by decide) ?_
  intro p e s m below meth c Q F hQ
  refine gc_aload_n F 0 (dk dtX4_init_0 0 rfl) rfl ?_
  refine gc_objInit F oi_X4_3 (dk dtX4_init_0 1 rfl) (by decide) (by decide) ?_
  refine gc_aload_n F 0 (dk dtX4_init_0 2 rfl) rfl ?_
  refine gc_sipush F (nI 150) (dk dtX4_init_0 3 rfl) (by decide) ?_
  refine gc_newaI F (n := 150) (dk dtX4_init_0 4 rfl) (by decide) (Nat.le_of_ble_eq_true rfl) (Nat.le_of_ble_eq_true rfl) rfl ?_
  refine gc_cast (w2 := wE a (.inr (4, [.null, .int 0, .null, .null, .int 0, .int 0, .int 0, .int 0, .int 0, .int 0]) :: [aI D 150])) (z2 := 2) (cl2 := 1) (sl2 := 150) rfl rfl rfl rfl ?_
  refine gc_putF F (i := 0) fa_X4_9 (dk dtX4_init_0 5 rfl) rfl (Nat.le_of_ble_eq_true rfl) rfl rfl ⟨_, rfl, rfl⟩ rfl rfl ?_
  refine gc_cast (w2 := wE a (.inr (4, [.ref (a + 1), .int 0, .null, .null, .int 0, .int 0, .int 0, .int 0, .int 0, .int 0]) :: [aI D 150])) (z2 := 2) (cl2 := 1) (sl2 := 150) rfl rfl rfl rfl ?_
  refine gc_aload_n F 0 (dk dtX4_init_0 6 rfl) rfl ?_
  refine gc_iconst F (nI 0) (dk dtX4_init_0 7 rfl) (by decide) ?_
  refine gc_put F (i := 0) fa_X4_15 (dk dtX4_init_0 8 rfl) rfl (Nat.le_of_ble_eq_true rfl) rfl rfl rfl rfl ?_
  refine gc_cast (w2 := wE a (.inr (4, [.ref (a + 1), .int (nI 0), .null, .null, .int 0, .int 0, .int 0, .int 0, .int 0, .int 0]) :: [aI D 150])) (z2 := 2) (cl2 := 1) (sl2 := 150) rfl rfl rfl rfl ?_
  refine gc_aload_n F 0 (dk dtX4_init_0 9 rfl) rfl ?_
  refine gc_new F nc_X4_19 (dk dtX4_init_0 10 rfl) (Nat.le_of_ble_eq_true rfl) (Nat.le_of_ble_eq_true rfl) rfl ?_
  refine gc_dup F (dk dtX4_init_0 11 rfl) rfl ?_
  refine gc_initN F ci_X4_21 (List.mem_of_getElem? (i := 1) rfl) (dk dtX4_init_0 12 rfl) rfl (Nat.le_of_ble_eq_true rfl) ⟨by decide, by decide⟩ (Nat.le_of_ble_eq_true rfl) (Nat.le_of_ble_eq_true rfl) (k_X5_init l D (a + 2)) ?_
  refine gc_cast (w2 := wE a (.inr (4, [.ref (a + 1), .int (nI 0), .null, .null, .int 0, .int 0, .int 0, .int 0, .int 0, .int 0]) :: ([aI D 150] ++ townE D (a + 2)))) (z2 := 4) (cl2 := 3) (sl2 := 159) rfl rfl rfl rfl ?_
  refine gc_putF F (i := 0) fa_X4_22 (dk dtX4_init_0 13 rfl) rfl (Nat.le_of_ble_eq_true rfl) rfl rfl ⟨_, rfl, rfl⟩ rfl rfl ?_
  refine gc_cast (w2 := wE a (.inr (4, [.ref (a + 1), .int (nI 0), .ref (a + 2), .null, .int 0, .int 0, .int 0, .int 0, .int 0, .int 0]) :: ([aI D 150] ++ townE D (a + 2)))) (z2 := 4) (cl2 := 3) (sl2 := 159) rfl rfl rfl rfl ?_
  refine gc_aload_n F 0 (dk dtX4_init_0 14 rfl) rfl ?_
  refine gc_new F nc_X4_26 (dk dtX4_init_0 15 rfl) (Nat.le_of_ble_eq_true rfl) (Nat.le_of_ble_eq_true rfl) rfl ?_
  refine gc_dup F (dk dtX4_init_0 16 rfl) rfl ?_
  refine gc_initN F ci_X4_28 (List.mem_of_getElem? (i := 2) rfl) (dk dtX4_init_0 17 rfl) rfl (Nat.le_of_ble_eq_true rfl) ⟨by decide, by decide⟩ (Nat.le_of_ble_eq_true rfl) (Nat.le_of_ble_eq_true rfl) (k_X2_init l D (a + 4)) ?_
  refine gc_cast (w2 := wE a (.inr (4, [.ref (a + 1), .int (nI 0), .ref (a + 2), .null, .int 0, .int 0, .int 0, .int 0, .int 0, .int 0]) :: (([aI D 150] ++ townE D (a + 2)) ++ nowE D (a + 4)))) (z2 := 9) (cl2 := 8) (sl2 := 199) rfl rfl rfl rfl ?_
  refine gc_putF F (i := 0) fa_X4_29 (dk dtX4_init_0 18 rfl) rfl (Nat.le_of_ble_eq_true rfl) rfl rfl ⟨_, rfl, rfl⟩ rfl rfl ?_
  refine gc_cast (w2 := wE a (.inr (4, [.ref (a + 1), .int (nI 0), .ref (a + 2), .ref (a + 4), .int 0, .int 0, .int 0, .int 0, .int 0, .int 0]) :: (([aI D 150] ++ townE D (a + 2)) ++ nowE D (a + 4)))) (z2 := 9) (cl2 := 8) (sl2 := 199) rfl rfl rfl rfl ?_
  refine gc_aload_n F 0 (dk dtX4_init_0 19 rfl) rfl ?_
  refine gc_iconst F (nI 0) (dk dtX4_init_0 20 rfl) (by decide) ?_
  refine gc_put F (i := 0) fa_X4_33 (dk dtX4_init_0 21 rfl) rfl (Nat.le_of_ble_eq_true rfl) rfl rfl rfl rfl ?_
  refine gc_cast (w2 := wE a (.inr (4, [.ref (a + 1), .int (nI 0), .ref (a + 2), .ref (a + 4), .int (nI 0), .int 0, .int 0, .int 0, .int 0, .int 0]) :: (([aI D 150] ++ townE D (a + 2)) ++ nowE D (a + 4)))) (z2 := 9) (cl2 := 8) (sl2 := 199) rfl rfl rfl rfl ?_
  refine gc_aload_n F 0 (dk dtX4_init_0 22 rfl) rfl ?_
  refine gc_iconst F (nI 0) (dk dtX4_init_0 23 rfl) (by decide) ?_
  refine gc_put F (i := 0) fa_X4_37 (dk dtX4_init_0 24 rfl) rfl (Nat.le_of_ble_eq_true rfl) rfl rfl rfl rfl ?_
  refine gc_cast (w2 := wE a (.inr (4, [.ref (a + 1), .int (nI 0), .ref (a + 2), .ref (a + 4), .int (nI 0), .int (nI 0), .int 0, .int 0, .int 0, .int 0]) :: (([aI D 150] ++ townE D (a + 2)) ++ nowE D (a + 4)))) (z2 := 9) (cl2 := 8) (sl2 := 199) rfl rfl rfl rfl ?_
  refine gc_aload_n F 0 (dk dtX4_init_0 25 rfl) rfl ?_
  refine gc_iconst F (nI 0) (dk dtX4_init_0 26 rfl) (by decide) ?_
  refine gc_put F (i := 0) fa_X4_40 (dk dtX4_init_0 27 rfl) rfl (Nat.le_of_ble_eq_true rfl) rfl rfl rfl rfl ?_
  refine gc_cast (w2 := wE a (.inr (4, [.ref (a + 1), .int (nI 0), .ref (a + 2), .ref (a + 4), .int (nI 0), .int (nI 0), .int (nI 0), .int 0, .int 0, .int 0]) :: (([aI D 150] ++ townE D (a + 2)) ++ nowE D (a + 4)))) (z2 := 9) (cl2 := 8) (sl2 := 199) rfl rfl rfl rfl ?_
  refine gc_aload_n F 0 (dk dtX4_init_0 28 rfl) rfl ?_
  refine gc_iconst F (nI 0) (dk dtX4_init_0 29 rfl) (by decide) ?_
  refine gc_put F (i := 0) fa_X4_43 (dk dtX4_init_0 30 rfl) rfl (Nat.le_of_ble_eq_true rfl) rfl rfl rfl rfl ?_
  refine gc_cast (w2 := wE a (.inr (4, [.ref (a + 1), .int (nI 0), .ref (a + 2), .ref (a + 4), .int (nI 0), .int (nI 0), .int (nI 0), .int (nI 0), .int 0, .int 0]) :: (([aI D 150] ++ townE D (a + 2)) ++ nowE D (a + 4)))) (z2 := 9) (cl2 := 8) (sl2 := 199) rfl rfl rfl rfl ?_
  refine gc_aload_n F 0 (dk dtX4_init_0 31 rfl) rfl ?_
  refine gc_sipush F (nI 258) (dk dtX4_init_0 32 rfl) (by decide) ?_
  refine gc_put F (i := 0) fa_X4_46 (dk dtX4_init_0 33 rfl) rfl (Nat.le_of_ble_eq_true rfl) rfl rfl rfl rfl ?_
  refine gc_cast (w2 := wE a (.inr (4, [.ref (a + 1), .int (nI 0), .ref (a + 2), .ref (a + 4), .int (nI 0), .int (nI 0), .int (nI 0), .int (nI 0), .int (nI 258), .int 0]) :: (([aI D 150] ++ townE D (a + 2)) ++ nowE D (a + 4)))) (z2 := 9) (cl2 := 8) (sl2 := 199) rfl rfl rfl rfl ?_
  refine gc_aload_n F 0 (dk dtX4_init_0 34 rfl) rfl ?_
  refine gc_iconst F (nI 0) (dk dtX4_init_0 35 rfl) (by decide) ?_
  refine gc_put F (i := 0) fa_X4_49 (dk dtX4_init_0 36 rfl) rfl (Nat.le_of_ble_eq_true rfl) rfl rfl rfl rfl ?_
  refine gc_cast (w2 := wE a (.inr (4, [.ref (a + 1), .int (nI 0), .ref (a + 2), .ref (a + 4), .int (nI 0), .int (nI 0), .int (nI 0), .int (nI 0), .int (nI 258), .int (nI 0)]) :: (([aI D 150] ++ townE D (a + 2)) ++ nowE D (a + 4)))) (z2 := 9) (cl2 := 8) (sl2 := 199) rfl rfl rfl rfl ?_
  exact gc_vret (F := F) hQ rfl (dk dtX4_init_0 37 rfl)
set_option maxRecDepth 100000 in
set_option maxHeartbeats 4000000 in
theorem k_X3_init (l : Launch) (D : DX) (a : Nat) : CK l D yX3_init cX3_init 2 2 51 410 a (.inr (3, [.null, .int 0, .int 0])) (pastE D a) := by
  refine gc_entry (by decide) rfl (by decide) ?_
  intro p e s m below meth c Q F hQ
  refine gc_aload_n F 0 (dk dtX3_init_0 0 rfl) rfl ?_
  refine gc_objInit F oi_X3_3 (dk dtX3_init_0 1 rfl) (by decide) (by decide) ?_
  refine gc_aload_n F 0 (dk dtX3_init_0 2 rfl) rfl ?_
  refine gc_bipush F (nI 10) (dk dtX3_init_0 3 rfl) (by decide) ?_
  refine gc_newq F (n := 10) (tw1 135 rfl) (dk dtX3_init_0 4 rfl) (by decide) (Nat.le_of_ble_eq_true rfl) (Nat.le_of_ble_eq_true rfl) rfl ?_
  refine gc_cast (w2 := wE a (.inr (3, [.null, .int 0, .int 0]) :: [aQ D 10 (fun _ => none)])) (z2 := 2) (cl2 := 1) (sl2 := 10) rfl rfl rfl rfl ?_
  refine gc_putF F (i := 0) fa_X3_11 (dk dtX3_init_0 5 rfl) rfl (Nat.le_of_ble_eq_true rfl) rfl rfl ⟨_, rfl, rfl⟩ rfl rfl ?_
  refine gc_cast (w2 := wE a (.inr (3, [.ref (a + 1), .int 0, .int 0]) :: [aQ D 10 (fun _ => none)])) (z2 := 2) (cl2 := 1) (sl2 := 10) rfl rfl rfl rfl ?_
  refine gc_aload_n F 0 (dk dtX3_init_0 6 rfl) rfl ?_
  refine gc_iconst F (nI 0) (dk dtX3_init_0 7 rfl) (by decide) ?_
  refine gc_put F (i := 0) fa_X3_17 (dk dtX3_init_0 8 rfl) rfl (Nat.le_of_ble_eq_true rfl) rfl rfl rfl rfl ?_
  refine gc_cast (w2 := wE a (.inr (3, [.ref (a + 1), .int (nI 0), .int 0]) :: [aQ D 10 (fun _ => none)])) (z2 := 2) (cl2 := 1) (sl2 := 10) rfl rfl rfl rfl ?_
  refine gc_aload_n F 0 (dk dtX3_init_0 9 rfl) rfl ?_
  refine gc_iconst F (nI 0) (dk dtX3_init_0 10 rfl) (by decide) ?_
  refine gc_put F (i := 0) fa_X3_21 (dk dtX3_init_0 11 rfl) rfl (Nat.le_of_ble_eq_true rfl) rfl rfl rfl rfl ?_
  refine gc_cast (w2 := wE a (.inr (3, [.ref (a + 1), .int (nI 0), .int (nI 0)]) :: [aQ D 10 (fun _ => none)])) (z2 := 2) (cl2 := 1) (sl2 := 10) rfl rfl rfl rfl ?_
  have lp : ∀ (fz i : Nat), i ≤ 10 → 10 - i < fz → GC p l e { frames := 2, cells := 51, slots := 410, locals := 40 * 2 } s m [Value.ref a].toArray below meth c 2 D a Q (1 + 5 * i) (10 + 40 * i) (wE a (.inr (3, [.ref (a + 1), .int (nI 0), .int (nI 0)]) :: aQ D 10 (fI (a + 2) i) :: nowsE D (a + 2) i)) (2 + 5 * i) 25 [(1, .int (nI i)), (0, .ref a)] [] := by
    intro fz
    induction fz with
    | zero => intro i _ h; exact absurd h (Nat.not_lt_zero _)
    | succ fz ih =>
      intro i hi hf
      refine gc_iload_n F 0 (dk dtX3_init_0 14 rfl) rfl ?_
      refine gc_bipush F (nI 10) (dk dtX3_init_0 15 rfl) (by decide) ?_
      refine gc_icmp_geN F 50 (dk dtX3_init_0 16 rfl) (by decide) (by omega) (by decide) (fun ce => ?_) (fun ce => ?_)
      · obtain rfl : 10 = i := by omega
        exact gc_vret (F := F) (E1 := pastE D a) hQ rfl (dk dtX3_init_0 26 rfl)
      · refine gc_aload_n F 1 (dk dtX3_init_0 17 rfl) rfl ?_
        refine gc_get F (i := 0) fa_X3_11 (dk dtX3_init_0 18 rfl) rfl rfl ?_
        refine gc_iload_n F 0 (dk dtX3_init_0 19 rfl) rfl ?_
        have hEl : (.inr (3, [.ref (a + 1), .int (nI 0), .int (nI 0)]) :: aQ D 10 (fI (a + 2) i) :: nowsE D (a + 2) i).length = 2 + 5 * i := by
          simp only [List.length_cons, nowsE_len]
          omega
        refine gc_new F nc_X3_9 (dk dtX3_init_0 20 rfl) (by show _ ≤ 51; omega) (by show _ ≤ 410; omega) hEl ?_
        refine gc_dup F (dk dtX3_init_0 21 rfl) rfl ?_
        refine gc_initN F ci_X3_24 (List.mem_of_getElem? (i := 5) rfl) (dk dtX3_init_0 22 rfl) hEl (Nat.le_of_ble_eq_true rfl) ⟨by decide, by decide⟩ (by show _ ≤ 51; omega) (by show _ ≤ 410; omega) (k_X2_init l D (a + (2 + 5 * i))) ?_
        have hE2 : ((.inr (3, [.ref (a + 1), .int (nI 0), .int (nI 0)]) :: aQ D 10 (fI (a + 2) i) :: nowsE D (a + 2) i) ++ nowE D (a + (2 + 5 * i))).length = 2 + 5 * i + 5 := by rw [List.length_append, hEl]; rfl
        have hv : ((.inr (3, [.ref (a + 1), .int (nI 0), .int (nI 0)]) :: aQ D 10 (fI (a + 2) i) :: nowsE D (a + 2) i) ++ nowE D (a + (2 + 5 * i)))[2 + 5 * i]? = some (.inr (2, [.int (-9), .ref (a + (2 + 5 * i) + 1), .ref (a + (2 + 5 * i) + 2), .ref (a + (2 + 5 * i) + 3), .ref (a + (2 + 5 * i) + 4)])) := by
          rw [List.getElem?_append_right (by rw [hEl]; exact Nat.le_refl _), hEl, Nat.sub_self]
          rfl
        refine gc_aast F (i := 1) (qk := 2 + 5 * i) (j := i) (dk dtX3_init_0 23 rfl) rfl hv (by omega) (by decide) hE2 (by show 2 + 5 * i + 5 = _; omega) ?_
        refine gc_iinc F 0 (nI (i + 1)) [(1, .int (nI (i + 1))), (0, .ref a)] (dk dtX3_init_0 24 rfl) rfl (nI_1 _) (by decide) rfl ?_
        refine gc_goto F 25 (dk dtX3_init_0 25 rfl) (by decide) ?_
        refine gc_cast (w2 := wE a (.inr (3, [.ref (a + 1), .int (nI 0), .int (nI 0)]) :: aQ D 10 (fI (a + 2) (i + 1)) :: nowsE D (a + 2) (i + 1))) (z2 := 2 + 5 * (i + 1)) (cl2 := 1 + 5 * (i + 1)) (sl2 := 10 + 40 * (i + 1)) ?_ (by show 2 + 5 * i + 5 = _; omega) (by omega) (by omega) (ih (i + 1) (by omega) (by omega))
        rw [← fI_s, ← Nat.add_assoc a 2 (5 * i)]
        rfl
  refine gc_iconst F (nI 0) (dk dtX3_init_0 12 rfl) (by decide) ?_
  refine gc_istore_n F [(1, .int (nI 0)), (0, .ref a)] (dk dtX3_init_0 13 rfl) (by decide) rfl ?_
  refine gc_cast (w2 := wE a (.inr (3, [.ref (a + 1), .int (nI 0), .int (nI 0)]) :: aQ D 10 (fI (a + 2) 0) :: nowsE D (a + 2) 0)) (z2 := 2 + 5 * 0) (cl2 := 1 + 5 * 0) (sl2 := 10 + 40 * 0) (by rw [fI_0]; rfl) rfl rfl rfl (lp 11 0 (Nat.zero_le _) (by decide))
set_option maxRecDepth 100000 in
set_option maxHeartbeats 4000000 in
theorem k_X0_init (l : Launch) (D : DX) (a : Nat) : CK l D yX0_init cX0_init 2 2 22 167 a (.inr (0, [.null, .null])) (foreE D a) := by
  refine gc_entry (by decide) rfl (by decide) ?_
  intro p e s m below meth c Q F hQ
  refine gc_aload_n F 0 (dk dtX0_init_0 0 rfl) rfl ?_
  refine gc_objInit F oi_X0_3 (dk dtX0_init_0 1 rfl) (by decide) (by decide) ?_
  refine gc_aload_n F 0 (dk dtX0_init_0 2 rfl) rfl ?_
  refine gc_iconst F (nI 4) (dk dtX0_init_0 3 rfl) (by decide) ?_
  refine gc_newq F (n := 4) (tw1 155 rfl) (dk dtX0_init_0 4 rfl) (by decide) (Nat.le_of_ble_eq_true rfl) (Nat.le_of_ble_eq_true rfl) rfl ?_
  refine gc_cast (w2 := wE a (.inr (0, [.null, .null]) :: [aQ D 4 (fun _ => none)])) (z2 := 2) (cl2 := 1) (sl2 := 4) rfl rfl rfl rfl ?_
  refine gc_putF F (i := 0) fa_X0_11 (dk dtX0_init_0 5 rfl) rfl (Nat.le_of_ble_eq_true rfl) rfl rfl ⟨_, rfl, rfl⟩ rfl rfl ?_
  refine gc_cast (w2 := wE a (.inr (0, [.ref (a + 1), .null]) :: [aQ D 4 (fun _ => none)])) (z2 := 2) (cl2 := 1) (sl2 := 4) rfl rfl rfl rfl ?_
  refine gc_aload_n F 0 (dk dtX0_init_0 6 rfl) rfl ?_
  refine gc_iconst F (nI 3) (dk dtX0_init_0 7 rfl) (by decide) ?_
  refine gc_newaI F (n := 3) (dk dtX0_init_0 8 rfl) (by decide) (Nat.le_of_ble_eq_true rfl) (Nat.le_of_ble_eq_true rfl) rfl ?_
  refine gc_cast (w2 := wE a (.inr (0, [.ref (a + 1), .null]) :: [aQ D 4 (fun _ => none), aI D 3])) (z2 := 3) (cl2 := 2) (sl2 := 7) rfl rfl rfl rfl ?_
  refine gc_putF F (i := 0) fa_X0_17 (dk dtX0_init_0 9 rfl) rfl (Nat.le_of_ble_eq_true rfl) rfl rfl ⟨_, rfl, rfl⟩ rfl rfl ?_
  refine gc_cast (w2 := wE a (.inr (0, [.ref (a + 1), .ref (a + 2)]) :: [aQ D 4 (fun _ => none), aI D 3])) (z2 := 3) (cl2 := 2) (sl2 := 7) rfl rfl rfl rfl ?_
  have lp : ∀ (fz i : Nat), i ≤ 4 → 4 - i < fz → GC p l e { frames := 2, cells := 22, slots := 167, locals := 40 * 2 } s m [Value.ref a].toArray below meth c 2 D a Q (2 + 5 * i) (7 + 40 * i) (wE a (.inr (0, [.ref (a + 1), .ref (a + 2)]) :: aQ D 4 (fI (a + 3) i) :: aI D 3 :: nowsE D (a + 3) i)) (3 + 5 * i) 21 [(1, .int (nI i)), (0, .ref a)] [] := by
    intro fz
    induction fz with
    | zero => intro i _ h; exact absurd h (Nat.not_lt_zero _)
    | succ fz ih =>
      intro i hi hf
      refine gc_iload_n F 0 (dk dtX0_init_0 12 rfl) rfl ?_
      refine gc_iconst F (nI 4) (dk dtX0_init_0 13 rfl) (by decide) ?_
      refine gc_icmp_geN F 45 (dk dtX0_init_0 14 rfl) (by decide) (by omega) (by decide) (fun ce => ?_) (fun ce => ?_)
      · obtain rfl : 4 = i := by omega
        exact gc_vret (F := F) (E1 := foreE D a) hQ rfl (dk dtX0_init_0 24 rfl)
      · refine gc_aload_n F 1 (dk dtX0_init_0 15 rfl) rfl ?_
        refine gc_get F (i := 0) fa_X0_11 (dk dtX0_init_0 16 rfl) rfl rfl ?_
        refine gc_iload_n F 0 (dk dtX0_init_0 17 rfl) rfl ?_
        have hEl : (.inr (0, [.ref (a + 1), .ref (a + 2)]) :: aQ D 4 (fI (a + 3) i) :: aI D 3 :: nowsE D (a + 3) i).length = 3 + 5 * i := by
          simp only [List.length_cons, nowsE_len]
          omega
        refine gc_new F nc_X0_9 (dk dtX0_init_0 18 rfl) (by show _ ≤ 22; omega) (by show _ ≤ 167; omega) hEl ?_
        refine gc_dup F (dk dtX0_init_0 19 rfl) rfl ?_
        refine gc_initN F ci_X0_21 (List.mem_of_getElem? (i := 6) rfl) (dk dtX0_init_0 20 rfl) hEl (Nat.le_of_ble_eq_true rfl) ⟨by decide, by decide⟩ (by show _ ≤ 22; omega) (by show _ ≤ 167; omega) (k_X2_init l D (a + (3 + 5 * i))) ?_
        have hE2 : ((.inr (0, [.ref (a + 1), .ref (a + 2)]) :: aQ D 4 (fI (a + 3) i) :: aI D 3 :: nowsE D (a + 3) i) ++ nowE D (a + (3 + 5 * i))).length = 3 + 5 * i + 5 := by rw [List.length_append, hEl]; rfl
        have hv : ((.inr (0, [.ref (a + 1), .ref (a + 2)]) :: aQ D 4 (fI (a + 3) i) :: aI D 3 :: nowsE D (a + 3) i) ++ nowE D (a + (3 + 5 * i)))[3 + 5 * i]? = some (.inr (2, [.int (-9), .ref (a + (3 + 5 * i) + 1), .ref (a + (3 + 5 * i) + 2), .ref (a + (3 + 5 * i) + 3), .ref (a + (3 + 5 * i) + 4)])) := by
          rw [List.getElem?_append_right (by rw [hEl]; exact Nat.le_refl _), hEl, Nat.sub_self]
          rfl
        refine gc_aast F (i := 1) (qk := 3 + 5 * i) (j := i) (dk dtX0_init_0 21 rfl) rfl hv (by omega) (by decide) hE2 (by show 3 + 5 * i + 5 = _; omega) ?_
        refine gc_iinc F 0 (nI (i + 1)) [(1, .int (nI (i + 1))), (0, .ref a)] (dk dtX0_init_0 22 rfl) rfl (nI_1 _) (by decide) rfl ?_
        refine gc_goto F 21 (dk dtX0_init_0 23 rfl) (by decide) ?_
        refine gc_cast (w2 := wE a (.inr (0, [.ref (a + 1), .ref (a + 2)]) :: aQ D 4 (fI (a + 3) (i + 1)) :: aI D 3 :: nowsE D (a + 3) (i + 1))) (z2 := 3 + 5 * (i + 1)) (cl2 := 2 + 5 * (i + 1)) (sl2 := 7 + 40 * (i + 1)) ?_ (by show 3 + 5 * i + 5 = _; omega) (by omega) (by omega) (ih (i + 1) (by omega) (by omega))
        rw [← fI_s, ← Nat.add_assoc a 3 (5 * i)]
        rfl
  refine gc_iconst F (nI 0) (dk dtX0_init_0 10 rfl) (by decide) ?_
  refine gc_istore_n F [(1, .int (nI 0)), (0, .ref a)] (dk dtX0_init_0 11 rfl) (by decide) rfl ?_
  refine gc_cast (w2 := wE a (.inr (0, [.ref (a + 1), .ref (a + 2)]) :: aQ D 4 (fI (a + 3) 0) :: aI D 3 :: nowsE D (a + 3) 0)) (z2 := 3 + 5 * 0) (cl2 := 2 + 5 * 0) (sl2 := 7 + 40 * 0) (by rw [fI_0]; rfl) rfl rfl rfl (lp 5 0 (Nat.zero_le _) (by decide))
