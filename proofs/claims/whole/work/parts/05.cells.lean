abbrev Shp : Type := Int64 → (Nat → Int32) → va_E
def sI (D : DX) (n : Nat) : Shp := fun _ r => .inl (D.2.1, n, .inl r)
def sZ (D : DX) (n : Nat) : Shp := fun _ r => .inl (D.2.2.1, n, .inl r)
def sQ (D : DX) (B n a0 : Nat) : Shp := fun _ _ => .inl (D.2.2.2, n, .inr (.inr (.inr (.inr (fun j => some (B + (a0 + 5 * j)))))))
def sNow (B a : Nat) : Shp := fun _ r => .inr (2, [.int (r 0), .ref (B + (a + 1)), .ref (B + (a + 2)), .ref (B + (a + 3)), .ref (B + (a + 4))])
def sTown (B a : Nat) : Shp := fun _ r => .inr (5, [.int (r 0), .int (r 1), .int (r 2), .ref (B + (a + 1))])
def sNowL (D : DX) (B a : Nat) : List Shp := [sNow B a, sI D 5, sI D 5, sI D 20, sI D 5]
def sMay (B : Nat) : Shp := fun T _ => .inr (6, [.ref (B + 1), .ref (B + 10), .ref (B + 12), .ref (B + 17), .ref (B + 69), .ref (B + 92), .ref (B + 96), .ref (B + 107), .long T])
def sText (B : Nat) : Shp := fun _ r => .inr (4, [.ref (B + 2), .int (r 1), .ref (B + 3), .ref (B + 5), .int (r 4), .int (r 5), .int (r 6), .int (r 7), .int (r 8), .int (r 9)])
def sPast (B : Nat) : Shp := fun _ r => .inr (3, [.ref (B + 18), .int (r 1), .int (r 2)])
def sFore (B : Nat) : Shp := fun _ _ => .inr (0, [.ref (B + 70), .ref (B + 71)])
def sNote (B : Nat) : Shp := fun _ r => .inr (1, [.ref (B + 93), .ref (B + 94), .ref (B + 95), .int (r 3), .int (r 4), .int (r 5)])
def sMod (B : Nat) : Shp := fun T r => .inr (7, [.int (r 0), .long T, .ref (B + 1), .int (r 3), .int (r 4), .int (r 5), .int (r 6), .int (r 7), .int (r 8), .int (r 9), .ref (B + 2), .ref (B + 3), .ref (B + 4), .ref (B + 5), .ref (B + 6), .ref (B + 7), .ref (B + 8), .ref (B + 9), .int (r 18), .ref (B + 10), .ref (B + 11), .ref (B + 12), .int (r 22), .ref (B + 13)])
theorem st_Now_0 {B a : Nat} {T : Int64} {r : Nat → Int32} {x : Int32} : sNow B a T (upd r 0 x) = .inr (2, [.int x, (.ref (B + (a + 1))), (.ref (B + (a + 2))), (.ref (B + (a + 3))), (.ref (B + (a + 4)))]) := rfl
theorem st_Town_0 {B a : Nat} {T : Int64} {r : Nat → Int32} {x : Int32} : sTown B a T (upd r 0 x) = .inr (5, [.int x, .int (r 1), .int (r 2), (.ref (B + (a + 1)))]) := rfl
theorem st_Town_1 {B a : Nat} {T : Int64} {r : Nat → Int32} {x : Int32} : sTown B a T (upd r 1 x) = .inr (5, [.int (r 0), .int x, .int (r 2), (.ref (B + (a + 1)))]) := rfl
theorem st_Town_2 {B a : Nat} {T : Int64} {r : Nat → Int32} {x : Int32} : sTown B a T (upd r 2 x) = .inr (5, [.int (r 0), .int (r 1), .int x, (.ref (B + (a + 1)))]) := rfl
theorem st_Text_1 {B : Nat} {T : Int64} {r : Nat → Int32} {x : Int32} : sText B T (upd r 1 x) = .inr (4, [(.ref (B + 2)), .int x, (.ref (B + 3)), (.ref (B + 5)), .int (r 4), .int (r 5), .int (r 6), .int (r 7), .int (r 8), .int (r 9)]) := rfl
theorem st_Text_4 {B : Nat} {T : Int64} {r : Nat → Int32} {x : Int32} : sText B T (upd r 4 x) = .inr (4, [(.ref (B + 2)), .int (r 1), (.ref (B + 3)), (.ref (B + 5)), .int x, .int (r 5), .int (r 6), .int (r 7), .int (r 8), .int (r 9)]) := rfl
theorem st_Text_5 {B : Nat} {T : Int64} {r : Nat → Int32} {x : Int32} : sText B T (upd r 5 x) = .inr (4, [(.ref (B + 2)), .int (r 1), (.ref (B + 3)), (.ref (B + 5)), .int (r 4), .int x, .int (r 6), .int (r 7), .int (r 8), .int (r 9)]) := rfl
theorem st_Text_6 {B : Nat} {T : Int64} {r : Nat → Int32} {x : Int32} : sText B T (upd r 6 x) = .inr (4, [(.ref (B + 2)), .int (r 1), (.ref (B + 3)), (.ref (B + 5)), .int (r 4), .int (r 5), .int x, .int (r 7), .int (r 8), .int (r 9)]) := rfl
theorem st_Text_7 {B : Nat} {T : Int64} {r : Nat → Int32} {x : Int32} : sText B T (upd r 7 x) = .inr (4, [(.ref (B + 2)), .int (r 1), (.ref (B + 3)), (.ref (B + 5)), .int (r 4), .int (r 5), .int (r 6), .int x, .int (r 8), .int (r 9)]) := rfl
theorem st_Text_8 {B : Nat} {T : Int64} {r : Nat → Int32} {x : Int32} : sText B T (upd r 8 x) = .inr (4, [(.ref (B + 2)), .int (r 1), (.ref (B + 3)), (.ref (B + 5)), .int (r 4), .int (r 5), .int (r 6), .int (r 7), .int x, .int (r 9)]) := rfl
theorem st_Text_9 {B : Nat} {T : Int64} {r : Nat → Int32} {x : Int32} : sText B T (upd r 9 x) = .inr (4, [(.ref (B + 2)), .int (r 1), (.ref (B + 3)), (.ref (B + 5)), .int (r 4), .int (r 5), .int (r 6), .int (r 7), .int (r 8), .int x]) := rfl
theorem st_Past_1 {B : Nat} {T : Int64} {r : Nat → Int32} {x : Int32} : sPast B T (upd r 1 x) = .inr (3, [(.ref (B + 18)), .int x, .int (r 2)]) := rfl
theorem st_Past_2 {B : Nat} {T : Int64} {r : Nat → Int32} {x : Int32} : sPast B T (upd r 2 x) = .inr (3, [(.ref (B + 18)), .int (r 1), .int x]) := rfl
theorem st_Note_3 {B : Nat} {T : Int64} {r : Nat → Int32} {x : Int32} : sNote B T (upd r 3 x) = .inr (1, [(.ref (B + 93)), (.ref (B + 94)), (.ref (B + 95)), .int x, .int (r 4), .int (r 5)]) := rfl
theorem st_Note_4 {B : Nat} {T : Int64} {r : Nat → Int32} {x : Int32} : sNote B T (upd r 4 x) = .inr (1, [(.ref (B + 93)), (.ref (B + 94)), (.ref (B + 95)), .int (r 3), .int x, .int (r 5)]) := rfl
theorem st_Note_5 {B : Nat} {T : Int64} {r : Nat → Int32} {x : Int32} : sNote B T (upd r 5 x) = .inr (1, [(.ref (B + 93)), (.ref (B + 94)), (.ref (B + 95)), .int (r 3), .int (r 4), .int x]) := rfl
theorem st_Mod_0 {B : Nat} {T : Int64} {r : Nat → Int32} {x : Int32} : sMod B T (upd r 0 x) = .inr (7, [.int x, (.long T), (.ref (B + 1)), .int (r 3), .int (r 4), .int (r 5), .int (r 6), .int (r 7), .int (r 8), .int (r 9), (.ref (B + 2)), (.ref (B + 3)), (.ref (B + 4)), (.ref (B + 5)), (.ref (B + 6)), (.ref (B + 7)), (.ref (B + 8)), (.ref (B + 9)), .int (r 18), (.ref (B + 10)), (.ref (B + 11)), (.ref (B + 12)), .int (r 22), (.ref (B + 13))]) := rfl
theorem st_Mod_3 {B : Nat} {T : Int64} {r : Nat → Int32} {x : Int32} : sMod B T (upd r 3 x) = .inr (7, [.int (r 0), (.long T), (.ref (B + 1)), .int x, .int (r 4), .int (r 5), .int (r 6), .int (r 7), .int (r 8), .int (r 9), (.ref (B + 2)), (.ref (B + 3)), (.ref (B + 4)), (.ref (B + 5)), (.ref (B + 6)), (.ref (B + 7)), (.ref (B + 8)), (.ref (B + 9)), .int (r 18), (.ref (B + 10)), (.ref (B + 11)), (.ref (B + 12)), .int (r 22), (.ref (B + 13))]) := rfl
theorem st_Mod_4 {B : Nat} {T : Int64} {r : Nat → Int32} {x : Int32} : sMod B T (upd r 4 x) = .inr (7, [.int (r 0), (.long T), (.ref (B + 1)), .int (r 3), .int x, .int (r 5), .int (r 6), .int (r 7), .int (r 8), .int (r 9), (.ref (B + 2)), (.ref (B + 3)), (.ref (B + 4)), (.ref (B + 5)), (.ref (B + 6)), (.ref (B + 7)), (.ref (B + 8)), (.ref (B + 9)), .int (r 18), (.ref (B + 10)), (.ref (B + 11)), (.ref (B + 12)), .int (r 22), (.ref (B + 13))]) := rfl
theorem st_Mod_5 {B : Nat} {T : Int64} {r : Nat → Int32} {x : Int32} : sMod B T (upd r 5 x) = .inr (7, [.int (r 0), (.long T), (.ref (B + 1)), .int (r 3), .int (r 4), .int x, .int (r 6), .int (r 7), .int (r 8), .int (r 9), (.ref (B + 2)), (.ref (B + 3)), (.ref (B + 4)), (.ref (B + 5)), (.ref (B + 6)), (.ref (B + 7)), (.ref (B + 8)), (.ref (B + 9)), .int (r 18), (.ref (B + 10)), (.ref (B + 11)), (.ref (B + 12)), .int (r 22), (.ref (B + 13))]) := rfl
theorem st_Mod_6 {B : Nat} {T : Int64} {r : Nat → Int32} {x : Int32} : sMod B T (upd r 6 x) = .inr (7, [.int (r 0), (.long T), (.ref (B + 1)), .int (r 3), .int (r 4), .int (r 5), .int x, .int (r 7), .int (r 8), .int (r 9), (.ref (B + 2)), (.ref (B + 3)), (.ref (B + 4)), (.ref (B + 5)), (.ref (B + 6)), (.ref (B + 7)), (.ref (B + 8)), (.ref (B + 9)), .int (r 18), (.ref (B + 10)), (.ref (B + 11)), (.ref (B + 12)), .int (r 22), (.ref (B + 13))]) := rfl
theorem st_Mod_7 {B : Nat} {T : Int64} {r : Nat → Int32} {x : Int32} : sMod B T (upd r 7 x) = .inr (7, [.int (r 0), (.long T), (.ref (B + 1)), .int (r 3), .int (r 4), .int (r 5), .int (r 6), .int x, .int (r 8), .int (r 9), (.ref (B + 2)), (.ref (B + 3)), (.ref (B + 4)), (.ref (B + 5)), (.ref (B + 6)), (.ref (B + 7)), (.ref (B + 8)), (.ref (B + 9)), .int (r 18), (.ref (B + 10)), (.ref (B + 11)), (.ref (B + 12)), .int (r 22), (.ref (B + 13))]) := rfl
theorem st_Mod_8 {B : Nat} {T : Int64} {r : Nat → Int32} {x : Int32} : sMod B T (upd r 8 x) = .inr (7, [.int (r 0), (.long T), (.ref (B + 1)), .int (r 3), .int (r 4), .int (r 5), .int (r 6), .int (r 7), .int x, .int (r 9), (.ref (B + 2)), (.ref (B + 3)), (.ref (B + 4)), (.ref (B + 5)), (.ref (B + 6)), (.ref (B + 7)), (.ref (B + 8)), (.ref (B + 9)), .int (r 18), (.ref (B + 10)), (.ref (B + 11)), (.ref (B + 12)), .int (r 22), (.ref (B + 13))]) := rfl
theorem st_Mod_9 {B : Nat} {T : Int64} {r : Nat → Int32} {x : Int32} : sMod B T (upd r 9 x) = .inr (7, [.int (r 0), (.long T), (.ref (B + 1)), .int (r 3), .int (r 4), .int (r 5), .int (r 6), .int (r 7), .int (r 8), .int x, (.ref (B + 2)), (.ref (B + 3)), (.ref (B + 4)), (.ref (B + 5)), (.ref (B + 6)), (.ref (B + 7)), (.ref (B + 8)), (.ref (B + 9)), .int (r 18), (.ref (B + 10)), (.ref (B + 11)), (.ref (B + 12)), .int (r 22), (.ref (B + 13))]) := rfl
theorem st_Mod_18 {B : Nat} {T : Int64} {r : Nat → Int32} {x : Int32} : sMod B T (upd r 18 x) = .inr (7, [.int (r 0), (.long T), (.ref (B + 1)), .int (r 3), .int (r 4), .int (r 5), .int (r 6), .int (r 7), .int (r 8), .int (r 9), (.ref (B + 2)), (.ref (B + 3)), (.ref (B + 4)), (.ref (B + 5)), (.ref (B + 6)), (.ref (B + 7)), (.ref (B + 8)), (.ref (B + 9)), .int x, (.ref (B + 10)), (.ref (B + 11)), (.ref (B + 12)), .int (r 22), (.ref (B + 13))]) := rfl
theorem st_Mod_22 {B : Nat} {T : Int64} {r : Nat → Int32} {x : Int32} : sMod B T (upd r 22 x) = .inr (7, [.int (r 0), (.long T), (.ref (B + 1)), .int (r 3), .int (r 4), .int (r 5), .int (r 6), .int (r 7), .int (r 8), .int (r 9), (.ref (B + 2)), (.ref (B + 3)), (.ref (B + 4)), (.ref (B + 5)), (.ref (B + 6)), (.ref (B + 7)), (.ref (B + 8)), (.ref (B + 9)), .int (r 18), (.ref (B + 10)), (.ref (B + 11)), (.ref (B + 12)), .int x, (.ref (B + 13))]) := rfl
def shC (D : DX) (B : Nat) : List Shp := [sMay B, sText B, sI D 150, sTown B 3, sI D 5, sNow B 5, sI D 5, sI D 5, sI D 20, sI D 5, sTown B 10, sI D 5, sNow B 12, sI D 5, sI D 5, sI D 20, sI D 5, sPast B, sQ D B 10 19, sNow B 19, sI D 5, sI D 5, sI D 20, sI D 5, sNow B 24, sI D 5, sI D 5, sI D 20, sI D 5, sNow B 29, sI D 5, sI D 5, sI D 20, sI D 5, sNow B 34, sI D 5, sI D 5, sI D 20, sI D 5, sNow B 39, sI D 5, sI D 5, sI D 20, sI D 5, sNow B 44, sI D 5, sI D 5, sI D 20, sI D 5, sNow B 49, sI D 5, sI D 5, sI D 20, sI D 5, sNow B 54, sI D 5, sI D 5, sI D 20, sI D 5, sNow B 59, sI D 5, sI D 5, sI D 20, sI D 5, sNow B 64, sI D 5, sI D 5, sI D 20, sI D 5, sFore B, sQ D B 4 72, sI D 3, sNow B 72, sI D 5, sI D 5, sI D 20, sI D 5, sNow B 77, sI D 5, sI D 5, sI D 20, sI D 5, sNow B 82, sI D 5, sI D 5, sI D 20, sI D 5, sNow B 87, sI D 5, sI D 5, sI D 20, sI D 5, sNote B, sI D 6, sI D 6, sZ D 6, sQ D B 2 97, sNow B 97, sI D 5, sI D 5, sI D 20, sI D 5, sNow B 102, sI D 5, sI D 5, sI D 20, sI D 5, sZ D 2]
def shM (D : DX) (B : Nat) : List Shp := [sMod B, sI D 150, sI D 6, sI D 10, sI D 31, sI D 31, sI D 31, sI D 62, sZ D 2, sI D 310, sI D 6, sI D 6, sI D 6, sI D 4096]
def celOf (l : List Shp) : Cel := fun T k r => (l.getD k (fun _ _ => .inr (0, []))) T r
def celC (D : DX) (B : Nat) : Cel := celOf (shC D B)
def celM (D : DX) (B : Nat) : Cel := celOf (shM D B)
def IsNow (D : DX) (B a : Nat) : Prop := a + 4 < 108 ∧ (∀ T r, celC D B T a r = sNow B a T r) ∧ (∀ T r, celC D B T (a + 1) r = sI D 5 T r) ∧ (∀ T r, celC D B T (a + 2) r = sI D 5 T r) ∧ (∀ T r, celC D B T (a + 3) r = sI D 20 T r) ∧ (∀ T r, celC D B T (a + 4) r = sI D 5 T r)
def IsTown (D : DX) (B a : Nat) : Prop := a + 1 < 108 ∧ (∀ T r, celC D B T a r = sTown B a T r) ∧ (∀ T r, celC D B T (a + 1) r = sI D 5 T r)
theorem cc0 (D : DX) (B : Nat) (T : Int64) (r : Nat → Int32) : celC D B T 0 r = sMay B T r := rfl
theorem cc1 (D : DX) (B : Nat) (T : Int64) (r : Nat → Int32) : celC D B T 1 r = sText B T r := rfl
theorem cc2 (D : DX) (B : Nat) (T : Int64) (r : Nat → Int32) : celC D B T 2 r = sI D 150 T r := rfl
theorem cc3 (D : DX) (B : Nat) (T : Int64) (r : Nat → Int32) : celC D B T 3 r = sTown B 3 T r := rfl
theorem cc4 (D : DX) (B : Nat) (T : Int64) (r : Nat → Int32) : celC D B T 4 r = sI D 5 T r := rfl
theorem cc5 (D : DX) (B : Nat) (T : Int64) (r : Nat → Int32) : celC D B T 5 r = sNow B 5 T r := rfl
theorem cc6 (D : DX) (B : Nat) (T : Int64) (r : Nat → Int32) : celC D B T 6 r = sI D 5 T r := rfl
theorem cc7 (D : DX) (B : Nat) (T : Int64) (r : Nat → Int32) : celC D B T 7 r = sI D 5 T r := rfl
theorem cc8 (D : DX) (B : Nat) (T : Int64) (r : Nat → Int32) : celC D B T 8 r = sI D 20 T r := rfl
theorem cc9 (D : DX) (B : Nat) (T : Int64) (r : Nat → Int32) : celC D B T 9 r = sI D 5 T r := rfl
theorem cc10 (D : DX) (B : Nat) (T : Int64) (r : Nat → Int32) : celC D B T 10 r = sTown B 10 T r := rfl
theorem cc11 (D : DX) (B : Nat) (T : Int64) (r : Nat → Int32) : celC D B T 11 r = sI D 5 T r := rfl
theorem cc12 (D : DX) (B : Nat) (T : Int64) (r : Nat → Int32) : celC D B T 12 r = sNow B 12 T r := rfl
theorem cc13 (D : DX) (B : Nat) (T : Int64) (r : Nat → Int32) : celC D B T 13 r = sI D 5 T r := rfl
theorem cc14 (D : DX) (B : Nat) (T : Int64) (r : Nat → Int32) : celC D B T 14 r = sI D 5 T r := rfl
theorem cc15 (D : DX) (B : Nat) (T : Int64) (r : Nat → Int32) : celC D B T 15 r = sI D 20 T r := rfl
theorem cc16 (D : DX) (B : Nat) (T : Int64) (r : Nat → Int32) : celC D B T 16 r = sI D 5 T r := rfl
theorem cc17 (D : DX) (B : Nat) (T : Int64) (r : Nat → Int32) : celC D B T 17 r = sPast B T r := rfl
theorem cc18 (D : DX) (B : Nat) (T : Int64) (r : Nat → Int32) : celC D B T 18 r = sQ D B 10 19 T r := rfl
theorem cc19 (D : DX) (B : Nat) (T : Int64) (r : Nat → Int32) : celC D B T 19 r = sNow B 19 T r := rfl
theorem cc20 (D : DX) (B : Nat) (T : Int64) (r : Nat → Int32) : celC D B T 20 r = sI D 5 T r := rfl
theorem cc21 (D : DX) (B : Nat) (T : Int64) (r : Nat → Int32) : celC D B T 21 r = sI D 5 T r := rfl
theorem cc22 (D : DX) (B : Nat) (T : Int64) (r : Nat → Int32) : celC D B T 22 r = sI D 20 T r := rfl
theorem cc23 (D : DX) (B : Nat) (T : Int64) (r : Nat → Int32) : celC D B T 23 r = sI D 5 T r := rfl
theorem cc24 (D : DX) (B : Nat) (T : Int64) (r : Nat → Int32) : celC D B T 24 r = sNow B 24 T r := rfl
theorem cc25 (D : DX) (B : Nat) (T : Int64) (r : Nat → Int32) : celC D B T 25 r = sI D 5 T r := rfl
theorem cc26 (D : DX) (B : Nat) (T : Int64) (r : Nat → Int32) : celC D B T 26 r = sI D 5 T r := rfl
theorem cc27 (D : DX) (B : Nat) (T : Int64) (r : Nat → Int32) : celC D B T 27 r = sI D 20 T r := rfl
theorem cc28 (D : DX) (B : Nat) (T : Int64) (r : Nat → Int32) : celC D B T 28 r = sI D 5 T r := rfl
theorem cc29 (D : DX) (B : Nat) (T : Int64) (r : Nat → Int32) : celC D B T 29 r = sNow B 29 T r := rfl
theorem cc30 (D : DX) (B : Nat) (T : Int64) (r : Nat → Int32) : celC D B T 30 r = sI D 5 T r := rfl
theorem cc31 (D : DX) (B : Nat) (T : Int64) (r : Nat → Int32) : celC D B T 31 r = sI D 5 T r := rfl
theorem cc32 (D : DX) (B : Nat) (T : Int64) (r : Nat → Int32) : celC D B T 32 r = sI D 20 T r := rfl
theorem cc33 (D : DX) (B : Nat) (T : Int64) (r : Nat → Int32) : celC D B T 33 r = sI D 5 T r := rfl
theorem cc34 (D : DX) (B : Nat) (T : Int64) (r : Nat → Int32) : celC D B T 34 r = sNow B 34 T r := rfl
theorem cc35 (D : DX) (B : Nat) (T : Int64) (r : Nat → Int32) : celC D B T 35 r = sI D 5 T r := rfl
theorem cc36 (D : DX) (B : Nat) (T : Int64) (r : Nat → Int32) : celC D B T 36 r = sI D 5 T r := rfl
theorem cc37 (D : DX) (B : Nat) (T : Int64) (r : Nat → Int32) : celC D B T 37 r = sI D 20 T r := rfl
theorem cc38 (D : DX) (B : Nat) (T : Int64) (r : Nat → Int32) : celC D B T 38 r = sI D 5 T r := rfl
theorem cc39 (D : DX) (B : Nat) (T : Int64) (r : Nat → Int32) : celC D B T 39 r = sNow B 39 T r := rfl
theorem cc40 (D : DX) (B : Nat) (T : Int64) (r : Nat → Int32) : celC D B T 40 r = sI D 5 T r := rfl
theorem cc41 (D : DX) (B : Nat) (T : Int64) (r : Nat → Int32) : celC D B T 41 r = sI D 5 T r := rfl
theorem cc42 (D : DX) (B : Nat) (T : Int64) (r : Nat → Int32) : celC D B T 42 r = sI D 20 T r := rfl
theorem cc43 (D : DX) (B : Nat) (T : Int64) (r : Nat → Int32) : celC D B T 43 r = sI D 5 T r := rfl
theorem cc44 (D : DX) (B : Nat) (T : Int64) (r : Nat → Int32) : celC D B T 44 r = sNow B 44 T r := rfl
theorem cc45 (D : DX) (B : Nat) (T : Int64) (r : Nat → Int32) : celC D B T 45 r = sI D 5 T r := rfl
theorem cc46 (D : DX) (B : Nat) (T : Int64) (r : Nat → Int32) : celC D B T 46 r = sI D 5 T r := rfl
theorem cc47 (D : DX) (B : Nat) (T : Int64) (r : Nat → Int32) : celC D B T 47 r = sI D 20 T r := rfl
theorem cc48 (D : DX) (B : Nat) (T : Int64) (r : Nat → Int32) : celC D B T 48 r = sI D 5 T r := rfl
theorem cc49 (D : DX) (B : Nat) (T : Int64) (r : Nat → Int32) : celC D B T 49 r = sNow B 49 T r := rfl
theorem cc50 (D : DX) (B : Nat) (T : Int64) (r : Nat → Int32) : celC D B T 50 r = sI D 5 T r := rfl
theorem cc51 (D : DX) (B : Nat) (T : Int64) (r : Nat → Int32) : celC D B T 51 r = sI D 5 T r := rfl
theorem cc52 (D : DX) (B : Nat) (T : Int64) (r : Nat → Int32) : celC D B T 52 r = sI D 20 T r := rfl
theorem cc53 (D : DX) (B : Nat) (T : Int64) (r : Nat → Int32) : celC D B T 53 r = sI D 5 T r := rfl
theorem cc54 (D : DX) (B : Nat) (T : Int64) (r : Nat → Int32) : celC D B T 54 r = sNow B 54 T r := rfl
theorem cc55 (D : DX) (B : Nat) (T : Int64) (r : Nat → Int32) : celC D B T 55 r = sI D 5 T r := rfl
theorem cc56 (D : DX) (B : Nat) (T : Int64) (r : Nat → Int32) : celC D B T 56 r = sI D 5 T r := rfl
theorem cc57 (D : DX) (B : Nat) (T : Int64) (r : Nat → Int32) : celC D B T 57 r = sI D 20 T r := rfl
theorem cc58 (D : DX) (B : Nat) (T : Int64) (r : Nat → Int32) : celC D B T 58 r = sI D 5 T r := rfl
theorem cc59 (D : DX) (B : Nat) (T : Int64) (r : Nat → Int32) : celC D B T 59 r = sNow B 59 T r := rfl
theorem cc60 (D : DX) (B : Nat) (T : Int64) (r : Nat → Int32) : celC D B T 60 r = sI D 5 T r := rfl
theorem cc61 (D : DX) (B : Nat) (T : Int64) (r : Nat → Int32) : celC D B T 61 r = sI D 5 T r := rfl
theorem cc62 (D : DX) (B : Nat) (T : Int64) (r : Nat → Int32) : celC D B T 62 r = sI D 20 T r := rfl
theorem cc63 (D : DX) (B : Nat) (T : Int64) (r : Nat → Int32) : celC D B T 63 r = sI D 5 T r := rfl
theorem cc64 (D : DX) (B : Nat) (T : Int64) (r : Nat → Int32) : celC D B T 64 r = sNow B 64 T r := rfl
theorem cc65 (D : DX) (B : Nat) (T : Int64) (r : Nat → Int32) : celC D B T 65 r = sI D 5 T r := rfl
theorem cc66 (D : DX) (B : Nat) (T : Int64) (r : Nat → Int32) : celC D B T 66 r = sI D 5 T r := rfl
theorem cc67 (D : DX) (B : Nat) (T : Int64) (r : Nat → Int32) : celC D B T 67 r = sI D 20 T r := rfl
theorem cc68 (D : DX) (B : Nat) (T : Int64) (r : Nat → Int32) : celC D B T 68 r = sI D 5 T r := rfl
theorem cc69 (D : DX) (B : Nat) (T : Int64) (r : Nat → Int32) : celC D B T 69 r = sFore B T r := rfl
theorem cc70 (D : DX) (B : Nat) (T : Int64) (r : Nat → Int32) : celC D B T 70 r = sQ D B 4 72 T r := rfl
theorem cc71 (D : DX) (B : Nat) (T : Int64) (r : Nat → Int32) : celC D B T 71 r = sI D 3 T r := rfl
theorem cc72 (D : DX) (B : Nat) (T : Int64) (r : Nat → Int32) : celC D B T 72 r = sNow B 72 T r := rfl
theorem cc73 (D : DX) (B : Nat) (T : Int64) (r : Nat → Int32) : celC D B T 73 r = sI D 5 T r := rfl
theorem cc74 (D : DX) (B : Nat) (T : Int64) (r : Nat → Int32) : celC D B T 74 r = sI D 5 T r := rfl
theorem cc75 (D : DX) (B : Nat) (T : Int64) (r : Nat → Int32) : celC D B T 75 r = sI D 20 T r := rfl
theorem cc76 (D : DX) (B : Nat) (T : Int64) (r : Nat → Int32) : celC D B T 76 r = sI D 5 T r := rfl
theorem cc77 (D : DX) (B : Nat) (T : Int64) (r : Nat → Int32) : celC D B T 77 r = sNow B 77 T r := rfl
theorem cc78 (D : DX) (B : Nat) (T : Int64) (r : Nat → Int32) : celC D B T 78 r = sI D 5 T r := rfl
theorem cc79 (D : DX) (B : Nat) (T : Int64) (r : Nat → Int32) : celC D B T 79 r = sI D 5 T r := rfl
theorem cc80 (D : DX) (B : Nat) (T : Int64) (r : Nat → Int32) : celC D B T 80 r = sI D 20 T r := rfl
theorem cc81 (D : DX) (B : Nat) (T : Int64) (r : Nat → Int32) : celC D B T 81 r = sI D 5 T r := rfl
theorem cc82 (D : DX) (B : Nat) (T : Int64) (r : Nat → Int32) : celC D B T 82 r = sNow B 82 T r := rfl
theorem cc83 (D : DX) (B : Nat) (T : Int64) (r : Nat → Int32) : celC D B T 83 r = sI D 5 T r := rfl
theorem cc84 (D : DX) (B : Nat) (T : Int64) (r : Nat → Int32) : celC D B T 84 r = sI D 5 T r := rfl
theorem cc85 (D : DX) (B : Nat) (T : Int64) (r : Nat → Int32) : celC D B T 85 r = sI D 20 T r := rfl
theorem cc86 (D : DX) (B : Nat) (T : Int64) (r : Nat → Int32) : celC D B T 86 r = sI D 5 T r := rfl
theorem cc87 (D : DX) (B : Nat) (T : Int64) (r : Nat → Int32) : celC D B T 87 r = sNow B 87 T r := rfl
theorem cc88 (D : DX) (B : Nat) (T : Int64) (r : Nat → Int32) : celC D B T 88 r = sI D 5 T r := rfl
theorem cc89 (D : DX) (B : Nat) (T : Int64) (r : Nat → Int32) : celC D B T 89 r = sI D 5 T r := rfl
theorem cc90 (D : DX) (B : Nat) (T : Int64) (r : Nat → Int32) : celC D B T 90 r = sI D 20 T r := rfl
theorem cc91 (D : DX) (B : Nat) (T : Int64) (r : Nat → Int32) : celC D B T 91 r = sI D 5 T r := rfl
theorem cc92 (D : DX) (B : Nat) (T : Int64) (r : Nat → Int32) : celC D B T 92 r = sNote B T r := rfl
theorem cc93 (D : DX) (B : Nat) (T : Int64) (r : Nat → Int32) : celC D B T 93 r = sI D 6 T r := rfl
theorem cc94 (D : DX) (B : Nat) (T : Int64) (r : Nat → Int32) : celC D B T 94 r = sI D 6 T r := rfl
theorem cc95 (D : DX) (B : Nat) (T : Int64) (r : Nat → Int32) : celC D B T 95 r = sZ D 6 T r := rfl
theorem cc96 (D : DX) (B : Nat) (T : Int64) (r : Nat → Int32) : celC D B T 96 r = sQ D B 2 97 T r := rfl
theorem cc97 (D : DX) (B : Nat) (T : Int64) (r : Nat → Int32) : celC D B T 97 r = sNow B 97 T r := rfl
theorem cc98 (D : DX) (B : Nat) (T : Int64) (r : Nat → Int32) : celC D B T 98 r = sI D 5 T r := rfl
theorem cc99 (D : DX) (B : Nat) (T : Int64) (r : Nat → Int32) : celC D B T 99 r = sI D 5 T r := rfl
theorem cc100 (D : DX) (B : Nat) (T : Int64) (r : Nat → Int32) : celC D B T 100 r = sI D 20 T r := rfl
theorem cc101 (D : DX) (B : Nat) (T : Int64) (r : Nat → Int32) : celC D B T 101 r = sI D 5 T r := rfl
theorem cc102 (D : DX) (B : Nat) (T : Int64) (r : Nat → Int32) : celC D B T 102 r = sNow B 102 T r := rfl
theorem cc103 (D : DX) (B : Nat) (T : Int64) (r : Nat → Int32) : celC D B T 103 r = sI D 5 T r := rfl
theorem cc104 (D : DX) (B : Nat) (T : Int64) (r : Nat → Int32) : celC D B T 104 r = sI D 5 T r := rfl
theorem cc105 (D : DX) (B : Nat) (T : Int64) (r : Nat → Int32) : celC D B T 105 r = sI D 20 T r := rfl
theorem cc106 (D : DX) (B : Nat) (T : Int64) (r : Nat → Int32) : celC D B T 106 r = sI D 5 T r := rfl
theorem cc107 (D : DX) (B : Nat) (T : Int64) (r : Nat → Int32) : celC D B T 107 r = sZ D 2 T r := rfl
theorem cm0 (D : DX) (B : Nat) (T : Int64) (r : Nat → Int32) : celM D B T 0 r = sMod B T r := rfl
theorem cm1 (D : DX) (B : Nat) (T : Int64) (r : Nat → Int32) : celM D B T 1 r = sI D 150 T r := rfl
theorem cm2 (D : DX) (B : Nat) (T : Int64) (r : Nat → Int32) : celM D B T 2 r = sI D 6 T r := rfl
theorem cm3 (D : DX) (B : Nat) (T : Int64) (r : Nat → Int32) : celM D B T 3 r = sI D 10 T r := rfl
theorem cm4 (D : DX) (B : Nat) (T : Int64) (r : Nat → Int32) : celM D B T 4 r = sI D 31 T r := rfl
theorem cm5 (D : DX) (B : Nat) (T : Int64) (r : Nat → Int32) : celM D B T 5 r = sI D 31 T r := rfl
theorem cm6 (D : DX) (B : Nat) (T : Int64) (r : Nat → Int32) : celM D B T 6 r = sI D 31 T r := rfl
theorem cm7 (D : DX) (B : Nat) (T : Int64) (r : Nat → Int32) : celM D B T 7 r = sI D 62 T r := rfl
theorem cm8 (D : DX) (B : Nat) (T : Int64) (r : Nat → Int32) : celM D B T 8 r = sZ D 2 T r := rfl
theorem cm9 (D : DX) (B : Nat) (T : Int64) (r : Nat → Int32) : celM D B T 9 r = sI D 310 T r := rfl
theorem cm10 (D : DX) (B : Nat) (T : Int64) (r : Nat → Int32) : celM D B T 10 r = sI D 6 T r := rfl
theorem cm11 (D : DX) (B : Nat) (T : Int64) (r : Nat → Int32) : celM D B T 11 r = sI D 6 T r := rfl
theorem cm12 (D : DX) (B : Nat) (T : Int64) (r : Nat → Int32) : celM D B T 12 r = sI D 6 T r := rfl
theorem cm13 (D : DX) (B : Nat) (T : Int64) (r : Nat → Int32) : celM D B T 13 r = sI D 4096 T r := rfl
theorem isTown3 (D : DX) (B : Nat) : IsTown D B 3 := ⟨by decide, cc3 D B, cc4 D B⟩
theorem isNow5 (D : DX) (B : Nat) : IsNow D B 5 := ⟨by decide, cc5 D B, cc6 D B, cc7 D B, cc8 D B, cc9 D B⟩
theorem isTown10 (D : DX) (B : Nat) : IsTown D B 10 := ⟨by decide, cc10 D B, cc11 D B⟩
theorem isNow12 (D : DX) (B : Nat) : IsNow D B 12 := ⟨by decide, cc12 D B, cc13 D B, cc14 D B, cc15 D B, cc16 D B⟩
theorem isNow19 (D : DX) (B : Nat) : IsNow D B 19 := ⟨by decide, cc19 D B, cc20 D B, cc21 D B, cc22 D B, cc23 D B⟩
theorem isNow24 (D : DX) (B : Nat) : IsNow D B 24 := ⟨by decide, cc24 D B, cc25 D B, cc26 D B, cc27 D B, cc28 D B⟩
theorem isNow29 (D : DX) (B : Nat) : IsNow D B 29 := ⟨by decide, cc29 D B, cc30 D B, cc31 D B, cc32 D B, cc33 D B⟩
theorem isNow34 (D : DX) (B : Nat) : IsNow D B 34 := ⟨by decide, cc34 D B, cc35 D B, cc36 D B, cc37 D B, cc38 D B⟩
theorem isNow39 (D : DX) (B : Nat) : IsNow D B 39 := ⟨by decide, cc39 D B, cc40 D B, cc41 D B, cc42 D B, cc43 D B⟩
theorem isNow44 (D : DX) (B : Nat) : IsNow D B 44 := ⟨by decide, cc44 D B, cc45 D B, cc46 D B, cc47 D B, cc48 D B⟩
theorem isNow49 (D : DX) (B : Nat) : IsNow D B 49 := ⟨by decide, cc49 D B, cc50 D B, cc51 D B, cc52 D B, cc53 D B⟩
theorem isNow54 (D : DX) (B : Nat) : IsNow D B 54 := ⟨by decide, cc54 D B, cc55 D B, cc56 D B, cc57 D B, cc58 D B⟩
theorem isNow59 (D : DX) (B : Nat) : IsNow D B 59 := ⟨by decide, cc59 D B, cc60 D B, cc61 D B, cc62 D B, cc63 D B⟩
theorem isNow64 (D : DX) (B : Nat) : IsNow D B 64 := ⟨by decide, cc64 D B, cc65 D B, cc66 D B, cc67 D B, cc68 D B⟩
theorem isNow72 (D : DX) (B : Nat) : IsNow D B 72 := ⟨by decide, cc72 D B, cc73 D B, cc74 D B, cc75 D B, cc76 D B⟩
theorem isNow77 (D : DX) (B : Nat) : IsNow D B 77 := ⟨by decide, cc77 D B, cc78 D B, cc79 D B, cc80 D B, cc81 D B⟩
theorem isNow82 (D : DX) (B : Nat) : IsNow D B 82 := ⟨by decide, cc82 D B, cc83 D B, cc84 D B, cc85 D B, cc86 D B⟩
theorem isNow87 (D : DX) (B : Nat) : IsNow D B 87 := ⟨by decide, cc87 D B, cc88 D B, cc89 D B, cc90 D B, cc91 D B⟩
theorem isNow97 (D : DX) (B : Nat) : IsNow D B 97 := ⟨by decide, cc97 D B, cc98 D B, cc99 D B, cc100 D B, cc101 D B⟩
theorem isNow102 (D : DX) (B : Nat) : IsNow D B 102 := ⟨by decide, cc102 D B, cc103 D B, cc104 D B, cc105 D B, cc106 D B⟩
theorem isNowPast (D : DX) (B : Nat) {i : Nat} (h : i < 10) : IsNow D B (19 + 5 * i) := by
  match i, h with
  | 0, _ => exact isNow19 D B
  | 1, _ => exact isNow24 D B
  | 2, _ => exact isNow29 D B
  | 3, _ => exact isNow34 D B
  | 4, _ => exact isNow39 D B
  | 5, _ => exact isNow44 D B
  | 6, _ => exact isNow49 D B
  | 7, _ => exact isNow54 D B
  | 8, _ => exact isNow59 D B
  | 9, _ => exact isNow64 D B
  | n + 10, h => exact absurd h (by omega)
theorem isNowFore (D : DX) (B : Nat) {i : Nat} (h : i < 4) : IsNow D B (72 + 5 * i) := by
  match i, h with
  | 0, _ => exact isNow72 D B
  | 1, _ => exact isNow77 D B
  | 2, _ => exact isNow82 D B
  | 3, _ => exact isNow87 D B
  | n + 4, h => exact absurd h (by omega)
theorem isNowImg (D : DX) (B : Nat) {i : Nat} (h : i < 2) : IsNow D B (97 + 5 * i) := by
  match i, h with
  | 0, _ => exact isNow97 D B
  | 1, _ => exact isNow102 D B
  | n + 2, h => exact absurd h (by omega)
theorem celC_T {D : DX} {B : Nat} {T T1 : Int64} {k : Nat} (hk : k ≠ 0) (r : Nat → Int32) : celC D B T1 k r = celC D B T k r := by
  cases k with
  | zero => exact absurd rfl hk
  | succ k =>
    show ((shC D B).tail.getD k (fun _ _ => .inr (0, []))) T1 r = ((shC D B).tail.getD k (fun _ _ => .inr (0, []))) T r
    have : ∀ f ∈ (shC D B).tail, ∀ (r : Nat → Int32), f T1 r = f T r := by
      simp [shC, sI, sZ, sQ, sNow, sTown, sText, sPast, sFore, sNote]
    by_cases hk : k < (shC D B).tail.length
    · rw [List.getD_eq_getElem?_getD, List.getElem?_eq_getElem hk]
      exact this _ (List.getElem_mem hk) r
    · rw [List.getD_eq_getElem?_getD, List.getElem?_eq_none (by omega)]
      rfl
theorem celM_T {D : DX} {B : Nat} {T T1 : Int64} {k : Nat} (hk : k ≠ 0) (r : Nat → Int32) : celM D B T1 k r = celM D B T k r := by
  cases k with
  | zero => exact absurd rfl hk
  | succ k =>
    show ((shM D B).tail.getD k (fun _ _ => .inr (0, []))) T1 r = ((shM D B).tail.getD k (fun _ _ => .inr (0, []))) T r
    have : ∀ f ∈ (shM D B).tail, ∀ (r : Nat → Int32), f T1 r = f T r := by
      simp [shM, sI, sZ]
    by_cases hk : k < (shM D B).tail.length
    · rw [List.getD_eq_getElem?_getD, List.getElem?_eq_getElem hk]
      exact this _ (List.getElem_mem hk) r
    · rw [List.getD_eq_getElem?_getD, List.getElem?_eq_none (by omega)]
      rfl
