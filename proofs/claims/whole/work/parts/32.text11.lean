abbrev CG : Type := Nat × Int32 × Int32 × Int32
def txS (M : Mem) (g : CG) : Mem := tx M (nI g.1) g.2.1 g.2.2.1 g.2.2.2
def aF (f : Nat → Int32) (n : Nat) (g : CG) : CG := (tn f n g.1, nI (sk f n g.1), tc f n g.1, nu f n g.1 g.2.2.2)
abbrev nQ (g : CG) (lo hi : Int32) : Prop := g.2.2.1 = nI 256 ∧ ¬ g.2.2.2 < lo ∧ ¬ hi < g.2.2.2
theorem aF_ok {f : Nat → Int32} {n : Nat} {g : CG} (h : g.1 ≤ n) : (aF f n g).1 ≤ n := by
  unfold aF
  exact (tn_le h).2
theorem k_X4_advanceS (l : Launch) (D : DX) (B : Nat) (T : Int64) (M : Mem) (f : Nat → Int32) (n : Nat) (hf : M 2 = f) (hn : M 1 1 = nI n) (hn9 : n ≤ 150) (g : CG) (hg : g.1 ≤ n) : Cv l D B 108 (celC D B) yX4_advance cX4_advance 2 none 2 [.ref (B + 1)] T (txS M g) (fun T1 M1 => T1 = T ∧ M1 = txS M (aF f n g)) := by
  subst hf
  exact k_X4_advance l D B T M n g.1 hn hn9 _ _ _ hg
theorem k_X4_readNumberS (l : Launch) (D : DX) (B : Nat) (T : Int64) (M : Mem) (f : Nat → Int32) (n : Nat) (hf : M 2 = f) (hn : M 1 1 = nI n) (hn9 : n ≤ 150) (g : CG) (hg : g.1 ≤ n) (lo hi : Int32) : Ci l D B 108 (celC D B) yX4_readNumber cX4_readNumber 3 (some .boolean) 3 [.ref (B + 1), .int lo, .int hi] T (txS M g) (fun rz T1 M1 => rz = bI (nQ (aF f n g) lo hi) ∧ T1 = T ∧ M1 = txS M (aF f n g)) := by
  subst hf
  exact k_X4_readNumber l D B T M n g.1 hn hn9 _ _ _ hg lo hi
theorem k_X4_readEndS (l : Launch) (D : DX) (B : Nat) (T : Int64) (M : Mem) (f : Nat → Int32) (n : Nat) (hf : M 2 = f) (hn : M 1 1 = nI n) (hn9 : n ≤ 150) (g : CG) (hg : g.1 ≤ n) : Ci l D B 108 (celC D B) yX4_readEnd cX4_readEnd 1 (some .boolean) 3 [.ref (B + 1)] T (txS M g) (fun rz T1 M1 => rz = bI ((aF f n g).2.2.1 = nI 59) ∧ T1 = T ∧ M1 = txS M (aF f n g)) := by
  subst hf
  exact k_X4_readEnd l D B T M n g.1 hn hn9 _ _ _ hg

