theorem txS_self (M : Mem) (a : Nat) (h : M 1 6 = nI a) : M = txS M (a, M 1 7, M 1 8, M 1 9) := by
  funext i j
  unfold txS tx
  by_cases h1 : i = 1
  · subst h1
    rw [setR_self]
    by_cases h9 : j = 9
    · subst h9; rw [pk_us]
    · rw [pk_un h9]
      by_cases h8 : j = 8
      · subst h8; rw [pk_us]
      · rw [pk_un h8]
        by_cases h7 : j = 7
        · subst h7; rw [pk_us]
        · rw [pk_un h7]
          by_cases h6 : j = 6
          · subst h6; rw [pk_us]; exact h
          · rw [pk_un h6]
  · rw [setR_ne _ _ h1]
def rdM0 (M : Mem) : Mem := up2 (up2 (up2 (rsN (rsT M) 5) 1 4 (nI 0)) 1 5 (nI 0)) 1 6 (nI 0)
theorem aS_0 (p : Nat) : aS (fun _ => nI 0) p = nI 0 := by
  unfold aS
  simp only [nSum]
  decide
theorem DR_0 (M Mm : Mem) : DR (rdM0 M) (tB Mm) 3 2 0 := by
  have e4 : tB Mm 4 = fun _ => nI 0 := by unfold tB; exact setR_self _ _ _
  refine ⟨⟨by decide, by decide, by decide, by decide, by decide⟩, ?_, ?_, ?_, ?_, ?_, ?_, ⟨0, 0, by decide, by decide, ?_, ?_, ?_⟩, fun p hp => absurd hp (Nat.not_lt_zero _), ?_, ?_, ?_⟩
  · simp [rdM0, rsN, rsT, up2, setR, upd]
  · simp [tB, bg0, up2, setR, upd]
  · simp [rdM0, rsN, rsT, up2, setR, upd]
  · simp [tB, bg0, up2, setR, upd]
  · simp [rdM0, rsN, rsT, up2, setR, upd]
  · simp [tB, bg0, up2, setR, upd]
  · simp [tB, bg0, up2, setR, upd]
  · simp [rdM0, rsN, rsT, up2, setR, upd]
  · simp [rdM0, rsN, rsT, up2, setR, upd]
  · rw [e4]
    refine ⟨fun p hp => ?_, fun p hp => ?_, fun p hp k hk => ?_, fun p hp => ?_, ?_⟩
    · simp [rdM0, rsN, rsT, up2, setR, upd]
    · simp [rdM0, rsN, rsT, up2, setR, upd]
    · simp [rdM0, rsN, rsT, up2, setR, upd]
    · rw [aS_0]; simp [rdM0, rsN, rsT, up2, setR, upd]
    · rw [moR_zero rfl]; simp [rdM0, rsN, rsT, up2, setR, upd]
  · rw [e4]
    exact ⟨fun j _ => ⟨0, by decide, rfl⟩, rfl, fun _ _ => rfl, fun p hp => absurd hp (Nat.not_lt_zero _)⟩
  · rw [e4]
    exact fun _ _ _ _ _ => rfl
theorem DF_0 (M : Mem) : DF M (rdM0 M) := by
  unfold rdM0
  refine DF.up1 (DF.up1 (DF.up1 ?_ _ (by decide)) _ (by decide)) _ (by decide)
  refine ⟨fun c h1 h2 => ?_, ?_⟩
  · unfold rsN rsT
    rw [setR_ne _ _ (by omega), setR_ne _ _ (by omega), setR_ne _ _ (by omega), setR_ne _ _ (by omega), up2_ne _ _ (by omega), setR_ne _ _ (by omega), up2_ne _ _ (by omega), up2_ne _ _ (by omega), up2_ne _ _ (by omega)]
  · unfold rsN rsT
    rw [setR_ne _ _ (by omega), setR_ne _ _ (by omega), setR_ne _ _ (by omega), setR_ne _ _ (by omega), up2_ne _ _ (by omega), setR_ne _ _ (by omega), up2_ne _ _ (by omega), up2_ne _ _ (by omega), up2_ne _ _ (by omega)]
def EA (f : Nat → Int32) (n : Nat) (Mm : Mem) (j : Nat) : Prop := ∀ k, k < j → (itN f n (s0 Mm n) k).2.2.2.2.2 < 0 ∧ ¬ (itN f n (s0 Mm n) k).2.2.1 = 0
theorem EA_s {f : Nat → Int32} {n j : Nat} {Mm : Mem} (h : EA f n Mm j) (h1 : (itN f n (s0 Mm n) j).2.2.2.2.2 < 0) (h2 : ¬ (itN f n (s0 Mm n) j).2.2.1 = 0) : EA f n Mm (j + 1) := fun k hk => (Nat.lt_succ_iff_lt_or_eq.mp hk).elim (h k) (fun e => e ▸ ⟨h1, h2⟩)
def RI (f : Nat → Int32) (n : Nat) (M Mm : Mem) (i : Nat) (M2 : Mem) (g2 : CG) : Prop := i ≤ g2.1 ∧ g2.1 ≤ n ∧ DF M M2 ∧ GA f n g2.1 (itN f n (s0 Mm n) i).2 ∧ (∃ K X P, DR M2 (itN f n (s0 Mm n) i).1 K X P) ∧ EA f n Mm i
theorem itN_0 (f : Nat → Int32) (n : Nat) (s : Mem × SG) : itN f n s 0 = s := by simp only [itN]
theorem RI_0 {f : Nat → Int32} {n : Nat} (M : Mem) {Mm : Mem} (h : Mm 1 = f) (a b c : Int32) : RI f n M Mm 0 (rdM0 M) (0, a, b, c) := by
  refine ⟨Nat.zero_le _, Nat.zero_le _, DF_0 M, ?_, ⟨3, 2, 0, ?_⟩, fun k hk => absurd hk (Nat.not_lt_zero _)⟩
  · rw [itN_0, s0_e, snd_mk, h]
    exact ⟨_, rfl⟩
  · rw [itN_0, s0_e, fst_mk]
    exact DR_0 M Mm
def RQ (f : Nat → Int32) (n : Nat) (M Mm : Mem) (rz : Int32) (M2 : Mem) : Prop := DF M M2 ∧ ∃ j : Nat, EA f n Mm j ∧ ((∃ q : Nat, q ≤ 150 ∧ (itN f n (s0 Mm n) j).2.2.2.2.2 = nI q ∧ rz = (-10) - nI q) ∨ ((itN f n (s0 Mm n) j).2.2.2.2.2 < 0 ∧ (itN f n (s0 Mm n) j).2.2.1 = 0 ∧ rz = nI j ∧ j ≤ 150 ∧ ∃ K X P, DR M2 (itN f n (s0 Mm n) j).1 K X P))
theorem RQ_end {f : Nat → Int32} {n i : Nat} {M Mm M2 : Mem} {g2 : CG} (h : RI f n M Mm i M2 g2) (hn : n ≤ 150) (c : (aF f n g2).2.2.1 = nI 258) : RQ f n M Mm (nI i) M2 := by
  obtain ⟨h1, h2, h3, h4, h5, h6⟩ := h
  exact ⟨h3, i, h6, Or.inr ⟨GA_w h4, (ga_tok h4).2.1.mp c, rfl, by omega, h5⟩⟩
theorem RQ_b1 {f : Nat → Int32} {n i : Nat} {M Mm M2 M3 : Mem} {g2 g3 : CG} {r : Int32} (h : RI f n M Mm i M2 g2) (c : ¬ (aF f n g2).2.2.1 = nI 258) (hI : IQ f n M2 (aF f n g2) (it2 f n (itN f n (s0 Mm n) i)) r M3 g3) (cr : r = 0) : RQ f n M Mm ((-10) - g3.2.1) M3 := by
  obtain ⟨h1, h2, h3, h4, h5, h6⟩ := h
  have hz : ¬ (itN f n (s0 Mm n) i).2.2.1 = 0 := fun q => c ((ga_tok h4).2.1.mpr q)
  obtain ⟨⟨i1, i2, i3⟩, i4⟩ := hI
  rcases i4 with ⟨e, -⟩ | ⟨-, e, q, hq, eq⟩
  · rw [cr] at e
    exact absurd e (by decide)
  · refine ⟨DF.tr h3 i3, i + 1, EA_s h6 (GA_w h4) hz, Or.inl ⟨q, hq, ?_, by rw [eq]⟩⟩
    have e2 : (it2 f n (itN f n (s0 Mm n) i)).2.2.2.2.2 = nI q := e.trans eq
    rw [itN_s, itM_e, snd_mk, TF_n (by rw [e2]; exact nI_pos (by omega)), snd_mk]
    exact e2
theorem RQ_b2 {f : Nat → Int32} {n i : Nat} {M Mm M2 M3 : Mem} {g2 g3 : CG} {r : Int32} (h : RI f n M Mm i M2 g2) (hn : n ≤ 150) (c : ¬ (aF f n g2).2.2.1 = nI 258) (hI : IQ f n M2 (aF f n g2) (it2 f n (itN f n (s0 Mm n) i)) r M3 g3) (cr : ¬ r = 0) (ce : ¬ (aF f n g3).2.2.1 = nI 59) : RQ f n M Mm ((-10) - (aF f n g3).2.1) M3 := by
  obtain ⟨h1, h2, h3, h4, h5, h6⟩ := h
  have hz : ¬ (itN f n (s0 Mm n) i).2.2.1 = 0 := fun q => c ((ga_tok h4).2.1.mpr q)
  obtain ⟨⟨i1, i2, i3⟩, i4⟩ := hI
  rcases i4 with ⟨-, hG, hD⟩ | ⟨e, -⟩
  · obtain ⟨q, hq, eq⟩ := aF_nq (f := f) hn i1
    refine ⟨DF.tr h3 i3, i + 1, EA_s h6 (GA_w h4) hz, Or.inl ⟨q, hq, ?_, by rw [eq]⟩⟩
    rw [itN_s, itM_e, snd_mk, if_neg (fun e => ce ((ga_tok hG).2.2.1.mpr e)), TF_gb hG]
    exact eq
  · exact absurd (e.trans nI_0) cr
theorem RI_s {f : Nat → Int32} {n i : Nat} {M Mm M2 M3 : Mem} {g2 g3 : CG} {r : Int32} (h : RI f n M Mm i M2 g2) (c : ¬ (aF f n g2).2.2.1 = nI 258) (hI : IQ f n M2 (aF f n g2) (it2 f n (itN f n (s0 Mm n) i)) r M3 g3) (cr : ¬ r = 0) (ce : (aF f n g3).2.2.1 = nI 59) : RI f n M Mm (i + 1) M3 (aF f n g3) := by
  obtain ⟨h1, h2, h3, h4, h5, h6⟩ := h
  have hz : ¬ (itN f n (s0 Mm n) i).2.2.1 = 0 := fun q => c ((ga_tok h4).2.1.mpr q)
  obtain ⟨⟨i1, i2, i3⟩, i4⟩ := hI
  rcases i4 with ⟨-, hG, hD⟩ | ⟨e, -⟩
  · have hlt : g2.1 < (aF f n g2).1 := by
      rw [aF_1]
      exact tn_lt h2 (by rw [← (ga_tok h4).1]; exact hz)
    have hge := aF_ge (f := f) i1
    refine ⟨by omega, aF_ok i1, DF.tr h3 i3, ?_, ?_, EA_s h6 (GA_w h4) hz⟩
    · rw [itN_s, itM_e, snd_mk, if_pos ((ga_tok hG).2.2.1.mp ce)]
      exact (TF_ga hG).1
    · rw [itN_s, itM_1]
      exact hD
  · exact absurd (e.trans nI_0) cr
