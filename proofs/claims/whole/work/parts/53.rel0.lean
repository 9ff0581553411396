theorem M1m_0 {j : Nat} : M1m 0 j = 0 := by
  unfold M1m seM bg0
  by_cases h3 : j = 3
  · subst h3; simp [up2, setR, upd, M0m, nI]
  · by_cases h18 : j = 18
    · subst h18; simp [up2, setR, upd, M0m, nI]
    · by_cases h22 : j = 22
      · subst h22; simp [up2, setR, upd, M0m, nI]
      · by_cases h9 : j = 9
        · subst h9; simp [up2, setR, upd, M0m, nI]
        · simp [up2, setR, upd, M0m, h3, h18, h22, h9]
theorem Rel_0 : Rel 0 M0c 0 M1m := by
  have e5 : M1m 5 = fun _ => nI 0 := by
    unfold M1m
    rw [seM_5, setR_self]
  have e1 : M1m 1 = fun _ => 0 := by
    unfold M1m
    rw [seM_1, setR_ne _ _ (by decide)]
    unfold bg0
    rw [up2_ne _ _ (by decide), up2_ne _ _ (by decide), up2_ne _ _ (by decide), up2_ne _ _ (by decide)]
    rfl
  have e2 : ∀ j, j < 3 → M1m 2 j = bg0 M0m 2 (3 + j) := fun j hj => by
    unfold M1m
    rw [seM_2 _ hj, setR_ne _ _ (by decide)]
  have e8 : ∀ g, g < 2 → M1m 8 g = nI 0 := fun g hg => by
    unfold M1m seM
    rcases (show g = 0 ∨ g = 1 by omega) with rfl | rfl
    · rw [up2_no _ _ _ (by decide), up2_at]
    · rw [up2_at]
  refine ⟨rfl, M1m_0, 3, 2, 0, ⟨⟨by decide, by decide⟩, ⟨by decide, by decide⟩, by decide, rfl, ?_, rfl, ?_, rfl, ?_, fun p hp => absurd hp (Nat.not_lt_zero _)⟩, ⟨?_, ?_⟩, ⟨0, by decide, rfl, M1m_0, ?_, ?_⟩, ⟨0, by decide, rfl, M1m_0, fun i hi => absurd hi (Nat.not_lt_zero _)⟩, ⟨0, 0, by decide, by decide, rfl, rfl, M1m_0, fun i hi => absurd hi (Nat.not_lt_zero _)⟩, fun g hg => ⟨?_, Or.inl (e8 g hg)⟩⟩
  · rw [e2 0 (by decide)]; simp [bg0, up2, setR, upd]
  · rw [e2 1 (by decide)]; simp [bg0, up2, setR, upd]
  · rw [e2 2 (by decide)]; simp [bg0, up2, setR, upd]
  · rw [e5]
    refine ⟨fun p hp => rfl, fun p hp => rfl, fun p hp k hk => rfl, fun p hp => ?_, ?_⟩
    · rw [aS_0]; rfl
    · rw [moR_zero rfl]; rfl
  · rw [e5]
    exact ⟨fun j _ => ⟨0, by decide, rfl⟩, ⟨0, by decide, rfl⟩, fun p hp => absurd hp (Nat.not_lt_zero _), fun _ _ _ => rfl⟩
  · rw [e1]; rfl
  · rw [e1]
    intro j
    exact (by decide : inR (0 : Int32) 256)
  · rw [e8 g hg]
    rcases (show g = 0 ∨ g = 1 by omega) with rfl | rfl <;> rfl
