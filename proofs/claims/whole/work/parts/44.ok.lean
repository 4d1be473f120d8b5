/-! ===== the two sides' cells; a state stays good ===== -/
theorem MI.hi {I I' : sm_I} {S : ST} (h : MI I S) (hf : hiC I I') : MI I' S := by
  obtain ⟨h1, ⟨h2, h3⟩, ⟨h4, h5⟩, h6, h7, h8⟩ := h
  have e : ∀ a k, 106 ≤ a → I' a k = I a k := hf
  refine ⟨h1.of (fun k => e 107 k (by omega)), ⟨(e _ _ (by omega)).trans h2, fun j hj => (e _ _ (by omega)).trans (h3 j hj)⟩, ⟨(e _ _ (by omega)).trans h4, fun k hk => (h5 k hk).of (fun k => e 109 k (by omega))⟩, fun i hi => ⟨fun q => (e _ _ (by omega)).trans ((h6 i hi).1 q), fun K q => ⟨(e _ _ (by omega)).trans ((h6 i hi).2 K q).1, ((h6 i hi).2 K q).2.of (fun k => e 110 k (by omega))⟩⟩, (e _ _ (by omega)).trans h7, fun j hj => ⟨(e _ _ (by omega)).trans (h8 j hj).1, (e _ _ (by omega)).trans (h8 j hj).2⟩⟩
theorem CI.lo {I I' : sm_I} {S : ST} (h : CI I S) (hS : okS S) (hf : loC I I') : CI I' S := by
  obtain ⟨h1, h2, h3, h4, h5, h6⟩ := h
  exact ⟨h1.fr hS.1.1 (fun b k g1 g2 => hf b k (by omega)), h2.of (hf _ _ (by omega)) (fun k => hf _ _ (by omega)), h3.of (fun k hk => (hS.2.2.1.2 k hk).1) (fun b k g1 g2 => hf b k (by omega)), h4.of hS.2.2.2.1 (fun b k g1 g2 => hf b k (by omega)), h5.of (fun b k g1 g2 => hf b k (by omega)), h6.of (fun b k g1 g2 => hf b k (by omega))⟩
theorem cg_ix_lt {n j : Nat} {c : Int32} (h : cg_ix n c = some j) : j < n := by
  unfold cg_ix at h
  split at h
  · rename_i hc; cases h; exact hc.2
  · cases h
theorem cg_in_bd {a b j : Nat} {c : Int32} (h : cg_in a b c = some j) : a ≤ j ∧ j ≤ b := by
  unfold cg_in at h
  split at h
  · rename_i q hq
    have h1 := cg_ix_lt hq
    split at h
    · cases h; omega
    · cases h
  · cases h
theorem okS_fills {S : ST} (h : okS S) (c n m : Int32) : okS (sp_fills S c n m).2 := by
  unfold sp_fills
  split
  · exact h
  · rename_i j hj
    split
    · exact h
    · rename_i a ha
      split
      · exact h
      · rename_i b hb
        split
        · exact h
        · rename_i hlt
          exact h.do (h.1.fill (cg_ix_lt hj) (Nat.not_lt.mp hlt) (cg_in_bd hb).2)
theorem okS_draws {S : ST} (h : okS S) (c n : Int32) : okS (sp_draws S c n).2 := by
  unfold sp_draws
  split
  · exact h
  · rename_i j hj
    split
    · exact h
    · rename_i a ha
      split
      · exact h
      · rename_i hlt
        exact h.do (h.1.draw (cg_ix_lt hj) (cg_in_bd ha).1 (Nat.not_lt.mp hlt))
theorem okS_pours {S : ST} (h : okS S) (c e n : Int32) : okS (sp_pours S c e n).2 := by
  unfold sp_pours
  split
  · exact h
  · rename_i j hj
    split
    · exact h
    · rename_i i hi
      split
      · exact h
      · rename_i hne
        split
        · exact h
        · rename_i a ha
          split
          · exact h
          · rename_i h1
            split
            · exact h
            · rename_i h2
              exact h.do (h.1.pour (cg_ix_lt hj) (cg_ix_lt hi) hne (cg_in_bd ha).1 (Nat.not_lt.mp h1) (Nat.not_lt.mp h2))
theorem okS_turnsOver {S : ST} (h : okS S) (c : Int32) : okS (sp_turnsOver S c).2 := by
  unfold sp_turnsOver
  split
  · exact h
  · exact h.do h.1.turn
theorem okS_undo {S : ST} (h : okS S) : okS (sp_undo S).2 := by
  unfold sp_undo
  split
  · exact h
  · rename_i h0
    obtain ⟨h1, h2, ⟨h3, h4⟩, h5⟩ := h
    exact ⟨h4 _ (by omega), h2, ⟨by show S.2.2.1.1 - 1 ≤ 8; omega, fun k hk => h4 k (by have hk' : k < S.2.2.1.1 - 1 := hk; omega)⟩, h5⟩
theorem okS_type {S : ST} (h : okS S) (x : Int32) : okS (sp_type S x).2 := by
  unfold sp_type
  split
  · exact h
  · rename_i l hl
    split
    · exact h
    · rename_i h60
      exact h.type (cg_in_bd hl).2 h60
theorem okS_clear {S : ST} (h : okS S) : okS (sp_clear S).2 := ⟨h.1, ⟨Nat.zero_le _, fun j hj => absurd hj (Nat.not_lt_zero j)⟩, h.2.2⟩
theorem okS_sees {S : ST} (h : okS S) (n y : Int32) : okS (sp_sees S n y).2 := by
  unfold sp_sees
  split
  · exact h
  · rename_i a ha
    split
    · exact h
    · rename_i b hb
      split
      · exact h
      · rename_i h6
        exact h.sees (cg_in_bd ha).2 (cg_in_bd hb).2 h6
theorem okS_forget {S : ST} (h : okS S) : okS (sp_forget S).2 := ⟨h.1, h.2.1, h.2.2.1, h.2.2.2.1, ⟨Nat.zero_le _, fun j hj => absurd hj (Nat.not_lt_zero j)⟩⟩
theorem okS_keep {S : ST} (h : okS S) (i : Int32) : okS (sp_keep S i).2 := by
  unfold sp_keep
  split
  · exact h
  · exact h.keep
theorem okS_back {S : ST} (h : okS S) (i : Int32) : okS (sp_back S i).2 := by
  unfold sp_back
  split
  · exact h
  · rename_i a ha
    split
    · exact h
    · rename_i K hK
      exact ⟨h.2.2.2.1 a K (by have := (cg_in_bd ha).2; omega) hK, h.2.1, ⟨Nat.zero_le _, fun k hk => absurd hk (Nat.not_lt_zero k)⟩, h.2.2.2.1, h.2.2.2.2⟩
theorem okS_tells {S : ST} (h : okS S) : okS (sp_tells S).2 := by
  unfold sp_tells
  split
  · exact h
  · rename_i q hq
    exact ⟨(pr_ok S.2.1 61 (nx S.2.1 0) kzero 0 q kzero_ok hq).1, ⟨Nat.zero_le _, fun j hj => absurd hj (Nat.not_lt_zero j)⟩, ⟨ppush_le h.2.2.1.1, ppush_ok h.2.2.1.2 h.1 h.2.2.1.1⟩, h.2.2.2⟩
/-- nothing told -/
def S0 : ST := (kzero, (0, fun _ => 0), (0, fun _ => kzero), fun _ => none, (0, fun _ => 0, fun _ => 0))
theorem okS_0 : okS S0 := ⟨kzero_ok.1, ⟨Nat.zero_le _, fun j hj => absurd hj (Nat.not_lt_zero j)⟩, ⟨Nat.zero_le _, fun j hj => absurd hj (Nat.not_lt_zero j)⟩, fun i K _ h => (by cases h), ⟨Nat.zero_le _, fun j hj => absurd hj (Nat.not_lt_zero j)⟩⟩
theorem MI_0 {I : sm_I} (h : ∀ a k, 106 ≤ a → a < 116 → I a k = 0) : MI I S0 := ⟨⟨h _ _ (by omega) (by omega), fun c f hc => absurd hc (Nat.not_lt_zero c)⟩, ⟨h _ _ (by omega) (by omega), fun j hj => absurd hj (Nat.not_lt_zero j)⟩, ⟨h _ _ (by omega) (by omega), fun j hj => absurd hj (Nat.not_lt_zero j)⟩, fun i hi => ⟨fun _ => h _ _ (by omega) (by omega), fun K z => (by cases z)⟩, h _ _ (by omega) (by omega), fun j hj => absurd hj (Nat.not_lt_zero j)⟩
theorem CI_0 {I : sm_I} (h : ∀ a k, a < 106 → ¬ (∃ c, c < 4 ∧ a = 88 + 4 * c ∧ k = 0) → I a k = 0) (hl : ∀ c, c < 4 → I (88 + 4 * c) 0 = nI 1) : CI I S0 := by
  have h' : ∀ a k, a < 88 → I a k = 0 := fun a k z => h a k (by omega) (fun ⟨c, h1, h2, h3⟩ => by omega)
  refine ⟨⟨h' _ _ (by omega), fun c f hc => absurd hc (Nat.not_lt_zero c)⟩, ⟨h' _ _ (by omega), fun j hj => absurd hj (Nat.not_lt_zero j)⟩, ⟨h' _ _ (by omega), 0, by omega, h' _ _ (by omega), fun j hj => absurd hj (Nat.not_lt_zero j)⟩, fun i hi => ⟨fun _ => h' _ _ (by omega), fun K z => (by cases z)⟩, ⟨h' _ _ (by omega), fun j hj => absurd hj (Nat.not_lt_zero j)⟩, fun c hc => ⟨Or.inl ⟨hl c hc, h _ _ (by omega) (fun ⟨c, h1, h2, h3⟩ => by omega)⟩, Or.inl ⟨h _ _ (by omega) (fun ⟨c, h1, h2, h3⟩ => by omega), h _ _ (by omega) (fun ⟨c, h1, h2, h3⟩ => by omega)⟩⟩⟩
