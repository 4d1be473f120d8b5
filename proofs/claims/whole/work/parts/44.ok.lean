/-! ===== the two sides' cells; a state stays good ===== -/
theorem MI.hi {I I' : sm_I} {S : ST} (h : MI I S) (hf : hiC I I') : MI I' S := by
  obtain ⟨h1, ⟨h2, h3⟩, ⟨h4, h5⟩, h6, h7, h8⟩ := h
  have e : ∀ a k, 106 ≤ a → I' a k = I a k := hf
  refine ⟨h1.of (fun k => e 107 k (by omega)), ⟨(e _ _ (by omega)).trans h2, fun j hj => (e _ _ (by omega)).trans (h3 j hj)⟩, ⟨(e _ _ (by omega)).trans h4, fun k hk => (h5 k hk).of (fun k => e 109 k (by omega))⟩, fun i hi => ⟨fun q => (e _ _ (by omega)).trans ((h6 i hi).1 q), fun K q => ⟨(e _ _ (by omega)).trans ((h6 i hi).2 K q).1, ((h6 i hi).2 K q).2.of (fun k => e 110 k (by omega))⟩⟩, (e _ _ (by omega)).trans h7, fun j hj => ⟨(e _ _ (by omega)).trans (h8 j hj).1, (e _ _ (by omega)).trans (h8 j hj).2⟩⟩
theorem CI.lo {I I' : sm_I} {S : ST} (h : CI I S) (hS : okS S) (hf : loC I I') : CI I' S := by
  obtain ⟨h1, h2, h3, h4, h5, h6⟩ := h
  exact ⟨h1.fr hS.1.1 (fun b k g1 g2 => hf b k (by omega)), h2.of (hf _ _ (by omega)) (fun k => hf _ _ (by omega)), h3.of (fun k hk => (hS.2.2.1.2 k hk).1) (fun b k g1 g2 => hf b k (by omega)), h4.of hS.2.2.2.1 (fun b k g1 g2 => hf b k (by omega)), h5.of (fun b k g1 g2 => hf b k (by omega)), h6.of (fun b k g1 g2 => hf b k (by omega))⟩
