/-! ===== the class' cells tell the same state ===== -/
theorem g4 (a : Nat) {c : Nat} (h : c < 4) : [some a, some (a + 1), some (a + 2), some (a + 3)].getD c none = some (a + c) := by
  rcases (show c = 0 ∨ c = 1 ∨ c = 2 ∨ c = 3 by omega) with rfl | rfl | rfl | rfl <;> rfl
theorem g44 (a : Nat) {c : Nat} (h : c < 4) : [some a, some (a + 4), some (a + 8), some (a + 12)].getD c none = some (a + 4 * c) := by
  rcases (show c = 0 ∨ c = 1 ∨ c = 2 ∨ c = 3 by omega) with rfl | rfl | rfl | rfl <;> rfl
theorem g68 (a : Nat) {c : Nat} (h : c < 8) : [some a, some (a + 6), some (a + 12), some (a + 18), some (a + 24), some (a + 30), some (a + 36), some (a + 42)].getD c none = some (a + 6 * c) := by
  rcases (show c = 0 ∨ c = 1 ∨ c = 2 ∨ c = 3 ∨ c = 4 ∨ c = 5 ∨ c = 6 ∨ c = 7 by omega) with rfl | rfl | rfl | rfl | rfl | rfl | rfl | rfl <;> rfl
theorem g62 (a : Nat) {c : Nat} (h : c < 2) : [some a, some (a + 6)].getD c none = some (a + 6 * c) := by
  rcases (show c = 0 ∨ c = 1 by omega) with rfl | rfl <;> rfl
/-- a cellar's shape -/
def isCl (a : Nat) : Prop := SH a = (0, 1, [some (a + 1), none]) ∧ SH (a + 1) = (4, 4, [some (a + 2), some (a + 3), some (a + 4), some (a + 5)]) ∧ ∀ c, c < 4 → SH (a + 2 + c) = (0, 0, [none, none, none, none, none, none])
theorem isCl_7 : isCl 7 := ⟨rfl, rfl, by decide +kernel⟩
theorem isCl_13 : isCl 13 := ⟨rfl, rfl, by decide +kernel⟩
theorem isCl_p1 : ∀ i, i < 8 → SH (21 + 6 * i) = (0, 1, [some (21 + 6 * i + 1), none]) := by decide +kernel
theorem isCl_p2 : ∀ i, i < 8 → SH (21 + 6 * i + 1) = (4, 4, [some (21 + 6 * i + 2), some (21 + 6 * i + 3), some (21 + 6 * i + 4), some (21 + 6 * i + 5)]) := by decide +kernel
theorem isCl_p3 : ∀ i, i < 8 → ∀ c, c < 4 → SH (21 + 6 * i + 2 + c) = (0, 0, [none, none, none, none, none, none]) := by decide +kernel
theorem isCl_p (i : Nat) (h : i < 8) : isCl (21 + 6 * i) := ⟨isCl_p1 i h, isCl_p2 i h, isCl_p3 i h⟩
theorem isCl_im1 : ∀ i, i < 2 → SH (71 + 6 * i) = (0, 1, [some (71 + 6 * i + 1), none]) := by decide +kernel
theorem isCl_im2 : ∀ i, i < 2 → SH (71 + 6 * i + 1) = (4, 4, [some (71 + 6 * i + 2), some (71 + 6 * i + 3), some (71 + 6 * i + 4), some (71 + 6 * i + 5)]) := by decide +kernel
theorem isCl_im3 : ∀ i, i < 2 → ∀ c, c < 4 → SH (71 + 6 * i + 2 + c) = (0, 0, [none, none, none, none, none, none]) := by decide +kernel
theorem isCl_im (i : Nat) (h : i < 2) : isCl (71 + 6 * i) := ⟨isCl_im1 i h, isCl_im2 i h, isCl_im3 i h⟩
theorem sk_13 : ∀ c, c < 4 → SH (15 + c) = (0, 0, [none, none, none, none, none, none]) := by decide +kernel
def isLv (a : Nat) : Prop := SH a = (0, 2, [none, some (a + 1), none, none, none, none]) ∧ SH (a + 1) = (1, 41, [])
theorem isLv_l : ∀ c, c < 4 → isLv (88 + 4 * c) := by unfold isLv; decide +kernel
theorem isLv_s : ∀ c, c < 4 → isLv (90 + 4 * c) := by unfold isLv; decide +kernel
def ci (a k : Nat) : Prop := (a = 1 ∧ k = 1) ∨ a = 2 ∨ (13 ≤ a ∧ a ≤ 68) ∨ (70 ≤ a ∧ a ≤ 85) ∨ 106 ≤ a
def frC (I I' : sm_I) : Prop := ∀ a k, ci a k → I' a k = I a k
theorem frC.refl (I : sm_I) : frC I I := fun _ _ _ => rfl
theorem frC.trans {I J K : sm_I} (h1 : frC I J) (h2 : frC J K) : frC I K := fun a k h => (h2 a k h).trans (h1 a k h)
theorem frC.up {I : sm_I} {a k : Nat} {v : Int32} (h : ¬ ci a k) : frC I (up2 I a k v) := fun b j q => up2_x (by rintro ⟨rfl, rfl⟩; exact h q)
theorem frLv.C {a : Nat} {I I' : sm_I} (h : frLv a I I') (ha : 88 ≤ a ∧ a ≤ 102) : frC I I' := fun b k q => h b k (by unfold ci at q; omega) (by unfold ci at q; omega)
def hiC (I I' : sm_I) : Prop := ∀ a k, 106 ≤ a → I' a k = I a k
theorem hiC.trans {I J K : sm_I} (h1 : hiC I J) (h2 : hiC J K) : hiC I K := fun a k h => (h2 a k h).trans (h1 a k h)
theorem frC.hi {I I' : sm_I} (h : frC I I') : hiC I I' := fun a k q => h a k (by unfold ci; omega)
def LV (I : sm_I) : Prop := ∀ c, c < 4 → LevOK I (88 + 4 * c) 1 ∧ LevOK I (90 + 4 * c) 0
def CT (I : sm_I) (T : TX) : Prop := I 1 1 = nI T.1 ∧ ∀ j, j < T.1 → I 2 j = nI (T.2 j)
def CP (I : sm_I) (P : PT) : Prop := I 19 2 = nI P.1 ∧ ∃ la, la < 8 ∧ I 19 1 = nI la ∧ ∀ k, k < P.1 → CK I (21 + 6 * ((la + 8 - (P.1 - 1 - k)) % 8)) (P.2 k)
def CIm (I : sm_I) (im : Nat → Option KT) : Prop := ∀ i, i < 2 → (im i = none → I 70 i = nI 0) ∧ ∀ K, im i = some K → I 70 i = nI 1 ∧ CK I (71 + 6 * i) K
def CSn (I : sm_I) (N : Nat × (Nat → Nat) × (Nat → Nat)) : Prop := I 83 2 = nI N.1 ∧ ∀ j, j < N.1 → I 84 j = nI (N.2.1 j) ∧ I 85 j = nI (N.2.2 j)
def CI (I : sm_I) (S : ST) : Prop := CK I 13 S.1 ∧ CT I S.2.1 ∧ CP I S.2.2.1 ∧ CIm I S.2.2.2.1 ∧ CSn I S.2.2.2.2 ∧ LV I
theorem CK.of {I I' : sm_I} {a : Nat} {K : KT} (h : CK I a K) (h1 : I' a 1 = I a 1) (h2 : ∀ c f, c < K.1 → I' (a + 2 + c) f = I (a + 2 + c) f) : CK I' a K := ⟨h1.trans h.1, fun c f hc hf => (h2 c f hc).trans (h.2 c f hc hf)⟩
theorem CK.fr {I I' : sm_I} {a : Nat} {K : KT} (h : CK I a K) (hn : K.1 ≤ 4) (hf : ∀ b k, a ≤ b → b < a + 6 → I' b k = I b k) : CK I' a K := h.of (hf _ _ (by omega) (by omega)) (fun c f hc => hf _ _ (by omega) (by omega))
theorem CK.cell {I : sm_I} {K : KT} (h : CK I 13 K) {c f : Nat} (hc : c < K.1) (hf : f < 6) : I (15 + c) f = nI (K.2 c f) := h.2 c f hc hf
theorem CT.of {I I' : sm_I} {T : TX} (h : CT I T) (h1 : I' 1 1 = I 1 1) (h2 : ∀ k, I' 2 k = I 2 k) : CT I' T := ⟨h1.trans h.1, fun j hj => (h2 j).trans (h.2 j hj)⟩
theorem CP.of {I I' : sm_I} {P : PT} (h : CP I P) (hp : ∀ k, k < P.1 → (P.2 k).1 ≤ 4) (hf : ∀ b k, 19 ≤ b → b ≤ 68 → I' b k = I b k) : CP I' P := by
  obtain ⟨h1, la, h2, h3, h4⟩ := h
  exact ⟨(hf _ _ (by omega) (by omega)).trans h1, la, h2, (hf _ _ (by omega) (by omega)).trans h3, fun k hk => (h4 k hk).fr (hp k hk) (fun b q g1 g2 => hf b q (by omega) (by omega))⟩
theorem CIm.of {I I' : sm_I} {im : Nat → Option KT} (h : CIm I im) (hp : ∀ i K, i < 2 → im i = some K → okK K) (hf : ∀ b k, 70 ≤ b → b ≤ 82 → I' b k = I b k) : CIm I' im := fun i hi => ⟨fun q => (hf _ _ (by omega) (by omega)).trans ((h i hi).1 q), fun K q => ⟨(hf _ _ (by omega) (by omega)).trans ((h i hi).2 K q).1, ((h i hi).2 K q).2.fr (hp i K hi q).1 (fun b q g1 g2 => hf b q (by omega) (by omega))⟩⟩
theorem CSn.of {I I' : sm_I} {N : Nat × (Nat → Nat) × (Nat → Nat)} (h : CSn I N) (hf : ∀ b k, 83 ≤ b → b ≤ 85 → I' b k = I b k) : CSn I' N := ⟨(hf _ _ (by omega) (by omega)).trans h.1, fun j hj => ⟨(hf _ _ (by omega) (by omega)).trans (h.2 j hj).1, (hf _ _ (by omega) (by omega)).trans (h.2 j hj).2⟩⟩
theorem LM.of {I I' : sm_I} {a l S H B : Nat} (h : LM I a l S H B) (hf : ∀ b k, a ≤ b → b ≤ a + 1 → I' b k = I b k) : LM I' a l S H B := ⟨(hf _ _ (by omega) (by omega)).trans h.1, (hf _ _ (by omega) (by omega)).trans h.2.1, (hf _ _ (by omega) (by omega)).trans h.2.2.1, (hf _ _ (by omega) (by omega)).trans h.2.2.2.1, (hf _ _ (by omega) (by omega)).trans h.2.2.2.2.1, fun y hy => (hf _ _ (by omega) (by omega)).trans (h.2.2.2.2.2 y hy)⟩
theorem LevOK.of {I I' : sm_I} {a l : Nat} (h : LevOK I a l) (hf : ∀ b k, a ≤ b → b ≤ a + 1 → I' b k = I b k) : LevOK I' a l := by
  rcases h with ⟨h1, h2⟩ | ⟨S, H, B, h1, h2⟩
  · exact Or.inl ⟨(hf _ _ (by omega) (by omega)).trans h1, (hf _ _ (by omega) (by omega)).trans h2⟩
  · exact Or.inr ⟨S, H, B, h1, h2.of hf⟩
theorem LV.of {I I' : sm_I} (h : LV I) (hf : ∀ b k, 88 ≤ b → b ≤ 103 → I' b k = I b k) : LV I' := fun c hc => ⟨(h c hc).1.of (fun b k g1 g2 => hf b k (by omega) (by omega)), (h c hc).2.of (fun b k g1 g2 => hf b k (by omega) (by omega))⟩
theorem LV.lv1 {I I' : sm_I} (h : LV I) {c S H B : Nat} (hc : c < 4) (hL : LM I' (88 + 4 * c) 1 S H B) (hq : 1 ≤ S ∧ S ≤ 12 ∧ 1 ≤ H ∧ H ≤ B ∧ B ≤ 20) (hf : frLv (88 + 4 * c) I I') : LV I' := fun c' hc' => by
  refine ⟨?_, (h c' hc').2.of (fun b k g1 g2 => hf b k (by omega) (by omega))⟩
  by_cases hx : c' = c
  · subst hx; exact Or.inr ⟨S, H, B, hq, hL⟩
  · exact (h c' hc').1.of (fun b k g1 g2 => hf b k (by omega) (by omega))
theorem LV.lv0 {I I' : sm_I} (h : LV I) {c S H B : Nat} (hc : c < 4) (hL : LM I' (90 + 4 * c) 0 S H B) (hq : 1 ≤ S ∧ S ≤ 12 ∧ 1 ≤ H ∧ H ≤ B ∧ B ≤ 20) (hf : frLv (90 + 4 * c) I I') : LV I' := fun c' hc' => by
  refine ⟨(h c' hc').1.of (fun b k g1 g2 => hf b k (by omega) (by omega)), ?_⟩
  by_cases hx : c' = c
  · subst hx; exact Or.inr ⟨S, H, B, hq, hL⟩
  · exact (h c' hc').2.of (fun b k g1 g2 => hf b k (by omega) (by omega))
theorem CK.frC {I I' : sm_I} {K : KT} (h : CK I 13 K) (hn : K.1 ≤ 4) (hf : frC I I') : CK I' 13 K := h.fr hn (fun b k g1 g2 => hf b k (by unfold ci; omega))
theorem CI.fr {I I' : sm_I} {S : ST} (h : CI I S) (hS : okS S) (hf : frC I I') (hV : LV I') : CI I' S := by
  obtain ⟨h1, h2, h3, h4, h5, -⟩ := h
  exact ⟨h1.frC hS.1.1 hf, h2.of (hf _ _ (by unfold ci; omega)) (fun k => hf _ _ (by unfold ci; omega)), h3.of (fun k hk => (hS.2.2.1.2 k hk).1) (fun b k g1 g2 => hf b k (by unfold ci; omega)), h4.of hS.2.2.2.1 (fun b k g1 g2 => hf b k (by unfold ci; omega)), h5.of (fun b k g1 g2 => hf b k (by unfold ci; omega)), hV⟩
/-- the least dip, or 41 -/
def ld (u : Nat → Nat) (n : Nat) : Nat → Nat → Nat
  | 0, _ => 41
  | f + 1, y => if n ≤ u y then y else ld u n f (y + 1)
theorem ld_le (u : Nat → Nat) (n : Nat) : ∀ f y, y + f ≤ 41 → ld u n f y ≤ 41
  | 0, y, _ => Nat.le_refl _
  | f + 1, y, h => by
    rw [ld]
    split
    · omega
    · exact ld_le u n f (y + 1) (by omega)
theorem ld_no (u : Nat → Nat) (n : Nat) : ∀ f y, (∀ q, y ≤ q → q < y + f → u q < n) → ld u n f y = 41
  | 0, y, _ => rfl
  | f + 1, y, h => by
    rw [ld, if_neg (by have := h y (by omega) (by omega); omega)]
    exact ld_no u n f (y + 1) (fun q h1 h2 => h q (by omega) (by omega))
theorem ld_yes (u : Nat → Nat) (n : Nat) : ∀ f y, n ≤ u (y + f) → ld u n (f + 1) y = cg_dp u n f y
  | 0, y, h => by rw [ld, cg_dp, if_pos (show n ≤ u y from h)]
  | f + 1, y, h => by
    rw [ld, cg_dp, ld_yes u n f (y + 1) (by rw [show y + 1 + f = y + (f + 1) by omega]; exact h)]
theorem ld_eq {u : Nat → Nat} (hu : ∀ a b, a ≤ b → u a ≤ u b) (n top : Nat) : ld u n (top + 1) 0 = if n ≤ u top then cg_dip u top n else 41 := by
  by_cases h : n ≤ u top
  · rw [if_pos h]
    exact ld_yes u n top 0 (by rw [Nat.zero_add]; exact h)
  · rw [if_neg h]
    exact ld_no u n (top + 1) 0 (fun q _ h2 => Nat.lt_of_le_of_lt (hu q top (by omega)) (Nat.not_le.mp h))
