/-- an int as a place below n -/
def cg_ix (n : Nat) (c : Int32) : Option Nat := if ¬ c < 0 ∧ c.toNatClampNeg < n then some c.toNatClampNeg else none
theorem cg_ix_some {n j : Nat} (h : j < n) (hn : n ≤ 2 ^ 31) : cg_ix n (nI j) = some j := by
  unfold cg_ix
  rw [nI_clamp (by omega), if_pos ⟨nI_pos (by omega), h⟩]
theorem cg_ix_none {n : Nat} {c : Int32} (h : ∀ j, j < n → c ≠ nI j) : cg_ix n c = none := by
  unfold cg_ix
  rw [if_neg]
  rintro ⟨h1, h2⟩
  obtain ⟨j, hj, rfl⟩ := nI_of h1
  rw [nI_clamp hj] at h2
  exact h j h2 rfl
theorem cg_ix_neg {n : Nat} {c : Int32} (h : c < 0) : cg_ix n c = none := by
  unfold cg_ix
  rw [if_neg]
  exact fun q => q.1 h
theorem cg_ix_big {n : Nat} {c : Int32} (hn : n < 2 ^ 31) (h : nI n ≤ c) : cg_ix n c = none := by
  refine cg_ix_none (fun j hj e => ?_)
  subst e
  have := (nI_leI hn (by omega)).mp h
  omega
theorem cg_ix_cases (n : Nat) (hn : n < 2 ^ 31) (c : Int32) : (∃ j, j < n ∧ c = nI j ∧ cg_ix n c = some j) ∨ (cg_ix n c = none ∧ (c < 0 ∨ nI n ≤ c)) := by
  rcases pk_ix c hn with h | h | ⟨j, hj, rfl⟩
  · exact Or.inr ⟨cg_ix_neg h, Or.inl h⟩
  · exact Or.inr ⟨cg_ix_big hn h, Or.inr h⟩
  · exact Or.inl ⟨j, hj, rfl, cg_ix_some hj (by omega)⟩
/-- an int between two naturals -/
def cg_in (a b : Nat) (c : Int32) : Option Nat := match cg_ix (b + 1) c with
  | some j => if a ≤ j then some j else none
  | none => none
theorem cg_in_some {a b j : Nat} (h1 : a ≤ j) (h2 : j ≤ b) (hb : b < 2 ^ 31) : cg_in a b (nI j) = some j := by
  unfold cg_in
  rw [cg_ix_some (by omega) (by omega)]
  simp [h1]
theorem cg_in_none {a b : Nat} {c : Int32} (ha : a < 2 ^ 31) (hb : b < 2 ^ 31) (h : ¬ (nI a ≤ c ∧ c ≤ nI b)) : cg_in a b c = none := by
  unfold cg_in
  split
  · rename_i j hj
    unfold cg_ix at hj
    split at hj
    · rename_i h3
      obtain ⟨j', hj', rfl⟩ := nI_of h3.1
      rw [nI_clamp hj'] at hj h3
      cases hj
      rw [if_neg]
      intro h4
      exact h ⟨(nI_leI ha hj').mpr h4, (nI_leI hj' hb).mpr (by omega)⟩
    · cases hj
  · rfl
/-! ===== the whole state ===== -/
abbrev ST : Type := KT × (Nat × (Nat → Nat)) × (Nat × (Nat → KT)) × (Nat → Option KT) × (Nat × (Nat → Nat) × (Nat → Nat))
def okS (S : ST) : Prop := okK S.1 ∧ (S.2.1.1 ≤ 60 ∧ ∀ j, j < S.2.1.1 → S.2.1.2 j < 256) ∧ (S.2.2.1.1 ≤ 8 ∧ ∀ k, k < S.2.2.1.1 → okK (S.2.2.1.2 k)) ∧ (∀ i K, i < 2 → S.2.2.2.1 i = some K → okK K) ∧ (S.2.2.2.2.1 ≤ 6 ∧ ∀ j, j < S.2.2.2.2.1 → S.2.2.2.2.2.1 j ≤ 99999 ∧ S.2.2.2.2.2.2 j ≤ 40)
def MI (I : sm_I) (S : ST) : Prop := MK I 107 0 S.1 ∧ (I 106 10 = nI S.2.1.1 ∧ ∀ j, j < S.2.1.1 → I 113 j = (nI (S.2.1.2 j)).toInt8.toInt32) ∧ (I 106 4 = nI S.2.2.1.1 ∧ ∀ k, k < S.2.2.1.1 → MK I 109 (25 * k) (S.2.2.1.2 k)) ∧ (∀ i, i < 2 → (S.2.2.2.1 i = none → I 111 i = nI 0) ∧ ∀ K, S.2.2.2.1 i = some K → I 111 i = nI 1 ∧ MK I 110 (25 * i) K) ∧ (I 106 8 = nI S.2.2.2.2.1 ∧ ∀ j, j < S.2.2.2.2.1 → I 112 (2 * j) = nI (S.2.2.2.2.2.1 j) ∧ I 112 (2 * j + 1) = nI (S.2.2.2.2.2.2 j))
/-- the cells of the reference that tell its state -/
def mn (a k : Nat) : Prop := (a = 106 ∧ (k = 4 ∨ k = 8 ∨ k = 10)) ∨ a = 107 ∨ (109 ≤ a ∧ a ≤ 113)
def frM (I I' : sm_I) : Prop := ∀ a k, (mn a k ∨ a < 106) → I' a k = I a k
theorem frM.refl (I : sm_I) : frM I I := fun _ _ _ => rfl
theorem frM.trans {I J K : sm_I} (h1 : frM I J) (h2 : frM J K) : frM I K := fun a k h => (h2 a k h).trans (h1 a k h)
theorem frU.M {I I' : sm_I} (h : frU I I') : frM I I' := by
  intro a k q
  refine h a k ?_ ?_
  · rcases q with q | q
    · unfold mn at q; omega
    · omega
  · rcases q with q | q
    · unfold mn at q; omega
    · omega
theorem MI.fr {I I' : sm_I} {S : ST} (h : MI I S) (hf : frM I I') : MI I' S := by
  obtain ⟨h1, ⟨h2, h3⟩, ⟨h4, h5⟩, h6, h7, h8⟩ := h
  have e : ∀ a k, mn a k → I' a k = I a k := fun a k q => hf a k (Or.inl q)
  refine ⟨h1.of (fun k => e 107 k (by unfold mn; omega)), ⟨(e _ _ (by unfold mn; omega)).trans h2, fun j hj => (e _ _ (by unfold mn; omega)).trans (h3 j hj)⟩, ⟨(e _ _ (by unfold mn; omega)).trans h4, fun k hk => (h5 k hk).of (fun k => e 109 k (by unfold mn; omega))⟩, fun i hi => ⟨fun q => (e _ _ (by unfold mn; omega)).trans ((h6 i hi).1 q), fun K q => ⟨(e _ _ (by unfold mn; omega)).trans ((h6 i hi).2 K q).1, ((h6 i hi).2 K q).2.of (fun k => e 110 k (by unfold mn; omega))⟩⟩, (e _ _ (by unfold mn; omega)).trans h7, fun j hj => ⟨(e _ _ (by unfold mn; omega)).trans (h8 j hj).1, (e _ _ (by unfold mn; omega)).trans (h8 j hj).2⟩⟩
theorem frM.scr {I : sm_I} {a k : Nat} {v : Int32} (h : ¬ mn a k ∧ 106 ≤ a) : frM I (up2 I a k v) := by
  intro b j q
  refine up2_x ?_
  rintro ⟨rfl, rfl⟩
  rcases q with q | q
  · exact h.1 q
  · omega
theorem MK.frM {I I' : sm_I} {K : KT} (h : MK I 107 0 K) (hf : frM I I') : MK I' 107 0 K := h.of (fun k => hf 107 k (Or.inl (by unfold mn; omega)))
/-! ===== dips ===== -/
def cg_dp (u : Nat → Nat) (n : Nat) : Nat → Nat → Nat
  | 0, y => y
  | f + 1, y => if n ≤ u y then y else cg_dp u n f (y + 1)
def cg_dip (u : Nat → Nat) (top n : Nat) : Nat := cg_dp u n top 0
theorem cg_dp_le (u : Nat → Nat) (n : Nat) : ∀ f y, cg_dp u n f y ≤ y + f
  | 0, y => Nat.le_refl _
  | f + 1, y => by
    rw [cg_dp]
    split
    · omega
    · have := cg_dp_le u n f (y + 1); omega
theorem cg_dip_le (u : Nat → Nat) (top n : Nat) : cg_dip u top n ≤ top := by have := cg_dp_le u n top 0; unfold cg_dip; omega
/-- a cask's own numbers -/
abbrev cS (K : KT) (c : Nat) : Nat := K.2 c 0
abbrev cU (K : KT) (c y : Nat) : Nat := cg_U (K.2 c 0) (K.2 c 1) (K.2 c 2) (K.2 c 3) y
abbrev cT (K : KT) (c : Nat) : Nat := cg_top (K.2 c 0) (K.2 c 2) (K.2 c 3)
abbrev cH (K : KT) (c : Nat) : Nat := cg_hold (K.2 c 0) (K.2 c 1) (K.2 c 2) (K.2 c 3)
theorem okc.lT {K : KT} {c : Nat} (h : okc (K.2 c)) : cT K c ≤ 40 := cg_top_le h.2.1 h.2.2.2.2.1
theorem okc.lU {K : KT} {c : Nat} (h : okc (K.2 c)) {y : Nat} (hy : y ≤ 40) : cU K c y ≤ 67200 := cg_U_le h.2.1 h.2.2.2.2.1 hy
theorem okc.lH {K : KT} {c : Nat} (h : okc (K.2 c)) : cH K c ≤ 67200 := cg_hold_le h.2.1 h.2.2.2.2.1
theorem okc.w {K : KT} {c : Nat} (h : okc (K.2 c)) : K.2 c 4 ≤ cH K c := by
  rw [show cH K c = cg_hold (K.2 c 0) (K.2 c 1) (K.2 c 2) 1 from cg_hold_one _ _ _ h.2.2.2.2.2.1]
  exact h.2.2.2.2.2.2.2
/-! ===== what the calls that ask answer ===== -/
/-- a height of a cask -/
def sp_h (K : KT) (c y : Int32) : Option (Nat × Nat) := match cg_ix K.1 c with
  | none => none
  | some j => match cg_in 0 (cT K j) y with
    | none => none
    | some q => some (j, q)
def sp_under (K : KT) (c y : Int32) : Int32 := match sp_h K c y with
  | none => -1
  | some q => nI (cU K q.1 q.2)
def sp_dip (K : KT) (c n : Int32) : Int32 := match cg_ix K.1 c with
  | none => -1
  | some j => match cg_in 0 (cH K j) n with
    | none => -1
    | some q => nI (cg_dip (cU K j) (cT K j) q)
def sp_stick (K : KT) (c n k : Int32) : Int32 := match cg_ix K.1 c with
  | none => -1
  | some j => match cg_in 2 9 n with
    | none => -1
    | some p => match cg_in 1 p k with
      | none => -1
      | some q => nI (cg_dip (fun y => cU K j y * p) (cT K j) (cH K j * q))
def sp_known (K : KT) (c y w : Int32) : Int32 := match sp_h K c y with
  | none => -1
  | some q => match cg_in 0 1 w with
    | none => -1
    | some e => if cU K q.1 q.2 < (if q.2 = 0 then 0 else cU K q.1 (q.2 - 1) + 1) then -9 else if e = 0 then nI (if q.2 = 0 then 0 else cU K q.1 (q.2 - 1) + 1) else nI (cU K q.1 q.2)
def sp_slice (K : KT) (c i j : Int32) : Int32 := match cg_ix K.1 c with
  | none => -1
  | some q => match cg_ix (K.2 q 0) i with
    | none => -1
    | some p => if j = -1 then nI (cg_rad (K.2 q 0) (K.2 q 1) (K.2 q 2) p) else match cg_ix (2 * K.2 q 2) j with
      | none => -1
      | some e => nI (cg_cell (K.2 q 0) (K.2 q 1) (K.2 q 2) p e)
