/-! ===== what is done ===== -/
theorem cg_hold_le2 {S H B : Nat} (hS : S ≤ 12) (hB : B ≤ 20) : cg_hold S H B 1 ≤ 20160 := by
  unfold cg_hold cg_U
  have h1 := cg_sum_le (f := cg_row S H B 1) (b := 504) (cg_top S B 1) (fun y _ => by
    have := cg_sum_le (f := fun k => cg_cell S H B k y) S (fun k _ => cg_cell_le S H B k y)
    unfold cg_row
    rw [if_pos rfl]
    omega)
  have h2 := cg_top_le (l := 1) hS hB
  have h3 : cg_top S B 1 * 504 ≤ 40 * 504 := Nat.mul_le_mul_right _ h2
  omega
theorem okc.l2 {K : KT} {c : Nat} (h : okc (K.2 c)) : cH K c ≤ 20160 := by
  rw [show cH K c = cg_hold (K.2 c 0) (K.2 c 1) (K.2 c 2) 1 from cg_hold_one _ _ _ h.2.2.2.2.2.1]
  exact cg_hold_le2 h.2.1 h.2.2.2.2.1
def kset (K : KT) (c f v : Nat) : KT := (K.1, fun c' f' => if c' = c ∧ f' = f then v else K.2 c' f')
theorem kset_1 {K : KT} {c f v : Nat} : (kset K c f v).1 = K.1 := rfl
theorem kset_s {K : KT} {c f v : Nat} : (kset K c f v).2 c f = v := by simp [kset]
theorem kset_x {K : KT} {c f v c' f' : Nat} (h : ¬ (c' = c ∧ f' = f)) : (kset K c f v).2 c' f' = K.2 c' f' := by simp only [kset, if_neg h]
theorem MK.put {I : sm_I} {K : KT} (h : MK I 107 0 K) (hn : K.1 ≤ 4) {c f v : Nat} (hc : c < K.1) (hf : f < 6) : MK (up2 I 107 (6 * c + f) (nI v)) 107 0 (kset K c f v) := by
  refine ⟨(up2_x (by omega)).trans h.1, fun c' f' hc' hf' => ?_⟩
  have hc'' : c' < K.1 := hc'
  by_cases hx : c' = c ∧ f' = f
  · obtain ⟨rfl, rfl⟩ := hx
    rw [Nat.zero_add, up2_s, kset_s]
  · rw [kset_x hx, Nat.zero_add]
    refine (up2_x ?_).trans (h.at0 hc'' hf')
    rintro ⟨-, h2⟩
    apply hx
    omega
theorem CK.put {I : sm_I} {K : KT} {a : Nat} (h : CK I a K) {c f v : Nat} : CK (up2 I (a + 2 + c) f (nI v)) a (kset K c f v) := by
  refine ⟨(up2_x (by omega)).trans h.1, fun c' f' hc' hf' => ?_⟩
  by_cases hx : c' = c ∧ f' = f
  · obtain ⟨rfl, rfl⟩ := hx
    rw [up2_s, kset_s]
  · rw [kset_x hx]
    refine (up2_x ?_).trans (h.2 c' f' hc' hf')
    rintro ⟨h1, h2⟩
    apply hx
    omega
/-- filled, drawn, turned -/
def kfill (K : KT) (c a b : Nat) : KT := kset (kset K c 4 (K.2 c 4 + a)) c 5 (K.2 c 5 + b)
def kgoes (K : KT) (c a : Nat) : Nat := K.2 c 5 * a / K.2 c 4
def kdraw (K : KT) (c a : Nat) : KT := kset (kset K c 4 (K.2 c 4 - a)) c 5 (K.2 c 5 - kgoes K c a)
def kturn (K : KT) (c : Nat) : KT := kset K c 3 (1 - K.2 c 3)
theorem okK.set {K : KT} (h : okK K) {c f v : Nat} (hv : c < K.1 → okc ((kset K c f v).2 c)) : okK (kset K c f v) := by
  refine ⟨h.1, fun c' hc' => ?_⟩
  have hc'' : c' < K.1 := hc'
  by_cases hx : c' = c
  · subst hx; exact hv hc''
  · have : (kset K c f v).2 c' = K.2 c' := by funext f'; exact kset_x (fun z => hx z.1)
    rw [this]
    exact h.2 c' hc''
theorem kset2 (K : KT) (c v w : Nat) : (kset (kset K c 4 v) c 5 w).2 c = fun f => if f = 5 then w else if f = 4 then v else K.2 c f := by
  funext f
  by_cases h5 : f = 5
  · subst h5; simp [kset]
  · by_cases h4 : f = 4
    · subst h4; simp [kset]
    · simp [kset, h5, h4]
theorem okK.set2 {K : KT} (h : okK K) {c v w : Nat} (hc : c < K.1) (h1 : w ≤ v) (h2 : v ≤ cH K c) : okK (kset (kset K c 4 v) c 5 w) := by
  refine ⟨h.1, fun c' hc' => ?_⟩
  have hc'' : c' < K.1 := hc'
  by_cases hx : c' = c
  · subst hx
    rw [kset2]
    have hq := h.2 c' hc
    rw [show cH K c' = cg_hold (K.2 c' 0) (K.2 c' 1) (K.2 c' 2) 1 from cg_hold_one _ _ _ hq.2.2.2.2.2.1] at h2
    obtain ⟨q0, q1, q2, q3, q4, q5, q6, q7⟩ := hq
    exact ⟨by simpa using q0, by simpa using q1, by simpa using q2, by simpa using q3, by simpa using q4, by simpa using q5, by simpa using h1, by simpa using h2⟩
  · have : (kset (kset K c 4 v) c 5 w).2 c' = K.2 c' := by funext f'; rw [kset_x (fun z => hx z.1), kset_x (fun z => hx z.1)]
    rw [this]
    exact h.2 c' hc''
theorem okK.fill {K : KT} (h : okK K) {c a b : Nat} (hc : c < K.1) (ha : a ≤ cH K c - K.2 c 4) (hb : b ≤ a) : okK (kfill K c a b) := by
  have hq := h.2 c hc
  have hw := hq.w
  have h6 := hq.2.2.2.2.2.2.1
  exact h.set2 hc (by omega) (by omega)
theorem kgoes_le {K : KT} {c a : Nat} (hq : okc (K.2 c)) : kgoes K c a ≤ a := by
  have h6 := hq.2.2.2.2.2.2.1
  unfold kgoes
  refine Nat.div_le_of_le_mul ?_
  exact Nat.mul_le_mul_right _ h6
theorem kgoes_le5 {K : KT} {c a : Nat} (ha : a ≤ K.2 c 4) : kgoes K c a ≤ K.2 c 5 := by
  unfold kgoes
  refine Nat.div_le_of_le_mul ?_
  rw [Nat.mul_comm (K.2 c 4)]
  exact Nat.mul_le_mul_left _ ha
theorem kgoes_ge {K : KT} {c a : Nat} (hq : okc (K.2 c)) (ha : a ≤ K.2 c 4) (h1 : 1 ≤ a) : K.2 c 5 - kgoes K c a ≤ K.2 c 4 - a := by
  have h6 := hq.2.2.2.2.2.2.1
  rcases Nat.lt_or_ge (K.2 c 5 + a) (K.2 c 4) with h | h
  · omega
  · have key : K.2 c 5 + a - K.2 c 4 ≤ kgoes K c a := by
      unfold kgoes
      rw [Nat.le_div_iff_mul_le (by omega)]
      obtain ⟨x, hx⟩ : ∃ x, K.2 c 4 = K.2 c 5 + x := ⟨K.2 c 4 - K.2 c 5, by omega⟩
      obtain ⟨y, hy⟩ : ∃ y, a = x + y := ⟨a - x, by omega⟩
      rw [hx, hy, show K.2 c 5 + (x + y) - (K.2 c 5 + x) = y by omega]
      have hy5 : y ≤ K.2 c 5 := by omega
      calc y * (K.2 c 5 + x) = y * K.2 c 5 + y * x := Nat.mul_add _ _ _
        _ ≤ y * K.2 c 5 + K.2 c 5 * x := Nat.add_le_add_left (Nat.mul_le_mul_right _ hy5) _
        _ = K.2 c 5 * (x + y) := by rw [Nat.mul_add, Nat.mul_comm y, Nat.add_comm]
    omega
theorem okK.draw {K : KT} (h : okK K) {c a : Nat} (hc : c < K.1) (h1 : 1 ≤ a) (ha : a ≤ K.2 c 4) : okK (kdraw K c a) := by
  have hq := h.2 c hc
  have hw := hq.w
  have := kgoes_ge hq ha h1
  exact h.set2 hc this (by omega)
theorem okK.turn {K : KT} (h : okK K) {c : Nat} : okK (kturn K c) := by
  refine h.set (fun hc => ?_)
  obtain ⟨q0, q1, q2, q3, q4, q5, q6, q7⟩ := h.2 c hc
  have e : ∀ f, f ≠ 3 → (kset K c 3 (1 - K.2 c 3)).2 c f = K.2 c f := fun f hf => kset_x (fun z => hf z.2)
  refine ⟨?_, ?_, ?_, ?_, ?_, ?_, ?_, ?_⟩
  · rw [e 0 (by decide)]; exact q0
  · rw [e 0 (by decide)]; exact q1
  · rw [e 1 (by decide)]; exact q2
  · rw [e 1 (by decide), e 2 (by decide)]; exact q3
  · rw [e 2 (by decide)]; exact q4
  · rw [kset_s]; omega
  · rw [e 5 (by decide), e 4 (by decide)]; exact q6
  · rw [e 4 (by decide), e 0 (by decide), e 1 (by decide), e 2 (by decide)]; exact q7
/-- what can be undone -/
abbrev PT : Type := Nat × (Nat → KT)
def ppush (P : PT) (K : KT) : PT := if P.1 = 8 then (8, fun k => if k = 7 then K else P.2 (k + 1)) else (P.1 + 1, fun k => if k = P.1 then K else P.2 k)
def st_do (S : ST) (K : KT) : ST := (K, S.2.1, ppush S.2.2.1 S.1, S.2.2.2)
theorem ppush_le {P : PT} {K : KT} (h : P.1 ≤ 8) : (ppush P K).1 ≤ 8 := by unfold ppush; split <;> simp only <;> omega
theorem ppush_ok {P : PT} {K : KT} (h : ∀ k, k < P.1 → okK (P.2 k)) (hK : okK K) (hn : P.1 ≤ 8) : ∀ k, k < (ppush P K).1 → okK ((ppush P K).2 k) := by
  unfold ppush
  split
  · intro k hk
    simp only at hk ⊢
    split
    · exact hK
    · exact h _ (by omega)
  · intro k hk
    simp only at hk ⊢
    split
    · exact hK
    · exact h _ (by omega)
theorem okS.do {S : ST} (h : okS S) {K : KT} (hK : okK K) : okS (st_do S K) := ⟨hK, h.2.1, ⟨ppush_le h.2.2.1.1, ppush_ok h.2.2.1.2 h.1 h.2.2.1.1⟩, h.2.2.2⟩
def MP (I : sm_I) (P : PT) : Prop := I 106 4 = nI P.1 ∧ ∀ k, k < P.1 → MK I 109 (25 * k) (P.2 k)
/-! ===== what the calls that do answer, and leave ===== -/
def sp_fills (S : ST) (c n m : Int32) : Int32 × ST := match cg_ix S.1.1 c with
  | none => (-1, S)
  | some j => match cg_in 1 2147483647 n with
    | none => (-1, S)
    | some a => match cg_in 0 a m with
      | none => (-1, S)
      | some b => if cH S.1 j - S.1.2 j 4 < a then (-3, S) else (nI (S.1.2 j 4 + a), st_do S (kfill S.1 j a b))
def sp_draws (S : ST) (c n : Int32) : Int32 × ST := match cg_ix S.1.1 c with
  | none => (-1, S)
  | some j => match cg_in 1 2147483647 n with
    | none => (-1, S)
    | some a => if S.1.2 j 4 < a then (-2, S) else (nI (S.1.2 j 4 - a), st_do S (kdraw S.1 j a))
def kpour (K : KT) (c e a : Nat) : KT := kset (kset (kdraw K c a) e 4 (K.2 e 4 + a)) e 5 (K.2 e 5 + kgoes K c a)
def sp_pours (S : ST) (c e n : Int32) : Int32 × ST := match cg_ix S.1.1 c with
  | none => (-1, S)
  | some j => match cg_ix S.1.1 e with
    | none => (-1, S)
    | some i => if j = i then (-1, S) else match cg_in 1 2147483647 n with
      | none => (-1, S)
      | some a => if S.1.2 j 4 < a then (-2, S) else if cH S.1 i - S.1.2 i 4 < a then (-3, S) else (nI (S.1.2 i 4 + a), st_do S (kpour S.1 j i a))
def sp_turnsOver (S : ST) (c : Int32) : Int32 × ST := match cg_ix S.1.1 c with
  | none => (-1, S)
  | some j => (nI (1 - S.1.2 j 3), st_do S (kturn S.1 j))
def sp_undo (S : ST) : Int32 × ST := if S.2.2.1.1 = 0 then (-2, S) else (nI (S.2.2.1.1 - 1), (S.2.2.1.2 (S.2.2.1.1 - 1), S.2.1, (S.2.2.1.1 - 1, S.2.2.1.2), S.2.2.2))
theorem okK.pour {K : KT} (h : okK K) {c e a : Nat} (hc : c < K.1) (he : e < K.1) (hne : ¬ c = e) (h1 : 1 ≤ a) (ha : a ≤ K.2 c 4) (hb : a ≤ cH K e - K.2 e 4) : okK (kpour K c e a) := by
  have hd := h.draw hc h1 ha
  have hk : ∀ f, (kdraw K c a).2 e f = K.2 e f := fun f => by unfold kdraw; rw [kset_x (by omega), kset_x (by omega)]
  have hq := h.2 e he
  have hw := hq.w
  have h6 := hq.2.2.2.2.2.2.1
  have hg := kgoes_le (a := a) (h.2 c hc)
  refine hd.set2 he (by omega) ?_
  rw [show cH (kdraw K c a) e = cH K e by unfold cH; rw [hk, hk, hk, hk]]
  omega
