/-! ===== the text ===== -/
abbrev TX : Type := Nat × (Nat → Nat)
def isD (x : Nat) : Bool := decide (48 ≤ x) && decide (x ≤ 57)
def isL (x : Nat) : Bool := decide (97 ≤ x) && decide (x ≤ 122)
theorem isD_t {x : Nat} : isD x = true ↔ 48 ≤ x ∧ x ≤ 57 := by unfold isD; simp
theorem isL_t {x : Nat} : isL x = true ↔ 97 ≤ x ∧ x ≤ 122 := by unfold isL; simp
def isB (x : Nat) : Bool := decide (x = 32)
theorem isB_t {x : Nat} : isB x = true ↔ x = 32 := by unfold isB; simp
def tx_run (T : TX) (P : Nat → Bool) : Nat → Nat → Nat
  | 0, p => p
  | f + 1, p => if p < T.1 ∧ P (T.2 p) = true then tx_run T P f (p + 1) else p
theorem tx_run_ge (T : TX) (P : Nat → Bool) : ∀ f p, p ≤ tx_run T P f p
  | 0, p => Nat.le_refl _
  | f + 1, p => by
    rw [tx_run]
    split
    · have := tx_run_ge T P f (p + 1); omega
    · exact Nat.le_refl _
theorem tx_run_le (T : TX) (P : Nat → Bool) : ∀ f p, p ≤ T.1 → tx_run T P f p ≤ T.1
  | 0, p, h => h
  | f + 1, p, h => by
    rw [tx_run]
    split
    · exact tx_run_le T P f (p + 1) (by omega)
    · exact h
theorem tx_run_in (T : TX) (P : Nat → Bool) : ∀ f p k, p ≤ k → k < tx_run T P f p → k < T.1 ∧ P (T.2 k) = true
  | 0, p, k, h1, h2 => by rw [tx_run] at h2; omega
  | f + 1, p, k, h1, h2 => by
    rw [tx_run] at h2
    split at h2
    · rename_i hc
      rcases Nat.lt_or_ge p k with h3 | h3
      · exact tx_run_in T P f (p + 1) k h3 h2
      · rw [show k = p by omega]; exact hc
    · omega
theorem tx_run_end (T : TX) (P : Nat → Bool) : ∀ f p, T.1 ≤ p + f → ¬ (tx_run T P f p < T.1 ∧ P (T.2 (tx_run T P f p)) = true)
  | 0, p, h => by rw [tx_run]; omega
  | f + 1, p, h => by
    rw [tx_run]
    split
    · exact tx_run_end T P f (p + 1) (by omega)
    · rename_i hc; exact hc
theorem tx_run_step {T : TX} {P : Nat → Bool} {f p : Nat} (h1 : p < T.1) (h2 : P (T.2 p) = true) : tx_run T P (f + 1) p = tx_run T P f (p + 1) := by rw [tx_run, if_pos ⟨h1, h2⟩]
theorem tx_run_stop {T : TX} {P : Nat → Bool} {f p : Nat} (h : ¬ (p < T.1 ∧ P (T.2 p) = true)) : tx_run T P (f + 1) p = p := by rw [tx_run, if_neg h]
/-- the next token's place -/
def nx (T : TX) (p : Nat) : Nat := tx_run T isB 60 p
/-- where the token at s ends -/
def te (T : TX) (s : Nat) : Nat := if s < T.1 then (if isD (T.2 s) = true then tx_run T isD 60 s else if isL (T.2 s) = true then tx_run T isL 60 s else s + 1) else s
def nvl (T : TX) : Nat → Nat → Nat → Nat
  | 0, _, a => a
  | f + 1, p, a => if p < T.1 ∧ isD (T.2 p) = true then nvl T f (p + 1) (if 99 < a then a else 10 * a + T.2 p - 48) else a
def tv (T : TX) (s : Nat) : Nat := nvl T 60 s 0
def isCaskW (T : TX) (s : Nat) : Prop := te T s - s = 4 ∧ T.2 s = 99 ∧ T.2 (s + 1) = 97 ∧ T.2 (s + 2) = 115 ∧ T.2 (s + 3) = 107
def isStandsW (T : TX) (s : Nat) : Prop := te T s - s = 6 ∧ T.2 s = 115 ∧ T.2 (s + 1) = 116 ∧ T.2 (s + 2) = 97 ∧ T.2 (s + 3) = 110 ∧ T.2 (s + 4) = 100 ∧ T.2 (s + 5) = 115
def tk (T : TX) (s : Nat) : Nat := if s < T.1 then (if isD (T.2 s) = true then (if 2 < te T s - s ∨ (te T s - s = 2 ∧ T.2 s = 48) then 5 else 3) else if isL (T.2 s) = true then (if te T s - s = 4 ∧ T.2 s = 99 ∧ T.2 (s + 1) = 97 ∧ T.2 (s + 2) = 115 ∧ T.2 (s + 3) = 107 then 1 else if te T s - s = 6 ∧ T.2 s = 115 ∧ T.2 (s + 1) = 116 ∧ T.2 (s + 2) = 97 ∧ T.2 (s + 3) = 110 ∧ T.2 (s + 4) = 100 ∧ T.2 (s + 5) = 115 then 2 else 5) else if T.2 s = 59 then 4 else 5) else 0
theorem nvl_le (T : TX) (hT : ∀ j, j < T.1 → T.2 j < 256) : ∀ f p a, a ≤ 999 → nvl T f p a ≤ 999
  | 0, _, a, h => h
  | f + 1, p, a, h => by
    rw [nvl]
    split
    · rename_i hc
      have hd := isD_t.mp hc.2
      refine nvl_le T hT f (p + 1) _ ?_
      split <;> omega
    · exact h
theorem te_gt {T : TX} {s : Nat} (h : s < T.1) : s < te T s := by
  unfold te
  rw [if_pos h]
  split
  · rename_i hd
    rw [tx_run_step h hd]
    exact tx_run_ge T isD 59 (s + 1)
  · split
    · rename_i hl
      rw [tx_run_step h hl]
      exact tx_run_ge T isL 59 (s + 1)
    · omega
theorem te_le {T : TX} {s : Nat} (h : s ≤ T.1) : te T s ≤ T.1 := by
  unfold te
  split
  · split
    · exact tx_run_le T isD 60 s h
    · split
      · exact tx_run_le T isL 60 s h
      · omega
  · exact h
theorem nx_ge (T : TX) (p : Nat) : p ≤ nx T p := tx_run_ge T isB 60 p
theorem nx_le {T : TX} {p : Nat} (h : p ≤ T.1) : nx T p ≤ T.1 := tx_run_le T isB 60 p h
/-- the token behind the one at s -/
def px (T : TX) (s : Nat) : Nat := nx T (te T s)
theorem px_le {T : TX} {s : Nat} (h : s ≤ T.1) : px T s ≤ T.1 := nx_le (te_le h)
theorem px_gt {T : TX} {s : Nat} (h : s < T.1) : s < px T s := Nat.lt_of_lt_of_le (te_gt h) (nx_ge T _)
theorem tk_0 {T : TX} {s : Nat} : tk T s = 0 ↔ ¬ s < T.1 := by
  unfold tk
  constructor
  · intro h hs
    rw [if_pos hs] at h
    split at h
    · split at h <;> omega
    · split at h
      · split at h
        · omega
        · split at h <;> omega
      · split at h <;> omega
  · intro h
    rw [if_neg h]
def numOK (T : TX) (s lo hi : Nat) : Prop := tk T s = 3 ∧ lo ≤ tv T s ∧ tv T s < hi
def kpush (K : KT) (S H B : Nat) : KT := (K.1 + 1, fun c f => if c = K.1 then (if f = 0 then S else if f = 1 then H else if f = 2 then B else if f = 3 then 1 else 0) else K.2 c f)
def pr (T : TX) : Nat → Nat → KT → Nat → Nat ⊕ (Nat × KT)
  | 0, _, K, n => .inr (n, K)
  | f + 1, s, K, n => if tk T s = 0 then .inr (n, K) else if tk T s = 1 then
      (if ¬ K.1 < 4 then .inl s else if ¬ (tk T (px T s) = 3 ∧ 1 ≤ tv T (px T s) ∧ tv T (px T s) < 13) then .inl (px T s) else if ¬ (tk T (px T (px T s)) = 3 ∧ 1 ≤ tv T (px T (px T s)) ∧ tv T (px T (px T s)) < 21) then .inl (px T (px T s)) else if ¬ (tk T (px T (px T (px T s))) = 3 ∧ tv T (px T (px T s)) ≤ tv T (px T (px T (px T s))) ∧ tv T (px T (px T (px T s))) < 21) then .inl (px T (px T (px T s))) else if tk T (px T (px T (px T (px T s)))) = 4 then pr T f (px T (px T (px T (px T (px T s))))) (kpush K (tv T (px T s)) (tv T (px T (px T s))) (tv T (px T (px T (px T s))))) (n + 1) else .inl (px T (px T (px T (px T s)))))
    else if tk T s = 2 then (if ¬ (tk T (px T s) = 3 ∧ 0 ≤ tv T (px T s) ∧ tv T (px T s) < K.1) then .inl (px T s) else if tk T (px T (px T s)) = 4 then pr T f (px T (px T (px T s))) (kset K (tv T (px T s)) 3 0) (n + 1) else .inl (px T (px T s)))
    else .inl s
def kzero : KT := (0, fun _ _ => 0)
def sp_tells (S : ST) : Int32 × ST := match pr S.2.1 61 (nx S.2.1 0) kzero 0 with
  | .inl f => (-10 - nI f, S)
  | .inr q => (nI q.1, (q.2, (0, S.2.1.2), ppush S.2.2.1 S.1, S.2.2.2))
/-- a row of casks that a text told -/
def okT (K : KT) : Prop := okK K ∧ ∀ c, c < K.1 → K.2 c 4 = 0 ∧ K.2 c 5 = 0
theorem okT.push {K : KT} (h : okT K) (h4 : K.1 < 4) {S H B : Nat} (h1 : 1 ≤ S ∧ S < 13) (h2 : 1 ≤ H) (h3 : H ≤ B) (h5 : B < 21) : okT (kpush K S H B) := by
  have e : ∀ c, c < K.1 → (kpush K S H B).2 c = K.2 c := fun c hc => by funext f; simp only [kpush, if_neg (show ¬ c = K.1 by omega)]
  refine ⟨⟨by show K.1 + 1 ≤ 4; omega, fun c hc => ?_⟩, fun c hc => ?_⟩
  · have hc' : c < K.1 + 1 := hc
    by_cases hx : c = K.1
    · subst hx
      refine ⟨?_, ?_, ?_, ?_, ?_, ?_, ?_, ?_⟩ <;> simp [kpush] <;> omega
    · rw [e c (by omega)]
      exact h.1.2 c (by omega)
  · have hc' : c < K.1 + 1 := hc
    by_cases hx : c = K.1
    · subst hx; simp [kpush]
    · rw [e c (by omega)]
      exact h.2 c (by omega)
theorem okT.stands {K : KT} (h : okT K) {c : Nat} : okT (kset K c 3 0) := by
  have e : ∀ c' f, f ≠ 3 → (kset K c 3 0).2 c' f = K.2 c' f := fun c' f hf => kset_x (fun z => hf z.2)
  refine ⟨h.1.set (fun hc => ?_), fun c' hc' => ?_⟩
  · obtain ⟨q0, q1, q2, q3, q4, q5, q6, q7⟩ := h.1.2 c hc
    refine ⟨?_, ?_, ?_, ?_, ?_, ?_, ?_, ?_⟩
    · rw [e _ 0 (by decide)]; exact q0
    · rw [e _ 0 (by decide)]; exact q1
    · rw [e _ 1 (by decide)]; exact q2
    · rw [e _ 1 (by decide), e _ 2 (by decide)]; exact q3
    · rw [e _ 2 (by decide)]; exact q4
    · rw [kset_s]; omega
    · rw [e _ 5 (by decide), e _ 4 (by decide)]; exact q6
    · rw [e _ 4 (by decide), e _ 0 (by decide), e _ 1 (by decide), e _ 2 (by decide)]; exact q7
  · rw [e _ 4 (by decide), e _ 5 (by decide)]
    exact h.2 c' hc'
theorem pr_ok (T : TX) : ∀ f s K n q, okT K → pr T f s K n = .inr q → okT q.2
  | 0, s, K, n, q, hK, h => by rw [pr] at h; cases h; exact hK
  | f + 1, s, K, n, q, hK, h => by
    rw [pr] at h
    split at h
    · cases h; exact hK
    · split at h
      · split at h
        · cases h
        · rename_i h4
          split at h
          · cases h
          · rename_i n1
            split at h
            · cases h
            · rename_i n2
              split at h
              · cases h
              · rename_i n3
                split at h
                · refine pr_ok T f _ _ _ q ?_ h
                  rw [Classical.not_not] at h4 n1 n2 n3
                  exact hK.push h4 ⟨n1.2.1, n1.2.2⟩ n2.2.1 n3.2.1 n3.2.2
                · cases h
      · split at h
        · split at h
          · cases h
          · split at h
            · exact pr_ok T f _ _ _ q hK.stands h
            · cases h
        · cases h
theorem kzero_ok : okT kzero := ⟨⟨Nat.zero_le _, fun c hc => absurd hc (Nat.not_lt_zero c)⟩, fun c hc => absurd hc (Nat.not_lt_zero c)⟩
theorem b255 : ∀ x, x < 256 → (nI x).toInt8.toInt32 &&& nI 255 = nI x := by decide +kernel
