/-! ===== the text, as the class splits it ===== -/
def goes (T : TX) (j : Nat) : Prop := 1 ≤ j ∧ j < T.1 ∧ ((isL (T.2 j) = true ∧ isL (T.2 (j - 1)) = true) ∨ (isD (T.2 j) = true ∧ isD (T.2 (j - 1)) = true))
theorem DL {x : Nat} (h : isD x = true) : ¬ isL x = true := fun q => by
  have h1 := isD_t.mp h
  have h2 := isL_t.mp q
  omega
theorem BL {x : Nat} (h : isB x = true) : ¬ isL x = true ∧ ¬ isD x = true := by
  have h1 := isB_t.mp h
  exact ⟨fun q => by have h2 := isL_t.mp q; omega, fun q => by have h2 := isD_t.mp q; omega⟩
theorem te_D {T : TX} {s : Nat} (hs : s < T.1) (hd : isD (T.2 s) = true) : te T s = tx_run T isD 60 s := by unfold te; rw [if_pos hs, if_pos hd]
theorem te_L {T : TX} {s : Nat} (hs : s < T.1) (hd : ¬ isD (T.2 s) = true) (hl : isL (T.2 s) = true) : te T s = tx_run T isL 60 s := by unfold te; rw [if_pos hs, if_neg hd, if_pos hl]
theorem te_O {T : TX} {s : Nat} (hs : s < T.1) (hd : ¬ isD (T.2 s) = true) (hl : ¬ isL (T.2 s) = true) : te T s = s + 1 := by unfold te; rw [if_pos hs, if_neg hd, if_neg hl]
/-- within a token letters go on -/
theorem goes_in {T : TX} {s j : Nat} (hs : s < T.1) (h1 : s < j) (h2 : j < te T s) : goes T j := by
  by_cases hd : isD (T.2 s) = true
  · rw [te_D hs hd] at h2
    have a1 := tx_run_in T isD 60 s j (by omega) h2
    have a2 := tx_run_in T isD 60 s (j - 1) (by omega) (by omega)
    exact ⟨by omega, a1.1, Or.inr ⟨a1.2, a2.2⟩⟩
  · by_cases hl : isL (T.2 s) = true
    · rw [te_L hs hd hl] at h2
      have a1 := tx_run_in T isL 60 s j (by omega) h2
      have a2 := tx_run_in T isL 60 s (j - 1) (by omega) (by omega)
      exact ⟨by omega, a1.1, Or.inl ⟨a1.2, a2.2⟩⟩
    · rw [te_O hs hd hl] at h2
      omega
/-- behind a token no letter goes on -/
theorem goes_te {T : TX} (h60 : T.1 ≤ 60) {s : Nat} (hs : s < T.1) : ¬ goes T (te T s) := by
  rintro ⟨g1, g2, g3⟩
  have hgt := te_gt hs
  by_cases hd : isD (T.2 s) = true
  · have e := te_D hs hd
    have a1 := tx_run_in T isD 60 s (te T s - 1) (by omega) (by omega)
    have a2 := tx_run_end T isD 60 s (by omega)
    rw [← e] at a2
    rcases g3 with g | g
    · exact DL a1.2 g.2
    · exact a2 ⟨g2, g.1⟩
  · by_cases hl : isL (T.2 s) = true
    · have e := te_L hs hd hl
      have a1 := tx_run_in T isL 60 s (te T s - 1) (by omega) (by omega)
      have a2 := tx_run_end T isL 60 s (by omega)
      rw [← e] at a2
      rcases g3 with g | g
      · exact a2 ⟨g2, g.1⟩
      · exact DL g.2 a1.2
    · have e := te_O hs hd hl
      rw [e, Nat.add_sub_cancel] at g3
      rcases g3 with g | g
      · exact hl g.2
      · exact hd g.2
/-- a token's place -/
def PG (T : TX) (s : Nat) : Prop := s ≤ T.1 ∧ (s < T.1 → ¬ T.2 s = 32 ∧ ¬ goes T s)
theorem PG_nx {T : TX} (h60 : T.1 ≤ 60) {p : Nat} (hp : p ≤ T.1) (hg : ¬ goes T p) : PG T (nx T p) := by
  refine ⟨nx_le hp, fun hs => ⟨fun e => ?_, fun g => ?_⟩⟩
  · exact tx_run_end T isB 60 p (by omega) ⟨hs, isB_t.mpr e⟩
  · have hge := nx_ge T p
    by_cases hx : nx T p = p
    · rw [hx] at g; exact hg g
    · have a := tx_run_in T isB 60 p (nx T p - 1) (by omega) (by show nx T p - 1 < nx T p; omega)
      have b := BL a.2
      rcases g.2.2 with q | q
      · exact b.1 q.2
      · exact b.2 q.2
theorem PG_zero {T : TX} (h60 : T.1 ≤ 60) : PG T (nx T 0) := PG_nx h60 (Nat.zero_le _) (fun g => absurd g.1 (by omega))
theorem PG_px {T : TX} (h60 : T.1 ≤ 60) {s : Nat} (hs : s < T.1) : PG T (px T s) := PG_nx h60 (te_le (Nat.le_of_lt hs)) (goes_te h60 hs)
/-- between two tokens' places no token starts -/
theorem between {T : TX} {s j : Nat} (hs : s < T.1) (h1 : s < j) (h2 : j < px T s) : T.2 j = 32 ∨ goes T j := by
  rcases Nat.lt_or_ge j (te T s) with h | h
  · exact Or.inr (goes_in hs h1 h)
  · have a := tx_run_in T isB 60 (te T s) j h h2
    exact Or.inl (isB_t.mp a.2)
theorem ahead {T : TX} {j : Nat} (h2 : j < nx T 0) : T.2 j = 32 := isB_t.mp (tx_run_in T isB 60 0 j (Nat.zero_le _) h2).2
theorem px_end {T : TX} : px T T.1 = T.1 := by
  unfold px
  rw [show te T T.1 = T.1 by unfold te; rw [if_neg (Nat.lt_irrefl _)]]
  have h1 := nx_ge T T.1
  have h2 := nx_le (T := T) (Nat.le_refl T.1)
  omega
/-- the tokens' places, in their order -/
def sq (T : TX) : Nat → Nat
  | 0 => nx T 0
  | q + 1 => px T (sq T q)
theorem sq_le (T : TX) : ∀ q, sq T q ≤ T.1
  | 0 => nx_le (Nat.zero_le _)
  | q + 1 => px_le (sq_le T q)
theorem sq_PG {T : TX} (h60 : T.1 ≤ 60) : ∀ q, PG T (sq T q)
  | 0 => PG_zero h60
  | q + 1 => by
    rcases Nat.lt_or_ge (sq T q) T.1 with h | h
    · exact PG_px h60 h
    · have e : sq T q = T.1 := Nat.le_antisymm (sq_le T q) h
      show PG T (px T (sq T q))
      rw [e, px_end]
      exact ⟨Nat.le_refl _, fun h => absurd h (Nat.lt_irrefl _)⟩
theorem sq_ge {T : TX} : ∀ q, sq T q < T.1 → q ≤ sq T q
  | 0, _ => Nat.zero_le _
  | q + 1, h => by
    rcases Nat.lt_or_ge (sq T q) T.1 with h1 | h1
    · have := sq_ge q h1
      have := px_gt h1
      show q + 1 ≤ px T (sq T q)
      omega
    · have e : sq T q = T.1 := Nat.le_antisymm (sq_le T q) h1
      have h2 : px T (sq T q) < T.1 := h
      rw [e, px_end] at h2
      omega
/-- two figures' value -/
def v2 (T : TX) (s : Nat) : Nat := if te T s = s + 1 then T.2 s - 48 else 10 * (T.2 s - 48) + T.2 (s + 1) - 48
theorem tk3_len {T : TX} {s : Nat} (h : tk T s = 3) : s < T.1 ∧ isD (T.2 s) = true ∧ te T s - s ≤ 2 := by
  unfold tk at h
  split at h
  · rename_i h1
    split at h
    · rename_i h2
      split at h
      · omega
      · exact ⟨h1, h2, by omega⟩
    · split at h
      · split at h
        · omega
        · split at h <;> omega
      · split at h <;> omega
  · omega
theorem tv_v2 {T : TX} (h60 : T.1 ≤ 60) {s : Nat} (h : tk T s = 3) : tv T s = v2 T s := by
  obtain ⟨hs, hd, hl⟩ := tk3_len h
  have hgt := te_gt hs
  have e := te_D hs hd
  have hdd := isD_t.mp hd
  unfold tv
  rw [show (60 : Nat) = 59 + 1 from rfl, nvl, if_pos ⟨hs, hd⟩, if_neg (by omega)]
  have hend := tx_run_end T isD 60 s (by omega)
  rw [← e] at hend
  unfold v2
  by_cases h1 : te T s = s + 1
  · rw [if_pos h1, show (59 : Nat) = 58 + 1 from rfl, nvl, if_neg (by rw [h1] at hend; exact hend)]
    omega
  · have h2 : te T s = s + 2 := by omega
    have a := tx_run_in T isD 60 s (s + 1) (by omega) (by rw [← e]; omega)
    have hdd2 := isD_t.mp a.2
    rw [if_neg h1, show (59 : Nat) = 58 + 1 from rfl, nvl, if_pos a, if_neg (by omega), show (58 : Nat) = 57 + 1 from rfl, nvl, if_neg (by rw [h2] at hend; exact hend)]
    omega
theorem v2_le {T : TX} {s : Nat} (hs : s < T.1) (hd : isD (T.2 s) = true) : v2 T s ≤ 99 := by
  have e := te_D hs hd
  have hgt := te_gt hs
  have hdd := isD_t.mp hd
  unfold v2
  split
  · omega
  · have a := tx_run_in T isD 60 s (s + 1) (by omega) (by rw [← e]; omega)
    have hdd2 := isD_t.mp a.2
    omega
