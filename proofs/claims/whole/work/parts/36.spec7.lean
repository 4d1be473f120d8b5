/-! ===== ask: what the class does ===== -/
theorem ld_skip (u : Nat → Nat) (m : Nat) : ∀ (k f y : Nat), (∀ q, y ≤ q → q < y + k → u q < m) → ld u m (f + k) y = ld u m f (y + k)
  | 0, f, y, _ => rfl
  | k + 1, f, y, h => by
    rw [show f + (k + 1) = (f + k) + 1 by omega, ld, if_neg (by have := h y (by omega) (by omega); omega), ld_skip u m k f (y + 1) (fun q h1 h2 => h q (by omega) (by omega)), show y + 1 + k = y + (k + 1) by omega]
theorem cg_dp_lt (u : Nat → Nat) (n : Nat) : ∀ f y q, y ≤ q → q < cg_dp u n f y → u q < n
  | 0, y, q, h1, h2 => by rw [cg_dp] at h2; omega
  | f + 1, y, q, h1, h2 => by
    rw [cg_dp] at h2
    by_cases h : n ≤ u y
    · rw [if_pos h] at h2; omega
    · rw [if_neg h] at h2
      by_cases hx : q = y
      · subst hx; omega
      · exact cg_dp_lt u n f (y + 1) q (by omega) h2
theorem dv_ld (K : KT) (n c : Nat) : ld (uL K c) n (tL K c + 1) 0 = dv K n c := by
  rw [ld_eq (u := uL K c) (fun a b h => cg_U_mono h)]
  unfold dv dL
  by_cases h : n ≤ uL K c (tL K c)
  · rw [if_pos h, if_neg (show ¬ hL K c < n from Nat.not_lt.mpr h)]
  · rw [if_neg h, if_pos (show hL K c < n from Nat.not_le.mp h)]
theorem dv_le {K : KT} {n c : Nat} (hq : okc (K.2 c)) : dv K n c ≤ 41 := by
  have := dL_le (n := n) hq
  unfold dv
  split <;> omega
theorem dv_41 {K : KT} {n c : Nat} (hq : okc (K.2 c)) (h : dv K n c = 41) : dv K (n + 1) c = 41 := by
  have h1 := dL_le (n := n) hq
  unfold dv at h
  split at h
  · rename_i h2
    unfold dv
    rw [if_pos (Nat.lt_succ_of_lt h2)]
  · omega
theorem dv_next {K : KT} {n c : Nat} (h : ¬ dv K n c = 41) : dv K n c ≤ tL K c ∧ ld (uL K c) (n + 1) (tL K c + 1 - dv K n c) (dv K n c) = dv K (n + 1) c := by
  have e : dv K n c = dL K c n := by
    unfold dv at h ⊢
    split
    · rename_i h2; rw [if_pos h2] at h; exact absurd rfl h
    · rfl
  rw [e]
  have hle : dL K c n ≤ tL K c := cg_dip_le _ _ _
  refine ⟨hle, ?_⟩
  rw [← dv_ld K (n + 1) c]
  have hs := ld_skip (uL K c) (n + 1) (dL K c n) (tL K c + 1 - dL K c n) 0 (fun q _ h2 => Nat.lt_succ_of_lt (cg_dp_lt (uL K c) n (tL K c) 0 q (Nat.zero_le q) (by rw [Nat.zero_add] at h2; exact h2)))
  rw [Nat.zero_add, Nat.sub_add_cancel (by omega)] at hs
  exact hs.symm
theorem dv_0 (K : KT) (c : Nat) : dv K 0 c = 0 := by
  unfold dv dL cg_dip
  rw [if_neg (Nat.not_lt_zero _)]
  cases tL K c with
  | zero => rfl
  | succ f => rw [cg_dp, if_pos (Nat.zero_le _)]
def AV (K : KT) (n c : Nat) : Nat := if c < K.1 then dv K n c else 0
theorem AV_le {K : KT} (hok : okK K) (n c : Nat) : AV K n c ≤ 41 := by
  unfold AV
  split
  · rename_i h; exact dv_le (hok.2 c h)
  · omega
theorem AV_0 (K : KT) (c : Nat) : AV K 0 c = 0 := by
  unfold AV
  split
  · exact dv_0 K c
  · rfl
def ma_bit (b : Nat) (A : Nat → Nat) (c d : Nat) : Nat := if (b / 2 ^ c % 2 = 1 ∧ b / 2 ^ d % 2 = 1) ∧ A c = A d then 1 else 0
def ma_in (b : Nat) (A : Nat → Nat) (c : Nat) : Nat → Nat
  | 0 => 0
  | d + 1 => ma_in b A c d + ma_bit b A c d
def ma_out (b : Nat) (A : Nat → Nat) : Nat → Nat
  | 0 => 0
  | c + 1 => max (ma_out b A c) (ma_in b A c 4)
theorem ma_in_le (b : Nat) (A : Nat → Nat) (c : Nat) : ∀ d, ma_in b A c d ≤ d
  | 0 => Nat.le_refl _
  | d + 1 => by
    have := ma_in_le b A c d
    rw [ma_in]
    unfold ma_bit
    split <;> omega
theorem ma_out_le (b : Nat) (A : Nat → Nat) : ∀ c, ma_out b A c ≤ 4
  | 0 => Nat.zero_le _
  | c + 1 => by
    have h1 := ma_out_le b A c
    have h2 := ma_in_le b A c 4
    rw [ma_out]
    omega
theorem bit0 {b n c : Nat} (hb : b < 2 ^ n) (h : n ≤ c) : b / 2 ^ c = 0 := Nat.div_eq_of_lt (Nat.lt_of_lt_of_le hb (Nat.pow_le_pow_right (by decide) h))
theorem ma_in0 {b : Nat} {A : Nat → Nat} {c : Nat} (h : b / 2 ^ c = 0) : ∀ d, ma_in b A c d = 0
  | 0 => rfl
  | d + 1 => by
    rw [ma_in, ma_in0 h d]
    unfold ma_bit
    rw [h, if_neg (by omega)]
theorem ma_in_eq {K : KT} {b n c : Nat} {A : Nat → Nat} (hA : ∀ d, d < K.1 → A d = dv K n d) (hc : c < K.1) : ∀ d, d ≤ K.1 → ma_in b A c d = al_in K b n c d
  | 0, _ => rfl
  | d + 1, hd => by
    rw [ma_in, al_in, ma_in_eq hA hc d (by omega)]
    unfold ma_bit al_bit
    rw [hA c hc, hA d (by omega)]
    simp only [and_assoc]
theorem ma_in_up {b n : Nat} {A : Nat → Nat} {c : Nat} (hb : b < 2 ^ n) : ∀ k, ma_in b A c (n + k) = ma_in b A c n
  | 0 => rfl
  | k + 1 => by
    rw [show n + (k + 1) = (n + k) + 1 by omega, ma_in, ma_in_up hb k]
    unfold ma_bit
    rw [bit0 hb (Nat.le_add_right n k), if_neg (by omega), Nat.add_zero]
theorem ma_out_eq {K : KT} {b n : Nat} {A : Nat → Nat} (hn : K.1 ≤ 4) (hb : b < 2 ^ K.1) (hA : ∀ d, d < K.1 → A d = dv K n d) : ∀ c, c ≤ K.1 → ma_out b A c = al_out K b n c
  | 0, _ => rfl
  | c + 1, hc => by
    rw [ma_out, al_out, ma_out_eq hn hb hA c (by omega), ← ma_in_eq (b := b) hA (show c < K.1 by omega) K.1 (Nat.le_refl _)]
    have h := ma_in_up (A := A) (c := c) hb (4 - K.1)
    rw [show K.1 + (4 - K.1) = 4 by omega] at h
    rw [h]
theorem ma_out_up {b n : Nat} {A : Nat → Nat} (hb : b < 2 ^ n) : ∀ k, ma_out b A (n + k) = ma_out b A n
  | 0 => rfl
  | k + 1 => by
    rw [show n + (k + 1) = (n + k) + 1 by omega, ma_out, ma_out_up hb k, ma_in0 (bit0 hb (Nat.le_add_right n k)), Nat.max_eq_left (Nat.zero_le _)]
theorem ma_al {K : KT} {b n : Nat} {A : Nat → Nat} (hn : K.1 ≤ 4) (hb : b < 2 ^ K.1) (hA : ∀ d, d < K.1 → A d = dv K n d) : ma_out b A 4 = al_out K b n K.1 := by
  have h := ma_out_up (A := A) hb (4 - K.1)
  rw [show K.1 + (4 - K.1) = 4 by omega] at h
  rw [h]
  exact ma_out_eq hn hb hA K.1 (Nat.le_refl _)
theorem al_in_congr {K : KT} {b n m c : Nat} (h : ∀ d, d < K.1 → dv K n d = dv K m d) (hc : c < K.1) : ∀ d, d ≤ K.1 → al_in K b n c d = al_in K b m c d
  | 0, _ => rfl
  | d + 1, hd => by
    rw [al_in, al_in, al_in_congr h hc d (by omega)]
    unfold al_bit
    rw [h c hc, h d (by omega)]
theorem al_congr {K : KT} {b n m : Nat} (h : ∀ d, d < K.1 → dv K n d = dv K m d) : ∀ c, c ≤ K.1 → al_out K b n c = al_out K b m c
  | 0, _ => rfl
  | c + 1, hc => by rw [al_out, al_out, al_congr h c (by omega), al_in_congr h (by omega) K.1 (Nat.le_refl _)]
theorem al_in_mono (K : KT) (b n c : Nat) : ∀ d e, d ≤ e → al_in K b n c d ≤ al_in K b n c e
  | d, 0, h => by rw [Nat.le_zero.mp h]; exact Nat.le_refl _
  | d, e + 1, h => by
    by_cases hx : d = e + 1
    · rw [hx]; exact Nat.le_refl _
    · exact Nat.le_trans (al_in_mono K b n c d e (by omega)) (by rw [al_in]; exact Nat.le_add_right _ _)
theorem al_out_mono (K : KT) (b n : Nat) : ∀ d e, d ≤ e → al_out K b n d ≤ al_out K b n e
  | d, 0, h => by rw [Nat.le_zero.mp h]; exact Nat.le_refl _
  | d, e + 1, h => by
    by_cases hx : d = e + 1
    · rw [hx]; exact Nat.le_refl _
    · exact Nat.le_trans (al_out_mono K b n d e (by omega)) (by rw [al_out]; exact Nat.le_max_left _ _)
theorem al_pos {K : KT} {b n c : Nat} (hc : c < K.1) (hb : b / 2 ^ c % 2 = 1) : 1 ≤ al_out K b n K.1 := by
  have h1 : 1 ≤ al_in K b n c (c + 1) := by
    rw [al_in]
    unfold al_bit
    rw [if_pos ⟨hb, hb, rfl⟩]
    omega
  have h2 := al_in_mono K b n c (c + 1) K.1 (by omega)
  have h3 := al_out_mono K b n (c + 1) K.1 (by omega)
  rw [al_out] at h3
  have h4 := Nat.le_max_right (al_out K b n c) (al_in K b n c K.1)
  omega
theorem pc_bit : ∀ b, b < 16 → 1 < pc4 b → ∃ c, c < 4 ∧ b / 2 ^ c % 2 = 1 := by
  intro b hb h
  unfold pc4 at h
  by_cases h0 : b % 2 = 1
  · exact ⟨0, by omega, by omega⟩
  by_cases h1 : b / 2 % 2 = 1
  · exact ⟨1, by omega, by omega⟩
  by_cases h2 : b / 4 % 2 = 1
  · exact ⟨2, by omega, by omega⟩
  · exact ⟨3, by omega, by omega⟩
theorem al_one {K : KT} {b n : Nat} (hn : K.1 ≤ 4) (hb : b < 2 ^ K.1) (h : 1 < pc4 b) : 1 ≤ al_out K b n K.1 := by
  have h16 : b < 16 := Nat.lt_of_lt_of_le hb (Nat.pow_le_pow_right (by decide) hn)
  obtain ⟨c, hc, hbit⟩ := pc_bit b h16 h
  rcases Nat.lt_or_ge c K.1 with hx | hx
  · exact al_pos hx hbit
  · rw [bit0 hb hx] at hbit; omega
theorem ak_stay {K : KT} {b : Nat} (h1 : ∀ n, 1 ≤ al_out K b n K.1) {n : Nat} (h : (ak K b n).2 ≤ 1) : ∀ k, ak K b (n + k) = ak K b n
  | 0 => rfl
  | k + 1 => by
    rw [show n + (k + 1) = (n + k) + 1 by omega, ak, ak_stay h1 h k, if_neg (by have := h1 (n + k); omega)]
theorem ak_last (K : KT) (b n : Nat) : (ak K b (n + 1)).2 ≤ al_out K b n K.1 := by
  rw [ak]
  split
  · exact Nat.le_refl _
  · omega
theorem ak_same {K : KT} {b n : Nat} (h : al_out K b (n + 1) K.1 = al_out K b n K.1) : ak K b (n + 2) = ak K b (n + 1) := by
  rw [show n + 2 = (n + 1) + 1 by omega, ak, if_neg (by have := ak_last K b n; omega)]
theorem ak_1 {K : KT} {b : Nat} (hn : K.1 ≤ 4) : ak K b 1 = (some 0, al_out K b 0 K.1) := by
  have h := al_out_le K b 0 K.1
  show (if al_out K b 0 K.1 < 5 then (some 0, al_out K b 0 K.1) else (none, 5)) = _
  rw [if_pos (by omega)]
theorem and3 : ∀ x, x < 16 → ∀ y, y < 16 → (nI x &&& nI y) &&& nI 1 = nI (if x % 2 = 1 ∧ y % 2 = 1 then 1 else 0) := by decide +kernel
