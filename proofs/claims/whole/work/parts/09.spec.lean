/-! ===== what casks are, in naturals ===== -/
def cg_sum (f : Nat → Nat) : Nat → Nat
  | 0 => 0
  | n + 1 => cg_sum f n + f n
def cg_dist (a b : Nat) : Nat := (a - b) + (b - a)
def cg_rad (S H B i : Nat) : Nat := B - (B - H) * cg_dist (2 * i + 1) S * cg_dist (2 * i + 1) S / (S * S)
def cg_wl (m : Nat) : Nat → Nat → Nat
  | 0, w => w
  | f + 1, w => if 4 * (w + 1) * (w + 1) ≤ m then cg_wl m f (w + 1) else w
def cg_room (r j B : Nat) : Nat := 2 * r * (2 * r) - cg_dist (2 * j + 1) (2 * B) * cg_dist (2 * j + 1) (2 * B)
def cg_cell (S H B i j : Nat) : Nat := 2 * cg_wl (cg_room (cg_rad S H B i) j B) 21 0
def cg_row (S H B l y : Nat) : Nat := if l = 1 then cg_sum (fun k => cg_cell S H B k y) S else cg_sum (fun k => cg_cell S H B y k) (2 * B)
def cg_U (S H B l y : Nat) : Nat := cg_sum (cg_row S H B l) y
def cg_top (S B l : Nat) : Nat := if l = 1 then 2 * B else S
def cg_hold (S H B l : Nat) : Nat := cg_U S H B l (cg_top S B l)
theorem cg_sum_le {f : Nat → Nat} {b : Nat} : ∀ n, (∀ k, k < n → f k ≤ b) → cg_sum f n ≤ n * b
  | 0, _ => by simp [cg_sum]
  | n + 1, h => by
    have h1 := cg_sum_le n (fun k hk => h k (by omega))
    have h2 := h n (by omega)
    rw [cg_sum, Nat.succ_mul]
    omega
theorem cg_sum_congr {f g : Nat → Nat} : ∀ n, (∀ k, k < n → f k = g k) → cg_sum f n = cg_sum g n
  | 0, _ => rfl
  | n + 1, h => by rw [cg_sum, cg_sum, cg_sum_congr n (fun k hk => h k (by omega)), h n (by omega)]
theorem cg_sum_add (f g : Nat → Nat) : ∀ n, cg_sum (fun k => f k + g k) n = cg_sum f n + cg_sum g n
  | 0 => rfl
  | n + 1 => by simp only [cg_sum]; rw [cg_sum_add f g n]; omega
theorem cg_sum_zero : ∀ n, cg_sum (fun _ => 0) n = 0
  | 0 => rfl
  | n + 1 => by rw [cg_sum, cg_sum_zero n]
theorem cg_sum_swap (f : Nat → Nat → Nat) (n : Nat) : ∀ m, cg_sum (fun i => cg_sum (f i) n) m = cg_sum (fun j => cg_sum (fun i => f i j) m) n
  | 0 => (cg_sum_zero n).symm
  | m + 1 => by rw [cg_sum, cg_sum_swap f n m, ← cg_sum_add]; rfl
theorem cg_sum_mono (f : Nat → Nat) {a : Nat} : ∀ b, a ≤ b → cg_sum f a ≤ cg_sum f b
  | 0, h => by rw [Nat.le_zero.mp h]; exact Nat.le_refl _
  | b + 1, h => by
    rcases Nat.lt_or_ge a (b + 1) with h1 | h1
    · exact Nat.le_trans (cg_sum_mono f b (by omega)) (Nat.le_add_right _ _)
    · rw [show a = b + 1 by omega]; exact Nat.le_refl _
theorem cg_wl_le (m : Nat) : ∀ f w, cg_wl m f w ≤ w + f
  | 0, w => Nat.le_refl _
  | f + 1, w => by
    rw [cg_wl]
    split
    · have := cg_wl_le m f (w + 1); omega
    · omega
theorem cg_cell_le (S H B i j : Nat) : cg_cell S H B i j ≤ 42 := by
  have := cg_wl_le (cg_room (cg_rad S H B i) j B) 21 0
  unfold cg_cell
  omega
theorem cg_row_le {S H B l y : Nat} (hS : S ≤ 12) (hB : B ≤ 20) : cg_row S H B l y ≤ 1680 := by
  unfold cg_row
  split
  · have := cg_sum_le (f := fun k => cg_cell S H B k y) S (fun k _ => cg_cell_le S H B k y); omega
  · have := cg_sum_le (f := fun k => cg_cell S H B y k) (2 * B) (fun k _ => cg_cell_le S H B y k); omega
theorem cg_top_le {S B l : Nat} (hS : S ≤ 12) (hB : B ≤ 20) : cg_top S B l ≤ 40 := by unfold cg_top; split <;> omega
theorem cg_U_le {S H B l y : Nat} (hS : S ≤ 12) (hB : B ≤ 20) (hy : y ≤ 40) : cg_U S H B l y ≤ 67200 := by
  have := cg_sum_le (f := cg_row S H B l) y (fun k _ => cg_row_le hS hB)
  unfold cg_U
  have h2 : y * 1680 ≤ 40 * 1680 := Nat.mul_le_mul_right _ hy
  omega
theorem cg_U_mono {S H B l a b : Nat} (h : a ≤ b) : cg_U S H B l a ≤ cg_U S H B l b := cg_sum_mono _ b h
theorem cg_hold_le {S H B l : Nat} (hS : S ≤ 12) (hB : B ≤ 20) : cg_hold S H B l ≤ 67200 := cg_U_le hS hB (cg_top_le hS hB)
/-- what a cask holds is one, lying or standing -/
theorem cg_hold_one (S H B : Nat) {l : Nat} (hl : l ≤ 1) : cg_hold S H B l = cg_hold S H B 1 := by
  rcases (show l = 0 ∨ l = 1 by omega) with rfl | rfl
  · show cg_sum (fun y => cg_sum (fun k => cg_cell S H B y k) (2 * B)) S = cg_sum (fun y => cg_sum (fun k => cg_cell S H B k y) S) (2 * B)
    exact cg_sum_swap (fun i j => cg_cell S H B i j) (2 * B) S
  · rfl
/-! ===== casks in a row, and where they lie ===== -/
abbrev KT : Type := Nat × (Nat → Nat → Nat)
def okc (v : Nat → Nat) : Prop := 1 ≤ v 0 ∧ v 0 ≤ 12 ∧ 1 ≤ v 1 ∧ v 1 ≤ v 2 ∧ v 2 ≤ 20 ∧ v 3 ≤ 1 ∧ v 5 ≤ v 4 ∧ v 4 ≤ cg_hold (v 0) (v 1) (v 2) 1
def okK (K : KT) : Prop := K.1 ≤ 4 ∧ ∀ c, c < K.1 → okc (K.2 c)
/-- the reference's row of a state -/
def MK (I : sm_I) (a off : Nat) (K : KT) : Prop := I a (off + 24) = nI K.1 ∧ ∀ c f, c < K.1 → f < 6 → I a (off + (6 * c + f)) = nI (K.2 c f)
/-- the class' cellar at a -/
def CK (I : sm_I) (a : Nat) (K : KT) : Prop := I a 1 = nI K.1 ∧ ∀ c f, c < K.1 → f < 6 → I (a + 2 + c) f = nI (K.2 c f)
theorem MK.at0 {I : sm_I} {a : Nat} {K : KT} (h : MK I a 0 K) {c f : Nat} (hc : c < K.1) (hf : f < 6) : I a (6 * c + f) = nI (K.2 c f) := by
  have := h.2 c f hc hf
  rw [Nat.zero_add] at this
  exact this
theorem MK.n0 {I : sm_I} {a : Nat} {K : KT} (h : MK I a 0 K) : I a 24 = nI K.1 := h.1
theorem MK.of {I I' : sm_I} {a off : Nat} {K : KT} (h : MK I a off K) (hk : ∀ k, I' a k = I a k) : MK I' a off K := ⟨by rw [hk]; exact h.1, fun c f hc hf => by rw [hk]; exact h.2 c f hc hf⟩
theorem okc.lt {v : Nat → Nat} (h : okc v) : ∀ f, f < 6 → v f < 2 ^ 31 := by
  obtain ⟨h0, h1, h2, h3, h4, h5, h6, h7⟩ := h
  have := cg_hold_le (H := v 1) (l := 1) h1 h4
  intro f hf
  rcases (show f = 0 ∨ f = 1 ∨ f = 2 ∨ f = 3 ∨ f = 4 ∨ f = 5 by omega) with rfl | rfl | rfl | rfl | rfl | rfl <;> omega
