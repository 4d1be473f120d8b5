theorem nI_sub_neg {a b : Nat} (h : a ≤ b) : nI a - nI b = -nI (b - a) := by
  rw [← pk_sub h, Int32.neg_sub]
theorem nI_sub_sq (q a b : Nat) : nI q * (nI a - nI b) * (nI a - nI b) = nI (q * cg_dist a b * cg_dist a b) := by
  rcases Nat.le_total b a with h | h
  · rw [pk_sub h, pk_mul, pk_mul, show cg_dist a b = a - b by unfold cg_dist; omega]
  · rw [nI_sub_neg h, Int32.mul_assoc, Int32.neg_mul_neg, pk_mul, pk_mul, show cg_dist a b = b - a by unfold cg_dist; omega, Nat.mul_assoc]
theorem nI_sq (a b : Nat) : (nI a - nI b) * (nI a - nI b) = nI (cg_dist a b * cg_dist a b) := by
  rcases Nat.le_total b a with h | h
  · rw [pk_sub h, pk_mul, show cg_dist a b = a - b by unfold cg_dist; omega]
  · rw [nI_sub_neg h, Int32.neg_mul_neg, pk_mul, show cg_dist a b = b - a by unfold cg_dist; omega]
theorem cg_quot {S H B i : Nat} (hi : i < S) : (B - H) * cg_dist (2 * i + 1) S * cg_dist (2 * i + 1) S / (S * S) ≤ B - H := by
  have hd : cg_dist (2 * i + 1) S ≤ S := by unfold cg_dist; omega
  refine Nat.div_le_of_le_mul ?_
  have h1 : cg_dist (2 * i + 1) S * cg_dist (2 * i + 1) S ≤ S * S := Nat.mul_le_mul hd hd
  calc (B - H) * cg_dist (2 * i + 1) S * cg_dist (2 * i + 1) S = (B - H) * (cg_dist (2 * i + 1) S * cg_dist (2 * i + 1) S) := Nat.mul_assoc _ _ _
    _ ≤ (B - H) * (S * S) := Nat.mul_le_mul_left _ h1
    _ = S * S * (B - H) := Nat.mul_comm _ _
theorem cg_num_lt {S H B i : Nat} (hi : i < S) (hS : S ≤ 12) (hB : B ≤ 20) : (B - H) * cg_dist (2 * i + 1) S * cg_dist (2 * i + 1) S < 2 ^ 31 := by
  have hd : cg_dist (2 * i + 1) S ≤ 12 := by unfold cg_dist; omega
  have h1 : (B - H) * cg_dist (2 * i + 1) S ≤ 20 * 12 := Nat.mul_le_mul (by omega) hd
  have h2 : (B - H) * cg_dist (2 * i + 1) S * cg_dist (2 * i + 1) S ≤ 20 * 12 * 12 := Nat.mul_le_mul h1 hd
  omega
theorem cg_SS {S : Nat} (h1 : 1 ≤ S) (h2 : S ≤ 12) : 0 < S * S ∧ S * S < 2 ^ 31 := ⟨Nat.mul_pos h1 h1, by have := Nat.mul_le_mul h2 h2; omega⟩
theorem rad_eq {S H B i : Nat} (h1 : 1 ≤ S) (hS : S ≤ 12) (hB : B ≤ 20) (hi : i < S) : nI B - nI (B - H) * (nI (2 * i + 1) - nI S) * (nI (2 * i + 1) - nI S) / nI (S * S) = nI (cg_rad S H B i) := by
  have hq := cg_quot (H := H) (B := B) hi
  rw [nI_sub_sq, pk_div (cg_num_lt hi hS hB) (cg_SS h1 hS).1 (cg_SS h1 hS).2, pk_sub (by omega)]
  rfl
theorem cg_rad_le {S H B i : Nat} : cg_rad S H B i ≤ B := Nat.sub_le _ _
theorem cg_up_le {B j : Nat} (hj : j < 2 * B) (hB : B ≤ 20) : cg_dist (2 * j + 1) (2 * B) ≤ 40 := by unfold cg_dist; omega
theorem cg_sq_lt {x : Nat} (h : x ≤ 40) : x * x ≤ 1600 := by have := Nat.mul_le_mul h h; omega
theorem cg_wl_0 {f : Nat} : cg_wl 0 f 0 = 0 := by
  cases f with
  | zero => rfl
  | succ f => rw [cg_wl, if_neg (by omega)]
theorem cg_sq4 {w : Nat} (h : 4 * w * w ≤ 1600) : w ≤ 20 := by
  rcases Nat.lt_or_ge 20 w with h1 | h1
  · have := Nat.mul_le_mul (Nat.mul_le_mul_left 4 h1) h1
    omega
  · exact h1
