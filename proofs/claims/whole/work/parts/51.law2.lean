set_option maxHeartbeats 4000000 in
set_option maxRecDepth 100000 in
theorem lw_switch {ζ : sm_Z} {I : sm_I} {S : ST} {i : Nat} (hz : ζ.1 ≤ 2048) (hi : i + 4 ≤ ζ.1) (hS : okS S) (hC : CI I S) (hM : MI I S) (kk : ∀ I' S', okS S' → CI I' S' → MI I' S' → XL ζ 779 (LW i) [] I') (v : Int32) : XL ζ 32 (LW i) [.int v] I := by
  by_cases h : v.toInt < 0 ∨ 22 < v.toInt
  · exact x_tableOut (tgt := 779) dL_law_32 h (by decide) (kk I S hS hC hM)
  rcases (show v.toInt = 0 ∨ v.toInt = 1 ∨ v.toInt = 2 ∨ v.toInt = 3 ∨ v.toInt = 4 ∨ v.toInt = 5 ∨ v.toInt = 6 ∨ v.toInt = 7 ∨ v.toInt = 8 ∨ v.toInt = 9 ∨ v.toInt = 10 ∨ v.toInt = 11 ∨ v.toInt = 12 ∨ v.toInt = 13 ∨ v.toInt = 14 ∨ v.toInt = 15 ∨ v.toInt = 16 ∨ v.toInt = 17 ∨ v.toInt = 18 ∨ v.toInt = 19 ∨ v.toInt = 20 ∨ v.toInt = 21 ∨ v.toInt = 22 by omega) with e | e | e | e | e | e | e | e | e | e | e | e | e | e | e | e | e | e | e | e | e | e | e
  · exact x_tableIn (off := 108) (tgt := 140) dL_law_32 (by omega) (by omega) (by rw [e]; rfl) (by decide) (lc_0 hz hi hS hC hM kk)
  · exact x_tableIn (off := 131) (tgt := 163) dL_law_32 (by omega) (by omega) (by rw [e]; rfl) (by decide) (lc_1 hz hi hS hC hM kk)
  · exact x_tableIn (off := 144) (tgt := 176) dL_law_32 (by omega) (by omega) (by rw [e]; rfl) (by decide) (lc_2 hz hi hS hC hM kk)
  · exact x_tableIn (off := 157) (tgt := 189) dL_law_32 (by omega) (by omega) (by rw [e]; rfl) (by decide) (lc_3 hz hi hS hC hM kk)
  · exact x_tableIn (off := 200) (tgt := 232) dL_law_32 (by omega) (by omega) (by rw [e]; rfl) (by decide) (lc_4 hz hi hS hC hM kk)
  · exact x_tableIn (off := 233) (tgt := 265) dL_law_32 (by omega) (by omega) (by rw [e]; rfl) (by decide) (lc_5 hz hi hS hC hM kk)
  · exact x_tableIn (off := 276) (tgt := 308) dL_law_32 (by omega) (by omega) (by rw [e]; rfl) (by decide) (lc_6 hz hi hS hC hM kk)
  · exact x_tableIn (off := 299) (tgt := 331) dL_law_32 (by omega) (by omega) (by rw [e]; rfl) (by decide) (lc_7 hz hi hS hC hM kk)
  · exact x_tableIn (off := 312) (tgt := 344) dL_law_32 (by omega) (by omega) (by rw [e]; rfl) (by decide) (lc_8 hz hi hS hC hM kk)
  · exact x_tableIn (off := 345) (tgt := 377) dL_law_32 (by omega) (by omega) (by rw [e]; rfl) (by decide) (lc_9 hz hi hS hC hM kk)
  · exact x_tableIn (off := 388) (tgt := 420) dL_law_32 (by omega) (by omega) (by rw [e]; rfl) (by decide) (lc_10 hz hi hS hC hM kk)
  · exact x_tableIn (off := 421) (tgt := 453) dL_law_32 (by omega) (by omega) (by rw [e]; rfl) (by decide) (lc_11 hz hi hS hC hM kk)
  · exact x_tableIn (off := 454) (tgt := 486) dL_law_32 (by omega) (by omega) (by rw [e]; rfl) (by decide) (lc_12 hz hi hS hC hM kk)
  · exact x_tableIn (off := 497) (tgt := 529) dL_law_32 (by omega) (by omega) (by rw [e]; rfl) (by decide) (lc_13 hz hi hS hC hM kk)
  · exact x_tableIn (off := 540) (tgt := 572) dL_law_32 (by omega) (by omega) (by rw [e]; rfl) (by decide) (lc_14 hz hi hS hC hM kk)
  · exact x_tableIn (off := 583) (tgt := 615) dL_law_32 (by omega) (by omega) (by rw [e]; rfl) (by decide) (lc_15 hz hi hS hC hM kk)
  · exact x_tableIn (off := 606) (tgt := 638) dL_law_32 (by omega) (by omega) (by rw [e]; rfl) (by decide) (lc_16 hz hi hS hC hM kk)
  · exact x_tableIn (off := 639) (tgt := 671) dL_law_32 (by omega) (by omega) (by rw [e]; rfl) (by decide) (lc_17 hz hi hS hC hM kk)
  · exact x_tableIn (off := 652) (tgt := 684) dL_law_32 (by omega) (by omega) (by rw [e]; rfl) (by decide) (lc_18 hz hi hS hC hM kk)
  · exact x_tableIn (off := 665) (tgt := 697) dL_law_32 (by omega) (by omega) (by rw [e]; rfl) (by decide) (lc_19 hz hi hS hC hM kk)
  · exact x_tableIn (off := 678) (tgt := 710) dL_law_32 (by omega) (by omega) (by rw [e]; rfl) (by decide) (lc_20 hz hi hS hC hM kk)
  · exact x_tableIn (off := 701) (tgt := 733) dL_law_32 (by omega) (by omega) (by rw [e]; rfl) (by decide) (lc_21 hz hi hS hC hM kk)
  · exact x_tableIn (off := 724) (tgt := 756) dL_law_32 (by omega) (by omega) (by rw [e]; rfl) (by decide) (lc_22 hz hi hS hC hM kk)

set_option maxHeartbeats 4000000 in
set_option maxRecDepth 100000 in
theorem lw_turn {ζ : sm_Z} {I : sm_I} {S : ST} {i : Nat} (hz : ζ.1 ≤ 2048) (hi : i ≤ ζ.1) (hS : okS S) (hC : CI I S) (hM : MI I S) (kk : i + 4 ≤ ζ.1 → ∀ I' S', okS S' → CI I' S' → MI I' S' → XL ζ 18 (LW (i + 4)) [] I') : XL ζ 18 (LW i) [] I := by
  refine l_iload dL_law_18 rfl rfl ?_
  refine l_aload dL_law_19 rfl rfl ?_
  refine x_slen dL_law_20 ?_
  refine l_iconst (v := nI 4) dL_law_21 (by decide) ?_
  refine x_isub dL_law_22 ?_
  refine x_icmp_gt (tgt := 785) dL_law_23 (by decide) (fun _ => ?_) (fun h => ?_)
  · refine l_iconst (v := 1) dL_law_785 (by decide) ?_
    exact x_ret (r := some (.int 1)) ⟨⟨.boolean, rfl, rfl⟩, dL_law_786⟩ (Nat.le_of_ble_eq_true rfl) (Nat.le_of_ble_eq_true rfl) rfl
  · have h4 : i + 4 ≤ ζ.1 := by
      have h1 := Int32.le_iff_toInt_le.mp (Int32.not_lt.mp h)
      have h2 : (nI ζ.1 - nI 4).toInt = (ζ.1 : Int) - (4 : Nat) := pk_sub_toInt (by omega) (by decide)
      have h3 : (Int32.ofNat ζ.1 - nI 4).toInt = (ζ.1 : Int) - (4 : Nat) := h2
      rw [h3, nI_toInt (by omega)] at h1
      omega
    refine l_aload dL_law_26 rfl rfl ?_
    refine l_iload dL_law_27 rfl rfl ?_
    refine l_sld dL_law_28 hz (by omega) ?_
    refine x_bipush (v := nI 31) dL_law_29 (by decide) ?_
    refine x_iand dL_law_31 ?_
    refine lw_switch hz h4 hS hC hM (fun I' S' g1 g2 g3 => ?_) _
    refine x_iinc (v := nI (i + 4)) dL_law_779 rfl (by rw [show Int32.ofInt 4 = nI 4 by decide, nI_add]) (by decide) ?_
    exact x_goto (tgt := 18) dL_law_782 (by decide) (kk h4 I' S' g1 g2 g3)

theorem lw_loop {ζ : sm_Z} (hz : ζ.1 ≤ 2048) : ∀ (f i : Nat) (I : sm_I) (S : ST), ζ.1 ≤ i + f → i ≤ ζ.1 → okS S → CI I S → MI I S → XL ζ 18 (LW i) [] I := by
  intro f
  induction f with
  | zero => exact fun i I S h1 h2 hS hC hM => lw_turn hz h2 hS hC hM (fun h => absurd h (by omega))
  | succ f ih => exact fun i I S h1 h2 hS hC hM => lw_turn hz h2 hS hC hM (fun h I' S' g1 g2 g3 => ih (i + 4) I' S' (by omega) h g1 g2 g3)

set_option maxHeartbeats 4000000 in
set_option maxRecDepth 100000 in
theorem lw_begin {ζ : sm_Z} (hz : ζ.1 ≤ 2048) {sh : Nat → sm_S} {I : sm_I} : Xm ζ room_1 mL_law 0 [some (.ref 1000000), none, none, none] [] 0 0 0 sh I (fun r _ _ _ => r = some (.int 1)) := by
  refine x_new (N := 11) dL_law_0 clX8 dfX8 cnL_7 isX8 iniX8 (Nat.le_of_ble_eq_true rfl) (Nat.le_of_ble_eq_true rfl) (by decide) ?_
  refine x_dup dL_law_3 rfl ?_
  refine x_callI (as := []) (st := [.ref 0]) dL_law_4 (i_gauge va_s ⟨fun b q h1 _ => (by rw [show b = 0 by omega]; exact congrFun va_s q), fun c hc => absurd hc (Nat.not_lt_zero c)⟩) rfl rfl rfl meX8_init imX8_init mlL_9 ⟨Nat.le_of_ble_eq_true rfl, Nat.le_of_ble_eq_true rfl⟩ ⟨Nat.le_of_ble_eq_true rfl, Nat.le_of_ble_eq_true rfl⟩ (Nat.le_of_ble_eq_true rfl) ?_
  rintro _ _ sh1 I1 ⟨rfl, rfl, f1, z1⟩
  refine x_astore_n dL_law_7 rfl (by decide) ?_
  refine x_new (N := 21) dL_law_8 clX9 dfX9 cnL_10 isX9 iniX9 (Nat.le_of_ble_eq_true rfl) (Nat.le_of_ble_eq_true rfl) (by decide) ?_
  refine x_dup dL_law_11 rfl ?_
  refine x_callI (as := []) (st := [.ref 106]) dL_law_12 (i_model (a := 106) (n := 107) (by decide) (by decide) va_s) rfl rfl rfl meX9_init imX9_init mlL_12 ⟨Nat.le_of_ble_eq_true rfl, Nat.le_of_ble_eq_true rfl⟩ ⟨Nat.le_of_ble_eq_true rfl, Nat.le_of_ble_eq_true rfl⟩ (Nat.le_of_ble_eq_true rfl) ?_
  rintro _ _ sh2 I2 ⟨rfl, rfl, k1, k2, c7, c8, c9, c10, c11, c12, c13, c14, c15, i1, i2⟩
  refine x_astore_n dL_law_15 rfl (by decide) ?_
  refine x_iconst (v := nI 0) dL_law_16 (by decide) ?_
  refine x_istore_n dL_law_17 rfl (by decide) ?_
  refine x_sh (sh' := SH) (fun b hb => ?_) ?_
  · by_cases h6 : b < 106
    · exact (k1 b (by omega) (by omega)).trans ((va_x (by omega)).trans (f1 b h6))
    · rcases (show b = 106 ∨ b = 107 ∨ b = 108 ∨ b = 109 ∨ b = 110 ∨ b = 111 ∨ b = 112 ∨ b = 113 ∨ b = 114 ∨ b = 115 by omega) with rfl | rfl | rfl | rfl | rfl | rfl | rfl | rfl | rfl | rfl
      · exact k2
      · exact c7
      · exact c8
      · exact c9
      · exact c10
      · exact c11
      · exact c12
      · exact c13
      · exact c14
      · exact c15
  · have z2 : ∀ b k, b < 106 → I2 b k = I1 b k := fun b k h => (i1 b k (by omega)).trans (congrFun (va_x (by omega)) k)
    refine lw_loop hz ζ.1 0 I2 S0 (by omega) (Nat.zero_le _) okS_0 (CI_0 (fun a k h1 h2 => (z2 a k h1).trans (z1.1 a k h1 h2)) (fun c hc => (z2 _ 0 (by omega)).trans ((z1.2 c hc (by omega)).trans (by decide)))) (MI_0 (fun a k h1 h2 => ?_))
    by_cases h6 : a = 106
    · rw [h6]
      exact (i1 106 k (by decide)).trans (congrFun va_s k)
    · exact i2 a k (by omega) (by omega)
