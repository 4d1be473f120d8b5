theorem has_in {n : Nat} {c : Int32} (hn : n ≤ 4) (h1 : ¬ c < 0) (h2 : c < nI n) : ∃ j, j < n ∧ c = nI j ∧ some (Value.int (nI 1)) = some (.int (nI 1)) := by
  rcases cg_ix_cases n (by omega) c with ⟨j, hj, rfl, -⟩ | ⟨-, h | h⟩
  · exact ⟨j, hj, rfl, rfl⟩
  · exact absurd h h1
  · exact absurd h2 (Int32.not_lt.mpr h)

set_option maxHeartbeats 4000000 in
set_option maxRecDepth 100000 in
theorem k_has {I : sm_I} {a : Nat} (hA : isCl a) {K : KT} (hK : CK I a K) (hn : K.1 ≤ 4) (c : Int32) : E0 0 mX1_has [.ref a, .int c] I (fun r I' => I' = I ∧ ((∃ j, j < K.1 ∧ c = nI j ∧ r = some (.int (nI 1))) ∨ (cg_ix K.1 c = none ∧ r = some (.int (nI 0))))) := by
  refine E0.of (by decide) (by simp [Value.category]) (Nat.le_of_ble_eq_true rfl) (fun ζ => ?_)
  refine o_iload_n dX1_has_0 rfl rfl ?_
  refine o_if_lt (tgt := 16) dX1_has_1 (by decide) (fun b_46 => ?_) (fun b_46 => ?_)
  · refine o_iconst (v := nI 0) dX1_has_16 (by decide) ?_
    exact o_zret dX1_has_17 rfl (by decide) ⟨rfl, Or.inr ⟨cg_ix_neg b_46, rfl⟩⟩
  · refine o_iload_n dX1_has_4 rfl rfl ?_
    refine o_aload_n dX1_has_5 rfl rfl ?_
    refine o_getI (v := nI K.1) dX1_has_6 fgX1_18 hA.1 rfl hK.1 ?_
    refine o_icmp_ge (tgt := 16) dX1_has_9 (by decide) (fun b_47 => ?_) (fun b_47 => ?_)
    · refine o_iconst (v := nI 0) dX1_has_16 (by decide) ?_
      exact o_zret dX1_has_17 rfl (by decide) ⟨rfl, Or.inr ⟨cg_ix_big (by omega) b_47, rfl⟩⟩
    · refine o_iconst (v := nI 1) dX1_has_12 (by decide) ?_
      refine o_goto (tgt := 17) dX1_has_13 (by decide) ?_
      exact o_zret dX1_has_17 rfl (by decide) ⟨rfl, Or.inl (has_in hn b_46 (i32_nle b_47))⟩

set_option maxHeartbeats 4000000 in
set_option maxRecDepth 100000 in
theorem k_hold {I : sm_I} {a : Nat} (hL : isLv a) {l S H B : Nat} (q1 : S ≤ 12) (q4 : B ≤ 20) (hM : LM I a l S H B) : E0 2 mX2_hold [.ref a] I (fun r I' => I' = I ∧ r = some (.int (nI (cg_hold S H B l)))) := by
  have ht : cg_top S B l ≤ 40 := cg_top_le q1 q4
  have hUl : ∀ y, y ≤ 40 → cg_U S H B l y ≤ 67200 := fun y hy => cg_U_le q1 q4 hy
  refine E0.of (by decide) (by simp [Value.category]) (Nat.le_of_ble_eq_true rfl) (fun ζ => ?_)
  refine o_aload_n dX2_hold_0 rfl rfl ?_
  refine o_aload_n dX2_hold_1 rfl rfl ?_
  refine o_getI (v := nI (cg_top S B l)) dX2_hold_2 fgX2_40 hL.1 rfl hM.2.2.2.2.1 ?_
  refine o_callVp (v := .int (nI (cg_hold S H B l))) (as := [.int (nI (cg_top S B l))]) (st := []) dX2_hold_5 (k_amountAt hL.1 hL.2 ht hM.2.2.2.2.1 (Nat.le_refl _) (hM.2.2.2.2.2 _ (Nat.le_refl _))) rfl meX2_amountAt imX2_amountAt seX2_amountAt mlX2_58 hL.1 rfl rfl (by omega) (by decide) (Nat.le_of_ble_eq_true rfl) ?_
  exact o_iret dX2_hold_8 rfl ⟨rfl, rfl⟩

set_option maxHeartbeats 4000000 in
set_option maxRecDepth 100000 in
theorem lp_ldf {ζ : sm_Z} {d : Nat} {I : sm_I} {a : Nat} (hL : isLv a) {l S H B : Nat} (q1 : S ≤ 12) (q4 : B ≤ 20) (hM : LM I a l S H B) {Q : Option Value → sm_I → Prop} {n : Nat} (hn : n < 2 ^ 31) {a1 : Option Value} : ∀ (f y : Nat), y + f = cg_top S B l + 1 → Q (some (.int (nI (ld (cg_U S H B l) n f y)))) I → X0 ζ d mX2_leastDipFrom 6 [some (.ref a), a1, some (.int (nI n)), some (.int (nI y))] [] I Q := by
  have ht : cg_top S B l ≤ 40 := cg_top_le q1 q4
  have hUl : ∀ y, y ≤ 40 → cg_U S H B l y ≤ 67200 := fun y hy => cg_U_le q1 q4 hy
  intro f
  induction f with
  | zero =>
    intro y hy hq
    rw [ld] at hq
    refine o_iload_n dX2_leastDipFrom_6 rfl rfl ?_
    refine o_aload_n dX2_leastDipFrom_7 rfl rfl ?_
    refine o_getI (v := nI (cg_top S B l)) dX2_leastDipFrom_8 fgX2_40 hL.1 rfl hM.2.2.2.2.1 ?_
    refine o_icmpN_gt (tgt := 32) dX2_leastDipFrom_11 (by decide) (by omega) (by omega) (fun b_48 => ?_) (fun b_48 => absurd b_48 (by omega))
    refine o_bipush (v := nI 41) dX2_leastDipFrom_32 (by decide) ?_
    exact o_iret dX2_leastDipFrom_34 rfl hq
  | succ f ih =>
    intro y hy hq
    rw [ld] at hq
    refine o_iload_n dX2_leastDipFrom_6 rfl rfl ?_
    refine o_aload_n dX2_leastDipFrom_7 rfl rfl ?_
    refine o_getI (v := nI (cg_top S B l)) dX2_leastDipFrom_8 fgX2_40 hL.1 rfl hM.2.2.2.2.1 ?_
    refine o_icmpN_gt (tgt := 32) dX2_leastDipFrom_11 (by decide) (by omega) (by omega) (fun b_49 => absurd b_49 (by omega)) (fun b_49 => ?_)
    have hUy := hUl y (by omega)
    refine o_aload_n dX2_leastDipFrom_14 rfl rfl ?_
    refine o_getR (b := a + 1) dX2_leastDipFrom_15 fgX2_15 hL.1 rfl rfl ?_
    refine o_iload_n dX2_leastDipFrom_18 rfl rfl ?_
    refine o_ialdN (v := nI (cg_U S H B l y)) dX2_leastDipFrom_19 hL.2 (by decide) (by omega) (hM.2.2.2.2.2 y (by omega)) ?_
    refine o_iload_n dX2_leastDipFrom_20 rfl rfl ?_
    refine o_icmpN_lt (tgt := 26) dX2_leastDipFrom_21 (by decide) (by omega) (by omega) (fun b_50 => ?_) (fun b_50 => ?_)
    · refine o_iincN (w := 1) dX2_leastDipFrom_26 rfl (by decide) (by decide) ?_
      refine o_goto (tgt := 6) dX2_leastDipFrom_29 (by decide) ?_
      exact ih (y + 1) (by omega) (by rw [if_neg (by omega)] at hq; exact hq)
    · refine o_iload_n dX2_leastDipFrom_24 rfl rfl ?_
      exact o_iret dX2_leastDipFrom_25 rfl (by rw [if_pos (by omega)] at hq; exact hq)

set_option maxHeartbeats 4000000 in
set_option maxRecDepth 100000 in
theorem k_ldf {I : sm_I} {a : Nat} (hL : isLv a) {l S H B : Nat} (q1 : S ≤ 12) (q4 : B ≤ 20) (hM : LM I a l S H B) {n y : Nat} (hn : n < 2 ^ 31) (hy : y ≤ cg_top S B l) : E0 1 mX2_leastDipFrom [.ref a, .int (nI y), .int (nI n)] I (fun r I' => I' = I ∧ r = some (.int (nI (ld (cg_U S H B l) n (cg_top S B l + 1 - y) y)))) := by
  have ht : cg_top S B l ≤ 40 := cg_top_le q1 q4
  have hUl : ∀ y, y ≤ 40 → cg_U S H B l y ≤ 67200 := fun y hy => cg_U_le q1 q4 hy
  refine E0.of (by decide) (by simp [Value.category]) (Nat.le_of_ble_eq_true rfl) (fun ζ => ?_)
  refine o_iload_n dX2_leastDipFrom_0 rfl rfl ?_
  refine o_iconst (v := nI 0) dX2_leastDipFrom_1 (by decide) ?_
  refine o_maxN dX2_leastDipFrom_2 mlX2_64 (by omega) (by omega) (by omega) (Nat.le_of_ble_eq_true rfl) ?_
  refine o_istore_n dX2_leastDipFrom_5 rfl (by decide) ?_
  rw [Nat.max_eq_left (Nat.zero_le y)]
  exact lp_ldf hL q1 q4 hM hn _ _ (by omega) ⟨rfl, rfl⟩

set_option maxHeartbeats 4000000 in
set_option maxRecDepth 100000 in
theorem k_ldf41 {I : sm_I} {a : Nat} (hL : isLv a) {l S H B : Nat} (q1 : S ≤ 12) (q4 : B ≤ 20) (hM : LM I a l S H B) {n : Nat} (hn : n < 2 ^ 31) : E0 1 mX2_leastDipFrom [.ref a, .int (nI 41), .int (nI n)] I (fun r I' => I' = I ∧ r = some (.int (nI 41))) := by
  have ht : cg_top S B l ≤ 40 := cg_top_le q1 q4
  have hUl : ∀ y, y ≤ 40 → cg_U S H B l y ≤ 67200 := fun y hy => cg_U_le q1 q4 hy
  refine E0.of (by decide) (by simp [Value.category]) (Nat.le_of_ble_eq_true rfl) (fun ζ => ?_)
  refine o_iload_n dX2_leastDipFrom_0 rfl rfl ?_
  refine o_iconst (v := nI 0) dX2_leastDipFrom_1 (by decide) ?_
  refine o_maxN dX2_leastDipFrom_2 mlX2_64 (by omega) (by omega) (by omega) (Nat.le_of_ble_eq_true rfl) ?_
  refine o_istore_n dX2_leastDipFrom_5 rfl (by decide) ?_
  refine o_iload_n dX2_leastDipFrom_6 rfl rfl ?_
  refine o_aload_n dX2_leastDipFrom_7 rfl rfl ?_
  refine o_getI (v := nI (cg_top S B l)) dX2_leastDipFrom_8 fgX2_40 hL.1 rfl hM.2.2.2.2.1 ?_
  refine o_icmpN_gt (tgt := 32) dX2_leastDipFrom_11 (by decide) (by omega) (by omega) (fun b_51 => ?_) (fun b_51 => absurd b_51 (by omega))
  refine o_bipush (v := nI 41) dX2_leastDipFrom_32 (by decide) ?_
  exact o_iret dX2_leastDipFrom_34 rfl ⟨rfl, rfl⟩

set_option maxHeartbeats 4000000 in
set_option maxRecDepth 100000 in
theorem k_ld {I : sm_I} {a : Nat} (hL : isLv a) {l S H B : Nat} (q1 : S ≤ 12) (q4 : B ≤ 20) (hM : LM I a l S H B) {n : Nat} (hn : n < 2 ^ 31) : E0 2 mX2_leastDip [.ref a, .int (nI n)] I (fun r I' => I' = I ∧ r = some (.int (nI (ld (cg_U S H B l) n (cg_top S B l + 1) 0)))) := by
  have ht : cg_top S B l ≤ 40 := cg_top_le q1 q4
  have hUl : ∀ y, y ≤ 40 → cg_U S H B l y ≤ 67200 := fun y hy => cg_U_le q1 q4 hy
  refine E0.of (by decide) (by simp [Value.category]) (Nat.le_of_ble_eq_true rfl) (fun ζ => ?_)
  refine o_aload_n dX2_leastDip_0 rfl rfl ?_
  refine o_iconst (v := nI 0) dX2_leastDip_1 (by decide) ?_
  refine o_iload_n dX2_leastDip_2 rfl rfl ?_
  refine o_callVp (v := .int (nI (ld (cg_U S H B l) n (cg_top S B l + 1) 0))) (as := [.int (nI 0), .int (nI n)]) (st := []) dX2_leastDip_3 (k_ldf hL q1 q4 hM hn (Nat.zero_le _)) rfl meX2_leastDipFrom imX2_leastDipFrom seX2_leastDipFrom mlX2_61 hL.1 rfl rfl (by omega) (by decide) (Nat.le_of_ble_eq_true rfl) ?_
  exact o_iret dX2_leastDip_6 rfl ⟨rfl, rfl⟩

set_option maxHeartbeats 4000000 in
set_option maxRecDepth 100000 in
theorem lp_mark {ζ : sm_Z} {d : Nat} {I : sm_I} {a : Nat} (hL : isLv a) {l S H B : Nat} (q1 : S ≤ 12) (q4 : B ≤ 20) (hM : LM I a l S H B) {Q : Option Value → sm_I → Prop} {p t : Nat} (hp : p ≤ 9) (ht31 : t < 2 ^ 31) {a2 : Option Value} : ∀ (f y : Nat), y + f = cg_top S B l → Q (some (.int (nI (cg_dp (fun y => cg_U S H B l y * p) t f y)))) I → X0 ζ d mX2_markAt 10 [some (.ref a), some (.int (nI p)), a2, some (.int (nI t)), some (.int (nI y))] [] I Q := by
  have ht : cg_top S B l ≤ 40 := cg_top_le q1 q4
  have hmul : ∀ y, y ≤ 40 → cg_U S H B l y * p ≤ 67200 * 9 := fun y hy => Nat.mul_le_mul (cg_U_le q1 q4 hy) hp
  intro f
  induction f with
  | zero =>
    intro y hy hq
    rw [cg_dp] at hq
    refine o_iload dX2_markAt_10 rfl ?_
    refine o_aload_n dX2_markAt_12 rfl rfl ?_
    refine o_getI (v := nI (cg_top S B l)) dX2_markAt_13 fgX2_40 hL.1 rfl hM.2.2.2.2.1 ?_
    refine o_icmpN_ge (tgt := 41) dX2_markAt_16 (by decide) (by omega) (by omega) (fun b_52 => ?_) (fun b_52 => absurd b_52 (by omega))
    refine o_aload_n dX2_markAt_41 rfl rfl ?_
    refine o_getI (v := nI (cg_top S B l)) dX2_markAt_42 fgX2_40 hL.1 rfl hM.2.2.2.2.1 ?_
    exact o_iret dX2_markAt_45 rfl (by rw [show y = cg_top S B l by omega] at hq; exact hq)
  | succ f ih =>
    intro y hy hq
    rw [cg_dp] at hq
    refine o_iload dX2_markAt_10 rfl ?_
    refine o_aload_n dX2_markAt_12 rfl rfl ?_
    refine o_getI (v := nI (cg_top S B l)) dX2_markAt_13 fgX2_40 hL.1 rfl hM.2.2.2.2.1 ?_
    refine o_icmpN_ge (tgt := 41) dX2_markAt_16 (by decide) (by omega) (by omega) (fun b_53 => absurd b_53 (by omega)) (fun b_53 => ?_)
    have hUy := hmul y (by omega)
    refine o_aload_n dX2_markAt_19 rfl rfl ?_
    refine o_getR (b := a + 1) dX2_markAt_20 fgX2_15 hL.1 rfl rfl ?_
    refine o_iload dX2_markAt_23 rfl ?_
    refine o_ialdN (v := nI (cg_U S H B l y)) dX2_markAt_25 hL.2 (by decide) (by omega) (hM.2.2.2.2.2 y (by omega)) ?_
    refine o_iload_n dX2_markAt_26 rfl rfl ?_
    refine o_imulN dX2_markAt_27 ?_
    refine o_iload_n dX2_markAt_28 rfl rfl ?_
    refine o_icmpN_lt (tgt := 35) dX2_markAt_29 (by decide) (by omega) (by omega) (fun b_54 => ?_) (fun b_54 => ?_)
    · refine o_iincN (w := 1) dX2_markAt_35 rfl (by decide) (by decide) ?_
      refine o_goto (tgt := 10) dX2_markAt_38 (by decide) ?_
      exact ih (y + 1) (by omega) (by rw [if_neg (by omega)] at hq; exact hq)
    · refine o_iload dX2_markAt_32 rfl ?_
      exact o_iret dX2_markAt_34 rfl (by rw [if_pos (by omega)] at hq; exact hq)

set_option maxHeartbeats 4000000 in
set_option maxRecDepth 100000 in
theorem k_mark {I : sm_I} {a : Nat} (hL : isLv a) {l S H B : Nat} (q1 : S ≤ 12) (q4 : B ≤ 20) (hM : LM I a l S H B) {p k : Nat} (hp : p ≤ 9) (hk : k ≤ 9) : E0 3 mX2_markAt [.ref a, .int (nI p), .int (nI k)] I (fun r I' => I' = I ∧ r = some (.int (nI (cg_dip (fun y => cg_U S H B l y * p) (cg_top S B l) (cg_hold S H B l * k))))) := by
  have ht : cg_top S B l ≤ 40 := cg_top_le q1 q4
  have hUl : ∀ y, y ≤ 40 → cg_U S H B l y ≤ 67200 := fun y hy => cg_U_le q1 q4 hy
  have hh : cg_hold S H B l * k ≤ 67200 * 9 := Nat.mul_le_mul (cg_hold_le q1 q4) hk
  refine E0.of (by decide) (by simp [Value.category]) (Nat.le_of_ble_eq_true rfl) (fun ζ => ?_)
  refine o_aload_n dX2_markAt_0 rfl rfl ?_
  refine o_callVp (v := .int (nI (cg_hold S H B l))) (as := []) (st := []) dX2_markAt_1 (k_hold hL q1 q4 hM) rfl meX2_hold imX2_hold seX2_hold mlX2_67 hL.1 rfl rfl (by omega) (by decide) (Nat.le_of_ble_eq_true rfl) ?_
  refine o_iload_n dX2_markAt_4 rfl rfl ?_
  refine o_imulN dX2_markAt_5 ?_
  refine o_istore_n dX2_markAt_6 rfl (by decide) ?_
  refine o_iconst (v := nI 0) dX2_markAt_7 (by decide) ?_
  refine o_istore dX2_markAt_8 (by decide) ?_
  exact lp_mark hL q1 q4 hM hp (by omega) _ _ (by omega) ⟨rfl, rfl⟩

set_option maxHeartbeats 4000000 in
set_option maxRecDepth 100000 in
theorem k_lyl {I : sm_I} {K : KT} (hK : CK I 13 K) (hok : okK K) (hV : LV I) {c : Nat} (hc : c < K.1) : E0 4 mX8_lyingLevelsOf [.ref 0, .int (nI c)] I (fun r I' => r = some (.ref (88 + 4 * c)) ∧ LM I' (88 + 4 * c) 1 (K.2 c 0) (K.2 c 1) (K.2 c 2) ∧ frLv (88 + 4 * c) I I' ∧ LV I') := by
  have hn := hok.1
  have hc4 : c < 4 := by omega
  obtain ⟨q0, q1, q2, q3, q4, q5, q6, q7⟩ := hok.2 c hc
  refine E0.of (by decide) (by simp [Value.category]) (Nat.le_of_ble_eq_true rfl) (fun ζ => ?_)
  refine o_aload_n dX8_lyingLevelsOf_0 rfl rfl ?_
  refine o_getR (b := 86) dX8_lyingLevelsOf_1 fgX8_56 sh_0 rfl rfl ?_
  refine o_iload_n dX8_lyingLevelsOf_4 rfl rfl ?_
  refine o_aaldN (t := 5) (b := 88 + 4 * c) dX8_lyingLevelsOf_5 sh_86 (by decide) (by decide) hc4 (g44 88 hc4) ?_
  refine o_aload_n dX8_lyingLevelsOf_6 rfl rfl ?_
  refine o_getR (b := 13) dX8_lyingLevelsOf_7 fgX8_28 sh_0 rfl rfl ?_
  refine o_getR (b := 14) dX8_lyingLevelsOf_10 fgX8_113 sh_13 rfl rfl ?_
  refine o_iload_n dX8_lyingLevelsOf_13 rfl rfl ?_
  refine o_aaldN (t := 3) (b := 15 + c) dX8_lyingLevelsOf_14 sh_14 (by decide) (by decide) hc4 (g4 15 hc4) ?_
  refine o_callV (as := [.ref (15 + c)]) (st := []) dX8_lyingLevelsOf_15 (k_measure1 (a := 88 + 4 * c) (isLv_l c hc4).1 (isLv_l c hc4).2 (b := 15 + c) (sk_13 c hc4) (by omega) (by omega) q0 q1 q2 q3 q4 (hK.cell hc (by decide)) (hK.cell hc (by decide)) (hK.cell hc (by decide)) (hV c hc4).1) rfl meX2_measure imX2_measure seX2_measure mlX8_247 (isLv_l c hc4).1 rfl rfl (by omega) (by decide) (Nat.le_of_ble_eq_true rfl) ?_
  rintro _ I1 ⟨rfl, hM, hf⟩
  refine o_aload_n dX8_lyingLevelsOf_18 rfl rfl ?_
  refine o_getR (b := 86) dX8_lyingLevelsOf_19 fgX8_56 sh_0 rfl rfl ?_
  refine o_iload_n dX8_lyingLevelsOf_22 rfl rfl ?_
  refine o_aaldN (t := 5) (b := 88 + 4 * c) dX8_lyingLevelsOf_23 sh_86 (by decide) (by decide) hc4 (g44 88 hc4) ?_
  exact o_aret dX8_lyingLevelsOf_24 rfl ⟨rfl, hM, hf, hV.lv1 hc4 hM ⟨q0, q1, q2, q3, q4⟩ hf⟩

set_option maxHeartbeats 4000000 in
set_option maxRecDepth 100000 in
theorem k_lev {I : sm_I} {K : KT} (hK : CK I 13 K) (hok : okK K) (hV : LV I) {c : Nat} (hc : c < K.1) : E0 5 mX8_levelsOf [.ref 0, .int (nI c)] I (fun r I' => ∃ a, r = some (.ref a) ∧ isLv a ∧ LM I' a (K.2 c 3) (K.2 c 0) (K.2 c 1) (K.2 c 2) ∧ frC I I' ∧ LV I') := by
  have hn := hok.1
  have hc4 : c < 4 := by omega
  obtain ⟨q0, q1, q2, q3, q4, q5, q6, q7⟩ := hok.2 c hc
  refine E0.of (by decide) (by simp [Value.category]) (Nat.le_of_ble_eq_true rfl) (fun ζ => ?_)
  by_cases hl : K.2 c 3 = 0
  · refine o_aload_n dX8_levelsOf_0 rfl rfl ?_
    refine o_getR (b := 13) dX8_levelsOf_1 fgX8_28 sh_0 rfl rfl ?_
    refine o_getR (b := 14) dX8_levelsOf_4 fgX8_113 sh_13 rfl rfl ?_
    refine o_iload_n dX8_levelsOf_7 rfl rfl ?_
    refine o_aaldN (t := 3) (b := 15 + c) dX8_levelsOf_8 sh_14 (by decide) (by decide) hc4 (g4 15 hc4) ?_
    refine o_getI (v := nI 0) dX8_levelsOf_9 fgX8_129 (sk_13 c hc4) rfl ((hK.cell hc (by decide)).trans (by rw [hl])) ?_
    refine o_ifN_eq (tgt := 21) dX8_levelsOf_12 (by decide) (by omega) (fun b_55 => ?_) (fun b_55 => absurd b_55 (by omega))
    refine o_aload_n dX8_levelsOf_21 rfl rfl ?_
    refine o_getR (b := 87) dX8_levelsOf_22 fgX8_60 sh_0 rfl rfl ?_
    refine o_iload_n dX8_levelsOf_25 rfl rfl ?_
    refine o_aaldN (t := 5) (b := 90 + 4 * c) dX8_levelsOf_26 sh_87 (by decide) (by decide) hc4 (g44 90 hc4) ?_
    refine o_aload_n dX8_levelsOf_27 rfl rfl ?_
    refine o_getR (b := 13) dX8_levelsOf_28 fgX8_28 sh_0 rfl rfl ?_
    refine o_getR (b := 14) dX8_levelsOf_31 fgX8_113 sh_13 rfl rfl ?_
    refine o_iload_n dX8_levelsOf_34 rfl rfl ?_
    refine o_aaldN (t := 3) (b := 15 + c) dX8_levelsOf_35 sh_14 (by decide) (by decide) hc4 (g4 15 hc4) ?_
    refine o_callV (as := [.ref (15 + c)]) (st := []) dX8_levelsOf_36 (k_measure0 (a := 90 + 4 * c) (isLv_s c hc4).1 (isLv_s c hc4).2 (b := 15 + c) (sk_13 c hc4) (by omega) (by omega) q0 q1 q2 q3 q4 (hK.cell hc (by decide)) (hK.cell hc (by decide)) (hK.cell hc (by decide)) (hV c hc4).2) rfl meX2_measure imX2_measure seX2_measure mlX8_247 (isLv_s c hc4).1 rfl rfl (by omega) (by decide) (Nat.le_of_ble_eq_true rfl) ?_
    rintro _ I1 ⟨rfl, hM, hf⟩
    refine o_aload_n dX8_levelsOf_39 rfl rfl ?_
    refine o_getR (b := 87) dX8_levelsOf_40 fgX8_60 sh_0 rfl rfl ?_
    refine o_iload_n dX8_levelsOf_43 rfl rfl ?_
    refine o_aaldN (t := 5) (b := 90 + 4 * c) dX8_levelsOf_44 sh_87 (by decide) (by decide) hc4 (g44 90 hc4) ?_
    exact o_aret dX8_levelsOf_45 rfl ⟨_, rfl, isLv_s c hc4, by rw [hl]; exact hM, hf.C (by omega), hV.lv0 hc4 hM ⟨q0, q1, q2, q3, q4⟩ hf⟩
  · have hl1 : K.2 c 3 = 1 := by omega
    refine o_aload_n dX8_levelsOf_0 rfl rfl ?_
    refine o_getR (b := 13) dX8_levelsOf_1 fgX8_28 sh_0 rfl rfl ?_
    refine o_getR (b := 14) dX8_levelsOf_4 fgX8_113 sh_13 rfl rfl ?_
    refine o_iload_n dX8_levelsOf_7 rfl rfl ?_
    refine o_aaldN (t := 3) (b := 15 + c) dX8_levelsOf_8 sh_14 (by decide) (by decide) hc4 (g4 15 hc4) ?_
    refine o_getI (v := nI 1) dX8_levelsOf_9 fgX8_129 (sk_13 c hc4) rfl ((hK.cell hc (by decide)).trans (by rw [hl1])) ?_
    refine o_ifN_eq (tgt := 21) dX8_levelsOf_12 (by decide) (by omega) (fun b_56 => absurd b_56 (by omega)) (fun b_56 => ?_)
    refine o_aload_n dX8_levelsOf_15 rfl rfl ?_
    refine o_iload_n dX8_levelsOf_16 rfl rfl ?_
    refine o_callV (as := [.int (nI c)]) (st := []) dX8_levelsOf_17 (k_lyl hK hok hV hc) rfl meX8_lyingLevelsOf imX8_lyingLevelsOf seX8_lyingLevelsOf mlX8_217 sh_0 rfl rfl (by omega) (by decide) (Nat.le_of_ble_eq_true rfl) ?_
    rintro _ I1 ⟨rfl, hM, hf, hV1⟩
    exact o_aret dX8_levelsOf_20 rfl ⟨_, rfl, isLv_l c hc4, by rw [hl1]; exact hM, hf.C (by omega), hV1⟩
