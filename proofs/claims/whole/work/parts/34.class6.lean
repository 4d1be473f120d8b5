theorem CI.mk {I : sm_I} {S : ST} (h1 : CK I 13 S.1) (h2 : CT I S.2.1) (h3 : CP I S.2.2.1) (h4 : CIm I S.2.2.2.1) (h5 : CSn I S.2.2.2.2) (h6 : LV I) : CI I S := ⟨h1, h2, h3, h4, h5, h6⟩
theorem CI.txt {I I' : sm_I} {S : ST} {T : TX} (h : CI I S) (hS : okS S) (hT : CT I' T) (hf : ∀ x k, ¬ (1 ≤ x ∧ x ≤ 2) → I' x k = I x k) : CI I' (S.1, T, S.2.2) := by
  obtain ⟨h1, h2, h3, h4, h5, h6⟩ := h
  exact ⟨h1.fr hS.1.1 (fun b k g1 g2 => hf b k (by omega)), hT, h3.of (fun k hk => (hS.2.2.1.2 k hk).1) (fun b k g1 g2 => hf b k (by omega)), h4.of hS.2.2.2.1 (fun b k g1 g2 => hf b k (by omega)), h5.of (fun b k g1 g2 => hf b k (by omega)), h6.of (fun b k g1 g2 => hf b k (by omega))⟩
theorem CI.sn {I I' : sm_I} {S : ST} {N : Nat × (Nat → Nat) × (Nat → Nat)} (h : CI I S) (hS : okS S) (hT : CSn I' N) (hf : ∀ x k, ¬ (83 ≤ x ∧ x ≤ 85) → I' x k = I x k) : CI I' (S.1, S.2.1, S.2.2.1, S.2.2.2.1, N) := by
  obtain ⟨h1, h2, h3, h4, h5, h6⟩ := h
  exact ⟨h1.fr hS.1.1 (fun b k g1 g2 => hf b k (by omega)), h2.of (hf _ _ (by omega)) (fun k => hf _ _ (by omega)), h3.of (fun k hk => (hS.2.2.1.2 k hk).1) (fun b k g1 g2 => hf b k (by omega)), h4.of hS.2.2.2.1 (fun b k g1 g2 => hf b k (by omega)), hT, h6.of (fun b k g1 g2 => hf b k (by omega))⟩

theorem ty_get {I : sm_I} {n a : Nat} {f : Nat → Nat} {v : Int32} (h : ∀ j, j < n → I 2 j = nI (f j)) {j : Nat} (hj : j < n + 1) : up2 (up2 I 2 n (nI a)) 1 1 v 2 j = nI (if j = n then a else f j) := by
  rw [up2_x (by omega)]
  by_cases hx : j = n
  · subst hx; rw [up2_s, if_pos rfl]
  · rw [up2_x (by omega), if_neg hx]; exact h j (by omega)

set_option maxHeartbeats 4000000 in
set_option maxRecDepth 100000 in
theorem k_tadd {I : sm_I} {n a : Nat} (h1 : I 1 1 = nI n) (hn : n ≤ 60) : E0 0 mX7_add [.ref 1, .int (nI a)] I (fun r I' => (n = 60 → r = some (.int (nI 0)) ∧ I' = I) ∧ (¬ n = 60 → r = some (.int (nI 1)) ∧ I' = up2 (up2 I 2 n (nI a)) 1 1 (nI (n + 1)))) := by
  refine E0.of (by decide) (by simp [Value.category]) (Nat.le_of_ble_eq_true rfl) (fun ζ => ?_)
  refine o_aload_n dX7_add_0 rfl rfl ?_
  refine o_getI (v := nI n) dX7_add_1 fgX7_24 sh_1 rfl h1 ?_
  refine o_bipush (v := nI 60) dX7_add_4 (by decide) ?_
  refine o_icmpN_lt (tgt := 11) dX7_add_6 (by decide) (by omega) (by omega) (fun b_91 => ?_) (fun b_91 => ?_)
  · refine o_aload_n dX7_add_11 rfl rfl ?_
    refine o_getR (b := 2) dX7_add_12 fgX7_9 sh_1 rfl rfl ?_
    refine o_aload_n dX7_add_15 rfl rfl ?_
    refine o_getI (v := nI n) dX7_add_16 fgX7_24 sh_1 rfl h1 ?_
    refine o_iload_n dX7_add_19 rfl rfl ?_
    refine o_iastN dX7_add_20 sh_2 (by decide) (by omega) ?_
    refine o_aload_n dX7_add_21 rfl rfl ?_
    refine o_dup dX7_add_22 rfl ?_
    refine o_getI (v := nI n) dX7_add_23 fgX7_24 sh_1 rfl ((up2_x (by omega)).trans h1) ?_
    refine o_iconst (v := nI 1) dX7_add_26 (by decide) ?_
    refine o_iaddN dX7_add_27 ?_
    refine o_putI dX7_add_28 flX7_24 sh_1 rfl ?_
    refine o_iconst (v := nI 1) dX7_add_31 (by decide) ?_
    exact o_zret dX7_add_32 rfl (by decide) ⟨fun z => absurd z (by omega), fun z => ⟨rfl, rfl⟩⟩
  · refine o_iconst (v := nI 0) dX7_add_9 (by decide) ?_
    exact o_zret dX7_add_10 rfl (by decide) ⟨fun z => ⟨rfl, rfl⟩, fun z => absurd z (by omega)⟩

set_option maxHeartbeats 4000000 in
set_option maxRecDepth 100000 in
theorem n_type {I : sm_I} {S : ST} (hC : CI I S) (hS : okS S) (x : Int32) : E0 7 mX8_type [.ref 0, .int x] I (fun r I' => r = some (.int (sp_type S x).1) ∧ CI I' (sp_type S x).2 ∧ hiC I I') := by
  have hK := hC.1
  have hok := hS.1
  have hn := hok.1
  have hV := hC.2.2.2.2.2
  refine E0.of (by decide) (by simp [Value.category]) (Nat.le_of_ble_eq_true rfl) (fun ζ => ?_)
  refine o_iload_n dX8_type_0 rfl rfl ?_
  refine o_if_lt (tgt := 11) dX8_type_1 (by decide) (fun b_92 => ?_) (fun b_92 => ?_)
  · refine o_iconst (v := (-1)) dX8_type_11 (by decide) ?_
    exact o_iret dX8_type_12 rfl (by rw [show sp_type S x = (-1, S) by simp only [sp_type, cg_in_none (by decide : 0 < 2 ^ 31) (by decide : 255 < 2 ^ 31) (fun q => absurd q.1 (Int32.not_le.mpr b_92))]]; exact ⟨rfl, (hC.fr hS (frC.refl _) hV), (frC.refl _).hi⟩)
  · refine o_iload_n dX8_type_4 rfl rfl ?_
    refine o_sipush (v := nI 255) dX8_type_5 (by decide) ?_
    refine o_icmp_le (tgt := 13) dX8_type_8 (by decide) (fun b_93 => ?_) (fun b_93 => ?_)
    · obtain ⟨a, -, ha2, rfl⟩ := in_nat (a := 0) (b := 255) (by omega) (by omega) (Int32.not_lt.mp b_92) b_93
      by_cases h60 : S.2.1.1 = 60
      · refine o_aload_n dX8_type_13 rfl rfl ?_
        refine o_getR (b := 1) dX8_type_14 fgX8_12 sh_0 rfl rfl ?_
        refine o_iload_n dX8_type_17 rfl rfl ?_
        refine o_callV (as := [.int (nI a)]) (st := []) dX8_type_18 (k_tadd hC.2.1.1 hS.2.1.1) rfl meX7_add imX7_add seX7_add mlX8_77 sh_1 rfl rfl (by omega) (by decide) (Nat.le_of_ble_eq_true rfl) ?_
        rintro _ I1 ⟨hr, -⟩
        obtain ⟨rfl, rfl⟩ := hr h60
        refine o_ifN_eq (tgt := 34) dX8_type_21 (by decide) (by omega) (fun b_94 => ?_) (fun b_94 => absurd b_94 (by omega))
        refine o_bipush (v := (-3)) dX8_type_34 (by decide) ?_
        exact o_iret dX8_type_36 rfl (by rw [show sp_type S (nI a) = (-3, S) by simp only [sp_type, cg_in_some (Nat.zero_le a) ha2 (by decide : 255 < 2 ^ 31), if_pos h60]]; exact ⟨rfl, (hC.fr hS (frC.refl _) hV), (frC.refl _).hi⟩)
      · refine o_aload_n dX8_type_13 rfl rfl ?_
        refine o_getR (b := 1) dX8_type_14 fgX8_12 sh_0 rfl rfl ?_
        refine o_iload_n dX8_type_17 rfl rfl ?_
        refine o_callV (as := [.int (nI a)]) (st := []) dX8_type_18 (k_tadd hC.2.1.1 hS.2.1.1) rfl meX7_add imX7_add seX7_add mlX8_77 sh_1 rfl rfl (by omega) (by decide) (Nat.le_of_ble_eq_true rfl) ?_
        rintro _ I1 ⟨-, hr⟩
        obtain ⟨rfl, rfl⟩ := hr h60
        refine o_ifN_eq (tgt := 34) dX8_type_21 (by decide) (by omega) (fun b_95 => absurd b_95 (by omega)) (fun b_95 => ?_)
        refine o_aload_n dX8_type_24 rfl rfl ?_
        refine o_getR (b := 1) dX8_type_25 fgX8_12 sh_0 rfl rfl ?_
        refine o_getI (v := nI (S.2.1.1 + 1)) dX8_type_28 fgX8_81 sh_1 rfl up2_s ?_
        refine o_goto (tgt := 36) dX8_type_31 (by decide) ?_
        exact o_iret dX8_type_36 rfl (by rw [show sp_type S (nI a) = (nI (S.2.1.1 + 1), (S.1, (S.2.1.1 + 1, fun j => if j = S.2.1.1 then a else S.2.1.2 j), S.2.2)) by simp only [sp_type, cg_in_some (Nat.zero_le a) ha2 (by decide : 255 < 2 ^ 31), if_neg h60]]; exact ⟨rfl, CI.txt hC hS ⟨up2_s, fun j hj => ty_get hC.2.1.2 hj⟩ (fun x k z => (up2_x (by omega)).trans (up2_x (by omega))), fun x k z => (up2_x (by omega)).trans (up2_x (by omega))⟩)
    · refine o_iconst (v := (-1)) dX8_type_11 (by decide) ?_
      exact o_iret dX8_type_12 rfl (by rw [show sp_type S x = (-1, S) by simp only [sp_type, cg_in_none (by decide : 0 < 2 ^ 31) (by decide : 255 < 2 ^ 31) (fun q => absurd q.2 b_93)]]; exact ⟨rfl, (hC.fr hS (frC.refl _) hV), (frC.refl _).hi⟩)

set_option maxHeartbeats 4000000 in
set_option maxRecDepth 100000 in
theorem n_clear {I : sm_I} {S : ST} (hC : CI I S) (hS : okS S) : E0 7 mX8_clear [.ref 0] I (fun r I' => r = some (.int (sp_clear S).1) ∧ CI I' (sp_clear S).2 ∧ hiC I I') := by
  have hK := hC.1
  have hok := hS.1
  have hn := hok.1
  have hV := hC.2.2.2.2.2
  refine E0.of (by decide) (by simp [Value.category]) (Nat.le_of_ble_eq_true rfl) (fun ζ => ?_)
  refine o_aload_n dX8_clear_0 rfl rfl ?_
  refine o_getR (b := 1) dX8_clear_1 fgX8_12 sh_0 rfl rfl ?_
  refine o_getI (v := nI S.2.1.1) dX8_clear_4 fgX8_81 sh_1 rfl hC.2.1.1 ?_
  refine o_istore_n dX8_clear_7 rfl (by decide) ?_
  refine o_aload_n dX8_clear_8 rfl rfl ?_
  refine o_getR (b := 1) dX8_clear_9 fgX8_12 sh_0 rfl rfl ?_
  refine o_iconst (v := nI 0) dX8_clear_12 (by decide) ?_
  refine o_putI dX8_clear_13 flX8_81 sh_1 rfl ?_
  refine o_iload_n dX8_clear_16 rfl rfl ?_
  exact o_iret dX8_clear_17 rfl ⟨rfl, CI.txt hC hS ⟨up2_s, fun j hj => absurd hj (Nat.not_lt_zero j)⟩ (fun x k z => up2_x (by omega)), fun x k z => up2_x (by omega)⟩

set_option maxHeartbeats 4000000 in
set_option maxRecDepth 100000 in
theorem k_sadd {I : sm_I} {n a b : Nat} (h1 : I 83 2 = nI n) (hn : n ≤ 6) : E0 0 mX6_add [.ref 83, .int (nI a), .int (nI b)] I (fun r I' => (n = 6 → r = some (.int (nI 0)) ∧ I' = I) ∧ (¬ n = 6 → r = some (.int (nI 1)) ∧ I' = up2 (up2 (up2 I 84 n (nI a)) 85 n (nI b)) 83 2 (nI (n + 1)))) := by
  refine E0.of (by decide) (by simp [Value.category]) (Nat.le_of_ble_eq_true rfl) (fun ζ => ?_)
  refine o_aload_n dX6_add_0 rfl rfl ?_
  refine o_getI (v := nI n) dX6_add_1 fgX6_18 sh_83 rfl h1 ?_
  refine o_bipush (v := nI 6) dX6_add_4 (by decide) ?_
  refine o_icmpN_lt (tgt := 11) dX6_add_6 (by decide) (by omega) (by omega) (fun b_96 => ?_) (fun b_96 => ?_)
  · refine o_aload_n dX6_add_11 rfl rfl ?_
    refine o_getR (b := 84) dX6_add_12 fgX6_9 sh_83 rfl rfl ?_
    refine o_aload_n dX6_add_15 rfl rfl ?_
    refine o_getI (v := nI n) dX6_add_16 fgX6_18 sh_83 rfl h1 ?_
    refine o_iload_n dX6_add_19 rfl rfl ?_
    refine o_iastN dX6_add_20 sh_84 (by decide) (by omega) ?_
    refine o_aload_n dX6_add_21 rfl rfl ?_
    refine o_getR (b := 85) dX6_add_22 fgX6_15 sh_83 rfl rfl ?_
    refine o_aload_n dX6_add_25 rfl rfl ?_
    refine o_getI (v := nI n) dX6_add_26 fgX6_18 sh_83 rfl ((up2_x (by omega)).trans h1) ?_
    refine o_iload_n dX6_add_29 rfl rfl ?_
    refine o_iastN dX6_add_30 sh_85 (by decide) (by omega) ?_
    refine o_aload_n dX6_add_31 rfl rfl ?_
    refine o_dup dX6_add_32 rfl ?_
    refine o_getI (v := nI n) dX6_add_33 fgX6_18 sh_83 rfl ((up2_x (by omega)).trans ((up2_x (by omega)).trans h1)) ?_
    refine o_iconst (v := nI 1) dX6_add_36 (by decide) ?_
    refine o_iaddN dX6_add_37 ?_
    refine o_putI dX6_add_38 flX6_18 sh_83 rfl ?_
    refine o_iconst (v := nI 1) dX6_add_41 (by decide) ?_
    exact o_zret dX6_add_42 rfl (by decide) ⟨fun z => absurd z (by omega), fun z => ⟨rfl, rfl⟩⟩
  · refine o_iconst (v := nI 0) dX6_add_9 (by decide) ?_
    exact o_zret dX6_add_10 rfl (by decide) ⟨fun z => ⟨rfl, rfl⟩, fun z => absurd z (by omega)⟩

theorem se_get {I : sm_I} {n a b : Nat} {f g : Nat → Nat} {v : Int32} (h : ∀ j, j < n → I 84 j = nI (f j) ∧ I 85 j = nI (g j)) {j : Nat} (hj : j < n + 1) : up2 (up2 (up2 I 84 n (nI a)) 85 n (nI b)) 83 2 v 84 j = nI (if j = n then a else f j) ∧ up2 (up2 (up2 I 84 n (nI a)) 85 n (nI b)) 83 2 v 85 j = nI (if j = n then b else g j) := by
  by_cases hx : j = n
  · subst hx
    rw [if_pos rfl, if_pos rfl]
    exact ⟨(up2_x (by omega)).trans ((up2_x (by omega)).trans up2_s), (up2_x (by omega)).trans up2_s⟩
  · rw [if_neg hx, if_neg hx]
    exact ⟨(up2_x (by omega)).trans ((up2_x (by omega)).trans ((up2_x (by omega)).trans (h j (by omega)).1)), (up2_x (by omega)).trans ((up2_x (by omega)).trans ((up2_x (by omega)).trans (h j (by omega)).2))⟩

set_option maxHeartbeats 4000000 in
set_option maxRecDepth 100000 in
theorem n_sees {I : sm_I} {S : ST} (hC : CI I S) (hS : okS S) (n y : Int32) : E0 7 mX8_sees [.ref 0, .int n, .int y] I (fun r I' => r = some (.int (sp_sees S n y).1) ∧ CI I' (sp_sees S n y).2 ∧ hiC I I') := by
  have hK := hC.1
  have hok := hS.1
  have hn := hok.1
  have hV := hC.2.2.2.2.2
  refine E0.of (by decide) (by simp [Value.category]) (Nat.le_of_ble_eq_true rfl) (fun ζ => ?_)
  refine o_iload_n dX8_sees_0 rfl rfl ?_
  refine o_if_lt (tgt := 20) dX8_sees_1 (by decide) (fun b_97 => ?_) (fun b_97 => ?_)
  · refine o_iconst (v := (-1)) dX8_sees_20 (by decide) ?_
    exact o_iret dX8_sees_21 rfl (by rw [show sp_sees S n y = (-1, S) by simp only [sp_sees, cg_in_none (by decide : 0 < 2 ^ 31) (by decide : 99999 < 2 ^ 31) (fun q => absurd q.1 (Int32.not_le.mpr b_97))]]; exact ⟨rfl, (hC.fr hS (frC.refl _) hV), (frC.refl _).hi⟩)
  · refine o_iload_n dX8_sees_4 rfl rfl ?_
    refine o_ldc (v := nI 99999) dX8_sees_5 kcX8_211 ?_
    refine o_icmp_gt (tgt := 20) dX8_sees_7 (by decide) (fun b_98 => ?_) (fun b_98 => ?_)
    · refine o_iconst (v := (-1)) dX8_sees_20 (by decide) ?_
      exact o_iret dX8_sees_21 rfl (by rw [show sp_sees S n y = (-1, S) by simp only [sp_sees, cg_in_none (by decide : 0 < 2 ^ 31) (by decide : 99999 < 2 ^ 31) (fun q => absurd q.2 (Int32.not_le.mpr b_98))]]; exact ⟨rfl, (hC.fr hS (frC.refl _) hV), (frC.refl _).hi⟩)
    · obtain ⟨a, -, ha2, rfl⟩ := in_nat (a := 0) (b := 99999) (by omega) (by omega) (Int32.not_lt.mp b_97) (Int32.not_lt.mp b_98)
      refine o_iload_n dX8_sees_10 rfl rfl ?_
      refine o_if_lt (tgt := 20) dX8_sees_11 (by decide) (fun b_99 => ?_) (fun b_99 => ?_)
      · refine o_iconst (v := (-1)) dX8_sees_20 (by decide) ?_
        exact o_iret dX8_sees_21 rfl (by rw [show sp_sees S (nI a) y = (-1, S) by simp only [sp_sees, cg_in_some (Nat.zero_le a) ha2 (by decide : 99999 < 2 ^ 31), cg_in_none (by decide : 0 < 2 ^ 31) (by decide : 40 < 2 ^ 31) (fun q => absurd q.1 (Int32.not_le.mpr b_99))]]; exact ⟨rfl, (hC.fr hS (frC.refl _) hV), (frC.refl _).hi⟩)
      · refine o_iload_n dX8_sees_14 rfl rfl ?_
        refine o_bipush (v := nI 40) dX8_sees_15 (by decide) ?_
        refine o_icmp_le (tgt := 22) dX8_sees_17 (by decide) (fun b_100 => ?_) (fun b_100 => ?_)
        · obtain ⟨b, -, hb2, rfl⟩ := in_nat (a := 0) (b := 40) (by omega) (by omega) (Int32.not_lt.mp b_99) b_100
          by_cases h60 : S.2.2.2.2.1 = 6
          · refine o_aload_n dX8_sees_22 rfl rfl ?_
            refine o_getR (b := 83) dX8_sees_23 fgX8_50 sh_0 rfl rfl ?_
            refine o_iload_n dX8_sees_26 rfl rfl ?_
            refine o_iload_n dX8_sees_27 rfl rfl ?_
            refine o_callV (as := [.int (nI a), .int (nI b)]) (st := []) dX8_sees_28 (k_sadd hC.2.2.2.2.1.1 hS.2.2.2.2.1) rfl meX6_add imX6_add seX6_add mlX8_212 sh_83 rfl rfl (by omega) (by decide) (Nat.le_of_ble_eq_true rfl) ?_
            rintro _ I1 ⟨hr, -⟩
            obtain ⟨rfl, rfl⟩ := hr h60
            refine o_ifN_eq (tgt := 44) dX8_sees_31 (by decide) (by omega) (fun b_101 => ?_) (fun b_101 => absurd b_101 (by omega))
            refine o_bipush (v := (-3)) dX8_sees_44 (by decide) ?_
            exact o_iret dX8_sees_46 rfl (by rw [show sp_sees S (nI a) (nI b) = (-3, S) by simp only [sp_sees, cg_in_some (Nat.zero_le a) ha2 (by decide : 99999 < 2 ^ 31), cg_in_some (Nat.zero_le b) hb2 (by decide : 40 < 2 ^ 31), if_pos h60]]; exact ⟨rfl, (hC.fr hS (frC.refl _) hV), (frC.refl _).hi⟩)
          · refine o_aload_n dX8_sees_22 rfl rfl ?_
            refine o_getR (b := 83) dX8_sees_23 fgX8_50 sh_0 rfl rfl ?_
            refine o_iload_n dX8_sees_26 rfl rfl ?_
            refine o_iload_n dX8_sees_27 rfl rfl ?_
            refine o_callV (as := [.int (nI a), .int (nI b)]) (st := []) dX8_sees_28 (k_sadd hC.2.2.2.2.1.1 hS.2.2.2.2.1) rfl meX6_add imX6_add seX6_add mlX8_212 sh_83 rfl rfl (by omega) (by decide) (Nat.le_of_ble_eq_true rfl) ?_
            rintro _ I1 ⟨-, hr⟩
            obtain ⟨rfl, rfl⟩ := hr h60
            refine o_ifN_eq (tgt := 44) dX8_sees_31 (by decide) (by omega) (fun b_102 => absurd b_102 (by omega)) (fun b_102 => ?_)
            refine o_aload_n dX8_sees_34 rfl rfl ?_
            refine o_getR (b := 83) dX8_sees_35 fgX8_50 sh_0 rfl rfl ?_
            refine o_getI (v := nI (S.2.2.2.2.1 + 1)) dX8_sees_38 fgX8_215 sh_83 rfl up2_s ?_
            refine o_goto (tgt := 46) dX8_sees_41 (by decide) ?_
            exact o_iret dX8_sees_46 rfl (by rw [show sp_sees S (nI a) (nI b) = (nI (S.2.2.2.2.1 + 1), (S.1, S.2.1, S.2.2.1, S.2.2.2.1, (S.2.2.2.2.1 + 1, (fun j => if j = S.2.2.2.2.1 then a else S.2.2.2.2.2.1 j), (fun j => if j = S.2.2.2.2.1 then b else S.2.2.2.2.2.2 j)))) by simp only [sp_sees, cg_in_some (Nat.zero_le a) ha2 (by decide : 99999 < 2 ^ 31), cg_in_some (Nat.zero_le b) hb2 (by decide : 40 < 2 ^ 31), if_neg h60]]; exact ⟨rfl, CI.sn hC hS ⟨up2_s, fun j hj => se_get hC.2.2.2.2.1.2 hj⟩ (fun x k z => (up2_x (by omega)).trans ((up2_x (by omega)).trans (up2_x (by omega)))), fun x k z => (up2_x (by omega)).trans ((up2_x (by omega)).trans (up2_x (by omega)))⟩)
        · refine o_iconst (v := (-1)) dX8_sees_20 (by decide) ?_
          exact o_iret dX8_sees_21 rfl (by rw [show sp_sees S (nI a) y = (-1, S) by simp only [sp_sees, cg_in_some (Nat.zero_le a) ha2 (by decide : 99999 < 2 ^ 31), cg_in_none (by decide : 0 < 2 ^ 31) (by decide : 40 < 2 ^ 31) (fun q => absurd q.2 b_100)]]; exact ⟨rfl, (hC.fr hS (frC.refl _) hV), (frC.refl _).hi⟩)

set_option maxHeartbeats 4000000 in
set_option maxRecDepth 100000 in
theorem n_forget {I : sm_I} {S : ST} (hC : CI I S) (hS : okS S) : E0 7 mX8_forget [.ref 0] I (fun r I' => r = some (.int (sp_forget S).1) ∧ CI I' (sp_forget S).2 ∧ hiC I I') := by
  have hK := hC.1
  have hok := hS.1
  have hn := hok.1
  have hV := hC.2.2.2.2.2
  refine E0.of (by decide) (by simp [Value.category]) (Nat.le_of_ble_eq_true rfl) (fun ζ => ?_)
  refine o_aload_n dX8_forget_0 rfl rfl ?_
  refine o_getR (b := 83) dX8_forget_1 fgX8_50 sh_0 rfl rfl ?_
  refine o_getI (v := nI S.2.2.2.2.1) dX8_forget_4 fgX8_215 sh_83 rfl hC.2.2.2.2.1.1 ?_
  refine o_istore_n dX8_forget_7 rfl (by decide) ?_
  refine o_aload_n dX8_forget_8 rfl rfl ?_
  refine o_getR (b := 83) dX8_forget_9 fgX8_50 sh_0 rfl rfl ?_
  refine o_iconst (v := nI 0) dX8_forget_12 (by decide) ?_
  refine o_putI dX8_forget_13 flX8_215 sh_83 rfl ?_
  refine o_iload_n dX8_forget_16 rfl rfl ?_
  exact o_iret dX8_forget_17 rfl ⟨rfl, CI.sn hC hS ⟨up2_s, fun j hj => absurd hj (Nat.not_lt_zero j)⟩ (fun x k z => up2_x (by omega)), fun x k z => up2_x (by omega)⟩

theorem CI.keep {I I1 : sm_I} {S : ST} {a : Nat} (h : CI I S) (hS : okS S) (ha : a ≤ 1) (hK : CK I1 (71 + 6 * a) S.1) (hf : ∀ x k, (x < 71 + 6 * a ∨ 71 + 6 * a + 6 ≤ x) → I1 x k = I x k) : CI (up2 I1 70 a (nI 1)) (S.1, S.2.1, S.2.2.1, (fun j => if j = a then some S.1 else S.2.2.2.1 j), S.2.2.2.2) := by
  obtain ⟨h1, h2, h3, h4, h5, h6⟩ := h
  have e : ∀ x k, ¬ (70 ≤ x ∧ x ≤ 82) → up2 I1 70 a (nI 1) x k = I x k := fun x k z => (up2_x (by omega)).trans (hf x k (by omega))
  refine ⟨h1.fr hS.1.1 (fun b k g1 g2 => e b k (by omega)), h2.of (e _ _ (by omega)) (fun k => e _ _ (by omega)), h3.of (fun k hk => (hS.2.2.1.2 k hk).1) (fun b k g1 g2 => e b k (by omega)), fun i hi => ?_, h5.of (fun b k g1 g2 => e b k (by omega)), h6.of (fun b k g1 g2 => e b k (by omega))⟩
  show ((if i = a then some S.1 else S.2.2.2.1 i) = none → _) ∧ ∀ K, (if i = a then some S.1 else S.2.2.2.1 i) = some K → _
  by_cases hx : i = a
  · subst hx
    rw [if_pos rfl]
    refine ⟨fun z => absurd z (by simp), fun K z => ?_⟩
    cases z
    exact ⟨up2_s, hK.fr hS.1.1 (fun b k g1 g2 => up2_x (by omega))⟩
  · rw [if_neg hx]
    refine ⟨fun z => (up2_x (by omega)).trans ((hf _ _ (by omega)).trans ((h4 i hi).1 z)), fun K z => ⟨(up2_x (by omega)).trans ((hf _ _ (by omega)).trans ((h4 i hi).2 K z).1), ((h4 i hi).2 K z).2.fr (hS.2.2.2.1 i K hi z).1 (fun b k g1 g2 => (up2_x (by omega)).trans (hf b k (by omega)))⟩⟩

set_option maxHeartbeats 4000000 in
set_option maxRecDepth 100000 in
theorem n_keep {I : sm_I} {S : ST} (hC : CI I S) (hS : okS S) (x : Int32) : E0 7 mX8_keep [.ref 0, .int x] I (fun r I' => r = some (.int (sp_keep S x).1) ∧ CI I' (sp_keep S x).2 ∧ hiC I I') := by
  have hK := hC.1
  have hok := hS.1
  have hn := hok.1
  have hV := hC.2.2.2.2.2
  refine E0.of (by decide) (by simp [Value.category]) (Nat.le_of_ble_eq_true rfl) (fun ζ => ?_)
  refine o_iload_n dX8_keep_0 rfl rfl ?_
  refine o_if_lt (tgt := 9) dX8_keep_1 (by decide) (fun b_103 => ?_) (fun b_103 => ?_)
  · refine o_iconst (v := (-1)) dX8_keep_9 (by decide) ?_
    exact o_iret dX8_keep_10 rfl (by rw [show sp_keep S x = (-1, S) by simp only [sp_keep, cg_in_none (by decide : 0 < 2 ^ 31) (by decide : 1 < 2 ^ 31) (fun q => absurd q.1 (Int32.not_le.mpr b_103))]]; exact ⟨rfl, (hC.fr hS (frC.refl _) hV), (frC.refl _).hi⟩)
  · refine o_iload_n dX8_keep_4 rfl rfl ?_
    refine o_iconst (v := nI 2) dX8_keep_5 (by decide) ?_
    refine o_icmp_lt (tgt := 11) dX8_keep_6 (by decide) (fun b_104 => ?_) (fun b_104 => ?_)
    · obtain ⟨a, ha2, rfl, -⟩ := has_inS (n := 2) (by omega) b_103 (Int32.not_le.mpr b_104)
      have ha1 : a ≤ 1 := by omega
      refine o_aload_n dX8_keep_11 rfl rfl ?_
      refine o_getR (b := 69) dX8_keep_12 fgX8_39 sh_0 rfl rfl ?_
      refine o_iload_n dX8_keep_15 rfl rfl ?_
      refine o_aaldN (t := 4) (b := 71 + 6 * a) dX8_keep_16 sh_69 (by decide) (by decide) (by omega) (g62 71 (by omega)) ?_
      refine o_aload_n dX8_keep_17 rfl rfl ?_
      refine o_getR (b := 13) dX8_keep_18 fgX8_28 sh_0 rfl rfl ?_
      refine o_callV (as := [.ref 13]) (st := []) dX8_keep_21 (k_clcopy (isCl_im a ha2) isCl_13 (by omega) hn hok.l hK) rfl meX1_copyFrom imX1_copyFrom seX1_copyFrom mlX8_100 (isCl_im a (by omega)).1 rfl rfl (by omega) (by decide) (Nat.le_of_ble_eq_true rfl) ?_
      rintro _ I1 ⟨rfl, g1, g2⟩
      refine o_aload_n dX8_keep_24 rfl rfl ?_
      refine o_getR (b := 70) dX8_keep_25 fgX8_43 sh_0 rfl rfl ?_
      refine o_iload_n dX8_keep_28 rfl rfl ?_
      refine o_iconst (v := nI 1) dX8_keep_29 (by decide) ?_
      refine o_zastN dX8_keep_30 sh_70 (by decide) (by omega) (by decide) ?_
      refine o_aload_n dX8_keep_31 rfl rfl ?_
      refine o_getR (b := 13) dX8_keep_32 fgX8_28 sh_0 rfl rfl ?_
      refine o_getI (v := nI S.1.1) dX8_keep_35 fgX8_216 sh_13 rfl ((up2_x (by omega)).trans ((g2 _ _ (by omega)).trans hK.1)) ?_
      exact o_iret dX8_keep_38 rfl (by rw [show sp_keep S (nI a) = (nI S.1.1, (S.1, S.2.1, S.2.2.1, (fun j => if j = a then some S.1 else S.2.2.2.1 j), S.2.2.2.2)) by simp only [sp_keep, cg_in_some (Nat.zero_le a) ha1 (by decide : 1 < 2 ^ 31)]]; exact ⟨rfl, CI.keep hC hS ha1 g1 g2, fun x k z => (up2_x (by omega)).trans (g2 x k (by omega))⟩)
    · refine o_iconst (v := (-1)) dX8_keep_9 (by decide) ?_
      exact o_iret dX8_keep_10 rfl (by rw [show sp_keep S x = (-1, S) by simp only [sp_keep, cg_in_none (by decide : 0 < 2 ^ 31) (by decide : 1 < 2 ^ 31) (fun q => b_104 (Int32.lt_of_le_of_lt q.2 (by decide)))]]; exact ⟨rfl, (hC.fr hS (frC.refl _) hV), (frC.refl _).hi⟩)

theorem CP.none {I I' : sm_I} {P : PT} (h : CP I P) (e : I' 19 2 = nI 0) (hx : ∀ x k, x = 19 ∧ k = 1 → I' x k = I x k) : CP I' (0, P.2) := by
  obtain ⟨-, la, h2, h3, -⟩ := h
  exact ⟨e, la, h2, (hx _ _ ⟨rfl, rfl⟩).trans h3, fun k hk => absurd hk (Nat.not_lt_zero k)⟩

set_option maxHeartbeats 4000000 in
set_option maxRecDepth 100000 in
theorem n_back {I : sm_I} {S : ST} (hC : CI I S) (hS : okS S) (x : Int32) : E0 7 mX8_back [.ref 0, .int x] I (fun r I' => r = some (.int (sp_back S x).1) ∧ CI I' (sp_back S x).2 ∧ hiC I I') := by
  have hK := hC.1
  have hok := hS.1
  have hn := hok.1
  have hV := hC.2.2.2.2.2
  refine E0.of (by decide) (by simp [Value.category]) (Nat.le_of_ble_eq_true rfl) (fun ζ => ?_)
  refine o_iload_n dX8_back_0 rfl rfl ?_
  refine o_if_lt (tgt := 9) dX8_back_1 (by decide) (fun b_105 => ?_) (fun b_105 => ?_)
  · refine o_iconst (v := (-1)) dX8_back_9 (by decide) ?_
    exact o_iret dX8_back_10 rfl (by rw [show sp_back S x = (-1, S) by simp only [sp_back, cg_in_none (by decide : 0 < 2 ^ 31) (by decide : 1 < 2 ^ 31) (fun q => absurd q.1 (Int32.not_le.mpr b_105))]]; exact ⟨rfl, (hC.fr hS (frC.refl _) hV), (frC.refl _).hi⟩)
  · refine o_iload_n dX8_back_4 rfl rfl ?_
    refine o_iconst (v := nI 2) dX8_back_5 (by decide) ?_
    refine o_icmp_lt (tgt := 11) dX8_back_6 (by decide) (fun b_106 => ?_) (fun b_106 => ?_)
    · obtain ⟨a, ha2, rfl, -⟩ := has_inS (n := 2) (by omega) b_105 (Int32.not_le.mpr b_106)
      have ha1 : a ≤ 1 := by omega
      cases him : S.2.2.2.1 a with
      | none =>
        refine o_aload_n dX8_back_11 rfl rfl ?_
        refine o_getR (b := 70) dX8_back_12 fgX8_43 sh_0 rfl rfl ?_
        refine o_iload_n dX8_back_15 rfl rfl ?_
        refine o_zaldN (v := nI 0) dX8_back_16 sh_70 (by decide) (by omega) ((hC.2.2.2.1 a ha2).1 him) ?_
        refine o_ifN_ne (tgt := 23) dX8_back_17 (by decide) (by omega) (fun b_107 => absurd b_107 (by omega)) (fun b_107 => ?_)
        refine o_bipush (v := (-2)) dX8_back_20 (by decide) ?_
        exact o_iret dX8_back_22 rfl (by rw [show sp_back S (nI a) = (-2, S) by simp only [sp_back, cg_in_some (Nat.zero_le a) ha1 (by decide : 1 < 2 ^ 31), him]]; exact ⟨rfl, (hC.fr hS (frC.refl _) hV), (frC.refl _).hi⟩)
      | some K =>
        have hKo := hS.2.2.2.1 a K ha2 him
        obtain ⟨hk1, hKK⟩ := (hC.2.2.2.1 a ha2).2 K him
        refine o_aload_n dX8_back_11 rfl rfl ?_
        refine o_getR (b := 70) dX8_back_12 fgX8_43 sh_0 rfl rfl ?_
        refine o_iload_n dX8_back_15 rfl rfl ?_
        refine o_zaldN (v := nI 1) dX8_back_16 sh_70 (by decide) (by omega) hk1 ?_
        refine o_ifN_ne (tgt := 23) dX8_back_17 (by decide) (by omega) (fun b_108 => ?_) (fun b_108 => absurd b_108 (by omega))
        refine o_aload_n dX8_back_23 rfl rfl ?_
        refine o_getR (b := 13) dX8_back_24 fgX8_28 sh_0 rfl rfl ?_
        refine o_aload_n dX8_back_27 rfl rfl ?_
        refine o_getR (b := 69) dX8_back_28 fgX8_39 sh_0 rfl rfl ?_
        refine o_iload_n dX8_back_31 rfl rfl ?_
        refine o_aaldN (t := 4) (b := 71 + 6 * a) dX8_back_32 sh_69 (by decide) (by decide) (by omega) (g62 71 (by omega)) ?_
        refine o_callV (as := [.ref (71 + 6 * a)]) (st := []) dX8_back_33 (k_clcopy isCl_13 (isCl_im a ha2) (by omega) hKo.1 hKo.l hKK) rfl meX1_copyFrom imX1_copyFrom seX1_copyFrom mlX8_100 sh_13 rfl rfl (by omega) (by decide) (Nat.le_of_ble_eq_true rfl) ?_
        rintro _ I1 ⟨rfl, g1, g2⟩
        refine o_aload_n dX8_back_36 rfl rfl ?_
        refine o_getR (b := 19) dX8_back_37 fgX8_35 sh_0 rfl rfl ?_
        refine o_iconst (v := nI 0) dX8_back_40 (by decide) ?_
        refine o_putI dX8_back_41 flX8_137 sh_19 rfl ?_
        refine o_aload_n dX8_back_44 rfl rfl ?_
        refine o_getR (b := 13) dX8_back_45 fgX8_28 sh_0 rfl rfl ?_
        refine o_getI (v := nI K.1) dX8_back_48 fgX8_216 sh_13 rfl ((up2_x (by omega)).trans g1.1) ?_
        exact o_iret dX8_back_51 rfl (by rw [show sp_back S (nI a) = (nI K.1, (K, S.2.1, (0, S.2.2.1.2), S.2.2.2.1, S.2.2.2.2)) by simp only [sp_back, cg_in_some (Nat.zero_le a) ha1 (by decide : 1 < 2 ^ 31), him]]; exact ⟨rfl, CI.undo hC hS (g1.fr hKo.1 (fun b k z1 z2 => up2_x (by omega))) (CP.none hC.2.2.1 up2_s (fun x k z => (up2_x (by omega)).trans (g2 x k (by omega)))) (fun x k z1 z2 => (up2_x (by omega)).trans (g2 x k (by omega))), fun x k z => (up2_x (by omega)).trans (g2 x k (by omega))⟩)
    · refine o_iconst (v := (-1)) dX8_back_9 (by decide) ?_
      exact o_iret dX8_back_10 rfl (by rw [show sp_back S x = (-1, S) by simp only [sp_back, cg_in_none (by decide : 0 < 2 ^ 31) (by decide : 1 < 2 ^ 31) (fun q => b_106 (Int32.lt_of_le_of_lt q.2 (by decide)))]]; exact ⟨rfl, (hC.fr hS (frC.refl _) hV), (frC.refl _).hi⟩)

set_option maxHeartbeats 4000000 in
set_option maxRecDepth 100000 in
theorem lp_allWine {ζ : sm_Z} {d : Nat} {I : sm_I} {K : KT} (hK : CK I 13 K) (hn : K.1 ≤ 4) : ∀ f c : Nat, c + f = K.1 → X0 ζ d mX1_allWine 4 [some (.ref 13), some (.int (nI (cg_sum (fun c => K.2 c 4) c))), some (.int (nI c))] [] I (fun r I' => I' = I ∧ r = some (.int (nI (cg_sum (fun c => K.2 c 4) K.1)))) := by
  intro f
  induction f with
  | zero =>
    intro c hc
    have hcc : c = K.1 := by omega
    subst hcc
    refine o_iload_n dX1_allWine_4 rfl rfl ?_
    refine o_aload_n dX1_allWine_5 rfl rfl ?_
    refine o_getI (v := nI K.1) dX1_allWine_6 fgX1_18 sh_13 rfl hK.1 ?_
    refine o_icmpN_ge (tgt := 30) dX1_allWine_9 (by decide) (by omega) (by omega) (fun b_109 => ?_) (fun b_109 => absurd b_109 (by omega))
    refine o_iload_n dX1_allWine_30 rfl rfl ?_
    exact o_iret dX1_allWine_31 rfl ⟨rfl, rfl⟩
  | succ f ih =>
    intro c hc'
    have hc : c < K.1 := by omega
    have hc4 : c < 4 := by omega
    refine o_iload_n dX1_allWine_4 rfl rfl ?_
    refine o_aload_n dX1_allWine_5 rfl rfl ?_
    refine o_getI (v := nI K.1) dX1_allWine_6 fgX1_18 sh_13 rfl hK.1 ?_
    refine o_icmpN_ge (tgt := 30) dX1_allWine_9 (by decide) (by omega) (by omega) (fun b_110 => absurd b_110 (by omega)) (fun b_110 => ?_)
    refine o_iload_n dX1_allWine_12 rfl rfl ?_
    refine o_aload_n dX1_allWine_13 rfl rfl ?_
    refine o_getR (b := 14) dX1_allWine_14 fgX1_11 sh_13 rfl rfl ?_
    refine o_iload_n dX1_allWine_17 rfl rfl ?_
    refine o_aaldN (t := 3) (b := 15 + c) dX1_allWine_18 sh_14 (by decide) (by decide) hc4 (g4 15 hc4) ?_
    refine o_getI (v := nI (K.2 c 4)) dX1_allWine_19 fgX1_30 (sk_13 c hc4) rfl (hK.cell hc (by decide)) ?_
    refine o_iaddN dX1_allWine_22 ?_
    refine o_istore_n dX1_allWine_23 rfl (by decide) ?_
    refine o_iincN (w := 1) dX1_allWine_24 rfl (by decide) (by decide) ?_
    refine o_goto (tgt := 4) dX1_allWine_27 (by decide) ?_
    exact ih (c + 1) (by omega)

set_option maxHeartbeats 4000000 in
set_option maxRecDepth 100000 in
theorem k_allWine {I : sm_I} {K : KT} (hK : CK I 13 K) (hn : K.1 ≤ 4) : E0 0 mX1_allWine [.ref 13] I (fun r I' => I' = I ∧ r = some (.int (nI (cg_sum (fun c => K.2 c 4) K.1)))) := by
  refine E0.of (by decide) (by simp [Value.category]) (Nat.le_of_ble_eq_true rfl) (fun ζ => ?_)
  refine o_iconst (v := nI 0) dX1_allWine_0 (by decide) ?_
  refine o_istore_n dX1_allWine_1 rfl (by decide) ?_
  refine o_iconst (v := nI 0) dX1_allWine_2 (by decide) ?_
  refine o_istore_n dX1_allWine_3 rfl (by decide) ?_
  exact lp_allWine hK hn K.1 0 (by omega)

set_option maxHeartbeats 4000000 in
set_option maxRecDepth 100000 in
theorem lp_allSpirit {ζ : sm_Z} {d : Nat} {I : sm_I} {K : KT} (hK : CK I 13 K) (hn : K.1 ≤ 4) : ∀ f c : Nat, c + f = K.1 → X0 ζ d mX1_allSpirit 4 [some (.ref 13), some (.int (nI (cg_sum (fun c => K.2 c 5) c))), some (.int (nI c))] [] I (fun r I' => I' = I ∧ r = some (.int (nI (cg_sum (fun c => K.2 c 5) K.1)))) := by
  intro f
  induction f with
  | zero =>
    intro c hc
    have hcc : c = K.1 := by omega
    subst hcc
    refine o_iload_n dX1_allSpirit_4 rfl rfl ?_
    refine o_aload_n dX1_allSpirit_5 rfl rfl ?_
    refine o_getI (v := nI K.1) dX1_allSpirit_6 fgX1_18 sh_13 rfl hK.1 ?_
    refine o_icmpN_ge (tgt := 30) dX1_allSpirit_9 (by decide) (by omega) (by omega) (fun b_111 => ?_) (fun b_111 => absurd b_111 (by omega))
    refine o_iload_n dX1_allSpirit_30 rfl rfl ?_
    exact o_iret dX1_allSpirit_31 rfl ⟨rfl, rfl⟩
  | succ f ih =>
    intro c hc'
    have hc : c < K.1 := by omega
    have hc4 : c < 4 := by omega
    refine o_iload_n dX1_allSpirit_4 rfl rfl ?_
    refine o_aload_n dX1_allSpirit_5 rfl rfl ?_
    refine o_getI (v := nI K.1) dX1_allSpirit_6 fgX1_18 sh_13 rfl hK.1 ?_
    refine o_icmpN_ge (tgt := 30) dX1_allSpirit_9 (by decide) (by omega) (by omega) (fun b_112 => absurd b_112 (by omega)) (fun b_112 => ?_)
    refine o_iload_n dX1_allSpirit_12 rfl rfl ?_
    refine o_aload_n dX1_allSpirit_13 rfl rfl ?_
    refine o_getR (b := 14) dX1_allSpirit_14 fgX1_11 sh_13 rfl rfl ?_
    refine o_iload_n dX1_allSpirit_17 rfl rfl ?_
    refine o_aaldN (t := 3) (b := 15 + c) dX1_allSpirit_18 sh_14 (by decide) (by decide) hc4 (g4 15 hc4) ?_
    refine o_getI (v := nI (K.2 c 5)) dX1_allSpirit_19 fgX1_33 (sk_13 c hc4) rfl (hK.cell hc (by decide)) ?_
    refine o_iaddN dX1_allSpirit_22 ?_
    refine o_istore_n dX1_allSpirit_23 rfl (by decide) ?_
    refine o_iincN (w := 1) dX1_allSpirit_24 rfl (by decide) (by decide) ?_
    refine o_goto (tgt := 4) dX1_allSpirit_27 (by decide) ?_
    exact ih (c + 1) (by omega)

set_option maxHeartbeats 4000000 in
set_option maxRecDepth 100000 in
theorem k_allSpirit {I : sm_I} {K : KT} (hK : CK I 13 K) (hn : K.1 ≤ 4) : E0 0 mX1_allSpirit [.ref 13] I (fun r I' => I' = I ∧ r = some (.int (nI (cg_sum (fun c => K.2 c 5) K.1)))) := by
  refine E0.of (by decide) (by simp [Value.category]) (Nat.le_of_ble_eq_true rfl) (fun ζ => ?_)
  refine o_iconst (v := nI 0) dX1_allSpirit_0 (by decide) ?_
  refine o_istore_n dX1_allSpirit_1 rfl (by decide) ?_
  refine o_iconst (v := nI 0) dX1_allSpirit_2 (by decide) ?_
  refine o_istore_n dX1_allSpirit_3 rfl (by decide) ?_
  exact lp_allSpirit hK hn K.1 0 (by omega)

set_option maxHeartbeats 4000000 in
set_option maxRecDepth 100000 in
theorem n_count {I : sm_I} {S : ST} (hC : CI I S) (hS : okS S) (x : Int32) : E0 7 mX8_count [.ref 0, .int x] I (fun r I' => r = some (.int (sp_count S x)) ∧ frC I I' ∧ LV I') := by
  have hK := hC.1
  have hok := hS.1
  have hn := hok.1
  have hV := hC.2.2.2.2.2
  refine E0.of (by decide) (by simp [Value.category]) (Nat.le_of_ble_eq_true rfl) (fun ζ => ?_)
  rcases cg_ix_cases 6 (by decide) x with ⟨j, hj, rfl, hix⟩ | ⟨hix, hout⟩
  · rcases (show j = 0 ∨ j = 1 ∨ j = 2 ∨ j = 3 ∨ j = 4 ∨ j = 5 by omega) with rfl | rfl | rfl | rfl | rfl | rfl
    · refine o_iload_n dX8_count_0 rfl rfl ?_
      refine o_tableIn (off := 39) (tgt := 40) dX8_count_1 (by decide) (by decide) (by decide) (by decide) ?_
      refine o_aload_n dX8_count_40 rfl rfl ?_
      refine o_getR (b := 13) dX8_count_41 fgX8_28 sh_0 rfl rfl ?_
      refine o_getI (v := nI S.1.1) dX8_count_44 fgX8_216 sh_13 rfl hC.1.1 ?_
      exact o_iret dX8_count_47 rfl ⟨by unfold sp_count; rw [hix]; rfl, frC.refl _, hV⟩
    · refine o_iload_n dX8_count_0 rfl rfl ?_
      refine o_tableIn (off := 47) (tgt := 48) dX8_count_1 (by decide) (by decide) (by decide) (by decide) ?_
      refine o_aload_n dX8_count_48 rfl rfl ?_
      refine o_getR (b := 13) dX8_count_49 fgX8_28 sh_0 rfl rfl ?_
      refine o_callVp (v := .int (nI (cg_sum (fun c => S.1.2 c 4) S.1.1))) (as := []) (st := []) dX8_count_52 (k_allWine hK hn) rfl meX1_allWine imX1_allWine seX1_allWine mlX8_241 sh_13 rfl rfl (by omega) (by decide) (Nat.le_of_ble_eq_true rfl) ?_
      exact o_iret dX8_count_55 rfl ⟨by unfold sp_count; rw [hix]; rfl, frC.refl _, hV⟩
    · refine o_iload_n dX8_count_0 rfl rfl ?_
      refine o_tableIn (off := 55) (tgt := 56) dX8_count_1 (by decide) (by decide) (by decide) (by decide) ?_
      refine o_aload_n dX8_count_56 rfl rfl ?_
      refine o_getR (b := 13) dX8_count_57 fgX8_28 sh_0 rfl rfl ?_
      refine o_callVp (v := .int (nI (cg_sum (fun c => S.1.2 c 5) S.1.1))) (as := []) (st := []) dX8_count_60 (k_allSpirit hK hn) rfl meX1_allSpirit imX1_allSpirit seX1_allSpirit mlX8_244 sh_13 rfl rfl (by omega) (by decide) (Nat.le_of_ble_eq_true rfl) ?_
      exact o_iret dX8_count_63 rfl ⟨by unfold sp_count; rw [hix]; rfl, frC.refl _, hV⟩
    · refine o_iload_n dX8_count_0 rfl rfl ?_
      refine o_tableIn (off := 63) (tgt := 64) dX8_count_1 (by decide) (by decide) (by decide) (by decide) ?_
      refine o_aload_n dX8_count_64 rfl rfl ?_
      refine o_getR (b := 83) dX8_count_65 fgX8_50 sh_0 rfl rfl ?_
      refine o_getI (v := nI S.2.2.2.2.1) dX8_count_68 fgX8_215 sh_83 rfl hC.2.2.2.2.1.1 ?_
      exact o_iret dX8_count_71 rfl ⟨by unfold sp_count; rw [hix]; rfl, frC.refl _, hV⟩
    · refine o_iload_n dX8_count_0 rfl rfl ?_
      refine o_tableIn (off := 71) (tgt := 72) dX8_count_1 (by decide) (by decide) (by decide) (by decide) ?_
      refine o_aload_n dX8_count_72 rfl rfl ?_
      refine o_getR (b := 1) dX8_count_73 fgX8_12 sh_0 rfl rfl ?_
      refine o_getI (v := nI S.2.1.1) dX8_count_76 fgX8_81 sh_1 rfl hC.2.1.1 ?_
      exact o_iret dX8_count_79 rfl ⟨by unfold sp_count; rw [hix]; rfl, frC.refl _, hV⟩
    · refine o_iload_n dX8_count_0 rfl rfl ?_
      refine o_tableIn (off := 79) (tgt := 80) dX8_count_1 (by decide) (by decide) (by decide) (by decide) ?_
      refine o_aload_n dX8_count_80 rfl rfl ?_
      refine o_getR (b := 19) dX8_count_81 fgX8_35 sh_0 rfl rfl ?_
      refine o_getI (v := nI S.2.2.1.1) dX8_count_84 fgX8_137 sh_19 rfl hC.2.2.1.1 ?_
      exact o_iret dX8_count_87 rfl ⟨by unfold sp_count; rw [hix]; rfl, frC.refl _, hV⟩
  · refine o_iload_n dX8_count_0 rfl rfl ?_
    refine o_tableOut (tgt := 88) dX8_count_1 (sw_out hout) (by decide) ?_
    refine o_iconst (v := (-1)) dX8_count_88 (by decide) ?_
    exact o_iret dX8_count_89 rfl ⟨by unfold sp_count; rw [hix], frC.refl _, hV⟩

set_option maxHeartbeats 4000000 in
set_option maxRecDepth 100000 in
theorem k_strength {I : sm_I} {a : Nat} (ha : SH a = (0, 0, [none, none, none, none, none, none])) {w p : Nat} (e4 : I a 4 = nI w) (e5 : I a 5 = nI p) (h0 : 0 < w) (hw : w < 2 ^ 31) : E0 0 mX0_strength [.ref a] I (fun r I' => I' = I ∧ r = some (.float (cg_str p w))) := by
  have hm := cg_str_mag (s := p) h0 hw
  refine E0.of (by decide) (by simp [Value.category]) (Nat.le_of_ble_eq_true rfl) (fun ζ => ?_)
  refine o_aload_n dX0_strength_0 rfl rfl ?_
  refine o_getI (v := nI w) dX0_strength_1 fgX0_23 ha rfl e4 ?_
  refine o_ifN_ne (tgt := 11) dX0_strength_4 (by decide) (by omega) (fun b_113 => ?_) (fun b_113 => absurd b_113 (by omega))
  refine o_aload_n dX0_strength_11 rfl rfl ?_
  refine o_getI (v := nI p) dX0_strength_12 fgX0_26 ha rfl e5 ?_
  refine o_i2f dX0_strength_15 ?_
  refine o_aload_n dX0_strength_16 rfl rfl ?_
  refine o_getI (v := nI w) dX0_strength_17 fgX0_23 ha rfl e4 ?_
  refine o_i2f dX0_strength_20 ?_
  refine o_fdiv dX0_strength_21 (vf_of_mag hm (by decide)) ?_
  exact o_fret dX0_strength_22 rfl ⟨rfl, rfl⟩

set_option maxHeartbeats 4000000 in
set_option maxRecDepth 100000 in
theorem k_thou (I : sm_I) {r : UInt32} (h : vf_n32 (FP.fmul 1148846080 r)) : E0 0 mX8_inThousandths [.float r] I (fun r' I' => I' = I ∧ r' = some (.int (cg_thou r))) := by
  refine E0.of (by decide) (by simp [Value.category]) (Nat.le_of_ble_eq_true rfl) (fun ζ => ?_)
  refine o_ldcf dX8_inThousandths_0 kfX8_251 ?_
  refine o_fload_n dX8_inThousandths_2 rfl rfl ?_
  refine o_fmul dX8_inThousandths_3 h ?_
  refine o_f2i dX8_inThousandths_4 ?_
  exact o_iret dX8_inThousandths_5 rfl ⟨rfl, rfl⟩

set_option maxHeartbeats 4000000 in
set_option maxRecDepth 100000 in
theorem n_cask {I : sm_I} {K : KT} (hK : CK I 13 K) (hok : okK K) (hV : LV I) (c w : Int32) : E0 7 mX8_cask [.ref 0, .int c, .int w] I (fun r I' => r = some (.int (sp_cask K c w)) ∧ frC I I' ∧ LV I') := by
  have hn := hok.1
  refine E0.of (by decide) (by simp [Value.category]) (Nat.le_of_ble_eq_true rfl) (fun ζ => ?_)
  rcases cg_ix_cases 9 (by decide) w with ⟨e, he, rfl, hiw⟩ | ⟨hiw, hout⟩
  · rcases (show e = 0 ∨ e = 1 ∨ e = 2 ∨ e = 3 ∨ e = 4 ∨ e = 5 ∨ e = 6 ∨ e = 7 ∨ e = 8 by omega) with rfl | rfl | rfl | rfl | rfl | rfl | rfl | rfl | rfl
    · refine o_aload_n dX8_cask_0 rfl rfl ?_
      refine o_getR (b := 13) dX8_cask_1 fgX8_28 sh_0 rfl rfl ?_
      refine o_iload_n dX8_cask_4 rfl rfl ?_
      refine o_callV (as := [.int c]) (st := []) dX8_cask_5 (k_has isCl_13 hK hn c) rfl meX1_has imX1_has seX1_has mlX8_106 sh_13 rfl rfl (by omega) (by decide) (Nat.le_of_ble_eq_true rfl) ?_
      rintro _ _ ⟨rfl, ⟨c, hc, rfl, rfl⟩ | ⟨hno, rfl⟩⟩
      · have hc4 : c < 4 := by omega
        obtain ⟨q0, q1, q2, q3, q4, q5, q6, q7⟩ := id (hok.2 c hc)
        have hHc := (hok.2 c hc).lH
        have hTc := (hok.2 c hc).lT
        have hwc := (hok.2 c hc).w
        refine o_ifN_ne (tgt := 13) dX8_cask_8 (by decide) (by omega) (fun b_114 => ?_) (fun b_114 => absurd b_114 (by omega))
        refine o_aload_n dX8_cask_13 rfl rfl ?_
        refine o_getR (b := 13) dX8_cask_14 fgX8_28 sh_0 rfl rfl ?_
        refine o_getR (b := 14) dX8_cask_17 fgX8_113 sh_13 rfl rfl ?_
        refine o_iload_n dX8_cask_20 rfl rfl ?_
        refine o_aaldN (t := 3) (b := 15 + c) dX8_cask_21 sh_14 (by decide) (by decide) hc4 (g4 15 hc4) ?_
        refine o_astore_n dX8_cask_22 rfl (by decide) ?_
        refine o_iload_n dX8_cask_23 rfl rfl ?_
        refine o_tableIn (off := 52) (tgt := 76) dX8_cask_24 (by decide) (by decide) (by decide) (by decide) ?_
        refine o_aload_n dX8_cask_76 rfl rfl ?_
        refine o_getI (v := nI (K.2 c 0)) dX8_cask_77 fgX8_140 (sk_13 c hc4) rfl (hK.cell hc (by decide)) ?_
        exact o_iret dX8_cask_80 rfl ⟨by simp only [sp_cask, cg_ix_some hc (by omega : K.1 ≤ 2 ^ 31), hiw]; rw [if_pos (by decide)], (frC.refl _), hV⟩
      · refine o_ifN_ne (tgt := 13) dX8_cask_8 (by decide) (by omega) (fun b_115 => absurd b_115 (by omega)) (fun b_115 => ?_)
        refine o_iconst (v := (-1)) dX8_cask_11 (by decide) ?_
        exact o_iret dX8_cask_12 rfl ⟨by simp only [sp_cask, hno], (frC.refl _), hV⟩
    · refine o_aload_n dX8_cask_0 rfl rfl ?_
      refine o_getR (b := 13) dX8_cask_1 fgX8_28 sh_0 rfl rfl ?_
      refine o_iload_n dX8_cask_4 rfl rfl ?_
      refine o_callV (as := [.int c]) (st := []) dX8_cask_5 (k_has isCl_13 hK hn c) rfl meX1_has imX1_has seX1_has mlX8_106 sh_13 rfl rfl (by omega) (by decide) (Nat.le_of_ble_eq_true rfl) ?_
      rintro _ _ ⟨rfl, ⟨c, hc, rfl, rfl⟩ | ⟨hno, rfl⟩⟩
      · have hc4 : c < 4 := by omega
        obtain ⟨q0, q1, q2, q3, q4, q5, q6, q7⟩ := id (hok.2 c hc)
        have hHc := (hok.2 c hc).lH
        have hTc := (hok.2 c hc).lT
        have hwc := (hok.2 c hc).w
        refine o_ifN_ne (tgt := 13) dX8_cask_8 (by decide) (by omega) (fun b_116 => ?_) (fun b_116 => absurd b_116 (by omega))
        refine o_aload_n dX8_cask_13 rfl rfl ?_
        refine o_getR (b := 13) dX8_cask_14 fgX8_28 sh_0 rfl rfl ?_
        refine o_getR (b := 14) dX8_cask_17 fgX8_113 sh_13 rfl rfl ?_
        refine o_iload_n dX8_cask_20 rfl rfl ?_
        refine o_aaldN (t := 3) (b := 15 + c) dX8_cask_21 sh_14 (by decide) (by decide) hc4 (g4 15 hc4) ?_
        refine o_astore_n dX8_cask_22 rfl (by decide) ?_
        refine o_iload_n dX8_cask_23 rfl rfl ?_
        refine o_tableIn (off := 57) (tgt := 81) dX8_cask_24 (by decide) (by decide) (by decide) (by decide) ?_
        refine o_aload_n dX8_cask_81 rfl rfl ?_
        refine o_getI (v := nI (K.2 c 1)) dX8_cask_82 fgX8_143 (sk_13 c hc4) rfl (hK.cell hc (by decide)) ?_
        exact o_iret dX8_cask_85 rfl ⟨by simp only [sp_cask, cg_ix_some hc (by omega : K.1 ≤ 2 ^ 31), hiw]; rw [if_pos (by decide)], (frC.refl _), hV⟩
      · refine o_ifN_ne (tgt := 13) dX8_cask_8 (by decide) (by omega) (fun b_117 => absurd b_117 (by omega)) (fun b_117 => ?_)
        refine o_iconst (v := (-1)) dX8_cask_11 (by decide) ?_
        exact o_iret dX8_cask_12 rfl ⟨by simp only [sp_cask, hno], (frC.refl _), hV⟩
    · refine o_aload_n dX8_cask_0 rfl rfl ?_
      refine o_getR (b := 13) dX8_cask_1 fgX8_28 sh_0 rfl rfl ?_
      refine o_iload_n dX8_cask_4 rfl rfl ?_
      refine o_callV (as := [.int c]) (st := []) dX8_cask_5 (k_has isCl_13 hK hn c) rfl meX1_has imX1_has seX1_has mlX8_106 sh_13 rfl rfl (by omega) (by decide) (Nat.le_of_ble_eq_true rfl) ?_
      rintro _ _ ⟨rfl, ⟨c, hc, rfl, rfl⟩ | ⟨hno, rfl⟩⟩
      · have hc4 : c < 4 := by omega
        obtain ⟨q0, q1, q2, q3, q4, q5, q6, q7⟩ := id (hok.2 c hc)
        have hHc := (hok.2 c hc).lH
        have hTc := (hok.2 c hc).lT
        have hwc := (hok.2 c hc).w
        refine o_ifN_ne (tgt := 13) dX8_cask_8 (by decide) (by omega) (fun b_118 => ?_) (fun b_118 => absurd b_118 (by omega))
        refine o_aload_n dX8_cask_13 rfl rfl ?_
        refine o_getR (b := 13) dX8_cask_14 fgX8_28 sh_0 rfl rfl ?_
        refine o_getR (b := 14) dX8_cask_17 fgX8_113 sh_13 rfl rfl ?_
        refine o_iload_n dX8_cask_20 rfl rfl ?_
        refine o_aaldN (t := 3) (b := 15 + c) dX8_cask_21 sh_14 (by decide) (by decide) hc4 (g4 15 hc4) ?_
        refine o_astore_n dX8_cask_22 rfl (by decide) ?_
        refine o_iload_n dX8_cask_23 rfl rfl ?_
        refine o_tableIn (off := 62) (tgt := 86) dX8_cask_24 (by decide) (by decide) (by decide) (by decide) ?_
        refine o_aload_n dX8_cask_86 rfl rfl ?_
        refine o_getI (v := nI (K.2 c 2)) dX8_cask_87 fgX8_146 (sk_13 c hc4) rfl (hK.cell hc (by decide)) ?_
        exact o_iret dX8_cask_90 rfl ⟨by simp only [sp_cask, cg_ix_some hc (by omega : K.1 ≤ 2 ^ 31), hiw]; rw [if_pos (by decide)], (frC.refl _), hV⟩
      · refine o_ifN_ne (tgt := 13) dX8_cask_8 (by decide) (by omega) (fun b_119 => absurd b_119 (by omega)) (fun b_119 => ?_)
        refine o_iconst (v := (-1)) dX8_cask_11 (by decide) ?_
        exact o_iret dX8_cask_12 rfl ⟨by simp only [sp_cask, hno], (frC.refl _), hV⟩
    · refine o_aload_n dX8_cask_0 rfl rfl ?_
      refine o_getR (b := 13) dX8_cask_1 fgX8_28 sh_0 rfl rfl ?_
      refine o_iload_n dX8_cask_4 rfl rfl ?_
      refine o_callV (as := [.int c]) (st := []) dX8_cask_5 (k_has isCl_13 hK hn c) rfl meX1_has imX1_has seX1_has mlX8_106 sh_13 rfl rfl (by omega) (by decide) (Nat.le_of_ble_eq_true rfl) ?_
      rintro _ _ ⟨rfl, ⟨c, hc, rfl, rfl⟩ | ⟨hno, rfl⟩⟩
      · have hc4 : c < 4 := by omega
        obtain ⟨q0, q1, q2, q3, q4, q5, q6, q7⟩ := id (hok.2 c hc)
        have hHc := (hok.2 c hc).lH
        have hTc := (hok.2 c hc).lT
        have hwc := (hok.2 c hc).w
        refine o_ifN_ne (tgt := 13) dX8_cask_8 (by decide) (by omega) (fun b_120 => ?_) (fun b_120 => absurd b_120 (by omega))
        refine o_aload_n dX8_cask_13 rfl rfl ?_
        refine o_getR (b := 13) dX8_cask_14 fgX8_28 sh_0 rfl rfl ?_
        refine o_getR (b := 14) dX8_cask_17 fgX8_113 sh_13 rfl rfl ?_
        refine o_iload_n dX8_cask_20 rfl rfl ?_
        refine o_aaldN (t := 3) (b := 15 + c) dX8_cask_21 sh_14 (by decide) (by decide) hc4 (g4 15 hc4) ?_
        refine o_astore_n dX8_cask_22 rfl (by decide) ?_
        refine o_iload_n dX8_cask_23 rfl rfl ?_
        refine o_tableIn (off := 67) (tgt := 91) dX8_cask_24 (by decide) (by decide) (by decide) (by decide) ?_
        refine o_aload_n dX8_cask_91 rfl rfl ?_
        refine o_getI (v := nI (K.2 c 3)) dX8_cask_92 fgX8_129 (sk_13 c hc4) rfl (hK.cell hc (by decide)) ?_
        refine o_ifN_eq (tgt := 102) dX8_cask_95 (by decide) (by omega) (fun b_121 => ?_) (fun b_121 => ?_)
        · refine o_iconst (v := nI 0) dX8_cask_102 (by decide) ?_
          exact o_iret dX8_cask_103 rfl ⟨by simp only [sp_cask, cg_ix_some hc (by omega : K.1 ≤ 2 ^ 31), hiw]; rw [if_pos (by decide)]; exact congrArg (fun z => some (Value.int (nI z))) (by omega), (frC.refl _), hV⟩
        · refine o_iconst (v := nI 1) dX8_cask_98 (by decide) ?_
          refine o_goto (tgt := 103) dX8_cask_99 (by decide) ?_
          exact o_iret dX8_cask_103 rfl ⟨by simp only [sp_cask, cg_ix_some hc (by omega : K.1 ≤ 2 ^ 31), hiw]; rw [if_pos (by decide)]; exact congrArg (fun z => some (Value.int (nI z))) (by omega), (frC.refl _), hV⟩
      · refine o_ifN_ne (tgt := 13) dX8_cask_8 (by decide) (by omega) (fun b_122 => absurd b_122 (by omega)) (fun b_122 => ?_)
        refine o_iconst (v := (-1)) dX8_cask_11 (by decide) ?_
        exact o_iret dX8_cask_12 rfl ⟨by simp only [sp_cask, hno], (frC.refl _), hV⟩
    · refine o_aload_n dX8_cask_0 rfl rfl ?_
      refine o_getR (b := 13) dX8_cask_1 fgX8_28 sh_0 rfl rfl ?_
      refine o_iload_n dX8_cask_4 rfl rfl ?_
      refine o_callV (as := [.int c]) (st := []) dX8_cask_5 (k_has isCl_13 hK hn c) rfl meX1_has imX1_has seX1_has mlX8_106 sh_13 rfl rfl (by omega) (by decide) (Nat.le_of_ble_eq_true rfl) ?_
      rintro _ _ ⟨rfl, ⟨c, hc, rfl, rfl⟩ | ⟨hno, rfl⟩⟩
      · have hc4 : c < 4 := by omega
        obtain ⟨q0, q1, q2, q3, q4, q5, q6, q7⟩ := id (hok.2 c hc)
        have hHc := (hok.2 c hc).lH
        have hTc := (hok.2 c hc).lT
        have hwc := (hok.2 c hc).w
        refine o_ifN_ne (tgt := 13) dX8_cask_8 (by decide) (by omega) (fun b_123 => ?_) (fun b_123 => absurd b_123 (by omega))
        refine o_aload_n dX8_cask_13 rfl rfl ?_
        refine o_getR (b := 13) dX8_cask_14 fgX8_28 sh_0 rfl rfl ?_
        refine o_getR (b := 14) dX8_cask_17 fgX8_113 sh_13 rfl rfl ?_
        refine o_iload_n dX8_cask_20 rfl rfl ?_
        refine o_aaldN (t := 3) (b := 15 + c) dX8_cask_21 sh_14 (by decide) (by decide) hc4 (g4 15 hc4) ?_
        refine o_astore_n dX8_cask_22 rfl (by decide) ?_
        refine o_iload_n dX8_cask_23 rfl rfl ?_
        refine o_tableIn (off := 80) (tgt := 104) dX8_cask_24 (by decide) (by decide) (by decide) (by decide) ?_
        refine o_aload_n dX8_cask_104 rfl rfl ?_
        refine o_iload_n dX8_cask_105 rfl rfl ?_
        refine o_callV (as := [.int (nI c)]) (st := []) dX8_cask_106 (k_lev hK hok hV hc) rfl meX8_levelsOf imX8_levelsOf seX8_levelsOf mlX8_149 sh_0 rfl rfl (by omega) (by decide) (Nat.le_of_ble_eq_true rfl) ?_
        rintro _ I1 ⟨la1, rfl, hL1, hM1, hf1, hV1⟩
        have hK1 : CK I1 13 K := hK.frC hn hf1
        have hT1 := (hok.2 c hc).lT
        have hU1 : ∀ y, y ≤ 40 → cU K c y ≤ 67200 := fun y hy => (hok.2 c hc).lU hy
        have hH1 := (hok.2 c hc).lH
        refine o_callVp (v := .int (nI (cH K c))) (as := []) (st := []) dX8_cask_109 (k_hold hL1 q1 q4 hM1) rfl meX2_hold imX2_hold seX2_hold mlX8_153 hL1.1 rfl rfl (by omega) (by decide) (Nat.le_of_ble_eq_true rfl) ?_
        exact o_iret dX8_cask_112 rfl ⟨by simp only [sp_cask, cg_ix_some hc (by omega : K.1 ≤ 2 ^ 31), hiw]; rw [if_neg (by decide), if_pos trivial], ((frC.refl _).trans hf1), hV1⟩
      · refine o_ifN_ne (tgt := 13) dX8_cask_8 (by decide) (by omega) (fun b_124 => absurd b_124 (by omega)) (fun b_124 => ?_)
        refine o_iconst (v := (-1)) dX8_cask_11 (by decide) ?_
        exact o_iret dX8_cask_12 rfl ⟨by simp only [sp_cask, hno], (frC.refl _), hV⟩
    · refine o_aload_n dX8_cask_0 rfl rfl ?_
      refine o_getR (b := 13) dX8_cask_1 fgX8_28 sh_0 rfl rfl ?_
      refine o_iload_n dX8_cask_4 rfl rfl ?_
      refine o_callV (as := [.int c]) (st := []) dX8_cask_5 (k_has isCl_13 hK hn c) rfl meX1_has imX1_has seX1_has mlX8_106 sh_13 rfl rfl (by omega) (by decide) (Nat.le_of_ble_eq_true rfl) ?_
      rintro _ _ ⟨rfl, ⟨c, hc, rfl, rfl⟩ | ⟨hno, rfl⟩⟩
      · have hc4 : c < 4 := by omega
        obtain ⟨q0, q1, q2, q3, q4, q5, q6, q7⟩ := id (hok.2 c hc)
        have hHc := (hok.2 c hc).lH
        have hTc := (hok.2 c hc).lT
        have hwc := (hok.2 c hc).w
        refine o_ifN_ne (tgt := 13) dX8_cask_8 (by decide) (by omega) (fun b_125 => ?_) (fun b_125 => absurd b_125 (by omega))
        refine o_aload_n dX8_cask_13 rfl rfl ?_
        refine o_getR (b := 13) dX8_cask_14 fgX8_28 sh_0 rfl rfl ?_
        refine o_getR (b := 14) dX8_cask_17 fgX8_113 sh_13 rfl rfl ?_
        refine o_iload_n dX8_cask_20 rfl rfl ?_
        refine o_aaldN (t := 3) (b := 15 + c) dX8_cask_21 sh_14 (by decide) (by decide) hc4 (g4 15 hc4) ?_
        refine o_astore_n dX8_cask_22 rfl (by decide) ?_
        refine o_iload_n dX8_cask_23 rfl rfl ?_
        refine o_tableIn (off := 89) (tgt := 113) dX8_cask_24 (by decide) (by decide) (by decide) (by decide) ?_
        refine o_aload_n dX8_cask_113 rfl rfl ?_
        refine o_getI (v := nI (K.2 c 4)) dX8_cask_114 fgX8_123 (sk_13 c hc4) rfl (hK.cell hc (by decide)) ?_
        exact o_iret dX8_cask_117 rfl ⟨by simp only [sp_cask, cg_ix_some hc (by omega : K.1 ≤ 2 ^ 31), hiw]; rw [if_neg (by decide), if_neg (by decide), if_pos trivial], (frC.refl _), hV⟩
      · refine o_ifN_ne (tgt := 13) dX8_cask_8 (by decide) (by omega) (fun b_126 => absurd b_126 (by omega)) (fun b_126 => ?_)
        refine o_iconst (v := (-1)) dX8_cask_11 (by decide) ?_
        exact o_iret dX8_cask_12 rfl ⟨by simp only [sp_cask, hno], (frC.refl _), hV⟩
    · refine o_aload_n dX8_cask_0 rfl rfl ?_
      refine o_getR (b := 13) dX8_cask_1 fgX8_28 sh_0 rfl rfl ?_
      refine o_iload_n dX8_cask_4 rfl rfl ?_
      refine o_callV (as := [.int c]) (st := []) dX8_cask_5 (k_has isCl_13 hK hn c) rfl meX1_has imX1_has seX1_has mlX8_106 sh_13 rfl rfl (by omega) (by decide) (Nat.le_of_ble_eq_true rfl) ?_
      rintro _ _ ⟨rfl, ⟨c, hc, rfl, rfl⟩ | ⟨hno, rfl⟩⟩
      · have hc4 : c < 4 := by omega
        obtain ⟨q0, q1, q2, q3, q4, q5, q6, q7⟩ := id (hok.2 c hc)
        have hHc := (hok.2 c hc).lH
        have hTc := (hok.2 c hc).lT
        have hwc := (hok.2 c hc).w
        refine o_ifN_ne (tgt := 13) dX8_cask_8 (by decide) (by omega) (fun b_127 => ?_) (fun b_127 => absurd b_127 (by omega))
        refine o_aload_n dX8_cask_13 rfl rfl ?_
        refine o_getR (b := 13) dX8_cask_14 fgX8_28 sh_0 rfl rfl ?_
        refine o_getR (b := 14) dX8_cask_17 fgX8_113 sh_13 rfl rfl ?_
        refine o_iload_n dX8_cask_20 rfl rfl ?_
        refine o_aaldN (t := 3) (b := 15 + c) dX8_cask_21 sh_14 (by decide) (by decide) hc4 (g4 15 hc4) ?_
        refine o_astore_n dX8_cask_22 rfl (by decide) ?_
        refine o_iload_n dX8_cask_23 rfl rfl ?_
        refine o_tableIn (off := 94) (tgt := 118) dX8_cask_24 (by decide) (by decide) (by decide) (by decide) ?_
        refine o_aload_n dX8_cask_118 rfl rfl ?_
        refine o_getI (v := nI (K.2 c 5)) dX8_cask_119 fgX8_156 (sk_13 c hc4) rfl (hK.cell hc (by decide)) ?_
        exact o_iret dX8_cask_122 rfl ⟨by simp only [sp_cask, cg_ix_some hc (by omega : K.1 ≤ 2 ^ 31), hiw]; rw [if_neg (by decide), if_neg (by decide), if_neg (by decide), if_pos trivial], (frC.refl _), hV⟩
      · refine o_ifN_ne (tgt := 13) dX8_cask_8 (by decide) (by omega) (fun b_128 => absurd b_128 (by omega)) (fun b_128 => ?_)
        refine o_iconst (v := (-1)) dX8_cask_11 (by decide) ?_
        exact o_iret dX8_cask_12 rfl ⟨by simp only [sp_cask, hno], (frC.refl _), hV⟩
    · refine o_aload_n dX8_cask_0 rfl rfl ?_
      refine o_getR (b := 13) dX8_cask_1 fgX8_28 sh_0 rfl rfl ?_
      refine o_iload_n dX8_cask_4 rfl rfl ?_
      refine o_callV (as := [.int c]) (st := []) dX8_cask_5 (k_has isCl_13 hK hn c) rfl meX1_has imX1_has seX1_has mlX8_106 sh_13 rfl rfl (by omega) (by decide) (Nat.le_of_ble_eq_true rfl) ?_
      rintro _ _ ⟨rfl, ⟨c, hc, rfl, rfl⟩ | ⟨hno, rfl⟩⟩
      · have hc4 : c < 4 := by omega
        obtain ⟨q0, q1, q2, q3, q4, q5, q6, q7⟩ := id (hok.2 c hc)
        have hHc := (hok.2 c hc).lH
        have hTc := (hok.2 c hc).lT
        have hwc := (hok.2 c hc).w
        refine o_ifN_ne (tgt := 13) dX8_cask_8 (by decide) (by omega) (fun b_129 => ?_) (fun b_129 => absurd b_129 (by omega))
        refine o_aload_n dX8_cask_13 rfl rfl ?_
        refine o_getR (b := 13) dX8_cask_14 fgX8_28 sh_0 rfl rfl ?_
        refine o_getR (b := 14) dX8_cask_17 fgX8_113 sh_13 rfl rfl ?_
        refine o_iload_n dX8_cask_20 rfl rfl ?_
        refine o_aaldN (t := 3) (b := 15 + c) dX8_cask_21 sh_14 (by decide) (by decide) hc4 (g4 15 hc4) ?_
        refine o_astore_n dX8_cask_22 rfl (by decide) ?_
        refine o_iload_n dX8_cask_23 rfl rfl ?_
        refine o_tableIn (off := 99) (tgt := 123) dX8_cask_24 (by decide) (by decide) (by decide) (by decide) ?_
        refine o_aload_n dX8_cask_123 rfl rfl ?_
        refine o_iload_n dX8_cask_124 rfl rfl ?_
        refine o_callV (as := [.int (nI c)]) (st := []) dX8_cask_125 (k_lev hK hok hV hc) rfl meX8_levelsOf imX8_levelsOf seX8_levelsOf mlX8_149 sh_0 rfl rfl (by omega) (by decide) (Nat.le_of_ble_eq_true rfl) ?_
        rintro _ I1 ⟨la1, rfl, hL1, hM1, hf1, hV1⟩
        have hK1 : CK I1 13 K := hK.frC hn hf1
        have hT1 := (hok.2 c hc).lT
        have hU1 : ∀ y, y ≤ 40 → cU K c y ≤ 67200 := fun y hy => (hok.2 c hc).lU hy
        have hH1 := (hok.2 c hc).lH
        refine o_aload_n dX8_cask_128 rfl rfl ?_
        refine o_getI (v := nI (K.2 c 4)) dX8_cask_129 fgX8_123 (sk_13 c hc4) rfl (hK1.cell hc (by decide)) ?_
        refine o_callVp (v := .int (nI (ld (cU K c) (K.2 c 4) (cT K c + 1) 0))) (as := [.int (nI (K.2 c 4))]) (st := []) dX8_cask_132 (k_ld hL1 q1 q4 hM1 (by omega)) rfl meX2_leastDip imX2_leastDip seX2_leastDip mlX8_159 hL1.1 rfl rfl (by omega) (by decide) (Nat.le_of_ble_eq_true rfl) ?_
        exact o_iret dX8_cask_135 rfl ⟨by simp only [sp_cask, cg_ix_some hc (by omega : K.1 ≤ 2 ^ 31), hiw]; rw [if_neg (by decide), if_neg (by decide), if_neg (by decide), if_neg (by decide), if_pos trivial]; rw [ld_eq (fun a b h => cg_U_mono h), if_pos (show K.2 c 4 ≤ cg_U (K.2 c 0) (K.2 c 1) (K.2 c 2) (K.2 c 3) (cT K c) from hwc)], ((frC.refl _).trans hf1), hV1⟩
      · refine o_ifN_ne (tgt := 13) dX8_cask_8 (by decide) (by omega) (fun b_130 => absurd b_130 (by omega)) (fun b_130 => ?_)
        refine o_iconst (v := (-1)) dX8_cask_11 (by decide) ?_
        exact o_iret dX8_cask_12 rfl ⟨by simp only [sp_cask, hno], (frC.refl _), hV⟩
    · refine o_aload_n dX8_cask_0 rfl rfl ?_
      refine o_getR (b := 13) dX8_cask_1 fgX8_28 sh_0 rfl rfl ?_
      refine o_iload_n dX8_cask_4 rfl rfl ?_
      refine o_callV (as := [.int c]) (st := []) dX8_cask_5 (k_has isCl_13 hK hn c) rfl meX1_has imX1_has seX1_has mlX8_106 sh_13 rfl rfl (by omega) (by decide) (Nat.le_of_ble_eq_true rfl) ?_
      rintro _ _ ⟨rfl, ⟨c, hc, rfl, rfl⟩ | ⟨hno, rfl⟩⟩
      · have hc4 : c < 4 := by omega
        obtain ⟨q0, q1, q2, q3, q4, q5, q6, q7⟩ := id (hok.2 c hc)
        have hHc := (hok.2 c hc).lH
        have hTc := (hok.2 c hc).lT
        have hwc := (hok.2 c hc).w
        refine o_ifN_ne (tgt := 13) dX8_cask_8 (by decide) (by omega) (fun b_131 => ?_) (fun b_131 => absurd b_131 (by omega))
        refine o_aload_n dX8_cask_13 rfl rfl ?_
        refine o_getR (b := 13) dX8_cask_14 fgX8_28 sh_0 rfl rfl ?_
        refine o_getR (b := 14) dX8_cask_17 fgX8_113 sh_13 rfl rfl ?_
        refine o_iload_n dX8_cask_20 rfl rfl ?_
        refine o_aaldN (t := 3) (b := 15 + c) dX8_cask_21 sh_14 (by decide) (by decide) hc4 (g4 15 hc4) ?_
        refine o_astore_n dX8_cask_22 rfl (by decide) ?_
        refine o_iload_n dX8_cask_23 rfl rfl ?_
        refine o_tableIn (off := 112) (tgt := 136) dX8_cask_24 (by decide) (by decide) (by decide) (by decide) ?_
        refine o_aload_n dX8_cask_136 rfl rfl ?_
        refine o_getI (v := nI (K.2 c 4)) dX8_cask_137 fgX8_123 (sk_13 c hc4) rfl (hK.cell hc (by decide)) ?_
        refine o_ifN_le (tgt := 153) dX8_cask_140 (by decide) (by omega) (fun b_132 => ?_) (fun b_132 => ?_)
        · refine o_bipush (v := (-9)) dX8_cask_153 (by decide) ?_
          exact o_iret dX8_cask_155 rfl ⟨by simp only [sp_cask, cg_ix_some hc (by omega : K.1 ≤ 2 ^ 31), hiw]; rw [if_neg (by decide), if_neg (by decide), if_neg (by decide), if_neg (by decide), if_neg (by decide), if_pos (by omega)], (frC.refl _), hV⟩
        · refine o_aload_n dX8_cask_143 rfl rfl ?_
          refine o_callVp (v := .float (cg_str (K.2 c 5) (K.2 c 4))) (as := []) (st := []) dX8_cask_144 (k_strength (sk_13 c hc4) (hK.cell hc (by decide)) (hK.cell hc (by decide)) (by omega) (by omega)) rfl meX0_strength imX0_strength seX0_strength mlX8_162 (sk_13 c hc4) rfl rfl (by omega) (by decide) (Nat.le_of_ble_eq_true rfl) ?_
          refine o_callSp (v := .int (cg_thou (cg_str (K.2 c 5) (K.2 c 4)))) (as := [.float (cg_str (K.2 c 5) (K.2 c 4))]) (st := []) dX8_cask_147 (k_thou _ (cg_thou_mag (cg_str_mag (s := K.2 c 5) (by omega) (by omega)) (by decide))) rfl meX8_inThousandths ssX8_inThousandths mlX8_166 (by omega) (by decide) (Nat.le_of_ble_eq_true rfl) ?_
          refine o_goto (tgt := 155) dX8_cask_150 (by decide) ?_
          exact o_iret dX8_cask_155 rfl ⟨by simp only [sp_cask, cg_ix_some hc (by omega : K.1 ≤ 2 ^ 31), hiw]; rw [if_neg (by decide), if_neg (by decide), if_neg (by decide), if_neg (by decide), if_neg (by decide), if_neg (by omega)], (frC.refl _), hV⟩
      · refine o_ifN_ne (tgt := 13) dX8_cask_8 (by decide) (by omega) (fun b_133 => absurd b_133 (by omega)) (fun b_133 => ?_)
        refine o_iconst (v := (-1)) dX8_cask_11 (by decide) ?_
        exact o_iret dX8_cask_12 rfl ⟨by simp only [sp_cask, hno], (frC.refl _), hV⟩
  · refine o_aload_n dX8_cask_0 rfl rfl ?_
    refine o_getR (b := 13) dX8_cask_1 fgX8_28 sh_0 rfl rfl ?_
    refine o_iload_n dX8_cask_4 rfl rfl ?_
    refine o_callV (as := [.int c]) (st := []) dX8_cask_5 (k_has isCl_13 hK hn c) rfl meX1_has imX1_has seX1_has mlX8_106 sh_13 rfl rfl (by omega) (by decide) (Nat.le_of_ble_eq_true rfl) ?_
    rintro _ _ ⟨rfl, ⟨c, hc, rfl, rfl⟩ | ⟨hno, rfl⟩⟩
    · have hc4 : c < 4 := by omega
      obtain ⟨q0, q1, q2, q3, q4, q5, q6, q7⟩ := id (hok.2 c hc)
      have hHc := (hok.2 c hc).lH
      have hTc := (hok.2 c hc).lT
      have hwc := (hok.2 c hc).w
      refine o_ifN_ne (tgt := 13) dX8_cask_8 (by decide) (by omega) (fun b_134 => ?_) (fun b_134 => absurd b_134 (by omega))
      refine o_aload_n dX8_cask_13 rfl rfl ?_
      refine o_getR (b := 13) dX8_cask_14 fgX8_28 sh_0 rfl rfl ?_
      refine o_getR (b := 14) dX8_cask_17 fgX8_113 sh_13 rfl rfl ?_
      refine o_iload_n dX8_cask_20 rfl rfl ?_
      refine o_aaldN (t := 3) (b := 15 + c) dX8_cask_21 sh_14 (by decide) (by decide) hc4 (g4 15 hc4) ?_
      refine o_astore_n dX8_cask_22 rfl (by decide) ?_
      refine o_iload_n dX8_cask_23 rfl rfl ?_
      refine o_tableOut (tgt := 156) dX8_cask_24 (sw_out hout) (by decide) ?_
      refine o_iconst (v := (-1)) dX8_cask_156 (by decide) ?_
      exact o_iret dX8_cask_157 rfl ⟨by simp only [sp_cask, cg_ix_some hc (by omega : K.1 ≤ 2 ^ 31), hiw], (frC.refl _), hV⟩
    · refine o_ifN_ne (tgt := 13) dX8_cask_8 (by decide) (by omega) (fun b_135 => absurd b_135 (by omega)) (fun b_135 => ?_)
      refine o_iconst (v := (-1)) dX8_cask_11 (by decide) ?_
      exact o_iret dX8_cask_12 rfl ⟨by simp only [sp_cask, hno], (frC.refl _), hV⟩
