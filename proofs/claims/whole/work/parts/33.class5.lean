theorem CI.do {I I2 I' : sm_I} {S : ST} {K : KT} (h : CI I S) (hS : okS S) (hP : CP I2 (ppush S.2.2.1 S.1)) (hF : frPa I I2) (hx : ∀ x k, ¬ (13 ≤ x ∧ x ≤ 18) → I' x k = I2 x k) (hK : CK I' 13 K) : CI I' (st_do S K) := by
  obtain ⟨h1, h2, h3, h4, h5, h6⟩ := h
  have e : ∀ x k, ¬ (13 ≤ x ∧ x ≤ 68) → I' x k = I x k := fun x k z => (hx x k (by omega)).trans (hF x k (by omega))
  exact ⟨hK, h2.of (e _ _ (by omega)) (fun k => e _ _ (by omega)), hP.of (fun k hk => (ppush_ok hS.2.2.1.2 hS.1 hS.2.2.1.1 k hk).1) (fun b k g1 g2 => hx b k (by omega)), h4.of hS.2.2.2.1 (fun b k g1 g2 => e b k (by omega)), h5.of (fun b k g1 g2 => e b k (by omega)), h6.of (fun b k g1 g2 => e b k (by omega))⟩
theorem frPa.hi {I I' : sm_I} (h : frPa I I') : hiC I I' := fun x k z => h x k (by omega)

set_option maxHeartbeats 4000000 in
set_option maxRecDepth 100000 in
theorem n_fills {I : sm_I} {S : ST} (hC : CI I S) (hS : okS S) (c n m : Int32) : E0 7 mX8_fills [.ref 0, .int c, .int n, .int m] I (fun r I' => r = some (.int (sp_fills S c n m).1) ∧ CI I' (sp_fills S c n m).2 ∧ hiC I I') := by
  have hK := hC.1
  have hok := hS.1
  have hn := hok.1
  have hV := hC.2.2.2.2.2
  refine E0.of (by decide) (by simp [Value.category]) (Nat.le_of_ble_eq_true rfl) (fun ζ => ?_)
  refine o_aload_n dX8_fills_0 rfl rfl ?_
  refine o_getR (b := 13) dX8_fills_1 fgX8_28 sh_0 rfl rfl ?_
  refine o_iload_n dX8_fills_4 rfl rfl ?_
  refine o_callV (as := [.int c]) (st := []) dX8_fills_5 (k_has isCl_13 hK hn c) rfl meX1_has imX1_has seX1_has mlX8_106 sh_13 rfl rfl (by omega) (by decide) (Nat.le_of_ble_eq_true rfl) ?_
  rintro _ _ ⟨rfl, ⟨c, hc, rfl, rfl⟩ | ⟨hno, rfl⟩⟩
  · have hc4 : c < 4 := by omega
    obtain ⟨q0, q1, q2, q3, q4, q5, q6, q7⟩ := id (hok.2 c hc)
    have hHc := (hok.2 c hc).lH
    have hTc := (hok.2 c hc).lT
    have hwc := (hok.2 c hc).w
    refine o_ifN_eq (tgt := 25) dX8_fills_8 (by decide) (by omega) (fun b_46 => absurd b_46 (by omega)) (fun b_46 => ?_)
    refine o_iload_n dX8_fills_11 rfl rfl ?_
    refine o_iconst (v := nI 1) dX8_fills_12 (by decide) ?_
    refine o_icmp_lt (tgt := 25) dX8_fills_13 (by decide) (fun b_47 => ?_) (fun b_47 => ?_)
    · refine o_iconst (v := (-1)) dX8_fills_25 (by decide) ?_
      exact o_iret dX8_fills_26 rfl (by rw [show sp_fills S (nI c) n m = (-1, S) by simp only [sp_fills, cg_ix_some hc (by omega : S.1.1 ≤ 2 ^ 31), lt1_in b_47]]; exact ⟨rfl, (hC.fr hS (frC.refl _) hV), (frC.refl _).hi⟩)
    · obtain ⟨a, ha1, ha2, rfl⟩ := ge1_nat b_47
      refine o_iload_n dX8_fills_16 rfl rfl ?_
      refine o_if_lt (tgt := 25) dX8_fills_17 (by decide) (fun b_48 => ?_) (fun b_48 => ?_)
      · refine o_iconst (v := (-1)) dX8_fills_25 (by decide) ?_
        exact o_iret dX8_fills_26 rfl (by rw [show sp_fills S (nI c) (nI a) m = (-1, S) by simp only [sp_fills, cg_ix_some hc (by omega : S.1.1 ≤ 2 ^ 31), cg_in_n ha1 ha2, cg_in_none (by decide : 0 < 2 ^ 31) (by omega : a < 2 ^ 31) (fun q => absurd q.1 (Int32.not_le.mpr b_48))]]; exact ⟨rfl, (hC.fr hS (frC.refl _) hV), (frC.refl _).hi⟩)
      · refine o_iload_n dX8_fills_20 rfl rfl ?_
        refine o_iload_n dX8_fills_21 rfl rfl ?_
        refine o_icmp_le (tgt := 27) dX8_fills_22 (by decide) (fun b_49 => ?_) (fun b_49 => ?_)
        · obtain ⟨b, hb1, hb2, rfl⟩ := in_nat (a := 0) (b := a) (by omega) (by omega) (Int32.not_lt.mp b_48) b_49
          refine o_iload_n dX8_fills_27 rfl rfl ?_
          refine o_aload_n dX8_fills_28 rfl rfl ?_
          refine o_iload_n dX8_fills_29 rfl rfl ?_
          refine o_callV (as := [.int (nI c)]) (st := [.int (nI a)]) dX8_fills_30 (k_room hK hok hV hc) rfl meX8_roomIn imX8_roomIn seX8_roomIn mlX8_109 sh_0 rfl rfl (by omega) (by decide) (Nat.le_of_ble_eq_true rfl) ?_
          rintro _ I1 ⟨rfl, hf1, hV1⟩
          have hK1 : CK I1 13 S.1 := hK.frC hn hf1
          refine o_icmpN_le (tgt := 39) dX8_fills_33 (by decide) (by omega) (by omega) (fun b_50 => ?_) (fun b_50 => ?_)
          · refine o_aload_n dX8_fills_39 rfl rfl ?_
            refine o_getR (b := 19) dX8_fills_40 fgX8_35 sh_0 rfl rfl ?_
            refine o_aload_n dX8_fills_43 rfl rfl ?_
            refine o_getR (b := 13) dX8_fills_44 fgX8_28 sh_0 rfl rfl ?_
            refine o_callV (as := [.ref 13]) (st := []) dX8_fills_47 (k_remember (hC.fr hS ((frC.refl _).trans hf1) hV1).2.2.1 hS.2.2.1.1 hS.2.2.1.2 hK1 hok) rfl meX3_remember imX3_remember seX3_remember mlX8_93 sh_19 rfl rfl (by omega) (by decide) (Nat.le_of_ble_eq_true rfl) ?_
            rintro _ I2 ⟨rfl, hP2, hF2⟩
            have hK2 : CK I2 13 S.1 := hK1.fr hn (fun x k z1 z2 => hF2 x k (by omega))
            refine o_aload_n dX8_fills_50 rfl rfl ?_
            refine o_getR (b := 13) dX8_fills_51 fgX8_28 sh_0 rfl rfl ?_
            refine o_getR (b := 14) dX8_fills_54 fgX8_113 sh_13 rfl rfl ?_
            refine o_iload_n dX8_fills_57 rfl rfl ?_
            refine o_aaldN (t := 3) (b := 15 + c) dX8_fills_58 sh_14 (by decide) (by decide) hc4 (g4 15 hc4) ?_
            refine o_iload_n dX8_fills_59 rfl rfl ?_
            refine o_iload_n dX8_fills_60 rfl rfl ?_
            refine o_callV (as := [.int (nI a), .int (nI b)]) (st := []) dX8_fills_61 (k_takeIn (sk_13 c hc4) (n := a) (m := b) (hK2.cell hc (by decide)) (hK2.cell hc (by decide))) rfl meX0_takeIn imX0_takeIn seX0_takeIn mlX8_117 (sk_13 c hc4) rfl rfl (by omega) (by decide) (Nat.le_of_ble_eq_true rfl) ?_
            rintro _ _ ⟨rfl, rfl⟩
            refine o_aload_n dX8_fills_64 rfl rfl ?_
            refine o_getR (b := 13) dX8_fills_65 fgX8_28 sh_0 rfl rfl ?_
            refine o_getR (b := 14) dX8_fills_68 fgX8_113 sh_13 rfl rfl ?_
            refine o_iload_n dX8_fills_71 rfl rfl ?_
            refine o_aaldN (t := 3) (b := 15 + c) dX8_fills_72 sh_14 (by decide) (by decide) hc4 (g4 15 hc4) ?_
            refine o_getI (v := nI (S.1.2 c 4 + a)) dX8_fills_73 fgX8_123 (sk_13 c hc4) rfl ((up2_x (by omega)).trans up2_s) ?_
            exact o_iret dX8_fills_76 rfl (by rw [show sp_fills S (nI c) (nI a) (nI b) = (nI (S.1.2 c 4 + a), st_do S (kfill S.1 c a b)) by simp only [sp_fills, cg_ix_some hc (by omega : S.1.1 ≤ 2 ^ 31), cg_in_n ha1 ha2, cg_in_some hb1 hb2 (by omega : a < 2 ^ 31), if_neg (show ¬ cH S.1 c - S.1.2 c 4 < a by omega)]]; exact ⟨congrArg (fun z => some (Value.int z)) (by first | rfl | (congr 1; omega)), CI.do (hC.fr hS ((frC.refl _).trans hf1) hV1) hS hP2 hF2 (fun x k z => ((up2_x (by omega)).trans ((up2_x (by omega)).trans rfl))) (hK2.put.put), (((frC.refl _).trans hf1).hi.trans hF2.hi).trans (fun x k z => ((up2_x (by omega)).trans ((up2_x (by omega)).trans rfl)))⟩)
          · refine o_bipush (v := (-3)) dX8_fills_36 (by decide) ?_
            exact o_iret dX8_fills_38 rfl (by rw [show sp_fills S (nI c) (nI a) (nI b) = (-3, S) by simp only [sp_fills, cg_ix_some hc (by omega : S.1.1 ≤ 2 ^ 31), cg_in_n ha1 ha2, cg_in_some hb1 hb2 (by omega : a < 2 ^ 31), if_pos (show cH S.1 c - S.1.2 c 4 < a by omega)]]; exact ⟨rfl, (hC.fr hS ((frC.refl _).trans hf1) hV1), ((frC.refl _).trans hf1).hi⟩)
        · refine o_iconst (v := (-1)) dX8_fills_25 (by decide) ?_
          exact o_iret dX8_fills_26 rfl (by rw [show sp_fills S (nI c) (nI a) m = (-1, S) by simp only [sp_fills, cg_ix_some hc (by omega : S.1.1 ≤ 2 ^ 31), cg_in_n ha1 ha2, cg_in_none (by decide : 0 < 2 ^ 31) (by omega : a < 2 ^ 31) (fun q => absurd q.2 b_49)]]; exact ⟨rfl, (hC.fr hS (frC.refl _) hV), (frC.refl _).hi⟩)
  · refine o_ifN_eq (tgt := 25) dX8_fills_8 (by decide) (by omega) (fun b_51 => ?_) (fun b_51 => absurd b_51 (by omega))
    refine o_iconst (v := (-1)) dX8_fills_25 (by decide) ?_
    exact o_iret dX8_fills_26 rfl (by rw [show sp_fills S c n m = (-1, S) by simp only [sp_fills, hno]]; exact ⟨rfl, (hC.fr hS (frC.refl _) hV), (frC.refl _).hi⟩)

set_option maxHeartbeats 4000000 in
set_option maxRecDepth 100000 in
theorem n_draws {I : sm_I} {S : ST} (hC : CI I S) (hS : okS S) (c n : Int32) : E0 7 mX8_draws [.ref 0, .int c, .int n] I (fun r I' => r = some (.int (sp_draws S c n).1) ∧ CI I' (sp_draws S c n).2 ∧ hiC I I') := by
  have hK := hC.1
  have hok := hS.1
  have hn := hok.1
  have hV := hC.2.2.2.2.2
  refine E0.of (by decide) (by simp [Value.category]) (Nat.le_of_ble_eq_true rfl) (fun ζ => ?_)
  refine o_aload_n dX8_draws_0 rfl rfl ?_
  refine o_getR (b := 13) dX8_draws_1 fgX8_28 sh_0 rfl rfl ?_
  refine o_iload_n dX8_draws_4 rfl rfl ?_
  refine o_callV (as := [.int c]) (st := []) dX8_draws_5 (k_has isCl_13 hK hn c) rfl meX1_has imX1_has seX1_has mlX8_106 sh_13 rfl rfl (by omega) (by decide) (Nat.le_of_ble_eq_true rfl) ?_
  rintro _ _ ⟨rfl, ⟨c, hc, rfl, rfl⟩ | ⟨hno, rfl⟩⟩
  · have hc4 : c < 4 := by omega
    obtain ⟨q0, q1, q2, q3, q4, q5, q6, q7⟩ := id (hok.2 c hc)
    have hHc := (hok.2 c hc).lH
    have hTc := (hok.2 c hc).lT
    have hwc := (hok.2 c hc).w
    refine o_ifN_eq (tgt := 16) dX8_draws_8 (by decide) (by omega) (fun b_52 => absurd b_52 (by omega)) (fun b_52 => ?_)
    refine o_iload_n dX8_draws_11 rfl rfl ?_
    refine o_iconst (v := nI 1) dX8_draws_12 (by decide) ?_
    refine o_icmp_ge (tgt := 18) dX8_draws_13 (by decide) (fun b_53 => ?_) (fun b_53 => ?_)
    · obtain ⟨a, ha1, ha2, rfl⟩ := ge1_nat' b_53
      refine o_iload_n dX8_draws_18 rfl rfl ?_
      refine o_aload_n dX8_draws_19 rfl rfl ?_
      refine o_getR (b := 13) dX8_draws_20 fgX8_28 sh_0 rfl rfl ?_
      refine o_getR (b := 14) dX8_draws_23 fgX8_113 sh_13 rfl rfl ?_
      refine o_iload_n dX8_draws_26 rfl rfl ?_
      refine o_aaldN (t := 3) (b := 15 + c) dX8_draws_27 sh_14 (by decide) (by decide) hc4 (g4 15 hc4) ?_
      refine o_getI (v := nI (S.1.2 c 4)) dX8_draws_28 fgX8_123 (sk_13 c hc4) rfl (hK.cell hc (by decide)) ?_
      refine o_icmpN_le (tgt := 37) dX8_draws_31 (by decide) (by omega) (by omega) (fun b_54 => ?_) (fun b_54 => ?_)
      · refine o_aload_n dX8_draws_37 rfl rfl ?_
        refine o_getR (b := 19) dX8_draws_38 fgX8_35 sh_0 rfl rfl ?_
        refine o_aload_n dX8_draws_41 rfl rfl ?_
        refine o_getR (b := 13) dX8_draws_42 fgX8_28 sh_0 rfl rfl ?_
        refine o_callV (as := [.ref 13]) (st := []) dX8_draws_45 (k_remember (hC.fr hS (frC.refl _) hV).2.2.1 hS.2.2.1.1 hS.2.2.1.2 hK hok) rfl meX3_remember imX3_remember seX3_remember mlX8_93 sh_19 rfl rfl (by omega) (by decide) (Nat.le_of_ble_eq_true rfl) ?_
        rintro _ I2 ⟨rfl, hP2, hF2⟩
        have hK2 : CK I2 13 S.1 := hK.fr hn (fun x k z1 z2 => hF2 x k (by omega))
        refine o_aload_n dX8_draws_48 rfl rfl ?_
        refine o_getR (b := 13) dX8_draws_49 fgX8_28 sh_0 rfl rfl ?_
        refine o_getR (b := 14) dX8_draws_52 fgX8_113 sh_13 rfl rfl ?_
        refine o_iload_n dX8_draws_55 rfl rfl ?_
        refine o_aaldN (t := 3) (b := 15 + c) dX8_draws_56 sh_14 (by decide) (by decide) hc4 (g4 15 hc4) ?_
        refine o_iload_n dX8_draws_57 rfl rfl ?_
        have hgo : S.1.2 c 5 * a / S.1.2 c 4 ≤ S.1.2 c 5 := kgoes_le5 (K := S.1) (c := c) (a := a) (by omega)
        have hmul : S.1.2 c 5 * a ≤ 20160 * 20160 := Nat.mul_le_mul (by have := (hok.2 c hc).l2; omega) (by have := (hok.2 c hc).l2; omega)
        refine o_callV (as := [.int (nI a)]) (st := []) dX8_draws_58 (k_giveOut (sk_13 c hc4) (n := a) (hK2.cell hc (by decide)) (hK2.cell hc (by decide)) ha1 (by omega) (by omega) (by omega) (by omega) hgo) rfl meX0_giveOut imX0_giveOut seX0_giveOut mlX8_126 (sk_13 c hc4) rfl rfl (by omega) (by decide) (Nat.le_of_ble_eq_true rfl) ?_
        rintro _ _ ⟨rfl, rfl⟩
        refine o_pop dX8_draws_61 rfl ?_
        refine o_aload_n dX8_draws_62 rfl rfl ?_
        refine o_getR (b := 13) dX8_draws_63 fgX8_28 sh_0 rfl rfl ?_
        refine o_getR (b := 14) dX8_draws_66 fgX8_113 sh_13 rfl rfl ?_
        refine o_iload_n dX8_draws_69 rfl rfl ?_
        refine o_aaldN (t := 3) (b := 15 + c) dX8_draws_70 sh_14 (by decide) (by decide) hc4 (g4 15 hc4) ?_
        refine o_getI (v := nI (S.1.2 c 4 - a)) dX8_draws_71 fgX8_123 (sk_13 c hc4) rfl ((up2_x (by omega)).trans up2_s) ?_
        exact o_iret dX8_draws_74 rfl (by rw [show sp_draws S (nI c) (nI a) = (nI (S.1.2 c 4 - a), st_do S (kdraw S.1 c a)) by simp only [sp_draws, cg_ix_some hc (by omega : S.1.1 ≤ 2 ^ 31), cg_in_n ha1 ha2, if_neg (show ¬ S.1.2 c 4 < a by omega)]]; exact ⟨congrArg (fun z => some (Value.int z)) (by first | rfl | (congr 1; omega)), CI.do (hC.fr hS (frC.refl _) hV) hS hP2 hF2 (fun x k z => ((up2_x (by omega)).trans ((up2_x (by omega)).trans rfl))) (hK2.put.put), ((frC.refl _).hi.trans hF2.hi).trans (fun x k z => ((up2_x (by omega)).trans ((up2_x (by omega)).trans rfl)))⟩)
      · refine o_bipush (v := (-2)) dX8_draws_34 (by decide) ?_
        exact o_iret dX8_draws_36 rfl (by rw [show sp_draws S (nI c) (nI a) = (-2, S) by simp only [sp_draws, cg_ix_some hc (by omega : S.1.1 ≤ 2 ^ 31), cg_in_n ha1 ha2, if_pos (show S.1.2 c 4 < a by omega)]]; exact ⟨rfl, (hC.fr hS (frC.refl _) hV), (frC.refl _).hi⟩)
    · refine o_iconst (v := (-1)) dX8_draws_16 (by decide) ?_
      exact o_iret dX8_draws_17 rfl (by rw [show sp_draws S (nI c) n = (-1, S) by simp only [sp_draws, cg_ix_some hc (by omega : S.1.1 ≤ 2 ^ 31), lt1_in (i32_nle b_53)]]; exact ⟨rfl, (hC.fr hS (frC.refl _) hV), (frC.refl _).hi⟩)
  · refine o_ifN_eq (tgt := 16) dX8_draws_8 (by decide) (by omega) (fun b_55 => ?_) (fun b_55 => absurd b_55 (by omega))
    refine o_iconst (v := (-1)) dX8_draws_16 (by decide) ?_
    exact o_iret dX8_draws_17 rfl (by rw [show sp_draws S c n = (-1, S) by simp only [sp_draws, hno]]; exact ⟨rfl, (hC.fr hS (frC.refl _) hV), (frC.refl _).hi⟩)

set_option maxHeartbeats 4000000 in
set_option maxRecDepth 100000 in
theorem n_pours {I : sm_I} {S : ST} (hC : CI I S) (hS : okS S) (c e n : Int32) : E0 7 mX8_pours [.ref 0, .int c, .int e, .int n] I (fun r I' => r = some (.int (sp_pours S c e n).1) ∧ CI I' (sp_pours S c e n).2 ∧ hiC I I') := by
  have hK := hC.1
  have hok := hS.1
  have hn := hok.1
  have hV := hC.2.2.2.2.2
  refine E0.of (by decide) (by simp [Value.category]) (Nat.le_of_ble_eq_true rfl) (fun ζ => ?_)
  refine o_aload_n dX8_pours_0 rfl rfl ?_
  refine o_getR (b := 13) dX8_pours_1 fgX8_28 sh_0 rfl rfl ?_
  refine o_iload_n dX8_pours_4 rfl rfl ?_
  refine o_callV (as := [.int c]) (st := []) dX8_pours_5 (k_has isCl_13 hK hn c) rfl meX1_has imX1_has seX1_has mlX8_106 sh_13 rfl rfl (by omega) (by decide) (Nat.le_of_ble_eq_true rfl) ?_
  rintro _ _ ⟨rfl, ⟨c, hc, rfl, rfl⟩ | ⟨hno, rfl⟩⟩
  · have hc4 : c < 4 := by omega
    obtain ⟨q0, q1, q2, q3, q4, q5, q6, q7⟩ := id (hok.2 c hc)
    have hHc := (hok.2 c hc).lH
    have hTc := (hok.2 c hc).lT
    have hwc := (hok.2 c hc).w
    refine o_ifN_eq (tgt := 32) dX8_pours_8 (by decide) (by omega) (fun b_56 => absurd b_56 (by omega)) (fun b_56 => ?_)
    refine o_aload_n dX8_pours_11 rfl rfl ?_
    refine o_getR (b := 13) dX8_pours_12 fgX8_28 sh_0 rfl rfl ?_
    refine o_iload_n dX8_pours_15 rfl rfl ?_
    refine o_callV (as := [.int e]) (st := []) dX8_pours_16 (k_has isCl_13 hK hn e) rfl meX1_has imX1_has seX1_has mlX8_106 sh_13 rfl rfl (by omega) (by decide) (Nat.le_of_ble_eq_true rfl) ?_
    rintro _ _ ⟨rfl, ⟨i, hi, rfl, rfl⟩ | ⟨hno2, rfl⟩⟩
    · have hi4 : i < 4 := by omega
      obtain ⟨q0i, q1i, q2i, q3i, q4i, q5i, q6i, q7i⟩ := id (hok.2 i hi)
      have hHi := (hok.2 i hi).lH
      have hTi := (hok.2 i hi).lT
      have hwi := (hok.2 i hi).w
      refine o_ifN_eq (tgt := 32) dX8_pours_19 (by decide) (by omega) (fun b_57 => absurd b_57 (by omega)) (fun b_57 => ?_)
      refine o_iload_n dX8_pours_22 rfl rfl ?_
      refine o_iload_n dX8_pours_23 rfl rfl ?_
      refine o_icmpN_eq (tgt := 32) dX8_pours_24 (by decide) (by omega) (by omega) (fun b_58 => ?_) (fun b_58 => ?_)
      · refine o_iconst (v := (-1)) dX8_pours_32 (by decide) ?_
        exact o_iret dX8_pours_33 rfl (by rw [show sp_pours S (nI c) (nI i) n = (-1, S) by simp only [sp_pours, cg_ix_some hc (by omega : S.1.1 ≤ 2 ^ 31), cg_ix_some hi (by omega : S.1.1 ≤ 2 ^ 31), if_pos b_58]]; exact ⟨rfl, (hC.fr hS (frC.refl _) hV), (frC.refl _).hi⟩)
      · refine o_iload_n dX8_pours_27 rfl rfl ?_
        refine o_iconst (v := nI 1) dX8_pours_28 (by decide) ?_
        refine o_icmp_ge (tgt := 34) dX8_pours_29 (by decide) (fun b_59 => ?_) (fun b_59 => ?_)
        · obtain ⟨a, ha1, ha2, rfl⟩ := ge1_nat' b_59
          refine o_iload_n dX8_pours_34 rfl rfl ?_
          refine o_aload_n dX8_pours_35 rfl rfl ?_
          refine o_getR (b := 13) dX8_pours_36 fgX8_28 sh_0 rfl rfl ?_
          refine o_getR (b := 14) dX8_pours_39 fgX8_113 sh_13 rfl rfl ?_
          refine o_iload_n dX8_pours_42 rfl rfl ?_
          refine o_aaldN (t := 3) (b := 15 + c) dX8_pours_43 sh_14 (by decide) (by decide) (by omega) (g4 15 hc4) ?_
          refine o_getI (v := nI (S.1.2 c 4)) dX8_pours_44 fgX8_123 (sk_13 c hc4) rfl (hK.cell hc (by decide)) ?_
          refine o_icmpN_le (tgt := 53) dX8_pours_47 (by decide) (by omega) (by omega) (fun b_60 => ?_) (fun b_60 => ?_)
          · refine o_iload_n dX8_pours_53 rfl rfl ?_
            refine o_aload_n dX8_pours_54 rfl rfl ?_
            refine o_iload_n dX8_pours_55 rfl rfl ?_
            refine o_callV (as := [.int (nI i)]) (st := [.int (nI a)]) dX8_pours_56 (k_room hK hok hV hi) rfl meX8_roomIn imX8_roomIn seX8_roomIn mlX8_109 sh_0 rfl rfl (by omega) (by decide) (Nat.le_of_ble_eq_true rfl) ?_
            rintro _ I1 ⟨rfl, hf1, hV1⟩
            have hK1 : CK I1 13 S.1 := hK.frC hn hf1
            refine o_icmpN_le (tgt := 65) dX8_pours_59 (by decide) (by omega) (by omega) (fun b_61 => ?_) (fun b_61 => ?_)
            · refine o_aload_n dX8_pours_65 rfl rfl ?_
              refine o_getR (b := 19) dX8_pours_66 fgX8_35 sh_0 rfl rfl ?_
              refine o_aload_n dX8_pours_69 rfl rfl ?_
              refine o_getR (b := 13) dX8_pours_70 fgX8_28 sh_0 rfl rfl ?_
              refine o_callV (as := [.ref 13]) (st := []) dX8_pours_73 (k_remember (hC.fr hS ((frC.refl _).trans hf1) hV1).2.2.1 hS.2.2.1.1 hS.2.2.1.2 hK1 hok) rfl meX3_remember imX3_remember seX3_remember mlX8_93 sh_19 rfl rfl (by omega) (by decide) (Nat.le_of_ble_eq_true rfl) ?_
              rintro _ I2 ⟨rfl, hP2, hF2⟩
              have hK2 : CK I2 13 S.1 := hK1.fr hn (fun x k z1 z2 => hF2 x k (by omega))
              refine o_aload_n dX8_pours_76 rfl rfl ?_
              refine o_getR (b := 13) dX8_pours_77 fgX8_28 sh_0 rfl rfl ?_
              refine o_getR (b := 14) dX8_pours_80 fgX8_113 sh_13 rfl rfl ?_
              refine o_iload_n dX8_pours_83 rfl rfl ?_
              refine o_aaldN (t := 3) (b := 15 + c) dX8_pours_84 sh_14 (by decide) (by decide) (by omega) (g4 15 hc4) ?_
              refine o_iload_n dX8_pours_85 rfl rfl ?_
              have hgo : S.1.2 c 5 * a / S.1.2 c 4 ≤ S.1.2 c 5 := kgoes_le5 (K := S.1) (c := c) (a := a) (by omega)
              have hmul : S.1.2 c 5 * a ≤ 20160 * 20160 := Nat.mul_le_mul (by have := (hok.2 c hc).l2; omega) (by have := (hok.2 c hc).l2; omega)
              refine o_callV (as := [.int (nI a)]) (st := []) dX8_pours_86 (k_giveOut (sk_13 c hc4) (n := a) (hK2.cell hc (by decide)) (hK2.cell hc (by decide)) ha1 (by omega) (by omega) (by omega) (by omega) hgo) rfl meX0_giveOut imX0_giveOut seX0_giveOut mlX8_126 (sk_13 c hc4) rfl rfl (by omega) (by decide) (Nat.le_of_ble_eq_true rfl) ?_
              rintro _ _ ⟨rfl, rfl⟩
              refine o_istore dX8_pours_89 (by decide) ?_
              refine o_aload_n dX8_pours_91 rfl rfl ?_
              refine o_getR (b := 13) dX8_pours_92 fgX8_28 sh_0 rfl rfl ?_
              refine o_getR (b := 14) dX8_pours_95 fgX8_113 sh_13 rfl rfl ?_
              refine o_iload_n dX8_pours_98 rfl rfl ?_
              refine o_aaldN (t := 3) (b := 15 + i) dX8_pours_99 sh_14 (by decide) (by decide) (by omega) (g4 15 hi4) ?_
              refine o_iload_n dX8_pours_100 rfl rfl ?_
              refine o_iload dX8_pours_101 rfl ?_
              refine o_callV (as := [.int (nI a), .int (nI (kgoes S.1 c a))]) (st := []) dX8_pours_103 (k_takeIn (sk_13 i hi4) (n := a) (m := kgoes S.1 c a) ((up2_x (by omega)).trans ((up2_x (by omega)).trans (hK2.cell hi (by decide)))) ((up2_x (by omega)).trans ((up2_x (by omega)).trans (hK2.cell hi (by decide))))) rfl meX0_takeIn imX0_takeIn seX0_takeIn mlX8_117 (sk_13 i hi4) rfl rfl (by omega) (by decide) (Nat.le_of_ble_eq_true rfl) ?_
              rintro _ _ ⟨rfl, rfl⟩
              refine o_aload_n dX8_pours_106 rfl rfl ?_
              refine o_getR (b := 13) dX8_pours_107 fgX8_28 sh_0 rfl rfl ?_
              refine o_getR (b := 14) dX8_pours_110 fgX8_113 sh_13 rfl rfl ?_
              refine o_iload_n dX8_pours_113 rfl rfl ?_
              refine o_aaldN (t := 3) (b := 15 + i) dX8_pours_114 sh_14 (by decide) (by decide) (by omega) (g4 15 hi4) ?_
              refine o_getI (v := nI (S.1.2 i 4 + a)) dX8_pours_115 fgX8_123 (sk_13 i hi4) rfl ((up2_x (by omega)).trans up2_s) ?_
              exact o_iret dX8_pours_118 rfl (by rw [show sp_pours S (nI c) (nI i) (nI a) = (nI (S.1.2 i 4 + a), st_do S (kpour S.1 c i a)) by simp only [sp_pours, cg_ix_some hc (by omega : S.1.1 ≤ 2 ^ 31), cg_ix_some hi (by omega : S.1.1 ≤ 2 ^ 31), if_neg b_58, cg_in_n ha1 ha2, if_neg (show ¬ S.1.2 c 4 < a by omega), if_neg (show ¬ cH S.1 i - S.1.2 i 4 < a by omega)]]; exact ⟨congrArg (fun z => some (Value.int z)) (by first | rfl | (congr 1; omega)), CI.do (hC.fr hS ((frC.refl _).trans hf1) hV1) hS hP2 hF2 (fun x k z => ((up2_x (by omega)).trans ((up2_x (by omega)).trans ((up2_x (by omega)).trans ((up2_x (by omega)).trans rfl))))) (hK2.put.put.put.put), (((frC.refl _).trans hf1).hi.trans hF2.hi).trans (fun x k z => ((up2_x (by omega)).trans ((up2_x (by omega)).trans ((up2_x (by omega)).trans ((up2_x (by omega)).trans rfl)))))⟩)
            · refine o_bipush (v := (-3)) dX8_pours_62 (by decide) ?_
              exact o_iret dX8_pours_64 rfl (by rw [show sp_pours S (nI c) (nI i) (nI a) = (-3, S) by simp only [sp_pours, cg_ix_some hc (by omega : S.1.1 ≤ 2 ^ 31), cg_ix_some hi (by omega : S.1.1 ≤ 2 ^ 31), if_neg b_58, cg_in_n ha1 ha2, if_neg (show ¬ S.1.2 c 4 < a by omega), if_pos (show cH S.1 i - S.1.2 i 4 < a by omega)]]; exact ⟨rfl, (hC.fr hS ((frC.refl _).trans hf1) hV1), ((frC.refl _).trans hf1).hi⟩)
          · refine o_bipush (v := (-2)) dX8_pours_50 (by decide) ?_
            exact o_iret dX8_pours_52 rfl (by rw [show sp_pours S (nI c) (nI i) (nI a) = (-2, S) by simp only [sp_pours, cg_ix_some hc (by omega : S.1.1 ≤ 2 ^ 31), cg_ix_some hi (by omega : S.1.1 ≤ 2 ^ 31), if_neg b_58, cg_in_n ha1 ha2, if_pos (show S.1.2 c 4 < a by omega)]]; exact ⟨rfl, (hC.fr hS (frC.refl _) hV), (frC.refl _).hi⟩)
        · refine o_iconst (v := (-1)) dX8_pours_32 (by decide) ?_
          exact o_iret dX8_pours_33 rfl (by rw [show sp_pours S (nI c) (nI i) n = (-1, S) by simp only [sp_pours, cg_ix_some hc (by omega : S.1.1 ≤ 2 ^ 31), cg_ix_some hi (by omega : S.1.1 ≤ 2 ^ 31), if_neg b_58, lt1_in (i32_nle b_59)]]; exact ⟨rfl, (hC.fr hS (frC.refl _) hV), (frC.refl _).hi⟩)
    · refine o_ifN_eq (tgt := 32) dX8_pours_19 (by decide) (by omega) (fun b_62 => ?_) (fun b_62 => absurd b_62 (by omega))
      refine o_iconst (v := (-1)) dX8_pours_32 (by decide) ?_
      exact o_iret dX8_pours_33 rfl (by rw [show sp_pours S (nI c) e n = (-1, S) by simp only [sp_pours, cg_ix_some hc (by omega : S.1.1 ≤ 2 ^ 31), hno2]]; exact ⟨rfl, (hC.fr hS (frC.refl _) hV), (frC.refl _).hi⟩)
  · refine o_ifN_eq (tgt := 32) dX8_pours_8 (by decide) (by omega) (fun b_63 => ?_) (fun b_63 => absurd b_63 (by omega))
    refine o_iconst (v := (-1)) dX8_pours_32 (by decide) ?_
    exact o_iret dX8_pours_33 rfl (by rw [show sp_pours S c e n = (-1, S) by simp only [sp_pours, hno]]; exact ⟨rfl, (hC.fr hS (frC.refl _) hV), (frC.refl _).hi⟩)

set_option maxHeartbeats 4000000 in
set_option maxRecDepth 100000 in
theorem n_turnsOver {I : sm_I} {S : ST} (hC : CI I S) (hS : okS S) (c : Int32) : E0 7 mX8_turnsOver [.ref 0, .int c] I (fun r I' => r = some (.int (sp_turnsOver S c).1) ∧ CI I' (sp_turnsOver S c).2 ∧ hiC I I') := by
  have hK := hC.1
  have hok := hS.1
  have hn := hok.1
  have hV := hC.2.2.2.2.2
  refine E0.of (by decide) (by simp [Value.category]) (Nat.le_of_ble_eq_true rfl) (fun ζ => ?_)
  refine o_aload_n dX8_turnsOver_0 rfl rfl ?_
  refine o_getR (b := 13) dX8_turnsOver_1 fgX8_28 sh_0 rfl rfl ?_
  refine o_iload_n dX8_turnsOver_4 rfl rfl ?_
  refine o_callV (as := [.int c]) (st := []) dX8_turnsOver_5 (k_has isCl_13 hK hn c) rfl meX1_has imX1_has seX1_has mlX8_106 sh_13 rfl rfl (by omega) (by decide) (Nat.le_of_ble_eq_true rfl) ?_
  rintro _ _ ⟨rfl, ⟨c, hc, rfl, rfl⟩ | ⟨hno, rfl⟩⟩
  · have hc4 : c < 4 := by omega
    obtain ⟨q0, q1, q2, q3, q4, q5, q6, q7⟩ := id (hok.2 c hc)
    have hHc := (hok.2 c hc).lH
    have hTc := (hok.2 c hc).lT
    have hwc := (hok.2 c hc).w
    refine o_ifN_ne (tgt := 13) dX8_turnsOver_8 (by decide) (by omega) (fun b_64 => ?_) (fun b_64 => absurd b_64 (by omega))
    refine o_aload_n dX8_turnsOver_13 rfl rfl ?_
    refine o_getR (b := 19) dX8_turnsOver_14 fgX8_35 sh_0 rfl rfl ?_
    refine o_aload_n dX8_turnsOver_17 rfl rfl ?_
    refine o_getR (b := 13) dX8_turnsOver_18 fgX8_28 sh_0 rfl rfl ?_
    refine o_callV (as := [.ref 13]) (st := []) dX8_turnsOver_21 (k_remember (hC.fr hS (frC.refl _) hV).2.2.1 hS.2.2.1.1 hS.2.2.1.2 hK hok) rfl meX3_remember imX3_remember seX3_remember mlX8_93 sh_19 rfl rfl (by omega) (by decide) (Nat.le_of_ble_eq_true rfl) ?_
    rintro _ I2 ⟨rfl, hP2, hF2⟩
    have hK2 : CK I2 13 S.1 := hK.fr hn (fun x k z1 z2 => hF2 x k (by omega))
    refine o_aload_n dX8_turnsOver_24 rfl rfl ?_
    refine o_getR (b := 13) dX8_turnsOver_25 fgX8_28 sh_0 rfl rfl ?_
    refine o_getR (b := 14) dX8_turnsOver_28 fgX8_113 sh_13 rfl rfl ?_
    refine o_iload_n dX8_turnsOver_31 rfl rfl ?_
    refine o_aaldN (t := 3) (b := 15 + c) dX8_turnsOver_32 sh_14 (by decide) (by decide) hc4 (g4 15 hc4) ?_
    refine o_aload_n dX8_turnsOver_33 rfl rfl ?_
    refine o_getR (b := 13) dX8_turnsOver_34 fgX8_28 sh_0 rfl rfl ?_
    refine o_getR (b := 14) dX8_turnsOver_37 fgX8_113 sh_13 rfl rfl ?_
    refine o_iload_n dX8_turnsOver_40 rfl rfl ?_
    refine o_aaldN (t := 3) (b := 15 + c) dX8_turnsOver_41 sh_14 (by decide) (by decide) hc4 (g4 15 hc4) ?_
    refine o_getI (v := nI (S.1.2 c 3)) dX8_turnsOver_42 fgX8_129 (sk_13 c hc4) rfl (hK2.cell hc (by decide)) ?_
    refine o_ifN_ne (tgt := 52) dX8_turnsOver_45 (by decide) (by omega) (fun b_65 => ?_) (fun b_65 => ?_)
    · refine o_iconst (v := nI 0) dX8_turnsOver_52 (by decide) ?_
      rw [show nI 0 = nI (1 - S.1.2 c 3) from congrArg nI (by omega)]
      refine o_putZ dX8_turnsOver_53 flX8_129 (sk_13 c hc4) rfl (nI_01 (by omega)) ?_
      have hKt : CK (up2 I2 (15 + c) 3 (nI (1 - S.1.2 c 3))) 13 (kturn S.1 c) := hK2.put
      refine o_aload_n dX8_turnsOver_56 rfl rfl ?_
      refine o_getR (b := 13) dX8_turnsOver_57 fgX8_28 sh_0 rfl rfl ?_
      refine o_getR (b := 14) dX8_turnsOver_60 fgX8_113 sh_13 rfl rfl ?_
      refine o_iload_n dX8_turnsOver_63 rfl rfl ?_
      refine o_aaldN (t := 3) (b := 15 + c) dX8_turnsOver_64 sh_14 (by decide) (by decide) hc4 (g4 15 hc4) ?_
      refine o_getI (v := nI (1 - S.1.2 c 3)) dX8_turnsOver_65 fgX8_129 (sk_13 c hc4) rfl up2_s ?_
      refine o_ifN_eq (tgt := 75) dX8_turnsOver_68 (by decide) (by omega) (fun b_66 => ?_) (fun b_66 => ?_)
      · refine o_iconst (v := nI 0) dX8_turnsOver_75 (by decide) ?_
        exact o_iret dX8_turnsOver_76 rfl (by rw [show sp_turnsOver S (nI c) = (nI (1 - S.1.2 c 3), st_do S (kturn S.1 c)) by simp only [sp_turnsOver, cg_ix_some hc (by omega : S.1.1 ≤ 2 ^ 31)]]; exact ⟨congrArg (fun z => some (Value.int z)) (by first | rfl | (congr 1; omega)), CI.do (hC.fr hS (frC.refl _) hV) hS hP2 hF2 (fun x k z => ((up2_x (by omega)).trans rfl)) (hKt), ((frC.refl _).hi.trans hF2.hi).trans (fun x k z => ((up2_x (by omega)).trans rfl))⟩)
      · refine o_iconst (v := nI 1) dX8_turnsOver_71 (by decide) ?_
        refine o_goto (tgt := 76) dX8_turnsOver_72 (by decide) ?_
        exact o_iret dX8_turnsOver_76 rfl (by rw [show sp_turnsOver S (nI c) = (nI (1 - S.1.2 c 3), st_do S (kturn S.1 c)) by simp only [sp_turnsOver, cg_ix_some hc (by omega : S.1.1 ≤ 2 ^ 31)]]; exact ⟨congrArg (fun z => some (Value.int z)) (by first | rfl | (congr 1; omega)), CI.do (hC.fr hS (frC.refl _) hV) hS hP2 hF2 (fun x k z => ((up2_x (by omega)).trans rfl)) (hKt), ((frC.refl _).hi.trans hF2.hi).trans (fun x k z => ((up2_x (by omega)).trans rfl))⟩)
    · refine o_iconst (v := nI 1) dX8_turnsOver_48 (by decide) ?_
      refine o_goto (tgt := 53) dX8_turnsOver_49 (by decide) ?_
      rw [show nI 1 = nI (1 - S.1.2 c 3) from congrArg nI (by omega)]
      refine o_putZ dX8_turnsOver_53 flX8_129 (sk_13 c hc4) rfl (nI_01 (by omega)) ?_
      have hKt : CK (up2 I2 (15 + c) 3 (nI (1 - S.1.2 c 3))) 13 (kturn S.1 c) := hK2.put
      refine o_aload_n dX8_turnsOver_56 rfl rfl ?_
      refine o_getR (b := 13) dX8_turnsOver_57 fgX8_28 sh_0 rfl rfl ?_
      refine o_getR (b := 14) dX8_turnsOver_60 fgX8_113 sh_13 rfl rfl ?_
      refine o_iload_n dX8_turnsOver_63 rfl rfl ?_
      refine o_aaldN (t := 3) (b := 15 + c) dX8_turnsOver_64 sh_14 (by decide) (by decide) hc4 (g4 15 hc4) ?_
      refine o_getI (v := nI (1 - S.1.2 c 3)) dX8_turnsOver_65 fgX8_129 (sk_13 c hc4) rfl up2_s ?_
      refine o_ifN_eq (tgt := 75) dX8_turnsOver_68 (by decide) (by omega) (fun b_67 => ?_) (fun b_67 => ?_)
      · refine o_iconst (v := nI 0) dX8_turnsOver_75 (by decide) ?_
        exact o_iret dX8_turnsOver_76 rfl (by rw [show sp_turnsOver S (nI c) = (nI (1 - S.1.2 c 3), st_do S (kturn S.1 c)) by simp only [sp_turnsOver, cg_ix_some hc (by omega : S.1.1 ≤ 2 ^ 31)]]; exact ⟨congrArg (fun z => some (Value.int z)) (by first | rfl | (congr 1; omega)), CI.do (hC.fr hS (frC.refl _) hV) hS hP2 hF2 (fun x k z => ((up2_x (by omega)).trans rfl)) (hKt), ((frC.refl _).hi.trans hF2.hi).trans (fun x k z => ((up2_x (by omega)).trans rfl))⟩)
      · refine o_iconst (v := nI 1) dX8_turnsOver_71 (by decide) ?_
        refine o_goto (tgt := 76) dX8_turnsOver_72 (by decide) ?_
        exact o_iret dX8_turnsOver_76 rfl (by rw [show sp_turnsOver S (nI c) = (nI (1 - S.1.2 c 3), st_do S (kturn S.1 c)) by simp only [sp_turnsOver, cg_ix_some hc (by omega : S.1.1 ≤ 2 ^ 31)]]; exact ⟨congrArg (fun z => some (Value.int z)) (by first | rfl | (congr 1; omega)), CI.do (hC.fr hS (frC.refl _) hV) hS hP2 hF2 (fun x k z => ((up2_x (by omega)).trans rfl)) (hKt), ((frC.refl _).hi.trans hF2.hi).trans (fun x k z => ((up2_x (by omega)).trans rfl))⟩)
  · refine o_ifN_ne (tgt := 13) dX8_turnsOver_8 (by decide) (by omega) (fun b_68 => absurd b_68 (by omega)) (fun b_68 => ?_)
    refine o_iconst (v := (-1)) dX8_turnsOver_11 (by decide) ?_
    exact o_iret dX8_turnsOver_12 rfl (by rw [show sp_turnsOver S c = (-1, S) by simp only [sp_turnsOver, hno]]; exact ⟨rfl, (hC.fr hS (frC.refl _) hV), (frC.refl _).hi⟩)

theorem CI.undo {I I' : sm_I} {S : ST} {K : KT} {P : PT} (h : CI I S) (hS : okS S) (hK : CK I' 13 K) (hP : CP I' P) (hx : ∀ x k, ¬ (13 ≤ x ∧ x ≤ 18) → x ≠ 19 → I' x k = I x k) : CI I' (K, S.2.1, P, S.2.2.2) := by
  obtain ⟨h1, h2, h3, h4, h5, h6⟩ := h
  exact ⟨hK, h2.of (hx _ _ (by omega) (by omega)) (fun k => hx _ _ (by omega) (by omega)), hP, h4.of hS.2.2.2.1 (fun b k g1 g2 => hx b k (by omega) (by omega)), h5.of (fun b k g1 g2 => hx b k (by omega) (by omega)), h6.of (fun b k g1 g2 => hx b k (by omega) (by omega))⟩

set_option maxHeartbeats 4000000 in
set_option maxRecDepth 100000 in
theorem n_undo {I : sm_I} {S : ST} (hC : CI I S) (hS : okS S) : E0 7 mX8_undo [.ref 0] I (fun r I' => r = some (.int (sp_undo S).1) ∧ CI I' (sp_undo S).2 ∧ hiC I I') := by
  have hK := hC.1
  have hok := hS.1
  have hn := hok.1
  have hV := hC.2.2.2.2.2
  refine E0.of (by decide) (by simp [Value.category]) (Nat.le_of_ble_eq_true rfl) (fun ζ => ?_)
  by_cases h0 : S.2.2.1.1 = 0
  · refine o_aload_n dX8_undo_0 rfl rfl ?_
    refine o_getR (b := 19) dX8_undo_1 fgX8_35 sh_0 rfl rfl ?_
    refine o_aload_n dX8_undo_4 rfl rfl ?_
    refine o_getR (b := 13) dX8_undo_5 fgX8_28 sh_0 rfl rfl ?_
    refine o_callV (as := [.ref 13]) (st := []) dX8_undo_8 (k_recall hC.2.2.1 hS.2.2.1.1 hS.2.2.1.2 hK hok) rfl meX3_recallInto imX3_recallInto seX3_recallInto mlX8_133 sh_19 rfl rfl (by omega) (by decide) (Nat.le_of_ble_eq_true rfl) ?_
    rintro _ I1 ⟨hr, -⟩
    obtain ⟨rfl, rfl⟩ := hr h0
    refine o_ifN_eq (tgt := 24) dX8_undo_11 (by decide) (by omega) (fun b_69 => ?_) (fun b_69 => absurd b_69 (by omega))
    refine o_bipush (v := (-2)) dX8_undo_24 (by decide) ?_
    exact o_iret dX8_undo_26 rfl (by rw [show sp_undo S = (-2, S) by unfold sp_undo; rw [if_pos h0]]; exact ⟨rfl, hC, fun _ _ _ => rfl⟩)
  · refine o_aload_n dX8_undo_0 rfl rfl ?_
    refine o_getR (b := 19) dX8_undo_1 fgX8_35 sh_0 rfl rfl ?_
    refine o_aload_n dX8_undo_4 rfl rfl ?_
    refine o_getR (b := 13) dX8_undo_5 fgX8_28 sh_0 rfl rfl ?_
    refine o_callV (as := [.ref 13]) (st := []) dX8_undo_8 (k_recall hC.2.2.1 hS.2.2.1.1 hS.2.2.1.2 hK hok) rfl meX3_recallInto imX3_recallInto seX3_recallInto mlX8_133 sh_19 rfl rfl (by omega) (by decide) (Nat.le_of_ble_eq_true rfl) ?_
    rintro _ I1 ⟨-, hr⟩
    obtain ⟨rfl, hK1, hP1, hx⟩ := hr h0
    refine o_ifN_eq (tgt := 24) dX8_undo_11 (by decide) (by omega) (fun b_70 => absurd b_70 (by omega)) (fun b_70 => ?_)
    refine o_aload_n dX8_undo_14 rfl rfl ?_
    refine o_getR (b := 19) dX8_undo_15 fgX8_35 sh_0 rfl rfl ?_
    refine o_getI (v := nI (S.2.2.1.1 - 1)) dX8_undo_18 fgX8_137 sh_19 rfl hP1.1 ?_
    refine o_goto (tgt := 26) dX8_undo_21 (by decide) ?_
    exact o_iret dX8_undo_26 rfl (by rw [show sp_undo S = (nI (S.2.2.1.1 - 1), (S.2.2.1.2 (S.2.2.1.1 - 1), S.2.1, (S.2.2.1.1 - 1, S.2.2.1.2), S.2.2.2)) by unfold sp_undo; rw [if_neg h0]]; exact ⟨rfl, CI.undo hC hS hK1 hP1 hx, fun x k z => hx x k (by omega) (by omega)⟩)
