set_option maxHeartbeats 4000000 in
set_option maxRecDepth 100000 in
theorem n_under {I : sm_I} {K : KT} (hK : CK I 13 K) (hok : okK K) (hV : LV I) (c y : Int32) : E0 6 mX8_under [.ref 0, .int c, .int y] I (fun r I' => r = some (.int (sp_under K c y)) ∧ frC I I' ∧ LV I') := by
  have hn := hok.1
  refine E0.of (by decide) (by simp [Value.category]) (Nat.le_of_ble_eq_true rfl) (fun ζ => ?_)
  refine o_aload_n dX8_under_0 rfl rfl ?_
  refine o_getR (b := 13) dX8_under_1 fgX8_28 sh_0 rfl rfl ?_
  refine o_iload_n dX8_under_4 rfl rfl ?_
  refine o_callV (as := [.int c]) (st := []) dX8_under_5 (k_has isCl_13 hK hn c) rfl meX1_has imX1_has seX1_has mlX8_106 sh_13 rfl rfl (by omega) (by decide) (Nat.le_of_ble_eq_true rfl) ?_
  rintro _ _ ⟨rfl, ⟨c, hc, rfl, rfl⟩ | ⟨hno, rfl⟩⟩
  · have hc4 : c < 4 := by omega
    obtain ⟨q0, q1, q2, q3, q4, q5, q6, q7⟩ := id (hok.2 c hc)
    have hHc := (hok.2 c hc).lH
    have hTc := (hok.2 c hc).lT
    have hwc := (hok.2 c hc).w
    refine o_ifN_ne (tgt := 13) dX8_under_8 (by decide) (by omega) (fun b_46 => ?_) (fun b_46 => absurd b_46 (by omega))
    refine o_aload_n dX8_under_13 rfl rfl ?_
    refine o_iload_n dX8_under_14 rfl rfl ?_
    refine o_callV (as := [.int (nI c)]) (st := []) dX8_under_15 (k_lev hK hok hV hc) rfl meX8_levelsOf imX8_levelsOf seX8_levelsOf mlX8_149 sh_0 rfl rfl (by omega) (by decide) (Nat.le_of_ble_eq_true rfl) ?_
    rintro _ I1 ⟨la1, rfl, hL1, hM1, hf1, hV1⟩
    have hK1 : CK I1 13 K := hK.frC hn hf1
    have hT1 := (hok.2 c hc).lT
    have hU1 : ∀ y, y ≤ 40 → cU K c y ≤ 67200 := fun y hy => (hok.2 c hc).lU hy
    have hH1 := (hok.2 c hc).lH
    refine o_astore_n dX8_under_18 rfl (by decide) ?_
    refine o_aload_n dX8_under_19 rfl rfl ?_
    refine o_iload_n dX8_under_20 rfl rfl ?_
    refine o_callV (as := [.int y]) (st := []) dX8_under_21 (k_reach hL1.1 hL1.2 hT1 hM1.2.2.2.2.1 _) rfl meX2_reach imX2_reach seX2_reach mlX8_177 hL1.1 rfl rfl (by omega) (by decide) (Nat.le_of_ble_eq_true rfl) ?_
    rintro _ _ ⟨rfl, ⟨y, hy, rfl, rfl⟩ | ⟨hy, rfl⟩⟩
    · refine o_ifN_eq (tgt := 35) dX8_under_24 (by decide) (by omega) (fun b_47 => absurd b_47 (by omega)) (fun b_47 => ?_)
      refine o_aload_n dX8_under_27 rfl rfl ?_
      refine o_iload_n dX8_under_28 rfl rfl ?_
      refine o_callVp (v := .int (nI (cU K c y))) (as := [.int (nI y)]) (st := []) dX8_under_29 (k_amountAt hL1.1 hL1.2 hT1 hM1.2.2.2.2.1 (show _ ≤ cT K c by omega) (hM1.2.2.2.2.2 _ (show _ ≤ cT K c by omega))) rfl meX2_amountAt imX2_amountAt seX2_amountAt mlX8_180 hL1.1 rfl rfl (by omega) (by decide) (Nat.le_of_ble_eq_true rfl) ?_
      refine o_goto (tgt := 36) dX8_under_32 (by decide) ?_
      exact o_iret dX8_under_36 rfl ⟨congrArg (fun z => some (Value.int z)) (by simp only [sp_under, sp_h, cg_ix_some hc (by omega : K.1 ≤ 2 ^ 31), cg_in_some (Nat.zero_le y) hy (by omega : cT K c < 2 ^ 31)]), ((frC.refl _).trans hf1), hV1⟩
    · refine o_ifN_eq (tgt := 35) dX8_under_24 (by decide) (by omega) (fun b_48 => ?_) (fun b_48 => absurd b_48 (by omega))
      refine o_iconst (v := (-1)) dX8_under_35 (by decide) ?_
      exact o_iret dX8_under_36 rfl ⟨congrArg (fun z => some (Value.int z)) (by simp only [sp_under, sp_h, cg_ix_some hc (by omega : K.1 ≤ 2 ^ 31), hy]), ((frC.refl _).trans hf1), hV1⟩
  · refine o_ifN_ne (tgt := 13) dX8_under_8 (by decide) (by omega) (fun b_49 => absurd b_49 (by omega)) (fun b_49 => ?_)
    refine o_iconst (v := (-1)) dX8_under_11 (by decide) ?_
    exact o_iret dX8_under_12 rfl ⟨congrArg (fun z => some (Value.int z)) (by simp only [sp_under, sp_h, hno]), (frC.refl _), hV⟩

theorem ge0_nat {n : Int32} (h : 0 ≤ n) : ∃ a : Nat, a ≤ 2147483647 ∧ n = nI a := by
  obtain ⟨a, ha, rfl⟩ := nI_of (Int32.not_lt.mpr h)
  exact ⟨a, by omega, rfl⟩
theorem dip_yes {n H d : Nat} (h : ¬ (if n ≤ H then d else 41) = 41) : n ≤ H := by
  by_cases q : n ≤ H
  · exact q
  · rw [if_neg q] at h; exact absurd rfl h
theorem dip_no {K : KT} {c n : Nat} {f : Nat → Nat} (h : (if n ≤ f (cT K c) then cg_dip f (cT K c) n else 41) = 41) (hn : n ≤ 2147483647) (hT : cT K c ≤ 40) {H : Nat} : f (cT K c) = H → H < 2 ^ 31 → ¬ (nI 0 ≤ nI n ∧ nI n ≤ nI H) := by
  intro e hH q
  have h2 : n ≤ H := (nI_leI (by omega) hH).mp q.2
  rw [e, if_pos h2] at h
  have := cg_dip_le f (cT K c) n
  omega

set_option maxHeartbeats 4000000 in
set_option maxRecDepth 100000 in
theorem n_dip {I : sm_I} {K : KT} (hK : CK I 13 K) (hok : okK K) (hV : LV I) (c y : Int32) : E0 6 mX8_dip [.ref 0, .int c, .int y] I (fun r I' => r = some (.int (sp_dip K c y)) ∧ frC I I' ∧ LV I') := by
  have hn := hok.1
  refine E0.of (by decide) (by simp [Value.category]) (Nat.le_of_ble_eq_true rfl) (fun ζ => ?_)
  refine o_aload_n dX8_dip_0 rfl rfl ?_
  refine o_getR (b := 13) dX8_dip_1 fgX8_28 sh_0 rfl rfl ?_
  refine o_iload_n dX8_dip_4 rfl rfl ?_
  refine o_callV (as := [.int c]) (st := []) dX8_dip_5 (k_has isCl_13 hK hn c) rfl meX1_has imX1_has seX1_has mlX8_106 sh_13 rfl rfl (by omega) (by decide) (Nat.le_of_ble_eq_true rfl) ?_
  rintro _ _ ⟨rfl, ⟨c, hc, rfl, rfl⟩ | ⟨hno, rfl⟩⟩
  · have hc4 : c < 4 := by omega
    obtain ⟨q0, q1, q2, q3, q4, q5, q6, q7⟩ := id (hok.2 c hc)
    have hHc := (hok.2 c hc).lH
    have hTc := (hok.2 c hc).lT
    have hwc := (hok.2 c hc).w
    refine o_ifN_eq (tgt := 15) dX8_dip_8 (by decide) (by omega) (fun b_50 => absurd b_50 (by omega)) (fun b_50 => ?_)
    refine o_iload_n dX8_dip_11 rfl rfl ?_
    refine o_if_ge (tgt := 17) dX8_dip_12 (by decide) (fun b_51 => ?_) (fun b_51 => ?_)
    · obtain ⟨y, hy2, rfl⟩ := ge0_nat b_51
      refine o_aload_n dX8_dip_17 rfl rfl ?_
      refine o_iload_n dX8_dip_18 rfl rfl ?_
      refine o_callV (as := [.int (nI c)]) (st := []) dX8_dip_19 (k_lev hK hok hV hc) rfl meX8_levelsOf imX8_levelsOf seX8_levelsOf mlX8_149 sh_0 rfl rfl (by omega) (by decide) (Nat.le_of_ble_eq_true rfl) ?_
      rintro _ I1 ⟨la1, rfl, hL1, hM1, hf1, hV1⟩
      have hK1 : CK I1 13 K := hK.frC hn hf1
      have hT1 := (hok.2 c hc).lT
      have hU1 : ∀ y, y ≤ 40 → cU K c y ≤ 67200 := fun y hy => (hok.2 c hc).lU hy
      have hH1 := (hok.2 c hc).lH
      refine o_iload_n dX8_dip_22 rfl rfl ?_
      have hlr := ld_le (cU K c) y (cT K c + 1) 0 (by omega)
      refine o_callVp (v := .int (nI (ld (cU K c) y (cT K c + 1) 0))) (as := [.int (nI y)]) (st := []) dX8_dip_23 (k_ld hL1 q1 q4 hM1 (by omega)) rfl meX2_leastDip imX2_leastDip seX2_leastDip mlX8_159 hL1.1 rfl rfl (by omega) (by decide) (Nat.le_of_ble_eq_true rfl) ?_
      refine o_istore_n dX8_dip_26 rfl (by decide) ?_
      refine o_iload_n dX8_dip_27 rfl rfl ?_
      refine o_bipush (v := nI 41) dX8_dip_28 (by decide) ?_
      refine o_icmpN_ne (tgt := 37) dX8_dip_30 (by decide) (by omega) (by omega) (fun b_52 => ?_) (fun b_52 => ?_)
      · refine o_iload_n dX8_dip_37 rfl rfl ?_
        exact o_iret dX8_dip_38 rfl ⟨congrArg (fun z => some (Value.int z)) (by rw [ld_eq (fun a b h => cg_U_mono h)] at b_52 ⊢; rw [if_pos (dip_yes b_52)]; simp only [sp_dip, cg_ix_some hc (by omega : K.1 ≤ 2 ^ 31), cg_in_some (Nat.zero_le y) (show y ≤ cH K c from dip_yes b_52) (by omega : cH K c < 2 ^ 31)]), ((frC.refl _).trans hf1), hV1⟩
      · refine o_iconst (v := (-1)) dX8_dip_33 (by decide) ?_
        refine o_goto (tgt := 38) dX8_dip_34 (by decide) ?_
        exact o_iret dX8_dip_38 rfl ⟨congrArg (fun z => some (Value.int z)) (by rw [ld_eq (fun a b h => cg_U_mono h)] at b_52; simp only [sp_dip, cg_ix_some hc (by omega : K.1 ≤ 2 ^ 31), cg_in_none (by decide : 0 < 2 ^ 31) (by omega : cH K c < 2 ^ 31) (dip_no b_52 hy2 hT1 rfl (by omega))]), ((frC.refl _).trans hf1), hV1⟩
    · refine o_iconst (v := (-1)) dX8_dip_15 (by decide) ?_
      exact o_iret dX8_dip_16 rfl ⟨congrArg (fun z => some (Value.int z)) (by simp only [sp_dip, cg_ix_some hc (by omega : K.1 ≤ 2 ^ 31), cg_in_none (by decide : 0 < 2 ^ 31) (by omega : cH K c < 2 ^ 31) (fun q => absurd q.1 b_51)]), (frC.refl _), hV⟩
  · refine o_ifN_eq (tgt := 15) dX8_dip_8 (by decide) (by omega) (fun b_53 => ?_) (fun b_53 => absurd b_53 (by omega))
    refine o_iconst (v := (-1)) dX8_dip_15 (by decide) ?_
    exact o_iret dX8_dip_16 rfl ⟨congrArg (fun z => some (Value.int z)) (by simp only [sp_dip, hno]), (frC.refl _), hV⟩

set_option maxHeartbeats 4000000 in
set_option maxRecDepth 100000 in
theorem n_stick {I : sm_I} {K : KT} (hK : CK I 13 K) (hok : okK K) (hV : LV I) (c n m : Int32) : E0 6 mX8_stick [.ref 0, .int c, .int n, .int m] I (fun r I' => r = some (.int (sp_stick K c n m)) ∧ frC I I' ∧ LV I') := by
  have hn := hok.1
  refine E0.of (by decide) (by simp [Value.category]) (Nat.le_of_ble_eq_true rfl) (fun ζ => ?_)
  refine o_aload_n dX8_stick_0 rfl rfl ?_
  refine o_getR (b := 13) dX8_stick_1 fgX8_28 sh_0 rfl rfl ?_
  refine o_iload_n dX8_stick_4 rfl rfl ?_
  refine o_callV (as := [.int c]) (st := []) dX8_stick_5 (k_has isCl_13 hK hn c) rfl meX1_has imX1_has seX1_has mlX8_106 sh_13 rfl rfl (by omega) (by decide) (Nat.le_of_ble_eq_true rfl) ?_
  rintro _ _ ⟨rfl, ⟨c, hc, rfl, rfl⟩ | ⟨hno, rfl⟩⟩
  · have hc4 : c < 4 := by omega
    obtain ⟨q0, q1, q2, q3, q4, q5, q6, q7⟩ := id (hok.2 c hc)
    have hHc := (hok.2 c hc).lH
    have hTc := (hok.2 c hc).lT
    have hwc := (hok.2 c hc).w
    refine o_ifN_eq (tgt := 32) dX8_stick_8 (by decide) (by omega) (fun b_54 => absurd b_54 (by omega)) (fun b_54 => ?_)
    refine o_iload_n dX8_stick_11 rfl rfl ?_
    refine o_iconst (v := nI 2) dX8_stick_12 (by decide) ?_
    refine o_icmp_lt (tgt := 32) dX8_stick_13 (by decide) (fun b_55 => ?_) (fun b_55 => ?_)
    · refine o_iconst (v := (-1)) dX8_stick_32 (by decide) ?_
      exact o_iret dX8_stick_33 rfl ⟨congrArg (fun z => some (Value.int z)) (by simp only [sp_stick, cg_ix_some hc (by omega : K.1 ≤ 2 ^ 31), cg_in_none (by decide : 2 < 2 ^ 31) (by decide : 9 < 2 ^ 31) (fun q => absurd q.1 (Int32.not_le.mpr b_55))]), (frC.refl _), hV⟩
    · refine o_iload_n dX8_stick_16 rfl rfl ?_
      refine o_bipush (v := nI 9) dX8_stick_17 (by decide) ?_
      refine o_icmp_gt (tgt := 32) dX8_stick_19 (by decide) (fun b_56 => ?_) (fun b_56 => ?_)
      · refine o_iconst (v := (-1)) dX8_stick_32 (by decide) ?_
        exact o_iret dX8_stick_33 rfl ⟨congrArg (fun z => some (Value.int z)) (by simp only [sp_stick, cg_ix_some hc (by omega : K.1 ≤ 2 ^ 31), cg_in_none (by decide : 2 < 2 ^ 31) (by decide : 9 < 2 ^ 31) (fun q => absurd q.2 (Int32.not_le.mpr b_56))]), (frC.refl _), hV⟩
      · obtain ⟨p, hp1, hp2, rfl⟩ := in_nat (a := 2) (b := 9) (by omega) (by omega) (Int32.not_lt.mp b_55) (Int32.not_lt.mp b_56)
        refine o_iload_n dX8_stick_22 rfl rfl ?_
        refine o_iconst (v := nI 1) dX8_stick_23 (by decide) ?_
        refine o_icmp_lt (tgt := 32) dX8_stick_24 (by decide) (fun b_57 => ?_) (fun b_57 => ?_)
        · refine o_iconst (v := (-1)) dX8_stick_32 (by decide) ?_
          exact o_iret dX8_stick_33 rfl ⟨congrArg (fun z => some (Value.int z)) (by simp only [sp_stick, cg_ix_some hc (by omega : K.1 ≤ 2 ^ 31), cg_in_some hp1 hp2 (by decide : 9 < 2 ^ 31), cg_in_none (by decide : 1 < 2 ^ 31) (by omega : p < 2 ^ 31) (fun q => absurd q.1 (Int32.not_le.mpr b_57))]), (frC.refl _), hV⟩
        · refine o_iload_n dX8_stick_27 rfl rfl ?_
          refine o_iload_n dX8_stick_28 rfl rfl ?_
          refine o_icmp_le (tgt := 34) dX8_stick_29 (by decide) (fun b_58 => ?_) (fun b_58 => ?_)
          · obtain ⟨k, hk1, hk2, rfl⟩ := in_nat (a := 1) (b := p) (by omega) (by omega) (Int32.not_lt.mp b_57) b_58
            refine o_aload_n dX8_stick_34 rfl rfl ?_
            refine o_iload_n dX8_stick_35 rfl rfl ?_
            refine o_callV (as := [.int (nI c)]) (st := []) dX8_stick_36 (k_lev hK hok hV hc) rfl meX8_levelsOf imX8_levelsOf seX8_levelsOf mlX8_149 sh_0 rfl rfl (by omega) (by decide) (Nat.le_of_ble_eq_true rfl) ?_
            rintro _ I1 ⟨la1, rfl, hL1, hM1, hf1, hV1⟩
            have hK1 : CK I1 13 K := hK.frC hn hf1
            have hT1 := (hok.2 c hc).lT
            have hU1 : ∀ y, y ≤ 40 → cU K c y ≤ 67200 := fun y hy => (hok.2 c hc).lU hy
            have hH1 := (hok.2 c hc).lH
            refine o_iload_n dX8_stick_39 rfl rfl ?_
            refine o_iload_n dX8_stick_40 rfl rfl ?_
            refine o_callVp (v := .int (nI (cg_dip (fun y => cU K c y * p) (cT K c) (cH K c * k)))) (as := [.int (nI p), .int (nI k)]) (st := []) dX8_stick_41 (k_mark hL1 q1 q4 hM1 hp2 (by omega)) rfl meX2_markAt imX2_markAt seX2_markAt mlX8_183 hL1.1 rfl rfl (by omega) (by decide) (Nat.le_of_ble_eq_true rfl) ?_
            exact o_iret dX8_stick_44 rfl ⟨congrArg (fun z => some (Value.int z)) (by simp only [sp_stick, cg_ix_some hc (by omega : K.1 ≤ 2 ^ 31), cg_in_some hp1 hp2 (by decide : 9 < 2 ^ 31), cg_in_some hk1 hk2 (by omega : p < 2 ^ 31)]), ((frC.refl _).trans hf1), hV1⟩
          · refine o_iconst (v := (-1)) dX8_stick_32 (by decide) ?_
            exact o_iret dX8_stick_33 rfl ⟨congrArg (fun z => some (Value.int z)) (by simp only [sp_stick, cg_ix_some hc (by omega : K.1 ≤ 2 ^ 31), cg_in_some hp1 hp2 (by decide : 9 < 2 ^ 31), cg_in_none (by decide : 1 < 2 ^ 31) (by omega : p < 2 ^ 31) (fun q => absurd q.2 b_58)]), (frC.refl _), hV⟩
  · refine o_ifN_eq (tgt := 32) dX8_stick_8 (by decide) (by omega) (fun b_59 => ?_) (fun b_59 => absurd b_59 (by omega))
    refine o_iconst (v := (-1)) dX8_stick_32 (by decide) ?_
    exact o_iret dX8_stick_33 rfl ⟨congrArg (fun z => some (Value.int z)) (by simp only [sp_stick, hno]), (frC.refl _), hV⟩

set_option maxHeartbeats 4000000 in
set_option maxRecDepth 100000 in
theorem n_known {I : sm_I} {K : KT} (hK : CK I 13 K) (hok : okK K) (hV : LV I) (c y w : Int32) : E0 6 mX8_known [.ref 0, .int c, .int y, .int w] I (fun r I' => r = some (.int (sp_known K c y w)) ∧ frC I I' ∧ LV I') := by
  have hn := hok.1
  refine E0.of (by decide) (by simp [Value.category]) (Nat.le_of_ble_eq_true rfl) (fun ζ => ?_)
  refine o_aload_n dX8_known_0 rfl rfl ?_
  refine o_getR (b := 13) dX8_known_1 fgX8_28 sh_0 rfl rfl ?_
  refine o_iload_n dX8_known_4 rfl rfl ?_
  refine o_callV (as := [.int c]) (st := []) dX8_known_5 (k_has isCl_13 hK hn c) rfl meX1_has imX1_has seX1_has mlX8_106 sh_13 rfl rfl (by omega) (by decide) (Nat.le_of_ble_eq_true rfl) ?_
  rintro _ _ ⟨rfl, ⟨c, hc, rfl, rfl⟩ | ⟨hno, rfl⟩⟩
  · have hc4 : c < 4 := by omega
    obtain ⟨q0, q1, q2, q3, q4, q5, q6, q7⟩ := id (hok.2 c hc)
    have hHc := (hok.2 c hc).lH
    have hTc := (hok.2 c hc).lT
    have hwc := (hok.2 c hc).w
    refine o_ifN_eq (tgt := 20) dX8_known_8 (by decide) (by omega) (fun b_60 => absurd b_60 (by omega)) (fun b_60 => ?_)
    refine o_iload_n dX8_known_11 rfl rfl ?_
    refine o_if_lt (tgt := 20) dX8_known_12 (by decide) (fun b_61 => ?_) (fun b_61 => ?_)
    · refine o_iconst (v := (-1)) dX8_known_20 (by decide) ?_
      exact o_iret dX8_known_21 rfl ⟨congrArg (fun z => some (Value.int z)) (by unfold sp_known; rw [cg_in_none (by decide : 0 < 2 ^ 31) (by decide : 1 < 2 ^ 31) (fun q => absurd q.1 (Int32.not_le.mpr b_61))]; split <;> rfl), (frC.refl _), hV⟩
    · refine o_iload_n dX8_known_15 rfl rfl ?_
      refine o_iconst (v := nI 1) dX8_known_16 (by decide) ?_
      refine o_icmp_le (tgt := 22) dX8_known_17 (by decide) (fun b_62 => ?_) (fun b_62 => ?_)
      · obtain ⟨w, -, hw2, rfl⟩ := in_nat (a := 0) (b := 1) (by omega) (by omega) (Int32.not_lt.mp b_61) b_62
        refine o_aload_n dX8_known_22 rfl rfl ?_
        refine o_iload_n dX8_known_23 rfl rfl ?_
        refine o_callV (as := [.int (nI c)]) (st := []) dX8_known_24 (k_lev hK hok hV hc) rfl meX8_levelsOf imX8_levelsOf seX8_levelsOf mlX8_149 sh_0 rfl rfl (by omega) (by decide) (Nat.le_of_ble_eq_true rfl) ?_
        rintro _ I1 ⟨la1, rfl, hL1, hM1, hf1, hV1⟩
        have hK1 : CK I1 13 K := hK.frC hn hf1
        have hT1 := (hok.2 c hc).lT
        have hU1 : ∀ y, y ≤ 40 → cU K c y ≤ 67200 := fun y hy => (hok.2 c hc).lU hy
        have hH1 := (hok.2 c hc).lH
        refine o_astore dX8_known_27 (by decide) ?_
        refine o_aload dX8_known_29 rfl ?_
        refine o_iload_n dX8_known_31 rfl rfl ?_
        refine o_callV (as := [.int y]) (st := []) dX8_known_32 (k_reach hL1.1 hL1.2 hT1 hM1.2.2.2.2.1 _) rfl meX2_reach imX2_reach seX2_reach mlX8_177 hL1.1 rfl rfl (by omega) (by decide) (Nat.le_of_ble_eq_true rfl) ?_
        rintro _ _ ⟨rfl, ⟨y, hy, rfl, rfl⟩ | ⟨hy, rfl⟩⟩
        · refine o_ifN_ne (tgt := 40) dX8_known_35 (by decide) (by omega) (fun b_63 => ?_) (fun b_63 => absurd b_63 (by omega))
          refine o_aload dX8_known_40 rfl ?_
          refine o_iload_n dX8_known_42 rfl rfl ?_
          refine o_callVp (v := .int (nI (cU K c y))) (as := [.int (nI y)]) (st := []) dX8_known_43 (k_amountAt hL1.1 hL1.2 hT1 hM1.2.2.2.2.1 (show _ ≤ cT K c by omega) (hM1.2.2.2.2.2 _ (show _ ≤ cT K c by omega))) rfl meX2_amountAt imX2_amountAt seX2_amountAt mlX8_180 hL1.1 rfl rfl (by omega) (by decide) (Nat.le_of_ble_eq_true rfl) ?_
          refine o_istore dX8_known_46 (by decide) ?_
          refine o_iload_n dX8_known_48 rfl rfl ?_
          refine o_ifN_ne (tgt := 56) dX8_known_49 (by decide) (by omega) (fun b_64 => ?_) (fun b_64 => ?_)
          · refine o_aload dX8_known_56 rfl ?_
            refine o_iload_n dX8_known_58 rfl rfl ?_
            refine o_iconst (v := nI 1) dX8_known_59 (by decide) ?_
            refine o_isubN dX8_known_60 (by omega) ?_
            refine o_callVp (v := .int (nI (cU K c (y - 1)))) (as := [.int (nI (y - 1))]) (st := []) dX8_known_61 (k_amountAt hL1.1 hL1.2 hT1 hM1.2.2.2.2.1 (show _ ≤ cT K c by omega) (hM1.2.2.2.2.2 _ (show _ ≤ cT K c by omega))) rfl meX2_amountAt imX2_amountAt seX2_amountAt mlX8_180 hL1.1 rfl rfl (by omega) (by decide) (Nat.le_of_ble_eq_true rfl) ?_
            refine o_iconst (v := nI 1) dX8_known_64 (by decide) ?_
            refine o_iaddN dX8_known_65 ?_
            have hUa := hU1 y (by omega)
            have hUb := hU1 (y - 1) (by omega)
            refine o_istore dX8_known_66 (by decide) ?_
            refine o_iload dX8_known_68 rfl ?_
            refine o_iload dX8_known_70 rfl ?_
            refine o_icmpN_le (tgt := 78) dX8_known_72 (by decide) (by omega) (by omega) (fun b_65 => ?_) (fun b_65 => ?_)
            · refine o_iload_n dX8_known_78 rfl rfl ?_
              refine o_ifN_ne (tgt := 87) dX8_known_79 (by decide) (by omega) (fun b_66 => ?_) (fun b_66 => ?_)
              · refine o_iload dX8_known_87 rfl ?_
                exact o_iret dX8_known_89 rfl ⟨congrArg (fun z => some (Value.int z)) (by simp only [sp_known, sp_h, cg_ix_some hc (by omega : K.1 ≤ 2 ^ 31), cg_in_some (Nat.zero_le y) hy (by omega : cT K c < 2 ^ 31), cg_in_some (Nat.zero_le w) hw2 (by decide : 1 < 2 ^ 31), if_neg (by omega : ¬ y = 0)]; rw [if_neg (by omega), if_neg (by omega)]), ((frC.refl _).trans hf1), hV1⟩
              · refine o_iload dX8_known_82 rfl ?_
                refine o_goto (tgt := 89) dX8_known_84 (by decide) ?_
                exact o_iret dX8_known_89 rfl ⟨congrArg (fun z => some (Value.int z)) (by simp only [sp_known, sp_h, cg_ix_some hc (by omega : K.1 ≤ 2 ^ 31), cg_in_some (Nat.zero_le y) hy (by omega : cT K c < 2 ^ 31), cg_in_some (Nat.zero_le w) hw2 (by decide : 1 < 2 ^ 31), if_neg (by omega : ¬ y = 0)]; rw [if_neg (by omega), if_pos (by omega)]), ((frC.refl _).trans hf1), hV1⟩
            · refine o_bipush (v := (-9)) dX8_known_75 (by decide) ?_
              exact o_iret dX8_known_77 rfl ⟨congrArg (fun z => some (Value.int z)) (by simp only [sp_known, sp_h, cg_ix_some hc (by omega : K.1 ≤ 2 ^ 31), cg_in_some (Nat.zero_le y) hy (by omega : cT K c < 2 ^ 31), cg_in_some (Nat.zero_le w) hw2 (by decide : 1 < 2 ^ 31), if_neg (by omega : ¬ y = 0)]; rw [if_pos (by omega)]), ((frC.refl _).trans hf1), hV1⟩
          · refine o_iconst (v := nI 0) dX8_known_52 (by decide) ?_
            refine o_goto (tgt := 66) dX8_known_53 (by decide) ?_
            have hUa := hU1 y (by omega)
            have hUb := hU1 (y - 1) (by omega)
            refine o_istore dX8_known_66 (by decide) ?_
            refine o_iload dX8_known_68 rfl ?_
            refine o_iload dX8_known_70 rfl ?_
            refine o_icmpN_le (tgt := 78) dX8_known_72 (by decide) (by omega) (by omega) (fun b_67 => ?_) (fun b_67 => ?_)
            · refine o_iload_n dX8_known_78 rfl rfl ?_
              refine o_ifN_ne (tgt := 87) dX8_known_79 (by decide) (by omega) (fun b_68 => ?_) (fun b_68 => ?_)
              · refine o_iload dX8_known_87 rfl ?_
                exact o_iret dX8_known_89 rfl ⟨congrArg (fun z => some (Value.int z)) (by simp only [sp_known, sp_h, cg_ix_some hc (by omega : K.1 ≤ 2 ^ 31), cg_in_some (Nat.zero_le y) hy (by omega : cT K c < 2 ^ 31), cg_in_some (Nat.zero_le w) hw2 (by decide : 1 < 2 ^ 31), if_pos (by omega : y = 0)]; rw [if_neg (by omega), if_neg (by omega)]), ((frC.refl _).trans hf1), hV1⟩
              · refine o_iload dX8_known_82 rfl ?_
                refine o_goto (tgt := 89) dX8_known_84 (by decide) ?_
                exact o_iret dX8_known_89 rfl ⟨congrArg (fun z => some (Value.int z)) (by simp only [sp_known, sp_h, cg_ix_some hc (by omega : K.1 ≤ 2 ^ 31), cg_in_some (Nat.zero_le y) hy (by omega : cT K c < 2 ^ 31), cg_in_some (Nat.zero_le w) hw2 (by decide : 1 < 2 ^ 31), if_pos (by omega : y = 0)]; rw [if_neg (by omega), if_pos (by omega)]), ((frC.refl _).trans hf1), hV1⟩
            · refine o_bipush (v := (-9)) dX8_known_75 (by decide) ?_
              exact o_iret dX8_known_77 rfl ⟨congrArg (fun z => some (Value.int z)) (by simp only [sp_known, sp_h, cg_ix_some hc (by omega : K.1 ≤ 2 ^ 31), cg_in_some (Nat.zero_le y) hy (by omega : cT K c < 2 ^ 31), cg_in_some (Nat.zero_le w) hw2 (by decide : 1 < 2 ^ 31), if_pos (by omega : y = 0)]; rw [if_pos (by omega)]), ((frC.refl _).trans hf1), hV1⟩
        · refine o_ifN_ne (tgt := 40) dX8_known_35 (by decide) (by omega) (fun b_69 => absurd b_69 (by omega)) (fun b_69 => ?_)
          refine o_iconst (v := (-1)) dX8_known_38 (by decide) ?_
          exact o_iret dX8_known_39 rfl ⟨congrArg (fun z => some (Value.int z)) (by simp only [sp_known, sp_h, cg_ix_some hc (by omega : K.1 ≤ 2 ^ 31), hy]), ((frC.refl _).trans hf1), hV1⟩
      · refine o_iconst (v := (-1)) dX8_known_20 (by decide) ?_
        exact o_iret dX8_known_21 rfl ⟨congrArg (fun z => some (Value.int z)) (by unfold sp_known; rw [cg_in_none (by decide : 0 < 2 ^ 31) (by decide : 1 < 2 ^ 31) (fun q => absurd q.2 b_62)]; split <;> rfl), (frC.refl _), hV⟩
  · refine o_ifN_eq (tgt := 20) dX8_known_8 (by decide) (by omega) (fun b_70 => ?_) (fun b_70 => absurd b_70 (by omega))
    refine o_iconst (v := (-1)) dX8_known_20 (by decide) ?_
    exact o_iret dX8_known_21 rfl ⟨congrArg (fun z => some (Value.int z)) (by simp only [sp_known, sp_h, hno]), (frC.refl _), hV⟩

theorem nI_nm1 {b : Nat} (h : b < 2 ^ 31) : ¬ nI b = -1 := by
  intro e
  have h2 : ¬ nI b < 0 := by rw [show (0 : Int32) = nI 0 from rfl, nI_ltI h (by omega)]; omega
  rw [e] at h2
  exact h2 (by decide)
theorem ltm1 {j : Int32} (h : j < -1) : ¬ j = -1 ∧ j < 0 := ⟨fun e => by subst e; exact absurd h (by decide), Int32.lt_trans h (by decide)⟩
theorem bigm1 {j : Int32} {n : Nat} (hn : n < 2 ^ 31) (h : ¬ j < nI n) : ¬ j = -1 := by
  intro e
  subst e
  refine h (Int32.lt_of_lt_of_le (by decide : (-1 : Int32) < 0) ?_)
  rw [show (0 : Int32) = nI 0 from rfl, nI_leI (by omega) hn]
  omega
theorem sl_j {j : Int32} {n : Nat} (hn : n < 2 ^ 31) (h1 : ¬ j < -1) (h2 : j < nI n) (h3 : ¬ j = -1) : ∃ e, e < n ∧ j = nI e := by
  rcases cg_ix_cases n hn j with ⟨e, he, rfl, -⟩ | ⟨-, h | h⟩
  · exact ⟨e, he, rfl⟩
  · exfalso
    have a1 := Int32.lt_iff_toInt_lt.mp h
    have a2 : ¬ j.toInt < (-1 : Int32).toInt := fun q => h1 (Int32.lt_iff_toInt_lt.mpr q)
    have a3 : (-1 : Int32).toInt = -1 := by decide
    have a4 : (0 : Int32).toInt = 0 := by decide
    refine h3 (Int32.toInt_inj.mp ?_)
    omega
  · exact absurd h2 (Int32.not_lt.mpr h)

theorem has_inS {n : Nat} {c : Int32} (hn : n < 2 ^ 31) (h1 : ¬ c < 0) (h2 : ¬ nI n ≤ c) : ∃ j, j < n ∧ c = nI j ∧ True := by
  rcases cg_ix_cases n hn c with ⟨j, hj, rfl, -⟩ | ⟨-, h | h⟩
  · exact ⟨j, hj, rfl, trivial⟩
  · exact absurd h h1
  · exact absurd h h2

set_option maxHeartbeats 4000000 in
set_option maxRecDepth 100000 in
theorem n_slice {I : sm_I} {K : KT} (hK : CK I 13 K) (hok : okK K) (hV : LV I) (c i j : Int32) : E0 6 mX8_slice [.ref 0, .int c, .int i, .int j] I (fun r I' => r = some (.int (sp_slice K c i j)) ∧ frC I I' ∧ LV I') := by
  have hn := hok.1
  refine E0.of (by decide) (by simp [Value.category]) (Nat.le_of_ble_eq_true rfl) (fun ζ => ?_)
  refine o_aload_n dX8_slice_0 rfl rfl ?_
  refine o_getR (b := 13) dX8_slice_1 fgX8_28 sh_0 rfl rfl ?_
  refine o_iload_n dX8_slice_4 rfl rfl ?_
  refine o_callV (as := [.int c]) (st := []) dX8_slice_5 (k_has isCl_13 hK hn c) rfl meX1_has imX1_has seX1_has mlX8_106 sh_13 rfl rfl (by omega) (by decide) (Nat.le_of_ble_eq_true rfl) ?_
  rintro _ _ ⟨rfl, ⟨c, hc, rfl, rfl⟩ | ⟨hno, rfl⟩⟩
  · have hc4 : c < 4 := by omega
    obtain ⟨q0, q1, q2, q3, q4, q5, q6, q7⟩ := id (hok.2 c hc)
    have hHc := (hok.2 c hc).lH
    have hTc := (hok.2 c hc).lT
    have hwc := (hok.2 c hc).w
    refine o_ifN_ne (tgt := 13) dX8_slice_8 (by decide) (by omega) (fun b_71 => ?_) (fun b_71 => absurd b_71 (by omega))
    refine o_aload_n dX8_slice_13 rfl rfl ?_
    refine o_getR (b := 13) dX8_slice_14 fgX8_28 sh_0 rfl rfl ?_
    refine o_getR (b := 14) dX8_slice_17 fgX8_113 sh_13 rfl rfl ?_
    refine o_iload_n dX8_slice_20 rfl rfl ?_
    refine o_aaldN (t := 3) (b := 15 + c) dX8_slice_21 sh_14 (by decide) (by decide) hc4 (g4 15 hc4) ?_
    refine o_astore dX8_slice_22 (by decide) ?_
    refine o_iload_n dX8_slice_24 rfl rfl ?_
    refine o_if_lt (tgt := 53) dX8_slice_25 (by decide) (fun b_72 => ?_) (fun b_72 => ?_)
    · refine o_iconst (v := (-1)) dX8_slice_53 (by decide) ?_
      exact o_iret dX8_slice_54 rfl ⟨congrArg (fun z => some (Value.int z)) (by simp only [sp_slice, cg_ix_some hc (by omega : K.1 ≤ 2 ^ 31), cg_ix_neg (n := K.2 c 0) b_72]), (frC.refl _), hV⟩
    · refine o_iload_n dX8_slice_28 rfl rfl ?_
      refine o_aload dX8_slice_29 rfl ?_
      refine o_getI (v := nI (K.2 c 0)) dX8_slice_31 fgX8_140 (sk_13 c hc4) rfl (hK.cell hc (by decide)) ?_
      refine o_icmp_ge (tgt := 53) dX8_slice_34 (by decide) (fun b_73 => ?_) (fun b_73 => ?_)
      · refine o_iconst (v := (-1)) dX8_slice_53 (by decide) ?_
        exact o_iret dX8_slice_54 rfl ⟨congrArg (fun z => some (Value.int z)) (by simp only [sp_slice, cg_ix_some hc (by omega : K.1 ≤ 2 ^ 31), cg_ix_big (by omega : K.2 c 0 < 2 ^ 31) b_73]), (frC.refl _), hV⟩
      · obtain ⟨p, hp, rfl, -⟩ := has_inS (by omega : K.2 c 0 < 2 ^ 31) b_72 b_73
        refine o_iload_n dX8_slice_37 rfl rfl ?_
        refine o_iconst (v := (-1)) dX8_slice_38 (by decide) ?_
        refine o_icmp_lt (tgt := 53) dX8_slice_39 (by decide) (fun b_74 => ?_) (fun b_74 => ?_)
        · refine o_iconst (v := (-1)) dX8_slice_53 (by decide) ?_
          exact o_iret dX8_slice_54 rfl ⟨congrArg (fun z => some (Value.int z)) (by simp only [sp_slice, cg_ix_some hc (by omega : K.1 ≤ 2 ^ 31), cg_ix_some hp (by omega : K.2 c 0 ≤ 2 ^ 31)]; rw [if_neg (ltm1 b_74).1, cg_ix_neg (ltm1 b_74).2]), (frC.refl _), hV⟩
        · refine o_iload_n dX8_slice_42 rfl rfl ?_
          refine o_iconst (v := nI 2) dX8_slice_43 (by decide) ?_
          refine o_aload dX8_slice_44 rfl ?_
          refine o_getI (v := nI (K.2 c 2)) dX8_slice_46 fgX8_146 (sk_13 c hc4) rfl (hK.cell hc (by decide)) ?_
          refine o_imulN dX8_slice_49 ?_
          refine o_icmp_lt (tgt := 55) dX8_slice_50 (by decide) (fun b_75 => ?_) (fun b_75 => ?_)
          · refine o_iload_n dX8_slice_55 rfl rfl ?_
            refine o_iconst (v := (-1)) dX8_slice_56 (by decide) ?_
            refine o_icmp_ne (tgt := 69) dX8_slice_57 (by decide) (fun b_76 => ?_) (fun b_76 => ?_)
            · obtain ⟨e, he, rfl⟩ := sl_j (by omega) b_74 b_75 b_76
              refine o_aload dX8_slice_69 rfl ?_
              refine o_aload dX8_slice_71 rfl ?_
              refine o_iload_n dX8_slice_73 rfl rfl ?_
              refine o_callVp (v := .int (nI (cg_rad (K.2 c 0) (K.2 c 1) (K.2 c 2) p))) (as := [.int (nI p)]) (st := [.ref (15 + c)]) dX8_slice_74 (k_radius (sk_13 c hc4) q0 q1 q2 q3 q4 (hK.cell hc (by decide)) (hK.cell hc (by decide)) (hK.cell hc (by decide)) hp) rfl meX0_radiusOf imX0_radiusOf seX0_radiusOf mlX8_170 (sk_13 c hc4) rfl rfl (by omega) (by decide) (Nat.le_of_ble_eq_true rfl) ?_
              refine o_iload_n dX8_slice_77 rfl rfl ?_
              refine o_callVp (v := .int (nI (cg_cell (K.2 c 0) (K.2 c 1) (K.2 c 2) p e))) (as := [.int (nI (cg_rad (K.2 c 0) (K.2 c 1) (K.2 c 2) p)), .int (nI e)]) (st := []) dX8_slice_78 (k_cells (sk_13 c hc4) q0 q1 q2 q3 q4 (hK.cell hc (by decide)) (hK.cell hc (by decide)) (hK.cell hc (by decide)) (Nat.le_trans cg_rad_le q4) he) rfl meX0_cellsOf imX0_cellsOf seX0_cellsOf mlX8_173 (sk_13 c hc4) rfl rfl (by omega) (by decide) (Nat.le_of_ble_eq_true rfl) ?_
              exact o_iret dX8_slice_81 rfl ⟨congrArg (fun z => some (Value.int z)) (by simp only [sp_slice, cg_ix_some hc (by omega : K.1 ≤ 2 ^ 31), cg_ix_some hp (by omega : K.2 c 0 ≤ 2 ^ 31)]; rw [if_neg (nI_nm1 (by omega)), cg_ix_some he (by omega : 2 * K.2 c 2 ≤ 2 ^ 31)]), (frC.refl _), hV⟩
            · refine o_aload dX8_slice_60 rfl ?_
              refine o_iload_n dX8_slice_62 rfl rfl ?_
              refine o_callVp (v := .int (nI (cg_rad (K.2 c 0) (K.2 c 1) (K.2 c 2) p))) (as := [.int (nI p)]) (st := []) dX8_slice_63 (k_radius (sk_13 c hc4) q0 q1 q2 q3 q4 (hK.cell hc (by decide)) (hK.cell hc (by decide)) (hK.cell hc (by decide)) hp) rfl meX0_radiusOf imX0_radiusOf seX0_radiusOf mlX8_170 (sk_13 c hc4) rfl rfl (by omega) (by decide) (Nat.le_of_ble_eq_true rfl) ?_
              refine o_goto (tgt := 81) dX8_slice_66 (by decide) ?_
              exact o_iret dX8_slice_81 rfl ⟨congrArg (fun z => some (Value.int z)) (by simp only [sp_slice, cg_ix_some hc (by omega : K.1 ≤ 2 ^ 31), cg_ix_some hp (by omega : K.2 c 0 ≤ 2 ^ 31)]; rw [if_pos b_76]), (frC.refl _), hV⟩
          · refine o_iconst (v := (-1)) dX8_slice_53 (by decide) ?_
            exact o_iret dX8_slice_54 rfl ⟨congrArg (fun z => some (Value.int z)) (by simp only [sp_slice, cg_ix_some hc (by omega : K.1 ≤ 2 ^ 31), cg_ix_some hp (by omega : K.2 c 0 ≤ 2 ^ 31)]; rw [if_neg (bigm1 (by omega) b_75), cg_ix_big (by omega : 2 * K.2 c 2 < 2 ^ 31) (Int32.not_lt.mp b_75)]), (frC.refl _), hV⟩
  · refine o_ifN_ne (tgt := 13) dX8_slice_8 (by decide) (by omega) (fun b_77 => absurd b_77 (by omega)) (fun b_77 => ?_)
    refine o_iconst (v := (-1)) dX8_slice_11 (by decide) ?_
    exact o_iret dX8_slice_12 rfl ⟨congrArg (fun z => some (Value.int z)) (by simp only [sp_slice, hno]), (frC.refl _), hV⟩

set_option maxHeartbeats 4000000 in
set_option maxRecDepth 100000 in
theorem k_room {I : sm_I} {K : KT} (hK : CK I 13 K) (hok : okK K) (hV : LV I) {c : Nat} (hc : c < K.1) : E0 6 mX8_roomIn [.ref 0, .int (nI c)] I (fun r I' => r = some (.int (nI (cH K c - K.2 c 4))) ∧ frC I I' ∧ LV I') := by
  have hn := hok.1
  have hc4 : c < 4 := by omega
  obtain ⟨q0, q1, q2, q3, q4, q5, q6, q7⟩ := id (hok.2 c hc)
  have hw := (hok.2 c hc).w
  refine E0.of (by decide) (by simp [Value.category]) (Nat.le_of_ble_eq_true rfl) (fun ζ => ?_)
  refine o_aload_n dX8_roomIn_0 rfl rfl ?_
  refine o_iload_n dX8_roomIn_1 rfl rfl ?_
  refine o_callV (as := [.int (nI c)]) (st := []) dX8_roomIn_2 (k_lev hK hok hV hc) rfl meX8_levelsOf imX8_levelsOf seX8_levelsOf mlX8_149 sh_0 rfl rfl (by omega) (by decide) (Nat.le_of_ble_eq_true rfl) ?_
  rintro _ I1 ⟨la1, rfl, hL1, hM1, hf1, hV1⟩
  have hK1 : CK I1 13 K := hK.frC hn hf1
  have hT1 := (hok.2 c hc).lT
  have hU1 : ∀ y, y ≤ 40 → cU K c y ≤ 67200 := fun y hy => (hok.2 c hc).lU hy
  have hH1 := (hok.2 c hc).lH
  refine o_callVp (v := .int (nI (cH K c))) (as := []) (st := []) dX8_roomIn_5 (k_hold hL1 q1 q4 hM1) rfl meX2_hold imX2_hold seX2_hold mlX8_153 hL1.1 rfl rfl (by omega) (by decide) (Nat.le_of_ble_eq_true rfl) ?_
  refine o_aload_n dX8_roomIn_8 rfl rfl ?_
  refine o_getR (b := 13) dX8_roomIn_9 fgX8_28 sh_0 rfl rfl ?_
  refine o_getR (b := 14) dX8_roomIn_12 fgX8_113 sh_13 rfl rfl ?_
  refine o_iload_n dX8_roomIn_15 rfl rfl ?_
  refine o_aaldN (t := 3) (b := 15 + c) dX8_roomIn_16 sh_14 (by decide) (by decide) hc4 (g4 15 hc4) ?_
  refine o_getI (v := nI (K.2 c 4)) dX8_roomIn_17 fgX8_123 (sk_13 c hc4) rfl (hK1.cell hc (by decide)) ?_
  refine o_isubN dX8_roomIn_20 (by omega) ?_
  exact o_iret dX8_roomIn_21 rfl ⟨rfl, ((frC.refl _).trans hf1), hV1⟩
