set_option maxHeartbeats 4000000 in
set_option maxRecDepth 100000 in
theorem c_goes {I : sm_I} {K : KT} (hK : MK I 107 0 K) (hok : okK K) {c a : Nat} (hc : c < K.1) (ha1 : 1 ≤ a) (ha2 : a ≤ K.2 c 4) : E0 1 mX9_goes [.ref 106, .int (nI c), .int (nI a)] I (fun r I' => r = some (.int (nI (kgoes K c a))) ∧ I' = up2 (up2 I 107 (6 * c + 4) (nI (K.2 c 4 - a))) 107 (6 * c + 5) (nI (K.2 c 5 - kgoes K c a))) := by
  have hn := hok.1
  have hq := hok.2 c hc
  have hw := hq.w
  have hH := hq.l2
  have q6 := hq.2.2.2.2.2.2.1
  have hmul : K.2 c 5 * a ≤ 20160 * 20160 := Nat.mul_le_mul (by omega) (by omega)
  refine E0.of (by decide) (by simp [Value.category]) (Nat.le_of_ble_eq_true rfl) (fun ζ => ?_)
  refine o_aload_n dX9_goes_0 rfl rfl ?_
  refine o_iload_n dX9_goes_1 rfl rfl ?_
  refine o_iconst (v := nI 5) dX9_goes_2 (by decide) ?_
  refine o_callVp (v := .int (nI (K.2 c 5))) (as := [.int (nI c), .int (nI 5)]) (st := []) dX9_goes_3 (c_ofK (hK.frM (frM.refl _)) hn hc (by decide)) rfl meX9_of imX9_of seX9_of mlX9_103 sh_106 rfl rfl (by omega) (by decide) (Nat.le_of_ble_eq_true rfl) ?_
  refine o_iload_n dX9_goes_6 rfl rfl ?_
  refine o_imulN dX9_goes_7 ?_
  refine o_aload_n dX9_goes_8 rfl rfl ?_
  refine o_iload_n dX9_goes_9 rfl rfl ?_
  refine o_iconst (v := nI 4) dX9_goes_10 (by decide) ?_
  refine o_callVp (v := .int (nI (K.2 c 4))) (as := [.int (nI c), .int (nI 4)]) (st := [.int (nI ((K.2 c 5) * a))]) dX9_goes_11 (c_ofK (hK.frM (frM.refl _)) hn hc (by decide)) rfl meX9_of imX9_of seX9_of mlX9_103 sh_106 rfl rfl (by omega) (by decide) (Nat.le_of_ble_eq_true rfl) ?_
  refine o_idivN dX9_goes_14 (by omega) (by omega) (by omega) ?_
  refine o_istore_n dX9_goes_15 rfl (by decide) ?_
  refine o_aload_n dX9_goes_16 rfl rfl ?_
  refine o_getR (b := 107) dX9_goes_17 fgX9_7 sh_106 rfl rfl ?_
  refine o_bipush (v := nI 6) dX9_goes_20 (by decide) ?_
  refine o_iload_n dX9_goes_22 rfl rfl ?_
  refine o_imulN dX9_goes_23 ?_
  refine o_iconst (v := nI 4) dX9_goes_24 (by decide) ?_
  refine o_iaddN dX9_goes_25 ?_
  refine o_dup2 dX9_goes_26 rfl rfl ?_
  refine o_ialdN (v := nI (K.2 c 4)) dX9_goes_27 sh_107 (by decide) (by omega) (hK.at0 hc (by decide)) ?_
  refine o_iload_n dX9_goes_28 rfl rfl ?_
  refine o_isubN dX9_goes_29 (by omega) ?_
  refine o_iastN dX9_goes_30 sh_107 (by decide) (by omega) ?_
  refine o_aload_n dX9_goes_31 rfl rfl ?_
  refine o_getR (b := 107) dX9_goes_32 fgX9_7 sh_106 rfl rfl ?_
  refine o_bipush (v := nI 6) dX9_goes_35 (by decide) ?_
  refine o_iload_n dX9_goes_37 rfl rfl ?_
  refine o_imulN dX9_goes_38 ?_
  refine o_iconst (v := nI 5) dX9_goes_39 (by decide) ?_
  refine o_iaddN dX9_goes_40 ?_
  refine o_dup2 dX9_goes_41 rfl rfl ?_
  refine o_ialdN (v := nI (K.2 c 5)) dX9_goes_42 sh_107 (by decide) (by omega) ((up2_x (by omega)).trans (hK.at0 hc (by decide))) ?_
  refine o_iload_n dX9_goes_43 rfl rfl ?_
  refine o_isubN dX9_goes_44 (kgoes_le5 ha2) ?_
  refine o_iastN dX9_goes_45 sh_107 (by decide) (by omega) ?_
  refine o_iload_n dX9_goes_46 rfl rfl ?_
  exact o_iret dX9_goes_47 rfl ⟨rfl, rfl⟩

set_option maxHeartbeats 4000000 in
set_option maxRecDepth 100000 in
theorem m_fills {I : sm_I} {S : ST} (hM : MI I S) (hS : okS S) (c n m : Int32) : E0 6 mX9_fills [.ref 106, .int c, .int n, .int m] I (fun r I' => r = some (.int (sp_fills S c n m).1) ∧ MI I' (sp_fills S c n m).2 ∧ loC I I') := by
  have hK := hM.1
  have hok := hS.1
  have hn := hok.1
  refine E0.of (by decide) (by simp [Value.category]) (Nat.le_of_ble_eq_true rfl) (fun ζ => ?_)
  refine o_aload_n dX9_fills_0 rfl rfl ?_
  refine o_iconst (v := nI 0) dX9_fills_1 (by decide) ?_
  refine o_putI dX9_fills_2 flX9_39 sh_106 rfl ?_
  refine o_aload_n dX9_fills_5 rfl rfl ?_
  refine o_iload_n dX9_fills_6 rfl rfl ?_
  refine o_callV (as := [.int c]) (st := []) dX9_fills_7 (c_isCask (hK.frM ((frM.refl _).trans (frM.scr (by unfold mn; omega)))) hok c) rfl meX9_isCask imX9_isCask seX9_isCask mlX9_127 sh_106 rfl rfl (by omega) (by decide) (Nat.le_of_ble_eq_true rfl) ?_
  rintro _ _ ⟨rfl, ⟨j, hj, rfl, rfl⟩ | ⟨hno, rfl⟩⟩
  · refine o_ifN_eq (tgt := 27) dX9_fills_10 (by decide) (by omega) (fun b_1 => absurd b_1 (by omega)) (fun b_1 => ?_)
    refine o_iload_n dX9_fills_13 rfl rfl ?_
    refine o_iconst (v := nI 1) dX9_fills_14 (by decide) ?_
    refine o_icmp_lt (tgt := 27) dX9_fills_15 (by decide) (fun b_2 => ?_) (fun b_2 => ?_)
    · refine o_iconst (v := (-1)) dX9_fills_27 (by decide) ?_
      exact o_iret dX9_fills_28 rfl (by rw [show sp_fills S (nI j) n m = (-1, S) by simp only [sp_fills, cg_ix_some hj (by omega : S.1.1 ≤ 2 ^ 31), lt1_in b_2]]; exact ⟨rfl, hM.fr ((frM.refl _).trans (frM.scr (by unfold mn; omega))), ((frM.refl _).trans (frM.scr (by unfold mn; omega))).lo⟩)
    · obtain ⟨a, ha1, ha2, rfl⟩ := ge1_nat b_2
      refine o_iload_n dX9_fills_18 rfl rfl ?_
      refine o_iconst (v := nI 0) dX9_fills_19 (by decide) ?_
      refine o_iload_n dX9_fills_20 rfl rfl ?_
      refine o_callS (as := [.int m, .int (nI 0), .int (nI a)]) (st := []) dX9_fills_21 (c_in _ _ _ _) rfl meX9_in ssX9_in mlX9_43 (by omega) (by decide) (Nat.le_of_ble_eq_true rfl) ?_
      rintro _ _ ⟨rfl, ⟨hba, hbb, rfl⟩ | ⟨hno2, rfl⟩⟩
      · obtain ⟨b, hb1, hb2, rfl⟩ := in_nat (by omega) (by omega) hba hbb
        refine o_ifN_ne (tgt := 29) dX9_fills_24 (by decide) (by omega) (fun b_3 => ?_) (fun b_3 => absurd b_3 (by omega))
        refine o_iload_n dX9_fills_29 rfl rfl ?_
        refine o_aload_n dX9_fills_30 rfl rfl ?_
        refine o_iload_n dX9_fills_31 rfl rfl ?_
        refine o_callV (as := [.int (nI j)]) (st := [.int (nI a)]) dX9_fills_32 (c_hold (hK.frM ((frM.refl _).trans (frM.scr (by unfold mn; omega)))) hok hj) rfl meX9_hold imX9_hold seX9_hold mlX9_131 sh_106 rfl rfl (by omega) (by decide) (Nat.le_of_ble_eq_true rfl) ?_
        rintro _ I1 ⟨rfl, hUI1, hFI1⟩
        have hq := hok.2 j hj
        have hT := hq.lT
        have hH := hq.l2
        have hw := hq.w
        have hUl : ∀ y, y ≤ 40 → cU S.1 j y ≤ 67200 := fun y hy => hq.lU hy
        have q6 := hq.2.2.2.2.2.2.1
        have q5 := hq.2.2.2.2.2.1
        refine o_aload_n dX9_fills_35 rfl rfl ?_
        refine o_iload_n dX9_fills_36 rfl rfl ?_
        refine o_iconst (v := nI 4) dX9_fills_37 (by decide) ?_
        refine o_callVp (v := .int (nI (S.1.2 j 4))) (as := [.int (nI j), .int (nI 4)]) (st := [.int (nI (cH S.1 j)), .int (nI a)]) dX9_fills_38 (c_ofK (hK.frM (((frM.refl _).trans (frM.scr (by unfold mn; omega))).trans hFI1.M)) hn hj (by decide)) rfl meX9_of imX9_of seX9_of mlX9_103 sh_106 rfl rfl (by omega) (by decide) (Nat.le_of_ble_eq_true rfl) ?_
        refine o_isubN dX9_fills_41 (by omega) ?_
        refine o_icmpN_le (tgt := 48) dX9_fills_42 (by decide) (by omega) (by omega) (fun b_4 => ?_) (fun b_4 => ?_)
        · refine o_aload_n dX9_fills_48 rfl rfl ?_
          refine o_callV (as := []) (st := []) dX9_fills_49 (c_notes (hK.frM (((frM.refl _).trans (frM.scr (by unfold mn; omega))).trans hFI1.M)) hn (hM.fr (((frM.refl _).trans (frM.scr (by unfold mn; omega))).trans hFI1.M)).MP hS.2.2.1.1 (fun k hk => (hS.2.2.1.2 k hk).1)) rfl meX9_notes imX9_notes seX9_notes mlX9_100 sh_106 rfl rfl (by omega) (by decide) (Nat.le_of_ble_eq_true rfl) ?_
          rintro _ I2 ⟨rfl, hPI2, hFI2⟩
          have hI2 := (hM.fr (((frM.refl _).trans (frM.scr (by unfold mn; omega))).trans hFI1.M)).note hPI2 hFI2
          have hKI2 : MK I2 107 0 S.1 := hI2.1
          have loI2 : loC I I2 := ((((frM.refl _).trans (frM.scr (by unfold mn; omega))).trans hFI1.M).lo).trans hFI2.lo
          refine o_aload_n dX9_fills_52 rfl rfl ?_
          refine o_getR (b := 107) dX9_fills_53 fgX9_7 sh_106 rfl rfl ?_
          refine o_bipush (v := nI 6) dX9_fills_56 (by decide) ?_
          refine o_iload_n dX9_fills_58 rfl rfl ?_
          refine o_imulN dX9_fills_59 ?_
          refine o_iconst (v := nI 4) dX9_fills_60 (by decide) ?_
          refine o_iaddN dX9_fills_61 ?_
          refine o_dup2 dX9_fills_62 rfl rfl ?_
          refine o_ialdN (v := nI (S.1.2 j 4)) dX9_fills_63 sh_107 (by decide) (by omega) (hKI2.at0 hj (by decide)) ?_
          refine o_iload_n dX9_fills_64 rfl rfl ?_
          refine o_iaddN dX9_fills_65 ?_
          refine o_iastN dX9_fills_66 sh_107 (by decide) (by omega) ?_
          refine o_aload_n dX9_fills_67 rfl rfl ?_
          refine o_getR (b := 107) dX9_fills_68 fgX9_7 sh_106 rfl rfl ?_
          refine o_bipush (v := nI 6) dX9_fills_71 (by decide) ?_
          refine o_iload_n dX9_fills_73 rfl rfl ?_
          refine o_imulN dX9_fills_74 ?_
          refine o_iconst (v := nI 5) dX9_fills_75 (by decide) ?_
          refine o_iaddN dX9_fills_76 ?_
          refine o_dup2 dX9_fills_77 rfl rfl ?_
          refine o_ialdN (v := nI (S.1.2 j 5)) dX9_fills_78 sh_107 (by decide) (by omega) ((up2_x (by omega)).trans (hKI2.at0 hj (by decide))) ?_
          refine o_iload_n dX9_fills_79 rfl rfl ?_
          refine o_iaddN dX9_fills_80 ?_
          refine o_iastN dX9_fills_81 sh_107 (by decide) (by omega) ?_
          refine o_aload_n dX9_fills_82 rfl rfl ?_
          refine o_iload_n dX9_fills_83 rfl rfl ?_
          refine o_iconst (v := nI 4) dX9_fills_84 (by decide) ?_
          refine o_callVp (v := .int (nI ((kset (kset S.1 j 4 (S.1.2 j 4 + a)) j 5 (S.1.2 j 5 + b)).2 j 4))) (as := [.int (nI j), .int (nI 4)]) (st := []) dX9_fills_85 (c_ofK ((hKI2.put hn hj (by decide)).put hn hj (by decide)) hn hj (by decide)) rfl meX9_of imX9_of seX9_of mlX9_103 sh_106 rfl rfl (by omega) (by decide) (Nat.le_of_ble_eq_true rfl) ?_
          exact o_iret dX9_fills_88 rfl (by rw [show sp_fills S (nI j) (nI a) (nI b) = (nI (S.1.2 j 4 + a), st_do S (kfill S.1 j a b)) by simp only [sp_fills, cg_ix_some hj (by omega : S.1.1 ≤ 2 ^ 31), cg_in_n ha1 ha2, cg_in_some hb1 hb2 (by omega : a < 2 ^ 31), if_neg (show ¬ cH S.1 j - S.1.2 j 4 < a by omega)]]; exact ⟨by rw [kset_x (by omega), kset_s], hI2.casks ((hKI2.put hn hj (by decide)).put hn hj (by decide)) (fun a k z => (up2_x (by omega)).trans (up2_x (by omega))), loI2.trans (fun a k z => (up2_x (by omega)).trans (up2_x (by omega)))⟩)
        · refine o_bipush (v := (-3)) dX9_fills_45 (by decide) ?_
          exact o_iret dX9_fills_47 rfl (by rw [show sp_fills S (nI j) (nI a) (nI b) = (-3, S) by simp only [sp_fills, cg_ix_some hj (by omega : S.1.1 ≤ 2 ^ 31), cg_in_n ha1 ha2, cg_in_some hb1 hb2 (by omega : a < 2 ^ 31), if_pos (show cH S.1 j - S.1.2 j 4 < a by omega)]]; exact ⟨rfl, hM.fr (((frM.refl _).trans (frM.scr (by unfold mn; omega))).trans hFI1.M), (((frM.refl _).trans (frM.scr (by unfold mn; omega))).trans hFI1.M).lo⟩)
      · refine o_ifN_ne (tgt := 29) dX9_fills_24 (by decide) (by omega) (fun b_5 => absurd b_5 (by omega)) (fun b_5 => ?_)
        refine o_iconst (v := (-1)) dX9_fills_27 (by decide) ?_
        exact o_iret dX9_fills_28 rfl (by rw [show sp_fills S (nI j) (nI a) m = (-1, S) by simp only [sp_fills, cg_ix_some hj (by omega : S.1.1 ≤ 2 ^ 31), cg_in_n ha1 ha2, cg_in_none (by omega) (by omega : a < 2 ^ 31) hno2]]; exact ⟨rfl, hM.fr ((frM.refl _).trans (frM.scr (by unfold mn; omega))), ((frM.refl _).trans (frM.scr (by unfold mn; omega))).lo⟩)
  · refine o_ifN_eq (tgt := 27) dX9_fills_10 (by decide) (by omega) (fun b_6 => ?_) (fun b_6 => absurd b_6 (by omega))
    refine o_iconst (v := (-1)) dX9_fills_27 (by decide) ?_
    exact o_iret dX9_fills_28 rfl (by rw [show sp_fills S c n m = (-1, S) by simp only [sp_fills, hno]]; exact ⟨rfl, hM.fr ((frM.refl _).trans (frM.scr (by unfold mn; omega))), ((frM.refl _).trans (frM.scr (by unfold mn; omega))).lo⟩)

set_option maxHeartbeats 4000000 in
set_option maxRecDepth 100000 in
theorem m_draws {I : sm_I} {S : ST} (hM : MI I S) (hS : okS S) (c n : Int32) : E0 6 mX9_draws [.ref 106, .int c, .int n] I (fun r I' => r = some (.int (sp_draws S c n).1) ∧ MI I' (sp_draws S c n).2 ∧ loC I I') := by
  have hK := hM.1
  have hok := hS.1
  have hn := hok.1
  refine E0.of (by decide) (by simp [Value.category]) (Nat.le_of_ble_eq_true rfl) (fun ζ => ?_)
  refine o_aload_n dX9_draws_0 rfl rfl ?_
  refine o_iconst (v := nI 0) dX9_draws_1 (by decide) ?_
  refine o_putI dX9_draws_2 flX9_39 sh_106 rfl ?_
  refine o_aload_n dX9_draws_5 rfl rfl ?_
  refine o_iload_n dX9_draws_6 rfl rfl ?_
  refine o_callV (as := [.int c]) (st := []) dX9_draws_7 (c_isCask (hK.frM ((frM.refl _).trans (frM.scr (by unfold mn; omega)))) hok c) rfl meX9_isCask imX9_isCask seX9_isCask mlX9_127 sh_106 rfl rfl (by omega) (by decide) (Nat.le_of_ble_eq_true rfl) ?_
  rintro _ _ ⟨rfl, ⟨j, hj, rfl, rfl⟩ | ⟨hno, rfl⟩⟩
  · refine o_ifN_eq (tgt := 18) dX9_draws_10 (by decide) (by omega) (fun b_7 => absurd b_7 (by omega)) (fun b_7 => ?_)
    refine o_iload_n dX9_draws_13 rfl rfl ?_
    refine o_iconst (v := nI 1) dX9_draws_14 (by decide) ?_
    refine o_icmp_ge (tgt := 20) dX9_draws_15 (by decide) (fun b_8 => ?_) (fun b_8 => ?_)
    · obtain ⟨a, ha1, ha2, rfl⟩ := ge1_nat' b_8
      have hq := hok.2 j hj
      have hT := hq.lT
      have hH := hq.l2
      have hw := hq.w
      have hUl : ∀ y, y ≤ 40 → cU S.1 j y ≤ 67200 := fun y hy => hq.lU hy
      have q6 := hq.2.2.2.2.2.2.1
      have q5 := hq.2.2.2.2.2.1
      refine o_aload_n dX9_draws_20 rfl rfl ?_
      refine o_iload_n dX9_draws_21 rfl rfl ?_
      refine o_iconst (v := nI 4) dX9_draws_22 (by decide) ?_
      refine o_callVp (v := .int (nI (S.1.2 j 4))) (as := [.int (nI j), .int (nI 4)]) (st := []) dX9_draws_23 (c_ofK (hK.frM ((frM.refl _).trans (frM.scr (by unfold mn; omega)))) hn hj (by decide)) rfl meX9_of imX9_of seX9_of mlX9_103 sh_106 rfl rfl (by omega) (by decide) (Nat.le_of_ble_eq_true rfl) ?_
      refine o_iload_n dX9_draws_26 rfl rfl ?_
      refine o_icmpN_ge (tgt := 33) dX9_draws_27 (by decide) (by omega) (by omega) (fun b_9 => ?_) (fun b_9 => ?_)
      · refine o_aload_n dX9_draws_33 rfl rfl ?_
        refine o_callV (as := []) (st := []) dX9_draws_34 (c_notes (hK.frM ((frM.refl _).trans (frM.scr (by unfold mn; omega)))) hn (hM.fr ((frM.refl _).trans (frM.scr (by unfold mn; omega)))).MP hS.2.2.1.1 (fun k hk => (hS.2.2.1.2 k hk).1)) rfl meX9_notes imX9_notes seX9_notes mlX9_100 sh_106 rfl rfl (by omega) (by decide) (Nat.le_of_ble_eq_true rfl) ?_
        rintro _ I2 ⟨rfl, hPI2, hFI2⟩
        have hI2 := (hM.fr ((frM.refl _).trans (frM.scr (by unfold mn; omega)))).note hPI2 hFI2
        have hKI2 : MK I2 107 0 S.1 := hI2.1
        have loI2 : loC I I2 := (((frM.refl _).trans (frM.scr (by unfold mn; omega))).lo).trans hFI2.lo
        refine o_aload_n dX9_draws_37 rfl rfl ?_
        refine o_iload_n dX9_draws_38 rfl rfl ?_
        refine o_iload_n dX9_draws_39 rfl rfl ?_
        refine o_callV (as := [.int (nI j), .int (nI a)]) (st := []) dX9_draws_40 (c_goes hKI2 hok hj ha1 (by omega)) rfl meX9_goes imX9_goes seX9_goes mlX9_134 sh_106 rfl rfl (by omega) (by decide) (Nat.le_of_ble_eq_true rfl) ?_
        rintro _ _ ⟨rfl, rfl⟩
        have hgo := kgoes_le (a := a) (hok.2 j hj)
        refine o_istore_n dX9_draws_43 rfl (by decide) ?_
        refine o_iload_n dX9_draws_44 rfl rfl ?_
        refine o_ifN_ge (tgt := 52) dX9_draws_45 (by decide) (by omega) ?_
        refine o_aload_n dX9_draws_52 rfl rfl ?_
        refine o_iload_n dX9_draws_53 rfl rfl ?_
        refine o_iconst (v := nI 4) dX9_draws_54 (by decide) ?_
        refine o_callVp (v := .int (nI ((kset (kset S.1 j 4 (S.1.2 j 4 - a)) j 5 (S.1.2 j 5 - kgoes S.1 j a)).2 j 4))) (as := [.int (nI j), .int (nI 4)]) (st := []) dX9_draws_55 (c_ofK ((hKI2.put hn hj (by decide)).put hn hj (by decide)) hn hj (by decide)) rfl meX9_of imX9_of seX9_of mlX9_103 sh_106 rfl rfl (by omega) (by decide) (Nat.le_of_ble_eq_true rfl) ?_
        exact o_iret dX9_draws_58 rfl (by rw [show sp_draws S (nI j) (nI a) = (nI (S.1.2 j 4 - a), st_do S (kdraw S.1 j a)) by simp only [sp_draws, cg_ix_some hj (by omega : S.1.1 ≤ 2 ^ 31), cg_in_n ha1 ha2, if_neg (show ¬ S.1.2 j 4 < a by omega)]]; exact ⟨by rw [kset_x (by omega), kset_s], hI2.casks ((hKI2.put hn hj (by decide)).put hn hj (by decide)) (fun a k z => (up2_x (by omega)).trans (up2_x (by omega))), loI2.trans (fun a k z => (up2_x (by omega)).trans (up2_x (by omega)))⟩)
      · refine o_bipush (v := (-2)) dX9_draws_30 (by decide) ?_
        exact o_iret dX9_draws_32 rfl (by rw [show sp_draws S (nI j) (nI a) = (-2, S) by simp only [sp_draws, cg_ix_some hj (by omega : S.1.1 ≤ 2 ^ 31), cg_in_n ha1 ha2, if_pos (show S.1.2 j 4 < a by omega)]]; exact ⟨rfl, hM.fr ((frM.refl _).trans (frM.scr (by unfold mn; omega))), ((frM.refl _).trans (frM.scr (by unfold mn; omega))).lo⟩)
    · refine o_iconst (v := (-1)) dX9_draws_18 (by decide) ?_
      exact o_iret dX9_draws_19 rfl (by rw [show sp_draws S (nI j) n = (-1, S) by simp only [sp_draws, cg_ix_some hj (by omega : S.1.1 ≤ 2 ^ 31), lt1_in (i32_nle b_8)]]; exact ⟨rfl, hM.fr ((frM.refl _).trans (frM.scr (by unfold mn; omega))), ((frM.refl _).trans (frM.scr (by unfold mn; omega))).lo⟩)
  · refine o_ifN_eq (tgt := 18) dX9_draws_10 (by decide) (by omega) (fun b_11 => ?_) (fun b_11 => absurd b_11 (by omega))
    refine o_iconst (v := (-1)) dX9_draws_18 (by decide) ?_
    exact o_iret dX9_draws_19 rfl (by rw [show sp_draws S c n = (-1, S) by simp only [sp_draws, hno]]; exact ⟨rfl, hM.fr ((frM.refl _).trans (frM.scr (by unfold mn; omega))), ((frM.refl _).trans (frM.scr (by unfold mn; omega))).lo⟩)

theorem MK.same {I : sm_I} {a off : Nat} {K K' : KT} (h : MK I a off K) (he : K.1 = K'.1 ∧ ∀ c f, c < K.1 → f < 6 → K.2 c f = K'.2 c f) : MK I a off K' := ⟨by rw [← he.1]; exact h.1, fun c f hc hf => by rw [← he.2 c f (by rw [he.1]; exact hc) hf]; exact h.2 c f (by rw [he.1]; exact hc) hf⟩
theorem pour_eq {K : KT} {j i a : Nat} (hne : ¬ j = i) : (kset (kset (kset (kset K j 4 (K.2 j 4 - a)) j 5 (K.2 j 5 - kgoes K j a)) i 5 (K.2 i 5 + kgoes K j a)) i 4 (K.2 i 4 + a)).1 = (kpour K j i a).1 ∧ ∀ c f, c < (kset (kset (kset (kset K j 4 (K.2 j 4 - a)) j 5 (K.2 j 5 - kgoes K j a)) i 5 (K.2 i 5 + kgoes K j a)) i 4 (K.2 i 4 + a)).1 → f < 6 → (kset (kset (kset (kset K j 4 (K.2 j 4 - a)) j 5 (K.2 j 5 - kgoes K j a)) i 5 (K.2 i 5 + kgoes K j a)) i 4 (K.2 i 4 + a)).2 c f = (kpour K j i a).2 c f := by
  refine ⟨rfl, fun c f _ _ => ?_⟩
  unfold kpour kdraw
  by_cases h4 : c = i ∧ f = 4
  · obtain ⟨rfl, rfl⟩ := h4
    rw [kset_s, kset_x (by omega), kset_s]
  · rw [kset_x h4]
    by_cases h5 : c = i ∧ f = 5
    · obtain ⟨rfl, rfl⟩ := h5
      rw [kset_s, kset_s]
    · rw [kset_x h5, kset_x h5, kset_x h4]

set_option maxHeartbeats 4000000 in
set_option maxRecDepth 100000 in
theorem m_pours {I : sm_I} {S : ST} (hM : MI I S) (hS : okS S) (c e n : Int32) : E0 6 mX9_pours [.ref 106, .int c, .int e, .int n] I (fun r I' => r = some (.int (sp_pours S c e n).1) ∧ MI I' (sp_pours S c e n).2 ∧ loC I I') := by
  have hK := hM.1
  have hok := hS.1
  have hn := hok.1
  refine E0.of (by decide) (by simp [Value.category]) (Nat.le_of_ble_eq_true rfl) (fun ζ => ?_)
  refine o_aload_n dX9_pours_0 rfl rfl ?_
  refine o_iconst (v := nI 0) dX9_pours_1 (by decide) ?_
  refine o_putI dX9_pours_2 flX9_39 sh_106 rfl ?_
  refine o_aload_n dX9_pours_5 rfl rfl ?_
  refine o_iload_n dX9_pours_6 rfl rfl ?_
  refine o_callV (as := [.int c]) (st := []) dX9_pours_7 (c_isCask (hK.frM ((frM.refl _).trans (frM.scr (by unfold mn; omega)))) hok c) rfl meX9_isCask imX9_isCask seX9_isCask mlX9_127 sh_106 rfl rfl (by omega) (by decide) (Nat.le_of_ble_eq_true rfl) ?_
  rintro _ _ ⟨rfl, ⟨j, hj, rfl, rfl⟩ | ⟨hno, rfl⟩⟩
  · refine o_ifN_eq (tgt := 31) dX9_pours_10 (by decide) (by omega) (fun b_12 => absurd b_12 (by omega)) (fun b_12 => ?_)
    refine o_aload_n dX9_pours_13 rfl rfl ?_
    refine o_iload_n dX9_pours_14 rfl rfl ?_
    refine o_callV (as := [.int e]) (st := []) dX9_pours_15 (c_isCask (hK.frM ((frM.refl _).trans (frM.scr (by unfold mn; omega)))) hok e) rfl meX9_isCask imX9_isCask seX9_isCask mlX9_127 sh_106 rfl rfl (by omega) (by decide) (Nat.le_of_ble_eq_true rfl) ?_
    rintro _ _ ⟨rfl, ⟨i, hi, rfl, rfl⟩ | ⟨hno2, rfl⟩⟩
    · refine o_ifN_eq (tgt := 31) dX9_pours_18 (by decide) (by omega) (fun b_13 => absurd b_13 (by omega)) (fun b_13 => ?_)
      refine o_iload_n dX9_pours_21 rfl rfl ?_
      refine o_iload_n dX9_pours_22 rfl rfl ?_
      refine o_icmpN_eq (tgt := 31) dX9_pours_23 (by decide) (by omega) (by omega) (fun b_14 => ?_) (fun b_14 => ?_)
      · refine o_iconst (v := (-1)) dX9_pours_31 (by decide) ?_
        exact o_iret dX9_pours_32 rfl (by rw [show sp_pours S (nI j) (nI i) n = (-1, S) by simp only [sp_pours, cg_ix_some hj (by omega : S.1.1 ≤ 2 ^ 31), cg_ix_some hi (by omega : S.1.1 ≤ 2 ^ 31), if_pos b_14]]; exact ⟨rfl, hM.fr ((frM.refl _).trans (frM.scr (by unfold mn; omega))), ((frM.refl _).trans (frM.scr (by unfold mn; omega))).lo⟩)
      · refine o_iload_n dX9_pours_26 rfl rfl ?_
        refine o_iconst (v := nI 1) dX9_pours_27 (by decide) ?_
        refine o_icmp_ge (tgt := 33) dX9_pours_28 (by decide) (fun b_15 => ?_) (fun b_15 => ?_)
        · obtain ⟨a, ha1, ha2, rfl⟩ := ge1_nat' b_15
          have hq := hok.2 j hj
          have hT := hq.lT
          have hH := hq.l2
          have hw := hq.w
          have hUl : ∀ y, y ≤ 40 → cU S.1 j y ≤ 67200 := fun y hy => hq.lU hy
          have q6 := hq.2.2.2.2.2.2.1
          have q5 := hq.2.2.2.2.2.1
          have hqi := hok.2 i hi
          have hTi := hqi.lT
          have hHi := hqi.l2
          have hwi := hqi.w
          have hUli : ∀ y, y ≤ 40 → cU S.1 i y ≤ 67200 := fun y hy => hqi.lU hy
          have q6i := hqi.2.2.2.2.2.2.1
          have q5i := hqi.2.2.2.2.2.1
          refine o_aload_n dX9_pours_33 rfl rfl ?_
          refine o_iload_n dX9_pours_34 rfl rfl ?_
          refine o_iconst (v := nI 4) dX9_pours_35 (by decide) ?_
          refine o_callVp (v := .int (nI (S.1.2 j 4))) (as := [.int (nI j), .int (nI 4)]) (st := []) dX9_pours_36 (c_ofK (hK.frM ((frM.refl _).trans (frM.scr (by unfold mn; omega)))) hn hj (by decide)) rfl meX9_of imX9_of seX9_of mlX9_103 sh_106 rfl rfl (by omega) (by decide) (Nat.le_of_ble_eq_true rfl) ?_
          refine o_iload_n dX9_pours_39 rfl rfl ?_
          refine o_icmpN_ge (tgt := 46) dX9_pours_40 (by decide) (by omega) (by omega) (fun b_16 => ?_) (fun b_16 => ?_)
          · refine o_iload_n dX9_pours_46 rfl rfl ?_
            refine o_aload_n dX9_pours_47 rfl rfl ?_
            refine o_iload_n dX9_pours_48 rfl rfl ?_
            refine o_callV (as := [.int (nI i)]) (st := [.int (nI a)]) dX9_pours_49 (c_hold (hK.frM ((frM.refl _).trans (frM.scr (by unfold mn; omega)))) hok hi) rfl meX9_hold imX9_hold seX9_hold mlX9_131 sh_106 rfl rfl (by omega) (by decide) (Nat.le_of_ble_eq_true rfl) ?_
            rintro _ I1 ⟨rfl, hUI1, hFI1⟩
            have hqi := hok.2 i hi
            have hTi := hqi.lT
            have hHi := hqi.l2
            have hwi := hqi.w
            have hUli : ∀ y, y ≤ 40 → cU S.1 i y ≤ 67200 := fun y hy => hqi.lU hy
            have q6i := hqi.2.2.2.2.2.2.1
            have q5i := hqi.2.2.2.2.2.1
            refine o_aload_n dX9_pours_52 rfl rfl ?_
            refine o_iload_n dX9_pours_53 rfl rfl ?_
            refine o_iconst (v := nI 4) dX9_pours_54 (by decide) ?_
            refine o_callVp (v := .int (nI (S.1.2 i 4))) (as := [.int (nI i), .int (nI 4)]) (st := [.int (nI (cH S.1 i)), .int (nI a)]) dX9_pours_55 (c_ofK (hK.frM (((frM.refl _).trans (frM.scr (by unfold mn; omega))).trans hFI1.M)) hn hi (by decide)) rfl meX9_of imX9_of seX9_of mlX9_103 sh_106 rfl rfl (by omega) (by decide) (Nat.le_of_ble_eq_true rfl) ?_
            refine o_isubN dX9_pours_58 (by omega) ?_
            refine o_icmpN_le (tgt := 65) dX9_pours_59 (by decide) (by omega) (by omega) (fun b_17 => ?_) (fun b_17 => ?_)
            · refine o_aload_n dX9_pours_65 rfl rfl ?_
              refine o_callV (as := []) (st := []) dX9_pours_66 (c_notes (hK.frM (((frM.refl _).trans (frM.scr (by unfold mn; omega))).trans hFI1.M)) hn (hM.fr (((frM.refl _).trans (frM.scr (by unfold mn; omega))).trans hFI1.M)).MP hS.2.2.1.1 (fun k hk => (hS.2.2.1.2 k hk).1)) rfl meX9_notes imX9_notes seX9_notes mlX9_100 sh_106 rfl rfl (by omega) (by decide) (Nat.le_of_ble_eq_true rfl) ?_
              rintro _ I2 ⟨rfl, hPI2, hFI2⟩
              have hI2 := (hM.fr (((frM.refl _).trans (frM.scr (by unfold mn; omega))).trans hFI1.M)).note hPI2 hFI2
              have hKI2 : MK I2 107 0 S.1 := hI2.1
              have loI2 : loC I I2 := ((((frM.refl _).trans (frM.scr (by unfold mn; omega))).trans hFI1.M).lo).trans hFI2.lo
              refine o_aload_n dX9_pours_69 rfl rfl ?_
              refine o_getR (b := 107) dX9_pours_70 fgX9_7 sh_106 rfl rfl ?_
              refine o_bipush (v := nI 6) dX9_pours_73 (by decide) ?_
              refine o_iload_n dX9_pours_75 rfl rfl ?_
              refine o_imulN dX9_pours_76 ?_
              refine o_iconst (v := nI 5) dX9_pours_77 (by decide) ?_
              refine o_iaddN dX9_pours_78 ?_
              refine o_dup2 dX9_pours_79 rfl rfl ?_
              refine o_ialdN (v := nI (S.1.2 i 5)) dX9_pours_80 sh_107 (by decide) (by omega) (hKI2.at0 hi (by decide)) ?_
              refine o_aload_n dX9_pours_81 rfl rfl ?_
              refine o_iload_n dX9_pours_82 rfl rfl ?_
              refine o_iload_n dX9_pours_83 rfl rfl ?_
              refine o_callV (as := [.int (nI j), .int (nI a)]) (st := [.int (nI (S.1.2 i 5)), .int (nI ((6 * i) + 5)), .ref 107]) dX9_pours_84 (c_goes hKI2 hok hj ha1 (by omega)) rfl meX9_goes imX9_goes seX9_goes mlX9_134 sh_106 rfl rfl (by omega) (by decide) (Nat.le_of_ble_eq_true rfl) ?_
              rintro _ _ ⟨rfl, rfl⟩
              have hgo := kgoes_le (a := a) (hok.2 j hj)
              refine o_iaddN dX9_pours_87 ?_
              refine o_iastN dX9_pours_88 sh_107 (by decide) (by omega) ?_
              refine o_aload_n dX9_pours_89 rfl rfl ?_
              refine o_getR (b := 107) dX9_pours_90 fgX9_7 sh_106 rfl rfl ?_
              refine o_bipush (v := nI 6) dX9_pours_93 (by decide) ?_
              refine o_iload_n dX9_pours_95 rfl rfl ?_
              refine o_imulN dX9_pours_96 ?_
              refine o_iconst (v := nI 4) dX9_pours_97 (by decide) ?_
              refine o_iaddN dX9_pours_98 ?_
              refine o_dup2 dX9_pours_99 rfl rfl ?_
              refine o_ialdN (v := nI (S.1.2 i 4)) dX9_pours_100 sh_107 (by decide) (by omega) ((up2_x (by omega)).trans ((up2_x (by omega)).trans ((up2_x (by omega)).trans (hKI2.at0 hi (by decide))))) ?_
              refine o_iload_n dX9_pours_101 rfl rfl ?_
              refine o_iaddN dX9_pours_102 ?_
              refine o_iastN dX9_pours_103 sh_107 (by decide) (by omega) ?_
              refine o_aload_n dX9_pours_104 rfl rfl ?_
              refine o_iload_n dX9_pours_105 rfl rfl ?_
              refine o_iconst (v := nI 4) dX9_pours_106 (by decide) ?_
              refine o_callVp (v := .int (nI ((kset (kset (kset (kset S.1 j 4 (S.1.2 j 4 - a)) j 5 (S.1.2 j 5 - kgoes S.1 j a)) i 5 (S.1.2 i 5 + kgoes S.1 j a)) i 4 (S.1.2 i 4 + a)).2 i 4))) (as := [.int (nI i), .int (nI 4)]) (st := []) dX9_pours_107 (c_ofK ((((hKI2.put hn hj (by decide)).put hn hj (by decide)).put hn hi (by decide)).put hn hi (by decide)) hn hi (by decide)) rfl meX9_of imX9_of seX9_of mlX9_103 sh_106 rfl rfl (by omega) (by decide) (Nat.le_of_ble_eq_true rfl) ?_
              exact o_iret dX9_pours_110 rfl (by rw [show sp_pours S (nI j) (nI i) (nI a) = (nI (S.1.2 i 4 + a), st_do S (kpour S.1 j i a)) by simp only [sp_pours, cg_ix_some hj (by omega : S.1.1 ≤ 2 ^ 31), cg_ix_some hi (by omega : S.1.1 ≤ 2 ^ 31), if_neg b_14, cg_in_n ha1 ha2, if_neg (show ¬ S.1.2 j 4 < a by omega), if_neg (show ¬ cH S.1 i - S.1.2 i 4 < a by omega)]]; exact ⟨by rw [kset_s], hI2.casks (MK.same (((((((hKI2.put hn hj (by decide)).put hn hj (by decide)).put hn hi (by decide)).put hn hi (by decide)) ) )) (pour_eq b_14)) (fun a k z => (up2_x (by omega)).trans ((up2_x (by omega)).trans ((up2_x (by omega)).trans (up2_x (by omega))))), loI2.trans (fun a k z => (up2_x (by omega)).trans ((up2_x (by omega)).trans ((up2_x (by omega)).trans (up2_x (by omega)))))⟩)
            · refine o_bipush (v := (-3)) dX9_pours_62 (by decide) ?_
              exact o_iret dX9_pours_64 rfl (by rw [show sp_pours S (nI j) (nI i) (nI a) = (-3, S) by simp only [sp_pours, cg_ix_some hj (by omega : S.1.1 ≤ 2 ^ 31), cg_ix_some hi (by omega : S.1.1 ≤ 2 ^ 31), if_neg b_14, cg_in_n ha1 ha2, if_neg (show ¬ S.1.2 j 4 < a by omega), if_pos (show cH S.1 i - S.1.2 i 4 < a by omega)]]; exact ⟨rfl, hM.fr (((frM.refl _).trans (frM.scr (by unfold mn; omega))).trans hFI1.M), (((frM.refl _).trans (frM.scr (by unfold mn; omega))).trans hFI1.M).lo⟩)
          · refine o_bipush (v := (-2)) dX9_pours_43 (by decide) ?_
            exact o_iret dX9_pours_45 rfl (by rw [show sp_pours S (nI j) (nI i) (nI a) = (-2, S) by simp only [sp_pours, cg_ix_some hj (by omega : S.1.1 ≤ 2 ^ 31), cg_ix_some hi (by omega : S.1.1 ≤ 2 ^ 31), if_neg b_14, cg_in_n ha1 ha2, if_pos (show S.1.2 j 4 < a by omega)]]; exact ⟨rfl, hM.fr ((frM.refl _).trans (frM.scr (by unfold mn; omega))), ((frM.refl _).trans (frM.scr (by unfold mn; omega))).lo⟩)
        · refine o_iconst (v := (-1)) dX9_pours_31 (by decide) ?_
          exact o_iret dX9_pours_32 rfl (by rw [show sp_pours S (nI j) (nI i) n = (-1, S) by simp only [sp_pours, cg_ix_some hj (by omega : S.1.1 ≤ 2 ^ 31), cg_ix_some hi (by omega : S.1.1 ≤ 2 ^ 31), if_neg b_14, lt1_in (i32_nle b_15)]]; exact ⟨rfl, hM.fr ((frM.refl _).trans (frM.scr (by unfold mn; omega))), ((frM.refl _).trans (frM.scr (by unfold mn; omega))).lo⟩)
    · refine o_ifN_eq (tgt := 31) dX9_pours_18 (by decide) (by omega) (fun b_18 => ?_) (fun b_18 => absurd b_18 (by omega))
      refine o_iconst (v := (-1)) dX9_pours_31 (by decide) ?_
      exact o_iret dX9_pours_32 rfl (by rw [show sp_pours S (nI j) e n = (-1, S) by simp only [sp_pours, cg_ix_some hj (by omega : S.1.1 ≤ 2 ^ 31), hno2]]; exact ⟨rfl, hM.fr ((frM.refl _).trans (frM.scr (by unfold mn; omega))), ((frM.refl _).trans (frM.scr (by unfold mn; omega))).lo⟩)
  · refine o_ifN_eq (tgt := 31) dX9_pours_10 (by decide) (by omega) (fun b_19 => ?_) (fun b_19 => absurd b_19 (by omega))
    refine o_iconst (v := (-1)) dX9_pours_31 (by decide) ?_
    exact o_iret dX9_pours_32 rfl (by rw [show sp_pours S c e n = (-1, S) by simp only [sp_pours, hno]]; exact ⟨rfl, hM.fr ((frM.refl _).trans (frM.scr (by unfold mn; omega))), ((frM.refl _).trans (frM.scr (by unfold mn; omega))).lo⟩)

set_option maxHeartbeats 4000000 in
set_option maxRecDepth 100000 in
theorem m_turnsOver {I : sm_I} {S : ST} (hM : MI I S) (hS : okS S) (c : Int32) : E0 6 mX9_turnsOver [.ref 106, .int c] I (fun r I' => r = some (.int (sp_turnsOver S c).1) ∧ MI I' (sp_turnsOver S c).2 ∧ loC I I') := by
  have hK := hM.1
  have hok := hS.1
  have hn := hok.1
  refine E0.of (by decide) (by simp [Value.category]) (Nat.le_of_ble_eq_true rfl) (fun ζ => ?_)
  refine o_aload_n dX9_turnsOver_0 rfl rfl ?_
  refine o_iconst (v := nI 0) dX9_turnsOver_1 (by decide) ?_
  refine o_putI dX9_turnsOver_2 flX9_39 sh_106 rfl ?_
  refine o_aload_n dX9_turnsOver_5 rfl rfl ?_
  refine o_iload_n dX9_turnsOver_6 rfl rfl ?_
  refine o_callV (as := [.int c]) (st := []) dX9_turnsOver_7 (c_isCask (hK.frM ((frM.refl _).trans (frM.scr (by unfold mn; omega)))) hok c) rfl meX9_isCask imX9_isCask seX9_isCask mlX9_127 sh_106 rfl rfl (by omega) (by decide) (Nat.le_of_ble_eq_true rfl) ?_
  rintro _ _ ⟨rfl, ⟨j, hj, rfl, rfl⟩ | ⟨hno, rfl⟩⟩
  · refine o_ifN_ne (tgt := 15) dX9_turnsOver_10 (by decide) (by omega) (fun b_20 => ?_) (fun b_20 => absurd b_20 (by omega))
    refine o_aload_n dX9_turnsOver_15 rfl rfl ?_
    refine o_callV (as := []) (st := []) dX9_turnsOver_16 (c_notes (hK.frM ((frM.refl _).trans (frM.scr (by unfold mn; omega)))) hn (hM.fr ((frM.refl _).trans (frM.scr (by unfold mn; omega)))).MP hS.2.2.1.1 (fun k hk => (hS.2.2.1.2 k hk).1)) rfl meX9_notes imX9_notes seX9_notes mlX9_100 sh_106 rfl rfl (by omega) (by decide) (Nat.le_of_ble_eq_true rfl) ?_
    rintro _ I2 ⟨rfl, hPI2, hFI2⟩
    have hI2 := (hM.fr ((frM.refl _).trans (frM.scr (by unfold mn; omega)))).note hPI2 hFI2
    have hKI2 : MK I2 107 0 S.1 := hI2.1
    have loI2 : loC I I2 := (((frM.refl _).trans (frM.scr (by unfold mn; omega))).lo).trans hFI2.lo
    refine o_aload_n dX9_turnsOver_19 rfl rfl ?_
    refine o_getR (b := 107) dX9_turnsOver_20 fgX9_7 sh_106 rfl rfl ?_
    refine o_bipush (v := nI 6) dX9_turnsOver_23 (by decide) ?_
    refine o_iload_n dX9_turnsOver_25 rfl rfl ?_
    refine o_imulN dX9_turnsOver_26 ?_
    refine o_iconst (v := nI 3) dX9_turnsOver_27 (by decide) ?_
    refine o_iaddN dX9_turnsOver_28 ?_
    refine o_iconst (v := nI 1) dX9_turnsOver_29 (by decide) ?_
    refine o_aload_n dX9_turnsOver_30 rfl rfl ?_
    refine o_iload_n dX9_turnsOver_31 rfl rfl ?_
    refine o_iconst (v := nI 3) dX9_turnsOver_32 (by decide) ?_
    refine o_callVp (v := .int (nI (S.1.2 j 3))) (as := [.int (nI j), .int (nI 3)]) (st := [.int (nI 1), .int (nI ((6 * j) + 3)), .ref 107]) dX9_turnsOver_33 (c_ofK hKI2 hn hj (by decide)) rfl meX9_of imX9_of seX9_of mlX9_103 sh_106 rfl rfl (by omega) (by decide) (Nat.le_of_ble_eq_true rfl) ?_
    have hq := hok.2 j hj
    have hT := hq.lT
    have hH := hq.l2
    have hw := hq.w
    have hUl : ∀ y, y ≤ 40 → cU S.1 j y ≤ 67200 := fun y hy => hq.lU hy
    have q6 := hq.2.2.2.2.2.2.1
    have q5 := hq.2.2.2.2.2.1
    refine o_isubN dX9_turnsOver_36 (by omega) ?_
    refine o_iastN dX9_turnsOver_37 sh_107 (by decide) (by omega) ?_
    refine o_aload_n dX9_turnsOver_38 rfl rfl ?_
    refine o_iload_n dX9_turnsOver_39 rfl rfl ?_
    refine o_iconst (v := nI 3) dX9_turnsOver_40 (by decide) ?_
    refine o_callVp (v := .int (nI ((kset S.1 j 3 (1 - S.1.2 j 3)).2 j 3))) (as := [.int (nI j), .int (nI 3)]) (st := []) dX9_turnsOver_41 (c_ofK (hKI2.put hn hj (by decide)) hn hj (by decide)) rfl meX9_of imX9_of seX9_of mlX9_103 sh_106 rfl rfl (by omega) (by decide) (Nat.le_of_ble_eq_true rfl) ?_
    exact o_iret dX9_turnsOver_44 rfl (by rw [show sp_turnsOver S (nI j) = (nI (1 - S.1.2 j 3), st_do S (kturn S.1 j)) by simp only [sp_turnsOver, cg_ix_some hj (by omega : S.1.1 ≤ 2 ^ 31)]]; exact ⟨by rw [kset_s], hI2.casks (hKI2.put hn hj (by decide)) (fun a k z => up2_x (by omega)), loI2.trans (fun a k z => up2_x (by omega))⟩)
  · refine o_ifN_ne (tgt := 15) dX9_turnsOver_10 (by decide) (by omega) (fun b_21 => absurd b_21 (by omega)) (fun b_21 => ?_)
    refine o_iconst (v := (-1)) dX9_turnsOver_13 (by decide) ?_
    exact o_iret dX9_turnsOver_14 rfl (by rw [show sp_turnsOver S c = (-1, S) by simp only [sp_turnsOver, hno]]; exact ⟨rfl, hM.fr ((frM.refl _).trans (frM.scr (by unfold mn; omega))), ((frM.refl _).trans (frM.scr (by unfold mn; omega))).lo⟩)

theorem lp_undo {ζ : sm_Z} {d : Nat} {I0 : sm_I} {Q : Option Value → sm_I → Prop} {u : Nat} (hu7 : u ≤ 7) (hq : ∀ I' : sm_I, (∀ q, q < 25 → I' 107 q = I0 109 (25 * u + q)) → (∀ a k, a ≠ 107 → I' a k = I0 a k) → Q (some (.int (nI u))) I') : ∀ (f k : Nat) (I : sm_I), k + f = 25 → I 106 4 = nI u → (∀ q, q < k → I 107 q = I0 109 (25 * u + q)) → (∀ a k, a ≠ 107 → I a k = I0 a k) → X0 ζ d mX9_undo 27 [some (.ref 106), some (.int (nI k))] [] I Q := by
  intro f
  induction f with
  | zero =>
    intro k I hk hu h1 h3
    have hkk : k = 25 := by omega
    subst hkk
    refine o_iload_n dX9_undo_27 rfl rfl ?_
    refine o_bipush (v := nI 25) dX9_undo_28 (by decide) ?_
    refine o_icmpN_ge (tgt := 59) dX9_undo_30 (by decide) (by omega) (by omega) (fun b_22 => ?_) (fun b_22 => absurd b_22 (by omega))
    refine o_aload_n dX9_undo_59 rfl rfl ?_
    refine o_getI (v := nI u) dX9_undo_60 fgX9_124 sh_106 rfl hu ?_
    exact o_iret dX9_undo_63 rfl (hq _ h1 h3)
  | succ f ih =>
    intro k I hk hu h1 h3
    refine o_iload_n dX9_undo_27 rfl rfl ?_
    refine o_bipush (v := nI 25) dX9_undo_28 (by decide) ?_
    refine o_icmpN_ge (tgt := 59) dX9_undo_30 (by decide) (by omega) (by omega) (fun b_23 => absurd b_23 (by omega)) (fun b_23 => ?_)
    refine o_aload_n dX9_undo_33 rfl rfl ?_
    refine o_getR (b := 107) dX9_undo_34 fgX9_7 sh_106 rfl rfl ?_
    refine o_iload_n dX9_undo_37 rfl rfl ?_
    refine o_aload_n dX9_undo_38 rfl rfl ?_
    refine o_getR (b := 109) dX9_undo_39 fgX9_16 sh_106 rfl rfl ?_
    refine o_bipush (v := nI 25) dX9_undo_42 (by decide) ?_
    refine o_aload_n dX9_undo_44 rfl rfl ?_
    refine o_getI (v := nI u) dX9_undo_45 fgX9_124 sh_106 rfl hu ?_
    refine o_imulN dX9_undo_48 ?_
    refine o_iload_n dX9_undo_49 rfl rfl ?_
    refine o_iaddN dX9_undo_50 ?_
    refine o_ialdN (v := I 109 ((25 * u) + k)) dX9_undo_51 sh_109 (by decide) (by omega) rfl ?_
    refine o_iastN dX9_undo_52 sh_107 (by decide) (by omega) ?_
    refine o_iincN (w := 1) dX9_undo_53 rfl (by decide) (by decide) ?_
    refine o_goto (tgt := 27) dX9_undo_56 (by decide) ?_
    refine ih (k + 1) _ (by omega) ((up2_x (by omega)).trans hu) (fun q hq => ?_) (fun a k z => (up2_x (by omega)).trans (h3 a k z))
    rcases Nat.lt_or_ge q k with z | z
    · exact (up2_x (by omega)).trans (h1 q z)
    · have hqq : q = k := by omega
      subst hqq
      exact up2_s.trans (h3 109 _ (by decide))

set_option maxHeartbeats 4000000 in
set_option maxRecDepth 100000 in
theorem m_undo {I : sm_I} {S : ST} (hM : MI I S) (hS : okS S) : E0 6 mX9_undo [.ref 106] I (fun r I' => r = some (.int (sp_undo S).1) ∧ MI I' (sp_undo S).2 ∧ loC I I') := by
  have hp8 := hS.2.2.1.1
  refine E0.of (by decide) (by simp [Value.category]) (Nat.le_of_ble_eq_true rfl) (fun ζ => ?_)
  refine o_aload_n dX9_undo_0 rfl rfl ?_
  refine o_iconst (v := nI 0) dX9_undo_1 (by decide) ?_
  refine o_putI dX9_undo_2 flX9_39 sh_106 rfl ?_
  refine o_aload_n dX9_undo_5 rfl rfl ?_
  refine o_getI (v := nI S.2.2.1.1) dX9_undo_6 fgX9_124 sh_106 rfl ((up2_x (by omega)).trans hM.MP.1) ?_
  refine o_ifN_ne (tgt := 15) dX9_undo_9 (by decide) (by omega) (fun b_24 => ?_) (fun b_24 => ?_)
  · refine o_aload_n dX9_undo_15 rfl rfl ?_
    refine o_dup dX9_undo_16 rfl ?_
    refine o_getI (v := nI S.2.2.1.1) dX9_undo_17 fgX9_124 sh_106 rfl ((up2_x (by omega)).trans hM.MP.1) ?_
    refine o_iconst (v := nI 1) dX9_undo_20 (by decide) ?_
    refine o_isubN dX9_undo_21 (by omega) ?_
    refine o_putI dX9_undo_22 flX9_124 sh_106 rfl ?_
    refine o_iconst (v := nI 0) dX9_undo_25 (by decide) ?_
    refine o_istore_n dX9_undo_26 rfl (by decide) ?_
    have hp8 := hS.2.2.1.1
    refine lp_undo (I0 := up2 (up2 I 106 0 (nI 0)) 106 4 (nI (S.2.2.1.1 - 1))) (u := S.2.2.1.1 - 1) (by omega) (fun I2 g1 g2 => ?_) 25 0 _ (by omega) up2_s (fun q hq => by omega) (fun _ _ _ => rfl)
    have e : sp_undo S = (nI (S.2.2.1.1 - 1), (S.2.2.1.2 (S.2.2.1.1 - 1), S.2.1, (S.2.2.1.1 - 1, S.2.2.1.2), S.2.2.2)) := by unfold sp_undo; rw [if_neg (by omega)]
    rw [e]
    have g3 : ∀ a k, ¬ (a = 106 ∧ (k = 0 ∨ k = 4)) → a ≠ 107 → I2 a k = I a k := fun a k z1 z2 => (g2 a k z2).trans ((up2_x (by omega)).trans (up2_x (by omega)))
    have hM1 := hM
    obtain ⟨h1, ⟨h2, h3⟩, ⟨h4, h5⟩, h6, h7, h8⟩ := hM1
    refine ⟨rfl, ⟨(h5 (S.2.2.1.1 - 1) (by omega)).mv (hS.2.2.1.2 _ (by omega)).1 (fun q hq => by rw [Nat.zero_add, g1 q hq, up2_x (by omega), up2_x (by omega)]), ⟨(g3 _ _ (by omega) (by omega)).trans h2, fun j hj => (g3 _ _ (by omega) (by omega)).trans (h3 j hj)⟩, ⟨(g2 _ _ (by omega)).trans up2_s, fun k hk => (h5 k (by have hk2 : k < S.2.2.1.1 - 1 := hk; omega)).of (fun k => g3 109 k (by omega) (by omega))⟩, fun i hi => ⟨fun q => (g3 _ _ (by omega) (by omega)).trans ((h6 i hi).1 q), fun K q => ⟨(g3 _ _ (by omega) (by omega)).trans ((h6 i hi).2 K q).1, ((h6 i hi).2 K q).2.of (fun k => g3 110 k (by omega) (by omega))⟩⟩, (g3 _ _ (by omega) (by omega)).trans h7, fun j hj => ⟨(g3 _ _ (by omega) (by omega)).trans (h8 j hj).1, (g3 _ _ (by omega) (by omega)).trans (h8 j hj).2⟩⟩, fun a k z => g3 a k (by omega) (by omega)⟩
  · refine o_bipush (v := (-2)) dX9_undo_12 (by decide) ?_
    exact o_iret dX9_undo_14 rfl (by rw [show sp_undo S = (-2, S) by unfold sp_undo; rw [if_pos b_24]]; exact ⟨rfl, hM.fr ((frM.refl _).trans (frM.scr (by unfold mn; omega))), ((frM.refl _).trans (frM.scr (by unfold mn; omega))).lo⟩)
