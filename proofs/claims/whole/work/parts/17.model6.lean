theorem type_row {I : sm_I} {T : Nat × (Nat → Nat)} (h : MT I T) {p j : Nat} {v w : Int32} (hj : j < T.1 + 1) : up2 (up2 (up2 I 106 0 v) 113 T.1 (nI p).toInt8.toInt32) 106 10 w 113 j = (nI (if j = T.1 then p else T.2 j)).toInt8.toInt32 := by
  by_cases hx : j = T.1
  · subst hx
    rw [if_pos rfl]
    exact (up2_x (by omega)).trans up2_s
  · rw [if_neg hx]
    exact (up2_x (by omega)).trans ((up2_x (by omega)).trans ((up2_x (by omega)).trans (h.2 j (by omega))))
theorem i2b_narrow (x : Int32) : narrow .byte (.int x.toInt8.toInt32) = .int x.toInt8.toInt32 := pk_nb x

set_option maxHeartbeats 4000000 in
set_option maxRecDepth 100000 in
theorem m_type {I : sm_I} {S : ST} (hM : MI I S) (hS : okS S) (x : Int32) : E0 6 mX9_type [.ref 106, .int x] I (fun r I' => r = some (.int (sp_type S x).1) ∧ MI I' (sp_type S x).2 ∧ loC I I') := by
  have hK := hM.1
  have hok := hS.1
  have hn := hok.1
  have h60 := hS.2.1.1
  refine E0.of (by decide) (by simp [Value.category]) (Nat.le_of_ble_eq_true rfl) (fun ζ => ?_)
  refine o_aload_n dX9_type_0 rfl rfl ?_
  refine o_iconst (v := nI 0) dX9_type_1 (by decide) ?_
  refine o_putI dX9_type_2 flX9_39 sh_106 rfl ?_
  refine o_iload_n dX9_type_5 rfl rfl ?_
  refine o_iconst (v := nI 0) dX9_type_6 (by decide) ?_
  refine o_sipush (v := nI 255) dX9_type_7 (by decide) ?_
  refine o_callS (as := [.int x, .int (nI 0), .int (nI 255)]) (st := []) dX9_type_10 (c_in _ _ _ _) rfl meX9_in ssX9_in mlX9_43 (by omega) (by decide) (Nat.le_of_ble_eq_true rfl) ?_
  rintro _ _ ⟨rfl, ⟨hpa, hpb, rfl⟩ | ⟨hno, rfl⟩⟩
  · obtain ⟨p, hp1, hp2, rfl⟩ := in_nat (by omega) (by omega) hpa hpb
    refine o_ifN_ne (tgt := 18) dX9_type_13 (by decide) (by omega) (fun b_1 => ?_) (fun b_1 => absurd b_1 (by omega))
    refine o_aload_n dX9_type_18 rfl rfl ?_
    refine o_getI (v := nI S.2.1.1) dX9_type_19 fgX9_47 sh_106 rfl ((up2_x (by omega)).trans hM.T.1) ?_
    refine o_bipush (v := nI 60) dX9_type_22 (by decide) ?_
    refine o_icmpN_ne (tgt := 30) dX9_type_24 (by decide) (by omega) (by omega) (fun b_2 => ?_) (fun b_2 => ?_)
    · refine o_aload_n dX9_type_30 rfl rfl ?_
      refine o_getR (b := 113) dX9_type_31 fgX9_29 sh_106 rfl rfl ?_
      refine o_aload_n dX9_type_34 rfl rfl ?_
      refine o_getI (v := nI S.2.1.1) dX9_type_35 fgX9_47 sh_106 rfl ((up2_x (by omega)).trans hM.T.1) ?_
      refine o_iload_n dX9_type_38 rfl rfl ?_
      refine o_i2b dX9_type_39 ?_
      refine o_bastN (w := (nI p).toInt8.toInt32) dX9_type_40 sh_113 (by decide) (by omega) (i2b_narrow _) ?_
      refine o_aload_n dX9_type_41 rfl rfl ?_
      refine o_dup dX9_type_42 rfl ?_
      refine o_getI (v := nI S.2.1.1) dX9_type_43 fgX9_47 sh_106 rfl ((up2_x (by omega)).trans ((up2_x (by omega)).trans hM.T.1)) ?_
      refine o_iconst (v := nI 1) dX9_type_46 (by decide) ?_
      refine o_iaddN dX9_type_47 ?_
      refine o_putI dX9_type_48 flX9_47 sh_106 rfl ?_
      refine o_aload_n dX9_type_51 rfl rfl ?_
      refine o_getI (v := nI (S.2.1.1 + 1)) dX9_type_52 fgX9_47 sh_106 rfl up2_s ?_
      exact o_iret dX9_type_55 rfl (by rw [show sp_type S (nI p) = (nI (S.2.1.1 + 1), (S.1, (S.2.1.1 + 1, fun j => if j = S.2.1.1 then p else S.2.1.2 j), S.2.2)) by simp only [sp_type, cg_in_some hp1 hp2 (by omega : (255 : Nat) < 2 ^ 31), if_neg b_2]]; exact ⟨rfl, mI_mk (hM.1.of (fun k => ((up2_x (by omega)).trans ((up2_x (by omega)).trans (up2_x (by omega)))))) ⟨up2_s, fun j hj => type_row hM.T hj⟩ (hM.MP.of ((up2_x (by omega)).trans ((up2_x (by omega)).trans (up2_x (by omega)))) (fun k => ((up2_x (by omega)).trans ((up2_x (by omega)).trans (up2_x (by omega)))))) (hM.Im.of (fun k => ((up2_x (by omega)).trans ((up2_x (by omega)).trans (up2_x (by omega))))) (fun k => ((up2_x (by omega)).trans ((up2_x (by omega)).trans (up2_x (by omega)))))) (hM.Sn.of ((up2_x (by omega)).trans ((up2_x (by omega)).trans (up2_x (by omega)))) (fun k => ((up2_x (by omega)).trans ((up2_x (by omega)).trans (up2_x (by omega)))))), (fun a k z => ((up2_x (by omega)).trans ((up2_x (by omega)).trans (up2_x (by omega)))))⟩)
    · refine o_bipush (v := (-3)) dX9_type_27 (by decide) ?_
      exact o_iret dX9_type_29 rfl (by rw [show sp_type S (nI p) = (-3, S) by simp only [sp_type, cg_in_some hp1 hp2 (by omega : (255 : Nat) < 2 ^ 31), if_pos b_2]]; exact ⟨rfl, hM.fr ((frM.refl _).trans (frM.scr (by unfold mn; omega))), ((frM.refl _).trans (frM.scr (by unfold mn; omega))).lo⟩)
  · refine o_ifN_ne (tgt := 18) dX9_type_13 (by decide) (by omega) (fun b_3 => absurd b_3 (by omega)) (fun b_3 => ?_)
    refine o_iconst (v := (-1)) dX9_type_16 (by decide) ?_
    exact o_iret dX9_type_17 rfl (by rw [show sp_type S x = (-1, S) by simp only [sp_type, cg_in_none (by omega) (by omega : (255 : Nat) < 2 ^ 31) hno]]; exact ⟨rfl, hM.fr ((frM.refl _).trans (frM.scr (by unfold mn; omega))), ((frM.refl _).trans (frM.scr (by unfold mn; omega))).lo⟩)

set_option maxHeartbeats 4000000 in
set_option maxRecDepth 100000 in
theorem m_clear {I : sm_I} {S : ST} (hM : MI I S) (hS : okS S) : E0 6 mX9_clear [.ref 106] I (fun r I' => r = some (.int (sp_clear S).1) ∧ MI I' (sp_clear S).2 ∧ loC I I') := by
  have hK := hM.1
  have hok := hS.1
  have hn := hok.1
  refine E0.of (by decide) (by simp [Value.category]) (Nat.le_of_ble_eq_true rfl) (fun ζ => ?_)
  refine o_aload_n dX9_clear_0 rfl rfl ?_
  refine o_iconst (v := nI 0) dX9_clear_1 (by decide) ?_
  refine o_putI dX9_clear_2 flX9_39 sh_106 rfl ?_
  refine o_aload_n dX9_clear_5 rfl rfl ?_
  refine o_getI (v := nI S.2.1.1) dX9_clear_6 fgX9_47 sh_106 rfl ((up2_x (by omega)).trans hM.T.1) ?_
  refine o_istore_n dX9_clear_9 rfl (by decide) ?_
  refine o_aload_n dX9_clear_10 rfl rfl ?_
  refine o_iconst (v := nI 0) dX9_clear_11 (by decide) ?_
  refine o_putI dX9_clear_12 flX9_47 sh_106 rfl ?_
  refine o_iload_n dX9_clear_15 rfl rfl ?_
  exact o_iret dX9_clear_16 rfl ⟨rfl, mI_mk (hM.1.of (fun k => ((up2_x (by omega)).trans (up2_x (by omega))))) ⟨up2_s, fun j hj => absurd hj (Nat.not_lt_zero j)⟩ (hM.MP.of ((up2_x (by omega)).trans (up2_x (by omega))) (fun k => ((up2_x (by omega)).trans (up2_x (by omega))))) (hM.Im.of (fun k => ((up2_x (by omega)).trans (up2_x (by omega)))) (fun k => ((up2_x (by omega)).trans (up2_x (by omega))))) (hM.Sn.of ((up2_x (by omega)).trans (up2_x (by omega))) (fun k => ((up2_x (by omega)).trans (up2_x (by omega))))), (fun a k z => ((up2_x (by omega)).trans (up2_x (by omega))))⟩

set_option maxHeartbeats 4000000 in
set_option maxRecDepth 100000 in
theorem m_forget {I : sm_I} {S : ST} (hM : MI I S) (hS : okS S) : E0 6 mX9_forget [.ref 106] I (fun r I' => r = some (.int (sp_forget S).1) ∧ MI I' (sp_forget S).2 ∧ loC I I') := by
  have hK := hM.1
  have hok := hS.1
  have hn := hok.1
  refine E0.of (by decide) (by simp [Value.category]) (Nat.le_of_ble_eq_true rfl) (fun ζ => ?_)
  refine o_aload_n dX9_forget_0 rfl rfl ?_
  refine o_iconst (v := nI 0) dX9_forget_1 (by decide) ?_
  refine o_putI dX9_forget_2 flX9_39 sh_106 rfl ?_
  refine o_aload_n dX9_forget_5 rfl rfl ?_
  refine o_getI (v := nI S.2.2.2.2.1) dX9_forget_6 fgX9_165 sh_106 rfl ((up2_x (by omega)).trans hM.Sn.1) ?_
  refine o_istore_n dX9_forget_9 rfl (by decide) ?_
  refine o_aload_n dX9_forget_10 rfl rfl ?_
  refine o_iconst (v := nI 0) dX9_forget_11 (by decide) ?_
  refine o_putI dX9_forget_12 flX9_165 sh_106 rfl ?_
  refine o_iload_n dX9_forget_15 rfl rfl ?_
  exact o_iret dX9_forget_16 rfl ⟨rfl, mI_mk (hM.1.of (fun k => ((up2_x (by omega)).trans (up2_x (by omega))))) (hM.T.of ((up2_x (by omega)).trans (up2_x (by omega))) (fun k => ((up2_x (by omega)).trans (up2_x (by omega))))) (hM.MP.of ((up2_x (by omega)).trans (up2_x (by omega))) (fun k => ((up2_x (by omega)).trans (up2_x (by omega))))) (hM.Im.of (fun k => ((up2_x (by omega)).trans (up2_x (by omega)))) (fun k => ((up2_x (by omega)).trans (up2_x (by omega))))) ⟨up2_s, fun j hj => absurd hj (Nat.not_lt_zero j)⟩, (fun a k z => ((up2_x (by omega)).trans (up2_x (by omega))))⟩

theorem sees_row {I : sm_I} {N : Nat × (Nat → Nat) × (Nat → Nat)} (h : MSn I N) {a b j : Nat} {v w : Int32} (hj : j < N.1 + 1) : up2 (up2 (up2 (up2 I 106 0 v) 112 (2 * N.1) (nI a)) 112 (2 * N.1 + 1) (nI b)) 106 8 w 112 (2 * j) = nI (if j = N.1 then a else N.2.1 j) ∧ up2 (up2 (up2 (up2 I 106 0 v) 112 (2 * N.1) (nI a)) 112 (2 * N.1 + 1) (nI b)) 106 8 w 112 (2 * j + 1) = nI (if j = N.1 then b else N.2.2 j) := by
  by_cases hx : j = N.1
  · subst hx
    rw [if_pos rfl, if_pos rfl]
    exact ⟨(up2_x (by omega)).trans ((up2_x (by omega)).trans up2_s), (up2_x (by omega)).trans up2_s⟩
  · rw [if_neg hx, if_neg hx]
    exact ⟨(up2_x (by omega)).trans ((up2_x (by omega)).trans ((up2_x (by omega)).trans ((up2_x (by omega)).trans (h.2 j (by omega)).1))), (up2_x (by omega)).trans ((up2_x (by omega)).trans ((up2_x (by omega)).trans ((up2_x (by omega)).trans (h.2 j (by omega)).2)))⟩

set_option maxHeartbeats 4000000 in
set_option maxRecDepth 100000 in
theorem m_sees {I : sm_I} {S : ST} (hM : MI I S) (hS : okS S) (n y : Int32) : E0 6 mX9_sees [.ref 106, .int n, .int y] I (fun r I' => r = some (.int (sp_sees S n y).1) ∧ MI I' (sp_sees S n y).2 ∧ loC I I') := by
  have hK := hM.1
  have hok := hS.1
  have hn := hok.1
  have h6 := hS.2.2.2.2.1
  refine E0.of (by decide) (by simp [Value.category]) (Nat.le_of_ble_eq_true rfl) (fun ζ => ?_)
  refine o_aload_n dX9_sees_0 rfl rfl ?_
  refine o_iconst (v := nI 0) dX9_sees_1 (by decide) ?_
  refine o_putI dX9_sees_2 flX9_39 sh_106 rfl ?_
  refine o_iload_n dX9_sees_5 rfl rfl ?_
  refine o_iconst (v := nI 0) dX9_sees_6 (by decide) ?_
  refine o_ldc (v := nI 99999) dX9_sees_7 kcX9_164 ?_
  refine o_callS (as := [.int n, .int (nI 0), .int (nI 99999)]) (st := []) dX9_sees_9 (c_in _ _ _ _) rfl meX9_in ssX9_in mlX9_43 (by omega) (by decide) (Nat.le_of_ble_eq_true rfl) ?_
  rintro _ _ ⟨rfl, ⟨haa, hab, rfl⟩ | ⟨hno, rfl⟩⟩
  · obtain ⟨a, ha1, ha2, rfl⟩ := in_nat (by omega) (by omega) haa hab
    refine o_ifN_eq (tgt := 25) dX9_sees_12 (by decide) (by omega) (fun b_4 => absurd b_4 (by omega)) (fun b_4 => ?_)
    refine o_iload_n dX9_sees_15 rfl rfl ?_
    refine o_iconst (v := nI 0) dX9_sees_16 (by decide) ?_
    refine o_bipush (v := nI 40) dX9_sees_17 (by decide) ?_
    refine o_callS (as := [.int y, .int (nI 0), .int (nI 40)]) (st := []) dX9_sees_19 (c_in _ _ _ _) rfl meX9_in ssX9_in mlX9_43 (by omega) (by decide) (Nat.le_of_ble_eq_true rfl) ?_
    rintro _ _ ⟨rfl, ⟨hba, hbb, rfl⟩ | ⟨hno2, rfl⟩⟩
    · obtain ⟨b, hb1, hb2, rfl⟩ := in_nat (by omega) (by omega) hba hbb
      refine o_ifN_ne (tgt := 27) dX9_sees_22 (by decide) (by omega) (fun b_5 => ?_) (fun b_5 => absurd b_5 (by omega))
      refine o_aload_n dX9_sees_27 rfl rfl ?_
      refine o_getI (v := nI S.2.2.2.2.1) dX9_sees_28 fgX9_165 sh_106 rfl ((up2_x (by omega)).trans hM.Sn.1) ?_
      refine o_bipush (v := nI 6) dX9_sees_31 (by decide) ?_
      refine o_icmpN_ne (tgt := 39) dX9_sees_33 (by decide) (by omega) (by omega) (fun b_6 => ?_) (fun b_6 => ?_)
      · refine o_aload_n dX9_sees_39 rfl rfl ?_
        refine o_getR (b := 112) dX9_sees_40 fgX9_26 sh_106 rfl rfl ?_
        refine o_iconst (v := nI 2) dX9_sees_43 (by decide) ?_
        refine o_aload_n dX9_sees_44 rfl rfl ?_
        refine o_getI (v := nI S.2.2.2.2.1) dX9_sees_45 fgX9_165 sh_106 rfl ((up2_x (by omega)).trans hM.Sn.1) ?_
        refine o_imulN dX9_sees_48 ?_
        refine o_iload_n dX9_sees_49 rfl rfl ?_
        refine o_iastN dX9_sees_50 sh_112 (by decide) (by omega) ?_
        refine o_aload_n dX9_sees_51 rfl rfl ?_
        refine o_getR (b := 112) dX9_sees_52 fgX9_26 sh_106 rfl rfl ?_
        refine o_iconst (v := nI 2) dX9_sees_55 (by decide) ?_
        refine o_aload_n dX9_sees_56 rfl rfl ?_
        refine o_getI (v := nI S.2.2.2.2.1) dX9_sees_57 fgX9_165 sh_106 rfl ((up2_x (by omega)).trans ((up2_x (by omega)).trans hM.Sn.1)) ?_
        refine o_imulN dX9_sees_60 ?_
        refine o_iconst (v := nI 1) dX9_sees_61 (by decide) ?_
        refine o_iaddN dX9_sees_62 ?_
        refine o_iload_n dX9_sees_63 rfl rfl ?_
        refine o_iastN dX9_sees_64 sh_112 (by decide) (by omega) ?_
        refine o_aload_n dX9_sees_65 rfl rfl ?_
        refine o_dup dX9_sees_66 rfl ?_
        refine o_getI (v := nI S.2.2.2.2.1) dX9_sees_67 fgX9_165 sh_106 rfl ((up2_x (by omega)).trans ((up2_x (by omega)).trans ((up2_x (by omega)).trans hM.Sn.1))) ?_
        refine o_iconst (v := nI 1) dX9_sees_70 (by decide) ?_
        refine o_iaddN dX9_sees_71 ?_
        refine o_putI dX9_sees_72 flX9_165 sh_106 rfl ?_
        refine o_aload_n dX9_sees_75 rfl rfl ?_
        refine o_getI (v := nI (S.2.2.2.2.1 + 1)) dX9_sees_76 fgX9_165 sh_106 rfl up2_s ?_
        exact o_iret dX9_sees_79 rfl (by rw [show sp_sees S (nI a) (nI b) = (nI (S.2.2.2.2.1 + 1), (S.1, S.2.1, S.2.2.1, S.2.2.2.1, (S.2.2.2.2.1 + 1, (fun j => if j = S.2.2.2.2.1 then a else S.2.2.2.2.2.1 j), (fun j => if j = S.2.2.2.2.1 then b else S.2.2.2.2.2.2 j)))) by simp only [sp_sees, cg_in_some ha1 ha2 (by omega : (99999 : Nat) < 2 ^ 31), cg_in_some hb1 hb2 (by omega : (40 : Nat) < 2 ^ 31), if_neg b_6]]; exact ⟨rfl, mI_mk (hM.1.of (fun k => ((up2_x (by omega)).trans ((up2_x (by omega)).trans ((up2_x (by omega)).trans (up2_x (by omega))))))) (hM.T.of ((up2_x (by omega)).trans ((up2_x (by omega)).trans ((up2_x (by omega)).trans (up2_x (by omega))))) (fun k => ((up2_x (by omega)).trans ((up2_x (by omega)).trans ((up2_x (by omega)).trans (up2_x (by omega))))))) (hM.MP.of ((up2_x (by omega)).trans ((up2_x (by omega)).trans ((up2_x (by omega)).trans (up2_x (by omega))))) (fun k => ((up2_x (by omega)).trans ((up2_x (by omega)).trans ((up2_x (by omega)).trans (up2_x (by omega))))))) (hM.Im.of (fun k => ((up2_x (by omega)).trans ((up2_x (by omega)).trans ((up2_x (by omega)).trans (up2_x (by omega)))))) (fun k => ((up2_x (by omega)).trans ((up2_x (by omega)).trans ((up2_x (by omega)).trans (up2_x (by omega))))))) ⟨up2_s, fun j hj => sees_row hM.Sn hj⟩, (fun a k z => ((up2_x (by omega)).trans ((up2_x (by omega)).trans ((up2_x (by omega)).trans (up2_x (by omega))))))⟩)
      · refine o_bipush (v := (-3)) dX9_sees_36 (by decide) ?_
        exact o_iret dX9_sees_38 rfl (by rw [show sp_sees S (nI a) (nI b) = (-3, S) by simp only [sp_sees, cg_in_some ha1 ha2 (by omega : (99999 : Nat) < 2 ^ 31), cg_in_some hb1 hb2 (by omega : (40 : Nat) < 2 ^ 31), if_pos b_6]]; exact ⟨rfl, hM.fr ((frM.refl _).trans (frM.scr (by unfold mn; omega))), ((frM.refl _).trans (frM.scr (by unfold mn; omega))).lo⟩)
    · refine o_ifN_ne (tgt := 27) dX9_sees_22 (by decide) (by omega) (fun b_7 => absurd b_7 (by omega)) (fun b_7 => ?_)
      refine o_iconst (v := (-1)) dX9_sees_25 (by decide) ?_
      exact o_iret dX9_sees_26 rfl (by rw [show sp_sees S (nI a) y = (-1, S) by simp only [sp_sees, cg_in_some ha1 ha2 (by omega : (99999 : Nat) < 2 ^ 31), cg_in_none (by omega) (by omega : (40 : Nat) < 2 ^ 31) hno2]]; exact ⟨rfl, hM.fr ((frM.refl _).trans (frM.scr (by unfold mn; omega))), ((frM.refl _).trans (frM.scr (by unfold mn; omega))).lo⟩)
  · refine o_ifN_eq (tgt := 25) dX9_sees_12 (by decide) (by omega) (fun b_8 => ?_) (fun b_8 => absurd b_8 (by omega))
    refine o_iconst (v := (-1)) dX9_sees_25 (by decide) ?_
    exact o_iret dX9_sees_26 rfl (by rw [show sp_sees S n y = (-1, S) by simp only [sp_sees, cg_in_none (by omega) (by omega : (99999 : Nat) < 2 ^ 31) hno]]; exact ⟨rfl, hM.fr ((frM.refl _).trans (frM.scr (by unfold mn; omega))), ((frM.refl _).trans (frM.scr (by unfold mn; omega))).lo⟩)

theorem lp_keep {ζ : sm_Z} {d : Nat} {I0 : sm_I} {Q : Option Value → sm_I → Prop} {i : Nat} (hi : i ≤ 1) (hx : ∀ I' : sm_I, (∀ q, q < 25 → I' 110 (25 * i + q) = I0 107 q) → (∀ q, ¬ (25 * i ≤ q ∧ q < 25 * i + 25) → I' 110 q = I0 110 q) → (∀ a k, a ≠ 110 → I' a k = I0 a k) → X0 ζ d mX9_keep 47 [some (.ref 106), some (.int (nI i)), some (.int (nI 25))] [] I' Q) : ∀ (f k : Nat) (I : sm_I), k + f = 25 → (∀ q, q < k → I 110 (25 * i + q) = I0 107 q) → (∀ q, ¬ (25 * i ≤ q ∧ q < 25 * i + k) → I 110 q = I0 110 q) → (∀ a k, a ≠ 110 → I a k = I0 a k) → X0 ζ d mX9_keep 18 [some (.ref 106), some (.int (nI i)), some (.int (nI k))] [] I Q := by
  intro f
  induction f with
  | zero =>
    intro k I hk h1 h2 h3
    have hkk : k = 25 := by omega
    subst hkk
    refine o_iload_n dX9_keep_18 rfl rfl ?_
    refine o_bipush (v := nI 25) dX9_keep_19 (by decide) ?_
    refine o_icmpN_ge (tgt := 47) dX9_keep_21 (by decide) (by omega) (by omega) (fun b_9 => ?_) (fun b_9 => absurd b_9 (by omega))
    exact hx I h1 h2 h3
  | succ f ih =>
    intro k I hk h1 h2 h3
    refine o_iload_n dX9_keep_18 rfl rfl ?_
    refine o_bipush (v := nI 25) dX9_keep_19 (by decide) ?_
    refine o_icmpN_ge (tgt := 47) dX9_keep_21 (by decide) (by omega) (by omega) (fun b_10 => absurd b_10 (by omega)) (fun b_10 => ?_)
    refine o_aload_n dX9_keep_24 rfl rfl ?_
    refine o_getR (b := 110) dX9_keep_25 fgX9_19 sh_106 rfl rfl ?_
    refine o_bipush (v := nI 25) dX9_keep_28 (by decide) ?_
    refine o_iload_n dX9_keep_30 rfl rfl ?_
    refine o_imulN dX9_keep_31 ?_
    refine o_iload_n dX9_keep_32 rfl rfl ?_
    refine o_iaddN dX9_keep_33 ?_
    refine o_aload_n dX9_keep_34 rfl rfl ?_
    refine o_getR (b := 107) dX9_keep_35 fgX9_7 sh_106 rfl rfl ?_
    refine o_iload_n dX9_keep_38 rfl rfl ?_
    refine o_ialdN (v := I 107 k) dX9_keep_39 sh_107 (by decide) (by omega) rfl ?_
    refine o_iastN dX9_keep_40 sh_110 (by decide) (by omega) ?_
    refine o_iincN (w := 1) dX9_keep_41 rfl (by decide) (by decide) ?_
    refine o_goto (tgt := 18) dX9_keep_44 (by decide) ?_
    refine ih (k + 1) _ (by omega) (fun q hq => ?_) (fun q hq => (up2_x (by omega)).trans (h2 q (by omega))) (fun a k z => (up2_x (by omega)).trans (h3 a k z))
    rcases Nat.lt_or_ge q k with z | z
    · exact (up2_x (by omega)).trans (h1 q z)
    · have hqq : q = k := by omega
      subst hqq
      exact up2_s.trans (h3 107 q (by decide))

theorem keep_Im {I I2 : sm_I} {S : ST} (hM : MI I S) (hn : S.1.1 ≤ 4) (hok : ∀ i K, i < 2 → S.2.2.2.1 i = some K → K.1 ≤ 4) {p : Nat} (hp : p ≤ 1) (g1 : ∀ q, q < 25 → I2 110 (25 * p + q) = I 107 q) (g2 : ∀ q, ¬ (25 * p ≤ q ∧ q < 25 * p + 25) → I2 110 q = I 110 q) (g3 : I2 111 p = nI 1) (g4 : ∀ q, q ≠ p → I2 111 q = I 111 q) : MIm I2 (fun j => if j = p then some S.1 else S.2.2.2.1 j) := by
  intro i hi
  by_cases hx : i = p
  · subst hx
    refine ⟨fun q => by simp at q, fun K q => ?_⟩
    simp only [if_pos rfl] at q
    cases q
    exact ⟨g3, hM.1.mv hn (fun q hq => by rw [g1 q hq, Nat.zero_add])⟩
  · refine ⟨fun q => ?_, fun K q => ?_⟩
    · simp only [if_neg hx] at q
      exact (g4 i hx).trans ((hM.Im i hi).1 q)
    · simp only [if_neg hx] at q
      exact ⟨(g4 i hx).trans ((hM.Im i hi).2 K q).1, ((hM.Im i hi).2 K q).2.mv (hok i K hi q) (fun z hz => g2 _ (by omega))⟩

set_option maxHeartbeats 4000000 in
set_option maxRecDepth 100000 in
theorem m_keep {I : sm_I} {S : ST} (hM : MI I S) (hS : okS S) (x : Int32) : E0 6 mX9_keep [.ref 106, .int x] I (fun r I' => r = some (.int (sp_keep S x).1) ∧ MI I' (sp_keep S x).2 ∧ loC I I') := by
  have hK := hM.1
  have hok := hS.1
  have hn := hok.1
  refine E0.of (by decide) (by simp [Value.category]) (Nat.le_of_ble_eq_true rfl) (fun ζ => ?_)
  refine o_aload_n dX9_keep_0 rfl rfl ?_
  refine o_iconst (v := nI 0) dX9_keep_1 (by decide) ?_
  refine o_putI dX9_keep_2 flX9_39 sh_106 rfl ?_
  refine o_iload_n dX9_keep_5 rfl rfl ?_
  refine o_iconst (v := nI 0) dX9_keep_6 (by decide) ?_
  refine o_iconst (v := nI 1) dX9_keep_7 (by decide) ?_
  refine o_callS (as := [.int x, .int (nI 0), .int (nI 1)]) (st := []) dX9_keep_8 (c_in _ _ _ _) rfl meX9_in ssX9_in mlX9_43 (by omega) (by decide) (Nat.le_of_ble_eq_true rfl) ?_
  rintro _ _ ⟨rfl, ⟨hpa, hpb, rfl⟩ | ⟨hno, rfl⟩⟩
  · obtain ⟨p, hp1, hp2, rfl⟩ := in_nat (by omega) (by omega) hpa hpb
    refine o_ifN_ne (tgt := 16) dX9_keep_11 (by decide) (by omega) (fun b_11 => ?_) (fun b_11 => absurd b_11 (by omega))
    refine o_iconst (v := nI 0) dX9_keep_16 (by decide) ?_
    refine o_istore_n dX9_keep_17 rfl (by decide) ?_
    refine lp_keep (I0 := up2 I 106 0 (nI 0)) hp2 (fun I1 r1 r2 r3 => ?_) 25 0 _ (by omega) (fun q hq => by omega) (fun q _ => rfl) (fun _ _ _ => rfl)
    refine o_aload_n dX9_keep_47 rfl rfl ?_
    refine o_getR (b := 111) dX9_keep_48 fgX9_22 sh_106 rfl rfl ?_
    refine o_iload_n dX9_keep_51 rfl rfl ?_
    refine o_iconst (v := nI 1) dX9_keep_52 (by decide) ?_
    refine o_zastN dX9_keep_53 sh_111 (by decide) (by omega) (by decide) ?_
    refine o_aload_n dX9_keep_54 rfl rfl ?_
    refine o_getR (b := 107) dX9_keep_55 fgX9_7 sh_106 rfl rfl ?_
    refine o_bipush (v := nI 24) dX9_keep_58 (by decide) ?_
    refine o_ialdN (v := nI S.1.1) dX9_keep_60 sh_107 (by decide) (by omega) ((up2_x (by omega)).trans ((r3 107 24 (by decide)).trans ((up2_x (by omega)).trans hK.n0))) ?_
    exact o_iret dX9_keep_61 rfl (by rw [show sp_keep S (nI p) = (nI S.1.1, (S.1, S.2.1, S.2.2.1, (fun j => if j = p then some S.1 else S.2.2.2.1 j), S.2.2.2.2)) by simp only [sp_keep, cg_in_some hp1 hp2 (by omega : (1 : Nat) < 2 ^ 31)]]; exact ⟨rfl, mI_mk (hM.1.of (fun k => (up2_x (by omega)).trans ((r3 _ _ (by omega)).trans (up2_x (by omega))))) (hM.T.of ((up2_x (by omega)).trans ((r3 _ _ (by omega)).trans (up2_x (by omega)))) (fun k => (up2_x (by omega)).trans ((r3 _ _ (by omega)).trans (up2_x (by omega))))) (hM.MP.of ((up2_x (by omega)).trans ((r3 _ _ (by omega)).trans (up2_x (by omega)))) (fun k => (up2_x (by omega)).trans ((r3 _ _ (by omega)).trans (up2_x (by omega))))) (keep_Im hM hn (fun i K hi h => (hS.2.2.2.1 i K hi h).1) hp2 (fun q hq => by rw [up2_x (by omega), r1 q hq, up2_x (by omega)]) (fun q hq => by rw [up2_x (by omega), r2 q hq, up2_x (by omega)]) up2_s (fun q hq => by rw [up2_x (by omega), r3 _ _ (by decide), up2_x (by omega)])) (hM.Sn.of ((up2_x (by omega)).trans ((r3 _ _ (by omega)).trans (up2_x (by omega)))) (fun k => (up2_x (by omega)).trans ((r3 _ _ (by omega)).trans (up2_x (by omega))))), fun a k z => (up2_x (by omega)).trans ((r3 _ _ (by omega)).trans (up2_x (by omega)))⟩)
  · refine o_ifN_ne (tgt := 16) dX9_keep_11 (by decide) (by omega) (fun b_12 => absurd b_12 (by omega)) (fun b_12 => ?_)
    refine o_iconst (v := (-1)) dX9_keep_14 (by decide) ?_
    exact o_iret dX9_keep_15 rfl (by rw [show sp_keep S x = (-1, S) by simp only [sp_keep, cg_in_none (by omega) (by omega : (1 : Nat) < 2 ^ 31) hno]]; exact ⟨rfl, hM.fr ((frM.refl _).trans (frM.scr (by unfold mn; omega))), ((frM.refl _).trans (frM.scr (by unfold mn; omega))).lo⟩)

theorem lp_back {ζ : sm_Z} {d : Nat} {I0 : sm_I} {Q : Option Value → sm_I → Prop} {i : Nat} (hi : i ≤ 1) (hx : ∀ I' : sm_I, (∀ q, q < 25 → I' 107 q = I0 110 (25 * i + q)) → (∀ a k, a ≠ 107 → I' a k = I0 a k) → X0 ζ d mX9_back 59 [some (.ref 106), some (.int (nI i)), some (.int (nI 25))] [] I' Q) : ∀ (f k : Nat) (I : sm_I), k + f = 25 → (∀ q, q < k → I 107 q = I0 110 (25 * i + q)) → (∀ a k, a ≠ 107 → I a k = I0 a k) → X0 ζ d mX9_back 30 [some (.ref 106), some (.int (nI i)), some (.int (nI k))] [] I Q := by
  intro f
  induction f with
  | zero =>
    intro k I hk h1 h3
    have hkk : k = 25 := by omega
    subst hkk
    refine o_iload_n dX9_back_30 rfl rfl ?_
    refine o_bipush (v := nI 25) dX9_back_31 (by decide) ?_
    refine o_icmpN_ge (tgt := 59) dX9_back_33 (by decide) (by omega) (by omega) (fun b_13 => ?_) (fun b_13 => absurd b_13 (by omega))
    exact hx I h1 h3
  | succ f ih =>
    intro k I hk h1 h3
    refine o_iload_n dX9_back_30 rfl rfl ?_
    refine o_bipush (v := nI 25) dX9_back_31 (by decide) ?_
    refine o_icmpN_ge (tgt := 59) dX9_back_33 (by decide) (by omega) (by omega) (fun b_14 => absurd b_14 (by omega)) (fun b_14 => ?_)
    refine o_aload_n dX9_back_36 rfl rfl ?_
    refine o_getR (b := 107) dX9_back_37 fgX9_7 sh_106 rfl rfl ?_
    refine o_iload_n dX9_back_40 rfl rfl ?_
    refine o_aload_n dX9_back_41 rfl rfl ?_
    refine o_getR (b := 110) dX9_back_42 fgX9_19 sh_106 rfl rfl ?_
    refine o_bipush (v := nI 25) dX9_back_45 (by decide) ?_
    refine o_iload_n dX9_back_47 rfl rfl ?_
    refine o_imulN dX9_back_48 ?_
    refine o_iload_n dX9_back_49 rfl rfl ?_
    refine o_iaddN dX9_back_50 ?_
    refine o_ialdN (v := I 110 ((25 * i) + k)) dX9_back_51 sh_110 (by decide) (by omega) rfl ?_
    refine o_iastN dX9_back_52 sh_107 (by decide) (by omega) ?_
    refine o_iincN (w := 1) dX9_back_53 rfl (by decide) (by decide) ?_
    refine o_goto (tgt := 30) dX9_back_56 (by decide) ?_
    refine ih (k + 1) _ (by omega) (fun q hq => ?_) (fun a k z => (up2_x (by omega)).trans (h3 a k z))
    rcases Nat.lt_or_ge q k with z | z
    · exact (up2_x (by omega)).trans (h1 q z)
    · have hqq : q = k := by omega
      subst hqq
      exact up2_s.trans (h3 110 _ (by decide))

set_option maxHeartbeats 4000000 in
set_option maxRecDepth 100000 in
theorem m_back {I : sm_I} {S : ST} (hM : MI I S) (hS : okS S) (x : Int32) : E0 6 mX9_back [.ref 106, .int x] I (fun r I' => r = some (.int (sp_back S x).1) ∧ MI I' (sp_back S x).2 ∧ loC I I') := by
  have hK := hM.1
  have hok := hS.1
  have hn := hok.1
  refine E0.of (by decide) (by simp [Value.category]) (Nat.le_of_ble_eq_true rfl) (fun ζ => ?_)
  refine o_aload_n dX9_back_0 rfl rfl ?_
  refine o_iconst (v := nI 0) dX9_back_1 (by decide) ?_
  refine o_putI dX9_back_2 flX9_39 sh_106 rfl ?_
  refine o_iload_n dX9_back_5 rfl rfl ?_
  refine o_iconst (v := nI 0) dX9_back_6 (by decide) ?_
  refine o_iconst (v := nI 1) dX9_back_7 (by decide) ?_
  refine o_callS (as := [.int x, .int (nI 0), .int (nI 1)]) (st := []) dX9_back_8 (c_in _ _ _ _) rfl meX9_in ssX9_in mlX9_43 (by omega) (by decide) (Nat.le_of_ble_eq_true rfl) ?_
  rintro _ _ ⟨rfl, ⟨hpa, hpb, rfl⟩ | ⟨hno, rfl⟩⟩
  · obtain ⟨p, hp1, hp2, rfl⟩ := in_nat (by omega) (by omega) hpa hpb
    refine o_ifN_ne (tgt := 16) dX9_back_11 (by decide) (by omega) (fun b_15 => ?_) (fun b_15 => absurd b_15 (by omega))
    cases him : S.2.2.2.1 p with
    | none =>
      refine o_aload_n dX9_back_16 rfl rfl ?_
      refine o_getR (b := 111) dX9_back_17 fgX9_22 sh_106 rfl rfl ?_
      refine o_iload_n dX9_back_20 rfl rfl ?_
      refine o_zaldN (v := nI 0) dX9_back_21 sh_111 (by decide) (by omega) ((up2_x (by omega)).trans ((hM.Im p (by omega)).1 him)) ?_
      refine o_ifN_ne (tgt := 28) dX9_back_22 (by decide) (by omega) (fun b_16 => absurd b_16 (by omega)) (fun b_16 => ?_)
      refine o_bipush (v := (-2)) dX9_back_25 (by decide) ?_
      exact o_iret dX9_back_27 rfl (by rw [show sp_back S (nI p) = (-2, S) by simp only [sp_back, cg_in_some hp1 hp2 (by omega : (1 : Nat) < 2 ^ 31), him]]; exact ⟨rfl, hM.fr ((frM.refl _).trans (frM.scr (by unfold mn; omega))), ((frM.refl _).trans (frM.scr (by unfold mn; omega))).lo⟩)
    | some K =>
      have hKi := (hM.Im p (by omega)).2 K him
      refine o_aload_n dX9_back_16 rfl rfl ?_
      refine o_getR (b := 111) dX9_back_17 fgX9_22 sh_106 rfl rfl ?_
      refine o_iload_n dX9_back_20 rfl rfl ?_
      refine o_zaldN (v := nI 1) dX9_back_21 sh_111 (by decide) (by omega) ((up2_x (by omega)).trans hKi.1) ?_
      refine o_ifN_ne (tgt := 28) dX9_back_22 (by decide) (by omega) (fun b_17 => ?_) (fun b_17 => absurd b_17 (by omega))
      refine o_iconst (v := nI 0) dX9_back_28 (by decide) ?_
      refine o_istore_n dX9_back_29 rfl (by decide) ?_
      refine lp_back (I0 := up2 I 106 0 (nI 0)) hp2 (fun I1 r1 r3 => ?_) 25 0 _ (by omega) (fun q hq => by omega) (fun _ _ _ => rfl)
      refine o_aload_n dX9_back_59 rfl rfl ?_
      refine o_iconst (v := nI 0) dX9_back_60 (by decide) ?_
      refine o_putI dX9_back_61 flX9_124 sh_106 rfl ?_
      refine o_aload_n dX9_back_64 rfl rfl ?_
      refine o_getR (b := 107) dX9_back_65 fgX9_7 sh_106 rfl rfl ?_
      refine o_bipush (v := nI 24) dX9_back_68 (by decide) ?_
      refine o_ialdN (v := nI K.1) dX9_back_70 sh_107 (by decide) (by omega) ((up2_x (by omega)).trans ((r1 24 (by omega)).trans ((up2_x (by omega)).trans hKi.2.1))) ?_
      exact o_iret dX9_back_71 rfl (by rw [show sp_back S (nI p) = (nI K.1, (K, S.2.1, (0, S.2.2.1.2), S.2.2.2.1, S.2.2.2.2)) by simp only [sp_back, cg_in_some hp1 hp2 (by omega : (1 : Nat) < 2 ^ 31), him]]; exact ⟨rfl, mI_mk (hKi.2.mv (hS.2.2.2.1 p K (by omega) him).1 (fun q hq => by rw [Nat.zero_add, up2_x (by omega), r1 q hq, up2_x (by omega)])) (hM.T.of ((up2_x (by omega)).trans ((r3 _ _ (by omega)).trans (up2_x (by omega)))) (fun k => (up2_x (by omega)).trans ((r3 _ _ (by omega)).trans (up2_x (by omega))))) ⟨up2_s, fun k hk => absurd hk (Nat.not_lt_zero k)⟩ (hM.Im.of (fun k => (up2_x (by omega)).trans ((r3 _ _ (by omega)).trans (up2_x (by omega)))) (fun k => (up2_x (by omega)).trans ((r3 _ _ (by omega)).trans (up2_x (by omega))))) (hM.Sn.of ((up2_x (by omega)).trans ((r3 _ _ (by omega)).trans (up2_x (by omega)))) (fun k => (up2_x (by omega)).trans ((r3 _ _ (by omega)).trans (up2_x (by omega))))), fun a k z => (up2_x (by omega)).trans ((r3 _ _ (by omega)).trans (up2_x (by omega)))⟩)
  · refine o_ifN_ne (tgt := 16) dX9_back_11 (by decide) (by omega) (fun b_18 => absurd b_18 (by omega)) (fun b_18 => ?_)
    refine o_iconst (v := (-1)) dX9_back_14 (by decide) ?_
    exact o_iret dX9_back_15 rfl (by rw [show sp_back S x = (-1, S) by simp only [sp_back, cg_in_none (by omega) (by omega : (1 : Nat) < 2 ^ 31) hno]]; exact ⟨rfl, hM.fr ((frM.refl _).trans (frM.scr (by unfold mn; omega))), ((frM.refl _).trans (frM.scr (by unfold mn; omega))).lo⟩)

theorem lp_sum {ζ : sm_Z} {d : Nat} (hd : 1 ≤ d) {I : sm_I} {Q : Option Value → sm_I → Prop} {K : KT} (hK : MK I 107 0 K) (hn : K.1 ≤ 4) {w : Nat} (hw : w < 6) (hq : Q (some (.int (nI (cg_sum (fun c => K.2 c w) K.1)))) I) : ∀ f c : Nat, c + f = K.1 → X0 ζ d mX9_sum 4 [some (.ref 106), some (.int (nI w)), some (.int (nI (cg_sum (fun c => K.2 c w) c))), some (.int (nI c))] [] I Q := by
  intro f
  induction f with
  | zero =>
    intro c hc
    have hcc : c = K.1 := by omega
    subst hcc
    refine o_iload_n dX9_sum_4 rfl rfl ?_
    refine o_aload_n dX9_sum_5 rfl rfl ?_
    refine o_getR (b := 107) dX9_sum_6 fgX9_7 sh_106 rfl rfl ?_
    refine o_bipush (v := nI 24) dX9_sum_9 (by decide) ?_
    refine o_ialdN (v := nI K.1) dX9_sum_11 sh_107 (by decide) (by omega) hK.n0 ?_
    refine o_icmpN_ge (tgt := 30) dX9_sum_12 (by decide) (by omega) (by omega) (fun b_19 => ?_) (fun b_19 => absurd b_19 (by omega))
    refine o_iload_n dX9_sum_30 rfl rfl ?_
    exact o_iret dX9_sum_31 rfl hq
  | succ f ih =>
    intro c hc
    refine o_iload_n dX9_sum_4 rfl rfl ?_
    refine o_aload_n dX9_sum_5 rfl rfl ?_
    refine o_getR (b := 107) dX9_sum_6 fgX9_7 sh_106 rfl rfl ?_
    refine o_bipush (v := nI 24) dX9_sum_9 (by decide) ?_
    refine o_ialdN (v := nI K.1) dX9_sum_11 sh_107 (by decide) (by omega) hK.n0 ?_
    refine o_icmpN_ge (tgt := 30) dX9_sum_12 (by decide) (by omega) (by omega) (fun b_20 => absurd b_20 (by omega)) (fun b_20 => ?_)
    refine o_iload_n dX9_sum_15 rfl rfl ?_
    refine o_aload_n dX9_sum_16 rfl rfl ?_
    refine o_iload_n dX9_sum_17 rfl rfl ?_
    refine o_iload_n dX9_sum_18 rfl rfl ?_
    refine o_callVp (v := .int (nI (K.2 c w))) (as := [.int (nI c), .int (nI w)]) (st := [.int (nI (cg_sum (fun c => K.2 c w) c))]) dX9_sum_19 (c_ofK hK hn (show c < K.1 by omega) hw) rfl meX9_of imX9_of seX9_of mlX9_103 sh_106 rfl rfl (by omega) (by decide) (Nat.le_of_ble_eq_true rfl) ?_
    refine o_iaddN dX9_sum_22 ?_
    refine o_istore_n dX9_sum_23 rfl (by decide) ?_
    refine o_iincN (w := 1) dX9_sum_24 rfl (by decide) (by decide) ?_
    refine o_goto (tgt := 4) dX9_sum_27 (by decide) ?_
    exact ih (c + 1) (by omega)
theorem c_sum {I : sm_I} {K : KT} (hK : MK I 107 0 K) (hn : K.1 ≤ 4) {w : Nat} (hw : w < 6) : E0 1 mX9_sum [.ref 106, .int (nI w)] I (fun r I' => I' = I ∧ r = some (.int (nI (cg_sum (fun c => K.2 c w) K.1)))) := by
  refine E0.of (by decide) (by simp [Value.category]) (Nat.le_of_ble_eq_true rfl) (fun ζ => ?_)
  refine o_iconst (v := nI 0) dX9_sum_0 (by decide) ?_
  refine o_istore_n dX9_sum_1 rfl (by decide) ?_
  refine o_iconst (v := nI 0) dX9_sum_2 (by decide) ?_
  refine o_istore_n dX9_sum_3 rfl (by decide) ?_
  exact lp_sum (by omega) hK hn hw ⟨rfl, rfl⟩ K.1 0 (by omega)

theorem sw_out {x : Int32} {n : Nat} {hi : Int} (h : x < 0 ∨ nI (n + 1) ≤ x) (hn : n + 1 < 2 ^ 31 := by decide) (he : hi = (n : Int) := by decide) : x.toInt < 0 ∨ hi < x.toInt := by
  rcases h with h | h
  · have := Int32.lt_iff_toInt_lt.mp h
    rw [Int32.toInt_zero] at this
    exact Or.inl this
  · have := Int32.le_iff_toInt_le.mp h
    rw [nI_toInt hn] at this
    right
    omega

set_option maxHeartbeats 4000000 in
set_option maxRecDepth 100000 in
theorem m_count {I : sm_I} {S : ST} (hM : MI I S) (hS : okS S) (x : Int32) : E0 6 mX9_count [.ref 106, .int x] I (fun r I' => r = some (.int (sp_count S x)) ∧ frM I I') := by
  have hK := hM.1
  have hok := hS.1
  have hn := hok.1
  refine E0.of (by decide) (by simp [Value.category]) (Nat.le_of_ble_eq_true rfl) (fun ζ => ?_)
  rcases cg_ix_cases 6 (by decide) x with ⟨j, hj, rfl, hix⟩ | ⟨hix, hout⟩
  · rcases (show j = 0 ∨ j = 1 ∨ j = 2 ∨ j = 3 ∨ j = 4 ∨ j = 5 by omega) with rfl | rfl | rfl | rfl | rfl | rfl
    · refine o_aload_n dX9_count_0 rfl rfl ?_
      refine o_iconst (v := nI 0) dX9_count_1 (by decide) ?_
      refine o_putI dX9_count_2 flX9_39 sh_106 rfl ?_
      refine o_iload_n dX9_count_5 rfl rfl ?_
      refine o_tableIn (off := 38) (tgt := 44) dX9_count_6 (by decide) (by decide) (by decide) (by decide) ?_
      refine o_aload_n dX9_count_44 rfl rfl ?_
      refine o_getR (b := 107) dX9_count_45 fgX9_7 sh_106 rfl rfl ?_
      refine o_bipush (v := nI 24) dX9_count_48 (by decide) ?_
      refine o_ialdN (v := nI S.1.1) dX9_count_50 sh_107 (by decide) (by omega) ((up2_x (by omega)).trans hK.n0) ?_
      exact o_iret dX9_count_51 rfl ⟨by unfold sp_count; rw [hix]; rfl, ((frM.refl _).trans (frM.scr (by unfold mn; omega)))⟩
    · refine o_aload_n dX9_count_0 rfl rfl ?_
      refine o_iconst (v := nI 0) dX9_count_1 (by decide) ?_
      refine o_putI dX9_count_2 flX9_39 sh_106 rfl ?_
      refine o_iload_n dX9_count_5 rfl rfl ?_
      refine o_tableIn (off := 46) (tgt := 52) dX9_count_6 (by decide) (by decide) (by decide) (by decide) ?_
      refine o_aload_n dX9_count_52 rfl rfl ?_
      refine o_iconst (v := nI 4) dX9_count_53 (by decide) ?_
      refine o_callVp (v := .int (nI (cg_sum (fun c => S.1.2 c 4) S.1.1))) (as := [.int (nI 4)]) (st := []) dX9_count_54 (c_sum (hK.frM ((frM.refl _).trans (frM.scr (by unfold mn; omega)))) hn (by decide)) rfl meX9_sum imX9_sum seX9_sum mlX9_177 sh_106 rfl rfl (by omega) (by decide) (Nat.le_of_ble_eq_true rfl) ?_
      exact o_iret dX9_count_57 rfl ⟨by unfold sp_count; rw [hix]; rfl, ((frM.refl _).trans (frM.scr (by unfold mn; omega)))⟩
    · refine o_aload_n dX9_count_0 rfl rfl ?_
      refine o_iconst (v := nI 0) dX9_count_1 (by decide) ?_
      refine o_putI dX9_count_2 flX9_39 sh_106 rfl ?_
      refine o_iload_n dX9_count_5 rfl rfl ?_
      refine o_tableIn (off := 52) (tgt := 58) dX9_count_6 (by decide) (by decide) (by decide) (by decide) ?_
      refine o_aload_n dX9_count_58 rfl rfl ?_
      refine o_iconst (v := nI 5) dX9_count_59 (by decide) ?_
      refine o_callVp (v := .int (nI (cg_sum (fun c => S.1.2 c 5) S.1.1))) (as := [.int (nI 5)]) (st := []) dX9_count_60 (c_sum (hK.frM ((frM.refl _).trans (frM.scr (by unfold mn; omega)))) hn (by decide)) rfl meX9_sum imX9_sum seX9_sum mlX9_177 sh_106 rfl rfl (by omega) (by decide) (Nat.le_of_ble_eq_true rfl) ?_
      exact o_iret dX9_count_63 rfl ⟨by unfold sp_count; rw [hix]; rfl, ((frM.refl _).trans (frM.scr (by unfold mn; omega)))⟩
    · refine o_aload_n dX9_count_0 rfl rfl ?_
      refine o_iconst (v := nI 0) dX9_count_1 (by decide) ?_
      refine o_putI dX9_count_2 flX9_39 sh_106 rfl ?_
      refine o_iload_n dX9_count_5 rfl rfl ?_
      refine o_tableIn (off := 58) (tgt := 64) dX9_count_6 (by decide) (by decide) (by decide) (by decide) ?_
      refine o_aload_n dX9_count_64 rfl rfl ?_
      refine o_getI (v := nI S.2.2.2.2.1) dX9_count_65 fgX9_165 sh_106 rfl ((up2_x (by omega)).trans hM.Sn.1) ?_
      exact o_iret dX9_count_68 rfl ⟨by unfold sp_count; rw [hix]; rfl, ((frM.refl _).trans (frM.scr (by unfold mn; omega)))⟩
    · refine o_aload_n dX9_count_0 rfl rfl ?_
      refine o_iconst (v := nI 0) dX9_count_1 (by decide) ?_
      refine o_putI dX9_count_2 flX9_39 sh_106 rfl ?_
      refine o_iload_n dX9_count_5 rfl rfl ?_
      refine o_tableIn (off := 63) (tgt := 69) dX9_count_6 (by decide) (by decide) (by decide) (by decide) ?_
      refine o_aload_n dX9_count_69 rfl rfl ?_
      refine o_getI (v := nI S.2.1.1) dX9_count_70 fgX9_47 sh_106 rfl ((up2_x (by omega)).trans hM.T.1) ?_
      exact o_iret dX9_count_73 rfl ⟨by unfold sp_count; rw [hix]; rfl, ((frM.refl _).trans (frM.scr (by unfold mn; omega)))⟩
    · refine o_aload_n dX9_count_0 rfl rfl ?_
      refine o_iconst (v := nI 0) dX9_count_1 (by decide) ?_
      refine o_putI dX9_count_2 flX9_39 sh_106 rfl ?_
      refine o_iload_n dX9_count_5 rfl rfl ?_
      refine o_tableIn (off := 68) (tgt := 74) dX9_count_6 (by decide) (by decide) (by decide) (by decide) ?_
      refine o_aload_n dX9_count_74 rfl rfl ?_
      refine o_getI (v := nI S.2.2.1.1) dX9_count_75 fgX9_124 sh_106 rfl ((up2_x (by omega)).trans hM.MP.1) ?_
      exact o_iret dX9_count_78 rfl ⟨by unfold sp_count; rw [hix]; rfl, ((frM.refl _).trans (frM.scr (by unfold mn; omega)))⟩
  · refine o_aload_n dX9_count_0 rfl rfl ?_
    refine o_iconst (v := nI 0) dX9_count_1 (by decide) ?_
    refine o_putI dX9_count_2 flX9_39 sh_106 rfl ?_
    refine o_iload_n dX9_count_5 rfl rfl ?_
    refine o_tableOut (tgt := 79) dX9_count_6 (sw_out hout) (by decide) ?_
    refine o_iconst (v := (-1)) dX9_count_79 (by decide) ?_
    exact o_iret dX9_count_80 rfl ⟨by unfold sp_count; rw [hix], ((frM.refl _).trans (frM.scr (by unfold mn; omega)))⟩
