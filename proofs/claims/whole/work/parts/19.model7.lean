set_option maxHeartbeats 4000000 in
set_option maxRecDepth 100000 in
theorem c_strength {I : sm_I} {K : KT} (hK : MK I 107 0 K) (hok : okK K) {c : Nat} (hc : c < K.1) (h0 : 0 < K.2 c 4) : E0 1 mX9_strength [.ref 106, .int (nI c)] I (fun r I' => I' = I ∧ r = some (.float (cg_str (K.2 c 5) (K.2 c 4)))) := by
  have hn := hok.1
  have hq := hok.2 c hc
  have hT := hq.lT
  have hH := hq.l2
  have hw := hq.w
  have hUl : ∀ y, y ≤ 40 → cU K c y ≤ 67200 := fun y hy => hq.lU hy
  obtain ⟨q0, q1, q2, q3, q4, q5, q6, q7⟩ := id hq
  have hm := cg_str_mag (s := K.2 c 5) h0 (by omega)
  refine E0.of (by decide) (by simp [Value.category]) (Nat.le_of_ble_eq_true rfl) (fun ζ => ?_)
  refine o_aload_n dX9_strength_0 rfl rfl ?_
  refine o_iload_n dX9_strength_1 rfl rfl ?_
  refine o_iconst (v := nI 5) dX9_strength_2 (by decide) ?_
  refine o_callVp (v := .int (nI (K.2 c 5))) (as := [.int (nI c), .int (nI 5)]) (st := []) dX9_strength_3 (c_ofK (hK.frM (frM.refl _)) hn hc (by decide)) rfl meX9_of imX9_of seX9_of mlX9_103 sh_106 rfl rfl (by omega) (by decide) (Nat.le_of_ble_eq_true rfl) ?_
  refine o_i2f dX9_strength_6 ?_
  refine o_aload_n dX9_strength_7 rfl rfl ?_
  refine o_iload_n dX9_strength_8 rfl rfl ?_
  refine o_iconst (v := nI 4) dX9_strength_9 (by decide) ?_
  refine o_callVp (v := .int (nI (K.2 c 4))) (as := [.int (nI c), .int (nI 4)]) (st := [.float (FP.i2f (nI (K.2 c 5)))]) dX9_strength_10 (c_ofK (hK.frM (frM.refl _)) hn hc (by decide)) rfl meX9_of imX9_of seX9_of mlX9_103 sh_106 rfl rfl (by omega) (by decide) (Nat.le_of_ble_eq_true rfl) ?_
  refine o_i2f dX9_strength_13 ?_
  refine o_fdiv dX9_strength_14 (vf_of_mag hm (by decide)) ?_
  exact o_fret dX9_strength_15 rfl ⟨rfl, rfl⟩

theorem c_inY (I : sm_I) {v lo hi : Int32} (h1 : lo ≤ v) (h2 : v ≤ hi) : E0 0 mX9_in [.int v, .int lo, .int hi] I (fun r I' => I' = I ∧ r = some (.int (nI 1))) := by
  refine E0.mono (fun r I' h => ?_) (c_in I v lo hi)
  rcases h with ⟨rfl, ⟨-, -, rfl⟩ | ⟨h, -⟩⟩
  · exact ⟨rfl, rfl⟩
  · exact absurd ⟨h1, h2⟩ h
theorem c_inN (I : sm_I) {v lo hi : Int32} (h1 : ¬ (lo ≤ v ∧ v ≤ hi)) : E0 0 mX9_in [.int v, .int lo, .int hi] I (fun r I' => I' = I ∧ r = some (.int (nI 0))) := by
  refine E0.mono (fun r I' h => ?_) (c_in I v lo hi)
  rcases h with ⟨rfl, ⟨h2, h3, -⟩ | ⟨h, rfl⟩⟩
  · exact absurd ⟨h2, h3⟩ h1
  · exact ⟨rfl, rfl⟩
theorem in_outN {x : Int32} {n : Nat} (h : x < 0 ∨ nI (n + 1) ≤ x) (hn : n + 1 < 2 ^ 31 := by decide) : ¬ (nI 0 ≤ x ∧ x ≤ nI n) := by
  rintro ⟨h1, h2⟩
  rcases h with h | h
  · exact absurd h1 (Int32.not_le.mpr h)
  · have h3 := Int32.le_trans h h2
    rw [nI_leI hn (by omega)] at h3
    omega
theorem in_out9 {x : Int32} (h : x < 0 ∨ nI 9 ≤ x) : ¬ (nI 0 ≤ x ∧ x ≤ nI 8) := in_outN (n := 8) h

set_option maxHeartbeats 4000000 in
set_option maxRecDepth 100000 in
theorem m_cask {I : sm_I} {K : KT} (hK : MK I 107 0 K) (hok : okK K) (c w : Int32) : E0 6 mX9_cask [.ref 106, .int c, .int w] I (fun r I' => r = some (.int (sp_cask K c w)) ∧ frM I I') := by
  have hn := hok.1
  refine E0.of (by decide) (by simp [Value.category]) (Nat.le_of_ble_eq_true rfl) (fun ζ => ?_)
  rcases cg_ix_cases 9 (by decide) w with ⟨e, he, rfl, hiw⟩ | ⟨hiw, hout⟩
  · rcases (show e = 0 ∨ e = 1 ∨ e = 2 ∨ e = 3 ∨ e = 4 ∨ e = 5 ∨ e = 6 ∨ e = 7 ∨ e = 8 by omega) with rfl | rfl | rfl | rfl | rfl | rfl | rfl | rfl | rfl
    · refine o_aload_n dX9_cask_0 rfl rfl ?_
      refine o_iconst (v := nI 0) dX9_cask_1 (by decide) ?_
      refine o_putI dX9_cask_2 flX9_39 sh_106 rfl ?_
      refine o_aload_n dX9_cask_5 rfl rfl ?_
      refine o_iload_n dX9_cask_6 rfl rfl ?_
      refine o_callV (as := [.int c]) (st := []) dX9_cask_7 (c_isCask (hK.frM ((frM.refl _).trans (frM.scr (by unfold mn; omega)))) hok c) rfl meX9_isCask imX9_isCask seX9_isCask mlX9_127 sh_106 rfl rfl (by omega) (by decide) (Nat.le_of_ble_eq_true rfl) ?_
      rintro _ _ ⟨rfl, ⟨j, hj, rfl, rfl⟩ | ⟨hno, rfl⟩⟩
      · refine o_ifN_eq (tgt := 23) dX9_cask_10 (by decide) (by omega) (fun b_21 => absurd b_21 (by omega)) (fun b_21 => ?_)
        refine o_iload_n dX9_cask_13 rfl rfl ?_
        refine o_iconst (v := nI 0) dX9_cask_14 (by decide) ?_
        refine o_bipush (v := nI 8) dX9_cask_15 (by decide) ?_
        refine o_callSp (v := .int (nI 1)) (as := [.int (nI 0), .int (nI 0), .int (nI 8)]) (st := []) dX9_cask_17 (c_inY _ (by decide) (by decide)) rfl meX9_in ssX9_in mlX9_43 (by omega) (by decide) (Nat.le_of_ble_eq_true rfl) ?_
        refine o_ifN_ne (tgt := 25) dX9_cask_20 (by decide) (by omega) (fun b_22 => ?_) (fun b_22 => absurd b_22 (by omega))
        refine o_aload_n dX9_cask_25 rfl rfl ?_
        refine o_iload_n dX9_cask_26 rfl rfl ?_
        refine o_callV (as := [.int (nI j)]) (st := []) dX9_cask_27 (c_laysNow (hK.frM ((frM.refl _).trans (frM.scr (by unfold mn; omega)))) hok hj) rfl meX9_laysNow imX9_laysNow seX9_laysNow mlX9_120 sh_106 rfl rfl (by omega) (by decide) (Nat.le_of_ble_eq_true rfl) ?_
        rintro _ I1 ⟨rfl, hU1, hF1⟩
        have hq := hok.2 j hj
        have hT := hq.lT
        have hH := hq.l2
        have hw := hq.w
        have hUl : ∀ y, y ≤ 40 → cU K j y ≤ 67200 := fun y hy => hq.lU hy
        obtain ⟨q0, q1, q2, q3, q4, q5, q6, q7⟩ := id hq
        refine o_iload_n dX9_cask_30 rfl rfl ?_
        refine o_tableOut (tgt := 123) dX9_cask_31 (by decide) (by decide) ?_
        refine o_aload_n dX9_cask_123 rfl rfl ?_
        refine o_iload_n dX9_cask_124 rfl rfl ?_
        refine o_iload_n dX9_cask_125 rfl rfl ?_
        refine o_callVp (v := .int (nI (K.2 j 0))) (as := [.int (nI j), .int (nI 0)]) (st := []) dX9_cask_126 (c_ofK (hK.frM (((frM.refl _).trans (frM.scr (by unfold mn; omega))).trans hF1.M)) hn hj (by decide)) rfl meX9_of imX9_of seX9_of mlX9_103 sh_106 rfl rfl (by omega) (by decide) (Nat.le_of_ble_eq_true rfl) ?_
        exact o_iret dX9_cask_129 rfl ⟨by simp only [sp_cask, cg_ix_some hj (by omega : K.1 ≤ 2 ^ 31), hiw]; rw [if_pos (by decide)], (((frM.refl _).trans (frM.scr (by unfold mn; omega))).trans hF1.M)⟩
      · refine o_ifN_eq (tgt := 23) dX9_cask_10 (by decide) (by omega) (fun b_23 => ?_) (fun b_23 => absurd b_23 (by omega))
        refine o_iconst (v := (-1)) dX9_cask_23 (by decide) ?_
        exact o_iret dX9_cask_24 rfl ⟨by simp only [sp_cask, hno], ((frM.refl _).trans (frM.scr (by unfold mn; omega)))⟩
    · refine o_aload_n dX9_cask_0 rfl rfl ?_
      refine o_iconst (v := nI 0) dX9_cask_1 (by decide) ?_
      refine o_putI dX9_cask_2 flX9_39 sh_106 rfl ?_
      refine o_aload_n dX9_cask_5 rfl rfl ?_
      refine o_iload_n dX9_cask_6 rfl rfl ?_
      refine o_callV (as := [.int c]) (st := []) dX9_cask_7 (c_isCask (hK.frM ((frM.refl _).trans (frM.scr (by unfold mn; omega)))) hok c) rfl meX9_isCask imX9_isCask seX9_isCask mlX9_127 sh_106 rfl rfl (by omega) (by decide) (Nat.le_of_ble_eq_true rfl) ?_
      rintro _ _ ⟨rfl, ⟨j, hj, rfl, rfl⟩ | ⟨hno, rfl⟩⟩
      · refine o_ifN_eq (tgt := 23) dX9_cask_10 (by decide) (by omega) (fun b_24 => absurd b_24 (by omega)) (fun b_24 => ?_)
        refine o_iload_n dX9_cask_13 rfl rfl ?_
        refine o_iconst (v := nI 0) dX9_cask_14 (by decide) ?_
        refine o_bipush (v := nI 8) dX9_cask_15 (by decide) ?_
        refine o_callSp (v := .int (nI 1)) (as := [.int (nI 1), .int (nI 0), .int (nI 8)]) (st := []) dX9_cask_17 (c_inY _ (by decide) (by decide)) rfl meX9_in ssX9_in mlX9_43 (by omega) (by decide) (Nat.le_of_ble_eq_true rfl) ?_
        refine o_ifN_ne (tgt := 25) dX9_cask_20 (by decide) (by omega) (fun b_25 => ?_) (fun b_25 => absurd b_25 (by omega))
        refine o_aload_n dX9_cask_25 rfl rfl ?_
        refine o_iload_n dX9_cask_26 rfl rfl ?_
        refine o_callV (as := [.int (nI j)]) (st := []) dX9_cask_27 (c_laysNow (hK.frM ((frM.refl _).trans (frM.scr (by unfold mn; omega)))) hok hj) rfl meX9_laysNow imX9_laysNow seX9_laysNow mlX9_120 sh_106 rfl rfl (by omega) (by decide) (Nat.le_of_ble_eq_true rfl) ?_
        rintro _ I1 ⟨rfl, hU1, hF1⟩
        have hq := hok.2 j hj
        have hT := hq.lT
        have hH := hq.l2
        have hw := hq.w
        have hUl : ∀ y, y ≤ 40 → cU K j y ≤ 67200 := fun y hy => hq.lU hy
        obtain ⟨q0, q1, q2, q3, q4, q5, q6, q7⟩ := id hq
        refine o_iload_n dX9_cask_30 rfl rfl ?_
        refine o_tableOut (tgt := 123) dX9_cask_31 (by decide) (by decide) ?_
        refine o_aload_n dX9_cask_123 rfl rfl ?_
        refine o_iload_n dX9_cask_124 rfl rfl ?_
        refine o_iload_n dX9_cask_125 rfl rfl ?_
        refine o_callVp (v := .int (nI (K.2 j 1))) (as := [.int (nI j), .int (nI 1)]) (st := []) dX9_cask_126 (c_ofK (hK.frM (((frM.refl _).trans (frM.scr (by unfold mn; omega))).trans hF1.M)) hn hj (by decide)) rfl meX9_of imX9_of seX9_of mlX9_103 sh_106 rfl rfl (by omega) (by decide) (Nat.le_of_ble_eq_true rfl) ?_
        exact o_iret dX9_cask_129 rfl ⟨by simp only [sp_cask, cg_ix_some hj (by omega : K.1 ≤ 2 ^ 31), hiw]; rw [if_pos (by decide)], (((frM.refl _).trans (frM.scr (by unfold mn; omega))).trans hF1.M)⟩
      · refine o_ifN_eq (tgt := 23) dX9_cask_10 (by decide) (by omega) (fun b_26 => ?_) (fun b_26 => absurd b_26 (by omega))
        refine o_iconst (v := (-1)) dX9_cask_23 (by decide) ?_
        exact o_iret dX9_cask_24 rfl ⟨by simp only [sp_cask, hno], ((frM.refl _).trans (frM.scr (by unfold mn; omega)))⟩
    · refine o_aload_n dX9_cask_0 rfl rfl ?_
      refine o_iconst (v := nI 0) dX9_cask_1 (by decide) ?_
      refine o_putI dX9_cask_2 flX9_39 sh_106 rfl ?_
      refine o_aload_n dX9_cask_5 rfl rfl ?_
      refine o_iload_n dX9_cask_6 rfl rfl ?_
      refine o_callV (as := [.int c]) (st := []) dX9_cask_7 (c_isCask (hK.frM ((frM.refl _).trans (frM.scr (by unfold mn; omega)))) hok c) rfl meX9_isCask imX9_isCask seX9_isCask mlX9_127 sh_106 rfl rfl (by omega) (by decide) (Nat.le_of_ble_eq_true rfl) ?_
      rintro _ _ ⟨rfl, ⟨j, hj, rfl, rfl⟩ | ⟨hno, rfl⟩⟩
      · refine o_ifN_eq (tgt := 23) dX9_cask_10 (by decide) (by omega) (fun b_27 => absurd b_27 (by omega)) (fun b_27 => ?_)
        refine o_iload_n dX9_cask_13 rfl rfl ?_
        refine o_iconst (v := nI 0) dX9_cask_14 (by decide) ?_
        refine o_bipush (v := nI 8) dX9_cask_15 (by decide) ?_
        refine o_callSp (v := .int (nI 1)) (as := [.int (nI 2), .int (nI 0), .int (nI 8)]) (st := []) dX9_cask_17 (c_inY _ (by decide) (by decide)) rfl meX9_in ssX9_in mlX9_43 (by omega) (by decide) (Nat.le_of_ble_eq_true rfl) ?_
        refine o_ifN_ne (tgt := 25) dX9_cask_20 (by decide) (by omega) (fun b_28 => ?_) (fun b_28 => absurd b_28 (by omega))
        refine o_aload_n dX9_cask_25 rfl rfl ?_
        refine o_iload_n dX9_cask_26 rfl rfl ?_
        refine o_callV (as := [.int (nI j)]) (st := []) dX9_cask_27 (c_laysNow (hK.frM ((frM.refl _).trans (frM.scr (by unfold mn; omega)))) hok hj) rfl meX9_laysNow imX9_laysNow seX9_laysNow mlX9_120 sh_106 rfl rfl (by omega) (by decide) (Nat.le_of_ble_eq_true rfl) ?_
        rintro _ I1 ⟨rfl, hU1, hF1⟩
        have hq := hok.2 j hj
        have hT := hq.lT
        have hH := hq.l2
        have hw := hq.w
        have hUl : ∀ y, y ≤ 40 → cU K j y ≤ 67200 := fun y hy => hq.lU hy
        obtain ⟨q0, q1, q2, q3, q4, q5, q6, q7⟩ := id hq
        refine o_iload_n dX9_cask_30 rfl rfl ?_
        refine o_tableOut (tgt := 123) dX9_cask_31 (by decide) (by decide) ?_
        refine o_aload_n dX9_cask_123 rfl rfl ?_
        refine o_iload_n dX9_cask_124 rfl rfl ?_
        refine o_iload_n dX9_cask_125 rfl rfl ?_
        refine o_callVp (v := .int (nI (K.2 j 2))) (as := [.int (nI j), .int (nI 2)]) (st := []) dX9_cask_126 (c_ofK (hK.frM (((frM.refl _).trans (frM.scr (by unfold mn; omega))).trans hF1.M)) hn hj (by decide)) rfl meX9_of imX9_of seX9_of mlX9_103 sh_106 rfl rfl (by omega) (by decide) (Nat.le_of_ble_eq_true rfl) ?_
        exact o_iret dX9_cask_129 rfl ⟨by simp only [sp_cask, cg_ix_some hj (by omega : K.1 ≤ 2 ^ 31), hiw]; rw [if_pos (by decide)], (((frM.refl _).trans (frM.scr (by unfold mn; omega))).trans hF1.M)⟩
      · refine o_ifN_eq (tgt := 23) dX9_cask_10 (by decide) (by omega) (fun b_29 => ?_) (fun b_29 => absurd b_29 (by omega))
        refine o_iconst (v := (-1)) dX9_cask_23 (by decide) ?_
        exact o_iret dX9_cask_24 rfl ⟨by simp only [sp_cask, hno], ((frM.refl _).trans (frM.scr (by unfold mn; omega)))⟩
    · refine o_aload_n dX9_cask_0 rfl rfl ?_
      refine o_iconst (v := nI 0) dX9_cask_1 (by decide) ?_
      refine o_putI dX9_cask_2 flX9_39 sh_106 rfl ?_
      refine o_aload_n dX9_cask_5 rfl rfl ?_
      refine o_iload_n dX9_cask_6 rfl rfl ?_
      refine o_callV (as := [.int c]) (st := []) dX9_cask_7 (c_isCask (hK.frM ((frM.refl _).trans (frM.scr (by unfold mn; omega)))) hok c) rfl meX9_isCask imX9_isCask seX9_isCask mlX9_127 sh_106 rfl rfl (by omega) (by decide) (Nat.le_of_ble_eq_true rfl) ?_
      rintro _ _ ⟨rfl, ⟨j, hj, rfl, rfl⟩ | ⟨hno, rfl⟩⟩
      · refine o_ifN_eq (tgt := 23) dX9_cask_10 (by decide) (by omega) (fun b_30 => absurd b_30 (by omega)) (fun b_30 => ?_)
        refine o_iload_n dX9_cask_13 rfl rfl ?_
        refine o_iconst (v := nI 0) dX9_cask_14 (by decide) ?_
        refine o_bipush (v := nI 8) dX9_cask_15 (by decide) ?_
        refine o_callSp (v := .int (nI 1)) (as := [.int (nI 3), .int (nI 0), .int (nI 8)]) (st := []) dX9_cask_17 (c_inY _ (by decide) (by decide)) rfl meX9_in ssX9_in mlX9_43 (by omega) (by decide) (Nat.le_of_ble_eq_true rfl) ?_
        refine o_ifN_ne (tgt := 25) dX9_cask_20 (by decide) (by omega) (fun b_31 => ?_) (fun b_31 => absurd b_31 (by omega))
        refine o_aload_n dX9_cask_25 rfl rfl ?_
        refine o_iload_n dX9_cask_26 rfl rfl ?_
        refine o_callV (as := [.int (nI j)]) (st := []) dX9_cask_27 (c_laysNow (hK.frM ((frM.refl _).trans (frM.scr (by unfold mn; omega)))) hok hj) rfl meX9_laysNow imX9_laysNow seX9_laysNow mlX9_120 sh_106 rfl rfl (by omega) (by decide) (Nat.le_of_ble_eq_true rfl) ?_
        rintro _ I1 ⟨rfl, hU1, hF1⟩
        have hq := hok.2 j hj
        have hT := hq.lT
        have hH := hq.l2
        have hw := hq.w
        have hUl : ∀ y, y ≤ 40 → cU K j y ≤ 67200 := fun y hy => hq.lU hy
        obtain ⟨q0, q1, q2, q3, q4, q5, q6, q7⟩ := id hq
        refine o_iload_n dX9_cask_30 rfl rfl ?_
        refine o_tableOut (tgt := 123) dX9_cask_31 (by decide) (by decide) ?_
        refine o_aload_n dX9_cask_123 rfl rfl ?_
        refine o_iload_n dX9_cask_124 rfl rfl ?_
        refine o_iload_n dX9_cask_125 rfl rfl ?_
        refine o_callVp (v := .int (nI (K.2 j 3))) (as := [.int (nI j), .int (nI 3)]) (st := []) dX9_cask_126 (c_ofK (hK.frM (((frM.refl _).trans (frM.scr (by unfold mn; omega))).trans hF1.M)) hn hj (by decide)) rfl meX9_of imX9_of seX9_of mlX9_103 sh_106 rfl rfl (by omega) (by decide) (Nat.le_of_ble_eq_true rfl) ?_
        exact o_iret dX9_cask_129 rfl ⟨by simp only [sp_cask, cg_ix_some hj (by omega : K.1 ≤ 2 ^ 31), hiw]; rw [if_pos (by decide)], (((frM.refl _).trans (frM.scr (by unfold mn; omega))).trans hF1.M)⟩
      · refine o_ifN_eq (tgt := 23) dX9_cask_10 (by decide) (by omega) (fun b_32 => ?_) (fun b_32 => absurd b_32 (by omega))
        refine o_iconst (v := (-1)) dX9_cask_23 (by decide) ?_
        exact o_iret dX9_cask_24 rfl ⟨by simp only [sp_cask, hno], ((frM.refl _).trans (frM.scr (by unfold mn; omega)))⟩
    · refine o_aload_n dX9_cask_0 rfl rfl ?_
      refine o_iconst (v := nI 0) dX9_cask_1 (by decide) ?_
      refine o_putI dX9_cask_2 flX9_39 sh_106 rfl ?_
      refine o_aload_n dX9_cask_5 rfl rfl ?_
      refine o_iload_n dX9_cask_6 rfl rfl ?_
      refine o_callV (as := [.int c]) (st := []) dX9_cask_7 (c_isCask (hK.frM ((frM.refl _).trans (frM.scr (by unfold mn; omega)))) hok c) rfl meX9_isCask imX9_isCask seX9_isCask mlX9_127 sh_106 rfl rfl (by omega) (by decide) (Nat.le_of_ble_eq_true rfl) ?_
      rintro _ _ ⟨rfl, ⟨j, hj, rfl, rfl⟩ | ⟨hno, rfl⟩⟩
      · refine o_ifN_eq (tgt := 23) dX9_cask_10 (by decide) (by omega) (fun b_33 => absurd b_33 (by omega)) (fun b_33 => ?_)
        refine o_iload_n dX9_cask_13 rfl rfl ?_
        refine o_iconst (v := nI 0) dX9_cask_14 (by decide) ?_
        refine o_bipush (v := nI 8) dX9_cask_15 (by decide) ?_
        refine o_callSp (v := .int (nI 1)) (as := [.int (nI 4), .int (nI 0), .int (nI 8)]) (st := []) dX9_cask_17 (c_inY _ (by decide) (by decide)) rfl meX9_in ssX9_in mlX9_43 (by omega) (by decide) (Nat.le_of_ble_eq_true rfl) ?_
        refine o_ifN_ne (tgt := 25) dX9_cask_20 (by decide) (by omega) (fun b_34 => ?_) (fun b_34 => absurd b_34 (by omega))
        refine o_aload_n dX9_cask_25 rfl rfl ?_
        refine o_iload_n dX9_cask_26 rfl rfl ?_
        refine o_callV (as := [.int (nI j)]) (st := []) dX9_cask_27 (c_laysNow (hK.frM ((frM.refl _).trans (frM.scr (by unfold mn; omega)))) hok hj) rfl meX9_laysNow imX9_laysNow seX9_laysNow mlX9_120 sh_106 rfl rfl (by omega) (by decide) (Nat.le_of_ble_eq_true rfl) ?_
        rintro _ I1 ⟨rfl, hU1, hF1⟩
        have hq := hok.2 j hj
        have hT := hq.lT
        have hH := hq.l2
        have hw := hq.w
        have hUl : ∀ y, y ≤ 40 → cU K j y ≤ 67200 := fun y hy => hq.lU hy
        obtain ⟨q0, q1, q2, q3, q4, q5, q6, q7⟩ := id hq
        refine o_iload_n dX9_cask_30 rfl rfl ?_
        refine o_tableIn (off := 33) (tgt := 64) dX9_cask_31 (by decide) (by decide) (by decide) (by decide) ?_
        refine o_aload_n dX9_cask_64 rfl rfl ?_
        refine o_getR (b := 114) dX9_cask_65 fgX9_33 sh_106 rfl rfl ?_
        refine o_aload_n dX9_cask_68 rfl rfl ?_
        refine o_getI (v := nI (cT K j)) dX9_cask_69 fgX9_109 sh_106 rfl hU1.1 ?_
        refine o_ialdN (v := nI (cU K j (cT K j))) dX9_cask_72 sh_114 (by decide) (by omega) (hU1.2 (cT K j) (by omega)) ?_
        exact o_iret dX9_cask_73 rfl ⟨by simp only [sp_cask, cg_ix_some hj (by omega : K.1 ≤ 2 ^ 31), hiw]; rw [if_neg (by decide), if_pos trivial]; rfl, (((frM.refl _).trans (frM.scr (by unfold mn; omega))).trans hF1.M)⟩
      · refine o_ifN_eq (tgt := 23) dX9_cask_10 (by decide) (by omega) (fun b_35 => ?_) (fun b_35 => absurd b_35 (by omega))
        refine o_iconst (v := (-1)) dX9_cask_23 (by decide) ?_
        exact o_iret dX9_cask_24 rfl ⟨by simp only [sp_cask, hno], ((frM.refl _).trans (frM.scr (by unfold mn; omega)))⟩
    · refine o_aload_n dX9_cask_0 rfl rfl ?_
      refine o_iconst (v := nI 0) dX9_cask_1 (by decide) ?_
      refine o_putI dX9_cask_2 flX9_39 sh_106 rfl ?_
      refine o_aload_n dX9_cask_5 rfl rfl ?_
      refine o_iload_n dX9_cask_6 rfl rfl ?_
      refine o_callV (as := [.int c]) (st := []) dX9_cask_7 (c_isCask (hK.frM ((frM.refl _).trans (frM.scr (by unfold mn; omega)))) hok c) rfl meX9_isCask imX9_isCask seX9_isCask mlX9_127 sh_106 rfl rfl (by omega) (by decide) (Nat.le_of_ble_eq_true rfl) ?_
      rintro _ _ ⟨rfl, ⟨j, hj, rfl, rfl⟩ | ⟨hno, rfl⟩⟩
      · refine o_ifN_eq (tgt := 23) dX9_cask_10 (by decide) (by omega) (fun b_36 => absurd b_36 (by omega)) (fun b_36 => ?_)
        refine o_iload_n dX9_cask_13 rfl rfl ?_
        refine o_iconst (v := nI 0) dX9_cask_14 (by decide) ?_
        refine o_bipush (v := nI 8) dX9_cask_15 (by decide) ?_
        refine o_callSp (v := .int (nI 1)) (as := [.int (nI 5), .int (nI 0), .int (nI 8)]) (st := []) dX9_cask_17 (c_inY _ (by decide) (by decide)) rfl meX9_in ssX9_in mlX9_43 (by omega) (by decide) (Nat.le_of_ble_eq_true rfl) ?_
        refine o_ifN_ne (tgt := 25) dX9_cask_20 (by decide) (by omega) (fun b_37 => ?_) (fun b_37 => absurd b_37 (by omega))
        refine o_aload_n dX9_cask_25 rfl rfl ?_
        refine o_iload_n dX9_cask_26 rfl rfl ?_
        refine o_callV (as := [.int (nI j)]) (st := []) dX9_cask_27 (c_laysNow (hK.frM ((frM.refl _).trans (frM.scr (by unfold mn; omega)))) hok hj) rfl meX9_laysNow imX9_laysNow seX9_laysNow mlX9_120 sh_106 rfl rfl (by omega) (by decide) (Nat.le_of_ble_eq_true rfl) ?_
        rintro _ I1 ⟨rfl, hU1, hF1⟩
        have hq := hok.2 j hj
        have hT := hq.lT
        have hH := hq.l2
        have hw := hq.w
        have hUl : ∀ y, y ≤ 40 → cU K j y ≤ 67200 := fun y hy => hq.lU hy
        obtain ⟨q0, q1, q2, q3, q4, q5, q6, q7⟩ := id hq
        refine o_iload_n dX9_cask_30 rfl rfl ?_
        refine o_tableIn (off := 43) (tgt := 74) dX9_cask_31 (by decide) (by decide) (by decide) (by decide) ?_
        refine o_aload_n dX9_cask_74 rfl rfl ?_
        refine o_iload_n dX9_cask_75 rfl rfl ?_
        refine o_iconst (v := nI 4) dX9_cask_76 (by decide) ?_
        refine o_callVp (v := .int (nI (K.2 j 4))) (as := [.int (nI j), .int (nI 4)]) (st := []) dX9_cask_77 (c_ofK (hK.frM (((frM.refl _).trans (frM.scr (by unfold mn; omega))).trans hF1.M)) hn hj (by decide)) rfl meX9_of imX9_of seX9_of mlX9_103 sh_106 rfl rfl (by omega) (by decide) (Nat.le_of_ble_eq_true rfl) ?_
        exact o_iret dX9_cask_80 rfl ⟨by simp only [sp_cask, cg_ix_some hj (by omega : K.1 ≤ 2 ^ 31), hiw]; rw [if_neg (by decide), if_neg (by decide), if_pos trivial], (((frM.refl _).trans (frM.scr (by unfold mn; omega))).trans hF1.M)⟩
      · refine o_ifN_eq (tgt := 23) dX9_cask_10 (by decide) (by omega) (fun b_38 => ?_) (fun b_38 => absurd b_38 (by omega))
        refine o_iconst (v := (-1)) dX9_cask_23 (by decide) ?_
        exact o_iret dX9_cask_24 rfl ⟨by simp only [sp_cask, hno], ((frM.refl _).trans (frM.scr (by unfold mn; omega)))⟩
    · refine o_aload_n dX9_cask_0 rfl rfl ?_
      refine o_iconst (v := nI 0) dX9_cask_1 (by decide) ?_
      refine o_putI dX9_cask_2 flX9_39 sh_106 rfl ?_
      refine o_aload_n dX9_cask_5 rfl rfl ?_
      refine o_iload_n dX9_cask_6 rfl rfl ?_
      refine o_callV (as := [.int c]) (st := []) dX9_cask_7 (c_isCask (hK.frM ((frM.refl _).trans (frM.scr (by unfold mn; omega)))) hok c) rfl meX9_isCask imX9_isCask seX9_isCask mlX9_127 sh_106 rfl rfl (by omega) (by decide) (Nat.le_of_ble_eq_true rfl) ?_
      rintro _ _ ⟨rfl, ⟨j, hj, rfl, rfl⟩ | ⟨hno, rfl⟩⟩
      · refine o_ifN_eq (tgt := 23) dX9_cask_10 (by decide) (by omega) (fun b_39 => absurd b_39 (by omega)) (fun b_39 => ?_)
        refine o_iload_n dX9_cask_13 rfl rfl ?_
        refine o_iconst (v := nI 0) dX9_cask_14 (by decide) ?_
        refine o_bipush (v := nI 8) dX9_cask_15 (by decide) ?_
        refine o_callSp (v := .int (nI 1)) (as := [.int (nI 6), .int (nI 0), .int (nI 8)]) (st := []) dX9_cask_17 (c_inY _ (by decide) (by decide)) rfl meX9_in ssX9_in mlX9_43 (by omega) (by decide) (Nat.le_of_ble_eq_true rfl) ?_
        refine o_ifN_ne (tgt := 25) dX9_cask_20 (by decide) (by omega) (fun b_40 => ?_) (fun b_40 => absurd b_40 (by omega))
        refine o_aload_n dX9_cask_25 rfl rfl ?_
        refine o_iload_n dX9_cask_26 rfl rfl ?_
        refine o_callV (as := [.int (nI j)]) (st := []) dX9_cask_27 (c_laysNow (hK.frM ((frM.refl _).trans (frM.scr (by unfold mn; omega)))) hok hj) rfl meX9_laysNow imX9_laysNow seX9_laysNow mlX9_120 sh_106 rfl rfl (by omega) (by decide) (Nat.le_of_ble_eq_true rfl) ?_
        rintro _ I1 ⟨rfl, hU1, hF1⟩
        have hq := hok.2 j hj
        have hT := hq.lT
        have hH := hq.l2
        have hw := hq.w
        have hUl : ∀ y, y ≤ 40 → cU K j y ≤ 67200 := fun y hy => hq.lU hy
        obtain ⟨q0, q1, q2, q3, q4, q5, q6, q7⟩ := id hq
        refine o_iload_n dX9_cask_30 rfl rfl ?_
        refine o_tableIn (off := 50) (tgt := 81) dX9_cask_31 (by decide) (by decide) (by decide) (by decide) ?_
        refine o_aload_n dX9_cask_81 rfl rfl ?_
        refine o_iload_n dX9_cask_82 rfl rfl ?_
        refine o_iconst (v := nI 5) dX9_cask_83 (by decide) ?_
        refine o_callVp (v := .int (nI (K.2 j 5))) (as := [.int (nI j), .int (nI 5)]) (st := []) dX9_cask_84 (c_ofK (hK.frM (((frM.refl _).trans (frM.scr (by unfold mn; omega))).trans hF1.M)) hn hj (by decide)) rfl meX9_of imX9_of seX9_of mlX9_103 sh_106 rfl rfl (by omega) (by decide) (Nat.le_of_ble_eq_true rfl) ?_
        exact o_iret dX9_cask_87 rfl ⟨by simp only [sp_cask, cg_ix_some hj (by omega : K.1 ≤ 2 ^ 31), hiw]; rw [if_neg (by decide), if_neg (by decide), if_neg (by decide), if_pos trivial], (((frM.refl _).trans (frM.scr (by unfold mn; omega))).trans hF1.M)⟩
      · refine o_ifN_eq (tgt := 23) dX9_cask_10 (by decide) (by omega) (fun b_41 => ?_) (fun b_41 => absurd b_41 (by omega))
        refine o_iconst (v := (-1)) dX9_cask_23 (by decide) ?_
        exact o_iret dX9_cask_24 rfl ⟨by simp only [sp_cask, hno], ((frM.refl _).trans (frM.scr (by unfold mn; omega)))⟩
    · refine o_aload_n dX9_cask_0 rfl rfl ?_
      refine o_iconst (v := nI 0) dX9_cask_1 (by decide) ?_
      refine o_putI dX9_cask_2 flX9_39 sh_106 rfl ?_
      refine o_aload_n dX9_cask_5 rfl rfl ?_
      refine o_iload_n dX9_cask_6 rfl rfl ?_
      refine o_callV (as := [.int c]) (st := []) dX9_cask_7 (c_isCask (hK.frM ((frM.refl _).trans (frM.scr (by unfold mn; omega)))) hok c) rfl meX9_isCask imX9_isCask seX9_isCask mlX9_127 sh_106 rfl rfl (by omega) (by decide) (Nat.le_of_ble_eq_true rfl) ?_
      rintro _ _ ⟨rfl, ⟨j, hj, rfl, rfl⟩ | ⟨hno, rfl⟩⟩
      · refine o_ifN_eq (tgt := 23) dX9_cask_10 (by decide) (by omega) (fun b_42 => absurd b_42 (by omega)) (fun b_42 => ?_)
        refine o_iload_n dX9_cask_13 rfl rfl ?_
        refine o_iconst (v := nI 0) dX9_cask_14 (by decide) ?_
        refine o_bipush (v := nI 8) dX9_cask_15 (by decide) ?_
        refine o_callSp (v := .int (nI 1)) (as := [.int (nI 7), .int (nI 0), .int (nI 8)]) (st := []) dX9_cask_17 (c_inY _ (by decide) (by decide)) rfl meX9_in ssX9_in mlX9_43 (by omega) (by decide) (Nat.le_of_ble_eq_true rfl) ?_
        refine o_ifN_ne (tgt := 25) dX9_cask_20 (by decide) (by omega) (fun b_43 => ?_) (fun b_43 => absurd b_43 (by omega))
        refine o_aload_n dX9_cask_25 rfl rfl ?_
        refine o_iload_n dX9_cask_26 rfl rfl ?_
        refine o_callV (as := [.int (nI j)]) (st := []) dX9_cask_27 (c_laysNow (hK.frM ((frM.refl _).trans (frM.scr (by unfold mn; omega)))) hok hj) rfl meX9_laysNow imX9_laysNow seX9_laysNow mlX9_120 sh_106 rfl rfl (by omega) (by decide) (Nat.le_of_ble_eq_true rfl) ?_
        rintro _ I1 ⟨rfl, hU1, hF1⟩
        have hq := hok.2 j hj
        have hT := hq.lT
        have hH := hq.l2
        have hw := hq.w
        have hUl : ∀ y, y ≤ 40 → cU K j y ≤ 67200 := fun y hy => hq.lU hy
        obtain ⟨q0, q1, q2, q3, q4, q5, q6, q7⟩ := id hq
        refine o_iload_n dX9_cask_30 rfl rfl ?_
        refine o_tableIn (off := 57) (tgt := 88) dX9_cask_31 (by decide) (by decide) (by decide) (by decide) ?_
        refine o_aload_n dX9_cask_88 rfl rfl ?_
        refine o_aload_n dX9_cask_89 rfl rfl ?_
        refine o_iload_n dX9_cask_90 rfl rfl ?_
        refine o_iconst (v := nI 4) dX9_cask_91 (by decide) ?_
        refine o_callVp (v := .int (nI (K.2 j 4))) (as := [.int (nI j), .int (nI 4)]) (st := [.ref 106]) dX9_cask_92 (c_ofK (hK.frM (((frM.refl _).trans (frM.scr (by unfold mn; omega))).trans hF1.M)) hn hj (by decide)) rfl meX9_of imX9_of seX9_of mlX9_103 sh_106 rfl rfl (by omega) (by decide) (Nat.le_of_ble_eq_true rfl) ?_
        refine o_callVp (v := .int (nI (cg_dip (cU K j) (cT K j) (K.2 j 4)))) (as := [.int (nI (K.2 j 4))]) (st := []) dX9_cask_95 (c_dipOf (u := cU K j) (top := cT K j) hT hU1.2 (fun q hq => by have := hUl q (by omega); omega) hw) rfl meX9_dipOf imX9_dipOf seX9_dipOf mlX9_137 sh_106 rfl rfl (by omega) (by decide) (Nat.le_of_ble_eq_true rfl) ?_
        exact o_iret dX9_cask_98 rfl ⟨by simp only [sp_cask, cg_ix_some hj (by omega : K.1 ≤ 2 ^ 31), hiw]; rw [if_neg (by decide), if_neg (by decide), if_neg (by decide), if_neg (by decide), if_pos trivial], (((frM.refl _).trans (frM.scr (by unfold mn; omega))).trans hF1.M)⟩
      · refine o_ifN_eq (tgt := 23) dX9_cask_10 (by decide) (by omega) (fun b_44 => ?_) (fun b_44 => absurd b_44 (by omega))
        refine o_iconst (v := (-1)) dX9_cask_23 (by decide) ?_
        exact o_iret dX9_cask_24 rfl ⟨by simp only [sp_cask, hno], ((frM.refl _).trans (frM.scr (by unfold mn; omega)))⟩
    · refine o_aload_n dX9_cask_0 rfl rfl ?_
      refine o_iconst (v := nI 0) dX9_cask_1 (by decide) ?_
      refine o_putI dX9_cask_2 flX9_39 sh_106 rfl ?_
      refine o_aload_n dX9_cask_5 rfl rfl ?_
      refine o_iload_n dX9_cask_6 rfl rfl ?_
      refine o_callV (as := [.int c]) (st := []) dX9_cask_7 (c_isCask (hK.frM ((frM.refl _).trans (frM.scr (by unfold mn; omega)))) hok c) rfl meX9_isCask imX9_isCask seX9_isCask mlX9_127 sh_106 rfl rfl (by omega) (by decide) (Nat.le_of_ble_eq_true rfl) ?_
      rintro _ _ ⟨rfl, ⟨j, hj, rfl, rfl⟩ | ⟨hno, rfl⟩⟩
      · refine o_ifN_eq (tgt := 23) dX9_cask_10 (by decide) (by omega) (fun b_45 => absurd b_45 (by omega)) (fun b_45 => ?_)
        refine o_iload_n dX9_cask_13 rfl rfl ?_
        refine o_iconst (v := nI 0) dX9_cask_14 (by decide) ?_
        refine o_bipush (v := nI 8) dX9_cask_15 (by decide) ?_
        refine o_callSp (v := .int (nI 1)) (as := [.int (nI 8), .int (nI 0), .int (nI 8)]) (st := []) dX9_cask_17 (c_inY _ (by decide) (by decide)) rfl meX9_in ssX9_in mlX9_43 (by omega) (by decide) (Nat.le_of_ble_eq_true rfl) ?_
        refine o_ifN_ne (tgt := 25) dX9_cask_20 (by decide) (by omega) (fun b_46 => ?_) (fun b_46 => absurd b_46 (by omega))
        refine o_aload_n dX9_cask_25 rfl rfl ?_
        refine o_iload_n dX9_cask_26 rfl rfl ?_
        refine o_callV (as := [.int (nI j)]) (st := []) dX9_cask_27 (c_laysNow (hK.frM ((frM.refl _).trans (frM.scr (by unfold mn; omega)))) hok hj) rfl meX9_laysNow imX9_laysNow seX9_laysNow mlX9_120 sh_106 rfl rfl (by omega) (by decide) (Nat.le_of_ble_eq_true rfl) ?_
        rintro _ I1 ⟨rfl, hU1, hF1⟩
        have hq := hok.2 j hj
        have hT := hq.lT
        have hH := hq.l2
        have hw := hq.w
        have hUl : ∀ y, y ≤ 40 → cU K j y ≤ 67200 := fun y hy => hq.lU hy
        obtain ⟨q0, q1, q2, q3, q4, q5, q6, q7⟩ := id hq
        refine o_iload_n dX9_cask_30 rfl rfl ?_
        refine o_tableIn (off := 68) (tgt := 99) dX9_cask_31 (by decide) (by decide) (by decide) (by decide) ?_
        refine o_aload_n dX9_cask_99 rfl rfl ?_
        refine o_iload_n dX9_cask_100 rfl rfl ?_
        refine o_iconst (v := nI 4) dX9_cask_101 (by decide) ?_
        refine o_callVp (v := .int (nI (K.2 j 4))) (as := [.int (nI j), .int (nI 4)]) (st := []) dX9_cask_102 (c_ofK (hK.frM (((frM.refl _).trans (frM.scr (by unfold mn; omega))).trans hF1.M)) hn hj (by decide)) rfl meX9_of imX9_of seX9_of mlX9_103 sh_106 rfl rfl (by omega) (by decide) (Nat.le_of_ble_eq_true rfl) ?_
        refine o_ifN_ne (tgt := 113) dX9_cask_105 (by decide) (by omega) (fun b_47 => ?_) (fun b_47 => ?_)
        · refine o_ldcf dX9_cask_113 kfX9_140 ?_
          refine o_aload_n dX9_cask_115 rfl rfl ?_
          refine o_iload_n dX9_cask_116 rfl rfl ?_
          refine o_callVp (v := .float (cg_str (K.2 j 5) (K.2 j 4))) (as := [.int (nI j)]) (st := [.float 1148846080]) dX9_cask_117 (c_strength (hK.frM (((frM.refl _).trans (frM.scr (by unfold mn; omega))).trans hF1.M)) hok hj (by omega)) rfl meX9_strength imX9_strength seX9_strength mlX9_141 sh_106 rfl rfl (by omega) (by decide) (Nat.le_of_ble_eq_true rfl) ?_
          refine o_fmul dX9_cask_120 (cg_thou_mag (cg_str_mag (s := K.2 j 5) (by omega) (by omega)) (by decide)) ?_
          refine o_f2i dX9_cask_121 ?_
          exact o_iret dX9_cask_122 rfl ⟨by simp only [sp_cask, cg_ix_some hj (by omega : K.1 ≤ 2 ^ 31), hiw]; rw [if_neg (by decide), if_neg (by decide), if_neg (by decide), if_neg (by decide), if_neg (by decide), if_neg (by omega)]; rfl, (((frM.refl _).trans (frM.scr (by unfold mn; omega))).trans hF1.M)⟩
        · refine o_bipush (v := (-9)) dX9_cask_108 (by decide) ?_
          refine o_goto (tgt := 122) dX9_cask_110 (by decide) ?_
          exact o_iret dX9_cask_122 rfl ⟨by simp only [sp_cask, cg_ix_some hj (by omega : K.1 ≤ 2 ^ 31), hiw]; rw [if_neg (by decide), if_neg (by decide), if_neg (by decide), if_neg (by decide), if_neg (by decide), if_pos b_47], (((frM.refl _).trans (frM.scr (by unfold mn; omega))).trans hF1.M)⟩
      · refine o_ifN_eq (tgt := 23) dX9_cask_10 (by decide) (by omega) (fun b_48 => ?_) (fun b_48 => absurd b_48 (by omega))
        refine o_iconst (v := (-1)) dX9_cask_23 (by decide) ?_
        exact o_iret dX9_cask_24 rfl ⟨by simp only [sp_cask, hno], ((frM.refl _).trans (frM.scr (by unfold mn; omega)))⟩
  · refine o_aload_n dX9_cask_0 rfl rfl ?_
    refine o_iconst (v := nI 0) dX9_cask_1 (by decide) ?_
    refine o_putI dX9_cask_2 flX9_39 sh_106 rfl ?_
    refine o_aload_n dX9_cask_5 rfl rfl ?_
    refine o_iload_n dX9_cask_6 rfl rfl ?_
    refine o_callV (as := [.int c]) (st := []) dX9_cask_7 (c_isCask (hK.frM ((frM.refl _).trans (frM.scr (by unfold mn; omega)))) hok c) rfl meX9_isCask imX9_isCask seX9_isCask mlX9_127 sh_106 rfl rfl (by omega) (by decide) (Nat.le_of_ble_eq_true rfl) ?_
    rintro _ _ ⟨rfl, ⟨j, hj, rfl, rfl⟩ | ⟨hno, rfl⟩⟩
    · refine o_ifN_eq (tgt := 23) dX9_cask_10 (by decide) (by omega) (fun b_49 => absurd b_49 (by omega)) (fun b_49 => ?_)
      refine o_iload_n dX9_cask_13 rfl rfl ?_
      refine o_iconst (v := nI 0) dX9_cask_14 (by decide) ?_
      refine o_bipush (v := nI 8) dX9_cask_15 (by decide) ?_
      refine o_callSp (v := .int (nI 0)) (as := [.int w, .int (nI 0), .int (nI 8)]) (st := []) dX9_cask_17 (c_inN _ (in_out9 hout)) rfl meX9_in ssX9_in mlX9_43 (by omega) (by decide) (Nat.le_of_ble_eq_true rfl) ?_
      refine o_ifN_ne (tgt := 25) dX9_cask_20 (by decide) (by omega) (fun b_50 => absurd b_50 (by omega)) (fun b_50 => ?_)
      refine o_iconst (v := (-1)) dX9_cask_23 (by decide) ?_
      exact o_iret dX9_cask_24 rfl ⟨by simp only [sp_cask, cg_ix_some hj (by omega : K.1 ≤ 2 ^ 31), hiw], ((frM.refl _).trans (frM.scr (by unfold mn; omega)))⟩
    · refine o_ifN_eq (tgt := 23) dX9_cask_10 (by decide) (by omega) (fun b_51 => ?_) (fun b_51 => absurd b_51 (by omega))
      refine o_iconst (v := (-1)) dX9_cask_23 (by decide) ?_
      exact o_iret dX9_cask_24 rfl ⟨by simp only [sp_cask, hno], ((frM.refl _).trans (frM.scr (by unfold mn; omega)))⟩

theorem sl_cases {B : Nat} (hB1 : 1 ≤ B) (hB : B ≤ 20) (j : Int32) : (j = -1 ∧ -1 ≤ j ∧ j ≤ nI (2 * B - 1)) ∨ (∃ e, e < 2 * B ∧ j = nI e ∧ ¬ nI e = -1 ∧ -1 ≤ j ∧ j ≤ nI (2 * B - 1) ∧ cg_ix (2 * B) j = some e) ∨ (¬ j = -1 ∧ cg_ix (2 * B) j = none ∧ ¬ (-1 ≤ j ∧ j ≤ nI (2 * B - 1))) := by
  rcases cg_ix_cases (2 * B) (by omega) j with ⟨e, he, rfl, hx⟩ | ⟨hx, h⟩
  · right; left
    have h0 := nI_pos' (n := e) (by omega)
    refine ⟨e, he, rfl, fun q => ?_, Int32.le_trans (by decide) h0, nI_le (by omega) (by omega), hx⟩
    rw [q] at h0
    exact absurd h0 (by decide)
  · by_cases hm : j = -1
    · left
      subst hm
      exact ⟨rfl, by decide, Int32.le_trans (show (-1 : Int32) ≤ nI 0 by decide) (nI_le (by omega) (by omega))⟩
    · right; right
      refine ⟨hm, hx, ?_⟩
      rintro ⟨h1, h2⟩
      rcases h with h | h
      · have e1 := Int32.le_iff_toInt_le.mp h1
        have e2 := Int32.lt_iff_toInt_lt.mp h
        rw [Int32.toInt_zero] at e2
        have e3 : (-1 : Int32).toInt = -1 := by decide
        rw [e3] at e1
        exact hm (Int32.toInt.inj (by rw [e3]; omega))
      · have h3 := Int32.le_trans h h2
        rw [nI_leI (by omega) (by omega)] at h3
        omega

theorem isC_out9 {n : Nat} {c : Int32} (h0 : 1 ≤ n) (h : ¬ (nI 0 ≤ c ∧ c ≤ nI (n - 1))) (hn : n ≤ 12 := by omega) : cg_ix n c = none := by
  refine cg_ix_none (fun j hj e => h ?_)
  subst e
  exact ⟨nI_le (by omega) (by omega), nI_le (by omega) (by omega)⟩

set_option maxHeartbeats 4000000 in
set_option maxRecDepth 100000 in
theorem m_slice {I : sm_I} {K : KT} (hK : MK I 107 0 K) (hok : okK K) (c i z : Int32) : E0 6 mX9_slice [.ref 106, .int c, .int i, .int z] I (fun r I' => r = some (.int (sp_slice K c i z)) ∧ frM I I') := by
  have hn := hok.1
  refine E0.of (by decide) (by simp [Value.category]) (Nat.le_of_ble_eq_true rfl) (fun ζ => ?_)
  refine o_aload_n dX9_slice_0 rfl rfl ?_
  refine o_iconst (v := nI 0) dX9_slice_1 (by decide) ?_
  refine o_putI dX9_slice_2 flX9_39 sh_106 rfl ?_
  refine o_aload_n dX9_slice_5 rfl rfl ?_
  refine o_iload_n dX9_slice_6 rfl rfl ?_
  refine o_callV (as := [.int c]) (st := []) dX9_slice_7 (c_isCask (hK.frM ((frM.refl _).trans (frM.scr (by unfold mn; omega)))) hok c) rfl meX9_isCask imX9_isCask seX9_isCask mlX9_127 sh_106 rfl rfl (by omega) (by decide) (Nat.le_of_ble_eq_true rfl) ?_
  rintro _ _ ⟨rfl, ⟨j, hj, rfl, rfl⟩ | ⟨hno, rfl⟩⟩
  · refine o_ifN_eq (tgt := 47) dX9_slice_10 (by decide) (by omega) (fun b_52 => absurd b_52 (by omega)) (fun b_52 => ?_)
    refine o_iload_n dX9_slice_13 rfl rfl ?_
    refine o_iconst (v := nI 0) dX9_slice_14 (by decide) ?_
    refine o_aload_n dX9_slice_15 rfl rfl ?_
    refine o_iload_n dX9_slice_16 rfl rfl ?_
    refine o_iconst (v := nI 0) dX9_slice_17 (by decide) ?_
    refine o_callVp (v := .int (nI (K.2 j 0))) (as := [.int (nI j), .int (nI 0)]) (st := [.int (nI 0), .int i]) dX9_slice_18 (c_ofK (hK.frM ((frM.refl _).trans (frM.scr (by unfold mn; omega)))) hn hj (by decide)) rfl meX9_of imX9_of seX9_of mlX9_103 sh_106 rfl rfl (by omega) (by decide) (Nat.le_of_ble_eq_true rfl) ?_
    have hq := hok.2 j hj
    have hT := hq.lT
    have hH := hq.l2
    have hw := hq.w
    have hUl : ∀ y, y ≤ 40 → cU K j y ≤ 67200 := fun y hy => hq.lU hy
    obtain ⟨q0, q1, q2, q3, q4, q5, q6, q7⟩ := id hq
    refine o_iconst (v := nI 1) dX9_slice_21 (by decide) ?_
    refine o_isubN dX9_slice_22 (by omega) ?_
    refine o_callS (as := [.int i, .int (nI 0), .int (nI ((K.2 j 0) - 1))]) (st := []) dX9_slice_23 (c_in _ _ _ _) rfl meX9_in ssX9_in mlX9_43 (by omega) (by decide) (Nat.le_of_ble_eq_true rfl) ?_
    rintro _ _ ⟨rfl, ⟨hpa, hpb, rfl⟩ | ⟨hno2, rfl⟩⟩
    · obtain ⟨p, hp1, hp2, rfl⟩ := in_nat (by omega) (by omega) hpa hpb
      refine o_ifN_eq (tgt := 47) dX9_slice_26 (by decide) (by omega) (fun b_53 => absurd b_53 (by omega)) (fun b_53 => ?_)
      have hpS : p < K.2 j 0 := by omega
      rcases sl_cases (by omega : 1 ≤ K.2 j 2) q4 z with ⟨rfl, hz1, hz2⟩ | ⟨e, he, rfl, hne, hz1, hz2, hx⟩ | ⟨hne, hx, hz⟩
      · refine o_iload_n dX9_slice_29 rfl rfl ?_
        refine o_iconst (v := (-1)) dX9_slice_30 (by decide) ?_
        refine o_iconst (v := nI 2) dX9_slice_31 (by decide) ?_
        refine o_aload_n dX9_slice_32 rfl rfl ?_
        refine o_iload_n dX9_slice_33 rfl rfl ?_
        refine o_iconst (v := nI 2) dX9_slice_34 (by decide) ?_
        refine o_callVp (v := .int (nI (K.2 j 2))) (as := [.int (nI j), .int (nI 2)]) (st := [.int (nI 2), .int (-1), .int (-1)]) dX9_slice_35 (c_ofK (hK.frM ((frM.refl _).trans (frM.scr (by unfold mn; omega)))) hn hj (by decide)) rfl meX9_of imX9_of seX9_of mlX9_103 sh_106 rfl rfl (by omega) (by decide) (Nat.le_of_ble_eq_true rfl) ?_
        refine o_imulN dX9_slice_38 ?_
        refine o_iconst (v := nI 1) dX9_slice_39 (by decide) ?_
        refine o_isubN dX9_slice_40 (by omega) ?_
        refine o_callSp (v := .int (nI 1)) (as := [.int (-1), .int (-1), .int (nI ((2 * (K.2 j 2)) - 1))]) (st := []) dX9_slice_41 (c_inY _ hz1 hz2) rfl meX9_in ssX9_in mlX9_43 (by omega) (by decide) (Nat.le_of_ble_eq_true rfl) ?_
        refine o_ifN_ne (tgt := 49) dX9_slice_44 (by decide) (by omega) (fun b_54 => ?_) (fun b_54 => absurd b_54 (by omega))
        refine o_iload_n dX9_slice_49 rfl rfl ?_
        refine o_iconst (v := (-1)) dX9_slice_50 (by decide) ?_
        refine o_icmp_ne (tgt := 63) dX9_slice_51 (by decide) (fun b_55 => absurd b_55 (fun q => q rfl)) (fun b_55 => ?_)
        refine o_aload_n dX9_slice_54 rfl rfl ?_
        refine o_iload_n dX9_slice_55 rfl rfl ?_
        refine o_iload_n dX9_slice_56 rfl rfl ?_
        refine o_callVp (v := .int (nI (cg_rad (K.2 j 0) (K.2 j 1) (K.2 j 2) p))) (as := [.int (nI j), .int (nI p)]) (st := []) dX9_slice_57 (c_radius (hK.frM ((frM.refl _).trans (frM.scr (by unfold mn; omega)))) hok hj hpS) rfl meX9_radius imX9_radius seX9_radius mlX9_106 sh_106 rfl rfl (by omega) (by decide) (Nat.le_of_ble_eq_true rfl) ?_
        refine o_goto (tgt := 70) dX9_slice_60 (by decide) ?_
        exact o_iret dX9_slice_70 rfl ⟨by simp only [sp_slice, cg_ix_some hj (by omega : K.1 ≤ 2 ^ 31), cg_ix_some hpS (by omega : K.2 j 0 ≤ 2 ^ 31), if_pos trivial], ((frM.refl _).trans (frM.scr (by unfold mn; omega)))⟩
      · refine o_iload_n dX9_slice_29 rfl rfl ?_
        refine o_iconst (v := (-1)) dX9_slice_30 (by decide) ?_
        refine o_iconst (v := nI 2) dX9_slice_31 (by decide) ?_
        refine o_aload_n dX9_slice_32 rfl rfl ?_
        refine o_iload_n dX9_slice_33 rfl rfl ?_
        refine o_iconst (v := nI 2) dX9_slice_34 (by decide) ?_
        refine o_callVp (v := .int (nI (K.2 j 2))) (as := [.int (nI j), .int (nI 2)]) (st := [.int (nI 2), .int (-1), .int (nI e)]) dX9_slice_35 (c_ofK (hK.frM ((frM.refl _).trans (frM.scr (by unfold mn; omega)))) hn hj (by decide)) rfl meX9_of imX9_of seX9_of mlX9_103 sh_106 rfl rfl (by omega) (by decide) (Nat.le_of_ble_eq_true rfl) ?_
        refine o_imulN dX9_slice_38 ?_
        refine o_iconst (v := nI 1) dX9_slice_39 (by decide) ?_
        refine o_isubN dX9_slice_40 (by omega) ?_
        refine o_callSp (v := .int (nI 1)) (as := [.int (nI e), .int (-1), .int (nI ((2 * (K.2 j 2)) - 1))]) (st := []) dX9_slice_41 (c_inY _ hz1 hz2) rfl meX9_in ssX9_in mlX9_43 (by omega) (by decide) (Nat.le_of_ble_eq_true rfl) ?_
        refine o_ifN_ne (tgt := 49) dX9_slice_44 (by decide) (by omega) (fun b_56 => ?_) (fun b_56 => absurd b_56 (by omega))
        refine o_iload_n dX9_slice_49 rfl rfl ?_
        refine o_iconst (v := (-1)) dX9_slice_50 (by decide) ?_
        refine o_icmp_ne (tgt := 63) dX9_slice_51 (by decide) (fun b_57 => ?_) (fun b_57 => absurd b_57 (fun q => hne q))
        refine o_aload_n dX9_slice_63 rfl rfl ?_
        refine o_iload_n dX9_slice_64 rfl rfl ?_
        refine o_iload_n dX9_slice_65 rfl rfl ?_
        refine o_iload_n dX9_slice_66 rfl rfl ?_
        refine o_callVp (v := .int (nI (cg_cell (K.2 j 0) (K.2 j 1) (K.2 j 2) p e))) (as := [.int (nI j), .int (nI p), .int (nI e)]) (st := []) dX9_slice_67 (c_cellsOf (hK.frM ((frM.refl _).trans (frM.scr (by unfold mn; omega)))) hok hj hpS he) rfl meX9_cellsOf imX9_cellsOf seX9_cellsOf mlX9_112 sh_106 rfl rfl (by omega) (by decide) (Nat.le_of_ble_eq_true rfl) ?_
        exact o_iret dX9_slice_70 rfl ⟨by simp only [sp_slice, cg_ix_some hj (by omega : K.1 ≤ 2 ^ 31), cg_ix_some hpS (by omega : K.2 j 0 ≤ 2 ^ 31), if_neg hne, hx], ((frM.refl _).trans (frM.scr (by unfold mn; omega)))⟩
      · refine o_iload_n dX9_slice_29 rfl rfl ?_
        refine o_iconst (v := (-1)) dX9_slice_30 (by decide) ?_
        refine o_iconst (v := nI 2) dX9_slice_31 (by decide) ?_
        refine o_aload_n dX9_slice_32 rfl rfl ?_
        refine o_iload_n dX9_slice_33 rfl rfl ?_
        refine o_iconst (v := nI 2) dX9_slice_34 (by decide) ?_
        refine o_callVp (v := .int (nI (K.2 j 2))) (as := [.int (nI j), .int (nI 2)]) (st := [.int (nI 2), .int (-1), .int z]) dX9_slice_35 (c_ofK (hK.frM ((frM.refl _).trans (frM.scr (by unfold mn; omega)))) hn hj (by decide)) rfl meX9_of imX9_of seX9_of mlX9_103 sh_106 rfl rfl (by omega) (by decide) (Nat.le_of_ble_eq_true rfl) ?_
        refine o_imulN dX9_slice_38 ?_
        refine o_iconst (v := nI 1) dX9_slice_39 (by decide) ?_
        refine o_isubN dX9_slice_40 (by omega) ?_
        refine o_callSp (v := .int (nI 0)) (as := [.int z, .int (-1), .int (nI ((2 * (K.2 j 2)) - 1))]) (st := []) dX9_slice_41 (c_inN _ hz) rfl meX9_in ssX9_in mlX9_43 (by omega) (by decide) (Nat.le_of_ble_eq_true rfl) ?_
        refine o_ifN_ne (tgt := 49) dX9_slice_44 (by decide) (by omega) (fun b_58 => absurd b_58 (by omega)) (fun b_58 => ?_)
        refine o_iconst (v := (-1)) dX9_slice_47 (by decide) ?_
        exact o_iret dX9_slice_48 rfl ⟨by simp only [sp_slice, cg_ix_some hj (by omega : K.1 ≤ 2 ^ 31), cg_ix_some hpS (by omega : K.2 j 0 ≤ 2 ^ 31), if_neg hne, hx], ((frM.refl _).trans (frM.scr (by unfold mn; omega)))⟩
    · refine o_ifN_eq (tgt := 47) dX9_slice_26 (by decide) (by omega) (fun b_59 => ?_) (fun b_59 => absurd b_59 (by omega))
      refine o_iconst (v := (-1)) dX9_slice_47 (by decide) ?_
      exact o_iret dX9_slice_48 rfl ⟨by simp only [sp_slice, cg_ix_some hj (by omega : K.1 ≤ 2 ^ 31), isC_out9 q0 hno2], ((frM.refl _).trans (frM.scr (by unfold mn; omega)))⟩
  · refine o_ifN_eq (tgt := 47) dX9_slice_10 (by decide) (by omega) (fun b_60 => ?_) (fun b_60 => absurd b_60 (by omega))
    refine o_iconst (v := (-1)) dX9_slice_47 (by decide) ?_
    exact o_iret dX9_slice_48 rfl ⟨by simp only [sp_slice, hno], ((frM.refl _).trans (frM.scr (by unfold mn; omega)))⟩
