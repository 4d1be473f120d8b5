theorem isC_in {n : Nat} {c : Int32} (hn : n ≤ 4) (h1 : nI 0 ≤ c) (h2 : c ≤ nI n - nI 1) : ∃ j, j < n ∧ c = nI j ∧ some (Value.int (nI 1)) = some (.int (nI 1)) := by
  cases n with
  | zero =>
    exfalso
    have h3 := Int32.le_trans h1 h2
    exact absurd h3 (by decide)
  | succ n =>
    rw [nI_succ, show nI n + 1 - nI 1 = nI n from by rw [← nI_succ]; exact nI_pred n] at h2
    obtain ⟨j, -, hj, rfl⟩ := in_nat (by omega) (by omega) h1 h2
    exact ⟨j, by omega, rfl, rfl⟩
theorem isC_out {n : Nat} {c : Int32} (hn : n ≤ 4) (h : ¬ (nI 0 ≤ c ∧ c ≤ nI n - nI 1)) : cg_ix n c = none := by
  refine cg_ix_none (fun j hj e => h ?_)
  subst e
  refine ⟨nI_le (by omega) (by omega), ?_⟩
  rw [pk_sub (by omega)]
  exact nI_le (by omega) (by omega)

/-- what lays() of a cask leaves -/
def MC (I : sm_I) (K : KT) (c : Nat) : Prop := I 106 17 = nI (cT K c) ∧ ∀ q, q ≤ cT K c → I 114 q = nI (cU K c q)

set_option maxHeartbeats 4000000 in
set_option maxRecDepth 100000 in
theorem c_isCask {I : sm_I} {K : KT} (hK : MK I 107 0 K) (hok : okK K) (c : Int32) : E0 1 mX9_isCask [.ref 106, .int c] I (fun r I' => I' = I ∧ ((∃ j, j < K.1 ∧ c = nI j ∧ r = some (.int (nI 1))) ∨ (cg_ix K.1 c = none ∧ r = some (.int (nI 0))))) := by
  have hn := hok.1
  refine E0.of (by decide) (by simp [Value.category]) (Nat.le_of_ble_eq_true rfl) (fun ζ => ?_)
  refine o_iload_n dX9_isCask_0 rfl rfl ?_
  refine o_iconst (v := nI 0) dX9_isCask_1 (by decide) ?_
  refine o_aload_n dX9_isCask_2 rfl rfl ?_
  refine o_getR (b := 107) dX9_isCask_3 fgX9_7 sh_106 rfl rfl ?_
  refine o_bipush (v := nI 24) dX9_isCask_6 (by decide) ?_
  refine o_ialdN (v := nI K.1) dX9_isCask_8 sh_107 (by decide) (by omega) hK.n0 ?_
  refine o_iconst (v := nI 1) dX9_isCask_9 (by decide) ?_
  refine o_isub dX9_isCask_10 ?_
  refine o_callS (as := [.int c, .int (nI 0), .int ((nI K.1) - (nI 1))]) (st := []) dX9_isCask_11 (c_in _ _ _ _) rfl meX9_in ssX9_in mlX9_43 (by omega) (by decide) (Nat.le_of_ble_eq_true rfl) ?_
  rintro _ _ ⟨rfl, ⟨h1, h2, rfl⟩ | ⟨h, rfl⟩⟩
  · exact o_zret dX9_isCask_14 rfl (by decide) ⟨rfl, Or.inl (isC_in hn h1 h2)⟩
  · exact o_zret dX9_isCask_14 rfl (by decide) ⟨rfl, Or.inr ⟨isC_out hn h, rfl⟩⟩

set_option maxHeartbeats 4000000 in
set_option maxRecDepth 100000 in
theorem c_laysNow {I : sm_I} {K : KT} (hK : MK I 107 0 K) (hok : okK K) {c : Nat} (hc : c < K.1) : E0 4 mX9_laysNow [.ref 106, .int (nI c)] I (fun r I' => r = none ∧ MC I' K c ∧ frU I I') := by
  have hn := hok.1
  have hq := hok.2 c hc
  have hT := hq.lT
  have hH := hq.lH
  have hw := hq.w
  have hUl : ∀ y, y ≤ 40 → cU K c y ≤ 67200 := fun y hy => hq.lU hy
  obtain ⟨q0, q1, q2, q3, q4, q5, q6, q7⟩ := id hq
  refine E0.of (by decide) (by simp [Value.category]) (Nat.le_of_ble_eq_true rfl) (fun ζ => ?_)
  refine o_aload_n dX9_laysNow_0 rfl rfl ?_
  refine o_iload_n dX9_laysNow_1 rfl rfl ?_
  refine o_aload_n dX9_laysNow_2 rfl rfl ?_
  refine o_iload_n dX9_laysNow_3 rfl rfl ?_
  refine o_iconst (v := nI 3) dX9_laysNow_4 (by decide) ?_
  refine o_callVp (v := .int (nI (K.2 c 3))) (as := [.int (nI c), .int (nI 3)]) (st := [.int (nI c), .ref 106]) dX9_laysNow_5 (c_ofK (hK.frM (frM.refl _)) hn hc (by decide)) rfl meX9_of imX9_of seX9_of mlX9_103 sh_106 rfl rfl (by omega) (by decide) (Nat.le_of_ble_eq_true rfl) ?_
  refine o_iconst (v := nI 1) dX9_laysNow_8 (by decide) ?_
  refine o_icmpN_ne (tgt := 16) dX9_laysNow_9 (by decide) (by omega) (by omega) (fun b_1 => ?_) (fun b_1 => ?_)
  · refine o_iconst (v := nI 0) dX9_laysNow_16 (by decide) ?_
    refine o_callV (as := [.int (nI c), .int (nI 0)]) (st := []) dX9_laysNow_17 (c_lays0 hok hc (hK.frM (frM.refl _))) rfl meX9_lays imX9_lays seX9_lays mlX9_116 sh_106 rfl rfl (by omega) (by decide) (Nat.le_of_ble_eq_true rfl) ?_
    rintro _ I1 ⟨rfl, hU1, hF1⟩
    exact o_vret dX9_laysNow_20 rfl ⟨rfl, by unfold MC cT cU; rw [show K.2 c 3 = 0 by omega]; exact hU1, hF1⟩
  · refine o_iconst (v := nI 1) dX9_laysNow_12 (by decide) ?_
    refine o_goto (tgt := 17) dX9_laysNow_13 (by decide) ?_
    refine o_callV (as := [.int (nI c), .int (nI 1)]) (st := []) dX9_laysNow_17 (c_lays1 hok hc (hK.frM (frM.refl _))) rfl meX9_lays imX9_lays seX9_lays mlX9_116 sh_106 rfl rfl (by omega) (by decide) (Nat.le_of_ble_eq_true rfl) ?_
    rintro _ I1 ⟨rfl, hU1, hF1⟩
    exact o_vret dX9_laysNow_20 rfl ⟨rfl, by unfold MC cT cU; rw [b_1]; exact hU1, hF1⟩

theorem lp_dipOf {ζ : sm_Z} {d : Nat} {I : sm_I} {Q : Option Value → sm_I → Prop} {u : Nat → Nat} {top n : Nat} (ht : top ≤ 40) (hU : ∀ q, q ≤ top → I 114 q = nI (u q)) (hu : ∀ q, q ≤ top → u q < 2 ^ 31) (hn : n ≤ u top) (hq : Q (some (.int (nI (cg_dip u top n)))) I) : ∀ f y : Nat, y + f = top → cg_dp u n f y = cg_dip u top n → X0 ζ d mX9_dipOf 2 [some (.ref 106), some (.int (nI n)), some (.int (nI y))] [] I Q := by
  have hnl : n < 2 ^ 31 := Nat.lt_of_le_of_lt hn (hu top (Nat.le_refl _))
  intro f
  induction f with
  | zero =>
    intro y hy he
    have hyy : y = top := by omega
    have hul := hu y (by omega)
    have hny : n ≤ u y := by rw [hyy]; exact hn
    rw [cg_dp] at he
    rw [← he] at hq
    refine o_aload_n dX9_dipOf_2 rfl rfl ?_
    refine o_getR (b := 114) dX9_dipOf_3 fgX9_33 sh_106 rfl rfl ?_
    refine o_iload_n dX9_dipOf_6 rfl rfl ?_
    refine o_ialdN (v := nI (u y)) dX9_dipOf_7 sh_114 (by decide) (by omega) (hU y (by omega)) ?_
    refine o_iload_n dX9_dipOf_8 rfl rfl ?_
    refine o_icmpN_ge (tgt := 18) dX9_dipOf_9 (by decide) (by omega) (by omega) (fun b_4 => ?_) (fun b_4 => absurd b_4 (by omega))
    refine o_iload_n dX9_dipOf_18 rfl rfl ?_
    exact o_iret dX9_dipOf_19 rfl hq
  | succ f ih =>
    intro y hy he
    have hul := hu y (by omega)
    rw [cg_dp] at he
    refine o_aload_n dX9_dipOf_2 rfl rfl ?_
    refine o_getR (b := 114) dX9_dipOf_3 fgX9_33 sh_106 rfl rfl ?_
    refine o_iload_n dX9_dipOf_6 rfl rfl ?_
    refine o_ialdN (v := nI (u y)) dX9_dipOf_7 sh_114 (by decide) (by omega) (hU y (by omega)) ?_
    refine o_iload_n dX9_dipOf_8 rfl rfl ?_
    refine o_icmpN_ge (tgt := 18) dX9_dipOf_9 (by decide) (by omega) (by omega) (fun b_3 => ?_) (fun b_3 => ?_)
    · refine o_iload_n dX9_dipOf_18 rfl rfl ?_
      exact o_iret dX9_dipOf_19 rfl (by rw [if_pos (by omega)] at he; rw [← he] at hq; exact hq)
    · refine o_iincN (w := 1) dX9_dipOf_12 rfl (by decide) (by decide) ?_
      refine o_goto (tgt := 2) dX9_dipOf_15 (by decide) ?_
      exact ih (y + 1) (by omega) (by rw [if_neg (by omega)] at he; exact he)
theorem c_dipOf {I : sm_I} {u : Nat → Nat} {top n : Nat} (ht : top ≤ 40) (hU : ∀ q, q ≤ top → I 114 q = nI (u q)) (hu : ∀ q, q ≤ top → u q < 2 ^ 31) (hn : n ≤ u top) : E0 0 mX9_dipOf [.ref 106, .int (nI n)] I (fun r I' => I' = I ∧ r = some (.int (nI (cg_dip u top n)))) := by
  refine E0.of (by decide) (by simp [Value.category]) (Nat.le_of_ble_eq_true rfl) (fun ζ => ?_)
  refine o_iconst (v := nI 0) dX9_dipOf_0 (by decide) ?_
  refine o_istore_n dX9_dipOf_1 rfl (by decide) ?_
  exact lp_dipOf ht hU hu hn ⟨rfl, rfl⟩ top 0 (by omega) rfl

set_option maxHeartbeats 4000000 in
set_option maxRecDepth 100000 in
theorem c_hold {I : sm_I} {K : KT} (hK : MK I 107 0 K) (hok : okK K) {c : Nat} (hc : c < K.1) : E0 5 mX9_hold [.ref 106, .int (nI c)] I (fun r I' => r = some (.int (nI (cH K c))) ∧ MC I' K c ∧ frU I I') := by
  have hn := hok.1
  have hq := hok.2 c hc
  have hT := hq.lT
  have hH := hq.lH
  have hw := hq.w
  have hUl : ∀ y, y ≤ 40 → cU K c y ≤ 67200 := fun y hy => hq.lU hy
  obtain ⟨q0, q1, q2, q3, q4, q5, q6, q7⟩ := id hq
  refine E0.of (by decide) (by simp [Value.category]) (Nat.le_of_ble_eq_true rfl) (fun ζ => ?_)
  refine o_aload_n dX9_hold_0 rfl rfl ?_
  refine o_iload_n dX9_hold_1 rfl rfl ?_
  refine o_callV (as := [.int (nI c)]) (st := []) dX9_hold_2 (c_laysNow (hK.frM (frM.refl _)) hok hc) rfl meX9_laysNow imX9_laysNow seX9_laysNow mlX9_120 sh_106 rfl rfl (by omega) (by decide) (Nat.le_of_ble_eq_true rfl) ?_
  rintro _ I1 ⟨rfl, hU1, hF1⟩
  refine o_aload_n dX9_hold_5 rfl rfl ?_
  refine o_getR (b := 114) dX9_hold_6 fgX9_33 sh_106 rfl rfl ?_
  refine o_aload_n dX9_hold_9 rfl rfl ?_
  refine o_getI (v := nI (cT K c)) dX9_hold_10 fgX9_109 sh_106 rfl hU1.1 ?_
  refine o_ialdN (v := nI (cU K c (cT K c))) dX9_hold_13 sh_114 (by decide) (by omega) (hU1.2 (cT K c) (by omega)) ?_
  exact o_iret dX9_hold_14 rfl ⟨rfl, hU1, hF1⟩

set_option maxHeartbeats 4000000 in
set_option maxRecDepth 100000 in
theorem c_isHeight {I : sm_I} {K : KT} (hK : MK I 107 0 K) (hok : okK K) (c y : Int32) : E0 5 mX9_isHeight [.ref 106, .int c, .int y] I (fun r I' => frM I I' ∧ ((∃ j q, j < K.1 ∧ c = nI j ∧ q ≤ cT K j ∧ y = nI q ∧ MC I' K j ∧ sp_h K c y = some (j, q) ∧ r = some (.int (nI 1))) ∨ (sp_h K c y = none ∧ r = some (.int (nI 0))))) := by
  have hn := hok.1
  refine E0.of (by decide) (by simp [Value.category]) (Nat.le_of_ble_eq_true rfl) (fun ζ => ?_)
  refine o_aload_n dX9_isHeight_0 rfl rfl ?_
  refine o_iload_n dX9_isHeight_1 rfl rfl ?_
  refine o_callV (as := [.int c]) (st := []) dX9_isHeight_2 (c_isCask (hK.frM (frM.refl _)) hok c) rfl meX9_isCask imX9_isCask seX9_isCask mlX9_127 sh_106 rfl rfl (by omega) (by decide) (Nat.le_of_ble_eq_true rfl) ?_
  rintro _ _ ⟨rfl, ⟨j, hj, rfl, rfl⟩ | ⟨hno, rfl⟩⟩
  · refine o_ifN_ne (tgt := 10) dX9_isHeight_5 (by decide) (by omega) (fun b_5 => ?_) (fun b_5 => absurd b_5 (by omega))
    refine o_aload_n dX9_isHeight_10 rfl rfl ?_
    refine o_iload_n dX9_isHeight_11 rfl rfl ?_
    refine o_callV (as := [.int (nI j)]) (st := []) dX9_isHeight_12 (c_laysNow (hK.frM (frM.refl _)) hok hj) rfl meX9_laysNow imX9_laysNow seX9_laysNow mlX9_120 sh_106 rfl rfl (by omega) (by decide) (Nat.le_of_ble_eq_true rfl) ?_
    rintro _ I1 ⟨rfl, hU1, hF1⟩
    have hq := hok.2 j hj
    have hT := hq.lT
    have hH := hq.lH
    have hw := hq.w
    have hUl : ∀ y, y ≤ 40 → cU K j y ≤ 67200 := fun y hy => hq.lU hy
    obtain ⟨q0, q1, q2, q3, q4, q5, q6, q7⟩ := id hq
    refine o_iload_n dX9_isHeight_15 rfl rfl ?_
    refine o_iconst (v := nI 0) dX9_isHeight_16 (by decide) ?_
    refine o_aload_n dX9_isHeight_17 rfl rfl ?_
    refine o_getI (v := nI (cT K j)) dX9_isHeight_18 fgX9_109 sh_106 rfl hU1.1 ?_
    refine o_callS (as := [.int y, .int (nI 0), .int (nI (cT K j))]) (st := []) dX9_isHeight_21 (c_in _ _ _ _) rfl meX9_in ssX9_in mlX9_43 (by omega) (by decide) (Nat.le_of_ble_eq_true rfl) ?_
    rintro _ _ ⟨rfl, ⟨hpa, hpb, rfl⟩ | ⟨hno2, rfl⟩⟩
    · obtain ⟨p, hp1, hp2, rfl⟩ := in_nat (by omega) (by omega) hpa hpb
      exact o_zret dX9_isHeight_24 rfl (by decide) ⟨((frM.refl _).trans hF1.M), Or.inl ⟨j, p, hj, rfl, hp2, rfl, hU1, by simp only [sp_h, cg_ix_some hj (by omega : K.1 ≤ 2 ^ 31), cg_in_some hp1 hp2 (by omega : cT K j < 2 ^ 31)], rfl⟩⟩
    · exact o_zret dX9_isHeight_24 rfl (by decide) ⟨((frM.refl _).trans hF1.M), Or.inr ⟨by simp only [sp_h, cg_ix_some hj (by omega : K.1 ≤ 2 ^ 31), cg_in_none (by omega) (by omega : cT K j < 2 ^ 31) hno2], rfl⟩⟩
  · refine o_ifN_ne (tgt := 10) dX9_isHeight_5 (by decide) (by omega) (fun b_6 => absurd b_6 (by omega)) (fun b_6 => ?_)
    refine o_iconst (v := nI 0) dX9_isHeight_8 (by decide) ?_
    exact o_zret dX9_isHeight_9 rfl (by decide) ⟨frM.refl _, Or.inr ⟨by simp only [sp_h, hno], rfl⟩⟩

set_option maxHeartbeats 4000000 in
set_option maxRecDepth 100000 in
theorem m_under {I : sm_I} {K : KT} (hK : MK I 107 0 K) (hok : okK K) (c y : Int32) : E0 6 mX9_under [.ref 106, .int c, .int y] I (fun r I' => r = some (.int (sp_under K c y)) ∧ frM I I') := by
  have hn := hok.1
  refine E0.of (by decide) (by simp [Value.category]) (Nat.le_of_ble_eq_true rfl) (fun ζ => ?_)
  refine o_aload_n dX9_under_0 rfl rfl ?_
  refine o_iconst (v := nI 0) dX9_under_1 (by decide) ?_
  refine o_putI dX9_under_2 flX9_39 sh_106 rfl ?_
  refine o_aload_n dX9_under_5 rfl rfl ?_
  refine o_iload_n dX9_under_6 rfl rfl ?_
  refine o_iload_n dX9_under_7 rfl rfl ?_
  refine o_callV (as := [.int c, .int y]) (st := []) dX9_under_8 (c_isHeight (hK.frM ((frM.refl _).trans (frM.scr (by unfold mn; omega)))) hok c y) rfl meX9_isHeight imX9_isHeight seX9_isHeight mlX9_145 sh_106 rfl rfl (by omega) (by decide) (Nat.le_of_ble_eq_true rfl) ?_
  rintro _ I1 ⟨hF1, ⟨j, q, hj, rfl, hq0, rfl, hU1, hsp, rfl⟩ | ⟨hsp, rfl⟩⟩
  · have hq := hok.2 j hj
    have hT := hq.lT
    have hH := hq.lH
    have hw := hq.w
    have hUl : ∀ y, y ≤ 40 → cU K j y ≤ 67200 := fun y hy => hq.lU hy
    obtain ⟨q0, q1, q2, q3, q4, q5, q6, q7⟩ := id hq
    refine o_ifN_eq (tgt := 23) dX9_under_11 (by decide) (by omega) (fun b_7 => absurd b_7 (by omega)) (fun b_7 => ?_)
    refine o_aload_n dX9_under_14 rfl rfl ?_
    refine o_getR (b := 114) dX9_under_15 fgX9_33 sh_106 rfl rfl ?_
    refine o_iload_n dX9_under_18 rfl rfl ?_
    refine o_ialdN (v := nI (cU K j q)) dX9_under_19 sh_114 (by decide) (by omega) (hU1.2 q (by omega)) ?_
    refine o_goto (tgt := 24) dX9_under_20 (by decide) ?_
    exact o_iret dX9_under_24 rfl ⟨by simp only [sp_under, hsp], (((frM.refl _).trans (frM.scr (by unfold mn; omega))).trans hF1)⟩
  · refine o_ifN_eq (tgt := 23) dX9_under_11 (by decide) (by omega) (fun b_8 => ?_) (fun b_8 => absurd b_8 (by omega))
    refine o_iconst (v := (-1)) dX9_under_23 (by decide) ?_
    exact o_iret dX9_under_24 rfl ⟨by simp only [sp_under, hsp], (((frM.refl _).trans (frM.scr (by unfold mn; omega))).trans hF1)⟩

set_option maxHeartbeats 4000000 in
set_option maxRecDepth 100000 in
theorem m_dip {I : sm_I} {K : KT} (hK : MK I 107 0 K) (hok : okK K) (c n : Int32) : E0 6 mX9_dip [.ref 106, .int c, .int n] I (fun r I' => r = some (.int (sp_dip K c n)) ∧ frM I I') := by
  have hn := hok.1
  refine E0.of (by decide) (by simp [Value.category]) (Nat.le_of_ble_eq_true rfl) (fun ζ => ?_)
  refine o_aload_n dX9_dip_0 rfl rfl ?_
  refine o_iconst (v := nI 0) dX9_dip_1 (by decide) ?_
  refine o_putI dX9_dip_2 flX9_39 sh_106 rfl ?_
  refine o_aload_n dX9_dip_5 rfl rfl ?_
  refine o_iload_n dX9_dip_6 rfl rfl ?_
  refine o_callV (as := [.int c]) (st := []) dX9_dip_7 (c_isCask (hK.frM ((frM.refl _).trans (frM.scr (by unfold mn; omega)))) hok c) rfl meX9_isCask imX9_isCask seX9_isCask mlX9_127 sh_106 rfl rfl (by omega) (by decide) (Nat.le_of_ble_eq_true rfl) ?_
  rintro _ _ ⟨rfl, ⟨j, hj, rfl, rfl⟩ | ⟨hno, rfl⟩⟩
  · refine o_ifN_eq (tgt := 34) dX9_dip_10 (by decide) (by omega) (fun b_9 => absurd b_9 (by omega)) (fun b_9 => ?_)
    refine o_iload_n dX9_dip_13 rfl rfl ?_
    refine o_iconst (v := nI 0) dX9_dip_14 (by decide) ?_
    refine o_aload_n dX9_dip_15 rfl rfl ?_
    refine o_iload_n dX9_dip_16 rfl rfl ?_
    refine o_callV (as := [.int (nI j)]) (st := [.int (nI 0), .int n]) dX9_dip_17 (c_hold (hK.frM ((frM.refl _).trans (frM.scr (by unfold mn; omega)))) hok hj) rfl meX9_hold imX9_hold seX9_hold mlX9_131 sh_106 rfl rfl (by omega) (by decide) (Nat.le_of_ble_eq_true rfl) ?_
    rintro _ I1 ⟨rfl, hU1, hF1⟩
    have hq := hok.2 j hj
    have hT := hq.lT
    have hH := hq.lH
    have hw := hq.w
    have hUl : ∀ y, y ≤ 40 → cU K j y ≤ 67200 := fun y hy => hq.lU hy
    obtain ⟨q0, q1, q2, q3, q4, q5, q6, q7⟩ := id hq
    refine o_callS (as := [.int n, .int (nI 0), .int (nI (cH K j))]) (st := []) dX9_dip_20 (c_in _ _ _ _) rfl meX9_in ssX9_in mlX9_43 (by omega) (by decide) (Nat.le_of_ble_eq_true rfl) ?_
    rintro _ _ ⟨rfl, ⟨hpa, hpb, rfl⟩ | ⟨hno2, rfl⟩⟩
    · obtain ⟨p, hp1, hp2, rfl⟩ := in_nat (by omega) (by omega) hpa hpb
      refine o_ifN_eq (tgt := 34) dX9_dip_23 (by decide) (by omega) (fun b_10 => absurd b_10 (by omega)) (fun b_10 => ?_)
      refine o_aload_n dX9_dip_26 rfl rfl ?_
      refine o_iload_n dX9_dip_27 rfl rfl ?_
      refine o_callVp (v := .int (nI (cg_dip (cU K j) (cT K j) p))) (as := [.int (nI p)]) (st := []) dX9_dip_28 (c_dipOf (u := cU K j) (top := cT K j) hT hU1.2 (fun q hq => by have := hUl q (by omega); omega) (by first | exact hp2 | omega)) rfl meX9_dipOf imX9_dipOf seX9_dipOf mlX9_137 sh_106 rfl rfl (by omega) (by decide) (Nat.le_of_ble_eq_true rfl) ?_
      refine o_goto (tgt := 35) dX9_dip_31 (by decide) ?_
      exact o_iret dX9_dip_35 rfl ⟨by simp only [sp_dip, cg_ix_some hj (by omega : K.1 ≤ 2 ^ 31), cg_in_some hp1 hp2 (by omega : cH K j < 2 ^ 31)], (((frM.refl _).trans (frM.scr (by unfold mn; omega))).trans hF1.M)⟩
    · refine o_ifN_eq (tgt := 34) dX9_dip_23 (by decide) (by omega) (fun b_11 => ?_) (fun b_11 => absurd b_11 (by omega))
      refine o_iconst (v := (-1)) dX9_dip_34 (by decide) ?_
      exact o_iret dX9_dip_35 rfl ⟨by simp only [sp_dip, cg_ix_some hj (by omega : K.1 ≤ 2 ^ 31), cg_in_none (by omega) (by omega : cH K j < 2 ^ 31) hno2], (((frM.refl _).trans (frM.scr (by unfold mn; omega))).trans hF1.M)⟩
  · refine o_ifN_eq (tgt := 34) dX9_dip_10 (by decide) (by omega) (fun b_12 => ?_) (fun b_12 => absurd b_12 (by omega))
    refine o_iconst (v := (-1)) dX9_dip_34 (by decide) ?_
    exact o_iret dX9_dip_35 rfl ⟨by simp only [sp_dip, hno], ((frM.refl _).trans (frM.scr (by unfold mn; omega)))⟩

theorem lp_stick {ζ : sm_Z} {d : Nat} {I : sm_I} {Q : Option Value → sm_I → Prop} {u : Nat → Nat} {top n t : Nat} {a1 a3 : Option Value} (ht : top ≤ 40) (hU : ∀ q, q ≤ top → I 114 q = nI (u q)) (hu : ∀ q, q ≤ top → u q * n < 2 ^ 31) (hn : t ≤ u top * n) (hq : Q (some (.int (nI (cg_dip (fun y => u y * n) top t)))) I) : ∀ f y : Nat, y + f = top → cg_dp (fun y => u y * n) t f y = cg_dip (fun y => u y * n) top t → X0 ζ d mX9_stick 46 [some (.ref 106), a1, some (.int (nI n)), a3, some (.int (nI t)), some (.int (nI y))] [] I Q := by
  have htl : t < 2 ^ 31 := Nat.lt_of_le_of_lt hn (hu top (Nat.le_refl _))
  intro f
  induction f with
  | zero =>
    intro y hy he
    have hyy : y = top := by omega
    have hul := hu y (by omega)
    have hny : t ≤ u y * n := by rw [hyy]; exact hn
    rw [cg_dp] at he
    rw [← he] at hq
    refine o_aload_n dX9_stick_46 rfl rfl ?_
    refine o_getR (b := 114) dX9_stick_47 fgX9_33 sh_106 rfl rfl ?_
    refine o_iload dX9_stick_50 rfl ?_
    refine o_ialdN (v := nI (u y)) dX9_stick_52 sh_114 (by decide) (by omega) (hU y (by omega)) ?_
    refine o_iload_n dX9_stick_53 rfl rfl ?_
    refine o_imulN dX9_stick_54 ?_
    refine o_iload dX9_stick_55 rfl ?_
    refine o_icmpN_ge (tgt := 66) dX9_stick_57 (by decide) (by omega) (by omega) (fun b_13 => ?_) (fun b_13 => absurd b_13 (by omega))
    refine o_iload dX9_stick_66 rfl ?_
    exact o_iret dX9_stick_68 rfl hq
  | succ f ih =>
    intro y hy he
    have hul := hu y (by omega)
    rw [cg_dp] at he
    refine o_aload_n dX9_stick_46 rfl rfl ?_
    refine o_getR (b := 114) dX9_stick_47 fgX9_33 sh_106 rfl rfl ?_
    refine o_iload dX9_stick_50 rfl ?_
    refine o_ialdN (v := nI (u y)) dX9_stick_52 sh_114 (by decide) (by omega) (hU y (by omega)) ?_
    refine o_iload_n dX9_stick_53 rfl rfl ?_
    refine o_imulN dX9_stick_54 ?_
    refine o_iload dX9_stick_55 rfl ?_
    refine o_icmpN_ge (tgt := 66) dX9_stick_57 (by decide) (by omega) (by omega) (fun b_14 => ?_) (fun b_14 => ?_)
    · refine o_iload dX9_stick_66 rfl ?_
      exact o_iret dX9_stick_68 rfl (by rw [if_pos (by omega)] at he; rw [← he] at hq; exact hq)
    · refine o_iincN (w := 1) dX9_stick_60 rfl (by decide) (by decide) ?_
      refine o_goto (tgt := 46) dX9_stick_63 (by decide) ?_
      exact ih (y + 1) (by omega) (by rw [if_neg (by omega)] at he; exact he)

set_option maxHeartbeats 4000000 in
set_option maxRecDepth 100000 in
theorem m_stick {I : sm_I} {K : KT} (hK : MK I 107 0 K) (hok : okK K) (c n k : Int32) : E0 6 mX9_stick [.ref 106, .int c, .int n, .int k] I (fun r I' => r = some (.int (sp_stick K c n k)) ∧ frM I I') := by
  have hn := hok.1
  refine E0.of (by decide) (by simp [Value.category]) (Nat.le_of_ble_eq_true rfl) (fun ζ => ?_)
  refine o_aload_n dX9_stick_0 rfl rfl ?_
  refine o_iconst (v := nI 0) dX9_stick_1 (by decide) ?_
  refine o_putI dX9_stick_2 flX9_39 sh_106 rfl ?_
  refine o_aload_n dX9_stick_5 rfl rfl ?_
  refine o_iload_n dX9_stick_6 rfl rfl ?_
  refine o_callV (as := [.int c]) (st := []) dX9_stick_7 (c_isCask (hK.frM ((frM.refl _).trans (frM.scr (by unfold mn; omega)))) hok c) rfl meX9_isCask imX9_isCask seX9_isCask mlX9_127 sh_106 rfl rfl (by omega) (by decide) (Nat.le_of_ble_eq_true rfl) ?_
  rintro _ _ ⟨rfl, ⟨j, hj, rfl, rfl⟩ | ⟨hno, rfl⟩⟩
  · refine o_ifN_eq (tgt := 32) dX9_stick_10 (by decide) (by omega) (fun b_15 => absurd b_15 (by omega)) (fun b_15 => ?_)
    refine o_iload_n dX9_stick_13 rfl rfl ?_
    refine o_iconst (v := nI 2) dX9_stick_14 (by decide) ?_
    refine o_bipush (v := nI 9) dX9_stick_15 (by decide) ?_
    refine o_callS (as := [.int n, .int (nI 2), .int (nI 9)]) (st := []) dX9_stick_17 (c_in _ _ _ _) rfl meX9_in ssX9_in mlX9_43 (by omega) (by decide) (Nat.le_of_ble_eq_true rfl) ?_
    rintro _ _ ⟨rfl, ⟨hpa, hpb, rfl⟩ | ⟨hno2, rfl⟩⟩
    · obtain ⟨p, hp1, hp2, rfl⟩ := in_nat (by omega) (by omega) hpa hpb
      refine o_ifN_eq (tgt := 32) dX9_stick_20 (by decide) (by omega) (fun b_16 => absurd b_16 (by omega)) (fun b_16 => ?_)
      refine o_iload_n dX9_stick_23 rfl rfl ?_
      refine o_iconst (v := nI 1) dX9_stick_24 (by decide) ?_
      refine o_iload_n dX9_stick_25 rfl rfl ?_
      refine o_callS (as := [.int k, .int (nI 1), .int (nI p)]) (st := []) dX9_stick_26 (c_in _ _ _ _) rfl meX9_in ssX9_in mlX9_43 (by omega) (by decide) (Nat.le_of_ble_eq_true rfl) ?_
      rintro _ _ ⟨rfl, ⟨hea, heb, rfl⟩ | ⟨hno3, rfl⟩⟩
      · obtain ⟨e, he1, he2, rfl⟩ := in_nat (by omega) (by omega) hea heb
        refine o_ifN_ne (tgt := 34) dX9_stick_29 (by decide) (by omega) (fun b_17 => ?_) (fun b_17 => absurd b_17 (by omega))
        refine o_aload_n dX9_stick_34 rfl rfl ?_
        refine o_iload_n dX9_stick_35 rfl rfl ?_
        refine o_callV (as := [.int (nI j)]) (st := []) dX9_stick_36 (c_hold (hK.frM ((frM.refl _).trans (frM.scr (by unfold mn; omega)))) hok hj) rfl meX9_hold imX9_hold seX9_hold mlX9_131 sh_106 rfl rfl (by omega) (by decide) (Nat.le_of_ble_eq_true rfl) ?_
        rintro _ I1 ⟨rfl, hU1, hF1⟩
        have hq := hok.2 j hj
        have hT := hq.lT
        have hH := hq.lH
        have hw := hq.w
        have hUl : ∀ y, y ≤ 40 → cU K j y ≤ 67200 := fun y hy => hq.lU hy
        obtain ⟨q0, q1, q2, q3, q4, q5, q6, q7⟩ := id hq
        refine o_iload_n dX9_stick_39 rfl rfl ?_
        refine o_imulN dX9_stick_40 ?_
        refine o_istore dX9_stick_41 (by decide) ?_
        refine o_iconst (v := nI 0) dX9_stick_43 (by decide) ?_
        refine o_istore dX9_stick_44 (by decide) ?_
        have hmul : ∀ q, q ≤ cT K j → cU K j q * p < 2 ^ 31 := fun q hq => by have h1 := hUl q (by omega); have h2 : cU K j q * p ≤ 67200 * 9 := Nat.mul_le_mul h1 (by omega); omega
        exact lp_stick (u := cU K j) (t := cH K j * e) hT hU1.2 hmul (Nat.mul_le_mul_left _ (by omega)) ⟨by simp only [sp_stick, cg_ix_some hj (by omega : K.1 ≤ 2 ^ 31), cg_in_some hp1 hp2 (by omega : (9 : Nat) < 2 ^ 31), cg_in_some he1 he2 (by omega : p < 2 ^ 31)], (((frM.refl _).trans (frM.scr (by unfold mn; omega))).trans hF1.M)⟩ (cT K j) 0 (by omega) rfl
      · refine o_ifN_ne (tgt := 34) dX9_stick_29 (by decide) (by omega) (fun b_18 => absurd b_18 (by omega)) (fun b_18 => ?_)
        refine o_iconst (v := (-1)) dX9_stick_32 (by decide) ?_
        exact o_iret dX9_stick_33 rfl ⟨by simp only [sp_stick, cg_ix_some hj (by omega : K.1 ≤ 2 ^ 31), cg_in_some hp1 hp2 (by omega : (9 : Nat) < 2 ^ 31), cg_in_none (by omega) (by omega : p < 2 ^ 31) hno3], ((frM.refl _).trans (frM.scr (by unfold mn; omega)))⟩
    · refine o_ifN_eq (tgt := 32) dX9_stick_20 (by decide) (by omega) (fun b_19 => ?_) (fun b_19 => absurd b_19 (by omega))
      refine o_iconst (v := (-1)) dX9_stick_32 (by decide) ?_
      exact o_iret dX9_stick_33 rfl ⟨by simp only [sp_stick, cg_ix_some hj (by omega : K.1 ≤ 2 ^ 31), cg_in_none (by omega) (by omega : (9 : Nat) < 2 ^ 31) hno2], ((frM.refl _).trans (frM.scr (by unfold mn; omega)))⟩
  · refine o_ifN_eq (tgt := 32) dX9_stick_10 (by decide) (by omega) (fun b_20 => ?_) (fun b_20 => absurd b_20 (by omega))
    refine o_iconst (v := (-1)) dX9_stick_32 (by decide) ?_
    exact o_iret dX9_stick_33 rfl ⟨by simp only [sp_stick, hno], ((frM.refl _).trans (frM.scr (by unfold mn; omega)))⟩

set_option maxHeartbeats 4000000 in
set_option maxRecDepth 100000 in
theorem m_known {I : sm_I} {K : KT} (hK : MK I 107 0 K) (hok : okK K) (c y w : Int32) : E0 6 mX9_known [.ref 106, .int c, .int y, .int w] I (fun r I' => r = some (.int (sp_known K c y w)) ∧ frM I I') := by
  have hn := hok.1
  refine E0.of (by decide) (by simp [Value.category]) (Nat.le_of_ble_eq_true rfl) (fun ζ => ?_)
  refine o_aload_n dX9_known_0 rfl rfl ?_
  refine o_iconst (v := nI 0) dX9_known_1 (by decide) ?_
  refine o_putI dX9_known_2 flX9_39 sh_106 rfl ?_
  refine o_aload_n dX9_known_5 rfl rfl ?_
  refine o_iload_n dX9_known_6 rfl rfl ?_
  refine o_iload_n dX9_known_7 rfl rfl ?_
  refine o_callV (as := [.int c, .int y]) (st := []) dX9_known_8 (c_isHeight (hK.frM ((frM.refl _).trans (frM.scr (by unfold mn; omega)))) hok c y) rfl meX9_isHeight imX9_isHeight seX9_isHeight mlX9_145 sh_106 rfl rfl (by omega) (by decide) (Nat.le_of_ble_eq_true rfl) ?_
  rintro _ I1 ⟨hF1, ⟨j, q, hj, rfl, hq0, rfl, hU1, hsp, rfl⟩ | ⟨hsp, rfl⟩⟩
  · have hq := hok.2 j hj
    have hT := hq.lT
    have hH := hq.lH
    have hw := hq.w
    have hUl : ∀ y, y ≤ 40 → cU K j y ≤ 67200 := fun y hy => hq.lU hy
    obtain ⟨q0, q1, q2, q3, q4, q5, q6, q7⟩ := id hq
    refine o_ifN_eq (tgt := 23) dX9_known_11 (by decide) (by omega) (fun b_21 => absurd b_21 (by omega)) (fun b_21 => ?_)
    refine o_iload_n dX9_known_14 rfl rfl ?_
    refine o_iconst (v := nI 0) dX9_known_15 (by decide) ?_
    refine o_iconst (v := nI 1) dX9_known_16 (by decide) ?_
    refine o_callS (as := [.int w, .int (nI 0), .int (nI 1)]) (st := []) dX9_known_17 (c_in _ _ _ _) rfl meX9_in ssX9_in mlX9_43 (by omega) (by decide) (Nat.le_of_ble_eq_true rfl) ?_
    rintro _ _ ⟨rfl, ⟨hpa, hpb, rfl⟩ | ⟨hno2, rfl⟩⟩
    · obtain ⟨p, hp1, hp2, rfl⟩ := in_nat (by omega) (by omega) hpa hpb
      refine o_ifN_ne (tgt := 25) dX9_known_20 (by decide) (by omega) (fun b_22 => ?_) (fun b_22 => absurd b_22 (by omega))
      refine o_iload_n dX9_known_25 rfl rfl ?_
      refine o_ifN_ne (tgt := 33) dX9_known_26 (by decide) (by omega) (fun b_23 => ?_) (fun b_23 => ?_)
      · refine o_aload_n dX9_known_33 rfl rfl ?_
        refine o_getR (b := 114) dX9_known_34 fgX9_33 sh_106 rfl rfl ?_
        refine o_iload_n dX9_known_37 rfl rfl ?_
        refine o_iconst (v := nI 1) dX9_known_38 (by decide) ?_
        refine o_isubN dX9_known_39 (by omega) ?_
        refine o_ialdN (v := nI (cU K j (q - 1))) dX9_known_40 sh_114 (by decide) (by omega) (hU1.2 (q - 1) (by omega)) ?_
        refine o_iconst (v := nI 1) dX9_known_41 (by decide) ?_
        refine o_iaddN dX9_known_42 ?_
        refine o_istore dX9_known_43 (by decide) ?_
        have hA := hUl q (by omega)
        have hB := hUl (q - 1) (by omega)
        refine o_iload dX9_known_45 rfl ?_
        refine o_aload_n dX9_known_47 rfl rfl ?_
        refine o_getR (b := 114) dX9_known_48 fgX9_33 sh_106 rfl rfl ?_
        refine o_iload_n dX9_known_51 rfl rfl ?_
        refine o_ialdN (v := nI (cU K j q)) dX9_known_52 sh_114 (by decide) (by omega) (hU1.2 q (by omega)) ?_
        refine o_icmpN_le (tgt := 61) dX9_known_53 (by decide) (by omega) (by omega) (fun b_24 => ?_) (fun b_24 => ?_)
        · refine o_iload_n dX9_known_61 rfl rfl ?_
          refine o_ifN_ne (tgt := 70) dX9_known_62 (by decide) (by omega) (fun b_25 => ?_) (fun b_25 => ?_)
          · refine o_aload_n dX9_known_70 rfl rfl ?_
            refine o_getR (b := 114) dX9_known_71 fgX9_33 sh_106 rfl rfl ?_
            refine o_iload_n dX9_known_74 rfl rfl ?_
            refine o_ialdN (v := nI (cU K j q)) dX9_known_75 sh_114 (by decide) (by omega) (hU1.2 q (by omega)) ?_
            exact o_iret dX9_known_76 rfl ⟨by simp only [sp_known, hsp, cg_in_some hp1 hp2 (by omega : (1 : Nat) < 2 ^ 31), if_neg (show ¬ q = 0 by omega), if_neg (show ¬ cU K j q < cU K j (q - 1) + 1 by omega), if_neg (show ¬ p = 0 by omega)], (((frM.refl _).trans (frM.scr (by unfold mn; omega))).trans hF1)⟩
          · refine o_iload dX9_known_65 rfl ?_
            refine o_goto (tgt := 76) dX9_known_67 (by decide) ?_
            exact o_iret dX9_known_76 rfl ⟨by simp only [sp_known, hsp, cg_in_some hp1 hp2 (by omega : (1 : Nat) < 2 ^ 31), if_neg (show ¬ q = 0 by omega), if_neg (show ¬ cU K j q < cU K j (q - 1) + 1 by omega), if_pos (show p = 0 by omega)], (((frM.refl _).trans (frM.scr (by unfold mn; omega))).trans hF1)⟩
        · refine o_bipush (v := (-9)) dX9_known_56 (by decide) ?_
          refine o_goto (tgt := 76) dX9_known_58 (by decide) ?_
          exact o_iret dX9_known_76 rfl ⟨by simp only [sp_known, hsp, cg_in_some hp1 hp2 (by omega : (1 : Nat) < 2 ^ 31), if_neg (show ¬ q = 0 by omega), if_pos (show cU K j q < cU K j (q - 1) + 1 by omega)], (((frM.refl _).trans (frM.scr (by unfold mn; omega))).trans hF1)⟩
      · refine o_iconst (v := nI 0) dX9_known_29 (by decide) ?_
        refine o_goto (tgt := 43) dX9_known_30 (by decide) ?_
        refine o_istore dX9_known_43 (by decide) ?_
        have hA := hUl q (by omega)
        have hB := hUl (q - 1) (by omega)
        refine o_iload dX9_known_45 rfl ?_
        refine o_aload_n dX9_known_47 rfl rfl ?_
        refine o_getR (b := 114) dX9_known_48 fgX9_33 sh_106 rfl rfl ?_
        refine o_iload_n dX9_known_51 rfl rfl ?_
        refine o_ialdN (v := nI (cU K j q)) dX9_known_52 sh_114 (by decide) (by omega) (hU1.2 q (by omega)) ?_
        refine o_icmpN_le (tgt := 61) dX9_known_53 (by decide) (by omega) (by omega) (fun b_26 => ?_) (fun b_26 => ?_)
        · refine o_iload_n dX9_known_61 rfl rfl ?_
          refine o_ifN_ne (tgt := 70) dX9_known_62 (by decide) (by omega) (fun b_27 => ?_) (fun b_27 => ?_)
          · refine o_aload_n dX9_known_70 rfl rfl ?_
            refine o_getR (b := 114) dX9_known_71 fgX9_33 sh_106 rfl rfl ?_
            refine o_iload_n dX9_known_74 rfl rfl ?_
            refine o_ialdN (v := nI (cU K j q)) dX9_known_75 sh_114 (by decide) (by omega) (hU1.2 q (by omega)) ?_
            exact o_iret dX9_known_76 rfl ⟨by simp only [sp_known, hsp, cg_in_some hp1 hp2 (by omega : (1 : Nat) < 2 ^ 31), if_pos (show q = 0 by omega), if_neg (show ¬ cU K j q < 0 by omega), if_neg (show ¬ p = 0 by omega)], (((frM.refl _).trans (frM.scr (by unfold mn; omega))).trans hF1)⟩
          · refine o_iload dX9_known_65 rfl ?_
            refine o_goto (tgt := 76) dX9_known_67 (by decide) ?_
            exact o_iret dX9_known_76 rfl ⟨by simp only [sp_known, hsp, cg_in_some hp1 hp2 (by omega : (1 : Nat) < 2 ^ 31), if_pos (show q = 0 by omega), if_neg (show ¬ cU K j q < 0 by omega), if_pos (show p = 0 by omega)], (((frM.refl _).trans (frM.scr (by unfold mn; omega))).trans hF1)⟩
        · refine o_bipush (v := (-9)) dX9_known_56 (by decide) ?_
          refine o_goto (tgt := 76) dX9_known_58 (by decide) ?_
          exact o_iret dX9_known_76 rfl ⟨by simp only [sp_known, hsp, cg_in_some hp1 hp2 (by omega : (1 : Nat) < 2 ^ 31), if_pos (show q = 0 by omega), if_pos (show cU K j q < 0 by omega)], (((frM.refl _).trans (frM.scr (by unfold mn; omega))).trans hF1)⟩
    · refine o_ifN_ne (tgt := 25) dX9_known_20 (by decide) (by omega) (fun b_28 => absurd b_28 (by omega)) (fun b_28 => ?_)
      refine o_iconst (v := (-1)) dX9_known_23 (by decide) ?_
      exact o_iret dX9_known_24 rfl ⟨by simp only [sp_known, hsp, cg_in_none (by omega) (by omega : (1 : Nat) < 2 ^ 31) hno2], (((frM.refl _).trans (frM.scr (by unfold mn; omega))).trans hF1)⟩
  · refine o_ifN_eq (tgt := 23) dX9_known_11 (by decide) (by omega) (fun b_29 => ?_) (fun b_29 => absurd b_29 (by omega))
    refine o_iconst (v := (-1)) dX9_known_23 (by decide) ?_
    exact o_iret dX9_known_24 rfl ⟨by simp only [sp_known, hsp], (((frM.refl _).trans (frM.scr (by unfold mn; omega))).trans hF1)⟩
