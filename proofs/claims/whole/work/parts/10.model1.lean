set_option maxHeartbeats 4000000 in
set_option maxRecDepth 100000 in
theorem c_in (I : sm_I) (v lo hi : Int32) : E0 0 mX9_in [.int v, .int lo, .int hi] I (fun r I' => I' = I ∧ ((lo ≤ v ∧ v ≤ hi ∧ r = some (.int (nI 1))) ∨ (¬ (lo ≤ v ∧ v ≤ hi) ∧ r = some (.int (nI 0))))) := by
  refine E0.of (by decide) (by simp [Value.category]) (Nat.le_of_ble_eq_true rfl) (fun ζ => ?_)
  refine o_iload_n dX9_in_0 rfl rfl ?_
  refine o_iload_n dX9_in_1 rfl rfl ?_
  refine o_icmp_lt (tgt := 14) dX9_in_2 (by decide) (fun b_1 => ?_) (fun b_1 => ?_)
  · refine o_iconst (v := nI 0) dX9_in_14 (by decide) ?_
    exact o_zret dX9_in_15 rfl (by decide) ⟨rfl, Or.inr ⟨fun q => absurd q.1 (Int32.not_le.mpr b_1), rfl⟩⟩
  · refine o_iload_n dX9_in_5 rfl rfl ?_
    refine o_iload_n dX9_in_6 rfl rfl ?_
    refine o_icmp_gt (tgt := 14) dX9_in_7 (by decide) (fun b_2 => ?_) (fun b_2 => ?_)
    · refine o_iconst (v := nI 0) dX9_in_14 (by decide) ?_
      exact o_zret dX9_in_15 rfl (by decide) ⟨rfl, Or.inr ⟨fun q => absurd q.2 (Int32.not_le.mpr b_2), rfl⟩⟩
    · refine o_iconst (v := nI 1) dX9_in_10 (by decide) ?_
      refine o_goto (tgt := 15) dX9_in_11 (by decide) ?_
      exact o_zret dX9_in_15 rfl (by decide) ⟨rfl, Or.inl ⟨i32_nlt b_1, i32_nlt b_2, rfl⟩⟩

set_option maxHeartbeats 4000000 in
set_option maxRecDepth 100000 in
theorem c_of (I : sm_I) (c w : Nat) (h : 6 * c + w < 25) : E0 0 mX9_of [.ref 106, .int (nI c), .int (nI w)] I (fun r I' => I' = I ∧ r = some (.int (I 107 (6 * c + w)))) := by
  refine E0.of (by decide) (by simp [Value.category]) (Nat.le_of_ble_eq_true rfl) (fun ζ => ?_)
  refine o_aload_n dX9_of_0 rfl rfl ?_
  refine o_getR (b := 107) dX9_of_1 fgX9_7 sh_106 rfl rfl ?_
  refine o_bipush (v := nI 6) dX9_of_4 (by decide) ?_
  refine o_iload_n dX9_of_6 rfl rfl ?_
  refine o_imulN dX9_of_7 ?_
  refine o_iload_n dX9_of_8 rfl rfl ?_
  refine o_iaddN dX9_of_9 ?_
  refine o_ialdN (v := I 107 ((6 * c) + w)) dX9_of_10 sh_107 (by decide) h rfl ?_
  exact o_iret dX9_of_11 rfl ⟨rfl, rfl⟩

theorem c_ofK {I : sm_I} {K : KT} (hK : MK I 107 0 K) (hn : K.1 ≤ 4) {c w : Nat} (hc : c < K.1) (hw : w < 6) : E0 0 mX9_of [.ref 106, .int (nI c), .int (nI w)] I (fun r I' => I' = I ∧ r = some (.int (nI (K.2 c w)))) := by
  rw [← hK.at0 hc hw]
  exact c_of I c w (by omega)

set_option maxHeartbeats 4000000 in
set_option maxRecDepth 100000 in
theorem c_radius {I : sm_I} {K : KT} (hK : MK I 107 0 K) (hok : okK K) {c i : Nat} (hc : c < K.1) (hi : i < K.2 c 0) : E0 1 mX9_radius [.ref 106, .int (nI c), .int (nI i)] I (fun r I' => I' = I ∧ r = some (.int (nI (cg_rad (K.2 c 0) (K.2 c 1) (K.2 c 2) i)))) := by
  have hn := hok.1
  obtain ⟨q0, q1, q2, q3, q4, q5, q6, q7⟩ := hok.2 c hc
  refine E0.of (by decide) (by simp [Value.category]) (Nat.le_of_ble_eq_true rfl) (fun ζ => ?_)
  refine o_aload_n dX9_radius_0 rfl rfl ?_
  refine o_iload_n dX9_radius_1 rfl rfl ?_
  refine o_iconst (v := nI 0) dX9_radius_2 (by decide) ?_
  refine o_callVp (v := .int (nI (K.2 c 0))) (as := [.int (nI c), .int (nI 0)]) (st := []) dX9_radius_3 (c_ofK hK hn hc (by decide)) rfl meX9_of imX9_of seX9_of mlX9_103 sh_106 rfl rfl (by omega) (by decide) (Nat.le_of_ble_eq_true rfl) ?_
  refine o_istore_n dX9_radius_6 rfl (by decide) ?_
  refine o_iconst (v := nI 2) dX9_radius_7 (by decide) ?_
  refine o_iload_n dX9_radius_8 rfl rfl ?_
  refine o_imulN dX9_radius_9 ?_
  refine o_iconst (v := nI 1) dX9_radius_10 (by decide) ?_
  refine o_iaddN dX9_radius_11 ?_
  refine o_iload_n dX9_radius_12 rfl rfl ?_
  refine o_isub dX9_radius_13 ?_
  refine o_istore dX9_radius_14 (by decide) ?_
  refine o_aload_n dX9_radius_16 rfl rfl ?_
  refine o_iload_n dX9_radius_17 rfl rfl ?_
  refine o_iconst (v := nI 2) dX9_radius_18 (by decide) ?_
  refine o_callVp (v := .int (nI (K.2 c 2))) (as := [.int (nI c), .int (nI 2)]) (st := []) dX9_radius_19 (c_ofK hK hn hc (by decide)) rfl meX9_of imX9_of seX9_of mlX9_103 sh_106 rfl rfl (by omega) (by decide) (Nat.le_of_ble_eq_true rfl) ?_
  refine o_aload_n dX9_radius_22 rfl rfl ?_
  refine o_iload_n dX9_radius_23 rfl rfl ?_
  refine o_iconst (v := nI 2) dX9_radius_24 (by decide) ?_
  refine o_callVp (v := .int (nI (K.2 c 2))) (as := [.int (nI c), .int (nI 2)]) (st := [.int (nI (K.2 c 2))]) dX9_radius_25 (c_ofK hK hn hc (by decide)) rfl meX9_of imX9_of seX9_of mlX9_103 sh_106 rfl rfl (by omega) (by decide) (Nat.le_of_ble_eq_true rfl) ?_
  refine o_aload_n dX9_radius_28 rfl rfl ?_
  refine o_iload_n dX9_radius_29 rfl rfl ?_
  refine o_iconst (v := nI 1) dX9_radius_30 (by decide) ?_
  refine o_callVp (v := .int (nI (K.2 c 1))) (as := [.int (nI c), .int (nI 1)]) (st := [.int (nI (K.2 c 2)), .int (nI (K.2 c 2))]) dX9_radius_31 (c_ofK hK hn hc (by decide)) rfl meX9_of imX9_of seX9_of mlX9_103 sh_106 rfl rfl (by omega) (by decide) (Nat.le_of_ble_eq_true rfl) ?_
  refine o_isubN dX9_radius_34 (by omega) ?_
  refine o_iload dX9_radius_35 rfl ?_
  refine o_imul dX9_radius_37 ?_
  refine o_iload dX9_radius_38 rfl ?_
  refine o_imul dX9_radius_40 ?_
  refine o_iload_n dX9_radius_41 rfl rfl ?_
  refine o_iload_n dX9_radius_42 rfl rfl ?_
  refine o_imulN dX9_radius_43 ?_
  refine o_idiv dX9_radius_44 (nI_ne0 (cg_SS q0 q1).1 (cg_SS q0 q1).2) ?_
  refine o_isub dX9_radius_45 ?_
  exact o_iret dX9_radius_46 rfl ⟨rfl, by rw [rad_eq q0 q1 q4 hi]⟩

theorem lp_cellsOf {ζ : sm_Z} {d : Nat} {I : sm_I} {Q : Option Value → sm_I → Prop} {a0 a1 a2 a3 a4 a5 : Option Value} {m : Nat} (hm : m ≤ 1600) (hq : Q (some (.int (nI (2 * cg_wl m 21 0)))) I) : ∀ f w : Nat, w + f = 21 → cg_wl m f w = cg_wl m 21 0 → (w = 0 ∨ 4 * w * w ≤ m) → X0 ζ d mX9_cellsOf 42 [a0, a1, a2, a3, a4, a5, some (.int (nI m)), some (.int (nI w))] [] I Q := by
  intro f
  induction f with
  | zero =>
    intro w hw he hb
    exfalso
    have h21 : w = 21 := by omega
    subst h21
    omega
  | succ f ih =>
    intro w hw he hb
    rw [cg_wl] at he
    have hb2 : 4 * (w + 1) * (w + 1) ≤ 4 * 21 * 21 := Nat.mul_le_mul (Nat.mul_le_mul_left 4 (by omega)) (by omega)
    refine o_iload dX9_cellsOf_42 rfl ?_
    refine o_ifN_lt (tgt := 69) dX9_cellsOf_44 (by decide) (by omega) ?_
    refine o_iconst (v := nI 4) dX9_cellsOf_47 (by decide) ?_
    refine o_iload dX9_cellsOf_48 rfl ?_
    refine o_iconst (v := nI 1) dX9_cellsOf_50 (by decide) ?_
    refine o_iaddN dX9_cellsOf_51 ?_
    refine o_imulN dX9_cellsOf_52 ?_
    refine o_iload dX9_cellsOf_53 rfl ?_
    refine o_iconst (v := nI 1) dX9_cellsOf_55 (by decide) ?_
    refine o_iaddN dX9_cellsOf_56 ?_
    refine o_imulN dX9_cellsOf_57 ?_
    refine o_iload dX9_cellsOf_58 rfl ?_
    refine o_icmpN_gt (tgt := 69) dX9_cellsOf_60 (by decide) (by omega) (by omega) (fun b_4 => ?_) (fun b_4 => ?_)
    · refine o_iconst (v := nI 2) dX9_cellsOf_69 (by decide) ?_
      refine o_iload dX9_cellsOf_70 rfl ?_
      refine o_imulN dX9_cellsOf_72 ?_
      exact o_iret dX9_cellsOf_73 rfl (by rw [if_neg (by omega)] at he; rw [he]; exact hq)
    · refine o_iincN (w := 1) dX9_cellsOf_63 rfl (by decide) (by decide) ?_
      refine o_goto (tgt := 42) dX9_cellsOf_66 (by decide) ?_
      exact ih (w + 1) (by omega) (by rw [if_pos (by omega)] at he; exact he) (Or.inr (by omega))

set_option maxHeartbeats 4000000 in
set_option maxRecDepth 100000 in
theorem c_cellsOf {I : sm_I} {K : KT} (hK : MK I 107 0 K) (hok : okK K) {c i j : Nat} (hc : c < K.1) (hi : i < K.2 c 0) (hj : j < 2 * K.2 c 2) : E0 2 mX9_cellsOf [.ref 106, .int (nI c), .int (nI i), .int (nI j)] I (fun r I' => I' = I ∧ r = some (.int (nI (cg_cell (K.2 c 0) (K.2 c 1) (K.2 c 2) i j)))) := by
  have hn := hok.1
  obtain ⟨q0, q1, q2, q3, q4, q5, q6, q7⟩ := hok.2 c hc
  refine E0.of (by decide) (by simp [Value.category]) (Nat.le_of_ble_eq_true rfl) (fun ζ => ?_)
  refine o_iconst (v := nI 2) dX9_cellsOf_0 (by decide) ?_
  refine o_aload_n dX9_cellsOf_1 rfl rfl ?_
  refine o_iload_n dX9_cellsOf_2 rfl rfl ?_
  refine o_iload_n dX9_cellsOf_3 rfl rfl ?_
  refine o_callVp (v := .int (nI (cg_rad (K.2 c 0) (K.2 c 1) (K.2 c 2) i))) (as := [.int (nI c), .int (nI i)]) (st := [.int (nI 2)]) dX9_cellsOf_4 (c_radius hK hok hc hi) rfl meX9_radius imX9_radius seX9_radius mlX9_106 sh_106 rfl rfl (by omega) (by decide) (Nat.le_of_ble_eq_true rfl) ?_
  refine o_imulN dX9_cellsOf_7 ?_
  refine o_istore dX9_cellsOf_8 (by decide) ?_
  refine o_iconst (v := nI 2) dX9_cellsOf_10 (by decide) ?_
  refine o_iload_n dX9_cellsOf_11 rfl rfl ?_
  refine o_imulN dX9_cellsOf_12 ?_
  refine o_iconst (v := nI 1) dX9_cellsOf_13 (by decide) ?_
  refine o_iaddN dX9_cellsOf_14 ?_
  refine o_iconst (v := nI 2) dX9_cellsOf_15 (by decide) ?_
  refine o_aload_n dX9_cellsOf_16 rfl rfl ?_
  refine o_iload_n dX9_cellsOf_17 rfl rfl ?_
  refine o_iconst (v := nI 2) dX9_cellsOf_18 (by decide) ?_
  refine o_callVp (v := .int (nI (K.2 c 2))) (as := [.int (nI c), .int (nI 2)]) (st := [.int (nI 2), .int (nI ((2 * j) + 1))]) dX9_cellsOf_19 (c_ofK hK hn hc (by decide)) rfl meX9_of imX9_of seX9_of mlX9_103 sh_106 rfl rfl (by omega) (by decide) (Nat.le_of_ble_eq_true rfl) ?_
  refine o_imulN dX9_cellsOf_22 ?_
  refine o_isub dX9_cellsOf_23 ?_
  refine o_istore dX9_cellsOf_24 (by decide) ?_
  refine o_iload dX9_cellsOf_26 rfl ?_
  refine o_iload dX9_cellsOf_28 rfl ?_
  refine o_imulN dX9_cellsOf_30 ?_
  refine o_iload dX9_cellsOf_31 rfl ?_
  refine o_iload dX9_cellsOf_33 rfl ?_
  refine o_imul dX9_cellsOf_35 ?_
  rw [nI_sq]
  refine o_isub dX9_cellsOf_36 ?_
  refine o_istore dX9_cellsOf_37 (by decide) ?_
  refine o_iconst (v := nI 0) dX9_cellsOf_39 (by decide) ?_
  refine o_istore dX9_cellsOf_40 (by decide) ?_
  have hup := cg_sq_lt (cg_up_le hj q4)
  have hrr := cg_sq_lt (x := 2 * cg_rad (K.2 c 0) (K.2 c 1) (K.2 c 2) i) (by have := cg_rad_le (S := K.2 c 0) (H := K.2 c 1) (B := K.2 c 2) (i := i); omega)
  rcases Nat.lt_or_ge (2 * cg_rad (K.2 c 0) (K.2 c 1) (K.2 c 2) i * (2 * cg_rad (K.2 c 0) (K.2 c 1) (K.2 c 2) i)) (cg_dist (2 * j + 1) (2 * K.2 c 2) * cg_dist (2 * j + 1) (2 * K.2 c 2)) with hlt | hge
  · refine o_iload dX9_cellsOf_42 rfl ?_
    refine o_if_lt (tgt := 69) dX9_cellsOf_44 (by decide) (fun b_5 => ?_) (fun b_5 => absurd b_5 (fun q => q (pk_sneg (by omega) hlt)))
    refine o_iconst (v := nI 2) dX9_cellsOf_69 (by decide) ?_
    refine o_iload dX9_cellsOf_70 rfl ?_
    refine o_imulN dX9_cellsOf_72 ?_
    exact o_iret dX9_cellsOf_73 rfl ⟨rfl, by rw [show cg_cell (K.2 c 0) (K.2 c 1) (K.2 c 2) i j = 2 * 0 from congrArg (2 * ·) (by unfold cg_room; rw [Nat.sub_eq_zero_of_le (Nat.le_of_lt hlt)]; exact cg_wl_0)]⟩
  · rw [pk_sub hge]
    exact lp_cellsOf (by omega) ⟨rfl, rfl⟩ 21 0 rfl rfl (Or.inl rfl)
