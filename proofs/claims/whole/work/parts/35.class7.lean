set_option maxHeartbeats 4000000 in
set_option maxRecDepth 100000 in
theorem lp_kstrongest {ζ : sm_Z} {d : Nat} (hd : 2 ≤ d) {I : sm_I} {K : KT} (hK : CK I 13 K) (hok : okK K) : ∀ f c : Nat, c + f = K.1 → X0 ζ d mX1_strongest 7 [some (.ref 13), some (.int (sg_r (sg_f K c))), some (.float (match sg_f K c with | none => FP.fconst0 | some b => cg_str (K.2 b 5) (K.2 b 4))), some (.int (nI c))] [] I (fun r I' => I' = I ∧ r = some (.int (sg_r (sg_f K K.1)))) := by
  have hn := hok.1
  intro f
  induction f with
  | zero =>
    intro c hc
    have hcc : c = K.1 := by omega
    subst hcc
    refine o_iload_n dX1_strongest_7 rfl rfl ?_
    refine o_aload_n dX1_strongest_8 rfl rfl ?_
    refine o_getI (v := nI K.1) dX1_strongest_9 fgX1_18 sh_13 rfl hK.1 ?_
    refine o_icmpN_ge (tgt := 65) dX1_strongest_12 (by decide) (by omega) (by omega) (fun b_73 => ?_) (fun b_73 => absurd b_73 (by omega))
    refine o_iload_n dX1_strongest_65 rfl rfl ?_
    exact o_iret dX1_strongest_66 rfl ⟨rfl, rfl⟩
  | succ f ih =>
    intro c hc'
    have hc : c < K.1 := by omega
    have hc4 : c < 4 := by omega
    have hHc := (hok.2 c hc).lH
    have hwc := (hok.2 c hc).w
    cases hf : sg_f K c with
    | none =>
      show X0 ζ d mX1_strongest 7 [some (.ref 13), some (.int (-9)), some (.float FP.fconst0), some (.int (nI c))] [] I _
      refine o_iload_n dX1_strongest_7 rfl rfl ?_
      refine o_aload_n dX1_strongest_8 rfl rfl ?_
      refine o_getI (v := nI K.1) dX1_strongest_9 fgX1_18 sh_13 rfl hK.1 ?_
      refine o_icmpN_ge (tgt := 65) dX1_strongest_12 (by decide) (by omega) (by omega) (fun b_66 => absurd b_66 (by omega)) (fun b_66 => ?_)
      refine o_aload_n dX1_strongest_15 rfl rfl ?_
      refine o_getR (b := 14) dX1_strongest_16 fgX1_11 sh_13 rfl rfl ?_
      refine o_iload_n dX1_strongest_19 rfl rfl ?_
      refine o_aaldN (t := 3) (b := 15 + c) dX1_strongest_20 sh_14 (by decide) (by decide) hc4 (g4 15 hc4) ?_
      refine o_getI (v := nI (K.2 c 4)) dX1_strongest_21 fgX1_30 (sk_13 c hc4) rfl (hK.cell hc (by decide)) ?_
      refine o_ifN_le (tgt := 59) dX1_strongest_24 (by decide) (by omega) (fun b_67 => ?_) (fun b_67 => ?_)
      · refine o_iincN (w := 1) dX1_strongest_59 rfl (by decide) (by decide) ?_
        refine o_goto (tgt := 7) dX1_strongest_62 (by decide) ?_
        have hg : sg_f K (c + 1) = none := by unfold sg_f sg_step; rw [if_neg (by omega), hf]
        have h := ih (c + 1) (by omega)
        rw [hg] at h
        exact h
      · refine o_iload_n dX1_strongest_27 rfl rfl ?_
        refine o_bipush (v := (-9)) dX1_strongest_28 (by decide) ?_
        refine o_icmp_eq (tgt := 47) dX1_strongest_30 (by decide) (fun b_68 => ?_) (fun b_68 => absurd b_68 (fun q => q rfl))
        refine o_iload_n dX1_strongest_47 rfl rfl ?_
        refine o_istore_n dX1_strongest_48 rfl (by decide) ?_
        refine o_aload_n dX1_strongest_49 rfl rfl ?_
        refine o_getR (b := 14) dX1_strongest_50 fgX1_11 sh_13 rfl rfl ?_
        refine o_iload_n dX1_strongest_53 rfl rfl ?_
        refine o_aaldN (t := 3) (b := 15 + c) dX1_strongest_54 sh_14 (by decide) (by decide) hc4 (g4 15 hc4) ?_
        refine o_callVp (v := .float (cg_str (K.2 c 5) (K.2 c 4))) (as := []) (st := []) dX1_strongest_55 (k_strength (sk_13 c hc4) (hK.cell hc (by decide)) (hK.cell hc (by decide)) (by omega) (by omega)) rfl meX0_strength imX0_strength seX0_strength mlX1_36 (sk_13 c hc4) rfl rfl (by omega) (by decide) (Nat.le_of_ble_eq_true rfl) ?_
        refine o_fstore_n dX1_strongest_58 rfl (by decide) ?_
        refine o_iincN (w := 1) dX1_strongest_59 rfl (by decide) (by decide) ?_
        refine o_goto (tgt := 7) dX1_strongest_62 (by decide) ?_
        have hg : sg_f K (c + 1) = some c := by unfold sg_f sg_step; rw [if_pos (by omega), hf]
        have h := ih (c + 1) (by omega)
        rw [hg] at h
        exact h
    | some b =>
      have hb := sg_some c b hf
      show X0 ζ d mX1_strongest 7 [some (.ref 13), some (.int (nI b)), some (.float (cg_str (K.2 b 5) (K.2 b 4))), some (.int (nI c))] [] I _
      refine o_iload_n dX1_strongest_7 rfl rfl ?_
      refine o_aload_n dX1_strongest_8 rfl rfl ?_
      refine o_getI (v := nI K.1) dX1_strongest_9 fgX1_18 sh_13 rfl hK.1 ?_
      refine o_icmpN_ge (tgt := 65) dX1_strongest_12 (by decide) (by omega) (by omega) (fun b_69 => absurd b_69 (by omega)) (fun b_69 => ?_)
      refine o_aload_n dX1_strongest_15 rfl rfl ?_
      refine o_getR (b := 14) dX1_strongest_16 fgX1_11 sh_13 rfl rfl ?_
      refine o_iload_n dX1_strongest_19 rfl rfl ?_
      refine o_aaldN (t := 3) (b := 15 + c) dX1_strongest_20 sh_14 (by decide) (by decide) hc4 (g4 15 hc4) ?_
      refine o_getI (v := nI (K.2 c 4)) dX1_strongest_21 fgX1_30 (sk_13 c hc4) rfl (hK.cell hc (by decide)) ?_
      refine o_ifN_le (tgt := 59) dX1_strongest_24 (by decide) (by omega) (fun b_70 => ?_) (fun b_70 => ?_)
      · refine o_iincN (w := 1) dX1_strongest_59 rfl (by decide) (by decide) ?_
        refine o_goto (tgt := 7) dX1_strongest_62 (by decide) ?_
        have hg : sg_f K (c + 1) = some b := by unfold sg_f sg_step; rw [if_neg (by omega), hf]
        have h := ih (c + 1) (by omega)
        rw [hg] at h
        exact h
      · refine o_iload_n dX1_strongest_27 rfl rfl ?_
        refine o_bipush (v := (-9)) dX1_strongest_28 (by decide) ?_
        refine o_icmp_eq (tgt := 47) dX1_strongest_30 (by decide) (fun b_71 => absurd b_71 (nI_nm9 (by omega))) (fun b_71 => ?_)
        refine o_aload_n dX1_strongest_33 rfl rfl ?_
        refine o_getR (b := 14) dX1_strongest_34 fgX1_11 sh_13 rfl rfl ?_
        refine o_iload_n dX1_strongest_37 rfl rfl ?_
        refine o_aaldN (t := 3) (b := 15 + c) dX1_strongest_38 sh_14 (by decide) (by decide) hc4 (g4 15 hc4) ?_
        refine o_callVp (v := .float (cg_str (K.2 c 5) (K.2 c 4))) (as := []) (st := []) dX1_strongest_39 (k_strength (sk_13 c hc4) (hK.cell hc (by decide)) (hK.cell hc (by decide)) (by omega) (by omega)) rfl meX0_strength imX0_strength seX0_strength mlX1_36 (sk_13 c hc4) rfl rfl (by omega) (by decide) (Nat.le_of_ble_eq_true rfl) ?_
        refine o_fload_n dX1_strongest_42 rfl rfl ?_
        refine o_fcmp dX1_strongest_43 ?_
        refine o_if_le (tgt := 59) dX1_strongest_44 (by decide) (fun b_72 => ?_) (fun b_72 => ?_)
        · refine o_iincN (w := 1) dX1_strongest_59 rfl (by decide) (by decide) ?_
          refine o_goto (tgt := 7) dX1_strongest_62 (by decide) ?_
          have hg : sg_f K (c + 1) = some b := by unfold sg_f sg_step; rw [if_pos (by omega), hf]; simp only []; rw [if_pos b_72]
          have h := ih (c + 1) (by omega)
          rw [hg] at h
          exact h
        · refine o_iload_n dX1_strongest_47 rfl rfl ?_
          refine o_istore_n dX1_strongest_48 rfl (by decide) ?_
          refine o_aload_n dX1_strongest_49 rfl rfl ?_
          refine o_getR (b := 14) dX1_strongest_50 fgX1_11 sh_13 rfl rfl ?_
          refine o_iload_n dX1_strongest_53 rfl rfl ?_
          refine o_aaldN (t := 3) (b := 15 + c) dX1_strongest_54 sh_14 (by decide) (by decide) hc4 (g4 15 hc4) ?_
          refine o_callVp (v := .float (cg_str (K.2 c 5) (K.2 c 4))) (as := []) (st := []) dX1_strongest_55 (k_strength (sk_13 c hc4) (hK.cell hc (by decide)) (hK.cell hc (by decide)) (by omega) (by omega)) rfl meX0_strength imX0_strength seX0_strength mlX1_36 (sk_13 c hc4) rfl rfl (by omega) (by decide) (Nat.le_of_ble_eq_true rfl) ?_
          refine o_fstore_n dX1_strongest_58 rfl (by decide) ?_
          refine o_iincN (w := 1) dX1_strongest_59 rfl (by decide) (by decide) ?_
          refine o_goto (tgt := 7) dX1_strongest_62 (by decide) ?_
          have hg : sg_f K (c + 1) = some c := by unfold sg_f sg_step; rw [if_pos (by omega), hf]; simp only []; rw [if_neg b_72]
          have h := ih (c + 1) (by omega)
          rw [hg] at h
          exact h

set_option maxHeartbeats 4000000 in
set_option maxRecDepth 100000 in
theorem k_strongest {I : sm_I} {K : KT} (hK : CK I 13 K) (hok : okK K) : E0 2 mX1_strongest [.ref 13] I (fun r I' => I' = I ∧ r = some (.int (sg_r (sg_f K K.1)))) := by
  refine E0.of (by decide) (by simp [Value.category]) (Nat.le_of_ble_eq_true rfl) (fun ζ => ?_)
  refine o_bipush (v := (-9)) dX1_strongest_0 (by decide) ?_
  refine o_istore_n dX1_strongest_2 rfl (by decide) ?_
  refine o_fconst0 dX1_strongest_3 ?_
  refine o_fstore_n dX1_strongest_4 rfl (by decide) ?_
  refine o_iconst (v := nI 0) dX1_strongest_5 (by decide) ?_
  refine o_istore_n dX1_strongest_6 rfl (by decide) ?_
  exact lp_kstrongest (by omega) hK hok K.1 0 (by omega)

set_option maxHeartbeats 4000000 in
set_option maxRecDepth 100000 in
theorem lp_kmean {ζ : sm_Z} {d : Nat} (hd : 2 ≤ d) {I : sm_I} {K : KT} (hK : CK I 13 K) (hok : okK K) (h0 : 0 < (mean_f K K.1).2) : ∀ f c : Nat, c + f = K.1 → X0 ζ d mX1_meanStrength 6 [some (.ref 13), some (.float (mean_f K c).1), some (.int (nI (mean_f K c).2)), some (.int (nI c))] [] I (fun r I' => I' = I ∧ r = some (.float (FP.fdiv (mean_f K K.1).1 (FP.i2f (nI (mean_f K K.1).2))))) := by
  have hn := hok.1
  have hlt : ∀ c, c < K.1 → K.2 c 4 < 2 ^ 31 := fun c hc => (hok.2 c hc).lt 4 (by decide)
  intro f
  induction f with
  | zero =>
    intro c hc
    have hcc : c = K.1 := by omega
    subst hcc
    have hmag := mean_mag K K.1 (fun c hc => hlt c hc) hn
    have hml := mean_le K K.1
    refine o_iload_n dX1_meanStrength_6 rfl rfl ?_
    refine o_aload_n dX1_meanStrength_7 rfl rfl ?_
    refine o_getI (v := nI K.1) dX1_meanStrength_8 fgX1_18 sh_13 rfl hK.1 ?_
    refine o_icmpN_ge (tgt := 47) dX1_meanStrength_11 (by decide) (by omega) (by omega) (fun b_74 => ?_) (fun b_74 => absurd b_74 (by omega))
    refine o_iload_n dX1_meanStrength_47 rfl rfl ?_
    refine o_ifN_ne (tgt := 55) dX1_meanStrength_48 (by decide) (by omega) (fun b_75 => ?_) (fun b_75 => absurd b_75 (by omega))
    refine o_fload_n dX1_meanStrength_55 rfl rfl ?_
    refine o_iload_n dX1_meanStrength_56 rfl rfl ?_
    refine o_i2f dX1_meanStrength_57 ?_
    refine o_fdiv dX1_meanStrength_58 (vf_of_mag (mean_vf hmag (by omega) (by omega) (by omega) (by omega)) (by omega)) ?_
    exact o_fret dX1_meanStrength_59 rfl ⟨rfl, rfl⟩
  | succ f ih =>
    intro c hc'
    have hc : c < K.1 := by omega
    have hc4 : c < 4 := by omega
    have hHc := (hok.2 c hc).lH
    have hwc := (hok.2 c hc).w
    have hmag := mean_mag K c (fun e he => hlt e (by omega)) (by omega)
    have hml := mean_le K c
    refine o_iload_n dX1_meanStrength_6 rfl rfl ?_
    refine o_aload_n dX1_meanStrength_7 rfl rfl ?_
    refine o_getI (v := nI K.1) dX1_meanStrength_8 fgX1_18 sh_13 rfl hK.1 ?_
    refine o_icmpN_ge (tgt := 47) dX1_meanStrength_11 (by decide) (by omega) (by omega) (fun b_76 => absurd b_76 (by omega)) (fun b_76 => ?_)
    refine o_aload_n dX1_meanStrength_14 rfl rfl ?_
    refine o_getR (b := 14) dX1_meanStrength_15 fgX1_11 sh_13 rfl rfl ?_
    refine o_iload_n dX1_meanStrength_18 rfl rfl ?_
    refine o_aaldN (t := 3) (b := 15 + c) dX1_meanStrength_19 sh_14 (by decide) (by decide) hc4 (g4 15 hc4) ?_
    refine o_getI (v := nI (K.2 c 4)) dX1_meanStrength_20 fgX1_30 (sk_13 c hc4) rfl (hK.cell hc (by decide)) ?_
    refine o_ifN_le (tgt := 41) dX1_meanStrength_23 (by decide) (by omega) (fun b_77 => ?_) (fun b_77 => ?_)
    · refine o_iincN (w := 1) dX1_meanStrength_41 rfl (by decide) (by decide) ?_
      refine o_goto (tgt := 6) dX1_meanStrength_44 (by decide) ?_
      have hg : mean_f K (c + 1) = mean_f K c := by rw [mean_f, if_neg (by omega)]
      have h := ih (c + 1) (by omega)
      rw [hg] at h
      exact h
    · have h0 : 0 < K.2 c 4 := by omega
      have hstr : (cg_str (K.2 c 5) (K.2 c 4)).toNat % 2 ^ 31 < (161 + 2 * c) * 2 ^ 23 := Nat.lt_of_lt_of_le (cg_str_mag h0 (by omega)) (Nat.mul_le_mul_right _ (by omega))
      refine o_fload_n dX1_meanStrength_26 rfl rfl ?_
      refine o_aload_n dX1_meanStrength_27 rfl rfl ?_
      refine o_getR (b := 14) dX1_meanStrength_28 fgX1_11 sh_13 rfl rfl ?_
      refine o_iload_n dX1_meanStrength_31 rfl rfl ?_
      refine o_aaldN (t := 3) (b := 15 + c) dX1_meanStrength_32 sh_14 (by decide) (by decide) hc4 (g4 15 hc4) ?_
      refine o_callVp (v := .float (cg_str (K.2 c 5) (K.2 c 4))) (as := []) (st := [.float ((mean_f K c).1)]) dX1_meanStrength_33 (k_strength (sk_13 c hc4) (hK.cell hc (by decide)) (hK.cell hc (by decide)) (by omega) (by omega)) rfl meX0_strength imX0_strength seX0_strength mlX1_36 (sk_13 c hc4) rfl rfl (by omega) (by decide) (Nat.le_of_ble_eq_true rfl) ?_
      refine o_fadd dX1_meanStrength_36 (vf_of_mag (Jvm.FP.Core.fadd_mag hmag hstr (by omega)) (by omega)) ?_
      refine o_fstore_n dX1_meanStrength_37 rfl (by decide) ?_
      refine o_iincN (w := 1) dX1_meanStrength_38 rfl (by decide) (by decide) ?_
      refine o_iincN (w := 1) dX1_meanStrength_41 rfl (by decide) (by decide) ?_
      refine o_goto (tgt := 6) dX1_meanStrength_44 (by decide) ?_
      have hg : mean_f K (c + 1) = (FP.fadd (mean_f K c).1 (cg_str (K.2 c 5) (K.2 c 4)), (mean_f K c).2 + 1) := by rw [mean_f, if_pos (by omega)]
      have h := ih (c + 1) (by omega)
      rw [hg] at h
      exact h

set_option maxHeartbeats 4000000 in
set_option maxRecDepth 100000 in
theorem k_mean {I : sm_I} {K : KT} (hK : CK I 13 K) (hok : okK K) (h0 : 0 < (mean_f K K.1).2) : E0 2 mX1_meanStrength [.ref 13] I (fun r I' => I' = I ∧ r = some (.float (FP.fdiv (mean_f K K.1).1 (FP.i2f (nI (mean_f K K.1).2))))) := by
  refine E0.of (by decide) (by simp [Value.category]) (Nat.le_of_ble_eq_true rfl) (fun ζ => ?_)
  refine o_fconst0 dX1_meanStrength_0 ?_
  refine o_fstore_n dX1_meanStrength_1 rfl (by decide) ?_
  refine o_iconst (v := nI 0) dX1_meanStrength_2 (by decide) ?_
  refine o_istore_n dX1_meanStrength_3 rfl (by decide) ?_
  refine o_iconst (v := nI 0) dX1_meanStrength_4 (by decide) ?_
  refine o_istore_n dX1_meanStrength_5 rfl (by decide) ?_
  exact lp_kmean (by omega) hK hok h0 K.1 0 (by omega)

theorem sg_mean (K : KT) : ∀ n, sg_f K n = none ↔ (mean_f K n).2 = 0
  | 0 => ⟨fun _ => rfl, fun _ => rfl⟩
  | n + 1 => by
    have ih := sg_mean K n
    unfold sg_f sg_step mean_f
    by_cases h : 0 < K.2 n 4
    · rw [if_pos h, if_pos h]
      constructor
      · intro q
        split at q
        · cases q
        · split at q <;> cases q
      · intro q
        exact absurd q (Nat.succ_ne_zero _)
    · rw [if_neg h, if_neg h]
      exact ih
theorem sg_r9 {K : KT} {n : Nat} (hn : n < 2 ^ 31) : sg_r (sg_f K n) = -9 ↔ (mean_f K n).2 = 0 := by
  rw [← sg_mean]
  cases hf : sg_f K n with
  | none => exact ⟨fun _ => rfl, fun _ => rfl⟩
  | some b =>
    have hb := sg_some n b hf
    exact ⟨fun q => absurd q (nI_nm9 (by omega)), fun q => by cases q⟩

set_option maxHeartbeats 4000000 in
set_option maxRecDepth 100000 in
theorem n_all {I : sm_I} {K : KT} (hK : CK I 13 K) (hok : okK K) (hV : LV I) (w : Int32) : E0 7 mX8_all [.ref 0, .int w] I (fun r I' => r = some (.int (sp_all K w)) ∧ frC I I' ∧ LV I') := by
  have hn := hok.1
  refine E0.of (by decide) (by simp [Value.category]) (Nat.le_of_ble_eq_true rfl) (fun ζ => ?_)
  refine o_iload_n dX8_all_0 rfl rfl ?_
  refine o_if_ne (tgt := 12) dX8_all_1 (by decide) (fun b_78 => ?_) (fun b_78 => ?_)
  · refine o_iload_n dX8_all_12 rfl rfl ?_
    refine o_iconst (v := nI 1) dX8_all_13 (by decide) ?_
    refine o_icmp_ne (tgt := 45) dX8_all_14 (by decide) (fun b_79 => ?_) (fun b_79 => ?_)
    · refine o_iconst (v := (-1)) dX8_all_45 (by decide) ?_
      exact o_iret dX8_all_46 rfl ⟨by unfold sp_all; rw [if_neg b_78, if_neg (show ¬ w = 1 from b_79)], (frC.refl _), hV⟩
    · refine o_aload_n dX8_all_17 rfl rfl ?_
      refine o_getR (b := 13) dX8_all_18 fgX8_28 sh_0 rfl rfl ?_
      refine o_callVp (v := .int (sg_r (sg_f K K.1))) (as := []) (st := []) dX8_all_21 (k_strongest hK hok) rfl meX1_strongest imX1_strongest seX1_strongest mlX8_205 sh_13 rfl rfl (by omega) (by decide) (Nat.le_of_ble_eq_true rfl) ?_
      refine o_bipush (v := (-9)) dX8_all_24 (by decide) ?_
      refine o_icmp_ne (tgt := 34) dX8_all_26 (by decide) (fun b_80 => ?_) (fun b_80 => ?_)
      · refine o_aload_n dX8_all_34 rfl rfl ?_
        refine o_getR (b := 13) dX8_all_35 fgX8_28 sh_0 rfl rfl ?_
        have hm0 : 0 < (mean_f K K.1).2 := Nat.pos_of_ne_zero (fun q => b_80 ((sg_r9 (by omega)).mpr q))
        have hmag := mean_mag K K.1 (fun c hc => (hok.2 c hc).lt 4 (by decide)) hn
        have hml := mean_le K K.1
        refine o_callVp (v := .float (FP.fdiv (mean_f K K.1).1 (FP.i2f (nI (mean_f K K.1).2)))) (as := []) (st := []) dX8_all_38 (k_mean hK hok hm0) rfl meX1_meanStrength imX1_meanStrength seX1_meanStrength mlX8_208 sh_13 rfl rfl (by omega) (by decide) (Nat.le_of_ble_eq_true rfl) ?_
        refine o_callSp (v := .int (cg_thou (FP.fdiv (mean_f K K.1).1 (FP.i2f (nI (mean_f K K.1).2))))) (as := [.float (FP.fdiv (mean_f K K.1).1 (FP.i2f (nI (mean_f K K.1).2)))]) (st := []) dX8_all_41 (k_thou _ (cg_thou_mag (mean_vf hmag (by omega) (by omega) hm0 (by omega)) (by omega))) rfl meX8_inThousandths ssX8_inThousandths mlX8_166 (by omega) (by decide) (Nat.le_of_ble_eq_true rfl) ?_
        exact o_iret dX8_all_44 rfl ⟨by unfold sp_all; rw [if_neg b_78, if_pos (show w = 1 from b_79)]; unfold mean_r; rw [if_neg (fun q => b_80 ((sg_r9 (by omega)).mpr q))], (frC.refl _), hV⟩
      · refine o_bipush (v := (-9)) dX8_all_29 (by decide) ?_
        refine o_goto (tgt := 44) dX8_all_31 (by decide) ?_
        exact o_iret dX8_all_44 rfl ⟨by unfold sp_all; rw [if_neg b_78, if_pos (show w = 1 from b_79)]; unfold mean_r; rw [if_pos ((sg_r9 (by omega)).mp b_80)], (frC.refl _), hV⟩
  · refine o_aload_n dX8_all_4 rfl rfl ?_
    refine o_getR (b := 13) dX8_all_5 fgX8_28 sh_0 rfl rfl ?_
    refine o_callVp (v := .int (sg_r (sg_f K K.1))) (as := []) (st := []) dX8_all_8 (k_strongest hK hok) rfl meX1_strongest imX1_strongest seX1_strongest mlX8_205 sh_13 rfl rfl (by omega) (by decide) (Nat.le_of_ble_eq_true rfl) ?_
    exact o_iret dX8_all_11 rfl ⟨by unfold sp_all; rw [if_pos b_78], (frC.refl _), hV⟩

theorem isLv_ne {a : Nat} (h : isLv a) : a ≠ 104 ∧ a + 1 ≠ 104 ∧ a ≠ 105 ∧ a + 1 ≠ 105 := by
  refine ⟨fun e => ?_, fun e => ?_, fun e => ?_, fun e => ?_⟩
  · have h1 := h.1; rw [e, sh_104] at h1; injection h1 with h2 h3; injection h3 with h4; cases h4
  · have h1 := h.2; rw [e, sh_104] at h1; injection h1 with h2 h3; cases h2
  · have h1 := h.1; rw [e, sh_105] at h1; injection h1 with h2 h3; cases h2
  · have h1 := h.2; rw [e, sh_105] at h1; injection h1 with h2 h3; injection h3 with h4; cases h4
def fr4 (I I' : sm_I) : Prop := ∀ x k, x ≠ 104 → I' x k = I x k
theorem fr4.trans {I J K : sm_I} (h1 : fr4 I J) (h2 : fr4 J K) : fr4 I K := fun x k z => (h2 x k z).trans (h1 x k z)
def SI (I : sm_I) (u : Nat → Nat) (w : Nat) (s : TT) : Prop := I 104 0 = nI s.1 ∧ (s.1 ≤ w → I 104 1 = nI s.2.1 ∧ I 104 2 = nI s.2.2 ∧ I 104 3 = nI (sh_first u w s.2.1) ∧ I 104 4 = nI (sh_last u w s.2.2))

set_option maxHeartbeats 4000000 in
set_option maxRecDepth 100000 in
theorem k_weigh {I : sm_I} {a : Nat} (hL : isLv a) {l S H B : Nat} (q1 : S ≤ 12) (q4 : B ≤ 20) (hM : LM I a l S H B) {w y z : Nat} (hw : w < 2 ^ 30) (hz : z ≤ y) (hy : y ≤ cg_top S B l) {s : TT} (hs1 : s.1 ≤ w + 1) (hs : SI I (cg_U S H B l) w s) : E0 2 mX5_weigh [.ref 104, .ref a, .int (nI w), .int (nI y), .int (nI z)] I (fun r I' => r = none ∧ SI I' (cg_U S H B l) w (sh_step (cg_U S H B l) w s y z) ∧ fr4 I I') := by
  have ht : cg_top S B l ≤ 40 := cg_top_le q1 q4
  have hu1 : cg_U S H B l y ≤ 67200 := cg_U_le q1 q4 (by omega)
  have hu2 : cg_U S H B l z ≤ 67200 := cg_U_le q1 q4 (by omega)
  have hum : cg_U S H B l z ≤ cg_U S H B l y := cg_U_mono hz
  refine E0.of (by decide) (by simp [Value.category]) (Nat.le_of_ble_eq_true rfl) (fun ζ => ?_)
  refine o_aload_n dX5_weigh_0 rfl rfl ?_
  refine o_iload_n dX5_weigh_1 rfl rfl ?_
  refine o_callVp (v := .int (nI (cg_U S H B l y))) (as := [.int (nI y)]) (st := []) dX5_weigh_2 (k_amountAt hL.1 hL.2 ht hM.2.2.2.2.1 (by omega) (hM.2.2.2.2.2 _ (by omega))) rfl meX2_amountAt imX2_amountAt seX2_amountAt mlX5_31 hL.1 rfl rfl (by omega) (by decide) (Nat.le_of_ble_eq_true rfl) ?_
  refine o_iload_n dX5_weigh_5 rfl rfl ?_
  refine o_minN dX5_weigh_6 mlX5_21 (by omega) (by omega) (by omega) (Nat.le_of_ble_eq_true rfl) ?_
  refine o_istore dX5_weigh_9 (by decide) ?_
  refine o_aload_n dX5_weigh_11 rfl rfl ?_
  refine o_iload dX5_weigh_12 rfl ?_
  refine o_callVp (v := .int (nI (cg_U S H B l z))) (as := [.int (nI z)]) (st := []) dX5_weigh_14 (k_amountAt hL.1 hL.2 ht hM.2.2.2.2.1 (by omega) (hM.2.2.2.2.2 _ (by omega))) rfl meX2_amountAt imX2_amountAt seX2_amountAt mlX5_31 hL.1 rfl rfl (by omega) (by decide) (Nat.le_of_ble_eq_true rfl) ?_
  refine o_iload_n dX5_weigh_17 rfl rfl ?_
  refine o_minN dX5_weigh_18 mlX5_21 (by omega) (by omega) (by omega) (Nat.le_of_ble_eq_true rfl) ?_
  refine o_istore dX5_weigh_21 (by decide) ?_
  refine o_iload dX5_weigh_23 rfl ?_
  refine o_iload dX5_weigh_25 rfl ?_
  refine o_isubN dX5_weigh_27 (by omega) ?_
  refine o_istore dX5_weigh_28 (by decide) ?_
  refine o_iload_n dX5_weigh_30 rfl rfl ?_
  refine o_iload dX5_weigh_31 rfl ?_
  refine o_isubN dX5_weigh_33 (by omega) ?_
  refine o_iload dX5_weigh_34 rfl ?_
  refine o_maxN dX5_weigh_36 mlX5_34 (by omega) (by omega) (by omega) (Nat.le_of_ble_eq_true rfl) ?_
  refine o_iload dX5_weigh_39 rfl ?_
  refine o_maxN dX5_weigh_41 mlX5_34 (by omega) (by omega) (by omega) (Nat.le_of_ble_eq_true rfl) ?_
  refine o_istore dX5_weigh_44 (by decide) ?_
  rw [show max (max (w - (min (cg_U S H B l y) w)) (min (cg_U S H B l z) w)) ((min (cg_U S H B l y) w) - (min (cg_U S H B l z) w)) = sh_most (cg_U S H B l) w y z by unfold sh_most sh_first sh_last; omega]
  have hml := sh_most_le (u := cg_U S H B l) (w := w) (y := y) (z := z)
  refine o_iload dX5_weigh_46 rfl ?_
  refine o_aload_n dX5_weigh_48 rfl rfl ?_
  refine o_getI (v := nI s.1) dX5_weigh_49 fgX5_9 sh_104 rfl hs.1 ?_
  refine o_icmpN_ge (tgt := 86) dX5_weigh_52 (by decide) (by omega) (by omega) (fun b_81 => ?_) (fun b_81 => ?_)
  · exact o_vret dX5_weigh_86 rfl ⟨rfl, by unfold sh_step; rw [if_neg (by omega)]; exact hs, fun _ _ _ => rfl⟩
  · refine o_aload_n dX5_weigh_55 rfl rfl ?_
    refine o_iload dX5_weigh_56 rfl ?_
    refine o_putI dX5_weigh_58 flX5_9 sh_104 rfl ?_
    refine o_aload_n dX5_weigh_61 rfl rfl ?_
    refine o_iload_n dX5_weigh_62 rfl rfl ?_
    refine o_putI dX5_weigh_63 flX5_37 sh_104 rfl ?_
    refine o_aload_n dX5_weigh_66 rfl rfl ?_
    refine o_iload dX5_weigh_67 rfl ?_
    refine o_putI dX5_weigh_69 flX5_40 sh_104 rfl ?_
    refine o_aload_n dX5_weigh_72 rfl rfl ?_
    refine o_iload_n dX5_weigh_73 rfl rfl ?_
    refine o_iload dX5_weigh_74 rfl ?_
    refine o_isubN dX5_weigh_76 (by omega) ?_
    refine o_putI dX5_weigh_77 flX5_43 sh_104 rfl ?_
    refine o_aload_n dX5_weigh_80 rfl rfl ?_
    refine o_iload dX5_weigh_81 rfl ?_
    refine o_putI dX5_weigh_83 flX5_46 sh_104 rfl ?_
    exact o_vret dX5_weigh_86 rfl ⟨rfl, by unfold sh_step; rw [if_pos (by omega)]; exact ⟨((up2_x (by omega)).trans ((up2_x (by omega)).trans ((up2_x (by omega)).trans ((up2_x (by omega)).trans up2_s)))), fun _ => ⟨((up2_x (by omega)).trans ((up2_x (by omega)).trans ((up2_x (by omega)).trans up2_s))), ((up2_x (by omega)).trans ((up2_x (by omega)).trans up2_s)), ((up2_x (by omega)).trans (up2_s.trans (congrArg nI (show w - min (cg_U S H B l y) w = w - cg_U S H B l y by omega)))), up2_s⟩⟩, fun x k z => ((up2_x (by omega)).trans ((up2_x (by omega)).trans ((up2_x (by omega)).trans ((up2_x (by omega)).trans ((up2_x (by omega)).trans rfl)))))⟩

set_option maxHeartbeats 4000000 in
set_option maxRecDepth 100000 in
theorem lp_fair_in {ζ : sm_Z} {d : Nat} (hd : 4 ≤ d) {I0 : sm_I} {a : Nat} (hL : isLv a) {l S H B : Nat} (q1 : S ≤ 12) (q4 : B ≤ 20) (hM : LM I0 a l S H B) {w p D : Nat} (hw : w < 2 ^ 30) (hD : D ≤ cg_top S B l) {Q : Option Value → sm_I → Prop} {y : Nat} (hy : y ≤ D) : ∀ (f z : Nat) (s : TT) (I : sm_I), z + f = y + 1 → s.1 ≤ w + 1 → SI I (cg_U S H B l) w s → fr4 I0 I → (∀ I' : sm_I, SI I' (cg_U S H B l) w (sh_in (cg_U S H B l) w y f z s) → fr4 I0 I' → ∀ a6, X0 ζ d mX5_findFairest 65 [some (.ref 104), some (.ref a), some (.int (nI w)), some (.int (nI p)), some (.int (nI D)), some (.int (nI y)), a6] [] I' Q) → X0 ζ d mX5_findFairest 42 [some (.ref 104), some (.ref a), some (.int (nI w)), some (.int (nI p)), some (.int (nI D)), some (.int (nI y)), some (.int (nI z))] [] I Q := by
  have ht : cg_top S B l ≤ 40 := cg_top_le q1 q4
  have hne := isLv_ne hL
  intro f
  induction f with
  | zero =>
    intro z s I hz hs1 hs hf hx
    refine o_iload dX5_findFairest_42 rfl ?_
    refine o_iload dX5_findFairest_44 rfl ?_
    refine o_icmpN_gt (tgt := 65) dX5_findFairest_46 (by decide) (by omega) (by omega) (fun b_82 => ?_) (fun b_82 => absurd b_82 (by omega))
    exact hx I hs hf _
  | succ f ih =>
    intro z s I hz hs1 hs hf hx
    refine o_iload dX5_findFairest_42 rfl ?_
    refine o_iload dX5_findFairest_44 rfl ?_
    refine o_icmpN_gt (tgt := 65) dX5_findFairest_46 (by decide) (by omega) (by omega) (fun b_83 => absurd b_83 (by omega)) (fun b_83 => ?_)
    refine o_aload_n dX5_findFairest_49 rfl rfl ?_
    refine o_aload_n dX5_findFairest_50 rfl rfl ?_
    refine o_iload_n dX5_findFairest_51 rfl rfl ?_
    refine o_iload dX5_findFairest_52 rfl ?_
    refine o_iload dX5_findFairest_54 rfl ?_
    refine o_callV (as := [.ref a, .int (nI w), .int (nI y), .int (nI z)]) (st := []) dX5_findFairest_56 (k_weigh hL q1 q4 (hM.of (fun b k z1 z2 => hf b k (by omega))) hw (by omega) (by omega) hs1 hs) rfl meX5_weigh imX5_weigh seX5_weigh mlX5_27 sh_104 rfl rfl (by omega) (by decide) (Nat.le_of_ble_eq_true rfl) ?_
    rintro _ I1 ⟨rfl, g1, g2⟩
    refine o_iincN (w := 1) dX5_findFairest_59 rfl (by decide) (by decide) ?_
    refine o_goto (tgt := 42) dX5_findFairest_62 (by decide) ?_
    exact ih (z + 1) _ I1 (by omega) (Nat.le_trans sh_step_le hs1) g1 (hf.trans g2) hx

set_option maxHeartbeats 4000000 in
set_option maxRecDepth 100000 in
theorem lp_fair {ζ : sm_Z} {d : Nat} (hd : 4 ≤ d) {I0 : sm_I} {a : Nat} (hL : isLv a) {l S H B : Nat} (q1 : S ≤ 12) (q4 : B ≤ 20) (hM : LM I0 a l S H B) {w p D : Nat} (hw : w < 2 ^ 30) (hD : D ≤ cg_top S B l) {Q : Option Value → sm_I → Prop} (hp : p ≤ 3) : ∀ (f y : Nat) (s : TT) (I : sm_I), y + f = D + 1 → s.1 ≤ w + 1 → SI I (cg_U S H B l) w s → fr4 I0 I → (∀ I' : sm_I, SI I' (cg_U S H B l) w (sh_out (cg_U S H B l) w p f y s) → fr4 I0 I' → Q none I') → ∀ a6, X0 ζ d mX5_findFairest 22 [some (.ref 104), some (.ref a), some (.int (nI w)), some (.int (nI p)), some (.int (nI D)), some (.int (nI y)), a6] [] I Q := by
  have ht : cg_top S B l ≤ 40 := cg_top_le q1 q4
  intro f
  induction f with
  | zero =>
    intro y s I hy hs1 hs hf hx a6
    refine o_iload dX5_findFairest_22 rfl ?_
    refine o_iload dX5_findFairest_24 rfl ?_
    refine o_icmpN_gt (tgt := 71) dX5_findFairest_26 (by decide) (by omega) (by omega) (fun b_84 => ?_) (fun b_84 => absurd b_84 (by omega))
    exact o_vret dX5_findFairest_71 rfl (hx I hs hf)
  | succ f ih =>
    intro y s I hy hs1 hs hf hx a6
    refine o_iload dX5_findFairest_22 rfl ?_
    refine o_iload dX5_findFairest_24 rfl ?_
    refine o_icmpN_gt (tgt := 71) dX5_findFairest_26 (by decide) (by omega) (by omega) (fun b_85 => absurd b_85 (by omega)) (fun b_85 => ?_)
    refine o_iload_n dX5_findFairest_29 rfl rfl ?_
    refine o_iconst (v := nI 2) dX5_findFairest_30 (by decide) ?_
    refine o_icmpN_ne (tgt := 39) dX5_findFairest_31 (by decide) (by omega) (by omega) (fun b_86 => ?_) (fun b_86 => ?_)
    · refine o_iconst (v := nI 0) dX5_findFairest_39 (by decide) ?_
      refine o_istore dX5_findFairest_40 (by decide) ?_
      have hz0 : sh_z0 p y = 0 := by unfold sh_z0; rw [if_neg (by omega)]
      refine lp_fair_in hd hL q1 q4 hM hw hD (by omega) (y + 1 - 0) 0 s I (by omega) hs1 hs hf (fun I1 g1 g2 a6 => ?_)
      rw [show sh_in (cg_U S H B l) w y (y + 1 - 0) 0 s = sh_in (cg_U S H B l) w y (y + 1 - sh_z0 p y) (sh_z0 p y) s by rw [hz0]] at g1
      refine o_iincN (w := 1) dX5_findFairest_65 rfl (by decide) (by decide) ?_
      refine o_goto (tgt := 22) dX5_findFairest_68 (by decide) ?_
      exact ih (y + 1) _ I1 (by omega) (Nat.le_trans (sh_in_le _ _ _) hs1) g1 g2 (by rw [sh_out] at hx; exact hx) _
    · refine o_iload dX5_findFairest_34 rfl ?_
      refine o_goto (tgt := 40) dX5_findFairest_36 (by decide) ?_
      refine o_istore dX5_findFairest_40 (by decide) ?_
      have hz0 : sh_z0 p y = y := by unfold sh_z0; rw [if_pos (by omega)]
      refine lp_fair_in hd hL q1 q4 hM hw hD (by omega) (y + 1 - y) y s I (by omega) hs1 hs hf (fun I1 g1 g2 a6 => ?_)
      rw [show sh_in (cg_U S H B l) w y (y + 1 - y) y s = sh_in (cg_U S H B l) w y (y + 1 - sh_z0 p y) (sh_z0 p y) s by rw [hz0]] at g1
      refine o_iincN (w := 1) dX5_findFairest_65 rfl (by decide) (by decide) ?_
      refine o_goto (tgt := 22) dX5_findFairest_68 (by decide) ?_
      exact ih (y + 1) _ I1 (by omega) (Nat.le_trans (sh_in_le _ _ _) hs1) g1 g2 (by rw [sh_out] at hx; exact hx) _

set_option maxHeartbeats 4000000 in
set_option maxRecDepth 100000 in
theorem k_fair {I : sm_I} {a : Nat} (hL : isLv a) {l S H B : Nat} (q1 : S ≤ 12) (q4 : B ≤ 20) (hM : LM I a l S H B) {w p : Nat} (hw : w < 2 ^ 30) (hwh : w ≤ cg_hold S H B l) (hp : p ≤ 3) : E0 4 mX5_findFairest [.ref 104, .ref a, .int (nI w), .int (nI p)] I (fun r I' => r = none ∧ SI I' (cg_U S H B l) w (sh_res (cg_U S H B l) w p (cg_dip (cg_U S H B l) (cg_top S B l) w)) ∧ fr4 I I') := by
  have ht : cg_top S B l ≤ 40 := cg_top_le q1 q4
  have hne := isLv_ne hL
  have hDT : cg_dip (cg_U S H B l) (cg_top S B l) w ≤ cg_top S B l := cg_dip_le _ _ _
  refine E0.of (by decide) (by simp [Value.category]) (Nat.le_of_ble_eq_true rfl) (fun ζ => ?_)
  refine o_aload_n dX5_findFairest_0 rfl rfl ?_
  refine o_iload_n dX5_findFairest_1 rfl rfl ?_
  refine o_iconst (v := nI 1) dX5_findFairest_2 (by decide) ?_
  refine o_iaddN dX5_findFairest_3 ?_
  refine o_putI dX5_findFairest_4 flX5_9 sh_104 rfl ?_
  refine o_aload_n dX5_findFairest_7 rfl rfl ?_
  refine o_iload_n dX5_findFairest_8 rfl rfl ?_
  have hlr := ld_le (cg_U S H B l) w (cg_top S B l + 1) 0 (by omega)
  refine o_callVp (v := .int (nI (ld (cg_U S H B l) w (cg_top S B l + 1) 0))) (as := [.int (nI w)]) (st := []) dX5_findFairest_9 (k_ld hL q1 q4 (hM.of (fun b k z1 z2 => up2_x (by omega))) (by omega)) rfl meX2_leastDip imX2_leastDip seX2_leastDip mlX5_15 hL.1 rfl rfl (by omega) (by decide) (Nat.le_of_ble_eq_true rfl) ?_
  refine o_bipush (v := nI 40) dX5_findFairest_12 (by decide) ?_
  refine o_minN dX5_findFairest_14 mlX5_21 (by omega) (by omega) (by omega) (Nat.le_of_ble_eq_true rfl) ?_
  refine o_istore dX5_findFairest_17 (by decide) ?_
  rw [show min (ld (cg_U S H B l) w (cg_top S B l + 1) 0) 40 = cg_dip (cg_U S H B l) (cg_top S B l) w by rw [ld_eq (u := cg_U S H B l) (fun a b h => cg_U_mono h), if_pos (show w ≤ cg_U S H B l (cg_top S B l) from hwh)]; omega]
  refine o_iconst (v := nI 0) dX5_findFairest_19 (by decide) ?_
  refine o_istore dX5_findFairest_20 (by decide) ?_
  refine lp_fair (I0 := up2 I 104 0 (nI (w + 1))) (by omega) hL q1 q4 (hM.of (fun b k z1 z2 => up2_x (by omega))) hw hDT hp (cg_dip (cg_U S H B l) (cg_top S B l) w + 1) 0 (w + 1, 0, 0) _ (by omega) (Nat.le_refl _) ⟨up2_s, fun z => absurd z (Nat.not_succ_le_self w)⟩ (fun _ _ _ => rfl) (fun I' g1 g2 => ⟨rfl, g1, fun x k z => (g2 x k z).trans (up2_x (by omega))⟩) _

theorem sh_res_le {u : Nat → Nat} {w m d : Nat} : (sh_res u w m d).1 ≤ w := by
  unfold sh_res
  rw [sh_out]
  refine Nat.le_trans (sh_out_le _ _ _) ?_
  rw [show sh_z0 m 0 = 0 by unfold sh_z0; split <;> rfl]
  show (sh_step u w (w + 1, 0, 0) 0 0).1 ≤ w
  have := sh_most_le (u := u) (w := w) (y := 0) (z := 0)
  unfold sh_step
  rw [if_pos (by show _ < w + 1; omega)]
  exact this

set_option maxHeartbeats 4000000 in
set_option maxRecDepth 100000 in
theorem n_shares {I : sm_I} {K : KT} (hK : CK I 13 K) (hok : okK K) (hV : LV I) (c m k : Int32) : E0 7 mX8_shares [.ref 0, .int c, .int m, .int k] I (fun r I' => r = some (.int (sp_shares K c m k)) ∧ frC I I' ∧ LV I') := by
  have hn := hok.1
  refine E0.of (by decide) (by simp [Value.category]) (Nat.le_of_ble_eq_true rfl) (fun ζ => ?_)
  rcases sl_cases (B := 2) (by decide) (by decide) k with ⟨rfl, hz1, hz2⟩ | ⟨e, he, rfl, hne, hz1, hz2, hx⟩ | ⟨hne, hx, hz⟩
  · refine o_aload_n dX8_shares_0 rfl rfl ?_
    refine o_getR (b := 13) dX8_shares_1 fgX8_28 sh_0 rfl rfl ?_
    refine o_iload_n dX8_shares_4 rfl rfl ?_
    refine o_callV (as := [.int c]) (st := []) dX8_shares_5 (k_has isCl_13 hK hn c) rfl meX1_has imX1_has seX1_has mlX8_106 sh_13 rfl rfl (by omega) (by decide) (Nat.le_of_ble_eq_true rfl) ?_
    rintro _ _ ⟨rfl, ⟨c, hc, rfl, rfl⟩ | ⟨hno, rfl⟩⟩
    · have hc4 : c < 4 := by omega
      obtain ⟨q0, q1, q2, q3, q4, q5, q6, q7⟩ := id (hok.2 c hc)
      have hHc := (hok.2 c hc).lH
      have hTc := (hok.2 c hc).lT
      have hwc := (hok.2 c hc).w
      refine o_ifN_eq (tgt := 41) dX8_shares_8 (by decide) (by omega) (fun b_87 => absurd b_87 (by omega)) (fun b_87 => ?_)
      refine o_iload_n dX8_shares_11 rfl rfl ?_
      refine o_iconst (v := nI 2) dX8_shares_12 (by decide) ?_
      refine o_icmp_lt (tgt := 41) dX8_shares_13 (by decide) (fun b_88 => ?_) (fun b_88 => ?_)
      · refine o_iconst (v := (-1)) dX8_shares_41 (by decide) ?_
        exact o_iret dX8_shares_42 rfl ⟨by simp only [sp_shares, cg_ix_some hc (by omega : K.1 ≤ 2 ^ 31), cg_in_none (by decide : 2 < 2 ^ 31) (by decide : 3 < 2 ^ 31) (fun q => absurd q.1 (Int32.not_le.mpr b_88))], (frC.refl _), hV⟩
      · refine o_iload_n dX8_shares_16 rfl rfl ?_
        refine o_iconst (v := nI 3) dX8_shares_17 (by decide) ?_
        refine o_icmp_gt (tgt := 41) dX8_shares_18 (by decide) (fun b_89 => ?_) (fun b_89 => ?_)
        · refine o_iconst (v := (-1)) dX8_shares_41 (by decide) ?_
          exact o_iret dX8_shares_42 rfl ⟨by simp only [sp_shares, cg_ix_some hc (by omega : K.1 ≤ 2 ^ 31), cg_in_none (by decide : 2 < 2 ^ 31) (by decide : 3 < 2 ^ 31) (fun q => absurd q.2 (Int32.not_le.mpr b_89))], (frC.refl _), hV⟩
        · obtain ⟨p, hp1, hp2, rfl⟩ := in_nat (a := 2) (b := 3) (by omega) (by omega) (Int32.not_lt.mp b_88) (Int32.not_lt.mp b_89)
          refine o_iload_n dX8_shares_21 rfl rfl ?_
          refine o_iconst (v := (-1)) dX8_shares_22 (by decide) ?_
          refine o_icmp_lt (tgt := 41) dX8_shares_23 (by decide) (fun b_90 => absurd b_90 (by decide)) (fun b_90 => ?_)
          refine o_iload_n dX8_shares_26 rfl rfl ?_
          refine o_iconst (v := nI 3) dX8_shares_27 (by decide) ?_
          refine o_icmp_gt (tgt := 41) dX8_shares_28 (by decide) (fun b_91 => absurd b_91 (by decide)) (fun b_91 => ?_)
          refine o_iload_n dX8_shares_31 rfl rfl ?_
          refine o_iconst (v := nI 1) dX8_shares_32 (by decide) ?_
          refine o_icmp_ne (tgt := 43) dX8_shares_33 (by decide) (fun b_92 => ?_) (fun b_92 => absurd b_92 (by decide))
          refine o_aload_n dX8_shares_43 rfl rfl ?_
          refine o_getR (b := 13) dX8_shares_44 fgX8_28 sh_0 rfl rfl ?_
          refine o_getR (b := 14) dX8_shares_47 fgX8_113 sh_13 rfl rfl ?_
          refine o_iload_n dX8_shares_50 rfl rfl ?_
          refine o_aaldN (t := 3) (b := 15 + c) dX8_shares_51 sh_14 (by decide) (by decide) hc4 (g4 15 hc4) ?_
          refine o_getI (v := nI (K.2 c 4)) dX8_shares_52 fgX8_123 (sk_13 c hc4) rfl (hK.cell hc (by decide)) ?_
          refine o_istore dX8_shares_55 (by decide) ?_
          refine o_iload dX8_shares_57 rfl ?_
          refine o_ifN_ne (tgt := 65) dX8_shares_59 (by decide) (by omega) (fun b_93 => ?_) (fun b_93 => ?_)
          · refine o_aload_n dX8_shares_65 rfl rfl ?_
            refine o_getR (b := 104) dX8_shares_66 fgX8_69 sh_0 rfl rfl ?_
            refine o_aload_n dX8_shares_69 rfl rfl ?_
            refine o_iload_n dX8_shares_70 rfl rfl ?_
            refine o_callV (as := [.int (nI c)]) (st := [.ref 104]) dX8_shares_71 (k_lev hK hok hV hc) rfl meX8_levelsOf imX8_levelsOf seX8_levelsOf mlX8_149 sh_0 rfl rfl (by omega) (by decide) (Nat.le_of_ble_eq_true rfl) ?_
            rintro _ I1 ⟨la1, rfl, hL1, hM1, hf1, hV1⟩
            have hK1 : CK I1 13 K := hK.frC hn hf1
            have hT1 := (hok.2 c hc).lT
            have hU1 : ∀ y, y ≤ 40 → cU K c y ≤ 67200 := fun y hy => (hok.2 c hc).lU hy
            have hH1 := (hok.2 c hc).lH
            refine o_iload dX8_shares_74 rfl ?_
            refine o_iload_n dX8_shares_76 rfl rfl ?_
            refine o_callV (as := [.ref la1, .int (nI (K.2 c 4)), .int (nI p)]) (st := []) dX8_shares_77 (k_fair hL1 q1 q4 hM1 (by omega) (by first | exact hwc | omega) hp2) rfl meX5_findFairest imX5_findFairest seX5_findFairest mlX8_186 sh_104 rfl rfl (by omega) (by decide) (Nat.le_of_ble_eq_true rfl) ?_
            rintro _ I2 ⟨rfl, g1, g2⟩
            refine o_iload_n dX8_shares_80 rfl rfl ?_
            refine o_tableOut (tgt := 144) dX8_shares_81 (by decide) (by decide) ?_
            refine o_aload_n dX8_shares_144 rfl rfl ?_
            refine o_getR (b := 104) dX8_shares_145 fgX8_69 sh_0 rfl rfl ?_
            refine o_getI (v := nI ((sh_res (cU K c) (K.2 c 4) p (cg_dip (cU K c) (cT K c) (K.2 c 4))).1)) dX8_shares_148 fgX8_202 sh_104 rfl g1.1 ?_
            exact o_iret dX8_shares_151 rfl ⟨by simp only [sp_shares, cg_ix_some hc (by omega : K.1 ≤ 2 ^ 31), cg_in_some hp1 hp2 (by decide : 3 < 2 ^ 31)]; rw [if_pos trivial, if_neg (by omega)], (((frC.refl _).trans hf1).trans (fun x k z => g2 x k (by unfold ci at z; omega))), (hV1.of (fun b k z1 z2 => g2 b k (by omega)))⟩
          · refine o_bipush (v := (-2)) dX8_shares_62 (by decide) ?_
            exact o_iret dX8_shares_64 rfl ⟨by simp only [sp_shares, cg_ix_some hc (by omega : K.1 ≤ 2 ^ 31), cg_in_some hp1 hp2 (by decide : 3 < 2 ^ 31)]; rw [if_pos trivial, if_pos (by omega)], (frC.refl _), hV⟩
    · refine o_ifN_eq (tgt := 41) dX8_shares_8 (by decide) (by omega) (fun b_94 => ?_) (fun b_94 => absurd b_94 (by omega))
      refine o_iconst (v := (-1)) dX8_shares_41 (by decide) ?_
      exact o_iret dX8_shares_42 rfl ⟨by simp only [sp_shares, hno], (frC.refl _), hV⟩
  · rcases (show e = 0 ∨ e = 1 ∨ e = 2 ∨ e = 3 by omega) with rfl | rfl | rfl | rfl
    · refine o_aload_n dX8_shares_0 rfl rfl ?_
      refine o_getR (b := 13) dX8_shares_1 fgX8_28 sh_0 rfl rfl ?_
      refine o_iload_n dX8_shares_4 rfl rfl ?_
      refine o_callV (as := [.int c]) (st := []) dX8_shares_5 (k_has isCl_13 hK hn c) rfl meX1_has imX1_has seX1_has mlX8_106 sh_13 rfl rfl (by omega) (by decide) (Nat.le_of_ble_eq_true rfl) ?_
      rintro _ _ ⟨rfl, ⟨c, hc, rfl, rfl⟩ | ⟨hno, rfl⟩⟩
      · have hc4 : c < 4 := by omega
        obtain ⟨q0, q1, q2, q3, q4, q5, q6, q7⟩ := id (hok.2 c hc)
        have hHc := (hok.2 c hc).lH
        have hTc := (hok.2 c hc).lT
        have hwc := (hok.2 c hc).w
        refine o_ifN_eq (tgt := 41) dX8_shares_8 (by decide) (by omega) (fun b_95 => absurd b_95 (by omega)) (fun b_95 => ?_)
        refine o_iload_n dX8_shares_11 rfl rfl ?_
        refine o_iconst (v := nI 2) dX8_shares_12 (by decide) ?_
        refine o_icmp_lt (tgt := 41) dX8_shares_13 (by decide) (fun b_96 => ?_) (fun b_96 => ?_)
        · refine o_iconst (v := (-1)) dX8_shares_41 (by decide) ?_
          exact o_iret dX8_shares_42 rfl ⟨by simp only [sp_shares, cg_ix_some hc (by omega : K.1 ≤ 2 ^ 31), cg_in_none (by decide : 2 < 2 ^ 31) (by decide : 3 < 2 ^ 31) (fun q => absurd q.1 (Int32.not_le.mpr b_96))], (frC.refl _), hV⟩
        · refine o_iload_n dX8_shares_16 rfl rfl ?_
          refine o_iconst (v := nI 3) dX8_shares_17 (by decide) ?_
          refine o_icmp_gt (tgt := 41) dX8_shares_18 (by decide) (fun b_97 => ?_) (fun b_97 => ?_)
          · refine o_iconst (v := (-1)) dX8_shares_41 (by decide) ?_
            exact o_iret dX8_shares_42 rfl ⟨by simp only [sp_shares, cg_ix_some hc (by omega : K.1 ≤ 2 ^ 31), cg_in_none (by decide : 2 < 2 ^ 31) (by decide : 3 < 2 ^ 31) (fun q => absurd q.2 (Int32.not_le.mpr b_97))], (frC.refl _), hV⟩
          · obtain ⟨p, hp1, hp2, rfl⟩ := in_nat (a := 2) (b := 3) (by omega) (by omega) (Int32.not_lt.mp b_96) (Int32.not_lt.mp b_97)
            refine o_iload_n dX8_shares_21 rfl rfl ?_
            refine o_iconst (v := (-1)) dX8_shares_22 (by decide) ?_
            refine o_icmp_lt (tgt := 41) dX8_shares_23 (by decide) (fun b_98 => absurd b_98 (by decide)) (fun b_98 => ?_)
            refine o_iload_n dX8_shares_26 rfl rfl ?_
            refine o_iconst (v := nI 3) dX8_shares_27 (by decide) ?_
            refine o_icmpN_gt (tgt := 41) dX8_shares_28 (by decide) (by omega) (by omega) (fun b_99 => absurd b_99 (by omega)) (fun b_99 => ?_)
            refine o_iload_n dX8_shares_31 rfl rfl ?_
            refine o_iconst (v := nI 1) dX8_shares_32 (by decide) ?_
            refine o_icmpN_ne (tgt := 43) dX8_shares_33 (by decide) (by omega) (by omega) (fun b_100 => ?_) (fun b_100 => absurd b_100 (by omega))
            refine o_aload_n dX8_shares_43 rfl rfl ?_
            refine o_getR (b := 13) dX8_shares_44 fgX8_28 sh_0 rfl rfl ?_
            refine o_getR (b := 14) dX8_shares_47 fgX8_113 sh_13 rfl rfl ?_
            refine o_iload_n dX8_shares_50 rfl rfl ?_
            refine o_aaldN (t := 3) (b := 15 + c) dX8_shares_51 sh_14 (by decide) (by decide) hc4 (g4 15 hc4) ?_
            refine o_getI (v := nI (K.2 c 4)) dX8_shares_52 fgX8_123 (sk_13 c hc4) rfl (hK.cell hc (by decide)) ?_
            refine o_istore dX8_shares_55 (by decide) ?_
            refine o_iload dX8_shares_57 rfl ?_
            refine o_ifN_ne (tgt := 65) dX8_shares_59 (by decide) (by omega) (fun b_101 => ?_) (fun b_101 => ?_)
            · refine o_aload_n dX8_shares_65 rfl rfl ?_
              refine o_getR (b := 104) dX8_shares_66 fgX8_69 sh_0 rfl rfl ?_
              refine o_aload_n dX8_shares_69 rfl rfl ?_
              refine o_iload_n dX8_shares_70 rfl rfl ?_
              refine o_callV (as := [.int (nI c)]) (st := [.ref 104]) dX8_shares_71 (k_lev hK hok hV hc) rfl meX8_levelsOf imX8_levelsOf seX8_levelsOf mlX8_149 sh_0 rfl rfl (by omega) (by decide) (Nat.le_of_ble_eq_true rfl) ?_
              rintro _ I1 ⟨la1, rfl, hL1, hM1, hf1, hV1⟩
              have hK1 : CK I1 13 K := hK.frC hn hf1
              have hT1 := (hok.2 c hc).lT
              have hU1 : ∀ y, y ≤ 40 → cU K c y ≤ 67200 := fun y hy => (hok.2 c hc).lU hy
              have hH1 := (hok.2 c hc).lH
              refine o_iload dX8_shares_74 rfl ?_
              refine o_iload_n dX8_shares_76 rfl rfl ?_
              refine o_callV (as := [.ref la1, .int (nI (K.2 c 4)), .int (nI p)]) (st := []) dX8_shares_77 (k_fair hL1 q1 q4 hM1 (by omega) (by first | exact hwc | omega) hp2) rfl meX5_findFairest imX5_findFairest seX5_findFairest mlX8_186 sh_104 rfl rfl (by omega) (by decide) (Nat.le_of_ble_eq_true rfl) ?_
              rintro _ I2 ⟨rfl, g1, g2⟩
              refine o_iload_n dX8_shares_80 rfl rfl ?_
              refine o_tableIn (off := 31) (tgt := 112) dX8_shares_81 (by decide) (by decide) (by decide) (by decide) ?_
              refine o_aload_n dX8_shares_112 rfl rfl ?_
              refine o_getR (b := 104) dX8_shares_113 fgX8_69 sh_0 rfl rfl ?_
              refine o_getI (v := nI ((sh_res (cU K c) (K.2 c 4) p (cg_dip (cU K c) (cT K c) (K.2 c 4))).2.1)) dX8_shares_116 fgX8_190 sh_104 rfl ((g1.2 sh_res_le).1) ?_
              exact o_iret dX8_shares_119 rfl ⟨by simp only [sp_shares, cg_ix_some hc (by omega : K.1 ≤ 2 ^ 31), cg_in_some hp1 hp2 (by decide : 3 < 2 ^ 31), if_neg hne, hx]; rw [if_neg (by omega), if_neg (by omega), if_pos trivial], (((frC.refl _).trans hf1).trans (fun x k z => g2 x k (by unfold ci at z; omega))), (hV1.of (fun b k z1 z2 => g2 b k (by omega)))⟩
            · refine o_bipush (v := (-2)) dX8_shares_62 (by decide) ?_
              exact o_iret dX8_shares_64 rfl ⟨by simp only [sp_shares, cg_ix_some hc (by omega : K.1 ≤ 2 ^ 31), cg_in_some hp1 hp2 (by decide : 3 < 2 ^ 31), if_neg hne, hx]; rw [if_neg (by omega), if_pos (by omega)], (frC.refl _), hV⟩
      · refine o_ifN_eq (tgt := 41) dX8_shares_8 (by decide) (by omega) (fun b_102 => ?_) (fun b_102 => absurd b_102 (by omega))
        refine o_iconst (v := (-1)) dX8_shares_41 (by decide) ?_
        exact o_iret dX8_shares_42 rfl ⟨by simp only [sp_shares, hno], (frC.refl _), hV⟩
    · refine o_aload_n dX8_shares_0 rfl rfl ?_
      refine o_getR (b := 13) dX8_shares_1 fgX8_28 sh_0 rfl rfl ?_
      refine o_iload_n dX8_shares_4 rfl rfl ?_
      refine o_callV (as := [.int c]) (st := []) dX8_shares_5 (k_has isCl_13 hK hn c) rfl meX1_has imX1_has seX1_has mlX8_106 sh_13 rfl rfl (by omega) (by decide) (Nat.le_of_ble_eq_true rfl) ?_
      rintro _ _ ⟨rfl, ⟨c, hc, rfl, rfl⟩ | ⟨hno, rfl⟩⟩
      · have hc4 : c < 4 := by omega
        obtain ⟨q0, q1, q2, q3, q4, q5, q6, q7⟩ := id (hok.2 c hc)
        have hHc := (hok.2 c hc).lH
        have hTc := (hok.2 c hc).lT
        have hwc := (hok.2 c hc).w
        refine o_ifN_eq (tgt := 41) dX8_shares_8 (by decide) (by omega) (fun b_103 => absurd b_103 (by omega)) (fun b_103 => ?_)
        refine o_iload_n dX8_shares_11 rfl rfl ?_
        refine o_iconst (v := nI 2) dX8_shares_12 (by decide) ?_
        refine o_icmp_lt (tgt := 41) dX8_shares_13 (by decide) (fun b_104 => ?_) (fun b_104 => ?_)
        · refine o_iconst (v := (-1)) dX8_shares_41 (by decide) ?_
          exact o_iret dX8_shares_42 rfl ⟨by simp only [sp_shares, cg_ix_some hc (by omega : K.1 ≤ 2 ^ 31), cg_in_none (by decide : 2 < 2 ^ 31) (by decide : 3 < 2 ^ 31) (fun q => absurd q.1 (Int32.not_le.mpr b_104))], (frC.refl _), hV⟩
        · refine o_iload_n dX8_shares_16 rfl rfl ?_
          refine o_iconst (v := nI 3) dX8_shares_17 (by decide) ?_
          refine o_icmp_gt (tgt := 41) dX8_shares_18 (by decide) (fun b_105 => ?_) (fun b_105 => ?_)
          · refine o_iconst (v := (-1)) dX8_shares_41 (by decide) ?_
            exact o_iret dX8_shares_42 rfl ⟨by simp only [sp_shares, cg_ix_some hc (by omega : K.1 ≤ 2 ^ 31), cg_in_none (by decide : 2 < 2 ^ 31) (by decide : 3 < 2 ^ 31) (fun q => absurd q.2 (Int32.not_le.mpr b_105))], (frC.refl _), hV⟩
          · obtain ⟨p, hp1, hp2, rfl⟩ := in_nat (a := 2) (b := 3) (by omega) (by omega) (Int32.not_lt.mp b_104) (Int32.not_lt.mp b_105)
            refine o_iload_n dX8_shares_21 rfl rfl ?_
            refine o_iconst (v := (-1)) dX8_shares_22 (by decide) ?_
            refine o_icmp_lt (tgt := 41) dX8_shares_23 (by decide) (fun b_106 => absurd b_106 (by decide)) (fun b_106 => ?_)
            refine o_iload_n dX8_shares_26 rfl rfl ?_
            refine o_iconst (v := nI 3) dX8_shares_27 (by decide) ?_
            refine o_icmpN_gt (tgt := 41) dX8_shares_28 (by decide) (by omega) (by omega) (fun b_107 => absurd b_107 (by omega)) (fun b_107 => ?_)
            refine o_iload_n dX8_shares_31 rfl rfl ?_
            refine o_iconst (v := nI 1) dX8_shares_32 (by decide) ?_
            refine o_icmpN_ne (tgt := 43) dX8_shares_33 (by decide) (by omega) (by omega) (fun b_108 => absurd b_108 (by omega)) (fun b_108 => ?_)
            refine o_iload_n dX8_shares_36 rfl rfl ?_
            refine o_iconst (v := nI 2) dX8_shares_37 (by decide) ?_
            refine o_icmpN_ne (tgt := 43) dX8_shares_38 (by decide) (by omega) (by omega) (fun b_109 => ?_) (fun b_109 => ?_)
            · refine o_aload_n dX8_shares_43 rfl rfl ?_
              refine o_getR (b := 13) dX8_shares_44 fgX8_28 sh_0 rfl rfl ?_
              refine o_getR (b := 14) dX8_shares_47 fgX8_113 sh_13 rfl rfl ?_
              refine o_iload_n dX8_shares_50 rfl rfl ?_
              refine o_aaldN (t := 3) (b := 15 + c) dX8_shares_51 sh_14 (by decide) (by decide) hc4 (g4 15 hc4) ?_
              refine o_getI (v := nI (K.2 c 4)) dX8_shares_52 fgX8_123 (sk_13 c hc4) rfl (hK.cell hc (by decide)) ?_
              refine o_istore dX8_shares_55 (by decide) ?_
              refine o_iload dX8_shares_57 rfl ?_
              refine o_ifN_ne (tgt := 65) dX8_shares_59 (by decide) (by omega) (fun b_110 => ?_) (fun b_110 => ?_)
              · refine o_aload_n dX8_shares_65 rfl rfl ?_
                refine o_getR (b := 104) dX8_shares_66 fgX8_69 sh_0 rfl rfl ?_
                refine o_aload_n dX8_shares_69 rfl rfl ?_
                refine o_iload_n dX8_shares_70 rfl rfl ?_
                refine o_callV (as := [.int (nI c)]) (st := [.ref 104]) dX8_shares_71 (k_lev hK hok hV hc) rfl meX8_levelsOf imX8_levelsOf seX8_levelsOf mlX8_149 sh_0 rfl rfl (by omega) (by decide) (Nat.le_of_ble_eq_true rfl) ?_
                rintro _ I1 ⟨la1, rfl, hL1, hM1, hf1, hV1⟩
                have hK1 : CK I1 13 K := hK.frC hn hf1
                have hT1 := (hok.2 c hc).lT
                have hU1 : ∀ y, y ≤ 40 → cU K c y ≤ 67200 := fun y hy => (hok.2 c hc).lU hy
                have hH1 := (hok.2 c hc).lH
                refine o_iload dX8_shares_74 rfl ?_
                refine o_iload_n dX8_shares_76 rfl rfl ?_
                refine o_callV (as := [.ref la1, .int (nI (K.2 c 4)), .int (nI p)]) (st := []) dX8_shares_77 (k_fair hL1 q1 q4 hM1 (by omega) (by first | exact hwc | omega) hp2) rfl meX5_findFairest imX5_findFairest seX5_findFairest mlX8_186 sh_104 rfl rfl (by omega) (by decide) (Nat.le_of_ble_eq_true rfl) ?_
                rintro _ I2 ⟨rfl, g1, g2⟩
                refine o_iload_n dX8_shares_80 rfl rfl ?_
                refine o_tableIn (off := 39) (tgt := 120) dX8_shares_81 (by decide) (by decide) (by decide) (by decide) ?_
                refine o_aload_n dX8_shares_120 rfl rfl ?_
                refine o_getR (b := 104) dX8_shares_121 fgX8_69 sh_0 rfl rfl ?_
                refine o_getI (v := nI ((sh_res (cU K c) (K.2 c 4) p (cg_dip (cU K c) (cT K c) (K.2 c 4))).2.2)) dX8_shares_124 fgX8_193 sh_104 rfl ((g1.2 sh_res_le).2.1) ?_
                exact o_iret dX8_shares_127 rfl ⟨by simp only [sp_shares, cg_ix_some hc (by omega : K.1 ≤ 2 ^ 31), cg_in_some hp1 hp2 (by decide : 3 < 2 ^ 31), if_neg hne, hx]; rw [if_neg (by omega), if_neg (by omega), if_neg (by omega), if_pos trivial], (((frC.refl _).trans hf1).trans (fun x k z => g2 x k (by unfold ci at z; omega))), (hV1.of (fun b k z1 z2 => g2 b k (by omega)))⟩
              · refine o_bipush (v := (-2)) dX8_shares_62 (by decide) ?_
                exact o_iret dX8_shares_64 rfl ⟨by simp only [sp_shares, cg_ix_some hc (by omega : K.1 ≤ 2 ^ 31), cg_in_some hp1 hp2 (by decide : 3 < 2 ^ 31), if_neg hne, hx]; rw [if_neg (by omega), if_pos (by omega)], (frC.refl _), hV⟩
            · refine o_iconst (v := (-1)) dX8_shares_41 (by decide) ?_
              exact o_iret dX8_shares_42 rfl ⟨by simp only [sp_shares, cg_ix_some hc (by omega : K.1 ≤ 2 ^ 31), cg_in_some hp1 hp2 (by decide : 3 < 2 ^ 31), if_neg hne, hx]; rw [if_pos (by constructor <;> first | omega | trivial)], (frC.refl _), hV⟩
      · refine o_ifN_eq (tgt := 41) dX8_shares_8 (by decide) (by omega) (fun b_111 => ?_) (fun b_111 => absurd b_111 (by omega))
        refine o_iconst (v := (-1)) dX8_shares_41 (by decide) ?_
        exact o_iret dX8_shares_42 rfl ⟨by simp only [sp_shares, hno], (frC.refl _), hV⟩
    · refine o_aload_n dX8_shares_0 rfl rfl ?_
      refine o_getR (b := 13) dX8_shares_1 fgX8_28 sh_0 rfl rfl ?_
      refine o_iload_n dX8_shares_4 rfl rfl ?_
      refine o_callV (as := [.int c]) (st := []) dX8_shares_5 (k_has isCl_13 hK hn c) rfl meX1_has imX1_has seX1_has mlX8_106 sh_13 rfl rfl (by omega) (by decide) (Nat.le_of_ble_eq_true rfl) ?_
      rintro _ _ ⟨rfl, ⟨c, hc, rfl, rfl⟩ | ⟨hno, rfl⟩⟩
      · have hc4 : c < 4 := by omega
        obtain ⟨q0, q1, q2, q3, q4, q5, q6, q7⟩ := id (hok.2 c hc)
        have hHc := (hok.2 c hc).lH
        have hTc := (hok.2 c hc).lT
        have hwc := (hok.2 c hc).w
        refine o_ifN_eq (tgt := 41) dX8_shares_8 (by decide) (by omega) (fun b_112 => absurd b_112 (by omega)) (fun b_112 => ?_)
        refine o_iload_n dX8_shares_11 rfl rfl ?_
        refine o_iconst (v := nI 2) dX8_shares_12 (by decide) ?_
        refine o_icmp_lt (tgt := 41) dX8_shares_13 (by decide) (fun b_113 => ?_) (fun b_113 => ?_)
        · refine o_iconst (v := (-1)) dX8_shares_41 (by decide) ?_
          exact o_iret dX8_shares_42 rfl ⟨by simp only [sp_shares, cg_ix_some hc (by omega : K.1 ≤ 2 ^ 31), cg_in_none (by decide : 2 < 2 ^ 31) (by decide : 3 < 2 ^ 31) (fun q => absurd q.1 (Int32.not_le.mpr b_113))], (frC.refl _), hV⟩
        · refine o_iload_n dX8_shares_16 rfl rfl ?_
          refine o_iconst (v := nI 3) dX8_shares_17 (by decide) ?_
          refine o_icmp_gt (tgt := 41) dX8_shares_18 (by decide) (fun b_114 => ?_) (fun b_114 => ?_)
          · refine o_iconst (v := (-1)) dX8_shares_41 (by decide) ?_
            exact o_iret dX8_shares_42 rfl ⟨by simp only [sp_shares, cg_ix_some hc (by omega : K.1 ≤ 2 ^ 31), cg_in_none (by decide : 2 < 2 ^ 31) (by decide : 3 < 2 ^ 31) (fun q => absurd q.2 (Int32.not_le.mpr b_114))], (frC.refl _), hV⟩
          · obtain ⟨p, hp1, hp2, rfl⟩ := in_nat (a := 2) (b := 3) (by omega) (by omega) (Int32.not_lt.mp b_113) (Int32.not_lt.mp b_114)
            refine o_iload_n dX8_shares_21 rfl rfl ?_
            refine o_iconst (v := (-1)) dX8_shares_22 (by decide) ?_
            refine o_icmp_lt (tgt := 41) dX8_shares_23 (by decide) (fun b_115 => absurd b_115 (by decide)) (fun b_115 => ?_)
            refine o_iload_n dX8_shares_26 rfl rfl ?_
            refine o_iconst (v := nI 3) dX8_shares_27 (by decide) ?_
            refine o_icmpN_gt (tgt := 41) dX8_shares_28 (by decide) (by omega) (by omega) (fun b_116 => absurd b_116 (by omega)) (fun b_116 => ?_)
            refine o_iload_n dX8_shares_31 rfl rfl ?_
            refine o_iconst (v := nI 1) dX8_shares_32 (by decide) ?_
            refine o_icmpN_ne (tgt := 43) dX8_shares_33 (by decide) (by omega) (by omega) (fun b_117 => ?_) (fun b_117 => absurd b_117 (by omega))
            refine o_aload_n dX8_shares_43 rfl rfl ?_
            refine o_getR (b := 13) dX8_shares_44 fgX8_28 sh_0 rfl rfl ?_
            refine o_getR (b := 14) dX8_shares_47 fgX8_113 sh_13 rfl rfl ?_
            refine o_iload_n dX8_shares_50 rfl rfl ?_
            refine o_aaldN (t := 3) (b := 15 + c) dX8_shares_51 sh_14 (by decide) (by decide) hc4 (g4 15 hc4) ?_
            refine o_getI (v := nI (K.2 c 4)) dX8_shares_52 fgX8_123 (sk_13 c hc4) rfl (hK.cell hc (by decide)) ?_
            refine o_istore dX8_shares_55 (by decide) ?_
            refine o_iload dX8_shares_57 rfl ?_
            refine o_ifN_ne (tgt := 65) dX8_shares_59 (by decide) (by omega) (fun b_118 => ?_) (fun b_118 => ?_)
            · refine o_aload_n dX8_shares_65 rfl rfl ?_
              refine o_getR (b := 104) dX8_shares_66 fgX8_69 sh_0 rfl rfl ?_
              refine o_aload_n dX8_shares_69 rfl rfl ?_
              refine o_iload_n dX8_shares_70 rfl rfl ?_
              refine o_callV (as := [.int (nI c)]) (st := [.ref 104]) dX8_shares_71 (k_lev hK hok hV hc) rfl meX8_levelsOf imX8_levelsOf seX8_levelsOf mlX8_149 sh_0 rfl rfl (by omega) (by decide) (Nat.le_of_ble_eq_true rfl) ?_
              rintro _ I1 ⟨la1, rfl, hL1, hM1, hf1, hV1⟩
              have hK1 : CK I1 13 K := hK.frC hn hf1
              have hT1 := (hok.2 c hc).lT
              have hU1 : ∀ y, y ≤ 40 → cU K c y ≤ 67200 := fun y hy => (hok.2 c hc).lU hy
              have hH1 := (hok.2 c hc).lH
              refine o_iload dX8_shares_74 rfl ?_
              refine o_iload_n dX8_shares_76 rfl rfl ?_
              refine o_callV (as := [.ref la1, .int (nI (K.2 c 4)), .int (nI p)]) (st := []) dX8_shares_77 (k_fair hL1 q1 q4 hM1 (by omega) (by first | exact hwc | omega) hp2) rfl meX5_findFairest imX5_findFairest seX5_findFairest mlX8_186 sh_104 rfl rfl (by omega) (by decide) (Nat.le_of_ble_eq_true rfl) ?_
              rintro _ I2 ⟨rfl, g1, g2⟩
              refine o_iload_n dX8_shares_80 rfl rfl ?_
              refine o_tableIn (off := 47) (tgt := 128) dX8_shares_81 (by decide) (by decide) (by decide) (by decide) ?_
              refine o_aload_n dX8_shares_128 rfl rfl ?_
              refine o_getR (b := 104) dX8_shares_129 fgX8_69 sh_0 rfl rfl ?_
              refine o_getI (v := nI (sh_first (cU K c) (K.2 c 4) (sh_res (cU K c) (K.2 c 4) p (cg_dip (cU K c) (cT K c) (K.2 c 4))).2.1)) dX8_shares_132 fgX8_196 sh_104 rfl ((g1.2 sh_res_le).2.2.1) ?_
              exact o_iret dX8_shares_135 rfl ⟨by simp only [sp_shares, cg_ix_some hc (by omega : K.1 ≤ 2 ^ 31), cg_in_some hp1 hp2 (by decide : 3 < 2 ^ 31), if_neg hne, hx]; rw [if_neg (by omega), if_neg (by omega), if_neg (by omega), if_neg (by omega), if_pos trivial], (((frC.refl _).trans hf1).trans (fun x k z => g2 x k (by unfold ci at z; omega))), (hV1.of (fun b k z1 z2 => g2 b k (by omega)))⟩
            · refine o_bipush (v := (-2)) dX8_shares_62 (by decide) ?_
              exact o_iret dX8_shares_64 rfl ⟨by simp only [sp_shares, cg_ix_some hc (by omega : K.1 ≤ 2 ^ 31), cg_in_some hp1 hp2 (by decide : 3 < 2 ^ 31), if_neg hne, hx]; rw [if_neg (by omega), if_pos (by omega)], (frC.refl _), hV⟩
      · refine o_ifN_eq (tgt := 41) dX8_shares_8 (by decide) (by omega) (fun b_119 => ?_) (fun b_119 => absurd b_119 (by omega))
        refine o_iconst (v := (-1)) dX8_shares_41 (by decide) ?_
        exact o_iret dX8_shares_42 rfl ⟨by simp only [sp_shares, hno], (frC.refl _), hV⟩
    · refine o_aload_n dX8_shares_0 rfl rfl ?_
      refine o_getR (b := 13) dX8_shares_1 fgX8_28 sh_0 rfl rfl ?_
      refine o_iload_n dX8_shares_4 rfl rfl ?_
      refine o_callV (as := [.int c]) (st := []) dX8_shares_5 (k_has isCl_13 hK hn c) rfl meX1_has imX1_has seX1_has mlX8_106 sh_13 rfl rfl (by omega) (by decide) (Nat.le_of_ble_eq_true rfl) ?_
      rintro _ _ ⟨rfl, ⟨c, hc, rfl, rfl⟩ | ⟨hno, rfl⟩⟩
      · have hc4 : c < 4 := by omega
        obtain ⟨q0, q1, q2, q3, q4, q5, q6, q7⟩ := id (hok.2 c hc)
        have hHc := (hok.2 c hc).lH
        have hTc := (hok.2 c hc).lT
        have hwc := (hok.2 c hc).w
        refine o_ifN_eq (tgt := 41) dX8_shares_8 (by decide) (by omega) (fun b_120 => absurd b_120 (by omega)) (fun b_120 => ?_)
        refine o_iload_n dX8_shares_11 rfl rfl ?_
        refine o_iconst (v := nI 2) dX8_shares_12 (by decide) ?_
        refine o_icmp_lt (tgt := 41) dX8_shares_13 (by decide) (fun b_121 => ?_) (fun b_121 => ?_)
        · refine o_iconst (v := (-1)) dX8_shares_41 (by decide) ?_
          exact o_iret dX8_shares_42 rfl ⟨by simp only [sp_shares, cg_ix_some hc (by omega : K.1 ≤ 2 ^ 31), cg_in_none (by decide : 2 < 2 ^ 31) (by decide : 3 < 2 ^ 31) (fun q => absurd q.1 (Int32.not_le.mpr b_121))], (frC.refl _), hV⟩
        · refine o_iload_n dX8_shares_16 rfl rfl ?_
          refine o_iconst (v := nI 3) dX8_shares_17 (by decide) ?_
          refine o_icmp_gt (tgt := 41) dX8_shares_18 (by decide) (fun b_122 => ?_) (fun b_122 => ?_)
          · refine o_iconst (v := (-1)) dX8_shares_41 (by decide) ?_
            exact o_iret dX8_shares_42 rfl ⟨by simp only [sp_shares, cg_ix_some hc (by omega : K.1 ≤ 2 ^ 31), cg_in_none (by decide : 2 < 2 ^ 31) (by decide : 3 < 2 ^ 31) (fun q => absurd q.2 (Int32.not_le.mpr b_122))], (frC.refl _), hV⟩
          · obtain ⟨p, hp1, hp2, rfl⟩ := in_nat (a := 2) (b := 3) (by omega) (by omega) (Int32.not_lt.mp b_121) (Int32.not_lt.mp b_122)
            refine o_iload_n dX8_shares_21 rfl rfl ?_
            refine o_iconst (v := (-1)) dX8_shares_22 (by decide) ?_
            refine o_icmp_lt (tgt := 41) dX8_shares_23 (by decide) (fun b_123 => absurd b_123 (by decide)) (fun b_123 => ?_)
            refine o_iload_n dX8_shares_26 rfl rfl ?_
            refine o_iconst (v := nI 3) dX8_shares_27 (by decide) ?_
            refine o_icmpN_gt (tgt := 41) dX8_shares_28 (by decide) (by omega) (by omega) (fun b_124 => absurd b_124 (by omega)) (fun b_124 => ?_)
            refine o_iload_n dX8_shares_31 rfl rfl ?_
            refine o_iconst (v := nI 1) dX8_shares_32 (by decide) ?_
            refine o_icmpN_ne (tgt := 43) dX8_shares_33 (by decide) (by omega) (by omega) (fun b_125 => ?_) (fun b_125 => absurd b_125 (by omega))
            refine o_aload_n dX8_shares_43 rfl rfl ?_
            refine o_getR (b := 13) dX8_shares_44 fgX8_28 sh_0 rfl rfl ?_
            refine o_getR (b := 14) dX8_shares_47 fgX8_113 sh_13 rfl rfl ?_
            refine o_iload_n dX8_shares_50 rfl rfl ?_
            refine o_aaldN (t := 3) (b := 15 + c) dX8_shares_51 sh_14 (by decide) (by decide) hc4 (g4 15 hc4) ?_
            refine o_getI (v := nI (K.2 c 4)) dX8_shares_52 fgX8_123 (sk_13 c hc4) rfl (hK.cell hc (by decide)) ?_
            refine o_istore dX8_shares_55 (by decide) ?_
            refine o_iload dX8_shares_57 rfl ?_
            refine o_ifN_ne (tgt := 65) dX8_shares_59 (by decide) (by omega) (fun b_126 => ?_) (fun b_126 => ?_)
            · refine o_aload_n dX8_shares_65 rfl rfl ?_
              refine o_getR (b := 104) dX8_shares_66 fgX8_69 sh_0 rfl rfl ?_
              refine o_aload_n dX8_shares_69 rfl rfl ?_
              refine o_iload_n dX8_shares_70 rfl rfl ?_
              refine o_callV (as := [.int (nI c)]) (st := [.ref 104]) dX8_shares_71 (k_lev hK hok hV hc) rfl meX8_levelsOf imX8_levelsOf seX8_levelsOf mlX8_149 sh_0 rfl rfl (by omega) (by decide) (Nat.le_of_ble_eq_true rfl) ?_
              rintro _ I1 ⟨la1, rfl, hL1, hM1, hf1, hV1⟩
              have hK1 : CK I1 13 K := hK.frC hn hf1
              have hT1 := (hok.2 c hc).lT
              have hU1 : ∀ y, y ≤ 40 → cU K c y ≤ 67200 := fun y hy => (hok.2 c hc).lU hy
              have hH1 := (hok.2 c hc).lH
              refine o_iload dX8_shares_74 rfl ?_
              refine o_iload_n dX8_shares_76 rfl rfl ?_
              refine o_callV (as := [.ref la1, .int (nI (K.2 c 4)), .int (nI p)]) (st := []) dX8_shares_77 (k_fair hL1 q1 q4 hM1 (by omega) (by first | exact hwc | omega) hp2) rfl meX5_findFairest imX5_findFairest seX5_findFairest mlX8_186 sh_104 rfl rfl (by omega) (by decide) (Nat.le_of_ble_eq_true rfl) ?_
              rintro _ I2 ⟨rfl, g1, g2⟩
              refine o_iload_n dX8_shares_80 rfl rfl ?_
              refine o_tableIn (off := 55) (tgt := 136) dX8_shares_81 (by decide) (by decide) (by decide) (by decide) ?_
              refine o_aload_n dX8_shares_136 rfl rfl ?_
              refine o_getR (b := 104) dX8_shares_137 fgX8_69 sh_0 rfl rfl ?_
              refine o_getI (v := nI (sh_last (cU K c) (K.2 c 4) (sh_res (cU K c) (K.2 c 4) p (cg_dip (cU K c) (cT K c) (K.2 c 4))).2.2)) dX8_shares_140 fgX8_199 sh_104 rfl ((g1.2 sh_res_le).2.2.2) ?_
              exact o_iret dX8_shares_143 rfl ⟨by simp only [sp_shares, cg_ix_some hc (by omega : K.1 ≤ 2 ^ 31), cg_in_some hp1 hp2 (by decide : 3 < 2 ^ 31), if_neg hne, hx]; rw [if_neg (by omega), if_neg (by omega), if_neg (by omega), if_neg (by omega), if_neg (by omega)], (((frC.refl _).trans hf1).trans (fun x k z => g2 x k (by unfold ci at z; omega))), (hV1.of (fun b k z1 z2 => g2 b k (by omega)))⟩
            · refine o_bipush (v := (-2)) dX8_shares_62 (by decide) ?_
              exact o_iret dX8_shares_64 rfl ⟨by simp only [sp_shares, cg_ix_some hc (by omega : K.1 ≤ 2 ^ 31), cg_in_some hp1 hp2 (by decide : 3 < 2 ^ 31), if_neg hne, hx]; rw [if_neg (by omega), if_pos (by omega)], (frC.refl _), hV⟩
      · refine o_ifN_eq (tgt := 41) dX8_shares_8 (by decide) (by omega) (fun b_127 => ?_) (fun b_127 => absurd b_127 (by omega))
        refine o_iconst (v := (-1)) dX8_shares_41 (by decide) ?_
        exact o_iret dX8_shares_42 rfl ⟨by simp only [sp_shares, hno], (frC.refl _), hV⟩
  · refine o_aload_n dX8_shares_0 rfl rfl ?_
    refine o_getR (b := 13) dX8_shares_1 fgX8_28 sh_0 rfl rfl ?_
    refine o_iload_n dX8_shares_4 rfl rfl ?_
    refine o_callV (as := [.int c]) (st := []) dX8_shares_5 (k_has isCl_13 hK hn c) rfl meX1_has imX1_has seX1_has mlX8_106 sh_13 rfl rfl (by omega) (by decide) (Nat.le_of_ble_eq_true rfl) ?_
    rintro _ _ ⟨rfl, ⟨c, hc, rfl, rfl⟩ | ⟨hno, rfl⟩⟩
    · have hc4 : c < 4 := by omega
      obtain ⟨q0, q1, q2, q3, q4, q5, q6, q7⟩ := id (hok.2 c hc)
      have hHc := (hok.2 c hc).lH
      have hTc := (hok.2 c hc).lT
      have hwc := (hok.2 c hc).w
      refine o_ifN_eq (tgt := 41) dX8_shares_8 (by decide) (by omega) (fun b_128 => absurd b_128 (by omega)) (fun b_128 => ?_)
      refine o_iload_n dX8_shares_11 rfl rfl ?_
      refine o_iconst (v := nI 2) dX8_shares_12 (by decide) ?_
      refine o_icmp_lt (tgt := 41) dX8_shares_13 (by decide) (fun b_129 => ?_) (fun b_129 => ?_)
      · refine o_iconst (v := (-1)) dX8_shares_41 (by decide) ?_
        exact o_iret dX8_shares_42 rfl ⟨by simp only [sp_shares, cg_ix_some hc (by omega : K.1 ≤ 2 ^ 31), cg_in_none (by decide : 2 < 2 ^ 31) (by decide : 3 < 2 ^ 31) (fun q => absurd q.1 (Int32.not_le.mpr b_129))], (frC.refl _), hV⟩
      · refine o_iload_n dX8_shares_16 rfl rfl ?_
        refine o_iconst (v := nI 3) dX8_shares_17 (by decide) ?_
        refine o_icmp_gt (tgt := 41) dX8_shares_18 (by decide) (fun b_130 => ?_) (fun b_130 => ?_)
        · refine o_iconst (v := (-1)) dX8_shares_41 (by decide) ?_
          exact o_iret dX8_shares_42 rfl ⟨by simp only [sp_shares, cg_ix_some hc (by omega : K.1 ≤ 2 ^ 31), cg_in_none (by decide : 2 < 2 ^ 31) (by decide : 3 < 2 ^ 31) (fun q => absurd q.2 (Int32.not_le.mpr b_130))], (frC.refl _), hV⟩
        · obtain ⟨p, hp1, hp2, rfl⟩ := in_nat (a := 2) (b := 3) (by omega) (by omega) (Int32.not_lt.mp b_129) (Int32.not_lt.mp b_130)
          refine o_iload_n dX8_shares_21 rfl rfl ?_
          refine o_iconst (v := (-1)) dX8_shares_22 (by decide) ?_
          refine o_icmp_lt (tgt := 41) dX8_shares_23 (by decide) (fun b_131 => ?_) (fun b_131 => ?_)
          · refine o_iconst (v := (-1)) dX8_shares_41 (by decide) ?_
            exact o_iret dX8_shares_42 rfl ⟨by simp only [sp_shares, cg_ix_some hc (by omega : K.1 ≤ 2 ^ 31), cg_in_some hp1 hp2 (by decide : 3 < 2 ^ 31), if_neg hne, hx], (frC.refl _), hV⟩
          · refine o_iload_n dX8_shares_26 rfl rfl ?_
            refine o_iconst (v := nI 3) dX8_shares_27 (by decide) ?_
            refine o_icmp_gt (tgt := 41) dX8_shares_28 (by decide) (fun b_132 => ?_) (fun b_132 => ?_)
            · refine o_iconst (v := (-1)) dX8_shares_41 (by decide) ?_
              exact o_iret dX8_shares_42 rfl ⟨by simp only [sp_shares, cg_ix_some hc (by omega : K.1 ≤ 2 ^ 31), cg_in_some hp1 hp2 (by decide : 3 < 2 ^ 31), if_neg hne, hx], (frC.refl _), hV⟩
            · exact absurd ⟨Int32.not_lt.mp b_131, Int32.not_lt.mp b_132⟩ hz
    · refine o_ifN_eq (tgt := 41) dX8_shares_8 (by decide) (by omega) (fun b_133 => ?_) (fun b_133 => absurd b_133 (by omega))
      refine o_iconst (v := (-1)) dX8_shares_41 (by decide) ?_
      exact o_iret dX8_shares_42 rfl ⟨by simp only [sp_shares, hno], (frC.refl _), hV⟩
