theorem nI_nm9 {b : Nat} (h : b < 2 ^ 31) : ¬ nI b = -9 := by
  intro e
  have h0 := nI_pos' h
  rw [e] at h0
  exact absurd h0 (by decide)
theorem lp_strongest {ζ : sm_Z} {d : Nat} (hd : 2 ≤ d) {I : sm_I} {Q : Option Value → sm_I → Prop} {K : KT} (hK : MK I 107 0 K) (hok : okK K) (hq : Q (some (.int (sg_r (sg_f K K.1)))) I) : ∀ f c : Nat, c + f = K.1 → X0 ζ d mX9_strongest 5 [some (.ref 106), some (.int (sg_r (sg_f K c))), some (.int (nI c))] [] I Q := by
  have hn := hok.1
  intro f
  induction f with
  | zero =>
    intro c hc
    have hcc : c = K.1 := by omega
    subst hcc
    refine o_iload_n dX9_strongest_5 rfl rfl ?_
    refine o_aload_n dX9_strongest_6 rfl rfl ?_
    refine o_getR (b := 107) dX9_strongest_7 fgX9_7 sh_106 rfl rfl ?_
    refine o_bipush (v := nI 24) dX9_strongest_10 (by decide) ?_
    refine o_ialdN (v := nI K.1) dX9_strongest_12 sh_107 (by decide) (by omega) hK.n0 ?_
    refine o_icmpN_ge (tgt := 53) dX9_strongest_13 (by decide) (by omega) (by omega) (fun b_8 => ?_) (fun b_8 => absurd b_8 (by omega))
    refine o_iload_n dX9_strongest_53 rfl rfl ?_
    exact o_iret dX9_strongest_54 rfl hq
  | succ f ih =>
    intro c hc
    cases hf : sg_f K c with
    | none =>
      show X0 ζ d mX9_strongest 5 [some (.ref 106), some (.int (-9)), some (.int (nI c))] [] I Q
      refine o_iload_n dX9_strongest_5 rfl rfl ?_
      refine o_aload_n dX9_strongest_6 rfl rfl ?_
      refine o_getR (b := 107) dX9_strongest_7 fgX9_7 sh_106 rfl rfl ?_
      refine o_bipush (v := nI 24) dX9_strongest_10 (by decide) ?_
      refine o_ialdN (v := nI K.1) dX9_strongest_12 sh_107 (by decide) (by omega) hK.n0 ?_
      refine o_icmpN_ge (tgt := 53) dX9_strongest_13 (by decide) (by omega) (by omega) (fun b_1 => absurd b_1 (by omega)) (fun b_1 => ?_)
      refine o_aload_n dX9_strongest_16 rfl rfl ?_
      refine o_iload_n dX9_strongest_17 rfl rfl ?_
      refine o_iconst (v := nI 4) dX9_strongest_18 (by decide) ?_
      refine o_callVp (v := .int (nI (K.2 c 4))) (as := [.int (nI c), .int (nI 4)]) (st := []) dX9_strongest_19 (c_ofK hK hn (show c < K.1 by omega) (by decide)) rfl meX9_of imX9_of seX9_of mlX9_103 sh_106 rfl rfl (by omega) (by decide) (Nat.le_of_ble_eq_true rfl) ?_
      have hq := hok.2 c (by omega)
      have hT := hq.lT
      have hH := hq.l2
      have hw := hq.w
      have hUl : ∀ y, y ≤ 40 → cU K c y ≤ 67200 := fun y hy => hq.lU hy
      obtain ⟨q0, q1, q2, q3, q4, q5, q6, q7⟩ := id hq
      refine o_ifN_le (tgt := 47) dX9_strongest_22 (by decide) (by omega) (fun b_2 => ?_) (fun b_2 => ?_)
      · refine o_iincN (w := 1) dX9_strongest_47 rfl (by decide) (by decide) ?_
        refine o_goto (tgt := 5) dX9_strongest_50 (by decide) ?_
        have hg : sg_f K (c + 1) = none := by unfold sg_f sg_step; rw [if_neg (by omega), hf]
        have h := ih (c + 1) (by omega)
        rw [hg] at h
        exact h
      · refine o_iload_n dX9_strongest_25 rfl rfl ?_
        refine o_bipush (v := (-9)) dX9_strongest_26 (by decide) ?_
        refine o_icmp_eq (tgt := 45) dX9_strongest_28 (by decide) (fun b_3 => ?_) (fun b_3 => absurd b_3 (fun q => q rfl))
        refine o_iload_n dX9_strongest_45 rfl rfl ?_
        refine o_istore_n dX9_strongest_46 rfl (by decide) ?_
        refine o_iincN (w := 1) dX9_strongest_47 rfl (by decide) (by decide) ?_
        refine o_goto (tgt := 5) dX9_strongest_50 (by decide) ?_
        have hg : sg_f K (c + 1) = some c := by unfold sg_f sg_step; rw [if_pos (by omega), hf]
        have h := ih (c + 1) (by omega)
        rw [hg] at h
        exact h
    | some b =>
      have hb := sg_some c b hf
      show X0 ζ d mX9_strongest 5 [some (.ref 106), some (.int (nI b)), some (.int (nI c))] [] I Q
      refine o_iload_n dX9_strongest_5 rfl rfl ?_
      refine o_aload_n dX9_strongest_6 rfl rfl ?_
      refine o_getR (b := 107) dX9_strongest_7 fgX9_7 sh_106 rfl rfl ?_
      refine o_bipush (v := nI 24) dX9_strongest_10 (by decide) ?_
      refine o_ialdN (v := nI K.1) dX9_strongest_12 sh_107 (by decide) (by omega) hK.n0 ?_
      refine o_icmpN_ge (tgt := 53) dX9_strongest_13 (by decide) (by omega) (by omega) (fun b_4 => absurd b_4 (by omega)) (fun b_4 => ?_)
      refine o_aload_n dX9_strongest_16 rfl rfl ?_
      refine o_iload_n dX9_strongest_17 rfl rfl ?_
      refine o_iconst (v := nI 4) dX9_strongest_18 (by decide) ?_
      refine o_callVp (v := .int (nI (K.2 c 4))) (as := [.int (nI c), .int (nI 4)]) (st := []) dX9_strongest_19 (c_ofK hK hn (show c < K.1 by omega) (by decide)) rfl meX9_of imX9_of seX9_of mlX9_103 sh_106 rfl rfl (by omega) (by decide) (Nat.le_of_ble_eq_true rfl) ?_
      have hq := hok.2 c (by omega)
      have hT := hq.lT
      have hH := hq.l2
      have hw := hq.w
      have hUl : ∀ y, y ≤ 40 → cU K c y ≤ 67200 := fun y hy => hq.lU hy
      obtain ⟨q0, q1, q2, q3, q4, q5, q6, q7⟩ := id hq
      refine o_ifN_le (tgt := 47) dX9_strongest_22 (by decide) (by omega) (fun b_5 => ?_) (fun b_5 => ?_)
      · refine o_iincN (w := 1) dX9_strongest_47 rfl (by decide) (by decide) ?_
        refine o_goto (tgt := 5) dX9_strongest_50 (by decide) ?_
        have hg : sg_f K (c + 1) = some b := by unfold sg_f sg_step; rw [if_neg (by omega), hf]
        have h := ih (c + 1) (by omega)
        rw [hg] at h
        exact h
      · refine o_iload_n dX9_strongest_25 rfl rfl ?_
        refine o_bipush (v := (-9)) dX9_strongest_26 (by decide) ?_
        refine o_icmp_eq (tgt := 45) dX9_strongest_28 (by decide) (fun b_6 => absurd b_6 (nI_nm9 (by omega))) (fun b_6 => ?_)
        have h0 : 0 < K.2 c 4 := by omega
        refine o_aload_n dX9_strongest_31 rfl rfl ?_
        refine o_iload_n dX9_strongest_32 rfl rfl ?_
        refine o_callVp (v := .float (cg_str (K.2 c 5) (K.2 c 4))) (as := [.int (nI c)]) (st := []) dX9_strongest_33 (c_strength hK hok (show c < K.1 by omega) h0) rfl meX9_strength imX9_strength seX9_strength mlX9_141 sh_106 rfl rfl (by omega) (by decide) (Nat.le_of_ble_eq_true rfl) ?_
        refine o_aload_n dX9_strongest_36 rfl rfl ?_
        refine o_iload_n dX9_strongest_37 rfl rfl ?_
        refine o_callVp (v := .float (cg_str (K.2 b 5) (K.2 b 4))) (as := [.int (nI b)]) (st := [.float (cg_str (K.2 c 5) (K.2 c 4))]) dX9_strongest_38 (c_strength hK hok (show b < K.1 by omega) hb.2) rfl meX9_strength imX9_strength seX9_strength mlX9_141 sh_106 rfl rfl (by omega) (by decide) (Nat.le_of_ble_eq_true rfl) ?_
        refine o_fcmp dX9_strongest_41 ?_
        refine o_if_le (tgt := 47) dX9_strongest_42 (by decide) (fun b_7 => ?_) (fun b_7 => ?_)
        · refine o_iincN (w := 1) dX9_strongest_47 rfl (by decide) (by decide) ?_
          refine o_goto (tgt := 5) dX9_strongest_50 (by decide) ?_
          have hg : sg_f K (c + 1) = some b := by unfold sg_f sg_step; rw [if_pos (by omega), hf]; simp only []; rw [if_pos b_7]
          have h := ih (c + 1) (by omega)
          rw [hg] at h
          exact h
        · refine o_iload_n dX9_strongest_45 rfl rfl ?_
          refine o_istore_n dX9_strongest_46 rfl (by decide) ?_
          refine o_iincN (w := 1) dX9_strongest_47 rfl (by decide) (by decide) ?_
          refine o_goto (tgt := 5) dX9_strongest_50 (by decide) ?_
          have hg : sg_f K (c + 1) = some c := by unfold sg_f sg_step; rw [if_pos (by omega), hf]; simp only []; rw [if_neg b_7]
          have h := ih (c + 1) (by omega)
          rw [hg] at h
          exact h
theorem c_strongest {I : sm_I} {K : KT} (hK : MK I 107 0 K) (hok : okK K) : E0 2 mX9_strongest [.ref 106] I (fun r I' => I' = I ∧ r = some (.int (sg_r (sg_f K K.1)))) := by
  refine E0.of (by decide) (by simp [Value.category]) (Nat.le_of_ble_eq_true rfl) (fun ζ => ?_)
  refine o_bipush (v := (-9)) dX9_strongest_0 (by decide) ?_
  refine o_istore_n dX9_strongest_2 rfl (by decide) ?_
  refine o_iconst (v := nI 0) dX9_strongest_3 (by decide) ?_
  refine o_istore_n dX9_strongest_4 rfl (by decide) ?_
  exact lp_strongest (by omega) hK hok ⟨rfl, rfl⟩ K.1 0 (by omega)

theorem lp_mean {ζ : sm_Z} {d : Nat} (hd : 2 ≤ d) {I : sm_I} {Q : Option Value → sm_I → Prop} {K : KT} (hK : MK I 107 0 K) (hok : okK K) (hq : Q (some (.int (mean_r (mean_f K K.1)))) I) : ∀ f c : Nat, c + f = K.1 → X0 ζ d mX9_mean 6 [some (.ref 106), some (.float (mean_f K c).1), some (.int (nI (mean_f K c).2)), some (.int (nI c))] [] I Q := by
  have hn := hok.1
  have hlt : ∀ c, c < K.1 → K.2 c 4 < 2 ^ 31 := fun c hc => (hok.2 c hc).lt 4 (by decide)
  intro f
  induction f with
  | zero =>
    intro c hc
    have hcc : c = K.1 := by omega
    subst hcc
    have hmag := mean_mag K K.1 (fun c hc => hlt c hc) hn
    have hml := mean_le K K.1
    refine o_iload_n dX9_mean_6 rfl rfl ?_
    refine o_aload_n dX9_mean_7 rfl rfl ?_
    refine o_getR (b := 107) dX9_mean_8 fgX9_7 sh_106 rfl rfl ?_
    refine o_bipush (v := nI 24) dX9_mean_11 (by decide) ?_
    refine o_ialdN (v := nI K.1) dX9_mean_13 sh_107 (by decide) (by omega) hK.n0 ?_
    refine o_icmpN_ge (tgt := 43) dX9_mean_14 (by decide) (by omega) (by omega) (fun b_9 => ?_) (fun b_9 => absurd b_9 (by omega))
    refine o_iload_n dX9_mean_43 rfl rfl ?_
    refine o_ifN_ne (tgt := 52) dX9_mean_44 (by decide) (by omega) (fun b_10 => ?_) (fun b_10 => ?_)
    · refine o_ldcf dX9_mean_52 kfX9_140 ?_
      refine o_fload_n dX9_mean_54 rfl rfl ?_
      refine o_iload_n dX9_mean_55 rfl rfl ?_
      refine o_i2f dX9_mean_56 ?_
      refine o_fdiv dX9_mean_57 (vf_of_mag (mean_vf hmag (by omega) (by omega) (by omega) (by omega)) (by omega)) ?_
      refine o_fmul dX9_mean_58 (cg_thou_mag (mean_vf hmag (by omega) (by omega) (by omega) (by omega)) (by omega)) ?_
      refine o_f2i dX9_mean_59 ?_
      exact o_iret dX9_mean_60 rfl (by rw [show mean_r (mean_f K K.1) = cg_thou (FP.fdiv (mean_f K K.1).1 (FP.i2f (nI (mean_f K K.1).2))) by unfold mean_r; rw [if_neg (by omega)]] at hq; exact hq)
    · refine o_bipush (v := (-9)) dX9_mean_47 (by decide) ?_
      refine o_goto (tgt := 60) dX9_mean_49 (by decide) ?_
      exact o_iret dX9_mean_60 rfl (by rw [show mean_r (mean_f K K.1) = -9 by unfold mean_r; rw [if_pos (by omega)]] at hq; exact hq)
  | succ f ih =>
    intro c hc
    have hmag := mean_mag K c (fun e he => hlt e (by omega)) (by omega)
    have hml := mean_le K c
    refine o_iload_n dX9_mean_6 rfl rfl ?_
    refine o_aload_n dX9_mean_7 rfl rfl ?_
    refine o_getR (b := 107) dX9_mean_8 fgX9_7 sh_106 rfl rfl ?_
    refine o_bipush (v := nI 24) dX9_mean_11 (by decide) ?_
    refine o_ialdN (v := nI K.1) dX9_mean_13 sh_107 (by decide) (by omega) hK.n0 ?_
    refine o_icmpN_ge (tgt := 43) dX9_mean_14 (by decide) (by omega) (by omega) (fun b_11 => absurd b_11 (by omega)) (fun b_11 => ?_)
    refine o_aload_n dX9_mean_17 rfl rfl ?_
    refine o_iload_n dX9_mean_18 rfl rfl ?_
    refine o_iconst (v := nI 4) dX9_mean_19 (by decide) ?_
    refine o_callVp (v := .int (nI (K.2 c 4))) (as := [.int (nI c), .int (nI 4)]) (st := []) dX9_mean_20 (c_ofK hK hn (show c < K.1 by omega) (by decide)) rfl meX9_of imX9_of seX9_of mlX9_103 sh_106 rfl rfl (by omega) (by decide) (Nat.le_of_ble_eq_true rfl) ?_
    have hq := hok.2 c (by omega)
    have hT := hq.lT
    have hH := hq.l2
    have hw := hq.w
    have hUl : ∀ y, y ≤ 40 → cU K c y ≤ 67200 := fun y hy => hq.lU hy
    obtain ⟨q0, q1, q2, q3, q4, q5, q6, q7⟩ := id hq
    refine o_ifN_le (tgt := 37) dX9_mean_23 (by decide) (by omega) (fun b_12 => ?_) (fun b_12 => ?_)
    · refine o_iincN (w := 1) dX9_mean_37 rfl (by decide) (by decide) ?_
      refine o_goto (tgt := 6) dX9_mean_40 (by decide) ?_
      have hg : mean_f K (c + 1) = mean_f K c := by rw [mean_f, if_neg (by omega)]
      have h := ih (c + 1) (by omega)
      rw [hg] at h
      exact h
    · have h0 : 0 < K.2 c 4 := by omega
      have hstr : (cg_str (K.2 c 5) (K.2 c 4)).toNat % 2 ^ 31 < (161 + 2 * c) * 2 ^ 23 := Nat.lt_of_lt_of_le (cg_str_mag h0 (by omega)) (Nat.mul_le_mul_right _ (by omega))
      refine o_fload_n dX9_mean_26 rfl rfl ?_
      refine o_aload_n dX9_mean_27 rfl rfl ?_
      refine o_iload_n dX9_mean_28 rfl rfl ?_
      refine o_callVp (v := .float (cg_str (K.2 c 5) (K.2 c 4))) (as := [.int (nI c)]) (st := [.float ((mean_f K c).1)]) dX9_mean_29 (c_strength hK hok (show c < K.1 by omega) h0) rfl meX9_strength imX9_strength seX9_strength mlX9_141 sh_106 rfl rfl (by omega) (by decide) (Nat.le_of_ble_eq_true rfl) ?_
      refine o_fadd dX9_mean_32 (vf_of_mag (Jvm.FP.Core.fadd_mag hmag hstr (by omega)) (by omega)) ?_
      refine o_fstore_n dX9_mean_33 rfl (by decide) ?_
      refine o_iincN (w := 1) dX9_mean_34 rfl (by decide) (by decide) ?_
      refine o_iincN (w := 1) dX9_mean_37 rfl (by decide) (by decide) ?_
      refine o_goto (tgt := 6) dX9_mean_40 (by decide) ?_
      have hg : mean_f K (c + 1) = (FP.fadd (mean_f K c).1 (cg_str (K.2 c 5) (K.2 c 4)), (mean_f K c).2 + 1) := by rw [mean_f, if_pos (by omega)]
      have h := ih (c + 1) (by omega)
      rw [hg] at h
      exact h
theorem c_mean {I : sm_I} {K : KT} (hK : MK I 107 0 K) (hok : okK K) : E0 2 mX9_mean [.ref 106] I (fun r I' => I' = I ∧ r = some (.int (mean_r (mean_f K K.1)))) := by
  refine E0.of (by decide) (by simp [Value.category]) (Nat.le_of_ble_eq_true rfl) (fun ζ => ?_)
  refine o_fconst0 dX9_mean_0 ?_
  refine o_fstore_n dX9_mean_1 rfl (by decide) ?_
  refine o_iconst (v := nI 0) dX9_mean_2 (by decide) ?_
  refine o_istore_n dX9_mean_3 rfl (by decide) ?_
  refine o_iconst (v := nI 0) dX9_mean_4 (by decide) ?_
  refine o_istore_n dX9_mean_5 rfl (by decide) ?_
  exact lp_mean (by omega) hK hok ⟨rfl, rfl⟩ K.1 0 (by omega)

set_option maxHeartbeats 4000000 in
set_option maxRecDepth 100000 in
theorem m_all {I : sm_I} {K : KT} (hK : MK I 107 0 K) (hok : okK K) (w : Int32) : E0 6 mX9_all [.ref 106, .int w] I (fun r I' => r = some (.int (sp_all K w)) ∧ frM I I') := by
  have hn := hok.1
  refine E0.of (by decide) (by simp [Value.category]) (Nat.le_of_ble_eq_true rfl) (fun ζ => ?_)
  refine o_aload_n dX9_all_0 rfl rfl ?_
  refine o_iconst (v := nI 0) dX9_all_1 (by decide) ?_
  refine o_putI dX9_all_2 flX9_39 sh_106 rfl ?_
  refine o_iload_n dX9_all_5 rfl rfl ?_
  refine o_if_ne (tgt := 16) dX9_all_6 (by decide) (fun b_13 => ?_) (fun b_13 => ?_)
  · refine o_iload_n dX9_all_16 rfl rfl ?_
    refine o_iconst (v := nI 1) dX9_all_17 (by decide) ?_
    refine o_icmp_ne (tgt := 28) dX9_all_18 (by decide) (fun b_14 => ?_) (fun b_14 => ?_)
    · refine o_iconst (v := (-1)) dX9_all_28 (by decide) ?_
      exact o_iret dX9_all_29 rfl ⟨by unfold sp_all; rw [if_neg b_13, if_neg (show ¬ w = 1 from b_14)], ((frM.refl _).trans (frM.scr (by unfold mn; omega)))⟩
    · refine o_aload_n dX9_all_21 rfl rfl ?_
      refine o_callVp (v := .int (mean_r (mean_f K K.1))) (as := []) (st := []) dX9_all_22 (c_mean (hK.frM ((frM.refl _).trans (frM.scr (by unfold mn; omega)))) hok) rfl meX9_mean imX9_mean seX9_mean mlX9_161 sh_106 rfl rfl (by omega) (by decide) (Nat.le_of_ble_eq_true rfl) ?_
      refine o_goto (tgt := 29) dX9_all_25 (by decide) ?_
      exact o_iret dX9_all_29 rfl ⟨by unfold sp_all; rw [if_neg b_13, if_pos (show w = 1 from b_14)], ((frM.refl _).trans (frM.scr (by unfold mn; omega)))⟩
  · refine o_aload_n dX9_all_9 rfl rfl ?_
    refine o_callVp (v := .int (sg_r (sg_f K K.1))) (as := []) (st := []) dX9_all_10 (c_strongest (hK.frM ((frM.refl _).trans (frM.scr (by unfold mn; omega)))) hok) rfl meX9_strongest imX9_strongest seX9_strongest mlX9_158 sh_106 rfl rfl (by omega) (by decide) (Nat.le_of_ble_eq_true rfl) ?_
    refine o_goto (tgt := 29) dX9_all_13 (by decide) ?_
    exact o_iret dX9_all_29 rfl ⟨by unfold sp_all; rw [if_pos b_13], ((frM.refl _).trans (frM.scr (by unfold mn; omega)))⟩

theorem mb_end {I : sm_I} {u : Nat → Nat} {w y z f l r : Nat} (hf : f = sh_first u w y) (hl : l = sh_last u w z) (hr : r = sh_most u w y z) : some (Value.int (nI r)) = some (.int (nI (sh_most u w y z))) ∧ up2 (up2 I 106 18 (nI f)) 106 19 (nI l) = up2 (up2 I 106 18 (nI (sh_first u w y))) 106 19 (nI (sh_last u w z)) := by
  subst hf; subst hl; subst hr
  exact ⟨rfl, rfl⟩

set_option maxHeartbeats 4000000 in
set_option maxRecDepth 100000 in
theorem c_mostBy {I : sm_I} {u : Nat → Nat} {w y z : Nat} (hw : w < 2 ^ 31) (hy : y ≤ 40) (hzy : z ≤ y) (hU : ∀ q, q ≤ y → I 114 q = nI (u q)) (hul : ∀ q, q ≤ y → u q < 2 ^ 31) (hmono : u z ≤ u y) : E0 0 mX9_mostBy [.ref 106, .int (nI w), .int (nI y), .int (nI z)] I (fun r I' => r = some (.int (nI (sh_most u w y z))) ∧ I' = up2 (up2 I 106 18 (nI (sh_first u w y))) 106 19 (nI (sh_last u w z))) := by
  have hl1 := hul y (Nat.le_refl y)
  have hl2 := hul z hzy
  refine E0.of (by decide) (by simp [Value.category]) (Nat.le_of_ble_eq_true rfl) (fun ζ => ?_)
  refine o_aload_n dX9_mostBy_0 rfl rfl ?_
  refine o_iload_n dX9_mostBy_1 rfl rfl ?_
  refine o_aload_n dX9_mostBy_2 rfl rfl ?_
  refine o_getR (b := 114) dX9_mostBy_3 fgX9_33 sh_106 rfl rfl ?_
  refine o_iload_n dX9_mostBy_6 rfl rfl ?_
  refine o_ialdN (v := nI (u y)) dX9_mostBy_7 sh_114 (by decide) (by omega) (hU y (by omega)) ?_
  refine o_icmpN_le (tgt := 22) dX9_mostBy_8 (by decide) (by omega) (by omega) (fun b_15 => ?_) (fun b_15 => ?_)
  · refine o_iconst (v := nI 0) dX9_mostBy_22 (by decide) ?_
    refine o_putI dX9_mostBy_23 flX9_149 sh_106 rfl ?_
    refine o_aload_n dX9_mostBy_26 rfl rfl ?_
    refine o_aload_n dX9_mostBy_27 rfl rfl ?_
    refine o_getR (b := 114) dX9_mostBy_28 fgX9_33 sh_106 rfl rfl ?_
    refine o_iload_n dX9_mostBy_31 rfl rfl ?_
    refine o_ialdN (v := nI (u z)) dX9_mostBy_32 sh_114 (by decide) (by omega) ((up2_x (by omega)).trans (hU z (by omega))) ?_
    refine o_iload_n dX9_mostBy_33 rfl rfl ?_
    refine o_icmpN_ge (tgt := 46) dX9_mostBy_34 (by decide) (by omega) (by omega) (fun b_16 => ?_) (fun b_16 => ?_)
    · refine o_iload_n dX9_mostBy_46 rfl rfl ?_
      refine o_putI dX9_mostBy_47 flX9_152 sh_106 rfl ?_
      refine o_iload_n dX9_mostBy_50 rfl rfl ?_
      refine o_aload_n dX9_mostBy_51 rfl rfl ?_
      refine o_getI (v := nI 0) dX9_mostBy_52 fgX9_149 sh_106 rfl ((up2_x (by omega)).trans up2_s) ?_
      refine o_isubN dX9_mostBy_55 (by omega) ?_
      refine o_aload_n dX9_mostBy_56 rfl rfl ?_
      refine o_getI (v := nI w) dX9_mostBy_57 fgX9_152 sh_106 rfl up2_s ?_
      refine o_isubN dX9_mostBy_60 (by omega) ?_
      refine o_istore dX9_mostBy_61 (by decide) ?_
      refine o_aload_n dX9_mostBy_63 rfl rfl ?_
      refine o_getI (v := nI 0) dX9_mostBy_64 fgX9_149 sh_106 rfl ((up2_x (by omega)).trans up2_s) ?_
      refine o_aload_n dX9_mostBy_67 rfl rfl ?_
      refine o_getI (v := nI w) dX9_mostBy_68 fgX9_152 sh_106 rfl up2_s ?_
      refine o_icmpN_le (tgt := 81) dX9_mostBy_71 (by decide) (by omega) (by omega) (fun b_17 => ?_) (fun b_17 => ?_)
      · refine o_aload_n dX9_mostBy_81 rfl rfl ?_
        refine o_getI (v := nI w) dX9_mostBy_82 fgX9_152 sh_106 rfl up2_s ?_
        refine o_istore dX9_mostBy_85 (by decide) ?_
        refine o_iload dX9_mostBy_87 rfl ?_
        refine o_iload dX9_mostBy_89 rfl ?_
        refine o_icmpN_le (tgt := 99) dX9_mostBy_91 (by decide) (by omega) (by omega) (fun b_18 => ?_) (fun b_18 => ?_)
        · refine o_iload dX9_mostBy_99 rfl ?_
          exact o_iret dX9_mostBy_101 rfl (mb_end (f := 0) (l := w) (r := w) (by unfold sh_first; omega) (by unfold sh_last; omega) (by unfold sh_most sh_first sh_last; omega))
        · refine o_iload dX9_mostBy_94 rfl ?_
          refine o_goto (tgt := 101) dX9_mostBy_96 (by decide) ?_
          exact o_iret dX9_mostBy_101 rfl (mb_end (f := 0) (l := w) (r := (w - 0) - w) (by unfold sh_first; omega) (by unfold sh_last; omega) (by unfold sh_most sh_first sh_last; omega))
      · refine o_aload_n dX9_mostBy_74 rfl rfl ?_
        refine o_getI (v := nI 0) dX9_mostBy_75 fgX9_149 sh_106 rfl ((up2_x (by omega)).trans up2_s) ?_
        refine o_goto (tgt := 85) dX9_mostBy_78 (by decide) ?_
        refine o_istore dX9_mostBy_85 (by decide) ?_
        refine o_iload dX9_mostBy_87 rfl ?_
        refine o_iload dX9_mostBy_89 rfl ?_
        refine o_icmpN_le (tgt := 99) dX9_mostBy_91 (by decide) (by omega) (by omega) (fun b_19 => ?_) (fun b_19 => ?_)
        · refine o_iload dX9_mostBy_99 rfl ?_
          exact o_iret dX9_mostBy_101 rfl (mb_end (f := 0) (l := w) (r := 0) (by unfold sh_first; omega) (by unfold sh_last; omega) (by unfold sh_most sh_first sh_last; omega))
        · refine o_iload dX9_mostBy_94 rfl ?_
          refine o_goto (tgt := 101) dX9_mostBy_96 (by decide) ?_
          exact o_iret dX9_mostBy_101 rfl (mb_end (f := 0) (l := w) (r := (w - 0) - w) (by unfold sh_first; omega) (by unfold sh_last; omega) (by unfold sh_most sh_first sh_last; omega))
    · refine o_aload_n dX9_mostBy_37 rfl rfl ?_
      refine o_getR (b := 114) dX9_mostBy_38 fgX9_33 sh_106 rfl rfl ?_
      refine o_iload_n dX9_mostBy_41 rfl rfl ?_
      refine o_ialdN (v := nI (u z)) dX9_mostBy_42 sh_114 (by decide) (by omega) ((up2_x (by omega)).trans (hU z (by omega))) ?_
      refine o_goto (tgt := 47) dX9_mostBy_43 (by decide) ?_
      refine o_putI dX9_mostBy_47 flX9_152 sh_106 rfl ?_
      refine o_iload_n dX9_mostBy_50 rfl rfl ?_
      refine o_aload_n dX9_mostBy_51 rfl rfl ?_
      refine o_getI (v := nI 0) dX9_mostBy_52 fgX9_149 sh_106 rfl ((up2_x (by omega)).trans up2_s) ?_
      refine o_isubN dX9_mostBy_55 (by omega) ?_
      refine o_aload_n dX9_mostBy_56 rfl rfl ?_
      refine o_getI (v := nI (u z)) dX9_mostBy_57 fgX9_152 sh_106 rfl up2_s ?_
      refine o_isubN dX9_mostBy_60 (by omega) ?_
      refine o_istore dX9_mostBy_61 (by decide) ?_
      refine o_aload_n dX9_mostBy_63 rfl rfl ?_
      refine o_getI (v := nI 0) dX9_mostBy_64 fgX9_149 sh_106 rfl ((up2_x (by omega)).trans up2_s) ?_
      refine o_aload_n dX9_mostBy_67 rfl rfl ?_
      refine o_getI (v := nI (u z)) dX9_mostBy_68 fgX9_152 sh_106 rfl up2_s ?_
      refine o_icmpN_le (tgt := 81) dX9_mostBy_71 (by decide) (by omega) (by omega) (fun b_20 => ?_) (fun b_20 => ?_)
      · refine o_aload_n dX9_mostBy_81 rfl rfl ?_
        refine o_getI (v := nI (u z)) dX9_mostBy_82 fgX9_152 sh_106 rfl up2_s ?_
        refine o_istore dX9_mostBy_85 (by decide) ?_
        refine o_iload dX9_mostBy_87 rfl ?_
        refine o_iload dX9_mostBy_89 rfl ?_
        refine o_icmpN_le (tgt := 99) dX9_mostBy_91 (by decide) (by omega) (by omega) (fun b_21 => ?_) (fun b_21 => ?_)
        · refine o_iload dX9_mostBy_99 rfl ?_
          exact o_iret dX9_mostBy_101 rfl (mb_end (f := 0) (l := (u z)) (r := (u z)) (by unfold sh_first; omega) (by unfold sh_last; omega) (by unfold sh_most sh_first sh_last; omega))
        · refine o_iload dX9_mostBy_94 rfl ?_
          refine o_goto (tgt := 101) dX9_mostBy_96 (by decide) ?_
          exact o_iret dX9_mostBy_101 rfl (mb_end (f := 0) (l := (u z)) (r := (w - 0) - (u z)) (by unfold sh_first; omega) (by unfold sh_last; omega) (by unfold sh_most sh_first sh_last; omega))
      · refine o_aload_n dX9_mostBy_74 rfl rfl ?_
        refine o_getI (v := nI 0) dX9_mostBy_75 fgX9_149 sh_106 rfl ((up2_x (by omega)).trans up2_s) ?_
        refine o_goto (tgt := 85) dX9_mostBy_78 (by decide) ?_
        refine o_istore dX9_mostBy_85 (by decide) ?_
        refine o_iload dX9_mostBy_87 rfl ?_
        refine o_iload dX9_mostBy_89 rfl ?_
        refine o_icmpN_le (tgt := 99) dX9_mostBy_91 (by decide) (by omega) (by omega) (fun b_22 => ?_) (fun b_22 => ?_)
        · refine o_iload dX9_mostBy_99 rfl ?_
          exact o_iret dX9_mostBy_101 rfl (mb_end (f := 0) (l := (u z)) (r := 0) (by unfold sh_first; omega) (by unfold sh_last; omega) (by unfold sh_most sh_first sh_last; omega))
        · refine o_iload dX9_mostBy_94 rfl ?_
          refine o_goto (tgt := 101) dX9_mostBy_96 (by decide) ?_
          exact o_iret dX9_mostBy_101 rfl (mb_end (f := 0) (l := (u z)) (r := (w - 0) - (u z)) (by unfold sh_first; omega) (by unfold sh_last; omega) (by unfold sh_most sh_first sh_last; omega))
  · refine o_iload_n dX9_mostBy_11 rfl rfl ?_
    refine o_aload_n dX9_mostBy_12 rfl rfl ?_
    refine o_getR (b := 114) dX9_mostBy_13 fgX9_33 sh_106 rfl rfl ?_
    refine o_iload_n dX9_mostBy_16 rfl rfl ?_
    refine o_ialdN (v := nI (u y)) dX9_mostBy_17 sh_114 (by decide) (by omega) (hU y (by omega)) ?_
    refine o_isubN dX9_mostBy_18 (by omega) ?_
    refine o_goto (tgt := 23) dX9_mostBy_19 (by decide) ?_
    refine o_putI dX9_mostBy_23 flX9_149 sh_106 rfl ?_
    refine o_aload_n dX9_mostBy_26 rfl rfl ?_
    refine o_aload_n dX9_mostBy_27 rfl rfl ?_
    refine o_getR (b := 114) dX9_mostBy_28 fgX9_33 sh_106 rfl rfl ?_
    refine o_iload_n dX9_mostBy_31 rfl rfl ?_
    refine o_ialdN (v := nI (u z)) dX9_mostBy_32 sh_114 (by decide) (by omega) ((up2_x (by omega)).trans (hU z (by omega))) ?_
    refine o_iload_n dX9_mostBy_33 rfl rfl ?_
    refine o_icmpN_ge (tgt := 46) dX9_mostBy_34 (by decide) (by omega) (by omega) (fun b_23 => ?_) (fun b_23 => ?_)
    · refine o_iload_n dX9_mostBy_46 rfl rfl ?_
      refine o_putI dX9_mostBy_47 flX9_152 sh_106 rfl ?_
      refine o_iload_n dX9_mostBy_50 rfl rfl ?_
      refine o_aload_n dX9_mostBy_51 rfl rfl ?_
      refine o_getI (v := nI (w - (u y))) dX9_mostBy_52 fgX9_149 sh_106 rfl ((up2_x (by omega)).trans up2_s) ?_
      refine o_isubN dX9_mostBy_55 (by omega) ?_
      refine o_aload_n dX9_mostBy_56 rfl rfl ?_
      refine o_getI (v := nI w) dX9_mostBy_57 fgX9_152 sh_106 rfl up2_s ?_
      refine o_isubN dX9_mostBy_60 (by omega) ?_
      refine o_istore dX9_mostBy_61 (by decide) ?_
      refine o_aload_n dX9_mostBy_63 rfl rfl ?_
      refine o_getI (v := nI (w - (u y))) dX9_mostBy_64 fgX9_149 sh_106 rfl ((up2_x (by omega)).trans up2_s) ?_
      refine o_aload_n dX9_mostBy_67 rfl rfl ?_
      refine o_getI (v := nI w) dX9_mostBy_68 fgX9_152 sh_106 rfl up2_s ?_
      refine o_icmpN_le (tgt := 81) dX9_mostBy_71 (by decide) (by omega) (by omega) (fun b_24 => ?_) (fun b_24 => ?_)
      · refine o_aload_n dX9_mostBy_81 rfl rfl ?_
        refine o_getI (v := nI w) dX9_mostBy_82 fgX9_152 sh_106 rfl up2_s ?_
        refine o_istore dX9_mostBy_85 (by decide) ?_
        refine o_iload dX9_mostBy_87 rfl ?_
        refine o_iload dX9_mostBy_89 rfl ?_
        refine o_icmpN_le (tgt := 99) dX9_mostBy_91 (by decide) (by omega) (by omega) (fun b_25 => ?_) (fun b_25 => ?_)
        · refine o_iload dX9_mostBy_99 rfl ?_
          exact o_iret dX9_mostBy_101 rfl (mb_end (f := (w - (u y))) (l := w) (r := w) (by unfold sh_first; omega) (by unfold sh_last; omega) (by unfold sh_most sh_first sh_last; omega))
        · refine o_iload dX9_mostBy_94 rfl ?_
          refine o_goto (tgt := 101) dX9_mostBy_96 (by decide) ?_
          exact o_iret dX9_mostBy_101 rfl (mb_end (f := (w - (u y))) (l := w) (r := (w - (w - (u y))) - w) (by unfold sh_first; omega) (by unfold sh_last; omega) (by unfold sh_most sh_first sh_last; omega))
      · refine o_aload_n dX9_mostBy_74 rfl rfl ?_
        refine o_getI (v := nI (w - (u y))) dX9_mostBy_75 fgX9_149 sh_106 rfl ((up2_x (by omega)).trans up2_s) ?_
        refine o_goto (tgt := 85) dX9_mostBy_78 (by decide) ?_
        refine o_istore dX9_mostBy_85 (by decide) ?_
        refine o_iload dX9_mostBy_87 rfl ?_
        refine o_iload dX9_mostBy_89 rfl ?_
        refine o_icmpN_le (tgt := 99) dX9_mostBy_91 (by decide) (by omega) (by omega) (fun b_26 => ?_) (fun b_26 => ?_)
        · refine o_iload dX9_mostBy_99 rfl ?_
          exact o_iret dX9_mostBy_101 rfl (mb_end (f := (w - (u y))) (l := w) (r := (w - (u y))) (by unfold sh_first; omega) (by unfold sh_last; omega) (by unfold sh_most sh_first sh_last; omega))
        · refine o_iload dX9_mostBy_94 rfl ?_
          refine o_goto (tgt := 101) dX9_mostBy_96 (by decide) ?_
          exact o_iret dX9_mostBy_101 rfl (mb_end (f := (w - (u y))) (l := w) (r := (w - (w - (u y))) - w) (by unfold sh_first; omega) (by unfold sh_last; omega) (by unfold sh_most sh_first sh_last; omega))
    · refine o_aload_n dX9_mostBy_37 rfl rfl ?_
      refine o_getR (b := 114) dX9_mostBy_38 fgX9_33 sh_106 rfl rfl ?_
      refine o_iload_n dX9_mostBy_41 rfl rfl ?_
      refine o_ialdN (v := nI (u z)) dX9_mostBy_42 sh_114 (by decide) (by omega) ((up2_x (by omega)).trans (hU z (by omega))) ?_
      refine o_goto (tgt := 47) dX9_mostBy_43 (by decide) ?_
      refine o_putI dX9_mostBy_47 flX9_152 sh_106 rfl ?_
      refine o_iload_n dX9_mostBy_50 rfl rfl ?_
      refine o_aload_n dX9_mostBy_51 rfl rfl ?_
      refine o_getI (v := nI (w - (u y))) dX9_mostBy_52 fgX9_149 sh_106 rfl ((up2_x (by omega)).trans up2_s) ?_
      refine o_isubN dX9_mostBy_55 (by omega) ?_
      refine o_aload_n dX9_mostBy_56 rfl rfl ?_
      refine o_getI (v := nI (u z)) dX9_mostBy_57 fgX9_152 sh_106 rfl up2_s ?_
      refine o_isubN dX9_mostBy_60 (by omega) ?_
      refine o_istore dX9_mostBy_61 (by decide) ?_
      refine o_aload_n dX9_mostBy_63 rfl rfl ?_
      refine o_getI (v := nI (w - (u y))) dX9_mostBy_64 fgX9_149 sh_106 rfl ((up2_x (by omega)).trans up2_s) ?_
      refine o_aload_n dX9_mostBy_67 rfl rfl ?_
      refine o_getI (v := nI (u z)) dX9_mostBy_68 fgX9_152 sh_106 rfl up2_s ?_
      refine o_icmpN_le (tgt := 81) dX9_mostBy_71 (by decide) (by omega) (by omega) (fun b_27 => ?_) (fun b_27 => ?_)
      · refine o_aload_n dX9_mostBy_81 rfl rfl ?_
        refine o_getI (v := nI (u z)) dX9_mostBy_82 fgX9_152 sh_106 rfl up2_s ?_
        refine o_istore dX9_mostBy_85 (by decide) ?_
        refine o_iload dX9_mostBy_87 rfl ?_
        refine o_iload dX9_mostBy_89 rfl ?_
        refine o_icmpN_le (tgt := 99) dX9_mostBy_91 (by decide) (by omega) (by omega) (fun b_28 => ?_) (fun b_28 => ?_)
        · refine o_iload dX9_mostBy_99 rfl ?_
          exact o_iret dX9_mostBy_101 rfl (mb_end (f := (w - (u y))) (l := (u z)) (r := (u z)) (by unfold sh_first; omega) (by unfold sh_last; omega) (by unfold sh_most sh_first sh_last; omega))
        · refine o_iload dX9_mostBy_94 rfl ?_
          refine o_goto (tgt := 101) dX9_mostBy_96 (by decide) ?_
          exact o_iret dX9_mostBy_101 rfl (mb_end (f := (w - (u y))) (l := (u z)) (r := (w - (w - (u y))) - (u z)) (by unfold sh_first; omega) (by unfold sh_last; omega) (by unfold sh_most sh_first sh_last; omega))
      · refine o_aload_n dX9_mostBy_74 rfl rfl ?_
        refine o_getI (v := nI (w - (u y))) dX9_mostBy_75 fgX9_149 sh_106 rfl ((up2_x (by omega)).trans up2_s) ?_
        refine o_goto (tgt := 85) dX9_mostBy_78 (by decide) ?_
        refine o_istore dX9_mostBy_85 (by decide) ?_
        refine o_iload dX9_mostBy_87 rfl ?_
        refine o_iload dX9_mostBy_89 rfl ?_
        refine o_icmpN_le (tgt := 99) dX9_mostBy_91 (by decide) (by omega) (by omega) (fun b_29 => ?_) (fun b_29 => ?_)
        · refine o_iload dX9_mostBy_99 rfl ?_
          exact o_iret dX9_mostBy_101 rfl (mb_end (f := (w - (u y))) (l := (u z)) (r := (w - (u y))) (by unfold sh_first; omega) (by unfold sh_last; omega) (by unfold sh_most sh_first sh_last; omega))
        · refine o_iload dX9_mostBy_94 rfl ?_
          refine o_goto (tgt := 101) dX9_mostBy_96 (by decide) ?_
          exact o_iret dX9_mostBy_101 rfl (mb_end (f := (w - (u y))) (l := (u z)) (r := (w - (w - (u y))) - (u z)) (by unfold sh_first; omega) (by unfold sh_last; omega) (by unfold sh_most sh_first sh_last; omega))
