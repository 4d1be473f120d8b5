theorem cg_sum_s (f : Nat → Nat) (n : Nat) : cg_sum f (n + 1) = cg_sum f n + f n := rfl
/-- what lays() leaves: the top, the row of heights -/
def MU (I : sm_I) (S H B l : Nat) : Prop := I 106 17 = nI (cg_top S B l) ∧ ∀ q, q ≤ cg_top S B l → I 114 q = nI (cg_U S H B l q)
def frU (I I' : sm_I) : Prop := ∀ a k, a ≠ 114 → ¬ (a = 106 ∧ k = 17) → I' a k = I a k
theorem frU.refl (I : sm_I) : frU I I := fun _ _ _ _ => rfl
theorem MK.frU {I I' : sm_I} {K : KT} (h : MK I 107 0 K) (hf : frU I I') : MK I' 107 0 K := h.of (fun k => hf 107 k (by omega) (by omega))

theorem lp_lays_in1 {ζ : sm_Z} {d : Nat} (hd : 3 ≤ d) {I : sm_I} {Q : Option Value → sm_I → Prop} {K : KT} (hok : okK K) {c : Nat} (hc : c < K.1) (hK : MK I 107 0 K) {y : Nat} (hy : y < 2 * (K.2 c 2)) (hx : X0 ζ d mX9_lays 108 [some (.ref 106), some (.int (nI c)), some (.int (nI 1)), some (.int (nI y)), some (.int (nI (cg_sum (fun k => cg_cell (K.2 c 0) (K.2 c 1) (K.2 c 2) k y) (K.2 c 0)))), some (.int (nI (K.2 c 0)))] [] I Q) : ∀ f k : Nat, k + f = (K.2 c 0) → X0 ζ d mX9_lays 48 [some (.ref 106), some (.int (nI c)), some (.int (nI 1)), some (.int (nI y)), some (.int (nI (cg_sum (fun k => cg_cell (K.2 c 0) (K.2 c 1) (K.2 c 2) k y) k))), some (.int (nI k))] [] I Q := by
  have hn := hok.1
  obtain ⟨q0, q1, q2, q3, q4, q5, q6, q7⟩ := hok.2 c hc
  intro f
  induction f with
  | zero =>
    intro k hk
    have hkk : k = (K.2 c 0) := by omega
    refine o_iload dX9_lays_48 rfl ?_
    refine o_iload_n dX9_lays_50 rfl rfl ?_
    refine o_ifN_eq (tgt := 63) dX9_lays_51 (by decide) (by omega) (fun b_4 => absurd b_4 (by omega)) (fun b_4 => ?_)
    refine o_aload_n dX9_lays_54 rfl rfl ?_
    refine o_iload_n dX9_lays_55 rfl rfl ?_
    refine o_iconst (v := nI 0) dX9_lays_56 (by decide) ?_
    refine o_callVp (v := .int (nI (K.2 c 0))) (as := [.int (nI c), .int (nI 0)]) (st := [.int (nI k)]) dX9_lays_57 (c_ofK hK hn hc (by decide)) rfl meX9_of imX9_of seX9_of mlX9_103 sh_106 rfl rfl (by omega) (by decide) (Nat.le_of_ble_eq_true rfl) ?_
    refine o_goto (tgt := 71) dX9_lays_60 (by decide) ?_
    refine o_icmpN_ge (tgt := 108) dX9_lays_71 (by decide) (by omega) (by omega) (fun b_5 => ?_) (fun b_5 => absurd b_5 (by omega))
    subst hkk
    exact hx
  | succ f ih =>
    intro k hk
    refine o_iload dX9_lays_48 rfl ?_
    refine o_iload_n dX9_lays_50 rfl rfl ?_
    refine o_ifN_eq (tgt := 63) dX9_lays_51 (by decide) (by omega) (fun b_6 => absurd b_6 (by omega)) (fun b_6 => ?_)
    refine o_aload_n dX9_lays_54 rfl rfl ?_
    refine o_iload_n dX9_lays_55 rfl rfl ?_
    refine o_iconst (v := nI 0) dX9_lays_56 (by decide) ?_
    refine o_callVp (v := .int (nI (K.2 c 0))) (as := [.int (nI c), .int (nI 0)]) (st := [.int (nI k)]) dX9_lays_57 (c_ofK hK hn hc (by decide)) rfl meX9_of imX9_of seX9_of mlX9_103 sh_106 rfl rfl (by omega) (by decide) (Nat.le_of_ble_eq_true rfl) ?_
    refine o_goto (tgt := 71) dX9_lays_60 (by decide) ?_
    refine o_icmpN_ge (tgt := 108) dX9_lays_71 (by decide) (by omega) (by omega) (fun b_7 => absurd b_7 (by omega)) (fun b_7 => ?_)
    have hkS : k < (K.2 c 0) := by omega
    refine o_iload dX9_lays_74 rfl ?_
    refine o_iload_n dX9_lays_76 rfl rfl ?_
    refine o_ifN_eq (tgt := 91) dX9_lays_77 (by decide) (by omega) (fun b_8 => absurd b_8 (by omega)) (fun b_8 => ?_)
    refine o_aload_n dX9_lays_80 rfl rfl ?_
    refine o_iload_n dX9_lays_81 rfl rfl ?_
    refine o_iload dX9_lays_82 rfl ?_
    refine o_iload_n dX9_lays_84 rfl rfl ?_
    refine o_callVp (v := .int (nI (cg_cell (K.2 c 0) (K.2 c 1) (K.2 c 2) k y))) (as := [.int (nI c), .int (nI k), .int (nI y)]) (st := [.int (nI (cg_sum (fun k => cg_cell (K.2 c 0) (K.2 c 1) (K.2 c 2) k y) k))]) dX9_lays_85 (c_cellsOf hK hok hc hkS hy) rfl meX9_cellsOf imX9_cellsOf seX9_cellsOf mlX9_112 sh_106 rfl rfl (by omega) (by decide) (Nat.le_of_ble_eq_true rfl) ?_
    refine o_goto (tgt := 99) dX9_lays_88 (by decide) ?_
    refine o_iaddN dX9_lays_99 ?_
    refine o_istore dX9_lays_100 (by decide) ?_
    refine o_iincN (w := 1) dX9_lays_102 rfl (by decide) (by decide) ?_
    refine o_goto (tgt := 48) dX9_lays_105 (by decide) ?_
    exact ih (k + 1) (by omega)

theorem lp_lays1 {ζ : sm_Z} {d : Nat} (hd : 3 ≤ d) {I0 : sm_I} {Q : Option Value → sm_I → Prop} {K : KT} (hok : okK K) {c : Nat} (hc : c < K.1) (hq : ∀ I' : sm_I, MU I' (K.2 c 0) (K.2 c 1) (K.2 c 2) 1 → frU I0 I' → Q none I') : ∀ (f y : Nat) (I : sm_I) (a4 a5 : Option Value), y + f = cg_top (K.2 c 0) (K.2 c 2) 1 → MK I 107 0 K → (I 106 17 = nI (cg_top (K.2 c 0) (K.2 c 2) 1) ∧ ∀ q, q ≤ y → q ≤ cg_top (K.2 c 0) (K.2 c 2) 1 → I 114 q = nI (cg_U (K.2 c 0) (K.2 c 1) (K.2 c 2) 1 q)) → frU I0 I → X0 ζ d mX9_lays 34 [some (.ref 106), some (.int (nI c)), some (.int (nI 1)), some (.int (nI y)), a4, a5] [] I Q := by
  have hn := hok.1
  obtain ⟨q0, q1, q2, q3, q4, q5, q6, q7⟩ := hok.2 c hc
  have htl : cg_top (K.2 c 0) (K.2 c 2) 1 ≤ 40 := cg_top_le q1 q4
  have hte : cg_top (K.2 c 0) (K.2 c 2) 1 = 2 * (K.2 c 2) := by unfold cg_top; simp
  intro f
  induction f with
  | zero =>
    intro y I a4 a5 hy hK htop hF
    have hyy : y = cg_top (K.2 c 0) (K.2 c 2) 1 := by omega
    refine o_iload_n dX9_lays_34 rfl rfl ?_
    refine o_aload_n dX9_lays_35 rfl rfl ?_
    refine o_getI (v := nI (cg_top (K.2 c 0) (K.2 c 2) 1)) dX9_lays_36 fgX9_109 sh_106 rfl htop.1 ?_
    refine o_icmpN_ge (tgt := 131) dX9_lays_39 (by decide) (by omega) (by omega) (fun b_9 => ?_) (fun b_9 => absurd b_9 (by omega))
    exact o_vret dX9_lays_131 rfl (hq _ ⟨htop.1, fun q h1 => htop.2 q (by omega) h1⟩ hF)
  | succ f ih =>
    intro y I a4 a5 hy hK htop hF
    have hUy : cg_U (K.2 c 0) (K.2 c 1) (K.2 c 2) 1 (y + 1) = cg_U (K.2 c 0) (K.2 c 1) (K.2 c 2) 1 y + cg_sum (fun k => cg_cell (K.2 c 0) (K.2 c 1) (K.2 c 2) k y) (K.2 c 0) := by unfold cg_U; rw [cg_sum_s]; unfold cg_row; simp
    have hUl := cg_U_le (S := (K.2 c 0)) (H := (K.2 c 1)) (B := (K.2 c 2)) (l := 1) (y := y + 1) q1 q4 (by omega)
    refine o_iload_n dX9_lays_34 rfl rfl ?_
    refine o_aload_n dX9_lays_35 rfl rfl ?_
    refine o_getI (v := nI (cg_top (K.2 c 0) (K.2 c 2) 1)) dX9_lays_36 fgX9_109 sh_106 rfl htop.1 ?_
    refine o_icmpN_ge (tgt := 131) dX9_lays_39 (by decide) (by omega) (by omega) (fun b_10 => absurd b_10 (by omega)) (fun b_10 => ?_)
    refine o_iconst (v := nI 0) dX9_lays_42 (by decide) ?_
    refine o_istore dX9_lays_43 (by decide) ?_
    refine o_iconst (v := nI 0) dX9_lays_45 (by decide) ?_
    refine o_istore dX9_lays_46 (by decide) ?_
    refine lp_lays_in1 hd hok hc hK (by omega) ?_ (K.2 c 0) 0 (by omega)
    refine o_aload_n dX9_lays_108 rfl rfl ?_
    refine o_getR (b := 114) dX9_lays_109 fgX9_33 sh_106 rfl rfl ?_
    refine o_iload_n dX9_lays_112 rfl rfl ?_
    refine o_iconst (v := nI 1) dX9_lays_113 (by decide) ?_
    refine o_iaddN dX9_lays_114 ?_
    refine o_aload_n dX9_lays_115 rfl rfl ?_
    refine o_getR (b := 114) dX9_lays_116 fgX9_33 sh_106 rfl rfl ?_
    refine o_iload_n dX9_lays_119 rfl rfl ?_
    refine o_ialdN (v := nI (cg_U (K.2 c 0) (K.2 c 1) (K.2 c 2) 1 y)) dX9_lays_120 sh_114 (by decide) (by omega) (htop.2 y (by omega) (by omega)) ?_
    refine o_iload dX9_lays_121 rfl ?_
    refine o_iaddN dX9_lays_123 ?_
    refine o_iastN dX9_lays_124 sh_114 (by decide) (by omega) ?_
    refine o_iincN (w := 1) dX9_lays_125 rfl (by decide) (by decide) ?_
    refine o_goto (tgt := 34) dX9_lays_128 (by decide) ?_
    rw [← hUy]
    refine ih (y + 1) _ _ _ (by omega) (hK.of (fun k => up2_x (by omega))) ⟨(up2_x (by omega)).trans htop.1, fun q hq1 hq2 => ?_⟩ (fun a k h1 h2 => (up2_x (by omega)).trans (hF a k h1 h2))
    rcases Nat.lt_or_ge q (y + 1) with h1 | h1
    · exact (up2_x (by omega)).trans (htop.2 q (by omega) hq2)
    · have hqq : q = y + 1 := by omega
      subst hqq
      exact up2_s

set_option maxHeartbeats 4000000 in
set_option maxRecDepth 100000 in
theorem c_lays1 {I : sm_I} {K : KT} (hok : okK K) {c : Nat} (hc : c < K.1) (hK : MK I 107 0 K) : E0 3 mX9_lays [.ref 106, .int (nI c), .int (nI 1)] I (fun r I' => r = none ∧ MU I' (K.2 c 0) (K.2 c 1) (K.2 c 2) 1 ∧ frU I I') := by
  have hn := hok.1
  obtain ⟨q0, q1, q2, q3, q4, q5, q6, q7⟩ := hok.2 c hc
  refine E0.of (by decide) (by simp [Value.category]) (Nat.le_of_ble_eq_true rfl) (fun ζ => ?_)
  refine o_aload_n dX9_lays_0 rfl rfl ?_
  refine o_iload_n dX9_lays_1 rfl rfl ?_
  refine o_ifN_eq (tgt := 16) dX9_lays_2 (by decide) (by omega) (fun b_11 => absurd b_11 (by omega)) (fun b_11 => ?_)
  refine o_iconst (v := nI 2) dX9_lays_5 (by decide) ?_
  refine o_aload_n dX9_lays_6 rfl rfl ?_
  refine o_iload_n dX9_lays_7 rfl rfl ?_
  refine o_iconst (v := nI 2) dX9_lays_8 (by decide) ?_
  refine o_callVp (v := .int (nI (K.2 c 2))) (as := [.int (nI c), .int (nI 2)]) (st := [.int (nI 2), .ref 106]) dX9_lays_9 (c_ofK hK hn hc (by decide)) rfl meX9_of imX9_of seX9_of mlX9_103 sh_106 rfl rfl (by omega) (by decide) (Nat.le_of_ble_eq_true rfl) ?_
  refine o_imulN dX9_lays_12 ?_
  refine o_goto (tgt := 22) dX9_lays_13 (by decide) ?_
  refine o_putI dX9_lays_22 flX9_109 sh_106 rfl ?_
  refine o_aload_n dX9_lays_25 rfl rfl ?_
  refine o_getR (b := 114) dX9_lays_26 fgX9_33 sh_106 rfl rfl ?_
  refine o_iconst (v := nI 0) dX9_lays_29 (by decide) ?_
  refine o_iconst (v := nI 0) dX9_lays_30 (by decide) ?_
  refine o_iastN dX9_lays_31 sh_114 (by decide) (by omega) ?_
  refine o_iconst (v := nI 0) dX9_lays_32 (by decide) ?_
  refine o_istore_n dX9_lays_33 rfl (by decide) ?_
  refine lp_lays1 (by omega) hok hc (fun I' h1 h2 => ⟨rfl, h1, h2⟩) (cg_top (K.2 c 0) (K.2 c 2) 1) 0 _ _ _ (by omega) (hK.of (fun k => (up2_x (by omega)).trans (up2_x (by omega)))) ⟨(up2_x (by omega)).trans up2_s, fun q h1 h2 => ?_⟩ (fun a k h1 h2 => (up2_x (by omega)).trans (up2_x (by omega)))
  have hq0 : q = 0 := by omega
  subst hq0
  exact up2_s

theorem lp_lays_in0 {ζ : sm_Z} {d : Nat} (hd : 3 ≤ d) {I : sm_I} {Q : Option Value → sm_I → Prop} {K : KT} (hok : okK K) {c : Nat} (hc : c < K.1) (hK : MK I 107 0 K) {y : Nat} (hy : y < (K.2 c 0)) (hx : X0 ζ d mX9_lays 108 [some (.ref 106), some (.int (nI c)), some (.int (nI 0)), some (.int (nI y)), some (.int (nI (cg_sum (fun k => cg_cell (K.2 c 0) (K.2 c 1) (K.2 c 2) y k) (2 * (K.2 c 2))))), some (.int (nI (2 * (K.2 c 2))))] [] I Q) : ∀ f k : Nat, k + f = (2 * (K.2 c 2)) → X0 ζ d mX9_lays 48 [some (.ref 106), some (.int (nI c)), some (.int (nI 0)), some (.int (nI y)), some (.int (nI (cg_sum (fun k => cg_cell (K.2 c 0) (K.2 c 1) (K.2 c 2) y k) k))), some (.int (nI k))] [] I Q := by
  have hn := hok.1
  obtain ⟨q0, q1, q2, q3, q4, q5, q6, q7⟩ := hok.2 c hc
  intro f
  induction f with
  | zero =>
    intro k hk
    have hkk : k = (2 * (K.2 c 2)) := by omega
    refine o_iload dX9_lays_48 rfl ?_
    refine o_iload_n dX9_lays_50 rfl rfl ?_
    refine o_ifN_eq (tgt := 63) dX9_lays_51 (by decide) (by omega) (fun b_15 => ?_) (fun b_15 => absurd b_15 (by omega))
    refine o_iconst (v := nI 2) dX9_lays_63 (by decide) ?_
    refine o_aload_n dX9_lays_64 rfl rfl ?_
    refine o_iload_n dX9_lays_65 rfl rfl ?_
    refine o_iconst (v := nI 2) dX9_lays_66 (by decide) ?_
    refine o_callVp (v := .int (nI (K.2 c 2))) (as := [.int (nI c), .int (nI 2)]) (st := [.int (nI 2), .int (nI k)]) dX9_lays_67 (c_ofK hK hn hc (by decide)) rfl meX9_of imX9_of seX9_of mlX9_103 sh_106 rfl rfl (by omega) (by decide) (Nat.le_of_ble_eq_true rfl) ?_
    refine o_imulN dX9_lays_70 ?_
    refine o_icmpN_ge (tgt := 108) dX9_lays_71 (by decide) (by omega) (by omega) (fun b_16 => ?_) (fun b_16 => absurd b_16 (by omega))
    subst hkk
    exact hx
  | succ f ih =>
    intro k hk
    refine o_iload dX9_lays_48 rfl ?_
    refine o_iload_n dX9_lays_50 rfl rfl ?_
    refine o_ifN_eq (tgt := 63) dX9_lays_51 (by decide) (by omega) (fun b_17 => ?_) (fun b_17 => absurd b_17 (by omega))
    refine o_iconst (v := nI 2) dX9_lays_63 (by decide) ?_
    refine o_aload_n dX9_lays_64 rfl rfl ?_
    refine o_iload_n dX9_lays_65 rfl rfl ?_
    refine o_iconst (v := nI 2) dX9_lays_66 (by decide) ?_
    refine o_callVp (v := .int (nI (K.2 c 2))) (as := [.int (nI c), .int (nI 2)]) (st := [.int (nI 2), .int (nI k)]) dX9_lays_67 (c_ofK hK hn hc (by decide)) rfl meX9_of imX9_of seX9_of mlX9_103 sh_106 rfl rfl (by omega) (by decide) (Nat.le_of_ble_eq_true rfl) ?_
    refine o_imulN dX9_lays_70 ?_
    refine o_icmpN_ge (tgt := 108) dX9_lays_71 (by decide) (by omega) (by omega) (fun b_18 => absurd b_18 (by omega)) (fun b_18 => ?_)
    have hkS : k < (2 * (K.2 c 2)) := by omega
    refine o_iload dX9_lays_74 rfl ?_
    refine o_iload_n dX9_lays_76 rfl rfl ?_
    refine o_ifN_eq (tgt := 91) dX9_lays_77 (by decide) (by omega) (fun b_19 => ?_) (fun b_19 => absurd b_19 (by omega))
    refine o_aload_n dX9_lays_91 rfl rfl ?_
    refine o_iload_n dX9_lays_92 rfl rfl ?_
    refine o_iload_n dX9_lays_93 rfl rfl ?_
    refine o_iload dX9_lays_94 rfl ?_
    refine o_callVp (v := .int (nI (cg_cell (K.2 c 0) (K.2 c 1) (K.2 c 2) y k))) (as := [.int (nI c), .int (nI y), .int (nI k)]) (st := [.int (nI (cg_sum (fun k => cg_cell (K.2 c 0) (K.2 c 1) (K.2 c 2) y k) k))]) dX9_lays_96 (c_cellsOf hK hok hc hy hkS) rfl meX9_cellsOf imX9_cellsOf seX9_cellsOf mlX9_112 sh_106 rfl rfl (by omega) (by decide) (Nat.le_of_ble_eq_true rfl) ?_
    refine o_iaddN dX9_lays_99 ?_
    refine o_istore dX9_lays_100 (by decide) ?_
    refine o_iincN (w := 1) dX9_lays_102 rfl (by decide) (by decide) ?_
    refine o_goto (tgt := 48) dX9_lays_105 (by decide) ?_
    exact ih (k + 1) (by omega)

theorem lp_lays0 {ζ : sm_Z} {d : Nat} (hd : 3 ≤ d) {I0 : sm_I} {Q : Option Value → sm_I → Prop} {K : KT} (hok : okK K) {c : Nat} (hc : c < K.1) (hq : ∀ I' : sm_I, MU I' (K.2 c 0) (K.2 c 1) (K.2 c 2) 0 → frU I0 I' → Q none I') : ∀ (f y : Nat) (I : sm_I) (a4 a5 : Option Value), y + f = cg_top (K.2 c 0) (K.2 c 2) 0 → MK I 107 0 K → (I 106 17 = nI (cg_top (K.2 c 0) (K.2 c 2) 0) ∧ ∀ q, q ≤ y → q ≤ cg_top (K.2 c 0) (K.2 c 2) 0 → I 114 q = nI (cg_U (K.2 c 0) (K.2 c 1) (K.2 c 2) 0 q)) → frU I0 I → X0 ζ d mX9_lays 34 [some (.ref 106), some (.int (nI c)), some (.int (nI 0)), some (.int (nI y)), a4, a5] [] I Q := by
  have hn := hok.1
  obtain ⟨q0, q1, q2, q3, q4, q5, q6, q7⟩ := hok.2 c hc
  have htl : cg_top (K.2 c 0) (K.2 c 2) 0 ≤ 40 := cg_top_le q1 q4
  have hte : cg_top (K.2 c 0) (K.2 c 2) 0 = (K.2 c 0) := by unfold cg_top; simp
  intro f
  induction f with
  | zero =>
    intro y I a4 a5 hy hK htop hF
    have hyy : y = cg_top (K.2 c 0) (K.2 c 2) 0 := by omega
    refine o_iload_n dX9_lays_34 rfl rfl ?_
    refine o_aload_n dX9_lays_35 rfl rfl ?_
    refine o_getI (v := nI (cg_top (K.2 c 0) (K.2 c 2) 0)) dX9_lays_36 fgX9_109 sh_106 rfl htop.1 ?_
    refine o_icmpN_ge (tgt := 131) dX9_lays_39 (by decide) (by omega) (by omega) (fun b_20 => ?_) (fun b_20 => absurd b_20 (by omega))
    exact o_vret dX9_lays_131 rfl (hq _ ⟨htop.1, fun q h1 => htop.2 q (by omega) h1⟩ hF)
  | succ f ih =>
    intro y I a4 a5 hy hK htop hF
    have hUy : cg_U (K.2 c 0) (K.2 c 1) (K.2 c 2) 0 (y + 1) = cg_U (K.2 c 0) (K.2 c 1) (K.2 c 2) 0 y + cg_sum (fun k => cg_cell (K.2 c 0) (K.2 c 1) (K.2 c 2) y k) (2 * (K.2 c 2)) := by unfold cg_U; rw [cg_sum_s]; unfold cg_row; simp
    have hUl := cg_U_le (S := (K.2 c 0)) (H := (K.2 c 1)) (B := (K.2 c 2)) (l := 0) (y := y + 1) q1 q4 (by omega)
    refine o_iload_n dX9_lays_34 rfl rfl ?_
    refine o_aload_n dX9_lays_35 rfl rfl ?_
    refine o_getI (v := nI (cg_top (K.2 c 0) (K.2 c 2) 0)) dX9_lays_36 fgX9_109 sh_106 rfl htop.1 ?_
    refine o_icmpN_ge (tgt := 131) dX9_lays_39 (by decide) (by omega) (by omega) (fun b_21 => absurd b_21 (by omega)) (fun b_21 => ?_)
    refine o_iconst (v := nI 0) dX9_lays_42 (by decide) ?_
    refine o_istore dX9_lays_43 (by decide) ?_
    refine o_iconst (v := nI 0) dX9_lays_45 (by decide) ?_
    refine o_istore dX9_lays_46 (by decide) ?_
    refine lp_lays_in0 hd hok hc hK (by omega) ?_ (2 * (K.2 c 2)) 0 (by omega)
    refine o_aload_n dX9_lays_108 rfl rfl ?_
    refine o_getR (b := 114) dX9_lays_109 fgX9_33 sh_106 rfl rfl ?_
    refine o_iload_n dX9_lays_112 rfl rfl ?_
    refine o_iconst (v := nI 1) dX9_lays_113 (by decide) ?_
    refine o_iaddN dX9_lays_114 ?_
    refine o_aload_n dX9_lays_115 rfl rfl ?_
    refine o_getR (b := 114) dX9_lays_116 fgX9_33 sh_106 rfl rfl ?_
    refine o_iload_n dX9_lays_119 rfl rfl ?_
    refine o_ialdN (v := nI (cg_U (K.2 c 0) (K.2 c 1) (K.2 c 2) 0 y)) dX9_lays_120 sh_114 (by decide) (by omega) (htop.2 y (by omega) (by omega)) ?_
    refine o_iload dX9_lays_121 rfl ?_
    refine o_iaddN dX9_lays_123 ?_
    refine o_iastN dX9_lays_124 sh_114 (by decide) (by omega) ?_
    refine o_iincN (w := 1) dX9_lays_125 rfl (by decide) (by decide) ?_
    refine o_goto (tgt := 34) dX9_lays_128 (by decide) ?_
    rw [← hUy]
    refine ih (y + 1) _ _ _ (by omega) (hK.of (fun k => up2_x (by omega))) ⟨(up2_x (by omega)).trans htop.1, fun q hq1 hq2 => ?_⟩ (fun a k h1 h2 => (up2_x (by omega)).trans (hF a k h1 h2))
    rcases Nat.lt_or_ge q (y + 1) with h1 | h1
    · exact (up2_x (by omega)).trans (htop.2 q (by omega) hq2)
    · have hqq : q = y + 1 := by omega
      subst hqq
      exact up2_s

set_option maxHeartbeats 4000000 in
set_option maxRecDepth 100000 in
theorem c_lays0 {I : sm_I} {K : KT} (hok : okK K) {c : Nat} (hc : c < K.1) (hK : MK I 107 0 K) : E0 3 mX9_lays [.ref 106, .int (nI c), .int (nI 0)] I (fun r I' => r = none ∧ MU I' (K.2 c 0) (K.2 c 1) (K.2 c 2) 0 ∧ frU I I') := by
  have hn := hok.1
  obtain ⟨q0, q1, q2, q3, q4, q5, q6, q7⟩ := hok.2 c hc
  refine E0.of (by decide) (by simp [Value.category]) (Nat.le_of_ble_eq_true rfl) (fun ζ => ?_)
  refine o_aload_n dX9_lays_0 rfl rfl ?_
  refine o_iload_n dX9_lays_1 rfl rfl ?_
  refine o_ifN_eq (tgt := 16) dX9_lays_2 (by decide) (by omega) (fun b_22 => ?_) (fun b_22 => absurd b_22 (by omega))
  refine o_aload_n dX9_lays_16 rfl rfl ?_
  refine o_iload_n dX9_lays_17 rfl rfl ?_
  refine o_iconst (v := nI 0) dX9_lays_18 (by decide) ?_
  refine o_callVp (v := .int (nI (K.2 c 0))) (as := [.int (nI c), .int (nI 0)]) (st := [.ref 106]) dX9_lays_19 (c_ofK hK hn hc (by decide)) rfl meX9_of imX9_of seX9_of mlX9_103 sh_106 rfl rfl (by omega) (by decide) (Nat.le_of_ble_eq_true rfl) ?_
  refine o_putI dX9_lays_22 flX9_109 sh_106 rfl ?_
  refine o_aload_n dX9_lays_25 rfl rfl ?_
  refine o_getR (b := 114) dX9_lays_26 fgX9_33 sh_106 rfl rfl ?_
  refine o_iconst (v := nI 0) dX9_lays_29 (by decide) ?_
  refine o_iconst (v := nI 0) dX9_lays_30 (by decide) ?_
  refine o_iastN dX9_lays_31 sh_114 (by decide) (by omega) ?_
  refine o_iconst (v := nI 0) dX9_lays_32 (by decide) ?_
  refine o_istore_n dX9_lays_33 rfl (by decide) ?_
  refine lp_lays0 (by omega) hok hc (fun I' h1 h2 => ⟨rfl, h1, h2⟩) (cg_top (K.2 c 0) (K.2 c 2) 0) 0 _ _ _ (by omega) (hK.of (fun k => (up2_x (by omega)).trans (up2_x (by omega)))) ⟨(up2_x (by omega)).trans up2_s, fun q h1 h2 => ?_⟩ (fun a k h1 h2 => (up2_x (by omega)).trans (up2_x (by omega)))
  have hq0 : q = 0 := by omega
  subst hq0
  exact up2_s
