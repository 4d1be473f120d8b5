theorem x_flt {ζ : sm_Z} {d : Nat} (hd : 4 ≤ d) {Q : Option Value → sm_I → Prop} {I : sm_I} {f : Nat} (hF : FS I f) {n : Int32} (hq : ∀ v, Q (some (.int v)) I) : X0 ζ d mX9_reads 89 [some (.ref 106), some (.int n)] [] I Q := by
  refine o_aload_n dX9_reads_89 rfl rfl ?_
  refine o_aload_n dX9_reads_90 rfl rfl ?_
  refine o_getI (v := I 106 13) dX9_reads_91 fgX9_63 sh_106 rfl rfl ?_
  refine o_iconst (v := nI 4) dX9_reads_94 (by decide) ?_
  refine o_icmp_ne (tgt := 102) dX9_reads_95 (by decide) (fun b_22 => ?_) (fun b_22 => ?_)
  · refine o_iconst (v := nI 0) dX9_reads_102 (by decide) ?_
    refine o_callV (as := [.int (nI 0)]) (st := []) dX9_reads_103 (c_takesF hF _) rfl meX9_takes imX9_takes seX9_takes mlX9_82 sh_106 rfl rfl (by omega) (by decide) (Nat.le_of_ble_eq_true rfl) ?_
    rintro _ _ ⟨rfl, rfl⟩
    refine o_iinc dX9_reads_106 rfl rfl (by decide) ?_
    refine o_goto (tgt := 38) dX9_reads_109 (by decide) ?_
    refine o_aload_n dX9_reads_38 rfl rfl ?_
    refine o_getI (v := nI f) dX9_reads_39 fgX9_76 sh_106 rfl hF.2 ?_
    refine o_bipush (v := (-9)) dX9_reads_42 (by decide) ?_
    refine o_icmp_ne (tgt := 112) dX9_reads_44 (by decide) (fun b_23 => ?_) (fun b_23 => absurd b_23 (ne9 hF.1))
    refine o_iload_n dX9_reads_112 rfl rfl ?_
    exact o_iret dX9_reads_113 rfl (hq _)
  · refine o_iconst (v := nI 1) dX9_reads_98 (by decide) ?_
    refine o_goto (tgt := 103) dX9_reads_99 (by decide) ?_
    refine o_callV (as := [.int (nI 1)]) (st := []) dX9_reads_103 (c_takesF hF _) rfl meX9_takes imX9_takes seX9_takes mlX9_82 sh_106 rfl rfl (by omega) (by decide) (Nat.le_of_ble_eq_true rfl) ?_
    rintro _ _ ⟨rfl, rfl⟩
    refine o_iinc dX9_reads_106 rfl rfl (by decide) ?_
    refine o_goto (tgt := 38) dX9_reads_109 (by decide) ?_
    refine o_aload_n dX9_reads_38 rfl rfl ?_
    refine o_getI (v := nI f) dX9_reads_39 fgX9_76 sh_106 rfl hF.2 ?_
    refine o_bipush (v := (-9)) dX9_reads_42 (by decide) ?_
    refine o_icmp_ne (tgt := 112) dX9_reads_44 (by decide) (fun b_24 => ?_) (fun b_24 => absurd b_24 (ne9 hF.1))
    refine o_iload_n dX9_reads_112 rfl rfl ?_
    exact o_iret dX9_reads_113 rfl (hq _)

/-- what reads() leaves -/
def RE (I : sm_I) (r : Option Value) (q : Nat ⊕ (Nat × KT)) : Prop := (∃ f, q = .inl f ∧ FS I f ∧ ∃ v, r = some (.int v)) ∨ (∃ n K, q = .inr (n, K) ∧ I 106 15 = -9 ∧ DK I K ∧ r = some (.int (nI n)))
theorem RE.inl {I : sm_I} {v : Int32} {q : Nat ⊕ (Nat × KT)} {f : Nat} (h : q = .inl f) (hF : FS I f) : RE I (some (.int v)) q := Or.inl ⟨f, h, hF, v, rfl⟩

theorem rcask_le {T : TX} {s s1 : Nat} {K K1 : KT} (hn : K.1 ≤ 4) (h : rcask T s K = .inr (s1, K1)) : K1.1 ≤ 4 := by
  unfold rcask at h
  split at h
  · cases h
  · rename_i h4
    split at h
    · cases h
    · split at h
      · cases h
      · split at h
        · cases h
        · cases h
          show K.1 + 1 ≤ 4
          omega
theorem rstands_le {T : TX} {s s1 : Nat} {K K1 : KT} (hn : K.1 ≤ 4) (h : rstands T s K = .inr (s1, K1)) : K1.1 ≤ 4 := by
  unfold rstands at h
  split at h
  · cases h
  · cases h
    exact hn
theorem px_ge (T : TX) (s : Nat) : s ≤ px T s ∨ T.1 < s := by
  rcases Nat.lt_or_ge T.1 s with h | h
  · exact Or.inr h
  · exact Or.inl (Nat.le_trans (te_ge h) (nx_ge T _))
theorem px_ge' {T : TX} {s : Nat} (h : s ≤ T.1) : s ≤ px T s := Nat.le_trans (te_ge h) (nx_ge T _)
theorem rcask_gt {T : TX} {s s1 : Nat} {K K1 : KT} (h : rcask T s K = .inr (s1, K1)) : s ≤ s1 ∨ T.1 < s := by
  rcases Nat.lt_or_ge T.1 s with hs | hs
  · exact Or.inr hs
  unfold rcask at h
  split at h
  · cases h
  · split at h
    · cases h
    · split at h
      · cases h
      · split at h
        · cases h
        · cases h
          have h1 := px_ge' hs
          have h2 := px_ge' (px_le hs)
          have h3 := px_ge' (px_le (px_le hs))
          have h4 := px_ge' (px_le (px_le (px_le hs)))
          omega
theorem rstands_gt {T : TX} {s s1 : Nat} {K K1 : KT} (h : rstands T s K = .inr (s1, K1)) : s ≤ s1 ∨ T.1 < s := by
  rcases Nat.lt_or_ge T.1 s with hs | hs
  · exact Or.inr hs
  unfold rstands at h
  split at h
  · cases h
  · cases h
    have h1 := px_ge' hs
    have h2 := px_ge' (px_le hs)
    omega

set_option maxHeartbeats 4000000 in
set_option maxRecDepth 100000 in
theorem lp_reads {ζ : sm_Z} {d : Nat} (hd : 6 ≤ d) {I0 : sm_I} {Q : Option Value → sm_I → Prop} {T : TX} (h60 : T.1 ≤ 60) (hT2 : ∀ j, j < T.1 → T.2 j < 256) : ∀ (f s : Nat) (K : KT) (n : Nat) (I : sm_I), T.1 < s + f → s ≤ T.1 → PS I T s → DK I K → K.1 ≤ 4 → frP I0 I → (∀ r I', RE I' r (pr T f s K n) → frP I0 I' → Q r I') → X0 ζ d mX9_reads 38 [some (.ref 106), some (.int (nI n))] [] I Q := by
  intro f
  induction f with
  | zero => intro s K n I h1 h2; exact absurd h1 (by omega)
  | succ f ih =>
    intro s K n I h1 hs hP hD hn hf hq
    have ht := tk_le T s
    refine o_aload_n dX9_reads_38 rfl rfl ?_
    refine o_getI (v := (-9)) dX9_reads_39 fgX9_76 sh_106 rfl hP.2.2 ?_
    refine o_bipush (v := (-9)) dX9_reads_42 (by decide) ?_
    refine o_icmp_ne (tgt := 112) dX9_reads_44 (by decide) (fun b_25 => absurd b_25 (by decide)) (fun b_25 => ?_)
    refine o_aload_n dX9_reads_47 rfl rfl ?_
    refine o_getI (v := nI (tk T s)) dX9_reads_48 fgX9_63 sh_106 rfl hP.2.1.2.2.1 ?_
    refine o_ifN_eq (tgt := 112) dX9_reads_51 (by decide) (by omega) (fun b_0 => ?_) (fun b_0 => ?_)
    · refine o_iload_n dX9_reads_112 rfl rfl ?_
      exact o_iret dX9_reads_113 rfl (hq _ _ (Or.inr ⟨n, K, by rw [pr_eq, if_pos b_0], hP.2.2, hD, rfl⟩) hf)
    · refine o_aload_n dX9_reads_54 rfl rfl ?_
      refine o_getI (v := nI (tk T s)) dX9_reads_55 fgX9_63 sh_106 rfl hP.2.1.2.2.1 ?_
      refine o_iconst (v := nI 1) dX9_reads_58 (by decide) ?_
      refine o_icmpN_ne (tgt := 69) dX9_reads_59 (by decide) (by omega) (by omega) (fun b_1 => ?_) (fun b_1 => ?_)
      · refine o_aload_n dX9_reads_69 rfl rfl ?_
        refine o_getI (v := nI (tk T s)) dX9_reads_70 fgX9_63 sh_106 rfl hP.2.1.2.2.1 ?_
        refine o_iconst (v := nI 2) dX9_reads_73 (by decide) ?_
        refine o_icmpN_ne (tgt := 84) dX9_reads_74 (by decide) (by omega) (by omega) (fun b_2 => ?_) (fun b_2 => ?_)
        · refine o_aload_n dX9_reads_84 rfl rfl ?_
          refine o_iconst (v := nI 0) dX9_reads_85 (by decide) ?_
          refine o_callV (as := [.int (nI 0)]) (st := []) dX9_reads_86 (c_takesN h60 hT2 hs hP) rfl meX9_takes imX9_takes seX9_takes mlX9_82 sh_106 rfl rfl (by omega) (by decide) (Nat.le_of_ble_eq_true rfl) ?_
          rintro _ I1 ⟨rfl, hF1, r1⟩
          · exact x_flt (by omega) hF1 (fun v => hq _ _ (RE.inl (by rw [pr_eq, if_neg (Nat.ne_of_gt b_0), if_neg b_1, if_neg b_2]) hF1) (hf.trans r1.P))
        · refine o_aload_n dX9_reads_77 rfl rfl ?_
          refine o_callV (as := []) (st := []) dX9_reads_78 (c_readsStands h60 hT2 hs hP hD hn) rfl meX9_readsStands imX9_readsStands seX9_readsStands mlX9_93 sh_106 rfl rfl (by omega) (by decide) (Nat.le_of_ble_eq_true rfl) ?_
          rintro _ I1 ⟨rfl, ⟨fx, e1, hF1⟩ | ⟨s1, K1, e1, hs1, hP1, hD1⟩, r1⟩
          · refine o_goto (tgt := 89) dX9_reads_81 (by decide) ?_
            exact x_flt (by omega) hF1 (fun v => hq _ _ (RE.inl (by rw [pr_eq, if_neg (Nat.ne_of_gt b_0), if_neg b_1, if_pos b_2, e1]; rfl) hF1) (hf.trans r1))
          · have ht1 := tk_le T s1
            refine o_goto (tgt := 89) dX9_reads_81 (by decide) ?_
            refine o_aload_n dX9_reads_89 rfl rfl ?_
            refine o_aload_n dX9_reads_90 rfl rfl ?_
            refine o_getI (v := nI (tk T s1)) dX9_reads_91 fgX9_63 sh_106 rfl hP1.2.1.2.2.1 ?_
            refine o_iconst (v := nI 4) dX9_reads_94 (by decide) ?_
            refine o_icmpN_ne (tgt := 102) dX9_reads_95 (by decide) (by omega) (by omega) (fun b_29 => ?_) (fun b_29 => ?_)
            · refine o_iconst (v := nI 0) dX9_reads_102 (by decide) ?_
              refine o_callV (as := [.int (nI 0)]) (st := []) dX9_reads_103 (c_takesN h60 hT2 hs1 hP1) rfl meX9_takes imX9_takes seX9_takes mlX9_82 sh_106 rfl rfl (by omega) (by decide) (Nat.le_of_ble_eq_true rfl) ?_
              rintro _ I3 ⟨rfl, hF3, r3⟩
              · refine o_iincN (w := 1) dX9_reads_106 rfl (by decide) (by decide) ?_
                refine o_goto (tgt := 38) dX9_reads_109 (by decide) ?_
                refine o_aload_n dX9_reads_38 rfl rfl ?_
                refine o_getI (v := nI s1) dX9_reads_39 fgX9_76 sh_106 rfl hF3.2 ?_
                refine o_bipush (v := (-9)) dX9_reads_42 (by decide) ?_
                refine o_icmp_ne (tgt := 112) dX9_reads_44 (by decide) (fun b_30 => ?_) (fun b_30 => absurd b_30 (ne9 hF3.1))
                refine o_iload_n dX9_reads_112 rfl rfl ?_
                exact o_iret dX9_reads_113 rfl (hq _ _ (RE.inl (by rw [pr_eq, if_neg (Nat.ne_of_gt b_0), if_neg b_1, if_pos b_2, e1]; show (if tk T s1 = 4 then pr T f (px T s1) K1 (n + 1) else Sum.inl s1) = _; rw [if_neg b_29]) hF3) ((hf.trans r1).trans r3.P))
            · refine o_iconst (v := nI 1) dX9_reads_98 (by decide) ?_
              refine o_goto (tgt := 103) dX9_reads_99 (by decide) ?_
              refine o_callV (as := [.int (nI 1)]) (st := []) dX9_reads_103 (c_takesY h60 hT2 hs1 hP1) rfl meX9_takes imX9_takes seX9_takes mlX9_82 sh_106 rfl rfl (by omega) (by decide) (Nat.le_of_ble_eq_true rfl) ?_
              rintro _ I3 ⟨rfl, hP3, r3⟩
              · refine o_iincN (w := 1) dX9_reads_106 rfl (by decide) (by decide) ?_
                refine o_goto (tgt := 38) dX9_reads_109 (by decide) ?_
                refine ih (px T s1) K1 (n + 1) I3 ?_ (px_le hs1) hP3 (hD1.frQ r3) ?_ ((hf.trans r1).trans r3.P) (fun r I' g1 g2 => hq r I' ?_ g2)
                · have := px_gt (T := T) (s := s1) (by refine Classical.byContradiction (fun z => ?_); rw [tk_0.mpr z] at b_29; cases b_29)
                  have := rstands_gt e1
                  omega
                · exact rstands_le hn e1
                · rw [pr_eq, if_neg (Nat.ne_of_gt b_0), if_neg b_1, if_pos b_2, e1]; show RE I' r (if tk T s1 = 4 then pr T f (px T s1) K1 (n + 1) else Sum.inl s1); rw [if_pos b_29]; exact g1
      · refine o_aload_n dX9_reads_62 rfl rfl ?_
        refine o_callV (as := []) (st := []) dX9_reads_63 (c_readsCask h60 hT2 hs hP hD hn) rfl meX9_readsCask imX9_readsCask seX9_readsCask mlX9_90 sh_106 rfl rfl (by omega) (by decide) (Nat.le_of_ble_eq_true rfl) ?_
        rintro _ I1 ⟨rfl, ⟨fx, e1, hF1⟩ | ⟨s1, K1, e1, hs1, hP1, hD1⟩, r1⟩
        · refine o_goto (tgt := 89) dX9_reads_66 (by decide) ?_
          exact x_flt (by omega) hF1 (fun v => hq _ _ (RE.inl (by rw [pr_eq, if_neg (Nat.ne_of_gt b_0), if_pos b_1, e1]; rfl) hF1) (hf.trans r1))
        · have ht1 := tk_le T s1
          refine o_goto (tgt := 89) dX9_reads_66 (by decide) ?_
          refine o_aload_n dX9_reads_89 rfl rfl ?_
          refine o_aload_n dX9_reads_90 rfl rfl ?_
          refine o_getI (v := nI (tk T s1)) dX9_reads_91 fgX9_63 sh_106 rfl hP1.2.1.2.2.1 ?_
          refine o_iconst (v := nI 4) dX9_reads_94 (by decide) ?_
          refine o_icmpN_ne (tgt := 102) dX9_reads_95 (by decide) (by omega) (by omega) (fun b_31 => ?_) (fun b_31 => ?_)
          · refine o_iconst (v := nI 0) dX9_reads_102 (by decide) ?_
            refine o_callV (as := [.int (nI 0)]) (st := []) dX9_reads_103 (c_takesN h60 hT2 hs1 hP1) rfl meX9_takes imX9_takes seX9_takes mlX9_82 sh_106 rfl rfl (by omega) (by decide) (Nat.le_of_ble_eq_true rfl) ?_
            rintro _ I3 ⟨rfl, hF3, r3⟩
            · refine o_iincN (w := 1) dX9_reads_106 rfl (by decide) (by decide) ?_
              refine o_goto (tgt := 38) dX9_reads_109 (by decide) ?_
              refine o_aload_n dX9_reads_38 rfl rfl ?_
              refine o_getI (v := nI s1) dX9_reads_39 fgX9_76 sh_106 rfl hF3.2 ?_
              refine o_bipush (v := (-9)) dX9_reads_42 (by decide) ?_
              refine o_icmp_ne (tgt := 112) dX9_reads_44 (by decide) (fun b_32 => ?_) (fun b_32 => absurd b_32 (ne9 hF3.1))
              refine o_iload_n dX9_reads_112 rfl rfl ?_
              exact o_iret dX9_reads_113 rfl (hq _ _ (RE.inl (by rw [pr_eq, if_neg (Nat.ne_of_gt b_0), if_pos b_1, e1]; show (if tk T s1 = 4 then pr T f (px T s1) K1 (n + 1) else Sum.inl s1) = _; rw [if_neg b_31]) hF3) ((hf.trans r1).trans r3.P))
          · refine o_iconst (v := nI 1) dX9_reads_98 (by decide) ?_
            refine o_goto (tgt := 103) dX9_reads_99 (by decide) ?_
            refine o_callV (as := [.int (nI 1)]) (st := []) dX9_reads_103 (c_takesY h60 hT2 hs1 hP1) rfl meX9_takes imX9_takes seX9_takes mlX9_82 sh_106 rfl rfl (by omega) (by decide) (Nat.le_of_ble_eq_true rfl) ?_
            rintro _ I3 ⟨rfl, hP3, r3⟩
            · refine o_iincN (w := 1) dX9_reads_106 rfl (by decide) (by decide) ?_
              refine o_goto (tgt := 38) dX9_reads_109 (by decide) ?_
              refine ih (px T s1) K1 (n + 1) I3 ?_ (px_le hs1) hP3 (hD1.frQ r3) ?_ ((hf.trans r1).trans r3.P) (fun r I' g1 g2 => hq r I' ?_ g2)
              · have := px_gt (T := T) (s := s1) (by refine Classical.byContradiction (fun z => ?_); rw [tk_0.mpr z] at b_31; cases b_31)
                have := rcask_gt e1
                omega
              · exact rcask_le hn e1
              · rw [pr_eq, if_neg (Nat.ne_of_gt b_0), if_pos b_1, e1]; show RE I' r (if tk T s1 = 4 then pr T f (px T s1) K1 (n + 1) else Sum.inl s1); rw [if_pos b_31]; exact g1

theorem lp_clr {ζ : sm_Z} {d : Nat} {I0 : sm_I} {Q : Option Value → sm_I → Prop} (hq : ∀ I', (∀ q, q < 25 → I' 108 q = nI 0) → (∀ a k, a ≠ 108 → I' a k = I0 a k) → X0 ζ d mX9_reads 21 [some (.ref 106), some (.int (nI 25))] [] I' Q) : ∀ (f k : Nat) (I : sm_I), k + f = 25 → (∀ q, q < k → I 108 q = nI 0) → (∀ a k, a ≠ 108 → I a k = I0 a k) → X0 ζ d mX9_reads 2 [some (.ref 106), some (.int (nI k))] [] I Q := by
  intro f
  induction f with
  | zero =>
    intro k I hk h1 h3
    have hkk : k = 25 := by omega
    subst hkk
    refine o_iload_n dX9_reads_2 rfl rfl ?_
    refine o_bipush (v := nI 25) dX9_reads_3 (by decide) ?_
    refine o_icmpN_ge (tgt := 21) dX9_reads_5 (by decide) (by omega) (by omega) (fun b_33 => ?_) (fun b_33 => absurd b_33 (by omega))
    exact hq I h1 h3
  | succ f ih =>
    intro k I hk h1 h3
    refine o_iload_n dX9_reads_2 rfl rfl ?_
    refine o_bipush (v := nI 25) dX9_reads_3 (by decide) ?_
    refine o_icmpN_ge (tgt := 21) dX9_reads_5 (by decide) (by omega) (by omega) (fun b_34 => absurd b_34 (by omega)) (fun b_34 => ?_)
    refine o_aload_n dX9_reads_8 rfl rfl ?_
    refine o_getR (b := 108) dX9_reads_9 fgX9_13 sh_106 rfl rfl ?_
    refine o_iload_n dX9_reads_12 rfl rfl ?_
    refine o_iconst (v := nI 0) dX9_reads_13 (by decide) ?_
    refine o_iastN dX9_reads_14 sh_108 (by decide) (by omega) ?_
    refine o_iincN (w := 1) dX9_reads_15 rfl (by decide) (by decide) ?_
    refine o_goto (tgt := 2) dX9_reads_18 (by decide) ?_
    refine ih (k + 1) _ (by omega) (fun q hq => ?_) (fun a k z => (up2_x (by omega)).trans (h3 a k z))
    rcases Nat.lt_or_ge q k with z | z
    · exact (up2_x (by omega)).trans (h1 q z)
    · have hqq : q = k := by omega
      subst hqq
      exact up2_s

theorem Nat.zero_le_4 : kzero.1 ≤ 4 := Nat.zero_le 4

set_option maxHeartbeats 4000000 in
set_option maxRecDepth 100000 in
theorem c_reads {I : sm_I} {T : TX} (hT : MT I T) (h60 : T.1 ≤ 60) (hT2 : ∀ j, j < T.1 → T.2 j < 256) : E0 6 mX9_reads [.ref 106] I (fun r I' => RE I' r (pr T 61 (nx T 0) kzero 0) ∧ frP I I') := by
  refine E0.of (by decide) (by simp [Value.category]) (Nat.le_of_ble_eq_true rfl) (fun ζ => ?_)
  refine o_iconst (v := nI 0) dX9_reads_0 (by decide) ?_
  refine o_istore_n dX9_reads_1 rfl (by decide) ?_
  refine lp_clr (I0 := I) (fun I1 r1 r2 => ?_) 25 0 _ (by omega) (fun q hq => absurd hq (Nat.not_lt_zero q)) (fun _ _ _ => rfl)
  refine o_aload_n dX9_reads_21 rfl rfl ?_
  refine o_bipush (v := (-9)) dX9_reads_22 (by decide) ?_
  refine o_putI dX9_reads_24 flX9_76 sh_106 rfl ?_
  refine o_aload_n dX9_reads_27 rfl rfl ?_
  refine o_iconst (v := nI 0) dX9_reads_28 (by decide) ?_
  refine o_putI dX9_reads_29 flX9_50 sh_106 rfl ?_
  refine o_aload_n dX9_reads_32 rfl rfl ?_
  have hTa : MT (up2 (up2 I1 106 15 (-9)) 106 12 (nI 0)) T := hT.of ((up2_x (by omega)).trans ((up2_x (by omega)).trans (r2 _ _ (by omega)))) (fun k => (up2_x (by omega)).trans ((up2_x (by omega)).trans (r2 _ _ (by omega))))
  refine o_callV (as := []) (st := []) dX9_reads_33 (c_steps hTa h60 hT2 (Nat.zero_le _) up2_s) rfl meX9_steps imX9_steps seX9_steps mlX9_79 sh_106 rfl rfl (by omega) (by decide) (Nat.le_of_ble_eq_true rfl) ?_
  rintro _ I2 ⟨rfl, hX, hf⟩
  have hT2' : MT I2 T := hTa.frL hf
  have hd : ∀ q, q < 25 → I2 108 q = nI 0 := fun q hq => (hf _ _ (by omega)).trans ((up2_x (by omega)).trans ((up2_x (by omega)).trans (r1 q hq)))
  have hD : DK I2 kzero := ⟨⟨hd 24 (by omega), fun c f hc => absurd hc (Nat.not_lt_zero c)⟩, fun q _ hq => hd q (by omega)⟩
  have hfr : frP I I2 := fun a k z1 z2 => (hf _ _ (by omega)).trans ((up2_x (by omega)).trans ((up2_x (by omega)).trans (r2 _ _ z2)))
  refine o_iconst (v := nI 0) dX9_reads_36 (by decide) ?_
  refine o_istore_n dX9_reads_37 rfl (by decide) ?_
  refine lp_reads (by omega) h60 hT2 61 (nx T 0) kzero 0 I2 (by omega) (nx_le (Nat.zero_le _)) ⟨hT2', hX, (hf _ _ (by omega)).trans ((up2_x (by omega)).trans up2_s)⟩ hD Nat.zero_le_4 hfr (fun r I' g1 g2 => ⟨g1, g2⟩)

theorem lp_tel {ζ : sm_Z} {d : Nat} {I0 : sm_I} {Q : Option Value → sm_I → Prop} {n : Int32} (hq : ∀ I' : sm_I, (∀ q, q < 25 → I' 107 q = I0 108 q) → I' 106 10 = nI 0 → (∀ a k, a ≠ 107 → ¬ (a = 106 ∧ k = 10) → I' a k = I0 a k) → Q (some (.int n)) I') : ∀ (f k : Nat) (I : sm_I), k + f = 25 → (∀ q, q < k → I 107 q = I0 108 q) → (∀ a k, a ≠ 107 → I a k = I0 a k) → X0 ζ d mX9_tells 33 [some (.ref 106), some (.int n), some (.int (nI k))] [] I Q := by
  intro f
  induction f with
  | zero =>
    intro k I hk h1 h3
    have hkk : k = 25 := by omega
    subst hkk
    refine o_iload_n dX9_tells_33 rfl rfl ?_
    refine o_bipush (v := nI 25) dX9_tells_34 (by decide) ?_
    refine o_icmpN_ge (tgt := 57) dX9_tells_36 (by decide) (by omega) (by omega) (fun b_35 => ?_) (fun b_35 => absurd b_35 (by omega))
    refine o_aload_n dX9_tells_57 rfl rfl ?_
    refine o_iconst (v := nI 0) dX9_tells_58 (by decide) ?_
    refine o_putI dX9_tells_59 flX9_47 sh_106 rfl ?_
    refine o_iload_n dX9_tells_62 rfl rfl ?_
    exact o_iret dX9_tells_63 rfl (hq _ (fun q hq => (up2_x (by omega)).trans (h1 q hq)) up2_s (fun a k z1 z2 => (up2_x (by omega)).trans (h3 a k z1)))
  | succ f ih =>
    intro k I hk h1 h3
    refine o_iload_n dX9_tells_33 rfl rfl ?_
    refine o_bipush (v := nI 25) dX9_tells_34 (by decide) ?_
    refine o_icmpN_ge (tgt := 57) dX9_tells_36 (by decide) (by omega) (by omega) (fun b_36 => absurd b_36 (by omega)) (fun b_36 => ?_)
    refine o_aload_n dX9_tells_39 rfl rfl ?_
    refine o_getR (b := 107) dX9_tells_40 fgX9_7 sh_106 rfl rfl ?_
    refine o_iload_n dX9_tells_43 rfl rfl ?_
    refine o_aload_n dX9_tells_44 rfl rfl ?_
    refine o_getR (b := 108) dX9_tells_45 fgX9_13 sh_106 rfl rfl ?_
    refine o_iload_n dX9_tells_48 rfl rfl ?_
    refine o_ialdN (v := I 108 k) dX9_tells_49 sh_108 (by decide) (by omega) rfl ?_
    refine o_iastN dX9_tells_50 sh_107 (by decide) (by omega) ?_
    refine o_iincN (w := 1) dX9_tells_51 rfl (by decide) (by decide) ?_
    refine o_goto (tgt := 33) dX9_tells_54 (by decide) ?_
    refine ih (k + 1) _ (by omega) (fun q hq => ?_) (fun a k z => (up2_x (by omega)).trans (h3 a k z))
    rcases Nat.lt_or_ge q k with z | z
    · exact (up2_x (by omega)).trans (h1 q z)
    · have hqq : q = k := by omega
      subst hqq
      exact up2_s.trans (h3 108 q (by decide))

set_option maxHeartbeats 4000000 in
set_option maxRecDepth 100000 in
theorem m_tells {I : sm_I} {S : ST} (hM : MI I S) (hS : okS S) : E0 7 mX9_tells [.ref 106] I (fun r I' => r = some (.int (sp_tells S).1) ∧ MI I' (sp_tells S).2 ∧ loC I I') := by
  have hK := hM.1
  have hok := hS.1
  have hT : MT I S.2.1 := hM.2.1
  refine E0.of (by decide) (by simp [Value.category]) (Nat.le_of_ble_eq_true rfl) (fun ζ => ?_)
  refine o_aload_n dX9_tells_0 rfl rfl ?_
  refine o_iconst (v := nI 0) dX9_tells_1 (by decide) ?_
  refine o_putI dX9_tells_2 flX9_39 sh_106 rfl ?_
  refine o_aload_n dX9_tells_5 rfl rfl ?_
  refine o_callV (as := []) (st := []) dX9_tells_6 (c_reads (hT.of (up2_x (by omega)) (fun k => up2_x (by omega))) hS.2.1.1 hS.2.1.2) rfl meX9_reads imX9_reads seX9_reads mlX9_96 sh_106 rfl rfl (by omega) (by decide) (Nat.le_of_ble_eq_true rfl) ?_
  rintro _ I1 ⟨⟨f, e1, hF, ⟨v, rfl⟩⟩ | ⟨n, K, e1, h9, hD, rfl⟩, hf⟩
  · refine o_istore_n dX9_tells_9 rfl (by decide) ?_
    refine o_aload_n dX9_tells_10 rfl rfl ?_
    refine o_getI (v := nI f) dX9_tells_11 fgX9_76 sh_106 rfl hF.2 ?_
    refine o_bipush (v := (-9)) dX9_tells_14 (by decide) ?_
    refine o_icmp_eq (tgt := 27) dX9_tells_16 (by decide) (fun b_37 => absurd b_37 (ne9 hF.1)) (fun b_37 => ?_)
    refine o_bipush (v := (-10)) dX9_tells_19 (by decide) ?_
    refine o_aload_n dX9_tells_21 rfl rfl ?_
    refine o_getI (v := nI f) dX9_tells_22 fgX9_76 sh_106 rfl hF.2 ?_
    refine o_isub dX9_tells_25 ?_
    exact o_iret dX9_tells_26 rfl (by rw [show sp_tells S = (-10 - nI f, S) by unfold sp_tells; rw [e1]]; exact ⟨rfl, hM.fr ((frM.scr (by unfold mn; omega)).trans hf.M), ((frM.scr (by unfold mn; omega)).trans hf.M).lo⟩)
  · refine o_istore_n dX9_tells_9 rfl (by decide) ?_
    refine o_aload_n dX9_tells_10 rfl rfl ?_
    refine o_getI (v := (-9)) dX9_tells_11 fgX9_76 sh_106 rfl h9 ?_
    refine o_bipush (v := (-9)) dX9_tells_14 (by decide) ?_
    refine o_icmp_eq (tgt := 27) dX9_tells_16 (by decide) (fun b_38 => ?_) (fun b_38 => absurd b_38 (by decide))
    refine o_aload_n dX9_tells_27 rfl rfl ?_
    have hfM : frM I I1 := (frM.scr (by unfold mn; omega)).trans hf.M
    refine o_callV (as := []) (st := []) dX9_tells_28 (c_notes (hK.frM hfM) hok.1 (hM.fr hfM).MP hS.2.2.1.1 (fun k hk => (hS.2.2.1.2 k hk).1)) rfl meX9_notes imX9_notes seX9_notes mlX9_100 sh_106 rfl rfl (by omega) (by decide) (Nat.le_of_ble_eq_true rfl) ?_
    rintro _ I2 ⟨rfl, hPI2, hFI2⟩
    have hI2 := (hM.fr hfM).note hPI2 hFI2
    have lo2 : loC I I2 := hfM.lo.trans hFI2.lo
    refine o_iconst (v := nI 0) dX9_tells_31 (by decide) ?_
    refine o_istore_n dX9_tells_32 rfl (by decide) ?_
    refine lp_tel (I0 := I2) (fun I3 g1 g2 g3 => ?_) 25 0 _ (by omega) (fun q hq => absurd hq (Nat.not_lt_zero q)) (fun _ _ _ => rfl)
    have e : sp_tells S = (nI n, (K, (0, S.2.1.2), ppush S.2.2.1 S.1, S.2.2.2)) := by unfold sp_tells; rw [e1]
    rw [e]
    have hKn := (pr_ok S.2.1 61 (nx S.2.1 0) kzero 0 (n, K) kzero_ok e1).1.1
    have hD2 : MK I2 108 0 K := hD.1.of (fun k => hFI2 _ _ (by omega) (by omega))
    have x : ∀ a k, a ≠ 107 → ¬ (a = 106 ∧ k = 10) → I3 a k = I2 a k := g3
    obtain ⟨h1, h2, h3, h4, h5⟩ := hI2
    refine ⟨rfl, mI_mk (hD2.mv hKn (fun q hq => by rw [Nat.zero_add]; exact g1 q hq)) ⟨g2, fun j hj => absurd hj (Nat.not_lt_zero j)⟩ (MP.of (P := ppush S.2.2.1 S.1) h3 (x _ _ (by omega) (by omega)) (fun k => x _ _ (by omega) (by omega))) (MIm.of h4 (fun k => x _ _ (by omega) (by omega)) (fun k => x _ _ (by omega) (by omega))) (MSn.of h5 (x _ _ (by omega) (by omega)) (fun k => x _ _ (by omega) (by omega))), fun a k z => (x a k (by omega) (by omega)).trans (lo2 a k z)⟩
