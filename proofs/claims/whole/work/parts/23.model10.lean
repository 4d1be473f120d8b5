theorem lp_sus_in {ζ : sm_Z} {d : Nat} (hd : 1 ≤ d) {I : sm_I} {Q : Option Value → sm_I → Prop} {K : KT} {c : Nat} (hq : okc (K.2 c)) (hU : I 106 17 = nI (tL K c) ∧ ∀ q, q ≤ tL K c → I 114 q = nI (uL K c q)) {N : NT} (hN : MSn I N) (hN6 : N.1 ≤ 6) (hNl : ∀ j, j < N.1 → N.2.1 j ≤ 99999 ∧ N.2.2 j ≤ 40) {a1 a2 : Option Value} (hx1 : sf_ok K c N N.1 = true → ∀ k : Nat, X0 ζ d mX9_suspects 99 [some (.ref 106), a1, a2, some (.int (nI 1)), some (.int (nI k))] [] I Q) (hx0 : sf_ok K c N N.1 = false → ∀ k : Nat, X0 ζ d mX9_suspects 99 [some (.ref 106), a1, a2, some (.int (nI 0)), some (.int (nI k))] [] I Q) : ∀ f k : Nat, k + f = N.1 → sf_ok K c N k = true → X0 ζ d mX9_suspects 26 [some (.ref 106), a1, a2, some (.int (nI 1)), some (.int (nI k))] [] I Q := by
  have hT := hq.lT1
  have hH := hq.lH1
  have hUl : ∀ y, y ≤ 40 → uL K c y ≤ 67200 := fun y hy => hq.lU1 hy
  have hHe : uL K c (tL K c) = hL K c := rfl
  intro f
  induction f with
  | zero =>
    intro k hk hk2
    refine o_iload dX9_suspects_26 rfl ?_
    refine o_aload_n dX9_suspects_28 rfl rfl ?_
    refine o_getI (v := nI N.1) dX9_suspects_29 fgX9_165 sh_106 rfl hN.1 ?_
    refine o_icmpN_ge (tgt := 99) dX9_suspects_32 (by decide) (by omega) (by omega) (fun b_1 => ?_) (fun b_1 => absurd b_1 (by omega))
    have hkk : k = N.1 := by omega
    subst hkk
    exact hx1 hk2 _
  | succ f ih =>
    intro k hk hk2
    refine o_iload dX9_suspects_26 rfl ?_
    refine o_aload_n dX9_suspects_28 rfl rfl ?_
    refine o_getI (v := nI N.1) dX9_suspects_29 fgX9_165 sh_106 rfl hN.1 ?_
    refine o_icmpN_ge (tgt := 99) dX9_suspects_32 (by decide) (by omega) (by omega) (fun b_2 => absurd b_2 (by omega)) (fun b_2 => ?_)
    refine o_iload_n dX9_suspects_35 rfl rfl ?_
    refine o_ifN_eq (tgt := 99) dX9_suspects_36 (by decide) (by omega) (fun b_3 => absurd b_3 (by omega)) (fun b_3 => ?_)
    have hNk := hNl k (by omega)
    refine o_aload_n dX9_suspects_39 rfl rfl ?_
    refine o_getR (b := 112) dX9_suspects_40 fgX9_26 sh_106 rfl rfl ?_
    refine o_iconst (v := nI 2) dX9_suspects_43 (by decide) ?_
    refine o_iload dX9_suspects_44 rfl ?_
    refine o_imulN dX9_suspects_46 ?_
    refine o_ialdN (v := nI (N.2.1 k)) dX9_suspects_47 sh_112 (by decide) (by omega) ((hN.2 k (by omega)).1) ?_
    refine o_aload_n dX9_suspects_48 rfl rfl ?_
    refine o_getR (b := 114) dX9_suspects_49 fgX9_33 sh_106 rfl rfl ?_
    refine o_aload_n dX9_suspects_52 rfl rfl ?_
    refine o_getI (v := nI (tL K c)) dX9_suspects_53 fgX9_109 sh_106 rfl hU.1 ?_
    refine o_ialdN (v := nI (uL K c (tL K c))) dX9_suspects_56 sh_114 (by decide) (by omega) (hU.2 (tL K c) (by omega)) ?_
    refine o_icmpN_gt (tgt := 91) dX9_suspects_57 (by decide) (by omega) (by omega) (fun b_4 => ?_) (fun b_4 => ?_)
    · refine o_iconst (v := nI 0) dX9_suspects_91 (by decide) ?_
      refine o_istore_n dX9_suspects_92 rfl (by decide) ?_
      refine o_iincN (w := 1) dX9_suspects_93 rfl (by decide) (by decide) ?_
      refine o_goto (tgt := 26) dX9_suspects_96 (by decide) ?_
      have hfalse : sf_ok K c N (k + 1) = false := by rw [sf_ok, hk2]; unfold sf_one; rw [decide_eq_false (show ¬ N.2.1 k ≤ hL K c by omega)]; rfl
      refine o_iload dX9_suspects_26 rfl ?_
      refine o_aload_n dX9_suspects_28 rfl rfl ?_
      refine o_getI (v := nI N.1) dX9_suspects_29 fgX9_165 sh_106 rfl hN.1 ?_
      refine o_icmpN_ge (tgt := 99) dX9_suspects_32 (by decide) (by omega) (by omega) (fun b_5 => ?_) (fun b_5 => ?_)
      · exact hx0 (sf_false hfalse N.1 (by omega)) (k + 1)
      · refine o_iload_n dX9_suspects_35 rfl rfl ?_
        refine o_ifN_eq (tgt := 99) dX9_suspects_36 (by decide) (by omega) (fun b_6 => ?_) (fun b_6 => absurd b_6 (by omega))
        exact hx0 (sf_false hfalse N.1 (by omega)) (k + 1)
    · refine o_aload_n dX9_suspects_60 rfl rfl ?_
      refine o_aload_n dX9_suspects_61 rfl rfl ?_
      refine o_getR (b := 112) dX9_suspects_62 fgX9_26 sh_106 rfl rfl ?_
      refine o_iconst (v := nI 2) dX9_suspects_65 (by decide) ?_
      refine o_iload dX9_suspects_66 rfl ?_
      refine o_imulN dX9_suspects_68 ?_
      refine o_ialdN (v := nI (N.2.1 k)) dX9_suspects_69 sh_112 (by decide) (by omega) ((hN.2 k (by omega)).1) ?_
      refine o_callVp (v := .int (nI (dL K c (N.2.1 k)))) (as := [.int (nI (N.2.1 k))]) (st := []) dX9_suspects_70 (c_dipOf (u := uL K c) (top := tL K c) hT hU.2 (fun q hq => by have := hUl q (by omega); omega) (show _ ≤ hL K c by omega)) rfl meX9_dipOf imX9_dipOf seX9_dipOf mlX9_137 sh_106 rfl rfl (by omega) (by decide) (Nat.le_of_ble_eq_true rfl) ?_
      have hdl := dL_le (n := N.2.1 k) hq
      refine o_aload_n dX9_suspects_73 rfl rfl ?_
      refine o_getR (b := 112) dX9_suspects_74 fgX9_26 sh_106 rfl rfl ?_
      refine o_iconst (v := nI 2) dX9_suspects_77 (by decide) ?_
      refine o_iload dX9_suspects_78 rfl ?_
      refine o_imulN dX9_suspects_80 ?_
      refine o_iconst (v := nI 1) dX9_suspects_81 (by decide) ?_
      refine o_iaddN dX9_suspects_82 ?_
      refine o_ialdN (v := nI (N.2.2 k)) dX9_suspects_83 sh_112 (by decide) (by omega) ((hN.2 k (by omega)).2) ?_
      refine o_icmpN_ne (tgt := 91) dX9_suspects_84 (by decide) (by omega) (by omega) (fun b_7 => ?_) (fun b_7 => ?_)
      · refine o_iconst (v := nI 0) dX9_suspects_91 (by decide) ?_
        refine o_istore_n dX9_suspects_92 rfl (by decide) ?_
        refine o_iincN (w := 1) dX9_suspects_93 rfl (by decide) (by decide) ?_
        refine o_goto (tgt := 26) dX9_suspects_96 (by decide) ?_
        have hfalse : sf_ok K c N (k + 1) = false := by rw [sf_ok, hk2]; unfold sf_one; rw [decide_eq_false (show ¬ dL K c (N.2.1 k) = N.2.2 k by omega), Bool.and_false]; rfl
        refine o_iload dX9_suspects_26 rfl ?_
        refine o_aload_n dX9_suspects_28 rfl rfl ?_
        refine o_getI (v := nI N.1) dX9_suspects_29 fgX9_165 sh_106 rfl hN.1 ?_
        refine o_icmpN_ge (tgt := 99) dX9_suspects_32 (by decide) (by omega) (by omega) (fun b_8 => ?_) (fun b_8 => ?_)
        · exact hx0 (sf_false hfalse N.1 (by omega)) (k + 1)
        · refine o_iload_n dX9_suspects_35 rfl rfl ?_
          refine o_ifN_eq (tgt := 99) dX9_suspects_36 (by decide) (by omega) (fun b_9 => ?_) (fun b_9 => absurd b_9 (by omega))
          exact hx0 (sf_false hfalse N.1 (by omega)) (k + 1)
      · refine o_iconst (v := nI 1) dX9_suspects_87 (by decide) ?_
        refine o_goto (tgt := 92) dX9_suspects_88 (by decide) ?_
        refine o_istore_n dX9_suspects_92 rfl (by decide) ?_
        refine o_iincN (w := 1) dX9_suspects_93 rfl (by decide) (by decide) ?_
        refine o_goto (tgt := 26) dX9_suspects_96 (by decide) ?_
        exact ih (k + 1) (by omega) (by rw [sf_ok, hk2]; unfold sf_one; rw [decide_eq_true (show N.2.1 k ≤ hL K c by omega), decide_eq_true (show dL K c (N.2.1 k) = N.2.2 k by omega)]; rfl)

theorem lp_suspects {ζ : sm_Z} {d : Nat} (hd : 4 ≤ d) {I0 : sm_I} {Q : Option Value → sm_I → Prop} {K : KT} (hok : okK K) {N : NT} (hN6 : N.1 ≤ 6) (hNl : ∀ j, j < N.1 → N.2.1 j ≤ 99999 ∧ N.2.2 j ≤ 40) (hq : ∀ I : sm_I, frM I0 I → Q (some (.int (nI (sf_set K N K.1)))) I) : ∀ (f c : Nat) (I : sm_I) (a3 a4 : Option Value), c + f = K.1 → MK I 107 0 K → MSn I N → frM I0 I → X0 ζ d mX9_suspects 4 [some (.ref 106), some (.int (nI (sf_set K N c))), some (.int (nI c)), a3, a4] [] I Q := by
  have hn := hok.1
  intro f
  induction f with
  | zero =>
    intro c I a3 a4 hc hK hN hF
    have hcc : c = K.1 := by omega
    subst hcc
    refine o_iload_n dX9_suspects_4 rfl rfl ?_
    refine o_aload_n dX9_suspects_5 rfl rfl ?_
    refine o_getR (b := 107) dX9_suspects_6 fgX9_7 sh_106 rfl rfl ?_
    refine o_bipush (v := nI 24) dX9_suspects_9 (by decide) ?_
    refine o_ialdN (v := nI K.1) dX9_suspects_11 sh_107 (by decide) (by omega) hK.n0 ?_
    refine o_icmpN_ge (tgt := 119) dX9_suspects_12 (by decide) (by omega) (by omega) (fun b_10 => ?_) (fun b_10 => absurd b_10 (by omega))
    refine o_iload_n dX9_suspects_119 rfl rfl ?_
    exact o_iret dX9_suspects_120 rfl (hq I hF)
  | succ f ih =>
    intro c I a3 a4 hc0 hK hN hF
    refine o_iload_n dX9_suspects_4 rfl rfl ?_
    refine o_aload_n dX9_suspects_5 rfl rfl ?_
    refine o_getR (b := 107) dX9_suspects_6 fgX9_7 sh_106 rfl rfl ?_
    refine o_bipush (v := nI 24) dX9_suspects_9 (by decide) ?_
    refine o_ialdN (v := nI K.1) dX9_suspects_11 sh_107 (by decide) (by omega) hK.n0 ?_
    refine o_icmpN_ge (tgt := 119) dX9_suspects_12 (by decide) (by omega) (by omega) (fun b_11 => absurd b_11 (by omega)) (fun b_11 => ?_)
    have hc : c < K.1 := by omega
    refine o_aload_n dX9_suspects_15 rfl rfl ?_
    refine o_iload_n dX9_suspects_16 rfl rfl ?_
    refine o_iconst (v := nI 1) dX9_suspects_17 (by decide) ?_
    refine o_callV (as := [.int (nI c), .int (nI 1)]) (st := []) dX9_suspects_18 (c_lays1 hok hc hK) rfl meX9_lays imX9_lays seX9_lays mlX9_116 sh_106 rfl rfl (by omega) (by decide) (Nat.le_of_ble_eq_true rfl) ?_
    rintro _ I1 ⟨rfl, hU1, hF1⟩
    refine o_iconst (v := nI 1) dX9_suspects_21 (by decide) ?_
    refine o_istore_n dX9_suspects_22 rfl (by decide) ?_
    refine o_iconst (v := nI 0) dX9_suspects_23 (by decide) ?_
    refine o_istore dX9_suspects_24 (by decide) ?_
    have hq := hok.2 c hc
    have h2c := sf_set_lt K N c
    have hK1 := hK.frU hF1
    have hN1 : MSn I1 N := hN.of (hF1 _ _ (by omega) (by omega)) (fun k => hF1 _ _ (by omega) (by omega))
    have hF2 : frM I0 I1 := hF.trans hF1.M
    refine lp_sus_in (by omega) hq hU1 hN1 hN6 hNl (fun hb k => ?_) (fun hb k => ?_) N.1 0 (by omega) rfl
    · refine o_iload_n dX9_suspects_99 rfl rfl ?_
      refine o_iload_n dX9_suspects_100 rfl rfl ?_
      refine o_ifN_eq (tgt := 110) dX9_suspects_101 (by decide) (by omega) (fun b_12 => absurd b_12 (by omega)) (fun b_12 => ?_)
      refine o_iconst (v := nI 1) dX9_suspects_104 (by decide) ?_
      refine o_iload_n dX9_suspects_105 rfl rfl ?_
      refine o_ishl dX9_suspects_106 ?_
      rw [show (nI 1) <<< ((nI c) &&& 31) = nI (2 ^ c) from shl_c (by omega)]
      refine o_goto (tgt := 111) dX9_suspects_107 (by decide) ?_
      refine o_ior dX9_suspects_111 ?_
      rw [show (nI (sf_set K N c)) ||| (nI (2 ^ c)) = nI (sf_set K N c + 2 ^ c) from or_c (by omega) h2c]
      refine o_istore_n dX9_suspects_112 rfl (by decide) ?_
      refine o_iincN (w := 1) dX9_suspects_113 rfl (by decide) (by decide) ?_
      refine o_goto (tgt := 4) dX9_suspects_116 (by decide) ?_
      have he : sf_set K N (c + 1) = sf_set K N c + 2 ^ c := by rw [sf_set, if_pos hb]
      have h := ih (c + 1) I1 (some (.int (nI 1))) (some (.int (nI k))) (by omega) hK1 hN1 hF2
      rw [he] at h
      exact h
    · refine o_iload_n dX9_suspects_99 rfl rfl ?_
      refine o_iload_n dX9_suspects_100 rfl rfl ?_
      refine o_ifN_eq (tgt := 110) dX9_suspects_101 (by decide) (by omega) (fun b_13 => ?_) (fun b_13 => absurd b_13 (by omega))
      refine o_iconst (v := nI 0) dX9_suspects_110 (by decide) ?_
      refine o_ior dX9_suspects_111 ?_
      rw [show (nI (sf_set K N c)) ||| (nI 0) = nI (sf_set K N c) from or_0 (by omega) h2c]
      refine o_istore_n dX9_suspects_112 rfl (by decide) ?_
      refine o_iincN (w := 1) dX9_suspects_113 rfl (by decide) (by decide) ?_
      refine o_goto (tgt := 4) dX9_suspects_116 (by decide) ?_
      have he : sf_set K N (c + 1) = sf_set K N c := by rw [sf_set, if_neg (by rw [hb]; decide)]; rfl
      have h := ih (c + 1) I1 (some (.int (nI 0))) (some (.int (nI k))) (by omega) hK1 hN1 hF2
      rw [he] at h
      exact h
theorem c_suspects {I : sm_I} {K : KT} (hok : okK K) (hK : MK I 107 0 K) {N : NT} (hN : MSn I N) (hN6 : N.1 ≤ 6) (hNl : ∀ j, j < N.1 → N.2.1 j ≤ 99999 ∧ N.2.2 j ≤ 40) : E0 4 mX9_suspects [.ref 106] I (fun r I' => r = some (.int (nI (sf_set K N K.1))) ∧ frM I I') := by
  refine E0.of (by decide) (by simp [Value.category]) (Nat.le_of_ble_eq_true rfl) (fun ζ => ?_)
  refine o_iconst (v := nI 0) dX9_suspects_0 (by decide) ?_
  refine o_istore_n dX9_suspects_1 rfl (by decide) ?_
  refine o_iconst (v := nI 0) dX9_suspects_2 (by decide) ?_
  refine o_istore_n dX9_suspects_3 rfl (by decide) ?_
  exact lp_suspects (by omega) hok hN6 hNl (fun I' h => ⟨rfl, h⟩) K.1 0 I none none (by omega) hK hN (frM.refl I)

set_option maxHeartbeats 4000000 in
set_option maxRecDepth 100000 in
theorem m_which {I : sm_I} {S : ST} (hM : MI I S) (hS : okS S) : E0 6 mX9_which [.ref 106] I (fun r I' => r = some (.int (sp_which S)) ∧ frM I I') := by
  have hK := hM.1
  have hok := hS.1
  have hn := hok.1
  have hN := hM.Sn
  have hN6 := hS.2.2.2.2.1
  have hNl := hS.2.2.2.2.2
  refine E0.of (by decide) (by simp [Value.category]) (Nat.le_of_ble_eq_true rfl) (fun ζ => ?_)
  refine o_aload_n dX9_which_0 rfl rfl ?_
  refine o_iconst (v := nI 0) dX9_which_1 (by decide) ?_
  refine o_putI dX9_which_2 flX9_39 sh_106 rfl ?_
  refine o_aload_n dX9_which_5 rfl rfl ?_
  refine o_callV (as := []) (st := []) dX9_which_6 (c_suspects hok (hK.frM ((frM.refl _).trans (frM.scr (by unfold mn; omega)))) (MI.Sn (hM.fr ((frM.refl _).trans (frM.scr (by unfold mn; omega))))) hN6 hNl) rfl meX9_suspects imX9_suspects seX9_suspects mlX9_168 sh_106 rfl rfl (by omega) (by decide) (Nat.le_of_ble_eq_true rfl) ?_
  rintro _ I1 ⟨rfl, hF1⟩
  exact o_iret dX9_which_9 rfl ⟨rfl, (((frM.refl _).trans (frM.scr (by unfold mn; omega))).trans hF1)⟩

theorem lp_ld_in {ζ : sm_Z} {d : Nat} (hd : 1 ≤ d) {I0 : sm_I} {Q : Option Value → sm_I → Prop} {K : KT} {c : Nat} (hc4 : c < 4) (hq : okc (K.2 c)) (hx : ∀ I' : sm_I, (∀ n, n < 1000 → I' 115 (4 * n + c) = dvI K n c) → (∀ a k, ¬ (a = 115 ∧ ∃ n, n < 1000 ∧ k = 4 * n + c) → I' a k = I0 a k) → X0 ζ d mX9_laysDips 67 [some (.ref 106), some (.int (nI c)), some (.int (nI 1000))] [] I' Q) : ∀ (f n : Nat) (I : sm_I), n + f = 1000 → (I 106 17 = nI (tL K c) ∧ ∀ q, q ≤ tL K c → I 114 q = nI (uL K c q)) → (∀ q, q < n → I 115 (4 * q + c) = dvI K q c) → (∀ a k, ¬ (a = 115 ∧ ∃ n, n < 1000 ∧ k = 4 * n + c) → I a k = I0 a k) → X0 ζ d mX9_laysDips 21 [some (.ref 106), some (.int (nI c)), some (.int (nI n))] [] I Q := by
  have hT := hq.lT1
  have hH := hq.lH1
  have hUl : ∀ y, y ≤ 40 → uL K c y ≤ 67200 := fun y hy => hq.lU1 hy
  have hHe : uL K c (tL K c) = hL K c := rfl
  intro f
  induction f with
  | zero =>
    intro n I hn hU h1 h2
    have hnn : n = 1000 := by omega
    subst hnn
    refine o_iload_n dX9_laysDips_21 rfl rfl ?_
    refine o_sipush (v := nI 1000) dX9_laysDips_22 (by decide) ?_
    refine o_icmpN_ge (tgt := 67) dX9_laysDips_25 (by decide) (by omega) (by omega) (fun b_14 => ?_) (fun b_14 => absurd b_14 (by omega))
    exact hx I h1 h2
  | succ f ih =>
    intro n I hn hU h1 h2
    refine o_iload_n dX9_laysDips_21 rfl rfl ?_
    refine o_sipush (v := nI 1000) dX9_laysDips_22 (by decide) ?_
    refine o_icmpN_ge (tgt := 67) dX9_laysDips_25 (by decide) (by omega) (by omega) (fun b_15 => absurd b_15 (by omega)) (fun b_15 => ?_)
    refine o_aload_n dX9_laysDips_28 rfl rfl ?_
    refine o_getR (b := 115) dX9_laysDips_29 fgX9_36 sh_106 rfl rfl ?_
    refine o_iconst (v := nI 4) dX9_laysDips_32 (by decide) ?_
    refine o_iload_n dX9_laysDips_33 rfl rfl ?_
    refine o_imulN dX9_laysDips_34 ?_
    refine o_iload_n dX9_laysDips_35 rfl rfl ?_
    refine o_iaddN dX9_laysDips_36 ?_
    refine o_iload_n dX9_laysDips_37 rfl rfl ?_
    refine o_aload_n dX9_laysDips_38 rfl rfl ?_
    refine o_getR (b := 114) dX9_laysDips_39 fgX9_33 sh_106 rfl rfl ?_
    refine o_aload_n dX9_laysDips_42 rfl rfl ?_
    refine o_getI (v := nI (tL K c)) dX9_laysDips_43 fgX9_109 sh_106 rfl hU.1 ?_
    refine o_ialdN (v := nI (uL K c (tL K c))) dX9_laysDips_46 sh_114 (by decide) (by omega) (hU.2 (tL K c) (by omega)) ?_
    refine o_icmpN_le (tgt := 55) dX9_laysDips_47 (by decide) (by omega) (by omega) (fun b_16 => ?_) (fun b_16 => ?_)
    · refine o_aload_n dX9_laysDips_55 rfl rfl ?_
      refine o_iload_n dX9_laysDips_56 rfl rfl ?_
      refine o_callVp (v := .int (nI (dL K c n))) (as := [.int (nI n)]) (st := [.int (nI ((4 * n) + c)), .ref 115]) dX9_laysDips_57 (c_dipOf (u := uL K c) (top := tL K c) hT hU.2 (fun q hq => by have := hUl q (by omega); omega) (show n ≤ hL K c by omega)) rfl meX9_dipOf imX9_dipOf seX9_dipOf mlX9_137 sh_106 rfl rfl (by omega) (by decide) (Nat.le_of_ble_eq_true rfl) ?_
      refine o_iastN dX9_laysDips_60 sh_115 (by decide) (by omega) ?_
      refine o_iincN (w := 1) dX9_laysDips_61 rfl (by decide) (by decide) ?_
      refine o_goto (tgt := 21) dX9_laysDips_64 (by decide) ?_
      have hv : dvI K n c = nI (dL K c n) := by unfold dvI; rw [if_neg (by omega)]
      refine ih (n + 1) _ (by omega) ⟨(up2_x (by omega)).trans hU.1, fun q hq => (up2_x (by omega)).trans (hU.2 q hq)⟩ (fun q hq => ?_) (fun a k z => (up2_x (fun y => z ⟨y.1, n, by omega, y.2⟩)).trans (h2 a k z))
      rcases Nat.lt_or_ge q n with z | z
      · exact (up2_x (by omega)).trans (h1 q z)
      · have hqq : q = n := by omega
        subst hqq
        rw [hv]
        exact up2_s
    · refine o_bipush (v := (-9)) dX9_laysDips_50 (by decide) ?_
      refine o_goto (tgt := 60) dX9_laysDips_52 (by decide) ?_
      refine o_iastN dX9_laysDips_60 sh_115 (by decide) (by omega) ?_
      refine o_iincN (w := 1) dX9_laysDips_61 rfl (by decide) (by decide) ?_
      refine o_goto (tgt := 21) dX9_laysDips_64 (by decide) ?_
      have hv : dvI K n c = -9 := by unfold dvI; rw [if_pos (by omega)]
      refine ih (n + 1) _ (by omega) ⟨(up2_x (by omega)).trans hU.1, fun q hq => (up2_x (by omega)).trans (hU.2 q hq)⟩ (fun q hq => ?_) (fun a k z => (up2_x (fun y => z ⟨y.1, n, by omega, y.2⟩)).trans (h2 a k z))
      rcases Nat.lt_or_ge q n with z | z
      · exact (up2_x (by omega)).trans (h1 q z)
      · have hqq : q = n := by omega
        subst hqq
        rw [hv]
        exact up2_s

theorem lp_laysDips {ζ : sm_Z} {d : Nat} (hd : 4 ≤ d) {I0 : sm_I} {Q : Option Value → sm_I → Prop} {K : KT} (hok : okK K) (hq : ∀ I : sm_I, (∀ c, c < K.1 → ∀ n, n < 1000 → I 115 (4 * n + c) = dvI K n c) → frM I0 I → Q none I) : ∀ (f c : Nat) (I : sm_I) (a2 : Option Value), c + f = K.1 → MK I 107 0 K → (∀ c2, c2 < c → ∀ n, n < 1000 → I 115 (4 * n + c2) = dvI K n c2) → frM I0 I → X0 ζ d mX9_laysDips 2 [some (.ref 106), some (.int (nI c)), a2] [] I Q := by
  have hn := hok.1
  intro f
  induction f with
  | zero =>
    intro c I a2 hc hK h1 hF
    have hcc : c = K.1 := by omega
    subst hcc
    refine o_iload_n dX9_laysDips_2 rfl rfl ?_
    refine o_aload_n dX9_laysDips_3 rfl rfl ?_
    refine o_getR (b := 107) dX9_laysDips_4 fgX9_7 sh_106 rfl rfl ?_
    refine o_bipush (v := nI 24) dX9_laysDips_7 (by decide) ?_
    refine o_ialdN (v := nI K.1) dX9_laysDips_9 sh_107 (by decide) (by omega) hK.n0 ?_
    refine o_icmpN_ge (tgt := 73) dX9_laysDips_10 (by decide) (by omega) (by omega) (fun b_17 => ?_) (fun b_17 => absurd b_17 (by omega))
    exact o_vret dX9_laysDips_73 rfl (hq I h1 hF)
  | succ f ih =>
    intro c I a2 hc0 hK h1 hF
    refine o_iload_n dX9_laysDips_2 rfl rfl ?_
    refine o_aload_n dX9_laysDips_3 rfl rfl ?_
    refine o_getR (b := 107) dX9_laysDips_4 fgX9_7 sh_106 rfl rfl ?_
    refine o_bipush (v := nI 24) dX9_laysDips_7 (by decide) ?_
    refine o_ialdN (v := nI K.1) dX9_laysDips_9 sh_107 (by decide) (by omega) hK.n0 ?_
    refine o_icmpN_ge (tgt := 73) dX9_laysDips_10 (by decide) (by omega) (by omega) (fun b_18 => absurd b_18 (by omega)) (fun b_18 => ?_)
    have hc : c < K.1 := by omega
    refine o_aload_n dX9_laysDips_13 rfl rfl ?_
    refine o_iload_n dX9_laysDips_14 rfl rfl ?_
    refine o_iconst (v := nI 1) dX9_laysDips_15 (by decide) ?_
    refine o_callV (as := [.int (nI c), .int (nI 1)]) (st := []) dX9_laysDips_16 (c_lays1 hok hc hK) rfl meX9_lays imX9_lays seX9_lays mlX9_116 sh_106 rfl rfl (by omega) (by decide) (Nat.le_of_ble_eq_true rfl) ?_
    rintro _ I1 ⟨rfl, hU1, hF1⟩
    refine o_iconst (v := nI 0) dX9_laysDips_19 (by decide) ?_
    refine o_istore_n dX9_laysDips_20 rfl (by decide) ?_
    have hq := hok.2 c hc
    refine lp_ld_in (by omega) (show c < 4 by omega) hq (fun I2 g1 g2 => ?_) 1000 0 I1 (by omega) hU1 (fun q hq => by omega) (fun _ _ _ => rfl)
    refine o_iincN (w := 1) dX9_laysDips_67 rfl (by decide) (by decide) ?_
    refine o_goto (tgt := 2) dX9_laysDips_70 (by decide) ?_
    refine ih (c + 1) I2 _ (by omega) ((hK.frU hF1).of (fun k => g2 107 k (by omega))) (fun c2 hc2 n hn2 => ?_) (hF.trans (hF1.M.trans (fun a k z => g2 a k (fun y => by rcases z with z | z <;> (try unfold mn at z) <;> omega))))
    rcases Nat.lt_or_ge c2 c with z | z
    · exact (g2 115 _ (fun y => by obtain ⟨-, n2, y1, y2⟩ := y; omega)).trans ((hF1 115 _ (by omega) (by omega)).trans (h1 c2 z n hn2))
    · have hcc : c2 = c := by omega
      subst hcc
      exact g1 n hn2
theorem c_laysDips {I : sm_I} {K : KT} (hok : okK K) (hK : MK I 107 0 K) : E0 4 mX9_laysDips [.ref 106] I (fun r I' => r = none ∧ (∀ c, c < K.1 → ∀ n, n < 1000 → I' 115 (4 * n + c) = dvI K n c) ∧ frM I I') := by
  refine E0.of (by decide) (by simp [Value.category]) (Nat.le_of_ble_eq_true rfl) (fun ζ => ?_)
  refine o_iconst (v := nI 0) dX9_laysDips_0 (by decide) ?_
  refine o_istore_n dX9_laysDips_1 rfl (by decide) ?_
  exact lp_laysDips (by omega) hok (fun I' h1 h2 => ⟨rfl, h1, h2⟩) K.1 0 I none (by omega) hK (fun c2 h => absurd h (Nat.not_lt_zero c2)) (frM.refl I)

theorem lp_al_in {ζ : sm_Z} {d : Nat} {I : sm_I} {Q : Option Value → sm_I → Prop} {K : KT} (hok : okK K) (hK : MK I 107 0 K) {b n c : Nat} (hb : b < 16) (hn2 : n < 1000) (hc : c < K.1) (hD : ∀ c, c < K.1 → ∀ n, n < 1000 → I 115 (4 * n + c) = dvI K n c) (hx : X0 ζ d mX9_alike 96 [some (.ref 106), some (.int (nI b)), some (.int (nI n)), some (.int (nI (al_out K b n c))), some (.int (nI c)), some (.int (nI (al_in K b n c K.1))), some (.int (nI K.1))] [] I Q) : ∀ f e : Nat, e + f = K.1 → X0 ζ d mX9_alike 23 [some (.ref 106), some (.int (nI b)), some (.int (nI n)), some (.int (nI (al_out K b n c))), some (.int (nI c)), some (.int (nI (al_in K b n c e))), some (.int (nI e))] [] I Q := by
  have hn := hok.1
  intro f
  induction f with
  | zero =>
    intro e he0
    have hee : e = K.1 := by omega
    subst hee
    refine o_iload dX9_alike_23 rfl ?_
    refine o_aload_n dX9_alike_25 rfl rfl ?_
    refine o_getR (b := 107) dX9_alike_26 fgX9_7 sh_106 rfl rfl ?_
    refine o_bipush (v := nI 24) dX9_alike_29 (by decide) ?_
    refine o_ialdN (v := nI K.1) dX9_alike_31 sh_107 (by decide) (by omega) hK.n0 ?_
    refine o_icmpN_ge (tgt := 96) dX9_alike_32 (by decide) (by omega) (by omega) (fun b_19 => ?_) (fun b_19 => absurd b_19 (by omega))
    exact hx
  | succ f ih =>
    intro e he0
    refine o_iload dX9_alike_23 rfl ?_
    refine o_aload_n dX9_alike_25 rfl rfl ?_
    refine o_getR (b := 107) dX9_alike_26 fgX9_7 sh_106 rfl rfl ?_
    refine o_bipush (v := nI 24) dX9_alike_29 (by decide) ?_
    refine o_ialdN (v := nI K.1) dX9_alike_31 sh_107 (by decide) (by omega) hK.n0 ?_
    refine o_icmpN_ge (tgt := 96) dX9_alike_32 (by decide) (by omega) (by omega) (fun b_20 => absurd b_20 (by omega)) (fun b_20 => ?_)
    refine o_iload dX9_alike_35 rfl ?_
    refine o_iload_n dX9_alike_37 rfl rfl ?_
    refine o_iload dX9_alike_38 rfl ?_
    refine o_ishr dX9_alike_40 ?_
    rw [show (nI b) >>> ((nI c) &&& 31) = nI (b / 2 ^ c) from shr_all b hb c (by omega)]
    refine o_iconst (v := nI 1) dX9_alike_41 (by decide) ?_
    refine o_iand dX9_alike_42 ?_
    rw [show (nI (b / 2 ^ c)) &&& (nI 1) = nI (b / 2 ^ c % 2) from and1_all _ (div_16 hb)]
    refine o_iconst (v := nI 1) dX9_alike_43 (by decide) ?_
    refine o_icmpN_ne (tgt := 86) dX9_alike_44 (by decide) (by omega) (by omega) (fun b_21 => ?_) (fun b_21 => ?_)
    · refine o_iconst (v := nI 0) dX9_alike_86 (by decide) ?_
      refine o_iaddN dX9_alike_87 ?_
      refine o_istore dX9_alike_88 (by decide) ?_
      refine o_iincN (w := 1) dX9_alike_90 rfl (by decide) (by decide) ?_
      refine o_goto (tgt := 23) dX9_alike_93 (by decide) ?_
      have he : al_bit K b n c e = 0 := by unfold al_bit; rw [if_neg (fun z => b_21 z.1)]
      have h := ih (e + 1) (by omega)
      rw [al_in, he] at h
      exact h
    · refine o_iload_n dX9_alike_47 rfl rfl ?_
      refine o_iload dX9_alike_48 rfl ?_
      refine o_ishr dX9_alike_50 ?_
      rw [show (nI b) >>> ((nI e) &&& 31) = nI (b / 2 ^ e) from shr_all b hb e (by omega)]
      refine o_iconst (v := nI 1) dX9_alike_51 (by decide) ?_
      refine o_iand dX9_alike_52 ?_
      rw [show (nI (b / 2 ^ e)) &&& (nI 1) = nI (b / 2 ^ e % 2) from and1_all _ (div_16 hb)]
      refine o_iconst (v := nI 1) dX9_alike_53 (by decide) ?_
      refine o_icmpN_ne (tgt := 86) dX9_alike_54 (by decide) (by omega) (by omega) (fun b_22 => ?_) (fun b_22 => ?_)
      · refine o_iconst (v := nI 0) dX9_alike_86 (by decide) ?_
        refine o_iaddN dX9_alike_87 ?_
        refine o_istore dX9_alike_88 (by decide) ?_
        refine o_iincN (w := 1) dX9_alike_90 rfl (by decide) (by decide) ?_
        refine o_goto (tgt := 23) dX9_alike_93 (by decide) ?_
        have he : al_bit K b n c e = 0 := by unfold al_bit; rw [if_neg (fun z => b_22 z.2.1)]
        have h := ih (e + 1) (by omega)
        rw [al_in, he] at h
        exact h
      · refine o_aload_n dX9_alike_57 rfl rfl ?_
        refine o_getR (b := 115) dX9_alike_58 fgX9_36 sh_106 rfl rfl ?_
        refine o_iconst (v := nI 4) dX9_alike_61 (by decide) ?_
        refine o_iload_n dX9_alike_62 rfl rfl ?_
        refine o_imulN dX9_alike_63 ?_
        refine o_iload dX9_alike_64 rfl ?_
        refine o_iaddN dX9_alike_66 ?_
        refine o_ialdN (v := dvI K n c) dX9_alike_67 sh_115 (by decide) (by omega) (hD c (by omega) n hn2) ?_
        refine o_aload_n dX9_alike_68 rfl rfl ?_
        refine o_getR (b := 115) dX9_alike_69 fgX9_36 sh_106 rfl rfl ?_
        refine o_iconst (v := nI 4) dX9_alike_72 (by decide) ?_
        refine o_iload_n dX9_alike_73 rfl rfl ?_
        refine o_imulN dX9_alike_74 ?_
        refine o_iload dX9_alike_75 rfl ?_
        refine o_iaddN dX9_alike_77 ?_
        refine o_ialdN (v := dvI K n e) dX9_alike_78 sh_115 (by decide) (by omega) (hD e (by omega) n hn2) ?_
        refine o_icmp_ne (tgt := 86) dX9_alike_79 (by decide) (fun b_23 => ?_) (fun b_23 => ?_)
        · refine o_iconst (v := nI 0) dX9_alike_86 (by decide) ?_
          refine o_iaddN dX9_alike_87 ?_
          refine o_istore dX9_alike_88 (by decide) ?_
          refine o_iincN (w := 1) dX9_alike_90 rfl (by decide) (by decide) ?_
          refine o_goto (tgt := 23) dX9_alike_93 (by decide) ?_
          have he : al_bit K b n c e = 0 := by unfold al_bit; rw [if_neg (fun z => b_23 ((dv_eq (hok.2 c (by omega)) (hok.2 e (by omega))).mpr z.2.2))]
          have h := ih (e + 1) (by omega)
          rw [al_in, he] at h
          exact h
        · refine o_iconst (v := nI 1) dX9_alike_82 (by decide) ?_
          refine o_goto (tgt := 87) dX9_alike_83 (by decide) ?_
          refine o_iaddN dX9_alike_87 ?_
          refine o_istore dX9_alike_88 (by decide) ?_
          refine o_iincN (w := 1) dX9_alike_90 rfl (by decide) (by decide) ?_
          refine o_goto (tgt := 23) dX9_alike_93 (by decide) ?_
          have he : al_bit K b n c e = 1 := by unfold al_bit; rw [if_pos ⟨by omega, by omega, (dv_eq (hok.2 c (by omega)) (hok.2 e (by omega))).mp b_23⟩]
          have h := ih (e + 1) (by omega)
          rw [al_in, he] at h
          exact h

theorem lp_alike {ζ : sm_Z} {d : Nat} {I : sm_I} {Q : Option Value → sm_I → Prop} {K : KT} (hok : okK K) (hK : MK I 107 0 K) {b n : Nat} (hb : b < 16) (hn2 : n < 1000) (hD : ∀ c, c < K.1 → ∀ n, n < 1000 → I 115 (4 * n + c) = dvI K n c) (hq : Q (some (.int (nI (al_out K b n K.1)))) I) : ∀ (f c : Nat) (a5 a6 : Option Value), c + f = K.1 → X0 ζ d mX9_alike 5 [some (.ref 106), some (.int (nI b)), some (.int (nI n)), some (.int (nI (al_out K b n c))), some (.int (nI c)), a5, a6] [] I Q := by
  have hn := hok.1
  intro f
  induction f with
  | zero =>
    intro c a5 a6 hc
    have hcc : c = K.1 := by omega
    subst hcc
    refine o_iload dX9_alike_5 rfl ?_
    refine o_aload_n dX9_alike_7 rfl rfl ?_
    refine o_getR (b := 107) dX9_alike_8 fgX9_7 sh_106 rfl rfl ?_
    refine o_bipush (v := nI 24) dX9_alike_11 (by decide) ?_
    refine o_ialdN (v := nI K.1) dX9_alike_13 sh_107 (by decide) (by omega) hK.n0 ?_
    refine o_icmpN_ge (tgt := 115) dX9_alike_14 (by decide) (by omega) (by omega) (fun b_24 => ?_) (fun b_24 => absurd b_24 (by omega))
    refine o_iload_n dX9_alike_115 rfl rfl ?_
    exact o_iret dX9_alike_116 rfl hq
  | succ f ih =>
    intro c a5 a6 hc
    refine o_iload dX9_alike_5 rfl ?_
    refine o_aload_n dX9_alike_7 rfl rfl ?_
    refine o_getR (b := 107) dX9_alike_8 fgX9_7 sh_106 rfl rfl ?_
    refine o_bipush (v := nI 24) dX9_alike_11 (by decide) ?_
    refine o_ialdN (v := nI K.1) dX9_alike_13 sh_107 (by decide) (by omega) hK.n0 ?_
    refine o_icmpN_ge (tgt := 115) dX9_alike_14 (by decide) (by omega) (by omega) (fun b_25 => absurd b_25 (by omega)) (fun b_25 => ?_)
    refine o_iconst (v := nI 0) dX9_alike_17 (by decide) ?_
    refine o_istore dX9_alike_18 (by decide) ?_
    refine o_iconst (v := nI 0) dX9_alike_20 (by decide) ?_
    refine o_istore dX9_alike_21 (by decide) ?_
    have hil := al_in_le K b n c K.1
    have hol := al_out_le K b n c
    refine lp_al_in hok hK hb hn2 (show c < K.1 by omega) hD ?_ K.1 0 (by omega)
    refine o_iload dX9_alike_96 rfl ?_
    refine o_iload_n dX9_alike_98 rfl rfl ?_
    refine o_icmpN_le (tgt := 107) dX9_alike_99 (by decide) (by omega) (by omega) (fun b_26 => ?_) (fun b_26 => ?_)
    · refine o_iload_n dX9_alike_107 rfl rfl ?_
      refine o_istore_n dX9_alike_108 rfl (by decide) ?_
      refine o_iincN (w := 1) dX9_alike_109 rfl (by decide) (by decide) ?_
      refine o_goto (tgt := 5) dX9_alike_112 (by decide) ?_
      have he : al_out K b n (c + 1) = al_out K b n c := by rw [al_out]; omega
      have h := ih (c + 1) (some (.int (nI (al_in K b n c K.1)))) (some (.int (nI K.1))) (by omega)
      rw [he] at h
      exact h
    · refine o_iload dX9_alike_102 rfl ?_
      refine o_goto (tgt := 108) dX9_alike_104 (by decide) ?_
      refine o_istore_n dX9_alike_108 rfl (by decide) ?_
      refine o_iincN (w := 1) dX9_alike_109 rfl (by decide) (by decide) ?_
      refine o_goto (tgt := 5) dX9_alike_112 (by decide) ?_
      have he : al_out K b n (c + 1) = al_in K b n c K.1 := by rw [al_out]; omega
      have h := ih (c + 1) (some (.int (nI (al_in K b n c K.1)))) (some (.int (nI K.1))) (by omega)
      rw [he] at h
      exact h
theorem c_alike {I : sm_I} {K : KT} (hok : okK K) (hK : MK I 107 0 K) {b n : Nat} (hb : b < 16) (hn2 : n < 1000) (hD : ∀ c, c < K.1 → ∀ n, n < 1000 → I 115 (4 * n + c) = dvI K n c) : E0 0 mX9_alike [.ref 106, .int (nI b), .int (nI n)] I (fun r I' => I' = I ∧ r = some (.int (nI (al_out K b n K.1)))) := by
  refine E0.of (by decide) (by simp [Value.category]) (Nat.le_of_ble_eq_true rfl) (fun ζ => ?_)
  refine o_iconst (v := nI 0) dX9_alike_0 (by decide) ?_
  refine o_istore_n dX9_alike_1 rfl (by decide) ?_
  refine o_iconst (v := nI 0) dX9_alike_2 (by decide) ?_
  refine o_istore dX9_alike_3 (by decide) ?_
  exact lp_alike hok hK hb hn2 hD ⟨rfl, rfl⟩ K.1 0 _ _ (by omega)

theorem lp_ask {ζ : sm_Z} {d : Nat} (hd : 1 ≤ d) {I : sm_I} {Q : Option Value → sm_I → Prop} {K : KT} (hok : okK K) (hK : MK I 107 0 K) {b : Nat} (hb : b < 16) (hD : ∀ c, c < K.1 → ∀ n, n < 1000 → I 115 (4 * n + c) = dvI K n c) (hq : Q (some (.int (sg_r (ak K b 1000).1))) I) : ∀ (f n : Nat) (a5 : Option Value), n + f = 1000 → X0 ζ d mX9_ask 33 [some (.ref 106), some (.int (nI b)), some (.int (sg_r (ak K b n).1)), some (.int (nI (ak K b n).2)), some (.int (nI n)), a5] [] I Q := by
  have hn := hok.1
  intro f
  induction f with
  | zero =>
    intro n a5 hn0
    have hnn : n = 1000 := by omega
    subst hnn
    refine o_iload dX9_ask_33 rfl ?_
    refine o_sipush (v := nI 1000) dX9_ask_35 (by decide) ?_
    refine o_icmpN_ge (tgt := 82) dX9_ask_38 (by decide) (by omega) (by omega) (fun b_27 => ?_) (fun b_27 => absurd b_27 (by omega))
    refine o_iload_n dX9_ask_82 rfl rfl ?_
    exact o_iret dX9_ask_83 rfl hq
  | succ f ih =>
    intro n a5 hn0
    refine o_iload dX9_ask_33 rfl ?_
    refine o_sipush (v := nI 1000) dX9_ask_35 (by decide) ?_
    refine o_icmpN_ge (tgt := 82) dX9_ask_38 (by decide) (by omega) (by omega) (fun b_28 => absurd b_28 (by omega)) (fun b_28 => ?_)
    refine o_aload_n dX9_ask_41 rfl rfl ?_
    refine o_iload_n dX9_ask_42 rfl rfl ?_
    refine o_iload dX9_ask_43 rfl ?_
    refine o_callVp (v := .int (nI (al_out K b n K.1))) (as := [.int (nI b), .int (nI n)]) (st := []) dX9_ask_45 (c_alike hok hK hb (by omega) hD) rfl meX9_alike imX9_alike seX9_alike mlX9_174 sh_106 rfl rfl (by omega) (by decide) (Nat.le_of_ble_eq_true rfl) ?_
    have hal := al_out_le K b n K.1
    have hakl := ak_le K b n
    refine o_istore dX9_ask_48 (by decide) ?_
    refine o_iload dX9_ask_50 rfl ?_
    refine o_iload_n dX9_ask_52 rfl rfl ?_
    refine o_icmpN_ge (tgt := 61) dX9_ask_53 (by decide) (by omega) (by omega) (fun b_29 => ?_) (fun b_29 => ?_)
    · refine o_iload_n dX9_ask_61 rfl rfl ?_
      refine o_istore_n dX9_ask_62 rfl (by decide) ?_
      refine o_iload dX9_ask_63 rfl ?_
      refine o_iload_n dX9_ask_65 rfl rfl ?_
      refine o_icmpN_ge (tgt := 74) dX9_ask_66 (by decide) (by omega) (by omega) (fun b_30 => ?_) (fun b_30 => absurd b_30 (by omega))
      refine o_iload_n dX9_ask_74 rfl rfl ?_
      refine o_istore_n dX9_ask_75 rfl (by decide) ?_
      refine o_iincN (w := 1) dX9_ask_76 rfl (by decide) (by decide) ?_
      refine o_goto (tgt := 33) dX9_ask_79 (by decide) ?_
      have he : ak K b (n + 1) = ak K b n := by rw [ak, if_neg (by omega)]
      have h := ih (n + 1) (some (.int (nI (al_out K b n K.1)))) (by omega)
      rw [he] at h
      exact h
    · refine o_iload dX9_ask_56 rfl ?_
      refine o_goto (tgt := 62) dX9_ask_58 (by decide) ?_
      refine o_istore_n dX9_ask_62 rfl (by decide) ?_
      refine o_iload dX9_ask_63 rfl ?_
      refine o_iload_n dX9_ask_65 rfl rfl ?_
      refine o_icmpN_ge (tgt := 74) dX9_ask_66 (by decide) (by omega) (by omega) (fun b_31 => absurd b_31 (by omega)) (fun b_31 => ?_)
      refine o_iload dX9_ask_69 rfl ?_
      refine o_goto (tgt := 75) dX9_ask_71 (by decide) ?_
      refine o_istore_n dX9_ask_75 rfl (by decide) ?_
      refine o_iincN (w := 1) dX9_ask_76 rfl (by decide) (by decide) ?_
      refine o_goto (tgt := 33) dX9_ask_79 (by decide) ?_
      have he : ak K b (n + 1) = (some n, al_out K b n K.1) := by rw [ak, if_pos (by omega)]
      have h := ih (n + 1) (some (.int (nI (al_out K b n K.1)))) (by omega)
      rw [he] at h
      exact h

set_option maxHeartbeats 4000000 in
set_option maxRecDepth 100000 in
theorem m_ask {I : sm_I} {S : ST} (hM : MI I S) (hS : okS S) : E0 6 mX9_ask [.ref 106] I (fun r I' => r = some (.int (sp_ask S)) ∧ frM I I') := by
  have hK := hM.1
  have hok := hS.1
  have hn := hok.1
  have hN := hM.Sn
  have hN6 := hS.2.2.2.2.1
  have hNl := hS.2.2.2.2.2
  have h16 := sf_16 (K := S.1) (N := S.2.2.2.2) hn
  refine E0.of (by decide) (by simp [Value.category]) (Nat.le_of_ble_eq_true rfl) (fun ζ => ?_)
  refine o_aload_n dX9_ask_0 rfl rfl ?_
  refine o_iconst (v := nI 0) dX9_ask_1 (by decide) ?_
  refine o_putI dX9_ask_2 flX9_39 sh_106 rfl ?_
  refine o_aload_n dX9_ask_5 rfl rfl ?_
  refine o_callV (as := []) (st := []) dX9_ask_6 (c_suspects hok (hK.frM ((frM.refl _).trans (frM.scr (by unfold mn; omega)))) (MI.Sn (hM.fr ((frM.refl _).trans (frM.scr (by unfold mn; omega))))) hN6 hNl) rfl meX9_suspects imX9_suspects seX9_suspects mlX9_168 sh_106 rfl rfl (by omega) (by decide) (Nat.le_of_ble_eq_true rfl) ?_
  rintro _ I1 ⟨rfl, hF1⟩
  refine o_istore_n dX9_ask_9 rfl (by decide) ?_
  refine o_iload_n dX9_ask_10 rfl rfl ?_
  refine o_iload_n dX9_ask_11 rfl rfl ?_
  refine o_iconst (v := nI 1) dX9_ask_12 (by decide) ?_
  refine o_isub dX9_ask_13 ?_
  refine o_iand dX9_ask_14 ?_
  refine o_if_ne (tgt := 21) dX9_ask_15 (by decide) (fun b_32 => ?_) (fun b_32 => ?_)
  · refine o_aload_n dX9_ask_21 rfl rfl ?_
    refine o_callV (as := []) (st := []) dX9_ask_22 (c_laysDips hok (hK.frM (((frM.refl _).trans (frM.scr (by unfold mn; omega))).trans hF1))) rfl meX9_laysDips imX9_laysDips seX9_laysDips mlX9_171 sh_106 rfl rfl (by omega) (by decide) (Nat.le_of_ble_eq_true rfl) ?_
    rintro _ I2 ⟨rfl, hD2, hF2⟩
    refine o_bipush (v := (-9)) dX9_ask_25 (by decide) ?_
    refine o_istore_n dX9_ask_27 rfl (by decide) ?_
    refine o_iconst (v := nI 5) dX9_ask_28 (by decide) ?_
    refine o_istore_n dX9_ask_29 rfl (by decide) ?_
    refine o_iconst (v := nI 0) dX9_ask_30 (by decide) ?_
    refine o_istore dX9_ask_31 (by decide) ?_
    exact lp_ask (by omega) hok (hK.frM ((((frM.refl _).trans (frM.scr (by unfold mn; omega))).trans hF1).trans hF2)) h16 hD2 ⟨by unfold sp_ask; rw [if_neg (fun z => b_32 ((pc_and _ h16).mpr z))], ((((frM.refl _).trans (frM.scr (by unfold mn; omega))).trans hF1).trans hF2)⟩ 1000 0 _ (by omega)
  · refine o_bipush (v := (-9)) dX9_ask_18 (by decide) ?_
    exact o_iret dX9_ask_20 rfl ⟨by unfold sp_ask; rw [if_pos ((pc_and _ h16).mp b_32)], (((frM.refl _).trans (frM.scr (by unfold mn; omega))).trans hF1)⟩
