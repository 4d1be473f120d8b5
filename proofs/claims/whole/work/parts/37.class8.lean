theorem k_lddv {I : sm_I} {a : Nat} (hL : isLv a) {K : KT} {c : Nat} (q1 : K.2 c 0 ≤ 12) (q4 : K.2 c 2 ≤ 20) (hM : LM I a 1 (K.2 c 0) (K.2 c 1) (K.2 c 2)) {n : Nat} (hn : n < 2 ^ 31) : E0 2 mX2_leastDip [.ref a, .int (nI n)] I (fun r I' => I' = I ∧ r = some (.int (nI (dv K n c)))) := by
  rw [← dv_ld K n c]
  exact k_ld hL q1 q4 hM hn
theorem dv_sf {K : KT} {c a b : Nat} (hb : b ≤ 40) : sf_one K c a b = true ↔ dv K a c = b := by
  unfold sf_one dv
  rw [Bool.and_eq_true, decide_eq_true_iff, decide_eq_true_iff]
  by_cases h : hL K c < a
  · rw [if_pos h]; omega
  · rw [if_neg h]; omega

set_option maxHeartbeats 4000000 in
set_option maxRecDepth 100000 in
theorem lp_fits {ζ : sm_Z} {d : Nat} (hd : 3 ≤ d) {I : sm_I} {a : Nat} (hL : isLv a) {K : KT} {c : Nat} (q1 : K.2 c 0 ≤ 12) (q4 : K.2 c 2 ≤ 20) (hM : LM I a 1 (K.2 c 0) (K.2 c 1) (K.2 c 2)) {N : NT} (hN : CSn I N) (hN6 : N.1 ≤ 6) (hNo : ∀ j, j < N.1 → N.2.1 j ≤ 99999 ∧ N.2.2 j ≤ 40) : ∀ f i : Nat, i + f = N.1 → sf_ok K c N i = true → X0 ζ d mX6_fits 2 [some (.ref 83), some (.ref a), some (.int (nI i))] [] I (fun r I' => I' = I ∧ ((sf_ok K c N N.1 = true ∧ r = some (.int (nI 1))) ∨ (sf_ok K c N N.1 = false ∧ r = some (.int (nI 0))))) := by
  intro f
  induction f with
  | zero =>
    intro i hi hs
    refine o_iload_n dX6_fits_2 rfl rfl ?_
    refine o_aload_n dX6_fits_3 rfl rfl ?_
    refine o_getI (v := nI N.1) dX6_fits_4 fgX6_18 sh_83 rfl hN.1 ?_
    refine o_icmpN_ge (tgt := 43) dX6_fits_7 (by decide) (by omega) (by omega) (fun b_46 => ?_) (fun b_46 => absurd b_46 (by omega))
    refine o_iconst (v := nI 1) dX6_fits_43 (by decide) ?_
    exact o_zret dX6_fits_44 rfl (by decide) ⟨rfl, Or.inl ⟨(by rw [show i = N.1 by omega] at hs; exact hs), rfl⟩⟩
  | succ f ih =>
    intro i hi hs
    refine o_iload_n dX6_fits_2 rfl rfl ?_
    refine o_aload_n dX6_fits_3 rfl rfl ?_
    refine o_getI (v := nI N.1) dX6_fits_4 fgX6_18 sh_83 rfl hN.1 ?_
    refine o_icmpN_ge (tgt := 43) dX6_fits_7 (by decide) (by omega) (by omega) (fun b_47 => absurd b_47 (by omega)) (fun b_47 => ?_)
    refine o_iload_n dX6_fits_10 rfl rfl ?_
    refine o_bipush (v := nI 6) dX6_fits_11 (by decide) ?_
    refine o_icmpN_ge (tgt := 43) dX6_fits_13 (by decide) (by omega) (by omega) (fun b_48 => absurd b_48 (by omega)) (fun b_48 => ?_)
    have hno := hNo i (by omega)
    have hdv : dv K (N.2.1 i) c ≤ 41 := by rw [← dv_ld]; exact ld_le _ _ _ _ (by have := cg_top_le (l := 1) q1 q4; show 0 + (cg_top (K.2 c 0) (K.2 c 2) 1 + 1) ≤ 41; omega)
    refine o_aload_n dX6_fits_16 rfl rfl ?_
    refine o_aload_n dX6_fits_17 rfl rfl ?_
    refine o_getR (b := 84) dX6_fits_18 fgX6_9 sh_83 rfl rfl ?_
    refine o_iload_n dX6_fits_21 rfl rfl ?_
    refine o_ialdN (v := nI (N.2.1 i)) dX6_fits_22 sh_84 (by decide) (by omega) ((hN.2 i (by omega)).1) ?_
    refine o_callVp (v := .int (nI (dv K (N.2.1 i) c))) (as := [.int (nI (N.2.1 i))]) (st := []) dX6_fits_23 (k_lddv hL q1 q4 hM (by omega)) rfl meX2_leastDip imX2_leastDip seX2_leastDip mlX6_22 hL.1 rfl rfl (by omega) (by decide) (Nat.le_of_ble_eq_true rfl) ?_
    refine o_aload_n dX6_fits_26 rfl rfl ?_
    refine o_getR (b := 85) dX6_fits_27 fgX6_15 sh_83 rfl rfl ?_
    refine o_iload_n dX6_fits_30 rfl rfl ?_
    refine o_ialdN (v := nI (N.2.2 i)) dX6_fits_31 sh_85 (by decide) (by omega) ((hN.2 i (by omega)).2) ?_
    refine o_icmpN_eq (tgt := 37) dX6_fits_32 (by decide) (by omega) (by omega) (fun b_49 => ?_) (fun b_49 => ?_)
    · refine o_iincN (w := 1) dX6_fits_37 rfl (by decide) (by decide) ?_
      refine o_goto (tgt := 2) dX6_fits_40 (by decide) ?_
      exact ih (i + 1) (by omega) (by rw [sf_ok, hs, (dv_sf (by omega)).mpr b_49]; rfl)
    · refine o_iconst (v := nI 0) dX6_fits_35 (by decide) ?_
      exact o_zret dX6_fits_36 rfl (by decide) ⟨rfl, Or.inr ⟨sf_false (k := i + 1) (by rw [sf_ok, hs, Bool.true_and]; exact Bool.eq_false_iff.mpr (fun q => b_49 ((dv_sf (by omega)).mp q))) N.1 (by omega), rfl⟩⟩

set_option maxHeartbeats 4000000 in
set_option maxRecDepth 100000 in
theorem k_fits {I : sm_I} {a : Nat} (hL : isLv a) {K : KT} {c : Nat} (q1 : K.2 c 0 ≤ 12) (q4 : K.2 c 2 ≤ 20) (hM : LM I a 1 (K.2 c 0) (K.2 c 1) (K.2 c 2)) {N : NT} (hN : CSn I N) (hN6 : N.1 ≤ 6) (hNo : ∀ j, j < N.1 → N.2.1 j ≤ 99999 ∧ N.2.2 j ≤ 40) : E0 3 mX6_fits [.ref 83, .ref a] I (fun r I' => I' = I ∧ ((sf_ok K c N N.1 = true ∧ r = some (.int (nI 1))) ∨ (sf_ok K c N N.1 = false ∧ r = some (.int (nI 0))))) := by
  refine E0.of (by decide) (by simp [Value.category]) (Nat.le_of_ble_eq_true rfl) (fun ζ => ?_)
  refine o_iconst (v := nI 0) dX6_fits_0 (by decide) ?_
  refine o_istore_n dX6_fits_1 rfl (by decide) ?_
  exact lp_fits (by omega) hL q1 q4 hM hN hN6 hNo N.1 0 (by omega) rfl

def LMs (I : sm_I) (K : KT) (n : Nat) : Prop := ∀ c, c < n → LM I (88 + 4 * c) 1 (K.2 c 0) (K.2 c 1) (K.2 c 2)
theorem LMs.fr {I I' : sm_I} {K : KT} {n : Nat} (h : LMs I K n) (hn : n ≤ 4) (hf : ∀ b k, 88 ≤ b → b ≤ 103 → I' b k = I b k) : LMs I' K n := fun c hc => (h c hc).of (fun b k g1 g2 => hf b k (by omega) (by omega))

set_option maxHeartbeats 4000000 in
set_option maxRecDepth 100000 in
theorem lp_which {ζ : sm_Z} {d : Nat} (hd : 5 ≤ d) {I0 : sm_I} {K : KT} (hok : okK K) {N : NT} (hN6 : N.1 ≤ 6) (hNo : ∀ j, j < N.1 → N.2.1 j ≤ 99999 ∧ N.2.2 j ≤ 40) : ∀ (f c : Nat) (I : sm_I), c + f = K.1 → CK I 13 K → CSn I N → LV I → LMs I K c → frC I0 I → X0 ζ d mX8_which 4 [some (.ref 0), some (.int (nI (sf_set K N c))), some (.int (nI c))] [] I (fun r I' => r = some (.int (nI (sf_set K N K.1))) ∧ frC I0 I' ∧ LV I' ∧ LMs I' K K.1) := by
  have hn := hok.1
  intro f
  induction f with
  | zero =>
    intro c I hc hK hN hV hLs hfr
    have hcc : c = K.1 := by omega
    subst hcc
    refine o_iload_n dX8_which_4 rfl rfl ?_
    refine o_aload_n dX8_which_5 rfl rfl ?_
    refine o_getR (b := 13) dX8_which_6 fgX8_28 sh_0 rfl rfl ?_
    refine o_getI (v := nI K.1) dX8_which_9 fgX8_216 sh_13 rfl hK.1 ?_
    refine o_icmpN_ge (tgt := 42) dX8_which_12 (by decide) (by omega) (by omega) (fun b_50 => ?_) (fun b_50 => absurd b_50 (by omega))
    refine o_iload_n dX8_which_42 rfl rfl ?_
    exact o_iret dX8_which_43 rfl ⟨rfl, hfr, hV, hLs⟩
  | succ f ih =>
    intro c I hc' hK hN hV hLs hfr
    have hc : c < K.1 := by omega
    have hc4 : c < 4 := by omega
    obtain ⟨q0, q1, q2, q3, q4, q5, q6, q7⟩ := id (hok.2 c hc)
    refine o_iload_n dX8_which_4 rfl rfl ?_
    refine o_aload_n dX8_which_5 rfl rfl ?_
    refine o_getR (b := 13) dX8_which_6 fgX8_28 sh_0 rfl rfl ?_
    refine o_getI (v := nI K.1) dX8_which_9 fgX8_216 sh_13 rfl hK.1 ?_
    refine o_icmpN_ge (tgt := 42) dX8_which_12 (by decide) (by omega) (by omega) (fun b_51 => absurd b_51 (by omega)) (fun b_51 => ?_)
    refine o_aload_n dX8_which_15 rfl rfl ?_
    refine o_getR (b := 83) dX8_which_16 fgX8_50 sh_0 rfl rfl ?_
    refine o_aload_n dX8_which_19 rfl rfl ?_
    refine o_iload_n dX8_which_20 rfl rfl ?_
    refine o_callV (as := [.int (nI c)]) (st := [.ref 83]) dX8_which_21 (k_lyl hK hok hV hc) rfl meX8_lyingLevelsOf imX8_lyingLevelsOf seX8_lyingLevelsOf mlX8_217 sh_0 rfl rfl (by omega) (by decide) (Nat.le_of_ble_eq_true rfl) ?_
    rintro _ I1 ⟨rfl, hM, hf1, hV1⟩
    have hfC : frC I I1 := hf1.C (by omega)
    have hK1 : CK I1 13 K := hK.frC hn hfC
    have hN1 : CSn I1 N := hN.of (fun b k g1 g2 => hfC b k (by unfold ci; omega))
    have hs1 : LMs I1 K (c + 1) := fun e he => by
        by_cases hx : e = c
        · subst hx; exact hM
        · exact (hLs e (by omega)).of (fun b k g1 g2 => hf1 b k (by omega) (by omega))
    refine o_callV (as := [.ref (88 + 4 * c)]) (st := []) dX8_which_24 (k_fits (isLv_l c hc4) q1 q4 hM hN1 hN6 hNo) rfl meX6_fits imX6_fits seX6_fits mlX8_220 sh_83 rfl rfl (by omega) (by decide) (Nat.le_of_ble_eq_true rfl) ?_
    rintro _ _ ⟨rfl, ⟨hsf, rfl⟩ | ⟨hsf, rfl⟩⟩
    · refine o_ifN_eq (tgt := 36) dX8_which_27 (by decide) (by omega) (fun b_52 => absurd b_52 (by omega)) (fun b_52 => ?_)
      refine o_iload_n dX8_which_30 rfl rfl ?_
      refine o_iconst (v := nI 1) dX8_which_31 (by decide) ?_
      refine o_iload_n dX8_which_32 rfl rfl ?_
      refine o_ishl dX8_which_33 ?_
      rw [show (nI 1) <<< ((nI c) &&& 31) = nI (2 ^ c) from shl_c hc4]
      refine o_ior dX8_which_34 ?_
      rw [show (nI (sf_set K N c)) ||| (nI (2 ^ c)) = nI (sf_set K N c + 2 ^ c) from or_c hc4 (sf_set_lt K N c)]
      refine o_istore_n dX8_which_35 rfl (by decide) ?_
      refine o_iincN (w := 1) dX8_which_36 rfl (by decide) (by decide) ?_
      refine o_goto (tgt := 4) dX8_which_39 (by decide) ?_
      have hg : sf_set K N (c + 1) = sf_set K N c + 2 ^ c := by rw [sf_set, if_pos hsf]
      have h := ih (c + 1) _ (by omega) hK1 hN1 hV1 hs1 (hfr.trans hfC)
      rw [hg] at h
      exact h
    · refine o_ifN_eq (tgt := 36) dX8_which_27 (by decide) (by omega) (fun b_53 => ?_) (fun b_53 => absurd b_53 (by omega))
      refine o_iincN (w := 1) dX8_which_36 rfl (by decide) (by decide) ?_
      refine o_goto (tgt := 4) dX8_which_39 (by decide) ?_
      have hg : sf_set K N (c + 1) = sf_set K N c := by rw [sf_set, if_neg (by rw [hsf]; decide), Nat.add_zero]
      have h := ih (c + 1) _ (by omega) hK1 hN1 hV1 hs1 (hfr.trans hfC)
      rw [hg] at h
      exact h

set_option maxHeartbeats 4000000 in
set_option maxRecDepth 100000 in
theorem k_which {I : sm_I} {K : KT} (hK : CK I 13 K) (hok : okK K) (hV : LV I) {N : NT} (hN : CSn I N) (hN6 : N.1 ≤ 6) (hNo : ∀ j, j < N.1 → N.2.1 j ≤ 99999 ∧ N.2.2 j ≤ 40) : E0 5 mX8_which [.ref 0] I (fun r I' => r = some (.int (nI (sf_set K N K.1))) ∧ frC I I' ∧ LV I' ∧ LMs I' K K.1) := by
  refine E0.of (by decide) (by simp [Value.category]) (Nat.le_of_ble_eq_true rfl) (fun ζ => ?_)
  refine o_iconst (v := nI 0) dX8_which_0 (by decide) ?_
  refine o_istore_n dX8_which_1 rfl (by decide) ?_
  refine o_iconst (v := nI 0) dX8_which_2 (by decide) ?_
  refine o_istore_n dX8_which_3 rfl (by decide) ?_
  exact lp_which (by omega) hok hN6 hNo K.1 0 I (by omega) hK hN hV (fun c hc => absurd hc (Nat.not_lt_zero c)) (frC.refl I)

set_option maxHeartbeats 4000000 in
set_option maxRecDepth 100000 in
theorem n_which {I : sm_I} {S : ST} (hC : CI I S) (hS : okS S) : E0 5 mX8_which [.ref 0] I (fun r I' => r = some (.int (sp_which S)) ∧ frC I I' ∧ LV I') := by
  exact E0.mono (fun r I' h => ⟨h.1, h.2.1, h.2.2.1⟩) (k_which hC.1 hS.1 hC.2.2.2.2.2 hC.2.2.2.2.1 hS.2.2.2.2.1 hS.2.2.2.2.2)

theorem bc_all : ∀ b, b < 16 → ((((((((nI b) - ((((nI b).toUInt32 >>> ((nI 1).toUInt32 &&& Int32.toUInt32 31)).toInt32) &&& (nI 1431655765))) &&& (nI 858993459)) + (((((nI b) - ((((nI b).toUInt32 >>> ((nI 1).toUInt32 &&& Int32.toUInt32 31)).toInt32) &&& (nI 1431655765))).toUInt32 >>> ((nI 2).toUInt32 &&& Int32.toUInt32 31)).toInt32) &&& (nI 858993459))) + ((((((nI b) - ((((nI b).toUInt32 >>> ((nI 1).toUInt32 &&& Int32.toUInt32 31)).toInt32) &&& (nI 1431655765))) &&& (nI 858993459)) + (((((nI b) - ((((nI b).toUInt32 >>> ((nI 1).toUInt32 &&& Int32.toUInt32 31)).toInt32) &&& (nI 1431655765))).toUInt32 >>> ((nI 2).toUInt32 &&& Int32.toUInt32 31)).toInt32) &&& (nI 858993459))).toUInt32 >>> ((nI 4).toUInt32 &&& Int32.toUInt32 31)).toInt32)) &&& (nI 252645135)) + ((((((((nI b) - ((((nI b).toUInt32 >>> ((nI 1).toUInt32 &&& Int32.toUInt32 31)).toInt32) &&& (nI 1431655765))) &&& (nI 858993459)) + (((((nI b) - ((((nI b).toUInt32 >>> ((nI 1).toUInt32 &&& Int32.toUInt32 31)).toInt32) &&& (nI 1431655765))).toUInt32 >>> ((nI 2).toUInt32 &&& Int32.toUInt32 31)).toInt32) &&& (nI 858993459))) + ((((((nI b) - ((((nI b).toUInt32 >>> ((nI 1).toUInt32 &&& Int32.toUInt32 31)).toInt32) &&& (nI 1431655765))) &&& (nI 858993459)) + (((((nI b) - ((((nI b).toUInt32 >>> ((nI 1).toUInt32 &&& Int32.toUInt32 31)).toInt32) &&& (nI 1431655765))).toUInt32 >>> ((nI 2).toUInt32 &&& Int32.toUInt32 31)).toInt32) &&& (nI 858993459))).toUInt32 >>> ((nI 4).toUInt32 &&& Int32.toUInt32 31)).toInt32)) &&& (nI 252645135)).toUInt32 >>> ((nI 8).toUInt32 &&& Int32.toUInt32 31)).toInt32)) + (((((((((nI b) - ((((nI b).toUInt32 >>> ((nI 1).toUInt32 &&& Int32.toUInt32 31)).toInt32) &&& (nI 1431655765))) &&& (nI 858993459)) + (((((nI b) - ((((nI b).toUInt32 >>> ((nI 1).toUInt32 &&& Int32.toUInt32 31)).toInt32) &&& (nI 1431655765))).toUInt32 >>> ((nI 2).toUInt32 &&& Int32.toUInt32 31)).toInt32) &&& (nI 858993459))) + ((((((nI b) - ((((nI b).toUInt32 >>> ((nI 1).toUInt32 &&& Int32.toUInt32 31)).toInt32) &&& (nI 1431655765))) &&& (nI 858993459)) + (((((nI b) - ((((nI b).toUInt32 >>> ((nI 1).toUInt32 &&& Int32.toUInt32 31)).toInt32) &&& (nI 1431655765))).toUInt32 >>> ((nI 2).toUInt32 &&& Int32.toUInt32 31)).toInt32) &&& (nI 858993459))).toUInt32 >>> ((nI 4).toUInt32 &&& Int32.toUInt32 31)).toInt32)) &&& (nI 252645135)) + ((((((((nI b) - ((((nI b).toUInt32 >>> ((nI 1).toUInt32 &&& Int32.toUInt32 31)).toInt32) &&& (nI 1431655765))) &&& (nI 858993459)) + (((((nI b) - ((((nI b).toUInt32 >>> ((nI 1).toUInt32 &&& Int32.toUInt32 31)).toInt32) &&& (nI 1431655765))).toUInt32 >>> ((nI 2).toUInt32 &&& Int32.toUInt32 31)).toInt32) &&& (nI 858993459))) + ((((((nI b) - ((((nI b).toUInt32 >>> ((nI 1).toUInt32 &&& Int32.toUInt32 31)).toInt32) &&& (nI 1431655765))) &&& (nI 858993459)) + (((((nI b) - ((((nI b).toUInt32 >>> ((nI 1).toUInt32 &&& Int32.toUInt32 31)).toInt32) &&& (nI 1431655765))).toUInt32 >>> ((nI 2).toUInt32 &&& Int32.toUInt32 31)).toInt32) &&& (nI 858993459))).toUInt32 >>> ((nI 4).toUInt32 &&& Int32.toUInt32 31)).toInt32)) &&& (nI 252645135)).toUInt32 >>> ((nI 8).toUInt32 &&& Int32.toUInt32 31)).toInt32)).toUInt32 >>> ((nI 16).toUInt32 &&& Int32.toUInt32 31)).toInt32)) &&& (nI 63) = nI (pc4 b) := by decide +kernel

set_option maxHeartbeats 4000000 in
set_option maxRecDepth 100000 in
theorem k_bits (I : sm_I) {b : Nat} (hb : b < 16) : E0 0 mJ6_bitCount_0f7a4 [.int (nI b)] I (fun r I' => I' = I ∧ r = some (.int (nI (pc4 b)))) := by
  refine E0.of (by decide) (by simp [Value.category]) (Nat.le_of_ble_eq_true rfl) (fun ζ => ?_)
  refine o_iload_n dJ6_bitCount_0f7a4_0 rfl rfl ?_
  refine o_iload_n dJ6_bitCount_0f7a4_1 rfl rfl ?_
  refine o_iconst (v := nI 1) dJ6_bitCount_0f7a4_2 (by decide) ?_
  refine o_iushr dJ6_bitCount_0f7a4_3 ?_
  refine o_ldcw (v := nI 1431655765) dJ6_bitCount_0f7a4_4 kcJ6_265 ?_
  refine o_iand dJ6_bitCount_0f7a4_7 ?_
  refine o_isub dJ6_bitCount_0f7a4_8 ?_
  refine o_istore_n dJ6_bitCount_0f7a4_9 rfl (by decide) ?_
  refine o_iload_n dJ6_bitCount_0f7a4_10 rfl rfl ?_
  refine o_ldcw (v := nI 858993459) dJ6_bitCount_0f7a4_11 kcJ6_266 ?_
  refine o_iand dJ6_bitCount_0f7a4_14 ?_
  refine o_iload_n dJ6_bitCount_0f7a4_15 rfl rfl ?_
  refine o_iconst (v := nI 2) dJ6_bitCount_0f7a4_16 (by decide) ?_
  refine o_iushr dJ6_bitCount_0f7a4_17 ?_
  refine o_ldcw (v := nI 858993459) dJ6_bitCount_0f7a4_18 kcJ6_266 ?_
  refine o_iand dJ6_bitCount_0f7a4_21 ?_
  refine o_iadd dJ6_bitCount_0f7a4_22 ?_
  refine o_istore_n dJ6_bitCount_0f7a4_23 rfl (by decide) ?_
  refine o_iload_n dJ6_bitCount_0f7a4_24 rfl rfl ?_
  refine o_iload_n dJ6_bitCount_0f7a4_25 rfl rfl ?_
  refine o_iconst (v := nI 4) dJ6_bitCount_0f7a4_26 (by decide) ?_
  refine o_iushr dJ6_bitCount_0f7a4_27 ?_
  refine o_iadd dJ6_bitCount_0f7a4_28 ?_
  refine o_ldcw (v := nI 252645135) dJ6_bitCount_0f7a4_29 kcJ6_267 ?_
  refine o_iand dJ6_bitCount_0f7a4_32 ?_
  refine o_istore_n dJ6_bitCount_0f7a4_33 rfl (by decide) ?_
  refine o_iload_n dJ6_bitCount_0f7a4_34 rfl rfl ?_
  refine o_iload_n dJ6_bitCount_0f7a4_35 rfl rfl ?_
  refine o_bipush (v := nI 8) dJ6_bitCount_0f7a4_36 (by decide) ?_
  refine o_iushr dJ6_bitCount_0f7a4_38 ?_
  refine o_iadd dJ6_bitCount_0f7a4_39 ?_
  refine o_istore_n dJ6_bitCount_0f7a4_40 rfl (by decide) ?_
  refine o_iload_n dJ6_bitCount_0f7a4_41 rfl rfl ?_
  refine o_iload_n dJ6_bitCount_0f7a4_42 rfl rfl ?_
  refine o_bipush (v := nI 16) dJ6_bitCount_0f7a4_43 (by decide) ?_
  refine o_iushr dJ6_bitCount_0f7a4_45 ?_
  refine o_iadd dJ6_bitCount_0f7a4_46 ?_
  refine o_istore_n dJ6_bitCount_0f7a4_47 rfl (by decide) ?_
  refine o_iload_n dJ6_bitCount_0f7a4_48 rfl rfl ?_
  refine o_bipush (v := nI 63) dJ6_bitCount_0f7a4_49 (by decide) ?_
  refine o_iand dJ6_bitCount_0f7a4_51 ?_
  exact o_iret dJ6_bitCount_0f7a4_52 rfl ⟨rfl, by rw [bc_all b hb]⟩

set_option maxHeartbeats 4000000 in
set_option maxRecDepth 100000 in
theorem lp_start {ζ : sm_Z} {d : Nat} {I0 : sm_I} : ∀ (f c : Nat) (I : sm_I), c + f = 4 → (∀ e, e < c → I 105 e = nI 0) → (∀ x k, x ≠ 105 → I x k = I0 x k) → X0 ζ d mX8_startAsking 2 [some (.ref 0), some (.int (nI c))] [] I (fun r I' => r = none ∧ (∀ e, e < 4 → I' 105 e = nI 0) ∧ ∀ x k, x ≠ 105 → I' x k = I0 x k) := by
  intro f
  induction f with
  | zero =>
    intro c I hc h1 h2
    refine o_iload_n dX8_startAsking_2 rfl rfl ?_
    refine o_iconst (v := nI 4) dX8_startAsking_3 (by decide) ?_
    refine o_icmpN_ge (tgt := 20) dX8_startAsking_4 (by decide) (by omega) (by omega) (fun b_54 => ?_) (fun b_54 => absurd b_54 (by omega))
    exact o_vret dX8_startAsking_20 rfl ⟨rfl, fun e he => h1 e (by omega), h2⟩
  | succ f ih =>
    intro c I hc h1 h2
    refine o_iload_n dX8_startAsking_2 rfl rfl ?_
    refine o_iconst (v := nI 4) dX8_startAsking_3 (by decide) ?_
    refine o_icmpN_ge (tgt := 20) dX8_startAsking_4 (by decide) (by omega) (by omega) (fun b_55 => absurd b_55 (by omega)) (fun b_55 => ?_)
    refine o_aload_n dX8_startAsking_7 rfl rfl ?_
    refine o_getR (b := 105) dX8_startAsking_8 fgX8_73 sh_0 rfl rfl ?_
    refine o_iload_n dX8_startAsking_11 rfl rfl ?_
    refine o_iconst (v := nI 0) dX8_startAsking_12 (by decide) ?_
    refine o_iastN dX8_startAsking_13 sh_105 (by decide) (by omega) ?_
    refine o_iincN (w := 1) dX8_startAsking_14 rfl (by decide) (by decide) ?_
    refine o_goto (tgt := 2) dX8_startAsking_17 (by decide) ?_
    refine ih (c + 1) _ (by omega) (fun e he => ?_) (fun x k z => (up2_x (by omega)).trans (h2 x k z))
    by_cases hx : e = c
    · subst hx
      exact up2_s
    · exact (up2_x (by omega)).trans (h1 e (by omega))

set_option maxHeartbeats 4000000 in
set_option maxRecDepth 100000 in
theorem k_start (I : sm_I) : E0 0 mX8_startAsking [.ref 0] I (fun r I' => r = none ∧ (∀ e, e < 4 → I' 105 e = nI 0) ∧ ∀ x k, x ≠ 105 → I' x k = I x k) := by
  refine E0.of (by decide) (by simp [Value.category]) (Nat.le_of_ble_eq_true rfl) (fun ζ => ?_)
  refine o_iconst (v := nI 0) dX8_startAsking_0 (by decide) ?_
  refine o_istore_n dX8_startAsking_1 rfl (by decide) ?_
  exact lp_start 4 0 I (by omega) (fun e he => absurd he (Nat.not_lt_zero e)) (fun _ _ _ => rfl)

set_option maxHeartbeats 4000000 in
set_option maxRecDepth 100000 in
theorem lp_ma_in {ζ : sm_Z} {d0 : Nat} {I : sm_I} {b : Nat} (hb : b < 16) {A : Nat → Nat} (hA : ∀ e, e < 4 → I 105 e = nI (A e)) (hA2 : ∀ e, A e ≤ 41) {Q : Option Value → sm_I → Prop} {a2 : Option Value} {c : Nat} (hc : c < 4) : ∀ (f d : Nat), d + f = 4 → X0 ζ d0 mX8_mostAlike 60 [some (.ref 0), some (.int (nI b)), a2, some (.int (nI c)), some (.int (nI (ma_in b A c 4))), some (.int (nI 4))] [] I Q → X0 ζ d0 mX8_mostAlike 15 [some (.ref 0), some (.int (nI b)), a2, some (.int (nI c)), some (.int (nI (ma_in b A c d))), some (.int (nI d))] [] I Q := by
  intro f
  induction f with
  | zero =>
    intro d hd hx
    have hdd : d = 4 := by omega
    subst hdd
    refine o_iload dX8_mostAlike_15 rfl ?_
    refine o_iconst (v := nI 4) dX8_mostAlike_17 (by decide) ?_
    refine o_icmpN_ge (tgt := 60) dX8_mostAlike_18 (by decide) (by omega) (by omega) (fun b_56 => ?_) (fun b_56 => absurd b_56 (by omega))
    exact hx
  | succ f ih =>
    intro d hd hx
    have hAc := hA2 c
    have hAd := hA2 d
    refine o_iload dX8_mostAlike_15 rfl ?_
    refine o_iconst (v := nI 4) dX8_mostAlike_17 (by decide) ?_
    refine o_icmpN_ge (tgt := 60) dX8_mostAlike_18 (by decide) (by omega) (by omega) (fun b_57 => absurd b_57 (by omega)) (fun b_57 => ?_)
    by_cases hbit : b / 2 ^ c % 2 = 1 ∧ b / 2 ^ d % 2 = 1
    · refine o_iload_n dX8_mostAlike_21 rfl rfl ?_
      refine o_iload_n dX8_mostAlike_22 rfl rfl ?_
      refine o_ishr dX8_mostAlike_23 ?_
      rw [show (nI b) >>> ((nI c) &&& 31) = nI (b / 2 ^ c) from shr_all b hb c (by omega)]
      refine o_iload_n dX8_mostAlike_24 rfl rfl ?_
      refine o_iload dX8_mostAlike_25 rfl ?_
      refine o_ishr dX8_mostAlike_27 ?_
      rw [show (nI b) >>> ((nI d) &&& 31) = nI (b / 2 ^ d) from shr_all b hb d (by omega)]
      refine o_iand dX8_mostAlike_28 ?_
      refine o_iconst (v := nI 1) dX8_mostAlike_29 (by decide) ?_
      refine o_iand dX8_mostAlike_30 ?_
      rw [show ((nI (b / 2 ^ c)) &&& (nI (b / 2 ^ d))) &&& (nI 1) = nI 1 from (and3 _ (div_16 hb) _ (div_16 hb)).trans (congrArg nI (if_pos hbit))]
      refine o_iconst (v := nI 1) dX8_mostAlike_31 (by decide) ?_
      refine o_icmpN_ne (tgt := 54) dX8_mostAlike_32 (by decide) (by omega) (by omega) (fun b_58 => absurd b_58 (by omega)) (fun b_58 => ?_)
      refine o_aload_n dX8_mostAlike_35 rfl rfl ?_
      refine o_getR (b := 105) dX8_mostAlike_36 fgX8_73 sh_0 rfl rfl ?_
      refine o_iload_n dX8_mostAlike_39 rfl rfl ?_
      refine o_ialdN (v := nI (A c)) dX8_mostAlike_40 sh_105 (by decide) (by omega) (hA c (by omega)) ?_
      refine o_aload_n dX8_mostAlike_41 rfl rfl ?_
      refine o_getR (b := 105) dX8_mostAlike_42 fgX8_73 sh_0 rfl rfl ?_
      refine o_iload dX8_mostAlike_45 rfl ?_
      refine o_ialdN (v := nI (A d)) dX8_mostAlike_47 sh_105 (by decide) (by omega) (hA d (by omega)) ?_
      refine o_icmpN_ne (tgt := 54) dX8_mostAlike_48 (by decide) (by omega) (by omega) (fun b_59 => ?_) (fun b_59 => ?_)
      · refine o_iincN (w := 1) dX8_mostAlike_54 rfl (by decide) (by decide) ?_
        refine o_goto (tgt := 15) dX8_mostAlike_57 (by decide) ?_
        have hg : ma_in b A c (d + 1) = ma_in b A c d := by rw [ma_in]; unfold ma_bit; rw [if_neg (fun q => b_59 q.2), Nat.add_zero]
        have h := ih (d + 1) (by omega) hx
        rw [hg] at h
        exact h
      · refine o_iincN (w := 1) dX8_mostAlike_51 rfl (by decide) (by decide) ?_
        refine o_iincN (w := 1) dX8_mostAlike_54 rfl (by decide) (by decide) ?_
        refine o_goto (tgt := 15) dX8_mostAlike_57 (by decide) ?_
        have hg : ma_in b A c (d + 1) = ma_in b A c d + 1 := by rw [ma_in]; unfold ma_bit; rw [if_pos ⟨hbit, b_59⟩]
        have h := ih (d + 1) (by omega) hx
        rw [hg] at h
        exact h
    · refine o_iload_n dX8_mostAlike_21 rfl rfl ?_
      refine o_iload_n dX8_mostAlike_22 rfl rfl ?_
      refine o_ishr dX8_mostAlike_23 ?_
      rw [show (nI b) >>> ((nI c) &&& 31) = nI (b / 2 ^ c) from shr_all b hb c (by omega)]
      refine o_iload_n dX8_mostAlike_24 rfl rfl ?_
      refine o_iload dX8_mostAlike_25 rfl ?_
      refine o_ishr dX8_mostAlike_27 ?_
      rw [show (nI b) >>> ((nI d) &&& 31) = nI (b / 2 ^ d) from shr_all b hb d (by omega)]
      refine o_iand dX8_mostAlike_28 ?_
      refine o_iconst (v := nI 1) dX8_mostAlike_29 (by decide) ?_
      refine o_iand dX8_mostAlike_30 ?_
      rw [show ((nI (b / 2 ^ c)) &&& (nI (b / 2 ^ d))) &&& (nI 1) = nI 0 from (and3 _ (div_16 hb) _ (div_16 hb)).trans (congrArg nI (if_neg hbit))]
      refine o_iconst (v := nI 1) dX8_mostAlike_31 (by decide) ?_
      refine o_icmpN_ne (tgt := 54) dX8_mostAlike_32 (by decide) (by omega) (by omega) (fun b_60 => ?_) (fun b_60 => absurd b_60 (by omega))
      refine o_iincN (w := 1) dX8_mostAlike_54 rfl (by decide) (by decide) ?_
      refine o_goto (tgt := 15) dX8_mostAlike_57 (by decide) ?_
      have hg : ma_in b A c (d + 1) = ma_in b A c d := by rw [ma_in]; unfold ma_bit; rw [if_neg (fun q => hbit q.1), Nat.add_zero]
      have h := ih (d + 1) (by omega) hx
      rw [hg] at h
      exact h

set_option maxHeartbeats 4000000 in
set_option maxRecDepth 100000 in
theorem lp_ma {ζ : sm_Z} {d0 : Nat} (hd0 : 1 ≤ d0) {I : sm_I} {b : Nat} (hb : b < 16) {A : Nat → Nat} (hA : ∀ e, e < 4 → I 105 e = nI (A e)) (hA2 : ∀ e, A e ≤ 41) : ∀ (f c : Nat), c + f = 4 → ∀ a4 a5, X0 ζ d0 mX8_mostAlike 4 [some (.ref 0), some (.int (nI b)), some (.int (nI (ma_out b A c))), some (.int (nI c)), a4, a5] [] I (fun r I' => I' = I ∧ r = some (.int (nI (ma_out b A 4)))) := by
  intro f
  induction f with
  | zero =>
    intro c hc a4 a5
    have hcc : c = 4 := by omega
    subst hcc
    refine o_iload_n dX8_mostAlike_4 rfl rfl ?_
    refine o_iconst (v := nI 4) dX8_mostAlike_5 (by decide) ?_
    refine o_icmpN_ge (tgt := 73) dX8_mostAlike_6 (by decide) (by omega) (by omega) (fun b_61 => ?_) (fun b_61 => absurd b_61 (by omega))
    refine o_iload_n dX8_mostAlike_73 rfl rfl ?_
    exact o_iret dX8_mostAlike_74 rfl ⟨rfl, rfl⟩
  | succ f ih =>
    intro c hc a4 a5
    refine o_iload_n dX8_mostAlike_4 rfl rfl ?_
    refine o_iconst (v := nI 4) dX8_mostAlike_5 (by decide) ?_
    refine o_icmpN_ge (tgt := 73) dX8_mostAlike_6 (by decide) (by omega) (by omega) (fun b_62 => absurd b_62 (by omega)) (fun b_62 => ?_)
    refine o_iconst (v := nI 0) dX8_mostAlike_9 (by decide) ?_
    refine o_istore dX8_mostAlike_10 (by decide) ?_
    refine o_iconst (v := nI 0) dX8_mostAlike_12 (by decide) ?_
    refine o_istore dX8_mostAlike_13 (by decide) ?_
    have hml := ma_in_le b A c 4
    have hmo := ma_out_le b A c
    refine lp_ma_in hb hA hA2 (c := c) (by omega) 4 0 (by omega) ?_
    refine o_iload_n dX8_mostAlike_60 rfl rfl ?_
    refine o_iload dX8_mostAlike_61 rfl ?_
    refine o_maxN dX8_mostAlike_63 mlX8_255 (by omega) (by omega) (by omega) (Nat.le_of_ble_eq_true rfl) ?_
    refine o_istore_n dX8_mostAlike_66 rfl (by decide) ?_
    refine o_iincN (w := 1) dX8_mostAlike_67 rfl (by decide) (by decide) ?_
    refine o_goto (tgt := 4) dX8_mostAlike_70 (by decide) ?_
    exact ih (c + 1) (by omega) _ _

set_option maxHeartbeats 4000000 in
set_option maxRecDepth 100000 in
theorem k_most {I : sm_I} {b : Nat} (hb : b < 16) {A : Nat → Nat} (hA : ∀ e, e < 4 → I 105 e = nI (A e)) (hA2 : ∀ e, A e ≤ 41) : E0 1 mX8_mostAlike [.ref 0, .int (nI b)] I (fun r I' => I' = I ∧ r = some (.int (nI (ma_out b A 4)))) := by
  refine E0.of (by decide) (by simp [Value.category]) (Nat.le_of_ble_eq_true rfl) (fun ζ => ?_)
  refine o_iconst (v := nI 0) dX8_mostAlike_0 (by decide) ?_
  refine o_istore_n dX8_mostAlike_1 rfl (by decide) ?_
  refine o_iconst (v := nI 0) dX8_mostAlike_2 (by decide) ?_
  refine o_istore_n dX8_mostAlike_3 rfl (by decide) ?_
  exact lp_ma (by omega) hb hA hA2 4 0 (by omega) _ _

def ch (K : KT) (n : Nat) : Nat → Nat
  | 0 => 0
  | c + 1 => if ch K n c = 1 ∨ ¬ dv K (n + 1) c = dv K n c then 1 else 0
theorem ch_le (K : KT) (n : Nat) : ∀ c, ch K n c ≤ 1
  | 0 => Nat.zero_le _
  | c + 1 => by rw [ch]; split <;> omega
theorem ch_0 {K : KT} {n : Nat} : ∀ c, ch K n c = 0 → ∀ e, e < c → dv K (n + 1) e = dv K n e
  | 0, _, e, he => absurd he (Nat.not_lt_zero e)
  | c + 1, h, e, he => by
    rw [ch] at h
    by_cases q : ch K n c = 1 ∨ ¬ dv K (n + 1) c = dv K n c
    · rw [if_pos q] at h; omega
    · have h1 := ch_le K n c
      by_cases hx : e = c
      · subst hx; exact Classical.not_not.mp (fun z => q (Or.inr z))
      · exact ch_0 c (by omega) e (by omega)
theorem k_ldn {I : sm_I} {K : KT} (hok : okK K) {c : Nat} (hc : c < K.1) (hM : LM I (88 + 4 * c) 1 (K.2 c 0) (K.2 c 1) (K.2 c 2)) {n : Nat} (hn : n < 2 ^ 30) : E0 1 mX2_leastDipFrom [.ref (88 + 4 * c), .int (nI (dv K n c)), .int (nI (n + 1))] I (fun r I' => I' = I ∧ r = some (.int (nI (dv K (n + 1) c)))) := by
  have hn4 := hok.1
  have hc4 : c < 4 := by omega
  obtain ⟨q0, q1, q2, q3, q4, q5, q6, q7⟩ := id (hok.2 c hc)
  by_cases h : dv K n c = 41
  · rw [h, dv_41 (hok.2 c hc) h]
    exact k_ldf41 (isLv_l c hc4) q1 q4 hM (by omega)
  · obtain ⟨h1, h2⟩ := dv_next h
    rw [← h2]
    exact k_ldf (isLv_l c hc4) q1 q4 hM (by omega) h1

theorem av_end {K : KT} {n : Nat} (e : Nat) : (if e < K.1 then dv K (n + 1) e else AV K n e) = AV K (n + 1) e := by
  unfold AV
  split <;> rfl

set_option maxHeartbeats 4000000 in
set_option maxRecDepth 100000 in
theorem lp_raise {ζ : sm_Z} {d : Nat} (hd : 2 ≤ d) {I0 : sm_I} {K : KT} (hok : okK K) {n : Nat} (hn : n < 2 ^ 30) : ∀ (f c : Nat) (I : sm_I), c + f = K.1 → CK I 13 K → LMs I K K.1 → (∀ e, e < 4 → I 105 e = nI (if e < c then dv K (n + 1) e else AV K n e)) → (∀ x k, x ≠ 105 → I x k = I0 x k) → ∀ a4, X0 ζ d mX8_raiseAskedDips 4 [some (.ref 0), some (.int (nI (n + 1))), some (.int (nI (ch K n c))), some (.int (nI c)), a4] [] I (fun r I' => r = some (.int (nI (ch K n K.1))) ∧ (∀ e, e < 4 → I' 105 e = nI (AV K (n + 1) e)) ∧ ∀ x k, x ≠ 105 → I' x k = I0 x k) := by
  have hn4 := hok.1
  intro f
  induction f with
  | zero =>
    intro c I hc hK hLs hA hf a4
    have hcc : c = K.1 := by omega
    subst hcc
    have hch := ch_le K n K.1
    refine o_iload_n dX8_raiseAskedDips_4 rfl rfl ?_
    refine o_aload_n dX8_raiseAskedDips_5 rfl rfl ?_
    refine o_getR (b := 13) dX8_raiseAskedDips_6 fgX8_28 sh_0 rfl rfl ?_
    refine o_getI (v := nI K.1) dX8_raiseAskedDips_9 fgX8_216 sh_13 rfl hK.1 ?_
    refine o_icmpN_ge (tgt := 68) dX8_raiseAskedDips_12 (by decide) (by omega) (by omega) (fun b_63 => ?_) (fun b_63 => absurd b_63 (by omega))
    refine o_iload_n dX8_raiseAskedDips_68 rfl rfl ?_
    exact o_zret dX8_raiseAskedDips_69 rfl (nI_01 hch) ⟨rfl, fun e he => (hA e he).trans (congrArg nI (av_end e)), hf⟩
  | succ f ih =>
    intro c I hc' hK hLs hA hf a4
    have hc : c < K.1 := by omega
    have hc4 : c < 4 := by omega
    have hAc : I 105 c = nI (dv K n c) := by
      rw [hA c hc4, if_neg (by omega)]
      unfold AV
      rw [if_pos hc]
    have hch := ch_le K n c
    have hd1 := dv_le (n := n) (hok.2 c hc)
    have hd2 := dv_le (n := n + 1) (hok.2 c hc)
    refine o_iload_n dX8_raiseAskedDips_4 rfl rfl ?_
    refine o_aload_n dX8_raiseAskedDips_5 rfl rfl ?_
    refine o_getR (b := 13) dX8_raiseAskedDips_6 fgX8_28 sh_0 rfl rfl ?_
    refine o_getI (v := nI K.1) dX8_raiseAskedDips_9 fgX8_216 sh_13 rfl hK.1 ?_
    refine o_icmpN_ge (tgt := 68) dX8_raiseAskedDips_12 (by decide) (by omega) (by omega) (fun b_64 => absurd b_64 (by omega)) (fun b_64 => ?_)
    refine o_aload_n dX8_raiseAskedDips_15 rfl rfl ?_
    refine o_getR (b := 86) dX8_raiseAskedDips_16 fgX8_56 sh_0 rfl rfl ?_
    refine o_iload_n dX8_raiseAskedDips_19 rfl rfl ?_
    refine o_aaldN (t := 5) (b := 88 + 4 * c) dX8_raiseAskedDips_20 sh_86 (by decide) (by decide) hc4 (g44 88 hc4) ?_
    refine o_aload_n dX8_raiseAskedDips_21 rfl rfl ?_
    refine o_getR (b := 105) dX8_raiseAskedDips_22 fgX8_73 sh_0 rfl rfl ?_
    refine o_iload_n dX8_raiseAskedDips_25 rfl rfl ?_
    refine o_ialdN (v := nI (dv K n c)) dX8_raiseAskedDips_26 sh_105 (by decide) hc4 hAc ?_
    refine o_iload_n dX8_raiseAskedDips_27 rfl rfl ?_
    refine o_callVp (v := .int (nI (dv K (n + 1) c))) (as := [.int (nI (dv K n c)), .int (nI (n + 1))]) (st := []) dX8_raiseAskedDips_28 (k_ldn hok hc (hLs c hc) (by omega)) rfl meX2_leastDipFrom imX2_leastDipFrom seX2_leastDipFrom mlX8_252 (isLv_l c hc4).1 rfl rfl (by omega) (by decide) (Nat.le_of_ble_eq_true rfl) ?_
    refine o_istore dX8_raiseAskedDips_31 (by decide) ?_
    refine o_iload_n dX8_raiseAskedDips_33 rfl rfl ?_
    refine o_ifN_ne (tgt := 48) dX8_raiseAskedDips_34 (by decide) (by omega) (fun b_65 => ?_) (fun b_65 => ?_)
    · refine o_iconst (v := nI 1) dX8_raiseAskedDips_48 (by decide) ?_
      refine o_goto (tgt := 53) dX8_raiseAskedDips_49 (by decide) ?_
      refine o_istore_n dX8_raiseAskedDips_53 rfl (by decide) ?_
      refine o_aload_n dX8_raiseAskedDips_54 rfl rfl ?_
      refine o_getR (b := 105) dX8_raiseAskedDips_55 fgX8_73 sh_0 rfl rfl ?_
      refine o_iload_n dX8_raiseAskedDips_58 rfl rfl ?_
      refine o_iload dX8_raiseAskedDips_59 rfl ?_
      refine o_iastN dX8_raiseAskedDips_61 sh_105 (by decide) hc4 ?_
      refine o_iincN (w := 1) dX8_raiseAskedDips_62 rfl (by decide) (by decide) ?_
      refine o_goto (tgt := 4) dX8_raiseAskedDips_65 (by decide) ?_
      have hg : ch K n (c + 1) = 1 := by rw [ch, if_pos (Or.inl (by omega))]
      have h := ih (c + 1) (up2 I 105 c (nI (dv K (n + 1) c))) (by omega) (hK.fr hn4 (fun b k z1 z2 => up2_x (by omega))) (hLs.fr hn4 (fun b k z1 z2 => up2_x (by omega))) (fun e he => by
        by_cases hx : e = c
        · subst hx; rw [if_pos (by omega)]; exact up2_s
        · rw [up2_x (by omega), hA e he]; congr 1; by_cases hy : e < c
          · rw [if_pos hy, if_pos (by omega)]
          · rw [if_neg hy, if_neg (by omega)]) (fun x k z => (up2_x (by omega)).trans (hf x k z)) (some (.int (nI (dv K (n + 1) c))))
      rw [hg] at h
      exact h
    · refine o_iload dX8_raiseAskedDips_37 rfl ?_
      refine o_aload_n dX8_raiseAskedDips_39 rfl rfl ?_
      refine o_getR (b := 105) dX8_raiseAskedDips_40 fgX8_73 sh_0 rfl rfl ?_
      refine o_iload_n dX8_raiseAskedDips_43 rfl rfl ?_
      refine o_ialdN (v := nI (dv K n c)) dX8_raiseAskedDips_44 sh_105 (by decide) hc4 hAc ?_
      refine o_icmpN_eq (tgt := 52) dX8_raiseAskedDips_45 (by decide) (by omega) (by omega) (fun b_66 => ?_) (fun b_66 => ?_)
      · refine o_iconst (v := nI 0) dX8_raiseAskedDips_52 (by decide) ?_
        refine o_istore_n dX8_raiseAskedDips_53 rfl (by decide) ?_
        refine o_aload_n dX8_raiseAskedDips_54 rfl rfl ?_
        refine o_getR (b := 105) dX8_raiseAskedDips_55 fgX8_73 sh_0 rfl rfl ?_
        refine o_iload_n dX8_raiseAskedDips_58 rfl rfl ?_
        refine o_iload dX8_raiseAskedDips_59 rfl ?_
        refine o_iastN dX8_raiseAskedDips_61 sh_105 (by decide) hc4 ?_
        refine o_iincN (w := 1) dX8_raiseAskedDips_62 rfl (by decide) (by decide) ?_
        refine o_goto (tgt := 4) dX8_raiseAskedDips_65 (by decide) ?_
        have hg : ch K n (c + 1) = 0 := by rw [ch, if_neg (by omega)]
        have h := ih (c + 1) (up2 I 105 c (nI (dv K (n + 1) c))) (by omega) (hK.fr hn4 (fun b k z1 z2 => up2_x (by omega))) (hLs.fr hn4 (fun b k z1 z2 => up2_x (by omega))) (fun e he => by
        by_cases hx : e = c
        · subst hx; rw [if_pos (by omega)]; exact up2_s
        · rw [up2_x (by omega), hA e he]; congr 1; by_cases hy : e < c
          · rw [if_pos hy, if_pos (by omega)]
          · rw [if_neg hy, if_neg (by omega)]) (fun x k z => (up2_x (by omega)).trans (hf x k z)) (some (.int (nI (dv K (n + 1) c))))
        rw [hg] at h
        exact h
      · refine o_iconst (v := nI 1) dX8_raiseAskedDips_48 (by decide) ?_
        refine o_goto (tgt := 53) dX8_raiseAskedDips_49 (by decide) ?_
        refine o_istore_n dX8_raiseAskedDips_53 rfl (by decide) ?_
        refine o_aload_n dX8_raiseAskedDips_54 rfl rfl ?_
        refine o_getR (b := 105) dX8_raiseAskedDips_55 fgX8_73 sh_0 rfl rfl ?_
        refine o_iload_n dX8_raiseAskedDips_58 rfl rfl ?_
        refine o_iload dX8_raiseAskedDips_59 rfl ?_
        refine o_iastN dX8_raiseAskedDips_61 sh_105 (by decide) hc4 ?_
        refine o_iincN (w := 1) dX8_raiseAskedDips_62 rfl (by decide) (by decide) ?_
        refine o_goto (tgt := 4) dX8_raiseAskedDips_65 (by decide) ?_
        have hg : ch K n (c + 1) = 1 := by rw [ch, if_pos (Or.inr b_66)]
        have h := ih (c + 1) (up2 I 105 c (nI (dv K (n + 1) c))) (by omega) (hK.fr hn4 (fun b k z1 z2 => up2_x (by omega))) (hLs.fr hn4 (fun b k z1 z2 => up2_x (by omega))) (fun e he => by
        by_cases hx : e = c
        · subst hx; rw [if_pos (by omega)]; exact up2_s
        · rw [up2_x (by omega), hA e he]; congr 1; by_cases hy : e < c
          · rw [if_pos hy, if_pos (by omega)]
          · rw [if_neg hy, if_neg (by omega)]) (fun x k z => (up2_x (by omega)).trans (hf x k z)) (some (.int (nI (dv K (n + 1) c))))
        rw [hg] at h
        exact h

set_option maxHeartbeats 4000000 in
set_option maxRecDepth 100000 in
theorem k_raise {I : sm_I} {K : KT} (hK : CK I 13 K) (hok : okK K) {n : Nat} (hn : n < 2 ^ 30) (hLs : LMs I K K.1) (hA : ∀ e, e < 4 → I 105 e = nI (AV K n e)) : E0 2 mX8_raiseAskedDips [.ref 0, .int (nI (n + 1))] I (fun r I' => r = some (.int (nI (ch K n K.1))) ∧ (∀ e, e < 4 → I' 105 e = nI (AV K (n + 1) e)) ∧ ∀ x k, x ≠ 105 → I' x k = I x k) := by
  refine E0.of (by decide) (by simp [Value.category]) (Nat.le_of_ble_eq_true rfl) (fun ζ => ?_)
  refine o_iconst (v := nI 0) dX8_raiseAskedDips_0 (by decide) ?_
  refine o_istore_n dX8_raiseAskedDips_1 rfl (by decide) ?_
  refine o_iconst (v := nI 0) dX8_raiseAskedDips_2 (by decide) ?_
  refine o_istore_n dX8_raiseAskedDips_3 rfl (by decide) ?_
  exact lp_raise (by omega) hok hn K.1 0 I (by omega) hK hLs (fun e he => by rw [if_neg (Nat.not_lt_zero e)]; exact hA e he) (fun _ _ _ => rfl) _

theorem k_mostK {I : sm_I} {K : KT} (hok : okK K) {b n : Nat} (hb : b < 2 ^ K.1) (hA : ∀ e, e < 4 → I 105 e = nI (AV K n e)) : E0 1 mX8_mostAlike [.ref 0, .int (nI b)] I (fun r I' => I' = I ∧ r = some (.int (nI (al_out K b n K.1)))) := by
  rw [← ma_al (n := n) (A := AV K n) hok.1 hb (fun e he => by unfold AV; rw [if_pos he])]
  exact k_most (Nat.lt_of_lt_of_le hb (Nat.pow_le_pow_right (by decide) hok.1)) hA (AV_le hok n)

set_option maxHeartbeats 4000000 in
set_option maxRecDepth 100000 in
theorem lp_kask {ζ : sm_Z} {d : Nat} (hd : 3 ≤ d) {I0 : sm_I} {K : KT} (hok : okK K) {b : Nat} (hb : b < 2 ^ K.1) (hpc : 1 < pc4 b) : ∀ (f n x g : Nat) (I : sm_I) (a5 : Option Value), n + f = 999 → ak K b (n + 1) = (some x, g) → CK I 13 K → LMs I K K.1 → (∀ e, e < 4 → I 105 e = nI (AV K n e)) → (∀ x k, x ≠ 105 → I x k = I0 x k) → X0 ζ d mX8_ask 31 [some (.ref 0), some (.int (nI b)), some (.int (nI x)), some (.int (nI g)), some (.int (nI (n + 1))), a5] [] I (fun r I' => r = some (.int (sg_r (ak K b 1000).1)) ∧ ∀ x k, x ≠ 105 → I' x k = I0 x k) := by
  have hn := hok.1
  have h16 : b < 16 := Nat.lt_of_lt_of_le hb (Nat.pow_le_pow_right (by decide) hok.1)
  intro f
  induction f with
  | zero =>
    intro n x g I a5 hnf hak hK hLs hA hfr
    have hgl : g ≤ 5 := by have h := ak_le K b (n + 1); rw [hak] at h; exact h
    refine o_iload dX8_ask_31 rfl ?_
    refine o_sipush (v := nI 999) dX8_ask_33 (by decide) ?_
    refine o_icmpN_gt (tgt := 78) dX8_ask_36 (by decide) (by omega) (by omega) (fun b_67 => ?_) (fun b_67 => absurd b_67 (by omega))
    refine o_iload_n dX8_ask_78 rfl rfl ?_
    exact o_iret dX8_ask_79 rfl ⟨by rw [show (1000 : Nat) = n + 1 by omega, hak]; rfl, hfr⟩
  | succ f ih =>
    intro n x g I a5 hnf hak hK hLs hA hfr
    have hgl : g ≤ 5 := by have h := ak_le K b (n + 1); rw [hak] at h; exact h
    refine o_iload dX8_ask_31 rfl ?_
    refine o_sipush (v := nI 999) dX8_ask_33 (by decide) ?_
    refine o_icmpN_gt (tgt := 78) dX8_ask_36 (by decide) (by omega) (by omega) (fun b_68 => absurd b_68 (by omega)) (fun b_68 => ?_)
    refine o_iload_n dX8_ask_39 rfl rfl ?_
    refine o_iconst (v := nI 1) dX8_ask_40 (by decide) ?_
    refine o_icmpN_le (tgt := 78) dX8_ask_41 (by decide) (by omega) (by omega) (fun b_69 => ?_) (fun b_69 => ?_)
    · refine o_iload_n dX8_ask_78 rfl rfl ?_
      exact o_iret dX8_ask_79 rfl ⟨by have h := ak_stay (n := n + 1) (fun m => al_one hn hb hpc) (by rw [hak]; show g ≤ 1; omega) (999 - n); rw [show n + 1 + (999 - n) = 1000 by omega] at h; rw [h, hak]; rfl, hfr⟩
    · refine o_aload_n dX8_ask_44 rfl rfl ?_
      refine o_iload dX8_ask_45 rfl ?_
      refine o_callV (as := [.int (nI (n + 1))]) (st := []) dX8_ask_47 (k_raise hK hok (by omega) hLs hA) rfl meX8_raiseAskedDips imX8_raiseAskedDips seX8_raiseAskedDips mlX8_238 sh_0 rfl rfl (by omega) (by decide) (Nat.le_of_ble_eq_true rfl) ?_
      rintro _ I1 ⟨rfl, hA1, hf1⟩
      have hK1 : CK I1 13 K := hK.fr hn (fun x k z1 z2 => hf1 x k (by omega))
      have hLs1 : LMs I1 K K.1 := hLs.fr hn (fun x k z1 z2 => hf1 x k (by omega))
      have hfr1 : ∀ x k, x ≠ 105 → I1 x k = I0 x k := fun x k z => (hf1 x k z).trans (hfr x k z)
      have hchl := ch_le K n K.1
      refine o_ifN_eq (tgt := 72) dX8_ask_50 (by decide) (by omega) (fun b_70 => ?_) (fun b_70 => ?_)
      · refine o_iincN (w := 1) dX8_ask_72 rfl (by decide) (by decide) ?_
        refine o_goto (tgt := 31) dX8_ask_75 (by decide) ?_
        have hg : ak K b (n + 2) = (some x, g) := (ak_same (al_congr (ch_0 K.1 (by omega)) K.1 (Nat.le_refl _))).trans hak
        exact ih (n + 1) _ _ I1 _ (by omega) hg hK1 hLs1 hA1 hfr1
      · refine o_aload_n dX8_ask_53 rfl rfl ?_
        refine o_iload_n dX8_ask_54 rfl rfl ?_
        refine o_callVp (v := .int (nI (al_out K b (n + 1) K.1))) (as := [.int (nI b)]) (st := []) dX8_ask_55 (k_mostK hok hb hA1) rfl meX8_mostAlike imX8_mostAlike seX8_mostAlike mlX8_235 sh_0 rfl rfl (by omega) (by decide) (Nat.le_of_ble_eq_true rfl) ?_
        have hmo := al_out_le K b (n + 1) K.1
        refine o_istore dX8_ask_58 (by decide) ?_
        refine o_iload dX8_ask_60 rfl ?_
        refine o_iload_n dX8_ask_62 rfl rfl ?_
        refine o_icmpN_ge (tgt := 72) dX8_ask_63 (by decide) (by omega) (by omega) (fun b_71 => ?_) (fun b_71 => ?_)
        · refine o_iincN (w := 1) dX8_ask_72 rfl (by decide) (by decide) ?_
          refine o_goto (tgt := 31) dX8_ask_75 (by decide) ?_
          have hg : ak K b (n + 2) = (some x, g) := by rw [show n + 2 = (n + 1) + 1 by omega, ak, hak, if_neg (by show ¬ _ < g; omega)]
          exact ih (n + 1) _ _ I1 _ (by omega) hg hK1 hLs1 hA1 hfr1
        · refine o_iload dX8_ask_66 rfl ?_
          refine o_istore_n dX8_ask_68 rfl (by decide) ?_
          refine o_iload dX8_ask_69 rfl ?_
          refine o_istore_n dX8_ask_71 rfl (by decide) ?_
          refine o_iincN (w := 1) dX8_ask_72 rfl (by decide) (by decide) ?_
          refine o_goto (tgt := 31) dX8_ask_75 (by decide) ?_
          have hg : ak K b (n + 2) = (some (n + 1), al_out K b (n + 1) K.1) := by rw [show n + 2 = (n + 1) + 1 by omega, ak, hak, if_pos (by show _ < g; omega)]
          exact ih (n + 1) _ _ I1 _ (by omega) hg hK1 hLs1 hA1 hfr1

set_option maxHeartbeats 4000000 in
set_option maxRecDepth 100000 in
theorem n_ask {I : sm_I} {S : ST} (hC : CI I S) (hS : okS S) : E0 6 mX8_ask [.ref 0] I (fun r I' => r = some (.int (sp_ask S)) ∧ frC I I' ∧ LV I') := by
  have hok := hS.1
  have hn := hok.1
  refine E0.of (by decide) (by simp [Value.category]) (Nat.le_of_ble_eq_true rfl) (fun ζ => ?_)
  refine o_aload_n dX8_ask_0 rfl rfl ?_
  refine o_callV (as := []) (st := []) dX8_ask_1 (k_which hC.1 hS.1 hC.2.2.2.2.2 hC.2.2.2.2.1 hS.2.2.2.2.1 hS.2.2.2.2.2) rfl meX8_which imX8_which seX8_which mlX8_224 sh_0 rfl rfl (by omega) (by decide) (Nat.le_of_ble_eq_true rfl) ?_
  rintro _ I1 ⟨rfl, hf1, hV1, hL1⟩
  have hb := sf_set_lt S.1 S.2.2.2.2 S.1.1
  have h16 := sf_16 (K := S.1) (N := S.2.2.2.2) hn
  have hpl : pc4 (sf_set S.1 S.2.2.2.2 S.1.1) ≤ 4 := by unfold pc4; omega
  generalize hbe : sf_set S.1 S.2.2.2.2 S.1.1 = b at hb h16 hpl
  have hsp : sp_ask S = if pc4 b ≤ 1 then -9 else sg_r (ak S.1 b 1000).1 := by unfold sp_ask; rw [hbe]
  refine o_istore_n dX8_ask_4 rfl (by decide) ?_
  refine o_iload_n dX8_ask_5 rfl rfl ?_
  refine o_callSp (v := .int (nI (pc4 b))) (as := [.int (nI b)]) (st := []) dX8_ask_6 (k_bits _ h16) rfl meJ6_bitCount_0f7a4 ssJ6_bitCount_0f7a4 mlX8_227 (by omega) (by decide) (Nat.le_of_ble_eq_true rfl) ?_
  refine o_iconst (v := nI 1) dX8_ask_9 (by decide) ?_
  refine o_icmpN_gt (tgt := 16) dX8_ask_10 (by decide) (by omega) (by omega) (fun b_72 => ?_) (fun b_72 => ?_)
  · refine o_aload_n dX8_ask_16 rfl rfl ?_
    refine o_callV (as := []) (st := []) dX8_ask_17 (k_start _) rfl meX8_startAsking imX8_startAsking seX8_startAsking mlX8_232 sh_0 rfl rfl (by omega) (by decide) (Nat.le_of_ble_eq_true rfl) ?_
    rintro _ I2 ⟨rfl, hA2, hf2⟩
    have hK2 : CK I2 13 S.1 := (hC.1.frC hn hf1).fr hn (fun x k z1 z2 => hf2 x k (by omega))
    have hLs2 : LMs I2 S.1 S.1.1 := hL1.fr hn (fun x k z1 z2 => hf2 x k (by omega))
    have hA20 : ∀ e, e < 4 → I2 105 e = nI (AV S.1 0 e) := fun e he => by rw [AV_0]; exact hA2 e he
    refine o_iconst (v := nI 0) dX8_ask_20 (by decide) ?_
    refine o_istore_n dX8_ask_21 rfl (by decide) ?_
    refine o_aload_n dX8_ask_22 rfl rfl ?_
    refine o_iload_n dX8_ask_23 rfl rfl ?_
    refine o_callVp (v := .int (nI (al_out S.1 b 0 S.1.1))) (as := [.int (nI b)]) (st := []) dX8_ask_24 (k_mostK hok hb hA20) rfl meX8_mostAlike imX8_mostAlike seX8_mostAlike mlX8_235 sh_0 rfl rfl (by omega) (by decide) (Nat.le_of_ble_eq_true rfl) ?_
    refine o_istore_n dX8_ask_27 rfl (by decide) ?_
    refine o_iconst (v := nI 1) dX8_ask_28 (by decide) ?_
    refine o_istore dX8_ask_29 (by decide) ?_
    refine X0.mono (fun r I' h => ⟨h.1.trans (by rw [hsp, if_neg (by omega)]), (hf1.trans (fun x k z => h.2 x k (by unfold ci at z; omega))), hV1.of (fun x k z1 z2 => h.2 x k (by omega))⟩) (lp_kask (I0 := I1) (by omega) hok hb b_72 999 0 0 (al_out S.1 b 0 S.1.1) I2 _ (by omega) (ak_1 hn) hK2 hLs2 hA20 hf2)
  · refine o_bipush (v := (-9)) dX8_ask_13 (by decide) ?_
    exact o_iret dX8_ask_15 rfl ⟨by rw [hsp, if_pos (by omega)], hf1, hV1⟩
