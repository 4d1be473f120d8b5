theorem nI_01 {n : Nat} (h : n ≤ 1) : nI n = 0 ∨ nI n = 1 := by
  rcases (show n = 0 ∨ n = 1 by omega) with rfl | rfl
  · exact Or.inl rfl
  · exact Or.inr rfl

set_option maxHeartbeats 4000000 in
set_option maxRecDepth 100000 in
theorem k_ccopy {I : sm_I} {a b : Nat} (ha : SH a = (0, 0, [none, none, none, none, none, none])) (hb : SH b = (0, 0, [none, none, none, none, none, none])) (hab : a ≠ b) {v : Nat → Nat} (e : ∀ f, f < 6 → I b f = nI (v f)) (h3 : v 3 ≤ 1) : E0 0 mX0_copyFrom [.ref a, .ref b] I (fun r I' => r = none ∧ (∀ f, f < 6 → I' a f = nI (v f)) ∧ ∀ x k, x ≠ a → I' x k = I x k) := by
  refine E0.of (by decide) (by simp [Value.category]) (Nat.le_of_ble_eq_true rfl) (fun ζ => ?_)
  refine o_aload_n dX0_copyFrom_0 rfl rfl ?_
  refine o_aload_n dX0_copyFrom_1 rfl rfl ?_
  refine o_getI (v := nI (v 0)) dX0_copyFrom_2 fgX0_7 hb rfl (e 0 (by decide)) ?_
  refine o_putI dX0_copyFrom_5 flX0_7 ha rfl ?_
  refine o_aload_n dX0_copyFrom_8 rfl rfl ?_
  refine o_aload_n dX0_copyFrom_9 rfl rfl ?_
  refine o_getI (v := nI (v 1)) dX0_copyFrom_10 fgX0_13 hb rfl ((up2_x (by omega)).trans (e 1 (by decide))) ?_
  refine o_putI dX0_copyFrom_13 flX0_13 ha rfl ?_
  refine o_aload_n dX0_copyFrom_16 rfl rfl ?_
  refine o_aload_n dX0_copyFrom_17 rfl rfl ?_
  refine o_getI (v := nI (v 2)) dX0_copyFrom_18 fgX0_16 hb rfl ((up2_x (by omega)).trans ((up2_x (by omega)).trans (e 2 (by decide)))) ?_
  refine o_putI dX0_copyFrom_21 flX0_16 ha rfl ?_
  refine o_aload_n dX0_copyFrom_24 rfl rfl ?_
  refine o_aload_n dX0_copyFrom_25 rfl rfl ?_
  refine o_getI (v := nI (v 3)) dX0_copyFrom_26 fgX0_19 hb rfl ((up2_x (by omega)).trans ((up2_x (by omega)).trans ((up2_x (by omega)).trans (e 3 (by decide))))) ?_
  refine o_putZ dX0_copyFrom_29 flX0_19 ha rfl (nI_01 h3) ?_
  refine o_aload_n dX0_copyFrom_32 rfl rfl ?_
  refine o_aload_n dX0_copyFrom_33 rfl rfl ?_
  refine o_getI (v := nI (v 4)) dX0_copyFrom_34 fgX0_23 hb rfl ((up2_x (by omega)).trans ((up2_x (by omega)).trans ((up2_x (by omega)).trans ((up2_x (by omega)).trans (e 4 (by decide)))))) ?_
  refine o_putI dX0_copyFrom_37 flX0_23 ha rfl ?_
  refine o_aload_n dX0_copyFrom_40 rfl rfl ?_
  refine o_aload_n dX0_copyFrom_41 rfl rfl ?_
  refine o_getI (v := nI (v 5)) dX0_copyFrom_42 fgX0_26 hb rfl ((up2_x (by omega)).trans ((up2_x (by omega)).trans ((up2_x (by omega)).trans ((up2_x (by omega)).trans ((up2_x (by omega)).trans (e 5 (by decide))))))) ?_
  refine o_putI dX0_copyFrom_45 flX0_26 ha rfl ?_
  exact o_vret dX0_copyFrom_48 rfl ⟨rfl, fun f hf => (by rcases (show f = 0 ∨ f = 1 ∨ f = 2 ∨ f = 3 ∨ f = 4 ∨ f = 5 by omega) with rfl | rfl | rfl | rfl | rfl | rfl <;> first | exact up2_s | exact ((up2_x (by omega)).trans up2_s) | exact ((up2_x (by omega)).trans ((up2_x (by omega)).trans up2_s)) | exact ((up2_x (by omega)).trans ((up2_x (by omega)).trans ((up2_x (by omega)).trans up2_s))) | exact ((up2_x (by omega)).trans ((up2_x (by omega)).trans ((up2_x (by omega)).trans ((up2_x (by omega)).trans up2_s)))) | exact ((up2_x (by omega)).trans ((up2_x (by omega)).trans ((up2_x (by omega)).trans ((up2_x (by omega)).trans ((up2_x (by omega)).trans up2_s)))))), fun x k z => ((up2_x (by omega)).trans ((up2_x (by omega)).trans ((up2_x (by omega)).trans ((up2_x (by omega)).trans ((up2_x (by omega)).trans ((up2_x (by omega)).trans rfl))))))⟩

set_option maxHeartbeats 4000000 in
set_option maxRecDepth 100000 in
theorem lp_clcopy {ζ : sm_Z} {d : Nat} (hd : 1 ≤ d) {I0 : sm_I} {a b : Nat} (hA : isCl a) (hB : isCl b) (hab : a + 6 ≤ b ∨ b + 6 ≤ a) {K : KT} (hn : K.1 ≤ 4) (h3 : ∀ c, c < K.1 → K.2 c 3 ≤ 1) {Q : Option Value → sm_I → Prop} (hq : ∀ I' : sm_I, CK I' a K → (∀ x k, (x < a ∨ a + 6 ≤ x) → I' x k = I0 x k) → Q none I') : ∀ (f i : Nat) (I : sm_I), i + f = K.1 → CK I b K → I a 1 = nI K.1 → (∀ c f, c < i → f < 6 → I (a + 2 + c) f = nI (K.2 c f)) → (∀ x k, (x < a ∨ a + 6 ≤ x) → I x k = I0 x k) → X0 ζ d mX1_copyFrom 10 [some (.ref a), some (.ref b), some (.int (nI i))] [] I Q := by
  intro f
  induction f with
  | zero =>
    intro i I hi hK h1 h2 h4
    refine o_iload_n dX1_copyFrom_10 rfl rfl ?_
    refine o_aload_n dX1_copyFrom_11 rfl rfl ?_
    refine o_getI (v := nI K.1) dX1_copyFrom_12 fgX1_18 hA.1 rfl h1 ?_
    refine o_icmpN_ge (tgt := 39) dX1_copyFrom_15 (by decide) (by omega) (by omega) (fun b_46 => ?_) (fun b_46 => absurd b_46 (by omega))
    exact o_vret dX1_copyFrom_39 rfl (hq _ ⟨h1, fun c f hc hf => h2 c f (by omega) hf⟩ h4)
  | succ f ih =>
    intro i I hi' hK h1 h2 h4
    have hi : i < K.1 := by omega
    have hi4 : i < 4 := by omega
    refine o_iload_n dX1_copyFrom_10 rfl rfl ?_
    refine o_aload_n dX1_copyFrom_11 rfl rfl ?_
    refine o_getI (v := nI K.1) dX1_copyFrom_12 fgX1_18 hA.1 rfl h1 ?_
    refine o_icmpN_ge (tgt := 39) dX1_copyFrom_15 (by decide) (by omega) (by omega) (fun b_47 => absurd b_47 (by omega)) (fun b_47 => ?_)
    refine o_aload_n dX1_copyFrom_18 rfl rfl ?_
    refine o_getR (b := a + 1) dX1_copyFrom_19 fgX1_11 hA.1 rfl rfl ?_
    refine o_iload_n dX1_copyFrom_22 rfl rfl ?_
    refine o_aaldN (t := 3) (b := a + 2 + i) dX1_copyFrom_23 hA.2.1 (by decide) (by decide) hi4 (g4 (a + 2) hi4) ?_
    refine o_aload_n dX1_copyFrom_24 rfl rfl ?_
    refine o_getR (b := b + 1) dX1_copyFrom_25 fgX1_11 hB.1 rfl rfl ?_
    refine o_iload_n dX1_copyFrom_28 rfl rfl ?_
    refine o_aaldN (t := 3) (b := b + 2 + i) dX1_copyFrom_29 hB.2.1 (by decide) (by decide) hi4 (g4 (b + 2) hi4) ?_
    refine o_callV (as := [.ref (b + 2 + i)]) (st := []) dX1_copyFrom_30 (k_ccopy (hA.2.2 i hi4) (hB.2.2 i hi4) (by omega) (v := K.2 i) (fun f hf => hK.2 i f hi hf) (h3 i hi)) rfl meX0_copyFrom imX0_copyFrom seX0_copyFrom mlX1_26 (hA.2.2 i hi4) rfl rfl (by omega) (by decide) (Nat.le_of_ble_eq_true rfl) ?_
    rintro _ I1 ⟨rfl, g1, g2⟩
    refine o_iincN (w := 1) dX1_copyFrom_33 rfl (by decide) (by decide) ?_
    refine o_goto (tgt := 10) dX1_copyFrom_36 (by decide) ?_
    refine ih (i + 1) I1 (by omega) (hK.fr hn (fun x k z1 z2 => g2 x k (by omega))) ((g2 _ _ (by omega)).trans h1) (fun c f hc hf => ?_) (fun x k z => (g2 x k (by omega)).trans (h4 x k z))
    by_cases hx : c = i
    · subst hx
      exact g1 f hf
    · exact (g2 _ _ (by omega)).trans (h2 c f (by omega) hf)

set_option maxHeartbeats 4000000 in
set_option maxRecDepth 100000 in
theorem k_clcopy {I : sm_I} {a b : Nat} (hA : isCl a) (hB : isCl b) (hab : a + 6 ≤ b ∨ b + 6 ≤ a) {K : KT} (hn : K.1 ≤ 4) (h3 : ∀ c, c < K.1 → K.2 c 3 ≤ 1) (hK : CK I b K) : E0 1 mX1_copyFrom [.ref a, .ref b] I (fun r I' => r = none ∧ CK I' a K ∧ ∀ x k, (x < a ∨ a + 6 ≤ x) → I' x k = I x k) := by
  refine E0.of (by decide) (by simp [Value.category]) (Nat.le_of_ble_eq_true rfl) (fun ζ => ?_)
  refine o_aload_n dX1_copyFrom_0 rfl rfl ?_
  refine o_aload_n dX1_copyFrom_1 rfl rfl ?_
  refine o_getI (v := nI K.1) dX1_copyFrom_2 fgX1_18 hB.1 rfl hK.1 ?_
  refine o_putI dX1_copyFrom_5 flX1_18 hA.1 rfl ?_
  refine o_iconst (v := nI 0) dX1_copyFrom_8 (by decide) ?_
  refine o_istore_n dX1_copyFrom_9 rfl (by decide) ?_
  refine lp_clcopy (by omega) hA hB hab hn h3 (fun I' g1 g2 => ⟨rfl, g1, g2⟩) K.1 0 _ (by omega) (hK.fr hn (fun x k z1 z2 => up2_x (by omega))) up2_s (fun c f hc => absurd hc (Nat.not_lt_zero c)) (fun x k z => up2_x (by omega))

theorem okK.l {K : KT} (h : okK K) : ∀ c, c < K.1 → K.2 c 3 ≤ 1 := fun c hc => (h.2 c hc).2.2.2.2.2.1
def frPa (I I' : sm_I) : Prop := ∀ x k, ¬ (19 ≤ x ∧ x ≤ 68) → I' x k = I x k
theorem CP.push {I I1 I' : sm_I} {P : PT} {K : KT} {la lb : Nat} (h8 : P.1 ≤ 8) (hla : la < 8) (hlb : (la + 1) % 8 = lb) (hp : ∀ k, k < P.1 → CK I (21 + 6 * ((la + 8 - (P.1 - 1 - k)) % 8)) (P.2 k)) (hn : ∀ k, k < P.1 → (P.2 k).1 ≤ 4) (hK : CK I1 (21 + 6 * lb) K) (hKn : K.1 ≤ 4) (hf : ∀ x k, 21 ≤ x → (x < 21 + 6 * lb ∨ 21 + 6 * lb + 6 ≤ x) → I1 x k = I x k) (e1 : I' 19 2 = nI (min (P.1 + 1) 8)) (e2 : I' 19 1 = nI lb) (hx : ∀ x k, x ≠ 19 → I' x k = I1 x k) : CP I' (ppush P K) := by
  by_cases h : P.1 = 8
  · have e : ppush P K = (8, fun k => if k = 7 then K else P.2 (k + 1)) := by unfold ppush; rw [if_pos h]
    rw [e]
    refine ⟨e1.trans (congrArg nI (by omega)), lb, by omega, e2, fun k hk => ?_⟩
    have hk8 : k < 8 := hk
    show CK I' (21 + 6 * ((lb + 8 - (8 - 1 - k)) % 8)) (if k = 7 then K else P.2 (k + 1))
    by_cases h7 : k = 7
    · rw [if_pos h7, show (lb + 8 - (8 - 1 - k)) % 8 = lb by omega]
      exact hK.fr hKn (fun b q g1 g2 => hx b q (by omega))
    · rw [if_neg h7, show (lb + 8 - (8 - 1 - k)) % 8 = (la + 8 - (P.1 - 1 - (k + 1))) % 8 by omega]
      refine (hp (k + 1) (by omega)).fr (hn _ (by omega)) (fun b q g1 g2 => (hx b q (by omega)).trans (hf b q (by omega) ?_))
      have hne : (la + 8 - (P.1 - 1 - (k + 1))) % 8 ≠ lb := by omega
      omega
  · have e : ppush P K = (P.1 + 1, fun k => if k = P.1 then K else P.2 k) := by unfold ppush; rw [if_neg h]
    rw [e]
    refine ⟨e1.trans (congrArg nI (by omega)), lb, by omega, e2, fun k hk => ?_⟩
    have hk8 : k < P.1 + 1 := hk
    show CK I' (21 + 6 * ((lb + 8 - (P.1 + 1 - 1 - k)) % 8)) (if k = P.1 then K else P.2 k)
    by_cases h7 : k = P.1
    · rw [if_pos h7, show (lb + 8 - (P.1 + 1 - 1 - k)) % 8 = lb by omega]
      exact hK.fr hKn (fun b q g1 g2 => hx b q (by omega))
    · rw [if_neg h7, show (lb + 8 - (P.1 + 1 - 1 - k)) % 8 = (la + 8 - (P.1 - 1 - k)) % 8 by omega]
      refine (hp k (by omega)).fr (hn _ (by omega)) (fun b q g1 g2 => (hx b q (by omega)).trans (hf b q (by omega) ?_))
      have hne : (la + 8 - (P.1 - 1 - k)) % 8 ≠ lb := by omega
      omega

set_option maxHeartbeats 4000000 in
set_option maxRecDepth 100000 in
theorem k_remember {I : sm_I} {P : PT} (hP : CP I P) (h8 : P.1 ≤ 8) (hPn : ∀ k, k < P.1 → okK (P.2 k)) {K : KT} (hK : CK I 13 K) (hok : okK K) : E0 2 mX3_remember [.ref 19, .ref 13] I (fun r I' => r = none ∧ CP I' (ppush P K) ∧ frPa I I') := by
  obtain ⟨hP1, la, hl8, hla, hp⟩ := hP
  refine E0.of (by decide) (by simp [Value.category]) (Nat.le_of_ble_eq_true rfl) (fun ζ => ?_)
  refine o_aload_n dX3_remember_0 rfl rfl ?_
  refine o_aload_n dX3_remember_1 rfl rfl ?_
  refine o_getI (v := nI la) dX3_remember_2 fgX3_18 sh_19 rfl hla ?_
  refine o_iconst (v := nI 1) dX3_remember_5 (by decide) ?_
  refine o_iaddN dX3_remember_6 ?_
  refine o_bipush (v := nI 8) dX3_remember_7 (by decide) ?_
  refine o_iremN dX3_remember_9 (by omega) (by omega) (by omega) ?_
  refine o_putI dX3_remember_10 flX3_18 sh_19 rfl ?_
  obtain ⟨lb, hlb⟩ : ∃ lb, (la + 1) % 8 = lb := ⟨_, rfl⟩
  rw [hlb]
  have hlb8 : lb < 8 := by omega
  refine o_aload_n dX3_remember_13 rfl rfl ?_
  refine o_getR (b := 20) dX3_remember_14 fgX3_11 sh_19 rfl rfl ?_
  refine o_aload_n dX3_remember_17 rfl rfl ?_
  refine o_getI (v := nI lb) dX3_remember_18 fgX3_18 sh_19 rfl up2_s ?_
  refine o_aaldN (t := 4) (b := 21 + 6 * lb) dX3_remember_21 sh_20 (by decide) (by decide) hlb8 (g68 21 hlb8) ?_
  refine o_aload_n dX3_remember_22 rfl rfl ?_
  refine o_callV (as := [.ref 13]) (st := []) dX3_remember_23 (k_clcopy (isCl_p lb hlb8) isCl_13 (by omega) hok.1 hok.l (hK.fr hok.1 (fun x k z1 z2 => up2_x (by omega)))) rfl meX1_copyFrom imX1_copyFrom seX1_copyFrom mlX3_22 (isCl_p lb hlb8).1 rfl rfl (by omega) (by decide) (Nat.le_of_ble_eq_true rfl) ?_
  rintro _ I1 ⟨rfl, g1, g2⟩
  refine o_aload_n dX3_remember_26 rfl rfl ?_
  refine o_aload_n dX3_remember_27 rfl rfl ?_
  refine o_getI (v := nI P.1) dX3_remember_28 fgX3_26 sh_19 rfl ((g2 _ _ (by omega)).trans ((up2_x (by omega)).trans hP1)) ?_
  refine o_iconst (v := nI 1) dX3_remember_31 (by decide) ?_
  refine o_iaddN dX3_remember_32 ?_
  refine o_bipush (v := nI 8) dX3_remember_33 (by decide) ?_
  refine o_minN dX3_remember_35 mlX3_29 (by omega) (by omega) (by omega) (Nat.le_of_ble_eq_true rfl) ?_
  refine o_putI dX3_remember_38 flX3_26 sh_19 rfl ?_
  exact o_vret dX3_remember_41 rfl ⟨rfl, CP.push h8 hl8 hlb hp (fun k hk => (hPn k hk).1) g1 hok.1 (fun x k z1 z2 => (g2 x k z2).trans (up2_x (by omega))) up2_s ((up2_x (by omega)).trans ((g2 _ _ (by omega)).trans up2_s)) (fun x k z => up2_x (by omega)), fun x k z => (up2_x (by omega)).trans ((g2 x k (by omega)).trans (up2_x (by omega)))⟩

theorem CP.pop {I I1 I' : sm_I} {P : PT} {la : Nat} (h8 : P.1 ≤ 8) (hla : la < 8) (hp : ∀ k, k < P.1 → CK I (21 + 6 * ((la + 8 - (P.1 - 1 - k)) % 8)) (P.2 k)) (hn : ∀ k, k < P.1 → (P.2 k).1 ≤ 4) (h1 : 1 ≤ P.1) (hf : ∀ x k, (x < 13 ∨ 13 + 6 ≤ x) → I1 x k = I x k) (e1 : I' 19 2 = nI (P.1 - 1)) (e2 : I' 19 1 = nI ((la + 8 - 1) % 8)) (hx : ∀ x k, x ≠ 19 → I' x k = I1 x k) : CP I' (P.1 - 1, P.2) := by
  refine ⟨e1, (la + 8 - 1) % 8, by omega, e2, fun k hk => ?_⟩
  have hk' : k < P.1 - 1 := hk
  show CK I' (21 + 6 * (((la + 8 - 1) % 8 + 8 - (P.1 - 1 - 1 - k)) % 8)) (P.2 k)
  rw [show ((la + 8 - 1) % 8 + 8 - (P.1 - 1 - 1 - k)) % 8 = (la + 8 - (P.1 - 1 - k)) % 8 by omega]
  exact (hp k (by omega)).fr (hn _ (by omega)) (fun b q g1 g2 => (hx b q (by omega)).trans (hf b q (by omega)))

set_option maxHeartbeats 4000000 in
set_option maxRecDepth 100000 in
theorem k_recall {I : sm_I} {P : PT} (hP : CP I P) (h8 : P.1 ≤ 8) (hPn : ∀ k, k < P.1 → okK (P.2 k)) {K : KT} (hK : CK I 13 K) (hok : okK K) : E0 2 mX3_recallInto [.ref 19, .ref 13] I (fun r I' => (P.1 = 0 → r = some (.int (nI 0)) ∧ I' = I) ∧ (¬ P.1 = 0 → r = some (.int (nI 1)) ∧ CK I' 13 (P.2 (P.1 - 1)) ∧ CP I' (P.1 - 1, P.2) ∧ ∀ x k, ¬ (13 ≤ x ∧ x ≤ 18) → x ≠ 19 → I' x k = I x k)) := by
  obtain ⟨hP1, la, hl8, hla, hp⟩ := hP
  refine E0.of (by decide) (by simp [Value.category]) (Nat.le_of_ble_eq_true rfl) (fun ζ => ?_)
  refine o_aload_n dX3_recallInto_0 rfl rfl ?_
  refine o_getI (v := nI P.1) dX3_recallInto_1 fgX3_26 sh_19 rfl hP1 ?_
  refine o_ifN_ne (tgt := 9) dX3_recallInto_4 (by decide) (by omega) (fun b_48 => ?_) (fun b_48 => ?_)
  · refine o_aload_n dX3_recallInto_9 rfl rfl ?_
    refine o_aload_n dX3_recallInto_10 rfl rfl ?_
    refine o_getR (b := 20) dX3_recallInto_11 fgX3_11 sh_19 rfl rfl ?_
    refine o_aload_n dX3_recallInto_14 rfl rfl ?_
    refine o_getI (v := nI la) dX3_recallInto_15 fgX3_18 sh_19 rfl hla ?_
    refine o_aaldN (t := 4) (b := 21 + 6 * la) dX3_recallInto_18 sh_20 (by decide) (by decide) hl8 (g68 21 hl8) ?_
    have hK0 : CK I (21 + 6 * la) (P.2 (P.1 - 1)) := by have h := hp (P.1 - 1) (by omega); rw [show (la + 8 - (P.1 - 1 - (P.1 - 1))) % 8 = la by omega] at h; exact h
    refine o_callV (as := [.ref (21 + 6 * la)]) (st := []) dX3_recallInto_19 (k_clcopy isCl_13 (isCl_p la hl8) (by omega) (hPn (P.1 - 1) (by omega)).1 (hPn (P.1 - 1) (by omega)).l hK0) rfl meX1_copyFrom imX1_copyFrom seX1_copyFrom mlX3_22 sh_13 rfl rfl (by omega) (by decide) (Nat.le_of_ble_eq_true rfl) ?_
    rintro _ I1 ⟨rfl, g1, g2⟩
    refine o_aload_n dX3_recallInto_22 rfl rfl ?_
    refine o_aload_n dX3_recallInto_23 rfl rfl ?_
    refine o_getI (v := nI la) dX3_recallInto_24 fgX3_18 sh_19 rfl ((g2 _ _ (by omega)).trans hla) ?_
    refine o_bipush (v := nI 8) dX3_recallInto_27 (by decide) ?_
    refine o_iaddN dX3_recallInto_29 ?_
    refine o_iconst (v := nI 1) dX3_recallInto_30 (by decide) ?_
    refine o_isubN dX3_recallInto_31 (by omega) ?_
    refine o_bipush (v := nI 8) dX3_recallInto_32 (by decide) ?_
    refine o_iremN dX3_recallInto_34 (by omega) (by omega) (by omega) ?_
    refine o_putI dX3_recallInto_35 flX3_18 sh_19 rfl ?_
    refine o_aload_n dX3_recallInto_38 rfl rfl ?_
    refine o_dup dX3_recallInto_39 rfl ?_
    refine o_getI (v := nI P.1) dX3_recallInto_40 fgX3_26 sh_19 rfl ((up2_x (by omega)).trans ((g2 _ _ (by omega)).trans hP1)) ?_
    refine o_iconst (v := nI 1) dX3_recallInto_43 (by decide) ?_
    refine o_isubN dX3_recallInto_44 (by omega) ?_
    refine o_putI dX3_recallInto_45 flX3_26 sh_19 rfl ?_
    refine o_iconst (v := nI 1) dX3_recallInto_48 (by decide) ?_
    exact o_zret dX3_recallInto_49 rfl (by decide) ⟨fun z => absurd z (by omega), fun z => ⟨rfl, g1.fr (hPn (P.1 - 1) (by omega)).1 (fun x k z1 z2 => (up2_x (by omega)).trans (up2_x (by omega))), CP.pop h8 hl8 hp (fun k hk => (hPn k hk).1) (by omega) g2 up2_s ((up2_x (by omega)).trans up2_s) (fun x k z => (up2_x (by omega)).trans (up2_x (by omega))), fun x k z1 z2 => (up2_x (by omega)).trans ((up2_x (by omega)).trans (g2 x k (by omega)))⟩⟩
  · refine o_iconst (v := nI 0) dX3_recallInto_7 (by decide) ?_
    exact o_zret dX3_recallInto_8 rfl (by decide) ⟨fun z => ⟨rfl, rfl⟩, fun z => absurd z (by omega)⟩

set_option maxHeartbeats 4000000 in
set_option maxRecDepth 100000 in
theorem k_takeIn {I : sm_I} {a : Nat} (ha : SH a = (0, 0, [none, none, none, none, none, none])) {w p n m : Nat} (e4 : I a 4 = nI w) (e5 : I a 5 = nI p) : E0 0 mX0_takeIn [.ref a, .int (nI n), .int (nI m)] I (fun r I' => r = none ∧ I' = up2 (up2 I a 4 (nI (w + n))) a 5 (nI (p + m))) := by
  refine E0.of (by decide) (by simp [Value.category]) (Nat.le_of_ble_eq_true rfl) (fun ζ => ?_)
  refine o_aload_n dX0_takeIn_0 rfl rfl ?_
  refine o_dup dX0_takeIn_1 rfl ?_
  refine o_getI (v := nI w) dX0_takeIn_2 fgX0_23 ha rfl e4 ?_
  refine o_iload_n dX0_takeIn_5 rfl rfl ?_
  refine o_iaddN dX0_takeIn_6 ?_
  refine o_putI dX0_takeIn_7 flX0_23 ha rfl ?_
  refine o_aload_n dX0_takeIn_10 rfl rfl ?_
  refine o_dup dX0_takeIn_11 rfl ?_
  refine o_getI (v := nI p) dX0_takeIn_12 fgX0_26 ha rfl ((up2_x (by omega)).trans e5) ?_
  refine o_iload_n dX0_takeIn_15 rfl rfl ?_
  refine o_iaddN dX0_takeIn_16 ?_
  refine o_putI dX0_takeIn_17 flX0_26 ha rfl ?_
  exact o_vret dX0_takeIn_20 rfl ⟨rfl, rfl⟩

set_option maxHeartbeats 4000000 in
set_option maxRecDepth 100000 in
theorem k_giveOut {I : sm_I} {a : Nat} (ha : SH a = (0, 0, [none, none, none, none, none, none])) {w p n : Nat} (e4 : I a 4 = nI w) (e5 : I a 5 = nI p) (hn1 : 1 ≤ n) (hn : n ≤ w) (hp : p ≤ w) (hw : w ≤ 67200) (hh : p * n < 2 ^ 31) (hq : p * n / w ≤ p) : E0 0 mX0_giveOut [.ref a, .int (nI n)] I (fun r I' => r = some (.int (nI (p * n / w))) ∧ I' = up2 (up2 I a 4 (nI (w - n))) a 5 (nI (p - p * n / w))) := by
  refine E0.of (by decide) (by simp [Value.category]) (Nat.le_of_ble_eq_true rfl) (fun ζ => ?_)
  refine o_aload_n dX0_giveOut_0 rfl rfl ?_
  refine o_getI (v := nI w) dX0_giveOut_1 fgX0_23 ha rfl e4 ?_
  refine o_ifN_ne (tgt := 9) dX0_giveOut_4 (by decide) (by omega) (fun b_49 => ?_) (fun b_49 => absurd b_49 (by omega))
  refine o_aload_n dX0_giveOut_9 rfl rfl ?_
  refine o_getI (v := nI p) dX0_giveOut_10 fgX0_26 ha rfl e5 ?_
  refine o_iload_n dX0_giveOut_13 rfl rfl ?_
  refine o_imulN dX0_giveOut_14 ?_
  refine o_aload_n dX0_giveOut_15 rfl rfl ?_
  refine o_getI (v := nI w) dX0_giveOut_16 fgX0_23 ha rfl e4 ?_
  refine o_idivN dX0_giveOut_19 (by omega) (by omega) (by omega) ?_
  refine o_istore_n dX0_giveOut_20 rfl (by decide) ?_
  refine o_aload_n dX0_giveOut_21 rfl rfl ?_
  refine o_dup dX0_giveOut_22 rfl ?_
  refine o_getI (v := nI w) dX0_giveOut_23 fgX0_23 ha rfl e4 ?_
  refine o_iload_n dX0_giveOut_26 rfl rfl ?_
  refine o_isubN dX0_giveOut_27 (by omega) ?_
  refine o_putI dX0_giveOut_28 flX0_23 ha rfl ?_
  refine o_aload_n dX0_giveOut_31 rfl rfl ?_
  refine o_dup dX0_giveOut_32 rfl ?_
  refine o_getI (v := nI p) dX0_giveOut_33 fgX0_26 ha rfl ((up2_x (by omega)).trans e5) ?_
  refine o_iload_n dX0_giveOut_36 rfl rfl ?_
  refine o_isubN dX0_giveOut_37 (by omega) ?_
  refine o_putI dX0_giveOut_38 flX0_26 ha rfl ?_
  refine o_iload_n dX0_giveOut_41 rfl rfl ?_
  exact o_iret dX0_giveOut_42 rfl ⟨rfl, rfl⟩
