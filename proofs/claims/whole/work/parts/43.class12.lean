set_option maxHeartbeats 4000000 in
set_option maxRecDepth 100000 in
theorem k_readItem {I : sm_I} {T : TX} (hT2 : ∀ j, j < T.1 → T.2 j < 256) {m s : Nat} (h : RQ I T m s) {K : KT} (hK : CK I 7 K) (hn4 : K.1 ≤ 4) : E0 4 mX4_readItem [.ref 6] I (fun r I' => RI I' r T m (ri T s K) ∧ frI I I') := by
  obtain ⟨q, hq, hi, hs⟩ := h.2
  have hm60 := h.1.1
  have htk := tk_le T s
  have hk3 : I 3 q = nI (tk T s) := by rw [← hs]; exact (h.1.2.2.2 q hq).2.1
  refine E0.of (by decide) (by simp [Value.category]) (Nat.le_of_ble_eq_true rfl) (fun ζ => ?_)
  refine o_aload_n dX4_readItem_0 rfl rfl ?_
  refine o_getR (b := 1) dX4_readItem_1 fgX4_9 sh_6 rfl rfl ?_
  refine o_getR (b := 3) dX4_readItem_4 fgX4_37 sh_1 rfl rfl ?_
  refine o_aload_n dX4_readItem_7 rfl rfl ?_
  refine o_getI (v := nI q) dX4_readItem_8 fgX4_34 sh_6 rfl hi ?_
  refine o_ialdN (v := nI (tk T s)) dX4_readItem_11 sh_3 (by decide) (by omega) hk3 ?_
  refine o_istore_n dX4_readItem_12 rfl (by decide) ?_
  refine o_iload_n dX4_readItem_13 rfl rfl ?_
  refine o_iconst (v := nI 1) dX4_readItem_14 (by decide) ?_
  refine o_icmpN_ne (tgt := 34) dX4_readItem_15 (by decide) (by omega) (by omega) (fun b_46 => ?_) (fun b_46 => ?_)
  · refine o_iload_n dX4_readItem_34 rfl rfl ?_
    refine o_iconst (v := nI 2) dX4_readItem_35 (by decide) ?_
    refine o_icmpN_ne (tgt := 50) dX4_readItem_36 (by decide) (by omega) (by omega) (fun b_47 => ?_) (fun b_47 => ?_)
    · refine o_iconst (v := nI 0) dX4_readItem_50 (by decide) ?_
      exact o_zret dX4_readItem_51 rfl (by decide) ⟨Or.inl ⟨s, by unfold ri; rw [if_neg b_46, if_neg b_47], h, rfl⟩, fun _ _ _ _ => rfl⟩
    · refine o_aload_n dX4_readItem_39 rfl rfl ?_
      refine o_callV (as := []) (st := []) dX4_readItem_40 (k_readStands hT2 h hK hn4) rfl meX4_readStands imX4_readStands seX4_readStands mlX4_54 sh_6 rfl rfl (by omega) (by decide) (Nat.le_of_ble_eq_true rfl) ?_
      rintro _ I1 ⟨⟨f, e, hR, rfl⟩ | ⟨s1, K1, e, hR, hK1, rfl⟩, f1⟩
      · refine o_ifN_eq (tgt := 50) dX4_readItem_43 (by decide) (by omega) (fun b_48 => ?_) (fun b_48 => absurd b_48 (by omega))
        refine o_iconst (v := nI 0) dX4_readItem_50 (by decide) ?_
        exact o_zret dX4_readItem_51 rfl (by decide) ⟨Or.inl ⟨f, by unfold ri; rw [if_neg (by omega), if_pos b_47]; exact e, hR, rfl⟩, f1⟩
      · refine o_ifN_eq (tgt := 50) dX4_readItem_43 (by decide) (by omega) (fun b_49 => absurd b_49 (by omega)) (fun b_49 => ?_)
        refine o_iconst (v := nI 1) dX4_readItem_46 (by decide) ?_
        refine o_goto (tgt := 51) dX4_readItem_47 (by decide) ?_
        exact o_zret dX4_readItem_51 rfl (by decide) ⟨Or.inr ⟨s1, K1, by unfold ri; rw [if_neg (by omega), if_pos b_47]; exact e, hR, hK1, rfl⟩, f1⟩
  · refine o_aload_n dX4_readItem_18 rfl rfl ?_
    refine o_getR (b := 7) dX4_readItem_19 fgX4_18 sh_6 rfl rfl ?_
    refine o_getI (v := nI K.1) dX4_readItem_22 fgX4_48 sh_7 rfl hK.1 ?_
    refine o_iconst (v := nI 4) dX4_readItem_25 (by decide) ?_
    refine o_icmpN_ge (tgt := 34) dX4_readItem_26 (by decide) (by omega) (by omega) (fun b_50 => ?_) (fun b_50 => ?_)
    · refine o_iload_n dX4_readItem_34 rfl rfl ?_
      refine o_iconst (v := nI 2) dX4_readItem_35 (by decide) ?_
      refine o_icmpN_ne (tgt := 50) dX4_readItem_36 (by decide) (by omega) (by omega) (fun b_51 => ?_) (fun b_51 => absurd b_51 (by omega))
      refine o_iconst (v := nI 0) dX4_readItem_50 (by decide) ?_
      exact o_zret dX4_readItem_51 rfl (by decide) ⟨Or.inl ⟨s, by unfold ri; rw [if_pos b_46, rcask, if_pos (by omega)]; rfl, h, rfl⟩, fun _ _ _ _ => rfl⟩
    · refine o_aload_n dX4_readItem_29 rfl rfl ?_
      refine o_callV (as := []) (st := []) dX4_readItem_30 (k_readCask hT2 h hK (by omega)) rfl meX4_readCask imX4_readCask seX4_readCask mlX4_51 sh_6 rfl rfl (by omega) (by decide) (Nat.le_of_ble_eq_true rfl) ?_
      rintro _ I1 ⟨⟨f, e, hR, rfl⟩ | ⟨s1, K1, e, hR, hK1, rfl⟩, f1⟩
      · exact o_zret dX4_readItem_33 rfl (by decide) ⟨Or.inl ⟨f, by unfold ri; rw [if_pos b_46]; exact e, hR, rfl⟩, f1⟩
      · exact o_zret dX4_readItem_33 rfl (by decide) ⟨Or.inr ⟨s1, K1, by unfold ri; rw [if_pos b_46]; exact e, hR, hK1, rfl⟩, f1⟩

theorem rcask_T {T : TX} {s s1 : Nat} {K K1 : KT} (hs : s ≤ T.1) (h : rcask T s K = .inr (s1, K1)) : s1 ≤ T.1 := by
  unfold rcask at h
  split at h
  · cases h
  · split at h
    · cases h
    · split at h
      · cases h
      · split at h
        · cases h
        · cases h
          exact px_le (px_le (px_le (px_le hs)))
theorem rstands_T {T : TX} {s s1 : Nat} {K K1 : KT} (hs : s ≤ T.1) (h : rstands T s K = .inr (s1, K1)) : s1 ≤ T.1 := by
  unfold rstands at h
  split at h
  · cases h
  · cases h
    exact px_le (px_le hs)

theorem pr_ri (T : TX) (f s : Nat) (K : KT) (n : Nat) (h : ¬ tk T s = 0) : pr T (f + 1) s K n = match ri T s K with
  | .inl x => .inl x
  | .inr q => pr T f q.1 q.2 (n + 1) := by
  rw [pr_eq, if_neg h]
  unfold ri
  by_cases h1 : tk T s = 1
  · rw [if_pos h1, if_pos h1]
    cases rcask T s K with
    | inl x => rfl
    | inr q =>
      obtain ⟨a, b⟩ := q
      show (if tk T a = 4 then pr T f (px T a) b (n + 1) else .inl a) = match (if tk T a = 4 then (.inr (px T a, b) : Nat ⊕ (Nat × KT)) else .inl a) with
        | .inl x => .inl x
        | .inr q => pr T f q.1 q.2 (n + 1)
      by_cases h4 : tk T a = 4
      · rw [if_pos h4, if_pos h4]
      · rw [if_neg h4, if_neg h4]
  · rw [if_neg h1, if_neg h1]
    by_cases h2 : tk T s = 2
    · rw [if_pos h2, if_pos h2]
      cases rstands T s K with
      | inl x => rfl
      | inr q =>
        obtain ⟨a, b⟩ := q
        show (if tk T a = 4 then pr T f (px T a) b (n + 1) else .inl a) = match (if tk T a = 4 then (.inr (px T a, b) : Nat ⊕ (Nat × KT)) else .inl a) with
          | .inl x => .inl x
          | .inr q => pr T f q.1 q.2 (n + 1)
        by_cases h4 : tk T a = 4
        · rw [if_pos h4, if_pos h4]
        · rw [if_neg h4, if_neg h4]
    · rw [if_neg h2, if_neg h2]
theorem ri_gt {T : TX} {s s1 : Nat} {K K1 : KT} (hs : s ≤ T.1) (h : ri T s K = .inr (s1, K1)) : s < s1 ∧ s1 ≤ T.1 ∧ (K.1 ≤ 4 → K1.1 ≤ 4) := by
  have key : ∀ q : Nat ⊕ (Nat × KT), (∀ a b, q = .inr (a, b) → (s ≤ a ∨ T.1 < s) ∧ a ≤ T.1 ∧ (K.1 ≤ 4 → b.1 ≤ 4)) → rend T q (fun s K => .inr (s, K)) = .inr (s1, K1) → s < s1 ∧ s1 ≤ T.1 ∧ (K.1 ≤ 4 → K1.1 ≤ 4) := by
    intro q hq he
    cases q with
    | inl x => cases he
    | inr q =>
      obtain ⟨a, b⟩ := q
      obtain ⟨h1, h2, h3⟩ := hq a b rfl
      have he' : (if tk T a = 4 then (.inr (px T a, b) : Nat ⊕ (Nat × KT)) else .inl a) = .inr (s1, K1) := he
      by_cases h4 : tk T a = 4
      · rw [if_pos h4] at he'
        cases he'
        have hlt : a < T.1 := Classical.byContradiction (fun z => by rw [tk_0.mpr z] at h4; cases h4)
        have := px_gt hlt
        exact ⟨by omega, px_le h2, h3⟩
      · rw [if_neg h4] at he'; cases he'
  unfold ri at h
  split at h
  · exact key _ (fun a b e => ⟨rcask_gt e, rcask_T hs e, fun z => rcask_le z e⟩) h
  · split at h
    · exact key _ (fun a b e => ⟨rstands_gt e, rstands_T hs e, fun z => rstands_le z e⟩) h
    · cases h

def RA (I : sm_I) (r : Option Value) (T : TX) (m : Nat) (q : Nat ⊕ (Nat × KT)) : Prop := (∃ f, q = .inl f ∧ RQ I T m f ∧ r = some (.int (nI 0))) ∨ (∃ n K, q = .inr (n, K) ∧ CK I 7 K ∧ I 6 1 = nI n ∧ r = some (.int (nI 1)))

set_option maxHeartbeats 4000000 in
set_option maxRecDepth 100000 in
theorem lp_readAll {ζ : sm_Z} {d : Nat} (hd : 5 ≤ d) {I0 : sm_I} {T : TX} (h60 : T.1 ≤ 60) (hT2 : ∀ j, j < T.1 → T.2 j < 256) {m : Nat} {Q : Option Value → sm_I → Prop} : ∀ (f s : Nat) (K : KT) (n : Nat) (I : sm_I), T.1 < s + f → s ≤ T.1 → n ≤ s → RQ I T m s → CK I 7 K → K.1 ≤ 4 → I 6 1 = nI n → frT I0 I → (∀ r I', RA I' r T m (pr T f s K n) → frT I0 I' → Q r I') → X0 ζ d mX4_readAll 24 [some (.ref 6)] [] I Q := by
  intro f
  induction f with
  | zero => intro s K n I h1 h2; exact absurd h1 (by omega)
  | succ f ih =>
    intro s K n I hsf hs hns h hK hn4 h61 hf hx
    obtain ⟨q, hq, hi, hsq⟩ := h.2
    have hm60 := h.1.1
    have htk := tk_le T s
    have hk3 : I 3 q = nI (tk T s) := by rw [← hsq]; exact (h.1.2.2.2 q hq).2.1
    refine o_aload_n dX4_readAll_24 rfl rfl ?_
    refine o_getR (b := 1) dX4_readAll_25 fgX4_9 sh_6 rfl rfl ?_
    refine o_getR (b := 3) dX4_readAll_28 fgX4_37 sh_1 rfl rfl ?_
    refine o_aload_n dX4_readAll_31 rfl rfl ?_
    refine o_getI (v := nI q) dX4_readAll_32 fgX4_34 sh_6 rfl hi ?_
    refine o_ialdN (v := nI (tk T s)) dX4_readAll_35 sh_3 (by decide) (by omega) hk3 ?_
    refine o_ifN_eq (tgt := 70) dX4_readAll_36 (by decide) (by omega) (fun b36 => ?_) (fun b36 => ?_)
    · refine o_iconst (v := nI 1) dX4_readAll_70 (by decide) ?_
      exact o_zret dX4_readAll_71 rfl (by decide) (hx _ _ (Or.inr ⟨n, K, by rw [pr_eq, if_pos b36], hK, h61, rfl⟩) hf)
    · have hb : ¬ tk T s = 0 := Nat.ne_of_gt b36
      have hlt : s < T.1 := Classical.byContradiction (fun z => hb (tk_0.mpr z))
      refine o_aload_n dX4_readAll_39 rfl rfl ?_
      refine o_getI (v := nI n) dX4_readAll_40 fgX4_30 sh_6 rfl h61 ?_
      refine o_bipush (v := nI 60) dX4_readAll_43 (by decide) ?_
      refine o_icmpN_ge (tgt := 70) dX4_readAll_45 (by decide) (by omega) (by omega) (fun b_53 => absurd b_53 (by omega)) (fun b_53 => ?_)
      refine o_aload_n dX4_readAll_48 rfl rfl ?_
      refine o_callV (as := []) (st := []) dX4_readAll_49 (k_readItem hT2 h hK hn4) rfl meX4_readItem imX4_readItem seX4_readItem mlX4_41 sh_6 rfl rfl (by omega) (by decide) (Nat.le_of_ble_eq_true rfl) ?_
      rintro _ I1 ⟨⟨f', e, hR, rfl⟩ | ⟨s1, K1, e, hR, hK1, rfl⟩, f1⟩
      · refine o_ifN_ne (tgt := 57) dX4_readAll_52 (by decide) (by omega) (fun b_54 => absurd b_54 (by omega)) (fun b_54 => ?_)
        refine o_iconst (v := nI 0) dX4_readAll_55 (by decide) ?_
        exact o_zret dX4_readAll_56 rfl (by decide) (hx _ _ (Or.inl ⟨f', by rw [pr_ri T f s K n hb, e], hR, rfl⟩) (fun x k z => (f1 x k (by omega) (by omega)).trans (hf x k z)))
      · refine o_ifN_ne (tgt := 57) dX4_readAll_52 (by decide) (by omega) (fun b_55 => ?_) (fun b_55 => absurd b_55 (by omega))
        refine o_aload_n dX4_readAll_57 rfl rfl ?_
        refine o_dup dX4_readAll_58 rfl ?_
        refine o_getI (v := nI n) dX4_readAll_59 fgX4_30 sh_6 rfl ((f1 _ _ (by omega) (by omega)).trans h61) ?_
        refine o_iconst (v := nI 1) dX4_readAll_62 (by decide) ?_
        refine o_iaddN dX4_readAll_63 ?_
        refine o_putI dX4_readAll_64 flX4_30 sh_6 rfl ?_
        refine o_goto (tgt := 24) dX4_readAll_67 (by decide) ?_
        have hg := ri_gt hs e
        refine ih s1 K1 (n + 1) (up2 I1 6 1 (nI (n + 1))) (by omega) hg.2.1 (by omega) (hR.of (fun x k z1 z2 => up2_x (by omega)) (up2_x (by omega))) (hK1.fr (hg.2.2 hn4) (fun x k z1 z2 => up2_x (by omega))) (hg.2.2 hn4) up2_s (fun x k z => (up2_x (by omega)).trans ((f1 x k (by omega) (by omega)).trans (hf x k z))) (fun r I' a1 a2 => hx r I' ?_ a2)
        rw [pr_ri T f s K n hb, e]
        exact a1

set_option maxHeartbeats 4000000 in
set_option maxRecDepth 100000 in
theorem k_empty (I : sm_I) : E0 0 mX1_empty [.ref 7] I (fun r I' => r = none ∧ I' = up2 I 7 1 (nI 0)) := by
  refine E0.of (by decide) (by simp [Value.category]) (Nat.le_of_ble_eq_true rfl) (fun ζ => ?_)
  refine o_aload_n dX1_empty_0 rfl rfl ?_
  refine o_iconst (v := nI 0) dX1_empty_1 (by decide) ?_
  refine o_putI dX1_empty_2 flX1_18 sh_7 rfl ?_
  exact o_vret dX1_empty_5 rfl ⟨rfl, rfl⟩

set_option maxHeartbeats 4000000 in
set_option maxRecDepth 100000 in
theorem k_readAll {I : sm_I} {T : TX} (hT : CT I T) (h60 : T.1 ≤ 60) (hT2 : ∀ j, j < T.1 → T.2 j < 256) : E0 8 mX4_readAll [.ref 6] I (fun r I' => (∃ m, RA I' r T m (pr T 61 (nx T 0) kzero 0)) ∧ frT I I') := by
  refine E0.of (by decide) (by simp [Value.category]) (Nat.le_of_ble_eq_true rfl) (fun ζ => ?_)
  refine o_aload_n dX4_readAll_0 rfl rfl ?_
  refine o_getR (b := 1) dX4_readAll_1 fgX4_9 sh_6 rfl rfl ?_
  refine o_callV (as := []) (st := []) dX4_readAll_4 (k_split hT h60 hT2) rfl meX7_split imX7_split seX7_split mlX4_22 sh_1 rfl rfl (by omega) (by decide) (Nat.le_of_ble_eq_true rfl) ?_
  rintro _ I1 ⟨rfl, ⟨m, hTK⟩, fs⟩
  refine o_aload_n dX4_readAll_7 rfl rfl ?_
  refine o_getR (b := 7) dX4_readAll_8 fgX4_18 sh_6 rfl rfl ?_
  refine o_callV (as := []) (st := []) dX4_readAll_11 (k_empty _) rfl meX1_empty imX1_empty seX1_empty mlX4_27 sh_7 rfl rfl (by omega) (by decide) (Nat.le_of_ble_eq_true rfl) ?_
  rintro _ _ ⟨rfl, rfl⟩
  refine o_aload_n dX4_readAll_14 rfl rfl ?_
  refine o_iconst (v := nI 0) dX4_readAll_15 (by decide) ?_
  refine o_putI dX4_readAll_16 flX4_30 sh_6 rfl ?_
  refine o_aload_n dX4_readAll_19 rfl rfl ?_
  refine o_iconst (v := nI 0) dX4_readAll_20 (by decide) ?_
  refine o_putI dX4_readAll_21 flX4_34 sh_6 rfl ?_
  refine lp_readAll (I0 := I) (by omega) h60 hT2 (m := m) 61 (nx T 0) kzero 0 (up2 (up2 (up2 I1 7 1 (nI 0)) 6 1 (nI 0)) 6 3 (nI 0)) (by omega) (nx_le (Nat.zero_le _)) (Nat.zero_le _) ⟨hTK.of (fun x k z1 z2 => (up2_x (by omega)).trans ((up2_x (by omega)).trans (up2_x (by omega)))), 0, Nat.zero_le _, up2_s, rfl⟩ ⟨(up2_x (by omega)).trans ((up2_x (by omega)).trans up2_s), fun c f hc => absurd hc (Nat.not_lt_zero c)⟩ Nat.zero_le_4 ((up2_x (by omega)).trans up2_s) (fun x k z => (up2_x (by omega)).trans ((up2_x (by omega)).trans ((up2_x (by omega)).trans (fs x k (by omega))))) (fun r I' a1 a2 => ⟨⟨m, a1⟩, a2⟩)

set_option maxHeartbeats 4000000 in
set_option maxRecDepth 100000 in
theorem k_fault {I : sm_I} {T : TX} {m s : Nat} (h : RQ I T m s) : E0 0 mX4_faultPlace [.ref 6] I (fun r I' => I' = I ∧ r = some (.int (nI s))) := by
  obtain ⟨q, hq, hi, hs⟩ := h.2
  have hm60 := h.1.1
  have hk4 : I 4 q = nI s := by rw [← hs]; exact (h.1.2.2.2 q hq).1
  refine E0.of (by decide) (by simp [Value.category]) (Nat.le_of_ble_eq_true rfl) (fun ζ => ?_)
  refine o_aload_n dX4_faultPlace_0 rfl rfl ?_
  refine o_getR (b := 1) dX4_faultPlace_1 fgX4_9 sh_6 rfl rfl ?_
  refine o_getR (b := 4) dX4_faultPlace_4 fgX4_45 sh_1 rfl rfl ?_
  refine o_aload_n dX4_faultPlace_7 rfl rfl ?_
  refine o_getI (v := nI q) dX4_faultPlace_8 fgX4_34 sh_6 rfl hi ?_
  refine o_ialdN (v := nI s) dX4_faultPlace_11 sh_4 (by decide) (by omega) hk4 ?_
  exact o_iret dX4_faultPlace_12 rfl ⟨rfl, rfl⟩

theorem frT.C {I I' : sm_I} (h : frT I I') : frC I I' := fun x k z => h x k (by unfold ci at z; omega)
theorem CI.tells {I I2 I' : sm_I} {S : ST} {K : KT} (h : CI I S) (hS : okS S) (hP : CP I2 (ppush S.2.2.1 S.1)) (hF : frPa I I2) (hx : ∀ x k, ¬ (13 ≤ x ∧ x ≤ 18) → ¬ (x = 1 ∧ k = 1) → I' x k = I2 x k) (hK : CK I' 13 K) (h1 : I' 1 1 = nI 0) : CI I' (K, (0, S.2.1.2), ppush S.2.2.1 S.1, S.2.2.2) := by
  obtain ⟨g1, g2, g3, g4, g5, g6⟩ := h
  have e : ∀ x k, ¬ (13 ≤ x ∧ x ≤ 68) → ¬ (x = 1 ∧ k = 1) → I' x k = I x k := fun x k z w => (hx x k (by omega) w).trans (hF x k (by omega))
  exact ⟨hK, ⟨h1, fun j hj => absurd hj (Nat.not_lt_zero j)⟩, hP.of (fun k hk => (ppush_ok hS.2.2.1.2 hS.1 hS.2.2.1.1 k hk).1) (fun b k z1 z2 => hx b k (by omega) (by omega)), g4.of hS.2.2.2.1 (fun b k z1 z2 => e b k (by omega) (by omega)), g5.of (fun b k z1 z2 => e b k (by omega) (by omega)), g6.of (fun b k z1 z2 => e b k (by omega) (by omega))⟩

set_option maxHeartbeats 4000000 in
set_option maxRecDepth 100000 in
theorem n_tells {I : sm_I} {S : ST} (hC : CI I S) (hS : okS S) : E0 9 mX8_tells [.ref 0] I (fun r I' => r = some (.int (sp_tells S).1) ∧ CI I' (sp_tells S).2 ∧ hiC I I') := by
  refine E0.of (by decide) (by simp [Value.category]) (Nat.le_of_ble_eq_true rfl) (fun ζ => ?_)
  refine o_aload_n dX8_tells_0 rfl rfl ?_
  refine o_getR (b := 6) dX8_tells_1 fgX8_21 sh_0 rfl rfl ?_
  refine o_callV (as := []) (st := []) dX8_tells_4 (k_readAll hC.2.1 hS.2.1.1 hS.2.1.2) rfl meX4_readAll imX4_readAll seX4_readAll mlX8_85 sh_6 rfl rfl (by omega) (by decide) (Nat.le_of_ble_eq_true rfl) ?_
  rintro _ I1 ⟨⟨m, ⟨f, e1, hR, rfl⟩ | ⟨n, K, e1, hK, h61, rfl⟩⟩, hf⟩
  · refine o_ifN_ne (tgt := 21) dX8_tells_7 (by decide) (by omega) (fun b_56 => absurd b_56 (by omega)) (fun b_56 => ?_)
    refine o_bipush (v := (-10)) dX8_tells_10 (by decide) ?_
    refine o_aload_n dX8_tells_12 rfl rfl ?_
    refine o_getR (b := 6) dX8_tells_13 fgX8_21 sh_0 rfl rfl ?_
    refine o_callVp (v := .int (nI f)) (as := []) (st := [.int (-10)]) dX8_tells_16 (k_fault hR) rfl meX4_faultPlace imX4_faultPlace seX4_faultPlace mlX8_89 sh_6 rfl rfl (by omega) (by decide) (Nat.le_of_ble_eq_true rfl) ?_
    refine o_isub dX8_tells_19 ?_
    exact o_iret dX8_tells_20 rfl (by rw [show sp_tells S = (-10 - nI f, S) by unfold sp_tells; rw [e1]]; exact ⟨rfl, hC.fr hS hf.C (hC.2.2.2.2.2.of (fun x k z1 z2 => hf x k (by omega))), hf.C.hi⟩)
  · have hC1 : CI I1 S := hC.fr hS hf.C (hC.2.2.2.2.2.of (fun x k z1 z2 => hf x k (by omega)))
    have hoT := pr_ok S.2.1 61 (nx S.2.1 0) kzero 0 (n, K) kzero_ok e1
    refine o_ifN_ne (tgt := 21) dX8_tells_7 (by decide) (by omega) (fun b_57 => ?_) (fun b_57 => absurd b_57 (by omega))
    refine o_aload_n dX8_tells_21 rfl rfl ?_
    refine o_getR (b := 19) dX8_tells_22 fgX8_35 sh_0 rfl rfl ?_
    refine o_aload_n dX8_tells_25 rfl rfl ?_
    refine o_getR (b := 13) dX8_tells_26 fgX8_28 sh_0 rfl rfl ?_
    refine o_callV (as := [.ref 13]) (st := []) dX8_tells_29 (k_remember hC1.2.2.1 hS.2.2.1.1 hS.2.2.1.2 hC1.1 hS.1) rfl meX3_remember imX3_remember seX3_remember mlX8_93 sh_19 rfl rfl (by omega) (by decide) (Nat.le_of_ble_eq_true rfl) ?_
    rintro _ I2 ⟨rfl, hP2, hF2⟩
    refine o_aload_n dX8_tells_32 rfl rfl ?_
    refine o_getR (b := 13) dX8_tells_33 fgX8_28 sh_0 rfl rfl ?_
    refine o_aload_n dX8_tells_36 rfl rfl ?_
    refine o_getR (b := 6) dX8_tells_37 fgX8_21 sh_0 rfl rfl ?_
    refine o_getR (b := 7) dX8_tells_40 fgX8_97 sh_6 rfl rfl ?_
    refine o_callV (as := [.ref 7]) (st := []) dX8_tells_43 (k_clcopy isCl_13 isCl_7 (by omega) hoT.1.1 hoT.1.l (hK.fr hoT.1.1 (fun x k z1 z2 => hF2 x k (by omega)))) rfl meX1_copyFrom imX1_copyFrom seX1_copyFrom mlX8_100 sh_13 rfl rfl (by omega) (by decide) (Nat.le_of_ble_eq_true rfl) ?_
    rintro _ I3 ⟨rfl, g1, g2⟩
    refine o_aload_n dX8_tells_46 rfl rfl ?_
    refine o_getR (b := 1) dX8_tells_47 fgX8_12 sh_0 rfl rfl ?_
    refine o_iconst (v := nI 0) dX8_tells_50 (by decide) ?_
    refine o_putI dX8_tells_51 flX8_81 sh_1 rfl ?_
    refine o_aload_n dX8_tells_54 rfl rfl ?_
    refine o_getR (b := 6) dX8_tells_55 fgX8_21 sh_0 rfl rfl ?_
    refine o_getI (v := nI n) dX8_tells_58 fgX8_103 sh_6 rfl ((up2_x (by omega)).trans ((g2 _ _ (by omega)).trans ((hF2 _ _ (by omega)).trans h61))) ?_
    exact o_iret dX8_tells_61 rfl (by rw [show sp_tells S = (nI n, (K, (0, S.2.1.2), ppush S.2.2.1 S.1, S.2.2.2)) by unfold sp_tells; rw [e1]]; exact ⟨rfl, CI.tells hC1 hS hP2 hF2 (fun x k z1 z2 => (up2_x (by omega)).trans (g2 x k (by omega))) (g1.fr hoT.1.1 (fun x k z1 z2 => up2_x (by omega))) up2_s, fun x k z => (up2_x (by omega)).trans ((g2 x k (by omega)).trans ((hF2 x k (by omega)).trans (hf x k (by omega))))⟩)
