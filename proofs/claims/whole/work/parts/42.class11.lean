def RQ (I : sm_I) (T : TX) (m s : Nat) : Prop := TK I T m ∧ ∃ q, q ≤ m ∧ I 6 3 = nI q ∧ sq T q = s
def fr63 (I I' : sm_I) : Prop := ∀ x k, ¬ (x = 6 ∧ k = 3) → I' x k = I x k
theorem fr63.refl (I : sm_I) : fr63 I I := fun _ _ _ => rfl
theorem fr63.trans {I J K : sm_I} (h1 : fr63 I J) (h2 : fr63 J K) : fr63 I K := fun x k z => (h2 x k z).trans (h1 x k z)
theorem TK.of {I I' : sm_I} {T : TX} {m : Nat} (h : TK I T m) (hf : ∀ x k, 3 ≤ x → x ≤ 5 → I' x k = I x k) : TK I' T m := ⟨h.1, h.2.1, h.2.2.1, fun q hq => ⟨(hf _ _ (by omega) (by omega)).trans (h.2.2.2 q hq).1, (hf _ _ (by omega) (by omega)).trans (h.2.2.2 q hq).2.1, fun z => (hf _ _ (by omega) (by omega)).trans ((h.2.2.2 q hq).2.2 z)⟩⟩
theorem RQ.of {I I' : sm_I} {T : TX} {m s : Nat} (h : RQ I T m s) (hf : ∀ x k, 3 ≤ x → x ≤ 5 → I' x k = I x k) (h6 : I' 6 3 = I 6 3) : RQ I' T m s := ⟨h.1.of hf, by obtain ⟨q, h1, h2, h3⟩ := h.2; exact ⟨q, h1, h6.trans h2, h3⟩⟩
theorem tk_end {T : TX} {m q : Nat} {I : sm_I} (h : TK I T m) (hq : q ≤ m) : tk T (sq T q) = 0 ↔ q = m := by
  rw [tk_0]
  constructor
  · intro z
    rcases Nat.lt_or_ge q m with h1 | h1
    · exact absurd (h.2.2.1 q h1) z
    · omega
  · intro e
    rw [e, h.2.1]
    exact Nat.lt_irrefl _

set_option maxHeartbeats 4000000 in
set_option maxRecDepth 100000 in
theorem k_step {I : sm_I} {T : TX} {m s : Nat} (h : RQ I T m s) : E0 0 mX4_step [.ref 6] I (fun r I' => r = none ∧ RQ I' T m (px T s) ∧ fr63 I I') := by
  obtain ⟨hT, q, hq, hi, rfl⟩ := h
  have hm60 := hT.1
  have htk := tk_le T (sq T q)
  refine E0.of (by decide) (by simp [Value.category]) (Nat.le_of_ble_eq_true rfl) (fun ζ => ?_)
  refine o_aload_n dX4_step_0 rfl rfl ?_
  refine o_getR (b := 1) dX4_step_1 fgX4_9 sh_6 rfl rfl ?_
  refine o_getR (b := 3) dX4_step_4 fgX4_37 sh_1 rfl rfl ?_
  refine o_aload_n dX4_step_7 rfl rfl ?_
  refine o_getI (v := nI q) dX4_step_8 fgX4_34 sh_6 rfl hi ?_
  refine o_ialdN (v := nI (tk T (sq T q))) dX4_step_11 sh_3 (by decide) (by omega) ((hT.2.2.2 q hq).2.1) ?_
  refine o_ifN_eq (tgt := 34) dX4_step_12 (by decide) (by omega) (fun b12 => ?_) (fun b12 => ?_)
  · exact o_vret dX4_step_34 rfl ⟨rfl, ⟨hT, q, hq, hi, (by have hm := (tk_end hT hq).mp b12; subst hm; rw [hT.2.1, px_end])⟩, fun _ _ _ => rfl⟩
  · have hqm : q < m := Nat.lt_of_le_of_ne hq (fun z => absurd ((tk_end hT hq).mpr z) (by omega))
    refine o_aload_n dX4_step_15 rfl rfl ?_
    refine o_getI (v := nI q) dX4_step_16 fgX4_34 sh_6 rfl hi ?_
    refine o_bipush (v := nI 60) dX4_step_19 (by decide) ?_
    refine o_icmpN_ge (tgt := 34) dX4_step_21 (by decide) (by omega) (by omega) (fun b_72 => absurd b_72 (by omega)) (fun b_72 => ?_)
    refine o_aload_n dX4_step_24 rfl rfl ?_
    refine o_dup dX4_step_25 rfl ?_
    refine o_getI (v := nI q) dX4_step_26 fgX4_34 sh_6 rfl hi ?_
    refine o_iconst (v := nI 1) dX4_step_29 (by decide) ?_
    refine o_iaddN dX4_step_30 ?_
    refine o_putI dX4_step_31 flX4_34 sh_6 rfl ?_
    exact o_vret dX4_step_34 rfl ⟨rfl, ⟨hT.of (fun x k z1 z2 => up2_x (by omega)), q + 1, hqm, up2_s, rfl⟩, fun x k z => up2_x z⟩

set_option maxHeartbeats 4000000 in
set_option maxRecDepth 100000 in
theorem k_readN {I : sm_I} {T : TX} (hT2 : ∀ j, j < T.1 → T.2 j < 256) {m s : Nat} (h : RQ I T m s) {lo n : Nat} {hi' : Int32} (hh : hi' = nI n - nI 1) (hlo : lo ≤ 999) (hn : n ≤ 999) : E0 1 mX4_readNumber [.ref 6, .int (nI lo), .int hi'] I (fun r I' => (((tk T (px T s) = 3 ∧ lo ≤ tv T (px T s) ∧ tv T (px T s) < n) ∧ r = some (.int (nI 1))) ∨ (¬ (tk T (px T s) = 3 ∧ lo ≤ tv T (px T s) ∧ tv T (px T s) < n) ∧ r = some (.int (nI 0)))) ∧ RQ I' T m (px T s) ∧ fr63 I I') := by
  refine E0.of (by decide) (by simp [Value.category]) (Nat.le_of_ble_eq_true rfl) (fun ζ => ?_)
  refine o_aload_n dX4_readNumber_0 rfl rfl ?_
  refine o_callV (as := []) (st := []) dX4_readNumber_1 (k_step h) rfl meX4_step imX4_step seX4_step mlX4_85 sh_6 rfl rfl (by omega) (by decide) (Nat.le_of_ble_eq_true rfl) ?_
  rintro _ I1 ⟨rfl, ⟨hT, q, hq, hi, hs⟩, f1⟩
  have hm60 := hT.1
  have htk := tk_le T (sq T q)
  have hRQ : RQ I1 T m (px T s) := ⟨hT, q, hq, hi, hs⟩
  rw [← hs] at hRQ ⊢
  by_cases h3 : tk T (sq T q) = 3
  · have hv := tv_le hT2 (sq T q)
    refine o_aload_n dX4_readNumber_4 rfl rfl ?_
    refine o_getR (b := 1) dX4_readNumber_5 fgX4_9 sh_6 rfl rfl ?_
    refine o_getR (b := 5) dX4_readNumber_8 fgX4_61 sh_1 rfl rfl ?_
    refine o_aload_n dX4_readNumber_11 rfl rfl ?_
    refine o_getI (v := nI q) dX4_readNumber_12 fgX4_34 sh_6 rfl hi ?_
    refine o_ialdN (v := nI (tv T (sq T q))) dX4_readNumber_15 sh_5 (by decide) (by omega) ((hT.2.2.2 q hq).2.2 h3) ?_
    refine o_istore_n dX4_readNumber_16 rfl (by decide) ?_
    refine o_aload_n dX4_readNumber_17 rfl rfl ?_
    refine o_getR (b := 1) dX4_readNumber_18 fgX4_9 sh_6 rfl rfl ?_
    refine o_getR (b := 3) dX4_readNumber_21 fgX4_37 sh_1 rfl rfl ?_
    refine o_aload_n dX4_readNumber_24 rfl rfl ?_
    refine o_getI (v := nI q) dX4_readNumber_25 fgX4_34 sh_6 rfl hi ?_
    refine o_ialdN (v := nI (tk T (sq T q))) dX4_readNumber_28 sh_3 (by decide) (by omega) ((hT.2.2.2 q hq).2.1) ?_
    refine o_iconst (v := nI 3) dX4_readNumber_29 (by decide) ?_
    refine o_icmpN_ne (tgt := 47) dX4_readNumber_30 (by decide) (by omega) (by omega) (fun b_73 => absurd b_73 (by omega)) (fun b_73 => ?_)
    refine o_iload_n dX4_readNumber_33 rfl rfl ?_
    refine o_iload_n dX4_readNumber_34 rfl rfl ?_
    refine o_icmpN_lt (tgt := 47) dX4_readNumber_35 (by decide) (by omega) (by omega) (fun b_74 => ?_) (fun b_74 => ?_)
    · refine o_iconst (v := nI 0) dX4_readNumber_47 (by decide) ?_
      exact o_zret dX4_readNumber_48 rfl (by decide) ⟨Or.inr ⟨fun z => absurd z.2.1 (by omega), rfl⟩, hRQ, f1⟩
    · refine o_iload_n dX4_readNumber_38 rfl rfl ?_
      refine o_iload_n dX4_readNumber_39 rfl rfl ?_
      refine o_icmp_gt (tgt := 47) dX4_readNumber_40 (by decide) (fun b_75 => ?_) (fun b_75 => ?_)
      · refine o_iconst (v := nI 0) dX4_readNumber_47 (by decide) ?_
        exact o_zret dX4_readNumber_48 rfl (by decide) ⟨Or.inr ⟨fun z => absurd ((le_pred (by omega) (by omega)).mpr z.2.2) (by rw [← hh]; exact Int32.not_le.mpr b_75), rfl⟩, hRQ, f1⟩
      · refine o_iconst (v := nI 1) dX4_readNumber_43 (by decide) ?_
        refine o_goto (tgt := 48) dX4_readNumber_44 (by decide) ?_
        exact o_zret dX4_readNumber_48 rfl (by decide) ⟨Or.inl ⟨⟨h3, by omega, (le_pred (by omega) (by omega)).mp (by rw [← hh]; exact Int32.not_lt.mp b_75)⟩, rfl⟩, hRQ, f1⟩
  · refine o_aload_n dX4_readNumber_4 rfl rfl ?_
    refine o_getR (b := 1) dX4_readNumber_5 fgX4_9 sh_6 rfl rfl ?_
    refine o_getR (b := 5) dX4_readNumber_8 fgX4_61 sh_1 rfl rfl ?_
    refine o_aload_n dX4_readNumber_11 rfl rfl ?_
    refine o_getI (v := nI q) dX4_readNumber_12 fgX4_34 sh_6 rfl hi ?_
    refine o_ialdN (v := I1 5 q) dX4_readNumber_15 sh_5 (by decide) (by omega) rfl ?_
    refine o_istore_n dX4_readNumber_16 rfl (by decide) ?_
    refine o_aload_n dX4_readNumber_17 rfl rfl ?_
    refine o_getR (b := 1) dX4_readNumber_18 fgX4_9 sh_6 rfl rfl ?_
    refine o_getR (b := 3) dX4_readNumber_21 fgX4_37 sh_1 rfl rfl ?_
    refine o_aload_n dX4_readNumber_24 rfl rfl ?_
    refine o_getI (v := nI q) dX4_readNumber_25 fgX4_34 sh_6 rfl hi ?_
    refine o_ialdN (v := nI (tk T (sq T q))) dX4_readNumber_28 sh_3 (by decide) (by omega) ((hT.2.2.2 q hq).2.1) ?_
    refine o_iconst (v := nI 3) dX4_readNumber_29 (by decide) ?_
    refine o_icmpN_ne (tgt := 47) dX4_readNumber_30 (by decide) (by omega) (by omega) (fun b_76 => ?_) (fun b_76 => absurd b_76 (by omega))
    refine o_iconst (v := nI 0) dX4_readNumber_47 (by decide) ?_
    exact o_zret dX4_readNumber_48 rfl (by decide) ⟨Or.inr ⟨fun z => h3 z.1, rfl⟩, hRQ, f1⟩

set_option maxHeartbeats 4000000 in
set_option maxRecDepth 100000 in
theorem k_readE {I : sm_I} {T : TX} {m s : Nat} (h : RQ I T m s) : E0 1 mX4_readItemEnd [.ref 6] I (fun r I' => ((tk T (px T s) = 4 ∧ r = some (.int (nI 1)) ∧ RQ I' T m (px T (px T s))) ∨ (¬ tk T (px T s) = 4 ∧ r = some (.int (nI 0)) ∧ RQ I' T m (px T s))) ∧ fr63 I I') := by
  refine E0.of (by decide) (by simp [Value.category]) (Nat.le_of_ble_eq_true rfl) (fun ζ => ?_)
  refine o_aload_n dX4_readItemEnd_0 rfl rfl ?_
  refine o_callV (as := []) (st := []) dX4_readItemEnd_1 (k_step h) rfl meX4_step imX4_step seX4_step mlX4_85 sh_6 rfl rfl (by omega) (by decide) (Nat.le_of_ble_eq_true rfl) ?_
  rintro _ I1 ⟨rfl, ⟨hT, q, hq, hi, hs⟩, f1⟩
  have hm60 := hT.1
  have htk := tk_le T (sq T q)
  have hRQ : RQ I1 T m (px T s) := ⟨hT, q, hq, hi, hs⟩
  rw [← hs] at hRQ ⊢
  refine o_aload_n dX4_readItemEnd_4 rfl rfl ?_
  refine o_getR (b := 1) dX4_readItemEnd_5 fgX4_9 sh_6 rfl rfl ?_
  refine o_getR (b := 3) dX4_readItemEnd_8 fgX4_37 sh_1 rfl rfl ?_
  refine o_aload_n dX4_readItemEnd_11 rfl rfl ?_
  refine o_getI (v := nI q) dX4_readItemEnd_12 fgX4_34 sh_6 rfl hi ?_
  refine o_ialdN (v := nI (tk T (sq T q))) dX4_readItemEnd_15 sh_3 (by decide) (by omega) ((hT.2.2.2 q hq).2.1) ?_
  refine o_iconst (v := nI 4) dX4_readItemEnd_16 (by decide) ?_
  refine o_icmpN_eq (tgt := 22) dX4_readItemEnd_17 (by decide) (by omega) (by omega) (fun b_77 => ?_) (fun b_77 => ?_)
  · refine o_aload_n dX4_readItemEnd_22 rfl rfl ?_
    refine o_callV (as := []) (st := []) dX4_readItemEnd_23 (k_step hRQ) rfl meX4_step imX4_step seX4_step mlX4_85 sh_6 rfl rfl (by omega) (by decide) (Nat.le_of_ble_eq_true rfl) ?_
    rintro _ I2 ⟨rfl, h2, f2⟩
    refine o_iconst (v := nI 1) dX4_readItemEnd_26 (by decide) ?_
    exact o_zret dX4_readItemEnd_27 rfl (by decide) ⟨Or.inl ⟨b_77, rfl, h2⟩, f1.trans f2⟩
  · refine o_iconst (v := nI 0) dX4_readItemEnd_20 (by decide) ?_
    exact o_zret dX4_readItemEnd_21 rfl (by decide) ⟨Or.inr ⟨b_77, rfl, hRQ⟩, f1⟩

set_option maxHeartbeats 4000000 in
set_option maxRecDepth 100000 in
theorem k_new {I : sm_I} {a : Nat} (ha : SH a = (0, 0, [none, none, none, none, none, none])) {S H B : Nat} : E0 0 mX0_becomeNew [.ref a, .int (nI S), .int (nI H), .int (nI B)] I (fun r I' => r = none ∧ I' = up2 (up2 (up2 (up2 (up2 (up2 (I) a 0 (nI S)) a 1 (nI H)) a 2 (nI B)) a 3 (nI 1)) a 4 (nI 0)) a 5 (nI 0)) := by
  refine E0.of (by decide) (by simp [Value.category]) (Nat.le_of_ble_eq_true rfl) (fun ζ => ?_)
  refine o_aload_n dX0_becomeNew_0 rfl rfl ?_
  refine o_iload_n dX0_becomeNew_1 rfl rfl ?_
  refine o_putI dX0_becomeNew_2 flX0_7 ha rfl ?_
  refine o_aload_n dX0_becomeNew_5 rfl rfl ?_
  refine o_iload_n dX0_becomeNew_6 rfl rfl ?_
  refine o_putI dX0_becomeNew_7 flX0_13 ha rfl ?_
  refine o_aload_n dX0_becomeNew_10 rfl rfl ?_
  refine o_iload_n dX0_becomeNew_11 rfl rfl ?_
  refine o_putI dX0_becomeNew_12 flX0_16 ha rfl ?_
  refine o_aload_n dX0_becomeNew_15 rfl rfl ?_
  refine o_iconst (v := nI 1) dX0_becomeNew_16 (by decide) ?_
  refine o_putZ dX0_becomeNew_17 flX0_19 ha rfl (by decide) ?_
  refine o_aload_n dX0_becomeNew_20 rfl rfl ?_
  refine o_iconst (v := nI 0) dX0_becomeNew_21 (by decide) ?_
  refine o_putI dX0_becomeNew_22 flX0_23 ha rfl ?_
  refine o_aload_n dX0_becomeNew_25 rfl rfl ?_
  refine o_iconst (v := nI 0) dX0_becomeNew_26 (by decide) ?_
  refine o_putI dX0_becomeNew_27 flX0_26 ha rfl ?_
  exact o_vret dX0_becomeNew_30 rfl ⟨rfl, rfl⟩

theorem CK.push {I I' : sm_I} {K : KT} (h : CK I 7 K) (h4 : K.1 < 4) {S H B : Nat} (e1 : I' 7 1 = nI (K.1 + 1)) (e : ∀ f, f < 6 → I' (9 + K.1) f = nI (if f = 0 then S else if f = 1 then H else if f = 2 then B else if f = 3 then 1 else 0)) (hx : ∀ c f, c < K.1 → I' (9 + c) f = I (9 + c) f) : CK I' 7 (kpush K S H B) := by
  refine ⟨e1, fun c f hc hf => ?_⟩
  have hc' : c < K.1 + 1 := hc
  show I' (9 + c) f = nI (if c = K.1 then (if f = 0 then S else if f = 1 then H else if f = 2 then B else if f = 3 then 1 else 0) else K.2 c f)
  by_cases hq : c = K.1
  · subst hq; rw [if_pos rfl]; exact e f hf
  · rw [if_neg hq, hx c f (by omega)]; exact h.2 c f (by omega) hf

theorem sk_7 : ∀ c, c < 4 → SH (9 + c) = (0, 0, [none, none, none, none, none, none]) := by decide +kernel

set_option maxHeartbeats 4000000 in
set_option maxRecDepth 100000 in
theorem k_cadd {I : sm_I} {K : KT} (hK : CK I 7 K) (h4 : K.1 < 4) {S H B : Nat} : E0 1 mX1_add [.ref 7, .int (nI S), .int (nI H), .int (nI B)] I (fun r I' => r = some (.int (nI 1)) ∧ CK I' 7 (kpush K S H B) ∧ ∀ x k, ¬ (7 ≤ x ∧ x ≤ 12) → I' x k = I x k) := by
  refine E0.of (by decide) (by simp [Value.category]) (Nat.le_of_ble_eq_true rfl) (fun ζ => ?_)
  refine o_aload_n dX1_add_0 rfl rfl ?_
  refine o_getI (v := nI K.1) dX1_add_1 fgX1_18 sh_7 rfl hK.1 ?_
  refine o_iconst (v := nI 4) dX1_add_4 (by decide) ?_
  refine o_icmpN_lt (tgt := 10) dX1_add_5 (by decide) (by omega) (by omega) (fun b_78 => ?_) (fun b_78 => absurd b_78 (by omega))
  refine o_aload_n dX1_add_10 rfl rfl ?_
  refine o_getR (b := 8) dX1_add_11 fgX1_11 sh_7 rfl rfl ?_
  refine o_aload_n dX1_add_14 rfl rfl ?_
  refine o_getI (v := nI K.1) dX1_add_15 fgX1_18 sh_7 rfl hK.1 ?_
  refine o_aaldN (t := 3) (b := 9 + K.1) dX1_add_18 sh_8 (by decide) (by decide) h4 (g4 9 h4) ?_
  refine o_iload_n dX1_add_19 rfl rfl ?_
  refine o_iload_n dX1_add_20 rfl rfl ?_
  refine o_iload_n dX1_add_21 rfl rfl ?_
  refine o_callV (as := [.int (nI S), .int (nI H), .int (nI B)]) (st := []) dX1_add_22 (k_new (sk_7 K.1 h4)) rfl meX0_becomeNew imX0_becomeNew seX0_becomeNew mlX1_22 (sk_7 K.1 h4) rfl rfl (by omega) (by decide) (Nat.le_of_ble_eq_true rfl) ?_
  rintro _ _ ⟨rfl, rfl⟩
  refine o_aload_n dX1_add_25 rfl rfl ?_
  refine o_dup dX1_add_26 rfl ?_
  refine o_getI (v := nI K.1) dX1_add_27 fgX1_18 sh_7 rfl ((up2_x (by omega)).trans ((up2_x (by omega)).trans ((up2_x (by omega)).trans ((up2_x (by omega)).trans ((up2_x (by omega)).trans ((up2_x (by omega)).trans hK.1)))))) ?_
  refine o_iconst (v := nI 1) dX1_add_30 (by decide) ?_
  refine o_iaddN dX1_add_31 ?_
  refine o_putI dX1_add_32 flX1_18 sh_7 rfl ?_
  refine o_iconst (v := nI 1) dX1_add_35 (by decide) ?_
  exact o_zret dX1_add_36 rfl (by decide) ⟨rfl, hK.push h4 up2_s (fun f hf => (by rcases (show f = 0 ∨ f = 1 ∨ f = 2 ∨ f = 3 ∨ f = 4 ∨ f = 5 by omega) with rfl | rfl | rfl | rfl | rfl | rfl <;> first | exact ((up2_x (by omega)).trans up2_s) | exact ((up2_x (by omega)).trans ((up2_x (by omega)).trans up2_s)) | exact ((up2_x (by omega)).trans ((up2_x (by omega)).trans ((up2_x (by omega)).trans up2_s))) | exact ((up2_x (by omega)).trans ((up2_x (by omega)).trans ((up2_x (by omega)).trans ((up2_x (by omega)).trans up2_s)))) | exact ((up2_x (by omega)).trans ((up2_x (by omega)).trans ((up2_x (by omega)).trans ((up2_x (by omega)).trans ((up2_x (by omega)).trans up2_s))))) | exact ((up2_x (by omega)).trans ((up2_x (by omega)).trans ((up2_x (by omega)).trans ((up2_x (by omega)).trans ((up2_x (by omega)).trans ((up2_x (by omega)).trans up2_s)))))))) (fun c f hc => ((up2_x (by omega)).trans ((up2_x (by omega)).trans ((up2_x (by omega)).trans ((up2_x (by omega)).trans ((up2_x (by omega)).trans ((up2_x (by omega)).trans ((up2_x (by omega)).trans rfl)))))))), fun x k z => ((up2_x (by omega)).trans ((up2_x (by omega)).trans ((up2_x (by omega)).trans ((up2_x (by omega)).trans ((up2_x (by omega)).trans ((up2_x (by omega)).trans ((up2_x (by omega)).trans rfl)))))))⟩

def ri (T : TX) (s : Nat) (K : KT) : Nat ⊕ (Nat × KT) := if tk T s = 1 then rend T (rcask T s K) (fun s K => .inr (s, K)) else if tk T s = 2 then rend T (rstands T s K) (fun s K => .inr (s, K)) else .inl s
def frI (I I' : sm_I) : Prop := ∀ x k, ¬ (x = 6 ∧ k = 3) → ¬ (7 ≤ x ∧ x ≤ 12) → I' x k = I x k
theorem frI.trans {I J K : sm_I} (h1 : frI I J) (h2 : frI J K) : frI I K := fun x k z w => (h2 x k z w).trans (h1 x k z w)
theorem fr63.I {I I' : sm_I} (h : fr63 I I') : frI I I' := fun x k z _ => h x k z
def RI (I : sm_I) (r : Option Value) (T : TX) (m : Nat) (q : Nat ⊕ (Nat × KT)) : Prop := (∃ f, q = .inl f ∧ RQ I T m f ∧ r = some (.int (nI 0))) ∨ (∃ s K, q = .inr (s, K) ∧ RQ I T m s ∧ CK I 7 K ∧ r = some (.int (nI 1)))
theorem CK.f63 {I I' : sm_I} {K : KT} (h : CK I 7 K) (hn : K.1 ≤ 4) (hf : fr63 I I') : CK I' 7 K := h.fr hn (fun b k z1 z2 => hf b k (by omega))

set_option maxHeartbeats 4000000 in
set_option maxRecDepth 100000 in
theorem k_readCask {I : sm_I} {T : TX} (hT2 : ∀ j, j < T.1 → T.2 j < 256) {m s : Nat} (h : RQ I T m s) {K : KT} (hK : CK I 7 K) (h4 : K.1 < 4) : E0 3 mX4_readCask [.ref 6] I (fun r I' => RI I' r T m (rend T (rcask T s K) (fun s K => .inr (s, K))) ∧ frI I I') := by
  refine E0.of (by decide) (by simp [Value.category]) (Nat.le_of_ble_eq_true rfl) (fun ζ => ?_)
  refine o_aload_n dX4_readCask_0 rfl rfl ?_
  refine o_iconst (v := nI 1) dX4_readCask_1 (by decide) ?_
  refine o_bipush (v := nI 12) dX4_readCask_2 (by decide) ?_
  refine o_callV (as := [.int (nI 1), .int (nI 12)]) (st := []) dX4_readCask_4 (k_readN hT2 h (n := 13) (by decide) (by omega) (by omega)) rfl meX4_readNumber imX4_readNumber seX4_readNumber mlX4_57 sh_6 rfl rfl (by omega) (by decide) (Nat.le_of_ble_eq_true rfl) ?_
  rintro _ I1 ⟨⟨w1, rfl⟩ | ⟨w1, rfl⟩, h1, f1⟩
  · have h1R := h1
    obtain ⟨hTt1, q1, hq1, hi1, hs1⟩ := h1
    have hm1 := hTt1.1
    refine o_ifN_ne (tgt := 12) dX4_readCask_7 (by decide) (by omega) (fun b_79 => ?_) (fun b_79 => absurd b_79 (by omega))
    refine o_aload_n dX4_readCask_12 rfl rfl ?_
    refine o_getR (b := 1) dX4_readCask_13 fgX4_9 sh_6 rfl rfl ?_
    refine o_getR (b := 5) dX4_readCask_16 fgX4_61 sh_1 rfl rfl ?_
    refine o_aload_n dX4_readCask_19 rfl rfl ?_
    refine o_getI (v := nI q1) dX4_readCask_20 fgX4_34 sh_6 rfl hi1 ?_
    refine o_ialdN (v := nI (tv T (px T s))) dX4_readCask_23 sh_5 (by decide) (by omega) (((hTt1.2.2.2 q1 hq1).2.2 (by rw [hs1]; exact w1.1)).trans (by rw [hs1])) ?_
    refine o_istore_n dX4_readCask_24 rfl (by decide) ?_
    refine o_aload_n dX4_readCask_25 rfl rfl ?_
    refine o_iconst (v := nI 1) dX4_readCask_26 (by decide) ?_
    refine o_bipush (v := nI 20) dX4_readCask_27 (by decide) ?_
    refine o_callV (as := [.int (nI 1), .int (nI 20)]) (st := []) dX4_readCask_29 (k_readN hT2 h1R (n := 21) (by decide) (by omega) (by omega)) rfl meX4_readNumber imX4_readNumber seX4_readNumber mlX4_57 sh_6 rfl rfl (by omega) (by decide) (Nat.le_of_ble_eq_true rfl) ?_
    rintro _ I2 ⟨⟨w2, rfl⟩ | ⟨w2, rfl⟩, h2, f2⟩
    · have h2R := h2
      obtain ⟨hTt2, q2, hq2, hi2, hs2⟩ := h2
      have hm2 := hTt2.1
      refine o_ifN_ne (tgt := 37) dX4_readCask_32 (by decide) (by omega) (fun b_80 => ?_) (fun b_80 => absurd b_80 (by omega))
      refine o_aload_n dX4_readCask_37 rfl rfl ?_
      refine o_getR (b := 1) dX4_readCask_38 fgX4_9 sh_6 rfl rfl ?_
      refine o_getR (b := 5) dX4_readCask_41 fgX4_61 sh_1 rfl rfl ?_
      refine o_aload_n dX4_readCask_44 rfl rfl ?_
      refine o_getI (v := nI q2) dX4_readCask_45 fgX4_34 sh_6 rfl hi2 ?_
      refine o_ialdN (v := nI (tv T (px T (px T s)))) dX4_readCask_48 sh_5 (by decide) (by omega) (((hTt2.2.2.2 q2 hq2).2.2 (by rw [hs2]; exact w2.1)).trans (by rw [hs2])) ?_
      refine o_istore_n dX4_readCask_49 rfl (by decide) ?_
      refine o_aload_n dX4_readCask_50 rfl rfl ?_
      refine o_iload_n dX4_readCask_51 rfl rfl ?_
      refine o_bipush (v := nI 20) dX4_readCask_52 (by decide) ?_
      refine o_callV (as := [.int (nI (tv T (px T (px T s)))), .int (nI 20)]) (st := []) dX4_readCask_54 (k_readN hT2 h2R (n := 21) (by decide) (by have := w2.2.2; omega) (by omega)) rfl meX4_readNumber imX4_readNumber seX4_readNumber mlX4_57 sh_6 rfl rfl (by omega) (by decide) (Nat.le_of_ble_eq_true rfl) ?_
      rintro _ I3 ⟨⟨w3, rfl⟩ | ⟨w3, rfl⟩, h3, f3⟩
      · have h3R := h3
        obtain ⟨hTt3, q3, hq3, hi3, hs3⟩ := h3
        have hm3 := hTt3.1
        refine o_ifN_ne (tgt := 62) dX4_readCask_57 (by decide) (by omega) (fun b_81 => ?_) (fun b_81 => absurd b_81 (by omega))
        refine o_aload_n dX4_readCask_62 rfl rfl ?_
        refine o_getR (b := 1) dX4_readCask_63 fgX4_9 sh_6 rfl rfl ?_
        refine o_getR (b := 5) dX4_readCask_66 fgX4_61 sh_1 rfl rfl ?_
        refine o_aload_n dX4_readCask_69 rfl rfl ?_
        refine o_getI (v := nI q3) dX4_readCask_70 fgX4_34 sh_6 rfl hi3 ?_
        refine o_ialdN (v := nI (tv T (px T (px T (px T s))))) dX4_readCask_73 sh_5 (by decide) (by omega) (((hTt3.2.2.2 q3 hq3).2.2 (by rw [hs3]; exact w3.1)).trans (by rw [hs3])) ?_
        refine o_istore_n dX4_readCask_74 rfl (by decide) ?_
        refine o_aload_n dX4_readCask_75 rfl rfl ?_
        refine o_callV (as := []) (st := []) dX4_readCask_76 (k_readE h3R) rfl meX4_readItemEnd imX4_readItemEnd seX4_readItemEnd mlX4_64 sh_6 rfl rfl (by omega) (by decide) (Nat.le_of_ble_eq_true rfl) ?_
        rintro _ I5 ⟨⟨w5, rfl, h5⟩ | ⟨w5, rfl, h5⟩, f5⟩
        · refine o_ifN_eq (tgt := 99) dX4_readCask_79 (by decide) (by omega) (fun b_82 => absurd b_82 (by omega)) (fun b_82 => ?_)
          refine o_aload_n dX4_readCask_82 rfl rfl ?_
          refine o_getR (b := 7) dX4_readCask_83 fgX4_18 sh_6 rfl rfl ?_
          refine o_iload_n dX4_readCask_86 rfl rfl ?_
          refine o_iload_n dX4_readCask_87 rfl rfl ?_
          refine o_iload_n dX4_readCask_88 rfl rfl ?_
          refine o_callV (as := [.int (nI (tv T (px T s))), .int (nI (tv T (px T (px T s)))), .int (nI (tv T (px T (px T (px T s)))))]) (st := []) dX4_readCask_89 (k_cadd (hK.f63 (by omega) (((f1.trans f2).trans f3).trans f5)) h4) rfl meX1_add imX1_add seX1_add mlX4_67 sh_7 rfl rfl (by omega) (by decide) (Nat.le_of_ble_eq_true rfl) ?_
          rintro _ I6 ⟨rfl, g1, g2⟩
          refine o_ifN_eq (tgt := 99) dX4_readCask_92 (by decide) (by omega) (fun b_83 => absurd b_83 (by omega)) (fun b_83 => ?_)
          refine o_iconst (v := nI 1) dX4_readCask_95 (by decide) ?_
          refine o_goto (tgt := 100) dX4_readCask_96 (by decide) ?_
          exact o_zret dX4_readCask_100 rfl (by decide) ⟨Or.inr ⟨_, _, by rw [rcask, if_neg (by omega : ¬ ¬ K.1 < 4), if_neg (fun z => z w1), if_neg (fun z => z w2), if_neg (fun z => z w3)]; show (if tk T (px T (px T (px T (px T s)))) = 4 then _ else _) = _; rw [if_pos w5], h5.of (fun x k z1 z2 => g2 x k (by omega)) (g2 _ _ (by omega)), g1, rfl⟩, (((f1.trans f2).trans f3).trans f5).I.trans (fun x k _ z => g2 x k z)⟩
        · refine o_ifN_eq (tgt := 99) dX4_readCask_79 (by decide) (by omega) (fun b_84 => ?_) (fun b_84 => absurd b_84 (by omega))
          refine o_iconst (v := nI 0) dX4_readCask_99 (by decide) ?_
          exact o_zret dX4_readCask_100 rfl (by decide) ⟨Or.inl ⟨_, by rw [rcask, if_neg (by omega : ¬ ¬ K.1 < 4), if_neg (fun z => z w1), if_neg (fun z => z w2), if_neg (fun z => z w3)]; show (if tk T (px T (px T (px T (px T s)))) = 4 then _ else _) = _; rw [if_neg w5], h5, rfl⟩, (((f1.trans f2).trans f3).trans f5).I⟩
      · refine o_ifN_ne (tgt := 62) dX4_readCask_57 (by decide) (by omega) (fun b_85 => absurd b_85 (by omega)) (fun b_85 => ?_)
        refine o_iconst (v := nI 0) dX4_readCask_60 (by decide) ?_
        exact o_zret dX4_readCask_61 rfl (by decide) ⟨Or.inl ⟨_, by rw [rcask, if_neg (by omega : ¬ ¬ K.1 < 4), if_neg (fun z => z w1), if_neg (fun z => z w2), if_pos w3]; rfl, h3, rfl⟩, ((f1.trans f2).trans f3).I⟩
    · refine o_ifN_ne (tgt := 37) dX4_readCask_32 (by decide) (by omega) (fun b_86 => absurd b_86 (by omega)) (fun b_86 => ?_)
      refine o_iconst (v := nI 0) dX4_readCask_35 (by decide) ?_
      exact o_zret dX4_readCask_36 rfl (by decide) ⟨Or.inl ⟨_, by rw [rcask, if_neg (by omega : ¬ ¬ K.1 < 4), if_neg (fun z => z w1), if_pos w2]; rfl, h2, rfl⟩, (f1.trans f2).I⟩
  · refine o_ifN_ne (tgt := 12) dX4_readCask_7 (by decide) (by omega) (fun b_87 => absurd b_87 (by omega)) (fun b_87 => ?_)
    refine o_iconst (v := nI 0) dX4_readCask_10 (by decide) ?_
    exact o_zret dX4_readCask_11 rfl (by decide) ⟨Or.inl ⟨_, by rw [rcask, if_neg (by omega : ¬ ¬ K.1 < 4), if_pos w1]; rfl, h1, rfl⟩, f1.I⟩

theorem k_hasY {I : sm_I} {a : Nat} (hA : isCl a) {K : KT} (hK : CK I a K) (hn : K.1 ≤ 4) {c : Nat} (hc : c < K.1) : E0 0 mX1_has [.ref a, .int (nI c)] I (fun r I' => I' = I ∧ r = some (.int (nI 1))) := by
  refine E0.mono (fun r I' h => ?_) (k_has hA hK hn (nI c))
  obtain ⟨h0, ⟨j, -, -, h1⟩ | ⟨h1, -⟩⟩ := h
  · exact ⟨h0, h1⟩
  · rw [cg_ix_some hc (by omega)] at h1; cases h1

set_option maxHeartbeats 4000000 in
set_option maxRecDepth 100000 in
theorem k_readStands {I : sm_I} {T : TX} (hT2 : ∀ j, j < T.1 → T.2 j < 256) {m s : Nat} (h : RQ I T m s) {K : KT} (hK : CK I 7 K) (hn4 : K.1 ≤ 4) : E0 3 mX4_readStands [.ref 6] I (fun r I' => RI I' r T m (rend T (rstands T s K) (fun s K => .inr (s, K))) ∧ frI I I') := by
  refine E0.of (by decide) (by simp [Value.category]) (Nat.le_of_ble_eq_true rfl) (fun ζ => ?_)
  refine o_aload_n dX4_readStands_0 rfl rfl ?_
  refine o_iconst (v := nI 0) dX4_readStands_1 (by decide) ?_
  refine o_aload_n dX4_readStands_2 rfl rfl ?_
  refine o_getR (b := 7) dX4_readStands_3 fgX4_18 sh_6 rfl rfl ?_
  refine o_getI (v := nI K.1) dX4_readStands_6 fgX4_48 sh_7 rfl hK.1 ?_
  refine o_iconst (v := nI 1) dX4_readStands_9 (by decide) ?_
  refine o_isub dX4_readStands_10 ?_
  refine o_callV (as := [.int (nI 0), .int ((nI K.1) - (nI 1))]) (st := []) dX4_readStands_11 (k_readN hT2 h (n := K.1) rfl (by omega) (by omega)) rfl meX4_readNumber imX4_readNumber seX4_readNumber mlX4_57 sh_6 rfl rfl (by omega) (by decide) (Nat.le_of_ble_eq_true rfl) ?_
  rintro _ I1 ⟨⟨w1, rfl⟩ | ⟨w1, rfl⟩, h1, f1⟩
  · have h1R := h1
    obtain ⟨hTt1, q1, hq1, hi1, hs1⟩ := h1
    have hm1 := hTt1.1
    refine o_ifN_ne (tgt := 19) dX4_readStands_14 (by decide) (by omega) (fun b_88 => ?_) (fun b_88 => absurd b_88 (by omega))
    refine o_aload_n dX4_readStands_19 rfl rfl ?_
    refine o_getR (b := 1) dX4_readStands_20 fgX4_9 sh_6 rfl rfl ?_
    refine o_getR (b := 5) dX4_readStands_23 fgX4_61 sh_1 rfl rfl ?_
    refine o_aload_n dX4_readStands_26 rfl rfl ?_
    refine o_getI (v := nI q1) dX4_readStands_27 fgX4_34 sh_6 rfl hi1 ?_
    refine o_ialdN (v := nI (tv T (px T s))) dX4_readStands_30 sh_5 (by decide) (by omega) (((hTt1.2.2.2 q1 hq1).2.2 (by rw [hs1]; exact w1.1)).trans (by rw [hs1])) ?_
    refine o_istore_n dX4_readStands_31 rfl (by decide) ?_
    refine o_aload_n dX4_readStands_32 rfl rfl ?_
    refine o_getR (b := 7) dX4_readStands_33 fgX4_18 sh_6 rfl rfl ?_
    refine o_iload_n dX4_readStands_36 rfl rfl ?_
    refine o_callVp (v := .int (nI 1)) (as := [.int (nI (tv T (px T s)))]) (st := []) dX4_readStands_37 (k_hasY isCl_7 (hK.f63 hn4 f1) hn4 w1.2.2) rfl meX1_has imX1_has seX1_has mlX4_71 sh_7 rfl rfl (by omega) (by decide) (Nat.le_of_ble_eq_true rfl) ?_
    refine o_ifN_ne (tgt := 45) dX4_readStands_40 (by decide) (by omega) (fun b_89 => ?_) (fun b_89 => absurd b_89 (by omega))
    refine o_aload_n dX4_readStands_45 rfl rfl ?_
    refine o_getR (b := 7) dX4_readStands_46 fgX4_18 sh_6 rfl rfl ?_
    refine o_getR (b := 8) dX4_readStands_49 fgX4_75 sh_7 rfl rfl ?_
    refine o_iload_n dX4_readStands_52 rfl rfl ?_
    refine o_aaldN (t := 3) (b := 9 + tv T (px T s)) dX4_readStands_53 sh_8 (by decide) (by decide) (by have := w1.2.2; omega) (g4 9 (by have := w1.2.2; omega)) ?_
    refine o_iconst (v := nI 0) dX4_readStands_54 (by decide) ?_
    refine o_putZ dX4_readStands_55 flX4_79 (sk_7 _ (by have := w1.2.2; omega)) rfl (by decide) ?_
    refine o_aload_n dX4_readStands_58 rfl rfl ?_
    have hRu : RQ (up2 I1 (9 + tv T (px T s)) 3 (nI 0)) T m (px T s) := h1R.of (fun x k z1 z2 => up2_x (by omega)) (up2_x (by omega))
    have hKu : CK (up2 I1 (9 + tv T (px T s)) 3 (nI 0)) 7 (kset K (tv T (px T s)) 3 0) := (hK.f63 hn4 f1).put
    refine o_callV (as := []) (st := []) dX4_readStands_59 (k_readE hRu) rfl meX4_readItemEnd imX4_readItemEnd seX4_readItemEnd mlX4_64 sh_6 rfl rfl (by omega) (by decide) (Nat.le_of_ble_eq_true rfl) ?_
    rintro _ I5 ⟨⟨w5, rfl, h5⟩ | ⟨w5, rfl, h5⟩, f5⟩
    · exact o_zret dX4_readStands_62 rfl (by decide) ⟨Or.inr ⟨_, _, by rw [rstands, if_neg (fun z => z w1)]; show (if tk T (px T (px T s)) = 4 then _ else _) = _; rw [if_pos w5], h5, hKu.f63 hn4 f5, rfl⟩, (f1.I.trans (fun x k _ z => up2_x (by omega))).trans f5.I⟩
    · exact o_zret dX4_readStands_62 rfl (by decide) ⟨Or.inl ⟨_, by rw [rstands, if_neg (fun z => z w1)]; show (if tk T (px T (px T s)) = 4 then _ else _) = _; rw [if_neg w5], h5, rfl⟩, (f1.I.trans (fun x k _ z => up2_x (by omega))).trans f5.I⟩
  · refine o_ifN_ne (tgt := 19) dX4_readStands_14 (by decide) (by omega) (fun b_90 => absurd b_90 (by omega)) (fun b_90 => ?_)
    refine o_iconst (v := nI 0) dX4_readStands_17 (by decide) ?_
    exact o_zret dX4_readStands_18 rfl (by decide) ⟨Or.inl ⟨_, by rw [rstands, if_pos w1]; rfl, h1, rfl⟩, f1.I⟩
