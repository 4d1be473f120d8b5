theorem LD {x : Nat} (h : isL x = true) : ¬ isD x = true := fun q => DL q h

set_option maxHeartbeats 4000000 in
set_option maxRecDepth 100000 in
theorem lp_pk26 {ζ : sm_Z} {d : Nat} (hd6 : 6 ≤ d) {I : sm_I} {T : TX} (hT : CT I T) (h60 : T.1 ≤ 60) (hT2 : ∀ j, j < T.1 → T.2 j < 256) {s : Nat} (hs : s < T.1) {k : Nat} (hk : k ≤ 60) : X0 ζ d mX7_putKind 26 [some (.ref 1), some (.int (nI k)), some (.int (nI s)), some (.int (nI (te T s)))] [] I (fun r I' => r = none ∧ I' 3 k = nI (tk T s) ∧ (tk T s = 3 → I' 5 k = nI (tv T s)) ∧ ∀ x j, ¬ ((x = 3 ∨ x = 5) ∧ j = k) → I' x j = I x j) := by
  have hlt := hT2 s hs
  refine o_aload_n dX7_putKind_26 rfl rfl ?_
  refine o_getR (b := 5) dX7_putKind_27 fgX7_21 sh_1 rfl rfl ?_
  refine o_iload_n dX7_putKind_30 rfl rfl ?_
  refine o_iconst (v := nI 0) dX7_putKind_31 (by decide) ?_
  refine o_iastN dX7_putKind_32 sh_5 (by decide) (by omega) ?_
  refine o_aload_n dX7_putKind_33 rfl rfl ?_
  refine o_getR (b := 2) dX7_putKind_34 fgX7_9 sh_1 rfl rfl ?_
  refine o_iload_n dX7_putKind_37 rfl rfl ?_
  refine o_ialdN (v := nI (T.2 s)) dX7_putKind_38 sh_2 (by decide) (by omega) ((up2_x (by omega)).trans (hT.2 s (by omega))) ?_
  refine o_callS (as := [.int (nI (T.2 s))]) (st := []) dX7_putKind_39 (k_isSmallLetter _ (by have := hT2 s hs; omega)) rfl meX7_isSmallLetter ssX7_isSmallLetter mlX7_36 (by omega) (by decide) (Nat.le_of_ble_eq_true rfl) ?_
  rintro _ _ ⟨rfl, ⟨hl, rfl⟩ | ⟨hl, rfl⟩⟩
  · refine o_ifN_eq (tgt := 60) dX7_putKind_42 (by decide) (by omega) (fun b_77 => absurd b_77 (by omega)) (fun b_77 => ?_)
    refine o_aload_n dX7_putKind_45 rfl rfl ?_
    refine o_getR (b := 3) dX7_putKind_46 fgX7_15 sh_1 rfl rfl ?_
    refine o_iload_n dX7_putKind_49 rfl rfl ?_
    refine o_aload_n dX7_putKind_50 rfl rfl ?_
    refine o_iload_n dX7_putKind_51 rfl rfl ?_
    refine o_iload_n dX7_putKind_52 rfl rfl ?_
    refine o_callVp (v := .int (nI (tk T s))) (as := [.int (nI s), .int (nI (te T s))]) (st := [.int (nI k), .ref 3]) dX7_putKind_53 (k_kindW (hT.of (up2_x (by omega)) (fun k => up2_x (by omega))) h60 hT2 hs (LD hl) hl) rfl meX7_kindOfWord imX7_kindOfWord seX7_kindOfWord mlX7_42 sh_1 rfl rfl (by omega) (by decide) (Nat.le_of_ble_eq_true rfl) ?_
    refine o_iastN dX7_putKind_56 sh_3 (by decide) (by omega) ?_
    refine o_goto (tgt := 121) dX7_putKind_57 (by decide) ?_
    exact o_vret dX7_putKind_121 rfl ⟨rfl, up2_s, fun q => absurd (tk3_len q).2.1 (LD hl), fun x j z => ((up2_x (by omega)).trans ((up2_x (by omega)).trans rfl))⟩
  · refine o_ifN_eq (tgt := 60) dX7_putKind_42 (by decide) (by omega) (fun b_78 => ?_) (fun b_78 => absurd b_78 (by omega))
    refine o_aload_n dX7_putKind_60 rfl rfl ?_
    refine o_getR (b := 2) dX7_putKind_61 fgX7_9 sh_1 rfl rfl ?_
    refine o_iload_n dX7_putKind_64 rfl rfl ?_
    refine o_ialdN (v := nI (T.2 s)) dX7_putKind_65 sh_2 (by decide) (by omega) ((up2_x (by omega)).trans (hT.2 s (by omega))) ?_
    refine o_callS (as := [.int (nI (T.2 s))]) (st := []) dX7_putKind_66 (k_isFigure _ (by have := hT2 s hs; omega)) rfl meX7_isFigure ssX7_isFigure mlX7_39 (by omega) (by decide) (Nat.le_of_ble_eq_true rfl) ?_
    rintro _ _ ⟨rfl, ⟨hd, rfl⟩ | ⟨hd, rfl⟩⟩
    · refine o_ifN_eq (tgt := 99) dX7_putKind_69 (by decide) (by omega) (fun b_79 => absurd b_79 (by omega)) (fun b_79 => ?_)
      refine o_aload_n dX7_putKind_72 rfl rfl ?_
      refine o_getR (b := 3) dX7_putKind_73 fgX7_15 sh_1 rfl rfl ?_
      refine o_iload_n dX7_putKind_76 rfl rfl ?_
      refine o_aload_n dX7_putKind_77 rfl rfl ?_
      refine o_iload_n dX7_putKind_78 rfl rfl ?_
      refine o_iload_n dX7_putKind_79 rfl rfl ?_
      refine o_callVp (v := .int (nI (tk T s))) (as := [.int (nI s), .int (nI (te T s))]) (st := [.int (nI k), .ref 3]) dX7_putKind_80 (k_kindN (hT.of (up2_x (by omega)) (fun k => up2_x (by omega))) h60 hT2 hs hd) rfl meX7_kindOfNumber imX7_kindOfNumber seX7_kindOfNumber mlX7_46 sh_1 rfl rfl (by omega) (by decide) (Nat.le_of_ble_eq_true rfl) ?_
      refine o_iastN dX7_putKind_83 sh_3 (by decide) (by omega) ?_
      refine o_aload_n dX7_putKind_84 rfl rfl ?_
      refine o_getR (b := 5) dX7_putKind_85 fgX7_21 sh_1 rfl rfl ?_
      refine o_iload_n dX7_putKind_88 rfl rfl ?_
      refine o_aload_n dX7_putKind_89 rfl rfl ?_
      refine o_iload_n dX7_putKind_90 rfl rfl ?_
      refine o_iload_n dX7_putKind_91 rfl rfl ?_
      refine o_callVp (v := .int (nI (v2 T s))) (as := [.int (nI s), .int (nI (te T s))]) (st := [.int (nI k), .ref 5]) dX7_putKind_92 (k_value (hT.of ((up2_x (by omega)).trans (up2_x (by omega))) (fun k => (up2_x (by omega)).trans (up2_x (by omega)))) h60 hT2 hs hd) rfl meX7_valueOf imX7_valueOf seX7_valueOf mlX7_49 sh_1 rfl rfl (by omega) (by decide) (Nat.le_of_ble_eq_true rfl) ?_
      refine o_iastN dX7_putKind_95 sh_5 (by decide) (by omega) ?_
      refine o_goto (tgt := 121) dX7_putKind_96 (by decide) ?_
      exact o_vret dX7_putKind_121 rfl ⟨rfl, ((up2_x (by omega)).trans up2_s), fun q => up2_s.trans (congrArg nI (tv_v2 h60 q).symm), fun x j z => ((up2_x (by omega)).trans ((up2_x (by omega)).trans ((up2_x (by omega)).trans rfl)))⟩
    · refine o_ifN_eq (tgt := 99) dX7_putKind_69 (by decide) (by omega) (fun b_80 => ?_) (fun b_80 => absurd b_80 (by omega))
      refine o_aload_n dX7_putKind_99 rfl rfl ?_
      refine o_getR (b := 3) dX7_putKind_100 fgX7_15 sh_1 rfl rfl ?_
      refine o_iload_n dX7_putKind_103 rfl rfl ?_
      refine o_aload_n dX7_putKind_104 rfl rfl ?_
      refine o_getR (b := 2) dX7_putKind_105 fgX7_9 sh_1 rfl rfl ?_
      refine o_iload_n dX7_putKind_108 rfl rfl ?_
      refine o_ialdN (v := nI (T.2 s)) dX7_putKind_109 sh_2 (by decide) (by omega) ((up2_x (by omega)).trans (hT.2 s (by omega))) ?_
      refine o_bipush (v := nI 59) dX7_putKind_110 (by decide) ?_
      refine o_icmpN_ne (tgt := 119) dX7_putKind_112 (by decide) (by omega) (by omega) (fun b_81 => ?_) (fun b_81 => ?_)
      · refine o_iconst (v := nI 5) dX7_putKind_119 (by decide) ?_
        refine o_iastN dX7_putKind_120 sh_3 (by decide) (by omega) ?_
        exact o_vret dX7_putKind_121 rfl ⟨rfl, up2_s.trans (congrArg nI (by rw [tk, if_pos hs, if_neg hd, if_neg hl, if_neg b_81])), fun q => absurd (tk3_len q).2.1 hd, fun x j z => ((up2_x (by omega)).trans ((up2_x (by omega)).trans rfl))⟩
      · refine o_iconst (v := nI 4) dX7_putKind_115 (by decide) ?_
        refine o_goto (tgt := 120) dX7_putKind_116 (by decide) ?_
        refine o_iastN dX7_putKind_120 sh_3 (by decide) (by omega) ?_
        exact o_vret dX7_putKind_121 rfl ⟨rfl, up2_s.trans (congrArg nI (by rw [tk, if_pos hs, if_neg hd, if_neg hl, if_pos b_81])), fun q => absurd (tk3_len q).2.1 hd, fun x j z => ((up2_x (by omega)).trans ((up2_x (by omega)).trans rfl))⟩

set_option maxHeartbeats 4000000 in
set_option maxRecDepth 100000 in
theorem lp_pk {ζ : sm_Z} {d : Nat} (hd6 : 6 ≤ d) {I : sm_I} {T : TX} (hT : CT I T) (h60 : T.1 ≤ 60) (hT2 : ∀ j, j < T.1 → T.2 j < 256) {s : Nat} (hs : s < T.1) {k : Nat} (hk : k ≤ 60) : ∀ (f e : Nat), e + f = te T s → s < e → X0 ζ d mX7_putKind 4 [some (.ref 1), some (.int (nI k)), some (.int (nI s)), some (.int (nI e))] [] I (fun r I' => r = none ∧ I' 3 k = nI (tk T s) ∧ (tk T s = 3 → I' 5 k = nI (tv T s)) ∧ ∀ x j, ¬ ((x = 3 ∨ x = 5) ∧ j = k) → I' x j = I x j) := by
  have hle := te_le (Nat.le_of_lt hs)
  intro f
  induction f with
  | zero =>
    intro e he hse
    have hee : e = te T s := by omega
    subst hee
    refine o_iload_n dX7_putKind_4 rfl rfl ?_
    refine o_aload_n dX7_putKind_5 rfl rfl ?_
    refine o_getI (v := nI T.1) dX7_putKind_6 fgX7_24 sh_1 rfl hT.1 ?_
    refine o_icmpN_ge (tgt := 26) dX7_putKind_9 (by decide) (by omega) (by omega) (fun b_85 => ?_) (fun b_85 => ?_)
    · exact lp_pk26 (by omega) hT h60 hT2 hs hk
    · refine o_aload_n dX7_putKind_12 rfl rfl ?_
      refine o_iload_n dX7_putKind_13 rfl rfl ?_
      refine o_callV (as := [.int (nI (te T s))]) (st := []) dX7_putKind_14 (k_goes hT h60 hT2 (by omega)) rfl meX7_goesOn imX7_goesOn seX7_goesOn mlX7_28 sh_1 rfl rfl (by omega) (by decide) (Nat.le_of_ble_eq_true rfl) ?_
      rintro _ _ ⟨rfl, ⟨hg, rfl⟩ | ⟨hg, rfl⟩⟩
      · exact absurd hg (goes_te h60 hs)
      · refine o_ifN_eq (tgt := 26) dX7_putKind_17 (by decide) (by omega) (fun b_87 => ?_) (fun b_87 => absurd b_87 (by omega))
        exact lp_pk26 (by omega) hT h60 hT2 hs hk
  | succ f ih =>
    intro e he hse
    refine o_iload_n dX7_putKind_4 rfl rfl ?_
    refine o_aload_n dX7_putKind_5 rfl rfl ?_
    refine o_getI (v := nI T.1) dX7_putKind_6 fgX7_24 sh_1 rfl hT.1 ?_
    refine o_icmpN_ge (tgt := 26) dX7_putKind_9 (by decide) (by omega) (by omega) (fun b_88 => absurd b_88 (by omega)) (fun b_88 => ?_)
    refine o_aload_n dX7_putKind_12 rfl rfl ?_
    refine o_iload_n dX7_putKind_13 rfl rfl ?_
    refine o_callV (as := [.int (nI e)]) (st := []) dX7_putKind_14 (k_goes hT h60 hT2 (by omega)) rfl meX7_goesOn imX7_goesOn seX7_goesOn mlX7_28 sh_1 rfl rfl (by omega) (by decide) (Nat.le_of_ble_eq_true rfl) ?_
    rintro _ _ ⟨rfl, ⟨hg, rfl⟩ | ⟨hg, rfl⟩⟩
    · refine o_ifN_eq (tgt := 26) dX7_putKind_17 (by decide) (by omega) (fun b_89 => absurd b_89 (by omega)) (fun b_89 => ?_)
      refine o_iincN (w := 1) dX7_putKind_20 rfl (by decide) (by decide) ?_
      refine o_goto (tgt := 4) dX7_putKind_23 (by decide) ?_
      exact ih (e + 1) (by omega) (by omega)
    · exact absurd (goes_in hs (by omega) (by omega)) hg

set_option maxHeartbeats 4000000 in
set_option maxRecDepth 100000 in
theorem k_putKind {I : sm_I} {T : TX} (hT : CT I T) (h60 : T.1 ≤ 60) (hT2 : ∀ j, j < T.1 → T.2 j < 256) {s : Nat} (hs : s < T.1) {k : Nat} (hk : k ≤ 60) : E0 6 mX7_putKind [.ref 1, .int (nI k), .int (nI s)] I (fun r I' => r = none ∧ I' 3 k = nI (tk T s) ∧ (tk T s = 3 → I' 5 k = nI (tv T s)) ∧ ∀ x j, ¬ ((x = 3 ∨ x = 5) ∧ j = k) → I' x j = I x j) := by
  have hgt := te_gt hs
  refine E0.of (by decide) (by simp [Value.category]) (Nat.le_of_ble_eq_true rfl) (fun ζ => ?_)
  refine o_iload_n dX7_putKind_0 rfl rfl ?_
  refine o_iconst (v := nI 1) dX7_putKind_1 (by decide) ?_
  refine o_iaddN dX7_putKind_2 ?_
  refine o_istore_n dX7_putKind_3 rfl (by decide) ?_
  exact lp_pk (by omega) hT h60 hT2 hs hk (te T s - (s + 1)) (s + 1) (by omega) (by omega)

def TKn (I : sm_I) (T : TX) (n : Nat) : Prop := ∀ q, q < n → sq T q < T.1 ∧ I 4 q = nI (sq T q) ∧ I 3 q = nI (tk T (sq T q)) ∧ (tk T (sq T q) = 3 → I 5 q = nI (tv T (sq T q)))
def TK (I : sm_I) (T : TX) (m : Nat) : Prop := m ≤ 60 ∧ sq T m = T.1 ∧ (∀ q, q < m → sq T q < T.1) ∧ ∀ q, q ≤ m → I 4 q = nI (sq T q) ∧ I 3 q = nI (tk T (sq T q)) ∧ (tk T (sq T q) = 3 → I 5 q = nI (tv T (sq T q)))
def frT (I I' : sm_I) : Prop := ∀ x k, ¬ (3 ≤ x ∧ x ≤ 12) → I' x k = I x k
theorem frT.trans {I J K : sm_I} (h1 : frT I J) (h2 : frT J K) : frT I K := fun x k z => (h2 x k z).trans (h1 x k z)
theorem CT.T {I I' : sm_I} {T : TX} (h : CT I T) (hf : frT I I') : CT I' T := h.of (hf _ _ (by omega)) (fun k => hf _ _ (by omega))

set_option maxHeartbeats 4000000 in
set_option maxRecDepth 100000 in
theorem lp_split {ζ : sm_Z} {d : Nat} (hd7 : 7 ≤ d) {I0 : sm_I} {T : TX} (h60 : T.1 ≤ 60) (hT2 : ∀ j, j < T.1 → T.2 j < 256) : ∀ (f i k : Nat) (I : sm_I), i + f = T.1 → k ≤ i → i ≤ sq T k → (∀ j, i ≤ j → j < sq T k → T.2 j = 32 ∨ goes T j) → CT I T → TKn I T k → (∀ x k, ¬ (3 ≤ x ∧ x ≤ 5) → I x k = I0 x k) → X0 ζ d mX7_split 4 [some (.ref 1), some (.int (nI k)), some (.int (nI i))] [] I (fun r I' => r = none ∧ (∃ m, TK I' T m) ∧ (∀ x k, ¬ (3 ≤ x ∧ x ≤ 5) → I' x k = I0 x k)) := by
  intro f
  induction f with
  | zero =>
    intro i k I hif hki hik hb hT hTk hf
    have hse : sq T k = T.1 := Nat.le_antisymm (sq_le T k) (by omega)
    refine o_iload_n dX7_split_4 rfl rfl ?_
    refine o_aload_n dX7_split_5 rfl rfl ?_
    refine o_getI (v := nI T.1) dX7_split_6 fgX7_24 sh_1 rfl hT.1 ?_
    refine o_icmpN_ge (tgt := 53) dX7_split_9 (by decide) (by omega) (by omega) (fun b_99 => ?_) (fun b_99 => absurd b_99 (by omega))
    refine o_aload_n dX7_split_53 rfl rfl ?_
    refine o_getR (b := 3) dX7_split_54 fgX7_15 sh_1 rfl rfl ?_
    refine o_iload_n dX7_split_57 rfl rfl ?_
    refine o_iconst (v := nI 0) dX7_split_58 (by decide) ?_
    refine o_iastN dX7_split_59 sh_3 (by decide) (by omega) ?_
    refine o_aload_n dX7_split_60 rfl rfl ?_
    refine o_getR (b := 4) dX7_split_61 fgX7_18 sh_1 rfl rfl ?_
    refine o_iload_n dX7_split_64 rfl rfl ?_
    refine o_aload_n dX7_split_65 rfl rfl ?_
    refine o_getI (v := nI T.1) dX7_split_66 fgX7_24 sh_1 rfl ((up2_x (by omega)).trans hT.1) ?_
    refine o_iastN dX7_split_69 sh_4 (by decide) (by omega) ?_
    exact o_vret dX7_split_70 rfl ⟨rfl, ⟨k, by omega, hse, fun q hq => (hTk q hq).1, fun q hq => (by
        by_cases hqk : q = k
        · subst hqk; rw [hse]; exact ⟨up2_s, (up2_x (by omega)).trans (up2_s.trans (congrArg nI (tk_0.mpr (by omega)).symm)), fun z => absurd z (by rw [tk_0.mpr (by omega)]; decide)⟩
        · have h := hTk q (by omega)
          exact ⟨(up2_x (by omega)).trans ((up2_x (by omega)).trans h.2.1), (up2_x (by omega)).trans ((up2_x (by omega)).trans h.2.2.1), fun z => (up2_x (by omega)).trans ((up2_x (by omega)).trans (h.2.2.2 z))⟩)⟩, fun x j z => (up2_x (by omega)).trans ((up2_x (by omega)).trans (hf x j z))⟩
  | succ f ih =>
    intro i k I hif hki hik' hb hT hTk hf
    have hi : i < T.1 := by omega
    have hx2 := hT2 i hi
    by_cases hbl : T.2 i = 32
    · have hlt : i < sq T k := by
        refine Nat.lt_of_le_of_ne hik' (fun e => ?_)
        have h := (sq_PG h60 k).2 (by omega)
        rw [← e] at h
        exact h.1 hbl
      refine o_iload_n dX7_split_4 rfl rfl ?_
      refine o_aload_n dX7_split_5 rfl rfl ?_
      refine o_getI (v := nI T.1) dX7_split_6 fgX7_24 sh_1 rfl hT.1 ?_
      refine o_icmpN_ge (tgt := 53) dX7_split_9 (by decide) (by omega) (by omega) (fun b_91 => absurd b_91 (by omega)) (fun b_91 => ?_)
      refine o_aload_n dX7_split_12 rfl rfl ?_
      refine o_getR (b := 2) dX7_split_13 fgX7_9 sh_1 rfl rfl ?_
      refine o_iload_n dX7_split_16 rfl rfl ?_
      refine o_ialdN (v := nI (T.2 i)) dX7_split_17 sh_2 (by decide) (by omega) (hT.2 i (by omega)) ?_
      refine o_bipush (v := nI 32) dX7_split_18 (by decide) ?_
      refine o_icmpN_eq (tgt := 47) dX7_split_20 (by decide) (by omega) (by omega) (fun b_92 => ?_) (fun b_92 => absurd b_92 (by omega))
      refine o_iincN (w := 1) dX7_split_47 rfl (by decide) (by decide) ?_
      refine o_goto (tgt := 4) dX7_split_50 (by decide) ?_
      exact ih (i + 1) k I (by omega) (by omega) (by omega) (fun j z1 z2 => hb j (by omega) z2) hT hTk hf
    · by_cases hgo : goes T i
      · have hlt : i < sq T k := by
          refine Nat.lt_of_le_of_ne hik' (fun e => ?_)
          have h := (sq_PG h60 k).2 (by omega)
          rw [← e] at h
          exact h.2 hgo
        refine o_iload_n dX7_split_4 rfl rfl ?_
        refine o_aload_n dX7_split_5 rfl rfl ?_
        refine o_getI (v := nI T.1) dX7_split_6 fgX7_24 sh_1 rfl hT.1 ?_
        refine o_icmpN_ge (tgt := 53) dX7_split_9 (by decide) (by omega) (by omega) (fun b_93 => absurd b_93 (by omega)) (fun b_93 => ?_)
        refine o_aload_n dX7_split_12 rfl rfl ?_
        refine o_getR (b := 2) dX7_split_13 fgX7_9 sh_1 rfl rfl ?_
        refine o_iload_n dX7_split_16 rfl rfl ?_
        refine o_ialdN (v := nI (T.2 i)) dX7_split_17 sh_2 (by decide) (by omega) (hT.2 i (by omega)) ?_
        refine o_bipush (v := nI 32) dX7_split_18 (by decide) ?_
        refine o_icmpN_eq (tgt := 47) dX7_split_20 (by decide) (by omega) (by omega) (fun b_94 => absurd b_94 (by omega)) (fun b_94 => ?_)
        refine o_aload_n dX7_split_23 rfl rfl ?_
        refine o_iload_n dX7_split_24 rfl rfl ?_
        refine o_callV (as := [.int (nI i)]) (st := []) dX7_split_25 (k_goes hT h60 hT2 (by omega)) rfl meX7_goesOn imX7_goesOn seX7_goesOn mlX7_28 sh_1 rfl rfl (by omega) (by decide) (Nat.le_of_ble_eq_true rfl) ?_
        rintro _ I1 ⟨h0, hc⟩
        obtain ⟨hg, rfl⟩ : goes T i ∧ _ := hc.resolve_right (fun q => q.1 hgo)
        subst h0
        refine o_ifN_ne (tgt := 47) dX7_split_28 (by decide) (by omega) (fun b_95 => ?_) (fun b_95 => absurd b_95 (by omega))
        refine o_iincN (w := 1) dX7_split_47 rfl (by decide) (by decide) ?_
        refine o_goto (tgt := 4) dX7_split_50 (by decide) ?_
        exact ih (i + 1) k I1 (by omega) (by omega) (by omega) (fun j z1 z2 => hb j (by omega) z2) hT hTk hf
      · have hik : i = sq T k := by
          refine Nat.le_antisymm hik' (Nat.le_of_not_lt (fun z => ?_))
          rcases hb i (Nat.le_refl i) z with q | q
          · exact hbl q
          · exact hgo q
        refine o_iload_n dX7_split_4 rfl rfl ?_
        refine o_aload_n dX7_split_5 rfl rfl ?_
        refine o_getI (v := nI T.1) dX7_split_6 fgX7_24 sh_1 rfl hT.1 ?_
        refine o_icmpN_ge (tgt := 53) dX7_split_9 (by decide) (by omega) (by omega) (fun b_96 => absurd b_96 (by omega)) (fun b_96 => ?_)
        refine o_aload_n dX7_split_12 rfl rfl ?_
        refine o_getR (b := 2) dX7_split_13 fgX7_9 sh_1 rfl rfl ?_
        refine o_iload_n dX7_split_16 rfl rfl ?_
        refine o_ialdN (v := nI (T.2 i)) dX7_split_17 sh_2 (by decide) (by omega) (hT.2 i (by omega)) ?_
        refine o_bipush (v := nI 32) dX7_split_18 (by decide) ?_
        refine o_icmpN_eq (tgt := 47) dX7_split_20 (by decide) (by omega) (by omega) (fun b_97 => absurd b_97 (by omega)) (fun b_97 => ?_)
        refine o_aload_n dX7_split_23 rfl rfl ?_
        refine o_iload_n dX7_split_24 rfl rfl ?_
        refine o_callV (as := [.int (nI i)]) (st := []) dX7_split_25 (k_goes hT h60 hT2 (by omega)) rfl meX7_goesOn imX7_goesOn seX7_goesOn mlX7_28 sh_1 rfl rfl (by omega) (by decide) (Nat.le_of_ble_eq_true rfl) ?_
        rintro _ I1 ⟨h0, hc⟩
        obtain ⟨hg, rfl⟩ : ¬ goes T i ∧ _ := hc.resolve_left (fun q => hgo q.1)
        subst h0
        refine o_ifN_ne (tgt := 47) dX7_split_28 (by decide) (by omega) (fun b_98 => absurd b_98 (by omega)) (fun b_98 => ?_)
        refine o_aload_n dX7_split_31 rfl rfl ?_
        refine o_getR (b := 4) dX7_split_32 fgX7_18 sh_1 rfl rfl ?_
        refine o_iload_n dX7_split_35 rfl rfl ?_
        refine o_iload_n dX7_split_36 rfl rfl ?_
        refine o_iastN dX7_split_37 sh_4 (by decide) (by omega) ?_
        refine o_aload_n dX7_split_38 rfl rfl ?_
        refine o_iload_n dX7_split_39 rfl rfl ?_
        refine o_iload_n dX7_split_40 rfl rfl ?_
        have hT1 : CT (up2 I1 4 k (nI i)) T := hT.of (up2_x (by omega)) (fun k => up2_x (by omega))
        refine o_callV (as := [.int (nI k), .int (nI i)]) (st := []) dX7_split_41 (k_putKind hT1 h60 hT2 hi (by omega)) rfl meX7_putKind imX7_putKind seX7_putKind mlX7_32 sh_1 rfl rfl (by omega) (by decide) (Nat.le_of_ble_eq_true rfl) ?_
        rintro _ I2 ⟨rfl, g1, g2, g3⟩
        refine o_iincN (w := 1) dX7_split_44 rfl (by decide) (by decide) ?_
        refine o_iincN (w := 1) dX7_split_47 rfl (by decide) (by decide) ?_
        refine o_goto (tgt := 4) dX7_split_50 (by decide) ?_
        refine ih (i + 1) (k + 1) I2 (by omega) (by omega) ?_ (fun j z1 z2 => ?_) ?_ ?_ ?_
        · have := px_gt hi; show i + 1 ≤ px T (sq T k); rw [← hik]; omega
        · have z3 : j < px T (sq T k) := z2
          rw [← hik] at z3
          exact between hi (by omega) z3
        · exact hT1.of (g3 _ _ (by omega)) (fun k => g3 _ _ (by omega))
        · intro q hq
          by_cases hqk : q = k
          · subst hqk
            rw [← hik]
            exact ⟨hi, (g3 _ _ (by omega)).trans up2_s, g1, g2⟩
          · have h := hTk q (by omega)
            exact ⟨h.1, (g3 _ _ (by omega)).trans ((up2_x (by omega)).trans h.2.1), (g3 _ _ (by omega)).trans ((up2_x (by omega)).trans h.2.2.1), fun z => (g3 _ _ (by omega)).trans ((up2_x (by omega)).trans (h.2.2.2 z))⟩
        · exact fun x j z => (g3 _ _ (by omega)).trans ((up2_x (by omega)).trans (hf x j z))

set_option maxHeartbeats 4000000 in
set_option maxRecDepth 100000 in
theorem k_split {I : sm_I} {T : TX} (hT : CT I T) (h60 : T.1 ≤ 60) (hT2 : ∀ j, j < T.1 → T.2 j < 256) : E0 7 mX7_split [.ref 1] I (fun r I' => r = none ∧ (∃ m, TK I' T m) ∧ (∀ x k, ¬ (3 ≤ x ∧ x ≤ 5) → I' x k = I x k)) := by
  refine E0.of (by decide) (by simp [Value.category]) (Nat.le_of_ble_eq_true rfl) (fun ζ => ?_)
  refine o_iconst (v := nI 0) dX7_split_0 (by decide) ?_
  refine o_istore_n dX7_split_1 rfl (by decide) ?_
  refine o_iconst (v := nI 0) dX7_split_2 (by decide) ?_
  refine o_istore_n dX7_split_3 rfl (by decide) ?_
  exact lp_split (by omega) h60 hT2 T.1 0 0 I (by omega) (Nat.le_refl _) (Nat.zero_le _) (fun j _ z => Or.inl (ahead z)) hT (fun q hq => absurd hq (Nat.not_lt_zero q)) (fun _ _ _ => rfl)
