set_option maxHeartbeats 4000000 in
set_option maxRecDepth 100000 in
theorem k_isSmallLetter (I : sm_I) {x : Nat} (hx : x < 2 ^ 31) : E0 0 mX7_isSmallLetter [.int (nI x)] I (fun r I' => I' = I ∧ (((isL x = true) ∧ r = some (.int (nI 1))) ∨ ((¬ isL x = true) ∧ r = some (.int (nI 0))))) := by
  refine E0.of (by decide) (by simp [Value.category]) (Nat.le_of_ble_eq_true rfl) (fun ζ => ?_)
  refine o_iload_n dX7_isSmallLetter_0 rfl rfl ?_
  refine o_bipush (v := nI 97) dX7_isSmallLetter_1 (by decide) ?_
  refine o_icmpN_lt (tgt := 16) dX7_isSmallLetter_3 (by decide) (by omega) (by omega) (fun b_46 => ?_) (fun b_46 => ?_)
  · refine o_iconst (v := nI 0) dX7_isSmallLetter_16 (by decide) ?_
    exact o_zret dX7_isSmallLetter_17 rfl (by decide) ⟨rfl, Or.inr ⟨fun q => absurd (isL_t.mp q) (by omega), rfl⟩⟩
  · refine o_iload_n dX7_isSmallLetter_6 rfl rfl ?_
    refine o_bipush (v := nI 122) dX7_isSmallLetter_7 (by decide) ?_
    refine o_icmpN_gt (tgt := 16) dX7_isSmallLetter_9 (by decide) (by omega) (by omega) (fun b_47 => ?_) (fun b_47 => ?_)
    · refine o_iconst (v := nI 0) dX7_isSmallLetter_16 (by decide) ?_
      exact o_zret dX7_isSmallLetter_17 rfl (by decide) ⟨rfl, Or.inr ⟨fun q => absurd (isL_t.mp q) (by omega), rfl⟩⟩
    · refine o_iconst (v := nI 1) dX7_isSmallLetter_12 (by decide) ?_
      refine o_goto (tgt := 17) dX7_isSmallLetter_13 (by decide) ?_
      exact o_zret dX7_isSmallLetter_17 rfl (by decide) ⟨rfl, Or.inl ⟨isL_t.mpr ⟨by omega, by omega⟩, rfl⟩⟩

set_option maxHeartbeats 4000000 in
set_option maxRecDepth 100000 in
theorem k_isFigure (I : sm_I) {x : Nat} (hx : x < 2 ^ 31) : E0 0 mX7_isFigure [.int (nI x)] I (fun r I' => I' = I ∧ (((isD x = true) ∧ r = some (.int (nI 1))) ∨ ((¬ isD x = true) ∧ r = some (.int (nI 0))))) := by
  refine E0.of (by decide) (by simp [Value.category]) (Nat.le_of_ble_eq_true rfl) (fun ζ => ?_)
  refine o_iload_n dX7_isFigure_0 rfl rfl ?_
  refine o_bipush (v := nI 48) dX7_isFigure_1 (by decide) ?_
  refine o_icmpN_lt (tgt := 16) dX7_isFigure_3 (by decide) (by omega) (by omega) (fun b_48 => ?_) (fun b_48 => ?_)
  · refine o_iconst (v := nI 0) dX7_isFigure_16 (by decide) ?_
    exact o_zret dX7_isFigure_17 rfl (by decide) ⟨rfl, Or.inr ⟨fun q => absurd (isD_t.mp q) (by omega), rfl⟩⟩
  · refine o_iload_n dX7_isFigure_6 rfl rfl ?_
    refine o_bipush (v := nI 57) dX7_isFigure_7 (by decide) ?_
    refine o_icmpN_gt (tgt := 16) dX7_isFigure_9 (by decide) (by omega) (by omega) (fun b_49 => ?_) (fun b_49 => ?_)
    · refine o_iconst (v := nI 0) dX7_isFigure_16 (by decide) ?_
      exact o_zret dX7_isFigure_17 rfl (by decide) ⟨rfl, Or.inr ⟨fun q => absurd (isD_t.mp q) (by omega), rfl⟩⟩
    · refine o_iconst (v := nI 1) dX7_isFigure_12 (by decide) ?_
      refine o_goto (tgt := 17) dX7_isFigure_13 (by decide) ?_
      exact o_zret dX7_isFigure_17 rfl (by decide) ⟨rfl, Or.inl ⟨isD_t.mpr ⟨by omega, by omega⟩, rfl⟩⟩

set_option maxHeartbeats 4000000 in
set_option maxRecDepth 100000 in
theorem k_goes {I : sm_I} {T : TX} (hT : CT I T) (h60 : T.1 ≤ 60) (hT2 : ∀ j, j < T.1 → T.2 j < 256) {j : Nat} (hj : j < 2 ^ 31) : E0 1 mX7_goesOn [.ref 1, .int (nI j)] I (fun r I' => I' = I ∧ ((goes T j ∧ r = some (.int (nI 1))) ∨ (¬ goes T j ∧ r = some (.int (nI 0))))) := by
  refine E0.of (by decide) (by simp [Value.category]) (Nat.le_of_ble_eq_true rfl) (fun ζ => ?_)
  refine o_iload_n dX7_goesOn_0 rfl rfl ?_
  refine o_iconst (v := nI 1) dX7_goesOn_1 (by decide) ?_
  refine o_icmpN_lt (tgt := 13) dX7_goesOn_2 (by decide) (by omega) (by omega) (fun b_50 => ?_) (fun b_50 => ?_)
  · refine o_iconst (v := nI 0) dX7_goesOn_13 (by decide) ?_
    exact o_zret dX7_goesOn_14 rfl (by decide) ⟨rfl, Or.inr ⟨fun g => absurd g.1 (by have := g.2.1; omega), rfl⟩⟩
  · refine o_iload_n dX7_goesOn_5 rfl rfl ?_
    refine o_aload_n dX7_goesOn_6 rfl rfl ?_
    refine o_getI (v := nI T.1) dX7_goesOn_7 fgX7_24 sh_1 rfl hT.1 ?_
    refine o_icmpN_lt (tgt := 15) dX7_goesOn_10 (by decide) (by omega) (by omega) (fun b_51 => ?_) (fun b_51 => ?_)
    · refine o_aload_n dX7_goesOn_15 rfl rfl ?_
      refine o_getR (b := 2) dX7_goesOn_16 fgX7_9 sh_1 rfl rfl ?_
      refine o_iload_n dX7_goesOn_19 rfl rfl ?_
      refine o_ialdN (v := nI (T.2 j)) dX7_goesOn_20 sh_2 (by decide) (by omega) (hT.2 j (by omega)) ?_
      refine o_callS (as := [.int (nI (T.2 j))]) (st := []) dX7_goesOn_21 (k_isSmallLetter _ (by have := hT2 j (by omega); omega)) rfl meX7_isSmallLetter ssX7_isSmallLetter mlX7_36 (by omega) (by decide) (Nat.le_of_ble_eq_true rfl) ?_
      rintro _ _ ⟨rfl, ⟨l1, rfl⟩ | ⟨l1, rfl⟩⟩
      · refine o_ifN_eq (tgt := 41) dX7_goesOn_24 (by decide) (by omega) (fun b_52 => absurd b_52 (by omega)) (fun b_52 => ?_)
        refine o_aload_n dX7_goesOn_27 rfl rfl ?_
        refine o_getR (b := 2) dX7_goesOn_28 fgX7_9 sh_1 rfl rfl ?_
        refine o_iload_n dX7_goesOn_31 rfl rfl ?_
        refine o_iconst (v := nI 1) dX7_goesOn_32 (by decide) ?_
        refine o_isubN dX7_goesOn_33 (by omega) ?_
        refine o_ialdN (v := nI (T.2 (j - 1))) dX7_goesOn_34 sh_2 (by decide) (by omega) (hT.2 (j - 1) (by omega)) ?_
        refine o_callS (as := [.int (nI (T.2 (j - 1)))]) (st := []) dX7_goesOn_35 (k_isSmallLetter _ (by have := hT2 (j - 1) (by omega); omega)) rfl meX7_isSmallLetter ssX7_isSmallLetter mlX7_36 (by omega) (by decide) (Nat.le_of_ble_eq_true rfl) ?_
        rintro _ _ ⟨rfl, ⟨l2, rfl⟩ | ⟨l2, rfl⟩⟩
        · refine o_ifN_ne (tgt := 67) dX7_goesOn_38 (by decide) (by omega) (fun b_53 => ?_) (fun b_53 => absurd b_53 (by omega))
          refine o_iconst (v := nI 1) dX7_goesOn_67 (by decide) ?_
          refine o_goto (tgt := 72) dX7_goesOn_68 (by decide) ?_
          exact o_zret dX7_goesOn_72 rfl (by decide) ⟨rfl, Or.inl ⟨⟨by omega, by omega, Or.inl ⟨l1, l2⟩⟩, rfl⟩⟩
        · refine o_ifN_ne (tgt := 67) dX7_goesOn_38 (by decide) (by omega) (fun b_54 => absurd b_54 (by omega)) (fun b_54 => ?_)
          refine o_aload_n dX7_goesOn_41 rfl rfl ?_
          refine o_getR (b := 2) dX7_goesOn_42 fgX7_9 sh_1 rfl rfl ?_
          refine o_iload_n dX7_goesOn_45 rfl rfl ?_
          refine o_ialdN (v := nI (T.2 j)) dX7_goesOn_46 sh_2 (by decide) (by omega) (hT.2 j (by omega)) ?_
          refine o_callS (as := [.int (nI (T.2 j))]) (st := []) dX7_goesOn_47 (k_isFigure _ (by have := hT2 j (by omega); omega)) rfl meX7_isFigure ssX7_isFigure mlX7_39 (by omega) (by decide) (Nat.le_of_ble_eq_true rfl) ?_
          rintro _ _ ⟨rfl, ⟨d1, rfl⟩ | ⟨d1, rfl⟩⟩
          · refine o_ifN_eq (tgt := 71) dX7_goesOn_50 (by decide) (by omega) (fun b_55 => absurd b_55 (by omega)) (fun b_55 => ?_)
            refine o_aload_n dX7_goesOn_53 rfl rfl ?_
            refine o_getR (b := 2) dX7_goesOn_54 fgX7_9 sh_1 rfl rfl ?_
            refine o_iload_n dX7_goesOn_57 rfl rfl ?_
            refine o_iconst (v := nI 1) dX7_goesOn_58 (by decide) ?_
            refine o_isubN dX7_goesOn_59 (by omega) ?_
            refine o_ialdN (v := nI (T.2 (j - 1))) dX7_goesOn_60 sh_2 (by decide) (by omega) (hT.2 (j - 1) (by omega)) ?_
            refine o_callS (as := [.int (nI (T.2 (j - 1)))]) (st := []) dX7_goesOn_61 (k_isFigure _ (by have := hT2 (j - 1) (by omega); omega)) rfl meX7_isFigure ssX7_isFigure mlX7_39 (by omega) (by decide) (Nat.le_of_ble_eq_true rfl) ?_
            rintro _ _ ⟨rfl, ⟨d2, rfl⟩ | ⟨d2, rfl⟩⟩
            · refine o_ifN_eq (tgt := 71) dX7_goesOn_64 (by decide) (by omega) (fun b_56 => absurd b_56 (by omega)) (fun b_56 => ?_)
              refine o_iconst (v := nI 1) dX7_goesOn_67 (by decide) ?_
              refine o_goto (tgt := 72) dX7_goesOn_68 (by decide) ?_
              exact o_zret dX7_goesOn_72 rfl (by decide) ⟨rfl, Or.inl ⟨⟨by omega, by omega, Or.inr ⟨d1, d2⟩⟩, rfl⟩⟩
            · refine o_ifN_eq (tgt := 71) dX7_goesOn_64 (by decide) (by omega) (fun b_57 => ?_) (fun b_57 => absurd b_57 (by omega))
              refine o_iconst (v := nI 0) dX7_goesOn_71 (by decide) ?_
              exact o_zret dX7_goesOn_72 rfl (by decide) ⟨rfl, Or.inr ⟨fun g => g.2.2.elim (fun q => l2 q.2) (fun q => d2 q.2), rfl⟩⟩
          · refine o_ifN_eq (tgt := 71) dX7_goesOn_50 (by decide) (by omega) (fun b_58 => ?_) (fun b_58 => absurd b_58 (by omega))
            refine o_iconst (v := nI 0) dX7_goesOn_71 (by decide) ?_
            exact o_zret dX7_goesOn_72 rfl (by decide) ⟨rfl, Or.inr ⟨fun g => g.2.2.elim (fun q => l2 q.2) (fun q => d1 q.1), rfl⟩⟩
      · refine o_ifN_eq (tgt := 41) dX7_goesOn_24 (by decide) (by omega) (fun b_59 => ?_) (fun b_59 => absurd b_59 (by omega))
        refine o_aload_n dX7_goesOn_41 rfl rfl ?_
        refine o_getR (b := 2) dX7_goesOn_42 fgX7_9 sh_1 rfl rfl ?_
        refine o_iload_n dX7_goesOn_45 rfl rfl ?_
        refine o_ialdN (v := nI (T.2 j)) dX7_goesOn_46 sh_2 (by decide) (by omega) (hT.2 j (by omega)) ?_
        refine o_callS (as := [.int (nI (T.2 j))]) (st := []) dX7_goesOn_47 (k_isFigure _ (by have := hT2 j (by omega); omega)) rfl meX7_isFigure ssX7_isFigure mlX7_39 (by omega) (by decide) (Nat.le_of_ble_eq_true rfl) ?_
        rintro _ _ ⟨rfl, ⟨d1, rfl⟩ | ⟨d1, rfl⟩⟩
        · refine o_ifN_eq (tgt := 71) dX7_goesOn_50 (by decide) (by omega) (fun b_60 => absurd b_60 (by omega)) (fun b_60 => ?_)
          refine o_aload_n dX7_goesOn_53 rfl rfl ?_
          refine o_getR (b := 2) dX7_goesOn_54 fgX7_9 sh_1 rfl rfl ?_
          refine o_iload_n dX7_goesOn_57 rfl rfl ?_
          refine o_iconst (v := nI 1) dX7_goesOn_58 (by decide) ?_
          refine o_isubN dX7_goesOn_59 (by omega) ?_
          refine o_ialdN (v := nI (T.2 (j - 1))) dX7_goesOn_60 sh_2 (by decide) (by omega) (hT.2 (j - 1) (by omega)) ?_
          refine o_callS (as := [.int (nI (T.2 (j - 1)))]) (st := []) dX7_goesOn_61 (k_isFigure _ (by have := hT2 (j - 1) (by omega); omega)) rfl meX7_isFigure ssX7_isFigure mlX7_39 (by omega) (by decide) (Nat.le_of_ble_eq_true rfl) ?_
          rintro _ _ ⟨rfl, ⟨d2, rfl⟩ | ⟨d2, rfl⟩⟩
          · refine o_ifN_eq (tgt := 71) dX7_goesOn_64 (by decide) (by omega) (fun b_61 => absurd b_61 (by omega)) (fun b_61 => ?_)
            refine o_iconst (v := nI 1) dX7_goesOn_67 (by decide) ?_
            refine o_goto (tgt := 72) dX7_goesOn_68 (by decide) ?_
            exact o_zret dX7_goesOn_72 rfl (by decide) ⟨rfl, Or.inl ⟨⟨by omega, by omega, Or.inr ⟨d1, d2⟩⟩, rfl⟩⟩
          · refine o_ifN_eq (tgt := 71) dX7_goesOn_64 (by decide) (by omega) (fun b_62 => ?_) (fun b_62 => absurd b_62 (by omega))
            refine o_iconst (v := nI 0) dX7_goesOn_71 (by decide) ?_
            exact o_zret dX7_goesOn_72 rfl (by decide) ⟨rfl, Or.inr ⟨fun g => g.2.2.elim (fun q => l1 q.1) (fun q => d2 q.2), rfl⟩⟩
        · refine o_ifN_eq (tgt := 71) dX7_goesOn_50 (by decide) (by omega) (fun b_63 => ?_) (fun b_63 => absurd b_63 (by omega))
          refine o_iconst (v := nI 0) dX7_goesOn_71 (by decide) ?_
          exact o_zret dX7_goesOn_72 rfl (by decide) ⟨rfl, Or.inr ⟨fun g => g.2.2.elim (fun q => l1 q.1) (fun q => d1 q.1), rfl⟩⟩
    · refine o_iconst (v := nI 0) dX7_goesOn_13 (by decide) ?_
      exact o_zret dX7_goesOn_14 rfl (by decide) ⟨rfl, Or.inr ⟨fun g => absurd g.1 (by have := g.2.1; omega), rfl⟩⟩

def WD (T : TX) (i s e : Nat) : Prop := e - s = wl i ∧ ∀ j, j < wl i → T.2 (s + j) = wc i j

set_option maxHeartbeats 4000000 in
set_option maxRecDepth 100000 in
theorem lp_word {ζ : sm_Z} {d : Nat} {I : sm_I} {T : TX} (hT : CT I T) (h60 : T.1 ≤ 60) (hT2 : ∀ j, j < T.1 → T.2 j < 256) {i : Nat} (hi : i < 2) {s e : Nat} (hse : s ≤ e) (he : e ≤ T.1) (hlen : e - s = wl i) (hd : 4 ≤ d) : ∀ f k : Nat, k + f = e - s → (∀ j, j < k → T.2 (s + j) = wc i j) → X0 ζ d mX7_isWord 15 [some (.ref 1), some (.ref (1000001 + i)), some (.int (nI s)), some (.int (nI e)), some (.int (nI (s + k)))] [] I (fun r I' => I' = I ∧ ((WD T i s e ∧ r = some (.int (nI 1))) ∨ (¬ WD T i s e ∧ r = some (.int (nI 0))))) := by
  have h6 := wl_le i hi
  intro f
  induction f with
  | zero =>
    intro k hk hw
    refine o_iload dX7_isWord_15 rfl ?_
    refine o_iload_n dX7_isWord_17 rfl rfl ?_
    refine o_icmpN_ge (tgt := 47) dX7_isWord_18 (by decide) (by omega) (by omega) (fun _ => ?_) (fun h => absurd h (by omega))
    refine o_iconst (v := nI 1) dX7_isWord_47 (by decide) ?_
    exact o_zret dX7_isWord_48 rfl (by decide) ⟨rfl, Or.inl ⟨⟨hlen, fun j hj => hw j (by omega)⟩, rfl⟩⟩
  | succ f ih =>
    intro k hk hw
    have hx := hT2 (s + k) (by omega)
    have hy := wc_le i hi k (by omega)
    refine o_iload dX7_isWord_15 rfl ?_
    refine o_iload_n dX7_isWord_17 rfl rfl ?_
    refine o_icmpN_ge (tgt := 47) dX7_isWord_18 (by decide) (by omega) (by omega) (fun h => absurd h (by omega)) (fun _ => ?_)
    refine o_aload_n dX7_isWord_21 rfl rfl ?_
    refine o_getR (b := 2) dX7_isWord_22 fgX7_9 sh_1 rfl rfl ?_
    refine o_iload dX7_isWord_25 rfl ?_
    refine o_ialdN (v := nI (T.2 (s + k))) dX7_isWord_27 sh_2 (by decide) (by omega) (hT.2 (s + k) (by omega)) ?_
    refine o_aload_n dX7_isWord_28 rfl rfl ?_
    refine o_iload dX7_isWord_29 rfl ?_
    refine o_iload_n dX7_isWord_31 rfl rfl ?_
    refine o_isubN dX7_isWord_32 (by omega) ?_
    rw [show s + k - s = k by omega]
    refine o_callVS (as := [.int (nI k)]) (st := [.int (nI (T.2 (s + k)))]) (v := .int (nI (wc i k))) hi dX7_isWord_33 (j_char I hi (by omega)) rfl meJ0_charAt_5068e imJ0_charAt_5068e seJ0_charAt_5068e mlX7_65 rfl (by omega) (by decide) (Nat.le_of_ble_eq_true rfl) ?_
    refine o_icmpN_eq (tgt := 41) dX7_isWord_36 (by decide) (by omega) (by omega) (fun heq => ?_) (fun hne => ?_)
    · refine o_iincN (w := 1) dX7_isWord_41 rfl (by decide) (by decide) ?_
      refine o_goto (tgt := 15) dX7_isWord_44 (by decide) ?_
      refine ih (k + 1) (by omega) (fun j hj => ?_)
      by_cases hjk : j = k
      · subst hjk; exact heq
      · exact hw j (by omega)
    · refine o_iconst (v := nI 0) dX7_isWord_39 (by decide) ?_
      exact o_zret dX7_isWord_40 rfl (by decide) ⟨rfl, Or.inr ⟨fun q => hne (q.2 k (by omega)), rfl⟩⟩

set_option maxHeartbeats 4000000 in
set_option maxRecDepth 100000 in
theorem k_isWord {I : sm_I} {T : TX} (hT : CT I T) (h60 : T.1 ≤ 60) (hT2 : ∀ j, j < T.1 → T.2 j < 256) {i : Nat} (hi : i < 2) {s e : Nat} (hse : s ≤ e) (he : e ≤ T.1) : E0 4 mX7_isWord [.ref 1, .ref (1000001 + i), .int (nI s), .int (nI e)] I (fun r I' => I' = I ∧ ((WD T i s e ∧ r = some (.int (nI 1))) ∨ (¬ WD T i s e ∧ r = some (.int (nI 0))))) := by
  have h6 := wl_le i hi
  refine E0.of (by decide) (by simp [Value.category]) (Nat.le_of_ble_eq_true rfl) (fun ζ => ?_)
  refine o_iload_n dX7_isWord_0 rfl rfl ?_
  refine o_iload_n dX7_isWord_1 rfl rfl ?_
  refine o_isubN dX7_isWord_2 hse ?_
  refine o_aload_n dX7_isWord_3 rfl rfl ?_
  refine o_callVS (as := []) (st := [.int (nI (e - s))]) (v := .int (nI (wl i))) hi dX7_isWord_4 (j_len I hi) rfl meJ0_length_8abf5 imJ0_length_8abf5 seJ0_length_8abf5 mlX7_60 rfl (by omega) (by decide) (Nat.le_of_ble_eq_true rfl) ?_
  refine o_icmpN_eq (tgt := 12) dX7_isWord_7 (by decide) (by omega) (by omega) (fun hlen => ?_) (fun hlen => ?_)
  · refine o_iload_n dX7_isWord_12 rfl rfl ?_
    refine o_istore dX7_isWord_13 (by decide) ?_
    exact lp_word hT h60 hT2 hi hse he hlen (by omega) (e - s) 0 (by omega) (fun j hj => absurd hj (Nat.not_lt_zero j))
  · refine o_iconst (v := nI 0) dX7_isWord_10 (by decide) ?_
    exact o_zret dX7_isWord_11 rfl (by decide) ⟨rfl, Or.inr ⟨fun q => hlen q.1, rfl⟩⟩

theorem WD0 {T : TX} {s : Nat} : WD T 0 s (te T s) ↔ isCaskW T s := by
  unfold WD isCaskW
  constructor
  · rintro ⟨h1, h2⟩
    exact ⟨h1, h2 0 (by decide), h2 1 (by decide), h2 2 (by decide), h2 3 (by decide)⟩
  · rintro ⟨h1, a0, a1, a2, a3⟩
    refine ⟨h1, fun j hj => ?_⟩
    have hj' : j < 4 := hj
    rcases (show j = 0 ∨ j = 1 ∨ j = 2 ∨ j = 3 by omega) with rfl | rfl | rfl | rfl
    · exact a0
    · exact a1
    · exact a2
    · exact a3
theorem WD1 {T : TX} {s : Nat} : WD T 1 s (te T s) ↔ isStandsW T s := by
  unfold WD isStandsW
  constructor
  · rintro ⟨h1, h2⟩
    exact ⟨h1, h2 0 (by decide), h2 1 (by decide), h2 2 (by decide), h2 3 (by decide), h2 4 (by decide), h2 5 (by decide)⟩
  · rintro ⟨h1, a0, a1, a2, a3, a4, a5⟩
    refine ⟨h1, fun j hj => ?_⟩
    have hj' : j < 6 := hj
    rcases (show j = 0 ∨ j = 1 ∨ j = 2 ∨ j = 3 ∨ j = 4 ∨ j = 5 by omega) with rfl | rfl | rfl | rfl | rfl | rfl
    · exact a0
    · exact a1
    · exact a2
    · exact a3
    · exact a4
    · exact a5

set_option maxHeartbeats 4000000 in
set_option maxRecDepth 100000 in
theorem k_kindW {I : sm_I} {T : TX} (hT : CT I T) (h60 : T.1 ≤ 60) (hT2 : ∀ j, j < T.1 → T.2 j < 256) {s : Nat} (hs : s < T.1) (hd : ¬ isD (T.2 s) = true) (hl : isL (T.2 s) = true) : E0 5 mX7_kindOfWord [.ref 1, .int (nI s), .int (nI (te T s))] I (fun r I' => I' = I ∧ r = some (.int (nI (tk T s)))) := by
  refine E0.of (by decide) (by simp [Value.category]) (Nat.le_of_ble_eq_true rfl) (fun ζ => ?_)
  refine o_aload_n dX7_kindOfWord_0 rfl rfl ?_
  refine o_lds1 dX7_kindOfWord_1 rfl ?_
  refine o_iload_n dX7_kindOfWord_3 rfl rfl ?_
  refine o_iload_n dX7_kindOfWord_4 rfl rfl ?_
  refine o_callV (as := [.ref 1000001, .int (nI s), .int (nI (te T s))]) (st := []) dX7_kindOfWord_5 (k_isWord hT h60 hT2 (i := 0) (by decide) (Nat.le_of_lt (te_gt hs)) (te_le (Nat.le_of_lt hs))) rfl meX7_isWord imX7_isWord seX7_isWord mlX7_54 sh_1 rfl rfl (by omega) (by decide) (Nat.le_of_ble_eq_true rfl) ?_
  rintro _ _ ⟨rfl, ⟨h1, rfl⟩ | ⟨h1, rfl⟩⟩
  · refine o_ifN_eq (tgt := 13) dX7_kindOfWord_8 (by decide) (by omega) (fun h => absurd h (by omega)) (fun _ => ?_)
    refine o_iconst (v := nI 1) dX7_kindOfWord_11 (by decide) ?_
    exact o_iret dX7_kindOfWord_12 rfl ⟨rfl, by rw [tk_c hs hd hl (WD0.mp h1)]⟩
  · refine o_ifN_eq (tgt := 13) dX7_kindOfWord_8 (by decide) (by omega) (fun _ => ?_) (fun h => absurd h (by omega))
    refine o_aload_n dX7_kindOfWord_13 rfl rfl ?_
    refine o_lds2 dX7_kindOfWord_14 rfl ?_
    refine o_iload_n dX7_kindOfWord_16 rfl rfl ?_
    refine o_iload_n dX7_kindOfWord_17 rfl rfl ?_
    refine o_callV (as := [.ref 1000002, .int (nI s), .int (nI (te T s))]) (st := []) dX7_kindOfWord_18 (k_isWord hT h60 hT2 (i := 1) (by decide) (Nat.le_of_lt (te_gt hs)) (te_le (Nat.le_of_lt hs))) rfl meX7_isWord imX7_isWord seX7_isWord mlX7_54 sh_1 rfl rfl (by omega) (by decide) (Nat.le_of_ble_eq_true rfl) ?_
    rintro _ _ ⟨rfl, ⟨h2, rfl⟩ | ⟨h2, rfl⟩⟩
    · refine o_ifN_eq (tgt := 28) dX7_kindOfWord_21 (by decide) (by omega) (fun h => absurd h (by omega)) (fun _ => ?_)
      refine o_iconst (v := nI 2) dX7_kindOfWord_24 (by decide) ?_
      refine o_goto (tgt := 29) dX7_kindOfWord_25 (by decide) ?_
      exact o_iret dX7_kindOfWord_29 rfl ⟨rfl, by rw [tk_s hs hd hl (fun q => h1 (WD0.mpr q)) (WD1.mp h2)]⟩
    · refine o_ifN_eq (tgt := 28) dX7_kindOfWord_21 (by decide) (by omega) (fun _ => ?_) (fun h => absurd h (by omega))
      refine o_iconst (v := nI 5) dX7_kindOfWord_28 (by decide) ?_
      exact o_iret dX7_kindOfWord_29 rfl ⟨rfl, by rw [tk_n hs hd hl (fun q => h1 (WD0.mpr q)) (fun q => h2 (WD1.mpr q))]⟩

set_option maxHeartbeats 4000000 in
set_option maxRecDepth 100000 in
theorem k_kindN {I : sm_I} {T : TX} (hT : CT I T) (h60 : T.1 ≤ 60) (hT2 : ∀ j, j < T.1 → T.2 j < 256) {s : Nat} (hs : s < T.1) (hd : isD (T.2 s) = true) : E0 0 mX7_kindOfNumber [.ref 1, .int (nI s), .int (nI (te T s))] I (fun r I' => I' = I ∧ r = some (.int (nI (tk T s)))) := by
  have h1 := te_gt hs
  have h2 := te_le (Nat.le_of_lt hs)
  have h3 := hT2 s hs
  refine E0.of (by decide) (by simp [Value.category]) (Nat.le_of_ble_eq_true rfl) (fun ζ => ?_)
  refine o_aload_n dX7_kindOfNumber_0 rfl rfl ?_
  refine o_getR (b := 2) dX7_kindOfNumber_1 fgX7_9 sh_1 rfl rfl ?_
  refine o_iload_n dX7_kindOfNumber_4 rfl rfl ?_
  refine o_ialdN (v := nI (T.2 s)) dX7_kindOfNumber_5 sh_2 (by decide) (by omega) (hT.2 s (by omega)) ?_
  refine o_bipush (v := nI 48) dX7_kindOfNumber_6 (by decide) ?_
  refine o_icmpN_ne (tgt := 22) dX7_kindOfNumber_8 (by decide) (by omega) (by omega) (fun b_64 => ?_) (fun b_64 => ?_)
  · refine o_iconst (v := nI 0) dX7_kindOfNumber_22 (by decide) ?_
    refine o_istore_n dX7_kindOfNumber_23 rfl (by decide) ?_
    refine o_iload_n dX7_kindOfNumber_24 rfl rfl ?_
    refine o_ifN_ne (tgt := 35) dX7_kindOfNumber_25 (by decide) (by omega) (fun b_65 => absurd b_65 (by omega)) (fun b_65 => ?_)
    refine o_iload_n dX7_kindOfNumber_28 rfl rfl ?_
    refine o_iload_n dX7_kindOfNumber_29 rfl rfl ?_
    refine o_isubN dX7_kindOfNumber_30 (by omega) ?_
    refine o_iconst (v := nI 2) dX7_kindOfNumber_31 (by decide) ?_
    refine o_icmpN_le (tgt := 39) dX7_kindOfNumber_32 (by decide) (by omega) (by omega) (fun b_66 => ?_) (fun b_66 => ?_)
    · refine o_iconst (v := nI 3) dX7_kindOfNumber_39 (by decide) ?_
      exact o_iret dX7_kindOfNumber_40 rfl ⟨rfl, by rw [tk, if_pos hs, if_pos hd, if_neg (by omega)]⟩
    · refine o_iconst (v := nI 5) dX7_kindOfNumber_35 (by decide) ?_
      refine o_goto (tgt := 40) dX7_kindOfNumber_36 (by decide) ?_
      exact o_iret dX7_kindOfNumber_40 rfl ⟨rfl, by rw [tk, if_pos hs, if_pos hd, if_pos (by omega)]⟩
  · refine o_iload_n dX7_kindOfNumber_11 rfl rfl ?_
    refine o_iload_n dX7_kindOfNumber_12 rfl rfl ?_
    refine o_isubN dX7_kindOfNumber_13 (by omega) ?_
    refine o_iconst (v := nI 1) dX7_kindOfNumber_14 (by decide) ?_
    refine o_icmpN_le (tgt := 22) dX7_kindOfNumber_15 (by decide) (by omega) (by omega) (fun b_67 => ?_) (fun b_67 => ?_)
    · refine o_iconst (v := nI 0) dX7_kindOfNumber_22 (by decide) ?_
      refine o_istore_n dX7_kindOfNumber_23 rfl (by decide) ?_
      refine o_iload_n dX7_kindOfNumber_24 rfl rfl ?_
      refine o_ifN_ne (tgt := 35) dX7_kindOfNumber_25 (by decide) (by omega) (fun b_68 => absurd b_68 (by omega)) (fun b_68 => ?_)
      refine o_iload_n dX7_kindOfNumber_28 rfl rfl ?_
      refine o_iload_n dX7_kindOfNumber_29 rfl rfl ?_
      refine o_isubN dX7_kindOfNumber_30 (by omega) ?_
      refine o_iconst (v := nI 2) dX7_kindOfNumber_31 (by decide) ?_
      refine o_icmpN_le (tgt := 39) dX7_kindOfNumber_32 (by decide) (by omega) (by omega) (fun b_69 => ?_) (fun b_69 => ?_)
      · refine o_iconst (v := nI 3) dX7_kindOfNumber_39 (by decide) ?_
        exact o_iret dX7_kindOfNumber_40 rfl ⟨rfl, by rw [tk, if_pos hs, if_pos hd, if_neg (by omega)]⟩
      · refine o_iconst (v := nI 5) dX7_kindOfNumber_35 (by decide) ?_
        refine o_goto (tgt := 40) dX7_kindOfNumber_36 (by decide) ?_
        exact o_iret dX7_kindOfNumber_40 rfl ⟨rfl, by rw [tk, if_pos hs, if_pos hd, if_pos (by omega)]⟩
    · refine o_iconst (v := nI 1) dX7_kindOfNumber_18 (by decide) ?_
      refine o_goto (tgt := 23) dX7_kindOfNumber_19 (by decide) ?_
      refine o_istore_n dX7_kindOfNumber_23 rfl (by decide) ?_
      refine o_iload_n dX7_kindOfNumber_24 rfl rfl ?_
      refine o_ifN_ne (tgt := 35) dX7_kindOfNumber_25 (by decide) (by omega) (fun b_70 => ?_) (fun b_70 => absurd b_70 (by omega))
      refine o_iconst (v := nI 5) dX7_kindOfNumber_35 (by decide) ?_
      refine o_goto (tgt := 40) dX7_kindOfNumber_36 (by decide) ?_
      exact o_iret dX7_kindOfNumber_40 rfl ⟨rfl, by rw [tk, if_pos hs, if_pos hd, if_pos (by omega)]⟩

set_option maxHeartbeats 4000000 in
set_option maxRecDepth 100000 in
theorem k_value {I : sm_I} {T : TX} (hT : CT I T) (h60 : T.1 ≤ 60) (hT2 : ∀ j, j < T.1 → T.2 j < 256) {s : Nat} (hs : s < T.1) (hd : isD (T.2 s) = true) : E0 0 mX7_valueOf [.ref 1, .int (nI s), .int (nI (te T s))] I (fun r I' => I' = I ∧ r = some (.int (nI (v2 T s)))) := by
  have h1 := te_gt hs
  have h2 := te_le (Nat.le_of_lt hs)
  have e := te_D hs hd
  have hd1 := isD_t.mp hd
  have hd2 : s + 1 < te T s → 48 ≤ T.2 (s + 1) ∧ T.2 (s + 1) ≤ 57 := fun h => isD_t.mp (tx_run_in T isD 60 s (s + 1) (by omega) (by rw [← e]; omega)).2
  clear e
  refine E0.of (by decide) (by simp [Value.category]) (Nat.le_of_ble_eq_true rfl) (fun ζ => ?_)
  refine o_iconst (v := nI 0) dX7_valueOf_0 (by decide) ?_
  refine o_istore_n dX7_valueOf_1 rfl (by decide) ?_
  refine o_iload_n dX7_valueOf_2 rfl rfl ?_
  refine o_istore dX7_valueOf_3 (by decide) ?_
  refine o_iload dX7_valueOf_5 rfl ?_
  refine o_iload_n dX7_valueOf_7 rfl rfl ?_
  refine o_icmpN_ge (tgt := 41) dX7_valueOf_8 (by decide) (by omega) (by omega) (fun b_71 => absurd b_71 (by omega)) (fun b_71 => ?_)
  refine o_iload dX7_valueOf_11 rfl ?_
  refine o_iload_n dX7_valueOf_13 rfl rfl ?_
  refine o_iconst (v := nI 2) dX7_valueOf_14 (by decide) ?_
  refine o_iaddN dX7_valueOf_15 ?_
  refine o_icmpN_ge (tgt := 41) dX7_valueOf_16 (by decide) (by omega) (by omega) (fun b_72 => absurd b_72 (by omega)) (fun b_72 => ?_)
  refine o_bipush (v := nI 10) dX7_valueOf_19 (by decide) ?_
  refine o_iload_n dX7_valueOf_21 rfl rfl ?_
  refine o_imulN dX7_valueOf_22 ?_
  refine o_aload_n dX7_valueOf_23 rfl rfl ?_
  refine o_getR (b := 2) dX7_valueOf_24 fgX7_9 sh_1 rfl rfl ?_
  refine o_iload dX7_valueOf_27 rfl ?_
  refine o_ialdN (v := nI (T.2 s)) dX7_valueOf_29 sh_2 (by decide) (by omega) (hT.2 s (by omega)) ?_
  refine o_iaddN dX7_valueOf_30 ?_
  refine o_bipush (v := nI 48) dX7_valueOf_31 (by decide) ?_
  refine o_isubN dX7_valueOf_33 (by omega) ?_
  refine o_istore_n dX7_valueOf_34 rfl (by decide) ?_
  refine o_iincN (w := 1) dX7_valueOf_35 rfl (by decide) (by decide) ?_
  refine o_goto (tgt := 5) dX7_valueOf_38 (by decide) ?_
  refine o_iload dX7_valueOf_5 rfl ?_
  refine o_iload_n dX7_valueOf_7 rfl rfl ?_
  refine o_icmpN_ge (tgt := 41) dX7_valueOf_8 (by decide) (by omega) (by omega) (fun b_73 => ?_) (fun b_73 => ?_)
  · refine o_iload_n dX7_valueOf_41 rfl rfl ?_
    exact o_iret dX7_valueOf_42 rfl ⟨rfl, congrArg (fun z => some (Value.int (nI z))) (by unfold v2; first | (rw [if_pos (by omega)]; omega) | (rw [if_neg (by omega)]; omega))⟩
  · refine o_iload dX7_valueOf_11 rfl ?_
    refine o_iload_n dX7_valueOf_13 rfl rfl ?_
    refine o_iconst (v := nI 2) dX7_valueOf_14 (by decide) ?_
    refine o_iaddN dX7_valueOf_15 ?_
    refine o_icmpN_ge (tgt := 41) dX7_valueOf_16 (by decide) (by omega) (by omega) (fun b_74 => absurd b_74 (by omega)) (fun b_74 => ?_)
    refine o_bipush (v := nI 10) dX7_valueOf_19 (by decide) ?_
    refine o_iload_n dX7_valueOf_21 rfl rfl ?_
    refine o_imulN dX7_valueOf_22 ?_
    refine o_aload_n dX7_valueOf_23 rfl rfl ?_
    refine o_getR (b := 2) dX7_valueOf_24 fgX7_9 sh_1 rfl rfl ?_
    refine o_iload dX7_valueOf_27 rfl ?_
    refine o_ialdN (v := nI (T.2 (s + 1))) dX7_valueOf_29 sh_2 (by decide) (by omega) (hT.2 (s + 1) (by omega)) ?_
    refine o_iaddN dX7_valueOf_30 ?_
    refine o_bipush (v := nI 48) dX7_valueOf_31 (by decide) ?_
    refine o_isubN dX7_valueOf_33 (by omega) ?_
    refine o_istore_n dX7_valueOf_34 rfl (by decide) ?_
    refine o_iincN (w := 1) dX7_valueOf_35 rfl (by decide) (by decide) ?_
    refine o_goto (tgt := 5) dX7_valueOf_38 (by decide) ?_
    refine o_iload dX7_valueOf_5 rfl ?_
    refine o_iload_n dX7_valueOf_7 rfl rfl ?_
    refine o_icmpN_ge (tgt := 41) dX7_valueOf_8 (by decide) (by omega) (by omega) (fun b_75 => ?_) (fun b_75 => ?_)
    · refine o_iload_n dX7_valueOf_41 rfl rfl ?_
      exact o_iret dX7_valueOf_42 rfl ⟨rfl, congrArg (fun z => some (Value.int (nI z))) (by unfold v2; first | (rw [if_pos (by omega)]; omega) | (rw [if_neg (by omega)]; omega))⟩
    · refine o_iload dX7_valueOf_11 rfl ?_
      refine o_iload_n dX7_valueOf_13 rfl rfl ?_
      refine o_iconst (v := nI 2) dX7_valueOf_14 (by decide) ?_
      refine o_iaddN dX7_valueOf_15 ?_
      refine o_icmpN_ge (tgt := 41) dX7_valueOf_16 (by decide) (by omega) (by omega) (fun b_76 => ?_) (fun b_76 => absurd b_76 (by omega))
      refine o_iload_n dX7_valueOf_41 rfl rfl ?_
      exact o_iret dX7_valueOf_42 rfl ⟨rfl, congrArg (fun z => some (Value.int (nI z))) (by unfold v2; first | (rw [if_pos (by omega)]; omega) | (rw [if_neg (by omega)]; omega))⟩
