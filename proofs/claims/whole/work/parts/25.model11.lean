def frL (I I' : sm_I) : Prop := ∀ a k, ¬ (a = 106 ∧ 11 ≤ k ∧ k ≤ 14) → I' a k = I a k
theorem frL.refl (I : sm_I) : frL I I := fun _ _ _ => rfl
theorem frL.trans {I J K : sm_I} (h1 : frL I J) (h2 : frL J K) : frL I K := fun a k h => (h2 a k h).trans (h1 a k h)
theorem frL.up {I : sm_I} {k : Nat} {v : Int32} (h : 11 ≤ k ∧ k ≤ 14) : frL I (up2 I 106 k v) := fun a j q => up2_x (by omega)
theorem MT.frL {I I' : sm_I} {T : TX} (h : MT I T) (hf : frL I I') : MT I' T := h.of (hf _ _ (by omega)) (fun k => hf _ _ (by omega))

set_option maxHeartbeats 4000000 in
set_option maxRecDepth 100000 in
theorem c_atN {I : sm_I} {T : TX} (hT : MT I T) (h60 : T.1 ≤ 60) (hT2 : ∀ j, j < T.1 → T.2 j < 256) {k : Nat} (hk : k < T.1) : E0 0 mX9_at [.ref 106, .int (nI k)] I (fun r I' => I' = I ∧ r = some (.int (nI (T.2 k)))) := by
  have hx := hT2 k hk
  refine E0.of (by decide) (by simp [Value.category]) (Nat.le_of_ble_eq_true rfl) (fun ζ => ?_)
  refine o_iload_n dX9_at_0 rfl rfl ?_
  refine o_aload_n dX9_at_1 rfl rfl ?_
  refine o_getI (v := nI T.1) dX9_at_2 fgX9_47 sh_106 rfl hT.1 ?_
  refine o_icmpN_ge (tgt := 21) dX9_at_5 (by decide) (by omega) (by omega) (fun b_1 => absurd b_1 (by omega)) (fun b_1 => ?_)
  refine o_aload_n dX9_at_8 rfl rfl ?_
  refine o_getR (b := 113) dX9_at_9 fgX9_29 sh_106 rfl rfl ?_
  refine o_iload_n dX9_at_12 rfl rfl ?_
  refine o_baldN (v := (nI (T.2 k)).toInt8.toInt32) dX9_at_13 sh_113 (by decide) (by omega) (hT.2 k hk) ?_
  refine o_sipush (v := nI 255) dX9_at_14 (by decide) ?_
  refine o_iand dX9_at_17 ?_
  rw [show ((nI (T.2 k)).toInt8.toInt32) &&& (nI 255) = nI (T.2 k) from b255 _ hx]
  refine o_goto (tgt := 22) dX9_at_18 (by decide) ?_
  exact o_iret dX9_at_22 rfl ⟨rfl, rfl⟩

set_option maxHeartbeats 4000000 in
set_option maxRecDepth 100000 in
theorem c_atE {I : sm_I} {T : TX} (hT : MT I T) (h60 : T.1 ≤ 60) {k : Nat} (hk : T.1 ≤ k) (hk2 : k < 2 ^ 31) : E0 0 mX9_at [.ref 106, .int (nI k)] I (fun r I' => I' = I ∧ r = some (.int (-1))) := by
  refine E0.of (by decide) (by simp [Value.category]) (Nat.le_of_ble_eq_true rfl) (fun ζ => ?_)
  refine o_iload_n dX9_at_0 rfl rfl ?_
  refine o_aload_n dX9_at_1 rfl rfl ?_
  refine o_getI (v := nI T.1) dX9_at_2 fgX9_47 sh_106 rfl hT.1 ?_
  refine o_icmpN_ge (tgt := 21) dX9_at_5 (by decide) (by omega) (by omega) (fun b_2 => ?_) (fun b_2 => absurd b_2 (by omega))
  refine o_iconst (v := (-1)) dX9_at_21 (by decide) ?_
  exact o_iret dX9_at_22 rfl ⟨rfl, rfl⟩

theorem in_no {v lo hi : Nat} (h : v < lo ∨ hi < v) (hv : v < 2 ^ 31) (hl : lo < 2 ^ 31) (hh : hi < 2 ^ 31) : ¬ (nI lo ≤ nI v ∧ nI v ≤ nI hi) := by
  rw [nI_leI hl hv, nI_leI hv hh]
  omega

theorem te_ge {T : TX} {s : Nat} (h1 : s ≤ T.1) : s ≤ te T s := by
  rcases Nat.lt_or_ge s T.1 with h | h
  · exact Nat.le_of_lt (te_gt h)
  · unfold te
    rw [if_neg (by omega)]
    exact Nat.le_refl s

set_option maxHeartbeats 4000000 in
set_option maxRecDepth 100000 in
theorem c_isCaskWord {I : sm_I} {T : TX} (hT : MT I T) (h60 : T.1 ≤ 60) (hT2 : ∀ j, j < T.1 → T.2 j < 256) {s : Nat} (hs1 : s ≤ T.1) (hs : I 106 11 = nI s) (hte : I 106 12 = nI (te T s)) : E0 1 mX9_isCaskWord [.ref 106] I (fun r I' => I' = I ∧ ((isCaskW T s ∧ r = some (.int (nI 1))) ∨ (¬ isCaskW T s ∧ r = some (.int (nI 0))))) := by
  have h1 := te_le hs1
  have hge := te_ge hs1
  refine E0.of (by decide) (by simp [Value.category]) (Nat.le_of_ble_eq_true rfl) (fun ζ => ?_)
  refine o_aload_n dX9_isCaskWord_0 rfl rfl ?_
  refine o_getI (v := nI (te T s)) dX9_isCaskWord_1 fgX9_50 sh_106 rfl hte ?_
  refine o_aload_n dX9_isCaskWord_4 rfl rfl ?_
  refine o_getI (v := nI s) dX9_isCaskWord_5 fgX9_53 sh_106 rfl hs ?_
  refine o_isubN dX9_isCaskWord_8 (by omega) ?_
  refine o_iconst (v := nI 4) dX9_isCaskWord_9 (by decide) ?_
  refine o_icmpN_ne (tgt := 75) dX9_isCaskWord_10 (by decide) (by omega) (by omega) (fun b_3 => ?_) (fun b_3 => ?_)
  · refine o_iconst (v := nI 0) dX9_isCaskWord_75 (by decide) ?_
    exact o_zret dX9_isCaskWord_76 rfl (by decide) ⟨rfl, Or.inr ⟨fun q => absurd q (by unfold isCaskW; omega), rfl⟩⟩
  · have hx0 := hT2 s (by omega)
    have hx1 := hT2 (s + 1) (by omega)
    have hx2 := hT2 (s + 2) (by omega)
    have hx3 := hT2 (s + 3) (by omega)
    refine o_aload_n dX9_isCaskWord_13 rfl rfl ?_
    refine o_aload_n dX9_isCaskWord_14 rfl rfl ?_
    refine o_getI (v := nI s) dX9_isCaskWord_15 fgX9_53 sh_106 rfl hs ?_
    refine o_callVp (v := .int (nI (T.2 s))) (as := [.int (nI s)]) (st := []) dX9_isCaskWord_18 (c_atN hT h60 hT2 (by omega)) rfl meX9_at imX9_at seX9_at mlX9_56 sh_106 rfl rfl (by omega) (by decide) (Nat.le_of_ble_eq_true rfl) ?_
    refine o_bipush (v := nI 99) dX9_isCaskWord_21 (by decide) ?_
    refine o_icmpN_ne (tgt := 75) dX9_isCaskWord_23 (by decide) (by omega) (by omega) (fun b_4 => ?_) (fun b_4 => ?_)
    · refine o_iconst (v := nI 0) dX9_isCaskWord_75 (by decide) ?_
      exact o_zret dX9_isCaskWord_76 rfl (by decide) ⟨rfl, Or.inr ⟨fun q => absurd q (by unfold isCaskW; omega), rfl⟩⟩
    · refine o_aload_n dX9_isCaskWord_26 rfl rfl ?_
      refine o_aload_n dX9_isCaskWord_27 rfl rfl ?_
      refine o_getI (v := nI s) dX9_isCaskWord_28 fgX9_53 sh_106 rfl hs ?_
      refine o_iconst (v := nI 1) dX9_isCaskWord_31 (by decide) ?_
      refine o_iaddN dX9_isCaskWord_32 ?_
      refine o_callVp (v := .int (nI (T.2 (s + 1)))) (as := [.int (nI (s + 1))]) (st := []) dX9_isCaskWord_33 (c_atN hT h60 hT2 (by omega)) rfl meX9_at imX9_at seX9_at mlX9_56 sh_106 rfl rfl (by omega) (by decide) (Nat.le_of_ble_eq_true rfl) ?_
      refine o_bipush (v := nI 97) dX9_isCaskWord_36 (by decide) ?_
      refine o_icmpN_ne (tgt := 75) dX9_isCaskWord_38 (by decide) (by omega) (by omega) (fun b_5 => ?_) (fun b_5 => ?_)
      · refine o_iconst (v := nI 0) dX9_isCaskWord_75 (by decide) ?_
        exact o_zret dX9_isCaskWord_76 rfl (by decide) ⟨rfl, Or.inr ⟨fun q => absurd q (by unfold isCaskW; omega), rfl⟩⟩
      · refine o_aload_n dX9_isCaskWord_41 rfl rfl ?_
        refine o_aload_n dX9_isCaskWord_42 rfl rfl ?_
        refine o_getI (v := nI s) dX9_isCaskWord_43 fgX9_53 sh_106 rfl hs ?_
        refine o_iconst (v := nI 2) dX9_isCaskWord_46 (by decide) ?_
        refine o_iaddN dX9_isCaskWord_47 ?_
        refine o_callVp (v := .int (nI (T.2 (s + 2)))) (as := [.int (nI (s + 2))]) (st := []) dX9_isCaskWord_48 (c_atN hT h60 hT2 (by omega)) rfl meX9_at imX9_at seX9_at mlX9_56 sh_106 rfl rfl (by omega) (by decide) (Nat.le_of_ble_eq_true rfl) ?_
        refine o_bipush (v := nI 115) dX9_isCaskWord_51 (by decide) ?_
        refine o_icmpN_ne (tgt := 75) dX9_isCaskWord_53 (by decide) (by omega) (by omega) (fun b_6 => ?_) (fun b_6 => ?_)
        · refine o_iconst (v := nI 0) dX9_isCaskWord_75 (by decide) ?_
          exact o_zret dX9_isCaskWord_76 rfl (by decide) ⟨rfl, Or.inr ⟨fun q => absurd q (by unfold isCaskW; omega), rfl⟩⟩
        · refine o_aload_n dX9_isCaskWord_56 rfl rfl ?_
          refine o_aload_n dX9_isCaskWord_57 rfl rfl ?_
          refine o_getI (v := nI s) dX9_isCaskWord_58 fgX9_53 sh_106 rfl hs ?_
          refine o_iconst (v := nI 3) dX9_isCaskWord_61 (by decide) ?_
          refine o_iaddN dX9_isCaskWord_62 ?_
          refine o_callVp (v := .int (nI (T.2 (s + 3)))) (as := [.int (nI (s + 3))]) (st := []) dX9_isCaskWord_63 (c_atN hT h60 hT2 (by omega)) rfl meX9_at imX9_at seX9_at mlX9_56 sh_106 rfl rfl (by omega) (by decide) (Nat.le_of_ble_eq_true rfl) ?_
          refine o_bipush (v := nI 107) dX9_isCaskWord_66 (by decide) ?_
          refine o_icmpN_ne (tgt := 75) dX9_isCaskWord_68 (by decide) (by omega) (by omega) (fun b_7 => ?_) (fun b_7 => ?_)
          · refine o_iconst (v := nI 0) dX9_isCaskWord_75 (by decide) ?_
            exact o_zret dX9_isCaskWord_76 rfl (by decide) ⟨rfl, Or.inr ⟨fun q => absurd q (by unfold isCaskW; omega), rfl⟩⟩
          · refine o_iconst (v := nI 1) dX9_isCaskWord_71 (by decide) ?_
            refine o_goto (tgt := 76) dX9_isCaskWord_72 (by decide) ?_
            exact o_zret dX9_isCaskWord_76 rfl (by decide) ⟨rfl, Or.inl ⟨⟨by omega, by omega, by omega, by omega, by omega⟩, rfl⟩⟩

set_option maxHeartbeats 4000000 in
set_option maxRecDepth 100000 in
theorem c_isStandsWord {I : sm_I} {T : TX} (hT : MT I T) (h60 : T.1 ≤ 60) (hT2 : ∀ j, j < T.1 → T.2 j < 256) {s : Nat} (hs1 : s ≤ T.1) (hs : I 106 11 = nI s) (hte : I 106 12 = nI (te T s)) : E0 1 mX9_isStandsWord [.ref 106] I (fun r I' => I' = I ∧ ((isStandsW T s ∧ r = some (.int (nI 1))) ∨ (¬ isStandsW T s ∧ r = some (.int (nI 0))))) := by
  have h1 := te_le hs1
  have hge := te_ge hs1
  refine E0.of (by decide) (by simp [Value.category]) (Nat.le_of_ble_eq_true rfl) (fun ζ => ?_)
  refine o_aload_n dX9_isStandsWord_0 rfl rfl ?_
  refine o_getI (v := nI (te T s)) dX9_isStandsWord_1 fgX9_50 sh_106 rfl hte ?_
  refine o_aload_n dX9_isStandsWord_4 rfl rfl ?_
  refine o_getI (v := nI s) dX9_isStandsWord_5 fgX9_53 sh_106 rfl hs ?_
  refine o_isubN dX9_isStandsWord_8 (by omega) ?_
  refine o_bipush (v := nI 6) dX9_isStandsWord_9 (by decide) ?_
  refine o_icmpN_ne (tgt := 106) dX9_isStandsWord_11 (by decide) (by omega) (by omega) (fun b_8 => ?_) (fun b_8 => ?_)
  · refine o_iconst (v := nI 0) dX9_isStandsWord_106 (by decide) ?_
    exact o_zret dX9_isStandsWord_107 rfl (by decide) ⟨rfl, Or.inr ⟨fun q => absurd q (by unfold isStandsW; omega), rfl⟩⟩
  · have hx0 := hT2 s (by omega)
    have hx1 := hT2 (s + 1) (by omega)
    have hx2 := hT2 (s + 2) (by omega)
    have hx3 := hT2 (s + 3) (by omega)
    have hx4 := hT2 (s + 4) (by omega)
    have hx5 := hT2 (s + 5) (by omega)
    refine o_aload_n dX9_isStandsWord_14 rfl rfl ?_
    refine o_aload_n dX9_isStandsWord_15 rfl rfl ?_
    refine o_getI (v := nI s) dX9_isStandsWord_16 fgX9_53 sh_106 rfl hs ?_
    refine o_callVp (v := .int (nI (T.2 s))) (as := [.int (nI s)]) (st := []) dX9_isStandsWord_19 (c_atN hT h60 hT2 (by omega)) rfl meX9_at imX9_at seX9_at mlX9_56 sh_106 rfl rfl (by omega) (by decide) (Nat.le_of_ble_eq_true rfl) ?_
    refine o_bipush (v := nI 115) dX9_isStandsWord_22 (by decide) ?_
    refine o_icmpN_ne (tgt := 106) dX9_isStandsWord_24 (by decide) (by omega) (by omega) (fun b_9 => ?_) (fun b_9 => ?_)
    · refine o_iconst (v := nI 0) dX9_isStandsWord_106 (by decide) ?_
      exact o_zret dX9_isStandsWord_107 rfl (by decide) ⟨rfl, Or.inr ⟨fun q => absurd q (by unfold isStandsW; omega), rfl⟩⟩
    · refine o_aload_n dX9_isStandsWord_27 rfl rfl ?_
      refine o_aload_n dX9_isStandsWord_28 rfl rfl ?_
      refine o_getI (v := nI s) dX9_isStandsWord_29 fgX9_53 sh_106 rfl hs ?_
      refine o_iconst (v := nI 1) dX9_isStandsWord_32 (by decide) ?_
      refine o_iaddN dX9_isStandsWord_33 ?_
      refine o_callVp (v := .int (nI (T.2 (s + 1)))) (as := [.int (nI (s + 1))]) (st := []) dX9_isStandsWord_34 (c_atN hT h60 hT2 (by omega)) rfl meX9_at imX9_at seX9_at mlX9_56 sh_106 rfl rfl (by omega) (by decide) (Nat.le_of_ble_eq_true rfl) ?_
      refine o_bipush (v := nI 116) dX9_isStandsWord_37 (by decide) ?_
      refine o_icmpN_ne (tgt := 106) dX9_isStandsWord_39 (by decide) (by omega) (by omega) (fun b_10 => ?_) (fun b_10 => ?_)
      · refine o_iconst (v := nI 0) dX9_isStandsWord_106 (by decide) ?_
        exact o_zret dX9_isStandsWord_107 rfl (by decide) ⟨rfl, Or.inr ⟨fun q => absurd q (by unfold isStandsW; omega), rfl⟩⟩
      · refine o_aload_n dX9_isStandsWord_42 rfl rfl ?_
        refine o_aload_n dX9_isStandsWord_43 rfl rfl ?_
        refine o_getI (v := nI s) dX9_isStandsWord_44 fgX9_53 sh_106 rfl hs ?_
        refine o_iconst (v := nI 2) dX9_isStandsWord_47 (by decide) ?_
        refine o_iaddN dX9_isStandsWord_48 ?_
        refine o_callVp (v := .int (nI (T.2 (s + 2)))) (as := [.int (nI (s + 2))]) (st := []) dX9_isStandsWord_49 (c_atN hT h60 hT2 (by omega)) rfl meX9_at imX9_at seX9_at mlX9_56 sh_106 rfl rfl (by omega) (by decide) (Nat.le_of_ble_eq_true rfl) ?_
        refine o_bipush (v := nI 97) dX9_isStandsWord_52 (by decide) ?_
        refine o_icmpN_ne (tgt := 106) dX9_isStandsWord_54 (by decide) (by omega) (by omega) (fun b_11 => ?_) (fun b_11 => ?_)
        · refine o_iconst (v := nI 0) dX9_isStandsWord_106 (by decide) ?_
          exact o_zret dX9_isStandsWord_107 rfl (by decide) ⟨rfl, Or.inr ⟨fun q => absurd q (by unfold isStandsW; omega), rfl⟩⟩
        · refine o_aload_n dX9_isStandsWord_57 rfl rfl ?_
          refine o_aload_n dX9_isStandsWord_58 rfl rfl ?_
          refine o_getI (v := nI s) dX9_isStandsWord_59 fgX9_53 sh_106 rfl hs ?_
          refine o_iconst (v := nI 3) dX9_isStandsWord_62 (by decide) ?_
          refine o_iaddN dX9_isStandsWord_63 ?_
          refine o_callVp (v := .int (nI (T.2 (s + 3)))) (as := [.int (nI (s + 3))]) (st := []) dX9_isStandsWord_64 (c_atN hT h60 hT2 (by omega)) rfl meX9_at imX9_at seX9_at mlX9_56 sh_106 rfl rfl (by omega) (by decide) (Nat.le_of_ble_eq_true rfl) ?_
          refine o_bipush (v := nI 110) dX9_isStandsWord_67 (by decide) ?_
          refine o_icmpN_ne (tgt := 106) dX9_isStandsWord_69 (by decide) (by omega) (by omega) (fun b_12 => ?_) (fun b_12 => ?_)
          · refine o_iconst (v := nI 0) dX9_isStandsWord_106 (by decide) ?_
            exact o_zret dX9_isStandsWord_107 rfl (by decide) ⟨rfl, Or.inr ⟨fun q => absurd q (by unfold isStandsW; omega), rfl⟩⟩
          · refine o_aload_n dX9_isStandsWord_72 rfl rfl ?_
            refine o_aload_n dX9_isStandsWord_73 rfl rfl ?_
            refine o_getI (v := nI s) dX9_isStandsWord_74 fgX9_53 sh_106 rfl hs ?_
            refine o_iconst (v := nI 4) dX9_isStandsWord_77 (by decide) ?_
            refine o_iaddN dX9_isStandsWord_78 ?_
            refine o_callVp (v := .int (nI (T.2 (s + 4)))) (as := [.int (nI (s + 4))]) (st := []) dX9_isStandsWord_79 (c_atN hT h60 hT2 (by omega)) rfl meX9_at imX9_at seX9_at mlX9_56 sh_106 rfl rfl (by omega) (by decide) (Nat.le_of_ble_eq_true rfl) ?_
            refine o_bipush (v := nI 100) dX9_isStandsWord_82 (by decide) ?_
            refine o_icmpN_ne (tgt := 106) dX9_isStandsWord_84 (by decide) (by omega) (by omega) (fun b_13 => ?_) (fun b_13 => ?_)
            · refine o_iconst (v := nI 0) dX9_isStandsWord_106 (by decide) ?_
              exact o_zret dX9_isStandsWord_107 rfl (by decide) ⟨rfl, Or.inr ⟨fun q => absurd q (by unfold isStandsW; omega), rfl⟩⟩
            · refine o_aload_n dX9_isStandsWord_87 rfl rfl ?_
              refine o_aload_n dX9_isStandsWord_88 rfl rfl ?_
              refine o_getI (v := nI s) dX9_isStandsWord_89 fgX9_53 sh_106 rfl hs ?_
              refine o_iconst (v := nI 5) dX9_isStandsWord_92 (by decide) ?_
              refine o_iaddN dX9_isStandsWord_93 ?_
              refine o_callVp (v := .int (nI (T.2 (s + 5)))) (as := [.int (nI (s + 5))]) (st := []) dX9_isStandsWord_94 (c_atN hT h60 hT2 (by omega)) rfl meX9_at imX9_at seX9_at mlX9_56 sh_106 rfl rfl (by omega) (by decide) (Nat.le_of_ble_eq_true rfl) ?_
              refine o_bipush (v := nI 115) dX9_isStandsWord_97 (by decide) ?_
              refine o_icmpN_ne (tgt := 106) dX9_isStandsWord_99 (by decide) (by omega) (by omega) (fun b_14 => ?_) (fun b_14 => ?_)
              · refine o_iconst (v := nI 0) dX9_isStandsWord_106 (by decide) ?_
                exact o_zret dX9_isStandsWord_107 rfl (by decide) ⟨rfl, Or.inr ⟨fun q => absurd q (by unfold isStandsW; omega), rfl⟩⟩
              · refine o_iconst (v := nI 1) dX9_isStandsWord_102 (by decide) ?_
                refine o_goto (tgt := 107) dX9_isStandsWord_103 (by decide) ?_
                exact o_zret dX9_isStandsWord_107 rfl (by decide) ⟨rfl, Or.inl ⟨⟨by omega, by omega, by omega, by omega, by omega, by omega, by omega⟩, rfl⟩⟩

theorem lp_fig {ζ : sm_Z} {d : Nat} (hd1 : 1 ≤ d) {I0 : sm_I} {Q : Option Value → sm_I → Prop} {T : TX} (h60 : T.1 ≤ 60) (hT2 : ∀ j, j < T.1 → T.2 j < 256) {s0 : Nat} : ∀ (f p a : Nat) (I : sm_I), T.1 ≤ p + f → p ≤ T.1 → a ≤ 999 → MT I T → I 106 12 = nI p → I 106 14 = nI a → I 106 11 = nI s0 → frL I0 I → (∀ I' : sm_I, MT I' T → I' 106 12 = nI (tx_run T isD f p) → I' 106 14 = nI (nvl T f p a) → I' 106 11 = nI s0 → frL I0 I' → X0 ζ d mX9_takesFigures 75 [some (.ref 106)] [] I' Q) → X0 ζ d mX9_takesFigures 5 [some (.ref 106)] [] I Q := by
  intro f
  induction f with
  | zero =>
    intro p a I h1 h2 h3 hT hp ha hs0 hF hx
    rw [tx_run, nvl] at hx
    refine o_aload_n dX9_takesFigures_5 rfl rfl ?_
    refine o_aload_n dX9_takesFigures_6 rfl rfl ?_
    refine o_getI (v := nI p) dX9_takesFigures_7 fgX9_50 sh_106 rfl hp ?_
    refine o_callVp (v := .int (-1)) (as := [.int (nI p)]) (st := []) dX9_takesFigures_10 (c_atE hT h60 (by omega) (by omega)) rfl meX9_at imX9_at seX9_at mlX9_56 sh_106 rfl rfl (by omega) (by decide) (Nat.le_of_ble_eq_true rfl) ?_
    refine o_bipush (v := nI 48) dX9_takesFigures_13 (by decide) ?_
    refine o_bipush (v := nI 57) dX9_takesFigures_15 (by decide) ?_
    refine o_callSp (v := .int (nI 0)) (as := [.int (-1), .int (nI 48), .int (nI 57)]) (st := []) dX9_takesFigures_17 (c_inN _ (by decide)) rfl meX9_in ssX9_in mlX9_43 (by omega) (by decide) (Nat.le_of_ble_eq_true rfl) ?_
    refine o_ifN_eq (tgt := 75) dX9_takesFigures_20 (by decide) (by omega) (fun b_19 => ?_) (fun b_19 => absurd b_19 (by omega))
    exact hx I hT hp ha hs0 hF
  | succ f ih =>
    intro p a I h1 h2 h3 hT hp ha hs0 hF hx
    rcases Nat.lt_or_ge p T.1 with hlt | hge
    · have hx2 := hT2 p hlt
      by_cases hd : isD (T.2 p) = true
      · have hdd := isD_t.mp hd
        refine o_aload_n dX9_takesFigures_5 rfl rfl ?_
        refine o_aload_n dX9_takesFigures_6 rfl rfl ?_
        refine o_getI (v := nI p) dX9_takesFigures_7 fgX9_50 sh_106 rfl hp ?_
        refine o_callVp (v := .int (nI (T.2 p))) (as := [.int (nI p)]) (st := []) dX9_takesFigures_10 (c_atN hT h60 hT2 hlt) rfl meX9_at imX9_at seX9_at mlX9_56 sh_106 rfl rfl (by omega) (by decide) (Nat.le_of_ble_eq_true rfl) ?_
        refine o_bipush (v := nI 48) dX9_takesFigures_13 (by decide) ?_
        refine o_bipush (v := nI 57) dX9_takesFigures_15 (by decide) ?_
        refine o_callSp (v := .int (nI 1)) (as := [.int (nI (T.2 p)), .int (nI 48), .int (nI 57)]) (st := []) dX9_takesFigures_17 (c_inY _ (nI_le (by omega) (by omega)) (nI_le (by omega) (by omega))) rfl meX9_in ssX9_in mlX9_43 (by omega) (by decide) (Nat.le_of_ble_eq_true rfl) ?_
        refine o_ifN_eq (tgt := 75) dX9_takesFigures_20 (by decide) (by omega) (fun b_15 => absurd b_15 (by omega)) (fun b_15 => ?_)
        refine o_aload_n dX9_takesFigures_23 rfl rfl ?_
        refine o_aload_n dX9_takesFigures_24 rfl rfl ?_
        refine o_getI (v := nI a) dX9_takesFigures_25 fgX9_60 sh_106 rfl ha ?_
        refine o_bipush (v := nI 99) dX9_takesFigures_28 (by decide) ?_
        refine o_icmpN_le (tgt := 40) dX9_takesFigures_30 (by decide) (by omega) (by omega) (fun b_16 => ?_) (fun b_16 => ?_)
        · refine o_bipush (v := nI 10) dX9_takesFigures_40 (by decide) ?_
          refine o_aload_n dX9_takesFigures_42 rfl rfl ?_
          refine o_getI (v := nI a) dX9_takesFigures_43 fgX9_60 sh_106 rfl ha ?_
          refine o_imulN dX9_takesFigures_46 ?_
          refine o_aload_n dX9_takesFigures_47 rfl rfl ?_
          refine o_aload_n dX9_takesFigures_48 rfl rfl ?_
          refine o_getI (v := nI p) dX9_takesFigures_49 fgX9_50 sh_106 rfl hp ?_
          refine o_callVp (v := .int (nI (T.2 p))) (as := [.int (nI p)]) (st := [.int (nI (10 * a)), .ref 106]) dX9_takesFigures_52 (c_atN hT h60 hT2 hlt) rfl meX9_at imX9_at seX9_at mlX9_56 sh_106 rfl rfl (by omega) (by decide) (Nat.le_of_ble_eq_true rfl) ?_
          refine o_iaddN dX9_takesFigures_55 ?_
          refine o_bipush (v := nI 48) dX9_takesFigures_56 (by decide) ?_
          refine o_isubN dX9_takesFigures_58 (by omega) ?_
          refine o_putI dX9_takesFigures_59 flX9_60 sh_106 rfl ?_
          refine o_aload_n dX9_takesFigures_62 rfl rfl ?_
          refine o_dup dX9_takesFigures_63 rfl ?_
          refine o_getI (v := nI p) dX9_takesFigures_64 fgX9_50 sh_106 rfl ((up2_x (by omega)).trans hp) ?_
          refine o_iconst (v := nI 1) dX9_takesFigures_67 (by decide) ?_
          refine o_iaddN dX9_takesFigures_68 ?_
          refine o_putI dX9_takesFigures_69 flX9_50 sh_106 rfl ?_
          refine o_goto (tgt := 5) dX9_takesFigures_72 (by decide) ?_
          refine ih (p + 1) ((((10 * a) + (T.2 p)) - 48)) (up2 (up2 I 106 14 (nI (((10 * a) + (T.2 p)) - 48))) 106 12 (nI (p + 1))) (by omega) (by omega) (by omega) ((hT.frL (frL.up (by omega))).frL (frL.up (by omega))) up2_s ((up2_x (by omega)).trans up2_s) ((up2_x (by omega)).trans ((up2_x (by omega)).trans hs0)) ((hF.trans (frL.up (by omega))).trans (frL.up (by omega))) (fun I' g1 g2 g3 g4 g5 => ?_)
          rw [tx_run_step hlt hd, nvl, if_pos ⟨hlt, hd⟩, if_neg (by omega)] at hx
          exact hx I' g1 g2 g3 g4 g5
        · refine o_aload_n dX9_takesFigures_33 rfl rfl ?_
          refine o_getI (v := nI a) dX9_takesFigures_34 fgX9_60 sh_106 rfl ha ?_
          refine o_goto (tgt := 59) dX9_takesFigures_37 (by decide) ?_
          refine o_putI dX9_takesFigures_59 flX9_60 sh_106 rfl ?_
          refine o_aload_n dX9_takesFigures_62 rfl rfl ?_
          refine o_dup dX9_takesFigures_63 rfl ?_
          refine o_getI (v := nI p) dX9_takesFigures_64 fgX9_50 sh_106 rfl ((up2_x (by omega)).trans hp) ?_
          refine o_iconst (v := nI 1) dX9_takesFigures_67 (by decide) ?_
          refine o_iaddN dX9_takesFigures_68 ?_
          refine o_putI dX9_takesFigures_69 flX9_50 sh_106 rfl ?_
          refine o_goto (tgt := 5) dX9_takesFigures_72 (by decide) ?_
          refine ih (p + 1) (a) (up2 (up2 I 106 14 (nI a)) 106 12 (nI (p + 1))) (by omega) (by omega) (by omega) ((hT.frL (frL.up (by omega))).frL (frL.up (by omega))) up2_s ((up2_x (by omega)).trans up2_s) ((up2_x (by omega)).trans ((up2_x (by omega)).trans hs0)) ((hF.trans (frL.up (by omega))).trans (frL.up (by omega))) (fun I' g1 g2 g3 g4 g5 => ?_)
          rw [tx_run_step hlt hd, nvl, if_pos ⟨hlt, hd⟩, if_pos (by omega)] at hx
          exact hx I' g1 g2 g3 g4 g5
      · have hdd : ¬ (48 ≤ T.2 p ∧ T.2 p ≤ 57) := fun z => hd (isD_t.mpr z)
        refine o_aload_n dX9_takesFigures_5 rfl rfl ?_
        refine o_aload_n dX9_takesFigures_6 rfl rfl ?_
        refine o_getI (v := nI p) dX9_takesFigures_7 fgX9_50 sh_106 rfl hp ?_
        refine o_callVp (v := .int (nI (T.2 p))) (as := [.int (nI p)]) (st := []) dX9_takesFigures_10 (c_atN hT h60 hT2 hlt) rfl meX9_at imX9_at seX9_at mlX9_56 sh_106 rfl rfl (by omega) (by decide) (Nat.le_of_ble_eq_true rfl) ?_
        refine o_bipush (v := nI 48) dX9_takesFigures_13 (by decide) ?_
        refine o_bipush (v := nI 57) dX9_takesFigures_15 (by decide) ?_
        refine o_callSp (v := .int (nI 0)) (as := [.int (nI (T.2 p)), .int (nI 48), .int (nI 57)]) (st := []) dX9_takesFigures_17 (c_inN _ (in_no (by omega) (by omega) (by omega) (by omega))) rfl meX9_in ssX9_in mlX9_43 (by omega) (by decide) (Nat.le_of_ble_eq_true rfl) ?_
        refine o_ifN_eq (tgt := 75) dX9_takesFigures_20 (by decide) (by omega) (fun b_17 => ?_) (fun b_17 => absurd b_17 (by omega))
        rw [tx_run_stop (fun z => hd z.2), nvl, if_neg (fun z => hd z.2)] at hx
        exact hx I hT hp ha hs0 hF
    · refine o_aload_n dX9_takesFigures_5 rfl rfl ?_
      refine o_aload_n dX9_takesFigures_6 rfl rfl ?_
      refine o_getI (v := nI p) dX9_takesFigures_7 fgX9_50 sh_106 rfl hp ?_
      refine o_callVp (v := .int (-1)) (as := [.int (nI p)]) (st := []) dX9_takesFigures_10 (c_atE hT h60 (by omega) (by omega)) rfl meX9_at imX9_at seX9_at mlX9_56 sh_106 rfl rfl (by omega) (by decide) (Nat.le_of_ble_eq_true rfl) ?_
      refine o_bipush (v := nI 48) dX9_takesFigures_13 (by decide) ?_
      refine o_bipush (v := nI 57) dX9_takesFigures_15 (by decide) ?_
      refine o_callSp (v := .int (nI 0)) (as := [.int (-1), .int (nI 48), .int (nI 57)]) (st := []) dX9_takesFigures_17 (c_inN _ (by decide)) rfl meX9_in ssX9_in mlX9_43 (by omega) (by decide) (Nat.le_of_ble_eq_true rfl) ?_
      refine o_ifN_eq (tgt := 75) dX9_takesFigures_20 (by decide) (by omega) (fun b_18 => ?_) (fun b_18 => absurd b_18 (by omega))
      rw [tx_run_stop (fun z => absurd z.1 (by omega)), nvl, if_neg (fun z => absurd z.1 (by omega))] at hx
      exact hx I hT hp ha hs0 hF

/-- the token at s stands read -/
def LX (I : sm_I) (T : TX) (s : Nat) : Prop := I 106 11 = nI s ∧ I 106 12 = nI (te T s) ∧ I 106 13 = nI (tk T s) ∧ (tk T s = 3 → I 106 14 = nI (tv T s))

set_option maxHeartbeats 4000000 in
set_option maxRecDepth 100000 in
theorem c_takesFigures {I : sm_I} {T : TX} (hT : MT I T) (h60 : T.1 ≤ 60) (hT2 : ∀ j, j < T.1 → T.2 j < 256) {s : Nat} (hlt : s < T.1) (hd : isD (T.2 s) = true) (hfr : I 106 11 = nI s) (hto : I 106 12 = nI s) : E0 1 mX9_takesFigures [.ref 106] I (fun r I' => r = none ∧ LX I' T s ∧ frL I I') := by
  refine E0.of (by decide) (by simp [Value.category]) (Nat.le_of_ble_eq_true rfl) (fun ζ => ?_)
  refine o_aload_n dX9_takesFigures_0 rfl rfl ?_
  refine o_iconst (v := nI 0) dX9_takesFigures_1 (by decide) ?_
  refine o_putI dX9_takesFigures_2 flX9_60 sh_106 rfl ?_
  refine lp_fig (by omega) h60 hT2 (s0 := s) 60 s 0 _ (by omega) (by omega) (by omega) (hT.frL (frL.up (by omega))) ((up2_x (by omega)).trans hto) up2_s ((up2_x (by omega)).trans hfr) (frL.up (by omega)) (fun I1 g1 g2 g3 g4 g5 => ?_)
  have hte : te T s = tx_run T isD 60 s := by unfold te; rw [if_pos hlt, if_pos hd]
  have hge := tx_run_ge T isD 60 s
  have hle := tx_run_le T isD 60 s (by omega)
  have hx2 := hT2 s hlt
  refine o_aload_n dX9_takesFigures_75 rfl rfl ?_
  refine o_aload_n dX9_takesFigures_76 rfl rfl ?_
  refine o_getI (v := nI (tx_run T isD 60 s)) dX9_takesFigures_77 fgX9_50 sh_106 rfl g2 ?_
  refine o_aload_n dX9_takesFigures_80 rfl rfl ?_
  refine o_getI (v := nI s) dX9_takesFigures_81 fgX9_53 sh_106 rfl g4 ?_
  refine o_isubN dX9_takesFigures_84 (by omega) ?_
  refine o_iconst (v := nI 2) dX9_takesFigures_85 (by decide) ?_
  refine o_icmpN_gt (tgt := 115) dX9_takesFigures_86 (by decide) (by omega) (by omega) (fun b_20 => ?_) (fun b_20 => ?_)
  · refine o_iconst (v := nI 5) dX9_takesFigures_115 (by decide) ?_
    refine o_goto (tgt := 120) dX9_takesFigures_116 (by decide) ?_
    refine o_putI dX9_takesFigures_120 flX9_63 sh_106 rfl ?_
    exact o_vret dX9_takesFigures_123 rfl ⟨rfl, ⟨(up2_x (by omega)).trans g4, (up2_x (by omega)).trans (by rw [hte]; exact g2), up2_s.trans (congrArg nI (by rw [tk, if_pos hlt, if_pos hd, hte, if_pos (Or.inl (by omega))])).symm, fun _ => (up2_x (by omega)).trans g3⟩, g5.trans (frL.up (by omega))⟩
  · refine o_aload_n dX9_takesFigures_89 rfl rfl ?_
    refine o_getI (v := nI (tx_run T isD 60 s)) dX9_takesFigures_90 fgX9_50 sh_106 rfl g2 ?_
    refine o_aload_n dX9_takesFigures_93 rfl rfl ?_
    refine o_getI (v := nI s) dX9_takesFigures_94 fgX9_53 sh_106 rfl g4 ?_
    refine o_isubN dX9_takesFigures_97 (by omega) ?_
    refine o_iconst (v := nI 2) dX9_takesFigures_98 (by decide) ?_
    refine o_icmpN_ne (tgt := 119) dX9_takesFigures_99 (by decide) (by omega) (by omega) (fun b_21 => ?_) (fun b_21 => ?_)
    · refine o_iconst (v := nI 3) dX9_takesFigures_119 (by decide) ?_
      refine o_putI dX9_takesFigures_120 flX9_63 sh_106 rfl ?_
      exact o_vret dX9_takesFigures_123 rfl ⟨rfl, ⟨(up2_x (by omega)).trans g4, (up2_x (by omega)).trans (by rw [hte]; exact g2), up2_s.trans (congrArg nI (by rw [tk, if_pos hlt, if_pos hd, hte, if_neg (by omega)])).symm, fun _ => (up2_x (by omega)).trans g3⟩, g5.trans (frL.up (by omega))⟩
    · refine o_aload_n dX9_takesFigures_102 rfl rfl ?_
      refine o_aload_n dX9_takesFigures_103 rfl rfl ?_
      refine o_getI (v := nI s) dX9_takesFigures_104 fgX9_53 sh_106 rfl g4 ?_
      refine o_callVp (v := .int (nI (T.2 s))) (as := [.int (nI s)]) (st := [.ref 106]) dX9_takesFigures_107 (c_atN g1 h60 hT2 hlt) rfl meX9_at imX9_at seX9_at mlX9_56 sh_106 rfl rfl (by omega) (by decide) (Nat.le_of_ble_eq_true rfl) ?_
      refine o_bipush (v := nI 48) dX9_takesFigures_110 (by decide) ?_
      refine o_icmpN_ne (tgt := 119) dX9_takesFigures_112 (by decide) (by omega) (by omega) (fun b_22 => ?_) (fun b_22 => ?_)
      · refine o_iconst (v := nI 3) dX9_takesFigures_119 (by decide) ?_
        refine o_putI dX9_takesFigures_120 flX9_63 sh_106 rfl ?_
        exact o_vret dX9_takesFigures_123 rfl ⟨rfl, ⟨(up2_x (by omega)).trans g4, (up2_x (by omega)).trans (by rw [hte]; exact g2), up2_s.trans (congrArg nI (by rw [tk, if_pos hlt, if_pos hd, hte, if_neg (by omega)])).symm, fun _ => (up2_x (by omega)).trans g3⟩, g5.trans (frL.up (by omega))⟩
      · refine o_iconst (v := nI 5) dX9_takesFigures_115 (by decide) ?_
        refine o_goto (tgt := 120) dX9_takesFigures_116 (by decide) ?_
        refine o_putI dX9_takesFigures_120 flX9_63 sh_106 rfl ?_
        exact o_vret dX9_takesFigures_123 rfl ⟨rfl, ⟨(up2_x (by omega)).trans g4, (up2_x (by omega)).trans (by rw [hte]; exact g2), up2_s.trans (congrArg nI (by rw [tk, if_pos hlt, if_pos hd, hte, if_pos (Or.inr ⟨by omega, by omega⟩)])).symm, fun _ => (up2_x (by omega)).trans g3⟩, g5.trans (frL.up (by omega))⟩

theorem tk_c {T : TX} {s : Nat} (hlt : s < T.1) (hd : ¬ isD (T.2 s) = true) (hl : isL (T.2 s) = true) (h : isCaskW T s) : tk T s = 1 := by
  unfold isCaskW at h
  rw [tk, if_pos hlt, if_neg hd, if_pos hl, if_pos h]
theorem tk_s {T : TX} {s : Nat} (hlt : s < T.1) (hd : ¬ isD (T.2 s) = true) (hl : isL (T.2 s) = true) (h : ¬ isCaskW T s) (h2 : isStandsW T s) : tk T s = 2 := by
  unfold isCaskW at h
  unfold isStandsW at h2
  rw [tk, if_pos hlt, if_neg hd, if_pos hl, if_neg h, if_pos h2]
theorem tk_n {T : TX} {s : Nat} (hlt : s < T.1) (hd : ¬ isD (T.2 s) = true) (hl : isL (T.2 s) = true) (h : ¬ isCaskW T s) (h2 : ¬ isStandsW T s) : tk T s = 5 := by
  unfold isCaskW at h
  unfold isStandsW at h2
  rw [tk, if_pos hlt, if_neg hd, if_pos hl, if_neg h, if_neg h2]

theorem lp_blank {ζ : sm_Z} {d : Nat} (hd1 : 1 ≤ d) {I0 : sm_I} {Q : Option Value → sm_I → Prop} {T : TX} (h60 : T.1 ≤ 60) (hT2 : ∀ j, j < T.1 → T.2 j < 256) : ∀ (f p : Nat) (I : sm_I), T.1 ≤ p + f → p ≤ T.1 → MT I T → I 106 11 = nI p → frL I0 I → (∀ I' : sm_I, MT I' T → I' 106 11 = nI (tx_run T isB f p) → frL I0 I' → X0 ζ d mX9_steps 34 [some (.ref 106)] [] I' Q) → X0 ζ d mX9_steps 8 [some (.ref 106)] [] I Q := by
  intro f
  induction f with
  | zero =>
    intro p I h1 h2 hT hp hF hx
    rw [tx_run] at hx
    refine o_aload_n dX9_steps_8 rfl rfl ?_
    refine o_aload_n dX9_steps_9 rfl rfl ?_
    refine o_getI (v := nI p) dX9_steps_10 fgX9_53 sh_106 rfl hp ?_
    refine o_callVp (v := .int (-1)) (as := [.int (nI p)]) (st := []) dX9_steps_13 (c_atE hT h60 (by omega) (by omega)) rfl meX9_at imX9_at seX9_at mlX9_56 sh_106 rfl rfl (by omega) (by decide) (Nat.le_of_ble_eq_true rfl) ?_
    refine o_bipush (v := nI 32) dX9_steps_16 (by decide) ?_
    refine o_icmp_ne (tgt := 34) dX9_steps_18 (by decide) (fun b_26 => ?_) (fun b_26 => absurd b_26 (by decide))
    exact hx I hT hp hF
  | succ f ih =>
    intro p I h1 h2 hT hp hF hx
    rcases Nat.lt_or_ge p T.1 with hlt | hge
    · have hx2 := hT2 p hlt
      by_cases hb : isB (T.2 p) = true
      · have hbb := isB_t.mp hb
        refine o_aload_n dX9_steps_8 rfl rfl ?_
        refine o_aload_n dX9_steps_9 rfl rfl ?_
        refine o_getI (v := nI p) dX9_steps_10 fgX9_53 sh_106 rfl hp ?_
        refine o_callVp (v := .int (nI (T.2 p))) (as := [.int (nI p)]) (st := []) dX9_steps_13 (c_atN hT h60 hT2 hlt) rfl meX9_at imX9_at seX9_at mlX9_56 sh_106 rfl rfl (by omega) (by decide) (Nat.le_of_ble_eq_true rfl) ?_
        refine o_bipush (v := nI 32) dX9_steps_16 (by decide) ?_
        refine o_icmpN_ne (tgt := 34) dX9_steps_18 (by decide) (by omega) (by omega) (fun b_23 => absurd b_23 (by omega)) (fun b_23 => ?_)
        refine o_aload_n dX9_steps_21 rfl rfl ?_
        refine o_dup dX9_steps_22 rfl ?_
        refine o_getI (v := nI p) dX9_steps_23 fgX9_53 sh_106 rfl hp ?_
        refine o_iconst (v := nI 1) dX9_steps_26 (by decide) ?_
        refine o_iaddN dX9_steps_27 ?_
        refine o_putI dX9_steps_28 flX9_53 sh_106 rfl ?_
        refine o_goto (tgt := 8) dX9_steps_31 (by decide) ?_
        refine ih (p + 1) (up2 I 106 11 (nI (p + 1))) (by omega) (by omega) (hT.frL (frL.up (by omega))) up2_s (hF.trans (frL.up (by omega))) (fun I' g1 g2 g3 => ?_)
        rw [tx_run_step hlt hb] at hx
        exact hx I' g1 g2 g3
      · have hbb : ¬ T.2 p = 32 := fun z => hb (isB_t.mpr z)
        refine o_aload_n dX9_steps_8 rfl rfl ?_
        refine o_aload_n dX9_steps_9 rfl rfl ?_
        refine o_getI (v := nI p) dX9_steps_10 fgX9_53 sh_106 rfl hp ?_
        refine o_callVp (v := .int (nI (T.2 p))) (as := [.int (nI p)]) (st := []) dX9_steps_13 (c_atN hT h60 hT2 hlt) rfl meX9_at imX9_at seX9_at mlX9_56 sh_106 rfl rfl (by omega) (by decide) (Nat.le_of_ble_eq_true rfl) ?_
        refine o_bipush (v := nI 32) dX9_steps_16 (by decide) ?_
        refine o_icmpN_ne (tgt := 34) dX9_steps_18 (by decide) (by omega) (by omega) (fun b_24 => ?_) (fun b_24 => absurd b_24 (by omega))
        rw [tx_run_stop (fun z => hb z.2)] at hx
        exact hx I hT hp hF
    · refine o_aload_n dX9_steps_8 rfl rfl ?_
      refine o_aload_n dX9_steps_9 rfl rfl ?_
      refine o_getI (v := nI p) dX9_steps_10 fgX9_53 sh_106 rfl hp ?_
      refine o_callVp (v := .int (-1)) (as := [.int (nI p)]) (st := []) dX9_steps_13 (c_atE hT h60 (by omega) (by omega)) rfl meX9_at imX9_at seX9_at mlX9_56 sh_106 rfl rfl (by omega) (by decide) (Nat.le_of_ble_eq_true rfl) ?_
      refine o_bipush (v := nI 32) dX9_steps_16 (by decide) ?_
      refine o_icmp_ne (tgt := 34) dX9_steps_18 (by decide) (fun b_25 => ?_) (fun b_25 => absurd b_25 (by decide))
      rw [tx_run_stop (fun z => absurd z.1 (by omega))] at hx
      exact hx I hT hp hF

theorem lp_letters {ζ : sm_Z} {d : Nat} (hd1 : 1 ≤ d) {I0 : sm_I} {Q : Option Value → sm_I → Prop} {T : TX} (h60 : T.1 ≤ 60) (hT2 : ∀ j, j < T.1 → T.2 j < 256) {s : Nat} : ∀ (f p : Nat) (I : sm_I), T.1 ≤ p + f → p ≤ T.1 → MT I T → I 106 12 = nI p → I 106 11 = nI s → frL I0 I → (∀ I' : sm_I, MT I' T → I' 106 12 = nI (tx_run T isL f p) → I' 106 11 = nI s → frL I0 I' → X0 ζ d mX9_steps 135 [some (.ref 106)] [] I' Q) → X0 ζ d mX9_steps 104 [some (.ref 106)] [] I Q := by
  intro f
  induction f with
  | zero =>
    intro p I h1 h2 hT hp hs hF hx
    rw [tx_run] at hx
    refine o_aload_n dX9_steps_104 rfl rfl ?_
    refine o_aload_n dX9_steps_105 rfl rfl ?_
    refine o_getI (v := nI p) dX9_steps_106 fgX9_50 sh_106 rfl hp ?_
    refine o_callVp (v := .int (-1)) (as := [.int (nI p)]) (st := []) dX9_steps_109 (c_atE hT h60 (by omega) (by omega)) rfl meX9_at imX9_at seX9_at mlX9_56 sh_106 rfl rfl (by omega) (by decide) (Nat.le_of_ble_eq_true rfl) ?_
    refine o_bipush (v := nI 97) dX9_steps_112 (by decide) ?_
    refine o_bipush (v := nI 122) dX9_steps_114 (by decide) ?_
    refine o_callSp (v := .int (nI 0)) (as := [.int (-1), .int (nI 97), .int (nI 122)]) (st := []) dX9_steps_116 (c_inN _ (by decide)) rfl meX9_in ssX9_in mlX9_43 (by omega) (by decide) (Nat.le_of_ble_eq_true rfl) ?_
    refine o_ifN_eq (tgt := 135) dX9_steps_119 (by decide) (by omega) (fun b_30 => ?_) (fun b_30 => absurd b_30 (by omega))
    exact hx I hT hp hs hF
  | succ f ih =>
    intro p I h1 h2 hT hp hs hF hx
    rcases Nat.lt_or_ge p T.1 with hlt | hge
    · have hx2 := hT2 p hlt
      by_cases hb : isL (T.2 p) = true
      · have hbb := isL_t.mp hb
        refine o_aload_n dX9_steps_104 rfl rfl ?_
        refine o_aload_n dX9_steps_105 rfl rfl ?_
        refine o_getI (v := nI p) dX9_steps_106 fgX9_50 sh_106 rfl hp ?_
        refine o_callVp (v := .int (nI (T.2 p))) (as := [.int (nI p)]) (st := []) dX9_steps_109 (c_atN hT h60 hT2 hlt) rfl meX9_at imX9_at seX9_at mlX9_56 sh_106 rfl rfl (by omega) (by decide) (Nat.le_of_ble_eq_true rfl) ?_
        refine o_bipush (v := nI 97) dX9_steps_112 (by decide) ?_
        refine o_bipush (v := nI 122) dX9_steps_114 (by decide) ?_
        refine o_callSp (v := .int (nI 1)) (as := [.int (nI (T.2 p)), .int (nI 97), .int (nI 122)]) (st := []) dX9_steps_116 (c_inY _ (nI_le (by omega) (by omega)) (nI_le (by omega) (by omega))) rfl meX9_in ssX9_in mlX9_43 (by omega) (by decide) (Nat.le_of_ble_eq_true rfl) ?_
        refine o_ifN_eq (tgt := 135) dX9_steps_119 (by decide) (by omega) (fun b_27 => absurd b_27 (by omega)) (fun b_27 => ?_)
        refine o_aload_n dX9_steps_122 rfl rfl ?_
        refine o_dup dX9_steps_123 rfl ?_
        refine o_getI (v := nI p) dX9_steps_124 fgX9_50 sh_106 rfl hp ?_
        refine o_iconst (v := nI 1) dX9_steps_127 (by decide) ?_
        refine o_iaddN dX9_steps_128 ?_
        refine o_putI dX9_steps_129 flX9_50 sh_106 rfl ?_
        refine o_goto (tgt := 104) dX9_steps_132 (by decide) ?_
        refine ih (p + 1) (up2 I 106 12 (nI (p + 1))) (by omega) (by omega) (hT.frL (frL.up (by omega))) up2_s ((up2_x (by omega)).trans hs) (hF.trans (frL.up (by omega))) (fun I' g1 g2 g3 g4 => ?_)
        rw [tx_run_step hlt hb] at hx
        exact hx I' g1 g2 g3 g4
      · have hbb : ¬ (97 ≤ T.2 p ∧ T.2 p ≤ 122) := fun z => hb (isL_t.mpr z)
        refine o_aload_n dX9_steps_104 rfl rfl ?_
        refine o_aload_n dX9_steps_105 rfl rfl ?_
        refine o_getI (v := nI p) dX9_steps_106 fgX9_50 sh_106 rfl hp ?_
        refine o_callVp (v := .int (nI (T.2 p))) (as := [.int (nI p)]) (st := []) dX9_steps_109 (c_atN hT h60 hT2 hlt) rfl meX9_at imX9_at seX9_at mlX9_56 sh_106 rfl rfl (by omega) (by decide) (Nat.le_of_ble_eq_true rfl) ?_
        refine o_bipush (v := nI 97) dX9_steps_112 (by decide) ?_
        refine o_bipush (v := nI 122) dX9_steps_114 (by decide) ?_
        refine o_callSp (v := .int (nI 0)) (as := [.int (nI (T.2 p)), .int (nI 97), .int (nI 122)]) (st := []) dX9_steps_116 (c_inN _ (in_no (by omega) (by omega) (by omega) (by omega))) rfl meX9_in ssX9_in mlX9_43 (by omega) (by decide) (Nat.le_of_ble_eq_true rfl) ?_
        refine o_ifN_eq (tgt := 135) dX9_steps_119 (by decide) (by omega) (fun b_28 => ?_) (fun b_28 => absurd b_28 (by omega))
        rw [tx_run_stop (fun z => hb z.2)] at hx
        exact hx I hT hp hs hF
    · refine o_aload_n dX9_steps_104 rfl rfl ?_
      refine o_aload_n dX9_steps_105 rfl rfl ?_
      refine o_getI (v := nI p) dX9_steps_106 fgX9_50 sh_106 rfl hp ?_
      refine o_callVp (v := .int (-1)) (as := [.int (nI p)]) (st := []) dX9_steps_109 (c_atE hT h60 (by omega) (by omega)) rfl meX9_at imX9_at seX9_at mlX9_56 sh_106 rfl rfl (by omega) (by decide) (Nat.le_of_ble_eq_true rfl) ?_
      refine o_bipush (v := nI 97) dX9_steps_112 (by decide) ?_
      refine o_bipush (v := nI 122) dX9_steps_114 (by decide) ?_
      refine o_callSp (v := .int (nI 0)) (as := [.int (-1), .int (nI 97), .int (nI 122)]) (st := []) dX9_steps_116 (c_inN _ (by decide)) rfl meX9_in ssX9_in mlX9_43 (by omega) (by decide) (Nat.le_of_ble_eq_true rfl) ?_
      refine o_ifN_eq (tgt := 135) dX9_steps_119 (by decide) (by omega) (fun b_29 => ?_) (fun b_29 => absurd b_29 (by omega))
      rw [tx_run_stop (fun z => absurd z.1 (by omega))] at hx
      exact hx I hT hp hs hF

set_option maxHeartbeats 4000000 in
set_option maxRecDepth 100000 in
theorem c_steps {I : sm_I} {T : TX} (hT : MT I T) (h60 : T.1 ≤ 60) (hT2 : ∀ j, j < T.1 → T.2 j < 256) {p : Nat} (hpl : p ≤ T.1) (hp : I 106 12 = nI p) : E0 2 mX9_steps [.ref 106] I (fun r I' => r = none ∧ LX I' T (nx T p) ∧ frL I I') := by
  refine E0.of (by decide) (by simp [Value.category]) (Nat.le_of_ble_eq_true rfl) (fun ζ => ?_)
  refine o_aload_n dX9_steps_0 rfl rfl ?_
  refine o_aload_n dX9_steps_1 rfl rfl ?_
  refine o_getI (v := nI p) dX9_steps_2 fgX9_50 sh_106 rfl hp ?_
  refine o_putI dX9_steps_5 flX9_53 sh_106 rfl ?_
  refine lp_blank (by omega) h60 hT2 60 p _ (by omega) (by omega) (hT.frL (frL.up (by omega))) up2_s (frL.up (by omega)) (fun I1 t1 f1 r1 => ?_)
  have f1 : I1 106 11 = nI (nx T p) := f1
  have hge := nx_ge T p
  have hle := nx_le (T := T) hpl
  generalize hs0 : nx T p = s at f1 hge hle
  rcases Nat.lt_or_ge s T.1 with hlt | hse
  · have hx2 := hT2 s hlt
    by_cases hd : isD (T.2 s) = true
    · have hdd := isD_t.mp hd
      refine o_aload_n dX9_steps_34 rfl rfl ?_
      refine o_aload_n dX9_steps_35 rfl rfl ?_
      refine o_getI (v := nI s) dX9_steps_36 fgX9_53 sh_106 rfl f1 ?_
      refine o_putI dX9_steps_39 flX9_50 sh_106 rfl ?_
      refine o_aload_n dX9_steps_42 rfl rfl ?_
      refine o_aload_n dX9_steps_43 rfl rfl ?_
      refine o_getI (v := nI s) dX9_steps_44 fgX9_50 sh_106 rfl up2_s ?_
      refine o_callVp (v := .int (nI (T.2 s))) (as := [.int (nI s)]) (st := []) dX9_steps_47 (c_atN (t1.frL (frL.up (by omega))) h60 hT2 hlt) rfl meX9_at imX9_at seX9_at mlX9_56 sh_106 rfl rfl (by omega) (by decide) (Nat.le_of_ble_eq_true rfl) ?_
      refine o_ifN_ge (tgt := 61) dX9_steps_50 (by decide) (by omega) ?_
      refine o_aload_n dX9_steps_61 rfl rfl ?_
      refine o_aload_n dX9_steps_62 rfl rfl ?_
      refine o_getI (v := nI s) dX9_steps_63 fgX9_50 sh_106 rfl up2_s ?_
      refine o_callVp (v := .int (nI (T.2 s))) (as := [.int (nI s)]) (st := []) dX9_steps_66 (c_atN (t1.frL (frL.up (by omega))) h60 hT2 hlt) rfl meX9_at imX9_at seX9_at mlX9_56 sh_106 rfl rfl (by omega) (by decide) (Nat.le_of_ble_eq_true rfl) ?_
      refine o_bipush (v := nI 48) dX9_steps_69 (by decide) ?_
      refine o_bipush (v := nI 57) dX9_steps_71 (by decide) ?_
      refine o_callSp (v := .int (nI 1)) (as := [.int (nI (T.2 s)), .int (nI 48), .int (nI 57)]) (st := []) dX9_steps_73 (c_inY _ (nI_le (by omega) (by omega)) (nI_le (by omega) (by omega))) rfl meX9_in ssX9_in mlX9_43 (by omega) (by decide) (Nat.le_of_ble_eq_true rfl) ?_
      refine o_ifN_eq (tgt := 86) dX9_steps_76 (by decide) (by omega) (fun b_33 => absurd b_33 (by omega)) (fun b_33 => ?_)
      refine o_aload_n dX9_steps_79 rfl rfl ?_
      refine o_callV (as := []) (st := []) dX9_steps_80 (c_takesFigures (t1.frL (frL.up (by omega))) h60 hT2 hlt hd ((up2_x (by omega)).trans f1) up2_s) rfl meX9_takesFigures imX9_takesFigures seX9_takesFigures mlX9_66 sh_106 rfl rfl (by omega) (by decide) (Nat.le_of_ble_eq_true rfl) ?_
      rintro _ I2 ⟨rfl, hX2, r2⟩
      refine o_goto (tgt := 197) dX9_steps_83 (by decide) ?_
      exact o_vret dX9_steps_197 rfl ⟨rfl, hX2, (r1.trans (frL.up (by omega))).trans r2⟩
    · have hdd : ¬ (48 ≤ T.2 s ∧ T.2 s ≤ 57) := fun z => hd (isD_t.mpr z)
      by_cases hl : isL (T.2 s) = true
      · have hll := isL_t.mp hl
        refine o_aload_n dX9_steps_34 rfl rfl ?_
        refine o_aload_n dX9_steps_35 rfl rfl ?_
        refine o_getI (v := nI s) dX9_steps_36 fgX9_53 sh_106 rfl f1 ?_
        refine o_putI dX9_steps_39 flX9_50 sh_106 rfl ?_
        refine o_aload_n dX9_steps_42 rfl rfl ?_
        refine o_aload_n dX9_steps_43 rfl rfl ?_
        refine o_getI (v := nI s) dX9_steps_44 fgX9_50 sh_106 rfl up2_s ?_
        refine o_callVp (v := .int (nI (T.2 s))) (as := [.int (nI s)]) (st := []) dX9_steps_47 (c_atN (t1.frL (frL.up (by omega))) h60 hT2 hlt) rfl meX9_at imX9_at seX9_at mlX9_56 sh_106 rfl rfl (by omega) (by decide) (Nat.le_of_ble_eq_true rfl) ?_
        refine o_ifN_ge (tgt := 61) dX9_steps_50 (by decide) (by omega) ?_
        refine o_aload_n dX9_steps_61 rfl rfl ?_
        refine o_aload_n dX9_steps_62 rfl rfl ?_
        refine o_getI (v := nI s) dX9_steps_63 fgX9_50 sh_106 rfl up2_s ?_
        refine o_callVp (v := .int (nI (T.2 s))) (as := [.int (nI s)]) (st := []) dX9_steps_66 (c_atN (t1.frL (frL.up (by omega))) h60 hT2 hlt) rfl meX9_at imX9_at seX9_at mlX9_56 sh_106 rfl rfl (by omega) (by decide) (Nat.le_of_ble_eq_true rfl) ?_
        refine o_bipush (v := nI 48) dX9_steps_69 (by decide) ?_
        refine o_bipush (v := nI 57) dX9_steps_71 (by decide) ?_
        refine o_callSp (v := .int (nI 0)) (as := [.int (nI (T.2 s)), .int (nI 48), .int (nI 57)]) (st := []) dX9_steps_73 (c_inN _ (in_no (by omega) (by omega) (by omega) (by omega))) rfl meX9_in ssX9_in mlX9_43 (by omega) (by decide) (Nat.le_of_ble_eq_true rfl) ?_
        refine o_ifN_eq (tgt := 86) dX9_steps_76 (by decide) (by omega) (fun b_35 => ?_) (fun b_35 => absurd b_35 (by omega))
        refine o_aload_n dX9_steps_86 rfl rfl ?_
        refine o_aload_n dX9_steps_87 rfl rfl ?_
        refine o_getI (v := nI s) dX9_steps_88 fgX9_50 sh_106 rfl up2_s ?_
        refine o_callVp (v := .int (nI (T.2 s))) (as := [.int (nI s)]) (st := []) dX9_steps_91 (c_atN (t1.frL (frL.up (by omega))) h60 hT2 hlt) rfl meX9_at imX9_at seX9_at mlX9_56 sh_106 rfl rfl (by omega) (by decide) (Nat.le_of_ble_eq_true rfl) ?_
        refine o_bipush (v := nI 97) dX9_steps_94 (by decide) ?_
        refine o_bipush (v := nI 122) dX9_steps_96 (by decide) ?_
        refine o_callSp (v := .int (nI 1)) (as := [.int (nI (T.2 s)), .int (nI 97), .int (nI 122)]) (st := []) dX9_steps_98 (c_inY _ (nI_le (by omega) (by omega)) (nI_le (by omega) (by omega))) rfl meX9_in ssX9_in mlX9_43 (by omega) (by decide) (Nat.le_of_ble_eq_true rfl) ?_
        refine o_ifN_eq (tgt := 165) dX9_steps_101 (by decide) (by omega) (fun b_36 => absurd b_36 (by omega)) (fun b_36 => ?_)
        refine lp_letters (by omega) h60 hT2 (s := s) 60 s _ (by omega) (by omega) (t1.frL (frL.up (by omega))) up2_s ((up2_x (by omega)).trans f1) (r1.trans (frL.up (by omega))) (fun I2 t2 f2 f3 r2 => ?_)
        have hte : te T s = tx_run T isL 60 s := by unfold te; rw [if_pos hlt, if_neg hd, if_pos hl]
        rw [← hte] at f2
        have htl := te_le (T := T) (Nat.le_of_lt hlt)
        refine o_aload_n dX9_steps_135 rfl rfl ?_
        refine o_aload_n dX9_steps_136 rfl rfl ?_
        refine o_callV (as := []) (st := [.ref 106]) dX9_steps_137 (c_isCaskWord t2 h60 hT2 (Nat.le_of_lt hlt) f3 f2) rfl meX9_isCaskWord imX9_isCaskWord seX9_isCaskWord mlX9_69 sh_106 rfl rfl (by omega) (by decide) (Nat.le_of_ble_eq_true rfl) ?_
        rintro _ _ ⟨rfl, ⟨w137, rfl⟩ | ⟨w137, rfl⟩⟩
        · refine o_ifN_eq (tgt := 147) dX9_steps_140 (by decide) (by omega) (fun b_37 => absurd b_37 (by omega)) (fun b_37 => ?_)
          refine o_iconst (v := nI 1) dX9_steps_143 (by decide) ?_
          refine o_goto (tgt := 159) dX9_steps_144 (by decide) ?_
          refine o_putI dX9_steps_159 flX9_63 sh_106 rfl ?_
          refine o_goto (tgt := 197) dX9_steps_162 (by decide) ?_
          exact o_vret dX9_steps_197 rfl ⟨rfl, ⟨(up2_x (by omega)).trans f3, (up2_x (by omega)).trans f2, up2_s.trans (congrArg nI (tk_c hlt hd hl w137).symm), fun z => by rw [tk_c hlt hd hl w137] at z; cases z⟩, r2.trans (frL.up (by omega))⟩
        · refine o_ifN_eq (tgt := 147) dX9_steps_140 (by decide) (by omega) (fun b_38 => ?_) (fun b_38 => absurd b_38 (by omega))
          refine o_aload_n dX9_steps_147 rfl rfl ?_
          refine o_callV (as := []) (st := [.ref 106]) dX9_steps_148 (c_isStandsWord t2 h60 hT2 (Nat.le_of_lt hlt) f3 f2) rfl meX9_isStandsWord imX9_isStandsWord seX9_isStandsWord mlX9_73 sh_106 rfl rfl (by omega) (by decide) (Nat.le_of_ble_eq_true rfl) ?_
          rintro _ _ ⟨rfl, ⟨w148, rfl⟩ | ⟨w148, rfl⟩⟩
          · refine o_ifN_eq (tgt := 158) dX9_steps_151 (by decide) (by omega) (fun b_39 => absurd b_39 (by omega)) (fun b_39 => ?_)
            refine o_iconst (v := nI 2) dX9_steps_154 (by decide) ?_
            refine o_goto (tgt := 159) dX9_steps_155 (by decide) ?_
            refine o_putI dX9_steps_159 flX9_63 sh_106 rfl ?_
            refine o_goto (tgt := 197) dX9_steps_162 (by decide) ?_
            exact o_vret dX9_steps_197 rfl ⟨rfl, ⟨(up2_x (by omega)).trans f3, (up2_x (by omega)).trans f2, up2_s.trans (congrArg nI (tk_s hlt hd hl w137 w148).symm), fun z => by rw [tk_s hlt hd hl w137 w148] at z; cases z⟩, r2.trans (frL.up (by omega))⟩
          · refine o_ifN_eq (tgt := 158) dX9_steps_151 (by decide) (by omega) (fun b_40 => ?_) (fun b_40 => absurd b_40 (by omega))
            refine o_iconst (v := nI 5) dX9_steps_158 (by decide) ?_
            refine o_putI dX9_steps_159 flX9_63 sh_106 rfl ?_
            refine o_goto (tgt := 197) dX9_steps_162 (by decide) ?_
            exact o_vret dX9_steps_197 rfl ⟨rfl, ⟨(up2_x (by omega)).trans f3, (up2_x (by omega)).trans f2, up2_s.trans (congrArg nI (tk_n hlt hd hl w137 w148).symm), fun z => by rw [tk_n hlt hd hl w137 w148] at z; cases z⟩, r2.trans (frL.up (by omega))⟩
      · have hll : ¬ (97 ≤ T.2 s ∧ T.2 s ≤ 122) := fun z => hl (isL_t.mpr z)
        refine o_aload_n dX9_steps_34 rfl rfl ?_
        refine o_aload_n dX9_steps_35 rfl rfl ?_
        refine o_getI (v := nI s) dX9_steps_36 fgX9_53 sh_106 rfl f1 ?_
        refine o_putI dX9_steps_39 flX9_50 sh_106 rfl ?_
        refine o_aload_n dX9_steps_42 rfl rfl ?_
        refine o_aload_n dX9_steps_43 rfl rfl ?_
        refine o_getI (v := nI s) dX9_steps_44 fgX9_50 sh_106 rfl up2_s ?_
        refine o_callVp (v := .int (nI (T.2 s))) (as := [.int (nI s)]) (st := []) dX9_steps_47 (c_atN (t1.frL (frL.up (by omega))) h60 hT2 hlt) rfl meX9_at imX9_at seX9_at mlX9_56 sh_106 rfl rfl (by omega) (by decide) (Nat.le_of_ble_eq_true rfl) ?_
        refine o_ifN_ge (tgt := 61) dX9_steps_50 (by decide) (by omega) ?_
        refine o_aload_n dX9_steps_61 rfl rfl ?_
        refine o_aload_n dX9_steps_62 rfl rfl ?_
        refine o_getI (v := nI s) dX9_steps_63 fgX9_50 sh_106 rfl up2_s ?_
        refine o_callVp (v := .int (nI (T.2 s))) (as := [.int (nI s)]) (st := []) dX9_steps_66 (c_atN (t1.frL (frL.up (by omega))) h60 hT2 hlt) rfl meX9_at imX9_at seX9_at mlX9_56 sh_106 rfl rfl (by omega) (by decide) (Nat.le_of_ble_eq_true rfl) ?_
        refine o_bipush (v := nI 48) dX9_steps_69 (by decide) ?_
        refine o_bipush (v := nI 57) dX9_steps_71 (by decide) ?_
        refine o_callSp (v := .int (nI 0)) (as := [.int (nI (T.2 s)), .int (nI 48), .int (nI 57)]) (st := []) dX9_steps_73 (c_inN _ (in_no (by omega) (by omega) (by omega) (by omega))) rfl meX9_in ssX9_in mlX9_43 (by omega) (by decide) (Nat.le_of_ble_eq_true rfl) ?_
        refine o_ifN_eq (tgt := 86) dX9_steps_76 (by decide) (by omega) (fun b_42 => ?_) (fun b_42 => absurd b_42 (by omega))
        refine o_aload_n dX9_steps_86 rfl rfl ?_
        refine o_aload_n dX9_steps_87 rfl rfl ?_
        refine o_getI (v := nI s) dX9_steps_88 fgX9_50 sh_106 rfl up2_s ?_
        refine o_callVp (v := .int (nI (T.2 s))) (as := [.int (nI s)]) (st := []) dX9_steps_91 (c_atN (t1.frL (frL.up (by omega))) h60 hT2 hlt) rfl meX9_at imX9_at seX9_at mlX9_56 sh_106 rfl rfl (by omega) (by decide) (Nat.le_of_ble_eq_true rfl) ?_
        refine o_bipush (v := nI 97) dX9_steps_94 (by decide) ?_
        refine o_bipush (v := nI 122) dX9_steps_96 (by decide) ?_
        refine o_callSp (v := .int (nI 0)) (as := [.int (nI (T.2 s)), .int (nI 97), .int (nI 122)]) (st := []) dX9_steps_98 (c_inN _ (in_no (by omega) (by omega) (by omega) (by omega))) rfl meX9_in ssX9_in mlX9_43 (by omega) (by decide) (Nat.le_of_ble_eq_true rfl) ?_
        refine o_ifN_eq (tgt := 165) dX9_steps_101 (by decide) (by omega) (fun b_43 => ?_) (fun b_43 => absurd b_43 (by omega))
        refine o_aload_n dX9_steps_165 rfl rfl ?_
        refine o_aload_n dX9_steps_166 rfl rfl ?_
        refine o_aload_n dX9_steps_167 rfl rfl ?_
        refine o_getI (v := nI s) dX9_steps_168 fgX9_50 sh_106 rfl up2_s ?_
        refine o_callVp (v := .int (nI (T.2 s))) (as := [.int (nI s)]) (st := [.ref 106]) dX9_steps_171 (c_atN (t1.frL (frL.up (by omega))) h60 hT2 hlt) rfl meX9_at imX9_at seX9_at mlX9_56 sh_106 rfl rfl (by omega) (by decide) (Nat.le_of_ble_eq_true rfl) ?_
        refine o_bipush (v := nI 59) dX9_steps_174 (by decide) ?_
        refine o_icmpN_ne (tgt := 183) dX9_steps_176 (by decide) (by omega) (by omega) (fun b_44 => ?_) (fun b_44 => ?_)
        · refine o_iconst (v := nI 5) dX9_steps_183 (by decide) ?_
          refine o_putI dX9_steps_184 flX9_63 sh_106 rfl ?_
          refine o_aload_n dX9_steps_187 rfl rfl ?_
          refine o_dup dX9_steps_188 rfl ?_
          refine o_getI (v := nI s) dX9_steps_189 fgX9_50 sh_106 rfl ((up2_x (by omega)).trans up2_s) ?_
          refine o_iconst (v := nI 1) dX9_steps_192 (by decide) ?_
          refine o_iaddN dX9_steps_193 ?_
          refine o_putI dX9_steps_194 flX9_50 sh_106 rfl ?_
          exact o_vret dX9_steps_197 rfl ⟨rfl, ⟨(up2_x (by omega)).trans ((up2_x (by omega)).trans ((up2_x (by omega)).trans f1)), up2_s.trans (by rw [te, if_pos hlt, if_neg hd, if_neg hl]), (up2_x (by omega)).trans (up2_s.trans (by rw [tk, if_pos hlt, if_neg hd, if_neg hl, if_neg (by omega)])), fun z => by rw [tk, if_pos hlt, if_neg hd, if_neg hl, if_neg (by omega)] at z; cases z⟩, ((r1.trans (frL.up (by omega))).trans (frL.up (by omega))).trans (frL.up (by omega))⟩
        · refine o_iconst (v := nI 4) dX9_steps_179 (by decide) ?_
          refine o_goto (tgt := 184) dX9_steps_180 (by decide) ?_
          refine o_putI dX9_steps_184 flX9_63 sh_106 rfl ?_
          refine o_aload_n dX9_steps_187 rfl rfl ?_
          refine o_dup dX9_steps_188 rfl ?_
          refine o_getI (v := nI s) dX9_steps_189 fgX9_50 sh_106 rfl ((up2_x (by omega)).trans up2_s) ?_
          refine o_iconst (v := nI 1) dX9_steps_192 (by decide) ?_
          refine o_iaddN dX9_steps_193 ?_
          refine o_putI dX9_steps_194 flX9_50 sh_106 rfl ?_
          exact o_vret dX9_steps_197 rfl ⟨rfl, ⟨(up2_x (by omega)).trans ((up2_x (by omega)).trans ((up2_x (by omega)).trans f1)), up2_s.trans (by rw [te, if_pos hlt, if_neg hd, if_neg hl]), (up2_x (by omega)).trans (up2_s.trans (by rw [tk, if_pos hlt, if_neg hd, if_neg hl, if_pos (by omega)])), fun z => by rw [tk, if_pos hlt, if_neg hd, if_neg hl, if_pos (by omega)] at z; cases z⟩, ((r1.trans (frL.up (by omega))).trans (frL.up (by omega))).trans (frL.up (by omega))⟩
  · refine o_aload_n dX9_steps_34 rfl rfl ?_
    refine o_aload_n dX9_steps_35 rfl rfl ?_
    refine o_getI (v := nI s) dX9_steps_36 fgX9_53 sh_106 rfl f1 ?_
    refine o_putI dX9_steps_39 flX9_50 sh_106 rfl ?_
    refine o_aload_n dX9_steps_42 rfl rfl ?_
    refine o_aload_n dX9_steps_43 rfl rfl ?_
    refine o_getI (v := nI s) dX9_steps_44 fgX9_50 sh_106 rfl up2_s ?_
    refine o_callVp (v := .int (-1)) (as := [.int (nI s)]) (st := []) dX9_steps_47 (c_atE (t1.frL (frL.up (by omega))) h60 hse (by omega)) rfl meX9_at imX9_at seX9_at mlX9_56 sh_106 rfl rfl (by omega) (by decide) (Nat.le_of_ble_eq_true rfl) ?_
    refine o_if_ge (tgt := 61) dX9_steps_50 (by decide) (fun b_31 => absurd b_31 (by decide)) (fun b_31 => ?_)
    refine o_aload_n dX9_steps_53 rfl rfl ?_
    refine o_iconst (v := nI 0) dX9_steps_54 (by decide) ?_
    refine o_putI dX9_steps_55 flX9_63 sh_106 rfl ?_
    refine o_goto (tgt := 197) dX9_steps_58 (by decide) ?_
    exact o_vret dX9_steps_197 rfl ⟨rfl, ⟨(up2_x (by omega)).trans ((up2_x (by omega)).trans f1), (up2_x (by omega)).trans (up2_s.trans (by rw [te, if_neg (by omega)])), up2_s.trans (by rw [tk_0.mpr (by omega)]), fun z => by rw [tk_0.mpr (by omega)] at z; cases z⟩, (r1.trans (frL.up (by omega))).trans (frL.up (by omega))⟩
