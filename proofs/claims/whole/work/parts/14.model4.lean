theorem MK.mv {I I' : sm_I} {a off a' off' : Nat} {K : KT} (h : MK I a off K) (hn : K.1 ≤ 4) (hm : ∀ q, q < 25 → I' a' (off' + q) = I a (off + q)) : MK I' a' off' K := ⟨(hm 24 (by omega)).trans h.1, fun c f hc hf => (hm (6 * c + f) (by omega)).trans (h.2 c f hc hf)⟩
def frN (I I' : sm_I) : Prop := ∀ a k, ¬ (a = 106 ∧ k = 4) → a ≠ 109 → I' a k = I a k

theorem lp_notes2 {ζ : sm_Z} {d : Nat} {I0 : sm_I} {Q : Option Value → sm_I → Prop} {u : Nat} (hu7 : u ≤ 7) (hq : ∀ I' : sm_I, I' 106 4 = nI (u + 1) → (∀ q, q < 25 → I' 109 (25 * u + q) = I0 107 q) → (∀ q, ¬ (25 * u ≤ q ∧ q < 25 * u + 25) → I' 109 q = I0 109 q) → frN I0 I' → Q none I') : ∀ (f k : Nat) (I : sm_I), k + f = 25 → I 106 4 = nI u → (∀ q, q < k → I 109 (25 * u + q) = I0 107 q) → (∀ q, ¬ (25 * u ≤ q ∧ q < 25 * u + k) → I 109 q = I0 109 q) → (∀ a k, a ≠ 109 → I a k = I0 a k) → X0 ζ d mX9_notes 51 [some (.ref 106), some (.int (nI k))] [] I Q := by
  intro f
  induction f with
  | zero =>
    intro k I hk hu h1 h2 h3
    have hkk : k = 25 := by omega
    subst hkk
    refine o_iload_n dX9_notes_51 rfl rfl ?_
    refine o_bipush (v := nI 25) dX9_notes_52 (by decide) ?_
    refine o_icmpN_ge (tgt := 83) dX9_notes_54 (by decide) (by omega) (by omega) (fun b_1 => ?_) (fun b_1 => absurd b_1 (by omega))
    refine o_aload_n dX9_notes_83 rfl rfl ?_
    refine o_dup dX9_notes_84 rfl ?_
    refine o_getI (v := nI u) dX9_notes_85 fgX9_124 sh_106 rfl hu ?_
    refine o_iconst (v := nI 1) dX9_notes_88 (by decide) ?_
    refine o_iaddN dX9_notes_89 ?_
    refine o_putI dX9_notes_90 flX9_124 sh_106 rfl ?_
    exact o_vret dX9_notes_93 rfl (hq _ up2_s (fun q hq => (up2_x (by omega)).trans (h1 q hq)) (fun q hq => (up2_x (by omega)).trans (h2 q hq)) (fun a k z1 z2 => (up2_x z1).trans (h3 a k z2)))
  | succ f ih =>
    intro k I hk hu h1 h2 h3
    refine o_iload_n dX9_notes_51 rfl rfl ?_
    refine o_bipush (v := nI 25) dX9_notes_52 (by decide) ?_
    refine o_icmpN_ge (tgt := 83) dX9_notes_54 (by decide) (by omega) (by omega) (fun b_2 => absurd b_2 (by omega)) (fun b_2 => ?_)
    refine o_aload_n dX9_notes_57 rfl rfl ?_
    refine o_getR (b := 109) dX9_notes_58 fgX9_16 sh_106 rfl rfl ?_
    refine o_bipush (v := nI 25) dX9_notes_61 (by decide) ?_
    refine o_aload_n dX9_notes_63 rfl rfl ?_
    refine o_getI (v := nI u) dX9_notes_64 fgX9_124 sh_106 rfl hu ?_
    refine o_imulN dX9_notes_67 ?_
    refine o_iload_n dX9_notes_68 rfl rfl ?_
    refine o_iaddN dX9_notes_69 ?_
    refine o_aload_n dX9_notes_70 rfl rfl ?_
    refine o_getR (b := 107) dX9_notes_71 fgX9_7 sh_106 rfl rfl ?_
    refine o_iload_n dX9_notes_74 rfl rfl ?_
    refine o_ialdN (v := I 107 k) dX9_notes_75 sh_107 (by decide) (by omega) rfl ?_
    refine o_iastN dX9_notes_76 sh_109 (by decide) (by omega) ?_
    refine o_iincN (w := 1) dX9_notes_77 rfl (by decide) (by decide) ?_
    refine o_goto (tgt := 51) dX9_notes_80 (by decide) ?_
    refine ih (k + 1) _ (by omega) ((up2_x (by omega)).trans hu) (fun q hq => ?_) (fun q hq => ?_) (fun a k z => (up2_x (by omega)).trans (h3 a k z))
    · rcases Nat.lt_or_ge q k with z | z
      · exact (up2_x (by omega)).trans (h1 q z)
      · have hqq : q = k := by omega
        subst hqq
        exact up2_s.trans (h3 107 q (by decide))
    · exact (up2_x (by omega)).trans (h2 q (by omega))

theorem lp_notes1 {ζ : sm_Z} {d : Nat} {I0 : sm_I} {Q : Option Value → sm_I → Prop} (hx : ∀ I' : sm_I, (∀ q, q < 175 → I' 109 q = I0 109 (q + 25)) → (∀ a k, a ≠ 109 → I' a k = I0 a k) → X0 ζ d mX9_notes 39 [some (.ref 106), some (.int (nI 175))] [] I' Q) : ∀ (f k : Nat) (I : sm_I), k + f = 175 → (∀ q, q < k → I 109 q = I0 109 (q + 25)) → (∀ q, k ≤ q → I 109 q = I0 109 q) → (∀ a k, a ≠ 109 → I a k = I0 a k) → X0 ζ d mX9_notes 11 [some (.ref 106), some (.int (nI k))] [] I Q := by
  intro f
  induction f with
  | zero =>
    intro k I hk h1 h2 h3
    have hkk : k = 175 := by omega
    subst hkk
    refine o_iload_n dX9_notes_11 rfl rfl ?_
    refine o_sipush (v := nI 175) dX9_notes_12 (by decide) ?_
    refine o_icmpN_ge (tgt := 39) dX9_notes_15 (by decide) (by omega) (by omega) (fun b_3 => ?_) (fun b_3 => absurd b_3 (by omega))
    exact hx I h1 h3
  | succ f ih =>
    intro k I hk h1 h2 h3
    refine o_iload_n dX9_notes_11 rfl rfl ?_
    refine o_sipush (v := nI 175) dX9_notes_12 (by decide) ?_
    refine o_icmpN_ge (tgt := 39) dX9_notes_15 (by decide) (by omega) (by omega) (fun b_4 => absurd b_4 (by omega)) (fun b_4 => ?_)
    refine o_aload_n dX9_notes_18 rfl rfl ?_
    refine o_getR (b := 109) dX9_notes_19 fgX9_16 sh_106 rfl rfl ?_
    refine o_iload_n dX9_notes_22 rfl rfl ?_
    refine o_aload_n dX9_notes_23 rfl rfl ?_
    refine o_getR (b := 109) dX9_notes_24 fgX9_16 sh_106 rfl rfl ?_
    refine o_iload_n dX9_notes_27 rfl rfl ?_
    refine o_bipush (v := nI 25) dX9_notes_28 (by decide) ?_
    refine o_iaddN dX9_notes_30 ?_
    refine o_ialdN (v := I 109 (k + 25)) dX9_notes_31 sh_109 (by decide) (by omega) rfl ?_
    refine o_iastN dX9_notes_32 sh_109 (by decide) (by omega) ?_
    refine o_iincN (w := 1) dX9_notes_33 rfl (by decide) (by decide) ?_
    refine o_goto (tgt := 11) dX9_notes_36 (by decide) ?_
    refine ih (k + 1) _ (by omega) (fun q hq => ?_) (fun q hq => (up2_x (by omega)).trans (h2 q (by omega))) (fun a k z => (up2_x (by omega)).trans (h3 a k z))
    rcases Nat.lt_or_ge q k with z | z
    · exact (up2_x (by omega)).trans (h1 q z)
    · have hqq : q = k := by omega
      subst hqq
      exact up2_s.trans (h2 (q + 25) (by omega))

set_option maxHeartbeats 4000000 in
set_option maxRecDepth 100000 in
theorem c_notes {I : sm_I} {K : KT} (hK : MK I 107 0 K) (hn : K.1 ≤ 4) {P : PT} (hP : MP I P) (hp8 : P.1 ≤ 8) (hPn : ∀ k, k < P.1 → (P.2 k).1 ≤ 4) : E0 0 mX9_notes [.ref 106] I (fun r I' => r = none ∧ MP I' (ppush P K) ∧ frN I I') := by
  refine E0.of (by decide) (by simp [Value.category]) (Nat.le_of_ble_eq_true rfl) (fun ζ => ?_)
  by_cases h8 : P.1 = 8
  · refine o_aload_n dX9_notes_0 rfl rfl ?_
    refine o_getI (v := nI 8) dX9_notes_1 fgX9_124 sh_106 rfl (hP.1.trans (by rw [h8])) ?_
    refine o_bipush (v := nI 8) dX9_notes_4 (by decide) ?_
    refine o_icmpN_ne (tgt := 49) dX9_notes_6 (by decide) (by omega) (by omega) (fun b_5 => absurd b_5 (by omega)) (fun b_5 => ?_)
    refine o_iconst (v := nI 0) dX9_notes_9 (by decide) ?_
    refine o_istore_n dX9_notes_10 rfl (by decide) ?_
    refine lp_notes1 (I0 := I) (fun I1 r1 r2 => ?_) 175 0 I (by omega) (fun q hq => by omega) (fun q _ => rfl) (fun _ _ _ => rfl)
    refine o_aload_n dX9_notes_39 rfl rfl ?_
    refine o_dup dX9_notes_40 rfl ?_
    refine o_getI (v := nI 8) dX9_notes_41 fgX9_124 sh_106 rfl ((r2 106 4 (by decide)).trans (hP.1.trans (by rw [h8]))) ?_
    refine o_iconst (v := nI 1) dX9_notes_44 (by decide) ?_
    refine o_isubN dX9_notes_45 (by omega) ?_
    refine o_putI dX9_notes_46 flX9_124 sh_106 rfl ?_
    refine o_iconst (v := nI 0) dX9_notes_49 (by decide) ?_
    refine o_istore_n dX9_notes_50 rfl (by decide) ?_
    refine lp_notes2 (I0 := up2 I1 106 4 (nI (8 - 1))) (u := 7) (by omega) ?_ 25 0 _ (by omega) up2_s (fun q hq => by omega) (fun q _ => rfl) (fun _ _ _ => rfl)
    intro I2 g1 g2 g3 g4
    have e : ppush P K = (8, fun k => if k = 7 then K else P.2 (k + 1)) := by unfold ppush; rw [if_pos h8]
    refine ⟨rfl, ?_, fun a k z1 z2 => (g4 a k z1 z2).trans ((up2_x z1).trans (r2 a k z2))⟩
    rw [e]
    refine ⟨g1, fun k hk => ?_⟩
    have hk8 : k < 8 := hk
    show MK I2 109 (25 * k) (if k = 7 then K else P.2 (k + 1))
    by_cases h7 : k = 7
    · subst h7
      rw [if_pos rfl]
      exact hK.mv hn (fun q hq => by rw [g2 q hq, up2_x (by omega), r2 107 q (by decide), Nat.zero_add])
    · rw [if_neg h7]
      exact (hP.2 (k + 1) (by omega)).mv (hPn _ (by omega)) (fun q hq => by rw [g3 _ (by omega), up2_x (by omega), r1 _ (by omega), show 25 * k + q + 25 = 25 * (k + 1) + q by omega])
  · refine o_aload_n dX9_notes_0 rfl rfl ?_
    refine o_getI (v := nI P.1) dX9_notes_1 fgX9_124 sh_106 rfl hP.1 ?_
    refine o_bipush (v := nI 8) dX9_notes_4 (by decide) ?_
    refine o_icmpN_ne (tgt := 49) dX9_notes_6 (by decide) (by omega) (by omega) (fun b_6 => ?_) (fun b_6 => absurd b_6 (by omega))
    refine o_iconst (v := nI 0) dX9_notes_49 (by decide) ?_
    refine o_istore_n dX9_notes_50 rfl (by decide) ?_
    refine lp_notes2 (I0 := I) (u := P.1) (by omega) ?_ 25 0 _ (by omega) hP.1 (fun q hq => by omega) (fun q _ => rfl) (fun _ _ _ => rfl)
    intro I2 g1 g2 g3 g4
    have e : ppush P K = (P.1 + 1, fun k => if k = P.1 then K else P.2 k) := by unfold ppush; rw [if_neg (by omega)]
    refine ⟨rfl, ?_, g4⟩
    rw [e]
    refine ⟨g1, fun k hk => ?_⟩
    have hk8 : k < P.1 + 1 := hk
    show MK I2 109 (25 * k) (if k = P.1 then K else P.2 k)
    by_cases h7 : k = P.1
    · subst h7
      rw [if_pos rfl]
      exact hK.mv hn (fun q hq => by rw [g2 q hq, Nat.zero_add])
    · rw [if_neg h7]
      exact (hP.2 k (by omega)).mv (hPn _ (by omega)) (fun q hq => g3 _ (by omega))

/-- behind notes(), and what is told then -/
theorem MI.note {I I' : sm_I} {S : ST} (h : MI I S) (hP : MP I' (ppush S.2.2.1 S.1)) (hf : frN I I') : MI I' (st_do S S.1) := by
  obtain ⟨h1, ⟨h2, h3⟩, ⟨h4, h5⟩, h6, h7, h8⟩ := h
  have e : ∀ a k, ¬ (a = 106 ∧ k = 4) → a ≠ 109 → I' a k = I a k := hf
  exact ⟨h1.of (fun k => e 107 k (by omega) (by omega)), ⟨(e _ _ (by omega) (by omega)).trans h2, fun j hj => (e _ _ (by omega) (by omega)).trans (h3 j hj)⟩, hP, fun i hi => ⟨fun q => (e _ _ (by omega) (by omega)).trans ((h6 i hi).1 q), fun K q => ⟨(e _ _ (by omega) (by omega)).trans ((h6 i hi).2 K q).1, ((h6 i hi).2 K q).2.of (fun k => e 110 k (by omega) (by omega))⟩⟩, (e _ _ (by omega) (by omega)).trans h7, fun j hj => ⟨(e _ _ (by omega) (by omega)).trans (h8 j hj).1, (e _ _ (by omega) (by omega)).trans (h8 j hj).2⟩⟩
/-- another row of casks -/
theorem MI.casks {I I' : sm_I} {S : ST} {K : KT} (h : MI I S) (hK : MK I' 107 0 K) (hf : ∀ a k, a ≠ 107 → I' a k = I a k) : MI I' (K, S.2) := by
  obtain ⟨h1, ⟨h2, h3⟩, ⟨h4, h5⟩, h6, h7, h8⟩ := h
  exact ⟨hK, ⟨(hf _ _ (by omega)).trans h2, fun j hj => (hf _ _ (by omega)).trans (h3 j hj)⟩, ⟨(hf _ _ (by omega)).trans h4, fun k hk => (h5 k hk).of (fun k => hf 109 k (by omega))⟩, fun i hi => ⟨fun q => (hf _ _ (by omega)).trans ((h6 i hi).1 q), fun K q => ⟨(hf _ _ (by omega)).trans ((h6 i hi).2 K q).1, ((h6 i hi).2 K q).2.of (fun k => hf 110 k (by omega))⟩⟩, (hf _ _ (by omega)).trans h7, fun j hj => ⟨(hf _ _ (by omega)).trans (h8 j hj).1, (hf _ _ (by omega)).trans (h8 j hj).2⟩⟩
theorem MI.MP {I : sm_I} {S : ST} (h : MI I S) : MP I S.2.2.1 := h.2.2.1
def loC (I I' : sm_I) : Prop := ∀ a k, a < 106 → I' a k = I a k
theorem frM.lo {I I' : sm_I} (h : frM I I') : loC I I' := fun a k q => h a k (Or.inr q)
theorem frN.lo {I I' : sm_I} (h : frN I I') : loC I I' := fun a k q => h a k (by omega) (by omega)
theorem loC.trans {I J K : sm_I} (h1 : loC I J) (h2 : loC J K) : loC I K := fun a k h => (h2 a k h).trans (h1 a k h)
theorem loC.up {I : sm_I} {a k : Nat} {v : Int32} (h : 106 ≤ a) : loC I (up2 I a k v) := fun b j q => up2_x (by omega)
theorem ge1_nat {n : Int32} (h : ¬ n < nI 1) : ∃ a : Nat, 1 ≤ a ∧ a ≤ 2147483647 ∧ n = nI a := by
  have h0 : ¬ n < 0 := fun q => h (Int32.lt_trans q (by decide))
  obtain ⟨a, ha, rfl⟩ := nI_of h0
  rw [nI_ltI ha (by decide)] at h
  exact ⟨a, by omega, by omega, rfl⟩
theorem ge1_nat' {n : Int32} (h : nI 1 ≤ n) : ∃ a : Nat, 1 ≤ a ∧ a ≤ 2147483647 ∧ n = nI a := ge1_nat (Int32.not_lt.mpr h)
theorem lt1_in {n : Int32} (h : n < nI 1) : cg_in 1 2147483647 n = none := cg_in_none (by decide) (by decide) (fun q => absurd q.1 (Int32.not_le.mpr h))
theorem cg_in_n {a : Nat} (h1 : 1 ≤ a) (h2 : a ≤ 2147483647) : cg_in 1 2147483647 (nI a) = some a := cg_in_some h1 h2 (by decide)
