def frQ (I I' : sm_I) : Prop := ∀ a k, ¬ (a = 106 ∧ 11 ≤ k ∧ k ≤ 15) → I' a k = I a k
theorem frQ.refl (I : sm_I) : frQ I I := fun _ _ _ => rfl
theorem frQ.trans {I J K : sm_I} (h1 : frQ I J) (h2 : frQ J K) : frQ I K := fun a k h => (h2 a k h).trans (h1 a k h)
theorem frQ.up {I : sm_I} {k : Nat} {v : Int32} (h : 11 ≤ k ∧ k ≤ 15) : frQ I (up2 I 106 k v) := fun a j q => up2_x (by omega)
theorem frL.Q {I I' : sm_I} (h : frL I I') : frQ I I' := fun a k q => h a k (by omega)
def frP (I I' : sm_I) : Prop := ∀ a k, ¬ (a = 106 ∧ 11 ≤ k ∧ k ≤ 15) → a ≠ 108 → I' a k = I a k
theorem frP.refl (I : sm_I) : frP I I := fun _ _ _ _ => rfl
theorem frP.trans {I J K : sm_I} (h1 : frP I J) (h2 : frP J K) : frP I K := fun a k h g => (h2 a k h g).trans (h1 a k h g)
theorem frQ.P {I I' : sm_I} (h : frQ I I') : frP I I' := fun a k q _ => h a k q
theorem frP.up {I : sm_I} {k : Nat} {v : Int32} : frP I (up2 I 108 k v) := fun a j _ q => up2_x (by omega)
theorem frP.M {I I' : sm_I} (h : frP I I') : frM I I' := fun a k q => h a k (by unfold mn at q; omega) (by unfold mn at q; omega)
theorem MT.frP {I I' : sm_I} {T : TX} (h : MT I T) (hf : frP I I') : MT I' T := h.of (hf _ _ (by omega) (by omega)) (fun k => hf _ _ (by omega) (by omega))
/-- the parser stands at the token s -/
def PS (I : sm_I) (T : TX) (s : Nat) : Prop := MT I T ∧ LX I T s ∧ I 106 15 = -9
/-- the parser stands at a fault -/
def FS (I : sm_I) (s : Nat) : Prop := s ≤ 60 ∧ I 106 15 = nI s
theorem ne9 {s : Nat} (h : s ≤ 60) : ¬ nI s = -9 := by
  intro e
  have h2 : ¬ nI s < 0 := by rw [show (0 : Int32) = nI 0 from rfl, nI_ltI (by omega) (by omega)]; omega
  rw [e] at h2
  exact h2 (by decide)
theorem tk_le (T : TX) (s : Nat) : tk T s ≤ 5 := by
  unfold tk
  split
  · split
    · split <;> omega
    · split
      · split
        · omega
        · split <;> omega
      · split <;> omega
  · omega
theorem tv_le {T : TX} (hT2 : ∀ j, j < T.1 → T.2 j < 256) (s : Nat) : tv T s ≤ 999 := nvl_le T hT2 60 s 0 (by omega)
theorem le_pred {v n : Nat} (hv : v < 2 ^ 30) (hn : n < 2 ^ 30) : nI v ≤ nI n - nI 1 ↔ v < n := by
  rcases Nat.eq_zero_or_pos n with rfl | h
  · refine ⟨fun q => ?_, fun q => absurd q (by omega)⟩
    have h3 : nI 0 ≤ nI v := nI_le (by omega) (by omega)
    exact absurd (Int32.le_trans h3 q) (by decide)
  · rw [pk_sub h, nI_leI (by omega) (by omega)]
    omega

set_option maxHeartbeats 4000000 in
set_option maxRecDepth 100000 in
theorem c_takesY {I : sm_I} {T : TX} (h60 : T.1 ≤ 60) (hT2 : ∀ j, j < T.1 → T.2 j < 256) {s : Nat} (hs : s ≤ T.1) (hP : PS I T s) : E0 3 mX9_takes [.ref 106, .int (nI 1)] I (fun r I' => r = none ∧ PS I' T (px T s) ∧ frQ I I') := by
  have hl := te_le hs
  refine E0.of (by decide) (by simp [Value.category]) (Nat.le_of_ble_eq_true rfl) (fun ζ => ?_)
  refine o_aload_n dX9_takes_0 rfl rfl ?_
  refine o_getI (v := (-9)) dX9_takes_1 fgX9_76 sh_106 rfl hP.2.2 ?_
  refine o_bipush (v := (-9)) dX9_takes_4 (by decide) ?_
  refine o_icmp_ne (tgt := 28) dX9_takes_6 (by decide) (fun b_1 => absurd b_1 (by decide)) (fun b_1 => ?_)
  refine o_iload_n dX9_takes_9 rfl rfl ?_
  refine o_ifN_eq (tgt := 20) dX9_takes_10 (by decide) (by omega) (fun b_2 => absurd b_2 (by omega)) (fun b_2 => ?_)
  refine o_aload_n dX9_takes_13 rfl rfl ?_
  refine o_callV (as := []) (st := []) dX9_takes_14 (c_steps hP.1 h60 hT2 hl hP.2.1.2.1) rfl meX9_steps imX9_steps seX9_steps mlX9_79 sh_106 rfl rfl (by omega) (by decide) (Nat.le_of_ble_eq_true rfl) ?_
  rintro _ I1 ⟨rfl, hX, hf⟩
  refine o_goto (tgt := 28) dX9_takes_17 (by decide) ?_
  exact o_vret dX9_takes_28 rfl ⟨rfl, ⟨hP.1.frL hf, hX, (hf _ _ (by omega)).trans hP.2.2⟩, hf.Q⟩

set_option maxHeartbeats 4000000 in
set_option maxRecDepth 100000 in
theorem c_takesN {I : sm_I} {T : TX} (h60 : T.1 ≤ 60) (hT2 : ∀ j, j < T.1 → T.2 j < 256) {s : Nat} (hs : s ≤ T.1) (hP : PS I T s) : E0 3 mX9_takes [.ref 106, .int (nI 0)] I (fun r I' => r = none ∧ FS I' s ∧ frQ I I') := by
  refine E0.of (by decide) (by simp [Value.category]) (Nat.le_of_ble_eq_true rfl) (fun ζ => ?_)
  refine o_aload_n dX9_takes_0 rfl rfl ?_
  refine o_getI (v := (-9)) dX9_takes_1 fgX9_76 sh_106 rfl hP.2.2 ?_
  refine o_bipush (v := (-9)) dX9_takes_4 (by decide) ?_
  refine o_icmp_ne (tgt := 28) dX9_takes_6 (by decide) (fun b_3 => absurd b_3 (by decide)) (fun b_3 => ?_)
  refine o_iload_n dX9_takes_9 rfl rfl ?_
  refine o_ifN_eq (tgt := 20) dX9_takes_10 (by decide) (by omega) (fun b_4 => ?_) (fun b_4 => absurd b_4 (by omega))
  refine o_aload_n dX9_takes_20 rfl rfl ?_
  refine o_aload_n dX9_takes_21 rfl rfl ?_
  refine o_getI (v := nI s) dX9_takes_22 fgX9_53 sh_106 rfl hP.2.1.1 ?_
  refine o_putI dX9_takes_25 flX9_76 sh_106 rfl ?_
  exact o_vret dX9_takes_28 rfl ⟨rfl, ⟨by omega, up2_s⟩, frQ.up (by omega)⟩

set_option maxHeartbeats 4000000 in
set_option maxRecDepth 100000 in
theorem c_takesF {I : sm_I} {f : Nat} (hF : FS I f) (b : Int32) : E0 3 mX9_takes [.ref 106, .int b] I (fun r I' => r = none ∧ I' = I) := by
  refine E0.of (by decide) (by simp [Value.category]) (Nat.le_of_ble_eq_true rfl) (fun ζ => ?_)
  refine o_aload_n dX9_takes_0 rfl rfl ?_
  refine o_getI (v := nI f) dX9_takes_1 fgX9_76 sh_106 rfl hF.2 ?_
  refine o_bipush (v := (-9)) dX9_takes_4 (by decide) ?_
  refine o_icmp_ne (tgt := 28) dX9_takes_6 (by decide) (fun b_5 => ?_) (fun b_5 => absurd b_5 (ne9 hF.1))
  exact o_vret dX9_takes_28 rfl ⟨rfl, rfl⟩

set_option maxHeartbeats 4000000 in
set_option maxRecDepth 100000 in
theorem c_numY {I : sm_I} {T : TX} (h60 : T.1 ≤ 60) (hT2 : ∀ j, j < T.1 → T.2 j < 256) {s : Nat} (hs : s ≤ T.1) (hP : PS I T s) {lo n : Nat} {hi : Int32} (hh : hi = nI n - nI 1) (hlo : lo ≤ 999) (hn : n ≤ 999) (h3 : tk T s = 3) (h1 : lo ≤ tv T s) (h2 : tv T s < n) : E0 4 mX9_numberIn [.ref 106, .int (nI lo), .int hi] I (fun r I' => r = some (.int (nI (tv T s))) ∧ PS I' T (px T s) ∧ frQ I I') := by
  have hv := tv_le hT2 s
  refine E0.of (by decide) (by simp [Value.category]) (Nat.le_of_ble_eq_true rfl) (fun ζ => ?_)
  refine o_aload_n dX9_numberIn_0 rfl rfl ?_
  refine o_getI (v := nI (tv T s)) dX9_numberIn_1 fgX9_60 sh_106 rfl (hP.2.1.2.2.2 h3) ?_
  refine o_istore_n dX9_numberIn_4 rfl (by decide) ?_
  refine o_aload_n dX9_numberIn_5 rfl rfl ?_
  refine o_aload_n dX9_numberIn_6 rfl rfl ?_
  refine o_getI (v := nI (tk T s)) dX9_numberIn_7 fgX9_63 sh_106 rfl hP.2.1.2.2.1 ?_
  refine o_iconst (v := nI 3) dX9_numberIn_10 (by decide) ?_
  refine o_icmpN_ne (tgt := 27) dX9_numberIn_11 (by decide) (by omega) (by omega) (fun b_6 => absurd b_6 (by omega)) (fun b_6 => ?_)
  refine o_iload_n dX9_numberIn_14 rfl rfl ?_
  refine o_iload_n dX9_numberIn_15 rfl rfl ?_
  refine o_iload_n dX9_numberIn_16 rfl rfl ?_
  refine o_callSp (v := .int (nI 1)) (as := [.int (nI (tv T s)), .int (nI lo), .int hi]) (st := [.ref 106]) dX9_numberIn_17 (c_inY _ (nI_le (by omega) (by omega)) (by rw [hh]; exact (le_pred (by omega) (by omega)).mpr h2)) rfl meX9_in ssX9_in mlX9_43 (by omega) (by decide) (Nat.le_of_ble_eq_true rfl) ?_
  refine o_ifN_eq (tgt := 27) dX9_numberIn_20 (by decide) (by omega) (fun b_7 => absurd b_7 (by omega)) (fun b_7 => ?_)
  refine o_iconst (v := nI 1) dX9_numberIn_23 (by decide) ?_
  refine o_goto (tgt := 28) dX9_numberIn_24 (by decide) ?_
  refine o_callV (as := [.int (nI 1)]) (st := []) dX9_numberIn_28 (c_takesY h60 hT2 hs hP) rfl meX9_takes imX9_takes seX9_takes mlX9_82 sh_106 rfl rfl (by omega) (by decide) (Nat.le_of_ble_eq_true rfl) ?_
  rintro _ I1 ⟨rfl, hP1, hf⟩
  refine o_iload_n dX9_numberIn_31 rfl rfl ?_
  exact o_iret dX9_numberIn_32 rfl ⟨rfl, hP1, hf⟩

set_option maxHeartbeats 4000000 in
set_option maxRecDepth 100000 in
theorem c_numN {I : sm_I} {T : TX} (h60 : T.1 ≤ 60) (hT2 : ∀ j, j < T.1 → T.2 j < 256) {s : Nat} (hs : s ≤ T.1) (hP : PS I T s) {lo n : Nat} {hi : Int32} (hh : hi = nI n - nI 1) (hlo : lo ≤ 999) (hn : n ≤ 999) (hno : ¬ (tk T s = 3 ∧ lo ≤ tv T s ∧ tv T s < n)) : E0 4 mX9_numberIn [.ref 106, .int (nI lo), .int hi] I (fun r I' => (∃ v, r = some (.int v)) ∧ FS I' s ∧ frQ I I') := by
  have hv := tv_le hT2 s
  have ht := tk_le T s
  refine E0.of (by decide) (by simp [Value.category]) (Nat.le_of_ble_eq_true rfl) (fun ζ => ?_)
  by_cases h3 : tk T s = 3
  · refine o_aload_n dX9_numberIn_0 rfl rfl ?_
    refine o_getI (v := nI (tv T s)) dX9_numberIn_1 fgX9_60 sh_106 rfl (hP.2.1.2.2.2 h3) ?_
    refine o_istore_n dX9_numberIn_4 rfl (by decide) ?_
    refine o_aload_n dX9_numberIn_5 rfl rfl ?_
    refine o_aload_n dX9_numberIn_6 rfl rfl ?_
    refine o_getI (v := nI (tk T s)) dX9_numberIn_7 fgX9_63 sh_106 rfl hP.2.1.2.2.1 ?_
    refine o_iconst (v := nI 3) dX9_numberIn_10 (by decide) ?_
    refine o_icmpN_ne (tgt := 27) dX9_numberIn_11 (by decide) (by omega) (by omega) (fun b_8 => absurd b_8 (by omega)) (fun b_8 => ?_)
    refine o_iload_n dX9_numberIn_14 rfl rfl ?_
    refine o_iload_n dX9_numberIn_15 rfl rfl ?_
    refine o_iload_n dX9_numberIn_16 rfl rfl ?_
    refine o_callSp (v := .int (nI 0)) (as := [.int (nI (tv T s)), .int (nI lo), .int hi]) (st := [.ref 106]) dX9_numberIn_17 (c_inN _ (fun q => hno ⟨h3, (nI_leI (by omega) (by omega)).mp q.1, (le_pred (by omega) (by omega)).mp (by rw [← hh]; exact q.2)⟩)) rfl meX9_in ssX9_in mlX9_43 (by omega) (by decide) (Nat.le_of_ble_eq_true rfl) ?_
    refine o_ifN_eq (tgt := 27) dX9_numberIn_20 (by decide) (by omega) (fun b_9 => ?_) (fun b_9 => absurd b_9 (by omega))
    refine o_iconst (v := nI 0) dX9_numberIn_27 (by decide) ?_
    refine o_callV (as := [.int (nI 0)]) (st := []) dX9_numberIn_28 (c_takesN h60 hT2 hs hP) rfl meX9_takes imX9_takes seX9_takes mlX9_82 sh_106 rfl rfl (by omega) (by decide) (Nat.le_of_ble_eq_true rfl) ?_
    rintro _ I1 ⟨rfl, hF, hf⟩
    refine o_iload_n dX9_numberIn_31 rfl rfl ?_
    exact o_iret dX9_numberIn_32 rfl ⟨⟨_, rfl⟩, hF, hf⟩
  · refine o_aload_n dX9_numberIn_0 rfl rfl ?_
    refine o_getI (v := I 106 14) dX9_numberIn_1 fgX9_60 sh_106 rfl rfl ?_
    refine o_istore_n dX9_numberIn_4 rfl (by decide) ?_
    refine o_aload_n dX9_numberIn_5 rfl rfl ?_
    refine o_aload_n dX9_numberIn_6 rfl rfl ?_
    refine o_getI (v := nI (tk T s)) dX9_numberIn_7 fgX9_63 sh_106 rfl hP.2.1.2.2.1 ?_
    refine o_iconst (v := nI 3) dX9_numberIn_10 (by decide) ?_
    refine o_icmpN_ne (tgt := 27) dX9_numberIn_11 (by decide) (by omega) (by omega) (fun b_10 => ?_) (fun b_10 => absurd b_10 (by omega))
    refine o_iconst (v := nI 0) dX9_numberIn_27 (by decide) ?_
    refine o_callV (as := [.int (nI 0)]) (st := []) dX9_numberIn_28 (c_takesN h60 hT2 hs hP) rfl meX9_takes imX9_takes seX9_takes mlX9_82 sh_106 rfl rfl (by omega) (by decide) (Nat.le_of_ble_eq_true rfl) ?_
    rintro _ I1 ⟨rfl, hF, hf⟩
    refine o_iload_n dX9_numberIn_31 rfl rfl ?_
    exact o_iret dX9_numberIn_32 rfl ⟨⟨_, rfl⟩, hF, hf⟩

set_option maxHeartbeats 4000000 in
set_option maxRecDepth 100000 in
theorem c_num {I : sm_I} {T : TX} (h60 : T.1 ≤ 60) (hT2 : ∀ j, j < T.1 → T.2 j < 256) {s : Nat} (hs : s ≤ T.1) (hP : PS I T s) {lo n : Nat} {hi : Int32} (hh : hi = nI n - nI 1) (hlo : lo ≤ 999) (hn : n ≤ 999) : E0 4 mX9_numberIn [.ref 106, .int (nI lo), .int hi] I (fun r I' => ((tk T s = 3 ∧ lo ≤ tv T s ∧ tv T s < n) ∧ r = some (.int (nI (tv T s))) ∧ PS I' T (px T s) ∧ frQ I I') ∨ (¬ (tk T s = 3 ∧ lo ≤ tv T s ∧ tv T s < n) ∧ (∃ v, r = some (.int v)) ∧ FS I' s ∧ frQ I I')) := by
  by_cases h : tk T s = 3 ∧ lo ≤ tv T s ∧ tv T s < n
  · exact E0.mono (fun r I' q => Or.inl ⟨h, q⟩) (c_numY h60 hT2 hs hP hh hlo hn h.1 h.2.1 h.2.2)
  · exact E0.mono (fun r I' q => Or.inr ⟨h, q⟩) (c_numN h60 hT2 hs hP hh hlo hn h)

set_option maxHeartbeats 4000000 in
set_option maxRecDepth 100000 in
theorem c_numF {I : sm_I} {f : Nat} (hF : FS I f) (lo hi : Int32) : E0 4 mX9_numberIn [.ref 106, .int lo, .int hi] I (fun r I' => (∃ v, r = some (.int v)) ∧ I' = I) := by
  refine E0.of (by decide) (by simp [Value.category]) (Nat.le_of_ble_eq_true rfl) (fun ζ => ?_)
  refine o_aload_n dX9_numberIn_0 rfl rfl ?_
  refine o_getI (v := I 106 14) dX9_numberIn_1 fgX9_60 sh_106 rfl rfl ?_
  refine o_istore_n dX9_numberIn_4 rfl (by decide) ?_
  refine o_aload_n dX9_numberIn_5 rfl rfl ?_
  refine o_aload_n dX9_numberIn_6 rfl rfl ?_
  refine o_getI (v := I 106 13) dX9_numberIn_7 fgX9_63 sh_106 rfl rfl ?_
  refine o_iconst (v := nI 3) dX9_numberIn_10 (by decide) ?_
  refine o_icmp_ne (tgt := 27) dX9_numberIn_11 (by decide) (fun b_11 => ?_) (fun b_11 => ?_)
  · refine o_iconst (v := nI 0) dX9_numberIn_27 (by decide) ?_
    refine o_callV (as := [.int (nI 0)]) (st := []) dX9_numberIn_28 (c_takesF hF _) rfl meX9_takes imX9_takes seX9_takes mlX9_82 sh_106 rfl rfl (by omega) (by decide) (Nat.le_of_ble_eq_true rfl) ?_
    rintro _ _ ⟨rfl, rfl⟩
    refine o_iload_n dX9_numberIn_31 rfl rfl ?_
    exact o_iret dX9_numberIn_32 rfl ⟨⟨_, rfl⟩, rfl⟩
  · refine o_iload_n dX9_numberIn_14 rfl rfl ?_
    refine o_iload_n dX9_numberIn_15 rfl rfl ?_
    refine o_iload_n dX9_numberIn_16 rfl rfl ?_
    refine o_callS (as := [.int (I 106 14), .int lo, .int hi]) (st := [.ref 106]) dX9_numberIn_17 (c_in _ _ _ _) rfl meX9_in ssX9_in mlX9_43 (by omega) (by decide) (Nat.le_of_ble_eq_true rfl) ?_
    rintro _ _ ⟨rfl, ⟨h1, h2, rfl⟩ | ⟨h, rfl⟩⟩
    · refine o_ifN_eq (tgt := 27) dX9_numberIn_20 (by decide) (by omega) (fun b_12 => absurd b_12 (by omega)) (fun b_12 => ?_)
      refine o_iconst (v := nI 1) dX9_numberIn_23 (by decide) ?_
      refine o_goto (tgt := 28) dX9_numberIn_24 (by decide) ?_
      refine o_callV (as := [.int (nI 1)]) (st := []) dX9_numberIn_28 (c_takesF hF _) rfl meX9_takes imX9_takes seX9_takes mlX9_82 sh_106 rfl rfl (by omega) (by decide) (Nat.le_of_ble_eq_true rfl) ?_
      rintro _ _ ⟨rfl, rfl⟩
      refine o_iload_n dX9_numberIn_31 rfl rfl ?_
      exact o_iret dX9_numberIn_32 rfl ⟨⟨_, rfl⟩, rfl⟩
    · refine o_ifN_eq (tgt := 27) dX9_numberIn_20 (by decide) (by omega) (fun b_13 => ?_) (fun b_13 => absurd b_13 (by omega))
      refine o_iconst (v := nI 0) dX9_numberIn_27 (by decide) ?_
      refine o_callV (as := [.int (nI 0)]) (st := []) dX9_numberIn_28 (c_takesF hF _) rfl meX9_takes imX9_takes seX9_takes mlX9_82 sh_106 rfl rfl (by omega) (by decide) (Nat.le_of_ble_eq_true rfl) ?_
      rintro _ _ ⟨rfl, rfl⟩
      refine o_iload_n dX9_numberIn_31 rfl rfl ?_
      exact o_iret dX9_numberIn_32 rfl ⟨⟨_, rfl⟩, rfl⟩

def DK (I : sm_I) (K : KT) : Prop := MK I 108 0 K ∧ ∀ q, 6 * K.1 ≤ q → q < 24 → I 108 q = nI 0
theorem DK.of {I I' : sm_I} {K : KT} (h : DK I K) (hk : ∀ k, I' 108 k = I 108 k) : DK I' K := ⟨h.1.of hk, fun q h1 h2 => (hk q).trans (h.2 q h1 h2)⟩
theorem DK.frQ {I I' : sm_I} {K : KT} (h : DK I K) (hf : frQ I I') : DK I' K := h.of (fun k => hf _ _ (by omega))
theorem DK.push {I I' : sm_I} {K : KT} (h : DK I K) (h4 : K.1 < 4) {S H B : Nat} (e24 : I' 108 24 = nI (K.1 + 1)) (e0 : I' 108 (6 * K.1 + 0) = nI S) (e1 : I' 108 (6 * K.1 + 1) = nI H) (e2 : I' 108 (6 * K.1 + 2) = nI B) (e3 : I' 108 (6 * K.1 + 3) = nI 1) (ex : ∀ k, ¬ (k = 24 ∨ (6 * K.1 ≤ k ∧ k ≤ 6 * K.1 + 3)) → I' 108 k = I 108 k) : DK I' (kpush K S H B) := by
  refine ⟨⟨e24, fun c f hc hf => ?_⟩, fun q h1 h2 => ?_⟩
  · have hc' : c < K.1 + 1 := hc
    rw [Nat.zero_add]
    by_cases hx : c = K.1
    · subst hx
      show _ = nI (if K.1 = K.1 then (if f = 0 then S else if f = 1 then H else if f = 2 then B else if f = 3 then 1 else 0) else K.2 K.1 f)
      rw [if_pos rfl]
      by_cases f0 : f = 0
      · subst f0; exact e0
      by_cases f1 : f = 1
      · subst f1; exact e1
      by_cases f2 : f = 2
      · subst f2; exact e2
      by_cases f3 : f = 3
      · subst f3; exact e3
      rw [if_neg f0, if_neg f1, if_neg f2, if_neg f3, ex _ (by omega)]
      exact h.2 _ (by omega) (by omega)
    · show _ = nI (if c = K.1 then (if f = 0 then S else if f = 1 then H else if f = 2 then B else if f = 3 then 1 else 0) else K.2 c f)
      rw [if_neg hx, ex _ (by omega)]
      exact h.1.at0 (by omega) hf
  · have h1' : 6 * (K.1 + 1) ≤ q := h1
    rw [ex _ (by omega)]
    exact h.2 q (by omega) h2
theorem DK.stands {I : sm_I} {K : KT} (h : DK I K) (hn : K.1 ≤ 4) {c : Nat} (hc : c < K.1) : DK (up2 I 108 (6 * c + 3) (nI 0)) (kset K c 3 0) := by
  refine ⟨⟨(up2_x (by omega)).trans h.1.1, fun c' f' hc' hf' => ?_⟩, fun q h1 h2 => ?_⟩
  · have hc'' : c' < K.1 := hc'
    rw [Nat.zero_add]
    by_cases hx : c' = c ∧ f' = 3
    · obtain ⟨rfl, rfl⟩ := hx
      rw [up2_s, kset_s]
    · rw [up2_x (by omega), kset_x hx]
      exact h.1.at0 hc'' hf'
  · have h1' : 6 * K.1 ≤ q := h1
    exact (up2_x (by omega)).trans (h.2 q h1' h2)
/-- a clause up to its end -/
def rcask (T : TX) (s : Nat) (K : KT) : Nat ⊕ (Nat × KT) :=
  if ¬ K.1 < 4 then .inl s else if ¬ (tk T (px T s) = 3 ∧ 1 ≤ tv T (px T s) ∧ tv T (px T s) < 13) then .inl (px T s) else if ¬ (tk T (px T (px T s)) = 3 ∧ 1 ≤ tv T (px T (px T s)) ∧ tv T (px T (px T s)) < 21) then .inl (px T (px T s)) else if ¬ (tk T (px T (px T (px T s))) = 3 ∧ tv T (px T (px T s)) ≤ tv T (px T (px T (px T s))) ∧ tv T (px T (px T (px T s))) < 21) then .inl (px T (px T (px T s))) else .inr (px T (px T (px T (px T s))), kpush K (tv T (px T s)) (tv T (px T (px T s))) (tv T (px T (px T (px T s)))))
def rstands (T : TX) (s : Nat) (K : KT) : Nat ⊕ (Nat × KT) :=
  if ¬ (tk T (px T s) = 3 ∧ 0 ≤ tv T (px T s) ∧ tv T (px T s) < K.1) then .inl (px T s) else .inr (px T (px T s), kset K (tv T (px T s)) 3 0)
def rend (T : TX) (q : Nat ⊕ (Nat × KT)) (k : Nat → KT → Nat ⊕ (Nat × KT)) : Nat ⊕ (Nat × KT) := match q with
  | .inl f => .inl f
  | .inr (s, K) => if tk T s = 4 then k (px T s) K else .inl s
theorem pr_eq (T : TX) (f s : Nat) (K : KT) (n : Nat) : pr T (f + 1) s K n = if tk T s = 0 then .inr (n, K) else if tk T s = 1 then rend T (rcask T s K) (fun s K => pr T f s K (n + 1)) else if tk T s = 2 then rend T (rstands T s K) (fun s K => pr T f s K (n + 1)) else .inl s := by
  rw [pr]
  unfold rcask rstands
  by_cases h0 : tk T s = 0
  · rw [if_pos h0, if_pos h0]
  rw [if_neg h0, if_neg h0]
  by_cases h1 : tk T s = 1
  · rw [if_pos h1, if_pos h1]
    split
    · rfl
    · split
      · rfl
      · split
        · rfl
        · split
          · rfl
          · rfl
  rw [if_neg h1, if_neg h1]
  by_cases h2 : tk T s = 2
  · rw [if_pos h2, if_pos h2]
    split
    · rfl
    · rfl
  rw [if_neg h2, if_neg h2]
def RD (I : sm_I) (T : TX) (q : Nat ⊕ (Nat × KT)) : Prop := (∃ f, q = .inl f ∧ FS I f) ∨ (∃ s K, q = .inr (s, K) ∧ s ≤ T.1 ∧ PS I T s ∧ DK I K)

set_option maxHeartbeats 4000000 in
set_option maxRecDepth 100000 in
theorem c_readsCask {I : sm_I} {T : TX} (h60 : T.1 ≤ 60) (hT2 : ∀ j, j < T.1 → T.2 j < 256) {s : Nat} (hs : s ≤ T.1) (hP : PS I T s) {K : KT} (hD : DK I K) (hn : K.1 ≤ 4) : E0 5 mX9_readsCask [.ref 106] I (fun r I' => r = none ∧ RD I' T (rcask T s K) ∧ frP I I') := by
  refine E0.of (by decide) (by simp [Value.category]) (Nat.le_of_ble_eq_true rfl) (fun ζ => ?_)
  refine o_aload_n dX9_readsCask_0 rfl rfl ?_
  refine o_aload_n dX9_readsCask_1 rfl rfl ?_
  refine o_getR (b := 108) dX9_readsCask_2 fgX9_13 sh_106 rfl rfl ?_
  refine o_bipush (v := nI 24) dX9_readsCask_5 (by decide) ?_
  refine o_ialdN (v := nI K.1) dX9_readsCask_7 sh_108 (by decide) (by omega) hD.1.1 ?_
  refine o_iconst (v := nI 4) dX9_readsCask_8 (by decide) ?_
  refine o_icmpN_ge (tgt := 16) dX9_readsCask_9 (by decide) (by omega) (by omega) (fun b_14 => ?_) (fun b_14 => ?_)
  · refine o_iconst (v := nI 0) dX9_readsCask_16 (by decide) ?_
    refine o_callV (as := [.int (nI 0)]) (st := []) dX9_readsCask_17 (c_takesN h60 hT2 hs hP) rfl meX9_takes imX9_takes seX9_takes mlX9_82 sh_106 rfl rfl (by omega) (by decide) (Nat.le_of_ble_eq_true rfl) ?_
    rintro _ I1 ⟨rfl, hF1, r1⟩
    · refine o_aload_n dX9_readsCask_20 rfl rfl ?_
      refine o_iconst (v := nI 1) dX9_readsCask_21 (by decide) ?_
      refine o_bipush (v := nI 12) dX9_readsCask_22 (by decide) ?_
      refine o_callV (as := [.int (nI 1), .int (nI 12)]) (st := []) dX9_readsCask_24 (c_numF hF1 _ _) rfl meX9_numberIn imX9_numberIn seX9_numberIn mlX9_86 sh_106 rfl rfl (by omega) (by decide) (Nat.le_of_ble_eq_true rfl) ?_
      rintro _ _ ⟨⟨_, rfl⟩, rfl⟩
      refine o_istore_n dX9_readsCask_27 rfl (by decide) ?_
      refine o_aload_n dX9_readsCask_28 rfl rfl ?_
      refine o_iconst (v := nI 1) dX9_readsCask_29 (by decide) ?_
      refine o_bipush (v := nI 20) dX9_readsCask_30 (by decide) ?_
      refine o_callV (as := [.int (nI 1), .int (nI 20)]) (st := []) dX9_readsCask_32 (c_numF hF1 _ _) rfl meX9_numberIn imX9_numberIn seX9_numberIn mlX9_86 sh_106 rfl rfl (by omega) (by decide) (Nat.le_of_ble_eq_true rfl) ?_
      rintro _ _ ⟨⟨_, rfl⟩, rfl⟩
      refine o_istore_n dX9_readsCask_35 rfl (by decide) ?_
      refine o_aload_n dX9_readsCask_36 rfl rfl ?_
      refine o_iload_n dX9_readsCask_37 rfl rfl ?_
      refine o_bipush (v := nI 20) dX9_readsCask_38 (by decide) ?_
      refine o_callV (as := [.int _, .int (nI 20)]) (st := []) dX9_readsCask_40 (c_numF hF1 _ _) rfl meX9_numberIn imX9_numberIn seX9_numberIn mlX9_86 sh_106 rfl rfl (by omega) (by decide) (Nat.le_of_ble_eq_true rfl) ?_
      rintro _ _ ⟨⟨_, rfl⟩, rfl⟩
      refine o_istore_n dX9_readsCask_43 rfl (by decide) ?_
      refine o_aload_n dX9_readsCask_44 rfl rfl ?_
      refine o_getI (v := nI s) dX9_readsCask_45 fgX9_76 sh_106 rfl hF1.2 ?_
      refine o_bipush (v := (-9)) dX9_readsCask_48 (by decide) ?_
      refine o_icmp_ne (tgt := 116) dX9_readsCask_50 (by decide) (fun b_15 => ?_) (fun b_15 => absurd b_15 (ne9 hF1.1))
      exact o_vret dX9_readsCask_116 rfl ⟨rfl, Or.inl ⟨_, by rw [rcask, if_pos (by omega : ¬ K.1 < 4)], hF1⟩, r1.P⟩
  · refine o_iconst (v := nI 1) dX9_readsCask_12 (by decide) ?_
    refine o_goto (tgt := 17) dX9_readsCask_13 (by decide) ?_
    refine o_callV (as := [.int (nI 1)]) (st := []) dX9_readsCask_17 (c_takesY h60 hT2 hs hP) rfl meX9_takes imX9_takes seX9_takes mlX9_82 sh_106 rfl rfl (by omega) (by decide) (Nat.le_of_ble_eq_true rfl) ?_
    rintro _ I1 ⟨rfl, hP1, r1⟩
    · refine o_aload_n dX9_readsCask_20 rfl rfl ?_
      refine o_iconst (v := nI 1) dX9_readsCask_21 (by decide) ?_
      refine o_bipush (v := nI 12) dX9_readsCask_22 (by decide) ?_
      refine o_callV (as := [.int (nI 1), .int (nI 12)]) (st := []) dX9_readsCask_24 (c_num h60 hT2 (px_le hs) hP1 (n := 13) (by decide) (by omega) (by omega)) rfl meX9_numberIn imX9_numberIn seX9_numberIn mlX9_86 sh_106 rfl rfl (by omega) (by decide) (Nat.le_of_ble_eq_true rfl) ?_
      rintro _ I2 (⟨w2, rfl, hP2, r2⟩ | ⟨w2, ⟨_, rfl⟩, hF2, r2⟩)
      · refine o_istore_n dX9_readsCask_27 rfl (by decide) ?_
        refine o_aload_n dX9_readsCask_28 rfl rfl ?_
        refine o_iconst (v := nI 1) dX9_readsCask_29 (by decide) ?_
        refine o_bipush (v := nI 20) dX9_readsCask_30 (by decide) ?_
        refine o_callV (as := [.int (nI 1), .int (nI 20)]) (st := []) dX9_readsCask_32 (c_num h60 hT2 (px_le (px_le hs)) hP2 (n := 21) (by decide) (by omega) (by omega)) rfl meX9_numberIn imX9_numberIn seX9_numberIn mlX9_86 sh_106 rfl rfl (by omega) (by decide) (Nat.le_of_ble_eq_true rfl) ?_
        rintro _ I3 (⟨w3, rfl, hP3, r3⟩ | ⟨w3, ⟨_, rfl⟩, hF3, r3⟩)
        · refine o_istore_n dX9_readsCask_35 rfl (by decide) ?_
          refine o_aload_n dX9_readsCask_36 rfl rfl ?_
          refine o_iload_n dX9_readsCask_37 rfl rfl ?_
          refine o_bipush (v := nI 20) dX9_readsCask_38 (by decide) ?_
          refine o_callV (as := [.int (nI (tv T (px T (px T s)))), .int (nI 20)]) (st := []) dX9_readsCask_40 (c_num h60 hT2 (px_le (px_le (px_le hs))) hP3 (n := 21) (by decide) (Nat.le_of_lt (Nat.lt_of_lt_of_le w3.2.2 (by omega))) (by omega)) rfl meX9_numberIn imX9_numberIn seX9_numberIn mlX9_86 sh_106 rfl rfl (by omega) (by decide) (Nat.le_of_ble_eq_true rfl) ?_
          rintro _ I4 (⟨w4, rfl, hP4, r4⟩ | ⟨w4, ⟨_, rfl⟩, hF4, r4⟩)
          · refine o_istore_n dX9_readsCask_43 rfl (by decide) ?_
            refine o_aload_n dX9_readsCask_44 rfl rfl ?_
            refine o_getI (v := (-9)) dX9_readsCask_45 fgX9_76 sh_106 rfl hP4.2.2 ?_
            refine o_bipush (v := (-9)) dX9_readsCask_48 (by decide) ?_
            refine o_icmp_ne (tgt := 116) dX9_readsCask_50 (by decide) (fun b_16 => absurd b_16 (by decide)) (fun b_16 => ?_)
            refine o_bipush (v := nI 6) dX9_readsCask_53 (by decide) ?_
            refine o_aload_n dX9_readsCask_55 rfl rfl ?_
            refine o_getR (b := 108) dX9_readsCask_56 fgX9_13 sh_106 rfl rfl ?_
            refine o_bipush (v := nI 24) dX9_readsCask_59 (by decide) ?_
            refine o_ialdN (v := nI K.1) dX9_readsCask_61 sh_108 (by decide) (by omega) ((hD.frQ (((r1.trans r2).trans r3).trans r4)).1.1) ?_
            refine o_imulN dX9_readsCask_62 ?_
            refine o_istore dX9_readsCask_63 (by decide) ?_
            refine o_aload_n dX9_readsCask_65 rfl rfl ?_
            refine o_getR (b := 108) dX9_readsCask_66 fgX9_13 sh_106 rfl rfl ?_
            refine o_iload dX9_readsCask_69 rfl ?_
            refine o_iconst (v := nI 0) dX9_readsCask_71 (by decide) ?_
            refine o_iaddN dX9_readsCask_72 ?_
            refine o_iload_n dX9_readsCask_73 rfl rfl ?_
            refine o_iastN dX9_readsCask_74 sh_108 (by decide) (by omega) ?_
            refine o_aload_n dX9_readsCask_75 rfl rfl ?_
            refine o_getR (b := 108) dX9_readsCask_76 fgX9_13 sh_106 rfl rfl ?_
            refine o_iload dX9_readsCask_79 rfl ?_
            refine o_iconst (v := nI 1) dX9_readsCask_81 (by decide) ?_
            refine o_iaddN dX9_readsCask_82 ?_
            refine o_iload_n dX9_readsCask_83 rfl rfl ?_
            refine o_iastN dX9_readsCask_84 sh_108 (by decide) (by omega) ?_
            refine o_aload_n dX9_readsCask_85 rfl rfl ?_
            refine o_getR (b := 108) dX9_readsCask_86 fgX9_13 sh_106 rfl rfl ?_
            refine o_iload dX9_readsCask_89 rfl ?_
            refine o_iconst (v := nI 2) dX9_readsCask_91 (by decide) ?_
            refine o_iaddN dX9_readsCask_92 ?_
            refine o_iload_n dX9_readsCask_93 rfl rfl ?_
            refine o_iastN dX9_readsCask_94 sh_108 (by decide) (by omega) ?_
            refine o_aload_n dX9_readsCask_95 rfl rfl ?_
            refine o_getR (b := 108) dX9_readsCask_96 fgX9_13 sh_106 rfl rfl ?_
            refine o_iload dX9_readsCask_99 rfl ?_
            refine o_iconst (v := nI 3) dX9_readsCask_101 (by decide) ?_
            refine o_iaddN dX9_readsCask_102 ?_
            refine o_iconst (v := nI 1) dX9_readsCask_103 (by decide) ?_
            refine o_iastN dX9_readsCask_104 sh_108 (by decide) (by omega) ?_
            refine o_aload_n dX9_readsCask_105 rfl rfl ?_
            refine o_getR (b := 108) dX9_readsCask_106 fgX9_13 sh_106 rfl rfl ?_
            refine o_bipush (v := nI 24) dX9_readsCask_109 (by decide) ?_
            refine o_dup2 dX9_readsCask_111 rfl rfl ?_
            refine o_ialdN (v := nI K.1) dX9_readsCask_112 sh_108 (by decide) (by omega) ((up2_x (by omega)).trans ((up2_x (by omega)).trans ((up2_x (by omega)).trans ((up2_x (by omega)).trans (hD.frQ (((r1.trans r2).trans r3).trans r4)).1.1)))) ?_
            refine o_iconst (v := nI 1) dX9_readsCask_113 (by decide) ?_
            refine o_iaddN dX9_readsCask_114 ?_
            refine o_iastN dX9_readsCask_115 sh_108 (by decide) (by omega) ?_
            exact o_vret dX9_readsCask_116 rfl ⟨rfl, Or.inr ⟨_, _, by rw [rcask, if_neg (by omega : ¬ ¬ K.1 < 4), if_neg (fun z => z w2), if_neg (fun z => z w3), if_neg (fun z => z w4)], px_le (px_le (px_le (px_le hs))), ⟨(hP4.1.of ((up2_x (by omega)).trans ((up2_x (by omega)).trans ((up2_x (by omega)).trans ((up2_x (by omega)).trans ((up2_x (by omega)).trans rfl))))) (fun k => ((up2_x (by omega)).trans ((up2_x (by omega)).trans ((up2_x (by omega)).trans ((up2_x (by omega)).trans ((up2_x (by omega)).trans rfl))))))), ⟨((up2_x (by omega)).trans ((up2_x (by omega)).trans ((up2_x (by omega)).trans ((up2_x (by omega)).trans ((up2_x (by omega)).trans hP4.2.1.1))))), ((up2_x (by omega)).trans ((up2_x (by omega)).trans ((up2_x (by omega)).trans ((up2_x (by omega)).trans ((up2_x (by omega)).trans hP4.2.1.2.1))))), ((up2_x (by omega)).trans ((up2_x (by omega)).trans ((up2_x (by omega)).trans ((up2_x (by omega)).trans ((up2_x (by omega)).trans hP4.2.1.2.2.1))))), fun q => ((up2_x (by omega)).trans ((up2_x (by omega)).trans ((up2_x (by omega)).trans ((up2_x (by omega)).trans ((up2_x (by omega)).trans (hP4.2.1.2.2.2 q))))))⟩, ((up2_x (by omega)).trans ((up2_x (by omega)).trans ((up2_x (by omega)).trans ((up2_x (by omega)).trans ((up2_x (by omega)).trans hP4.2.2)))))⟩, (hD.frQ (((r1.trans r2).trans r3).trans r4)).push (by omega) up2_s ((up2_x (by omega)).trans ((up2_x (by omega)).trans ((up2_x (by omega)).trans ((up2_x (by omega)).trans up2_s)))) ((up2_x (by omega)).trans ((up2_x (by omega)).trans ((up2_x (by omega)).trans up2_s))) ((up2_x (by omega)).trans ((up2_x (by omega)).trans up2_s)) ((up2_x (by omega)).trans up2_s) (fun k hk => ((up2_x (by omega)).trans ((up2_x (by omega)).trans ((up2_x (by omega)).trans ((up2_x (by omega)).trans ((up2_x (by omega)).trans rfl))))))⟩, ((((((((r1.trans r2).trans r3).trans r4).P.trans frP.up).trans frP.up).trans frP.up).trans frP.up).trans frP.up)⟩
          · refine o_istore_n dX9_readsCask_43 rfl (by decide) ?_
            refine o_aload_n dX9_readsCask_44 rfl rfl ?_
            refine o_getI (v := nI (px T (px T (px T s)))) dX9_readsCask_45 fgX9_76 sh_106 rfl hF4.2 ?_
            refine o_bipush (v := (-9)) dX9_readsCask_48 (by decide) ?_
            refine o_icmp_ne (tgt := 116) dX9_readsCask_50 (by decide) (fun b_17 => ?_) (fun b_17 => absurd b_17 (ne9 hF4.1))
            exact o_vret dX9_readsCask_116 rfl ⟨rfl, Or.inl ⟨_, by rw [rcask, if_neg (by omega : ¬ ¬ K.1 < 4), if_neg (fun z => z w2), if_neg (fun z => z w3), if_pos w4], hF4⟩, (((r1.trans r2).trans r3).trans r4).P⟩
        · refine o_istore_n dX9_readsCask_35 rfl (by decide) ?_
          refine o_aload_n dX9_readsCask_36 rfl rfl ?_
          refine o_iload_n dX9_readsCask_37 rfl rfl ?_
          refine o_bipush (v := nI 20) dX9_readsCask_38 (by decide) ?_
          refine o_callV (as := [.int _, .int (nI 20)]) (st := []) dX9_readsCask_40 (c_numF hF3 _ _) rfl meX9_numberIn imX9_numberIn seX9_numberIn mlX9_86 sh_106 rfl rfl (by omega) (by decide) (Nat.le_of_ble_eq_true rfl) ?_
          rintro _ _ ⟨⟨_, rfl⟩, rfl⟩
          refine o_istore_n dX9_readsCask_43 rfl (by decide) ?_
          refine o_aload_n dX9_readsCask_44 rfl rfl ?_
          refine o_getI (v := nI (px T (px T s))) dX9_readsCask_45 fgX9_76 sh_106 rfl hF3.2 ?_
          refine o_bipush (v := (-9)) dX9_readsCask_48 (by decide) ?_
          refine o_icmp_ne (tgt := 116) dX9_readsCask_50 (by decide) (fun b_18 => ?_) (fun b_18 => absurd b_18 (ne9 hF3.1))
          exact o_vret dX9_readsCask_116 rfl ⟨rfl, Or.inl ⟨_, by rw [rcask, if_neg (by omega : ¬ ¬ K.1 < 4), if_neg (fun z => z w2), if_pos w3], hF3⟩, ((r1.trans r2).trans r3).P⟩
      · refine o_istore_n dX9_readsCask_27 rfl (by decide) ?_
        refine o_aload_n dX9_readsCask_28 rfl rfl ?_
        refine o_iconst (v := nI 1) dX9_readsCask_29 (by decide) ?_
        refine o_bipush (v := nI 20) dX9_readsCask_30 (by decide) ?_
        refine o_callV (as := [.int (nI 1), .int (nI 20)]) (st := []) dX9_readsCask_32 (c_numF hF2 _ _) rfl meX9_numberIn imX9_numberIn seX9_numberIn mlX9_86 sh_106 rfl rfl (by omega) (by decide) (Nat.le_of_ble_eq_true rfl) ?_
        rintro _ _ ⟨⟨_, rfl⟩, rfl⟩
        refine o_istore_n dX9_readsCask_35 rfl (by decide) ?_
        refine o_aload_n dX9_readsCask_36 rfl rfl ?_
        refine o_iload_n dX9_readsCask_37 rfl rfl ?_
        refine o_bipush (v := nI 20) dX9_readsCask_38 (by decide) ?_
        refine o_callV (as := [.int _, .int (nI 20)]) (st := []) dX9_readsCask_40 (c_numF hF2 _ _) rfl meX9_numberIn imX9_numberIn seX9_numberIn mlX9_86 sh_106 rfl rfl (by omega) (by decide) (Nat.le_of_ble_eq_true rfl) ?_
        rintro _ _ ⟨⟨_, rfl⟩, rfl⟩
        refine o_istore_n dX9_readsCask_43 rfl (by decide) ?_
        refine o_aload_n dX9_readsCask_44 rfl rfl ?_
        refine o_getI (v := nI (px T s)) dX9_readsCask_45 fgX9_76 sh_106 rfl hF2.2 ?_
        refine o_bipush (v := (-9)) dX9_readsCask_48 (by decide) ?_
        refine o_icmp_ne (tgt := 116) dX9_readsCask_50 (by decide) (fun b_19 => ?_) (fun b_19 => absurd b_19 (ne9 hF2.1))
        exact o_vret dX9_readsCask_116 rfl ⟨rfl, Or.inl ⟨_, by rw [rcask, if_neg (by omega : ¬ ¬ K.1 < 4), if_pos w2], hF2⟩, (r1.trans r2).P⟩

set_option maxHeartbeats 4000000 in
set_option maxRecDepth 100000 in
theorem c_readsStands {I : sm_I} {T : TX} (h60 : T.1 ≤ 60) (hT2 : ∀ j, j < T.1 → T.2 j < 256) {s : Nat} (hs : s ≤ T.1) (hP : PS I T s) {K : KT} (hD : DK I K) (hn : K.1 ≤ 4) : E0 5 mX9_readsStands [.ref 106] I (fun r I' => r = none ∧ RD I' T (rstands T s K) ∧ frP I I') := by
  refine E0.of (by decide) (by simp [Value.category]) (Nat.le_of_ble_eq_true rfl) (fun ζ => ?_)
  refine o_aload_n dX9_readsStands_0 rfl rfl ?_
  refine o_iconst (v := nI 1) dX9_readsStands_1 (by decide) ?_
  refine o_callV (as := [.int (nI 1)]) (st := []) dX9_readsStands_2 (c_takesY h60 hT2 hs hP) rfl meX9_takes imX9_takes seX9_takes mlX9_82 sh_106 rfl rfl (by omega) (by decide) (Nat.le_of_ble_eq_true rfl) ?_
  rintro _ I1 ⟨rfl, hP1, r1⟩
  · refine o_aload_n dX9_readsStands_5 rfl rfl ?_
    refine o_iconst (v := nI 0) dX9_readsStands_6 (by decide) ?_
    refine o_aload_n dX9_readsStands_7 rfl rfl ?_
    refine o_getR (b := 108) dX9_readsStands_8 fgX9_13 sh_106 rfl rfl ?_
    refine o_bipush (v := nI 24) dX9_readsStands_11 (by decide) ?_
    refine o_ialdN (v := nI K.1) dX9_readsStands_13 sh_108 (by decide) (by omega) ((hD.frQ r1).1.1) ?_
    refine o_iconst (v := nI 1) dX9_readsStands_14 (by decide) ?_
    refine o_isub dX9_readsStands_15 ?_
    refine o_callV (as := [.int (nI 0), .int ((nI K.1) - (nI 1))]) (st := []) dX9_readsStands_16 (c_num h60 hT2 (px_le hs) hP1 (n := K.1) rfl (Nat.zero_le _) (by omega)) rfl meX9_numberIn imX9_numberIn seX9_numberIn mlX9_86 sh_106 rfl rfl (by omega) (by decide) (Nat.le_of_ble_eq_true rfl) ?_
    rintro _ I2 (⟨w2, rfl, hP2, r2⟩ | ⟨w2, ⟨_, rfl⟩, hF2, r2⟩)
    · refine o_istore_n dX9_readsStands_19 rfl (by decide) ?_
      refine o_aload_n dX9_readsStands_20 rfl rfl ?_
      refine o_getI (v := (-9)) dX9_readsStands_21 fgX9_76 sh_106 rfl hP2.2.2 ?_
      refine o_bipush (v := (-9)) dX9_readsStands_24 (by decide) ?_
      refine o_icmp_ne (tgt := 41) dX9_readsStands_26 (by decide) (fun b_20 => absurd b_20 (by decide)) (fun b_20 => ?_)
      refine o_aload_n dX9_readsStands_29 rfl rfl ?_
      refine o_getR (b := 108) dX9_readsStands_30 fgX9_13 sh_106 rfl rfl ?_
      refine o_bipush (v := nI 6) dX9_readsStands_33 (by decide) ?_
      refine o_iload_n dX9_readsStands_35 rfl rfl ?_
      refine o_imulN dX9_readsStands_36 ?_
      refine o_iconst (v := nI 3) dX9_readsStands_37 (by decide) ?_
      refine o_iaddN dX9_readsStands_38 ?_
      refine o_iconst (v := nI 0) dX9_readsStands_39 (by decide) ?_
      refine o_iastN dX9_readsStands_40 sh_108 (by decide) (by omega) ?_
      exact o_vret dX9_readsStands_41 rfl ⟨rfl, Or.inr ⟨_, _, by rw [rstands, if_neg (fun z => z w2)], px_le (px_le hs), ⟨(hP2.1.of ((up2_x (by omega)).trans rfl) (fun k => ((up2_x (by omega)).trans rfl))), ⟨((up2_x (by omega)).trans hP2.2.1.1), ((up2_x (by omega)).trans hP2.2.1.2.1), ((up2_x (by omega)).trans hP2.2.1.2.2.1), fun q => ((up2_x (by omega)).trans (hP2.2.1.2.2.2 q))⟩, ((up2_x (by omega)).trans hP2.2.2)⟩, (hD.frQ (r1.trans r2)).stands hn w2.2.2⟩, (r1.trans r2).P.trans frP.up⟩
    · refine o_istore_n dX9_readsStands_19 rfl (by decide) ?_
      refine o_aload_n dX9_readsStands_20 rfl rfl ?_
      refine o_getI (v := nI (px T s)) dX9_readsStands_21 fgX9_76 sh_106 rfl hF2.2 ?_
      refine o_bipush (v := (-9)) dX9_readsStands_24 (by decide) ?_
      refine o_icmp_ne (tgt := 41) dX9_readsStands_26 (by decide) (fun b_21 => ?_) (fun b_21 => absurd b_21 (ne9 hF2.1))
      exact o_vret dX9_readsStands_41 rfl ⟨rfl, Or.inl ⟨_, by rw [rstands, if_pos w2], hF2⟩, (r1.trans r2).P⟩
