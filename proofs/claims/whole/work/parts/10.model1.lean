set_option maxHeartbeats 4000000 in
set_option maxRecDepth 100000 in
theorem c_in (I : sm_I) (v lo hi : Int32) : E0 0 mX9_in [.int v, .int lo, .int hi] I (fun r I' => I' = I ∧ ((lo ≤ v ∧ v ≤ hi ∧ r = some (.int (nI 1))) ∨ (¬ (lo ≤ v ∧ v ≤ hi) ∧ r = some (.int (nI 0))))) := by
  refine E0.of (by decide) (by simp [Value.category]) (Nat.le_of_ble_eq_true rfl) (fun ζ => ?_)
  refine o_iload_n dX9_in_0 rfl rfl ?_
  refine o_iload_n dX9_in_1 rfl rfl ?_
  refine o_icmp_lt (tgt := 14) dX9_in_2 (by decide) (fun b_1 => ?_) (fun b_1 => ?_)
  · refine o_iconst (v := nI 0) dX9_in_14 (by decide) ?_
    exact o_zret dX9_in_15 rfl (by decide) ⟨rfl, Or.inr ⟨fun q => absurd q.1 (Int32.not_le.mpr b_1), rfl⟩⟩
  · refine o_iload_n dX9_in_5 rfl rfl ?_
    refine o_iload_n dX9_in_6 rfl rfl ?_
    refine o_icmp_gt (tgt := 14) dX9_in_7 (by decide) (fun b_2 => ?_) (fun b_2 => ?_)
    · refine o_iconst (v := nI 0) dX9_in_14 (by decide) ?_
      exact o_zret dX9_in_15 rfl (by decide) ⟨rfl, Or.inr ⟨fun q => absurd q.2 (Int32.not_le.mpr b_2), rfl⟩⟩
    · refine o_iconst (v := nI 1) dX9_in_10 (by decide) ?_
      refine o_goto (tgt := 15) dX9_in_11 (by decide) ?_
      exact o_zret dX9_in_15 rfl (by decide) ⟨rfl, Or.inl ⟨i32_nlt b_1, i32_nlt b_2, rfl⟩⟩

set_option maxHeartbeats 4000000 in
set_option maxRecDepth 100000 in
theorem c_of (I : sm_I) (c w : Nat) (h : 6 * c + w < 25) : E0 0 mX9_of [.ref 106, .int (nI c), .int (nI w)] I (fun r I' => I' = I ∧ r = some (.int (I 107 (6 * c + w)))) := by
  refine E0.of (by decide) (by simp [Value.category]) (Nat.le_of_ble_eq_true rfl) (fun ζ => ?_)
  refine o_aload_n dX9_of_0 rfl rfl ?_
  refine o_getR (b := 107) dX9_of_1 fgX9_7 sh_106 rfl rfl ?_
  refine o_bipush (v := nI 6) dX9_of_4 (by decide) ?_
  refine o_iload_n dX9_of_6 rfl rfl ?_
  refine o_imulN dX9_of_7 ?_
  refine o_iload_n dX9_of_8 rfl rfl ?_
  refine o_iaddN dX9_of_9 ?_
  refine o_ialdN (v := I 107 ((6 * c) + w)) dX9_of_10 sh_107 (by decide) h rfl ?_
  exact o_iret dX9_of_11 rfl ⟨rfl, rfl⟩
