set_option maxHeartbeats 4000000 in
set_option maxRecDepth 100000 in
theorem k_radius {I : sm_I} {b : Nat} (hb : SH b = (0, 0, [none, none, none, none, none, none])) {S H B : Nat} (q0 : 1 ≤ S) (q1 : S ≤ 12) (q2 : 1 ≤ H) (q3 : H ≤ B) (q4 : B ≤ 20) (e0 : I b 0 = nI S) (e1 : I b 1 = nI H) (e2 : I b 2 = nI B) {i : Nat} (hi : i < S) : E0 0 mX0_radiusOf [.ref b, .int (nI i)] I (fun r I' => I' = I ∧ r = some (.int (nI (cg_rad S H B i)))) := by
  have hSS := cg_SS q0 q1
  refine E0.of (by decide) (by simp [Value.category]) (Nat.le_of_ble_eq_true rfl) (fun ζ => ?_)
  refine o_aload_n dX0_radiusOf_0 rfl rfl ?_
  refine o_getI (v := nI S) dX0_radiusOf_1 fgX0_7 hb rfl e0 ?_
  refine o_aload_n dX0_radiusOf_4 rfl rfl ?_
  refine o_getI (v := nI S) dX0_radiusOf_5 fgX0_7 hb rfl e0 ?_
  refine o_imulN dX0_radiusOf_8 ?_
  refine o_istore_n dX0_radiusOf_9 rfl (by decide) ?_
  refine o_iload_n dX0_radiusOf_10 rfl rfl ?_
  refine o_ifN_ne (tgt := 19) dX0_radiusOf_11 (by decide) (by omega) (fun b_1 => ?_) (fun b_1 => absurd b_1 (by omega))
  refine o_iconst (v := nI 2) dX0_radiusOf_19 (by decide) ?_
  refine o_iload_n dX0_radiusOf_20 rfl rfl ?_
  refine o_imulN dX0_radiusOf_21 ?_
  refine o_iconst (v := nI 1) dX0_radiusOf_22 (by decide) ?_
  refine o_iaddN dX0_radiusOf_23 ?_
  refine o_aload_n dX0_radiusOf_24 rfl rfl ?_
  refine o_getI (v := nI S) dX0_radiusOf_25 fgX0_7 hb rfl e0 ?_
  refine o_isub dX0_radiusOf_28 ?_
  refine o_istore_n dX0_radiusOf_29 rfl (by decide) ?_
  refine o_aload_n dX0_radiusOf_30 rfl rfl ?_
  refine o_getI (v := nI B) dX0_radiusOf_31 fgX0_16 hb rfl e2 ?_
  refine o_aload_n dX0_radiusOf_34 rfl rfl ?_
  refine o_getI (v := nI B) dX0_radiusOf_35 fgX0_16 hb rfl e2 ?_
  refine o_aload_n dX0_radiusOf_38 rfl rfl ?_
  refine o_getI (v := nI H) dX0_radiusOf_39 fgX0_13 hb rfl e1 ?_
  refine o_isubN dX0_radiusOf_42 (by omega) ?_
  refine o_iload_n dX0_radiusOf_43 rfl rfl ?_
  refine o_imul dX0_radiusOf_44 ?_
  refine o_iload_n dX0_radiusOf_45 rfl rfl ?_
  refine o_imul dX0_radiusOf_46 ?_
  refine o_iload_n dX0_radiusOf_47 rfl rfl ?_
  refine o_idiv dX0_radiusOf_48 (nI_ne0 (cg_SS q0 q1).1 (cg_SS q0 q1).2) ?_
  refine o_isub dX0_radiusOf_49 ?_
  exact o_iret dX0_radiusOf_50 rfl ⟨rfl, by rw [rad_eq q0 q1 q4 hi]⟩

theorem sq4 (r : Nat) : 4 * (r + 1) * (r + 1) = 4 * r * r + 8 * r + 4 := by
  rw [Nat.mul_add 4 r 1, Nat.add_mul, Nat.mul_add, Nat.mul_add]
  omega
theorem sq22 (r : Nat) : 4 * r * r = 2 * r * (2 * r) := by
  rw [Nat.mul_assoc, Nat.mul_assoc, Nat.mul_left_comm r 2 r]
  omega

theorem lp_kcells {ζ : sm_Z} {d : Nat} {I : sm_I} {Q : Option Value → sm_I → Prop} {a0 a2 a3 : Option Value} {r m : Nat} (hr : r ≤ 20) (hm : m ≤ 4 * r * r) (hm2 : m ≤ 1600) (hq : Q (some (.int (nI (2 * cg_wl m 21 0)))) I) : ∀ f w : Nat, w + f = 21 → cg_wl m f w = cg_wl m 21 0 → w ≤ 20 → X0 ζ d mX0_cellsOf 27 [a0, some (.int (nI r)), a2, a3, some (.int (nI m)), some (.int (nI w))] [] I Q := by
  intro f
  induction f with
  | zero =>
    intro w hw he hb
    exact absurd hw (by omega)
  | succ f ih =>
    intro w hw he hb
    rw [cg_wl] at he
    have hb2 : 4 * (w + 1) * (w + 1) ≤ 4 * 21 * 21 := Nat.mul_le_mul (Nat.mul_le_mul_left 4 (by omega)) (by omega)
    have hb3 : w = 20 → 4 * (w + 1) * (w + 1) = 1764 := fun z => by subst z; rfl
    refine o_iload dX0_cellsOf_27 rfl ?_
    refine o_iload_n dX0_cellsOf_29 rfl rfl ?_
    refine o_icmpN_ge (tgt := 55) dX0_cellsOf_30 (by decide) (by omega) (by omega) (fun hge => ?_) (fun hge => ?_)
    · have hno : ¬ 4 * (w + 1) * (w + 1) ≤ m := fun z => by have h8 : 4 * (r + 1) * (r + 1) ≤ 4 * (w + 1) * (w + 1) := Nat.mul_le_mul (Nat.mul_le_mul_left 4 (by omega)) (by omega); rw [sq4 r] at h8; omega
      refine o_iconst (v := nI 2) dX0_cellsOf_55 (by decide) ?_
      refine o_iload dX0_cellsOf_56 rfl ?_
      refine o_imulN dX0_cellsOf_58 ?_
      exact o_iret dX0_cellsOf_59 rfl (by rw [if_neg hno] at he; rw [he]; exact hq)
    · refine o_iconst (v := nI 4) dX0_cellsOf_33 (by decide) ?_
      refine o_iload dX0_cellsOf_34 rfl ?_
      refine o_iconst (v := nI 1) dX0_cellsOf_36 (by decide) ?_
      refine o_iaddN dX0_cellsOf_37 ?_
      refine o_imulN dX0_cellsOf_38 ?_
      refine o_iload dX0_cellsOf_39 rfl ?_
      refine o_iconst (v := nI 1) dX0_cellsOf_41 (by decide) ?_
      refine o_iaddN dX0_cellsOf_42 ?_
      refine o_imulN dX0_cellsOf_43 ?_
      refine o_iload dX0_cellsOf_44 rfl ?_
      refine o_icmpN_gt (tgt := 55) dX0_cellsOf_46 (by decide) (by omega) (by omega) (fun b_3 => ?_) (fun b_3 => ?_)
      · refine o_iconst (v := nI 2) dX0_cellsOf_55 (by decide) ?_
        refine o_iload dX0_cellsOf_56 rfl ?_
        refine o_imulN dX0_cellsOf_58 ?_
        exact o_iret dX0_cellsOf_59 rfl (by rw [if_neg (by omega)] at he; rw [he]; exact hq)
      · refine o_iincN (w := 1) dX0_cellsOf_49 rfl (by decide) (by decide) ?_
        refine o_goto (tgt := 27) dX0_cellsOf_52 (by decide) ?_
        exact ih (w + 1) (by omega) (by rw [if_pos (by omega)] at he; exact he) (by omega)

set_option maxHeartbeats 4000000 in
set_option maxRecDepth 100000 in
theorem k_cells {I : sm_I} {b : Nat} (hb : SH b = (0, 0, [none, none, none, none, none, none])) {S H B : Nat} (q0 : 1 ≤ S) (q1 : S ≤ 12) (q2 : 1 ≤ H) (q3 : H ≤ B) (q4 : B ≤ 20) (e0 : I b 0 = nI S) (e1 : I b 1 = nI H) (e2 : I b 2 = nI B) {r j : Nat} (hr : r ≤ 20) (hj : j < 2 * B) : E0 0 mX0_cellsOf [.ref b, .int (nI r), .int (nI j)] I (fun r' I' => I' = I ∧ r' = some (.int (nI (2 * cg_wl (cg_room r j B) 21 0)))) := by
  refine E0.of (by decide) (by simp [Value.category]) (Nat.le_of_ble_eq_true rfl) (fun ζ => ?_)
  refine o_iconst (v := nI 2) dX0_cellsOf_0 (by decide) ?_
  refine o_iload_n dX0_cellsOf_1 rfl rfl ?_
  refine o_imulN dX0_cellsOf_2 ?_
  refine o_iconst (v := nI 1) dX0_cellsOf_3 (by decide) ?_
  refine o_iaddN dX0_cellsOf_4 ?_
  refine o_iconst (v := nI 2) dX0_cellsOf_5 (by decide) ?_
  refine o_aload_n dX0_cellsOf_6 rfl rfl ?_
  refine o_getI (v := nI B) dX0_cellsOf_7 fgX0_16 hb rfl e2 ?_
  refine o_imulN dX0_cellsOf_10 ?_
  refine o_isub dX0_cellsOf_11 ?_
  refine o_istore_n dX0_cellsOf_12 rfl (by decide) ?_
  refine o_iconst (v := nI 4) dX0_cellsOf_13 (by decide) ?_
  refine o_iload_n dX0_cellsOf_14 rfl rfl ?_
  refine o_imulN dX0_cellsOf_15 ?_
  refine o_iload_n dX0_cellsOf_16 rfl rfl ?_
  refine o_imulN dX0_cellsOf_17 ?_
  refine o_iload_n dX0_cellsOf_18 rfl rfl ?_
  refine o_iload_n dX0_cellsOf_19 rfl rfl ?_
  refine o_imul dX0_cellsOf_20 ?_
  rw [nI_sq]
  refine o_isub dX0_cellsOf_21 ?_
  refine o_istore dX0_cellsOf_22 (by decide) ?_
  have hup := cg_sq_lt (cg_up_le hj q4)
  have hrr := cg_sq_lt (x := 2 * r) (by omega)
  have h22 := sq22 r
  rcases Nat.lt_or_ge (4 * r * r) (cg_dist (2 * j + 1) (2 * B) * cg_dist (2 * j + 1) (2 * B)) with hlt | hge
  · refine o_iconst (v := nI 0) dX0_cellsOf_24 (by decide) ?_
    refine o_istore dX0_cellsOf_25 (by decide) ?_
    refine o_iload dX0_cellsOf_27 rfl ?_
    refine o_iload_n dX0_cellsOf_29 rfl rfl ?_
    refine o_icmpN_ge (tgt := 55) dX0_cellsOf_30 (by decide) (by omega) (by omega) (fun b_4 => ?_) (fun b_4 => ?_)
    · refine o_iconst (v := nI 2) dX0_cellsOf_55 (by decide) ?_
      refine o_iload dX0_cellsOf_56 rfl ?_
      refine o_imulN dX0_cellsOf_58 ?_
      exact o_iret dX0_cellsOf_59 rfl ⟨rfl, by rw [show cg_room r j B = 0 by unfold cg_room; omega, cg_wl_0]⟩
    · refine o_iconst (v := nI 4) dX0_cellsOf_33 (by decide) ?_
      refine o_iload dX0_cellsOf_34 rfl ?_
      refine o_iconst (v := nI 1) dX0_cellsOf_36 (by decide) ?_
      refine o_iaddN dX0_cellsOf_37 ?_
      refine o_imulN dX0_cellsOf_38 ?_
      refine o_iload dX0_cellsOf_39 rfl ?_
      refine o_iconst (v := nI 1) dX0_cellsOf_41 (by decide) ?_
      refine o_iaddN dX0_cellsOf_42 ?_
      refine o_imulN dX0_cellsOf_43 ?_
      refine o_iload dX0_cellsOf_44 rfl ?_
      refine o_icmp_gt (tgt := 55) dX0_cellsOf_46 (by decide) (fun b_5 => ?_) (fun b_5 => absurd b_5 (not_not_intro (Int32.lt_trans (pk_sneg (by omega) hlt) (by decide))))
      refine o_iconst (v := nI 2) dX0_cellsOf_55 (by decide) ?_
      refine o_iload dX0_cellsOf_56 rfl ?_
      refine o_imulN dX0_cellsOf_58 ?_
      exact o_iret dX0_cellsOf_59 rfl ⟨rfl, by rw [show cg_room r j B = 0 by unfold cg_room; omega, cg_wl_0]⟩
  · rw [pk_sub hge]
    refine o_iconst (v := nI 0) dX0_cellsOf_24 (by decide) ?_
    refine o_istore dX0_cellsOf_25 (by decide) ?_
    exact lp_kcells (by omega) (by omega) (by omega) ⟨rfl, by rw [show cg_room r j B = 4 * r * r - cg_dist (2 * j + 1) (2 * B) * cg_dist (2 * j + 1) (2 * B) by unfold cg_room; omega]⟩ 21 0 rfl rfl (by omega)

theorem rc_in {top : Nat} {y : Int32} (ht : top ≤ 40) (h1 : ¬ y < 0) (h2 : ¬ nI top < y) : ∃ j, j ≤ top ∧ y = nI j ∧ some (Value.int (nI 1)) = some (.int (nI 1)) := by
  obtain ⟨j, -, hj, rfl⟩ := in_nat (a := 0) (b := top) (by omega) (by omega) (Int32.not_lt.mp h1) (Int32.not_lt.mp h2)
  exact ⟨j, hj, rfl, rfl⟩

set_option maxHeartbeats 4000000 in
set_option maxRecDepth 100000 in
theorem k_reach {I : sm_I} {a : Nat} (ha : SH a = (0, 2, [none, some (a + 1), none, none, none, none])) (hA : SH (a + 1) = (1, 41, [])) {top : Nat} (ht : top ≤ 40) (e5 : I a 5 = nI top) (y : Int32) : E0 0 mX2_reach [.ref a, .int y] I (fun r I' => I' = I ∧ ((∃ j, j ≤ top ∧ y = nI j ∧ r = some (.int (nI 1))) ∨ (cg_in 0 top y = none ∧ r = some (.int (nI 0))))) := by
  refine E0.of (by decide) (by simp [Value.category]) (Nat.le_of_ble_eq_true rfl) (fun ζ => ?_)
  refine o_iload_n dX2_reach_0 rfl rfl ?_
  refine o_if_lt (tgt := 16) dX2_reach_1 (by decide) (fun b_6 => ?_) (fun b_6 => ?_)
  · refine o_iconst (v := nI 0) dX2_reach_16 (by decide) ?_
    exact o_zret dX2_reach_17 rfl (by decide) ⟨rfl, Or.inr ⟨cg_in_none (by decide) (by omega) (fun q => absurd q.1 (Int32.not_le.mpr b_6)), rfl⟩⟩
  · refine o_iload_n dX2_reach_4 rfl rfl ?_
    refine o_aload_n dX2_reach_5 rfl rfl ?_
    refine o_getI (v := nI top) dX2_reach_6 fgX2_40 ha rfl e5 ?_
    refine o_icmp_gt (tgt := 16) dX2_reach_9 (by decide) (fun b_7 => ?_) (fun b_7 => ?_)
    · refine o_iconst (v := nI 0) dX2_reach_16 (by decide) ?_
      exact o_zret dX2_reach_17 rfl (by decide) ⟨rfl, Or.inr ⟨cg_in_none (by decide) (by omega) (fun q => absurd q.2 (Int32.not_le.mpr b_7)), rfl⟩⟩
    · refine o_iconst (v := nI 1) dX2_reach_12 (by decide) ?_
      refine o_goto (tgt := 17) dX2_reach_13 (by decide) ?_
      exact o_zret dX2_reach_17 rfl (by decide) ⟨rfl, Or.inl (rc_in ht b_6 b_7)⟩

set_option maxHeartbeats 4000000 in
set_option maxRecDepth 100000 in
theorem k_reachY {I : sm_I} {a : Nat} (ha : SH a = (0, 2, [none, some (a + 1), none, none, none, none])) (hA : SH (a + 1) = (1, 41, [])) {top : Nat} (ht : top ≤ 40) (e5 : I a 5 = nI top) {y : Nat} (hy : y ≤ top) : E0 0 mX2_reach [.ref a, .int (nI y)] I (fun r I' => I' = I ∧ r = some (.int (nI 1))) := by
  refine E0.of (by decide) (by simp [Value.category]) (Nat.le_of_ble_eq_true rfl) (fun ζ => ?_)
  refine o_iload_n dX2_reach_0 rfl rfl ?_
  refine o_ifN_lt (tgt := 16) dX2_reach_1 (by decide) (by omega) ?_
  refine o_iload_n dX2_reach_4 rfl rfl ?_
  refine o_aload_n dX2_reach_5 rfl rfl ?_
  refine o_getI (v := nI top) dX2_reach_6 fgX2_40 ha rfl e5 ?_
  refine o_icmpN_gt (tgt := 16) dX2_reach_9 (by decide) (by omega) (by omega) (fun b_9 => absurd b_9 (by omega)) (fun b_9 => ?_)
  refine o_iconst (v := nI 1) dX2_reach_12 (by decide) ?_
  refine o_goto (tgt := 17) dX2_reach_13 (by decide) ?_
  exact o_zret dX2_reach_17 rfl (by decide) ⟨rfl, rfl⟩

set_option maxHeartbeats 4000000 in
set_option maxRecDepth 100000 in
theorem k_addAhead {I : sm_I} {a : Nat} (ha : SH a = (0, 2, [none, some (a + 1), none, none, none, none])) (hA : SH (a + 1) = (1, 41, [])) {top : Nat} (ht : top ≤ 40) (e5 : I a 5 = nI top) {y v w : Nat} (hy : y ≤ top) (hw : I (a + 1) y = nI w) : E0 1 mX2_addAhead [.ref a, .int (nI y), .int (nI v)] I (fun r I' => r = none ∧ I' = up2 I (a + 1) y (nI (w + v))) := by
  refine E0.of (by decide) (by simp [Value.category]) (Nat.le_of_ble_eq_true rfl) (fun ζ => ?_)
  refine o_aload_n dX2_addAhead_0 rfl rfl ?_
  refine o_iload_n dX2_addAhead_1 rfl rfl ?_
  refine o_callVp (v := .int (nI 1)) (as := [.int (nI y)]) (st := []) dX2_addAhead_2 (k_reachY ha hA ht e5 hy) rfl meX2_reach imX2_reach seX2_reach mlX2_54 ha rfl rfl (by omega) (by decide) (Nat.le_of_ble_eq_true rfl) ?_
  refine o_ifN_eq (tgt := 18) dX2_addAhead_5 (by decide) (by omega) (fun b_10 => absurd b_10 (by omega)) (fun b_10 => ?_)
  refine o_aload_n dX2_addAhead_8 rfl rfl ?_
  refine o_getR (b := a + 1) dX2_addAhead_9 fgX2_15 ha rfl rfl ?_
  refine o_iload_n dX2_addAhead_12 rfl rfl ?_
  refine o_dup2 dX2_addAhead_13 rfl rfl ?_
  refine o_ialdN (v := nI w) dX2_addAhead_14 hA (by decide) (by omega) hw ?_
  refine o_iload_n dX2_addAhead_15 rfl rfl ?_
  refine o_iaddN dX2_addAhead_16 ?_
  refine o_iastN dX2_addAhead_17 hA (by decide) (by omega) ?_
  exact o_vret dX2_addAhead_18 rfl ⟨rfl, rfl⟩

set_option maxHeartbeats 4000000 in
set_option maxRecDepth 100000 in
theorem k_amountAt {I : sm_I} {a : Nat} (ha : SH a = (0, 2, [none, some (a + 1), none, none, none, none])) (hA : SH (a + 1) = (1, 41, [])) {top : Nat} (ht : top ≤ 40) (e5 : I a 5 = nI top) {y w : Nat} (hy : y ≤ top) (hw : I (a + 1) y = nI w) : E0 1 mX2_amountAt [.ref a, .int (nI y)] I (fun r I' => I' = I ∧ r = some (.int (nI w))) := by
  refine E0.of (by decide) (by simp [Value.category]) (Nat.le_of_ble_eq_true rfl) (fun ζ => ?_)
  refine o_aload_n dX2_amountAt_0 rfl rfl ?_
  refine o_iload_n dX2_amountAt_1 rfl rfl ?_
  refine o_callVp (v := .int (nI 1)) (as := [.int (nI y)]) (st := []) dX2_amountAt_2 (k_reachY ha hA ht e5 hy) rfl meX2_reach imX2_reach seX2_reach mlX2_54 ha rfl rfl (by omega) (by decide) (Nat.le_of_ble_eq_true rfl) ?_
  refine o_ifN_eq (tgt := 17) dX2_amountAt_5 (by decide) (by omega) (fun b_11 => absurd b_11 (by omega)) (fun b_11 => ?_)
  refine o_aload_n dX2_amountAt_8 rfl rfl ?_
  refine o_getR (b := a + 1) dX2_amountAt_9 fgX2_15 ha rfl rfl ?_
  refine o_iload_n dX2_amountAt_12 rfl rfl ?_
  refine o_ialdN (v := nI w) dX2_amountAt_13 hA (by decide) (by omega) hw ?_
  refine o_goto (tgt := 18) dX2_amountAt_14 (by decide) ?_
  exact o_iret dX2_amountAt_18 rfl ⟨rfl, rfl⟩

def LM (I : sm_I) (a l S H B : Nat) : Prop := I a 0 = nI l ∧ I a 2 = nI S ∧ I a 3 = nI H ∧ I a 4 = nI B ∧ I a 5 = nI (cg_top S B l) ∧ ∀ y, y ≤ cg_top S B l → I (a + 1) y = nI (cg_U S H B l y)
def LevOK (I : sm_I) (a l : Nat) : Prop := (I a 0 = nI l ∧ I a 2 = nI 0) ∨ ∃ S H B, (1 ≤ S ∧ S ≤ 12 ∧ 1 ≤ H ∧ H ≤ B ∧ B ≤ 20) ∧ LM I a l S H B
def frLv (a : Nat) (I I' : sm_I) : Prop := ∀ x k, x ≠ a → x ≠ a + 1 → I' x k = I x k
theorem frLv.refl (a : Nat) (I : sm_I) : frLv a I I := fun _ _ _ _ => rfl
def am1 (S H B i j y : Nat) : Nat := cg_sum (fun k => cg_cell S H B k y) i + (if y < j then cg_cell S H B i y else 0)
def am0 (S H B i j y : Nat) : Nat := if y < i then cg_sum (cg_cell S H B y) (2 * B) else if y = i then cg_sum (cg_cell S H B i) j else 0
theorem am1_le {S H B i j y : Nat} (hi : i ≤ 12) : am1 S H B i j y ≤ 600 := by
  have h1 := cg_sum_le (f := fun k => cg_cell S H B k y) i (fun k _ => cg_cell_le S H B k y)
  have h2 := cg_cell_le S H B i y
  unfold am1
  split <;> omega
theorem am0_le {S H B i j y : Nat} (hB : B ≤ 20) (hj : j ≤ 40) : am0 S H B i j y ≤ 1680 := by
  have h1 := cg_sum_le (f := cg_cell S H B y) (2 * B) (fun k _ => cg_cell_le S H B y k)
  have h2 := cg_sum_le (f := cg_cell S H B i) j (fun k _ => cg_cell_le S H B i k)
  unfold am0
  split
  · omega
  · split <;> omega
def MF (I : sm_I) (a l S H B : Nat) : Prop := I a 0 = nI l ∧ I a 2 = nI S ∧ I a 3 = nI H ∧ I a 4 = nI B ∧ I a 5 = nI (cg_top S B l)
theorem MF.up {I : sm_I} {a l S H B k : Nat} {v : Int32} (h : MF I a l S H B) : MF (up2 I (a + 1) k v) a l S H B := ⟨(up2_x (by omega)).trans h.1, (up2_x (by omega)).trans h.2.1, (up2_x (by omega)).trans h.2.2.1, (up2_x (by omega)).trans h.2.2.2.1, (up2_x (by omega)).trans h.2.2.2.2⟩
theorem frLv.up {a k : Nat} {I J : sm_I} {v : Int32} (h : frLv a I J) : frLv a I (up2 J (a + 1) k v) := fun x q h1 h2 => (up2_x (by omega)).trans (h x q h1 h2)

set_option maxHeartbeats 4000000 in
set_option maxRecDepth 100000 in
theorem lp_ms3_1 {ζ : sm_Z} {d : Nat} (hd : 3 ≤ d) {I0 : sm_I} {a b : Nat} (ha : SH a = (0, 2, [none, some (a + 1), none, none, none, none])) (hA : SH (a + 1) = (1, 41, [])) (hb : SH b = (0, 0, [none, none, none, none, none, none])) (hba : b ≠ a) (hbb : b ≠ a + 1) {S H B : Nat} (q0 : 1 ≤ S) (q1 : S ≤ 12) (q2 : 1 ≤ H) (q3 : H ≤ B) (q4 : B ≤ 20) (e0 : I0 b 0 = nI S) (e1 : I0 b 1 = nI H) (e2 : I0 b 2 = nI B) {Q : Option Value → sm_I → Prop} (hq : ∀ I' : sm_I, LM I' a 1 S H B → frLv a I0 I' → Q none I') : ∀ (f y : Nat) (I : sm_I), y + f = 2 * B → MF I a 1 S H B → frLv a I0 I → (∀ q, q ≤ y → q ≤ 2 * B → I (a + 1) q = nI (cg_U S H B 1 q)) → (∀ q, y ≤ q → q < 2 * B → I (a + 1) (q + 1) = nI (cg_row S H B 1 q)) → ∀ a3 a4, X0 ζ d mX2_measure 180 [some (.ref a), some (.ref b), some (.int (nI y)), a3, a4] [] I Q := by
  have hte : cg_top S B 1 = 2 * B := by unfold cg_top; simp
  intro f
  induction f with
  | zero =>
    intro y I hy hF hf h1 h2 a3 a4
    have hyy : y = 2 * B := by omega
    have hG := hF
    unfold MF at hF
    rw [hte] at hF
    refine o_iload_n dX2_measure_180 rfl rfl ?_
    refine o_aload_n dX2_measure_181 rfl rfl ?_
    refine o_getI (v := nI (2 * B)) dX2_measure_182 fgX2_40 ha rfl hF.2.2.2.2 ?_
    refine o_icmpN_ge (tgt := 211) dX2_measure_185 (by decide) (by omega) (by omega) (fun b_12 => ?_) (fun b_12 => absurd b_12 (by omega))
    exact o_vret dX2_measure_211 rfl (hq _ ⟨hG.1, hG.2.1, hG.2.2.1, hG.2.2.2.1, hG.2.2.2.2, fun q hq => by rw [hte] at hq; exact h1 q (by omega) hq⟩ hf)
  | succ f ih =>
    intro y I hy hF hf h1 h2 a3 a4
    have hG := hF
    unfold MF at hF
    rw [hte] at hF
    refine o_iload_n dX2_measure_180 rfl rfl ?_
    refine o_aload_n dX2_measure_181 rfl rfl ?_
    refine o_getI (v := nI (2 * B)) dX2_measure_182 fgX2_40 ha rfl hF.2.2.2.2 ?_
    refine o_icmpN_ge (tgt := 211) dX2_measure_185 (by decide) (by omega) (by omega) (fun b_13 => absurd b_13 (by omega)) (fun b_13 => ?_)
    refine o_aload_n dX2_measure_188 rfl rfl ?_
    refine o_getR (b := a + 1) dX2_measure_189 fgX2_15 ha rfl rfl ?_
    refine o_iload_n dX2_measure_192 rfl rfl ?_
    refine o_iconst (v := nI 1) dX2_measure_193 (by decide) ?_
    refine o_iaddN dX2_measure_194 ?_
    refine o_dup2 dX2_measure_195 rfl rfl ?_
    refine o_ialdN (v := nI (cg_row S H B 1 y)) dX2_measure_196 hA (by decide) (by omega) (h2 y (by omega) (by omega)) ?_
    refine o_aload_n dX2_measure_197 rfl rfl ?_
    refine o_getR (b := a + 1) dX2_measure_198 fgX2_15 ha rfl rfl ?_
    refine o_iload_n dX2_measure_201 rfl rfl ?_
    refine o_ialdN (v := nI (cg_U S H B 1 y)) dX2_measure_202 hA (by decide) (by omega) (h1 y (by omega) (by omega)) ?_
    refine o_iaddN dX2_measure_203 ?_
    refine o_iastN dX2_measure_204 hA (by decide) (by omega) ?_
    refine o_iincN (w := 1) dX2_measure_205 rfl (by decide) (by decide) ?_
    refine o_goto (tgt := 180) dX2_measure_208 (by decide) ?_
    refine ih (y + 1) _ (by omega) hG.up hf.up (fun q z1 z2 => ?_) (fun q z1 z2 => (up2_x (by omega)).trans (h2 q (by omega) z2)) _ _
    rcases Nat.lt_or_ge q (y + 1) with z | z
    · exact (up2_x (by omega)).trans (h1 q (by omega) z2)
    · have hqq : q = y + 1 := by omega
      subst hqq
      exact up2_s.trans (congrArg nI (Nat.add_comm _ _))

theorem am1_s {S H B i j : Nat} : am1 S H B i j j + cg_cell S H B i j = am1 S H B i (j + 1) j := by
  unfold am1
  rw [if_neg (by omega), if_pos (by omega)]
  omega

theorem am1_x {S H B i j y : Nat} (h : y ≠ j) : am1 S H B i (j + 1) y = am1 S H B i j y := by
  unfold am1
  by_cases hy : y < j
  · rw [if_pos hy, if_pos (by omega)]
  · rw [if_neg hy, if_neg (by omega)]

theorem am1_e {S H B i y : Nat} (h : y < 2 * B) : am1 S H B i (2 * B) y = am1 S H B (i + 1) 0 y := by
  unfold am1
  rw [if_pos h, if_neg (by omega), cg_sum_s]
  rfl

set_option maxHeartbeats 4000000 in
set_option maxRecDepth 100000 in
theorem lp_ms2_1  {ζ : sm_Z} {d : Nat} (hd : 3 ≤ d) {I0 : sm_I} {a b : Nat} (ha : SH a = (0, 2, [none, some (a + 1), none, none, none, none])) (hA : SH (a + 1) = (1, 41, [])) (hb : SH b = (0, 0, [none, none, none, none, none, none])) (hba : b ≠ a) (hbb : b ≠ a + 1) {S H B : Nat} (q0 : 1 ≤ S) (q1 : S ≤ 12) (q2 : 1 ≤ H) (q3 : H ≤ B) (q4 : B ≤ 20) (e0 : I0 b 0 = nI S) (e1 : I0 b 1 = nI H) (e2 : I0 b 2 = nI B) {Q : Option Value → sm_I → Prop} {i : Nat} (hi : i < S) (hx : ∀ I' : sm_I, MF I' a 1 S H B → frLv a I0 I' → I' (a + 1) 0 = nI 0 → (∀ y, y < 2 * B → I' (a + 1) (y + 1) = nI (am1 S H B (i + 1) 0 y)) → X0 ζ d mX2_measure 172 [some (.ref a), some (.ref b), some (.int (nI i)), some (.int (nI (cg_rad S H B i))), some (.int (nI (2 * B)))] [] I' Q) : ∀ (f j : Nat) (I : sm_I), j + f = 2 * B → MF I a 1 S H B → frLv a I0 I → (I (a + 1) 0 = nI 0) → (∀ y, y < 2 * B → I (a + 1) (y + 1) = nI (am1 S H B i j y)) → X0 ζ d mX2_measure 129 [some (.ref a), some (.ref b), some (.int (nI i)), some (.int (nI (cg_rad S H B i))), some (.int (nI j))] [] I Q := by
  have hte : cg_top S B 1 = 2 * B := by unfold cg_top; simp
  intro f
  induction f with
  | zero =>
    intro j I hj hF hf hz hm
    have hjj : j = 2 * B := by omega
    subst hjj
    have hG := hF
    unfold MF at hF
    rw [hte] at hF
    refine o_iload dX2_measure_129 rfl ?_
    refine o_iconst (v := nI 2) dX2_measure_131 (by decide) ?_
    refine o_aload_n dX2_measure_132 rfl rfl ?_
    refine o_getI (v := nI B) dX2_measure_133 fgX2_30 ha rfl hF.2.2.2.1 ?_
    refine o_imulN dX2_measure_136 ?_
    refine o_icmpN_ge (tgt := 172) dX2_measure_137 (by decide) (by omega) (by omega) (fun b_14 => ?_) (fun b_14 => absurd b_14 (by omega))
    exact hx I hG hf hz (fun y hy => (hm y hy).trans (congrArg nI (am1_e hy)))
  | succ f ih =>
    intro j I hj hF hf hz hm
    have hG := hF
    unfold MF at hF
    rw [hte] at hF
    refine o_iload dX2_measure_129 rfl ?_
    refine o_iconst (v := nI 2) dX2_measure_131 (by decide) ?_
    refine o_aload_n dX2_measure_132 rfl rfl ?_
    refine o_getI (v := nI B) dX2_measure_133 fgX2_30 ha rfl hF.2.2.2.1 ?_
    refine o_imulN dX2_measure_136 ?_
    refine o_icmpN_ge (tgt := 172) dX2_measure_137 (by decide) (by omega) (by omega) (fun b_15 => absurd b_15 (by omega)) (fun b_15 => ?_)
    refine o_aload_n dX2_measure_140 rfl rfl ?_
    refine o_aload_n dX2_measure_141 rfl rfl ?_
    refine o_getI (v := nI 1) dX2_measure_142 fgX2_9 ha rfl hF.1 ?_
    refine o_ifN_eq (tgt := 153) dX2_measure_145 (by decide) (by omega) (fun b_16 => absurd b_16 (by omega)) (fun b_16 => ?_)
    refine o_iload dX2_measure_148 rfl ?_
    refine o_goto (tgt := 154) dX2_measure_150 (by decide) ?_
    refine o_iconst (v := nI 1) dX2_measure_154 (by decide) ?_
    refine o_iaddN dX2_measure_155 ?_
    refine o_aload_n dX2_measure_156 rfl rfl ?_
    refine o_iload_n dX2_measure_157 rfl rfl ?_
    refine o_iload dX2_measure_158 rfl ?_
    refine o_callVp (v := .int (nI (cg_cell S H B i j))) (as := [.int (nI (cg_rad S H B i)), .int (nI j)]) (st := [.int (nI (j + 1)), .ref a]) dX2_measure_160 (k_cells hb q0 q1 q2 q3 q4 ((hf b 0 hba hbb).trans e0) ((hf b 1 hba hbb).trans e1) ((hf b 2 hba hbb).trans e2) (Nat.le_trans cg_rad_le q4) (by omega)) rfl meX0_cellsOf imX0_cellsOf seX0_cellsOf mlX2_47 hb rfl rfl (by omega) (by decide) (Nat.le_of_ble_eq_true rfl) ?_
    refine o_callV (as := [.int (nI (j + 1)), .int (nI (cg_cell S H B i j))]) (st := []) dX2_measure_163 (k_addAhead ha hA (top := 2 * B) (by omega) hF.2.2.2.2 (by omega) (hm j (by omega))) rfl meX2_addAhead imX2_addAhead seX2_addAhead mlX2_50 ha rfl rfl (by omega) (by decide) (Nat.le_of_ble_eq_true rfl) ?_
    rintro _ _ ⟨rfl, rfl⟩
    refine o_iincN (w := 1) dX2_measure_166 rfl (by decide) (by decide) ?_
    refine o_goto (tgt := 129) dX2_measure_169 (by decide) ?_
    refine ih (j + 1) _ (by omega) hG.up hf.up ((up2_x (by omega)).trans hz) (fun y hy => ?_)
    by_cases hyj : y = j
    · subst hyj
      exact up2_s.trans (congrArg nI am1_s)
    · exact (up2_x (by omega)).trans ((hm y hy).trans (congrArg nI (am1_x hyj).symm))

theorem am1_r {S H B y : Nat} (h : y < 2 * B) : am1 S H B S 0 y = cg_row S H B 1 y := by
  unfold am1 cg_row
  rw [if_neg (by omega), if_pos rfl]
  rfl

set_option maxHeartbeats 4000000 in
set_option maxRecDepth 100000 in
theorem lp_ms1_1  {ζ : sm_Z} {d : Nat} (hd : 3 ≤ d) {I0 : sm_I} {a b : Nat} (ha : SH a = (0, 2, [none, some (a + 1), none, none, none, none])) (hA : SH (a + 1) = (1, 41, [])) (hb : SH b = (0, 0, [none, none, none, none, none, none])) (hba : b ≠ a) (hbb : b ≠ a + 1) {S H B : Nat} (q0 : 1 ≤ S) (q1 : S ≤ 12) (q2 : 1 ≤ H) (q3 : H ≤ B) (q4 : B ≤ 20) (e0 : I0 b 0 = nI S) (e1 : I0 b 1 = nI H) (e2 : I0 b 2 = nI B) {Q : Option Value → sm_I → Prop} (hq : ∀ I' : sm_I, LM I' a 1 S H B → frLv a I0 I' → Q none I') : ∀ (f i : Nat) (I : sm_I), i + f = S → MF I a 1 S H B → frLv a I0 I → (I (a + 1) 0 = nI 0) → (∀ y, y < 2 * B → I (a + 1) (y + 1) = nI (am1 S H B i 0 y)) → ∀ a3 a4, X0 ζ d mX2_measure 112 [some (.ref a), some (.ref b), some (.int (nI i)), a3, a4] [] I Q := by
  have hte : cg_top S B 1 = 2 * B := by unfold cg_top; simp
  intro f
  induction f with
  | zero =>
    intro i I hi hF hf hz hm a3 a4
    have hii : i = S := by omega
    subst hii
    have hG := hF
    unfold MF at hF
    rw [hte] at hF
    refine o_iload_n dX2_measure_112 rfl rfl ?_
    refine o_aload_n dX2_measure_113 rfl rfl ?_
    refine o_getI (v := nI i) dX2_measure_114 fgX2_19 ha rfl hF.2.1 ?_
    refine o_icmpN_ge (tgt := 178) dX2_measure_117 (by decide) (by omega) (by omega) (fun b_17 => ?_) (fun b_17 => absurd b_17 (by omega))
    refine o_iconst (v := nI 0) dX2_measure_178 (by decide) ?_
    refine o_istore_n dX2_measure_179 rfl (by decide) ?_
    refine lp_ms3_1 hd ha hA hb hba hbb q0 q1 q2 q3 q4 e0 e1 e2 hq (2 * B) 0 I (by omega) hG hf (fun q z1 z2 => ?_) (fun q z1 z2 => ?_) _ _
    · rw [show q = 0 by omega]
      exact hz
    · rw [hm q z2]
      exact congrArg nI (am1_r z2)
  | succ f ih =>
    intro i I hi hF hf hz hm a3 a4
    have hG := hF
    unfold MF at hF
    rw [hte] at hF
    refine o_iload_n dX2_measure_112 rfl rfl ?_
    refine o_aload_n dX2_measure_113 rfl rfl ?_
    refine o_getI (v := nI S) dX2_measure_114 fgX2_19 ha rfl hF.2.1 ?_
    refine o_icmpN_ge (tgt := 178) dX2_measure_117 (by decide) (by omega) (by omega) (fun b_18 => absurd b_18 (by omega)) (fun b_18 => ?_)
    refine o_aload_n dX2_measure_120 rfl rfl ?_
    refine o_iload_n dX2_measure_121 rfl rfl ?_
    refine o_callVp (v := .int (nI (cg_rad S H B i))) (as := [.int (nI i)]) (st := []) dX2_measure_122 (k_radius hb q0 q1 q2 q3 q4 ((hf b 0 hba hbb).trans e0) ((hf b 1 hba hbb).trans e1) ((hf b 2 hba hbb).trans e2) (by omega)) rfl meX0_radiusOf imX0_radiusOf seX0_radiusOf mlX2_43 hb rfl rfl (by omega) (by decide) (Nat.le_of_ble_eq_true rfl) ?_
    refine o_istore_n dX2_measure_125 rfl (by decide) ?_
    refine o_iconst (v := nI 0) dX2_measure_126 (by decide) ?_
    refine o_istore dX2_measure_127 (by decide) ?_
    refine lp_ms2_1 hd ha hA hb hba hbb q0 q1 q2 q3 q4 e0 e1 e2 (i := i) (by omega) (fun I' g1 g2 g3 g4 => ?_) (2 * B) 0 I (by omega) hG hf hz hm
    refine o_iincN (w := 1) dX2_measure_172 rfl (by decide) (by decide) ?_
    refine o_goto (tgt := 112) dX2_measure_175 (by decide) ?_
    exact ih (i + 1) I' (by omega) g1 g2 g3 g4 _ _

theorem am1_0 {S H B y : Nat} : am1 S H B 0 0 y = 0 := by
  unfold am1
  rw [if_neg (by omega)]
  rfl

set_option maxHeartbeats 4000000 in
set_option maxRecDepth 100000 in
theorem lp_ms0_1  {ζ : sm_Z} {d : Nat} (hd : 3 ≤ d) {I0 : sm_I} {a b : Nat} (ha : SH a = (0, 2, [none, some (a + 1), none, none, none, none])) (hA : SH (a + 1) = (1, 41, [])) (hb : SH b = (0, 0, [none, none, none, none, none, none])) (hba : b ≠ a) (hbb : b ≠ a + 1) {S H B : Nat} (q0 : 1 ≤ S) (q1 : S ≤ 12) (q2 : 1 ≤ H) (q3 : H ≤ B) (q4 : B ≤ 20) (e0 : I0 b 0 = nI S) (e1 : I0 b 1 = nI H) (e2 : I0 b 2 = nI B) {Q : Option Value → sm_I → Prop} (hq : ∀ I' : sm_I, LM I' a 1 S H B → frLv a I0 I' → Q none I') : ∀ (f y : Nat) (I : sm_I), y + f = 2 * B + 1 → MF I a 1 S H B → frLv a I0 I → (∀ q, q < y → I (a + 1) q = nI 0) → ∀ a3 a4, X0 ζ d mX2_measure 89 [some (.ref a), some (.ref b), some (.int (nI y)), a3, a4] [] I Q := by
  have hte : cg_top S B 1 = 2 * B := by unfold cg_top; simp
  intro f
  induction f with
  | zero =>
    intro y I hy hF hf hz a3 a4
    have hG := hF
    unfold MF at hF
    rw [hte] at hF
    refine o_iload_n dX2_measure_89 rfl rfl ?_
    refine o_aload_n dX2_measure_90 rfl rfl ?_
    refine o_getI (v := nI (2 * B)) dX2_measure_91 fgX2_40 ha rfl hF.2.2.2.2 ?_
    refine o_icmpN_gt (tgt := 110) dX2_measure_94 (by decide) (by omega) (by omega) (fun b_19 => ?_) (fun b_19 => absurd b_19 (by omega))
    refine o_iconst (v := nI 0) dX2_measure_110 (by decide) ?_
    refine o_istore_n dX2_measure_111 rfl (by decide) ?_
    exact lp_ms1_1 hd ha hA hb hba hbb q0 q1 q2 q3 q4 e0 e1 e2 hq S 0 I (by omega) hG hf (hz 0 (by omega)) (fun q h1 => (hz (q + 1) (by omega)).trans (congrArg nI am1_0.symm)) _ _
  | succ f ih =>
    intro y I hy hF hf hz a3 a4
    have hG := hF
    unfold MF at hF
    rw [hte] at hF
    refine o_iload_n dX2_measure_89 rfl rfl ?_
    refine o_aload_n dX2_measure_90 rfl rfl ?_
    refine o_getI (v := nI (2 * B)) dX2_measure_91 fgX2_40 ha rfl hF.2.2.2.2 ?_
    refine o_icmpN_gt (tgt := 110) dX2_measure_94 (by decide) (by omega) (by omega) (fun b_20 => absurd b_20 (by omega)) (fun b_20 => ?_)
    refine o_aload_n dX2_measure_97 rfl rfl ?_
    refine o_getR (b := a + 1) dX2_measure_98 fgX2_15 ha rfl rfl ?_
    refine o_iload_n dX2_measure_101 rfl rfl ?_
    refine o_iconst (v := nI 0) dX2_measure_102 (by decide) ?_
    refine o_iastN dX2_measure_103 hA (by decide) (by omega) ?_
    refine o_iincN (w := 1) dX2_measure_104 rfl (by decide) (by decide) ?_
    refine o_goto (tgt := 89) dX2_measure_107 (by decide) ?_
    refine ih (y + 1) _ (by omega) hG.up hf.up (fun q h1 => ?_) _ _
    by_cases hqy : q = y
    · subst hqy
      exact up2_s
    · exact (up2_x (by omega)).trans (hz q (by omega))

set_option maxHeartbeats 4000000 in
set_option maxRecDepth 100000 in
theorem k_measure1 {I : sm_I} {a : Nat} (ha : SH a = (0, 2, [none, some (a + 1), none, none, none, none])) (hA : SH (a + 1) = (1, 41, [])) {b : Nat} (hb : SH b = (0, 0, [none, none, none, none, none, none])) (hba : b ≠ a) (hbb : b ≠ a + 1) {S H B : Nat} (q0 : 1 ≤ S) (q1 : S ≤ 12) (q2 : 1 ≤ H) (q3 : H ≤ B) (q4 : B ≤ 20) (e0 : I b 0 = nI S) (e1 : I b 1 = nI H) (e2 : I b 2 = nI B) (hL : LevOK I a 1) : E0 3 mX2_measure [.ref a, .ref b] I (fun r I' => r = none ∧ LM I' a 1 S H B ∧ frLv a I I') := by
  have hte : cg_top S B 1 = 2 * B := by unfold cg_top; simp
  refine E0.of (by decide) (by simp [Value.category]) (Nat.le_of_ble_eq_true rfl) (fun ζ => ?_)
  rcases hL with ⟨h0, hz⟩ | ⟨S', H', B', ⟨z0, z1, z2, z3, z4⟩, hM⟩
  · refine o_aload_n dX2_measure_0 rfl rfl ?_
    refine o_getI (v := nI 0) dX2_measure_1 fgX2_19 ha rfl hz ?_
    refine o_aload_n dX2_measure_4 rfl rfl ?_
    refine o_getI (v := nI S) dX2_measure_5 fgX2_23 hb rfl e0 ?_
    refine o_icmpN_ne (tgt := 34) dX2_measure_8 (by decide) (by omega) (by omega) (fun b_21 => ?_) (fun b_21 => absurd b_21 (by omega))
    refine o_aload_n dX2_measure_34 rfl rfl ?_
    refine o_aload_n dX2_measure_35 rfl rfl ?_
    refine o_getI (v := nI S) dX2_measure_36 fgX2_23 hb rfl e0 ?_
    refine o_putI dX2_measure_39 flX2_19 ha rfl ?_
    refine o_aload_n dX2_measure_42 rfl rfl ?_
    refine o_aload_n dX2_measure_43 rfl rfl ?_
    refine o_getI (v := nI H) dX2_measure_44 fgX2_29 hb rfl ((up2_x (by omega)).trans e1) ?_
    refine o_putI dX2_measure_47 flX2_26 ha rfl ?_
    refine o_aload_n dX2_measure_50 rfl rfl ?_
    refine o_aload_n dX2_measure_51 rfl rfl ?_
    refine o_getI (v := nI B) dX2_measure_52 fgX2_33 hb rfl ((up2_x (by omega)).trans ((up2_x (by omega)).trans e2)) ?_
    refine o_putI dX2_measure_55 flX2_30 ha rfl ?_
    refine o_aload_n dX2_measure_58 rfl rfl ?_
    refine o_aload_n dX2_measure_59 rfl rfl ?_
    refine o_getI (v := nI 1) dX2_measure_60 fgX2_9 ha rfl ((up2_x (by omega)).trans ((up2_x (by omega)).trans ((up2_x (by omega)).trans h0))) ?_
    refine o_ifN_eq (tgt := 75) dX2_measure_63 (by decide) (by omega) (fun b_22 => absurd b_22 (by omega)) (fun b_22 => ?_)
    refine o_iconst (v := nI 2) dX2_measure_66 (by decide) ?_
    refine o_aload_n dX2_measure_67 rfl rfl ?_
    refine o_getI (v := nI B) dX2_measure_68 fgX2_30 ha rfl up2_s ?_
    refine o_imulN dX2_measure_71 ?_
    refine o_goto (tgt := 79) dX2_measure_72 (by decide) ?_
    refine o_bipush (v := nI 40) dX2_measure_79 (by decide) ?_
    refine o_minN dX2_measure_81 mlX2_34 (by omega) (by omega) (by omega) (Nat.le_of_ble_eq_true rfl) ?_
    refine o_putI dX2_measure_84 flX2_40 ha rfl ?_
    refine o_iconst (v := nI 0) dX2_measure_87 (by decide) ?_
    refine o_istore_n dX2_measure_88 rfl (by decide) ?_
    refine lp_ms0_1 (by omega) ha hA hb hba hbb q0 q1 q2 q3 q4 e0 e1 e2 (fun I' g1 g2 => ⟨rfl, g1, g2⟩) (2 * B + 1) 0 _ (by omega) ⟨((up2_x (by omega)).trans ((up2_x (by omega)).trans ((up2_x (by omega)).trans ((up2_x (by omega)).trans h0)))), ((up2_x (by omega)).trans ((up2_x (by omega)).trans ((up2_x (by omega)).trans up2_s))), ((up2_x (by omega)).trans ((up2_x (by omega)).trans up2_s)), ((up2_x (by omega)).trans up2_s), up2_s.trans (congrArg nI (by rw [hte]; omega))⟩ (fun x k z1 z2 => ((up2_x (by omega)).trans ((up2_x (by omega)).trans ((up2_x (by omega)).trans ((up2_x (by omega)).trans rfl))))) (fun q hq => absurd hq (Nat.not_lt_zero q)) _ _
  · have h0 := hM.1
    refine o_aload_n dX2_measure_0 rfl rfl ?_
    refine o_getI (v := nI S') dX2_measure_1 fgX2_19 ha rfl hM.2.1 ?_
    refine o_aload_n dX2_measure_4 rfl rfl ?_
    refine o_getI (v := nI S) dX2_measure_5 fgX2_23 hb rfl e0 ?_
    refine o_icmpN_ne (tgt := 34) dX2_measure_8 (by decide) (by omega) (by omega) (fun b_23 => ?_) (fun b_23 => ?_)
    · refine o_aload_n dX2_measure_34 rfl rfl ?_
      refine o_aload_n dX2_measure_35 rfl rfl ?_
      refine o_getI (v := nI S) dX2_measure_36 fgX2_23 hb rfl e0 ?_
      refine o_putI dX2_measure_39 flX2_19 ha rfl ?_
      refine o_aload_n dX2_measure_42 rfl rfl ?_
      refine o_aload_n dX2_measure_43 rfl rfl ?_
      refine o_getI (v := nI H) dX2_measure_44 fgX2_29 hb rfl ((up2_x (by omega)).trans e1) ?_
      refine o_putI dX2_measure_47 flX2_26 ha rfl ?_
      refine o_aload_n dX2_measure_50 rfl rfl ?_
      refine o_aload_n dX2_measure_51 rfl rfl ?_
      refine o_getI (v := nI B) dX2_measure_52 fgX2_33 hb rfl ((up2_x (by omega)).trans ((up2_x (by omega)).trans e2)) ?_
      refine o_putI dX2_measure_55 flX2_30 ha rfl ?_
      refine o_aload_n dX2_measure_58 rfl rfl ?_
      refine o_aload_n dX2_measure_59 rfl rfl ?_
      refine o_getI (v := nI 1) dX2_measure_60 fgX2_9 ha rfl ((up2_x (by omega)).trans ((up2_x (by omega)).trans ((up2_x (by omega)).trans h0))) ?_
      refine o_ifN_eq (tgt := 75) dX2_measure_63 (by decide) (by omega) (fun b_24 => absurd b_24 (by omega)) (fun b_24 => ?_)
      refine o_iconst (v := nI 2) dX2_measure_66 (by decide) ?_
      refine o_aload_n dX2_measure_67 rfl rfl ?_
      refine o_getI (v := nI B) dX2_measure_68 fgX2_30 ha rfl up2_s ?_
      refine o_imulN dX2_measure_71 ?_
      refine o_goto (tgt := 79) dX2_measure_72 (by decide) ?_
      refine o_bipush (v := nI 40) dX2_measure_79 (by decide) ?_
      refine o_minN dX2_measure_81 mlX2_34 (by omega) (by omega) (by omega) (Nat.le_of_ble_eq_true rfl) ?_
      refine o_putI dX2_measure_84 flX2_40 ha rfl ?_
      refine o_iconst (v := nI 0) dX2_measure_87 (by decide) ?_
      refine o_istore_n dX2_measure_88 rfl (by decide) ?_
      refine lp_ms0_1 (by omega) ha hA hb hba hbb q0 q1 q2 q3 q4 e0 e1 e2 (fun I' g1 g2 => ⟨rfl, g1, g2⟩) (2 * B + 1) 0 _ (by omega) ⟨((up2_x (by omega)).trans ((up2_x (by omega)).trans ((up2_x (by omega)).trans ((up2_x (by omega)).trans h0)))), ((up2_x (by omega)).trans ((up2_x (by omega)).trans ((up2_x (by omega)).trans up2_s))), ((up2_x (by omega)).trans ((up2_x (by omega)).trans up2_s)), ((up2_x (by omega)).trans up2_s), up2_s.trans (congrArg nI (by rw [hte]; omega))⟩ (fun x k z1 z2 => ((up2_x (by omega)).trans ((up2_x (by omega)).trans ((up2_x (by omega)).trans ((up2_x (by omega)).trans rfl))))) (fun q hq => absurd hq (Nat.not_lt_zero q)) _ _
    · refine o_aload_n dX2_measure_11 rfl rfl ?_
      refine o_getI (v := nI H') dX2_measure_12 fgX2_26 ha rfl hM.2.2.1 ?_
      refine o_aload_n dX2_measure_15 rfl rfl ?_
      refine o_getI (v := nI H) dX2_measure_16 fgX2_29 hb rfl e1 ?_
      refine o_icmpN_ne (tgt := 34) dX2_measure_19 (by decide) (by omega) (by omega) (fun b_25 => ?_) (fun b_25 => ?_)
      · refine o_aload_n dX2_measure_34 rfl rfl ?_
        refine o_aload_n dX2_measure_35 rfl rfl ?_
        refine o_getI (v := nI S) dX2_measure_36 fgX2_23 hb rfl e0 ?_
        refine o_putI dX2_measure_39 flX2_19 ha rfl ?_
        refine o_aload_n dX2_measure_42 rfl rfl ?_
        refine o_aload_n dX2_measure_43 rfl rfl ?_
        refine o_getI (v := nI H) dX2_measure_44 fgX2_29 hb rfl ((up2_x (by omega)).trans e1) ?_
        refine o_putI dX2_measure_47 flX2_26 ha rfl ?_
        refine o_aload_n dX2_measure_50 rfl rfl ?_
        refine o_aload_n dX2_measure_51 rfl rfl ?_
        refine o_getI (v := nI B) dX2_measure_52 fgX2_33 hb rfl ((up2_x (by omega)).trans ((up2_x (by omega)).trans e2)) ?_
        refine o_putI dX2_measure_55 flX2_30 ha rfl ?_
        refine o_aload_n dX2_measure_58 rfl rfl ?_
        refine o_aload_n dX2_measure_59 rfl rfl ?_
        refine o_getI (v := nI 1) dX2_measure_60 fgX2_9 ha rfl ((up2_x (by omega)).trans ((up2_x (by omega)).trans ((up2_x (by omega)).trans h0))) ?_
        refine o_ifN_eq (tgt := 75) dX2_measure_63 (by decide) (by omega) (fun b_26 => absurd b_26 (by omega)) (fun b_26 => ?_)
        refine o_iconst (v := nI 2) dX2_measure_66 (by decide) ?_
        refine o_aload_n dX2_measure_67 rfl rfl ?_
        refine o_getI (v := nI B) dX2_measure_68 fgX2_30 ha rfl up2_s ?_
        refine o_imulN dX2_measure_71 ?_
        refine o_goto (tgt := 79) dX2_measure_72 (by decide) ?_
        refine o_bipush (v := nI 40) dX2_measure_79 (by decide) ?_
        refine o_minN dX2_measure_81 mlX2_34 (by omega) (by omega) (by omega) (Nat.le_of_ble_eq_true rfl) ?_
        refine o_putI dX2_measure_84 flX2_40 ha rfl ?_
        refine o_iconst (v := nI 0) dX2_measure_87 (by decide) ?_
        refine o_istore_n dX2_measure_88 rfl (by decide) ?_
        refine lp_ms0_1 (by omega) ha hA hb hba hbb q0 q1 q2 q3 q4 e0 e1 e2 (fun I' g1 g2 => ⟨rfl, g1, g2⟩) (2 * B + 1) 0 _ (by omega) ⟨((up2_x (by omega)).trans ((up2_x (by omega)).trans ((up2_x (by omega)).trans ((up2_x (by omega)).trans h0)))), ((up2_x (by omega)).trans ((up2_x (by omega)).trans ((up2_x (by omega)).trans up2_s))), ((up2_x (by omega)).trans ((up2_x (by omega)).trans up2_s)), ((up2_x (by omega)).trans up2_s), up2_s.trans (congrArg nI (by rw [hte]; omega))⟩ (fun x k z1 z2 => ((up2_x (by omega)).trans ((up2_x (by omega)).trans ((up2_x (by omega)).trans ((up2_x (by omega)).trans rfl))))) (fun q hq => absurd hq (Nat.not_lt_zero q)) _ _
      · refine o_aload_n dX2_measure_22 rfl rfl ?_
        refine o_getI (v := nI B') dX2_measure_23 fgX2_30 ha rfl hM.2.2.2.1 ?_
        refine o_aload_n dX2_measure_26 rfl rfl ?_
        refine o_getI (v := nI B) dX2_measure_27 fgX2_33 hb rfl e2 ?_
        refine o_icmpN_ne (tgt := 34) dX2_measure_30 (by decide) (by omega) (by omega) (fun b_27 => ?_) (fun b_27 => ?_)
        · refine o_aload_n dX2_measure_34 rfl rfl ?_
          refine o_aload_n dX2_measure_35 rfl rfl ?_
          refine o_getI (v := nI S) dX2_measure_36 fgX2_23 hb rfl e0 ?_
          refine o_putI dX2_measure_39 flX2_19 ha rfl ?_
          refine o_aload_n dX2_measure_42 rfl rfl ?_
          refine o_aload_n dX2_measure_43 rfl rfl ?_
          refine o_getI (v := nI H) dX2_measure_44 fgX2_29 hb rfl ((up2_x (by omega)).trans e1) ?_
          refine o_putI dX2_measure_47 flX2_26 ha rfl ?_
          refine o_aload_n dX2_measure_50 rfl rfl ?_
          refine o_aload_n dX2_measure_51 rfl rfl ?_
          refine o_getI (v := nI B) dX2_measure_52 fgX2_33 hb rfl ((up2_x (by omega)).trans ((up2_x (by omega)).trans e2)) ?_
          refine o_putI dX2_measure_55 flX2_30 ha rfl ?_
          refine o_aload_n dX2_measure_58 rfl rfl ?_
          refine o_aload_n dX2_measure_59 rfl rfl ?_
          refine o_getI (v := nI 1) dX2_measure_60 fgX2_9 ha rfl ((up2_x (by omega)).trans ((up2_x (by omega)).trans ((up2_x (by omega)).trans h0))) ?_
          refine o_ifN_eq (tgt := 75) dX2_measure_63 (by decide) (by omega) (fun b_28 => absurd b_28 (by omega)) (fun b_28 => ?_)
          refine o_iconst (v := nI 2) dX2_measure_66 (by decide) ?_
          refine o_aload_n dX2_measure_67 rfl rfl ?_
          refine o_getI (v := nI B) dX2_measure_68 fgX2_30 ha rfl up2_s ?_
          refine o_imulN dX2_measure_71 ?_
          refine o_goto (tgt := 79) dX2_measure_72 (by decide) ?_
          refine o_bipush (v := nI 40) dX2_measure_79 (by decide) ?_
          refine o_minN dX2_measure_81 mlX2_34 (by omega) (by omega) (by omega) (Nat.le_of_ble_eq_true rfl) ?_
          refine o_putI dX2_measure_84 flX2_40 ha rfl ?_
          refine o_iconst (v := nI 0) dX2_measure_87 (by decide) ?_
          refine o_istore_n dX2_measure_88 rfl (by decide) ?_
          refine lp_ms0_1 (by omega) ha hA hb hba hbb q0 q1 q2 q3 q4 e0 e1 e2 (fun I' g1 g2 => ⟨rfl, g1, g2⟩) (2 * B + 1) 0 _ (by omega) ⟨((up2_x (by omega)).trans ((up2_x (by omega)).trans ((up2_x (by omega)).trans ((up2_x (by omega)).trans h0)))), ((up2_x (by omega)).trans ((up2_x (by omega)).trans ((up2_x (by omega)).trans up2_s))), ((up2_x (by omega)).trans ((up2_x (by omega)).trans up2_s)), ((up2_x (by omega)).trans up2_s), up2_s.trans (congrArg nI (by rw [hte]; omega))⟩ (fun x k z1 z2 => ((up2_x (by omega)).trans ((up2_x (by omega)).trans ((up2_x (by omega)).trans ((up2_x (by omega)).trans rfl))))) (fun q hq => absurd hq (Nat.not_lt_zero q)) _ _
        · exact o_vret dX2_measure_33 rfl ⟨rfl, (by subst b_23 b_25 b_27; exact hM), frLv.refl a I⟩

set_option maxHeartbeats 4000000 in
set_option maxRecDepth 100000 in
theorem lp_ms3_0 {ζ : sm_Z} {d : Nat} (hd : 3 ≤ d) {I0 : sm_I} {a b : Nat} (ha : SH a = (0, 2, [none, some (a + 1), none, none, none, none])) (hA : SH (a + 1) = (1, 41, [])) (hb : SH b = (0, 0, [none, none, none, none, none, none])) (hba : b ≠ a) (hbb : b ≠ a + 1) {S H B : Nat} (q0 : 1 ≤ S) (q1 : S ≤ 12) (q2 : 1 ≤ H) (q3 : H ≤ B) (q4 : B ≤ 20) (e0 : I0 b 0 = nI S) (e1 : I0 b 1 = nI H) (e2 : I0 b 2 = nI B) {Q : Option Value → sm_I → Prop} (hq : ∀ I' : sm_I, LM I' a 0 S H B → frLv a I0 I' → Q none I') : ∀ (f y : Nat) (I : sm_I), y + f = S → MF I a 0 S H B → frLv a I0 I → (∀ q, q ≤ y → q ≤ S → I (a + 1) q = nI (cg_U S H B 0 q)) → (∀ q, y ≤ q → q < S → I (a + 1) (q + 1) = nI (cg_row S H B 0 q)) → ∀ a3 a4, X0 ζ d mX2_measure 180 [some (.ref a), some (.ref b), some (.int (nI y)), a3, a4] [] I Q := by
  have hte : cg_top S B 0 = S := by unfold cg_top; simp
  intro f
  induction f with
  | zero =>
    intro y I hy hF hf h1 h2 a3 a4
    have hyy : y = S := by omega
    have hG := hF
    unfold MF at hF
    rw [hte] at hF
    refine o_iload_n dX2_measure_180 rfl rfl ?_
    refine o_aload_n dX2_measure_181 rfl rfl ?_
    refine o_getI (v := nI S) dX2_measure_182 fgX2_40 ha rfl hF.2.2.2.2 ?_
    refine o_icmpN_ge (tgt := 211) dX2_measure_185 (by decide) (by omega) (by omega) (fun b_29 => ?_) (fun b_29 => absurd b_29 (by omega))
    exact o_vret dX2_measure_211 rfl (hq _ ⟨hG.1, hG.2.1, hG.2.2.1, hG.2.2.2.1, hG.2.2.2.2, fun q hq => by rw [hte] at hq; exact h1 q (by omega) hq⟩ hf)
  | succ f ih =>
    intro y I hy hF hf h1 h2 a3 a4
    have hG := hF
    unfold MF at hF
    rw [hte] at hF
    refine o_iload_n dX2_measure_180 rfl rfl ?_
    refine o_aload_n dX2_measure_181 rfl rfl ?_
    refine o_getI (v := nI S) dX2_measure_182 fgX2_40 ha rfl hF.2.2.2.2 ?_
    refine o_icmpN_ge (tgt := 211) dX2_measure_185 (by decide) (by omega) (by omega) (fun b_30 => absurd b_30 (by omega)) (fun b_30 => ?_)
    refine o_aload_n dX2_measure_188 rfl rfl ?_
    refine o_getR (b := a + 1) dX2_measure_189 fgX2_15 ha rfl rfl ?_
    refine o_iload_n dX2_measure_192 rfl rfl ?_
    refine o_iconst (v := nI 1) dX2_measure_193 (by decide) ?_
    refine o_iaddN dX2_measure_194 ?_
    refine o_dup2 dX2_measure_195 rfl rfl ?_
    refine o_ialdN (v := nI (cg_row S H B 0 y)) dX2_measure_196 hA (by decide) (by omega) (h2 y (by omega) (by omega)) ?_
    refine o_aload_n dX2_measure_197 rfl rfl ?_
    refine o_getR (b := a + 1) dX2_measure_198 fgX2_15 ha rfl rfl ?_
    refine o_iload_n dX2_measure_201 rfl rfl ?_
    refine o_ialdN (v := nI (cg_U S H B 0 y)) dX2_measure_202 hA (by decide) (by omega) (h1 y (by omega) (by omega)) ?_
    refine o_iaddN dX2_measure_203 ?_
    refine o_iastN dX2_measure_204 hA (by decide) (by omega) ?_
    refine o_iincN (w := 1) dX2_measure_205 rfl (by decide) (by decide) ?_
    refine o_goto (tgt := 180) dX2_measure_208 (by decide) ?_
    refine ih (y + 1) _ (by omega) hG.up hf.up (fun q z1 z2 => ?_) (fun q z1 z2 => (up2_x (by omega)).trans (h2 q (by omega) z2)) _ _
    rcases Nat.lt_or_ge q (y + 1) with z | z
    · exact (up2_x (by omega)).trans (h1 q (by omega) z2)
    · have hqq : q = y + 1 := by omega
      subst hqq
      exact up2_s.trans (congrArg nI (Nat.add_comm _ _))

theorem am0_s {S H B i j : Nat} : am0 S H B i j i + cg_cell S H B i j = am0 S H B i (j + 1) i := by
  unfold am0
  rw [if_neg (Nat.lt_irrefl i), if_pos rfl, if_neg (Nat.lt_irrefl i), if_pos rfl, cg_sum_s]

theorem am0_x {S H B i j y : Nat} (h : y ≠ i) : am0 S H B i (j + 1) y = am0 S H B i j y := by
  unfold am0
  by_cases hy : y < i
  · rw [if_pos hy, if_pos hy]
  · rw [if_neg hy, if_neg hy, if_neg h, if_neg h]

theorem am0_e {S H B i y : Nat} (h : y < S) : am0 S H B i (2 * B) y = am0 S H B (i + 1) 0 y := by
  unfold am0
  by_cases hy : y < i
  · rw [if_pos hy, if_pos (by omega)]
  · rw [if_neg hy]
    by_cases hz : y = i
    · subst hz
      rw [if_pos rfl, if_pos (by omega)]
    · rw [if_neg hz, if_neg (by omega)]
      split <;> rfl

set_option maxHeartbeats 4000000 in
set_option maxRecDepth 100000 in
theorem lp_ms2_0  {ζ : sm_Z} {d : Nat} (hd : 3 ≤ d) {I0 : sm_I} {a b : Nat} (ha : SH a = (0, 2, [none, some (a + 1), none, none, none, none])) (hA : SH (a + 1) = (1, 41, [])) (hb : SH b = (0, 0, [none, none, none, none, none, none])) (hba : b ≠ a) (hbb : b ≠ a + 1) {S H B : Nat} (q0 : 1 ≤ S) (q1 : S ≤ 12) (q2 : 1 ≤ H) (q3 : H ≤ B) (q4 : B ≤ 20) (e0 : I0 b 0 = nI S) (e1 : I0 b 1 = nI H) (e2 : I0 b 2 = nI B) {Q : Option Value → sm_I → Prop} {i : Nat} (hi : i < S) (hx : ∀ I' : sm_I, MF I' a 0 S H B → frLv a I0 I' → I' (a + 1) 0 = nI 0 → (∀ y, y < S → I' (a + 1) (y + 1) = nI (am0 S H B (i + 1) 0 y)) → X0 ζ d mX2_measure 172 [some (.ref a), some (.ref b), some (.int (nI i)), some (.int (nI (cg_rad S H B i))), some (.int (nI (2 * B)))] [] I' Q) : ∀ (f j : Nat) (I : sm_I), j + f = 2 * B → MF I a 0 S H B → frLv a I0 I → (I (a + 1) 0 = nI 0) → (∀ y, y < S → I (a + 1) (y + 1) = nI (am0 S H B i j y)) → X0 ζ d mX2_measure 129 [some (.ref a), some (.ref b), some (.int (nI i)), some (.int (nI (cg_rad S H B i))), some (.int (nI j))] [] I Q := by
  have hte : cg_top S B 0 = S := by unfold cg_top; simp
  intro f
  induction f with
  | zero =>
    intro j I hj hF hf hz hm
    have hjj : j = 2 * B := by omega
    subst hjj
    have hG := hF
    unfold MF at hF
    rw [hte] at hF
    refine o_iload dX2_measure_129 rfl ?_
    refine o_iconst (v := nI 2) dX2_measure_131 (by decide) ?_
    refine o_aload_n dX2_measure_132 rfl rfl ?_
    refine o_getI (v := nI B) dX2_measure_133 fgX2_30 ha rfl hF.2.2.2.1 ?_
    refine o_imulN dX2_measure_136 ?_
    refine o_icmpN_ge (tgt := 172) dX2_measure_137 (by decide) (by omega) (by omega) (fun b_31 => ?_) (fun b_31 => absurd b_31 (by omega))
    exact hx I hG hf hz (fun y hy => (hm y hy).trans (congrArg nI (am0_e hy)))
  | succ f ih =>
    intro j I hj hF hf hz hm
    have hG := hF
    unfold MF at hF
    rw [hte] at hF
    refine o_iload dX2_measure_129 rfl ?_
    refine o_iconst (v := nI 2) dX2_measure_131 (by decide) ?_
    refine o_aload_n dX2_measure_132 rfl rfl ?_
    refine o_getI (v := nI B) dX2_measure_133 fgX2_30 ha rfl hF.2.2.2.1 ?_
    refine o_imulN dX2_measure_136 ?_
    refine o_icmpN_ge (tgt := 172) dX2_measure_137 (by decide) (by omega) (by omega) (fun b_32 => absurd b_32 (by omega)) (fun b_32 => ?_)
    refine o_aload_n dX2_measure_140 rfl rfl ?_
    refine o_aload_n dX2_measure_141 rfl rfl ?_
    refine o_getI (v := nI 0) dX2_measure_142 fgX2_9 ha rfl hF.1 ?_
    refine o_ifN_eq (tgt := 153) dX2_measure_145 (by decide) (by omega) (fun b_33 => ?_) (fun b_33 => absurd b_33 (by omega))
    refine o_iload_n dX2_measure_153 rfl rfl ?_
    refine o_iconst (v := nI 1) dX2_measure_154 (by decide) ?_
    refine o_iaddN dX2_measure_155 ?_
    refine o_aload_n dX2_measure_156 rfl rfl ?_
    refine o_iload_n dX2_measure_157 rfl rfl ?_
    refine o_iload dX2_measure_158 rfl ?_
    refine o_callVp (v := .int (nI (cg_cell S H B i j))) (as := [.int (nI (cg_rad S H B i)), .int (nI j)]) (st := [.int (nI (i + 1)), .ref a]) dX2_measure_160 (k_cells hb q0 q1 q2 q3 q4 ((hf b 0 hba hbb).trans e0) ((hf b 1 hba hbb).trans e1) ((hf b 2 hba hbb).trans e2) (Nat.le_trans cg_rad_le q4) (by omega)) rfl meX0_cellsOf imX0_cellsOf seX0_cellsOf mlX2_47 hb rfl rfl (by omega) (by decide) (Nat.le_of_ble_eq_true rfl) ?_
    refine o_callV (as := [.int (nI (i + 1)), .int (nI (cg_cell S H B i j))]) (st := []) dX2_measure_163 (k_addAhead ha hA (top := S) (by omega) hF.2.2.2.2 (by omega) (hm i (by omega))) rfl meX2_addAhead imX2_addAhead seX2_addAhead mlX2_50 ha rfl rfl (by omega) (by decide) (Nat.le_of_ble_eq_true rfl) ?_
    rintro _ _ ⟨rfl, rfl⟩
    refine o_iincN (w := 1) dX2_measure_166 rfl (by decide) (by decide) ?_
    refine o_goto (tgt := 129) dX2_measure_169 (by decide) ?_
    refine ih (j + 1) _ (by omega) hG.up hf.up ((up2_x (by omega)).trans hz) (fun y hy => ?_)
    by_cases hyj : y = i
    · subst hyj
      exact up2_s.trans (congrArg nI am0_s)
    · exact (up2_x (by omega)).trans ((hm y hy).trans (congrArg nI (am0_x hyj).symm))

theorem am0_r {S H B y : Nat} (h : y < S) : am0 S H B S 0 y = cg_row S H B 0 y := by
  unfold am0 cg_row
  rw [if_pos h, if_neg (by omega)]

set_option maxHeartbeats 4000000 in
set_option maxRecDepth 100000 in
theorem lp_ms1_0  {ζ : sm_Z} {d : Nat} (hd : 3 ≤ d) {I0 : sm_I} {a b : Nat} (ha : SH a = (0, 2, [none, some (a + 1), none, none, none, none])) (hA : SH (a + 1) = (1, 41, [])) (hb : SH b = (0, 0, [none, none, none, none, none, none])) (hba : b ≠ a) (hbb : b ≠ a + 1) {S H B : Nat} (q0 : 1 ≤ S) (q1 : S ≤ 12) (q2 : 1 ≤ H) (q3 : H ≤ B) (q4 : B ≤ 20) (e0 : I0 b 0 = nI S) (e1 : I0 b 1 = nI H) (e2 : I0 b 2 = nI B) {Q : Option Value → sm_I → Prop} (hq : ∀ I' : sm_I, LM I' a 0 S H B → frLv a I0 I' → Q none I') : ∀ (f i : Nat) (I : sm_I), i + f = S → MF I a 0 S H B → frLv a I0 I → (I (a + 1) 0 = nI 0) → (∀ y, y < S → I (a + 1) (y + 1) = nI (am0 S H B i 0 y)) → ∀ a3 a4, X0 ζ d mX2_measure 112 [some (.ref a), some (.ref b), some (.int (nI i)), a3, a4] [] I Q := by
  have hte : cg_top S B 0 = S := by unfold cg_top; simp
  intro f
  induction f with
  | zero =>
    intro i I hi hF hf hz hm a3 a4
    have hii : i = S := by omega
    subst hii
    have hG := hF
    unfold MF at hF
    rw [hte] at hF
    refine o_iload_n dX2_measure_112 rfl rfl ?_
    refine o_aload_n dX2_measure_113 rfl rfl ?_
    refine o_getI (v := nI i) dX2_measure_114 fgX2_19 ha rfl hF.2.1 ?_
    refine o_icmpN_ge (tgt := 178) dX2_measure_117 (by decide) (by omega) (by omega) (fun b_34 => ?_) (fun b_34 => absurd b_34 (by omega))
    refine o_iconst (v := nI 0) dX2_measure_178 (by decide) ?_
    refine o_istore_n dX2_measure_179 rfl (by decide) ?_
    refine lp_ms3_0 hd ha hA hb hba hbb q0 q1 q2 q3 q4 e0 e1 e2 hq (i) 0 I (by omega) hG hf (fun q z1 z2 => ?_) (fun q z1 z2 => ?_) _ _
    · rw [show q = 0 by omega]
      exact hz
    · rw [hm q z2]
      exact congrArg nI (am0_r z2)
  | succ f ih =>
    intro i I hi hF hf hz hm a3 a4
    have hG := hF
    unfold MF at hF
    rw [hte] at hF
    refine o_iload_n dX2_measure_112 rfl rfl ?_
    refine o_aload_n dX2_measure_113 rfl rfl ?_
    refine o_getI (v := nI S) dX2_measure_114 fgX2_19 ha rfl hF.2.1 ?_
    refine o_icmpN_ge (tgt := 178) dX2_measure_117 (by decide) (by omega) (by omega) (fun b_35 => absurd b_35 (by omega)) (fun b_35 => ?_)
    refine o_aload_n dX2_measure_120 rfl rfl ?_
    refine o_iload_n dX2_measure_121 rfl rfl ?_
    refine o_callVp (v := .int (nI (cg_rad S H B i))) (as := [.int (nI i)]) (st := []) dX2_measure_122 (k_radius hb q0 q1 q2 q3 q4 ((hf b 0 hba hbb).trans e0) ((hf b 1 hba hbb).trans e1) ((hf b 2 hba hbb).trans e2) (by omega)) rfl meX0_radiusOf imX0_radiusOf seX0_radiusOf mlX2_43 hb rfl rfl (by omega) (by decide) (Nat.le_of_ble_eq_true rfl) ?_
    refine o_istore_n dX2_measure_125 rfl (by decide) ?_
    refine o_iconst (v := nI 0) dX2_measure_126 (by decide) ?_
    refine o_istore dX2_measure_127 (by decide) ?_
    refine lp_ms2_0 hd ha hA hb hba hbb q0 q1 q2 q3 q4 e0 e1 e2 (i := i) (by omega) (fun I' g1 g2 g3 g4 => ?_) (2 * B) 0 I (by omega) hG hf hz hm
    refine o_iincN (w := 1) dX2_measure_172 rfl (by decide) (by decide) ?_
    refine o_goto (tgt := 112) dX2_measure_175 (by decide) ?_
    exact ih (i + 1) I' (by omega) g1 g2 g3 g4 _ _

theorem am0_0 {S H B y : Nat} : am0 S H B 0 0 y = 0 := by
  unfold am0
  rw [if_neg (by omega)]
  split <;> rfl

set_option maxHeartbeats 4000000 in
set_option maxRecDepth 100000 in
theorem lp_ms0_0  {ζ : sm_Z} {d : Nat} (hd : 3 ≤ d) {I0 : sm_I} {a b : Nat} (ha : SH a = (0, 2, [none, some (a + 1), none, none, none, none])) (hA : SH (a + 1) = (1, 41, [])) (hb : SH b = (0, 0, [none, none, none, none, none, none])) (hba : b ≠ a) (hbb : b ≠ a + 1) {S H B : Nat} (q0 : 1 ≤ S) (q1 : S ≤ 12) (q2 : 1 ≤ H) (q3 : H ≤ B) (q4 : B ≤ 20) (e0 : I0 b 0 = nI S) (e1 : I0 b 1 = nI H) (e2 : I0 b 2 = nI B) {Q : Option Value → sm_I → Prop} (hq : ∀ I' : sm_I, LM I' a 0 S H B → frLv a I0 I' → Q none I') : ∀ (f y : Nat) (I : sm_I), y + f = S + 1 → MF I a 0 S H B → frLv a I0 I → (∀ q, q < y → I (a + 1) q = nI 0) → ∀ a3 a4, X0 ζ d mX2_measure 89 [some (.ref a), some (.ref b), some (.int (nI y)), a3, a4] [] I Q := by
  have hte : cg_top S B 0 = S := by unfold cg_top; simp
  intro f
  induction f with
  | zero =>
    intro y I hy hF hf hz a3 a4
    have hG := hF
    unfold MF at hF
    rw [hte] at hF
    refine o_iload_n dX2_measure_89 rfl rfl ?_
    refine o_aload_n dX2_measure_90 rfl rfl ?_
    refine o_getI (v := nI S) dX2_measure_91 fgX2_40 ha rfl hF.2.2.2.2 ?_
    refine o_icmpN_gt (tgt := 110) dX2_measure_94 (by decide) (by omega) (by omega) (fun b_36 => ?_) (fun b_36 => absurd b_36 (by omega))
    refine o_iconst (v := nI 0) dX2_measure_110 (by decide) ?_
    refine o_istore_n dX2_measure_111 rfl (by decide) ?_
    exact lp_ms1_0 hd ha hA hb hba hbb q0 q1 q2 q3 q4 e0 e1 e2 hq S 0 I (by omega) hG hf (hz 0 (by omega)) (fun q h1 => (hz (q + 1) (by omega)).trans (congrArg nI am0_0.symm)) _ _
  | succ f ih =>
    intro y I hy hF hf hz a3 a4
    have hG := hF
    unfold MF at hF
    rw [hte] at hF
    refine o_iload_n dX2_measure_89 rfl rfl ?_
    refine o_aload_n dX2_measure_90 rfl rfl ?_
    refine o_getI (v := nI S) dX2_measure_91 fgX2_40 ha rfl hF.2.2.2.2 ?_
    refine o_icmpN_gt (tgt := 110) dX2_measure_94 (by decide) (by omega) (by omega) (fun b_37 => absurd b_37 (by omega)) (fun b_37 => ?_)
    refine o_aload_n dX2_measure_97 rfl rfl ?_
    refine o_getR (b := a + 1) dX2_measure_98 fgX2_15 ha rfl rfl ?_
    refine o_iload_n dX2_measure_101 rfl rfl ?_
    refine o_iconst (v := nI 0) dX2_measure_102 (by decide) ?_
    refine o_iastN dX2_measure_103 hA (by decide) (by omega) ?_
    refine o_iincN (w := 1) dX2_measure_104 rfl (by decide) (by decide) ?_
    refine o_goto (tgt := 89) dX2_measure_107 (by decide) ?_
    refine ih (y + 1) _ (by omega) hG.up hf.up (fun q h1 => ?_) _ _
    by_cases hqy : q = y
    · subst hqy
      exact up2_s
    · exact (up2_x (by omega)).trans (hz q (by omega))

set_option maxHeartbeats 4000000 in
set_option maxRecDepth 100000 in
theorem k_measure0 {I : sm_I} {a : Nat} (ha : SH a = (0, 2, [none, some (a + 1), none, none, none, none])) (hA : SH (a + 1) = (1, 41, [])) {b : Nat} (hb : SH b = (0, 0, [none, none, none, none, none, none])) (hba : b ≠ a) (hbb : b ≠ a + 1) {S H B : Nat} (q0 : 1 ≤ S) (q1 : S ≤ 12) (q2 : 1 ≤ H) (q3 : H ≤ B) (q4 : B ≤ 20) (e0 : I b 0 = nI S) (e1 : I b 1 = nI H) (e2 : I b 2 = nI B) (hL : LevOK I a 0) : E0 3 mX2_measure [.ref a, .ref b] I (fun r I' => r = none ∧ LM I' a 0 S H B ∧ frLv a I I') := by
  have hte : cg_top S B 0 = S := by unfold cg_top; simp
  refine E0.of (by decide) (by simp [Value.category]) (Nat.le_of_ble_eq_true rfl) (fun ζ => ?_)
  rcases hL with ⟨h0, hz⟩ | ⟨S', H', B', ⟨z0, z1, z2, z3, z4⟩, hM⟩
  · refine o_aload_n dX2_measure_0 rfl rfl ?_
    refine o_getI (v := nI 0) dX2_measure_1 fgX2_19 ha rfl hz ?_
    refine o_aload_n dX2_measure_4 rfl rfl ?_
    refine o_getI (v := nI S) dX2_measure_5 fgX2_23 hb rfl e0 ?_
    refine o_icmpN_ne (tgt := 34) dX2_measure_8 (by decide) (by omega) (by omega) (fun b_38 => ?_) (fun b_38 => absurd b_38 (by omega))
    refine o_aload_n dX2_measure_34 rfl rfl ?_
    refine o_aload_n dX2_measure_35 rfl rfl ?_
    refine o_getI (v := nI S) dX2_measure_36 fgX2_23 hb rfl e0 ?_
    refine o_putI dX2_measure_39 flX2_19 ha rfl ?_
    refine o_aload_n dX2_measure_42 rfl rfl ?_
    refine o_aload_n dX2_measure_43 rfl rfl ?_
    refine o_getI (v := nI H) dX2_measure_44 fgX2_29 hb rfl ((up2_x (by omega)).trans e1) ?_
    refine o_putI dX2_measure_47 flX2_26 ha rfl ?_
    refine o_aload_n dX2_measure_50 rfl rfl ?_
    refine o_aload_n dX2_measure_51 rfl rfl ?_
    refine o_getI (v := nI B) dX2_measure_52 fgX2_33 hb rfl ((up2_x (by omega)).trans ((up2_x (by omega)).trans e2)) ?_
    refine o_putI dX2_measure_55 flX2_30 ha rfl ?_
    refine o_aload_n dX2_measure_58 rfl rfl ?_
    refine o_aload_n dX2_measure_59 rfl rfl ?_
    refine o_getI (v := nI 0) dX2_measure_60 fgX2_9 ha rfl ((up2_x (by omega)).trans ((up2_x (by omega)).trans ((up2_x (by omega)).trans h0))) ?_
    refine o_ifN_eq (tgt := 75) dX2_measure_63 (by decide) (by omega) (fun b_39 => ?_) (fun b_39 => absurd b_39 (by omega))
    refine o_aload_n dX2_measure_75 rfl rfl ?_
    refine o_getI (v := nI S) dX2_measure_76 fgX2_19 ha rfl ((up2_x (by omega)).trans ((up2_x (by omega)).trans up2_s)) ?_
    refine o_bipush (v := nI 40) dX2_measure_79 (by decide) ?_
    refine o_minN dX2_measure_81 mlX2_34 (by omega) (by omega) (by omega) (Nat.le_of_ble_eq_true rfl) ?_
    refine o_putI dX2_measure_84 flX2_40 ha rfl ?_
    refine o_iconst (v := nI 0) dX2_measure_87 (by decide) ?_
    refine o_istore_n dX2_measure_88 rfl (by decide) ?_
    refine lp_ms0_0 (by omega) ha hA hb hba hbb q0 q1 q2 q3 q4 e0 e1 e2 (fun I' g1 g2 => ⟨rfl, g1, g2⟩) (S + 1) 0 _ (by omega) ⟨((up2_x (by omega)).trans ((up2_x (by omega)).trans ((up2_x (by omega)).trans ((up2_x (by omega)).trans h0)))), ((up2_x (by omega)).trans ((up2_x (by omega)).trans ((up2_x (by omega)).trans up2_s))), ((up2_x (by omega)).trans ((up2_x (by omega)).trans up2_s)), ((up2_x (by omega)).trans up2_s), up2_s.trans (congrArg nI (by rw [hte]; omega))⟩ (fun x k z1 z2 => ((up2_x (by omega)).trans ((up2_x (by omega)).trans ((up2_x (by omega)).trans ((up2_x (by omega)).trans rfl))))) (fun q hq => absurd hq (Nat.not_lt_zero q)) _ _
  · have h0 := hM.1
    refine o_aload_n dX2_measure_0 rfl rfl ?_
    refine o_getI (v := nI S') dX2_measure_1 fgX2_19 ha rfl hM.2.1 ?_
    refine o_aload_n dX2_measure_4 rfl rfl ?_
    refine o_getI (v := nI S) dX2_measure_5 fgX2_23 hb rfl e0 ?_
    refine o_icmpN_ne (tgt := 34) dX2_measure_8 (by decide) (by omega) (by omega) (fun b_40 => ?_) (fun b_40 => ?_)
    · refine o_aload_n dX2_measure_34 rfl rfl ?_
      refine o_aload_n dX2_measure_35 rfl rfl ?_
      refine o_getI (v := nI S) dX2_measure_36 fgX2_23 hb rfl e0 ?_
      refine o_putI dX2_measure_39 flX2_19 ha rfl ?_
      refine o_aload_n dX2_measure_42 rfl rfl ?_
      refine o_aload_n dX2_measure_43 rfl rfl ?_
      refine o_getI (v := nI H) dX2_measure_44 fgX2_29 hb rfl ((up2_x (by omega)).trans e1) ?_
      refine o_putI dX2_measure_47 flX2_26 ha rfl ?_
      refine o_aload_n dX2_measure_50 rfl rfl ?_
      refine o_aload_n dX2_measure_51 rfl rfl ?_
      refine o_getI (v := nI B) dX2_measure_52 fgX2_33 hb rfl ((up2_x (by omega)).trans ((up2_x (by omega)).trans e2)) ?_
      refine o_putI dX2_measure_55 flX2_30 ha rfl ?_
      refine o_aload_n dX2_measure_58 rfl rfl ?_
      refine o_aload_n dX2_measure_59 rfl rfl ?_
      refine o_getI (v := nI 0) dX2_measure_60 fgX2_9 ha rfl ((up2_x (by omega)).trans ((up2_x (by omega)).trans ((up2_x (by omega)).trans h0))) ?_
      refine o_ifN_eq (tgt := 75) dX2_measure_63 (by decide) (by omega) (fun b_41 => ?_) (fun b_41 => absurd b_41 (by omega))
      refine o_aload_n dX2_measure_75 rfl rfl ?_
      refine o_getI (v := nI S) dX2_measure_76 fgX2_19 ha rfl ((up2_x (by omega)).trans ((up2_x (by omega)).trans up2_s)) ?_
      refine o_bipush (v := nI 40) dX2_measure_79 (by decide) ?_
      refine o_minN dX2_measure_81 mlX2_34 (by omega) (by omega) (by omega) (Nat.le_of_ble_eq_true rfl) ?_
      refine o_putI dX2_measure_84 flX2_40 ha rfl ?_
      refine o_iconst (v := nI 0) dX2_measure_87 (by decide) ?_
      refine o_istore_n dX2_measure_88 rfl (by decide) ?_
      refine lp_ms0_0 (by omega) ha hA hb hba hbb q0 q1 q2 q3 q4 e0 e1 e2 (fun I' g1 g2 => ⟨rfl, g1, g2⟩) (S + 1) 0 _ (by omega) ⟨((up2_x (by omega)).trans ((up2_x (by omega)).trans ((up2_x (by omega)).trans ((up2_x (by omega)).trans h0)))), ((up2_x (by omega)).trans ((up2_x (by omega)).trans ((up2_x (by omega)).trans up2_s))), ((up2_x (by omega)).trans ((up2_x (by omega)).trans up2_s)), ((up2_x (by omega)).trans up2_s), up2_s.trans (congrArg nI (by rw [hte]; omega))⟩ (fun x k z1 z2 => ((up2_x (by omega)).trans ((up2_x (by omega)).trans ((up2_x (by omega)).trans ((up2_x (by omega)).trans rfl))))) (fun q hq => absurd hq (Nat.not_lt_zero q)) _ _
    · refine o_aload_n dX2_measure_11 rfl rfl ?_
      refine o_getI (v := nI H') dX2_measure_12 fgX2_26 ha rfl hM.2.2.1 ?_
      refine o_aload_n dX2_measure_15 rfl rfl ?_
      refine o_getI (v := nI H) dX2_measure_16 fgX2_29 hb rfl e1 ?_
      refine o_icmpN_ne (tgt := 34) dX2_measure_19 (by decide) (by omega) (by omega) (fun b_42 => ?_) (fun b_42 => ?_)
      · refine o_aload_n dX2_measure_34 rfl rfl ?_
        refine o_aload_n dX2_measure_35 rfl rfl ?_
        refine o_getI (v := nI S) dX2_measure_36 fgX2_23 hb rfl e0 ?_
        refine o_putI dX2_measure_39 flX2_19 ha rfl ?_
        refine o_aload_n dX2_measure_42 rfl rfl ?_
        refine o_aload_n dX2_measure_43 rfl rfl ?_
        refine o_getI (v := nI H) dX2_measure_44 fgX2_29 hb rfl ((up2_x (by omega)).trans e1) ?_
        refine o_putI dX2_measure_47 flX2_26 ha rfl ?_
        refine o_aload_n dX2_measure_50 rfl rfl ?_
        refine o_aload_n dX2_measure_51 rfl rfl ?_
        refine o_getI (v := nI B) dX2_measure_52 fgX2_33 hb rfl ((up2_x (by omega)).trans ((up2_x (by omega)).trans e2)) ?_
        refine o_putI dX2_measure_55 flX2_30 ha rfl ?_
        refine o_aload_n dX2_measure_58 rfl rfl ?_
        refine o_aload_n dX2_measure_59 rfl rfl ?_
        refine o_getI (v := nI 0) dX2_measure_60 fgX2_9 ha rfl ((up2_x (by omega)).trans ((up2_x (by omega)).trans ((up2_x (by omega)).trans h0))) ?_
        refine o_ifN_eq (tgt := 75) dX2_measure_63 (by decide) (by omega) (fun b_43 => ?_) (fun b_43 => absurd b_43 (by omega))
        refine o_aload_n dX2_measure_75 rfl rfl ?_
        refine o_getI (v := nI S) dX2_measure_76 fgX2_19 ha rfl ((up2_x (by omega)).trans ((up2_x (by omega)).trans up2_s)) ?_
        refine o_bipush (v := nI 40) dX2_measure_79 (by decide) ?_
        refine o_minN dX2_measure_81 mlX2_34 (by omega) (by omega) (by omega) (Nat.le_of_ble_eq_true rfl) ?_
        refine o_putI dX2_measure_84 flX2_40 ha rfl ?_
        refine o_iconst (v := nI 0) dX2_measure_87 (by decide) ?_
        refine o_istore_n dX2_measure_88 rfl (by decide) ?_
        refine lp_ms0_0 (by omega) ha hA hb hba hbb q0 q1 q2 q3 q4 e0 e1 e2 (fun I' g1 g2 => ⟨rfl, g1, g2⟩) (S + 1) 0 _ (by omega) ⟨((up2_x (by omega)).trans ((up2_x (by omega)).trans ((up2_x (by omega)).trans ((up2_x (by omega)).trans h0)))), ((up2_x (by omega)).trans ((up2_x (by omega)).trans ((up2_x (by omega)).trans up2_s))), ((up2_x (by omega)).trans ((up2_x (by omega)).trans up2_s)), ((up2_x (by omega)).trans up2_s), up2_s.trans (congrArg nI (by rw [hte]; omega))⟩ (fun x k z1 z2 => ((up2_x (by omega)).trans ((up2_x (by omega)).trans ((up2_x (by omega)).trans ((up2_x (by omega)).trans rfl))))) (fun q hq => absurd hq (Nat.not_lt_zero q)) _ _
      · refine o_aload_n dX2_measure_22 rfl rfl ?_
        refine o_getI (v := nI B') dX2_measure_23 fgX2_30 ha rfl hM.2.2.2.1 ?_
        refine o_aload_n dX2_measure_26 rfl rfl ?_
        refine o_getI (v := nI B) dX2_measure_27 fgX2_33 hb rfl e2 ?_
        refine o_icmpN_ne (tgt := 34) dX2_measure_30 (by decide) (by omega) (by omega) (fun b_44 => ?_) (fun b_44 => ?_)
        · refine o_aload_n dX2_measure_34 rfl rfl ?_
          refine o_aload_n dX2_measure_35 rfl rfl ?_
          refine o_getI (v := nI S) dX2_measure_36 fgX2_23 hb rfl e0 ?_
          refine o_putI dX2_measure_39 flX2_19 ha rfl ?_
          refine o_aload_n dX2_measure_42 rfl rfl ?_
          refine o_aload_n dX2_measure_43 rfl rfl ?_
          refine o_getI (v := nI H) dX2_measure_44 fgX2_29 hb rfl ((up2_x (by omega)).trans e1) ?_
          refine o_putI dX2_measure_47 flX2_26 ha rfl ?_
          refine o_aload_n dX2_measure_50 rfl rfl ?_
          refine o_aload_n dX2_measure_51 rfl rfl ?_
          refine o_getI (v := nI B) dX2_measure_52 fgX2_33 hb rfl ((up2_x (by omega)).trans ((up2_x (by omega)).trans e2)) ?_
          refine o_putI dX2_measure_55 flX2_30 ha rfl ?_
          refine o_aload_n dX2_measure_58 rfl rfl ?_
          refine o_aload_n dX2_measure_59 rfl rfl ?_
          refine o_getI (v := nI 0) dX2_measure_60 fgX2_9 ha rfl ((up2_x (by omega)).trans ((up2_x (by omega)).trans ((up2_x (by omega)).trans h0))) ?_
          refine o_ifN_eq (tgt := 75) dX2_measure_63 (by decide) (by omega) (fun b_45 => ?_) (fun b_45 => absurd b_45 (by omega))
          refine o_aload_n dX2_measure_75 rfl rfl ?_
          refine o_getI (v := nI S) dX2_measure_76 fgX2_19 ha rfl ((up2_x (by omega)).trans ((up2_x (by omega)).trans up2_s)) ?_
          refine o_bipush (v := nI 40) dX2_measure_79 (by decide) ?_
          refine o_minN dX2_measure_81 mlX2_34 (by omega) (by omega) (by omega) (Nat.le_of_ble_eq_true rfl) ?_
          refine o_putI dX2_measure_84 flX2_40 ha rfl ?_
          refine o_iconst (v := nI 0) dX2_measure_87 (by decide) ?_
          refine o_istore_n dX2_measure_88 rfl (by decide) ?_
          refine lp_ms0_0 (by omega) ha hA hb hba hbb q0 q1 q2 q3 q4 e0 e1 e2 (fun I' g1 g2 => ⟨rfl, g1, g2⟩) (S + 1) 0 _ (by omega) ⟨((up2_x (by omega)).trans ((up2_x (by omega)).trans ((up2_x (by omega)).trans ((up2_x (by omega)).trans h0)))), ((up2_x (by omega)).trans ((up2_x (by omega)).trans ((up2_x (by omega)).trans up2_s))), ((up2_x (by omega)).trans ((up2_x (by omega)).trans up2_s)), ((up2_x (by omega)).trans up2_s), up2_s.trans (congrArg nI (by rw [hte]; omega))⟩ (fun x k z1 z2 => ((up2_x (by omega)).trans ((up2_x (by omega)).trans ((up2_x (by omega)).trans ((up2_x (by omega)).trans rfl))))) (fun q hq => absurd hq (Nat.not_lt_zero q)) _ _
        · exact o_vret dX2_measure_33 rfl ⟨rfl, (by subst b_40 b_42 b_44; exact hM), frLv.refl a I⟩
