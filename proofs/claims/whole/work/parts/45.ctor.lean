theorem va_s {α : Type} {f : Nat → α} {k : Nat} {v : α} : va_up f k v k = v := by unfold va_up; rw [if_pos rfl]
theorem va_x {α : Type} {f : Nat → α} {k j : Nat} {v : α} (h : j ≠ k) : va_up f k v j = f j := by unfold va_up; rw [if_neg h]
theorem dfl_ok {ci : Nat} {ty : Nat → FieldType} {N : Nat} (h : ∀ j, j < N → defaultValue (ty j) = if (sm_ft ci).getD j false = true then .int 0 else .null) : ∀ j, j < N → defaultValue (ty j) = if (sm_ft ci).getD j false = true then .int 0 else .null := h

theorem dfX0 : ∀ j, j < 6 → defaultValue (tyX0 j) = if (sm_ft 0).getD j false = true then .int 0 else .null := by decide +kernel

theorem dfX1 : ∀ j, j < 2 → defaultValue (tyX1 j) = if (sm_ft 1).getD j false = true then .int 0 else .null := by decide +kernel

theorem dfX2 : ∀ j, j < 6 → defaultValue (tyX2 j) = if (sm_ft 2).getD j false = true then .int 0 else .null := by decide +kernel

theorem dfX3 : ∀ j, j < 3 → defaultValue (tyX3 j) = if (sm_ft 3).getD j false = true then .int 0 else .null := by decide +kernel

theorem dfX4 : ∀ j, j < 4 → defaultValue (tyX4 j) = if (sm_ft 4).getD j false = true then .int 0 else .null := by decide +kernel

theorem dfX5 : ∀ j, j < 5 → defaultValue (tyX5 j) = if (sm_ft 5).getD j false = true then .int 0 else .null := by decide +kernel

theorem dfX6 : ∀ j, j < 3 → defaultValue (tyX6 j) = if (sm_ft 6).getD j false = true then .int 0 else .null := by decide +kernel

theorem dfX7 : ∀ j, j < 5 → defaultValue (tyX7 j) = if (sm_ft 7).getD j false = true then .int 0 else .null := by decide +kernel

theorem dfX8 : ∀ j, j < 11 → defaultValue (tyX8 j) = if (sm_ft 8).getD j false = true then .int 0 else .null := by decide +kernel

theorem dfX9 : ∀ j, j < 21 → defaultValue (tyX9 j) = if (sm_ft 9).getD j false = true then .int 0 else .null := by decide +kernel

set_option maxHeartbeats 4000000 in
set_option maxRecDepth 100000 in
theorem i_cask {n : Nat} {sh : Nat → sm_S} {I : sm_I} (a : Nat) : Em 1 0 0 mX0_init [.ref a] n sh I (fun r n' sh' I' => r = none ∧ n' = n ∧ sh' = sh ∧ I' = I) := by
  refine Em.of (by decide) (by simp [Value.category]) (Nat.le_of_ble_eq_true rfl) (fun ζ => ?_)
  refine x_aload_n dX0_init_0 rfl rfl ?_
  refine x_objInit dX0_init_1 mlX0_1 oi_im oi_co (by decide) (by decide) ?_
  exact x_ret (r := none) ⟨rfl, dX0_init_4⟩ (by decide) (by decide) ⟨rfl, rfl, rfl, rfl⟩

set_option maxHeartbeats 4000000 in
set_option maxRecDepth 100000 in
theorem i_sharing {n : Nat} {sh : Nat → sm_S} {I : sm_I} (a : Nat) : Em 1 0 0 mX5_init [.ref a] n sh I (fun r n' sh' I' => r = none ∧ n' = n ∧ sh' = sh ∧ I' = I) := by
  refine Em.of (by decide) (by simp [Value.category]) (Nat.le_of_ble_eq_true rfl) (fun ζ => ?_)
  refine x_aload_n dX5_init_0 rfl rfl ?_
  refine x_objInit dX5_init_1 mlX5_3 oi_im oi_co (by decide) (by decide) ?_
  exact x_ret (r := none) ⟨rfl, dX5_init_4⟩ (by decide) (by decide) ⟨rfl, rfl, rfl, rfl⟩

set_option maxHeartbeats 4000000 in
set_option maxRecDepth 100000 in
theorem i_levels {n : Nat} {sh : Nat → sm_S} {I : sm_I} {a : Nat} (ha : a < n) (hn : n < 999999) (hs : sh a = (0, 2, [none, none, none, none, none, none])) {l : Int32} (hl : l = 0 ∨ l = 1) : Em 1 1 41 mX2_init [.ref a, .int l] n sh I (fun r n' sh' I' => r = none ∧ n' = n + 1 ∧ (∀ b, b < n → b ≠ a → sh' b = sh b) ∧ sh' a = (0, 2, [none, some n, none, none, none, none]) ∧ sh' n = (1, 41, []) ∧ (∀ b k, b < n → ¬ (b = a ∧ k = 0) → I' b k = I b k) ∧ I' a 0 = l ∧ ∀ k, I' n k = 0) := by
  refine Em.of (by decide) (by simp [Value.category]) (Nat.le_of_ble_eq_true rfl) (fun ζ => ?_)
  refine x_aload_n dX2_init_0 rfl rfl ?_
  refine x_objInit dX2_init_1 mlX2_3 oi_im oi_co (by decide) (by decide) ?_
  refine x_aload_n dX2_init_4 rfl rfl ?_
  refine x_iload_n dX2_init_5 rfl rfl ?_
  refine x_putI dX2_init_6 flX2_9 (fun _ => rfl) ha hs rfl (by rcases hl with rfl | rfl <;> rfl) (by rcases hl with rfl | rfl <;> rfl) ?_
  refine x_aload_n dX2_init_9 rfl rfl ?_
  refine x_bipush (v := nI 41) dX2_init_10 (by decide) ?_
  refine x_newa (t := 0) (N := 41) dX2_init_12 (by decide) rfl rfl ac_int (by decide) (by decide) (by decide) (by decide) (by decide) (by omega) ?_
  refine x_putR (rs := [none, none, none, none, none, none]) dX2_init_14 flX2_15 (fun _ => rfl) (by omega) ((va_x (by omega)).trans hs) rfl rfl (fun x => rfl) (fun x => rfl) ?_
  exact x_ret (r := none) ⟨rfl, dX2_init_17⟩ (by decide) (by decide) ⟨rfl, rfl, fun b h1 h2 => (va_x h2).trans (va_x (by omega)), va_s, (va_x (by omega)).trans va_s, fun b k h1 h2 => (congrFun (va_x (by omega)) k).trans (up2_x h2), (congrFun (va_x (by omega)) 0).trans up2_s, fun k => congrFun va_s k⟩

set_option maxHeartbeats 4000000 in
set_option maxRecDepth 100000 in
theorem i_cellar {n : Nat} {sh : Nat → sm_S} {I : sm_I} {a : Nat} (ha : a < n) (hn : n < 999990) (hs : sh a = (0, 1, [none, none])) : Em 2 5 28 mX1_init [.ref a] n sh I (fun r n' sh' I' => r = none ∧ n' = n + 5 ∧ (∀ b, b < n → b ≠ a → sh' b = sh b) ∧ sh' a = (0, 1, [some n, none]) ∧ sh' n = (4, 4, [some (n + 1), some (n + 2), some (n + 3), some (n + 4)]) ∧ (∀ c, c < 4 → sh' (n + 1 + c) = (0, 0, [none, none, none, none, none, none])) ∧ (∀ b k, b < n → I' b k = I b k) ∧ (∀ b k, n ≤ b → b < n + 5 → I' b k = 0)) := by
  refine Em.of (by decide) (by simp [Value.category]) (Nat.le_of_ble_eq_true rfl) (fun ζ => ?_)
  refine x_aload_n dX1_init_0 rfl rfl ?_
  refine x_objInit dX1_init_1 mlX1_3 oi_im oi_co (by decide) (by decide) ?_
  refine x_aload_n dX1_init_4 rfl rfl ?_
  refine x_iconst (v := nI 4) dX1_init_5 (by decide) ?_
  refine x_newq (t := 3) (N := 4) dX1_init_6 (by decide) rfl cnX1_9 (by decide) (by decide) (by decide) (by decide) (by decide) (by omega) ?_
  refine x_putR (rs := [none, none]) dX1_init_9 flX1_11 (fun _ => rfl) (by omega) (((va_x (by omega)).trans hs)) rfl rfl (fun x => rfl) (fun x => rfl) ?_
  refine x_iconst (v := nI 0) dX1_init_12 (by decide) ?_
  refine x_istore_n dX1_init_13 rfl (by decide) ?_
  refine x_iload_n dX1_init_14 rfl rfl ?_
  refine x_iconst (v := nI 4) dX1_init_15 (by decide) ?_
  refine x_icmp_ge (tgt := 38) dX1_init_16 (by decide) (fun h => absurd h (by decide)) (fun _ => ?_)
  refine x_aload_n dX1_init_19 rfl rfl ?_
  refine x_getR (b := n) dX1_init_20 fgX1_11 (by omega) (va_s) rfl rfl ?_
  refine x_iload_n dX1_init_23 rfl rfl ?_
  refine x_new (N := 6) dX1_init_24 clX0 dfX0 cnX1_9 isX0 iniX0 (Nat.le_of_ble_eq_true rfl) (Nat.le_of_ble_eq_true rfl) (by omega) ?_
  refine x_dup dX1_init_27 rfl ?_
  refine x_callIN (as := []) (st := [.ref (n + 1), .int (nI 0), .ref n]) dX1_init_28 (i_cask (n + 1)) rfl rfl rfl meX0_init imX0_init (fun U h => h.2.2.2.1) (by decide) (by decide) (Nat.le_of_ble_eq_true rfl) ?_
  rintro _ _ _ _ ⟨rfl, rfl, rfl, rfl⟩
  refine x_aast (t := 3) (N := 4) (rs := [none, none, none, none]) dX1_init_31 (by omega) (((va_x (by omega)).trans ((va_x (by omega)).trans va_s))) (by decide) (by omega) (va_s) rfl rfl (vp_in_nI (by decide) (by decide)) rfl ?_
  refine x_iinc (v := nI 1) dX1_init_32 rfl (by decide) (by decide) ?_
  refine x_goto (tgt := 14) dX1_init_35 (by decide) ?_
  refine x_iload_n dX1_init_14 rfl rfl ?_
  refine x_iconst (v := nI 4) dX1_init_15 (by decide) ?_
  refine x_icmp_ge (tgt := 38) dX1_init_16 (by decide) (fun h => absurd h (by decide)) (fun _ => ?_)
  refine x_aload_n dX1_init_19 rfl rfl ?_
  refine x_getR (b := n) dX1_init_20 fgX1_11 (by omega) (((va_x (by omega)).trans ((va_x (by omega)).trans va_s))) rfl rfl ?_
  refine x_iload_n dX1_init_23 rfl rfl ?_
  refine x_new (N := 6) dX1_init_24 clX0 dfX0 cnX1_9 isX0 iniX0 (Nat.le_of_ble_eq_true rfl) (Nat.le_of_ble_eq_true rfl) (by omega) ?_
  refine x_dup dX1_init_27 rfl ?_
  refine x_callIN (as := []) (st := [.ref (n + 2), .int (nI 1), .ref n]) dX1_init_28 (i_cask (n + 2)) rfl rfl rfl meX0_init imX0_init (fun U h => h.2.2.2.1) (by decide) (by decide) (Nat.le_of_ble_eq_true rfl) ?_
  rintro _ _ _ _ ⟨rfl, rfl, rfl, rfl⟩
  refine x_aast (t := 3) (N := 4) (rs := [some (n + 1), none, none, none]) dX1_init_31 (by omega) (((va_x (by omega)).trans va_s)) (by decide) (by omega) (va_s) rfl rfl (vp_in_nI (by decide) (by decide)) rfl ?_
  refine x_iinc (v := nI 2) dX1_init_32 rfl (by decide) (by decide) ?_
  refine x_goto (tgt := 14) dX1_init_35 (by decide) ?_
  refine x_iload_n dX1_init_14 rfl rfl ?_
  refine x_iconst (v := nI 4) dX1_init_15 (by decide) ?_
  refine x_icmp_ge (tgt := 38) dX1_init_16 (by decide) (fun h => absurd h (by decide)) (fun _ => ?_)
  refine x_aload_n dX1_init_19 rfl rfl ?_
  refine x_getR (b := n) dX1_init_20 fgX1_11 (by omega) (((va_x (by omega)).trans ((va_x (by omega)).trans ((va_x (by omega)).trans ((va_x (by omega)).trans va_s))))) rfl rfl ?_
  refine x_iload_n dX1_init_23 rfl rfl ?_
  refine x_new (N := 6) dX1_init_24 clX0 dfX0 cnX1_9 isX0 iniX0 (Nat.le_of_ble_eq_true rfl) (Nat.le_of_ble_eq_true rfl) (by omega) ?_
  refine x_dup dX1_init_27 rfl ?_
  refine x_callIN (as := []) (st := [.ref (n + 3), .int (nI 2), .ref n]) dX1_init_28 (i_cask (n + 3)) rfl rfl rfl meX0_init imX0_init (fun U h => h.2.2.2.1) (by decide) (by decide) (Nat.le_of_ble_eq_true rfl) ?_
  rintro _ _ _ _ ⟨rfl, rfl, rfl, rfl⟩
  refine x_aast (t := 3) (N := 4) (rs := [some (n + 1), some (n + 2), none, none]) dX1_init_31 (by omega) (((va_x (by omega)).trans va_s)) (by decide) (by omega) (va_s) rfl rfl (vp_in_nI (by decide) (by decide)) rfl ?_
  refine x_iinc (v := nI 3) dX1_init_32 rfl (by decide) (by decide) ?_
  refine x_goto (tgt := 14) dX1_init_35 (by decide) ?_
  refine x_iload_n dX1_init_14 rfl rfl ?_
  refine x_iconst (v := nI 4) dX1_init_15 (by decide) ?_
  refine x_icmp_ge (tgt := 38) dX1_init_16 (by decide) (fun h => absurd h (by decide)) (fun _ => ?_)
  refine x_aload_n dX1_init_19 rfl rfl ?_
  refine x_getR (b := n) dX1_init_20 fgX1_11 (by omega) (((va_x (by omega)).trans ((va_x (by omega)).trans ((va_x (by omega)).trans ((va_x (by omega)).trans ((va_x (by omega)).trans ((va_x (by omega)).trans va_s))))))) rfl rfl ?_
  refine x_iload_n dX1_init_23 rfl rfl ?_
  refine x_new (N := 6) dX1_init_24 clX0 dfX0 cnX1_9 isX0 iniX0 (Nat.le_of_ble_eq_true rfl) (Nat.le_of_ble_eq_true rfl) (by omega) ?_
  refine x_dup dX1_init_27 rfl ?_
  refine x_callIN (as := []) (st := [.ref (n + 4), .int (nI 3), .ref n]) dX1_init_28 (i_cask (n + 4)) rfl rfl rfl meX0_init imX0_init (fun U h => h.2.2.2.1) (by decide) (by decide) (Nat.le_of_ble_eq_true rfl) ?_
  rintro _ _ _ _ ⟨rfl, rfl, rfl, rfl⟩
  refine x_aast (t := 3) (N := 4) (rs := [some (n + 1), some (n + 2), some (n + 3), none]) dX1_init_31 (by omega) (((va_x (by omega)).trans va_s)) (by decide) (by omega) (va_s) rfl rfl (vp_in_nI (by decide) (by decide)) rfl ?_
  refine x_iinc (v := nI 4) dX1_init_32 rfl (by decide) (by decide) ?_
  refine x_goto (tgt := 14) dX1_init_35 (by decide) ?_
  refine x_iload_n dX1_init_14 rfl rfl ?_
  refine x_iconst (v := nI 4) dX1_init_15 (by decide) ?_
  refine x_icmp_ge (tgt := 38) dX1_init_16 (by decide) (fun _ => ?_) (fun h => absurd (by decide) h)
  refine x_ret (r := none) ⟨rfl, dX1_init_38⟩ (Nat.le_of_ble_eq_true rfl) (Nat.le_of_ble_eq_true rfl) ⟨rfl, rfl, fun b h1 h2 => ((va_x (by omega)).trans ((va_x (by omega)).trans ((va_x (by omega)).trans ((va_x (by omega)).trans ((va_x (by omega)).trans ((va_x (by omega)).trans ((va_x (by omega)).trans ((va_x (by omega)).trans ((va_x (by omega)).trans ((va_x (by omega)).trans rfl)))))))))), ((va_x (by omega)).trans ((va_x (by omega)).trans ((va_x (by omega)).trans ((va_x (by omega)).trans ((va_x (by omega)).trans ((va_x (by omega)).trans ((va_x (by omega)).trans ((va_x (by omega)).trans va_s)))))))), va_s, fun c hc => ?_, fun b k h1 => congrFun ((va_x (by omega)).trans ((va_x (by omega)).trans ((va_x (by omega)).trans ((va_x (by omega)).trans ((va_x (by omega)).trans rfl))))) k, fun b k h1 h2 => ?_⟩
  · rcases (show c = 0 ∨ c = 1 ∨ c = 2 ∨ c = 3 by omega) with rfl | rfl | rfl | rfl
    · exact ((va_x (by omega)).trans ((va_x (by omega)).trans ((va_x (by omega)).trans ((va_x (by omega)).trans ((va_x (by omega)).trans ((va_x (by omega)).trans ((va_x (by omega)).trans va_s)))))))
    · exact ((va_x (by omega)).trans ((va_x (by omega)).trans ((va_x (by omega)).trans ((va_x (by omega)).trans ((va_x (by omega)).trans va_s)))))
    · exact ((va_x (by omega)).trans ((va_x (by omega)).trans ((va_x (by omega)).trans va_s)))
    · exact ((va_x (by omega)).trans va_s)
  · rcases (show b = n ∨ b = n + 1 ∨ b = n + 2 ∨ b = n + 3 ∨ b = n + 4 by omega) with rfl | rfl | rfl | rfl | rfl
    · exact congrFun ((va_x (by omega)).trans ((va_x (by omega)).trans ((va_x (by omega)).trans ((va_x (by omega)).trans va_s)))) k
    · exact congrFun ((va_x (by omega)).trans ((va_x (by omega)).trans ((va_x (by omega)).trans va_s))) k
    · exact congrFun ((va_x (by omega)).trans ((va_x (by omega)).trans va_s)) k
    · exact congrFun ((va_x (by omega)).trans va_s) k
    · exact congrFun va_s k

set_option maxHeartbeats 4000000 in
set_option maxRecDepth 100000 in
theorem i_text {n : Nat} {sh : Nat → sm_S} {I : sm_I} {a : Nat} (ha : a < n) (hn : n < 999900) (hs : sh a = (0, 7, [none, none, none, none, none])) : Em 1 4 243 mX7_init [.ref a] n sh I (fun r n' sh' I' => r = none ∧ n' = n + 4 ∧ (∀ b, b < n → b ≠ a → sh' b = sh b) ∧ sh' a = (0, 7, [some n, none, some (n + 1), some (n + 2), some (n + 3)]) ∧ sh' (n) = (1, 60, []) ∧ sh' (n + 1) = (1, 61, []) ∧ sh' (n + 2) = (1, 61, []) ∧ sh' (n + 3) = (1, 61, []) ∧ (∀ b k, b < n → I' b k = I b k) ∧ (∀ b k, n ≤ b → b < n + 4 → I' b k = 0)) := by
  refine Em.of (by decide) (by simp [Value.category]) (Nat.le_of_ble_eq_true rfl) (fun ζ => ?_)
  refine x_aload_n dX7_init_0 rfl rfl ?_
  refine x_objInit dX7_init_1 mlX7_3 oi_im oi_co (by decide) (by decide) ?_
  refine x_aload_n dX7_init_4 rfl rfl ?_
  refine x_bipush (v := nI 60) dX7_init_5 (by decide) ?_
  refine x_newa (t := 0) (N := 60) dX7_init_7 (by decide) rfl rfl ac_int (by decide) (by decide) (Nat.le_of_ble_eq_true rfl) (Nat.le_of_ble_eq_true rfl) (Nat.le_of_ble_eq_true rfl) (by omega) ?_
  refine x_putR (rs := [none, none, none, none, none]) dX7_init_9 flX7_9 (fun _ => rfl) (by omega) (((va_x (by omega)).trans hs)) rfl rfl (fun x => rfl) (fun x => rfl) ?_
  refine x_aload_n dX7_init_12 rfl rfl ?_
  refine x_bipush (v := nI 61) dX7_init_13 (by decide) ?_
  refine x_newa (t := 0) (N := 61) dX7_init_15 (by decide) rfl rfl ac_int (by decide) (by decide) (Nat.le_of_ble_eq_true rfl) (Nat.le_of_ble_eq_true rfl) (Nat.le_of_ble_eq_true rfl) (by omega) ?_
  refine x_putR (rs := [some n, none, none, none, none]) dX7_init_17 flX7_15 (fun _ => rfl) (by omega) (((va_x (by omega)).trans va_s)) rfl rfl (fun x => rfl) (fun x => rfl) ?_
  refine x_aload_n dX7_init_20 rfl rfl ?_
  refine x_bipush (v := nI 61) dX7_init_21 (by decide) ?_
  refine x_newa (t := 0) (N := 61) dX7_init_23 (by decide) rfl rfl ac_int (by decide) (by decide) (Nat.le_of_ble_eq_true rfl) (Nat.le_of_ble_eq_true rfl) (Nat.le_of_ble_eq_true rfl) (by omega) ?_
  refine x_putR (rs := [some n, none, some (n + 1), none, none]) dX7_init_25 flX7_18 (fun _ => rfl) (by omega) (((va_x (by omega)).trans va_s)) rfl rfl (fun x => rfl) (fun x => rfl) ?_
  refine x_aload_n dX7_init_28 rfl rfl ?_
  refine x_bipush (v := nI 61) dX7_init_29 (by decide) ?_
  refine x_newa (t := 0) (N := 61) dX7_init_31 (by decide) rfl rfl ac_int (by decide) (by decide) (Nat.le_of_ble_eq_true rfl) (Nat.le_of_ble_eq_true rfl) (Nat.le_of_ble_eq_true rfl) (by omega) ?_
  refine x_putR (rs := [some n, none, some (n + 1), some (n + 2), none]) dX7_init_33 flX7_21 (fun _ => rfl) (by omega) (((va_x (by omega)).trans va_s)) rfl rfl (fun x => rfl) (fun x => rfl) ?_
  refine x_ret (r := none) ⟨rfl, dX7_init_36⟩ (Nat.le_of_ble_eq_true rfl) (Nat.le_of_ble_eq_true rfl) ⟨rfl, rfl, fun b h1 h2 => ((va_x (by omega)).trans ((va_x (by omega)).trans ((va_x (by omega)).trans ((va_x (by omega)).trans ((va_x (by omega)).trans ((va_x (by omega)).trans ((va_x (by omega)).trans ((va_x (by omega)).trans rfl)))))))), va_s, ((va_x (by omega)).trans ((va_x (by omega)).trans ((va_x (by omega)).trans ((va_x (by omega)).trans ((va_x (by omega)).trans ((va_x (by omega)).trans ((va_x (by omega)).trans va_s))))))), ((va_x (by omega)).trans ((va_x (by omega)).trans ((va_x (by omega)).trans ((va_x (by omega)).trans ((va_x (by omega)).trans va_s))))), ((va_x (by omega)).trans ((va_x (by omega)).trans ((va_x (by omega)).trans va_s))), ((va_x (by omega)).trans va_s), fun b k h1 => congrFun ((va_x (by omega)).trans ((va_x (by omega)).trans ((va_x (by omega)).trans ((va_x (by omega)).trans rfl)))) k, fun b k h1 h2 => ?_⟩
  rcases (show b = n ∨ b = n + 1 ∨ b = n + 2 ∨ b = n + 3 by omega) with rfl | rfl | rfl | rfl
  · exact congrFun ((va_x (by omega)).trans ((va_x (by omega)).trans ((va_x (by omega)).trans va_s))) k
  · exact congrFun ((va_x (by omega)).trans ((va_x (by omega)).trans va_s)) k
  · exact congrFun ((va_x (by omega)).trans va_s) k
  · exact congrFun va_s k

set_option maxHeartbeats 4000000 in
set_option maxRecDepth 100000 in
theorem i_sight {n : Nat} {sh : Nat → sm_S} {I : sm_I} {a : Nat} (ha : a < n) (hn : n < 999900) (hs : sh a = (0, 6, [none, none, none])) : Em 1 2 12 mX6_init [.ref a] n sh I (fun r n' sh' I' => r = none ∧ n' = n + 2 ∧ (∀ b, b < n → b ≠ a → sh' b = sh b) ∧ sh' a = (0, 6, [some n, some (n + 1), none]) ∧ sh' (n) = (1, 6, []) ∧ sh' (n + 1) = (1, 6, []) ∧ (∀ b k, b < n → I' b k = I b k) ∧ (∀ b k, n ≤ b → b < n + 2 → I' b k = 0)) := by
  refine Em.of (by decide) (by simp [Value.category]) (Nat.le_of_ble_eq_true rfl) (fun ζ => ?_)
  refine x_aload_n dX6_init_0 rfl rfl ?_
  refine x_objInit dX6_init_1 mlX6_3 oi_im oi_co (by decide) (by decide) ?_
  refine x_aload_n dX6_init_4 rfl rfl ?_
  refine x_bipush (v := nI 6) dX6_init_5 (by decide) ?_
  refine x_newa (t := 0) (N := 6) dX6_init_7 (by decide) rfl rfl ac_int (by decide) (by decide) (Nat.le_of_ble_eq_true rfl) (Nat.le_of_ble_eq_true rfl) (Nat.le_of_ble_eq_true rfl) (by omega) ?_
  refine x_putR (rs := [none, none, none]) dX6_init_9 flX6_9 (fun _ => rfl) (by omega) (((va_x (by omega)).trans hs)) rfl rfl (fun x => rfl) (fun x => rfl) ?_
  refine x_aload_n dX6_init_12 rfl rfl ?_
  refine x_bipush (v := nI 6) dX6_init_13 (by decide) ?_
  refine x_newa (t := 0) (N := 6) dX6_init_15 (by decide) rfl rfl ac_int (by decide) (by decide) (Nat.le_of_ble_eq_true rfl) (Nat.le_of_ble_eq_true rfl) (Nat.le_of_ble_eq_true rfl) (by omega) ?_
  refine x_putR (rs := [some n, none, none]) dX6_init_17 flX6_15 (fun _ => rfl) (by omega) (((va_x (by omega)).trans va_s)) rfl rfl (fun x => rfl) (fun x => rfl) ?_
  refine x_ret (r := none) ⟨rfl, dX6_init_20⟩ (Nat.le_of_ble_eq_true rfl) (Nat.le_of_ble_eq_true rfl) ⟨rfl, rfl, fun b h1 h2 => ((va_x (by omega)).trans ((va_x (by omega)).trans ((va_x (by omega)).trans ((va_x (by omega)).trans rfl)))), va_s, ((va_x (by omega)).trans ((va_x (by omega)).trans ((va_x (by omega)).trans va_s))), ((va_x (by omega)).trans va_s), fun b k h1 => congrFun ((va_x (by omega)).trans ((va_x (by omega)).trans rfl)) k, fun b k h1 h2 => ?_⟩
  rcases (show b = n ∨ b = n + 1 by omega) with rfl | rfl
  · exact congrFun ((va_x (by omega)).trans va_s) k
  · exact congrFun va_s k

set_option maxHeartbeats 4000000 in
set_option maxRecDepth 100000 in
theorem i_model {n : Nat} {sh : Nat → sm_S} {I : sm_I} {a : Nat} (ha : a < n) (hn : n < 999900) (hs : sh a = (0, 9, [none, none, none, none, none, none, none, none, none, none, none, none, none, none, none, none, none, none, none, none, none])) : Em 1 9 4415 mX9_init [.ref a] n sh I (fun r n' sh' I' => r = none ∧ n' = n + 9 ∧ (∀ b, b < n → b ≠ a → sh' b = sh b) ∧ sh' a = (0, 9, [none, some n, some (n + 1), some (n + 2), none, some (n + 3), some (n + 4), some (n + 5), none, some (n + 6), none, none, none, none, none, none, some (n + 7), none, none, none, some (n + 8)]) ∧ sh' (n) = (1, 25, []) ∧ sh' (n + 1) = (1, 25, []) ∧ sh' (n + 2) = (1, 200, []) ∧ sh' (n + 3) = (1, 50, []) ∧ sh' (n + 4) = (2, 2, []) ∧ sh' (n + 5) = (1, 12, []) ∧ sh' (n + 6) = (3, 60, []) ∧ sh' (n + 7) = (1, 41, []) ∧ sh' (n + 8) = (1, 4000, []) ∧ (∀ b k, b < n → I' b k = I b k) ∧ (∀ b k, n ≤ b → b < n + 9 → I' b k = 0)) := by
  refine Em.of (by decide) (by simp [Value.category]) (Nat.le_of_ble_eq_true rfl) (fun ζ => ?_)
  refine x_aload_n dX9_init_0 rfl rfl ?_
  refine x_objInit dX9_init_1 mlX9_1 oi_im oi_co (by decide) (by decide) ?_
  refine x_aload_n dX9_init_4 rfl rfl ?_
  refine x_bipush (v := nI 25) dX9_init_5 (by decide) ?_
  refine x_newa (t := 0) (N := 25) dX9_init_7 (by decide) rfl rfl ac_int (by decide) (by decide) (Nat.le_of_ble_eq_true rfl) (Nat.le_of_ble_eq_true rfl) (Nat.le_of_ble_eq_true rfl) (by omega) ?_
  refine x_putR (rs := [none, none, none, none, none, none, none, none, none, none, none, none, none, none, none, none, none, none, none, none, none]) dX9_init_9 flX9_7 (fun _ => rfl) (by omega) (((va_x (by omega)).trans hs)) rfl rfl (fun x => rfl) (fun x => rfl) ?_
  refine x_aload_n dX9_init_12 rfl rfl ?_
  refine x_bipush (v := nI 25) dX9_init_13 (by decide) ?_
  refine x_newa (t := 0) (N := 25) dX9_init_15 (by decide) rfl rfl ac_int (by decide) (by decide) (Nat.le_of_ble_eq_true rfl) (Nat.le_of_ble_eq_true rfl) (Nat.le_of_ble_eq_true rfl) (by omega) ?_
  refine x_putR (rs := [none, some n, none, none, none, none, none, none, none, none, none, none, none, none, none, none, none, none, none, none, none]) dX9_init_17 flX9_13 (fun _ => rfl) (by omega) (((va_x (by omega)).trans va_s)) rfl rfl (fun x => rfl) (fun x => rfl) ?_
  refine x_aload_n dX9_init_20 rfl rfl ?_
  refine x_sipush (v := nI 200) dX9_init_21 (by decide) ?_
  refine x_newa (t := 0) (N := 200) dX9_init_24 (by decide) rfl rfl ac_int (by decide) (by decide) (Nat.le_of_ble_eq_true rfl) (Nat.le_of_ble_eq_true rfl) (Nat.le_of_ble_eq_true rfl) (by omega) ?_
  refine x_putR (rs := [none, some n, some (n + 1), none, none, none, none, none, none, none, none, none, none, none, none, none, none, none, none, none, none]) dX9_init_26 flX9_16 (fun _ => rfl) (by omega) (((va_x (by omega)).trans va_s)) rfl rfl (fun x => rfl) (fun x => rfl) ?_
  refine x_aload_n dX9_init_29 rfl rfl ?_
  refine x_bipush (v := nI 50) dX9_init_30 (by decide) ?_
  refine x_newa (t := 0) (N := 50) dX9_init_32 (by decide) rfl rfl ac_int (by decide) (by decide) (Nat.le_of_ble_eq_true rfl) (Nat.le_of_ble_eq_true rfl) (Nat.le_of_ble_eq_true rfl) (by omega) ?_
  refine x_putR (rs := [none, some n, some (n + 1), some (n + 2), none, none, none, none, none, none, none, none, none, none, none, none, none, none, none, none, none]) dX9_init_34 flX9_19 (fun _ => rfl) (by omega) (((va_x (by omega)).trans va_s)) rfl rfl (fun x => rfl) (fun x => rfl) ?_
  refine x_aload_n dX9_init_37 rfl rfl ?_
  refine x_iconst (v := nI 2) dX9_init_38 (by decide) ?_
  refine x_newa (t := 1) (N := 2) dX9_init_39 (by decide) rfl rfl ac_boolean (by decide) (by decide) (Nat.le_of_ble_eq_true rfl) (Nat.le_of_ble_eq_true rfl) (Nat.le_of_ble_eq_true rfl) (by omega) ?_
  refine x_putR (rs := [none, some n, some (n + 1), some (n + 2), none, some (n + 3), none, none, none, none, none, none, none, none, none, none, none, none, none, none, none]) dX9_init_41 flX9_22 (fun _ => rfl) (by omega) (((va_x (by omega)).trans va_s)) rfl rfl (fun x => rfl) (fun x => rfl) ?_
  refine x_aload_n dX9_init_44 rfl rfl ?_
  refine x_bipush (v := nI 12) dX9_init_45 (by decide) ?_
  refine x_newa (t := 0) (N := 12) dX9_init_47 (by decide) rfl rfl ac_int (by decide) (by decide) (Nat.le_of_ble_eq_true rfl) (Nat.le_of_ble_eq_true rfl) (Nat.le_of_ble_eq_true rfl) (by omega) ?_
  refine x_putR (rs := [none, some n, some (n + 1), some (n + 2), none, some (n + 3), some (n + 4), none, none, none, none, none, none, none, none, none, none, none, none, none, none]) dX9_init_49 flX9_26 (fun _ => rfl) (by omega) (((va_x (by omega)).trans va_s)) rfl rfl (fun x => rfl) (fun x => rfl) ?_
  refine x_aload_n dX9_init_52 rfl rfl ?_
  refine x_bipush (v := nI 60) dX9_init_53 (by decide) ?_
  refine x_newa (t := 2) (N := 60) dX9_init_55 (by decide) rfl rfl ac_byte (by decide) (by decide) (Nat.le_of_ble_eq_true rfl) (Nat.le_of_ble_eq_true rfl) (Nat.le_of_ble_eq_true rfl) (by omega) ?_
  refine x_putR (rs := [none, some n, some (n + 1), some (n + 2), none, some (n + 3), some (n + 4), some (n + 5), none, none, none, none, none, none, none, none, none, none, none, none, none]) dX9_init_57 flX9_29 (fun _ => rfl) (by omega) (((va_x (by omega)).trans va_s)) rfl rfl (fun x => rfl) (fun x => rfl) ?_
  refine x_aload_n dX9_init_60 rfl rfl ?_
  refine x_bipush (v := nI 41) dX9_init_61 (by decide) ?_
  refine x_newa (t := 0) (N := 41) dX9_init_63 (by decide) rfl rfl ac_int (by decide) (by decide) (Nat.le_of_ble_eq_true rfl) (Nat.le_of_ble_eq_true rfl) (Nat.le_of_ble_eq_true rfl) (by omega) ?_
  refine x_putR (rs := [none, some n, some (n + 1), some (n + 2), none, some (n + 3), some (n + 4), some (n + 5), none, some (n + 6), none, none, none, none, none, none, none, none, none, none, none]) dX9_init_65 flX9_33 (fun _ => rfl) (by omega) (((va_x (by omega)).trans va_s)) rfl rfl (fun x => rfl) (fun x => rfl) ?_
  refine x_aload_n dX9_init_68 rfl rfl ?_
  refine x_sipush (v := nI 4000) dX9_init_69 (by decide) ?_
  refine x_newa (t := 0) (N := 4000) dX9_init_72 (by decide) rfl rfl ac_int (by decide) (by decide) (Nat.le_of_ble_eq_true rfl) (Nat.le_of_ble_eq_true rfl) (Nat.le_of_ble_eq_true rfl) (by omega) ?_
  refine x_putR (rs := [none, some n, some (n + 1), some (n + 2), none, some (n + 3), some (n + 4), some (n + 5), none, some (n + 6), none, none, none, none, none, none, some (n + 7), none, none, none, none]) dX9_init_74 flX9_36 (fun _ => rfl) (by omega) (((va_x (by omega)).trans va_s)) rfl rfl (fun x => rfl) (fun x => rfl) ?_
  refine x_ret (r := none) ⟨rfl, dX9_init_77⟩ (Nat.le_of_ble_eq_true rfl) (Nat.le_of_ble_eq_true rfl) ⟨rfl, rfl, fun b h1 h2 => ((va_x (by omega)).trans ((va_x (by omega)).trans ((va_x (by omega)).trans ((va_x (by omega)).trans ((va_x (by omega)).trans ((va_x (by omega)).trans ((va_x (by omega)).trans ((va_x (by omega)).trans ((va_x (by omega)).trans ((va_x (by omega)).trans ((va_x (by omega)).trans ((va_x (by omega)).trans ((va_x (by omega)).trans ((va_x (by omega)).trans ((va_x (by omega)).trans ((va_x (by omega)).trans ((va_x (by omega)).trans ((va_x (by omega)).trans rfl)))))))))))))))))), va_s, ((va_x (by omega)).trans ((va_x (by omega)).trans ((va_x (by omega)).trans ((va_x (by omega)).trans ((va_x (by omega)).trans ((va_x (by omega)).trans ((va_x (by omega)).trans ((va_x (by omega)).trans ((va_x (by omega)).trans ((va_x (by omega)).trans ((va_x (by omega)).trans ((va_x (by omega)).trans ((va_x (by omega)).trans ((va_x (by omega)).trans ((va_x (by omega)).trans ((va_x (by omega)).trans ((va_x (by omega)).trans va_s))))))))))))))))), ((va_x (by omega)).trans ((va_x (by omega)).trans ((va_x (by omega)).trans ((va_x (by omega)).trans ((va_x (by omega)).trans ((va_x (by omega)).trans ((va_x (by omega)).trans ((va_x (by omega)).trans ((va_x (by omega)).trans ((va_x (by omega)).trans ((va_x (by omega)).trans ((va_x (by omega)).trans ((va_x (by omega)).trans ((va_x (by omega)).trans ((va_x (by omega)).trans va_s))))))))))))))), ((va_x (by omega)).trans ((va_x (by omega)).trans ((va_x (by omega)).trans ((va_x (by omega)).trans ((va_x (by omega)).trans ((va_x (by omega)).trans ((va_x (by omega)).trans ((va_x (by omega)).trans ((va_x (by omega)).trans ((va_x (by omega)).trans ((va_x (by omega)).trans ((va_x (by omega)).trans ((va_x (by omega)).trans va_s))))))))))))), ((va_x (by omega)).trans ((va_x (by omega)).trans ((va_x (by omega)).trans ((va_x (by omega)).trans ((va_x (by omega)).trans ((va_x (by omega)).trans ((va_x (by omega)).trans ((va_x (by omega)).trans ((va_x (by omega)).trans ((va_x (by omega)).trans ((va_x (by omega)).trans va_s))))))))))), ((va_x (by omega)).trans ((va_x (by omega)).trans ((va_x (by omega)).trans ((va_x (by omega)).trans ((va_x (by omega)).trans ((va_x (by omega)).trans ((va_x (by omega)).trans ((va_x (by omega)).trans ((va_x (by omega)).trans va_s))))))))), ((va_x (by omega)).trans ((va_x (by omega)).trans ((va_x (by omega)).trans ((va_x (by omega)).trans ((va_x (by omega)).trans ((va_x (by omega)).trans ((va_x (by omega)).trans va_s))))))), ((va_x (by omega)).trans ((va_x (by omega)).trans ((va_x (by omega)).trans ((va_x (by omega)).trans ((va_x (by omega)).trans va_s))))), ((va_x (by omega)).trans ((va_x (by omega)).trans ((va_x (by omega)).trans va_s))), ((va_x (by omega)).trans va_s), fun b k h1 => congrFun ((va_x (by omega)).trans ((va_x (by omega)).trans ((va_x (by omega)).trans ((va_x (by omega)).trans ((va_x (by omega)).trans ((va_x (by omega)).trans ((va_x (by omega)).trans ((va_x (by omega)).trans ((va_x (by omega)).trans rfl))))))))) k, fun b k h1 h2 => ?_⟩
  rcases (show b = n ∨ b = n + 1 ∨ b = n + 2 ∨ b = n + 3 ∨ b = n + 4 ∨ b = n + 5 ∨ b = n + 6 ∨ b = n + 7 ∨ b = n + 8 by omega) with rfl | rfl | rfl | rfl | rfl | rfl | rfl | rfl | rfl
  · exact congrFun ((va_x (by omega)).trans ((va_x (by omega)).trans ((va_x (by omega)).trans ((va_x (by omega)).trans ((va_x (by omega)).trans ((va_x (by omega)).trans ((va_x (by omega)).trans ((va_x (by omega)).trans va_s)))))))) k
  · exact congrFun ((va_x (by omega)).trans ((va_x (by omega)).trans ((va_x (by omega)).trans ((va_x (by omega)).trans ((va_x (by omega)).trans ((va_x (by omega)).trans ((va_x (by omega)).trans va_s))))))) k
  · exact congrFun ((va_x (by omega)).trans ((va_x (by omega)).trans ((va_x (by omega)).trans ((va_x (by omega)).trans ((va_x (by omega)).trans ((va_x (by omega)).trans va_s)))))) k
  · exact congrFun ((va_x (by omega)).trans ((va_x (by omega)).trans ((va_x (by omega)).trans ((va_x (by omega)).trans ((va_x (by omega)).trans va_s))))) k
  · exact congrFun ((va_x (by omega)).trans ((va_x (by omega)).trans ((va_x (by omega)).trans ((va_x (by omega)).trans va_s)))) k
  · exact congrFun ((va_x (by omega)).trans ((va_x (by omega)).trans ((va_x (by omega)).trans va_s))) k
  · exact congrFun ((va_x (by omega)).trans ((va_x (by omega)).trans va_s)) k
  · exact congrFun ((va_x (by omega)).trans va_s) k
  · exact congrFun va_s k

set_option maxHeartbeats 4000000 in
set_option maxRecDepth 100000 in
theorem i_reader {n : Nat} {sh : Nat → sm_S} {I : sm_I} {a t : Nat} (ha : a < n) (hn : n < 999900) (hs : sh a = (0, 4, [none, none, none, none])) : Em 3 6 30 mX4_init [.ref a, .ref t] n sh I (fun r n' sh' I' => r = none ∧ n' = n + 6 ∧ (∀ b, b < n → b ≠ a → sh' b = sh b) ∧ sh' a = (0, 4, [some n, none, some t, none]) ∧ sh' n = (0, 1, [some (n + 1), none]) ∧ sh' (n + 1) = (4, 4, [some (n + 2), some (n + 3), some (n + 4), some (n + 5)]) ∧ (∀ c, c < 4 → sh' (n + 2 + c) = (0, 0, [none, none, none, none, none, none])) ∧ (∀ b k, b < n → I' b k = I b k) ∧ (∀ b k, n ≤ b → b < n + 6 → I' b k = 0)) := by
  refine Em.of (by decide) (by simp [Value.category]) (Nat.le_of_ble_eq_true rfl) (fun ζ => ?_)
  refine x_aload_n dX4_init_0 rfl rfl ?_
  refine x_objInit dX4_init_1 mlX4_3 oi_im oi_co (by decide) (by decide) ?_
  refine x_aload_n dX4_init_4 rfl rfl ?_
  refine x_aload_n dX4_init_5 rfl rfl ?_
  refine x_putR (rs := [none, none, none, none]) dX4_init_6 flX4_9 (fun _ => rfl) ha hs rfl rfl (fun x => rfl) (fun x => rfl) ?_
  refine x_aload_n dX4_init_9 rfl rfl ?_
  refine x_new (N := 2) dX4_init_10 clX1 dfX1 cnX4_15 isX1 iniX1 (Nat.le_of_ble_eq_true rfl) (Nat.le_of_ble_eq_true rfl) (by omega) ?_
  refine x_dup dX4_init_13 rfl ?_
  refine x_callI (as := []) (st := [.ref n, .ref a]) dX4_init_14 (i_cellar (a := n) (by omega) (by omega) va_s) rfl rfl rfl meX1_init imX1_init mlX4_17 (by decide) (by decide) (Nat.le_of_ble_eq_true rfl) ?_
  rintro _ _ sh' I' ⟨rfl, rfl, f1, f2, f3, f4, f5, f6⟩
  refine x_putR (rs := [none, none, some t, none]) dX4_init_17 flX4_18 (fun _ => rfl) (by omega) ((f1 a (by omega) (by omega)).trans ((va_x (by omega)).trans va_s)) rfl rfl (fun x => rfl) (fun x => rfl) ?_
  refine x_ret (r := none) ⟨rfl, dX4_init_20⟩ (Nat.le_of_ble_eq_true rfl) (Nat.le_of_ble_eq_true rfl) ⟨rfl, by omega, fun b h1 h2 => (va_x h2).trans ((f1 b (by omega) (by omega)).trans ((va_x (by omega)).trans (va_x h2))), va_s, (va_x (by omega)).trans f2, (va_x (by omega)).trans f3, fun c hc => (va_x (by omega)).trans (by rw [show n + 2 + c = n + 1 + 1 + c by omega]; exact f4 c hc), fun b k h1 => (f5 b k (by omega)).trans (congrFun (va_x (by omega)) k), fun b k h1 h2 => ?_⟩
  by_cases hb : b = n
  · subst hb
    exact (f5 b k (by omega)).trans (congrFun va_s k)
  · exact f6 b k (by omega) (by omega)

def PLs (n i : Nat) : List (Option Nat) := (List.range 8).map (fun j => if j < i then some (n + 1 + 6 * j) else none)
theorem PLs_set {n i : Nat} (h : i < 8) : (PLs n i).set i (some (n + 1 + 6 * i)) = PLs n (i + 1) := by
  rcases (show i = 0 ∨ i = 1 ∨ i = 2 ∨ i = 3 ∨ i = 4 ∨ i = 5 ∨ i = 6 ∨ i = 7 by omega) with rfl | rfl | rfl | rfl | rfl | rfl | rfl | rfl <;> rfl
/-- a cellar's shape in the making -/
def clS (sh : Nat → sm_S) (a : Nat) : Prop := sh a = (0, 1, [some (a + 1), none]) ∧ sh (a + 1) = (4, 4, [some (a + 2), some (a + 3), some (a + 4), some (a + 5)]) ∧ ∀ c, c < 4 → sh (a + 2 + c) = (0, 0, [none, none, none, none, none, none])
theorem clS.of {sh sh' : Nat → sm_S} {a : Nat} (h : clS sh a) (hf : ∀ b, a ≤ b → b < a + 6 → sh' b = sh b) : clS sh' a := ⟨(hf _ (by omega) (by omega)).trans h.1, (hf _ (by omega) (by omega)).trans h.2.1, fun c hc => (hf _ (by omega) (by omega)).trans (h.2.2 c hc)⟩

set_option maxHeartbeats 4000000 in
set_option maxRecDepth 100000 in
theorem lp_past {ζ : sm_Z} {n : Nat} {sh0 : Nat → sm_S} {I0 : sm_I} {a : Nat} (ha : a < n) (hn : n < 999900) {Q : sm_Qt} (hq : ∀ sh' I', ((∀ b, b < n → b ≠ a → sh' b = sh0 b) ∧ sh' a = (0, 3, [some n, none, none]) ∧ sh' n = (5, 8, PLs n 8) ∧ (∀ j, j < 8 → clS sh' (n + 1 + 6 * j)) ∧ (∀ b k, b < n → I' b k = I0 b k) ∧ (∀ b k, n ≤ b → b < n + 1 + 6 * 8 → I' b k = 0)) → Q none (n + 49) sh' I') : ∀ (f i : Nat) (sh' : Nat → sm_S) (I' : sm_I), i + f = 8 → ((∀ b, b < n → b ≠ a → sh' b = sh0 b) ∧ sh' a = (0, 3, [some n, none, none]) ∧ sh' n = (5, 8, PLs n i) ∧ (∀ j, j < i → clS sh' (n + 1 + 6 * j)) ∧ (∀ b k, b < n → I' b k = I0 b k) ∧ (∀ b k, n ≤ b → b < n + 1 + 6 * i → I' b k = 0)) → Xm ζ (sm_rm 3 49 248) mX3_init 15 [some (.ref a), some (.int (nI i))] [] (1 + 6 * i) (8 + 30 * i) (n + 1 + 6 * i) sh' I' Q := by
  intro f
  induction f with
  | zero =>
    intro i sh' I' hi h
    have hii : i = 8 := by omega
    subst hii
    refine x_iload_n dX3_init_15 rfl rfl ?_
    refine x_bipush (v := nI 8) dX3_init_16 (by decide) ?_
    refine x_icmp_ge (tgt := 40) dX3_init_18 (by decide) (fun _ => ?_) (fun q => absurd (by decide) q)
    exact x_ret (r := none) ⟨rfl, dX3_init_40⟩ (Nat.le_of_ble_eq_true rfl) (Nat.le_of_ble_eq_true rfl) (hq sh' I' h)
  | succ f ih =>
    intro i sh' I' hi h
    obtain ⟨h1, h2, h3, h4, h5, h6⟩ := h
    have hlt : i < 8 := by omega
    refine x_iload_n dX3_init_15 rfl rfl ?_
    refine x_bipush (v := nI 8) dX3_init_16 (by decide) ?_
    refine x_icmp_ge (tgt := 40) dX3_init_18 (by decide) (fun q => absurd ((nI_leI (by omega) (by omega)).mp q) (by omega)) (fun _ => ?_)
    refine x_aload_n dX3_init_21 rfl rfl ?_
    refine x_getR (b := n) dX3_init_22 fgX3_11 (by omega) h2 rfl rfl ?_
    refine x_iload_n dX3_init_25 rfl rfl ?_
    refine x_new (N := 2) dX3_init_26 clX1 dfX1 cnX3_9 isX1 iniX1 (by show 1 + 6 * i + 1 ≤ 49; omega) (by show 8 + 30 * i + 2 ≤ 248; omega) (by omega) ?_
    refine x_dup dX3_init_29 rfl ?_
    refine x_callI (as := []) (st := [.ref (n + 1 + 6 * i), .int (nI i), .ref n]) dX3_init_30 (i_cellar (a := n + 1 + 6 * i) (by omega) (by omega) va_s) rfl rfl rfl meX1_init imX1_init mlX3_17 (by decide) ⟨by show 1 + 6 * i + 1 + 5 ≤ 49; omega, by show 8 + 30 * i + 2 + 28 ≤ 248; omega⟩ (Nat.le_of_ble_eq_true rfl) ?_
    rintro _ _ sh2 I2 ⟨rfl, rfl, f1, f2, f3, f4, f5, f6⟩
    have e1 : ∀ b, b < n + 1 + 6 * i → sh2 b = sh' b := fun b hb => (f1 b (by omega) (by omega)).trans (va_x (by omega))
    refine x_aast (t := 4) (N := 8) (rs := PLs n i) (ci := 1) dX3_init_33 (by omega) ((e1 n (by omega)).trans h3) (by decide) (by omega) f2 rfl rfl (vp_in_nI hlt (by decide)) rfl ?_
    rw [nI_clamp (by omega), PLs_set hlt]
    refine x_iinc (v := nI (i + 1)) dX3_init_34 rfl (nI_succ i).symm (by decide) ?_
    refine x_goto (tgt := 15) dX3_init_37 (by decide) ?_
    have e2 : ∀ b, b ≠ n → va_up sh2 n (4 + 1, 8, PLs n (i + 1)) b = sh2 b := fun b hb => va_x hb
    have hk := ih (i + 1) (va_up sh2 n (4 + 1, 8, PLs n (i + 1))) I2 (by omega) ⟨fun b g1 g2 => (e2 b (by omega)).trans ((e1 b (by omega)).trans (h1 b g1 g2)), (e2 a (by omega)).trans ((e1 a (by omega)).trans h2), va_s, fun j hj => ?_, fun b k g1 => (f5 b k (by omega)).trans ((congrFun (va_x (by omega)) k).trans (h5 b k g1)), fun b k g1 g2 => ?_⟩
    · rw [show 1 + 6 * (i + 1) = 1 + 6 * i + 1 + 5 by omega, show 8 + 30 * (i + 1) = 8 + 30 * i + 2 + 28 by omega, show n + 1 + 6 * (i + 1) = n + 1 + 6 * i + 1 + 5 by omega] at hk
      exact hk
    · by_cases hj2 : j = i
      · subst hj2
        exact ⟨(e2 _ (by omega)).trans f2, (e2 _ (by omega)).trans f3, fun c hc => (e2 _ (by omega)).trans (by rw [show n + 1 + 6 * j + 2 + c = n + 1 + 6 * j + 1 + 1 + c by omega]; exact f4 c hc)⟩
      · exact (h4 j (by omega)).of (fun b z1 z2 => (e2 b (by omega)).trans (e1 b (by omega)))
    · rcases Nat.lt_or_ge b (n + 1 + 6 * i) with z | z
      · exact (f5 b k (by omega)).trans ((congrFun (va_x (by omega)) k).trans (h6 b k g1 z))
      · by_cases hb : b = n + 1 + 6 * i
        · subst hb
          exact (f5 _ k (by omega)).trans (congrFun va_s k)
        · exact f6 b k (by omega) (by omega)

set_option maxHeartbeats 4000000 in
set_option maxRecDepth 100000 in
theorem i_past {n : Nat} {sh0 : Nat → sm_S} {I0 : sm_I} {a : Nat} (ha : a < n) (hn : n < 999900) (hs : sh0 a = (0, 3, [none, none, none])) : Em 3 49 248 mX3_init [.ref a] n sh0 I0 (fun r n' sh' I' => r = none ∧ n' = n + 49 ∧ ((∀ b, b < n → b ≠ a → sh' b = sh0 b) ∧ sh' a = (0, 3, [some n, none, none]) ∧ sh' n = (5, 8, PLs n 8) ∧ (∀ j, j < 8 → clS sh' (n + 1 + 6 * j)) ∧ (∀ b k, b < n → I' b k = I0 b k) ∧ (∀ b k, n ≤ b → b < n + 1 + 6 * 8 → I' b k = 0))) := by
  refine Em.of (by decide) (by simp [Value.category]) (Nat.le_of_ble_eq_true rfl) (fun ζ => ?_)
  refine x_aload_n dX3_init_0 rfl rfl ?_
  refine x_objInit dX3_init_1 mlX3_3 oi_im oi_co (by decide) (by decide) ?_
  refine x_aload_n dX3_init_4 rfl rfl ?_
  refine x_bipush (v := nI 8) dX3_init_5 (by decide) ?_
  refine x_newq (t := 4) (N := 8) dX3_init_7 (by decide) rfl cnX3_9 (by decide) (by decide) (by decide) (Nat.le_of_ble_eq_true rfl) (Nat.le_of_ble_eq_true rfl) (by omega) ?_
  refine x_putR (rs := [none, none, none]) dX3_init_10 flX3_11 (fun _ => rfl) (by omega) ((va_x (by omega)).trans hs) rfl rfl (fun x => rfl) (fun x => rfl) ?_
  refine x_iconst (v := nI 0) dX3_init_13 (by decide) ?_
  refine x_istore_n dX3_init_14 rfl (by decide) ?_
  exact lp_past ha hn (fun sh' I' h => ⟨rfl, rfl, h⟩) 8 0 _ _ (by omega) ⟨fun b h1 h2 => (va_x h2).trans (va_x (by omega)), va_s, (va_x (by omega)).trans va_s, fun j hj => absurd hj (Nat.not_lt_zero j), fun b k h1 => congrFun (va_x (by omega)) k, fun b k h1 h2 => by rw [show b = n by omega]; exact congrFun va_s k⟩
