/-- cells 1..m-1 stand, but those of E -/
def shF (sh : Nat → sm_S) (m : Nat) (E : List Nat) : Prop := ∀ b, 1 ≤ b → b < m → b ∉ E → sh b = SH b
def inF (I : sm_I) (m l : Nat) : Prop := (∀ b k, b < m → ¬ (∃ c, c < l ∧ b = 88 + 4 * c ∧ k = 0) → I b k = 0) ∧ ∀ c, c < l → 88 + 4 * c < m → I (88 + 4 * c) 0 = 1

set_option maxHeartbeats 4000000 in
set_option maxRecDepth 100000 in
theorem lp_g1 {ζ : sm_Z} {sh : Nat → sm_S} {I : sm_I} {Q : sm_Qt} (h0 : sh 0 = (0, 8, [none, none, none, none, none, none, none, none, none, none, none])) (Z0 : inF I 1 0) (hx : ∀ sh' I', sh' 0 = (0, 8, [some 1, some 6, some 13, some 19, none, none, none, none, none, none, none]) → shF sh' 69 [] → inF I' 69 0 → Xm ζ (sm_rm 4 105 1200) mX8_init 52 [some (.ref 0), none] [] 68 563 69 sh' I' Q) : Xm ζ (sm_rm 4 105 1200) mX8_init 0 [some (.ref 0), none] [] 0 0 1 sh I Q := by
  refine x_aload_n dX8_init_0 rfl rfl ?_
  refine x_objInit dX8_init_1 mlX8_3 oi_im oi_co (by decide) (by decide) ?_
  refine x_aload_n dX8_init_4 rfl rfl ?_
  refine x_new (N := 5) dX8_init_5 clX7 dfX7 cnX8_9 isX7 iniX7 (Nat.le_of_ble_eq_true rfl) (Nat.le_of_ble_eq_true rfl) (by decide) ?_
  refine x_dup dX8_init_8 rfl ?_
  refine x_callI (as := []) (st := [.ref 1, .ref 0]) dX8_init_9 (i_text (a := 1) (n := 2) (by decide) (by decide) va_s) rfl rfl rfl meX7_init imX7_init mlX8_11 (by decide) (by decide) (Nat.le_of_ble_eq_true rfl) ?_
  rintro _ _ sh1 I1 ⟨rfl, rfl, f1, g11, g12, g13, g14, g15, i11, i21⟩
  refine x_putR (rs := [none, none, none, none, none, none, none, none, none, none, none]) dX8_init_12 flX8_12 (fun _ => rfl) (by decide) ((f1 0 (by decide) (by decide)).trans ((va_x (by decide)).trans h0)) rfl rfl (fun x => rfl) (fun x => rfl) ?_
  have h01 : va_up sh1 0 (0, 8, [some 1, none, none, none, none, none, none, none, none, none, none]) 0 = (0, 8, [some 1, none, none, none, none, none, none, none, none, none, none]) := va_s
  have F1 : shF (va_up sh1 0 (0, 8, [some 1, none, none, none, none, none, none, none, none, none, none])) 6 [] := fun b h1 h2 h3 => by
    refine (va_x (by omega)).trans ?_
    rcases Nat.lt_or_ge b 1 with z | z
    · omega
    · rcases (show b = 1 ∨ b = 2 ∨ b = 3 ∨ b = 4 ∨ b = 5 by omega) with rfl | rfl | rfl | rfl | rfl
      · exact g11
      · exact g12
      · exact g13
      · exact g14
      · exact g15
  have Z1 : inF I1 6 0 := ⟨fun b q h1 _ => by
    rcases Nat.lt_or_ge b 2 with z | z
    · refine (i11 b q z).trans ?_
      by_cases hb : b = 1
      · subst hb; exact congrFun va_s q
      · exact (congrFun (va_x hb) q).trans (Z0.1 b q (by omega) (fun ⟨c, hc, _⟩ => absurd hc (Nat.not_lt_zero c)))
    · exact i21 b q z h1, fun c hc => absurd hc (Nat.not_lt_zero c)⟩
  refine x_aload_n dX8_init_15 rfl rfl ?_
  refine x_new (N := 4) dX8_init_16 clX4 dfX4 cnX8_16 isX4 iniX4 (Nat.le_of_ble_eq_true rfl) (Nat.le_of_ble_eq_true rfl) (by decide) ?_
  refine x_dup dX8_init_19 rfl ?_
  refine x_aload_n dX8_init_20 rfl rfl ?_
  refine x_getR (b := 1) dX8_init_21 fgX8_12 (by decide) ((va_x (by decide)).trans h01) rfl rfl ?_
  refine x_callI (as := [.ref 1]) (st := [.ref 6, .ref 0]) dX8_init_24 (i_reader (t := 1) (a := 6) (n := 7) (by decide) (by decide) va_s) rfl rfl rfl meX4_init imX4_init mlX8_18 (by decide) (by decide) (Nat.le_of_ble_eq_true rfl) ?_
  rintro _ _ sh2 I2 ⟨rfl, rfl, f2, g21, g22, g23, g24, i12, i22⟩
  refine x_putR (rs := [some 1, none, none, none, none, none, none, none, none, none, none]) dX8_init_27 flX8_21 (fun _ => rfl) (by decide) ((f2 0 (by decide) (by decide)).trans ((va_x (by decide)).trans h01)) rfl rfl (fun x => rfl) (fun x => rfl) ?_
  have h02 : va_up sh2 0 (0, 8, [some 1, some 6, none, none, none, none, none, none, none, none, none]) 0 = (0, 8, [some 1, some 6, none, none, none, none, none, none, none, none, none]) := va_s
  have F2 : shF (va_up sh2 0 (0, 8, [some 1, some 6, none, none, none, none, none, none, none, none, none])) 13 [] := fun b h1 h2 h3 => by
    refine (va_x (by omega)).trans ?_
    rcases Nat.lt_or_ge b 6 with z | z
    · exact (f2 b (by omega) (by omega)).trans ((va_x (by omega)).trans (F1 b h1 z h3))
    · rcases (show b = 6 ∨ b = 7 ∨ b = 8 ∨ b = 9 ∨ b = 10 ∨ b = 11 ∨ b = 12 by omega) with rfl | rfl | rfl | rfl | rfl | rfl | rfl
      · exact g21
      · exact g22
      · exact g23
      · exact g24 0 (by decide)
      · exact g24 1 (by decide)
      · exact g24 2 (by decide)
      · exact g24 3 (by decide)
  have Z2 : inF I2 13 0 := ⟨fun b q h1 _ => by
    rcases Nat.lt_or_ge b 7 with z | z
    · refine (i12 b q z).trans ?_
      by_cases hb : b = 6
      · subst hb; exact congrFun va_s q
      · exact (congrFun (va_x hb) q).trans (Z1.1 b q (by omega) (fun ⟨c, hc, _⟩ => absurd hc (Nat.not_lt_zero c)))
    · exact i22 b q z h1, fun c hc => absurd hc (Nat.not_lt_zero c)⟩
  refine x_aload_n dX8_init_30 rfl rfl ?_
  refine x_new (N := 2) dX8_init_31 clX1 dfX1 cnX8_25 isX1 iniX1 (Nat.le_of_ble_eq_true rfl) (Nat.le_of_ble_eq_true rfl) (by decide) ?_
  refine x_dup dX8_init_34 rfl ?_
  refine x_callI (as := []) (st := [.ref 13, .ref 0]) dX8_init_35 (i_cellar (a := 13) (n := 14) (by decide) (by decide) va_s) rfl rfl rfl meX1_init imX1_init mlX8_27 (by decide) (by decide) (Nat.le_of_ble_eq_true rfl) ?_
  rintro _ _ sh3 I3 ⟨rfl, rfl, f3, g31, g32, g33, i13, i23⟩
  refine x_putR (rs := [some 1, some 6, none, none, none, none, none, none, none, none, none]) dX8_init_38 flX8_28 (fun _ => rfl) (by decide) ((f3 0 (by decide) (by decide)).trans ((va_x (by decide)).trans h02)) rfl rfl (fun x => rfl) (fun x => rfl) ?_
  have h03 : va_up sh3 0 (0, 8, [some 1, some 6, some 13, none, none, none, none, none, none, none, none]) 0 = (0, 8, [some 1, some 6, some 13, none, none, none, none, none, none, none, none]) := va_s
  have F3 : shF (va_up sh3 0 (0, 8, [some 1, some 6, some 13, none, none, none, none, none, none, none, none])) 19 [] := fun b h1 h2 h3 => by
    refine (va_x (by omega)).trans ?_
    rcases Nat.lt_or_ge b 13 with z | z
    · exact (f3 b (by omega) (by omega)).trans ((va_x (by omega)).trans (F2 b h1 z h3))
    · rcases (show b = 13 ∨ b = 14 ∨ b = 15 ∨ b = 16 ∨ b = 17 ∨ b = 18 by omega) with rfl | rfl | rfl | rfl | rfl | rfl
      · exact g31
      · exact g32
      · exact g33 0 (by decide)
      · exact g33 1 (by decide)
      · exact g33 2 (by decide)
      · exact g33 3 (by decide)
  have Z3 : inF I3 19 0 := ⟨fun b q h1 _ => by
    rcases Nat.lt_or_ge b 14 with z | z
    · refine (i13 b q z).trans ?_
      by_cases hb : b = 13
      · subst hb; exact congrFun va_s q
      · exact (congrFun (va_x hb) q).trans (Z2.1 b q (by omega) (fun ⟨c, hc, _⟩ => absurd hc (Nat.not_lt_zero c)))
    · exact i23 b q z h1, fun c hc => absurd hc (Nat.not_lt_zero c)⟩
  refine x_aload_n dX8_init_41 rfl rfl ?_
  refine x_new (N := 3) dX8_init_42 clX3 dfX3 cnX8_32 isX3 iniX3 (Nat.le_of_ble_eq_true rfl) (Nat.le_of_ble_eq_true rfl) (by decide) ?_
  refine x_dup dX8_init_45 rfl ?_
  refine x_callI (as := []) (st := [.ref 19, .ref 0]) dX8_init_46 (i_past (a := 19) (n := 20) (by decide) (by decide) va_s) rfl rfl rfl meX3_init imX3_init mlX8_34 (by decide) (by decide) (Nat.le_of_ble_eq_true rfl) ?_
  rintro _ _ sh4 I4 ⟨rfl, rfl, f4, g41, g42, g43, i14, i24⟩
  refine x_putR (rs := [some 1, some 6, some 13, none, none, none, none, none, none, none, none]) dX8_init_49 flX8_35 (fun _ => rfl) (by decide) ((f4 0 (by decide) (by decide)).trans ((va_x (by decide)).trans h03)) rfl rfl (fun x => rfl) (fun x => rfl) ?_
  have h04 : va_up sh4 0 (0, 8, [some 1, some 6, some 13, some 19, none, none, none, none, none, none, none]) 0 = (0, 8, [some 1, some 6, some 13, some 19, none, none, none, none, none, none, none]) := va_s
  have F4 : shF (va_up sh4 0 (0, 8, [some 1, some 6, some 13, some 19, none, none, none, none, none, none, none])) 69 [] := fun b h1 h2 h3 => by
    refine (va_x (by omega)).trans ?_
    rcases Nat.lt_or_ge b 19 with z | z
    · exact (f4 b (by omega) (by omega)).trans ((va_x (by omega)).trans (F3 b h1 z h3))
    · rcases (show b = 19 ∨ b = 20 ∨ b = 21 ∨ b = 22 ∨ b = 23 ∨ b = 24 ∨ b = 25 ∨ b = 26 ∨ b = 27 ∨ b = 28 ∨ b = 29 ∨ b = 30 ∨ b = 31 ∨ b = 32 ∨ b = 33 ∨ b = 34 ∨ b = 35 ∨ b = 36 ∨ b = 37 ∨ b = 38 ∨ b = 39 ∨ b = 40 ∨ b = 41 ∨ b = 42 ∨ b = 43 ∨ b = 44 ∨ b = 45 ∨ b = 46 ∨ b = 47 ∨ b = 48 ∨ b = 49 ∨ b = 50 ∨ b = 51 ∨ b = 52 ∨ b = 53 ∨ b = 54 ∨ b = 55 ∨ b = 56 ∨ b = 57 ∨ b = 58 ∨ b = 59 ∨ b = 60 ∨ b = 61 ∨ b = 62 ∨ b = 63 ∨ b = 64 ∨ b = 65 ∨ b = 66 ∨ b = 67 ∨ b = 68 by omega) with rfl | rfl | rfl | rfl | rfl | rfl | rfl | rfl | rfl | rfl | rfl | rfl | rfl | rfl | rfl | rfl | rfl | rfl | rfl | rfl | rfl | rfl | rfl | rfl | rfl | rfl | rfl | rfl | rfl | rfl | rfl | rfl | rfl | rfl | rfl | rfl | rfl | rfl | rfl | rfl | rfl | rfl | rfl | rfl | rfl | rfl | rfl | rfl | rfl | rfl
      · exact g41
      · exact g42
      · exact (g43 0 (by decide)).1
      · exact (g43 0 (by decide)).2.1
      · exact (g43 0 (by decide)).2.2 0 (by decide)
      · exact (g43 0 (by decide)).2.2 1 (by decide)
      · exact (g43 0 (by decide)).2.2 2 (by decide)
      · exact (g43 0 (by decide)).2.2 3 (by decide)
      · exact (g43 1 (by decide)).1
      · exact (g43 1 (by decide)).2.1
      · exact (g43 1 (by decide)).2.2 0 (by decide)
      · exact (g43 1 (by decide)).2.2 1 (by decide)
      · exact (g43 1 (by decide)).2.2 2 (by decide)
      · exact (g43 1 (by decide)).2.2 3 (by decide)
      · exact (g43 2 (by decide)).1
      · exact (g43 2 (by decide)).2.1
      · exact (g43 2 (by decide)).2.2 0 (by decide)
      · exact (g43 2 (by decide)).2.2 1 (by decide)
      · exact (g43 2 (by decide)).2.2 2 (by decide)
      · exact (g43 2 (by decide)).2.2 3 (by decide)
      · exact (g43 3 (by decide)).1
      · exact (g43 3 (by decide)).2.1
      · exact (g43 3 (by decide)).2.2 0 (by decide)
      · exact (g43 3 (by decide)).2.2 1 (by decide)
      · exact (g43 3 (by decide)).2.2 2 (by decide)
      · exact (g43 3 (by decide)).2.2 3 (by decide)
      · exact (g43 4 (by decide)).1
      · exact (g43 4 (by decide)).2.1
      · exact (g43 4 (by decide)).2.2 0 (by decide)
      · exact (g43 4 (by decide)).2.2 1 (by decide)
      · exact (g43 4 (by decide)).2.2 2 (by decide)
      · exact (g43 4 (by decide)).2.2 3 (by decide)
      · exact (g43 5 (by decide)).1
      · exact (g43 5 (by decide)).2.1
      · exact (g43 5 (by decide)).2.2 0 (by decide)
      · exact (g43 5 (by decide)).2.2 1 (by decide)
      · exact (g43 5 (by decide)).2.2 2 (by decide)
      · exact (g43 5 (by decide)).2.2 3 (by decide)
      · exact (g43 6 (by decide)).1
      · exact (g43 6 (by decide)).2.1
      · exact (g43 6 (by decide)).2.2 0 (by decide)
      · exact (g43 6 (by decide)).2.2 1 (by decide)
      · exact (g43 6 (by decide)).2.2 2 (by decide)
      · exact (g43 6 (by decide)).2.2 3 (by decide)
      · exact (g43 7 (by decide)).1
      · exact (g43 7 (by decide)).2.1
      · exact (g43 7 (by decide)).2.2 0 (by decide)
      · exact (g43 7 (by decide)).2.2 1 (by decide)
      · exact (g43 7 (by decide)).2.2 2 (by decide)
      · exact (g43 7 (by decide)).2.2 3 (by decide)
  have Z4 : inF I4 69 0 := ⟨fun b q h1 _ => by
    rcases Nat.lt_or_ge b 20 with z | z
    · refine (i14 b q z).trans ?_
      by_cases hb : b = 19
      · subst hb; exact congrFun va_s q
      · exact (congrFun (va_x hb) q).trans (Z3.1 b q (by omega) (fun ⟨c, hc, _⟩ => absurd hc (Nat.not_lt_zero c)))
    · exact i24 b q z h1, fun c hc => absurd hc (Nat.not_lt_zero c)⟩
  exact hx _ _ h04 F4 Z4

set_option maxHeartbeats 4000000 in
set_option maxRecDepth 100000 in
theorem lp_g2 {ζ : sm_Z} {sh : Nat → sm_S} {I : sm_I} {Q : sm_Qt} (h0 : sh 0 = (0, 8, [some 1, some 6, some 13, some 19, none, none, none, none, none, none, none])) (F0 : shF sh 69 []) (Z0 : inF I 69 0) (hx : ∀ sh' I', sh' 0 = (0, 8, [some 1, some 6, some 13, some 19, some 69, some 70, none, none, none, none, none]) → shF sh' 83 [] → inF I' 83 0 → Xm ζ (sm_rm 4 105 1200) mX8_init 93 [some (.ref 0), some (.int (nI 2))] [] 82 627 83 sh' I' Q) : Xm ζ (sm_rm 4 105 1200) mX8_init 52 [some (.ref 0), none] [] 68 563 69 sh I Q := by
  refine x_aload_n dX8_init_52 rfl rfl ?_
  refine x_iconst (v := nI 2) dX8_init_53 (by decide) ?_
  refine x_newq (t := 4) (N := 2) dX8_init_54 (by decide) rfl cnX8_25 (by decide) (by decide) (by decide) (Nat.le_of_ble_eq_true rfl) (Nat.le_of_ble_eq_true rfl) (by decide) ?_
  refine x_putR (rs := [some 1, some 6, some 13, some 19, none, none, none, none, none, none, none]) dX8_init_57 flX8_39 (fun _ => rfl) (by decide) (((va_x (by decide)).trans h0)) rfl rfl (fun x => rfl) (fun x => rfl) ?_
  refine x_aload_n dX8_init_60 rfl rfl ?_
  refine x_iconst (v := nI 2) dX8_init_61 (by decide) ?_
  refine x_newa (t := 1) (N := 2) dX8_init_62 (by decide) rfl rfl ac_boolean (by decide) (by decide) (Nat.le_of_ble_eq_true rfl) (Nat.le_of_ble_eq_true rfl) (Nat.le_of_ble_eq_true rfl) (by decide) ?_
  refine x_putR (rs := [some 1, some 6, some 13, some 19, some 69, none, none, none, none, none, none]) dX8_init_64 flX8_43 (fun _ => rfl) (by decide) (((va_x (by decide)).trans va_s)) rfl rfl (fun x => rfl) (fun x => rfl) ?_
  refine x_iconst (v := nI 0) dX8_init_67 (by decide) ?_
  refine x_istore_n dX8_init_68 rfl (by decide) ?_
  refine x_iload_n dX8_init_69 rfl rfl ?_
  refine x_iconst (v := nI 2) dX8_init_70 (by decide) ?_
  refine x_icmp_ge (tgt := 93) dX8_init_71 (by decide) (fun h => absurd h (by decide)) (fun _ => ?_)
  refine x_aload_n dX8_init_74 rfl rfl ?_
  refine x_getR (b := 69) dX8_init_75 fgX8_39 (by decide) (va_s) rfl rfl ?_
  refine x_iload_n dX8_init_78 rfl rfl ?_
  refine x_new (N := 2) dX8_init_79 clX1 dfX1 cnX8_25 isX1 iniX1 (Nat.le_of_ble_eq_true rfl) (Nat.le_of_ble_eq_true rfl) (by decide) ?_
  refine x_dup dX8_init_82 rfl ?_
  refine x_callI (as := []) (st := [.ref 71, .int (nI 0), .ref 69]) dX8_init_83 (i_cellar (a := 71) (n := 72) (by decide) (by decide) va_s) rfl rfl rfl meX1_init imX1_init mlX8_27 (by decide) (by decide) (Nat.le_of_ble_eq_true rfl) ?_
  rintro _ _ s0 J0 ⟨rfl, rfl, f0, g01, g02, g03, i01, i02⟩
  have a00 : s0 0 = (0, 8, [some 1, some 6, some 13, some 19, some 69, some 70, none, none, none, none, none]) := (f0 0 (by decide) (by decide)).trans ((va_x (by decide)).trans va_s)
  have a09 : s0 69 = (5, 2, [none, none]) := (f0 69 (by decide) (by decide)).trans ((va_x (by decide)).trans ((va_x (by decide)).trans ((va_x (by decide)).trans ((va_x (by decide)).trans va_s))))
  have c0 : shF s0 69 [] := fun b h1 h2 _ => (f0 b (by omega) (by omega)).trans ((va_x (by omega)).trans ((va_x (by omega)).trans ((va_x (by omega)).trans ((va_x (by omega)).trans ((va_x (by omega)).trans (F0 b h1 h2 (by simp)))))))
  have c70 : s0 70 = (2, 2, []) := (f0 70 (by decide) (by decide)).trans ((va_x (by decide)).trans ((va_x (by decide)).trans va_s))
  have z0 : inF J0 77 0 := ⟨fun b q h1 _ => by
    rcases Nat.lt_or_ge b 72 with z | z
    · refine (i01 b q z).trans ?_
      by_cases hb : b = 71
      · subst hb; exact congrFun va_s q
      · refine (congrFun (va_x hb) q).trans ?_
        by_cases hc : b = 70
        · subst hc; exact congrFun va_s q
        · refine (congrFun (va_x hc) q).trans ?_
          by_cases hd : b = 69
          · subst hd; exact congrFun va_s q
          · exact (congrFun (va_x hd) q).trans (Z0.1 b q (by omega) (fun ⟨c, hc, _⟩ => absurd hc (Nat.not_lt_zero c)))
    · exact i02 b q z h1, fun c hc => absurd hc (Nat.not_lt_zero c)⟩
  refine x_aast (t := 4) (N := 2) (rs := [none, none]) dX8_init_86 (by decide) a09 (by decide) (by decide) g01 rfl rfl (vp_in_nI (by decide) (by decide)) rfl ?_
  refine x_iinc (v := nI 1) dX8_init_87 rfl (by decide) (by decide) ?_
  refine x_goto (tgt := 69) dX8_init_90 (by decide) ?_
  refine x_iload_n dX8_init_69 rfl rfl ?_
  refine x_iconst (v := nI 2) dX8_init_70 (by decide) ?_
  refine x_icmp_ge (tgt := 93) dX8_init_71 (by decide) (fun h => absurd h (by decide)) (fun _ => ?_)
  refine x_aload_n dX8_init_74 rfl rfl ?_
  refine x_getR (b := 69) dX8_init_75 fgX8_39 (by decide) (((va_x (by decide)).trans a00)) rfl rfl ?_
  refine x_iload_n dX8_init_78 rfl rfl ?_
  refine x_new (N := 2) dX8_init_79 clX1 dfX1 cnX8_25 isX1 iniX1 (Nat.le_of_ble_eq_true rfl) (Nat.le_of_ble_eq_true rfl) (by decide) ?_
  refine x_dup dX8_init_82 rfl ?_
  refine x_callI (as := []) (st := [.ref 77, .int (nI 1), .ref 69]) dX8_init_83 (i_cellar (a := 77) (n := 78) (by decide) (by decide) va_s) rfl rfl rfl meX1_init imX1_init mlX8_27 (by decide) (by decide) (Nat.le_of_ble_eq_true rfl) ?_
  rintro _ _ s1 J1 ⟨rfl, rfl, f1, g11, g12, g13, i11, i12⟩
  have a10 : s1 0 = (0, 8, [some 1, some 6, some 13, some 19, some 69, some 70, none, none, none, none, none]) := (f1 0 (by decide) (by decide)).trans ((va_x (by decide)).trans ((va_x (by decide)).trans a00))
  have a19 : s1 69 = (5, 2, [some 71, none]) := (f1 69 (by decide) (by decide)).trans ((va_x (by decide)).trans va_s)
  refine x_aast (t := 4) (N := 2) (rs := [some 71, none]) dX8_init_86 (by decide) a19 (by decide) (by decide) g11 rfl rfl (vp_in_nI (by decide) (by decide)) rfl ?_
  refine x_iinc (v := nI 2) dX8_init_87 rfl (by decide) (by decide) ?_
  refine x_goto (tgt := 69) dX8_init_90 (by decide) ?_
  refine x_iload_n dX8_init_69 rfl rfl ?_
  refine x_iconst (v := nI 2) dX8_init_70 (by decide) ?_
  refine x_icmp_ge (tgt := 93) dX8_init_71 (by decide) (fun _ => ?_) (fun h => absurd (by decide) h)
  refine hx _ _ ((va_x (by decide)).trans a10) (fun b h1 h2 _ => ?_) ⟨fun b q h1 _ => ?_, fun c hc => absurd hc (Nat.not_lt_zero c)⟩
  · by_cases e69 : b = 69
    · subst e69; exact va_s
    · refine (va_x e69).trans ?_
      rcases Nat.lt_or_ge b 77 with z | z
      · refine (f1 b (by omega) (by omega)).trans ((va_x (by omega)).trans ((va_x e69).trans ?_))
        rcases Nat.lt_or_ge b 69 with y | y
        · exact c0 b h1 y (by simp)
        · rcases (show b = 70 ∨ b = 71 ∨ b = 72 ∨ b = 73 ∨ b = 74 ∨ b = 75 ∨ b = 76 by omega) with rfl | rfl | rfl | rfl | rfl | rfl | rfl
          · exact c70
          · exact g01
          · exact g02
          · exact g03 0 (by decide)
          · exact g03 1 (by decide)
          · exact g03 2 (by decide)
          · exact g03 3 (by decide)
      · rcases (show b = 77 ∨ b = 78 ∨ b = 79 ∨ b = 80 ∨ b = 81 ∨ b = 82 by omega) with rfl | rfl | rfl | rfl | rfl | rfl
        · exact g11
        · exact g12
        · exact g13 0 (by decide)
        · exact g13 1 (by decide)
        · exact g13 2 (by decide)
        · exact g13 3 (by decide)
  · rcases Nat.lt_or_ge b 78 with z | z
    · refine (i11 b q z).trans ?_
      by_cases hb : b = 77
      · subst hb; exact congrFun va_s q
      · exact (congrFun (va_x hb) q).trans (z0.1 b q (by omega) (fun ⟨c, hc, _⟩ => absurd hc (Nat.not_lt_zero c)))
    · exact i12 b q z h1

set_option maxHeartbeats 4000000 in
set_option maxRecDepth 100000 in
theorem lp_g3 {ζ : sm_Z} {sh : Nat → sm_S} {I : sm_I} {Q : sm_Qt} (h0 : sh 0 = (0, 8, [some 1, some 6, some 13, some 19, some 69, some 70, none, none, none, none, none])) (F0 : shF sh 83 []) (Z0 : inF I 83 0) (hx : ∀ sh' I', sh' 0 = (0, 8, [some 1, some 6, some 13, some 19, some 69, some 70, some 83, some 86, some 87, none, none]) → sh' 86 = (6, 4, [none, none, none, none]) → sh' 87 = (6, 4, [none, none, none, none]) → shF sh' 88 [86, 87] → inF I' 88 0 → Xm ζ (sm_rm 4 105 1200) mX8_init 122 [some (.ref 0), some (.int (nI 0))] [] 87 650 88 sh' I' Q) : Xm ζ (sm_rm 4 105 1200) mX8_init 93 [some (.ref 0), some (.int (nI 2))] [] 82 627 83 sh I Q := by
  refine x_aload_n dX8_init_93 rfl rfl ?_
  refine x_new (N := 3) dX8_init_94 clX6 dfX6 cnX8_47 isX6 iniX6 (Nat.le_of_ble_eq_true rfl) (Nat.le_of_ble_eq_true rfl) (by decide) ?_
  refine x_dup dX8_init_97 rfl ?_
  refine x_callI (as := []) (st := [.ref 83, .ref 0]) dX8_init_98 (i_sight (a := 83) (n := 84) (by decide) (by decide) va_s) rfl rfl rfl meX6_init imX6_init mlX8_49 (by decide) (by decide) (Nat.le_of_ble_eq_true rfl) ?_
  rintro _ _ s1 J1 ⟨rfl, rfl, f1, g1, g2, g3, i1, i2⟩
  have a0 : s1 0 = (0, 8, [some 1, some 6, some 13, some 19, some 69, some 70, none, none, none, none, none]) := (f1 0 (by decide) (by decide)).trans ((va_x (by decide)).trans h0)
  refine x_putR (rs := [some 1, some 6, some 13, some 19, some 69, some 70, none, none, none, none, none]) dX8_init_101 flX8_50 (fun _ => rfl) (by decide) (a0) rfl rfl (fun x => rfl) (fun x => rfl) ?_
  refine x_aload_n dX8_init_104 rfl rfl ?_
  refine x_iconst (v := nI 4) dX8_init_105 (by decide) ?_
  refine x_newq (t := 5) (N := 4) dX8_init_106 (by decide) rfl cnX8_54 (by decide) (by decide) (by decide) (Nat.le_of_ble_eq_true rfl) (Nat.le_of_ble_eq_true rfl) (by decide) ?_
  refine x_putR (rs := [some 1, some 6, some 13, some 19, some 69, some 70, some 83, none, none, none, none]) dX8_init_109 flX8_56 (fun _ => rfl) (by decide) (((va_x (by decide)).trans va_s)) rfl rfl (fun x => rfl) (fun x => rfl) ?_
  refine x_aload_n dX8_init_112 rfl rfl ?_
  refine x_iconst (v := nI 4) dX8_init_113 (by decide) ?_
  refine x_newq (t := 5) (N := 4) dX8_init_114 (by decide) rfl cnX8_54 (by decide) (by decide) (by decide) (Nat.le_of_ble_eq_true rfl) (Nat.le_of_ble_eq_true rfl) (by decide) ?_
  refine x_putR (rs := [some 1, some 6, some 13, some 19, some 69, some 70, some 83, some 86, none, none, none]) dX8_init_117 flX8_60 (fun _ => rfl) (by decide) (((va_x (by decide)).trans va_s)) rfl rfl (fun x => rfl) (fun x => rfl) ?_
  refine x_iconst (v := nI 0) dX8_init_120 (by decide) ?_
  refine x_istore_n dX8_init_121 rfl (by decide) ?_
  refine hx _ _ va_s ((va_x (by decide)).trans ((va_x (by decide)).trans ((va_x (by decide)).trans va_s))) ((va_x (by decide)).trans va_s) (fun b h1 h2 h3 => ?_) ⟨fun b q h1 _ => ?_, fun c hc => absurd hc (Nat.not_lt_zero c)⟩
  · have e86 : b ≠ 86 := fun z => h3 (by subst z; simp)
    have e87 : b ≠ 87 := fun z => h3 (by subst z; simp)
    refine ((va_x (by omega)).trans ((va_x (by omega)).trans ((va_x (by omega)).trans ((va_x (by omega)).trans ((va_x (by omega)).trans ?_)))))
    rcases Nat.lt_or_ge b 83 with z | z
    · exact (f1 b (by omega) (by omega)).trans ((va_x (by omega)).trans (F0 b h1 z (by simp)))
    · rcases (show b = 83 ∨ b = 84 ∨ b = 85 by omega) with rfl | rfl | rfl
      · exact g1
      · exact g2
      · exact g3
  · by_cases e87 : b = 87
    · subst e87; exact congrFun va_s q
    · refine (congrFun (va_x e87) q).trans ?_
      by_cases e86 : b = 86
      · subst e86; exact congrFun va_s q
      · refine (congrFun (va_x e86) q).trans ?_
        rcases Nat.lt_or_ge b 84 with z | z
        · refine (i1 b q z).trans ?_
          by_cases hb : b = 83
          · subst hb; exact congrFun va_s q
          · exact (congrFun (va_x hb) q).trans (Z0.1 b q (by omega) (fun ⟨c, hc, _⟩ => absurd hc (Nat.not_lt_zero c)))
        · exact i2 b q z (by omega)
