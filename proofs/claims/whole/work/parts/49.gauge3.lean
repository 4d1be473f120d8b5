set_option maxHeartbeats 4000000 in
set_option maxRecDepth 100000 in
theorem lp_g5 {ζ : sm_Z} {sh : Nat → sm_S} {I : sm_I} {Q : sm_Qt} (h0 : sh 0 = (0, 8, [some 1, some 6, some 13, some 19, some 69, some 70, some 83, some 86, some 87, none, none])) (h86 : sh 86 = (6, 4, [some 88, some 92, some 96, some 100])) (h87 : sh 87 = (6, 4, [some 90, some 94, some 98, some 102])) (F0 : shF sh 104 [86, 87]) (Z0 : inF I 104 4) (hx : ∀ sh' I', shK sh' 106 → inF I' 106 4 → Q none 106 sh' I') : Xm ζ (sm_rm 4 105 1200) mX8_init 122 [some (.ref 0), some (.int (nI 4))] [] 103 1026 104 sh I Q := by
  refine x_iload_n dX8_init_122 rfl rfl ?_
  refine x_iconst (v := nI 4) dX8_init_123 (by decide) ?_
  refine x_icmp_ge (tgt := 161) dX8_init_124 (by decide) (fun _ => ?_) (fun h => absurd (by decide) h)
  refine x_aload_n dX8_init_161 rfl rfl ?_
  refine x_new (N := 5) dX8_init_162 clX5 dfX5 cnX8_66 isX5 iniX5 (Nat.le_of_ble_eq_true rfl) (Nat.le_of_ble_eq_true rfl) (by decide) ?_
  refine x_dup dX8_init_165 rfl ?_
  refine x_callIN (as := []) (st := [.ref 104, .ref 0]) dX8_init_166 (i_sharing 104) rfl rfl rfl meX5_init imX5_init (fun U h => h.2.2.2.2) (by decide) (by decide) (Nat.le_of_ble_eq_true rfl) ?_
  rintro _ _ _ _ ⟨rfl, rfl, rfl, rfl⟩
  refine x_putR (rs := [some 1, some 6, some 13, some 19, some 69, some 70, some 83, some 86, some 87, none, none]) dX8_init_169 flX8_69 (fun _ => rfl) (by decide) ((va_x (by decide)).trans h0) rfl rfl (fun x => rfl) (fun x => rfl) ?_
  refine x_aload_n dX8_init_172 rfl rfl ?_
  refine x_iconst (v := nI 4) dX8_init_173 (by decide) ?_
  refine x_newa (t := 0) (N := 4) dX8_init_174 (by decide) rfl rfl ac_int (by decide) (by decide) (Nat.le_of_ble_eq_true rfl) (Nat.le_of_ble_eq_true rfl) (Nat.le_of_ble_eq_true rfl) (by decide) ?_
  refine x_putR (rs := [some 1, some 6, some 13, some 19, some 69, some 70, some 83, some 86, some 87, some 104, none]) dX8_init_176 flX8_73 (fun _ => rfl) (by decide) ((va_x (by decide)).trans va_s) rfl rfl (fun x => rfl) (fun x => rfl) ?_
  refine x_ret (r := none) ⟨rfl, dX8_init_179⟩ (Nat.le_of_ble_eq_true rfl) (Nat.le_of_ble_eq_true rfl) (hx _ _ (fun b hb => ?_) ⟨fun b q h1 h2 => ?_, fun c hc h1 => ?_⟩)
  · by_cases e0 : b = 0
    · subst e0; exact va_s
    · refine (va_x e0).trans ?_
      by_cases e5 : b = 105
      · subst e5; exact va_s
      · refine (va_x e5).trans ((va_x e0).trans ?_)
        by_cases e4 : b = 104
        · subst e4; exact va_s
        · refine (va_x e4).trans ?_
          by_cases e6 : b = 86
          · subst e6; exact h86
          · by_cases e7 : b = 87
            · subst e7; exact h87
            · exact F0 b (by omega) (by omega) (by simp; omega)
  · by_cases e5 : b = 105
    · subst e5; exact congrFun va_s q
    · refine (congrFun (va_x e5) q).trans ?_
      by_cases e4 : b = 104
      · subst e4; exact congrFun va_s q
      · exact (congrFun (va_x e4) q).trans (Z0.1 b q (by omega) h2)
  · exact (congrFun (va_x (by omega)) 0).trans ((congrFun (va_x (by omega)) 0).trans (Z0.2 c hc (by omega)))

set_option maxHeartbeats 4000000 in
set_option maxRecDepth 100000 in
theorem i_gauge {sh : Nat → sm_S} {I : sm_I} (h0 : sh 0 = (0, 8, [none, none, none, none, none, none, none, none, none, none, none])) (Z0 : inF I 1 0) : Em 4 105 1200 mX8_init [.ref 0] 1 sh I (fun r n' sh' I' => r = none ∧ n' = 106 ∧ shK sh' 106 ∧ inF I' 106 4) := by
  refine Em.of (by decide) (by simp [Value.category]) (Nat.le_of_ble_eq_true rfl) (fun ζ => ?_)
  refine lp_g1 h0 Z0 (fun _ _ a1 a2 a3 => ?_)
  refine lp_g2 a1 a2 a3 (fun _ _ b1 b2 b3 => ?_)
  refine lp_g3 b1 b2 b3 (fun _ _ c1 c2 c3 c4 c5 => ?_)
  refine lp_g4_0 c1 c2 c3 c4 c5 (fun _ _ d01 d02 d03 d04 d05 => ?_)
  refine lp_g4_1 d01 d02 d03 d04 d05 (fun _ _ d11 d12 d13 d14 d15 => ?_)
  refine lp_g4_2 d11 d12 d13 d14 d15 (fun _ _ d21 d22 d23 d24 d25 => ?_)
  refine lp_g4_3 d21 d22 d23 d24 d25 (fun _ _ d31 d32 d33 d34 d35 => ?_)
  exact lp_g5 d31 d32 d33 d34 d35 (fun sh' I' e1 e2 => ⟨rfl, rfl, e1, e2⟩)
