set_option maxHeartbeats 4000000 in
set_option maxRecDepth 100000 in
theorem lp_g4_0 {ζ : sm_Z} {sh : Nat → sm_S} {I : sm_I} {Q : sm_Qt} (h0 : sh 0 = (0, 8, [some 1, some 6, some 13, some 19, some 69, some 70, some 83, some 86, some 87, none, none])) (h86 : sh 86 = (6, 4, [none, none, none, none])) (h87 : sh 87 = (6, 4, [none, none, none, none])) (F0 : shF sh 88 [86, 87]) (Z0 : inF I 88 0) (hx : ∀ sh' I', sh' 0 = (0, 8, [some 1, some 6, some 13, some 19, some 69, some 70, some 83, some 86, some 87, none, none]) → sh' 86 = (6, 4, [some 88, none, none, none]) → sh' 87 = (6, 4, [some 90, none, none, none]) → shF sh' 92 [86, 87] → inF I' 92 1 → Xm ζ (sm_rm 4 105 1200) mX8_init 122 [some (.ref 0), some (.int (nI 1))] [] 91 744 92 sh' I' Q) : Xm ζ (sm_rm 4 105 1200) mX8_init 122 [some (.ref 0), some (.int (nI 0))] [] 87 650 88 sh I Q := by
  refine x_iload_n dX8_init_122 rfl rfl ?_
  refine x_iconst (v := nI 4) dX8_init_123 (by decide) ?_
  refine x_icmp_ge (tgt := 161) dX8_init_124 (by decide) (fun h => absurd h (by decide)) (fun _ => ?_)
  refine x_aload_n dX8_init_127 rfl rfl ?_
  refine x_getR (b := 86) dX8_init_128 fgX8_56 (by decide) h0 rfl rfl ?_
  refine x_iload_n dX8_init_131 rfl rfl ?_
  refine x_new (N := 6) dX8_init_132 clX2 dfX2 cnX8_54 isX2 iniX2 (Nat.le_of_ble_eq_true rfl) (Nat.le_of_ble_eq_true rfl) (by decide) ?_
  refine x_dup dX8_init_135 rfl ?_
  refine x_iconst (v := 1) dX8_init_136 (by decide) ?_
  refine x_callI (as := [.int 1]) (st := [.ref 88, .int (nI 0), .ref 86]) dX8_init_137 (i_levels (a := 88) (n := 89) (by decide) (by decide) va_s (Or.inr rfl)) rfl rfl rfl meX2_init imX2_init mlX8_63 (by decide) (by decide) (Nat.le_of_ble_eq_true rfl) ?_
  rintro _ _ s1 J1 ⟨rfl, rfl, f1, g11, g12, i11, i12, i13⟩
  refine x_aast (t := 5) (N := 4) (rs := [none, none, none, none]) dX8_init_140 (by decide) ((f1 86 (by decide) (by decide)).trans ((va_x (by decide)).trans h86)) (by decide) (by decide) g11 rfl rfl (vp_in_nI (by decide) (by decide)) rfl ?_
  refine x_aload_n dX8_init_141 rfl rfl ?_
  refine x_getR (b := 87) dX8_init_142 fgX8_60 (by decide) ((va_x (by decide)).trans ((f1 0 (by decide) (by decide)).trans ((va_x (by decide)).trans h0))) rfl rfl ?_
  refine x_iload_n dX8_init_145 rfl rfl ?_
  refine x_new (N := 6) dX8_init_146 clX2 dfX2 cnX8_54 isX2 iniX2 (Nat.le_of_ble_eq_true rfl) (Nat.le_of_ble_eq_true rfl) (by decide) ?_
  refine x_dup dX8_init_149 rfl ?_
  refine x_iconst (v := 0) dX8_init_150 (by decide) ?_
  refine x_callI (as := [.int 0]) (st := [.ref 90, .int (nI 0), .ref 87]) dX8_init_151 (i_levels (a := 90) (n := 91) (by decide) (by decide) va_s (Or.inl rfl)) rfl rfl rfl meX2_init imX2_init mlX8_63 (by decide) (by decide) (Nat.le_of_ble_eq_true rfl) ?_
  rintro _ _ s2 J2 ⟨rfl, rfl, f2, g21, g22, i21, i22, i23⟩
  have k : ∀ b, b < 88 → b ≠ 86 → s2 b = sh b := fun b h1 h2 => (f2 b (by omega) (by omega)).trans ((va_x (by omega)).trans ((va_x h2).trans ((f1 b (by omega) (by omega)).trans (va_x (by omega)))))
  have k86 : s2 86 = (6, 4, [some 88, none, none, none]) := (f2 86 (by decide) (by decide)).trans ((va_x (by decide)).trans va_s)
  refine x_aast (t := 5) (N := 4) (rs := [none, none, none, none]) dX8_init_154 (by decide) ((k 87 (by decide) (by decide)).trans h87) (by decide) (by decide) g21 rfl rfl (vp_in_nI (by decide) (by decide)) rfl ?_
  refine x_iinc (v := nI 1) dX8_init_155 rfl (by decide) (by decide) ?_
  refine x_goto (tgt := 122) dX8_init_158 (by decide) ?_
  refine hx _ _ ((va_x (by decide)).trans ((k 0 (by decide) (by decide)).trans h0)) ((va_x (by decide)).trans k86) va_s (fun b h1 h2 h3 => ?_) ⟨fun b q h1 h2 => ?_, fun e he h1 => ?_⟩
  · have e86 : b ≠ 86 := fun z => h3 (by subst z; simp)
    have e87 : b ≠ 87 := fun z => h3 (by subst z; simp)
    refine (va_x e87).trans ?_
    rcases Nat.lt_or_ge b 88 with z | z
    · exact (k b z e86).trans (F0 b h1 z h3)
    · rcases (show b = 88 ∨ b = 89 ∨ b = 90 ∨ b = 91 by omega) with rfl | rfl | rfl | rfl
      · exact (f2 _ (by decide) (by decide)).trans ((va_x (by decide)).trans ((va_x (by decide)).trans g11))
      · exact (f2 _ (by decide) (by decide)).trans ((va_x (by decide)).trans ((va_x (by decide)).trans g12))
      · exact g21
      · exact g22
  · by_cases e3 : b = 91
    · subst e3; exact i23 q
    · by_cases e2 : b = 90
      · subst e2
        by_cases hq : q = 0
        · subst hq; exact i22
        · exact (i21 _ q (by decide) (fun z => hq z.2)).trans (congrFun va_s q)
      · refine (i21 b q (by omega) (fun z => e2 z.1)).trans ((congrFun (va_x e2) q).trans ?_)
        by_cases e1 : b = 89
        · subst e1; exact i13 q
        · by_cases e0 : b = 88
          · subst e0
            have hq : q ≠ 0 := fun z => h2 ⟨0, by decide, rfl, z⟩
            exact (i11 _ q (by decide) (fun z => hq z.2)).trans (congrFun va_s q)
          · refine (i11 b q (by omega) (fun z => e0 z.1)).trans ((congrFun (va_x e0) q).trans (Z0.1 b q (by omega) (fun ⟨e, he, h⟩ => h2 ⟨e, by omega, h⟩)))
  · by_cases ee : e = 0
    · subst ee
      exact (i21 _ 0 (by decide) (by decide)).trans ((congrFun (va_x (by decide)) 0).trans i12)
    · exact (i21 _ 0 (by omega) (by omega)).trans ((congrFun (va_x (by omega)) 0).trans ((i11 _ 0 (by omega) (by omega)).trans ((congrFun (va_x (by omega)) 0).trans (Z0.2 e (by omega) (by omega)))))

set_option maxHeartbeats 4000000 in
set_option maxRecDepth 100000 in
theorem lp_g4_1 {ζ : sm_Z} {sh : Nat → sm_S} {I : sm_I} {Q : sm_Qt} (h0 : sh 0 = (0, 8, [some 1, some 6, some 13, some 19, some 69, some 70, some 83, some 86, some 87, none, none])) (h86 : sh 86 = (6, 4, [some 88, none, none, none])) (h87 : sh 87 = (6, 4, [some 90, none, none, none])) (F0 : shF sh 92 [86, 87]) (Z0 : inF I 92 1) (hx : ∀ sh' I', sh' 0 = (0, 8, [some 1, some 6, some 13, some 19, some 69, some 70, some 83, some 86, some 87, none, none]) → sh' 86 = (6, 4, [some 88, some 92, none, none]) → sh' 87 = (6, 4, [some 90, some 94, none, none]) → shF sh' 96 [86, 87] → inF I' 96 2 → Xm ζ (sm_rm 4 105 1200) mX8_init 122 [some (.ref 0), some (.int (nI 2))] [] 95 838 96 sh' I' Q) : Xm ζ (sm_rm 4 105 1200) mX8_init 122 [some (.ref 0), some (.int (nI 1))] [] 91 744 92 sh I Q := by
  refine x_iload_n dX8_init_122 rfl rfl ?_
  refine x_iconst (v := nI 4) dX8_init_123 (by decide) ?_
  refine x_icmp_ge (tgt := 161) dX8_init_124 (by decide) (fun h => absurd h (by decide)) (fun _ => ?_)
  refine x_aload_n dX8_init_127 rfl rfl ?_
  refine x_getR (b := 86) dX8_init_128 fgX8_56 (by decide) h0 rfl rfl ?_
  refine x_iload_n dX8_init_131 rfl rfl ?_
  refine x_new (N := 6) dX8_init_132 clX2 dfX2 cnX8_54 isX2 iniX2 (Nat.le_of_ble_eq_true rfl) (Nat.le_of_ble_eq_true rfl) (by decide) ?_
  refine x_dup dX8_init_135 rfl ?_
  refine x_iconst (v := 1) dX8_init_136 (by decide) ?_
  refine x_callI (as := [.int 1]) (st := [.ref 92, .int (nI 1), .ref 86]) dX8_init_137 (i_levels (a := 92) (n := 93) (by decide) (by decide) va_s (Or.inr rfl)) rfl rfl rfl meX2_init imX2_init mlX8_63 (by decide) (by decide) (Nat.le_of_ble_eq_true rfl) ?_
  rintro _ _ s1 J1 ⟨rfl, rfl, f1, g11, g12, i11, i12, i13⟩
  refine x_aast (t := 5) (N := 4) (rs := [some 88, none, none, none]) dX8_init_140 (by decide) ((f1 86 (by decide) (by decide)).trans ((va_x (by decide)).trans h86)) (by decide) (by decide) g11 rfl rfl (vp_in_nI (by decide) (by decide)) rfl ?_
  refine x_aload_n dX8_init_141 rfl rfl ?_
  refine x_getR (b := 87) dX8_init_142 fgX8_60 (by decide) ((va_x (by decide)).trans ((f1 0 (by decide) (by decide)).trans ((va_x (by decide)).trans h0))) rfl rfl ?_
  refine x_iload_n dX8_init_145 rfl rfl ?_
  refine x_new (N := 6) dX8_init_146 clX2 dfX2 cnX8_54 isX2 iniX2 (Nat.le_of_ble_eq_true rfl) (Nat.le_of_ble_eq_true rfl) (by decide) ?_
  refine x_dup dX8_init_149 rfl ?_
  refine x_iconst (v := 0) dX8_init_150 (by decide) ?_
  refine x_callI (as := [.int 0]) (st := [.ref 94, .int (nI 1), .ref 87]) dX8_init_151 (i_levels (a := 94) (n := 95) (by decide) (by decide) va_s (Or.inl rfl)) rfl rfl rfl meX2_init imX2_init mlX8_63 (by decide) (by decide) (Nat.le_of_ble_eq_true rfl) ?_
  rintro _ _ s2 J2 ⟨rfl, rfl, f2, g21, g22, i21, i22, i23⟩
  have k : ∀ b, b < 92 → b ≠ 86 → s2 b = sh b := fun b h1 h2 => (f2 b (by omega) (by omega)).trans ((va_x (by omega)).trans ((va_x h2).trans ((f1 b (by omega) (by omega)).trans (va_x (by omega)))))
  have k86 : s2 86 = (6, 4, [some 88, some 92, none, none]) := (f2 86 (by decide) (by decide)).trans ((va_x (by decide)).trans va_s)
  refine x_aast (t := 5) (N := 4) (rs := [some 90, none, none, none]) dX8_init_154 (by decide) ((k 87 (by decide) (by decide)).trans h87) (by decide) (by decide) g21 rfl rfl (vp_in_nI (by decide) (by decide)) rfl ?_
  refine x_iinc (v := nI 2) dX8_init_155 rfl (by decide) (by decide) ?_
  refine x_goto (tgt := 122) dX8_init_158 (by decide) ?_
  refine hx _ _ ((va_x (by decide)).trans ((k 0 (by decide) (by decide)).trans h0)) ((va_x (by decide)).trans k86) va_s (fun b h1 h2 h3 => ?_) ⟨fun b q h1 h2 => ?_, fun e he h1 => ?_⟩
  · have e86 : b ≠ 86 := fun z => h3 (by subst z; simp)
    have e87 : b ≠ 87 := fun z => h3 (by subst z; simp)
    refine (va_x e87).trans ?_
    rcases Nat.lt_or_ge b 92 with z | z
    · exact (k b z e86).trans (F0 b h1 z h3)
    · rcases (show b = 92 ∨ b = 93 ∨ b = 94 ∨ b = 95 by omega) with rfl | rfl | rfl | rfl
      · exact (f2 _ (by decide) (by decide)).trans ((va_x (by decide)).trans ((va_x (by decide)).trans g11))
      · exact (f2 _ (by decide) (by decide)).trans ((va_x (by decide)).trans ((va_x (by decide)).trans g12))
      · exact g21
      · exact g22
  · by_cases e3 : b = 95
    · subst e3; exact i23 q
    · by_cases e2 : b = 94
      · subst e2
        by_cases hq : q = 0
        · subst hq; exact i22
        · exact (i21 _ q (by decide) (fun z => hq z.2)).trans (congrFun va_s q)
      · refine (i21 b q (by omega) (fun z => e2 z.1)).trans ((congrFun (va_x e2) q).trans ?_)
        by_cases e1 : b = 93
        · subst e1; exact i13 q
        · by_cases e0 : b = 92
          · subst e0
            have hq : q ≠ 0 := fun z => h2 ⟨1, by decide, rfl, z⟩
            exact (i11 _ q (by decide) (fun z => hq z.2)).trans (congrFun va_s q)
          · refine (i11 b q (by omega) (fun z => e0 z.1)).trans ((congrFun (va_x e0) q).trans (Z0.1 b q (by omega) (fun ⟨e, he, h⟩ => h2 ⟨e, by omega, h⟩)))
  · by_cases ee : e = 1
    · subst ee
      exact (i21 _ 0 (by decide) (by decide)).trans ((congrFun (va_x (by decide)) 0).trans i12)
    · exact (i21 _ 0 (by omega) (by omega)).trans ((congrFun (va_x (by omega)) 0).trans ((i11 _ 0 (by omega) (by omega)).trans ((congrFun (va_x (by omega)) 0).trans (Z0.2 e (by omega) (by omega)))))

set_option maxHeartbeats 4000000 in
set_option maxRecDepth 100000 in
theorem lp_g4_2 {ζ : sm_Z} {sh : Nat → sm_S} {I : sm_I} {Q : sm_Qt} (h0 : sh 0 = (0, 8, [some 1, some 6, some 13, some 19, some 69, some 70, some 83, some 86, some 87, none, none])) (h86 : sh 86 = (6, 4, [some 88, some 92, none, none])) (h87 : sh 87 = (6, 4, [some 90, some 94, none, none])) (F0 : shF sh 96 [86, 87]) (Z0 : inF I 96 2) (hx : ∀ sh' I', sh' 0 = (0, 8, [some 1, some 6, some 13, some 19, some 69, some 70, some 83, some 86, some 87, none, none]) → sh' 86 = (6, 4, [some 88, some 92, some 96, none]) → sh' 87 = (6, 4, [some 90, some 94, some 98, none]) → shF sh' 100 [86, 87] → inF I' 100 3 → Xm ζ (sm_rm 4 105 1200) mX8_init 122 [some (.ref 0), some (.int (nI 3))] [] 99 932 100 sh' I' Q) : Xm ζ (sm_rm 4 105 1200) mX8_init 122 [some (.ref 0), some (.int (nI 2))] [] 95 838 96 sh I Q := by
  refine x_iload_n dX8_init_122 rfl rfl ?_
  refine x_iconst (v := nI 4) dX8_init_123 (by decide) ?_
  refine x_icmp_ge (tgt := 161) dX8_init_124 (by decide) (fun h => absurd h (by decide)) (fun _ => ?_)
  refine x_aload_n dX8_init_127 rfl rfl ?_
  refine x_getR (b := 86) dX8_init_128 fgX8_56 (by decide) h0 rfl rfl ?_
  refine x_iload_n dX8_init_131 rfl rfl ?_
  refine x_new (N := 6) dX8_init_132 clX2 dfX2 cnX8_54 isX2 iniX2 (Nat.le_of_ble_eq_true rfl) (Nat.le_of_ble_eq_true rfl) (by decide) ?_
  refine x_dup dX8_init_135 rfl ?_
  refine x_iconst (v := 1) dX8_init_136 (by decide) ?_
  refine x_callI (as := [.int 1]) (st := [.ref 96, .int (nI 2), .ref 86]) dX8_init_137 (i_levels (a := 96) (n := 97) (by decide) (by decide) va_s (Or.inr rfl)) rfl rfl rfl meX2_init imX2_init mlX8_63 (by decide) (by decide) (Nat.le_of_ble_eq_true rfl) ?_
  rintro _ _ s1 J1 ⟨rfl, rfl, f1, g11, g12, i11, i12, i13⟩
  refine x_aast (t := 5) (N := 4) (rs := [some 88, some 92, none, none]) dX8_init_140 (by decide) ((f1 86 (by decide) (by decide)).trans ((va_x (by decide)).trans h86)) (by decide) (by decide) g11 rfl rfl (vp_in_nI (by decide) (by decide)) rfl ?_
  refine x_aload_n dX8_init_141 rfl rfl ?_
  refine x_getR (b := 87) dX8_init_142 fgX8_60 (by decide) ((va_x (by decide)).trans ((f1 0 (by decide) (by decide)).trans ((va_x (by decide)).trans h0))) rfl rfl ?_
  refine x_iload_n dX8_init_145 rfl rfl ?_
  refine x_new (N := 6) dX8_init_146 clX2 dfX2 cnX8_54 isX2 iniX2 (Nat.le_of_ble_eq_true rfl) (Nat.le_of_ble_eq_true rfl) (by decide) ?_
  refine x_dup dX8_init_149 rfl ?_
  refine x_iconst (v := 0) dX8_init_150 (by decide) ?_
  refine x_callI (as := [.int 0]) (st := [.ref 98, .int (nI 2), .ref 87]) dX8_init_151 (i_levels (a := 98) (n := 99) (by decide) (by decide) va_s (Or.inl rfl)) rfl rfl rfl meX2_init imX2_init mlX8_63 (by decide) (by decide) (Nat.le_of_ble_eq_true rfl) ?_
  rintro _ _ s2 J2 ⟨rfl, rfl, f2, g21, g22, i21, i22, i23⟩
  have k : ∀ b, b < 96 → b ≠ 86 → s2 b = sh b := fun b h1 h2 => (f2 b (by omega) (by omega)).trans ((va_x (by omega)).trans ((va_x h2).trans ((f1 b (by omega) (by omega)).trans (va_x (by omega)))))
  have k86 : s2 86 = (6, 4, [some 88, some 92, some 96, none]) := (f2 86 (by decide) (by decide)).trans ((va_x (by decide)).trans va_s)
  refine x_aast (t := 5) (N := 4) (rs := [some 90, some 94, none, none]) dX8_init_154 (by decide) ((k 87 (by decide) (by decide)).trans h87) (by decide) (by decide) g21 rfl rfl (vp_in_nI (by decide) (by decide)) rfl ?_
  refine x_iinc (v := nI 3) dX8_init_155 rfl (by decide) (by decide) ?_
  refine x_goto (tgt := 122) dX8_init_158 (by decide) ?_
  refine hx _ _ ((va_x (by decide)).trans ((k 0 (by decide) (by decide)).trans h0)) ((va_x (by decide)).trans k86) va_s (fun b h1 h2 h3 => ?_) ⟨fun b q h1 h2 => ?_, fun e he h1 => ?_⟩
  · have e86 : b ≠ 86 := fun z => h3 (by subst z; simp)
    have e87 : b ≠ 87 := fun z => h3 (by subst z; simp)
    refine (va_x e87).trans ?_
    rcases Nat.lt_or_ge b 96 with z | z
    · exact (k b z e86).trans (F0 b h1 z h3)
    · rcases (show b = 96 ∨ b = 97 ∨ b = 98 ∨ b = 99 by omega) with rfl | rfl | rfl | rfl
      · exact (f2 _ (by decide) (by decide)).trans ((va_x (by decide)).trans ((va_x (by decide)).trans g11))
      · exact (f2 _ (by decide) (by decide)).trans ((va_x (by decide)).trans ((va_x (by decide)).trans g12))
      · exact g21
      · exact g22
  · by_cases e3 : b = 99
    · subst e3; exact i23 q
    · by_cases e2 : b = 98
      · subst e2
        by_cases hq : q = 0
        · subst hq; exact i22
        · exact (i21 _ q (by decide) (fun z => hq z.2)).trans (congrFun va_s q)
      · refine (i21 b q (by omega) (fun z => e2 z.1)).trans ((congrFun (va_x e2) q).trans ?_)
        by_cases e1 : b = 97
        · subst e1; exact i13 q
        · by_cases e0 : b = 96
          · subst e0
            have hq : q ≠ 0 := fun z => h2 ⟨2, by decide, rfl, z⟩
            exact (i11 _ q (by decide) (fun z => hq z.2)).trans (congrFun va_s q)
          · refine (i11 b q (by omega) (fun z => e0 z.1)).trans ((congrFun (va_x e0) q).trans (Z0.1 b q (by omega) (fun ⟨e, he, h⟩ => h2 ⟨e, by omega, h⟩)))
  · by_cases ee : e = 2
    · subst ee
      exact (i21 _ 0 (by decide) (by decide)).trans ((congrFun (va_x (by decide)) 0).trans i12)
    · exact (i21 _ 0 (by omega) (by omega)).trans ((congrFun (va_x (by omega)) 0).trans ((i11 _ 0 (by omega) (by omega)).trans ((congrFun (va_x (by omega)) 0).trans (Z0.2 e (by omega) (by omega)))))

set_option maxHeartbeats 4000000 in
set_option maxRecDepth 100000 in
theorem lp_g4_3 {ζ : sm_Z} {sh : Nat → sm_S} {I : sm_I} {Q : sm_Qt} (h0 : sh 0 = (0, 8, [some 1, some 6, some 13, some 19, some 69, some 70, some 83, some 86, some 87, none, none])) (h86 : sh 86 = (6, 4, [some 88, some 92, some 96, none])) (h87 : sh 87 = (6, 4, [some 90, some 94, some 98, none])) (F0 : shF sh 100 [86, 87]) (Z0 : inF I 100 3) (hx : ∀ sh' I', sh' 0 = (0, 8, [some 1, some 6, some 13, some 19, some 69, some 70, some 83, some 86, some 87, none, none]) → sh' 86 = (6, 4, [some 88, some 92, some 96, some 100]) → sh' 87 = (6, 4, [some 90, some 94, some 98, some 102]) → shF sh' 104 [86, 87] → inF I' 104 4 → Xm ζ (sm_rm 4 105 1200) mX8_init 122 [some (.ref 0), some (.int (nI 4))] [] 103 1026 104 sh' I' Q) : Xm ζ (sm_rm 4 105 1200) mX8_init 122 [some (.ref 0), some (.int (nI 3))] [] 99 932 100 sh I Q := by
  refine x_iload_n dX8_init_122 rfl rfl ?_
  refine x_iconst (v := nI 4) dX8_init_123 (by decide) ?_
  refine x_icmp_ge (tgt := 161) dX8_init_124 (by decide) (fun h => absurd h (by decide)) (fun _ => ?_)
  refine x_aload_n dX8_init_127 rfl rfl ?_
  refine x_getR (b := 86) dX8_init_128 fgX8_56 (by decide) h0 rfl rfl ?_
  refine x_iload_n dX8_init_131 rfl rfl ?_
  refine x_new (N := 6) dX8_init_132 clX2 dfX2 cnX8_54 isX2 iniX2 (Nat.le_of_ble_eq_true rfl) (Nat.le_of_ble_eq_true rfl) (by decide) ?_
  refine x_dup dX8_init_135 rfl ?_
  refine x_iconst (v := 1) dX8_init_136 (by decide) ?_
  refine x_callI (as := [.int 1]) (st := [.ref 100, .int (nI 3), .ref 86]) dX8_init_137 (i_levels (a := 100) (n := 101) (by decide) (by decide) va_s (Or.inr rfl)) rfl rfl rfl meX2_init imX2_init mlX8_63 (by decide) (by decide) (Nat.le_of_ble_eq_true rfl) ?_
  rintro _ _ s1 J1 ⟨rfl, rfl, f1, g11, g12, i11, i12, i13⟩
  refine x_aast (t := 5) (N := 4) (rs := [some 88, some 92, some 96, none]) dX8_init_140 (by decide) ((f1 86 (by decide) (by decide)).trans ((va_x (by decide)).trans h86)) (by decide) (by decide) g11 rfl rfl (vp_in_nI (by decide) (by decide)) rfl ?_
  refine x_aload_n dX8_init_141 rfl rfl ?_
  refine x_getR (b := 87) dX8_init_142 fgX8_60 (by decide) ((va_x (by decide)).trans ((f1 0 (by decide) (by decide)).trans ((va_x (by decide)).trans h0))) rfl rfl ?_
  refine x_iload_n dX8_init_145 rfl rfl ?_
  refine x_new (N := 6) dX8_init_146 clX2 dfX2 cnX8_54 isX2 iniX2 (Nat.le_of_ble_eq_true rfl) (Nat.le_of_ble_eq_true rfl) (by decide) ?_
  refine x_dup dX8_init_149 rfl ?_
  refine x_iconst (v := 0) dX8_init_150 (by decide) ?_
  refine x_callI (as := [.int 0]) (st := [.ref 102, .int (nI 3), .ref 87]) dX8_init_151 (i_levels (a := 102) (n := 103) (by decide) (by decide) va_s (Or.inl rfl)) rfl rfl rfl meX2_init imX2_init mlX8_63 (by decide) (by decide) (Nat.le_of_ble_eq_true rfl) ?_
  rintro _ _ s2 J2 ⟨rfl, rfl, f2, g21, g22, i21, i22, i23⟩
  have k : ∀ b, b < 100 → b ≠ 86 → s2 b = sh b := fun b h1 h2 => (f2 b (by omega) (by omega)).trans ((va_x (by omega)).trans ((va_x h2).trans ((f1 b (by omega) (by omega)).trans (va_x (by omega)))))
  have k86 : s2 86 = (6, 4, [some 88, some 92, some 96, some 100]) := (f2 86 (by decide) (by decide)).trans ((va_x (by decide)).trans va_s)
  refine x_aast (t := 5) (N := 4) (rs := [some 90, some 94, some 98, none]) dX8_init_154 (by decide) ((k 87 (by decide) (by decide)).trans h87) (by decide) (by decide) g21 rfl rfl (vp_in_nI (by decide) (by decide)) rfl ?_
  refine x_iinc (v := nI 4) dX8_init_155 rfl (by decide) (by decide) ?_
  refine x_goto (tgt := 122) dX8_init_158 (by decide) ?_
  refine hx _ _ ((va_x (by decide)).trans ((k 0 (by decide) (by decide)).trans h0)) ((va_x (by decide)).trans k86) va_s (fun b h1 h2 h3 => ?_) ⟨fun b q h1 h2 => ?_, fun e he h1 => ?_⟩
  · have e86 : b ≠ 86 := fun z => h3 (by subst z; simp)
    have e87 : b ≠ 87 := fun z => h3 (by subst z; simp)
    refine (va_x e87).trans ?_
    rcases Nat.lt_or_ge b 100 with z | z
    · exact (k b z e86).trans (F0 b h1 z h3)
    · rcases (show b = 100 ∨ b = 101 ∨ b = 102 ∨ b = 103 by omega) with rfl | rfl | rfl | rfl
      · exact (f2 _ (by decide) (by decide)).trans ((va_x (by decide)).trans ((va_x (by decide)).trans g11))
      · exact (f2 _ (by decide) (by decide)).trans ((va_x (by decide)).trans ((va_x (by decide)).trans g12))
      · exact g21
      · exact g22
  · by_cases e3 : b = 103
    · subst e3; exact i23 q
    · by_cases e2 : b = 102
      · subst e2
        by_cases hq : q = 0
        · subst hq; exact i22
        · exact (i21 _ q (by decide) (fun z => hq z.2)).trans (congrFun va_s q)
      · refine (i21 b q (by omega) (fun z => e2 z.1)).trans ((congrFun (va_x e2) q).trans ?_)
        by_cases e1 : b = 101
        · subst e1; exact i13 q
        · by_cases e0 : b = 100
          · subst e0
            have hq : q ≠ 0 := fun z => h2 ⟨3, by decide, rfl, z⟩
            exact (i11 _ q (by decide) (fun z => hq z.2)).trans (congrFun va_s q)
          · refine (i11 b q (by omega) (fun z => e0 z.1)).trans ((congrFun (va_x e0) q).trans (Z0.1 b q (by omega) (fun ⟨e, he, h⟩ => h2 ⟨e, by omega, h⟩)))
  · by_cases ee : e = 3
    · subst ee
      exact (i21 _ 0 (by decide) (by decide)).trans ((congrFun (va_x (by decide)) 0).trans i12)
    · exact (i21 _ 0 (by omega) (by omega)).trans ((congrFun (va_x (by omega)) 0).trans ((i11 _ 0 (by omega) (by omega)).trans ((congrFun (va_x (by omega)) 0).trans (Z0.2 e (by omega) (by omega)))))
