theorem lp_shares_in {ζ : sm_Z} {d : Nat} (hd : 1 ≤ d) {I0 : sm_I} {Q : Option Value → sm_I → Prop} {u : Nat → Nat} {w p y : Nat} {a1 a3 : Option Value} (hw : w < 2 ^ 30) {T : Nat} (hT : T ≤ 40) (hul : ∀ q, q ≤ T → u q < 2 ^ 31) (hmono : ∀ a b, a ≤ b → u a ≤ u b) (hy : y ≤ T) : ∀ (f z : Nat) (s : TT) (I : sm_I) (a10 : Option Value), z + f = y + 1 → (s.1 ≤ w + 1 ∧ s.2.2 ≤ s.2.1 ∧ s.2.1 ≤ y) → (∀ q, q ≤ T → I 114 q = nI (u q)) → frM I0 I → (∀ (I' : sm_I), (∀ q, q ≤ T → I' 114 q = nI (u q)) → frM I0 I' → ∀ a10 : Option Value, X0 ζ d mX9_shares 147 [some (.ref 106), a1, some (.int (nI p)), a3, some (.int (nI w)), some (.int (nI (sh_in u w y f z s).1)), some (.int (nI (sh_in u w y f z s).2.1)), some (.int (nI (sh_in u w y f z s).2.2)), some (.int (nI y)), some (.int (nI (y + 1))), a10] [] I' Q) → X0 ζ d mX9_shares 103 [some (.ref 106), a1, some (.int (nI p)), a3, some (.int (nI w)), some (.int (nI s.1)), some (.int (nI s.2.1)), some (.int (nI s.2.2)), some (.int (nI y)), some (.int (nI z)), a10] [] I Q := by
  intro f
  induction f with
  | zero =>
    intro z s I a10 hz hs hU hF hx
    have hx : ∀ (I' : sm_I), (∀ q, q ≤ T → I' 114 q = nI (u q)) → frM I0 I' → ∀ a10 : Option Value, X0 ζ d mX9_shares 147 [some (.ref 106), a1, some (.int (nI p)), a3, some (.int (nI w)), some (.int (nI s.1)), some (.int (nI s.2.1)), some (.int (nI s.2.2)), some (.int (nI y)), some (.int (nI (y + 1))), a10] [] I' Q := hx
    refine o_iload dX9_shares_103 rfl ?_
    refine o_iload dX9_shares_105 rfl ?_
    refine o_icmpN_gt (tgt := 147) dX9_shares_107 (by decide) (by omega) (by omega) (fun b_1 => ?_) (fun b_1 => absurd b_1 (by omega))
    have hzz : z = y + 1 := by omega
    subst hzz
    exact hx I hU hF a10
  | succ f ih =>
    intro z s I a10 hz hs hU hF hx
    refine o_iload dX9_shares_103 rfl ?_
    refine o_iload dX9_shares_105 rfl ?_
    refine o_icmpN_gt (tgt := 147) dX9_shares_107 (by decide) (by omega) (by omega) (fun b_2 => absurd b_2 (by omega)) (fun b_2 => ?_)
    refine o_aload_n dX9_shares_110 rfl rfl ?_
    refine o_iload dX9_shares_111 rfl ?_
    refine o_iload dX9_shares_113 rfl ?_
    refine o_iload dX9_shares_115 rfl ?_
    refine o_callV (as := [.int (nI w), .int (nI y), .int (nI z)]) (st := []) dX9_shares_117 (c_mostBy (u := u) (by omega) (by omega) (by omega) (fun q hq => hU q (by omega)) (fun q hq => hul q (by omega)) (hmono z y (by omega))) rfl meX9_mostBy imX9_mostBy seX9_mostBy mlX9_155 sh_106 rfl rfl (by omega) (by decide) (Nat.le_of_ble_eq_true rfl) ?_
    rintro _ _ ⟨rfl, rfl⟩
    refine o_istore dX9_shares_120 (by decide) ?_
    have hml := sh_most_le (u := u) (w := w) (y := y) (z := z)
    refine o_iload dX9_shares_122 rfl ?_
    refine o_iload dX9_shares_124 rfl ?_
    refine o_icmpN_ge (tgt := 141) dX9_shares_126 (by decide) (by omega) (by omega) (fun b_3 => ?_) (fun b_3 => ?_)
    · refine o_iincN (w := 1) dX9_shares_141 rfl (by decide) (by decide) ?_
      refine o_goto (tgt := 103) dX9_shares_144 (by decide) ?_
      have he : sh_step u w s y z = s := by unfold sh_step; rw [if_neg (by omega)]
      have h := ih (z + 1) (sh_step u w s y z) (up2 (up2 I 106 18 (nI (sh_first u w y))) 106 19 (nI (sh_last u w z))) (some (.int (nI (sh_most u w y z)))) (by omega) (by rw [he]; first | exact hs | (exact ⟨by show sh_most u w y z ≤ w + 1; omega, by show z ≤ y; omega, by show y ≤ y; omega⟩)) (fun q hq => (up2_x (by omega)).trans ((up2_x (by omega)).trans (hU q hq))) ((hF.trans (frM.scr (by unfold mn; omega))).trans (frM.scr (by unfold mn; omega))) (fun I' q1 q2 a10 => hx I' q1 q2 a10)
      rw [he] at h
      exact h
    · refine o_iload dX9_shares_129 rfl ?_
      refine o_istore dX9_shares_131 (by decide) ?_
      refine o_iload dX9_shares_133 rfl ?_
      refine o_istore dX9_shares_135 (by decide) ?_
      refine o_iload dX9_shares_137 rfl ?_
      refine o_istore dX9_shares_139 (by decide) ?_
      refine o_iincN (w := 1) dX9_shares_141 rfl (by decide) (by decide) ?_
      refine o_goto (tgt := 103) dX9_shares_144 (by decide) ?_
      have he : sh_step u w s y z = (sh_most u w y z, y, z) := by unfold sh_step; rw [if_pos (by omega)]
      have h := ih (z + 1) (sh_step u w s y z) (up2 (up2 I 106 18 (nI (sh_first u w y))) 106 19 (nI (sh_last u w z))) (some (.int (nI (sh_most u w y z)))) (by omega) (by rw [he]; first | exact hs | (exact ⟨by show sh_most u w y z ≤ w + 1; omega, by show z ≤ y; omega, by show y ≤ y; omega⟩)) (fun q hq => (up2_x (by omega)).trans ((up2_x (by omega)).trans (hU q hq))) ((hF.trans (frM.scr (by unfold mn; omega))).trans (frM.scr (by unfold mn; omega))) (fun I' q1 q2 a10 => hx I' q1 q2 a10)
      rw [he] at h
      exact h

theorem sh_step_le {u : Nat → Nat} {w : Nat} {s : TT} {y z : Nat} : (sh_step u w s y z).1 ≤ s.1 := by
  unfold sh_step
  split
  · rename_i h; exact Nat.le_of_lt h
  · exact Nat.le_refl _
theorem sh_in_le {u : Nat → Nat} {w y : Nat} : ∀ (f z : Nat) (s : TT), (sh_in u w y f z s).1 ≤ s.1
  | 0, _, _ => Nat.le_refl _
  | f + 1, z, s => Nat.le_trans (sh_in_le f (z + 1) _) sh_step_le
theorem lp_shares {ζ : sm_Z} {d : Nat} (hd : 1 ≤ d) {I0 : sm_I} {Q : Option Value → sm_I → Prop} {u : Nat → Nat} {w p : Nat} (hp : 2 ≤ p ∧ p ≤ 3) {a1 a3 : Option Value} (hw : w < 2 ^ 30) {T : Nat} (hT : T ≤ 40) (hul : ∀ q, q ≤ T → u q < 2 ^ 31) (hmono : ∀ a b, a ≤ b → u a ≤ u b) (hwT : w ≤ u T) : ∀ (f y : Nat) (s : TT) (I : sm_I) (a9 a10 : Option Value), y + f = cg_dip u T w + 1 → (s.1 ≤ w + 1 ∧ s.2.2 ≤ s.2.1 ∧ (s.2.1 ≤ y - 1)) → (∀ q, q ≤ T → I 114 q = nI (u q)) → frM I0 I → (∀ (I' : sm_I), (∀ q, q ≤ T → I' 114 q = nI (u q)) → frM I0 I' → ∀ a9 a10 : Option Value, X0 ζ d mX9_shares 153 [some (.ref 106), a1, some (.int (nI p)), a3, some (.int (nI w)), some (.int (nI (sh_out u w p f y s).1)), some (.int (nI (sh_out u w p f y s).2.1)), some (.int (nI (sh_out u w p f y s).2.2)), some (.int (nI (cg_dip u T w + 1))), a9, a10] [] I' Q) → X0 ζ d mX9_shares 79 [some (.ref 106), a1, some (.int (nI p)), a3, some (.int (nI w)), some (.int (nI s.1)), some (.int (nI s.2.1)), some (.int (nI s.2.2)), some (.int (nI y)), a9, a10] [] I Q := by
  have hDT := cg_dip_le u T w
  intro f
  induction f with
  | zero =>
    intro y s I a9 a10 hy hs hU hF hx
    have hyy : y = cg_dip u T w + 1 := by omega
    subst hyy
    have hx : ∀ (I' : sm_I), (∀ q, q ≤ T → I' 114 q = nI (u q)) → frM I0 I' → ∀ a9 a10 : Option Value, X0 ζ d mX9_shares 153 [some (.ref 106), a1, some (.int (nI p)), a3, some (.int (nI w)), some (.int (nI s.1)), some (.int (nI s.2.1)), some (.int (nI s.2.2)), some (.int (nI (cg_dip u T w + 1))), a9, a10] [] I' Q := hx
    refine o_iload dX9_shares_79 rfl ?_
    refine o_aload_n dX9_shares_81 rfl rfl ?_
    refine o_iload dX9_shares_82 rfl ?_
    refine o_callVp (v := .int (nI (cg_dip u T w))) (as := [.int (nI w)]) (st := [.int (nI (cg_dip u T w + 1))]) dX9_shares_84 (c_dipOf (u := u) (top := T) hT hU (fun q hq => hul q hq) hwT) rfl meX9_dipOf imX9_dipOf seX9_dipOf mlX9_137 sh_106 rfl rfl (by omega) (by decide) (Nat.le_of_ble_eq_true rfl) ?_
    refine o_icmpN_gt (tgt := 153) dX9_shares_87 (by decide) (by omega) (by omega) (fun b_7 => ?_) (fun b_7 => absurd b_7 (by omega))
    exact hx I hU hF a9 a10
  | succ f ih =>
    intro y s I a9 a10 hy hs hU hF hx
    refine o_iload dX9_shares_79 rfl ?_
    refine o_aload_n dX9_shares_81 rfl rfl ?_
    refine o_iload dX9_shares_82 rfl ?_
    refine o_callVp (v := .int (nI (cg_dip u T w))) (as := [.int (nI w)]) (st := [.int (nI y)]) dX9_shares_84 (c_dipOf (u := u) (top := T) hT hU (fun q hq => hul q hq) hwT) rfl meX9_dipOf imX9_dipOf seX9_dipOf mlX9_137 sh_106 rfl rfl (by omega) (by decide) (Nat.le_of_ble_eq_true rfl) ?_
    refine o_icmpN_gt (tgt := 153) dX9_shares_87 (by decide) (by omega) (by omega) (fun b_5 => absurd b_5 (by omega)) (fun b_5 => ?_)
    refine o_iload_n dX9_shares_90 rfl rfl ?_
    refine o_iconst (v := nI 2) dX9_shares_91 (by decide) ?_
    refine o_icmpN_ne (tgt := 100) dX9_shares_92 (by decide) (by omega) (by omega) (fun b_6 => ?_) (fun b_6 => ?_)
    · refine o_iconst (v := nI 0) dX9_shares_100 (by decide) ?_
      refine o_istore dX9_shares_101 (by decide) ?_
      have hz0 : sh_z0 p y = 0 := by unfold sh_z0; rw [if_neg (by omega)]
      refine lp_shares_in hd hw hT hul hmono (show y ≤ T by omega) (y + 1 - 0) 0 s I a10 (by omega) ⟨hs.1, hs.2.1, by omega⟩ hU hF (fun I1 r1 r2 a10 => ?_)
      have e1 : sh_in u w y (y + 1 - 0) 0 s = sh_in u w y (y + 1 - sh_z0 p y) (sh_z0 p y) s := by rw [hz0]
      rw [e1]
      have hok2 := sh_in_ok (u := u) (w := w) (y := y) (D := y) (Nat.le_refl y) (y + 1 - sh_z0 p y) (sh_z0 p y) s ⟨hs.2.1, by omega⟩ (by rw [hz0]; omega)
      have hle2 := sh_in_le (u := u) (w := w) (y := y) (y + 1 - sh_z0 p y) (sh_z0 p y) s
      generalize hs2 : sh_in u w y (y + 1 - sh_z0 p y) (sh_z0 p y) s = s2 at hok2 hle2 ⊢
      refine o_iincN (w := 1) dX9_shares_147 rfl (by decide) (by decide) ?_
      refine o_goto (tgt := 79) dX9_shares_150 (by decide) ?_
      exact ih (y + 1) s2 I1 (some (.int (nI (y + 1)))) a10 (by omega) ⟨by omega, hok2.1, by omega⟩ r1 r2 (fun I' q1 q2 a9 a10 => by rw [sh_out, hs2] at hx; exact hx I' q1 q2 a9 a10)
    · refine o_iload dX9_shares_95 rfl ?_
      refine o_goto (tgt := 101) dX9_shares_97 (by decide) ?_
      refine o_istore dX9_shares_101 (by decide) ?_
      have hz0 : sh_z0 p y = y := by unfold sh_z0; rw [if_pos (by omega)]
      refine lp_shares_in hd hw hT hul hmono (show y ≤ T by omega) (y + 1 - y) y s I a10 (by omega) ⟨hs.1, hs.2.1, by omega⟩ hU hF (fun I1 r1 r2 a10 => ?_)
      have e1 : sh_in u w y (y + 1 - y) y s = sh_in u w y (y + 1 - sh_z0 p y) (sh_z0 p y) s := by rw [hz0]
      rw [e1]
      have hok2 := sh_in_ok (u := u) (w := w) (y := y) (D := y) (Nat.le_refl y) (y + 1 - sh_z0 p y) (sh_z0 p y) s ⟨hs.2.1, by omega⟩ (by rw [hz0]; omega)
      have hle2 := sh_in_le (u := u) (w := w) (y := y) (y + 1 - sh_z0 p y) (sh_z0 p y) s
      generalize hs2 : sh_in u w y (y + 1 - sh_z0 p y) (sh_z0 p y) s = s2 at hok2 hle2 ⊢
      refine o_iincN (w := 1) dX9_shares_147 rfl (by decide) (by decide) ?_
      refine o_goto (tgt := 79) dX9_shares_150 (by decide) ?_
      exact ih (y + 1) s2 I1 (some (.int (nI (y + 1)))) a10 (by omega) ⟨by omega, hok2.1, by omega⟩ r1 r2 (fun I' q1 q2 a9 a10 => by rw [sh_out, hs2] at hx; exact hx I' q1 q2 a9 a10)
theorem sh_out_ok {u : Nat → Nat} {w m : Nat} (hm : 2 ≤ m ∧ m ≤ 3) {D : Nat} : ∀ (f y : Nat) (s : TT), y + f = D + 1 → s.2.2 ≤ s.2.1 ∧ s.2.1 ≤ D → (sh_out u w m f y s).2.2 ≤ (sh_out u w m f y s).2.1 ∧ (sh_out u w m f y s).2.1 ≤ D
  | 0, _, _, _, hs => hs
  | f + 1, y, s, hy, hs => by
    have h0 : sh_z0 m y ≤ y := by unfold sh_z0; split <;> omega
    exact sh_out_ok hm f (y + 1) _ (by omega) (sh_in_ok (by omega) _ _ _ hs (by omega))
theorem sh_out_le {u : Nat → Nat} {w m : Nat} : ∀ (f y : Nat) (s : TT), (sh_out u w m f y s).1 ≤ s.1
  | 0, _, _ => Nat.le_refl _
  | f + 1, y, s => Nat.le_trans (sh_out_le f (y + 1) _) (sh_in_le _ _ _)

set_option maxHeartbeats 4000000 in
set_option maxRecDepth 100000 in
theorem m_shares {I : sm_I} {K : KT} (hK : MK I 107 0 K) (hok : okK K) (c m k : Int32) : E0 6 mX9_shares [.ref 106, .int c, .int m, .int k] I (fun r I' => r = some (.int (sp_shares K c m k)) ∧ frM I I') := by
  have hn := hok.1
  refine E0.of (by decide) (by simp [Value.category]) (Nat.le_of_ble_eq_true rfl) (fun ζ => ?_)
  rcases sl_cases (B := 2) (by decide) (by decide) k with ⟨rfl, hz1, hz2⟩ | ⟨e, he, rfl, hne, hz1, hz2, hx⟩ | ⟨hne, hx, hz⟩
  · refine o_aload_n dX9_shares_0 rfl rfl ?_
    refine o_iconst (v := nI 0) dX9_shares_1 (by decide) ?_
    refine o_putI dX9_shares_2 flX9_39 sh_106 rfl ?_
    refine o_aload_n dX9_shares_5 rfl rfl ?_
    refine o_iload_n dX9_shares_6 rfl rfl ?_
    refine o_callV (as := [.int c]) (st := []) dX9_shares_7 (c_isCask (hK.frM ((frM.refl _).trans (frM.scr (by unfold mn; omega)))) hok c) rfl meX9_isCask imX9_isCask seX9_isCask mlX9_127 sh_106 rfl rfl (by omega) (by decide) (Nat.le_of_ble_eq_true rfl) ?_
    rintro _ _ ⟨rfl, ⟨j, hj, rfl, rfl⟩ | ⟨hno, rfl⟩⟩
    · refine o_ifN_eq (tgt := 41) dX9_shares_10 (by decide) (by omega) (fun b_8 => absurd b_8 (by omega)) (fun b_8 => ?_)
      refine o_iload_n dX9_shares_13 rfl rfl ?_
      refine o_iconst (v := nI 2) dX9_shares_14 (by decide) ?_
      refine o_iconst (v := nI 3) dX9_shares_15 (by decide) ?_
      refine o_callS (as := [.int m, .int (nI 2), .int (nI 3)]) (st := []) dX9_shares_16 (c_in _ _ _ _) rfl meX9_in ssX9_in mlX9_43 (by omega) (by decide) (Nat.le_of_ble_eq_true rfl) ?_
      rintro _ _ ⟨rfl, ⟨hpa, hpb, rfl⟩ | ⟨hno2, rfl⟩⟩
      · obtain ⟨p, hp1, hp2, rfl⟩ := in_nat (by omega) (by omega) hpa hpb
        refine o_ifN_eq (tgt := 41) dX9_shares_19 (by decide) (by omega) (fun b_9 => absurd b_9 (by omega)) (fun b_9 => ?_)
        refine o_iload_n dX9_shares_22 rfl rfl ?_
        refine o_iconst (v := (-1)) dX9_shares_23 (by decide) ?_
        refine o_iconst (v := nI 3) dX9_shares_24 (by decide) ?_
        refine o_callSp (v := .int (nI 1)) (as := [.int (-1), .int (-1), .int (nI 3)]) (st := []) dX9_shares_25 (c_inY _ hz1 hz2) rfl meX9_in ssX9_in mlX9_43 (by omega) (by decide) (Nat.le_of_ble_eq_true rfl) ?_
        refine o_ifN_eq (tgt := 41) dX9_shares_28 (by decide) (by omega) (fun b_10 => absurd b_10 (by omega)) (fun b_10 => ?_)
        refine o_iload_n dX9_shares_31 rfl rfl ?_
        refine o_iconst (v := nI 2) dX9_shares_32 (by decide) ?_
        refine o_icmpN_ne (tgt := 43) dX9_shares_33 (by decide) (by omega) (by omega) (fun b_11 => ?_) (fun b_11 => ?_)
        · refine o_aload_n dX9_shares_43 rfl rfl ?_
          refine o_iload_n dX9_shares_44 rfl rfl ?_
          refine o_iconst (v := nI 4) dX9_shares_45 (by decide) ?_
          refine o_callVp (v := .int (nI (K.2 j 4))) (as := [.int (nI j), .int (nI 4)]) (st := []) dX9_shares_46 (c_ofK (hK.frM ((frM.refl _).trans (frM.scr (by unfold mn; omega)))) hn hj (by decide)) rfl meX9_of imX9_of seX9_of mlX9_103 sh_106 rfl rfl (by omega) (by decide) (Nat.le_of_ble_eq_true rfl) ?_
          refine o_istore dX9_shares_49 (by decide) ?_
          have hq := hok.2 j hj
          have hT := hq.lT
          have hH := hq.l2
          have hw := hq.w
          have hUl : ∀ y, y ≤ 40 → cU K j y ≤ 67200 := fun y hy => hq.lU hy
          obtain ⟨q0, q1, q2, q3, q4, q5, q6, q7⟩ := id hq
          refine o_iload dX9_shares_51 rfl ?_
          refine o_ifN_ne (tgt := 59) dX9_shares_53 (by decide) (by omega) (fun b_12 => ?_) (fun b_12 => ?_)
          · refine o_aload_n dX9_shares_59 rfl rfl ?_
            refine o_iload_n dX9_shares_60 rfl rfl ?_
            refine o_callV (as := [.int (nI j)]) (st := []) dX9_shares_61 (c_laysNow (hK.frM ((frM.refl _).trans (frM.scr (by unfold mn; omega)))) hok hj) rfl meX9_laysNow imX9_laysNow seX9_laysNow mlX9_120 sh_106 rfl rfl (by omega) (by decide) (Nat.le_of_ble_eq_true rfl) ?_
            rintro _ I1 ⟨rfl, hU1, hF1⟩
            have hq := hok.2 j hj
            have hT := hq.lT
            have hH := hq.l2
            have hw := hq.w
            have hUl : ∀ y, y ≤ 40 → cU K j y ≤ 67200 := fun y hy => hq.lU hy
            obtain ⟨q0, q1, q2, q3, q4, q5, q6, q7⟩ := id hq
            refine o_iload dX9_shares_64 rfl ?_
            refine o_iconst (v := nI 1) dX9_shares_66 (by decide) ?_
            refine o_iaddN dX9_shares_67 ?_
            refine o_istore dX9_shares_68 (by decide) ?_
            refine o_iconst (v := nI 0) dX9_shares_70 (by decide) ?_
            refine o_istore dX9_shares_71 (by decide) ?_
            refine o_iconst (v := nI 0) dX9_shares_73 (by decide) ?_
            refine o_istore dX9_shares_74 (by decide) ?_
            refine o_iconst (v := nI 0) dX9_shares_76 (by decide) ?_
            refine o_istore dX9_shares_77 (by decide) ?_
            have hul : ∀ q, q ≤ cT K j → cU K j q < 2 ^ 31 := fun q hq => by have := hUl q (by omega); omega
            have hmono : ∀ a b, a ≤ b → cU K j a ≤ cU K j b := fun a b h => cg_U_mono h
            have hDT := cg_dip_le (cU K j) (cT K j) (K.2 j 4)
            refine lp_shares (I0 := I) (u := cU K j) (T := cT K j) (by omega) ⟨hp1, hp2⟩ (by omega) hT hul hmono hw (cg_dip (cU K j) (cT K j) (K.2 j 4) + 1) 0 (K.2 j 4 + 1, 0, 0) I1 none none (by omega) ⟨Nat.le_refl _, Nat.le_refl _, Nat.zero_le _⟩ hU1.2 (((frM.refl _).trans (frM.scr (by unfold mn; omega))).trans hF1.M) (fun I2 r1 r2 a9 a10 => ?_)
            have hro := sh_out_ok (u := cU K j) (w := K.2 j 4) ⟨hp1, hp2⟩ (D := cg_dip (cU K j) (cT K j) (K.2 j 4)) (cg_dip (cU K j) (cT K j) (K.2 j 4) + 1) 0 (K.2 j 4 + 1, 0, 0) (by omega) ⟨Nat.le_refl _, Nat.zero_le _⟩
            have hrl := sh_out_le (u := cU K j) (w := K.2 j 4) (m := p) (cg_dip (cU K j) (cT K j) (K.2 j 4) + 1) 0 (K.2 j 4 + 1, 0, 0)
            rw [show sh_out (cU K j) (K.2 j 4) p (cg_dip (cU K j) (cT K j) (K.2 j 4) + 1) 0 (K.2 j 4 + 1, 0, 0) = sh_res (cU K j) (K.2 j 4) p (cg_dip (cU K j) (cT K j) (K.2 j 4)) from rfl] at hro hrl ⊢
            refine o_aload_n dX9_shares_153 rfl rfl ?_
            refine o_iload dX9_shares_154 rfl ?_
            refine o_iload dX9_shares_156 rfl ?_
            refine o_iload dX9_shares_158 rfl ?_
            refine o_callV (as := [.int (nI (K.2 j 4)), .int (nI ((sh_res (cU K j) (K.2 j 4) p (cg_dip (cU K j) (cT K j) (K.2 j 4))).2.1)), .int (nI ((sh_res (cU K j) (K.2 j 4) p (cg_dip (cU K j) (cT K j) (K.2 j 4))).2.2))]) (st := []) dX9_shares_160 (c_mostBy (u := cU K j) (by omega) (by omega) (by omega) (fun q hq => r1 q (by omega)) (fun q hq => hul q (by omega)) (hmono _ _ hro.1)) rfl meX9_mostBy imX9_mostBy seX9_mostBy mlX9_155 sh_106 rfl rfl (by omega) (by decide) (Nat.le_of_ble_eq_true rfl) ?_
            rintro _ _ ⟨rfl, rfl⟩
            refine o_pop dX9_shares_163 rfl ?_
            refine o_iload_n dX9_shares_164 rfl rfl ?_
            refine o_iconst (v := (-1)) dX9_shares_165 (by decide) ?_
            refine o_icmp_ne (tgt := 174) dX9_shares_166 (by decide) (fun b_13 => absurd b_13 (fun q => q rfl)) (fun b_13 => ?_)
            refine o_iload dX9_shares_169 rfl ?_
            refine o_goto (tgt := 209) dX9_shares_171 (by decide) ?_
            exact o_iret dX9_shares_209 rfl ⟨by simp only [sp_shares, cg_ix_some hj (by omega : K.1 ≤ 2 ^ 31), cg_in_some hp1 hp2 (by omega : (3 : Nat) < 2 ^ 31)]; rw [if_pos trivial, if_neg (by omega)], ((r2.trans (frM.scr (by unfold mn; omega))).trans (frM.scr (by unfold mn; omega)))⟩
          · refine o_bipush (v := (-2)) dX9_shares_56 (by decide) ?_
            exact o_iret dX9_shares_58 rfl ⟨by simp only [sp_shares, cg_ix_some hj (by omega : K.1 ≤ 2 ^ 31), cg_in_some hp1 hp2 (by omega : (3 : Nat) < 2 ^ 31)]; rw [if_pos trivial, if_pos (by omega)], ((frM.refl _).trans (frM.scr (by unfold mn; omega)))⟩
        · refine o_iload_n dX9_shares_36 rfl rfl ?_
          refine o_iconst (v := nI 1) dX9_shares_37 (by decide) ?_
          refine o_icmp_ne (tgt := 43) dX9_shares_38 (by decide) (fun b_14 => ?_) (fun b_14 => absurd b_14 (by decide))
          refine o_aload_n dX9_shares_43 rfl rfl ?_
          refine o_iload_n dX9_shares_44 rfl rfl ?_
          refine o_iconst (v := nI 4) dX9_shares_45 (by decide) ?_
          refine o_callVp (v := .int (nI (K.2 j 4))) (as := [.int (nI j), .int (nI 4)]) (st := []) dX9_shares_46 (c_ofK (hK.frM ((frM.refl _).trans (frM.scr (by unfold mn; omega)))) hn hj (by decide)) rfl meX9_of imX9_of seX9_of mlX9_103 sh_106 rfl rfl (by omega) (by decide) (Nat.le_of_ble_eq_true rfl) ?_
          refine o_istore dX9_shares_49 (by decide) ?_
          have hq := hok.2 j hj
          have hT := hq.lT
          have hH := hq.l2
          have hw := hq.w
          have hUl : ∀ y, y ≤ 40 → cU K j y ≤ 67200 := fun y hy => hq.lU hy
          obtain ⟨q0, q1, q2, q3, q4, q5, q6, q7⟩ := id hq
          refine o_iload dX9_shares_51 rfl ?_
          refine o_ifN_ne (tgt := 59) dX9_shares_53 (by decide) (by omega) (fun b_15 => ?_) (fun b_15 => ?_)
          · refine o_aload_n dX9_shares_59 rfl rfl ?_
            refine o_iload_n dX9_shares_60 rfl rfl ?_
            refine o_callV (as := [.int (nI j)]) (st := []) dX9_shares_61 (c_laysNow (hK.frM ((frM.refl _).trans (frM.scr (by unfold mn; omega)))) hok hj) rfl meX9_laysNow imX9_laysNow seX9_laysNow mlX9_120 sh_106 rfl rfl (by omega) (by decide) (Nat.le_of_ble_eq_true rfl) ?_
            rintro _ I1 ⟨rfl, hU1, hF1⟩
            have hq := hok.2 j hj
            have hT := hq.lT
            have hH := hq.l2
            have hw := hq.w
            have hUl : ∀ y, y ≤ 40 → cU K j y ≤ 67200 := fun y hy => hq.lU hy
            obtain ⟨q0, q1, q2, q3, q4, q5, q6, q7⟩ := id hq
            refine o_iload dX9_shares_64 rfl ?_
            refine o_iconst (v := nI 1) dX9_shares_66 (by decide) ?_
            refine o_iaddN dX9_shares_67 ?_
            refine o_istore dX9_shares_68 (by decide) ?_
            refine o_iconst (v := nI 0) dX9_shares_70 (by decide) ?_
            refine o_istore dX9_shares_71 (by decide) ?_
            refine o_iconst (v := nI 0) dX9_shares_73 (by decide) ?_
            refine o_istore dX9_shares_74 (by decide) ?_
            refine o_iconst (v := nI 0) dX9_shares_76 (by decide) ?_
            refine o_istore dX9_shares_77 (by decide) ?_
            have hul : ∀ q, q ≤ cT K j → cU K j q < 2 ^ 31 := fun q hq => by have := hUl q (by omega); omega
            have hmono : ∀ a b, a ≤ b → cU K j a ≤ cU K j b := fun a b h => cg_U_mono h
            have hDT := cg_dip_le (cU K j) (cT K j) (K.2 j 4)
            refine lp_shares (I0 := I) (u := cU K j) (T := cT K j) (by omega) ⟨hp1, hp2⟩ (by omega) hT hul hmono hw (cg_dip (cU K j) (cT K j) (K.2 j 4) + 1) 0 (K.2 j 4 + 1, 0, 0) I1 none none (by omega) ⟨Nat.le_refl _, Nat.le_refl _, Nat.zero_le _⟩ hU1.2 (((frM.refl _).trans (frM.scr (by unfold mn; omega))).trans hF1.M) (fun I2 r1 r2 a9 a10 => ?_)
            have hro := sh_out_ok (u := cU K j) (w := K.2 j 4) ⟨hp1, hp2⟩ (D := cg_dip (cU K j) (cT K j) (K.2 j 4)) (cg_dip (cU K j) (cT K j) (K.2 j 4) + 1) 0 (K.2 j 4 + 1, 0, 0) (by omega) ⟨Nat.le_refl _, Nat.zero_le _⟩
            have hrl := sh_out_le (u := cU K j) (w := K.2 j 4) (m := p) (cg_dip (cU K j) (cT K j) (K.2 j 4) + 1) 0 (K.2 j 4 + 1, 0, 0)
            rw [show sh_out (cU K j) (K.2 j 4) p (cg_dip (cU K j) (cT K j) (K.2 j 4) + 1) 0 (K.2 j 4 + 1, 0, 0) = sh_res (cU K j) (K.2 j 4) p (cg_dip (cU K j) (cT K j) (K.2 j 4)) from rfl] at hro hrl ⊢
            refine o_aload_n dX9_shares_153 rfl rfl ?_
            refine o_iload dX9_shares_154 rfl ?_
            refine o_iload dX9_shares_156 rfl ?_
            refine o_iload dX9_shares_158 rfl ?_
            refine o_callV (as := [.int (nI (K.2 j 4)), .int (nI ((sh_res (cU K j) (K.2 j 4) p (cg_dip (cU K j) (cT K j) (K.2 j 4))).2.1)), .int (nI ((sh_res (cU K j) (K.2 j 4) p (cg_dip (cU K j) (cT K j) (K.2 j 4))).2.2))]) (st := []) dX9_shares_160 (c_mostBy (u := cU K j) (by omega) (by omega) (by omega) (fun q hq => r1 q (by omega)) (fun q hq => hul q (by omega)) (hmono _ _ hro.1)) rfl meX9_mostBy imX9_mostBy seX9_mostBy mlX9_155 sh_106 rfl rfl (by omega) (by decide) (Nat.le_of_ble_eq_true rfl) ?_
            rintro _ _ ⟨rfl, rfl⟩
            refine o_pop dX9_shares_163 rfl ?_
            refine o_iload_n dX9_shares_164 rfl rfl ?_
            refine o_iconst (v := (-1)) dX9_shares_165 (by decide) ?_
            refine o_icmp_ne (tgt := 174) dX9_shares_166 (by decide) (fun b_16 => absurd b_16 (fun q => q rfl)) (fun b_16 => ?_)
            refine o_iload dX9_shares_169 rfl ?_
            refine o_goto (tgt := 209) dX9_shares_171 (by decide) ?_
            exact o_iret dX9_shares_209 rfl ⟨by simp only [sp_shares, cg_ix_some hj (by omega : K.1 ≤ 2 ^ 31), cg_in_some hp1 hp2 (by omega : (3 : Nat) < 2 ^ 31)]; rw [if_pos trivial, if_neg (by omega)], ((r2.trans (frM.scr (by unfold mn; omega))).trans (frM.scr (by unfold mn; omega)))⟩
          · refine o_bipush (v := (-2)) dX9_shares_56 (by decide) ?_
            exact o_iret dX9_shares_58 rfl ⟨by simp only [sp_shares, cg_ix_some hj (by omega : K.1 ≤ 2 ^ 31), cg_in_some hp1 hp2 (by omega : (3 : Nat) < 2 ^ 31)]; rw [if_pos trivial, if_pos (by omega)], ((frM.refl _).trans (frM.scr (by unfold mn; omega)))⟩
      · refine o_ifN_eq (tgt := 41) dX9_shares_19 (by decide) (by omega) (fun b_17 => ?_) (fun b_17 => absurd b_17 (by omega))
        refine o_iconst (v := (-1)) dX9_shares_41 (by decide) ?_
        exact o_iret dX9_shares_42 rfl ⟨by simp only [sp_shares, cg_ix_some hj (by omega : K.1 ≤ 2 ^ 31), cg_in_none (by omega) (by omega : (3 : Nat) < 2 ^ 31) hno2], ((frM.refl _).trans (frM.scr (by unfold mn; omega)))⟩
    · refine o_ifN_eq (tgt := 41) dX9_shares_10 (by decide) (by omega) (fun b_18 => ?_) (fun b_18 => absurd b_18 (by omega))
      refine o_iconst (v := (-1)) dX9_shares_41 (by decide) ?_
      exact o_iret dX9_shares_42 rfl ⟨by simp only [sp_shares, hno], ((frM.refl _).trans (frM.scr (by unfold mn; omega)))⟩
  · rcases (show e = 0 ∨ e = 1 ∨ e = 2 ∨ e = 3 by omega) with rfl | rfl | rfl | rfl
    · refine o_aload_n dX9_shares_0 rfl rfl ?_
      refine o_iconst (v := nI 0) dX9_shares_1 (by decide) ?_
      refine o_putI dX9_shares_2 flX9_39 sh_106 rfl ?_
      refine o_aload_n dX9_shares_5 rfl rfl ?_
      refine o_iload_n dX9_shares_6 rfl rfl ?_
      refine o_callV (as := [.int c]) (st := []) dX9_shares_7 (c_isCask (hK.frM ((frM.refl _).trans (frM.scr (by unfold mn; omega)))) hok c) rfl meX9_isCask imX9_isCask seX9_isCask mlX9_127 sh_106 rfl rfl (by omega) (by decide) (Nat.le_of_ble_eq_true rfl) ?_
      rintro _ _ ⟨rfl, ⟨j, hj, rfl, rfl⟩ | ⟨hno, rfl⟩⟩
      · refine o_ifN_eq (tgt := 41) dX9_shares_10 (by decide) (by omega) (fun b_19 => absurd b_19 (by omega)) (fun b_19 => ?_)
        refine o_iload_n dX9_shares_13 rfl rfl ?_
        refine o_iconst (v := nI 2) dX9_shares_14 (by decide) ?_
        refine o_iconst (v := nI 3) dX9_shares_15 (by decide) ?_
        refine o_callS (as := [.int m, .int (nI 2), .int (nI 3)]) (st := []) dX9_shares_16 (c_in _ _ _ _) rfl meX9_in ssX9_in mlX9_43 (by omega) (by decide) (Nat.le_of_ble_eq_true rfl) ?_
        rintro _ _ ⟨rfl, ⟨hpa, hpb, rfl⟩ | ⟨hno2, rfl⟩⟩
        · obtain ⟨p, hp1, hp2, rfl⟩ := in_nat (by omega) (by omega) hpa hpb
          refine o_ifN_eq (tgt := 41) dX9_shares_19 (by decide) (by omega) (fun b_20 => absurd b_20 (by omega)) (fun b_20 => ?_)
          refine o_iload_n dX9_shares_22 rfl rfl ?_
          refine o_iconst (v := (-1)) dX9_shares_23 (by decide) ?_
          refine o_iconst (v := nI 3) dX9_shares_24 (by decide) ?_
          refine o_callSp (v := .int (nI 1)) (as := [.int (nI 0), .int (-1), .int (nI 3)]) (st := []) dX9_shares_25 (c_inY _ hz1 hz2) rfl meX9_in ssX9_in mlX9_43 (by omega) (by decide) (Nat.le_of_ble_eq_true rfl) ?_
          refine o_ifN_eq (tgt := 41) dX9_shares_28 (by decide) (by omega) (fun b_21 => absurd b_21 (by omega)) (fun b_21 => ?_)
          refine o_iload_n dX9_shares_31 rfl rfl ?_
          refine o_iconst (v := nI 2) dX9_shares_32 (by decide) ?_
          refine o_icmpN_ne (tgt := 43) dX9_shares_33 (by decide) (by omega) (by omega) (fun b_22 => ?_) (fun b_22 => ?_)
          · refine o_aload_n dX9_shares_43 rfl rfl ?_
            refine o_iload_n dX9_shares_44 rfl rfl ?_
            refine o_iconst (v := nI 4) dX9_shares_45 (by decide) ?_
            refine o_callVp (v := .int (nI (K.2 j 4))) (as := [.int (nI j), .int (nI 4)]) (st := []) dX9_shares_46 (c_ofK (hK.frM ((frM.refl _).trans (frM.scr (by unfold mn; omega)))) hn hj (by decide)) rfl meX9_of imX9_of seX9_of mlX9_103 sh_106 rfl rfl (by omega) (by decide) (Nat.le_of_ble_eq_true rfl) ?_
            refine o_istore dX9_shares_49 (by decide) ?_
            have hq := hok.2 j hj
            have hT := hq.lT
            have hH := hq.l2
            have hw := hq.w
            have hUl : ∀ y, y ≤ 40 → cU K j y ≤ 67200 := fun y hy => hq.lU hy
            obtain ⟨q0, q1, q2, q3, q4, q5, q6, q7⟩ := id hq
            refine o_iload dX9_shares_51 rfl ?_
            refine o_ifN_ne (tgt := 59) dX9_shares_53 (by decide) (by omega) (fun b_23 => ?_) (fun b_23 => ?_)
            · refine o_aload_n dX9_shares_59 rfl rfl ?_
              refine o_iload_n dX9_shares_60 rfl rfl ?_
              refine o_callV (as := [.int (nI j)]) (st := []) dX9_shares_61 (c_laysNow (hK.frM ((frM.refl _).trans (frM.scr (by unfold mn; omega)))) hok hj) rfl meX9_laysNow imX9_laysNow seX9_laysNow mlX9_120 sh_106 rfl rfl (by omega) (by decide) (Nat.le_of_ble_eq_true rfl) ?_
              rintro _ I1 ⟨rfl, hU1, hF1⟩
              have hq := hok.2 j hj
              have hT := hq.lT
              have hH := hq.l2
              have hw := hq.w
              have hUl : ∀ y, y ≤ 40 → cU K j y ≤ 67200 := fun y hy => hq.lU hy
              obtain ⟨q0, q1, q2, q3, q4, q5, q6, q7⟩ := id hq
              refine o_iload dX9_shares_64 rfl ?_
              refine o_iconst (v := nI 1) dX9_shares_66 (by decide) ?_
              refine o_iaddN dX9_shares_67 ?_
              refine o_istore dX9_shares_68 (by decide) ?_
              refine o_iconst (v := nI 0) dX9_shares_70 (by decide) ?_
              refine o_istore dX9_shares_71 (by decide) ?_
              refine o_iconst (v := nI 0) dX9_shares_73 (by decide) ?_
              refine o_istore dX9_shares_74 (by decide) ?_
              refine o_iconst (v := nI 0) dX9_shares_76 (by decide) ?_
              refine o_istore dX9_shares_77 (by decide) ?_
              have hul : ∀ q, q ≤ cT K j → cU K j q < 2 ^ 31 := fun q hq => by have := hUl q (by omega); omega
              have hmono : ∀ a b, a ≤ b → cU K j a ≤ cU K j b := fun a b h => cg_U_mono h
              have hDT := cg_dip_le (cU K j) (cT K j) (K.2 j 4)
              refine lp_shares (I0 := I) (u := cU K j) (T := cT K j) (by omega) ⟨hp1, hp2⟩ (by omega) hT hul hmono hw (cg_dip (cU K j) (cT K j) (K.2 j 4) + 1) 0 (K.2 j 4 + 1, 0, 0) I1 none none (by omega) ⟨Nat.le_refl _, Nat.le_refl _, Nat.zero_le _⟩ hU1.2 (((frM.refl _).trans (frM.scr (by unfold mn; omega))).trans hF1.M) (fun I2 r1 r2 a9 a10 => ?_)
              have hro := sh_out_ok (u := cU K j) (w := K.2 j 4) ⟨hp1, hp2⟩ (D := cg_dip (cU K j) (cT K j) (K.2 j 4)) (cg_dip (cU K j) (cT K j) (K.2 j 4) + 1) 0 (K.2 j 4 + 1, 0, 0) (by omega) ⟨Nat.le_refl _, Nat.zero_le _⟩
              have hrl := sh_out_le (u := cU K j) (w := K.2 j 4) (m := p) (cg_dip (cU K j) (cT K j) (K.2 j 4) + 1) 0 (K.2 j 4 + 1, 0, 0)
              rw [show sh_out (cU K j) (K.2 j 4) p (cg_dip (cU K j) (cT K j) (K.2 j 4) + 1) 0 (K.2 j 4 + 1, 0, 0) = sh_res (cU K j) (K.2 j 4) p (cg_dip (cU K j) (cT K j) (K.2 j 4)) from rfl] at hro hrl ⊢
              refine o_aload_n dX9_shares_153 rfl rfl ?_
              refine o_iload dX9_shares_154 rfl ?_
              refine o_iload dX9_shares_156 rfl ?_
              refine o_iload dX9_shares_158 rfl ?_
              refine o_callV (as := [.int (nI (K.2 j 4)), .int (nI ((sh_res (cU K j) (K.2 j 4) p (cg_dip (cU K j) (cT K j) (K.2 j 4))).2.1)), .int (nI ((sh_res (cU K j) (K.2 j 4) p (cg_dip (cU K j) (cT K j) (K.2 j 4))).2.2))]) (st := []) dX9_shares_160 (c_mostBy (u := cU K j) (by omega) (by omega) (by omega) (fun q hq => r1 q (by omega)) (fun q hq => hul q (by omega)) (hmono _ _ hro.1)) rfl meX9_mostBy imX9_mostBy seX9_mostBy mlX9_155 sh_106 rfl rfl (by omega) (by decide) (Nat.le_of_ble_eq_true rfl) ?_
              rintro _ _ ⟨rfl, rfl⟩
              refine o_pop dX9_shares_163 rfl ?_
              refine o_iload_n dX9_shares_164 rfl rfl ?_
              refine o_iconst (v := (-1)) dX9_shares_165 (by decide) ?_
              refine o_icmp_ne (tgt := 174) dX9_shares_166 (by decide) (fun b_24 => ?_) (fun b_24 => absurd b_24 (fun q => hne q))
              refine o_iload_n dX9_shares_174 rfl rfl ?_
              refine o_ifN_ne (tgt := 183) dX9_shares_175 (by decide) (by omega) (fun b_25 => absurd b_25 (by omega)) (fun b_25 => ?_)
              refine o_iload dX9_shares_178 rfl ?_
              refine o_goto (tgt := 209) dX9_shares_180 (by decide) ?_
              exact o_iret dX9_shares_209 rfl ⟨by simp only [sp_shares, cg_ix_some hj (by omega : K.1 ≤ 2 ^ 31), cg_in_some hp1 hp2 (by omega : (3 : Nat) < 2 ^ 31), if_neg hne, hx]; rw [if_neg (by omega), if_neg (by omega), if_pos trivial], ((r2.trans (frM.scr (by unfold mn; omega))).trans (frM.scr (by unfold mn; omega)))⟩
            · refine o_bipush (v := (-2)) dX9_shares_56 (by decide) ?_
              exact o_iret dX9_shares_58 rfl ⟨by simp only [sp_shares, cg_ix_some hj (by omega : K.1 ≤ 2 ^ 31), cg_in_some hp1 hp2 (by omega : (3 : Nat) < 2 ^ 31), if_neg hne, hx]; rw [if_neg (by omega), if_pos (by omega)], ((frM.refl _).trans (frM.scr (by unfold mn; omega)))⟩
          · refine o_iload_n dX9_shares_36 rfl rfl ?_
            refine o_iconst (v := nI 1) dX9_shares_37 (by decide) ?_
            refine o_icmpN_ne (tgt := 43) dX9_shares_38 (by decide) (by omega) (by omega) (fun b_26 => ?_) (fun b_26 => absurd b_26 (by omega))
            refine o_aload_n dX9_shares_43 rfl rfl ?_
            refine o_iload_n dX9_shares_44 rfl rfl ?_
            refine o_iconst (v := nI 4) dX9_shares_45 (by decide) ?_
            refine o_callVp (v := .int (nI (K.2 j 4))) (as := [.int (nI j), .int (nI 4)]) (st := []) dX9_shares_46 (c_ofK (hK.frM ((frM.refl _).trans (frM.scr (by unfold mn; omega)))) hn hj (by decide)) rfl meX9_of imX9_of seX9_of mlX9_103 sh_106 rfl rfl (by omega) (by decide) (Nat.le_of_ble_eq_true rfl) ?_
            refine o_istore dX9_shares_49 (by decide) ?_
            have hq := hok.2 j hj
            have hT := hq.lT
            have hH := hq.l2
            have hw := hq.w
            have hUl : ∀ y, y ≤ 40 → cU K j y ≤ 67200 := fun y hy => hq.lU hy
            obtain ⟨q0, q1, q2, q3, q4, q5, q6, q7⟩ := id hq
            refine o_iload dX9_shares_51 rfl ?_
            refine o_ifN_ne (tgt := 59) dX9_shares_53 (by decide) (by omega) (fun b_27 => ?_) (fun b_27 => ?_)
            · refine o_aload_n dX9_shares_59 rfl rfl ?_
              refine o_iload_n dX9_shares_60 rfl rfl ?_
              refine o_callV (as := [.int (nI j)]) (st := []) dX9_shares_61 (c_laysNow (hK.frM ((frM.refl _).trans (frM.scr (by unfold mn; omega)))) hok hj) rfl meX9_laysNow imX9_laysNow seX9_laysNow mlX9_120 sh_106 rfl rfl (by omega) (by decide) (Nat.le_of_ble_eq_true rfl) ?_
              rintro _ I1 ⟨rfl, hU1, hF1⟩
              have hq := hok.2 j hj
              have hT := hq.lT
              have hH := hq.l2
              have hw := hq.w
              have hUl : ∀ y, y ≤ 40 → cU K j y ≤ 67200 := fun y hy => hq.lU hy
              obtain ⟨q0, q1, q2, q3, q4, q5, q6, q7⟩ := id hq
              refine o_iload dX9_shares_64 rfl ?_
              refine o_iconst (v := nI 1) dX9_shares_66 (by decide) ?_
              refine o_iaddN dX9_shares_67 ?_
              refine o_istore dX9_shares_68 (by decide) ?_
              refine o_iconst (v := nI 0) dX9_shares_70 (by decide) ?_
              refine o_istore dX9_shares_71 (by decide) ?_
              refine o_iconst (v := nI 0) dX9_shares_73 (by decide) ?_
              refine o_istore dX9_shares_74 (by decide) ?_
              refine o_iconst (v := nI 0) dX9_shares_76 (by decide) ?_
              refine o_istore dX9_shares_77 (by decide) ?_
              have hul : ∀ q, q ≤ cT K j → cU K j q < 2 ^ 31 := fun q hq => by have := hUl q (by omega); omega
              have hmono : ∀ a b, a ≤ b → cU K j a ≤ cU K j b := fun a b h => cg_U_mono h
              have hDT := cg_dip_le (cU K j) (cT K j) (K.2 j 4)
              refine lp_shares (I0 := I) (u := cU K j) (T := cT K j) (by omega) ⟨hp1, hp2⟩ (by omega) hT hul hmono hw (cg_dip (cU K j) (cT K j) (K.2 j 4) + 1) 0 (K.2 j 4 + 1, 0, 0) I1 none none (by omega) ⟨Nat.le_refl _, Nat.le_refl _, Nat.zero_le _⟩ hU1.2 (((frM.refl _).trans (frM.scr (by unfold mn; omega))).trans hF1.M) (fun I2 r1 r2 a9 a10 => ?_)
              have hro := sh_out_ok (u := cU K j) (w := K.2 j 4) ⟨hp1, hp2⟩ (D := cg_dip (cU K j) (cT K j) (K.2 j 4)) (cg_dip (cU K j) (cT K j) (K.2 j 4) + 1) 0 (K.2 j 4 + 1, 0, 0) (by omega) ⟨Nat.le_refl _, Nat.zero_le _⟩
              have hrl := sh_out_le (u := cU K j) (w := K.2 j 4) (m := p) (cg_dip (cU K j) (cT K j) (K.2 j 4) + 1) 0 (K.2 j 4 + 1, 0, 0)
              rw [show sh_out (cU K j) (K.2 j 4) p (cg_dip (cU K j) (cT K j) (K.2 j 4) + 1) 0 (K.2 j 4 + 1, 0, 0) = sh_res (cU K j) (K.2 j 4) p (cg_dip (cU K j) (cT K j) (K.2 j 4)) from rfl] at hro hrl ⊢
              refine o_aload_n dX9_shares_153 rfl rfl ?_
              refine o_iload dX9_shares_154 rfl ?_
              refine o_iload dX9_shares_156 rfl ?_
              refine o_iload dX9_shares_158 rfl ?_
              refine o_callV (as := [.int (nI (K.2 j 4)), .int (nI ((sh_res (cU K j) (K.2 j 4) p (cg_dip (cU K j) (cT K j) (K.2 j 4))).2.1)), .int (nI ((sh_res (cU K j) (K.2 j 4) p (cg_dip (cU K j) (cT K j) (K.2 j 4))).2.2))]) (st := []) dX9_shares_160 (c_mostBy (u := cU K j) (by omega) (by omega) (by omega) (fun q hq => r1 q (by omega)) (fun q hq => hul q (by omega)) (hmono _ _ hro.1)) rfl meX9_mostBy imX9_mostBy seX9_mostBy mlX9_155 sh_106 rfl rfl (by omega) (by decide) (Nat.le_of_ble_eq_true rfl) ?_
              rintro _ _ ⟨rfl, rfl⟩
              refine o_pop dX9_shares_163 rfl ?_
              refine o_iload_n dX9_shares_164 rfl rfl ?_
              refine o_iconst (v := (-1)) dX9_shares_165 (by decide) ?_
              refine o_icmp_ne (tgt := 174) dX9_shares_166 (by decide) (fun b_28 => ?_) (fun b_28 => absurd b_28 (fun q => hne q))
              refine o_iload_n dX9_shares_174 rfl rfl ?_
              refine o_ifN_ne (tgt := 183) dX9_shares_175 (by decide) (by omega) (fun b_29 => absurd b_29 (by omega)) (fun b_29 => ?_)
              refine o_iload dX9_shares_178 rfl ?_
              refine o_goto (tgt := 209) dX9_shares_180 (by decide) ?_
              exact o_iret dX9_shares_209 rfl ⟨by simp only [sp_shares, cg_ix_some hj (by omega : K.1 ≤ 2 ^ 31), cg_in_some hp1 hp2 (by omega : (3 : Nat) < 2 ^ 31), if_neg hne, hx]; rw [if_neg (by omega), if_neg (by omega), if_pos trivial], ((r2.trans (frM.scr (by unfold mn; omega))).trans (frM.scr (by unfold mn; omega)))⟩
            · refine o_bipush (v := (-2)) dX9_shares_56 (by decide) ?_
              exact o_iret dX9_shares_58 rfl ⟨by simp only [sp_shares, cg_ix_some hj (by omega : K.1 ≤ 2 ^ 31), cg_in_some hp1 hp2 (by omega : (3 : Nat) < 2 ^ 31), if_neg hne, hx]; rw [if_neg (by omega), if_pos (by omega)], ((frM.refl _).trans (frM.scr (by unfold mn; omega)))⟩
        · refine o_ifN_eq (tgt := 41) dX9_shares_19 (by decide) (by omega) (fun b_30 => ?_) (fun b_30 => absurd b_30 (by omega))
          refine o_iconst (v := (-1)) dX9_shares_41 (by decide) ?_
          exact o_iret dX9_shares_42 rfl ⟨by simp only [sp_shares, cg_ix_some hj (by omega : K.1 ≤ 2 ^ 31), cg_in_none (by omega) (by omega : (3 : Nat) < 2 ^ 31) hno2], ((frM.refl _).trans (frM.scr (by unfold mn; omega)))⟩
      · refine o_ifN_eq (tgt := 41) dX9_shares_10 (by decide) (by omega) (fun b_31 => ?_) (fun b_31 => absurd b_31 (by omega))
        refine o_iconst (v := (-1)) dX9_shares_41 (by decide) ?_
        exact o_iret dX9_shares_42 rfl ⟨by simp only [sp_shares, hno], ((frM.refl _).trans (frM.scr (by unfold mn; omega)))⟩
    · refine o_aload_n dX9_shares_0 rfl rfl ?_
      refine o_iconst (v := nI 0) dX9_shares_1 (by decide) ?_
      refine o_putI dX9_shares_2 flX9_39 sh_106 rfl ?_
      refine o_aload_n dX9_shares_5 rfl rfl ?_
      refine o_iload_n dX9_shares_6 rfl rfl ?_
      refine o_callV (as := [.int c]) (st := []) dX9_shares_7 (c_isCask (hK.frM ((frM.refl _).trans (frM.scr (by unfold mn; omega)))) hok c) rfl meX9_isCask imX9_isCask seX9_isCask mlX9_127 sh_106 rfl rfl (by omega) (by decide) (Nat.le_of_ble_eq_true rfl) ?_
      rintro _ _ ⟨rfl, ⟨j, hj, rfl, rfl⟩ | ⟨hno, rfl⟩⟩
      · refine o_ifN_eq (tgt := 41) dX9_shares_10 (by decide) (by omega) (fun b_32 => absurd b_32 (by omega)) (fun b_32 => ?_)
        refine o_iload_n dX9_shares_13 rfl rfl ?_
        refine o_iconst (v := nI 2) dX9_shares_14 (by decide) ?_
        refine o_iconst (v := nI 3) dX9_shares_15 (by decide) ?_
        refine o_callS (as := [.int m, .int (nI 2), .int (nI 3)]) (st := []) dX9_shares_16 (c_in _ _ _ _) rfl meX9_in ssX9_in mlX9_43 (by omega) (by decide) (Nat.le_of_ble_eq_true rfl) ?_
        rintro _ _ ⟨rfl, ⟨hpa, hpb, rfl⟩ | ⟨hno2, rfl⟩⟩
        · obtain ⟨p, hp1, hp2, rfl⟩ := in_nat (by omega) (by omega) hpa hpb
          refine o_ifN_eq (tgt := 41) dX9_shares_19 (by decide) (by omega) (fun b_33 => absurd b_33 (by omega)) (fun b_33 => ?_)
          refine o_iload_n dX9_shares_22 rfl rfl ?_
          refine o_iconst (v := (-1)) dX9_shares_23 (by decide) ?_
          refine o_iconst (v := nI 3) dX9_shares_24 (by decide) ?_
          refine o_callSp (v := .int (nI 1)) (as := [.int (nI 1), .int (-1), .int (nI 3)]) (st := []) dX9_shares_25 (c_inY _ hz1 hz2) rfl meX9_in ssX9_in mlX9_43 (by omega) (by decide) (Nat.le_of_ble_eq_true rfl) ?_
          refine o_ifN_eq (tgt := 41) dX9_shares_28 (by decide) (by omega) (fun b_34 => absurd b_34 (by omega)) (fun b_34 => ?_)
          refine o_iload_n dX9_shares_31 rfl rfl ?_
          refine o_iconst (v := nI 2) dX9_shares_32 (by decide) ?_
          refine o_icmpN_ne (tgt := 43) dX9_shares_33 (by decide) (by omega) (by omega) (fun b_35 => ?_) (fun b_35 => ?_)
          · refine o_aload_n dX9_shares_43 rfl rfl ?_
            refine o_iload_n dX9_shares_44 rfl rfl ?_
            refine o_iconst (v := nI 4) dX9_shares_45 (by decide) ?_
            refine o_callVp (v := .int (nI (K.2 j 4))) (as := [.int (nI j), .int (nI 4)]) (st := []) dX9_shares_46 (c_ofK (hK.frM ((frM.refl _).trans (frM.scr (by unfold mn; omega)))) hn hj (by decide)) rfl meX9_of imX9_of seX9_of mlX9_103 sh_106 rfl rfl (by omega) (by decide) (Nat.le_of_ble_eq_true rfl) ?_
            refine o_istore dX9_shares_49 (by decide) ?_
            have hq := hok.2 j hj
            have hT := hq.lT
            have hH := hq.l2
            have hw := hq.w
            have hUl : ∀ y, y ≤ 40 → cU K j y ≤ 67200 := fun y hy => hq.lU hy
            obtain ⟨q0, q1, q2, q3, q4, q5, q6, q7⟩ := id hq
            refine o_iload dX9_shares_51 rfl ?_
            refine o_ifN_ne (tgt := 59) dX9_shares_53 (by decide) (by omega) (fun b_36 => ?_) (fun b_36 => ?_)
            · refine o_aload_n dX9_shares_59 rfl rfl ?_
              refine o_iload_n dX9_shares_60 rfl rfl ?_
              refine o_callV (as := [.int (nI j)]) (st := []) dX9_shares_61 (c_laysNow (hK.frM ((frM.refl _).trans (frM.scr (by unfold mn; omega)))) hok hj) rfl meX9_laysNow imX9_laysNow seX9_laysNow mlX9_120 sh_106 rfl rfl (by omega) (by decide) (Nat.le_of_ble_eq_true rfl) ?_
              rintro _ I1 ⟨rfl, hU1, hF1⟩
              have hq := hok.2 j hj
              have hT := hq.lT
              have hH := hq.l2
              have hw := hq.w
              have hUl : ∀ y, y ≤ 40 → cU K j y ≤ 67200 := fun y hy => hq.lU hy
              obtain ⟨q0, q1, q2, q3, q4, q5, q6, q7⟩ := id hq
              refine o_iload dX9_shares_64 rfl ?_
              refine o_iconst (v := nI 1) dX9_shares_66 (by decide) ?_
              refine o_iaddN dX9_shares_67 ?_
              refine o_istore dX9_shares_68 (by decide) ?_
              refine o_iconst (v := nI 0) dX9_shares_70 (by decide) ?_
              refine o_istore dX9_shares_71 (by decide) ?_
              refine o_iconst (v := nI 0) dX9_shares_73 (by decide) ?_
              refine o_istore dX9_shares_74 (by decide) ?_
              refine o_iconst (v := nI 0) dX9_shares_76 (by decide) ?_
              refine o_istore dX9_shares_77 (by decide) ?_
              have hul : ∀ q, q ≤ cT K j → cU K j q < 2 ^ 31 := fun q hq => by have := hUl q (by omega); omega
              have hmono : ∀ a b, a ≤ b → cU K j a ≤ cU K j b := fun a b h => cg_U_mono h
              have hDT := cg_dip_le (cU K j) (cT K j) (K.2 j 4)
              refine lp_shares (I0 := I) (u := cU K j) (T := cT K j) (by omega) ⟨hp1, hp2⟩ (by omega) hT hul hmono hw (cg_dip (cU K j) (cT K j) (K.2 j 4) + 1) 0 (K.2 j 4 + 1, 0, 0) I1 none none (by omega) ⟨Nat.le_refl _, Nat.le_refl _, Nat.zero_le _⟩ hU1.2 (((frM.refl _).trans (frM.scr (by unfold mn; omega))).trans hF1.M) (fun I2 r1 r2 a9 a10 => ?_)
              have hro := sh_out_ok (u := cU K j) (w := K.2 j 4) ⟨hp1, hp2⟩ (D := cg_dip (cU K j) (cT K j) (K.2 j 4)) (cg_dip (cU K j) (cT K j) (K.2 j 4) + 1) 0 (K.2 j 4 + 1, 0, 0) (by omega) ⟨Nat.le_refl _, Nat.zero_le _⟩
              have hrl := sh_out_le (u := cU K j) (w := K.2 j 4) (m := p) (cg_dip (cU K j) (cT K j) (K.2 j 4) + 1) 0 (K.2 j 4 + 1, 0, 0)
              rw [show sh_out (cU K j) (K.2 j 4) p (cg_dip (cU K j) (cT K j) (K.2 j 4) + 1) 0 (K.2 j 4 + 1, 0, 0) = sh_res (cU K j) (K.2 j 4) p (cg_dip (cU K j) (cT K j) (K.2 j 4)) from rfl] at hro hrl ⊢
              refine o_aload_n dX9_shares_153 rfl rfl ?_
              refine o_iload dX9_shares_154 rfl ?_
              refine o_iload dX9_shares_156 rfl ?_
              refine o_iload dX9_shares_158 rfl ?_
              refine o_callV (as := [.int (nI (K.2 j 4)), .int (nI ((sh_res (cU K j) (K.2 j 4) p (cg_dip (cU K j) (cT K j) (K.2 j 4))).2.1)), .int (nI ((sh_res (cU K j) (K.2 j 4) p (cg_dip (cU K j) (cT K j) (K.2 j 4))).2.2))]) (st := []) dX9_shares_160 (c_mostBy (u := cU K j) (by omega) (by omega) (by omega) (fun q hq => r1 q (by omega)) (fun q hq => hul q (by omega)) (hmono _ _ hro.1)) rfl meX9_mostBy imX9_mostBy seX9_mostBy mlX9_155 sh_106 rfl rfl (by omega) (by decide) (Nat.le_of_ble_eq_true rfl) ?_
              rintro _ _ ⟨rfl, rfl⟩
              refine o_pop dX9_shares_163 rfl ?_
              refine o_iload_n dX9_shares_164 rfl rfl ?_
              refine o_iconst (v := (-1)) dX9_shares_165 (by decide) ?_
              refine o_icmp_ne (tgt := 174) dX9_shares_166 (by decide) (fun b_37 => ?_) (fun b_37 => absurd b_37 (fun q => hne q))
              refine o_iload_n dX9_shares_174 rfl rfl ?_
              refine o_ifN_ne (tgt := 183) dX9_shares_175 (by decide) (by omega) (fun b_38 => ?_) (fun b_38 => absurd b_38 (by omega))
              refine o_iload_n dX9_shares_183 rfl rfl ?_
              refine o_iconst (v := nI 1) dX9_shares_184 (by decide) ?_
              refine o_icmpN_ne (tgt := 193) dX9_shares_185 (by decide) (by omega) (by omega) (fun b_39 => absurd b_39 (by omega)) (fun b_39 => ?_)
              refine o_iload dX9_shares_188 rfl ?_
              refine o_goto (tgt := 209) dX9_shares_190 (by decide) ?_
              exact o_iret dX9_shares_209 rfl ⟨by simp only [sp_shares, cg_ix_some hj (by omega : K.1 ≤ 2 ^ 31), cg_in_some hp1 hp2 (by omega : (3 : Nat) < 2 ^ 31), if_neg hne, hx]; rw [if_neg (by omega), if_neg (by omega), if_neg (by omega), if_pos trivial], ((r2.trans (frM.scr (by unfold mn; omega))).trans (frM.scr (by unfold mn; omega)))⟩
            · refine o_bipush (v := (-2)) dX9_shares_56 (by decide) ?_
              exact o_iret dX9_shares_58 rfl ⟨by simp only [sp_shares, cg_ix_some hj (by omega : K.1 ≤ 2 ^ 31), cg_in_some hp1 hp2 (by omega : (3 : Nat) < 2 ^ 31), if_neg hne, hx]; rw [if_neg (by omega), if_pos (by omega)], ((frM.refl _).trans (frM.scr (by unfold mn; omega)))⟩
          · refine o_iload_n dX9_shares_36 rfl rfl ?_
            refine o_iconst (v := nI 1) dX9_shares_37 (by decide) ?_
            refine o_icmpN_ne (tgt := 43) dX9_shares_38 (by decide) (by omega) (by omega) (fun b_40 => absurd b_40 (by omega)) (fun b_40 => ?_)
            refine o_iconst (v := (-1)) dX9_shares_41 (by decide) ?_
            exact o_iret dX9_shares_42 rfl ⟨by simp only [sp_shares, cg_ix_some hj (by omega : K.1 ≤ 2 ^ 31), cg_in_some hp1 hp2 (by omega : (3 : Nat) < 2 ^ 31), if_neg hne, hx]; rw [if_pos (by first | exact ⟨by omega, trivial⟩ | (constructor <;> first | omega | trivial))], ((frM.refl _).trans (frM.scr (by unfold mn; omega)))⟩
        · refine o_ifN_eq (tgt := 41) dX9_shares_19 (by decide) (by omega) (fun b_41 => ?_) (fun b_41 => absurd b_41 (by omega))
          refine o_iconst (v := (-1)) dX9_shares_41 (by decide) ?_
          exact o_iret dX9_shares_42 rfl ⟨by simp only [sp_shares, cg_ix_some hj (by omega : K.1 ≤ 2 ^ 31), cg_in_none (by omega) (by omega : (3 : Nat) < 2 ^ 31) hno2], ((frM.refl _).trans (frM.scr (by unfold mn; omega)))⟩
      · refine o_ifN_eq (tgt := 41) dX9_shares_10 (by decide) (by omega) (fun b_42 => ?_) (fun b_42 => absurd b_42 (by omega))
        refine o_iconst (v := (-1)) dX9_shares_41 (by decide) ?_
        exact o_iret dX9_shares_42 rfl ⟨by simp only [sp_shares, hno], ((frM.refl _).trans (frM.scr (by unfold mn; omega)))⟩
    · refine o_aload_n dX9_shares_0 rfl rfl ?_
      refine o_iconst (v := nI 0) dX9_shares_1 (by decide) ?_
      refine o_putI dX9_shares_2 flX9_39 sh_106 rfl ?_
      refine o_aload_n dX9_shares_5 rfl rfl ?_
      refine o_iload_n dX9_shares_6 rfl rfl ?_
      refine o_callV (as := [.int c]) (st := []) dX9_shares_7 (c_isCask (hK.frM ((frM.refl _).trans (frM.scr (by unfold mn; omega)))) hok c) rfl meX9_isCask imX9_isCask seX9_isCask mlX9_127 sh_106 rfl rfl (by omega) (by decide) (Nat.le_of_ble_eq_true rfl) ?_
      rintro _ _ ⟨rfl, ⟨j, hj, rfl, rfl⟩ | ⟨hno, rfl⟩⟩
      · refine o_ifN_eq (tgt := 41) dX9_shares_10 (by decide) (by omega) (fun b_43 => absurd b_43 (by omega)) (fun b_43 => ?_)
        refine o_iload_n dX9_shares_13 rfl rfl ?_
        refine o_iconst (v := nI 2) dX9_shares_14 (by decide) ?_
        refine o_iconst (v := nI 3) dX9_shares_15 (by decide) ?_
        refine o_callS (as := [.int m, .int (nI 2), .int (nI 3)]) (st := []) dX9_shares_16 (c_in _ _ _ _) rfl meX9_in ssX9_in mlX9_43 (by omega) (by decide) (Nat.le_of_ble_eq_true rfl) ?_
        rintro _ _ ⟨rfl, ⟨hpa, hpb, rfl⟩ | ⟨hno2, rfl⟩⟩
        · obtain ⟨p, hp1, hp2, rfl⟩ := in_nat (by omega) (by omega) hpa hpb
          refine o_ifN_eq (tgt := 41) dX9_shares_19 (by decide) (by omega) (fun b_44 => absurd b_44 (by omega)) (fun b_44 => ?_)
          refine o_iload_n dX9_shares_22 rfl rfl ?_
          refine o_iconst (v := (-1)) dX9_shares_23 (by decide) ?_
          refine o_iconst (v := nI 3) dX9_shares_24 (by decide) ?_
          refine o_callSp (v := .int (nI 1)) (as := [.int (nI 2), .int (-1), .int (nI 3)]) (st := []) dX9_shares_25 (c_inY _ hz1 hz2) rfl meX9_in ssX9_in mlX9_43 (by omega) (by decide) (Nat.le_of_ble_eq_true rfl) ?_
          refine o_ifN_eq (tgt := 41) dX9_shares_28 (by decide) (by omega) (fun b_45 => absurd b_45 (by omega)) (fun b_45 => ?_)
          refine o_iload_n dX9_shares_31 rfl rfl ?_
          refine o_iconst (v := nI 2) dX9_shares_32 (by decide) ?_
          refine o_icmpN_ne (tgt := 43) dX9_shares_33 (by decide) (by omega) (by omega) (fun b_46 => ?_) (fun b_46 => ?_)
          · refine o_aload_n dX9_shares_43 rfl rfl ?_
            refine o_iload_n dX9_shares_44 rfl rfl ?_
            refine o_iconst (v := nI 4) dX9_shares_45 (by decide) ?_
            refine o_callVp (v := .int (nI (K.2 j 4))) (as := [.int (nI j), .int (nI 4)]) (st := []) dX9_shares_46 (c_ofK (hK.frM ((frM.refl _).trans (frM.scr (by unfold mn; omega)))) hn hj (by decide)) rfl meX9_of imX9_of seX9_of mlX9_103 sh_106 rfl rfl (by omega) (by decide) (Nat.le_of_ble_eq_true rfl) ?_
            refine o_istore dX9_shares_49 (by decide) ?_
            have hq := hok.2 j hj
            have hT := hq.lT
            have hH := hq.l2
            have hw := hq.w
            have hUl : ∀ y, y ≤ 40 → cU K j y ≤ 67200 := fun y hy => hq.lU hy
            obtain ⟨q0, q1, q2, q3, q4, q5, q6, q7⟩ := id hq
            refine o_iload dX9_shares_51 rfl ?_
            refine o_ifN_ne (tgt := 59) dX9_shares_53 (by decide) (by omega) (fun b_47 => ?_) (fun b_47 => ?_)
            · refine o_aload_n dX9_shares_59 rfl rfl ?_
              refine o_iload_n dX9_shares_60 rfl rfl ?_
              refine o_callV (as := [.int (nI j)]) (st := []) dX9_shares_61 (c_laysNow (hK.frM ((frM.refl _).trans (frM.scr (by unfold mn; omega)))) hok hj) rfl meX9_laysNow imX9_laysNow seX9_laysNow mlX9_120 sh_106 rfl rfl (by omega) (by decide) (Nat.le_of_ble_eq_true rfl) ?_
              rintro _ I1 ⟨rfl, hU1, hF1⟩
              have hq := hok.2 j hj
              have hT := hq.lT
              have hH := hq.l2
              have hw := hq.w
              have hUl : ∀ y, y ≤ 40 → cU K j y ≤ 67200 := fun y hy => hq.lU hy
              obtain ⟨q0, q1, q2, q3, q4, q5, q6, q7⟩ := id hq
              refine o_iload dX9_shares_64 rfl ?_
              refine o_iconst (v := nI 1) dX9_shares_66 (by decide) ?_
              refine o_iaddN dX9_shares_67 ?_
              refine o_istore dX9_shares_68 (by decide) ?_
              refine o_iconst (v := nI 0) dX9_shares_70 (by decide) ?_
              refine o_istore dX9_shares_71 (by decide) ?_
              refine o_iconst (v := nI 0) dX9_shares_73 (by decide) ?_
              refine o_istore dX9_shares_74 (by decide) ?_
              refine o_iconst (v := nI 0) dX9_shares_76 (by decide) ?_
              refine o_istore dX9_shares_77 (by decide) ?_
              have hul : ∀ q, q ≤ cT K j → cU K j q < 2 ^ 31 := fun q hq => by have := hUl q (by omega); omega
              have hmono : ∀ a b, a ≤ b → cU K j a ≤ cU K j b := fun a b h => cg_U_mono h
              have hDT := cg_dip_le (cU K j) (cT K j) (K.2 j 4)
              refine lp_shares (I0 := I) (u := cU K j) (T := cT K j) (by omega) ⟨hp1, hp2⟩ (by omega) hT hul hmono hw (cg_dip (cU K j) (cT K j) (K.2 j 4) + 1) 0 (K.2 j 4 + 1, 0, 0) I1 none none (by omega) ⟨Nat.le_refl _, Nat.le_refl _, Nat.zero_le _⟩ hU1.2 (((frM.refl _).trans (frM.scr (by unfold mn; omega))).trans hF1.M) (fun I2 r1 r2 a9 a10 => ?_)
              have hro := sh_out_ok (u := cU K j) (w := K.2 j 4) ⟨hp1, hp2⟩ (D := cg_dip (cU K j) (cT K j) (K.2 j 4)) (cg_dip (cU K j) (cT K j) (K.2 j 4) + 1) 0 (K.2 j 4 + 1, 0, 0) (by omega) ⟨Nat.le_refl _, Nat.zero_le _⟩
              have hrl := sh_out_le (u := cU K j) (w := K.2 j 4) (m := p) (cg_dip (cU K j) (cT K j) (K.2 j 4) + 1) 0 (K.2 j 4 + 1, 0, 0)
              rw [show sh_out (cU K j) (K.2 j 4) p (cg_dip (cU K j) (cT K j) (K.2 j 4) + 1) 0 (K.2 j 4 + 1, 0, 0) = sh_res (cU K j) (K.2 j 4) p (cg_dip (cU K j) (cT K j) (K.2 j 4)) from rfl] at hro hrl ⊢
              refine o_aload_n dX9_shares_153 rfl rfl ?_
              refine o_iload dX9_shares_154 rfl ?_
              refine o_iload dX9_shares_156 rfl ?_
              refine o_iload dX9_shares_158 rfl ?_
              refine o_callV (as := [.int (nI (K.2 j 4)), .int (nI ((sh_res (cU K j) (K.2 j 4) p (cg_dip (cU K j) (cT K j) (K.2 j 4))).2.1)), .int (nI ((sh_res (cU K j) (K.2 j 4) p (cg_dip (cU K j) (cT K j) (K.2 j 4))).2.2))]) (st := []) dX9_shares_160 (c_mostBy (u := cU K j) (by omega) (by omega) (by omega) (fun q hq => r1 q (by omega)) (fun q hq => hul q (by omega)) (hmono _ _ hro.1)) rfl meX9_mostBy imX9_mostBy seX9_mostBy mlX9_155 sh_106 rfl rfl (by omega) (by decide) (Nat.le_of_ble_eq_true rfl) ?_
              rintro _ _ ⟨rfl, rfl⟩
              refine o_pop dX9_shares_163 rfl ?_
              refine o_iload_n dX9_shares_164 rfl rfl ?_
              refine o_iconst (v := (-1)) dX9_shares_165 (by decide) ?_
              refine o_icmp_ne (tgt := 174) dX9_shares_166 (by decide) (fun b_48 => ?_) (fun b_48 => absurd b_48 (fun q => hne q))
              refine o_iload_n dX9_shares_174 rfl rfl ?_
              refine o_ifN_ne (tgt := 183) dX9_shares_175 (by decide) (by omega) (fun b_49 => ?_) (fun b_49 => absurd b_49 (by omega))
              refine o_iload_n dX9_shares_183 rfl rfl ?_
              refine o_iconst (v := nI 1) dX9_shares_184 (by decide) ?_
              refine o_icmpN_ne (tgt := 193) dX9_shares_185 (by decide) (by omega) (by omega) (fun b_50 => ?_) (fun b_50 => absurd b_50 (by omega))
              refine o_iload_n dX9_shares_193 rfl rfl ?_
              refine o_iconst (v := nI 2) dX9_shares_194 (by decide) ?_
              refine o_icmpN_ne (tgt := 205) dX9_shares_195 (by decide) (by omega) (by omega) (fun b_51 => absurd b_51 (by omega)) (fun b_51 => ?_)
              refine o_aload_n dX9_shares_198 rfl rfl ?_
              refine o_getI (v := nI (sh_first (cU K j) (K.2 j 4) ((sh_res (cU K j) (K.2 j 4) p (cg_dip (cU K j) (cT K j) (K.2 j 4))).2.1))) dX9_shares_199 fgX9_149 sh_106 rfl ((up2_x (by omega)).trans up2_s) ?_
              refine o_goto (tgt := 209) dX9_shares_202 (by decide) ?_
              exact o_iret dX9_shares_209 rfl ⟨by simp only [sp_shares, cg_ix_some hj (by omega : K.1 ≤ 2 ^ 31), cg_in_some hp1 hp2 (by omega : (3 : Nat) < 2 ^ 31), if_neg hne, hx]; rw [if_neg (by omega), if_neg (by omega), if_neg (by omega), if_neg (by omega), if_pos trivial], ((r2.trans (frM.scr (by unfold mn; omega))).trans (frM.scr (by unfold mn; omega)))⟩
            · refine o_bipush (v := (-2)) dX9_shares_56 (by decide) ?_
              exact o_iret dX9_shares_58 rfl ⟨by simp only [sp_shares, cg_ix_some hj (by omega : K.1 ≤ 2 ^ 31), cg_in_some hp1 hp2 (by omega : (3 : Nat) < 2 ^ 31), if_neg hne, hx]; rw [if_neg (by omega), if_pos (by omega)], ((frM.refl _).trans (frM.scr (by unfold mn; omega)))⟩
          · refine o_iload_n dX9_shares_36 rfl rfl ?_
            refine o_iconst (v := nI 1) dX9_shares_37 (by decide) ?_
            refine o_icmpN_ne (tgt := 43) dX9_shares_38 (by decide) (by omega) (by omega) (fun b_52 => ?_) (fun b_52 => absurd b_52 (by omega))
            refine o_aload_n dX9_shares_43 rfl rfl ?_
            refine o_iload_n dX9_shares_44 rfl rfl ?_
            refine o_iconst (v := nI 4) dX9_shares_45 (by decide) ?_
            refine o_callVp (v := .int (nI (K.2 j 4))) (as := [.int (nI j), .int (nI 4)]) (st := []) dX9_shares_46 (c_ofK (hK.frM ((frM.refl _).trans (frM.scr (by unfold mn; omega)))) hn hj (by decide)) rfl meX9_of imX9_of seX9_of mlX9_103 sh_106 rfl rfl (by omega) (by decide) (Nat.le_of_ble_eq_true rfl) ?_
            refine o_istore dX9_shares_49 (by decide) ?_
            have hq := hok.2 j hj
            have hT := hq.lT
            have hH := hq.l2
            have hw := hq.w
            have hUl : ∀ y, y ≤ 40 → cU K j y ≤ 67200 := fun y hy => hq.lU hy
            obtain ⟨q0, q1, q2, q3, q4, q5, q6, q7⟩ := id hq
            refine o_iload dX9_shares_51 rfl ?_
            refine o_ifN_ne (tgt := 59) dX9_shares_53 (by decide) (by omega) (fun b_53 => ?_) (fun b_53 => ?_)
            · refine o_aload_n dX9_shares_59 rfl rfl ?_
              refine o_iload_n dX9_shares_60 rfl rfl ?_
              refine o_callV (as := [.int (nI j)]) (st := []) dX9_shares_61 (c_laysNow (hK.frM ((frM.refl _).trans (frM.scr (by unfold mn; omega)))) hok hj) rfl meX9_laysNow imX9_laysNow seX9_laysNow mlX9_120 sh_106 rfl rfl (by omega) (by decide) (Nat.le_of_ble_eq_true rfl) ?_
              rintro _ I1 ⟨rfl, hU1, hF1⟩
              have hq := hok.2 j hj
              have hT := hq.lT
              have hH := hq.l2
              have hw := hq.w
              have hUl : ∀ y, y ≤ 40 → cU K j y ≤ 67200 := fun y hy => hq.lU hy
              obtain ⟨q0, q1, q2, q3, q4, q5, q6, q7⟩ := id hq
              refine o_iload dX9_shares_64 rfl ?_
              refine o_iconst (v := nI 1) dX9_shares_66 (by decide) ?_
              refine o_iaddN dX9_shares_67 ?_
              refine o_istore dX9_shares_68 (by decide) ?_
              refine o_iconst (v := nI 0) dX9_shares_70 (by decide) ?_
              refine o_istore dX9_shares_71 (by decide) ?_
              refine o_iconst (v := nI 0) dX9_shares_73 (by decide) ?_
              refine o_istore dX9_shares_74 (by decide) ?_
              refine o_iconst (v := nI 0) dX9_shares_76 (by decide) ?_
              refine o_istore dX9_shares_77 (by decide) ?_
              have hul : ∀ q, q ≤ cT K j → cU K j q < 2 ^ 31 := fun q hq => by have := hUl q (by omega); omega
              have hmono : ∀ a b, a ≤ b → cU K j a ≤ cU K j b := fun a b h => cg_U_mono h
              have hDT := cg_dip_le (cU K j) (cT K j) (K.2 j 4)
              refine lp_shares (I0 := I) (u := cU K j) (T := cT K j) (by omega) ⟨hp1, hp2⟩ (by omega) hT hul hmono hw (cg_dip (cU K j) (cT K j) (K.2 j 4) + 1) 0 (K.2 j 4 + 1, 0, 0) I1 none none (by omega) ⟨Nat.le_refl _, Nat.le_refl _, Nat.zero_le _⟩ hU1.2 (((frM.refl _).trans (frM.scr (by unfold mn; omega))).trans hF1.M) (fun I2 r1 r2 a9 a10 => ?_)
              have hro := sh_out_ok (u := cU K j) (w := K.2 j 4) ⟨hp1, hp2⟩ (D := cg_dip (cU K j) (cT K j) (K.2 j 4)) (cg_dip (cU K j) (cT K j) (K.2 j 4) + 1) 0 (K.2 j 4 + 1, 0, 0) (by omega) ⟨Nat.le_refl _, Nat.zero_le _⟩
              have hrl := sh_out_le (u := cU K j) (w := K.2 j 4) (m := p) (cg_dip (cU K j) (cT K j) (K.2 j 4) + 1) 0 (K.2 j 4 + 1, 0, 0)
              rw [show sh_out (cU K j) (K.2 j 4) p (cg_dip (cU K j) (cT K j) (K.2 j 4) + 1) 0 (K.2 j 4 + 1, 0, 0) = sh_res (cU K j) (K.2 j 4) p (cg_dip (cU K j) (cT K j) (K.2 j 4)) from rfl] at hro hrl ⊢
              refine o_aload_n dX9_shares_153 rfl rfl ?_
              refine o_iload dX9_shares_154 rfl ?_
              refine o_iload dX9_shares_156 rfl ?_
              refine o_iload dX9_shares_158 rfl ?_
              refine o_callV (as := [.int (nI (K.2 j 4)), .int (nI ((sh_res (cU K j) (K.2 j 4) p (cg_dip (cU K j) (cT K j) (K.2 j 4))).2.1)), .int (nI ((sh_res (cU K j) (K.2 j 4) p (cg_dip (cU K j) (cT K j) (K.2 j 4))).2.2))]) (st := []) dX9_shares_160 (c_mostBy (u := cU K j) (by omega) (by omega) (by omega) (fun q hq => r1 q (by omega)) (fun q hq => hul q (by omega)) (hmono _ _ hro.1)) rfl meX9_mostBy imX9_mostBy seX9_mostBy mlX9_155 sh_106 rfl rfl (by omega) (by decide) (Nat.le_of_ble_eq_true rfl) ?_
              rintro _ _ ⟨rfl, rfl⟩
              refine o_pop dX9_shares_163 rfl ?_
              refine o_iload_n dX9_shares_164 rfl rfl ?_
              refine o_iconst (v := (-1)) dX9_shares_165 (by decide) ?_
              refine o_icmp_ne (tgt := 174) dX9_shares_166 (by decide) (fun b_54 => ?_) (fun b_54 => absurd b_54 (fun q => hne q))
              refine o_iload_n dX9_shares_174 rfl rfl ?_
              refine o_ifN_ne (tgt := 183) dX9_shares_175 (by decide) (by omega) (fun b_55 => ?_) (fun b_55 => absurd b_55 (by omega))
              refine o_iload_n dX9_shares_183 rfl rfl ?_
              refine o_iconst (v := nI 1) dX9_shares_184 (by decide) ?_
              refine o_icmpN_ne (tgt := 193) dX9_shares_185 (by decide) (by omega) (by omega) (fun b_56 => ?_) (fun b_56 => absurd b_56 (by omega))
              refine o_iload_n dX9_shares_193 rfl rfl ?_
              refine o_iconst (v := nI 2) dX9_shares_194 (by decide) ?_
              refine o_icmpN_ne (tgt := 205) dX9_shares_195 (by decide) (by omega) (by omega) (fun b_57 => absurd b_57 (by omega)) (fun b_57 => ?_)
              refine o_aload_n dX9_shares_198 rfl rfl ?_
              refine o_getI (v := nI (sh_first (cU K j) (K.2 j 4) ((sh_res (cU K j) (K.2 j 4) p (cg_dip (cU K j) (cT K j) (K.2 j 4))).2.1))) dX9_shares_199 fgX9_149 sh_106 rfl ((up2_x (by omega)).trans up2_s) ?_
              refine o_goto (tgt := 209) dX9_shares_202 (by decide) ?_
              exact o_iret dX9_shares_209 rfl ⟨by simp only [sp_shares, cg_ix_some hj (by omega : K.1 ≤ 2 ^ 31), cg_in_some hp1 hp2 (by omega : (3 : Nat) < 2 ^ 31), if_neg hne, hx]; rw [if_neg (by omega), if_neg (by omega), if_neg (by omega), if_neg (by omega), if_pos trivial], ((r2.trans (frM.scr (by unfold mn; omega))).trans (frM.scr (by unfold mn; omega)))⟩
            · refine o_bipush (v := (-2)) dX9_shares_56 (by decide) ?_
              exact o_iret dX9_shares_58 rfl ⟨by simp only [sp_shares, cg_ix_some hj (by omega : K.1 ≤ 2 ^ 31), cg_in_some hp1 hp2 (by omega : (3 : Nat) < 2 ^ 31), if_neg hne, hx]; rw [if_neg (by omega), if_pos (by omega)], ((frM.refl _).trans (frM.scr (by unfold mn; omega)))⟩
        · refine o_ifN_eq (tgt := 41) dX9_shares_19 (by decide) (by omega) (fun b_58 => ?_) (fun b_58 => absurd b_58 (by omega))
          refine o_iconst (v := (-1)) dX9_shares_41 (by decide) ?_
          exact o_iret dX9_shares_42 rfl ⟨by simp only [sp_shares, cg_ix_some hj (by omega : K.1 ≤ 2 ^ 31), cg_in_none (by omega) (by omega : (3 : Nat) < 2 ^ 31) hno2], ((frM.refl _).trans (frM.scr (by unfold mn; omega)))⟩
      · refine o_ifN_eq (tgt := 41) dX9_shares_10 (by decide) (by omega) (fun b_59 => ?_) (fun b_59 => absurd b_59 (by omega))
        refine o_iconst (v := (-1)) dX9_shares_41 (by decide) ?_
        exact o_iret dX9_shares_42 rfl ⟨by simp only [sp_shares, hno], ((frM.refl _).trans (frM.scr (by unfold mn; omega)))⟩
    · refine o_aload_n dX9_shares_0 rfl rfl ?_
      refine o_iconst (v := nI 0) dX9_shares_1 (by decide) ?_
      refine o_putI dX9_shares_2 flX9_39 sh_106 rfl ?_
      refine o_aload_n dX9_shares_5 rfl rfl ?_
      refine o_iload_n dX9_shares_6 rfl rfl ?_
      refine o_callV (as := [.int c]) (st := []) dX9_shares_7 (c_isCask (hK.frM ((frM.refl _).trans (frM.scr (by unfold mn; omega)))) hok c) rfl meX9_isCask imX9_isCask seX9_isCask mlX9_127 sh_106 rfl rfl (by omega) (by decide) (Nat.le_of_ble_eq_true rfl) ?_
      rintro _ _ ⟨rfl, ⟨j, hj, rfl, rfl⟩ | ⟨hno, rfl⟩⟩
      · refine o_ifN_eq (tgt := 41) dX9_shares_10 (by decide) (by omega) (fun b_60 => absurd b_60 (by omega)) (fun b_60 => ?_)
        refine o_iload_n dX9_shares_13 rfl rfl ?_
        refine o_iconst (v := nI 2) dX9_shares_14 (by decide) ?_
        refine o_iconst (v := nI 3) dX9_shares_15 (by decide) ?_
        refine o_callS (as := [.int m, .int (nI 2), .int (nI 3)]) (st := []) dX9_shares_16 (c_in _ _ _ _) rfl meX9_in ssX9_in mlX9_43 (by omega) (by decide) (Nat.le_of_ble_eq_true rfl) ?_
        rintro _ _ ⟨rfl, ⟨hpa, hpb, rfl⟩ | ⟨hno2, rfl⟩⟩
        · obtain ⟨p, hp1, hp2, rfl⟩ := in_nat (by omega) (by omega) hpa hpb
          refine o_ifN_eq (tgt := 41) dX9_shares_19 (by decide) (by omega) (fun b_61 => absurd b_61 (by omega)) (fun b_61 => ?_)
          refine o_iload_n dX9_shares_22 rfl rfl ?_
          refine o_iconst (v := (-1)) dX9_shares_23 (by decide) ?_
          refine o_iconst (v := nI 3) dX9_shares_24 (by decide) ?_
          refine o_callSp (v := .int (nI 1)) (as := [.int (nI 3), .int (-1), .int (nI 3)]) (st := []) dX9_shares_25 (c_inY _ hz1 hz2) rfl meX9_in ssX9_in mlX9_43 (by omega) (by decide) (Nat.le_of_ble_eq_true rfl) ?_
          refine o_ifN_eq (tgt := 41) dX9_shares_28 (by decide) (by omega) (fun b_62 => absurd b_62 (by omega)) (fun b_62 => ?_)
          refine o_iload_n dX9_shares_31 rfl rfl ?_
          refine o_iconst (v := nI 2) dX9_shares_32 (by decide) ?_
          refine o_icmpN_ne (tgt := 43) dX9_shares_33 (by decide) (by omega) (by omega) (fun b_63 => ?_) (fun b_63 => ?_)
          · refine o_aload_n dX9_shares_43 rfl rfl ?_
            refine o_iload_n dX9_shares_44 rfl rfl ?_
            refine o_iconst (v := nI 4) dX9_shares_45 (by decide) ?_
            refine o_callVp (v := .int (nI (K.2 j 4))) (as := [.int (nI j), .int (nI 4)]) (st := []) dX9_shares_46 (c_ofK (hK.frM ((frM.refl _).trans (frM.scr (by unfold mn; omega)))) hn hj (by decide)) rfl meX9_of imX9_of seX9_of mlX9_103 sh_106 rfl rfl (by omega) (by decide) (Nat.le_of_ble_eq_true rfl) ?_
            refine o_istore dX9_shares_49 (by decide) ?_
            have hq := hok.2 j hj
            have hT := hq.lT
            have hH := hq.l2
            have hw := hq.w
            have hUl : ∀ y, y ≤ 40 → cU K j y ≤ 67200 := fun y hy => hq.lU hy
            obtain ⟨q0, q1, q2, q3, q4, q5, q6, q7⟩ := id hq
            refine o_iload dX9_shares_51 rfl ?_
            refine o_ifN_ne (tgt := 59) dX9_shares_53 (by decide) (by omega) (fun b_64 => ?_) (fun b_64 => ?_)
            · refine o_aload_n dX9_shares_59 rfl rfl ?_
              refine o_iload_n dX9_shares_60 rfl rfl ?_
              refine o_callV (as := [.int (nI j)]) (st := []) dX9_shares_61 (c_laysNow (hK.frM ((frM.refl _).trans (frM.scr (by unfold mn; omega)))) hok hj) rfl meX9_laysNow imX9_laysNow seX9_laysNow mlX9_120 sh_106 rfl rfl (by omega) (by decide) (Nat.le_of_ble_eq_true rfl) ?_
              rintro _ I1 ⟨rfl, hU1, hF1⟩
              have hq := hok.2 j hj
              have hT := hq.lT
              have hH := hq.l2
              have hw := hq.w
              have hUl : ∀ y, y ≤ 40 → cU K j y ≤ 67200 := fun y hy => hq.lU hy
              obtain ⟨q0, q1, q2, q3, q4, q5, q6, q7⟩ := id hq
              refine o_iload dX9_shares_64 rfl ?_
              refine o_iconst (v := nI 1) dX9_shares_66 (by decide) ?_
              refine o_iaddN dX9_shares_67 ?_
              refine o_istore dX9_shares_68 (by decide) ?_
              refine o_iconst (v := nI 0) dX9_shares_70 (by decide) ?_
              refine o_istore dX9_shares_71 (by decide) ?_
              refine o_iconst (v := nI 0) dX9_shares_73 (by decide) ?_
              refine o_istore dX9_shares_74 (by decide) ?_
              refine o_iconst (v := nI 0) dX9_shares_76 (by decide) ?_
              refine o_istore dX9_shares_77 (by decide) ?_
              have hul : ∀ q, q ≤ cT K j → cU K j q < 2 ^ 31 := fun q hq => by have := hUl q (by omega); omega
              have hmono : ∀ a b, a ≤ b → cU K j a ≤ cU K j b := fun a b h => cg_U_mono h
              have hDT := cg_dip_le (cU K j) (cT K j) (K.2 j 4)
              refine lp_shares (I0 := I) (u := cU K j) (T := cT K j) (by omega) ⟨hp1, hp2⟩ (by omega) hT hul hmono hw (cg_dip (cU K j) (cT K j) (K.2 j 4) + 1) 0 (K.2 j 4 + 1, 0, 0) I1 none none (by omega) ⟨Nat.le_refl _, Nat.le_refl _, Nat.zero_le _⟩ hU1.2 (((frM.refl _).trans (frM.scr (by unfold mn; omega))).trans hF1.M) (fun I2 r1 r2 a9 a10 => ?_)
              have hro := sh_out_ok (u := cU K j) (w := K.2 j 4) ⟨hp1, hp2⟩ (D := cg_dip (cU K j) (cT K j) (K.2 j 4)) (cg_dip (cU K j) (cT K j) (K.2 j 4) + 1) 0 (K.2 j 4 + 1, 0, 0) (by omega) ⟨Nat.le_refl _, Nat.zero_le _⟩
              have hrl := sh_out_le (u := cU K j) (w := K.2 j 4) (m := p) (cg_dip (cU K j) (cT K j) (K.2 j 4) + 1) 0 (K.2 j 4 + 1, 0, 0)
              rw [show sh_out (cU K j) (K.2 j 4) p (cg_dip (cU K j) (cT K j) (K.2 j 4) + 1) 0 (K.2 j 4 + 1, 0, 0) = sh_res (cU K j) (K.2 j 4) p (cg_dip (cU K j) (cT K j) (K.2 j 4)) from rfl] at hro hrl ⊢
              refine o_aload_n dX9_shares_153 rfl rfl ?_
              refine o_iload dX9_shares_154 rfl ?_
              refine o_iload dX9_shares_156 rfl ?_
              refine o_iload dX9_shares_158 rfl ?_
              refine o_callV (as := [.int (nI (K.2 j 4)), .int (nI ((sh_res (cU K j) (K.2 j 4) p (cg_dip (cU K j) (cT K j) (K.2 j 4))).2.1)), .int (nI ((sh_res (cU K j) (K.2 j 4) p (cg_dip (cU K j) (cT K j) (K.2 j 4))).2.2))]) (st := []) dX9_shares_160 (c_mostBy (u := cU K j) (by omega) (by omega) (by omega) (fun q hq => r1 q (by omega)) (fun q hq => hul q (by omega)) (hmono _ _ hro.1)) rfl meX9_mostBy imX9_mostBy seX9_mostBy mlX9_155 sh_106 rfl rfl (by omega) (by decide) (Nat.le_of_ble_eq_true rfl) ?_
              rintro _ _ ⟨rfl, rfl⟩
              refine o_pop dX9_shares_163 rfl ?_
              refine o_iload_n dX9_shares_164 rfl rfl ?_
              refine o_iconst (v := (-1)) dX9_shares_165 (by decide) ?_
              refine o_icmp_ne (tgt := 174) dX9_shares_166 (by decide) (fun b_65 => ?_) (fun b_65 => absurd b_65 (fun q => hne q))
              refine o_iload_n dX9_shares_174 rfl rfl ?_
              refine o_ifN_ne (tgt := 183) dX9_shares_175 (by decide) (by omega) (fun b_66 => ?_) (fun b_66 => absurd b_66 (by omega))
              refine o_iload_n dX9_shares_183 rfl rfl ?_
              refine o_iconst (v := nI 1) dX9_shares_184 (by decide) ?_
              refine o_icmpN_ne (tgt := 193) dX9_shares_185 (by decide) (by omega) (by omega) (fun b_67 => ?_) (fun b_67 => absurd b_67 (by omega))
              refine o_iload_n dX9_shares_193 rfl rfl ?_
              refine o_iconst (v := nI 2) dX9_shares_194 (by decide) ?_
              refine o_icmpN_ne (tgt := 205) dX9_shares_195 (by decide) (by omega) (by omega) (fun b_68 => ?_) (fun b_68 => absurd b_68 (by omega))
              refine o_aload_n dX9_shares_205 rfl rfl ?_
              refine o_getI (v := nI (sh_last (cU K j) (K.2 j 4) ((sh_res (cU K j) (K.2 j 4) p (cg_dip (cU K j) (cT K j) (K.2 j 4))).2.2))) dX9_shares_206 fgX9_152 sh_106 rfl up2_s ?_
              exact o_iret dX9_shares_209 rfl ⟨by simp only [sp_shares, cg_ix_some hj (by omega : K.1 ≤ 2 ^ 31), cg_in_some hp1 hp2 (by omega : (3 : Nat) < 2 ^ 31), if_neg hne, hx]; rw [if_neg (by omega), if_neg (by omega), if_neg (by omega), if_neg (by omega), if_neg (by omega)], ((r2.trans (frM.scr (by unfold mn; omega))).trans (frM.scr (by unfold mn; omega)))⟩
            · refine o_bipush (v := (-2)) dX9_shares_56 (by decide) ?_
              exact o_iret dX9_shares_58 rfl ⟨by simp only [sp_shares, cg_ix_some hj (by omega : K.1 ≤ 2 ^ 31), cg_in_some hp1 hp2 (by omega : (3 : Nat) < 2 ^ 31), if_neg hne, hx]; rw [if_neg (by omega), if_pos (by omega)], ((frM.refl _).trans (frM.scr (by unfold mn; omega)))⟩
          · refine o_iload_n dX9_shares_36 rfl rfl ?_
            refine o_iconst (v := nI 1) dX9_shares_37 (by decide) ?_
            refine o_icmpN_ne (tgt := 43) dX9_shares_38 (by decide) (by omega) (by omega) (fun b_69 => ?_) (fun b_69 => absurd b_69 (by omega))
            refine o_aload_n dX9_shares_43 rfl rfl ?_
            refine o_iload_n dX9_shares_44 rfl rfl ?_
            refine o_iconst (v := nI 4) dX9_shares_45 (by decide) ?_
            refine o_callVp (v := .int (nI (K.2 j 4))) (as := [.int (nI j), .int (nI 4)]) (st := []) dX9_shares_46 (c_ofK (hK.frM ((frM.refl _).trans (frM.scr (by unfold mn; omega)))) hn hj (by decide)) rfl meX9_of imX9_of seX9_of mlX9_103 sh_106 rfl rfl (by omega) (by decide) (Nat.le_of_ble_eq_true rfl) ?_
            refine o_istore dX9_shares_49 (by decide) ?_
            have hq := hok.2 j hj
            have hT := hq.lT
            have hH := hq.l2
            have hw := hq.w
            have hUl : ∀ y, y ≤ 40 → cU K j y ≤ 67200 := fun y hy => hq.lU hy
            obtain ⟨q0, q1, q2, q3, q4, q5, q6, q7⟩ := id hq
            refine o_iload dX9_shares_51 rfl ?_
            refine o_ifN_ne (tgt := 59) dX9_shares_53 (by decide) (by omega) (fun b_70 => ?_) (fun b_70 => ?_)
            · refine o_aload_n dX9_shares_59 rfl rfl ?_
              refine o_iload_n dX9_shares_60 rfl rfl ?_
              refine o_callV (as := [.int (nI j)]) (st := []) dX9_shares_61 (c_laysNow (hK.frM ((frM.refl _).trans (frM.scr (by unfold mn; omega)))) hok hj) rfl meX9_laysNow imX9_laysNow seX9_laysNow mlX9_120 sh_106 rfl rfl (by omega) (by decide) (Nat.le_of_ble_eq_true rfl) ?_
              rintro _ I1 ⟨rfl, hU1, hF1⟩
              have hq := hok.2 j hj
              have hT := hq.lT
              have hH := hq.l2
              have hw := hq.w
              have hUl : ∀ y, y ≤ 40 → cU K j y ≤ 67200 := fun y hy => hq.lU hy
              obtain ⟨q0, q1, q2, q3, q4, q5, q6, q7⟩ := id hq
              refine o_iload dX9_shares_64 rfl ?_
              refine o_iconst (v := nI 1) dX9_shares_66 (by decide) ?_
              refine o_iaddN dX9_shares_67 ?_
              refine o_istore dX9_shares_68 (by decide) ?_
              refine o_iconst (v := nI 0) dX9_shares_70 (by decide) ?_
              refine o_istore dX9_shares_71 (by decide) ?_
              refine o_iconst (v := nI 0) dX9_shares_73 (by decide) ?_
              refine o_istore dX9_shares_74 (by decide) ?_
              refine o_iconst (v := nI 0) dX9_shares_76 (by decide) ?_
              refine o_istore dX9_shares_77 (by decide) ?_
              have hul : ∀ q, q ≤ cT K j → cU K j q < 2 ^ 31 := fun q hq => by have := hUl q (by omega); omega
              have hmono : ∀ a b, a ≤ b → cU K j a ≤ cU K j b := fun a b h => cg_U_mono h
              have hDT := cg_dip_le (cU K j) (cT K j) (K.2 j 4)
              refine lp_shares (I0 := I) (u := cU K j) (T := cT K j) (by omega) ⟨hp1, hp2⟩ (by omega) hT hul hmono hw (cg_dip (cU K j) (cT K j) (K.2 j 4) + 1) 0 (K.2 j 4 + 1, 0, 0) I1 none none (by omega) ⟨Nat.le_refl _, Nat.le_refl _, Nat.zero_le _⟩ hU1.2 (((frM.refl _).trans (frM.scr (by unfold mn; omega))).trans hF1.M) (fun I2 r1 r2 a9 a10 => ?_)
              have hro := sh_out_ok (u := cU K j) (w := K.2 j 4) ⟨hp1, hp2⟩ (D := cg_dip (cU K j) (cT K j) (K.2 j 4)) (cg_dip (cU K j) (cT K j) (K.2 j 4) + 1) 0 (K.2 j 4 + 1, 0, 0) (by omega) ⟨Nat.le_refl _, Nat.zero_le _⟩
              have hrl := sh_out_le (u := cU K j) (w := K.2 j 4) (m := p) (cg_dip (cU K j) (cT K j) (K.2 j 4) + 1) 0 (K.2 j 4 + 1, 0, 0)
              rw [show sh_out (cU K j) (K.2 j 4) p (cg_dip (cU K j) (cT K j) (K.2 j 4) + 1) 0 (K.2 j 4 + 1, 0, 0) = sh_res (cU K j) (K.2 j 4) p (cg_dip (cU K j) (cT K j) (K.2 j 4)) from rfl] at hro hrl ⊢
              refine o_aload_n dX9_shares_153 rfl rfl ?_
              refine o_iload dX9_shares_154 rfl ?_
              refine o_iload dX9_shares_156 rfl ?_
              refine o_iload dX9_shares_158 rfl ?_
              refine o_callV (as := [.int (nI (K.2 j 4)), .int (nI ((sh_res (cU K j) (K.2 j 4) p (cg_dip (cU K j) (cT K j) (K.2 j 4))).2.1)), .int (nI ((sh_res (cU K j) (K.2 j 4) p (cg_dip (cU K j) (cT K j) (K.2 j 4))).2.2))]) (st := []) dX9_shares_160 (c_mostBy (u := cU K j) (by omega) (by omega) (by omega) (fun q hq => r1 q (by omega)) (fun q hq => hul q (by omega)) (hmono _ _ hro.1)) rfl meX9_mostBy imX9_mostBy seX9_mostBy mlX9_155 sh_106 rfl rfl (by omega) (by decide) (Nat.le_of_ble_eq_true rfl) ?_
              rintro _ _ ⟨rfl, rfl⟩
              refine o_pop dX9_shares_163 rfl ?_
              refine o_iload_n dX9_shares_164 rfl rfl ?_
              refine o_iconst (v := (-1)) dX9_shares_165 (by decide) ?_
              refine o_icmp_ne (tgt := 174) dX9_shares_166 (by decide) (fun b_71 => ?_) (fun b_71 => absurd b_71 (fun q => hne q))
              refine o_iload_n dX9_shares_174 rfl rfl ?_
              refine o_ifN_ne (tgt := 183) dX9_shares_175 (by decide) (by omega) (fun b_72 => ?_) (fun b_72 => absurd b_72 (by omega))
              refine o_iload_n dX9_shares_183 rfl rfl ?_
              refine o_iconst (v := nI 1) dX9_shares_184 (by decide) ?_
              refine o_icmpN_ne (tgt := 193) dX9_shares_185 (by decide) (by omega) (by omega) (fun b_73 => ?_) (fun b_73 => absurd b_73 (by omega))
              refine o_iload_n dX9_shares_193 rfl rfl ?_
              refine o_iconst (v := nI 2) dX9_shares_194 (by decide) ?_
              refine o_icmpN_ne (tgt := 205) dX9_shares_195 (by decide) (by omega) (by omega) (fun b_74 => ?_) (fun b_74 => absurd b_74 (by omega))
              refine o_aload_n dX9_shares_205 rfl rfl ?_
              refine o_getI (v := nI (sh_last (cU K j) (K.2 j 4) ((sh_res (cU K j) (K.2 j 4) p (cg_dip (cU K j) (cT K j) (K.2 j 4))).2.2))) dX9_shares_206 fgX9_152 sh_106 rfl up2_s ?_
              exact o_iret dX9_shares_209 rfl ⟨by simp only [sp_shares, cg_ix_some hj (by omega : K.1 ≤ 2 ^ 31), cg_in_some hp1 hp2 (by omega : (3 : Nat) < 2 ^ 31), if_neg hne, hx]; rw [if_neg (by omega), if_neg (by omega), if_neg (by omega), if_neg (by omega), if_neg (by omega)], ((r2.trans (frM.scr (by unfold mn; omega))).trans (frM.scr (by unfold mn; omega)))⟩
            · refine o_bipush (v := (-2)) dX9_shares_56 (by decide) ?_
              exact o_iret dX9_shares_58 rfl ⟨by simp only [sp_shares, cg_ix_some hj (by omega : K.1 ≤ 2 ^ 31), cg_in_some hp1 hp2 (by omega : (3 : Nat) < 2 ^ 31), if_neg hne, hx]; rw [if_neg (by omega), if_pos (by omega)], ((frM.refl _).trans (frM.scr (by unfold mn; omega)))⟩
        · refine o_ifN_eq (tgt := 41) dX9_shares_19 (by decide) (by omega) (fun b_75 => ?_) (fun b_75 => absurd b_75 (by omega))
          refine o_iconst (v := (-1)) dX9_shares_41 (by decide) ?_
          exact o_iret dX9_shares_42 rfl ⟨by simp only [sp_shares, cg_ix_some hj (by omega : K.1 ≤ 2 ^ 31), cg_in_none (by omega) (by omega : (3 : Nat) < 2 ^ 31) hno2], ((frM.refl _).trans (frM.scr (by unfold mn; omega)))⟩
      · refine o_ifN_eq (tgt := 41) dX9_shares_10 (by decide) (by omega) (fun b_76 => ?_) (fun b_76 => absurd b_76 (by omega))
        refine o_iconst (v := (-1)) dX9_shares_41 (by decide) ?_
        exact o_iret dX9_shares_42 rfl ⟨by simp only [sp_shares, hno], ((frM.refl _).trans (frM.scr (by unfold mn; omega)))⟩
  · refine o_aload_n dX9_shares_0 rfl rfl ?_
    refine o_iconst (v := nI 0) dX9_shares_1 (by decide) ?_
    refine o_putI dX9_shares_2 flX9_39 sh_106 rfl ?_
    refine o_aload_n dX9_shares_5 rfl rfl ?_
    refine o_iload_n dX9_shares_6 rfl rfl ?_
    refine o_callV (as := [.int c]) (st := []) dX9_shares_7 (c_isCask (hK.frM ((frM.refl _).trans (frM.scr (by unfold mn; omega)))) hok c) rfl meX9_isCask imX9_isCask seX9_isCask mlX9_127 sh_106 rfl rfl (by omega) (by decide) (Nat.le_of_ble_eq_true rfl) ?_
    rintro _ _ ⟨rfl, ⟨j, hj, rfl, rfl⟩ | ⟨hno, rfl⟩⟩
    · refine o_ifN_eq (tgt := 41) dX9_shares_10 (by decide) (by omega) (fun b_77 => absurd b_77 (by omega)) (fun b_77 => ?_)
      refine o_iload_n dX9_shares_13 rfl rfl ?_
      refine o_iconst (v := nI 2) dX9_shares_14 (by decide) ?_
      refine o_iconst (v := nI 3) dX9_shares_15 (by decide) ?_
      refine o_callS (as := [.int m, .int (nI 2), .int (nI 3)]) (st := []) dX9_shares_16 (c_in _ _ _ _) rfl meX9_in ssX9_in mlX9_43 (by omega) (by decide) (Nat.le_of_ble_eq_true rfl) ?_
      rintro _ _ ⟨rfl, ⟨hpa, hpb, rfl⟩ | ⟨hno2, rfl⟩⟩
      · obtain ⟨p, hp1, hp2, rfl⟩ := in_nat (by omega) (by omega) hpa hpb
        refine o_ifN_eq (tgt := 41) dX9_shares_19 (by decide) (by omega) (fun b_78 => absurd b_78 (by omega)) (fun b_78 => ?_)
        refine o_iload_n dX9_shares_22 rfl rfl ?_
        refine o_iconst (v := (-1)) dX9_shares_23 (by decide) ?_
        refine o_iconst (v := nI 3) dX9_shares_24 (by decide) ?_
        refine o_callSp (v := .int (nI 0)) (as := [.int k, .int (-1), .int (nI 3)]) (st := []) dX9_shares_25 (c_inN _ hz) rfl meX9_in ssX9_in mlX9_43 (by omega) (by decide) (Nat.le_of_ble_eq_true rfl) ?_
        refine o_ifN_eq (tgt := 41) dX9_shares_28 (by decide) (by omega) (fun b_79 => ?_) (fun b_79 => absurd b_79 (by omega))
        refine o_iconst (v := (-1)) dX9_shares_41 (by decide) ?_
        exact o_iret dX9_shares_42 rfl ⟨by simp only [sp_shares, cg_ix_some hj (by omega : K.1 ≤ 2 ^ 31), cg_in_some hp1 hp2 (by omega : (3 : Nat) < 2 ^ 31), if_neg hne, hx], ((frM.refl _).trans (frM.scr (by unfold mn; omega)))⟩
      · refine o_ifN_eq (tgt := 41) dX9_shares_19 (by decide) (by omega) (fun b_80 => ?_) (fun b_80 => absurd b_80 (by omega))
        refine o_iconst (v := (-1)) dX9_shares_41 (by decide) ?_
        exact o_iret dX9_shares_42 rfl ⟨by simp only [sp_shares, cg_ix_some hj (by omega : K.1 ≤ 2 ^ 31), cg_in_none (by omega) (by omega : (3 : Nat) < 2 ^ 31) hno2], ((frM.refl _).trans (frM.scr (by unfold mn; omega)))⟩
    · refine o_ifN_eq (tgt := 41) dX9_shares_10 (by decide) (by omega) (fun b_81 => ?_) (fun b_81 => absurd b_81 (by omega))
      refine o_iconst (v := (-1)) dX9_shares_41 (by decide) ?_
      exact o_iret dX9_shares_42 rfl ⟨by simp only [sp_shares, hno], ((frM.refl _).trans (frM.scr (by unfold mn; omega)))⟩
