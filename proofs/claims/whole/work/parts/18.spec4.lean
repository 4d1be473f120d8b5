theorem Em.mono {d mc ms : Nat} {μ : sm_Mu} {as : List Value} {n : Nat} {sh : Nat → sm_S} {I : sm_I} {Q Q' : sm_Qt} (h : ∀ r n sh I, Q r n sh I → Q' r n sh I) (k : Em d mc ms μ as n sh I Q) : Em d mc ms μ as n sh I Q' := by
  intro ζ l Γ
  refine MetFree.mono (k ζ l Γ) (fun _ _ h => h) (fun _ _ _ _ _ h => h) (fun a s o t _ q => ⟨?_, q.2⟩)
  obtain ⟨⟨r, n', sh', I', h1, h2, h3⟩, h4⟩ := q.1
  exact ⟨⟨r, n', sh', I', h1, h _ _ _ _ h2, h3⟩, h4⟩
theorem E0.mono {d : Nat} {μ : sm_Mu} {as : List Value} {I : sm_I} {Q Q' : Option Value → sm_I → Prop} (h : ∀ r I, Q r I → Q' r I) (k : E0 d μ as I Q) : E0 d μ as I Q' := Em.mono (fun r n sh I h2 => ⟨h2.1, h2.2.1, h r I h2.2.2⟩) k
/-! ===== strongest, mean ===== -/
def sg_step (K : KT) (f : Option Nat) (c : Nat) : Option Nat := if 0 < K.2 c 4 then (match f with
  | none => some c
  | some b => if Op.cmpValue (FP.fcmp (cg_str (K.2 c 5) (K.2 c 4)) (cg_str (K.2 b 5) (K.2 b 4))) .l ≤ 0 then some b else some c) else f
def sg_f (K : KT) : Nat → Option Nat
  | 0 => none
  | n + 1 => sg_step K (sg_f K n) n
def sg_r (f : Option Nat) : Int32 := match f with
  | none => -9
  | some b => nI b
theorem sg_some {K : KT} : ∀ n b, sg_f K n = some b → b < n ∧ 0 < K.2 b 4
  | 0, b, h => by cases h
  | n + 1, b, h => by
    have ih := sg_some (K := K) n
    unfold sg_f sg_step at h
    split at h
    · rename_i hw
      split at h
      · cases h; exact ⟨by omega, hw⟩
      · rename_i b' hb'
        split at h
        · cases h; have := ih _ hb'; exact ⟨by omega, this.2⟩
        · cases h; exact ⟨by omega, hw⟩
    · have := ih b h; exact ⟨by omega, this.2⟩
def mean_f (K : KT) : Nat → UInt32 × Nat
  | 0 => (FP.fconst0, 0)
  | n + 1 => if 0 < K.2 n 4 then (FP.fadd (mean_f K n).1 (cg_str (K.2 n 5) (K.2 n 4)), (mean_f K n).2 + 1) else mean_f K n
theorem mean_le (K : KT) : ∀ n, (mean_f K n).2 ≤ n
  | 0 => Nat.le_refl _
  | n + 1 => by
    have := mean_le K n
    unfold mean_f
    split
    · show (mean_f K n).2 + 1 ≤ n + 1; omega
    · omega
theorem mean_mag (K : KT) : ∀ n, (∀ c, c < n → K.2 c 4 < 2 ^ 31) → n ≤ 4 → (mean_f K n).1.toNat % 2 ^ 31 < (161 + 2 * n) * 2 ^ 23
  | 0, _, _ => by
    show (FP.fconst0).toNat % 2 ^ 31 < 161 * 2 ^ 23
    decide
  | n + 1, h, hn => by
    have ih := mean_mag K n (fun c hc => h c (by omega)) (by omega)
    unfold mean_f
    split
    · rename_i hw
      have h1 := cg_str_mag (s := K.2 n 5) hw (h n (by omega))
      have h2 : (cg_str (K.2 n 5) (K.2 n 4)).toNat % 2 ^ 31 < (161 + 2 * n) * 2 ^ 23 := Nat.lt_of_lt_of_le h1 (Nat.mul_le_mul_right _ (by omega))
      have h3 := Jvm.FP.Core.fadd_mag ih h2 (by omega)
      rw [show 161 + 2 * (n + 1) = 161 + 2 * n + 2 by omega]
      exact h3
    · exact Nat.lt_of_lt_of_le ih (Nat.mul_le_mul_right _ (by omega))
def mean_r (q : UInt32 × Nat) : Int32 := if q.2 = 0 then -9 else cg_thou (FP.fdiv q.1 (FP.i2f (nI q.2)))
theorem mean_vf {r : UInt32} {K n : Nat} (h : r.toNat % 2 ^ 31 < K * 2 ^ 23) (hK2 : 2 ≤ K) (hK : K ≤ 175) (h0 : 0 < n) (hn : n < 2 ^ 31) : (FP.fdiv r (FP.i2f (nI n))).toNat % 2 ^ 31 < (K + 1) * 2 ^ 23 := by
  have h2 := Jvm.FP.Core.i2f_big (v := nI n) (Jvm.FP.Core.int32_ne (nI_ne0 h0 hn))
  have h3 := Jvm.FP.Core.fdiv_mag h h2.1 h2.2 (by omega) (by decide)
  rw [show K + (149 - 23 - 1) - 127 + 3 = K + 1 by omega] at h3
  exact h3
def sp_all (K : KT) (w : Int32) : Int32 := if w = 0 then sg_r (sg_f K K.1) else if w = 1 then mean_r (mean_f K K.1) else -1
/-! ===== shared ===== -/
def sh_first (u : Nat → Nat) (w y : Nat) : Nat := w - u y
def sh_last (u : Nat → Nat) (w z : Nat) : Nat := min (u z) w
def sh_most (u : Nat → Nat) (w y z : Nat) : Nat := max (max (sh_first u w y) (sh_last u w z)) (w - sh_first u w y - sh_last u w z)
abbrev TT : Type := Nat × Nat × Nat
def sh_step (u : Nat → Nat) (w : Nat) (s : TT) (y z : Nat) : TT := if sh_most u w y z < s.1 then (sh_most u w y z, y, z) else s
def sh_in (u : Nat → Nat) (w y : Nat) : Nat → Nat → TT → TT
  | 0, _, s => s
  | f + 1, z, s => sh_in u w y f (z + 1) (sh_step u w s y z)
def sh_z0 (m y : Nat) : Nat := if m = 2 then y else 0
def sh_out (u : Nat → Nat) (w m : Nat) : Nat → Nat → TT → TT
  | 0, _, s => s
  | f + 1, y, s => sh_out u w m f (y + 1) (sh_in u w y (y + 1 - sh_z0 m y) (sh_z0 m y) s)
def sh_res (u : Nat → Nat) (w m d : Nat) : TT := sh_out u w m (d + 1) 0 (w + 1, 0, 0)
def sp_shares (K : KT) (c m k : Int32) : Int32 := match cg_ix K.1 c with
  | none => -1
  | some j => match cg_in 2 3 m with
    | none => -1
    | some p => if k = -1 then (if K.2 j 4 = 0 then -2 else nI (sh_res (cU K j) (K.2 j 4) p (cg_dip (cU K j) (cT K j) (K.2 j 4))).1) else match cg_ix 4 k with
      | none => -1
      | some e => if p = 2 ∧ e = 1 then -1 else if K.2 j 4 = 0 then -2 else if e = 0 then nI (sh_res (cU K j) (K.2 j 4) p (cg_dip (cU K j) (cT K j) (K.2 j 4))).2.1 else if e = 1 then nI (sh_res (cU K j) (K.2 j 4) p (cg_dip (cU K j) (cT K j) (K.2 j 4))).2.2 else if e = 2 then nI (sh_first (cU K j) (K.2 j 4) (sh_res (cU K j) (K.2 j 4) p (cg_dip (cU K j) (cT K j) (K.2 j 4))).2.1) else nI (sh_last (cU K j) (K.2 j 4) (sh_res (cU K j) (K.2 j 4) p (cg_dip (cU K j) (cT K j) (K.2 j 4))).2.2)
theorem sh_step_ok {u : Nat → Nat} {w : Nat} {s : TT} {y z D : Nat} (hs : s.2.2 ≤ s.2.1 ∧ s.2.1 ≤ D) (hz : z ≤ y) (hy : y ≤ D) : (sh_step u w s y z).2.2 ≤ (sh_step u w s y z).2.1 ∧ (sh_step u w s y z).2.1 ≤ D := by
  unfold sh_step
  split
  · exact ⟨hz, hy⟩
  · exact hs
theorem sh_in_ok {u : Nat → Nat} {w y D : Nat} (hy : y ≤ D) : ∀ (f z : Nat) (s : TT), s.2.2 ≤ s.2.1 ∧ s.2.1 ≤ D → z + f = y + 1 → (sh_in u w y f z s).2.2 ≤ (sh_in u w y f z s).2.1 ∧ (sh_in u w y f z s).2.1 ≤ D
  | 0, _, _, hs, _ => hs
  | f + 1, z, s, hs, hz => sh_in_ok hy f (z + 1) _ (sh_step_ok hs (by omega) hy) (by omega)
theorem sh_most_le {u : Nat → Nat} {w y z : Nat} : sh_most u w y z ≤ w := by unfold sh_most sh_first sh_last; omega
