/-! ===== the parts of MI, carried over ===== -/
def MT (I : sm_I) (T : Nat × (Nat → Nat)) : Prop := I 106 10 = nI T.1 ∧ ∀ j, j < T.1 → I 113 j = (nI (T.2 j)).toInt8.toInt32
def MIm (I : sm_I) (im : Nat → Option KT) : Prop := ∀ i, i < 2 → (im i = none → I 111 i = nI 0) ∧ ∀ K, im i = some K → I 111 i = nI 1 ∧ MK I 110 (25 * i) K
def MSn (I : sm_I) (N : Nat × (Nat → Nat) × (Nat → Nat)) : Prop := I 106 8 = nI N.1 ∧ ∀ j, j < N.1 → I 112 (2 * j) = nI (N.2.1 j) ∧ I 112 (2 * j + 1) = nI (N.2.2 j)
theorem mI_mk {I : sm_I} {S : ST} (h1 : MK I 107 0 S.1) (h2 : MT I S.2.1) (h3 : MP I S.2.2.1) (h4 : MIm I S.2.2.2.1) (h5 : MSn I S.2.2.2.2) : MI I S := ⟨h1, h2, h3, h4, h5⟩
theorem MI.T {I : sm_I} {S : ST} (h : MI I S) : MT I S.2.1 := h.2.1
theorem MI.Im {I : sm_I} {S : ST} (h : MI I S) : MIm I S.2.2.2.1 := h.2.2.2.1
theorem MI.Sn {I : sm_I} {S : ST} (h : MI I S) : MSn I S.2.2.2.2 := h.2.2.2.2
theorem MT.of {I I' : sm_I} {T : Nat × (Nat → Nat)} (h : MT I T) (h1 : I' 106 10 = I 106 10) (h2 : ∀ k, I' 113 k = I 113 k) : MT I' T := ⟨h1.trans h.1, fun j hj => (h2 j).trans (h.2 j hj)⟩
theorem MP.of {I I' : sm_I} {P : PT} (h : MP I P) (h1 : I' 106 4 = I 106 4) (h2 : ∀ k, I' 109 k = I 109 k) : MP I' P := ⟨h1.trans h.1, fun k hk => (h.2 k hk).of h2⟩
theorem MIm.of {I I' : sm_I} {im : Nat → Option KT} (h : MIm I im) (h1 : ∀ k, I' 111 k = I 111 k) (h2 : ∀ k, I' 110 k = I 110 k) : MIm I' im := fun i hi => ⟨fun q => (h1 i).trans ((h i hi).1 q), fun K q => ⟨(h1 i).trans ((h i hi).2 K q).1, ((h i hi).2 K q).2.of h2⟩⟩
theorem MSn.of {I I' : sm_I} {N : Nat × (Nat → Nat) × (Nat → Nat)} (h : MSn I N) (h1 : I' 106 8 = I 106 8) (h2 : ∀ k, I' 112 k = I 112 k) : MSn I' N := ⟨h1.trans h.1, fun j hj => ⟨(h2 _).trans (h.2 j hj).1, (h2 _).trans (h.2 j hj).2⟩⟩
/-! ===== floats that are numbers ===== -/
theorem vf_of_mag {r : UInt32} {K : Nat} (h : r.toNat % 2 ^ 31 < K * 2 ^ 23) (hK : K ≤ 255) : vf_n32 r := by
  unfold vf_n32
  rw [UInt32.le_iff_toNat_le, UInt32.toNat_and]
  show r.toNat &&& (2 ^ 31 - 1) ≤ 2139095040
  rw [Nat.and_two_pow_sub_one_eq_mod]
  have : K * 2 ^ 23 ≤ 255 * 2 ^ 23 := Nat.mul_le_mul_right _ hK
  omega
def cg_str (s w : Nat) : UInt32 := FP.fdiv (FP.i2f (nI s)) (FP.i2f (nI w))
theorem cg_str_mag {s w : Nat} (h0 : 0 < w) (hw : w < 2 ^ 31) : (cg_str s w).toNat % 2 ^ 31 < 161 * 2 ^ 23 := by
  have h1 := Jvm.FP.Core.i2f_mag (nI s)
  have h2 := Jvm.FP.Core.i2f_big (v := nI w) (Jvm.FP.Core.int32_ne (nI_ne0 h0 hw))
  have h3 := Jvm.FP.Core.fdiv_mag h1 h2.1 h2.2 (by decide) (by decide)
  have e : (160 + (149 - 23 - 1) - 127 + 3) = 161 := by decide
  rw [e] at h3
  unfold cg_str
  exact h3
theorem cg_thou_mag {r : UInt32} {K : Nat} (h : r.toNat % 2 ^ 31 < K * 2 ^ 23) (hK : K ≤ 200) : vf_n32 (FP.fmul 1148846080 r) := by
  have h1 : (1148846080 : UInt32).toNat % 2 ^ 31 < 137 * 2 ^ 23 := by decide
  have h2 := Jvm.FP.Core.fmul_mag (a := 1148846080) h1 h (by decide) (by omega)
  exact vf_of_mag h2 (by omega)
def cg_thou (r : UInt32) : Int32 := FP.f2i (FP.fmul 1148846080 r)
/-! ===== more answers ===== -/
def sp_type (S : ST) (x : Int32) : Int32 × ST := match cg_in 0 255 x with
  | none => (-1, S)
  | some l => if S.2.1.1 = 60 then (-3, S) else (nI (S.2.1.1 + 1), (S.1, (S.2.1.1 + 1, fun j => if j = S.2.1.1 then l else S.2.1.2 j), S.2.2))
def sp_clear (S : ST) : Int32 × ST := (nI S.2.1.1, (S.1, (0, S.2.1.2), S.2.2))
def sp_sees (S : ST) (n y : Int32) : Int32 × ST := match cg_in 0 99999 n with
  | none => (-1, S)
  | some a => match cg_in 0 40 y with
    | none => (-1, S)
    | some b => if S.2.2.2.2.1 = 6 then (-3, S) else (nI (S.2.2.2.2.1 + 1), (S.1, S.2.1, S.2.2.1, S.2.2.2.1, (S.2.2.2.2.1 + 1, (fun j => if j = S.2.2.2.2.1 then a else S.2.2.2.2.2.1 j), (fun j => if j = S.2.2.2.2.1 then b else S.2.2.2.2.2.2 j))))
def sp_forget (S : ST) : Int32 × ST := (nI S.2.2.2.2.1, (S.1, S.2.1, S.2.2.1, S.2.2.2.1, (0, S.2.2.2.2.2)))
def sp_keep (S : ST) (i : Int32) : Int32 × ST := match cg_in 0 1 i with
  | none => (-1, S)
  | some a => (nI S.1.1, (S.1, S.2.1, S.2.2.1, (fun j => if j = a then some S.1 else S.2.2.2.1 j), S.2.2.2.2))
def sp_back (S : ST) (i : Int32) : Int32 × ST := match cg_in 0 1 i with
  | none => (-1, S)
  | some a => match S.2.2.2.1 a with
    | none => (-2, S)
    | some K => (nI K.1, (K, S.2.1, (0, S.2.2.1.2), S.2.2.2.1, S.2.2.2.2))
def sp_count (S : ST) (w : Int32) : Int32 := match cg_ix 6 w with
  | none => -1
  | some a => if a = 0 then nI S.1.1 else if a = 1 then nI (cg_sum (fun c => S.1.2 c 4) S.1.1) else if a = 2 then nI (cg_sum (fun c => S.1.2 c 5) S.1.1) else if a = 3 then nI S.2.2.2.2.1 else if a = 4 then nI S.2.1.1 else nI S.2.2.1.1
def sp_cask (K : KT) (c w : Int32) : Int32 := match cg_ix K.1 c with
  | none => -1
  | some j => match cg_ix 9 w with
    | none => -1
    | some a => if a < 4 then nI (K.2 j a) else if a = 4 then nI (cH K j) else if a = 5 then nI (K.2 j 4) else if a = 6 then nI (K.2 j 5) else if a = 7 then nI (cg_dip (cU K j) (cT K j) (K.2 j 4)) else if K.2 j 4 = 0 then -9 else cg_thou (cg_str (K.2 j 5) (K.2 j 4))
theorem okS.type {S : ST} (h : okS S) {l : Nat} (hl : l ≤ 255) (h60 : ¬ S.2.1.1 = 60) : okS (S.1, (S.2.1.1 + 1, fun j => if j = S.2.1.1 then l else S.2.1.2 j), S.2.2) := by
  obtain ⟨h1, ⟨h2, h3⟩, h4⟩ := h
  refine ⟨h1, ⟨by show S.2.1.1 + 1 ≤ 60; omega, fun j hj => ?_⟩, h4⟩
  have hj' : j < S.2.1.1 + 1 := hj
  show (if j = S.2.1.1 then l else S.2.1.2 j) < 256
  split
  · omega
  · exact h3 j (by omega)
theorem okS.sees {S : ST} (h : okS S) {a b : Nat} (ha : a ≤ 99999) (hb : b ≤ 40) (h6 : ¬ S.2.2.2.2.1 = 6) : okS (S.1, S.2.1, S.2.2.1, S.2.2.2.1, (S.2.2.2.2.1 + 1, (fun j => if j = S.2.2.2.2.1 then a else S.2.2.2.2.2.1 j), (fun j => if j = S.2.2.2.2.1 then b else S.2.2.2.2.2.2 j))) := by
  obtain ⟨h1, h2, h3, h4, h5, h7⟩ := h
  refine ⟨h1, h2, h3, h4, by show S.2.2.2.2.1 + 1 ≤ 6; omega, fun j hj => ?_⟩
  have hj' : j < S.2.2.2.2.1 + 1 := hj
  show (if j = S.2.2.2.2.1 then a else S.2.2.2.2.2.1 j) ≤ 99999 ∧ (if j = S.2.2.2.2.1 then b else S.2.2.2.2.2.2 j) ≤ 40
  split
  · exact ⟨ha, hb⟩
  · exact h7 j (by omega)
theorem okS.keep {S : ST} (h : okS S) {a : Nat} : okS (S.1, S.2.1, S.2.2.1, (fun j => if j = a then some S.1 else S.2.2.2.1 j), S.2.2.2.2) := by
  obtain ⟨h1, h2, h3, h4, h5⟩ := h
  refine ⟨h1, h2, h3, fun i K hi hK => ?_, h5⟩
  have hK' : (if i = a then some S.1 else S.2.2.2.1 i) = some K := hK
  split at hK'
  · cases hK'; exact h1
  · exact h4 i K hi hK'
