/-! ===== which cask, ask ===== -/
abbrev uL (K : KT) (c y : Nat) : Nat := cg_U (K.2 c 0) (K.2 c 1) (K.2 c 2) 1 y
abbrev tL (K : KT) (c : Nat) : Nat := cg_top (K.2 c 0) (K.2 c 2) 1
abbrev hL (K : KT) (c : Nat) : Nat := cg_hold (K.2 c 0) (K.2 c 1) (K.2 c 2) 1
def dL (K : KT) (c n : Nat) : Nat := cg_dip (uL K c) (tL K c) n
theorem okc.lT1 {K : KT} {c : Nat} (h : okc (K.2 c)) : tL K c ≤ 40 := cg_top_le h.2.1 h.2.2.2.2.1
theorem okc.lU1 {K : KT} {c : Nat} (h : okc (K.2 c)) {y : Nat} (hy : y ≤ 40) : uL K c y ≤ 67200 := cg_U_le h.2.1 h.2.2.2.2.1 hy
theorem okc.lH1 {K : KT} {c : Nat} (h : okc (K.2 c)) : hL K c ≤ 20160 := cg_hold_le2 h.2.1 h.2.2.2.2.1
abbrev NT : Type := Nat × (Nat → Nat) × (Nat → Nat)
def sf_one (K : KT) (c a b : Nat) : Bool := decide (a ≤ hL K c) && decide (dL K c a = b)
def sf_ok (K : KT) (c : Nat) (N : NT) : Nat → Bool
  | 0 => true
  | n + 1 => sf_ok K c N n && sf_one K c (N.2.1 n) (N.2.2 n)
theorem sf_false {K : KT} {c : Nat} {N : NT} {k : Nat} (h : sf_ok K c N k = false) : ∀ n, k ≤ n → sf_ok K c N n = false
  | 0, hk => by rw [Nat.le_zero.mp hk] at h; exact h
  | n + 1, hk => by
    rcases Nat.lt_or_ge n k with h1 | h1
    · rw [show n + 1 = k by omega]; exact h
    · rw [sf_ok, sf_false h n h1]; rfl
def sf_set (K : KT) (N : NT) : Nat → Nat
  | 0 => 0
  | n + 1 => sf_set K N n + (if sf_ok K n N N.1 = true then 2 ^ n else 0)
theorem sf_set_lt (K : KT) (N : NT) : ∀ n, sf_set K N n < 2 ^ n
  | 0 => Nat.zero_lt_one
  | n + 1 => by
    have := sf_set_lt K N n
    rw [sf_set, Nat.pow_succ]
    split <;> omega
def sp_which (S : ST) : Int32 := nI (sf_set S.1 S.2.2.2.2 S.1.1)
theorem shl_c {c : Nat} (hc : c < 4) : nI 1 <<< (nI c &&& 31) = nI (2 ^ c) := by
  rcases (show c = 0 ∨ c = 1 ∨ c = 2 ∨ c = 3 by omega) with rfl | rfl | rfl | rfl <;> decide
theorem or_all : ∀ c, c < 4 → ∀ a, a < 8 → a < 2 ^ c → nI a ||| nI (2 ^ c) = nI (a + 2 ^ c) := by decide +kernel
theorem or_c {a c : Nat} (hc : c < 4) (ha : a < 2 ^ c) : nI a ||| nI (2 ^ c) = nI (a + 2 ^ c) := by
  refine or_all c hc a ?_ ha
  rcases (show c = 0 ∨ c = 1 ∨ c = 2 ∨ c = 3 by omega) with rfl | rfl | rfl | rfl <;> omega
theorem or_0all : ∀ a, a < 16 → nI a ||| nI 0 = nI a := by decide +kernel
theorem or_0 {a c : Nat} (hc : c < 4) (ha : a < 2 ^ c) : nI a ||| nI 0 = nI a := by
  refine or_0all a ?_
  rcases (show c = 0 ∨ c = 1 ∨ c = 2 ∨ c = 3 by omega) with rfl | rfl | rfl | rfl <;> omega
theorem shr_all : ∀ b, b < 16 → ∀ c, c < 4 → nI b >>> (nI c &&& 31) = nI (b / 2 ^ c) := by decide +kernel
theorem and1_all : ∀ b, b < 16 → nI b &&& nI 1 = nI (b % 2) := by decide +kernel
theorem div_16 {b c : Nat} (hb : b < 16) : b / 2 ^ c < 16 := Nat.lt_of_le_of_lt (Nat.div_le_self _ _) hb
/-- an amount's dip, lying; 41 beyond what is held -/
def dv (K : KT) (n c : Nat) : Nat := if hL K c < n then 41 else dL K c n
def dvI (K : KT) (n c : Nat) : Int32 := if hL K c < n then -9 else nI (dL K c n)
theorem dL_le {K : KT} {c n : Nat} (hq : okc (K.2 c)) : dL K c n ≤ 40 := Nat.le_trans (cg_dip_le _ _ _) hq.lT1
theorem dv_eq {K : KT} {n c d : Nat} (hc : okc (K.2 c)) (hd : okc (K.2 d)) : dvI K n c = dvI K n d ↔ dv K n c = dv K n d := by
  have h1 := dL_le (n := n) hc
  have h2 := dL_le (n := n) hd
  unfold dvI dv
  split <;> split
  · exact ⟨fun _ => rfl, fun _ => rfl⟩
  · exact ⟨fun h => absurd h.symm (nI_nm9 (by omega)), fun h => by omega⟩
  · exact ⟨fun h => absurd h (nI_nm9 (by omega)), fun h => by omega⟩
  · exact nI_eq (by omega) (by omega)
def al_bit (K : KT) (b n c d : Nat) : Nat := if b / 2 ^ c % 2 = 1 ∧ b / 2 ^ d % 2 = 1 ∧ dv K n c = dv K n d then 1 else 0
def al_in (K : KT) (b n c : Nat) : Nat → Nat
  | 0 => 0
  | d + 1 => al_in K b n c d + al_bit K b n c d
theorem al_in_le (K : KT) (b n c : Nat) : ∀ d, al_in K b n c d ≤ d
  | 0 => Nat.le_refl _
  | d + 1 => by
    have := al_in_le K b n c d
    rw [al_in]
    unfold al_bit
    split <;> omega
def al_out (K : KT) (b n : Nat) : Nat → Nat
  | 0 => 0
  | c + 1 => max (al_out K b n c) (al_in K b n c K.1)
theorem al_out_le (K : KT) (b n : Nat) : ∀ c, al_out K b n c ≤ K.1
  | 0 => Nat.zero_le _
  | c + 1 => by
    have h1 := al_out_le K b n c
    have h2 := al_in_le K b n c K.1
    rw [al_out]
    omega
def ak (K : KT) (b : Nat) : Nat → Option Nat × Nat
  | 0 => (none, 5)
  | n + 1 => if al_out K b n K.1 < (ak K b n).2 then (some n, al_out K b n K.1) else ak K b n
theorem ak_le (K : KT) (b : Nat) : ∀ n, (ak K b n).2 ≤ 5
  | 0 => Nat.le_refl _
  | n + 1 => by
    have := ak_le K b n
    rw [ak]
    split
    · show al_out K b n K.1 ≤ 5; omega
    · exact this
def pc4 (b : Nat) : Nat := b % 2 + b / 2 % 2 + b / 4 % 2 + b / 8 % 2
def sp_ask (S : ST) : Int32 := if pc4 (sf_set S.1 S.2.2.2.2 S.1.1) ≤ 1 then -9 else sg_r (ak S.1 (sf_set S.1 S.2.2.2.2 S.1.1) 1000).1
theorem pc_and : ∀ b, b < 16 → (nI b &&& (nI b - nI 1) = 0 ↔ pc4 b ≤ 1) := by decide +kernel
theorem sf_16 {K : KT} {N : NT} (hn : K.1 ≤ 4) : sf_set K N K.1 < 16 := Nat.lt_of_lt_of_le (sf_set_lt K N K.1) (Nat.pow_le_pow_right (by decide) hn)
