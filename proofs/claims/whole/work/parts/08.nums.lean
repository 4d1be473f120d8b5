theorem up2_x {I : sm_I} {a k b j : Nat} {v : Int32} (h : ¬ (b = a ∧ j = k)) : up2 I a k v b j = I b j := by simp only [up2, if_neg h]
theorem in_nat {x : Int32} {a b : Nat} (ha : a < 2 ^ 31) (hb : b < 2 ^ 31) (h1 : nI a ≤ x) (h2 : x ≤ nI b) : ∃ j : Nat, a ≤ j ∧ j ≤ b ∧ x = nI j := by
  have e1 := Int32.le_iff_toInt_le.mp h1
  have e2 := Int32.le_iff_toInt_le.mp h2
  rw [nI_toInt ha] at e1
  rw [nI_toInt hb] at e2
  have h0 : ¬ x < 0 := fun q => by
    have := Int32.lt_iff_toInt_lt.mp q
    rw [Int32.toInt_zero] at this
    omega
  obtain ⟨j, hj, rfl⟩ := nI_of h0
  rw [nI_toInt hj] at e1 e2
  exact ⟨j, by omega, by omega, rfl⟩
theorem nI_nle' {a b : Nat} (ha : a < 2 ^ 31) (hb : b < 2 ^ 31) : ¬ nI a ≤ nI b ↔ b < a := by rw [nI_leI ha hb]; omega
theorem nI_nlt' {a b : Nat} (ha : a < 2 ^ 31) (hb : b < 2 ^ 31) : ¬ nI a < nI b ↔ b ≤ a := by rw [nI_ltI ha hb]; omega
theorem i32_nle {x y : Int32} (h : ¬ x ≤ y) : y < x := Int32.not_le.mp h
theorem i32_nlt {x y : Int32} (h : ¬ x < y) : y ≤ x := Int32.not_lt.mp h
section OP
variable {ζ : sm_Z} {d : Nat} {μ : sm_Mu} {pc : Nat} {lv : List (Option Value)} {st : List Value} {I : sm_I} {Q : Option Value → sm_I → Prop}
/-- calls that change nothing and answer v -/
theorem o_callVp {idx d' a ci : Nat} {μ' : sm_Mu} {as stk : List Value} {v : Value} {rs : List (Option Nat)} {K : vw_C} (hd : decode μ.2.1 pc = .ok (.invokevirtual idx, 3)) (hE : E0 d' μ' (.ref a :: as) I (fun r I' => I' = I ∧ r = some v)) (hstk : stk = as.reverse ++ .ref a :: st) (hm : sm_Me μ' as.length) (hin : Cond.instanceMethod μ'.1 ∈ lw_good) (hsel : Cond.selects μ'.1.cls μ'.1 μ'.1 ∈ lw_good) (hl : Cond.methodLink μ.1.cls idx μ'.1 ∈ lw_good) (hs : SH a = (0, ci, rs)) (hc : vwCl[ci]? = some K) (hK : K.1 = μ'.1.cls) (hdd : d' < d) (hml : μ'.2.2.1 ≤ 21) (hst : (st.map fun v => v.category).sum ≤ 8)
    (kk : X0 ζ d μ (pc + 3) lv (v :: st) I Q) : X0 ζ d μ pc lv stk I Q := o_callV hd hE hstk hm hin hsel hl hs hc hK hdd hml hst (fun r I' h => by obtain ⟨h1, h2⟩ := h; rw [h1, h2]; exact kk)
theorem o_callSp {idx d' : Nat} {μ' : sm_Mu} {as stk : List Value} {v : Value} (hd : decode μ.2.1 pc = .ok (.invokestatic idx, 3)) (hE : E0 d' μ' as I (fun r I' => I' = I ∧ r = some v)) (hstk : stk = as.reverse ++ st) (hm : sm_Me μ' as.length) (hstt : Cond.static μ'.1 ∈ lw_good) (hl : Cond.methodLink μ.1.cls idx μ'.1 ∈ lw_good) (hdd : d' < d) (hml : μ'.2.2.1 ≤ 21) (hst : (st.map fun v => v.category).sum ≤ 8)
    (kk : X0 ζ d μ (pc + 3) lv (v :: st) I Q) : X0 ζ d μ pc lv stk I Q := o_callS hd hE hstk hm hstt hl hdd hml hst (fun r I' h => by obtain ⟨h1, h2⟩ := h; rw [h1, h2]; exact kk)
end OP
