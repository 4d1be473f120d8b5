theorem x_sh {ζ : sm_Z} {R : Room} {μ : sm_Mu} {pc : Nat} {lv : List (Option Value)} {st : List Value} {cl sl n : Nat} {sh sh' : Nat → sm_S} {I : sm_I} {Q : sm_Qt} (h : ∀ b, b < n → sh b = sh' b) (k : Xm ζ R μ pc lv st cl sl n sh' I Q) : Xm ζ R μ pc lv st cl sl n sh I Q := by
  intro Γ p l e s m args below meth c Z H locs ls C D
  exact k Γ p l e s m args below meth c Z H locs ls C ⟨D.1, ⟨D.2.1.1, D.2.1.2.1, fun a ha => by rw [← h a ha]; exact D.2.1.2.2 a ha⟩, D.2.2⟩
/-- shapes known one by one, below n -/
def shK (sh : Nat → sm_S) (n : Nat) : Prop := ∀ b, b < n → sh b = SH b
theorem shK.s {sh : Nat → sm_S} {n : Nat} (h : shK sh n) (e : sh n = SH n) : shK sh (n + 1) := fun b hb => by
  by_cases hx : b = n
  · subst hx; exact e
  · exact h b (by omega)
theorem shK.of {sh sh' : Nat → sm_S} {n : Nat} (h : shK sh n) (hf : ∀ b, b < n → sh' b = sh b) : shK sh' n := fun b hb => (hf b hb).trans (h b hb)
