section MM
variable {ζ : sm_Z} {R : Room} {μ : sm_Mu} {pc : Nat} {lv : List (Option Value)} {st : List Value} {cl sl n : Nat} {sh : Nat → sm_S} {I : sm_I} {Q : sm_Qt}
theorem x_mmax {x y : Int32} {idx : Nat} (hd : decode μ.2.1 pc = .ok (.invokestatic idx, 3)) (hl : Cond.methodLink μ.1.cls idx mJ9_max_7cf53.1 ∈ lw_good) (hf : 1 ≤ R.frames) (hlo : 21 ≤ R.locals) (hcs : cl ≤ R.cells ∧ sl ≤ R.slots) (hst : (st.map fun v => v.category).sum ≤ 8) (k : Xm ζ R μ (pc + 3) lv (.int (if x < y then y else x) :: st) cl sl n sh I Q) : Xm ζ R μ pc lv (.int y :: .int x :: st) cl sl n sh I Q := by
  intro Γ p l e s m args below meth c Z H locs ls C D
  have hts := C.2.2.2.2.1
  exact va_mmax C.1 C.2.1 (C.2.2.1.trans D.2.2.1.symm) C.2.2.2.1 (hts _ hl) (hts _ ssJ9_max_7cf53) (hts _ meJ9_max_7cf53.2.1) (hts _ meJ9_max_7cf53.1) hf (by show ((st.map (sm_V Γ.2.1)).map fun v => v.category).sum + 13 ≤ _; rw [sm_catsum]; omega) hcs.1 hcs.2 hd (k Γ p l e s m args below meth c Z H locs ls C D)
theorem x_mmin {x y : Int32} {idx : Nat} (hd : decode μ.2.1 pc = .ok (.invokestatic idx, 3)) (hl : Cond.methodLink μ.1.cls idx mJ9_min_7cf53.1 ∈ lw_good) (hf : 1 ≤ R.frames) (hlo : 21 ≤ R.locals) (hcs : cl ≤ R.cells ∧ sl ≤ R.slots) (hst : (st.map fun v => v.category).sum ≤ 8) (k : Xm ζ R μ (pc + 3) lv (.int (if y < x then y else x) :: st) cl sl n sh I Q) : Xm ζ R μ pc lv (.int y :: .int x :: st) cl sl n sh I Q := by
  intro Γ p l e s m args below meth c Z H locs ls C D
  have hts := C.2.2.2.2.1
  exact va_mmin C.1 C.2.1 (C.2.2.1.trans D.2.2.1.symm) C.2.2.2.1 (hts _ hl) (hts _ ssJ9_min_7cf53) (hts _ meJ9_min_7cf53.2.1) (hts _ meJ9_min_7cf53.1) hf (by show ((st.map (sm_V Γ.2.1)).map fun v => v.category).sum + 13 ≤ _; rw [sm_catsum]; omega) hcs.1 hcs.2 hd (k Γ p l e s m args below meth c Z H locs ls C D)
end MM
section MO
variable {ζ : sm_Z} {d : Nat} {μ : sm_Mu} {pc : Nat} {lv : List (Option Value)} {st : List Value} {I : sm_I} {Q : Option Value → sm_I → Prop}
theorem o_maxN {x y idx : Nat} (hd : decode μ.2.1 pc = .ok (.invokestatic idx, 3)) (hl : Cond.methodLink μ.1.cls idx mJ9_max_7cf53.1 ∈ lw_good) (hf : 1 ≤ d) (hx : x < 2 ^ 31) (hy : y < 2 ^ 31) (hst : (st.map fun v => v.category).sum ≤ 8) (k : X0 ζ d μ (pc + 3) lv (.int (nI (max x y)) :: st) I Q) : X0 ζ d μ pc lv (.int (nI y) :: .int (nI x) :: st) I Q := by
  refine x_mmax hd hl hf (by show 21 ≤ 40 * d; omega) ⟨Nat.le_refl _, Nat.le_refl _⟩ hst ?_
  rw [show (if nI x < nI y then nI y else nI x) = nI (max x y) from ?_]
  · exact k
  · by_cases h : x < y
    · rw [if_pos ((nI_ltI hx hy).mpr h), Nat.max_eq_right (Nat.le_of_lt h)]
    · rw [if_neg (fun q => h ((nI_ltI hx hy).mp q)), Nat.max_eq_left (Nat.not_lt.mp h)]
theorem o_minN {x y idx : Nat} (hd : decode μ.2.1 pc = .ok (.invokestatic idx, 3)) (hl : Cond.methodLink μ.1.cls idx mJ9_min_7cf53.1 ∈ lw_good) (hf : 1 ≤ d) (hx : x < 2 ^ 31) (hy : y < 2 ^ 31) (hst : (st.map fun v => v.category).sum ≤ 8) (k : X0 ζ d μ (pc + 3) lv (.int (nI (min x y)) :: st) I Q) : X0 ζ d μ pc lv (.int (nI y) :: .int (nI x) :: st) I Q := by
  refine x_mmin hd hl hf (by show 21 ≤ 40 * d; omega) ⟨Nat.le_refl _, Nat.le_refl _⟩ hst ?_
  rw [show (if nI y < nI x then nI y else nI x) = nI (min x y) from ?_]
  · exact k
  · by_cases h : y < x
    · rw [if_pos ((nI_ltI hy hx).mpr h), Nat.min_eq_right (Nat.le_of_lt h)]
    · rw [if_neg (fun q => h ((nI_ltI hy hx).mp q)), Nat.min_eq_left (Nat.not_lt.mp h)]
end MO
