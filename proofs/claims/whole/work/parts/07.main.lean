def SHL : List sm_S := [(0, 8, [some 1, some 6, some 13, some 19, some 69, some 70, some 83, some 86, some 87, some 104, some 105]), (0, 7, [some 2, none, some 3, some 4, some 5]), (1, 60, []), (1, 61, []), (1, 61, []), (1, 61, []), (0, 4, [some 7, none, some 1, none]), (0, 1, [some 8, none]), (4, 4, [some 9, some 10, some 11, some 12]), (0, 0, [none, none, none, none, none, none]), (0, 0, [none, none, none, none, none, none]), (0, 0, [none, none, none, none, none, none]), (0, 0, [none, none, none, none, none, none]), (0, 1, [some 14, none]), (4, 4, [some 15, some 16, some 17, some 18]), (0, 0, [none, none, none, none, none, none]), (0, 0, [none, none, none, none, none, none]), (0, 0, [none, none, none, none, none, none]), (0, 0, [none, none, none, none, none, none]), (0, 3, [some 20, none, none]), (5, 8, [some 21, some 27, some 33, some 39, some 45, some 51, some 57, some 63]), (0, 1, [some 22, none]), (4, 4, [some 23, some 24, some 25, some 26]), (0, 0, [none, none, none, none, none, none]), (0, 0, [none, none, none, none, none, none]), (0, 0, [none, none, none, none, none, none]), (0, 0, [none, none, none, none, none, none]), (0, 1, [some 28, none]), (4, 4, [some 29, some 30, some 31, some 32]), (0, 0, [none, none, none, none, none, none]), (0, 0, [none, none, none, none, none, none]), (0, 0, [none, none, none, none, none, none]), (0, 0, [none, none, none, none, none, none]), (0, 1, [some 34, none]), (4, 4, [some 35, some 36, some 37, some 38]), (0, 0, [none, none, none, none, none, none]), (0, 0, [none, none, none, none, none, none]), (0, 0, [none, none, none, none, none, none]), (0, 0, [none, none, none, none, none, none]), (0, 1, [some 40, none]), (4, 4, [some 41, some 42, some 43, some 44]), (0, 0, [none, none, none, none, none, none]), (0, 0, [none, none, none, none, none, none]), (0, 0, [none, none, none, none, none, none]), (0, 0, [none, none, none, none, none, none]), (0, 1, [some 46, none]), (4, 4, [some 47, some 48, some 49, some 50]), (0, 0, [none, none, none, none, none, none]), (0, 0, [none, none, none, none, none, none]), (0, 0, [none, none, none, none, none, none]), (0, 0, [none, none, none, none, none, none]), (0, 1, [some 52, none]), (4, 4, [some 53, some 54, some 55, some 56]), (0, 0, [none, none, none, none, none, none]), (0, 0, [none, none, none, none, none, none]), (0, 0, [none, none, none, none, none, none]), (0, 0, [none, none, none, none, none, none]), (0, 1, [some 58, none]), (4, 4, [some 59, some 60, some 61, some 62]), (0, 0, [none, none, none, none, none, none]), (0, 0, [none, none, none, none, none, none]), (0, 0, [none, none, none, none, none, none]), (0, 0, [none, none, none, none, none, none]), (0, 1, [some 64, none]), (4, 4, [some 65, some 66, some 67, some 68]), (0, 0, [none, none, none, none, none, none]), (0, 0, [none, none, none, none, none, none]), (0, 0, [none, none, none, none, none, none]), (0, 0, [none, none, none, none, none, none]), (5, 2, [some 71, some 77]), (2, 2, []), (0, 1, [some 72, none]), (4, 4, [some 73, some 74, some 75, some 76]), (0, 0, [none, none, none, none, none, none]), (0, 0, [none, none, none, none, none, none]), (0, 0, [none, none, none, none, none, none]), (0, 0, [none, none, none, none, none, none]), (0, 1, [some 78, none]), (4, 4, [some 79, some 80, some 81, some 82]), (0, 0, [none, none, none, none, none, none]), (0, 0, [none, none, none, none, none, none]), (0, 0, [none, none, none, none, none, none]), (0, 0, [none, none, none, none, none, none]), (0, 6, [some 84, some 85, none]), (1, 6, []), (1, 6, []), (6, 4, [some 88, some 92, some 96, some 100]), (6, 4, [some 90, some 94, some 98, some 102]), (0, 2, [none, some 89, none, none, none, none]), (1, 41, []), (0, 2, [none, some 91, none, none, none, none]), (1, 41, []), (0, 2, [none, some 93, none, none, none, none]), (1, 41, []), (0, 2, [none, some 95, none, none, none, none]), (1, 41, []), (0, 2, [none, some 97, none, none, none, none]), (1, 41, []), (0, 2, [none, some 99, none, none, none, none]), (1, 41, []), (0, 2, [none, some 101, none, none, none, none]), (1, 41, []), (0, 2, [none, some 103, none, none, none, none]), (1, 41, []), (0, 5, [none, none, none, none, none]), (1, 4, []), (0, 9, [none, some 107, some 108, some 109, none, some 110, some 111, some 112, none, some 113, none, none, none, none, none, none, some 114, none, none, none, some 115]), (1, 25, []), (1, 25, []), (1, 200, []), (1, 50, []), (2, 2, []), (1, 12, []), (3, 60, []), (1, 41, []), (1, 4000, [])]
def SH (a : Nat) : sm_S := SHL.getD a (9, 0, [])
theorem SH_lt {a : Nat} {q : sm_S} (h : SH a = q) (hq : q.1 ≠ 9) : a < 116 := by
  rcases Nat.lt_or_ge a 116 with h1 | h1
  · exact h1
  · exfalso
    apply hq
    rw [← h]
    unfold SH
    rw [List.getD_eq_getElem?_getD, List.getElem?_eq_none (by exact h1)]
    rfl
theorem sh_0 : SH 0 = (0, 8, [some 1, some 6, some 13, some 19, some 69, some 70, some 83, some 86, some 87, some 104, some 105]) := rfl
theorem sh_1 : SH 1 = (0, 7, [some 2, none, some 3, some 4, some 5]) := rfl
theorem sh_2 : SH 2 = (1, 60, []) := rfl
theorem sh_3 : SH 3 = (1, 61, []) := rfl
theorem sh_4 : SH 4 = (1, 61, []) := rfl
theorem sh_5 : SH 5 = (1, 61, []) := rfl
theorem sh_6 : SH 6 = (0, 4, [some 7, none, some 1, none]) := rfl
theorem sh_7 : SH 7 = (0, 1, [some 8, none]) := rfl
theorem sh_8 : SH 8 = (4, 4, [some 9, some 10, some 11, some 12]) := rfl
theorem sh_9 : SH 9 = (0, 0, [none, none, none, none, none, none]) := rfl
theorem sh_10 : SH 10 = (0, 0, [none, none, none, none, none, none]) := rfl
theorem sh_11 : SH 11 = (0, 0, [none, none, none, none, none, none]) := rfl
theorem sh_12 : SH 12 = (0, 0, [none, none, none, none, none, none]) := rfl
theorem sh_13 : SH 13 = (0, 1, [some 14, none]) := rfl
theorem sh_14 : SH 14 = (4, 4, [some 15, some 16, some 17, some 18]) := rfl
theorem sh_15 : SH 15 = (0, 0, [none, none, none, none, none, none]) := rfl
theorem sh_16 : SH 16 = (0, 0, [none, none, none, none, none, none]) := rfl
theorem sh_17 : SH 17 = (0, 0, [none, none, none, none, none, none]) := rfl
theorem sh_18 : SH 18 = (0, 0, [none, none, none, none, none, none]) := rfl
theorem sh_19 : SH 19 = (0, 3, [some 20, none, none]) := rfl
theorem sh_20 : SH 20 = (5, 8, [some 21, some 27, some 33, some 39, some 45, some 51, some 57, some 63]) := rfl
theorem sh_21 : SH 21 = (0, 1, [some 22, none]) := rfl
theorem sh_22 : SH 22 = (4, 4, [some 23, some 24, some 25, some 26]) := rfl
theorem sh_23 : SH 23 = (0, 0, [none, none, none, none, none, none]) := rfl
theorem sh_24 : SH 24 = (0, 0, [none, none, none, none, none, none]) := rfl
theorem sh_25 : SH 25 = (0, 0, [none, none, none, none, none, none]) := rfl
theorem sh_26 : SH 26 = (0, 0, [none, none, none, none, none, none]) := rfl
theorem sh_27 : SH 27 = (0, 1, [some 28, none]) := rfl
theorem sh_28 : SH 28 = (4, 4, [some 29, some 30, some 31, some 32]) := rfl
theorem sh_29 : SH 29 = (0, 0, [none, none, none, none, none, none]) := rfl
theorem sh_30 : SH 30 = (0, 0, [none, none, none, none, none, none]) := rfl
theorem sh_31 : SH 31 = (0, 0, [none, none, none, none, none, none]) := rfl
theorem sh_32 : SH 32 = (0, 0, [none, none, none, none, none, none]) := rfl
theorem sh_33 : SH 33 = (0, 1, [some 34, none]) := rfl
theorem sh_34 : SH 34 = (4, 4, [some 35, some 36, some 37, some 38]) := rfl
theorem sh_35 : SH 35 = (0, 0, [none, none, none, none, none, none]) := rfl
theorem sh_36 : SH 36 = (0, 0, [none, none, none, none, none, none]) := rfl
theorem sh_37 : SH 37 = (0, 0, [none, none, none, none, none, none]) := rfl
theorem sh_38 : SH 38 = (0, 0, [none, none, none, none, none, none]) := rfl
theorem sh_39 : SH 39 = (0, 1, [some 40, none]) := rfl
theorem sh_40 : SH 40 = (4, 4, [some 41, some 42, some 43, some 44]) := rfl
theorem sh_41 : SH 41 = (0, 0, [none, none, none, none, none, none]) := rfl
theorem sh_42 : SH 42 = (0, 0, [none, none, none, none, none, none]) := rfl
theorem sh_43 : SH 43 = (0, 0, [none, none, none, none, none, none]) := rfl
theorem sh_44 : SH 44 = (0, 0, [none, none, none, none, none, none]) := rfl
theorem sh_45 : SH 45 = (0, 1, [some 46, none]) := rfl
theorem sh_46 : SH 46 = (4, 4, [some 47, some 48, some 49, some 50]) := rfl
theorem sh_47 : SH 47 = (0, 0, [none, none, none, none, none, none]) := rfl
theorem sh_48 : SH 48 = (0, 0, [none, none, none, none, none, none]) := rfl
theorem sh_49 : SH 49 = (0, 0, [none, none, none, none, none, none]) := rfl
theorem sh_50 : SH 50 = (0, 0, [none, none, none, none, none, none]) := rfl
theorem sh_51 : SH 51 = (0, 1, [some 52, none]) := rfl
theorem sh_52 : SH 52 = (4, 4, [some 53, some 54, some 55, some 56]) := rfl
theorem sh_53 : SH 53 = (0, 0, [none, none, none, none, none, none]) := rfl
theorem sh_54 : SH 54 = (0, 0, [none, none, none, none, none, none]) := rfl
theorem sh_55 : SH 55 = (0, 0, [none, none, none, none, none, none]) := rfl
theorem sh_56 : SH 56 = (0, 0, [none, none, none, none, none, none]) := rfl
theorem sh_57 : SH 57 = (0, 1, [some 58, none]) := rfl
theorem sh_58 : SH 58 = (4, 4, [some 59, some 60, some 61, some 62]) := rfl
theorem sh_59 : SH 59 = (0, 0, [none, none, none, none, none, none]) := rfl
theorem sh_60 : SH 60 = (0, 0, [none, none, none, none, none, none]) := rfl
theorem sh_61 : SH 61 = (0, 0, [none, none, none, none, none, none]) := rfl
theorem sh_62 : SH 62 = (0, 0, [none, none, none, none, none, none]) := rfl
theorem sh_63 : SH 63 = (0, 1, [some 64, none]) := rfl
theorem sh_64 : SH 64 = (4, 4, [some 65, some 66, some 67, some 68]) := rfl
theorem sh_65 : SH 65 = (0, 0, [none, none, none, none, none, none]) := rfl
theorem sh_66 : SH 66 = (0, 0, [none, none, none, none, none, none]) := rfl
theorem sh_67 : SH 67 = (0, 0, [none, none, none, none, none, none]) := rfl
theorem sh_68 : SH 68 = (0, 0, [none, none, none, none, none, none]) := rfl
theorem sh_69 : SH 69 = (5, 2, [some 71, some 77]) := rfl
theorem sh_70 : SH 70 = (2, 2, []) := rfl
theorem sh_71 : SH 71 = (0, 1, [some 72, none]) := rfl
theorem sh_72 : SH 72 = (4, 4, [some 73, some 74, some 75, some 76]) := rfl
theorem sh_73 : SH 73 = (0, 0, [none, none, none, none, none, none]) := rfl
theorem sh_74 : SH 74 = (0, 0, [none, none, none, none, none, none]) := rfl
theorem sh_75 : SH 75 = (0, 0, [none, none, none, none, none, none]) := rfl
theorem sh_76 : SH 76 = (0, 0, [none, none, none, none, none, none]) := rfl
theorem sh_77 : SH 77 = (0, 1, [some 78, none]) := rfl
theorem sh_78 : SH 78 = (4, 4, [some 79, some 80, some 81, some 82]) := rfl
theorem sh_79 : SH 79 = (0, 0, [none, none, none, none, none, none]) := rfl
theorem sh_80 : SH 80 = (0, 0, [none, none, none, none, none, none]) := rfl
theorem sh_81 : SH 81 = (0, 0, [none, none, none, none, none, none]) := rfl
theorem sh_82 : SH 82 = (0, 0, [none, none, none, none, none, none]) := rfl
theorem sh_83 : SH 83 = (0, 6, [some 84, some 85, none]) := rfl
theorem sh_84 : SH 84 = (1, 6, []) := rfl
theorem sh_85 : SH 85 = (1, 6, []) := rfl
theorem sh_86 : SH 86 = (6, 4, [some 88, some 92, some 96, some 100]) := rfl
theorem sh_87 : SH 87 = (6, 4, [some 90, some 94, some 98, some 102]) := rfl
theorem sh_88 : SH 88 = (0, 2, [none, some 89, none, none, none, none]) := rfl
theorem sh_89 : SH 89 = (1, 41, []) := rfl
theorem sh_90 : SH 90 = (0, 2, [none, some 91, none, none, none, none]) := rfl
theorem sh_91 : SH 91 = (1, 41, []) := rfl
theorem sh_92 : SH 92 = (0, 2, [none, some 93, none, none, none, none]) := rfl
theorem sh_93 : SH 93 = (1, 41, []) := rfl
theorem sh_94 : SH 94 = (0, 2, [none, some 95, none, none, none, none]) := rfl
theorem sh_95 : SH 95 = (1, 41, []) := rfl
theorem sh_96 : SH 96 = (0, 2, [none, some 97, none, none, none, none]) := rfl
theorem sh_97 : SH 97 = (1, 41, []) := rfl
theorem sh_98 : SH 98 = (0, 2, [none, some 99, none, none, none, none]) := rfl
theorem sh_99 : SH 99 = (1, 41, []) := rfl
theorem sh_100 : SH 100 = (0, 2, [none, some 101, none, none, none, none]) := rfl
theorem sh_101 : SH 101 = (1, 41, []) := rfl
theorem sh_102 : SH 102 = (0, 2, [none, some 103, none, none, none, none]) := rfl
theorem sh_103 : SH 103 = (1, 41, []) := rfl
theorem sh_104 : SH 104 = (0, 5, [none, none, none, none, none]) := rfl
theorem sh_105 : SH 105 = (1, 4, []) := rfl
theorem sh_106 : SH 106 = (0, 9, [none, some 107, some 108, some 109, none, some 110, some 111, some 112, none, some 113, none, none, none, none, none, none, some 114, none, none, none, some 115]) := rfl
theorem sh_107 : SH 107 = (1, 25, []) := rfl
theorem sh_108 : SH 108 = (1, 25, []) := rfl
theorem sh_109 : SH 109 = (1, 200, []) := rfl
theorem sh_110 : SH 110 = (1, 50, []) := rfl
theorem sh_111 : SH 111 = (2, 2, []) := rfl
theorem sh_112 : SH 112 = (1, 12, []) := rfl
theorem sh_113 : SH 113 = (3, 60, []) := rfl
theorem sh_114 : SH 114 = (1, 41, []) := rfl
theorem sh_115 : SH 115 = (1, 4000, []) := rfl

/-- THE WALK behind both constructors: shapes are SH, nothing is made -/
def X0 (ζ : sm_Z) (d : Nat) (μ : sm_Mu) (pc : Nat) (lv : List (Option Value)) (st : List Value) (I : sm_I) (Q : Option Value → sm_I → Prop) : Prop := Xm ζ (sm_rm d 0 0) μ pc lv st 0 0 116 SH I (fun r n sh I' => n = 116 ∧ sh = SH ∧ Q r I')
/-- A CONTRACT there -/
def E0 (d : Nat) (μ : sm_Mu) (as : List Value) (I : sm_I) (Q : Option Value → sm_I → Prop) : Prop := Em d 0 0 μ as 116 SH I (fun r n sh I' => n = 116 ∧ sh = SH ∧ Q r I')
theorem E0.of {d : Nat} {μ : sm_Mu} {as : List Value} {I : sm_I} {Q : Option Value → sm_I → Prop} (hy : plainName μ.1.cls = true) (hcat : ∀ v ∈ as, v.category = 1) (hlen : as.length ≤ μ.2.2.1) (hb : ∀ ζ, X0 ζ d μ 0 (as.map some ++ List.replicate (μ.2.2.1 - as.length) none) [] I Q) : E0 d μ as I Q := Em.of hy hcat hlen hb
section O0
variable {ζ : sm_Z} {d : Nat} {μ : sm_Mu} {pc : Nat} {lv : List (Option Value)} {st : List Value} {I : sm_I} {Q : Option Value → sm_I → Prop}
theorem X0.mono {Q' : Option Value → sm_I → Prop} (h : ∀ r I, Q' r I → Q r I) (k : X0 ζ d μ pc lv st I Q') : X0 ζ d μ pc lv st I Q := Xm.mono (fun r n sh I h2 => ⟨h2.1, h2.2.1, h r I h2.2.2⟩) k
theorem o_ret {r : Option Value} (hr : sm_R μ r pc) (hq : Q r I) : X0 ζ d μ pc lv r.toList I Q := x_ret hr (Nat.zero_le _) (Nat.zero_le _) ⟨rfl, rfl, hq⟩
/-- ireturn of an int -/
theorem o_iret {v : Int32} (hd : decode μ.2.1 pc = .ok (.ireturn, 1)) (ht : μ.2.2.2 = some .int) (hq : Q (some (.int v)) I) : X0 ζ d μ pc lv [.int v] I Q := o_ret (r := some (.int v)) ⟨⟨.int, ht, rfl⟩, hd⟩ hq
/-- ireturn of a boolean -/
theorem o_zret {v : Int32} (hd : decode μ.2.1 pc = .ok (.ireturn, 1)) (ht : μ.2.2.2 = some .boolean) (hv : v = 0 ∨ v = 1) (hq : Q (some (.int v)) I) : X0 ζ d μ pc lv [.int v] I Q := o_ret (r := some (.int v)) ⟨⟨.boolean, ht, by rcases hv with rfl | rfl <;> rfl⟩, hd⟩ hq
theorem o_vret (hd : decode μ.2.1 pc = .ok (.return_, 1)) (ht : μ.2.2.2 = none) (hq : Q none I) : X0 ζ d μ pc lv [] I Q := o_ret (r := none) ⟨ht, hd⟩ hq
theorem o_fret {v : UInt32} (hd : decode μ.2.1 pc = .ok (.freturn, 1)) (ht : μ.2.2.2 = some .float) (hq : Q (some (.float v)) I) : X0 ζ d μ pc lv [.float v] I Q := o_ret (r := some (.float v)) ⟨ht, hd⟩ hq
theorem o_aret {a : Nat} {K : String} (hd : decode μ.2.1 pc = .ok (.areturn, 1)) (ht : μ.2.2.2 = some (.object K)) (hq : Q (some (.ref a)) I) : X0 ζ d μ pc lv [.ref a] I Q := o_ret (r := some (.ref a)) ⟨⟨K, ht⟩, hd⟩ hq

theorem o_iadd {x y : Int32} (hd : decode μ.2.1 pc = .ok (.iadd, 1)) (k : X0 ζ d μ (pc + 1) lv (.int (x + y) :: st) I Q) : X0 ζ d μ pc lv (.int y :: .int x :: st) I Q := x_iadd hd k
theorem o_isub {x y : Int32} (hd : decode μ.2.1 pc = .ok (.isub, 1)) (k : X0 ζ d μ (pc + 1) lv (.int (x - y) :: st) I Q) : X0 ζ d μ pc lv (.int y :: .int x :: st) I Q := x_isub hd k
theorem o_imul {x y : Int32} (hd : decode μ.2.1 pc = .ok (.imul, 1)) (k : X0 ζ d μ (pc + 1) lv (.int (x * y) :: st) I Q) : X0 ζ d μ pc lv (.int y :: .int x :: st) I Q := x_imul hd k
theorem o_iand {x y : Int32} (hd : decode μ.2.1 pc = .ok (.iand, 1)) (k : X0 ζ d μ (pc + 1) lv (.int (x &&& y) :: st) I Q) : X0 ζ d μ pc lv (.int y :: .int x :: st) I Q := x_iand hd k
theorem o_ior {x y : Int32} (hd : decode μ.2.1 pc = .ok (.ior, 1)) (k : X0 ζ d μ (pc + 1) lv (.int (x ||| y) :: st) I Q) : X0 ζ d μ pc lv (.int y :: .int x :: st) I Q := x_ior hd k
theorem o_ishl {x y : Int32} (hd : decode μ.2.1 pc = .ok (.ishl, 1)) (k : X0 ζ d μ (pc + 1) lv (.int (x <<< (y &&& 31)) :: st) I Q) : X0 ζ d μ pc lv (.int y :: .int x :: st) I Q := x_ishl hd k
theorem o_ishr {x y : Int32} (hd : decode μ.2.1 pc = .ok (.ishr, 1)) (k : X0 ζ d μ (pc + 1) lv (.int (x >>> (y &&& 31)) :: st) I Q) : X0 ζ d μ pc lv (.int y :: .int x :: st) I Q := x_ishr hd k
theorem o_iushr {x y : Int32} (hd : decode μ.2.1 pc = .ok (.iushr, 1)) (k : X0 ζ d μ (pc + 1) lv (.int (x.toUInt32 >>> (y.toUInt32 &&& Int32.toUInt32 31)).toInt32 :: st) I Q) : X0 ζ d μ pc lv (.int y :: .int x :: st) I Q := x_iushr hd k
theorem o_idiv {x y : Int32} (hd : decode μ.2.1 pc = .ok (.idiv, 1)) (hne : ¬ y = 0) (k : X0 ζ d μ (pc + 1) lv (.int (x / y) :: st) I Q) : X0 ζ d μ pc lv (.int y :: .int x :: st) I Q := x_idiv hd hne k
theorem o_irem {x y : Int32} (hd : decode μ.2.1 pc = .ok (.irem, 1)) (hne : ¬ y = 0) (k : X0 ζ d μ (pc + 1) lv (.int (x - x / y * y) :: st) I Q) : X0 ζ d μ pc lv (.int y :: .int x :: st) I Q := x_irem hd hne k
theorem o_i2b {x : Int32} (hd : decode μ.2.1 pc = .ok (.i2b, 1)) (k : X0 ζ d μ (pc + 1) lv (.int x.toInt8.toInt32 :: st) I Q) : X0 ζ d μ pc lv (.int x :: st) I Q := x_i2b hd k
theorem o_i2f {x : Int32} (hd : decode μ.2.1 pc = .ok (.i2f, 1)) (k : X0 ζ d μ (pc + 1) lv (.float (FP.i2f x) :: st) I Q) : X0 ζ d μ pc lv (.int x :: st) I Q := x_i2f hd k
theorem o_f2i {x : UInt32} (hd : decode μ.2.1 pc = .ok (.f2i, 1)) (k : X0 ζ d μ (pc + 1) lv (.int (FP.f2i x) :: st) I Q) : X0 ζ d μ pc lv (.float x :: st) I Q := x_f2i hd k
theorem o_fadd {x y : UInt32} (hd : decode μ.2.1 pc = .ok (.fadd, 1)) (hne : vf_n32 (FP.fadd x y)) (k : X0 ζ d μ (pc + 1) lv (.float (FP.fadd x y) :: st) I Q) : X0 ζ d μ pc lv (.float y :: .float x :: st) I Q := x_fadd hd hne k
theorem o_fmul {x y : UInt32} (hd : decode μ.2.1 pc = .ok (.fmul, 1)) (hne : vf_n32 (FP.fmul x y)) (k : X0 ζ d μ (pc + 1) lv (.float (FP.fmul x y) :: st) I Q) : X0 ζ d μ pc lv (.float y :: .float x :: st) I Q := x_fmul hd hne k
theorem o_fdiv {x y : UInt32} (hd : decode μ.2.1 pc = .ok (.fdiv, 1)) (hne : vf_n32 (FP.fdiv x y)) (k : X0 ζ d μ (pc + 1) lv (.float (FP.fdiv x y) :: st) I Q) : X0 ζ d μ pc lv (.float y :: .float x :: st) I Q := x_fdiv hd hne k
theorem o_fcmp {x y : UInt32} {op : CmpOp} (hd : decode μ.2.1 pc = .ok (.fcmp op, 1)) (k : X0 ζ d μ (pc + 1) lv (.int (Op.cmpValue (FP.fcmp x y) op) :: st) I Q) : X0 ζ d μ pc lv (.float y :: .float x :: st) I Q := x_fcmp hd k
theorem o_fconst0  (hd : decode μ.2.1 pc = .ok (.fconst 0, 1)) (k : X0 ζ d μ (pc + 1) lv (.float FP.fconst0 :: st) I Q) : X0 ζ d μ pc lv st I Q := x_fconst0 hd k
theorem o_iconst {i : Int} {v : Int32} (hd : decode μ.2.1 pc = .ok (.iconst i, 1)) (hv : Int32.ofInt i = v) (k : X0 ζ d μ (pc + 1) lv (.int v :: st) I Q) : X0 ζ d μ pc lv st I Q := x_iconst hd hv k
theorem o_bipush {i : Int} {v : Int32} (hd : decode μ.2.1 pc = .ok (.bipush i, 2)) (hv : (Int8.ofInt i).toInt32 = v) (k : X0 ζ d μ (pc + 2) lv (.int v :: st) I Q) : X0 ζ d μ pc lv st I Q := x_bipush hd hv k
theorem o_sipush {i : Int} {v : Int32} (hd : decode μ.2.1 pc = .ok (.sipush i, 3)) (hv : (Int16.ofInt i).toInt32 = v) (k : X0 ζ d μ (pc + 3) lv (.int v :: st) I Q) : X0 ζ d μ pc lv st I Q := x_sipush hd hv k
theorem o_dup {v : Value} (hd : decode μ.2.1 pc = .ok (.dup, 1)) (hv : v.category = 1) (k : X0 ζ d μ (pc + 1) lv (v :: v :: st) I Q) : X0 ζ d μ pc lv (v :: st) I Q := x_dup hd hv k
theorem o_pop {v : Value} (hd : decode μ.2.1 pc = .ok (.pop, 1)) (hv : v.category = 1) (k : X0 ζ d μ (pc + 1) lv st I Q) : X0 ζ d μ pc lv (v :: st) I Q := x_pop hd hv k
theorem o_dup2 {v w : Value} (hd : decode μ.2.1 pc = .ok (.dup2, 1)) (hv : v.category = 1) (hw : w.category = 1) (k : X0 ζ d μ (pc + 1) lv (v :: w :: v :: w :: st) I Q) : X0 ζ d μ pc lv (v :: w :: st) I Q := x_dup2 hd hv hw k
theorem o_iload_n {j : Fin 4} {i : Nat} {x : Int32} (hd : decode μ.2.1 pc = .ok (.iload_n j, 1)) (hi : (j : Nat) = i) (hl : lv[i]? = some (some (.int x))) (k : X0 ζ d μ (pc + 1) lv (.int x :: st) I Q) : X0 ζ d μ pc lv st I Q := x_iload_n hd hi hl k
theorem o_iload {i : Nat} {x : Int32} (hd : decode μ.2.1 pc = .ok (.iload i, 2)) (hl : lv[i]? = some (some (.int x))) (k : X0 ζ d μ (pc + 2) lv (.int x :: st) I Q) : X0 ζ d μ pc lv st I Q := x_iload hd hl k
theorem o_aload_n {j : Fin 4} {i : Nat} {x : Nat} (hd : decode μ.2.1 pc = .ok (.aload_n j, 1)) (hi : (j : Nat) = i) (hl : lv[i]? = some (some (.ref x))) (k : X0 ζ d μ (pc + 1) lv (.ref x :: st) I Q) : X0 ζ d μ pc lv st I Q := x_aload_n hd hi hl k
theorem o_aload {i : Nat} {x : Nat} (hd : decode μ.2.1 pc = .ok (.aload i, 2)) (hl : lv[i]? = some (some (.ref x))) (k : X0 ζ d μ (pc + 2) lv (.ref x :: st) I Q) : X0 ζ d μ pc lv st I Q := x_aload hd hl k
theorem o_fload_n {j : Fin 4} {i : Nat} {x : UInt32} (hd : decode μ.2.1 pc = .ok (.fload_n j, 1)) (hi : (j : Nat) = i) (hl : lv[i]? = some (some (.float x))) (k : X0 ζ d μ (pc + 1) lv (.float x :: st) I Q) : X0 ζ d μ pc lv st I Q := x_fload_n hd hi hl k
theorem o_istore_n {j : Fin 4} {i : Nat} {x : Int32} (hd : decode μ.2.1 pc = .ok (.istore_n j, 1)) (hi : (j : Nat) = i) (hn : i < μ.2.2.1) (k : X0 ζ d μ (pc + 1) (lv.set i (some (.int x))) st I Q) : X0 ζ d μ pc lv (.int x :: st) I Q := x_istore_n hd hi hn k
theorem o_istore {i : Nat} {x : Int32} (hd : decode μ.2.1 pc = .ok (.istore i, 2)) (hn : i < μ.2.2.1) (k : X0 ζ d μ (pc + 2) (lv.set i (some (.int x))) st I Q) : X0 ζ d μ pc lv (.int x :: st) I Q := x_istore hd hn k
theorem o_astore_n {j : Fin 4} {i : Nat} {x : Nat} (hd : decode μ.2.1 pc = .ok (.astore_n j, 1)) (hi : (j : Nat) = i) (hn : i < μ.2.2.1) (k : X0 ζ d μ (pc + 1) (lv.set i (some (.ref x))) st I Q) : X0 ζ d μ pc lv (.ref x :: st) I Q := x_astore_n hd hi hn k
theorem o_astore {i : Nat} {x : Nat} (hd : decode μ.2.1 pc = .ok (.astore i, 2)) (hn : i < μ.2.2.1) (k : X0 ζ d μ (pc + 2) (lv.set i (some (.ref x))) st I Q) : X0 ζ d μ pc lv (.ref x :: st) I Q := x_astore hd hn k
theorem o_fstore_n {j : Fin 4} {i : Nat} {x : UInt32} (hd : decode μ.2.1 pc = .ok (.fstore_n j, 1)) (hi : (j : Nat) = i) (hn : i < μ.2.2.1) (k : X0 ζ d μ (pc + 1) (lv.set i (some (.float x))) st I Q) : X0 ζ d μ pc lv (.float x :: st) I Q := x_fstore_n hd hi hn k
theorem o_if_eq {x : Int32} {off : Int} {tgt : Nat} (hd : decode μ.2.1 pc = .ok (.ifCond .eq off, 3)) (ht : (pc : Int) + off = (tgt : Int)) (kt : x = 0 → X0 ζ d μ tgt lv st I Q) (kf : ¬ x = 0 → X0 ζ d μ (pc + 3) lv st I Q) : X0 ζ d μ pc lv (.int x :: st) I Q := x_if_eq hd ht kt kf
theorem o_if_ne {x : Int32} {off : Int} {tgt : Nat} (hd : decode μ.2.1 pc = .ok (.ifCond .ne off, 3)) (ht : (pc : Int) + off = (tgt : Int)) (kt : ¬ x = 0 → X0 ζ d μ tgt lv st I Q) (kf : x = 0 → X0 ζ d μ (pc + 3) lv st I Q) : X0 ζ d μ pc lv (.int x :: st) I Q := x_if_ne hd ht kt kf
theorem o_if_lt {x : Int32} {off : Int} {tgt : Nat} (hd : decode μ.2.1 pc = .ok (.ifCond .lt off, 3)) (ht : (pc : Int) + off = (tgt : Int)) (kt : x < 0 → X0 ζ d μ tgt lv st I Q) (kf : ¬ x < 0 → X0 ζ d μ (pc + 3) lv st I Q) : X0 ζ d μ pc lv (.int x :: st) I Q := x_if_lt hd ht kt kf
theorem o_if_ge {x : Int32} {off : Int} {tgt : Nat} (hd : decode μ.2.1 pc = .ok (.ifCond .ge off, 3)) (ht : (pc : Int) + off = (tgt : Int)) (kt : 0 ≤ x → X0 ζ d μ tgt lv st I Q) (kf : ¬ 0 ≤ x → X0 ζ d μ (pc + 3) lv st I Q) : X0 ζ d μ pc lv (.int x :: st) I Q := x_if_ge hd ht kt kf
theorem o_if_gt {x : Int32} {off : Int} {tgt : Nat} (hd : decode μ.2.1 pc = .ok (.ifCond .gt off, 3)) (ht : (pc : Int) + off = (tgt : Int)) (kt : 0 < x → X0 ζ d μ tgt lv st I Q) (kf : ¬ 0 < x → X0 ζ d μ (pc + 3) lv st I Q) : X0 ζ d μ pc lv (.int x :: st) I Q := x_if_gt hd ht kt kf
theorem o_if_le {x : Int32} {off : Int} {tgt : Nat} (hd : decode μ.2.1 pc = .ok (.ifCond .le off, 3)) (ht : (pc : Int) + off = (tgt : Int)) (kt : x ≤ 0 → X0 ζ d μ tgt lv st I Q) (kf : ¬ x ≤ 0 → X0 ζ d μ (pc + 3) lv st I Q) : X0 ζ d μ pc lv (.int x :: st) I Q := x_if_le hd ht kt kf
theorem o_icmp_eq {x y : Int32} {off : Int} {tgt : Nat} (hd : decode μ.2.1 pc = .ok (.if_icmp .eq off, 3)) (ht : (pc : Int) + off = (tgt : Int)) (kt : x = y → X0 ζ d μ tgt lv st I Q) (kf : ¬ x = y → X0 ζ d μ (pc + 3) lv st I Q) : X0 ζ d μ pc lv (.int y :: .int x :: st) I Q := x_icmp_eq hd ht kt kf
theorem o_icmp_ne {x y : Int32} {off : Int} {tgt : Nat} (hd : decode μ.2.1 pc = .ok (.if_icmp .ne off, 3)) (ht : (pc : Int) + off = (tgt : Int)) (kt : ¬ x = y → X0 ζ d μ tgt lv st I Q) (kf : x = y → X0 ζ d μ (pc + 3) lv st I Q) : X0 ζ d μ pc lv (.int y :: .int x :: st) I Q := x_icmp_ne hd ht kt kf
theorem o_icmp_lt {x y : Int32} {off : Int} {tgt : Nat} (hd : decode μ.2.1 pc = .ok (.if_icmp .lt off, 3)) (ht : (pc : Int) + off = (tgt : Int)) (kt : x < y → X0 ζ d μ tgt lv st I Q) (kf : ¬ x < y → X0 ζ d μ (pc + 3) lv st I Q) : X0 ζ d μ pc lv (.int y :: .int x :: st) I Q := x_icmp_lt hd ht kt kf
theorem o_icmp_ge {x y : Int32} {off : Int} {tgt : Nat} (hd : decode μ.2.1 pc = .ok (.if_icmp .ge off, 3)) (ht : (pc : Int) + off = (tgt : Int)) (kt : y ≤ x → X0 ζ d μ tgt lv st I Q) (kf : ¬ y ≤ x → X0 ζ d μ (pc + 3) lv st I Q) : X0 ζ d μ pc lv (.int y :: .int x :: st) I Q := x_icmp_ge hd ht kt kf
theorem o_icmp_gt {x y : Int32} {off : Int} {tgt : Nat} (hd : decode μ.2.1 pc = .ok (.if_icmp .gt off, 3)) (ht : (pc : Int) + off = (tgt : Int)) (kt : y < x → X0 ζ d μ tgt lv st I Q) (kf : ¬ y < x → X0 ζ d μ (pc + 3) lv st I Q) : X0 ζ d μ pc lv (.int y :: .int x :: st) I Q := x_icmp_gt hd ht kt kf
theorem o_icmp_le {x y : Int32} {off : Int} {tgt : Nat} (hd : decode μ.2.1 pc = .ok (.if_icmp .le off, 3)) (ht : (pc : Int) + off = (tgt : Int)) (kt : x ≤ y → X0 ζ d μ tgt lv st I Q) (kf : ¬ x ≤ y → X0 ζ d μ (pc + 3) lv st I Q) : X0 ζ d μ pc lv (.int y :: .int x :: st) I Q := x_icmp_le hd ht kt kf
theorem o_goto {off : Int} {tgt : Nat} (hd : decode μ.2.1 pc = .ok (.goto off, 3)) (ht : (pc : Int) + off = (tgt : Int)) (k : X0 ζ d μ tgt lv st I Q) : X0 ζ d μ pc lv st I Q := x_goto hd ht k
theorem o_tableOut {dflt lo hi : Int} {offs : Array Int} {len : Nat} {x : Int32} {tgt : Nat} (hd : decode μ.2.1 pc = .ok (.tableswitch dflt lo hi offs, len)) (h : x.toInt < lo ∨ hi < x.toInt) (ht : (pc : Int) + dflt = (tgt : Int)) (k : X0 ζ d μ tgt lv st I Q) : X0 ζ d μ pc lv (.int x :: st) I Q := x_tableOut hd h ht k
theorem o_tableIn {dflt lo hi : Int} {offs : Array Int} {len : Nat} {x : Int32} {off : Int} {tgt : Nat} (hd : decode μ.2.1 pc = .ok (.tableswitch dflt lo hi offs, len)) (h1 : ¬ x.toInt < lo) (h2 : ¬ hi < x.toInt) (ho : offs[(x.toInt - lo).toNat]? = some off) (ht : (pc : Int) + off = (tgt : Int)) (k : X0 ζ d μ tgt lv st I Q) : X0 ζ d μ pc lv (.int x :: st) I Q := x_tableIn hd h1 h2 ho ht k
theorem o_ldcf {idx : Nat} {v : UInt32} (hd : decode μ.2.1 pc = .ok (.ldc idx, 2)) (hw : Cond.constantFloat μ.1.cls idx v ∈ lw_good) (k : X0 ζ d μ (pc + 2) lv (.float v :: st) I Q) : X0 ζ d μ pc lv st I Q := x_ldcf hd hw k
theorem o_ldc {idx : Nat} {v : Int32} (hd : decode μ.2.1 pc = .ok (.ldc idx, 2)) (hw : Cond.constant μ.1.cls idx v ∈ lw_good) (k : X0 ζ d μ (pc + 2) lv (.int v :: st) I Q) : X0 ζ d μ pc lv st I Q := x_ldc hd hw k
theorem o_ldcw {idx : Nat} {v : Int32} (hd : decode μ.2.1 pc = .ok (.ldc_w idx, 3)) (hw : Cond.constant μ.1.cls idx v ∈ lw_good) (k : X0 ζ d μ (pc + 3) lv (.int v :: st) I Q) : X0 ζ d μ pc lv st I Q := x_ldcw hd hw k
theorem o_sld {i : Int32} (hd : decode μ.2.1 pc = .ok (.iaload, 1)) (hin : vp_in i ζ.1) (kk : X0 ζ d μ (pc + 1) lv (.int (ζ.2 i.toNatClampNeg) :: st) I Q) : X0 ζ d μ pc lv (.int i :: .ref 1000000 :: st) I Q := x_sld hd hin kk
theorem o_slen (hd : decode μ.2.1 pc = .ok (.arraylength, 1)) (kk : X0 ζ d μ (pc + 1) lv (.int (Int32.ofNat ζ.1) :: st) I Q) : X0 ζ d μ pc lv (.ref 1000000 :: st) I Q := x_slen hd kk
theorem o_iinc {i : Nat} {w : Int} {x v : Int32} (hd : decode μ.2.1 pc = .ok (.iinc i w, 3)) (hl : lv[i]? = some (some (.int x))) (hv : x + Int32.ofInt w = v) (hn : i < μ.2.2.1) (k : X0 ζ d μ (pc + 3) (lv.set i (some (.int v))) st I Q) : X0 ζ d μ pc lv st I Q := x_iinc hd hl hv hn k

theorem o_getI {idx ci k a : Nat} {rs : List (Option Nat)} {v : Int32} (hd : decode μ.2.1 pc = .ok (.getfield idx, 3)) (hf : sm_Fg μ.1.cls idx ci k) (hs : SH a = (0, ci, rs)) (hi : (sm_ft ci).getD k false = true) (hv : I a k = v) (kk : X0 ζ d μ (pc + 3) lv (.int v :: st) I Q) : X0 ζ d μ pc lv (.ref a :: st) I Q := x_getI hd hf (SH_lt hs (by intro h; simp at h)) hs hi (by rw [hv]; exact kk)
theorem o_getR {idx ci k a b : Nat} {rs : List (Option Nat)} (hd : decode μ.2.1 pc = .ok (.getfield idx, 3)) (hf : sm_Fg μ.1.cls idx ci k) (hs : SH a = (0, ci, rs)) (hi : (sm_ft ci).getD k false = false) (hb : rs.getD k none = some b) (kk : X0 ζ d μ (pc + 3) lv (.ref b :: st) I Q) : X0 ζ d μ pc lv (.ref a :: st) I Q := x_getR hd hf (SH_lt hs (by intro h; simp at h)) hs hi hb kk
theorem o_putI {idx ci k a : Nat} {rs : List (Option Nat)} {v : Int32} (hd : decode μ.2.1 pc = .ok (.putfield idx, 3)) (hf : sm_Fl μ.1.cls idx ci k .int false) (hs : SH a = (0, ci, rs)) (hi : (sm_ft ci).getD k false = true) (kk : X0 ζ d μ (pc + 3) lv st (up2 I a k v) Q) : X0 ζ d μ pc lv (.int v :: .ref a :: st) I Q := x_putI hd hf (fun h => by cases h) (SH_lt hs (by intro h; simp at h)) hs hi rfl rfl kk
theorem o_putZ {idx ci k a : Nat} {rs : List (Option Nat)} {v : Int32} (hd : decode μ.2.1 pc = .ok (.putfield idx, 3)) (hf : sm_Fl μ.1.cls idx ci k .boolean false) (hs : SH a = (0, ci, rs)) (hi : (sm_ft ci).getD k false = true) (hv : v = 0 ∨ v = 1) (kk : X0 ζ d μ (pc + 3) lv st (up2 I a k v) Q) : X0 ζ d μ pc lv (.int v :: .ref a :: st) I Q := x_putI hd hf (fun h => by cases h) (SH_lt hs (by intro h; simp at h)) hs hi (by rcases hv with rfl | rfl <;> rfl) (by rcases hv with rfl | rfl <;> rfl) kk
theorem o_iald {a N : Nat} {i v : Int32} {rs : List (Option Nat)} (hd : decode μ.2.1 pc = .ok (.iaload, 1)) (hs : SH a = (1, N, rs)) (hin : vp_in i N) (hv : I a i.toNatClampNeg = v) (kk : X0 ζ d μ (pc + 1) lv (.int v :: st) I Q) : X0 ζ d μ pc lv (.int i :: .ref a :: st) I Q := x_iald hd (SH_lt hs (by intro h; simp at h)) hs hin (by rw [hv]; exact kk)
theorem o_ialdN {a N i : Nat} {v : Int32} {rs : List (Option Nat)} (hd : decode μ.2.1 pc = .ok (.iaload, 1)) (hs : SH a = (1, N, rs)) (hN : N < 2 ^ 31) (hin : i < N) (hv : I a i = v) (kk : X0 ζ d μ (pc + 1) lv (.int v :: st) I Q) : X0 ζ d μ pc lv (.int (nI i) :: .ref a :: st) I Q := o_iald hd hs (vp_in_nI hin hN) (by rw [nI_clamp (by omega)]; exact hv) kk
theorem o_zaldN {a N i : Nat} {v : Int32} {rs : List (Option Nat)} (hd : decode μ.2.1 pc = .ok (.baload, 1)) (hs : SH a = (2, N, rs)) (hN : N < 2 ^ 31) (hin : i < N) (hv : I a i = v) (kk : X0 ζ d μ (pc + 1) lv (.int v :: st) I Q) : X0 ζ d μ pc lv (.int (nI i) :: .ref a :: st) I Q := x_zald hd (SH_lt hs (by intro h; simp at h)) hs (vp_in_nI hin hN) (by rw [nI_clamp (by omega), hv]; exact kk)
theorem o_baldN {a N i : Nat} {v : Int32} {rs : List (Option Nat)} (hd : decode μ.2.1 pc = .ok (.baload, 1)) (hs : SH a = (3, N, rs)) (hN : N < 2 ^ 31) (hin : i < N) (hv : I a i = v) (kk : X0 ζ d μ (pc + 1) lv (.int v :: st) I Q) : X0 ζ d μ pc lv (.int (nI i) :: .ref a :: st) I Q := x_bald hd (SH_lt hs (by intro h; simp at h)) hs (vp_in_nI hin hN) (by rw [nI_clamp (by omega), hv]; exact kk)
theorem o_aaldN {a N t b i : Nat} {rs : List (Option Nat)} (hd : decode μ.2.1 pc = .ok (.aaload, 1)) (hs : SH a = (t + 1, N, rs)) (ht : 3 ≤ t ∧ t < 6) (hN : N < 2 ^ 31) (hin : i < N) (hb : rs.getD i none = some b) (kk : X0 ζ d μ (pc + 1) lv (.ref b :: st) I Q) : X0 ζ d μ pc lv (.int (nI i) :: .ref a :: st) I Q := x_aald hd (SH_lt hs (by simp only; omega)) hs ht (vp_in_nI hin hN) (by rw [nI_clamp (by omega)]; exact hb) kk
theorem o_iastN {a N i : Nat} {v : Int32} {rs : List (Option Nat)} (hd : decode μ.2.1 pc = .ok (.iastore, 1)) (hs : SH a = (1, N, rs)) (hN : N < 2 ^ 31) (hin : i < N) (kk : X0 ζ d μ (pc + 1) lv st (up2 I a i v) Q) : X0 ζ d μ pc lv (.int v :: .int (nI i) :: .ref a :: st) I Q := x_iast hd (SH_lt hs (by intro h; simp at h)) hs (vp_in_nI hin hN) (by rw [nI_clamp (by omega)]; exact kk)
theorem o_bastN {a N i : Nat} {v w : Int32} {rs : List (Option Nat)} (hd : decode μ.2.1 pc = .ok (.bastore, 1)) (hs : SH a = (3, N, rs)) (hN : N < 2 ^ 31) (hin : i < N) (hw : narrow .byte (.int v) = .int w) (kk : X0 ζ d μ (pc + 1) lv st (up2 I a i w) Q) : X0 ζ d μ pc lv (.int v :: .int (nI i) :: .ref a :: st) I Q := x_bast hd (SH_lt hs (by intro h; simp at h)) hs (vp_in_nI hin hN) hw (by rw [nI_clamp (by omega)]; exact kk)
theorem o_zastN {a N i : Nat} {v : Int32} {rs : List (Option Nat)} (hd : decode μ.2.1 pc = .ok (.bastore, 1)) (hs : SH a = (2, N, rs)) (hN : N < 2 ^ 31) (hin : i < N) (hv : v = 0 ∨ v = 1) (kk : X0 ζ d μ (pc + 1) lv st (up2 I a i v) Q) : X0 ζ d μ pc lv (.int v :: .int (nI i) :: .ref a :: st) I Q := x_zast (w := v) hd (SH_lt hs (by intro h; simp at h)) hs (vp_in_nI hin hN) (by rcases hv with rfl | rfl <;> rfl) (by rw [nI_clamp (by omega)]; exact kk)
theorem o_alen {a N t : Nat} {rs : List (Option Nat)} (hd : decode μ.2.1 pc = .ok (.arraylength, 1)) (hs : SH a = (t + 1, N, rs)) (ht : t < 3) (kk : X0 ζ d μ (pc + 1) lv (.int (nI N) :: st) I Q) : X0 ζ d μ pc lv (.ref a :: st) I Q := x_alen hd (SH_lt hs (by simp only; omega)) hs ht kk
theorem o_callV {idx d' a ci : Nat} {μ' : sm_Mu} {as stk : List Value} {Q' : Option Value → sm_I → Prop} {rs : List (Option Nat)} {K : vw_C} (hd : decode μ.2.1 pc = .ok (.invokevirtual idx, 3)) (hE : E0 d' μ' (.ref a :: as) I Q') (hstk : stk = as.reverse ++ .ref a :: st) (hm : sm_Me μ' as.length) (hin : Cond.instanceMethod μ'.1 ∈ lw_good) (hsel : Cond.selects μ'.1.cls μ'.1 μ'.1 ∈ lw_good) (hl : Cond.methodLink μ.1.cls idx μ'.1 ∈ lw_good) (hs : SH a = (0, ci, rs)) (hc : vwCl[ci]? = some K) (hK : K.1 = μ'.1.cls) (hdd : d' < d) (hml : μ'.2.2.1 ≤ 21) (hst : (st.map fun v => v.category).sum ≤ 8)
    (kk : ∀ r I', Q' r I' → X0 ζ d μ (pc + 3) lv (r.toList ++ st) I' Q) : X0 ζ d μ pc lv stk I Q := x_callV hd hE hstk hm hin hsel hl (SH_lt hs (by intro h; simp at h)) hs hc hK ⟨hdd, by show 8 + (μ'.2.2.1 + 11) + 40 * d' ≤ 40 * d; omega⟩ ⟨Nat.le_refl _, Nat.le_refl _⟩ hst (fun r n' sh' I' h => by obtain ⟨rfl, rfl, h⟩ := h; exact kk r I' h)
theorem o_callS {idx d' : Nat} {μ' : sm_Mu} {as stk : List Value} {Q' : Option Value → sm_I → Prop} (hd : decode μ.2.1 pc = .ok (.invokestatic idx, 3)) (hE : E0 d' μ' as I Q') (hstk : stk = as.reverse ++ st) (hm : sm_Me μ' as.length) (hstt : Cond.static μ'.1 ∈ lw_good) (hl : Cond.methodLink μ.1.cls idx μ'.1 ∈ lw_good) (hdd : d' < d) (hml : μ'.2.2.1 ≤ 21) (hst : (st.map fun v => v.category).sum ≤ 8)
    (kk : ∀ r I', Q' r I' → X0 ζ d μ (pc + 3) lv (r.toList ++ st) I' Q) : X0 ζ d μ pc lv stk I Q := x_callS hd hE hstk hm hstt hl ⟨hdd, by show 8 + (μ'.2.2.1 + 11) + 40 * d' ≤ 40 * d; omega⟩ ⟨Nat.le_refl _, Nat.le_refl _⟩ hst (fun r n' sh' I' h => by obtain ⟨rfl, rfl, h⟩ := h; exact kk r I' h)
-- ints known as naturals
theorem o_iaddN {x y : Nat} (hd : decode μ.2.1 pc = .ok (.iadd, 1)) (k : X0 ζ d μ (pc + 1) lv (.int (nI (x + y)) :: st) I Q) : X0 ζ d μ pc lv (.int (nI y) :: .int (nI x) :: st) I Q := o_iadd hd (by rw [nI_add]; exact k)
theorem o_imulN {x y : Nat} (hd : decode μ.2.1 pc = .ok (.imul, 1)) (k : X0 ζ d μ (pc + 1) lv (.int (nI (x * y)) :: st) I Q) : X0 ζ d μ pc lv (.int (nI y) :: .int (nI x) :: st) I Q := o_imul hd (by rw [pk_mul]; exact k)
theorem o_isubN {x y : Nat} (hd : decode μ.2.1 pc = .ok (.isub, 1)) (h : y ≤ x) (k : X0 ζ d μ (pc + 1) lv (.int (nI (x - y)) :: st) I Q) : X0 ζ d μ pc lv (.int (nI y) :: .int (nI x) :: st) I Q := o_isub hd (by rw [pk_sub h]; exact k)
theorem o_idivN {x y : Nat} (hd : decode μ.2.1 pc = .ok (.idiv, 1)) (hx : x < 2 ^ 31) (h0 : 0 < y) (hy : y < 2 ^ 31) (k : X0 ζ d μ (pc + 1) lv (.int (nI (x / y)) :: st) I Q) : X0 ζ d μ pc lv (.int (nI y) :: .int (nI x) :: st) I Q := o_idiv hd (nI_ne0 h0 hy) (by rw [pk_div hx h0 hy]; exact k)
theorem o_iremN {x y : Nat} (hd : decode μ.2.1 pc = .ok (.irem, 1)) (hx : x < 2 ^ 31) (h0 : 0 < y) (hy : y < 2 ^ 31) (k : X0 ζ d μ (pc + 1) lv (.int (nI (x % y)) :: st) I Q) : X0 ζ d μ pc lv (.int (nI y) :: .int (nI x) :: st) I Q := o_irem hd (nI_ne0 h0 hy) (by rw [pk_rem hx h0 hy]; exact k)
theorem o_iincN {i x w : Nat} {wi : Int} (hd : decode μ.2.1 pc = .ok (.iinc i wi, 3)) (hl : lv[i]? = some (some (.int (nI x)))) (hw : Int32.ofInt wi = nI w) (hn : i < μ.2.2.1) (k : X0 ζ d μ (pc + 3) (lv.set i (some (.int (nI (x + w))))) st I Q) : X0 ζ d μ pc lv st I Q := o_iinc (v := nI (x + w)) hd hl (by rw [hw, nI_add]) hn k
theorem o_icmpN_lt {x y : Nat} {off : Int} {tgt : Nat} (hd : decode μ.2.1 pc = .ok (.if_icmp .lt off, 3)) (ht : (pc : Int) + off = (tgt : Int)) (hx : x < 2 ^ 31) (hy : y < 2 ^ 31) (kt : x < y → X0 ζ d μ tgt lv st I Q) (kf : y ≤ x → X0 ζ d μ (pc + 3) lv st I Q) : X0 ζ d μ pc lv (.int (nI y) :: .int (nI x) :: st) I Q := o_icmp_lt hd ht (fun h => kt ((nI_ltI hx hy).mp h)) (fun h => kf (Nat.not_lt.mp fun q => h ((nI_ltI hx hy).mpr q)))
theorem o_icmpN_ge {x y : Nat} {off : Int} {tgt : Nat} (hd : decode μ.2.1 pc = .ok (.if_icmp .ge off, 3)) (ht : (pc : Int) + off = (tgt : Int)) (hx : x < 2 ^ 31) (hy : y < 2 ^ 31) (kt : y ≤ x → X0 ζ d μ tgt lv st I Q) (kf : x < y → X0 ζ d μ (pc + 3) lv st I Q) : X0 ζ d μ pc lv (.int (nI y) :: .int (nI x) :: st) I Q := o_icmp_ge hd ht (fun h => kt ((nI_leI hy hx).mp h)) (fun h => kf (Nat.not_le.mp fun q => h ((nI_leI hy hx).mpr q)))
theorem o_icmpN_gt {x y : Nat} {off : Int} {tgt : Nat} (hd : decode μ.2.1 pc = .ok (.if_icmp .gt off, 3)) (ht : (pc : Int) + off = (tgt : Int)) (hx : x < 2 ^ 31) (hy : y < 2 ^ 31) (kt : y < x → X0 ζ d μ tgt lv st I Q) (kf : x ≤ y → X0 ζ d μ (pc + 3) lv st I Q) : X0 ζ d μ pc lv (.int (nI y) :: .int (nI x) :: st) I Q := o_icmp_gt hd ht (fun h => kt ((nI_ltI hy hx).mp h)) (fun h => kf (Nat.not_lt.mp fun q => h ((nI_ltI hy hx).mpr q)))
theorem o_icmpN_le {x y : Nat} {off : Int} {tgt : Nat} (hd : decode μ.2.1 pc = .ok (.if_icmp .le off, 3)) (ht : (pc : Int) + off = (tgt : Int)) (hx : x < 2 ^ 31) (hy : y < 2 ^ 31) (kt : x ≤ y → X0 ζ d μ tgt lv st I Q) (kf : y < x → X0 ζ d μ (pc + 3) lv st I Q) : X0 ζ d μ pc lv (.int (nI y) :: .int (nI x) :: st) I Q := o_icmp_le hd ht (fun h => kt ((nI_leI hx hy).mp h)) (fun h => kf (Nat.not_le.mp fun q => h ((nI_leI hx hy).mpr q)))
theorem o_icmpN_eq {x y : Nat} {off : Int} {tgt : Nat} (hd : decode μ.2.1 pc = .ok (.if_icmp .eq off, 3)) (ht : (pc : Int) + off = (tgt : Int)) (hx : x < 2 ^ 31) (hy : y < 2 ^ 31) (kt : x = y → X0 ζ d μ tgt lv st I Q) (kf : ¬ x = y → X0 ζ d μ (pc + 3) lv st I Q) : X0 ζ d μ pc lv (.int (nI y) :: .int (nI x) :: st) I Q := o_icmp_eq hd ht (fun h => kt ((nI_eq hx hy).mp h)) (fun h => kf (fun q => h ((nI_eq hx hy).mpr q)))
theorem o_icmpN_ne {x y : Nat} {off : Int} {tgt : Nat} (hd : decode μ.2.1 pc = .ok (.if_icmp .ne off, 3)) (ht : (pc : Int) + off = (tgt : Int)) (hx : x < 2 ^ 31) (hy : y < 2 ^ 31) (kt : ¬ x = y → X0 ζ d μ tgt lv st I Q) (kf : x = y → X0 ζ d μ (pc + 3) lv st I Q) : X0 ζ d μ pc lv (.int (nI y) :: .int (nI x) :: st) I Q := o_icmp_ne hd ht (fun h => kt (fun q => h ((nI_eq hx hy).mpr q))) (fun h => kf ((nI_eq hx hy).mp h))
theorem o_ifN_eq {x : Nat} {off : Int} {tgt : Nat} (hd : decode μ.2.1 pc = .ok (.ifCond .eq off, 3)) (ht : (pc : Int) + off = (tgt : Int)) (hx : x < 2 ^ 31) (kt : x = 0 → X0 ζ d μ tgt lv st I Q) (kf : 0 < x → X0 ζ d μ (pc + 3) lv st I Q) : X0 ζ d μ pc lv (.int (nI x) :: st) I Q := o_if_eq hd ht (fun h => kt ((nI_eq (b := 0) hx (by decide)).mp h)) (fun h => kf (Nat.pos_of_ne_zero fun q => h (by rw [q]; exact nI_0)))
theorem o_ifN_ne {x : Nat} {off : Int} {tgt : Nat} (hd : decode μ.2.1 pc = .ok (.ifCond .ne off, 3)) (ht : (pc : Int) + off = (tgt : Int)) (hx : x < 2 ^ 31) (kt : 0 < x → X0 ζ d μ tgt lv st I Q) (kf : x = 0 → X0 ζ d μ (pc + 3) lv st I Q) : X0 ζ d μ pc lv (.int (nI x) :: st) I Q := o_if_ne hd ht (fun h => kt (Nat.pos_of_ne_zero fun q => h (by rw [q]; exact nI_0))) (fun h => kf (Classical.byContradiction fun q => nI_ne0 (Nat.pos_of_ne_zero q) hx h))
theorem o_ifN_le {x : Nat} {off : Int} {tgt : Nat} (hd : decode μ.2.1 pc = .ok (.ifCond .le off, 3)) (ht : (pc : Int) + off = (tgt : Int)) (hx : x < 2 ^ 31) (kt : x = 0 → X0 ζ d μ tgt lv st I Q) (kf : 0 < x → X0 ζ d μ (pc + 3) lv st I Q) : X0 ζ d μ pc lv (.int (nI x) :: st) I Q := o_if_le hd ht (fun h => kt (Classical.byContradiction fun q => nI_nle (Nat.pos_of_ne_zero q) hx h)) (fun h => kf (Nat.pos_of_ne_zero fun q => h (by rw [q]; decide)))
theorem o_ifN_lt {x : Nat} {off : Int} {tgt : Nat} (hd : decode μ.2.1 pc = .ok (.ifCond .lt off, 3)) (ht : (pc : Int) + off = (tgt : Int)) (hx : x < 2 ^ 31) (kf : X0 ζ d μ (pc + 3) lv st I Q) : X0 ζ d μ pc lv (.int (nI x) :: st) I Q := o_if_lt hd ht (fun h => absurd h (nI_pos hx)) (fun _ => kf)
theorem o_ifN_ge {x : Nat} {off : Int} {tgt : Nat} (hd : decode μ.2.1 pc = .ok (.ifCond .ge off, 3)) (ht : (pc : Int) + off = (tgt : Int)) (hx : x < 2 ^ 31) (kt : X0 ζ d μ tgt lv st I Q) : X0 ζ d μ pc lv (.int (nI x) :: st) I Q := o_if_ge hd ht (fun _ => kt) (fun h => absurd (nI_pos' hx) h)
end O0

