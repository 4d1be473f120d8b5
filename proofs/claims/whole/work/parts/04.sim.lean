
def lw_good : List Cond := lw_tbl.filter goodWord
theorem lw_good_in {w : Cond} (h : w ∈ lw_tbl) (hg : goodWord w = true) : w ∈ lw_good := List.mem_filter.mpr ⟨h, hg⟩
theorem lw_good_sub {w : Cond} (h : w ∈ lw_good) : w ∈ lw_tbl := (List.mem_filter.mp h).1
theorem lw_good_good {w : Cond} (h : w ∈ lw_good) : goodWord w = true := (List.mem_filter.mp h).2
/-- a cell's shape: (0, its class' number, its references) or (an array's type + 1, its length, its references) -/
abbrev sm_S : Type := Nat × Nat × List (Option Nat)
/-- what ints the cells hold: cell, slot -/
abbrev sm_I : Type := Nat → Nat → Int32
/-- where the cells lie: base, addresses, classes and slots, array classes, the strings' arrays -/
abbrev sm_G : Type := Nat × (Nat → Nat) × va_G × (Nat → ClassId) × (Nat → Nat)
abbrev sm_Z : Type := Nat × (Nat → Int32)
/-- a method: its name, code, locals, answer -/
abbrev sm_Mu : Type := MethodName × ByteArray × Nat × Option FieldType
abbrev sm_Qt : Type := Option Value → Nat → (Nat → sm_S) → sm_I → Prop
def sm_ft (c : Nat) : List Bool := match c with
  | 0 => [true, true, true, true, true, true]
  | 1 => [false, true]
  | 2 => [true, false, true, true, true, true]
  | 3 => [false, true, true]
  | 4 => [false, true, false, true]
  | 5 => [true, true, true, true, true]
  | 6 => [false, false, true]
  | 7 => [false, true, false, false, false]
  | 8 => [false, false, false, false, false, false, false, false, false, false, false]
  | 9 => [true, false, false, false, true, false, false, false, true, false, true, true, true, true, true, true, false, true, true, true, false]
  | _ => []
def sm_V (ad : Nat → Nat) : Value → Value
  | .ref a => .ref (ad a)
  | v => v
theorem sm_V_cat (ad : Nat → Nat) (v : Value) : (sm_V ad v).category = v.category := by cases v <;> rfl
def sm_F (ad : Nat → Nat) (c : Nat) (rs : List (Option Nat)) (f : Nat → Int32) : List Value := (List.range (sm_ft c).length).map fun k => if (sm_ft c).getD k false = true then .int (f k) else va_rf ((rs.getD k none).map ad)
def sm_E (ad : Nat → Nat) (g : Nat → ClassId) (q : sm_S) (f : Nat → Int32) : va_E := match q.1 with
  | 0 => .inr (q.2.1, sm_F ad q.2.1 q.2.2 f)
  | t + 1 => if t < 3 then .inl (g t, q.2.1, .inl f) else .inl (g t, q.2.1, .inr (.inr (.inr (.inr (fun j => (q.2.2.getD j none).map ad)))))
def sm_H (Γ : sm_G) (n : Nat) (sh : Nat → sm_S) (I : sm_I) (H : Heap) : Prop := H.size = Γ.1 + n ∧ n ≤ 1000000 ∧ ∀ a, a < n → va_at Γ.2.2.1 vwCl (Γ.2.1 a, sm_E Γ.2.1 Γ.2.2.2.1 (sh a) (I a)) H
def sm_ty (t : Nat) : FieldType := match t with
  | 0 => .int
  | 1 => .boolean
  | 2 => .byte
  | 3 => .object RX0
  | 4 => .object RX1
  | _ => .object RX2
abbrev sm_tys (g : Nat → ClassId) : List (ClassId × FieldType) := [(g 0, sm_ty 0), (g 1, sm_ty 1), (g 2, sm_ty 2), (g 3, sm_ty 3), (g 4, sm_ty 4), (g 5, sm_ty 5)]
def sm_N (U : State) : Prop := va_AO RX0 U ∧ va_AO RX1 U ∧ va_AO RX2 U ∧ va_Nw (.methodLinkNest RX1 17 yX0_init RX8) U ∧ va_Nw (.methodLinkNest RX8 68 yX5_init RX8) U
def sm_O (ζ : sm_Z) (Γ : sm_G) (U : State) (H : Heap) : Prop :=
  vk_R RX7 52 "cask" (Γ.2.1 1000001) U ∧ vk_R RX7 58 "stands" (Γ.2.1 1000002) U ∧
  vk_S 2 [4, 6] [[99, 97, 115, 107], [115, 116, 97, 110, 100, 115]] (fun i => Γ.2.1 (1000001 + i)) (fun i => Γ.2.1 (1000003 + i)) (fun q => Γ.1 ≤ q) U H ∧
  va_Z RJ0 "COMPACT_STRINGS" "Z" (.int 1) (fun q => Γ.1 ≤ q) U H ∧ (va_Z RJ3 "SIOOBE_FORMATTER" "Ljava/util/function/BiFunction;" .null (fun q => Γ.1 ≤ q) U H ∨ va_Z RJ3 "SIOOBE_FORMATTER" "Ljava/util/function/BiFunction;" (.ref (Γ.2.1 1000005)) (fun q => Γ.1 ≤ q) U H) ∧
  (va_X (Γ.2.1 1000000) ζ.1 ζ.2 U H ∧ Γ.2.1 1000000 < Γ.1)
def sm_K (ζ : sm_Z) (Γ : sm_G) (U : State) : Prop := (∀ k, k < 1000000 → Γ.2.1 k = Γ.1 + k) ∧ va_K Γ.2.2.1 vwCl (sm_tys Γ.2.2.2.1) U ∧ sm_N U ∧ sm_O ζ Γ U U.heap ∧ Γ.1 ≤ U.heap.size
theorem sm_N.warm {s U : State} (hW : s.WarmedH U.vm) (h : sm_N s) : sm_N U := ⟨h.1.moved hW.alike, h.2.1.moved hW.alike, h.2.2.1.moved hW.alike, h.2.2.2.1.warmM hW, h.2.2.2.2.warmM hW⟩
theorem sm_N.same {s U : State} (hv : s.vm = U.vm) (h : sm_N s) : sm_N U := ⟨h.1.moved (by rw [hv]; exact Vm.Alike.refl _), h.2.1.moved (by rw [hv]; exact Vm.Alike.refl _), h.2.2.1.moved (by rw [hv]; exact Vm.Alike.refl _), h.2.2.2.1.same rfl hv, h.2.2.2.2.same rfl hv⟩
theorem sm_O.warm {ζ : sm_Z} {Γ : sm_G} {s U : State} {H H1 : Heap} (hW : s.WarmedH U.vm) (hz : Γ.1 ≤ H.size) (hk : ∀ a : Nat, a < H.size → ¬ Γ.1 ≤ a → H1[a]? = H[a]?) (h : sm_O ζ Γ s H) : sm_O ζ Γ U H1 := by
  obtain ⟨h1, h2, h3, h4, h5, h6, h7⟩ := h
  exact ⟨h1.warm hW, h2.warm hW, (h3.moved hW.alike).kept hk, (h4.moved hW.alike).kept hk, h5.imp (fun h => (h.moved hW.alike).kept hk) (fun h => (h.moved hW.alike).kept hk), (va_X.moved hW.alike h6).kept (hk _ (by omega) (by omega)), h7⟩
theorem sm_O.same {ζ : sm_Z} {Γ : sm_G} {s U : State} {H : Heap} (hv : s.vm = U.vm) (h : sm_O ζ Γ s H) : sm_O ζ Γ U H := by
  obtain ⟨h1, h2, h3, h4, h5, h6, h7⟩ := h
  have ha : s.vm.Alike U.vm := by rw [hv]; exact Vm.Alike.refl _
  exact ⟨h1.same hv.symm, h2.same hv.symm, h3.moved ha, h4.moved ha, h5.imp (fun h => h.moved ha) (fun h => h.moved ha), va_X.moved ha h6, h7⟩
/-- what a callee is told of the machine, out of what its caller knows -/
theorem sm_K.pass {ζ : sm_Z} {Γ : sm_G} {s U : State} {locs : List Loc} (hW : s.WarmedH U.vm) (hS : va_S (fun q => Γ.1 ≤ q) s.heap U.heap locs) (h : sm_K ζ Γ s) : sm_K ζ Γ U := by
  obtain ⟨h1, h2, h3, h4, h5⟩ := h
  exact ⟨h1, h2.moved hW.alike, h3.warm hW, h4.warm hW h5 (fun a z1 z2 => hS.2.1 a z1 z2), Nat.le_trans h5 hS.1⟩
theorem sm_K.same {ζ : sm_Z} {Γ : sm_G} {s U : State} (hv : s.vm = U.vm) (hh : s.heap = U.heap) (h : sm_K ζ Γ s) : sm_K ζ Γ U := by
  obtain ⟨h1, h2, h3, h4, h5⟩ := h
  exact ⟨h1, h2.moved (by rw [hv]; exact Vm.Alike.refl _), h3.same hv, by rw [← hh]; exact h4.same hv, by rw [← hh]; exact h5⟩
def sm_Pc (ζ : sm_Z) (Γ : sm_G) (as : List Value) (n : Nat) (sh : Nat → sm_S) (I : sm_I) : Array Value → State → Prop := va_Pc (as.map (sm_V Γ.2.1)) (fun U => sm_H Γ n sh I U.heap ∧ sm_K ζ Γ U)
def sm_Qc (Γ : sm_G) (Q : sm_Qt) : Array Value → State → Outcome → State → Prop := fun _ st oc t => (∃ r n sh I, oc = .returned (r.map (sm_V Γ.2.1)) ∧ Q r n sh I ∧ sm_H Γ n sh I t.heap) ∧ va_F (fun q => Γ.1 ≤ q) st t
theorem sm_Pc.blind {ζ : sm_Z} {Γ : sm_G} {as : List Value} {n : Nat} {sh : Nat → sm_S} {I : sm_I} : FrameBlind (sm_Pc ζ Γ as n sh I) := by
  intro a U g mk h
  obtain ⟨h1, h2, h3⟩ := h
  exact ⟨h1, h2, h3.same (U := U.calling g mk a) rfl rfl⟩
abbrev sm_rm (d mc ms : Nat) : Room := { frames := d, cells := mc, slots := ms, locals := 40 * d }
abbrev sm_ws (μ : sm_Mu) : List Cond := Cond.code μ.1 μ.2.1 μ.2.2.1 μ.2.2.2 :: lw_good
/-- A METHOD'S CONTRACT: from the shapes sh and the ints I it comes to an answer and a state with Q; d: how many frames it takes -/
def Em (d mc ms : Nat) (μ : sm_Mu) (as : List Value) (n : Nat) (sh : Nat → sm_S) (I : sm_I) (Q : sm_Qt) : Prop := ∀ (ζ : sm_Z) (l : Launch) (Γ : sm_G), Met l μ.1 (sm_ws μ) (sm_rm d mc ms) (sm_Pc ζ Γ as n sh I) (sm_Qc Γ Q) mc ms (fun q => Γ.1 ≤ q)
def sm_L (ad : Nat → Nat) (ls : Array Slot) (nL : Nat) (lv : List (Option Value)) : Prop := ls.size = nL ∧ lv_wf ls ∧ ∀ (i : Nat) (v : Value), lv[i]? = some (some v) → v.category = 1 ∧ ls[i]? = some (.val (sm_V ad v))
def sm_R (μ : sm_Mu) (r : Option Value) (pc : Nat) : Prop := match r with
  | none => μ.2.2.2 = none ∧ decode μ.2.1 pc = .ok (.return_, 1)
  | some (.int v) => (∃ ty, μ.2.2.2 = some ty ∧ narrow ty (.int v) = .int v) ∧ decode μ.2.1 pc = .ok (.ireturn, 1)
  | some (.float _) => μ.2.2.2 = some .float ∧ decode μ.2.1 pc = .ok (.freturn, 1)
  | some (.ref _) => (∃ t, μ.2.2.2 = some (.object t)) ∧ decode μ.2.1 pc = .ok (.areturn, 1)
  | _ => False
/-- what holds all through a method's walk -/
def sm_C (ζ : sm_Z) (Γ : sm_G) (R : Room) (μ : sm_Mu) (p : Program) (l : Launch) (e : Env) (s : State) (m : MethodId) (args : Array Value) (below : List Frame) (meth : Method) (c : Code) (Z : State → Prop) (Q : sm_Qt) : Prop :=
  p.tables.exec = Jvm.exec ∧ c.code = μ.2.1 ∧ c.maxLocals = μ.2.2.1 ∧ s.vm.findClass μ.1.cls = some m.cls ∧ (∀ w ∈ lw_good, w.before args s = true) ∧ meth.name = μ.1.name ∧ sm_K ζ Γ s ∧
  ∀ (r : Option Value) (n : Nat) (sh : Nat → sm_S) (I : sm_I) (H : Heap) (locs : List Loc) (cl sl pc : Nat) (ls : Array Slot), cl ≤ R.cells → sl ≤ R.slots → Q r n sh I → sm_H Γ n sh I H → va_S (fun q => Γ.1 ≤ q) s.heap H locs → sm_R μ r pc → W p l e R s m args below meth c H locs cl sl Z (F0 m pc ls (r.map (sm_V Γ.2.1)).toList)
def sm_D (Γ : sm_G) (s : State) (μ : sm_Mu) (H : Heap) (locs : List Loc) (ls : Array Slot) (lv : List (Option Value)) (n : Nat) (sh : Nat → sm_S) (I : sm_I) : Prop := va_S (fun q => Γ.1 ≤ q) s.heap H locs ∧ sm_H Γ n sh I H ∧ sm_L Γ.2.1 ls μ.2.2.1 lv
/-- THE WALK: at pc, with locals lv and stack st, the shapes sh and the ints I, the method comes to its end with Q -/
def Xm (ζ : sm_Z) (R : Room) (μ : sm_Mu) (pc : Nat) (lv : List (Option Value)) (st : List Value) (cl sl n : Nat) (sh : Nat → sm_S) (I : sm_I) (Q : sm_Qt) : Prop :=
  ∀ (Γ : sm_G) (p : Program) (l : Launch) (e : Env) (s : State) (m : MethodId) (args : Array Value) (below : List Frame) (meth : Method) (c : Code) (Z : State → Prop) (H : Heap) (locs : List Loc) (ls : Array Slot), sm_C ζ Γ R μ p l e s m args below meth c Z Q → sm_D Γ s μ H locs ls lv n sh I → W p l e R s m args below meth c H locs cl sl Z (F0 m pc ls (st.map (sm_V Γ.2.1)))
def sm_A (ad : Nat → Nat) (lv : List (Option Value)) : List (Nat × Value) := (List.range lv.length).filterMap fun j => (lv.getD j none).map fun v => (j, sm_V ad v)
theorem sm_A_mem {ad : Nat → Nat} {lv : List (Option Value)} {j : Nat} {v : Value} (h : lv[j]? = some (some v)) : (j, sm_V ad v) ∈ sm_A ad lv := by
  have hl : j < lv.length := (List.getElem?_eq_some_iff.mp h).1
  refine List.mem_filterMap.mpr ⟨j, List.mem_range.mpr hl, ?_⟩
  rw [List.getD_eq_getElem?_getD, h]
  rfl
theorem sm_A_of {ad : Nat → Nat} {lv : List (Option Value)} {q : Nat × Value} (h : q ∈ sm_A ad lv) : ∃ v, lv[q.1]? = some (some v) ∧ q.2 = sm_V ad v := by
  obtain ⟨j, hj, hq⟩ := List.mem_filterMap.mp h
  have hl := List.mem_range.mp hj
  rw [List.getD_eq_getElem?_getD] at hq
  cases hv : lv[j]? with
  | none => rw [hv] at hq; cases hq
  | some o =>
    cases o with
    | none => rw [hv] at hq; cases hq
    | some v => rw [hv] at hq; cases hq; exact ⟨v, hv, rfl⟩
theorem sm_L.has {ad : Nat → Nat} {ls : Array Slot} {nL : Nat} {lv : List (Option Value)} (h : sm_L ad ls nL lv) : lv_has ls nL (sm_A ad lv) := by
  refine ⟨h.1, h.2.1, fun q hq => ?_⟩
  obtain ⟨v, h1, h2⟩ := sm_A_of hq
  rw [h2]
  exact (h.2.2 q.1 v h1).2
theorem sm_L.set {ad : Nat → Nat} {ls ls' : Array Slot} {nL : Nat} {lv : List (Option Value)} {i : Nat} {v : Value} (hv : v.category = 1) (h0 : sm_L ad ls nL lv) (h : lv_has ls' nL ((i, sm_V ad v) :: (sm_A ad lv).filter (fun q => !(q.1 == i) && !(q.1 + 1 == i && q.2.category == 2)))) : sm_L ad ls' nL (lv.set i (some v)) := by
  refine ⟨h.1, h.2.1, fun j w hj => ?_⟩
  by_cases hji : j = i
  · subst hji
    by_cases hl : j < lv.length
    · rw [List.getElem?_set_self hl] at hj
      cases hj
      exact ⟨hv, h.2.2 _ List.mem_cons_self⟩
    · rw [List.getElem?_eq_none (by rw [List.length_set]; omega)] at hj
      cases hj
  · rw [List.getElem?_set_ne (Ne.symm hji)] at hj
    have hc := (h0.2.2 j w hj).1
    refine ⟨hc, h.2.2 (j, sm_V ad w) (List.mem_cons_of_mem _ (List.mem_filter.mpr ⟨sm_A_mem hj, ?_⟩))⟩
    have h2 : ¬ (sm_V ad w).category = 2 := by rw [sm_V_cat, hc]; decide
    simp [hji, h2]
theorem sm_L.at {ad : Nat → Nat} {ls : Array Slot} {nL : Nat} {lv : List (Option Value)} {i : Nat} {v : Value} (h : sm_L ad ls nL lv) (hv : lv[i]? = some (some v)) : ls[i]? = some (.val (sm_V ad v)) := (h.2.2 i v hv).2
/-- one int of the memory anew -/
def up2 (I : sm_I) (a k : Nat) (v : Int32) : sm_I := fun b j => if b = a ∧ j = k then v else I b j
theorem up2_row {I : sm_I} {a k : Nat} {v : Int32} : up2 I a k v a = upd (I a) k v := by
  funext j
  by_cases h : j = k <;> simp [up2, upd, h]
theorem up2_ne {I : sm_I} {a b k : Nat} {v : Int32} (h : b ≠ a) : up2 I a k v b = I b := by
  funext j
  simp [up2, h]
theorem up2_s {I : sm_I} {a k : Nat} {v : Int32} : up2 I a k v a k = v := by simp [up2]
section SMX
variable {ζ : sm_Z} {R : Room} {μ : sm_Mu} {pc : Nat} {lv : List (Option Value)} {st : List Value} {cl sl n : Nat} {sh : Nat → sm_S} {I : sm_I} {Q : sm_Qt}
theorem x_iadd {x y : Int32} (hd : decode μ.2.1 pc = .ok (.iadd, 1)) (k : Xm ζ R μ (pc + 1) lv (.int (x + y) :: st) cl sl n sh I Q) : Xm ζ R μ pc lv (.int y :: .int x :: st) cl sl n sh I Q := by
  intro Γ p l e s m args below meth c Z H locs ls C D
  exact lv_iadd C.1 C.2.1 hd (k Γ p l e s m args below meth c Z H locs ls C D)

theorem x_isub {x y : Int32} (hd : decode μ.2.1 pc = .ok (.isub, 1)) (k : Xm ζ R μ (pc + 1) lv (.int (x - y) :: st) cl sl n sh I Q) : Xm ζ R μ pc lv (.int y :: .int x :: st) cl sl n sh I Q := by
  intro Γ p l e s m args below meth c Z H locs ls C D
  exact lv_isub C.1 C.2.1 hd (k Γ p l e s m args below meth c Z H locs ls C D)

theorem x_imul {x y : Int32} (hd : decode μ.2.1 pc = .ok (.imul, 1)) (k : Xm ζ R μ (pc + 1) lv (.int (x * y) :: st) cl sl n sh I Q) : Xm ζ R μ pc lv (.int y :: .int x :: st) cl sl n sh I Q := by
  intro Γ p l e s m args below meth c Z H locs ls C D
  exact lv_imul C.1 C.2.1 hd (k Γ p l e s m args below meth c Z H locs ls C D)

theorem x_iand {x y : Int32} (hd : decode μ.2.1 pc = .ok (.iand, 1)) (k : Xm ζ R μ (pc + 1) lv (.int (x &&& y) :: st) cl sl n sh I Q) : Xm ζ R μ pc lv (.int y :: .int x :: st) cl sl n sh I Q := by
  intro Γ p l e s m args below meth c Z H locs ls C D
  exact lv_iand C.1 C.2.1 hd (k Γ p l e s m args below meth c Z H locs ls C D)

theorem x_ior {x y : Int32} (hd : decode μ.2.1 pc = .ok (.ior, 1)) (k : Xm ζ R μ (pc + 1) lv (.int (x ||| y) :: st) cl sl n sh I Q) : Xm ζ R μ pc lv (.int y :: .int x :: st) cl sl n sh I Q := by
  intro Γ p l e s m args below meth c Z H locs ls C D
  exact lv_ior C.1 C.2.1 hd (k Γ p l e s m args below meth c Z H locs ls C D)

theorem x_ishl {x y : Int32} (hd : decode μ.2.1 pc = .ok (.ishl, 1)) (k : Xm ζ R μ (pc + 1) lv (.int (x <<< (y &&& 31)) :: st) cl sl n sh I Q) : Xm ζ R μ pc lv (.int y :: .int x :: st) cl sl n sh I Q := by
  intro Γ p l e s m args below meth c Z H locs ls C D
  exact lv_ishl C.1 C.2.1 hd (k Γ p l e s m args below meth c Z H locs ls C D)

theorem x_ishr {x y : Int32} (hd : decode μ.2.1 pc = .ok (.ishr, 1)) (k : Xm ζ R μ (pc + 1) lv (.int (x >>> (y &&& 31)) :: st) cl sl n sh I Q) : Xm ζ R μ pc lv (.int y :: .int x :: st) cl sl n sh I Q := by
  intro Γ p l e s m args below meth c Z H locs ls C D
  exact lv_ishr C.1 C.2.1 hd (k Γ p l e s m args below meth c Z H locs ls C D)

theorem x_iushr {x y : Int32} (hd : decode μ.2.1 pc = .ok (.iushr, 1)) (k : Xm ζ R μ (pc + 1) lv (.int (x.toUInt32 >>> (y.toUInt32 &&& Int32.toUInt32 31)).toInt32 :: st) cl sl n sh I Q) : Xm ζ R μ pc lv (.int y :: .int x :: st) cl sl n sh I Q := by
  intro Γ p l e s m args below meth c Z H locs ls C D
  exact lv_iushr C.1 C.2.1 hd rfl (k Γ p l e s m args below meth c Z H locs ls C D)

theorem x_idiv {x y : Int32} (hd : decode μ.2.1 pc = .ok (.idiv, 1)) (hne : ¬ y = 0) (k : Xm ζ R μ (pc + 1) lv (.int (x / y) :: st) cl sl n sh I Q) : Xm ζ R μ pc lv (.int y :: .int x :: st) cl sl n sh I Q := by
  intro Γ p l e s m args below meth c Z H locs ls C D
  exact lv_idiv C.1 C.2.1 hd hne (k Γ p l e s m args below meth c Z H locs ls C D)

theorem x_irem {x y : Int32} (hd : decode μ.2.1 pc = .ok (.irem, 1)) (hne : ¬ y = 0) (k : Xm ζ R μ (pc + 1) lv (.int (x - x / y * y) :: st) cl sl n sh I Q) : Xm ζ R μ pc lv (.int y :: .int x :: st) cl sl n sh I Q := by
  intro Γ p l e s m args below meth c Z H locs ls C D
  exact lv_irem C.1 C.2.1 hd hne (k Γ p l e s m args below meth c Z H locs ls C D)

theorem x_i2b {x : Int32} (hd : decode μ.2.1 pc = .ok (.i2b, 1)) (k : Xm ζ R μ (pc + 1) lv (.int x.toInt8.toInt32 :: st) cl sl n sh I Q) : Xm ζ R μ pc lv (.int x :: st) cl sl n sh I Q := by
  intro Γ p l e s m args below meth c Z H locs ls C D
  exact lv_i2b C.1 C.2.1 hd rfl (k Γ p l e s m args below meth c Z H locs ls C D)

theorem x_i2f {x : Int32} (hd : decode μ.2.1 pc = .ok (.i2f, 1)) (k : Xm ζ R μ (pc + 1) lv (.float (FP.i2f x) :: st) cl sl n sh I Q) : Xm ζ R μ pc lv (.int x :: st) cl sl n sh I Q := by
  intro Γ p l e s m args below meth c Z H locs ls C D
  exact lv_i2f C.1 C.2.1 hd (k Γ p l e s m args below meth c Z H locs ls C D)

theorem x_f2i {x : UInt32} (hd : decode μ.2.1 pc = .ok (.f2i, 1)) (k : Xm ζ R μ (pc + 1) lv (.int (FP.f2i x) :: st) cl sl n sh I Q) : Xm ζ R μ pc lv (.float x :: st) cl sl n sh I Q := by
  intro Γ p l e s m args below meth c Z H locs ls C D
  exact lv_f2i C.1 C.2.1 hd (k Γ p l e s m args below meth c Z H locs ls C D)

theorem x_fadd {x y : UInt32} (hd : decode μ.2.1 pc = .ok (.fadd, 1)) (hne : vf_n32 (FP.fadd x y)) (k : Xm ζ R μ (pc + 1) lv (.float (FP.fadd x y) :: st) cl sl n sh I Q) : Xm ζ R μ pc lv (.float y :: .float x :: st) cl sl n sh I Q := by
  intro Γ p l e s m args below meth c Z H locs ls C D
  exact lv_fadd C.1 C.2.1 hd hne (k Γ p l e s m args below meth c Z H locs ls C D)

theorem x_fmul {x y : UInt32} (hd : decode μ.2.1 pc = .ok (.fmul, 1)) (hne : vf_n32 (FP.fmul x y)) (k : Xm ζ R μ (pc + 1) lv (.float (FP.fmul x y) :: st) cl sl n sh I Q) : Xm ζ R μ pc lv (.float y :: .float x :: st) cl sl n sh I Q := by
  intro Γ p l e s m args below meth c Z H locs ls C D
  exact lv_fmul C.1 C.2.1 hd hne (k Γ p l e s m args below meth c Z H locs ls C D)

theorem x_fdiv {x y : UInt32} (hd : decode μ.2.1 pc = .ok (.fdiv, 1)) (hne : vf_n32 (FP.fdiv x y)) (k : Xm ζ R μ (pc + 1) lv (.float (FP.fdiv x y) :: st) cl sl n sh I Q) : Xm ζ R μ pc lv (.float y :: .float x :: st) cl sl n sh I Q := by
  intro Γ p l e s m args below meth c Z H locs ls C D
  exact lv_fdiv C.1 C.2.1 hd hne (k Γ p l e s m args below meth c Z H locs ls C D)

theorem x_fcmp {x y : UInt32} {op : CmpOp} (hd : decode μ.2.1 pc = .ok (.fcmp op, 1)) (k : Xm ζ R μ (pc + 1) lv (.int (Op.cmpValue (FP.fcmp x y) op) :: st) cl sl n sh I Q) : Xm ζ R μ pc lv (.float y :: .float x :: st) cl sl n sh I Q := by
  intro Γ p l e s m args below meth c Z H locs ls C D
  exact lv_fcmp C.1 C.2.1 hd (k Γ p l e s m args below meth c Z H locs ls C D)

theorem x_fconst0  (hd : decode μ.2.1 pc = .ok (.fconst 0, 1)) (k : Xm ζ R μ (pc + 1) lv (.float FP.fconst0 :: st) cl sl n sh I Q) : Xm ζ R μ pc lv st cl sl n sh I Q := by
  intro Γ p l e s m args below meth c Z H locs ls C D
  exact lv_fconst0 C.1 C.2.1 hd (k Γ p l e s m args below meth c Z H locs ls C D)

theorem x_iconst {i : Int} {v : Int32} (hd : decode μ.2.1 pc = .ok (.iconst i, 1)) (hv : Int32.ofInt i = v) (k : Xm ζ R μ (pc + 1) lv (.int v :: st) cl sl n sh I Q) : Xm ζ R μ pc lv st cl sl n sh I Q := by
  intro Γ p l e s m args below meth c Z H locs ls C D
  exact lv_iconst C.1 C.2.1 hd hv (k Γ p l e s m args below meth c Z H locs ls C D)

theorem x_bipush {i : Int} {v : Int32} (hd : decode μ.2.1 pc = .ok (.bipush i, 2)) (hv : (Int8.ofInt i).toInt32 = v) (k : Xm ζ R μ (pc + 2) lv (.int v :: st) cl sl n sh I Q) : Xm ζ R μ pc lv st cl sl n sh I Q := by
  intro Γ p l e s m args below meth c Z H locs ls C D
  exact lv_bipush C.1 C.2.1 hd hv (k Γ p l e s m args below meth c Z H locs ls C D)

theorem x_sipush {i : Int} {v : Int32} (hd : decode μ.2.1 pc = .ok (.sipush i, 3)) (hv : (Int16.ofInt i).toInt32 = v) (k : Xm ζ R μ (pc + 3) lv (.int v :: st) cl sl n sh I Q) : Xm ζ R μ pc lv st cl sl n sh I Q := by
  intro Γ p l e s m args below meth c Z H locs ls C D
  exact lv_sipush C.1 C.2.1 hd hv (k Γ p l e s m args below meth c Z H locs ls C D)

theorem x_dup {v : Value} (hd : decode μ.2.1 pc = .ok (.dup, 1)) (hv : v.category = 1) (k : Xm ζ R μ (pc + 1) lv (v :: v :: st) cl sl n sh I Q) : Xm ζ R μ pc lv (v :: st) cl sl n sh I Q := by
  intro Γ p l e s m args below meth c Z H locs ls C D
  exact lv_dup C.1 C.2.1 hd (by rw [sm_V_cat]; exact hv) (k Γ p l e s m args below meth c Z H locs ls C D)

theorem x_pop {v : Value} (hd : decode μ.2.1 pc = .ok (.pop, 1)) (hv : v.category = 1) (k : Xm ζ R μ (pc + 1) lv st cl sl n sh I Q) : Xm ζ R μ pc lv (v :: st) cl sl n sh I Q := by
  intro Γ p l e s m args below meth c Z H locs ls C D
  exact lv_pop C.1 C.2.1 hd (by rw [sm_V_cat]; exact hv) (k Γ p l e s m args below meth c Z H locs ls C D)

theorem x_dup2 {v w : Value} (hd : decode μ.2.1 pc = .ok (.dup2, 1)) (hv : v.category = 1) (hw : w.category = 1) (k : Xm ζ R μ (pc + 1) lv (v :: w :: v :: w :: st) cl sl n sh I Q) : Xm ζ R μ pc lv (v :: w :: st) cl sl n sh I Q := by
  intro Γ p l e s m args below meth c Z H locs ls C D
  exact lv_dup2_11 C.1 C.2.1 hd (by rw [sm_V_cat]; exact hv) (by rw [sm_V_cat]; exact hw) (k Γ p l e s m args below meth c Z H locs ls C D)

theorem x_iload_n {j : Fin 4} {i : Nat} {x : Int32} (hd : decode μ.2.1 pc = .ok (.iload_n j, 1)) (hi : (j : Nat) = i) (hl : lv[i]? = some (some (.int x))) (k : Xm ζ R μ (pc + 1) lv (.int x :: st) cl sl n sh I Q) : Xm ζ R μ pc lv st cl sl n sh I Q := by
  intro Γ p l e s m args below meth c Z H locs ls C D
  exact lv_iload_n C.1 C.2.1 hd hi (D.2.2.at hl) (k Γ p l e s m args below meth c Z H locs ls C D)

theorem x_iload {i : Nat} {x : Int32} (hd : decode μ.2.1 pc = .ok (.iload i, 2)) (hl : lv[i]? = some (some (.int x))) (k : Xm ζ R μ (pc + 2) lv (.int x :: st) cl sl n sh I Q) : Xm ζ R μ pc lv st cl sl n sh I Q := by
  intro Γ p l e s m args below meth c Z H locs ls C D
  exact lv_iload C.1 C.2.1 hd (D.2.2.at hl) (k Γ p l e s m args below meth c Z H locs ls C D)

theorem x_aload_n {j : Fin 4} {i : Nat} {x : Nat} (hd : decode μ.2.1 pc = .ok (.aload_n j, 1)) (hi : (j : Nat) = i) (hl : lv[i]? = some (some (.ref x))) (k : Xm ζ R μ (pc + 1) lv (.ref x :: st) cl sl n sh I Q) : Xm ζ R μ pc lv st cl sl n sh I Q := by
  intro Γ p l e s m args below meth c Z H locs ls C D
  exact lv_aload_n C.1 C.2.1 hd hi (D.2.2.at hl) (k Γ p l e s m args below meth c Z H locs ls C D)

theorem x_aload {i : Nat} {x : Nat} (hd : decode μ.2.1 pc = .ok (.aload i, 2)) (hl : lv[i]? = some (some (.ref x))) (k : Xm ζ R μ (pc + 2) lv (.ref x :: st) cl sl n sh I Q) : Xm ζ R μ pc lv st cl sl n sh I Q := by
  intro Γ p l e s m args below meth c Z H locs ls C D
  exact lv_aload C.1 C.2.1 hd (D.2.2.at hl) (k Γ p l e s m args below meth c Z H locs ls C D)

theorem x_fload_n {j : Fin 4} {i : Nat} {x : UInt32} (hd : decode μ.2.1 pc = .ok (.fload_n j, 1)) (hi : (j : Nat) = i) (hl : lv[i]? = some (some (.float x))) (k : Xm ζ R μ (pc + 1) lv (.float x :: st) cl sl n sh I Q) : Xm ζ R μ pc lv st cl sl n sh I Q := by
  intro Γ p l e s m args below meth c Z H locs ls C D
  exact lv_fload_n C.1 C.2.1 hd hi (D.2.2.at hl) (k Γ p l e s m args below meth c Z H locs ls C D)

theorem x_istore_n {j : Fin 4} {i : Nat} {x : Int32} (hd : decode μ.2.1 pc = .ok (.istore_n j, 1)) (hi : (j : Nat) = i) (hn : i < μ.2.2.1) (k : Xm ζ R μ (pc + 1) (lv.set i (some (.int x))) st cl sl n sh I Q) : Xm ζ R μ pc lv (.int x :: st) cl sl n sh I Q := by
  intro Γ p l e s m args below meth c Z H locs ls C D
  exact lv_istore_n C.1 C.2.1 hd hi D.2.2.has hn rfl (fun ls' hl' => k Γ p l e s m args below meth c Z H locs ls' C ⟨D.1, D.2.1, D.2.2.set rfl hl'⟩)

theorem x_istore {i : Nat} {x : Int32} (hd : decode μ.2.1 pc = .ok (.istore i, 2)) (hn : i < μ.2.2.1) (k : Xm ζ R μ (pc + 2) (lv.set i (some (.int x))) st cl sl n sh I Q) : Xm ζ R μ pc lv (.int x :: st) cl sl n sh I Q := by
  intro Γ p l e s m args below meth c Z H locs ls C D
  exact lv_istore C.1 C.2.1 hd D.2.2.has hn rfl (fun ls' hl' => k Γ p l e s m args below meth c Z H locs ls' C ⟨D.1, D.2.1, D.2.2.set rfl hl'⟩)

theorem x_astore_n {j : Fin 4} {i : Nat} {x : Nat} (hd : decode μ.2.1 pc = .ok (.astore_n j, 1)) (hi : (j : Nat) = i) (hn : i < μ.2.2.1) (k : Xm ζ R μ (pc + 1) (lv.set i (some (.ref x))) st cl sl n sh I Q) : Xm ζ R μ pc lv (.ref x :: st) cl sl n sh I Q := by
  intro Γ p l e s m args below meth c Z H locs ls C D
  exact lv_astore_n C.1 C.2.1 hd hi D.2.2.has hn rfl (fun ls' hl' => k Γ p l e s m args below meth c Z H locs ls' C ⟨D.1, D.2.1, D.2.2.set rfl hl'⟩)

theorem x_astore {i : Nat} {x : Nat} (hd : decode μ.2.1 pc = .ok (.astore i, 2)) (hn : i < μ.2.2.1) (k : Xm ζ R μ (pc + 2) (lv.set i (some (.ref x))) st cl sl n sh I Q) : Xm ζ R μ pc lv (.ref x :: st) cl sl n sh I Q := by
  intro Γ p l e s m args below meth c Z H locs ls C D
  exact lv_astore C.1 C.2.1 hd D.2.2.has hn rfl (fun ls' hl' => k Γ p l e s m args below meth c Z H locs ls' C ⟨D.1, D.2.1, D.2.2.set rfl hl'⟩)

theorem x_fstore_n {j : Fin 4} {i : Nat} {x : UInt32} (hd : decode μ.2.1 pc = .ok (.fstore_n j, 1)) (hi : (j : Nat) = i) (hn : i < μ.2.2.1) (k : Xm ζ R μ (pc + 1) (lv.set i (some (.float x))) st cl sl n sh I Q) : Xm ζ R μ pc lv (.float x :: st) cl sl n sh I Q := by
  intro Γ p l e s m args below meth c Z H locs ls C D
  exact lv_fstore_n C.1 C.2.1 hd hi D.2.2.has hn rfl (fun ls' hl' => k Γ p l e s m args below meth c Z H locs ls' C ⟨D.1, D.2.1, D.2.2.set rfl hl'⟩)

theorem x_iinc {i : Nat} {d : Int} {x v : Int32} (hd : decode μ.2.1 pc = .ok (.iinc i d, 3)) (hl : lv[i]? = some (some (.int x))) (hv : x + Int32.ofInt d = v) (hn : i < μ.2.2.1) (k : Xm ζ R μ (pc + 3) (lv.set i (some (.int v))) st cl sl n sh I Q) : Xm ζ R μ pc lv st cl sl n sh I Q := by
  intro Γ p l e s m args below meth c Z H locs ls C D
  obtain ⟨q, hq⟩ := List.getElem?_of_mem (sm_A_mem (ad := Γ.2.1) hl)
  exact lv_iinc C.1 C.2.1 hd D.2.2.has hq hv hn rfl (fun ls' hl' => k Γ p l e s m args below meth c Z H locs ls' C ⟨D.1, D.2.1, D.2.2.set rfl hl'⟩)

theorem x_if_eq {x : Int32} {off : Int} {tgt : Nat} (hd : decode μ.2.1 pc = .ok (.ifCond .eq off, 3)) (ht : (pc : Int) + off = (tgt : Int)) (kt : x = 0 → Xm ζ R μ tgt lv st cl sl n sh I Q) (kf : ¬ x = 0 → Xm ζ R μ (pc + 3) lv st cl sl n sh I Q) : Xm ζ R μ pc lv (.int x :: st) cl sl n sh I Q := by
  intro Γ p l e s m args below meth c Z H locs ls C D
  exact lv_if_eq C.1 C.2.1 hd ht (fun h => kt h Γ p l e s m args below meth c Z H locs ls C D) (fun h => kf h Γ p l e s m args below meth c Z H locs ls C D)

theorem x_icmp_eq {x y : Int32} {off : Int} {tgt : Nat} (hd : decode μ.2.1 pc = .ok (.if_icmp .eq off, 3)) (ht : (pc : Int) + off = (tgt : Int)) (kt : x = y → Xm ζ R μ tgt lv st cl sl n sh I Q) (kf : ¬ x = y → Xm ζ R μ (pc + 3) lv st cl sl n sh I Q) : Xm ζ R μ pc lv (.int y :: .int x :: st) cl sl n sh I Q := by
  intro Γ p l e s m args below meth c Z H locs ls C D
  exact lv_icmp_eq C.1 C.2.1 hd ht (fun h => kt h Γ p l e s m args below meth c Z H locs ls C D) (fun h => kf h Γ p l e s m args below meth c Z H locs ls C D)

theorem x_if_ne {x : Int32} {off : Int} {tgt : Nat} (hd : decode μ.2.1 pc = .ok (.ifCond .ne off, 3)) (ht : (pc : Int) + off = (tgt : Int)) (kt : ¬ x = 0 → Xm ζ R μ tgt lv st cl sl n sh I Q) (kf : x = 0 → Xm ζ R μ (pc + 3) lv st cl sl n sh I Q) : Xm ζ R μ pc lv (.int x :: st) cl sl n sh I Q := by
  intro Γ p l e s m args below meth c Z H locs ls C D
  exact lv_if_ne C.1 C.2.1 hd ht (fun h => kt h Γ p l e s m args below meth c Z H locs ls C D) (fun h => kf h Γ p l e s m args below meth c Z H locs ls C D)

theorem x_icmp_ne {x y : Int32} {off : Int} {tgt : Nat} (hd : decode μ.2.1 pc = .ok (.if_icmp .ne off, 3)) (ht : (pc : Int) + off = (tgt : Int)) (kt : ¬ x = y → Xm ζ R μ tgt lv st cl sl n sh I Q) (kf : x = y → Xm ζ R μ (pc + 3) lv st cl sl n sh I Q) : Xm ζ R μ pc lv (.int y :: .int x :: st) cl sl n sh I Q := by
  intro Γ p l e s m args below meth c Z H locs ls C D
  exact lv_icmp_ne C.1 C.2.1 hd ht (fun h => kt h Γ p l e s m args below meth c Z H locs ls C D) (fun h => kf h Γ p l e s m args below meth c Z H locs ls C D)

theorem x_if_lt {x : Int32} {off : Int} {tgt : Nat} (hd : decode μ.2.1 pc = .ok (.ifCond .lt off, 3)) (ht : (pc : Int) + off = (tgt : Int)) (kt : x < 0 → Xm ζ R μ tgt lv st cl sl n sh I Q) (kf : ¬ x < 0 → Xm ζ R μ (pc + 3) lv st cl sl n sh I Q) : Xm ζ R μ pc lv (.int x :: st) cl sl n sh I Q := by
  intro Γ p l e s m args below meth c Z H locs ls C D
  exact lv_if_lt C.1 C.2.1 hd ht (fun h => kt h Γ p l e s m args below meth c Z H locs ls C D) (fun h => kf h Γ p l e s m args below meth c Z H locs ls C D)

theorem x_icmp_lt {x y : Int32} {off : Int} {tgt : Nat} (hd : decode μ.2.1 pc = .ok (.if_icmp .lt off, 3)) (ht : (pc : Int) + off = (tgt : Int)) (kt : x < y → Xm ζ R μ tgt lv st cl sl n sh I Q) (kf : ¬ x < y → Xm ζ R μ (pc + 3) lv st cl sl n sh I Q) : Xm ζ R μ pc lv (.int y :: .int x :: st) cl sl n sh I Q := by
  intro Γ p l e s m args below meth c Z H locs ls C D
  exact lv_icmp_lt C.1 C.2.1 hd ht (fun h => kt h Γ p l e s m args below meth c Z H locs ls C D) (fun h => kf h Γ p l e s m args below meth c Z H locs ls C D)

theorem x_if_ge {x : Int32} {off : Int} {tgt : Nat} (hd : decode μ.2.1 pc = .ok (.ifCond .ge off, 3)) (ht : (pc : Int) + off = (tgt : Int)) (kt : 0 ≤ x → Xm ζ R μ tgt lv st cl sl n sh I Q) (kf : ¬ 0 ≤ x → Xm ζ R μ (pc + 3) lv st cl sl n sh I Q) : Xm ζ R μ pc lv (.int x :: st) cl sl n sh I Q := by
  intro Γ p l e s m args below meth c Z H locs ls C D
  exact lv_if_ge C.1 C.2.1 hd ht (fun h => kt h Γ p l e s m args below meth c Z H locs ls C D) (fun h => kf h Γ p l e s m args below meth c Z H locs ls C D)

theorem x_icmp_ge {x y : Int32} {off : Int} {tgt : Nat} (hd : decode μ.2.1 pc = .ok (.if_icmp .ge off, 3)) (ht : (pc : Int) + off = (tgt : Int)) (kt : y ≤ x → Xm ζ R μ tgt lv st cl sl n sh I Q) (kf : ¬ y ≤ x → Xm ζ R μ (pc + 3) lv st cl sl n sh I Q) : Xm ζ R μ pc lv (.int y :: .int x :: st) cl sl n sh I Q := by
  intro Γ p l e s m args below meth c Z H locs ls C D
  exact lv_icmp_ge C.1 C.2.1 hd ht (fun h => kt h Γ p l e s m args below meth c Z H locs ls C D) (fun h => kf h Γ p l e s m args below meth c Z H locs ls C D)

theorem x_if_gt {x : Int32} {off : Int} {tgt : Nat} (hd : decode μ.2.1 pc = .ok (.ifCond .gt off, 3)) (ht : (pc : Int) + off = (tgt : Int)) (kt : 0 < x → Xm ζ R μ tgt lv st cl sl n sh I Q) (kf : ¬ 0 < x → Xm ζ R μ (pc + 3) lv st cl sl n sh I Q) : Xm ζ R μ pc lv (.int x :: st) cl sl n sh I Q := by
  intro Γ p l e s m args below meth c Z H locs ls C D
  exact lv_if_gt C.1 C.2.1 hd ht (fun h => kt h Γ p l e s m args below meth c Z H locs ls C D) (fun h => kf h Γ p l e s m args below meth c Z H locs ls C D)

theorem x_icmp_gt {x y : Int32} {off : Int} {tgt : Nat} (hd : decode μ.2.1 pc = .ok (.if_icmp .gt off, 3)) (ht : (pc : Int) + off = (tgt : Int)) (kt : y < x → Xm ζ R μ tgt lv st cl sl n sh I Q) (kf : ¬ y < x → Xm ζ R μ (pc + 3) lv st cl sl n sh I Q) : Xm ζ R μ pc lv (.int y :: .int x :: st) cl sl n sh I Q := by
  intro Γ p l e s m args below meth c Z H locs ls C D
  exact lv_icmp_gt C.1 C.2.1 hd ht (fun h => kt h Γ p l e s m args below meth c Z H locs ls C D) (fun h => kf h Γ p l e s m args below meth c Z H locs ls C D)

theorem x_if_le {x : Int32} {off : Int} {tgt : Nat} (hd : decode μ.2.1 pc = .ok (.ifCond .le off, 3)) (ht : (pc : Int) + off = (tgt : Int)) (kt : x ≤ 0 → Xm ζ R μ tgt lv st cl sl n sh I Q) (kf : ¬ x ≤ 0 → Xm ζ R μ (pc + 3) lv st cl sl n sh I Q) : Xm ζ R μ pc lv (.int x :: st) cl sl n sh I Q := by
  intro Γ p l e s m args below meth c Z H locs ls C D
  exact lv_if_le C.1 C.2.1 hd ht (fun h => kt h Γ p l e s m args below meth c Z H locs ls C D) (fun h => kf h Γ p l e s m args below meth c Z H locs ls C D)

theorem x_icmp_le {x y : Int32} {off : Int} {tgt : Nat} (hd : decode μ.2.1 pc = .ok (.if_icmp .le off, 3)) (ht : (pc : Int) + off = (tgt : Int)) (kt : x ≤ y → Xm ζ R μ tgt lv st cl sl n sh I Q) (kf : ¬ x ≤ y → Xm ζ R μ (pc + 3) lv st cl sl n sh I Q) : Xm ζ R μ pc lv (.int y :: .int x :: st) cl sl n sh I Q := by
  intro Γ p l e s m args below meth c Z H locs ls C D
  exact lv_icmp_le C.1 C.2.1 hd ht (fun h => kt h Γ p l e s m args below meth c Z H locs ls C D) (fun h => kf h Γ p l e s m args below meth c Z H locs ls C D)

theorem x_goto {off : Int} {tgt : Nat} (hd : decode μ.2.1 pc = .ok (.goto off, 3)) (ht : (pc : Int) + off = (tgt : Int)) (k : Xm ζ R μ tgt lv st cl sl n sh I Q) : Xm ζ R μ pc lv st cl sl n sh I Q := by
  intro Γ p l e s m args below meth c Z H locs ls C D
  exact lv_goto C.1 C.2.1 hd ht (k Γ p l e s m args below meth c Z H locs ls C D)

theorem x_tableOut {dflt lo hi : Int} {offs : Array Int} {len : Nat} {x : Int32} {tgt : Nat} (hd : decode μ.2.1 pc = .ok (.tableswitch dflt lo hi offs, len)) (h : x.toInt < lo ∨ hi < x.toInt) (ht : (pc : Int) + dflt = (tgt : Int)) (k : Xm ζ R μ tgt lv st cl sl n sh I Q) : Xm ζ R μ pc lv (.int x :: st) cl sl n sh I Q := by
  intro Γ p l e s m args below meth c Z H locs ls C D
  exact lv_tableOut C.1 C.2.1 hd h ht (k Γ p l e s m args below meth c Z H locs ls C D)

theorem x_tableIn {dflt lo hi : Int} {offs : Array Int} {len : Nat} {x : Int32} {off : Int} {tgt : Nat} (hd : decode μ.2.1 pc = .ok (.tableswitch dflt lo hi offs, len)) (h1 : ¬ x.toInt < lo) (h2 : ¬ hi < x.toInt) (ho : offs[(x.toInt - lo).toNat]? = some off) (ht : (pc : Int) + off = (tgt : Int)) (k : Xm ζ R μ tgt lv st cl sl n sh I Q) : Xm ζ R μ pc lv (.int x :: st) cl sl n sh I Q := by
  intro Γ p l e s m args below meth c Z H locs ls C D
  exact lv_tableIn C.1 C.2.1 hd h1 h2 ho ht (k Γ p l e s m args below meth c Z H locs ls C D)

theorem x_ldcf {idx : Nat} {v : UInt32} (hd : decode μ.2.1 pc = .ok (.ldc idx, 2)) (hw : Cond.constantFloat μ.1.cls idx v ∈ lw_good) (k : Xm ζ R μ (pc + 2) lv (.float v :: st) cl sl n sh I Q) : Xm ζ R μ pc lv st cl sl n sh I Q := by
  intro Γ p l e s m args below meth c Z H locs ls C D
  exact lv_ldcf C.1 C.2.1 C.2.2.2.1 (C.2.2.2.2.1 _ hw) hd (k Γ p l e s m args below meth c Z H locs ls C D)

theorem x_ldc {idx : Nat} {v : Int32} (hd : decode μ.2.1 pc = .ok (.ldc idx, 2)) (hw : Cond.constant μ.1.cls idx v ∈ lw_good) (k : Xm ζ R μ (pc + 2) lv (.int v :: st) cl sl n sh I Q) : Xm ζ R μ pc lv st cl sl n sh I Q := by
  intro Γ p l e s m args below meth c Z H locs ls C D
  exact lv_ldc C.1 C.2.1 C.2.2.2.1 (C.2.2.2.2.1 _ hw) hd (k Γ p l e s m args below meth c Z H locs ls C D)

theorem x_ldcw {idx : Nat} {v : Int32} (hd : decode μ.2.1 pc = .ok (.ldc_w idx, 3)) (hw : Cond.constant μ.1.cls idx v ∈ lw_good) (k : Xm ζ R μ (pc + 3) lv (.int v :: st) cl sl n sh I Q) : Xm ζ R μ pc lv st cl sl n sh I Q := by
  intro Γ p l e s m args below meth c Z H locs ls C D
  exact lv_ldcw C.1 C.2.1 C.2.2.2.1 (C.2.2.2.2.1 _ hw) hd (k Γ p l e s m args below meth c Z H locs ls C D)

theorem x_ret {r : Option Value} (hr : sm_R μ r pc) (hc : cl ≤ R.cells) (hs : sl ≤ R.slots) (hq : Q r n sh I) : Xm ζ R μ pc lv r.toList cl sl n sh I Q := by
  intro Γ p l e s m args below meth c Z H locs ls C D
  have h := C.2.2.2.2.2.2.2 r n sh I H locs cl sl pc ls hc hs hq D.2.1 D.1 hr
  cases r <;> exact h
/-! ===== fields ===== -/
/-- a class of the worlds, with its words -/
def sm_Cl (ci : Nat) (K : String) (T : u_T) (N : Nat) (ty : Nat → FieldType) : Prop := vwCl[ci]? = some (K, T, N) ∧ (sm_ft ci).length = N ∧ (∀ w ∈ u_ws K T N, w ∈ lw_good) ∧ (∀ k, k < N → parseFieldDescriptor (T k).2.2.1 = some (ty k)) ∧ (∀ a, a < N → ∀ b, b < N → a ≠ b → (T a).2.1 ≠ (T b).2.1)
/-- field k of class ci, as the pool of own has it at idx; its type; whether it's final -/
def sm_Fl (own : String) (idx ci k : Nat) (t : FieldType) (fin : Bool) : Prop := ∃ (K : String) (T : u_T) (N : Nat) (ty : Nat → FieldType), sm_Cl ci K T N ty ∧ k < N ∧ ty k = t ∧ (T k).2.2.2 = fin ∧ Cond.fieldLink own idx (T k).1 (T k).2.1 (T k).2.2.1 ∈ lw_good ∧ (fin = true → (T k).1 = own)
def sm_Fg (own : String) (idx ci k : Nat) : Prop := ∃ (K : String) (T : u_T) (N : Nat) (ty : Nat → FieldType), sm_Cl ci K T N ty ∧ k < N ∧ Cond.fieldLink own idx (T k).1 (T k).2.1 (T k).2.2.1 ∈ lw_good
theorem sm_F_at {ad : Nat → Nat} {c k : Nat} {rs : List (Option Nat)} {f : Nat → Int32} (hk : k < (sm_ft c).length) : (sm_F ad c rs f)[k]? = some (if (sm_ft c).getD k false = true then .int (f k) else va_rf ((rs.getD k none).map ad)) := by
  unfold sm_F
  rw [List.getElem?_map, List.getElem?_range hk]
  rfl
theorem sm_F_len {ad : Nat → Nat} {c : Nat} {rs : List (Option Nat)} {f : Nat → Int32} : (sm_F ad c rs f).length = (sm_ft c).length := by simp [sm_F]
theorem sm_F_setI {ad : Nat → Nat} {c k : Nat} {rs : List (Option Nat)} {f : Nat → Int32} {v : Int32} (hi : (sm_ft c).getD k false = true) : (sm_F ad c rs f).set k (.int v) = sm_F ad c rs (upd f k v) := by
  apply List.ext_getElem?
  intro j
  by_cases hj : j < (sm_ft c).length
  · by_cases hjk : j = k
    · subst hjk
      rw [List.getElem?_set_self (by rw [sm_F_len]; exact hj), sm_F_at hj, if_pos hi]
      simp [upd]
    · rw [List.getElem?_set_ne (Ne.symm hjk), sm_F_at hj, sm_F_at hj]
      simp [upd, hjk]
  · rw [List.getElem?_eq_none (by rw [List.length_set, sm_F_len]; omega), List.getElem?_eq_none (by rw [sm_F_len]; omega)]
theorem sm_F_setR {ad : Nat → Nat} {c k b : Nat} {rs : List (Option Nat)} {f : Nat → Int32} (hi : (sm_ft c).getD k false = false) (hr : rs.length = (sm_ft c).length) : (sm_F ad c rs f).set k (.ref (ad b)) = sm_F ad c (rs.set k (some b)) f := by
  apply List.ext_getElem?
  intro j
  by_cases hj : j < (sm_ft c).length
  · by_cases hjk : j = k
    · subst hjk
      rw [List.getElem?_set_self (by rw [sm_F_len]; exact hj), sm_F_at hj, if_neg (by rw [hi]; decide), List.getD_eq_getElem?_getD, List.getElem?_set_self (by omega)]
      rfl
    · rw [List.getElem?_set_ne (Ne.symm hjk), sm_F_at hj, sm_F_at hj, List.getD_eq_getElem?_getD, List.getD_eq_getElem?_getD (l := rs.set k (some b)), List.getElem?_set_ne (Ne.symm hjk), List.getD_eq_getElem?_getD (l := rs)]
  · rw [List.getElem?_eq_none (by rw [List.length_set, sm_F_len]; omega), List.getElem?_eq_none (by rw [sm_F_len]; omega)]
theorem sm_one {D : va_G} {q : Nat × va_E} {H : Heap} (h : va_at D vwCl q H) : va_P D vwCl [q] H := by
  intro k x hx
  have hz : k < 1 := (List.getElem?_eq_some_iff.mp hx).1
  rw [show k = 0 by omega] at hx
  cases hx
  exact h
/-- behind a change of one cell -/
theorem sm_H.put {Γ : sm_G} {n a : Nat} {sh sh' : Nat → sm_S} {I I' : sm_I} {H H1 : Heap} (h : sm_H Γ n sh I H) (had : ∀ k, k < 1000000 → Γ.2.1 k = Γ.1 + k) (ha : a < n) (hz : H1.size = H.size) (ho : ∀ q, q ≠ Γ.2.1 a → H1[q]? = H[q]?) (hsh : ∀ b, b ≠ a → sh' b = sh b) (hI : ∀ b, b ≠ a → I' b = I b) (he : va_at Γ.2.2.1 vwCl (Γ.2.1 a, sm_E Γ.2.1 Γ.2.2.2.1 (sh' a) (I' a)) H1) : sm_H Γ n sh' I' H1 := by
  refine ⟨hz.trans h.1, h.2.1, fun b hb => ?_⟩
  by_cases hba : b = a
  · subst hba; exact he
  · rw [hsh b hba, hI b hba]
    refine (h.2.2 b hb).kept (ho _ ?_)
    have := h.2.1
    show Γ.2.1 b ≠ Γ.2.1 a
    rw [had b (by omega), had a (by omega)]
    omega
theorem sm_E_obj {ad : Nat → Nat} {g : Nat → ClassId} {q : sm_S} {f : Nat → Int32} {ci : Nat} {rs : List (Option Nat)} (h : q = (0, ci, rs)) : sm_E ad g q f = .inr (ci, sm_F ad ci rs f) := by subst h; rfl
theorem sm_E_arr {ad : Nat → Nat} {g : Nat → ClassId} {q : sm_S} {f : Nat → Int32} {t N : Nat} {rs : List (Option Nat)} (h : q = (t + 1, N, rs)) (ht : t < 3) : sm_E ad g q f = .inl (g t, N, .inl f) := by subst h; simp [sm_E, ht]
theorem sm_E_ref {ad : Nat → Nat} {g : Nat → ClassId} {q : sm_S} {f : Nat → Int32} {t N : Nat} {rs : List (Option Nat)} (h : q = (t + 1, N, rs)) (ht : 3 ≤ t) : sm_E ad g q f = .inl (g t, N, .inr (.inr (.inr (.inr (fun j => (rs.getD j none).map ad))))) := by subst h; simp [sm_E, Nat.not_lt.mpr ht]
theorem x_getI {idx ci k a : Nat} {rs : List (Option Nat)} (hd : decode μ.2.1 pc = .ok (.getfield idx, 3)) (hf : sm_Fg μ.1.cls idx ci k) (ha : a < n) (hs : sh a = (0, ci, rs)) (hi : (sm_ft ci).getD k false = true) (kk : Xm ζ R μ (pc + 3) lv (.int (I a k) :: st) cl sl n sh I Q) : Xm ζ R μ pc lv (.ref a :: st) cl sl n sh I Q := by
  intro Γ p l e s m args below meth c Z H locs ls C D
  obtain ⟨K, T, N, ty, ⟨h1, h2, h3, h4, h5⟩, hk, h8⟩ := hf
  have he := D.2.1.2.2 a ha
  rw [sm_E_obj hs] at he
  refine va_get (v := .int (I a k)) C.1 C.2.1 C.2.2.2.2.1 h3 C.2.2.2.1 C.2.2.2.2.2.2.1.2.1 (sm_one he) 0 rfl h1 k hk (C.2.2.2.2.1 _ h8) (fun _ h => h) ?_ hd (kk Γ p l e s m args below meth c Z H locs ls C D)
  rw [sm_F_at (by omega), if_pos hi]
theorem x_getR {idx ci k a b : Nat} {rs : List (Option Nat)} (hd : decode μ.2.1 pc = .ok (.getfield idx, 3)) (hf : sm_Fg μ.1.cls idx ci k) (ha : a < n) (hs : sh a = (0, ci, rs)) (hi : (sm_ft ci).getD k false = false) (hb : rs.getD k none = some b) (kk : Xm ζ R μ (pc + 3) lv (.ref b :: st) cl sl n sh I Q) : Xm ζ R μ pc lv (.ref a :: st) cl sl n sh I Q := by
  intro Γ p l e s m args below meth c Z H locs ls C D
  obtain ⟨K, T, N, ty, ⟨h1, h2, h3, h4, h5⟩, hk, h8⟩ := hf
  have he := D.2.1.2.2 a ha
  rw [sm_E_obj hs] at he
  refine va_get (v := .ref (Γ.2.1 b)) C.1 C.2.1 C.2.2.2.2.1 h3 C.2.2.2.1 C.2.2.2.2.2.2.1.2.1 (sm_one he) 0 rfl h1 k hk (C.2.2.2.2.1 _ h8) (fun _ h => h) ?_ hd (kk Γ p l e s m args below meth c Z H locs ls C D)
  rw [sm_F_at (by omega), if_neg (by rw [hi]; decide), hb]
  rfl
/-- putfield, any value: what the row gives, for the rules below -/
theorem sm_put {Γ : sm_G} {p : Program} {l : Launch} {e : Env} {s : State} {m : MethodId} {args : Array Value} {below : List Frame} {meth : Method} {c : Code} {Z : State → Prop} {H : Heap} {locs : List Loc} {ls : Array Slot} (C : sm_C ζ Γ R μ p l e s m args below meth c Z Q) (hS : va_S (fun q => Γ.1 ≤ q) s.heap H locs) (hH : sm_H Γ n sh I H)
    {idx ci k a : Nat} {t : FieldType} {fin : Bool} {rs : List (Option Nat)} {v : Value} {fs : List Value} {rest : List Value} (hd : decode μ.2.1 pc = .ok (.putfield idx, 3)) (hf : sm_Fl μ.1.cls idx ci k t fin) (hini : fin = true → μ.1.name = "<init>") (ha : a < n) (hs : sh a = (0, ci, rs)) (hn : narrow t v = v) (hfit : fits t v = true)
    {sh' : Nat → sm_S} {I' : sm_I} (hsh : ∀ b, b ≠ a → sh' b = sh b) (hI : ∀ b, b ≠ a → I' b = I b) (hE : sm_E Γ.2.1 Γ.2.2.2.1 (sh' a) (I' a) = .inr (ci, (sm_F Γ.2.1 ci rs (I a)).set k v))
    (kk : ∀ (H1 : Heap) (locs1 : List Loc), va_S (fun q => Γ.1 ≤ q) s.heap H1 locs1 → sm_H Γ n sh' I' H1 → W p l e R s m args below meth c H1 locs1 cl sl Z (F0 m (pc + 3) ls rest)) : W p l e R s m args below meth c H locs cl sl Z (F0 m pc ls (v :: .ref (Γ.2.1 a) :: rest)) := by
  obtain ⟨K, T, N, ty, ⟨h1, h2, h3, h4, h5⟩, hk, h6, h7, h8, h9⟩ := hf
  subst h6
  have hK := C.2.2.2.2.2.2.1
  have he := hH.2.2 a ha
  rw [sm_E_obj hs] at he
  have hts := C.2.2.2.2.1
  have hown := C.2.2.2.1
  have hap := va_apart (own := μ.1.cls) hts h3 ty h4 h5 hK.2.1 h1
  obtain ⟨r, g1, cell, q1, q2, q3, q4⟩ := he
  have hr : r = (K, T, N) := Option.some.inj (g1.symm.trans h1)
  subst hr
  obtain ⟨hSl, hfc, kC, hkC, hkind⟩ := hK.2.1.1 ci _ h1
  obtain ⟨cf, kf, fi, f, hi, hsl⟩ := hSl k hk
  have hlay := hts _ (h3 _ (u_in_lay hk))
  unfold u_lay at hlay
  have hst := (u_facts hfc hkC (u_lays hts h3 hk) hi).1
  have haA : Γ.1 ≤ Γ.2.1 a := by
    have := hH.2.1
    rw [hK.1 a (by omega)]; omega
  have key : ∀ H1 : Heap, H1[Γ.2.1 a]? = some (cell.setSlot f.slot v) → H1.size = H.size → (∀ q, q ≠ Γ.2.1 a → H1[q]? = H[q]?) → W p l e R s m args below meth c H1 (locs ++ [⟨Γ.2.1 a, f.slot⟩]) cl sl Z (F0 m (pc + 3) ls rest) := by
    intro H1 e1 e2 e3
    refine kk H1 _ (hS.put e2 e3 haA) (hH.put hK.1 ha e2 e3 hsh hI ?_)
    rw [hE]
    rw [hsl] at e1
    exact ⟨_, h1, t_OB.to (V := updV (vp_V (sm_F Γ.2.1 ci rs (I a))) k v) ⟨_, e1, q2, q3, t_set q4 hap hk v⟩ (fun j _ => vp_updV_set (by rw [sm_F_len]; omega) v j)⟩
  cases hfin : fin with
  | false =>
    rw [hfin] at h7
    rw [if_neg (by rw [h7]; decide)] at hlay
    have h10 := u_store hfc hkC hkind hlay hi (h4 k hk) hn hfit
    exact W.putK C.1 C.2.1 (f := f) ⟨hown, hts _ h8, ⟨_, _, _, hi⟩, hst⟩ (by rw [q2]; exact h10) q1 q3 (by rw [hsl]; exact k2_hasslot (q4 k hk)) rfl rfl hd key
  | true =>
    rw [hfin] at h7
    rw [if_pos h7] at hlay
    have hcf : m.cls = cf := by
      obtain ⟨_, _, c', _, _, _, -, -, hf', -, -, -, hown2, -⟩ := Cond.laysFinal_spec hlay
      have e1 : c' = cf := by have := hi.symm.trans hf'; simp at this; exact this.1.symm
      rw [h9 hfin] at hown2
      rw [← e1]; exact Option.some.inj (hown.symm.trans hown2)
    have h10 := u_fits hfc hkC hkind (Or.inr hlay) hi (h4 k hk) hn hfit
    exact W.putFinK C.1 C.2.1 hown (hts _ h8) hi hst hcf (C.2.2.2.2.2.1.trans (hini hfin)) (by rw [q2]; exact h10) q1 q3 (by rw [hsl]; exact k2_hasslot (q4 k hk)) rfl rfl hd key
theorem x_putI {idx ci k a : Nat} {t : FieldType} {fin : Bool} {rs : List (Option Nat)} {v : Int32} (hd : decode μ.2.1 pc = .ok (.putfield idx, 3)) (hf : sm_Fl μ.1.cls idx ci k t fin) (hini : fin = true → μ.1.name = "<init>") (ha : a < n) (hs : sh a = (0, ci, rs)) (hi : (sm_ft ci).getD k false = true) (hn : narrow t (.int v) = .int v) (hfit : fits t (.int v) = true) (kk : Xm ζ R μ (pc + 3) lv st cl sl n sh (up2 I a k v) Q) : Xm ζ R μ pc lv (.int v :: .ref a :: st) cl sl n sh I Q := by
  intro Γ p l e s m args below meth c Z H locs ls C D
  refine sm_put C D.1 D.2.1 (v := .int v) (fs := []) hd hf hini ha hs hn hfit (sh' := sh) (I' := up2 I a k v) (fun _ _ => rfl) (fun b hb => up2_ne hb) ?_ (fun H1 locs1 hS1 hH1 => kk Γ p l e s m args below meth c Z H1 locs1 ls C ⟨hS1, hH1, D.2.2⟩)
  rw [sm_E_obj hs, up2_row, sm_F_setI hi]
theorem x_putR {idx ci k a b : Nat} {t : FieldType} {fin : Bool} {rs : List (Option Nat)} (hd : decode μ.2.1 pc = .ok (.putfield idx, 3)) (hf : sm_Fl μ.1.cls idx ci k t fin) (hini : fin = true → μ.1.name = "<init>") (ha : a < n) (hs : sh a = (0, ci, rs)) (hi : (sm_ft ci).getD k false = false) (hl : rs.length = (sm_ft ci).length) (hn : ∀ x : Nat, narrow t (.ref x) = .ref x) (hfit : ∀ x : Nat, fits t (.ref x) = true) (kk : Xm ζ R μ (pc + 3) lv st cl sl n (va_up sh a (0, ci, rs.set k (some b))) I Q) : Xm ζ R μ pc lv (.ref b :: .ref a :: st) cl sl n sh I Q := by
  intro Γ p l e s m args below meth c Z H locs ls C D
  refine sm_put C D.1 D.2.1 (v := .ref (Γ.2.1 b)) (fs := []) hd hf hini ha hs (hn _) (hfit _) (sh' := va_up sh a (0, ci, rs.set k (some b))) (I' := I) (fun b hb => by simp [va_up, hb]) (fun b hb => rfl) ?_ (fun H1 locs1 hS1 hH1 => kk Γ p l e s m args below meth c Z H1 locs1 ls C ⟨hS1, hH1, D.2.2⟩)
  rw [show va_up sh a (0, ci, rs.set k (some b)) a = (0, ci, rs.set k (some b)) by simp [va_up], sm_E_obj rfl, sm_F_setR hi hl]
/-! ===== arrays ===== -/
theorem sm_ty_at {Γ : sm_G} {t : Nat} (ht : t < 6) : (sm_tys Γ.2.2.2.1)[t]? = some (Γ.2.2.2.1 t, sm_ty t) := by
  match t, ht with
  | 0, _ => rfl
  | 1, _ => rfl
  | 2, _ => rfl
  | 3, _ => rfl
  | 4, _ => rfl
  | 5, _ => rfl
theorem x_iald {a N : Nat} {i : Int32} {rs : List (Option Nat)} (hd : decode μ.2.1 pc = .ok (.iaload, 1)) (ha : a < n) (hs : sh a = (1, N, rs)) (hin : vp_in i N) (kk : Xm ζ R μ (pc + 1) lv (.int (I a i.toNatClampNeg) :: st) cl sl n sh I Q) : Xm ζ R μ pc lv (.int i :: .ref a :: st) cl sl n sh I Q := by
  intro Γ p l e s m args below meth c Z H locs ls C D
  have he := D.2.1.2.2 a ha
  rw [sm_E_arr (t := 0) hs (by decide)] at he
  exact va_iald C.1 C.2.1 C.2.2.2.2.2.2.1.2.1 (sm_one he) 0 0 rfl rfl hin hd (kk Γ p l e s m args below meth c Z H locs ls C D)
theorem x_zald {a N : Nat} {i : Int32} {rs : List (Option Nat)} (hd : decode μ.2.1 pc = .ok (.baload, 1)) (ha : a < n) (hs : sh a = (2, N, rs)) (hin : vp_in i N) (kk : Xm ζ R μ (pc + 1) lv (.int (I a i.toNatClampNeg) :: st) cl sl n sh I Q) : Xm ζ R μ pc lv (.int i :: .ref a :: st) cl sl n sh I Q := by
  intro Γ p l e s m args below meth c Z H locs ls C D
  have he := D.2.1.2.2 a ha
  rw [sm_E_arr (t := 1) hs (by decide)] at he
  exact va_zald C.1 C.2.1 C.2.2.2.2.2.2.1.2.1 (sm_one he) 0 1 rfl rfl hin hd (kk Γ p l e s m args below meth c Z H locs ls C D)
theorem x_bald {a N : Nat} {i : Int32} {rs : List (Option Nat)} (hd : decode μ.2.1 pc = .ok (.baload, 1)) (ha : a < n) (hs : sh a = (3, N, rs)) (hin : vp_in i N) (kk : Xm ζ R μ (pc + 1) lv (.int (I a i.toNatClampNeg) :: st) cl sl n sh I Q) : Xm ζ R μ pc lv (.int i :: .ref a :: st) cl sl n sh I Q := by
  intro Γ p l e s m args below meth c Z H locs ls C D
  have he := D.2.1.2.2 a ha
  rw [sm_E_arr (t := 2) hs (by decide)] at he
  exact va_bald C.1 C.2.1 C.2.2.2.2.2.2.1.2.1 (sm_one he) 0 2 rfl rfl hin hd (kk Γ p l e s m args below meth c Z H locs ls C D)
theorem x_aald {a N t b : Nat} {i : Int32} {rs : List (Option Nat)} (hd : decode μ.2.1 pc = .ok (.aaload, 1)) (ha : a < n) (hs : sh a = (t + 1, N, rs)) (ht : 3 ≤ t ∧ t < 6) (hin : vp_in i N) (hb : rs.getD i.toNatClampNeg none = some b) (kk : Xm ζ R μ (pc + 1) lv (.ref b :: st) cl sl n sh I Q) : Xm ζ R μ pc lv (.int i :: .ref a :: st) cl sl n sh I Q := by
  intro Γ p l e s m args below meth c Z H locs ls C D
  have he := D.2.1.2.2 a ha
  rw [sm_E_ref hs ht.1] at he
  have hty : ∃ K, sm_ty t = .object K := by
    obtain ⟨h3, h6⟩ := ht
    rcases (show t = 3 ∨ t = 4 ∨ t = 5 by omega) with rfl | rfl | rfl <;> exact ⟨_, rfl⟩
  obtain ⟨K, hK⟩ := hty
  have hk := kk Γ p l e s m args below meth c Z H locs ls C D
  refine va_aldq (C := K) C.1 C.2.1 C.2.2.2.2.2.2.1.2.1 (sm_one he) 0 t rfl (by rw [sm_ty_at ht.2, hK]) hin hd ?_
  rw [hb]
  exact hk
theorem x_alen {a N t : Nat} {rs : List (Option Nat)} (hd : decode μ.2.1 pc = .ok (.arraylength, 1)) (ha : a < n) (hs : sh a = (t + 1, N, rs)) (ht : t < 3) (kk : Xm ζ R μ (pc + 1) lv (.int (Int32.ofNat N) :: st) cl sl n sh I Q) : Xm ζ R μ pc lv (.ref a :: st) cl sl n sh I Q := by
  intro Γ p l e s m args below meth c Z H locs ls C D
  have he := D.2.1.2.2 a ha
  rw [sm_E_arr hs ht] at he
  exact va_alen C.1 C.2.1 C.2.2.2.2.2.2.1.2.1 (sm_one he) 0 t rfl (sm_ty_at (by omega)) rfl hd (kk Γ p l e s m args below meth c Z H locs ls C D)
theorem sm_base {Γ : sm_G} (had : ∀ k, k < 1000000 → Γ.2.1 k = Γ.1 + k) {H : Heap} (hH : sm_H Γ n sh I H) {a : Nat} (ha : a < n) : Γ.1 ≤ Γ.2.1 a := by
  have := hH.2.1
  rw [had a (by omega)]; omega
theorem sm_row {cA : ClassId} {N k : Nat} {f : Nat → Int32} {v : Int32} : (arrV cA N (fun j => .int (f j))).setSlot k (.int v) = arrV cA N (fun j => .int (upd f k v j)) := by
  rw [arrV_store]
  congr 1
  funext q
  by_cases hq : q = k
  · subst hq; simp [updV, upd]
  · simp [updV, upd, hq]
theorem x_iast {a N : Nat} {i v : Int32} {rs : List (Option Nat)} (hd : decode μ.2.1 pc = .ok (.iastore, 1)) (ha : a < n) (hs : sh a = (1, N, rs)) (hin : vp_in i N) (kk : Xm ζ R μ (pc + 1) lv st cl sl n sh (up2 I a i.toNatClampNeg v) Q) : Xm ζ R μ pc lv (.int v :: .int i :: .ref a :: st) cl sl n sh I Q := by
  intro Γ p l e s m args below meth c Z H locs ls C D
  have hK := C.2.2.2.2.2.2.1
  have he := D.2.1.2.2 a ha
  rw [sm_E_arr (t := 0) hs (by decide)] at he
  refine W.iast C.1 C.2.1 he ((hK.2.1.2 0 _ rfl).1 N (fun j => .int (I a j))) (fun q => by cases q) (by show ¬ (i < 0 ∨ (arrV _ _ _).slots.size ≤ _); rw [arrV_size]; exact hin) rfl rfl hd fun H1 e1 z oq => ?_
  refine kk Γ p l e s m args below meth c Z H1 _ ls C ⟨D.1.put z oq (sm_base hK.1 D.2.1 ha), D.2.1.put hK.1 ha z oq (fun _ _ => rfl) (fun b hb => up2_ne hb) ?_, D.2.2⟩
  rw [sm_E_arr (t := 0) hs (by decide), up2_row]
  exact e1.trans (congrArg some sm_row)
theorem x_bast {a N : Nat} {i v w : Int32} {rs : List (Option Nat)} (hd : decode μ.2.1 pc = .ok (.bastore, 1)) (ha : a < n) (hs : sh a = (3, N, rs)) (hin : vp_in i N) (hw : narrow .byte (.int v) = .int w) (kk : Xm ζ R μ (pc + 1) lv st cl sl n sh (up2 I a i.toNatClampNeg w) Q) : Xm ζ R μ pc lv (.int v :: .int i :: .ref a :: st) cl sl n sh I Q := by
  intro Γ p l e s m args below meth c Z H locs ls C D
  have hK := C.2.2.2.2.2.2.1
  have he := D.2.1.2.2 a ha
  rw [sm_E_arr (t := 2) hs (by decide)] at he
  refine W.bast C.1 C.2.1 he ((hK.2.1.2 2 _ rfl).1 N (fun j => .int (I a j))) (fun q => by cases q) (by show ¬ (i < 0 ∨ (arrV _ _ _).slots.size ≤ _); rw [arrV_size]; exact hin) rfl rfl hd fun H1 e1 z oq => ?_
  rw [hw] at e1
  refine kk Γ p l e s m args below meth c Z H1 _ ls C ⟨D.1.put z oq (sm_base hK.1 D.2.1 ha), D.2.1.put hK.1 ha z oq (fun _ _ => rfl) (fun b hb => up2_ne hb) ?_, D.2.2⟩
  rw [sm_E_arr (t := 2) hs (by decide), up2_row]
  exact e1.trans (congrArg some sm_row)
theorem x_zast {a N : Nat} {i v w : Int32} {rs : List (Option Nat)} (hd : decode μ.2.1 pc = .ok (.bastore, 1)) (ha : a < n) (hs : sh a = (2, N, rs)) (hin : vp_in i N) (hw : narrow .boolean (.int v) = .int w) (kk : Xm ζ R μ (pc + 1) lv st cl sl n sh (up2 I a i.toNatClampNeg w) Q) : Xm ζ R μ pc lv (.int v :: .int i :: .ref a :: st) cl sl n sh I Q := by
  intro Γ p l e s m args below meth c Z H locs ls C D
  have hK := C.2.2.2.2.2.2.1
  have he := D.2.1.2.2 a ha
  rw [sm_E_arr (t := 1) hs (by decide)] at he
  refine W.zast C.1 C.2.1 he ((hK.2.1.2 1 _ rfl).1 N (fun j => .int (I a j))) (fun q => by cases q) (by show ¬ (i < 0 ∨ (arrV _ _ _).slots.size ≤ _); rw [arrV_size]; exact hin) rfl rfl hd fun H1 e1 z oq => ?_
  rw [hw] at e1
  refine kk Γ p l e s m args below meth c Z H1 _ ls C ⟨D.1.put z oq (sm_base hK.1 D.2.1 ha), D.2.1.put hK.1 ha z oq (fun _ _ => rfl) (fun b hb => up2_ne hb) ?_, D.2.2⟩
  rw [sm_E_arr (t := 1) hs (by decide), up2_row]
  exact e1.trans (congrArg some sm_row)
/-- a reference into an array of references (constructors alone do that) -/
theorem x_aast {a b N t ci : Nat} {i : Int32} {rs qs : List (Option Nat)} {K : vw_C} (hd : decode μ.2.1 pc = .ok (.aastore, 1)) (ha : a < n) (hs : sh a = (t + 1, N, rs)) (ht : 3 ≤ t ∧ t < 6) (hb : b < n) (hsb : sh b = (0, ci, qs)) (hc : vwCl[ci]? = some K) (hty : sm_ty t = .object K.1) (hin : vp_in i N) (hl : rs.length = N) (kk : Xm ζ R μ (pc + 1) lv st cl sl n (va_up sh a (t + 1, N, rs.set i.toNatClampNeg (some b))) I Q) : Xm ζ R μ pc lv (.ref b :: .int i :: .ref a :: st) cl sl n sh I Q := by
  intro Γ p l e s m args below meth c Z H locs ls C D
  have hK := C.2.2.2.2.2.2.1
  have he := D.2.1.2.2 a ha
  rw [sm_E_ref hs ht.1] at he
  have hv := D.2.1.2.2 b hb
  rw [sm_E_obj hsb] at hv
  have hlt : i.toNatClampNeg < N := Nat.not_le.mp fun q => hin (Or.inr q)
  have h0 : ¬ i < 0 := fun q => hin (Or.inl q)
  obtain ⟨r', hr', cellV, g1, g2, g3, -⟩ := hv
  have hcls := (hK.2.1.1 ci K hc).2
  have hRA := (hK.2.1.2 t _ (sm_ty_at ht.2)).2
  dsimp only at hRA
  rw [hty] at hRA
  obtain ⟨kA, comp, k1, k2, k3, -⟩ := hRA
  have hcomp : comp = Γ.2.2.1.1 ci := Option.some.inj (k3.symm.trans hcls.1)
  subst hcomp
  obtain ⟨kC, hkC, -⟩ := hcls.2
  refine W.aast C.1 C.2.1 he (fun q h => by cases h) (fun h => by cases h) k1 k2 rfl hkC ⟨h0, by show _ < (arrV _ _ _).slots.size; rw [arrV_size]; exact hlt⟩ g1 (fun q h => by rw [g3] at h; cases h) (by rw [g2]; exact hkC) (by rw [g2]; exact va_assign hcls) rfl rfl hd fun H1 e1 z oq => ?_
  refine kk Γ p l e s m args below meth c Z H1 _ ls C ⟨D.1.put z oq (sm_base hK.1 D.2.1 ha), D.2.1.put hK.1 ha z oq (fun b hb => by simp [va_up, hb]) (fun b hb => rfl) ?_, D.2.2⟩
  rw [show va_up sh a (t + 1, N, rs.set i.toNatClampNeg (some b)) a = (t + 1, N, rs.set i.toNatClampNeg (some b)) by simp [va_up], sm_E_ref rfl ht.1]
  refine e1.trans (congrArg some ?_)
  show (arrV _ _ _).setSlot _ _ = vp_cell _ _
  rw [vp_cell_q, arrV_store]
  congr 1
  funext q
  by_cases hq : q = i.toNatClampNeg
  · subst hq
    simp [updV, va_rf, List.getD_eq_getElem?_getD, hl, hlt]
  · simp [updV, hq, List.getD_eq_getElem?_getD, List.getElem?_set_ne (Ne.symm hq)]
/-! ===== new cells ===== -/
theorem sm_H.push {Γ : sm_G} {q : sm_S} {f : Nat → Int32} {H H1 : Heap} (h : sm_H Γ n sh I H) (had : ∀ k, k < 1000000 → Γ.2.1 k = Γ.1 + k) (hn : n < 1000000) (hz : H1.size = H.size + 1) (ho : ∀ q, q < H.size → H1[q]? = H[q]?) (he : va_at Γ.2.2.1 vwCl (H.size, sm_E Γ.2.1 Γ.2.2.2.1 q f) H1) : sm_H Γ (n + 1) (va_up sh n q) (va_up I n f) H1 := by
  refine ⟨by rw [hz, h.1]; omega, by omega, fun b hb => ?_⟩
  by_cases hbn : b = n
  · subst hbn
    rw [show va_up sh b q b = q by simp [va_up], show va_up I b f b = f by simp [va_up], had b hn, ← h.1]
    exact he
  · rw [show va_up sh n q b = sh b by simp [va_up, hbn], show va_up I n f b = I b by simp [va_up, hbn]]
    exact (h.2.2 b (by omega)).kept (ho _ ((h.2.2 b (by omega)).lt))
theorem sm_S_push {Γ : sm_G} {s : State} {H H1 : Heap} {locs : List Loc} (hS : va_S (fun q => Γ.1 ≤ q) s.heap H locs) (hz : H1.size = H.size + 1) (ho : ∀ q, q < H.size → H1[q]? = H[q]?) : va_S (fun q => Γ.1 ≤ q) s.heap H1 locs :=
  ⟨Nat.le_trans hS.1 (by omega), fun x h1 h2 => (ho x (Nat.lt_of_lt_of_le h1 hS.1)).trans (hS.2.1 x h1 h2), hS.2.2⟩
theorem sm_new {Γ : sm_G} {H : Heap} (h : sm_H Γ n sh I H) (had : ∀ k, k < 1000000 → Γ.2.1 k = Γ.1 + k) (hn : n < 1000000) : Γ.2.1 n = H.size := by rw [had n hn, h.1]
theorem x_newa {atype : ArrayType} {t N : Nat} {v : Int32} (hd : decode μ.2.1 pc = .ok (.newarray atype, 2)) (ht : t < 3) (hty : newarray.typeOf atype = sm_ty t) (hdf : defaultValue (sm_ty t) = .int 0) (hw : Cond.arrayClass (newarray.typeOf atype) ∈ lw_good) (hv : ¬ v < 0) (hN : v.toNatClampNeg = N) (hby : N * componentBytes (newarray.typeOf atype) ≤ 536870912) (hc : cl + 1 ≤ R.cells) (hsl : sl + N ≤ R.slots) (hn : n < 1000000)
    (kk : Xm ζ R μ (pc + 2) lv (.ref n :: st) (cl + 1) (sl + N) (n + 1) (va_up sh n (t + 1, N, [])) (va_up I n (fun _ => 0)) Q) : Xm ζ R μ pc lv (.int v :: st) cl sl n sh I Q := by
  intro Γ p l e s m args below meth c Z H locs ls C D
  have hK := C.2.2.2.2.2.2.1
  refine va_newaK C.1 C.2.1 (C.2.2.2.2.1 _ hw) rfl hd rfl hv hN hby hc hsl rfl fun H1 cA e1 z1 o1 hAr hNm => ?_
  have hk := kk Γ p l e s m args below meth c Z H1 locs ls C ⟨sm_S_push D.1 z1 o1, D.2.1.push hK.1 hn z1 o1 ?_, D.2.2⟩
  · rw [← sm_new D.2.1 hK.1 hn]
    exact hk
  · rw [sm_E_arr rfl ht]
    have hcA : cA = Γ.2.2.2.1 t := by
      have h1 := (hK.2.1.2 t _ (sm_ty_at (by omega))).2
      rw [hty] at hNm
      match t, ht with
      | 0, _ => exact Option.some.inj (hNm.symm.trans h1)
      | 1, _ => exact Option.some.inj (hNm.symm.trans h1)
      | 2, _ => exact Option.some.inj (hNm.symm.trans h1)
    subst hcA
    rw [hty, hdf] at e1
    exact e1
theorem x_newq {idx t N : Nat} {K : String} {v : Int32} (hd : decode μ.2.1 pc = .ok (.anewarray idx, 3)) (ht : 3 ≤ t ∧ t < 6) (hty : sm_ty t = .object K) (hw : Cond.classLink μ.1.cls idx K ∈ lw_good) (hv : ¬ v < 0) (hN : v.toNatClampNeg = N) (hby : N * 4 ≤ 536870912) (hc : cl + 1 ≤ R.cells) (hsl : sl + N ≤ R.slots) (hn : n < 1000000)
    (kk : Xm ζ R μ (pc + 3) lv (.ref n :: st) (cl + 1) (sl + N) (n + 1) (va_up sh n (t + 1, N, List.replicate N none)) (va_up I n (fun _ => 0)) Q) : Xm ζ R μ pc lv (.int v :: st) cl sl n sh I Q := by
  intro Γ p l e s m args below meth c Z H locs ls C D
  have hK := C.2.2.2.2.2.2.1
  have hAO : va_AO K s := by
    obtain ⟨a1, a2, a3, -, -⟩ := hK.2.2.1
    obtain ⟨h3, h6⟩ := ht
    rcases (show t = 3 ∨ t = 4 ∨ t = 5 by omega) with rfl | rfl | rfl <;> (cases hty; assumption)
  subst hN
  refine W.anew C.1 C.2.1 C.2.2.2.1 (C.2.2.2.2.1 _ hw) (va_AO.use hAO) rfl hd rfl hv hby hc hsl fun cA kA comp f1 f2 f3 f4 => ?_
  generalize hH1 : H.push ({ cls := cA, slots := Array.replicate v.toNatClampNeg .null, vm := .none } : Cell) = H1
  have z1 : H1.size = H.size + 1 := by rw [← hH1, Array.size_push]
  have e1 : H1[H.size]? = some (arrV cA v.toNatClampNeg (fun _ => .null)) := by rw [← hH1, Array.getElem?_push_size, ← arrV_new]
  have o1 : ∀ q : Nat, q < H.size → H1[q]? = H[q]? := fun q hq => by rw [← hH1, Array.getElem?_push, if_neg (Nat.ne_of_lt hq)]
  have hk := kk Γ p l e s m args below meth c Z H1 locs ls C ⟨sm_S_push D.1 z1 o1, D.2.1.push hK.1 hn z1 o1 ?_, D.2.2⟩
  · rw [← sm_new D.2.1 hK.1 hn]
    exact hk
  · rw [sm_E_ref rfl ht.1]
    have hcA : cA = Γ.2.2.2.1 t := by
      have h1 := (hK.2.1.2 t _ (sm_ty_at ht.2)).2
      dsimp only at h1
      rw [hty] at h1
      obtain ⟨kA', comp', -, -, -, h9⟩ := h1
      exact Option.some.inj (f1.symm.trans h9)
    subst hcA
    show H1[H.size]? = some (vp_cell _ _)
    rw [vp_cell_q, e1]
    congr 2
    funext j
    rw [List.getD_eq_getElem?_getD]
    by_cases hj : j < v.toNatClampNeg
    · rw [List.getElem?_replicate, if_pos hj]; rfl
    · rw [List.getElem?_replicate, if_neg hj]; rfl
theorem x_new {idx ci N : Nat} {K : String} {T : u_T} {ty : Nat → FieldType} (hd : decode μ.2.1 pc = .ok (.new idx, 3)) (hcl : sm_Cl ci K T N ty) (hdf : ∀ j, j < N → defaultValue (ty j) = if (sm_ft ci).getD j false = true then .int 0 else .null) (hw : Cond.classLink μ.1.cls idx K ∈ lw_good) (hw2 : Cond.instantiable K N ∈ lw_good) (hw3 : Cond.initialized K ∈ lw_good) (hc : cl + 1 ≤ R.cells) (hsl : sl + N ≤ R.slots) (hn : n < 1000000)
    (kk : Xm ζ R μ (pc + 3) lv (.ref n :: st) (cl + 1) (sl + N) (n + 1) (va_up sh n (0, ci, List.replicate N none)) (va_up I n (fun _ => 0)) Q) : Xm ζ R μ pc lv st cl sl n sh I Q := by
  intro Γ p l e s m args below meth c Z H locs ls C D
  have hK := C.2.2.2.2.2.2.1
  obtain ⟨h1, h2, h3, h4, h5⟩ := hcl
  have hKn := hK.2.1.1 ci _ h1
  refine W.newcK C.1 C.2.1 C.2.2.2.1 (C.2.2.2.2.1 _ hw) (C.2.2.2.2.1 _ hw2) (C.2.2.2.2.1 _ hw3) rfl hd hc hsl hKn.2.1 rfl fun H1 kC hkC e1 z1 o1 => ?_
  have hk := kk Γ p l e s m args below meth c Z H1 locs ls C ⟨sm_S_push D.1 z1 o1, D.2.1.push hK.1 hn z1 o1 ?_, D.2.2⟩
  · rw [← sm_new D.2.1 hK.1 hn]
    exact hk
  · rw [sm_E_obj rfl]
    refine ⟨_, h1, (u_born ty C.2.2.2.2.1 h3 hKn hkC e1 h4).to (fun j hj => ?_)⟩
    rw [hdf j hj]
    have hA := sm_F_at (ad := Γ.2.1) (rs := List.replicate N none) (f := fun _ => 0) (c := ci) (k := j) (by omega)
    show _ = (sm_F Γ.2.1 ci (List.replicate N none) fun _ => 0).getD j Value.null
    rw [List.getD_eq_getElem?_getD (l := sm_F Γ.2.1 ci (List.replicate N none) fun _ => 0), hA]
    by_cases hi : (sm_ft ci).getD j false = true
    · rw [if_pos hi, if_pos hi]; rfl
    · rw [if_neg hi, if_neg hi, List.getD_eq_getElem?_getD, List.getElem?_replicate, if_pos hj]; rfl
theorem x_objInit {idx a : Nat} (hd : decode μ.2.1 pc = .ok (.invokespecial idx, 3)) (hw : Cond.methodLink μ.1.cls idx objectInit ∈ lw_good) (hw2 : Cond.instanceMethod objectInit ∈ lw_good) (hw3 : Cond.code objectInit ⟨#[0xb1]⟩ 1 none ∈ lw_good) (hf : 1 ≤ R.frames) (hlo : (st.map fun v => v.category).sum + 12 ≤ R.locals) (kk : Xm ζ R μ (pc + 3) lv st cl sl n sh I Q) : Xm ζ R μ pc lv (.ref a :: st) cl sl n sh I Q := by
  intro Γ p l e s m args below meth c Z H locs ls C D
  have hcat : ((st.map (sm_V Γ.2.1)).map fun v => v.category) = st.map fun v => v.category := by
    rw [List.map_map]
    exact List.map_congr_left fun v _ => sm_V_cat _ v
  refine W.objInit C.1 C.2.1 C.2.2.2.1 (C.2.2.2.2.1 _ hw) (C.2.2.2.2.1 _ hw2) (C.2.2.2.2.1 _ hw3) rfl (by rw [C.2.2.1]; exact D.2.2.1) rfl hd hf ?_ (kk Γ p l e s m args below meth c Z H locs ls C D)
  rw [hcat]
  show 2 * 0 + _ + 12 ≤ _
  omega
/-! ===== calls ===== -/
theorem sm_call {Γ : sm_G} {p : Program} {l : Launch} {e : Env} {s : State} {m : MethodId} {args : Array Value} {below : List Frame} {meth : Method} {c : Code} {Z : State → Prop} {H : Heap} {locs : List Loc} {ls : Array Slot} {mc ms : Nat} {st0 rest : List Value} {a : Array Value} {Q' : sm_Qt}
    (hr : va_Run p l e R s m args below meth c H locs cl sl mc ms (F0 m pc ls st0) rest (sm_Qc Γ Q' a) (fun q => Γ.1 ≤ q)) (hS : va_S (fun q => Γ.1 ≤ q) s.heap H locs)
    (kk : ∀ (r : Option Value) (n' : Nat) (sh' : Nat → sm_S) (I' : sm_I) (H1 : Heap) (locs1 : List Loc), Q' r n' sh' I' → sm_H Γ n' sh' I' H1 → va_S (fun q => Γ.1 ≤ q) s.heap H1 locs1 → W p l e R s m args below meth c H1 locs1 (cl + mc) (sl + ms) Z (F0 m (pc + 3) ls ((r.map (sm_V Γ.2.1)).toList ++ rest))) : W p l e R s m args below meth c H locs cl sl Z (F0 m pc ls st0) := by
  intro T hT X
  obtain ⟨v, st₀, t, T', L, h0, X', hL, e1, e2, ⟨⟨r, n', sh', I', hv, hq, hH⟩, hz, hk⟩, st⟩ := hr T hT X
  rw [h0] at hz hk
  have hv' : v = r.map (sm_V Γ.2.1) := Outcome.returned.inj hv
  subst hv'
  obtain ⟨t2, a1, b1⟩ := kk r n' sh' I' T'.heap (locs ++ L) hq (by rw [e1]; exact hH)
    ⟨Nat.le_trans hS.1 (by rw [e1]; exact hz), fun q h1 h2 => by rw [e1, hk q (Nat.lt_of_lt_of_le h1 hS.1) h2]; exact hS.2.1 q h1 h2, fun q hq => by
      rcases List.mem_append.mp hq with h | h
      · exact hS.2.2 q h
      · exact hL q h⟩ T' rfl X'
  exact ⟨t2, st t2 a1, b1⟩
/-- a method that can be called: its words -/
def sm_Me (μ' : sm_Mu) (k : Nat) : Prop := Cond.code μ'.1 μ'.2.1 μ'.2.2.1 μ'.2.2.2 ∈ lw_good ∧ Cond.initialized μ'.1.cls ∈ lw_good ∧ (μ'.1.cls ≠ "java/lang/invoke/MethodHandle" ∧ μ'.1.cls ≠ "java/lang/invoke/VarHandle") ∧ (parseMethodDescriptor μ'.1.desc).map (fun d => d.parameters.length) = some k
theorem sm_good_pay {args : Array Value} {s : State} (hts : ∀ w ∈ lw_good, w.before args s = true) {μ' : sm_Mu} (h : Cond.code μ'.1 μ'.2.1 μ'.2.2.1 μ'.2.2.2 ∈ lw_good) : ∀ w ∈ sm_ws μ', ∀ (a' : Array Value) (U : State), s.WarmedH U.vm → w.before a' U = true := by
  refine pay_in hts (fun w hw => ?_)
  rcases List.mem_cons.mp hw with rfl | hw
  · exact ⟨h, good_of_word (lw_good_good h)⟩
  · exact ⟨hw, good_of_word (lw_good_good hw)⟩
theorem sm_CB {s : State} {args : Array Value} {own : String} {idx d mc ms k : Nat} {μ' : sm_Mu} (hts : ∀ w ∈ lw_good, w.before args s = true) (hm : sm_Me μ' k) (hl : Cond.methodLink own idx μ'.1 ∈ lw_good) (hroom : d + 1 ≤ R.frames ∧ 8 + (μ'.2.2.1 + 11) + 40 * d ≤ R.locals) : CallB R s args own idx μ'.1 μ'.2.1 μ'.2.2.1 μ'.2.2.2 (sm_ws μ') (sm_rm d mc ms) mc ms k := by
  obtain ⟨h1, h2, h3, h4⟩ := hm
  refine ⟨rfl, rfl, hroom.1, hroom.2, sm_good_pay hts h1, List.mem_cons_self, hts _ h1, hts _ h2, h3, fun sig h => ?_, hts _ hl⟩
  rw [h] at h4
  exact (Option.some.inj h4).symm
theorem sm_catsum (ad : Nat → Nat) (st : List Value) : ((st.map (sm_V ad)).map fun v => v.category) = st.map fun v => v.category := by
  rw [List.map_map]
  exact List.map_congr_left fun v _ => sm_V_cat _ v
theorem x_callV {idx d mc ms a ci : Nat} {μ' : sm_Mu} {as stk : List Value} {Q' : sm_Qt} {rs : List (Option Nat)} {K : vw_C} (hd : decode μ.2.1 pc = .ok (.invokevirtual idx, 3)) (hE : Em d mc ms μ' (.ref a :: as) n sh I Q') (hstk : stk = as.reverse ++ .ref a :: st) (hm : sm_Me μ' as.length) (hin : Cond.instanceMethod μ'.1 ∈ lw_good) (hsel : Cond.selects μ'.1.cls μ'.1 μ'.1 ∈ lw_good) (hl : Cond.methodLink μ.1.cls idx μ'.1 ∈ lw_good) (ha : a < n) (hs : sh a = (0, ci, rs)) (hc : vwCl[ci]? = some K) (hK : K.1 = μ'.1.cls)
    (hroom : d + 1 ≤ R.frames ∧ 8 + (μ'.2.2.1 + 11) + 40 * d ≤ R.locals) (hcs : cl + mc ≤ R.cells ∧ sl + ms ≤ R.slots) (hst : (st.map fun v => v.category).sum ≤ 8)
    (kk : ∀ r n' sh' I', Q' r n' sh' I' → Xm ζ R μ (pc + 3) lv (r.toList ++ st) (cl + mc) (sl + ms) n' sh' I' Q) : Xm ζ R μ pc lv stk cl sl n sh I Q := by
  intro Γ p l e s m args below meth c Z H locs ls C D
  subst hstk
  have hKs := C.2.2.2.2.2.2.1
  have hts := C.2.2.2.2.1
  have he := D.2.1.2.2 a ha
  rw [sm_E_obj hs] at he
  obtain ⟨r', g1, cell, q1, q2, q3, -⟩ := he
  refine sm_call (rest := st.map (sm_V Γ.2.1)) (va_runV (As := as.map (sm_V Γ.2.1)) (rest := st.map (sm_V Γ.2.1)) (b := Γ.2.1 a) (C := μ'.1.cls) ⟨C.1, C.2.1, C.2.2.1, C.2.2.2.1, hts⟩ (hE ζ l Γ) ⟨sm_CB hts hm hl hroom, hts _ hin, hts _ hsel⟩ ⟨sm_Pc.blind, ⟨cell, q1, by rw [q3]; rfl, ?_⟩, fun U hU hW => ⟨rfl, by rw [hU]; exact D.2.1, hKs.pass hW (by rw [hU]; exact D.1)⟩⟩ rfl (List.length_map ..) D.2.2.1 ?_ ?_ hd hcs) D.1 (fun r n' sh' I' H1 locs1 hq hH1 hS1 => ?_)
  · rw [q2, ← hK]
    exact (hKs.2.1.1 ci K hc).2.1
  · simp [sm_V]
  · show 2 * 0 + _ ≤ 8
    rw [sm_catsum]; omega
  · have h := kk r n' sh' I' hq Γ p l e s m args below meth c Z H1 locs1 ls C ⟨hS1, hH1, D.2.2⟩
    cases r <;> exact h
theorem x_callS {idx d mc ms : Nat} {μ' : sm_Mu} {as stk : List Value} {Q' : sm_Qt} (hd : decode μ.2.1 pc = .ok (.invokestatic idx, 3)) (hE : Em d mc ms μ' as n sh I Q') (hstk : stk = as.reverse ++ st) (hm : sm_Me μ' as.length) (hstt : Cond.static μ'.1 ∈ lw_good) (hl : Cond.methodLink μ.1.cls idx μ'.1 ∈ lw_good)
    (hroom : d + 1 ≤ R.frames ∧ 8 + (μ'.2.2.1 + 11) + 40 * d ≤ R.locals) (hcs : cl + mc ≤ R.cells ∧ sl + ms ≤ R.slots) (hst : (st.map fun v => v.category).sum ≤ 8)
    (kk : ∀ r n' sh' I', Q' r n' sh' I' → Xm ζ R μ (pc + 3) lv (r.toList ++ st) (cl + mc) (sl + ms) n' sh' I' Q) : Xm ζ R μ pc lv stk cl sl n sh I Q := by
  intro Γ p l e s m args below meth c Z H locs ls C D
  subst hstk
  have hKs := C.2.2.2.2.2.2.1
  have hts := C.2.2.2.2.1
  refine sm_call (rest := st.map (sm_V Γ.2.1)) (va_runS (As := as.map (sm_V Γ.2.1)) (rest := st.map (sm_V Γ.2.1)) ⟨C.1, C.2.1, C.2.2.1, C.2.2.2.1, hts⟩ (hE ζ l Γ) ⟨sm_CB hts hm hl hroom, hts _ hstt⟩ ⟨sm_Pc.blind, fun U hU hW => ⟨rfl, by rw [hU]; exact D.2.1, hKs.pass hW (by rw [hU]; exact D.1)⟩⟩ rfl (List.length_map ..) D.2.2.1 ?_ ?_ hd hcs) D.1 (fun r n' sh' I' H1 locs1 hq hH1 hS1 => ?_)
  · simp [sm_V]
  · show 2 * 0 + _ ≤ 8
    rw [sm_catsum]; omega
  · have h := kk r n' sh' I' hq Γ p l e s m args below meth c Z H1 locs1 ls C ⟨hS1, hH1, D.2.2⟩
    cases r <;> exact h
theorem x_callI {idx d mc ms a : Nat} {μ' : sm_Mu} {as stk : List Value} {Q' : sm_Qt} (hd : decode μ.2.1 pc = .ok (.invokespecial idx, 3)) (hE : Em d mc ms μ' (.ref a :: as) n sh I Q') (hstk : stk = as.reverse ++ .ref a :: st) (hret : μ'.2.2.2 = none) (hnm : μ'.1.name = "<init>") (hm : sm_Me μ' as.length) (hin : Cond.instanceMethod μ'.1 ∈ lw_good) (hl : Cond.methodLink μ.1.cls idx μ'.1 ∈ lw_good)
    (hroom : d + 1 ≤ R.frames ∧ 8 + (μ'.2.2.1 + 11) + 40 * d ≤ R.locals) (hcs : cl + mc ≤ R.cells ∧ sl + ms ≤ R.slots) (hst : (st.map fun v => v.category).sum ≤ 8)
    (kk : ∀ r n' sh' I', Q' r n' sh' I' → Xm ζ R μ (pc + 3) lv (r.toList ++ st) (cl + mc) (sl + ms) n' sh' I' Q) : Xm ζ R μ pc lv stk cl sl n sh I Q := by
  intro Γ p l e s m args below meth c Z H locs ls C D
  subst hstk
  have hKs := C.2.2.2.2.2.2.1
  have hts := C.2.2.2.2.1
  have hCB := sm_CB (R := R) (mc := mc) (ms := ms) hts hm hl hroom
  rw [hret] at hCB
  refine sm_call (rest := st.map (sm_V Γ.2.1)) (va_runI (As := as.map (sm_V Γ.2.1)) (rest := st.map (sm_V Γ.2.1)) (b := Γ.2.1 a) ⟨C.1, C.2.1, C.2.2.1, C.2.2.2.1, hts⟩ (hE ζ l Γ) ⟨hCB, hnm, hts _ hin⟩ ⟨sm_Pc.blind, fun U hU hW => ⟨rfl, by rw [hU]; exact D.2.1, hKs.pass hW (by rw [hU]; exact D.1)⟩⟩ rfl (List.length_map ..) D.2.2.1 ?_ ?_ hd hcs) D.1 (fun r n' sh' I' H1 locs1 hq hH1 hS1 => ?_)
  · simp [sm_V]
  · show 2 * 0 + _ ≤ 8
    rw [sm_catsum]; omega
  · have h := kk r n' sh' I' hq Γ p l e s m args below meth c Z H1 locs1 ls C ⟨hS1, hH1, D.2.2⟩
    cases r <;> exact h
/-- a nest mate's private constructor -/
theorem x_callIN {idx d mc ms a : Nat} {host : String} {μ' : sm_Mu} {as stk : List Value} {Q' : sm_Qt} (hd : decode μ.2.1 pc = .ok (.invokespecial idx, 3)) (hE : Em d mc ms μ' (.ref a :: as) n sh I Q') (hstk : stk = as.reverse ++ .ref a :: st) (hret : μ'.2.2.2 = none) (hnm : μ'.1.name = "<init>") (hm : sm_Me μ' as.length) (hin : Cond.instanceMethod μ'.1 ∈ lw_good) (hl : ∀ U : State, sm_N U → va_Nw (.methodLinkNest μ.1.cls idx μ'.1 host) U)
    (hroom : d + 1 ≤ R.frames ∧ 8 + (μ'.2.2.1 + 11) + 40 * d ≤ R.locals) (hcs : cl + mc ≤ R.cells ∧ sl + ms ≤ R.slots) (hst : (st.map fun v => v.category).sum ≤ 8)
    (kk : ∀ r n' sh' I', Q' r n' sh' I' → Xm ζ R μ (pc + 3) lv (r.toList ++ st) (cl + mc) (sl + ms) n' sh' I' Q) : Xm ζ R μ pc lv stk cl sl n sh I Q := by
  intro Γ p l e s m args below meth c Z H locs ls C D
  subst hstk
  have hKs := C.2.2.2.2.2.2.1
  have hts := C.2.2.2.2.1
  have hCN : va_CN R s args μ.1.cls idx μ'.1 host μ'.2.1 μ'.2.2.1 none (sm_ws μ') (sm_rm d mc ms) mc ms as.length := by
    obtain ⟨h1, h2, h3, h4⟩ := hm
    rw [← hret]
    refine ⟨⟨rfl, rfl, hroom.1, hroom.2, sm_good_pay hts h1, List.mem_cons_self⟩, hts _ h1, hts _ h2, h3, fun sig h => ?_, va_Nw.use rfl (hl s hKs.2.2.1)⟩
    rw [h] at h4
    exact (Option.some.inj h4).symm
  refine sm_call (rest := st.map (sm_V Γ.2.1)) (va_runIN (As := as.map (sm_V Γ.2.1)) (rest := st.map (sm_V Γ.2.1)) (b := Γ.2.1 a) ⟨C.1, C.2.1, C.2.2.1, C.2.2.2.1, hts⟩ (hE ζ l Γ) ⟨hCN, hnm, hts _ hin⟩ ⟨sm_Pc.blind, fun U hU hW => ⟨rfl, by rw [hU]; exact D.2.1, hKs.pass hW (by rw [hU]; exact D.1)⟩⟩ rfl (List.length_map ..) D.2.2.1 ?_ ?_ hd hcs) D.1 (fun r n' sh' I' H1 locs1 hq hH1 hS1 => ?_)
  · simp [sm_V]
  · show 2 * 0 + _ ≤ 8
    rw [sm_catsum]; omega
  · have h := kk r n' sh' I' hq Γ p l e s m args below meth c Z H1 locs1 ls C ⟨hS1, hH1, D.2.2⟩
    cases r <;> exact h
/-! ===== the law's script ===== -/
theorem x_sld {i : Int32} (hd : decode μ.2.1 pc = .ok (.iaload, 1)) (hin : vp_in i ζ.1) (kk : Xm ζ R μ (pc + 1) lv (.int (ζ.2 i.toNatClampNeg) :: st) cl sl n sh I Q) : Xm ζ R μ pc lv (.int i :: .ref 1000000 :: st) cl sl n sh I Q := by
  intro Γ p l e s m args below meth c Z H locs ls C D
  obtain ⟨-, -, -, ⟨-, -, -, -, -, h6, h7⟩, h5⟩ := C.2.2.2.2.2.2.1
  exact va_sld C.1 C.2.1 h6 (Nat.lt_of_lt_of_le h7 h5) (Nat.not_le.mpr h7) D.1 hin hd (kk Γ p l e s m args below meth c Z H locs ls C D)
theorem x_slen (hd : decode μ.2.1 pc = .ok (.arraylength, 1)) (kk : Xm ζ R μ (pc + 1) lv (.int (Int32.ofNat ζ.1) :: st) cl sl n sh I Q) : Xm ζ R μ pc lv (.ref 1000000 :: st) cl sl n sh I Q := by
  intro Γ p l e s m args below meth c Z H locs ls C D
  obtain ⟨-, -, -, ⟨-, -, -, -, -, h6, h7⟩, h5⟩ := C.2.2.2.2.2.2.1
  exact va_slen C.1 C.2.1 h6 (Nat.lt_of_lt_of_le h7 h5) (Nat.not_le.mpr h7) D.1 hd (kk Γ p l e s m args below meth c Z H locs ls C D)
/-- a weaker end -/
theorem Xm.mono {Q' : sm_Qt} (h : ∀ r n sh I, Q' r n sh I → Q r n sh I) (k : Xm ζ R μ pc lv st cl sl n sh I Q') : Xm ζ R μ pc lv st cl sl n sh I Q := by
  intro Γ p l e s m args below meth c Z H locs ls C D
  obtain ⟨c1, c2, c3, c4, c5, c6, c7, c8⟩ := C
  exact k Γ p l e s m args below meth c Z H locs ls ⟨c1, c2, c3, c4, c5, c6, c7, fun r n sh I H locs cl sl pc ls z1 z2 z3 => c8 r n sh I H locs cl sl pc ls z1 z2 (h r n sh I z3)⟩ D
end SMX
/-! ===== a contract out of a walk ===== -/
theorem sm_L_entry {ad : Nat → Nat} {as : List Value} {nL : Nat} (hcat : ∀ v ∈ as, v.category = 1) (hlen : as.length ≤ nL) : sm_L ad ((((as.map (sm_V ad)).map Slot.val) ++ List.replicate (nL - (as.map (sm_V ad)).length) Slot.unset).toArray) nL (as.map some ++ List.replicate (nL - as.length) none) := by
  have hget : ∀ (i : Nat) (z : Slot), ((((as.map (sm_V ad)).map Slot.val) ++ List.replicate (nL - (as.map (sm_V ad)).length) Slot.unset).toArray)[i]? = some z → z = .unset ∨ ∃ v, as[i]? = some v ∧ z = .val (sm_V ad v) := by
    intro i z h
    rw [List.getElem?_toArray] at h
    by_cases hi : i < as.length
    · rw [List.getElem?_append_left (by simp [hi]), List.getElem?_map, List.getElem?_map] at h
      cases hv : as[i]? with
      | none => rw [hv] at h; cases h
      | some v => rw [hv] at h; cases h; exact Or.inr ⟨v, rfl, rfl⟩
    · rw [List.getElem?_append_right (by simp; omega), List.getElem?_replicate] at h
      split at h
      · cases h; exact Or.inl rfl
      · cases h
  refine ⟨by simp; omega, ⟨fun i v h h2 => ?_, fun i h => ?_⟩, fun i v h => ?_⟩
  · rcases hget i _ h with h3 | ⟨w, h3, h4⟩
    · cases h3
    · cases h4
      rw [sm_V_cat, hcat w (List.mem_of_getElem? h3)] at h2
      cases h2
  · rcases hget i _ h with h3 | ⟨w, h3, h4⟩
    · cases h3
    · cases h4
  · by_cases hi : i < as.length
    · rw [List.getElem?_append_left (by simp [hi]), List.getElem?_map] at h
      cases hv : as[i]? with
      | none => rw [hv] at h; cases h
      | some w =>
        rw [hv] at h
        cases h
        refine ⟨hcat _ (List.mem_of_getElem? hv), ?_⟩
        rw [List.getElem?_toArray, List.getElem?_append_left (by simp [hi]), List.getElem?_map, List.getElem?_map, hv]
        rfl
    · rw [List.getElem?_append_right (by simp; omega), List.getElem?_replicate] at h
      split at h <;> cases h
theorem Em.of {d mc ms : Nat} {μ : sm_Mu} {as : List Value} {n : Nat} {sh : Nat → sm_S} {I : sm_I} {Q : sm_Qt} (hy : plainName μ.1.cls = true) (hcat : ∀ v ∈ as, v.category = 1) (hlen : as.length ≤ μ.2.2.1) (hb : ∀ ζ, Xm ζ (sm_rm d mc ms) μ 0 (as.map some ++ List.replicate (μ.2.2.1 - as.length) none) [] 0 0 n sh I Q) : Em d mc ms μ as n sh I Q := by
  intro ζ l Γ
  refine Met.ofW (cc := μ.2.1) (maxL := μ.2.2.1) (ret := μ.2.2.2) hy rfl ?_
  intro p e s m args below meth c s₁ B hml hv
  obtain ⟨rfl, hH, hK⟩ := hv
  have hts := atoms_spec (ws := sm_ws μ) B.pre
  have hown : s.vm.findClass μ.1.cls = some m.cls := findClass_of_methodNamed B.named
  have hr := B.returns
  have hlocks := B.notSynchronized
  rw [entry_eq m (as.map (sm_V Γ.2.1)) (fun v hv => by obtain ⟨w, h1, rfl⟩ := List.mem_map.mp hv; rw [sm_V_cat]; exact hcat w h1) μ.2.2.1]
  refine hb ζ Γ p l e s m _ below meth c _ s.heap [] _ ⟨B.exec, B.bytes, hml, hown, fun w hw => hts w (List.mem_cons_of_mem _ hw), (name_of_methodNamed B.named B.method).1, hK, ?_⟩ ⟨va_S.rf, hH, sm_L_entry hcat hlen⟩
  intro r n' sh' I' H locs cl sl pc ls hc hs hq hH' hS hR
  refine W.widen (k := mc) (n := ms) hc hs ?_
  cases r with
  | none => exact W.vret B.exec B.bytes (hr.trans hR.1) (fun t ht hW => ⟨⟨none, n', sh', I', rfl, hq, by rw [ht]; exact hH'⟩, hS.F ht⟩) hS.2.2 hR.2 hlocks
  | some v =>
    cases v with
    | int x =>
      obtain ⟨⟨ty, h1, h2⟩, h3⟩ := hR
      exact W.zret B.exec B.bytes (hr.trans h1) h2 (fun t ht hW => ⟨⟨some (.int x), n', sh', I', rfl, hq, by rw [ht]; exact hH'⟩, hS.F ht⟩) hS.2.2 h3 hlocks
    | float x => exact W.fret B.exec B.bytes (hr.trans hR.1) (fun t ht hW => ⟨⟨some (.float x), n', sh', I', rfl, hq, by rw [ht]; exact hH'⟩, hS.F ht⟩) hS.2.2 hR.2 hlocks
    | ref x =>
      obtain ⟨⟨t, h1⟩, h3⟩ := hR
      exact W.aret B.exec B.bytes (hr.trans h1) (Or.inl ⟨t, rfl⟩) (Or.inr ⟨_, rfl⟩) (fun t ht hW => ⟨⟨some (.ref x), n', sh', I', rfl, hq, by rw [ht]; exact hH'⟩, hS.F ht⟩) hS.2.2 h3 hlocks
    | _ => exact hR.elim
